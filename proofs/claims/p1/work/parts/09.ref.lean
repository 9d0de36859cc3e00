set_option maxHeartbeats 4000000 in
set_option maxRecDepth 100000 in
theorem m_isIn {l : Launch} {G : GT} {L : List Nat} {E : Nat → va_E} (x lo hi : Int32)    : Mq l G yX12_isIn cX12_isIn 3 (some .boolean) 0 [.int x, .int lo, .int hi] L E 0 0 (fun v L2 E2 => v = some (.int (inn x lo hi)) ∧ L2 = L ∧ E2 = E) := by
  refine Mq.mk (by decide) (Nat.le_of_ble_eq_true rfl) ?_
  intro p e s m args below meth c A C
  refine q_iload_n (j := 0) C dX12_isIn_0 rfl ?_
  refine q_iload_n (j := 1) C dX12_isIn_1 rfl ?_
  refine q_icmp_lt (tgt := 14) C dX12_isIn_2 (by decide) (fun c1 => ?_) (fun c1 => ?_)
  · refine q_iconst (v := 0) C dX12_isIn_14 (by decide) ?_
    exact q_zret C dX12_isIn_15 rfl (by decide) (Nat.le_of_ble_eq_true rfl) (Nat.le_of_ble_eq_true rfl) ⟨(by refine congrArg (fun z => some (Value.int z)) ?_; unfold inn; (try simp only [inn_f, Decidable.not_not] at c1); (try simp only [i32_lt, i32_le, i32_eq, inn_f, Decidable.not_not, tn_m1, tn_0, tn_1, tn_2, tn_3, tn_4, tn_5, tn_6, tn_7, tn_8, tn_10, tn_30, tn_31, tn_32, tn_36, tn_40, tn_50, tn_100, tn_126, tn_200, tn_255, tn_500, tn_512, tn_3000, tn_5000] at c1); split <;> rename_i hz <;> (try simp only [i32_lt, i32_le, i32_eq, inn_f, Decidable.not_not, tn_m1, tn_0, tn_1, tn_2, tn_3, tn_4, tn_5, tn_6, tn_7, tn_8, tn_10, tn_30, tn_31, tn_32, tn_36, tn_40, tn_50, tn_100, tn_126, tn_200, tn_255, tn_500, tn_512, tn_3000, tn_5000] at hz) <;> first | rfl | (exfalso; omega)), rfl, rfl⟩
  · refine q_iload_n (j := 0) C dX12_isIn_5 rfl ?_
    refine q_iload_n (j := 2) C dX12_isIn_6 rfl ?_
    refine q_icmp_gt (tgt := 14) C dX12_isIn_7 (by decide) (fun c2 => ?_) (fun c2 => ?_)
    · refine q_iconst (v := 0) C dX12_isIn_14 (by decide) ?_
      exact q_zret C dX12_isIn_15 rfl (by decide) (Nat.le_of_ble_eq_true rfl) (Nat.le_of_ble_eq_true rfl) ⟨(by refine congrArg (fun z => some (Value.int z)) ?_; unfold inn; (try simp only [inn_f, Decidable.not_not] at c1); (try simp only [i32_lt, i32_le, i32_eq, inn_f, Decidable.not_not, tn_m1, tn_0, tn_1, tn_2, tn_3, tn_4, tn_5, tn_6, tn_7, tn_8, tn_10, tn_30, tn_31, tn_32, tn_36, tn_40, tn_50, tn_100, tn_126, tn_200, tn_255, tn_500, tn_512, tn_3000, tn_5000] at c1); (try simp only [inn_f, Decidable.not_not] at c2); (try simp only [i32_lt, i32_le, i32_eq, inn_f, Decidable.not_not, tn_m1, tn_0, tn_1, tn_2, tn_3, tn_4, tn_5, tn_6, tn_7, tn_8, tn_10, tn_30, tn_31, tn_32, tn_36, tn_40, tn_50, tn_100, tn_126, tn_200, tn_255, tn_500, tn_512, tn_3000, tn_5000] at c2); split <;> rename_i hz <;> (try simp only [i32_lt, i32_le, i32_eq, inn_f, Decidable.not_not, tn_m1, tn_0, tn_1, tn_2, tn_3, tn_4, tn_5, tn_6, tn_7, tn_8, tn_10, tn_30, tn_31, tn_32, tn_36, tn_40, tn_50, tn_100, tn_126, tn_200, tn_255, tn_500, tn_512, tn_3000, tn_5000] at hz) <;> first | rfl | (exfalso; omega)), rfl, rfl⟩
    · refine q_iconst (v := 1) C dX12_isIn_10 (by decide) ?_
      refine q_goto (tgt := 15) C dX12_isIn_11 (by decide) ?_
      exact q_zret C dX12_isIn_15 rfl (by decide) (Nat.le_of_ble_eq_true rfl) (Nat.le_of_ble_eq_true rfl) ⟨(by refine congrArg (fun z => some (Value.int z)) ?_; unfold inn; (try simp only [inn_f, Decidable.not_not] at c1); (try simp only [i32_lt, i32_le, i32_eq, inn_f, Decidable.not_not, tn_m1, tn_0, tn_1, tn_2, tn_3, tn_4, tn_5, tn_6, tn_7, tn_8, tn_10, tn_30, tn_31, tn_32, tn_36, tn_40, tn_50, tn_100, tn_126, tn_200, tn_255, tn_500, tn_512, tn_3000, tn_5000] at c1); (try simp only [inn_f, Decidable.not_not] at c2); (try simp only [i32_lt, i32_le, i32_eq, inn_f, Decidable.not_not, tn_m1, tn_0, tn_1, tn_2, tn_3, tn_4, tn_5, tn_6, tn_7, tn_8, tn_10, tn_30, tn_31, tn_32, tn_36, tn_40, tn_50, tn_100, tn_126, tn_200, tn_255, tn_500, tn_512, tn_3000, tn_5000] at c2); split <;> rename_i hz <;> (try simp only [i32_lt, i32_le, i32_eq, inn_f, Decidable.not_not, tn_m1, tn_0, tn_1, tn_2, tn_3, tn_4, tn_5, tn_6, tn_7, tn_8, tn_10, tn_30, tn_31, tn_32, tn_36, tn_40, tn_50, tn_100, tn_126, tn_200, tn_255, tn_500, tn_512, tn_3000, tn_5000] at hz) <;> first | rfl | (exfalso; omega)), rfl, rfl⟩
theorem inn0 (x : Int32) : inn x 0 (-1) = 0 := by
  rw [inn_f]; simp only [i32_lt, i32_le, i32_eq, inn_f, Decidable.not_not, tn_m1, tn_0, tn_1, tn_2, tn_3, tn_4, tn_5, tn_6, tn_7, tn_8, tn_10, tn_30, tn_31, tn_32, tn_36, tn_40, tn_50, tn_100, tn_126, tn_200, tn_255, tn_500, tn_512, tn_3000, tn_5000]; omega
set_option maxHeartbeats 4000000 in
set_option maxRecDepth 100000 in
theorem m_isTable {l : Launch} {G : GT} {L : List Nat} {E : Nat → va_E} (t : Int32)  {h0 : Nat} {f : Nat → Value} (hL : h0 ∈ L) (hE : E h0 = ob 13 67 f) (f4 : f 4 = .int 0) : Mq l G yX12_isTable cX12_isTable 2 (some .boolean) 0 [.ref h0, .int t] L E 0 0 (fun v L2 E2 => v = some (.int 0) ∧ L2 = L ∧ E2 = E) := by
  refine Mq.mk (by decide) (Nat.le_of_ble_eq_true rfl) ?_
  intro p e s m args below meth c A C
  refine q_iload_n (j := 1) C dX12_isTable_0 rfl ?_
  refine q_if_lt (tgt := 25) C dX12_isTable_1 (by decide) (fun c1 => ?_) (fun c1 => ?_)
  · refine q_iconst (v := 0) C dX12_isTable_25 (by decide) ?_
    exact q_zret C dX12_isTable_26 rfl (by decide) (Nat.le_of_ble_eq_true rfl) (Nat.le_of_ble_eq_true rfl) ⟨rfl, rfl, rfl⟩
  · refine q_iload_n (j := 1) C dX12_isTable_4 rfl ?_
    refine q_aload_n (j := 0) C dX12_isTable_5 rfl ?_
    refine q_get (k := 4) (v := .int 0) C ck_13 dX12_isTable_6 w6_63 (by decide) hL hE f4 ?_
    refine q_icmp_ge (tgt := 25) C dX12_isTable_9 (by decide) (fun _ => ?_) (fun z => absurd (by have hz := c1; simp only [i32_lt, i32_le, i32_eq, inn_f, Decidable.not_not, tn_m1, tn_0, tn_1, tn_2, tn_3, tn_4, tn_5, tn_6, tn_7, tn_8, tn_10, tn_30, tn_31, tn_32, tn_36, tn_40, tn_50, tn_100, tn_126, tn_200, tn_255, tn_500, tn_512, tn_3000, tn_5000] at hz ⊢; omega) z)
    refine q_iconst (v := 0) C dX12_isTable_25 (by decide) ?_
    exact q_zret C dX12_isTable_26 rfl (by decide) (Nat.le_of_ble_eq_true rfl) (Nat.le_of_ble_eq_true rfl) ⟨rfl, rfl, rfl⟩
set_option maxHeartbeats 4000000 in
set_option maxRecDepth 100000 in
theorem m_isWhole {l : Launch} {G : GT} {L : List Nat} {E : Nat → va_E} (t : Int32)  {h0 : Nat} {f : Nat → Value} (hL : h0 ∈ L) (hE : E h0 = ob 13 67 f) (f4 : f 4 = .int 0) : Mq l G yX12_isWhole cX12_isWhole 2 (some .boolean) 1 [.ref h0, .int t] L E 0 0 (fun v L2 E2 => v = some (.int 0) ∧ L2 = L ∧ E2 = E) := by
  refine Mq.mk (by decide) (Nat.le_of_ble_eq_true rfl) ?_
  intro p e s m args below meth c A C
  refine q_aload_n (j := 0) C dX12_isWhole_0 rfl ?_
  refine q_iload_n (j := 1) C dX12_isWhole_1 rfl ?_
  refine q_callV (d2 := 0) (mc2 := 0) (ms2 := 0) (As := [.int t]) (rest := []) C (m_isTable (f := f) t hL hE f4) dX12_isWhole_2 kV_X12_167 rfl hL hE ck_13 rfl (Nat.le_of_ble_eq_true rfl) ⟨Nat.le_of_ble_eq_true rfl, Nat.le_of_ble_eq_true rfl⟩ ⟨Nat.le_of_ble_eq_true rfl, Nat.le_of_ble_eq_true rfl⟩ (fun vh1 Lh1 Eh1 h1 => ?_)
  obtain ⟨rfl, rfl, rfl⟩ := h1
  refine q_st (st2 := [.int 0]) rfl ?_
  refine q_if_ne (tgt := 10) C dX12_isWhole_5 (by decide) (fun z => absurd (by decide) z) (fun _ => ?_)
  refine q_iconst (v := 0) C dX12_isWhole_8 (by decide) ?_
  exact q_zret C dX12_isWhole_9 rfl (by decide) (Nat.le_of_ble_eq_true rfl) (Nat.le_of_ble_eq_true rfl) ⟨rfl, rfl, rfl⟩
set_option maxHeartbeats 4000000 in
set_option maxRecDepth 100000 in
theorem m_hasHead {l : Launch} {G : GT} {L : List Nat} {E : Nat → va_E}  {h0 : Nat} {f : Nat → Value} (hL : h0 ∈ L) (hE : E h0 = ob 13 67 f) (f41 : f 41 = .int 0) : Mq l G yX12_hasHead cX12_hasHead 1 (some .boolean) 0 [.ref h0] L E 0 0 (fun v L2 E2 => v = some (.int 0) ∧ L2 = L ∧ E2 = E) := by
  refine Mq.mk (by decide) (Nat.le_of_ble_eq_true rfl) ?_
  intro p e s m args below meth c A C
  refine q_aload_n (j := 0) C dX12_hasHead_0 rfl ?_
  refine q_get (k := 41) (v := .int 0) C ck_13 dX12_hasHead_1 w6_100 (by decide) hL hE f41 ?_
  refine q_if_le (tgt := 19) C dX12_hasHead_4 (by decide) (fun _ => ?_) (fun z => absurd (by decide) z)
  refine q_iconst (v := 0) C dX12_hasHead_19 (by decide) ?_
  exact q_zret C dX12_hasHead_20 rfl (by decide) (Nat.le_of_ble_eq_true rfl) (Nat.le_of_ble_eq_true rfl) ⟨rfl, rfl, rfl⟩
set_option maxHeartbeats 4000000 in
set_option maxRecDepth 100000 in
theorem m_onPage {l : Launch} {G : GT} {L : List Nat} {E : Nat → va_E}  {h0 : Nat} {f : Nat → Value} (hL : h0 ∈ L) (hE : E h0 = ob 13 67 f) (f32 : f 32 = .int 25) (f41 : f 41 = .int 0) : Mq l G yX12_onPage cX12_onPage 1 (some .int) 1 [.ref h0] L E 0 0 (fun v L2 E2 => v = some (.int 25) ∧ L2 = L ∧ E2 = E) := by
  refine Mq.mk (by decide) (Nat.le_of_ble_eq_true rfl) ?_
  intro p e s m args below meth c A C
  refine q_aload_n (j := 0) C dX12_onPage_0 rfl ?_
  refine q_callV (d2 := 0) (mc2 := 0) (ms2 := 0) (As := []) (rest := []) C (m_hasHead (f := f)  hL hE f41) dX12_onPage_1 kV_X12_288 rfl hL hE ck_13 rfl (Nat.le_of_ble_eq_true rfl) ⟨Nat.le_of_ble_eq_true rfl, Nat.le_of_ble_eq_true rfl⟩ ⟨Nat.le_of_ble_eq_true rfl, Nat.le_of_ble_eq_true rfl⟩ (fun vh1 Lh1 Eh1 h1 => ?_)
  obtain ⟨rfl, rfl, rfl⟩ := h1
  refine q_st (st2 := [.int 0]) rfl ?_
  refine q_if_eq (tgt := 16) C dX12_onPage_4 (by decide) (fun _ => ?_) (fun z => absurd (by decide) z)
  refine q_aload_n (j := 0) C dX12_onPage_16 rfl ?_
  refine q_get (k := 32) (v := .int 25) C ck_13 dX12_onPage_17 w6_91 (by decide) hL hE f32 ?_
  exact q_iret C dX12_onPage_20 rfl (Nat.le_of_ble_eq_true rfl) (Nat.le_of_ble_eq_true rfl) ⟨rfl, rfl, rfl⟩
set_option maxHeartbeats 4000000 in
set_option maxRecDepth 100000 in
theorem m_lineFault {l : Launch} {G : GT} {L : List Nat} {E : Nat → va_E} (l0 : Int32)  {h0 : Nat} {f : Nat → Value} (hL : h0 ∈ L) (hE : E h0 = ob 13 67 f) (f36 : f 36 = .int 0) : Mq l G yX12_lineFault cX12_lineFault 2 (some .int) 1 [.ref h0, .int l0] L E 0 0 (fun v L2 E2 => v = some (.int 2) ∧ L2 = L ∧ E2 = E) := by
  refine Mq.mk (by decide) (Nat.le_of_ble_eq_true rfl) ?_
  intro p e s m args below meth c A C
  refine q_iload_n (j := 1) C dX12_lineFault_0 rfl ?_
  refine q_iconst (v := 0) C dX12_lineFault_1 (by decide) ?_
  refine q_aload_n (j := 0) C dX12_lineFault_2 rfl ?_
  refine q_get (k := 36) (v := .int 0) C ck_13 dX12_lineFault_3 w6_95 (by decide) hL hE f36 ?_
  refine q_iconst (v := 1) C dX12_lineFault_6 (by decide) ?_
  refine q_isub (v := (-1)) C dX12_lineFault_7 (by decide) ?_
  refine q_callS (d2 := 0) (mc2 := 0) (ms2 := 0) (As := [.int l0, .int 0, .int (-1)]) (rest := []) C (m_isIn l0 0 (-1)) dX12_lineFault_8 kS_X12_174 rfl rfl (Nat.le_of_ble_eq_true rfl) ⟨Nat.le_of_ble_eq_true rfl, Nat.le_of_ble_eq_true rfl⟩ ⟨Nat.le_of_ble_eq_true rfl, Nat.le_of_ble_eq_true rfl⟩ (fun vh1 Lh1 Eh1 h1 => ?_)
  obtain ⟨rfl, rfl, rfl⟩ := h1
  refine q_st (st2 := [.int (inn l0 0 (-1))]) rfl ?_
  refine q_if_ne (tgt := 18) C dX12_lineFault_11 (by decide) (fun z => absurd (inn0 _) z) (fun _ => ?_)
  refine q_iconst (v := 2) C dX12_lineFault_14 (by decide) ?_
  refine q_goto (tgt := 32) C dX12_lineFault_15 (by decide) ?_
  exact q_iret C dX12_lineFault_32 rfl (Nat.le_of_ble_eq_true rfl) (Nat.le_of_ble_eq_true rfl) ⟨rfl, rfl, rfl⟩
set_option maxHeartbeats 4000000 in
set_option maxRecDepth 100000 in
theorem m_taken {l : Launch} {G : GT} {L : List Nat} {E : Nat → va_E}  {h0 : Nat} {f : Nat → Value} (hL : h0 ∈ L) (hE : E h0 = ob 13 67 f) (f3 : f 3 = .int 0) : Mq l G yX12_taken cX12_taken 2 (some .int) 0 [.ref h0] L E 0 0 (fun v L2 E2 => v = some (.int 0) ∧ L2 = L ∧ E2 = va_up E h0 (ob 13 67 (va_up f 3 (.int 0)))) := by
  refine Mq.mk (by decide) (Nat.le_of_ble_eq_true rfl) ?_
  intro p e s m args below meth c A C
  refine q_aload_n (j := 0) C dX12_taken_0 rfl ?_
  refine q_get (k := 3) (v := .int 0) C ck_13 dX12_taken_1 w6_62 (by decide) hL hE f3 ?_
  refine q_istore_n (lv2 := [(1, .int 0), (0, .ref h0)]) C dX12_taken_4 (by decide) rfl ?_
  refine q_aload_n (j := 1) C dX12_taken_5 rfl ?_
  refine q_iconst (v := 0) C dX12_taken_6 (by decide) ?_
  refine q_put (k := 3) C ck_13 dX12_taken_7 w6_62 (by decide) rfl hL hE rfl rfl ?_
  refine q_iload_n (j := 0) C dX12_taken_10 rfl ?_
  exact q_iret C dX12_taken_11 rfl (Nat.le_of_ble_eq_true rfl) (Nat.le_of_ble_eq_true rfl) ⟨rfl, rfl, rfl⟩
set_option maxHeartbeats 4000000 in
set_option maxRecDepth 100000 in
theorem m_place {l : Launch} {G : GT} {L : List Nat} {E : Nat → va_E}  {h0 : Nat} {f : Nat → Value} (hL : h0 ∈ L) (hE : E h0 = ob 13 67 f) (f1 : f 1 = .int (-1)) : Mq l G yX12_place cX12_place 1 (some .int) 4 [.ref h0] L E 0 0 (fun v L2 E2 => v = some (.int (-1))) := by
  refine Mq.mk (by decide) (Nat.le_of_ble_eq_true rfl) ?_
  intro p e s m args below meth c A C
  refine q_aload_n (j := 0) C dX12_place_0 rfl ?_
  refine q_get (k := 1) (v := .int (-1)) C ck_13 dX12_place_1 w6_60 (by decide) hL hE f1 ?_
  exact q_iret C dX12_place_4 rfl (Nat.le_of_ble_eq_true rfl) (Nat.le_of_ble_eq_true rfl) rfl
set_option maxHeartbeats 4000000 in
set_option maxRecDepth 100000 in
theorem m_status {l : Launch} {G : GT} {L : List Nat} {E : Nat → va_E}  {h0 : Nat} {f : Nat → Value} (hL : h0 ∈ L) (hE : E h0 = ob 13 67 f) (f0 : f 0 = .int 0) : Mq l G yX12_status cX12_status 1 (some .int) 4 [.ref h0] L E 0 0 (fun v L2 E2 => v = some (.int 0)) := by
  refine Mq.mk (by decide) (Nat.le_of_ble_eq_true rfl) ?_
  intro p e s m args below meth c A C
  refine q_aload_n (j := 0) C dX12_status_0 rfl ?_
  refine q_get (k := 0) (v := .int 0) C ck_13 dX12_status_1 w6_59 (by decide) hL hE f0 ?_
  exact q_iret C dX12_status_4 rfl (Nat.le_of_ble_eq_true rfl) (Nat.le_of_ble_eq_true rfl) rfl
set_option maxHeartbeats 4000000 in
set_option maxRecDepth 100000 in
theorem m_closed {l : Launch} {G : GT} {L : List Nat} {E : Nat → va_E}  {h0 : Nat} {f : Nat → Value} (hL : h0 ∈ L) (hE : E h0 = ob 13 67 f) (f43 : f 43 = .int 0) : Mq l G yX12_closed cX12_closed 1 (some .int) 4 [.ref h0] L E 0 0 (fun v L2 E2 => v = some (.int 0)) := by
  refine Mq.mk (by decide) (Nat.le_of_ble_eq_true rfl) ?_
  intro p e s m args below meth c A C
  refine q_aload_n (j := 0) C dX12_closed_0 rfl ?_
  refine q_get (k := 43) (v := .int 0) C ck_13 dX12_closed_1 w6_102 (by decide) hL hE f43 ?_
  exact q_iret C dX12_closed_4 rfl (Nat.le_of_ble_eq_true rfl) (Nat.le_of_ble_eq_true rfl) rfl
set_option maxHeartbeats 4000000 in
set_option maxRecDepth 100000 in
theorem m_copied {l : Launch} {G : GT} {L : List Nat} {E : Nat → va_E}  {h0 : Nat} {f : Nat → Value} (hL : h0 ∈ L) (hE : E h0 = ob 13 67 f) (f42 : f 42 = .int 0) : Mq l G yX12_copied cX12_copied 1 (some .int) 4 [.ref h0] L E 0 0 (fun v L2 E2 => v = some (.int 0)) := by
  refine Mq.mk (by decide) (Nat.le_of_ble_eq_true rfl) ?_
  intro p e s m args below meth c A C
  refine q_aload_n (j := 0) C dX12_copied_0 rfl ?_
  refine q_get (k := 42) (v := .int 0) C ck_13 dX12_copied_1 w6_101 (by decide) hL hE f42 ?_
  exact q_iret C dX12_copied_4 rfl (Nat.le_of_ble_eq_true rfl) (Nat.le_of_ble_eq_true rfl) rfl
set_option maxHeartbeats 4000000 in
set_option maxRecDepth 100000 in
theorem m_lines {l : Launch} {G : GT} {L : List Nat} {E : Nat → va_E}  {h0 : Nat} {f : Nat → Value} (hL : h0 ∈ L) (hE : E h0 = ob 13 67 f) (f36 : f 36 = .int 0) : Mq l G yX12_lines cX12_lines 1 (some .int) 4 [.ref h0] L E 0 0 (fun v L2 E2 => v = some (.int 0)) := by
  refine Mq.mk (by decide) (Nat.le_of_ble_eq_true rfl) ?_
  intro p e s m args below meth c A C
  refine q_aload_n (j := 0) C dX12_lines_0 rfl ?_
  refine q_get (k := 36) (v := .int 0) C ck_13 dX12_lines_1 w6_95 (by decide) hL hE f36 ?_
  exact q_iret C dX12_lines_4 rfl (Nat.le_of_ble_eq_true rfl) (Nat.le_of_ble_eq_true rfl) rfl
set_option maxHeartbeats 4000000 in
set_option maxRecDepth 100000 in
theorem m_more {l : Launch} {G : GT} {L : List Nat} {E : Nat → va_E}  {h0 : Nat} {f : Nat → Value} (hL : h0 ∈ L) (hE : E h0 = ob 13 67 f) (f61 : f 61 = .int 0) : Mq l G yX12_more cX12_more 1 (some .int) 4 [.ref h0] L E 0 0 (fun v L2 E2 => v = some (.int 0)) := by
  refine Mq.mk (by decide) (Nat.le_of_ble_eq_true rfl) ?_
  intro p e s m args below meth c A C
  refine q_aload_n (j := 0) C dX12_more_0 rfl ?_
  refine q_get (k := 61) (v := .int 0) C ck_13 dX12_more_1 w6_120 (by decide) hL hE f61 ?_
  exact q_iret C dX12_more_4 rfl (Nat.le_of_ble_eq_true rfl) (Nat.le_of_ble_eq_true rfl) rfl
set_option maxHeartbeats 4000000 in
set_option maxRecDepth 100000 in
theorem m_pages {l : Launch} {G : GT} {L : List Nat} {E : Nat → va_E}  {h0 : Nat} {f : Nat → Value} (hL : h0 ∈ L) (hE : E h0 = ob 13 67 f) (f32 : f 32 = .int 25) (f36 : f 36 = .int 0) (f41 : f 41 = .int 0) : Mq l G yX12_pages cX12_pages 1 (some .int) 3 [.ref h0] L E 0 0 (fun v L2 E2 => v = some (.int 0) ∧ L2 = L ∧ E2 = E) := by
  refine Mq.mk (by decide) (Nat.le_of_ble_eq_true rfl) ?_
  intro p e s m args below meth c A C
  refine q_aload_n (j := 0) C dX12_pages_0 rfl ?_
  refine q_get (k := 36) (v := .int 0) C ck_13 dX12_pages_1 w6_95 (by decide) hL hE f36 ?_
  refine q_aload_n (j := 0) C dX12_pages_4 rfl ?_
  refine q_callV (d2 := 1) (mc2 := 0) (ms2 := 0) (As := []) (rest := [.int 0]) C (m_onPage (f := f)  hL hE f32 f41) dX12_pages_5 kV_X12_291 rfl hL hE ck_13 rfl (Nat.le_of_ble_eq_true rfl) ⟨Nat.le_of_ble_eq_true rfl, Nat.le_of_ble_eq_true rfl⟩ ⟨Nat.le_of_ble_eq_true rfl, Nat.le_of_ble_eq_true rfl⟩ (fun vh1 Lh1 Eh1 h1 => ?_)
  obtain ⟨rfl, rfl, rfl⟩ := h1
  refine q_st (st2 := [.int 25, .int 0]) rfl ?_
  refine q_iadd (v := 25) C dX12_pages_8 (by decide) ?_
  refine q_iconst (v := 1) C dX12_pages_9 (by decide) ?_
  refine q_isub (v := 24) C dX12_pages_10 (by decide) ?_
  refine q_aload_n (j := 0) C dX12_pages_11 rfl ?_
  refine q_callV (d2 := 1) (mc2 := 0) (ms2 := 0) (As := []) (rest := [.int 24]) C (m_onPage (f := f)  hL hE f32 f41) dX12_pages_12 kV_X12_291 rfl hL hE ck_13 rfl (Nat.le_of_ble_eq_true rfl) ⟨Nat.le_of_ble_eq_true rfl, Nat.le_of_ble_eq_true rfl⟩ ⟨Nat.le_of_ble_eq_true rfl, Nat.le_of_ble_eq_true rfl⟩ (fun vh2 Lh2 Eh2 h2 => ?_)
  obtain ⟨rfl, rfl, rfl⟩ := h2
  refine q_st (st2 := [.int 25, .int 24]) rfl ?_
  refine q_idiv (v := 0) C dX12_pages_15 (by decide) (by decide) ?_
  exact q_iret C dX12_pages_16 rfl (Nat.le_of_ble_eq_true rfl) (Nat.le_of_ble_eq_true rfl) ⟨rfl, rfl, rfl⟩
set_option maxHeartbeats 4000000 in
set_option maxRecDepth 100000 in
theorem m_drop {l : Launch} {G : GT} {L : List Nat} {E : Nat → va_E} (t : Int32)  {h0 : Nat} {f : Nat → Value} (hL : h0 ∈ L) (hE : E h0 = ob 13 67 f) (f4 : f 4 = .int 0) : Mq l G yX12_drop cX12_drop 2 (some .int) 4 [.ref h0, .int t] L E 0 0 (fun v L2 E2 => v = some (.int (-1))) := by
  refine Mq.mk (by decide) (Nat.le_of_ble_eq_true rfl) ?_
  intro p e s m args below meth c A C
  refine q_aload_n (j := 0) C dX12_drop_0 rfl ?_
  refine q_iload_n (j := 1) C dX12_drop_1 rfl ?_
  refine q_callV (d2 := 0) (mc2 := 0) (ms2 := 0) (As := [.int t]) (rest := []) C (m_isTable (f := f) t hL hE f4) dX12_drop_2 kV_X12_167 rfl hL hE ck_13 rfl (Nat.le_of_ble_eq_true rfl) ⟨Nat.le_of_ble_eq_true rfl, Nat.le_of_ble_eq_true rfl⟩ ⟨Nat.le_of_ble_eq_true rfl, Nat.le_of_ble_eq_true rfl⟩ (fun vh1 Lh1 Eh1 h1 => ?_)
  obtain ⟨rfl, rfl, rfl⟩ := h1
  refine q_st (st2 := [.int 0]) rfl ?_
  refine q_if_ne (tgt := 14) C dX12_drop_5 (by decide) (fun z => absurd (by decide) z) (fun _ => ?_)
  refine q_aload_n (j := 0) C dX12_drop_8 rfl ?_
  refine q_iconst (v := 3) C dX12_drop_9 (by decide) ?_
  refine q_callV (d2 := 0) (mc2 := 0) (ms2 := 0) (As := [.int 3]) (rest := []) C (c_bad 3 hL hE) dX12_drop_10 kV_X12_154 rfl hL hE ck_13 rfl (Nat.le_of_ble_eq_true rfl) ⟨Nat.le_of_ble_eq_true rfl, Nat.le_of_ble_eq_true rfl⟩ ⟨Nat.le_of_ble_eq_true rfl, Nat.le_of_ble_eq_true rfl⟩ (fun vh2 Lh2 Eh2 h2 => ?_)
  obtain ⟨rfl, rfl, rfl⟩ := h2
  refine q_st (st2 := [.int (-1)]) rfl ?_
  exact q_iret C dX12_drop_13 rfl (Nat.le_of_ble_eq_true rfl) (Nat.le_of_ble_eq_true rfl) rfl
set_option maxHeartbeats 4000000 in
set_option maxRecDepth 100000 in
theorem m_judge {l : Launch} {G : GT} {L : List Nat} {E : Nat → va_E} (t : Int32)  {h0 : Nat} {f : Nat → Value} (hL : h0 ∈ L) (hE : E h0 = ob 13 67 f) (f4 : f 4 = .int 0) : Mq l G yX12_judge cX12_judge 3 (some .int) 4 [.ref h0, .int t] L E 0 0 (fun v L2 E2 => v = some (.int (-1))) := by
  refine Mq.mk (by decide) (Nat.le_of_ble_eq_true rfl) ?_
  intro p e s m args below meth c A C
  refine q_aload_n (j := 0) C dX12_judge_0 rfl ?_
  refine q_iload_n (j := 1) C dX12_judge_1 rfl ?_
  refine q_callV (d2 := 0) (mc2 := 0) (ms2 := 0) (As := [.int t]) (rest := []) C (m_isTable (f := f) t hL hE f4) dX12_judge_2 kV_X12_167 rfl hL hE ck_13 rfl (Nat.le_of_ble_eq_true rfl) ⟨Nat.le_of_ble_eq_true rfl, Nat.le_of_ble_eq_true rfl⟩ ⟨Nat.le_of_ble_eq_true rfl, Nat.le_of_ble_eq_true rfl⟩ (fun vh1 Lh1 Eh1 h1 => ?_)
  obtain ⟨rfl, rfl, rfl⟩ := h1
  refine q_st (st2 := [.int 0]) rfl ?_
  refine q_if_ne (tgt := 14) C dX12_judge_5 (by decide) (fun z => absurd (by decide) z) (fun _ => ?_)
  refine q_aload_n (j := 0) C dX12_judge_8 rfl ?_
  refine q_iconst (v := 3) C dX12_judge_9 (by decide) ?_
  refine q_callV (d2 := 0) (mc2 := 0) (ms2 := 0) (As := [.int 3]) (rest := []) C (c_bad 3 hL hE) dX12_judge_10 kV_X12_154 rfl hL hE ck_13 rfl (Nat.le_of_ble_eq_true rfl) ⟨Nat.le_of_ble_eq_true rfl, Nat.le_of_ble_eq_true rfl⟩ ⟨Nat.le_of_ble_eq_true rfl, Nat.le_of_ble_eq_true rfl⟩ (fun vh2 Lh2 Eh2 h2 => ?_)
  obtain ⟨rfl, rfl, rfl⟩ := h2
  refine q_st (st2 := [.int (-1)]) rfl ?_
  exact q_iret C dX12_judge_13 rfl (Nat.le_of_ble_eq_true rfl) (Nat.le_of_ble_eq_true rfl) rfl
set_option maxHeartbeats 4000000 in
set_option maxRecDepth 100000 in
theorem m_set {l : Launch} {G : GT} {L : List Nat} {E : Nat → va_E} (t : Int32)  {h0 : Nat} {f : Nat → Value} (hL : h0 ∈ L) (hE : E h0 = ob 13 67 f) (f4 : f 4 = .int 0) : Mq l G yX12_set cX12_set 7 (some .int) 4 [.ref h0, .int t] L E 0 0 (fun v L2 E2 => v = some (.int (-1))) := by
  refine Mq.mk (by decide) (Nat.le_of_ble_eq_true rfl) ?_
  intro p e s m args below meth c A C
  refine q_aload_n (j := 0) C dX12_set_0 rfl ?_
  refine q_iload_n (j := 1) C dX12_set_1 rfl ?_
  refine q_callV (d2 := 1) (mc2 := 0) (ms2 := 0) (As := [.int t]) (rest := []) C (m_isWhole (f := f) t hL hE f4) dX12_set_2 kV_X12_171 rfl hL hE ck_13 rfl (Nat.le_of_ble_eq_true rfl) ⟨Nat.le_of_ble_eq_true rfl, Nat.le_of_ble_eq_true rfl⟩ ⟨Nat.le_of_ble_eq_true rfl, Nat.le_of_ble_eq_true rfl⟩ (fun vh1 Lh1 Eh1 h1 => ?_)
  obtain ⟨rfl, rfl, rfl⟩ := h1
  refine q_st (st2 := [.int 0]) rfl ?_
  refine q_if_ne (tgt := 14) C dX12_set_5 (by decide) (fun z => absurd (by decide) z) (fun _ => ?_)
  refine q_aload_n (j := 0) C dX12_set_8 rfl ?_
  refine q_iconst (v := 3) C dX12_set_9 (by decide) ?_
  refine q_callV (d2 := 0) (mc2 := 0) (ms2 := 0) (As := [.int 3]) (rest := []) C (c_bad 3 hL hE) dX12_set_10 kV_X12_154 rfl hL hE ck_13 rfl (Nat.le_of_ble_eq_true rfl) ⟨Nat.le_of_ble_eq_true rfl, Nat.le_of_ble_eq_true rfl⟩ ⟨Nat.le_of_ble_eq_true rfl, Nat.le_of_ble_eq_true rfl⟩ (fun vh2 Lh2 Eh2 h2 => ?_)
  obtain ⟨rfl, rfl, rfl⟩ := h2
  refine q_st (st2 := [.int (-1)]) rfl ?_
  exact q_iret C dX12_set_13 rfl (Nat.le_of_ble_eq_true rfl) (Nat.le_of_ble_eq_true rfl) rfl
set_option maxHeartbeats 4000000 in
set_option maxRecDepth 100000 in
theorem m_join {l : Launch} {G : GT} {L : List Nat} {E : Nat → va_E} (a b : Int32)  {h0 : Nat} {f : Nat → Value} (hL : h0 ∈ L) (hE : E h0 = ob 13 67 f) (f4 : f 4 = .int 0) : Mq l G yX12_join cX12_join 3 (some .int) 4 [.ref h0, .int a, .int b] L E 0 0 (fun v L2 E2 => v = some (.int (-1))) := by
  refine Mq.mk (by decide) (Nat.le_of_ble_eq_true rfl) ?_
  intro p e s m args below meth c A C
  refine q_aload_n (j := 0) C dX12_join_0 rfl ?_
  refine q_iload_n (j := 1) C dX12_join_1 rfl ?_
  refine q_callV (d2 := 0) (mc2 := 0) (ms2 := 0) (As := [.int a]) (rest := []) C (m_isTable (f := f) a hL hE f4) dX12_join_2 kV_X12_167 rfl hL hE ck_13 rfl (Nat.le_of_ble_eq_true rfl) ⟨Nat.le_of_ble_eq_true rfl, Nat.le_of_ble_eq_true rfl⟩ ⟨Nat.le_of_ble_eq_true rfl, Nat.le_of_ble_eq_true rfl⟩ (fun vh1 Lh1 Eh1 h1 => ?_)
  obtain ⟨rfl, rfl, rfl⟩ := h1
  refine q_st (st2 := [.int 0]) rfl ?_
  refine q_if_ne (tgt := 14) C dX12_join_5 (by decide) (fun z => absurd (by decide) z) (fun _ => ?_)
  refine q_aload_n (j := 0) C dX12_join_8 rfl ?_
  refine q_iconst (v := 3) C dX12_join_9 (by decide) ?_
  refine q_callV (d2 := 0) (mc2 := 0) (ms2 := 0) (As := [.int 3]) (rest := []) C (c_bad 3 hL hE) dX12_join_10 kV_X12_154 rfl hL hE ck_13 rfl (Nat.le_of_ble_eq_true rfl) ⟨Nat.le_of_ble_eq_true rfl, Nat.le_of_ble_eq_true rfl⟩ ⟨Nat.le_of_ble_eq_true rfl, Nat.le_of_ble_eq_true rfl⟩ (fun vh2 Lh2 Eh2 h2 => ?_)
  obtain ⟨rfl, rfl, rfl⟩ := h2
  refine q_st (st2 := [.int (-1)]) rfl ?_
  exact q_iret C dX12_join_13 rfl (Nat.le_of_ble_eq_true rfl) (Nat.le_of_ble_eq_true rfl) rfl
set_option maxHeartbeats 4000000 in
set_option maxRecDepth 100000 in
theorem m_condition {l : Launch} {G : GT} {L : List Nat} {E : Nat → va_E} (t r k : Int32)  {h0 : Nat} {f : Nat → Value} (hL : h0 ∈ L) (hE : E h0 = ob 13 67 f) (f4 : f 4 = .int 0) : Mq l G yX12_condition cX12_condition 5 (some .int) 4 [.ref h0, .int t, .int r, .int k] L E 0 0 (fun v L2 E2 => v = some (.int (-1))) := by
  refine Mq.mk (by decide) (Nat.le_of_ble_eq_true rfl) ?_
  intro p e s m args below meth c A C
  refine q_aload_n (j := 0) C dX12_condition_0 rfl ?_
  refine q_iload_n (j := 1) C dX12_condition_1 rfl ?_
  refine q_callV (d2 := 0) (mc2 := 0) (ms2 := 0) (As := [.int t]) (rest := []) C (m_isTable (f := f) t hL hE f4) dX12_condition_2 kV_X12_167 rfl hL hE ck_13 rfl (Nat.le_of_ble_eq_true rfl) ⟨Nat.le_of_ble_eq_true rfl, Nat.le_of_ble_eq_true rfl⟩ ⟨Nat.le_of_ble_eq_true rfl, Nat.le_of_ble_eq_true rfl⟩ (fun vh1 Lh1 Eh1 h1 => ?_)
  obtain ⟨rfl, rfl, rfl⟩ := h1
  refine q_st (st2 := [.int 0]) rfl ?_
  refine q_if_ne (tgt := 14) C dX12_condition_5 (by decide) (fun z => absurd (by decide) z) (fun _ => ?_)
  refine q_aload_n (j := 0) C dX12_condition_8 rfl ?_
  refine q_iconst (v := 3) C dX12_condition_9 (by decide) ?_
  refine q_callV (d2 := 0) (mc2 := 0) (ms2 := 0) (As := [.int 3]) (rest := []) C (c_bad 3 hL hE) dX12_condition_10 kV_X12_154 rfl hL hE ck_13 rfl (Nat.le_of_ble_eq_true rfl) ⟨Nat.le_of_ble_eq_true rfl, Nat.le_of_ble_eq_true rfl⟩ ⟨Nat.le_of_ble_eq_true rfl, Nat.le_of_ble_eq_true rfl⟩ (fun vh2 Lh2 Eh2 h2 => ?_)
  obtain ⟨rfl, rfl, rfl⟩ := h2
  refine q_st (st2 := [.int (-1)]) rfl ?_
  exact q_iret C dX12_condition_13 rfl (Nat.le_of_ble_eq_true rfl) (Nat.le_of_ble_eq_true rfl) rfl
set_option maxHeartbeats 4000000 in
set_option maxRecDepth 100000 in
theorem m_parts {l : Launch} {G : GT} {L : List Nat} {E : Nat → va_E} (t a b : Int32)  {h0 : Nat} {f : Nat → Value} (hL : h0 ∈ L) (hE : E h0 = ob 13 67 f) (f4 : f 4 = .int 0) : Mq l G yX12_parts cX12_parts 5 (some .int) 4 [.ref h0, .int t, .int a, .int b] L E 0 0 (fun v L2 E2 => v = some (.int (-1))) := by
  refine Mq.mk (by decide) (Nat.le_of_ble_eq_true rfl) ?_
  intro p e s m args below meth c A C
  refine q_aload_n (j := 0) C dX12_parts_0 rfl ?_
  refine q_iload_n (j := 1) C dX12_parts_1 rfl ?_
  refine q_callV (d2 := 1) (mc2 := 0) (ms2 := 0) (As := [.int t]) (rest := []) C (m_isWhole (f := f) t hL hE f4) dX12_parts_2 kV_X12_171 rfl hL hE ck_13 rfl (Nat.le_of_ble_eq_true rfl) ⟨Nat.le_of_ble_eq_true rfl, Nat.le_of_ble_eq_true rfl⟩ ⟨Nat.le_of_ble_eq_true rfl, Nat.le_of_ble_eq_true rfl⟩ (fun vh1 Lh1 Eh1 h1 => ?_)
  obtain ⟨rfl, rfl, rfl⟩ := h1
  refine q_st (st2 := [.int 0]) rfl ?_
  refine q_if_ne (tgt := 14) C dX12_parts_5 (by decide) (fun z => absurd (by decide) z) (fun _ => ?_)
  refine q_aload_n (j := 0) C dX12_parts_8 rfl ?_
  refine q_iconst (v := 3) C dX12_parts_9 (by decide) ?_
  refine q_callV (d2 := 0) (mc2 := 0) (ms2 := 0) (As := [.int 3]) (rest := []) C (c_bad 3 hL hE) dX12_parts_10 kV_X12_154 rfl hL hE ck_13 rfl (Nat.le_of_ble_eq_true rfl) ⟨Nat.le_of_ble_eq_true rfl, Nat.le_of_ble_eq_true rfl⟩ ⟨Nat.le_of_ble_eq_true rfl, Nat.le_of_ble_eq_true rfl⟩ (fun vh2 Lh2 Eh2 h2 => ?_)
  obtain ⟨rfl, rfl, rfl⟩ := h2
  refine q_st (st2 := [.int (-1)]) rfl ?_
  exact q_iret C dX12_parts_13 rfl (Nat.le_of_ble_eq_true rfl) (Nat.le_of_ble_eq_true rfl) rfl
set_option maxHeartbeats 4000000 in
set_option maxRecDepth 100000 in
theorem m_read {l : Launch} {G : GT} {L : List Nat} {E : Nat → va_E} (t a n : Int32)  {h0 : Nat} {f : Nat → Value} (hL : h0 ∈ L) (hE : E h0 = ob 13 67 f) (f4 : f 4 = .int 0) : Mq l G yX12_read cX12_read 11 (some .int) 4 [.ref h0, .int t, .int a, .int n] L E 0 0 (fun v L2 E2 => v = some (.int (-1))) := by
  refine Mq.mk (by decide) (Nat.le_of_ble_eq_true rfl) ?_
  intro p e s m args below meth c A C
  refine q_aload_n (j := 0) C dX12_read_0 rfl ?_
  refine q_iload_n (j := 1) C dX12_read_1 rfl ?_
  refine q_callV (d2 := 1) (mc2 := 0) (ms2 := 0) (As := [.int t]) (rest := []) C (m_isWhole (f := f) t hL hE f4) dX12_read_2 kV_X12_171 rfl hL hE ck_13 rfl (Nat.le_of_ble_eq_true rfl) ⟨Nat.le_of_ble_eq_true rfl, Nat.le_of_ble_eq_true rfl⟩ ⟨Nat.le_of_ble_eq_true rfl, Nat.le_of_ble_eq_true rfl⟩ (fun vh1 Lh1 Eh1 h1 => ?_)
  obtain ⟨rfl, rfl, rfl⟩ := h1
  refine q_st (st2 := [.int 0]) rfl ?_
  refine q_if_ne (tgt := 14) C dX12_read_5 (by decide) (fun z => absurd (by decide) z) (fun _ => ?_)
  refine q_aload_n (j := 0) C dX12_read_8 rfl ?_
  refine q_iconst (v := 3) C dX12_read_9 (by decide) ?_
  refine q_callV (d2 := 0) (mc2 := 0) (ms2 := 0) (As := [.int 3]) (rest := []) C (c_bad 3 hL hE) dX12_read_10 kV_X12_154 rfl hL hE ck_13 rfl (Nat.le_of_ble_eq_true rfl) ⟨Nat.le_of_ble_eq_true rfl, Nat.le_of_ble_eq_true rfl⟩ ⟨Nat.le_of_ble_eq_true rfl, Nat.le_of_ble_eq_true rfl⟩ (fun vh2 Lh2 Eh2 h2 => ?_)
  obtain ⟨rfl, rfl, rfl⟩ := h2
  refine q_st (st2 := [.int (-1)]) rfl ?_
  exact q_iret C dX12_read_13 rfl (Nat.le_of_ble_eq_true rfl) (Nat.le_of_ble_eq_true rfl) rfl
set_option maxHeartbeats 4000000 in
set_option maxRecDepth 100000 in
theorem m_saved {l : Launch} {G : GT} {L : List Nat} {E : Nat → va_E} (a b : Int32)  {h0 : Nat} {f : Nat → Value} (hL : h0 ∈ L) (hE : E h0 = ob 13 67 f) (f4 : f 4 = .int 0) : Mq l G yX12_saved cX12_saved 8 (some .int) 4 [.ref h0, .int a, .int b] L E 0 0 (fun v L2 E2 => v = some (.int (-1))) := by
  refine Mq.mk (by decide) (Nat.le_of_ble_eq_true rfl) ?_
  intro p e s m args below meth c A C
  refine q_aload_n (j := 0) C dX12_saved_0 rfl ?_
  refine q_iload_n (j := 1) C dX12_saved_1 rfl ?_
  refine q_callV (d2 := 1) (mc2 := 0) (ms2 := 0) (As := [.int a]) (rest := []) C (m_isWhole (f := f) a hL hE f4) dX12_saved_2 kV_X12_171 rfl hL hE ck_13 rfl (Nat.le_of_ble_eq_true rfl) ⟨Nat.le_of_ble_eq_true rfl, Nat.le_of_ble_eq_true rfl⟩ ⟨Nat.le_of_ble_eq_true rfl, Nat.le_of_ble_eq_true rfl⟩ (fun vh1 Lh1 Eh1 h1 => ?_)
  obtain ⟨rfl, rfl, rfl⟩ := h1
  refine q_st (st2 := [.int 0]) rfl ?_
  refine q_if_eq (tgt := 16) C dX12_saved_5 (by decide) (fun _ => ?_) (fun z => absurd (by decide) z)
  refine q_aload_n (j := 0) C dX12_saved_16 rfl ?_
  refine q_iconst (v := 3) C dX12_saved_17 (by decide) ?_
  refine q_callV (d2 := 0) (mc2 := 0) (ms2 := 0) (As := [.int 3]) (rest := []) C (c_bad 3 hL hE) dX12_saved_18 kV_X12_154 rfl hL hE ck_13 rfl (Nat.le_of_ble_eq_true rfl) ⟨Nat.le_of_ble_eq_true rfl, Nat.le_of_ble_eq_true rfl⟩ ⟨Nat.le_of_ble_eq_true rfl, Nat.le_of_ble_eq_true rfl⟩ (fun vh2 Lh2 Eh2 h2 => ?_)
  obtain ⟨rfl, rfl, rfl⟩ := h2
  refine q_st (st2 := [.int (-1)]) rfl ?_
  exact q_iret C dX12_saved_21 rfl (Nat.le_of_ble_eq_true rfl) (Nat.le_of_ble_eq_true rfl) rfl
set_option maxHeartbeats 4000000 in
set_option maxRecDepth 100000 in
theorem m_undo {l : Launch} {G : GT} {L : List Nat} {E : Nat → va_E}  {h0 : Nat} {f : Nat → Value} (hL : h0 ∈ L) (hE : E h0 = ob 13 67 f) (f19 : f 19 = .int 0) : Mq l G yX12_undo cX12_undo 5 (some .int) 4 [.ref h0] L E 0 0 (fun v L2 E2 => v = some (.int 0)) := by
  refine Mq.mk (by decide) (Nat.le_of_ble_eq_true rfl) ?_
  intro p e s m args below meth c A C
  refine q_aload_n (j := 0) C dX12_undo_0 rfl ?_
  refine q_get (k := 19) (v := .int 0) C ck_13 dX12_undo_1 w6_78 (by decide) hL hE f19 ?_
  refine q_if_ne (tgt := 13) C dX12_undo_4 (by decide) (fun z => absurd (by decide) z) (fun _ => ?_)
  refine q_aload_n (j := 0) C dX12_undo_7 rfl ?_
  refine q_iconst (v := 0) C dX12_undo_8 (by decide) ?_
  refine q_callV (d2 := 0) (mc2 := 0) (ms2 := 0) (As := [.int 0]) (rest := []) C (c_fine 0 hL hE) dX12_undo_9 kV_X12_158 rfl hL hE ck_13 rfl (Nat.le_of_ble_eq_true rfl) ⟨Nat.le_of_ble_eq_true rfl, Nat.le_of_ble_eq_true rfl⟩ ⟨Nat.le_of_ble_eq_true rfl, Nat.le_of_ble_eq_true rfl⟩ (fun vh1 Lh1 Eh1 h1 => ?_)
  obtain ⟨rfl, rfl, rfl⟩ := h1
  refine q_st (st2 := [.int 0]) rfl ?_
  exact q_iret C dX12_undo_12 rfl (Nat.le_of_ble_eq_true rfl) (Nat.le_of_ble_eq_true rfl) rfl
set_option maxHeartbeats 4000000 in
set_option maxRecDepth 100000 in
theorem m_lose {l : Launch} {G : GT} {L : List Nat} {E : Nat → va_E} (l0 : Int32)  {h0 : Nat} {f : Nat → Value} (hL : h0 ∈ L) (hE : E h0 = ob 13 67 f) (f36 : f 36 = .int 0) : Mq l G yX12_lose cX12_lose 2 (some .int) 4 [.ref h0, .int l0] L E 0 0 (fun v L2 E2 => v = some (.int (-1))) := by
  refine Mq.mk (by decide) (Nat.le_of_ble_eq_true rfl) ?_
  intro p e s m args below meth c A C
  refine q_iload_n (j := 1) C dX12_lose_0 rfl ?_
  refine q_iconst (v := 0) C dX12_lose_1 (by decide) ?_
  refine q_aload_n (j := 0) C dX12_lose_2 rfl ?_
  refine q_get (k := 36) (v := .int 0) C ck_13 dX12_lose_3 w6_95 (by decide) hL hE f36 ?_
  refine q_iconst (v := 1) C dX12_lose_6 (by decide) ?_
  refine q_isub (v := (-1)) C dX12_lose_7 (by decide) ?_
  refine q_callS (d2 := 0) (mc2 := 0) (ms2 := 0) (As := [.int l0, .int 0, .int (-1)]) (rest := []) C (m_isIn l0 0 (-1)) dX12_lose_8 kS_X12_174 rfl rfl (Nat.le_of_ble_eq_true rfl) ⟨Nat.le_of_ble_eq_true rfl, Nat.le_of_ble_eq_true rfl⟩ ⟨Nat.le_of_ble_eq_true rfl, Nat.le_of_ble_eq_true rfl⟩ (fun vh1 Lh1 Eh1 h1 => ?_)
  obtain ⟨rfl, rfl, rfl⟩ := h1
  refine q_st (st2 := [.int (inn l0 0 (-1))]) rfl ?_
  refine q_if_ne (tgt := 20) C dX12_lose_11 (by decide) (fun z => absurd (inn0 _) z) (fun _ => ?_)
  refine q_aload_n (j := 0) C dX12_lose_14 rfl ?_
  refine q_iconst (v := 2) C dX12_lose_15 (by decide) ?_
  refine q_callV (d2 := 0) (mc2 := 0) (ms2 := 0) (As := [.int 2]) (rest := []) C (c_bad 2 hL hE) dX12_lose_16 kV_X12_154 rfl hL hE ck_13 rfl (Nat.le_of_ble_eq_true rfl) ⟨Nat.le_of_ble_eq_true rfl, Nat.le_of_ble_eq_true rfl⟩ ⟨Nat.le_of_ble_eq_true rfl, Nat.le_of_ble_eq_true rfl⟩ (fun vh2 Lh2 Eh2 h2 => ?_)
  obtain ⟨rfl, rfl, rfl⟩ := h2
  refine q_st (st2 := [.int (-1)]) rfl ?_
  exact q_iret C dX12_lose_19 rfl (Nat.le_of_ble_eq_true rfl) (Nat.le_of_ble_eq_true rfl) rfl
set_option maxHeartbeats 4000000 in
set_option maxRecDepth 100000 in
theorem m_length {l : Launch} {G : GT} {L : List Nat} {E : Nat → va_E} (l0 : Int32)  {h0 : Nat} {f : Nat → Value} (hL : h0 ∈ L) (hE : E h0 = ob 13 67 f) (f36 : f 36 = .int 0) : Mq l G yX12_length cX12_length 2 (some .int) 4 [.ref h0, .int l0] L E 0 0 (fun v L2 E2 => v = some (.int (-1))) := by
  refine Mq.mk (by decide) (Nat.le_of_ble_eq_true rfl) ?_
  intro p e s m args below meth c A C
  refine q_aload_n (j := 0) C dX12_length_0 rfl ?_
  refine q_iload_n (j := 1) C dX12_length_1 rfl ?_
  refine q_callV (d2 := 1) (mc2 := 0) (ms2 := 0) (As := [.int l0]) (rest := []) C (m_lineFault (f := f) l0 hL hE f36) dX12_length_2 kV_X12_294 rfl hL hE ck_13 rfl (Nat.le_of_ble_eq_true rfl) ⟨Nat.le_of_ble_eq_true rfl, Nat.le_of_ble_eq_true rfl⟩ ⟨Nat.le_of_ble_eq_true rfl, Nat.le_of_ble_eq_true rfl⟩ (fun vh1 Lh1 Eh1 h1 => ?_)
  obtain ⟨rfl, rfl, rfl⟩ := h1
  refine q_st (st2 := [.int 2]) rfl ?_
  refine q_if_le (tgt := 20) C dX12_length_5 (by decide) (fun z => absurd z (by decide)) (fun _ => ?_)
  refine q_aload_n (j := 0) C dX12_length_8 rfl ?_
  refine q_aload_n (j := 0) C dX12_length_9 rfl ?_
  refine q_iload_n (j := 1) C dX12_length_10 rfl ?_
  refine q_callV (d2 := 1) (mc2 := 0) (ms2 := 0) (As := [.int l0]) (rest := [.ref h0]) C (m_lineFault (f := f) l0 hL hE f36) dX12_length_11 kV_X12_294 rfl hL hE ck_13 rfl (Nat.le_of_ble_eq_true rfl) ⟨Nat.le_of_ble_eq_true rfl, Nat.le_of_ble_eq_true rfl⟩ ⟨Nat.le_of_ble_eq_true rfl, Nat.le_of_ble_eq_true rfl⟩ (fun vh2 Lh2 Eh2 h2 => ?_)
  obtain ⟨rfl, rfl, rfl⟩ := h2
  refine q_st (st2 := [.int 2, .ref h0]) rfl ?_
  refine q_callV (d2 := 0) (mc2 := 0) (ms2 := 0) (As := [.int 2]) (rest := []) C (c_bad 2 hL hE) dX12_length_14 kV_X12_154 rfl hL hE ck_13 rfl (Nat.le_of_ble_eq_true rfl) ⟨Nat.le_of_ble_eq_true rfl, Nat.le_of_ble_eq_true rfl⟩ ⟨Nat.le_of_ble_eq_true rfl, Nat.le_of_ble_eq_true rfl⟩ (fun vh3 Lh3 Eh3 h3 => ?_)
  obtain ⟨rfl, rfl, rfl⟩ := h3
  refine q_st (st2 := [.int (-1)]) rfl ?_
  refine q_goto (tgt := 30) C dX12_length_17 (by decide) ?_
  exact q_iret C dX12_length_30 rfl (Nat.le_of_ble_eq_true rfl) (Nat.le_of_ble_eq_true rfl) rfl
set_option maxHeartbeats 4000000 in
set_option maxRecDepth 100000 in
theorem m_cell {l : Launch} {G : GT} {L : List Nat} {E : Nat → va_E} (l0 i : Int32)  {h0 : Nat} {f : Nat → Value} (hL : h0 ∈ L) (hE : E h0 = ob 13 67 f) (f36 : f 36 = .int 0) : Mq l G yX12_cell cX12_cell 3 (some .int) 4 [.ref h0, .int l0, .int i] L E 0 0 (fun v L2 E2 => v = some (.int (-1))) := by
  refine Mq.mk (by decide) (Nat.le_of_ble_eq_true rfl) ?_
  intro p e s m args below meth c A C
  refine q_aload_n (j := 0) C dX12_cell_0 rfl ?_
  refine q_iload_n (j := 1) C dX12_cell_1 rfl ?_
  refine q_callV (d2 := 1) (mc2 := 0) (ms2 := 0) (As := [.int l0]) (rest := []) C (m_lineFault (f := f) l0 hL hE f36) dX12_cell_2 kV_X12_294 rfl hL hE ck_13 rfl (Nat.le_of_ble_eq_true rfl) ⟨Nat.le_of_ble_eq_true rfl, Nat.le_of_ble_eq_true rfl⟩ ⟨Nat.le_of_ble_eq_true rfl, Nat.le_of_ble_eq_true rfl⟩ (fun vh1 Lh1 Eh1 h1 => ?_)
  obtain ⟨rfl, rfl, rfl⟩ := h1
  refine q_st (st2 := [.int 2]) rfl ?_
  refine q_if_le (tgt := 18) C dX12_cell_5 (by decide) (fun z => absurd z (by decide)) (fun _ => ?_)
  refine q_aload_n (j := 0) C dX12_cell_8 rfl ?_
  refine q_aload_n (j := 0) C dX12_cell_9 rfl ?_
  refine q_iload_n (j := 1) C dX12_cell_10 rfl ?_
  refine q_callV (d2 := 1) (mc2 := 0) (ms2 := 0) (As := [.int l0]) (rest := [.ref h0]) C (m_lineFault (f := f) l0 hL hE f36) dX12_cell_11 kV_X12_294 rfl hL hE ck_13 rfl (Nat.le_of_ble_eq_true rfl) ⟨Nat.le_of_ble_eq_true rfl, Nat.le_of_ble_eq_true rfl⟩ ⟨Nat.le_of_ble_eq_true rfl, Nat.le_of_ble_eq_true rfl⟩ (fun vh2 Lh2 Eh2 h2 => ?_)
  obtain ⟨rfl, rfl, rfl⟩ := h2
  refine q_st (st2 := [.int 2, .ref h0]) rfl ?_
  refine q_callV (d2 := 0) (mc2 := 0) (ms2 := 0) (As := [.int 2]) (rest := []) C (c_bad 2 hL hE) dX12_cell_14 kV_X12_154 rfl hL hE ck_13 rfl (Nat.le_of_ble_eq_true rfl) ⟨Nat.le_of_ble_eq_true rfl, Nat.le_of_ble_eq_true rfl⟩ ⟨Nat.le_of_ble_eq_true rfl, Nat.le_of_ble_eq_true rfl⟩ (fun vh3 Lh3 Eh3 h3 => ?_)
  obtain ⟨rfl, rfl, rfl⟩ := h3
  refine q_st (st2 := [.int (-1)]) rfl ?_
  exact q_iret C dX12_cell_17 rfl (Nat.le_of_ble_eq_true rfl) (Nat.le_of_ble_eq_true rfl) rfl
set_option maxHeartbeats 4000000 in
set_option maxRecDepth 100000 in
theorem m_cut {l : Launch} {G : GT} {L : List Nat} {E : Nat → va_E} (l0 n : Int32)  {h0 : Nat} {f : Nat → Value} (hL : h0 ∈ L) (hE : E h0 = ob 13 67 f) (f36 : f 36 = .int 0) : Mq l G yX12_cut cX12_cut 4 (some .int) 4 [.ref h0, .int l0, .int n] L E 0 0 (fun v L2 E2 => v = some (.int (-1))) := by
  refine Mq.mk (by decide) (Nat.le_of_ble_eq_true rfl) ?_
  intro p e s m args below meth c A C
  refine q_iload_n (j := 2) C dX12_cut_0 rfl ?_
  refine q_sipush (v := 200) C dX12_cut_1 (by decide) ?_
  refine q_icmp_le (tgt := 14) C dX12_cut_4 (by decide) (fun c1 => ?_) (fun c1 => ?_)
  · refine q_iload_n (j := 2) C dX12_cut_14 rfl ?_
    refine q_if_ge (tgt := 24) C dX12_cut_15 (by decide) (fun c2 => ?_) (fun c2 => ?_)
    · refine q_aload_n (j := 0) C dX12_cut_24 rfl ?_
      refine q_iload_n (j := 1) C dX12_cut_25 rfl ?_
      refine q_callV (d2 := 1) (mc2 := 0) (ms2 := 0) (As := [.int l0]) (rest := []) C (m_lineFault (f := f) l0 hL hE f36) dX12_cut_26 kV_X12_294 rfl hL hE ck_13 rfl (Nat.le_of_ble_eq_true rfl) ⟨Nat.le_of_ble_eq_true rfl, Nat.le_of_ble_eq_true rfl⟩ ⟨Nat.le_of_ble_eq_true rfl, Nat.le_of_ble_eq_true rfl⟩ (fun vh1 Lh1 Eh1 h1 => ?_)
      obtain ⟨rfl, rfl, rfl⟩ := h1
      refine q_st (st2 := [.int 2]) rfl ?_
      refine q_if_le (tgt := 42) C dX12_cut_29 (by decide) (fun z => absurd z (by decide)) (fun _ => ?_)
      refine q_aload_n (j := 0) C dX12_cut_32 rfl ?_
      refine q_aload_n (j := 0) C dX12_cut_33 rfl ?_
      refine q_iload_n (j := 1) C dX12_cut_34 rfl ?_
      refine q_callV (d2 := 1) (mc2 := 0) (ms2 := 0) (As := [.int l0]) (rest := [.ref h0]) C (m_lineFault (f := f) l0 hL hE f36) dX12_cut_35 kV_X12_294 rfl hL hE ck_13 rfl (Nat.le_of_ble_eq_true rfl) ⟨Nat.le_of_ble_eq_true rfl, Nat.le_of_ble_eq_true rfl⟩ ⟨Nat.le_of_ble_eq_true rfl, Nat.le_of_ble_eq_true rfl⟩ (fun vh2 Lh2 Eh2 h2 => ?_)
      obtain ⟨rfl, rfl, rfl⟩ := h2
      refine q_st (st2 := [.int 2, .ref h0]) rfl ?_
      refine q_callV (d2 := 0) (mc2 := 0) (ms2 := 0) (As := [.int 2]) (rest := []) C (c_bad 2 hL hE) dX12_cut_38 kV_X12_154 rfl hL hE ck_13 rfl (Nat.le_of_ble_eq_true rfl) ⟨Nat.le_of_ble_eq_true rfl, Nat.le_of_ble_eq_true rfl⟩ ⟨Nat.le_of_ble_eq_true rfl, Nat.le_of_ble_eq_true rfl⟩ (fun vh3 Lh3 Eh3 h3 => ?_)
      obtain ⟨rfl, rfl, rfl⟩ := h3
      refine q_st (st2 := [.int (-1)]) rfl ?_
      exact q_iret C dX12_cut_41 rfl (Nat.le_of_ble_eq_true rfl) (Nat.le_of_ble_eq_true rfl) rfl
    · refine q_aload_n (j := 0) C dX12_cut_18 rfl ?_
      refine q_iconst (v := 5) C dX12_cut_19 (by decide) ?_
      refine q_callV (d2 := 0) (mc2 := 0) (ms2 := 0) (As := [.int 5]) (rest := []) C (c_bad 5 hL hE) dX12_cut_20 kV_X12_154 rfl hL hE ck_13 rfl (Nat.le_of_ble_eq_true rfl) ⟨Nat.le_of_ble_eq_true rfl, Nat.le_of_ble_eq_true rfl⟩ ⟨Nat.le_of_ble_eq_true rfl, Nat.le_of_ble_eq_true rfl⟩ (fun vh4 Lh4 Eh4 h4 => ?_)
      obtain ⟨rfl, rfl, rfl⟩ := h4
      refine q_st (st2 := [.int (-1)]) rfl ?_
      exact q_iret C dX12_cut_23 rfl (Nat.le_of_ble_eq_true rfl) (Nat.le_of_ble_eq_true rfl) rfl
  · refine q_aload_n (j := 0) C dX12_cut_7 rfl ?_
    refine q_bipush (v := 6) C dX12_cut_8 (by decide) ?_
    refine q_callV (d2 := 0) (mc2 := 0) (ms2 := 0) (As := [.int 6]) (rest := []) C (c_bad 6 hL hE) dX12_cut_10 kV_X12_154 rfl hL hE ck_13 rfl (Nat.le_of_ble_eq_true rfl) ⟨Nat.le_of_ble_eq_true rfl, Nat.le_of_ble_eq_true rfl⟩ ⟨Nat.le_of_ble_eq_true rfl, Nat.le_of_ble_eq_true rfl⟩ (fun vh5 Lh5 Eh5 h5 => ?_)
    obtain ⟨rfl, rfl, rfl⟩ := h5
    refine q_st (st2 := [.int (-1)]) rfl ?_
    exact q_iret C dX12_cut_13 rfl (Nat.le_of_ble_eq_true rfl) (Nat.le_of_ble_eq_true rfl) rfl
set_option maxHeartbeats 4000000 in
set_option maxRecDepth 100000 in
theorem m_copyRow {l : Launch} {G : GT} {L : List Nat} {E : Nat → va_E} (a b c1 d1 n : Int32)  {h0 : Nat} {f : Nat → Value} (hL : h0 ∈ L) (hE : E h0 = ob 13 67 f) (f36 : f 36 = .int 0) : Mq l G yX12_copyRow cX12_copyRow 11 (some .int) 4 [.ref h0, .int a, .int b, .int c1, .int d1, .int n] L E 0 0 (fun v L2 E2 => v = some (.int (-1))) := by
  refine Mq.mk (by decide) (Nat.le_of_ble_eq_true rfl) ?_
  intro p e s m args below meth c A C
  refine q_iload_n (j := 1) C dX12_copyRow_0 rfl ?_
  refine q_iconst (v := 0) C dX12_copyRow_1 (by decide) ?_
  refine q_aload_n (j := 0) C dX12_copyRow_2 rfl ?_
  refine q_get (k := 36) (v := .int 0) C ck_13 dX12_copyRow_3 w6_95 (by decide) hL hE f36 ?_
  refine q_iconst (v := 1) C dX12_copyRow_6 (by decide) ?_
  refine q_isub (v := (-1)) C dX12_copyRow_7 (by decide) ?_
  refine q_callS (d2 := 0) (mc2 := 0) (ms2 := 0) (As := [.int a, .int 0, .int (-1)]) (rest := []) C (m_isIn a 0 (-1)) dX12_copyRow_8 kS_X12_174 rfl rfl (Nat.le_of_ble_eq_true rfl) ⟨Nat.le_of_ble_eq_true rfl, Nat.le_of_ble_eq_true rfl⟩ ⟨Nat.le_of_ble_eq_true rfl, Nat.le_of_ble_eq_true rfl⟩ (fun vh1 Lh1 Eh1 h1 => ?_)
  obtain ⟨rfl, rfl, rfl⟩ := h1
  refine q_st (st2 := [.int (inn a 0 (-1))]) rfl ?_
  refine q_if_eq (tgt := 28) C dX12_copyRow_11 (by decide) (fun _ => ?_) (fun z => absurd (inn0 _) z)
  refine q_aload_n (j := 0) C dX12_copyRow_28 rfl ?_
  refine q_iconst (v := 2) C dX12_copyRow_29 (by decide) ?_
  refine q_callV (d2 := 0) (mc2 := 0) (ms2 := 0) (As := [.int 2]) (rest := []) C (c_bad 2 hL hE) dX12_copyRow_30 kV_X12_154 rfl hL hE ck_13 rfl (Nat.le_of_ble_eq_true rfl) ⟨Nat.le_of_ble_eq_true rfl, Nat.le_of_ble_eq_true rfl⟩ ⟨Nat.le_of_ble_eq_true rfl, Nat.le_of_ble_eq_true rfl⟩ (fun vh2 Lh2 Eh2 h2 => ?_)
  obtain ⟨rfl, rfl, rfl⟩ := h2
  refine q_st (st2 := [.int (-1)]) rfl ?_
  exact q_iret C dX12_copyRow_33 rfl (Nat.le_of_ble_eq_true rfl) (Nat.le_of_ble_eq_true rfl) rfl
set_option maxHeartbeats 4000000 in
set_option maxRecDepth 100000 in
theorem m_reading {l : Launch} {G : GT} {L : List Nat} {E : Nat → va_E} (k i : Int32)  {h0 : Nat} {f : Nat → Value} (hL : h0 ∈ L) (hE : E h0 = ob 13 67 f) (f60 : f 60 = .int 0) : Mq l G yX12_reading cX12_reading 3 (some .int) 4 [.ref h0, .int k, .int i] L E 0 0 (fun v L2 E2 => v = some (.int (-1))) := by
  refine Mq.mk (by decide) (Nat.le_of_ble_eq_true rfl) ?_
  intro p e s m args below meth c A C
  refine q_iload_n (j := 1) C dX12_reading_0 rfl ?_
  refine q_iconst (v := 0) C dX12_reading_1 (by decide) ?_
  refine q_aload_n (j := 0) C dX12_reading_2 rfl ?_
  refine q_get (k := 60) (v := .int 0) C ck_13 dX12_reading_3 w6_119 (by decide) hL hE f60 ?_
  refine q_iconst (v := 1) C dX12_reading_6 (by decide) ?_
  refine q_isub (v := (-1)) C dX12_reading_7 (by decide) ?_
  refine q_callS (d2 := 0) (mc2 := 0) (ms2 := 0) (As := [.int k, .int 0, .int (-1)]) (rest := []) C (m_isIn k 0 (-1)) dX12_reading_8 kS_X12_174 rfl rfl (Nat.le_of_ble_eq_true rfl) ⟨Nat.le_of_ble_eq_true rfl, Nat.le_of_ble_eq_true rfl⟩ ⟨Nat.le_of_ble_eq_true rfl, Nat.le_of_ble_eq_true rfl⟩ (fun vh1 Lh1 Eh1 h1 => ?_)
  obtain ⟨rfl, rfl, rfl⟩ := h1
  refine q_st (st2 := [.int (inn k 0 (-1))]) rfl ?_
  refine q_if_eq (tgt := 49) C dX12_reading_11 (by decide) (fun _ => ?_) (fun z => absurd (inn0 _) z)
  refine q_aload_n (j := 0) C dX12_reading_49 rfl ?_
  refine q_iconst (v := 2) C dX12_reading_50 (by decide) ?_
  refine q_callV (d2 := 0) (mc2 := 0) (ms2 := 0) (As := [.int 2]) (rest := []) C (c_bad 2 hL hE) dX12_reading_51 kV_X12_154 rfl hL hE ck_13 rfl (Nat.le_of_ble_eq_true rfl) ⟨Nat.le_of_ble_eq_true rfl, Nat.le_of_ble_eq_true rfl⟩ ⟨Nat.le_of_ble_eq_true rfl, Nat.le_of_ble_eq_true rfl⟩ (fun vh2 Lh2 Eh2 h2 => ?_)
  obtain ⟨rfl, rfl, rfl⟩ := h2
  refine q_st (st2 := [.int (-1)]) rfl ?_
  exact q_iret C dX12_reading_54 rfl (Nat.le_of_ble_eq_true rfl) (Nat.le_of_ble_eq_true rfl) rfl
set_option maxHeartbeats 4000000 in
set_option maxRecDepth 100000 in
theorem m_letter {l : Launch} {G : GT} {L : List Nat} {E : Nat → va_E} (i : Int32)  {h0 : Nat} {f : Nat → Value} (hL : h0 ∈ L) (hE : E h0 = ob 13 67 f) (f52 : f 52 = .int 0) : Mq l G yX12_letter cX12_letter 2 (some .int) 4 [.ref h0, .int i] L E 0 0 (fun v L2 E2 => v = some (.int (-1))) := by
  refine Mq.mk (by decide) (Nat.le_of_ble_eq_true rfl) ?_
  intro p e s m args below meth c A C
  refine q_iload_n (j := 1) C dX12_letter_0 rfl ?_
  refine q_iconst (v := 0) C dX12_letter_1 (by decide) ?_
  refine q_aload_n (j := 0) C dX12_letter_2 rfl ?_
  refine q_get (k := 52) (v := .int 0) C ck_13 dX12_letter_3 w6_111 (by decide) hL hE f52 ?_
  refine q_iconst (v := 1) C dX12_letter_6 (by decide) ?_
  refine q_isub (v := (-1)) C dX12_letter_7 (by decide) ?_
  refine q_callS (d2 := 0) (mc2 := 0) (ms2 := 0) (As := [.int i, .int 0, .int (-1)]) (rest := []) C (m_isIn i 0 (-1)) dX12_letter_8 kS_X12_174 rfl rfl (Nat.le_of_ble_eq_true rfl) ⟨Nat.le_of_ble_eq_true rfl, Nat.le_of_ble_eq_true rfl⟩ ⟨Nat.le_of_ble_eq_true rfl, Nat.le_of_ble_eq_true rfl⟩ (fun vh1 Lh1 Eh1 h1 => ?_)
  obtain ⟨rfl, rfl, rfl⟩ := h1
  refine q_st (st2 := [.int (inn i 0 (-1))]) rfl ?_
  refine q_if_eq (tgt := 27) C dX12_letter_11 (by decide) (fun _ => ?_) (fun z => absurd (inn0 _) z)
  refine q_aload_n (j := 0) C dX12_letter_27 rfl ?_
  refine q_iconst (v := 2) C dX12_letter_28 (by decide) ?_
  refine q_callV (d2 := 0) (mc2 := 0) (ms2 := 0) (As := [.int 2]) (rest := []) C (c_bad 2 hL hE) dX12_letter_29 kV_X12_154 rfl hL hE ck_13 rfl (Nat.le_of_ble_eq_true rfl) ⟨Nat.le_of_ble_eq_true rfl, Nat.le_of_ble_eq_true rfl⟩ ⟨Nat.le_of_ble_eq_true rfl, Nat.le_of_ble_eq_true rfl⟩ (fun vh2 Lh2 Eh2 h2 => ?_)
  obtain ⟨rfl, rfl, rfl⟩ := h2
  refine q_st (st2 := [.int (-1)]) rfl ?_
  exact q_iret C dX12_letter_32 rfl (Nat.le_of_ble_eq_true rfl) (Nat.le_of_ble_eq_true rfl) rfl
set_option maxHeartbeats 4000000 in
set_option maxRecDepth 100000 in
theorem m_readings {l : Launch} {G : GT} {L : List Nat} {E : Nat → va_E} (t l0 most : Int32)  {h0 : Nat} {f : Nat → Value} (hL : h0 ∈ L) (hE : E h0 = ob 13 67 f) (f4 : f 4 = .int 0) : Mq l G yX12_readings cX12_readings 5 (some .int) 4 [.ref h0, .int t, .int l0, .int most] L E 0 0 (fun v L2 E2 => v = some (.int (-1))) := by
  refine Mq.mk (by decide) (Nat.le_of_ble_eq_true rfl) ?_
  intro p e s m args below meth c A C
  refine q_iload_n (j := 3) C dX12_readings_0 rfl ?_
  refine q_iconst (v := 1) C dX12_readings_1 (by decide) ?_
  refine q_bipush (v := 50) C dX12_readings_2 (by decide) ?_
  refine q_callS (d2 := 0) (mc2 := 0) (ms2 := 0) (As := [.int most, .int 1, .int 50]) (rest := []) C (m_isIn most 1 50) dX12_readings_4 kS_X12_174 rfl rfl (Nat.le_of_ble_eq_true rfl) ⟨Nat.le_of_ble_eq_true rfl, Nat.le_of_ble_eq_true rfl⟩ ⟨Nat.le_of_ble_eq_true rfl, Nat.le_of_ble_eq_true rfl⟩ (fun vh1 Lh1 Eh1 h1 => ?_)
  obtain ⟨rfl, rfl, rfl⟩ := h1
  refine q_st (st2 := [.int (inn most 1 50)]) rfl ?_
  refine q_if_ne (tgt := 17) C dX12_readings_7 (by decide) (fun c1 => ?_) (fun c1 => ?_)
  · refine q_aload_n (j := 0) C dX12_readings_17 rfl ?_
    refine q_iload_n (j := 1) C dX12_readings_18 rfl ?_
    refine q_callV (d2 := 1) (mc2 := 0) (ms2 := 0) (As := [.int t]) (rest := []) C (m_isWhole (f := f) t hL hE f4) dX12_readings_19 kV_X12_171 rfl hL hE ck_13 rfl (Nat.le_of_ble_eq_true rfl) ⟨Nat.le_of_ble_eq_true rfl, Nat.le_of_ble_eq_true rfl⟩ ⟨Nat.le_of_ble_eq_true rfl, Nat.le_of_ble_eq_true rfl⟩ (fun vh2 Lh2 Eh2 h2 => ?_)
    obtain ⟨rfl, rfl, rfl⟩ := h2
    refine q_st (st2 := [.int 0]) rfl ?_
    refine q_if_ne (tgt := 31) C dX12_readings_22 (by decide) (fun z => absurd (by decide) z) (fun _ => ?_)
    refine q_aload_n (j := 0) C dX12_readings_25 rfl ?_
    refine q_iconst (v := 3) C dX12_readings_26 (by decide) ?_
    refine q_callV (d2 := 0) (mc2 := 0) (ms2 := 0) (As := [.int 3]) (rest := []) C (c_bad 3 hL hE) dX12_readings_27 kV_X12_154 rfl hL hE ck_13 rfl (Nat.le_of_ble_eq_true rfl) ⟨Nat.le_of_ble_eq_true rfl, Nat.le_of_ble_eq_true rfl⟩ ⟨Nat.le_of_ble_eq_true rfl, Nat.le_of_ble_eq_true rfl⟩ (fun vh3 Lh3 Eh3 h3 => ?_)
    obtain ⟨rfl, rfl, rfl⟩ := h3
    refine q_st (st2 := [.int (-1)]) rfl ?_
    exact q_iret C dX12_readings_30 rfl (Nat.le_of_ble_eq_true rfl) (Nat.le_of_ble_eq_true rfl) rfl
  · refine q_aload_n (j := 0) C dX12_readings_10 rfl ?_
    refine q_bipush (v := 6) C dX12_readings_11 (by decide) ?_
    refine q_callV (d2 := 0) (mc2 := 0) (ms2 := 0) (As := [.int 6]) (rest := []) C (c_bad 6 hL hE) dX12_readings_13 kV_X12_154 rfl hL hE ck_13 rfl (Nat.le_of_ble_eq_true rfl) ⟨Nat.le_of_ble_eq_true rfl, Nat.le_of_ble_eq_true rfl⟩ ⟨Nat.le_of_ble_eq_true rfl, Nat.le_of_ble_eq_true rfl⟩ (fun vh4 Lh4 Eh4 h4 => ?_)
    obtain ⟨rfl, rfl, rfl⟩ := h4
    refine q_st (st2 := [.int (-1)]) rfl ?_
    exact q_iret C dX12_readings_16 rfl (Nat.le_of_ble_eq_true rfl) (Nat.le_of_ble_eq_true rfl) rfl
set_option maxHeartbeats 4000000 in
set_option maxRecDepth 100000 in
theorem m_unreadable {l : Launch} {G : GT} {L : List Nat} {E : Nat → va_E} (t n most : Int32)  {h0 : Nat} {f : Nat → Value} (hL : h0 ∈ L) (hE : E h0 = ob 13 67 f) (f4 : f 4 = .int 0) : Mq l G yX12_unreadable cX12_unreadable 9 (some .int) 4 [.ref h0, .int t, .int n, .int most] L E 0 0 (fun v L2 E2 => v = some (.int (-1))) := by
  refine Mq.mk (by decide) (Nat.le_of_ble_eq_true rfl) ?_
  intro p e s m args below meth c A C
  refine q_iload_n (j := 2) C dX12_unreadable_0 rfl ?_
  refine q_iconst (v := 1) C dX12_unreadable_1 (by decide) ?_
  refine q_bipush (v := 6) C dX12_unreadable_2 (by decide) ?_
  refine q_callS (d2 := 0) (mc2 := 0) (ms2 := 0) (As := [.int n, .int 1, .int 6]) (rest := []) C (m_isIn n 1 6) dX12_unreadable_4 kS_X12_174 rfl rfl (Nat.le_of_ble_eq_true rfl) ⟨Nat.le_of_ble_eq_true rfl, Nat.le_of_ble_eq_true rfl⟩ ⟨Nat.le_of_ble_eq_true rfl, Nat.le_of_ble_eq_true rfl⟩ (fun vh1 Lh1 Eh1 h1 => ?_)
  obtain ⟨rfl, rfl, rfl⟩ := h1
  refine q_st (st2 := [.int (inn n 1 6)]) rfl ?_
  refine q_if_eq (tgt := 21) C dX12_unreadable_7 (by decide) (fun c1 => ?_) (fun c1 => ?_)
  · refine q_aload_n (j := 0) C dX12_unreadable_21 rfl ?_
    refine q_bipush (v := 6) C dX12_unreadable_22 (by decide) ?_
    refine q_callV (d2 := 0) (mc2 := 0) (ms2 := 0) (As := [.int 6]) (rest := []) C (c_bad 6 hL hE) dX12_unreadable_24 kV_X12_154 rfl hL hE ck_13 rfl (Nat.le_of_ble_eq_true rfl) ⟨Nat.le_of_ble_eq_true rfl, Nat.le_of_ble_eq_true rfl⟩ ⟨Nat.le_of_ble_eq_true rfl, Nat.le_of_ble_eq_true rfl⟩ (fun vh2 Lh2 Eh2 h2 => ?_)
    obtain ⟨rfl, rfl, rfl⟩ := h2
    refine q_st (st2 := [.int (-1)]) rfl ?_
    exact q_iret C dX12_unreadable_27 rfl (Nat.le_of_ble_eq_true rfl) (Nat.le_of_ble_eq_true rfl) rfl
  · refine q_iload_n (j := 3) C dX12_unreadable_10 rfl ?_
    refine q_iconst (v := 1) C dX12_unreadable_11 (by decide) ?_
    refine q_sipush (v := 5000) C dX12_unreadable_12 (by decide) ?_
    refine q_callS (d2 := 0) (mc2 := 0) (ms2 := 0) (As := [.int most, .int 1, .int 5000]) (rest := []) C (m_isIn most 1 5000) dX12_unreadable_15 kS_X12_174 rfl rfl (Nat.le_of_ble_eq_true rfl) ⟨Nat.le_of_ble_eq_true rfl, Nat.le_of_ble_eq_true rfl⟩ ⟨Nat.le_of_ble_eq_true rfl, Nat.le_of_ble_eq_true rfl⟩ (fun vh3 Lh3 Eh3 h3 => ?_)
    obtain ⟨rfl, rfl, rfl⟩ := h3
    refine q_st (st2 := [.int (inn most 1 5000)]) rfl ?_
    refine q_if_ne (tgt := 28) C dX12_unreadable_18 (by decide) (fun c2 => ?_) (fun c2 => ?_)
    · refine q_aload_n (j := 0) C dX12_unreadable_28 rfl ?_
      refine q_iload_n (j := 1) C dX12_unreadable_29 rfl ?_
      refine q_callV (d2 := 1) (mc2 := 0) (ms2 := 0) (As := [.int t]) (rest := []) C (m_isWhole (f := f) t hL hE f4) dX12_unreadable_30 kV_X12_171 rfl hL hE ck_13 rfl (Nat.le_of_ble_eq_true rfl) ⟨Nat.le_of_ble_eq_true rfl, Nat.le_of_ble_eq_true rfl⟩ ⟨Nat.le_of_ble_eq_true rfl, Nat.le_of_ble_eq_true rfl⟩ (fun vh4 Lh4 Eh4 h4 => ?_)
      obtain ⟨rfl, rfl, rfl⟩ := h4
      refine q_st (st2 := [.int 0]) rfl ?_
      refine q_if_ne (tgt := 42) C dX12_unreadable_33 (by decide) (fun z => absurd (by decide) z) (fun _ => ?_)
      refine q_aload_n (j := 0) C dX12_unreadable_36 rfl ?_
      refine q_iconst (v := 3) C dX12_unreadable_37 (by decide) ?_
      refine q_callV (d2 := 0) (mc2 := 0) (ms2 := 0) (As := [.int 3]) (rest := []) C (c_bad 3 hL hE) dX12_unreadable_38 kV_X12_154 rfl hL hE ck_13 rfl (Nat.le_of_ble_eq_true rfl) ⟨Nat.le_of_ble_eq_true rfl, Nat.le_of_ble_eq_true rfl⟩ ⟨Nat.le_of_ble_eq_true rfl, Nat.le_of_ble_eq_true rfl⟩ (fun vh5 Lh5 Eh5 h5 => ?_)
      obtain ⟨rfl, rfl, rfl⟩ := h5
      refine q_st (st2 := [.int (-1)]) rfl ?_
      exact q_iret C dX12_unreadable_41 rfl (Nat.le_of_ble_eq_true rfl) (Nat.le_of_ble_eq_true rfl) rfl
    · refine q_aload_n (j := 0) C dX12_unreadable_21 rfl ?_
      refine q_bipush (v := 6) C dX12_unreadable_22 (by decide) ?_
      refine q_callV (d2 := 0) (mc2 := 0) (ms2 := 0) (As := [.int 6]) (rest := []) C (c_bad 6 hL hE) dX12_unreadable_24 kV_X12_154 rfl hL hE ck_13 rfl (Nat.le_of_ble_eq_true rfl) ⟨Nat.le_of_ble_eq_true rfl, Nat.le_of_ble_eq_true rfl⟩ ⟨Nat.le_of_ble_eq_true rfl, Nat.le_of_ble_eq_true rfl⟩ (fun vh6 Lh6 Eh6 h6 => ?_)
      obtain ⟨rfl, rfl, rfl⟩ := h6
      refine q_st (st2 := [.int (-1)]) rfl ?_
      exact q_iret C dX12_unreadable_27 rfl (Nat.le_of_ble_eq_true rfl) (Nat.le_of_ble_eq_true rfl) rfl
set_option maxHeartbeats 4000000 in
set_option maxRecDepth 100000 in
theorem m_page {l : Launch} {G : GT} {L : List Nat} {E : Nat → va_E} (p0 l0 i : Int32)  {h0 : Nat} {f : Nat → Value} (hL : h0 ∈ L) (hE : E h0 = ob 13 67 f) (f32 : f 32 = .int 25) (f36 : f 36 = .int 0) (f41 : f 41 = .int 0) : Mq l G yX12_page cX12_page 5 (some .int) 4 [.ref h0, .int p0, .int l0, .int i] L E 0 0 (fun v L2 E2 => v = some (.int (-1))) := by
  refine Mq.mk (by decide) (Nat.le_of_ble_eq_true rfl) ?_
  intro p e s m args below meth c A C
  refine q_iload_n (j := 1) C dX12_page_0 rfl ?_
  refine q_iconst (v := 0) C dX12_page_1 (by decide) ?_
  refine q_aload_n (j := 0) C dX12_page_2 rfl ?_
  refine q_callV (d2 := 3) (mc2 := 0) (ms2 := 0) (As := []) (rest := [.int 0, .int p0]) C (m_pages (f := f)  hL hE f32 f36 f41) dX12_page_3 kV_X12_297 rfl hL hE ck_13 rfl (Nat.le_of_ble_eq_true rfl) ⟨Nat.le_of_ble_eq_true rfl, Nat.le_of_ble_eq_true rfl⟩ ⟨Nat.le_of_ble_eq_true rfl, Nat.le_of_ble_eq_true rfl⟩ (fun vh1 Lh1 Eh1 h1 => ?_)
  obtain ⟨rfl, rfl, rfl⟩ := h1
  refine q_st (st2 := [.int 0, .int 0, .int p0]) rfl ?_
  refine q_iconst (v := 1) C dX12_page_6 (by decide) ?_
  refine q_isub (v := (-1)) C dX12_page_7 (by decide) ?_
  refine q_callS (d2 := 0) (mc2 := 0) (ms2 := 0) (As := [.int p0, .int 0, .int (-1)]) (rest := []) C (m_isIn p0 0 (-1)) dX12_page_8 kS_X12_174 rfl rfl (Nat.le_of_ble_eq_true rfl) ⟨Nat.le_of_ble_eq_true rfl, Nat.le_of_ble_eq_true rfl⟩ ⟨Nat.le_of_ble_eq_true rfl, Nat.le_of_ble_eq_true rfl⟩ (fun vh2 Lh2 Eh2 h2 => ?_)
  obtain ⟨rfl, rfl, rfl⟩ := h2
  refine q_st (st2 := [.int (inn p0 0 (-1))]) rfl ?_
  refine q_if_ne (tgt := 20) C dX12_page_11 (by decide) (fun z => absurd (inn0 _) z) (fun _ => ?_)
  refine q_aload_n (j := 0) C dX12_page_14 rfl ?_
  refine q_iconst (v := 2) C dX12_page_15 (by decide) ?_
  refine q_callV (d2 := 0) (mc2 := 0) (ms2 := 0) (As := [.int 2]) (rest := []) C (c_bad 2 hL hE) dX12_page_16 kV_X12_154 rfl hL hE ck_13 rfl (Nat.le_of_ble_eq_true rfl) ⟨Nat.le_of_ble_eq_true rfl, Nat.le_of_ble_eq_true rfl⟩ ⟨Nat.le_of_ble_eq_true rfl, Nat.le_of_ble_eq_true rfl⟩ (fun vh3 Lh3 Eh3 h3 => ?_)
  obtain ⟨rfl, rfl, rfl⟩ := h3
  refine q_st (st2 := [.int (-1)]) rfl ?_
  exact q_iret C dX12_page_19 rfl (Nat.le_of_ble_eq_true rfl) (Nat.le_of_ble_eq_true rfl) rfl
set_option maxHeartbeats 4000000 in
set_option maxRecDepth 100000 in
theorem m_rule {l : Launch} {G : GT} {L : List Nat} {E : Nat → va_E} (t k n : Int32)  {h0 : Nat} {f : Nat → Value} (hL : h0 ∈ L) (hE : E h0 = ob 13 67 f) (f3 : f 3 = .int 0) (f4 : f 4 = .int 0) : Mq l G yX12_rule cX12_rule 8 (some .int) 4 [.ref h0, .int t, .int k, .int n] L E 0 0 (fun v L2 E2 => v = some (.int (-1))) := by
  refine Mq.mk (by decide) (Nat.le_of_ble_eq_true rfl) ?_
  intro p e s m args below meth c A C
  refine q_aload_n (j := 0) C dX12_rule_0 rfl ?_
  refine q_callV (d2 := 0) (mc2 := 0) (ms2 := 0) (As := []) (rest := []) C (m_taken hL hE f3) dX12_rule_1 kV_X12_192 rfl hL hE ck_13 rfl (Nat.le_of_ble_eq_true rfl) ⟨Nat.le_of_ble_eq_true rfl, Nat.le_of_ble_eq_true rfl⟩ ⟨Nat.le_of_ble_eq_true rfl, Nat.le_of_ble_eq_true rfl⟩ (fun vh1 Lh1 Eh1 h1 => ?_)
  obtain ⟨rfl, rfl, rfl⟩ := h1
  refine q_st (st2 := [.int 0]) rfl ?_
  refine q_istore (lv2 := [(4, .int 0), (0, .ref h0), (1, .int t), (2, .int k), (3, .int n)]) C dX12_rule_4 (by decide) rfl ?_
  refine q_aload_n (j := 1) C dX12_rule_6 rfl ?_
  refine q_iload_n (j := 2) C dX12_rule_7 rfl ?_
  refine q_callV (d2 := 0) (mc2 := 0) (ms2 := 0) (As := [.int t]) (rest := []) C (m_isTable (f := (va_up f 3 (.int 0))) t hL (va_up_self _ _ _) f4) dX12_rule_8 kV_X12_167 rfl hL (va_up_self _ _ _) ck_13 rfl (Nat.le_of_ble_eq_true rfl) ⟨Nat.le_of_ble_eq_true rfl, Nat.le_of_ble_eq_true rfl⟩ ⟨Nat.le_of_ble_eq_true rfl, Nat.le_of_ble_eq_true rfl⟩ (fun vh2 Lh2 Eh2 h2 => ?_)
  obtain ⟨rfl, rfl, rfl⟩ := h2
  refine q_st (st2 := [.int 0]) rfl ?_
  refine q_if_ne (tgt := 20) C dX12_rule_11 (by decide) (fun z => absurd (by decide) z) (fun _ => ?_)
  refine q_aload_n (j := 1) C dX12_rule_14 rfl ?_
  refine q_iconst (v := 3) C dX12_rule_15 (by decide) ?_
  refine q_callV (d2 := 0) (mc2 := 0) (ms2 := 0) (As := [.int 3]) (rest := []) C (c_bad 3 hL (va_up_self _ _ _)) dX12_rule_16 kV_X12_154 rfl hL (va_up_self _ _ _) ck_13 rfl (Nat.le_of_ble_eq_true rfl) ⟨Nat.le_of_ble_eq_true rfl, Nat.le_of_ble_eq_true rfl⟩ ⟨Nat.le_of_ble_eq_true rfl, Nat.le_of_ble_eq_true rfl⟩ (fun vh3 Lh3 Eh3 h3 => ?_)
  obtain ⟨rfl, rfl, rfl⟩ := h3
  refine q_st (st2 := [.int (-1)]) rfl ?_
  exact q_iret C dX12_rule_19 rfl (Nat.le_of_ble_eq_true rfl) (Nat.le_of_ble_eq_true rfl) rfl
set_option maxHeartbeats 4000000 in
set_option maxRecDepth 100000 in
theorem m_indicator {l : Launch} {G : GT} {L : List Nat} {E : Nat → va_E} (t k : Int32)  {h0 : Nat} {f : Nat → Value} (hL : h0 ∈ L) (hE : E h0 = ob 13 67 f) (f3 : f 3 = .int 0) (f4 : f 4 = .int 0) : Mq l G yX12_indicator cX12_indicator 8 (some .int) 4 [.ref h0, .int t, .int k] L E 0 0 (fun v L2 E2 => v = some (.int (-1))) := by
  refine Mq.mk (by decide) (Nat.le_of_ble_eq_true rfl) ?_
  intro p e s m args below meth c A C
  refine q_aload_n (j := 0) C dX12_indicator_0 rfl ?_
  refine q_callV (d2 := 0) (mc2 := 0) (ms2 := 0) (As := []) (rest := []) C (m_taken hL hE f3) dX12_indicator_1 kV_X12_192 rfl hL hE ck_13 rfl (Nat.le_of_ble_eq_true rfl) ⟨Nat.le_of_ble_eq_true rfl, Nat.le_of_ble_eq_true rfl⟩ ⟨Nat.le_of_ble_eq_true rfl, Nat.le_of_ble_eq_true rfl⟩ (fun vh1 Lh1 Eh1 h1 => ?_)
  obtain ⟨rfl, rfl, rfl⟩ := h1
  refine q_st (st2 := [.int 0]) rfl ?_
  refine q_istore_n (lv2 := [(3, .int 0), (0, .ref h0), (1, .int t), (2, .int k)]) C dX12_indicator_4 (by decide) rfl ?_
  refine q_iload_n (j := 3) C dX12_indicator_5 rfl ?_
  refine q_iconst (v := 0) C dX12_indicator_6 (by decide) ?_
  refine q_iconst (v := 3) C dX12_indicator_7 (by decide) ?_
  refine q_callS (d2 := 0) (mc2 := 0) (ms2 := 0) (As := [.int k, .int 0, .int 3]) (rest := []) C (m_isIn k 0 3) dX12_indicator_8 kS_X12_174 rfl rfl (Nat.le_of_ble_eq_true rfl) ⟨Nat.le_of_ble_eq_true rfl, Nat.le_of_ble_eq_true rfl⟩ ⟨Nat.le_of_ble_eq_true rfl, Nat.le_of_ble_eq_true rfl⟩ (fun vh2 Lh2 Eh2 h2 => ?_)
  obtain ⟨rfl, rfl, rfl⟩ := h2
  refine q_st (st2 := [.int (inn k 0 3)]) rfl ?_
  refine q_if_ne (tgt := 21) C dX12_indicator_11 (by decide) (fun c1 => ?_) (fun c1 => ?_)
  · refine q_aload_n (j := 1) C dX12_indicator_21 rfl ?_
    refine q_iload_n (j := 2) C dX12_indicator_22 rfl ?_
    refine q_callV (d2 := 0) (mc2 := 0) (ms2 := 0) (As := [.int t]) (rest := []) C (m_isTable (f := (va_up f 3 (.int 0))) t hL (va_up_self _ _ _) f4) dX12_indicator_23 kV_X12_167 rfl hL (va_up_self _ _ _) ck_13 rfl (Nat.le_of_ble_eq_true rfl) ⟨Nat.le_of_ble_eq_true rfl, Nat.le_of_ble_eq_true rfl⟩ ⟨Nat.le_of_ble_eq_true rfl, Nat.le_of_ble_eq_true rfl⟩ (fun vh3 Lh3 Eh3 h3 => ?_)
    obtain ⟨rfl, rfl, rfl⟩ := h3
    refine q_st (st2 := [.int 0]) rfl ?_
    refine q_if_ne (tgt := 35) C dX12_indicator_26 (by decide) (fun z => absurd (by decide) z) (fun _ => ?_)
    refine q_aload_n (j := 1) C dX12_indicator_29 rfl ?_
    refine q_iconst (v := 3) C dX12_indicator_30 (by decide) ?_
    refine q_callV (d2 := 0) (mc2 := 0) (ms2 := 0) (As := [.int 3]) (rest := []) C (c_bad 3 hL (va_up_self _ _ _)) dX12_indicator_31 kV_X12_154 rfl hL (va_up_self _ _ _) ck_13 rfl (Nat.le_of_ble_eq_true rfl) ⟨Nat.le_of_ble_eq_true rfl, Nat.le_of_ble_eq_true rfl⟩ ⟨Nat.le_of_ble_eq_true rfl, Nat.le_of_ble_eq_true rfl⟩ (fun vh4 Lh4 Eh4 h4 => ?_)
    obtain ⟨rfl, rfl, rfl⟩ := h4
    refine q_st (st2 := [.int (-1)]) rfl ?_
    exact q_iret C dX12_indicator_34 rfl (Nat.le_of_ble_eq_true rfl) (Nat.le_of_ble_eq_true rfl) rfl
  · refine q_aload_n (j := 1) C dX12_indicator_14 rfl ?_
    refine q_bipush (v := 6) C dX12_indicator_15 (by decide) ?_
    refine q_callV (d2 := 0) (mc2 := 0) (ms2 := 0) (As := [.int 6]) (rest := []) C (c_bad 6 hL (va_up_self _ _ _)) dX12_indicator_17 kV_X12_154 rfl hL (va_up_self _ _ _) ck_13 rfl (Nat.le_of_ble_eq_true rfl) ⟨Nat.le_of_ble_eq_true rfl, Nat.le_of_ble_eq_true rfl⟩ ⟨Nat.le_of_ble_eq_true rfl, Nat.le_of_ble_eq_true rfl⟩ (fun vh5 Lh5 Eh5 h5 => ?_)
    obtain ⟨rfl, rfl, rfl⟩ := h5
    refine q_st (st2 := [.int (-1)]) rfl ?_
    exact q_iret C dX12_indicator_20 rfl (Nat.le_of_ble_eq_true rfl) (Nat.le_of_ble_eq_true rfl) rfl
set_option maxHeartbeats 4000000 in
set_option maxRecDepth 100000 in
theorem m_text {l : Launch} {G : GT} {L : List Nat} {E : Nat → va_E}  {h0 : Nat} {f : Nat → Value} (hL : h0 ∈ L) (hE : E h0 = ob 13 67 f) (f3 : f 3 = .int 0) (f30 : f 30 = .int 0) : Mq l G yX12_text cX12_text 4 (some .int) 4 [.ref h0] L E 0 0 (fun v L2 E2 => v = some (.int 0)) := by
  refine Mq.mk (by decide) (Nat.le_of_ble_eq_true rfl) ?_
  intro p e s m args below meth c A C
  refine q_aload_n (j := 0) C dX12_text_0 rfl ?_
  refine q_callV (d2 := 0) (mc2 := 0) (ms2 := 0) (As := []) (rest := []) C (m_taken hL hE f3) dX12_text_1 kV_X12_192 rfl hL hE ck_13 rfl (Nat.le_of_ble_eq_true rfl) ⟨Nat.le_of_ble_eq_true rfl, Nat.le_of_ble_eq_true rfl⟩ ⟨Nat.le_of_ble_eq_true rfl, Nat.le_of_ble_eq_true rfl⟩ (fun vh1 Lh1 Eh1 h1 => ?_)
  obtain ⟨rfl, rfl, rfl⟩ := h1
  refine q_st (st2 := [.int 0]) rfl ?_
  refine q_istore_n (lv2 := [(1, .int 0), (0, .ref h0)]) C dX12_text_4 (by decide) rfl ?_
  refine q_iconst (v := 1) C dX12_text_5 (by decide) ?_
  refine q_istore_n (lv2 := [(2, .int 1), (1, .int 0), (0, .ref h0)]) C dX12_text_6 (by decide) rfl ?_
  refine q_iconst (v := 0) C dX12_text_7 (by decide) ?_
  refine q_istore_n (lv2 := [(3, .int 0), (2, .int 1), (1, .int 0), (0, .ref h0)]) C dX12_text_8 (by decide) rfl ?_
  refine q_iload_n (j := 0) C dX12_text_9 rfl ?_
  refine q_iload_n (j := 2) C dX12_text_10 rfl ?_
  refine q_icmp_ge (tgt := 57) C dX12_text_11 (by decide) (fun _ => ?_) (fun z => absurd (by decide) z)
  refine q_iload_n (j := 1) C dX12_text_57 rfl ?_
  refine q_if_eq (tgt := 73) C dX12_text_58 (by decide) (fun z => absurd z (by decide)) (fun _ => ?_)
  refine q_aload_n (j := 3) C dX12_text_61 rfl ?_
  refine q_get (k := 30) (v := .int 0) C ck_13 dX12_text_62 w6_89 (by decide) hL (va_up_self _ _ _) f30 ?_
  refine q_iload_n (j := 2) C dX12_text_65 rfl ?_
  refine q_iadd (v := 0) C dX12_text_66 (by decide) ?_
  refine q_sipush (v := 500) C dX12_text_67 (by decide) ?_
  refine q_icmp_le (tgt := 80) C dX12_text_70 (by decide) (fun _ => ?_) (fun z => absurd (by decide) z)
  refine q_iconst (v := 0) C dX12_text_80 (by decide) ?_
  refine q_istore_n (lv2 := [(3, .int 0), (2, .int 1), (1, .int 0), (0, .ref h0)]) C dX12_text_81 (by decide) rfl ?_
  refine q_iload_n (j := 0) C dX12_text_82 rfl ?_
  refine q_iload_n (j := 2) C dX12_text_83 rfl ?_
  refine q_icmp_ge (tgt := 110) C dX12_text_84 (by decide) (fun _ => ?_) (fun z => absurd (by decide) z)
  refine q_aload_n (j := 3) C dX12_text_110 rfl ?_
  refine q_iload_n (j := 2) C dX12_text_111 rfl ?_
  refine q_if_ne (tgt := 119) C dX12_text_112 (by decide) (fun z => absurd (by decide) z) (fun _ => ?_)
  refine q_iconst (v := 0) C dX12_text_115 (by decide) ?_
  refine q_goto (tgt := 125) C dX12_text_116 (by decide) ?_
  refine q_put (k := 30) C ck_13 dX12_text_125 w6_89 (by decide) rfl hL (va_up_self _ _ _) rfl rfl ?_
  refine q_aload_n (j := 3) C dX12_text_128 rfl ?_
  refine q_aload_n (j := 3) C dX12_text_129 rfl ?_
  refine q_get (k := 30) (v := .int 0) C ck_13 dX12_text_130 w6_89 (by decide) hL (va_up_self _ _ _) rfl ?_
  refine q_callV (d2 := 0) (mc2 := 0) (ms2 := 0) (As := [.int 0]) (rest := []) C (c_fine 0 hL (va_up_self _ _ _)) dX12_text_133 kV_X12_158 rfl hL (va_up_self _ _ _) ck_13 rfl (Nat.le_of_ble_eq_true rfl) ⟨Nat.le_of_ble_eq_true rfl, Nat.le_of_ble_eq_true rfl⟩ ⟨Nat.le_of_ble_eq_true rfl, Nat.le_of_ble_eq_true rfl⟩ (fun vh2 Lh2 Eh2 h2 => ?_)
  obtain ⟨rfl, rfl, rfl⟩ := h2
  refine q_st (st2 := [.int 0]) rfl ?_
  exact q_iret C dX12_text_136 rfl (Nat.le_of_ble_eq_true rfl) (Nat.le_of_ble_eq_true rfl) rfl
set_option maxHeartbeats 4000000 in
set_option maxRecDepth 100000 in
theorem m_head {l : Launch} {G : GT} {L : List Nat} {E : Nat → va_E} (t : Int32)  {h0 : Nat} {f : Nat → Value} (hL : h0 ∈ L) (hE : E h0 = ob 13 67 f) (f3 : f 3 = .int 0) (f4 : f 4 = .int 0) : Mq l G yX12_head cX12_head 5 (some .int) 4 [.ref h0, .int t] L E 0 0 (fun v L2 E2 => v = some (.int (-1))) := by
  refine Mq.mk (by decide) (Nat.le_of_ble_eq_true rfl) ?_
  intro p e s m args below meth c A C
  refine q_aload_n (j := 0) C dX12_head_0 rfl ?_
  refine q_callV (d2 := 0) (mc2 := 0) (ms2 := 0) (As := []) (rest := []) C (m_taken hL hE f3) dX12_head_1 kV_X12_192 rfl hL hE ck_13 rfl (Nat.le_of_ble_eq_true rfl) ⟨Nat.le_of_ble_eq_true rfl, Nat.le_of_ble_eq_true rfl⟩ ⟨Nat.le_of_ble_eq_true rfl, Nat.le_of_ble_eq_true rfl⟩ (fun vh1 Lh1 Eh1 h1 => ?_)
  obtain ⟨rfl, rfl, rfl⟩ := h1
  refine q_st (st2 := [.int 0]) rfl ?_
  refine q_istore_n (lv2 := [(2, .int 0), (0, .ref h0), (1, .int t)]) C dX12_head_4 (by decide) rfl ?_
  refine q_iload_n (j := 0) C dX12_head_5 rfl ?_
  refine q_bipush (v := 40) C dX12_head_6 (by decide) ?_
  refine q_icmp_gt (tgt := 15) C dX12_head_8 (by decide) (fun z => absurd z (by decide)) (fun _ => ?_)
  refine q_iconst (v := 1) C dX12_head_11 (by decide) ?_
  refine q_goto (tgt := 16) C dX12_head_12 (by decide) ?_
  refine q_istore_n (lv2 := [(3, .int 1), (2, .int 0), (0, .ref h0), (1, .int t)]) C dX12_head_16 (by decide) rfl ?_
  refine q_iconst (v := 0) C dX12_head_17 (by decide) ?_
  refine q_istore (lv2 := [(4, .int 0), (3, .int 1), (2, .int 0), (0, .ref h0), (1, .int t)]) C dX12_head_18 (by decide) rfl ?_
  refine q_iload (j := 0) C dX12_head_20 rfl ?_
  refine q_iload_n (j := 2) C dX12_head_22 rfl ?_
  refine q_icmp_ge (tgt := 47) C dX12_head_23 (by decide) (fun _ => ?_) (fun z => absurd (by decide) z)
  refine q_iload_n (j := 1) C dX12_head_47 rfl ?_
  refine q_if_ne (tgt := 58) C dX12_head_48 (by decide) (fun _ => ?_) (fun z => absurd z (by decide))
  refine q_aload_n (j := 3) C dX12_head_58 rfl ?_
  refine q_iload_n (j := 4) C dX12_head_59 rfl ?_
  refine q_callV (d2 := 1) (mc2 := 0) (ms2 := 0) (As := [.int t]) (rest := []) C (m_isWhole (f := (va_up f 3 (.int 0))) t hL (va_up_self _ _ _) f4) dX12_head_60 kV_X12_171 rfl hL (va_up_self _ _ _) ck_13 rfl (Nat.le_of_ble_eq_true rfl) ⟨Nat.le_of_ble_eq_true rfl, Nat.le_of_ble_eq_true rfl⟩ ⟨Nat.le_of_ble_eq_true rfl, Nat.le_of_ble_eq_true rfl⟩ (fun vh2 Lh2 Eh2 h2 => ?_)
  obtain ⟨rfl, rfl, rfl⟩ := h2
  refine q_st (st2 := [.int 0]) rfl ?_
  refine q_if_ne (tgt := 72) C dX12_head_63 (by decide) (fun z => absurd (by decide) z) (fun _ => ?_)
  refine q_aload_n (j := 3) C dX12_head_66 rfl ?_
  refine q_iconst (v := 3) C dX12_head_67 (by decide) ?_
  refine q_callV (d2 := 0) (mc2 := 0) (ms2 := 0) (As := [.int 3]) (rest := []) C (c_bad 3 hL (va_up_self _ _ _)) dX12_head_68 kV_X12_154 rfl hL (va_up_self _ _ _) ck_13 rfl (Nat.le_of_ble_eq_true rfl) ⟨Nat.le_of_ble_eq_true rfl, Nat.le_of_ble_eq_true rfl⟩ ⟨Nat.le_of_ble_eq_true rfl, Nat.le_of_ble_eq_true rfl⟩ (fun vh3 Lh3 Eh3 h3 => ?_)
  obtain ⟨rfl, rfl, rfl⟩ := h3
  refine q_st (st2 := [.int (-1)]) rfl ?_
  exact q_iret C dX12_head_71 rfl (Nat.le_of_ble_eq_true rfl) (Nat.le_of_ble_eq_true rfl) rfl
set_option maxHeartbeats 4000000 in
set_option maxRecDepth 100000 in
theorem m_end {l : Launch} {G : GT} {L : List Nat} {E : Nat → va_E} (n : Int32)  {h0 : Nat} {f : Nat → Value} (hL : h0 ∈ L) (hE : E h0 = ob 13 67 f) (f3 : f 3 = .int 0) : Mq l G yX12_end cX12_end 2 (some .int) 4 [.ref h0, .int n] L E 0 0 (fun v L2 E2 => v = some (.int (an_end n))) := by
  refine Mq.mk (by decide) (Nat.le_of_ble_eq_true rfl) ?_
  intro p e s m args below meth c A C
  refine q_iload_n (j := 1) C dX12_end_0 rfl ?_
  refine q_if_ge (tgt := 10) C dX12_end_1 (by decide) (fun c1 => ?_) (fun c1 => ?_)
  · refine q_iload_n (j := 1) C dX12_end_10 rfl ?_
    refine q_aload_n (j := 0) C dX12_end_11 rfl ?_
    refine q_get (k := 3) (v := .int 0) C ck_13 dX12_end_12 w6_62 (by decide) hL hE f3 ?_
    refine q_icmp_le (tgt := 25) C dX12_end_15 (by decide) (fun c2 => ?_) (fun c2 => ?_)
    · refine q_aload_n (j := 0) C dX12_end_25 rfl ?_
      refine q_iload_n (j := 1) C dX12_end_26 rfl ?_
      refine q_put (k := 3) C ck_13 dX12_end_27 w6_62 (by decide) rfl hL hE rfl rfl ?_
      refine q_aload_n (j := 0) C dX12_end_30 rfl ?_
      refine q_iload_n (j := 1) C dX12_end_31 rfl ?_
      refine q_callV (d2 := 0) (mc2 := 0) (ms2 := 0) (As := [.int n]) (rest := []) C (c_fine n hL (va_up_self _ _ _)) dX12_end_32 kV_X12_158 rfl hL (va_up_self _ _ _) ck_13 rfl (Nat.le_of_ble_eq_true rfl) ⟨Nat.le_of_ble_eq_true rfl, Nat.le_of_ble_eq_true rfl⟩ ⟨Nat.le_of_ble_eq_true rfl, Nat.le_of_ble_eq_true rfl⟩ (fun vh1 Lh1 Eh1 h1 => ?_)
      obtain ⟨rfl, rfl, rfl⟩ := h1
      refine q_st (st2 := [.int n]) rfl ?_
      exact q_iret C dX12_end_35 rfl (Nat.le_of_ble_eq_true rfl) (Nat.le_of_ble_eq_true rfl) (by refine congrArg (fun z => some (Value.int z)) ?_; unfold an_end; (try simp only [inn_f, Decidable.not_not] at c1); (try simp only [i32_lt, i32_le, i32_eq, inn_f, Decidable.not_not, tn_m1, tn_0, tn_1, tn_2, tn_3, tn_4, tn_5, tn_6, tn_7, tn_8, tn_10, tn_30, tn_31, tn_32, tn_36, tn_40, tn_50, tn_100, tn_126, tn_200, tn_255, tn_500, tn_512, tn_3000, tn_5000] at c1); (try simp only [inn_f, Decidable.not_not] at c2); (try simp only [i32_lt, i32_le, i32_eq, inn_f, Decidable.not_not, tn_m1, tn_0, tn_1, tn_2, tn_3, tn_4, tn_5, tn_6, tn_7, tn_8, tn_10, tn_30, tn_31, tn_32, tn_36, tn_40, tn_50, tn_100, tn_126, tn_200, tn_255, tn_500, tn_512, tn_3000, tn_5000] at c2); split <;> rename_i hz <;> (try simp only [i32_lt, i32_le, i32_eq, inn_f, Decidable.not_not, tn_m1, tn_0, tn_1, tn_2, tn_3, tn_4, tn_5, tn_6, tn_7, tn_8, tn_10, tn_30, tn_31, tn_32, tn_36, tn_40, tn_50, tn_100, tn_126, tn_200, tn_255, tn_500, tn_512, tn_3000, tn_5000] at hz) <;> first | rfl | (exfalso; omega) | (rw [i32_eq]; simp only [i32_lt, i32_le, i32_eq, inn_f, Decidable.not_not, tn_m1, tn_0, tn_1, tn_2, tn_3, tn_4, tn_5, tn_6, tn_7, tn_8, tn_10, tn_30, tn_31, tn_32, tn_36, tn_40, tn_50, tn_100, tn_126, tn_200, tn_255, tn_500, tn_512, tn_3000, tn_5000]; omega))
    · refine q_aload_n (j := 0) C dX12_end_18 rfl ?_
      refine q_bipush (v := 6) C dX12_end_19 (by decide) ?_
      refine q_callV (d2 := 0) (mc2 := 0) (ms2 := 0) (As := [.int 6]) (rest := []) C (c_bad 6 hL hE) dX12_end_21 kV_X12_154 rfl hL hE ck_13 rfl (Nat.le_of_ble_eq_true rfl) ⟨Nat.le_of_ble_eq_true rfl, Nat.le_of_ble_eq_true rfl⟩ ⟨Nat.le_of_ble_eq_true rfl, Nat.le_of_ble_eq_true rfl⟩ (fun vh2 Lh2 Eh2 h2 => ?_)
      obtain ⟨rfl, rfl, rfl⟩ := h2
      refine q_st (st2 := [.int (-1)]) rfl ?_
      exact q_iret C dX12_end_24 rfl (Nat.le_of_ble_eq_true rfl) (Nat.le_of_ble_eq_true rfl) (by refine congrArg (fun z => some (Value.int z)) ?_; unfold an_end; (try simp only [inn_f, Decidable.not_not] at c1); (try simp only [i32_lt, i32_le, i32_eq, inn_f, Decidable.not_not, tn_m1, tn_0, tn_1, tn_2, tn_3, tn_4, tn_5, tn_6, tn_7, tn_8, tn_10, tn_30, tn_31, tn_32, tn_36, tn_40, tn_50, tn_100, tn_126, tn_200, tn_255, tn_500, tn_512, tn_3000, tn_5000] at c1); (try simp only [inn_f, Decidable.not_not] at c2); (try simp only [i32_lt, i32_le, i32_eq, inn_f, Decidable.not_not, tn_m1, tn_0, tn_1, tn_2, tn_3, tn_4, tn_5, tn_6, tn_7, tn_8, tn_10, tn_30, tn_31, tn_32, tn_36, tn_40, tn_50, tn_100, tn_126, tn_200, tn_255, tn_500, tn_512, tn_3000, tn_5000] at c2); split <;> rename_i hz <;> (try simp only [i32_lt, i32_le, i32_eq, inn_f, Decidable.not_not, tn_m1, tn_0, tn_1, tn_2, tn_3, tn_4, tn_5, tn_6, tn_7, tn_8, tn_10, tn_30, tn_31, tn_32, tn_36, tn_40, tn_50, tn_100, tn_126, tn_200, tn_255, tn_500, tn_512, tn_3000, tn_5000] at hz) <;> first | rfl | (exfalso; omega) | (rw [i32_eq]; simp only [i32_lt, i32_le, i32_eq, inn_f, Decidable.not_not, tn_m1, tn_0, tn_1, tn_2, tn_3, tn_4, tn_5, tn_6, tn_7, tn_8, tn_10, tn_30, tn_31, tn_32, tn_36, tn_40, tn_50, tn_100, tn_126, tn_200, tn_255, tn_500, tn_512, tn_3000, tn_5000]; omega))
  · refine q_aload_n (j := 0) C dX12_end_4 rfl ?_
    refine q_iconst (v := 5) C dX12_end_5 (by decide) ?_
    refine q_callV (d2 := 0) (mc2 := 0) (ms2 := 0) (As := [.int 5]) (rest := []) C (c_bad 5 hL hE) dX12_end_6 kV_X12_154 rfl hL hE ck_13 rfl (Nat.le_of_ble_eq_true rfl) ⟨Nat.le_of_ble_eq_true rfl, Nat.le_of_ble_eq_true rfl⟩ ⟨Nat.le_of_ble_eq_true rfl, Nat.le_of_ble_eq_true rfl⟩ (fun vh3 Lh3 Eh3 h3 => ?_)
    obtain ⟨rfl, rfl, rfl⟩ := h3
    refine q_st (st2 := [.int (-1)]) rfl ?_
    exact q_iret C dX12_end_9 rfl (Nat.le_of_ble_eq_true rfl) (Nat.le_of_ble_eq_true rfl) (by refine congrArg (fun z => some (Value.int z)) ?_; unfold an_end; (try simp only [inn_f, Decidable.not_not] at c1); (try simp only [i32_lt, i32_le, i32_eq, inn_f, Decidable.not_not, tn_m1, tn_0, tn_1, tn_2, tn_3, tn_4, tn_5, tn_6, tn_7, tn_8, tn_10, tn_30, tn_31, tn_32, tn_36, tn_40, tn_50, tn_100, tn_126, tn_200, tn_255, tn_500, tn_512, tn_3000, tn_5000] at c1); split <;> rename_i hz <;> (try simp only [i32_lt, i32_le, i32_eq, inn_f, Decidable.not_not, tn_m1, tn_0, tn_1, tn_2, tn_3, tn_4, tn_5, tn_6, tn_7, tn_8, tn_10, tn_30, tn_31, tn_32, tn_36, tn_40, tn_50, tn_100, tn_126, tn_200, tn_255, tn_500, tn_512, tn_3000, tn_5000] at hz) <;> first | rfl | (exfalso; omega) | (rw [i32_eq]; simp only [i32_lt, i32_le, i32_eq, inn_f, Decidable.not_not, tn_m1, tn_0, tn_1, tn_2, tn_3, tn_4, tn_5, tn_6, tn_7, tn_8, tn_10, tn_30, tn_31, tn_32, tn_36, tn_40, tn_50, tn_100, tn_126, tn_200, tn_255, tn_500, tn_512, tn_3000, tn_5000]; omega))
set_option maxHeartbeats 4000000 in
set_option maxRecDepth 100000 in
theorem m_measure {l : Launch} {G : GT} {L : List Nat} {E : Nat → va_E} (w h y : Int32)  {h0 : Nat} {f : Nat → Value} (hL : h0 ∈ L) (hE : E h0 = ob 13 67 f) : Mq l G yX12_measure cX12_measure 4 (some .int) 4 [.ref h0, .int w, .int h, .int y] L E 0 0 (fun v L2 E2 => v = some (.int (an_meas w h y))) := by
  refine Mq.mk (by decide) (Nat.le_of_ble_eq_true rfl) ?_
  intro p e s m args below meth c A C
  refine q_iload_n (j := 1) C dX12_measure_0 rfl ?_
  refine q_iconst (v := 1) C dX12_measure_1 (by decide) ?_
  refine q_bipush (v := 100) C dX12_measure_2 (by decide) ?_
  refine q_callS (d2 := 0) (mc2 := 0) (ms2 := 0) (As := [.int w, .int 1, .int 100]) (rest := []) C (m_isIn w 1 100) dX12_measure_4 kS_X12_174 rfl rfl (Nat.le_of_ble_eq_true rfl) ⟨Nat.le_of_ble_eq_true rfl, Nat.le_of_ble_eq_true rfl⟩ ⟨Nat.le_of_ble_eq_true rfl, Nat.le_of_ble_eq_true rfl⟩ (fun vh1 Lh1 Eh1 h1 => ?_)
  obtain ⟨rfl, rfl, rfl⟩ := h1
  refine q_st (st2 := [.int (inn w 1 100)]) rfl ?_
  refine q_if_eq (tgt := 31) C dX12_measure_7 (by decide) (fun c1 => ?_) (fun c1 => ?_)
  · refine q_aload_n (j := 0) C dX12_measure_31 rfl ?_
    refine q_bipush (v := 6) C dX12_measure_32 (by decide) ?_
    refine q_callV (d2 := 0) (mc2 := 0) (ms2 := 0) (As := [.int 6]) (rest := []) C (c_bad 6 hL hE) dX12_measure_34 kV_X12_154 rfl hL hE ck_13 rfl (Nat.le_of_ble_eq_true rfl) ⟨Nat.le_of_ble_eq_true rfl, Nat.le_of_ble_eq_true rfl⟩ ⟨Nat.le_of_ble_eq_true rfl, Nat.le_of_ble_eq_true rfl⟩ (fun vh2 Lh2 Eh2 h2 => ?_)
    obtain ⟨rfl, rfl, rfl⟩ := h2
    refine q_st (st2 := [.int (-1)]) rfl ?_
    exact q_iret C dX12_measure_37 rfl (Nat.le_of_ble_eq_true rfl) (Nat.le_of_ble_eq_true rfl) (by refine congrArg (fun z => some (Value.int z)) ?_; unfold an_meas; (try simp only [inn_f, Decidable.not_not] at c1); (try simp only [i32_lt, i32_le, i32_eq, inn_f, Decidable.not_not, tn_m1, tn_0, tn_1, tn_2, tn_3, tn_4, tn_5, tn_6, tn_7, tn_8, tn_10, tn_30, tn_31, tn_32, tn_36, tn_40, tn_50, tn_100, tn_126, tn_200, tn_255, tn_500, tn_512, tn_3000, tn_5000] at c1); split <;> rename_i hz <;> (try simp only [i32_lt, i32_le, i32_eq, inn_f, Decidable.not_not, tn_m1, tn_0, tn_1, tn_2, tn_3, tn_4, tn_5, tn_6, tn_7, tn_8, tn_10, tn_30, tn_31, tn_32, tn_36, tn_40, tn_50, tn_100, tn_126, tn_200, tn_255, tn_500, tn_512, tn_3000, tn_5000] at hz) <;> first | rfl | (exfalso; omega) | (rw [i32_eq]; simp only [i32_lt, i32_le, i32_eq, inn_f, Decidable.not_not, tn_m1, tn_0, tn_1, tn_2, tn_3, tn_4, tn_5, tn_6, tn_7, tn_8, tn_10, tn_30, tn_31, tn_32, tn_36, tn_40, tn_50, tn_100, tn_126, tn_200, tn_255, tn_500, tn_512, tn_3000, tn_5000]; omega))
  · refine q_iload_n (j := 2) C dX12_measure_10 rfl ?_
    refine q_iconst (v := 1) C dX12_measure_11 (by decide) ?_
    refine q_bipush (v := 50) C dX12_measure_12 (by decide) ?_
    refine q_callS (d2 := 0) (mc2 := 0) (ms2 := 0) (As := [.int h, .int 1, .int 50]) (rest := []) C (m_isIn h 1 50) dX12_measure_14 kS_X12_174 rfl rfl (Nat.le_of_ble_eq_true rfl) ⟨Nat.le_of_ble_eq_true rfl, Nat.le_of_ble_eq_true rfl⟩ ⟨Nat.le_of_ble_eq_true rfl, Nat.le_of_ble_eq_true rfl⟩ (fun vh3 Lh3 Eh3 h3 => ?_)
    obtain ⟨rfl, rfl, rfl⟩ := h3
    refine q_st (st2 := [.int (inn h 1 50)]) rfl ?_
    refine q_if_eq (tgt := 31) C dX12_measure_17 (by decide) (fun c2 => ?_) (fun c2 => ?_)
    · refine q_aload_n (j := 0) C dX12_measure_31 rfl ?_
      refine q_bipush (v := 6) C dX12_measure_32 (by decide) ?_
      refine q_callV (d2 := 0) (mc2 := 0) (ms2 := 0) (As := [.int 6]) (rest := []) C (c_bad 6 hL hE) dX12_measure_34 kV_X12_154 rfl hL hE ck_13 rfl (Nat.le_of_ble_eq_true rfl) ⟨Nat.le_of_ble_eq_true rfl, Nat.le_of_ble_eq_true rfl⟩ ⟨Nat.le_of_ble_eq_true rfl, Nat.le_of_ble_eq_true rfl⟩ (fun vh4 Lh4 Eh4 h4 => ?_)
      obtain ⟨rfl, rfl, rfl⟩ := h4
      refine q_st (st2 := [.int (-1)]) rfl ?_
      exact q_iret C dX12_measure_37 rfl (Nat.le_of_ble_eq_true rfl) (Nat.le_of_ble_eq_true rfl) (by refine congrArg (fun z => some (Value.int z)) ?_; unfold an_meas; (try simp only [inn_f, Decidable.not_not] at c1); (try simp only [i32_lt, i32_le, i32_eq, inn_f, Decidable.not_not, tn_m1, tn_0, tn_1, tn_2, tn_3, tn_4, tn_5, tn_6, tn_7, tn_8, tn_10, tn_30, tn_31, tn_32, tn_36, tn_40, tn_50, tn_100, tn_126, tn_200, tn_255, tn_500, tn_512, tn_3000, tn_5000] at c1); (try simp only [inn_f, Decidable.not_not] at c2); (try simp only [i32_lt, i32_le, i32_eq, inn_f, Decidable.not_not, tn_m1, tn_0, tn_1, tn_2, tn_3, tn_4, tn_5, tn_6, tn_7, tn_8, tn_10, tn_30, tn_31, tn_32, tn_36, tn_40, tn_50, tn_100, tn_126, tn_200, tn_255, tn_500, tn_512, tn_3000, tn_5000] at c2); split <;> rename_i hz <;> (try simp only [i32_lt, i32_le, i32_eq, inn_f, Decidable.not_not, tn_m1, tn_0, tn_1, tn_2, tn_3, tn_4, tn_5, tn_6, tn_7, tn_8, tn_10, tn_30, tn_31, tn_32, tn_36, tn_40, tn_50, tn_100, tn_126, tn_200, tn_255, tn_500, tn_512, tn_3000, tn_5000] at hz) <;> first | rfl | (exfalso; omega) | (rw [i32_eq]; simp only [i32_lt, i32_le, i32_eq, inn_f, Decidable.not_not, tn_m1, tn_0, tn_1, tn_2, tn_3, tn_4, tn_5, tn_6, tn_7, tn_8, tn_10, tn_30, tn_31, tn_32, tn_36, tn_40, tn_50, tn_100, tn_126, tn_200, tn_255, tn_500, tn_512, tn_3000, tn_5000]; omega))
    · refine q_iload_n (j := 3) C dX12_measure_20 rfl ?_
      refine q_iconst (v := 1) C dX12_measure_21 (by decide) ?_
      refine q_sipush (v := 255) C dX12_measure_22 (by decide) ?_
      refine q_callS (d2 := 0) (mc2 := 0) (ms2 := 0) (As := [.int y, .int 1, .int 255]) (rest := []) C (m_isIn y 1 255) dX12_measure_25 kS_X12_174 rfl rfl (Nat.le_of_ble_eq_true rfl) ⟨Nat.le_of_ble_eq_true rfl, Nat.le_of_ble_eq_true rfl⟩ ⟨Nat.le_of_ble_eq_true rfl, Nat.le_of_ble_eq_true rfl⟩ (fun vh5 Lh5 Eh5 h5 => ?_)
      obtain ⟨rfl, rfl, rfl⟩ := h5
      refine q_st (st2 := [.int (inn y 1 255)]) rfl ?_
      refine q_if_ne (tgt := 38) C dX12_measure_28 (by decide) (fun c3 => ?_) (fun c3 => ?_)
      · refine q_aload_n (j := 0) C dX12_measure_38 rfl ?_
        refine q_iload_n (j := 1) C dX12_measure_39 rfl ?_
        refine q_put (k := 31) C ck_13 dX12_measure_40 w6_90 (by decide) rfl hL hE rfl rfl ?_
        refine q_aload_n (j := 0) C dX12_measure_43 rfl ?_
        refine q_iload_n (j := 2) C dX12_measure_44 rfl ?_
        refine q_put (k := 32) C ck_13 dX12_measure_45 w6_91 (by decide) rfl hL (va_up_self _ _ _) rfl rfl ?_
        refine q_aload_n (j := 0) C dX12_measure_48 rfl ?_
        refine q_iload_n (j := 3) C dX12_measure_49 rfl ?_
        refine q_put (k := 33) C ck_13 dX12_measure_50 w6_92 (by decide) rfl hL (va_up_self _ _ _) rfl rfl ?_
        refine q_aload_n (j := 0) C dX12_measure_53 rfl ?_
        refine q_iconst (v := 1) C dX12_measure_54 (by decide) ?_
        refine q_callV (d2 := 0) (mc2 := 0) (ms2 := 0) (As := [.int 1]) (rest := []) C (c_fine 1 hL (va_up_self _ _ _)) dX12_measure_55 kV_X12_158 rfl hL (va_up_self _ _ _) ck_13 rfl (Nat.le_of_ble_eq_true rfl) ⟨Nat.le_of_ble_eq_true rfl, Nat.le_of_ble_eq_true rfl⟩ ⟨Nat.le_of_ble_eq_true rfl, Nat.le_of_ble_eq_true rfl⟩ (fun vh6 Lh6 Eh6 h6 => ?_)
        obtain ⟨rfl, rfl, rfl⟩ := h6
        refine q_st (st2 := [.int 1]) rfl ?_
        exact q_iret C dX12_measure_58 rfl (Nat.le_of_ble_eq_true rfl) (Nat.le_of_ble_eq_true rfl) (by refine congrArg (fun z => some (Value.int z)) ?_; unfold an_meas; (try simp only [inn_f, Decidable.not_not] at c1); (try simp only [i32_lt, i32_le, i32_eq, inn_f, Decidable.not_not, tn_m1, tn_0, tn_1, tn_2, tn_3, tn_4, tn_5, tn_6, tn_7, tn_8, tn_10, tn_30, tn_31, tn_32, tn_36, tn_40, tn_50, tn_100, tn_126, tn_200, tn_255, tn_500, tn_512, tn_3000, tn_5000] at c1); (try simp only [inn_f, Decidable.not_not] at c2); (try simp only [i32_lt, i32_le, i32_eq, inn_f, Decidable.not_not, tn_m1, tn_0, tn_1, tn_2, tn_3, tn_4, tn_5, tn_6, tn_7, tn_8, tn_10, tn_30, tn_31, tn_32, tn_36, tn_40, tn_50, tn_100, tn_126, tn_200, tn_255, tn_500, tn_512, tn_3000, tn_5000] at c2); (try simp only [inn_f, Decidable.not_not] at c3); (try simp only [i32_lt, i32_le, i32_eq, inn_f, Decidable.not_not, tn_m1, tn_0, tn_1, tn_2, tn_3, tn_4, tn_5, tn_6, tn_7, tn_8, tn_10, tn_30, tn_31, tn_32, tn_36, tn_40, tn_50, tn_100, tn_126, tn_200, tn_255, tn_500, tn_512, tn_3000, tn_5000] at c3); split <;> rename_i hz <;> (try simp only [i32_lt, i32_le, i32_eq, inn_f, Decidable.not_not, tn_m1, tn_0, tn_1, tn_2, tn_3, tn_4, tn_5, tn_6, tn_7, tn_8, tn_10, tn_30, tn_31, tn_32, tn_36, tn_40, tn_50, tn_100, tn_126, tn_200, tn_255, tn_500, tn_512, tn_3000, tn_5000] at hz) <;> first | rfl | (exfalso; omega) | (rw [i32_eq]; simp only [i32_lt, i32_le, i32_eq, inn_f, Decidable.not_not, tn_m1, tn_0, tn_1, tn_2, tn_3, tn_4, tn_5, tn_6, tn_7, tn_8, tn_10, tn_30, tn_31, tn_32, tn_36, tn_40, tn_50, tn_100, tn_126, tn_200, tn_255, tn_500, tn_512, tn_3000, tn_5000]; omega))
      · refine q_aload_n (j := 0) C dX12_measure_31 rfl ?_
        refine q_bipush (v := 6) C dX12_measure_32 (by decide) ?_
        refine q_callV (d2 := 0) (mc2 := 0) (ms2 := 0) (As := [.int 6]) (rest := []) C (c_bad 6 hL hE) dX12_measure_34 kV_X12_154 rfl hL hE ck_13 rfl (Nat.le_of_ble_eq_true rfl) ⟨Nat.le_of_ble_eq_true rfl, Nat.le_of_ble_eq_true rfl⟩ ⟨Nat.le_of_ble_eq_true rfl, Nat.le_of_ble_eq_true rfl⟩ (fun vh7 Lh7 Eh7 h7 => ?_)
        obtain ⟨rfl, rfl, rfl⟩ := h7
        refine q_st (st2 := [.int (-1)]) rfl ?_
        exact q_iret C dX12_measure_37 rfl (Nat.le_of_ble_eq_true rfl) (Nat.le_of_ble_eq_true rfl) (by refine congrArg (fun z => some (Value.int z)) ?_; unfold an_meas; (try simp only [inn_f, Decidable.not_not] at c1); (try simp only [i32_lt, i32_le, i32_eq, inn_f, Decidable.not_not, tn_m1, tn_0, tn_1, tn_2, tn_3, tn_4, tn_5, tn_6, tn_7, tn_8, tn_10, tn_30, tn_31, tn_32, tn_36, tn_40, tn_50, tn_100, tn_126, tn_200, tn_255, tn_500, tn_512, tn_3000, tn_5000] at c1); (try simp only [inn_f, Decidable.not_not] at c2); (try simp only [i32_lt, i32_le, i32_eq, inn_f, Decidable.not_not, tn_m1, tn_0, tn_1, tn_2, tn_3, tn_4, tn_5, tn_6, tn_7, tn_8, tn_10, tn_30, tn_31, tn_32, tn_36, tn_40, tn_50, tn_100, tn_126, tn_200, tn_255, tn_500, tn_512, tn_3000, tn_5000] at c2); (try simp only [inn_f, Decidable.not_not] at c3); (try simp only [i32_lt, i32_le, i32_eq, inn_f, Decidable.not_not, tn_m1, tn_0, tn_1, tn_2, tn_3, tn_4, tn_5, tn_6, tn_7, tn_8, tn_10, tn_30, tn_31, tn_32, tn_36, tn_40, tn_50, tn_100, tn_126, tn_200, tn_255, tn_500, tn_512, tn_3000, tn_5000] at c3); split <;> rename_i hz <;> (try simp only [i32_lt, i32_le, i32_eq, inn_f, Decidable.not_not, tn_m1, tn_0, tn_1, tn_2, tn_3, tn_4, tn_5, tn_6, tn_7, tn_8, tn_10, tn_30, tn_31, tn_32, tn_36, tn_40, tn_50, tn_100, tn_126, tn_200, tn_255, tn_500, tn_512, tn_3000, tn_5000] at hz) <;> first | rfl | (exfalso; omega) | (rw [i32_eq]; simp only [i32_lt, i32_le, i32_eq, inn_f, Decidable.not_not, tn_m1, tn_0, tn_1, tn_2, tn_3, tn_4, tn_5, tn_6, tn_7, tn_8, tn_10, tn_30, tn_31, tn_32, tn_36, tn_40, tn_50, tn_100, tn_126, tn_200, tn_255, tn_500, tn_512, tn_3000, tn_5000]; omega))
set_option maxHeartbeats 4000000 in
set_option maxRecDepth 100000 in
theorem m_failed {l : Launch} {G : GT} {L : List Nat} {E : Nat → va_E} (d1 z : Int32)  {h0 : Nat} {f : Nat → Value} (hL : h0 ∈ L) (hE : E h0 = ob 13 67 f) (f56 : f 56 = .int 0) : Mq l G yX12_failed cX12_failed 3 (some .int) 4 [.ref h0, .int d1, .int z] L E 0 0 (fun v L2 E2 => v = some (.int (an_fail d1 z))) := by
  refine Mq.mk (by decide) (Nat.le_of_ble_eq_true rfl) ?_
  intro p e s m args below meth c A C
  refine q_iload_n (j := 1) C dX12_failed_0 rfl ?_
  refine q_iconst (v := 0) C dX12_failed_1 (by decide) ?_
  refine q_bipush (v := 7) C dX12_failed_2 (by decide) ?_
  refine q_callS (d2 := 0) (mc2 := 0) (ms2 := 0) (As := [.int d1, .int 0, .int 7]) (rest := []) C (m_isIn d1 0 7) dX12_failed_4 kS_X12_174 rfl rfl (Nat.le_of_ble_eq_true rfl) ⟨Nat.le_of_ble_eq_true rfl, Nat.le_of_ble_eq_true rfl⟩ ⟨Nat.le_of_ble_eq_true rfl, Nat.le_of_ble_eq_true rfl⟩ (fun vh1 Lh1 Eh1 h1 => ?_)
  obtain ⟨rfl, rfl, rfl⟩ := h1
  refine q_st (st2 := [.int (inn d1 0 7)]) rfl ?_
  refine q_if_ne (tgt := 17) C dX12_failed_7 (by decide) (fun c1 => ?_) (fun c1 => ?_)
  · refine q_aload_n (j := 0) C dX12_failed_17 rfl ?_
    refine q_iload_n (j := 2) C dX12_failed_18 rfl ?_
    refine q_if_eq (tgt := 33) C dX12_failed_19 (by decide) (fun c2 => ?_) (fun c2 => ?_)
    · refine q_aload_n (j := 0) C dX12_failed_33 rfl ?_
      refine q_get (k := 56) (v := .int 0) C ck_13 dX12_failed_34 w6_115 (by decide) hL hE f56 ?_
      refine q_iconst (v := 1) C dX12_failed_37 (by decide) ?_
      refine q_iload_n (j := 1) C dX12_failed_38 rfl ?_
      refine q_ishl (v := ((1 : Int32) <<< (d1 &&& 31))) C dX12_failed_39 rfl ?_
      refine q_iconst (v := (-1)) C dX12_failed_40 (by decide) ?_
      refine q_ixor (v := (((1 : Int32) <<< (d1 &&& 31)) ^^^ ((-1) : Int32))) C dX12_failed_41 rfl ?_
      refine q_iand (v := ((0 : Int32) &&& (((1 : Int32) <<< (d1 &&& 31)) ^^^ ((-1) : Int32)))) C dX12_failed_42 rfl ?_
      refine q_put (k := 56) C ck_13 dX12_failed_43 w6_115 (by decide) rfl hL hE rfl rfl ?_
      refine q_aload_n (j := 0) C dX12_failed_46 rfl ?_
      refine q_aload_n (j := 0) C dX12_failed_47 rfl ?_
      refine q_get (k := 56) (v := .int ((0 : Int32) &&& (((1 : Int32) <<< (d1 &&& 31)) ^^^ ((-1) : Int32)))) C ck_13 dX12_failed_48 w6_115 (by decide) hL (va_up_self _ _ _) rfl ?_
      refine q_callS (d2 := 0) (mc2 := 0) (ms2 := 0) (As := [.int ((0 : Int32) &&& (((1 : Int32) <<< (d1 &&& 31)) ^^^ ((-1) : Int32)))]) (rest := [.ref h0]) C (c_bitCount ((0 : Int32) &&& (((1 : Int32) <<< (d1 &&& 31)) ^^^ ((-1) : Int32)))) dX12_failed_51 kS_X12_309 rfl rfl (Nat.le_of_ble_eq_true rfl) ⟨Nat.le_of_ble_eq_true rfl, Nat.le_of_ble_eq_true rfl⟩ ⟨Nat.le_of_ble_eq_true rfl, Nat.le_of_ble_eq_true rfl⟩ (fun vh2 Lh2 Eh2 h2 => ?_)
      obtain ⟨rfl, rfl, rfl⟩ := h2
      refine q_st (st2 := [.int (bc ((0 : Int32) &&& (((1 : Int32) <<< (d1 &&& 31)) ^^^ ((-1) : Int32)))), .ref h0]) rfl ?_
      refine q_callV (d2 := 0) (mc2 := 0) (ms2 := 0) (As := [.int (bc ((0 : Int32) &&& (((1 : Int32) <<< (d1 &&& 31)) ^^^ ((-1) : Int32))))]) (rest := []) C (c_fine (bc ((0 : Int32) &&& (((1 : Int32) <<< (d1 &&& 31)) ^^^ ((-1) : Int32)))) hL (va_up_self _ _ _)) dX12_failed_54 kV_X12_158 rfl hL (va_up_self _ _ _) ck_13 rfl (Nat.le_of_ble_eq_true rfl) ⟨Nat.le_of_ble_eq_true rfl, Nat.le_of_ble_eq_true rfl⟩ ⟨Nat.le_of_ble_eq_true rfl, Nat.le_of_ble_eq_true rfl⟩ (fun vh3 Lh3 Eh3 h3 => ?_)
      obtain ⟨rfl, rfl, rfl⟩ := h3
      refine q_st (st2 := [.int (bc ((0 : Int32) &&& (((1 : Int32) <<< (d1 &&& 31)) ^^^ ((-1) : Int32))))]) rfl ?_
      exact q_iret C dX12_failed_57 rfl (Nat.le_of_ble_eq_true rfl) (Nat.le_of_ble_eq_true rfl) (by refine congrArg (fun z => some (Value.int z)) ?_; unfold an_fail; (try simp only [inn_f, Decidable.not_not] at c1); (try simp only [i32_lt, i32_le, i32_eq, inn_f, Decidable.not_not, tn_m1, tn_0, tn_1, tn_2, tn_3, tn_4, tn_5, tn_6, tn_7, tn_8, tn_10, tn_30, tn_31, tn_32, tn_36, tn_40, tn_50, tn_100, tn_126, tn_200, tn_255, tn_500, tn_512, tn_3000, tn_5000] at c1); (try simp only [inn_f, Decidable.not_not] at c2); (try simp only [i32_lt, i32_le, i32_eq, inn_f, Decidable.not_not, tn_m1, tn_0, tn_1, tn_2, tn_3, tn_4, tn_5, tn_6, tn_7, tn_8, tn_10, tn_30, tn_31, tn_32, tn_36, tn_40, tn_50, tn_100, tn_126, tn_200, tn_255, tn_500, tn_512, tn_3000, tn_5000] at c2); split <;> rename_i hz <;> (try simp only [i32_lt, i32_le, i32_eq, inn_f, Decidable.not_not, tn_m1, tn_0, tn_1, tn_2, tn_3, tn_4, tn_5, tn_6, tn_7, tn_8, tn_10, tn_30, tn_31, tn_32, tn_36, tn_40, tn_50, tn_100, tn_126, tn_200, tn_255, tn_500, tn_512, tn_3000, tn_5000] at hz) <;> first | rfl | (exfalso; omega) | (split <;> rename_i hy <;> (try simp only [i32_lt, i32_le, i32_eq, inn_f, Decidable.not_not, tn_m1, tn_0, tn_1, tn_2, tn_3, tn_4, tn_5, tn_6, tn_7, tn_8, tn_10, tn_30, tn_31, tn_32, tn_36, tn_40, tn_50, tn_100, tn_126, tn_200, tn_255, tn_500, tn_512, tn_3000, tn_5000] at hy) <;> first | rfl | (exfalso; omega)))
    · refine q_aload_n (j := 0) C dX12_failed_22 rfl ?_
      refine q_get (k := 56) (v := .int 0) C ck_13 dX12_failed_23 w6_115 (by decide) hL hE f56 ?_
      refine q_iconst (v := 1) C dX12_failed_26 (by decide) ?_
      refine q_iload_n (j := 1) C dX12_failed_27 rfl ?_
      refine q_ishl (v := ((1 : Int32) <<< (d1 &&& 31))) C dX12_failed_28 rfl ?_
      refine q_ior (v := ((0 : Int32) ||| ((1 : Int32) <<< (d1 &&& 31)))) C dX12_failed_29 rfl ?_
      refine q_goto (tgt := 43) C dX12_failed_30 (by decide) ?_
      refine q_put (k := 56) C ck_13 dX12_failed_43 w6_115 (by decide) rfl hL hE rfl rfl ?_
      refine q_aload_n (j := 0) C dX12_failed_46 rfl ?_
      refine q_aload_n (j := 0) C dX12_failed_47 rfl ?_
      refine q_get (k := 56) (v := .int ((0 : Int32) ||| ((1 : Int32) <<< (d1 &&& 31)))) C ck_13 dX12_failed_48 w6_115 (by decide) hL (va_up_self _ _ _) rfl ?_
      refine q_callS (d2 := 0) (mc2 := 0) (ms2 := 0) (As := [.int ((0 : Int32) ||| ((1 : Int32) <<< (d1 &&& 31)))]) (rest := [.ref h0]) C (c_bitCount ((0 : Int32) ||| ((1 : Int32) <<< (d1 &&& 31)))) dX12_failed_51 kS_X12_309 rfl rfl (Nat.le_of_ble_eq_true rfl) ⟨Nat.le_of_ble_eq_true rfl, Nat.le_of_ble_eq_true rfl⟩ ⟨Nat.le_of_ble_eq_true rfl, Nat.le_of_ble_eq_true rfl⟩ (fun vh4 Lh4 Eh4 h4 => ?_)
      obtain ⟨rfl, rfl, rfl⟩ := h4
      refine q_st (st2 := [.int (bc ((0 : Int32) ||| ((1 : Int32) <<< (d1 &&& 31)))), .ref h0]) rfl ?_
      refine q_callV (d2 := 0) (mc2 := 0) (ms2 := 0) (As := [.int (bc ((0 : Int32) ||| ((1 : Int32) <<< (d1 &&& 31))))]) (rest := []) C (c_fine (bc ((0 : Int32) ||| ((1 : Int32) <<< (d1 &&& 31)))) hL (va_up_self _ _ _)) dX12_failed_54 kV_X12_158 rfl hL (va_up_self _ _ _) ck_13 rfl (Nat.le_of_ble_eq_true rfl) ⟨Nat.le_of_ble_eq_true rfl, Nat.le_of_ble_eq_true rfl⟩ ⟨Nat.le_of_ble_eq_true rfl, Nat.le_of_ble_eq_true rfl⟩ (fun vh5 Lh5 Eh5 h5 => ?_)
      obtain ⟨rfl, rfl, rfl⟩ := h5
      refine q_st (st2 := [.int (bc ((0 : Int32) ||| ((1 : Int32) <<< (d1 &&& 31))))]) rfl ?_
      exact q_iret C dX12_failed_57 rfl (Nat.le_of_ble_eq_true rfl) (Nat.le_of_ble_eq_true rfl) (by refine congrArg (fun z => some (Value.int z)) ?_; unfold an_fail; (try simp only [inn_f, Decidable.not_not] at c1); (try simp only [i32_lt, i32_le, i32_eq, inn_f, Decidable.not_not, tn_m1, tn_0, tn_1, tn_2, tn_3, tn_4, tn_5, tn_6, tn_7, tn_8, tn_10, tn_30, tn_31, tn_32, tn_36, tn_40, tn_50, tn_100, tn_126, tn_200, tn_255, tn_500, tn_512, tn_3000, tn_5000] at c1); (try simp only [inn_f, Decidable.not_not] at c2); (try simp only [i32_lt, i32_le, i32_eq, inn_f, Decidable.not_not, tn_m1, tn_0, tn_1, tn_2, tn_3, tn_4, tn_5, tn_6, tn_7, tn_8, tn_10, tn_30, tn_31, tn_32, tn_36, tn_40, tn_50, tn_100, tn_126, tn_200, tn_255, tn_500, tn_512, tn_3000, tn_5000] at c2); split <;> rename_i hz <;> (try simp only [i32_lt, i32_le, i32_eq, inn_f, Decidable.not_not, tn_m1, tn_0, tn_1, tn_2, tn_3, tn_4, tn_5, tn_6, tn_7, tn_8, tn_10, tn_30, tn_31, tn_32, tn_36, tn_40, tn_50, tn_100, tn_126, tn_200, tn_255, tn_500, tn_512, tn_3000, tn_5000] at hz) <;> first | rfl | (exfalso; omega) | (split <;> rename_i hy <;> (try simp only [i32_lt, i32_le, i32_eq, inn_f, Decidable.not_not, tn_m1, tn_0, tn_1, tn_2, tn_3, tn_4, tn_5, tn_6, tn_7, tn_8, tn_10, tn_30, tn_31, tn_32, tn_36, tn_40, tn_50, tn_100, tn_126, tn_200, tn_255, tn_500, tn_512, tn_3000, tn_5000] at hy) <;> first | rfl | (exfalso; omega)))
  · refine q_aload_n (j := 0) C dX12_failed_10 rfl ?_
    refine q_bipush (v := 6) C dX12_failed_11 (by decide) ?_
    refine q_callV (d2 := 0) (mc2 := 0) (ms2 := 0) (As := [.int 6]) (rest := []) C (c_bad 6 hL hE) dX12_failed_13 kV_X12_154 rfl hL hE ck_13 rfl (Nat.le_of_ble_eq_true rfl) ⟨Nat.le_of_ble_eq_true rfl, Nat.le_of_ble_eq_true rfl⟩ ⟨Nat.le_of_ble_eq_true rfl, Nat.le_of_ble_eq_true rfl⟩ (fun vh6 Lh6 Eh6 h6 => ?_)
    obtain ⟨rfl, rfl, rfl⟩ := h6
    refine q_st (st2 := [.int (-1)]) rfl ?_
    exact q_iret C dX12_failed_16 rfl (Nat.le_of_ble_eq_true rfl) (Nat.le_of_ble_eq_true rfl) (by refine congrArg (fun z => some (Value.int z)) ?_; unfold an_fail; (try simp only [inn_f, Decidable.not_not] at c1); (try simp only [i32_lt, i32_le, i32_eq, inn_f, Decidable.not_not, tn_m1, tn_0, tn_1, tn_2, tn_3, tn_4, tn_5, tn_6, tn_7, tn_8, tn_10, tn_30, tn_31, tn_32, tn_36, tn_40, tn_50, tn_100, tn_126, tn_200, tn_255, tn_500, tn_512, tn_3000, tn_5000] at c1); split <;> rename_i hz <;> (try simp only [i32_lt, i32_le, i32_eq, inn_f, Decidable.not_not, tn_m1, tn_0, tn_1, tn_2, tn_3, tn_4, tn_5, tn_6, tn_7, tn_8, tn_10, tn_30, tn_31, tn_32, tn_36, tn_40, tn_50, tn_100, tn_126, tn_200, tn_255, tn_500, tn_512, tn_3000, tn_5000] at hz) <;> first | rfl | (exfalso; omega) | (split <;> rename_i hy <;> (try simp only [i32_lt, i32_le, i32_eq, inn_f, Decidable.not_not, tn_m1, tn_0, tn_1, tn_2, tn_3, tn_4, tn_5, tn_6, tn_7, tn_8, tn_10, tn_30, tn_31, tn_32, tn_36, tn_40, tn_50, tn_100, tn_126, tn_200, tn_255, tn_500, tn_512, tn_3000, tn_5000] at hy) <;> first | rfl | (exfalso; omega)))
set_option maxHeartbeats 4000000 in
set_option maxRecDepth 100000 in
theorem m_finds {l : Launch} {G : GT} {L : List Nat} {E : Nat → va_E} (k : Int32)  {h0 a27 : Nat} {f : Nat → Value} (hL : h0 ∈ L) (hE : E h0 = ob 13 67 f) (f27 : f 27 = .ref a27) (hL27 : a27 ∈ L) (hE27 : E a27 = aI G 5 (fun _ => 0)) : Mq l G yX12_finds cX12_finds 2 (some .int) 4 [.ref h0, .int k] L E 0 0 (fun v L2 E2 => v = some (.int 0)) := by
  refine Mq.mk (by decide) (Nat.le_of_ble_eq_true rfl) ?_
  intro p e s m args below meth c A C
  refine q_iload_n (j := 1) C dX12_finds_0 rfl ?_
  refine q_iconst (v := 0) C dX12_finds_1 (by decide) ?_
  refine q_iconst (v := 4) C dX12_finds_2 (by decide) ?_
  refine q_callS (d2 := 0) (mc2 := 0) (ms2 := 0) (As := [.int k, .int 0, .int 4]) (rest := []) C (m_isIn k 0 4) dX12_finds_3 kS_X12_174 rfl rfl (Nat.le_of_ble_eq_true rfl) ⟨Nat.le_of_ble_eq_true rfl, Nat.le_of_ble_eq_true rfl⟩ ⟨Nat.le_of_ble_eq_true rfl, Nat.le_of_ble_eq_true rfl⟩ (fun vh1 Lh1 Eh1 h1 => ?_)
  obtain ⟨rfl, rfl, rfl⟩ := h1
  refine q_st (st2 := [.int (inn k 0 4)]) rfl ?_
  refine q_if_eq (tgt := 18) C dX12_finds_6 (by decide) (fun c1 => ?_) (fun c1 => ?_)
  · refine q_iconst (v := 0) C dX12_finds_18 (by decide) ?_
    exact q_iret C dX12_finds_19 rfl (Nat.le_of_ble_eq_true rfl) (Nat.le_of_ble_eq_true rfl) rfl
  · refine q_aload_n (j := 0) C dX12_finds_9 rfl ?_
    refine q_get (k := 27) (v := .ref a27) C ck_13 dX12_finds_10 w6_86 (by decide) hL hE f27 ?_
    refine q_iload_n (j := 1) C dX12_finds_13 rfl ?_
    refine q_iald (v := 0) C dX12_finds_14 hL27 hE27 (by rw [vp_in_iff]; have h1 := c1; (try simp only [inn_f, Decidable.not_not] at h1); simp only [i32_lt, i32_le, i32_eq, inn_f, Decidable.not_not, tn_m1, tn_0, tn_1, tn_2, tn_3, tn_4, tn_5, tn_6, tn_7, tn_8, tn_10, tn_30, tn_31, tn_32, tn_36, tn_40, tn_50, tn_100, tn_126, tn_200, tn_255, tn_500, tn_512, tn_3000, tn_5000] at h1; omega) rfl ?_
    refine q_goto (tgt := 19) C dX12_finds_15 (by decide) ?_
    exact q_iret C dX12_finds_19 rfl (Nat.le_of_ble_eq_true rfl) (Nat.le_of_ble_eq_true rfl) rfl
set_option maxHeartbeats 4000000 in
set_option maxRecDepth 100000 in
theorem m_digest {l : Launch} {G : GT} {L : List Nat} {E : Nat → va_E}  {h0 a27 : Nat} {f : Nat → Value} (hL : h0 ∈ L) (hE : E h0 = ob 13 67 f) (f36 : f 36 = .int 0) (f42 : f 42 = .int 0) (f43 : f 43 = .int 0) (f52 : f 52 = .int 0) (f27 : f 27 = .ref a27) (hL27 : a27 ∈ L) (hE27 : E a27 = aI G 5 (fun _ => 0)) : Mq l G yX12_digest cX12_digest 4 (some .int) 4 [.ref h0] L E 0 0 (fun v L2 E2 => v = some (.int 954237711)) := by
  refine Mq.mk (by decide) (Nat.le_of_ble_eq_true rfl) ?_
  intro p e s m args below meth c A C
  refine q_sipush (v := 527) C dX12_digest_0 (by decide) ?_
  refine q_aload_n (j := 0) C dX12_digest_3 rfl ?_
  refine q_get (k := 36) (v := .int 0) C ck_13 dX12_digest_4 w6_95 (by decide) hL hE f36 ?_
  refine q_iadd (v := 527) C dX12_digest_7 (by decide) ?_
  refine q_istore_n (lv2 := [(1, .int 527), (0, .ref h0)]) C dX12_digest_8 (by decide) rfl ?_
  refine q_iconst (v := 0) C dX12_digest_9 (by decide) ?_
  refine q_istore_n (lv2 := [(2, .int 0), (1, .int 527), (0, .ref h0)]) C dX12_digest_10 (by decide) rfl ?_
  refine q_iload_n (j := 0) C dX12_digest_11 rfl ?_
  refine q_aload_n (j := 2) C dX12_digest_12 rfl ?_
  refine q_get (k := 36) (v := .int 0) C ck_13 dX12_digest_13 w6_95 (by decide) hL hE f36 ?_
  refine q_icmp_ge (tgt := 73) C dX12_digest_16 (by decide) (fun _ => ?_) (fun z => absurd (by decide) z)
  refine q_iload_n (j := 1) C dX12_digest_73 rfl ?_
  refine q_bipush (v := 31) C dX12_digest_74 (by decide) ?_
  refine q_imul (v := 16337) C dX12_digest_76 (by decide) ?_
  refine q_aload_n (j := 2) C dX12_digest_77 rfl ?_
  refine q_get (k := 52) (v := .int 0) C ck_13 dX12_digest_78 w6_111 (by decide) hL hE f52 ?_
  refine q_iadd (v := 16337) C dX12_digest_81 (by decide) ?_
  refine q_istore_n (lv2 := [(1, .int 16337), (2, .int 0), (0, .ref h0)]) C dX12_digest_82 (by decide) rfl ?_
  refine q_iconst (v := 0) C dX12_digest_83 (by decide) ?_
  refine q_istore_n (lv2 := [(2, .int 0), (1, .int 16337), (0, .ref h0)]) C dX12_digest_84 (by decide) rfl ?_
  refine q_iload_n (j := 0) C dX12_digest_85 rfl ?_
  refine q_aload_n (j := 2) C dX12_digest_86 rfl ?_
  refine q_get (k := 52) (v := .int 0) C ck_13 dX12_digest_87 w6_111 (by decide) hL hE f52 ?_
  refine q_icmp_ge (tgt := 111) C dX12_digest_90 (by decide) (fun _ => ?_) (fun z => absurd (by decide) z)
  refine q_iconst (v := 0) C dX12_digest_111 (by decide) ?_
  refine q_istore_n (lv2 := [(2, .int 0), (1, .int 16337), (0, .ref h0)]) C dX12_digest_112 (by decide) rfl ?_
  refine q_iload_n (j := 0) C dX12_digest_113 rfl ?_
  refine q_iconst (v := 5) C dX12_digest_114 (by decide) ?_
  refine q_icmp_ge (tgt := 136) C dX12_digest_115 (by decide) (fun z => absurd z (by decide)) (fun _ => ?_)
  refine q_iload_n (j := 1) C dX12_digest_118 rfl ?_
  refine q_bipush (v := 31) C dX12_digest_119 (by decide) ?_
  refine q_imul (v := 506447) C dX12_digest_121 (by decide) ?_
  refine q_aload_n (j := 2) C dX12_digest_122 rfl ?_
  refine q_get (k := 27) (v := .ref a27) C ck_13 dX12_digest_123 w6_86 (by decide) hL hE f27 ?_
  refine q_iload_n (j := 0) C dX12_digest_126 rfl ?_
  refine q_iald (v := 0) C dX12_digest_127 hL27 hE27 (by unfold vp_in; decide) rfl ?_
  refine q_iadd (v := 506447) C dX12_digest_128 (by decide) ?_
  refine q_istore_n (lv2 := [(1, .int 506447), (2, .int 0), (0, .ref h0)]) C dX12_digest_129 (by decide) rfl ?_
  refine q_iinc (j := 1) (v := 1) (lv2 := [(2, .int 1), (1, .int 506447), (0, .ref h0)]) C dX12_digest_130 rfl (by decide) (by decide) rfl ?_
  refine q_goto (tgt := 113) C dX12_digest_133 (by decide) ?_
  refine q_iload_n (j := 0) C dX12_digest_113 rfl ?_
  refine q_iconst (v := 5) C dX12_digest_114 (by decide) ?_
  refine q_icmp_ge (tgt := 136) C dX12_digest_115 (by decide) (fun z => absurd z (by decide)) (fun _ => ?_)
  refine q_iload_n (j := 1) C dX12_digest_118 rfl ?_
  refine q_bipush (v := 31) C dX12_digest_119 (by decide) ?_
  refine q_imul (v := 15699857) C dX12_digest_121 (by decide) ?_
  refine q_aload_n (j := 2) C dX12_digest_122 rfl ?_
  refine q_get (k := 27) (v := .ref a27) C ck_13 dX12_digest_123 w6_86 (by decide) hL hE f27 ?_
  refine q_iload_n (j := 0) C dX12_digest_126 rfl ?_
  refine q_iald (v := 0) C dX12_digest_127 hL27 hE27 (by unfold vp_in; decide) rfl ?_
  refine q_iadd (v := 15699857) C dX12_digest_128 (by decide) ?_
  refine q_istore_n (lv2 := [(1, .int 15699857), (2, .int 1), (0, .ref h0)]) C dX12_digest_129 (by decide) rfl ?_
  refine q_iinc (j := 1) (v := 2) (lv2 := [(2, .int 2), (1, .int 15699857), (0, .ref h0)]) C dX12_digest_130 rfl (by decide) (by decide) rfl ?_
  refine q_goto (tgt := 113) C dX12_digest_133 (by decide) ?_
  refine q_iload_n (j := 0) C dX12_digest_113 rfl ?_
  refine q_iconst (v := 5) C dX12_digest_114 (by decide) ?_
  refine q_icmp_ge (tgt := 136) C dX12_digest_115 (by decide) (fun z => absurd z (by decide)) (fun _ => ?_)
  refine q_iload_n (j := 1) C dX12_digest_118 rfl ?_
  refine q_bipush (v := 31) C dX12_digest_119 (by decide) ?_
  refine q_imul (v := 486695567) C dX12_digest_121 (by decide) ?_
  refine q_aload_n (j := 2) C dX12_digest_122 rfl ?_
  refine q_get (k := 27) (v := .ref a27) C ck_13 dX12_digest_123 w6_86 (by decide) hL hE f27 ?_
  refine q_iload_n (j := 0) C dX12_digest_126 rfl ?_
  refine q_iald (v := 0) C dX12_digest_127 hL27 hE27 (by unfold vp_in; decide) rfl ?_
  refine q_iadd (v := 486695567) C dX12_digest_128 (by decide) ?_
  refine q_istore_n (lv2 := [(1, .int 486695567), (2, .int 2), (0, .ref h0)]) C dX12_digest_129 (by decide) rfl ?_
  refine q_iinc (j := 1) (v := 3) (lv2 := [(2, .int 3), (1, .int 486695567), (0, .ref h0)]) C dX12_digest_130 rfl (by decide) (by decide) rfl ?_
  refine q_goto (tgt := 113) C dX12_digest_133 (by decide) ?_
  refine q_iload_n (j := 0) C dX12_digest_113 rfl ?_
  refine q_iconst (v := 5) C dX12_digest_114 (by decide) ?_
  refine q_icmp_ge (tgt := 136) C dX12_digest_115 (by decide) (fun z => absurd z (by decide)) (fun _ => ?_)
  refine q_iload_n (j := 1) C dX12_digest_118 rfl ?_
  refine q_bipush (v := 31) C dX12_digest_119 (by decide) ?_
  refine q_imul (v := (-2092306607)) C dX12_digest_121 (by decide) ?_
  refine q_aload_n (j := 2) C dX12_digest_122 rfl ?_
  refine q_get (k := 27) (v := .ref a27) C ck_13 dX12_digest_123 w6_86 (by decide) hL hE f27 ?_
  refine q_iload_n (j := 0) C dX12_digest_126 rfl ?_
  refine q_iald (v := 0) C dX12_digest_127 hL27 hE27 (by unfold vp_in; decide) rfl ?_
  refine q_iadd (v := (-2092306607)) C dX12_digest_128 (by decide) ?_
  refine q_istore_n (lv2 := [(1, .int (-2092306607)), (2, .int 3), (0, .ref h0)]) C dX12_digest_129 (by decide) rfl ?_
  refine q_iinc (j := 1) (v := 4) (lv2 := [(2, .int 4), (1, .int (-2092306607)), (0, .ref h0)]) C dX12_digest_130 rfl (by decide) (by decide) rfl ?_
  refine q_goto (tgt := 113) C dX12_digest_133 (by decide) ?_
  refine q_iload_n (j := 0) C dX12_digest_113 rfl ?_
  refine q_iconst (v := 5) C dX12_digest_114 (by decide) ?_
  refine q_icmp_ge (tgt := 136) C dX12_digest_115 (by decide) (fun z => absurd z (by decide)) (fun _ => ?_)
  refine q_iload_n (j := 1) C dX12_digest_118 rfl ?_
  refine q_bipush (v := 31) C dX12_digest_119 (by decide) ?_
  refine q_imul (v := (-436995377)) C dX12_digest_121 (by decide) ?_
  refine q_aload_n (j := 2) C dX12_digest_122 rfl ?_
  refine q_get (k := 27) (v := .ref a27) C ck_13 dX12_digest_123 w6_86 (by decide) hL hE f27 ?_
  refine q_iload_n (j := 0) C dX12_digest_126 rfl ?_
  refine q_iald (v := 0) C dX12_digest_127 hL27 hE27 (by unfold vp_in; decide) rfl ?_
  refine q_iadd (v := (-436995377)) C dX12_digest_128 (by decide) ?_
  refine q_istore_n (lv2 := [(1, .int (-436995377)), (2, .int 4), (0, .ref h0)]) C dX12_digest_129 (by decide) rfl ?_
  refine q_iinc (j := 1) (v := 5) (lv2 := [(2, .int 5), (1, .int (-436995377)), (0, .ref h0)]) C dX12_digest_130 rfl (by decide) (by decide) rfl ?_
  refine q_goto (tgt := 113) C dX12_digest_133 (by decide) ?_
  refine q_iload_n (j := 0) C dX12_digest_113 rfl ?_
  refine q_iconst (v := 5) C dX12_digest_114 (by decide) ?_
  refine q_icmp_ge (tgt := 136) C dX12_digest_115 (by decide) (fun _ => ?_) (fun z => absurd (by decide) z)
  refine q_iload_n (j := 1) C dX12_digest_136 rfl ?_
  refine q_bipush (v := 31) C dX12_digest_137 (by decide) ?_
  refine q_imul (v := (-661954799)) C dX12_digest_139 (by decide) ?_
  refine q_aload_n (j := 2) C dX12_digest_140 rfl ?_
  refine q_get (k := 42) (v := .int 0) C ck_13 dX12_digest_141 w6_101 (by decide) hL hE f42 ?_
  refine q_iadd (v := (-661954799)) C dX12_digest_144 (by decide) ?_
  refine q_bipush (v := 31) C dX12_digest_145 (by decide) ?_
  refine q_imul (v := 954237711) C dX12_digest_147 (by decide) ?_
  refine q_aload_n (j := 2) C dX12_digest_148 rfl ?_
  refine q_get (k := 43) (v := .int 0) C ck_13 dX12_digest_149 w6_102 (by decide) hL hE f43 ?_
  refine q_iadd (v := 954237711) C dX12_digest_152 (by decide) ?_
  exact q_iret C dX12_digest_153 rfl (Nat.le_of_ble_eq_true rfl) (Nat.le_of_ble_eq_true rfl) rfl
set_option maxHeartbeats 4000000 in
set_option maxRecDepth 100000 in
theorem m_copyLines {l : Launch} {G : GT} {L : List Nat} {E : Nat → va_E} (a b n : Int32)  {h0 : Nat} {f : Nat → Value} (hL : h0 ∈ L) (hE : E h0 = ob 13 67 f) (f36 : f 36 = .int 0) : Mq l G yX12_copyLines cX12_copyLines 10 (some .int) 4 [.ref h0, .int a, .int b, .int n] L E 0 0 (fun v L2 E2 => v = some (.int (an_end n))) := by
  refine Mq.mk (by decide) (Nat.le_of_ble_eq_true rfl) ?_
  intro p e s m args below meth c A C
  refine q_iload_n (j := 3) C dX12_copyLines_0 rfl ?_
  refine q_bipush (v := 10) C dX12_copyLines_1 (by decide) ?_
  refine q_icmp_le (tgt := 13) C dX12_copyLines_3 (by decide) (fun c1 => ?_) (fun c1 => ?_)
  · refine q_iload_n (j := 3) C dX12_copyLines_13 rfl ?_
    refine q_if_ge (tgt := 23) C dX12_copyLines_14 (by decide) (fun c2 => ?_) (fun c2 => ?_)
    · refine q_aload_n (j := 0) C dX12_copyLines_23 rfl ?_
      refine q_iconst (v := 0) C dX12_copyLines_24 (by decide) ?_
      refine q_put (k := 42) C ck_13 dX12_copyLines_25 w6_101 (by decide) rfl hL hE rfl rfl ?_
      refine q_iconst (v := 0) C dX12_copyLines_28 (by decide) ?_
      refine q_istore (lv2 := [(4, .int 0), (0, .ref h0), (1, .int a), (2, .int b), (3, .int n)]) C dX12_copyLines_29 (by decide) rfl ?_
      refine q_iload (j := 0) C dX12_copyLines_31 rfl ?_
      refine q_iload_n (j := 4) C dX12_copyLines_33 rfl ?_
      refine q_icmp_ge (tgt := 196) C dX12_copyLines_34 (by decide) (fun c3 => ?_) (fun c3 => ?_)
      · refine q_aload_n (j := 1) C dX12_copyLines_196 rfl ?_
        refine q_iload_n (j := 4) C dX12_copyLines_197 rfl ?_
        refine q_callV (d2 := 0) (mc2 := 0) (ms2 := 0) (As := [.int n]) (rest := []) C (c_fine n hL (va_up_self _ _ _)) dX12_copyLines_198 kV_X12_158 rfl hL (va_up_self _ _ _) ck_13 rfl (Nat.le_of_ble_eq_true rfl) ⟨Nat.le_of_ble_eq_true rfl, Nat.le_of_ble_eq_true rfl⟩ ⟨Nat.le_of_ble_eq_true rfl, Nat.le_of_ble_eq_true rfl⟩ (fun vh1 Lh1 Eh1 h1 => ?_)
        obtain ⟨rfl, rfl, rfl⟩ := h1
        refine q_st (st2 := [.int n]) rfl ?_
        exact q_iret C dX12_copyLines_201 rfl (Nat.le_of_ble_eq_true rfl) (Nat.le_of_ble_eq_true rfl) (by refine congrArg (fun z => some (Value.int z)) ?_; unfold an_end; (try simp only [inn_f, Decidable.not_not] at c1); (try simp only [i32_lt, i32_le, i32_eq, inn_f, Decidable.not_not, tn_m1, tn_0, tn_1, tn_2, tn_3, tn_4, tn_5, tn_6, tn_7, tn_8, tn_10, tn_30, tn_31, tn_32, tn_36, tn_40, tn_50, tn_100, tn_126, tn_200, tn_255, tn_500, tn_512, tn_3000, tn_5000] at c1); (try simp only [inn_f, Decidable.not_not] at c2); (try simp only [i32_lt, i32_le, i32_eq, inn_f, Decidable.not_not, tn_m1, tn_0, tn_1, tn_2, tn_3, tn_4, tn_5, tn_6, tn_7, tn_8, tn_10, tn_30, tn_31, tn_32, tn_36, tn_40, tn_50, tn_100, tn_126, tn_200, tn_255, tn_500, tn_512, tn_3000, tn_5000] at c2); (try simp only [inn_f, Decidable.not_not] at c3); (try simp only [i32_lt, i32_le, i32_eq, inn_f, Decidable.not_not, tn_m1, tn_0, tn_1, tn_2, tn_3, tn_4, tn_5, tn_6, tn_7, tn_8, tn_10, tn_30, tn_31, tn_32, tn_36, tn_40, tn_50, tn_100, tn_126, tn_200, tn_255, tn_500, tn_512, tn_3000, tn_5000] at c3); split <;> rename_i hz <;> (try simp only [i32_lt, i32_le, i32_eq, inn_f, Decidable.not_not, tn_m1, tn_0, tn_1, tn_2, tn_3, tn_4, tn_5, tn_6, tn_7, tn_8, tn_10, tn_30, tn_31, tn_32, tn_36, tn_40, tn_50, tn_100, tn_126, tn_200, tn_255, tn_500, tn_512, tn_3000, tn_5000] at hz) <;> first | rfl | (exfalso; omega) | (rw [i32_eq]; simp only [i32_lt, i32_le, i32_eq, inn_f, Decidable.not_not, tn_m1, tn_0, tn_1, tn_2, tn_3, tn_4, tn_5, tn_6, tn_7, tn_8, tn_10, tn_30, tn_31, tn_32, tn_36, tn_40, tn_50, tn_100, tn_126, tn_200, tn_255, tn_500, tn_512, tn_3000, tn_5000]; omega))
      · refine q_iload_n (j := 2) C dX12_copyLines_37 rfl ?_
        refine q_i2l (v := (Int32.toInt64 a)) C dX12_copyLines_38 rfl ?_
        refine q_iload (j := 0) C dX12_copyLines_39 rfl ?_
        refine q_i2l (v := 0) C dX12_copyLines_41 (by decide) ?_
        refine q_ladd (v := ((Int32.toInt64 a) + 0)) C dX12_copyLines_42 rfl ?_
        refine q_lstore (lv2 := [(5, .long ((Int32.toInt64 a) + 0)), (4, .int 0), (0, .ref h0), (1, .int a), (2, .int b), (3, .int n)]) C dX12_copyLines_43 (by decide) rfl ?_
        refine q_iload_n (j := 4) C dX12_copyLines_45 rfl ?_
        refine q_i2l (v := (Int32.toInt64 b)) C dX12_copyLines_46 rfl ?_
        refine q_iload (j := 1) C dX12_copyLines_47 rfl ?_
        refine q_i2l (v := 0) C dX12_copyLines_49 (by decide) ?_
        refine q_ladd (v := ((Int32.toInt64 b) + 0)) C dX12_copyLines_50 rfl ?_
        refine q_lstore (lv2 := [(7, .long ((Int32.toInt64 b) + 0)), (5, .long ((Int32.toInt64 a) + 0)), (4, .int 0), (0, .ref h0), (1, .int a), (2, .int b), (3, .int n)]) C dX12_copyLines_51 (by decide) rfl ?_
        refine q_lload (j := 1) C dX12_copyLines_53 rfl ?_
        refine q_lconst (v := 0) C dX12_copyLines_55 (by decide) ?_
        refine q_lcmp (v := (lg_cmp ((Int32.toInt64 a) + 0) 0)) C dX12_copyLines_56 rfl ?_
        refine q_if_lt (tgt := 89) C dX12_copyLines_57 (by decide) (fun c4 => ?_) (fun c4 => ?_)
        · refine q_aload_n (j := 3) C dX12_copyLines_89 rfl ?_
          refine q_iconst (v := 2) C dX12_copyLines_90 (by decide) ?_
          refine q_callV (d2 := 0) (mc2 := 0) (ms2 := 0) (As := [.int 2]) (rest := []) C (c_bad 2 hL (va_up_self _ _ _)) dX12_copyLines_91 kV_X12_154 rfl hL (va_up_self _ _ _) ck_13 rfl (Nat.le_of_ble_eq_true rfl) ⟨Nat.le_of_ble_eq_true rfl, Nat.le_of_ble_eq_true rfl⟩ ⟨Nat.le_of_ble_eq_true rfl, Nat.le_of_ble_eq_true rfl⟩ (fun vh2 Lh2 Eh2 h2 => ?_)
          obtain ⟨rfl, rfl, rfl⟩ := h2
          refine q_st (st2 := [.int (-1)]) rfl ?_
          exact q_iret C dX12_copyLines_94 rfl (Nat.le_of_ble_eq_true rfl) (Nat.le_of_ble_eq_true rfl) (by refine congrArg (fun z => some (Value.int z)) ?_; unfold an_end; (try simp only [inn_f, Decidable.not_not] at c1); (try simp only [i32_lt, i32_le, i32_eq, inn_f, Decidable.not_not, tn_m1, tn_0, tn_1, tn_2, tn_3, tn_4, tn_5, tn_6, tn_7, tn_8, tn_10, tn_30, tn_31, tn_32, tn_36, tn_40, tn_50, tn_100, tn_126, tn_200, tn_255, tn_500, tn_512, tn_3000, tn_5000] at c1); (try simp only [inn_f, Decidable.not_not] at c2); (try simp only [i32_lt, i32_le, i32_eq, inn_f, Decidable.not_not, tn_m1, tn_0, tn_1, tn_2, tn_3, tn_4, tn_5, tn_6, tn_7, tn_8, tn_10, tn_30, tn_31, tn_32, tn_36, tn_40, tn_50, tn_100, tn_126, tn_200, tn_255, tn_500, tn_512, tn_3000, tn_5000] at c2); (try simp only [inn_f, Decidable.not_not] at c3); (try simp only [i32_lt, i32_le, i32_eq, inn_f, Decidable.not_not, tn_m1, tn_0, tn_1, tn_2, tn_3, tn_4, tn_5, tn_6, tn_7, tn_8, tn_10, tn_30, tn_31, tn_32, tn_36, tn_40, tn_50, tn_100, tn_126, tn_200, tn_255, tn_500, tn_512, tn_3000, tn_5000] at c3); (try simp only [inn_f, Decidable.not_not] at c4); (try simp only [i32_lt, i32_le, i32_eq, inn_f, Decidable.not_not, tn_m1, tn_0, tn_1, tn_2, tn_3, tn_4, tn_5, tn_6, tn_7, tn_8, tn_10, tn_30, tn_31, tn_32, tn_36, tn_40, tn_50, tn_100, tn_126, tn_200, tn_255, tn_500, tn_512, tn_3000, tn_5000] at c4); split <;> rename_i hz <;> (try simp only [i32_lt, i32_le, i32_eq, inn_f, Decidable.not_not, tn_m1, tn_0, tn_1, tn_2, tn_3, tn_4, tn_5, tn_6, tn_7, tn_8, tn_10, tn_30, tn_31, tn_32, tn_36, tn_40, tn_50, tn_100, tn_126, tn_200, tn_255, tn_500, tn_512, tn_3000, tn_5000] at hz) <;> first | rfl | (exfalso; omega) | (rw [i32_eq]; simp only [i32_lt, i32_le, i32_eq, inn_f, Decidable.not_not, tn_m1, tn_0, tn_1, tn_2, tn_3, tn_4, tn_5, tn_6, tn_7, tn_8, tn_10, tn_30, tn_31, tn_32, tn_36, tn_40, tn_50, tn_100, tn_126, tn_200, tn_255, tn_500, tn_512, tn_3000, tn_5000]; omega))
        · refine q_lload (j := 1) C dX12_copyLines_60 rfl ?_
          refine q_aload_n (j := 3) C dX12_copyLines_62 rfl ?_
          refine q_get (k := 36) (v := .int 0) C ck_13 dX12_copyLines_63 w6_95 (by decide) hL (va_up_self _ _ _) f36 ?_
          refine q_i2l (v := 0) C dX12_copyLines_66 (by decide) ?_
          refine q_lcmp (v := (lg_cmp ((Int32.toInt64 a) + 0) 0)) C dX12_copyLines_67 rfl ?_
          refine q_if_ge (tgt := 89) C dX12_copyLines_68 (by decide) (fun _ => ?_) (fun z => absurd (Int32.not_lt.mp c4) z)
          refine q_aload_n (j := 3) C dX12_copyLines_89 rfl ?_
          refine q_iconst (v := 2) C dX12_copyLines_90 (by decide) ?_
          refine q_callV (d2 := 0) (mc2 := 0) (ms2 := 0) (As := [.int 2]) (rest := []) C (c_bad 2 hL (va_up_self _ _ _)) dX12_copyLines_91 kV_X12_154 rfl hL (va_up_self _ _ _) ck_13 rfl (Nat.le_of_ble_eq_true rfl) ⟨Nat.le_of_ble_eq_true rfl, Nat.le_of_ble_eq_true rfl⟩ ⟨Nat.le_of_ble_eq_true rfl, Nat.le_of_ble_eq_true rfl⟩ (fun vh3 Lh3 Eh3 h3 => ?_)
          obtain ⟨rfl, rfl, rfl⟩ := h3
          refine q_st (st2 := [.int (-1)]) rfl ?_
          exact q_iret C dX12_copyLines_94 rfl (Nat.le_of_ble_eq_true rfl) (Nat.le_of_ble_eq_true rfl) (by refine congrArg (fun z => some (Value.int z)) ?_; unfold an_end; (try simp only [inn_f, Decidable.not_not] at c1); (try simp only [i32_lt, i32_le, i32_eq, inn_f, Decidable.not_not, tn_m1, tn_0, tn_1, tn_2, tn_3, tn_4, tn_5, tn_6, tn_7, tn_8, tn_10, tn_30, tn_31, tn_32, tn_36, tn_40, tn_50, tn_100, tn_126, tn_200, tn_255, tn_500, tn_512, tn_3000, tn_5000] at c1); (try simp only [inn_f, Decidable.not_not] at c2); (try simp only [i32_lt, i32_le, i32_eq, inn_f, Decidable.not_not, tn_m1, tn_0, tn_1, tn_2, tn_3, tn_4, tn_5, tn_6, tn_7, tn_8, tn_10, tn_30, tn_31, tn_32, tn_36, tn_40, tn_50, tn_100, tn_126, tn_200, tn_255, tn_500, tn_512, tn_3000, tn_5000] at c2); (try simp only [inn_f, Decidable.not_not] at c3); (try simp only [i32_lt, i32_le, i32_eq, inn_f, Decidable.not_not, tn_m1, tn_0, tn_1, tn_2, tn_3, tn_4, tn_5, tn_6, tn_7, tn_8, tn_10, tn_30, tn_31, tn_32, tn_36, tn_40, tn_50, tn_100, tn_126, tn_200, tn_255, tn_500, tn_512, tn_3000, tn_5000] at c3); (try simp only [inn_f, Decidable.not_not] at c4); (try simp only [i32_lt, i32_le, i32_eq, inn_f, Decidable.not_not, tn_m1, tn_0, tn_1, tn_2, tn_3, tn_4, tn_5, tn_6, tn_7, tn_8, tn_10, tn_30, tn_31, tn_32, tn_36, tn_40, tn_50, tn_100, tn_126, tn_200, tn_255, tn_500, tn_512, tn_3000, tn_5000] at c4); split <;> rename_i hz <;> (try simp only [i32_lt, i32_le, i32_eq, inn_f, Decidable.not_not, tn_m1, tn_0, tn_1, tn_2, tn_3, tn_4, tn_5, tn_6, tn_7, tn_8, tn_10, tn_30, tn_31, tn_32, tn_36, tn_40, tn_50, tn_100, tn_126, tn_200, tn_255, tn_500, tn_512, tn_3000, tn_5000] at hz) <;> first | rfl | (exfalso; omega) | (rw [i32_eq]; simp only [i32_lt, i32_le, i32_eq, inn_f, Decidable.not_not, tn_m1, tn_0, tn_1, tn_2, tn_3, tn_4, tn_5, tn_6, tn_7, tn_8, tn_10, tn_30, tn_31, tn_32, tn_36, tn_40, tn_50, tn_100, tn_126, tn_200, tn_255, tn_500, tn_512, tn_3000, tn_5000]; omega))
    · refine q_aload_n (j := 0) C dX12_copyLines_17 rfl ?_
      refine q_iconst (v := 5) C dX12_copyLines_18 (by decide) ?_
      refine q_callV (d2 := 0) (mc2 := 0) (ms2 := 0) (As := [.int 5]) (rest := []) C (c_bad 5 hL hE) dX12_copyLines_19 kV_X12_154 rfl hL hE ck_13 rfl (Nat.le_of_ble_eq_true rfl) ⟨Nat.le_of_ble_eq_true rfl, Nat.le_of_ble_eq_true rfl⟩ ⟨Nat.le_of_ble_eq_true rfl, Nat.le_of_ble_eq_true rfl⟩ (fun vh4 Lh4 Eh4 h4 => ?_)
      obtain ⟨rfl, rfl, rfl⟩ := h4
      refine q_st (st2 := [.int (-1)]) rfl ?_
      exact q_iret C dX12_copyLines_22 rfl (Nat.le_of_ble_eq_true rfl) (Nat.le_of_ble_eq_true rfl) (by refine congrArg (fun z => some (Value.int z)) ?_; unfold an_end; (try simp only [inn_f, Decidable.not_not] at c1); (try simp only [i32_lt, i32_le, i32_eq, inn_f, Decidable.not_not, tn_m1, tn_0, tn_1, tn_2, tn_3, tn_4, tn_5, tn_6, tn_7, tn_8, tn_10, tn_30, tn_31, tn_32, tn_36, tn_40, tn_50, tn_100, tn_126, tn_200, tn_255, tn_500, tn_512, tn_3000, tn_5000] at c1); (try simp only [inn_f, Decidable.not_not] at c2); (try simp only [i32_lt, i32_le, i32_eq, inn_f, Decidable.not_not, tn_m1, tn_0, tn_1, tn_2, tn_3, tn_4, tn_5, tn_6, tn_7, tn_8, tn_10, tn_30, tn_31, tn_32, tn_36, tn_40, tn_50, tn_100, tn_126, tn_200, tn_255, tn_500, tn_512, tn_3000, tn_5000] at c2); split <;> rename_i hz <;> (try simp only [i32_lt, i32_le, i32_eq, inn_f, Decidable.not_not, tn_m1, tn_0, tn_1, tn_2, tn_3, tn_4, tn_5, tn_6, tn_7, tn_8, tn_10, tn_30, tn_31, tn_32, tn_36, tn_40, tn_50, tn_100, tn_126, tn_200, tn_255, tn_500, tn_512, tn_3000, tn_5000] at hz) <;> first | rfl | (exfalso; omega) | (rw [i32_eq]; simp only [i32_lt, i32_le, i32_eq, inn_f, Decidable.not_not, tn_m1, tn_0, tn_1, tn_2, tn_3, tn_4, tn_5, tn_6, tn_7, tn_8, tn_10, tn_30, tn_31, tn_32, tn_36, tn_40, tn_50, tn_100, tn_126, tn_200, tn_255, tn_500, tn_512, tn_3000, tn_5000]; omega))
  · refine q_aload_n (j := 0) C dX12_copyLines_6 rfl ?_
    refine q_bipush (v := 6) C dX12_copyLines_7 (by decide) ?_
    refine q_callV (d2 := 0) (mc2 := 0) (ms2 := 0) (As := [.int 6]) (rest := []) C (c_bad 6 hL hE) dX12_copyLines_9 kV_X12_154 rfl hL hE ck_13 rfl (Nat.le_of_ble_eq_true rfl) ⟨Nat.le_of_ble_eq_true rfl, Nat.le_of_ble_eq_true rfl⟩ ⟨Nat.le_of_ble_eq_true rfl, Nat.le_of_ble_eq_true rfl⟩ (fun vh5 Lh5 Eh5 h5 => ?_)
    obtain ⟨rfl, rfl, rfl⟩ := h5
    refine q_st (st2 := [.int (-1)]) rfl ?_
    exact q_iret C dX12_copyLines_12 rfl (Nat.le_of_ble_eq_true rfl) (Nat.le_of_ble_eq_true rfl) (by refine congrArg (fun z => some (Value.int z)) ?_; unfold an_end; (try simp only [inn_f, Decidable.not_not] at c1); (try simp only [i32_lt, i32_le, i32_eq, inn_f, Decidable.not_not, tn_m1, tn_0, tn_1, tn_2, tn_3, tn_4, tn_5, tn_6, tn_7, tn_8, tn_10, tn_30, tn_31, tn_32, tn_36, tn_40, tn_50, tn_100, tn_126, tn_200, tn_255, tn_500, tn_512, tn_3000, tn_5000] at c1); split <;> rename_i hz <;> (try simp only [i32_lt, i32_le, i32_eq, inn_f, Decidable.not_not, tn_m1, tn_0, tn_1, tn_2, tn_3, tn_4, tn_5, tn_6, tn_7, tn_8, tn_10, tn_30, tn_31, tn_32, tn_36, tn_40, tn_50, tn_100, tn_126, tn_200, tn_255, tn_500, tn_512, tn_3000, tn_5000] at hz) <;> first | rfl | (exfalso; omega) | (rw [i32_eq]; simp only [i32_lt, i32_le, i32_eq, inn_f, Decidable.not_not, tn_m1, tn_0, tn_1, tn_2, tn_3, tn_4, tn_5, tn_6, tn_7, tn_8, tn_10, tn_30, tn_31, tn_32, tn_36, tn_40, tn_50, tn_100, tn_126, tn_200, tn_255, tn_500, tn_512, tn_3000, tn_5000]; omega))
set_option maxHeartbeats 4000000 in
set_option maxRecDepth 100000 in
theorem m_emboss {l : Launch} {G : GT} {L : List Nat} {E : Nat → va_E} (a n : Int32)  {h0 : Nat} {f : Nat → Value} (hL : h0 ∈ L) (hE : E h0 = ob 13 67 f) (f36 : f 36 = .int 0) (f43 : f 43 = .int 0) : Mq l G yX12_emboss cX12_emboss 9 (some .int) 4 [.ref h0, .int a, .int n] L E 0 0 (fun v L2 E2 => v = some (.int (an_end n))) := by
  refine Mq.mk (by decide) (Nat.le_of_ble_eq_true rfl) ?_
  intro p e s m args below meth c A C
  refine q_iload_n (j := 2) C dX12_emboss_0 rfl ?_
  refine q_sipush (v := 200) C dX12_emboss_1 (by decide) ?_
  refine q_icmp_le (tgt := 14) C dX12_emboss_4 (by decide) (fun c1 => ?_) (fun c1 => ?_)
  · refine q_iload_n (j := 2) C dX12_emboss_14 rfl ?_
    refine q_if_ge (tgt := 24) C dX12_emboss_15 (by decide) (fun c2 => ?_) (fun c2 => ?_)
    · refine q_iconst (v := 0) C dX12_emboss_24 (by decide) ?_
      refine q_istore_n (lv2 := [(3, .int 0), (0, .ref h0), (1, .int a), (2, .int n)]) C dX12_emboss_25 (by decide) rfl ?_
      refine q_iconst (v := 0) C dX12_emboss_26 (by decide) ?_
      refine q_istore (lv2 := [(4, .int 0), (3, .int 0), (0, .ref h0), (1, .int a), (2, .int n)]) C dX12_emboss_27 (by decide) rfl ?_
      refine q_iload (j := 0) C dX12_emboss_29 rfl ?_
      refine q_iload_n (j := 4) C dX12_emboss_31 rfl ?_
      refine q_icmp_ge (tgt := 142) C dX12_emboss_32 (by decide) (fun c3 => ?_) (fun c3 => ?_)
      · refine q_aload_n (j := 2) C dX12_emboss_142 rfl ?_
        refine q_iload_n (j := 1) C dX12_emboss_143 rfl ?_
        refine q_callV (d2 := 0) (mc2 := 0) (ms2 := 0) (As := [.int 0]) (rest := []) C (c_fine 0 hL hE) dX12_emboss_144 kV_X12_158 rfl hL hE ck_13 rfl (Nat.le_of_ble_eq_true rfl) ⟨Nat.le_of_ble_eq_true rfl, Nat.le_of_ble_eq_true rfl⟩ ⟨Nat.le_of_ble_eq_true rfl, Nat.le_of_ble_eq_true rfl⟩ (fun vh1 Lh1 Eh1 h1 => ?_)
        obtain ⟨rfl, rfl, rfl⟩ := h1
        refine q_st (st2 := [.int 0]) rfl ?_
        exact q_iret C dX12_emboss_147 rfl (Nat.le_of_ble_eq_true rfl) (Nat.le_of_ble_eq_true rfl) (by refine congrArg (fun z => some (Value.int z)) ?_; unfold an_end; (try simp only [inn_f, Decidable.not_not] at c1); (try simp only [i32_lt, i32_le, i32_eq, inn_f, Decidable.not_not, tn_m1, tn_0, tn_1, tn_2, tn_3, tn_4, tn_5, tn_6, tn_7, tn_8, tn_10, tn_30, tn_31, tn_32, tn_36, tn_40, tn_50, tn_100, tn_126, tn_200, tn_255, tn_500, tn_512, tn_3000, tn_5000] at c1); (try simp only [inn_f, Decidable.not_not] at c2); (try simp only [i32_lt, i32_le, i32_eq, inn_f, Decidable.not_not, tn_m1, tn_0, tn_1, tn_2, tn_3, tn_4, tn_5, tn_6, tn_7, tn_8, tn_10, tn_30, tn_31, tn_32, tn_36, tn_40, tn_50, tn_100, tn_126, tn_200, tn_255, tn_500, tn_512, tn_3000, tn_5000] at c2); (try simp only [inn_f, Decidable.not_not] at c3); (try simp only [i32_lt, i32_le, i32_eq, inn_f, Decidable.not_not, tn_m1, tn_0, tn_1, tn_2, tn_3, tn_4, tn_5, tn_6, tn_7, tn_8, tn_10, tn_30, tn_31, tn_32, tn_36, tn_40, tn_50, tn_100, tn_126, tn_200, tn_255, tn_500, tn_512, tn_3000, tn_5000] at c3); split <;> rename_i hz <;> (try simp only [i32_lt, i32_le, i32_eq, inn_f, Decidable.not_not, tn_m1, tn_0, tn_1, tn_2, tn_3, tn_4, tn_5, tn_6, tn_7, tn_8, tn_10, tn_30, tn_31, tn_32, tn_36, tn_40, tn_50, tn_100, tn_126, tn_200, tn_255, tn_500, tn_512, tn_3000, tn_5000] at hz) <;> first | rfl | (exfalso; omega) | (rw [i32_eq]; simp only [i32_lt, i32_le, i32_eq, inn_f, Decidable.not_not, tn_m1, tn_0, tn_1, tn_2, tn_3, tn_4, tn_5, tn_6, tn_7, tn_8, tn_10, tn_30, tn_31, tn_32, tn_36, tn_40, tn_50, tn_100, tn_126, tn_200, tn_255, tn_500, tn_512, tn_3000, tn_5000]; omega))
      · refine q_iload_n (j := 3) C dX12_emboss_35 rfl ?_
        refine q_i2l (v := (Int32.toInt64 a)) C dX12_emboss_36 rfl ?_
        refine q_iload (j := 0) C dX12_emboss_37 rfl ?_
        refine q_i2l (v := 0) C dX12_emboss_39 (by decide) ?_
        refine q_ladd (v := ((Int32.toInt64 a) + 0)) C dX12_emboss_40 rfl ?_
        refine q_lstore (lv2 := [(5, .long ((Int32.toInt64 a) + 0)), (4, .int 0), (3, .int 0), (0, .ref h0), (1, .int a), (2, .int n)]) C dX12_emboss_41 (by decide) rfl ?_
        refine q_aload_n (j := 3) C dX12_emboss_43 rfl ?_
        refine q_dup C dX12_emboss_44 rfl ?_
        refine q_get (k := 43) (v := .int 0) C ck_13 dX12_emboss_45 w6_102 (by decide) hL hE f43 ?_
        refine q_iconst (v := 1) C dX12_emboss_48 (by decide) ?_
        refine q_iadd (v := 1) C dX12_emboss_49 (by decide) ?_
        refine q_put (k := 43) C ck_13 dX12_emboss_50 w6_102 (by decide) rfl hL hE rfl rfl ?_
        refine q_lload (j := 0) C dX12_emboss_53 rfl ?_
        refine q_lconst (v := 0) C dX12_emboss_55 (by decide) ?_
        refine q_lcmp (v := (lg_cmp ((Int32.toInt64 a) + 0) 0)) C dX12_emboss_56 rfl ?_
        refine q_if_lt (tgt := 71) C dX12_emboss_57 (by decide) (fun c4 => ?_) (fun c4 => ?_)
        · refine q_aload_n (j := 3) C dX12_emboss_71 rfl ?_
          refine q_iconst (v := 2) C dX12_emboss_72 (by decide) ?_
          refine q_callV (d2 := 0) (mc2 := 0) (ms2 := 0) (As := [.int 2]) (rest := []) C (c_bad 2 hL (va_up_self _ _ _)) dX12_emboss_73 kV_X12_154 rfl hL (va_up_self _ _ _) ck_13 rfl (Nat.le_of_ble_eq_true rfl) ⟨Nat.le_of_ble_eq_true rfl, Nat.le_of_ble_eq_true rfl⟩ ⟨Nat.le_of_ble_eq_true rfl, Nat.le_of_ble_eq_true rfl⟩ (fun vh2 Lh2 Eh2 h2 => ?_)
          obtain ⟨rfl, rfl, rfl⟩ := h2
          refine q_st (st2 := [.int (-1)]) rfl ?_
          exact q_iret C dX12_emboss_76 rfl (Nat.le_of_ble_eq_true rfl) (Nat.le_of_ble_eq_true rfl) (by refine congrArg (fun z => some (Value.int z)) ?_; unfold an_end; (try simp only [inn_f, Decidable.not_not] at c1); (try simp only [i32_lt, i32_le, i32_eq, inn_f, Decidable.not_not, tn_m1, tn_0, tn_1, tn_2, tn_3, tn_4, tn_5, tn_6, tn_7, tn_8, tn_10, tn_30, tn_31, tn_32, tn_36, tn_40, tn_50, tn_100, tn_126, tn_200, tn_255, tn_500, tn_512, tn_3000, tn_5000] at c1); (try simp only [inn_f, Decidable.not_not] at c2); (try simp only [i32_lt, i32_le, i32_eq, inn_f, Decidable.not_not, tn_m1, tn_0, tn_1, tn_2, tn_3, tn_4, tn_5, tn_6, tn_7, tn_8, tn_10, tn_30, tn_31, tn_32, tn_36, tn_40, tn_50, tn_100, tn_126, tn_200, tn_255, tn_500, tn_512, tn_3000, tn_5000] at c2); (try simp only [inn_f, Decidable.not_not] at c3); (try simp only [i32_lt, i32_le, i32_eq, inn_f, Decidable.not_not, tn_m1, tn_0, tn_1, tn_2, tn_3, tn_4, tn_5, tn_6, tn_7, tn_8, tn_10, tn_30, tn_31, tn_32, tn_36, tn_40, tn_50, tn_100, tn_126, tn_200, tn_255, tn_500, tn_512, tn_3000, tn_5000] at c3); (try simp only [inn_f, Decidable.not_not] at c4); (try simp only [i32_lt, i32_le, i32_eq, inn_f, Decidable.not_not, tn_m1, tn_0, tn_1, tn_2, tn_3, tn_4, tn_5, tn_6, tn_7, tn_8, tn_10, tn_30, tn_31, tn_32, tn_36, tn_40, tn_50, tn_100, tn_126, tn_200, tn_255, tn_500, tn_512, tn_3000, tn_5000] at c4); split <;> rename_i hz <;> (try simp only [i32_lt, i32_le, i32_eq, inn_f, Decidable.not_not, tn_m1, tn_0, tn_1, tn_2, tn_3, tn_4, tn_5, tn_6, tn_7, tn_8, tn_10, tn_30, tn_31, tn_32, tn_36, tn_40, tn_50, tn_100, tn_126, tn_200, tn_255, tn_500, tn_512, tn_3000, tn_5000] at hz) <;> first | rfl | (exfalso; omega) | (rw [i32_eq]; simp only [i32_lt, i32_le, i32_eq, inn_f, Decidable.not_not, tn_m1, tn_0, tn_1, tn_2, tn_3, tn_4, tn_5, tn_6, tn_7, tn_8, tn_10, tn_30, tn_31, tn_32, tn_36, tn_40, tn_50, tn_100, tn_126, tn_200, tn_255, tn_500, tn_512, tn_3000, tn_5000]; omega))
        · refine q_lload (j := 0) C dX12_emboss_60 rfl ?_
          refine q_aload_n (j := 3) C dX12_emboss_62 rfl ?_
          refine q_get (k := 36) (v := .int 0) C ck_13 dX12_emboss_63 w6_95 (by decide) hL (va_up_self _ _ _) f36 ?_
          refine q_i2l (v := 0) C dX12_emboss_66 (by decide) ?_
          refine q_lcmp (v := (lg_cmp ((Int32.toInt64 a) + 0) 0)) C dX12_emboss_67 rfl ?_
          refine q_if_lt (tgt := 77) C dX12_emboss_68 (by decide) (fun z => absurd z c4) (fun _ => ?_)
          refine q_aload_n (j := 3) C dX12_emboss_71 rfl ?_
          refine q_iconst (v := 2) C dX12_emboss_72 (by decide) ?_
          refine q_callV (d2 := 0) (mc2 := 0) (ms2 := 0) (As := [.int 2]) (rest := []) C (c_bad 2 hL (va_up_self _ _ _)) dX12_emboss_73 kV_X12_154 rfl hL (va_up_self _ _ _) ck_13 rfl (Nat.le_of_ble_eq_true rfl) ⟨Nat.le_of_ble_eq_true rfl, Nat.le_of_ble_eq_true rfl⟩ ⟨Nat.le_of_ble_eq_true rfl, Nat.le_of_ble_eq_true rfl⟩ (fun vh3 Lh3 Eh3 h3 => ?_)
          obtain ⟨rfl, rfl, rfl⟩ := h3
          refine q_st (st2 := [.int (-1)]) rfl ?_
          exact q_iret C dX12_emboss_76 rfl (Nat.le_of_ble_eq_true rfl) (Nat.le_of_ble_eq_true rfl) (by refine congrArg (fun z => some (Value.int z)) ?_; unfold an_end; (try simp only [inn_f, Decidable.not_not] at c1); (try simp only [i32_lt, i32_le, i32_eq, inn_f, Decidable.not_not, tn_m1, tn_0, tn_1, tn_2, tn_3, tn_4, tn_5, tn_6, tn_7, tn_8, tn_10, tn_30, tn_31, tn_32, tn_36, tn_40, tn_50, tn_100, tn_126, tn_200, tn_255, tn_500, tn_512, tn_3000, tn_5000] at c1); (try simp only [inn_f, Decidable.not_not] at c2); (try simp only [i32_lt, i32_le, i32_eq, inn_f, Decidable.not_not, tn_m1, tn_0, tn_1, tn_2, tn_3, tn_4, tn_5, tn_6, tn_7, tn_8, tn_10, tn_30, tn_31, tn_32, tn_36, tn_40, tn_50, tn_100, tn_126, tn_200, tn_255, tn_500, tn_512, tn_3000, tn_5000] at c2); (try simp only [inn_f, Decidable.not_not] at c3); (try simp only [i32_lt, i32_le, i32_eq, inn_f, Decidable.not_not, tn_m1, tn_0, tn_1, tn_2, tn_3, tn_4, tn_5, tn_6, tn_7, tn_8, tn_10, tn_30, tn_31, tn_32, tn_36, tn_40, tn_50, tn_100, tn_126, tn_200, tn_255, tn_500, tn_512, tn_3000, tn_5000] at c3); (try simp only [inn_f, Decidable.not_not] at c4); (try simp only [i32_lt, i32_le, i32_eq, inn_f, Decidable.not_not, tn_m1, tn_0, tn_1, tn_2, tn_3, tn_4, tn_5, tn_6, tn_7, tn_8, tn_10, tn_30, tn_31, tn_32, tn_36, tn_40, tn_50, tn_100, tn_126, tn_200, tn_255, tn_500, tn_512, tn_3000, tn_5000] at c4); split <;> rename_i hz <;> (try simp only [i32_lt, i32_le, i32_eq, inn_f, Decidable.not_not, tn_m1, tn_0, tn_1, tn_2, tn_3, tn_4, tn_5, tn_6, tn_7, tn_8, tn_10, tn_30, tn_31, tn_32, tn_36, tn_40, tn_50, tn_100, tn_126, tn_200, tn_255, tn_500, tn_512, tn_3000, tn_5000] at hz) <;> first | rfl | (exfalso; omega) | (rw [i32_eq]; simp only [i32_lt, i32_le, i32_eq, inn_f, Decidable.not_not, tn_m1, tn_0, tn_1, tn_2, tn_3, tn_4, tn_5, tn_6, tn_7, tn_8, tn_10, tn_30, tn_31, tn_32, tn_36, tn_40, tn_50, tn_100, tn_126, tn_200, tn_255, tn_500, tn_512, tn_3000, tn_5000]; omega))
    · refine q_aload_n (j := 0) C dX12_emboss_18 rfl ?_
      refine q_iconst (v := 5) C dX12_emboss_19 (by decide) ?_
      refine q_callV (d2 := 0) (mc2 := 0) (ms2 := 0) (As := [.int 5]) (rest := []) C (c_bad 5 hL hE) dX12_emboss_20 kV_X12_154 rfl hL hE ck_13 rfl (Nat.le_of_ble_eq_true rfl) ⟨Nat.le_of_ble_eq_true rfl, Nat.le_of_ble_eq_true rfl⟩ ⟨Nat.le_of_ble_eq_true rfl, Nat.le_of_ble_eq_true rfl⟩ (fun vh4 Lh4 Eh4 h4 => ?_)
      obtain ⟨rfl, rfl, rfl⟩ := h4
      refine q_st (st2 := [.int (-1)]) rfl ?_
      exact q_iret C dX12_emboss_23 rfl (Nat.le_of_ble_eq_true rfl) (Nat.le_of_ble_eq_true rfl) (by refine congrArg (fun z => some (Value.int z)) ?_; unfold an_end; (try simp only [inn_f, Decidable.not_not] at c1); (try simp only [i32_lt, i32_le, i32_eq, inn_f, Decidable.not_not, tn_m1, tn_0, tn_1, tn_2, tn_3, tn_4, tn_5, tn_6, tn_7, tn_8, tn_10, tn_30, tn_31, tn_32, tn_36, tn_40, tn_50, tn_100, tn_126, tn_200, tn_255, tn_500, tn_512, tn_3000, tn_5000] at c1); (try simp only [inn_f, Decidable.not_not] at c2); (try simp only [i32_lt, i32_le, i32_eq, inn_f, Decidable.not_not, tn_m1, tn_0, tn_1, tn_2, tn_3, tn_4, tn_5, tn_6, tn_7, tn_8, tn_10, tn_30, tn_31, tn_32, tn_36, tn_40, tn_50, tn_100, tn_126, tn_200, tn_255, tn_500, tn_512, tn_3000, tn_5000] at c2); split <;> rename_i hz <;> (try simp only [i32_lt, i32_le, i32_eq, inn_f, Decidable.not_not, tn_m1, tn_0, tn_1, tn_2, tn_3, tn_4, tn_5, tn_6, tn_7, tn_8, tn_10, tn_30, tn_31, tn_32, tn_36, tn_40, tn_50, tn_100, tn_126, tn_200, tn_255, tn_500, tn_512, tn_3000, tn_5000] at hz) <;> first | rfl | (exfalso; omega) | (rw [i32_eq]; simp only [i32_lt, i32_le, i32_eq, inn_f, Decidable.not_not, tn_m1, tn_0, tn_1, tn_2, tn_3, tn_4, tn_5, tn_6, tn_7, tn_8, tn_10, tn_30, tn_31, tn_32, tn_36, tn_40, tn_50, tn_100, tn_126, tn_200, tn_255, tn_500, tn_512, tn_3000, tn_5000]; omega))
  · refine q_aload_n (j := 0) C dX12_emboss_7 rfl ?_
    refine q_bipush (v := 6) C dX12_emboss_8 (by decide) ?_
    refine q_callV (d2 := 0) (mc2 := 0) (ms2 := 0) (As := [.int 6]) (rest := []) C (c_bad 6 hL hE) dX12_emboss_10 kV_X12_154 rfl hL hE ck_13 rfl (Nat.le_of_ble_eq_true rfl) ⟨Nat.le_of_ble_eq_true rfl, Nat.le_of_ble_eq_true rfl⟩ ⟨Nat.le_of_ble_eq_true rfl, Nat.le_of_ble_eq_true rfl⟩ (fun vh5 Lh5 Eh5 h5 => ?_)
    obtain ⟨rfl, rfl, rfl⟩ := h5
    refine q_st (st2 := [.int (-1)]) rfl ?_
    exact q_iret C dX12_emboss_13 rfl (Nat.le_of_ble_eq_true rfl) (Nat.le_of_ble_eq_true rfl) (by refine congrArg (fun z => some (Value.int z)) ?_; unfold an_end; (try simp only [inn_f, Decidable.not_not] at c1); (try simp only [i32_lt, i32_le, i32_eq, inn_f, Decidable.not_not, tn_m1, tn_0, tn_1, tn_2, tn_3, tn_4, tn_5, tn_6, tn_7, tn_8, tn_10, tn_30, tn_31, tn_32, tn_36, tn_40, tn_50, tn_100, tn_126, tn_200, tn_255, tn_500, tn_512, tn_3000, tn_5000] at c1); split <;> rename_i hz <;> (try simp only [i32_lt, i32_le, i32_eq, inn_f, Decidable.not_not, tn_m1, tn_0, tn_1, tn_2, tn_3, tn_4, tn_5, tn_6, tn_7, tn_8, tn_10, tn_30, tn_31, tn_32, tn_36, tn_40, tn_50, tn_100, tn_126, tn_200, tn_255, tn_500, tn_512, tn_3000, tn_5000] at hz) <;> first | rfl | (exfalso; omega) | (rw [i32_eq]; simp only [i32_lt, i32_le, i32_eq, inn_f, Decidable.not_not, tn_m1, tn_0, tn_1, tn_2, tn_3, tn_4, tn_5, tn_6, tn_7, tn_8, tn_10, tn_30, tn_31, tn_32, tn_36, tn_40, tn_50, tn_100, tn_126, tn_200, tn_255, tn_500, tn_512, tn_3000, tn_5000]; omega))
set_option maxHeartbeats 4000000 in
set_option maxRecDepth 100000 in
theorem m_feed {l : Launch} {G : GT} {L : List Nat} {E : Nat → va_E} (a b c1 d1 e1 : Int32)  {h0 a2 : Nat} {f : Nat → Value} (hL : h0 ∈ L) (hE : E h0 = ob 13 67 f) (f3 : f 3 = .int 0) (f2 : f 2 = .ref a2) (hL2 : a2 ∈ L) (hE2 : E a2 = aI G 3000 (fun _ => 0)) (n2 : h0 ≠ a2) : Mq l G yX12_feed cX12_feed 8 (some .int) 4 [.ref h0, .int a, .int b, .int c1, .int d1, .int e1] L E 0 0 (fun v L2 E2 => v = some (.int 20)) := by
  refine Mq.mk (by decide) (Nat.le_of_ble_eq_true rfl) ?_
  intro p e s m args below meth c A C
  refine q_aload_n (j := 0) C dX12_feed_0 rfl ?_
  refine q_get (k := 3) (v := .int 0) C ck_13 dX12_feed_1 w6_62 (by decide) hL hE f3 ?_
  refine q_bipush (v := 20) C dX12_feed_4 (by decide) ?_
  refine q_iadd (v := 20) C dX12_feed_6 (by decide) ?_
  refine q_sipush (v := 3000) C dX12_feed_7 (by decide) ?_
  refine q_icmp_le (tgt := 20) C dX12_feed_10 (by decide) (fun _ => ?_) (fun z => absurd (by decide) z)
  refine q_iconst (v := 0) C dX12_feed_20 (by decide) ?_
  refine q_istore (lv2 := [(6, .int 0), (0, .ref h0), (1, .int a), (2, .int b), (3, .int c1), (4, .int d1), (5, .int e1)]) C dX12_feed_21 (by decide) rfl ?_
  refine q_iload (j := 0) C dX12_feed_23 rfl ?_
  refine q_bipush (v := 20) C dX12_feed_25 (by decide) ?_
  refine q_icmp_ge (tgt := 120) C dX12_feed_27 (by decide) (fun z => absurd z (by decide)) (fun _ => ?_)
  refine q_iload (j := 0) C dX12_feed_30 rfl ?_
  refine q_iconst (v := 4) C dX12_feed_32 (by decide) ?_
  refine q_icmp_ge (tgt := 40) C dX12_feed_33 (by decide) (fun z => absurd z (by decide)) (fun _ => ?_)
  refine q_iload_n (j := 2) C dX12_feed_36 rfl ?_
  refine q_goto (tgt := 76) C dX12_feed_37 (by decide) ?_
  refine q_istore (lv2 := [(7, .int a), (6, .int 0), (0, .ref h0), (1, .int a), (2, .int b), (3, .int c1), (4, .int d1), (5, .int e1)]) C dX12_feed_76 (by decide) rfl ?_
  refine q_aload_n (j := 2) C dX12_feed_78 rfl ?_
  refine q_get (k := 2) (v := .ref a2) C ck_13 dX12_feed_79 w6_61 (by decide) hL hE f2 ?_
  refine q_aload_n (j := 2) C dX12_feed_82 rfl ?_
  refine q_get (k := 3) (v := .int 0) C ck_13 dX12_feed_83 w6_62 (by decide) hL hE f3 ?_
  refine q_iload (j := 0) C dX12_feed_86 rfl ?_
  refine q_bipush (v := 24) C dX12_feed_88 (by decide) ?_
  refine q_bipush (v := 8) C dX12_feed_90 (by decide) ?_
  refine q_iload (j := 1) C dX12_feed_92 rfl ?_
  refine q_iconst (v := 3) C dX12_feed_94 (by decide) ?_
  refine q_iand (v := 0) C dX12_feed_95 (by decide) ?_
  refine q_imul (v := 0) C dX12_feed_96 (by decide) ?_
  refine q_isub (v := 24) C dX12_feed_97 (by decide) ?_
  refine q_ishr (v := (a >>> ((24 : Int32) &&& 31))) C dX12_feed_98 rfl ?_
  refine q_sipush (v := 255) C dX12_feed_99 (by decide) ?_
  refine q_iand (v := ((a >>> ((24 : Int32) &&& 31)) &&& (255 : Int32))) C dX12_feed_102 rfl ?_
  refine q_iast C dX12_feed_103 hL2 hE2 (by unfold vp_in; decide) ?_
  refine q_aload_n (j := 2) C dX12_feed_104 rfl ?_
  refine q_dup C dX12_feed_105 rfl ?_
  refine q_get (k := 3) (v := .int 0) C ck_13 dX12_feed_106 w6_62 (by decide) hL ((va_up_ne _ _ n2).trans hE) f3 ?_
  refine q_iconst (v := 1) C dX12_feed_109 (by decide) ?_
  refine q_iadd (v := 1) C dX12_feed_110 (by decide) ?_
  refine q_put (k := 3) C ck_13 dX12_feed_111 w6_62 (by decide) rfl hL ((va_up_ne _ _ n2).trans hE) rfl rfl ?_
  refine q_iinc (j := 1) (v := 1) (lv2 := [(6, .int 1), (7, .int a), (0, .ref h0), (1, .int a), (2, .int b), (3, .int c1), (4, .int d1), (5, .int e1)]) C dX12_feed_114 rfl (by decide) (by decide) rfl ?_
  refine q_goto (tgt := 23) C dX12_feed_117 (by decide) ?_
  refine q_iload (j := 0) C dX12_feed_23 rfl ?_
  refine q_bipush (v := 20) C dX12_feed_25 (by decide) ?_
  refine q_icmp_ge (tgt := 120) C dX12_feed_27 (by decide) (fun z => absurd z (by decide)) (fun _ => ?_)
  refine q_iload (j := 0) C dX12_feed_30 rfl ?_
  refine q_iconst (v := 4) C dX12_feed_32 (by decide) ?_
  refine q_icmp_ge (tgt := 40) C dX12_feed_33 (by decide) (fun z => absurd z (by decide)) (fun _ => ?_)
  refine q_iload_n (j := 3) C dX12_feed_36 rfl ?_
  refine q_goto (tgt := 76) C dX12_feed_37 (by decide) ?_
  refine q_istore (lv2 := [(7, .int a), (6, .int 1), (0, .ref h0), (1, .int a), (2, .int b), (3, .int c1), (4, .int d1), (5, .int e1)]) C dX12_feed_76 (by decide) rfl ?_
  refine q_aload_n (j := 2) C dX12_feed_78 rfl ?_
  refine q_get (k := 2) (v := .ref a2) C ck_13 dX12_feed_79 w6_61 (by decide) hL (va_up_self _ _ _) f2 ?_
  refine q_aload_n (j := 2) C dX12_feed_82 rfl ?_
  refine q_get (k := 3) (v := .int 1) C ck_13 dX12_feed_83 w6_62 (by decide) hL (va_up_self _ _ _) rfl ?_
  refine q_iload (j := 0) C dX12_feed_86 rfl ?_
  refine q_bipush (v := 24) C dX12_feed_88 (by decide) ?_
  refine q_bipush (v := 8) C dX12_feed_90 (by decide) ?_
  refine q_iload (j := 1) C dX12_feed_92 rfl ?_
  refine q_iconst (v := 3) C dX12_feed_94 (by decide) ?_
  refine q_iand (v := 1) C dX12_feed_95 (by decide) ?_
  refine q_imul (v := 8) C dX12_feed_96 (by decide) ?_
  refine q_isub (v := 16) C dX12_feed_97 (by decide) ?_
  refine q_ishr (v := (a >>> ((16 : Int32) &&& 31))) C dX12_feed_98 rfl ?_
  refine q_sipush (v := 255) C dX12_feed_99 (by decide) ?_
  refine q_iand (v := ((a >>> ((16 : Int32) &&& 31)) &&& (255 : Int32))) C dX12_feed_102 rfl ?_
  refine q_iast C dX12_feed_103 hL2 ((va_up_ne _ _ (Ne.symm n2)).trans (va_up_self _ _ _)) (by unfold vp_in; decide) ?_
  refine q_aload_n (j := 2) C dX12_feed_104 rfl ?_
  refine q_dup C dX12_feed_105 rfl ?_
  refine q_get (k := 3) (v := .int 1) C ck_13 dX12_feed_106 w6_62 (by decide) hL ((va_up_ne _ _ n2).trans (va_up_self _ _ _)) rfl ?_
  refine q_iconst (v := 1) C dX12_feed_109 (by decide) ?_
  refine q_iadd (v := 2) C dX12_feed_110 (by decide) ?_
  refine q_put (k := 3) C ck_13 dX12_feed_111 w6_62 (by decide) rfl hL ((va_up_ne _ _ n2).trans (va_up_self _ _ _)) rfl rfl ?_
  refine q_cut (fun Lk1 Ek1 hLk1 hEk1 => ?_)
  have ek1h0 := (congrFun hEk1 h0).trans (va_up_self _ _ _)
  have lk1h0 : h0 ∈ Lk1 := hLk1 ▸ hL
  have ek1a2 := (congrFun hEk1 a2).trans ((va_up_ne _ _ (Ne.symm n2)).trans (va_up_self _ _ _))
  have lk1a2 : a2 ∈ Lk1 := hLk1 ▸ hL2
  clear hEk1 hLk1
  refine q_iinc (j := 1) (v := 2) (lv2 := [(6, .int 2), (7, .int a), (0, .ref h0), (1, .int a), (2, .int b), (3, .int c1), (4, .int d1), (5, .int e1)]) C dX12_feed_114 rfl (by decide) (by decide) rfl ?_
  refine q_goto (tgt := 23) C dX12_feed_117 (by decide) ?_
  refine q_iload (j := 0) C dX12_feed_23 rfl ?_
  refine q_bipush (v := 20) C dX12_feed_25 (by decide) ?_
  refine q_icmp_ge (tgt := 120) C dX12_feed_27 (by decide) (fun z => absurd z (by decide)) (fun _ => ?_)
  refine q_iload (j := 0) C dX12_feed_30 rfl ?_
  refine q_iconst (v := 4) C dX12_feed_32 (by decide) ?_
  refine q_icmp_ge (tgt := 40) C dX12_feed_33 (by decide) (fun z => absurd z (by decide)) (fun _ => ?_)
  refine q_iload_n (j := 3) C dX12_feed_36 rfl ?_
  refine q_goto (tgt := 76) C dX12_feed_37 (by decide) ?_
  refine q_istore (lv2 := [(7, .int a), (6, .int 2), (0, .ref h0), (1, .int a), (2, .int b), (3, .int c1), (4, .int d1), (5, .int e1)]) C dX12_feed_76 (by decide) rfl ?_
  refine q_aload_n (j := 2) C dX12_feed_78 rfl ?_
  refine q_get (k := 2) (v := .ref a2) C ck_13 dX12_feed_79 w6_61 (by decide) lk1h0 ek1h0 f2 ?_
  refine q_aload_n (j := 2) C dX12_feed_82 rfl ?_
  refine q_get (k := 3) (v := .int 2) C ck_13 dX12_feed_83 w6_62 (by decide) lk1h0 ek1h0 rfl ?_
  refine q_iload (j := 0) C dX12_feed_86 rfl ?_
  refine q_bipush (v := 24) C dX12_feed_88 (by decide) ?_
  refine q_bipush (v := 8) C dX12_feed_90 (by decide) ?_
  refine q_iload (j := 1) C dX12_feed_92 rfl ?_
  refine q_iconst (v := 3) C dX12_feed_94 (by decide) ?_
  refine q_iand (v := 2) C dX12_feed_95 (by decide) ?_
  refine q_imul (v := 16) C dX12_feed_96 (by decide) ?_
  refine q_isub (v := 8) C dX12_feed_97 (by decide) ?_
  refine q_ishr (v := (a >>> ((8 : Int32) &&& 31))) C dX12_feed_98 rfl ?_
  refine q_sipush (v := 255) C dX12_feed_99 (by decide) ?_
  refine q_iand (v := ((a >>> ((8 : Int32) &&& 31)) &&& (255 : Int32))) C dX12_feed_102 rfl ?_
  refine q_iast C dX12_feed_103 lk1a2 ek1a2 (by unfold vp_in; decide) ?_
  refine q_aload_n (j := 2) C dX12_feed_104 rfl ?_
  refine q_dup C dX12_feed_105 rfl ?_
  refine q_get (k := 3) (v := .int 2) C ck_13 dX12_feed_106 w6_62 (by decide) lk1h0 ((va_up_ne _ _ n2).trans ek1h0) rfl ?_
  refine q_iconst (v := 1) C dX12_feed_109 (by decide) ?_
  refine q_iadd (v := 3) C dX12_feed_110 (by decide) ?_
  refine q_put (k := 3) C ck_13 dX12_feed_111 w6_62 (by decide) rfl lk1h0 ((va_up_ne _ _ n2).trans ek1h0) rfl rfl ?_
  refine q_iinc (j := 1) (v := 3) (lv2 := [(6, .int 3), (7, .int a), (0, .ref h0), (1, .int a), (2, .int b), (3, .int c1), (4, .int d1), (5, .int e1)]) C dX12_feed_114 rfl (by decide) (by decide) rfl ?_
  refine q_goto (tgt := 23) C dX12_feed_117 (by decide) ?_
  refine q_iload (j := 0) C dX12_feed_23 rfl ?_
  refine q_bipush (v := 20) C dX12_feed_25 (by decide) ?_
  refine q_icmp_ge (tgt := 120) C dX12_feed_27 (by decide) (fun z => absurd z (by decide)) (fun _ => ?_)
  refine q_iload (j := 0) C dX12_feed_30 rfl ?_
  refine q_iconst (v := 4) C dX12_feed_32 (by decide) ?_
  refine q_icmp_ge (tgt := 40) C dX12_feed_33 (by decide) (fun z => absurd z (by decide)) (fun _ => ?_)
  refine q_iload_n (j := 3) C dX12_feed_36 rfl ?_
  refine q_goto (tgt := 76) C dX12_feed_37 (by decide) ?_
  refine q_istore (lv2 := [(7, .int a), (6, .int 3), (0, .ref h0), (1, .int a), (2, .int b), (3, .int c1), (4, .int d1), (5, .int e1)]) C dX12_feed_76 (by decide) rfl ?_
  refine q_aload_n (j := 2) C dX12_feed_78 rfl ?_
  refine q_get (k := 2) (v := .ref a2) C ck_13 dX12_feed_79 w6_61 (by decide) lk1h0 (va_up_self _ _ _) f2 ?_
  refine q_aload_n (j := 2) C dX12_feed_82 rfl ?_
  refine q_get (k := 3) (v := .int 3) C ck_13 dX12_feed_83 w6_62 (by decide) lk1h0 (va_up_self _ _ _) rfl ?_
  refine q_iload (j := 0) C dX12_feed_86 rfl ?_
  refine q_bipush (v := 24) C dX12_feed_88 (by decide) ?_
  refine q_bipush (v := 8) C dX12_feed_90 (by decide) ?_
  refine q_iload (j := 1) C dX12_feed_92 rfl ?_
  refine q_iconst (v := 3) C dX12_feed_94 (by decide) ?_
  refine q_iand (v := 3) C dX12_feed_95 (by decide) ?_
  refine q_imul (v := 24) C dX12_feed_96 (by decide) ?_
  refine q_isub (v := 0) C dX12_feed_97 (by decide) ?_
  refine q_ishr (v := (a >>> ((0 : Int32) &&& 31))) C dX12_feed_98 rfl ?_
  refine q_sipush (v := 255) C dX12_feed_99 (by decide) ?_
  refine q_iand (v := ((a >>> ((0 : Int32) &&& 31)) &&& (255 : Int32))) C dX12_feed_102 rfl ?_
  refine q_iast C dX12_feed_103 lk1a2 ((va_up_ne _ _ (Ne.symm n2)).trans (va_up_self _ _ _)) (by unfold vp_in; decide) ?_
  refine q_aload_n (j := 2) C dX12_feed_104 rfl ?_
  refine q_dup C dX12_feed_105 rfl ?_
  refine q_get (k := 3) (v := .int 3) C ck_13 dX12_feed_106 w6_62 (by decide) lk1h0 ((va_up_ne _ _ n2).trans (va_up_self _ _ _)) rfl ?_
  refine q_iconst (v := 1) C dX12_feed_109 (by decide) ?_
  refine q_iadd (v := 4) C dX12_feed_110 (by decide) ?_
  refine q_put (k := 3) C ck_13 dX12_feed_111 w6_62 (by decide) rfl lk1h0 ((va_up_ne _ _ n2).trans (va_up_self _ _ _)) rfl rfl ?_
  refine q_cut (fun Lk2 Ek2 hLk2 hEk2 => ?_)
  have ek2h0 := (congrFun hEk2 h0).trans (va_up_self _ _ _)
  have lk2h0 : h0 ∈ Lk2 := hLk2 ▸ lk1h0
  have ek2a2 := (congrFun hEk2 a2).trans ((va_up_ne _ _ (Ne.symm n2)).trans (va_up_self _ _ _))
  have lk2a2 : a2 ∈ Lk2 := hLk2 ▸ lk1a2
  clear hEk2 hLk2
  refine q_iinc (j := 1) (v := 4) (lv2 := [(6, .int 4), (7, .int a), (0, .ref h0), (1, .int a), (2, .int b), (3, .int c1), (4, .int d1), (5, .int e1)]) C dX12_feed_114 rfl (by decide) (by decide) rfl ?_
  refine q_goto (tgt := 23) C dX12_feed_117 (by decide) ?_
  refine q_iload (j := 0) C dX12_feed_23 rfl ?_
  refine q_bipush (v := 20) C dX12_feed_25 (by decide) ?_
  refine q_icmp_ge (tgt := 120) C dX12_feed_27 (by decide) (fun z => absurd z (by decide)) (fun _ => ?_)
  refine q_iload (j := 0) C dX12_feed_30 rfl ?_
  refine q_iconst (v := 4) C dX12_feed_32 (by decide) ?_
  refine q_icmp_ge (tgt := 40) C dX12_feed_33 (by decide) (fun _ => ?_) (fun z => absurd (by decide) z)
  refine q_iload (j := 0) C dX12_feed_40 rfl ?_
  refine q_bipush (v := 8) C dX12_feed_42 (by decide) ?_
  refine q_icmp_ge (tgt := 51) C dX12_feed_44 (by decide) (fun z => absurd z (by decide)) (fun _ => ?_)
  refine q_iload_n (j := 4) C dX12_feed_47 rfl ?_
  refine q_goto (tgt := 76) C dX12_feed_48 (by decide) ?_
  refine q_istore (lv2 := [(7, .int b), (6, .int 4), (0, .ref h0), (1, .int a), (2, .int b), (3, .int c1), (4, .int d1), (5, .int e1)]) C dX12_feed_76 (by decide) rfl ?_
  refine q_aload_n (j := 2) C dX12_feed_78 rfl ?_
  refine q_get (k := 2) (v := .ref a2) C ck_13 dX12_feed_79 w6_61 (by decide) lk2h0 ek2h0 f2 ?_
  refine q_aload_n (j := 2) C dX12_feed_82 rfl ?_
  refine q_get (k := 3) (v := .int 4) C ck_13 dX12_feed_83 w6_62 (by decide) lk2h0 ek2h0 rfl ?_
  refine q_iload (j := 0) C dX12_feed_86 rfl ?_
  refine q_bipush (v := 24) C dX12_feed_88 (by decide) ?_
  refine q_bipush (v := 8) C dX12_feed_90 (by decide) ?_
  refine q_iload (j := 1) C dX12_feed_92 rfl ?_
  refine q_iconst (v := 3) C dX12_feed_94 (by decide) ?_
  refine q_iand (v := 0) C dX12_feed_95 (by decide) ?_
  refine q_imul (v := 0) C dX12_feed_96 (by decide) ?_
  refine q_isub (v := 24) C dX12_feed_97 (by decide) ?_
  refine q_ishr (v := (b >>> ((24 : Int32) &&& 31))) C dX12_feed_98 rfl ?_
  refine q_sipush (v := 255) C dX12_feed_99 (by decide) ?_
  refine q_iand (v := ((b >>> ((24 : Int32) &&& 31)) &&& (255 : Int32))) C dX12_feed_102 rfl ?_
  refine q_iast C dX12_feed_103 lk2a2 ek2a2 (by unfold vp_in; decide) ?_
  refine q_aload_n (j := 2) C dX12_feed_104 rfl ?_
  refine q_dup C dX12_feed_105 rfl ?_
  refine q_get (k := 3) (v := .int 4) C ck_13 dX12_feed_106 w6_62 (by decide) lk2h0 ((va_up_ne _ _ n2).trans ek2h0) rfl ?_
  refine q_iconst (v := 1) C dX12_feed_109 (by decide) ?_
  refine q_iadd (v := 5) C dX12_feed_110 (by decide) ?_
  refine q_put (k := 3) C ck_13 dX12_feed_111 w6_62 (by decide) rfl lk2h0 ((va_up_ne _ _ n2).trans ek2h0) rfl rfl ?_
  refine q_iinc (j := 1) (v := 5) (lv2 := [(6, .int 5), (7, .int b), (0, .ref h0), (1, .int a), (2, .int b), (3, .int c1), (4, .int d1), (5, .int e1)]) C dX12_feed_114 rfl (by decide) (by decide) rfl ?_
  refine q_goto (tgt := 23) C dX12_feed_117 (by decide) ?_
  refine q_iload (j := 0) C dX12_feed_23 rfl ?_
  refine q_bipush (v := 20) C dX12_feed_25 (by decide) ?_
  refine q_icmp_ge (tgt := 120) C dX12_feed_27 (by decide) (fun z => absurd z (by decide)) (fun _ => ?_)
  refine q_iload (j := 0) C dX12_feed_30 rfl ?_
  refine q_iconst (v := 4) C dX12_feed_32 (by decide) ?_
  refine q_icmp_ge (tgt := 40) C dX12_feed_33 (by decide) (fun _ => ?_) (fun z => absurd (by decide) z)
  refine q_iload (j := 0) C dX12_feed_40 rfl ?_
  refine q_bipush (v := 8) C dX12_feed_42 (by decide) ?_
  refine q_icmp_ge (tgt := 51) C dX12_feed_44 (by decide) (fun z => absurd z (by decide)) (fun _ => ?_)
  refine q_iload_n (j := 4) C dX12_feed_47 rfl ?_
  refine q_goto (tgt := 76) C dX12_feed_48 (by decide) ?_
  refine q_istore (lv2 := [(7, .int b), (6, .int 5), (0, .ref h0), (1, .int a), (2, .int b), (3, .int c1), (4, .int d1), (5, .int e1)]) C dX12_feed_76 (by decide) rfl ?_
  refine q_aload_n (j := 2) C dX12_feed_78 rfl ?_
  refine q_get (k := 2) (v := .ref a2) C ck_13 dX12_feed_79 w6_61 (by decide) lk2h0 (va_up_self _ _ _) f2 ?_
  refine q_aload_n (j := 2) C dX12_feed_82 rfl ?_
  refine q_get (k := 3) (v := .int 5) C ck_13 dX12_feed_83 w6_62 (by decide) lk2h0 (va_up_self _ _ _) rfl ?_
  refine q_iload (j := 0) C dX12_feed_86 rfl ?_
  refine q_bipush (v := 24) C dX12_feed_88 (by decide) ?_
  refine q_bipush (v := 8) C dX12_feed_90 (by decide) ?_
  refine q_iload (j := 1) C dX12_feed_92 rfl ?_
  refine q_iconst (v := 3) C dX12_feed_94 (by decide) ?_
  refine q_iand (v := 1) C dX12_feed_95 (by decide) ?_
  refine q_imul (v := 8) C dX12_feed_96 (by decide) ?_
  refine q_isub (v := 16) C dX12_feed_97 (by decide) ?_
  refine q_ishr (v := (b >>> ((16 : Int32) &&& 31))) C dX12_feed_98 rfl ?_
  refine q_sipush (v := 255) C dX12_feed_99 (by decide) ?_
  refine q_iand (v := ((b >>> ((16 : Int32) &&& 31)) &&& (255 : Int32))) C dX12_feed_102 rfl ?_
  refine q_iast C dX12_feed_103 lk2a2 ((va_up_ne _ _ (Ne.symm n2)).trans (va_up_self _ _ _)) (by unfold vp_in; decide) ?_
  refine q_aload_n (j := 2) C dX12_feed_104 rfl ?_
  refine q_dup C dX12_feed_105 rfl ?_
  refine q_get (k := 3) (v := .int 5) C ck_13 dX12_feed_106 w6_62 (by decide) lk2h0 ((va_up_ne _ _ n2).trans (va_up_self _ _ _)) rfl ?_
  refine q_iconst (v := 1) C dX12_feed_109 (by decide) ?_
  refine q_iadd (v := 6) C dX12_feed_110 (by decide) ?_
  refine q_put (k := 3) C ck_13 dX12_feed_111 w6_62 (by decide) rfl lk2h0 ((va_up_ne _ _ n2).trans (va_up_self _ _ _)) rfl rfl ?_
  refine q_cut (fun Lk3 Ek3 hLk3 hEk3 => ?_)
  have ek3h0 := (congrFun hEk3 h0).trans (va_up_self _ _ _)
  have lk3h0 : h0 ∈ Lk3 := hLk3 ▸ lk2h0
  have ek3a2 := (congrFun hEk3 a2).trans ((va_up_ne _ _ (Ne.symm n2)).trans (va_up_self _ _ _))
  have lk3a2 : a2 ∈ Lk3 := hLk3 ▸ lk2a2
  clear hEk3 hLk3
  refine q_iinc (j := 1) (v := 6) (lv2 := [(6, .int 6), (7, .int b), (0, .ref h0), (1, .int a), (2, .int b), (3, .int c1), (4, .int d1), (5, .int e1)]) C dX12_feed_114 rfl (by decide) (by decide) rfl ?_
  refine q_goto (tgt := 23) C dX12_feed_117 (by decide) ?_
  refine q_iload (j := 0) C dX12_feed_23 rfl ?_
  refine q_bipush (v := 20) C dX12_feed_25 (by decide) ?_
  refine q_icmp_ge (tgt := 120) C dX12_feed_27 (by decide) (fun z => absurd z (by decide)) (fun _ => ?_)
  refine q_iload (j := 0) C dX12_feed_30 rfl ?_
  refine q_iconst (v := 4) C dX12_feed_32 (by decide) ?_
  refine q_icmp_ge (tgt := 40) C dX12_feed_33 (by decide) (fun _ => ?_) (fun z => absurd (by decide) z)
  refine q_iload (j := 0) C dX12_feed_40 rfl ?_
  refine q_bipush (v := 8) C dX12_feed_42 (by decide) ?_
  refine q_icmp_ge (tgt := 51) C dX12_feed_44 (by decide) (fun z => absurd z (by decide)) (fun _ => ?_)
  refine q_iload_n (j := 4) C dX12_feed_47 rfl ?_
  refine q_goto (tgt := 76) C dX12_feed_48 (by decide) ?_
  refine q_istore (lv2 := [(7, .int b), (6, .int 6), (0, .ref h0), (1, .int a), (2, .int b), (3, .int c1), (4, .int d1), (5, .int e1)]) C dX12_feed_76 (by decide) rfl ?_
  refine q_aload_n (j := 2) C dX12_feed_78 rfl ?_
  refine q_get (k := 2) (v := .ref a2) C ck_13 dX12_feed_79 w6_61 (by decide) lk3h0 ek3h0 f2 ?_
  refine q_aload_n (j := 2) C dX12_feed_82 rfl ?_
  refine q_get (k := 3) (v := .int 6) C ck_13 dX12_feed_83 w6_62 (by decide) lk3h0 ek3h0 rfl ?_
  refine q_iload (j := 0) C dX12_feed_86 rfl ?_
  refine q_bipush (v := 24) C dX12_feed_88 (by decide) ?_
  refine q_bipush (v := 8) C dX12_feed_90 (by decide) ?_
  refine q_iload (j := 1) C dX12_feed_92 rfl ?_
  refine q_iconst (v := 3) C dX12_feed_94 (by decide) ?_
  refine q_iand (v := 2) C dX12_feed_95 (by decide) ?_
  refine q_imul (v := 16) C dX12_feed_96 (by decide) ?_
  refine q_isub (v := 8) C dX12_feed_97 (by decide) ?_
  refine q_ishr (v := (b >>> ((8 : Int32) &&& 31))) C dX12_feed_98 rfl ?_
  refine q_sipush (v := 255) C dX12_feed_99 (by decide) ?_
  refine q_iand (v := ((b >>> ((8 : Int32) &&& 31)) &&& (255 : Int32))) C dX12_feed_102 rfl ?_
  refine q_iast C dX12_feed_103 lk3a2 ek3a2 (by unfold vp_in; decide) ?_
  refine q_aload_n (j := 2) C dX12_feed_104 rfl ?_
  refine q_dup C dX12_feed_105 rfl ?_
  refine q_get (k := 3) (v := .int 6) C ck_13 dX12_feed_106 w6_62 (by decide) lk3h0 ((va_up_ne _ _ n2).trans ek3h0) rfl ?_
  refine q_iconst (v := 1) C dX12_feed_109 (by decide) ?_
  refine q_iadd (v := 7) C dX12_feed_110 (by decide) ?_
  refine q_put (k := 3) C ck_13 dX12_feed_111 w6_62 (by decide) rfl lk3h0 ((va_up_ne _ _ n2).trans ek3h0) rfl rfl ?_
  refine q_iinc (j := 1) (v := 7) (lv2 := [(6, .int 7), (7, .int b), (0, .ref h0), (1, .int a), (2, .int b), (3, .int c1), (4, .int d1), (5, .int e1)]) C dX12_feed_114 rfl (by decide) (by decide) rfl ?_
  refine q_goto (tgt := 23) C dX12_feed_117 (by decide) ?_
  refine q_iload (j := 0) C dX12_feed_23 rfl ?_
  refine q_bipush (v := 20) C dX12_feed_25 (by decide) ?_
  refine q_icmp_ge (tgt := 120) C dX12_feed_27 (by decide) (fun z => absurd z (by decide)) (fun _ => ?_)
  refine q_iload (j := 0) C dX12_feed_30 rfl ?_
  refine q_iconst (v := 4) C dX12_feed_32 (by decide) ?_
  refine q_icmp_ge (tgt := 40) C dX12_feed_33 (by decide) (fun _ => ?_) (fun z => absurd (by decide) z)
  refine q_iload (j := 0) C dX12_feed_40 rfl ?_
  refine q_bipush (v := 8) C dX12_feed_42 (by decide) ?_
  refine q_icmp_ge (tgt := 51) C dX12_feed_44 (by decide) (fun z => absurd z (by decide)) (fun _ => ?_)
  refine q_iload_n (j := 4) C dX12_feed_47 rfl ?_
  refine q_goto (tgt := 76) C dX12_feed_48 (by decide) ?_
  refine q_istore (lv2 := [(7, .int b), (6, .int 7), (0, .ref h0), (1, .int a), (2, .int b), (3, .int c1), (4, .int d1), (5, .int e1)]) C dX12_feed_76 (by decide) rfl ?_
  refine q_aload_n (j := 2) C dX12_feed_78 rfl ?_
  refine q_get (k := 2) (v := .ref a2) C ck_13 dX12_feed_79 w6_61 (by decide) lk3h0 (va_up_self _ _ _) f2 ?_
  refine q_aload_n (j := 2) C dX12_feed_82 rfl ?_
  refine q_get (k := 3) (v := .int 7) C ck_13 dX12_feed_83 w6_62 (by decide) lk3h0 (va_up_self _ _ _) rfl ?_
  refine q_iload (j := 0) C dX12_feed_86 rfl ?_
  refine q_bipush (v := 24) C dX12_feed_88 (by decide) ?_
  refine q_bipush (v := 8) C dX12_feed_90 (by decide) ?_
  refine q_iload (j := 1) C dX12_feed_92 rfl ?_
  refine q_iconst (v := 3) C dX12_feed_94 (by decide) ?_
  refine q_iand (v := 3) C dX12_feed_95 (by decide) ?_
  refine q_imul (v := 24) C dX12_feed_96 (by decide) ?_
  refine q_isub (v := 0) C dX12_feed_97 (by decide) ?_
  refine q_ishr (v := (b >>> ((0 : Int32) &&& 31))) C dX12_feed_98 rfl ?_
  refine q_sipush (v := 255) C dX12_feed_99 (by decide) ?_
  refine q_iand (v := ((b >>> ((0 : Int32) &&& 31)) &&& (255 : Int32))) C dX12_feed_102 rfl ?_
  refine q_iast C dX12_feed_103 lk3a2 ((va_up_ne _ _ (Ne.symm n2)).trans (va_up_self _ _ _)) (by unfold vp_in; decide) ?_
  refine q_aload_n (j := 2) C dX12_feed_104 rfl ?_
  refine q_dup C dX12_feed_105 rfl ?_
  refine q_get (k := 3) (v := .int 7) C ck_13 dX12_feed_106 w6_62 (by decide) lk3h0 ((va_up_ne _ _ n2).trans (va_up_self _ _ _)) rfl ?_
  refine q_iconst (v := 1) C dX12_feed_109 (by decide) ?_
  refine q_iadd (v := 8) C dX12_feed_110 (by decide) ?_
  refine q_put (k := 3) C ck_13 dX12_feed_111 w6_62 (by decide) rfl lk3h0 ((va_up_ne _ _ n2).trans (va_up_self _ _ _)) rfl rfl ?_
  refine q_cut (fun Lk4 Ek4 hLk4 hEk4 => ?_)
  have ek4h0 := (congrFun hEk4 h0).trans (va_up_self _ _ _)
  have lk4h0 : h0 ∈ Lk4 := hLk4 ▸ lk3h0
  have ek4a2 := (congrFun hEk4 a2).trans ((va_up_ne _ _ (Ne.symm n2)).trans (va_up_self _ _ _))
  have lk4a2 : a2 ∈ Lk4 := hLk4 ▸ lk3a2
  clear hEk4 hLk4
  refine q_iinc (j := 1) (v := 8) (lv2 := [(6, .int 8), (7, .int b), (0, .ref h0), (1, .int a), (2, .int b), (3, .int c1), (4, .int d1), (5, .int e1)]) C dX12_feed_114 rfl (by decide) (by decide) rfl ?_
  refine q_goto (tgt := 23) C dX12_feed_117 (by decide) ?_
  refine q_iload (j := 0) C dX12_feed_23 rfl ?_
  refine q_bipush (v := 20) C dX12_feed_25 (by decide) ?_
  refine q_icmp_ge (tgt := 120) C dX12_feed_27 (by decide) (fun z => absurd z (by decide)) (fun _ => ?_)
  refine q_iload (j := 0) C dX12_feed_30 rfl ?_
  refine q_iconst (v := 4) C dX12_feed_32 (by decide) ?_
  refine q_icmp_ge (tgt := 40) C dX12_feed_33 (by decide) (fun _ => ?_) (fun z => absurd (by decide) z)
  refine q_iload (j := 0) C dX12_feed_40 rfl ?_
  refine q_bipush (v := 8) C dX12_feed_42 (by decide) ?_
  refine q_icmp_ge (tgt := 51) C dX12_feed_44 (by decide) (fun _ => ?_) (fun z => absurd (by decide) z)
  refine q_iload (j := 0) C dX12_feed_51 rfl ?_
  refine q_bipush (v := 12) C dX12_feed_53 (by decide) ?_
  refine q_icmp_ge (tgt := 62) C dX12_feed_55 (by decide) (fun z => absurd z (by decide)) (fun _ => ?_)
  refine q_iload_n (j := 5) C dX12_feed_58 rfl ?_
  refine q_goto (tgt := 76) C dX12_feed_59 (by decide) ?_
  refine q_istore (lv2 := [(7, .int c1), (6, .int 8), (0, .ref h0), (1, .int a), (2, .int b), (3, .int c1), (4, .int d1), (5, .int e1)]) C dX12_feed_76 (by decide) rfl ?_
  refine q_aload_n (j := 2) C dX12_feed_78 rfl ?_
  refine q_get (k := 2) (v := .ref a2) C ck_13 dX12_feed_79 w6_61 (by decide) lk4h0 ek4h0 f2 ?_
  refine q_aload_n (j := 2) C dX12_feed_82 rfl ?_
  refine q_get (k := 3) (v := .int 8) C ck_13 dX12_feed_83 w6_62 (by decide) lk4h0 ek4h0 rfl ?_
  refine q_iload (j := 0) C dX12_feed_86 rfl ?_
  refine q_bipush (v := 24) C dX12_feed_88 (by decide) ?_
  refine q_bipush (v := 8) C dX12_feed_90 (by decide) ?_
  refine q_iload (j := 1) C dX12_feed_92 rfl ?_
  refine q_iconst (v := 3) C dX12_feed_94 (by decide) ?_
  refine q_iand (v := 0) C dX12_feed_95 (by decide) ?_
  refine q_imul (v := 0) C dX12_feed_96 (by decide) ?_
  refine q_isub (v := 24) C dX12_feed_97 (by decide) ?_
  refine q_ishr (v := (c1 >>> ((24 : Int32) &&& 31))) C dX12_feed_98 rfl ?_
  refine q_sipush (v := 255) C dX12_feed_99 (by decide) ?_
  refine q_iand (v := ((c1 >>> ((24 : Int32) &&& 31)) &&& (255 : Int32))) C dX12_feed_102 rfl ?_
  refine q_iast C dX12_feed_103 lk4a2 ek4a2 (by unfold vp_in; decide) ?_
  refine q_aload_n (j := 2) C dX12_feed_104 rfl ?_
  refine q_dup C dX12_feed_105 rfl ?_
  refine q_get (k := 3) (v := .int 8) C ck_13 dX12_feed_106 w6_62 (by decide) lk4h0 ((va_up_ne _ _ n2).trans ek4h0) rfl ?_
  refine q_iconst (v := 1) C dX12_feed_109 (by decide) ?_
  refine q_iadd (v := 9) C dX12_feed_110 (by decide) ?_
  refine q_put (k := 3) C ck_13 dX12_feed_111 w6_62 (by decide) rfl lk4h0 ((va_up_ne _ _ n2).trans ek4h0) rfl rfl ?_
  refine q_iinc (j := 1) (v := 9) (lv2 := [(6, .int 9), (7, .int c1), (0, .ref h0), (1, .int a), (2, .int b), (3, .int c1), (4, .int d1), (5, .int e1)]) C dX12_feed_114 rfl (by decide) (by decide) rfl ?_
  refine q_goto (tgt := 23) C dX12_feed_117 (by decide) ?_
  refine q_iload (j := 0) C dX12_feed_23 rfl ?_
  refine q_bipush (v := 20) C dX12_feed_25 (by decide) ?_
  refine q_icmp_ge (tgt := 120) C dX12_feed_27 (by decide) (fun z => absurd z (by decide)) (fun _ => ?_)
  refine q_iload (j := 0) C dX12_feed_30 rfl ?_
  refine q_iconst (v := 4) C dX12_feed_32 (by decide) ?_
  refine q_icmp_ge (tgt := 40) C dX12_feed_33 (by decide) (fun _ => ?_) (fun z => absurd (by decide) z)
  refine q_iload (j := 0) C dX12_feed_40 rfl ?_
  refine q_bipush (v := 8) C dX12_feed_42 (by decide) ?_
  refine q_icmp_ge (tgt := 51) C dX12_feed_44 (by decide) (fun _ => ?_) (fun z => absurd (by decide) z)
  refine q_iload (j := 0) C dX12_feed_51 rfl ?_
  refine q_bipush (v := 12) C dX12_feed_53 (by decide) ?_
  refine q_icmp_ge (tgt := 62) C dX12_feed_55 (by decide) (fun z => absurd z (by decide)) (fun _ => ?_)
  refine q_iload_n (j := 5) C dX12_feed_58 rfl ?_
  refine q_goto (tgt := 76) C dX12_feed_59 (by decide) ?_
  refine q_istore (lv2 := [(7, .int c1), (6, .int 9), (0, .ref h0), (1, .int a), (2, .int b), (3, .int c1), (4, .int d1), (5, .int e1)]) C dX12_feed_76 (by decide) rfl ?_
  refine q_aload_n (j := 2) C dX12_feed_78 rfl ?_
  refine q_get (k := 2) (v := .ref a2) C ck_13 dX12_feed_79 w6_61 (by decide) lk4h0 (va_up_self _ _ _) f2 ?_
  refine q_aload_n (j := 2) C dX12_feed_82 rfl ?_
  refine q_get (k := 3) (v := .int 9) C ck_13 dX12_feed_83 w6_62 (by decide) lk4h0 (va_up_self _ _ _) rfl ?_
  refine q_iload (j := 0) C dX12_feed_86 rfl ?_
  refine q_bipush (v := 24) C dX12_feed_88 (by decide) ?_
  refine q_bipush (v := 8) C dX12_feed_90 (by decide) ?_
  refine q_iload (j := 1) C dX12_feed_92 rfl ?_
  refine q_iconst (v := 3) C dX12_feed_94 (by decide) ?_
  refine q_iand (v := 1) C dX12_feed_95 (by decide) ?_
  refine q_imul (v := 8) C dX12_feed_96 (by decide) ?_
  refine q_isub (v := 16) C dX12_feed_97 (by decide) ?_
  refine q_ishr (v := (c1 >>> ((16 : Int32) &&& 31))) C dX12_feed_98 rfl ?_
  refine q_sipush (v := 255) C dX12_feed_99 (by decide) ?_
  refine q_iand (v := ((c1 >>> ((16 : Int32) &&& 31)) &&& (255 : Int32))) C dX12_feed_102 rfl ?_
  refine q_iast C dX12_feed_103 lk4a2 ((va_up_ne _ _ (Ne.symm n2)).trans (va_up_self _ _ _)) (by unfold vp_in; decide) ?_
  refine q_aload_n (j := 2) C dX12_feed_104 rfl ?_
  refine q_dup C dX12_feed_105 rfl ?_
  refine q_get (k := 3) (v := .int 9) C ck_13 dX12_feed_106 w6_62 (by decide) lk4h0 ((va_up_ne _ _ n2).trans (va_up_self _ _ _)) rfl ?_
  refine q_iconst (v := 1) C dX12_feed_109 (by decide) ?_
  refine q_iadd (v := 10) C dX12_feed_110 (by decide) ?_
  refine q_put (k := 3) C ck_13 dX12_feed_111 w6_62 (by decide) rfl lk4h0 ((va_up_ne _ _ n2).trans (va_up_self _ _ _)) rfl rfl ?_
  refine q_cut (fun Lk5 Ek5 hLk5 hEk5 => ?_)
  have ek5h0 := (congrFun hEk5 h0).trans (va_up_self _ _ _)
  have lk5h0 : h0 ∈ Lk5 := hLk5 ▸ lk4h0
  have ek5a2 := (congrFun hEk5 a2).trans ((va_up_ne _ _ (Ne.symm n2)).trans (va_up_self _ _ _))
  have lk5a2 : a2 ∈ Lk5 := hLk5 ▸ lk4a2
  clear hEk5 hLk5
  refine q_iinc (j := 1) (v := 10) (lv2 := [(6, .int 10), (7, .int c1), (0, .ref h0), (1, .int a), (2, .int b), (3, .int c1), (4, .int d1), (5, .int e1)]) C dX12_feed_114 rfl (by decide) (by decide) rfl ?_
  refine q_goto (tgt := 23) C dX12_feed_117 (by decide) ?_
  refine q_iload (j := 0) C dX12_feed_23 rfl ?_
  refine q_bipush (v := 20) C dX12_feed_25 (by decide) ?_
  refine q_icmp_ge (tgt := 120) C dX12_feed_27 (by decide) (fun z => absurd z (by decide)) (fun _ => ?_)
  refine q_iload (j := 0) C dX12_feed_30 rfl ?_
  refine q_iconst (v := 4) C dX12_feed_32 (by decide) ?_
  refine q_icmp_ge (tgt := 40) C dX12_feed_33 (by decide) (fun _ => ?_) (fun z => absurd (by decide) z)
  refine q_iload (j := 0) C dX12_feed_40 rfl ?_
  refine q_bipush (v := 8) C dX12_feed_42 (by decide) ?_
  refine q_icmp_ge (tgt := 51) C dX12_feed_44 (by decide) (fun _ => ?_) (fun z => absurd (by decide) z)
  refine q_iload (j := 0) C dX12_feed_51 rfl ?_
  refine q_bipush (v := 12) C dX12_feed_53 (by decide) ?_
  refine q_icmp_ge (tgt := 62) C dX12_feed_55 (by decide) (fun z => absurd z (by decide)) (fun _ => ?_)
  refine q_iload_n (j := 5) C dX12_feed_58 rfl ?_
  refine q_goto (tgt := 76) C dX12_feed_59 (by decide) ?_
  refine q_istore (lv2 := [(7, .int c1), (6, .int 10), (0, .ref h0), (1, .int a), (2, .int b), (3, .int c1), (4, .int d1), (5, .int e1)]) C dX12_feed_76 (by decide) rfl ?_
  refine q_aload_n (j := 2) C dX12_feed_78 rfl ?_
  refine q_get (k := 2) (v := .ref a2) C ck_13 dX12_feed_79 w6_61 (by decide) lk5h0 ek5h0 f2 ?_
  refine q_aload_n (j := 2) C dX12_feed_82 rfl ?_
  refine q_get (k := 3) (v := .int 10) C ck_13 dX12_feed_83 w6_62 (by decide) lk5h0 ek5h0 rfl ?_
  refine q_iload (j := 0) C dX12_feed_86 rfl ?_
  refine q_bipush (v := 24) C dX12_feed_88 (by decide) ?_
  refine q_bipush (v := 8) C dX12_feed_90 (by decide) ?_
  refine q_iload (j := 1) C dX12_feed_92 rfl ?_
  refine q_iconst (v := 3) C dX12_feed_94 (by decide) ?_
  refine q_iand (v := 2) C dX12_feed_95 (by decide) ?_
  refine q_imul (v := 16) C dX12_feed_96 (by decide) ?_
  refine q_isub (v := 8) C dX12_feed_97 (by decide) ?_
  refine q_ishr (v := (c1 >>> ((8 : Int32) &&& 31))) C dX12_feed_98 rfl ?_
  refine q_sipush (v := 255) C dX12_feed_99 (by decide) ?_
  refine q_iand (v := ((c1 >>> ((8 : Int32) &&& 31)) &&& (255 : Int32))) C dX12_feed_102 rfl ?_
  refine q_iast C dX12_feed_103 lk5a2 ek5a2 (by unfold vp_in; decide) ?_
  refine q_aload_n (j := 2) C dX12_feed_104 rfl ?_
  refine q_dup C dX12_feed_105 rfl ?_
  refine q_get (k := 3) (v := .int 10) C ck_13 dX12_feed_106 w6_62 (by decide) lk5h0 ((va_up_ne _ _ n2).trans ek5h0) rfl ?_
  refine q_iconst (v := 1) C dX12_feed_109 (by decide) ?_
  refine q_iadd (v := 11) C dX12_feed_110 (by decide) ?_
  refine q_put (k := 3) C ck_13 dX12_feed_111 w6_62 (by decide) rfl lk5h0 ((va_up_ne _ _ n2).trans ek5h0) rfl rfl ?_
  refine q_iinc (j := 1) (v := 11) (lv2 := [(6, .int 11), (7, .int c1), (0, .ref h0), (1, .int a), (2, .int b), (3, .int c1), (4, .int d1), (5, .int e1)]) C dX12_feed_114 rfl (by decide) (by decide) rfl ?_
  refine q_goto (tgt := 23) C dX12_feed_117 (by decide) ?_
  refine q_iload (j := 0) C dX12_feed_23 rfl ?_
  refine q_bipush (v := 20) C dX12_feed_25 (by decide) ?_
  refine q_icmp_ge (tgt := 120) C dX12_feed_27 (by decide) (fun z => absurd z (by decide)) (fun _ => ?_)
  refine q_iload (j := 0) C dX12_feed_30 rfl ?_
  refine q_iconst (v := 4) C dX12_feed_32 (by decide) ?_
  refine q_icmp_ge (tgt := 40) C dX12_feed_33 (by decide) (fun _ => ?_) (fun z => absurd (by decide) z)
  refine q_iload (j := 0) C dX12_feed_40 rfl ?_
  refine q_bipush (v := 8) C dX12_feed_42 (by decide) ?_
  refine q_icmp_ge (tgt := 51) C dX12_feed_44 (by decide) (fun _ => ?_) (fun z => absurd (by decide) z)
  refine q_iload (j := 0) C dX12_feed_51 rfl ?_
  refine q_bipush (v := 12) C dX12_feed_53 (by decide) ?_
  refine q_icmp_ge (tgt := 62) C dX12_feed_55 (by decide) (fun z => absurd z (by decide)) (fun _ => ?_)
  refine q_iload_n (j := 5) C dX12_feed_58 rfl ?_
  refine q_goto (tgt := 76) C dX12_feed_59 (by decide) ?_
  refine q_istore (lv2 := [(7, .int c1), (6, .int 11), (0, .ref h0), (1, .int a), (2, .int b), (3, .int c1), (4, .int d1), (5, .int e1)]) C dX12_feed_76 (by decide) rfl ?_
  refine q_aload_n (j := 2) C dX12_feed_78 rfl ?_
  refine q_get (k := 2) (v := .ref a2) C ck_13 dX12_feed_79 w6_61 (by decide) lk5h0 (va_up_self _ _ _) f2 ?_
  refine q_aload_n (j := 2) C dX12_feed_82 rfl ?_
  refine q_get (k := 3) (v := .int 11) C ck_13 dX12_feed_83 w6_62 (by decide) lk5h0 (va_up_self _ _ _) rfl ?_
  refine q_iload (j := 0) C dX12_feed_86 rfl ?_
  refine q_bipush (v := 24) C dX12_feed_88 (by decide) ?_
  refine q_bipush (v := 8) C dX12_feed_90 (by decide) ?_
  refine q_iload (j := 1) C dX12_feed_92 rfl ?_
  refine q_iconst (v := 3) C dX12_feed_94 (by decide) ?_
  refine q_iand (v := 3) C dX12_feed_95 (by decide) ?_
  refine q_imul (v := 24) C dX12_feed_96 (by decide) ?_
  refine q_isub (v := 0) C dX12_feed_97 (by decide) ?_
  refine q_ishr (v := (c1 >>> ((0 : Int32) &&& 31))) C dX12_feed_98 rfl ?_
  refine q_sipush (v := 255) C dX12_feed_99 (by decide) ?_
  refine q_iand (v := ((c1 >>> ((0 : Int32) &&& 31)) &&& (255 : Int32))) C dX12_feed_102 rfl ?_
  refine q_iast C dX12_feed_103 lk5a2 ((va_up_ne _ _ (Ne.symm n2)).trans (va_up_self _ _ _)) (by unfold vp_in; decide) ?_
  refine q_aload_n (j := 2) C dX12_feed_104 rfl ?_
  refine q_dup C dX12_feed_105 rfl ?_
  refine q_get (k := 3) (v := .int 11) C ck_13 dX12_feed_106 w6_62 (by decide) lk5h0 ((va_up_ne _ _ n2).trans (va_up_self _ _ _)) rfl ?_
  refine q_iconst (v := 1) C dX12_feed_109 (by decide) ?_
  refine q_iadd (v := 12) C dX12_feed_110 (by decide) ?_
  refine q_put (k := 3) C ck_13 dX12_feed_111 w6_62 (by decide) rfl lk5h0 ((va_up_ne _ _ n2).trans (va_up_self _ _ _)) rfl rfl ?_
  refine q_cut (fun Lk6 Ek6 hLk6 hEk6 => ?_)
  have ek6h0 := (congrFun hEk6 h0).trans (va_up_self _ _ _)
  have lk6h0 : h0 ∈ Lk6 := hLk6 ▸ lk5h0
  have ek6a2 := (congrFun hEk6 a2).trans ((va_up_ne _ _ (Ne.symm n2)).trans (va_up_self _ _ _))
  have lk6a2 : a2 ∈ Lk6 := hLk6 ▸ lk5a2
  clear hEk6 hLk6
  refine q_iinc (j := 1) (v := 12) (lv2 := [(6, .int 12), (7, .int c1), (0, .ref h0), (1, .int a), (2, .int b), (3, .int c1), (4, .int d1), (5, .int e1)]) C dX12_feed_114 rfl (by decide) (by decide) rfl ?_
  refine q_goto (tgt := 23) C dX12_feed_117 (by decide) ?_
  refine q_iload (j := 0) C dX12_feed_23 rfl ?_
  refine q_bipush (v := 20) C dX12_feed_25 (by decide) ?_
  refine q_icmp_ge (tgt := 120) C dX12_feed_27 (by decide) (fun z => absurd z (by decide)) (fun _ => ?_)
  refine q_iload (j := 0) C dX12_feed_30 rfl ?_
  refine q_iconst (v := 4) C dX12_feed_32 (by decide) ?_
  refine q_icmp_ge (tgt := 40) C dX12_feed_33 (by decide) (fun _ => ?_) (fun z => absurd (by decide) z)
  refine q_iload (j := 0) C dX12_feed_40 rfl ?_
  refine q_bipush (v := 8) C dX12_feed_42 (by decide) ?_
  refine q_icmp_ge (tgt := 51) C dX12_feed_44 (by decide) (fun _ => ?_) (fun z => absurd (by decide) z)
  refine q_iload (j := 0) C dX12_feed_51 rfl ?_
  refine q_bipush (v := 12) C dX12_feed_53 (by decide) ?_
  refine q_icmp_ge (tgt := 62) C dX12_feed_55 (by decide) (fun _ => ?_) (fun z => absurd (by decide) z)
  refine q_iload (j := 0) C dX12_feed_62 rfl ?_
  refine q_bipush (v := 16) C dX12_feed_64 (by decide) ?_
  refine q_icmp_ge (tgt := 74) C dX12_feed_66 (by decide) (fun z => absurd z (by decide)) (fun _ => ?_)
  refine q_iload (j := 6) C dX12_feed_69 rfl ?_
  refine q_goto (tgt := 76) C dX12_feed_71 (by decide) ?_
  refine q_istore (lv2 := [(7, .int d1), (6, .int 12), (0, .ref h0), (1, .int a), (2, .int b), (3, .int c1), (4, .int d1), (5, .int e1)]) C dX12_feed_76 (by decide) rfl ?_
  refine q_aload_n (j := 2) C dX12_feed_78 rfl ?_
  refine q_get (k := 2) (v := .ref a2) C ck_13 dX12_feed_79 w6_61 (by decide) lk6h0 ek6h0 f2 ?_
  refine q_aload_n (j := 2) C dX12_feed_82 rfl ?_
  refine q_get (k := 3) (v := .int 12) C ck_13 dX12_feed_83 w6_62 (by decide) lk6h0 ek6h0 rfl ?_
  refine q_iload (j := 0) C dX12_feed_86 rfl ?_
  refine q_bipush (v := 24) C dX12_feed_88 (by decide) ?_
  refine q_bipush (v := 8) C dX12_feed_90 (by decide) ?_
  refine q_iload (j := 1) C dX12_feed_92 rfl ?_
  refine q_iconst (v := 3) C dX12_feed_94 (by decide) ?_
  refine q_iand (v := 0) C dX12_feed_95 (by decide) ?_
  refine q_imul (v := 0) C dX12_feed_96 (by decide) ?_
  refine q_isub (v := 24) C dX12_feed_97 (by decide) ?_
  refine q_ishr (v := (d1 >>> ((24 : Int32) &&& 31))) C dX12_feed_98 rfl ?_
  refine q_sipush (v := 255) C dX12_feed_99 (by decide) ?_
  refine q_iand (v := ((d1 >>> ((24 : Int32) &&& 31)) &&& (255 : Int32))) C dX12_feed_102 rfl ?_
  refine q_iast C dX12_feed_103 lk6a2 ek6a2 (by unfold vp_in; decide) ?_
  refine q_aload_n (j := 2) C dX12_feed_104 rfl ?_
  refine q_dup C dX12_feed_105 rfl ?_
  refine q_get (k := 3) (v := .int 12) C ck_13 dX12_feed_106 w6_62 (by decide) lk6h0 ((va_up_ne _ _ n2).trans ek6h0) rfl ?_
  refine q_iconst (v := 1) C dX12_feed_109 (by decide) ?_
  refine q_iadd (v := 13) C dX12_feed_110 (by decide) ?_
  refine q_put (k := 3) C ck_13 dX12_feed_111 w6_62 (by decide) rfl lk6h0 ((va_up_ne _ _ n2).trans ek6h0) rfl rfl ?_
  refine q_iinc (j := 1) (v := 13) (lv2 := [(6, .int 13), (7, .int d1), (0, .ref h0), (1, .int a), (2, .int b), (3, .int c1), (4, .int d1), (5, .int e1)]) C dX12_feed_114 rfl (by decide) (by decide) rfl ?_
  refine q_goto (tgt := 23) C dX12_feed_117 (by decide) ?_
  refine q_iload (j := 0) C dX12_feed_23 rfl ?_
  refine q_bipush (v := 20) C dX12_feed_25 (by decide) ?_
  refine q_icmp_ge (tgt := 120) C dX12_feed_27 (by decide) (fun z => absurd z (by decide)) (fun _ => ?_)
  refine q_iload (j := 0) C dX12_feed_30 rfl ?_
  refine q_iconst (v := 4) C dX12_feed_32 (by decide) ?_
  refine q_icmp_ge (tgt := 40) C dX12_feed_33 (by decide) (fun _ => ?_) (fun z => absurd (by decide) z)
  refine q_iload (j := 0) C dX12_feed_40 rfl ?_
  refine q_bipush (v := 8) C dX12_feed_42 (by decide) ?_
  refine q_icmp_ge (tgt := 51) C dX12_feed_44 (by decide) (fun _ => ?_) (fun z => absurd (by decide) z)
  refine q_iload (j := 0) C dX12_feed_51 rfl ?_
  refine q_bipush (v := 12) C dX12_feed_53 (by decide) ?_
  refine q_icmp_ge (tgt := 62) C dX12_feed_55 (by decide) (fun _ => ?_) (fun z => absurd (by decide) z)
  refine q_iload (j := 0) C dX12_feed_62 rfl ?_
  refine q_bipush (v := 16) C dX12_feed_64 (by decide) ?_
  refine q_icmp_ge (tgt := 74) C dX12_feed_66 (by decide) (fun z => absurd z (by decide)) (fun _ => ?_)
  refine q_iload (j := 6) C dX12_feed_69 rfl ?_
  refine q_goto (tgt := 76) C dX12_feed_71 (by decide) ?_
  refine q_istore (lv2 := [(7, .int d1), (6, .int 13), (0, .ref h0), (1, .int a), (2, .int b), (3, .int c1), (4, .int d1), (5, .int e1)]) C dX12_feed_76 (by decide) rfl ?_
  refine q_aload_n (j := 2) C dX12_feed_78 rfl ?_
  refine q_get (k := 2) (v := .ref a2) C ck_13 dX12_feed_79 w6_61 (by decide) lk6h0 (va_up_self _ _ _) f2 ?_
  refine q_aload_n (j := 2) C dX12_feed_82 rfl ?_
  refine q_get (k := 3) (v := .int 13) C ck_13 dX12_feed_83 w6_62 (by decide) lk6h0 (va_up_self _ _ _) rfl ?_
  refine q_iload (j := 0) C dX12_feed_86 rfl ?_
  refine q_bipush (v := 24) C dX12_feed_88 (by decide) ?_
  refine q_bipush (v := 8) C dX12_feed_90 (by decide) ?_
  refine q_iload (j := 1) C dX12_feed_92 rfl ?_
  refine q_iconst (v := 3) C dX12_feed_94 (by decide) ?_
  refine q_iand (v := 1) C dX12_feed_95 (by decide) ?_
  refine q_imul (v := 8) C dX12_feed_96 (by decide) ?_
  refine q_isub (v := 16) C dX12_feed_97 (by decide) ?_
  refine q_ishr (v := (d1 >>> ((16 : Int32) &&& 31))) C dX12_feed_98 rfl ?_
  refine q_sipush (v := 255) C dX12_feed_99 (by decide) ?_
  refine q_iand (v := ((d1 >>> ((16 : Int32) &&& 31)) &&& (255 : Int32))) C dX12_feed_102 rfl ?_
  refine q_iast C dX12_feed_103 lk6a2 ((va_up_ne _ _ (Ne.symm n2)).trans (va_up_self _ _ _)) (by unfold vp_in; decide) ?_
  refine q_aload_n (j := 2) C dX12_feed_104 rfl ?_
  refine q_dup C dX12_feed_105 rfl ?_
  refine q_get (k := 3) (v := .int 13) C ck_13 dX12_feed_106 w6_62 (by decide) lk6h0 ((va_up_ne _ _ n2).trans (va_up_self _ _ _)) rfl ?_
  refine q_iconst (v := 1) C dX12_feed_109 (by decide) ?_
  refine q_iadd (v := 14) C dX12_feed_110 (by decide) ?_
  refine q_put (k := 3) C ck_13 dX12_feed_111 w6_62 (by decide) rfl lk6h0 ((va_up_ne _ _ n2).trans (va_up_self _ _ _)) rfl rfl ?_
  refine q_cut (fun Lk7 Ek7 hLk7 hEk7 => ?_)
  have ek7h0 := (congrFun hEk7 h0).trans (va_up_self _ _ _)
  have lk7h0 : h0 ∈ Lk7 := hLk7 ▸ lk6h0
  have ek7a2 := (congrFun hEk7 a2).trans ((va_up_ne _ _ (Ne.symm n2)).trans (va_up_self _ _ _))
  have lk7a2 : a2 ∈ Lk7 := hLk7 ▸ lk6a2
  clear hEk7 hLk7
  refine q_iinc (j := 1) (v := 14) (lv2 := [(6, .int 14), (7, .int d1), (0, .ref h0), (1, .int a), (2, .int b), (3, .int c1), (4, .int d1), (5, .int e1)]) C dX12_feed_114 rfl (by decide) (by decide) rfl ?_
  refine q_goto (tgt := 23) C dX12_feed_117 (by decide) ?_
  refine q_iload (j := 0) C dX12_feed_23 rfl ?_
  refine q_bipush (v := 20) C dX12_feed_25 (by decide) ?_
  refine q_icmp_ge (tgt := 120) C dX12_feed_27 (by decide) (fun z => absurd z (by decide)) (fun _ => ?_)
  refine q_iload (j := 0) C dX12_feed_30 rfl ?_
  refine q_iconst (v := 4) C dX12_feed_32 (by decide) ?_
  refine q_icmp_ge (tgt := 40) C dX12_feed_33 (by decide) (fun _ => ?_) (fun z => absurd (by decide) z)
  refine q_iload (j := 0) C dX12_feed_40 rfl ?_
  refine q_bipush (v := 8) C dX12_feed_42 (by decide) ?_
  refine q_icmp_ge (tgt := 51) C dX12_feed_44 (by decide) (fun _ => ?_) (fun z => absurd (by decide) z)
  refine q_iload (j := 0) C dX12_feed_51 rfl ?_
  refine q_bipush (v := 12) C dX12_feed_53 (by decide) ?_
  refine q_icmp_ge (tgt := 62) C dX12_feed_55 (by decide) (fun _ => ?_) (fun z => absurd (by decide) z)
  refine q_iload (j := 0) C dX12_feed_62 rfl ?_
  refine q_bipush (v := 16) C dX12_feed_64 (by decide) ?_
  refine q_icmp_ge (tgt := 74) C dX12_feed_66 (by decide) (fun z => absurd z (by decide)) (fun _ => ?_)
  refine q_iload (j := 6) C dX12_feed_69 rfl ?_
  refine q_goto (tgt := 76) C dX12_feed_71 (by decide) ?_
  refine q_istore (lv2 := [(7, .int d1), (6, .int 14), (0, .ref h0), (1, .int a), (2, .int b), (3, .int c1), (4, .int d1), (5, .int e1)]) C dX12_feed_76 (by decide) rfl ?_
  refine q_aload_n (j := 2) C dX12_feed_78 rfl ?_
  refine q_get (k := 2) (v := .ref a2) C ck_13 dX12_feed_79 w6_61 (by decide) lk7h0 ek7h0 f2 ?_
  refine q_aload_n (j := 2) C dX12_feed_82 rfl ?_
  refine q_get (k := 3) (v := .int 14) C ck_13 dX12_feed_83 w6_62 (by decide) lk7h0 ek7h0 rfl ?_
  refine q_iload (j := 0) C dX12_feed_86 rfl ?_
  refine q_bipush (v := 24) C dX12_feed_88 (by decide) ?_
  refine q_bipush (v := 8) C dX12_feed_90 (by decide) ?_
  refine q_iload (j := 1) C dX12_feed_92 rfl ?_
  refine q_iconst (v := 3) C dX12_feed_94 (by decide) ?_
  refine q_iand (v := 2) C dX12_feed_95 (by decide) ?_
  refine q_imul (v := 16) C dX12_feed_96 (by decide) ?_
  refine q_isub (v := 8) C dX12_feed_97 (by decide) ?_
  refine q_ishr (v := (d1 >>> ((8 : Int32) &&& 31))) C dX12_feed_98 rfl ?_
  refine q_sipush (v := 255) C dX12_feed_99 (by decide) ?_
  refine q_iand (v := ((d1 >>> ((8 : Int32) &&& 31)) &&& (255 : Int32))) C dX12_feed_102 rfl ?_
  refine q_iast C dX12_feed_103 lk7a2 ek7a2 (by unfold vp_in; decide) ?_
  refine q_aload_n (j := 2) C dX12_feed_104 rfl ?_
  refine q_dup C dX12_feed_105 rfl ?_
  refine q_get (k := 3) (v := .int 14) C ck_13 dX12_feed_106 w6_62 (by decide) lk7h0 ((va_up_ne _ _ n2).trans ek7h0) rfl ?_
  refine q_iconst (v := 1) C dX12_feed_109 (by decide) ?_
  refine q_iadd (v := 15) C dX12_feed_110 (by decide) ?_
  refine q_put (k := 3) C ck_13 dX12_feed_111 w6_62 (by decide) rfl lk7h0 ((va_up_ne _ _ n2).trans ek7h0) rfl rfl ?_
  refine q_iinc (j := 1) (v := 15) (lv2 := [(6, .int 15), (7, .int d1), (0, .ref h0), (1, .int a), (2, .int b), (3, .int c1), (4, .int d1), (5, .int e1)]) C dX12_feed_114 rfl (by decide) (by decide) rfl ?_
  refine q_goto (tgt := 23) C dX12_feed_117 (by decide) ?_
  refine q_iload (j := 0) C dX12_feed_23 rfl ?_
  refine q_bipush (v := 20) C dX12_feed_25 (by decide) ?_
  refine q_icmp_ge (tgt := 120) C dX12_feed_27 (by decide) (fun z => absurd z (by decide)) (fun _ => ?_)
  refine q_iload (j := 0) C dX12_feed_30 rfl ?_
  refine q_iconst (v := 4) C dX12_feed_32 (by decide) ?_
  refine q_icmp_ge (tgt := 40) C dX12_feed_33 (by decide) (fun _ => ?_) (fun z => absurd (by decide) z)
  refine q_iload (j := 0) C dX12_feed_40 rfl ?_
  refine q_bipush (v := 8) C dX12_feed_42 (by decide) ?_
  refine q_icmp_ge (tgt := 51) C dX12_feed_44 (by decide) (fun _ => ?_) (fun z => absurd (by decide) z)
  refine q_iload (j := 0) C dX12_feed_51 rfl ?_
  refine q_bipush (v := 12) C dX12_feed_53 (by decide) ?_
  refine q_icmp_ge (tgt := 62) C dX12_feed_55 (by decide) (fun _ => ?_) (fun z => absurd (by decide) z)
  refine q_iload (j := 0) C dX12_feed_62 rfl ?_
  refine q_bipush (v := 16) C dX12_feed_64 (by decide) ?_
  refine q_icmp_ge (tgt := 74) C dX12_feed_66 (by decide) (fun z => absurd z (by decide)) (fun _ => ?_)
  refine q_iload (j := 6) C dX12_feed_69 rfl ?_
  refine q_goto (tgt := 76) C dX12_feed_71 (by decide) ?_
  refine q_istore (lv2 := [(7, .int d1), (6, .int 15), (0, .ref h0), (1, .int a), (2, .int b), (3, .int c1), (4, .int d1), (5, .int e1)]) C dX12_feed_76 (by decide) rfl ?_
  refine q_aload_n (j := 2) C dX12_feed_78 rfl ?_
  refine q_get (k := 2) (v := .ref a2) C ck_13 dX12_feed_79 w6_61 (by decide) lk7h0 (va_up_self _ _ _) f2 ?_
  refine q_aload_n (j := 2) C dX12_feed_82 rfl ?_
  refine q_get (k := 3) (v := .int 15) C ck_13 dX12_feed_83 w6_62 (by decide) lk7h0 (va_up_self _ _ _) rfl ?_
  refine q_iload (j := 0) C dX12_feed_86 rfl ?_
  refine q_bipush (v := 24) C dX12_feed_88 (by decide) ?_
  refine q_bipush (v := 8) C dX12_feed_90 (by decide) ?_
  refine q_iload (j := 1) C dX12_feed_92 rfl ?_
  refine q_iconst (v := 3) C dX12_feed_94 (by decide) ?_
  refine q_iand (v := 3) C dX12_feed_95 (by decide) ?_
  refine q_imul (v := 24) C dX12_feed_96 (by decide) ?_
  refine q_isub (v := 0) C dX12_feed_97 (by decide) ?_
  refine q_ishr (v := (d1 >>> ((0 : Int32) &&& 31))) C dX12_feed_98 rfl ?_
  refine q_sipush (v := 255) C dX12_feed_99 (by decide) ?_
  refine q_iand (v := ((d1 >>> ((0 : Int32) &&& 31)) &&& (255 : Int32))) C dX12_feed_102 rfl ?_
  refine q_iast C dX12_feed_103 lk7a2 ((va_up_ne _ _ (Ne.symm n2)).trans (va_up_self _ _ _)) (by unfold vp_in; decide) ?_
  refine q_aload_n (j := 2) C dX12_feed_104 rfl ?_
  refine q_dup C dX12_feed_105 rfl ?_
  refine q_get (k := 3) (v := .int 15) C ck_13 dX12_feed_106 w6_62 (by decide) lk7h0 ((va_up_ne _ _ n2).trans (va_up_self _ _ _)) rfl ?_
  refine q_iconst (v := 1) C dX12_feed_109 (by decide) ?_
  refine q_iadd (v := 16) C dX12_feed_110 (by decide) ?_
  refine q_put (k := 3) C ck_13 dX12_feed_111 w6_62 (by decide) rfl lk7h0 ((va_up_ne _ _ n2).trans (va_up_self _ _ _)) rfl rfl ?_
  refine q_cut (fun Lk8 Ek8 hLk8 hEk8 => ?_)
  have ek8h0 := (congrFun hEk8 h0).trans (va_up_self _ _ _)
  have lk8h0 : h0 ∈ Lk8 := hLk8 ▸ lk7h0
  have ek8a2 := (congrFun hEk8 a2).trans ((va_up_ne _ _ (Ne.symm n2)).trans (va_up_self _ _ _))
  have lk8a2 : a2 ∈ Lk8 := hLk8 ▸ lk7a2
  clear hEk8 hLk8
  refine q_iinc (j := 1) (v := 16) (lv2 := [(6, .int 16), (7, .int d1), (0, .ref h0), (1, .int a), (2, .int b), (3, .int c1), (4, .int d1), (5, .int e1)]) C dX12_feed_114 rfl (by decide) (by decide) rfl ?_
  refine q_goto (tgt := 23) C dX12_feed_117 (by decide) ?_
  refine q_iload (j := 0) C dX12_feed_23 rfl ?_
  refine q_bipush (v := 20) C dX12_feed_25 (by decide) ?_
  refine q_icmp_ge (tgt := 120) C dX12_feed_27 (by decide) (fun z => absurd z (by decide)) (fun _ => ?_)
  refine q_iload (j := 0) C dX12_feed_30 rfl ?_
  refine q_iconst (v := 4) C dX12_feed_32 (by decide) ?_
  refine q_icmp_ge (tgt := 40) C dX12_feed_33 (by decide) (fun _ => ?_) (fun z => absurd (by decide) z)
  refine q_iload (j := 0) C dX12_feed_40 rfl ?_
  refine q_bipush (v := 8) C dX12_feed_42 (by decide) ?_
  refine q_icmp_ge (tgt := 51) C dX12_feed_44 (by decide) (fun _ => ?_) (fun z => absurd (by decide) z)
  refine q_iload (j := 0) C dX12_feed_51 rfl ?_
  refine q_bipush (v := 12) C dX12_feed_53 (by decide) ?_
  refine q_icmp_ge (tgt := 62) C dX12_feed_55 (by decide) (fun _ => ?_) (fun z => absurd (by decide) z)
  refine q_iload (j := 0) C dX12_feed_62 rfl ?_
  refine q_bipush (v := 16) C dX12_feed_64 (by decide) ?_
  refine q_icmp_ge (tgt := 74) C dX12_feed_66 (by decide) (fun _ => ?_) (fun z => absurd (by decide) z)
  refine q_iload (j := 7) C dX12_feed_74 rfl ?_
  refine q_istore (lv2 := [(7, .int e1), (6, .int 16), (0, .ref h0), (1, .int a), (2, .int b), (3, .int c1), (4, .int d1), (5, .int e1)]) C dX12_feed_76 (by decide) rfl ?_
  refine q_aload_n (j := 2) C dX12_feed_78 rfl ?_
  refine q_get (k := 2) (v := .ref a2) C ck_13 dX12_feed_79 w6_61 (by decide) lk8h0 ek8h0 f2 ?_
  refine q_aload_n (j := 2) C dX12_feed_82 rfl ?_
  refine q_get (k := 3) (v := .int 16) C ck_13 dX12_feed_83 w6_62 (by decide) lk8h0 ek8h0 rfl ?_
  refine q_iload (j := 0) C dX12_feed_86 rfl ?_
  refine q_bipush (v := 24) C dX12_feed_88 (by decide) ?_
  refine q_bipush (v := 8) C dX12_feed_90 (by decide) ?_
  refine q_iload (j := 1) C dX12_feed_92 rfl ?_
  refine q_iconst (v := 3) C dX12_feed_94 (by decide) ?_
  refine q_iand (v := 0) C dX12_feed_95 (by decide) ?_
  refine q_imul (v := 0) C dX12_feed_96 (by decide) ?_
  refine q_isub (v := 24) C dX12_feed_97 (by decide) ?_
  refine q_ishr (v := (e1 >>> ((24 : Int32) &&& 31))) C dX12_feed_98 rfl ?_
  refine q_sipush (v := 255) C dX12_feed_99 (by decide) ?_
  refine q_iand (v := ((e1 >>> ((24 : Int32) &&& 31)) &&& (255 : Int32))) C dX12_feed_102 rfl ?_
  refine q_iast C dX12_feed_103 lk8a2 ek8a2 (by unfold vp_in; decide) ?_
  refine q_aload_n (j := 2) C dX12_feed_104 rfl ?_
  refine q_dup C dX12_feed_105 rfl ?_
  refine q_get (k := 3) (v := .int 16) C ck_13 dX12_feed_106 w6_62 (by decide) lk8h0 ((va_up_ne _ _ n2).trans ek8h0) rfl ?_
  refine q_iconst (v := 1) C dX12_feed_109 (by decide) ?_
  refine q_iadd (v := 17) C dX12_feed_110 (by decide) ?_
  refine q_put (k := 3) C ck_13 dX12_feed_111 w6_62 (by decide) rfl lk8h0 ((va_up_ne _ _ n2).trans ek8h0) rfl rfl ?_
  refine q_iinc (j := 1) (v := 17) (lv2 := [(6, .int 17), (7, .int e1), (0, .ref h0), (1, .int a), (2, .int b), (3, .int c1), (4, .int d1), (5, .int e1)]) C dX12_feed_114 rfl (by decide) (by decide) rfl ?_
  refine q_goto (tgt := 23) C dX12_feed_117 (by decide) ?_
  refine q_iload (j := 0) C dX12_feed_23 rfl ?_
  refine q_bipush (v := 20) C dX12_feed_25 (by decide) ?_
  refine q_icmp_ge (tgt := 120) C dX12_feed_27 (by decide) (fun z => absurd z (by decide)) (fun _ => ?_)
  refine q_iload (j := 0) C dX12_feed_30 rfl ?_
  refine q_iconst (v := 4) C dX12_feed_32 (by decide) ?_
  refine q_icmp_ge (tgt := 40) C dX12_feed_33 (by decide) (fun _ => ?_) (fun z => absurd (by decide) z)
  refine q_iload (j := 0) C dX12_feed_40 rfl ?_
  refine q_bipush (v := 8) C dX12_feed_42 (by decide) ?_
  refine q_icmp_ge (tgt := 51) C dX12_feed_44 (by decide) (fun _ => ?_) (fun z => absurd (by decide) z)
  refine q_iload (j := 0) C dX12_feed_51 rfl ?_
  refine q_bipush (v := 12) C dX12_feed_53 (by decide) ?_
  refine q_icmp_ge (tgt := 62) C dX12_feed_55 (by decide) (fun _ => ?_) (fun z => absurd (by decide) z)
  refine q_iload (j := 0) C dX12_feed_62 rfl ?_
  refine q_bipush (v := 16) C dX12_feed_64 (by decide) ?_
  refine q_icmp_ge (tgt := 74) C dX12_feed_66 (by decide) (fun _ => ?_) (fun z => absurd (by decide) z)
  refine q_iload (j := 7) C dX12_feed_74 rfl ?_
  refine q_istore (lv2 := [(7, .int e1), (6, .int 17), (0, .ref h0), (1, .int a), (2, .int b), (3, .int c1), (4, .int d1), (5, .int e1)]) C dX12_feed_76 (by decide) rfl ?_
  refine q_aload_n (j := 2) C dX12_feed_78 rfl ?_
  refine q_get (k := 2) (v := .ref a2) C ck_13 dX12_feed_79 w6_61 (by decide) lk8h0 (va_up_self _ _ _) f2 ?_
  refine q_aload_n (j := 2) C dX12_feed_82 rfl ?_
  refine q_get (k := 3) (v := .int 17) C ck_13 dX12_feed_83 w6_62 (by decide) lk8h0 (va_up_self _ _ _) rfl ?_
  refine q_iload (j := 0) C dX12_feed_86 rfl ?_
  refine q_bipush (v := 24) C dX12_feed_88 (by decide) ?_
  refine q_bipush (v := 8) C dX12_feed_90 (by decide) ?_
  refine q_iload (j := 1) C dX12_feed_92 rfl ?_
  refine q_iconst (v := 3) C dX12_feed_94 (by decide) ?_
  refine q_iand (v := 1) C dX12_feed_95 (by decide) ?_
  refine q_imul (v := 8) C dX12_feed_96 (by decide) ?_
  refine q_isub (v := 16) C dX12_feed_97 (by decide) ?_
  refine q_ishr (v := (e1 >>> ((16 : Int32) &&& 31))) C dX12_feed_98 rfl ?_
  refine q_sipush (v := 255) C dX12_feed_99 (by decide) ?_
  refine q_iand (v := ((e1 >>> ((16 : Int32) &&& 31)) &&& (255 : Int32))) C dX12_feed_102 rfl ?_
  refine q_iast C dX12_feed_103 lk8a2 ((va_up_ne _ _ (Ne.symm n2)).trans (va_up_self _ _ _)) (by unfold vp_in; decide) ?_
  refine q_aload_n (j := 2) C dX12_feed_104 rfl ?_
  refine q_dup C dX12_feed_105 rfl ?_
  refine q_get (k := 3) (v := .int 17) C ck_13 dX12_feed_106 w6_62 (by decide) lk8h0 ((va_up_ne _ _ n2).trans (va_up_self _ _ _)) rfl ?_
  refine q_iconst (v := 1) C dX12_feed_109 (by decide) ?_
  refine q_iadd (v := 18) C dX12_feed_110 (by decide) ?_
  refine q_put (k := 3) C ck_13 dX12_feed_111 w6_62 (by decide) rfl lk8h0 ((va_up_ne _ _ n2).trans (va_up_self _ _ _)) rfl rfl ?_
  refine q_cut (fun Lk9 Ek9 hLk9 hEk9 => ?_)
  have ek9h0 := (congrFun hEk9 h0).trans (va_up_self _ _ _)
  have lk9h0 : h0 ∈ Lk9 := hLk9 ▸ lk8h0
  have ek9a2 := (congrFun hEk9 a2).trans ((va_up_ne _ _ (Ne.symm n2)).trans (va_up_self _ _ _))
  have lk9a2 : a2 ∈ Lk9 := hLk9 ▸ lk8a2
  clear hEk9 hLk9
  refine q_iinc (j := 1) (v := 18) (lv2 := [(6, .int 18), (7, .int e1), (0, .ref h0), (1, .int a), (2, .int b), (3, .int c1), (4, .int d1), (5, .int e1)]) C dX12_feed_114 rfl (by decide) (by decide) rfl ?_
  refine q_goto (tgt := 23) C dX12_feed_117 (by decide) ?_
  refine q_iload (j := 0) C dX12_feed_23 rfl ?_
  refine q_bipush (v := 20) C dX12_feed_25 (by decide) ?_
  refine q_icmp_ge (tgt := 120) C dX12_feed_27 (by decide) (fun z => absurd z (by decide)) (fun _ => ?_)
  refine q_iload (j := 0) C dX12_feed_30 rfl ?_
  refine q_iconst (v := 4) C dX12_feed_32 (by decide) ?_
  refine q_icmp_ge (tgt := 40) C dX12_feed_33 (by decide) (fun _ => ?_) (fun z => absurd (by decide) z)
  refine q_iload (j := 0) C dX12_feed_40 rfl ?_
  refine q_bipush (v := 8) C dX12_feed_42 (by decide) ?_
  refine q_icmp_ge (tgt := 51) C dX12_feed_44 (by decide) (fun _ => ?_) (fun z => absurd (by decide) z)
  refine q_iload (j := 0) C dX12_feed_51 rfl ?_
  refine q_bipush (v := 12) C dX12_feed_53 (by decide) ?_
  refine q_icmp_ge (tgt := 62) C dX12_feed_55 (by decide) (fun _ => ?_) (fun z => absurd (by decide) z)
  refine q_iload (j := 0) C dX12_feed_62 rfl ?_
  refine q_bipush (v := 16) C dX12_feed_64 (by decide) ?_
  refine q_icmp_ge (tgt := 74) C dX12_feed_66 (by decide) (fun _ => ?_) (fun z => absurd (by decide) z)
  refine q_iload (j := 7) C dX12_feed_74 rfl ?_
  refine q_istore (lv2 := [(7, .int e1), (6, .int 18), (0, .ref h0), (1, .int a), (2, .int b), (3, .int c1), (4, .int d1), (5, .int e1)]) C dX12_feed_76 (by decide) rfl ?_
  refine q_aload_n (j := 2) C dX12_feed_78 rfl ?_
  refine q_get (k := 2) (v := .ref a2) C ck_13 dX12_feed_79 w6_61 (by decide) lk9h0 ek9h0 f2 ?_
  refine q_aload_n (j := 2) C dX12_feed_82 rfl ?_
  refine q_get (k := 3) (v := .int 18) C ck_13 dX12_feed_83 w6_62 (by decide) lk9h0 ek9h0 rfl ?_
  refine q_iload (j := 0) C dX12_feed_86 rfl ?_
  refine q_bipush (v := 24) C dX12_feed_88 (by decide) ?_
  refine q_bipush (v := 8) C dX12_feed_90 (by decide) ?_
  refine q_iload (j := 1) C dX12_feed_92 rfl ?_
  refine q_iconst (v := 3) C dX12_feed_94 (by decide) ?_
  refine q_iand (v := 2) C dX12_feed_95 (by decide) ?_
  refine q_imul (v := 16) C dX12_feed_96 (by decide) ?_
  refine q_isub (v := 8) C dX12_feed_97 (by decide) ?_
  refine q_ishr (v := (e1 >>> ((8 : Int32) &&& 31))) C dX12_feed_98 rfl ?_
  refine q_sipush (v := 255) C dX12_feed_99 (by decide) ?_
  refine q_iand (v := ((e1 >>> ((8 : Int32) &&& 31)) &&& (255 : Int32))) C dX12_feed_102 rfl ?_
  refine q_iast C dX12_feed_103 lk9a2 ek9a2 (by unfold vp_in; decide) ?_
  refine q_aload_n (j := 2) C dX12_feed_104 rfl ?_
  refine q_dup C dX12_feed_105 rfl ?_
  refine q_get (k := 3) (v := .int 18) C ck_13 dX12_feed_106 w6_62 (by decide) lk9h0 ((va_up_ne _ _ n2).trans ek9h0) rfl ?_
  refine q_iconst (v := 1) C dX12_feed_109 (by decide) ?_
  refine q_iadd (v := 19) C dX12_feed_110 (by decide) ?_
  refine q_put (k := 3) C ck_13 dX12_feed_111 w6_62 (by decide) rfl lk9h0 ((va_up_ne _ _ n2).trans ek9h0) rfl rfl ?_
  refine q_iinc (j := 1) (v := 19) (lv2 := [(6, .int 19), (7, .int e1), (0, .ref h0), (1, .int a), (2, .int b), (3, .int c1), (4, .int d1), (5, .int e1)]) C dX12_feed_114 rfl (by decide) (by decide) rfl ?_
  refine q_goto (tgt := 23) C dX12_feed_117 (by decide) ?_
  refine q_iload (j := 0) C dX12_feed_23 rfl ?_
  refine q_bipush (v := 20) C dX12_feed_25 (by decide) ?_
  refine q_icmp_ge (tgt := 120) C dX12_feed_27 (by decide) (fun z => absurd z (by decide)) (fun _ => ?_)
  refine q_iload (j := 0) C dX12_feed_30 rfl ?_
  refine q_iconst (v := 4) C dX12_feed_32 (by decide) ?_
  refine q_icmp_ge (tgt := 40) C dX12_feed_33 (by decide) (fun _ => ?_) (fun z => absurd (by decide) z)
  refine q_iload (j := 0) C dX12_feed_40 rfl ?_
  refine q_bipush (v := 8) C dX12_feed_42 (by decide) ?_
  refine q_icmp_ge (tgt := 51) C dX12_feed_44 (by decide) (fun _ => ?_) (fun z => absurd (by decide) z)
  refine q_iload (j := 0) C dX12_feed_51 rfl ?_
  refine q_bipush (v := 12) C dX12_feed_53 (by decide) ?_
  refine q_icmp_ge (tgt := 62) C dX12_feed_55 (by decide) (fun _ => ?_) (fun z => absurd (by decide) z)
  refine q_iload (j := 0) C dX12_feed_62 rfl ?_
  refine q_bipush (v := 16) C dX12_feed_64 (by decide) ?_
  refine q_icmp_ge (tgt := 74) C dX12_feed_66 (by decide) (fun _ => ?_) (fun z => absurd (by decide) z)
  refine q_iload (j := 7) C dX12_feed_74 rfl ?_
  refine q_istore (lv2 := [(7, .int e1), (6, .int 19), (0, .ref h0), (1, .int a), (2, .int b), (3, .int c1), (4, .int d1), (5, .int e1)]) C dX12_feed_76 (by decide) rfl ?_
  refine q_aload_n (j := 2) C dX12_feed_78 rfl ?_
  refine q_get (k := 2) (v := .ref a2) C ck_13 dX12_feed_79 w6_61 (by decide) lk9h0 (va_up_self _ _ _) f2 ?_
  refine q_aload_n (j := 2) C dX12_feed_82 rfl ?_
  refine q_get (k := 3) (v := .int 19) C ck_13 dX12_feed_83 w6_62 (by decide) lk9h0 (va_up_self _ _ _) rfl ?_
  refine q_iload (j := 0) C dX12_feed_86 rfl ?_
  refine q_bipush (v := 24) C dX12_feed_88 (by decide) ?_
  refine q_bipush (v := 8) C dX12_feed_90 (by decide) ?_
  refine q_iload (j := 1) C dX12_feed_92 rfl ?_
  refine q_iconst (v := 3) C dX12_feed_94 (by decide) ?_
  refine q_iand (v := 3) C dX12_feed_95 (by decide) ?_
  refine q_imul (v := 24) C dX12_feed_96 (by decide) ?_
  refine q_isub (v := 0) C dX12_feed_97 (by decide) ?_
  refine q_ishr (v := (e1 >>> ((0 : Int32) &&& 31))) C dX12_feed_98 rfl ?_
  refine q_sipush (v := 255) C dX12_feed_99 (by decide) ?_
  refine q_iand (v := ((e1 >>> ((0 : Int32) &&& 31)) &&& (255 : Int32))) C dX12_feed_102 rfl ?_
  refine q_iast C dX12_feed_103 lk9a2 ((va_up_ne _ _ (Ne.symm n2)).trans (va_up_self _ _ _)) (by unfold vp_in; decide) ?_
  refine q_aload_n (j := 2) C dX12_feed_104 rfl ?_
  refine q_dup C dX12_feed_105 rfl ?_
  refine q_get (k := 3) (v := .int 19) C ck_13 dX12_feed_106 w6_62 (by decide) lk9h0 ((va_up_ne _ _ n2).trans (va_up_self _ _ _)) rfl ?_
  refine q_iconst (v := 1) C dX12_feed_109 (by decide) ?_
  refine q_iadd (v := 20) C dX12_feed_110 (by decide) ?_
  refine q_put (k := 3) C ck_13 dX12_feed_111 w6_62 (by decide) rfl lk9h0 ((va_up_ne _ _ n2).trans (va_up_self _ _ _)) rfl rfl ?_
  refine q_cut (fun Lk10 Ek10 hLk10 hEk10 => ?_)
  have ek10h0 := (congrFun hEk10 h0).trans (va_up_self _ _ _)
  have lk10h0 : h0 ∈ Lk10 := hLk10 ▸ lk9h0
  have ek10a2 := (congrFun hEk10 a2).trans ((va_up_ne _ _ (Ne.symm n2)).trans (va_up_self _ _ _))
  have lk10a2 : a2 ∈ Lk10 := hLk10 ▸ lk9a2
  clear hEk10 hLk10
  refine q_iinc (j := 1) (v := 20) (lv2 := [(6, .int 20), (7, .int e1), (0, .ref h0), (1, .int a), (2, .int b), (3, .int c1), (4, .int d1), (5, .int e1)]) C dX12_feed_114 rfl (by decide) (by decide) rfl ?_
  refine q_goto (tgt := 23) C dX12_feed_117 (by decide) ?_
  refine q_iload (j := 0) C dX12_feed_23 rfl ?_
  refine q_bipush (v := 20) C dX12_feed_25 (by decide) ?_
  refine q_icmp_ge (tgt := 120) C dX12_feed_27 (by decide) (fun _ => ?_) (fun z => absurd (by decide) z)
  refine q_aload_n (j := 2) C dX12_feed_120 rfl ?_
  refine q_aload_n (j := 2) C dX12_feed_121 rfl ?_
  refine q_get (k := 3) (v := .int 20) C ck_13 dX12_feed_122 w6_62 (by decide) lk10h0 ek10h0 rfl ?_
  refine q_callV (d2 := 0) (mc2 := 0) (ms2 := 0) (As := [.int 20]) (rest := []) C (c_fine 20 lk10h0 ek10h0) dX12_feed_125 kV_X12_158 rfl lk10h0 ek10h0 ck_13 rfl (Nat.le_of_ble_eq_true rfl) ⟨Nat.le_of_ble_eq_true rfl, Nat.le_of_ble_eq_true rfl⟩ ⟨Nat.le_of_ble_eq_true rfl, Nat.le_of_ble_eq_true rfl⟩ (fun vh1 Lh1 Eh1 h1 => ?_)
  obtain ⟨rfl, rfl, rfl⟩ := h1
  refine q_st (st2 := [.int 20]) rfl ?_
  exact q_iret C dX12_feed_128 rfl (Nat.le_of_ble_eq_true rfl) (Nat.le_of_ble_eq_true rfl) rfl
set_option maxHeartbeats 4000000 in
set_option maxRecDepth 100000 in
theorem m_step {l : Launch} {G : GT} {L : List Nat} {E : Nat → va_E} (x1 x2 x3 x4 : Int32)  {h0 a18 : Nat} {f : Nat → Value} (hL : h0 ∈ L) (hE : E h0 = ob 13 67 f) (f19 : f 19 = .int 0) (f18 : f 18 = .ref a18) (hL18 : a18 ∈ L) (hE18 : E a18 = aI G 64 (fun _ => 0)) (n18 : h0 ≠ a18) : Mq l G yX12_step cX12_step 7 none 1 [.ref h0, .int x1, .int x2, .int x3, .int x4] L E 0 0 (fun v L2 E2 => v = none ∧ L2 = L ∧ ∃ f2, E2 h0 = ob 13 67 f2) := by
  refine Mq.mk (by decide) (Nat.le_of_ble_eq_true rfl) ?_
  intro p e s m args below meth c A C
  refine q_aload_n (j := 0) C dX12_step_0 rfl ?_
  refine q_get (k := 19) (v := .int 0) C ck_13 dX12_step_1 w6_78 (by decide) hL hE f19 ?_
  refine q_bipush (v := 8) C dX12_step_4 (by decide) ?_
  refine q_iadd (v := 8) C dX12_step_6 (by decide) ?_
  refine q_aload_n (j := 0) C dX12_step_7 rfl ?_
  refine q_get (k := 18) (v := .ref a18) C ck_13 dX12_step_8 w6_77 (by decide) hL hE f18 ?_
  refine q_alenI (v := 64) C dX12_step_11 hL18 hE18 rfl ?_
  refine q_icmp_le (tgt := 62) C dX12_step_12 (by decide) (fun _ => ?_) (fun z => absurd (by decide) z)
  refine q_aload_n (j := 0) C dX12_step_62 rfl ?_
  refine q_get (k := 18) (v := .ref a18) C ck_13 dX12_step_63 w6_77 (by decide) hL hE f18 ?_
  refine q_aload_n (j := 0) C dX12_step_66 rfl ?_
  refine q_get (k := 19) (v := .int 0) C ck_13 dX12_step_67 w6_78 (by decide) hL hE f19 ?_
  refine q_iload_n (j := 1) C dX12_step_70 rfl ?_
  refine q_iast C dX12_step_71 hL18 hE18 (by unfold vp_in; decide) ?_
  refine q_aload_n (j := 0) C dX12_step_72 rfl ?_
  refine q_get (k := 18) (v := .ref a18) C ck_13 dX12_step_73 w6_77 (by decide) hL ((va_up_ne _ _ n18).trans hE) f18 ?_
  refine q_aload_n (j := 0) C dX12_step_76 rfl ?_
  refine q_get (k := 19) (v := .int 0) C ck_13 dX12_step_77 w6_78 (by decide) hL ((va_up_ne _ _ n18).trans hE) f19 ?_
  refine q_iconst (v := 1) C dX12_step_80 (by decide) ?_
  refine q_iadd (v := 1) C dX12_step_81 (by decide) ?_
  refine q_iload_n (j := 2) C dX12_step_82 rfl ?_
  refine q_iast C dX12_step_83 hL18 (va_up_self _ _ _) (by unfold vp_in; decide) ?_
  refine q_aload_n (j := 0) C dX12_step_84 rfl ?_
  refine q_get (k := 18) (v := .ref a18) C ck_13 dX12_step_85 w6_77 (by decide) hL ((va_up_ne _ _ n18).trans ((va_up_ne _ _ n18).trans hE)) f18 ?_
  refine q_aload_n (j := 0) C dX12_step_88 rfl ?_
  refine q_get (k := 19) (v := .int 0) C ck_13 dX12_step_89 w6_78 (by decide) hL ((va_up_ne _ _ n18).trans ((va_up_ne _ _ n18).trans hE)) f19 ?_
  refine q_iconst (v := 2) C dX12_step_92 (by decide) ?_
  refine q_iadd (v := 2) C dX12_step_93 (by decide) ?_
  refine q_iload_n (j := 3) C dX12_step_94 rfl ?_
  refine q_iast C dX12_step_95 hL18 (va_up_self _ _ _) (by unfold vp_in; decide) ?_
  refine q_aload_n (j := 0) C dX12_step_96 rfl ?_
  refine q_get (k := 18) (v := .ref a18) C ck_13 dX12_step_97 w6_77 (by decide) hL ((va_up_ne _ _ n18).trans ((va_up_ne _ _ n18).trans ((va_up_ne _ _ n18).trans hE))) f18 ?_
  refine q_aload_n (j := 0) C dX12_step_100 rfl ?_
  refine q_get (k := 19) (v := .int 0) C ck_13 dX12_step_101 w6_78 (by decide) hL ((va_up_ne _ _ n18).trans ((va_up_ne _ _ n18).trans ((va_up_ne _ _ n18).trans hE))) f19 ?_
  refine q_iconst (v := 3) C dX12_step_104 (by decide) ?_
  refine q_iadd (v := 3) C dX12_step_105 (by decide) ?_
  refine q_iload (j := 4) C dX12_step_106 rfl ?_
  refine q_iast C dX12_step_108 hL18 (va_up_self _ _ _) (by unfold vp_in; decide) ?_
  refine q_aload_n (j := 0) C dX12_step_109 rfl ?_
  refine q_dup C dX12_step_110 rfl ?_
  refine q_get (k := 19) (v := .int 0) C ck_13 dX12_step_111 w6_78 (by decide) hL ((va_up_ne _ _ n18).trans ((va_up_ne _ _ n18).trans ((va_up_ne _ _ n18).trans ((va_up_ne _ _ n18).trans hE)))) f19 ?_
  refine q_iconst (v := 4) C dX12_step_114 (by decide) ?_
  refine q_iadd (v := 4) C dX12_step_115 (by decide) ?_
  refine q_put (k := 19) C ck_13 dX12_step_116 w6_78 (by decide) rfl hL ((va_up_ne _ _ n18).trans ((va_up_ne _ _ n18).trans ((va_up_ne _ _ n18).trans ((va_up_ne _ _ n18).trans hE)))) rfl rfl ?_
  exact q_vret C dX12_step_119 rfl (Nat.le_of_ble_eq_true rfl) (Nat.le_of_ble_eq_true rfl) ⟨rfl, rfl, _, (va_up_self _ _ _)⟩
set_option maxHeartbeats 4000000 in
set_option maxRecDepth 100000 in
theorem m_newTable {l : Launch} {G : GT} {L : List Nat} {E : Nat → va_E} (kd ds bs sc : Int32)  {h0 a5 a6 a7 a8 a9 a10 a16 a18 : Nat} {f : Nat → Value} (hL : h0 ∈ L) (hE : E h0 = ob 13 67 f) (f4 : f 4 = .int 0) (f19 : f 19 = .int 0) (f5 : f 5 = .ref a5) (hL5 : a5 ∈ L) (hE5 : E a5 = aZ G 30 (fun _ => 0)) (f6 : f 6 = .ref a6) (hL6 : a6 ∈ L) (hE6 : E a6 = aI G 30 (fun _ => 0)) (f7 : f 7 = .ref a7) (hL7 : a7 ∈ L) (hE7 : E a7 = aI G 30 (fun _ => 0)) (f8 : f 8 = .ref a8) (hL8 : a8 ∈ L) (hE8 : E a8 = aI G 30 (fun _ => 0)) (f9 : f 9 = .ref a9) (hL9 : a9 ∈ L) (hE9 : E a9 = aI G 30 (fun _ => 0)) (f10 : f 10 = .ref a10) (hL10 : a10 ∈ L) (hE10 : E a10 = aI G 30 (fun _ => 0)) (f16 : f 16 = .ref a16) (hL16 : a16 ∈ L) (hE16 : E a16 = aI G 120 (fun _ => 0)) (f18 : f 18 = .ref a18) (hL18 : a18 ∈ L) (hE18 : E a18 = aI G 64 (fun _ => 0)) (n5 : h0 ≠ a5) (n6 : h0 ≠ a6) (n7 : h0 ≠ a7) (n8 : h0 ≠ a8) (n9 : h0 ≠ a9) (n10 : h0 ≠ a10) (n16 : h0 ≠ a16) (n18 : h0 ≠ a18) (n5_6 : a5 ≠ a6) (n5_7 : a5 ≠ a7) (n5_8 : a5 ≠ a8) (n5_9 : a5 ≠ a9) (n5_10 : a5 ≠ a10) (n5_16 : a5 ≠ a16) (n5_18 : a5 ≠ a18) (n6_7 : a6 ≠ a7) (n6_8 : a6 ≠ a8) (n6_9 : a6 ≠ a9) (n6_10 : a6 ≠ a10) (n6_16 : a6 ≠ a16) (n6_18 : a6 ≠ a18) (n7_8 : a7 ≠ a8) (n7_9 : a7 ≠ a9) (n7_10 : a7 ≠ a10) (n7_16 : a7 ≠ a16) (n7_18 : a7 ≠ a18) (n8_9 : a8 ≠ a9) (n8_10 : a8 ≠ a10) (n8_16 : a8 ≠ a16) (n8_18 : a8 ≠ a18) (n9_10 : a9 ≠ a10) (n9_16 : a9 ≠ a16) (n9_18 : a9 ≠ a18) (n10_16 : a10 ≠ a16) (n10_18 : a10 ≠ a18) (n16_18 : a16 ≠ a18) : Mq l G yX12_newTable cX12_newTable 7 (some .int) 2 [.ref h0, .int kd, .int ds, .int bs, .int sc] L E 0 0 (fun v L2 E2 => v = some (.int 0) ∧ L2 = L ∧ ∃ f2, E2 h0 = ob 13 67 f2) := by
  refine Mq.mk (by decide) (Nat.le_of_ble_eq_true rfl) ?_
  intro p e s m args below meth c A C
  refine q_aload_n (j := 0) C dX12_newTable_0 rfl ?_
  refine q_get (k := 4) (v := .int 0) C ck_13 dX12_newTable_1 w6_63 (by decide) hL hE f4 ?_
  refine q_istore (lv2 := [(5, .int 0), (0, .ref h0), (1, .int kd), (2, .int ds), (3, .int bs), (4, .int sc)]) C dX12_newTable_4 (by decide) rfl ?_
  refine q_aload_n (j := 1) C dX12_newTable_6 rfl ?_
  refine q_dup C dX12_newTable_7 rfl ?_
  refine q_get (k := 4) (v := .int 0) C ck_13 dX12_newTable_8 w6_63 (by decide) hL hE f4 ?_
  refine q_iconst (v := 1) C dX12_newTable_11 (by decide) ?_
  refine q_iadd (v := 1) C dX12_newTable_12 (by decide) ?_
  refine q_put (k := 4) C ck_13 dX12_newTable_13 w6_63 (by decide) rfl hL hE rfl rfl ?_
  refine q_aload_n (j := 1) C dX12_newTable_16 rfl ?_
  refine q_get (k := 5) (v := .ref a5) C ck_13 dX12_newTable_17 w6_64 (by decide) hL (va_up_self _ _ _) f5 ?_
  refine q_iload (j := 0) C dX12_newTable_20 rfl ?_
  refine q_iconst (v := 1) C dX12_newTable_22 (by decide) ?_
  refine q_zast C dX12_newTable_23 hL5 ((va_up_ne _ _ (Ne.symm n5)).trans hE5) (by unfold vp_in; decide) (fun g1 => ?_)
  refine q_aload_n (j := 1) C dX12_newTable_24 rfl ?_
  refine q_get (k := 6) (v := .ref a6) C ck_13 dX12_newTable_25 w6_65 (by decide) hL ((va_up_ne _ _ n5).trans (va_up_self _ _ _)) f6 ?_
  refine q_iload (j := 0) C dX12_newTable_28 rfl ?_
  refine q_iload_n (j := 2) C dX12_newTable_30 rfl ?_
  refine q_iast C dX12_newTable_31 hL6 ((va_up_ne _ _ (Ne.symm n5_6)).trans ((va_up_ne _ _ (Ne.symm n6)).trans hE6)) (by unfold vp_in; decide) ?_
  refine q_aload_n (j := 1) C dX12_newTable_32 rfl ?_
  refine q_get (k := 7) (v := .ref a7) C ck_13 dX12_newTable_33 w6_66 (by decide) hL ((va_up_ne _ _ n6).trans ((va_up_ne _ _ n5).trans (va_up_self _ _ _))) f7 ?_
  refine q_iload (j := 0) C dX12_newTable_36 rfl ?_
  refine q_iload_n (j := 3) C dX12_newTable_38 rfl ?_
  refine q_iast C dX12_newTable_39 hL7 ((va_up_ne _ _ (Ne.symm n6_7)).trans ((va_up_ne _ _ (Ne.symm n5_7)).trans ((va_up_ne _ _ (Ne.symm n7)).trans hE7))) (by unfold vp_in; decide) ?_
  refine q_aload_n (j := 1) C dX12_newTable_40 rfl ?_
  refine q_get (k := 8) (v := .ref a8) C ck_13 dX12_newTable_41 w6_67 (by decide) hL ((va_up_ne _ _ n7).trans ((va_up_ne _ _ n6).trans ((va_up_ne _ _ n5).trans (va_up_self _ _ _)))) f8 ?_
  refine q_iload (j := 0) C dX12_newTable_44 rfl ?_
  refine q_iload_n (j := 4) C dX12_newTable_46 rfl ?_
  refine q_iast C dX12_newTable_47 hL8 ((va_up_ne _ _ (Ne.symm n7_8)).trans ((va_up_ne _ _ (Ne.symm n6_8)).trans ((va_up_ne _ _ (Ne.symm n5_8)).trans ((va_up_ne _ _ (Ne.symm n8)).trans hE8)))) (by unfold vp_in; decide) ?_
  refine q_aload_n (j := 1) C dX12_newTable_48 rfl ?_
  refine q_get (k := 9) (v := .ref a9) C ck_13 dX12_newTable_49 w6_68 (by decide) hL ((va_up_ne _ _ n8).trans ((va_up_ne _ _ n7).trans ((va_up_ne _ _ n6).trans ((va_up_ne _ _ n5).trans (va_up_self _ _ _))))) f9 ?_
  refine q_iload (j := 0) C dX12_newTable_52 rfl ?_
  refine q_iload (j := 5) C dX12_newTable_54 rfl ?_
  refine q_iast C dX12_newTable_56 hL9 ((va_up_ne _ _ (Ne.symm n8_9)).trans ((va_up_ne _ _ (Ne.symm n7_9)).trans ((va_up_ne _ _ (Ne.symm n6_9)).trans ((va_up_ne _ _ (Ne.symm n5_9)).trans ((va_up_ne _ _ (Ne.symm n9)).trans hE9))))) (by unfold vp_in; decide) ?_
  refine q_aload_n (j := 1) C dX12_newTable_57 rfl ?_
  refine q_get (k := 10) (v := .ref a10) C ck_13 dX12_newTable_58 w6_69 (by decide) hL ((va_up_ne _ _ n9).trans ((va_up_ne _ _ n8).trans ((va_up_ne _ _ n7).trans ((va_up_ne _ _ n6).trans ((va_up_ne _ _ n5).trans (va_up_self _ _ _)))))) f10 ?_
  refine q_iload (j := 0) C dX12_newTable_61 rfl ?_
  refine q_iconst (v := 0) C dX12_newTable_63 (by decide) ?_
  refine q_iast C dX12_newTable_64 hL10 ((va_up_ne _ _ (Ne.symm n9_10)).trans ((va_up_ne _ _ (Ne.symm n8_10)).trans ((va_up_ne _ _ (Ne.symm n7_10)).trans ((va_up_ne _ _ (Ne.symm n6_10)).trans ((va_up_ne _ _ (Ne.symm n5_10)).trans ((va_up_ne _ _ (Ne.symm n10)).trans hE10)))))) (by unfold vp_in; decide) ?_
  refine q_iconst (v := 0) C dX12_newTable_65 (by decide) ?_
  refine q_istore (lv2 := [(6, .int 0), (5, .int 0), (0, .ref h0), (1, .int kd), (2, .int ds), (3, .int bs), (4, .int sc)]) C dX12_newTable_66 (by decide) rfl ?_
  refine q_iload (j := 0) C dX12_newTable_68 rfl ?_
  refine q_iconst (v := 4) C dX12_newTable_70 (by decide) ?_
  refine q_icmp_ge (tgt := 93) C dX12_newTable_71 (by decide) (fun z => absurd z (by decide)) (fun _ => ?_)
  refine q_aload_n (j := 2) C dX12_newTable_74 rfl ?_
  refine q_get (k := 16) (v := .ref a16) C ck_13 dX12_newTable_75 w6_75 (by decide) hL ((va_up_ne _ _ n10).trans ((va_up_ne _ _ n9).trans ((va_up_ne _ _ n8).trans ((va_up_ne _ _ n7).trans ((va_up_ne _ _ n6).trans ((va_up_ne _ _ n5).trans (va_up_self _ _ _))))))) f16 ?_
  refine q_iconst (v := 4) C dX12_newTable_78 (by decide) ?_
  refine q_iload (j := 1) C dX12_newTable_79 rfl ?_
  refine q_imul (v := 0) C dX12_newTable_81 (by decide) ?_
  refine q_iload (j := 0) C dX12_newTable_82 rfl ?_
  refine q_iadd (v := 0) C dX12_newTable_84 (by decide) ?_
  refine q_iconst (v := 0) C dX12_newTable_85 (by decide) ?_
  refine q_iast C dX12_newTable_86 hL16 ((va_up_ne _ _ (Ne.symm n10_16)).trans ((va_up_ne _ _ (Ne.symm n9_16)).trans ((va_up_ne _ _ (Ne.symm n8_16)).trans ((va_up_ne _ _ (Ne.symm n7_16)).trans ((va_up_ne _ _ (Ne.symm n6_16)).trans ((va_up_ne _ _ (Ne.symm n5_16)).trans ((va_up_ne _ _ (Ne.symm n16)).trans hE16))))))) (by unfold vp_in; decide) ?_
  refine q_iinc (j := 0) (v := 1) (lv2 := [(6, .int 1), (5, .int 0), (0, .ref h0), (1, .int kd), (2, .int ds), (3, .int bs), (4, .int sc)]) C dX12_newTable_87 rfl (by decide) (by decide) rfl ?_
  refine q_goto (tgt := 68) C dX12_newTable_90 (by decide) ?_
  refine q_iload (j := 0) C dX12_newTable_68 rfl ?_
  refine q_iconst (v := 4) C dX12_newTable_70 (by decide) ?_
  refine q_icmp_ge (tgt := 93) C dX12_newTable_71 (by decide) (fun z => absurd z (by decide)) (fun _ => ?_)
  refine q_aload_n (j := 2) C dX12_newTable_74 rfl ?_
  refine q_get (k := 16) (v := .ref a16) C ck_13 dX12_newTable_75 w6_75 (by decide) hL ((va_up_ne _ _ n16).trans ((va_up_ne _ _ n10).trans ((va_up_ne _ _ n9).trans ((va_up_ne _ _ n8).trans ((va_up_ne _ _ n7).trans ((va_up_ne _ _ n6).trans ((va_up_ne _ _ n5).trans (va_up_self _ _ _)))))))) f16 ?_
  refine q_iconst (v := 4) C dX12_newTable_78 (by decide) ?_
  refine q_iload (j := 1) C dX12_newTable_79 rfl ?_
  refine q_imul (v := 0) C dX12_newTable_81 (by decide) ?_
  refine q_iload (j := 0) C dX12_newTable_82 rfl ?_
  refine q_iadd (v := 1) C dX12_newTable_84 (by decide) ?_
  refine q_iconst (v := 0) C dX12_newTable_85 (by decide) ?_
  refine q_iast C dX12_newTable_86 hL16 (va_up_self _ _ _) (by unfold vp_in; decide) ?_
  refine q_iinc (j := 0) (v := 2) (lv2 := [(6, .int 2), (5, .int 0), (0, .ref h0), (1, .int kd), (2, .int ds), (3, .int bs), (4, .int sc)]) C dX12_newTable_87 rfl (by decide) (by decide) rfl ?_
  refine q_goto (tgt := 68) C dX12_newTable_90 (by decide) ?_
  refine q_iload (j := 0) C dX12_newTable_68 rfl ?_
  refine q_iconst (v := 4) C dX12_newTable_70 (by decide) ?_
  refine q_icmp_ge (tgt := 93) C dX12_newTable_71 (by decide) (fun z => absurd z (by decide)) (fun _ => ?_)
  refine q_aload_n (j := 2) C dX12_newTable_74 rfl ?_
  refine q_get (k := 16) (v := .ref a16) C ck_13 dX12_newTable_75 w6_75 (by decide) hL ((va_up_ne _ _ n16).trans ((va_up_ne _ _ n16).trans ((va_up_ne _ _ n10).trans ((va_up_ne _ _ n9).trans ((va_up_ne _ _ n8).trans ((va_up_ne _ _ n7).trans ((va_up_ne _ _ n6).trans ((va_up_ne _ _ n5).trans (va_up_self _ _ _))))))))) f16 ?_
  refine q_iconst (v := 4) C dX12_newTable_78 (by decide) ?_
  refine q_iload (j := 1) C dX12_newTable_79 rfl ?_
  refine q_imul (v := 0) C dX12_newTable_81 (by decide) ?_
  refine q_iload (j := 0) C dX12_newTable_82 rfl ?_
  refine q_iadd (v := 2) C dX12_newTable_84 (by decide) ?_
  refine q_iconst (v := 0) C dX12_newTable_85 (by decide) ?_
  refine q_iast C dX12_newTable_86 hL16 (va_up_self _ _ _) (by unfold vp_in; decide) ?_
  refine q_iinc (j := 0) (v := 3) (lv2 := [(6, .int 3), (5, .int 0), (0, .ref h0), (1, .int kd), (2, .int ds), (3, .int bs), (4, .int sc)]) C dX12_newTable_87 rfl (by decide) (by decide) rfl ?_
  refine q_goto (tgt := 68) C dX12_newTable_90 (by decide) ?_
  refine q_iload (j := 0) C dX12_newTable_68 rfl ?_
  refine q_iconst (v := 4) C dX12_newTable_70 (by decide) ?_
  refine q_icmp_ge (tgt := 93) C dX12_newTable_71 (by decide) (fun z => absurd z (by decide)) (fun _ => ?_)
  refine q_aload_n (j := 2) C dX12_newTable_74 rfl ?_
  refine q_get (k := 16) (v := .ref a16) C ck_13 dX12_newTable_75 w6_75 (by decide) hL ((va_up_ne _ _ n16).trans ((va_up_ne _ _ n16).trans ((va_up_ne _ _ n16).trans ((va_up_ne _ _ n10).trans ((va_up_ne _ _ n9).trans ((va_up_ne _ _ n8).trans ((va_up_ne _ _ n7).trans ((va_up_ne _ _ n6).trans ((va_up_ne _ _ n5).trans (va_up_self _ _ _)))))))))) f16 ?_
  refine q_iconst (v := 4) C dX12_newTable_78 (by decide) ?_
  refine q_iload (j := 1) C dX12_newTable_79 rfl ?_
  refine q_imul (v := 0) C dX12_newTable_81 (by decide) ?_
  refine q_iload (j := 0) C dX12_newTable_82 rfl ?_
  refine q_iadd (v := 3) C dX12_newTable_84 (by decide) ?_
  refine q_iconst (v := 0) C dX12_newTable_85 (by decide) ?_
  refine q_iast C dX12_newTable_86 hL16 (va_up_self _ _ _) (by unfold vp_in; decide) ?_
  refine q_iinc (j := 0) (v := 4) (lv2 := [(6, .int 4), (5, .int 0), (0, .ref h0), (1, .int kd), (2, .int ds), (3, .int bs), (4, .int sc)]) C dX12_newTable_87 rfl (by decide) (by decide) rfl ?_
  refine q_goto (tgt := 68) C dX12_newTable_90 (by decide) ?_
  refine q_iload (j := 0) C dX12_newTable_68 rfl ?_
  refine q_iconst (v := 4) C dX12_newTable_70 (by decide) ?_
  refine q_icmp_ge (tgt := 93) C dX12_newTable_71 (by decide) (fun _ => ?_) (fun z => absurd (by decide) z)
  refine q_aload_n (j := 2) C dX12_newTable_93 rfl ?_
  refine q_iconst (v := 0) C dX12_newTable_94 (by decide) ?_
  refine q_iload (j := 1) C dX12_newTable_95 rfl ?_
  refine q_iconst (v := 0) C dX12_newTable_97 (by decide) ?_
  refine q_iconst (v := 0) C dX12_newTable_98 (by decide) ?_
  refine q_callV (d2 := 1) (mc2 := 0) (ms2 := 0) (As := [.int 0, .int 0, .int 0, .int 0]) (rest := []) C (m_step (f := (va_up f 4 (.int 1))) 0 0 0 0 hL ((va_up_ne _ _ n16).trans ((va_up_ne _ _ n16).trans ((va_up_ne _ _ n16).trans ((va_up_ne _ _ n16).trans ((va_up_ne _ _ n10).trans ((va_up_ne _ _ n9).trans ((va_up_ne _ _ n8).trans ((va_up_ne _ _ n7).trans ((va_up_ne _ _ n6).trans ((va_up_ne _ _ n5).trans (va_up_self _ _ _))))))))))) f19 f18 hL18 ((va_up_ne _ _ (Ne.symm n16_18)).trans ((va_up_ne _ _ (Ne.symm n16_18)).trans ((va_up_ne _ _ (Ne.symm n16_18)).trans ((va_up_ne _ _ (Ne.symm n16_18)).trans ((va_up_ne _ _ (Ne.symm n10_18)).trans ((va_up_ne _ _ (Ne.symm n9_18)).trans ((va_up_ne _ _ (Ne.symm n8_18)).trans ((va_up_ne _ _ (Ne.symm n7_18)).trans ((va_up_ne _ _ (Ne.symm n6_18)).trans ((va_up_ne _ _ (Ne.symm n5_18)).trans ((va_up_ne _ _ (Ne.symm n18)).trans hE18))))))))))) n18) dX12_newTable_99 kV_X12_182 rfl hL ((va_up_ne _ _ n16).trans ((va_up_ne _ _ n16).trans ((va_up_ne _ _ n16).trans ((va_up_ne _ _ n16).trans ((va_up_ne _ _ n10).trans ((va_up_ne _ _ n9).trans ((va_up_ne _ _ n8).trans ((va_up_ne _ _ n7).trans ((va_up_ne _ _ n6).trans ((va_up_ne _ _ n5).trans (va_up_self _ _ _))))))))))) ck_13 rfl (Nat.le_of_ble_eq_true rfl) ⟨Nat.le_of_ble_eq_true rfl, Nat.le_of_ble_eq_true rfl⟩ ⟨Nat.le_of_ble_eq_true rfl, Nat.le_of_ble_eq_true rfl⟩ (fun vh1 Lh1 Eh1 h1 => ?_)
  obtain ⟨rfl, rfl, fh1, h1c⟩ := h1
  refine q_st (st2 := []) rfl ?_
  refine q_iload (j := 1) C dX12_newTable_102 rfl ?_
  exact q_iret C dX12_newTable_104 rfl (Nat.le_of_ble_eq_true rfl) (Nat.le_of_ble_eq_true rfl) ⟨rfl, rfl, _, h1c⟩
set_option maxHeartbeats 4000000 in
set_option maxRecDepth 100000 in
theorem m_table {l : Launch} {G : GT} {L : List Nat} {E : Nat → va_E} (k d1 b1 : Int32)  {h0 a5 a6 a7 a8 a9 a10 a16 a18 : Nat} {f : Nat → Value} (hL : h0 ∈ L) (hE : E h0 = ob 13 67 f) (f4 : f 4 = .int 0) (f19 : f 19 = .int 0) (f5 : f 5 = .ref a5) (hL5 : a5 ∈ L) (hE5 : E a5 = aZ G 30 (fun _ => 0)) (f6 : f 6 = .ref a6) (hL6 : a6 ∈ L) (hE6 : E a6 = aI G 30 (fun _ => 0)) (f7 : f 7 = .ref a7) (hL7 : a7 ∈ L) (hE7 : E a7 = aI G 30 (fun _ => 0)) (f8 : f 8 = .ref a8) (hL8 : a8 ∈ L) (hE8 : E a8 = aI G 30 (fun _ => 0)) (f9 : f 9 = .ref a9) (hL9 : a9 ∈ L) (hE9 : E a9 = aI G 30 (fun _ => 0)) (f10 : f 10 = .ref a10) (hL10 : a10 ∈ L) (hE10 : E a10 = aI G 30 (fun _ => 0)) (f16 : f 16 = .ref a16) (hL16 : a16 ∈ L) (hE16 : E a16 = aI G 120 (fun _ => 0)) (f18 : f 18 = .ref a18) (hL18 : a18 ∈ L) (hE18 : E a18 = aI G 64 (fun _ => 0)) (n5 : h0 ≠ a5) (n6 : h0 ≠ a6) (n7 : h0 ≠ a7) (n8 : h0 ≠ a8) (n9 : h0 ≠ a9) (n10 : h0 ≠ a10) (n16 : h0 ≠ a16) (n18 : h0 ≠ a18) (n5_6 : a5 ≠ a6) (n5_7 : a5 ≠ a7) (n5_8 : a5 ≠ a8) (n5_9 : a5 ≠ a9) (n5_10 : a5 ≠ a10) (n5_16 : a5 ≠ a16) (n5_18 : a5 ≠ a18) (n6_7 : a6 ≠ a7) (n6_8 : a6 ≠ a8) (n6_9 : a6 ≠ a9) (n6_10 : a6 ≠ a10) (n6_16 : a6 ≠ a16) (n6_18 : a6 ≠ a18) (n7_8 : a7 ≠ a8) (n7_9 : a7 ≠ a9) (n7_10 : a7 ≠ a10) (n7_16 : a7 ≠ a16) (n7_18 : a7 ≠ a18) (n8_9 : a8 ≠ a9) (n8_10 : a8 ≠ a10) (n8_16 : a8 ≠ a16) (n8_18 : a8 ≠ a18) (n9_10 : a9 ≠ a10) (n9_16 : a9 ≠ a16) (n9_18 : a9 ≠ a18) (n10_16 : a10 ≠ a16) (n10_18 : a10 ≠ a18) (n16_18 : a16 ≠ a18) : Mq l G yX12_table cX12_table 5 (some .int) 4 [.ref h0, .int k, .int d1, .int b1] L E 0 0 (fun v L2 E2 => v = some (.int (an_table k d1))) := by
  refine Mq.mk (by decide) (Nat.le_of_ble_eq_true rfl) ?_
  intro p e s m args below meth c A C
  refine q_iload_n (j := 1) C dX12_table_0 rfl ?_
  refine q_iconst (v := 1) C dX12_table_1 (by decide) ?_
  refine q_iconst (v := 3) C dX12_table_2 (by decide) ?_
  refine q_callS (d2 := 0) (mc2 := 0) (ms2 := 0) (As := [.int k, .int 1, .int 3]) (rest := []) C (m_isIn k 1 3) dX12_table_3 kS_X12_174 rfl rfl (Nat.le_of_ble_eq_true rfl) ⟨Nat.le_of_ble_eq_true rfl, Nat.le_of_ble_eq_true rfl⟩ ⟨Nat.le_of_ble_eq_true rfl, Nat.le_of_ble_eq_true rfl⟩ (fun vh1 Lh1 Eh1 h1 => ?_)
  obtain ⟨rfl, rfl, rfl⟩ := h1
  refine q_st (st2 := [.int (inn k 1 3)]) rfl ?_
  refine q_istore (lv2 := [(4, .int (inn k 1 3)), (0, .ref h0), (1, .int k), (2, .int d1), (3, .int b1)]) C dX12_table_6 (by decide) rfl ?_
  refine q_iload_n (j := 2) C dX12_table_8 rfl ?_
  refine q_iconst (v := 0) C dX12_table_9 (by decide) ?_
  refine q_iconst (v := 4) C dX12_table_10 (by decide) ?_
  refine q_callS (d2 := 0) (mc2 := 0) (ms2 := 0) (As := [.int k, .int 0, .int 4]) (rest := []) C (m_isIn k 0 4) dX12_table_11 kS_X12_174 rfl rfl (Nat.le_of_ble_eq_true rfl) ⟨Nat.le_of_ble_eq_true rfl, Nat.le_of_ble_eq_true rfl⟩ ⟨Nat.le_of_ble_eq_true rfl, Nat.le_of_ble_eq_true rfl⟩ (fun vh2 Lh2 Eh2 h2 => ?_)
  obtain ⟨rfl, rfl, rfl⟩ := h2
  refine q_st (st2 := [.int (inn k 0 4)]) rfl ?_
  refine q_if_eq (tgt := 38) C dX12_table_14 (by decide) (fun c1 => ?_) (fun c1 => ?_)
  · refine q_aload_n (j := 1) C dX12_table_38 rfl ?_
    refine q_bipush (v := 6) C dX12_table_39 (by decide) ?_
    refine q_callV (d2 := 0) (mc2 := 0) (ms2 := 0) (As := [.int 6]) (rest := []) C (c_bad 6 hL hE) dX12_table_41 kV_X12_154 rfl hL hE ck_13 rfl (Nat.le_of_ble_eq_true rfl) ⟨Nat.le_of_ble_eq_true rfl, Nat.le_of_ble_eq_true rfl⟩ ⟨Nat.le_of_ble_eq_true rfl, Nat.le_of_ble_eq_true rfl⟩ (fun vh3 Lh3 Eh3 h3 => ?_)
    obtain ⟨rfl, rfl, rfl⟩ := h3
    refine q_st (st2 := [.int (-1)]) rfl ?_
    exact q_iret C dX12_table_44 rfl (Nat.le_of_ble_eq_true rfl) (Nat.le_of_ble_eq_true rfl) (by refine congrArg (fun z => some (Value.int z)) ?_; unfold an_table; (try simp only [inn_f, Decidable.not_not] at c1); (try simp only [i32_lt, i32_le, i32_eq, inn_f, Decidable.not_not, tn_m1, tn_0, tn_1, tn_2, tn_3, tn_4, tn_5, tn_6, tn_7, tn_8, tn_10, tn_30, tn_31, tn_32, tn_36, tn_40, tn_50, tn_100, tn_126, tn_200, tn_255, tn_500, tn_512, tn_3000, tn_5000] at c1); split <;> rename_i hz <;> (try simp only [i32_lt, i32_le, i32_eq, inn_f, Decidable.not_not, tn_m1, tn_0, tn_1, tn_2, tn_3, tn_4, tn_5, tn_6, tn_7, tn_8, tn_10, tn_30, tn_31, tn_32, tn_36, tn_40, tn_50, tn_100, tn_126, tn_200, tn_255, tn_500, tn_512, tn_3000, tn_5000] at hz) <;> first | rfl | (exfalso; omega) | (rw [i32_eq]; simp only [i32_lt, i32_le, i32_eq, inn_f, Decidable.not_not, tn_m1, tn_0, tn_1, tn_2, tn_3, tn_4, tn_5, tn_6, tn_7, tn_8, tn_10, tn_30, tn_31, tn_32, tn_36, tn_40, tn_50, tn_100, tn_126, tn_200, tn_255, tn_500, tn_512, tn_3000, tn_5000]; omega))
  · refine q_iload_n (j := 3) C dX12_table_17 rfl ?_
    refine q_bipush (v := 6) C dX12_table_18 (by decide) ?_
    refine q_icmp_eq (tgt := 29) C dX12_table_20 (by decide) (fun c2 => ?_) (fun c2 => ?_)
    · refine q_aload_n (j := 1) C dX12_table_29 rfl ?_
      refine q_get (k := 4) (v := .int 0) C ck_13 dX12_table_30 w6_63 (by decide) hL hE f4 ?_
      refine q_bipush (v := 30) C dX12_table_33 (by decide) ?_
      refine q_icmp_ne (tgt := 45) C dX12_table_35 (by decide) (fun _ => ?_) (fun z => absurd z (by decide))
      refine q_iload (j := 0) C dX12_table_45 rfl ?_
      refine q_if_eq (tgt := 64) C dX12_table_47 (by decide) (fun c3 => ?_) (fun c3 => ?_)
      · refine q_iload (j := 0) C dX12_table_64 rfl ?_
        refine q_if_eq (tgt := 85) C dX12_table_66 (by decide) (fun _ => ?_) (fun z => absurd c3 z)
        refine q_aload_n (j := 1) C dX12_table_85 rfl ?_
        refine q_aload_n (j := 1) C dX12_table_86 rfl ?_
        refine q_iload_n (j := 2) C dX12_table_87 rfl ?_
        refine q_iload_n (j := 3) C dX12_table_88 rfl ?_
        refine q_iload (j := 0) C dX12_table_89 rfl ?_
        refine q_if_eq (tgt := 98) C dX12_table_91 (by decide) (fun _ => ?_) (fun z => absurd c3 z)
        refine q_iconst (v := (-1)) C dX12_table_98 (by decide) ?_
        refine q_iconst (v := (-1)) C dX12_table_99 (by decide) ?_
        refine q_callV (d2 := 2) (mc2 := 0) (ms2 := 0) (As := [.int k, .int d1, .int (-1), .int (-1)]) (rest := [.ref h0]) C (m_newTable k d1 (-1) (-1) hL hE f4 f19 f5 hL5 hE5 f6 hL6 hE6 f7 hL7 hE7 f8 hL8 hE8 f9 hL9 hE9 f10 hL10 hE10 f16 hL16 hE16 f18 hL18 hE18 n5 n6 n7 n8 n9 n10 n16 n18 n5_6 n5_7 n5_8 n5_9 n5_10 n5_16 n5_18 n6_7 n6_8 n6_9 n6_10 n6_16 n6_18 n7_8 n7_9 n7_10 n7_16 n7_18 n8_9 n8_10 n8_16 n8_18 n9_10 n9_16 n9_18 n10_16 n10_18 n16_18) dX12_table_100 kV_X12_178 rfl hL hE ck_13 rfl (Nat.le_of_ble_eq_true rfl) ⟨Nat.le_of_ble_eq_true rfl, Nat.le_of_ble_eq_true rfl⟩ ⟨Nat.le_of_ble_eq_true rfl, Nat.le_of_ble_eq_true rfl⟩ (fun vh4 Lh4 Eh4 h4 => ?_)
        obtain ⟨rfl, rfl, fh4, h4c⟩ := h4
        refine q_st (st2 := [.int 0, .ref h0]) rfl ?_
        refine q_callV (d2 := 0) (mc2 := 0) (ms2 := 0) (As := [.int 0]) (rest := []) C (c_fine 0 hL h4c) dX12_table_103 kV_X12_158 rfl hL h4c ck_13 rfl (Nat.le_of_ble_eq_true rfl) ⟨Nat.le_of_ble_eq_true rfl, Nat.le_of_ble_eq_true rfl⟩ ⟨Nat.le_of_ble_eq_true rfl, Nat.le_of_ble_eq_true rfl⟩ (fun vh5 Lh5 Eh5 h5 => ?_)
        obtain ⟨rfl, rfl, rfl⟩ := h5
        refine q_st (st2 := [.int 0]) rfl ?_
        exact q_iret C dX12_table_106 rfl (Nat.le_of_ble_eq_true rfl) (Nat.le_of_ble_eq_true rfl) (by refine congrArg (fun z => some (Value.int z)) ?_; unfold an_table; (try simp only [inn_f, Decidable.not_not] at c1); (try simp only [i32_lt, i32_le, i32_eq, inn_f, Decidable.not_not, tn_m1, tn_0, tn_1, tn_2, tn_3, tn_4, tn_5, tn_6, tn_7, tn_8, tn_10, tn_30, tn_31, tn_32, tn_36, tn_40, tn_50, tn_100, tn_126, tn_200, tn_255, tn_500, tn_512, tn_3000, tn_5000] at c1); (try simp only [inn_f, Decidable.not_not] at c2); (try simp only [i32_lt, i32_le, i32_eq, inn_f, Decidable.not_not, tn_m1, tn_0, tn_1, tn_2, tn_3, tn_4, tn_5, tn_6, tn_7, tn_8, tn_10, tn_30, tn_31, tn_32, tn_36, tn_40, tn_50, tn_100, tn_126, tn_200, tn_255, tn_500, tn_512, tn_3000, tn_5000] at c2); (try simp only [inn_f, Decidable.not_not] at c3); (try simp only [i32_lt, i32_le, i32_eq, inn_f, Decidable.not_not, tn_m1, tn_0, tn_1, tn_2, tn_3, tn_4, tn_5, tn_6, tn_7, tn_8, tn_10, tn_30, tn_31, tn_32, tn_36, tn_40, tn_50, tn_100, tn_126, tn_200, tn_255, tn_500, tn_512, tn_3000, tn_5000] at c3); split <;> rename_i hz <;> (try simp only [i32_lt, i32_le, i32_eq, inn_f, Decidable.not_not, tn_m1, tn_0, tn_1, tn_2, tn_3, tn_4, tn_5, tn_6, tn_7, tn_8, tn_10, tn_30, tn_31, tn_32, tn_36, tn_40, tn_50, tn_100, tn_126, tn_200, tn_255, tn_500, tn_512, tn_3000, tn_5000] at hz) <;> first | rfl | (exfalso; omega) | (rw [i32_eq]; simp only [i32_lt, i32_le, i32_eq, inn_f, Decidable.not_not, tn_m1, tn_0, tn_1, tn_2, tn_3, tn_4, tn_5, tn_6, tn_7, tn_8, tn_10, tn_30, tn_31, tn_32, tn_36, tn_40, tn_50, tn_100, tn_126, tn_200, tn_255, tn_500, tn_512, tn_3000, tn_5000]; omega))
      · refine q_aload_n (j := 1) C dX12_table_50 rfl ?_
        refine q_iload_n (j := 4) C dX12_table_51 rfl ?_
        refine q_callV (d2 := 0) (mc2 := 0) (ms2 := 0) (As := [.int b1]) (rest := []) C (m_isTable (f := f) b1 hL hE f4) dX12_table_52 kV_X12_167 rfl hL hE ck_13 rfl (Nat.le_of_ble_eq_true rfl) ⟨Nat.le_of_ble_eq_true rfl, Nat.le_of_ble_eq_true rfl⟩ ⟨Nat.le_of_ble_eq_true rfl, Nat.le_of_ble_eq_true rfl⟩ (fun vh6 Lh6 Eh6 h6 => ?_)
        obtain ⟨rfl, rfl, rfl⟩ := h6
        refine q_st (st2 := [.int 0]) rfl ?_
        refine q_if_ne (tgt := 64) C dX12_table_55 (by decide) (fun z => absurd (by decide) z) (fun _ => ?_)
        refine q_aload_n (j := 1) C dX12_table_58 rfl ?_
        refine q_iconst (v := 3) C dX12_table_59 (by decide) ?_
        refine q_callV (d2 := 0) (mc2 := 0) (ms2 := 0) (As := [.int 3]) (rest := []) C (c_bad 3 hL hE) dX12_table_60 kV_X12_154 rfl hL hE ck_13 rfl (Nat.le_of_ble_eq_true rfl) ⟨Nat.le_of_ble_eq_true rfl, Nat.le_of_ble_eq_true rfl⟩ ⟨Nat.le_of_ble_eq_true rfl, Nat.le_of_ble_eq_true rfl⟩ (fun vh7 Lh7 Eh7 h7 => ?_)
        obtain ⟨rfl, rfl, rfl⟩ := h7
        refine q_st (st2 := [.int (-1)]) rfl ?_
        exact q_iret C dX12_table_63 rfl (Nat.le_of_ble_eq_true rfl) (Nat.le_of_ble_eq_true rfl) (by refine congrArg (fun z => some (Value.int z)) ?_; unfold an_table; (try simp only [inn_f, Decidable.not_not] at c1); (try simp only [i32_lt, i32_le, i32_eq, inn_f, Decidable.not_not, tn_m1, tn_0, tn_1, tn_2, tn_3, tn_4, tn_5, tn_6, tn_7, tn_8, tn_10, tn_30, tn_31, tn_32, tn_36, tn_40, tn_50, tn_100, tn_126, tn_200, tn_255, tn_500, tn_512, tn_3000, tn_5000] at c1); (try simp only [inn_f, Decidable.not_not] at c2); (try simp only [i32_lt, i32_le, i32_eq, inn_f, Decidable.not_not, tn_m1, tn_0, tn_1, tn_2, tn_3, tn_4, tn_5, tn_6, tn_7, tn_8, tn_10, tn_30, tn_31, tn_32, tn_36, tn_40, tn_50, tn_100, tn_126, tn_200, tn_255, tn_500, tn_512, tn_3000, tn_5000] at c2); (try simp only [inn_f, Decidable.not_not] at c3); (try simp only [i32_lt, i32_le, i32_eq, inn_f, Decidable.not_not, tn_m1, tn_0, tn_1, tn_2, tn_3, tn_4, tn_5, tn_6, tn_7, tn_8, tn_10, tn_30, tn_31, tn_32, tn_36, tn_40, tn_50, tn_100, tn_126, tn_200, tn_255, tn_500, tn_512, tn_3000, tn_5000] at c3); split <;> rename_i hz <;> (try simp only [i32_lt, i32_le, i32_eq, inn_f, Decidable.not_not, tn_m1, tn_0, tn_1, tn_2, tn_3, tn_4, tn_5, tn_6, tn_7, tn_8, tn_10, tn_30, tn_31, tn_32, tn_36, tn_40, tn_50, tn_100, tn_126, tn_200, tn_255, tn_500, tn_512, tn_3000, tn_5000] at hz) <;> first | rfl | (exfalso; omega) | (rw [i32_eq]; simp only [i32_lt, i32_le, i32_eq, inn_f, Decidable.not_not, tn_m1, tn_0, tn_1, tn_2, tn_3, tn_4, tn_5, tn_6, tn_7, tn_8, tn_10, tn_30, tn_31, tn_32, tn_36, tn_40, tn_50, tn_100, tn_126, tn_200, tn_255, tn_500, tn_512, tn_3000, tn_5000]; omega))
    · refine q_iload_n (j := 3) C dX12_table_23 rfl ?_
      refine q_bipush (v := 8) C dX12_table_24 (by decide) ?_
      refine q_icmp_ne (tgt := 38) C dX12_table_26 (by decide) (fun c4 => ?_) (fun c4 => ?_)
      · refine q_aload_n (j := 1) C dX12_table_38 rfl ?_
        refine q_bipush (v := 6) C dX12_table_39 (by decide) ?_
        refine q_callV (d2 := 0) (mc2 := 0) (ms2 := 0) (As := [.int 6]) (rest := []) C (c_bad 6 hL hE) dX12_table_41 kV_X12_154 rfl hL hE ck_13 rfl (Nat.le_of_ble_eq_true rfl) ⟨Nat.le_of_ble_eq_true rfl, Nat.le_of_ble_eq_true rfl⟩ ⟨Nat.le_of_ble_eq_true rfl, Nat.le_of_ble_eq_true rfl⟩ (fun vh8 Lh8 Eh8 h8 => ?_)
        obtain ⟨rfl, rfl, rfl⟩ := h8
        refine q_st (st2 := [.int (-1)]) rfl ?_
        exact q_iret C dX12_table_44 rfl (Nat.le_of_ble_eq_true rfl) (Nat.le_of_ble_eq_true rfl) (by refine congrArg (fun z => some (Value.int z)) ?_; unfold an_table; (try simp only [inn_f, Decidable.not_not] at c1); (try simp only [i32_lt, i32_le, i32_eq, inn_f, Decidable.not_not, tn_m1, tn_0, tn_1, tn_2, tn_3, tn_4, tn_5, tn_6, tn_7, tn_8, tn_10, tn_30, tn_31, tn_32, tn_36, tn_40, tn_50, tn_100, tn_126, tn_200, tn_255, tn_500, tn_512, tn_3000, tn_5000] at c1); (try simp only [inn_f, Decidable.not_not] at c2); (try simp only [i32_lt, i32_le, i32_eq, inn_f, Decidable.not_not, tn_m1, tn_0, tn_1, tn_2, tn_3, tn_4, tn_5, tn_6, tn_7, tn_8, tn_10, tn_30, tn_31, tn_32, tn_36, tn_40, tn_50, tn_100, tn_126, tn_200, tn_255, tn_500, tn_512, tn_3000, tn_5000] at c2); (try simp only [inn_f, Decidable.not_not] at c4); (try simp only [i32_lt, i32_le, i32_eq, inn_f, Decidable.not_not, tn_m1, tn_0, tn_1, tn_2, tn_3, tn_4, tn_5, tn_6, tn_7, tn_8, tn_10, tn_30, tn_31, tn_32, tn_36, tn_40, tn_50, tn_100, tn_126, tn_200, tn_255, tn_500, tn_512, tn_3000, tn_5000] at c4); split <;> rename_i hz <;> (try simp only [i32_lt, i32_le, i32_eq, inn_f, Decidable.not_not, tn_m1, tn_0, tn_1, tn_2, tn_3, tn_4, tn_5, tn_6, tn_7, tn_8, tn_10, tn_30, tn_31, tn_32, tn_36, tn_40, tn_50, tn_100, tn_126, tn_200, tn_255, tn_500, tn_512, tn_3000, tn_5000] at hz) <;> first | rfl | (exfalso; omega) | (rw [i32_eq]; simp only [i32_lt, i32_le, i32_eq, inn_f, Decidable.not_not, tn_m1, tn_0, tn_1, tn_2, tn_3, tn_4, tn_5, tn_6, tn_7, tn_8, tn_10, tn_30, tn_31, tn_32, tn_36, tn_40, tn_50, tn_100, tn_126, tn_200, tn_255, tn_500, tn_512, tn_3000, tn_5000]; omega))
      · refine q_aload_n (j := 1) C dX12_table_29 rfl ?_
        refine q_get (k := 4) (v := .int 0) C ck_13 dX12_table_30 w6_63 (by decide) hL hE f4 ?_
        refine q_bipush (v := 30) C dX12_table_33 (by decide) ?_
        refine q_icmp_ne (tgt := 45) C dX12_table_35 (by decide) (fun _ => ?_) (fun z => absurd z (by decide))
        refine q_iload (j := 0) C dX12_table_45 rfl ?_
        refine q_if_eq (tgt := 64) C dX12_table_47 (by decide) (fun c5 => ?_) (fun c5 => ?_)
        · refine q_iload (j := 0) C dX12_table_64 rfl ?_
          refine q_if_eq (tgt := 85) C dX12_table_66 (by decide) (fun _ => ?_) (fun z => absurd c5 z)
          refine q_aload_n (j := 1) C dX12_table_85 rfl ?_
          refine q_aload_n (j := 1) C dX12_table_86 rfl ?_
          refine q_iload_n (j := 2) C dX12_table_87 rfl ?_
          refine q_iload_n (j := 3) C dX12_table_88 rfl ?_
          refine q_iload (j := 0) C dX12_table_89 rfl ?_
          refine q_if_eq (tgt := 98) C dX12_table_91 (by decide) (fun _ => ?_) (fun z => absurd c5 z)
          refine q_iconst (v := (-1)) C dX12_table_98 (by decide) ?_
          refine q_iconst (v := (-1)) C dX12_table_99 (by decide) ?_
          refine q_callV (d2 := 2) (mc2 := 0) (ms2 := 0) (As := [.int k, .int d1, .int (-1), .int (-1)]) (rest := [.ref h0]) C (m_newTable k d1 (-1) (-1) hL hE f4 f19 f5 hL5 hE5 f6 hL6 hE6 f7 hL7 hE7 f8 hL8 hE8 f9 hL9 hE9 f10 hL10 hE10 f16 hL16 hE16 f18 hL18 hE18 n5 n6 n7 n8 n9 n10 n16 n18 n5_6 n5_7 n5_8 n5_9 n5_10 n5_16 n5_18 n6_7 n6_8 n6_9 n6_10 n6_16 n6_18 n7_8 n7_9 n7_10 n7_16 n7_18 n8_9 n8_10 n8_16 n8_18 n9_10 n9_16 n9_18 n10_16 n10_18 n16_18) dX12_table_100 kV_X12_178 rfl hL hE ck_13 rfl (Nat.le_of_ble_eq_true rfl) ⟨Nat.le_of_ble_eq_true rfl, Nat.le_of_ble_eq_true rfl⟩ ⟨Nat.le_of_ble_eq_true rfl, Nat.le_of_ble_eq_true rfl⟩ (fun vh9 Lh9 Eh9 h9 => ?_)
          obtain ⟨rfl, rfl, fh9, h9c⟩ := h9
          refine q_st (st2 := [.int 0, .ref h0]) rfl ?_
          refine q_callV (d2 := 0) (mc2 := 0) (ms2 := 0) (As := [.int 0]) (rest := []) C (c_fine 0 hL h9c) dX12_table_103 kV_X12_158 rfl hL h9c ck_13 rfl (Nat.le_of_ble_eq_true rfl) ⟨Nat.le_of_ble_eq_true rfl, Nat.le_of_ble_eq_true rfl⟩ ⟨Nat.le_of_ble_eq_true rfl, Nat.le_of_ble_eq_true rfl⟩ (fun vh10 Lh10 Eh10 h10 => ?_)
          obtain ⟨rfl, rfl, rfl⟩ := h10
          refine q_st (st2 := [.int 0]) rfl ?_
          exact q_iret C dX12_table_106 rfl (Nat.le_of_ble_eq_true rfl) (Nat.le_of_ble_eq_true rfl) (by refine congrArg (fun z => some (Value.int z)) ?_; unfold an_table; (try simp only [inn_f, Decidable.not_not] at c1); (try simp only [i32_lt, i32_le, i32_eq, inn_f, Decidable.not_not, tn_m1, tn_0, tn_1, tn_2, tn_3, tn_4, tn_5, tn_6, tn_7, tn_8, tn_10, tn_30, tn_31, tn_32, tn_36, tn_40, tn_50, tn_100, tn_126, tn_200, tn_255, tn_500, tn_512, tn_3000, tn_5000] at c1); (try simp only [inn_f, Decidable.not_not] at c2); (try simp only [i32_lt, i32_le, i32_eq, inn_f, Decidable.not_not, tn_m1, tn_0, tn_1, tn_2, tn_3, tn_4, tn_5, tn_6, tn_7, tn_8, tn_10, tn_30, tn_31, tn_32, tn_36, tn_40, tn_50, tn_100, tn_126, tn_200, tn_255, tn_500, tn_512, tn_3000, tn_5000] at c2); (try simp only [inn_f, Decidable.not_not] at c4); (try simp only [i32_lt, i32_le, i32_eq, inn_f, Decidable.not_not, tn_m1, tn_0, tn_1, tn_2, tn_3, tn_4, tn_5, tn_6, tn_7, tn_8, tn_10, tn_30, tn_31, tn_32, tn_36, tn_40, tn_50, tn_100, tn_126, tn_200, tn_255, tn_500, tn_512, tn_3000, tn_5000] at c4); (try simp only [inn_f, Decidable.not_not] at c5); (try simp only [i32_lt, i32_le, i32_eq, inn_f, Decidable.not_not, tn_m1, tn_0, tn_1, tn_2, tn_3, tn_4, tn_5, tn_6, tn_7, tn_8, tn_10, tn_30, tn_31, tn_32, tn_36, tn_40, tn_50, tn_100, tn_126, tn_200, tn_255, tn_500, tn_512, tn_3000, tn_5000] at c5); split <;> rename_i hz <;> (try simp only [i32_lt, i32_le, i32_eq, inn_f, Decidable.not_not, tn_m1, tn_0, tn_1, tn_2, tn_3, tn_4, tn_5, tn_6, tn_7, tn_8, tn_10, tn_30, tn_31, tn_32, tn_36, tn_40, tn_50, tn_100, tn_126, tn_200, tn_255, tn_500, tn_512, tn_3000, tn_5000] at hz) <;> first | rfl | (exfalso; omega) | (rw [i32_eq]; simp only [i32_lt, i32_le, i32_eq, inn_f, Decidable.not_not, tn_m1, tn_0, tn_1, tn_2, tn_3, tn_4, tn_5, tn_6, tn_7, tn_8, tn_10, tn_30, tn_31, tn_32, tn_36, tn_40, tn_50, tn_100, tn_126, tn_200, tn_255, tn_500, tn_512, tn_3000, tn_5000]; omega))
        · refine q_aload_n (j := 1) C dX12_table_50 rfl ?_
          refine q_iload_n (j := 4) C dX12_table_51 rfl ?_
          refine q_callV (d2 := 0) (mc2 := 0) (ms2 := 0) (As := [.int b1]) (rest := []) C (m_isTable (f := f) b1 hL hE f4) dX12_table_52 kV_X12_167 rfl hL hE ck_13 rfl (Nat.le_of_ble_eq_true rfl) ⟨Nat.le_of_ble_eq_true rfl, Nat.le_of_ble_eq_true rfl⟩ ⟨Nat.le_of_ble_eq_true rfl, Nat.le_of_ble_eq_true rfl⟩ (fun vh11 Lh11 Eh11 h11 => ?_)
          obtain ⟨rfl, rfl, rfl⟩ := h11
          refine q_st (st2 := [.int 0]) rfl ?_
          refine q_if_ne (tgt := 64) C dX12_table_55 (by decide) (fun z => absurd (by decide) z) (fun _ => ?_)
          refine q_aload_n (j := 1) C dX12_table_58 rfl ?_
          refine q_iconst (v := 3) C dX12_table_59 (by decide) ?_
          refine q_callV (d2 := 0) (mc2 := 0) (ms2 := 0) (As := [.int 3]) (rest := []) C (c_bad 3 hL hE) dX12_table_60 kV_X12_154 rfl hL hE ck_13 rfl (Nat.le_of_ble_eq_true rfl) ⟨Nat.le_of_ble_eq_true rfl, Nat.le_of_ble_eq_true rfl⟩ ⟨Nat.le_of_ble_eq_true rfl, Nat.le_of_ble_eq_true rfl⟩ (fun vh12 Lh12 Eh12 h12 => ?_)
          obtain ⟨rfl, rfl, rfl⟩ := h12
          refine q_st (st2 := [.int (-1)]) rfl ?_
          exact q_iret C dX12_table_63 rfl (Nat.le_of_ble_eq_true rfl) (Nat.le_of_ble_eq_true rfl) (by refine congrArg (fun z => some (Value.int z)) ?_; unfold an_table; (try simp only [inn_f, Decidable.not_not] at c1); (try simp only [i32_lt, i32_le, i32_eq, inn_f, Decidable.not_not, tn_m1, tn_0, tn_1, tn_2, tn_3, tn_4, tn_5, tn_6, tn_7, tn_8, tn_10, tn_30, tn_31, tn_32, tn_36, tn_40, tn_50, tn_100, tn_126, tn_200, tn_255, tn_500, tn_512, tn_3000, tn_5000] at c1); (try simp only [inn_f, Decidable.not_not] at c2); (try simp only [i32_lt, i32_le, i32_eq, inn_f, Decidable.not_not, tn_m1, tn_0, tn_1, tn_2, tn_3, tn_4, tn_5, tn_6, tn_7, tn_8, tn_10, tn_30, tn_31, tn_32, tn_36, tn_40, tn_50, tn_100, tn_126, tn_200, tn_255, tn_500, tn_512, tn_3000, tn_5000] at c2); (try simp only [inn_f, Decidable.not_not] at c4); (try simp only [i32_lt, i32_le, i32_eq, inn_f, Decidable.not_not, tn_m1, tn_0, tn_1, tn_2, tn_3, tn_4, tn_5, tn_6, tn_7, tn_8, tn_10, tn_30, tn_31, tn_32, tn_36, tn_40, tn_50, tn_100, tn_126, tn_200, tn_255, tn_500, tn_512, tn_3000, tn_5000] at c4); (try simp only [inn_f, Decidable.not_not] at c5); (try simp only [i32_lt, i32_le, i32_eq, inn_f, Decidable.not_not, tn_m1, tn_0, tn_1, tn_2, tn_3, tn_4, tn_5, tn_6, tn_7, tn_8, tn_10, tn_30, tn_31, tn_32, tn_36, tn_40, tn_50, tn_100, tn_126, tn_200, tn_255, tn_500, tn_512, tn_3000, tn_5000] at c5); split <;> rename_i hz <;> (try simp only [i32_lt, i32_le, i32_eq, inn_f, Decidable.not_not, tn_m1, tn_0, tn_1, tn_2, tn_3, tn_4, tn_5, tn_6, tn_7, tn_8, tn_10, tn_30, tn_31, tn_32, tn_36, tn_40, tn_50, tn_100, tn_126, tn_200, tn_255, tn_500, tn_512, tn_3000, tn_5000] at hz) <;> first | rfl | (exfalso; omega) | (rw [i32_eq]; simp only [i32_lt, i32_le, i32_eq, inn_f, Decidable.not_not, tn_m1, tn_0, tn_1, tn_2, tn_3, tn_4, tn_5, tn_6, tn_7, tn_8, tn_10, tn_30, tn_31, tn_32, tn_36, tn_40, tn_50, tn_100, tn_126, tn_200, tn_255, tn_500, tn_512, tn_3000, tn_5000]; omega))
