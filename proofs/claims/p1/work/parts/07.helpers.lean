set_option maxHeartbeats 4000000 in
set_option maxRecDepth 100000 in
theorem c_al_size {l : Launch} {G : GT} {L : List Nat} {E : Nat → va_E} {a : Nat} {f : Nat → Value} {n : Int32} (hL : a ∈ L) (hE : E a = ob 0 3 f) (h2 : f 2 = .int n) : Mq l G yJx4a65c_size_8abf5 cJx4a65c_size_8abf5 1 (some .int) 0 [.ref a] L E 0 0 (fun v L2 E2 => v = some (.int n) ∧ L2 = L ∧ E2 = E) := by
  refine Mq.mk (by decide) (Nat.le_of_ble_eq_true rfl) ?_
  intro p e s m args below meth c A C
  refine q_aload_n (j := 0) C dJx4a65c_size_8abf5_0 rfl ?_
  refine q_get (k := 2) (v := .int n) C ck_0 dJx4a65c_size_8abf5_1 w1_79 (by decide) hL hE h2 ?_
  exact q_iret C dJx4a65c_size_8abf5_4 rfl (Nat.le_of_ble_eq_true rfl) (Nat.le_of_ble_eq_true rfl) ⟨rfl, rfl, rfl⟩
set_option maxHeartbeats 4000000 in
set_option maxRecDepth 100000 in
theorem c_al_empty {l : Launch} {G : GT} {L : List Nat} {E : Nat → va_E} {a : Nat} {f : Nat → Value} (hL : a ∈ L) (hE : E a = ob 0 3 f) (h2 : f 2 = .int 0) : Mq l G yJx4a65c_isEmpty_aae02 cJx4a65c_isEmpty_aae02 1 (some .boolean) 0 [.ref a] L E 0 0 (fun v L2 E2 => v = some (.int 1) ∧ L2 = L ∧ E2 = E) := by
  refine Mq.mk (by decide) (Nat.le_of_ble_eq_true rfl) ?_
  intro p e s m args below meth c A C
  refine q_aload_n (j := 0) C dJx4a65c_isEmpty_aae02_0 rfl ?_
  refine q_get (k := 2) (v := .int 0) C ck_0 dJx4a65c_isEmpty_aae02_1 w1_79 (by decide) hL hE h2 ?_
  refine q_if_ne (tgt := 11) C dJx4a65c_isEmpty_aae02_4 (by decide) (fun z => absurd (by decide) z) (fun _ => ?_)
  refine q_iconst (v := 1) C dJx4a65c_isEmpty_aae02_7 (by decide) ?_
  refine q_goto (tgt := 12) C dJx4a65c_isEmpty_aae02_8 (by decide) ?_
  exact q_zret C dJx4a65c_isEmpty_aae02_12 rfl (by decide) (Nat.le_of_ble_eq_true rfl) (Nat.le_of_ble_eq_true rfl) ⟨rfl, rfl, rfl⟩
set_option maxHeartbeats 4000000 in
set_option maxRecDepth 100000 in
theorem c_alive0 {l : Launch} {G : GT} {L : List Nat} {E : Nat → va_E} (t : Int32) {a md ch : Nat} {f g gc : Nat → Value} (hL : a ∈ L) (hE : E a = ob 11 2 f) (h0 : f 0 = .ref md) (h1 : f 1 = .ref ch) (hLm : md ∈ L) (hEm : E md = ob 0 3 g) (hm2 : g 2 = .int 0) (hLc : ch ∈ L) (hEc : E ch = ob 0 3 gc) (hc2 : gc 2 = .int 0) : Mq l G yX10_alive cX10_alive 3 (some (.object "DotPress$Table")) 1 [.ref a, .int t] L E 0 0 (fun v L2 E2 => v = some (.null) ∧ L2 = L ∧ E2 = E) := by
  refine Mq.mk (by decide) (Nat.le_of_ble_eq_true rfl) ?_
  intro p e s m args below meth c A C
  refine q_iload_n (j := 1) C dX10_alive_0 rfl ?_
  refine q_if_lt (tgt := 15) C dX10_alive_1 (by decide) (fun c1 => ?_) (fun c1 => ?_)
  · refine q_null C dX10_alive_15 ?_
    exact q_aret C dX10_alive_16 rfl (Or.inl ⟨_, rfl⟩) (Or.inl rfl) (Nat.le_of_ble_eq_true rfl) (Nat.le_of_ble_eq_true rfl) ⟨rfl, rfl, rfl⟩
  · refine q_iload_n (j := 1) C dX10_alive_4 rfl ?_
    refine q_aload_n (j := 0) C dX10_alive_5 rfl ?_
    refine q_get (k := 0) (v := .ref md) C ck_11 dX10_alive_6 w1_90 (by decide) hL hE h0 ?_
    refine q_callV (d2 := 0) (mc2 := 0) (ms2 := 0) (As := []) (rest := [.int t]) C (c_al_size hLm hEm hm2) dX10_alive_9 kV_X10_21 rfl hLm hEm ck_0 rfl (Nat.le_of_ble_eq_true rfl) ⟨Nat.le_of_ble_eq_true rfl, Nat.le_of_ble_eq_true rfl⟩ ⟨Nat.le_of_ble_eq_true rfl, Nat.le_of_ble_eq_true rfl⟩ (fun vh1 Lh1 Eh1 h1 => ?_)
    obtain ⟨rfl, rfl, rfl⟩ := h1
    refine q_st (st2 := [.int 0, .int t]) rfl ?_
    refine q_icmp_lt (tgt := 17) C dX10_alive_12 (by decide) (fun z => absurd z (by have hz := c1; simp only [i32_lt, i32_le, i32_eq, inn_f, Decidable.not_not, tn_m1, tn_0, tn_1, tn_2, tn_3, tn_4, tn_5, tn_6, tn_7, tn_8, tn_10, tn_30, tn_31, tn_32, tn_36, tn_40, tn_50, tn_100, tn_126, tn_200, tn_255, tn_500, tn_512, tn_3000, tn_5000] at hz ⊢; omega)) (fun _ => ?_)
    refine q_null C dX10_alive_15 ?_
    exact q_aret C dX10_alive_16 rfl (Or.inl ⟨_, rfl⟩) (Or.inl rfl) (Nat.le_of_ble_eq_true rfl) (Nat.le_of_ble_eq_true rfl) ⟨rfl, rfl, rfl⟩
set_option maxHeartbeats 4000000 in
set_option maxRecDepth 100000 in
theorem c_whole0 {l : Launch} {G : GT} {L : List Nat} {E : Nat → va_E} (t : Int32) {a md ch : Nat} {f g gc : Nat → Value} (hL : a ∈ L) (hE : E a = ob 11 2 f) (h0 : f 0 = .ref md) (h1 : f 1 = .ref ch) (hLm : md ∈ L) (hEm : E md = ob 0 3 g) (hm2 : g 2 = .int 0) (hLc : ch ∈ L) (hEc : E ch = ob 0 3 gc) (hc2 : gc 2 = .int 0) : Mq l G yX10_whole cX10_whole 3 (some (.object "DotPress$Table")) 2 [.ref a, .int t] L E 0 0 (fun v L2 E2 => v = some (.null) ∧ L2 = L ∧ E2 = E) := by
  refine Mq.mk (by decide) (Nat.le_of_ble_eq_true rfl) ?_
  intro p e s m args below meth c A C
  refine q_aload_n (j := 0) C dX10_whole_0 rfl ?_
  refine q_iload_n (j := 1) C dX10_whole_1 rfl ?_
  refine q_callV (d2 := 1) (mc2 := 0) (ms2 := 0) (As := [.int t]) (rest := []) C (c_alive0 t hL hE h0 h1 hLm hEm hm2 hLc hEc hc2) dX10_whole_2 kV_X10_35 rfl hL hE ck_11 rfl (Nat.le_of_ble_eq_true rfl) ⟨Nat.le_of_ble_eq_true rfl, Nat.le_of_ble_eq_true rfl⟩ ⟨Nat.le_of_ble_eq_true rfl, Nat.le_of_ble_eq_true rfl⟩ (fun vh1 Lh1 Eh1 h1 => ?_)
  obtain ⟨rfl, rfl, rfl⟩ := h1
  refine q_st (st2 := [.null]) rfl ?_
  refine q_astore_nN (lv2 := [(2, .null), (0, .ref a), (1, .int t)]) C dX10_whole_5 (by decide) rfl ?_
  refine q_aload_nN (j := 0) C dX10_whole_6 rfl ?_
  refine q_ifnullN (tgt := 21) C dX10_whole_7 (by decide) ?_
  refine q_null C dX10_whole_21 ?_
  exact q_aret C dX10_whole_22 rfl (Or.inl ⟨_, rfl⟩) (Or.inl rfl) (Nat.le_of_ble_eq_true rfl) (Nat.le_of_ble_eq_true rfl) ⟨rfl, rfl, rfl⟩
set_option maxHeartbeats 4000000 in
set_option maxRecDepth 100000 in
theorem c_full0 {l : Launch} {G : GT} {L : List Nat} {E : Nat → va_E} {a md ch : Nat} {f g gc : Nat → Value} (hL : a ∈ L) (hE : E a = ob 11 2 f) (h0 : f 0 = .ref md) (h1 : f 1 = .ref ch) (hLm : md ∈ L) (hEm : E md = ob 0 3 g) (hm2 : g 2 = .int 0) (hLc : ch ∈ L) (hEc : E ch = ob 0 3 gc) (hc2 : gc 2 = .int 0) : Mq l G yX10_isFull cX10_isFull 1 (some .boolean) 1 [.ref a] L E 0 0 (fun v L2 E2 => v = some (.int 0) ∧ L2 = L ∧ E2 = E) := by
  refine Mq.mk (by decide) (Nat.le_of_ble_eq_true rfl) ?_
  intro p e s m args below meth c A C
  refine q_aload_n (j := 0) C dX10_isFull_0 rfl ?_
  refine q_get (k := 0) (v := .ref md) C ck_11 dX10_isFull_1 w1_90 (by decide) hL hE h0 ?_
  refine q_callV (d2 := 0) (mc2 := 0) (ms2 := 0) (As := []) (rest := []) C (c_al_size hLm hEm hm2) dX10_isFull_4 kV_X10_21 rfl hLm hEm ck_0 rfl (Nat.le_of_ble_eq_true rfl) ⟨Nat.le_of_ble_eq_true rfl, Nat.le_of_ble_eq_true rfl⟩ ⟨Nat.le_of_ble_eq_true rfl, Nat.le_of_ble_eq_true rfl⟩ (fun vh1 Lh1 Eh1 h1 => ?_)
  obtain ⟨rfl, rfl, rfl⟩ := h1
  refine q_st (st2 := [.int 0]) rfl ?_
  refine q_bipush (v := 30) C dX10_isFull_7 (by decide) ?_
  refine q_icmp_lt (tgt := 16) C dX10_isFull_9 (by decide) (fun _ => ?_) (fun z => absurd (by decide) z)
  refine q_iconst (v := 0) C dX10_isFull_16 (by decide) ?_
  exact q_zret C dX10_isFull_17 rfl (by decide) (Nat.le_of_ble_eq_true rfl) (Nat.le_of_ble_eq_true rfl) ⟨rfl, rfl, rfl⟩
set_option maxHeartbeats 4000000 in
set_option maxRecDepth 100000 in
theorem c_takeBack0 {l : Launch} {G : GT} {L : List Nat} {E : Nat → va_E} {a md ch : Nat} {f g gc : Nat → Value} (hL : a ∈ L) (hE : E a = ob 11 2 f) (h0 : f 0 = .ref md) (h1 : f 1 = .ref ch) (hLm : md ∈ L) (hEm : E md = ob 0 3 g) (hm2 : g 2 = .int 0) (hLc : ch ∈ L) (hEc : E ch = ob 0 3 gc) (hc2 : gc 2 = .int 0) : Mq l G yX10_takeBack cX10_takeBack 2 (some .boolean) 1 [.ref a] L E 0 0 (fun v L2 E2 => v = some (.int 0) ∧ L2 = L ∧ E2 = E) := by
  refine Mq.mk (by decide) (Nat.le_of_ble_eq_true rfl) ?_
  intro p e s m args below meth c A C
  refine q_aload_n (j := 0) C dX10_takeBack_0 rfl ?_
  refine q_get (k := 1) (v := .ref ch) C ck_11 dX10_takeBack_1 w1_91 (by decide) hL hE h1 ?_
  refine q_callV (d2 := 0) (mc2 := 0) (ms2 := 0) (As := []) (rest := []) C (c_al_empty hLc hEc hc2) dX10_takeBack_4 kV_X10_59 rfl hLc hEc ck_0 rfl (Nat.le_of_ble_eq_true rfl) ⟨Nat.le_of_ble_eq_true rfl, Nat.le_of_ble_eq_true rfl⟩ ⟨Nat.le_of_ble_eq_true rfl, Nat.le_of_ble_eq_true rfl⟩ (fun vh1 Lh1 Eh1 h1 => ?_)
  obtain ⟨rfl, rfl, rfl⟩ := h1
  refine q_st (st2 := [.int 1]) rfl ?_
  refine q_if_eq (tgt := 12) C dX10_takeBack_7 (by decide) (fun z => absurd z (by decide)) (fun _ => ?_)
  refine q_iconst (v := 0) C dX10_takeBack_10 (by decide) ?_
  exact q_zret C dX10_takeBack_11 rfl (by decide) (Nat.le_of_ble_eq_true rfl) (Nat.le_of_ble_eq_true rfl) ⟨rfl, rfl, rfl⟩
set_option maxHeartbeats 4000000 in
set_option maxRecDepth 100000 in
theorem c_sat0 {l : Launch} {G : GT} {L : List Nat} {E : Nat → va_E} (t : Int32) {a : Nat} {f : Nat → Value} (hL : a ∈ L) (hE : E a = ob 8 3 f) (h1 : f 1 = .int 0) : Mq l G yX7_at cX7_at 2 (some (.object "DotPress$Line")) 0 [.ref a, .int t] L E 0 0 (fun v L2 E2 => v = some (.null) ∧ L2 = L ∧ E2 = E) := by
  refine Mq.mk (by decide) (Nat.le_of_ble_eq_true rfl) ?_
  intro p e s m args below meth c A C
  refine q_iload_n (j := 1) C dX7_at_0 rfl ?_
  refine q_if_lt (tgt := 21) C dX7_at_1 (by decide) (fun c1 => ?_) (fun c1 => ?_)
  · refine q_null C dX7_at_21 ?_
    exact q_aret C dX7_at_22 rfl (Or.inl ⟨_, rfl⟩) (Or.inl rfl) (Nat.le_of_ble_eq_true rfl) (Nat.le_of_ble_eq_true rfl) ⟨rfl, rfl, rfl⟩
  · refine q_iload_n (j := 1) C dX7_at_4 rfl ?_
    refine q_aload_n (j := 0) C dX7_at_5 rfl ?_
    refine q_get (k := 1) (v := .int 0) C ck_8 dX7_at_6 w2_34 (by decide) hL hE h1 ?_
    refine q_icmp_ge (tgt := 21) C dX7_at_9 (by decide) (fun _ => ?_) (fun z => absurd (by have hz := c1; simp only [i32_lt, i32_le, i32_eq, inn_f, Decidable.not_not, tn_m1, tn_0, tn_1, tn_2, tn_3, tn_4, tn_5, tn_6, tn_7, tn_8, tn_10, tn_30, tn_31, tn_32, tn_36, tn_40, tn_50, tn_100, tn_126, tn_200, tn_255, tn_500, tn_512, tn_3000, tn_5000] at hz ⊢; omega) z)
    refine q_null C dX7_at_21 ?_
    exact q_aret C dX7_at_22 rfl (Or.inl ⟨_, rfl⟩) (Or.inl rfl) (Nat.le_of_ble_eq_true rfl) (Nat.le_of_ble_eq_true rfl) ⟨rfl, rfl, rfl⟩
set_option maxHeartbeats 4000000 in
set_option maxRecDepth 100000 in
theorem c_present0 {l : Launch} {G : GT} {L : List Nat} {E : Nat → va_E} (t : Int32) {a : Nat} {f : Nat → Value} (hL : a ∈ L) (hE : E a = ob 8 3 f) (h1 : f 1 = .int 0) : Mq l G yX7_present cX7_present 3 (some (.object "DotPress$Line")) 1 [.ref a, .int t] L E 0 0 (fun v L2 E2 => v = some (.null) ∧ L2 = L ∧ E2 = E) := by
  refine Mq.mk (by decide) (Nat.le_of_ble_eq_true rfl) ?_
  intro p e s m args below meth c A C
  refine q_aload_n (j := 0) C dX7_present_0 rfl ?_
  refine q_iload_n (j := 1) C dX7_present_1 rfl ?_
  refine q_callV (d2 := 0) (mc2 := 0) (ms2 := 0) (As := [.int t]) (rest := []) C (c_sat0 t hL hE h1) dX7_present_2 kV_X7_24 rfl hL hE ck_8 rfl (Nat.le_of_ble_eq_true rfl) ⟨Nat.le_of_ble_eq_true rfl, Nat.le_of_ble_eq_true rfl⟩ ⟨Nat.le_of_ble_eq_true rfl, Nat.le_of_ble_eq_true rfl⟩ (fun vh1 Lh1 Eh1 h1 => ?_)
  obtain ⟨rfl, rfl, rfl⟩ := h1
  refine q_st (st2 := [.null]) rfl ?_
  refine q_astore_nN (lv2 := [(2, .null), (0, .ref a), (1, .int t)]) C dX7_present_5 (by decide) rfl ?_
  refine q_aload_nN (j := 0) C dX7_present_6 rfl ?_
  refine q_ifnullN (tgt := 17) C dX7_present_7 (by decide) ?_
  refine q_null C dX7_present_17 ?_
  refine q_goto (tgt := 22) C dX7_present_18 (by decide) ?_
  exact q_aret C dX7_present_22 rfl (Or.inl ⟨_, rfl⟩) (Or.inl rfl) (Nat.le_of_ble_eq_true rfl) (Nat.le_of_ble_eq_true rfl) ⟨rfl, rfl, rfl⟩
set_option maxHeartbeats 4000000 in
set_option maxRecDepth 100000 in
theorem c_whyNone0 {l : Launch} {G : GT} {L : List Nat} {E : Nat → va_E} (t : Int32) {a : Nat} {f : Nat → Value} (hL : a ∈ L) (hE : E a = ob 8 3 f) (h1 : f 1 = .int 0) : Mq l G yX7_whyNone cX7_whyNone 2 (some .int) 1 [.ref a, .int t] L E 0 0 (fun v L2 E2 => v = some (.int 2) ∧ L2 = L ∧ E2 = E) := by
  refine Mq.mk (by decide) (Nat.le_of_ble_eq_true rfl) ?_
  intro p e s m args below meth c A C
  refine q_aload_n (j := 0) C dX7_whyNone_0 rfl ?_
  refine q_iload_n (j := 1) C dX7_whyNone_1 rfl ?_
  refine q_callV (d2 := 0) (mc2 := 0) (ms2 := 0) (As := [.int t]) (rest := []) C (c_sat0 t hL hE h1) dX7_whyNone_2 kV_X7_24 rfl hL hE ck_8 rfl (Nat.le_of_ble_eq_true rfl) ⟨Nat.le_of_ble_eq_true rfl, Nat.le_of_ble_eq_true rfl⟩ ⟨Nat.le_of_ble_eq_true rfl, Nat.le_of_ble_eq_true rfl⟩ (fun vh1 Lh1 Eh1 h1 => ?_)
  obtain ⟨rfl, rfl, rfl⟩ := h1
  refine q_st (st2 := [.null]) rfl ?_
  refine q_ifnonnullN C dX7_whyNone_5 ?_
  refine q_iconst (v := 2) C dX7_whyNone_8 (by decide) ?_
  refine q_goto (tgt := 13) C dX7_whyNone_9 (by decide) ?_
  exact q_iret C dX7_whyNone_13 rfl (Nat.le_of_ble_eq_true rfl) (Nat.le_of_ble_eq_true rfl) ⟨rfl, rfl, rfl⟩
set_option maxHeartbeats 4000000 in
set_option maxRecDepth 100000 in
theorem c_goOver0 {l : Launch} {G : GT} {L : List Nat} {E : Nat → va_E} (t : Int32) {a : Nat} {f : Nat → Value} (hL : a ∈ L) (hE : E a = ob 8 3 f) (h1 : f 1 = .int 0) : Mq l G yX7_goOver cX7_goOver 6 (some .int) 0 [.ref a, .int t] L E 0 0 (fun v L2 E2 => v = some (.int t) ∧ L2 = L ∧ E2 = E) := by
  refine Mq.mk (by decide) (Nat.le_of_ble_eq_true rfl) ?_
  intro p e s m args below meth c A C
  refine q_iload_n (j := 1) C dX7_goOver_0 rfl ?_
  refine q_istore_n (lv2 := [(2, .int t), (0, .ref a), (1, .int t)]) C dX7_goOver_1 (by decide) rfl ?_
  refine q_iconst (v := 0) C dX7_goOver_2 (by decide) ?_
  refine q_istore_n (lv2 := [(3, .int 0), (2, .int t), (0, .ref a), (1, .int t)]) C dX7_goOver_3 (by decide) rfl ?_
  refine q_iload_n (j := 0) C dX7_goOver_4 rfl ?_
  refine q_aload_n (j := 2) C dX7_goOver_5 rfl ?_
  refine q_get (k := 1) (v := .int 0) C ck_8 dX7_goOver_6 w2_34 (by decide) hL hE h1 ?_
  refine q_icmp_ge (tgt := 83) C dX7_goOver_9 (by decide) (fun _ => ?_) (fun z => absurd (by decide) z)
  refine q_iload_n (j := 1) C dX7_goOver_83 rfl ?_
  exact q_iret C dX7_goOver_84 rfl (Nat.le_of_ble_eq_true rfl) (Nat.le_of_ble_eq_true rfl) ⟨rfl, rfl, rfl⟩
set_option maxHeartbeats 4000000 in
set_option maxRecDepth 100000 in
theorem c_byteOf0 {l : Launch} {G : GT} {L : List Nat} {E : Nat → va_E} (k i : Int32) {a : Nat} {f : Nat → Value} (hL : a ∈ L) (hE : E a = ob 5 11 f) (h5 : f 5 = .int 0) : Mq l G yX4_byteOf cX4_byteOf 4 (some .int) 0 [.ref a, .int k, .int i] L E 0 0 (fun v L2 E2 => v = some (.int (-1)) ∧ L2 = L ∧ E2 = E) := by
  refine Mq.mk (by decide) (Nat.le_of_ble_eq_true rfl) ?_
  intro p e s m args below meth c A C
  refine q_iload_n (j := 1) C dX4_byteOf_0 rfl ?_
  refine q_if_lt (tgt := 12) C dX4_byteOf_1 (by decide) (fun c1 => ?_) (fun c1 => ?_)
  · refine q_iconst (v := (-1)) C dX4_byteOf_12 (by decide) ?_
    exact q_iret C dX4_byteOf_13 rfl (Nat.le_of_ble_eq_true rfl) (Nat.le_of_ble_eq_true rfl) ⟨rfl, rfl, rfl⟩
  · refine q_iload_n (j := 1) C dX4_byteOf_4 rfl ?_
    refine q_aload_n (j := 0) C dX4_byteOf_5 rfl ?_
    refine q_get (k := 5) (v := .int 0) C ck_5 dX4_byteOf_6 w1_234 (by decide) hL hE h5 ?_
    refine q_icmp_lt (tgt := 14) C dX4_byteOf_9 (by decide) (fun z => absurd z (by have hz := c1; simp only [i32_lt, i32_le, i32_eq, inn_f, Decidable.not_not, tn_m1, tn_0, tn_1, tn_2, tn_3, tn_4, tn_5, tn_6, tn_7, tn_8, tn_10, tn_30, tn_31, tn_32, tn_36, tn_40, tn_50, tn_100, tn_126, tn_200, tn_255, tn_500, tn_512, tn_3000, tn_5000] at hz ⊢; omega)) (fun _ => ?_)
    refine q_iconst (v := (-1)) C dX4_byteOf_12 (by decide) ?_
    exact q_iret C dX4_byteOf_13 rfl (Nat.le_of_ble_eq_true rfl) (Nat.le_of_ble_eq_true rfl) ⟨rfl, rfl, rfl⟩
set_option maxHeartbeats 4000000 in
set_option maxRecDepth 100000 in
theorem c_iclear {l : Launch} {G : GT} {L : List Nat} {E : Nat → va_E} {a : Nat} {f : Nat → Value} (hL : a ∈ L) (hE : E a = ob 2 3 f) : Mq l G yX1_clear cX1_clear 1 none 0 [.ref a] L E 0 0 (fun v L2 E2 => v = none ∧ L2 = L ∧ E2 = va_up E a (ob 2 3 (va_up f 2 (.int 0)))) := by
  refine Mq.mk (by decide) (Nat.le_of_ble_eq_true rfl) ?_
  intro p e s m args below meth c A C
  refine q_aload_n (j := 0) C dX1_clear_0 rfl ?_
  refine q_iconst (v := 0) C dX1_clear_1 (by decide) ?_
  refine q_put (k := 2) C ck_2 dX1_clear_2 w1_43 (by decide) rfl hL hE rfl rfl ?_
  exact q_vret C dX1_clear_5 rfl (Nat.le_of_ble_eq_true rfl) (Nat.le_of_ble_eq_true rfl) ⟨rfl, rfl, rfl⟩
set_option maxHeartbeats 4000000 in
set_option maxRecDepth 100000 in
theorem c_ikeep0 {l : Launch} {G : GT} {L : List Nat} {E : Nat → va_E} (n : Int32) {a : Nat} {f : Nat → Value} (hn : n = 0) (hL : a ∈ L) (hE : E a = ob 2 3 f) (h2 : f 2 = .int 0) : Mq l G yX1_keep cX1_keep 2 none 1 [.ref a, .int n] L E 0 0 (fun v L2 E2 => v = none ∧ L2 = L ∧ E2 = va_up E a (ob 2 3 (va_up f 2 (.int 0)))) := by
  refine Mq.mk (by decide) (Nat.le_of_ble_eq_true rfl) ?_
  intro p e s m args below meth c A C
  refine q_aload_n (j := 0) C dX1_keep_0 rfl ?_
  refine q_iconst (v := 0) C dX1_keep_1 (by decide) ?_
  refine q_aload_n (j := 0) C dX1_keep_2 rfl ?_
  refine q_get (k := 2) (v := .int 0) C ck_2 dX1_keep_3 w1_43 (by decide) hL hE h2 ?_
  refine q_iload_n (j := 1) C dX1_keep_6 rfl ?_
  refine q_mmin (v := 0) C dX1_keep_7 w2_146 w2_129 w1_14 w2_130 ⟨Nat.le_of_ble_eq_true rfl, Nat.le_of_ble_eq_true rfl⟩ ⟨Nat.le_of_ble_eq_true rfl, Nat.le_of_ble_eq_true rfl⟩ (Nat.le_of_ble_eq_true rfl) (by rw [hn]; decide) ?_
  refine q_mmax (v := 0) C dX1_keep_10 w2_147 w2_148 w1_14 w2_149 ⟨Nat.le_of_ble_eq_true rfl, Nat.le_of_ble_eq_true rfl⟩ ⟨Nat.le_of_ble_eq_true rfl, Nat.le_of_ble_eq_true rfl⟩ (Nat.le_of_ble_eq_true rfl) (by decide) ?_
  refine q_put (k := 2) C ck_2 dX1_keep_13 w1_43 (by decide) rfl hL hE rfl rfl ?_
  exact q_vret C dX1_keep_16 rfl (Nat.le_of_ble_eq_true rfl) (Nat.le_of_ble_eq_true rfl) ⟨rfl, rfl, rfl⟩
set_option maxHeartbeats 4000000 in
set_option maxRecDepth 100000 in
theorem c_within0 {l : Launch} {G : GT} {L : List Nat} {E : Nat → va_E} (lo hi : Int32) {a : Nat} {f : Nat → Value} (hL : a ∈ L) (hE : E a = ob 2 3 f) : Mq l G yX1_isWithin cX1_isWithin 6 (some .boolean) 0 [.ref a, .int 0, .int 0, .int lo, .int hi] L E 0 0 (fun v L2 E2 => v = some (.int 1) ∧ L2 = L ∧ E2 = E) := by
  refine Mq.mk (by decide) (Nat.le_of_ble_eq_true rfl) ?_
  intro p e s m args below meth c A C
  refine q_iload_n (j := 1) C dX1_isWithin_0 rfl ?_
  refine q_istore (lv2 := [(5, .int 0), (0, .ref a), (1, .int 0), (2, .int 0), (3, .int lo), (4, .int hi)]) C dX1_isWithin_1 (by decide) rfl ?_
  refine q_iload (j := 0) C dX1_isWithin_3 rfl ?_
  refine q_iload_n (j := 3) C dX1_isWithin_5 rfl ?_
  refine q_icmp_ge (tgt := 38) C dX1_isWithin_6 (by decide) (fun _ => ?_) (fun z => absurd (by decide) z)
  refine q_iconst (v := 1) C dX1_isWithin_38 (by decide) ?_
  exact q_zret C dX1_isWithin_39 rfl (by decide) (Nat.le_of_ble_eq_true rfl) (Nat.le_of_ble_eq_true rfl) ⟨rfl, rfl, rfl⟩
set_option maxHeartbeats 4000000 in
set_option maxRecDepth 100000 in
theorem c_addAll0 {l : Launch} {G : GT} {L : List Nat} {E : Nat → va_E} {a b : Nat} {f g : Nat → Value} (hL : a ∈ L) (hE : E a = ob 2 3 f) (hLb : b ∈ L) (hEb : E b = ob 2 3 g) (h2 : g 2 = .int 0) : Mq l G yX1_addAll cX1_addAll 3 none 0 [.ref a, .ref b] L E 0 0 (fun v L2 E2 => v = none ∧ L2 = L ∧ E2 = E) := by
  refine Mq.mk (by decide) (Nat.le_of_ble_eq_true rfl) ?_
  intro p e s m args below meth c A C
  refine q_iconst (v := 0) C dX1_addAll_0 (by decide) ?_
  refine q_istore_n (lv2 := [(2, .int 0), (0, .ref a), (1, .ref b)]) C dX1_addAll_1 (by decide) rfl ?_
  refine q_iload_n (j := 0) C dX1_addAll_2 rfl ?_
  refine q_aload_n (j := 2) C dX1_addAll_3 rfl ?_
  refine q_get (k := 2) (v := .int 0) C ck_2 dX1_addAll_4 w1_43 (by decide) hLb hEb h2 ?_
  refine q_icmp_ge (tgt := 26) C dX1_addAll_7 (by decide) (fun _ => ?_) (fun z => absurd (by decide) z)
  exact q_vret C dX1_addAll_26 rfl (Nat.le_of_ble_eq_true rfl) (Nat.le_of_ble_eq_true rfl) ⟨rfl, rfl, rfl⟩
set_option maxHeartbeats 4000000 in
set_option maxRecDepth 100000 in
theorem c_sclear {l : Launch} {G : GT} {L : List Nat} {E : Nat → va_E} {a : Nat} {f : Nat → Value} (hL : a ∈ L) (hE : E a = ob 7 12 f) : Mq l G yX6_clear cX6_clear 1 none 0 [.ref a] L E 0 0 (fun v L2 E2 => v = none ∧ L2 = L ∧ E2 = va_up E a (ob 7 12 (va_up (va_up f 4 (.int 0)) 5 (.int 0)))) := by
  refine Mq.mk (by decide) (Nat.le_of_ble_eq_true rfl) ?_
  intro p e s m args below meth c A C
  refine q_aload_n (j := 0) C dX6_clear_0 rfl ?_
  refine q_iconst (v := 0) C dX6_clear_1 (by decide) ?_
  refine q_put (k := 4) C ck_7 dX6_clear_2 w1_140 (by decide) rfl hL hE rfl rfl ?_
  refine q_aload_n (j := 0) C dX6_clear_5 rfl ?_
  refine q_iconst (v := 0) C dX6_clear_6 (by decide) ?_
  refine q_put (k := 5) C ck_7 dX6_clear_7 w1_143 (by decide) rfl hL (va_up_self _ _ _) (by decide) rfl ?_
  exact q_vret C dX6_clear_10 rfl (Nat.le_of_ble_eq_true rfl) (Nat.le_of_ble_eq_true rfl) ⟨rfl, rfl, bx_uu _ _ _ _⟩
set_option maxHeartbeats 4000000 in
set_option maxRecDepth 100000 in
theorem c_findsOf0 {l : Launch} {G : GT} {L : List Nat} {E : Nat → va_E} (k : Int32) {a fi : Nat} {f : Nat → Value} (hL : a ∈ L) (hE : E a = ob 7 12 f) (h8 : f 8 = .ref fi) (hLf : fi ∈ L) (hEf : E fi = aI G 5 (fun _ => 0)) : Mq l G yX6_findsOf cX6_findsOf 2 (some .int) 0 [.ref a, .int k] L E 0 0 (fun v L2 E2 => v = some (.int 0) ∧ L2 = L ∧ E2 = E) := by
  refine Mq.mk (by decide) (Nat.le_of_ble_eq_true rfl) ?_
  intro p e s m args below meth c A C
  refine q_iload_n (j := 1) C dX6_findsOf_0 rfl ?_
  refine q_if_lt (tgt := 22) C dX6_findsOf_1 (by decide) (fun c1 => ?_) (fun c1 => ?_)
  · refine q_iconst (v := 0) C dX6_findsOf_22 (by decide) ?_
    exact q_iret C dX6_findsOf_23 rfl (Nat.le_of_ble_eq_true rfl) (Nat.le_of_ble_eq_true rfl) ⟨rfl, rfl, rfl⟩
  · refine q_iload_n (j := 1) C dX6_findsOf_4 rfl ?_
    refine q_aload_n (j := 0) C dX6_findsOf_5 rfl ?_
    refine q_get (k := 8) (v := .ref fi) C ck_7 dX6_findsOf_6 w1_150 (by decide) hL hE h8 ?_
    refine q_alenI (v := 5) C dX6_findsOf_9 hLf hEf rfl ?_
    refine q_icmp_ge (tgt := 22) C dX6_findsOf_10 (by decide) (fun c2 => ?_) (fun c2 => ?_)
    · refine q_iconst (v := 0) C dX6_findsOf_22 (by decide) ?_
      exact q_iret C dX6_findsOf_23 rfl (Nat.le_of_ble_eq_true rfl) (Nat.le_of_ble_eq_true rfl) ⟨rfl, rfl, rfl⟩
    · refine q_aload_n (j := 0) C dX6_findsOf_13 rfl ?_
      refine q_get (k := 8) (v := .ref fi) C ck_7 dX6_findsOf_14 w1_150 (by decide) hL hE h8 ?_
      refine q_iload_n (j := 1) C dX6_findsOf_17 rfl ?_
      refine q_iald (v := 0) C dX6_findsOf_18 hLf hEf (by rw [vp_in_iff]; have h1 := c1; have h2 := c2; simp only [i32_lt, i32_le, i32_eq, inn_f, Decidable.not_not, tn_m1, tn_0, tn_1, tn_2, tn_3, tn_4, tn_5, tn_6, tn_7, tn_8, tn_10, tn_30, tn_31, tn_32, tn_36, tn_40, tn_50, tn_100, tn_126, tn_200, tn_255, tn_500, tn_512, tn_3000, tn_5000] at h1 h2; omega) rfl ?_
      refine q_goto (tgt := 23) C dX6_findsOf_19 (by decide) ?_
      exact q_iret C dX6_findsOf_23 rfl (Nat.le_of_ble_eq_true rfl) (Nat.le_of_ble_eq_true rfl) ⟨rfl, rfl, rfl⟩
def bc (x : Int32) : Int32 := ((((((((x - (((Int32.toUInt32 x >>> (Int32.toUInt32 (1 : Int32) &&& Int32.toUInt32 31)).toInt32) &&& (1431655765 : Int32))) &&& (858993459 : Int32)) + (((Int32.toUInt32 (x - (((Int32.toUInt32 x >>> (Int32.toUInt32 (1 : Int32) &&& Int32.toUInt32 31)).toInt32) &&& (1431655765 : Int32))) >>> (Int32.toUInt32 (2 : Int32) &&& Int32.toUInt32 31)).toInt32) &&& (858993459 : Int32))) + ((Int32.toUInt32 (((x - (((Int32.toUInt32 x >>> (Int32.toUInt32 (1 : Int32) &&& Int32.toUInt32 31)).toInt32) &&& (1431655765 : Int32))) &&& (858993459 : Int32)) + (((Int32.toUInt32 (x - (((Int32.toUInt32 x >>> (Int32.toUInt32 (1 : Int32) &&& Int32.toUInt32 31)).toInt32) &&& (1431655765 : Int32))) >>> (Int32.toUInt32 (2 : Int32) &&& Int32.toUInt32 31)).toInt32) &&& (858993459 : Int32))) >>> (Int32.toUInt32 (4 : Int32) &&& Int32.toUInt32 31)).toInt32)) &&& (252645135 : Int32)) + ((Int32.toUInt32 (((((x - (((Int32.toUInt32 x >>> (Int32.toUInt32 (1 : Int32) &&& Int32.toUInt32 31)).toInt32) &&& (1431655765 : Int32))) &&& (858993459 : Int32)) + (((Int32.toUInt32 (x - (((Int32.toUInt32 x >>> (Int32.toUInt32 (1 : Int32) &&& Int32.toUInt32 31)).toInt32) &&& (1431655765 : Int32))) >>> (Int32.toUInt32 (2 : Int32) &&& Int32.toUInt32 31)).toInt32) &&& (858993459 : Int32))) + ((Int32.toUInt32 (((x - (((Int32.toUInt32 x >>> (Int32.toUInt32 (1 : Int32) &&& Int32.toUInt32 31)).toInt32) &&& (1431655765 : Int32))) &&& (858993459 : Int32)) + (((Int32.toUInt32 (x - (((Int32.toUInt32 x >>> (Int32.toUInt32 (1 : Int32) &&& Int32.toUInt32 31)).toInt32) &&& (1431655765 : Int32))) >>> (Int32.toUInt32 (2 : Int32) &&& Int32.toUInt32 31)).toInt32) &&& (858993459 : Int32))) >>> (Int32.toUInt32 (4 : Int32) &&& Int32.toUInt32 31)).toInt32)) &&& (252645135 : Int32)) >>> (Int32.toUInt32 (8 : Int32) &&& Int32.toUInt32 31)).toInt32)) + ((Int32.toUInt32 ((((((x - (((Int32.toUInt32 x >>> (Int32.toUInt32 (1 : Int32) &&& Int32.toUInt32 31)).toInt32) &&& (1431655765 : Int32))) &&& (858993459 : Int32)) + (((Int32.toUInt32 (x - (((Int32.toUInt32 x >>> (Int32.toUInt32 (1 : Int32) &&& Int32.toUInt32 31)).toInt32) &&& (1431655765 : Int32))) >>> (Int32.toUInt32 (2 : Int32) &&& Int32.toUInt32 31)).toInt32) &&& (858993459 : Int32))) + ((Int32.toUInt32 (((x - (((Int32.toUInt32 x >>> (Int32.toUInt32 (1 : Int32) &&& Int32.toUInt32 31)).toInt32) &&& (1431655765 : Int32))) &&& (858993459 : Int32)) + (((Int32.toUInt32 (x - (((Int32.toUInt32 x >>> (Int32.toUInt32 (1 : Int32) &&& Int32.toUInt32 31)).toInt32) &&& (1431655765 : Int32))) >>> (Int32.toUInt32 (2 : Int32) &&& Int32.toUInt32 31)).toInt32) &&& (858993459 : Int32))) >>> (Int32.toUInt32 (4 : Int32) &&& Int32.toUInt32 31)).toInt32)) &&& (252645135 : Int32)) + ((Int32.toUInt32 (((((x - (((Int32.toUInt32 x >>> (Int32.toUInt32 (1 : Int32) &&& Int32.toUInt32 31)).toInt32) &&& (1431655765 : Int32))) &&& (858993459 : Int32)) + (((Int32.toUInt32 (x - (((Int32.toUInt32 x >>> (Int32.toUInt32 (1 : Int32) &&& Int32.toUInt32 31)).toInt32) &&& (1431655765 : Int32))) >>> (Int32.toUInt32 (2 : Int32) &&& Int32.toUInt32 31)).toInt32) &&& (858993459 : Int32))) + ((Int32.toUInt32 (((x - (((Int32.toUInt32 x >>> (Int32.toUInt32 (1 : Int32) &&& Int32.toUInt32 31)).toInt32) &&& (1431655765 : Int32))) &&& (858993459 : Int32)) + (((Int32.toUInt32 (x - (((Int32.toUInt32 x >>> (Int32.toUInt32 (1 : Int32) &&& Int32.toUInt32 31)).toInt32) &&& (1431655765 : Int32))) >>> (Int32.toUInt32 (2 : Int32) &&& Int32.toUInt32 31)).toInt32) &&& (858993459 : Int32))) >>> (Int32.toUInt32 (4 : Int32) &&& Int32.toUInt32 31)).toInt32)) &&& (252645135 : Int32)) >>> (Int32.toUInt32 (8 : Int32) &&& Int32.toUInt32 31)).toInt32)) >>> (Int32.toUInt32 (16 : Int32) &&& Int32.toUInt32 31)).toInt32)) &&& (63 : Int32))
set_option maxHeartbeats 4000000 in
set_option maxRecDepth 100000 in
theorem c_bitCount {l : Launch} {G : GT} {L : List Nat} {E : Nat → va_E} (x : Int32) : Mq l G yJ6_bitCount_0f7a4 cJ6_bitCount_0f7a4 1 (some .int) 0 [.int x] L E 0 0 (fun v L2 E2 => v = some (.int (bc x)) ∧ L2 = L ∧ E2 = E) := by
  refine Mq.mk (by decide) (Nat.le_of_ble_eq_true rfl) ?_
  intro p e s m args below meth c A C
  refine q_iload_n (j := 0) C dJ6_bitCount_0f7a4_0 rfl ?_
  refine q_iload_n (j := 0) C dJ6_bitCount_0f7a4_1 rfl ?_
  refine q_iconst (v := 1) C dJ6_bitCount_0f7a4_2 (by decide) ?_
  refine q_iushr (v := ((Int32.toUInt32 x >>> (Int32.toUInt32 (1 : Int32) &&& Int32.toUInt32 31)).toInt32)) C dJ6_bitCount_0f7a4_3 rfl ?_
  refine q_ldcw (v := 1431655765) C dJ6_bitCount_0f7a4_4 w5_17 ?_
  refine q_iand (v := (((Int32.toUInt32 x >>> (Int32.toUInt32 (1 : Int32) &&& Int32.toUInt32 31)).toInt32) &&& (1431655765 : Int32))) C dJ6_bitCount_0f7a4_7 rfl ?_
  refine q_isub (v := (x - (((Int32.toUInt32 x >>> (Int32.toUInt32 (1 : Int32) &&& Int32.toUInt32 31)).toInt32) &&& (1431655765 : Int32)))) C dJ6_bitCount_0f7a4_8 rfl ?_
  refine q_istore_n (lv2 := [(0, .int (x - (((Int32.toUInt32 x >>> (Int32.toUInt32 (1 : Int32) &&& Int32.toUInt32 31)).toInt32) &&& (1431655765 : Int32))))]) C dJ6_bitCount_0f7a4_9 (by decide) rfl ?_
  refine q_iload_n (j := 0) C dJ6_bitCount_0f7a4_10 rfl ?_
  refine q_ldcw (v := 858993459) C dJ6_bitCount_0f7a4_11 w5_18 ?_
  refine q_iand (v := ((x - (((Int32.toUInt32 x >>> (Int32.toUInt32 (1 : Int32) &&& Int32.toUInt32 31)).toInt32) &&& (1431655765 : Int32))) &&& (858993459 : Int32))) C dJ6_bitCount_0f7a4_14 rfl ?_
  refine q_iload_n (j := 0) C dJ6_bitCount_0f7a4_15 rfl ?_
  refine q_iconst (v := 2) C dJ6_bitCount_0f7a4_16 (by decide) ?_
  refine q_iushr (v := ((Int32.toUInt32 (x - (((Int32.toUInt32 x >>> (Int32.toUInt32 (1 : Int32) &&& Int32.toUInt32 31)).toInt32) &&& (1431655765 : Int32))) >>> (Int32.toUInt32 (2 : Int32) &&& Int32.toUInt32 31)).toInt32)) C dJ6_bitCount_0f7a4_17 rfl ?_
  refine q_ldcw (v := 858993459) C dJ6_bitCount_0f7a4_18 w5_18 ?_
  refine q_iand (v := (((Int32.toUInt32 (x - (((Int32.toUInt32 x >>> (Int32.toUInt32 (1 : Int32) &&& Int32.toUInt32 31)).toInt32) &&& (1431655765 : Int32))) >>> (Int32.toUInt32 (2 : Int32) &&& Int32.toUInt32 31)).toInt32) &&& (858993459 : Int32))) C dJ6_bitCount_0f7a4_21 rfl ?_
  refine q_iadd (v := (((x - (((Int32.toUInt32 x >>> (Int32.toUInt32 (1 : Int32) &&& Int32.toUInt32 31)).toInt32) &&& (1431655765 : Int32))) &&& (858993459 : Int32)) + (((Int32.toUInt32 (x - (((Int32.toUInt32 x >>> (Int32.toUInt32 (1 : Int32) &&& Int32.toUInt32 31)).toInt32) &&& (1431655765 : Int32))) >>> (Int32.toUInt32 (2 : Int32) &&& Int32.toUInt32 31)).toInt32) &&& (858993459 : Int32)))) C dJ6_bitCount_0f7a4_22 rfl ?_
  refine q_istore_n (lv2 := [(0, .int (((x - (((Int32.toUInt32 x >>> (Int32.toUInt32 (1 : Int32) &&& Int32.toUInt32 31)).toInt32) &&& (1431655765 : Int32))) &&& (858993459 : Int32)) + (((Int32.toUInt32 (x - (((Int32.toUInt32 x >>> (Int32.toUInt32 (1 : Int32) &&& Int32.toUInt32 31)).toInt32) &&& (1431655765 : Int32))) >>> (Int32.toUInt32 (2 : Int32) &&& Int32.toUInt32 31)).toInt32) &&& (858993459 : Int32))))]) C dJ6_bitCount_0f7a4_23 (by decide) rfl ?_
  refine q_iload_n (j := 0) C dJ6_bitCount_0f7a4_24 rfl ?_
  refine q_iload_n (j := 0) C dJ6_bitCount_0f7a4_25 rfl ?_
  refine q_iconst (v := 4) C dJ6_bitCount_0f7a4_26 (by decide) ?_
  refine q_iushr (v := ((Int32.toUInt32 (((x - (((Int32.toUInt32 x >>> (Int32.toUInt32 (1 : Int32) &&& Int32.toUInt32 31)).toInt32) &&& (1431655765 : Int32))) &&& (858993459 : Int32)) + (((Int32.toUInt32 (x - (((Int32.toUInt32 x >>> (Int32.toUInt32 (1 : Int32) &&& Int32.toUInt32 31)).toInt32) &&& (1431655765 : Int32))) >>> (Int32.toUInt32 (2 : Int32) &&& Int32.toUInt32 31)).toInt32) &&& (858993459 : Int32))) >>> (Int32.toUInt32 (4 : Int32) &&& Int32.toUInt32 31)).toInt32)) C dJ6_bitCount_0f7a4_27 rfl ?_
  refine q_iadd (v := ((((x - (((Int32.toUInt32 x >>> (Int32.toUInt32 (1 : Int32) &&& Int32.toUInt32 31)).toInt32) &&& (1431655765 : Int32))) &&& (858993459 : Int32)) + (((Int32.toUInt32 (x - (((Int32.toUInt32 x >>> (Int32.toUInt32 (1 : Int32) &&& Int32.toUInt32 31)).toInt32) &&& (1431655765 : Int32))) >>> (Int32.toUInt32 (2 : Int32) &&& Int32.toUInt32 31)).toInt32) &&& (858993459 : Int32))) + ((Int32.toUInt32 (((x - (((Int32.toUInt32 x >>> (Int32.toUInt32 (1 : Int32) &&& Int32.toUInt32 31)).toInt32) &&& (1431655765 : Int32))) &&& (858993459 : Int32)) + (((Int32.toUInt32 (x - (((Int32.toUInt32 x >>> (Int32.toUInt32 (1 : Int32) &&& Int32.toUInt32 31)).toInt32) &&& (1431655765 : Int32))) >>> (Int32.toUInt32 (2 : Int32) &&& Int32.toUInt32 31)).toInt32) &&& (858993459 : Int32))) >>> (Int32.toUInt32 (4 : Int32) &&& Int32.toUInt32 31)).toInt32))) C dJ6_bitCount_0f7a4_28 rfl ?_
  refine q_ldcw (v := 252645135) C dJ6_bitCount_0f7a4_29 w5_19 ?_
  refine q_iand (v := (((((x - (((Int32.toUInt32 x >>> (Int32.toUInt32 (1 : Int32) &&& Int32.toUInt32 31)).toInt32) &&& (1431655765 : Int32))) &&& (858993459 : Int32)) + (((Int32.toUInt32 (x - (((Int32.toUInt32 x >>> (Int32.toUInt32 (1 : Int32) &&& Int32.toUInt32 31)).toInt32) &&& (1431655765 : Int32))) >>> (Int32.toUInt32 (2 : Int32) &&& Int32.toUInt32 31)).toInt32) &&& (858993459 : Int32))) + ((Int32.toUInt32 (((x - (((Int32.toUInt32 x >>> (Int32.toUInt32 (1 : Int32) &&& Int32.toUInt32 31)).toInt32) &&& (1431655765 : Int32))) &&& (858993459 : Int32)) + (((Int32.toUInt32 (x - (((Int32.toUInt32 x >>> (Int32.toUInt32 (1 : Int32) &&& Int32.toUInt32 31)).toInt32) &&& (1431655765 : Int32))) >>> (Int32.toUInt32 (2 : Int32) &&& Int32.toUInt32 31)).toInt32) &&& (858993459 : Int32))) >>> (Int32.toUInt32 (4 : Int32) &&& Int32.toUInt32 31)).toInt32)) &&& (252645135 : Int32))) C dJ6_bitCount_0f7a4_32 rfl ?_
  refine q_istore_n (lv2 := [(0, .int (((((x - (((Int32.toUInt32 x >>> (Int32.toUInt32 (1 : Int32) &&& Int32.toUInt32 31)).toInt32) &&& (1431655765 : Int32))) &&& (858993459 : Int32)) + (((Int32.toUInt32 (x - (((Int32.toUInt32 x >>> (Int32.toUInt32 (1 : Int32) &&& Int32.toUInt32 31)).toInt32) &&& (1431655765 : Int32))) >>> (Int32.toUInt32 (2 : Int32) &&& Int32.toUInt32 31)).toInt32) &&& (858993459 : Int32))) + ((Int32.toUInt32 (((x - (((Int32.toUInt32 x >>> (Int32.toUInt32 (1 : Int32) &&& Int32.toUInt32 31)).toInt32) &&& (1431655765 : Int32))) &&& (858993459 : Int32)) + (((Int32.toUInt32 (x - (((Int32.toUInt32 x >>> (Int32.toUInt32 (1 : Int32) &&& Int32.toUInt32 31)).toInt32) &&& (1431655765 : Int32))) >>> (Int32.toUInt32 (2 : Int32) &&& Int32.toUInt32 31)).toInt32) &&& (858993459 : Int32))) >>> (Int32.toUInt32 (4 : Int32) &&& Int32.toUInt32 31)).toInt32)) &&& (252645135 : Int32)))]) C dJ6_bitCount_0f7a4_33 (by decide) rfl ?_
  refine q_iload_n (j := 0) C dJ6_bitCount_0f7a4_34 rfl ?_
  refine q_iload_n (j := 0) C dJ6_bitCount_0f7a4_35 rfl ?_
  refine q_bipush (v := 8) C dJ6_bitCount_0f7a4_36 (by decide) ?_
  refine q_iushr (v := ((Int32.toUInt32 (((((x - (((Int32.toUInt32 x >>> (Int32.toUInt32 (1 : Int32) &&& Int32.toUInt32 31)).toInt32) &&& (1431655765 : Int32))) &&& (858993459 : Int32)) + (((Int32.toUInt32 (x - (((Int32.toUInt32 x >>> (Int32.toUInt32 (1 : Int32) &&& Int32.toUInt32 31)).toInt32) &&& (1431655765 : Int32))) >>> (Int32.toUInt32 (2 : Int32) &&& Int32.toUInt32 31)).toInt32) &&& (858993459 : Int32))) + ((Int32.toUInt32 (((x - (((Int32.toUInt32 x >>> (Int32.toUInt32 (1 : Int32) &&& Int32.toUInt32 31)).toInt32) &&& (1431655765 : Int32))) &&& (858993459 : Int32)) + (((Int32.toUInt32 (x - (((Int32.toUInt32 x >>> (Int32.toUInt32 (1 : Int32) &&& Int32.toUInt32 31)).toInt32) &&& (1431655765 : Int32))) >>> (Int32.toUInt32 (2 : Int32) &&& Int32.toUInt32 31)).toInt32) &&& (858993459 : Int32))) >>> (Int32.toUInt32 (4 : Int32) &&& Int32.toUInt32 31)).toInt32)) &&& (252645135 : Int32)) >>> (Int32.toUInt32 (8 : Int32) &&& Int32.toUInt32 31)).toInt32)) C dJ6_bitCount_0f7a4_38 rfl ?_
  refine q_iadd (v := ((((((x - (((Int32.toUInt32 x >>> (Int32.toUInt32 (1 : Int32) &&& Int32.toUInt32 31)).toInt32) &&& (1431655765 : Int32))) &&& (858993459 : Int32)) + (((Int32.toUInt32 (x - (((Int32.toUInt32 x >>> (Int32.toUInt32 (1 : Int32) &&& Int32.toUInt32 31)).toInt32) &&& (1431655765 : Int32))) >>> (Int32.toUInt32 (2 : Int32) &&& Int32.toUInt32 31)).toInt32) &&& (858993459 : Int32))) + ((Int32.toUInt32 (((x - (((Int32.toUInt32 x >>> (Int32.toUInt32 (1 : Int32) &&& Int32.toUInt32 31)).toInt32) &&& (1431655765 : Int32))) &&& (858993459 : Int32)) + (((Int32.toUInt32 (x - (((Int32.toUInt32 x >>> (Int32.toUInt32 (1 : Int32) &&& Int32.toUInt32 31)).toInt32) &&& (1431655765 : Int32))) >>> (Int32.toUInt32 (2 : Int32) &&& Int32.toUInt32 31)).toInt32) &&& (858993459 : Int32))) >>> (Int32.toUInt32 (4 : Int32) &&& Int32.toUInt32 31)).toInt32)) &&& (252645135 : Int32)) + ((Int32.toUInt32 (((((x - (((Int32.toUInt32 x >>> (Int32.toUInt32 (1 : Int32) &&& Int32.toUInt32 31)).toInt32) &&& (1431655765 : Int32))) &&& (858993459 : Int32)) + (((Int32.toUInt32 (x - (((Int32.toUInt32 x >>> (Int32.toUInt32 (1 : Int32) &&& Int32.toUInt32 31)).toInt32) &&& (1431655765 : Int32))) >>> (Int32.toUInt32 (2 : Int32) &&& Int32.toUInt32 31)).toInt32) &&& (858993459 : Int32))) + ((Int32.toUInt32 (((x - (((Int32.toUInt32 x >>> (Int32.toUInt32 (1 : Int32) &&& Int32.toUInt32 31)).toInt32) &&& (1431655765 : Int32))) &&& (858993459 : Int32)) + (((Int32.toUInt32 (x - (((Int32.toUInt32 x >>> (Int32.toUInt32 (1 : Int32) &&& Int32.toUInt32 31)).toInt32) &&& (1431655765 : Int32))) >>> (Int32.toUInt32 (2 : Int32) &&& Int32.toUInt32 31)).toInt32) &&& (858993459 : Int32))) >>> (Int32.toUInt32 (4 : Int32) &&& Int32.toUInt32 31)).toInt32)) &&& (252645135 : Int32)) >>> (Int32.toUInt32 (8 : Int32) &&& Int32.toUInt32 31)).toInt32))) C dJ6_bitCount_0f7a4_39 rfl ?_
  refine q_istore_n (lv2 := [(0, .int ((((((x - (((Int32.toUInt32 x >>> (Int32.toUInt32 (1 : Int32) &&& Int32.toUInt32 31)).toInt32) &&& (1431655765 : Int32))) &&& (858993459 : Int32)) + (((Int32.toUInt32 (x - (((Int32.toUInt32 x >>> (Int32.toUInt32 (1 : Int32) &&& Int32.toUInt32 31)).toInt32) &&& (1431655765 : Int32))) >>> (Int32.toUInt32 (2 : Int32) &&& Int32.toUInt32 31)).toInt32) &&& (858993459 : Int32))) + ((Int32.toUInt32 (((x - (((Int32.toUInt32 x >>> (Int32.toUInt32 (1 : Int32) &&& Int32.toUInt32 31)).toInt32) &&& (1431655765 : Int32))) &&& (858993459 : Int32)) + (((Int32.toUInt32 (x - (((Int32.toUInt32 x >>> (Int32.toUInt32 (1 : Int32) &&& Int32.toUInt32 31)).toInt32) &&& (1431655765 : Int32))) >>> (Int32.toUInt32 (2 : Int32) &&& Int32.toUInt32 31)).toInt32) &&& (858993459 : Int32))) >>> (Int32.toUInt32 (4 : Int32) &&& Int32.toUInt32 31)).toInt32)) &&& (252645135 : Int32)) + ((Int32.toUInt32 (((((x - (((Int32.toUInt32 x >>> (Int32.toUInt32 (1 : Int32) &&& Int32.toUInt32 31)).toInt32) &&& (1431655765 : Int32))) &&& (858993459 : Int32)) + (((Int32.toUInt32 (x - (((Int32.toUInt32 x >>> (Int32.toUInt32 (1 : Int32) &&& Int32.toUInt32 31)).toInt32) &&& (1431655765 : Int32))) >>> (Int32.toUInt32 (2 : Int32) &&& Int32.toUInt32 31)).toInt32) &&& (858993459 : Int32))) + ((Int32.toUInt32 (((x - (((Int32.toUInt32 x >>> (Int32.toUInt32 (1 : Int32) &&& Int32.toUInt32 31)).toInt32) &&& (1431655765 : Int32))) &&& (858993459 : Int32)) + (((Int32.toUInt32 (x - (((Int32.toUInt32 x >>> (Int32.toUInt32 (1 : Int32) &&& Int32.toUInt32 31)).toInt32) &&& (1431655765 : Int32))) >>> (Int32.toUInt32 (2 : Int32) &&& Int32.toUInt32 31)).toInt32) &&& (858993459 : Int32))) >>> (Int32.toUInt32 (4 : Int32) &&& Int32.toUInt32 31)).toInt32)) &&& (252645135 : Int32)) >>> (Int32.toUInt32 (8 : Int32) &&& Int32.toUInt32 31)).toInt32)))]) C dJ6_bitCount_0f7a4_40 (by decide) rfl ?_
  refine q_iload_n (j := 0) C dJ6_bitCount_0f7a4_41 rfl ?_
  refine q_iload_n (j := 0) C dJ6_bitCount_0f7a4_42 rfl ?_
  refine q_bipush (v := 16) C dJ6_bitCount_0f7a4_43 (by decide) ?_
  refine q_iushr (v := ((Int32.toUInt32 ((((((x - (((Int32.toUInt32 x >>> (Int32.toUInt32 (1 : Int32) &&& Int32.toUInt32 31)).toInt32) &&& (1431655765 : Int32))) &&& (858993459 : Int32)) + (((Int32.toUInt32 (x - (((Int32.toUInt32 x >>> (Int32.toUInt32 (1 : Int32) &&& Int32.toUInt32 31)).toInt32) &&& (1431655765 : Int32))) >>> (Int32.toUInt32 (2 : Int32) &&& Int32.toUInt32 31)).toInt32) &&& (858993459 : Int32))) + ((Int32.toUInt32 (((x - (((Int32.toUInt32 x >>> (Int32.toUInt32 (1 : Int32) &&& Int32.toUInt32 31)).toInt32) &&& (1431655765 : Int32))) &&& (858993459 : Int32)) + (((Int32.toUInt32 (x - (((Int32.toUInt32 x >>> (Int32.toUInt32 (1 : Int32) &&& Int32.toUInt32 31)).toInt32) &&& (1431655765 : Int32))) >>> (Int32.toUInt32 (2 : Int32) &&& Int32.toUInt32 31)).toInt32) &&& (858993459 : Int32))) >>> (Int32.toUInt32 (4 : Int32) &&& Int32.toUInt32 31)).toInt32)) &&& (252645135 : Int32)) + ((Int32.toUInt32 (((((x - (((Int32.toUInt32 x >>> (Int32.toUInt32 (1 : Int32) &&& Int32.toUInt32 31)).toInt32) &&& (1431655765 : Int32))) &&& (858993459 : Int32)) + (((Int32.toUInt32 (x - (((Int32.toUInt32 x >>> (Int32.toUInt32 (1 : Int32) &&& Int32.toUInt32 31)).toInt32) &&& (1431655765 : Int32))) >>> (Int32.toUInt32 (2 : Int32) &&& Int32.toUInt32 31)).toInt32) &&& (858993459 : Int32))) + ((Int32.toUInt32 (((x - (((Int32.toUInt32 x >>> (Int32.toUInt32 (1 : Int32) &&& Int32.toUInt32 31)).toInt32) &&& (1431655765 : Int32))) &&& (858993459 : Int32)) + (((Int32.toUInt32 (x - (((Int32.toUInt32 x >>> (Int32.toUInt32 (1 : Int32) &&& Int32.toUInt32 31)).toInt32) &&& (1431655765 : Int32))) >>> (Int32.toUInt32 (2 : Int32) &&& Int32.toUInt32 31)).toInt32) &&& (858993459 : Int32))) >>> (Int32.toUInt32 (4 : Int32) &&& Int32.toUInt32 31)).toInt32)) &&& (252645135 : Int32)) >>> (Int32.toUInt32 (8 : Int32) &&& Int32.toUInt32 31)).toInt32)) >>> (Int32.toUInt32 (16 : Int32) &&& Int32.toUInt32 31)).toInt32)) C dJ6_bitCount_0f7a4_45 rfl ?_
  refine q_iadd (v := (((((((x - (((Int32.toUInt32 x >>> (Int32.toUInt32 (1 : Int32) &&& Int32.toUInt32 31)).toInt32) &&& (1431655765 : Int32))) &&& (858993459 : Int32)) + (((Int32.toUInt32 (x - (((Int32.toUInt32 x >>> (Int32.toUInt32 (1 : Int32) &&& Int32.toUInt32 31)).toInt32) &&& (1431655765 : Int32))) >>> (Int32.toUInt32 (2 : Int32) &&& Int32.toUInt32 31)).toInt32) &&& (858993459 : Int32))) + ((Int32.toUInt32 (((x - (((Int32.toUInt32 x >>> (Int32.toUInt32 (1 : Int32) &&& Int32.toUInt32 31)).toInt32) &&& (1431655765 : Int32))) &&& (858993459 : Int32)) + (((Int32.toUInt32 (x - (((Int32.toUInt32 x >>> (Int32.toUInt32 (1 : Int32) &&& Int32.toUInt32 31)).toInt32) &&& (1431655765 : Int32))) >>> (Int32.toUInt32 (2 : Int32) &&& Int32.toUInt32 31)).toInt32) &&& (858993459 : Int32))) >>> (Int32.toUInt32 (4 : Int32) &&& Int32.toUInt32 31)).toInt32)) &&& (252645135 : Int32)) + ((Int32.toUInt32 (((((x - (((Int32.toUInt32 x >>> (Int32.toUInt32 (1 : Int32) &&& Int32.toUInt32 31)).toInt32) &&& (1431655765 : Int32))) &&& (858993459 : Int32)) + (((Int32.toUInt32 (x - (((Int32.toUInt32 x >>> (Int32.toUInt32 (1 : Int32) &&& Int32.toUInt32 31)).toInt32) &&& (1431655765 : Int32))) >>> (Int32.toUInt32 (2 : Int32) &&& Int32.toUInt32 31)).toInt32) &&& (858993459 : Int32))) + ((Int32.toUInt32 (((x - (((Int32.toUInt32 x >>> (Int32.toUInt32 (1 : Int32) &&& Int32.toUInt32 31)).toInt32) &&& (1431655765 : Int32))) &&& (858993459 : Int32)) + (((Int32.toUInt32 (x - (((Int32.toUInt32 x >>> (Int32.toUInt32 (1 : Int32) &&& Int32.toUInt32 31)).toInt32) &&& (1431655765 : Int32))) >>> (Int32.toUInt32 (2 : Int32) &&& Int32.toUInt32 31)).toInt32) &&& (858993459 : Int32))) >>> (Int32.toUInt32 (4 : Int32) &&& Int32.toUInt32 31)).toInt32)) &&& (252645135 : Int32)) >>> (Int32.toUInt32 (8 : Int32) &&& Int32.toUInt32 31)).toInt32)) + ((Int32.toUInt32 ((((((x - (((Int32.toUInt32 x >>> (Int32.toUInt32 (1 : Int32) &&& Int32.toUInt32 31)).toInt32) &&& (1431655765 : Int32))) &&& (858993459 : Int32)) + (((Int32.toUInt32 (x - (((Int32.toUInt32 x >>> (Int32.toUInt32 (1 : Int32) &&& Int32.toUInt32 31)).toInt32) &&& (1431655765 : Int32))) >>> (Int32.toUInt32 (2 : Int32) &&& Int32.toUInt32 31)).toInt32) &&& (858993459 : Int32))) + ((Int32.toUInt32 (((x - (((Int32.toUInt32 x >>> (Int32.toUInt32 (1 : Int32) &&& Int32.toUInt32 31)).toInt32) &&& (1431655765 : Int32))) &&& (858993459 : Int32)) + (((Int32.toUInt32 (x - (((Int32.toUInt32 x >>> (Int32.toUInt32 (1 : Int32) &&& Int32.toUInt32 31)).toInt32) &&& (1431655765 : Int32))) >>> (Int32.toUInt32 (2 : Int32) &&& Int32.toUInt32 31)).toInt32) &&& (858993459 : Int32))) >>> (Int32.toUInt32 (4 : Int32) &&& Int32.toUInt32 31)).toInt32)) &&& (252645135 : Int32)) + ((Int32.toUInt32 (((((x - (((Int32.toUInt32 x >>> (Int32.toUInt32 (1 : Int32) &&& Int32.toUInt32 31)).toInt32) &&& (1431655765 : Int32))) &&& (858993459 : Int32)) + (((Int32.toUInt32 (x - (((Int32.toUInt32 x >>> (Int32.toUInt32 (1 : Int32) &&& Int32.toUInt32 31)).toInt32) &&& (1431655765 : Int32))) >>> (Int32.toUInt32 (2 : Int32) &&& Int32.toUInt32 31)).toInt32) &&& (858993459 : Int32))) + ((Int32.toUInt32 (((x - (((Int32.toUInt32 x >>> (Int32.toUInt32 (1 : Int32) &&& Int32.toUInt32 31)).toInt32) &&& (1431655765 : Int32))) &&& (858993459 : Int32)) + (((Int32.toUInt32 (x - (((Int32.toUInt32 x >>> (Int32.toUInt32 (1 : Int32) &&& Int32.toUInt32 31)).toInt32) &&& (1431655765 : Int32))) >>> (Int32.toUInt32 (2 : Int32) &&& Int32.toUInt32 31)).toInt32) &&& (858993459 : Int32))) >>> (Int32.toUInt32 (4 : Int32) &&& Int32.toUInt32 31)).toInt32)) &&& (252645135 : Int32)) >>> (Int32.toUInt32 (8 : Int32) &&& Int32.toUInt32 31)).toInt32)) >>> (Int32.toUInt32 (16 : Int32) &&& Int32.toUInt32 31)).toInt32))) C dJ6_bitCount_0f7a4_46 rfl ?_
  refine q_istore_n (lv2 := [(0, .int (((((((x - (((Int32.toUInt32 x >>> (Int32.toUInt32 (1 : Int32) &&& Int32.toUInt32 31)).toInt32) &&& (1431655765 : Int32))) &&& (858993459 : Int32)) + (((Int32.toUInt32 (x - (((Int32.toUInt32 x >>> (Int32.toUInt32 (1 : Int32) &&& Int32.toUInt32 31)).toInt32) &&& (1431655765 : Int32))) >>> (Int32.toUInt32 (2 : Int32) &&& Int32.toUInt32 31)).toInt32) &&& (858993459 : Int32))) + ((Int32.toUInt32 (((x - (((Int32.toUInt32 x >>> (Int32.toUInt32 (1 : Int32) &&& Int32.toUInt32 31)).toInt32) &&& (1431655765 : Int32))) &&& (858993459 : Int32)) + (((Int32.toUInt32 (x - (((Int32.toUInt32 x >>> (Int32.toUInt32 (1 : Int32) &&& Int32.toUInt32 31)).toInt32) &&& (1431655765 : Int32))) >>> (Int32.toUInt32 (2 : Int32) &&& Int32.toUInt32 31)).toInt32) &&& (858993459 : Int32))) >>> (Int32.toUInt32 (4 : Int32) &&& Int32.toUInt32 31)).toInt32)) &&& (252645135 : Int32)) + ((Int32.toUInt32 (((((x - (((Int32.toUInt32 x >>> (Int32.toUInt32 (1 : Int32) &&& Int32.toUInt32 31)).toInt32) &&& (1431655765 : Int32))) &&& (858993459 : Int32)) + (((Int32.toUInt32 (x - (((Int32.toUInt32 x >>> (Int32.toUInt32 (1 : Int32) &&& Int32.toUInt32 31)).toInt32) &&& (1431655765 : Int32))) >>> (Int32.toUInt32 (2 : Int32) &&& Int32.toUInt32 31)).toInt32) &&& (858993459 : Int32))) + ((Int32.toUInt32 (((x - (((Int32.toUInt32 x >>> (Int32.toUInt32 (1 : Int32) &&& Int32.toUInt32 31)).toInt32) &&& (1431655765 : Int32))) &&& (858993459 : Int32)) + (((Int32.toUInt32 (x - (((Int32.toUInt32 x >>> (Int32.toUInt32 (1 : Int32) &&& Int32.toUInt32 31)).toInt32) &&& (1431655765 : Int32))) >>> (Int32.toUInt32 (2 : Int32) &&& Int32.toUInt32 31)).toInt32) &&& (858993459 : Int32))) >>> (Int32.toUInt32 (4 : Int32) &&& Int32.toUInt32 31)).toInt32)) &&& (252645135 : Int32)) >>> (Int32.toUInt32 (8 : Int32) &&& Int32.toUInt32 31)).toInt32)) + ((Int32.toUInt32 ((((((x - (((Int32.toUInt32 x >>> (Int32.toUInt32 (1 : Int32) &&& Int32.toUInt32 31)).toInt32) &&& (1431655765 : Int32))) &&& (858993459 : Int32)) + (((Int32.toUInt32 (x - (((Int32.toUInt32 x >>> (Int32.toUInt32 (1 : Int32) &&& Int32.toUInt32 31)).toInt32) &&& (1431655765 : Int32))) >>> (Int32.toUInt32 (2 : Int32) &&& Int32.toUInt32 31)).toInt32) &&& (858993459 : Int32))) + ((Int32.toUInt32 (((x - (((Int32.toUInt32 x >>> (Int32.toUInt32 (1 : Int32) &&& Int32.toUInt32 31)).toInt32) &&& (1431655765 : Int32))) &&& (858993459 : Int32)) + (((Int32.toUInt32 (x - (((Int32.toUInt32 x >>> (Int32.toUInt32 (1 : Int32) &&& Int32.toUInt32 31)).toInt32) &&& (1431655765 : Int32))) >>> (Int32.toUInt32 (2 : Int32) &&& Int32.toUInt32 31)).toInt32) &&& (858993459 : Int32))) >>> (Int32.toUInt32 (4 : Int32) &&& Int32.toUInt32 31)).toInt32)) &&& (252645135 : Int32)) + ((Int32.toUInt32 (((((x - (((Int32.toUInt32 x >>> (Int32.toUInt32 (1 : Int32) &&& Int32.toUInt32 31)).toInt32) &&& (1431655765 : Int32))) &&& (858993459 : Int32)) + (((Int32.toUInt32 (x - (((Int32.toUInt32 x >>> (Int32.toUInt32 (1 : Int32) &&& Int32.toUInt32 31)).toInt32) &&& (1431655765 : Int32))) >>> (Int32.toUInt32 (2 : Int32) &&& Int32.toUInt32 31)).toInt32) &&& (858993459 : Int32))) + ((Int32.toUInt32 (((x - (((Int32.toUInt32 x >>> (Int32.toUInt32 (1 : Int32) &&& Int32.toUInt32 31)).toInt32) &&& (1431655765 : Int32))) &&& (858993459 : Int32)) + (((Int32.toUInt32 (x - (((Int32.toUInt32 x >>> (Int32.toUInt32 (1 : Int32) &&& Int32.toUInt32 31)).toInt32) &&& (1431655765 : Int32))) >>> (Int32.toUInt32 (2 : Int32) &&& Int32.toUInt32 31)).toInt32) &&& (858993459 : Int32))) >>> (Int32.toUInt32 (4 : Int32) &&& Int32.toUInt32 31)).toInt32)) &&& (252645135 : Int32)) >>> (Int32.toUInt32 (8 : Int32) &&& Int32.toUInt32 31)).toInt32)) >>> (Int32.toUInt32 (16 : Int32) &&& Int32.toUInt32 31)).toInt32)))]) C dJ6_bitCount_0f7a4_47 (by decide) rfl ?_
  refine q_iload_n (j := 0) C dJ6_bitCount_0f7a4_48 rfl ?_
  refine q_bipush (v := 63) C dJ6_bitCount_0f7a4_49 (by decide) ?_
  refine q_iand (v := ((((((((x - (((Int32.toUInt32 x >>> (Int32.toUInt32 (1 : Int32) &&& Int32.toUInt32 31)).toInt32) &&& (1431655765 : Int32))) &&& (858993459 : Int32)) + (((Int32.toUInt32 (x - (((Int32.toUInt32 x >>> (Int32.toUInt32 (1 : Int32) &&& Int32.toUInt32 31)).toInt32) &&& (1431655765 : Int32))) >>> (Int32.toUInt32 (2 : Int32) &&& Int32.toUInt32 31)).toInt32) &&& (858993459 : Int32))) + ((Int32.toUInt32 (((x - (((Int32.toUInt32 x >>> (Int32.toUInt32 (1 : Int32) &&& Int32.toUInt32 31)).toInt32) &&& (1431655765 : Int32))) &&& (858993459 : Int32)) + (((Int32.toUInt32 (x - (((Int32.toUInt32 x >>> (Int32.toUInt32 (1 : Int32) &&& Int32.toUInt32 31)).toInt32) &&& (1431655765 : Int32))) >>> (Int32.toUInt32 (2 : Int32) &&& Int32.toUInt32 31)).toInt32) &&& (858993459 : Int32))) >>> (Int32.toUInt32 (4 : Int32) &&& Int32.toUInt32 31)).toInt32)) &&& (252645135 : Int32)) + ((Int32.toUInt32 (((((x - (((Int32.toUInt32 x >>> (Int32.toUInt32 (1 : Int32) &&& Int32.toUInt32 31)).toInt32) &&& (1431655765 : Int32))) &&& (858993459 : Int32)) + (((Int32.toUInt32 (x - (((Int32.toUInt32 x >>> (Int32.toUInt32 (1 : Int32) &&& Int32.toUInt32 31)).toInt32) &&& (1431655765 : Int32))) >>> (Int32.toUInt32 (2 : Int32) &&& Int32.toUInt32 31)).toInt32) &&& (858993459 : Int32))) + ((Int32.toUInt32 (((x - (((Int32.toUInt32 x >>> (Int32.toUInt32 (1 : Int32) &&& Int32.toUInt32 31)).toInt32) &&& (1431655765 : Int32))) &&& (858993459 : Int32)) + (((Int32.toUInt32 (x - (((Int32.toUInt32 x >>> (Int32.toUInt32 (1 : Int32) &&& Int32.toUInt32 31)).toInt32) &&& (1431655765 : Int32))) >>> (Int32.toUInt32 (2 : Int32) &&& Int32.toUInt32 31)).toInt32) &&& (858993459 : Int32))) >>> (Int32.toUInt32 (4 : Int32) &&& Int32.toUInt32 31)).toInt32)) &&& (252645135 : Int32)) >>> (Int32.toUInt32 (8 : Int32) &&& Int32.toUInt32 31)).toInt32)) + ((Int32.toUInt32 ((((((x - (((Int32.toUInt32 x >>> (Int32.toUInt32 (1 : Int32) &&& Int32.toUInt32 31)).toInt32) &&& (1431655765 : Int32))) &&& (858993459 : Int32)) + (((Int32.toUInt32 (x - (((Int32.toUInt32 x >>> (Int32.toUInt32 (1 : Int32) &&& Int32.toUInt32 31)).toInt32) &&& (1431655765 : Int32))) >>> (Int32.toUInt32 (2 : Int32) &&& Int32.toUInt32 31)).toInt32) &&& (858993459 : Int32))) + ((Int32.toUInt32 (((x - (((Int32.toUInt32 x >>> (Int32.toUInt32 (1 : Int32) &&& Int32.toUInt32 31)).toInt32) &&& (1431655765 : Int32))) &&& (858993459 : Int32)) + (((Int32.toUInt32 (x - (((Int32.toUInt32 x >>> (Int32.toUInt32 (1 : Int32) &&& Int32.toUInt32 31)).toInt32) &&& (1431655765 : Int32))) >>> (Int32.toUInt32 (2 : Int32) &&& Int32.toUInt32 31)).toInt32) &&& (858993459 : Int32))) >>> (Int32.toUInt32 (4 : Int32) &&& Int32.toUInt32 31)).toInt32)) &&& (252645135 : Int32)) + ((Int32.toUInt32 (((((x - (((Int32.toUInt32 x >>> (Int32.toUInt32 (1 : Int32) &&& Int32.toUInt32 31)).toInt32) &&& (1431655765 : Int32))) &&& (858993459 : Int32)) + (((Int32.toUInt32 (x - (((Int32.toUInt32 x >>> (Int32.toUInt32 (1 : Int32) &&& Int32.toUInt32 31)).toInt32) &&& (1431655765 : Int32))) >>> (Int32.toUInt32 (2 : Int32) &&& Int32.toUInt32 31)).toInt32) &&& (858993459 : Int32))) + ((Int32.toUInt32 (((x - (((Int32.toUInt32 x >>> (Int32.toUInt32 (1 : Int32) &&& Int32.toUInt32 31)).toInt32) &&& (1431655765 : Int32))) &&& (858993459 : Int32)) + (((Int32.toUInt32 (x - (((Int32.toUInt32 x >>> (Int32.toUInt32 (1 : Int32) &&& Int32.toUInt32 31)).toInt32) &&& (1431655765 : Int32))) >>> (Int32.toUInt32 (2 : Int32) &&& Int32.toUInt32 31)).toInt32) &&& (858993459 : Int32))) >>> (Int32.toUInt32 (4 : Int32) &&& Int32.toUInt32 31)).toInt32)) &&& (252645135 : Int32)) >>> (Int32.toUInt32 (8 : Int32) &&& Int32.toUInt32 31)).toInt32)) >>> (Int32.toUInt32 (16 : Int32) &&& Int32.toUInt32 31)).toInt32)) &&& (63 : Int32))) C dJ6_bitCount_0f7a4_51 rfl ?_
  exact q_iret C dJ6_bitCount_0f7a4_52 rfl (Nat.le_of_ble_eq_true rfl) (Nat.le_of_ble_eq_true rfl) ⟨rfl, rfl, rfl⟩
