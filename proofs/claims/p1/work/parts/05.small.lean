set_option maxHeartbeats 4000000 in
set_option maxRecDepth 100000 in
theorem c_refuse {l : Launch} {G : GT} {L : List Nat} {E : Nat → va_E} {h0 : Nat} {f : Nat → Value} (x : Int32) (hL : h0 ∈ L) (hE : E h0 = ob 12 19 f) : Mq l G yX11_refuse cX11_refuse 2 (some .int) 0 [.ref h0, .int x] L E 0 0 (fun v L2 E2 => v = some (.int (-1)) ∧ L2 = L ∧ E2 = va_up E h0 (ob 12 19 (va_up (va_up f 17 (.int x)) 18 (.int (-1))))) := by
  refine Mq.mk (by decide) (Nat.le_of_ble_eq_true rfl) ?_
  intro p e s m args below meth c A C
  refine q_aload_n (j := 0) C dX11_refuse_0 rfl ?_
  refine q_iload_n (j := 1) C dX11_refuse_1 rfl ?_
  refine q_put (k := 17) C ck_12 dX11_refuse_2 w2_61 (by decide) rfl hL hE rfl rfl ?_
  refine q_aload_n (j := 0) C dX11_refuse_5 rfl ?_
  refine q_iconst (v := (-1)) C dX11_refuse_6 (by decide) ?_
  refine q_put (k := 18) C ck_12 dX11_refuse_7 w2_62 (by decide) rfl hL (va_up_self _ _ _) rfl rfl ?_
  refine q_iconst (v := (-1)) C dX11_refuse_10 (by decide) ?_
  exact q_iret C dX11_refuse_11 rfl (Nat.le_of_ble_eq_true rfl) (Nat.le_of_ble_eq_true rfl) ⟨rfl, rfl, bx_uu _ _ _ _⟩
set_option maxHeartbeats 4000000 in
set_option maxRecDepth 100000 in
theorem c_done {l : Launch} {G : GT} {L : List Nat} {E : Nat → va_E} {h0 : Nat} {f : Nat → Value} (x : Int32) (hL : h0 ∈ L) (hE : E h0 = ob 12 19 f) : Mq l G yX11_done cX11_done 2 (some .int) 0 [.ref h0, .int x] L E 0 0 (fun v L2 E2 => v = some (.int x) ∧ L2 = L ∧ E2 = va_up E h0 (ob 12 19 (va_up (va_up f 17 (.int 0)) 18 (.int (-1))))) := by
  refine Mq.mk (by decide) (Nat.le_of_ble_eq_true rfl) ?_
  intro p e s m args below meth c A C
  refine q_aload_n (j := 0) C dX11_done_0 rfl ?_
  refine q_iconst (v := 0) C dX11_done_1 (by decide) ?_
  refine q_put (k := 17) C ck_12 dX11_done_2 w2_61 (by decide) rfl hL hE rfl rfl ?_
  refine q_aload_n (j := 0) C dX11_done_5 rfl ?_
  refine q_iconst (v := (-1)) C dX11_done_6 (by decide) ?_
  refine q_put (k := 18) C ck_12 dX11_done_7 w2_62 (by decide) rfl hL (va_up_self _ _ _) rfl rfl ?_
  refine q_iload_n (j := 1) C dX11_done_10 rfl ?_
  exact q_iret C dX11_done_11 rfl (Nat.le_of_ble_eq_true rfl) (Nat.le_of_ble_eq_true rfl) ⟨rfl, rfl, bx_uu _ _ _ _⟩
set_option maxHeartbeats 4000000 in
set_option maxRecDepth 100000 in
theorem c_bad {l : Launch} {G : GT} {L : List Nat} {E : Nat → va_E} {h0 : Nat} {f : Nat → Value} (x : Int32) (hL : h0 ∈ L) (hE : E h0 = ob 13 67 f) : Mq l G yX12_bad cX12_bad 2 (some .int) 0 [.ref h0, .int x] L E 0 0 (fun v L2 E2 => v = some (.int (-1)) ∧ L2 = L ∧ E2 = va_up E h0 (ob 13 67 (va_up (va_up f 0 (.int x)) 1 (.int (-1))))) := by
  refine Mq.mk (by decide) (Nat.le_of_ble_eq_true rfl) ?_
  intro p e s m args below meth c A C
  refine q_aload_n (j := 0) C dX12_bad_0 rfl ?_
  refine q_iload_n (j := 1) C dX12_bad_1 rfl ?_
  refine q_put (k := 0) C ck_13 dX12_bad_2 w6_59 (by decide) rfl hL hE rfl rfl ?_
  refine q_aload_n (j := 0) C dX12_bad_5 rfl ?_
  refine q_iconst (v := (-1)) C dX12_bad_6 (by decide) ?_
  refine q_put (k := 1) C ck_13 dX12_bad_7 w6_60 (by decide) rfl hL (va_up_self _ _ _) rfl rfl ?_
  refine q_iconst (v := (-1)) C dX12_bad_10 (by decide) ?_
  exact q_iret C dX12_bad_11 rfl (Nat.le_of_ble_eq_true rfl) (Nat.le_of_ble_eq_true rfl) ⟨rfl, rfl, bx_uu _ _ _ _⟩
set_option maxHeartbeats 4000000 in
set_option maxRecDepth 100000 in
theorem c_fine {l : Launch} {G : GT} {L : List Nat} {E : Nat → va_E} {h0 : Nat} {f : Nat → Value} (x : Int32) (hL : h0 ∈ L) (hE : E h0 = ob 13 67 f) : Mq l G yX12_fine cX12_fine 2 (some .int) 0 [.ref h0, .int x] L E 0 0 (fun v L2 E2 => v = some (.int x) ∧ L2 = L ∧ E2 = va_up E h0 (ob 13 67 (va_up (va_up f 0 (.int 0)) 1 (.int (-1))))) := by
  refine Mq.mk (by decide) (Nat.le_of_ble_eq_true rfl) ?_
  intro p e s m args below meth c A C
  refine q_aload_n (j := 0) C dX12_fine_0 rfl ?_
  refine q_iconst (v := 0) C dX12_fine_1 (by decide) ?_
  refine q_put (k := 0) C ck_13 dX12_fine_2 w6_59 (by decide) rfl hL hE rfl rfl ?_
  refine q_aload_n (j := 0) C dX12_fine_5 rfl ?_
  refine q_iconst (v := (-1)) C dX12_fine_6 (by decide) ?_
  refine q_put (k := 1) C ck_13 dX12_fine_7 w6_60 (by decide) rfl hL (va_up_self _ _ _) rfl rfl ?_
  refine q_iload_n (j := 1) C dX12_fine_10 rfl ?_
  exact q_iret C dX12_fine_11 rfl (Nat.le_of_ble_eq_true rfl) (Nat.le_of_ble_eq_true rfl) ⟨rfl, rfl, bx_uu _ _ _ _⟩
set_option maxHeartbeats 4000000 in
set_option maxRecDepth 100000 in
theorem c_AColl_init {l : Launch} {G : GT} {L : List Nat} {E : Nat → va_E} {h0 : Nat} {f : Nat → Value}  (hL : h0 ∈ L) (hE : E h0 = ob 0 3 f) : Mq l G yJxa1e45_init_da8c8 cJxa1e45_init_da8c8 1 none 1 [.ref h0] L E 0 0 (fun v L2 E2 => v = none ∧ (∀ a ∈ L, a ∈ L2) ∧ (∀ a ∈ L, a ≠ h0 → E2 a = E a) ∧ E2 h0 = ob 0 3 f) := by
  refine Mq.mk (by decide) (Nat.le_of_ble_eq_true rfl) ?_
  intro p e s m args below meth c A C
  refine q_aload_n (j := 0) C dJxa1e45_init_da8c8_0 rfl ?_
  refine q_objInit C dJxa1e45_init_da8c8_1 w1_75 w1_30 w1_31 ⟨Nat.le_of_ble_eq_true rfl, Nat.le_of_ble_eq_true rfl⟩ (Nat.le_of_ble_eq_true rfl) ?_
  exact q_vret C dJxa1e45_init_da8c8_4 rfl (Nat.le_of_ble_eq_true rfl) (Nat.le_of_ble_eq_true rfl) ⟨rfl, (fun aa haa => haa), (fun aa haa naa => rfl), hE⟩
set_option maxHeartbeats 4000000 in
set_option maxRecDepth 100000 in
theorem c_AList_init {l : Launch} {G : GT} {L : List Nat} {E : Nat → va_E} {h0 : Nat} {f : Nat → Value}  (hL : h0 ∈ L) (hE : E h0 = ob 0 3 f) : Mq l G yJxc12de_init_da8c8 cJxc12de_init_da8c8 1 none 2 [.ref h0] L E 0 0 (fun v L2 E2 => v = none ∧ (∀ a ∈ L, a ∈ L2) ∧ (∀ a ∈ L, a ≠ h0 → E2 a = E a) ∧ E2 h0 = ob 0 3 (va_up f 0 (.int 0))) := by
  refine Mq.mk (by decide) (Nat.le_of_ble_eq_true rfl) ?_
  intro p e s m args below meth c A C
  refine q_aload_n (j := 0) C dJxc12de_init_da8c8_0 rfl ?_
  refine q_callI (mc2 := 0) (ms2 := 0) (As := []) (rest := []) C (c_AColl_init hL hE) dJxc12de_init_da8c8_1 kI_Jxc12de_1 rfl rfl (Nat.le_of_ble_eq_true rfl) ⟨Nat.le_of_ble_eq_true rfl, Nat.le_of_ble_eq_true rfl⟩ ⟨Nat.le_of_ble_eq_true rfl, Nat.le_of_ble_eq_true rfl⟩ (fun vh1 Lh1 Eh1 h1 => ?_)
  obtain ⟨rfl, h1a, h1b, h1c⟩ := h1
  refine q_st (st2 := []) rfl ?_
  refine q_aload_n (j := 0) C dJxc12de_init_da8c8_4 rfl ?_
  refine q_iconst (v := 0) C dJxc12de_init_da8c8_5 (by decide) ?_
  refine q_put (k := 0) C ck_0 dJxc12de_init_da8c8_6 w1_80 (by decide) rfl (h1a _ hL) h1c rfl rfl ?_
  exact q_vret C dJxc12de_init_da8c8_9 rfl (Nat.le_of_ble_eq_true rfl) (Nat.le_of_ble_eq_true rfl) ⟨rfl, (fun aa haa => (h1a _ haa)), (fun aa haa naa => ((va_up_ne _ _ naa).trans ((h1b _ haa naa).trans rfl))), (va_up_self _ _ _)⟩
set_option maxHeartbeats 4000000 in
set_option maxRecDepth 100000 in
theorem c_ArrayList_init {l : Launch} {G : GT} {L : List Nat} {E : Nat → va_E} {h0 : Nat} {f : Nat → Value}  (hL : h0 ∈ L) (hE : E h0 = ob 0 3 f) : Mq l G yJx4a65c_init_da8c8 cJx4a65c_init_da8c8 1 none 3 [.ref h0] L E 0 0 (fun v L2 E2 => v = none ∧ (∀ a ∈ L, a ∈ L2) ∧ (∀ a ∈ L, a ≠ h0 → E2 a = E a) ∧ E2 h0 = ob 0 3 (va_up (va_up f 0 (.int 0)) 1 (.ref (g0 G)))) := by
  refine Mq.mk (by decide) (Nat.le_of_ble_eq_true rfl) ?_
  intro p e s m args below meth c A C
  refine q_aload_n (j := 0) C dJx4a65c_init_da8c8_0 rfl ?_
  refine q_callI (mc2 := 0) (ms2 := 0) (As := []) (rest := []) C (c_AList_init hL hE) dJx4a65c_init_da8c8_1 kI_Jx4a65c_1 rfl rfl (Nat.le_of_ble_eq_true rfl) ⟨Nat.le_of_ble_eq_true rfl, Nat.le_of_ble_eq_true rfl⟩ ⟨Nat.le_of_ble_eq_true rfl, Nat.le_of_ble_eq_true rfl⟩ (fun vh1 Lh1 Eh1 h1 => ?_)
  obtain ⟨rfl, h1a, h1b, h1c⟩ := h1
  refine q_st (st2 := []) rfl ?_
  refine q_aload_n (j := 0) C dJx4a65c_init_da8c8_4 rfl ?_
  refine q_gets C dJx4a65c_init_da8c8_5 w1_76 ?_
  refine q_put (k := 1) C ck_0 dJx4a65c_init_da8c8_8 w1_78 (by decide) rfl (h1a _ hL) h1c rfl rfl ?_
  exact q_vret C dJx4a65c_init_da8c8_11 rfl (Nat.le_of_ble_eq_true rfl) (Nat.le_of_ble_eq_true rfl) ⟨rfl, (fun aa haa => (h1a _ haa)), (fun aa haa naa => ((va_up_ne _ _ naa).trans ((h1b _ haa naa).trans rfl))), (va_up_self _ _ _)⟩
set_option maxHeartbeats 4000000 in
set_option maxRecDepth 100000 in
theorem c_Ints_init {l : Launch} {G : GT} {L : List Nat} {E : Nat → va_E} {h0 : Nat} {f : Nat → Value} (lim : Int32) (hL : h0 ∈ L) (hE : E h0 = ob 2 3 f) : Mq l G yX1_init cX1_init 2 none 1 [.ref h0, .int lim] L E 1 16 (fun v L2 E2 => v = none ∧ (∀ a ∈ L, a ∈ L2) ∧ (∀ a ∈ L, a ≠ h0 → E2 a = E a) ∧ ∃ (q : Nat) (g : Nat → Value), q ∉ L ∧ q ∈ L2 ∧ E2 h0 = ob 2 3 g ∧ g 0 = .int lim ∧ g 1 = .ref q ∧ g 2 = .int 0 ∧ E2 q = aI G 16 (fun _ => 0)) := by
  refine Mq.mk (by decide) (Nat.le_of_ble_eq_true rfl) ?_
  intro p e s m args below meth c A C
  refine q_aload_n (j := 0) C dX1_init_0 rfl ?_
  refine q_objInit C dX1_init_1 w1_37 w1_30 w1_31 ⟨Nat.le_of_ble_eq_true rfl, Nat.le_of_ble_eq_true rfl⟩ (Nat.le_of_ble_eq_true rfl) ?_
  refine q_aload_n (j := 0) C dX1_init_4 rfl ?_
  refine q_iconst (v := 0) C dX1_init_5 (by decide) ?_
  refine q_put (k := 2) C ck_2 dX1_init_6 w1_43 (by decide) rfl hL hE rfl rfl ?_
  refine q_aload_n (j := 0) C dX1_init_9 rfl ?_
  refine q_iload_n (j := 1) C dX1_init_10 rfl ?_
  refine q_putF (k := 0) C ck_2 dX1_init_11 w1_38 (by decide) rfl rfl rfl hL (va_up_self _ _ _) rfl rfl ?_
  refine q_aload_n (j := 0) C dX1_init_14 rfl ?_
  refine q_bipush (v := 16) C dX1_init_15 (by decide) ?_
  refine q_newaI (N := 16) C dX1_init_17 w1_57 (by decide) (by decide) (by decide) ⟨Nat.le_of_ble_eq_true rfl, Nat.le_of_ble_eq_true rfl⟩ (fun q1 nq1 => ?_)
  have ne_h0_q1 : h0 ≠ q1 := (ne_in hL nq1)
  refine q_put (k := 1) C ck_2 dX1_init_19 w1_39 (by decide) rfl (List.mem_append_left _ hL) ((va_up_ne _ _ ne_h0_q1).trans (va_up_self _ _ _)) rfl rfl ?_
  exact q_vret C dX1_init_22 rfl (Nat.le_of_ble_eq_true rfl) (Nat.le_of_ble_eq_true rfl) ⟨rfl, (fun aa haa => (List.mem_append_left _ haa)), (fun aa haa naa => ((va_up_ne _ _ naa).trans ((va_up_ne _ _ (ne_in haa nq1)).trans ((va_up_ne _ _ naa).trans ((va_up_ne _ _ naa).trans rfl))))), ⟨q1, _, nq1, (List.mem_append_right _ (List.mem_singleton.mpr rfl)), (va_up_self _ _ _), rfl, rfl, rfl, ((va_up_ne _ _ (Ne.symm ne_h0_q1)).trans (va_up_self _ _ _))⟩⟩
set_option maxHeartbeats 4000000 in
set_option maxRecDepth 100000 in
theorem c_Tables_init {l : Launch} {G : GT} {L : List Nat} {E : Nat → va_E} {h0 : Nat} {f : Nat → Value}  (hL : h0 ∈ L) (hE : E h0 = ob 11 2 f) : Mq l G yX10_init cX10_init 1 none 4 [.ref h0] L E 2 6 (fun v L2 E2 => v = none ∧ (∀ a ∈ L, a ∈ L2) ∧ (∀ a ∈ L, a ≠ h0 → E2 a = E a) ∧ ∃ (md ch : Nat) (g gm gc : Nat → Value), md ∉ L ∧ ch ∉ L ∧ md ≠ ch ∧ md ∈ L2 ∧ ch ∈ L2 ∧ E2 h0 = ob 11 2 g ∧ g 0 = .ref md ∧ g 1 = .ref ch ∧ E2 md = ob 0 3 gm ∧ gm 0 = .int 0 ∧ gm 1 = .ref (g0 G) ∧ gm 2 = .int 0 ∧ E2 ch = ob 0 3 gc ∧ gc 0 = .int 0 ∧ gc 1 = .ref (g0 G) ∧ gc 2 = .int 0) := by
  refine Mq.mk (by decide) (Nat.le_of_ble_eq_true rfl) ?_
  intro p e s m args below meth c A C
  refine q_aload_n (j := 0) C dX10_init_0 rfl ?_
  refine q_objInit C dX10_init_1 w1_63 w1_30 w1_31 ⟨Nat.le_of_ble_eq_true rfl, Nat.le_of_ble_eq_true rfl⟩ (Nat.le_of_ble_eq_true rfl) ?_
  refine q_aload_n (j := 0) C dX10_init_4 rfl ?_
  refine q_new C ck_0 dX10_init_5 w1_64 w1_65 w1_6 ⟨Nat.le_of_ble_eq_true rfl, Nat.le_of_ble_eq_true rfl⟩ (fun q1 nq1 => ?_)
  have ne_h0_q1 : h0 ≠ q1 := (ne_in hL nq1)
  refine q_dup C dX10_init_8 rfl ?_
  refine q_callI (d2 := 3) (mc2 := 0) (ms2 := 0) (As := []) (rest := [.ref q1, .ref h0]) C (c_ArrayList_init (List.mem_append_right _ (List.mem_singleton.mpr rfl)) (va_up_self _ _ _)) dX10_init_9 kI_X10_11 rfl rfl (Nat.le_of_ble_eq_true rfl) ⟨Nat.le_of_ble_eq_true rfl, Nat.le_of_ble_eq_true rfl⟩ ⟨Nat.le_of_ble_eq_true rfl, Nat.le_of_ble_eq_true rfl⟩ (fun vh1 Lh1 Eh1 h1 => ?_)
  obtain ⟨rfl, h1a, h1b, h1c⟩ := h1
  have et1 := (h1b _ (List.mem_append_left _ hL) ne_h0_q1).trans ((va_up_ne _ _ ne_h0_q1).trans hE)
  have lt1 := h1a _ (List.mem_append_left _ hL)
  refine q_st (st2 := [.ref q1, .ref h0]) rfl ?_
  refine q_putF (k := 0) C ck_11 dX10_init_12 w1_90 (by decide) rfl rfl rfl lt1 et1 rfl rfl ?_
  refine q_aload_n (j := 0) C dX10_init_15 rfl ?_
  refine q_new C ck_0 dX10_init_16 w1_64 w1_65 w1_6 ⟨Nat.le_of_ble_eq_true rfl, Nat.le_of_ble_eq_true rfl⟩ (fun q2 nq2 => ?_)
  have ne_h0_q2 : h0 ≠ q2 := (ne_in lt1 nq2)
  have ne_q1_q2 : q1 ≠ q2 := (ne_in (h1a _ (List.mem_append_right _ (List.mem_singleton.mpr rfl))) nq2)
  refine q_dup C dX10_init_19 rfl ?_
  refine q_callI (d2 := 3) (mc2 := 0) (ms2 := 0) (As := []) (rest := [.ref q2, .ref h0]) C (c_ArrayList_init (List.mem_append_right _ (List.mem_singleton.mpr rfl)) (va_up_self _ _ _)) dX10_init_20 kI_X10_11 rfl rfl (Nat.le_of_ble_eq_true rfl) ⟨Nat.le_of_ble_eq_true rfl, Nat.le_of_ble_eq_true rfl⟩ ⟨Nat.le_of_ble_eq_true rfl, Nat.le_of_ble_eq_true rfl⟩ (fun vh2 Lh2 Eh2 h2 => ?_)
  obtain ⟨rfl, h2a, h2b, h2c⟩ := h2
  have et2 := (h2b _ (List.mem_append_left _ lt1) ne_h0_q2).trans ((va_up_ne _ _ ne_h0_q2).trans (va_up_self _ _ _))
  have lt2 := h2a _ (List.mem_append_left _ lt1)
  have et3 := (h2b _ (List.mem_append_left _ (h1a _ (List.mem_append_right _ (List.mem_singleton.mpr rfl)))) ne_q1_q2).trans ((va_up_ne _ _ ne_q1_q2).trans ((va_up_ne _ _ (Ne.symm ne_h0_q1)).trans h1c))
  have lt3 := h2a _ (List.mem_append_left _ (h1a _ (List.mem_append_right _ (List.mem_singleton.mpr rfl))))
  refine q_st (st2 := [.ref q2, .ref h0]) rfl ?_
  refine q_putF (k := 1) C ck_11 dX10_init_23 w1_91 (by decide) rfl rfl rfl lt2 et2 rfl rfl ?_
  exact q_vret C dX10_init_26 rfl (Nat.le_of_ble_eq_true rfl) (Nat.le_of_ble_eq_true rfl) ⟨rfl, (fun aa haa => (h2a _ (List.mem_append_left _ (h1a _ (List.mem_append_left _ haa))))), (fun aa haa naa => ((va_up_ne _ _ naa).trans ((h2b _ (List.mem_append_left _ (h1a _ (List.mem_append_left _ haa))) (ne_in (h1a _ (List.mem_append_left _ haa)) nq2)).trans ((va_up_ne _ _ (ne_in (h1a _ (List.mem_append_left _ haa)) nq2)).trans ((va_up_ne _ _ naa).trans ((h1b _ (List.mem_append_left _ haa) (ne_in haa nq1)).trans ((va_up_ne _ _ (ne_in haa nq1)).trans rfl))))))), ⟨q1, q2, _, _, _, (fun z => nq1 z), (fun z => nq2 (h1a _ (List.mem_append_left _ z))), ne_q1_q2, lt3, (h2a _ (List.mem_append_right _ (List.mem_singleton.mpr rfl))), (va_up_self _ _ _), rfl, rfl, ((va_up_ne _ _ (Ne.symm ne_h0_q1)).trans et3), rfl, rfl, rfl, ((va_up_ne _ _ (Ne.symm ne_h0_q2)).trans h2c), rfl, rfl, rfl⟩⟩
set_option maxHeartbeats 4000000 in
set_option maxRecDepth 100000 in
theorem c_Setting_init {l : Launch} {G : GT} {L : List Nat} {E : Nat → va_E} {h0 : Nat} {f : Nat → Value}  (hL : h0 ∈ L) (hE : E h0 = ob 7 12 f) : Mq l G yX6_init cX6_init 1 none 1 [.ref h0] L E 6 2205 (fun v L2 E2 => v = none ∧ (∀ a ∈ L, a ∈ L2) ∧ (∀ a ∈ L, a ≠ h0 → E2 a = E a) ∧ ∃ (fi : Nat) (g : Nat → Value), fi ∉ L ∧ fi ∈ L2 ∧ E2 h0 = ob 7 12 g ∧ g 8 = .ref fi ∧ E2 fi = aI G 5 (fun _ => 0)) := by
  refine Mq.mk (by decide) (Nat.le_of_ble_eq_true rfl) ?_
  intro p e s m args below meth c A C
  refine q_aload_n (j := 0) C dX6_init_0 rfl ?_
  refine q_objInit C dX6_init_1 w1_135 w1_30 w1_31 ⟨Nat.le_of_ble_eq_true rfl, Nat.le_of_ble_eq_true rfl⟩ (Nat.le_of_ble_eq_true rfl) ?_
  refine q_aload_n (j := 0) C dX6_init_4 rfl ?_
  refine q_sipush (v := 500) C dX6_init_5 (by decide) ?_
  refine q_newaI (N := 500) C dX6_init_8 w1_57 (by decide) (by decide) (by decide) ⟨Nat.le_of_ble_eq_true rfl, Nat.le_of_ble_eq_true rfl⟩ (fun q1 nq1 => ?_)
  have ne_h0_q1 : h0 ≠ q1 := (ne_in hL nq1)
  refine q_putF (k := 0) C ck_7 dX6_init_10 w1_136 (by decide) rfl rfl rfl (List.mem_append_left _ hL) ((va_up_ne _ _ ne_h0_q1).trans hE) rfl rfl ?_
  refine q_aload_n (j := 0) C dX6_init_13 rfl ?_
  refine q_sipush (v := 500) C dX6_init_14 (by decide) ?_
  refine q_newaI (N := 500) C dX6_init_17 w1_57 (by decide) (by decide) (by decide) ⟨Nat.le_of_ble_eq_true rfl, Nat.le_of_ble_eq_true rfl⟩ (fun q2 nq2 => ?_)
  have ne_h0_q2 : h0 ≠ q2 := (ne_in (List.mem_append_left _ hL) nq2)
  have ne_q1_q2 : q1 ≠ q2 := (ne_in (List.mem_append_right _ (List.mem_singleton.mpr rfl)) nq2)
  refine q_putF (k := 1) C ck_7 dX6_init_19 w1_137 (by decide) rfl rfl rfl (List.mem_append_left _ (List.mem_append_left _ hL)) ((va_up_ne _ _ ne_h0_q2).trans (va_up_self _ _ _)) rfl rfl ?_
  refine q_aload_n (j := 0) C dX6_init_22 rfl ?_
  refine q_sipush (v := 500) C dX6_init_23 (by decide) ?_
  refine q_newaZ (N := 500) C dX6_init_26 w1_129 (by decide) (by decide) (by decide) ⟨Nat.le_of_ble_eq_true rfl, Nat.le_of_ble_eq_true rfl⟩ (fun q3 nq3 => ?_)
  have ne_h0_q3 : h0 ≠ q3 := (ne_in (List.mem_append_left _ (List.mem_append_left _ hL)) nq3)
  have ne_q1_q3 : q1 ≠ q3 := (ne_in (List.mem_append_left _ (List.mem_append_right _ (List.mem_singleton.mpr rfl))) nq3)
  have ne_q2_q3 : q2 ≠ q3 := (ne_in (List.mem_append_right _ (List.mem_singleton.mpr rfl)) nq3)
  refine q_putF (k := 2) C ck_7 dX6_init_28 w1_138 (by decide) rfl rfl rfl (List.mem_append_left _ (List.mem_append_left _ (List.mem_append_left _ hL))) ((va_up_ne _ _ ne_h0_q3).trans (va_up_self _ _ _)) rfl rfl ?_
  refine q_aload_n (j := 0) C dX6_init_31 rfl ?_
  refine q_sipush (v := 500) C dX6_init_32 (by decide) ?_
  refine q_newaI (N := 500) C dX6_init_35 w1_57 (by decide) (by decide) (by decide) ⟨Nat.le_of_ble_eq_true rfl, Nat.le_of_ble_eq_true rfl⟩ (fun q4 nq4 => ?_)
  have ne_h0_q4 : h0 ≠ q4 := (ne_in (List.mem_append_left _ (List.mem_append_left _ (List.mem_append_left _ hL))) nq4)
  have ne_q1_q4 : q1 ≠ q4 := (ne_in (List.mem_append_left _ (List.mem_append_left _ (List.mem_append_right _ (List.mem_singleton.mpr rfl)))) nq4)
  have ne_q2_q4 : q2 ≠ q4 := (ne_in (List.mem_append_left _ (List.mem_append_right _ (List.mem_singleton.mpr rfl))) nq4)
  have ne_q3_q4 : q3 ≠ q4 := (ne_in (List.mem_append_right _ (List.mem_singleton.mpr rfl)) nq4)
  refine q_putF (k := 3) C ck_7 dX6_init_37 w1_139 (by decide) rfl rfl rfl (List.mem_append_left _ (List.mem_append_left _ (List.mem_append_left _ (List.mem_append_left _ hL)))) ((va_up_ne _ _ ne_h0_q4).trans (va_up_self _ _ _)) rfl rfl ?_
  refine q_aload_n (j := 0) C dX6_init_40 rfl ?_
  refine q_iconst (v := 0) C dX6_init_41 (by decide) ?_
  refine q_put (k := 4) C ck_7 dX6_init_42 w1_140 (by decide) rfl (List.mem_append_left _ (List.mem_append_left _ (List.mem_append_left _ (List.mem_append_left _ hL)))) (va_up_self _ _ _) rfl rfl ?_
  refine q_aload_n (j := 0) C dX6_init_45 rfl ?_
  refine q_iconst (v := 0) C dX6_init_46 (by decide) ?_
  refine q_put (k := 5) C ck_7 dX6_init_47 w1_143 (by decide) rfl (List.mem_append_left _ (List.mem_append_left _ (List.mem_append_left _ (List.mem_append_left _ hL)))) (va_up_self _ _ _) (by decide) rfl ?_
  refine q_aload_n (j := 0) C dX6_init_50 rfl ?_
  refine q_sipush (v := 200) C dX6_init_51 (by decide) ?_
  refine q_newaI (N := 200) C dX6_init_54 w1_57 (by decide) (by decide) (by decide) ⟨Nat.le_of_ble_eq_true rfl, Nat.le_of_ble_eq_true rfl⟩ (fun q5 nq5 => ?_)
  have ne_h0_q5 : h0 ≠ q5 := (ne_in (List.mem_append_left _ (List.mem_append_left _ (List.mem_append_left _ (List.mem_append_left _ hL)))) nq5)
  have ne_q1_q5 : q1 ≠ q5 := (ne_in (List.mem_append_left _ (List.mem_append_left _ (List.mem_append_left _ (List.mem_append_right _ (List.mem_singleton.mpr rfl))))) nq5)
  have ne_q2_q5 : q2 ≠ q5 := (ne_in (List.mem_append_left _ (List.mem_append_left _ (List.mem_append_right _ (List.mem_singleton.mpr rfl)))) nq5)
  have ne_q3_q5 : q3 ≠ q5 := (ne_in (List.mem_append_left _ (List.mem_append_right _ (List.mem_singleton.mpr rfl))) nq5)
  have ne_q4_q5 : q4 ≠ q5 := (ne_in (List.mem_append_right _ (List.mem_singleton.mpr rfl)) nq5)
  refine q_putF (k := 6) C ck_7 dX6_init_56 w1_144 (by decide) rfl rfl rfl (List.mem_append_left _ (List.mem_append_left _ (List.mem_append_left _ (List.mem_append_left _ (List.mem_append_left _ hL))))) ((va_up_ne _ _ ne_h0_q5).trans (va_up_self _ _ _)) rfl rfl ?_
  refine q_aload_n (j := 0) C dX6_init_59 rfl ?_
  refine q_iconst (v := 0) C dX6_init_60 (by decide) ?_
  refine q_put (k := 7) C ck_7 dX6_init_61 w1_147 (by decide) rfl (List.mem_append_left _ (List.mem_append_left _ (List.mem_append_left _ (List.mem_append_left _ (List.mem_append_left _ hL))))) (va_up_self _ _ _) rfl rfl ?_
  refine q_aload_n (j := 0) C dX6_init_64 rfl ?_
  refine q_iconst (v := 5) C dX6_init_65 (by decide) ?_
  refine q_newaI (N := 5) C dX6_init_66 w1_57 (by decide) (by decide) (by decide) ⟨Nat.le_of_ble_eq_true rfl, Nat.le_of_ble_eq_true rfl⟩ (fun q6 nq6 => ?_)
  have ne_h0_q6 : h0 ≠ q6 := (ne_in (List.mem_append_left _ (List.mem_append_left _ (List.mem_append_left _ (List.mem_append_left _ (List.mem_append_left _ hL))))) nq6)
  have ne_q1_q6 : q1 ≠ q6 := (ne_in (List.mem_append_left _ (List.mem_append_left _ (List.mem_append_left _ (List.mem_append_left _ (List.mem_append_right _ (List.mem_singleton.mpr rfl)))))) nq6)
  have ne_q2_q6 : q2 ≠ q6 := (ne_in (List.mem_append_left _ (List.mem_append_left _ (List.mem_append_left _ (List.mem_append_right _ (List.mem_singleton.mpr rfl))))) nq6)
  have ne_q3_q6 : q3 ≠ q6 := (ne_in (List.mem_append_left _ (List.mem_append_left _ (List.mem_append_right _ (List.mem_singleton.mpr rfl)))) nq6)
  have ne_q4_q6 : q4 ≠ q6 := (ne_in (List.mem_append_left _ (List.mem_append_right _ (List.mem_singleton.mpr rfl))) nq6)
  have ne_q5_q6 : q5 ≠ q6 := (ne_in (List.mem_append_right _ (List.mem_singleton.mpr rfl)) nq6)
  refine q_putF (k := 8) C ck_7 dX6_init_68 w1_150 (by decide) rfl rfl rfl (List.mem_append_left _ (List.mem_append_left _ (List.mem_append_left _ (List.mem_append_left _ (List.mem_append_left _ (List.mem_append_left _ hL)))))) ((va_up_ne _ _ ne_h0_q6).trans (va_up_self _ _ _)) rfl rfl ?_
  refine q_aload_n (j := 0) C dX6_init_71 rfl ?_
  refine q_iconst (v := 0) C dX6_init_72 (by decide) ?_
  refine q_put (k := 9) C ck_7 dX6_init_73 w1_151 (by decide) rfl (List.mem_append_left _ (List.mem_append_left _ (List.mem_append_left _ (List.mem_append_left _ (List.mem_append_left _ (List.mem_append_left _ hL)))))) (va_up_self _ _ _) rfl rfl ?_
  refine q_aload_n (j := 0) C dX6_init_76 rfl ?_
  refine q_iconst (v := 0) C dX6_init_77 (by decide) ?_
  refine q_put (k := 10) C ck_7 dX6_init_78 w1_152 (by decide) rfl (List.mem_append_left _ (List.mem_append_left _ (List.mem_append_left _ (List.mem_append_left _ (List.mem_append_left _ (List.mem_append_left _ hL)))))) (va_up_self _ _ _) rfl rfl ?_
  refine q_aload_n (j := 0) C dX6_init_81 rfl ?_
  refine q_iconst (v := 0) C dX6_init_82 (by decide) ?_
  refine q_put (k := 11) C ck_7 dX6_init_83 w1_153 (by decide) rfl (List.mem_append_left _ (List.mem_append_left _ (List.mem_append_left _ (List.mem_append_left _ (List.mem_append_left _ (List.mem_append_left _ hL)))))) (va_up_self _ _ _) rfl rfl ?_
  exact q_vret C dX6_init_86 rfl (Nat.le_of_ble_eq_true rfl) (Nat.le_of_ble_eq_true rfl) ⟨rfl, (fun aa haa => (List.mem_append_left _ (List.mem_append_left _ (List.mem_append_left _ (List.mem_append_left _ (List.mem_append_left _ (List.mem_append_left _ haa))))))), (fun aa haa naa => ((va_up_ne _ _ naa).trans ((va_up_ne _ _ naa).trans ((va_up_ne _ _ naa).trans ((va_up_ne _ _ naa).trans ((va_up_ne _ _ (ne_in (List.mem_append_left _ (List.mem_append_left _ (List.mem_append_left _ (List.mem_append_left _ (List.mem_append_left _ haa))))) nq6)).trans ((va_up_ne _ _ naa).trans ((va_up_ne _ _ naa).trans ((va_up_ne _ _ (ne_in (List.mem_append_left _ (List.mem_append_left _ (List.mem_append_left _ (List.mem_append_left _ haa)))) nq5)).trans ((va_up_ne _ _ naa).trans ((va_up_ne _ _ naa).trans ((va_up_ne _ _ naa).trans ((va_up_ne _ _ (ne_in (List.mem_append_left _ (List.mem_append_left _ (List.mem_append_left _ haa))) nq4)).trans ((va_up_ne _ _ naa).trans ((va_up_ne _ _ (ne_in (List.mem_append_left _ (List.mem_append_left _ haa)) nq3)).trans ((va_up_ne _ _ naa).trans ((va_up_ne _ _ (ne_in (List.mem_append_left _ haa) nq2)).trans ((va_up_ne _ _ naa).trans ((va_up_ne _ _ (ne_in haa nq1)).trans rfl))))))))))))))))))), ⟨q6, _, (fun z => nq6 (List.mem_append_left _ (List.mem_append_left _ (List.mem_append_left _ (List.mem_append_left _ (List.mem_append_left _ z)))))), (List.mem_append_right _ (List.mem_singleton.mpr rfl)), (va_up_self _ _ _), rfl, ((va_up_ne _ _ (Ne.symm ne_h0_q6)).trans ((va_up_ne _ _ (Ne.symm ne_h0_q6)).trans ((va_up_ne _ _ (Ne.symm ne_h0_q6)).trans ((va_up_ne _ _ (Ne.symm ne_h0_q6)).trans (va_up_self _ _ _)))))⟩⟩
set_option maxHeartbeats 4000000 in
set_option maxRecDepth 100000 in
theorem c_Source_init {l : Launch} {G : GT} {L : List Nat} {E : Nat → va_E} {h0 : Nat} {f : Nat → Value}  (hL : h0 ∈ L) (hE : E h0 = ob 9 8 f) : Mq l G yX8_init cX8_init 1 none 1 [.ref h0] L E 3 258 (fun v L2 E2 => v = none ∧ (∀ a ∈ L, a ∈ L2) ∧ (∀ a ∈ L, a ≠ h0 → E2 a = E a) ∧ ∃ (g : Nat → Value), E2 h0 = ob 9 8 g) := by
  refine Mq.mk (by decide) (Nat.le_of_ble_eq_true rfl) ?_
  intro p e s m args below meth c A C
  refine q_aload_n (j := 0) C dX8_init_0 rfl ?_
  refine q_objInit C dX8_init_1 w1_102 w1_30 w1_31 ⟨Nat.le_of_ble_eq_true rfl, Nat.le_of_ble_eq_true rfl⟩ (Nat.le_of_ble_eq_true rfl) ?_
  refine q_aload_n (j := 0) C dX8_init_4 rfl ?_
  refine q_iconst (v := 0) C dX8_init_5 (by decide) ?_
  refine q_put (k := 0) C ck_9 dX8_init_6 w1_103 (by decide) rfl hL hE rfl rfl ?_
  refine q_aload_n (j := 0) C dX8_init_9 rfl ?_
  refine q_iconst (v := 0) C dX8_init_10 (by decide) ?_
  refine q_put (k := 1) C ck_9 dX8_init_11 w1_104 (by decide) rfl hL (va_up_self _ _ _) (by decide) rfl ?_
  refine q_aload_n (j := 0) C dX8_init_14 rfl ?_
  refine q_iconst (v := 0) C dX8_init_15 (by decide) ?_
  refine q_put (k := 2) C ck_9 dX8_init_16 w1_105 (by decide) rfl hL (va_up_self _ _ _) (by decide) rfl ?_
  refine q_aload_n (j := 0) C dX8_init_19 rfl ?_
  refine q_bipush (v := 126) C dX8_init_20 (by decide) ?_
  refine q_newaZ (N := 126) C dX8_init_22 w1_129 (by decide) (by decide) (by decide) ⟨Nat.le_of_ble_eq_true rfl, Nat.le_of_ble_eq_true rfl⟩ (fun q1 nq1 => ?_)
  have ne_h0_q1 : h0 ≠ q1 := (ne_in hL nq1)
  refine q_putF (k := 3) C ck_9 dX8_init_24 w1_107 (by decide) rfl rfl rfl (List.mem_append_left _ hL) ((va_up_ne _ _ ne_h0_q1).trans (va_up_self _ _ _)) rfl rfl ?_
  refine q_aload_n (j := 0) C dX8_init_27 rfl ?_
  refine q_bipush (v := 126) C dX8_init_28 (by decide) ?_
  refine q_newaI (N := 126) C dX8_init_30 w1_57 (by decide) (by decide) (by decide) ⟨Nat.le_of_ble_eq_true rfl, Nat.le_of_ble_eq_true rfl⟩ (fun q2 nq2 => ?_)
  have ne_h0_q2 : h0 ≠ q2 := (ne_in (List.mem_append_left _ hL) nq2)
  have ne_q1_q2 : q1 ≠ q2 := (ne_in (List.mem_append_right _ (List.mem_singleton.mpr rfl)) nq2)
  refine q_putF (k := 4) C ck_9 dX8_init_32 w1_108 (by decide) rfl rfl rfl (List.mem_append_left _ (List.mem_append_left _ hL)) ((va_up_ne _ _ ne_h0_q2).trans (va_up_self _ _ _)) rfl rfl ?_
  refine q_aload_n (j := 0) C dX8_init_35 rfl ?_
  refine q_iconst (v := 0) C dX8_init_36 (by decide) ?_
  refine q_put (k := 5) C ck_9 dX8_init_37 w1_109 (by decide) rfl (List.mem_append_left _ (List.mem_append_left _ hL)) (va_up_self _ _ _) rfl rfl ?_
  refine q_aload_n (j := 0) C dX8_init_40 rfl ?_
  refine q_bipush (v := 6) C dX8_init_41 (by decide) ?_
  refine q_newaI (N := 6) C dX8_init_43 w1_57 (by decide) (by decide) (by decide) ⟨Nat.le_of_ble_eq_true rfl, Nat.le_of_ble_eq_true rfl⟩ (fun q3 nq3 => ?_)
  have ne_h0_q3 : h0 ≠ q3 := (ne_in (List.mem_append_left _ (List.mem_append_left _ hL)) nq3)
  have ne_q1_q3 : q1 ≠ q3 := (ne_in (List.mem_append_left _ (List.mem_append_right _ (List.mem_singleton.mpr rfl))) nq3)
  have ne_q2_q3 : q2 ≠ q3 := (ne_in (List.mem_append_right _ (List.mem_singleton.mpr rfl)) nq3)
  refine q_putF (k := 6) C ck_9 dX8_init_45 w1_110 (by decide) rfl rfl rfl (List.mem_append_left _ (List.mem_append_left _ (List.mem_append_left _ hL))) ((va_up_ne _ _ ne_h0_q3).trans (va_up_self _ _ _)) rfl rfl ?_
  refine q_aload_n (j := 0) C dX8_init_48 rfl ?_
  refine q_iconst (v := 0) C dX8_init_49 (by decide) ?_
  refine q_put (k := 7) C ck_9 dX8_init_50 w1_111 (by decide) rfl (List.mem_append_left _ (List.mem_append_left _ (List.mem_append_left _ hL))) (va_up_self _ _ _) rfl rfl ?_
  exact q_vret C dX8_init_53 rfl (Nat.le_of_ble_eq_true rfl) (Nat.le_of_ble_eq_true rfl) ⟨rfl, (fun aa haa => (List.mem_append_left _ (List.mem_append_left _ (List.mem_append_left _ haa)))), (fun aa haa naa => ((va_up_ne _ _ naa).trans ((va_up_ne _ _ naa).trans ((va_up_ne _ _ (ne_in (List.mem_append_left _ (List.mem_append_left _ haa)) nq3)).trans ((va_up_ne _ _ naa).trans ((va_up_ne _ _ naa).trans ((va_up_ne _ _ (ne_in (List.mem_append_left _ haa) nq2)).trans ((va_up_ne _ _ naa).trans ((va_up_ne _ _ (ne_in haa nq1)).trans ((va_up_ne _ _ naa).trans ((va_up_ne _ _ naa).trans ((va_up_ne _ _ naa).trans rfl)))))))))))), ⟨_, (va_up_self _ _ _)⟩⟩
set_option maxHeartbeats 4000000 in
set_option maxRecDepth 100000 in
theorem c_Reader_init {l : Launch} {G : GT} {L : List Nat} {E : Nat → va_E} {h0 : Nat} {f : Nat → Value}  (hL : h0 ∈ L) (hE : E h0 = ob 4 8 f) : Mq l G yX3_init cX3_init 1 none 4 [.ref h0] L E 12 101 (fun v L2 E2 => v = none ∧ (∀ a ∈ L, a ∈ L2) ∧ (∀ a ∈ L, a ≠ h0 → E2 a = E a) ∧ ∃ (g : Nat → Value), E2 h0 = ob 4 8 g) := by
  refine Mq.mk (by decide) (Nat.le_of_ble_eq_true rfl) ?_
  intro p e s m args below meth c A C
  refine q_aload_n (j := 0) C dX3_init_0 rfl ?_
  refine q_objInit C dX3_init_1 w1_184 w1_30 w1_31 ⟨Nat.le_of_ble_eq_true rfl, Nat.le_of_ble_eq_true rfl⟩ (Nat.le_of_ble_eq_true rfl) ?_
  refine q_aload_n (j := 0) C dX3_init_4 rfl ?_
  refine q_new C ck_0 dX3_init_5 w1_185 w1_65 w1_6 ⟨Nat.le_of_ble_eq_true rfl, Nat.le_of_ble_eq_true rfl⟩ (fun q1 nq1 => ?_)
  have ne_h0_q1 : h0 ≠ q1 := (ne_in hL nq1)
  refine q_dup C dX3_init_8 rfl ?_
  refine q_callI (d2 := 3) (mc2 := 0) (ms2 := 0) (As := []) (rest := [.ref q1, .ref h0]) C (c_ArrayList_init (List.mem_append_right _ (List.mem_singleton.mpr rfl)) (va_up_self _ _ _)) dX3_init_9 kI_X3_11 rfl rfl (Nat.le_of_ble_eq_true rfl) ⟨Nat.le_of_ble_eq_true rfl, Nat.le_of_ble_eq_true rfl⟩ ⟨Nat.le_of_ble_eq_true rfl, Nat.le_of_ble_eq_true rfl⟩ (fun vh1 Lh1 Eh1 h1 => ?_)
  obtain ⟨rfl, h1a, h1b, h1c⟩ := h1
  have et1 := (h1b _ (List.mem_append_left _ hL) ne_h0_q1).trans ((va_up_ne _ _ ne_h0_q1).trans hE)
  have lt1 := h1a _ (List.mem_append_left _ hL)
  refine q_st (st2 := [.ref q1, .ref h0]) rfl ?_
  refine q_putF (k := 0) C ck_4 dX3_init_12 w1_190 (by decide) rfl rfl rfl lt1 et1 rfl rfl ?_
  refine q_aload_n (j := 0) C dX3_init_15 rfl ?_
  refine q_new C ck_0 dX3_init_16 w1_185 w1_65 w1_6 ⟨Nat.le_of_ble_eq_true rfl, Nat.le_of_ble_eq_true rfl⟩ (fun q2 nq2 => ?_)
  have ne_h0_q2 : h0 ≠ q2 := (ne_in lt1 nq2)
  have ne_q1_q2 : q1 ≠ q2 := (ne_in (h1a _ (List.mem_append_right _ (List.mem_singleton.mpr rfl))) nq2)
  refine q_dup C dX3_init_19 rfl ?_
  refine q_callI (d2 := 3) (mc2 := 0) (ms2 := 0) (As := []) (rest := [.ref q2, .ref h0]) C (c_ArrayList_init (List.mem_append_right _ (List.mem_singleton.mpr rfl)) (va_up_self _ _ _)) dX3_init_20 kI_X3_11 rfl rfl (Nat.le_of_ble_eq_true rfl) ⟨Nat.le_of_ble_eq_true rfl, Nat.le_of_ble_eq_true rfl⟩ ⟨Nat.le_of_ble_eq_true rfl, Nat.le_of_ble_eq_true rfl⟩ (fun vh2 Lh2 Eh2 h2 => ?_)
  obtain ⟨rfl, h2a, h2b, h2c⟩ := h2
  have et2 := (h2b _ (List.mem_append_left _ lt1) ne_h0_q2).trans ((va_up_ne _ _ ne_h0_q2).trans (va_up_self _ _ _))
  have lt2 := h2a _ (List.mem_append_left _ lt1)
  have et3 := (h2b _ (List.mem_append_left _ (h1a _ (List.mem_append_right _ (List.mem_singleton.mpr rfl)))) ne_q1_q2).trans ((va_up_ne _ _ ne_q1_q2).trans ((va_up_ne _ _ (Ne.symm ne_h0_q1)).trans h1c))
  have lt3 := h2a _ (List.mem_append_left _ (h1a _ (List.mem_append_right _ (List.mem_singleton.mpr rfl))))
  refine q_st (st2 := [.ref q2, .ref h0]) rfl ?_
  refine q_putF (k := 1) C ck_4 dX3_init_23 w1_193 (by decide) rfl rfl rfl lt2 et2 rfl rfl ?_
  refine q_aload_n (j := 0) C dX3_init_26 rfl ?_
  refine q_new C ck_2 dX3_init_27 w1_187 w1_33 w1_2 ⟨Nat.le_of_ble_eq_true rfl, Nat.le_of_ble_eq_true rfl⟩ (fun q3 nq3 => ?_)
  have ne_h0_q3 : h0 ≠ q3 := (ne_in lt2 nq3)
  have ne_q1_q3 : q1 ≠ q3 := (ne_in lt3 nq3)
  have ne_q2_q3 : q2 ≠ q3 := (ne_in (h2a _ (List.mem_append_right _ (List.mem_singleton.mpr rfl))) nq3)
  refine q_dup C dX3_init_30 rfl ?_
  refine q_sipush (v := 6003) C dX3_init_31 (by decide) ?_
  refine q_callI (d2 := 1) (mc2 := 1) (ms2 := 16) (As := [.int 6003]) (rest := [.ref q3, .ref h0]) C (c_Ints_init 6003 (List.mem_append_right _ (List.mem_singleton.mpr rfl)) (va_up_self _ _ _)) dX3_init_34 kI_X3_23 rfl rfl (Nat.le_of_ble_eq_true rfl) ⟨Nat.le_of_ble_eq_true rfl, Nat.le_of_ble_eq_true rfl⟩ ⟨Nat.le_of_ble_eq_true rfl, Nat.le_of_ble_eq_true rfl⟩ (fun vh3 Lh3 Eh3 h3 => ?_)
  obtain ⟨rfl, h3a, h3b, r1, gr1, nr1, lr1, h3c, h30, h31, h32, h3d⟩ := h3
  have et4 := (h3b _ (List.mem_append_left _ lt2) ne_h0_q3).trans ((va_up_ne _ _ ne_h0_q3).trans (va_up_self _ _ _))
  have lt4 := h3a _ (List.mem_append_left _ lt2)
  have et5 := (h3b _ (List.mem_append_left _ lt3) ne_q1_q3).trans ((va_up_ne _ _ ne_q1_q3).trans ((va_up_ne _ _ (Ne.symm ne_h0_q1)).trans et3))
  have lt5 := h3a _ (List.mem_append_left _ lt3)
  have et6 := (h3b _ (List.mem_append_left _ (h2a _ (List.mem_append_right _ (List.mem_singleton.mpr rfl)))) ne_q2_q3).trans ((va_up_ne _ _ ne_q2_q3).trans ((va_up_ne _ _ (Ne.symm ne_h0_q2)).trans h2c))
  have lt6 := h3a _ (List.mem_append_left _ (h2a _ (List.mem_append_right _ (List.mem_singleton.mpr rfl))))
  refine q_st (st2 := [.ref q3, .ref h0]) rfl ?_
  refine q_putF (k := 2) C ck_4 dX3_init_37 w1_196 (by decide) rfl rfl rfl lt4 et4 rfl rfl ?_
  refine q_aload_n (j := 0) C dX3_init_40 rfl ?_
  refine q_new C ck_2 dX3_init_41 w1_187 w1_33 w1_2 ⟨Nat.le_of_ble_eq_true rfl, Nat.le_of_ble_eq_true rfl⟩ (fun q4 nq4 => ?_)
  have ne_h0_q4 : h0 ≠ q4 := (ne_in lt4 nq4)
  have ne_q1_q4 : q1 ≠ q4 := (ne_in lt5 nq4)
  have ne_q2_q4 : q2 ≠ q4 := (ne_in lt6 nq4)
  have ne_q3_q4 : q3 ≠ q4 := (ne_in (h3a _ (List.mem_append_right _ (List.mem_singleton.mpr rfl))) nq4)
  have ne_r1_q4 : r1 ≠ q4 := (ne_in lr1 nq4)
  refine q_dup C dX3_init_44 rfl ?_
  refine q_sipush (v := 6003) C dX3_init_45 (by decide) ?_
  refine q_callI (d2 := 1) (mc2 := 1) (ms2 := 16) (As := [.int 6003]) (rest := [.ref q4, .ref h0]) C (c_Ints_init 6003 (List.mem_append_right _ (List.mem_singleton.mpr rfl)) (va_up_self _ _ _)) dX3_init_48 kI_X3_23 rfl rfl (Nat.le_of_ble_eq_true rfl) ⟨Nat.le_of_ble_eq_true rfl, Nat.le_of_ble_eq_true rfl⟩ ⟨Nat.le_of_ble_eq_true rfl, Nat.le_of_ble_eq_true rfl⟩ (fun vh4 Lh4 Eh4 h4 => ?_)
  obtain ⟨rfl, h4a, h4b, r2, gr2, nr2, lr2, h4c, h40, h41, h42, h4d⟩ := h4
  have et7 := (h4b _ (List.mem_append_left _ lt4) ne_h0_q4).trans ((va_up_ne _ _ ne_h0_q4).trans (va_up_self _ _ _))
  have lt7 := h4a _ (List.mem_append_left _ lt4)
  have et8 := (h4b _ (List.mem_append_left _ lt5) ne_q1_q4).trans ((va_up_ne _ _ ne_q1_q4).trans ((va_up_ne _ _ (Ne.symm ne_h0_q1)).trans et5))
  have lt8 := h4a _ (List.mem_append_left _ lt5)
  have et9 := (h4b _ (List.mem_append_left _ lt6) ne_q2_q4).trans ((va_up_ne _ _ ne_q2_q4).trans ((va_up_ne _ _ (Ne.symm ne_h0_q2)).trans et6))
  have lt9 := h4a _ (List.mem_append_left _ lt6)
  have et10 := (h4b _ (List.mem_append_left _ (h3a _ (List.mem_append_right _ (List.mem_singleton.mpr rfl)))) ne_q3_q4).trans ((va_up_ne _ _ ne_q3_q4).trans ((va_up_ne _ _ (Ne.symm ne_h0_q3)).trans h3c))
  have lt10 := h4a _ (List.mem_append_left _ (h3a _ (List.mem_append_right _ (List.mem_singleton.mpr rfl))))
  have et11 := (h4b _ (List.mem_append_left _ lr1) ne_r1_q4).trans ((va_up_ne _ _ ne_r1_q4).trans ((va_up_ne _ _ (Ne.symm (ne_in (List.mem_append_left _ lt2) nr1))).trans h3d))
  have lt11 := h4a _ (List.mem_append_left _ lr1)
  refine q_st (st2 := [.ref q4, .ref h0]) rfl ?_
  refine q_putF (k := 3) C ck_4 dX3_init_51 w1_197 (by decide) rfl rfl rfl lt7 et7 rfl rfl ?_
  refine q_aload_n (j := 0) C dX3_init_54 rfl ?_
  refine q_new C ck_2 dX3_init_55 w1_187 w1_33 w1_2 ⟨Nat.le_of_ble_eq_true rfl, Nat.le_of_ble_eq_true rfl⟩ (fun q5 nq5 => ?_)
  have ne_h0_q5 : h0 ≠ q5 := (ne_in lt7 nq5)
  have ne_q1_q5 : q1 ≠ q5 := (ne_in lt8 nq5)
  have ne_q2_q5 : q2 ≠ q5 := (ne_in lt9 nq5)
  have ne_q3_q5 : q3 ≠ q5 := (ne_in lt10 nq5)
  have ne_r1_q5 : r1 ≠ q5 := (ne_in lt11 nq5)
  have ne_q4_q5 : q4 ≠ q5 := (ne_in (h4a _ (List.mem_append_right _ (List.mem_singleton.mpr rfl))) nq5)
  have ne_r2_q5 : r2 ≠ q5 := (ne_in lr2 nq5)
  refine q_dup C dX3_init_58 rfl ?_
  refine q_ldc (v := 40200) C dX3_init_59 w1_189 ?_
  refine q_callI (d2 := 1) (mc2 := 1) (ms2 := 16) (As := [.int 40200]) (rest := [.ref q5, .ref h0]) C (c_Ints_init 40200 (List.mem_append_right _ (List.mem_singleton.mpr rfl)) (va_up_self _ _ _)) dX3_init_61 kI_X3_23 rfl rfl (Nat.le_of_ble_eq_true rfl) ⟨Nat.le_of_ble_eq_true rfl, Nat.le_of_ble_eq_true rfl⟩ ⟨Nat.le_of_ble_eq_true rfl, Nat.le_of_ble_eq_true rfl⟩ (fun vh5 Lh5 Eh5 h5 => ?_)
  obtain ⟨rfl, h5a, h5b, r3, gr3, nr3, lr3, h5c, h50, h51, h52, h5d⟩ := h5
  have et12 := (h5b _ (List.mem_append_left _ lt7) ne_h0_q5).trans ((va_up_ne _ _ ne_h0_q5).trans (va_up_self _ _ _))
  have lt12 := h5a _ (List.mem_append_left _ lt7)
  have et13 := (h5b _ (List.mem_append_left _ lt8) ne_q1_q5).trans ((va_up_ne _ _ ne_q1_q5).trans ((va_up_ne _ _ (Ne.symm ne_h0_q1)).trans et8))
  have lt13 := h5a _ (List.mem_append_left _ lt8)
  have et14 := (h5b _ (List.mem_append_left _ lt9) ne_q2_q5).trans ((va_up_ne _ _ ne_q2_q5).trans ((va_up_ne _ _ (Ne.symm ne_h0_q2)).trans et9))
  have lt14 := h5a _ (List.mem_append_left _ lt9)
  have et15 := (h5b _ (List.mem_append_left _ lt10) ne_q3_q5).trans ((va_up_ne _ _ ne_q3_q5).trans ((va_up_ne _ _ (Ne.symm ne_h0_q3)).trans et10))
  have lt15 := h5a _ (List.mem_append_left _ lt10)
  have et16 := (h5b _ (List.mem_append_left _ lt11) ne_r1_q5).trans ((va_up_ne _ _ ne_r1_q5).trans ((va_up_ne _ _ (Ne.symm (ne_in (List.mem_append_left _ lt2) nr1))).trans et11))
  have lt16 := h5a _ (List.mem_append_left _ lt11)
  have et17 := (h5b _ (List.mem_append_left _ (h4a _ (List.mem_append_right _ (List.mem_singleton.mpr rfl)))) ne_q4_q5).trans ((va_up_ne _ _ ne_q4_q5).trans ((va_up_ne _ _ (Ne.symm ne_h0_q4)).trans h4c))
  have lt17 := h5a _ (List.mem_append_left _ (h4a _ (List.mem_append_right _ (List.mem_singleton.mpr rfl))))
  have et18 := (h5b _ (List.mem_append_left _ lr2) ne_r2_q5).trans ((va_up_ne _ _ ne_r2_q5).trans ((va_up_ne _ _ (Ne.symm (ne_in (List.mem_append_left _ lt4) nr2))).trans h4d))
  have lt18 := h5a _ (List.mem_append_left _ lr2)
  refine q_st (st2 := [.ref q5, .ref h0]) rfl ?_
  refine q_putF (k := 4) C ck_4 dX3_init_64 w1_198 (by decide) rfl rfl rfl lt12 et12 rfl rfl ?_
  refine q_aload_n (j := 0) C dX3_init_67 rfl ?_
  refine q_new C ck_2 dX3_init_68 w1_187 w1_33 w1_2 ⟨Nat.le_of_ble_eq_true rfl, Nat.le_of_ble_eq_true rfl⟩ (fun q6 nq6 => ?_)
  have ne_h0_q6 : h0 ≠ q6 := (ne_in lt12 nq6)
  have ne_q1_q6 : q1 ≠ q6 := (ne_in lt13 nq6)
  have ne_q2_q6 : q2 ≠ q6 := (ne_in lt14 nq6)
  have ne_q3_q6 : q3 ≠ q6 := (ne_in lt15 nq6)
  have ne_r1_q6 : r1 ≠ q6 := (ne_in lt16 nq6)
  have ne_q4_q6 : q4 ≠ q6 := (ne_in lt17 nq6)
  have ne_r2_q6 : r2 ≠ q6 := (ne_in lt18 nq6)
  have ne_q5_q6 : q5 ≠ q6 := (ne_in (h5a _ (List.mem_append_right _ (List.mem_singleton.mpr rfl))) nq6)
  have ne_r3_q6 : r3 ≠ q6 := (ne_in lr3 nq6)
  refine q_dup C dX3_init_71 rfl ?_
  refine q_ldc (v := 40200) C dX3_init_72 w1_189 ?_
  refine q_callI (d2 := 1) (mc2 := 1) (ms2 := 16) (As := [.int 40200]) (rest := [.ref q6, .ref h0]) C (c_Ints_init 40200 (List.mem_append_right _ (List.mem_singleton.mpr rfl)) (va_up_self _ _ _)) dX3_init_74 kI_X3_23 rfl rfl (Nat.le_of_ble_eq_true rfl) ⟨Nat.le_of_ble_eq_true rfl, Nat.le_of_ble_eq_true rfl⟩ ⟨Nat.le_of_ble_eq_true rfl, Nat.le_of_ble_eq_true rfl⟩ (fun vh6 Lh6 Eh6 h6 => ?_)
  obtain ⟨rfl, h6a, h6b, r4, gr4, nr4, lr4, h6c, h60, h61, h62, h6d⟩ := h6
  have et19 := (h6b _ (List.mem_append_left _ lt12) ne_h0_q6).trans ((va_up_ne _ _ ne_h0_q6).trans (va_up_self _ _ _))
  have lt19 := h6a _ (List.mem_append_left _ lt12)
  have et20 := (h6b _ (List.mem_append_left _ lt13) ne_q1_q6).trans ((va_up_ne _ _ ne_q1_q6).trans ((va_up_ne _ _ (Ne.symm ne_h0_q1)).trans et13))
  have lt20 := h6a _ (List.mem_append_left _ lt13)
  have et21 := (h6b _ (List.mem_append_left _ lt14) ne_q2_q6).trans ((va_up_ne _ _ ne_q2_q6).trans ((va_up_ne _ _ (Ne.symm ne_h0_q2)).trans et14))
  have lt21 := h6a _ (List.mem_append_left _ lt14)
  have et22 := (h6b _ (List.mem_append_left _ lt15) ne_q3_q6).trans ((va_up_ne _ _ ne_q3_q6).trans ((va_up_ne _ _ (Ne.symm ne_h0_q3)).trans et15))
  have lt22 := h6a _ (List.mem_append_left _ lt15)
  have et23 := (h6b _ (List.mem_append_left _ lt16) ne_r1_q6).trans ((va_up_ne _ _ ne_r1_q6).trans ((va_up_ne _ _ (Ne.symm (ne_in (List.mem_append_left _ lt2) nr1))).trans et16))
  have lt23 := h6a _ (List.mem_append_left _ lt16)
  have et24 := (h6b _ (List.mem_append_left _ lt17) ne_q4_q6).trans ((va_up_ne _ _ ne_q4_q6).trans ((va_up_ne _ _ (Ne.symm ne_h0_q4)).trans et17))
  have lt24 := h6a _ (List.mem_append_left _ lt17)
  have et25 := (h6b _ (List.mem_append_left _ lt18) ne_r2_q6).trans ((va_up_ne _ _ ne_r2_q6).trans ((va_up_ne _ _ (Ne.symm (ne_in (List.mem_append_left _ lt4) nr2))).trans et18))
  have lt25 := h6a _ (List.mem_append_left _ lt18)
  have et26 := (h6b _ (List.mem_append_left _ (h5a _ (List.mem_append_right _ (List.mem_singleton.mpr rfl)))) ne_q5_q6).trans ((va_up_ne _ _ ne_q5_q6).trans ((va_up_ne _ _ (Ne.symm ne_h0_q5)).trans h5c))
  have lt26 := h6a _ (List.mem_append_left _ (h5a _ (List.mem_append_right _ (List.mem_singleton.mpr rfl))))
  have et27 := (h6b _ (List.mem_append_left _ lr3) ne_r3_q6).trans ((va_up_ne _ _ ne_r3_q6).trans ((va_up_ne _ _ (Ne.symm (ne_in (List.mem_append_left _ lt7) nr3))).trans h5d))
  have lt27 := h6a _ (List.mem_append_left _ lr3)
  refine q_st (st2 := [.ref q6, .ref h0]) rfl ?_
  refine q_putF (k := 5) C ck_4 dX3_init_77 w1_199 (by decide) rfl rfl rfl lt19 et19 rfl rfl ?_
  refine q_aload_n (j := 0) C dX3_init_80 rfl ?_
  refine q_new C ck_2 dX3_init_81 w1_187 w1_33 w1_2 ⟨Nat.le_of_ble_eq_true rfl, Nat.le_of_ble_eq_true rfl⟩ (fun q7 nq7 => ?_)
  have ne_h0_q7 : h0 ≠ q7 := (ne_in lt19 nq7)
  have ne_q1_q7 : q1 ≠ q7 := (ne_in lt20 nq7)
  have ne_q2_q7 : q2 ≠ q7 := (ne_in lt21 nq7)
  have ne_q3_q7 : q3 ≠ q7 := (ne_in lt22 nq7)
  have ne_r1_q7 : r1 ≠ q7 := (ne_in lt23 nq7)
  have ne_q4_q7 : q4 ≠ q7 := (ne_in lt24 nq7)
  have ne_r2_q7 : r2 ≠ q7 := (ne_in lt25 nq7)
  have ne_q5_q7 : q5 ≠ q7 := (ne_in lt26 nq7)
  have ne_r3_q7 : r3 ≠ q7 := (ne_in lt27 nq7)
  have ne_q6_q7 : q6 ≠ q7 := (ne_in (h6a _ (List.mem_append_right _ (List.mem_singleton.mpr rfl))) nq7)
  have ne_r4_q7 : r4 ≠ q7 := (ne_in lr4 nq7)
  refine q_dup C dX3_init_84 rfl ?_
  refine q_sipush (v := 4001) C dX3_init_85 (by decide) ?_
  refine q_callI (d2 := 1) (mc2 := 1) (ms2 := 16) (As := [.int 4001]) (rest := [.ref q7, .ref h0]) C (c_Ints_init 4001 (List.mem_append_right _ (List.mem_singleton.mpr rfl)) (va_up_self _ _ _)) dX3_init_88 kI_X3_23 rfl rfl (Nat.le_of_ble_eq_true rfl) ⟨Nat.le_of_ble_eq_true rfl, Nat.le_of_ble_eq_true rfl⟩ ⟨Nat.le_of_ble_eq_true rfl, Nat.le_of_ble_eq_true rfl⟩ (fun vh7 Lh7 Eh7 h7 => ?_)
  obtain ⟨rfl, h7a, h7b, r5, gr5, nr5, lr5, h7c, h70, h71, h72, h7d⟩ := h7
  have et28 := (h7b _ (List.mem_append_left _ lt19) ne_h0_q7).trans ((va_up_ne _ _ ne_h0_q7).trans (va_up_self _ _ _))
  have lt28 := h7a _ (List.mem_append_left _ lt19)
  have et29 := (h7b _ (List.mem_append_left _ lt20) ne_q1_q7).trans ((va_up_ne _ _ ne_q1_q7).trans ((va_up_ne _ _ (Ne.symm ne_h0_q1)).trans et20))
  have lt29 := h7a _ (List.mem_append_left _ lt20)
  have et30 := (h7b _ (List.mem_append_left _ lt21) ne_q2_q7).trans ((va_up_ne _ _ ne_q2_q7).trans ((va_up_ne _ _ (Ne.symm ne_h0_q2)).trans et21))
  have lt30 := h7a _ (List.mem_append_left _ lt21)
  have et31 := (h7b _ (List.mem_append_left _ lt22) ne_q3_q7).trans ((va_up_ne _ _ ne_q3_q7).trans ((va_up_ne _ _ (Ne.symm ne_h0_q3)).trans et22))
  have lt31 := h7a _ (List.mem_append_left _ lt22)
  have et32 := (h7b _ (List.mem_append_left _ lt23) ne_r1_q7).trans ((va_up_ne _ _ ne_r1_q7).trans ((va_up_ne _ _ (Ne.symm (ne_in (List.mem_append_left _ lt2) nr1))).trans et23))
  have lt32 := h7a _ (List.mem_append_left _ lt23)
  have et33 := (h7b _ (List.mem_append_left _ lt24) ne_q4_q7).trans ((va_up_ne _ _ ne_q4_q7).trans ((va_up_ne _ _ (Ne.symm ne_h0_q4)).trans et24))
  have lt33 := h7a _ (List.mem_append_left _ lt24)
  have et34 := (h7b _ (List.mem_append_left _ lt25) ne_r2_q7).trans ((va_up_ne _ _ ne_r2_q7).trans ((va_up_ne _ _ (Ne.symm (ne_in (List.mem_append_left _ lt4) nr2))).trans et25))
  have lt34 := h7a _ (List.mem_append_left _ lt25)
  have et35 := (h7b _ (List.mem_append_left _ lt26) ne_q5_q7).trans ((va_up_ne _ _ ne_q5_q7).trans ((va_up_ne _ _ (Ne.symm ne_h0_q5)).trans et26))
  have lt35 := h7a _ (List.mem_append_left _ lt26)
  have et36 := (h7b _ (List.mem_append_left _ lt27) ne_r3_q7).trans ((va_up_ne _ _ ne_r3_q7).trans ((va_up_ne _ _ (Ne.symm (ne_in (List.mem_append_left _ lt7) nr3))).trans et27))
  have lt36 := h7a _ (List.mem_append_left _ lt27)
  have et37 := (h7b _ (List.mem_append_left _ (h6a _ (List.mem_append_right _ (List.mem_singleton.mpr rfl)))) ne_q6_q7).trans ((va_up_ne _ _ ne_q6_q7).trans ((va_up_ne _ _ (Ne.symm ne_h0_q6)).trans h6c))
  have lt37 := h7a _ (List.mem_append_left _ (h6a _ (List.mem_append_right _ (List.mem_singleton.mpr rfl))))
  have et38 := (h7b _ (List.mem_append_left _ lr4) ne_r4_q7).trans ((va_up_ne _ _ ne_r4_q7).trans ((va_up_ne _ _ (Ne.symm (ne_in (List.mem_append_left _ lt12) nr4))).trans h6d))
  have lt38 := h7a _ (List.mem_append_left _ lr4)
  refine q_st (st2 := [.ref q7, .ref h0]) rfl ?_
  refine q_putF (k := 6) C ck_4 dX3_init_91 w1_200 (by decide) rfl rfl rfl lt28 et28 rfl rfl ?_
  refine q_aload_n (j := 0) C dX3_init_94 rfl ?_
  refine q_iconst (v := 0) C dX3_init_95 (by decide) ?_
  refine q_put (k := 7) C ck_4 dX3_init_96 w1_202 (by decide) rfl lt28 (va_up_self _ _ _) rfl rfl ?_
  exact q_vret C dX3_init_99 rfl (Nat.le_of_ble_eq_true rfl) (Nat.le_of_ble_eq_true rfl) ⟨rfl, (fun aa haa => (h7a _ (List.mem_append_left _ (h6a _ (List.mem_append_left _ (h5a _ (List.mem_append_left _ (h4a _ (List.mem_append_left _ (h3a _ (List.mem_append_left _ (h2a _ (List.mem_append_left _ (h1a _ (List.mem_append_left _ haa))))))))))))))), (fun aa haa naa => ((va_up_ne _ _ naa).trans ((va_up_ne _ _ naa).trans ((h7b _ (List.mem_append_left _ (h6a _ (List.mem_append_left _ (h5a _ (List.mem_append_left _ (h4a _ (List.mem_append_left _ (h3a _ (List.mem_append_left _ (h2a _ (List.mem_append_left _ (h1a _ (List.mem_append_left _ haa))))))))))))) (ne_in (h6a _ (List.mem_append_left _ (h5a _ (List.mem_append_left _ (h4a _ (List.mem_append_left _ (h3a _ (List.mem_append_left _ (h2a _ (List.mem_append_left _ (h1a _ (List.mem_append_left _ haa)))))))))))) nq7)).trans ((va_up_ne _ _ (ne_in (h6a _ (List.mem_append_left _ (h5a _ (List.mem_append_left _ (h4a _ (List.mem_append_left _ (h3a _ (List.mem_append_left _ (h2a _ (List.mem_append_left _ (h1a _ (List.mem_append_left _ haa)))))))))))) nq7)).trans ((va_up_ne _ _ naa).trans ((h6b _ (List.mem_append_left _ (h5a _ (List.mem_append_left _ (h4a _ (List.mem_append_left _ (h3a _ (List.mem_append_left _ (h2a _ (List.mem_append_left _ (h1a _ (List.mem_append_left _ haa))))))))))) (ne_in (h5a _ (List.mem_append_left _ (h4a _ (List.mem_append_left _ (h3a _ (List.mem_append_left _ (h2a _ (List.mem_append_left _ (h1a _ (List.mem_append_left _ haa)))))))))) nq6)).trans ((va_up_ne _ _ (ne_in (h5a _ (List.mem_append_left _ (h4a _ (List.mem_append_left _ (h3a _ (List.mem_append_left _ (h2a _ (List.mem_append_left _ (h1a _ (List.mem_append_left _ haa)))))))))) nq6)).trans ((va_up_ne _ _ naa).trans ((h5b _ (List.mem_append_left _ (h4a _ (List.mem_append_left _ (h3a _ (List.mem_append_left _ (h2a _ (List.mem_append_left _ (h1a _ (List.mem_append_left _ haa))))))))) (ne_in (h4a _ (List.mem_append_left _ (h3a _ (List.mem_append_left _ (h2a _ (List.mem_append_left _ (h1a _ (List.mem_append_left _ haa)))))))) nq5)).trans ((va_up_ne _ _ (ne_in (h4a _ (List.mem_append_left _ (h3a _ (List.mem_append_left _ (h2a _ (List.mem_append_left _ (h1a _ (List.mem_append_left _ haa)))))))) nq5)).trans ((va_up_ne _ _ naa).trans ((h4b _ (List.mem_append_left _ (h3a _ (List.mem_append_left _ (h2a _ (List.mem_append_left _ (h1a _ (List.mem_append_left _ haa))))))) (ne_in (h3a _ (List.mem_append_left _ (h2a _ (List.mem_append_left _ (h1a _ (List.mem_append_left _ haa)))))) nq4)).trans ((va_up_ne _ _ (ne_in (h3a _ (List.mem_append_left _ (h2a _ (List.mem_append_left _ (h1a _ (List.mem_append_left _ haa)))))) nq4)).trans ((va_up_ne _ _ naa).trans ((h3b _ (List.mem_append_left _ (h2a _ (List.mem_append_left _ (h1a _ (List.mem_append_left _ haa))))) (ne_in (h2a _ (List.mem_append_left _ (h1a _ (List.mem_append_left _ haa)))) nq3)).trans ((va_up_ne _ _ (ne_in (h2a _ (List.mem_append_left _ (h1a _ (List.mem_append_left _ haa)))) nq3)).trans ((va_up_ne _ _ naa).trans ((h2b _ (List.mem_append_left _ (h1a _ (List.mem_append_left _ haa))) (ne_in (h1a _ (List.mem_append_left _ haa)) nq2)).trans ((va_up_ne _ _ (ne_in (h1a _ (List.mem_append_left _ haa)) nq2)).trans ((va_up_ne _ _ naa).trans ((h1b _ (List.mem_append_left _ haa) (ne_in haa nq1)).trans ((va_up_ne _ _ (ne_in haa nq1)).trans rfl))))))))))))))))))))))), ⟨_, (va_up_self _ _ _)⟩⟩
set_option maxHeartbeats 4000000 in
set_option maxRecDepth 100000 in
theorem c_Readings_init {l : Launch} {G : GT} {L : List Nat} {E : Nat → va_E} {h0 : Nat} {f : Nat → Value} {rd : Nat} (hL : h0 ∈ L) (hE : E h0 = ob 5 11 f) : Mq l G yX4_init cX4_init 2 none 2 [.ref h0, .ref rd] L E 7 775 (fun v L2 E2 => v = none ∧ (∀ a ∈ L, a ∈ L2) ∧ (∀ a ∈ L, a ≠ h0 → E2 a = E a) ∧ ∃ (g : Nat → Value), E2 h0 = ob 5 11 g ∧ g 5 = .int 0 ∧ g 6 = .int 0) := by
  refine Mq.mk (by decide) (Nat.le_of_ble_eq_true rfl) ?_
  intro p e s m args below meth c A C
  refine q_aload_n (j := 0) C dX4_init_0 rfl ?_
  refine q_objInit C dX4_init_1 w1_225 w1_30 w1_31 ⟨Nat.le_of_ble_eq_true rfl, Nat.le_of_ble_eq_true rfl⟩ (Nat.le_of_ble_eq_true rfl) ?_
  refine q_aload_n (j := 0) C dX4_init_4 rfl ?_
  refine q_sipush (v := 404) C dX4_init_5 (by decide) ?_
  refine q_newaZ (N := 404) C dX4_init_8 w1_129 (by decide) (by decide) (by decide) ⟨Nat.le_of_ble_eq_true rfl, Nat.le_of_ble_eq_true rfl⟩ (fun q1 nq1 => ?_)
  have ne_h0_q1 : h0 ≠ q1 := (ne_in hL nq1)
  refine q_putF (k := 0) C ck_5 dX4_init_10 w1_229 (by decide) rfl rfl rfl (List.mem_append_left _ hL) ((va_up_ne _ _ ne_h0_q1).trans hE) rfl rfl ?_
  refine q_aload_n (j := 0) C dX4_init_13 rfl ?_
  refine q_bipush (v := 101) C dX4_init_14 (by decide) ?_
  refine q_newaI (N := 101) C dX4_init_16 w1_57 (by decide) (by decide) (by decide) ⟨Nat.le_of_ble_eq_true rfl, Nat.le_of_ble_eq_true rfl⟩ (fun q2 nq2 => ?_)
  have ne_h0_q2 : h0 ≠ q2 := (ne_in (List.mem_append_left _ hL) nq2)
  have ne_q1_q2 : q1 ≠ q2 := (ne_in (List.mem_append_right _ (List.mem_singleton.mpr rfl)) nq2)
  refine q_putF (k := 1) C ck_5 dX4_init_18 w1_230 (by decide) rfl rfl rfl (List.mem_append_left _ (List.mem_append_left _ hL)) ((va_up_ne _ _ ne_h0_q2).trans (va_up_self _ _ _)) rfl rfl ?_
  refine q_aload_n (j := 0) C dX4_init_21 rfl ?_
  refine q_bipush (v := 101) C dX4_init_22 (by decide) ?_
  refine q_newaI (N := 101) C dX4_init_24 w1_57 (by decide) (by decide) (by decide) ⟨Nat.le_of_ble_eq_true rfl, Nat.le_of_ble_eq_true rfl⟩ (fun q3 nq3 => ?_)
  have ne_h0_q3 : h0 ≠ q3 := (ne_in (List.mem_append_left _ (List.mem_append_left _ hL)) nq3)
  have ne_q1_q3 : q1 ≠ q3 := (ne_in (List.mem_append_left _ (List.mem_append_right _ (List.mem_singleton.mpr rfl))) nq3)
  have ne_q2_q3 : q2 ≠ q3 := (ne_in (List.mem_append_right _ (List.mem_singleton.mpr rfl)) nq3)
  refine q_putF (k := 2) C ck_5 dX4_init_26 w1_231 (by decide) rfl rfl rfl (List.mem_append_left _ (List.mem_append_left _ (List.mem_append_left _ hL))) ((va_up_ne _ _ ne_h0_q3).trans (va_up_self _ _ _)) rfl rfl ?_
  refine q_aload_n (j := 0) C dX4_init_29 rfl ?_
  refine q_bipush (v := 50) C dX4_init_30 (by decide) ?_
  refine q_newaI (N := 50) C dX4_init_32 w1_57 (by decide) (by decide) (by decide) ⟨Nat.le_of_ble_eq_true rfl, Nat.le_of_ble_eq_true rfl⟩ (fun q4 nq4 => ?_)
  have ne_h0_q4 : h0 ≠ q4 := (ne_in (List.mem_append_left _ (List.mem_append_left _ (List.mem_append_left _ hL))) nq4)
  have ne_q1_q4 : q1 ≠ q4 := (ne_in (List.mem_append_left _ (List.mem_append_left _ (List.mem_append_right _ (List.mem_singleton.mpr rfl)))) nq4)
  have ne_q2_q4 : q2 ≠ q4 := (ne_in (List.mem_append_left _ (List.mem_append_right _ (List.mem_singleton.mpr rfl))) nq4)
  have ne_q3_q4 : q3 ≠ q4 := (ne_in (List.mem_append_right _ (List.mem_singleton.mpr rfl)) nq4)
  refine q_putF (k := 3) C ck_5 dX4_init_34 w1_232 (by decide) rfl rfl rfl (List.mem_append_left _ (List.mem_append_left _ (List.mem_append_left _ (List.mem_append_left _ hL)))) ((va_up_ne _ _ ne_h0_q4).trans (va_up_self _ _ _)) rfl rfl ?_
  refine q_aload_n (j := 0) C dX4_init_37 rfl ?_
  refine q_new C ck_2 dX4_init_38 w1_226 w1_33 w1_2 ⟨Nat.le_of_ble_eq_true rfl, Nat.le_of_ble_eq_true rfl⟩ (fun q5 nq5 => ?_)
  have ne_h0_q5 : h0 ≠ q5 := (ne_in (List.mem_append_left _ (List.mem_append_left _ (List.mem_append_left _ (List.mem_append_left _ hL)))) nq5)
  have ne_q1_q5 : q1 ≠ q5 := (ne_in (List.mem_append_left _ (List.mem_append_left _ (List.mem_append_left _ (List.mem_append_right _ (List.mem_singleton.mpr rfl))))) nq5)
  have ne_q2_q5 : q2 ≠ q5 := (ne_in (List.mem_append_left _ (List.mem_append_left _ (List.mem_append_right _ (List.mem_singleton.mpr rfl)))) nq5)
  have ne_q3_q5 : q3 ≠ q5 := (ne_in (List.mem_append_left _ (List.mem_append_right _ (List.mem_singleton.mpr rfl))) nq5)
  have ne_q4_q5 : q4 ≠ q5 := (ne_in (List.mem_append_right _ (List.mem_singleton.mpr rfl)) nq5)
  refine q_dup C dX4_init_41 rfl ?_
  refine q_ldc (v := 40000) C dX4_init_42 w1_227 ?_
  refine q_callI (d2 := 1) (mc2 := 1) (ms2 := 16) (As := [.int 40000]) (rest := [.ref q5, .ref h0]) C (c_Ints_init 40000 (List.mem_append_right _ (List.mem_singleton.mpr rfl)) (va_up_self _ _ _)) dX4_init_44 kI_X4_28 rfl rfl (Nat.le_of_ble_eq_true rfl) ⟨Nat.le_of_ble_eq_true rfl, Nat.le_of_ble_eq_true rfl⟩ ⟨Nat.le_of_ble_eq_true rfl, Nat.le_of_ble_eq_true rfl⟩ (fun vh1 Lh1 Eh1 h1 => ?_)
  obtain ⟨rfl, h1a, h1b, r1, gr1, nr1, lr1, h1c, h10, h11, h12, h1d⟩ := h1
  have et1 := (h1b _ (List.mem_append_left _ (List.mem_append_left _ (List.mem_append_left _ (List.mem_append_left _ (List.mem_append_left _ hL))))) ne_h0_q5).trans ((va_up_ne _ _ ne_h0_q5).trans (va_up_self _ _ _))
  have lt1 := h1a _ (List.mem_append_left _ (List.mem_append_left _ (List.mem_append_left _ (List.mem_append_left _ (List.mem_append_left _ hL)))))
  have et2 := (h1b _ (List.mem_append_left _ (List.mem_append_left _ (List.mem_append_left _ (List.mem_append_left _ (List.mem_append_right _ (List.mem_singleton.mpr rfl)))))) ne_q1_q5).trans ((va_up_ne _ _ ne_q1_q5).trans ((va_up_ne _ _ (Ne.symm ne_h0_q1)).trans ((va_up_ne _ _ ne_q1_q4).trans ((va_up_ne _ _ (Ne.symm ne_h0_q1)).trans ((va_up_ne _ _ ne_q1_q3).trans ((va_up_ne _ _ (Ne.symm ne_h0_q1)).trans ((va_up_ne _ _ ne_q1_q2).trans ((va_up_ne _ _ (Ne.symm ne_h0_q1)).trans (va_up_self _ _ _)))))))))
  have lt2 := h1a _ (List.mem_append_left _ (List.mem_append_left _ (List.mem_append_left _ (List.mem_append_left _ (List.mem_append_right _ (List.mem_singleton.mpr rfl))))))
  have et3 := (h1b _ (List.mem_append_left _ (List.mem_append_left _ (List.mem_append_left _ (List.mem_append_right _ (List.mem_singleton.mpr rfl))))) ne_q2_q5).trans ((va_up_ne _ _ ne_q2_q5).trans ((va_up_ne _ _ (Ne.symm ne_h0_q2)).trans ((va_up_ne _ _ ne_q2_q4).trans ((va_up_ne _ _ (Ne.symm ne_h0_q2)).trans ((va_up_ne _ _ ne_q2_q3).trans ((va_up_ne _ _ (Ne.symm ne_h0_q2)).trans (va_up_self _ _ _)))))))
  have lt3 := h1a _ (List.mem_append_left _ (List.mem_append_left _ (List.mem_append_left _ (List.mem_append_right _ (List.mem_singleton.mpr rfl)))))
  have et4 := (h1b _ (List.mem_append_left _ (List.mem_append_left _ (List.mem_append_right _ (List.mem_singleton.mpr rfl)))) ne_q3_q5).trans ((va_up_ne _ _ ne_q3_q5).trans ((va_up_ne _ _ (Ne.symm ne_h0_q3)).trans ((va_up_ne _ _ ne_q3_q4).trans ((va_up_ne _ _ (Ne.symm ne_h0_q3)).trans (va_up_self _ _ _)))))
  have lt4 := h1a _ (List.mem_append_left _ (List.mem_append_left _ (List.mem_append_right _ (List.mem_singleton.mpr rfl))))
  have et5 := (h1b _ (List.mem_append_left _ (List.mem_append_right _ (List.mem_singleton.mpr rfl))) ne_q4_q5).trans ((va_up_ne _ _ ne_q4_q5).trans ((va_up_ne _ _ (Ne.symm ne_h0_q4)).trans (va_up_self _ _ _)))
  have lt5 := h1a _ (List.mem_append_left _ (List.mem_append_right _ (List.mem_singleton.mpr rfl)))
  refine q_st (st2 := [.ref q5, .ref h0]) rfl ?_
  refine q_putF (k := 4) C ck_5 dX4_init_47 w1_233 (by decide) rfl rfl rfl lt1 et1 rfl rfl ?_
  refine q_aload_n (j := 0) C dX4_init_50 rfl ?_
  refine q_iconst (v := 0) C dX4_init_51 (by decide) ?_
  refine q_put (k := 5) C ck_5 dX4_init_52 w1_234 (by decide) rfl lt1 (va_up_self _ _ _) rfl rfl ?_
  refine q_aload_n (j := 0) C dX4_init_55 rfl ?_
  refine q_iconst (v := 0) C dX4_init_56 (by decide) ?_
  refine q_put (k := 6) C ck_5 dX4_init_57 w1_236 (by decide) rfl lt1 (va_up_self _ _ _) (by decide) rfl ?_
  refine q_aload_n (j := 0) C dX4_init_60 rfl ?_
  refine q_bipush (v := 100) C dX4_init_61 (by decide) ?_
  refine q_newaI (N := 100) C dX4_init_63 w1_57 (by decide) (by decide) (by decide) ⟨Nat.le_of_ble_eq_true rfl, Nat.le_of_ble_eq_true rfl⟩ (fun q6 nq6 => ?_)
  have ne_h0_q6 : h0 ≠ q6 := (ne_in lt1 nq6)
  have ne_q1_q6 : q1 ≠ q6 := (ne_in lt2 nq6)
  have ne_q2_q6 : q2 ≠ q6 := (ne_in lt3 nq6)
  have ne_q3_q6 : q3 ≠ q6 := (ne_in lt4 nq6)
  have ne_q4_q6 : q4 ≠ q6 := (ne_in lt5 nq6)
  have ne_q5_q6 : q5 ≠ q6 := (ne_in (h1a _ (List.mem_append_right _ (List.mem_singleton.mpr rfl))) nq6)
  have ne_r1_q6 : r1 ≠ q6 := (ne_in lr1 nq6)
  refine q_putF (k := 8) C ck_5 dX4_init_65 w1_239 (by decide) rfl rfl rfl (List.mem_append_left _ lt1) ((va_up_ne _ _ ne_h0_q6).trans (va_up_self _ _ _)) rfl rfl ?_
  refine q_aload_n (j := 0) C dX4_init_68 rfl ?_
  refine q_iconst (v := 0) C dX4_init_69 (by decide) ?_
  refine q_put (k := 9) C ck_5 dX4_init_70 w2_0 (by decide) rfl (List.mem_append_left _ lt1) (va_up_self _ _ _) rfl rfl ?_
  refine q_aload_n (j := 0) C dX4_init_73 rfl ?_
  refine q_iconst (v := 0) C dX4_init_74 (by decide) ?_
  refine q_put (k := 10) C ck_5 dX4_init_75 w2_1 (by decide) rfl (List.mem_append_left _ lt1) (va_up_self _ _ _) rfl rfl ?_
  refine q_aload_n (j := 0) C dX4_init_78 rfl ?_
  refine q_aload_n (j := 1) C dX4_init_79 rfl ?_
  refine q_putF (k := 7) C ck_5 dX4_init_80 w1_238 (by decide) rfl rfl rfl (List.mem_append_left _ lt1) (va_up_self _ _ _) rfl rfl ?_
  exact q_vret C dX4_init_83 rfl (Nat.le_of_ble_eq_true rfl) (Nat.le_of_ble_eq_true rfl) ⟨rfl, (fun aa haa => (List.mem_append_left _ (h1a _ (List.mem_append_left _ (List.mem_append_left _ (List.mem_append_left _ (List.mem_append_left _ (List.mem_append_left _ haa)))))))), (fun aa haa naa => ((va_up_ne _ _ naa).trans ((va_up_ne _ _ naa).trans ((va_up_ne _ _ naa).trans ((va_up_ne _ _ naa).trans ((va_up_ne _ _ (ne_in (h1a _ (List.mem_append_left _ (List.mem_append_left _ (List.mem_append_left _ (List.mem_append_left _ (List.mem_append_left _ haa)))))) nq6)).trans ((va_up_ne _ _ naa).trans ((va_up_ne _ _ naa).trans ((va_up_ne _ _ naa).trans ((h1b _ (List.mem_append_left _ (List.mem_append_left _ (List.mem_append_left _ (List.mem_append_left _ (List.mem_append_left _ haa))))) (ne_in (List.mem_append_left _ (List.mem_append_left _ (List.mem_append_left _ (List.mem_append_left _ haa)))) nq5)).trans ((va_up_ne _ _ (ne_in (List.mem_append_left _ (List.mem_append_left _ (List.mem_append_left _ (List.mem_append_left _ haa)))) nq5)).trans ((va_up_ne _ _ naa).trans ((va_up_ne _ _ (ne_in (List.mem_append_left _ (List.mem_append_left _ (List.mem_append_left _ haa))) nq4)).trans ((va_up_ne _ _ naa).trans ((va_up_ne _ _ (ne_in (List.mem_append_left _ (List.mem_append_left _ haa)) nq3)).trans ((va_up_ne _ _ naa).trans ((va_up_ne _ _ (ne_in (List.mem_append_left _ haa) nq2)).trans ((va_up_ne _ _ naa).trans ((va_up_ne _ _ (ne_in haa nq1)).trans rfl))))))))))))))))))), ⟨_, (va_up_self _ _ _), rfl, rfl⟩⟩
set_option maxHeartbeats 4000000 in
set_option maxRecDepth 100000 in
theorem c_Sheet_init {l : Launch} {G : GT} {L : List Nat} {E : Nat → va_E} {h0 : Nat} {f : Nat → Value}  (hL : h0 ∈ L) (hE : E h0 = ob 8 3 f) : Mq l G yX7_init cX7_init 1 none 1 [.ref h0] L E 1 200 (fun v L2 E2 => v = none ∧ (∀ a ∈ L, a ∈ L2) ∧ (∀ a ∈ L, a ≠ h0 → E2 a = E a) ∧ ∃ (g : Nat → Value), E2 h0 = ob 8 3 g ∧ g 1 = .int 0) := by
  refine Mq.mk (by decide) (Nat.le_of_ble_eq_true rfl) ?_
  intro p e s m args below meth c A C
  refine q_aload_n (j := 0) C dX7_init_0 rfl ?_
  refine q_objInit C dX7_init_1 w2_30 w1_30 w1_31 ⟨Nat.le_of_ble_eq_true rfl, Nat.le_of_ble_eq_true rfl⟩ (Nat.le_of_ble_eq_true rfl) ?_
  refine q_aload_n (j := 0) C dX7_init_4 rfl ?_
  refine q_sipush (v := 200) C dX7_init_5 (by decide) ?_
  refine q_newqL (N := 200) C dX7_init_8 w2_31 w2_32t (by decide) (by decide) (by decide) ⟨Nat.le_of_ble_eq_true rfl, Nat.le_of_ble_eq_true rfl⟩ (fun q1 nq1 => ?_)
  have ne_h0_q1 : h0 ≠ q1 := (ne_in hL nq1)
  refine q_putF (k := 0) C ck_8 dX7_init_11 w2_33 (by decide) rfl rfl rfl (List.mem_append_left _ hL) ((va_up_ne _ _ ne_h0_q1).trans hE) rfl rfl ?_
  refine q_aload_n (j := 0) C dX7_init_14 rfl ?_
  refine q_iconst (v := 0) C dX7_init_15 (by decide) ?_
  refine q_put (k := 1) C ck_8 dX7_init_16 w2_34 (by decide) rfl (List.mem_append_left _ hL) (va_up_self _ _ _) rfl rfl ?_
  refine q_aload_n (j := 0) C dX7_init_19 rfl ?_
  refine q_iconst (v := 0) C dX7_init_20 (by decide) ?_
  refine q_put (k := 2) C ck_8 dX7_init_21 w2_36 (by decide) rfl (List.mem_append_left _ hL) (va_up_self _ _ _) rfl rfl ?_
  exact q_vret C dX7_init_24 rfl (Nat.le_of_ble_eq_true rfl) (Nat.le_of_ble_eq_true rfl) ⟨rfl, (fun aa haa => (List.mem_append_left _ haa)), (fun aa haa naa => ((va_up_ne _ _ naa).trans ((va_up_ne _ _ naa).trans ((va_up_ne _ _ naa).trans ((va_up_ne _ _ (ne_in haa nq1)).trans rfl))))), ⟨_, (va_up_self _ _ _), rfl⟩⟩
def XF (G : GT) (L : List Nat) (E : Nat → va_E) (h0 : Nat) : Prop := ∃ (tp qt wr br hd tb md ch wd fi fo sh : Nat) (f ft fw fb fh fT fm fc fd ff fs : Nat → Value),
  h0 ∈ L ∧ E h0 = ob 12 19 f ∧ f 0 = .ref tp ∧ f 1 = .ref wr ∧ f 2 = .ref br ∧ f 3 = .ref hd ∧ f 4 = .ref tb ∧ f 6 = .ref wd ∧ f 8 = .ref fo ∧ f 9 = .ref sh ∧
  f 11 = .int 32 ∧ f 12 = .int 25 ∧ f 13 = .int 36 ∧ f 14 = .int 0 ∧ f 15 = .int 0 ∧ f 16 = .int 0 ∧ f 17 = .int 0 ∧ f 18 = .int (-1) ∧
  tp ∈ L ∧ E tp = ob 2 3 ft ∧ ft 0 = .int 3000 ∧ ft 1 = .ref qt ∧ ft 2 = .int 0 ∧ qt ∈ L ∧ E qt = aI G 16 (fun _ => 0) ∧
  wr ∈ L ∧ E wr = ob 2 3 fw ∧ fw 2 = .int 0 ∧ br ∈ L ∧ E br = ob 2 3 fb ∧ fb 2 = .int 0 ∧ hd ∈ L ∧ E hd = ob 2 3 fh ∧ fh 2 = .int 0 ∧
  tb ∈ L ∧ E tb = ob 11 2 fT ∧ fT 0 = .ref md ∧ fT 1 = .ref ch ∧ md ∈ L ∧ E md = ob 0 3 fm ∧ fm 0 = .int 0 ∧ fm 1 = .ref (g0 G) ∧ fm 2 = .int 0 ∧ ch ∈ L ∧ E ch = ob 0 3 fc ∧ fc 0 = .int 0 ∧ fc 1 = .ref (g0 G) ∧ fc 2 = .int 0 ∧
  wd ∈ L ∧ E wd = ob 7 12 fd ∧ fd 8 = .ref fi ∧ fi ∈ L ∧ E fi = aI G 5 (fun _ => 0) ∧
  fo ∈ L ∧ E fo = ob 5 11 ff ∧ ff 5 = .int 0 ∧ ff 6 = .int 0 ∧ sh ∈ L ∧ E sh = ob 8 3 fs ∧ fs 1 = .int 0 ∧ md ≠ ch ∧ tp ≠ wr
set_option maxHeartbeats 4000000 in
set_option maxRecDepth 100000 in
theorem c_DotPress_init {l : Launch} {G : GT} {L : List Nat} {E : Nat → va_E} {h0 : Nat} {f : Nat → Value} (hL : h0 ∈ L) (hE : E h0 = ob 12 19 f) : Mq l G yX11_init cX11_init 1 none 5 [.ref h0] L E 47 3868 (fun v L2 E2 => v = none ∧ XF G L2 E2 h0) := by
  refine Mq.mk (by decide) (Nat.le_of_ble_eq_true rfl) ?_
  intro p e s m args below meth c A C
  refine q_aload_n (j := 0) C dX11_init_0 rfl ?_
  refine q_objInit C dX11_init_1 w1_29 w1_30 w1_31 ⟨Nat.le_of_ble_eq_true rfl, Nat.le_of_ble_eq_true rfl⟩ (Nat.le_of_ble_eq_true rfl) ?_
  refine q_aload_n (j := 0) C dX11_init_4 rfl ?_
  refine q_new C ck_2 dX11_init_5 w1_32 w1_33 w1_2 ⟨Nat.le_of_ble_eq_true rfl, Nat.le_of_ble_eq_true rfl⟩ (fun q1 nq1 => ?_)
  have ne_h0_q1 : h0 ≠ q1 := (ne_in hL nq1)
  refine q_dup C dX11_init_8 rfl ?_
  refine q_sipush (v := 3000) C dX11_init_9 (by decide) ?_
  refine q_callI (d2 := 1) (mc2 := 1) (ms2 := 16) (As := [.int 3000]) (rest := [.ref q1, .ref h0]) C (c_Ints_init 3000 (List.mem_append_right _ (List.mem_singleton.mpr rfl)) (va_up_self _ _ _)) dX11_init_12 kI_X11_11 rfl rfl (Nat.le_of_ble_eq_true rfl) ⟨Nat.le_of_ble_eq_true rfl, Nat.le_of_ble_eq_true rfl⟩ ⟨Nat.le_of_ble_eq_true rfl, Nat.le_of_ble_eq_true rfl⟩ (fun vh1 Lh1 Eh1 h1 => ?_)
  obtain ⟨rfl, h1a, h1b, r1, gr1, nr1, lr1, h1c, h10, h11, h12, h1d⟩ := h1
  have et1 := (h1b _ (List.mem_append_left _ hL) ne_h0_q1).trans ((va_up_ne _ _ ne_h0_q1).trans hE)
  have lt1 := h1a _ (List.mem_append_left _ hL)
  refine q_st (st2 := [.ref q1, .ref h0]) rfl ?_
  refine q_putF (k := 0) C ck_12 dX11_init_15 w2_44 (by decide) rfl rfl rfl lt1 et1 rfl rfl ?_
  refine q_aload_n (j := 0) C dX11_init_18 rfl ?_
  refine q_new C ck_2 dX11_init_19 w1_32 w1_33 w1_2 ⟨Nat.le_of_ble_eq_true rfl, Nat.le_of_ble_eq_true rfl⟩ (fun q2 nq2 => ?_)
  have ne_h0_q2 : h0 ≠ q2 := (ne_in lt1 nq2)
  have ne_q1_q2 : q1 ≠ q2 := (ne_in (h1a _ (List.mem_append_right _ (List.mem_singleton.mpr rfl))) nq2)
  have ne_r1_q2 : r1 ≠ q2 := (ne_in lr1 nq2)
  refine q_dup C dX11_init_22 rfl ?_
  refine q_sipush (v := 500) C dX11_init_23 (by decide) ?_
  refine q_callI (d2 := 1) (mc2 := 1) (ms2 := 16) (As := [.int 500]) (rest := [.ref q2, .ref h0]) C (c_Ints_init 500 (List.mem_append_right _ (List.mem_singleton.mpr rfl)) (va_up_self _ _ _)) dX11_init_26 kI_X11_11 rfl rfl (Nat.le_of_ble_eq_true rfl) ⟨Nat.le_of_ble_eq_true rfl, Nat.le_of_ble_eq_true rfl⟩ ⟨Nat.le_of_ble_eq_true rfl, Nat.le_of_ble_eq_true rfl⟩ (fun vh2 Lh2 Eh2 h2 => ?_)
  obtain ⟨rfl, h2a, h2b, r2, gr2, nr2, lr2, h2c, h20, h21, h22, h2d⟩ := h2
  have et2 := (h2b _ (List.mem_append_left _ lt1) ne_h0_q2).trans ((va_up_ne _ _ ne_h0_q2).trans (va_up_self _ _ _))
  have lt2 := h2a _ (List.mem_append_left _ lt1)
  have et3 := (h2b _ (List.mem_append_left _ (h1a _ (List.mem_append_right _ (List.mem_singleton.mpr rfl)))) ne_q1_q2).trans ((va_up_ne _ _ ne_q1_q2).trans ((va_up_ne _ _ (Ne.symm ne_h0_q1)).trans h1c))
  have lt3 := h2a _ (List.mem_append_left _ (h1a _ (List.mem_append_right _ (List.mem_singleton.mpr rfl))))
  have et4 := (h2b _ (List.mem_append_left _ lr1) ne_r1_q2).trans ((va_up_ne _ _ ne_r1_q2).trans ((va_up_ne _ _ (Ne.symm (ne_in (List.mem_append_left _ hL) nr1))).trans h1d))
  have lt4 := h2a _ (List.mem_append_left _ lr1)
  refine q_st (st2 := [.ref q2, .ref h0]) rfl ?_
  refine q_putF (k := 1) C ck_12 dX11_init_29 w2_45 (by decide) rfl rfl rfl lt2 et2 rfl rfl ?_
  refine q_aload_n (j := 0) C dX11_init_32 rfl ?_
  refine q_new C ck_2 dX11_init_33 w1_32 w1_33 w1_2 ⟨Nat.le_of_ble_eq_true rfl, Nat.le_of_ble_eq_true rfl⟩ (fun q3 nq3 => ?_)
  have ne_h0_q3 : h0 ≠ q3 := (ne_in lt2 nq3)
  have ne_q1_q3 : q1 ≠ q3 := (ne_in lt3 nq3)
  have ne_r1_q3 : r1 ≠ q3 := (ne_in lt4 nq3)
  have ne_q2_q3 : q2 ≠ q3 := (ne_in (h2a _ (List.mem_append_right _ (List.mem_singleton.mpr rfl))) nq3)
  have ne_r2_q3 : r2 ≠ q3 := (ne_in lr2 nq3)
  refine q_dup C dX11_init_36 rfl ?_
  refine q_sipush (v := 4000) C dX11_init_37 (by decide) ?_
  refine q_callI (d2 := 1) (mc2 := 1) (ms2 := 16) (As := [.int 4000]) (rest := [.ref q3, .ref h0]) C (c_Ints_init 4000 (List.mem_append_right _ (List.mem_singleton.mpr rfl)) (va_up_self _ _ _)) dX11_init_40 kI_X11_11 rfl rfl (Nat.le_of_ble_eq_true rfl) ⟨Nat.le_of_ble_eq_true rfl, Nat.le_of_ble_eq_true rfl⟩ ⟨Nat.le_of_ble_eq_true rfl, Nat.le_of_ble_eq_true rfl⟩ (fun vh3 Lh3 Eh3 h3 => ?_)
  obtain ⟨rfl, h3a, h3b, r3, gr3, nr3, lr3, h3c, h30, h31, h32, h3d⟩ := h3
  have et5 := (h3b _ (List.mem_append_left _ lt2) ne_h0_q3).trans ((va_up_ne _ _ ne_h0_q3).trans (va_up_self _ _ _))
  have lt5 := h3a _ (List.mem_append_left _ lt2)
  have et6 := (h3b _ (List.mem_append_left _ lt3) ne_q1_q3).trans ((va_up_ne _ _ ne_q1_q3).trans ((va_up_ne _ _ (Ne.symm ne_h0_q1)).trans et3))
  have lt6 := h3a _ (List.mem_append_left _ lt3)
  have et7 := (h3b _ (List.mem_append_left _ lt4) ne_r1_q3).trans ((va_up_ne _ _ ne_r1_q3).trans ((va_up_ne _ _ (Ne.symm (ne_in (List.mem_append_left _ hL) nr1))).trans et4))
  have lt7 := h3a _ (List.mem_append_left _ lt4)
  have et8 := (h3b _ (List.mem_append_left _ (h2a _ (List.mem_append_right _ (List.mem_singleton.mpr rfl)))) ne_q2_q3).trans ((va_up_ne _ _ ne_q2_q3).trans ((va_up_ne _ _ (Ne.symm ne_h0_q2)).trans h2c))
  have lt8 := h3a _ (List.mem_append_left _ (h2a _ (List.mem_append_right _ (List.mem_singleton.mpr rfl))))
  have et9 := (h3b _ (List.mem_append_left _ lr2) ne_r2_q3).trans ((va_up_ne _ _ ne_r2_q3).trans ((va_up_ne _ _ (Ne.symm (ne_in (List.mem_append_left _ lt1) nr2))).trans h2d))
  have lt9 := h3a _ (List.mem_append_left _ lr2)
  refine q_st (st2 := [.ref q3, .ref h0]) rfl ?_
  refine q_putF (k := 2) C ck_12 dX11_init_43 w2_46 (by decide) rfl rfl rfl lt5 et5 rfl rfl ?_
  refine q_aload_n (j := 0) C dX11_init_46 rfl ?_
  refine q_new C ck_2 dX11_init_47 w1_32 w1_33 w1_2 ⟨Nat.le_of_ble_eq_true rfl, Nat.le_of_ble_eq_true rfl⟩ (fun q4 nq4 => ?_)
  have ne_h0_q4 : h0 ≠ q4 := (ne_in lt5 nq4)
  have ne_q1_q4 : q1 ≠ q4 := (ne_in lt6 nq4)
  have ne_r1_q4 : r1 ≠ q4 := (ne_in lt7 nq4)
  have ne_q2_q4 : q2 ≠ q4 := (ne_in lt8 nq4)
  have ne_r2_q4 : r2 ≠ q4 := (ne_in lt9 nq4)
  have ne_q3_q4 : q3 ≠ q4 := (ne_in (h3a _ (List.mem_append_right _ (List.mem_singleton.mpr rfl))) nq4)
  have ne_r3_q4 : r3 ≠ q4 := (ne_in lr3 nq4)
  refine q_dup C dX11_init_50 rfl ?_
  refine q_sipush (v := 200) C dX11_init_51 (by decide) ?_
  refine q_callI (d2 := 1) (mc2 := 1) (ms2 := 16) (As := [.int 200]) (rest := [.ref q4, .ref h0]) C (c_Ints_init 200 (List.mem_append_right _ (List.mem_singleton.mpr rfl)) (va_up_self _ _ _)) dX11_init_54 kI_X11_11 rfl rfl (Nat.le_of_ble_eq_true rfl) ⟨Nat.le_of_ble_eq_true rfl, Nat.le_of_ble_eq_true rfl⟩ ⟨Nat.le_of_ble_eq_true rfl, Nat.le_of_ble_eq_true rfl⟩ (fun vh4 Lh4 Eh4 h4 => ?_)
  obtain ⟨rfl, h4a, h4b, r4, gr4, nr4, lr4, h4c, h40, h41, h42, h4d⟩ := h4
  have et10 := (h4b _ (List.mem_append_left _ lt5) ne_h0_q4).trans ((va_up_ne _ _ ne_h0_q4).trans (va_up_self _ _ _))
  have lt10 := h4a _ (List.mem_append_left _ lt5)
  have et11 := (h4b _ (List.mem_append_left _ lt6) ne_q1_q4).trans ((va_up_ne _ _ ne_q1_q4).trans ((va_up_ne _ _ (Ne.symm ne_h0_q1)).trans et6))
  have lt11 := h4a _ (List.mem_append_left _ lt6)
  have et12 := (h4b _ (List.mem_append_left _ lt7) ne_r1_q4).trans ((va_up_ne _ _ ne_r1_q4).trans ((va_up_ne _ _ (Ne.symm (ne_in (List.mem_append_left _ hL) nr1))).trans et7))
  have lt12 := h4a _ (List.mem_append_left _ lt7)
  have et13 := (h4b _ (List.mem_append_left _ lt8) ne_q2_q4).trans ((va_up_ne _ _ ne_q2_q4).trans ((va_up_ne _ _ (Ne.symm ne_h0_q2)).trans et8))
  have lt13 := h4a _ (List.mem_append_left _ lt8)
  have et14 := (h4b _ (List.mem_append_left _ lt9) ne_r2_q4).trans ((va_up_ne _ _ ne_r2_q4).trans ((va_up_ne _ _ (Ne.symm (ne_in (List.mem_append_left _ lt1) nr2))).trans et9))
  have lt14 := h4a _ (List.mem_append_left _ lt9)
  have et15 := (h4b _ (List.mem_append_left _ (h3a _ (List.mem_append_right _ (List.mem_singleton.mpr rfl)))) ne_q3_q4).trans ((va_up_ne _ _ ne_q3_q4).trans ((va_up_ne _ _ (Ne.symm ne_h0_q3)).trans h3c))
  have lt15 := h4a _ (List.mem_append_left _ (h3a _ (List.mem_append_right _ (List.mem_singleton.mpr rfl))))
  have et16 := (h4b _ (List.mem_append_left _ lr3) ne_r3_q4).trans ((va_up_ne _ _ ne_r3_q4).trans ((va_up_ne _ _ (Ne.symm (ne_in (List.mem_append_left _ lt2) nr3))).trans h3d))
  have lt16 := h4a _ (List.mem_append_left _ lr3)
  refine q_st (st2 := [.ref q4, .ref h0]) rfl ?_
  refine q_putF (k := 3) C ck_12 dX11_init_57 w2_47 (by decide) rfl rfl rfl lt10 et10 rfl rfl ?_
  refine q_aload_n (j := 0) C dX11_init_60 rfl ?_
  refine q_new C ck_11 dX11_init_61 w1_58 w1_59 w1_3 ⟨Nat.le_of_ble_eq_true rfl, Nat.le_of_ble_eq_true rfl⟩ (fun q5 nq5 => ?_)
  have ne_h0_q5 : h0 ≠ q5 := (ne_in lt10 nq5)
  have ne_q1_q5 : q1 ≠ q5 := (ne_in lt11 nq5)
  have ne_r1_q5 : r1 ≠ q5 := (ne_in lt12 nq5)
  have ne_q2_q5 : q2 ≠ q5 := (ne_in lt13 nq5)
  have ne_r2_q5 : r2 ≠ q5 := (ne_in lt14 nq5)
  have ne_q3_q5 : q3 ≠ q5 := (ne_in lt15 nq5)
  have ne_r3_q5 : r3 ≠ q5 := (ne_in lt16 nq5)
  have ne_q4_q5 : q4 ≠ q5 := (ne_in (h4a _ (List.mem_append_right _ (List.mem_singleton.mpr rfl))) nq5)
  have ne_r4_q5 : r4 ≠ q5 := (ne_in lr4 nq5)
  refine q_dup C dX11_init_64 rfl ?_
  refine q_callIN (d2 := 4) (mc2 := 2) (ms2 := 6) (As := []) (rest := [.ref q5, .ref h0]) C (c_Tables_init (List.mem_append_right _ (List.mem_singleton.mpr rfl)) (va_up_self _ _ _)) dX11_init_65 kN_X11_29 rfl rfl (Nat.le_of_ble_eq_true rfl) ⟨Nat.le_of_ble_eq_true rfl, Nat.le_of_ble_eq_true rfl⟩ ⟨Nat.le_of_ble_eq_true rfl, Nat.le_of_ble_eq_true rfl⟩ (fun vh5 Lh5 Eh5 h5 => ?_)
  obtain ⟨rfl, h5a, h5b, mdh5, chh5, gh5, gmh5, gch5, nmh5, nch5, nmch5, lmh5, lch5, h5c, h50, h51, h5d, h5d0, h5d1, h5d2, h5e, h5e0, h5e1, h5e2⟩ := h5
  have et17 := (h5b _ (List.mem_append_left _ lt10) ne_h0_q5).trans ((va_up_ne _ _ ne_h0_q5).trans (va_up_self _ _ _))
  have lt17 := h5a _ (List.mem_append_left _ lt10)
  have et18 := (h5b _ (List.mem_append_left _ lt11) ne_q1_q5).trans ((va_up_ne _ _ ne_q1_q5).trans ((va_up_ne _ _ (Ne.symm ne_h0_q1)).trans et11))
  have lt18 := h5a _ (List.mem_append_left _ lt11)
  have et19 := (h5b _ (List.mem_append_left _ lt12) ne_r1_q5).trans ((va_up_ne _ _ ne_r1_q5).trans ((va_up_ne _ _ (Ne.symm (ne_in (List.mem_append_left _ hL) nr1))).trans et12))
  have lt19 := h5a _ (List.mem_append_left _ lt12)
  have et20 := (h5b _ (List.mem_append_left _ lt13) ne_q2_q5).trans ((va_up_ne _ _ ne_q2_q5).trans ((va_up_ne _ _ (Ne.symm ne_h0_q2)).trans et13))
  have lt20 := h5a _ (List.mem_append_left _ lt13)
  have et21 := (h5b _ (List.mem_append_left _ lt14) ne_r2_q5).trans ((va_up_ne _ _ ne_r2_q5).trans ((va_up_ne _ _ (Ne.symm (ne_in (List.mem_append_left _ lt1) nr2))).trans et14))
  have lt21 := h5a _ (List.mem_append_left _ lt14)
  have et22 := (h5b _ (List.mem_append_left _ lt15) ne_q3_q5).trans ((va_up_ne _ _ ne_q3_q5).trans ((va_up_ne _ _ (Ne.symm ne_h0_q3)).trans et15))
  have lt22 := h5a _ (List.mem_append_left _ lt15)
  have et23 := (h5b _ (List.mem_append_left _ lt16) ne_r3_q5).trans ((va_up_ne _ _ ne_r3_q5).trans ((va_up_ne _ _ (Ne.symm (ne_in (List.mem_append_left _ lt2) nr3))).trans et16))
  have lt23 := h5a _ (List.mem_append_left _ lt16)
  have et24 := (h5b _ (List.mem_append_left _ (h4a _ (List.mem_append_right _ (List.mem_singleton.mpr rfl)))) ne_q4_q5).trans ((va_up_ne _ _ ne_q4_q5).trans ((va_up_ne _ _ (Ne.symm ne_h0_q4)).trans h4c))
  have lt24 := h5a _ (List.mem_append_left _ (h4a _ (List.mem_append_right _ (List.mem_singleton.mpr rfl))))
  have et25 := (h5b _ (List.mem_append_left _ lr4) ne_r4_q5).trans ((va_up_ne _ _ ne_r4_q5).trans ((va_up_ne _ _ (Ne.symm (ne_in (List.mem_append_left _ lt5) nr4))).trans h4d))
  have lt25 := h5a _ (List.mem_append_left _ lr4)
  refine q_st (st2 := [.ref q5, .ref h0]) rfl ?_
  refine q_putF (k := 4) C ck_12 dX11_init_68 w2_48 (by decide) rfl rfl rfl lt17 et17 rfl rfl ?_
  refine q_aload_n (j := 0) C dX11_init_71 rfl ?_
  refine q_new C ck_9 dX11_init_72 w1_97 w1_98 w1_7 ⟨Nat.le_of_ble_eq_true rfl, Nat.le_of_ble_eq_true rfl⟩ (fun q6 nq6 => ?_)
  have ne_h0_q6 : h0 ≠ q6 := (ne_in lt17 nq6)
  have ne_q1_q6 : q1 ≠ q6 := (ne_in lt18 nq6)
  have ne_r1_q6 : r1 ≠ q6 := (ne_in lt19 nq6)
  have ne_q2_q6 : q2 ≠ q6 := (ne_in lt20 nq6)
  have ne_r2_q6 : r2 ≠ q6 := (ne_in lt21 nq6)
  have ne_q3_q6 : q3 ≠ q6 := (ne_in lt22 nq6)
  have ne_r3_q6 : r3 ≠ q6 := (ne_in lt23 nq6)
  have ne_q4_q6 : q4 ≠ q6 := (ne_in lt24 nq6)
  have ne_r4_q6 : r4 ≠ q6 := (ne_in lt25 nq6)
  have ne_q5_q6 : q5 ≠ q6 := (ne_in (h5a _ (List.mem_append_right _ (List.mem_singleton.mpr rfl))) nq6)
  have ne_mdh5_q6 : mdh5 ≠ q6 := (ne_in lmh5 nq6)
  have ne_chh5_q6 : chh5 ≠ q6 := (ne_in lch5 nq6)
  refine q_dup C dX11_init_75 rfl ?_
  refine q_callIN (d2 := 1) (mc2 := 3) (ms2 := 258) (As := []) (rest := [.ref q6, .ref h0]) C (c_Source_init (List.mem_append_right _ (List.mem_singleton.mpr rfl)) (va_up_self _ _ _)) dX11_init_76 kN_X11_36 rfl rfl (Nat.le_of_ble_eq_true rfl) ⟨Nat.le_of_ble_eq_true rfl, Nat.le_of_ble_eq_true rfl⟩ ⟨Nat.le_of_ble_eq_true rfl, Nat.le_of_ble_eq_true rfl⟩ (fun vh6 Lh6 Eh6 h6 => ?_)
  obtain ⟨rfl, h6a, h6b, gh6, h6c⟩ := h6
  have et26 := (h6b _ (List.mem_append_left _ lt17) ne_h0_q6).trans ((va_up_ne _ _ ne_h0_q6).trans (va_up_self _ _ _))
  have lt26 := h6a _ (List.mem_append_left _ lt17)
  have et27 := (h6b _ (List.mem_append_left _ lt18) ne_q1_q6).trans ((va_up_ne _ _ ne_q1_q6).trans ((va_up_ne _ _ (Ne.symm ne_h0_q1)).trans et18))
  have lt27 := h6a _ (List.mem_append_left _ lt18)
  have et28 := (h6b _ (List.mem_append_left _ lt19) ne_r1_q6).trans ((va_up_ne _ _ ne_r1_q6).trans ((va_up_ne _ _ (Ne.symm (ne_in (List.mem_append_left _ hL) nr1))).trans et19))
  have lt28 := h6a _ (List.mem_append_left _ lt19)
  have et29 := (h6b _ (List.mem_append_left _ lt20) ne_q2_q6).trans ((va_up_ne _ _ ne_q2_q6).trans ((va_up_ne _ _ (Ne.symm ne_h0_q2)).trans et20))
  have lt29 := h6a _ (List.mem_append_left _ lt20)
  have et30 := (h6b _ (List.mem_append_left _ lt21) ne_r2_q6).trans ((va_up_ne _ _ ne_r2_q6).trans ((va_up_ne _ _ (Ne.symm (ne_in (List.mem_append_left _ lt1) nr2))).trans et21))
  have lt30 := h6a _ (List.mem_append_left _ lt21)
  have et31 := (h6b _ (List.mem_append_left _ lt22) ne_q3_q6).trans ((va_up_ne _ _ ne_q3_q6).trans ((va_up_ne _ _ (Ne.symm ne_h0_q3)).trans et22))
  have lt31 := h6a _ (List.mem_append_left _ lt22)
  have et32 := (h6b _ (List.mem_append_left _ lt23) ne_r3_q6).trans ((va_up_ne _ _ ne_r3_q6).trans ((va_up_ne _ _ (Ne.symm (ne_in (List.mem_append_left _ lt2) nr3))).trans et23))
  have lt32 := h6a _ (List.mem_append_left _ lt23)
  have et33 := (h6b _ (List.mem_append_left _ lt24) ne_q4_q6).trans ((va_up_ne _ _ ne_q4_q6).trans ((va_up_ne _ _ (Ne.symm ne_h0_q4)).trans et24))
  have lt33 := h6a _ (List.mem_append_left _ lt24)
  have et34 := (h6b _ (List.mem_append_left _ lt25) ne_r4_q6).trans ((va_up_ne _ _ ne_r4_q6).trans ((va_up_ne _ _ (Ne.symm (ne_in (List.mem_append_left _ lt5) nr4))).trans et25))
  have lt34 := h6a _ (List.mem_append_left _ lt25)
  have et35 := (h6b _ (List.mem_append_left _ (h5a _ (List.mem_append_right _ (List.mem_singleton.mpr rfl)))) ne_q5_q6).trans ((va_up_ne _ _ ne_q5_q6).trans ((va_up_ne _ _ (Ne.symm ne_h0_q5)).trans h5c))
  have lt35 := h6a _ (List.mem_append_left _ (h5a _ (List.mem_append_right _ (List.mem_singleton.mpr rfl))))
  have et36 := (h6b _ (List.mem_append_left _ lmh5) ne_mdh5_q6).trans ((va_up_ne _ _ ne_mdh5_q6).trans ((va_up_ne _ _ (Ne.symm (ne_in (List.mem_append_left _ lt10) nmh5))).trans h5d))
  have lt36 := h6a _ (List.mem_append_left _ lmh5)
  have et37 := (h6b _ (List.mem_append_left _ lch5) ne_chh5_q6).trans ((va_up_ne _ _ ne_chh5_q6).trans ((va_up_ne _ _ (Ne.symm (ne_in (List.mem_append_left _ lt10) nch5))).trans h5e))
  have lt37 := h6a _ (List.mem_append_left _ lch5)
  refine q_st (st2 := [.ref q6, .ref h0]) rfl ?_
  refine q_putF (k := 5) C ck_12 dX11_init_79 w2_49 (by decide) rfl rfl rfl lt26 et26 rfl rfl ?_
  refine q_aload_n (j := 0) C dX11_init_82 rfl ?_
  refine q_new C ck_7 dX11_init_83 w1_130 w1_131 w1_8 ⟨Nat.le_of_ble_eq_true rfl, Nat.le_of_ble_eq_true rfl⟩ (fun q7 nq7 => ?_)
  have ne_h0_q7 : h0 ≠ q7 := (ne_in lt26 nq7)
  have ne_q1_q7 : q1 ≠ q7 := (ne_in lt27 nq7)
  have ne_r1_q7 : r1 ≠ q7 := (ne_in lt28 nq7)
  have ne_q2_q7 : q2 ≠ q7 := (ne_in lt29 nq7)
  have ne_r2_q7 : r2 ≠ q7 := (ne_in lt30 nq7)
  have ne_q3_q7 : q3 ≠ q7 := (ne_in lt31 nq7)
  have ne_r3_q7 : r3 ≠ q7 := (ne_in lt32 nq7)
  have ne_q4_q7 : q4 ≠ q7 := (ne_in lt33 nq7)
  have ne_r4_q7 : r4 ≠ q7 := (ne_in lt34 nq7)
  have ne_q5_q7 : q5 ≠ q7 := (ne_in lt35 nq7)
  have ne_mdh5_q7 : mdh5 ≠ q7 := (ne_in lt36 nq7)
  have ne_chh5_q7 : chh5 ≠ q7 := (ne_in lt37 nq7)
  have ne_q6_q7 : q6 ≠ q7 := (ne_in (h6a _ (List.mem_append_right _ (List.mem_singleton.mpr rfl))) nq7)
  refine q_dup C dX11_init_86 rfl ?_
  refine q_callIN (d2 := 1) (mc2 := 6) (ms2 := 2205) (As := []) (rest := [.ref q7, .ref h0]) C (c_Setting_init (List.mem_append_right _ (List.mem_singleton.mpr rfl)) (va_up_self _ _ _)) dX11_init_87 kN_X11_43 rfl rfl (Nat.le_of_ble_eq_true rfl) ⟨Nat.le_of_ble_eq_true rfl, Nat.le_of_ble_eq_true rfl⟩ ⟨Nat.le_of_ble_eq_true rfl, Nat.le_of_ble_eq_true rfl⟩ (fun vh7 Lh7 Eh7 h7 => ?_)
  obtain ⟨rfl, h7a, h7b, fih7, gh7, nfh7, lfh7, h7c, h78, h7d⟩ := h7
  have et38 := (h7b _ (List.mem_append_left _ lt26) ne_h0_q7).trans ((va_up_ne _ _ ne_h0_q7).trans (va_up_self _ _ _))
  have lt38 := h7a _ (List.mem_append_left _ lt26)
  have et39 := (h7b _ (List.mem_append_left _ lt27) ne_q1_q7).trans ((va_up_ne _ _ ne_q1_q7).trans ((va_up_ne _ _ (Ne.symm ne_h0_q1)).trans et27))
  have lt39 := h7a _ (List.mem_append_left _ lt27)
  have et40 := (h7b _ (List.mem_append_left _ lt28) ne_r1_q7).trans ((va_up_ne _ _ ne_r1_q7).trans ((va_up_ne _ _ (Ne.symm (ne_in (List.mem_append_left _ hL) nr1))).trans et28))
  have lt40 := h7a _ (List.mem_append_left _ lt28)
  have et41 := (h7b _ (List.mem_append_left _ lt29) ne_q2_q7).trans ((va_up_ne _ _ ne_q2_q7).trans ((va_up_ne _ _ (Ne.symm ne_h0_q2)).trans et29))
  have lt41 := h7a _ (List.mem_append_left _ lt29)
  have et42 := (h7b _ (List.mem_append_left _ lt30) ne_r2_q7).trans ((va_up_ne _ _ ne_r2_q7).trans ((va_up_ne _ _ (Ne.symm (ne_in (List.mem_append_left _ lt1) nr2))).trans et30))
  have lt42 := h7a _ (List.mem_append_left _ lt30)
  have et43 := (h7b _ (List.mem_append_left _ lt31) ne_q3_q7).trans ((va_up_ne _ _ ne_q3_q7).trans ((va_up_ne _ _ (Ne.symm ne_h0_q3)).trans et31))
  have lt43 := h7a _ (List.mem_append_left _ lt31)
  have et44 := (h7b _ (List.mem_append_left _ lt32) ne_r3_q7).trans ((va_up_ne _ _ ne_r3_q7).trans ((va_up_ne _ _ (Ne.symm (ne_in (List.mem_append_left _ lt2) nr3))).trans et32))
  have lt44 := h7a _ (List.mem_append_left _ lt32)
  have et45 := (h7b _ (List.mem_append_left _ lt33) ne_q4_q7).trans ((va_up_ne _ _ ne_q4_q7).trans ((va_up_ne _ _ (Ne.symm ne_h0_q4)).trans et33))
  have lt45 := h7a _ (List.mem_append_left _ lt33)
  have et46 := (h7b _ (List.mem_append_left _ lt34) ne_r4_q7).trans ((va_up_ne _ _ ne_r4_q7).trans ((va_up_ne _ _ (Ne.symm (ne_in (List.mem_append_left _ lt5) nr4))).trans et34))
  have lt46 := h7a _ (List.mem_append_left _ lt34)
  have et47 := (h7b _ (List.mem_append_left _ lt35) ne_q5_q7).trans ((va_up_ne _ _ ne_q5_q7).trans ((va_up_ne _ _ (Ne.symm ne_h0_q5)).trans et35))
  have lt47 := h7a _ (List.mem_append_left _ lt35)
  have et48 := (h7b _ (List.mem_append_left _ lt36) ne_mdh5_q7).trans ((va_up_ne _ _ ne_mdh5_q7).trans ((va_up_ne _ _ (Ne.symm (ne_in (List.mem_append_left _ lt10) nmh5))).trans et36))
  have lt48 := h7a _ (List.mem_append_left _ lt36)
  have et49 := (h7b _ (List.mem_append_left _ lt37) ne_chh5_q7).trans ((va_up_ne _ _ ne_chh5_q7).trans ((va_up_ne _ _ (Ne.symm (ne_in (List.mem_append_left _ lt10) nch5))).trans et37))
  have lt49 := h7a _ (List.mem_append_left _ lt37)
  have et50 := (h7b _ (List.mem_append_left _ (h6a _ (List.mem_append_right _ (List.mem_singleton.mpr rfl)))) ne_q6_q7).trans ((va_up_ne _ _ ne_q6_q7).trans ((va_up_ne _ _ (Ne.symm ne_h0_q6)).trans h6c))
  have lt50 := h7a _ (List.mem_append_left _ (h6a _ (List.mem_append_right _ (List.mem_singleton.mpr rfl))))
  refine q_st (st2 := [.ref q7, .ref h0]) rfl ?_
  refine q_putF (k := 6) C ck_12 dX11_init_90 w2_50 (by decide) rfl rfl rfl lt38 et38 rfl rfl ?_
  refine q_aload_n (j := 0) C dX11_init_93 rfl ?_
  refine q_new C ck_4 dX11_init_94 w1_179 w1_180 w1_9 ⟨Nat.le_of_ble_eq_true rfl, Nat.le_of_ble_eq_true rfl⟩ (fun q8 nq8 => ?_)
  have ne_h0_q8 : h0 ≠ q8 := (ne_in lt38 nq8)
  have ne_q1_q8 : q1 ≠ q8 := (ne_in lt39 nq8)
  have ne_r1_q8 : r1 ≠ q8 := (ne_in lt40 nq8)
  have ne_q2_q8 : q2 ≠ q8 := (ne_in lt41 nq8)
  have ne_r2_q8 : r2 ≠ q8 := (ne_in lt42 nq8)
  have ne_q3_q8 : q3 ≠ q8 := (ne_in lt43 nq8)
  have ne_r3_q8 : r3 ≠ q8 := (ne_in lt44 nq8)
  have ne_q4_q8 : q4 ≠ q8 := (ne_in lt45 nq8)
  have ne_r4_q8 : r4 ≠ q8 := (ne_in lt46 nq8)
  have ne_q5_q8 : q5 ≠ q8 := (ne_in lt47 nq8)
  have ne_mdh5_q8 : mdh5 ≠ q8 := (ne_in lt48 nq8)
  have ne_chh5_q8 : chh5 ≠ q8 := (ne_in lt49 nq8)
  have ne_q6_q8 : q6 ≠ q8 := (ne_in lt50 nq8)
  have ne_q7_q8 : q7 ≠ q8 := (ne_in (h7a _ (List.mem_append_right _ (List.mem_singleton.mpr rfl))) nq8)
  have ne_fih7_q8 : fih7 ≠ q8 := (ne_in lfh7 nq8)
  refine q_dup C dX11_init_97 rfl ?_
  refine q_callIN (d2 := 4) (mc2 := 12) (ms2 := 101) (As := []) (rest := [.ref q8, .ref h0]) C (c_Reader_init (List.mem_append_right _ (List.mem_singleton.mpr rfl)) (va_up_self _ _ _)) dX11_init_98 kN_X11_50 rfl rfl (Nat.le_of_ble_eq_true rfl) ⟨Nat.le_of_ble_eq_true rfl, Nat.le_of_ble_eq_true rfl⟩ ⟨Nat.le_of_ble_eq_true rfl, Nat.le_of_ble_eq_true rfl⟩ (fun vh8 Lh8 Eh8 h8 => ?_)
  obtain ⟨rfl, h8a, h8b, gh8, h8c⟩ := h8
  have et51 := (h8b _ (List.mem_append_left _ lt38) ne_h0_q8).trans ((va_up_ne _ _ ne_h0_q8).trans (va_up_self _ _ _))
  have lt51 := h8a _ (List.mem_append_left _ lt38)
  have et52 := (h8b _ (List.mem_append_left _ lt39) ne_q1_q8).trans ((va_up_ne _ _ ne_q1_q8).trans ((va_up_ne _ _ (Ne.symm ne_h0_q1)).trans et39))
  have lt52 := h8a _ (List.mem_append_left _ lt39)
  have et53 := (h8b _ (List.mem_append_left _ lt40) ne_r1_q8).trans ((va_up_ne _ _ ne_r1_q8).trans ((va_up_ne _ _ (Ne.symm (ne_in (List.mem_append_left _ hL) nr1))).trans et40))
  have lt53 := h8a _ (List.mem_append_left _ lt40)
  have et54 := (h8b _ (List.mem_append_left _ lt41) ne_q2_q8).trans ((va_up_ne _ _ ne_q2_q8).trans ((va_up_ne _ _ (Ne.symm ne_h0_q2)).trans et41))
  have lt54 := h8a _ (List.mem_append_left _ lt41)
  have et55 := (h8b _ (List.mem_append_left _ lt42) ne_r2_q8).trans ((va_up_ne _ _ ne_r2_q8).trans ((va_up_ne _ _ (Ne.symm (ne_in (List.mem_append_left _ lt1) nr2))).trans et42))
  have lt55 := h8a _ (List.mem_append_left _ lt42)
  have et56 := (h8b _ (List.mem_append_left _ lt43) ne_q3_q8).trans ((va_up_ne _ _ ne_q3_q8).trans ((va_up_ne _ _ (Ne.symm ne_h0_q3)).trans et43))
  have lt56 := h8a _ (List.mem_append_left _ lt43)
  have et57 := (h8b _ (List.mem_append_left _ lt44) ne_r3_q8).trans ((va_up_ne _ _ ne_r3_q8).trans ((va_up_ne _ _ (Ne.symm (ne_in (List.mem_append_left _ lt2) nr3))).trans et44))
  have lt57 := h8a _ (List.mem_append_left _ lt44)
  have et58 := (h8b _ (List.mem_append_left _ lt45) ne_q4_q8).trans ((va_up_ne _ _ ne_q4_q8).trans ((va_up_ne _ _ (Ne.symm ne_h0_q4)).trans et45))
  have lt58 := h8a _ (List.mem_append_left _ lt45)
  have et59 := (h8b _ (List.mem_append_left _ lt46) ne_r4_q8).trans ((va_up_ne _ _ ne_r4_q8).trans ((va_up_ne _ _ (Ne.symm (ne_in (List.mem_append_left _ lt5) nr4))).trans et46))
  have lt59 := h8a _ (List.mem_append_left _ lt46)
  have et60 := (h8b _ (List.mem_append_left _ lt47) ne_q5_q8).trans ((va_up_ne _ _ ne_q5_q8).trans ((va_up_ne _ _ (Ne.symm ne_h0_q5)).trans et47))
  have lt60 := h8a _ (List.mem_append_left _ lt47)
  have et61 := (h8b _ (List.mem_append_left _ lt48) ne_mdh5_q8).trans ((va_up_ne _ _ ne_mdh5_q8).trans ((va_up_ne _ _ (Ne.symm (ne_in (List.mem_append_left _ lt10) nmh5))).trans et48))
  have lt61 := h8a _ (List.mem_append_left _ lt48)
  have et62 := (h8b _ (List.mem_append_left _ lt49) ne_chh5_q8).trans ((va_up_ne _ _ ne_chh5_q8).trans ((va_up_ne _ _ (Ne.symm (ne_in (List.mem_append_left _ lt10) nch5))).trans et49))
  have lt62 := h8a _ (List.mem_append_left _ lt49)
  have et63 := (h8b _ (List.mem_append_left _ lt50) ne_q6_q8).trans ((va_up_ne _ _ ne_q6_q8).trans ((va_up_ne _ _ (Ne.symm ne_h0_q6)).trans et50))
  have lt63 := h8a _ (List.mem_append_left _ lt50)
  have et64 := (h8b _ (List.mem_append_left _ (h7a _ (List.mem_append_right _ (List.mem_singleton.mpr rfl)))) ne_q7_q8).trans ((va_up_ne _ _ ne_q7_q8).trans ((va_up_ne _ _ (Ne.symm ne_h0_q7)).trans h7c))
  have lt64 := h8a _ (List.mem_append_left _ (h7a _ (List.mem_append_right _ (List.mem_singleton.mpr rfl))))
  have et65 := (h8b _ (List.mem_append_left _ lfh7) ne_fih7_q8).trans ((va_up_ne _ _ ne_fih7_q8).trans ((va_up_ne _ _ (Ne.symm (ne_in (List.mem_append_left _ lt26) nfh7))).trans h7d))
  have lt65 := h8a _ (List.mem_append_left _ lfh7)
  refine q_st (st2 := [.ref q8, .ref h0]) rfl ?_
  refine q_putF (k := 7) C ck_12 dX11_init_101 w2_51 (by decide) rfl rfl rfl lt51 et51 rfl rfl ?_
  refine q_aload_n (j := 0) C dX11_init_104 rfl ?_
  refine q_new C ck_5 dX11_init_105 w1_220 w1_221 w1_10 ⟨Nat.le_of_ble_eq_true rfl, Nat.le_of_ble_eq_true rfl⟩ (fun q9 nq9 => ?_)
  have ne_h0_q9 : h0 ≠ q9 := (ne_in lt51 nq9)
  have ne_q1_q9 : q1 ≠ q9 := (ne_in lt52 nq9)
  have ne_r1_q9 : r1 ≠ q9 := (ne_in lt53 nq9)
  have ne_q2_q9 : q2 ≠ q9 := (ne_in lt54 nq9)
  have ne_r2_q9 : r2 ≠ q9 := (ne_in lt55 nq9)
  have ne_q3_q9 : q3 ≠ q9 := (ne_in lt56 nq9)
  have ne_r3_q9 : r3 ≠ q9 := (ne_in lt57 nq9)
  have ne_q4_q9 : q4 ≠ q9 := (ne_in lt58 nq9)
  have ne_r4_q9 : r4 ≠ q9 := (ne_in lt59 nq9)
  have ne_q5_q9 : q5 ≠ q9 := (ne_in lt60 nq9)
  have ne_mdh5_q9 : mdh5 ≠ q9 := (ne_in lt61 nq9)
  have ne_chh5_q9 : chh5 ≠ q9 := (ne_in lt62 nq9)
  have ne_q6_q9 : q6 ≠ q9 := (ne_in lt63 nq9)
  have ne_q7_q9 : q7 ≠ q9 := (ne_in lt64 nq9)
  have ne_fih7_q9 : fih7 ≠ q9 := (ne_in lt65 nq9)
  have ne_q8_q9 : q8 ≠ q9 := (ne_in (h8a _ (List.mem_append_right _ (List.mem_singleton.mpr rfl))) nq9)
  refine q_dup C dX11_init_108 rfl ?_
  refine q_aload_n (j := 0) C dX11_init_109 rfl ?_
  refine q_get (k := 7) (v := .ref q8) C ck_12 dX11_init_110 w2_51 (by decide) (List.mem_append_left _ lt51) ((va_up_ne _ _ ne_h0_q9).trans (va_up_self _ _ _)) rfl ?_
  refine q_callI (d2 := 2) (mc2 := 7) (ms2 := 775) (As := [.ref q8]) (rest := [.ref q9, .ref h0]) C (c_Readings_init (List.mem_append_right _ (List.mem_singleton.mpr rfl)) (va_up_self _ _ _)) dX11_init_113 kI_X11_57 rfl rfl (Nat.le_of_ble_eq_true rfl) ⟨Nat.le_of_ble_eq_true rfl, Nat.le_of_ble_eq_true rfl⟩ ⟨Nat.le_of_ble_eq_true rfl, Nat.le_of_ble_eq_true rfl⟩ (fun vh9 Lh9 Eh9 h9 => ?_)
  obtain ⟨rfl, h9a, h9b, gh9, h9c, h95, h96⟩ := h9
  have et66 := (h9b _ (List.mem_append_left _ lt51) ne_h0_q9).trans ((va_up_ne _ _ ne_h0_q9).trans (va_up_self _ _ _))
  have lt66 := h9a _ (List.mem_append_left _ lt51)
  have et67 := (h9b _ (List.mem_append_left _ lt52) ne_q1_q9).trans ((va_up_ne _ _ ne_q1_q9).trans ((va_up_ne _ _ (Ne.symm ne_h0_q1)).trans et52))
  have lt67 := h9a _ (List.mem_append_left _ lt52)
  have et68 := (h9b _ (List.mem_append_left _ lt53) ne_r1_q9).trans ((va_up_ne _ _ ne_r1_q9).trans ((va_up_ne _ _ (Ne.symm (ne_in (List.mem_append_left _ hL) nr1))).trans et53))
  have lt68 := h9a _ (List.mem_append_left _ lt53)
  have et69 := (h9b _ (List.mem_append_left _ lt54) ne_q2_q9).trans ((va_up_ne _ _ ne_q2_q9).trans ((va_up_ne _ _ (Ne.symm ne_h0_q2)).trans et54))
  have lt69 := h9a _ (List.mem_append_left _ lt54)
  have et70 := (h9b _ (List.mem_append_left _ lt55) ne_r2_q9).trans ((va_up_ne _ _ ne_r2_q9).trans ((va_up_ne _ _ (Ne.symm (ne_in (List.mem_append_left _ lt1) nr2))).trans et55))
  have lt70 := h9a _ (List.mem_append_left _ lt55)
  have et71 := (h9b _ (List.mem_append_left _ lt56) ne_q3_q9).trans ((va_up_ne _ _ ne_q3_q9).trans ((va_up_ne _ _ (Ne.symm ne_h0_q3)).trans et56))
  have lt71 := h9a _ (List.mem_append_left _ lt56)
  have et72 := (h9b _ (List.mem_append_left _ lt57) ne_r3_q9).trans ((va_up_ne _ _ ne_r3_q9).trans ((va_up_ne _ _ (Ne.symm (ne_in (List.mem_append_left _ lt2) nr3))).trans et57))
  have lt72 := h9a _ (List.mem_append_left _ lt57)
  have et73 := (h9b _ (List.mem_append_left _ lt58) ne_q4_q9).trans ((va_up_ne _ _ ne_q4_q9).trans ((va_up_ne _ _ (Ne.symm ne_h0_q4)).trans et58))
  have lt73 := h9a _ (List.mem_append_left _ lt58)
  have et74 := (h9b _ (List.mem_append_left _ lt59) ne_r4_q9).trans ((va_up_ne _ _ ne_r4_q9).trans ((va_up_ne _ _ (Ne.symm (ne_in (List.mem_append_left _ lt5) nr4))).trans et59))
  have lt74 := h9a _ (List.mem_append_left _ lt59)
  have et75 := (h9b _ (List.mem_append_left _ lt60) ne_q5_q9).trans ((va_up_ne _ _ ne_q5_q9).trans ((va_up_ne _ _ (Ne.symm ne_h0_q5)).trans et60))
  have lt75 := h9a _ (List.mem_append_left _ lt60)
  have et76 := (h9b _ (List.mem_append_left _ lt61) ne_mdh5_q9).trans ((va_up_ne _ _ ne_mdh5_q9).trans ((va_up_ne _ _ (Ne.symm (ne_in (List.mem_append_left _ lt10) nmh5))).trans et61))
  have lt76 := h9a _ (List.mem_append_left _ lt61)
  have et77 := (h9b _ (List.mem_append_left _ lt62) ne_chh5_q9).trans ((va_up_ne _ _ ne_chh5_q9).trans ((va_up_ne _ _ (Ne.symm (ne_in (List.mem_append_left _ lt10) nch5))).trans et62))
  have lt77 := h9a _ (List.mem_append_left _ lt62)
  have et78 := (h9b _ (List.mem_append_left _ lt63) ne_q6_q9).trans ((va_up_ne _ _ ne_q6_q9).trans ((va_up_ne _ _ (Ne.symm ne_h0_q6)).trans et63))
  have lt78 := h9a _ (List.mem_append_left _ lt63)
  have et79 := (h9b _ (List.mem_append_left _ lt64) ne_q7_q9).trans ((va_up_ne _ _ ne_q7_q9).trans ((va_up_ne _ _ (Ne.symm ne_h0_q7)).trans et64))
  have lt79 := h9a _ (List.mem_append_left _ lt64)
  have et80 := (h9b _ (List.mem_append_left _ lt65) ne_fih7_q9).trans ((va_up_ne _ _ ne_fih7_q9).trans ((va_up_ne _ _ (Ne.symm (ne_in (List.mem_append_left _ lt26) nfh7))).trans et65))
  have lt80 := h9a _ (List.mem_append_left _ lt65)
  have et81 := (h9b _ (List.mem_append_left _ (h8a _ (List.mem_append_right _ (List.mem_singleton.mpr rfl)))) ne_q8_q9).trans ((va_up_ne _ _ ne_q8_q9).trans ((va_up_ne _ _ (Ne.symm ne_h0_q8)).trans h8c))
  have lt81 := h9a _ (List.mem_append_left _ (h8a _ (List.mem_append_right _ (List.mem_singleton.mpr rfl))))
  refine q_st (st2 := [.ref q9, .ref h0]) rfl ?_
  refine q_putF (k := 8) C ck_12 dX11_init_116 w2_52 (by decide) rfl rfl rfl lt66 et66 rfl rfl ?_
  refine q_aload_n (j := 0) C dX11_init_119 rfl ?_
  refine q_new C ck_8 dX11_init_120 w2_25 w2_26 w1_11 ⟨Nat.le_of_ble_eq_true rfl, Nat.le_of_ble_eq_true rfl⟩ (fun q10 nq10 => ?_)
  have ne_h0_q10 : h0 ≠ q10 := (ne_in lt66 nq10)
  have ne_q1_q10 : q1 ≠ q10 := (ne_in lt67 nq10)
  have ne_r1_q10 : r1 ≠ q10 := (ne_in lt68 nq10)
  have ne_q2_q10 : q2 ≠ q10 := (ne_in lt69 nq10)
  have ne_r2_q10 : r2 ≠ q10 := (ne_in lt70 nq10)
  have ne_q3_q10 : q3 ≠ q10 := (ne_in lt71 nq10)
  have ne_r3_q10 : r3 ≠ q10 := (ne_in lt72 nq10)
  have ne_q4_q10 : q4 ≠ q10 := (ne_in lt73 nq10)
  have ne_r4_q10 : r4 ≠ q10 := (ne_in lt74 nq10)
  have ne_q5_q10 : q5 ≠ q10 := (ne_in lt75 nq10)
  have ne_mdh5_q10 : mdh5 ≠ q10 := (ne_in lt76 nq10)
  have ne_chh5_q10 : chh5 ≠ q10 := (ne_in lt77 nq10)
  have ne_q6_q10 : q6 ≠ q10 := (ne_in lt78 nq10)
  have ne_q7_q10 : q7 ≠ q10 := (ne_in lt79 nq10)
  have ne_fih7_q10 : fih7 ≠ q10 := (ne_in lt80 nq10)
  have ne_q8_q10 : q8 ≠ q10 := (ne_in lt81 nq10)
  have ne_q9_q10 : q9 ≠ q10 := (ne_in (h9a _ (List.mem_append_right _ (List.mem_singleton.mpr rfl))) nq10)
  refine q_dup C dX11_init_123 rfl ?_
  refine q_callIN (d2 := 1) (mc2 := 1) (ms2 := 200) (As := []) (rest := [.ref q10, .ref h0]) C (c_Sheet_init (List.mem_append_right _ (List.mem_singleton.mpr rfl)) (va_up_self _ _ _)) dX11_init_124 kN_X11_66 rfl rfl (Nat.le_of_ble_eq_true rfl) ⟨Nat.le_of_ble_eq_true rfl, Nat.le_of_ble_eq_true rfl⟩ ⟨Nat.le_of_ble_eq_true rfl, Nat.le_of_ble_eq_true rfl⟩ (fun vh10 Lh10 Eh10 h10 => ?_)
  obtain ⟨rfl, h10a, h10b, gh10, h10c, h101⟩ := h10
  have et82 := (h10b _ (List.mem_append_left _ lt66) ne_h0_q10).trans ((va_up_ne _ _ ne_h0_q10).trans (va_up_self _ _ _))
  have lt82 := h10a _ (List.mem_append_left _ lt66)
  have et83 := (h10b _ (List.mem_append_left _ lt67) ne_q1_q10).trans ((va_up_ne _ _ ne_q1_q10).trans ((va_up_ne _ _ (Ne.symm ne_h0_q1)).trans et67))
  have lt83 := h10a _ (List.mem_append_left _ lt67)
  have et84 := (h10b _ (List.mem_append_left _ lt68) ne_r1_q10).trans ((va_up_ne _ _ ne_r1_q10).trans ((va_up_ne _ _ (Ne.symm (ne_in (List.mem_append_left _ hL) nr1))).trans et68))
  have lt84 := h10a _ (List.mem_append_left _ lt68)
  have et85 := (h10b _ (List.mem_append_left _ lt69) ne_q2_q10).trans ((va_up_ne _ _ ne_q2_q10).trans ((va_up_ne _ _ (Ne.symm ne_h0_q2)).trans et69))
  have lt85 := h10a _ (List.mem_append_left _ lt69)
  have et86 := (h10b _ (List.mem_append_left _ lt70) ne_r2_q10).trans ((va_up_ne _ _ ne_r2_q10).trans ((va_up_ne _ _ (Ne.symm (ne_in (List.mem_append_left _ lt1) nr2))).trans et70))
  have lt86 := h10a _ (List.mem_append_left _ lt70)
  have et87 := (h10b _ (List.mem_append_left _ lt71) ne_q3_q10).trans ((va_up_ne _ _ ne_q3_q10).trans ((va_up_ne _ _ (Ne.symm ne_h0_q3)).trans et71))
  have lt87 := h10a _ (List.mem_append_left _ lt71)
  have et88 := (h10b _ (List.mem_append_left _ lt72) ne_r3_q10).trans ((va_up_ne _ _ ne_r3_q10).trans ((va_up_ne _ _ (Ne.symm (ne_in (List.mem_append_left _ lt2) nr3))).trans et72))
  have lt88 := h10a _ (List.mem_append_left _ lt72)
  have et89 := (h10b _ (List.mem_append_left _ lt73) ne_q4_q10).trans ((va_up_ne _ _ ne_q4_q10).trans ((va_up_ne _ _ (Ne.symm ne_h0_q4)).trans et73))
  have lt89 := h10a _ (List.mem_append_left _ lt73)
  have et90 := (h10b _ (List.mem_append_left _ lt74) ne_r4_q10).trans ((va_up_ne _ _ ne_r4_q10).trans ((va_up_ne _ _ (Ne.symm (ne_in (List.mem_append_left _ lt5) nr4))).trans et74))
  have lt90 := h10a _ (List.mem_append_left _ lt74)
  have et91 := (h10b _ (List.mem_append_left _ lt75) ne_q5_q10).trans ((va_up_ne _ _ ne_q5_q10).trans ((va_up_ne _ _ (Ne.symm ne_h0_q5)).trans et75))
  have lt91 := h10a _ (List.mem_append_left _ lt75)
  have et92 := (h10b _ (List.mem_append_left _ lt76) ne_mdh5_q10).trans ((va_up_ne _ _ ne_mdh5_q10).trans ((va_up_ne _ _ (Ne.symm (ne_in (List.mem_append_left _ lt10) nmh5))).trans et76))
  have lt92 := h10a _ (List.mem_append_left _ lt76)
  have et93 := (h10b _ (List.mem_append_left _ lt77) ne_chh5_q10).trans ((va_up_ne _ _ ne_chh5_q10).trans ((va_up_ne _ _ (Ne.symm (ne_in (List.mem_append_left _ lt10) nch5))).trans et77))
  have lt93 := h10a _ (List.mem_append_left _ lt77)
  have et94 := (h10b _ (List.mem_append_left _ lt78) ne_q6_q10).trans ((va_up_ne _ _ ne_q6_q10).trans ((va_up_ne _ _ (Ne.symm ne_h0_q6)).trans et78))
  have lt94 := h10a _ (List.mem_append_left _ lt78)
  have et95 := (h10b _ (List.mem_append_left _ lt79) ne_q7_q10).trans ((va_up_ne _ _ ne_q7_q10).trans ((va_up_ne _ _ (Ne.symm ne_h0_q7)).trans et79))
  have lt95 := h10a _ (List.mem_append_left _ lt79)
  have et96 := (h10b _ (List.mem_append_left _ lt80) ne_fih7_q10).trans ((va_up_ne _ _ ne_fih7_q10).trans ((va_up_ne _ _ (Ne.symm (ne_in (List.mem_append_left _ lt26) nfh7))).trans et80))
  have lt96 := h10a _ (List.mem_append_left _ lt80)
  have et97 := (h10b _ (List.mem_append_left _ lt81) ne_q8_q10).trans ((va_up_ne _ _ ne_q8_q10).trans ((va_up_ne _ _ (Ne.symm ne_h0_q8)).trans et81))
  have lt97 := h10a _ (List.mem_append_left _ lt81)
  have et98 := (h10b _ (List.mem_append_left _ (h9a _ (List.mem_append_right _ (List.mem_singleton.mpr rfl)))) ne_q9_q10).trans ((va_up_ne _ _ ne_q9_q10).trans ((va_up_ne _ _ (Ne.symm ne_h0_q9)).trans h9c))
  have lt98 := h10a _ (List.mem_append_left _ (h9a _ (List.mem_append_right _ (List.mem_singleton.mpr rfl))))
  refine q_st (st2 := [.ref q10, .ref h0]) rfl ?_
  refine q_put (k := 9) C ck_12 dX11_init_127 w2_53 (by decide) rfl lt82 et82 rfl rfl ?_
  refine q_aload_n (j := 0) C dX11_init_130 rfl ?_
  refine q_new C ck_8 dX11_init_131 w2_25 w2_26 w1_11 ⟨Nat.le_of_ble_eq_true rfl, Nat.le_of_ble_eq_true rfl⟩ (fun q11 nq11 => ?_)
  have ne_h0_q11 : h0 ≠ q11 := (ne_in lt82 nq11)
  have ne_q1_q11 : q1 ≠ q11 := (ne_in lt83 nq11)
  have ne_r1_q11 : r1 ≠ q11 := (ne_in lt84 nq11)
  have ne_q2_q11 : q2 ≠ q11 := (ne_in lt85 nq11)
  have ne_r2_q11 : r2 ≠ q11 := (ne_in lt86 nq11)
  have ne_q3_q11 : q3 ≠ q11 := (ne_in lt87 nq11)
  have ne_r3_q11 : r3 ≠ q11 := (ne_in lt88 nq11)
  have ne_q4_q11 : q4 ≠ q11 := (ne_in lt89 nq11)
  have ne_r4_q11 : r4 ≠ q11 := (ne_in lt90 nq11)
  have ne_q5_q11 : q5 ≠ q11 := (ne_in lt91 nq11)
  have ne_mdh5_q11 : mdh5 ≠ q11 := (ne_in lt92 nq11)
  have ne_chh5_q11 : chh5 ≠ q11 := (ne_in lt93 nq11)
  have ne_q6_q11 : q6 ≠ q11 := (ne_in lt94 nq11)
  have ne_q7_q11 : q7 ≠ q11 := (ne_in lt95 nq11)
  have ne_fih7_q11 : fih7 ≠ q11 := (ne_in lt96 nq11)
  have ne_q8_q11 : q8 ≠ q11 := (ne_in lt97 nq11)
  have ne_q9_q11 : q9 ≠ q11 := (ne_in lt98 nq11)
  have ne_q10_q11 : q10 ≠ q11 := (ne_in (h10a _ (List.mem_append_right _ (List.mem_singleton.mpr rfl))) nq11)
  refine q_dup C dX11_init_134 rfl ?_
  refine q_callIN (d2 := 1) (mc2 := 1) (ms2 := 200) (As := []) (rest := [.ref q11, .ref h0]) C (c_Sheet_init (List.mem_append_right _ (List.mem_singleton.mpr rfl)) (va_up_self _ _ _)) dX11_init_135 kN_X11_66 rfl rfl (Nat.le_of_ble_eq_true rfl) ⟨Nat.le_of_ble_eq_true rfl, Nat.le_of_ble_eq_true rfl⟩ ⟨Nat.le_of_ble_eq_true rfl, Nat.le_of_ble_eq_true rfl⟩ (fun vh11 Lh11 Eh11 h11 => ?_)
  obtain ⟨rfl, h11a, h11b, gh11, h11c, h111⟩ := h11
  have et99 := (h11b _ (List.mem_append_left _ lt82) ne_h0_q11).trans ((va_up_ne _ _ ne_h0_q11).trans (va_up_self _ _ _))
  have lt99 := h11a _ (List.mem_append_left _ lt82)
  have et100 := (h11b _ (List.mem_append_left _ lt83) ne_q1_q11).trans ((va_up_ne _ _ ne_q1_q11).trans ((va_up_ne _ _ (Ne.symm ne_h0_q1)).trans et83))
  have lt100 := h11a _ (List.mem_append_left _ lt83)
  have et101 := (h11b _ (List.mem_append_left _ lt84) ne_r1_q11).trans ((va_up_ne _ _ ne_r1_q11).trans ((va_up_ne _ _ (Ne.symm (ne_in (List.mem_append_left _ hL) nr1))).trans et84))
  have lt101 := h11a _ (List.mem_append_left _ lt84)
  have et102 := (h11b _ (List.mem_append_left _ lt85) ne_q2_q11).trans ((va_up_ne _ _ ne_q2_q11).trans ((va_up_ne _ _ (Ne.symm ne_h0_q2)).trans et85))
  have lt102 := h11a _ (List.mem_append_left _ lt85)
  have et103 := (h11b _ (List.mem_append_left _ lt86) ne_r2_q11).trans ((va_up_ne _ _ ne_r2_q11).trans ((va_up_ne _ _ (Ne.symm (ne_in (List.mem_append_left _ lt1) nr2))).trans et86))
  have lt103 := h11a _ (List.mem_append_left _ lt86)
  have et104 := (h11b _ (List.mem_append_left _ lt87) ne_q3_q11).trans ((va_up_ne _ _ ne_q3_q11).trans ((va_up_ne _ _ (Ne.symm ne_h0_q3)).trans et87))
  have lt104 := h11a _ (List.mem_append_left _ lt87)
  have et105 := (h11b _ (List.mem_append_left _ lt88) ne_r3_q11).trans ((va_up_ne _ _ ne_r3_q11).trans ((va_up_ne _ _ (Ne.symm (ne_in (List.mem_append_left _ lt2) nr3))).trans et88))
  have lt105 := h11a _ (List.mem_append_left _ lt88)
  have et106 := (h11b _ (List.mem_append_left _ lt89) ne_q4_q11).trans ((va_up_ne _ _ ne_q4_q11).trans ((va_up_ne _ _ (Ne.symm ne_h0_q4)).trans et89))
  have lt106 := h11a _ (List.mem_append_left _ lt89)
  have et107 := (h11b _ (List.mem_append_left _ lt90) ne_r4_q11).trans ((va_up_ne _ _ ne_r4_q11).trans ((va_up_ne _ _ (Ne.symm (ne_in (List.mem_append_left _ lt5) nr4))).trans et90))
  have lt107 := h11a _ (List.mem_append_left _ lt90)
  have et108 := (h11b _ (List.mem_append_left _ lt91) ne_q5_q11).trans ((va_up_ne _ _ ne_q5_q11).trans ((va_up_ne _ _ (Ne.symm ne_h0_q5)).trans et91))
  have lt108 := h11a _ (List.mem_append_left _ lt91)
  have et109 := (h11b _ (List.mem_append_left _ lt92) ne_mdh5_q11).trans ((va_up_ne _ _ ne_mdh5_q11).trans ((va_up_ne _ _ (Ne.symm (ne_in (List.mem_append_left _ lt10) nmh5))).trans et92))
  have lt109 := h11a _ (List.mem_append_left _ lt92)
  have et110 := (h11b _ (List.mem_append_left _ lt93) ne_chh5_q11).trans ((va_up_ne _ _ ne_chh5_q11).trans ((va_up_ne _ _ (Ne.symm (ne_in (List.mem_append_left _ lt10) nch5))).trans et93))
  have lt110 := h11a _ (List.mem_append_left _ lt93)
  have et111 := (h11b _ (List.mem_append_left _ lt94) ne_q6_q11).trans ((va_up_ne _ _ ne_q6_q11).trans ((va_up_ne _ _ (Ne.symm ne_h0_q6)).trans et94))
  have lt111 := h11a _ (List.mem_append_left _ lt94)
  have et112 := (h11b _ (List.mem_append_left _ lt95) ne_q7_q11).trans ((va_up_ne _ _ ne_q7_q11).trans ((va_up_ne _ _ (Ne.symm ne_h0_q7)).trans et95))
  have lt112 := h11a _ (List.mem_append_left _ lt95)
  have et113 := (h11b _ (List.mem_append_left _ lt96) ne_fih7_q11).trans ((va_up_ne _ _ ne_fih7_q11).trans ((va_up_ne _ _ (Ne.symm (ne_in (List.mem_append_left _ lt26) nfh7))).trans et96))
  have lt113 := h11a _ (List.mem_append_left _ lt96)
  have et114 := (h11b _ (List.mem_append_left _ lt97) ne_q8_q11).trans ((va_up_ne _ _ ne_q8_q11).trans ((va_up_ne _ _ (Ne.symm ne_h0_q8)).trans et97))
  have lt114 := h11a _ (List.mem_append_left _ lt97)
  have et115 := (h11b _ (List.mem_append_left _ lt98) ne_q9_q11).trans ((va_up_ne _ _ ne_q9_q11).trans ((va_up_ne _ _ (Ne.symm ne_h0_q9)).trans et98))
  have lt115 := h11a _ (List.mem_append_left _ lt98)
  have et116 := (h11b _ (List.mem_append_left _ (h10a _ (List.mem_append_right _ (List.mem_singleton.mpr rfl)))) ne_q10_q11).trans ((va_up_ne _ _ ne_q10_q11).trans ((va_up_ne _ _ (Ne.symm ne_h0_q10)).trans h10c))
  have lt116 := h11a _ (List.mem_append_left _ (h10a _ (List.mem_append_right _ (List.mem_singleton.mpr rfl))))
  refine q_st (st2 := [.ref q11, .ref h0]) rfl ?_
  refine q_put (k := 10) C ck_12 dX11_init_138 w2_54 (by decide) rfl lt99 et99 rfl rfl ?_
  refine q_aload_n (j := 0) C dX11_init_141 rfl ?_
  refine q_bipush (v := 32) C dX11_init_142 (by decide) ?_
  refine q_put (k := 11) C ck_12 dX11_init_144 w2_55 (by decide) rfl lt99 (va_up_self _ _ _) rfl rfl ?_
  refine q_aload_n (j := 0) C dX11_init_147 rfl ?_
  refine q_bipush (v := 25) C dX11_init_148 (by decide) ?_
  refine q_put (k := 12) C ck_12 dX11_init_150 w2_56 (by decide) rfl lt99 (va_up_self _ _ _) rfl rfl ?_
  refine q_aload_n (j := 0) C dX11_init_153 rfl ?_
  refine q_bipush (v := 36) C dX11_init_154 (by decide) ?_
  refine q_put (k := 13) C ck_12 dX11_init_156 w2_57 (by decide) rfl lt99 (va_up_self _ _ _) rfl rfl ?_
  refine q_aload_n (j := 0) C dX11_init_159 rfl ?_
  refine q_iconst (v := 0) C dX11_init_160 (by decide) ?_
  refine q_put (k := 14) C ck_12 dX11_init_161 w2_58 (by decide) rfl lt99 (va_up_self _ _ _) rfl rfl ?_
  refine q_aload_n (j := 0) C dX11_init_164 rfl ?_
  refine q_iconst (v := 0) C dX11_init_165 (by decide) ?_
  refine q_put (k := 15) C ck_12 dX11_init_166 w2_59 (by decide) rfl lt99 (va_up_self _ _ _) rfl rfl ?_
  refine q_aload_n (j := 0) C dX11_init_169 rfl ?_
  refine q_iconst (v := 0) C dX11_init_170 (by decide) ?_
  refine q_put (k := 16) C ck_12 dX11_init_171 w2_60 (by decide) rfl lt99 (va_up_self _ _ _) rfl rfl ?_
  refine q_aload_n (j := 0) C dX11_init_174 rfl ?_
  refine q_iconst (v := 0) C dX11_init_175 (by decide) ?_
  refine q_put (k := 17) C ck_12 dX11_init_176 w2_61 (by decide) rfl lt99 (va_up_self _ _ _) rfl rfl ?_
  refine q_aload_n (j := 0) C dX11_init_179 rfl ?_
  refine q_iconst (v := (-1)) C dX11_init_180 (by decide) ?_
  refine q_put (k := 18) C ck_12 dX11_init_181 w2_62 (by decide) rfl lt99 (va_up_self _ _ _) rfl rfl ?_
  exact q_vret C dX11_init_184 rfl (Nat.le_of_ble_eq_true rfl) (Nat.le_of_ble_eq_true rfl) ⟨rfl, q1, r1, q2, q3, q4, q5, mdh5, chh5, q7, fih7, q9, q10, _, _, _, _, _, _, _, _, _, _, _, lt99, (va_up_self _ _ _), rfl, rfl, rfl, rfl, rfl, rfl, rfl, rfl, rfl, rfl, rfl, rfl, rfl, rfl, rfl, rfl, lt100, ((va_up_ne _ _ (Ne.symm ne_h0_q1)).trans ((va_up_ne _ _ (Ne.symm ne_h0_q1)).trans ((va_up_ne _ _ (Ne.symm ne_h0_q1)).trans ((va_up_ne _ _ (Ne.symm ne_h0_q1)).trans ((va_up_ne _ _ (Ne.symm ne_h0_q1)).trans ((va_up_ne _ _ (Ne.symm ne_h0_q1)).trans ((va_up_ne _ _ (Ne.symm ne_h0_q1)).trans ((va_up_ne _ _ (Ne.symm ne_h0_q1)).trans ((va_up_ne _ _ (Ne.symm ne_h0_q1)).trans et100))))))))), h10, h11, h12, lt101, ((va_up_ne _ _ (Ne.symm (ne_in (List.mem_append_left _ hL) nr1))).trans ((va_up_ne _ _ (Ne.symm (ne_in (List.mem_append_left _ hL) nr1))).trans ((va_up_ne _ _ (Ne.symm (ne_in (List.mem_append_left _ hL) nr1))).trans ((va_up_ne _ _ (Ne.symm (ne_in (List.mem_append_left _ hL) nr1))).trans ((va_up_ne _ _ (Ne.symm (ne_in (List.mem_append_left _ hL) nr1))).trans ((va_up_ne _ _ (Ne.symm (ne_in (List.mem_append_left _ hL) nr1))).trans ((va_up_ne _ _ (Ne.symm (ne_in (List.mem_append_left _ hL) nr1))).trans ((va_up_ne _ _ (Ne.symm (ne_in (List.mem_append_left _ hL) nr1))).trans ((va_up_ne _ _ (Ne.symm (ne_in (List.mem_append_left _ hL) nr1))).trans et101))))))))), lt102, ((va_up_ne _ _ (Ne.symm ne_h0_q2)).trans ((va_up_ne _ _ (Ne.symm ne_h0_q2)).trans ((va_up_ne _ _ (Ne.symm ne_h0_q2)).trans ((va_up_ne _ _ (Ne.symm ne_h0_q2)).trans ((va_up_ne _ _ (Ne.symm ne_h0_q2)).trans ((va_up_ne _ _ (Ne.symm ne_h0_q2)).trans ((va_up_ne _ _ (Ne.symm ne_h0_q2)).trans ((va_up_ne _ _ (Ne.symm ne_h0_q2)).trans ((va_up_ne _ _ (Ne.symm ne_h0_q2)).trans et102))))))))), h22, lt104, ((va_up_ne _ _ (Ne.symm ne_h0_q3)).trans ((va_up_ne _ _ (Ne.symm ne_h0_q3)).trans ((va_up_ne _ _ (Ne.symm ne_h0_q3)).trans ((va_up_ne _ _ (Ne.symm ne_h0_q3)).trans ((va_up_ne _ _ (Ne.symm ne_h0_q3)).trans ((va_up_ne _ _ (Ne.symm ne_h0_q3)).trans ((va_up_ne _ _ (Ne.symm ne_h0_q3)).trans ((va_up_ne _ _ (Ne.symm ne_h0_q3)).trans ((va_up_ne _ _ (Ne.symm ne_h0_q3)).trans et104))))))))), h32, lt106, ((va_up_ne _ _ (Ne.symm ne_h0_q4)).trans ((va_up_ne _ _ (Ne.symm ne_h0_q4)).trans ((va_up_ne _ _ (Ne.symm ne_h0_q4)).trans ((va_up_ne _ _ (Ne.symm ne_h0_q4)).trans ((va_up_ne _ _ (Ne.symm ne_h0_q4)).trans ((va_up_ne _ _ (Ne.symm ne_h0_q4)).trans ((va_up_ne _ _ (Ne.symm ne_h0_q4)).trans ((va_up_ne _ _ (Ne.symm ne_h0_q4)).trans ((va_up_ne _ _ (Ne.symm ne_h0_q4)).trans et106))))))))), h42, lt108, ((va_up_ne _ _ (Ne.symm ne_h0_q5)).trans ((va_up_ne _ _ (Ne.symm ne_h0_q5)).trans ((va_up_ne _ _ (Ne.symm ne_h0_q5)).trans ((va_up_ne _ _ (Ne.symm ne_h0_q5)).trans ((va_up_ne _ _ (Ne.symm ne_h0_q5)).trans ((va_up_ne _ _ (Ne.symm ne_h0_q5)).trans ((va_up_ne _ _ (Ne.symm ne_h0_q5)).trans ((va_up_ne _ _ (Ne.symm ne_h0_q5)).trans ((va_up_ne _ _ (Ne.symm ne_h0_q5)).trans et108))))))))), h50, h51, lt109, ((va_up_ne _ _ (Ne.symm (ne_in (List.mem_append_left _ lt10) nmh5))).trans ((va_up_ne _ _ (Ne.symm (ne_in (List.mem_append_left _ lt10) nmh5))).trans ((va_up_ne _ _ (Ne.symm (ne_in (List.mem_append_left _ lt10) nmh5))).trans ((va_up_ne _ _ (Ne.symm (ne_in (List.mem_append_left _ lt10) nmh5))).trans ((va_up_ne _ _ (Ne.symm (ne_in (List.mem_append_left _ lt10) nmh5))).trans ((va_up_ne _ _ (Ne.symm (ne_in (List.mem_append_left _ lt10) nmh5))).trans ((va_up_ne _ _ (Ne.symm (ne_in (List.mem_append_left _ lt10) nmh5))).trans ((va_up_ne _ _ (Ne.symm (ne_in (List.mem_append_left _ lt10) nmh5))).trans ((va_up_ne _ _ (Ne.symm (ne_in (List.mem_append_left _ lt10) nmh5))).trans et109))))))))), h5d0, h5d1, h5d2, lt110, ((va_up_ne _ _ (Ne.symm (ne_in (List.mem_append_left _ lt10) nch5))).trans ((va_up_ne _ _ (Ne.symm (ne_in (List.mem_append_left _ lt10) nch5))).trans ((va_up_ne _ _ (Ne.symm (ne_in (List.mem_append_left _ lt10) nch5))).trans ((va_up_ne _ _ (Ne.symm (ne_in (List.mem_append_left _ lt10) nch5))).trans ((va_up_ne _ _ (Ne.symm (ne_in (List.mem_append_left _ lt10) nch5))).trans ((va_up_ne _ _ (Ne.symm (ne_in (List.mem_append_left _ lt10) nch5))).trans ((va_up_ne _ _ (Ne.symm (ne_in (List.mem_append_left _ lt10) nch5))).trans ((va_up_ne _ _ (Ne.symm (ne_in (List.mem_append_left _ lt10) nch5))).trans ((va_up_ne _ _ (Ne.symm (ne_in (List.mem_append_left _ lt10) nch5))).trans et110))))))))), h5e0, h5e1, h5e2, lt112, ((va_up_ne _ _ (Ne.symm ne_h0_q7)).trans ((va_up_ne _ _ (Ne.symm ne_h0_q7)).trans ((va_up_ne _ _ (Ne.symm ne_h0_q7)).trans ((va_up_ne _ _ (Ne.symm ne_h0_q7)).trans ((va_up_ne _ _ (Ne.symm ne_h0_q7)).trans ((va_up_ne _ _ (Ne.symm ne_h0_q7)).trans ((va_up_ne _ _ (Ne.symm ne_h0_q7)).trans ((va_up_ne _ _ (Ne.symm ne_h0_q7)).trans ((va_up_ne _ _ (Ne.symm ne_h0_q7)).trans et112))))))))), h78, lt113, ((va_up_ne _ _ (Ne.symm (ne_in (List.mem_append_left _ lt26) nfh7))).trans ((va_up_ne _ _ (Ne.symm (ne_in (List.mem_append_left _ lt26) nfh7))).trans ((va_up_ne _ _ (Ne.symm (ne_in (List.mem_append_left _ lt26) nfh7))).trans ((va_up_ne _ _ (Ne.symm (ne_in (List.mem_append_left _ lt26) nfh7))).trans ((va_up_ne _ _ (Ne.symm (ne_in (List.mem_append_left _ lt26) nfh7))).trans ((va_up_ne _ _ (Ne.symm (ne_in (List.mem_append_left _ lt26) nfh7))).trans ((va_up_ne _ _ (Ne.symm (ne_in (List.mem_append_left _ lt26) nfh7))).trans ((va_up_ne _ _ (Ne.symm (ne_in (List.mem_append_left _ lt26) nfh7))).trans ((va_up_ne _ _ (Ne.symm (ne_in (List.mem_append_left _ lt26) nfh7))).trans et113))))))))), lt115, ((va_up_ne _ _ (Ne.symm ne_h0_q9)).trans ((va_up_ne _ _ (Ne.symm ne_h0_q9)).trans ((va_up_ne _ _ (Ne.symm ne_h0_q9)).trans ((va_up_ne _ _ (Ne.symm ne_h0_q9)).trans ((va_up_ne _ _ (Ne.symm ne_h0_q9)).trans ((va_up_ne _ _ (Ne.symm ne_h0_q9)).trans ((va_up_ne _ _ (Ne.symm ne_h0_q9)).trans ((va_up_ne _ _ (Ne.symm ne_h0_q9)).trans ((va_up_ne _ _ (Ne.symm ne_h0_q9)).trans et115))))))))), h95, h96, lt116, ((va_up_ne _ _ (Ne.symm ne_h0_q10)).trans ((va_up_ne _ _ (Ne.symm ne_h0_q10)).trans ((va_up_ne _ _ (Ne.symm ne_h0_q10)).trans ((va_up_ne _ _ (Ne.symm ne_h0_q10)).trans ((va_up_ne _ _ (Ne.symm ne_h0_q10)).trans ((va_up_ne _ _ (Ne.symm ne_h0_q10)).trans ((va_up_ne _ _ (Ne.symm ne_h0_q10)).trans ((va_up_ne _ _ (Ne.symm ne_h0_q10)).trans ((va_up_ne _ _ (Ne.symm ne_h0_q10)).trans et116))))))))), h101, nmch5, ne_q1_q2⟩
