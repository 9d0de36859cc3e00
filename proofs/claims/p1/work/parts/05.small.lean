set_option maxHeartbeats 4000000 in
set_option maxRecDepth 100000 in
theorem c_refuse {l : Launch} {G : GT} {L : List Nat} {E : Nat → va_E} {h0 : Nat} {f : Nat → Value} (x : Int32) (hL : h0 ∈ L) (hE : E h0 = ob 12 19 f) : Mq l G yX11_refuse cX11_refuse 2 (some .int) 0 [.ref h0, .int x] L E 0 0 (fun v L2 E2 => v = some (.int (-1)) ∧ L2 = L ∧ E2 = va_up E h0 (ob 12 19 (va_up (va_up f 17 (.int x)) 18 (.int (-1))))) := by
  refine Mq.mk (by decide) (Nat.le_of_ble_eq_true rfl) ?_
  intro p e s m args below meth c A C
  refine q_aload_n (j := 0) C dX11_refuse_0 rfl ?_
  refine q_iload_n (j := 1) C dX11_refuse_1 rfl ?_
  refine q_put (k := 17) C ck_12 dX11_refuse_2 w2_61 (by decide) rfl hL hE rfl rfl ?_
  refine q_aload_n (j := 0) C dX11_refuse_5 rfl ?_
  refine q_iconst (v := (-1)) C dX11_refuse_6 (by decide) ?_
  refine q_put (k := 18) C ck_12 dX11_refuse_7 w2_62 (by decide) rfl hL (va_up_self _ _ _) rfl rfl ?_
  refine q_iconst (v := (-1)) C dX11_refuse_10 (by decide) ?_
  exact q_iret C dX11_refuse_11 rfl (Nat.le_of_ble_eq_true rfl) (Nat.le_of_ble_eq_true rfl) ⟨rfl, rfl, bx_uu _ _ _ _⟩
set_option maxHeartbeats 4000000 in
set_option maxRecDepth 100000 in
theorem c_done {l : Launch} {G : GT} {L : List Nat} {E : Nat → va_E} {h0 : Nat} {f : Nat → Value} (x : Int32) (hL : h0 ∈ L) (hE : E h0 = ob 12 19 f) : Mq l G yX11_done cX11_done 2 (some .int) 0 [.ref h0, .int x] L E 0 0 (fun v L2 E2 => v = some (.int x) ∧ L2 = L ∧ E2 = va_up E h0 (ob 12 19 (va_up (va_up f 17 (.int 0)) 18 (.int (-1))))) := by
  refine Mq.mk (by decide) (Nat.le_of_ble_eq_true rfl) ?_
  intro p e s m args below meth c A C
  refine q_aload_n (j := 0) C dX11_done_0 rfl ?_
  refine q_iconst (v := 0) C dX11_done_1 (by decide) ?_
  refine q_put (k := 17) C ck_12 dX11_done_2 w2_61 (by decide) rfl hL hE rfl rfl ?_
  refine q_aload_n (j := 0) C dX11_done_5 rfl ?_
  refine q_iconst (v := (-1)) C dX11_done_6 (by decide) ?_
  refine q_put (k := 18) C ck_12 dX11_done_7 w2_62 (by decide) rfl hL (va_up_self _ _ _) rfl rfl ?_
  refine q_iload_n (j := 1) C dX11_done_10 rfl ?_
  exact q_iret C dX11_done_11 rfl (Nat.le_of_ble_eq_true rfl) (Nat.le_of_ble_eq_true rfl) ⟨rfl, rfl, bx_uu _ _ _ _⟩
set_option maxHeartbeats 4000000 in
set_option maxRecDepth 100000 in
theorem c_bad {l : Launch} {G : GT} {L : List Nat} {E : Nat → va_E} {h0 : Nat} {f : Nat → Value} (x : Int32) (hL : h0 ∈ L) (hE : E h0 = ob 13 67 f) : Mq l G yX12_bad cX12_bad 2 (some .int) 0 [.ref h0, .int x] L E 0 0 (fun v L2 E2 => v = some (.int (-1)) ∧ L2 = L ∧ E2 = va_up E h0 (ob 13 67 (va_up (va_up f 0 (.int x)) 1 (.int (-1))))) := by
  refine Mq.mk (by decide) (Nat.le_of_ble_eq_true rfl) ?_
  intro p e s m args below meth c A C
  refine q_aload_n (j := 0) C dX12_bad_0 rfl ?_
  refine q_iload_n (j := 1) C dX12_bad_1 rfl ?_
  refine q_put (k := 0) C ck_13 dX12_bad_2 w6_59 (by decide) rfl hL hE rfl rfl ?_
  refine q_aload_n (j := 0) C dX12_bad_5 rfl ?_
  refine q_iconst (v := (-1)) C dX12_bad_6 (by decide) ?_
  refine q_put (k := 1) C ck_13 dX12_bad_7 w6_60 (by decide) rfl hL (va_up_self _ _ _) rfl rfl ?_
  refine q_iconst (v := (-1)) C dX12_bad_10 (by decide) ?_
  exact q_iret C dX12_bad_11 rfl (Nat.le_of_ble_eq_true rfl) (Nat.le_of_ble_eq_true rfl) ⟨rfl, rfl, bx_uu _ _ _ _⟩
set_option maxHeartbeats 4000000 in
set_option maxRecDepth 100000 in
theorem c_fine {l : Launch} {G : GT} {L : List Nat} {E : Nat → va_E} {h0 : Nat} {f : Nat → Value} (x : Int32) (hL : h0 ∈ L) (hE : E h0 = ob 13 67 f) : Mq l G yX12_fine cX12_fine 2 (some .int) 0 [.ref h0, .int x] L E 0 0 (fun v L2 E2 => v = some (.int x) ∧ L2 = L ∧ E2 = va_up E h0 (ob 13 67 (va_up (va_up f 0 (.int 0)) 1 (.int (-1))))) := by
  refine Mq.mk (by decide) (Nat.le_of_ble_eq_true rfl) ?_
  intro p e s m args below meth c A C
  refine q_aload_n (j := 0) C dX12_fine_0 rfl ?_
  refine q_iconst (v := 0) C dX12_fine_1 (by decide) ?_
  refine q_put (k := 0) C ck_13 dX12_fine_2 w6_59 (by decide) rfl hL hE rfl rfl ?_
  refine q_aload_n (j := 0) C dX12_fine_5 rfl ?_
  refine q_iconst (v := (-1)) C dX12_fine_6 (by decide) ?_
  refine q_put (k := 1) C ck_13 dX12_fine_7 w6_60 (by decide) rfl hL (va_up_self _ _ _) rfl rfl ?_
  refine q_iload_n (j := 1) C dX12_fine_10 rfl ?_
  exact q_iret C dX12_fine_11 rfl (Nat.le_of_ble_eq_true rfl) (Nat.le_of_ble_eq_true rfl) ⟨rfl, rfl, bx_uu _ _ _ _⟩
set_option maxHeartbeats 4000000 in
set_option maxRecDepth 100000 in
theorem c_AColl_init {l : Launch} {G : GT} {L : List Nat} {E : Nat → va_E} {h0 : Nat} {f : Nat → Value}  (hL : h0 ∈ L) (hE : E h0 = ob 0 3 f) : Mq l G yJxa1e45_init_da8c8 cJxa1e45_init_da8c8 1 none 1 [.ref h0] L E 0 0 (fun v L2 E2 => v = none ∧ (∀ a ∈ L, a ∈ L2) ∧ (∀ a ∈ L, a ≠ h0 → E2 a = E a) ∧ E2 h0 = ob 0 3 f) := by
  refine Mq.mk (by decide) (Nat.le_of_ble_eq_true rfl) ?_
  intro p e s m args below meth c A C
  refine q_aload_n (j := 0) C dJxa1e45_init_da8c8_0 rfl ?_
  refine q_objInit C dJxa1e45_init_da8c8_1 w1_75 w1_30 w1_31 ⟨Nat.le_of_ble_eq_true rfl, Nat.le_of_ble_eq_true rfl⟩ (Nat.le_of_ble_eq_true rfl) ?_
  exact q_vret C dJxa1e45_init_da8c8_4 rfl (Nat.le_of_ble_eq_true rfl) (Nat.le_of_ble_eq_true rfl) ⟨rfl, (fun aa haa => haa), (fun aa haa naa => rfl), hE⟩
set_option maxHeartbeats 4000000 in
set_option maxRecDepth 100000 in
theorem c_AList_init {l : Launch} {G : GT} {L : List Nat} {E : Nat → va_E} {h0 : Nat} {f : Nat → Value}  (hL : h0 ∈ L) (hE : E h0 = ob 0 3 f) : Mq l G yJxc12de_init_da8c8 cJxc12de_init_da8c8 1 none 2 [.ref h0] L E 0 0 (fun v L2 E2 => v = none ∧ (∀ a ∈ L, a ∈ L2) ∧ (∀ a ∈ L, a ≠ h0 → E2 a = E a) ∧ E2 h0 = ob 0 3 (va_up f 0 (.int 0))) := by
  refine Mq.mk (by decide) (Nat.le_of_ble_eq_true rfl) ?_
  intro p e s m args below meth c A C
  refine q_aload_n (j := 0) C dJxc12de_init_da8c8_0 rfl ?_
  refine q_callI (As := []) (rest := []) C (c_AColl_init hL hE) dJxc12de_init_da8c8_1 kI_Jxc12de_1 rfl rfl (Nat.le_of_ble_eq_true rfl) ⟨Nat.le_of_ble_eq_true rfl, Nat.le_of_ble_eq_true rfl⟩ ⟨Nat.le_of_ble_eq_true rfl, Nat.le_of_ble_eq_true rfl⟩ (fun vh1 Lh1 Eh1 h1 => ?_)
  obtain ⟨rfl, h1a, h1b, h1c⟩ := h1
  refine q_st (st2 := []) rfl ?_
  refine q_aload_n (j := 0) C dJxc12de_init_da8c8_4 rfl ?_
  refine q_iconst (v := 0) C dJxc12de_init_da8c8_5 (by decide) ?_
  refine q_put (k := 0) C ck_0 dJxc12de_init_da8c8_6 w1_80 (by decide) rfl (h1a _ hL) h1c rfl rfl ?_
  exact q_vret C dJxc12de_init_da8c8_9 rfl (Nat.le_of_ble_eq_true rfl) (Nat.le_of_ble_eq_true rfl) ⟨rfl, (fun aa haa => (h1a _ haa)), (fun aa haa naa => ((va_up_ne _ _ naa).trans ((h1b _ haa naa).trans rfl))), (va_up_self _ _ _)⟩
set_option maxHeartbeats 4000000 in
set_option maxRecDepth 100000 in
theorem c_ArrayList_init {l : Launch} {G : GT} {L : List Nat} {E : Nat → va_E} {h0 : Nat} {f : Nat → Value}  (hL : h0 ∈ L) (hE : E h0 = ob 0 3 f) : Mq l G yJx4a65c_init_da8c8 cJx4a65c_init_da8c8 1 none 3 [.ref h0] L E 0 0 (fun v L2 E2 => v = none ∧ (∀ a ∈ L, a ∈ L2) ∧ (∀ a ∈ L, a ≠ h0 → E2 a = E a) ∧ E2 h0 = ob 0 3 (va_up (va_up f 0 (.int 0)) 1 (.ref (g0 G)))) := by
  refine Mq.mk (by decide) (Nat.le_of_ble_eq_true rfl) ?_
  intro p e s m args below meth c A C
  refine q_aload_n (j := 0) C dJx4a65c_init_da8c8_0 rfl ?_
  refine q_callI (As := []) (rest := []) C (c_AList_init hL hE) dJx4a65c_init_da8c8_1 kI_Jx4a65c_1 rfl rfl (Nat.le_of_ble_eq_true rfl) ⟨Nat.le_of_ble_eq_true rfl, Nat.le_of_ble_eq_true rfl⟩ ⟨Nat.le_of_ble_eq_true rfl, Nat.le_of_ble_eq_true rfl⟩ (fun vh1 Lh1 Eh1 h1 => ?_)
  obtain ⟨rfl, h1a, h1b, h1c⟩ := h1
  refine q_st (st2 := []) rfl ?_
  refine q_aload_n (j := 0) C dJx4a65c_init_da8c8_4 rfl ?_
  refine q_gets C dJx4a65c_init_da8c8_5 w1_76 ?_
  refine q_put (k := 1) C ck_0 dJx4a65c_init_da8c8_8 w1_78 (by decide) rfl (h1a _ hL) h1c rfl rfl ?_
  exact q_vret C dJx4a65c_init_da8c8_11 rfl (Nat.le_of_ble_eq_true rfl) (Nat.le_of_ble_eq_true rfl) ⟨rfl, (fun aa haa => (h1a _ haa)), (fun aa haa naa => ((va_up_ne _ _ naa).trans ((h1b _ haa naa).trans rfl))), (va_up_self _ _ _)⟩
set_option maxHeartbeats 4000000 in
set_option maxRecDepth 100000 in
theorem c_Ints_init {l : Launch} {G : GT} {L : List Nat} {E : Nat → va_E} {h0 : Nat} {f : Nat → Value} (lim : Int32) (hL : h0 ∈ L) (hE : E h0 = ob 2 3 f) : Mq l G yX1_init cX1_init 2 none 1 [.ref h0, .int lim] L E 1 16 (fun v L2 E2 => v = none ∧ (∀ a ∈ L, a ∈ L2) ∧ (∀ a ∈ L, a ≠ h0 → E2 a = E a) ∧ ∃ (q : Nat) (g : Nat → Value), q ∉ L ∧ q ∈ L2 ∧ E2 h0 = ob 2 3 g ∧ g 0 = .int lim ∧ g 1 = .ref q ∧ g 2 = .int 0 ∧ E2 q = aI G 16 (fun _ => 0)) := by
  refine Mq.mk (by decide) (Nat.le_of_ble_eq_true rfl) ?_
  intro p e s m args below meth c A C
  refine q_aload_n (j := 0) C dX1_init_0 rfl ?_
  refine q_objInit C dX1_init_1 w1_37 w1_30 w1_31 ⟨Nat.le_of_ble_eq_true rfl, Nat.le_of_ble_eq_true rfl⟩ (Nat.le_of_ble_eq_true rfl) ?_
  refine q_aload_n (j := 0) C dX1_init_4 rfl ?_
  refine q_iconst (v := 0) C dX1_init_5 (by decide) ?_
  refine q_put (k := 2) C ck_2 dX1_init_6 w1_43 (by decide) rfl hL hE rfl rfl ?_
  refine q_aload_n (j := 0) C dX1_init_9 rfl ?_
  refine q_iload_n (j := 1) C dX1_init_10 rfl ?_
  refine q_putF (k := 0) C ck_2 dX1_init_11 w1_38 (by decide) rfl rfl rfl hL (va_up_self _ _ _) rfl rfl ?_
  refine q_aload_n (j := 0) C dX1_init_14 rfl ?_
  refine q_bipush (v := 16) C dX1_init_15 (by decide) ?_
  refine q_newaI (N := 16) C dX1_init_17 w1_57 (by decide) (by decide) (by decide) ⟨Nat.le_of_ble_eq_true rfl, Nat.le_of_ble_eq_true rfl⟩ (fun q1 nq1 => ?_)
  have ne_h0_q1 : h0 ≠ q1 := (ne_in hL nq1)
  refine q_put (k := 1) C ck_2 dX1_init_19 w1_39 (by decide) rfl (List.mem_append_left _ hL) ((va_up_ne _ _ ne_h0_q1).trans (va_up_self _ _ _)) rfl rfl ?_
  exact q_vret C dX1_init_22 rfl (Nat.le_of_ble_eq_true rfl) (Nat.le_of_ble_eq_true rfl) ⟨rfl, (fun aa haa => (List.mem_append_left _ haa)), (fun aa haa naa => ((va_up_ne _ _ naa).trans ((va_up_ne _ _ (ne_in haa nq1)).trans ((va_up_ne _ _ naa).trans ((va_up_ne _ _ naa).trans rfl))))), ⟨q1, _, nq1, (List.mem_append_right _ (List.mem_singleton.mpr rfl)), (va_up_self _ _ _), rfl, rfl, rfl, ((va_up_ne _ _ (Ne.symm ne_h0_q1)).trans (va_up_self _ _ _))⟩⟩
set_option maxHeartbeats 4000000 in
set_option maxRecDepth 100000 in
theorem c_Tables_init {l : Launch} {G : GT} {L : List Nat} {E : Nat → va_E} {h0 : Nat} {f : Nat → Value}  (hL : h0 ∈ L) (hE : E h0 = ob 11 2 f) : Mq l G yX10_init cX10_init 1 none 4 [.ref h0] L E 2 6 (fun v L2 E2 => v = none ∧ (∀ a ∈ L, a ∈ L2) ∧ (∀ a ∈ L, a ≠ h0 → E2 a = E a) ∧ ∃ (md ch : Nat) (g gm gc : Nat → Value), md ∉ L ∧ ch ∉ L ∧ md ≠ ch ∧ md ∈ L2 ∧ ch ∈ L2 ∧ E2 h0 = ob 11 2 g ∧ g 0 = .ref md ∧ g 1 = .ref ch ∧ E2 md = ob 0 3 gm ∧ gm 1 = .ref (g0 G) ∧ gm 2 = .int 0 ∧ E2 ch = ob 0 3 gc ∧ gc 1 = .ref (g0 G) ∧ gc 2 = .int 0) := by
  refine Mq.mk (by decide) (Nat.le_of_ble_eq_true rfl) ?_
  intro p e s m args below meth c A C
  refine q_aload_n (j := 0) C dX10_init_0 rfl ?_
  refine q_objInit C dX10_init_1 w1_63 w1_30 w1_31 ⟨Nat.le_of_ble_eq_true rfl, Nat.le_of_ble_eq_true rfl⟩ (Nat.le_of_ble_eq_true rfl) ?_
  refine q_aload_n (j := 0) C dX10_init_4 rfl ?_
  refine q_new C ck_0 dX10_init_5 w1_64 w1_65 w1_6 ⟨Nat.le_of_ble_eq_true rfl, Nat.le_of_ble_eq_true rfl⟩ (fun q1 nq1 => ?_)
  have ne_h0_q1 : h0 ≠ q1 := (ne_in hL nq1)
  refine q_dup C dX10_init_8 rfl ?_
  refine q_callI (As := []) (rest := [.ref q1, .ref h0]) C (c_ArrayList_init (List.mem_append_right _ (List.mem_singleton.mpr rfl)) (va_up_self _ _ _)) dX10_init_9 kI_X10_11 rfl rfl (Nat.le_of_ble_eq_true rfl) ⟨Nat.le_of_ble_eq_true rfl, Nat.le_of_ble_eq_true rfl⟩ ⟨Nat.le_of_ble_eq_true rfl, Nat.le_of_ble_eq_true rfl⟩ (fun vh1 Lh1 Eh1 h1 => ?_)
  obtain ⟨rfl, h1a, h1b, h1c⟩ := h1
  have et1 := (h1b _ (List.mem_append_left _ hL) ne_h0_q1).trans ((va_up_ne _ _ ne_h0_q1).trans hE)
  have lt1 := h1a _ (List.mem_append_left _ hL)
  refine q_st (st2 := [.ref q1, .ref h0]) rfl ?_
  refine q_putF (k := 0) C ck_11 dX10_init_12 w1_90 (by decide) rfl rfl rfl lt1 et1 rfl rfl ?_
  refine q_aload_n (j := 0) C dX10_init_15 rfl ?_
  refine q_new C ck_0 dX10_init_16 w1_64 w1_65 w1_6 ⟨Nat.le_of_ble_eq_true rfl, Nat.le_of_ble_eq_true rfl⟩ (fun q2 nq2 => ?_)
  have ne_h0_q2 : h0 ≠ q2 := (ne_in lt1 nq2)
  have ne_q1_q2 : q1 ≠ q2 := (ne_in (h1a _ (List.mem_append_right _ (List.mem_singleton.mpr rfl))) nq2)
  refine q_dup C dX10_init_19 rfl ?_
  refine q_callI (As := []) (rest := [.ref q2, .ref h0]) C (c_ArrayList_init (List.mem_append_right _ (List.mem_singleton.mpr rfl)) (va_up_self _ _ _)) dX10_init_20 kI_X10_11 rfl rfl (Nat.le_of_ble_eq_true rfl) ⟨Nat.le_of_ble_eq_true rfl, Nat.le_of_ble_eq_true rfl⟩ ⟨Nat.le_of_ble_eq_true rfl, Nat.le_of_ble_eq_true rfl⟩ (fun vh2 Lh2 Eh2 h2 => ?_)
  obtain ⟨rfl, h2a, h2b, h2c⟩ := h2
  have et2 := (h2b _ (List.mem_append_left _ lt1) ne_h0_q2).trans ((va_up_ne _ _ ne_h0_q2).trans (va_up_self _ _ _))
  have lt2 := h2a _ (List.mem_append_left _ lt1)
  have et3 := (h2b _ (List.mem_append_left _ (h1a _ (List.mem_append_right _ (List.mem_singleton.mpr rfl)))) ne_q1_q2).trans ((va_up_ne _ _ ne_q1_q2).trans ((va_up_ne _ _ (Ne.symm ne_h0_q1)).trans h1c))
  have lt3 := h2a _ (List.mem_append_left _ (h1a _ (List.mem_append_right _ (List.mem_singleton.mpr rfl))))
  refine q_st (st2 := [.ref q2, .ref h0]) rfl ?_
  refine q_putF (k := 1) C ck_11 dX10_init_23 w1_91 (by decide) rfl rfl rfl lt2 et2 rfl rfl ?_
  exact q_vret C dX10_init_26 rfl (Nat.le_of_ble_eq_true rfl) (Nat.le_of_ble_eq_true rfl) ⟨rfl, (fun aa haa => (h2a _ (List.mem_append_left _ (h1a _ (List.mem_append_left _ haa))))), (fun aa haa naa => ((va_up_ne _ _ naa).trans ((h2b _ (List.mem_append_left _ (h1a _ (List.mem_append_left _ haa))) (ne_in (h1a _ (List.mem_append_left _ haa)) nq2)).trans ((va_up_ne _ _ (ne_in (h1a _ (List.mem_append_left _ haa)) nq2)).trans ((va_up_ne _ _ naa).trans ((h1b _ (List.mem_append_left _ haa) (ne_in haa nq1)).trans ((va_up_ne _ _ (ne_in haa nq1)).trans rfl))))))), ⟨q1, q2, _, _, _, (fun z => nq1 z), (fun z => nq2 (h1a _ (List.mem_append_left _ z))), ne_q1_q2, lt3, (h2a _ (List.mem_append_right _ (List.mem_singleton.mpr rfl))), (va_up_self _ _ _), rfl, rfl, ((va_up_ne _ _ (Ne.symm ne_h0_q1)).trans et3), rfl, rfl, ((va_up_ne _ _ (Ne.symm ne_h0_q2)).trans h2c), rfl, rfl⟩⟩
