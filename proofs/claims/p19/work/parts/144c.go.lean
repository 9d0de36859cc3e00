theorem eh_new {G : GT} {h0 : Nat} : ob 12 19 (fun j => defaultValue (tyX11 j)) = enc G (fun _ => 212) (fun _ => 0) (fun _ _ => 0) (fun _ _ => none) h0 := by
  refine hv2 (show kd (bt 212) = 12 from by decide +kernel) (show nf 12 = 19 from by decide +kernel) (fun k12 n12 => ?_)
  unfold enc
  rw [k12, if_pos (by decide), n12]
  unfold ob
  refine congrArg (fun q => Sum.inr (12, q)) (List.map_congr_left (fun j hj => ?_))
  have lt : j < 19 := List.mem_range.mp hj
  rcases (show j = 0 ∨ j = 1 ∨ j = 2 ∨ j = 3 ∨ j = 4 ∨ j = 5 ∨ j = 6 ∨ j = 7 ∨ j = 8 ∨ j = 9 ∨ j = 10 ∨ j = 11 ∨ j = 12 ∨ j = 13 ∨ j = 14 ∨ j = 15 ∨ j = 16 ∨ j = 17 ∨ j = 18 by omega) with rfl | rfl | rfl | rfl | rfl | rfl | rfl | rfl | rfl | rfl | rfl | rfl | rfl | rfl | rfl | rfl | rfl | rfl | rfl <;> rfl
set_option maxHeartbeats 4000000 in
set_option maxRecDepth 100000 in
theorem law_go {p : Program} {l : Launch} {e : Env} {s : State} {m : MethodId} {below : List Frame} {meth : Method} {c : Code} {y : MethodName} {rt : Option FieldType} {G : GT} {b mi : Nat} {xs : Nat → Int32} (C : Cq p s m #[Value.ref b] meth c cL_law ⟨RL, y.name, y.desc⟩ rt G (fun q => s.heap.size ≤ q) 4) (hr : meth.sig.returnType = ret) (hlk : meth.locks = false) (hM : Mir mi s) {Ln : Nat} (hLn : Ln ≤ 3072) (hX : va_X b Ln xs s s.heap) (hbl : b < s.heap.size) {E0 : Nat → va_E} : wq p l e room_1 s m #[Value.ref b] below meth c G (fun q => s.heap.size ≤ q) 4 (lw_Z below #[Value.ref b] s) [] E0 0 0 0 [(0, .ref b)] [] := by
  refine q_new C ck_12 dL_law_0 w1_24 w1_25 w1_1 ⟨Nat.le_of_ble_eq_true rfl, Nat.le_of_ble_eq_true rfl⟩ (fun h0 nh0 => ?_)
  refine q_g0 C (fun hg => ?_)
  refine q_dup C dL_law_3 rfl ?_
  have eh : va_up E0 h0 (ob 12 19 (fun j => defaultValue (tyX11 j))) h0 = enc G (fun _ => 212) (fun _ => 0) (fun _ _ => 0) (fun _ _ => none) h0 := by
    rw [va_up_self]; exact eh_new
  have M1 := Mu.congr (E2 := va_up E0 h0 (ob 12 19 (fun j => defaultValue (tyX11 j)))) (Y_press (l := l) (G := G) (mi := mi) (sk := fun _ => 0) (a0 := h0) (WT0 (hg h0 (List.mem_singleton.mpr rfl))) (fun t ht a _ q => by have q2 : 212 = t := q; subst q2; cases ht) ⟨List.mem_singleton.mpr rfl, rfl⟩ (fun _ => rfl)) (fun a ha => by rw [List.mem_singleton.mp ha]; exact eh)
  refine u_subI (u := 35) (Lm := []) (Lx := [h0]) (As := []) (rest := [.ref h0]) C hM (by decide) M1 dL_law_4 kI_L_9 rfl rfl (Nat.le_of_ble_eq_true rfl) ⟨Nat.le_of_ble_eq_true rfl, Nat.le_of_ble_eq_true rfl⟩ ⟨Nat.le_of_ble_eq_true rfl, Nat.le_of_ble_eq_true rfl⟩ (fun r1 L1 E1 E2 u1 h1 ha1 hb1 hc1 kc1 ks1 hk1 => ?_)
  obtain ⟨cl, ln, iv, rv, rfl, hu1, rfl, sk, hW, hS, hm, h23, ht, hz14, hz2, hz3, hz22, hsz, hz15, hz4, hz5, hz17, hz11⟩ := h1
  have h23z := h23
  have hu2 : u1 ≤ 4620 := by have q : u1 + 0 ≤ 0 + 4620 := hu1; omega
  refine q_st (st2 := [.ref h0]) rfl ?_
  refine q_astore_n (lv2 := [(1, .ref h0), (0, .ref b)]) C dL_law_7 (by decide) rfl ?_
  refine q_new C ck_13 dL_law_8 w6_49 w6_50 w1_12 ⟨by show kc1 + 1 ≤ 600000; omega, by show ks1 + 67 ≤ 7302250; omega⟩ (fun mm nmm => ?_)
  refine q_dup C dL_law_11 rfl ?_
  refine q_subI (Lm := [] ++ L1) (Lx := [mm]) (As := []) (rest := [.ref mm]) C (M_init (f := fun j => defaultValue (tyX12 j)) (List.mem_singleton.mpr rfl) (va_up_self _ _ _) M_init0) dL_law_12 kI_L_12 rfl rfl (Nat.le_of_ble_eq_true rfl) ⟨Nat.le_of_ble_eq_true rfl, Nat.le_of_ble_eq_true rfl⟩ ⟨by show kc1 + 1 + 40 ≤ 600000; omega, by show ks1 + 67 + 349703 ≤ 7302250; omega⟩ (fun v2 Lm E3 E4 h2 ha2 hb2 hc2 => ?_)
  obtain ⟨rfl, ad, hmI⟩ := h2
  refine q_st (st2 := [.ref mm]) rfl ?_
  refine q_astore_n (lv2 := [(2, .ref mm), (1, .ref h0), (0, .ref b)]) C dL_law_15 (by decide) rfl ?_
  refine q_iconst (v := iI (6 * ((0 : Nat) : Int))) C dL_law_16 (by decide) ?_
  refine q_istore_n (lv2 := LV b h0 mm 0) C dL_law_17 (by decide) rfl ?_
  refine q_swap ?_
  have zx : ∀ k, ∃ z : Int, R32 z ∧ xs k = iI z := fun k => iI_of (xs k)
  exact law_loop (zs := fun k => (zx k).choose) C hr hlk hM hX hbl (fun k => (zx k).choose_spec.2) (fun k => by have q := (zx k).choose_spec.1; exact ⟨by omega, by omega⟩) hLn 513 0 360000 _ _ L1 Lm E4 rfl ⟨cl, ln, iv, rv, sk, ad, mlen, mv0, fun _ _ => 0, fun q hq => (ha2 q hq).trans ((va_up_ne _ _ (ne_in hq nmm)).trans (hb1 q hq)), ⟨hW, hS, hm, by omega, ht⟩, hmI.cgE hb2, MIV0, by omega, ⟨⟨⟨⟨(show iI (iv h0 14) = iI (mv0 56) by rw [hz14.1]; decide), (show iv h0 11 = mv0 31 by rw [hz14.2.1]; decide), (show iv h0 12 = mv0 32 by rw [hz14.2.2.1]; decide), (show iv h0 13 = mv0 33 by rw [hz14.2.2.2]; decide)⟩, ⟨(show iv (sk 2) 2 = mv0 3 by rw [hz2]; decide), CT.zero hz2⟩, ⟨(show iv (sk 3) 2 = mv0 30 by rw [hz3]; decide), CT.zero hz3⟩, tab_zero hz22 h23z (by decide) (by decide), rp_zero h23z (by decide), (fun i hi => absurd hi (by rw [show mv0 4 = 0 by decide]; omega))⟩, ⟨(show iv h0 15 = mv0 42 by rw [hz15.1]; decide), (show iI (iv h0 16) = iI (mv0 43) by rw [hz15.2]; decide)⟩, shb_zero hsz (show mv0 36 = 0 by decide)⟩, hdq_zero hz5 (show mv0 41 = 0 by decide)⟩⟩ (by omega)
