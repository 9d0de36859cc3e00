theorem eh_new {G : GT} {h0 : Nat} : ob 12 19 (fun j => defaultValue (tyX11 j)) = enc G (fun _ => 212) (fun _ => 0) (fun _ _ => 0) (fun _ _ => none) h0 := by
  have k12 : kd (bt 212) = 12 := by decide +kernel
  have n12 : nf 12 = 19 := by decide +kernel
  unfold enc
  rw [k12, if_pos (by decide), n12]
  unfold ob
  refine congrArg (fun q => Sum.inr (12, q)) (List.map_congr_left (fun j hj => ?_))
  have lt : j < 19 := List.mem_range.mp hj
  rcases (show j = 0 ∨ j = 1 ∨ j = 2 ∨ j = 3 ∨ j = 4 ∨ j = 5 ∨ j = 6 ∨ j = 7 ∨ j = 8 ∨ j = 9 ∨ j = 10 ∨ j = 11 ∨ j = 12 ∨ j = 13 ∨ j = 14 ∨ j = 15 ∨ j = 16 ∨ j = 17 ∨ j = 18 by omega) with rfl | rfl | rfl | rfl | rfl | rfl | rfl | rfl | rfl | rfl | rfl | rfl | rfl | rfl | rfl | rfl | rfl | rfl | rfl <;> rfl
theorem law_classes {s : State} {args : Array Value} {c0 : ClassId} (hg : ∀ w ∈ lw_g, w.before args s = true) : ∃ (dC : Nat → ClassId) (dI : Nat → Nat → Nat), ∀ (k : Nat) (q : vw_C), vwCl[k]? = some q → u_Kn s q.1 q.2.1 q.2.2 (dC k) (dI k) := by
  have key : ∀ k : Nat, ∃ (cC : ClassId) (iS : Nat → Nat), ∀ q : vw_C, vwCl[k]? = some q → u_Kn s q.1 q.2.1 q.2.2 cC iS := by
    intro k
    match k with
    | 0 => exact (by obtain ⟨cC, iS, h⟩ := u_known hg ck_0.2.1 (hg _ w1_65); exact ⟨cC, iS, fun q hq => by cases hq; exact h⟩)
    | 1 => exact (by obtain ⟨cC, iS, h⟩ := u_known hg ck_1.2.1 (hg _ w3_35); exact ⟨cC, iS, fun q hq => by cases hq; exact h⟩)
    | 2 => exact (by obtain ⟨cC, iS, h⟩ := u_known hg ck_2.2.1 (hg _ w1_33); exact ⟨cC, iS, fun q hq => by cases hq; exact h⟩)
    | 3 => exact (by obtain ⟨cC, iS, h⟩ := u_known hg ck_3.2.1 (hg _ w4_39); exact ⟨cC, iS, fun q hq => by cases hq; exact h⟩)
    | 4 => exact (by obtain ⟨cC, iS, h⟩ := u_known hg ck_4.2.1 (hg _ w1_180); exact ⟨cC, iS, fun q hq => by cases hq; exact h⟩)
    | 5 => exact (by obtain ⟨cC, iS, h⟩ := u_known hg ck_5.2.1 (hg _ w1_221); exact ⟨cC, iS, fun q hq => by cases hq; exact h⟩)
    | 6 => exact (by obtain ⟨cC, iS, h⟩ := u_known hg ck_6.2.1 (hg _ w3_126); exact ⟨cC, iS, fun q hq => by cases hq; exact h⟩)
    | 7 => exact (by obtain ⟨cC, iS, h⟩ := u_known hg ck_7.2.1 (hg _ w1_131); exact ⟨cC, iS, fun q hq => by cases hq; exact h⟩)
    | 8 => exact (by obtain ⟨cC, iS, h⟩ := u_known hg ck_8.2.1 (hg _ w2_26); exact ⟨cC, iS, fun q hq => by cases hq; exact h⟩)
    | 9 => exact (by obtain ⟨cC, iS, h⟩ := u_known hg ck_9.2.1 (hg _ w1_98); exact ⟨cC, iS, fun q hq => by cases hq; exact h⟩)
    | 10 => exact (by obtain ⟨cC, iS, h⟩ := u_known hg ck_10.2.1 (hg _ w2_163); exact ⟨cC, iS, fun q hq => by cases hq; exact h⟩)
    | 11 => exact (by obtain ⟨cC, iS, h⟩ := u_known hg ck_11.2.1 (hg _ w1_59); exact ⟨cC, iS, fun q hq => by cases hq; exact h⟩)
    | 12 => exact (by obtain ⟨cC, iS, h⟩ := u_known hg ck_12.2.1 (hg _ w1_25); exact ⟨cC, iS, fun q hq => by cases hq; exact h⟩)
    | 13 => exact (by obtain ⟨cC, iS, h⟩ := u_known hg ck_13.2.1 (hg _ w6_50); exact ⟨cC, iS, fun q hq => by cases hq; exact h⟩)
    | k + 14 => exact ⟨c0, fun _ => 0, fun q hq => by simp [vwCl] at hq⟩
  exact ⟨fun k => (key k).choose, fun k => (key k).choose_spec.choose, fun k q hq => (key k).choose_spec.choose_spec q hq⟩
theorem law_arr {s : State} {args : Array Value} {C : String} (h : (Cond.arrayOver (.object C)).before args s = true) : ∃ c : ClassId, ArrOfT s c (.object C) ∧ va_RA s c (.object C) := by
  obtain ⟨comp, c, k, h1, h2, h3, h4, h5⟩ := Cond.arrayOver_spec h
  exact ⟨c, fun N z => ⟨(fun k h => by cases h), k, h3, comp, h4⟩, k, comp, h3, h4, h1, h5⟩
theorem law_arrI {s : State} {args : Array Value} (h : (Cond.arrayClass .int).before args s = true) : ∃ c : ClassId, ArrOfT s c .int ∧ va_RA s c .int := by
  obtain ⟨c, k, comp, h1, h2, h3⟩ := Cond.arrayClass_spec h
  exact ⟨c, fun N z => ⟨(fun k h => by cases h), k, h2, comp, h3⟩, h1⟩
theorem law_arrZ {s : State} {args : Array Value} (h : (Cond.arrayClass .boolean).before args s = true) : ∃ c : ClassId, ArrOfT s c .boolean ∧ va_RA s c .boolean := by
  obtain ⟨c, k, comp, h1, h2, h3⟩ := Cond.arrayClass_spec h
  exact ⟨c, fun N z => ⟨(fun k h => by cases h), k, h2, comp, h3⟩, h1⟩
theorem q_g0 {p : Program} {l : Launch} {e : Env} {R : Room} {s : State} {m : MethodId} {args : Array Value} {below : List Frame} {meth : Method} {c : Code} {cc : ByteArray} {y : MethodName} {ret : Option FieldType} {G : GT} {A : Nat → Prop} {nL : Nat} {Q : State → Prop} {L : List Nat} {E : Nat → va_E} {kc ks pc : Nat} {lv : List (Nat × Value)} {st : List Value} (C : Cq p s m args meth c cc y ret G A nL) (k : (∀ b ∈ L, b ≠ g0 G) → wq p l e R s m args below meth c G A nL Q L E kc ks pc lv st) : wq p l e R s m args below meth c G A nL Q L E kc ks pc lv st := by
  intro H locs ls hP hD hS hl
  refine k ?_ H locs ls hP hD hS hl
  intro b hb e
  obtain ⟨q0, hq⟩ := pl_at (E := E) hb
  obtain ⟨_, _, _, _, _, _, _, hn⟩ := C.2.2.2.2.2.2.2.1.2
  exact hn (e ▸ hD.2 q0 _ hq)
theorem mv0_hi (k : Nat) : mv0 (k + 67) = 0 := by
  unfold mv0
  simp only [va_up_ne _ _ (show k + 67 ≠ 1 by omega), va_up_ne _ _ (show k + 67 ≠ 31 by omega), va_up_ne _ _ (show k + 67 ≠ 32 by omega), va_up_ne _ _ (show k + 67 ≠ 33 by omega)]
set_option maxRecDepth 100000 in
theorem MIV0 : MIV 0 mlen mv0 (fun _ _ => 0) := by
  have h4 : mv0 4 = 0 := by decide
  have hR : RWS (fun _ _ => 0) := fun q _ => ⟨⟨(show (0 : Int) ≤ 0 by decide), (show (0 : Int) ≤ 6008 by decide)⟩, fun r h1 h2 => by
    have h3 : r < 6008 * q + 0 := h2
    omega⟩
  have hT : TBL mv0 (fun _ _ => 0) := ⟨fun t h1 h2 => by omega, fun t r h1 h2 => by omega⟩
  have f0 : ∀ k : Nat, k < 67 → vlo k ≤ mv0 k ∧ mv0 k ≤ vhi k := by decide +kernel
  have g0 : ∀ k : Nat, k < 67 → alo k ≤ 0 ∧ 0 ≤ ahi k := by decide +kernel
  refine ⟨⟨fun k => ?_, fun k j => ?_⟩, hT, ⟨by decide, ⟨by decide, by decide⟩, 0, by decide, h4⟩, hR, by decide⟩
  · by_cases h : k < 67
    · exact f0 k h
    · obtain ⟨j, rfl⟩ : ∃ j, k = j + 67 := ⟨k - 67, by omega⟩
      rw [mv0_hi]; exact ⟨(show (-2147483648 : Int) ≤ 0 by decide), (show (0 : Int) ≤ 2147483647 by decide)⟩
  · by_cases h : k < 67
    · exact g0 k h
    · obtain ⟨i, rfl⟩ : ∃ i, k = i + 67 := ⟨k - 67, by omega⟩
      exact ⟨(show (-2147483648 : Int) ≤ 0 by decide), (show (0 : Int) ≤ 2147483647 by decide)⟩
theorem WT0 {G : GT} {sk : Nat → Nat} {h0 : Nat} (hg : h0 ≠ g0 G) : WT (g0 G) sk [h0] (fun _ => 212) (fun _ => 0) (fun _ _ => 0) (fun _ _ => none) := ⟨fun _ _ _ => ⟨(show (-2147483648 : Int) ≤ 0 by decide), (show (0 : Int) ≤ 2147483647 by decide)⟩, (fun _ _ _ q => by cases q), (fun _ _ q => by cases q), (fun _ _ q => by cases q), (fun _ _ q => by cases q), (fun _ _ q => by cases q), fun q => hg (List.mem_singleton.mp q).symm⟩
set_option maxHeartbeats 4000000 in
set_option maxRecDepth 100000 in
theorem law_go {p : Program} {l : Launch} {e : Env} {s : State} {m : MethodId} {below : List Frame} {meth : Method} {c : Code} {y : MethodName} {rt : Option FieldType} {G : GT} {b mi : Nat} {xs : Nat → Int32} (C : Cq p s m #[Value.ref b] meth c cL_law ⟨RL, y.name, y.desc⟩ rt G (fun q => s.heap.size ≤ q) 4) (hr : meth.sig.returnType = ret) (hlk : meth.locks = false) (hM : Mir mi s) {Ln : Nat} (hLn : Ln ≤ 3072) (hX : va_X b Ln xs s s.heap) (hbl : b < s.heap.size) {E0 : Nat → va_E} : wq p l e room_1 s m #[Value.ref b] below meth c G (fun q => s.heap.size ≤ q) 4 (lw_Z below #[Value.ref b] s) [] E0 0 0 0 [(0, .ref b)] [] := by
  refine q_new C ck_12 dL_law_0 w1_24 w1_25 w1_1 ⟨Nat.le_of_ble_eq_true rfl, Nat.le_of_ble_eq_true rfl⟩ (fun h0 nh0 => ?_)
  refine q_g0 C (fun hg => ?_)
  refine q_dup C dL_law_3 rfl ?_
  have eh : va_up E0 h0 (ob 12 19 (fun j => defaultValue (tyX11 j))) h0 = enc G (fun _ => 212) (fun _ => 0) (fun _ _ => 0) (fun _ _ => none) h0 := by
    rw [va_up_self]; exact eh_new
  have M1 := Mu.congr (E2 := va_up E0 h0 (ob 12 19 (fun j => defaultValue (tyX11 j)))) (Y_press (l := l) (G := G) (mi := mi) (sk := fun _ => 0) (a0 := h0) (WT0 (hg h0 (List.mem_singleton.mpr rfl))) (fun t ht a _ q => by have q2 : 212 = t := q; subst q2; cases ht) ⟨List.mem_singleton.mpr rfl, rfl⟩ (fun _ => rfl)) (fun a ha => by rw [List.mem_singleton.mp ha]; exact eh)
  refine u_subI (u := 35) (Lm := []) (Lx := [h0]) (As := []) (rest := [.ref h0]) C hM (by decide) M1 dL_law_4 kI_L_9 rfl rfl (Nat.le_of_ble_eq_true rfl) ⟨Nat.le_of_ble_eq_true rfl, Nat.le_of_ble_eq_true rfl⟩ ⟨Nat.le_of_ble_eq_true rfl, Nat.le_of_ble_eq_true rfl⟩ (fun r1 L1 E1 E2 u1 h1 ha1 hb1 hc1 kc1 ks1 hk1 => ?_)
  obtain ⟨cl, ln, iv, rv, rfl, hu1, rfl, sk, hW, hS, hm, h23, ht, hz14, hz2, hz3, hz22⟩ := h1
  have h23z := h23
  have hu2 : u1 ≤ 4620 := by have q : u1 + 0 ≤ 0 + 4620 := hu1; omega
  refine q_st (st2 := [.ref h0]) rfl ?_
  refine q_astore_n (lv2 := [(1, .ref h0), (0, .ref b)]) C dL_law_7 (by decide) rfl ?_
  refine q_new C ck_13 dL_law_8 w6_49 w6_50 w1_12 ⟨by show kc1 + 1 ≤ 600000; omega, by show ks1 + 67 ≤ 7302250; omega⟩ (fun mm nmm => ?_)
  refine q_dup C dL_law_11 rfl ?_
  refine q_subI (Lm := [] ++ L1) (Lx := [mm]) (As := []) (rest := [.ref mm]) C (M_init (f := fun j => defaultValue (tyX12 j)) (List.mem_singleton.mpr rfl) (va_up_self _ _ _) M_init0) dL_law_12 kI_L_12 rfl rfl (Nat.le_of_ble_eq_true rfl) ⟨Nat.le_of_ble_eq_true rfl, Nat.le_of_ble_eq_true rfl⟩ ⟨by show kc1 + 1 + 40 ≤ 600000; omega, by show ks1 + 67 + 349703 ≤ 7302250; omega⟩ (fun v2 Lm E3 E4 h2 ha2 hb2 hc2 => ?_)
  obtain ⟨rfl, ad, hmI⟩ := h2
  refine q_st (st2 := [.ref mm]) rfl ?_
  refine q_astore_n (lv2 := [(2, .ref mm), (1, .ref h0), (0, .ref b)]) C dL_law_15 (by decide) rfl ?_
  refine q_iconst (v := iI (6 * ((0 : Nat) : Int))) C dL_law_16 (by decide) ?_
  refine q_istore_n (lv2 := LV b h0 mm 0) C dL_law_17 (by decide) rfl ?_
  refine q_swap ?_
  have zx : ∀ k, ∃ z : Int, R32 z ∧ xs k = iI z := fun k => iI_of (xs k)
  exact law_loop (zs := fun k => (zx k).choose) C hr hlk hM hX hbl (fun k => (zx k).choose_spec.2) (fun k => by have q := (zx k).choose_spec.1; exact ⟨by omega, by omega⟩) hLn 513 0 360000 _ _ L1 Lm E4 rfl ⟨cl, ln, iv, rv, sk, ad, mlen, mv0, fun _ _ => 0, fun q hq => (ha2 q hq).trans ((va_up_ne _ _ (ne_in hq nmm)).trans (hb1 q hq)), ⟨hW, hS, hm, by omega, ht⟩, hmI.cgE hb2, MIV0, by omega, ⟨(show iI (iv h0 14) = iI (mv0 56) by rw [hz14]; decide), ⟨(show iv (sk 2) 2 = mv0 3 by rw [hz2]; decide), CT.zero hz2⟩, (show iv (sk 3) 2 = mv0 30 by rw [hz3]; decide), tab_zero hz22 h23z (by decide) (by decide)⟩⟩ (by omega)
