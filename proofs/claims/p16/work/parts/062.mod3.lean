def RowOK (a : Nat → Nat → Int) (r : Int) : Prop := (0 ≤ r ∧ r < 12016) ∧ (-4 ≤ a 44 r.toNat ∧ a 44 r.toNat < 6000) ∧ (1 ≤ a 46 r.toNat ∧ a 46 r.toNat ≤ 4) ∧ 0 ≤ a 45 r.toNat ∧ (0 ≤ a 44 r.toNat → a 45 r.toNat + a 46 r.toNat ≤ 24000) ∧ (a 44 r.toNat < 0 → a 45 r.toNat + a 46 r.toNat ≤ 480)
set_option maxHeartbeats 4000000 in
set_option maxRecDepth 100000 in
theorem Lp_alike {p : Program} {l : Launch} {e : Env} {s : State} {m : MethodId} {args : Array Value} {below : List Frame} {meth : Method} {c : Code} {G : GT} {A : Nat → Prop} {h0 : Nat} {ad ln : Nat → Nat} {v : Nat → Int} {a : Nat → Nat → Int} {x y : Int} (hR : RG v a) (hx : RowOK a x) (hy : RowOK a y) (C : Cq p s m args meth c cX12_alike yX12_alike (some .int) G A 4) : ∀ (n : Nat) (k : Int), 5 - k < (n : Int) → (0 ≤ k ∧ k ≤ a 46 x.toNat ∧ k ≤ a 46 y.toNat) → mw p l e (rmq 1 0 0) s m args below meth c G A 4 (MQ below (Qm G A (fun rq Lq Eq => ∃ (vq : Nat → Int) (aq : Nat → Nat → Int), mI G h0 ad ln vq aq Lq Eq ∧ (fun r v2 a2 => ∃ f : Int, r = some (.int (iI f)) ∧ (0 ≤ f ∧ f ≤ a 46 x.toNat ∧ f ≤ a 46 y.toNat) ∧ v = v2 ∧ a = a2) rq vq aq)) args s 0 0 A) h0 ad ln v a 0 0 2 [(3, .int (iI k)), (0, .ref h0), (1, .int (iI x)), (2, .int (iI y))] [] := by
  intro n
  induction n with
  | zero =>
    intro k   hm hk
    have uhx := hx
    unfold RowOK at uhx
    have uhy := hy
    unfold RowOK at uhy
    exact absurd hm (by omega)
  | succ n ih =>
    intro k   hm hk
    have uhx := hx
    unfold RowOK at uhx
    have uhy := hy
    unfold RowOK at uhy
    refine m_iload_n (j := 0) C dX12_alike_2 rfl ?_
    refine m_aload_n (j := 1) C dX12_alike_3 rfl ?_
    refine m_geta (k := 46) C dX12_alike_4 w6_105 (by decide) rfl ?_
    refine m_iload_n (j := 2) C dX12_alike_7 rfl ?_
    refine m_ald (k := 46) C dX12_alike_8 rfl rfl (by decide) (by omega) (by show _ < ((_ : Nat) : Int); simp only [mlen]; omega) (by decide) ?_
    have ra1 := hR.2 46 (x.toNat)
    refine m_icmp_ge (tgt := 43) C ⟨by omega, by omega⟩ ⟨by omega, by omega⟩ dX12_alike_9 (by decide) (fun c1 => ?_) (fun c1 => ?_)
    · refine m_iload_n (j := 0) C dX12_alike_43 rfl ?_
      exact m_iret C dX12_alike_44 rfl (Nat.le_of_ble_eq_true rfl) (Nat.le_of_ble_eq_true rfl) ⟨k, rfl, (by omega), rfl, rfl⟩
    · refine m_iload_n (j := 0) C dX12_alike_12 rfl ?_
      refine m_aload_n (j := 1) C dX12_alike_13 rfl ?_
      refine m_geta (k := 46) C dX12_alike_14 w6_105 (by decide) rfl ?_
      refine m_iload_n (j := 3) C dX12_alike_17 rfl ?_
      refine m_ald (k := 46) C dX12_alike_18 rfl rfl (by decide) (by omega) (by show _ < ((_ : Nat) : Int); simp only [mlen]; omega) (by decide) ?_
      have ra2 := hR.2 46 (y.toNat)
      refine m_icmp_ge (tgt := 43) C ⟨by omega, by omega⟩ ⟨by omega, by omega⟩ dX12_alike_19 (by decide) (fun c2 => ?_) (fun c2 => ?_)
      · refine m_iload_n (j := 0) C dX12_alike_43 rfl ?_
        exact m_iret C dX12_alike_44 rfl (Nat.le_of_ble_eq_true rfl) (Nat.le_of_ble_eq_true rfl) ⟨k, rfl, (by omega), rfl, rfl⟩
      · refine m_aload_n (j := 1) C dX12_alike_22 rfl ?_
        refine m_iload_n (j := 2) C dX12_alike_23 rfl ?_
        refine m_iload_n (j := 0) C dX12_alike_24 rfl ?_
        refine m_call (mc2 := 0) (ms2 := 0) (As := [.int (iI x), .int (iI k)]) (rest := []) C (M_rowCell (r := x) (k := k) hR (by omega) (by omega)) dX12_alike_25 kV_X12_324 rfl ck_13 rfl (Nat.le_of_ble_eq_true rfl) ⟨Nat.le_of_ble_eq_true rfl, Nat.le_of_ble_eq_true rfl⟩ ⟨Nat.le_of_ble_eq_true rfl, Nat.le_of_ble_eq_true rfl⟩ (fun rh1 vh1 ah1 h1 => ?_)
        obtain ⟨f1, rfl, hf1, rfl, rfl⟩ := h1
        refine m_st (st2 := [.int (iI f1)]) rfl ?_
        refine m_aload_n (j := 1) C dX12_alike_28 rfl ?_
        refine m_iload_n (j := 3) C dX12_alike_29 rfl ?_
        refine m_iload_n (j := 0) C dX12_alike_30 rfl ?_
        refine m_call (mc2 := 0) (ms2 := 0) (As := [.int (iI y), .int (iI k)]) (rest := [.int (iI f1)]) C (M_rowCell (r := y) (k := k) hR (by omega) (by omega)) dX12_alike_31 kV_X12_324 rfl ck_13 rfl (Nat.le_of_ble_eq_true rfl) ⟨Nat.le_of_ble_eq_true rfl, Nat.le_of_ble_eq_true rfl⟩ ⟨Nat.le_of_ble_eq_true rfl, Nat.le_of_ble_eq_true rfl⟩ (fun rh2 vh2 ah2 h2 => ?_)
        obtain ⟨f2, rfl, hf2, rfl, rfl⟩ := h2
        refine m_st (st2 := [.int (iI f2), .int (iI f1)]) rfl ?_
        refine m_icmp_ne (tgt := 43) C ⟨by omega, by omega⟩ ⟨by omega, by omega⟩ dX12_alike_34 (by decide) (fun c3 => ?_) (fun c3 => ?_)
        · refine m_iload_n (j := 0) C dX12_alike_43 rfl ?_
          exact m_iret C dX12_alike_44 rfl (Nat.le_of_ble_eq_true rfl) (Nat.le_of_ble_eq_true rfl) ⟨k, rfl, (by omega), rfl, rfl⟩
        · refine m_iinc (z := k) (j := 0) (lv2 := [(3, .int (iI (k + 1))), (0, .ref h0), (1, .int (iI x)), (2, .int (iI y))]) C dX12_alike_37 rfl (by decide) rfl ?_
          refine m_goto (tgt := 2) C dX12_alike_40 (by decide) ?_
          refine m_lv (lv2 := [(3, .int (iI (k + 1))), (0, .ref h0), (1, .int (iI x)), (2, .int (iI y))]) [0, 1, 2, 3] rfl ?_
          exact ih (k + 1) (by omega) (by omega)
set_option maxHeartbeats 4000000 in
set_option maxRecDepth 100000 in
theorem M_alike {l : Launch} {G : GT} {h0 : Nat} {ad ln : Nat → Nat} {v : Nat → Int} {a : Nat → Nat → Int} {x y : Int} (hR : RG v a) (hx : RowOK a x) (hy : RowOK a y) : Mm l G yX12_alike cX12_alike 4 (some .int) 1 [.int (iI x), .int (iI y)] h0 ad ln v a 0 0 (fun r v2 a2 => ∃ f : Int, r = some (.int (iI f)) ∧ (0 ≤ f ∧ f ≤ a 46 x.toNat ∧ f ≤ a 46 y.toNat) ∧ v = v2 ∧ a = a2) := by
  refine Mm.mk (by decide) (Nat.le_of_ble_eq_true rfl) ?_
  intro p e s m args below meth c A C
  have uhx := hx
  unfold RowOK at uhx
  have uhy := hy
  unfold RowOK at uhy
  refine m_iconst C dX12_alike_0 ?_
  refine m_istore_n (lv2 := [(3, .int (iI 0)), (0, .ref h0), (1, .int (iI x)), (2, .int (iI y))]) C dX12_alike_1 (by decide) rfl ?_
  refine m_lv (lv2 := [(3, .int (iI 0)), (0, .ref h0), (1, .int (iI x)), (2, .int (iI y))]) [0, 1, 2, 3] rfl ?_
  exact Lp_alike hR hx hy C 6 0  (by omega) (by omega)
set_option maxHeartbeats 4000000 in
set_option maxRecDepth 100000 in
theorem Lp_stands {p : Program} {l : Launch} {e : Env} {s : State} {m : MethodId} {args : Array Value} {below : List Frame} {meth : Method} {c : Code} {G : GT} {A : Nat → Prop} {h0 : Nat} {ad ln : Nat → Nat} {v : Nat → Int} {a : Nat → Nat → Int} {r q u : Int} (hR : RG v a) (hx : RowOK a r) (hq : 0 ≤ q ∧ q ≤ u ∧ u ≤ 40200) (C : Cq p s m args meth c cX12_stands yX12_stands (some .boolean) G A 6) : ∀ (n : Nat) (k f : Int), 5 - k < (n : Int) → (0 ≤ k ∧ k ≤ a 46 r.toNat) → (f = 0 ∨ (f = 1 ∧ q + a 46 r.toNat ≤ u)) → mw p l e (rmq 1 0 0) s m args below meth c G A 6 (MQ below (Qm G A (fun rq Lq Eq => ∃ (vq : Nat → Int) (aq : Nat → Nat → Int), mI G h0 ad ln vq aq Lq Eq ∧ (fun r2 v2 a2 => ∃ f : Int, r2 = some (.int (iI f)) ∧ (f = 0 ∨ (f = 1 ∧ q + a 46 r.toNat ≤ u)) ∧ v = v2 ∧ a = a2) rq vq aq)) args s 0 0 A) h0 ad ln v a 0 0 22 [(5, .int (iI k)), (4, .int (iI f)), (0, .ref h0), (1, .int (iI r)), (2, .int (iI q)), (3, .int (iI u))] [] := by
  intro n
  induction n with
  | zero =>
    intro k f   hm hk hf
    have uhx := hx
    unfold RowOK at uhx
    exact absurd hm (by omega)
  | succ n ih =>
    intro k f   hm hk hf
    have uhx := hx
    unfold RowOK at uhx
    refine m_iload (j := 0) C dX12_stands_22 rfl ?_
    refine m_aload_n (j := 2) C dX12_stands_24 rfl ?_
    refine m_geta (k := 46) C dX12_stands_25 w6_105 (by decide) rfl ?_
    refine m_iload_n (j := 3) C dX12_stands_28 rfl ?_
    refine m_ald (k := 46) C dX12_stands_29 rfl rfl (by decide) (by omega) (by show _ < ((_ : Nat) : Int); simp only [mlen]; omega) (by decide) ?_
    have ra1 := hR.2 46 (r.toNat)
    refine m_icmp_ge (tgt := 70) C ⟨by omega, by omega⟩ ⟨by omega, by omega⟩ dX12_stands_30 (by decide) (fun c1 => ?_) (fun c1 => ?_)
    · refine m_iload (j := 1) C dX12_stands_70 rfl ?_
      exact m_zret C dX12_stands_72 rfl (by omega) (Nat.le_of_ble_eq_true rfl) (Nat.le_of_ble_eq_true rfl) ⟨f, rfl, (by omega), rfl, rfl⟩
    · refine m_iload (j := 1) C dX12_stands_33 rfl ?_
      refine m_if_eq (tgt := 70) C ⟨by omega, by omega⟩ dX12_stands_35 (by decide) (fun c2 => ?_) (fun c2 => ?_)
      · refine m_iload (j := 1) C dX12_stands_70 rfl ?_
        exact m_zret C dX12_stands_72 rfl (by omega) (Nat.le_of_ble_eq_true rfl) (Nat.le_of_ble_eq_true rfl) ⟨f, rfl, (by omega), rfl, rfl⟩
      · refine m_aload_n (j := 2) C dX12_stands_38 rfl ?_
        refine m_iload_n (j := 3) C dX12_stands_39 rfl ?_
        refine m_iload (j := 0) C dX12_stands_40 rfl ?_
        refine m_call (mc2 := 0) (ms2 := 0) (As := [.int (iI r), .int (iI k)]) (rest := []) C (M_rowCell (r := r) (k := k) hR (by omega) (by omega)) dX12_stands_42 kV_X12_324 rfl ck_13 rfl (Nat.le_of_ble_eq_true rfl) ⟨Nat.le_of_ble_eq_true rfl, Nat.le_of_ble_eq_true rfl⟩ ⟨Nat.le_of_ble_eq_true rfl, Nat.le_of_ble_eq_true rfl⟩ (fun rh1 vh1 ah1 h1 => ?_)
        obtain ⟨f1, rfl, hf1, rfl, rfl⟩ := h1
        refine m_st (st2 := [.int (iI f1)]) rfl ?_
        refine m_aload_n (j := 2) C dX12_stands_45 rfl ?_
        refine m_geta (k := 48) C dX12_stands_46 w6_107 (by decide) rfl ?_
        refine m_iload_n (j := 4) C dX12_stands_49 rfl ?_
        refine m_iload (j := 0) C dX12_stands_50 rfl ?_
        refine m_iadd C dX12_stands_52 ?_
        refine m_ald (k := 48) C dX12_stands_53 rfl rfl (by decide) (by omega) (by show _ < ((_ : Nat) : Int); simp only [mlen]; omega) (by decide) ?_
        have ra2 := hR.2 48 ((q + k).toNat)
        refine m_icmp_ne (tgt := 61) C ⟨by omega, by omega⟩ ⟨by omega, by omega⟩ dX12_stands_54 (by decide) (fun c3 => ?_) (fun c3 => ?_)
        · refine m_iconst C dX12_stands_61 ?_
          refine m_istore (lv2 := [(4, .int (iI 0)), (5, .int (iI k)), (0, .ref h0), (1, .int (iI r)), (2, .int (iI q)), (3, .int (iI u))]) C dX12_stands_62 (by decide) rfl ?_
          refine m_iinc (z := k) (j := 1) (lv2 := [(5, .int (iI (k + 1))), (4, .int (iI 0)), (0, .ref h0), (1, .int (iI r)), (2, .int (iI q)), (3, .int (iI u))]) C dX12_stands_64 rfl (by decide) rfl ?_
          refine m_goto (tgt := 22) C dX12_stands_67 (by decide) ?_
          refine m_lv (lv2 := [(5, .int (iI (k + 1))), (4, .int (iI 0)), (0, .ref h0), (1, .int (iI r)), (2, .int (iI q)), (3, .int (iI u))]) [0, 1, 2, 3, 4, 5] rfl ?_
          exact ih (k + 1) 0 (by omega) (by omega) (by omega)
        · refine m_iconst C dX12_stands_57 ?_
          refine m_goto (tgt := 62) C dX12_stands_58 (by decide) ?_
          refine m_istore (lv2 := [(4, .int (iI 1)), (5, .int (iI k)), (0, .ref h0), (1, .int (iI r)), (2, .int (iI q)), (3, .int (iI u))]) C dX12_stands_62 (by decide) rfl ?_
          refine m_iinc (z := k) (j := 1) (lv2 := [(5, .int (iI (k + 1))), (4, .int (iI 1)), (0, .ref h0), (1, .int (iI r)), (2, .int (iI q)), (3, .int (iI u))]) C dX12_stands_64 rfl (by decide) rfl ?_
          refine m_goto (tgt := 22) C dX12_stands_67 (by decide) ?_
          refine m_lv (lv2 := [(5, .int (iI (k + 1))), (4, .int (iI 1)), (0, .ref h0), (1, .int (iI r)), (2, .int (iI q)), (3, .int (iI u))]) [0, 1, 2, 3, 4, 5] rfl ?_
          exact ih (k + 1) 1 (by omega) (by omega) (by omega)
set_option maxHeartbeats 4000000 in
set_option maxRecDepth 100000 in
theorem M_stands {l : Launch} {G : GT} {h0 : Nat} {ad ln : Nat → Nat} {v : Nat → Int} {a : Nat → Nat → Int} {r q u : Int} (hR : RG v a) (hx : RowOK a r) (hq : 0 ≤ q ∧ q ≤ u ∧ u ≤ 40200) : Mm l G yX12_stands cX12_stands 6 (some .boolean) 1 [.int (iI r), .int (iI q), .int (iI u)] h0 ad ln v a 0 0 (fun r2 v2 a2 => ∃ f : Int, r2 = some (.int (iI f)) ∧ (f = 0 ∨ (f = 1 ∧ q + a 46 r.toNat ≤ u)) ∧ v = v2 ∧ a = a2) := by
  refine Mm.mk (by decide) (Nat.le_of_ble_eq_true rfl) ?_
  intro p e s m args below meth c A C
  have uhx := hx
  unfold RowOK at uhx
  refine m_iload_n (j := 2) C dX12_stands_0 rfl ?_
  refine m_aload_n (j := 0) C dX12_stands_1 rfl ?_
  refine m_geta (k := 46) C dX12_stands_2 w6_105 (by decide) rfl ?_
  refine m_iload_n (j := 1) C dX12_stands_5 rfl ?_
  refine m_ald (k := 46) C dX12_stands_6 rfl rfl (by decide) (by omega) (by show _ < ((_ : Nat) : Int); simp only [mlen]; omega) (by decide) ?_
  have ra1 := hR.2 46 (r.toNat)
  refine m_iadd C dX12_stands_7 ?_
  refine m_iload_n (j := 3) C dX12_stands_8 rfl ?_
  refine m_icmp_gt (tgt := 16) C ⟨by omega, by omega⟩ ⟨by omega, by omega⟩ dX12_stands_9 (by decide) (fun c1 => ?_) (fun c1 => ?_)
  · refine m_iconst C dX12_stands_16 ?_
    refine m_istore (lv2 := [(4, .int (iI 0)), (0, .ref h0), (1, .int (iI r)), (2, .int (iI q)), (3, .int (iI u))]) C dX12_stands_17 (by decide) rfl ?_
    refine m_iconst C dX12_stands_19 ?_
    refine m_istore (lv2 := [(5, .int (iI 0)), (4, .int (iI 0)), (0, .ref h0), (1, .int (iI r)), (2, .int (iI q)), (3, .int (iI u))]) C dX12_stands_20 (by decide) rfl ?_
    refine m_lv (lv2 := [(5, .int (iI 0)), (4, .int (iI 0)), (0, .ref h0), (1, .int (iI r)), (2, .int (iI q)), (3, .int (iI u))]) [0, 1, 2, 3, 4, 5] rfl ?_
    exact Lp_stands hR hx hq C 6 0 0  (by omega) (by omega) (by omega)
  · refine m_iconst C dX12_stands_12 ?_
    refine m_goto (tgt := 17) C dX12_stands_13 (by decide) ?_
    refine m_istore (lv2 := [(4, .int (iI 1)), (0, .ref h0), (1, .int (iI r)), (2, .int (iI q)), (3, .int (iI u))]) C dX12_stands_17 (by decide) rfl ?_
    refine m_iconst C dX12_stands_19 ?_
    refine m_istore (lv2 := [(5, .int (iI 0)), (4, .int (iI 1)), (0, .ref h0), (1, .int (iI r)), (2, .int (iI q)), (3, .int (iI u))]) C dX12_stands_20 (by decide) rfl ?_
    refine m_lv (lv2 := [(5, .int (iI 0)), (4, .int (iI 1)), (0, .ref h0), (1, .int (iI r)), (2, .int (iI q)), (3, .int (iI u))]) [0, 1, 2, 3, 4, 5] rfl ?_
    exact Lp_stands hR hx hq C 6 0 1  (by omega) (by omega) (by omega)
set_option maxHeartbeats 4000000 in
set_option maxRecDepth 100000 in
theorem Lp_isShort {p : Program} {l : Launch} {e : Env} {s : State} {m : MethodId} {args : Array Value} {below : List Frame} {meth : Method} {c : Code} {G : GT} {A : Nat → Prop} {h0 : Nat} {ad ln : Nat → Nat} {v : Nat → Int} {a : Nat → Nat → Int} {t : Int} (hR : RG v a) (h4 : 0 ≤ v 4 ∧ v 4 ≤ 30) (hb : ∀ t : Int, 0 ≤ t → t < v 4 → a 8 t.toNat = -1 ∨ (0 ≤ a 8 t.toNat ∧ a 8 t.toNat < t)) (C : Cq p s m args meth c cX12_isShort yX12_isShort (some .boolean) G A 4) : ∀ (n : Nat) (k f : Int), k + 1 < (n : Int) → (-1 ≤ k ∧ k < v 4) → (f = 0 ∨ f = 1) → mw p l e (rmq 0 0 0) s m args below meth c G A 4 (MQ below (Qm G A (fun rq Lq Eq => ∃ (vq : Nat → Int) (aq : Nat → Nat → Int), mI G h0 ad ln vq aq Lq Eq ∧ (fun r v2 a2 => ∃ f : Int, r = some (.int (iI f)) ∧ (f = 0 ∨ f = 1) ∧ v = v2 ∧ a = a2) rq vq aq)) args s 0 0 A) h0 ad ln v a 0 0 4 [(3, .int (iI k)), (2, .int (iI f)), (0, .ref h0), (1, .int (iI t))] [] := by
  intro n
  induction n with
  | zero =>
    intro k f   hm hk hf
    exact absurd hm (by omega)
  | succ n ih =>
    intro k f   hm hk hf
    refine m_iload_n (j := 0) C dX12_isShort_4 rfl ?_
    refine m_if_lt (tgt := 38) C ⟨by omega, by omega⟩ dX12_isShort_5 (by decide) (fun c1 => ?_) (fun c1 => ?_)
    · refine m_iload_n (j := 1) C dX12_isShort_38 rfl ?_
      exact m_zret C dX12_isShort_39 rfl (by omega) (Nat.le_of_ble_eq_true rfl) (Nat.le_of_ble_eq_true rfl) ⟨f, rfl, hf, rfl, rfl⟩
    · refine m_iload_n (j := 1) C dX12_isShort_8 rfl ?_
      refine m_if_ne (tgt := 22) C ⟨by omega, by omega⟩ dX12_isShort_9 (by decide) (fun c2 => ?_) (fun c2 => ?_)
      · refine m_iconst C dX12_isShort_22 ?_
        refine m_goto (tgt := 27) C dX12_isShort_23 (by decide) ?_
        refine m_istore_n (lv2 := [(2, .int (iI 1)), (3, .int (iI k)), (0, .ref h0), (1, .int (iI t))]) C dX12_isShort_27 (by decide) rfl ?_
        refine m_aload_n (j := 2) C dX12_isShort_28 rfl ?_
        refine m_geta (k := 8) C dX12_isShort_29 w6_67 (by decide) rfl ?_
        refine m_iload_n (j := 1) C dX12_isShort_32 rfl ?_
        refine m_ald (k := 8) C dX12_isShort_33 rfl rfl (by decide) (by omega) (by show _ < ((_ : Nat) : Int); simp only [mlen]; omega) (by decide) ?_
        have ra1 := hR.2 8 (k.toNat)
        refine m_istore_n (lv2 := [(3, .int (iI (a 8 k.toNat))), (2, .int (iI 1)), (0, .ref h0), (1, .int (iI t))]) C dX12_isShort_34 (by decide) rfl ?_
        refine m_goto (tgt := 4) C dX12_isShort_35 (by decide) ?_
        refine m_lv (lv2 := [(3, .int (iI (a 8 k.toNat))), (2, .int (iI 1)), (0, .ref h0), (1, .int (iI t))]) [0, 1, 2, 3] rfl ?_
        exact ih (a 8 k.toNat) 1 (by have := hb k (by omega) (by omega); omega) (by have := hb k (by omega) (by omega); omega) (by omega)
      · refine m_aload_n (j := 2) C dX12_isShort_12 rfl ?_
        refine m_geta (k := 6) C dX12_isShort_13 w6_65 (by decide) rfl ?_
        refine m_iload_n (j := 0) C dX12_isShort_16 rfl ?_
        refine m_ald (k := 6) C dX12_isShort_17 rfl rfl (by decide) (by omega) (by show _ < ((_ : Nat) : Int); simp only [mlen]; omega) (by decide) ?_
        have ra2 := hR.2 6 (k.toNat)
        refine m_iconst C dX12_isShort_18 ?_
        refine m_icmp_ne (tgt := 26) C ⟨by omega, by omega⟩ ⟨by decide, by decide⟩ dX12_isShort_19 (by decide) (fun c3 => ?_) (fun c3 => ?_)
        · refine m_iconst C dX12_isShort_26 ?_
          refine m_istore_n (lv2 := [(2, .int (iI 0)), (3, .int (iI k)), (0, .ref h0), (1, .int (iI t))]) C dX12_isShort_27 (by decide) rfl ?_
          refine m_aload_n (j := 2) C dX12_isShort_28 rfl ?_
          refine m_geta (k := 8) C dX12_isShort_29 w6_67 (by decide) rfl ?_
          refine m_iload_n (j := 1) C dX12_isShort_32 rfl ?_
          refine m_ald (k := 8) C dX12_isShort_33 rfl rfl (by decide) (by omega) (by show _ < ((_ : Nat) : Int); simp only [mlen]; omega) (by decide) ?_
          have ra3 := hR.2 8 (k.toNat)
          refine m_istore_n (lv2 := [(3, .int (iI (a 8 k.toNat))), (2, .int (iI 0)), (0, .ref h0), (1, .int (iI t))]) C dX12_isShort_34 (by decide) rfl ?_
          refine m_goto (tgt := 4) C dX12_isShort_35 (by decide) ?_
          refine m_lv (lv2 := [(3, .int (iI (a 8 k.toNat))), (2, .int (iI 0)), (0, .ref h0), (1, .int (iI t))]) [0, 1, 2, 3] rfl ?_
          exact ih (a 8 k.toNat) 0 (by have := hb k (by omega) (by omega); omega) (by have := hb k (by omega) (by omega); omega) (by omega)
        · refine m_iconst C dX12_isShort_22 ?_
          refine m_goto (tgt := 27) C dX12_isShort_23 (by decide) ?_
          refine m_istore_n (lv2 := [(2, .int (iI 1)), (3, .int (iI k)), (0, .ref h0), (1, .int (iI t))]) C dX12_isShort_27 (by decide) rfl ?_
          refine m_aload_n (j := 2) C dX12_isShort_28 rfl ?_
          refine m_geta (k := 8) C dX12_isShort_29 w6_67 (by decide) rfl ?_
          refine m_iload_n (j := 1) C dX12_isShort_32 rfl ?_
          refine m_ald (k := 8) C dX12_isShort_33 rfl rfl (by decide) (by omega) (by show _ < ((_ : Nat) : Int); simp only [mlen]; omega) (by decide) ?_
          have ra4 := hR.2 8 (k.toNat)
          refine m_istore_n (lv2 := [(3, .int (iI (a 8 k.toNat))), (2, .int (iI 1)), (0, .ref h0), (1, .int (iI t))]) C dX12_isShort_34 (by decide) rfl ?_
          refine m_goto (tgt := 4) C dX12_isShort_35 (by decide) ?_
          refine m_lv (lv2 := [(3, .int (iI (a 8 k.toNat))), (2, .int (iI 1)), (0, .ref h0), (1, .int (iI t))]) [0, 1, 2, 3] rfl ?_
          exact ih (a 8 k.toNat) 1 (by have := hb k (by omega) (by omega); omega) (by have := hb k (by omega) (by omega); omega) (by omega)
set_option maxHeartbeats 4000000 in
set_option maxRecDepth 100000 in
theorem M_isShort {l : Launch} {G : GT} {h0 : Nat} {ad ln : Nat → Nat} {v : Nat → Int} {a : Nat → Nat → Int} {t : Int} (hR : RG v a) (h4 : 0 ≤ v 4 ∧ v 4 ≤ 30) (hb : ∀ t : Int, 0 ≤ t → t < v 4 → a 8 t.toNat = -1 ∨ (0 ≤ a 8 t.toNat ∧ a 8 t.toNat < t)) (ht : -1 ≤ t ∧ t < v 4) : Mm l G yX12_isShort cX12_isShort 4 (some .boolean) 0 [.int (iI t)] h0 ad ln v a 0 0 (fun r v2 a2 => ∃ f : Int, r = some (.int (iI f)) ∧ (f = 0 ∨ f = 1) ∧ v = v2 ∧ a = a2) := by
  refine Mm.mk (by decide) (Nat.le_of_ble_eq_true rfl) ?_
  intro p e s m args below meth c A C
  refine m_iconst C dX12_isShort_0 ?_
  refine m_istore_n (lv2 := [(2, .int (iI 0)), (0, .ref h0), (1, .int (iI t))]) C dX12_isShort_1 (by decide) rfl ?_
  refine m_iload_n (j := 2) C dX12_isShort_2 rfl ?_
  refine m_istore_n (lv2 := [(3, .int (iI t)), (2, .int (iI 0)), (0, .ref h0), (1, .int (iI t))]) C dX12_isShort_3 (by decide) rfl ?_
  refine m_lv (lv2 := [(3, .int (iI t)), (2, .int (iI 0)), (0, .ref h0), (1, .int (iI t))]) [0, 1, 2, 3] rfl ?_
  exact Lp_isShort hR h4 hb C 32 t 0  (by omega) ht (by omega)
set_option maxHeartbeats 4000000 in
set_option maxRecDepth 100000 in
theorem Lp_longest {p : Program} {l : Launch} {e : Env} {s : State} {m : MethodId} {args : Array Value} {below : List Frame} {meth : Method} {c : Code} {G : GT} {A : Nat → Prop} {h0 : Nat} {ad ln : Nat → Nat} {v : Nat → Int} {a : Nat → Nat → Int} {q x u : Int} (hR : RG v a) (hq : q = 0 ∨ q = 1) (h47 : 0 ≤ a 47 q.toNat ∧ a 47 q.toNat ≤ 6008) (hrow : ∀ r : Int, 6008 * q ≤ r → r < 6008 * q + a 47 q.toNat → RowOK a r) (hx : 0 ≤ x ∧ x ≤ u ∧ u ≤ 40200) (C : Cq p s m args meth c cX12_longest yX12_longest (some .int) G A 6) : ∀ (n : Nat) (k w1 : Int), 12017 - k < (n : Int) → (6008 * q ≤ k ∧ k ≤ 6008 * q + a 47 q.toNat) → (w1 = -1 ∨ (6008 * q ≤ w1 ∧ w1 < 6008 * q + a 47 q.toNat ∧ x + a 46 w1.toNat ≤ u)) → mw p l e (rmq 2 0 0) s m args below meth c G A 6 (MQ below (Qm G A (fun rq Lq Eq => ∃ (vq : Nat → Int) (aq : Nat → Nat → Int), mI G h0 ad ln vq aq Lq Eq ∧ (fun r2 v2 a2 => ∃ f : Int, r2 = some (.int (iI f)) ∧ (f = -1 ∨ (6008 * q ≤ f ∧ f < 6008 * q + a 47 q.toNat ∧ x + a 46 f.toNat ≤ u)) ∧ v = v2 ∧ a = a2) rq vq aq)) args s 0 0 A) h0 ad ln v a 0 0 10 [(5, .int (iI k)), (4, .int (iI w1)), (0, .ref h0), (1, .int (iI q)), (2, .int (iI x)), (3, .int (iI u))] [] := by
  intro n
  induction n with
  | zero =>
    intro k w1   hm hk hb
    exact absurd hm (by omega)
  | succ n ih =>
    intro k w1   hm hk hb
    refine m_iload (j := 0) C dX12_longest_10 rfl ?_
    refine m_sipush (z := 6008) C dX12_longest_12 (by decide) ?_
    refine m_iload_n (j := 3) C dX12_longest_15 rfl ?_
    refine m_imul C dX12_longest_16 ?_
    refine m_aload_n (j := 2) C dX12_longest_17 rfl ?_
    refine m_geta (k := 47) C dX12_longest_18 w6_106 (by decide) rfl ?_
    refine m_iload_n (j := 3) C dX12_longest_21 rfl ?_
    refine m_ald (k := 47) C dX12_longest_22 rfl rfl (by decide) (by omega) (by show _ < ((_ : Nat) : Int); simp only [mlen]; omega) (by decide) ?_
    have ra1 := hR.2 47 (q.toNat)
    refine m_iadd C dX12_longest_23 ?_
    refine m_icmp_ge (tgt := 70) C ⟨by omega, by omega⟩ ⟨by omega, by omega⟩ dX12_longest_24 (by decide) (fun c1 => ?_) (fun c1 => ?_)
    · refine m_iload (j := 1) C dX12_longest_70 rfl ?_
      exact m_iret C dX12_longest_72 rfl (Nat.le_of_ble_eq_true rfl) (Nat.le_of_ble_eq_true rfl) ⟨w1, rfl, hb, rfl, rfl⟩
    · refine m_iload (j := 1) C dX12_longest_27 rfl ?_
      refine m_if_lt (tgt := 49) C ⟨by omega, by omega⟩ dX12_longest_29 (by decide) (fun c2 => ?_) (fun c2 => ?_)
      · refine m_aload_n (j := 2) C dX12_longest_49 rfl ?_
        refine m_iload (j := 0) C dX12_longest_50 rfl ?_
        refine m_iload_n (j := 4) C dX12_longest_52 rfl ?_
        refine m_iload_n (j := 5) C dX12_longest_53 rfl ?_
        refine m_call (mc2 := 0) (ms2 := 0) (As := [.int (iI k), .int (iI x), .int (iI u)]) (rest := []) C (M_stands (r := k) (q := x) (u := u) hR (hrow k (by omega) (by omega)) hx) dX12_longest_54 kV_X12_327 rfl ck_13 rfl (Nat.le_of_ble_eq_true rfl) ⟨Nat.le_of_ble_eq_true rfl, Nat.le_of_ble_eq_true rfl⟩ ⟨Nat.le_of_ble_eq_true rfl, Nat.le_of_ble_eq_true rfl⟩ (fun rh1 vh1 ah1 h1 => ?_)
        obtain ⟨f1, rfl, hf1, rfl, rfl⟩ := h1
        refine m_st (st2 := [.int (iI f1)]) rfl ?_
        refine m_if_eq (tgt := 64) C ⟨by omega, by omega⟩ dX12_longest_57 (by decide) (fun c3 => ?_) (fun c3 => ?_)
        · refine m_iinc (z := k) (j := 0) (lv2 := [(5, .int (iI (k + 1))), (4, .int (iI w1)), (0, .ref h0), (1, .int (iI q)), (2, .int (iI x)), (3, .int (iI u))]) C dX12_longest_64 rfl (by decide) rfl ?_
          refine m_goto (tgt := 10) C dX12_longest_67 (by decide) ?_
          refine m_lv (lv2 := [(5, .int (iI (k + 1))), (4, .int (iI w1)), (0, .ref h0), (1, .int (iI q)), (2, .int (iI x)), (3, .int (iI u))]) [0, 1, 2, 3, 4, 5] rfl ?_
          exact ih (k + 1) w1 (by omega) (by omega) (by omega)
        · refine m_iload (j := 0) C dX12_longest_60 rfl ?_
          refine m_istore (lv2 := [(4, .int (iI k)), (5, .int (iI k)), (0, .ref h0), (1, .int (iI q)), (2, .int (iI x)), (3, .int (iI u))]) C dX12_longest_62 (by decide) rfl ?_
          refine m_iinc (z := k) (j := 1) (lv2 := [(5, .int (iI (k + 1))), (4, .int (iI k)), (0, .ref h0), (1, .int (iI q)), (2, .int (iI x)), (3, .int (iI u))]) C dX12_longest_64 rfl (by decide) rfl ?_
          refine m_goto (tgt := 10) C dX12_longest_67 (by decide) ?_
          refine m_lv (lv2 := [(5, .int (iI (k + 1))), (4, .int (iI k)), (0, .ref h0), (1, .int (iI q)), (2, .int (iI x)), (3, .int (iI u))]) [0, 1, 2, 3, 4, 5] rfl ?_
          exact ih (k + 1) k (by omega) (by omega) (by omega)
      · refine m_aload_n (j := 2) C dX12_longest_32 rfl ?_
        refine m_geta (k := 46) C dX12_longest_33 w6_105 (by decide) rfl ?_
        refine m_iload (j := 0) C dX12_longest_36 rfl ?_
        refine m_ald (k := 46) C dX12_longest_38 rfl rfl (by decide) (by omega) (by show _ < ((_ : Nat) : Int); simp only [mlen]; omega) (by decide) ?_
        have ra2 := hR.2 46 (k.toNat)
        refine m_aload_n (j := 2) C dX12_longest_39 rfl ?_
        refine m_geta (k := 46) C dX12_longest_40 w6_105 (by decide) rfl ?_
        refine m_iload (j := 1) C dX12_longest_43 rfl ?_
        refine m_ald (k := 46) C dX12_longest_45 rfl rfl (by decide) (by omega) (by show _ < ((_ : Nat) : Int); simp only [mlen]; omega) (by decide) ?_
        have ra3 := hR.2 46 (w1.toNat)
        refine m_icmp_le (tgt := 64) C ⟨by omega, by omega⟩ ⟨by omega, by omega⟩ dX12_longest_46 (by decide) (fun c4 => ?_) (fun c4 => ?_)
        · refine m_iinc (z := k) (j := 0) (lv2 := [(5, .int (iI (k + 1))), (4, .int (iI w1)), (0, .ref h0), (1, .int (iI q)), (2, .int (iI x)), (3, .int (iI u))]) C dX12_longest_64 rfl (by decide) rfl ?_
          refine m_goto (tgt := 10) C dX12_longest_67 (by decide) ?_
          refine m_lv (lv2 := [(5, .int (iI (k + 1))), (4, .int (iI w1)), (0, .ref h0), (1, .int (iI q)), (2, .int (iI x)), (3, .int (iI u))]) [0, 1, 2, 3, 4, 5] rfl ?_
          exact ih (k + 1) w1 (by omega) (by omega) (by omega)
        · refine m_aload_n (j := 2) C dX12_longest_49 rfl ?_
          refine m_iload (j := 0) C dX12_longest_50 rfl ?_
          refine m_iload_n (j := 4) C dX12_longest_52 rfl ?_
          refine m_iload_n (j := 5) C dX12_longest_53 rfl ?_
          refine m_call (mc2 := 0) (ms2 := 0) (As := [.int (iI k), .int (iI x), .int (iI u)]) (rest := []) C (M_stands (r := k) (q := x) (u := u) hR (hrow k (by omega) (by omega)) hx) dX12_longest_54 kV_X12_327 rfl ck_13 rfl (Nat.le_of_ble_eq_true rfl) ⟨Nat.le_of_ble_eq_true rfl, Nat.le_of_ble_eq_true rfl⟩ ⟨Nat.le_of_ble_eq_true rfl, Nat.le_of_ble_eq_true rfl⟩ (fun rh2 vh2 ah2 h2 => ?_)
          obtain ⟨f2, rfl, hf2, rfl, rfl⟩ := h2
          refine m_st (st2 := [.int (iI f2)]) rfl ?_
          refine m_if_eq (tgt := 64) C ⟨by omega, by omega⟩ dX12_longest_57 (by decide) (fun c5 => ?_) (fun c5 => ?_)
          · refine m_iinc (z := k) (j := 0) (lv2 := [(5, .int (iI (k + 1))), (4, .int (iI w1)), (0, .ref h0), (1, .int (iI q)), (2, .int (iI x)), (3, .int (iI u))]) C dX12_longest_64 rfl (by decide) rfl ?_
            refine m_goto (tgt := 10) C dX12_longest_67 (by decide) ?_
            refine m_lv (lv2 := [(5, .int (iI (k + 1))), (4, .int (iI w1)), (0, .ref h0), (1, .int (iI q)), (2, .int (iI x)), (3, .int (iI u))]) [0, 1, 2, 3, 4, 5] rfl ?_
            exact ih (k + 1) w1 (by omega) (by omega) (by omega)
          · refine m_iload (j := 0) C dX12_longest_60 rfl ?_
            refine m_istore (lv2 := [(4, .int (iI k)), (5, .int (iI k)), (0, .ref h0), (1, .int (iI q)), (2, .int (iI x)), (3, .int (iI u))]) C dX12_longest_62 (by decide) rfl ?_
            refine m_iinc (z := k) (j := 1) (lv2 := [(5, .int (iI (k + 1))), (4, .int (iI k)), (0, .ref h0), (1, .int (iI q)), (2, .int (iI x)), (3, .int (iI u))]) C dX12_longest_64 rfl (by decide) rfl ?_
            refine m_goto (tgt := 10) C dX12_longest_67 (by decide) ?_
            refine m_lv (lv2 := [(5, .int (iI (k + 1))), (4, .int (iI k)), (0, .ref h0), (1, .int (iI q)), (2, .int (iI x)), (3, .int (iI u))]) [0, 1, 2, 3, 4, 5] rfl ?_
            exact ih (k + 1) k (by omega) (by omega) (by omega)
set_option maxHeartbeats 4000000 in
set_option maxRecDepth 100000 in
theorem M_longest {l : Launch} {G : GT} {h0 : Nat} {ad ln : Nat → Nat} {v : Nat → Int} {a : Nat → Nat → Int} {q x u : Int} (hR : RG v a) (hq : q = 0 ∨ q = 1) (h47 : 0 ≤ a 47 q.toNat ∧ a 47 q.toNat ≤ 6008) (hrow : ∀ r : Int, 6008 * q ≤ r → r < 6008 * q + a 47 q.toNat → RowOK a r) (hx : 0 ≤ x ∧ x ≤ u ∧ u ≤ 40200) : Mm l G yX12_longest cX12_longest 6 (some .int) 2 [.int (iI q), .int (iI x), .int (iI u)] h0 ad ln v a 0 0 (fun r2 v2 a2 => ∃ f : Int, r2 = some (.int (iI f)) ∧ (f = -1 ∨ (6008 * q ≤ f ∧ f < 6008 * q + a 47 q.toNat ∧ x + a 46 f.toNat ≤ u)) ∧ v = v2 ∧ a = a2) := by
  refine Mm.mk (by decide) (Nat.le_of_ble_eq_true rfl) ?_
  intro p e s m args below meth c A C
  refine m_iconst C dX12_longest_0 ?_
  refine m_istore (lv2 := [(4, .int (iI (-1))), (0, .ref h0), (1, .int (iI q)), (2, .int (iI x)), (3, .int (iI u))]) C dX12_longest_1 (by decide) rfl ?_
  refine m_sipush (z := 6008) C dX12_longest_3 (by decide) ?_
  refine m_iload_n (j := 2) C dX12_longest_6 rfl ?_
  refine m_imul C dX12_longest_7 ?_
  refine m_istore (lv2 := [(5, .int (iI (6008 * q))), (4, .int (iI (-1))), (0, .ref h0), (1, .int (iI q)), (2, .int (iI x)), (3, .int (iI u))]) C dX12_longest_8 (by decide) rfl ?_
  refine m_lv (lv2 := [(5, .int (iI (6008 * q))), (4, .int (iI (-1))), (0, .ref h0), (1, .int (iI q)), (2, .int (iI x)), (3, .int (iI u))]) [0, 1, 2, 3, 4, 5] rfl ?_
  exact Lp_longest hR hq h47 hrow hx C 12018 (6008 * q) (-1)  (by omega) (by omega) (by omega)
set_option maxHeartbeats 4000000 in
set_option maxRecDepth 100000 in
theorem Lp_isRead2 {p : Program} {l : Launch} {e : Env} {s : State} {m : MethodId} {args : Array Value} {below : List Frame} {meth : Method} {c : Code} {G : GT} {A : Nat → Prop} {h0 : Nat} {ad ln : Nat → Nat} {v : Nat → Int} {a : Nat → Nat → Int} {q k : Int} (hR : RG v a) (hq : q = 0 ∨ q = 1) (h47 : 0 ≤ a 47 q.toNat ∧ a 47 q.toNat ≤ 6008) (hrow : ∀ r : Int, 6008 * q ≤ r → r < 6008 * q + a 47 q.toNat → RowOK a r) (hk : 6008 * q ≤ k ∧ k < 6008 * q + a 47 q.toNat) (hout : mw p l e (rmq 2 0 0) s m args below meth c G A 6 (MQ below (Qm G A (fun rq Lq Eq => ∃ (vq : Nat → Int) (aq : Nat → Nat → Int), mI G h0 ad ln vq aq Lq Eq ∧ (fun r v2 a2 => ∃ f : Int, r = some (.int (iI f)) ∧ (f = 0 ∨ f = 1) ∧ v = v2 ∧ a = a2) rq vq aq)) args s 0 0 A) h0 ad ln v a 0 0 91 [(3, .int (iI k)), (2, .int (iI (6008 * q))), (0, .ref h0), (1, .int (iI q))] []) (C : Cq p s m args meth c cX12_isReadable yX12_isReadable (some .boolean) G A 6) : ∀ (n : Nat) (j : Int), 12017 - j < (n : Int) → (6008 * q ≤ j ∧ j ≤ k) → mw p l e (rmq 2 0 0) s m args below meth c G A 6 (MQ below (Qm G A (fun rq Lq Eq => ∃ (vq : Nat → Int) (aq : Nat → Nat → Int), mI G h0 ad ln vq aq Lq Eq ∧ (fun r v2 a2 => ∃ f : Int, r = some (.int (iI f)) ∧ (f = 0 ∨ f = 1) ∧ v = v2 ∧ a = a2) rq vq aq)) args s 0 0 A) h0 ad ln v a 0 0 45 [(4, .int (iI j)), (3, .int (iI k)), (2, .int (iI (6008 * q))), (0, .ref h0), (1, .int (iI q))] [] := by
  intro n
  induction n with
  | zero =>
    intro j   hm hj
    exact absurd hm (by omega)
  | succ n ih =>
    intro j   hm hj
    refine m_iload (j := 0) C dX12_isReadable_45 rfl ?_
    refine m_iload_n (j := 1) C dX12_isReadable_47 rfl ?_
    refine m_icmp_ge (tgt := 91) C ⟨by omega, by omega⟩ ⟨by omega, by omega⟩ dX12_isReadable_48 (by decide) (fun c1 => ?_) (fun c1 => ?_)
    · refine m_lv (lv2 := [(3, .int (iI k)), (2, .int (iI (6008 * q))), (0, .ref h0), (1, .int (iI q))]) [1, 2, 3, 4] rfl ?_
      exact hout
    · refine m_aload_n (j := 3) C dX12_isReadable_51 rfl ?_
      refine m_iload_n (j := 1) C dX12_isReadable_52 rfl ?_
      refine m_iload (j := 0) C dX12_isReadable_53 rfl ?_
      refine m_call (mc2 := 0) (ms2 := 0) (As := [.int (iI k), .int (iI j)]) (rest := []) C (M_alike (x := k) (y := j) hR (hrow k (by omega) (by omega)) (hrow j (by omega) (by omega))) dX12_isReadable_55 kV_X12_404 rfl ck_13 rfl (Nat.le_of_ble_eq_true rfl) ⟨Nat.le_of_ble_eq_true rfl, Nat.le_of_ble_eq_true rfl⟩ ⟨Nat.le_of_ble_eq_true rfl, Nat.le_of_ble_eq_true rfl⟩ (fun rh1 vh1 ah1 h1 => ?_)
      obtain ⟨f1, rfl, hf1, rfl, rfl⟩ := h1
      have gf1 := hrow k (by omega) (by omega)
      have kf1 := hrow j (by omega) (by omega)
      unfold RowOK at gf1 kf1
      refine m_st (st2 := [.int (iI f1)]) rfl ?_
      refine m_istore (lv2 := [(5, .int (iI f1)), (4, .int (iI j)), (3, .int (iI k)), (2, .int (iI (6008 * q))), (0, .ref h0), (1, .int (iI q))]) C dX12_isReadable_58 (by decide) rfl ?_
      refine m_iload (j := 0) C dX12_isReadable_60 rfl ?_
      refine m_aload_n (j := 4) C dX12_isReadable_62 rfl ?_
      refine m_geta (k := 46) C dX12_isReadable_63 w6_105 (by decide) rfl ?_
      refine m_iload_n (j := 2) C dX12_isReadable_66 rfl ?_
      refine m_ald (k := 46) C dX12_isReadable_67 rfl rfl (by decide) (by omega) (by show _ < ((_ : Nat) : Int); simp only [mlen]; omega) (by decide) ?_
      have ra1 := hR.2 46 (k.toNat)
      refine m_icmp_eq (tgt := 83) C ⟨by omega, by omega⟩ ⟨by omega, by omega⟩ dX12_isReadable_68 (by decide) (fun c2 => ?_) (fun c2 => ?_)
      · refine m_iconst C dX12_isReadable_83 ?_
        exact m_zret C dX12_isReadable_84 rfl (Or.inl rfl) (Nat.le_of_ble_eq_true rfl) (Nat.le_of_ble_eq_true rfl) ⟨0, rfl, (by omega), rfl, rfl⟩
      · refine m_iload (j := 0) C dX12_isReadable_71 rfl ?_
        refine m_aload_n (j := 4) C dX12_isReadable_73 rfl ?_
        refine m_geta (k := 46) C dX12_isReadable_74 w6_105 (by decide) rfl ?_
        refine m_iload (j := 1) C dX12_isReadable_77 rfl ?_
        refine m_ald (k := 46) C dX12_isReadable_79 rfl rfl (by decide) (by omega) (by show _ < ((_ : Nat) : Int); simp only [mlen]; omega) (by decide) ?_
        have ra2 := hR.2 46 (j.toNat)
        refine m_icmp_ne (tgt := 85) C ⟨by omega, by omega⟩ ⟨by omega, by omega⟩ dX12_isReadable_80 (by decide) (fun c3 => ?_) (fun c3 => ?_)
        · refine m_iinc (z := j) (j := 1) (lv2 := [(4, .int (iI (j + 1))), (5, .int (iI f1)), (3, .int (iI k)), (2, .int (iI (6008 * q))), (0, .ref h0), (1, .int (iI q))]) C dX12_isReadable_85 rfl (by decide) rfl ?_
          refine m_goto (tgt := 45) C dX12_isReadable_88 (by decide) ?_
          refine m_lv (lv2 := [(4, .int (iI (j + 1))), (3, .int (iI k)), (2, .int (iI (6008 * q))), (0, .ref h0), (1, .int (iI q))]) [0, 2, 3, 4, 5] rfl ?_
          exact ih (j + 1) (by omega) (by omega)
        · refine m_iconst C dX12_isReadable_83 ?_
          exact m_zret C dX12_isReadable_84 rfl (Or.inl rfl) (Nat.le_of_ble_eq_true rfl) (Nat.le_of_ble_eq_true rfl) ⟨0, rfl, (by omega), rfl, rfl⟩
set_option maxHeartbeats 4000000 in
set_option maxRecDepth 100000 in
theorem Lp_isRead1 {p : Program} {l : Launch} {e : Env} {s : State} {m : MethodId} {args : Array Value} {below : List Frame} {meth : Method} {c : Code} {G : GT} {A : Nat → Prop} {h0 : Nat} {ad ln : Nat → Nat} {v : Nat → Int} {a : Nat → Nat → Int} {q : Int} (hR : RG v a) (hq : q = 0 ∨ q = 1) (h47 : 0 ≤ a 47 q.toNat ∧ a 47 q.toNat ≤ 6008) (hrow : ∀ r : Int, 6008 * q ≤ r → r < 6008 * q + a 47 q.toNat → RowOK a r) (C : Cq p s m args meth c cX12_isReadable yX12_isReadable (some .boolean) G A 6) : ∀ (n : Nat) (k : Int), 12017 - k < (n : Int) → (6008 * q ≤ k ∧ k ≤ 6008 * q + a 47 q.toNat) → mw p l e (rmq 2 0 0) s m args below meth c G A 6 (MQ below (Qm G A (fun rq Lq Eq => ∃ (vq : Nat → Int) (aq : Nat → Nat → Int), mI G h0 ad ln vq aq Lq Eq ∧ (fun r v2 a2 => ∃ f : Int, r = some (.int (iI f)) ∧ (f = 0 ∨ f = 1) ∧ v = v2 ∧ a = a2) rq vq aq)) args s 0 0 A) h0 ad ln v a 0 0 8 [(3, .int (iI k)), (2, .int (iI (6008 * q))), (0, .ref h0), (1, .int (iI q))] [] := by
  intro n
  induction n with
  | zero =>
    intro k   hm hk
    exact absurd hm (by omega)
  | succ n ih =>
    intro k   hm hk
    refine m_iload_n (j := 0) C dX12_isReadable_8 rfl ?_
    refine m_iload_n (j := 1) C dX12_isReadable_9 rfl ?_
    refine m_aload_n (j := 2) C dX12_isReadable_10 rfl ?_
    refine m_geta (k := 47) C dX12_isReadable_11 w6_106 (by decide) rfl ?_
    refine m_iload_n (j := 3) C dX12_isReadable_14 rfl ?_
    refine m_ald (k := 47) C dX12_isReadable_15 rfl rfl (by decide) (by omega) (by show _ < ((_ : Nat) : Int); simp only [mlen]; omega) (by decide) ?_
    have ra1 := hR.2 47 (q.toNat)
    refine m_iadd C dX12_isReadable_16 ?_
    refine m_icmp_ge (tgt := 97) C ⟨by omega, by omega⟩ ⟨by omega, by omega⟩ dX12_isReadable_17 (by decide) (fun c1 => ?_) (fun c1 => ?_)
    · refine m_iconst C dX12_isReadable_97 ?_
      exact m_zret C dX12_isReadable_98 rfl (Or.inr rfl) (Nat.le_of_ble_eq_true rfl) (Nat.le_of_ble_eq_true rfl) ⟨1, rfl, (by omega), rfl, rfl⟩
    · refine m_aload_n (j := 2) C dX12_isReadable_20 rfl ?_
      refine m_iload_n (j := 0) C dX12_isReadable_21 rfl ?_
      refine m_aload_n (j := 2) C dX12_isReadable_22 rfl ?_
      refine m_geta (k := 46) C dX12_isReadable_23 w6_105 (by decide) rfl ?_
      refine m_iload_n (j := 0) C dX12_isReadable_26 rfl ?_
      refine m_ald (k := 46) C dX12_isReadable_27 rfl rfl (by decide) (by omega) (by show _ < ((_ : Nat) : Int); simp only [mlen]; omega) (by decide) ?_
      have ra2 := hR.2 46 (k.toNat)
      refine m_iconst C dX12_isReadable_28 ?_
      refine m_isub C dX12_isReadable_29 ?_
      have gr := hrow k (by omega) (by omega)
      unfold RowOK at gr
      refine m_call (mc2 := 0) (ms2 := 0) (As := [.int (iI k), .int (iI ((a 46 k.toNat) - 1))]) (rest := []) C (M_rowCell (r := k) (k := (a 46 k.toNat) - 1) hR (by omega) (by omega)) dX12_isReadable_30 kV_X12_324 rfl ck_13 rfl (Nat.le_of_ble_eq_true rfl) ⟨Nat.le_of_ble_eq_true rfl, Nat.le_of_ble_eq_true rfl⟩ ⟨Nat.le_of_ble_eq_true rfl, Nat.le_of_ble_eq_true rfl⟩ (fun rh1 vh1 ah1 h1 => ?_)
      obtain ⟨f1, rfl, hf1, rfl, rfl⟩ := h1
      refine m_st (st2 := [.int (iI f1)]) rfl ?_
      refine m_aload_n (j := 2) C dX12_isReadable_33 rfl ?_
      have rv33 := hR.1 33
      refine m_get (k := 33) C dX12_isReadable_34 w6_92 (by decide) rfl ?_
      refine m_icmp_ne (tgt := 42) C ⟨by omega, by omega⟩ ⟨by omega, by omega⟩ dX12_isReadable_37 (by decide) (fun c2 => ?_) (fun c2 => ?_)
      · refine m_iload_n (j := 1) C dX12_isReadable_42 rfl ?_
        refine m_istore (lv2 := [(4, .int (iI (6008 * q))), (3, .int (iI k)), (2, .int (iI (6008 * q))), (0, .ref h0), (1, .int (iI q))]) C dX12_isReadable_43 (by decide) rfl ?_
        refine m_lv (lv2 := [(4, .int (iI (6008 * q))), (3, .int (iI k)), (2, .int (iI (6008 * q))), (0, .ref h0), (1, .int (iI q))]) [0, 1, 2, 3, 4] rfl ?_
        refine Lp_isRead2 hR hq h47 hrow (by omega) ?_ C 12018 (6008 * q) (by omega) (by omega)
        refine m_iinc (z := k) (j := 0) (lv2 := [(3, .int (iI (k + 1))), (2, .int (iI (6008 * q))), (0, .ref h0), (1, .int (iI q))]) C dX12_isReadable_91 rfl (by decide) rfl ?_
        refine m_goto (tgt := 8) C dX12_isReadable_94 (by decide) ?_
        exact ih (k + 1) (by omega) (by omega)
      · refine m_iconst C dX12_isReadable_40 ?_
        exact m_zret C dX12_isReadable_41 rfl (Or.inl rfl) (Nat.le_of_ble_eq_true rfl) (Nat.le_of_ble_eq_true rfl) ⟨0, rfl, (by omega), rfl, rfl⟩
set_option maxHeartbeats 4000000 in
set_option maxRecDepth 100000 in
theorem M_isReadable {l : Launch} {G : GT} {h0 : Nat} {ad ln : Nat → Nat} {v : Nat → Int} {a : Nat → Nat → Int} {q : Int} (hR : RG v a) (hq : q = 0 ∨ q = 1) (h47 : 0 ≤ a 47 q.toNat ∧ a 47 q.toNat ≤ 6008) (hrow : ∀ r : Int, 6008 * q ≤ r → r < 6008 * q + a 47 q.toNat → RowOK a r) : Mm l G yX12_isReadable cX12_isReadable 6 (some .boolean) 2 [.int (iI q)] h0 ad ln v a 0 0 (fun r v2 a2 => ∃ f : Int, r = some (.int (iI f)) ∧ (f = 0 ∨ f = 1) ∧ v = v2 ∧ a = a2) := by
  refine Mm.mk (by decide) (Nat.le_of_ble_eq_true rfl) ?_
  intro p e s m args below meth c A C
  refine m_sipush (z := 6008) C dX12_isReadable_0 (by decide) ?_
  refine m_iload_n (j := 1) C dX12_isReadable_3 rfl ?_
  refine m_imul C dX12_isReadable_4 ?_
  refine m_istore_n (lv2 := [(2, .int (iI (6008 * q))), (0, .ref h0), (1, .int (iI q))]) C dX12_isReadable_5 (by decide) rfl ?_
  refine m_iload_n (j := 0) C dX12_isReadable_6 rfl ?_
  refine m_istore_n (lv2 := [(3, .int (iI (6008 * q))), (2, .int (iI (6008 * q))), (0, .ref h0), (1, .int (iI q))]) C dX12_isReadable_7 (by decide) rfl ?_
  refine m_lv (lv2 := [(3, .int (iI (6008 * q))), (2, .int (iI (6008 * q))), (0, .ref h0), (1, .int (iI q))]) [0, 1, 2, 3] rfl ?_
  exact Lp_isRead1 hR hq h47 hrow C 12018 (6008 * q)  (by omega) (by omega)
