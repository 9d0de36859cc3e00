section
def RowOK (a : Nat → Nat → Int) (r : Int) : Prop := (0 ≤ r ∧ r < 12016) ∧ (-4 ≤ a 44 r.toNat ∧ a 44 r.toNat < 6000) ∧ (1 ≤ a 46 r.toNat ∧ a 46 r.toNat ≤ 4) ∧ 0 ≤ a 45 r.toNat ∧ (0 ≤ a 44 r.toNat → a 45 r.toNat + a 46 r.toNat ≤ 24000) ∧ (a 44 r.toNat < 0 → a 45 r.toNat + a 46 r.toNat ≤ 480)
set_option maxHeartbeats 4000000 in
set_option maxRecDepth 100000 in
theorem Lp_alike {p : Program} {l : Launch} {e : Env} {s : State} {m : MethodId} {args : Array Value} {below : List Frame} {meth : Method} {c : Code} {G : GT} {A : Nat → Prop} {h0 : Nat} {ad ln : Nat → Nat} {v : Nat → Int} {a : Nat → Nat → Int} {x y : Int} (hR : RG v a) (hx : RowOK a x) (hy : RowOK a y) (C : Cq p s m args meth c cX12_alike yX12_alike (some .int) G A 4) : ∀ (n : Nat) (k : Int), 5 - k < (n : Int) → (0 ≤ k ∧ k ≤ a 46 x.toNat ∧ k ≤ a 46 y.toNat) → mw p l e (rmq 1 0 0) s m args below meth c G A 4 (MQ below (Qm G A (fun rq Lq Eq => ∃ (vq : Nat → Int) (aq : Nat → Nat → Int), mI G h0 ad ln vq aq Lq Eq ∧ (fun r v2 a2 => ∃ f : Int, r = some (.int (iI f)) ∧ (0 ≤ f ∧ f ≤ a 46 x.toNat ∧ f ≤ a 46 y.toNat) ∧ v = v2 ∧ a = a2) rq vq aq)) args s 0 0 A) h0 ad ln v a 0 0 2 [(3, .int (iI k)), (0, .ref h0), (1, .int (iI x)), (2, .int (iI y))] [] := by
  intro n
  induction n with
  | zero =>
    intro k   hm hk
    have uhx := hx
    unfold RowOK at uhx
    have uhy := hy
    unfold RowOK at uhy
    exact absurd hm (by omega)
  | succ n ih =>
    intro k   hm hk
    have uhx := hx
    unfold RowOK at uhx
    have uhy := hy
    unfold RowOK at uhy
    refine m_iload_n (j := 0) C dX12_alike_2 rfl ?_
    refine m_aload_n (j := 1) C dX12_alike_3 rfl ?_
    refine m_geta (k := 46) C dX12_alike_4 w6_105 (by decide) rfl ?_
    refine m_iload_n (j := 2) C dX12_alike_7 rfl ?_
    refine m_ald (k := 46) C dX12_alike_8 rfl rfl (by decide) (by omega) (by show _ < ((_ : Nat) : Int); simp only [mlen]; omega) (by decide) ?_
    have ra1 := hR.2 46 (x.toNat)
    refine m_icmp_ge (tgt := 43) C ⟨by omega, by omega⟩ ⟨by omega, by omega⟩ dX12_alike_9 (by decide) (fun c1 => ?_) (fun c1 => ?_)
    · refine m_iload_n (j := 0) C dX12_alike_43 rfl ?_
      exact m_iret C dX12_alike_44 rfl (Nat.le_of_ble_eq_true rfl) (Nat.le_of_ble_eq_true rfl) ⟨k, rfl, (by omega), rfl, rfl⟩
    · refine m_iload_n (j := 0) C dX12_alike_12 rfl ?_
      refine m_aload_n (j := 1) C dX12_alike_13 rfl ?_
      refine m_geta (k := 46) C dX12_alike_14 w6_105 (by decide) rfl ?_
      refine m_iload_n (j := 3) C dX12_alike_17 rfl ?_
      refine m_ald (k := 46) C dX12_alike_18 rfl rfl (by decide) (by omega) (by show _ < ((_ : Nat) : Int); simp only [mlen]; omega) (by decide) ?_
      have ra2 := hR.2 46 (y.toNat)
      refine m_icmp_ge (tgt := 43) C ⟨by omega, by omega⟩ ⟨by omega, by omega⟩ dX12_alike_19 (by decide) (fun c2 => ?_) (fun c2 => ?_)
      · refine m_iload_n (j := 0) C dX12_alike_43 rfl ?_
        exact m_iret C dX12_alike_44 rfl (Nat.le_of_ble_eq_true rfl) (Nat.le_of_ble_eq_true rfl) ⟨k, rfl, (by omega), rfl, rfl⟩
      · refine m_aload_n (j := 1) C dX12_alike_22 rfl ?_
        refine m_iload_n (j := 2) C dX12_alike_23 rfl ?_
        refine m_iload_n (j := 0) C dX12_alike_24 rfl ?_
        refine m_call (mc2 := 0) (ms2 := 0) (As := [.int (iI x), .int (iI k)]) (rest := []) C (M_rowCell (r := x) (k := k) hR (by omega) (by omega)) dX12_alike_25 kV_X12_324 rfl ck_13 rfl (Nat.le_of_ble_eq_true rfl) ⟨Nat.le_of_ble_eq_true rfl, Nat.le_of_ble_eq_true rfl⟩ ⟨Nat.le_of_ble_eq_true rfl, Nat.le_of_ble_eq_true rfl⟩ (fun rh1 vh1 ah1 h1 => ?_)
        obtain ⟨f1, rfl, hf1, rfl, rfl⟩ := h1
        refine m_st (st2 := [.int (iI f1)]) rfl ?_
        refine m_aload_n (j := 1) C dX12_alike_28 rfl ?_
        refine m_iload_n (j := 3) C dX12_alike_29 rfl ?_
        refine m_iload_n (j := 0) C dX12_alike_30 rfl ?_
        refine m_call (mc2 := 0) (ms2 := 0) (As := [.int (iI y), .int (iI k)]) (rest := [.int (iI f1)]) C (M_rowCell (r := y) (k := k) hR (by omega) (by omega)) dX12_alike_31 kV_X12_324 rfl ck_13 rfl (Nat.le_of_ble_eq_true rfl) ⟨Nat.le_of_ble_eq_true rfl, Nat.le_of_ble_eq_true rfl⟩ ⟨Nat.le_of_ble_eq_true rfl, Nat.le_of_ble_eq_true rfl⟩ (fun rh2 vh2 ah2 h2 => ?_)
        obtain ⟨f2, rfl, hf2, rfl, rfl⟩ := h2
        refine m_st (st2 := [.int (iI f2), .int (iI f1)]) rfl ?_
        refine m_icmp_ne (tgt := 43) C ⟨by omega, by omega⟩ ⟨by omega, by omega⟩ dX12_alike_34 (by decide) (fun c3 => ?_) (fun c3 => ?_)
        · refine m_iload_n (j := 0) C dX12_alike_43 rfl ?_
          exact m_iret C dX12_alike_44 rfl (Nat.le_of_ble_eq_true rfl) (Nat.le_of_ble_eq_true rfl) ⟨k, rfl, (by omega), rfl, rfl⟩
        · refine m_iinc (z := k) (j := 0) (lv2 := [(3, .int (iI (k + 1))), (0, .ref h0), (1, .int (iI x)), (2, .int (iI y))]) C dX12_alike_37 rfl (by decide) rfl ?_
          refine m_goto (tgt := 2) C dX12_alike_40 (by decide) ?_
          refine m_lv (lv2 := [(3, .int (iI (k + 1))), (0, .ref h0), (1, .int (iI x)), (2, .int (iI y))]) [0, 1, 2, 3] rfl ?_
          exact ih (k + 1) (by omega) (by omega)
set_option maxHeartbeats 4000000 in
set_option maxRecDepth 100000 in
theorem M_alike {l : Launch} {G : GT} {h0 : Nat} {ad ln : Nat → Nat} {v : Nat → Int} {a : Nat → Nat → Int} {x y : Int} (hR : RG v a) (hx : RowOK a x) (hy : RowOK a y) : Mm l G yX12_alike cX12_alike 4 (some .int) 1 [.int (iI x), .int (iI y)] h0 ad ln v a 0 0 (fun r v2 a2 => ∃ f : Int, r = some (.int (iI f)) ∧ (0 ≤ f ∧ f ≤ a 46 x.toNat ∧ f ≤ a 46 y.toNat) ∧ v = v2 ∧ a = a2) := by
  refine Mm.mk (by decide) (Nat.le_of_ble_eq_true rfl) ?_
  intro p e s m args below meth c A C
  have uhx := hx
  unfold RowOK at uhx
  have uhy := hy
  unfold RowOK at uhy
  refine m_iconst C dX12_alike_0 ?_
  refine m_istore_n (lv2 := [(3, .int (iI 0)), (0, .ref h0), (1, .int (iI x)), (2, .int (iI y))]) C dX12_alike_1 (by decide) rfl ?_
  refine m_lv (lv2 := [(3, .int (iI 0)), (0, .ref h0), (1, .int (iI x)), (2, .int (iI y))]) [0, 1, 2, 3] rfl ?_
  exact Lp_alike hR hx hy C 6 0  (by omega) (by omega)
set_option maxHeartbeats 4000000 in
set_option maxRecDepth 100000 in
theorem Lp_stands {p : Program} {l : Launch} {e : Env} {s : State} {m : MethodId} {args : Array Value} {below : List Frame} {meth : Method} {c : Code} {G : GT} {A : Nat → Prop} {h0 : Nat} {ad ln : Nat → Nat} {v : Nat → Int} {a : Nat → Nat → Int} {r q u : Int} (hR : RG v a) (hx : RowOK a r) (hq : 0 ≤ q ∧ q ≤ u ∧ u ≤ 40200) (C : Cq p s m args meth c cX12_stands yX12_stands (some .boolean) G A 6) : ∀ (n : Nat) (k f : Int), 5 - k < (n : Int) → (0 ≤ k ∧ k ≤ a 46 r.toNat) → (f = 0 ∨ (f = 1 ∧ q + a 46 r.toNat ≤ u)) → mw p l e (rmq 1 0 0) s m args below meth c G A 6 (MQ below (Qm G A (fun rq Lq Eq => ∃ (vq : Nat → Int) (aq : Nat → Nat → Int), mI G h0 ad ln vq aq Lq Eq ∧ (fun r2 v2 a2 => ∃ f : Int, r2 = some (.int (iI f)) ∧ (f = 0 ∨ (f = 1 ∧ q + a 46 r.toNat ≤ u)) ∧ v = v2 ∧ a = a2) rq vq aq)) args s 0 0 A) h0 ad ln v a 0 0 22 [(5, .int (iI k)), (4, .int (iI f)), (0, .ref h0), (1, .int (iI r)), (2, .int (iI q)), (3, .int (iI u))] [] := by
  intro n
  induction n with
  | zero =>
    intro k f   hm hk hf
    have uhx := hx
    unfold RowOK at uhx
    exact absurd hm (by omega)
  | succ n ih =>
    intro k f   hm hk hf
    have uhx := hx
    unfold RowOK at uhx
    refine m_iload (j := 0) C dX12_stands_22 rfl ?_
    refine m_aload_n (j := 2) C dX12_stands_24 rfl ?_
    refine m_geta (k := 46) C dX12_stands_25 w6_105 (by decide) rfl ?_
    refine m_iload_n (j := 3) C dX12_stands_28 rfl ?_
    refine m_ald (k := 46) C dX12_stands_29 rfl rfl (by decide) (by omega) (by show _ < ((_ : Nat) : Int); simp only [mlen]; omega) (by decide) ?_
    have ra1 := hR.2 46 (r.toNat)
    refine m_icmp_ge (tgt := 70) C ⟨by omega, by omega⟩ ⟨by omega, by omega⟩ dX12_stands_30 (by decide) (fun c1 => ?_) (fun c1 => ?_)
    · refine m_iload (j := 1) C dX12_stands_70 rfl ?_
      exact m_zret C dX12_stands_72 rfl (by omega) (Nat.le_of_ble_eq_true rfl) (Nat.le_of_ble_eq_true rfl) ⟨f, rfl, (by omega), rfl, rfl⟩
    · refine m_iload (j := 1) C dX12_stands_33 rfl ?_
      refine m_if_eq (tgt := 70) C ⟨by omega, by omega⟩ dX12_stands_35 (by decide) (fun c2 => ?_) (fun c2 => ?_)
      · refine m_iload (j := 1) C dX12_stands_70 rfl ?_
        exact m_zret C dX12_stands_72 rfl (by omega) (Nat.le_of_ble_eq_true rfl) (Nat.le_of_ble_eq_true rfl) ⟨f, rfl, (by omega), rfl, rfl⟩
      · refine m_aload_n (j := 2) C dX12_stands_38 rfl ?_
        refine m_iload_n (j := 3) C dX12_stands_39 rfl ?_
        refine m_iload (j := 0) C dX12_stands_40 rfl ?_
        refine m_call (mc2 := 0) (ms2 := 0) (As := [.int (iI r), .int (iI k)]) (rest := []) C (M_rowCell (r := r) (k := k) hR (by omega) (by omega)) dX12_stands_42 kV_X12_324 rfl ck_13 rfl (Nat.le_of_ble_eq_true rfl) ⟨Nat.le_of_ble_eq_true rfl, Nat.le_of_ble_eq_true rfl⟩ ⟨Nat.le_of_ble_eq_true rfl, Nat.le_of_ble_eq_true rfl⟩ (fun rh1 vh1 ah1 h1 => ?_)
        obtain ⟨f1, rfl, hf1, rfl, rfl⟩ := h1
        refine m_st (st2 := [.int (iI f1)]) rfl ?_
        refine m_aload_n (j := 2) C dX12_stands_45 rfl ?_
        refine m_geta (k := 48) C dX12_stands_46 w6_107 (by decide) rfl ?_
        refine m_iload_n (j := 4) C dX12_stands_49 rfl ?_
        refine m_iload (j := 0) C dX12_stands_50 rfl ?_
        refine m_iadd C dX12_stands_52 ?_
        refine m_ald (k := 48) C dX12_stands_53 rfl rfl (by decide) (by omega) (by show _ < ((_ : Nat) : Int); simp only [mlen]; omega) (by decide) ?_
        have ra2 := hR.2 48 ((q + k).toNat)
        refine m_icmp_ne (tgt := 61) C ⟨by omega, by omega⟩ ⟨by omega, by omega⟩ dX12_stands_54 (by decide) (fun c3 => ?_) (fun c3 => ?_)
        · refine m_iconst C dX12_stands_61 ?_
          refine m_istore (lv2 := [(4, .int (iI 0)), (5, .int (iI k)), (0, .ref h0), (1, .int (iI r)), (2, .int (iI q)), (3, .int (iI u))]) C dX12_stands_62 (by decide) rfl ?_
          refine m_iinc (z := k) (j := 1) (lv2 := [(5, .int (iI (k + 1))), (4, .int (iI 0)), (0, .ref h0), (1, .int (iI r)), (2, .int (iI q)), (3, .int (iI u))]) C dX12_stands_64 rfl (by decide) rfl ?_
          refine m_goto (tgt := 22) C dX12_stands_67 (by decide) ?_
          refine m_lv (lv2 := [(5, .int (iI (k + 1))), (4, .int (iI 0)), (0, .ref h0), (1, .int (iI r)), (2, .int (iI q)), (3, .int (iI u))]) [0, 1, 2, 3, 4, 5] rfl ?_
          exact ih (k + 1) 0 (by omega) (by omega) (by omega)
        · refine m_iconst C dX12_stands_57 ?_
          refine m_goto (tgt := 62) C dX12_stands_58 (by decide) ?_
          refine m_istore (lv2 := [(4, .int (iI 1)), (5, .int (iI k)), (0, .ref h0), (1, .int (iI r)), (2, .int (iI q)), (3, .int (iI u))]) C dX12_stands_62 (by decide) rfl ?_
          refine m_iinc (z := k) (j := 1) (lv2 := [(5, .int (iI (k + 1))), (4, .int (iI 1)), (0, .ref h0), (1, .int (iI r)), (2, .int (iI q)), (3, .int (iI u))]) C dX12_stands_64 rfl (by decide) rfl ?_
          refine m_goto (tgt := 22) C dX12_stands_67 (by decide) ?_
          refine m_lv (lv2 := [(5, .int (iI (k + 1))), (4, .int (iI 1)), (0, .ref h0), (1, .int (iI r)), (2, .int (iI q)), (3, .int (iI u))]) [0, 1, 2, 3, 4, 5] rfl ?_
          exact ih (k + 1) 1 (by omega) (by omega) (by omega)
set_option maxHeartbeats 4000000 in
set_option maxRecDepth 100000 in
theorem M_stands {l : Launch} {G : GT} {h0 : Nat} {ad ln : Nat → Nat} {v : Nat → Int} {a : Nat → Nat → Int} {r q u : Int} (hR : RG v a) (hx : RowOK a r) (hq : 0 ≤ q ∧ q ≤ u ∧ u ≤ 40200) : Mm l G yX12_stands cX12_stands 6 (some .boolean) 1 [.int (iI r), .int (iI q), .int (iI u)] h0 ad ln v a 0 0 (fun r2 v2 a2 => ∃ f : Int, r2 = some (.int (iI f)) ∧ (f = 0 ∨ (f = 1 ∧ q + a 46 r.toNat ≤ u)) ∧ v = v2 ∧ a = a2) := by
  refine Mm.mk (by decide) (Nat.le_of_ble_eq_true rfl) ?_
  intro p e s m args below meth c A C
  have uhx := hx
  unfold RowOK at uhx
  refine m_iload_n (j := 2) C dX12_stands_0 rfl ?_
  refine m_aload_n (j := 0) C dX12_stands_1 rfl ?_
  refine m_geta (k := 46) C dX12_stands_2 w6_105 (by decide) rfl ?_
  refine m_iload_n (j := 1) C dX12_stands_5 rfl ?_
  refine m_ald (k := 46) C dX12_stands_6 rfl rfl (by decide) (by omega) (by show _ < ((_ : Nat) : Int); simp only [mlen]; omega) (by decide) ?_
  have ra1 := hR.2 46 (r.toNat)
  refine m_iadd C dX12_stands_7 ?_
  refine m_iload_n (j := 3) C dX12_stands_8 rfl ?_
  refine m_icmp_gt (tgt := 16) C ⟨by omega, by omega⟩ ⟨by omega, by omega⟩ dX12_stands_9 (by decide) (fun c1 => ?_) (fun c1 => ?_)
  · refine m_iconst C dX12_stands_16 ?_
    refine m_istore (lv2 := [(4, .int (iI 0)), (0, .ref h0), (1, .int (iI r)), (2, .int (iI q)), (3, .int (iI u))]) C dX12_stands_17 (by decide) rfl ?_
    refine m_iconst C dX12_stands_19 ?_
    refine m_istore (lv2 := [(5, .int (iI 0)), (4, .int (iI 0)), (0, .ref h0), (1, .int (iI r)), (2, .int (iI q)), (3, .int (iI u))]) C dX12_stands_20 (by decide) rfl ?_
    refine m_lv (lv2 := [(5, .int (iI 0)), (4, .int (iI 0)), (0, .ref h0), (1, .int (iI r)), (2, .int (iI q)), (3, .int (iI u))]) [0, 1, 2, 3, 4, 5] rfl ?_
    exact Lp_stands hR hx hq C 6 0 0  (by omega) (by omega) (by omega)
  · refine m_iconst C dX12_stands_12 ?_
    refine m_goto (tgt := 17) C dX12_stands_13 (by decide) ?_
    refine m_istore (lv2 := [(4, .int (iI 1)), (0, .ref h0), (1, .int (iI r)), (2, .int (iI q)), (3, .int (iI u))]) C dX12_stands_17 (by decide) rfl ?_
    refine m_iconst C dX12_stands_19 ?_
    refine m_istore (lv2 := [(5, .int (iI 0)), (4, .int (iI 1)), (0, .ref h0), (1, .int (iI r)), (2, .int (iI q)), (3, .int (iI u))]) C dX12_stands_20 (by decide) rfl ?_
    refine m_lv (lv2 := [(5, .int (iI 0)), (4, .int (iI 1)), (0, .ref h0), (1, .int (iI r)), (2, .int (iI q)), (3, .int (iI u))]) [0, 1, 2, 3, 4, 5] rfl ?_
    exact Lp_stands hR hx hq C 6 0 1  (by omega) (by omega) (by omega)
set_option maxHeartbeats 4000000 in
set_option maxRecDepth 100000 in
theorem Lp_isShort {p : Program} {l : Launch} {e : Env} {s : State} {m : MethodId} {args : Array Value} {below : List Frame} {meth : Method} {c : Code} {G : GT} {A : Nat → Prop} {h0 : Nat} {ad ln : Nat → Nat} {v : Nat → Int} {a : Nat → Nat → Int} {t : Int} (hR : RG v a) (h4 : 0 ≤ v 4 ∧ v 4 ≤ 30) (hb : ∀ t : Int, 0 ≤ t → t < v 4 → a 8 t.toNat = -1 ∨ (0 ≤ a 8 t.toNat ∧ a 8 t.toNat < t)) (C : Cq p s m args meth c cX12_isShort yX12_isShort (some .boolean) G A 4) : ∀ (n : Nat) (k f : Int), k + 1 < (n : Int) → (-1 ≤ k ∧ k < v 4) → (f = 0 ∨ f = 1) → mw p l e (rmq 0 0 0) s m args below meth c G A 4 (MQ below (Qm G A (fun rq Lq Eq => ∃ (vq : Nat → Int) (aq : Nat → Nat → Int), mI G h0 ad ln vq aq Lq Eq ∧ (fun r v2 a2 => ∃ f : Int, r = some (.int (iI f)) ∧ (f = 0 ∨ f = 1) ∧ v = v2 ∧ a = a2) rq vq aq)) args s 0 0 A) h0 ad ln v a 0 0 4 [(3, .int (iI k)), (2, .int (iI f)), (0, .ref h0), (1, .int (iI t))] [] := by
  intro n
  induction n with
  | zero =>
    intro k f   hm hk hf
    exact absurd hm (by omega)
  | succ n ih =>
    intro k f   hm hk hf
    refine m_iload_n (j := 0) C dX12_isShort_4 rfl ?_
    refine m_if_lt (tgt := 38) C ⟨by omega, by omega⟩ dX12_isShort_5 (by decide) (fun c1 => ?_) (fun c1 => ?_)
    · refine m_iload_n (j := 1) C dX12_isShort_38 rfl ?_
      exact m_zret C dX12_isShort_39 rfl (by omega) (Nat.le_of_ble_eq_true rfl) (Nat.le_of_ble_eq_true rfl) ⟨f, rfl, hf, rfl, rfl⟩
    · refine m_iload_n (j := 1) C dX12_isShort_8 rfl ?_
      refine m_if_ne (tgt := 22) C ⟨by omega, by omega⟩ dX12_isShort_9 (by decide) (fun c2 => ?_) (fun c2 => ?_)
      · refine m_iconst C dX12_isShort_22 ?_
        refine m_goto (tgt := 27) C dX12_isShort_23 (by decide) ?_
        refine m_istore_n (lv2 := [(2, .int (iI 1)), (3, .int (iI k)), (0, .ref h0), (1, .int (iI t))]) C dX12_isShort_27 (by decide) rfl ?_
        refine m_aload_n (j := 2) C dX12_isShort_28 rfl ?_
        refine m_geta (k := 8) C dX12_isShort_29 w6_67 (by decide) rfl ?_
        refine m_iload_n (j := 1) C dX12_isShort_32 rfl ?_
        refine m_ald (k := 8) C dX12_isShort_33 rfl rfl (by decide) (by omega) (by show _ < ((_ : Nat) : Int); simp only [mlen]; omega) (by decide) ?_
        have ra1 := hR.2 8 (k.toNat)
        refine m_istore_n (lv2 := [(3, .int (iI (a 8 k.toNat))), (2, .int (iI 1)), (0, .ref h0), (1, .int (iI t))]) C dX12_isShort_34 (by decide) rfl ?_
        refine m_goto (tgt := 4) C dX12_isShort_35 (by decide) ?_
        refine m_lv (lv2 := [(3, .int (iI (a 8 k.toNat))), (2, .int (iI 1)), (0, .ref h0), (1, .int (iI t))]) [0, 1, 2, 3] rfl ?_
        exact ih (a 8 k.toNat) 1 (by have := hb k (by omega) (by omega); omega) (by have := hb k (by omega) (by omega); omega) (by omega)
      · refine m_aload_n (j := 2) C dX12_isShort_12 rfl ?_
        refine m_geta (k := 6) C dX12_isShort_13 w6_65 (by decide) rfl ?_
        refine m_iload_n (j := 0) C dX12_isShort_16 rfl ?_
        refine m_ald (k := 6) C dX12_isShort_17 rfl rfl (by decide) (by omega) (by show _ < ((_ : Nat) : Int); simp only [mlen]; omega) (by decide) ?_
        have ra2 := hR.2 6 (k.toNat)
        refine m_iconst C dX12_isShort_18 ?_
        refine m_icmp_ne (tgt := 26) C ⟨by omega, by omega⟩ ⟨by decide, by decide⟩ dX12_isShort_19 (by decide) (fun c3 => ?_) (fun c3 => ?_)
        · refine m_iconst C dX12_isShort_26 ?_
          refine m_istore_n (lv2 := [(2, .int (iI 0)), (3, .int (iI k)), (0, .ref h0), (1, .int (iI t))]) C dX12_isShort_27 (by decide) rfl ?_
          refine m_aload_n (j := 2) C dX12_isShort_28 rfl ?_
          refine m_geta (k := 8) C dX12_isShort_29 w6_67 (by decide) rfl ?_
          refine m_iload_n (j := 1) C dX12_isShort_32 rfl ?_
          refine m_ald (k := 8) C dX12_isShort_33 rfl rfl (by decide) (by omega) (by show _ < ((_ : Nat) : Int); simp only [mlen]; omega) (by decide) ?_
          have ra3 := hR.2 8 (k.toNat)
          refine m_istore_n (lv2 := [(3, .int (iI (a 8 k.toNat))), (2, .int (iI 0)), (0, .ref h0), (1, .int (iI t))]) C dX12_isShort_34 (by decide) rfl ?_
          refine m_goto (tgt := 4) C dX12_isShort_35 (by decide) ?_
          refine m_lv (lv2 := [(3, .int (iI (a 8 k.toNat))), (2, .int (iI 0)), (0, .ref h0), (1, .int (iI t))]) [0, 1, 2, 3] rfl ?_
          exact ih (a 8 k.toNat) 0 (by have := hb k (by omega) (by omega); omega) (by have := hb k (by omega) (by omega); omega) (by omega)
        · refine m_iconst C dX12_isShort_22 ?_
          refine m_goto (tgt := 27) C dX12_isShort_23 (by decide) ?_
          refine m_istore_n (lv2 := [(2, .int (iI 1)), (3, .int (iI k)), (0, .ref h0), (1, .int (iI t))]) C dX12_isShort_27 (by decide) rfl ?_
          refine m_aload_n (j := 2) C dX12_isShort_28 rfl ?_
          refine m_geta (k := 8) C dX12_isShort_29 w6_67 (by decide) rfl ?_
          refine m_iload_n (j := 1) C dX12_isShort_32 rfl ?_
          refine m_ald (k := 8) C dX12_isShort_33 rfl rfl (by decide) (by omega) (by show _ < ((_ : Nat) : Int); simp only [mlen]; omega) (by decide) ?_
          have ra4 := hR.2 8 (k.toNat)
          refine m_istore_n (lv2 := [(3, .int (iI (a 8 k.toNat))), (2, .int (iI 1)), (0, .ref h0), (1, .int (iI t))]) C dX12_isShort_34 (by decide) rfl ?_
          refine m_goto (tgt := 4) C dX12_isShort_35 (by decide) ?_
          refine m_lv (lv2 := [(3, .int (iI (a 8 k.toNat))), (2, .int (iI 1)), (0, .ref h0), (1, .int (iI t))]) [0, 1, 2, 3] rfl ?_
          exact ih (a 8 k.toNat) 1 (by have := hb k (by omega) (by omega); omega) (by have := hb k (by omega) (by omega); omega) (by omega)
set_option maxHeartbeats 4000000 in
set_option maxRecDepth 100000 in
theorem M_isShort {l : Launch} {G : GT} {h0 : Nat} {ad ln : Nat → Nat} {v : Nat → Int} {a : Nat → Nat → Int} {t : Int} (hR : RG v a) (h4 : 0 ≤ v 4 ∧ v 4 ≤ 30) (hb : ∀ t : Int, 0 ≤ t → t < v 4 → a 8 t.toNat = -1 ∨ (0 ≤ a 8 t.toNat ∧ a 8 t.toNat < t)) (ht : -1 ≤ t ∧ t < v 4) : Mm l G yX12_isShort cX12_isShort 4 (some .boolean) 0 [.int (iI t)] h0 ad ln v a 0 0 (fun r v2 a2 => ∃ f : Int, r = some (.int (iI f)) ∧ (f = 0 ∨ f = 1) ∧ v = v2 ∧ a = a2) := by
  refine Mm.mk (by decide) (Nat.le_of_ble_eq_true rfl) ?_
  intro p e s m args below meth c A C
  refine m_iconst C dX12_isShort_0 ?_
  refine m_istore_n (lv2 := [(2, .int (iI 0)), (0, .ref h0), (1, .int (iI t))]) C dX12_isShort_1 (by decide) rfl ?_
  refine m_iload_n (j := 2) C dX12_isShort_2 rfl ?_
  refine m_istore_n (lv2 := [(3, .int (iI t)), (2, .int (iI 0)), (0, .ref h0), (1, .int (iI t))]) C dX12_isShort_3 (by decide) rfl ?_
  refine m_lv (lv2 := [(3, .int (iI t)), (2, .int (iI 0)), (0, .ref h0), (1, .int (iI t))]) [0, 1, 2, 3] rfl ?_
  exact Lp_isShort hR h4 hb C 32 t 0  (by omega) ht (by omega)
set_option maxHeartbeats 4000000 in
set_option maxRecDepth 100000 in
theorem Lp_longest {p : Program} {l : Launch} {e : Env} {s : State} {m : MethodId} {args : Array Value} {below : List Frame} {meth : Method} {c : Code} {G : GT} {A : Nat → Prop} {h0 : Nat} {ad ln : Nat → Nat} {v : Nat → Int} {a : Nat → Nat → Int} {q x u : Int} (hR : RG v a) (hq : q = 0 ∨ q = 1) (h47 : 0 ≤ a 47 q.toNat ∧ a 47 q.toNat ≤ 6008) (hrow : ∀ r : Int, 6008 * q ≤ r → r < 6008 * q + a 47 q.toNat → RowOK a r) (hx : 0 ≤ x ∧ x ≤ u ∧ u ≤ 40200) (C : Cq p s m args meth c cX12_longest yX12_longest (some .int) G A 6) : ∀ (n : Nat) (k w1 : Int), 12017 - k < (n : Int) → (6008 * q ≤ k ∧ k ≤ 6008 * q + a 47 q.toNat) → (w1 = -1 ∨ (6008 * q ≤ w1 ∧ w1 < 6008 * q + a 47 q.toNat ∧ x + a 46 w1.toNat ≤ u)) → mw p l e (rmq 2 0 0) s m args below meth c G A 6 (MQ below (Qm G A (fun rq Lq Eq => ∃ (vq : Nat → Int) (aq : Nat → Nat → Int), mI G h0 ad ln vq aq Lq Eq ∧ (fun r2 v2 a2 => ∃ f : Int, r2 = some (.int (iI f)) ∧ (f = -1 ∨ (6008 * q ≤ f ∧ f < 6008 * q + a 47 q.toNat ∧ x + a 46 f.toNat ≤ u)) ∧ v = v2 ∧ a = a2) rq vq aq)) args s 0 0 A) h0 ad ln v a 0 0 10 [(5, .int (iI k)), (4, .int (iI w1)), (0, .ref h0), (1, .int (iI q)), (2, .int (iI x)), (3, .int (iI u))] [] := by
  intro n
  induction n with
  | zero =>
    intro k w1   hm hk hb
    exact absurd hm (by omega)
  | succ n ih =>
    intro k w1   hm hk hb
    refine m_iload (j := 0) C dX12_longest_10 rfl ?_
    refine m_sipush (z := 6008) C dX12_longest_12 (by decide) ?_
    refine m_iload_n (j := 3) C dX12_longest_15 rfl ?_
    refine m_imul C dX12_longest_16 ?_
    refine m_aload_n (j := 2) C dX12_longest_17 rfl ?_
    refine m_geta (k := 47) C dX12_longest_18 w6_106 (by decide) rfl ?_
    refine m_iload_n (j := 3) C dX12_longest_21 rfl ?_
    refine m_ald (k := 47) C dX12_longest_22 rfl rfl (by decide) (by omega) (by show _ < ((_ : Nat) : Int); simp only [mlen]; omega) (by decide) ?_
    have ra1 := hR.2 47 (q.toNat)
    refine m_iadd C dX12_longest_23 ?_
    refine m_icmp_ge (tgt := 70) C ⟨by omega, by omega⟩ ⟨by omega, by omega⟩ dX12_longest_24 (by decide) (fun c1 => ?_) (fun c1 => ?_)
    · refine m_iload (j := 1) C dX12_longest_70 rfl ?_
      exact m_iret C dX12_longest_72 rfl (Nat.le_of_ble_eq_true rfl) (Nat.le_of_ble_eq_true rfl) ⟨w1, rfl, hb, rfl, rfl⟩
    · refine m_iload (j := 1) C dX12_longest_27 rfl ?_
      refine m_if_lt (tgt := 49) C ⟨by omega, by omega⟩ dX12_longest_29 (by decide) (fun c2 => ?_) (fun c2 => ?_)
      · refine m_aload_n (j := 2) C dX12_longest_49 rfl ?_
        refine m_iload (j := 0) C dX12_longest_50 rfl ?_
        refine m_iload_n (j := 4) C dX12_longest_52 rfl ?_
        refine m_iload_n (j := 5) C dX12_longest_53 rfl ?_
        refine m_call (mc2 := 0) (ms2 := 0) (As := [.int (iI k), .int (iI x), .int (iI u)]) (rest := []) C (M_stands (r := k) (q := x) (u := u) hR (hrow k (by omega) (by omega)) hx) dX12_longest_54 kV_X12_327 rfl ck_13 rfl (Nat.le_of_ble_eq_true rfl) ⟨Nat.le_of_ble_eq_true rfl, Nat.le_of_ble_eq_true rfl⟩ ⟨Nat.le_of_ble_eq_true rfl, Nat.le_of_ble_eq_true rfl⟩ (fun rh1 vh1 ah1 h1 => ?_)
        obtain ⟨f1, rfl, hf1, rfl, rfl⟩ := h1
        refine m_st (st2 := [.int (iI f1)]) rfl ?_
        refine m_if_eq (tgt := 64) C ⟨by omega, by omega⟩ dX12_longest_57 (by decide) (fun c3 => ?_) (fun c3 => ?_)
        · refine m_iinc (z := k) (j := 0) (lv2 := [(5, .int (iI (k + 1))), (4, .int (iI w1)), (0, .ref h0), (1, .int (iI q)), (2, .int (iI x)), (3, .int (iI u))]) C dX12_longest_64 rfl (by decide) rfl ?_
          refine m_goto (tgt := 10) C dX12_longest_67 (by decide) ?_
          refine m_lv (lv2 := [(5, .int (iI (k + 1))), (4, .int (iI w1)), (0, .ref h0), (1, .int (iI q)), (2, .int (iI x)), (3, .int (iI u))]) [0, 1, 2, 3, 4, 5] rfl ?_
          exact ih (k + 1) w1 (by omega) (by omega) (by omega)
        · refine m_iload (j := 0) C dX12_longest_60 rfl ?_
          refine m_istore (lv2 := [(4, .int (iI k)), (5, .int (iI k)), (0, .ref h0), (1, .int (iI q)), (2, .int (iI x)), (3, .int (iI u))]) C dX12_longest_62 (by decide) rfl ?_
          refine m_iinc (z := k) (j := 1) (lv2 := [(5, .int (iI (k + 1))), (4, .int (iI k)), (0, .ref h0), (1, .int (iI q)), (2, .int (iI x)), (3, .int (iI u))]) C dX12_longest_64 rfl (by decide) rfl ?_
          refine m_goto (tgt := 10) C dX12_longest_67 (by decide) ?_
          refine m_lv (lv2 := [(5, .int (iI (k + 1))), (4, .int (iI k)), (0, .ref h0), (1, .int (iI q)), (2, .int (iI x)), (3, .int (iI u))]) [0, 1, 2, 3, 4, 5] rfl ?_
          exact ih (k + 1) k (by omega) (by omega) (by omega)
      · refine m_aload_n (j := 2) C dX12_longest_32 rfl ?_
        refine m_geta (k := 46) C dX12_longest_33 w6_105 (by decide) rfl ?_
        refine m_iload (j := 0) C dX12_longest_36 rfl ?_
        refine m_ald (k := 46) C dX12_longest_38 rfl rfl (by decide) (by omega) (by show _ < ((_ : Nat) : Int); simp only [mlen]; omega) (by decide) ?_
        have ra2 := hR.2 46 (k.toNat)
        refine m_aload_n (j := 2) C dX12_longest_39 rfl ?_
        refine m_geta (k := 46) C dX12_longest_40 w6_105 (by decide) rfl ?_
        refine m_iload (j := 1) C dX12_longest_43 rfl ?_
        refine m_ald (k := 46) C dX12_longest_45 rfl rfl (by decide) (by omega) (by show _ < ((_ : Nat) : Int); simp only [mlen]; omega) (by decide) ?_
        have ra3 := hR.2 46 (w1.toNat)
        refine m_icmp_le (tgt := 64) C ⟨by omega, by omega⟩ ⟨by omega, by omega⟩ dX12_longest_46 (by decide) (fun c4 => ?_) (fun c4 => ?_)
        · refine m_iinc (z := k) (j := 0) (lv2 := [(5, .int (iI (k + 1))), (4, .int (iI w1)), (0, .ref h0), (1, .int (iI q)), (2, .int (iI x)), (3, .int (iI u))]) C dX12_longest_64 rfl (by decide) rfl ?_
          refine m_goto (tgt := 10) C dX12_longest_67 (by decide) ?_
          refine m_lv (lv2 := [(5, .int (iI (k + 1))), (4, .int (iI w1)), (0, .ref h0), (1, .int (iI q)), (2, .int (iI x)), (3, .int (iI u))]) [0, 1, 2, 3, 4, 5] rfl ?_
          exact ih (k + 1) w1 (by omega) (by omega) (by omega)
        · refine m_aload_n (j := 2) C dX12_longest_49 rfl ?_
          refine m_iload (j := 0) C dX12_longest_50 rfl ?_
          refine m_iload_n (j := 4) C dX12_longest_52 rfl ?_
          refine m_iload_n (j := 5) C dX12_longest_53 rfl ?_
          refine m_call (mc2 := 0) (ms2 := 0) (As := [.int (iI k), .int (iI x), .int (iI u)]) (rest := []) C (M_stands (r := k) (q := x) (u := u) hR (hrow k (by omega) (by omega)) hx) dX12_longest_54 kV_X12_327 rfl ck_13 rfl (Nat.le_of_ble_eq_true rfl) ⟨Nat.le_of_ble_eq_true rfl, Nat.le_of_ble_eq_true rfl⟩ ⟨Nat.le_of_ble_eq_true rfl, Nat.le_of_ble_eq_true rfl⟩ (fun rh2 vh2 ah2 h2 => ?_)
          obtain ⟨f2, rfl, hf2, rfl, rfl⟩ := h2
          refine m_st (st2 := [.int (iI f2)]) rfl ?_
          refine m_if_eq (tgt := 64) C ⟨by omega, by omega⟩ dX12_longest_57 (by decide) (fun c5 => ?_) (fun c5 => ?_)
          · refine m_iinc (z := k) (j := 0) (lv2 := [(5, .int (iI (k + 1))), (4, .int (iI w1)), (0, .ref h0), (1, .int (iI q)), (2, .int (iI x)), (3, .int (iI u))]) C dX12_longest_64 rfl (by decide) rfl ?_
            refine m_goto (tgt := 10) C dX12_longest_67 (by decide) ?_
            refine m_lv (lv2 := [(5, .int (iI (k + 1))), (4, .int (iI w1)), (0, .ref h0), (1, .int (iI q)), (2, .int (iI x)), (3, .int (iI u))]) [0, 1, 2, 3, 4, 5] rfl ?_
            exact ih (k + 1) w1 (by omega) (by omega) (by omega)
          · refine m_iload (j := 0) C dX12_longest_60 rfl ?_
            refine m_istore (lv2 := [(4, .int (iI k)), (5, .int (iI k)), (0, .ref h0), (1, .int (iI q)), (2, .int (iI x)), (3, .int (iI u))]) C dX12_longest_62 (by decide) rfl ?_
            refine m_iinc (z := k) (j := 1) (lv2 := [(5, .int (iI (k + 1))), (4, .int (iI k)), (0, .ref h0), (1, .int (iI q)), (2, .int (iI x)), (3, .int (iI u))]) C dX12_longest_64 rfl (by decide) rfl ?_
            refine m_goto (tgt := 10) C dX12_longest_67 (by decide) ?_
            refine m_lv (lv2 := [(5, .int (iI (k + 1))), (4, .int (iI k)), (0, .ref h0), (1, .int (iI q)), (2, .int (iI x)), (3, .int (iI u))]) [0, 1, 2, 3, 4, 5] rfl ?_
            exact ih (k + 1) k (by omega) (by omega) (by omega)
set_option maxHeartbeats 4000000 in
set_option maxRecDepth 100000 in
theorem M_longest {l : Launch} {G : GT} {h0 : Nat} {ad ln : Nat → Nat} {v : Nat → Int} {a : Nat → Nat → Int} {q x u : Int} (hR : RG v a) (hq : q = 0 ∨ q = 1) (h47 : 0 ≤ a 47 q.toNat ∧ a 47 q.toNat ≤ 6008) (hrow : ∀ r : Int, 6008 * q ≤ r → r < 6008 * q + a 47 q.toNat → RowOK a r) (hx : 0 ≤ x ∧ x ≤ u ∧ u ≤ 40200) : Mm l G yX12_longest cX12_longest 6 (some .int) 2 [.int (iI q), .int (iI x), .int (iI u)] h0 ad ln v a 0 0 (fun r2 v2 a2 => ∃ f : Int, r2 = some (.int (iI f)) ∧ (f = -1 ∨ (6008 * q ≤ f ∧ f < 6008 * q + a 47 q.toNat ∧ x + a 46 f.toNat ≤ u)) ∧ v = v2 ∧ a = a2) := by
  refine Mm.mk (by decide) (Nat.le_of_ble_eq_true rfl) ?_
  intro p e s m args below meth c A C
  refine m_iconst C dX12_longest_0 ?_
  refine m_istore (lv2 := [(4, .int (iI (-1))), (0, .ref h0), (1, .int (iI q)), (2, .int (iI x)), (3, .int (iI u))]) C dX12_longest_1 (by decide) rfl ?_
  refine m_sipush (z := 6008) C dX12_longest_3 (by decide) ?_
  refine m_iload_n (j := 2) C dX12_longest_6 rfl ?_
  refine m_imul C dX12_longest_7 ?_
  refine m_istore (lv2 := [(5, .int (iI (6008 * q))), (4, .int (iI (-1))), (0, .ref h0), (1, .int (iI q)), (2, .int (iI x)), (3, .int (iI u))]) C dX12_longest_8 (by decide) rfl ?_
  refine m_lv (lv2 := [(5, .int (iI (6008 * q))), (4, .int (iI (-1))), (0, .ref h0), (1, .int (iI q)), (2, .int (iI x)), (3, .int (iI u))]) [0, 1, 2, 3, 4, 5] rfl ?_
  exact Lp_longest hR hq h47 hrow hx C 12018 (6008 * q) (-1)  (by omega) (by omega) (by omega)
set_option maxHeartbeats 4000000 in
set_option maxRecDepth 100000 in
theorem Lp_isRead2 {p : Program} {l : Launch} {e : Env} {s : State} {m : MethodId} {args : Array Value} {below : List Frame} {meth : Method} {c : Code} {G : GT} {A : Nat → Prop} {h0 : Nat} {ad ln : Nat → Nat} {v : Nat → Int} {a : Nat → Nat → Int} {q k : Int} (hR : RG v a) (hq : q = 0 ∨ q = 1) (h47 : 0 ≤ a 47 q.toNat ∧ a 47 q.toNat ≤ 6008) (hrow : ∀ r : Int, 6008 * q ≤ r → r < 6008 * q + a 47 q.toNat → RowOK a r) (hk : 6008 * q ≤ k ∧ k < 6008 * q + a 47 q.toNat) (hout : mw p l e (rmq 2 0 0) s m args below meth c G A 6 (MQ below (Qm G A (fun rq Lq Eq => ∃ (vq : Nat → Int) (aq : Nat → Nat → Int), mI G h0 ad ln vq aq Lq Eq ∧ (fun r v2 a2 => ∃ f : Int, r = some (.int (iI f)) ∧ (f = 0 ∨ f = 1) ∧ v = v2 ∧ a = a2) rq vq aq)) args s 0 0 A) h0 ad ln v a 0 0 91 [(3, .int (iI k)), (2, .int (iI (6008 * q))), (0, .ref h0), (1, .int (iI q))] []) (C : Cq p s m args meth c cX12_isReadable yX12_isReadable (some .boolean) G A 6) : ∀ (n : Nat) (j : Int), 12017 - j < (n : Int) → (6008 * q ≤ j ∧ j ≤ k) → mw p l e (rmq 2 0 0) s m args below meth c G A 6 (MQ below (Qm G A (fun rq Lq Eq => ∃ (vq : Nat → Int) (aq : Nat → Nat → Int), mI G h0 ad ln vq aq Lq Eq ∧ (fun r v2 a2 => ∃ f : Int, r = some (.int (iI f)) ∧ (f = 0 ∨ f = 1) ∧ v = v2 ∧ a = a2) rq vq aq)) args s 0 0 A) h0 ad ln v a 0 0 45 [(4, .int (iI j)), (3, .int (iI k)), (2, .int (iI (6008 * q))), (0, .ref h0), (1, .int (iI q))] [] := by
  intro n
  induction n with
  | zero =>
    intro j   hm hj
    exact absurd hm (by omega)
  | succ n ih =>
    intro j   hm hj
    refine m_iload (j := 0) C dX12_isReadable_45 rfl ?_
    refine m_iload_n (j := 1) C dX12_isReadable_47 rfl ?_
    refine m_icmp_ge (tgt := 91) C ⟨by omega, by omega⟩ ⟨by omega, by omega⟩ dX12_isReadable_48 (by decide) (fun c1 => ?_) (fun c1 => ?_)
    · refine m_lv (lv2 := [(3, .int (iI k)), (2, .int (iI (6008 * q))), (0, .ref h0), (1, .int (iI q))]) [1, 2, 3, 4] rfl ?_
      exact hout
    · refine m_aload_n (j := 3) C dX12_isReadable_51 rfl ?_
      refine m_iload_n (j := 1) C dX12_isReadable_52 rfl ?_
      refine m_iload (j := 0) C dX12_isReadable_53 rfl ?_
      refine m_call (mc2 := 0) (ms2 := 0) (As := [.int (iI k), .int (iI j)]) (rest := []) C (M_alike (x := k) (y := j) hR (hrow k (by omega) (by omega)) (hrow j (by omega) (by omega))) dX12_isReadable_55 kV_X12_404 rfl ck_13 rfl (Nat.le_of_ble_eq_true rfl) ⟨Nat.le_of_ble_eq_true rfl, Nat.le_of_ble_eq_true rfl⟩ ⟨Nat.le_of_ble_eq_true rfl, Nat.le_of_ble_eq_true rfl⟩ (fun rh1 vh1 ah1 h1 => ?_)
      obtain ⟨f1, rfl, hf1, rfl, rfl⟩ := h1
      have gf1 := hrow k (by omega) (by omega)
      have kf1 := hrow j (by omega) (by omega)
      unfold RowOK at gf1 kf1
      refine m_st (st2 := [.int (iI f1)]) rfl ?_
      refine m_istore (lv2 := [(5, .int (iI f1)), (4, .int (iI j)), (3, .int (iI k)), (2, .int (iI (6008 * q))), (0, .ref h0), (1, .int (iI q))]) C dX12_isReadable_58 (by decide) rfl ?_
      refine m_iload (j := 0) C dX12_isReadable_60 rfl ?_
      refine m_aload_n (j := 4) C dX12_isReadable_62 rfl ?_
      refine m_geta (k := 46) C dX12_isReadable_63 w6_105 (by decide) rfl ?_
      refine m_iload_n (j := 2) C dX12_isReadable_66 rfl ?_
      refine m_ald (k := 46) C dX12_isReadable_67 rfl rfl (by decide) (by omega) (by show _ < ((_ : Nat) : Int); simp only [mlen]; omega) (by decide) ?_
      have ra1 := hR.2 46 (k.toNat)
      refine m_icmp_eq (tgt := 83) C ⟨by omega, by omega⟩ ⟨by omega, by omega⟩ dX12_isReadable_68 (by decide) (fun c2 => ?_) (fun c2 => ?_)
      · refine m_iconst C dX12_isReadable_83 ?_
        exact m_zret C dX12_isReadable_84 rfl (Or.inl rfl) (Nat.le_of_ble_eq_true rfl) (Nat.le_of_ble_eq_true rfl) ⟨0, rfl, (by omega), rfl, rfl⟩
      · refine m_iload (j := 0) C dX12_isReadable_71 rfl ?_
        refine m_aload_n (j := 4) C dX12_isReadable_73 rfl ?_
        refine m_geta (k := 46) C dX12_isReadable_74 w6_105 (by decide) rfl ?_
        refine m_iload (j := 1) C dX12_isReadable_77 rfl ?_
        refine m_ald (k := 46) C dX12_isReadable_79 rfl rfl (by decide) (by omega) (by show _ < ((_ : Nat) : Int); simp only [mlen]; omega) (by decide) ?_
        have ra2 := hR.2 46 (j.toNat)
        refine m_icmp_ne (tgt := 85) C ⟨by omega, by omega⟩ ⟨by omega, by omega⟩ dX12_isReadable_80 (by decide) (fun c3 => ?_) (fun c3 => ?_)
        · refine m_iinc (z := j) (j := 1) (lv2 := [(4, .int (iI (j + 1))), (5, .int (iI f1)), (3, .int (iI k)), (2, .int (iI (6008 * q))), (0, .ref h0), (1, .int (iI q))]) C dX12_isReadable_85 rfl (by decide) rfl ?_
          refine m_goto (tgt := 45) C dX12_isReadable_88 (by decide) ?_
          refine m_lv (lv2 := [(4, .int (iI (j + 1))), (3, .int (iI k)), (2, .int (iI (6008 * q))), (0, .ref h0), (1, .int (iI q))]) [0, 2, 3, 4, 5] rfl ?_
          exact ih (j + 1) (by omega) (by omega)
        · refine m_iconst C dX12_isReadable_83 ?_
          exact m_zret C dX12_isReadable_84 rfl (Or.inl rfl) (Nat.le_of_ble_eq_true rfl) (Nat.le_of_ble_eq_true rfl) ⟨0, rfl, (by omega), rfl, rfl⟩
set_option maxHeartbeats 4000000 in
set_option maxRecDepth 100000 in
theorem Lp_isRead1 {p : Program} {l : Launch} {e : Env} {s : State} {m : MethodId} {args : Array Value} {below : List Frame} {meth : Method} {c : Code} {G : GT} {A : Nat → Prop} {h0 : Nat} {ad ln : Nat → Nat} {v : Nat → Int} {a : Nat → Nat → Int} {q : Int} (hR : RG v a) (hq : q = 0 ∨ q = 1) (h47 : 0 ≤ a 47 q.toNat ∧ a 47 q.toNat ≤ 6008) (hrow : ∀ r : Int, 6008 * q ≤ r → r < 6008 * q + a 47 q.toNat → RowOK a r) (C : Cq p s m args meth c cX12_isReadable yX12_isReadable (some .boolean) G A 6) : ∀ (n : Nat) (k : Int), 12017 - k < (n : Int) → (6008 * q ≤ k ∧ k ≤ 6008 * q + a 47 q.toNat) → mw p l e (rmq 2 0 0) s m args below meth c G A 6 (MQ below (Qm G A (fun rq Lq Eq => ∃ (vq : Nat → Int) (aq : Nat → Nat → Int), mI G h0 ad ln vq aq Lq Eq ∧ (fun r v2 a2 => ∃ f : Int, r = some (.int (iI f)) ∧ (f = 0 ∨ f = 1) ∧ v = v2 ∧ a = a2) rq vq aq)) args s 0 0 A) h0 ad ln v a 0 0 8 [(3, .int (iI k)), (2, .int (iI (6008 * q))), (0, .ref h0), (1, .int (iI q))] [] := by
  intro n
  induction n with
  | zero =>
    intro k   hm hk
    exact absurd hm (by omega)
  | succ n ih =>
    intro k   hm hk
    refine m_iload_n (j := 0) C dX12_isReadable_8 rfl ?_
    refine m_iload_n (j := 1) C dX12_isReadable_9 rfl ?_
    refine m_aload_n (j := 2) C dX12_isReadable_10 rfl ?_
    refine m_geta (k := 47) C dX12_isReadable_11 w6_106 (by decide) rfl ?_
    refine m_iload_n (j := 3) C dX12_isReadable_14 rfl ?_
    refine m_ald (k := 47) C dX12_isReadable_15 rfl rfl (by decide) (by omega) (by show _ < ((_ : Nat) : Int); simp only [mlen]; omega) (by decide) ?_
    have ra1 := hR.2 47 (q.toNat)
    refine m_iadd C dX12_isReadable_16 ?_
    refine m_icmp_ge (tgt := 97) C ⟨by omega, by omega⟩ ⟨by omega, by omega⟩ dX12_isReadable_17 (by decide) (fun c1 => ?_) (fun c1 => ?_)
    · refine m_iconst C dX12_isReadable_97 ?_
      exact m_zret C dX12_isReadable_98 rfl (Or.inr rfl) (Nat.le_of_ble_eq_true rfl) (Nat.le_of_ble_eq_true rfl) ⟨1, rfl, (by omega), rfl, rfl⟩
    · refine m_aload_n (j := 2) C dX12_isReadable_20 rfl ?_
      refine m_iload_n (j := 0) C dX12_isReadable_21 rfl ?_
      refine m_aload_n (j := 2) C dX12_isReadable_22 rfl ?_
      refine m_geta (k := 46) C dX12_isReadable_23 w6_105 (by decide) rfl ?_
      refine m_iload_n (j := 0) C dX12_isReadable_26 rfl ?_
      refine m_ald (k := 46) C dX12_isReadable_27 rfl rfl (by decide) (by omega) (by show _ < ((_ : Nat) : Int); simp only [mlen]; omega) (by decide) ?_
      have ra2 := hR.2 46 (k.toNat)
      refine m_iconst C dX12_isReadable_28 ?_
      refine m_isub C dX12_isReadable_29 ?_
      have gr := hrow k (by omega) (by omega)
      unfold RowOK at gr
      refine m_call (mc2 := 0) (ms2 := 0) (As := [.int (iI k), .int (iI ((a 46 k.toNat) - 1))]) (rest := []) C (M_rowCell (r := k) (k := (a 46 k.toNat) - 1) hR (by omega) (by omega)) dX12_isReadable_30 kV_X12_324 rfl ck_13 rfl (Nat.le_of_ble_eq_true rfl) ⟨Nat.le_of_ble_eq_true rfl, Nat.le_of_ble_eq_true rfl⟩ ⟨Nat.le_of_ble_eq_true rfl, Nat.le_of_ble_eq_true rfl⟩ (fun rh1 vh1 ah1 h1 => ?_)
      obtain ⟨f1, rfl, hf1, rfl, rfl⟩ := h1
      refine m_st (st2 := [.int (iI f1)]) rfl ?_
      refine m_aload_n (j := 2) C dX12_isReadable_33 rfl ?_
      have rv33 := hR.1 33
      refine m_get (k := 33) C dX12_isReadable_34 w6_92 (by decide) rfl ?_
      refine m_icmp_ne (tgt := 42) C ⟨by omega, by omega⟩ ⟨by omega, by omega⟩ dX12_isReadable_37 (by decide) (fun c2 => ?_) (fun c2 => ?_)
      · refine m_iload_n (j := 1) C dX12_isReadable_42 rfl ?_
        refine m_istore (lv2 := [(4, .int (iI (6008 * q))), (3, .int (iI k)), (2, .int (iI (6008 * q))), (0, .ref h0), (1, .int (iI q))]) C dX12_isReadable_43 (by decide) rfl ?_
        refine m_lv (lv2 := [(4, .int (iI (6008 * q))), (3, .int (iI k)), (2, .int (iI (6008 * q))), (0, .ref h0), (1, .int (iI q))]) [0, 1, 2, 3, 4] rfl ?_
        refine Lp_isRead2 hR hq h47 hrow (by omega) ?_ C 12018 (6008 * q) (by omega) (by omega)
        refine m_iinc (z := k) (j := 0) (lv2 := [(3, .int (iI (k + 1))), (2, .int (iI (6008 * q))), (0, .ref h0), (1, .int (iI q))]) C dX12_isReadable_91 rfl (by decide) rfl ?_
        refine m_goto (tgt := 8) C dX12_isReadable_94 (by decide) ?_
        exact ih (k + 1) (by omega) (by omega)
      · refine m_iconst C dX12_isReadable_40 ?_
        exact m_zret C dX12_isReadable_41 rfl (Or.inl rfl) (Nat.le_of_ble_eq_true rfl) (Nat.le_of_ble_eq_true rfl) ⟨0, rfl, (by omega), rfl, rfl⟩
set_option maxHeartbeats 4000000 in
set_option maxRecDepth 100000 in
theorem M_isReadable {l : Launch} {G : GT} {h0 : Nat} {ad ln : Nat → Nat} {v : Nat → Int} {a : Nat → Nat → Int} {q : Int} (hR : RG v a) (hq : q = 0 ∨ q = 1) (h47 : 0 ≤ a 47 q.toNat ∧ a 47 q.toNat ≤ 6008) (hrow : ∀ r : Int, 6008 * q ≤ r → r < 6008 * q + a 47 q.toNat → RowOK a r) : Mm l G yX12_isReadable cX12_isReadable 6 (some .boolean) 2 [.int (iI q)] h0 ad ln v a 0 0 (fun r v2 a2 => ∃ f : Int, r = some (.int (iI f)) ∧ (f = 0 ∨ f = 1) ∧ v = v2 ∧ a = a2) := by
  refine Mm.mk (by decide) (Nat.le_of_ble_eq_true rfl) ?_
  intro p e s m args below meth c A C
  refine m_sipush (z := 6008) C dX12_isReadable_0 (by decide) ?_
  refine m_iload_n (j := 1) C dX12_isReadable_3 rfl ?_
  refine m_imul C dX12_isReadable_4 ?_
  refine m_istore_n (lv2 := [(2, .int (iI (6008 * q))), (0, .ref h0), (1, .int (iI q))]) C dX12_isReadable_5 (by decide) rfl ?_
  refine m_iload_n (j := 0) C dX12_isReadable_6 rfl ?_
  refine m_istore_n (lv2 := [(3, .int (iI (6008 * q))), (2, .int (iI (6008 * q))), (0, .ref h0), (1, .int (iI q))]) C dX12_isReadable_7 (by decide) rfl ?_
  refine m_lv (lv2 := [(3, .int (iI (6008 * q))), (2, .int (iI (6008 * q))), (0, .ref h0), (1, .int (iI q))]) [0, 1, 2, 3] rfl ?_
  exact Lp_isRead1 hR hq h47 hrow C 12018 (6008 * q)  (by omega) (by omega)
end
section
set_option maxHeartbeats 4000000 in
set_option maxRecDepth 100000 in
theorem Lp_putInd {p : Program} {l : Launch} {e : Env} {s : State} {m : MethodId} {args : Array Value} {below : List Frame} {meth : Method} {c : Code} {G : GT} {A : Nat → Prop} {h0 : Nat} {ad ln : Nat → Nat} {v0 : Nat → Int} {a0 : Nat → Nat → Int} {t w1 : Int} (ht : 0 ≤ t ∧ t < 30) (hw : 0 ≤ w1 ∧ w1 ≤ 3) (h16 : 0 ≤ a0 16 (4 * t + w1).toNat ∧ a0 16 (4 * t + w1).toNat ≤ 4) (h25 : 0 ≤ v0 25 ∧ v0 25 ≤ 6000) (C : Cq p s m args meth c cX12_putIndicator yX12_putIndicator none G A 5) : ∀ (n : Nat) (k : Int) (v : Nat → Int) (a : Nat → Nat → Int), 5 - k < (n : Int) → (0 ≤ k ∧ k ≤ a0 16 (4 * t + w1).toNat) → v = v0 → (∀ j, j ≠ 24 → a j = a0 j) → RG v a → mw p l e (rmq 0 0 0) s m args below meth c G A 5 (MQ below (Qm G A (fun rq Lq Eq => ∃ (vq : Nat → Int) (aq : Nat → Nat → Int), mI G h0 ad ln vq aq Lq Eq ∧ (fun r v2 a2 => r = none ∧ v2 = va_up v0 25 (v0 25 + a0 16 (4 * t + w1).toNat) ∧ (∀ j, j ≠ 24 → a2 j = a0 j) ∧ RG v2 a2) rq vq aq)) args s 0 0 A) h0 ad ln v a 0 0 9 [(4, .int (iI k)), (3, .int (iI (4 * t + w1))), (0, .ref h0), (1, .int (iI t)), (2, .int (iI w1))] [] := by
  intro n
  induction n with
  | zero =>
    intro k  v a hm hk ev ha hr
    refine hv2 (show v 25 = v0 25 from by rw [ev]) (show a 16 (4 * t + w1).toNat = a0 16 (4 * t + w1).toNat from congrFun (ha 16 (by decide)) _) (fun q25 q16 => ?_)
    exact absurd hm (by omega)
  | succ n ih =>
    intro k  v a hm hk ev ha hr
    refine hv2 (show v 25 = v0 25 from by rw [ev]) (show a 16 (4 * t + w1).toNat = a0 16 (4 * t + w1).toNat from congrFun (ha 16 (by decide)) _) (fun q25 q16 => ?_)
    refine m_iload (j := 0) C dX12_putIndicator_9 rfl ?_
    refine m_aload_n (j := 2) C dX12_putIndicator_11 rfl ?_
    refine m_geta (k := 16) C dX12_putIndicator_12 w6_75 (by decide) rfl ?_
    refine m_iload_n (j := 1) C dX12_putIndicator_15 rfl ?_
    refine m_ald (k := 16) C dX12_putIndicator_16 rfl rfl (by decide) (by omega) (by show _ < ((_ : Nat) : Int); simp only [mlen]; omega) (by decide) ?_
    have ra1 := hr.2 16 ((4 * t + w1).toNat)
    refine m_icmp_ge (tgt := 49) C ⟨by omega, by omega⟩ ⟨by omega, by omega⟩ dX12_putIndicator_17 (by decide) (fun c1 => ?_) (fun c1 => ?_)
    · refine m_aload_n (j := 2) C dX12_putIndicator_49 rfl ?_
      refine m_dup C dX12_putIndicator_50 rfl ?_
      have rv25 := hr.1 25
      refine m_get (k := 25) C dX12_putIndicator_51 w6_84 (by decide) rfl ?_
      refine m_aload_n (j := 2) C dX12_putIndicator_54 rfl ?_
      refine m_geta (k := 16) C dX12_putIndicator_55 w6_75 (by decide) rfl ?_
      refine m_iload_n (j := 1) C dX12_putIndicator_58 rfl ?_
      refine m_ald (k := 16) C dX12_putIndicator_59 rfl rfl (by decide) (by omega) (by show _ < ((_ : Nat) : Int); simp only [mlen]; omega) (by decide) ?_
      have ra2 := hr.2 16 ((4 * t + w1).toNat)
      refine m_iadd C dX12_putIndicator_60 ?_
      refine m_put (k := 25) (z := (v 25) + (a 16 (4 * t + w1).toNat)) C dX12_putIndicator_61 w6_84 (by decide) rfl rfl rfl ?_
      exact m_vret C dX12_putIndicator_64 rfl (Nat.le_of_ble_eq_true rfl) (Nat.le_of_ble_eq_true rfl) ⟨rfl, (by rw [ev, q16]), ha, (hr.put ⟨by omega, by omega⟩)⟩
    · refine m_aload_n (j := 2) C dX12_putIndicator_20 rfl ?_
      refine m_geta (k := 24) C dX12_putIndicator_21 w6_83 (by decide) rfl ?_
      refine m_aload_n (j := 2) C dX12_putIndicator_24 rfl ?_
      have rv25 := hr.1 25
      refine m_get (k := 25) C dX12_putIndicator_25 w6_84 (by decide) rfl ?_
      refine m_iload (j := 0) C dX12_putIndicator_28 rfl ?_
      refine m_iadd C dX12_putIndicator_30 ?_
      refine m_aload_n (j := 2) C dX12_putIndicator_31 rfl ?_
      refine m_geta (k := 17) C dX12_putIndicator_32 w6_76 (by decide) rfl ?_
      refine m_iconst C dX12_putIndicator_35 ?_
      refine m_iload_n (j := 1) C dX12_putIndicator_36 rfl ?_
      refine m_imul C dX12_putIndicator_37 ?_
      refine m_iload (j := 0) C dX12_putIndicator_38 rfl ?_
      refine m_iadd C dX12_putIndicator_40 ?_
      refine m_ald (k := 17) C dX12_putIndicator_41 rfl rfl (by decide) (by omega) (by show _ < ((_ : Nat) : Int); simp only [mlen]; omega) (by decide) ?_
      have ra3 := hr.2 17 (((4 * (4 * t + w1)) + k).toNat)
      refine m_ast (k := 24) C dX12_putIndicator_42 rfl rfl (by decide) (by omega) (by show _ < ((_ : Nat) : Int); simp only [mlen]; omega) (by decide) ?_
      refine m_iinc (z := k) (j := 0) (lv2 := [(4, .int (iI (k + 1))), (3, .int (iI (4 * t + w1))), (0, .ref h0), (1, .int (iI t)), (2, .int (iI w1))]) C dX12_putIndicator_43 rfl (by decide) rfl ?_
      refine m_goto (tgt := 9) C dX12_putIndicator_46 (by decide) ?_
      refine m_lv (lv2 := [(4, .int (iI (k + 1))), (3, .int (iI (4 * t + w1))), (0, .ref h0), (1, .int (iI t)), (2, .int (iI w1))]) [0, 1, 2, 3, 4] rfl ?_
      exact ih (k + 1) _ _ (by omega) (by omega) ev (fun j hj => (funext fun i => up2_k hj).trans (ha j hj)) (hr.set (hr.2 17 _))
set_option maxHeartbeats 4000000 in
set_option maxRecDepth 100000 in
theorem M_putIndicator {l : Launch} {G : GT} {h0 : Nat} {ad ln : Nat → Nat} {v : Nat → Int} {a : Nat → Nat → Int} {t w1 : Int} (hR : RG v a) (ht : 0 ≤ t ∧ t < 30) (hw : 0 ≤ w1 ∧ w1 ≤ 3) (h16 : 0 ≤ a 16 (4 * t + w1).toNat ∧ a 16 (4 * t + w1).toNat ≤ 4) (h25 : 0 ≤ v 25 ∧ v 25 ≤ 6000) : Mm l G yX12_putIndicator cX12_putIndicator 5 none 0 [.int (iI t), .int (iI w1)] h0 ad ln v a 0 0 (fun r v2 a2 => r = none ∧ v2 = va_up v 25 (v 25 + a 16 (4 * t + w1).toNat) ∧ (∀ j, j ≠ 24 → a2 j = a j) ∧ RG v2 a2) := by
  refine Mm.mk (by decide) (Nat.le_of_ble_eq_true rfl) ?_
  intro p e s m args below meth c A C
  refine m_iconst C dX12_putIndicator_0 ?_
  refine m_iload_n (j := 1) C dX12_putIndicator_1 rfl ?_
  refine m_imul C dX12_putIndicator_2 ?_
  refine m_iload_n (j := 2) C dX12_putIndicator_3 rfl ?_
  refine m_iadd C dX12_putIndicator_4 ?_
  refine m_istore_n (lv2 := [(3, .int (iI ((4 * t) + w1))), (0, .ref h0), (1, .int (iI t)), (2, .int (iI w1))]) C dX12_putIndicator_5 (by decide) rfl ?_
  refine m_iconst C dX12_putIndicator_6 ?_
  refine m_istore (lv2 := [(4, .int (iI 0)), (3, .int (iI ((4 * t) + w1))), (0, .ref h0), (1, .int (iI t)), (2, .int (iI w1))]) C dX12_putIndicator_7 (by decide) rfl ?_
  refine m_lv (lv2 := [(4, .int (iI 0)), (3, .int (iI ((4 * t) + w1))), (0, .ref h0), (1, .int (iI t)), (2, .int (iI w1))]) [0, 1, 2, 3, 4] rfl ?_
  exact Lp_putInd ht hw h16 h25 C 6 0 _ _ (by omega) (by omega) rfl (fun j hj => rfl) hR
end
section
theorem m_tabIn {p : Program} {l : Launch} {e : Env} {R : Room} {s : State} {m : MethodId} {args : Array Value} {below : List Frame} {meth : Method} {c : Code} {cc : ByteArray} {y : MethodName} {ret : Option FieldType} {G : GT} {A : Nat → Prop} {nL : Nat} {Q : State → Prop} {h0 : Nat} {ad ln : Nat → Nat} {v : Nat → Int} {a : Nat → Nat → Int} {kc ks pc : Nat} {lv : List (Nat × Value)} {st : List Value} (C : Cq p s m args meth c cc y ret G A nL) {dflt lo hi z off : Int} {offs : Array Int} {len tgt : Nat} (hz : R32 z) (d : decode cc pc = .ok (.tableswitch dflt lo hi offs, len)) (h1 : ¬ z < lo) (h2 : ¬ hi < z) (ho : offs[(z - lo).toNat]? = some off) (ht : (pc : Int) + off = (tgt : Int)) (k : mw p l e R s m args below meth c G A nL Q h0 ad ln v a kc ks tgt lv st) : mw p l e R s m args below meth c G A nL Q h0 ad ln v a kc ks pc lv (.int (iI z) :: st) := fun L E h H locs ls hP hD hS hl => lv_tableIn C.1 C.2.1 d (by rw [iI_int hz]; exact h1) (by rw [iI_int hz]; exact h2) (by rw [iI_int hz]; exact ho) ht (k L E h H locs ls hP hD hS hl)
theorem m_tabOut {p : Program} {l : Launch} {e : Env} {R : Room} {s : State} {m : MethodId} {args : Array Value} {below : List Frame} {meth : Method} {c : Code} {cc : ByteArray} {y : MethodName} {ret : Option FieldType} {G : GT} {A : Nat → Prop} {nL : Nat} {Q : State → Prop} {h0 : Nat} {ad ln : Nat → Nat} {v : Nat → Int} {a : Nat → Nat → Int} {kc ks pc : Nat} {lv : List (Nat × Value)} {st : List Value} (C : Cq p s m args meth c cc y ret G A nL) {dflt lo hi z : Int} {offs : Array Int} {len tgt : Nat} (hz : R32 z) (d : decode cc pc = .ok (.tableswitch dflt lo hi offs, len)) (h1 : z < lo ∨ hi < z) (ht : (pc : Int) + dflt = (tgt : Int)) (k : mw p l e R s m args below meth c G A nL Q h0 ad ln v a kc ks tgt lv st) : mw p l e R s m args below meth c G A nL Q h0 ad ln v a kc ks pc lv (.int (iI z) :: st) := fun L E h H locs ls hP hD hS hl => lv_tableOut C.1 C.2.1 d (by rw [iI_int hz]; exact h1) ht (k L E h H locs ls hP hD hS hl)
set_option maxHeartbeats 4000000 in
set_option maxRecDepth 100000 in
theorem Lp_fits {p : Program} {l : Launch} {e : Env} {s : State} {m : MethodId} {args : Array Value} {below : List Frame} {meth : Method} {c : Code} {G : GT} {A : Nat → Prop} {h0 : Nat} {ad ln : Nat → Nat} {v : Nat → Int} {a : Nat → Nat → Int} {r q u x : Int} (hR : RG v a) (hr : 0 ≤ r ∧ r < 6000) (h12 : 1 ≤ a 12 r.toNat ∧ a 12 r.toNat ≤ 8) (hx : 0 ≤ q ∧ q ≤ x ∧ x < u ∧ u ≤ 500) (C : Cq p s m args meth c cX12_fits yX12_fits (some .boolean) G A 9) : ∀ (n : Nat) (k f : Int), 9 - k < (n : Int) → (0 ≤ k ∧ k ≤ a 12 r.toNat) → (f = 0 ∨ (f = 1 ∧ x + a 12 r.toNat ≤ u)) → mw p l e (rmq 1 0 0) s m args below meth c G A 9 (MQ below (Qm G A (fun rq Lq Eq => ∃ (vq : Nat → Int) (aq : Nat → Nat → Int), mI G h0 ad ln vq aq Lq Eq ∧ (fun r2 v2 a2 => ∃ f : Int, r2 = some (.int (iI f)) ∧ (f = 0 ∨ (f = 1 ∧ x + a 12 r.toNat ≤ u)) ∧ v = v2 ∧ a = a2) rq vq aq)) args s 0 0 A) h0 ad ln v a 0 0 27 [(7, .int (iI k)), (6, .int (iI f)), (5, .int (iI (a 12 r.toNat))), (0, .ref h0), (1, .int (iI r)), (2, .int (iI q)), (3, .int (iI u)), (4, .int (iI x))] [] := by
  intro n
  induction n with
  | zero =>
    intro k f   hm hk hf
    exact absurd hm (by omega)
  | succ n ih =>
    intro k f   hm hk hf
    refine m_iload (j := 0) C dX12_fits_27 rfl ?_
    refine m_iload (j := 2) C dX12_fits_29 rfl ?_
    refine m_icmp_ge (tgt := 77) C ⟨by omega, by omega⟩ ⟨by omega, by omega⟩ dX12_fits_31 (by decide) (fun c1 => ?_) (fun c1 => ?_)
    · refine m_iload (j := 1) C dX12_fits_77 rfl ?_
      refine m_if_ne (tgt := 84) C ⟨by omega, by omega⟩ dX12_fits_79 (by decide) (fun c2 => ?_) (fun c2 => ?_)
      · refine m_iload (j := 7) C dX12_fits_84 rfl ?_
        refine m_iload_n (j := 5) C dX12_fits_86 rfl ?_
        refine m_icmp_ne (tgt := 94) C ⟨by omega, by omega⟩ ⟨by omega, by omega⟩ dX12_fits_87 (by decide) (fun c3 => ?_) (fun c3 => ?_)
        · refine m_iconst C dX12_fits_94 ?_
          refine m_istore (lv2 := [(7, .int (iI 0)), (6, .int (iI f)), (5, .int (iI (a 12 r.toNat))), (0, .ref h0), (1, .int (iI r)), (2, .int (iI q)), (3, .int (iI u)), (4, .int (iI x))]) C dX12_fits_95 (by decide) rfl ?_
          refine m_iload (j := 7) C dX12_fits_97 rfl ?_
          refine m_iload (j := 2) C dX12_fits_99 rfl ?_
          refine m_iadd C dX12_fits_101 ?_
          refine m_iload_n (j := 6) C dX12_fits_102 rfl ?_
          refine m_icmp_ne (tgt := 110) C ⟨by omega, by omega⟩ ⟨by omega, by omega⟩ dX12_fits_103 (by decide) (fun c4 => ?_) (fun c4 => ?_)
          · refine m_iconst C dX12_fits_110 ?_
            refine m_istore (lv2 := [(8, .int (iI 0)), (7, .int (iI 0)), (6, .int (iI f)), (5, .int (iI (a 12 r.toNat))), (0, .ref h0), (1, .int (iI r)), (2, .int (iI q)), (3, .int (iI u)), (4, .int (iI x))]) C dX12_fits_111 (by decide) rfl ?_
            refine m_aload_n (j := 4) C dX12_fits_113 rfl ?_
            refine m_geta (k := 11) C dX12_fits_114 w6_70 (by decide) rfl ?_
            refine m_iload_n (j := 5) C dX12_fits_117 rfl ?_
            refine m_ald (k := 11) C dX12_fits_118 rfl rfl (by decide) (by omega) (by show _ < ((_ : Nat) : Int); simp only [mlen]; omega) (by decide) ?_
            have ra1 := hR.2 11 (r.toNat)
            rcases (show (a 11 r.toNat) = 0 ∨ (a 11 r.toNat) = 1 ∨ (a 11 r.toNat) = 2 ∨ (a 11 r.toNat) = 3 ∨ (a 11 r.toNat) = 4 ∨ ((a 11 r.toNat) < 0 ∨ 4 < (a 11 r.toNat)) by omega) with sw1 | sw1 | sw1 | sw1 | sw1 | sw1
            · refine m_tabIn (tgt := 152) (off := 33) C ⟨by omega, by omega⟩ dX12_fits_119 (by omega) (by omega) (by rw [sw1]; rfl) (by decide) ?_
              refine m_iconst C dX12_fits_152 ?_
              exact m_zret C dX12_fits_153 rfl (Or.inr rfl) (Nat.le_of_ble_eq_true rfl) (Nat.le_of_ble_eq_true rfl) ⟨1, rfl, (by omega), rfl, rfl⟩
            · refine m_tabIn (tgt := 154) (off := 35) C ⟨by omega, by omega⟩ dX12_fits_119 (by omega) (by omega) (by rw [sw1]; rfl) (by decide) ?_
              refine m_iload (j := 1) C dX12_fits_154 rfl ?_
              exact m_zret C dX12_fits_156 rfl (Or.inl rfl) (Nat.le_of_ble_eq_true rfl) (Nat.le_of_ble_eq_true rfl) ⟨0, rfl, (by omega), rfl, rfl⟩
            · refine m_tabIn (tgt := 157) (off := 38) C ⟨by omega, by omega⟩ dX12_fits_119 (by omega) (by omega) (by rw [sw1]; rfl) (by decide) ?_
              refine m_iload (j := 1) C dX12_fits_157 rfl ?_
              refine m_if_ne (tgt := 171) C ⟨by decide, by decide⟩ dX12_fits_159 (by decide) (fun z => absurd z (by omega)) (fun _ => ?_)
              refine m_iload (j := 0) C dX12_fits_162 rfl ?_
              refine m_if_ne (tgt := 171) C ⟨by decide, by decide⟩ dX12_fits_164 (by decide) (fun z => absurd z (by omega)) (fun _ => ?_)
              refine m_iconst C dX12_fits_167 ?_
              refine m_goto (tgt := 172) C dX12_fits_168 (by decide) ?_
              exact m_zret C dX12_fits_172 rfl (Or.inr rfl) (Nat.le_of_ble_eq_true rfl) (Nat.le_of_ble_eq_true rfl) ⟨1, rfl, (by omega), rfl, rfl⟩
            · refine m_tabIn (tgt := 173) (off := 54) C ⟨by omega, by omega⟩ dX12_fits_119 (by omega) (by omega) (by rw [sw1]; rfl) (by decide) ?_
              refine m_iload (j := 0) C dX12_fits_173 rfl ?_
              exact m_zret C dX12_fits_175 rfl (Or.inl rfl) (Nat.le_of_ble_eq_true rfl) (Nat.le_of_ble_eq_true rfl) ⟨0, rfl, (by omega), rfl, rfl⟩
            · refine m_tabIn (tgt := 176) (off := 57) C ⟨by omega, by omega⟩ dX12_fits_119 (by omega) (by omega) (by rw [sw1]; rfl) (by decide) ?_
              refine m_iload (j := 1) C dX12_fits_176 rfl ?_
              refine m_if_eq (tgt := 190) C ⟨by decide, by decide⟩ dX12_fits_178 (by decide) (fun _ => ?_) (fun z => absurd z (by omega))
              refine m_iconst C dX12_fits_190 ?_
              exact m_zret C dX12_fits_191 rfl (Or.inl rfl) (Nat.le_of_ble_eq_true rfl) (Nat.le_of_ble_eq_true rfl) ⟨0, rfl, (by omega), rfl, rfl⟩
            · refine m_tabOut (tgt := 192) C ⟨by omega, by omega⟩ dX12_fits_119 sw1 (by decide) ?_
              refine m_iload (j := 0) C dX12_fits_192 rfl ?_
              refine m_if_ne (tgt := 249) C ⟨by decide, by decide⟩ dX12_fits_194 (by decide) (fun z => absurd z (by omega)) (fun _ => ?_)
              refine m_aload_n (j := 4) C dX12_fits_197 rfl ?_
              refine m_geta (k := 20) C dX12_fits_198 w6_79 (by decide) rfl ?_
              refine m_iload (j := 8) C dX12_fits_201 rfl ?_
              refine m_iload (j := 3) C dX12_fits_203 rfl ?_
              refine m_iadd C dX12_fits_205 ?_
              refine m_ald (k := 20) C dX12_fits_206 rfl rfl (by decide) (by omega) (by show _ < ((_ : Nat) : Int); simp only [mlen]; omega) (by decide) ?_
              have ra2 := hR.2 20 ((x + (a 12 r.toNat)).toNat)
              refine m_callS (As := [.int (iI (a 20 (x + (a 12 r.toNat)).toNat))]) (rest := []) C (fun L E => s_isDigit (iI (a 20 (x + (a 12 r.toNat)).toNat))) dX12_fits_207 kS_X12_202 rfl rfl (Nat.le_of_ble_eq_true rfl) ⟨Nat.le_of_ble_eq_true rfl, Nat.le_of_ble_eq_true rfl⟩ ⟨Nat.le_of_ble_eq_true rfl, Nat.le_of_ble_eq_true rfl⟩ ?_
              rcases inn_c (x := a 20 (x + (a 12 r.toNat)).toNat) (lo := 48) (hi := 57) ⟨by omega, by omega⟩ ⟨by decide, by decide⟩ ⟨by decide, by decide⟩ with ⟨h1a, h1b, h1e⟩ | ⟨h1a, h1e⟩
              · refine m_st (st2 := [.int (iI 1)]) (by rw [show inn (iI (a 20 (x + (a 12 r.toNat)).toNat)) 48 57 = iI 1 from h1e]) ?_
                refine m_if_ne (tgt := 249) C ⟨by decide, by decide⟩ dX12_fits_210 (by decide) (fun _ => ?_) (fun z => absurd z (by omega))
                refine m_iconst C dX12_fits_249 ?_
                exact m_zret C dX12_fits_250 rfl (Or.inl rfl) (Nat.le_of_ble_eq_true rfl) (Nat.le_of_ble_eq_true rfl) ⟨0, rfl, (by omega), rfl, rfl⟩
              · refine m_st (st2 := [.int (iI 0)]) (by rw [show inn (iI (a 20 (x + (a 12 r.toNat)).toNat)) 48 57 = iI 0 from h1e]) ?_
                refine m_if_ne (tgt := 249) C ⟨by decide, by decide⟩ dX12_fits_210 (by decide) (fun z => absurd z (by omega)) (fun _ => ?_)
                refine m_aload_n (j := 4) C dX12_fits_213 rfl ?_
                refine m_geta (k := 20) C dX12_fits_214 w6_79 (by decide) rfl ?_
                refine m_iload (j := 8) C dX12_fits_217 rfl ?_
                refine m_iload (j := 3) C dX12_fits_219 rfl ?_
                refine m_iadd C dX12_fits_221 ?_
                refine m_ald (k := 20) C dX12_fits_222 rfl rfl (by decide) (by omega) (by show _ < ((_ : Nat) : Int); simp only [mlen]; omega) (by decide) ?_
                have ra3 := hR.2 20 ((x + (a 12 r.toNat)).toNat)
                refine m_callS (As := [.int (iI (a 20 (x + (a 12 r.toNat)).toNat))]) (rest := []) C (fun L E => s_isGreat (iI (a 20 (x + (a 12 r.toNat)).toNat))) dX12_fits_223 kS_X12_205 rfl rfl (Nat.le_of_ble_eq_true rfl) ⟨Nat.le_of_ble_eq_true rfl, Nat.le_of_ble_eq_true rfl⟩ ⟨Nat.le_of_ble_eq_true rfl, Nat.le_of_ble_eq_true rfl⟩ ?_
                rcases inn_c (x := a 20 (x + (a 12 r.toNat)).toNat) (lo := 65) (hi := 90) ⟨by omega, by omega⟩ ⟨by decide, by decide⟩ ⟨by decide, by decide⟩ with ⟨h2a, h2b, h2e⟩ | ⟨h2a, h2e⟩
                · refine m_st (st2 := [.int (iI 1)]) (by rw [show inn (iI (a 20 (x + (a 12 r.toNat)).toNat)) 65 90 = iI 1 from h2e]) ?_
                  refine m_if_ne (tgt := 249) C ⟨by decide, by decide⟩ dX12_fits_226 (by decide) (fun _ => ?_) (fun z => absurd z (by omega))
                  refine m_iconst C dX12_fits_249 ?_
                  exact m_zret C dX12_fits_250 rfl (Or.inl rfl) (Nat.le_of_ble_eq_true rfl) (Nat.le_of_ble_eq_true rfl) ⟨0, rfl, (by omega), rfl, rfl⟩
                · refine m_st (st2 := [.int (iI 0)]) (by rw [show inn (iI (a 20 (x + (a 12 r.toNat)).toNat)) 65 90 = iI 0 from h2e]) ?_
                  refine m_if_ne (tgt := 249) C ⟨by decide, by decide⟩ dX12_fits_226 (by decide) (fun z => absurd z (by omega)) (fun _ => ?_)
                  refine m_aload_n (j := 4) C dX12_fits_229 rfl ?_
                  refine m_geta (k := 20) C dX12_fits_230 w6_79 (by decide) rfl ?_
                  refine m_iload (j := 8) C dX12_fits_233 rfl ?_
                  refine m_iload (j := 3) C dX12_fits_235 rfl ?_
                  refine m_iadd C dX12_fits_237 ?_
                  refine m_ald (k := 20) C dX12_fits_238 rfl rfl (by decide) (by omega) (by show _ < ((_ : Nat) : Int); simp only [mlen]; omega) (by decide) ?_
                  have ra4 := hR.2 20 ((x + (a 12 r.toNat)).toNat)
                  refine m_callS (As := [.int (iI (a 20 (x + (a 12 r.toNat)).toNat))]) (rest := []) C (fun L E => s_isSmall (iI (a 20 (x + (a 12 r.toNat)).toNat))) dX12_fits_239 kS_X12_208 rfl rfl (Nat.le_of_ble_eq_true rfl) ⟨Nat.le_of_ble_eq_true rfl, Nat.le_of_ble_eq_true rfl⟩ ⟨Nat.le_of_ble_eq_true rfl, Nat.le_of_ble_eq_true rfl⟩ ?_
                  rcases inn_c (x := a 20 (x + (a 12 r.toNat)).toNat) (lo := 97) (hi := 122) ⟨by omega, by omega⟩ ⟨by decide, by decide⟩ ⟨by decide, by decide⟩ with ⟨h3a, h3b, h3e⟩ | ⟨h3a, h3e⟩
                  · refine m_st (st2 := [.int (iI 1)]) (by rw [show inn (iI (a 20 (x + (a 12 r.toNat)).toNat)) 97 122 = iI 1 from h3e]) ?_
                    refine m_if_ne (tgt := 249) C ⟨by decide, by decide⟩ dX12_fits_242 (by decide) (fun _ => ?_) (fun z => absurd z (by omega))
                    refine m_iconst C dX12_fits_249 ?_
                    exact m_zret C dX12_fits_250 rfl (Or.inl rfl) (Nat.le_of_ble_eq_true rfl) (Nat.le_of_ble_eq_true rfl) ⟨0, rfl, (by omega), rfl, rfl⟩
                  · refine m_st (st2 := [.int (iI 0)]) (by rw [show inn (iI (a 20 (x + (a 12 r.toNat)).toNat)) 97 122 = iI 0 from h3e]) ?_
                    refine m_if_ne (tgt := 249) C ⟨by decide, by decide⟩ dX12_fits_242 (by decide) (fun z => absurd z (by omega)) (fun _ => ?_)
                    refine m_iconst C dX12_fits_245 ?_
                    refine m_goto (tgt := 250) C dX12_fits_246 (by decide) ?_
                    exact m_zret C dX12_fits_250 rfl (Or.inr rfl) (Nat.le_of_ble_eq_true rfl) (Nat.le_of_ble_eq_true rfl) ⟨1, rfl, (by omega), rfl, rfl⟩
          · refine m_iconst C dX12_fits_106 ?_
            refine m_goto (tgt := 111) C dX12_fits_107 (by decide) ?_
            refine m_istore (lv2 := [(8, .int (iI 1)), (7, .int (iI 0)), (6, .int (iI f)), (5, .int (iI (a 12 r.toNat))), (0, .ref h0), (1, .int (iI r)), (2, .int (iI q)), (3, .int (iI u)), (4, .int (iI x))]) C dX12_fits_111 (by decide) rfl ?_
            refine m_aload_n (j := 4) C dX12_fits_113 rfl ?_
            refine m_geta (k := 11) C dX12_fits_114 w6_70 (by decide) rfl ?_
            refine m_iload_n (j := 5) C dX12_fits_117 rfl ?_
            refine m_ald (k := 11) C dX12_fits_118 rfl rfl (by decide) (by omega) (by show _ < ((_ : Nat) : Int); simp only [mlen]; omega) (by decide) ?_
            have ra5 := hR.2 11 (r.toNat)
            rcases (show (a 11 r.toNat) = 0 ∨ (a 11 r.toNat) = 1 ∨ (a 11 r.toNat) = 2 ∨ (a 11 r.toNat) = 3 ∨ (a 11 r.toNat) = 4 ∨ ((a 11 r.toNat) < 0 ∨ 4 < (a 11 r.toNat)) by omega) with sw2 | sw2 | sw2 | sw2 | sw2 | sw2
            · refine m_tabIn (tgt := 152) (off := 33) C ⟨by omega, by omega⟩ dX12_fits_119 (by omega) (by omega) (by rw [sw2]; rfl) (by decide) ?_
              refine m_iconst C dX12_fits_152 ?_
              exact m_zret C dX12_fits_153 rfl (Or.inr rfl) (Nat.le_of_ble_eq_true rfl) (Nat.le_of_ble_eq_true rfl) ⟨1, rfl, (by omega), rfl, rfl⟩
            · refine m_tabIn (tgt := 154) (off := 35) C ⟨by omega, by omega⟩ dX12_fits_119 (by omega) (by omega) (by rw [sw2]; rfl) (by decide) ?_
              refine m_iload (j := 1) C dX12_fits_154 rfl ?_
              exact m_zret C dX12_fits_156 rfl (Or.inl rfl) (Nat.le_of_ble_eq_true rfl) (Nat.le_of_ble_eq_true rfl) ⟨0, rfl, (by omega), rfl, rfl⟩
            · refine m_tabIn (tgt := 157) (off := 38) C ⟨by omega, by omega⟩ dX12_fits_119 (by omega) (by omega) (by rw [sw2]; rfl) (by decide) ?_
              refine m_iload (j := 1) C dX12_fits_157 rfl ?_
              refine m_if_ne (tgt := 171) C ⟨by decide, by decide⟩ dX12_fits_159 (by decide) (fun z => absurd z (by omega)) (fun _ => ?_)
              refine m_iload (j := 0) C dX12_fits_162 rfl ?_
              refine m_if_ne (tgt := 171) C ⟨by decide, by decide⟩ dX12_fits_164 (by decide) (fun _ => ?_) (fun z => absurd z (by omega))
              refine m_iconst C dX12_fits_171 ?_
              exact m_zret C dX12_fits_172 rfl (Or.inl rfl) (Nat.le_of_ble_eq_true rfl) (Nat.le_of_ble_eq_true rfl) ⟨0, rfl, (by omega), rfl, rfl⟩
            · refine m_tabIn (tgt := 173) (off := 54) C ⟨by omega, by omega⟩ dX12_fits_119 (by omega) (by omega) (by rw [sw2]; rfl) (by decide) ?_
              refine m_iload (j := 0) C dX12_fits_173 rfl ?_
              exact m_zret C dX12_fits_175 rfl (Or.inr rfl) (Nat.le_of_ble_eq_true rfl) (Nat.le_of_ble_eq_true rfl) ⟨1, rfl, (by omega), rfl, rfl⟩
            · refine m_tabIn (tgt := 176) (off := 57) C ⟨by omega, by omega⟩ dX12_fits_119 (by omega) (by omega) (by rw [sw2]; rfl) (by decide) ?_
              refine m_iload (j := 1) C dX12_fits_176 rfl ?_
              refine m_if_eq (tgt := 190) C ⟨by decide, by decide⟩ dX12_fits_178 (by decide) (fun _ => ?_) (fun z => absurd z (by omega))
              refine m_iconst C dX12_fits_190 ?_
              exact m_zret C dX12_fits_191 rfl (Or.inl rfl) (Nat.le_of_ble_eq_true rfl) (Nat.le_of_ble_eq_true rfl) ⟨0, rfl, (by omega), rfl, rfl⟩
            · refine m_tabOut (tgt := 192) C ⟨by omega, by omega⟩ dX12_fits_119 sw2 (by decide) ?_
              refine m_iload (j := 0) C dX12_fits_192 rfl ?_
              refine m_if_ne (tgt := 249) C ⟨by decide, by decide⟩ dX12_fits_194 (by decide) (fun _ => ?_) (fun z => absurd z (by omega))
              refine m_iconst C dX12_fits_249 ?_
              exact m_zret C dX12_fits_250 rfl (Or.inl rfl) (Nat.le_of_ble_eq_true rfl) (Nat.le_of_ble_eq_true rfl) ⟨0, rfl, (by omega), rfl, rfl⟩
        · refine m_iconst C dX12_fits_90 ?_
          refine m_goto (tgt := 95) C dX12_fits_91 (by decide) ?_
          refine m_istore (lv2 := [(7, .int (iI 1)), (6, .int (iI f)), (5, .int (iI (a 12 r.toNat))), (0, .ref h0), (1, .int (iI r)), (2, .int (iI q)), (3, .int (iI u)), (4, .int (iI x))]) C dX12_fits_95 (by decide) rfl ?_
          refine m_iload (j := 7) C dX12_fits_97 rfl ?_
          refine m_iload (j := 2) C dX12_fits_99 rfl ?_
          refine m_iadd C dX12_fits_101 ?_
          refine m_iload_n (j := 6) C dX12_fits_102 rfl ?_
          refine m_icmp_ne (tgt := 110) C ⟨by omega, by omega⟩ ⟨by omega, by omega⟩ dX12_fits_103 (by decide) (fun c5 => ?_) (fun c5 => ?_)
          · refine m_iconst C dX12_fits_110 ?_
            refine m_istore (lv2 := [(8, .int (iI 0)), (7, .int (iI 1)), (6, .int (iI f)), (5, .int (iI (a 12 r.toNat))), (0, .ref h0), (1, .int (iI r)), (2, .int (iI q)), (3, .int (iI u)), (4, .int (iI x))]) C dX12_fits_111 (by decide) rfl ?_
            refine m_aload_n (j := 4) C dX12_fits_113 rfl ?_
            refine m_geta (k := 11) C dX12_fits_114 w6_70 (by decide) rfl ?_
            refine m_iload_n (j := 5) C dX12_fits_117 rfl ?_
            refine m_ald (k := 11) C dX12_fits_118 rfl rfl (by decide) (by omega) (by show _ < ((_ : Nat) : Int); simp only [mlen]; omega) (by decide) ?_
            have ra6 := hR.2 11 (r.toNat)
            rcases (show (a 11 r.toNat) = 0 ∨ (a 11 r.toNat) = 1 ∨ (a 11 r.toNat) = 2 ∨ (a 11 r.toNat) = 3 ∨ (a 11 r.toNat) = 4 ∨ ((a 11 r.toNat) < 0 ∨ 4 < (a 11 r.toNat)) by omega) with sw3 | sw3 | sw3 | sw3 | sw3 | sw3
            · refine m_tabIn (tgt := 152) (off := 33) C ⟨by omega, by omega⟩ dX12_fits_119 (by omega) (by omega) (by rw [sw3]; rfl) (by decide) ?_
              refine m_iconst C dX12_fits_152 ?_
              exact m_zret C dX12_fits_153 rfl (Or.inr rfl) (Nat.le_of_ble_eq_true rfl) (Nat.le_of_ble_eq_true rfl) ⟨1, rfl, (by omega), rfl, rfl⟩
            · refine m_tabIn (tgt := 154) (off := 35) C ⟨by omega, by omega⟩ dX12_fits_119 (by omega) (by omega) (by rw [sw3]; rfl) (by decide) ?_
              refine m_iload (j := 1) C dX12_fits_154 rfl ?_
              exact m_zret C dX12_fits_156 rfl (Or.inr rfl) (Nat.le_of_ble_eq_true rfl) (Nat.le_of_ble_eq_true rfl) ⟨1, rfl, (by omega), rfl, rfl⟩
            · refine m_tabIn (tgt := 157) (off := 38) C ⟨by omega, by omega⟩ dX12_fits_119 (by omega) (by omega) (by rw [sw3]; rfl) (by decide) ?_
              refine m_iload (j := 1) C dX12_fits_157 rfl ?_
              refine m_if_ne (tgt := 171) C ⟨by decide, by decide⟩ dX12_fits_159 (by decide) (fun _ => ?_) (fun z => absurd z (by omega))
              refine m_iconst C dX12_fits_171 ?_
              exact m_zret C dX12_fits_172 rfl (Or.inl rfl) (Nat.le_of_ble_eq_true rfl) (Nat.le_of_ble_eq_true rfl) ⟨0, rfl, (by omega), rfl, rfl⟩
            · refine m_tabIn (tgt := 173) (off := 54) C ⟨by omega, by omega⟩ dX12_fits_119 (by omega) (by omega) (by rw [sw3]; rfl) (by decide) ?_
              refine m_iload (j := 0) C dX12_fits_173 rfl ?_
              exact m_zret C dX12_fits_175 rfl (Or.inl rfl) (Nat.le_of_ble_eq_true rfl) (Nat.le_of_ble_eq_true rfl) ⟨0, rfl, (by omega), rfl, rfl⟩
            · refine m_tabIn (tgt := 176) (off := 57) C ⟨by omega, by omega⟩ dX12_fits_119 (by omega) (by omega) (by rw [sw3]; rfl) (by decide) ?_
              refine m_iload (j := 1) C dX12_fits_176 rfl ?_
              refine m_if_eq (tgt := 190) C ⟨by decide, by decide⟩ dX12_fits_178 (by decide) (fun z => absurd z (by omega)) (fun _ => ?_)
              refine m_iload (j := 0) C dX12_fits_181 rfl ?_
              refine m_if_eq (tgt := 190) C ⟨by decide, by decide⟩ dX12_fits_183 (by decide) (fun _ => ?_) (fun z => absurd z (by omega))
              refine m_iconst C dX12_fits_190 ?_
              exact m_zret C dX12_fits_191 rfl (Or.inl rfl) (Nat.le_of_ble_eq_true rfl) (Nat.le_of_ble_eq_true rfl) ⟨0, rfl, (by omega), rfl, rfl⟩
            · refine m_tabOut (tgt := 192) C ⟨by omega, by omega⟩ dX12_fits_119 sw3 (by decide) ?_
              refine m_iload (j := 0) C dX12_fits_192 rfl ?_
              refine m_if_ne (tgt := 249) C ⟨by decide, by decide⟩ dX12_fits_194 (by decide) (fun z => absurd z (by omega)) (fun _ => ?_)
              refine m_aload_n (j := 4) C dX12_fits_197 rfl ?_
              refine m_geta (k := 20) C dX12_fits_198 w6_79 (by decide) rfl ?_
              refine m_iload (j := 8) C dX12_fits_201 rfl ?_
              refine m_iload (j := 3) C dX12_fits_203 rfl ?_
              refine m_iadd C dX12_fits_205 ?_
              refine m_ald (k := 20) C dX12_fits_206 rfl rfl (by decide) (by omega) (by show _ < ((_ : Nat) : Int); simp only [mlen]; omega) (by decide) ?_
              have ra7 := hR.2 20 ((x + (a 12 r.toNat)).toNat)
              refine m_callS (As := [.int (iI (a 20 (x + (a 12 r.toNat)).toNat))]) (rest := []) C (fun L E => s_isDigit (iI (a 20 (x + (a 12 r.toNat)).toNat))) dX12_fits_207 kS_X12_202 rfl rfl (Nat.le_of_ble_eq_true rfl) ⟨Nat.le_of_ble_eq_true rfl, Nat.le_of_ble_eq_true rfl⟩ ⟨Nat.le_of_ble_eq_true rfl, Nat.le_of_ble_eq_true rfl⟩ ?_
              rcases inn_c (x := a 20 (x + (a 12 r.toNat)).toNat) (lo := 48) (hi := 57) ⟨by omega, by omega⟩ ⟨by decide, by decide⟩ ⟨by decide, by decide⟩ with ⟨h4a, h4b, h4e⟩ | ⟨h4a, h4e⟩
              · refine m_st (st2 := [.int (iI 1)]) (by rw [show inn (iI (a 20 (x + (a 12 r.toNat)).toNat)) 48 57 = iI 1 from h4e]) ?_
                refine m_if_ne (tgt := 249) C ⟨by decide, by decide⟩ dX12_fits_210 (by decide) (fun _ => ?_) (fun z => absurd z (by omega))
                refine m_iconst C dX12_fits_249 ?_
                exact m_zret C dX12_fits_250 rfl (Or.inl rfl) (Nat.le_of_ble_eq_true rfl) (Nat.le_of_ble_eq_true rfl) ⟨0, rfl, (by omega), rfl, rfl⟩
              · refine m_st (st2 := [.int (iI 0)]) (by rw [show inn (iI (a 20 (x + (a 12 r.toNat)).toNat)) 48 57 = iI 0 from h4e]) ?_
                refine m_if_ne (tgt := 249) C ⟨by decide, by decide⟩ dX12_fits_210 (by decide) (fun z => absurd z (by omega)) (fun _ => ?_)
                refine m_aload_n (j := 4) C dX12_fits_213 rfl ?_
                refine m_geta (k := 20) C dX12_fits_214 w6_79 (by decide) rfl ?_
                refine m_iload (j := 8) C dX12_fits_217 rfl ?_
                refine m_iload (j := 3) C dX12_fits_219 rfl ?_
                refine m_iadd C dX12_fits_221 ?_
                refine m_ald (k := 20) C dX12_fits_222 rfl rfl (by decide) (by omega) (by show _ < ((_ : Nat) : Int); simp only [mlen]; omega) (by decide) ?_
                have ra8 := hR.2 20 ((x + (a 12 r.toNat)).toNat)
                refine m_callS (As := [.int (iI (a 20 (x + (a 12 r.toNat)).toNat))]) (rest := []) C (fun L E => s_isGreat (iI (a 20 (x + (a 12 r.toNat)).toNat))) dX12_fits_223 kS_X12_205 rfl rfl (Nat.le_of_ble_eq_true rfl) ⟨Nat.le_of_ble_eq_true rfl, Nat.le_of_ble_eq_true rfl⟩ ⟨Nat.le_of_ble_eq_true rfl, Nat.le_of_ble_eq_true rfl⟩ ?_
                rcases inn_c (x := a 20 (x + (a 12 r.toNat)).toNat) (lo := 65) (hi := 90) ⟨by omega, by omega⟩ ⟨by decide, by decide⟩ ⟨by decide, by decide⟩ with ⟨h5a, h5b, h5e⟩ | ⟨h5a, h5e⟩
                · refine m_st (st2 := [.int (iI 1)]) (by rw [show inn (iI (a 20 (x + (a 12 r.toNat)).toNat)) 65 90 = iI 1 from h5e]) ?_
                  refine m_if_ne (tgt := 249) C ⟨by decide, by decide⟩ dX12_fits_226 (by decide) (fun _ => ?_) (fun z => absurd z (by omega))
                  refine m_iconst C dX12_fits_249 ?_
                  exact m_zret C dX12_fits_250 rfl (Or.inl rfl) (Nat.le_of_ble_eq_true rfl) (Nat.le_of_ble_eq_true rfl) ⟨0, rfl, (by omega), rfl, rfl⟩
                · refine m_st (st2 := [.int (iI 0)]) (by rw [show inn (iI (a 20 (x + (a 12 r.toNat)).toNat)) 65 90 = iI 0 from h5e]) ?_
                  refine m_if_ne (tgt := 249) C ⟨by decide, by decide⟩ dX12_fits_226 (by decide) (fun z => absurd z (by omega)) (fun _ => ?_)
                  refine m_aload_n (j := 4) C dX12_fits_229 rfl ?_
                  refine m_geta (k := 20) C dX12_fits_230 w6_79 (by decide) rfl ?_
                  refine m_iload (j := 8) C dX12_fits_233 rfl ?_
                  refine m_iload (j := 3) C dX12_fits_235 rfl ?_
                  refine m_iadd C dX12_fits_237 ?_
                  refine m_ald (k := 20) C dX12_fits_238 rfl rfl (by decide) (by omega) (by show _ < ((_ : Nat) : Int); simp only [mlen]; omega) (by decide) ?_
                  have ra9 := hR.2 20 ((x + (a 12 r.toNat)).toNat)
                  refine m_callS (As := [.int (iI (a 20 (x + (a 12 r.toNat)).toNat))]) (rest := []) C (fun L E => s_isSmall (iI (a 20 (x + (a 12 r.toNat)).toNat))) dX12_fits_239 kS_X12_208 rfl rfl (Nat.le_of_ble_eq_true rfl) ⟨Nat.le_of_ble_eq_true rfl, Nat.le_of_ble_eq_true rfl⟩ ⟨Nat.le_of_ble_eq_true rfl, Nat.le_of_ble_eq_true rfl⟩ ?_
                  rcases inn_c (x := a 20 (x + (a 12 r.toNat)).toNat) (lo := 97) (hi := 122) ⟨by omega, by omega⟩ ⟨by decide, by decide⟩ ⟨by decide, by decide⟩ with ⟨h6a, h6b, h6e⟩ | ⟨h6a, h6e⟩
                  · refine m_st (st2 := [.int (iI 1)]) (by rw [show inn (iI (a 20 (x + (a 12 r.toNat)).toNat)) 97 122 = iI 1 from h6e]) ?_
                    refine m_if_ne (tgt := 249) C ⟨by decide, by decide⟩ dX12_fits_242 (by decide) (fun _ => ?_) (fun z => absurd z (by omega))
                    refine m_iconst C dX12_fits_249 ?_
                    exact m_zret C dX12_fits_250 rfl (Or.inl rfl) (Nat.le_of_ble_eq_true rfl) (Nat.le_of_ble_eq_true rfl) ⟨0, rfl, (by omega), rfl, rfl⟩
                  · refine m_st (st2 := [.int (iI 0)]) (by rw [show inn (iI (a 20 (x + (a 12 r.toNat)).toNat)) 97 122 = iI 0 from h6e]) ?_
                    refine m_if_ne (tgt := 249) C ⟨by decide, by decide⟩ dX12_fits_242 (by decide) (fun z => absurd z (by omega)) (fun _ => ?_)
                    refine m_iconst C dX12_fits_245 ?_
                    refine m_goto (tgt := 250) C dX12_fits_246 (by decide) ?_
                    exact m_zret C dX12_fits_250 rfl (Or.inr rfl) (Nat.le_of_ble_eq_true rfl) (Nat.le_of_ble_eq_true rfl) ⟨1, rfl, (by omega), rfl, rfl⟩
          · refine m_iconst C dX12_fits_106 ?_
            refine m_goto (tgt := 111) C dX12_fits_107 (by decide) ?_
            refine m_istore (lv2 := [(8, .int (iI 1)), (7, .int (iI 1)), (6, .int (iI f)), (5, .int (iI (a 12 r.toNat))), (0, .ref h0), (1, .int (iI r)), (2, .int (iI q)), (3, .int (iI u)), (4, .int (iI x))]) C dX12_fits_111 (by decide) rfl ?_
            refine m_aload_n (j := 4) C dX12_fits_113 rfl ?_
            refine m_geta (k := 11) C dX12_fits_114 w6_70 (by decide) rfl ?_
            refine m_iload_n (j := 5) C dX12_fits_117 rfl ?_
            refine m_ald (k := 11) C dX12_fits_118 rfl rfl (by decide) (by omega) (by show _ < ((_ : Nat) : Int); simp only [mlen]; omega) (by decide) ?_
            have ra10 := hR.2 11 (r.toNat)
            rcases (show (a 11 r.toNat) = 0 ∨ (a 11 r.toNat) = 1 ∨ (a 11 r.toNat) = 2 ∨ (a 11 r.toNat) = 3 ∨ (a 11 r.toNat) = 4 ∨ ((a 11 r.toNat) < 0 ∨ 4 < (a 11 r.toNat)) by omega) with sw4 | sw4 | sw4 | sw4 | sw4 | sw4
            · refine m_tabIn (tgt := 152) (off := 33) C ⟨by omega, by omega⟩ dX12_fits_119 (by omega) (by omega) (by rw [sw4]; rfl) (by decide) ?_
              refine m_iconst C dX12_fits_152 ?_
              exact m_zret C dX12_fits_153 rfl (Or.inr rfl) (Nat.le_of_ble_eq_true rfl) (Nat.le_of_ble_eq_true rfl) ⟨1, rfl, (by omega), rfl, rfl⟩
            · refine m_tabIn (tgt := 154) (off := 35) C ⟨by omega, by omega⟩ dX12_fits_119 (by omega) (by omega) (by rw [sw4]; rfl) (by decide) ?_
              refine m_iload (j := 1) C dX12_fits_154 rfl ?_
              exact m_zret C dX12_fits_156 rfl (Or.inr rfl) (Nat.le_of_ble_eq_true rfl) (Nat.le_of_ble_eq_true rfl) ⟨1, rfl, (by omega), rfl, rfl⟩
            · refine m_tabIn (tgt := 157) (off := 38) C ⟨by omega, by omega⟩ dX12_fits_119 (by omega) (by omega) (by rw [sw4]; rfl) (by decide) ?_
              refine m_iload (j := 1) C dX12_fits_157 rfl ?_
              refine m_if_ne (tgt := 171) C ⟨by decide, by decide⟩ dX12_fits_159 (by decide) (fun _ => ?_) (fun z => absurd z (by omega))
              refine m_iconst C dX12_fits_171 ?_
              exact m_zret C dX12_fits_172 rfl (Or.inl rfl) (Nat.le_of_ble_eq_true rfl) (Nat.le_of_ble_eq_true rfl) ⟨0, rfl, (by omega), rfl, rfl⟩
            · refine m_tabIn (tgt := 173) (off := 54) C ⟨by omega, by omega⟩ dX12_fits_119 (by omega) (by omega) (by rw [sw4]; rfl) (by decide) ?_
              refine m_iload (j := 0) C dX12_fits_173 rfl ?_
              exact m_zret C dX12_fits_175 rfl (Or.inr rfl) (Nat.le_of_ble_eq_true rfl) (Nat.le_of_ble_eq_true rfl) ⟨1, rfl, (by omega), rfl, rfl⟩
            · refine m_tabIn (tgt := 176) (off := 57) C ⟨by omega, by omega⟩ dX12_fits_119 (by omega) (by omega) (by rw [sw4]; rfl) (by decide) ?_
              refine m_iload (j := 1) C dX12_fits_176 rfl ?_
              refine m_if_eq (tgt := 190) C ⟨by decide, by decide⟩ dX12_fits_178 (by decide) (fun z => absurd z (by omega)) (fun _ => ?_)
              refine m_iload (j := 0) C dX12_fits_181 rfl ?_
              refine m_if_eq (tgt := 190) C ⟨by decide, by decide⟩ dX12_fits_183 (by decide) (fun z => absurd z (by omega)) (fun _ => ?_)
              refine m_iconst C dX12_fits_186 ?_
              refine m_goto (tgt := 191) C dX12_fits_187 (by decide) ?_
              exact m_zret C dX12_fits_191 rfl (Or.inr rfl) (Nat.le_of_ble_eq_true rfl) (Nat.le_of_ble_eq_true rfl) ⟨1, rfl, (by omega), rfl, rfl⟩
            · refine m_tabOut (tgt := 192) C ⟨by omega, by omega⟩ dX12_fits_119 sw4 (by decide) ?_
              refine m_iload (j := 0) C dX12_fits_192 rfl ?_
              refine m_if_ne (tgt := 249) C ⟨by decide, by decide⟩ dX12_fits_194 (by decide) (fun _ => ?_) (fun z => absurd z (by omega))
              refine m_iconst C dX12_fits_249 ?_
              exact m_zret C dX12_fits_250 rfl (Or.inl rfl) (Nat.le_of_ble_eq_true rfl) (Nat.le_of_ble_eq_true rfl) ⟨0, rfl, (by omega), rfl, rfl⟩
      · refine m_iconst C dX12_fits_82 ?_
        exact m_zret C dX12_fits_83 rfl (Or.inl rfl) (Nat.le_of_ble_eq_true rfl) (Nat.le_of_ble_eq_true rfl) ⟨0, rfl, (by omega), rfl, rfl⟩
    · refine m_iload (j := 1) C dX12_fits_34 rfl ?_
      refine m_if_eq (tgt := 77) C ⟨by omega, by omega⟩ dX12_fits_36 (by decide) (fun c6 => ?_) (fun c6 => ?_)
      · refine m_iload (j := 1) C dX12_fits_77 rfl ?_
        refine m_if_ne (tgt := 84) C ⟨by omega, by omega⟩ dX12_fits_79 (by decide) (fun z => absurd z (by omega)) (fun _ => ?_)
        refine m_iconst C dX12_fits_82 ?_
        exact m_zret C dX12_fits_83 rfl (Or.inl rfl) (Nat.le_of_ble_eq_true rfl) (Nat.le_of_ble_eq_true rfl) ⟨0, rfl, (by omega), rfl, rfl⟩
      · refine m_aload_n (j := 3) C dX12_fits_39 rfl ?_
        refine m_geta (k := 14) C dX12_fits_40 w6_73 (by decide) rfl ?_
        refine m_bipush (z := 8) C dX12_fits_43 (by decide) ?_
        refine m_iload_n (j := 4) C dX12_fits_45 rfl ?_
        refine m_imul C dX12_fits_46 ?_
        refine m_iload (j := 0) C dX12_fits_47 rfl ?_
        refine m_iadd C dX12_fits_49 ?_
        refine m_ald (k := 14) C dX12_fits_50 rfl rfl (by decide) (by omega) (by show _ < ((_ : Nat) : Int); simp only [mlen]; omega) (by decide) ?_
        have ra11 := hR.2 14 (((8 * r) + k).toNat)
        refine m_aload_n (j := 3) C dX12_fits_51 rfl ?_
        refine m_geta (k := 20) C dX12_fits_52 w6_79 (by decide) rfl ?_
        refine m_iload (j := 7) C dX12_fits_55 rfl ?_
        refine m_iload (j := 0) C dX12_fits_57 rfl ?_
        refine m_iadd C dX12_fits_59 ?_
        refine m_ald (k := 20) C dX12_fits_60 rfl rfl (by decide) (by omega) (by show _ < ((_ : Nat) : Int); simp only [mlen]; omega) (by decide) ?_
        have ra12 := hR.2 20 ((x + k).toNat)
        refine m_icmp_ne (tgt := 68) C ⟨by omega, by omega⟩ ⟨by omega, by omega⟩ dX12_fits_61 (by decide) (fun c7 => ?_) (fun c7 => ?_)
        · refine m_iconst C dX12_fits_68 ?_
          refine m_istore (lv2 := [(6, .int (iI 0)), (7, .int (iI k)), (5, .int (iI (a 12 r.toNat))), (0, .ref h0), (1, .int (iI r)), (2, .int (iI q)), (3, .int (iI u)), (4, .int (iI x))]) C dX12_fits_69 (by decide) rfl ?_
          refine m_iinc (z := k) (j := 1) (lv2 := [(7, .int (iI (k + 1))), (6, .int (iI 0)), (5, .int (iI (a 12 r.toNat))), (0, .ref h0), (1, .int (iI r)), (2, .int (iI q)), (3, .int (iI u)), (4, .int (iI x))]) C dX12_fits_71 rfl (by decide) rfl ?_
          refine m_goto (tgt := 27) C dX12_fits_74 (by decide) ?_
          refine m_lv (lv2 := [(7, .int (iI (k + 1))), (6, .int (iI 0)), (5, .int (iI (a 12 r.toNat))), (0, .ref h0), (1, .int (iI r)), (2, .int (iI q)), (3, .int (iI u)), (4, .int (iI x))]) [0, 1, 2, 3, 4, 5, 6, 7] rfl ?_
          exact ih (k + 1) 0 (by omega) (by omega) (by omega)
        · refine m_iconst C dX12_fits_64 ?_
          refine m_goto (tgt := 69) C dX12_fits_65 (by decide) ?_
          refine m_istore (lv2 := [(6, .int (iI 1)), (7, .int (iI k)), (5, .int (iI (a 12 r.toNat))), (0, .ref h0), (1, .int (iI r)), (2, .int (iI q)), (3, .int (iI u)), (4, .int (iI x))]) C dX12_fits_69 (by decide) rfl ?_
          refine m_iinc (z := k) (j := 1) (lv2 := [(7, .int (iI (k + 1))), (6, .int (iI 1)), (5, .int (iI (a 12 r.toNat))), (0, .ref h0), (1, .int (iI r)), (2, .int (iI q)), (3, .int (iI u)), (4, .int (iI x))]) C dX12_fits_71 rfl (by decide) rfl ?_
          refine m_goto (tgt := 27) C dX12_fits_74 (by decide) ?_
          refine m_lv (lv2 := [(7, .int (iI (k + 1))), (6, .int (iI 1)), (5, .int (iI (a 12 r.toNat))), (0, .ref h0), (1, .int (iI r)), (2, .int (iI q)), (3, .int (iI u)), (4, .int (iI x))]) [0, 1, 2, 3, 4, 5, 6, 7] rfl ?_
          exact ih (k + 1) 1 (by omega) (by omega) (by omega)
set_option maxHeartbeats 4000000 in
set_option maxRecDepth 100000 in
theorem M_fits {l : Launch} {G : GT} {h0 : Nat} {ad ln : Nat → Nat} {v : Nat → Int} {a : Nat → Nat → Int} {r q u x : Int} (hR : RG v a) (hr : 0 ≤ r ∧ r < 6000) (h12 : 1 ≤ a 12 r.toNat ∧ a 12 r.toNat ≤ 8) (hx : 0 ≤ q ∧ q ≤ x ∧ x < u ∧ u ≤ 500) : Mm l G yX12_fits cX12_fits 9 (some .boolean) 1 [.int (iI r), .int (iI q), .int (iI u), .int (iI x)] h0 ad ln v a 0 0 (fun r2 v2 a2 => ∃ f : Int, r2 = some (.int (iI f)) ∧ (f = 0 ∨ (f = 1 ∧ x + a 12 r.toNat ≤ u)) ∧ v = v2 ∧ a = a2) := by
  refine Mm.mk (by decide) (Nat.le_of_ble_eq_true rfl) ?_
  intro p e s m args below meth c A C
  refine m_aload_n (j := 0) C dX12_fits_0 rfl ?_
  refine m_geta (k := 12) C dX12_fits_1 w6_71 (by decide) rfl ?_
  refine m_iload_n (j := 1) C dX12_fits_4 rfl ?_
  refine m_ald (k := 12) C dX12_fits_5 rfl rfl (by decide) (by omega) (by show _ < ((_ : Nat) : Int); simp only [mlen]; omega) (by decide) ?_
  have ra1 := hR.2 12 (r.toNat)
  refine m_istore (lv2 := [(5, .int (iI (a 12 r.toNat))), (0, .ref h0), (1, .int (iI r)), (2, .int (iI q)), (3, .int (iI u)), (4, .int (iI x))]) C dX12_fits_6 (by decide) rfl ?_
  refine m_iload (j := 5) C dX12_fits_8 rfl ?_
  refine m_iload (j := 0) C dX12_fits_10 rfl ?_
  refine m_iadd C dX12_fits_12 ?_
  refine m_iload_n (j := 4) C dX12_fits_13 rfl ?_
  refine m_icmp_gt (tgt := 21) C ⟨by omega, by omega⟩ ⟨by omega, by omega⟩ dX12_fits_14 (by decide) (fun c1 => ?_) (fun c1 => ?_)
  · refine m_iconst C dX12_fits_21 ?_
    refine m_istore (lv2 := [(6, .int (iI 0)), (5, .int (iI (a 12 r.toNat))), (0, .ref h0), (1, .int (iI r)), (2, .int (iI q)), (3, .int (iI u)), (4, .int (iI x))]) C dX12_fits_22 (by decide) rfl ?_
    refine m_iconst C dX12_fits_24 ?_
    refine m_istore (lv2 := [(7, .int (iI 0)), (6, .int (iI 0)), (5, .int (iI (a 12 r.toNat))), (0, .ref h0), (1, .int (iI r)), (2, .int (iI q)), (3, .int (iI u)), (4, .int (iI x))]) C dX12_fits_25 (by decide) rfl ?_
    refine m_lv (lv2 := [(7, .int (iI 0)), (6, .int (iI 0)), (5, .int (iI (a 12 r.toNat))), (0, .ref h0), (1, .int (iI r)), (2, .int (iI q)), (3, .int (iI u)), (4, .int (iI x))]) [0, 1, 2, 3, 4, 5, 6, 7] rfl ?_
    exact Lp_fits hR hr h12 hx C 10 0 0  (by omega) (by omega) (by omega)
  · refine m_iconst C dX12_fits_17 ?_
    refine m_goto (tgt := 22) C dX12_fits_18 (by decide) ?_
    refine m_istore (lv2 := [(6, .int (iI 1)), (5, .int (iI (a 12 r.toNat))), (0, .ref h0), (1, .int (iI r)), (2, .int (iI q)), (3, .int (iI u)), (4, .int (iI x))]) C dX12_fits_22 (by decide) rfl ?_
    refine m_iconst C dX12_fits_24 ?_
    refine m_istore (lv2 := [(7, .int (iI 0)), (6, .int (iI 1)), (5, .int (iI (a 12 r.toNat))), (0, .ref h0), (1, .int (iI r)), (2, .int (iI q)), (3, .int (iI u)), (4, .int (iI x))]) C dX12_fits_25 (by decide) rfl ?_
    refine m_lv (lv2 := [(7, .int (iI 0)), (6, .int (iI 1)), (5, .int (iI (a 12 r.toNat))), (0, .ref h0), (1, .int (iI r)), (2, .int (iI q)), (3, .int (iI u)), (4, .int (iI x))]) [0, 1, 2, 3, 4, 5, 6, 7] rfl ?_
    exact Lp_fits hR hr h12 hx C 10 0 1  (by omega) (by omega) (by omega)
set_option maxHeartbeats 4000000 in
set_option maxRecDepth 100000 in
theorem Lp_own {p : Program} {l : Launch} {e : Env} {s : State} {m : MethodId} {args : Array Value} {below : List Frame} {meth : Method} {c : Code} {G : GT} {A : Nat → Prop} {h0 : Nat} {ad ln : Nat → Nat} {v : Nat → Int} {a : Nat → Nat → Int} {t q u x : Int} (hR : RG v a) (ht : 0 ≤ t ∧ t < 30) (h10 : 0 ≤ a 10 t.toNat ∧ a 10 t.toNat ≤ 200) (hru : ∀ r : Int, 200 * t ≤ r → r < 200 * t + a 10 t.toNat → 1 ≤ a 12 r.toNat ∧ a 12 r.toNat ≤ 8) (hx : 0 ≤ q ∧ q ≤ x ∧ x < u ∧ u ≤ 500) (C : Cq p s m args meth c cX12_own yX12_own (some .int) G A 7) : ∀ (n : Nat) (k w1 : Int), 6001 - k < (n : Int) → (200 * t ≤ k ∧ k ≤ 200 * t + a 10 t.toNat) → (w1 = -1 ∨ (200 * t ≤ w1 ∧ w1 < 200 * t + a 10 t.toNat ∧ x + a 12 w1.toNat ≤ u)) → mw p l e (rmq 2 0 0) s m args below meth c G A 7 (MQ below (Qm G A (fun rq Lq Eq => ∃ (vq : Nat → Int) (aq : Nat → Nat → Int), mI G h0 ad ln vq aq Lq Eq ∧ (fun r2 v2 a2 => ∃ f : Int, r2 = some (.int (iI f)) ∧ (f = -1 ∨ (200 * t ≤ f ∧ f < 200 * t + a 10 t.toNat ∧ x + a 12 f.toNat ≤ u)) ∧ v = v2 ∧ a = a2) rq vq aq)) args s 0 0 A) h0 ad ln v a 0 0 10 [(6, .int (iI k)), (5, .int (iI w1)), (0, .ref h0), (1, .int (iI t)), (2, .int (iI q)), (3, .int (iI u)), (4, .int (iI x))] [] := by
  intro n
  induction n with
  | zero =>
    intro k w1   hm hk hb
    exact absurd hm (by omega)
  | succ n ih =>
    intro k w1   hm hk hb
    refine m_iload (j := 0) C dX12_own_10 rfl ?_
    refine m_sipush (z := 200) C dX12_own_12 (by decide) ?_
    refine m_iload_n (j := 3) C dX12_own_15 rfl ?_
    refine m_imul C dX12_own_16 ?_
    refine m_aload_n (j := 2) C dX12_own_17 rfl ?_
    refine m_geta (k := 10) C dX12_own_18 w6_69 (by decide) rfl ?_
    refine m_iload_n (j := 3) C dX12_own_21 rfl ?_
    refine m_ald (k := 10) C dX12_own_22 rfl rfl (by decide) (by omega) (by show _ < ((_ : Nat) : Int); simp only [mlen]; omega) (by decide) ?_
    have ra1 := hR.2 10 (t.toNat)
    refine m_iadd C dX12_own_23 ?_
    refine m_icmp_ge (tgt := 72) C ⟨by omega, by omega⟩ ⟨by omega, by omega⟩ dX12_own_24 (by decide) (fun c1 => ?_) (fun c1 => ?_)
    · refine m_iload (j := 1) C dX12_own_72 rfl ?_
      exact m_iret C dX12_own_74 rfl (Nat.le_of_ble_eq_true rfl) (Nat.le_of_ble_eq_true rfl) ⟨w1, rfl, hb, rfl, rfl⟩
    · refine m_iload (j := 1) C dX12_own_27 rfl ?_
      refine m_if_lt (tgt := 49) C ⟨by omega, by omega⟩ dX12_own_29 (by decide) (fun c2 => ?_) (fun c2 => ?_)
      · refine m_aload_n (j := 2) C dX12_own_49 rfl ?_
        refine m_iload (j := 0) C dX12_own_50 rfl ?_
        refine m_iload_n (j := 4) C dX12_own_52 rfl ?_
        refine m_iload_n (j := 5) C dX12_own_53 rfl ?_
        refine m_iload (j := 6) C dX12_own_54 rfl ?_
        refine m_call (mc2 := 0) (ms2 := 0) (As := [.int (iI k), .int (iI q), .int (iI u), .int (iI x)]) (rest := []) C (M_fits (r := k) (q := q) (u := u) (x := x) hR (by omega) (hru k (by omega) (by omega)) hx) dX12_own_56 kV_X12_211 rfl ck_13 rfl (Nat.le_of_ble_eq_true rfl) ⟨Nat.le_of_ble_eq_true rfl, Nat.le_of_ble_eq_true rfl⟩ ⟨Nat.le_of_ble_eq_true rfl, Nat.le_of_ble_eq_true rfl⟩ (fun rh1 vh1 ah1 h1 => ?_)
        obtain ⟨f1, rfl, hf1, rfl, rfl⟩ := h1
        refine m_st (st2 := [.int (iI f1)]) rfl ?_
        refine m_if_eq (tgt := 66) C ⟨by omega, by omega⟩ dX12_own_59 (by decide) (fun c3 => ?_) (fun c3 => ?_)
        · refine m_iinc (z := k) (j := 0) (lv2 := [(6, .int (iI (k + 1))), (5, .int (iI w1)), (0, .ref h0), (1, .int (iI t)), (2, .int (iI q)), (3, .int (iI u)), (4, .int (iI x))]) C dX12_own_66 rfl (by decide) rfl ?_
          refine m_goto (tgt := 10) C dX12_own_69 (by decide) ?_
          refine m_lv (lv2 := [(6, .int (iI (k + 1))), (5, .int (iI w1)), (0, .ref h0), (1, .int (iI t)), (2, .int (iI q)), (3, .int (iI u)), (4, .int (iI x))]) [0, 1, 2, 3, 4, 5, 6] rfl ?_
          exact ih (k + 1) w1 (by omega) (by omega) (by omega)
        · refine m_iload (j := 0) C dX12_own_62 rfl ?_
          refine m_istore (lv2 := [(5, .int (iI k)), (6, .int (iI k)), (0, .ref h0), (1, .int (iI t)), (2, .int (iI q)), (3, .int (iI u)), (4, .int (iI x))]) C dX12_own_64 (by decide) rfl ?_
          refine m_iinc (z := k) (j := 1) (lv2 := [(6, .int (iI (k + 1))), (5, .int (iI k)), (0, .ref h0), (1, .int (iI t)), (2, .int (iI q)), (3, .int (iI u)), (4, .int (iI x))]) C dX12_own_66 rfl (by decide) rfl ?_
          refine m_goto (tgt := 10) C dX12_own_69 (by decide) ?_
          refine m_lv (lv2 := [(6, .int (iI (k + 1))), (5, .int (iI k)), (0, .ref h0), (1, .int (iI t)), (2, .int (iI q)), (3, .int (iI u)), (4, .int (iI x))]) [0, 1, 2, 3, 4, 5, 6] rfl ?_
          exact ih (k + 1) k (by omega) (by omega) (by omega)
      · refine m_aload_n (j := 2) C dX12_own_32 rfl ?_
        refine m_geta (k := 12) C dX12_own_33 w6_71 (by decide) rfl ?_
        refine m_iload (j := 0) C dX12_own_36 rfl ?_
        refine m_ald (k := 12) C dX12_own_38 rfl rfl (by decide) (by omega) (by show _ < ((_ : Nat) : Int); simp only [mlen]; omega) (by decide) ?_
        have ra2 := hR.2 12 (k.toNat)
        refine m_aload_n (j := 2) C dX12_own_39 rfl ?_
        refine m_geta (k := 12) C dX12_own_40 w6_71 (by decide) rfl ?_
        refine m_iload (j := 1) C dX12_own_43 rfl ?_
        refine m_ald (k := 12) C dX12_own_45 rfl rfl (by decide) (by omega) (by show _ < ((_ : Nat) : Int); simp only [mlen]; omega) (by decide) ?_
        have ra3 := hR.2 12 (w1.toNat)
        refine m_icmp_le (tgt := 66) C ⟨by omega, by omega⟩ ⟨by omega, by omega⟩ dX12_own_46 (by decide) (fun c4 => ?_) (fun c4 => ?_)
        · refine m_iinc (z := k) (j := 0) (lv2 := [(6, .int (iI (k + 1))), (5, .int (iI w1)), (0, .ref h0), (1, .int (iI t)), (2, .int (iI q)), (3, .int (iI u)), (4, .int (iI x))]) C dX12_own_66 rfl (by decide) rfl ?_
          refine m_goto (tgt := 10) C dX12_own_69 (by decide) ?_
          refine m_lv (lv2 := [(6, .int (iI (k + 1))), (5, .int (iI w1)), (0, .ref h0), (1, .int (iI t)), (2, .int (iI q)), (3, .int (iI u)), (4, .int (iI x))]) [0, 1, 2, 3, 4, 5, 6] rfl ?_
          exact ih (k + 1) w1 (by omega) (by omega) (by omega)
        · refine m_aload_n (j := 2) C dX12_own_49 rfl ?_
          refine m_iload (j := 0) C dX12_own_50 rfl ?_
          refine m_iload_n (j := 4) C dX12_own_52 rfl ?_
          refine m_iload_n (j := 5) C dX12_own_53 rfl ?_
          refine m_iload (j := 6) C dX12_own_54 rfl ?_
          refine m_call (mc2 := 0) (ms2 := 0) (As := [.int (iI k), .int (iI q), .int (iI u), .int (iI x)]) (rest := []) C (M_fits (r := k) (q := q) (u := u) (x := x) hR (by omega) (hru k (by omega) (by omega)) hx) dX12_own_56 kV_X12_211 rfl ck_13 rfl (Nat.le_of_ble_eq_true rfl) ⟨Nat.le_of_ble_eq_true rfl, Nat.le_of_ble_eq_true rfl⟩ ⟨Nat.le_of_ble_eq_true rfl, Nat.le_of_ble_eq_true rfl⟩ (fun rh2 vh2 ah2 h2 => ?_)
          obtain ⟨f2, rfl, hf2, rfl, rfl⟩ := h2
          refine m_st (st2 := [.int (iI f2)]) rfl ?_
          refine m_if_eq (tgt := 66) C ⟨by omega, by omega⟩ dX12_own_59 (by decide) (fun c5 => ?_) (fun c5 => ?_)
          · refine m_iinc (z := k) (j := 0) (lv2 := [(6, .int (iI (k + 1))), (5, .int (iI w1)), (0, .ref h0), (1, .int (iI t)), (2, .int (iI q)), (3, .int (iI u)), (4, .int (iI x))]) C dX12_own_66 rfl (by decide) rfl ?_
            refine m_goto (tgt := 10) C dX12_own_69 (by decide) ?_
            refine m_lv (lv2 := [(6, .int (iI (k + 1))), (5, .int (iI w1)), (0, .ref h0), (1, .int (iI t)), (2, .int (iI q)), (3, .int (iI u)), (4, .int (iI x))]) [0, 1, 2, 3, 4, 5, 6] rfl ?_
            exact ih (k + 1) w1 (by omega) (by omega) (by omega)
          · refine m_iload (j := 0) C dX12_own_62 rfl ?_
            refine m_istore (lv2 := [(5, .int (iI k)), (6, .int (iI k)), (0, .ref h0), (1, .int (iI t)), (2, .int (iI q)), (3, .int (iI u)), (4, .int (iI x))]) C dX12_own_64 (by decide) rfl ?_
            refine m_iinc (z := k) (j := 1) (lv2 := [(6, .int (iI (k + 1))), (5, .int (iI k)), (0, .ref h0), (1, .int (iI t)), (2, .int (iI q)), (3, .int (iI u)), (4, .int (iI x))]) C dX12_own_66 rfl (by decide) rfl ?_
            refine m_goto (tgt := 10) C dX12_own_69 (by decide) ?_
            refine m_lv (lv2 := [(6, .int (iI (k + 1))), (5, .int (iI k)), (0, .ref h0), (1, .int (iI t)), (2, .int (iI q)), (3, .int (iI u)), (4, .int (iI x))]) [0, 1, 2, 3, 4, 5, 6] rfl ?_
            exact ih (k + 1) k (by omega) (by omega) (by omega)
set_option maxHeartbeats 4000000 in
set_option maxRecDepth 100000 in
theorem M_own {l : Launch} {G : GT} {h0 : Nat} {ad ln : Nat → Nat} {v : Nat → Int} {a : Nat → Nat → Int} {t q u x : Int} (hR : RG v a) (ht : 0 ≤ t ∧ t < 30) (h10 : 0 ≤ a 10 t.toNat ∧ a 10 t.toNat ≤ 200) (hru : ∀ r : Int, 200 * t ≤ r → r < 200 * t + a 10 t.toNat → 1 ≤ a 12 r.toNat ∧ a 12 r.toNat ≤ 8) (hx : 0 ≤ q ∧ q ≤ x ∧ x < u ∧ u ≤ 500) : Mm l G yX12_own cX12_own 7 (some .int) 2 [.int (iI t), .int (iI q), .int (iI u), .int (iI x)] h0 ad ln v a 0 0 (fun r2 v2 a2 => ∃ f : Int, r2 = some (.int (iI f)) ∧ (f = -1 ∨ (200 * t ≤ f ∧ f < 200 * t + a 10 t.toNat ∧ x + a 12 f.toNat ≤ u)) ∧ v = v2 ∧ a = a2) := by
  refine Mm.mk (by decide) (Nat.le_of_ble_eq_true rfl) ?_
  intro p e s m args below meth c A C
  refine m_iconst C dX12_own_0 ?_
  refine m_istore (lv2 := [(5, .int (iI (-1))), (0, .ref h0), (1, .int (iI t)), (2, .int (iI q)), (3, .int (iI u)), (4, .int (iI x))]) C dX12_own_1 (by decide) rfl ?_
  refine m_sipush (z := 200) C dX12_own_3 (by decide) ?_
  refine m_iload_n (j := 2) C dX12_own_6 rfl ?_
  refine m_imul C dX12_own_7 ?_
  refine m_istore (lv2 := [(6, .int (iI (200 * t))), (5, .int (iI (-1))), (0, .ref h0), (1, .int (iI t)), (2, .int (iI q)), (3, .int (iI u)), (4, .int (iI x))]) C dX12_own_8 (by decide) rfl ?_
  refine m_lv (lv2 := [(6, .int (iI (200 * t))), (5, .int (iI (-1))), (0, .ref h0), (1, .int (iI t)), (2, .int (iI q)), (3, .int (iI u)), (4, .int (iI x))]) [0, 1, 2, 3, 4, 5, 6] rfl ?_
  exact Lp_own hR ht h10 hru hx C 6002 (200 * t) (-1)  (by omega) (by omega) (by omega)
end
section
def vlo : Nat → Int := fun k => match k with
  | 3 => 0
  | 4 => 0
  | 23 => 0
  | 25 => 0
  | 30 => 0
  | 31 => 1
  | 32 => 1
  | 36 => 0
  | 39 => 0
  | 41 => 0
  | 50 => 0
  | 52 => 0
  | 53 => 0
  | 55 => 0
  | 60 => 0
  | 61 => 0
  | 63 => 0
  | 64 => 0
  | 66 => 0
  | _ => -2147483648
def vhi : Nat → Int := fun k => match k with
  | 3 => 3000
  | 4 => 30
  | 23 => 500
  | 25 => 208
  | 30 => 500
  | 31 => 100
  | 32 => 50
  | 36 => 200
  | 39 => 200
  | 41 => 200
  | 50 => 40200
  | 52 => 4000
  | 53 => 40200
  | 55 => 4000
  | 60 => 50
  | 61 => 1
  | 63 => 808
  | 64 => 50
  | 66 => 256
  | _ => 2147483647
def alo : Nat → Int := fun k => match k with
  | 5 => 0
  | 6 => 0
  | 8 => -1
  | 9 => -1
  | 10 => 0
  | 12 => 0
  | 13 => 0
  | 14 => 0
  | 16 => 0
  | 22 => 0
  | 26 => -1
  | 34 => -1
  | 37 => 0
  | 44 => -4
  | 45 => 0
  | 46 => 0
  | 47 => 0
  | 57 => 0
  | 59 => 0
  | 65 => 0
  | _ => -2147483648
def ahi : Nat → Int := fun k => match k with
  | 5 => 1
  | 6 => 5
  | 8 => 29
  | 9 => 29
  | 10 => 200
  | 12 => 8
  | 13 => 4
  | 14 => 125
  | 16 => 4
  | 22 => 1
  | 26 => 208
  | 34 => 200
  | 37 => 200
  | 44 => 5999
  | 45 => 23999
  | 46 => 4
  | 47 => 6008
  | 57 => 1
  | 59 => 808
  | 65 => 255
  | _ => 2147483647
def BX (v : Nat → Int) (a : Nat → Nat → Int) : Prop := (∀ k, vlo k ≤ v k ∧ v k ≤ vhi k) ∧ ∀ k j, alo k ≤ a k j ∧ a k j ≤ ahi k
theorem vlo_r (k : Nat) : -2147483648 ≤ vlo k := by unfold vlo; split <;> decide
theorem vhi_r (k : Nat) : vhi k ≤ 2147483647 := by unfold vhi; split <;> decide
theorem alo_r (k : Nat) : -2147483648 ≤ alo k := by unfold alo; split <;> decide
theorem ahi_r (k : Nat) : ahi k ≤ 2147483647 := by unfold ahi; split <;> decide
theorem BX.rg {v : Nat → Int} {a : Nat → Nat → Int} (h : BX v a) : RG v a := ⟨fun k => by have := h.1 k; have := vlo_r k; have := vhi_r k; exact ⟨by omega, by omega⟩, fun k j => by have := h.2 k j; have := alo_r k; have := ahi_r k; exact ⟨by omega, by omega⟩⟩
theorem BX.put {v : Nat → Int} {a : Nat → Nat → Int} {k : Nat} {z : Int} (h : BX v a) (hz : vlo k ≤ z ∧ z ≤ vhi k) : BX (va_up v k z) a := ⟨fun j => by unfold va_up; split; rename_i e; subst e; exact hz; exact h.1 j, h.2⟩
theorem BX.set {v : Nat → Int} {a : Nat → Nat → Int} {k i : Nat} {z : Int} (h : BX v a) (hz : alo k ≤ z ∧ z ≤ ahi k) : BX v (up2 a k i z) := ⟨h.1, fun k2 j => by unfold up2; split; rename_i e; subst e; split; exact hz; exact h.2 _ _; exact h.2 _ _⟩
theorem BX.re {v v2 : Nat → Int} {a a2 : Nat → Nat → Int} (h : BX v a) (hr : RG v2 a2) (hv : ∀ k, (v2 k = v k ∨ (vlo k ≤ v2 k ∧ v2 k ≤ vhi k)) ∨ (vlo k = -2147483648 ∧ vhi k = 2147483647)) (ha : ∀ k, ((a2 k = a k) ∨ (∀ j, alo k ≤ a2 k j ∧ a2 k j ≤ ahi k)) ∨ (alo k = -2147483648 ∧ ahi k = 2147483647)) : BX v2 a2 := by
  refine ⟨fun k => ?_, fun k j => ?_⟩
  · rcases hv k with (e | e) | ⟨e1, e2⟩
    · rw [e]; exact h.1 k
    · exact e
    · have := hr.1 k; rw [e1, e2]; exact ⟨by omega, by omega⟩
  · rcases ha k with (e | e) | ⟨e1, e2⟩
    · rw [e]; exact h.2 k j
    · exact e j
    · have := hr.2 k j; rw [e1, e2]; exact ⟨by omega, by omega⟩
def fr (V A : List Nat) (v : Nat → Int) (a : Nat → Nat → Int) (v2 : Nat → Int) (a2 : Nat → Nat → Int) : Prop := (∀ j, V.contains j = false → v2 j = v j) ∧ (∀ j, A.contains j = false → a2 j = a j)
theorem fr.refl {V A : List Nat} {v : Nat → Int} {a : Nat → Nat → Int} : fr V A v a v a := ⟨fun _ _ => rfl, fun _ _ => rfl⟩
theorem fr.put {V A : List Nat} {v v2 : Nat → Int} {a a2 : Nat → Nat → Int} {k : Nat} {z : Int} (h : fr V A v a v2 a2) (hk : V.contains k = true) : fr V A v a (va_up v2 k z) a2 := ⟨fun j hj => by rw [va_up_ne _ _ (fun e => by rw [e, hk] at hj; cases hj)]; exact h.1 j hj, h.2⟩
theorem fr.set {V A : List Nat} {v v2 : Nat → Int} {a a2 : Nat → Nat → Int} {k i : Nat} {z : Int} (h : fr V A v a v2 a2) (hk : A.contains k = true) : fr V A v a v2 (up2 a2 k i z) := ⟨h.1, fun j hj => by rw [← h.2 j hj]; funext q; exact up2_k (fun e => by rw [e, hk] at hj; cases hj)⟩
theorem con_sub {V W : List Nat} (h : V.all (fun j => W.contains j) = true) {j : Nat} (hj : W.contains j = false) : V.contains j = false := by
  cases e : V.contains j with
  | false => rfl
  | true =>
    have h2 := List.all_eq_true.mp h j (List.contains_iff_mem.mp e)
    rw [hj] at h2; exact h2.symm
theorem fr.call {V A V2 A2 : List Nat} {v v2 v3 : Nat → Int} {a a2 a3 : Nat → Nat → Int} (h : fr V A v a v2 a2) (h2 : fr V2 A2 v2 a2 v3 a3) (hv : V2.all (fun j => V.contains j) = true) (ha : A2.all (fun j => A.contains j) = true) : fr V A v a v3 a3 := ⟨fun j hj => (h2.1 j (con_sub hv hj)).trans (h.1 j hj), fun j hj => (h2.2 j (con_sub ha hj)).trans (h.2 j hj)⟩
theorem fr.eq {v v2 : Nat → Int} {a a2 : Nat → Nat → Int} (h : fr [] [] v a v2 a2) : v = v2 ∧ a = a2 := ⟨(funext fun j => h.1 j rfl).symm, (funext fun j => h.2 j rfl).symm⟩
theorem nar_b {w : Int} (h : w = 0 ∨ w = 1) : vp_nar .boolean (iI w) = iI w := by rcases h with rfl | rfl <;> decide
theorem q_zast2 {p : Program} {l : Launch} {e : Env} {R : Room} {s : State} {m : MethodId} {args : Array Value} {below : List Frame} {meth : Method} {c : Code} {cc : ByteArray} {y : MethodName} {ret : Option FieldType} {G : GT} {A : Nat → Prop} {nL : Nat} {Q : State → Prop} {L : List Nat} {E : Nat → va_E} {kc ks pc : Nat} {lv : List (Nat × Value)} {st : List Value} (C : Cq p s m args meth c cc y ret G A nL) {b n : Nat} {f : Nat → Int32} {i x : Int32} (d : decode cc pc = .ok (.bastore, 1)) (ha : b ∈ L) (hE : E b = aZ G n f) (hin : vp_in i n) (kk : wq p l e R s m args below meth c G A nL Q L (va_up E b (aZ G n (upd f i.toNatClampNeg (vp_nar .boolean x)))) kc ks (pc + 1) lv st) : wq p l e R s m args below meth c G A nL Q L E kc ks pc lv (.int x :: .int i :: .ref b :: st) := by
  intro H locs ls hP hD hS hl
  obtain ⟨q0, hq⟩ := pl_at (E := E) ha
  refine va_zast C.1 C.2.1 C.2.2.2.2.2.1 hP hD hS q0 1 (by rw [hq, hE]; rfl) rfl hin d (fun H1 locs1 hP1 hD1 hS1 => ?_)
  rw [pl_set hD ha hq] at hP1 hD1
  exact kk H1 locs1 ls hP1 hD1 hS1 hl
theorem m_zast {p : Program} {l : Launch} {e : Env} {R : Room} {s : State} {m : MethodId} {args : Array Value} {below : List Frame} {meth : Method} {c : Code} {cc : ByteArray} {y : MethodName} {ret : Option FieldType} {G : GT} {A : Nat → Prop} {nL : Nat} {Q : State → Prop} {h0 : Nat} {ad ln : Nat → Nat} {v : Nat → Int} {a : Nat → Nat → Int} {kc ks pc : Nat} {lv : List (Nat × Value)} {st : List Value} (C : Cq p s m args meth c cc y ret G A nL) {k : Nat} {z w : Int} (d : decode cc pc = .ok (.bastore, 1)) (hA : mA k = true) (hZ : mZ k = true) (h18 : k ≠ 18) (h1 : 0 ≤ z) (h2 : z < (mlen k : Nat)) (hm : mlen k ≤ 100000) (hw : w = 0 ∨ w = 1) (kk : mw p l e R s m args below meth c G A nL Q h0 ad ln v (up2 a k z.toNat w) kc ks (pc + 1) lv st) : mw p l e R s m args below meth c G A nL Q h0 ad ln v a kc ks pc lv (.int (iI w) :: .int (iI z) :: .ref (ad k) :: st) := by
  intro L E h
  refine hv2 (show R32 z from ⟨by omega, by omega⟩) ((h.2.2.1 k hA).2) (fun hr hE => ?_)
  unfold mar at hE
  rw [hZ, if_pos rfl] at hE
  refine q_zast2 C d (h.2.2.1 k hA).1 hE (by rw [h.2.2.2.2.2.1 k h18]; exact iI_in hr h1 h2) (kk L _ (h.set hA ?_))
  unfold mar
  rw [hZ, if_pos rfl, iI_cl hr, nar_b hw]
  congr 1
  funext j
  unfold upd up2
  rw [if_pos rfl]
  split <;> rfl
def TBL (v : Nat → Int) (a : Nat → Nat → Int) : Prop := (∀ t : Int, 0 ≤ t → t < v 4 → ((a 6 t.toNat = 0 ∨ a 6 t.toNat = 4) ∧ a 8 t.toNat = -1) ∨ (1 ≤ a 6 t.toNat ∧ a 6 t.toNat ≤ 3 ∧ 0 ≤ a 8 t.toNat ∧ a 8 t.toNat < t ∧ a 6 (a 8 t.toNat).toNat ≤ 3) ∨ (a 6 t.toNat = 5 ∧ 0 ≤ a 8 t.toNat ∧ a 8 t.toNat < t ∧ a 6 (a 8 t.toNat).toNat ≤ 3 ∧ 0 ≤ a 9 t.toNat ∧ a 9 t.toNat < t ∧ a 6 (a 9 t.toNat).toNat ≤ 3)) ∧ ∀ t r : Int, 0 ≤ t → t < v 4 → 200 * t ≤ r → r < 200 * t + a 10 t.toNat → (1 ≤ a 12 r.toNat ∧ a 12 r.toNat ≤ 8) ∧ (1 ≤ a 13 r.toNat ∧ a 13 r.toNat ≤ 4)
def tbA : List Nat := [6, 8, 9, 10, 12, 13]
theorem TBL.fr {V A : List Nat} {v v2 : Nat → Int} {a a2 : Nat → Nat → Int} (h : TBL v a) (f : fr V A v a v2 a2) (h1 : V.contains 4 = false) (h2 : tbA.all (fun j => !A.contains j) = true) : TBL v2 a2 := by
  refine hv2 (show ∀ j, j ∈ tbA → a2 j = a j from fun j hj => f.2 j (by have := List.all_eq_true.mp h2 j hj; simpa using this)) (f.1 4 h1) (fun g g4 => ?_)
  have g6 := g 6 (by decide); have g8 := g 8 (by decide); have g9 := g 9 (by decide); have g10 := g 10 (by decide); have g12 := g 12 (by decide); have g13 := g 13 (by decide)
  unfold TBL
  rw [g4, g6, g8, g9, g10, g12, g13]
  exact h
theorem fr.back {v v2 : Nat → Int} {a a1 a3 : Nat → Nat → Int} {V A B : List Nat} {k i : Nat} {z y : Int} (h : fr V A v a v a1) (h2 : fr V B v (up2 a1 k i z) v2 a3) (hB : B.all (fun j => A.contains j) = true) (hk : B.contains k = false) (hy : y = a1 k i) : fr V A v a v2 (up2 a3 k i y) := by
  refine ⟨fun j hj => (h2.1 j hj), fun j hj => ?_⟩
  by_cases e : j = k
  · subst e
    rw [← h.2 j hj]
    funext q
    by_cases e2 : q = i
    · subst e2; rw [up2_s, hy]
    · rw [up2_j e2, h2.2 j hk, up2_j e2]
  · rw [show up2 a3 k i y j = a3 j from funext fun q => up2_k e, h2.2 j (con_sub hB hj), show up2 a1 k i z j = a1 j from funext fun q => up2_k e]
    exact h.2 j hj
end
section
def FindC (l : Launch) (G : GT) (h0 : Nat) (ad ln : Nat → Nat) (d : Nat) (t : Int) : Prop := ∀ (v : Nat → Int) (a : Nat → Nat → Int) (q u x : Int), BX v a → TBL v a → t < v 4 → a 6 t.toNat ≤ 4 → (0 ≤ q ∧ q ≤ x ∧ x < u ∧ u ≤ 500) → Mm l G yX12_find cX12_find 7 (some .int) d [.int (iI t), .int (iI q), .int (iI u), .int (iI x)] h0 ad ln v a 0 0 (fun r v2 a2 => ∃ f : Int, r = some (.int (iI f)) ∧ fr [] [27] v a v2 a2 ∧ BX v2 a2 ∧ (f = -1 ∨ (0 ≤ f ∧ f < 6000 ∧ (1 ≤ a 12 f.toNat ∧ a 12 f.toNat ≤ 8) ∧ (1 ≤ a 13 f.toNat ∧ a 13 f.toNat ≤ 4) ∧ x + a 12 f.toNat ≤ u)))
set_option maxHeartbeats 4000000 in
set_option maxRecDepth 100000 in
theorem M_contracted {l : Launch} {G : GT} {h0 : Nat} {ad ln : Nat → Nat} {v : Nat → Int} {a : Nat → Nat → Int} {d : Nat} {t q u x : Int} (hB : BX v a) (hT : TBL v a) (ht : 0 ≤ t ∧ t < v 4) (h30 : v 4 ≤ 30) (hk : 1 ≤ a 6 t.toNat ∧ a 6 t.toNat ≤ 3) (hx : 0 ≤ q ∧ q ≤ x ∧ x < u ∧ u ≤ 500) (hd : 3 ≤ d) (hf : ∀ b : Int, 0 ≤ b → b < t → FindC l G h0 ad ln d b) : Mm l G yX12_contracted cX12_contracted 7 (some .int) (d + 1) [.int (iI t), .int (iI q), .int (iI u), .int (iI x)] h0 ad ln v a 0 0 (fun r v2 a2 => ∃ f : Int, r = some (.int (iI f)) ∧ fr [] [27] v a v2 a2 ∧ BX v2 a2 ∧ (f = -1 ∨ (0 ≤ f ∧ f < 6000 ∧ (1 ≤ a 12 f.toNat ∧ a 12 f.toNat ≤ 8) ∧ (1 ≤ a 13 f.toNat ∧ a 13 f.toNat ≤ 4) ∧ x + a 12 f.toNat ≤ u))) := by
  refine Mm.mk (by decide) (Nat.le_of_ble_eq_true rfl) ?_
  intro p e s m args below meth c A C
  refine hv2 (hT.1 t (by omega) (by omega)) (show fr [] [27] v a v a from fr.refl) (fun ht0 fp0 => ?_)
  refine m_aload_n (j := 0) C dX12_contracted_0 rfl ?_
  refine m_geta (k := 27) C dX12_contracted_1 w6_86 (by decide) rfl ?_
  refine m_iconst C dX12_contracted_4 ?_
  refine m_dup2 C dX12_contracted_5 rfl rfl ?_
  refine m_ald (k := 27) C dX12_contracted_6 rfl rfl (by decide) (by decide) (by decide) (by decide) ?_
  have ra1 : (-2147483648) ≤ a 27 0 ∧ a 27 0 ≤ 2147483647 := hB.2 27 (0)
  refine m_st (st2 := [.int (iI (a 27 0)), .int (iI 0), .ref (ad 27)]) rfl ?_
  refine m_iconst C dX12_contracted_7 ?_
  refine m_iadd C dX12_contracted_8 ?_
  obtain ⟨zz1, hzz1, ezz1⟩ := iI_of (iI ((a 27 0) + 1))
  refine m_st (st2 := [.int (iI zz1), .int (iI 0), .ref (ad 27)]) (by rw [ezz1]) ?_
  refine m_ast (k := 27) C dX12_contracted_9 rfl rfl (by decide) (by decide) (by decide) (by decide) ?_
  refine hv2 (show BX v (up2 a 27 (0 : Int).toNat zz1) from hB.set (k := 27) (i := (0 : Int).toNat) (z := zz1) (show (-2147483648) ≤ zz1 ∧ zz1 ≤ 2147483647 by omega)) (fp0.set (k := 27) (i := (0 : Int).toNat) (z := zz1) rfl) (fun bq1 fq1 => ?_)
  refine m_aload_n (j := 0) C dX12_contracted_10 rfl ?_
  refine m_iload_n (j := 1) C dX12_contracted_11 rfl ?_
  refine m_iload_n (j := 2) C dX12_contracted_12 rfl ?_
  refine m_iload_n (j := 3) C dX12_contracted_13 rfl ?_
  refine m_iload (j := 4) C dX12_contracted_14 rfl ?_
  have ra2 : 0 ≤ a 10 t.toNat ∧ a 10 t.toNat ≤ 200 := bq1.2 10 (t.toNat)
  refine m_call (mc2 := 0) (ms2 := 0) (As := [.int (iI t), .int (iI q), .int (iI u), .int (iI x)]) (rest := []) C (M_own (t := t) (q := q) (u := u) (x := x) bq1.rg (by omega) (bq1.2 10 _) (fun r h1 h2 => ((hT.fr fq1 rfl rfl).2 t r (by omega) (by omega) h1 h2).1) (by omega)) dX12_contracted_16 kV_X12_221 rfl ck_13 rfl (Nat.le_of_ble_eq_true rfl) ⟨by dsimp only [rmq]; omega, by dsimp only [rmq]; omega⟩ ⟨Nat.le_of_ble_eq_true rfl, Nat.le_of_ble_eq_true rfl⟩ (fun rh1 vh1 ah1 h1 => ?_)
  obtain ⟨f1, rfl, hf1, rfl, rfl⟩ := h1
  have gf1 : f1 = -1 ∨ ((1 ≤ (up2 a 27 (0 : Int).toNat zz1) 12 f1.toNat ∧ (up2 a 27 (0 : Int).toNat zz1) 12 f1.toNat ≤ 8) ∧ (1 ≤ (up2 a 27 (0 : Int).toNat zz1) 13 f1.toNat ∧ (up2 a 27 (0 : Int).toNat zz1) 13 f1.toNat ≤ 4)) := by
    rcases hf1 with q | q
    · exact Or.inl q
    · exact Or.inr ((hT.fr fq1 rfl rfl).2 t f1 (by omega) (by omega) q.1 q.2.1)
  refine hv2 (show f1 = -1 ∨ ((1 ≤ a 12 f1.toNat ∧ a 12 f1.toNat ≤ 8) ∧ (1 ≤ a 13 f1.toNat ∧ a 13 f1.toNat ≤ 4)) from gf1) (show f1 = -1 ∨ (200 * t ≤ f1 ∧ f1 < 200 * t + a 10 t.toNat ∧ x + a 12 f1.toNat ≤ u) from hf1) (fun ggf1 hhf1 => ?_)
  refine m_st (st2 := [.int (iI f1)]) rfl ?_
  refine m_istore (lv2 := [(5, .int (iI f1)), (0, .ref h0), (1, .int (iI t)), (2, .int (iI q)), (3, .int (iI u)), (4, .int (iI x))]) C dX12_contracted_19 (by decide) rfl ?_
  refine m_aload_n (j := 1) C dX12_contracted_21 rfl ?_
  refine m_aload_n (j := 1) C dX12_contracted_22 rfl ?_
  refine m_geta (k := 8) C dX12_contracted_23 w6_67 (by decide) rfl ?_
  refine m_iload_n (j := 2) C dX12_contracted_26 rfl ?_
  refine m_ald (k := 8) C dX12_contracted_27 rfl rfl (by decide) (by omega) (by show _ < ((_ : Nat) : Int); simp only [mlen]; omega) (by decide) ?_
  have ra3 : (-1) ≤ a 8 t.toNat ∧ a 8 t.toNat ≤ 29 := bq1.2 8 (t.toNat)
  refine m_st (st2 := [.int (iI (a 8 t.toNat)), .ref h0]) (congrArg (fun z => Value.int (iI z) :: [.ref h0]) (congrFun (fq1.2 8 rfl) (t.toNat))) ?_
  refine m_iload_n (j := 3) C dX12_contracted_28 rfl ?_
  refine m_iload_n (j := 4) C dX12_contracted_29 rfl ?_
  refine m_iload (j := 5) C dX12_contracted_30 rfl ?_
  refine m_call (mc2 := 0) (ms2 := 0) (As := [.int (iI (a 8 t.toNat)), .int (iI q), .int (iI u), .int (iI x)]) (rest := []) C (hf (a 8 t.toNat) (by omega) (by omega) _ _ q u x bq1 (hT.fr fq1 rfl rfl) (by show a 8 t.toNat < v 4; omega) (by show a 6 (a 8 t.toNat).toNat ≤ 4; omega) (by omega)) dX12_contracted_32 kV_X12_218 rfl ck_13 rfl (Nat.le_of_ble_eq_true rfl) ⟨by dsimp only [rmq]; omega, by dsimp only [rmq]; omega⟩ ⟨Nat.le_of_ble_eq_true rfl, Nat.le_of_ble_eq_true rfl⟩ (fun rh2 vh2 ah2 h2 => ?_)
  obtain ⟨f2, rfl, fn1, bn1, ex1⟩ := h2
  refine hv2 (fq1.call fn1 rfl rfl) (show f2 = -1 ∨ (0 ≤ f2 ∧ f2 < 6000 ∧ (1 ≤ a 12 f2.toNat ∧ a 12 f2.toNat ≤ 8) ∧ (1 ≤ a 13 f2.toNat ∧ a 13 f2.toNat ≤ 4) ∧ x + a 12 f2.toNat ≤ u) from ex1) (fun fq2 ef2 => ?_)
  refine m_st (st2 := [.int (iI f2)]) rfl ?_
  refine m_istore (lv2 := [(6, .int (iI f2)), (5, .int (iI f1)), (0, .ref h0), (1, .int (iI t)), (2, .int (iI q)), (3, .int (iI u)), (4, .int (iI x))]) C dX12_contracted_35 (by decide) rfl ?_
  refine m_iload (j := 1) C dX12_contracted_37 rfl ?_
  refine m_if_lt (tgt := 64) C ⟨by omega, by omega⟩ dX12_contracted_39 (by decide) (fun c1 => ?_) (fun c1 => ?_)
  · refine m_iload (j := 0) C dX12_contracted_64 rfl ?_
    refine m_goto (tgt := 71) C dX12_contracted_66 (by decide) ?_
    exact m_iret C dX12_contracted_71 rfl (Nat.le_of_ble_eq_true rfl) (Nat.le_of_ble_eq_true rfl) ⟨f2, rfl, fq2, bn1, (by omega)⟩
  · replace gf1 := gf1.resolve_left (fun q => by omega)
    refine m_iload (j := 0) C dX12_contracted_42 rfl ?_
    refine m_if_lt (tgt := 69) C ⟨by omega, by omega⟩ dX12_contracted_44 (by decide) (fun c2 => ?_) (fun c2 => ?_)
    · refine m_iload (j := 1) C dX12_contracted_69 rfl ?_
      exact m_iret C dX12_contracted_71 rfl (Nat.le_of_ble_eq_true rfl) (Nat.le_of_ble_eq_true rfl) ⟨f1, rfl, fq2, bn1, (by omega)⟩
    · refine m_aload_n (j := 2) C dX12_contracted_47 rfl ?_
      refine m_geta (k := 12) C dX12_contracted_48 w6_71 (by decide) rfl ?_
      refine m_iload (j := 0) C dX12_contracted_51 rfl ?_
      refine m_ald (k := 12) C dX12_contracted_53 rfl rfl (by decide) (by omega) (by show _ < ((_ : Nat) : Int); simp only [mlen]; omega) (by decide) ?_
      refine hv2 (show 0 ≤ ah2 12 f2.toNat ∧ ah2 12 f2.toNat ≤ 8 from bn1.2 12 (f2.toNat)) (show ah2 12 (f2.toNat) = a 12 (f2.toNat) from congrFun (fn1.2 12 rfl) (f2.toNat)) (fun ra4 ae1 => ?_)
      refine m_st (st2 := [.int (iI (a 12 f2.toNat))]) (congrArg (fun z => Value.int (iI z) :: []) (congrFun (fq2.2 12 rfl) (f2.toNat))) ?_
      refine m_aload_n (j := 2) C dX12_contracted_54 rfl ?_
      refine m_geta (k := 12) C dX12_contracted_55 w6_71 (by decide) rfl ?_
      refine m_iload (j := 1) C dX12_contracted_58 rfl ?_
      refine m_ald (k := 12) C dX12_contracted_60 rfl rfl (by decide) (by omega) (by show _ < ((_ : Nat) : Int); simp only [mlen]; omega) (by decide) ?_
      refine hv2 (show 0 ≤ ah2 12 f1.toNat ∧ ah2 12 f1.toNat ≤ 8 from bn1.2 12 (f1.toNat)) (show ah2 12 (f1.toNat) = a 12 (f1.toNat) from congrFun (fn1.2 12 rfl) (f1.toNat)) (fun ra5 ae2 => ?_)
      refine m_st (st2 := [.int (iI (a 12 f1.toNat)), .int (iI (a 12 f2.toNat))]) (congrArg (fun z => Value.int (iI z) :: [.int (iI (a 12 f2.toNat))]) (congrFun (fq2.2 12 rfl) (f1.toNat))) ?_
      refine m_icmp_le (tgt := 69) C ⟨by omega, by omega⟩ ⟨by omega, by omega⟩ dX12_contracted_61 (by decide) (fun c3 => ?_) (fun c3 => ?_)
      · refine m_iload (j := 1) C dX12_contracted_69 rfl ?_
        exact m_iret C dX12_contracted_71 rfl (Nat.le_of_ble_eq_true rfl) (Nat.le_of_ble_eq_true rfl) ⟨f1, rfl, fq2, bn1, (by omega)⟩
      · refine m_iload (j := 0) C dX12_contracted_64 rfl ?_
        refine m_goto (tgt := 71) C dX12_contracted_66 (by decide) ?_
        exact m_iret C dX12_contracted_71 rfl (Nat.le_of_ble_eq_true rfl) (Nat.le_of_ble_eq_true rfl) ⟨f2, rfl, fq2, bn1, (by omega)⟩
set_option maxHeartbeats 4000000 in
set_option maxRecDepth 100000 in
theorem M_find1 {l : Launch} {G : GT} {h0 : Nat} {ad ln : Nat → Nat} {v : Nat → Int} {a : Nat → Nat → Int} {d : Nat} {t q u x : Int} (hB : BX v a) (hT : TBL v a) (ht : 0 ≤ t ∧ t < v 4) (h4 : a 6 t.toNat ≤ 4) (hx : 0 ≤ q ∧ q ≤ x ∧ x < u ∧ u ≤ 500) (hd : 3 ≤ d) (hf : ∀ b : Int, 0 ≤ b → b < t → FindC l G h0 ad ln d b) : Mm l G yX12_find cX12_find 7 (some .int) (d + 2) [.int (iI t), .int (iI q), .int (iI u), .int (iI x)] h0 ad ln v a 0 0 (fun r v2 a2 => ∃ f : Int, r = some (.int (iI f)) ∧ fr [] [27] v a v2 a2 ∧ BX v2 a2 ∧ (f = -1 ∨ (0 ≤ f ∧ f < 6000 ∧ (1 ≤ a 12 f.toNat ∧ a 12 f.toNat ≤ 8) ∧ (1 ≤ a 13 f.toNat ∧ a 13 f.toNat ≤ 4) ∧ x + a 12 f.toNat ≤ u))) := by
  refine Mm.mk (by decide) (Nat.le_of_ble_eq_true rfl) ?_
  intro p e s m args below meth c A C
  refine hv2 (show 0 ≤ v 4 ∧ v 4 ≤ 30 from hB.1 4) (show fr [] [27] v a v a from fr.refl) (fun h30 fp0 => ?_)
  have ht0 := hT.1 t (by omega) (by omega)
  refine m_aload_n (j := 0) C dX12_find_0 rfl ?_
  refine m_geta (k := 27) C dX12_find_1 w6_86 (by decide) rfl ?_
  refine m_aload_n (j := 0) C dX12_find_4 rfl ?_
  refine m_geta (k := 6) C dX12_find_5 w6_65 (by decide) rfl ?_
  refine m_iload_n (j := 1) C dX12_find_8 rfl ?_
  refine m_ald (k := 6) C dX12_find_9 rfl rfl (by decide) (by omega) (by show _ < ((_ : Nat) : Int); simp only [mlen]; omega) (by decide) ?_
  have ra1 : 0 ≤ a 6 t.toNat ∧ a 6 t.toNat ≤ 5 := hB.2 6 (t.toNat)
  refine m_dup2 C dX12_find_10 rfl rfl ?_
  refine m_ald (k := 27) C dX12_find_11 rfl rfl (by decide) (by omega) (by show _ < ((_ : Nat) : Int); simp only [mlen]; omega) (by decide) ?_
  have ra2 : (-2147483648) ≤ a 27 (a 6 t.toNat).toNat ∧ a 27 (a 6 t.toNat).toNat ≤ 2147483647 := hB.2 27 ((a 6 t.toNat).toNat)
  refine m_iconst C dX12_find_12 ?_
  refine m_iadd C dX12_find_13 ?_
  obtain ⟨zz1, hzz1, ezz1⟩ := iI_of (iI ((a 27 (a 6 t.toNat).toNat) + 1))
  refine m_st (st2 := [.int (iI zz1), .int (iI (a 6 t.toNat)), .ref (ad 27)]) (by rw [ezz1]) ?_
  refine m_ast (k := 27) C dX12_find_14 rfl rfl (by decide) (by omega) (by show _ < ((_ : Nat) : Int); simp only [mlen]; omega) (by decide) ?_
  refine hv2 (show BX v (up2 a 27 (a 6 t.toNat).toNat zz1) from hB.set (k := 27) (i := (a 6 t.toNat).toNat) (z := zz1) (show (-2147483648) ≤ zz1 ∧ zz1 ≤ 2147483647 by omega)) (fp0.set (k := 27) (i := (a 6 t.toNat).toNat) (z := zz1) rfl) (fun bq1 fq1 => ?_)
  refine m_aload_n (j := 0) C dX12_find_15 rfl ?_
  refine m_geta (k := 6) C dX12_find_16 w6_65 (by decide) rfl ?_
  refine m_iload_n (j := 1) C dX12_find_19 rfl ?_
  refine m_ald (k := 6) C dX12_find_20 rfl rfl (by decide) (by omega) (by show _ < ((_ : Nat) : Int); simp only [mlen]; omega) (by decide) ?_
  refine m_st (st2 := [.int (iI (a 6 t.toNat))]) (congrArg (fun z => Value.int (iI z) :: []) (congrFun (fq1.2 6 rfl) (t.toNat))) ?_
  rcases (show (a 6 t.toNat) = 1 ∨ (a 6 t.toNat) = 2 ∨ (a 6 t.toNat) = 3 ∨ ((a 6 t.toNat) < 1 ∨ 3 < (a 6 t.toNat)) by omega) with sw1 | sw1 | sw1 | sw1
  · refine m_tabIn (tgt := 48) (off := 27) C (r32_c (lo := 0) (hi := 5) ra1.1 ra1.2 (by decide) (by decide)) dX12_find_21 (by omega) (by omega) (by rw [sw1]; rfl) (by decide) ?_
    refine m_aload_n (j := 0) C dX12_find_48 rfl ?_
    refine m_iload_n (j := 1) C dX12_find_49 rfl ?_
    refine m_iload_n (j := 2) C dX12_find_50 rfl ?_
    refine m_iload_n (j := 3) C dX12_find_51 rfl ?_
    refine m_iload (j := 4) C dX12_find_52 rfl ?_
    refine m_call (mc2 := 0) (ms2 := 0) (As := [.int (iI t), .int (iI q), .int (iI u), .int (iI x)]) (rest := []) C (M_contracted (t := t) (q := q) (u := u) (x := x) bq1 (hT.fr fq1 rfl rfl) (by show 0 ≤ t ∧ t < v 4; omega) (by show v 4 ≤ 30; omega) (by show 1 ≤ a 6 t.toNat ∧ a 6 t.toNat ≤ 3; omega) hx hd hf) dX12_find_54 kV_X12_215 rfl ck_13 rfl (Nat.le_of_ble_eq_true rfl) ⟨by dsimp only [rmq]; omega, by dsimp only [rmq]; omega⟩ ⟨Nat.le_of_ble_eq_true rfl, Nat.le_of_ble_eq_true rfl⟩ (fun rh1 vh1 ah1 h1 => ?_)
    obtain ⟨f1, rfl, fn1, bn1, ex1⟩ := h1
    refine hv2 (fq1.call fn1 rfl rfl) (show f1 = -1 ∨ (0 ≤ f1 ∧ f1 < 6000 ∧ (1 ≤ a 12 f1.toNat ∧ a 12 f1.toNat ≤ 8) ∧ (1 ≤ a 13 f1.toNat ∧ a 13 f1.toNat ≤ 4) ∧ x + a 12 f1.toNat ≤ u) from ex1) (fun fq2 ef1 => ?_)
    refine m_st (st2 := [.int (iI f1)]) rfl ?_
    exact m_iret C dX12_find_57 rfl (Nat.le_of_ble_eq_true rfl) (Nat.le_of_ble_eq_true rfl) ⟨f1, rfl, fq2, bn1, (by omega)⟩
  · refine m_tabIn (tgt := 58) (off := 37) C (r32_c (lo := 0) (hi := 5) ra1.1 ra1.2 (by decide) (by decide)) dX12_find_21 (by omega) (by omega) (by rw [sw1]; rfl) (by decide) ?_
    refine m_aload_n (j := 0) C dX12_find_58 rfl ?_
    refine m_geta (k := 20) C dX12_find_59 w6_79 (by decide) rfl ?_
    refine m_iload (j := 4) C dX12_find_62 rfl ?_
    refine m_ald (k := 20) C dX12_find_64 rfl rfl (by decide) (by omega) (by show _ < ((_ : Nat) : Int); simp only [mlen]; omega) (by decide) ?_
    have ra3 : (-2147483648) ≤ a 20 x.toNat ∧ a 20 x.toNat ≤ 2147483647 := bq1.2 20 (x.toNat)
    refine m_st (st2 := [.int (iI (a 20 x.toNat))]) (congrArg (fun z => Value.int (iI z) :: []) (congrFun (fq1.2 20 rfl) (x.toNat))) ?_
    refine m_callS (As := [.int (iI (a 20 x.toNat))]) (rest := []) C (fun L E => s_isDigit (iI (a 20 x.toNat))) dX12_find_65 kS_X12_202 rfl rfl (Nat.le_of_ble_eq_true rfl) ⟨by dsimp only [rmq]; omega, by dsimp only [rmq]; omega⟩ ⟨Nat.le_of_ble_eq_true rfl, Nat.le_of_ble_eq_true rfl⟩ ?_
    rcases inn_c (x := a 20 x.toNat) (lo := 48) (hi := 57) (r32_c (lo := (-2147483648)) (hi := 2147483647) ra3.1 ra3.2 (by decide) (by decide)) ⟨by decide, by decide⟩ ⟨by decide, by decide⟩ with ⟨h2a, h2b, h2e⟩ | ⟨h2a, h2e⟩
    · refine m_st (st2 := [.int (iI 1)]) (by rw [show inn (iI (a 20 x.toNat)) 48 57 = iI 1 from h2e]) ?_
      refine m_if_ne (tgt := 86) C ⟨by decide, by decide⟩ dX12_find_68 (by decide) (fun _ => ?_) (fun z => absurd z (by omega))
      refine m_aload_n (j := 0) C dX12_find_86 rfl ?_
      refine m_geta (k := 27) C dX12_find_87 w6_86 (by decide) rfl ?_
      refine m_iconst C dX12_find_90 ?_
      refine m_dup2 C dX12_find_91 rfl rfl ?_
      refine m_ald (k := 27) C dX12_find_92 rfl rfl (by decide) (by decide) (by decide) (by decide) ?_
      have ra4 : (-2147483648) ≤ (up2 a 27 (a 6 t.toNat).toNat zz1) 27 0 ∧ (up2 a 27 (a 6 t.toNat).toNat zz1) 27 0 ≤ 2147483647 := bq1.2 27 (0)
      refine m_st (st2 := [.int (iI ((up2 a 27 (a 6 t.toNat).toNat zz1) 27 0)), .int (iI 0), .ref (ad 27)]) rfl ?_
      refine m_iconst C dX12_find_93 ?_
      refine m_iadd C dX12_find_94 ?_
      obtain ⟨zz2, hzz2, ezz2⟩ := iI_of (iI (((up2 a 27 (a 6 t.toNat).toNat zz1) 27 0) + 1))
      refine m_st (st2 := [.int (iI zz2), .int (iI 0), .ref (ad 27)]) (by rw [ezz2]) ?_
      refine m_ast (k := 27) C dX12_find_95 rfl rfl (by decide) (by decide) (by decide) (by decide) ?_
      refine hv2 (show BX v (up2 (up2 a 27 (a 6 t.toNat).toNat zz1) 27 (0 : Int).toNat zz2) from bq1.set (k := 27) (i := (0 : Int).toNat) (z := zz2) (show (-2147483648) ≤ zz2 ∧ zz2 ≤ 2147483647 by omega)) (fq1.set (k := 27) (i := (0 : Int).toNat) (z := zz2) rfl) (fun bq2 fq3 => ?_)
      refine m_aload_n (j := 0) C dX12_find_96 rfl ?_
      refine m_iload_n (j := 1) C dX12_find_97 rfl ?_
      refine m_iload_n (j := 2) C dX12_find_98 rfl ?_
      refine m_iload_n (j := 3) C dX12_find_99 rfl ?_
      refine m_iload (j := 4) C dX12_find_100 rfl ?_
      have ra5 : 0 ≤ a 10 t.toNat ∧ a 10 t.toNat ≤ 200 := bq2.2 10 (t.toNat)
      refine m_call (mc2 := 0) (ms2 := 0) (As := [.int (iI t), .int (iI q), .int (iI u), .int (iI x)]) (rest := []) C (M_own (t := t) (q := q) (u := u) (x := x) bq2.rg (by omega) (bq2.2 10 _) (fun r h1 h2 => ((hT.fr fq3 rfl rfl).2 t r (by omega) (by omega) h1 h2).1) (by omega)) dX12_find_102 kV_X12_221 rfl ck_13 rfl (Nat.le_of_ble_eq_true rfl) ⟨by dsimp only [rmq]; omega, by dsimp only [rmq]; omega⟩ ⟨Nat.le_of_ble_eq_true rfl, Nat.le_of_ble_eq_true rfl⟩ (fun rh3 vh3 ah3 h3 => ?_)
      obtain ⟨f2, rfl, hf2, rfl, rfl⟩ := h3
      have gf2 : f2 = -1 ∨ ((1 ≤ (up2 (up2 a 27 (a 6 t.toNat).toNat zz1) 27 (0 : Int).toNat zz2) 12 f2.toNat ∧ (up2 (up2 a 27 (a 6 t.toNat).toNat zz1) 27 (0 : Int).toNat zz2) 12 f2.toNat ≤ 8) ∧ (1 ≤ (up2 (up2 a 27 (a 6 t.toNat).toNat zz1) 27 (0 : Int).toNat zz2) 13 f2.toNat ∧ (up2 (up2 a 27 (a 6 t.toNat).toNat zz1) 27 (0 : Int).toNat zz2) 13 f2.toNat ≤ 4)) := by
        rcases hf2 with q | q
        · exact Or.inl q
        · exact Or.inr ((hT.fr fq3 rfl rfl).2 t f2 (by omega) (by omega) q.1 q.2.1)
      refine hv2 (show f2 = -1 ∨ ((1 ≤ a 12 f2.toNat ∧ a 12 f2.toNat ≤ 8) ∧ (1 ≤ a 13 f2.toNat ∧ a 13 f2.toNat ≤ 4)) from gf2) (show f2 = -1 ∨ (200 * t ≤ f2 ∧ f2 < 200 * t + a 10 t.toNat ∧ x + a 12 f2.toNat ≤ u) from hf2) (fun ggf2 hhf2 => ?_)
      refine m_st (st2 := [.int (iI f2)]) rfl ?_
      exact m_iret C dX12_find_105 rfl (Nat.le_of_ble_eq_true rfl) (Nat.le_of_ble_eq_true rfl) ⟨f2, rfl, fq3, bq2, (by omega)⟩
    · refine m_st (st2 := [.int (iI 0)]) (by rw [show inn (iI (a 20 x.toNat)) 48 57 = iI 0 from h2e]) ?_
      refine m_if_ne (tgt := 86) C ⟨by decide, by decide⟩ dX12_find_68 (by decide) (fun z => absurd z (by omega)) (fun _ => ?_)
      refine m_aload_n (j := 0) C dX12_find_71 rfl ?_
      refine m_aload_n (j := 0) C dX12_find_72 rfl ?_
      refine m_geta (k := 8) C dX12_find_73 w6_67 (by decide) rfl ?_
      refine m_iload_n (j := 1) C dX12_find_76 rfl ?_
      refine m_ald (k := 8) C dX12_find_77 rfl rfl (by decide) (by omega) (by show _ < ((_ : Nat) : Int); simp only [mlen]; omega) (by decide) ?_
      have ra6 : (-1) ≤ a 8 t.toNat ∧ a 8 t.toNat ≤ 29 := bq1.2 8 (t.toNat)
      refine m_st (st2 := [.int (iI (a 8 t.toNat)), .ref h0]) (congrArg (fun z => Value.int (iI z) :: [.ref h0]) (congrFun (fq1.2 8 rfl) (t.toNat))) ?_
      refine m_iload_n (j := 2) C dX12_find_78 rfl ?_
      refine m_iload_n (j := 3) C dX12_find_79 rfl ?_
      refine m_iload (j := 4) C dX12_find_80 rfl ?_
      refine m_call (mc2 := 0) (ms2 := 0) (As := [.int (iI (a 8 t.toNat)), .int (iI q), .int (iI u), .int (iI x)]) (rest := []) C (hf (a 8 t.toNat) (by omega) (by omega) _ _ q u x bq1 (hT.fr fq1 rfl rfl) (by show a 8 t.toNat < v 4; omega) (by show a 6 (a 8 t.toNat).toNat ≤ 4; omega) (by omega)) dX12_find_82 kV_X12_218 rfl ck_13 rfl (Nat.le_of_ble_eq_true rfl) ⟨by dsimp only [rmq]; omega, by dsimp only [rmq]; omega⟩ ⟨Nat.le_of_ble_eq_true rfl, Nat.le_of_ble_eq_true rfl⟩ (fun rh4 vh4 ah4 h4 => ?_)
      obtain ⟨f3, rfl, fn2, bn2, ex2⟩ := h4
      refine hv2 (fq1.call fn2 rfl rfl) (show f3 = -1 ∨ (0 ≤ f3 ∧ f3 < 6000 ∧ (1 ≤ a 12 f3.toNat ∧ a 12 f3.toNat ≤ 8) ∧ (1 ≤ a 13 f3.toNat ∧ a 13 f3.toNat ≤ 4) ∧ x + a 12 f3.toNat ≤ u) from ex2) (fun fq4 ef3 => ?_)
      refine m_st (st2 := [.int (iI f3)]) rfl ?_
      exact m_iret C dX12_find_85 rfl (Nat.le_of_ble_eq_true rfl) (Nat.le_of_ble_eq_true rfl) ⟨f3, rfl, fq4, bn2, (by omega)⟩
  · refine m_tabIn (tgt := 106) (off := 85) C (r32_c (lo := 0) (hi := 5) ra1.1 ra1.2 (by decide) (by decide)) dX12_find_21 (by omega) (by omega) (by rw [sw1]; rfl) (by decide) ?_
    refine m_aload_n (j := 0) C dX12_find_106 rfl ?_
    refine m_geta (k := 27) C dX12_find_107 w6_86 (by decide) rfl ?_
    refine m_iconst C dX12_find_110 ?_
    refine m_dup2 C dX12_find_111 rfl rfl ?_
    refine m_ald (k := 27) C dX12_find_112 rfl rfl (by decide) (by decide) (by decide) (by decide) ?_
    have ra7 : (-2147483648) ≤ (up2 a 27 (a 6 t.toNat).toNat zz1) 27 1 ∧ (up2 a 27 (a 6 t.toNat).toNat zz1) 27 1 ≤ 2147483647 := bq1.2 27 (1)
    refine m_st (st2 := [.int (iI ((up2 a 27 (a 6 t.toNat).toNat zz1) 27 1)), .int (iI 1), .ref (ad 27)]) rfl ?_
    refine m_iconst C dX12_find_113 ?_
    refine m_iadd C dX12_find_114 ?_
    obtain ⟨zz3, hzz3, ezz3⟩ := iI_of (iI (((up2 a 27 (a 6 t.toNat).toNat zz1) 27 1) + 1))
    refine m_st (st2 := [.int (iI zz3), .int (iI 1), .ref (ad 27)]) (by rw [ezz3]) ?_
    refine m_ast (k := 27) C dX12_find_115 rfl rfl (by decide) (by decide) (by decide) (by decide) ?_
    refine hv2 (show BX v (up2 (up2 a 27 (a 6 t.toNat).toNat zz1) 27 (1 : Int).toNat zz3) from bq1.set (k := 27) (i := (1 : Int).toNat) (z := zz3) (show (-2147483648) ≤ zz3 ∧ zz3 ≤ 2147483647 by omega)) (fq1.set (k := 27) (i := (1 : Int).toNat) (z := zz3) rfl) (fun bq3 fq5 => ?_)
    refine m_aload_n (j := 0) C dX12_find_116 rfl ?_
    refine m_geta (k := 20) C dX12_find_117 w6_79 (by decide) rfl ?_
    refine m_iload (j := 4) C dX12_find_120 rfl ?_
    refine m_ald (k := 20) C dX12_find_122 rfl rfl (by decide) (by omega) (by show _ < ((_ : Nat) : Int); simp only [mlen]; omega) (by decide) ?_
    have ra8 : (-2147483648) ≤ a 20 x.toNat ∧ a 20 x.toNat ≤ 2147483647 := bq3.2 20 (x.toNat)
    refine m_st (st2 := [.int (iI (a 20 x.toNat))]) (congrArg (fun z => Value.int (iI z) :: []) (congrFun (fq5.2 20 rfl) (x.toNat))) ?_
    refine m_istore (lv2 := [(5, .int (iI (a 20 x.toNat))), (0, .ref h0), (1, .int (iI t)), (2, .int (iI q)), (3, .int (iI u)), (4, .int (iI x))]) C dX12_find_123 (by decide) rfl ?_
    refine m_aload_n (j := 1) C dX12_find_125 rfl ?_
    refine m_geta (k := 20) C dX12_find_126 w6_79 (by decide) rfl ?_
    refine m_iload (j := 5) C dX12_find_129 rfl ?_
    refine m_iload (j := 0) C dX12_find_131 rfl ?_
    refine m_callS (As := [.int (iI (a 20 x.toNat))]) (rest := [.int (iI x), .ref (ad 20)]) C (fun L E => s_isGreat (iI (a 20 x.toNat))) dX12_find_133 kS_X12_205 rfl rfl (Nat.le_of_ble_eq_true rfl) ⟨by dsimp only [rmq]; omega, by dsimp only [rmq]; omega⟩ ⟨Nat.le_of_ble_eq_true rfl, Nat.le_of_ble_eq_true rfl⟩ ?_
    rcases inn_c (x := a 20 x.toNat) (lo := 65) (hi := 90) (r32_c (lo := (-2147483648)) (hi := 2147483647) ra8.1 ra8.2 (by decide) (by decide)) ⟨by decide, by decide⟩ ⟨by decide, by decide⟩ with ⟨h5a, h5b, h5e⟩ | ⟨h5a, h5e⟩
    · refine m_st (st2 := [.int (iI 1), .int (iI x), .ref (ad 20)]) (by rw [show inn (iI (a 20 x.toNat)) 65 90 = iI 1 from h5e]) ?_
      refine m_if_eq (tgt := 147) C ⟨by decide, by decide⟩ dX12_find_136 (by decide) (fun z => absurd z (by omega)) (fun _ => ?_)
      refine m_iload (j := 0) C dX12_find_139 rfl ?_
      refine m_bipush (z := 32) C dX12_find_141 (by decide) ?_
      refine m_iadd C dX12_find_143 ?_
      refine m_goto (tgt := 149) C dX12_find_144 (by decide) ?_
      refine m_ast (k := 20) C dX12_find_149 rfl rfl (by decide) (by omega) (by show _ < ((_ : Nat) : Int); simp only [mlen]; omega) (by decide) ?_
      refine hv2 (show BX v (up2 (up2 (up2 a 27 (a 6 t.toNat).toNat zz1) 27 (1 : Int).toNat zz3) 20 x.toNat ((a 20 x.toNat) + 32)) from bq3.set (k := 20) (i := x.toNat) (z := (a 20 x.toNat) + 32) (show (-2147483648) ≤ ((a 20 x.toNat) + 32) ∧ ((a 20 x.toNat) + 32) ≤ 2147483647 by omega)) (show fr [] [20, 27] v a v (up2 (up2 (up2 a 27 (a 6 t.toNat).toNat zz1) 27 (1 : Int).toNat zz3) 20 x.toNat ((a 20 x.toNat) + 32)) from ((fr.refl (V := []) (A := [20, 27])).call fq5 rfl rfl).set (k := 20) (i := x.toNat) (z := (a 20 x.toNat) + 32) rfl) (fun bq4 fw1 => ?_)
      refine m_aload_n (j := 1) C dX12_find_150 rfl ?_
      refine m_iload_n (j := 2) C dX12_find_151 rfl ?_
      refine m_iload_n (j := 3) C dX12_find_152 rfl ?_
      refine m_iload_n (j := 4) C dX12_find_153 rfl ?_
      refine m_iload (j := 5) C dX12_find_154 rfl ?_
      refine m_call (mc2 := 0) (ms2 := 0) (As := [.int (iI t), .int (iI q), .int (iI u), .int (iI x)]) (rest := []) C (M_contracted (t := t) (q := q) (u := u) (x := x) bq4 (hT.fr fw1 rfl rfl) (by show 0 ≤ t ∧ t < v 4; omega) (by show v 4 ≤ 30; omega) (by show 1 ≤ a 6 t.toNat ∧ a 6 t.toNat ≤ 3; omega) hx hd hf) dX12_find_156 kV_X12_215 rfl ck_13 rfl (Nat.le_of_ble_eq_true rfl) ⟨by dsimp only [rmq]; omega, by dsimp only [rmq]; omega⟩ ⟨Nat.le_of_ble_eq_true rfl, Nat.le_of_ble_eq_true rfl⟩ (fun rh6 vh6 ah6 h6 => ?_)
      obtain ⟨f4, rfl, fn3, bn3, ex3⟩ := h6
      have ef4 : f4 = -1 ∨ (0 ≤ f4 ∧ f4 < 6000 ∧ (1 ≤ a 12 f4.toNat ∧ a 12 f4.toNat ≤ 8) ∧ (1 ≤ a 13 f4.toNat ∧ a 13 f4.toNat ≤ 4) ∧ x + a 12 f4.toNat ≤ u) := ex3
      refine m_st (st2 := [.int (iI f4)]) rfl ?_
      refine m_istore (lv2 := [(6, .int (iI f4)), (5, .int (iI (a 20 x.toNat))), (0, .ref h0), (1, .int (iI t)), (2, .int (iI q)), (3, .int (iI u)), (4, .int (iI x))]) C dX12_find_159 (by decide) rfl ?_
      refine m_aload_n (j := 2) C dX12_find_161 rfl ?_
      refine m_geta (k := 20) C dX12_find_162 w6_79 (by decide) rfl ?_
      refine m_iload (j := 6) C dX12_find_165 rfl ?_
      refine m_iload (j := 1) C dX12_find_167 rfl ?_
      refine m_ast (k := 20) C dX12_find_169 rfl rfl (by decide) (by omega) (by show _ < ((_ : Nat) : Int); simp only [mlen]; omega) (by decide) ?_
      refine hv2 (show BX vh6 (up2 ah6 20 x.toNat (a 20 x.toNat)) from bn3.set (k := 20) (i := x.toNat) (z := a 20 x.toNat) (show (-2147483648) ≤ (a 20 x.toNat) ∧ (a 20 x.toNat) ≤ 2147483647 by omega)) (fq5.back fn3 rfl rfl (k := 20) (i := x.toNat) (y := a 20 x.toNat) rfl) (fun bq5 fq8 => ?_)
      refine m_iload (j := 0) C dX12_find_170 rfl ?_
      exact m_iret C dX12_find_172 rfl (Nat.le_of_ble_eq_true rfl) (Nat.le_of_ble_eq_true rfl) ⟨f4, rfl, fq8, bq5, (by omega)⟩
    · refine m_st (st2 := [.int (iI 0), .int (iI x), .ref (ad 20)]) (by rw [show inn (iI (a 20 x.toNat)) 65 90 = iI 0 from h5e]) ?_
      refine m_if_eq (tgt := 147) C ⟨by decide, by decide⟩ dX12_find_136 (by decide) (fun _ => ?_) (fun z => absurd z (by omega))
      refine m_iload (j := 0) C dX12_find_147 rfl ?_
      refine m_ast (k := 20) C dX12_find_149 rfl rfl (by decide) (by omega) (by show _ < ((_ : Nat) : Int); simp only [mlen]; omega) (by decide) ?_
      refine hv2 (show BX v (up2 (up2 (up2 a 27 (a 6 t.toNat).toNat zz1) 27 (1 : Int).toNat zz3) 20 x.toNat (a 20 x.toNat)) from bq3.set (k := 20) (i := x.toNat) (z := a 20 x.toNat) (show (-2147483648) ≤ (a 20 x.toNat) ∧ (a 20 x.toNat) ≤ 2147483647 by omega)) (show fr [] [20, 27] v a v (up2 (up2 (up2 a 27 (a 6 t.toNat).toNat zz1) 27 (1 : Int).toNat zz3) 20 x.toNat (a 20 x.toNat)) from ((fr.refl (V := []) (A := [20, 27])).call fq5 rfl rfl).set (k := 20) (i := x.toNat) (z := a 20 x.toNat) rfl) (fun bq6 fw2 => ?_)
      refine m_aload_n (j := 1) C dX12_find_150 rfl ?_
      refine m_iload_n (j := 2) C dX12_find_151 rfl ?_
      refine m_iload_n (j := 3) C dX12_find_152 rfl ?_
      refine m_iload_n (j := 4) C dX12_find_153 rfl ?_
      refine m_iload (j := 5) C dX12_find_154 rfl ?_
      refine m_call (mc2 := 0) (ms2 := 0) (As := [.int (iI t), .int (iI q), .int (iI u), .int (iI x)]) (rest := []) C (M_contracted (t := t) (q := q) (u := u) (x := x) bq6 (hT.fr fw2 rfl rfl) (by show 0 ≤ t ∧ t < v 4; omega) (by show v 4 ≤ 30; omega) (by show 1 ≤ a 6 t.toNat ∧ a 6 t.toNat ≤ 3; omega) hx hd hf) dX12_find_156 kV_X12_215 rfl ck_13 rfl (Nat.le_of_ble_eq_true rfl) ⟨by dsimp only [rmq]; omega, by dsimp only [rmq]; omega⟩ ⟨Nat.le_of_ble_eq_true rfl, Nat.le_of_ble_eq_true rfl⟩ (fun rh7 vh7 ah7 h7 => ?_)
      obtain ⟨f5, rfl, fn4, bn4, ex4⟩ := h7
      have ef5 : f5 = -1 ∨ (0 ≤ f5 ∧ f5 < 6000 ∧ (1 ≤ a 12 f5.toNat ∧ a 12 f5.toNat ≤ 8) ∧ (1 ≤ a 13 f5.toNat ∧ a 13 f5.toNat ≤ 4) ∧ x + a 12 f5.toNat ≤ u) := ex4
      refine m_st (st2 := [.int (iI f5)]) rfl ?_
      refine m_istore (lv2 := [(6, .int (iI f5)), (5, .int (iI (a 20 x.toNat))), (0, .ref h0), (1, .int (iI t)), (2, .int (iI q)), (3, .int (iI u)), (4, .int (iI x))]) C dX12_find_159 (by decide) rfl ?_
      refine m_aload_n (j := 2) C dX12_find_161 rfl ?_
      refine m_geta (k := 20) C dX12_find_162 w6_79 (by decide) rfl ?_
      refine m_iload (j := 6) C dX12_find_165 rfl ?_
      refine m_iload (j := 1) C dX12_find_167 rfl ?_
      refine m_ast (k := 20) C dX12_find_169 rfl rfl (by decide) (by omega) (by show _ < ((_ : Nat) : Int); simp only [mlen]; omega) (by decide) ?_
      refine hv2 (show BX vh7 (up2 ah7 20 x.toNat (a 20 x.toNat)) from bn4.set (k := 20) (i := x.toNat) (z := a 20 x.toNat) (show (-2147483648) ≤ (a 20 x.toNat) ∧ (a 20 x.toNat) ≤ 2147483647 by omega)) (fq5.back fn4 rfl rfl (k := 20) (i := x.toNat) (y := a 20 x.toNat) rfl) (fun bq7 fq11 => ?_)
      refine m_iload (j := 0) C dX12_find_170 rfl ?_
      exact m_iret C dX12_find_172 rfl (Nat.le_of_ble_eq_true rfl) (Nat.le_of_ble_eq_true rfl) ⟨f5, rfl, fq11, bq7, (by omega)⟩
  · refine m_tabOut (tgt := 173) C (r32_c (lo := 0) (hi := 5) ra1.1 ra1.2 (by decide) (by decide)) dX12_find_21 sw1 (by decide) ?_
    refine m_aload_n (j := 0) C dX12_find_173 rfl ?_
    refine m_iload_n (j := 1) C dX12_find_174 rfl ?_
    refine m_iload_n (j := 2) C dX12_find_175 rfl ?_
    refine m_iload_n (j := 3) C dX12_find_176 rfl ?_
    refine m_iload (j := 4) C dX12_find_177 rfl ?_
    have ra9 : 0 ≤ a 10 t.toNat ∧ a 10 t.toNat ≤ 200 := bq1.2 10 (t.toNat)
    refine m_call (mc2 := 0) (ms2 := 0) (As := [.int (iI t), .int (iI q), .int (iI u), .int (iI x)]) (rest := []) C (M_own (t := t) (q := q) (u := u) (x := x) bq1.rg (by omega) (bq1.2 10 _) (fun r h1 h2 => ((hT.fr fq1 rfl rfl).2 t r (by omega) (by omega) h1 h2).1) (by omega)) dX12_find_179 kV_X12_221 rfl ck_13 rfl (Nat.le_of_ble_eq_true rfl) ⟨by dsimp only [rmq]; omega, by dsimp only [rmq]; omega⟩ ⟨Nat.le_of_ble_eq_true rfl, Nat.le_of_ble_eq_true rfl⟩ (fun rh8 vh8 ah8 h8 => ?_)
    obtain ⟨f6, rfl, hf6, rfl, rfl⟩ := h8
    have gf6 : f6 = -1 ∨ ((1 ≤ (up2 a 27 (a 6 t.toNat).toNat zz1) 12 f6.toNat ∧ (up2 a 27 (a 6 t.toNat).toNat zz1) 12 f6.toNat ≤ 8) ∧ (1 ≤ (up2 a 27 (a 6 t.toNat).toNat zz1) 13 f6.toNat ∧ (up2 a 27 (a 6 t.toNat).toNat zz1) 13 f6.toNat ≤ 4)) := by
      rcases hf6 with q | q
      · exact Or.inl q
      · exact Or.inr ((hT.fr fq1 rfl rfl).2 t f6 (by omega) (by omega) q.1 q.2.1)
    refine hv2 (show f6 = -1 ∨ ((1 ≤ a 12 f6.toNat ∧ a 12 f6.toNat ≤ 8) ∧ (1 ≤ a 13 f6.toNat ∧ a 13 f6.toNat ≤ 4)) from gf6) (show f6 = -1 ∨ (200 * t ≤ f6 ∧ f6 < 200 * t + a 10 t.toNat ∧ x + a 12 f6.toNat ≤ u) from hf6) (fun ggf6 hhf6 => ?_)
    refine m_st (st2 := [.int (iI f6)]) rfl ?_
    exact m_iret C dX12_find_182 rfl (Nat.le_of_ble_eq_true rfl) (Nat.le_of_ble_eq_true rfl) ⟨f6, rfl, fq1, bq1, (by omega)⟩
theorem M_findN {l : Launch} {G : GT} {h0 : Nat} {ad ln : Nat → Nat} : ∀ (n : Nat) (t : Int), 0 ≤ t → t < (n : Int) → FindC l G h0 ad ln (2 * n + 3) t := by
  intro n
  induction n with
  | zero => intro t h1 h2; omega
  | succ n ih =>
    intro t h1 h2 v a q u x hB hT ht h4 hx
    exact M_find1 (d := 2 * n + 3) hB hT ⟨h1, ht⟩ h4 hx (by omega) (fun b hb hb2 => ih b hb (by omega))
theorem M_find {l : Launch} {G : GT} {h0 : Nat} {ad ln : Nat → Nat} {v : Nat → Int} {a : Nat → Nat → Int} {t q u x : Int} (hB : BX v a) (hT : TBL v a) (ht : 0 ≤ t ∧ t < v 4) (h4 : a 6 t.toNat ≤ 4) (hx : 0 ≤ q ∧ q ≤ x ∧ x < u ∧ u ≤ 500) : Mm l G yX12_find cX12_find 7 (some .int) 63 [.int (iI t), .int (iI q), .int (iI u), .int (iI x)] h0 ad ln v a 0 0 (fun r v2 a2 => ∃ f : Int, r = some (.int (iI f)) ∧ fr [] [27] v a v2 a2 ∧ BX v2 a2 ∧ (f = -1 ∨ (0 ≤ f ∧ f < 6000 ∧ (1 ≤ a 12 f.toNat ∧ a 12 f.toNat ≤ 8) ∧ (1 ≤ a 13 f.toNat ∧ a 13 f.toNat ≤ 4) ∧ x + a 12 f.toNat ≤ u))) := M_findN 30 t ht.1 (by have := hB.1 4; have e : vhi 4 = 30 := rfl; omega) v a q u x hB hT ht.2 h4 hx
end
section
theorem W_putIndicator {v v2 : Nat → Int} {a a2 : Nat → Nat → Int} {r : Option Value} {t w1 : Int} (hB : BX v a) (h25 : v 25 ≤ 204) (h : (fun r v2 a2 => r = none ∧ v2 = va_up v 25 (v 25 + a 16 (4 * t + w1).toNat) ∧ (∀ j, j ≠ 24 → a2 j = a j) ∧ RG v2 a2) r v2 a2) : (fun r v2 a2 => r = none ∧ fr [25] [24] v a v2 a2 ∧ BX v2 a2 ∧ (v2 25 = v 25 + a 16 (4 * t + w1).toNat)) r v2 a2 := by
  obtain ⟨rfl, rfl, ha, hr⟩ := h
  refine hv2 (show 0 ≤ a 16 (4 * t + w1).toNat ∧ a 16 (4 * t + w1).toNat ≤ 4 from hB.2 16 _) (show 0 ≤ v 25 ∧ v 25 ≤ 208 from hB.1 25) (fun h16 q25 => ?_)
  refine ⟨rfl, ⟨fun j hj => va_up_ne _ _ (by rintro rfl; exact absurd hj (by decide)), fun j hj => ha j (by rintro rfl; exact absurd hj (by decide))⟩, hB.re hr (fun k => ?_) (fun k => ?_), rfl⟩
  · by_cases e : k = 25
    · subst e; refine Or.inl (Or.inr ?_); rw [va_up_self]; exact (show 0 ≤ _ ∧ _ ≤ 208 by omega)
    · exact Or.inl (Or.inl (va_up_ne _ _ e))
  · by_cases e : k = 24
    · subst e; exact Or.inr ⟨rfl, rfl⟩
    · exact Or.inl (Or.inl (ha k e))
end
section
set_option maxHeartbeats 4000000 in
set_option maxRecDepth 100000 in
theorem M_setPart {l : Launch} {G : GT} {h0 : Nat} {ad ln : Nat → Nat} {v : Nat → Int} {a : Nat → Nat → Int}  {t q u : Int} (hB : BX v a) (hT : TBL v a) (ht : 0 ≤ t ∧ t < v 4) (h4 : a 6 t.toNat ≤ 4) (hx : 0 ≤ q ∧ q ≤ u ∧ u ≤ 500) (h25 : v 25 ≤ 200) : Mm l G yX12_setPart cX12_setPart 8 (some .boolean) 64 [.int (iI t), .int (iI q), .int (iI u)] h0 ad ln v a 0 0 (fun r v2 a2 => ∃ f : Int, r = some (.int (iI f)) ∧ fr [25, 28] [20, 24, 26, 27] v a v2 a2 ∧ BX v2 a2 ∧ (f = 0 ∨ (f = 1 ∧ v2 25 ≤ 200))) := by
  refine Mm.mk (by decide) (Nat.le_of_ble_eq_true rfl) ?_
  intro p e s m args below meth c A C
  refine hv2 (show 0 ≤ v 4 ∧ v 4 ≤ 30 from hB.1 4) (show fr [25, 28] [20, 24, 26, 27] v a v a from fr.refl) (fun h30 fp0 => ?_)
  refine m_iload_n (j := 2) C dX12_setPart_0 rfl ?_
  refine m_istore (lv2 := [(4, .int (iI q)), (0, .ref h0), (1, .int (iI t)), (2, .int (iI q)), (3, .int (iI u))]) C dX12_setPart_1 (by decide) rfl ?_
  have Lp1 : ∀ (nn : Nat) (x : Int) (vb1 : Nat → Int) (ab1 : Nat → Nat → Int), 501 - x < (nn : Int) → BX vb1 ab1 → fr [25, 28] [20, 24, 26, 27] v a vb1 ab1 → (q ≤ x ∧ x ≤ u) → (vb1 25 ≤ 200) → mw p l e (rmq 64 0 0) s m args below meth c G A 8 (MQ below (Qm G A (fun rq Lq Eq => ∃ (vq : Nat → Int) (aq : Nat → Nat → Int), mI G h0 ad ln vq aq Lq Eq ∧ (fun r v2 a2 => ∃ f : Int, r = some (.int (iI f)) ∧ fr [25, 28] [20, 24, 26, 27] v a v2 a2 ∧ BX v2 a2 ∧ (f = 0 ∨ (f = 1 ∧ v2 25 ≤ 200))) rq vq aq)) args s 0 0 A) h0 ad ln vb1 ab1 0 0 3 [(4, .int (iI x)), (0, .ref h0), (1, .int (iI t)), (2, .int (iI q)), (3, .int (iI u))] [] := by
    intro nn
    induction nn with
    | zero =>
      intro x vb1 ab1 hm bxb1 fpb1 hq hb
      exact absurd hm (by omega)
    | succ nn ih1 =>
      intro x vb1 ab1 hm bxb1 fpb1 hq hb
      refine m_iload (j := 0) C dX12_setPart_3 rfl ?_
      refine m_iload_n (j := 4) C dX12_setPart_5 rfl ?_
      refine m_icmp_ge (tgt := 278) C ⟨by omega, by omega⟩ ⟨by omega, by omega⟩ dX12_setPart_6 (by decide) (fun c1 => ?_) (fun c1 => ?_)
      · refine m_iconst C dX12_setPart_278 ?_
        exact m_zret C dX12_setPart_279 rfl (Or.inr rfl) (Nat.le_of_ble_eq_true rfl) (Nat.le_of_ble_eq_true rfl) ⟨1, rfl, fpb1, bxb1, (Or.inr ⟨rfl, hb⟩)⟩
      · refine m_aload_n (j := 1) C dX12_setPart_9 rfl ?_
        refine m_geta (k := 20) C dX12_setPart_10 w6_79 (by decide) rfl ?_
        refine m_iload (j := 0) C dX12_setPart_13 rfl ?_
        refine m_ald (k := 20) C dX12_setPart_15 rfl rfl (by decide) (by omega) (by show _ < ((_ : Nat) : Int); simp only [mlen]; omega) (by decide) ?_
        have ra1 : (-2147483648) ≤ ab1 20 x.toNat ∧ ab1 20 x.toNat ≤ 2147483647 := bxb1.2 20 (x.toNat)
        refine m_istore (lv2 := [(5, .int (iI (ab1 20 x.toNat))), (4, .int (iI x)), (0, .ref h0), (1, .int (iI t)), (2, .int (iI q)), (3, .int (iI u))]) C dX12_setPart_16 (by decide) rfl ?_
        have J1 : ∀ (r : Int) (vb2 : Nat → Int) (ab2 : Nat → Nat → Int), BX vb2 ab2 → fr [25, 28] [20, 24, 26, 27] v a vb2 ab2 → (r = -1 ∨ (0 ≤ r ∧ r < 6000 ∧ (1 ≤ a 12 r.toNat ∧ a 12 r.toNat ≤ 8) ∧ (1 ≤ a 13 r.toNat ∧ a 13 r.toNat ≤ 4) ∧ x + a 12 r.toNat ≤ u)) → (vb2 25 ≤ 208) → mw p l e (rmq 64 0 0) s m args below meth c G A 8 (MQ below (Qm G A (fun rq Lq Eq => ∃ (vq : Nat → Int) (aq : Nat → Nat → Int), mI G h0 ad ln vq aq Lq Eq ∧ (fun r v2 a2 => ∃ f : Int, r = some (.int (iI f)) ∧ fr [25, 28] [20, 24, 26, 27] v a v2 a2 ∧ BX v2 a2 ∧ (f = 0 ∨ (f = 1 ∧ v2 25 ≤ 200))) rq vq aq)) args s 0 0 A) h0 ad ln vb2 ab2 0 0 159 [(6, .int (iI r)), (5, .int (iI (ab1 20 x.toNat))), (4, .int (iI x)), (0, .ref h0), (1, .int (iI t)), (2, .int (iI q)), (3, .int (iI u))] [] := by
          intro r vb2 ab2 bxb2 fpb2 hr hb3
          refine m_iload (j := 0) C dX12_setPart_159 rfl ?_
          refine m_if_ge (tgt := 177) C ⟨by omega, by omega⟩ dX12_setPart_161 (by decide) (fun c2 => ?_) (fun c2 => ?_)
          · refine m_aload_n (j := 3) C dX12_setPart_177 rfl ?_
            have rv1 : 0 ≤ vb2 25 ∧ vb2 25 ≤ 208 := bxb2.1 25
            refine m_get (k := 25) C dX12_setPart_178 w6_84 (by decide) rfl ?_
            refine m_aload_n (j := 3) C dX12_setPart_181 rfl ?_
            refine m_geta (k := 13) C dX12_setPart_182 w6_72 (by decide) rfl ?_
            refine m_iload (j := 0) C dX12_setPart_185 rfl ?_
            refine m_ald (k := 13) C dX12_setPart_187 rfl rfl (by decide) (by omega) (by show _ < ((_ : Nat) : Int); simp only [mlen]; omega) (by decide) ?_
            refine hv2 (show 0 ≤ ab2 13 r.toNat ∧ ab2 13 r.toNat ≤ 4 from bxb2.2 13 (r.toNat)) (show ab2 13 (r.toNat) = a 13 (r.toNat) from congrFun (fpb2.2 13 rfl) (r.toNat)) (fun ra2 ae1 => ?_)
            refine m_st (st2 := [.int (iI (a 13 r.toNat)), .int (iI (vb2 25))]) (congrArg (fun z => Value.int (iI z) :: [.int (iI (vb2 25))]) (congrFun (fpb2.2 13 rfl) (r.toNat))) ?_
            refine m_iadd C dX12_setPart_188 ?_
            refine m_sipush (z := 200) C dX12_setPart_189 (by decide) ?_
            refine m_icmp_le (tgt := 202) C ⟨by omega, by omega⟩ ⟨by decide, by decide⟩ dX12_setPart_192 (by decide) (fun c3 => ?_) (fun c3 => ?_)
            · refine m_iconst C dX12_setPart_202 ?_
              refine m_istore (lv2 := [(7, .int (iI 0)), (6, .int (iI r)), (5, .int (iI (ab1 20 x.toNat))), (4, .int (iI x)), (0, .ref h0), (1, .int (iI t)), (2, .int (iI q)), (3, .int (iI u))]) C dX12_setPart_203 (by decide) rfl ?_
              have Lp2 : ∀ (nn : Nat) (k : Int) (vb3 : Nat → Int) (ab3 : Nat → Nat → Int), 5 - k < (nn : Int) → BX vb3 ab3 → fr [25, 28] [20, 24, 26, 27] v a vb3 ab3 → (0 ≤ k ∧ k ≤ a 13 r.toNat) → (vb3 25 + a 13 r.toNat ≤ 200) → mw p l e (rmq 64 0 0) s m args below meth c G A 8 (MQ below (Qm G A (fun rq Lq Eq => ∃ (vq : Nat → Int) (aq : Nat → Nat → Int), mI G h0 ad ln vq aq Lq Eq ∧ (fun r v2 a2 => ∃ f : Int, r = some (.int (iI f)) ∧ fr [25, 28] [20, 24, 26, 27] v a v2 a2 ∧ BX v2 a2 ∧ (f = 0 ∨ (f = 1 ∧ v2 25 ≤ 200))) rq vq aq)) args s 0 0 A) h0 ad ln vb3 ab3 0 0 205 [(7, .int (iI k)), (6, .int (iI r)), (5, .int (iI (ab1 20 x.toNat))), (4, .int (iI x)), (0, .ref h0), (1, .int (iI t)), (2, .int (iI q)), (3, .int (iI u))] [] := by
                intro nn
                induction nn with
                | zero =>
                  intro k vb3 ab3 hm bxb3 fpb3 hk hb4
                  exact absurd hm (by omega)
                | succ nn ih2 =>
                  intro k vb3 ab3 hm bxb3 fpb3 hk hb4
                  refine m_iload (j := 0) C dX12_setPart_205 rfl ?_
                  refine m_aload_n (j := 4) C dX12_setPart_207 rfl ?_
                  refine m_geta (k := 13) C dX12_setPart_208 w6_72 (by decide) rfl ?_
                  refine m_iload (j := 1) C dX12_setPart_211 rfl ?_
                  refine m_ald (k := 13) C dX12_setPart_213 rfl rfl (by decide) (by omega) (by show _ < ((_ : Nat) : Int); simp only [mlen]; omega) (by decide) ?_
                  refine hv2 (show 0 ≤ ab3 13 r.toNat ∧ ab3 13 r.toNat ≤ 4 from bxb3.2 13 (r.toNat)) (show ab3 13 (r.toNat) = a 13 (r.toNat) from congrFun (fpb3.2 13 rfl) (r.toNat)) (fun ra3 ae2 => ?_)
                  refine m_st (st2 := [.int (iI (a 13 r.toNat)), .int (iI k)]) (congrArg (fun z => Value.int (iI z) :: [.int (iI k)]) (congrFun (fpb3.2 13 rfl) (r.toNat))) ?_
                  refine m_icmp_ge (tgt := 247) C ⟨by omega, by omega⟩ ⟨by omega, by omega⟩ dX12_setPart_214 (by decide) (fun c4 => ?_) (fun c4 => ?_)
                  · refine m_aload_n (j := 4) C dX12_setPart_247 rfl ?_
                    refine m_dup C dX12_setPart_248 rfl ?_
                    have rv2 : 0 ≤ vb3 25 ∧ vb3 25 ≤ 208 := bxb3.1 25
                    refine m_get (k := 25) C dX12_setPart_249 w6_84 (by decide) rfl ?_
                    refine m_aload_n (j := 4) C dX12_setPart_252 rfl ?_
                    refine m_geta (k := 13) C dX12_setPart_253 w6_72 (by decide) rfl ?_
                    refine m_iload (j := 1) C dX12_setPart_256 rfl ?_
                    refine m_ald (k := 13) C dX12_setPart_258 rfl rfl (by decide) (by omega) (by show _ < ((_ : Nat) : Int); simp only [mlen]; omega) (by decide) ?_
                    refine m_st (st2 := [.int (iI (a 13 r.toNat)), .int (iI (vb3 25)), .ref h0]) (congrArg (fun z => Value.int (iI z) :: [.int (iI (vb3 25)), .ref h0]) (congrFun (fpb3.2 13 rfl) (r.toNat))) ?_
                    refine m_iadd C dX12_setPart_259 ?_
                    refine m_put (k := 25) (z := (vb3 25) + (a 13 r.toNat)) C dX12_setPart_260 w6_84 (by decide) rfl rfl rfl ?_
                    refine hv2 (show BX (va_up vb3 25 ((vb3 25) + (a 13 r.toNat))) ab3 from bxb3.put (k := 25) (z := (vb3 25) + (a 13 r.toNat)) (show 0 ≤ ((vb3 25) + (a 13 r.toNat)) ∧ ((vb3 25) + (a 13 r.toNat)) ≤ 208 by omega)) (fpb3.put (k := 25) (z := (vb3 25) + (a 13 r.toNat)) rfl) (fun bq1 fq1 => ?_)
                    refine m_iload (j := 3) C dX12_setPart_263 rfl ?_
                    refine m_aload_n (j := 4) C dX12_setPart_265 rfl ?_
                    refine m_geta (k := 12) C dX12_setPart_266 w6_71 (by decide) rfl ?_
                    refine m_iload (j := 1) C dX12_setPart_269 rfl ?_
                    refine m_ald (k := 12) C dX12_setPart_271 rfl rfl (by decide) (by omega) (by show _ < ((_ : Nat) : Int); simp only [mlen]; omega) (by decide) ?_
                    refine hv2 (show 0 ≤ ab3 12 r.toNat ∧ ab3 12 r.toNat ≤ 8 from bq1.2 12 (r.toNat)) (show ab3 12 (r.toNat) = a 12 (r.toNat) from congrFun (fpb3.2 12 rfl) (r.toNat)) (fun ra4 ae3 => ?_)
                    refine m_st (st2 := [.int (iI (a 12 r.toNat)), .int (iI x)]) (congrArg (fun z => Value.int (iI z) :: [.int (iI x)]) (congrFun (fq1.2 12 rfl) (r.toNat))) ?_
                    refine m_iadd C dX12_setPart_272 ?_
                    refine m_istore (lv2 := [(4, .int (iI (x + (a 12 r.toNat)))), (7, .int (iI k)), (6, .int (iI r)), (5, .int (iI (ab1 20 x.toNat))), (0, .ref h0), (1, .int (iI t)), (2, .int (iI q)), (3, .int (iI u))]) C dX12_setPart_273 (by decide) rfl ?_
                    refine m_goto (tgt := 3) C dX12_setPart_275 (by decide) ?_
                    refine m_lv (lv2 := [(4, .int (iI (x + (a 12 r.toNat)))), (0, .ref h0), (1, .int (iI t)), (2, .int (iI q)), (3, .int (iI u))]) [0, 4, 5, 6, 7] rfl ?_
                    exact ih1  (x + (a 12 r.toNat)) _ _ (by omega) bq1 fq1 (by omega) (by show (vb3 25) + (a 13 r.toNat) ≤ 200; omega)
                  · refine m_aload_n (j := 4) C dX12_setPart_217 rfl ?_
                    refine m_geta (k := 24) C dX12_setPart_218 w6_83 (by decide) rfl ?_
                    refine m_aload_n (j := 4) C dX12_setPart_221 rfl ?_
                    have rv3 : 0 ≤ vb3 25 ∧ vb3 25 ≤ 208 := bxb3.1 25
                    refine m_get (k := 25) C dX12_setPart_222 w6_84 (by decide) rfl ?_
                    refine m_iload (j := 0) C dX12_setPart_225 rfl ?_
                    refine m_iadd C dX12_setPart_227 ?_
                    refine m_aload_n (j := 4) C dX12_setPart_228 rfl ?_
                    refine m_geta (k := 15) C dX12_setPart_229 w6_74 (by decide) rfl ?_
                    refine m_iconst C dX12_setPart_232 ?_
                    refine m_iload (j := 1) C dX12_setPart_233 rfl ?_
                    refine m_imul C dX12_setPart_235 ?_
                    refine m_iload (j := 0) C dX12_setPart_236 rfl ?_
                    refine m_iadd C dX12_setPart_238 ?_
                    refine m_ald (k := 15) C dX12_setPart_239 rfl rfl (by decide) (by omega) (by show _ < ((_ : Nat) : Int); simp only [mlen]; omega) (by decide) ?_
                    refine hv2 (show (-2147483648) ≤ ab3 15 ((4 * r) + k).toNat ∧ ab3 15 ((4 * r) + k).toNat ≤ 2147483647 from bxb3.2 15 (((4 * r) + k).toNat)) (show ab3 15 (((4 * r) + k).toNat) = a 15 (((4 * r) + k).toNat) from congrFun (fpb3.2 15 rfl) (((4 * r) + k).toNat)) (fun ra5 ae4 => ?_)
                    refine m_st (st2 := [.int (iI (a 15 ((4 * r) + k).toNat)), .int (iI ((vb3 25) + k)), .ref (ad 24)]) (congrArg (fun z => Value.int (iI z) :: [.int (iI ((vb3 25) + k)), .ref (ad 24)]) (congrFun (fpb3.2 15 rfl) (((4 * r) + k).toNat))) ?_
                    refine m_ast (k := 24) C dX12_setPart_240 rfl rfl (by decide) (by omega) (by show _ < ((_ : Nat) : Int); simp only [mlen]; omega) (by decide) ?_
                    refine hv2 (show BX vb3 (up2 ab3 24 ((vb3 25) + k).toNat (a 15 ((4 * r) + k).toNat)) from bxb3.set (k := 24) (i := ((vb3 25) + k).toNat) (z := a 15 ((4 * r) + k).toNat) (show (-2147483648) ≤ (a 15 ((4 * r) + k).toNat) ∧ (a 15 ((4 * r) + k).toNat) ≤ 2147483647 by omega)) (fpb3.set (k := 24) (i := ((vb3 25) + k).toNat) (z := a 15 ((4 * r) + k).toNat) rfl) (fun bq2 fq2 => ?_)
                    refine m_iinc (z := k) (j := 0) (lv2 := [(7, .int (iI (k + 1))), (6, .int (iI r)), (5, .int (iI (ab1 20 x.toNat))), (4, .int (iI x)), (0, .ref h0), (1, .int (iI t)), (2, .int (iI q)), (3, .int (iI u))]) C dX12_setPart_241 rfl (by decide) rfl ?_
                    refine m_goto (tgt := 205) C dX12_setPart_244 (by decide) ?_
                    refine m_lv (lv2 := [(7, .int (iI (k + 1))), (6, .int (iI r)), (5, .int (iI (ab1 20 x.toNat))), (4, .int (iI x)), (0, .ref h0), (1, .int (iI t)), (2, .int (iI q)), (3, .int (iI u))]) [0, 1, 2, 3, 4, 5, 6, 7] rfl ?_
                    exact ih2  (k + 1) _ _ (by omega) bq2 fq2 (by omega) (by show vb3 25 + a 13 r.toNat ≤ 200; omega)
              refine m_lv (lv2 := [(7, .int (iI 0)), (6, .int (iI r)), (5, .int (iI (ab1 20 x.toNat))), (4, .int (iI x)), (0, .ref h0), (1, .int (iI t)), (2, .int (iI q)), (3, .int (iI u))]) [0, 1, 2, 3, 4, 5, 6, 7] rfl ?_
              exact Lp2 6 0 _ _ (by omega) bxb2 fpb2 (by omega) (by show vb2 25 + a 13 r.toNat ≤ 200; omega)
            · refine m_aload_n (j := 3) C dX12_setPart_195 rfl ?_
              refine m_iconst C dX12_setPart_196 ?_
              refine m_put (k := 28) (z := (-1)) C dX12_setPart_197 w6_87 (by decide) rfl rfl rfl ?_
              refine hv2 (show BX (va_up vb2 28 (-1)) ab2 from bxb2.put (k := 28) (z := (-1)) ⟨by decide, by decide⟩) (fpb2.put (k := 28) (z := (-1)) rfl) (fun bq3 fq3 => ?_)
              refine m_iconst C dX12_setPart_200 ?_
              exact m_zret C dX12_setPart_201 rfl (Or.inl rfl) (Nat.le_of_ble_eq_true rfl) (Nat.le_of_ble_eq_true rfl) ⟨0, rfl, fq3, bq3, (Or.inl rfl)⟩
          · refine m_aload_n (j := 3) C dX12_setPart_164 rfl ?_
            refine m_aload_n (j := 3) C dX12_setPart_165 rfl ?_
            refine m_geta (k := 21) C dX12_setPart_166 w6_80 (by decide) rfl ?_
            refine m_iload (j := 2) C dX12_setPart_169 rfl ?_
            refine m_ald (k := 21) C dX12_setPart_171 rfl rfl (by decide) (by omega) (by show _ < ((_ : Nat) : Int); simp only [mlen]; omega) (by decide) ?_
            refine hv2 (show (-2147483648) ≤ ab2 21 x.toNat ∧ ab2 21 x.toNat ≤ 2147483647 from bxb2.2 21 (x.toNat)) (show ab2 21 (x.toNat) = a 21 (x.toNat) from congrFun (fpb2.2 21 rfl) (x.toNat)) (fun ra6 ae5 => ?_)
            refine m_st (st2 := [.int (iI (a 21 x.toNat)), .ref h0]) (congrArg (fun z => Value.int (iI z) :: [.ref h0]) (congrFun (fpb2.2 21 rfl) (x.toNat))) ?_
            refine m_put (k := 28) (z := a 21 x.toNat) C dX12_setPart_172 w6_87 (by decide) rfl rfl rfl ?_
            refine hv2 (show BX (va_up vb2 28 (a 21 x.toNat)) ab2 from bxb2.put (k := 28) (z := a 21 x.toNat) (show (-2147483648) ≤ (a 21 x.toNat) ∧ (a 21 x.toNat) ≤ 2147483647 by omega)) (fpb2.put (k := 28) (z := a 21 x.toNat) rfl) (fun bq4 fq4 => ?_)
            refine m_iconst C dX12_setPart_175 ?_
            exact m_zret C dX12_setPart_176 rfl (Or.inl rfl) (Nat.le_of_ble_eq_true rfl) (Nat.le_of_ble_eq_true rfl) ⟨0, rfl, fq4, bq4, (Or.inl rfl)⟩
        have J2 : ∀ (vb4 : Nat → Int) (ab4 : Nat → Nat → Int), BX vb4 ab4 → fr [25, 28] [20, 24, 26, 27] v a vb4 ab4 → (vb4 25 ≤ 204) → mw p l e (rmq 64 0 0) s m args below meth c G A 8 (MQ below (Qm G A (fun rq Lq Eq => ∃ (vq : Nat → Int) (aq : Nat → Nat → Int), mI G h0 ad ln vq aq Lq Eq ∧ (fun r v2 a2 => ∃ f : Int, r = some (.int (iI f)) ∧ fr [25, 28] [20, 24, 26, 27] v a v2 a2 ∧ BX v2 a2 ∧ (f = 0 ∨ (f = 1 ∧ v2 25 ≤ 200))) rq vq aq)) args s 0 0 A) h0 ad ln vb4 ab4 0 0 74 [(5, .int (iI (ab1 20 x.toNat))), (4, .int (iI x)), (0, .ref h0), (1, .int (iI t)), (2, .int (iI q)), (3, .int (iI u))] [] := by
          intro  vb4 ab4 bxb4 fpb4 hb2
          refine m_aload_n (j := 2) C dX12_setPart_74 rfl ?_
          refine m_iload_n (j := 3) C dX12_setPart_75 rfl ?_
          refine m_iload_n (j := 4) C dX12_setPart_76 rfl ?_
          refine m_iload_n (j := 5) C dX12_setPart_77 rfl ?_
          refine m_iload (j := 1) C dX12_setPart_78 rfl ?_
          refine hv4 (show 0 ≤ vb4 4 ∧ vb4 4 ≤ 30 from bxb4.1 4) (show vb4 4 = v 4 from fpb4.1 4 rfl) (show 0 ≤ ab4 6 t.toNat ∧ ab4 6 t.toNat ≤ 5 from bxb4.2 6 (t.toNat)) (show ab4 6 (t.toNat) = a 6 (t.toNat) from congrFun (fpb4.2 6 rfl) (t.toNat)) (fun rv4 ve1 ra7 ae6 => ?_)
          refine m_call (mc2 := 0) (ms2 := 0) (As := [.int (iI t), .int (iI q), .int (iI u), .int (iI x)]) (rest := []) C (M_find (t := t) (q := q) (u := u) (x := x) bxb4 (hT.fr fpb4 rfl rfl) (by show 0 ≤ t ∧ t < vb4 4; omega) (by show ab4 6 t.toNat ≤ 4; omega) (by omega)) dX12_setPart_80 kV_X12_218 rfl ck_13 rfl (Nat.le_of_ble_eq_true rfl) ⟨Nat.le_of_ble_eq_true rfl, Nat.le_of_ble_eq_true rfl⟩ ⟨Nat.le_of_ble_eq_true rfl, Nat.le_of_ble_eq_true rfl⟩ (fun rh1 vh1 ah1 h1 => ?_)
          obtain ⟨f1, rfl, fn1, bn1, ex1⟩ := h1
          refine hv8 (fpb4.call fn1 rfl rfl) (show f1 = -1 ∨ (0 ≤ f1 ∧ f1 < 6000 ∧ (1 ≤ ab4 12 f1.toNat ∧ ab4 12 f1.toNat ≤ 8) ∧ (1 ≤ ab4 13 f1.toNat ∧ ab4 13 f1.toNat ≤ 4) ∧ x + ab4 12 f1.toNat ≤ u) from ex1) (show 0 ≤ ah1 12 f1.toNat ∧ ah1 12 f1.toNat ≤ 8 from bn1.2 12 (f1.toNat)) (show ah1 12 (f1.toNat) = ab4 12 (f1.toNat) from congrFun (fn1.2 12 rfl) (f1.toNat)) (show ab4 12 (f1.toNat) = a 12 (f1.toNat) from congrFun (fpb4.2 12 rfl) (f1.toNat)) (show 0 ≤ ah1 13 f1.toNat ∧ ah1 13 f1.toNat ≤ 4 from bn1.2 13 (f1.toNat)) (show ah1 13 (f1.toNat) = ab4 13 (f1.toNat) from congrFun (fn1.2 13 rfl) (f1.toNat)) (show ab4 13 (f1.toNat) = a 13 (f1.toNat) from congrFun (fpb4.2 13 rfl) (f1.toNat)) (fun fq5 ef1 ra8 ae7 ae8 ra9 ae9 ae10 => ?_)
          refine m_st (st2 := [.int (iI f1)]) rfl ?_
          refine m_istore (lv2 := [(6, .int (iI f1)), (5, .int (iI (ab1 20 x.toNat))), (4, .int (iI x)), (0, .ref h0), (1, .int (iI t)), (2, .int (iI q)), (3, .int (iI u))]) C dX12_setPart_83 (by decide) rfl ?_
          refine m_iload (j := 0) C dX12_setPart_85 rfl ?_
          refine m_if_ge (tgt := 159) C ⟨by omega, by omega⟩ dX12_setPart_87 (by decide) (fun c5 => ?_) (fun c5 => ?_)
          · have rv5 : 0 ≤ vh1 25 ∧ vh1 25 ≤ 208 := bn1.1 25
            have ve2 : vh1 25 = vb4 25 := fn1.1 25 rfl
            refine m_lv (lv2 := [(6, .int (iI f1)), (5, .int (iI (ab1 20 x.toNat))), (4, .int (iI x)), (0, .ref h0), (1, .int (iI t)), (2, .int (iI q)), (3, .int (iI u))]) [0, 1, 2, 3, 4, 5, 6] rfl ?_
            exact J1  f1 _ _  bn1 fq5 (by omega) (by show vh1 25 ≤ 208; omega)
          · refine m_aload_n (j := 3) C dX12_setPart_90 rfl ?_
            refine m_geta (k := 6) C dX12_setPart_91 w6_65 (by decide) rfl ?_
            refine m_iload_n (j := 4) C dX12_setPart_94 rfl ?_
            refine m_ald (k := 6) C dX12_setPart_95 rfl rfl (by decide) (by omega) (by show _ < ((_ : Nat) : Int); simp only [mlen]; omega) (by decide) ?_
            refine hv2 (show 0 ≤ ah1 6 t.toNat ∧ ah1 6 t.toNat ≤ 5 from bn1.2 6 (t.toNat)) (show ah1 6 (t.toNat) = ab4 6 (t.toNat) from congrFun (fn1.2 6 rfl) (t.toNat)) (fun ra10 ae11 => ?_)
            refine m_st (st2 := [.int (iI (a 6 t.toNat))]) (congrArg (fun z => Value.int (iI z) :: []) (congrFun (fq5.2 6 rfl) (t.toNat))) ?_
            refine m_iconst C dX12_setPart_96 ?_
            refine m_icmp_gt (tgt := 159) C ⟨by omega, by omega⟩ ⟨by decide, by decide⟩ dX12_setPart_97 (by decide) (fun c6 => ?_) (fun c6 => ?_)
            · have rv6 : 0 ≤ vh1 25 ∧ vh1 25 ≤ 208 := bn1.1 25
              have ve3 : vh1 25 = vb4 25 := fn1.1 25 rfl
              refine m_lv (lv2 := [(6, .int (iI f1)), (5, .int (iI (ab1 20 x.toNat))), (4, .int (iI x)), (0, .ref h0), (1, .int (iI t)), (2, .int (iI q)), (3, .int (iI u))]) [0, 1, 2, 3, 4, 5, 6] rfl ?_
              exact J1  f1 _ _  bn1 fq5 (by omega) (by show vh1 25 ≤ 208; omega)
            · refine m_iload (j := 1) C dX12_setPart_100 rfl ?_
              refine m_callS (As := [.int (iI (ab1 20 x.toNat))]) (rest := []) C (fun L E => s_isGreat (iI (ab1 20 x.toNat))) dX12_setPart_102 kS_X12_205 rfl rfl (Nat.le_of_ble_eq_true rfl) ⟨Nat.le_of_ble_eq_true rfl, Nat.le_of_ble_eq_true rfl⟩ ⟨Nat.le_of_ble_eq_true rfl, Nat.le_of_ble_eq_true rfl⟩ ?_
              rcases inn_c (x := ab1 20 x.toNat) (lo := 65) (hi := 90) (r32_c (lo := (-2147483648)) (hi := 2147483647) ra1.1 ra1.2 (by decide) (by decide)) ⟨by decide, by decide⟩ ⟨by decide, by decide⟩ with ⟨h2a, h2b, h2e⟩ | ⟨h2a, h2e⟩
              · refine m_st (st2 := [.int (iI 1)]) (by rw [show inn (iI (ab1 20 x.toNat)) 65 90 = iI 1 from h2e]) ?_
                refine m_if_eq (tgt := 159) C ⟨by decide, by decide⟩ dX12_setPart_105 (by decide) (fun z => absurd z (by omega)) (fun _ => ?_)
                refine m_aload_n (j := 3) C dX12_setPart_108 rfl ?_
                refine m_geta (k := 16) C dX12_setPart_109 w6_75 (by decide) rfl ?_
                refine m_iconst C dX12_setPart_112 ?_
                refine m_iload_n (j := 4) C dX12_setPart_113 rfl ?_
                refine m_imul C dX12_setPart_114 ?_
                refine m_iconst C dX12_setPart_115 ?_
                refine m_iadd C dX12_setPart_116 ?_
                refine m_ald (k := 16) C dX12_setPart_117 rfl rfl (by decide) (by omega) (by show _ < ((_ : Nat) : Int); simp only [mlen]; omega) (by decide) ?_
                refine hv3 (show 0 ≤ ah1 16 ((4 * t) + 0).toNat ∧ ah1 16 ((4 * t) + 0).toNat ≤ 4 from bn1.2 16 (((4 * t) + 0).toNat)) (show ah1 16 (((4 * t) + 0).toNat) = ab4 16 (((4 * t) + 0).toNat) from congrFun (fn1.2 16 rfl) (((4 * t) + 0).toNat)) (show ab4 16 (((4 * t) + 0).toNat) = a 16 (((4 * t) + 0).toNat) from congrFun (fpb4.2 16 rfl) (((4 * t) + 0).toNat)) (fun ra11 ae12 ae13 => ?_)
                refine m_st (st2 := [.int (iI (a 16 ((4 * t) + 0).toNat))]) (congrArg (fun z => Value.int (iI z) :: []) (congrFun (fq5.2 16 rfl) (((4 * t) + 0).toNat))) ?_
                refine m_if_le (tgt := 159) C ⟨by omega, by omega⟩ dX12_setPart_118 (by decide) (fun c7 => ?_) (fun c7 => ?_)
                · have rv7 : 0 ≤ vh1 25 ∧ vh1 25 ≤ 208 := bn1.1 25
                  have ve4 : vh1 25 = vb4 25 := fn1.1 25 rfl
                  refine m_lv (lv2 := [(6, .int (iI f1)), (5, .int (iI (ab1 20 x.toNat))), (4, .int (iI x)), (0, .ref h0), (1, .int (iI t)), (2, .int (iI q)), (3, .int (iI u))]) [0, 1, 2, 3, 4, 5, 6] rfl ?_
                  exact J1  f1 _ _  bn1 fq5 (by omega) (by show vh1 25 ≤ 208; omega)
                · refine m_aload_n (j := 3) C dX12_setPart_121 rfl ?_
                  refine m_iload_n (j := 4) C dX12_setPart_122 rfl ?_
                  refine m_iconst C dX12_setPart_123 ?_
                  refine hv2 (show 0 ≤ vh1 25 ∧ vh1 25 ≤ 208 from bn1.1 25) (show vh1 25 = vb4 25 from fn1.1 25 rfl) (fun rv8 ve5 => ?_)
                  refine m_call (mc2 := 0) (ms2 := 0) (As := [.int (iI t), .int (iI 0)]) (rest := []) C (M_putIndicator (t := t) (w1 := 0) bn1.rg (by omega) (by omega) (bn1.2 16 _) (by show 0 ≤ (vh1 25) ∧ (vh1 25) ≤ 6000; omega)) dX12_setPart_124 kV_X12_227 rfl ck_13 rfl (Nat.le_of_ble_eq_true rfl) ⟨Nat.le_of_ble_eq_true rfl, Nat.le_of_ble_eq_true rfl⟩ ⟨Nat.le_of_ble_eq_true rfl, Nat.le_of_ble_eq_true rfl⟩ (fun rh3 vh3 ah3 h3 => ?_)
                  obtain ⟨rfl, fn2, bn2, ex2⟩ := W_putIndicator bn1 (by show (vh1 25) ≤ 204; omega) h3
                  refine hv3 (fq5.call fn2 rfl rfl) (show vh3 25 = vh1 25 + ah1 16 (4 * t + 0).toNat from ex2) (show 0 ≤ ah1 16 (4 * t + 0).toNat ∧ ah1 16 (4 * t + 0).toNat ≤ 4 from bn1.2 16 _) (fun fq6 gex2 iex2 => ?_)
                  refine m_st (st2 := []) rfl ?_
                  refine m_aload_n (j := 3) C dX12_setPart_127 rfl ?_
                  refine m_geta (k := 20) C dX12_setPart_128 w6_79 (by decide) rfl ?_
                  refine m_iload (j := 2) C dX12_setPart_131 rfl ?_
                  refine m_iload (j := 1) C dX12_setPart_133 rfl ?_
                  refine m_bipush (z := 32) C dX12_setPart_135 (by decide) ?_
                  refine m_iadd C dX12_setPart_137 ?_
                  refine m_ast (k := 20) C dX12_setPart_138 rfl rfl (by decide) (by omega) (by show _ < ((_ : Nat) : Int); simp only [mlen]; omega) (by decide) ?_
                  refine hv2 (show BX vh3 (up2 ah3 20 x.toNat ((ab1 20 x.toNat) + 32)) from bn2.set (k := 20) (i := x.toNat) (z := (ab1 20 x.toNat) + 32) (show (-2147483648) ≤ ((ab1 20 x.toNat) + 32) ∧ ((ab1 20 x.toNat) + 32) ≤ 2147483647 by omega)) (fq6.set (k := 20) (i := x.toNat) (z := (ab1 20 x.toNat) + 32) rfl) (fun bq5 fq7 => ?_)
                  refine m_aload_n (j := 3) C dX12_setPart_139 rfl ?_
                  refine m_iload_n (j := 4) C dX12_setPart_140 rfl ?_
                  refine m_iload_n (j := 5) C dX12_setPart_141 rfl ?_
                  refine m_iload_n (j := 6) C dX12_setPart_142 rfl ?_
                  refine m_iload (j := 2) C dX12_setPart_143 rfl ?_
                  refine hv5 (show 0 ≤ vh3 4 ∧ vh3 4 ≤ 30 from bq5.1 4) (show vh3 4 = vh1 4 from fn2.1 4 rfl) (show vh1 4 = vb4 4 from fn1.1 4 rfl) (show 0 ≤ ah3 6 t.toNat ∧ ah3 6 t.toNat ≤ 5 from bq5.2 6 (t.toNat)) (show ah3 6 (t.toNat) = ah1 6 (t.toNat) from congrFun (fn2.2 6 rfl) (t.toNat)) (fun rv9 ve6 ve7 ra12 ae14 => ?_)
                  refine m_call (mc2 := 0) (ms2 := 0) (As := [.int (iI t), .int (iI q), .int (iI u), .int (iI x)]) (rest := []) C (M_find (t := t) (q := q) (u := u) (x := x) bq5 (hT.fr fq7 rfl rfl) (by show 0 ≤ t ∧ t < vh3 4; omega) (by show ah3 6 t.toNat ≤ 4; omega) (by omega)) dX12_setPart_145 kV_X12_218 rfl ck_13 rfl (Nat.le_of_ble_eq_true rfl) ⟨Nat.le_of_ble_eq_true rfl, Nat.le_of_ble_eq_true rfl⟩ ⟨Nat.le_of_ble_eq_true rfl, Nat.le_of_ble_eq_true rfl⟩ (fun rh4 vh4 ah4 h4 => ?_)
                  obtain ⟨f3, rfl, fn3, bn3, ex3⟩ := h4
                  refine hv12 (fq7.call fn3 rfl rfl) (show f3 = -1 ∨ (0 ≤ f3 ∧ f3 < 6000 ∧ (1 ≤ ah3 12 f3.toNat ∧ ah3 12 f3.toNat ≤ 8) ∧ (1 ≤ ah3 13 f3.toNat ∧ ah3 13 f3.toNat ≤ 4) ∧ x + ah3 12 f3.toNat ≤ u) from ex3) (show 0 ≤ ah4 12 f3.toNat ∧ ah4 12 f3.toNat ≤ 8 from bn3.2 12 (f3.toNat)) (show ah4 12 (f3.toNat) = ah3 12 (f3.toNat) from congrFun (fn3.2 12 rfl) (f3.toNat)) (show ah3 12 (f3.toNat) = ah1 12 (f3.toNat) from congrFun (fn2.2 12 rfl) (f3.toNat)) (show ah1 12 (f3.toNat) = ab4 12 (f3.toNat) from congrFun (fn1.2 12 rfl) (f3.toNat)) (show ab4 12 (f3.toNat) = a 12 (f3.toNat) from congrFun (fpb4.2 12 rfl) (f3.toNat)) (show 0 ≤ ah4 13 f3.toNat ∧ ah4 13 f3.toNat ≤ 4 from bn3.2 13 (f3.toNat)) (show ah4 13 (f3.toNat) = ah3 13 (f3.toNat) from congrFun (fn3.2 13 rfl) (f3.toNat)) (show ah3 13 (f3.toNat) = ah1 13 (f3.toNat) from congrFun (fn2.2 13 rfl) (f3.toNat)) (show ah1 13 (f3.toNat) = ab4 13 (f3.toNat) from congrFun (fn1.2 13 rfl) (f3.toNat)) (show ab4 13 (f3.toNat) = a 13 (f3.toNat) from congrFun (fpb4.2 13 rfl) (f3.toNat)) (fun fq8 ef3 ra13 ae15 ae16 ae17 ae18 ra14 ae19 ae20 ae21 ae22 => ?_)
                  refine m_st (st2 := [.int (iI f3)]) rfl ?_
                  refine m_istore (lv2 := [(6, .int (iI f3)), (5, .int (iI (ab1 20 x.toNat))), (4, .int (iI x)), (0, .ref h0), (1, .int (iI t)), (2, .int (iI q)), (3, .int (iI u))]) C dX12_setPart_148 (by decide) rfl ?_
                  refine m_aload_n (j := 3) C dX12_setPart_150 rfl ?_
                  refine m_geta (k := 20) C dX12_setPart_151 w6_79 (by decide) rfl ?_
                  refine m_iload (j := 2) C dX12_setPart_154 rfl ?_
                  refine m_iload (j := 1) C dX12_setPart_156 rfl ?_
                  refine m_ast (k := 20) C dX12_setPart_158 rfl rfl (by decide) (by omega) (by show _ < ((_ : Nat) : Int); simp only [mlen]; omega) (by decide) ?_
                  refine hv3 (show BX vh4 (up2 ah4 20 x.toNat (ab1 20 x.toNat)) from bn3.set (k := 20) (i := x.toNat) (z := ab1 20 x.toNat) (show (-2147483648) ≤ (ab1 20 x.toNat) ∧ (ab1 20 x.toNat) ≤ 2147483647 by omega)) (fq8.set (k := 20) (i := x.toNat) (z := ab1 20 x.toNat) rfl) (show vh4 25 = vh3 25 from fn3.1 25 rfl) (fun bq6 fq9 ve8 => ?_)
                  have rv10 : 0 ≤ vh4 25 ∧ vh4 25 ≤ 208 := bq6.1 25
                  refine m_lv (lv2 := [(6, .int (iI f3)), (5, .int (iI (ab1 20 x.toNat))), (4, .int (iI x)), (0, .ref h0), (1, .int (iI t)), (2, .int (iI q)), (3, .int (iI u))]) [0, 1, 2, 3, 4, 5, 6] rfl ?_
                  exact J1  f3 _ _  bq6 fq9 (by omega) (by show vh4 25 ≤ 208; omega)
              · refine m_st (st2 := [.int (iI 0)]) (by rw [show inn (iI (ab1 20 x.toNat)) 65 90 = iI 0 from h2e]) ?_
                refine m_if_eq (tgt := 159) C ⟨by decide, by decide⟩ dX12_setPart_105 (by decide) (fun _ => ?_) (fun z => absurd z (by omega))
                refine hv2 (show 0 ≤ vh1 25 ∧ vh1 25 ≤ 208 from bn1.1 25) (show vh1 25 = vb4 25 from fn1.1 25 rfl) (fun rv11 ve9 => ?_)
                refine m_lv (lv2 := [(6, .int (iI f1)), (5, .int (iI (ab1 20 x.toNat))), (4, .int (iI x)), (0, .ref h0), (1, .int (iI t)), (2, .int (iI q)), (3, .int (iI u))]) [0, 1, 2, 3, 4, 5, 6] rfl ?_
                exact J1  f1 _ _  bn1 fq5 (by omega) (by show vh1 25 ≤ 208; omega)
        refine m_aload_n (j := 2) C dX12_setPart_18 rfl ?_
        refine m_geta (k := 26) C dX12_setPart_19 w6_85 (by decide) rfl ?_
        refine m_iload (j := 1) C dX12_setPart_22 rfl ?_
        refine m_aload_n (j := 2) C dX12_setPart_24 rfl ?_
        have rv12 : 0 ≤ vb1 25 ∧ vb1 25 ≤ 208 := bxb1.1 25
        refine m_get (k := 25) C dX12_setPart_25 w6_84 (by decide) rfl ?_
        refine m_ast (k := 26) C dX12_setPart_28 rfl rfl (by decide) (by omega) (by show _ < ((_ : Nat) : Int); simp only [mlen]; omega) (by decide) ?_
        refine hv2 (show BX vb1 (up2 ab1 26 x.toNat (vb1 25)) from bxb1.set (k := 26) (i := x.toNat) (z := vb1 25) (show (-1) ≤ (vb1 25) ∧ (vb1 25) ≤ 208 by omega)) (fpb1.set (k := 26) (i := x.toNat) (z := vb1 25) rfl) (fun bq7 fq10 => ?_)
        refine m_aload_n (j := 2) C dX12_setPart_29 rfl ?_
        refine m_geta (k := 6) C dX12_setPart_30 w6_65 (by decide) rfl ?_
        refine m_iload_n (j := 3) C dX12_setPart_33 rfl ?_
        refine m_ald (k := 6) C dX12_setPart_34 rfl rfl (by decide) (by omega) (by show _ < ((_ : Nat) : Int); simp only [mlen]; omega) (by decide) ?_
        refine hv2 (show 0 ≤ ab1 6 t.toNat ∧ ab1 6 t.toNat ≤ 5 from bq7.2 6 (t.toNat)) (show ab1 6 (t.toNat) = a 6 (t.toNat) from congrFun (fpb1.2 6 rfl) (t.toNat)) (fun ra15 ae23 => ?_)
        refine m_st (st2 := [.int (iI (a 6 t.toNat))]) (congrArg (fun z => Value.int (iI z) :: []) (congrFun (fq10.2 6 rfl) (t.toNat))) ?_
        refine m_iconst C dX12_setPart_35 ?_
        refine m_icmp_ne (tgt := 74) C ⟨by omega, by omega⟩ ⟨by decide, by decide⟩ dX12_setPart_36 (by decide) (fun c8 => ?_) (fun c8 => ?_)
        · refine m_lv (lv2 := [(5, .int (iI (ab1 20 x.toNat))), (4, .int (iI x)), (0, .ref h0), (1, .int (iI t)), (2, .int (iI q)), (3, .int (iI u))]) [0, 1, 2, 3, 4, 5] rfl ?_
          exact J2   _ _  bq7 fq10 (by show vb1 25 ≤ 204; omega)
        · refine m_iload (j := 0) C dX12_setPart_39 rfl ?_
          refine m_callS (As := [.int (iI (ab1 20 x.toNat))]) (rest := []) C (fun L E => s_isDigit (iI (ab1 20 x.toNat))) dX12_setPart_41 kS_X12_202 rfl rfl (Nat.le_of_ble_eq_true rfl) ⟨Nat.le_of_ble_eq_true rfl, Nat.le_of_ble_eq_true rfl⟩ ⟨Nat.le_of_ble_eq_true rfl, Nat.le_of_ble_eq_true rfl⟩ ?_
          rcases inn_c (x := ab1 20 x.toNat) (lo := 48) (hi := 57) (r32_c (lo := (-2147483648)) (hi := 2147483647) ra1.1 ra1.2 (by decide) (by decide)) ⟨by decide, by decide⟩ ⟨by decide, by decide⟩ with ⟨h5a, h5b, h5e⟩ | ⟨h5a, h5e⟩
          · refine m_st (st2 := [.int (iI 1)]) (by rw [show inn (iI (ab1 20 x.toNat)) 48 57 = iI 1 from h5e]) ?_
            refine m_if_eq (tgt := 74) C ⟨by decide, by decide⟩ dX12_setPart_44 (by decide) (fun z => absurd z (by omega)) (fun _ => ?_)
            refine m_iload (j := 1) C dX12_setPart_47 rfl ?_
            refine m_iload_n (j := 4) C dX12_setPart_49 rfl ?_
            refine m_icmp_eq (tgt := 68) C ⟨by omega, by omega⟩ ⟨by omega, by omega⟩ dX12_setPart_50 (by decide) (fun c9 => ?_) (fun c9 => ?_)
            · refine m_aload_n (j := 2) C dX12_setPart_68 rfl ?_
              refine m_iload_n (j := 3) C dX12_setPart_69 rfl ?_
              refine m_iconst C dX12_setPart_70 ?_
              refine m_call (mc2 := 0) (ms2 := 0) (As := [.int (iI t), .int (iI 1)]) (rest := []) C (M_putIndicator (t := t) (w1 := 1) bq7.rg (by omega) (by omega) (bq7.2 16 _) (by show 0 ≤ (vb1 25) ∧ (vb1 25) ≤ 6000; omega)) dX12_setPart_71 kV_X12_227 rfl ck_13 rfl (Nat.le_of_ble_eq_true rfl) ⟨Nat.le_of_ble_eq_true rfl, Nat.le_of_ble_eq_true rfl⟩ ⟨Nat.le_of_ble_eq_true rfl, Nat.le_of_ble_eq_true rfl⟩ (fun rh6 vh6 ah6 h6 => ?_)
              obtain ⟨rfl, fn4, bn4, ex4⟩ := W_putIndicator bq7 (by show (vb1 25) ≤ 204; omega) h6
              refine hv3 (fq10.call fn4 rfl rfl) (show vh6 25 = vb1 25 + ab1 16 (4 * t + 1).toNat from ex4) (show 0 ≤ ab1 16 (4 * t + 1).toNat ∧ ab1 16 (4 * t + 1).toNat ≤ 4 from bq7.2 16 _) (fun fq11 gex4 iex4 => ?_)
              refine m_st (st2 := []) rfl ?_
              have rv13 : 0 ≤ vh6 25 ∧ vh6 25 ≤ 208 := bn4.1 25
              refine m_lv (lv2 := [(5, .int (iI (ab1 20 x.toNat))), (4, .int (iI x)), (0, .ref h0), (1, .int (iI t)), (2, .int (iI q)), (3, .int (iI u))]) [0, 1, 2, 3, 4, 5] rfl ?_
              exact J2   _ _  bn4 fq11 (by show vh6 25 ≤ 204; omega)
            · refine m_aload_n (j := 2) C dX12_setPart_53 rfl ?_
              refine m_geta (k := 20) C dX12_setPart_54 w6_79 (by decide) rfl ?_
              refine m_iload (j := 1) C dX12_setPart_57 rfl ?_
              refine m_iconst C dX12_setPart_59 ?_
              refine m_isub C dX12_setPart_60 ?_
              refine m_ald (k := 20) C dX12_setPart_61 rfl rfl (by decide) (by omega) (by show _ < ((_ : Nat) : Int); simp only [mlen]; omega) (by decide) ?_
              have ra16 : (-2147483648) ≤ ab1 20 (x - 1).toNat ∧ ab1 20 (x - 1).toNat ≤ 2147483647 := bq7.2 20 ((x - 1).toNat)
              refine m_st (st2 := [.int (iI (ab1 20 (x - 1).toNat))]) rfl ?_
              refine m_callS (As := [.int (iI (ab1 20 (x - 1).toNat))]) (rest := []) C (fun L E => s_isDigit (iI (ab1 20 (x - 1).toNat))) dX12_setPart_62 kS_X12_202 rfl rfl (Nat.le_of_ble_eq_true rfl) ⟨Nat.le_of_ble_eq_true rfl, Nat.le_of_ble_eq_true rfl⟩ ⟨Nat.le_of_ble_eq_true rfl, Nat.le_of_ble_eq_true rfl⟩ ?_
              rcases inn_c (x := ab1 20 (x - 1).toNat) (lo := 48) (hi := 57) (r32_c (lo := (-2147483648)) (hi := 2147483647) ra16.1 ra16.2 (by decide) (by decide)) ⟨by decide, by decide⟩ ⟨by decide, by decide⟩ with ⟨h7a, h7b, h7e⟩ | ⟨h7a, h7e⟩
              · refine m_st (st2 := [.int (iI 1)]) (by rw [show inn (iI (ab1 20 (x - 1).toNat)) 48 57 = iI 1 from h7e]) ?_
                refine m_if_ne (tgt := 74) C ⟨by decide, by decide⟩ dX12_setPart_65 (by decide) (fun _ => ?_) (fun z => absurd z (by omega))
                refine m_lv (lv2 := [(5, .int (iI (ab1 20 x.toNat))), (4, .int (iI x)), (0, .ref h0), (1, .int (iI t)), (2, .int (iI q)), (3, .int (iI u))]) [0, 1, 2, 3, 4, 5] rfl ?_
                exact J2   _ _  bq7 fq10 (by show vb1 25 ≤ 204; omega)
              · refine m_st (st2 := [.int (iI 0)]) (by rw [show inn (iI (ab1 20 (x - 1).toNat)) 48 57 = iI 0 from h7e]) ?_
                refine m_if_ne (tgt := 74) C ⟨by decide, by decide⟩ dX12_setPart_65 (by decide) (fun z => absurd z (by omega)) (fun _ => ?_)
                refine m_aload_n (j := 2) C dX12_setPart_68 rfl ?_
                refine m_iload_n (j := 3) C dX12_setPart_69 rfl ?_
                refine m_iconst C dX12_setPart_70 ?_
                refine m_call (mc2 := 0) (ms2 := 0) (As := [.int (iI t), .int (iI 1)]) (rest := []) C (M_putIndicator (t := t) (w1 := 1) bq7.rg (by omega) (by omega) (bq7.2 16 _) (by show 0 ≤ (vb1 25) ∧ (vb1 25) ≤ 6000; omega)) dX12_setPart_71 kV_X12_227 rfl ck_13 rfl (Nat.le_of_ble_eq_true rfl) ⟨Nat.le_of_ble_eq_true rfl, Nat.le_of_ble_eq_true rfl⟩ ⟨Nat.le_of_ble_eq_true rfl, Nat.le_of_ble_eq_true rfl⟩ (fun rh8 vh8 ah8 h8 => ?_)
                obtain ⟨rfl, fn5, bn5, ex5⟩ := W_putIndicator bq7 (by show (vb1 25) ≤ 204; omega) h8
                refine hv3 (fq10.call fn5 rfl rfl) (show vh8 25 = vb1 25 + ab1 16 (4 * t + 1).toNat from ex5) (show 0 ≤ ab1 16 (4 * t + 1).toNat ∧ ab1 16 (4 * t + 1).toNat ≤ 4 from bq7.2 16 _) (fun fq12 gex5 iex5 => ?_)
                refine m_st (st2 := []) rfl ?_
                have rv14 : 0 ≤ vh8 25 ∧ vh8 25 ≤ 208 := bn5.1 25
                refine m_lv (lv2 := [(5, .int (iI (ab1 20 x.toNat))), (4, .int (iI x)), (0, .ref h0), (1, .int (iI t)), (2, .int (iI q)), (3, .int (iI u))]) [0, 1, 2, 3, 4, 5] rfl ?_
                exact J2   _ _  bn5 fq12 (by show vh8 25 ≤ 204; omega)
          · refine m_st (st2 := [.int (iI 0)]) (by rw [show inn (iI (ab1 20 x.toNat)) 48 57 = iI 0 from h5e]) ?_
            refine m_if_eq (tgt := 74) C ⟨by decide, by decide⟩ dX12_setPart_44 (by decide) (fun _ => ?_) (fun z => absurd z (by omega))
            refine m_lv (lv2 := [(5, .int (iI (ab1 20 x.toNat))), (4, .int (iI x)), (0, .ref h0), (1, .int (iI t)), (2, .int (iI q)), (3, .int (iI u))]) [0, 1, 2, 3, 4, 5] rfl ?_
            exact J2   _ _  bq7 fq10 (by show vb1 25 ≤ 204; omega)
  have rv15 : 0 ≤ v 25 ∧ v 25 ≤ 208 := hB.1 25
  refine m_lv (lv2 := [(4, .int (iI q)), (0, .ref h0), (1, .int (iI t)), (2, .int (iI q)), (3, .int (iI u))]) [0, 1, 2, 3, 4] rfl ?_
  exact Lp1 502 q _ _ (by omega) hB fp0 (by omega) (by show v 25 ≤ 200; omega)
set_option maxHeartbeats 4000000 in
set_option maxRecDepth 100000 in
theorem M_setWord {l : Launch} {G : GT} {h0 : Nat} {ad ln : Nat → Nat} {v : Nat → Int} {a : Nat → Nat → Int}  {t : Int} (hB : BX v a) (hT : TBL v a) (ht : 0 ≤ t ∧ t < v 4) : Mm l G yX12_setWord cX12_setWord 7 (some .boolean) 65 [.int (iI t)] h0 ad ln v a 0 0 (fun r v2 a2 => ∃ f : Int, r = some (.int (iI f)) ∧ fr [25, 28] [20, 24, 26, 27] v a v2 a2 ∧ BX v2 a2 ∧ (f = 0 ∨ (f = 1 ∧ v2 25 ≤ 200))) := by
  refine Mm.mk (by decide) (Nat.le_of_ble_eq_true rfl) ?_
  intro p e s m args below meth c A C
  refine hv3 (show 0 ≤ v 4 ∧ v 4 ≤ 30 from hB.1 4) (show 0 ≤ v 23 ∧ v 23 ≤ 500 from hB.1 23) (show fr [25, 28] [20, 24, 26, 27] v a v a from fr.refl) (fun h30 h23 fp0 => ?_)
  have ht0 := hT.1 t (by omega) (by omega)
  refine m_aload_n (j := 0) C dX12_setWord_0 rfl ?_
  refine m_iconst C dX12_setWord_1 ?_
  refine m_put (k := 25) (z := 0) C dX12_setWord_2 w6_84 (by decide) rfl rfl rfl ?_
  refine hv2 (show BX (va_up v 25 0) a from hB.put (k := 25) (z := 0) ⟨by decide, by decide⟩) (fp0.put (k := 25) (z := 0) rfl) (fun bq1 fq1 => ?_)
  refine m_iconst C dX12_setWord_5 ?_
  refine m_istore_n (lv2 := [(2, .int (iI 0)), (0, .ref h0), (1, .int (iI t))]) C dX12_setWord_6 (by decide) rfl ?_
  have Lp1 : ∀ (nn : Nat) (k : Int) (vb1 : Nat → Int) (ab1 : Nat → Nat → Int), 502 - k < (nn : Int) → BX vb1 ab1 → fr [25, 28] [20, 24, 26, 27] v a vb1 ab1 → (0 ≤ k ∧ k ≤ 501) → (vb1 25 = 0) → mw p l e (rmq 65 0 0) s m args below meth c G A 7 (MQ below (Qm G A (fun rq Lq Eq => ∃ (vq : Nat → Int) (aq : Nat → Nat → Int), mI G h0 ad ln vq aq Lq Eq ∧ (fun r v2 a2 => ∃ f : Int, r = some (.int (iI f)) ∧ fr [25, 28] [20, 24, 26, 27] v a v2 a2 ∧ BX v2 a2 ∧ (f = 0 ∨ (f = 1 ∧ v2 25 ≤ 200))) rq vq aq)) args s 0 0 A) h0 ad ln vb1 ab1 0 0 7 [(2, .int (iI k)), (0, .ref h0), (1, .int (iI t))] [] := by
    intro nn
    induction nn with
    | zero =>
      intro k vb1 ab1 hm bxb1 fpb1 hk hb
      exact absurd hm (by omega)
    | succ nn ih1 =>
      intro k vb1 ab1 hm bxb1 fpb1 hk hb
      refine m_iload_n (j := 0) C dX12_setWord_7 rfl ?_
      refine m_aload_n (j := 1) C dX12_setWord_8 rfl ?_
      refine hv2 (show 0 ≤ vb1 23 ∧ vb1 23 ≤ 500 from bxb1.1 23) (show vb1 23 = v 23 from fpb1.1 23 rfl) (fun rv1 ve1 => ?_)
      refine m_get (k := 23) C dX12_setWord_9 w6_82 (by decide) rfl ?_
      refine m_st (st2 := [.int (iI (v 23)), .int (iI k)]) (congrArg (fun z => Value.int (iI z) :: [.int (iI k)]) (fpb1.1 23 rfl)) ?_
      refine m_icmp_gt (tgt := 28) C (r32_c (lo := 0) (hi := 501) hk.1 hk.2 (by decide) (by decide)) (r32_c (lo := 0) (hi := 500) (Int.le_trans rv1.1 (Int.le_of_eq ve1)) (Int.le_trans (Int.le_of_eq ve1.symm) rv1.2) (by decide) (by decide)) dX12_setWord_12 (by decide) (fun c1 => ?_) (fun c1 => ?_)
      · refine m_aload_n (j := 1) C dX12_setWord_28 rfl ?_
        refine m_geta (k := 6) C dX12_setWord_29 w6_65 (by decide) rfl ?_
        refine m_iload_n (j := 2) C dX12_setWord_32 rfl ?_
        refine m_ald (k := 6) C dX12_setWord_33 rfl rfl (by decide) (by omega) (by show _ < ((_ : Nat) : Int); simp only [mlen]; omega) (by decide) ?_
        refine hv2 (show 0 ≤ ab1 6 t.toNat ∧ ab1 6 t.toNat ≤ 5 from bxb1.2 6 (t.toNat)) (show ab1 6 (t.toNat) = a 6 (t.toNat) from congrFun (fpb1.2 6 rfl) (t.toNat)) (fun ra1 ae1 => ?_)
        refine m_st (st2 := [.int (iI (a 6 t.toNat))]) (congrArg (fun z => Value.int (iI z) :: []) (congrFun (fpb1.2 6 rfl) (t.toNat))) ?_
        refine m_iconst C dX12_setWord_34 ?_
        refine m_icmp_eq (tgt := 49) C ⟨by omega, by omega⟩ ⟨by decide, by decide⟩ dX12_setWord_35 (by decide) (fun c2 => ?_) (fun c2 => ?_)
        · refine m_iconst C dX12_setWord_49 ?_
          refine m_istore_n (lv2 := [(2, .int (iI 0)), (0, .ref h0), (1, .int (iI t))]) C dX12_setWord_50 (by decide) rfl ?_
          refine m_iconst C dX12_setWord_51 ?_
          refine m_istore_n (lv2 := [(3, .int (iI 0)), (2, .int (iI 0)), (0, .ref h0), (1, .int (iI t))]) C dX12_setWord_52 (by decide) rfl ?_
          have Lp2 : ∀ (nn : Nat) (g x : Int) (vb2 : Nat → Int) (ab2 : Nat → Nat → Int), 502 - x < (nn : Int) → BX vb2 ab2 → fr [25, 28] [20, 24, 26, 27] v a vb2 ab2 → (g = 0 ∨ g = 1) → (0 ≤ x ∧ x ≤ 501) → (vb2 25 ≤ 200) → mw p l e (rmq 65 0 0) s m args below meth c G A 7 (MQ below (Qm G A (fun rq Lq Eq => ∃ (vq : Nat → Int) (aq : Nat → Nat → Int), mI G h0 ad ln vq aq Lq Eq ∧ (fun r v2 a2 => ∃ f : Int, r = some (.int (iI f)) ∧ fr [25, 28] [20, 24, 26, 27] v a v2 a2 ∧ BX v2 a2 ∧ (f = 0 ∨ (f = 1 ∧ v2 25 ≤ 200))) rq vq aq)) args s 0 0 A) h0 ad ln vb2 ab2 0 0 53 [(2, .int (iI g)), (3, .int (iI x)), (0, .ref h0), (1, .int (iI t))] [] := by
            intro nn
            induction nn with
            | zero =>
              intro g x vb2 ab2 hm bxb2 fpb2 hg hq hb1
              exact absurd hm (by omega)
            | succ nn ih2 =>
              intro g x vb2 ab2 hm bxb2 fpb2 hg hq hb1
              refine m_iload_n (j := 1) C dX12_setWord_53 rfl ?_
              refine m_aload_n (j := 2) C dX12_setWord_54 rfl ?_
              refine hv2 (show 0 ≤ vb2 23 ∧ vb2 23 ≤ 500 from bxb2.1 23) (show vb2 23 = v 23 from fpb2.1 23 rfl) (fun rv2 ve2 => ?_)
              refine m_get (k := 23) C dX12_setWord_55 w6_82 (by decide) rfl ?_
              refine m_st (st2 := [.int (iI (v 23)), .int (iI x)]) (congrArg (fun z => Value.int (iI z) :: [.int (iI x)]) (fpb2.1 23 rfl)) ?_
              refine m_icmp_gt (tgt := 226) C (r32_c (lo := 0) (hi := 501) hq.1 hq.2 (by decide) (by decide)) (r32_c (lo := 0) (hi := 500) (Int.le_trans rv1.1 (Int.le_of_eq ve1)) (Int.le_trans (Int.le_of_eq ve1.symm) rv1.2) (by decide) (by decide)) dX12_setWord_58 (by decide) (fun c3 => ?_) (fun c3 => ?_)
              · refine m_iconst C dX12_setWord_226 ?_
                exact m_zret C dX12_setWord_227 rfl (Or.inr rfl) (Nat.le_of_ble_eq_true rfl) (Nat.le_of_ble_eq_true rfl) ⟨1, rfl, fpb2, bxb2, (Or.inr ⟨rfl, by omega⟩)⟩
              · have Lp3 : ∀ (nn : Nat) (sg y : Int) (vb3 : Nat → Int) (ab3 : Nat → Nat → Int), 502 - y < (nn : Int) → BX vb3 ab3 → fr [25, 28] [20, 24, 26, 27] v a vb3 ab3 → (sg = 60 ∨ sg = 62) → (x ≤ y ∧ y ≤ v 23) → (vb3 25 ≤ 200) → mw p l e (rmq 65 0 0) s m args below meth c G A 7 (MQ below (Qm G A (fun rq Lq Eq => ∃ (vq : Nat → Int) (aq : Nat → Nat → Int), mI G h0 ad ln vq aq Lq Eq ∧ (fun r v2 a2 => ∃ f : Int, r = some (.int (iI f)) ∧ fr [25, 28] [20, 24, 26, 27] v a v2 a2 ∧ BX v2 a2 ∧ (f = 0 ∨ (f = 1 ∧ v2 25 ≤ 200))) rq vq aq)) args s 0 0 A) h0 ad ln vb3 ab3 0 0 77 [(5, .int (iI y)), (4, .int (iI sg)), (2, .int (iI g)), (3, .int (iI x)), (0, .ref h0), (1, .int (iI t))] [] := by
                  intro nn
                  induction nn with
                  | zero =>
                    intro sg y vb3 ab3 hm bxb3 fpb3 hs hy hb2
                    exact absurd hm (by omega)
                  | succ nn ih3 =>
                    intro sg y vb3 ab3 hm bxb3 fpb3 hs hy hb2
                    refine m_iload (j := 0) C dX12_setWord_77 rfl ?_
                    refine m_aload_n (j := 4) C dX12_setWord_79 rfl ?_
                    refine hv2 (show 0 ≤ vb3 23 ∧ vb3 23 ≤ 500 from bxb3.1 23) (show vb3 23 = v 23 from fpb3.1 23 rfl) (fun rv3 ve3 => ?_)
                    refine m_get (k := 23) C dX12_setWord_80 w6_82 (by decide) rfl ?_
                    refine m_st (st2 := [.int (iI (v 23)), .int (iI y)]) (congrArg (fun z => Value.int (iI z) :: [.int (iI y)]) (fpb3.1 23 rfl)) ?_
                    refine m_icmp_ge (tgt := 104) C ⟨by omega, by omega⟩ (r32_c (lo := 0) (hi := 500) (Int.le_trans rv1.1 (Int.le_of_eq ve1)) (Int.le_trans (Int.le_of_eq ve1.symm) rv1.2) (by decide) (by decide)) dX12_setWord_83 (by decide) (fun c4 => ?_) (fun c4 => ?_)
                    · refine m_aload_n (j := 4) C dX12_setWord_104 rfl ?_
                      refine m_iload_n (j := 2) C dX12_setWord_105 rfl ?_
                      refine m_if_eq (tgt := 118) C (r32_01 hg) dX12_setWord_106 (by decide) (fun c5 => ?_) (fun c5 => ?_)
                      · refine m_aload_n (j := 4) C dX12_setWord_118 rfl ?_
                        refine m_geta (k := 8) C dX12_setWord_119 w6_67 (by decide) rfl ?_
                        refine m_iload_n (j := 5) C dX12_setWord_122 rfl ?_
                        refine m_ald (k := 8) C dX12_setWord_123 rfl rfl (by decide) (by omega) (by show _ < ((_ : Nat) : Int); simp only [mlen]; omega) (by decide) ?_
                        refine hv2 (show (-1) ≤ ab3 8 t.toNat ∧ ab3 8 t.toNat ≤ 29 from bxb3.2 8 (t.toNat)) (show ab3 8 (t.toNat) = a 8 (t.toNat) from congrFun (fpb3.2 8 rfl) (t.toNat)) (fun ra2 ae2 => ?_)
                        refine m_st (st2 := [.int (iI (a 8 t.toNat)), .ref h0]) (congrArg (fun z => Value.int (iI z) :: [.ref h0]) (congrFun (fpb3.2 8 rfl) (t.toNat))) ?_
                        refine m_iload_n (j := 3) C dX12_setWord_124 rfl ?_
                        refine m_iload (j := 0) C dX12_setWord_125 rfl ?_
                        refine hv5 (show 0 ≤ vb3 4 ∧ vb3 4 ≤ 30 from bxb3.1 4) (show vb3 4 = v 4 from fpb3.1 4 rfl) (show 0 ≤ ab3 6 (a 8 t.toNat).toNat ∧ ab3 6 (a 8 t.toNat).toNat ≤ 5 from bxb3.2 6 ((a 8 t.toNat).toNat)) (show ab3 6 ((a 8 t.toNat).toNat) = a 6 ((a 8 t.toNat).toNat) from congrFun (fpb3.2 6 rfl) ((a 8 t.toNat).toNat)) (show 0 ≤ vb3 25 ∧ vb3 25 ≤ 208 from bxb3.1 25) (fun rv4 ve4 ra3 ae3 rv5 => ?_)
                        refine m_call (mc2 := 0) (ms2 := 0) (As := [.int (iI (a 8 t.toNat)), .int (iI x), .int (iI y)]) (rest := []) C (M_setPart (t := a 8 t.toNat) (q := x) (u := y) bxb3 (hT.fr fpb3 rfl rfl) (by show 0 ≤ a 8 t.toNat ∧ a 8 t.toNat < vb3 4; omega) (by show ab3 6 (a 8 t.toNat).toNat ≤ 4; omega) (by omega) (by show vb3 25 ≤ 200; omega)) dX12_setWord_127 kV_X12_237 rfl ck_13 rfl (Nat.le_of_ble_eq_true rfl) ⟨Nat.le_of_ble_eq_true rfl, Nat.le_of_ble_eq_true rfl⟩ ⟨Nat.le_of_ble_eq_true rfl, Nat.le_of_ble_eq_true rfl⟩ (fun rh1 vh1 ah1 h1 => ?_)
                        obtain ⟨f1, rfl, fn1, bn1, ex1⟩ := h1
                        have fq2 := fpb3.call fn1 rfl rfl
                        refine m_st (st2 := [.int (iI f1)]) rfl ?_
                        refine m_if_ne (tgt := 135) C ⟨by omega, by omega⟩ dX12_setWord_130 (by decide) (fun c6 => ?_) (fun c6 => ?_)
                        · refine m_iload (j := 0) C dX12_setWord_135 rfl ?_
                          refine m_aload_n (j := 4) C dX12_setWord_137 rfl ?_
                          refine hv2 (show 0 ≤ vh1 23 ∧ vh1 23 ≤ 500 from bn1.1 23) (show vh1 23 = vb3 23 from fn1.1 23 rfl) (fun rv6 ve5 => ?_)
                          refine m_get (k := 23) C dX12_setWord_138 w6_82 (by decide) rfl ?_
                          refine m_st (st2 := [.int (iI (v 23)), .int (iI y)]) (congrArg (fun z => Value.int (iI z) :: [.int (iI y)]) (fq2.1 23 rfl)) ?_
                          refine m_icmp_ne (tgt := 146) C ⟨by omega, by omega⟩ (r32_c (lo := 0) (hi := 500) (Int.le_trans rv1.1 (Int.le_of_eq ve1)) (Int.le_trans (Int.le_of_eq ve1.symm) rv1.2) (by decide) (by decide)) dX12_setWord_141 (by decide) (fun c7 => ?_) (fun c7 => ?_)
                          · refine m_iload_n (j := 2) C dX12_setWord_146 rfl ?_
                            refine m_if_eq (tgt := 154) C (r32_01 hg) dX12_setWord_147 (by decide) (fun _ => ?_) (fun z => absurd z (by omega))
                            refine m_iconst C dX12_setWord_154 ?_
                            refine m_istore (lv2 := [(6, .int (iI 2)), (5, .int (iI y)), (4, .int (iI sg)), (2, .int (iI g)), (3, .int (iI x)), (0, .ref h0), (1, .int (iI t))]) C dX12_setWord_155 (by decide) rfl ?_
                            refine m_aload_n (j := 5) C dX12_setWord_157 rfl ?_
                            refine m_geta (k := 16) C dX12_setWord_158 w6_75 (by decide) rfl ?_
                            refine m_iconst C dX12_setWord_161 ?_
                            refine m_iload_n (j := 6) C dX12_setWord_162 rfl ?_
                            refine m_imul C dX12_setWord_163 ?_
                            refine m_iload (j := 0) C dX12_setWord_164 rfl ?_
                            refine m_iadd C dX12_setWord_166 ?_
                            refine m_ald (k := 16) C dX12_setWord_167 rfl rfl (by decide) (by omega) (by show _ < ((_ : Nat) : Int); simp only [mlen]; omega) (by decide) ?_
                            refine hv3 (show 0 ≤ ah1 16 ((4 * t) + 2).toNat ∧ ah1 16 ((4 * t) + 2).toNat ≤ 4 from bn1.2 16 (((4 * t) + 2).toNat)) (show ah1 16 (((4 * t) + 2).toNat) = ab3 16 (((4 * t) + 2).toNat) from congrFun (fn1.2 16 rfl) (((4 * t) + 2).toNat)) (show ab3 16 (((4 * t) + 2).toNat) = a 16 (((4 * t) + 2).toNat) from congrFun (fpb3.2 16 rfl) (((4 * t) + 2).toNat)) (fun ra4 ae4 ae5 => ?_)
                            refine m_st (st2 := [.int (iI (a 16 ((4 * t) + 2).toNat))]) (congrArg (fun z => Value.int (iI z) :: []) (congrFun (fq2.2 16 rfl) (((4 * t) + 2).toNat))) ?_
                            refine m_if_ne (tgt := 184) C ⟨by omega, by omega⟩ dX12_setWord_168 (by decide) (fun c8 => ?_) (fun c8 => ?_)
                            · refine m_aload_n (j := 5) C dX12_setWord_184 rfl ?_
                              refine m_iload_n (j := 6) C dX12_setWord_185 rfl ?_
                              refine m_iload (j := 0) C dX12_setWord_186 rfl ?_
                              have rv7 : 0 ≤ vh1 25 ∧ vh1 25 ≤ 208 := bn1.1 25
                              refine m_call (mc2 := 0) (ms2 := 0) (As := [.int (iI t), .int (iI 2)]) (rest := []) C (M_putIndicator (t := t) (w1 := 2) bn1.rg (by omega) (by omega) (bn1.2 16 _) (by show 0 ≤ (vh1 25) ∧ (vh1 25) ≤ 6000; omega)) dX12_setWord_188 kV_X12_227 rfl ck_13 rfl (Nat.le_of_ble_eq_true rfl) ⟨Nat.le_of_ble_eq_true rfl, Nat.le_of_ble_eq_true rfl⟩ ⟨Nat.le_of_ble_eq_true rfl, Nat.le_of_ble_eq_true rfl⟩ (fun rh2 vh2 ah2 h2 => ?_)
                              obtain ⟨rfl, fn2, bn2, ex2⟩ := W_putIndicator bn1 (by show (vh1 25) ≤ 204; omega) h2
                              refine hv3 (fq2.call fn2 rfl rfl) (show vh2 25 = vh1 25 + ah1 16 (4 * t + 2).toNat from ex2) (show 0 ≤ ah1 16 (4 * t + 2).toNat ∧ ah1 16 (4 * t + 2).toNat ≤ 4 from bn1.2 16 _) (fun fq3 gex2 iex2 => ?_)
                              refine m_st (st2 := []) rfl ?_
                              refine m_aload_n (j := 5) C dX12_setWord_191 rfl ?_
                              have rv8 : 0 ≤ vh2 25 ∧ vh2 25 ≤ 208 := bn2.1 25
                              refine m_get (k := 25) C dX12_setWord_192 w6_84 (by decide) rfl ?_
                              refine m_sipush (z := 200) C dX12_setWord_195 (by decide) ?_
                              refine m_icmp_le (tgt := 208) C (r32_c (lo := 0) (hi := 208) rv8.1 rv8.2 (by decide) (by decide)) ⟨by decide, by decide⟩ dX12_setWord_198 (by decide) (fun c9 => ?_) (fun c9 => ?_)
                              · refine m_iload_n (j := 3) C dX12_setWord_208 rfl ?_
                                refine m_if_ne (tgt := 216) C (r32_01 hg) dX12_setWord_209 (by decide) (fun z => absurd z (by omega)) (fun _ => ?_)
                                refine m_iconst C dX12_setWord_212 ?_
                                refine m_goto (tgt := 217) C dX12_setWord_213 (by decide) ?_
                                refine m_istore_n (lv2 := [(2, .int (iI 1)), (6, .int (iI 2)), (5, .int (iI y)), (4, .int (iI sg)), (3, .int (iI x)), (0, .ref h0), (1, .int (iI t))]) C dX12_setWord_217 (by decide) rfl ?_
                                refine m_iload (j := 2) C dX12_setWord_218 rfl ?_
                                refine m_iconst C dX12_setWord_220 ?_
                                refine m_iadd C dX12_setWord_221 ?_
                                refine m_istore_n (lv2 := [(3, .int (iI (y + 1))), (2, .int (iI 1)), (6, .int (iI 2)), (5, .int (iI y)), (4, .int (iI sg)), (0, .ref h0), (1, .int (iI t))]) C dX12_setWord_222 (by decide) rfl ?_
                                refine m_goto (tgt := 53) C dX12_setWord_223 (by decide) ?_
                                refine m_lv (lv2 := [(2, .int (iI 1)), (3, .int (iI (y + 1))), (0, .ref h0), (1, .int (iI t))]) [1, 0, 5, 6] rfl ?_
                                exact ih2  1 (y + 1) _ _ (by omega) bn2 fq3 (by omega) (by omega) (by show (vh2 25) ≤ 200; omega)
                              · refine m_aload_n (j := 5) C dX12_setWord_201 rfl ?_
                                refine m_iconst C dX12_setWord_202 ?_
                                refine m_put (k := 28) (z := (-1)) C dX12_setWord_203 w6_87 (by decide) rfl rfl rfl ?_
                                refine hv2 (show BX (va_up vh2 28 (-1)) ah2 from bn2.put (k := 28) (z := (-1)) ⟨by decide, by decide⟩) (fq3.put (k := 28) (z := (-1)) rfl) (fun bq2 fq4 => ?_)
                                refine m_iconst C dX12_setWord_206 ?_
                                exact m_zret C dX12_setWord_207 rfl (Or.inl rfl) (Nat.le_of_ble_eq_true rfl) (Nat.le_of_ble_eq_true rfl) ⟨0, rfl, fq4, bq2, (Or.inl rfl)⟩
                            · refine m_aload_n (j := 5) C dX12_setWord_171 rfl ?_
                              refine m_aload_n (j := 5) C dX12_setWord_172 rfl ?_
                              refine m_geta (k := 21) C dX12_setWord_173 w6_80 (by decide) rfl ?_
                              refine m_iload (j := 1) C dX12_setWord_176 rfl ?_
                              refine m_ald (k := 21) C dX12_setWord_178 rfl rfl (by decide) (by omega) (by show _ < ((_ : Nat) : Int); simp only [mlen]; omega) (by decide) ?_
                              refine hv3 (show (-2147483648) ≤ ah1 21 y.toNat ∧ ah1 21 y.toNat ≤ 2147483647 from bn1.2 21 (y.toNat)) (show ah1 21 (y.toNat) = ab3 21 (y.toNat) from congrFun (fn1.2 21 rfl) (y.toNat)) (show ab3 21 (y.toNat) = a 21 (y.toNat) from congrFun (fpb3.2 21 rfl) (y.toNat)) (fun ra5 ae6 ae7 => ?_)
                              refine m_st (st2 := [.int (iI (a 21 y.toNat)), .ref h0]) (congrArg (fun z => Value.int (iI z) :: [.ref h0]) (congrFun (fq2.2 21 rfl) (y.toNat))) ?_
                              refine m_put (k := 28) (z := a 21 y.toNat) C dX12_setWord_179 w6_87 (by decide) rfl rfl rfl ?_
                              refine hv2 (show BX (va_up vh1 28 (a 21 y.toNat)) ah1 from bn1.put (k := 28) (z := a 21 y.toNat) (show (-2147483648) ≤ (a 21 y.toNat) ∧ (a 21 y.toNat) ≤ 2147483647 by omega)) (fq2.put (k := 28) (z := a 21 y.toNat) rfl) (fun bq3 fq5 => ?_)
                              refine m_iconst C dX12_setWord_182 ?_
                              exact m_zret C dX12_setWord_183 rfl (Or.inl rfl) (Nat.le_of_ble_eq_true rfl) (Nat.le_of_ble_eq_true rfl) ⟨0, rfl, fq5, bq3, (Or.inl rfl)⟩
                          · refine m_iconst C dX12_setWord_144 ?_
                            exact m_zret C dX12_setWord_145 rfl (Or.inr rfl) (Nat.le_of_ble_eq_true rfl) (Nat.le_of_ble_eq_true rfl) ⟨1, rfl, fq2, bn1, (Or.inr ⟨rfl, by omega⟩)⟩
                        · refine m_iconst C dX12_setWord_133 ?_
                          exact m_zret C dX12_setWord_134 rfl (Or.inl rfl) (Nat.le_of_ble_eq_true rfl) (Nat.le_of_ble_eq_true rfl) ⟨0, rfl, fq2, bn1, (Or.inl rfl)⟩
                      · refine m_aload_n (j := 4) C dX12_setWord_109 rfl ?_
                        refine m_geta (k := 9) C dX12_setWord_110 w6_68 (by decide) rfl ?_
                        refine m_iload_n (j := 5) C dX12_setWord_113 rfl ?_
                        refine m_ald (k := 9) C dX12_setWord_114 rfl rfl (by decide) (by omega) (by show _ < ((_ : Nat) : Int); simp only [mlen]; omega) (by decide) ?_
                        refine hv2 (show (-1) ≤ ab3 9 t.toNat ∧ ab3 9 t.toNat ≤ 29 from bxb3.2 9 (t.toNat)) (show ab3 9 (t.toNat) = a 9 (t.toNat) from congrFun (fpb3.2 9 rfl) (t.toNat)) (fun ra6 ae8 => ?_)
                        refine m_st (st2 := [.int (iI (a 9 t.toNat)), .ref h0]) (congrArg (fun z => Value.int (iI z) :: [.ref h0]) (congrFun (fpb3.2 9 rfl) (t.toNat))) ?_
                        refine m_goto (tgt := 124) C dX12_setWord_115 (by decide) ?_
                        refine m_iload_n (j := 3) C dX12_setWord_124 rfl ?_
                        refine m_iload (j := 0) C dX12_setWord_125 rfl ?_
                        refine hv5 (show 0 ≤ vb3 4 ∧ vb3 4 ≤ 30 from bxb3.1 4) (show vb3 4 = v 4 from fpb3.1 4 rfl) (show 0 ≤ ab3 6 (a 9 t.toNat).toNat ∧ ab3 6 (a 9 t.toNat).toNat ≤ 5 from bxb3.2 6 ((a 9 t.toNat).toNat)) (show ab3 6 ((a 9 t.toNat).toNat) = a 6 ((a 9 t.toNat).toNat) from congrFun (fpb3.2 6 rfl) ((a 9 t.toNat).toNat)) (show 0 ≤ vb3 25 ∧ vb3 25 ≤ 208 from bxb3.1 25) (fun rv9 ve6 ra7 ae9 rv10 => ?_)
                        refine m_call (mc2 := 0) (ms2 := 0) (As := [.int (iI (a 9 t.toNat)), .int (iI x), .int (iI y)]) (rest := []) C (M_setPart (t := a 9 t.toNat) (q := x) (u := y) bxb3 (hT.fr fpb3 rfl rfl) (by show 0 ≤ a 9 t.toNat ∧ a 9 t.toNat < vb3 4; omega) (by show ab3 6 (a 9 t.toNat).toNat ≤ 4; omega) (by omega) (by show vb3 25 ≤ 200; omega)) dX12_setWord_127 kV_X12_237 rfl ck_13 rfl (Nat.le_of_ble_eq_true rfl) ⟨Nat.le_of_ble_eq_true rfl, Nat.le_of_ble_eq_true rfl⟩ ⟨Nat.le_of_ble_eq_true rfl, Nat.le_of_ble_eq_true rfl⟩ (fun rh3 vh3 ah3 h3 => ?_)
                        obtain ⟨f3, rfl, fn3, bn3, ex3⟩ := h3
                        have fq6 := fpb3.call fn3 rfl rfl
                        refine m_st (st2 := [.int (iI f3)]) rfl ?_
                        refine m_if_ne (tgt := 135) C ⟨by omega, by omega⟩ dX12_setWord_130 (by decide) (fun c10 => ?_) (fun c10 => ?_)
                        · refine m_iload (j := 0) C dX12_setWord_135 rfl ?_
                          refine m_aload_n (j := 4) C dX12_setWord_137 rfl ?_
                          refine hv2 (show 0 ≤ vh3 23 ∧ vh3 23 ≤ 500 from bn3.1 23) (show vh3 23 = vb3 23 from fn3.1 23 rfl) (fun rv11 ve7 => ?_)
                          refine m_get (k := 23) C dX12_setWord_138 w6_82 (by decide) rfl ?_
                          refine m_st (st2 := [.int (iI (v 23)), .int (iI y)]) (congrArg (fun z => Value.int (iI z) :: [.int (iI y)]) (fq6.1 23 rfl)) ?_
                          refine m_icmp_ne (tgt := 146) C ⟨by omega, by omega⟩ (r32_c (lo := 0) (hi := 500) (Int.le_trans rv1.1 (Int.le_of_eq ve1)) (Int.le_trans (Int.le_of_eq ve1.symm) rv1.2) (by decide) (by decide)) dX12_setWord_141 (by decide) (fun c11 => ?_) (fun c11 => ?_)
                          · refine m_iload_n (j := 2) C dX12_setWord_146 rfl ?_
                            refine m_if_eq (tgt := 154) C (r32_01 hg) dX12_setWord_147 (by decide) (fun z => absurd z (by omega)) (fun _ => ?_)
                            refine m_iconst C dX12_setWord_150 ?_
                            refine m_goto (tgt := 155) C dX12_setWord_151 (by decide) ?_
                            refine m_istore (lv2 := [(6, .int (iI 3)), (5, .int (iI y)), (4, .int (iI sg)), (2, .int (iI g)), (3, .int (iI x)), (0, .ref h0), (1, .int (iI t))]) C dX12_setWord_155 (by decide) rfl ?_
                            refine m_aload_n (j := 5) C dX12_setWord_157 rfl ?_
                            refine m_geta (k := 16) C dX12_setWord_158 w6_75 (by decide) rfl ?_
                            refine m_iconst C dX12_setWord_161 ?_
                            refine m_iload_n (j := 6) C dX12_setWord_162 rfl ?_
                            refine m_imul C dX12_setWord_163 ?_
                            refine m_iload (j := 0) C dX12_setWord_164 rfl ?_
                            refine m_iadd C dX12_setWord_166 ?_
                            refine m_ald (k := 16) C dX12_setWord_167 rfl rfl (by decide) (by omega) (by show _ < ((_ : Nat) : Int); simp only [mlen]; omega) (by decide) ?_
                            refine hv3 (show 0 ≤ ah3 16 ((4 * t) + 3).toNat ∧ ah3 16 ((4 * t) + 3).toNat ≤ 4 from bn3.2 16 (((4 * t) + 3).toNat)) (show ah3 16 (((4 * t) + 3).toNat) = ab3 16 (((4 * t) + 3).toNat) from congrFun (fn3.2 16 rfl) (((4 * t) + 3).toNat)) (show ab3 16 (((4 * t) + 3).toNat) = a 16 (((4 * t) + 3).toNat) from congrFun (fpb3.2 16 rfl) (((4 * t) + 3).toNat)) (fun ra8 ae10 ae11 => ?_)
                            refine m_st (st2 := [.int (iI (a 16 ((4 * t) + 3).toNat))]) (congrArg (fun z => Value.int (iI z) :: []) (congrFun (fq6.2 16 rfl) (((4 * t) + 3).toNat))) ?_
                            refine m_if_ne (tgt := 184) C ⟨by omega, by omega⟩ dX12_setWord_168 (by decide) (fun c12 => ?_) (fun c12 => ?_)
                            · refine m_aload_n (j := 5) C dX12_setWord_184 rfl ?_
                              refine m_iload_n (j := 6) C dX12_setWord_185 rfl ?_
                              refine m_iload (j := 0) C dX12_setWord_186 rfl ?_
                              have rv12 : 0 ≤ vh3 25 ∧ vh3 25 ≤ 208 := bn3.1 25
                              refine m_call (mc2 := 0) (ms2 := 0) (As := [.int (iI t), .int (iI 3)]) (rest := []) C (M_putIndicator (t := t) (w1 := 3) bn3.rg (by omega) (by omega) (bn3.2 16 _) (by show 0 ≤ (vh3 25) ∧ (vh3 25) ≤ 6000; omega)) dX12_setWord_188 kV_X12_227 rfl ck_13 rfl (Nat.le_of_ble_eq_true rfl) ⟨Nat.le_of_ble_eq_true rfl, Nat.le_of_ble_eq_true rfl⟩ ⟨Nat.le_of_ble_eq_true rfl, Nat.le_of_ble_eq_true rfl⟩ (fun rh4 vh4 ah4 h4 => ?_)
                              obtain ⟨rfl, fn4, bn4, ex4⟩ := W_putIndicator bn3 (by show (vh3 25) ≤ 204; omega) h4
                              refine hv3 (fq6.call fn4 rfl rfl) (show vh4 25 = vh3 25 + ah3 16 (4 * t + 3).toNat from ex4) (show 0 ≤ ah3 16 (4 * t + 3).toNat ∧ ah3 16 (4 * t + 3).toNat ≤ 4 from bn3.2 16 _) (fun fq7 gex4 iex4 => ?_)
                              refine m_st (st2 := []) rfl ?_
                              refine m_aload_n (j := 5) C dX12_setWord_191 rfl ?_
                              have rv13 : 0 ≤ vh4 25 ∧ vh4 25 ≤ 208 := bn4.1 25
                              refine m_get (k := 25) C dX12_setWord_192 w6_84 (by decide) rfl ?_
                              refine m_sipush (z := 200) C dX12_setWord_195 (by decide) ?_
                              refine m_icmp_le (tgt := 208) C (r32_c (lo := 0) (hi := 208) rv13.1 rv13.2 (by decide) (by decide)) ⟨by decide, by decide⟩ dX12_setWord_198 (by decide) (fun c13 => ?_) (fun c13 => ?_)
                              · refine m_iload_n (j := 3) C dX12_setWord_208 rfl ?_
                                refine m_if_ne (tgt := 216) C (r32_01 hg) dX12_setWord_209 (by decide) (fun _ => ?_) (fun z => absurd z (by omega))
                                refine m_iconst C dX12_setWord_216 ?_
                                refine m_istore_n (lv2 := [(2, .int (iI 0)), (6, .int (iI 3)), (5, .int (iI y)), (4, .int (iI sg)), (3, .int (iI x)), (0, .ref h0), (1, .int (iI t))]) C dX12_setWord_217 (by decide) rfl ?_
                                refine m_iload (j := 2) C dX12_setWord_218 rfl ?_
                                refine m_iconst C dX12_setWord_220 ?_
                                refine m_iadd C dX12_setWord_221 ?_
                                refine m_istore_n (lv2 := [(3, .int (iI (y + 1))), (2, .int (iI 0)), (6, .int (iI 3)), (5, .int (iI y)), (4, .int (iI sg)), (0, .ref h0), (1, .int (iI t))]) C dX12_setWord_222 (by decide) rfl ?_
                                refine m_goto (tgt := 53) C dX12_setWord_223 (by decide) ?_
                                refine m_lv (lv2 := [(2, .int (iI 0)), (3, .int (iI (y + 1))), (0, .ref h0), (1, .int (iI t))]) [1, 0, 5, 6] rfl ?_
                                exact ih2  0 (y + 1) _ _ (by omega) bn4 fq7 (by omega) (by omega) (by show (vh4 25) ≤ 200; omega)
                              · refine m_aload_n (j := 5) C dX12_setWord_201 rfl ?_
                                refine m_iconst C dX12_setWord_202 ?_
                                refine m_put (k := 28) (z := (-1)) C dX12_setWord_203 w6_87 (by decide) rfl rfl rfl ?_
                                refine hv2 (show BX (va_up vh4 28 (-1)) ah4 from bn4.put (k := 28) (z := (-1)) ⟨by decide, by decide⟩) (fq7.put (k := 28) (z := (-1)) rfl) (fun bq4 fq8 => ?_)
                                refine m_iconst C dX12_setWord_206 ?_
                                exact m_zret C dX12_setWord_207 rfl (Or.inl rfl) (Nat.le_of_ble_eq_true rfl) (Nat.le_of_ble_eq_true rfl) ⟨0, rfl, fq8, bq4, (Or.inl rfl)⟩
                            · refine m_aload_n (j := 5) C dX12_setWord_171 rfl ?_
                              refine m_aload_n (j := 5) C dX12_setWord_172 rfl ?_
                              refine m_geta (k := 21) C dX12_setWord_173 w6_80 (by decide) rfl ?_
                              refine m_iload (j := 1) C dX12_setWord_176 rfl ?_
                              refine m_ald (k := 21) C dX12_setWord_178 rfl rfl (by decide) (by omega) (by show _ < ((_ : Nat) : Int); simp only [mlen]; omega) (by decide) ?_
                              refine hv3 (show (-2147483648) ≤ ah3 21 y.toNat ∧ ah3 21 y.toNat ≤ 2147483647 from bn3.2 21 (y.toNat)) (show ah3 21 (y.toNat) = ab3 21 (y.toNat) from congrFun (fn3.2 21 rfl) (y.toNat)) (show ab3 21 (y.toNat) = a 21 (y.toNat) from congrFun (fpb3.2 21 rfl) (y.toNat)) (fun ra9 ae12 ae13 => ?_)
                              refine m_st (st2 := [.int (iI (a 21 y.toNat)), .ref h0]) (congrArg (fun z => Value.int (iI z) :: [.ref h0]) (congrFun (fq6.2 21 rfl) (y.toNat))) ?_
                              refine m_put (k := 28) (z := a 21 y.toNat) C dX12_setWord_179 w6_87 (by decide) rfl rfl rfl ?_
                              refine hv2 (show BX (va_up vh3 28 (a 21 y.toNat)) ah3 from bn3.put (k := 28) (z := a 21 y.toNat) (show (-2147483648) ≤ (a 21 y.toNat) ∧ (a 21 y.toNat) ≤ 2147483647 by omega)) (fq6.put (k := 28) (z := a 21 y.toNat) rfl) (fun bq5 fq9 => ?_)
                              refine m_iconst C dX12_setWord_182 ?_
                              exact m_zret C dX12_setWord_183 rfl (Or.inl rfl) (Nat.le_of_ble_eq_true rfl) (Nat.le_of_ble_eq_true rfl) ⟨0, rfl, fq9, bq5, (Or.inl rfl)⟩
                          · refine m_iconst C dX12_setWord_144 ?_
                            exact m_zret C dX12_setWord_145 rfl (Or.inr rfl) (Nat.le_of_ble_eq_true rfl) (Nat.le_of_ble_eq_true rfl) ⟨1, rfl, fq6, bn3, (Or.inr ⟨rfl, by omega⟩)⟩
                        · refine m_iconst C dX12_setWord_133 ?_
                          exact m_zret C dX12_setWord_134 rfl (Or.inl rfl) (Nat.le_of_ble_eq_true rfl) (Nat.le_of_ble_eq_true rfl) ⟨0, rfl, fq6, bn3, (Or.inl rfl)⟩
                    · refine m_aload_n (j := 4) C dX12_setWord_86 rfl ?_
                      refine m_geta (k := 20) C dX12_setWord_87 w6_79 (by decide) rfl ?_
                      refine m_iload (j := 0) C dX12_setWord_90 rfl ?_
                      refine m_ald (k := 20) C dX12_setWord_92 rfl rfl (by decide) (by omega) (by show _ < ((_ : Nat) : Int); simp only [mlen]; omega) (by decide) ?_
                      have ra10 : (-2147483648) ≤ ab3 20 y.toNat ∧ ab3 20 y.toNat ≤ 2147483647 := bxb3.2 20 (y.toNat)
                      refine m_iload (j := 1) C dX12_setWord_93 rfl ?_
                      refine m_icmp_eq (tgt := 104) C (r32_c (lo := (-2147483648)) (hi := 2147483647) ra10.1 ra10.2 (by decide) (by decide)) ⟨by omega, by omega⟩ dX12_setWord_95 (by decide) (fun c14 => ?_) (fun c14 => ?_)
                      · refine m_aload_n (j := 4) C dX12_setWord_104 rfl ?_
                        refine m_iload_n (j := 2) C dX12_setWord_105 rfl ?_
                        refine m_if_eq (tgt := 118) C (r32_01 hg) dX12_setWord_106 (by decide) (fun c15 => ?_) (fun c15 => ?_)
                        · refine m_aload_n (j := 4) C dX12_setWord_118 rfl ?_
                          refine m_geta (k := 8) C dX12_setWord_119 w6_67 (by decide) rfl ?_
                          refine m_iload_n (j := 5) C dX12_setWord_122 rfl ?_
                          refine m_ald (k := 8) C dX12_setWord_123 rfl rfl (by decide) (by omega) (by show _ < ((_ : Nat) : Int); simp only [mlen]; omega) (by decide) ?_
                          refine hv2 (show (-1) ≤ ab3 8 t.toNat ∧ ab3 8 t.toNat ≤ 29 from bxb3.2 8 (t.toNat)) (show ab3 8 (t.toNat) = a 8 (t.toNat) from congrFun (fpb3.2 8 rfl) (t.toNat)) (fun ra11 ae14 => ?_)
                          refine m_st (st2 := [.int (iI (a 8 t.toNat)), .ref h0]) (congrArg (fun z => Value.int (iI z) :: [.ref h0]) (congrFun (fpb3.2 8 rfl) (t.toNat))) ?_
                          refine m_iload_n (j := 3) C dX12_setWord_124 rfl ?_
                          refine m_iload (j := 0) C dX12_setWord_125 rfl ?_
                          refine hv5 (show 0 ≤ vb3 4 ∧ vb3 4 ≤ 30 from bxb3.1 4) (show vb3 4 = v 4 from fpb3.1 4 rfl) (show 0 ≤ ab3 6 (a 8 t.toNat).toNat ∧ ab3 6 (a 8 t.toNat).toNat ≤ 5 from bxb3.2 6 ((a 8 t.toNat).toNat)) (show ab3 6 ((a 8 t.toNat).toNat) = a 6 ((a 8 t.toNat).toNat) from congrFun (fpb3.2 6 rfl) ((a 8 t.toNat).toNat)) (show 0 ≤ vb3 25 ∧ vb3 25 ≤ 208 from bxb3.1 25) (fun rv14 ve8 ra12 ae15 rv15 => ?_)
                          refine m_call (mc2 := 0) (ms2 := 0) (As := [.int (iI (a 8 t.toNat)), .int (iI x), .int (iI y)]) (rest := []) C (M_setPart (t := a 8 t.toNat) (q := x) (u := y) bxb3 (hT.fr fpb3 rfl rfl) (by show 0 ≤ a 8 t.toNat ∧ a 8 t.toNat < vb3 4; omega) (by show ab3 6 (a 8 t.toNat).toNat ≤ 4; omega) (by omega) (by show vb3 25 ≤ 200; omega)) dX12_setWord_127 kV_X12_237 rfl ck_13 rfl (Nat.le_of_ble_eq_true rfl) ⟨Nat.le_of_ble_eq_true rfl, Nat.le_of_ble_eq_true rfl⟩ ⟨Nat.le_of_ble_eq_true rfl, Nat.le_of_ble_eq_true rfl⟩ (fun rh5 vh5 ah5 h5 => ?_)
                          obtain ⟨f5, rfl, fn5, bn5, ex5⟩ := h5
                          have fq10 := fpb3.call fn5 rfl rfl
                          refine m_st (st2 := [.int (iI f5)]) rfl ?_
                          refine m_if_ne (tgt := 135) C ⟨by omega, by omega⟩ dX12_setWord_130 (by decide) (fun c16 => ?_) (fun c16 => ?_)
                          · refine m_iload (j := 0) C dX12_setWord_135 rfl ?_
                            refine m_aload_n (j := 4) C dX12_setWord_137 rfl ?_
                            refine hv2 (show 0 ≤ vh5 23 ∧ vh5 23 ≤ 500 from bn5.1 23) (show vh5 23 = vb3 23 from fn5.1 23 rfl) (fun rv16 ve9 => ?_)
                            refine m_get (k := 23) C dX12_setWord_138 w6_82 (by decide) rfl ?_
                            refine m_st (st2 := [.int (iI (v 23)), .int (iI y)]) (congrArg (fun z => Value.int (iI z) :: [.int (iI y)]) (fq10.1 23 rfl)) ?_
                            refine m_icmp_ne (tgt := 146) C ⟨by omega, by omega⟩ (r32_c (lo := 0) (hi := 500) (Int.le_trans rv1.1 (Int.le_of_eq ve1)) (Int.le_trans (Int.le_of_eq ve1.symm) rv1.2) (by decide) (by decide)) dX12_setWord_141 (by decide) (fun _ => ?_) (fun z => absurd z (by omega))
                            refine m_iload_n (j := 2) C dX12_setWord_146 rfl ?_
                            refine m_if_eq (tgt := 154) C (r32_01 hg) dX12_setWord_147 (by decide) (fun _ => ?_) (fun z => absurd z (by omega))
                            refine m_iconst C dX12_setWord_154 ?_
                            refine m_istore (lv2 := [(6, .int (iI 2)), (5, .int (iI y)), (4, .int (iI sg)), (2, .int (iI g)), (3, .int (iI x)), (0, .ref h0), (1, .int (iI t))]) C dX12_setWord_155 (by decide) rfl ?_
                            refine m_aload_n (j := 5) C dX12_setWord_157 rfl ?_
                            refine m_geta (k := 16) C dX12_setWord_158 w6_75 (by decide) rfl ?_
                            refine m_iconst C dX12_setWord_161 ?_
                            refine m_iload_n (j := 6) C dX12_setWord_162 rfl ?_
                            refine m_imul C dX12_setWord_163 ?_
                            refine m_iload (j := 0) C dX12_setWord_164 rfl ?_
                            refine m_iadd C dX12_setWord_166 ?_
                            refine m_ald (k := 16) C dX12_setWord_167 rfl rfl (by decide) (by omega) (by show _ < ((_ : Nat) : Int); simp only [mlen]; omega) (by decide) ?_
                            refine hv3 (show 0 ≤ ah5 16 ((4 * t) + 2).toNat ∧ ah5 16 ((4 * t) + 2).toNat ≤ 4 from bn5.2 16 (((4 * t) + 2).toNat)) (show ah5 16 (((4 * t) + 2).toNat) = ab3 16 (((4 * t) + 2).toNat) from congrFun (fn5.2 16 rfl) (((4 * t) + 2).toNat)) (show ab3 16 (((4 * t) + 2).toNat) = a 16 (((4 * t) + 2).toNat) from congrFun (fpb3.2 16 rfl) (((4 * t) + 2).toNat)) (fun ra13 ae16 ae17 => ?_)
                            refine m_st (st2 := [.int (iI (a 16 ((4 * t) + 2).toNat))]) (congrArg (fun z => Value.int (iI z) :: []) (congrFun (fq10.2 16 rfl) (((4 * t) + 2).toNat))) ?_
                            refine m_if_ne (tgt := 184) C ⟨by omega, by omega⟩ dX12_setWord_168 (by decide) (fun c17 => ?_) (fun c17 => ?_)
                            · refine m_aload_n (j := 5) C dX12_setWord_184 rfl ?_
                              refine m_iload_n (j := 6) C dX12_setWord_185 rfl ?_
                              refine m_iload (j := 0) C dX12_setWord_186 rfl ?_
                              have rv17 : 0 ≤ vh5 25 ∧ vh5 25 ≤ 208 := bn5.1 25
                              refine m_call (mc2 := 0) (ms2 := 0) (As := [.int (iI t), .int (iI 2)]) (rest := []) C (M_putIndicator (t := t) (w1 := 2) bn5.rg (by omega) (by omega) (bn5.2 16 _) (by show 0 ≤ (vh5 25) ∧ (vh5 25) ≤ 6000; omega)) dX12_setWord_188 kV_X12_227 rfl ck_13 rfl (Nat.le_of_ble_eq_true rfl) ⟨Nat.le_of_ble_eq_true rfl, Nat.le_of_ble_eq_true rfl⟩ ⟨Nat.le_of_ble_eq_true rfl, Nat.le_of_ble_eq_true rfl⟩ (fun rh6 vh6 ah6 h6 => ?_)
                              obtain ⟨rfl, fn6, bn6, ex6⟩ := W_putIndicator bn5 (by show (vh5 25) ≤ 204; omega) h6
                              refine hv3 (fq10.call fn6 rfl rfl) (show vh6 25 = vh5 25 + ah5 16 (4 * t + 2).toNat from ex6) (show 0 ≤ ah5 16 (4 * t + 2).toNat ∧ ah5 16 (4 * t + 2).toNat ≤ 4 from bn5.2 16 _) (fun fq11 gex6 iex6 => ?_)
                              refine m_st (st2 := []) rfl ?_
                              refine m_aload_n (j := 5) C dX12_setWord_191 rfl ?_
                              have rv18 : 0 ≤ vh6 25 ∧ vh6 25 ≤ 208 := bn6.1 25
                              refine m_get (k := 25) C dX12_setWord_192 w6_84 (by decide) rfl ?_
                              refine m_sipush (z := 200) C dX12_setWord_195 (by decide) ?_
                              refine m_icmp_le (tgt := 208) C (r32_c (lo := 0) (hi := 208) rv18.1 rv18.2 (by decide) (by decide)) ⟨by decide, by decide⟩ dX12_setWord_198 (by decide) (fun c18 => ?_) (fun c18 => ?_)
                              · refine m_iload_n (j := 3) C dX12_setWord_208 rfl ?_
                                refine m_if_ne (tgt := 216) C (r32_01 hg) dX12_setWord_209 (by decide) (fun z => absurd z (by omega)) (fun _ => ?_)
                                refine m_iconst C dX12_setWord_212 ?_
                                refine m_goto (tgt := 217) C dX12_setWord_213 (by decide) ?_
                                refine m_istore_n (lv2 := [(2, .int (iI 1)), (6, .int (iI 2)), (5, .int (iI y)), (4, .int (iI sg)), (3, .int (iI x)), (0, .ref h0), (1, .int (iI t))]) C dX12_setWord_217 (by decide) rfl ?_
                                refine m_iload (j := 2) C dX12_setWord_218 rfl ?_
                                refine m_iconst C dX12_setWord_220 ?_
                                refine m_iadd C dX12_setWord_221 ?_
                                refine m_istore_n (lv2 := [(3, .int (iI (y + 1))), (2, .int (iI 1)), (6, .int (iI 2)), (5, .int (iI y)), (4, .int (iI sg)), (0, .ref h0), (1, .int (iI t))]) C dX12_setWord_222 (by decide) rfl ?_
                                refine m_goto (tgt := 53) C dX12_setWord_223 (by decide) ?_
                                refine m_lv (lv2 := [(2, .int (iI 1)), (3, .int (iI (y + 1))), (0, .ref h0), (1, .int (iI t))]) [1, 0, 5, 6] rfl ?_
                                exact ih2  1 (y + 1) _ _ (by omega) bn6 fq11 (by omega) (by omega) (by show (vh6 25) ≤ 200; omega)
                              · refine m_aload_n (j := 5) C dX12_setWord_201 rfl ?_
                                refine m_iconst C dX12_setWord_202 ?_
                                refine m_put (k := 28) (z := (-1)) C dX12_setWord_203 w6_87 (by decide) rfl rfl rfl ?_
                                refine hv2 (show BX (va_up vh6 28 (-1)) ah6 from bn6.put (k := 28) (z := (-1)) ⟨by decide, by decide⟩) (fq11.put (k := 28) (z := (-1)) rfl) (fun bq6 fq12 => ?_)
                                refine m_iconst C dX12_setWord_206 ?_
                                exact m_zret C dX12_setWord_207 rfl (Or.inl rfl) (Nat.le_of_ble_eq_true rfl) (Nat.le_of_ble_eq_true rfl) ⟨0, rfl, fq12, bq6, (Or.inl rfl)⟩
                            · refine m_aload_n (j := 5) C dX12_setWord_171 rfl ?_
                              refine m_aload_n (j := 5) C dX12_setWord_172 rfl ?_
                              refine m_geta (k := 21) C dX12_setWord_173 w6_80 (by decide) rfl ?_
                              refine m_iload (j := 1) C dX12_setWord_176 rfl ?_
                              refine m_ald (k := 21) C dX12_setWord_178 rfl rfl (by decide) (by omega) (by show _ < ((_ : Nat) : Int); simp only [mlen]; omega) (by decide) ?_
                              refine hv3 (show (-2147483648) ≤ ah5 21 y.toNat ∧ ah5 21 y.toNat ≤ 2147483647 from bn5.2 21 (y.toNat)) (show ah5 21 (y.toNat) = ab3 21 (y.toNat) from congrFun (fn5.2 21 rfl) (y.toNat)) (show ab3 21 (y.toNat) = a 21 (y.toNat) from congrFun (fpb3.2 21 rfl) (y.toNat)) (fun ra14 ae18 ae19 => ?_)
                              refine m_st (st2 := [.int (iI (a 21 y.toNat)), .ref h0]) (congrArg (fun z => Value.int (iI z) :: [.ref h0]) (congrFun (fq10.2 21 rfl) (y.toNat))) ?_
                              refine m_put (k := 28) (z := a 21 y.toNat) C dX12_setWord_179 w6_87 (by decide) rfl rfl rfl ?_
                              refine hv2 (show BX (va_up vh5 28 (a 21 y.toNat)) ah5 from bn5.put (k := 28) (z := a 21 y.toNat) (show (-2147483648) ≤ (a 21 y.toNat) ∧ (a 21 y.toNat) ≤ 2147483647 by omega)) (fq10.put (k := 28) (z := a 21 y.toNat) rfl) (fun bq7 fq13 => ?_)
                              refine m_iconst C dX12_setWord_182 ?_
                              exact m_zret C dX12_setWord_183 rfl (Or.inl rfl) (Nat.le_of_ble_eq_true rfl) (Nat.le_of_ble_eq_true rfl) ⟨0, rfl, fq13, bq7, (Or.inl rfl)⟩
                          · refine m_iconst C dX12_setWord_133 ?_
                            exact m_zret C dX12_setWord_134 rfl (Or.inl rfl) (Nat.le_of_ble_eq_true rfl) (Nat.le_of_ble_eq_true rfl) ⟨0, rfl, fq10, bn5, (Or.inl rfl)⟩
                        · refine m_aload_n (j := 4) C dX12_setWord_109 rfl ?_
                          refine m_geta (k := 9) C dX12_setWord_110 w6_68 (by decide) rfl ?_
                          refine m_iload_n (j := 5) C dX12_setWord_113 rfl ?_
                          refine m_ald (k := 9) C dX12_setWord_114 rfl rfl (by decide) (by omega) (by show _ < ((_ : Nat) : Int); simp only [mlen]; omega) (by decide) ?_
                          refine hv2 (show (-1) ≤ ab3 9 t.toNat ∧ ab3 9 t.toNat ≤ 29 from bxb3.2 9 (t.toNat)) (show ab3 9 (t.toNat) = a 9 (t.toNat) from congrFun (fpb3.2 9 rfl) (t.toNat)) (fun ra15 ae20 => ?_)
                          refine m_st (st2 := [.int (iI (a 9 t.toNat)), .ref h0]) (congrArg (fun z => Value.int (iI z) :: [.ref h0]) (congrFun (fpb3.2 9 rfl) (t.toNat))) ?_
                          refine m_goto (tgt := 124) C dX12_setWord_115 (by decide) ?_
                          refine m_iload_n (j := 3) C dX12_setWord_124 rfl ?_
                          refine m_iload (j := 0) C dX12_setWord_125 rfl ?_
                          refine hv5 (show 0 ≤ vb3 4 ∧ vb3 4 ≤ 30 from bxb3.1 4) (show vb3 4 = v 4 from fpb3.1 4 rfl) (show 0 ≤ ab3 6 (a 9 t.toNat).toNat ∧ ab3 6 (a 9 t.toNat).toNat ≤ 5 from bxb3.2 6 ((a 9 t.toNat).toNat)) (show ab3 6 ((a 9 t.toNat).toNat) = a 6 ((a 9 t.toNat).toNat) from congrFun (fpb3.2 6 rfl) ((a 9 t.toNat).toNat)) (show 0 ≤ vb3 25 ∧ vb3 25 ≤ 208 from bxb3.1 25) (fun rv19 ve10 ra16 ae21 rv20 => ?_)
                          refine m_call (mc2 := 0) (ms2 := 0) (As := [.int (iI (a 9 t.toNat)), .int (iI x), .int (iI y)]) (rest := []) C (M_setPart (t := a 9 t.toNat) (q := x) (u := y) bxb3 (hT.fr fpb3 rfl rfl) (by show 0 ≤ a 9 t.toNat ∧ a 9 t.toNat < vb3 4; omega) (by show ab3 6 (a 9 t.toNat).toNat ≤ 4; omega) (by omega) (by show vb3 25 ≤ 200; omega)) dX12_setWord_127 kV_X12_237 rfl ck_13 rfl (Nat.le_of_ble_eq_true rfl) ⟨Nat.le_of_ble_eq_true rfl, Nat.le_of_ble_eq_true rfl⟩ ⟨Nat.le_of_ble_eq_true rfl, Nat.le_of_ble_eq_true rfl⟩ (fun rh7 vh7 ah7 h7 => ?_)
                          obtain ⟨f7, rfl, fn7, bn7, ex7⟩ := h7
                          have fq14 := fpb3.call fn7 rfl rfl
                          refine m_st (st2 := [.int (iI f7)]) rfl ?_
                          refine m_if_ne (tgt := 135) C ⟨by omega, by omega⟩ dX12_setWord_130 (by decide) (fun c19 => ?_) (fun c19 => ?_)
                          · refine m_iload (j := 0) C dX12_setWord_135 rfl ?_
                            refine m_aload_n (j := 4) C dX12_setWord_137 rfl ?_
                            refine hv2 (show 0 ≤ vh7 23 ∧ vh7 23 ≤ 500 from bn7.1 23) (show vh7 23 = vb3 23 from fn7.1 23 rfl) (fun rv21 ve11 => ?_)
                            refine m_get (k := 23) C dX12_setWord_138 w6_82 (by decide) rfl ?_
                            refine m_st (st2 := [.int (iI (v 23)), .int (iI y)]) (congrArg (fun z => Value.int (iI z) :: [.int (iI y)]) (fq14.1 23 rfl)) ?_
                            refine m_icmp_ne (tgt := 146) C ⟨by omega, by omega⟩ (r32_c (lo := 0) (hi := 500) (Int.le_trans rv1.1 (Int.le_of_eq ve1)) (Int.le_trans (Int.le_of_eq ve1.symm) rv1.2) (by decide) (by decide)) dX12_setWord_141 (by decide) (fun _ => ?_) (fun z => absurd z (by omega))
                            refine m_iload_n (j := 2) C dX12_setWord_146 rfl ?_
                            refine m_if_eq (tgt := 154) C (r32_01 hg) dX12_setWord_147 (by decide) (fun z => absurd z (by omega)) (fun _ => ?_)
                            refine m_iconst C dX12_setWord_150 ?_
                            refine m_goto (tgt := 155) C dX12_setWord_151 (by decide) ?_
                            refine m_istore (lv2 := [(6, .int (iI 3)), (5, .int (iI y)), (4, .int (iI sg)), (2, .int (iI g)), (3, .int (iI x)), (0, .ref h0), (1, .int (iI t))]) C dX12_setWord_155 (by decide) rfl ?_
                            refine m_aload_n (j := 5) C dX12_setWord_157 rfl ?_
                            refine m_geta (k := 16) C dX12_setWord_158 w6_75 (by decide) rfl ?_
                            refine m_iconst C dX12_setWord_161 ?_
                            refine m_iload_n (j := 6) C dX12_setWord_162 rfl ?_
                            refine m_imul C dX12_setWord_163 ?_
                            refine m_iload (j := 0) C dX12_setWord_164 rfl ?_
                            refine m_iadd C dX12_setWord_166 ?_
                            refine m_ald (k := 16) C dX12_setWord_167 rfl rfl (by decide) (by omega) (by show _ < ((_ : Nat) : Int); simp only [mlen]; omega) (by decide) ?_
                            refine hv3 (show 0 ≤ ah7 16 ((4 * t) + 3).toNat ∧ ah7 16 ((4 * t) + 3).toNat ≤ 4 from bn7.2 16 (((4 * t) + 3).toNat)) (show ah7 16 (((4 * t) + 3).toNat) = ab3 16 (((4 * t) + 3).toNat) from congrFun (fn7.2 16 rfl) (((4 * t) + 3).toNat)) (show ab3 16 (((4 * t) + 3).toNat) = a 16 (((4 * t) + 3).toNat) from congrFun (fpb3.2 16 rfl) (((4 * t) + 3).toNat)) (fun ra17 ae22 ae23 => ?_)
                            refine m_st (st2 := [.int (iI (a 16 ((4 * t) + 3).toNat))]) (congrArg (fun z => Value.int (iI z) :: []) (congrFun (fq14.2 16 rfl) (((4 * t) + 3).toNat))) ?_
                            refine m_if_ne (tgt := 184) C ⟨by omega, by omega⟩ dX12_setWord_168 (by decide) (fun c20 => ?_) (fun c20 => ?_)
                            · refine m_aload_n (j := 5) C dX12_setWord_184 rfl ?_
                              refine m_iload_n (j := 6) C dX12_setWord_185 rfl ?_
                              refine m_iload (j := 0) C dX12_setWord_186 rfl ?_
                              have rv22 : 0 ≤ vh7 25 ∧ vh7 25 ≤ 208 := bn7.1 25
                              refine m_call (mc2 := 0) (ms2 := 0) (As := [.int (iI t), .int (iI 3)]) (rest := []) C (M_putIndicator (t := t) (w1 := 3) bn7.rg (by omega) (by omega) (bn7.2 16 _) (by show 0 ≤ (vh7 25) ∧ (vh7 25) ≤ 6000; omega)) dX12_setWord_188 kV_X12_227 rfl ck_13 rfl (Nat.le_of_ble_eq_true rfl) ⟨Nat.le_of_ble_eq_true rfl, Nat.le_of_ble_eq_true rfl⟩ ⟨Nat.le_of_ble_eq_true rfl, Nat.le_of_ble_eq_true rfl⟩ (fun rh8 vh8 ah8 h8 => ?_)
                              obtain ⟨rfl, fn8, bn8, ex8⟩ := W_putIndicator bn7 (by show (vh7 25) ≤ 204; omega) h8
                              refine hv3 (fq14.call fn8 rfl rfl) (show vh8 25 = vh7 25 + ah7 16 (4 * t + 3).toNat from ex8) (show 0 ≤ ah7 16 (4 * t + 3).toNat ∧ ah7 16 (4 * t + 3).toNat ≤ 4 from bn7.2 16 _) (fun fq15 gex8 iex8 => ?_)
                              refine m_st (st2 := []) rfl ?_
                              refine m_aload_n (j := 5) C dX12_setWord_191 rfl ?_
                              have rv23 : 0 ≤ vh8 25 ∧ vh8 25 ≤ 208 := bn8.1 25
                              refine m_get (k := 25) C dX12_setWord_192 w6_84 (by decide) rfl ?_
                              refine m_sipush (z := 200) C dX12_setWord_195 (by decide) ?_
                              refine m_icmp_le (tgt := 208) C (r32_c (lo := 0) (hi := 208) rv23.1 rv23.2 (by decide) (by decide)) ⟨by decide, by decide⟩ dX12_setWord_198 (by decide) (fun c21 => ?_) (fun c21 => ?_)
                              · refine m_iload_n (j := 3) C dX12_setWord_208 rfl ?_
                                refine m_if_ne (tgt := 216) C (r32_01 hg) dX12_setWord_209 (by decide) (fun _ => ?_) (fun z => absurd z (by omega))
                                refine m_iconst C dX12_setWord_216 ?_
                                refine m_istore_n (lv2 := [(2, .int (iI 0)), (6, .int (iI 3)), (5, .int (iI y)), (4, .int (iI sg)), (3, .int (iI x)), (0, .ref h0), (1, .int (iI t))]) C dX12_setWord_217 (by decide) rfl ?_
                                refine m_iload (j := 2) C dX12_setWord_218 rfl ?_
                                refine m_iconst C dX12_setWord_220 ?_
                                refine m_iadd C dX12_setWord_221 ?_
                                refine m_istore_n (lv2 := [(3, .int (iI (y + 1))), (2, .int (iI 0)), (6, .int (iI 3)), (5, .int (iI y)), (4, .int (iI sg)), (0, .ref h0), (1, .int (iI t))]) C dX12_setWord_222 (by decide) rfl ?_
                                refine m_goto (tgt := 53) C dX12_setWord_223 (by decide) ?_
                                refine m_lv (lv2 := [(2, .int (iI 0)), (3, .int (iI (y + 1))), (0, .ref h0), (1, .int (iI t))]) [1, 0, 5, 6] rfl ?_
                                exact ih2  0 (y + 1) _ _ (by omega) bn8 fq15 (by omega) (by omega) (by show (vh8 25) ≤ 200; omega)
                              · refine m_aload_n (j := 5) C dX12_setWord_201 rfl ?_
                                refine m_iconst C dX12_setWord_202 ?_
                                refine m_put (k := 28) (z := (-1)) C dX12_setWord_203 w6_87 (by decide) rfl rfl rfl ?_
                                refine hv2 (show BX (va_up vh8 28 (-1)) ah8 from bn8.put (k := 28) (z := (-1)) ⟨by decide, by decide⟩) (fq15.put (k := 28) (z := (-1)) rfl) (fun bq8 fq16 => ?_)
                                refine m_iconst C dX12_setWord_206 ?_
                                exact m_zret C dX12_setWord_207 rfl (Or.inl rfl) (Nat.le_of_ble_eq_true rfl) (Nat.le_of_ble_eq_true rfl) ⟨0, rfl, fq16, bq8, (Or.inl rfl)⟩
                            · refine m_aload_n (j := 5) C dX12_setWord_171 rfl ?_
                              refine m_aload_n (j := 5) C dX12_setWord_172 rfl ?_
                              refine m_geta (k := 21) C dX12_setWord_173 w6_80 (by decide) rfl ?_
                              refine m_iload (j := 1) C dX12_setWord_176 rfl ?_
                              refine m_ald (k := 21) C dX12_setWord_178 rfl rfl (by decide) (by omega) (by show _ < ((_ : Nat) : Int); simp only [mlen]; omega) (by decide) ?_
                              refine hv3 (show (-2147483648) ≤ ah7 21 y.toNat ∧ ah7 21 y.toNat ≤ 2147483647 from bn7.2 21 (y.toNat)) (show ah7 21 (y.toNat) = ab3 21 (y.toNat) from congrFun (fn7.2 21 rfl) (y.toNat)) (show ab3 21 (y.toNat) = a 21 (y.toNat) from congrFun (fpb3.2 21 rfl) (y.toNat)) (fun ra18 ae24 ae25 => ?_)
                              refine m_st (st2 := [.int (iI (a 21 y.toNat)), .ref h0]) (congrArg (fun z => Value.int (iI z) :: [.ref h0]) (congrFun (fq14.2 21 rfl) (y.toNat))) ?_
                              refine m_put (k := 28) (z := a 21 y.toNat) C dX12_setWord_179 w6_87 (by decide) rfl rfl rfl ?_
                              refine hv2 (show BX (va_up vh7 28 (a 21 y.toNat)) ah7 from bn7.put (k := 28) (z := a 21 y.toNat) (show (-2147483648) ≤ (a 21 y.toNat) ∧ (a 21 y.toNat) ≤ 2147483647 by omega)) (fq14.put (k := 28) (z := a 21 y.toNat) rfl) (fun bq9 fq17 => ?_)
                              refine m_iconst C dX12_setWord_182 ?_
                              exact m_zret C dX12_setWord_183 rfl (Or.inl rfl) (Nat.le_of_ble_eq_true rfl) (Nat.le_of_ble_eq_true rfl) ⟨0, rfl, fq17, bq9, (Or.inl rfl)⟩
                          · refine m_iconst C dX12_setWord_133 ?_
                            exact m_zret C dX12_setWord_134 rfl (Or.inl rfl) (Nat.le_of_ble_eq_true rfl) (Nat.le_of_ble_eq_true rfl) ⟨0, rfl, fq14, bn7, (Or.inl rfl)⟩
                      · refine m_iinc (z := y) (j := 0) (lv2 := [(5, .int (iI (y + 1))), (4, .int (iI sg)), (2, .int (iI g)), (3, .int (iI x)), (0, .ref h0), (1, .int (iI t))]) C dX12_setWord_98 rfl (by decide) rfl ?_
                        refine m_goto (tgt := 77) C dX12_setWord_101 (by decide) ?_
                        have rv24 : 0 ≤ vb3 25 ∧ vb3 25 ≤ 208 := bxb3.1 25
                        refine m_lv (lv2 := [(5, .int (iI (y + 1))), (4, .int (iI sg)), (2, .int (iI g)), (3, .int (iI x)), (0, .ref h0), (1, .int (iI t))]) [0, 1, 2, 3, 4, 5] rfl ?_
                        exact ih3  sg (y + 1) _ _ (by omega) bxb3 fpb3 (by omega) (by omega) (by show (vb3 25) ≤ 200; omega)
                refine m_iload_n (j := 0) C dX12_setWord_61 rfl ?_
                refine m_if_eq (tgt := 70) C (r32_01 hg) dX12_setWord_62 (by decide) (fun c22 => ?_) (fun c22 => ?_)
                · refine m_bipush (z := 60) C dX12_setWord_70 (by decide) ?_
                  refine m_istore (lv2 := [(4, .int (iI 60)), (2, .int (iI g)), (3, .int (iI x)), (0, .ref h0), (1, .int (iI t))]) C dX12_setWord_72 (by decide) rfl ?_
                  refine m_iload_n (j := 2) C dX12_setWord_74 rfl ?_
                  refine m_istore (lv2 := [(5, .int (iI x)), (4, .int (iI 60)), (2, .int (iI g)), (3, .int (iI x)), (0, .ref h0), (1, .int (iI t))]) C dX12_setWord_75 (by decide) rfl ?_
                  have rv25 : 0 ≤ vb2 25 ∧ vb2 25 ≤ 208 := bxb2.1 25
                  refine m_lv (lv2 := [(5, .int (iI x)), (4, .int (iI 60)), (2, .int (iI g)), (3, .int (iI x)), (0, .ref h0), (1, .int (iI t))]) [0, 1, 2, 3, 4, 5] rfl ?_
                  exact Lp3 503 60 x _ _ (by omega) bxb2 fpb2 (by omega) (by omega) (by show (vb2 25) ≤ 200; omega)
                · refine m_bipush (z := 62) C dX12_setWord_65 (by decide) ?_
                  refine m_goto (tgt := 72) C dX12_setWord_67 (by decide) ?_
                  refine m_istore (lv2 := [(4, .int (iI 62)), (2, .int (iI g)), (3, .int (iI x)), (0, .ref h0), (1, .int (iI t))]) C dX12_setWord_72 (by decide) rfl ?_
                  refine m_iload_n (j := 2) C dX12_setWord_74 rfl ?_
                  refine m_istore (lv2 := [(5, .int (iI x)), (4, .int (iI 62)), (2, .int (iI g)), (3, .int (iI x)), (0, .ref h0), (1, .int (iI t))]) C dX12_setWord_75 (by decide) rfl ?_
                  have rv26 : 0 ≤ vb2 25 ∧ vb2 25 ≤ 208 := bxb2.1 25
                  refine m_lv (lv2 := [(5, .int (iI x)), (4, .int (iI 62)), (2, .int (iI g)), (3, .int (iI x)), (0, .ref h0), (1, .int (iI t))]) [0, 1, 2, 3, 4, 5] rfl ?_
                  exact Lp3 503 62 x _ _ (by omega) bxb2 fpb2 (by omega) (by omega) (by show (vb2 25) ≤ 200; omega)
          have rv27 : 0 ≤ vb1 25 ∧ vb1 25 ≤ 208 := bxb1.1 25
          refine m_lv (lv2 := [(2, .int (iI 0)), (3, .int (iI 0)), (0, .ref h0), (1, .int (iI t))]) [1, 0, 2, 3] rfl ?_
          exact Lp2 503 0 0 _ _ (by omega) bxb1 fpb1 (by omega) (by omega) (by show (vb1 25) ≤ 200; omega)
        · refine m_aload_n (j := 1) C dX12_setWord_38 rfl ?_
          refine m_iload_n (j := 2) C dX12_setWord_39 rfl ?_
          refine m_iconst C dX12_setWord_40 ?_
          refine m_aload_n (j := 1) C dX12_setWord_41 rfl ?_
          refine m_get (k := 23) C dX12_setWord_42 w6_82 (by decide) rfl ?_
          refine m_st (st2 := [.int (iI (v 23)), .int (iI 0), .int (iI t), .ref h0]) (congrArg (fun z => Value.int (iI z) :: [.int (iI 0), .int (iI t), .ref h0]) (fpb1.1 23 rfl)) ?_
          refine hv3 (show 0 ≤ vb1 4 ∧ vb1 4 ≤ 30 from bxb1.1 4) (show vb1 4 = v 4 from fpb1.1 4 rfl) (show 0 ≤ vb1 25 ∧ vb1 25 ≤ 208 from bxb1.1 25) (fun rv28 ve12 rv29 => ?_)
          refine m_call (mc2 := 0) (ms2 := 0) (As := [.int (iI t), .int (iI 0), .int (iI (v 23))]) (rest := []) C (M_setPart (t := t) (q := 0) (u := v 23) bxb1 (hT.fr fpb1 rfl rfl) (by show 0 ≤ t ∧ t < vb1 4; omega) (by show ab1 6 t.toNat ≤ 4; omega) (by omega) (by show vb1 25 ≤ 200; omega)) dX12_setWord_45 kV_X12_237 rfl ck_13 rfl (Nat.le_of_ble_eq_true rfl) ⟨Nat.le_of_ble_eq_true rfl, Nat.le_of_ble_eq_true rfl⟩ ⟨Nat.le_of_ble_eq_true rfl, Nat.le_of_ble_eq_true rfl⟩ (fun rh9 vh9 ah9 h9 => ?_)
          obtain ⟨f9, rfl, fn9, bn9, ex9⟩ := h9
          have fq18 := fpb1.call fn9 rfl rfl
          refine m_st (st2 := [.int (iI f9)]) rfl ?_
          exact m_zret C dX12_setWord_48 rfl (by omega) (Nat.le_of_ble_eq_true rfl) (Nat.le_of_ble_eq_true rfl) ⟨f9, rfl, fq18, bn9, ex9⟩
      · refine m_aload_n (j := 1) C dX12_setWord_15 rfl ?_
        refine m_geta (k := 26) C dX12_setWord_16 w6_85 (by decide) rfl ?_
        refine m_iload_n (j := 0) C dX12_setWord_19 rfl ?_
        refine m_iconst C dX12_setWord_20 ?_
        refine m_ast (k := 26) C dX12_setWord_21 rfl rfl (by decide) hk.1 (Int.lt_of_le_of_lt hk.2 (by decide)) (by decide) ?_
        refine hv2 (show BX vb1 (up2 ab1 26 k.toNat (-1)) from bxb1.set (k := 26) (i := k.toNat) (z := (-1)) ⟨by decide, by decide⟩) (fpb1.set (k := 26) (i := k.toNat) (z := (-1)) rfl) (fun bq10 fq19 => ?_)
        refine m_iinc (z := k) (j := 0) (lv2 := [(2, .int (iI (k + 1))), (0, .ref h0), (1, .int (iI t))]) C dX12_setWord_22 rfl (by decide) rfl ?_
        refine m_goto (tgt := 7) C dX12_setWord_25 (by decide) ?_
        have rv30 : 0 ≤ vb1 25 ∧ vb1 25 ≤ 208 := bq10.1 25
        refine m_lv (lv2 := [(2, .int (iI (k + 1))), (0, .ref h0), (1, .int (iI t))]) [0, 1, 2] rfl ?_
        exact ih1  (k + 1) _ _ (by omega) bq10 fq19 (by omega) (by show (vb1 25) = 0; omega)
  refine m_lv (lv2 := [(2, .int (iI 0)), (0, .ref h0), (1, .int (iI t))]) [0, 1, 2] rfl ?_
  exact Lp1 503 0 _ _ (by omega) bq1 fq1 (by omega) (by show 0 = 0; omega)
set_option maxHeartbeats 4000000 in
set_option maxRecDepth 100000 in
theorem M_takeWord {l : Launch} {G : GT} {h0 : Nat} {ad ln : Nat → Nat} {v : Nat → Int} {a : Nat → Nat → Int}  {q u : Int} (hB : BX v a) (hq : 0 ≤ q ∧ q ≤ 501) (hu : 0 ≤ u ∧ u ≤ 500) : Mm l G yX12_takeWord cX12_takeWord 4 (some .int) 0 [.int (iI q), .int (iI u)] h0 ad ln v a 0 0 (fun r v2 a2 => ∃ f : Int, r = some (.int (iI f)) ∧ fr [23] [20, 21, 22] v a v2 a2 ∧ BX v2 a2 ∧ ((f = q ∨ (q ≤ f ∧ f ≤ u)) ∧ v2 23 ≤ f - q)) := by
  refine Mm.mk (by decide) (Nat.le_of_ble_eq_true rfl) ?_
  intro p e s m args below meth c A C
  have fp0 : fr [23] [20, 21, 22] v a v a := fr.refl
  refine m_iload_n (j := 1) C dX12_takeWord_0 rfl ?_
  refine m_istore_n (lv2 := [(3, .int (iI q)), (0, .ref h0), (1, .int (iI q)), (2, .int (iI u))]) C dX12_takeWord_1 (by decide) rfl ?_
  refine m_aload_n (j := 1) C dX12_takeWord_2 rfl ?_
  refine m_iconst C dX12_takeWord_3 ?_
  refine m_put (k := 23) (z := 0) C dX12_takeWord_4 w6_82 (by decide) rfl rfl rfl ?_
  refine hv2 (show BX (va_up v 23 0) a from hB.put (k := 23) (z := 0) ⟨by decide, by decide⟩) (fp0.put (k := 23) (z := 0) rfl) (fun bq1 fq1 => ?_)
  have Lp1 : ∀ (nn : Nat) (x : Int) (vb1 : Nat → Int) (ab1 : Nat → Nat → Int), 502 - x < (nn : Int) → BX vb1 ab1 → fr [23] [20, 21, 22] v a vb1 ab1 → (q ≤ x ∧ (x = q ∨ x ≤ u)) → (0 ≤ vb1 23 ∧ vb1 23 + q ≤ x) → mw p l e (rmq 0 0 0) s m args below meth c G A 4 (MQ below (Qm G A (fun rq Lq Eq => ∃ (vq : Nat → Int) (aq : Nat → Nat → Int), mI G h0 ad ln vq aq Lq Eq ∧ (fun r v2 a2 => ∃ f : Int, r = some (.int (iI f)) ∧ fr [23] [20, 21, 22] v a v2 a2 ∧ BX v2 a2 ∧ ((f = q ∨ (q ≤ f ∧ f ≤ u)) ∧ v2 23 ≤ f - q)) rq vq aq)) args s 0 0 A) h0 ad ln vb1 ab1 0 0 7 [(3, .int (iI x)), (0, .ref h0), (1, .int (iI q)), (2, .int (iI u))] [] := by
    intro nn
    induction nn with
    | zero =>
      intro x vb1 ab1 hm bxb1 fpb1 hx h23
      exact absurd hm (by omega)
    | succ nn ih1 =>
      intro x vb1 ab1 hm bxb1 fpb1 hx h23
      refine m_iload_n (j := 0) C dX12_takeWord_7 rfl ?_
      refine m_iload_n (j := 3) C dX12_takeWord_8 rfl ?_
      refine m_icmp_ge (tgt := 150) C ⟨by omega, by omega⟩ ⟨by omega, by omega⟩ dX12_takeWord_9 (by decide) (fun c1 => ?_) (fun c1 => ?_)
      · refine m_iload_n (j := 0) C dX12_takeWord_150 rfl ?_
        have rv1 : 0 ≤ vb1 23 ∧ vb1 23 ≤ 500 := bxb1.1 23
        exact m_iret C dX12_takeWord_151 rfl (Nat.le_of_ble_eq_true rfl) (Nat.le_of_ble_eq_true rfl) ⟨x, rfl, fpb1, bxb1, (by show (x = q ∨ (q ≤ x ∧ x ≤ u)) ∧ vb1 23 ≤ x - q; omega)⟩
      · refine m_aload_n (j := 1) C dX12_takeWord_12 rfl ?_
        have rv2 : 0 ≤ vb1 23 ∧ vb1 23 ≤ 500 := bxb1.1 23
        refine m_get (k := 23) C dX12_takeWord_13 w6_82 (by decide) rfl ?_
        refine m_if_ne (tgt := 150) C (r32_c (lo := 0) (hi := 500) rv2.1 rv2.2 (by decide) (by decide)) dX12_takeWord_16 (by decide) (fun c2 => ?_) (fun c2 => ?_)
        · refine m_iload_n (j := 0) C dX12_takeWord_150 rfl ?_
          exact m_iret C dX12_takeWord_151 rfl (Nat.le_of_ble_eq_true rfl) (Nat.le_of_ble_eq_true rfl) ⟨x, rfl, fpb1, bxb1, (by show (x = q ∨ (q ≤ x ∧ x ≤ u)) ∧ vb1 23 ≤ x - q; omega)⟩
        · have Lp2 : ∀ (nn : Nat) (z : Int) (vb2 : Nat → Int) (ab2 : Nat → Nat → Int), 502 - z < (nn : Int) → BX vb2 ab2 → fr [23] [20, 21, 22] v a vb2 ab2 → (x ≤ z ∧ z ≤ u) → (vb2 23 = 0) → mw p l e (rmq 0 0 0) s m args below meth c G A 4 (MQ below (Qm G A (fun rq Lq Eq => ∃ (vq : Nat → Int) (aq : Nat → Nat → Int), mI G h0 ad ln vq aq Lq Eq ∧ (fun r v2 a2 => ∃ f : Int, r = some (.int (iI f)) ∧ fr [23] [20, 21, 22] v a v2 a2 ∧ BX v2 a2 ∧ ((f = q ∨ (q ≤ f ∧ f ≤ u)) ∧ v2 23 ≤ f - q)) rq vq aq)) args s 0 0 A) h0 ad ln vb2 ab2 0 0 19 [(3, .int (iI z)), (0, .ref h0), (1, .int (iI q)), (2, .int (iI u))] [] := by
            intro nn
            induction nn with
            | zero =>
              intro z vb2 ab2 hm bxb2 fpb2 hz hz3
              exact absurd hm (by omega)
            | succ nn ih2 =>
              intro z vb2 ab2 hm bxb2 fpb2 hz hz3
              refine m_iload_n (j := 0) C dX12_takeWord_19 rfl ?_
              refine m_iload_n (j := 3) C dX12_takeWord_20 rfl ?_
              refine m_icmp_ge (tgt := 41) C ⟨by omega, by omega⟩ ⟨by omega, by omega⟩ dX12_takeWord_21 (by decide) (fun c3 => ?_) (fun c3 => ?_)
              · refine m_aload_n (j := 1) C dX12_takeWord_41 rfl ?_
                refine m_geta (k := 22) C dX12_takeWord_42 w6_81 (by decide) rfl ?_
                refine m_iconst C dX12_takeWord_45 ?_
                refine m_iconst C dX12_takeWord_46 ?_
                refine m_zast (k := 22) (w := 0) C dX12_takeWord_47 rfl rfl (by decide) (by decide) (by decide) (by decide) (by omega) ?_
                refine hv2 (show BX vb2 (up2 ab2 22 (0 : Int).toNat 0) from bxb2.set (k := 22) (i := (0 : Int).toNat) (z := 0) ⟨by decide, by decide⟩) (fpb2.set (k := 22) (i := (0 : Int).toNat) (z := 0) rfl) (fun bq2 fq2 => ?_)
                have Lp3 : ∀ (nn : Nat) (y : Int) (vb3 : Nat → Int) (ab3 : Nat → Nat → Int), 502 - y < (nn : Int) → BX vb3 ab3 → fr [23] [20, 21, 22] v a vb3 ab3 → (x ≤ y ∧ y ≤ u) → (0 ≤ vb3 23 ∧ vb3 23 + q ≤ y) → (x < y ∨ (y = x ∧ ¬ a 29 y.toNat = 32)) → mw p l e (rmq 0 0 0) s m args below meth c G A 4 (MQ below (Qm G A (fun rq Lq Eq => ∃ (vq : Nat → Int) (aq : Nat → Nat → Int), mI G h0 ad ln vq aq Lq Eq ∧ (fun r v2 a2 => ∃ f : Int, r = some (.int (iI f)) ∧ fr [23] [20, 21, 22] v a v2 a2 ∧ BX v2 a2 ∧ ((f = q ∨ (q ≤ f ∧ f ≤ u)) ∧ v2 23 ≤ f - q)) rq vq aq)) args s 0 0 A) h0 ad ln vb3 ab3 0 0 48 [(3, .int (iI y)), (0, .ref h0), (1, .int (iI q)), (2, .int (iI u))] [] := by
                  intro nn
                  induction nn with
                  | zero =>
                    intro y vb3 ab3 hm bxb3 fpb3 hy hy3 hy4
                    exact absurd hm (by omega)
                  | succ nn ih3 =>
                    intro y vb3 ab3 hm bxb3 fpb3 hy hy3 hy4
                    refine m_iload_n (j := 0) C dX12_takeWord_48 rfl ?_
                    refine m_iload_n (j := 3) C dX12_takeWord_49 rfl ?_
                    refine m_icmp_ge (tgt := 7) C ⟨by omega, by omega⟩ ⟨by omega, by omega⟩ dX12_takeWord_50 (by decide) (fun c4 => ?_) (fun c4 => ?_)
                    · have rv3 : 0 ≤ vb3 23 ∧ vb3 23 ≤ 500 := bxb3.1 23
                      refine m_lv (lv2 := [(3, .int (iI y)), (0, .ref h0), (1, .int (iI q)), (2, .int (iI u))]) [0, 1, 2, 3] rfl ?_
                      exact ih1  y _ _ (by omega) bxb3 fpb3 (by omega) (by show 0 ≤ (vb3 23) ∧ (vb3 23) + q ≤ y; omega)
                    · refine m_aload_n (j := 1) C dX12_takeWord_53 rfl ?_
                      refine m_geta (k := 29) C dX12_takeWord_54 w6_88 (by decide) rfl ?_
                      refine m_iload_n (j := 0) C dX12_takeWord_57 rfl ?_
                      refine m_ald (k := 29) C dX12_takeWord_58 rfl rfl (by decide) (by omega) (by show _ < ((_ : Nat) : Int); simp only [mlen]; omega) (by decide) ?_
                      refine hv2 (show (-2147483648) ≤ ab3 29 y.toNat ∧ ab3 29 y.toNat ≤ 2147483647 from bxb3.2 29 (y.toNat)) (show ab3 29 (y.toNat) = a 29 (y.toNat) from congrFun (fpb3.2 29 rfl) (y.toNat)) (fun ra1 ae1 => ?_)
                      refine m_st (st2 := [.int (iI (a 29 y.toNat))]) (congrArg (fun z => Value.int (iI z) :: []) (congrFun (fpb3.2 29 rfl) (y.toNat))) ?_
                      refine m_bipush (z := 32) C dX12_takeWord_59 (by decide) ?_
                      refine m_icmp_eq (tgt := 7) C ⟨by omega, by omega⟩ ⟨by decide, by decide⟩ dX12_takeWord_61 (by decide) (fun c5 => ?_) (fun c5 => ?_)
                      · have rv4 : 0 ≤ vb3 23 ∧ vb3 23 ≤ 500 := bxb3.1 23
                        refine m_lv (lv2 := [(3, .int (iI y)), (0, .ref h0), (1, .int (iI q)), (2, .int (iI u))]) [0, 1, 2, 3] rfl ?_
                        exact ih1  y _ _ (by omega) bxb3 fpb3 (by omega) (by show 0 ≤ (vb3 23) ∧ (vb3 23) + q ≤ y; omega)
                      · refine m_aload_n (j := 1) C dX12_takeWord_64 rfl ?_
                        refine m_geta (k := 29) C dX12_takeWord_65 w6_88 (by decide) rfl ?_
                        refine m_iload_n (j := 0) C dX12_takeWord_68 rfl ?_
                        refine m_ald (k := 29) C dX12_takeWord_69 rfl rfl (by decide) (by omega) (by show _ < ((_ : Nat) : Int); simp only [mlen]; omega) (by decide) ?_
                        refine m_st (st2 := [.int (iI (a 29 y.toNat))]) (congrArg (fun z => Value.int (iI z) :: []) (congrFun (fpb3.2 29 rfl) (y.toNat))) ?_
                        refine m_bipush (z := 126) C dX12_takeWord_70 (by decide) ?_
                        refine m_icmp_ne (tgt := 99) C ⟨by omega, by omega⟩ ⟨by decide, by decide⟩ dX12_takeWord_72 (by decide) (fun c6 => ?_) (fun c6 => ?_)
                        · refine m_aload_n (j := 1) C dX12_takeWord_99 rfl ?_
                          refine m_geta (k := 20) C dX12_takeWord_100 w6_79 (by decide) rfl ?_
                          refine m_aload_n (j := 1) C dX12_takeWord_103 rfl ?_
                          have rv5 : 0 ≤ vb3 23 ∧ vb3 23 ≤ 500 := bxb3.1 23
                          refine m_get (k := 23) C dX12_takeWord_104 w6_82 (by decide) rfl ?_
                          refine m_aload_n (j := 1) C dX12_takeWord_107 rfl ?_
                          refine m_geta (k := 29) C dX12_takeWord_108 w6_88 (by decide) rfl ?_
                          refine m_iload_n (j := 0) C dX12_takeWord_111 rfl ?_
                          refine m_ald (k := 29) C dX12_takeWord_112 rfl rfl (by decide) (by omega) (by show _ < ((_ : Nat) : Int); simp only [mlen]; omega) (by decide) ?_
                          refine m_st (st2 := [.int (iI (a 29 y.toNat)), .int (iI (vb3 23)), .ref (ad 20)]) (congrArg (fun z => Value.int (iI z) :: [.int (iI (vb3 23)), .ref (ad 20)]) (congrFun (fpb3.2 29 rfl) (y.toNat))) ?_
                          refine m_ast (k := 20) C dX12_takeWord_113 rfl rfl (by decide) rv5.1 (Int.lt_of_le_of_lt rv5.2 (by decide)) (by decide) ?_
                          refine hv2 (show BX vb3 (up2 ab3 20 (vb3 23).toNat (a 29 y.toNat)) from bxb3.set (k := 20) (i := (vb3 23).toNat) (z := a 29 y.toNat) (show (-2147483648) ≤ (a 29 y.toNat) ∧ (a 29 y.toNat) ≤ 2147483647 by omega)) (fpb3.set (k := 20) (i := (vb3 23).toNat) (z := a 29 y.toNat) rfl) (fun bq3 fq3 => ?_)
                          refine m_aload_n (j := 1) C dX12_takeWord_114 rfl ?_
                          refine m_geta (k := 21) C dX12_takeWord_115 w6_80 (by decide) rfl ?_
                          refine m_aload_n (j := 1) C dX12_takeWord_118 rfl ?_
                          refine m_get (k := 23) C dX12_takeWord_119 w6_82 (by decide) rfl ?_
                          refine m_iload_n (j := 0) C dX12_takeWord_122 rfl ?_
                          refine m_ast (k := 21) C dX12_takeWord_123 rfl rfl (by decide) rv5.1 (Int.lt_of_le_of_lt rv5.2 (by decide)) (by decide) ?_
                          refine hv2 (show BX vb3 (up2 (up2 ab3 20 (vb3 23).toNat (a 29 y.toNat)) 21 (vb3 23).toNat y) from bq3.set (k := 21) (i := (vb3 23).toNat) (z := y) (show (-2147483648) ≤ y ∧ y ≤ 2147483647 by omega)) (fq3.set (k := 21) (i := (vb3 23).toNat) (z := y) rfl) (fun bq4 fq4 => ?_)
                          refine m_aload_n (j := 1) C dX12_takeWord_124 rfl ?_
                          refine m_dup C dX12_takeWord_125 rfl ?_
                          refine m_get (k := 23) C dX12_takeWord_126 w6_82 (by decide) rfl ?_
                          refine m_iconst C dX12_takeWord_129 ?_
                          refine m_iadd C dX12_takeWord_130 ?_
                          refine m_put (k := 23) (z := (vb3 23) + 1) C dX12_takeWord_131 w6_82 (by decide) rfl rfl rfl ?_
                          refine hv2 (show BX (va_up vb3 23 ((vb3 23) + 1)) (up2 (up2 ab3 20 (vb3 23).toNat (a 29 y.toNat)) 21 (vb3 23).toNat y) from bq4.put (k := 23) (z := (vb3 23) + 1) (show 0 ≤ ((vb3 23) + 1) ∧ ((vb3 23) + 1) ≤ 500 by omega)) (fq4.put (k := 23) (z := (vb3 23) + 1) rfl) (fun bq5 fq5 => ?_)
                          refine m_aload_n (j := 1) C dX12_takeWord_134 rfl ?_
                          refine m_geta (k := 22) C dX12_takeWord_135 w6_81 (by decide) rfl ?_
                          refine m_aload_n (j := 1) C dX12_takeWord_138 rfl ?_
                          refine m_get (k := 23) C dX12_takeWord_139 w6_82 (by decide) rfl ?_
                          refine m_st (st2 := [.int (iI ((vb3 23) + 1)), .ref (ad 22)]) rfl ?_
                          refine m_iconst C dX12_takeWord_142 ?_
                          refine m_zast (k := 22) (w := 0) C dX12_takeWord_143 rfl rfl (by decide) (by omega) (by show _ < ((_ : Nat) : Int); simp only [mlen]; omega) (by decide) (by omega) ?_
                          refine hv2 (show BX (va_up vb3 23 ((vb3 23) + 1)) (up2 (up2 (up2 ab3 20 (vb3 23).toNat (a 29 y.toNat)) 21 (vb3 23).toNat y) 22 ((vb3 23) + 1).toNat 0) from bq5.set (k := 22) (i := ((vb3 23) + 1).toNat) (z := 0) ⟨by decide, by decide⟩) (fq5.set (k := 22) (i := ((vb3 23) + 1).toNat) (z := 0) rfl) (fun bq6 fq6 => ?_)
                          refine m_iinc (z := y) (j := 0) (lv2 := [(3, .int (iI (y + 1))), (0, .ref h0), (1, .int (iI q)), (2, .int (iI u))]) C dX12_takeWord_144 rfl (by decide) rfl ?_
                          refine m_goto (tgt := 48) C dX12_takeWord_147 (by decide) ?_
                          refine m_lv (lv2 := [(3, .int (iI (y + 1))), (0, .ref h0), (1, .int (iI q)), (2, .int (iI u))]) [0, 1, 2, 3] rfl ?_
                          exact ih3  (y + 1) _ _ (by omega) bq6 fq6 (by omega) (by show 0 ≤ ((vb3 23) + 1) ∧ ((vb3 23) + 1) + q ≤ (y + 1); omega) (by omega)
                        · refine m_aload_n (j := 1) C dX12_takeWord_75 rfl ?_
                          refine m_geta (k := 22) C dX12_takeWord_76 w6_81 (by decide) rfl ?_
                          refine m_aload_n (j := 1) C dX12_takeWord_79 rfl ?_
                          have rv6 : 0 ≤ vb3 23 ∧ vb3 23 ≤ 500 := bxb3.1 23
                          refine m_get (k := 23) C dX12_takeWord_80 w6_82 (by decide) rfl ?_
                          refine m_aload_n (j := 1) C dX12_takeWord_83 rfl ?_
                          refine m_get (k := 23) C dX12_takeWord_84 w6_82 (by decide) rfl ?_
                          refine m_if_le (tgt := 94) C (r32_c (lo := 0) (hi := 500) rv6.1 rv6.2 (by decide) (by decide)) dX12_takeWord_87 (by decide) (fun c7 => ?_) (fun c7 => ?_)
                          · refine m_iconst C dX12_takeWord_94 ?_
                            refine m_zast (k := 22) (w := 0) C dX12_takeWord_95 rfl rfl (by decide) rv6.1 (Int.lt_of_le_of_lt rv6.2 (by decide)) (by decide) (by omega) ?_
                            refine hv2 (show BX vb3 (up2 ab3 22 (vb3 23).toNat 0) from bxb3.set (k := 22) (i := (vb3 23).toNat) (z := 0) ⟨by decide, by decide⟩) (fpb3.set (k := 22) (i := (vb3 23).toNat) (z := 0) rfl) (fun bq7 fq7 => ?_)
                            refine m_goto (tgt := 144) C dX12_takeWord_96 (by decide) ?_
                            refine m_iinc (z := y) (j := 0) (lv2 := [(3, .int (iI (y + 1))), (0, .ref h0), (1, .int (iI q)), (2, .int (iI u))]) C dX12_takeWord_144 rfl (by decide) rfl ?_
                            refine m_goto (tgt := 48) C dX12_takeWord_147 (by decide) ?_
                            refine m_lv (lv2 := [(3, .int (iI (y + 1))), (0, .ref h0), (1, .int (iI q)), (2, .int (iI u))]) [0, 1, 2, 3] rfl ?_
                            exact ih3  (y + 1) _ _ (by omega) bq7 fq7 (by omega) (by show 0 ≤ (vb3 23) ∧ (vb3 23) + q ≤ (y + 1); omega) (by omega)
                          · refine m_iconst C dX12_takeWord_90 ?_
                            refine m_goto (tgt := 95) C dX12_takeWord_91 (by decide) ?_
                            refine m_zast (k := 22) (w := 1) C dX12_takeWord_95 rfl rfl (by decide) rv6.1 (Int.lt_of_le_of_lt rv6.2 (by decide)) (by decide) (by omega) ?_
                            refine hv2 (show BX vb3 (up2 ab3 22 (vb3 23).toNat 1) from bxb3.set (k := 22) (i := (vb3 23).toNat) (z := 1) ⟨by decide, by decide⟩) (fpb3.set (k := 22) (i := (vb3 23).toNat) (z := 1) rfl) (fun bq8 fq8 => ?_)
                            refine m_goto (tgt := 144) C dX12_takeWord_96 (by decide) ?_
                            refine m_iinc (z := y) (j := 0) (lv2 := [(3, .int (iI (y + 1))), (0, .ref h0), (1, .int (iI q)), (2, .int (iI u))]) C dX12_takeWord_144 rfl (by decide) rfl ?_
                            refine m_goto (tgt := 48) C dX12_takeWord_147 (by decide) ?_
                            refine m_lv (lv2 := [(3, .int (iI (y + 1))), (0, .ref h0), (1, .int (iI q)), (2, .int (iI u))]) [0, 1, 2, 3] rfl ?_
                            exact ih3  (y + 1) _ _ (by omega) bq8 fq8 (by omega) (by show 0 ≤ (vb3 23) ∧ (vb3 23) + q ≤ (y + 1); omega) (by omega)
                have rv7 : 0 ≤ vb2 23 ∧ vb2 23 ≤ 500 := bq2.1 23
                refine m_lv (lv2 := [(3, .int (iI z)), (0, .ref h0), (1, .int (iI q)), (2, .int (iI u))]) [0, 1, 2, 3] rfl ?_
                exact Lp3 503 z _ _ (by omega) bq2 fq2 (by omega) (by show 0 ≤ (vb2 23) ∧ (vb2 23) + q ≤ z; omega) (by omega)
              · refine m_aload_n (j := 1) C dX12_takeWord_24 rfl ?_
                refine m_geta (k := 29) C dX12_takeWord_25 w6_88 (by decide) rfl ?_
                refine m_iload_n (j := 0) C dX12_takeWord_28 rfl ?_
                refine m_ald (k := 29) C dX12_takeWord_29 rfl rfl (by decide) (by omega) (by show _ < ((_ : Nat) : Int); simp only [mlen]; omega) (by decide) ?_
                refine hv2 (show (-2147483648) ≤ ab2 29 z.toNat ∧ ab2 29 z.toNat ≤ 2147483647 from bxb2.2 29 (z.toNat)) (show ab2 29 (z.toNat) = a 29 (z.toNat) from congrFun (fpb2.2 29 rfl) (z.toNat)) (fun ra2 ae2 => ?_)
                refine m_st (st2 := [.int (iI (a 29 z.toNat))]) (congrArg (fun z => Value.int (iI z) :: []) (congrFun (fpb2.2 29 rfl) (z.toNat))) ?_
                refine m_bipush (z := 32) C dX12_takeWord_30 (by decide) ?_
                refine m_icmp_ne (tgt := 41) C ⟨by omega, by omega⟩ ⟨by decide, by decide⟩ dX12_takeWord_32 (by decide) (fun c8 => ?_) (fun c8 => ?_)
                · refine m_aload_n (j := 1) C dX12_takeWord_41 rfl ?_
                  refine m_geta (k := 22) C dX12_takeWord_42 w6_81 (by decide) rfl ?_
                  refine m_iconst C dX12_takeWord_45 ?_
                  refine m_iconst C dX12_takeWord_46 ?_
                  refine m_zast (k := 22) (w := 0) C dX12_takeWord_47 rfl rfl (by decide) (by decide) (by decide) (by decide) (by omega) ?_
                  refine hv2 (show BX vb2 (up2 ab2 22 (0 : Int).toNat 0) from bxb2.set (k := 22) (i := (0 : Int).toNat) (z := 0) ⟨by decide, by decide⟩) (fpb2.set (k := 22) (i := (0 : Int).toNat) (z := 0) rfl) (fun bq9 fq9 => ?_)
                  have Lp4 : ∀ (nn : Nat) (y : Int) (vb4 : Nat → Int) (ab4 : Nat → Nat → Int), 502 - y < (nn : Int) → BX vb4 ab4 → fr [23] [20, 21, 22] v a vb4 ab4 → (x ≤ y ∧ y ≤ u) → (0 ≤ vb4 23 ∧ vb4 23 + q ≤ y) → (x < y ∨ (y = x ∧ ¬ a 29 y.toNat = 32)) → mw p l e (rmq 0 0 0) s m args below meth c G A 4 (MQ below (Qm G A (fun rq Lq Eq => ∃ (vq : Nat → Int) (aq : Nat → Nat → Int), mI G h0 ad ln vq aq Lq Eq ∧ (fun r v2 a2 => ∃ f : Int, r = some (.int (iI f)) ∧ fr [23] [20, 21, 22] v a v2 a2 ∧ BX v2 a2 ∧ ((f = q ∨ (q ≤ f ∧ f ≤ u)) ∧ v2 23 ≤ f - q)) rq vq aq)) args s 0 0 A) h0 ad ln vb4 ab4 0 0 48 [(3, .int (iI y)), (0, .ref h0), (1, .int (iI q)), (2, .int (iI u))] [] := by
                    intro nn
                    induction nn with
                    | zero =>
                      intro y vb4 ab4 hm bxb4 fpb4 hy hy3 hy4
                      exact absurd hm (by omega)
                    | succ nn ih4 =>
                      intro y vb4 ab4 hm bxb4 fpb4 hy hy3 hy4
                      refine m_iload_n (j := 0) C dX12_takeWord_48 rfl ?_
                      refine m_iload_n (j := 3) C dX12_takeWord_49 rfl ?_
                      refine m_icmp_ge (tgt := 7) C ⟨by omega, by omega⟩ ⟨by omega, by omega⟩ dX12_takeWord_50 (by decide) (fun c9 => ?_) (fun c9 => ?_)
                      · have rv8 : 0 ≤ vb4 23 ∧ vb4 23 ≤ 500 := bxb4.1 23
                        refine m_lv (lv2 := [(3, .int (iI y)), (0, .ref h0), (1, .int (iI q)), (2, .int (iI u))]) [0, 1, 2, 3] rfl ?_
                        exact ih1  y _ _ (by omega) bxb4 fpb4 (by omega) (by show 0 ≤ (vb4 23) ∧ (vb4 23) + q ≤ y; omega)
                      · refine m_aload_n (j := 1) C dX12_takeWord_53 rfl ?_
                        refine m_geta (k := 29) C dX12_takeWord_54 w6_88 (by decide) rfl ?_
                        refine m_iload_n (j := 0) C dX12_takeWord_57 rfl ?_
                        refine m_ald (k := 29) C dX12_takeWord_58 rfl rfl (by decide) (by omega) (by show _ < ((_ : Nat) : Int); simp only [mlen]; omega) (by decide) ?_
                        refine hv2 (show (-2147483648) ≤ ab4 29 y.toNat ∧ ab4 29 y.toNat ≤ 2147483647 from bxb4.2 29 (y.toNat)) (show ab4 29 (y.toNat) = a 29 (y.toNat) from congrFun (fpb4.2 29 rfl) (y.toNat)) (fun ra3 ae3 => ?_)
                        refine m_st (st2 := [.int (iI (a 29 y.toNat))]) (congrArg (fun z => Value.int (iI z) :: []) (congrFun (fpb4.2 29 rfl) (y.toNat))) ?_
                        refine m_bipush (z := 32) C dX12_takeWord_59 (by decide) ?_
                        refine m_icmp_eq (tgt := 7) C ⟨by omega, by omega⟩ ⟨by decide, by decide⟩ dX12_takeWord_61 (by decide) (fun c10 => ?_) (fun c10 => ?_)
                        · have rv9 : 0 ≤ vb4 23 ∧ vb4 23 ≤ 500 := bxb4.1 23
                          refine m_lv (lv2 := [(3, .int (iI y)), (0, .ref h0), (1, .int (iI q)), (2, .int (iI u))]) [0, 1, 2, 3] rfl ?_
                          exact ih1  y _ _ (by omega) bxb4 fpb4 (by omega) (by show 0 ≤ (vb4 23) ∧ (vb4 23) + q ≤ y; omega)
                        · refine m_aload_n (j := 1) C dX12_takeWord_64 rfl ?_
                          refine m_geta (k := 29) C dX12_takeWord_65 w6_88 (by decide) rfl ?_
                          refine m_iload_n (j := 0) C dX12_takeWord_68 rfl ?_
                          refine m_ald (k := 29) C dX12_takeWord_69 rfl rfl (by decide) (by omega) (by show _ < ((_ : Nat) : Int); simp only [mlen]; omega) (by decide) ?_
                          refine m_st (st2 := [.int (iI (a 29 y.toNat))]) (congrArg (fun z => Value.int (iI z) :: []) (congrFun (fpb4.2 29 rfl) (y.toNat))) ?_
                          refine m_bipush (z := 126) C dX12_takeWord_70 (by decide) ?_
                          refine m_icmp_ne (tgt := 99) C ⟨by omega, by omega⟩ ⟨by decide, by decide⟩ dX12_takeWord_72 (by decide) (fun c11 => ?_) (fun c11 => ?_)
                          · refine m_aload_n (j := 1) C dX12_takeWord_99 rfl ?_
                            refine m_geta (k := 20) C dX12_takeWord_100 w6_79 (by decide) rfl ?_
                            refine m_aload_n (j := 1) C dX12_takeWord_103 rfl ?_
                            have rv10 : 0 ≤ vb4 23 ∧ vb4 23 ≤ 500 := bxb4.1 23
                            refine m_get (k := 23) C dX12_takeWord_104 w6_82 (by decide) rfl ?_
                            refine m_aload_n (j := 1) C dX12_takeWord_107 rfl ?_
                            refine m_geta (k := 29) C dX12_takeWord_108 w6_88 (by decide) rfl ?_
                            refine m_iload_n (j := 0) C dX12_takeWord_111 rfl ?_
                            refine m_ald (k := 29) C dX12_takeWord_112 rfl rfl (by decide) (by omega) (by show _ < ((_ : Nat) : Int); simp only [mlen]; omega) (by decide) ?_
                            refine m_st (st2 := [.int (iI (a 29 y.toNat)), .int (iI (vb4 23)), .ref (ad 20)]) (congrArg (fun z => Value.int (iI z) :: [.int (iI (vb4 23)), .ref (ad 20)]) (congrFun (fpb4.2 29 rfl) (y.toNat))) ?_
                            refine m_ast (k := 20) C dX12_takeWord_113 rfl rfl (by decide) rv10.1 (Int.lt_of_le_of_lt rv10.2 (by decide)) (by decide) ?_
                            refine hv2 (show BX vb4 (up2 ab4 20 (vb4 23).toNat (a 29 y.toNat)) from bxb4.set (k := 20) (i := (vb4 23).toNat) (z := a 29 y.toNat) (show (-2147483648) ≤ (a 29 y.toNat) ∧ (a 29 y.toNat) ≤ 2147483647 by omega)) (fpb4.set (k := 20) (i := (vb4 23).toNat) (z := a 29 y.toNat) rfl) (fun bq10 fq10 => ?_)
                            refine m_aload_n (j := 1) C dX12_takeWord_114 rfl ?_
                            refine m_geta (k := 21) C dX12_takeWord_115 w6_80 (by decide) rfl ?_
                            refine m_aload_n (j := 1) C dX12_takeWord_118 rfl ?_
                            refine m_get (k := 23) C dX12_takeWord_119 w6_82 (by decide) rfl ?_
                            refine m_iload_n (j := 0) C dX12_takeWord_122 rfl ?_
                            refine m_ast (k := 21) C dX12_takeWord_123 rfl rfl (by decide) rv10.1 (Int.lt_of_le_of_lt rv10.2 (by decide)) (by decide) ?_
                            refine hv2 (show BX vb4 (up2 (up2 ab4 20 (vb4 23).toNat (a 29 y.toNat)) 21 (vb4 23).toNat y) from bq10.set (k := 21) (i := (vb4 23).toNat) (z := y) (show (-2147483648) ≤ y ∧ y ≤ 2147483647 by omega)) (fq10.set (k := 21) (i := (vb4 23).toNat) (z := y) rfl) (fun bq11 fq11 => ?_)
                            refine m_aload_n (j := 1) C dX12_takeWord_124 rfl ?_
                            refine m_dup C dX12_takeWord_125 rfl ?_
                            refine m_get (k := 23) C dX12_takeWord_126 w6_82 (by decide) rfl ?_
                            refine m_iconst C dX12_takeWord_129 ?_
                            refine m_iadd C dX12_takeWord_130 ?_
                            refine m_put (k := 23) (z := (vb4 23) + 1) C dX12_takeWord_131 w6_82 (by decide) rfl rfl rfl ?_
                            refine hv2 (show BX (va_up vb4 23 ((vb4 23) + 1)) (up2 (up2 ab4 20 (vb4 23).toNat (a 29 y.toNat)) 21 (vb4 23).toNat y) from bq11.put (k := 23) (z := (vb4 23) + 1) (show 0 ≤ ((vb4 23) + 1) ∧ ((vb4 23) + 1) ≤ 500 by omega)) (fq11.put (k := 23) (z := (vb4 23) + 1) rfl) (fun bq12 fq12 => ?_)
                            refine m_aload_n (j := 1) C dX12_takeWord_134 rfl ?_
                            refine m_geta (k := 22) C dX12_takeWord_135 w6_81 (by decide) rfl ?_
                            refine m_aload_n (j := 1) C dX12_takeWord_138 rfl ?_
                            refine m_get (k := 23) C dX12_takeWord_139 w6_82 (by decide) rfl ?_
                            refine m_st (st2 := [.int (iI ((vb4 23) + 1)), .ref (ad 22)]) rfl ?_
                            refine m_iconst C dX12_takeWord_142 ?_
                            refine m_zast (k := 22) (w := 0) C dX12_takeWord_143 rfl rfl (by decide) (by omega) (by show _ < ((_ : Nat) : Int); simp only [mlen]; omega) (by decide) (by omega) ?_
                            refine hv2 (show BX (va_up vb4 23 ((vb4 23) + 1)) (up2 (up2 (up2 ab4 20 (vb4 23).toNat (a 29 y.toNat)) 21 (vb4 23).toNat y) 22 ((vb4 23) + 1).toNat 0) from bq12.set (k := 22) (i := ((vb4 23) + 1).toNat) (z := 0) ⟨by decide, by decide⟩) (fq12.set (k := 22) (i := ((vb4 23) + 1).toNat) (z := 0) rfl) (fun bq13 fq13 => ?_)
                            refine m_iinc (z := y) (j := 0) (lv2 := [(3, .int (iI (y + 1))), (0, .ref h0), (1, .int (iI q)), (2, .int (iI u))]) C dX12_takeWord_144 rfl (by decide) rfl ?_
                            refine m_goto (tgt := 48) C dX12_takeWord_147 (by decide) ?_
                            refine m_lv (lv2 := [(3, .int (iI (y + 1))), (0, .ref h0), (1, .int (iI q)), (2, .int (iI u))]) [0, 1, 2, 3] rfl ?_
                            exact ih4  (y + 1) _ _ (by omega) bq13 fq13 (by omega) (by show 0 ≤ ((vb4 23) + 1) ∧ ((vb4 23) + 1) + q ≤ (y + 1); omega) (by omega)
                          · refine m_aload_n (j := 1) C dX12_takeWord_75 rfl ?_
                            refine m_geta (k := 22) C dX12_takeWord_76 w6_81 (by decide) rfl ?_
                            refine m_aload_n (j := 1) C dX12_takeWord_79 rfl ?_
                            have rv11 : 0 ≤ vb4 23 ∧ vb4 23 ≤ 500 := bxb4.1 23
                            refine m_get (k := 23) C dX12_takeWord_80 w6_82 (by decide) rfl ?_
                            refine m_aload_n (j := 1) C dX12_takeWord_83 rfl ?_
                            refine m_get (k := 23) C dX12_takeWord_84 w6_82 (by decide) rfl ?_
                            refine m_if_le (tgt := 94) C (r32_c (lo := 0) (hi := 500) rv11.1 rv11.2 (by decide) (by decide)) dX12_takeWord_87 (by decide) (fun c12 => ?_) (fun c12 => ?_)
                            · refine m_iconst C dX12_takeWord_94 ?_
                              refine m_zast (k := 22) (w := 0) C dX12_takeWord_95 rfl rfl (by decide) rv11.1 (Int.lt_of_le_of_lt rv11.2 (by decide)) (by decide) (by omega) ?_
                              refine hv2 (show BX vb4 (up2 ab4 22 (vb4 23).toNat 0) from bxb4.set (k := 22) (i := (vb4 23).toNat) (z := 0) ⟨by decide, by decide⟩) (fpb4.set (k := 22) (i := (vb4 23).toNat) (z := 0) rfl) (fun bq14 fq14 => ?_)
                              refine m_goto (tgt := 144) C dX12_takeWord_96 (by decide) ?_
                              refine m_iinc (z := y) (j := 0) (lv2 := [(3, .int (iI (y + 1))), (0, .ref h0), (1, .int (iI q)), (2, .int (iI u))]) C dX12_takeWord_144 rfl (by decide) rfl ?_
                              refine m_goto (tgt := 48) C dX12_takeWord_147 (by decide) ?_
                              refine m_lv (lv2 := [(3, .int (iI (y + 1))), (0, .ref h0), (1, .int (iI q)), (2, .int (iI u))]) [0, 1, 2, 3] rfl ?_
                              exact ih4  (y + 1) _ _ (by omega) bq14 fq14 (by omega) (by show 0 ≤ (vb4 23) ∧ (vb4 23) + q ≤ (y + 1); omega) (by omega)
                            · refine m_iconst C dX12_takeWord_90 ?_
                              refine m_goto (tgt := 95) C dX12_takeWord_91 (by decide) ?_
                              refine m_zast (k := 22) (w := 1) C dX12_takeWord_95 rfl rfl (by decide) rv11.1 (Int.lt_of_le_of_lt rv11.2 (by decide)) (by decide) (by omega) ?_
                              refine hv2 (show BX vb4 (up2 ab4 22 (vb4 23).toNat 1) from bxb4.set (k := 22) (i := (vb4 23).toNat) (z := 1) ⟨by decide, by decide⟩) (fpb4.set (k := 22) (i := (vb4 23).toNat) (z := 1) rfl) (fun bq15 fq15 => ?_)
                              refine m_goto (tgt := 144) C dX12_takeWord_96 (by decide) ?_
                              refine m_iinc (z := y) (j := 0) (lv2 := [(3, .int (iI (y + 1))), (0, .ref h0), (1, .int (iI q)), (2, .int (iI u))]) C dX12_takeWord_144 rfl (by decide) rfl ?_
                              refine m_goto (tgt := 48) C dX12_takeWord_147 (by decide) ?_
                              refine m_lv (lv2 := [(3, .int (iI (y + 1))), (0, .ref h0), (1, .int (iI q)), (2, .int (iI u))]) [0, 1, 2, 3] rfl ?_
                              exact ih4  (y + 1) _ _ (by omega) bq15 fq15 (by omega) (by show 0 ≤ (vb4 23) ∧ (vb4 23) + q ≤ (y + 1); omega) (by omega)
                  have rv12 : 0 ≤ vb2 23 ∧ vb2 23 ≤ 500 := bq9.1 23
                  refine m_lv (lv2 := [(3, .int (iI z)), (0, .ref h0), (1, .int (iI q)), (2, .int (iI u))]) [0, 1, 2, 3] rfl ?_
                  exact Lp4 503 z _ _ (by omega) bq9 fq9 (by omega) (by show 0 ≤ (vb2 23) ∧ (vb2 23) + q ≤ z; omega) (by omega)
                · refine m_iinc (z := z) (j := 0) (lv2 := [(3, .int (iI (z + 1))), (0, .ref h0), (1, .int (iI q)), (2, .int (iI u))]) C dX12_takeWord_35 rfl (by decide) rfl ?_
                  refine m_goto (tgt := 19) C dX12_takeWord_38 (by decide) ?_
                  have rv13 : 0 ≤ vb2 23 ∧ vb2 23 ≤ 500 := bxb2.1 23
                  refine m_lv (lv2 := [(3, .int (iI (z + 1))), (0, .ref h0), (1, .int (iI q)), (2, .int (iI u))]) [0, 1, 2, 3] rfl ?_
                  exact ih2  (z + 1) _ _ (by omega) bxb2 fpb2 (by omega) (by show (vb2 23) = 0; omega)
          refine m_lv (lv2 := [(3, .int (iI x)), (0, .ref h0), (1, .int (iI q)), (2, .int (iI u))]) [0, 1, 2, 3] rfl ?_
          exact Lp2 503 x _ _ (by omega) bxb1 fpb1 (by omega) (by show (vb1 23) = 0; omega)
  refine m_lv (lv2 := [(3, .int (iI q)), (0, .ref h0), (1, .int (iI q)), (2, .int (iI u))]) [0, 1, 2, 3] rfl ?_
  exact Lp1 503 q _ _ (by omega) bq1 fq1 (by omega) (by show 0 ≤ 0 ∧ 0 + q ≤ q; omega)
end
section
theorem W_putCell {v v2 : Nat → Int} {a a2 : Nat → Nat → Int} {r : Option Value} {x : Int} (hB : BX v a) (hx : -2147483648 ≤ x ∧ x ≤ 2147483647) (h37 : a 37 (v 39 - 1).toNat < 200) (h : (fun r v2 a2 => r = none ∧ v = v2 ∧ a2 = up2 (up2 a 38 (200 * (v 39 - 1) + a 37 (v 39 - 1).toNat).toNat x) 37 (v 39 - 1).toNat (a 37 (v 39 - 1).toNat + 1)) r v2 a2) : (fun r v2 a2 => r = none ∧ fr [] [37, 38] v a v2 a2 ∧ BX v2 a2 ∧ (a2 37 (v 39 - 1).toNat = a 37 (v 39 - 1).toNat + 1)) r v2 a2 := by
  obtain ⟨rfl, rfl, rfl⟩ := h
  have q37 : 0 ≤ a 37 (v 39 - 1).toNat ∧ a 37 (v 39 - 1).toNat ≤ 200 := hB.2 37 _
  exact ⟨rfl, ((fr.refl (V := []) (A := [37, 38])).set (k := 38) rfl).set (k := 37) rfl, (hB.set (k := 38) (show (-2147483648) ≤ x ∧ x ≤ 2147483647 by omega)).set (k := 37) (show 0 ≤ a 37 (v 39 - 1).toNat + 1 ∧ a 37 (v 39 - 1).toNat + 1 ≤ 200 by omega), up2_s⟩
end
section
abbrev lI (z : Int) : Int64 := Int64.ofInt z
theorem ediv_r {x y : Int} (hx : 0 ≤ x) (hy : 0 < y) : 0 ≤ x / y ∧ x / y ≤ x := ⟨Int.ediv_nonneg hx (by omega), Int.ediv_le_self y hx⟩
theorem iI_div {x y : Int} (hx : 0 ≤ x ∧ x ≤ 2147483647) (hy : 0 < y ∧ y ≤ 2147483647) : iI x / iI y = iI (x / y) := by
  have h := ediv_r hx.1 hy.1
  apply Int32.toInt_inj.mp
  rw [Int32.toInt_div, iI_int ⟨by omega, by omega⟩, iI_int ⟨by omega, by omega⟩, iI_int ⟨by omega, by omega⟩, Int.tdiv_eq_ediv_of_nonneg hx.1]
  exact Int.bmod_eq_of_le (by omega) (by omega)
theorem iI_mod {x y : Int} (hx : 0 ≤ x ∧ x ≤ 2147483647) (hy : 0 < y ∧ y ≤ 2147483647) : iI x - iI x / iI y * iI y = iI (x % y) := by
  rw [iI_div hx hy, ← Int32.ofInt_mul, ← Int32.ofInt_sub, Int.emod_def, Int.mul_comm]
theorem iI_ne0 {y : Int} (hy : 0 < y ∧ y ≤ 2147483647) : ¬ iI y = 0 := by
  intro h
  have := congrArg Int32.toInt h
  rw [iI_int ⟨by omega, by omega⟩] at this
  have e : (0:Int32).toInt = 0 := rfl
  omega
theorem lI_int {z : Int} (h : -4000000000000 ≤ z ∧ z ≤ 4000000000000) : (lI z).toInt = z := Int64.toInt_ofInt_of_le (by omega) (by omega)
theorem lI_of {z : Int} (h : R32 z) : (iI z).toInt64 = lI z := by
  apply Int64.toInt_inj.mp
  rw [Int32.toInt_toInt64, iI_int h, lI_int ⟨by have := h.1; omega, by have := h.2; omega⟩]
theorem lI_add (x y : Int) : lI x + lI y = lI (x + y) := (Int64.ofInt_add x y).symm
theorem lI_i (z : Int) : (lI z).toInt32 = iI z := by simp [lI, iI]
theorem lI_lt {x y : Int} (hx : -4000000000000 ≤ x ∧ x ≤ 4000000000000) (hy : -4000000000000 ≤ y ∧ y ≤ 4000000000000) : lI x < lI y ↔ x < y := by rw [Int64.lt_iff_toInt_lt, lI_int hx, lI_int hy]
theorem lI_eq {x y : Int} (hx : -4000000000000 ≤ x ∧ x ≤ 4000000000000) (hy : -4000000000000 ≤ y ∧ y ≤ 4000000000000) : lI x = lI y ↔ x = y := by rw [← Int64.toInt_inj, lI_int hx, lI_int hy]
theorem lcmp_c {x y : Int} (hx : -4000000000000 ≤ x ∧ x ≤ 4000000000000) (hy : -4000000000000 ≤ y ∧ y ≤ 4000000000000) : ∃ w : Int, ((x < y ∧ w = -1) ∨ (x = y ∧ w = 0) ∨ (y < x ∧ w = 1)) ∧ lg_cmp (lI x) (lI y) = iI w := by
  unfold lg_cmp
  by_cases h1 : y < x
  · exact ⟨1, Or.inr (Or.inr ⟨h1, rfl⟩), if_pos ((lI_lt hy hx).mpr h1)⟩
  · rw [if_neg (fun q => h1 ((lI_lt hy hx).mp q))]
    by_cases h2 : x = y
    · exact ⟨0, Or.inr (Or.inl ⟨h2, rfl⟩), if_pos ((lI_eq hx hy).mpr h2)⟩
    · exact ⟨-1, Or.inl ⟨by omega, rfl⟩, if_neg (fun q => h2 ((lI_eq hx hy).mp q))⟩
theorem q_irem {p : Program} {l : Launch} {e : Env} {R : Room} {s : State} {m : MethodId} {args : Array Value} {below : List Frame} {meth : Method} {c : Code} {cc : ByteArray} {y : MethodName} {ret : Option FieldType} {G : GT} {A : Nat → Prop} {nL : Nat} {Q : State → Prop} {L : List Nat} {E : Nat → va_E} {kc ks pc : Nat} {lv : List (Nat × Value)} {st : List Value} (C : Cq p s m args meth c cc y ret G A nL) {x y2 w : Int32} (d : decode cc pc = .ok (.irem, 1)) (hne : ¬ y2 = 0) (hv : x - x / y2 * y2 = w) (k : wq p l e R s m args below meth c G A nL Q L E kc ks (pc + 1) lv (.int w :: st)) : wq p l e R s m args below meth c G A nL Q L E kc ks pc lv (.int y2 :: .int x :: st) := fun H locs ls hP hD hS hl => lv_irem C.1 C.2.1 d hne (hv ▸ k H locs ls hP hD hS hl)
theorem m_irem {p : Program} {l : Launch} {e : Env} {R : Room} {s : State} {m : MethodId} {args : Array Value} {below : List Frame} {meth : Method} {c : Code} {cc : ByteArray} {y : MethodName} {ret : Option FieldType} {G : GT} {A : Nat → Prop} {nL : Nat} {Q : State → Prop} {h0 : Nat} {ad ln : Nat → Nat} {v : Nat → Int} {a : Nat → Nat → Int} {kc ks pc : Nat} {lv : List (Nat × Value)} {st : List Value} (C : Cq p s m args meth c cc y ret G A nL) {x y2 w : Int32} (d : decode cc pc = .ok (.irem, 1)) (hne : ¬ y2 = 0) (hv : x - x / y2 * y2 = w) (k : mw p l e R s m args below meth c G A nL Q h0 ad ln v a kc ks (pc + 1) lv (.int w :: st)) : mw p l e R s m args below meth c G A nL Q h0 ad ln v a kc ks pc lv (.int y2 :: .int x :: st) := fun L E h => q_irem C d hne hv (k L E h)
set_option maxHeartbeats 4000000 in
set_option maxRecDepth 100000 in
theorem B_fine {l : Launch} {G : GT} {h0 : Nat} {ad ln : Nat → Nat} {v : Nat → Int} {a : Nat → Nat → Int}  {x : Int} (hB : BX v a) (hx : -2147483648 ≤ x ∧ x ≤ 2147483647) : Mm l G yX12_fine cX12_fine 2 (some .int) 0 [.int (iI x)] h0 ad ln v a 0 0 (fun r v2 a2 => ∃ f : Int, r = some (.int (iI f)) ∧ fr [0, 1] [] v a v2 a2 ∧ BX v2 a2 ∧ (f = x)) := by
  refine Mm.mk (by decide) (Nat.le_of_ble_eq_true rfl) ?_
  intro p e s m args below meth c A C
  have fp0 : fr [0, 1] [] v a v a := fr.refl
  refine m_aload_n (j := 0) C dX12_fine_0 rfl ?_
  refine m_iconst C dX12_fine_1 ?_
  refine m_put (k := 0) (z := 0) C dX12_fine_2 w6_59 (by decide) rfl rfl rfl ?_
  refine hv2 (show BX (va_up v 0 0) a from hB.put (k := 0) (z := 0) ⟨by decide, by decide⟩) (fp0.put (k := 0) (z := 0) rfl) (fun bq1 fq1 => ?_)
  refine m_aload_n (j := 0) C dX12_fine_5 rfl ?_
  refine m_iconst C dX12_fine_6 ?_
  refine m_put (k := 1) (z := (-1)) C dX12_fine_7 w6_60 (by decide) rfl rfl rfl ?_
  refine hv2 (show BX (va_up (va_up v 0 0) 1 (-1)) a from bq1.put (k := 1) (z := (-1)) ⟨by decide, by decide⟩) (fq1.put (k := 1) (z := (-1)) rfl) (fun bq2 fq2 => ?_)
  refine m_iload_n (j := 1) C dX12_fine_10 rfl ?_
  exact m_iret C dX12_fine_11 rfl (Nat.le_of_ble_eq_true rfl) (Nat.le_of_ble_eq_true rfl) ⟨x, rfl, fq2, bq2, rfl⟩
set_option maxHeartbeats 4000000 in
set_option maxRecDepth 100000 in
theorem B_bad {l : Launch} {G : GT} {h0 : Nat} {ad ln : Nat → Nat} {v : Nat → Int} {a : Nat → Nat → Int}  {x : Int} (hB : BX v a) (hx : -2147483648 ≤ x ∧ x ≤ 2147483647) : Mm l G yX12_bad cX12_bad 2 (some .int) 0 [.int (iI x)] h0 ad ln v a 0 0 (fun r v2 a2 => ∃ f : Int, r = some (.int (iI f)) ∧ fr [0, 1] [] v a v2 a2 ∧ BX v2 a2 ∧ (f = -1)) := by
  refine Mm.mk (by decide) (Nat.le_of_ble_eq_true rfl) ?_
  intro p e s m args below meth c A C
  have fp0 : fr [0, 1] [] v a v a := fr.refl
  refine m_aload_n (j := 0) C dX12_bad_0 rfl ?_
  refine m_iload_n (j := 1) C dX12_bad_1 rfl ?_
  refine m_put (k := 0) (z := x) C dX12_bad_2 w6_59 (by decide) rfl rfl rfl ?_
  refine hv2 (show BX (va_up v 0 x) a from hB.put (k := 0) (z := x) (show (-2147483648) ≤ x ∧ x ≤ 2147483647 by omega)) (fp0.put (k := 0) (z := x) rfl) (fun bq1 fq1 => ?_)
  refine m_aload_n (j := 0) C dX12_bad_5 rfl ?_
  refine m_iconst C dX12_bad_6 ?_
  refine m_put (k := 1) (z := (-1)) C dX12_bad_7 w6_60 (by decide) rfl rfl rfl ?_
  refine hv2 (show BX (va_up (va_up v 0 x) 1 (-1)) a from bq1.put (k := 1) (z := (-1)) ⟨by decide, by decide⟩) (fq1.put (k := 1) (z := (-1)) rfl) (fun bq2 fq2 => ?_)
  refine m_iconst C dX12_bad_10 ?_
  exact m_iret C dX12_bad_11 rfl (Nat.le_of_ble_eq_true rfl) (Nat.le_of_ble_eq_true rfl) ⟨(-1), rfl, fq2, bq2, rfl⟩
set_option maxHeartbeats 4000000 in
set_option maxRecDepth 100000 in
theorem B_badAt {l : Launch} {G : GT} {h0 : Nat} {ad ln : Nat → Nat} {v : Nat → Int} {a : Nat → Nat → Int}  {x y : Int} (hB : BX v a) (hx : -2147483648 ≤ x ∧ x ≤ 2147483647) (hy : -2147483648 ≤ y ∧ y ≤ 2147483647) : Mm l G yX12_badAt cX12_badAt 3 (some .int) 0 [.int (iI x), .int (iI y)] h0 ad ln v a 0 0 (fun r v2 a2 => ∃ f : Int, r = some (.int (iI f)) ∧ fr [0, 1] [] v a v2 a2 ∧ BX v2 a2 ∧ (f = -1)) := by
  refine Mm.mk (by decide) (Nat.le_of_ble_eq_true rfl) ?_
  intro p e s m args below meth c A C
  have fp0 : fr [0, 1] [] v a v a := fr.refl
  refine m_aload_n (j := 0) C dX12_badAt_0 rfl ?_
  refine m_iload_n (j := 1) C dX12_badAt_1 rfl ?_
  refine m_put (k := 0) (z := x) C dX12_badAt_2 w6_59 (by decide) rfl rfl rfl ?_
  refine hv2 (show BX (va_up v 0 x) a from hB.put (k := 0) (z := x) (show (-2147483648) ≤ x ∧ x ≤ 2147483647 by omega)) (fp0.put (k := 0) (z := x) rfl) (fun bq1 fq1 => ?_)
  refine m_aload_n (j := 0) C dX12_badAt_5 rfl ?_
  refine m_iload_n (j := 1) C dX12_badAt_6 rfl ?_
  refine m_bipush (z := 7) C dX12_badAt_7 (by decide) ?_
  refine m_icmp_eq (tgt := 18) C ⟨by omega, by omega⟩ ⟨by decide, by decide⟩ dX12_badAt_9 (by decide) (fun c1 => ?_) (fun c1 => ?_)
  · refine m_iload_n (j := 2) C dX12_badAt_18 rfl ?_
    refine m_goto (tgt := 23) C dX12_badAt_19 (by decide) ?_
    refine m_put (k := 1) (z := y) C dX12_badAt_23 w6_60 (by decide) rfl rfl rfl ?_
    refine hv2 (show BX (va_up (va_up v 0 x) 1 y) a from bq1.put (k := 1) (z := y) (show (-2147483648) ≤ y ∧ y ≤ 2147483647 by omega)) (fq1.put (k := 1) (z := y) rfl) (fun bq2 fq2 => ?_)
    refine m_iconst C dX12_badAt_26 ?_
    exact m_iret C dX12_badAt_27 rfl (Nat.le_of_ble_eq_true rfl) (Nat.le_of_ble_eq_true rfl) ⟨(-1), rfl, fq2, bq2, rfl⟩
  · refine m_iload_n (j := 1) C dX12_badAt_12 rfl ?_
    refine m_bipush (z := 9) C dX12_badAt_13 (by decide) ?_
    refine m_icmp_ne (tgt := 22) C ⟨by omega, by omega⟩ ⟨by decide, by decide⟩ dX12_badAt_15 (by decide) (fun c2 => ?_) (fun c2 => ?_)
    · refine m_iconst C dX12_badAt_22 ?_
      refine m_put (k := 1) (z := (-1)) C dX12_badAt_23 w6_60 (by decide) rfl rfl rfl ?_
      refine hv2 (show BX (va_up (va_up v 0 x) 1 (-1)) a from bq1.put (k := 1) (z := (-1)) ⟨by decide, by decide⟩) (fq1.put (k := 1) (z := (-1)) rfl) (fun bq3 fq3 => ?_)
      refine m_iconst C dX12_badAt_26 ?_
      exact m_iret C dX12_badAt_27 rfl (Nat.le_of_ble_eq_true rfl) (Nat.le_of_ble_eq_true rfl) ⟨(-1), rfl, fq3, bq3, rfl⟩
    · refine m_iload_n (j := 2) C dX12_badAt_18 rfl ?_
      refine m_goto (tgt := 23) C dX12_badAt_19 (by decide) ?_
      refine m_put (k := 1) (z := y) C dX12_badAt_23 w6_60 (by decide) rfl rfl rfl ?_
      refine hv2 (show BX (va_up (va_up v 0 x) 1 y) a from bq1.put (k := 1) (z := y) (show (-2147483648) ≤ y ∧ y ≤ 2147483647 by omega)) (fq1.put (k := 1) (z := y) rfl) (fun bq4 fq4 => ?_)
      refine m_iconst C dX12_badAt_26 ?_
      exact m_iret C dX12_badAt_27 rfl (Nat.le_of_ble_eq_true rfl) (Nat.le_of_ble_eq_true rfl) ⟨(-1), rfl, fq4, bq4, rfl⟩
set_option maxHeartbeats 4000000 in
set_option maxRecDepth 100000 in
theorem B_notSet {l : Launch} {G : GT} {h0 : Nat} {ad ln : Nat → Nat} {v : Nat → Int} {a : Nat → Nat → Int}  (hB : BX v a)  : Mm l G yX12_notSet cX12_notSet 1 (some .int) 1 [] h0 ad ln v a 0 0 (fun r v2 a2 => ∃ f : Int, r = some (.int (iI f)) ∧ fr [0, 1] [] v a v2 a2 ∧ BX v2 a2 ∧ (f = -1)) := by
  refine Mm.mk (by decide) (Nat.le_of_ble_eq_true rfl) ?_
  intro p e s m args below meth c A C
  have fp0 : fr [0, 1] [] v a v a := fr.refl
  refine m_aload_n (j := 0) C dX12_notSet_0 rfl ?_
  have rv1 : (-2147483648) ≤ v 28 ∧ v 28 ≤ 2147483647 := hB.1 28
  refine m_get (k := 28) C dX12_notSet_1 w6_87 (by decide) rfl ?_
  refine m_if_ge (tgt := 16) C (r32_c (lo := (-2147483648)) (hi := 2147483647) rv1.1 rv1.2 (by decide) (by decide)) dX12_notSet_4 (by decide) (fun c1 => ?_) (fun c1 => ?_)
  · refine m_aload_n (j := 0) C dX12_notSet_16 rfl ?_
    refine m_bipush (z := 7) C dX12_notSet_17 (by decide) ?_
    refine m_aload_n (j := 0) C dX12_notSet_19 rfl ?_
    refine m_get (k := 28) C dX12_notSet_20 w6_87 (by decide) rfl ?_
    refine m_call (mc2 := 0) (ms2 := 0) (As := [.int (iI 7), .int (iI (v 28))]) (rest := []) C (B_badAt (x := 7) (y := v 28) hB (by show -2147483648 ≤ (7 : Int) ∧ (7 : Int) ≤ 2147483647; omega) (by show -2147483648 ≤ (v 28) ∧ (v 28) ≤ 2147483647; omega)) dX12_notSet_23 kV_X12_240 rfl ck_13 rfl (Nat.le_of_ble_eq_true rfl) ⟨Nat.le_of_ble_eq_true rfl, Nat.le_of_ble_eq_true rfl⟩ ⟨Nat.le_of_ble_eq_true rfl, Nat.le_of_ble_eq_true rfl⟩ (fun rh1 vh1 ah1 h1 => ?_)
    obtain ⟨f1, rfl, fn1, bn1, ex1⟩ := h1
    refine hv2 (fp0.call fn1 rfl rfl) (show f1 = -1 from ex1) (fun fq1 gf1 => ?_)
    refine m_st (st2 := [.int (iI f1)]) rfl ?_
    exact m_iret C dX12_notSet_26 rfl (Nat.le_of_ble_eq_true rfl) (Nat.le_of_ble_eq_true rfl) ⟨f1, rfl, fq1, bn1, (by omega)⟩
  · refine m_aload_n (j := 0) C dX12_notSet_7 rfl ?_
    refine m_bipush (z := 6) C dX12_notSet_8 (by decide) ?_
    refine m_call (mc2 := 0) (ms2 := 0) (As := [.int (iI 6)]) (rest := []) C (B_bad (x := 6) hB (by show -2147483648 ≤ (6 : Int) ∧ (6 : Int) ≤ 2147483647; omega)) dX12_notSet_10 kV_X12_154 rfl ck_13 rfl (Nat.le_of_ble_eq_true rfl) ⟨Nat.le_of_ble_eq_true rfl, Nat.le_of_ble_eq_true rfl⟩ ⟨Nat.le_of_ble_eq_true rfl, Nat.le_of_ble_eq_true rfl⟩ (fun rh2 vh2 ah2 h2 => ?_)
    obtain ⟨f2, rfl, fn2, bn2, ex2⟩ := h2
    refine hv2 (fp0.call fn2 rfl rfl) (show f2 = -1 from ex2) (fun fq2 gf2 => ?_)
    refine m_st (st2 := [.int (iI f2)]) rfl ?_
    refine m_goto (tgt := 26) C dX12_notSet_13 (by decide) ?_
    exact m_iret C dX12_notSet_26 rfl (Nat.le_of_ble_eq_true rfl) (Nat.le_of_ble_eq_true rfl) ⟨f2, rfl, fq2, bn2, (by omega)⟩
set_option maxHeartbeats 4000000 in
set_option maxRecDepth 100000 in
theorem B_taken {l : Launch} {G : GT} {h0 : Nat} {ad ln : Nat → Nat} {v : Nat → Int} {a : Nat → Nat → Int}  (hB : BX v a)  : Mm l G yX12_taken cX12_taken 2 (some .int) 0 [] h0 ad ln v a 0 0 (fun r v2 a2 => ∃ f : Int, r = some (.int (iI f)) ∧ fr [3] [] v a v2 a2 ∧ BX v2 a2 ∧ (f = v 3 ∧ v2 3 = 0)) := by
  refine Mm.mk (by decide) (Nat.le_of_ble_eq_true rfl) ?_
  intro p e s m args below meth c A C
  have fp0 : fr [3] [] v a v a := fr.refl
  refine m_aload_n (j := 0) C dX12_taken_0 rfl ?_
  have rv1 : 0 ≤ v 3 ∧ v 3 ≤ 3000 := hB.1 3
  refine m_get (k := 3) C dX12_taken_1 w6_62 (by decide) rfl ?_
  refine m_istore_n (lv2 := [(1, .int (iI (v 3))), (0, .ref h0)]) C dX12_taken_4 (by decide) rfl ?_
  refine m_aload_n (j := 1) C dX12_taken_5 rfl ?_
  refine m_iconst C dX12_taken_6 ?_
  refine m_put (k := 3) (z := 0) C dX12_taken_7 w6_62 (by decide) rfl rfl rfl ?_
  refine hv2 (show BX (va_up v 3 0) a from hB.put (k := 3) (z := 0) ⟨by decide, by decide⟩) (fp0.put (k := 3) (z := 0) rfl) (fun bq1 fq1 => ?_)
  refine m_iload_n (j := 0) C dX12_taken_10 rfl ?_
  exact m_iret C dX12_taken_11 rfl (Nat.le_of_ble_eq_true rfl) (Nat.le_of_ble_eq_true rfl) ⟨(v 3), rfl, fq1, bq1, ⟨rfl, rfl⟩⟩
set_option maxHeartbeats 4000000 in
set_option maxRecDepth 100000 in
theorem B_isTable {l : Launch} {G : GT} {h0 : Nat} {ad ln : Nat → Nat} {v : Nat → Int} {a : Nat → Nat → Int}  {t : Int} (hB : BX v a) (ht : -2147483648 ≤ t ∧ t ≤ 2147483647) : Mm l G yX12_isTable cX12_isTable 2 (some .boolean) 0 [.int (iI t)] h0 ad ln v a 0 0 (fun r v2 a2 => ∃ f : Int, r = some (.int (iI f)) ∧ fr [] [] v a v2 a2 ∧ BX v2 a2 ∧ ((f = 0 ∧ (t < 0 ∨ v 4 ≤ t ∨ a 5 t.toNat = 0)) ∨ (f = 1 ∧ 0 ≤ t ∧ t < v 4 ∧ a 5 t.toNat = 1))) := by
  refine Mm.mk (by decide) (Nat.le_of_ble_eq_true rfl) ?_
  intro p e s m args below meth c A C
  refine hv2 (show 0 ≤ v 4 ∧ v 4 ≤ 30 from hB.1 4) (show fr [] [] v a v a from fr.refl) (fun h30 fp0 => ?_)
  refine m_iload_n (j := 1) C dX12_isTable_0 rfl ?_
  refine m_if_lt (tgt := 25) C ⟨by omega, by omega⟩ dX12_isTable_1 (by decide) (fun c1 => ?_) (fun c1 => ?_)
  · refine m_iconst C dX12_isTable_25 ?_
    exact m_zret C dX12_isTable_26 rfl (Or.inl rfl) (Nat.le_of_ble_eq_true rfl) (Nat.le_of_ble_eq_true rfl) ⟨0, rfl, fp0, hB, (by omega)⟩
  · refine m_iload_n (j := 1) C dX12_isTable_4 rfl ?_
    refine m_aload_n (j := 0) C dX12_isTable_5 rfl ?_
    have rv1 : 0 ≤ v 4 ∧ v 4 ≤ 30 := hB.1 4
    refine m_get (k := 4) C dX12_isTable_6 w6_63 (by decide) rfl ?_
    refine m_icmp_ge (tgt := 25) C ⟨by omega, by omega⟩ (r32_c (lo := 0) (hi := 30) rv1.1 rv1.2 (by decide) (by decide)) dX12_isTable_9 (by decide) (fun c2 => ?_) (fun c2 => ?_)
    · refine m_iconst C dX12_isTable_25 ?_
      exact m_zret C dX12_isTable_26 rfl (Or.inl rfl) (Nat.le_of_ble_eq_true rfl) (Nat.le_of_ble_eq_true rfl) ⟨0, rfl, fp0, hB, (by omega)⟩
    · refine m_aload_n (j := 0) C dX12_isTable_12 rfl ?_
      refine m_geta (k := 5) C dX12_isTable_13 w6_64 (by decide) rfl ?_
      refine m_iload_n (j := 1) C dX12_isTable_16 rfl ?_
      refine m_zald (k := 5) C dX12_isTable_17 rfl rfl (by decide) (by omega) (by show _ < ((_ : Nat) : Int); simp only [mlen]; omega) (by decide) ?_
      have ra1 : 0 ≤ a 5 t.toNat ∧ a 5 t.toNat ≤ 1 := hB.2 5 (t.toNat)
      refine m_if_eq (tgt := 25) C (r32_c (lo := 0) (hi := 1) ra1.1 ra1.2 (by decide) (by decide)) dX12_isTable_18 (by decide) (fun c3 => ?_) (fun c3 => ?_)
      · refine m_iconst C dX12_isTable_25 ?_
        exact m_zret C dX12_isTable_26 rfl (Or.inl rfl) (Nat.le_of_ble_eq_true rfl) (Nat.le_of_ble_eq_true rfl) ⟨0, rfl, fp0, hB, (by omega)⟩
      · refine m_iconst C dX12_isTable_21 ?_
        refine m_goto (tgt := 26) C dX12_isTable_22 (by decide) ?_
        exact m_zret C dX12_isTable_26 rfl (Or.inr rfl) (Nat.le_of_ble_eq_true rfl) (Nat.le_of_ble_eq_true rfl) ⟨1, rfl, fp0, hB, (by omega)⟩
def WholeC (l : Launch) (G : GT) (h0 : Nat) (ad ln : Nat → Nat) (d : Nat) (t : Int) : Prop := ∀ (v : Nat → Int) (a : Nat → Nat → Int), BX v a → TBL v a → Mm l G yX12_isWhole cX12_isWhole 2 (some .boolean) d [.int (iI t)] h0 ad ln v a 0 0 (fun r v2 a2 => ∃ f : Int, r = some (.int (iI f)) ∧ fr [] [] v a v2 a2 ∧ BX v2 a2 ∧ (f = 0 ∨ (f = 1 ∧ 0 ≤ t ∧ t < v 4)))
set_option maxHeartbeats 4000000 in
set_option maxRecDepth 100000 in
theorem M_isWhole1 {l : Launch} {G : GT} {h0 : Nat} {ad ln : Nat → Nat} {v : Nat → Int} {a : Nat → Nat → Int} {d : Nat} {t : Int} (hB : BX v a) (hT : TBL v a) (ht : -2147483648 ≤ t ∧ t ≤ 2147483647) (hd : 3 ≤ d) (hf : ∀ b : Int, 0 ≤ b → b < t → WholeC l G h0 ad ln d b) : Mm l G yX12_isWhole cX12_isWhole 2 (some .boolean) (d + 1) [.int (iI t)] h0 ad ln v a 0 0 (fun r v2 a2 => ∃ f : Int, r = some (.int (iI f)) ∧ fr [] [] v a v2 a2 ∧ BX v2 a2 ∧ (f = 0 ∨ (f = 1 ∧ 0 ≤ t ∧ t < v 4))) := by
  refine Mm.mk (by decide) (Nat.le_of_ble_eq_true rfl) ?_
  intro p e s m args below meth c A C
  refine hv2 (show 0 ≤ v 4 ∧ v 4 ≤ 30 from hB.1 4) (show fr [] [] v a v a from fr.refl) (fun h30 fp0 => ?_)
  refine m_aload_n (j := 0) C dX12_isWhole_0 rfl ?_
  refine m_iload_n (j := 1) C dX12_isWhole_1 rfl ?_
  have rv1 : 0 ≤ v 4 ∧ v 4 ≤ 30 := hB.1 4
  refine m_call (mc2 := 0) (ms2 := 0) (As := [.int (iI t)]) (rest := []) C (B_isTable (t := t) hB (by show -2147483648 ≤ t ∧ t ≤ 2147483647; omega)) dX12_isWhole_2 kV_X12_167 rfl ck_13 rfl (Nat.le_of_ble_eq_true rfl) ⟨by dsimp only [rmq]; omega, by dsimp only [rmq]; omega⟩ ⟨Nat.le_of_ble_eq_true rfl, Nat.le_of_ble_eq_true rfl⟩ (fun rh1 vh1 ah1 h1 => ?_)
  obtain ⟨f1, rfl, fn1, bn1, ex1⟩ := h1
  obtain ⟨rfl, rfl⟩ := fn1.eq
  refine hv2 (show (f1 = 0 ∧ (t < 0 ∨ (v 4) ≤ t ∨ a 5 t.toNat = 0)) ∨ (f1 = 1 ∧ 0 ≤ t ∧ t < (v 4) ∧ a 5 t.toNat = 1) from ex1) (show 0 ≤ a 5 t.toNat ∧ a 5 t.toNat ≤ 1 from hB.2 5 (t.toNat)) (fun gf1 ra1 => ?_)
  refine m_st (st2 := [.int (iI f1)]) rfl ?_
  refine m_if_ne (tgt := 10) C (r32_pq gf1) dX12_isWhole_5 (by decide) (fun c1 => ?_) (fun c1 => ?_)
  · replace gf1 := (gf1.resolve_left (fun q => c1 q.1))
    have ht0 := hT.1 t (by omega) (by omega)
    refine m_aload_n (j := 0) C dX12_isWhole_10 rfl ?_
    refine m_geta (k := 6) C dX12_isWhole_11 w6_65 (by decide) rfl ?_
    refine m_iload_n (j := 1) C dX12_isWhole_14 rfl ?_
    refine m_ald (k := 6) C dX12_isWhole_15 rfl rfl (by decide) (by omega) (by show _ < ((_ : Nat) : Int); simp only [mlen]; omega) (by decide) ?_
    have ra2 : 0 ≤ a 6 t.toNat ∧ a 6 t.toNat ≤ 5 := hB.2 6 (t.toNat)
    refine m_iconst C dX12_isWhole_16 ?_
    refine m_icmp_ne (tgt := 52) C (r32_c (lo := 0) (hi := 5) ra2.1 ra2.2 (by decide) (by decide)) ⟨by decide, by decide⟩ dX12_isWhole_17 (by decide) (fun c2 => ?_) (fun c2 => ?_)
    · refine m_aload_n (j := 0) C dX12_isWhole_52 rfl ?_
      refine m_geta (k := 6) C dX12_isWhole_53 w6_65 (by decide) rfl ?_
      refine m_iload_n (j := 1) C dX12_isWhole_56 rfl ?_
      refine m_ald (k := 6) C dX12_isWhole_57 rfl rfl (by decide) (by omega) (by show _ < ((_ : Nat) : Int); simp only [mlen]; omega) (by decide) ?_
      refine m_iconst C dX12_isWhole_58 ?_
      refine m_icmp_lt (tgt := 85) C (r32_c (lo := 0) (hi := 5) ra2.1 ra2.2 (by decide) (by decide)) ⟨by decide, by decide⟩ dX12_isWhole_59 (by decide) (fun c3 => ?_) (fun c3 => ?_)
      · refine m_iconst C dX12_isWhole_85 ?_
        refine m_goto (tgt := 90) C dX12_isWhole_86 (by decide) ?_
        exact m_zret C dX12_isWhole_90 rfl (Or.inr rfl) (Nat.le_of_ble_eq_true rfl) (Nat.le_of_ble_eq_true rfl) ⟨1, rfl, fp0, hB, (by omega)⟩
      · refine m_aload_n (j := 0) C dX12_isWhole_62 rfl ?_
        refine m_geta (k := 6) C dX12_isWhole_63 w6_65 (by decide) rfl ?_
        refine m_iload_n (j := 1) C dX12_isWhole_66 rfl ?_
        refine m_ald (k := 6) C dX12_isWhole_67 rfl rfl (by decide) (by omega) (by show _ < ((_ : Nat) : Int); simp only [mlen]; omega) (by decide) ?_
        refine m_iconst C dX12_isWhole_68 ?_
        refine m_icmp_gt (tgt := 85) C (r32_c (lo := 0) (hi := 5) ra2.1 ra2.2 (by decide) (by decide)) ⟨by decide, by decide⟩ dX12_isWhole_69 (by decide) (fun c4 => ?_) (fun c4 => ?_)
        · refine m_iconst C dX12_isWhole_85 ?_
          refine m_goto (tgt := 90) C dX12_isWhole_86 (by decide) ?_
          exact m_zret C dX12_isWhole_90 rfl (Or.inr rfl) (Nat.le_of_ble_eq_true rfl) (Nat.le_of_ble_eq_true rfl) ⟨1, rfl, fp0, hB, (by omega)⟩
        · refine m_aload_n (j := 0) C dX12_isWhole_72 rfl ?_
          refine m_aload_n (j := 0) C dX12_isWhole_73 rfl ?_
          refine m_geta (k := 8) C dX12_isWhole_74 w6_67 (by decide) rfl ?_
          refine m_iload_n (j := 1) C dX12_isWhole_77 rfl ?_
          refine m_ald (k := 8) C dX12_isWhole_78 rfl rfl (by decide) (by omega) (by show _ < ((_ : Nat) : Int); simp only [mlen]; omega) (by decide) ?_
          have ra3 : (-1) ≤ a 8 t.toNat ∧ a 8 t.toNat ≤ 29 := hB.2 8 (t.toNat)
          refine m_call (mc2 := 0) (ms2 := 0) (As := [.int (iI (a 8 t.toNat))]) (rest := []) C (hf (a 8 t.toNat) (by omega) (by omega) _ _ hB hT) dX12_isWhole_79 kV_X12_171 rfl ck_13 rfl (Nat.le_of_ble_eq_true rfl) ⟨by dsimp only [rmq]; omega, by dsimp only [rmq]; omega⟩ ⟨Nat.le_of_ble_eq_true rfl, Nat.le_of_ble_eq_true rfl⟩ (fun rh2 vh2 ah2 h2 => ?_)
          obtain ⟨f2, rfl, fn2, _, ef2⟩ := h2
          obtain ⟨rfl, rfl⟩ := fn2.eq
          refine m_st (st2 := [.int (iI f2)]) rfl ?_
          refine m_if_eq (tgt := 89) C ⟨by omega, by omega⟩ dX12_isWhole_82 (by decide) (fun c5 => ?_) (fun c5 => ?_)
          · refine m_iconst C dX12_isWhole_89 ?_
            exact m_zret C dX12_isWhole_90 rfl (Or.inl rfl) (Nat.le_of_ble_eq_true rfl) (Nat.le_of_ble_eq_true rfl) ⟨0, rfl, fp0, hB, (by omega)⟩
          · refine m_iconst C dX12_isWhole_85 ?_
            refine m_goto (tgt := 90) C dX12_isWhole_86 (by decide) ?_
            exact m_zret C dX12_isWhole_90 rfl (Or.inr rfl) (Nat.le_of_ble_eq_true rfl) (Nat.le_of_ble_eq_true rfl) ⟨1, rfl, fp0, hB, (by omega)⟩
    · refine m_aload_n (j := 0) C dX12_isWhole_20 rfl ?_
      refine m_aload_n (j := 0) C dX12_isWhole_21 rfl ?_
      refine m_geta (k := 8) C dX12_isWhole_22 w6_67 (by decide) rfl ?_
      refine m_iload_n (j := 1) C dX12_isWhole_25 rfl ?_
      refine m_ald (k := 8) C dX12_isWhole_26 rfl rfl (by decide) (by omega) (by show _ < ((_ : Nat) : Int); simp only [mlen]; omega) (by decide) ?_
      have ra4 : (-1) ≤ a 8 t.toNat ∧ a 8 t.toNat ≤ 29 := hB.2 8 (t.toNat)
      refine m_call (mc2 := 0) (ms2 := 0) (As := [.int (iI (a 8 t.toNat))]) (rest := []) C (hf (a 8 t.toNat) (by omega) (by omega) _ _ hB hT) dX12_isWhole_27 kV_X12_171 rfl ck_13 rfl (Nat.le_of_ble_eq_true rfl) ⟨by dsimp only [rmq]; omega, by dsimp only [rmq]; omega⟩ ⟨Nat.le_of_ble_eq_true rfl, Nat.le_of_ble_eq_true rfl⟩ (fun rh3 vh3 ah3 h3 => ?_)
      obtain ⟨f3, rfl, fn3, _, ef3⟩ := h3
      obtain ⟨rfl, rfl⟩ := fn3.eq
      refine m_st (st2 := [.int (iI f3)]) rfl ?_
      refine m_if_eq (tgt := 50) C ⟨by omega, by omega⟩ dX12_isWhole_30 (by decide) (fun c6 => ?_) (fun c6 => ?_)
      · refine m_iconst C dX12_isWhole_50 ?_
        exact m_zret C dX12_isWhole_51 rfl (Or.inl rfl) (Nat.le_of_ble_eq_true rfl) (Nat.le_of_ble_eq_true rfl) ⟨0, rfl, fp0, hB, (by omega)⟩
      · refine m_aload_n (j := 0) C dX12_isWhole_33 rfl ?_
        refine m_aload_n (j := 0) C dX12_isWhole_34 rfl ?_
        refine m_geta (k := 9) C dX12_isWhole_35 w6_68 (by decide) rfl ?_
        refine m_iload_n (j := 1) C dX12_isWhole_38 rfl ?_
        refine m_ald (k := 9) C dX12_isWhole_39 rfl rfl (by decide) (by omega) (by show _ < ((_ : Nat) : Int); simp only [mlen]; omega) (by decide) ?_
        have ra5 : (-1) ≤ a 9 t.toNat ∧ a 9 t.toNat ≤ 29 := hB.2 9 (t.toNat)
        refine m_call (mc2 := 0) (ms2 := 0) (As := [.int (iI (a 9 t.toNat))]) (rest := []) C (hf (a 9 t.toNat) (by omega) (by omega) _ _ hB hT) dX12_isWhole_40 kV_X12_171 rfl ck_13 rfl (Nat.le_of_ble_eq_true rfl) ⟨by dsimp only [rmq]; omega, by dsimp only [rmq]; omega⟩ ⟨Nat.le_of_ble_eq_true rfl, Nat.le_of_ble_eq_true rfl⟩ (fun rh4 vh4 ah4 h4 => ?_)
        obtain ⟨f4, rfl, fn4, _, ef4⟩ := h4
        obtain ⟨rfl, rfl⟩ := fn4.eq
        refine m_st (st2 := [.int (iI f4)]) rfl ?_
        refine m_if_eq (tgt := 50) C ⟨by omega, by omega⟩ dX12_isWhole_43 (by decide) (fun c7 => ?_) (fun c7 => ?_)
        · refine m_iconst C dX12_isWhole_50 ?_
          exact m_zret C dX12_isWhole_51 rfl (Or.inl rfl) (Nat.le_of_ble_eq_true rfl) (Nat.le_of_ble_eq_true rfl) ⟨0, rfl, fp0, hB, (by omega)⟩
        · refine m_iconst C dX12_isWhole_46 ?_
          refine m_goto (tgt := 51) C dX12_isWhole_47 (by decide) ?_
          exact m_zret C dX12_isWhole_51 rfl (Or.inr rfl) (Nat.le_of_ble_eq_true rfl) (Nat.le_of_ble_eq_true rfl) ⟨1, rfl, fp0, hB, (by omega)⟩
  · replace gf1 := (gf1.resolve_right (fun q => absurd (q.1.symm.trans c1) (by decide)))
    refine m_iconst C dX12_isWhole_8 ?_
    exact m_zret C dX12_isWhole_9 rfl (Or.inl rfl) (Nat.le_of_ble_eq_true rfl) (Nat.le_of_ble_eq_true rfl) ⟨0, rfl, fp0, hB, (by omega)⟩
theorem M_isWholeN {l : Launch} {G : GT} {h0 : Nat} {ad ln : Nat → Nat} : ∀ (n : Nat) (t : Int), 0 ≤ t → t < (n : Int) → n ≤ 30 → WholeC l G h0 ad ln (n + 3) t := by
  intro n
  induction n with
  | zero => intro t h1 h2; omega
  | succ n ih =>
    intro t h1 h2 h3 v a hB hT
    exact M_isWhole1 (d := n + 3) hB hT ⟨by omega, by omega⟩ (by omega) (fun b hb hb2 => ih b hb (by omega) (by omega))
set_option maxHeartbeats 4000000 in
set_option maxRecDepth 100000 in
theorem M_isWhole {l : Launch} {G : GT} {h0 : Nat} {ad ln : Nat → Nat} {v : Nat → Int} {a : Nat → Nat → Int}  {t : Int} (hB : BX v a) (hT : TBL v a) (ht : -2147483648 ≤ t ∧ t ≤ 2147483647) : Mm l G yX12_isWhole cX12_isWhole 2 (some .boolean) 34 [.int (iI t)] h0 ad ln v a 0 0 (fun r v2 a2 => ∃ f : Int, r = some (.int (iI f)) ∧ fr [] [] v a v2 a2 ∧ BX v2 a2 ∧ (f = 0 ∨ (f = 1 ∧ 0 ≤ t ∧ t < v 4))) := by
  refine Mm.mk (by decide) (Nat.le_of_ble_eq_true rfl) ?_
  intro p e s m args below meth c A C
  refine hv2 (show 0 ≤ v 4 ∧ v 4 ≤ 30 from hB.1 4) (show fr [] [] v a v a from fr.refl) (fun h30 fp0 => ?_)
  refine m_aload_n (j := 0) C dX12_isWhole_0 rfl ?_
  refine m_iload_n (j := 1) C dX12_isWhole_1 rfl ?_
  have rv1 : 0 ≤ v 4 ∧ v 4 ≤ 30 := hB.1 4
  refine m_call (mc2 := 0) (ms2 := 0) (As := [.int (iI t)]) (rest := []) C (B_isTable (t := t) hB (by show -2147483648 ≤ t ∧ t ≤ 2147483647; omega)) dX12_isWhole_2 kV_X12_167 rfl ck_13 rfl (Nat.le_of_ble_eq_true rfl) ⟨Nat.le_of_ble_eq_true rfl, Nat.le_of_ble_eq_true rfl⟩ ⟨Nat.le_of_ble_eq_true rfl, Nat.le_of_ble_eq_true rfl⟩ (fun rh1 vh1 ah1 h1 => ?_)
  obtain ⟨f1, rfl, fn1, bn1, ex1⟩ := h1
  obtain ⟨rfl, rfl⟩ := fn1.eq
  refine hv2 (show (f1 = 0 ∧ (t < 0 ∨ (v 4) ≤ t ∨ a 5 t.toNat = 0)) ∨ (f1 = 1 ∧ 0 ≤ t ∧ t < (v 4) ∧ a 5 t.toNat = 1) from ex1) (show 0 ≤ a 5 t.toNat ∧ a 5 t.toNat ≤ 1 from hB.2 5 (t.toNat)) (fun gf1 ra1 => ?_)
  refine m_st (st2 := [.int (iI f1)]) rfl ?_
  refine m_if_ne (tgt := 10) C (r32_pq gf1) dX12_isWhole_5 (by decide) (fun c1 => ?_) (fun c1 => ?_)
  · replace gf1 := (gf1.resolve_left (fun q => c1 q.1))
    have ht0 := hT.1 t (by omega) (by omega)
    refine m_aload_n (j := 0) C dX12_isWhole_10 rfl ?_
    refine m_geta (k := 6) C dX12_isWhole_11 w6_65 (by decide) rfl ?_
    refine m_iload_n (j := 1) C dX12_isWhole_14 rfl ?_
    refine m_ald (k := 6) C dX12_isWhole_15 rfl rfl (by decide) (by omega) (by show _ < ((_ : Nat) : Int); simp only [mlen]; omega) (by decide) ?_
    have ra2 : 0 ≤ a 6 t.toNat ∧ a 6 t.toNat ≤ 5 := hB.2 6 (t.toNat)
    refine m_iconst C dX12_isWhole_16 ?_
    refine m_icmp_ne (tgt := 52) C (r32_c (lo := 0) (hi := 5) ra2.1 ra2.2 (by decide) (by decide)) ⟨by decide, by decide⟩ dX12_isWhole_17 (by decide) (fun c2 => ?_) (fun c2 => ?_)
    · refine m_aload_n (j := 0) C dX12_isWhole_52 rfl ?_
      refine m_geta (k := 6) C dX12_isWhole_53 w6_65 (by decide) rfl ?_
      refine m_iload_n (j := 1) C dX12_isWhole_56 rfl ?_
      refine m_ald (k := 6) C dX12_isWhole_57 rfl rfl (by decide) (by omega) (by show _ < ((_ : Nat) : Int); simp only [mlen]; omega) (by decide) ?_
      refine m_iconst C dX12_isWhole_58 ?_
      refine m_icmp_lt (tgt := 85) C (r32_c (lo := 0) (hi := 5) ra2.1 ra2.2 (by decide) (by decide)) ⟨by decide, by decide⟩ dX12_isWhole_59 (by decide) (fun c3 => ?_) (fun c3 => ?_)
      · refine m_iconst C dX12_isWhole_85 ?_
        refine m_goto (tgt := 90) C dX12_isWhole_86 (by decide) ?_
        exact m_zret C dX12_isWhole_90 rfl (Or.inr rfl) (Nat.le_of_ble_eq_true rfl) (Nat.le_of_ble_eq_true rfl) ⟨1, rfl, fp0, hB, (by omega)⟩
      · refine m_aload_n (j := 0) C dX12_isWhole_62 rfl ?_
        refine m_geta (k := 6) C dX12_isWhole_63 w6_65 (by decide) rfl ?_
        refine m_iload_n (j := 1) C dX12_isWhole_66 rfl ?_
        refine m_ald (k := 6) C dX12_isWhole_67 rfl rfl (by decide) (by omega) (by show _ < ((_ : Nat) : Int); simp only [mlen]; omega) (by decide) ?_
        refine m_iconst C dX12_isWhole_68 ?_
        refine m_icmp_gt (tgt := 85) C (r32_c (lo := 0) (hi := 5) ra2.1 ra2.2 (by decide) (by decide)) ⟨by decide, by decide⟩ dX12_isWhole_69 (by decide) (fun c4 => ?_) (fun c4 => ?_)
        · refine m_iconst C dX12_isWhole_85 ?_
          refine m_goto (tgt := 90) C dX12_isWhole_86 (by decide) ?_
          exact m_zret C dX12_isWhole_90 rfl (Or.inr rfl) (Nat.le_of_ble_eq_true rfl) (Nat.le_of_ble_eq_true rfl) ⟨1, rfl, fp0, hB, (by omega)⟩
        · refine m_aload_n (j := 0) C dX12_isWhole_72 rfl ?_
          refine m_aload_n (j := 0) C dX12_isWhole_73 rfl ?_
          refine m_geta (k := 8) C dX12_isWhole_74 w6_67 (by decide) rfl ?_
          refine m_iload_n (j := 1) C dX12_isWhole_77 rfl ?_
          refine m_ald (k := 8) C dX12_isWhole_78 rfl rfl (by decide) (by omega) (by show _ < ((_ : Nat) : Int); simp only [mlen]; omega) (by decide) ?_
          have ra3 : (-1) ≤ a 8 t.toNat ∧ a 8 t.toNat ≤ 29 := hB.2 8 (t.toNat)
          refine m_call (mc2 := 0) (ms2 := 0) (As := [.int (iI (a 8 t.toNat))]) (rest := []) C ((M_isWholeN 30 (a 8 t.toNat) (by omega) (by omega) (Nat.le_refl _)) _ _ hB hT) dX12_isWhole_79 kV_X12_171 rfl ck_13 rfl (Nat.le_of_ble_eq_true rfl) ⟨Nat.le_of_ble_eq_true rfl, Nat.le_of_ble_eq_true rfl⟩ ⟨Nat.le_of_ble_eq_true rfl, Nat.le_of_ble_eq_true rfl⟩ (fun rh2 vh2 ah2 h2 => ?_)
          obtain ⟨f2, rfl, fn2, _, ef2⟩ := h2
          obtain ⟨rfl, rfl⟩ := fn2.eq
          refine m_st (st2 := [.int (iI f2)]) rfl ?_
          refine m_if_eq (tgt := 89) C ⟨by omega, by omega⟩ dX12_isWhole_82 (by decide) (fun c5 => ?_) (fun c5 => ?_)
          · refine m_iconst C dX12_isWhole_89 ?_
            exact m_zret C dX12_isWhole_90 rfl (Or.inl rfl) (Nat.le_of_ble_eq_true rfl) (Nat.le_of_ble_eq_true rfl) ⟨0, rfl, fp0, hB, (by omega)⟩
          · refine m_iconst C dX12_isWhole_85 ?_
            refine m_goto (tgt := 90) C dX12_isWhole_86 (by decide) ?_
            exact m_zret C dX12_isWhole_90 rfl (Or.inr rfl) (Nat.le_of_ble_eq_true rfl) (Nat.le_of_ble_eq_true rfl) ⟨1, rfl, fp0, hB, (by omega)⟩
    · refine m_aload_n (j := 0) C dX12_isWhole_20 rfl ?_
      refine m_aload_n (j := 0) C dX12_isWhole_21 rfl ?_
      refine m_geta (k := 8) C dX12_isWhole_22 w6_67 (by decide) rfl ?_
      refine m_iload_n (j := 1) C dX12_isWhole_25 rfl ?_
      refine m_ald (k := 8) C dX12_isWhole_26 rfl rfl (by decide) (by omega) (by show _ < ((_ : Nat) : Int); simp only [mlen]; omega) (by decide) ?_
      have ra4 : (-1) ≤ a 8 t.toNat ∧ a 8 t.toNat ≤ 29 := hB.2 8 (t.toNat)
      refine m_call (mc2 := 0) (ms2 := 0) (As := [.int (iI (a 8 t.toNat))]) (rest := []) C ((M_isWholeN 30 (a 8 t.toNat) (by omega) (by omega) (Nat.le_refl _)) _ _ hB hT) dX12_isWhole_27 kV_X12_171 rfl ck_13 rfl (Nat.le_of_ble_eq_true rfl) ⟨Nat.le_of_ble_eq_true rfl, Nat.le_of_ble_eq_true rfl⟩ ⟨Nat.le_of_ble_eq_true rfl, Nat.le_of_ble_eq_true rfl⟩ (fun rh3 vh3 ah3 h3 => ?_)
      obtain ⟨f3, rfl, fn3, _, ef3⟩ := h3
      obtain ⟨rfl, rfl⟩ := fn3.eq
      refine m_st (st2 := [.int (iI f3)]) rfl ?_
      refine m_if_eq (tgt := 50) C ⟨by omega, by omega⟩ dX12_isWhole_30 (by decide) (fun c6 => ?_) (fun c6 => ?_)
      · refine m_iconst C dX12_isWhole_50 ?_
        exact m_zret C dX12_isWhole_51 rfl (Or.inl rfl) (Nat.le_of_ble_eq_true rfl) (Nat.le_of_ble_eq_true rfl) ⟨0, rfl, fp0, hB, (by omega)⟩
      · refine m_aload_n (j := 0) C dX12_isWhole_33 rfl ?_
        refine m_aload_n (j := 0) C dX12_isWhole_34 rfl ?_
        refine m_geta (k := 9) C dX12_isWhole_35 w6_68 (by decide) rfl ?_
        refine m_iload_n (j := 1) C dX12_isWhole_38 rfl ?_
        refine m_ald (k := 9) C dX12_isWhole_39 rfl rfl (by decide) (by omega) (by show _ < ((_ : Nat) : Int); simp only [mlen]; omega) (by decide) ?_
        have ra5 : (-1) ≤ a 9 t.toNat ∧ a 9 t.toNat ≤ 29 := hB.2 9 (t.toNat)
        refine m_call (mc2 := 0) (ms2 := 0) (As := [.int (iI (a 9 t.toNat))]) (rest := []) C ((M_isWholeN 30 (a 9 t.toNat) (by omega) (by omega) (Nat.le_refl _)) _ _ hB hT) dX12_isWhole_40 kV_X12_171 rfl ck_13 rfl (Nat.le_of_ble_eq_true rfl) ⟨Nat.le_of_ble_eq_true rfl, Nat.le_of_ble_eq_true rfl⟩ ⟨Nat.le_of_ble_eq_true rfl, Nat.le_of_ble_eq_true rfl⟩ (fun rh4 vh4 ah4 h4 => ?_)
        obtain ⟨f4, rfl, fn4, _, ef4⟩ := h4
        obtain ⟨rfl, rfl⟩ := fn4.eq
        refine m_st (st2 := [.int (iI f4)]) rfl ?_
        refine m_if_eq (tgt := 50) C ⟨by omega, by omega⟩ dX12_isWhole_43 (by decide) (fun c7 => ?_) (fun c7 => ?_)
        · refine m_iconst C dX12_isWhole_50 ?_
          exact m_zret C dX12_isWhole_51 rfl (Or.inl rfl) (Nat.le_of_ble_eq_true rfl) (Nat.le_of_ble_eq_true rfl) ⟨0, rfl, fp0, hB, (by omega)⟩
        · refine m_iconst C dX12_isWhole_46 ?_
          refine m_goto (tgt := 51) C dX12_isWhole_47 (by decide) ?_
          exact m_zret C dX12_isWhole_51 rfl (Or.inr rfl) (Nat.le_of_ble_eq_true rfl) (Nat.le_of_ble_eq_true rfl) ⟨1, rfl, fp0, hB, (by omega)⟩
  · replace gf1 := (gf1.resolve_right (fun q => absurd (q.1.symm.trans c1) (by decide)))
    refine m_iconst C dX12_isWhole_8 ?_
    exact m_zret C dX12_isWhole_9 rfl (Or.inl rfl) (Nat.le_of_ble_eq_true rfl) (Nat.le_of_ble_eq_true rfl) ⟨0, rfl, fp0, hB, (by omega)⟩
end
section
def mmin (x y : Int32) : Int32 := if y < x then y else x
theorem mmin_c {x y : Int} (hx : R32 x) (hy : R32 y) : ∃ w : Int, ((w = x ∧ x ≤ y) ∨ (w = y ∧ y < x)) ∧ mmin (iI x) (iI y) = iI w := by
  unfold mmin
  by_cases h : y < x
  · exact ⟨y, Or.inr ⟨rfl, h⟩, if_pos ((iI_lt hy hx).mpr h)⟩
  · exact ⟨x, Or.inl ⟨rfl, by omega⟩, if_neg (fun q => h ((iI_lt hy hx).mp q))⟩
theorem mmax_c {x y : Int} (hx : R32 x) (hy : R32 y) : ∃ w : Int, ((w = x ∧ y ≤ x) ∨ (w = y ∧ x < y)) ∧ (if iI x < iI y then iI y else iI x) = iI w := by
  by_cases h : x < y
  · exact ⟨y, Or.inr ⟨rfl, h⟩, if_pos ((iI_lt hx hy).mpr h)⟩
  · exact ⟨x, Or.inl ⟨rfl, by omega⟩, if_neg (fun q => h ((iI_lt hx hy).mp q))⟩
theorem m_mmin {p : Program} {l : Launch} {e : Env} {R : Room} {s : State} {m : MethodId} {args : Array Value} {below : List Frame} {meth : Method} {c : Code} {cc : ByteArray} {y : MethodName} {ret : Option FieldType} {G : GT} {A : Nat → Prop} {nL : Nat} {Q : State → Prop} {h0 : Nat} {ad ln : Nat → Nat} {v : Nat → Int} {a : Nat → Nat → Int} {kc ks pc : Nat} {lv : List (Nat × Value)} {st : List Value} (C : Cq p s m args meth c cc y ret G A nL) {idx : Nat} {x y2 w : Int32} (d : decode cc pc = .ok (.invokestatic idx, 3)) (lk : Cond.methodLink y.cls idx Lib.Math.min.name ∈ lw_g) (h1 : Cond.static Lib.Math.min.name ∈ lw_g) (h2 : Cond.initialized "java/lang/Math" ∈ lw_g) (h3 : Cond.code Lib.Math.min.name Lib.Math.min.code 2 (some .int) ∈ lw_g) (hR : 1 ≤ R.frames ∧ 21 ≤ R.locals) (hf : kc ≤ R.cells ∧ ks ≤ R.slots) (hst : (st.map fun v => v.category).sum ≤ 8) (hv : (if y2 < x then y2 else x) = w) (kk : mw p l e R s m args below meth c G A nL Q h0 ad ln v a kc ks (pc + 3) lv (.int w :: st)) : mw p l e R s m args below meth c G A nL Q h0 ad ln v a kc ks pc lv (.int y2 :: .int x :: st) := fun L E h => q_mmin C d lk h1 h2 h3 hR hf hst hv (kk L E h)
theorem m_mmax {p : Program} {l : Launch} {e : Env} {R : Room} {s : State} {m : MethodId} {args : Array Value} {below : List Frame} {meth : Method} {c : Code} {cc : ByteArray} {y : MethodName} {ret : Option FieldType} {G : GT} {A : Nat → Prop} {nL : Nat} {Q : State → Prop} {h0 : Nat} {ad ln : Nat → Nat} {v : Nat → Int} {a : Nat → Nat → Int} {kc ks pc : Nat} {lv : List (Nat × Value)} {st : List Value} (C : Cq p s m args meth c cc y ret G A nL) {idx : Nat} {x y2 w : Int32} (d : decode cc pc = .ok (.invokestatic idx, 3)) (lk : Cond.methodLink y.cls idx Lib.Math.max.name ∈ lw_g) (h1 : Cond.static Lib.Math.max.name ∈ lw_g) (h2 : Cond.initialized "java/lang/Math" ∈ lw_g) (h3 : Cond.code Lib.Math.max.name Lib.Math.max.code 2 (some .int) ∈ lw_g) (hR : 1 ≤ R.frames ∧ 21 ≤ R.locals) (hf : kc ≤ R.cells ∧ ks ≤ R.slots) (hst : (st.map fun v => v.category).sum ≤ 8) (hv : (if x < y2 then y2 else x) = w) (kk : mw p l e R s m args below meth c G A nL Q h0 ad ln v a kc ks (pc + 3) lv (.int w :: st)) : mw p l e R s m args below meth c G A nL Q h0 ad ln v a kc ks pc lv (.int y2 :: .int x :: st) := fun L E h => q_mmax C d lk h1 h2 h3 hR hf hst hv (kk L E h)
set_option maxHeartbeats 4000000 in
set_option maxRecDepth 100000 in
theorem s_isLetter {l : Launch} {G : GT} {L : List Nat} {E : Nat → va_E} (x : Int32) : Mq l G yX12_isLetter cX12_isLetter 1 (some .boolean) 1 [.int x] L E 0 0 (fun v L2 E2 => v = some (.int (inn x 33 125)) ∧ L2 = L ∧ E2 = E) := by
  refine Mq.mk (by decide) (Nat.le_of_ble_eq_true rfl) ?_
  intro p e s m args below meth c A C
  refine q_iload_n (j := 0) C dX12_isLetter_0 rfl ?_
  refine q_bipush (v := 33) C dX12_isLetter_1 (by decide) ?_
  refine q_bipush (v := 125) C dX12_isLetter_3 (by decide) ?_
  refine q_callS (mc2 := 0) (ms2 := 0) (As := [.int x, .int 33, .int 125]) (rest := []) C (s_isIn x 33 125) dX12_isLetter_5 kS_X12_174 rfl rfl (Nat.le_of_ble_eq_true rfl) ⟨Nat.le_of_ble_eq_true rfl, Nat.le_of_ble_eq_true rfl⟩ ⟨Nat.le_of_ble_eq_true rfl, Nat.le_of_ble_eq_true rfl⟩ (fun vh1 Lh1 Eh1 h1 => ?_)
  obtain ⟨rfl, rfl, rfl⟩ := h1
  refine q_st (st2 := [.int (inn x 33 125)]) rfl ?_
  exact q_zret C dX12_isLetter_8 rfl (by unfold inn; split <;> rfl) (Nat.le_of_ble_eq_true rfl) (Nat.le_of_ble_eq_true rfl) ⟨rfl, rfl, rfl⟩
end
section
def bcn (x : Int32) : Int32 := ((((((((x - (((Int32.toUInt32 x >>> (Int32.toUInt32 (1 : Int32) &&& Int32.toUInt32 31)).toInt32) &&& (1431655765 : Int32))) &&& (858993459 : Int32)) + (((Int32.toUInt32 (x - (((Int32.toUInt32 x >>> (Int32.toUInt32 (1 : Int32) &&& Int32.toUInt32 31)).toInt32) &&& (1431655765 : Int32))) >>> (Int32.toUInt32 (2 : Int32) &&& Int32.toUInt32 31)).toInt32) &&& (858993459 : Int32))) + ((Int32.toUInt32 (((x - (((Int32.toUInt32 x >>> (Int32.toUInt32 (1 : Int32) &&& Int32.toUInt32 31)).toInt32) &&& (1431655765 : Int32))) &&& (858993459 : Int32)) + (((Int32.toUInt32 (x - (((Int32.toUInt32 x >>> (Int32.toUInt32 (1 : Int32) &&& Int32.toUInt32 31)).toInt32) &&& (1431655765 : Int32))) >>> (Int32.toUInt32 (2 : Int32) &&& Int32.toUInt32 31)).toInt32) &&& (858993459 : Int32))) >>> (Int32.toUInt32 (4 : Int32) &&& Int32.toUInt32 31)).toInt32)) &&& (252645135 : Int32)) + ((Int32.toUInt32 (((((x - (((Int32.toUInt32 x >>> (Int32.toUInt32 (1 : Int32) &&& Int32.toUInt32 31)).toInt32) &&& (1431655765 : Int32))) &&& (858993459 : Int32)) + (((Int32.toUInt32 (x - (((Int32.toUInt32 x >>> (Int32.toUInt32 (1 : Int32) &&& Int32.toUInt32 31)).toInt32) &&& (1431655765 : Int32))) >>> (Int32.toUInt32 (2 : Int32) &&& Int32.toUInt32 31)).toInt32) &&& (858993459 : Int32))) + ((Int32.toUInt32 (((x - (((Int32.toUInt32 x >>> (Int32.toUInt32 (1 : Int32) &&& Int32.toUInt32 31)).toInt32) &&& (1431655765 : Int32))) &&& (858993459 : Int32)) + (((Int32.toUInt32 (x - (((Int32.toUInt32 x >>> (Int32.toUInt32 (1 : Int32) &&& Int32.toUInt32 31)).toInt32) &&& (1431655765 : Int32))) >>> (Int32.toUInt32 (2 : Int32) &&& Int32.toUInt32 31)).toInt32) &&& (858993459 : Int32))) >>> (Int32.toUInt32 (4 : Int32) &&& Int32.toUInt32 31)).toInt32)) &&& (252645135 : Int32)) >>> (Int32.toUInt32 (8 : Int32) &&& Int32.toUInt32 31)).toInt32)) + ((Int32.toUInt32 ((((((x - (((Int32.toUInt32 x >>> (Int32.toUInt32 (1 : Int32) &&& Int32.toUInt32 31)).toInt32) &&& (1431655765 : Int32))) &&& (858993459 : Int32)) + (((Int32.toUInt32 (x - (((Int32.toUInt32 x >>> (Int32.toUInt32 (1 : Int32) &&& Int32.toUInt32 31)).toInt32) &&& (1431655765 : Int32))) >>> (Int32.toUInt32 (2 : Int32) &&& Int32.toUInt32 31)).toInt32) &&& (858993459 : Int32))) + ((Int32.toUInt32 (((x - (((Int32.toUInt32 x >>> (Int32.toUInt32 (1 : Int32) &&& Int32.toUInt32 31)).toInt32) &&& (1431655765 : Int32))) &&& (858993459 : Int32)) + (((Int32.toUInt32 (x - (((Int32.toUInt32 x >>> (Int32.toUInt32 (1 : Int32) &&& Int32.toUInt32 31)).toInt32) &&& (1431655765 : Int32))) >>> (Int32.toUInt32 (2 : Int32) &&& Int32.toUInt32 31)).toInt32) &&& (858993459 : Int32))) >>> (Int32.toUInt32 (4 : Int32) &&& Int32.toUInt32 31)).toInt32)) &&& (252645135 : Int32)) + ((Int32.toUInt32 (((((x - (((Int32.toUInt32 x >>> (Int32.toUInt32 (1 : Int32) &&& Int32.toUInt32 31)).toInt32) &&& (1431655765 : Int32))) &&& (858993459 : Int32)) + (((Int32.toUInt32 (x - (((Int32.toUInt32 x >>> (Int32.toUInt32 (1 : Int32) &&& Int32.toUInt32 31)).toInt32) &&& (1431655765 : Int32))) >>> (Int32.toUInt32 (2 : Int32) &&& Int32.toUInt32 31)).toInt32) &&& (858993459 : Int32))) + ((Int32.toUInt32 (((x - (((Int32.toUInt32 x >>> (Int32.toUInt32 (1 : Int32) &&& Int32.toUInt32 31)).toInt32) &&& (1431655765 : Int32))) &&& (858993459 : Int32)) + (((Int32.toUInt32 (x - (((Int32.toUInt32 x >>> (Int32.toUInt32 (1 : Int32) &&& Int32.toUInt32 31)).toInt32) &&& (1431655765 : Int32))) >>> (Int32.toUInt32 (2 : Int32) &&& Int32.toUInt32 31)).toInt32) &&& (858993459 : Int32))) >>> (Int32.toUInt32 (4 : Int32) &&& Int32.toUInt32 31)).toInt32)) &&& (252645135 : Int32)) >>> (Int32.toUInt32 (8 : Int32) &&& Int32.toUInt32 31)).toInt32)) >>> (Int32.toUInt32 (16 : Int32) &&& Int32.toUInt32 31)).toInt32)) &&& (63 : Int32))
set_option maxHeartbeats 4000000 in
set_option maxRecDepth 100000 in
theorem s_bitCount {l : Launch} {G : GT} {L : List Nat} {E : Nat → va_E} (x : Int32) : Mq l G yJ6_bitCount_0f7a4 cJ6_bitCount_0f7a4 1 (some .int) 0 [.int x] L E 0 0 (fun v L2 E2 => v = some (.int (bcn x)) ∧ L2 = L ∧ E2 = E) := by
  refine Mq.mk (by decide) (Nat.le_of_ble_eq_true rfl) ?_
  intro p e s m args below meth c A C
  refine q_iload_n (j := 0) C dJ6_bitCount_0f7a4_0 rfl ?_
  refine q_iload_n (j := 0) C dJ6_bitCount_0f7a4_1 rfl ?_
  refine q_iconst (v := 1) C dJ6_bitCount_0f7a4_2 (by decide) ?_
  refine q_iushr (v := ((Int32.toUInt32 x >>> (Int32.toUInt32 (1 : Int32) &&& Int32.toUInt32 31)).toInt32)) C dJ6_bitCount_0f7a4_3 rfl ?_
  refine q_ldcw (v := 1431655765) C dJ6_bitCount_0f7a4_4 w5_17 ?_
  refine q_iand (v := (((Int32.toUInt32 x >>> (Int32.toUInt32 (1 : Int32) &&& Int32.toUInt32 31)).toInt32) &&& (1431655765 : Int32))) C dJ6_bitCount_0f7a4_7 rfl ?_
  refine q_isub (v := (x - (((Int32.toUInt32 x >>> (Int32.toUInt32 (1 : Int32) &&& Int32.toUInt32 31)).toInt32) &&& (1431655765 : Int32)))) C dJ6_bitCount_0f7a4_8 rfl ?_
  refine q_istore_n (lv2 := [(0, .int (x - (((Int32.toUInt32 x >>> (Int32.toUInt32 (1 : Int32) &&& Int32.toUInt32 31)).toInt32) &&& (1431655765 : Int32))))]) C dJ6_bitCount_0f7a4_9 (by decide) rfl ?_
  refine q_iload_n (j := 0) C dJ6_bitCount_0f7a4_10 rfl ?_
  refine q_ldcw (v := 858993459) C dJ6_bitCount_0f7a4_11 w5_18 ?_
  refine q_iand (v := ((x - (((Int32.toUInt32 x >>> (Int32.toUInt32 (1 : Int32) &&& Int32.toUInt32 31)).toInt32) &&& (1431655765 : Int32))) &&& (858993459 : Int32))) C dJ6_bitCount_0f7a4_14 rfl ?_
  refine q_iload_n (j := 0) C dJ6_bitCount_0f7a4_15 rfl ?_
  refine q_iconst (v := 2) C dJ6_bitCount_0f7a4_16 (by decide) ?_
  refine q_iushr (v := ((Int32.toUInt32 (x - (((Int32.toUInt32 x >>> (Int32.toUInt32 (1 : Int32) &&& Int32.toUInt32 31)).toInt32) &&& (1431655765 : Int32))) >>> (Int32.toUInt32 (2 : Int32) &&& Int32.toUInt32 31)).toInt32)) C dJ6_bitCount_0f7a4_17 rfl ?_
  refine q_ldcw (v := 858993459) C dJ6_bitCount_0f7a4_18 w5_18 ?_
  refine q_iand (v := (((Int32.toUInt32 (x - (((Int32.toUInt32 x >>> (Int32.toUInt32 (1 : Int32) &&& Int32.toUInt32 31)).toInt32) &&& (1431655765 : Int32))) >>> (Int32.toUInt32 (2 : Int32) &&& Int32.toUInt32 31)).toInt32) &&& (858993459 : Int32))) C dJ6_bitCount_0f7a4_21 rfl ?_
  refine q_iadd (v := (((x - (((Int32.toUInt32 x >>> (Int32.toUInt32 (1 : Int32) &&& Int32.toUInt32 31)).toInt32) &&& (1431655765 : Int32))) &&& (858993459 : Int32)) + (((Int32.toUInt32 (x - (((Int32.toUInt32 x >>> (Int32.toUInt32 (1 : Int32) &&& Int32.toUInt32 31)).toInt32) &&& (1431655765 : Int32))) >>> (Int32.toUInt32 (2 : Int32) &&& Int32.toUInt32 31)).toInt32) &&& (858993459 : Int32)))) C dJ6_bitCount_0f7a4_22 rfl ?_
  refine q_istore_n (lv2 := [(0, .int (((x - (((Int32.toUInt32 x >>> (Int32.toUInt32 (1 : Int32) &&& Int32.toUInt32 31)).toInt32) &&& (1431655765 : Int32))) &&& (858993459 : Int32)) + (((Int32.toUInt32 (x - (((Int32.toUInt32 x >>> (Int32.toUInt32 (1 : Int32) &&& Int32.toUInt32 31)).toInt32) &&& (1431655765 : Int32))) >>> (Int32.toUInt32 (2 : Int32) &&& Int32.toUInt32 31)).toInt32) &&& (858993459 : Int32))))]) C dJ6_bitCount_0f7a4_23 (by decide) rfl ?_
  refine q_iload_n (j := 0) C dJ6_bitCount_0f7a4_24 rfl ?_
  refine q_iload_n (j := 0) C dJ6_bitCount_0f7a4_25 rfl ?_
  refine q_iconst (v := 4) C dJ6_bitCount_0f7a4_26 (by decide) ?_
  refine q_iushr (v := ((Int32.toUInt32 (((x - (((Int32.toUInt32 x >>> (Int32.toUInt32 (1 : Int32) &&& Int32.toUInt32 31)).toInt32) &&& (1431655765 : Int32))) &&& (858993459 : Int32)) + (((Int32.toUInt32 (x - (((Int32.toUInt32 x >>> (Int32.toUInt32 (1 : Int32) &&& Int32.toUInt32 31)).toInt32) &&& (1431655765 : Int32))) >>> (Int32.toUInt32 (2 : Int32) &&& Int32.toUInt32 31)).toInt32) &&& (858993459 : Int32))) >>> (Int32.toUInt32 (4 : Int32) &&& Int32.toUInt32 31)).toInt32)) C dJ6_bitCount_0f7a4_27 rfl ?_
  refine q_iadd (v := ((((x - (((Int32.toUInt32 x >>> (Int32.toUInt32 (1 : Int32) &&& Int32.toUInt32 31)).toInt32) &&& (1431655765 : Int32))) &&& (858993459 : Int32)) + (((Int32.toUInt32 (x - (((Int32.toUInt32 x >>> (Int32.toUInt32 (1 : Int32) &&& Int32.toUInt32 31)).toInt32) &&& (1431655765 : Int32))) >>> (Int32.toUInt32 (2 : Int32) &&& Int32.toUInt32 31)).toInt32) &&& (858993459 : Int32))) + ((Int32.toUInt32 (((x - (((Int32.toUInt32 x >>> (Int32.toUInt32 (1 : Int32) &&& Int32.toUInt32 31)).toInt32) &&& (1431655765 : Int32))) &&& (858993459 : Int32)) + (((Int32.toUInt32 (x - (((Int32.toUInt32 x >>> (Int32.toUInt32 (1 : Int32) &&& Int32.toUInt32 31)).toInt32) &&& (1431655765 : Int32))) >>> (Int32.toUInt32 (2 : Int32) &&& Int32.toUInt32 31)).toInt32) &&& (858993459 : Int32))) >>> (Int32.toUInt32 (4 : Int32) &&& Int32.toUInt32 31)).toInt32))) C dJ6_bitCount_0f7a4_28 rfl ?_
  refine q_ldcw (v := 252645135) C dJ6_bitCount_0f7a4_29 w5_19 ?_
  refine q_iand (v := (((((x - (((Int32.toUInt32 x >>> (Int32.toUInt32 (1 : Int32) &&& Int32.toUInt32 31)).toInt32) &&& (1431655765 : Int32))) &&& (858993459 : Int32)) + (((Int32.toUInt32 (x - (((Int32.toUInt32 x >>> (Int32.toUInt32 (1 : Int32) &&& Int32.toUInt32 31)).toInt32) &&& (1431655765 : Int32))) >>> (Int32.toUInt32 (2 : Int32) &&& Int32.toUInt32 31)).toInt32) &&& (858993459 : Int32))) + ((Int32.toUInt32 (((x - (((Int32.toUInt32 x >>> (Int32.toUInt32 (1 : Int32) &&& Int32.toUInt32 31)).toInt32) &&& (1431655765 : Int32))) &&& (858993459 : Int32)) + (((Int32.toUInt32 (x - (((Int32.toUInt32 x >>> (Int32.toUInt32 (1 : Int32) &&& Int32.toUInt32 31)).toInt32) &&& (1431655765 : Int32))) >>> (Int32.toUInt32 (2 : Int32) &&& Int32.toUInt32 31)).toInt32) &&& (858993459 : Int32))) >>> (Int32.toUInt32 (4 : Int32) &&& Int32.toUInt32 31)).toInt32)) &&& (252645135 : Int32))) C dJ6_bitCount_0f7a4_32 rfl ?_
  refine q_istore_n (lv2 := [(0, .int (((((x - (((Int32.toUInt32 x >>> (Int32.toUInt32 (1 : Int32) &&& Int32.toUInt32 31)).toInt32) &&& (1431655765 : Int32))) &&& (858993459 : Int32)) + (((Int32.toUInt32 (x - (((Int32.toUInt32 x >>> (Int32.toUInt32 (1 : Int32) &&& Int32.toUInt32 31)).toInt32) &&& (1431655765 : Int32))) >>> (Int32.toUInt32 (2 : Int32) &&& Int32.toUInt32 31)).toInt32) &&& (858993459 : Int32))) + ((Int32.toUInt32 (((x - (((Int32.toUInt32 x >>> (Int32.toUInt32 (1 : Int32) &&& Int32.toUInt32 31)).toInt32) &&& (1431655765 : Int32))) &&& (858993459 : Int32)) + (((Int32.toUInt32 (x - (((Int32.toUInt32 x >>> (Int32.toUInt32 (1 : Int32) &&& Int32.toUInt32 31)).toInt32) &&& (1431655765 : Int32))) >>> (Int32.toUInt32 (2 : Int32) &&& Int32.toUInt32 31)).toInt32) &&& (858993459 : Int32))) >>> (Int32.toUInt32 (4 : Int32) &&& Int32.toUInt32 31)).toInt32)) &&& (252645135 : Int32)))]) C dJ6_bitCount_0f7a4_33 (by decide) rfl ?_
  refine q_iload_n (j := 0) C dJ6_bitCount_0f7a4_34 rfl ?_
  refine q_iload_n (j := 0) C dJ6_bitCount_0f7a4_35 rfl ?_
  refine q_bipush (v := 8) C dJ6_bitCount_0f7a4_36 (by decide) ?_
  refine q_iushr (v := ((Int32.toUInt32 (((((x - (((Int32.toUInt32 x >>> (Int32.toUInt32 (1 : Int32) &&& Int32.toUInt32 31)).toInt32) &&& (1431655765 : Int32))) &&& (858993459 : Int32)) + (((Int32.toUInt32 (x - (((Int32.toUInt32 x >>> (Int32.toUInt32 (1 : Int32) &&& Int32.toUInt32 31)).toInt32) &&& (1431655765 : Int32))) >>> (Int32.toUInt32 (2 : Int32) &&& Int32.toUInt32 31)).toInt32) &&& (858993459 : Int32))) + ((Int32.toUInt32 (((x - (((Int32.toUInt32 x >>> (Int32.toUInt32 (1 : Int32) &&& Int32.toUInt32 31)).toInt32) &&& (1431655765 : Int32))) &&& (858993459 : Int32)) + (((Int32.toUInt32 (x - (((Int32.toUInt32 x >>> (Int32.toUInt32 (1 : Int32) &&& Int32.toUInt32 31)).toInt32) &&& (1431655765 : Int32))) >>> (Int32.toUInt32 (2 : Int32) &&& Int32.toUInt32 31)).toInt32) &&& (858993459 : Int32))) >>> (Int32.toUInt32 (4 : Int32) &&& Int32.toUInt32 31)).toInt32)) &&& (252645135 : Int32)) >>> (Int32.toUInt32 (8 : Int32) &&& Int32.toUInt32 31)).toInt32)) C dJ6_bitCount_0f7a4_38 rfl ?_
  refine q_iadd (v := ((((((x - (((Int32.toUInt32 x >>> (Int32.toUInt32 (1 : Int32) &&& Int32.toUInt32 31)).toInt32) &&& (1431655765 : Int32))) &&& (858993459 : Int32)) + (((Int32.toUInt32 (x - (((Int32.toUInt32 x >>> (Int32.toUInt32 (1 : Int32) &&& Int32.toUInt32 31)).toInt32) &&& (1431655765 : Int32))) >>> (Int32.toUInt32 (2 : Int32) &&& Int32.toUInt32 31)).toInt32) &&& (858993459 : Int32))) + ((Int32.toUInt32 (((x - (((Int32.toUInt32 x >>> (Int32.toUInt32 (1 : Int32) &&& Int32.toUInt32 31)).toInt32) &&& (1431655765 : Int32))) &&& (858993459 : Int32)) + (((Int32.toUInt32 (x - (((Int32.toUInt32 x >>> (Int32.toUInt32 (1 : Int32) &&& Int32.toUInt32 31)).toInt32) &&& (1431655765 : Int32))) >>> (Int32.toUInt32 (2 : Int32) &&& Int32.toUInt32 31)).toInt32) &&& (858993459 : Int32))) >>> (Int32.toUInt32 (4 : Int32) &&& Int32.toUInt32 31)).toInt32)) &&& (252645135 : Int32)) + ((Int32.toUInt32 (((((x - (((Int32.toUInt32 x >>> (Int32.toUInt32 (1 : Int32) &&& Int32.toUInt32 31)).toInt32) &&& (1431655765 : Int32))) &&& (858993459 : Int32)) + (((Int32.toUInt32 (x - (((Int32.toUInt32 x >>> (Int32.toUInt32 (1 : Int32) &&& Int32.toUInt32 31)).toInt32) &&& (1431655765 : Int32))) >>> (Int32.toUInt32 (2 : Int32) &&& Int32.toUInt32 31)).toInt32) &&& (858993459 : Int32))) + ((Int32.toUInt32 (((x - (((Int32.toUInt32 x >>> (Int32.toUInt32 (1 : Int32) &&& Int32.toUInt32 31)).toInt32) &&& (1431655765 : Int32))) &&& (858993459 : Int32)) + (((Int32.toUInt32 (x - (((Int32.toUInt32 x >>> (Int32.toUInt32 (1 : Int32) &&& Int32.toUInt32 31)).toInt32) &&& (1431655765 : Int32))) >>> (Int32.toUInt32 (2 : Int32) &&& Int32.toUInt32 31)).toInt32) &&& (858993459 : Int32))) >>> (Int32.toUInt32 (4 : Int32) &&& Int32.toUInt32 31)).toInt32)) &&& (252645135 : Int32)) >>> (Int32.toUInt32 (8 : Int32) &&& Int32.toUInt32 31)).toInt32))) C dJ6_bitCount_0f7a4_39 rfl ?_
  refine q_istore_n (lv2 := [(0, .int ((((((x - (((Int32.toUInt32 x >>> (Int32.toUInt32 (1 : Int32) &&& Int32.toUInt32 31)).toInt32) &&& (1431655765 : Int32))) &&& (858993459 : Int32)) + (((Int32.toUInt32 (x - (((Int32.toUInt32 x >>> (Int32.toUInt32 (1 : Int32) &&& Int32.toUInt32 31)).toInt32) &&& (1431655765 : Int32))) >>> (Int32.toUInt32 (2 : Int32) &&& Int32.toUInt32 31)).toInt32) &&& (858993459 : Int32))) + ((Int32.toUInt32 (((x - (((Int32.toUInt32 x >>> (Int32.toUInt32 (1 : Int32) &&& Int32.toUInt32 31)).toInt32) &&& (1431655765 : Int32))) &&& (858993459 : Int32)) + (((Int32.toUInt32 (x - (((Int32.toUInt32 x >>> (Int32.toUInt32 (1 : Int32) &&& Int32.toUInt32 31)).toInt32) &&& (1431655765 : Int32))) >>> (Int32.toUInt32 (2 : Int32) &&& Int32.toUInt32 31)).toInt32) &&& (858993459 : Int32))) >>> (Int32.toUInt32 (4 : Int32) &&& Int32.toUInt32 31)).toInt32)) &&& (252645135 : Int32)) + ((Int32.toUInt32 (((((x - (((Int32.toUInt32 x >>> (Int32.toUInt32 (1 : Int32) &&& Int32.toUInt32 31)).toInt32) &&& (1431655765 : Int32))) &&& (858993459 : Int32)) + (((Int32.toUInt32 (x - (((Int32.toUInt32 x >>> (Int32.toUInt32 (1 : Int32) &&& Int32.toUInt32 31)).toInt32) &&& (1431655765 : Int32))) >>> (Int32.toUInt32 (2 : Int32) &&& Int32.toUInt32 31)).toInt32) &&& (858993459 : Int32))) + ((Int32.toUInt32 (((x - (((Int32.toUInt32 x >>> (Int32.toUInt32 (1 : Int32) &&& Int32.toUInt32 31)).toInt32) &&& (1431655765 : Int32))) &&& (858993459 : Int32)) + (((Int32.toUInt32 (x - (((Int32.toUInt32 x >>> (Int32.toUInt32 (1 : Int32) &&& Int32.toUInt32 31)).toInt32) &&& (1431655765 : Int32))) >>> (Int32.toUInt32 (2 : Int32) &&& Int32.toUInt32 31)).toInt32) &&& (858993459 : Int32))) >>> (Int32.toUInt32 (4 : Int32) &&& Int32.toUInt32 31)).toInt32)) &&& (252645135 : Int32)) >>> (Int32.toUInt32 (8 : Int32) &&& Int32.toUInt32 31)).toInt32)))]) C dJ6_bitCount_0f7a4_40 (by decide) rfl ?_
  refine q_iload_n (j := 0) C dJ6_bitCount_0f7a4_41 rfl ?_
  refine q_iload_n (j := 0) C dJ6_bitCount_0f7a4_42 rfl ?_
  refine q_bipush (v := 16) C dJ6_bitCount_0f7a4_43 (by decide) ?_
  refine q_iushr (v := ((Int32.toUInt32 ((((((x - (((Int32.toUInt32 x >>> (Int32.toUInt32 (1 : Int32) &&& Int32.toUInt32 31)).toInt32) &&& (1431655765 : Int32))) &&& (858993459 : Int32)) + (((Int32.toUInt32 (x - (((Int32.toUInt32 x >>> (Int32.toUInt32 (1 : Int32) &&& Int32.toUInt32 31)).toInt32) &&& (1431655765 : Int32))) >>> (Int32.toUInt32 (2 : Int32) &&& Int32.toUInt32 31)).toInt32) &&& (858993459 : Int32))) + ((Int32.toUInt32 (((x - (((Int32.toUInt32 x >>> (Int32.toUInt32 (1 : Int32) &&& Int32.toUInt32 31)).toInt32) &&& (1431655765 : Int32))) &&& (858993459 : Int32)) + (((Int32.toUInt32 (x - (((Int32.toUInt32 x >>> (Int32.toUInt32 (1 : Int32) &&& Int32.toUInt32 31)).toInt32) &&& (1431655765 : Int32))) >>> (Int32.toUInt32 (2 : Int32) &&& Int32.toUInt32 31)).toInt32) &&& (858993459 : Int32))) >>> (Int32.toUInt32 (4 : Int32) &&& Int32.toUInt32 31)).toInt32)) &&& (252645135 : Int32)) + ((Int32.toUInt32 (((((x - (((Int32.toUInt32 x >>> (Int32.toUInt32 (1 : Int32) &&& Int32.toUInt32 31)).toInt32) &&& (1431655765 : Int32))) &&& (858993459 : Int32)) + (((Int32.toUInt32 (x - (((Int32.toUInt32 x >>> (Int32.toUInt32 (1 : Int32) &&& Int32.toUInt32 31)).toInt32) &&& (1431655765 : Int32))) >>> (Int32.toUInt32 (2 : Int32) &&& Int32.toUInt32 31)).toInt32) &&& (858993459 : Int32))) + ((Int32.toUInt32 (((x - (((Int32.toUInt32 x >>> (Int32.toUInt32 (1 : Int32) &&& Int32.toUInt32 31)).toInt32) &&& (1431655765 : Int32))) &&& (858993459 : Int32)) + (((Int32.toUInt32 (x - (((Int32.toUInt32 x >>> (Int32.toUInt32 (1 : Int32) &&& Int32.toUInt32 31)).toInt32) &&& (1431655765 : Int32))) >>> (Int32.toUInt32 (2 : Int32) &&& Int32.toUInt32 31)).toInt32) &&& (858993459 : Int32))) >>> (Int32.toUInt32 (4 : Int32) &&& Int32.toUInt32 31)).toInt32)) &&& (252645135 : Int32)) >>> (Int32.toUInt32 (8 : Int32) &&& Int32.toUInt32 31)).toInt32)) >>> (Int32.toUInt32 (16 : Int32) &&& Int32.toUInt32 31)).toInt32)) C dJ6_bitCount_0f7a4_45 rfl ?_
  refine q_iadd (v := (((((((x - (((Int32.toUInt32 x >>> (Int32.toUInt32 (1 : Int32) &&& Int32.toUInt32 31)).toInt32) &&& (1431655765 : Int32))) &&& (858993459 : Int32)) + (((Int32.toUInt32 (x - (((Int32.toUInt32 x >>> (Int32.toUInt32 (1 : Int32) &&& Int32.toUInt32 31)).toInt32) &&& (1431655765 : Int32))) >>> (Int32.toUInt32 (2 : Int32) &&& Int32.toUInt32 31)).toInt32) &&& (858993459 : Int32))) + ((Int32.toUInt32 (((x - (((Int32.toUInt32 x >>> (Int32.toUInt32 (1 : Int32) &&& Int32.toUInt32 31)).toInt32) &&& (1431655765 : Int32))) &&& (858993459 : Int32)) + (((Int32.toUInt32 (x - (((Int32.toUInt32 x >>> (Int32.toUInt32 (1 : Int32) &&& Int32.toUInt32 31)).toInt32) &&& (1431655765 : Int32))) >>> (Int32.toUInt32 (2 : Int32) &&& Int32.toUInt32 31)).toInt32) &&& (858993459 : Int32))) >>> (Int32.toUInt32 (4 : Int32) &&& Int32.toUInt32 31)).toInt32)) &&& (252645135 : Int32)) + ((Int32.toUInt32 (((((x - (((Int32.toUInt32 x >>> (Int32.toUInt32 (1 : Int32) &&& Int32.toUInt32 31)).toInt32) &&& (1431655765 : Int32))) &&& (858993459 : Int32)) + (((Int32.toUInt32 (x - (((Int32.toUInt32 x >>> (Int32.toUInt32 (1 : Int32) &&& Int32.toUInt32 31)).toInt32) &&& (1431655765 : Int32))) >>> (Int32.toUInt32 (2 : Int32) &&& Int32.toUInt32 31)).toInt32) &&& (858993459 : Int32))) + ((Int32.toUInt32 (((x - (((Int32.toUInt32 x >>> (Int32.toUInt32 (1 : Int32) &&& Int32.toUInt32 31)).toInt32) &&& (1431655765 : Int32))) &&& (858993459 : Int32)) + (((Int32.toUInt32 (x - (((Int32.toUInt32 x >>> (Int32.toUInt32 (1 : Int32) &&& Int32.toUInt32 31)).toInt32) &&& (1431655765 : Int32))) >>> (Int32.toUInt32 (2 : Int32) &&& Int32.toUInt32 31)).toInt32) &&& (858993459 : Int32))) >>> (Int32.toUInt32 (4 : Int32) &&& Int32.toUInt32 31)).toInt32)) &&& (252645135 : Int32)) >>> (Int32.toUInt32 (8 : Int32) &&& Int32.toUInt32 31)).toInt32)) + ((Int32.toUInt32 ((((((x - (((Int32.toUInt32 x >>> (Int32.toUInt32 (1 : Int32) &&& Int32.toUInt32 31)).toInt32) &&& (1431655765 : Int32))) &&& (858993459 : Int32)) + (((Int32.toUInt32 (x - (((Int32.toUInt32 x >>> (Int32.toUInt32 (1 : Int32) &&& Int32.toUInt32 31)).toInt32) &&& (1431655765 : Int32))) >>> (Int32.toUInt32 (2 : Int32) &&& Int32.toUInt32 31)).toInt32) &&& (858993459 : Int32))) + ((Int32.toUInt32 (((x - (((Int32.toUInt32 x >>> (Int32.toUInt32 (1 : Int32) &&& Int32.toUInt32 31)).toInt32) &&& (1431655765 : Int32))) &&& (858993459 : Int32)) + (((Int32.toUInt32 (x - (((Int32.toUInt32 x >>> (Int32.toUInt32 (1 : Int32) &&& Int32.toUInt32 31)).toInt32) &&& (1431655765 : Int32))) >>> (Int32.toUInt32 (2 : Int32) &&& Int32.toUInt32 31)).toInt32) &&& (858993459 : Int32))) >>> (Int32.toUInt32 (4 : Int32) &&& Int32.toUInt32 31)).toInt32)) &&& (252645135 : Int32)) + ((Int32.toUInt32 (((((x - (((Int32.toUInt32 x >>> (Int32.toUInt32 (1 : Int32) &&& Int32.toUInt32 31)).toInt32) &&& (1431655765 : Int32))) &&& (858993459 : Int32)) + (((Int32.toUInt32 (x - (((Int32.toUInt32 x >>> (Int32.toUInt32 (1 : Int32) &&& Int32.toUInt32 31)).toInt32) &&& (1431655765 : Int32))) >>> (Int32.toUInt32 (2 : Int32) &&& Int32.toUInt32 31)).toInt32) &&& (858993459 : Int32))) + ((Int32.toUInt32 (((x - (((Int32.toUInt32 x >>> (Int32.toUInt32 (1 : Int32) &&& Int32.toUInt32 31)).toInt32) &&& (1431655765 : Int32))) &&& (858993459 : Int32)) + (((Int32.toUInt32 (x - (((Int32.toUInt32 x >>> (Int32.toUInt32 (1 : Int32) &&& Int32.toUInt32 31)).toInt32) &&& (1431655765 : Int32))) >>> (Int32.toUInt32 (2 : Int32) &&& Int32.toUInt32 31)).toInt32) &&& (858993459 : Int32))) >>> (Int32.toUInt32 (4 : Int32) &&& Int32.toUInt32 31)).toInt32)) &&& (252645135 : Int32)) >>> (Int32.toUInt32 (8 : Int32) &&& Int32.toUInt32 31)).toInt32)) >>> (Int32.toUInt32 (16 : Int32) &&& Int32.toUInt32 31)).toInt32))) C dJ6_bitCount_0f7a4_46 rfl ?_
  refine q_istore_n (lv2 := [(0, .int (((((((x - (((Int32.toUInt32 x >>> (Int32.toUInt32 (1 : Int32) &&& Int32.toUInt32 31)).toInt32) &&& (1431655765 : Int32))) &&& (858993459 : Int32)) + (((Int32.toUInt32 (x - (((Int32.toUInt32 x >>> (Int32.toUInt32 (1 : Int32) &&& Int32.toUInt32 31)).toInt32) &&& (1431655765 : Int32))) >>> (Int32.toUInt32 (2 : Int32) &&& Int32.toUInt32 31)).toInt32) &&& (858993459 : Int32))) + ((Int32.toUInt32 (((x - (((Int32.toUInt32 x >>> (Int32.toUInt32 (1 : Int32) &&& Int32.toUInt32 31)).toInt32) &&& (1431655765 : Int32))) &&& (858993459 : Int32)) + (((Int32.toUInt32 (x - (((Int32.toUInt32 x >>> (Int32.toUInt32 (1 : Int32) &&& Int32.toUInt32 31)).toInt32) &&& (1431655765 : Int32))) >>> (Int32.toUInt32 (2 : Int32) &&& Int32.toUInt32 31)).toInt32) &&& (858993459 : Int32))) >>> (Int32.toUInt32 (4 : Int32) &&& Int32.toUInt32 31)).toInt32)) &&& (252645135 : Int32)) + ((Int32.toUInt32 (((((x - (((Int32.toUInt32 x >>> (Int32.toUInt32 (1 : Int32) &&& Int32.toUInt32 31)).toInt32) &&& (1431655765 : Int32))) &&& (858993459 : Int32)) + (((Int32.toUInt32 (x - (((Int32.toUInt32 x >>> (Int32.toUInt32 (1 : Int32) &&& Int32.toUInt32 31)).toInt32) &&& (1431655765 : Int32))) >>> (Int32.toUInt32 (2 : Int32) &&& Int32.toUInt32 31)).toInt32) &&& (858993459 : Int32))) + ((Int32.toUInt32 (((x - (((Int32.toUInt32 x >>> (Int32.toUInt32 (1 : Int32) &&& Int32.toUInt32 31)).toInt32) &&& (1431655765 : Int32))) &&& (858993459 : Int32)) + (((Int32.toUInt32 (x - (((Int32.toUInt32 x >>> (Int32.toUInt32 (1 : Int32) &&& Int32.toUInt32 31)).toInt32) &&& (1431655765 : Int32))) >>> (Int32.toUInt32 (2 : Int32) &&& Int32.toUInt32 31)).toInt32) &&& (858993459 : Int32))) >>> (Int32.toUInt32 (4 : Int32) &&& Int32.toUInt32 31)).toInt32)) &&& (252645135 : Int32)) >>> (Int32.toUInt32 (8 : Int32) &&& Int32.toUInt32 31)).toInt32)) + ((Int32.toUInt32 ((((((x - (((Int32.toUInt32 x >>> (Int32.toUInt32 (1 : Int32) &&& Int32.toUInt32 31)).toInt32) &&& (1431655765 : Int32))) &&& (858993459 : Int32)) + (((Int32.toUInt32 (x - (((Int32.toUInt32 x >>> (Int32.toUInt32 (1 : Int32) &&& Int32.toUInt32 31)).toInt32) &&& (1431655765 : Int32))) >>> (Int32.toUInt32 (2 : Int32) &&& Int32.toUInt32 31)).toInt32) &&& (858993459 : Int32))) + ((Int32.toUInt32 (((x - (((Int32.toUInt32 x >>> (Int32.toUInt32 (1 : Int32) &&& Int32.toUInt32 31)).toInt32) &&& (1431655765 : Int32))) &&& (858993459 : Int32)) + (((Int32.toUInt32 (x - (((Int32.toUInt32 x >>> (Int32.toUInt32 (1 : Int32) &&& Int32.toUInt32 31)).toInt32) &&& (1431655765 : Int32))) >>> (Int32.toUInt32 (2 : Int32) &&& Int32.toUInt32 31)).toInt32) &&& (858993459 : Int32))) >>> (Int32.toUInt32 (4 : Int32) &&& Int32.toUInt32 31)).toInt32)) &&& (252645135 : Int32)) + ((Int32.toUInt32 (((((x - (((Int32.toUInt32 x >>> (Int32.toUInt32 (1 : Int32) &&& Int32.toUInt32 31)).toInt32) &&& (1431655765 : Int32))) &&& (858993459 : Int32)) + (((Int32.toUInt32 (x - (((Int32.toUInt32 x >>> (Int32.toUInt32 (1 : Int32) &&& Int32.toUInt32 31)).toInt32) &&& (1431655765 : Int32))) >>> (Int32.toUInt32 (2 : Int32) &&& Int32.toUInt32 31)).toInt32) &&& (858993459 : Int32))) + ((Int32.toUInt32 (((x - (((Int32.toUInt32 x >>> (Int32.toUInt32 (1 : Int32) &&& Int32.toUInt32 31)).toInt32) &&& (1431655765 : Int32))) &&& (858993459 : Int32)) + (((Int32.toUInt32 (x - (((Int32.toUInt32 x >>> (Int32.toUInt32 (1 : Int32) &&& Int32.toUInt32 31)).toInt32) &&& (1431655765 : Int32))) >>> (Int32.toUInt32 (2 : Int32) &&& Int32.toUInt32 31)).toInt32) &&& (858993459 : Int32))) >>> (Int32.toUInt32 (4 : Int32) &&& Int32.toUInt32 31)).toInt32)) &&& (252645135 : Int32)) >>> (Int32.toUInt32 (8 : Int32) &&& Int32.toUInt32 31)).toInt32)) >>> (Int32.toUInt32 (16 : Int32) &&& Int32.toUInt32 31)).toInt32)))]) C dJ6_bitCount_0f7a4_47 (by decide) rfl ?_
  refine q_iload_n (j := 0) C dJ6_bitCount_0f7a4_48 rfl ?_
  refine q_bipush (v := 63) C dJ6_bitCount_0f7a4_49 (by decide) ?_
  refine q_iand (v := ((((((((x - (((Int32.toUInt32 x >>> (Int32.toUInt32 (1 : Int32) &&& Int32.toUInt32 31)).toInt32) &&& (1431655765 : Int32))) &&& (858993459 : Int32)) + (((Int32.toUInt32 (x - (((Int32.toUInt32 x >>> (Int32.toUInt32 (1 : Int32) &&& Int32.toUInt32 31)).toInt32) &&& (1431655765 : Int32))) >>> (Int32.toUInt32 (2 : Int32) &&& Int32.toUInt32 31)).toInt32) &&& (858993459 : Int32))) + ((Int32.toUInt32 (((x - (((Int32.toUInt32 x >>> (Int32.toUInt32 (1 : Int32) &&& Int32.toUInt32 31)).toInt32) &&& (1431655765 : Int32))) &&& (858993459 : Int32)) + (((Int32.toUInt32 (x - (((Int32.toUInt32 x >>> (Int32.toUInt32 (1 : Int32) &&& Int32.toUInt32 31)).toInt32) &&& (1431655765 : Int32))) >>> (Int32.toUInt32 (2 : Int32) &&& Int32.toUInt32 31)).toInt32) &&& (858993459 : Int32))) >>> (Int32.toUInt32 (4 : Int32) &&& Int32.toUInt32 31)).toInt32)) &&& (252645135 : Int32)) + ((Int32.toUInt32 (((((x - (((Int32.toUInt32 x >>> (Int32.toUInt32 (1 : Int32) &&& Int32.toUInt32 31)).toInt32) &&& (1431655765 : Int32))) &&& (858993459 : Int32)) + (((Int32.toUInt32 (x - (((Int32.toUInt32 x >>> (Int32.toUInt32 (1 : Int32) &&& Int32.toUInt32 31)).toInt32) &&& (1431655765 : Int32))) >>> (Int32.toUInt32 (2 : Int32) &&& Int32.toUInt32 31)).toInt32) &&& (858993459 : Int32))) + ((Int32.toUInt32 (((x - (((Int32.toUInt32 x >>> (Int32.toUInt32 (1 : Int32) &&& Int32.toUInt32 31)).toInt32) &&& (1431655765 : Int32))) &&& (858993459 : Int32)) + (((Int32.toUInt32 (x - (((Int32.toUInt32 x >>> (Int32.toUInt32 (1 : Int32) &&& Int32.toUInt32 31)).toInt32) &&& (1431655765 : Int32))) >>> (Int32.toUInt32 (2 : Int32) &&& Int32.toUInt32 31)).toInt32) &&& (858993459 : Int32))) >>> (Int32.toUInt32 (4 : Int32) &&& Int32.toUInt32 31)).toInt32)) &&& (252645135 : Int32)) >>> (Int32.toUInt32 (8 : Int32) &&& Int32.toUInt32 31)).toInt32)) + ((Int32.toUInt32 ((((((x - (((Int32.toUInt32 x >>> (Int32.toUInt32 (1 : Int32) &&& Int32.toUInt32 31)).toInt32) &&& (1431655765 : Int32))) &&& (858993459 : Int32)) + (((Int32.toUInt32 (x - (((Int32.toUInt32 x >>> (Int32.toUInt32 (1 : Int32) &&& Int32.toUInt32 31)).toInt32) &&& (1431655765 : Int32))) >>> (Int32.toUInt32 (2 : Int32) &&& Int32.toUInt32 31)).toInt32) &&& (858993459 : Int32))) + ((Int32.toUInt32 (((x - (((Int32.toUInt32 x >>> (Int32.toUInt32 (1 : Int32) &&& Int32.toUInt32 31)).toInt32) &&& (1431655765 : Int32))) &&& (858993459 : Int32)) + (((Int32.toUInt32 (x - (((Int32.toUInt32 x >>> (Int32.toUInt32 (1 : Int32) &&& Int32.toUInt32 31)).toInt32) &&& (1431655765 : Int32))) >>> (Int32.toUInt32 (2 : Int32) &&& Int32.toUInt32 31)).toInt32) &&& (858993459 : Int32))) >>> (Int32.toUInt32 (4 : Int32) &&& Int32.toUInt32 31)).toInt32)) &&& (252645135 : Int32)) + ((Int32.toUInt32 (((((x - (((Int32.toUInt32 x >>> (Int32.toUInt32 (1 : Int32) &&& Int32.toUInt32 31)).toInt32) &&& (1431655765 : Int32))) &&& (858993459 : Int32)) + (((Int32.toUInt32 (x - (((Int32.toUInt32 x >>> (Int32.toUInt32 (1 : Int32) &&& Int32.toUInt32 31)).toInt32) &&& (1431655765 : Int32))) >>> (Int32.toUInt32 (2 : Int32) &&& Int32.toUInt32 31)).toInt32) &&& (858993459 : Int32))) + ((Int32.toUInt32 (((x - (((Int32.toUInt32 x >>> (Int32.toUInt32 (1 : Int32) &&& Int32.toUInt32 31)).toInt32) &&& (1431655765 : Int32))) &&& (858993459 : Int32)) + (((Int32.toUInt32 (x - (((Int32.toUInt32 x >>> (Int32.toUInt32 (1 : Int32) &&& Int32.toUInt32 31)).toInt32) &&& (1431655765 : Int32))) >>> (Int32.toUInt32 (2 : Int32) &&& Int32.toUInt32 31)).toInt32) &&& (858993459 : Int32))) >>> (Int32.toUInt32 (4 : Int32) &&& Int32.toUInt32 31)).toInt32)) &&& (252645135 : Int32)) >>> (Int32.toUInt32 (8 : Int32) &&& Int32.toUInt32 31)).toInt32)) >>> (Int32.toUInt32 (16 : Int32) &&& Int32.toUInt32 31)).toInt32)) &&& (63 : Int32))) C dJ6_bitCount_0f7a4_51 rfl ?_
  exact q_iret C dJ6_bitCount_0f7a4_52 rfl (Nat.le_of_ble_eq_true rfl) (Nat.le_of_ble_eq_true rfl) ⟨rfl, rfl, rfl⟩
set_option maxHeartbeats 4000000 in
set_option maxRecDepth 100000 in
theorem B_tell {l : Launch} {G : GT} {h0 : Nat} {ad ln : Nat → Nat} {v : Nat → Int} {a : Nat → Nat → Int}  {x : Int} (hB : BX v a) (hx : -2147483648 ≤ x ∧ x ≤ 2147483647) : Mm l G yX12_tell cX12_tell 2 (some .boolean) 0 [.int (iI x)] h0 ad ln v a 0 0 (fun r v2 a2 => ∃ f : Int, r = some (.int (iI f)) ∧ fr [52] [51] v a v2 a2 ∧ BX v2 a2 ∧ (f = 0 ∨ f = 1)) := by
  refine Mm.mk (by decide) (Nat.le_of_ble_eq_true rfl) ?_
  intro p e s m args below meth c A C
  have fp0 : fr [52] [51] v a v a := fr.refl
  refine m_aload_n (j := 0) C dX12_tell_0 rfl ?_
  have rv1 : 0 ≤ v 52 ∧ v 52 ≤ 4000 := hB.1 52
  refine m_get (k := 52) C dX12_tell_1 w6_111 (by decide) rfl ?_
  refine m_sipush (z := 4000) C dX12_tell_4 (by decide) ?_
  refine m_icmp_ne (tgt := 12) C (r32_c (lo := 0) (hi := 4000) rv1.1 rv1.2 (by decide) (by decide)) ⟨by decide, by decide⟩ dX12_tell_7 (by decide) (fun c1 => ?_) (fun c1 => ?_)
  · refine m_aload_n (j := 0) C dX12_tell_12 rfl ?_
    refine m_geta (k := 51) C dX12_tell_13 w6_110 (by decide) rfl ?_
    refine m_aload_n (j := 0) C dX12_tell_16 rfl ?_
    refine m_get (k := 52) C dX12_tell_17 w6_111 (by decide) rfl ?_
    refine m_iload_n (j := 1) C dX12_tell_20 rfl ?_
    refine m_ast (k := 51) C dX12_tell_21 rfl rfl (by decide) (by omega) (by show _ < ((_ : Nat) : Int); simp only [mlen]; omega) (by decide) ?_
    refine hv2 (show BX v (up2 a 51 (v 52).toNat x) from hB.set (k := 51) (i := (v 52).toNat) (z := x) (show (-2147483648) ≤ x ∧ x ≤ 2147483647 by omega)) (fp0.set (k := 51) (i := (v 52).toNat) (z := x) rfl) (fun bq1 fq1 => ?_)
    refine m_aload_n (j := 0) C dX12_tell_22 rfl ?_
    refine m_dup C dX12_tell_23 rfl ?_
    refine m_get (k := 52) C dX12_tell_24 w6_111 (by decide) rfl ?_
    refine m_iconst C dX12_tell_27 ?_
    refine m_iadd C dX12_tell_28 ?_
    refine m_put (k := 52) (z := (v 52) + 1) C dX12_tell_29 w6_111 (by decide) rfl rfl rfl ?_
    refine hv2 (show BX (va_up v 52 ((v 52) + 1)) (up2 a 51 (v 52).toNat x) from bq1.put (k := 52) (z := (v 52) + 1) (show 0 ≤ ((v 52) + 1) ∧ ((v 52) + 1) ≤ 4000 by omega)) (fq1.put (k := 52) (z := (v 52) + 1) rfl) (fun bq2 fq2 => ?_)
    refine m_iconst C dX12_tell_32 ?_
    exact m_zret C dX12_tell_33 rfl (Or.inr rfl) (Nat.le_of_ble_eq_true rfl) (Nat.le_of_ble_eq_true rfl) ⟨1, rfl, fq2, bq2, (by omega)⟩
  · refine m_iconst C dX12_tell_10 ?_
    exact m_zret C dX12_tell_11 rfl (Or.inl rfl) (Nat.le_of_ble_eq_true rfl) (Nat.le_of_ble_eq_true rfl) ⟨0, rfl, fp0, hB, (by omega)⟩
set_option maxHeartbeats 4000000 in
set_option maxRecDepth 100000 in
theorem B_putRow {l : Launch} {G : GT} {h0 : Nat} {ad ln : Nat → Nat} {v : Nat → Int} {a : Nat → Nat → Int}  {x y : Int} (hB : BX v a) (hx : -2147483648 ≤ x ∧ x ≤ 2147483647) (hy : -2147483648 ≤ y ∧ y ≤ 2147483647) (h50 : v 50 < 40200) : Mm l G yX12_putRow cX12_putRow 3 none 0 [.int (iI x), .int (iI y)] h0 ad ln v a 0 0 (fun r v2 a2 => r = none ∧ fr [50] [48, 49] v a v2 a2 ∧ BX v2 a2 ∧ (v2 50 = v 50 + 1)) := by
  refine Mm.mk (by decide) (Nat.le_of_ble_eq_true rfl) ?_
  intro p e s m args below meth c A C
  have fp0 : fr [50] [48, 49] v a v a := fr.refl
  refine m_aload_n (j := 0) C dX12_putRow_0 rfl ?_
  refine m_geta (k := 48) C dX12_putRow_1 w6_107 (by decide) rfl ?_
  refine m_aload_n (j := 0) C dX12_putRow_4 rfl ?_
  have rv1 : 0 ≤ v 50 ∧ v 50 ≤ 40200 := hB.1 50
  refine m_get (k := 50) C dX12_putRow_5 w6_109 (by decide) rfl ?_
  refine m_iload_n (j := 1) C dX12_putRow_8 rfl ?_
  refine m_ast (k := 48) C dX12_putRow_9 rfl rfl (by decide) (by omega) (by show _ < ((_ : Nat) : Int); simp only [mlen]; omega) (by decide) ?_
  refine hv2 (show BX v (up2 a 48 (v 50).toNat x) from hB.set (k := 48) (i := (v 50).toNat) (z := x) (show (-2147483648) ≤ x ∧ x ≤ 2147483647 by omega)) (fp0.set (k := 48) (i := (v 50).toNat) (z := x) rfl) (fun bq1 fq1 => ?_)
  refine m_aload_n (j := 0) C dX12_putRow_10 rfl ?_
  refine m_geta (k := 49) C dX12_putRow_11 w6_108 (by decide) rfl ?_
  refine m_aload_n (j := 0) C dX12_putRow_14 rfl ?_
  refine m_get (k := 50) C dX12_putRow_15 w6_109 (by decide) rfl ?_
  refine m_iload_n (j := 2) C dX12_putRow_18 rfl ?_
  refine m_ast (k := 49) C dX12_putRow_19 rfl rfl (by decide) (by omega) (by show _ < ((_ : Nat) : Int); simp only [mlen]; omega) (by decide) ?_
  refine hv2 (show BX v (up2 (up2 a 48 (v 50).toNat x) 49 (v 50).toNat y) from bq1.set (k := 49) (i := (v 50).toNat) (z := y) (show (-2147483648) ≤ y ∧ y ≤ 2147483647 by omega)) (fq1.set (k := 49) (i := (v 50).toNat) (z := y) rfl) (fun bq2 fq2 => ?_)
  refine m_aload_n (j := 0) C dX12_putRow_20 rfl ?_
  refine m_dup C dX12_putRow_21 rfl ?_
  refine m_get (k := 50) C dX12_putRow_22 w6_109 (by decide) rfl ?_
  refine m_iconst C dX12_putRow_25 ?_
  refine m_iadd C dX12_putRow_26 ?_
  refine m_put (k := 50) (z := (v 50) + 1) C dX12_putRow_27 w6_109 (by decide) rfl rfl rfl ?_
  refine hv2 (show BX (va_up v 50 ((v 50) + 1)) (up2 (up2 a 48 (v 50).toNat x) 49 (v 50).toNat y) from bq2.put (k := 50) (z := (v 50) + 1) (show 0 ≤ ((v 50) + 1) ∧ ((v 50) + 1) ≤ 40200 by omega)) (fq2.put (k := 50) (z := (v 50) + 1) rfl) (fun bq3 fq3 => ?_)
  exact m_vret C dX12_putRow_30 rfl (Nat.le_of_ble_eq_true rfl) (Nat.le_of_ble_eq_true rfl) ⟨rfl, fq3, bq3, rfl⟩
set_option maxHeartbeats 4000000 in
set_option maxRecDepth 100000 in
theorem B_hasHead {l : Launch} {G : GT} {h0 : Nat} {ad ln : Nat → Nat} {v : Nat → Int} {a : Nat → Nat → Int}  (hB : BX v a)  : Mm l G yX12_hasHead cX12_hasHead 1 (some .boolean) 0 [] h0 ad ln v a 0 0 (fun r v2 a2 => ∃ f : Int, r = some (.int (iI f)) ∧ fr [] [] v a v2 a2 ∧ BX v2 a2 ∧ (f = 0 ∨ (f = 1 ∧ 0 < v 41 ∧ 2 ≤ v 32))) := by
  refine Mm.mk (by decide) (Nat.le_of_ble_eq_true rfl) ?_
  intro p e s m args below meth c A C
  have fp0 : fr [] [] v a v a := fr.refl
  refine m_aload_n (j := 0) C dX12_hasHead_0 rfl ?_
  have rv1 : 0 ≤ v 41 ∧ v 41 ≤ 200 := hB.1 41
  refine m_get (k := 41) C dX12_hasHead_1 w6_100 (by decide) rfl ?_
  refine m_if_le (tgt := 19) C (r32_c (lo := 0) (hi := 200) rv1.1 rv1.2 (by decide) (by decide)) dX12_hasHead_4 (by decide) (fun c1 => ?_) (fun c1 => ?_)
  · refine m_iconst C dX12_hasHead_19 ?_
    exact m_zret C dX12_hasHead_20 rfl (Or.inl rfl) (Nat.le_of_ble_eq_true rfl) (Nat.le_of_ble_eq_true rfl) ⟨0, rfl, fp0, hB, (by omega)⟩
  · refine m_aload_n (j := 0) C dX12_hasHead_7 rfl ?_
    have rv2 : 1 ≤ v 32 ∧ v 32 ≤ 50 := hB.1 32
    refine m_get (k := 32) C dX12_hasHead_8 w6_91 (by decide) rfl ?_
    refine m_iconst C dX12_hasHead_11 ?_
    refine m_icmp_lt (tgt := 19) C (r32_c (lo := 1) (hi := 50) rv2.1 rv2.2 (by decide) (by decide)) ⟨by decide, by decide⟩ dX12_hasHead_12 (by decide) (fun c2 => ?_) (fun c2 => ?_)
    · refine m_iconst C dX12_hasHead_19 ?_
      exact m_zret C dX12_hasHead_20 rfl (Or.inl rfl) (Nat.le_of_ble_eq_true rfl) (Nat.le_of_ble_eq_true rfl) ⟨0, rfl, fp0, hB, (by omega)⟩
    · refine m_iconst C dX12_hasHead_15 ?_
      refine m_goto (tgt := 20) C dX12_hasHead_16 (by decide) ?_
      exact m_zret C dX12_hasHead_20 rfl (Or.inr rfl) (Nat.le_of_ble_eq_true rfl) (Nat.le_of_ble_eq_true rfl) ⟨1, rfl, fp0, hB, (by omega)⟩
set_option maxHeartbeats 4000000 in
set_option maxRecDepth 100000 in
theorem B_onPage {l : Launch} {G : GT} {h0 : Nat} {ad ln : Nat → Nat} {v : Nat → Int} {a : Nat → Nat → Int}  (hB : BX v a)  : Mm l G yX12_onPage cX12_onPage 1 (some .int) 1 [] h0 ad ln v a 0 0 (fun r v2 a2 => ∃ f : Int, r = some (.int (iI f)) ∧ fr [] [] v a v2 a2 ∧ BX v2 a2 ∧ (1 ≤ f ∧ f ≤ 50)) := by
  refine Mm.mk (by decide) (Nat.le_of_ble_eq_true rfl) ?_
  intro p e s m args below meth c A C
  have fp0 : fr [] [] v a v a := fr.refl
  refine m_aload_n (j := 0) C dX12_onPage_0 rfl ?_
  refine hv2 (show 0 ≤ v 41 ∧ v 41 ≤ 200 from hB.1 41) (show 1 ≤ v 32 ∧ v 32 ≤ 50 from hB.1 32) (fun rv1 rv2 => ?_)
  refine m_call (mc2 := 0) (ms2 := 0) (As := []) (rest := []) C (B_hasHead  hB ) dX12_onPage_1 kV_X12_288 rfl ck_13 rfl (Nat.le_of_ble_eq_true rfl) ⟨Nat.le_of_ble_eq_true rfl, Nat.le_of_ble_eq_true rfl⟩ ⟨Nat.le_of_ble_eq_true rfl, Nat.le_of_ble_eq_true rfl⟩ (fun rh1 vh1 ah1 h1 => ?_)
  obtain ⟨f1, rfl, fn1, bn1, ex1⟩ := h1
  obtain ⟨rfl, rfl⟩ := fn1.eq
  have gf1 : f1 = 0 ∨ (f1 = 1 ∧ 0 < (v 41) ∧ 2 ≤ (v 32)) := ex1
  refine m_st (st2 := [.int (iI f1)]) rfl ?_
  refine m_if_eq (tgt := 16) C (r32_0p gf1) dX12_onPage_4 (by decide) (fun c1 => ?_) (fun c1 => ?_)
  · clear gf1
    refine m_aload_n (j := 0) C dX12_onPage_16 rfl ?_
    refine m_get (k := 32) C dX12_onPage_17 w6_91 (by decide) rfl ?_
    exact m_iret C dX12_onPage_20 rfl (Nat.le_of_ble_eq_true rfl) (Nat.le_of_ble_eq_true rfl) ⟨(v 32), rfl, fp0, hB, (by omega)⟩
  · replace gf1 := (gf1.resolve_left c1)
    refine m_aload_n (j := 0) C dX12_onPage_7 rfl ?_
    refine m_get (k := 32) C dX12_onPage_8 w6_91 (by decide) rfl ?_
    refine m_iconst C dX12_onPage_11 ?_
    refine m_isub C dX12_onPage_12 ?_
    refine m_goto (tgt := 20) C dX12_onPage_13 (by decide) ?_
    exact m_iret C dX12_onPage_20 rfl (Nat.le_of_ble_eq_true rfl) (Nat.le_of_ble_eq_true rfl) ⟨((v 32) - 1), rfl, fp0, hB, (by omega)⟩
set_option maxHeartbeats 4000000 in
set_option maxRecDepth 100000 in
theorem M_pages {l : Launch} {G : GT} {h0 : Nat} {ad ln : Nat → Nat} {v : Nat → Int} {a : Nat → Nat → Int}  (hB : BX v a)  : Mm l G yX12_pages cX12_pages 1 (some .int) 2 [] h0 ad ln v a 0 0 (fun r v2 a2 => ∃ f : Int, r = some (.int (iI f)) ∧ fr [] [] v a v2 a2 ∧ BX v2 a2 ∧ (0 ≤ f ∧ f ≤ 249)) := by
  refine Mm.mk (by decide) (Nat.le_of_ble_eq_true rfl) ?_
  intro p e s m args below meth c A C
  have fp0 : fr [] [] v a v a := fr.refl
  refine m_aload_n (j := 0) C dX12_pages_0 rfl ?_
  have rv1 : 0 ≤ v 36 ∧ v 36 ≤ 200 := hB.1 36
  refine m_get (k := 36) C dX12_pages_1 w6_95 (by decide) rfl ?_
  refine m_aload_n (j := 0) C dX12_pages_4 rfl ?_
  refine m_call (mc2 := 0) (ms2 := 0) (As := []) (rest := [.int (iI (v 36))]) C (B_onPage  hB ) dX12_pages_5 kV_X12_291 rfl ck_13 rfl (Nat.le_of_ble_eq_true rfl) ⟨Nat.le_of_ble_eq_true rfl, Nat.le_of_ble_eq_true rfl⟩ ⟨Nat.le_of_ble_eq_true rfl, Nat.le_of_ble_eq_true rfl⟩ (fun rh1 vh1 ah1 h1 => ?_)
  obtain ⟨f1, rfl, fn1, bn1, ex1⟩ := h1
  obtain ⟨rfl, rfl⟩ := fn1.eq
  have gf1 : 1 ≤ f1 ∧ f1 ≤ 50 := ex1
  refine m_st (st2 := [.int (iI f1), .int (iI (v 36))]) rfl ?_
  refine m_iadd C dX12_pages_8 ?_
  refine m_iconst C dX12_pages_9 ?_
  refine m_isub C dX12_pages_10 ?_
  refine m_aload_n (j := 0) C dX12_pages_11 rfl ?_
  refine m_call (mc2 := 0) (ms2 := 0) (As := []) (rest := [.int (iI (((v 36) + f1) - 1))]) C (B_onPage  hB ) dX12_pages_12 kV_X12_291 rfl ck_13 rfl (Nat.le_of_ble_eq_true rfl) ⟨Nat.le_of_ble_eq_true rfl, Nat.le_of_ble_eq_true rfl⟩ ⟨Nat.le_of_ble_eq_true rfl, Nat.le_of_ble_eq_true rfl⟩ (fun rh2 vh2 ah2 h2 => ?_)
  obtain ⟨f2, rfl, fn2, bn2, ex2⟩ := h2
  obtain ⟨rfl, rfl⟩ := fn2.eq
  have gf2 : 1 ≤ f2 ∧ f2 ≤ 50 := ex2
  refine m_st (st2 := [.int (iI f2), .int (iI (((v 36) + f1) - 1))]) rfl ?_
  obtain ⟨dq1, hdq1⟩ : ∃ q : Int, q = (((v 36) + f1) - 1) / f2 := ⟨_, rfl⟩
  have rdq1 := ediv_r (x := ((v 36) + f1) - 1) (y := f2) (by omega) (by omega)
  rw [← hdq1] at rdq1
  refine m_idiv (w := iI dq1) C dX12_pages_15 (iI_ne0 ⟨by omega, by omega⟩) (by rw [hdq1]; exact iI_div ⟨by omega, by omega⟩ ⟨by omega, by omega⟩) ?_
  exact m_iret C dX12_pages_16 rfl (Nat.le_of_ble_eq_true rfl) (Nat.le_of_ble_eq_true rfl) ⟨dq1, rfl, fp0, hB, (by omega)⟩
set_option maxHeartbeats 4000000 in
set_option maxRecDepth 100000 in
theorem B_cell {l : Launch} {G : GT} {h0 : Nat} {ad ln : Nat → Nat} {v : Nat → Int} {a : Nat → Nat → Int}  {l0 i : Int} (hB : BX v a) (hl0 : -2147483648 ≤ l0 ∧ l0 ≤ 2147483647) (hi : -2147483648 ≤ i ∧ i ≤ 2147483647) : Mm l G yX12_cell cX12_cell 3 (some .int) 2 [.int (iI l0), .int (iI i)] h0 ad ln v a 0 0 (fun r v2 a2 => ∃ f : Int, r = some (.int (iI f)) ∧ fr [0, 1] [] v a v2 a2 ∧ BX v2 a2 ∧ (True)) := by
  refine Mm.mk (by decide) (Nat.le_of_ble_eq_true rfl) ?_
  intro p e s m args below meth c A C
  have fp0 : fr [0, 1] [] v a v a := fr.refl
  refine m_aload_n (j := 0) C dX12_cell_0 rfl ?_
  refine m_iload_n (j := 1) C dX12_cell_1 rfl ?_
  have rv1 : 0 ≤ v 36 ∧ v 36 ≤ 200 := hB.1 36
  refine m_call (mc2 := 0) (ms2 := 0) (As := [.int (iI l0)]) (rest := []) C (M_lineFault (l0 := l0) hB.rg ⟨by omega, by omega⟩ ⟨hB.1 36, hB.2 34⟩) dX12_cell_2 kV_X12_294 rfl ck_13 rfl (Nat.le_of_ble_eq_true rfl) ⟨Nat.le_of_ble_eq_true rfl, Nat.le_of_ble_eq_true rfl⟩ ⟨Nat.le_of_ble_eq_true rfl, Nat.le_of_ble_eq_true rfl⟩ (fun rh1 vh1 ah1 h1 => ?_)
  obtain ⟨f1, rfl, hf1, rfl, rfl⟩ := h1
  refine hv2 (show (f1 = 2 ∧ ¬ (0 ≤ l0 ∧ l0 < (v 36))) ∨ (f1 = 1 ∧ 0 ≤ l0 ∧ l0 < (v 36) ∧ a 34 l0.toNat < 0) ∨ (f1 = 0 ∧ 0 ≤ l0 ∧ l0 < (v 36) ∧ 0 ≤ a 34 l0.toNat) from hf1) (show (-1) ≤ a 34 l0.toNat ∧ a 34 l0.toNat ≤ 200 from hB.2 34 (l0.toNat)) (fun gf1 ra1 => ?_)
  refine m_st (st2 := [.int (iI f1)]) rfl ?_
  refine m_if_le (tgt := 18) C ⟨by omega, by omega⟩ dX12_cell_5 (by decide) (fun c1 => ?_) (fun c1 => ?_)
  · refine m_iload_n (j := 2) C dX12_cell_18 rfl ?_
    refine m_iconst C dX12_cell_19 ?_
    refine m_aload_n (j := 0) C dX12_cell_20 rfl ?_
    refine m_geta (k := 34) C dX12_cell_21 w6_93 (by decide) rfl ?_
    refine m_iload_n (j := 1) C dX12_cell_24 rfl ?_
    refine m_ald (k := 34) C dX12_cell_25 rfl rfl (by decide) (by omega) (by show _ < ((_ : Nat) : Int); simp only [mlen]; omega) (by decide) ?_
    refine m_iconst C dX12_cell_26 ?_
    refine m_isub C dX12_cell_27 ?_
    refine m_callS (As := [.int (iI i), .int (iI 0), .int (iI ((a 34 l0.toNat) - 1))]) (rest := []) C (fun L E => s_isIn (iI i) (iI 0) (iI ((a 34 l0.toNat) - 1))) dX12_cell_28 kS_X12_174 rfl rfl (Nat.le_of_ble_eq_true rfl) ⟨Nat.le_of_ble_eq_true rfl, Nat.le_of_ble_eq_true rfl⟩ ⟨Nat.le_of_ble_eq_true rfl, Nat.le_of_ble_eq_true rfl⟩ ?_
    rcases inn_c (x := i) (lo := 0) (hi := (a 34 l0.toNat) - 1) ⟨by omega, by omega⟩ ⟨by decide, by decide⟩ ⟨by omega, by omega⟩ with ⟨h2a, h2b, h2e⟩ | ⟨h2a, h2e⟩
    · refine m_st (st2 := [.int (iI 1)]) (by rw [h2e]) ?_
      refine m_if_eq (tgt := 53) C ⟨by decide, by decide⟩ dX12_cell_31 (by decide) (fun z => absurd z (by omega)) (fun _ => ?_)
      refine m_aload_n (j := 0) C dX12_cell_34 rfl ?_
      refine m_aload_n (j := 0) C dX12_cell_35 rfl ?_
      refine m_geta (k := 35) C dX12_cell_36 w6_94 (by decide) rfl ?_
      refine m_sipush (z := 200) C dX12_cell_39 (by decide) ?_
      refine m_iload_n (j := 1) C dX12_cell_42 rfl ?_
      refine m_imul C dX12_cell_43 ?_
      refine m_iload_n (j := 2) C dX12_cell_44 rfl ?_
      refine m_iadd C dX12_cell_45 ?_
      refine m_ald (k := 35) C dX12_cell_46 rfl rfl (by decide) (by omega) (by show _ < ((_ : Nat) : Int); simp only [mlen]; omega) (by decide) ?_
      have ra2 : (-2147483648) ≤ a 35 ((200 * l0) + i).toNat ∧ a 35 ((200 * l0) + i).toNat ≤ 2147483647 := hB.2 35 (((200 * l0) + i).toNat)
      refine m_call (mc2 := 0) (ms2 := 0) (As := [.int (iI (a 35 ((200 * l0) + i).toNat))]) (rest := []) C (B_fine (x := a 35 ((200 * l0) + i).toNat) hB (by show -2147483648 ≤ (a 35 ((200 * l0) + i).toNat) ∧ (a 35 ((200 * l0) + i).toNat) ≤ 2147483647; omega)) dX12_cell_47 kV_X12_158 rfl ck_13 rfl (Nat.le_of_ble_eq_true rfl) ⟨Nat.le_of_ble_eq_true rfl, Nat.le_of_ble_eq_true rfl⟩ ⟨Nat.le_of_ble_eq_true rfl, Nat.le_of_ble_eq_true rfl⟩ (fun rh3 vh3 ah3 h3 => ?_)
      obtain ⟨f2, rfl, fn1, bn1, ex1⟩ := h3
      refine hv2 (fp0.call fn1 rfl rfl) (show f2 = (a 35 ((200 * l0) + i).toNat) from ex1) (fun fq1 gf2 => ?_)
      refine m_st (st2 := [.int (iI f2)]) rfl ?_
      refine m_goto (tgt := 58) C dX12_cell_50 (by decide) ?_
      exact m_iret C dX12_cell_58 rfl (Nat.le_of_ble_eq_true rfl) (Nat.le_of_ble_eq_true rfl) ⟨f2, rfl, fq1, bn1, trivial⟩
    · refine m_st (st2 := [.int (iI 0)]) (by rw [h2e]) ?_
      refine m_if_eq (tgt := 53) C ⟨by decide, by decide⟩ dX12_cell_31 (by decide) (fun _ => ?_) (fun z => absurd z (by omega))
      refine m_aload_n (j := 0) C dX12_cell_53 rfl ?_
      refine m_iconst C dX12_cell_54 ?_
      refine m_call (mc2 := 0) (ms2 := 0) (As := [.int (iI 2)]) (rest := []) C (B_bad (x := 2) hB (by show -2147483648 ≤ (2 : Int) ∧ (2 : Int) ≤ 2147483647; omega)) dX12_cell_55 kV_X12_154 rfl ck_13 rfl (Nat.le_of_ble_eq_true rfl) ⟨Nat.le_of_ble_eq_true rfl, Nat.le_of_ble_eq_true rfl⟩ ⟨Nat.le_of_ble_eq_true rfl, Nat.le_of_ble_eq_true rfl⟩ (fun rh4 vh4 ah4 h4 => ?_)
      obtain ⟨f3, rfl, fn2, bn2, ex2⟩ := h4
      refine hv2 (fp0.call fn2 rfl rfl) (show f3 = -1 from ex2) (fun fq2 gf3 => ?_)
      refine m_st (st2 := [.int (iI f3)]) rfl ?_
      exact m_iret C dX12_cell_58 rfl (Nat.le_of_ble_eq_true rfl) (Nat.le_of_ble_eq_true rfl) ⟨f3, rfl, fq2, bn2, trivial⟩
  · refine m_aload_n (j := 0) C dX12_cell_8 rfl ?_
    refine m_aload_n (j := 0) C dX12_cell_9 rfl ?_
    refine m_iload_n (j := 1) C dX12_cell_10 rfl ?_
    refine m_call (mc2 := 0) (ms2 := 0) (As := [.int (iI l0)]) (rest := [.ref h0]) C (M_lineFault (l0 := l0) hB.rg ⟨by omega, by omega⟩ ⟨hB.1 36, hB.2 34⟩) dX12_cell_11 kV_X12_294 rfl ck_13 rfl (Nat.le_of_ble_eq_true rfl) ⟨Nat.le_of_ble_eq_true rfl, Nat.le_of_ble_eq_true rfl⟩ ⟨Nat.le_of_ble_eq_true rfl, Nat.le_of_ble_eq_true rfl⟩ (fun rh5 vh5 ah5 h5 => ?_)
    obtain ⟨f4, rfl, hf4, rfl, rfl⟩ := h5
    have gf4 : (f4 = 2 ∧ ¬ (0 ≤ l0 ∧ l0 < (v 36))) ∨ (f4 = 1 ∧ 0 ≤ l0 ∧ l0 < (v 36) ∧ a 34 l0.toNat < 0) ∨ (f4 = 0 ∧ 0 ≤ l0 ∧ l0 < (v 36) ∧ 0 ≤ a 34 l0.toNat) := hf4
    refine m_st (st2 := [.int (iI f4), .ref h0]) rfl ?_
    refine m_call (mc2 := 0) (ms2 := 0) (As := [.int (iI f4)]) (rest := []) C (B_bad (x := f4) hB (by show -2147483648 ≤ f4 ∧ f4 ≤ 2147483647; omega)) dX12_cell_14 kV_X12_154 rfl ck_13 rfl (Nat.le_of_ble_eq_true rfl) ⟨Nat.le_of_ble_eq_true rfl, Nat.le_of_ble_eq_true rfl⟩ ⟨Nat.le_of_ble_eq_true rfl, Nat.le_of_ble_eq_true rfl⟩ (fun rh6 vh6 ah6 h6 => ?_)
    obtain ⟨f5, rfl, fn3, bn3, ex3⟩ := h6
    refine hv2 (fp0.call fn3 rfl rfl) (show f5 = -1 from ex3) (fun fq3 gf5 => ?_)
    refine m_st (st2 := [.int (iI f5)]) rfl ?_
    exact m_iret C dX12_cell_17 rfl (Nat.le_of_ble_eq_true rfl) (Nat.le_of_ble_eq_true rfl) ⟨f5, rfl, fq3, bn3, trivial⟩
end
section
theorem up2_ne {a : Nat → Nat → Int} {k i : Nat} {z : Int} {k2 j : Nat} (h : k2 ≠ k ∨ j ≠ i) : up2 a k i z k2 j = a k2 j := by
  by_cases e : k2 = k
  · subst e; exact up2_j (h.resolve_left (fun q => q rfl))
  · exact up2_k e
def RW1 (a : Nat → Nat → Int) (q : Int) : Prop := (0 ≤ a 47 q.toNat ∧ a 47 q.toNat ≤ 6008) ∧ ∀ r : Int, 6008 * q ≤ r → r < 6008 * q + a 47 q.toNat → RowOK a r
def RWS (a : Nat → Nat → Int) : Prop := ∀ q : Int, (q = 0 ∨ q = 1) → RW1 a q
theorem RWS.of {a a2 : Nat → Nat → Int} (h : RWS a) (h4 : a2 44 = a 44) (h5 : a2 45 = a 45) (h6 : a2 46 = a 46) (h7 : a2 47 = a 47) : RWS a2 := by
  intro q hq
  have := h q hq
  unfold RW1 RowOK at this ⊢
  rw [h4, h5, h6, h7]; exact this
theorem RWS.set {a : Nat → Nat → Int} (h : RWS a) {k i : Nat} {z : Int} (hk : ([44, 45, 46, 47] : List Nat).contains k = false) : RWS (up2 a k i z) := by
  have g : ∀ j, ([44, 45, 46, 47] : List Nat).contains j = true → up2 a k i z j = a j := fun j hj => funext fun q => up2_k (fun e => by rw [e, hk] at hj; cases hj)
  exact h.of (g 44 rfl) (g 45 rfl) (g 46 rfl) (g 47 rfl)
theorem RWS.fr {V A : List Nat} {v v2 : Nat → Int} {a a2 : Nat → Nat → Int} (h : RWS a) (f : fr V A v a v2 a2) (hk : ([44, 45, 46, 47] : List Nat).all (fun j => !A.contains j) = true) : RWS a2 := by
  have g : ∀ j, j ∈ ([44, 45, 46, 47] : List Nat) → a2 j = a j := fun j hj => f.2 j (by have := List.all_eq_true.mp hk j hj; simpa using this)
  exact h.of (g 44 (by decide)) (g 45 (by decide)) (g 46 (by decide)) (g 47 (by decide))
theorem RWS.zero {a : Nat → Nat → Int} (h : RWS a) {q : Int} (hq : q = 0 ∨ q = 1) : RWS (up2 a 47 q.toNat 0) := by
  intro q2 h2
  by_cases e : q2 = q
  · subst e
    refine ⟨by rw [up2_s]; exact ⟨Int.le_refl _, by decide⟩, fun r h3 h4 => ?_⟩
    rw [up2_s] at h4; omega
  · have hn : q2.toNat ≠ q.toNat := by omega
    have g := h q2 h2
    unfold RW1 RowOK at g ⊢
    rw [up2_j hn, show up2 a 47 q.toNat 0 44 = a 44 from funext fun _ => up2_k (by decide), show up2 a 47 q.toNat 0 45 = a 45 from funext fun _ => up2_k (by decide), show up2 a 47 q.toNat 0 46 = a 46 from funext fun _ => up2_k (by decide)]
    exact g
theorem RWS.add {a : Nat → Nat → Int} (h : RWS a) {q x y z r : Int} (hq : q = 0 ∨ q = 1) (hn : a 47 q.toNat < 6008) (hr : r = 6008 * q + a 47 q.toNat) (hx : -4 ≤ x ∧ x < 6000) (hz : 1 ≤ z ∧ z ≤ 4) (hy : 0 ≤ y) (h1 : 0 ≤ x → y + z ≤ 24000) (h2 : x < 0 → y + z ≤ 480) : RWS (up2 (up2 (up2 (up2 a 44 r.toNat x) 45 r.toNat y) 46 r.toNat z) 47 q.toNat (a 47 q.toNat + 1)) := by
  intro q2 hq2
  refine hv2 (h q hq) (h q2 hq2) (fun g g2 => ?_)
  unfold RW1 at g g2
  have k47 : ∀ j, up2 (up2 (up2 (up2 a 44 r.toNat x) 45 r.toNat y) 46 r.toNat z) 47 q.toNat (a 47 q.toNat + 1) 47 j = if j = q.toNat then a 47 q.toNat + 1 else a 47 j := by
    intro j
    by_cases e : j = q.toNat
    · subst e; rw [up2_s, if_pos rfl]
    · rw [up2_ne (Or.inr e), if_neg e, up2_ne (Or.inl (by decide)), up2_ne (Or.inl (by decide)), up2_ne (Or.inl (by decide))]
  have k44 : ∀ j, up2 (up2 (up2 (up2 a 44 r.toNat x) 45 r.toNat y) 46 r.toNat z) 47 q.toNat (a 47 q.toNat + 1) 44 j = if j = r.toNat then x else a 44 j := by
    intro j
    rw [up2_ne (Or.inl (by decide)), up2_ne (Or.inl (by decide)), up2_ne (Or.inl (by decide))]
    by_cases e : j = r.toNat
    · subst e; rw [up2_s, if_pos rfl]
    · rw [up2_ne (Or.inr e), if_neg e]
  have k45 : ∀ j, up2 (up2 (up2 (up2 a 44 r.toNat x) 45 r.toNat y) 46 r.toNat z) 47 q.toNat (a 47 q.toNat + 1) 45 j = if j = r.toNat then y else a 45 j := by
    intro j
    rw [up2_ne (Or.inl (by decide)), up2_ne (Or.inl (by decide))]
    by_cases e : j = r.toNat
    · subst e; rw [up2_s, if_pos rfl]
    · rw [up2_ne (Or.inr e), if_neg e, up2_ne (Or.inl (by decide))]
  have k46 : ∀ j, up2 (up2 (up2 (up2 a 44 r.toNat x) 45 r.toNat y) 46 r.toNat z) 47 q.toNat (a 47 q.toNat + 1) 46 j = if j = r.toNat then z else a 46 j := by
    intro j
    rw [up2_ne (Or.inl (by decide))]
    by_cases e : j = r.toNat
    · subst e; rw [up2_s, if_pos rfl]
    · rw [up2_ne (Or.inr e), if_neg e, up2_ne (Or.inl (by decide)), up2_ne (Or.inl (by decide))]
  unfold RW1
  rw [k47]
  have key : ∀ t : Int, 6008 * q2 ≤ t → t < 6008 * q2 + (if q2.toNat = q.toNat then a 47 q.toNat + 1 else a 47 q2.toNat) → t = r ∨ RowOK a t := by
    intro t ht1 ht2
    by_cases e : q2 = q
    · subst e
      rw [if_pos rfl] at ht2
      by_cases e2 : t = r
      · exact Or.inl e2
      · exact Or.inr (g.2 t ht1 (by omega))
    · rw [if_neg (by omega)] at ht2
      exact Or.inr (g2.2 t ht1 ht2)
  refine ⟨?_, fun t ht1 ht2 => ?_⟩
  · split <;> omega
  · unfold RowOK
    rw [k44, k45, k46]
    by_cases e : t = r
    · subst e
      rw [if_pos rfl, if_pos rfl, if_pos rfl]
      exact ⟨⟨by omega, by omega⟩, hx, hz, hy, h1, h2⟩
    · have g3 := (key t ht1 ht2).resolve_left e
      have hne : ¬ t.toNat = r.toNat := by
        have := g3.1
        omega
      rw [if_neg hne, if_neg hne, if_neg hne]
      exact g3
set_option maxHeartbeats 4000000 in
set_option maxRecDepth 100000 in
theorem B_addRow {l : Launch} {G : GT} {h0 : Nat} {ad ln : Nat → Nat} {v : Nat → Int} {a : Nat → Nat → Int}  {q x y z : Int} (hB : BX v a) (hW : RWS a) (hq : q = 0 ∨ q = 1) (h47 : a 47 q.toNat < 6008) (hx : -4 ≤ x ∧ x < 6000) (hz : 1 ≤ z ∧ z ≤ 4) (hy : 0 ≤ y) (h1 : 0 ≤ x → y + z ≤ 24000) (h2 : x < 0 → y + z ≤ 480) : Mm l G yX12_addRow cX12_addRow 6 none 0 [.int (iI q), .int (iI x), .int (iI y), .int (iI z)] h0 ad ln v a 0 0 (fun r v2 a2 => r = none ∧ fr [] [44, 45, 46, 47] v a v2 a2 ∧ BX v2 a2 ∧ (RWS a2 ∧ a2 47 q.toNat = a 47 q.toNat + 1)) := by
  refine Mm.mk (by decide) (Nat.le_of_ble_eq_true rfl) ?_
  intro p e s m args below meth c A C
  refine hv2 (show 0 ≤ a 47 q.toNat ∧ a 47 q.toNat ≤ 6008 from hB.2 47 _) (show fr [] [44, 45, 46, 47] v a v a from fr.refl) (fun r47 fp0 => ?_)
  refine m_sipush (z := 6008) C dX12_addRow_0 (by decide) ?_
  refine m_iload_n (j := 1) C dX12_addRow_3 rfl ?_
  refine m_imul C dX12_addRow_4 ?_
  refine m_aload_n (j := 0) C dX12_addRow_5 rfl ?_
  refine m_geta (k := 47) C dX12_addRow_6 w6_106 (by decide) rfl ?_
  refine m_iload_n (j := 1) C dX12_addRow_9 rfl ?_
  refine m_ald (k := 47) C dX12_addRow_10 rfl rfl (by decide) (by omega) (by show _ < ((_ : Nat) : Int); simp only [mlen]; omega) (by decide) ?_
  have ra1 : 0 ≤ a 47 q.toNat ∧ a 47 q.toNat ≤ 6008 := hB.2 47 (q.toNat)
  refine m_iadd C dX12_addRow_11 ?_
  refine m_istore (lv2 := [(5, .int (iI ((6008 * q) + (a 47 q.toNat)))), (0, .ref h0), (1, .int (iI q)), (2, .int (iI x)), (3, .int (iI y)), (4, .int (iI z))]) C dX12_addRow_12 (by decide) rfl ?_
  refine m_aload_n (j := 1) C dX12_addRow_14 rfl ?_
  refine m_geta (k := 44) C dX12_addRow_15 w6_103 (by decide) rfl ?_
  refine m_iload (j := 0) C dX12_addRow_18 rfl ?_
  refine m_iload_n (j := 3) C dX12_addRow_20 rfl ?_
  refine m_ast (k := 44) C dX12_addRow_21 rfl rfl (by decide) (by omega) (by show _ < ((_ : Nat) : Int); simp only [mlen]; omega) (by decide) ?_
  refine hv2 (show BX v (up2 a 44 ((6008 * q) + (a 47 q.toNat)).toNat x) from hB.set (k := 44) (i := ((6008 * q) + (a 47 q.toNat)).toNat) (z := x) (show (-4) ≤ x ∧ x ≤ 5999 by omega)) (fp0.set (k := 44) (i := ((6008 * q) + (a 47 q.toNat)).toNat) (z := x) rfl) (fun bq1 fq1 => ?_)
  refine m_aload_n (j := 1) C dX12_addRow_22 rfl ?_
  refine m_geta (k := 45) C dX12_addRow_23 w6_104 (by decide) rfl ?_
  refine m_iload (j := 0) C dX12_addRow_26 rfl ?_
  refine m_iload_n (j := 4) C dX12_addRow_28 rfl ?_
  refine m_ast (k := 45) C dX12_addRow_29 rfl rfl (by decide) (by omega) (by show _ < ((_ : Nat) : Int); simp only [mlen]; omega) (by decide) ?_
  refine hv2 (show BX v (up2 (up2 a 44 ((6008 * q) + (a 47 q.toNat)).toNat x) 45 ((6008 * q) + (a 47 q.toNat)).toNat y) from bq1.set (k := 45) (i := ((6008 * q) + (a 47 q.toNat)).toNat) (z := y) (show 0 ≤ y ∧ y ≤ 23999 by omega)) (fq1.set (k := 45) (i := ((6008 * q) + (a 47 q.toNat)).toNat) (z := y) rfl) (fun bq2 fq2 => ?_)
  refine m_aload_n (j := 1) C dX12_addRow_30 rfl ?_
  refine m_geta (k := 46) C dX12_addRow_31 w6_105 (by decide) rfl ?_
  refine m_iload (j := 0) C dX12_addRow_34 rfl ?_
  refine m_iload (j := 5) C dX12_addRow_36 rfl ?_
  refine m_ast (k := 46) C dX12_addRow_38 rfl rfl (by decide) (by omega) (by show _ < ((_ : Nat) : Int); simp only [mlen]; omega) (by decide) ?_
  refine hv2 (show BX v (up2 (up2 (up2 a 44 ((6008 * q) + (a 47 q.toNat)).toNat x) 45 ((6008 * q) + (a 47 q.toNat)).toNat y) 46 ((6008 * q) + (a 47 q.toNat)).toNat z) from bq2.set (k := 46) (i := ((6008 * q) + (a 47 q.toNat)).toNat) (z := z) (show 0 ≤ z ∧ z ≤ 4 by omega)) (fq2.set (k := 46) (i := ((6008 * q) + (a 47 q.toNat)).toNat) (z := z) rfl) (fun bq3 fq3 => ?_)
  refine m_aload_n (j := 1) C dX12_addRow_39 rfl ?_
  refine m_geta (k := 47) C dX12_addRow_40 w6_106 (by decide) rfl ?_
  refine m_iload_n (j := 2) C dX12_addRow_43 rfl ?_
  refine m_dup2 C dX12_addRow_44 rfl rfl ?_
  refine m_ald (k := 47) C dX12_addRow_45 rfl rfl (by decide) (by omega) (by show _ < ((_ : Nat) : Int); simp only [mlen]; omega) (by decide) ?_
  refine m_st (st2 := [.int (iI (a 47 q.toNat)), .int (iI q), .ref (ad 47)]) rfl ?_
  refine m_iconst C dX12_addRow_46 ?_
  refine m_iadd C dX12_addRow_47 ?_
  refine m_ast (k := 47) C dX12_addRow_48 rfl rfl (by decide) (by omega) (by show _ < ((_ : Nat) : Int); simp only [mlen]; omega) (by decide) ?_
  refine hv2 (show BX v (up2 (up2 (up2 (up2 a 44 ((6008 * q) + (a 47 q.toNat)).toNat x) 45 ((6008 * q) + (a 47 q.toNat)).toNat y) 46 ((6008 * q) + (a 47 q.toNat)).toNat z) 47 q.toNat ((a 47 q.toNat) + 1)) from bq3.set (k := 47) (i := q.toNat) (z := (a 47 q.toNat) + 1) (show 0 ≤ ((a 47 q.toNat) + 1) ∧ ((a 47 q.toNat) + 1) ≤ 6008 by omega)) (fq3.set (k := 47) (i := q.toNat) (z := (a 47 q.toNat) + 1) rfl) (fun bq4 fq4 => ?_)
  exact m_vret C dX12_addRow_49 rfl (Nat.le_of_ble_eq_true rfl) (Nat.le_of_ble_eq_true rfl) ⟨rfl, fq4, bq4, ⟨hW.add (r := 6008 * q + a 47 q.toNat) hq h47 rfl hx hz hy h1 h2, up2_s⟩⟩
set_option maxHeartbeats 4000000 in
set_option maxRecDepth 100000 in
theorem M_addIndicator {l : Launch} {G : GT} {h0 : Nat} {ad ln : Nat → Nat} {v : Nat → Int} {a : Nat → Nat → Int}  {q t w1 : Int} (hB : BX v a) (hW : RWS a) (hq : q = 0 ∨ q = 1) (ht : 0 ≤ t ∧ t < 30) (hw : 0 ≤ w1 ∧ w1 ≤ 3) (h47 : a 47 q.toNat < 6008) : Mm l G yX12_addIndicator cX12_addIndicator 5 none 1 [.int (iI q), .int (iI t), .int (iI w1)] h0 ad ln v a 0 0 (fun r v2 a2 => r = none ∧ fr [] [44, 45, 46, 47] v a v2 a2 ∧ BX v2 a2 ∧ (RWS a2 ∧ a2 47 q.toNat ≤ a 47 q.toNat + 1)) := by
  refine Mm.mk (by decide) (Nat.le_of_ble_eq_true rfl) ?_
  intro p e s m args below meth c A C
  have fp0 : fr [] [44, 45, 46, 47] v a v a := fr.refl
  refine m_iconst C dX12_addIndicator_0 ?_
  refine m_iload_n (j := 2) C dX12_addIndicator_1 rfl ?_
  refine m_imul C dX12_addIndicator_2 ?_
  refine m_iload_n (j := 3) C dX12_addIndicator_3 rfl ?_
  refine m_iadd C dX12_addIndicator_4 ?_
  refine m_istore (lv2 := [(4, .int (iI ((4 * t) + w1))), (0, .ref h0), (1, .int (iI q)), (2, .int (iI t)), (3, .int (iI w1))]) C dX12_addIndicator_5 (by decide) rfl ?_
  refine m_aload_n (j := 1) C dX12_addIndicator_7 rfl ?_
  refine m_geta (k := 16) C dX12_addIndicator_8 w6_75 (by decide) rfl ?_
  refine m_iload (j := 0) C dX12_addIndicator_11 rfl ?_
  refine m_ald (k := 16) C dX12_addIndicator_13 rfl rfl (by decide) (by omega) (by show _ < ((_ : Nat) : Int); simp only [mlen]; omega) (by decide) ?_
  have ra1 : 0 ≤ a 16 ((4 * t) + w1).toNat ∧ a 16 ((4 * t) + w1).toNat ≤ 4 := hB.2 16 (((4 * t) + w1).toNat)
  refine m_if_le (tgt := 36) C (r32_c (lo := 0) (hi := 4) ra1.1 ra1.2 (by decide) (by decide)) dX12_addIndicator_14 (by decide) (fun c1 => ?_) (fun c1 => ?_)
  · have ra2 : 0 ≤ a 47 q.toNat ∧ a 47 q.toNat ≤ 6008 := hB.2 47 (q.toNat)
    exact m_vret C dX12_addIndicator_36 rfl (Nat.le_of_ble_eq_true rfl) (Nat.le_of_ble_eq_true rfl) ⟨rfl, fp0, hB, ⟨hW, (by show a 47 q.toNat ≤ a 47 q.toNat + 1; omega)⟩⟩
  · refine m_aload_n (j := 1) C dX12_addIndicator_17 rfl ?_
    refine m_iload_n (j := 2) C dX12_addIndicator_18 rfl ?_
    refine m_iconst C dX12_addIndicator_19 ?_
    refine m_iload_n (j := 4) C dX12_addIndicator_20 rfl ?_
    refine m_isub C dX12_addIndicator_21 ?_
    refine m_iconst C dX12_addIndicator_22 ?_
    refine m_iload (j := 0) C dX12_addIndicator_23 rfl ?_
    refine m_imul C dX12_addIndicator_25 ?_
    refine m_aload_n (j := 1) C dX12_addIndicator_26 rfl ?_
    refine m_geta (k := 16) C dX12_addIndicator_27 w6_75 (by decide) rfl ?_
    refine m_iload (j := 0) C dX12_addIndicator_30 rfl ?_
    refine m_ald (k := 16) C dX12_addIndicator_32 rfl rfl (by decide) (by omega) (by show _ < ((_ : Nat) : Int); simp only [mlen]; omega) (by decide) ?_
    have ra3 : 0 ≤ a 47 q.toNat ∧ a 47 q.toNat ≤ 6008 := hB.2 47 (q.toNat)
    refine m_call (mc2 := 0) (ms2 := 0) (As := [.int (iI q), .int (iI ((-1) - w1)), .int (iI (4 * ((4 * t) + w1))), .int (iI (a 16 ((4 * t) + w1).toNat))]) (rest := []) C (B_addRow (q := q) (x := (-1) - w1) (y := 4 * ((4 * t) + w1)) (z := a 16 ((4 * t) + w1).toNat) hB hW (by show q = 0 ∨ q = 1; omega) (by show a 47 q.toNat < 6008; omega) (by show -4 ≤ ((-1) - w1) ∧ ((-1) - w1) < 6000; omega) (by show 1 ≤ (a 16 ((4 * t) + w1).toNat) ∧ (a 16 ((4 * t) + w1).toNat) ≤ 4; omega) (by show 0 ≤ (4 * ((4 * t) + w1)); omega) (by show 0 ≤ ((-1) - w1) → (4 * ((4 * t) + w1)) + (a 16 ((4 * t) + w1).toNat) ≤ 24000; omega) (by show ((-1) - w1) < 0 → (4 * ((4 * t) + w1)) + (a 16 ((4 * t) + w1).toNat) ≤ 480; omega)) dX12_addIndicator_33 kV_X12_314 rfl ck_13 rfl (Nat.le_of_ble_eq_true rfl) ⟨Nat.le_of_ble_eq_true rfl, Nat.le_of_ble_eq_true rfl⟩ ⟨Nat.le_of_ble_eq_true rfl, Nat.le_of_ble_eq_true rfl⟩ (fun rh1 vh1 ah1 h1 => ?_)
    obtain ⟨rfl, fn1, bn1, ex1⟩ := h1
    have fq1 := fp0.call fn1 rfl rfl
    obtain ⟨pw1, ex1⟩ := ex1
    refine hv2 (show ah1 47 q.toNat = a 47 q.toNat + 1 from ex1) (show 0 ≤ ah1 47 q.toNat ∧ ah1 47 q.toNat ≤ 6008 from bn1.2 47 (q.toNat)) (fun gf1 ra4 => ?_)
    refine m_st (st2 := []) rfl ?_
    exact m_vret C dX12_addIndicator_36 rfl (Nat.le_of_ble_eq_true rfl) (Nat.le_of_ble_eq_true rfl) ⟨rfl, fq1, bn1, ⟨pw1, (by show ah1 47 q.toNat ≤ a 47 q.toNat + 1; omega)⟩⟩
set_option maxHeartbeats 4000000 in
set_option maxRecDepth 100000 in
theorem M_addRows {l : Launch} {G : GT} {h0 : Nat} {ad ln : Nat → Nat} {v : Nat → Int} {a : Nat → Nat → Int}  {q t : Int} (hB : BX v a) (hW : RWS a) (hT : TBL v a) (hq : q = 0 ∨ q = 1) (ht : 0 ≤ t ∧ t < v 4) (h6 : a 6 t.toNat ≤ 4) : Mm l G yX12_addRows cX12_addRows 5 none 2 [.int (iI q), .int (iI t)] h0 ad ln v a 0 0 (fun r v2 a2 => r = none ∧ fr [] [44, 45, 46, 47] v a v2 a2 ∧ BX v2 a2 ∧ (RWS a2 ∧ a2 47 q.toNat ≤ 6002)) := by
  refine Mm.mk (by decide) (Nat.le_of_ble_eq_true rfl) ?_
  intro p e s m args below meth c A C
  refine hv2 (show 0 ≤ v 4 ∧ v 4 ≤ 30 from hB.1 4) (show fr [] [44, 45, 46, 47] v a v a from fr.refl) (fun h30 fp0 => ?_)
  refine m_aload_n (j := 0) C dX12_addRows_0 rfl ?_
  refine m_geta (k := 47) C dX12_addRows_1 w6_106 (by decide) rfl ?_
  refine m_iload_n (j := 1) C dX12_addRows_4 rfl ?_
  refine m_iconst C dX12_addRows_5 ?_
  refine m_ast (k := 47) C dX12_addRows_6 rfl rfl (by decide) (by omega) (by show _ < ((_ : Nat) : Int); simp only [mlen]; omega) (by decide) ?_
  refine hv3 (show BX v (up2 a 47 q.toNat 0) from hB.set (k := 47) (i := q.toNat) (z := 0) ⟨by decide, by decide⟩) (fp0.set (k := 47) (i := q.toNat) (z := 0) rfl) (show (up2 a 47 q.toNat 0) 47 q.toNat = 0 from up2_s) (fun bq1 fq1 zpw1 => ?_)
  have pw1 : RWS (up2 a 47 q.toNat 0) := RWS.zero (q := q) hW (by omega)
  refine m_iload_n (j := 2) C dX12_addRows_7 rfl ?_
  refine m_istore_n (lv2 := [(3, .int (iI t)), (0, .ref h0), (1, .int (iI q)), (2, .int (iI t))]) C dX12_addRows_8 (by decide) rfl ?_
  have Lp1 : ∀ (nn : Nat) (b1 : Int) (vb2 : Nat → Int) (ab2 : Nat → Nat → Int), b1 + 1 < (nn : Int) → BX vb2 ab2 → fr [] [44, 45, 46, 47] v a vb2 ab2 → (-1 ≤ b1 ∧ b1 ≤ t) → (b1 = -1 ∨ a 6 b1.toNat ≤ 4) → (ab2 47 q.toNat + 200 * (b1 + 1) ≤ 6000) → (RWS ab2) → mw p l e (rmq 2 0 0) s m args below meth c G A 5 (MQ below (Qm G A (fun rq Lq Eq => ∃ (vq : Nat → Int) (aq : Nat → Nat → Int), mI G h0 ad ln vq aq Lq Eq ∧ (fun r v2 a2 => r = none ∧ fr [] [44, 45, 46, 47] v a v2 a2 ∧ BX v2 a2 ∧ (RWS a2 ∧ a2 47 q.toNat ≤ 6002)) rq vq aq)) args s 0 0 A) h0 ad ln vb2 ab2 0 0 9 [(3, .int (iI b1)), (0, .ref h0), (1, .int (iI q)), (2, .int (iI t))] [] := by
    intro nn
    induction nn with
    | zero =>
      intro b1 vb2 ab2 hm bxb2 fpb2 hb hb6 h47 hW1
      exact absurd hm (by omega)
    | succ nn ih1 =>
      intro b1 vb2 ab2 hm bxb2 fpb2 hb hb6 h47 hW1
      refine m_iload_n (j := 0) C dX12_addRows_9 rfl ?_
      refine m_if_lt (tgt := 71) C ⟨by omega, by omega⟩ dX12_addRows_10 (by decide) (fun c1 => ?_) (fun c1 => ?_)
      · refine m_aload_n (j := 1) C dX12_addRows_71 rfl ?_
        refine m_iload_n (j := 2) C dX12_addRows_72 rfl ?_
        refine m_iload_n (j := 3) C dX12_addRows_73 rfl ?_
        refine m_iconst C dX12_addRows_74 ?_
        have ra1 : 0 ≤ ab2 47 q.toNat ∧ ab2 47 q.toNat ≤ 6008 := bxb2.2 47 (q.toNat)
        refine m_call (mc2 := 0) (ms2 := 0) (As := [.int (iI q), .int (iI t), .int (iI 0)]) (rest := []) C (M_addIndicator (q := q) (t := t) (w1 := 0) bxb2 hW1 (by show q = 0 ∨ q = 1; omega) (by show 0 ≤ t ∧ t < 30; omega) (by show 0 ≤ (0 : Int) ∧ (0 : Int) ≤ 3; omega) (by show ab2 47 q.toNat < 6008; omega)) dX12_addRows_75 kV_X12_317 rfl ck_13 rfl (Nat.le_of_ble_eq_true rfl) ⟨Nat.le_of_ble_eq_true rfl, Nat.le_of_ble_eq_true rfl⟩ ⟨Nat.le_of_ble_eq_true rfl, Nat.le_of_ble_eq_true rfl⟩ (fun rh1 vh1 ah1 h1 => ?_)
        obtain ⟨rfl, fn1, bn1, ex1⟩ := h1
        have fq2 := fpb2.call fn1 rfl rfl
        obtain ⟨pw2, ex1⟩ := ex1
        refine hv2 (show ah1 47 q.toNat ≤ ab2 47 q.toNat + 1 from ex1) (show 0 ≤ ah1 47 q.toNat ∧ ah1 47 q.toNat ≤ 6008 from bn1.2 47 (q.toNat)) (fun gf1 ra2 => ?_)
        refine m_st (st2 := []) rfl ?_
        refine m_aload_n (j := 1) C dX12_addRows_78 rfl ?_
        refine m_iload_n (j := 2) C dX12_addRows_79 rfl ?_
        refine m_iload_n (j := 3) C dX12_addRows_80 rfl ?_
        refine m_iconst C dX12_addRows_81 ?_
        refine m_call (mc2 := 0) (ms2 := 0) (As := [.int (iI q), .int (iI t), .int (iI 1)]) (rest := []) C (M_addIndicator (q := q) (t := t) (w1 := 1) bn1 pw2 (by show q = 0 ∨ q = 1; omega) (by show 0 ≤ t ∧ t < 30; omega) (by show 0 ≤ (1 : Int) ∧ (1 : Int) ≤ 3; omega) (by show ah1 47 q.toNat < 6008; omega)) dX12_addRows_82 kV_X12_317 rfl ck_13 rfl (Nat.le_of_ble_eq_true rfl) ⟨Nat.le_of_ble_eq_true rfl, Nat.le_of_ble_eq_true rfl⟩ ⟨Nat.le_of_ble_eq_true rfl, Nat.le_of_ble_eq_true rfl⟩ (fun rh2 vh2 ah2 h2 => ?_)
        obtain ⟨rfl, fn2, bn2, ex2⟩ := h2
        have fq3 := fq2.call fn2 rfl rfl
        obtain ⟨pw3, ex2⟩ := ex2
        refine hv2 (show ah2 47 q.toNat ≤ ah1 47 q.toNat + 1 from ex2) (show 0 ≤ ah2 47 q.toNat ∧ ah2 47 q.toNat ≤ 6008 from bn2.2 47 (q.toNat)) (fun gf2 ra3 => ?_)
        refine m_st (st2 := []) rfl ?_
        exact m_vret C dX12_addRows_85 rfl (Nat.le_of_ble_eq_true rfl) (Nat.le_of_ble_eq_true rfl) ⟨rfl, fq3, bn2, ⟨pw3, (by show ah2 47 q.toNat ≤ 6002; omega)⟩⟩
      · have ht0 := hT.1 b1 (by omega) (by omega)
        have r10 : 0 ≤ a 10 b1.toNat ∧ a 10 b1.toNat ≤ 200 := hB.2 10 _
        have q6 : b1 = -1 ∨ True := Or.inr trivial
        refine m_sipush (z := 200) C dX12_addRows_13 (by decide) ?_
        refine m_iload_n (j := 0) C dX12_addRows_16 rfl ?_
        refine m_imul C dX12_addRows_17 ?_
        refine m_istore (lv2 := [(4, .int (iI (200 * b1))), (3, .int (iI b1)), (0, .ref h0), (1, .int (iI q)), (2, .int (iI t))]) C dX12_addRows_18 (by decide) rfl ?_
        have Lp2 : ∀ (nn : Nat) (r : Int) (vb3 : Nat → Int) (ab3 : Nat → Nat → Int), 200 * b1 + 200 - r < (nn : Int) → BX vb3 ab3 → fr [] [44, 45, 46, 47] v a vb3 ab3 → (200 * b1 ≤ r ∧ r ≤ 200 * b1 + a 10 b1.toNat) → (ab3 47 q.toNat + (200 * b1 + a 10 b1.toNat - r) + 200 * b1 ≤ 6000) → (RWS ab3) → mw p l e (rmq 2 0 0) s m args below meth c G A 5 (MQ below (Qm G A (fun rq Lq Eq => ∃ (vq : Nat → Int) (aq : Nat → Nat → Int), mI G h0 ad ln vq aq Lq Eq ∧ (fun r v2 a2 => r = none ∧ fr [] [44, 45, 46, 47] v a v2 a2 ∧ BX v2 a2 ∧ (RWS a2 ∧ a2 47 q.toNat ≤ 6002)) rq vq aq)) args s 0 0 A) h0 ad ln vb3 ab3 0 0 20 [(4, .int (iI r)), (3, .int (iI b1)), (0, .ref h0), (1, .int (iI q)), (2, .int (iI t))] [] := by
          intro nn
          induction nn with
          | zero =>
            intro r vb3 ab3 hm bxb3 fpb3 hr h472 hW2
            exact absurd hm (by omega)
          | succ nn ih2 =>
            intro r vb3 ab3 hm bxb3 fpb3 hr h472 hW2
            refine m_iload (j := 0) C dX12_addRows_20 rfl ?_
            refine m_sipush (z := 200) C dX12_addRows_22 (by decide) ?_
            refine m_iload_n (j := 1) C dX12_addRows_25 rfl ?_
            refine m_imul C dX12_addRows_26 ?_
            refine m_aload_n (j := 2) C dX12_addRows_27 rfl ?_
            refine m_geta (k := 10) C dX12_addRows_28 w6_69 (by decide) rfl ?_
            refine m_iload_n (j := 1) C dX12_addRows_31 rfl ?_
            refine m_ald (k := 10) C dX12_addRows_32 rfl rfl (by decide) (by omega) (by show _ < ((_ : Nat) : Int); simp only [mlen]; omega) (by decide) ?_
            refine hv2 (show 0 ≤ ab3 10 b1.toNat ∧ ab3 10 b1.toNat ≤ 200 from bxb3.2 10 (b1.toNat)) (show ab3 10 (b1.toNat) = a 10 (b1.toNat) from congrFun (fpb3.2 10 rfl) (b1.toNat)) (fun ra4 ae1 => ?_)
            refine m_st (st2 := [.int (iI (a 10 b1.toNat)), .int (iI (200 * b1)), .int (iI r)]) (congrArg (fun z => Value.int (iI z) :: [.int (iI (200 * b1)), .int (iI r)]) (congrFun (fpb3.2 10 rfl) (b1.toNat))) ?_
            refine m_iadd C dX12_addRows_33 ?_
            refine m_icmp_ge (tgt := 61) C ⟨by omega, by omega⟩ ⟨by omega, by omega⟩ dX12_addRows_34 (by decide) (fun c2 => ?_) (fun c2 => ?_)
            · refine m_aload_n (j := 2) C dX12_addRows_61 rfl ?_
              refine m_geta (k := 8) C dX12_addRows_62 w6_67 (by decide) rfl ?_
              refine m_iload_n (j := 1) C dX12_addRows_65 rfl ?_
              refine m_ald (k := 8) C dX12_addRows_66 rfl rfl (by decide) (by omega) (by show _ < ((_ : Nat) : Int); simp only [mlen]; omega) (by decide) ?_
              refine hv2 (show (-1) ≤ ab3 8 b1.toNat ∧ ab3 8 b1.toNat ≤ 29 from bxb3.2 8 (b1.toNat)) (show ab3 8 (b1.toNat) = a 8 (b1.toNat) from congrFun (fpb3.2 8 rfl) (b1.toNat)) (fun ra5 ae2 => ?_)
              refine m_st (st2 := [.int (iI (a 8 b1.toNat))]) (congrArg (fun z => Value.int (iI z) :: []) (congrFun (fpb3.2 8 rfl) (b1.toNat))) ?_
              refine m_istore_n (lv2 := [(3, .int (iI (a 8 b1.toNat))), (4, .int (iI r)), (0, .ref h0), (1, .int (iI q)), (2, .int (iI t))]) C dX12_addRows_67 (by decide) rfl ?_
              refine m_goto (tgt := 9) C dX12_addRows_68 (by decide) ?_
              have ra6 : 0 ≤ ab3 47 q.toNat ∧ ab3 47 q.toNat ≤ 6008 := bxb3.2 47 (q.toNat)
              refine m_lv (lv2 := [(3, .int (iI (a 8 b1.toNat))), (0, .ref h0), (1, .int (iI q)), (2, .int (iI t))]) [0, 2, 3, 4] rfl ?_
              exact ih1  (a 8 b1.toNat) _ _ (by omega) bxb3 fpb3 (by omega) (by omega) (by show (ab3 47 q.toNat) + 200 * ((a 8 b1.toNat) + 1) ≤ 6000; omega) hW2
            · refine m_aload_n (j := 2) C dX12_addRows_37 rfl ?_
              refine m_iload_n (j := 3) C dX12_addRows_38 rfl ?_
              refine m_iload (j := 0) C dX12_addRows_39 rfl ?_
              refine m_iconst C dX12_addRows_41 ?_
              refine m_iload (j := 0) C dX12_addRows_42 rfl ?_
              refine m_imul C dX12_addRows_44 ?_
              refine m_aload_n (j := 2) C dX12_addRows_45 rfl ?_
              refine m_geta (k := 13) C dX12_addRows_46 w6_72 (by decide) rfl ?_
              refine m_iload (j := 0) C dX12_addRows_49 rfl ?_
              refine m_ald (k := 13) C dX12_addRows_51 rfl rfl (by decide) (by omega) (by show _ < ((_ : Nat) : Int); simp only [mlen]; omega) (by decide) ?_
              refine hv2 (show 0 ≤ ab3 13 r.toNat ∧ ab3 13 r.toNat ≤ 4 from bxb3.2 13 (r.toNat)) (show ab3 13 (r.toNat) = a 13 (r.toNat) from congrFun (fpb3.2 13 rfl) (r.toNat)) (fun ra7 ae3 => ?_)
              refine m_st (st2 := [.int (iI (a 13 r.toNat)), .int (iI (4 * r)), .int (iI r), .int (iI q), .ref h0]) (congrArg (fun z => Value.int (iI z) :: [.int (iI (4 * r)), .int (iI r), .int (iI q), .ref h0]) (congrFun (fpb3.2 13 rfl) (r.toNat))) ?_
              refine hv2 ((hT.2 b1 r (by omega) (by omega) (by omega) (by omega)).2) (show 0 ≤ ab3 47 q.toNat ∧ ab3 47 q.toNat ≤ 6008 from bxb3.2 47 (q.toNat)) (fun hr0 ra8 => ?_)
              refine m_call (mc2 := 0) (ms2 := 0) (As := [.int (iI q), .int (iI r), .int (iI (4 * r)), .int (iI (a 13 r.toNat))]) (rest := []) C (B_addRow (q := q) (x := r) (y := 4 * r) (z := a 13 r.toNat) bxb3 hW2 (by show q = 0 ∨ q = 1; omega) (by show ab3 47 q.toNat < 6008; omega) (by show -4 ≤ r ∧ r < 6000; omega) (by show 1 ≤ (a 13 r.toNat) ∧ (a 13 r.toNat) ≤ 4; omega) (by show 0 ≤ (4 * r); omega) (by show 0 ≤ r → (4 * r) + (a 13 r.toNat) ≤ 24000; omega) (by show r < 0 → (4 * r) + (a 13 r.toNat) ≤ 480; omega)) dX12_addRows_52 kV_X12_314 rfl ck_13 rfl (Nat.le_of_ble_eq_true rfl) ⟨Nat.le_of_ble_eq_true rfl, Nat.le_of_ble_eq_true rfl⟩ ⟨Nat.le_of_ble_eq_true rfl, Nat.le_of_ble_eq_true rfl⟩ (fun rh3 vh3 ah3 h3 => ?_)
              obtain ⟨rfl, fn3, bn3, ex3⟩ := h3
              have fq4 := fpb3.call fn3 rfl rfl
              obtain ⟨pw4, ex3⟩ := ex3
              refine hv2 (show ah3 47 q.toNat = ab3 47 q.toNat + 1 from ex3) (show 0 ≤ ah3 47 q.toNat ∧ ah3 47 q.toNat ≤ 6008 from bn3.2 47 (q.toNat)) (fun gf3 ra9 => ?_)
              refine m_st (st2 := []) rfl ?_
              refine m_iinc (z := r) (j := 0) (lv2 := [(4, .int (iI (r + 1))), (3, .int (iI b1)), (0, .ref h0), (1, .int (iI q)), (2, .int (iI t))]) C dX12_addRows_55 rfl (by decide) rfl ?_
              refine m_goto (tgt := 20) C dX12_addRows_58 (by decide) ?_
              refine m_lv (lv2 := [(4, .int (iI (r + 1))), (3, .int (iI b1)), (0, .ref h0), (1, .int (iI q)), (2, .int (iI t))]) [0, 1, 2, 3, 4] rfl ?_
              exact ih2  (r + 1) _ _ (by omega) bn3 fq4 (by omega) (by show (ah3 47 q.toNat) + (200 * b1 + a 10 b1.toNat - (r + 1)) + 200 * b1 ≤ 6000; omega) pw4
        have ra10 : 0 ≤ ab2 47 q.toNat ∧ ab2 47 q.toNat ≤ 6008 := bxb2.2 47 (q.toNat)
        refine m_lv (lv2 := [(4, .int (iI (200 * b1))), (3, .int (iI b1)), (0, .ref h0), (1, .int (iI q)), (2, .int (iI t))]) [0, 1, 2, 3, 4] rfl ?_
        exact Lp2 202 (200 * b1) _ _ (by omega) bxb2 fpb2 (by omega) (by show (ab2 47 q.toNat) + (200 * b1 + a 10 b1.toNat - (200 * b1)) + 200 * b1 ≤ 6000; omega) hW1
  have ra11 : 0 ≤ (up2 a 47 q.toNat 0) 47 q.toNat ∧ (up2 a 47 q.toNat 0) 47 q.toNat ≤ 6008 := bq1.2 47 (q.toNat)
  refine m_lv (lv2 := [(3, .int (iI t)), (0, .ref h0), (1, .int (iI q)), (2, .int (iI t))]) [0, 1, 2, 3] rfl ?_
  exact Lp1 32 t _ _ (by omega) bq1 fq1 (by omega) (by omega) (by show ((up2 a 47 q.toNat 0) 47 q.toNat) + 200 * (t + 1) ≤ 6000; omega) pw1
set_option maxHeartbeats 4000000 in
set_option maxRecDepth 100000 in
theorem M_gather {l : Launch} {G : GT} {h0 : Nat} {ad ln : Nat → Nat} {v : Nat → Int} {a : Nat → Nat → Int}  {t : Int} (hB : BX v a) (hW : RWS a) (hT : TBL v a) (ht : 0 ≤ t ∧ t < v 4) : Mm l G yX12_gather cX12_gather 2 none 3 [.int (iI t)] h0 ad ln v a 0 0 (fun r v2 a2 => r = none ∧ fr [] [44, 45, 46, 47] v a v2 a2 ∧ BX v2 a2 ∧ (RWS a2)) := by
  refine Mm.mk (by decide) (Nat.le_of_ble_eq_true rfl) ?_
  intro p e s m args below meth c A C
  refine hv2 (show 0 ≤ v 4 ∧ v 4 ≤ 30 from hB.1 4) (show fr [] [44, 45, 46, 47] v a v a from fr.refl) (fun h30 fp0 => ?_)
  have ht0 := hT.1 t (by omega) (by omega)
  refine m_aload_n (j := 0) C dX12_gather_0 rfl ?_
  refine m_geta (k := 47) C dX12_gather_1 w6_106 (by decide) rfl ?_
  refine m_iconst C dX12_gather_4 ?_
  refine m_iconst C dX12_gather_5 ?_
  refine m_ast (k := 47) C dX12_gather_6 rfl rfl (by decide) (by decide) (by decide) (by decide) ?_
  refine hv3 (show BX v (up2 a 47 (1 : Int).toNat 0) from hB.set (k := 47) (i := (1 : Int).toNat) (z := 0) ⟨by decide, by decide⟩) (fp0.set (k := 47) (i := (1 : Int).toNat) (z := 0) rfl) (show (up2 a 47 (1 : Int).toNat 0) 47 (1 : Int).toNat = 0 from up2_s) (fun bq1 fq1 zpw1 => ?_)
  have pw1 : RWS (up2 a 47 (1 : Int).toNat 0) := RWS.zero (q := 1) hW (by omega)
  refine m_aload_n (j := 0) C dX12_gather_7 rfl ?_
  refine m_geta (k := 6) C dX12_gather_8 w6_65 (by decide) rfl ?_
  refine m_iload_n (j := 1) C dX12_gather_11 rfl ?_
  refine m_ald (k := 6) C dX12_gather_12 rfl rfl (by decide) (by omega) (by show _ < ((_ : Nat) : Int); simp only [mlen]; omega) (by decide) ?_
  have ra1 : 0 ≤ a 6 t.toNat ∧ a 6 t.toNat ≤ 5 := bq1.2 6 (t.toNat)
  refine m_st (st2 := [.int (iI (a 6 t.toNat))]) (congrArg (fun z => Value.int (iI z) :: []) (congrFun (fq1.2 6 rfl) (t.toNat))) ?_
  refine m_iconst C dX12_gather_13 ?_
  refine m_icmp_eq (tgt := 24) C (r32_c (lo := 0) (hi := 5) ra1.1 ra1.2 (by decide) (by decide)) ⟨by decide, by decide⟩ dX12_gather_14 (by decide) (fun c1 => ?_) (fun c1 => ?_)
  · refine m_aload_n (j := 0) C dX12_gather_24 rfl ?_
    refine m_iconst C dX12_gather_25 ?_
    refine m_aload_n (j := 0) C dX12_gather_26 rfl ?_
    refine m_geta (k := 8) C dX12_gather_27 w6_67 (by decide) rfl ?_
    refine m_iload_n (j := 1) C dX12_gather_30 rfl ?_
    refine m_ald (k := 8) C dX12_gather_31 rfl rfl (by decide) (by omega) (by show _ < ((_ : Nat) : Int); simp only [mlen]; omega) (by decide) ?_
    have ra2 : (-1) ≤ a 8 t.toNat ∧ a 8 t.toNat ≤ 29 := bq1.2 8 (t.toNat)
    refine m_st (st2 := [.int (iI (a 8 t.toNat)), .int (iI 0), .ref h0]) (congrArg (fun z => Value.int (iI z) :: [.int (iI 0), .ref h0]) (congrFun (fq1.2 8 rfl) (t.toNat))) ?_
    refine hv2 (show 0 ≤ v 4 ∧ v 4 ≤ 30 from bq1.1 4) (show 0 ≤ a 6 (a 8 t.toNat).toNat ∧ a 6 (a 8 t.toNat).toNat ≤ 5 from bq1.2 6 ((a 8 t.toNat).toNat)) (fun rv1 ra3 => ?_)
    refine m_call (mc2 := 0) (ms2 := 0) (As := [.int (iI 0), .int (iI (a 8 t.toNat))]) (rest := []) C (M_addRows (q := 0) (t := a 8 t.toNat) bq1 pw1 (hT.fr fq1 rfl rfl) (by show (0 : Int) = 0 ∨ (0 : Int) = 1; omega) (by show 0 ≤ (a 8 t.toNat) ∧ (a 8 t.toNat) < (v 4); omega) (by show a 6 (a 8 t.toNat).toNat ≤ 4; omega)) dX12_gather_32 kV_X12_321 rfl ck_13 rfl (Nat.le_of_ble_eq_true rfl) ⟨Nat.le_of_ble_eq_true rfl, Nat.le_of_ble_eq_true rfl⟩ ⟨Nat.le_of_ble_eq_true rfl, Nat.le_of_ble_eq_true rfl⟩ (fun rh1 vh1 ah1 h1 => ?_)
    obtain ⟨rfl, fn1, bn1, ex1⟩ := h1
    have fq2 := fq1.call fn1 rfl rfl
    obtain ⟨pw2, ex1⟩ := ex1
    refine hv2 (show ah1 47 (0 : Int).toNat ≤ 6002 from ex1) (show 0 ≤ ah1 47 (0 : Int).toNat ∧ ah1 47 (0 : Int).toNat ≤ 6008 from bn1.2 47 ((0 : Int).toNat)) (fun gf1 ra4 => ?_)
    refine m_st (st2 := []) rfl ?_
    refine m_aload_n (j := 0) C dX12_gather_35 rfl ?_
    refine m_iconst C dX12_gather_36 ?_
    refine m_iload_n (j := 1) C dX12_gather_37 rfl ?_
    refine m_iconst C dX12_gather_38 ?_
    refine m_call (mc2 := 0) (ms2 := 0) (As := [.int (iI 0), .int (iI t), .int (iI 2)]) (rest := []) C (M_addIndicator (q := 0) (t := t) (w1 := 2) bn1 pw2 (by show (0 : Int) = 0 ∨ (0 : Int) = 1; omega) (by show 0 ≤ t ∧ t < 30; omega) (by show 0 ≤ (2 : Int) ∧ (2 : Int) ≤ 3; omega) (by show ah1 47 (0 : Int).toNat < 6008; omega)) dX12_gather_39 kV_X12_317 rfl ck_13 rfl (Nat.le_of_ble_eq_true rfl) ⟨Nat.le_of_ble_eq_true rfl, Nat.le_of_ble_eq_true rfl⟩ ⟨Nat.le_of_ble_eq_true rfl, Nat.le_of_ble_eq_true rfl⟩ (fun rh2 vh2 ah2 h2 => ?_)
    obtain ⟨rfl, fn2, bn2, ex2⟩ := h2
    have fq3 := fq2.call fn2 rfl rfl
    obtain ⟨pw3, ex2⟩ := ex2
    refine hv2 (show ah2 47 (0 : Int).toNat ≤ ah1 47 (0 : Int).toNat + 1 from ex2) (show 0 ≤ ah2 47 (0 : Int).toNat ∧ ah2 47 (0 : Int).toNat ≤ 6008 from bn2.2 47 ((0 : Int).toNat)) (fun gf2 ra5 => ?_)
    refine m_st (st2 := []) rfl ?_
    refine m_aload_n (j := 0) C dX12_gather_42 rfl ?_
    refine m_iconst C dX12_gather_43 ?_
    refine m_aload_n (j := 0) C dX12_gather_44 rfl ?_
    refine m_geta (k := 9) C dX12_gather_45 w6_68 (by decide) rfl ?_
    refine m_iload_n (j := 1) C dX12_gather_48 rfl ?_
    refine m_ald (k := 9) C dX12_gather_49 rfl rfl (by decide) (by omega) (by show _ < ((_ : Nat) : Int); simp only [mlen]; omega) (by decide) ?_
    refine hv3 (show (-1) ≤ ah2 9 t.toNat ∧ ah2 9 t.toNat ≤ 29 from bn2.2 9 (t.toNat)) (show ah2 9 (t.toNat) = ah1 9 (t.toNat) from congrFun (fn2.2 9 rfl) (t.toNat)) (show ah1 9 (t.toNat) = a 9 (t.toNat) from congrFun (fn1.2 9 rfl) (t.toNat)) (fun ra6 ae1 ae2 => ?_)
    refine m_st (st2 := [.int (iI (a 9 t.toNat)), .int (iI 1), .ref h0]) (congrArg (fun z => Value.int (iI z) :: [.int (iI 1), .ref h0]) (congrFun (fq3.2 9 rfl) (t.toNat))) ?_
    refine hv6 (show 0 ≤ vh2 4 ∧ vh2 4 ≤ 30 from bn2.1 4) (show vh2 4 = vh1 4 from fn2.1 4 rfl) (show vh1 4 = v 4 from fn1.1 4 rfl) (show 0 ≤ ah2 6 (a 9 t.toNat).toNat ∧ ah2 6 (a 9 t.toNat).toNat ≤ 5 from bn2.2 6 ((a 9 t.toNat).toNat)) (show ah2 6 ((a 9 t.toNat).toNat) = ah1 6 ((a 9 t.toNat).toNat) from congrFun (fn2.2 6 rfl) ((a 9 t.toNat).toNat)) (show ah1 6 ((a 9 t.toNat).toNat) = a 6 ((a 9 t.toNat).toNat) from congrFun (fn1.2 6 rfl) ((a 9 t.toNat).toNat)) (fun rv2 ve1 ve2 ra7 ae3 ae4 => ?_)
    refine m_call (mc2 := 0) (ms2 := 0) (As := [.int (iI 1), .int (iI (a 9 t.toNat))]) (rest := []) C (M_addRows (q := 1) (t := a 9 t.toNat) bn2 pw3 (hT.fr fq3 rfl rfl) (by show (1 : Int) = 0 ∨ (1 : Int) = 1; omega) (by show 0 ≤ (a 9 t.toNat) ∧ (a 9 t.toNat) < (vh2 4); omega) (by show ah2 6 (a 9 t.toNat).toNat ≤ 4; omega)) dX12_gather_50 kV_X12_321 rfl ck_13 rfl (Nat.le_of_ble_eq_true rfl) ⟨Nat.le_of_ble_eq_true rfl, Nat.le_of_ble_eq_true rfl⟩ ⟨Nat.le_of_ble_eq_true rfl, Nat.le_of_ble_eq_true rfl⟩ (fun rh3 vh3 ah3 h3 => ?_)
    obtain ⟨rfl, fn3, bn3, ex3⟩ := h3
    have fq4 := fq3.call fn3 rfl rfl
    obtain ⟨pw4, ex3⟩ := ex3
    refine hv2 (show ah3 47 (1 : Int).toNat ≤ 6002 from ex3) (show 0 ≤ ah3 47 (1 : Int).toNat ∧ ah3 47 (1 : Int).toNat ≤ 6008 from bn3.2 47 ((1 : Int).toNat)) (fun gf3 ra8 => ?_)
    refine m_st (st2 := []) rfl ?_
    refine m_aload_n (j := 0) C dX12_gather_53 rfl ?_
    refine m_iconst C dX12_gather_54 ?_
    refine m_iload_n (j := 1) C dX12_gather_55 rfl ?_
    refine m_iconst C dX12_gather_56 ?_
    refine m_call (mc2 := 0) (ms2 := 0) (As := [.int (iI 1), .int (iI t), .int (iI 3)]) (rest := []) C (M_addIndicator (q := 1) (t := t) (w1 := 3) bn3 pw4 (by show (1 : Int) = 0 ∨ (1 : Int) = 1; omega) (by show 0 ≤ t ∧ t < 30; omega) (by show 0 ≤ (3 : Int) ∧ (3 : Int) ≤ 3; omega) (by show ah3 47 (1 : Int).toNat < 6008; omega)) dX12_gather_57 kV_X12_317 rfl ck_13 rfl (Nat.le_of_ble_eq_true rfl) ⟨Nat.le_of_ble_eq_true rfl, Nat.le_of_ble_eq_true rfl⟩ ⟨Nat.le_of_ble_eq_true rfl, Nat.le_of_ble_eq_true rfl⟩ (fun rh4 vh4 ah4 h4 => ?_)
    obtain ⟨rfl, fn4, bn4, ex4⟩ := h4
    have fq5 := fq4.call fn4 rfl rfl
    obtain ⟨pw5, ex4⟩ := ex4
    refine hv2 (show ah4 47 (1 : Int).toNat ≤ ah3 47 (1 : Int).toNat + 1 from ex4) (show 0 ≤ ah4 47 (1 : Int).toNat ∧ ah4 47 (1 : Int).toNat ≤ 6008 from bn4.2 47 ((1 : Int).toNat)) (fun gf4 ra9 => ?_)
    refine m_st (st2 := []) rfl ?_
    exact m_vret C dX12_gather_60 rfl (Nat.le_of_ble_eq_true rfl) (Nat.le_of_ble_eq_true rfl) ⟨rfl, fq5, bn4, pw5⟩
  · refine m_aload_n (j := 0) C dX12_gather_17 rfl ?_
    refine m_iconst C dX12_gather_18 ?_
    refine m_iload_n (j := 1) C dX12_gather_19 rfl ?_
    have rv3 : 0 ≤ v 4 ∧ v 4 ≤ 30 := bq1.1 4
    refine m_call (mc2 := 0) (ms2 := 0) (As := [.int (iI 0), .int (iI t)]) (rest := []) C (M_addRows (q := 0) (t := t) bq1 pw1 (hT.fr fq1 rfl rfl) (by show (0 : Int) = 0 ∨ (0 : Int) = 1; omega) (by show 0 ≤ t ∧ t < (v 4); omega) (by show a 6 t.toNat ≤ 4; omega)) dX12_gather_20 kV_X12_321 rfl ck_13 rfl (Nat.le_of_ble_eq_true rfl) ⟨Nat.le_of_ble_eq_true rfl, Nat.le_of_ble_eq_true rfl⟩ ⟨Nat.le_of_ble_eq_true rfl, Nat.le_of_ble_eq_true rfl⟩ (fun rh5 vh5 ah5 h5 => ?_)
    obtain ⟨rfl, fn5, bn5, ex5⟩ := h5
    have fq6 := fq1.call fn5 rfl rfl
    obtain ⟨pw6, ex5⟩ := ex5
    refine hv2 (show ah5 47 (0 : Int).toNat ≤ 6002 from ex5) (show 0 ≤ ah5 47 (0 : Int).toNat ∧ ah5 47 (0 : Int).toNat ≤ 6008 from bn5.2 47 ((0 : Int).toNat)) (fun gf5 ra10 => ?_)
    refine m_st (st2 := []) rfl ?_
    exact m_vret C dX12_gather_23 rfl (Nat.le_of_ble_eq_true rfl) (Nat.le_of_ble_eq_true rfl) ⟨rfl, fq6, bn5, pw6⟩
set_option maxHeartbeats 4000000 in
set_option maxRecDepth 100000 in
theorem M_readWord {l : Launch} {G : GT} {h0 : Nat} {ad ln : Nat → Nat} {v : Nat → Int} {a : Nat → Nat → Int}  {q u : Int} (hB : BX v a) (hW : RWS a) (hq : 0 ≤ q ∧ q ≤ u ∧ u ≤ 40200) : Mm l G yX12_readWord cX12_readWord 9 (some .int) 3 [.int (iI q), .int (iI u)] h0 ad ln v a 0 0 (fun r v2 a2 => ∃ f : Int, r = some (.int (iI f)) ∧ fr [52, 53] [51] v a v2 a2 ∧ BX v2 a2 ∧ (f = 0 ∨ f = 6 ∨ f = 9)) := by
  refine Mm.mk (by decide) (Nat.le_of_ble_eq_true rfl) ?_
  intro p e s m args below meth c A C
  have fp0 : fr [52, 53] [51] v a v a := fr.refl
  refine m_iconst C dX12_readWord_0 ?_
  refine m_istore_n (lv2 := [(3, .int (iI 0)), (0, .ref h0), (1, .int (iI q)), (2, .int (iI u))]) C dX12_readWord_1 (by decide) rfl ?_
  refine m_iconst C dX12_readWord_2 ?_
  refine m_istore (lv2 := [(4, .int (iI 0)), (3, .int (iI 0)), (0, .ref h0), (1, .int (iI q)), (2, .int (iI u))]) C dX12_readWord_3 (by decide) rfl ?_
  refine m_iload_n (j := 3) C dX12_readWord_5 rfl ?_
  refine m_istore (lv2 := [(5, .int (iI q)), (4, .int (iI 0)), (3, .int (iI 0)), (0, .ref h0), (1, .int (iI q)), (2, .int (iI u))]) C dX12_readWord_6 (by decide) rfl ?_
  have Lp1 : ∀ (nn : Nat) (pt g x : Int) (vb1 : Nat → Int) (ab1 : Nat → Nat → Int), 40201 - x < (nn : Int) → BX vb1 ab1 → fr [52, 53] [51] v a vb1 ab1 → (pt = 0 ∨ pt = 1) → (g = 0 ∨ g = 1) → (q ≤ x ∧ x ≤ u) → mw p l e (rmq 3 0 0) s m args below meth c G A 9 (MQ below (Qm G A (fun rq Lq Eq => ∃ (vq : Nat → Int) (aq : Nat → Nat → Int), mI G h0 ad ln vq aq Lq Eq ∧ (fun r v2 a2 => ∃ f : Int, r = some (.int (iI f)) ∧ fr [52, 53] [51] v a v2 a2 ∧ BX v2 a2 ∧ (f = 0 ∨ f = 6 ∨ f = 9)) rq vq aq)) args s 0 0 A) h0 ad ln vb1 ab1 0 0 8 [(5, .int (iI x)), (4, .int (iI g)), (3, .int (iI pt)), (0, .ref h0), (1, .int (iI q)), (2, .int (iI u))] [] := by
    intro nn
    induction nn with
    | zero =>
      intro pt g x vb1 ab1 hm bxb1 fpb1 hp hg hx
      exact absurd hm (by omega)
    | succ nn ih1 =>
      intro pt g x vb1 ab1 hm bxb1 fpb1 hp hg hx
      refine m_iload (j := 0) C dX12_readWord_8 rfl ?_
      refine m_iload_n (j := 5) C dX12_readWord_10 rfl ?_
      refine m_icmp_ge (tgt := 197) C ⟨by omega, by omega⟩ ⟨by omega, by omega⟩ dX12_readWord_11 (by decide) (fun c1 => ?_) (fun c1 => ?_)
      · refine m_aload_n (j := 3) C dX12_readWord_197 rfl ?_
        refine m_iload_n (j := 5) C dX12_readWord_198 rfl ?_
        refine m_put (k := 53) (z := u) C dX12_readWord_199 w6_112 (by decide) rfl rfl rfl ?_
        refine hv2 (show BX (va_up vb1 53 u) ab1 from bxb1.put (k := 53) (z := u) (show 0 ≤ u ∧ u ≤ 40200 by omega)) (fpb1.put (k := 53) (z := u) rfl) (fun bq1 fq1 => ?_)
        refine m_iload (j := 1) C dX12_readWord_202 rfl ?_
        refine m_if_eq (tgt := 212) C (r32_01 hg) dX12_readWord_204 (by decide) (fun c2 => ?_) (fun c2 => ?_)
        · clear hg
          refine m_iconst C dX12_readWord_212 ?_
          exact m_iret C dX12_readWord_213 rfl (Nat.le_of_ble_eq_true rfl) (Nat.le_of_ble_eq_true rfl) ⟨0, rfl, fq1, bq1, (by omega)⟩
        · replace hg := (hg.resolve_left c2)
          refine m_bipush (z := 9) C dX12_readWord_207 (by decide) ?_
          refine m_goto (tgt := 213) C dX12_readWord_209 (by decide) ?_
          exact m_iret C dX12_readWord_213 rfl (Nat.le_of_ble_eq_true rfl) (Nat.le_of_ble_eq_true rfl) ⟨9, rfl, fq1, bq1, (by omega)⟩
      · refine m_aload_n (j := 3) C dX12_readWord_14 rfl ?_
        refine m_iload_n (j := 2) C dX12_readWord_15 rfl ?_
        refine m_iload (j := 0) C dX12_readWord_16 rfl ?_
        refine m_iload_n (j := 5) C dX12_readWord_18 rfl ?_
        refine m_call (mc2 := 0) (ms2 := 0) (As := [.int (iI pt), .int (iI x), .int (iI u)]) (rest := []) C (M_longest (q := pt) (x := x) (u := u) bxb1.rg (by omega) ((RWS.fr hW fpb1 rfl) (pt) (by omega)).1 ((RWS.fr hW fpb1 rfl) (pt) (by omega)).2 (by omega)) dX12_readWord_19 kV_X12_342 rfl ck_13 rfl (Nat.le_of_ble_eq_true rfl) ⟨Nat.le_of_ble_eq_true rfl, Nat.le_of_ble_eq_true rfl⟩ ⟨Nat.le_of_ble_eq_true rfl, Nat.le_of_ble_eq_true rfl⟩ (fun rh1 vh1 ah1 h1 => ?_)
        obtain ⟨f1, rfl, hf1, rfl, rfl⟩ := h1
        refine hv5 (show f1 = -1 ∨ (6008 * pt ≤ f1 ∧ f1 < 6008 * pt + ab1 47 pt.toNat ∧ x + ab1 46 f1.toNat ≤ u) from hf1) (show 0 ≤ ab1 47 pt.toNat ∧ ab1 47 pt.toNat ≤ 6008 from bxb1.2 47 (pt.toNat)) (show ab1 47 (pt.toNat) = a 47 (pt.toNat) from congrFun (fpb1.2 47 rfl) (pt.toNat)) (show 0 ≤ ab1 46 f1.toNat ∧ ab1 46 f1.toNat ≤ 4 from bxb1.2 46 (f1.toNat)) (show ab1 46 (f1.toNat) = a 46 (f1.toNat) from congrFun (fpb1.2 46 rfl) (f1.toNat)) (fun gf1 ra1 ae1 ra2 ae2 => ?_)
        have kf1 : f1 = -1 ∨ ((0 ≤ f1 ∧ f1 < 12016) ∧ (-4 ≤ ab1 44 f1.toNat ∧ ab1 44 f1.toNat < 6000) ∧ (1 ≤ ab1 46 f1.toNat ∧ ab1 46 f1.toNat ≤ 4)) := by
          rcases hf1 with q9 | q9
          · exact Or.inl q9
          · have g9 := ((RWS.fr hW fpb1 rfl) (pt) (by omega)).2 f1 q9.1 q9.2.1
            exact Or.inr ⟨g9.1, g9.2.1, g9.2.2.1⟩
        refine hv2 (show (-4) ≤ ab1 44 f1.toNat ∧ ab1 44 f1.toNat ≤ 5999 from bxb1.2 44 (f1.toNat)) (show ab1 44 (f1.toNat) = a 44 (f1.toNat) from congrFun (fpb1.2 44 rfl) (f1.toNat)) (fun ra3 ae3 => ?_)
        refine m_st (st2 := [.int (iI f1)]) rfl ?_
        refine m_istore (lv2 := [(6, .int (iI f1)), (5, .int (iI x)), (4, .int (iI g)), (3, .int (iI pt)), (0, .ref h0), (1, .int (iI q)), (2, .int (iI u))]) C dX12_readWord_22 (by decide) rfl ?_
        refine m_aload_n (j := 4) C dX12_readWord_24 rfl ?_
        refine m_iload (j := 1) C dX12_readWord_25 rfl ?_
        refine m_put (k := 53) (z := x) C dX12_readWord_27 w6_112 (by decide) rfl rfl rfl ?_
        refine hv2 (show BX (va_up vb1 53 x) ab1 from bxb1.put (k := 53) (z := x) (show 0 ≤ x ∧ x ≤ 40200 by omega)) (fpb1.put (k := 53) (z := x) rfl) (fun bq2 fq2 => ?_)
        refine m_iload (j := 0) C dX12_readWord_30 rfl ?_
        refine m_if_lt (tgt := 49) C ⟨by omega, by omega⟩ dX12_readWord_32 (by decide) (fun c3 => ?_) (fun c3 => ?_)
        · refine m_bipush (z := 9) C dX12_readWord_49 (by decide) ?_
          exact m_iret C dX12_readWord_51 rfl (Nat.le_of_ble_eq_true rfl) (Nat.le_of_ble_eq_true rfl) ⟨9, rfl, fq2, bq2, (by omega)⟩
        · replace gf1 := gf1.resolve_left (fun q => by omega)
          refine m_iload (j := 2) C dX12_readWord_35 rfl ?_
          refine m_if_eq (tgt := 52) C (r32_01 hg) dX12_readWord_37 (by decide) (fun c4 => ?_) (fun c4 => ?_)
          · clear hg
            refine m_aload_n (j := 4) C dX12_readWord_52 rfl ?_
            refine m_geta (k := 44) C dX12_readWord_53 w6_103 (by decide) rfl ?_
            refine m_iload (j := 0) C dX12_readWord_56 rfl ?_
            refine m_ald (k := 44) C dX12_readWord_58 rfl rfl (by decide) (by omega) (by show _ < ((_ : Nat) : Int); simp only [mlen]; omega) (by decide) ?_
            refine m_st (st2 := [.int (iI (a 44 f1.toNat))]) (congrArg (fun z => Value.int (iI z) :: []) (congrFun (fq2.2 44 rfl) (f1.toNat))) ?_
            refine m_istore (lv2 := [(7, .int (iI (a 44 f1.toNat))), (6, .int (iI f1)), (5, .int (iI x)), (4, .int (iI g)), (3, .int (iI pt)), (0, .ref h0), (1, .int (iI q)), (2, .int (iI u))]) C dX12_readWord_59 (by decide) rfl ?_
            have J1 : ∀ (vb2 : Nat → Int) (ab2 : Nat → Nat → Int), BX vb2 ab2 → fr [52, 53] [51] v a vb2 ab2 → mw p l e (rmq 3 0 0) s m args below meth c G A 9 (MQ below (Qm G A (fun rq Lq Eq => ∃ (vq : Nat → Int) (aq : Nat → Nat → Int), mI G h0 ad ln vq aq Lq Eq ∧ (fun r v2 a2 => ∃ f : Int, r = some (.int (iI f)) ∧ fr [52, 53] [51] v a v2 a2 ∧ BX v2 a2 ∧ (f = 0 ∨ f = 6 ∨ f = 9)) rq vq aq)) args s 0 0 A) h0 ad ln vb2 ab2 0 0 127 [(7, .int (iI (a 44 f1.toNat))), (6, .int (iI f1)), (5, .int (iI x)), (4, .int (iI g)), (3, .int (iI pt)), (0, .ref h0), (1, .int (iI q)), (2, .int (iI u))] [] := by
              intro  vb2 ab2 bxb2 fpb2 
              refine m_iload (j := 0) C dX12_readWord_127 rfl ?_
              refine m_iconst C dX12_readWord_129 ?_
              have J2 : ∀ (g2 : Int) (vb3 : Nat → Int) (ab3 : Nat → Nat → Int), BX vb3 ab3 → fr [52, 53] [51] v a vb3 ab3 → (g2 = 0 ∨ g2 = 1) → mw p l e (rmq 3 0 0) s m args below meth c G A 9 (MQ below (Qm G A (fun rq Lq Eq => ∃ (vq : Nat → Int) (aq : Nat → Nat → Int), mI G h0 ad ln vq aq Lq Eq ∧ (fun r v2 a2 => ∃ f : Int, r = some (.int (iI f)) ∧ fr [52, 53] [51] v a v2 a2 ∧ BX v2 a2 ∧ (f = 0 ∨ f = 6 ∨ f = 9)) rq vq aq)) args s 0 0 A) h0 ad ln vb3 ab3 0 0 138 [(7, .int (iI (a 44 f1.toNat))), (6, .int (iI f1)), (5, .int (iI x)), (4, .int (iI g)), (3, .int (iI pt)), (0, .ref h0), (1, .int (iI q)), (2, .int (iI u))] [.int (iI g2)] := by
                intro g2 vb3 ab3 bxb3 fpb3 hg2
                refine m_istore (lv2 := [(4, .int (iI g2)), (7, .int (iI (a 44 f1.toNat))), (6, .int (iI f1)), (5, .int (iI x)), (3, .int (iI pt)), (0, .ref h0), (1, .int (iI q)), (2, .int (iI u))]) C dX12_readWord_138 (by decide) rfl ?_
                refine m_iload (j := 1) C dX12_readWord_140 rfl ?_
                refine m_bipush (z := (-3)) C dX12_readWord_142 (by decide) ?_
                refine m_icmp_eq (tgt := 154) C ⟨by omega, by omega⟩ ⟨by decide, by decide⟩ dX12_readWord_144 (by decide) (fun c5 => ?_) (fun c5 => ?_)
                · refine m_iconst C dX12_readWord_154 ?_
                  refine m_iload_n (j := 4) C dX12_readWord_155 rfl ?_
                  refine m_isub C dX12_readWord_156 ?_
                  refine m_istore_n (lv2 := [(3, .int (iI (1 - pt))), (4, .int (iI g2)), (7, .int (iI (a 44 f1.toNat))), (6, .int (iI f1)), (5, .int (iI x)), (0, .ref h0), (1, .int (iI q)), (2, .int (iI u))]) C dX12_readWord_157 (by decide) rfl ?_
                  refine m_aload_n (j := 5) C dX12_readWord_158 rfl ?_
                  refine m_iload (j := 2) C dX12_readWord_159 rfl ?_
                  refine m_bipush (z := (-3)) C dX12_readWord_161 (by decide) ?_
                  refine m_icmp_ne (tgt := 171) C ⟨by omega, by omega⟩ ⟨by decide, by decide⟩ dX12_readWord_163 (by decide) (fun z => absurd z (by omega)) (fun _ => ?_)
                  refine m_bipush (z := 60) C dX12_readWord_166 (by decide) ?_
                  refine m_goto (tgt := 173) C dX12_readWord_168 (by decide) ?_
                  refine m_call (mc2 := 0) (ms2 := 0) (As := [.int (iI 60)]) (rest := []) C (B_tell (x := 60) bxb3 (by show -2147483648 ≤ (60 : Int) ∧ (60 : Int) ≤ 2147483647; omega)) dX12_readWord_173 kV_X12_336 rfl ck_13 rfl (Nat.le_of_ble_eq_true rfl) ⟨Nat.le_of_ble_eq_true rfl, Nat.le_of_ble_eq_true rfl⟩ ⟨Nat.le_of_ble_eq_true rfl, Nat.le_of_ble_eq_true rfl⟩ (fun rh2 vh2 ah2 h2 => ?_)
                  obtain ⟨f2, rfl, fn1, bn1, ex1⟩ := h2
                  refine hv2 (fpb3.call fn1 rfl rfl) (show f2 = 0 ∨ f2 = 1 from ex1) (fun fq3 gf2 => ?_)
                  refine m_st (st2 := [.int (iI f2)]) rfl ?_
                  refine m_if_ne (tgt := 182) C (r32_01 gf2) dX12_readWord_176 (by decide) (fun c6 => ?_) (fun c6 => ?_)
                  · replace gf2 := (gf2.resolve_left c6)
                    refine m_iload (j := 4) C dX12_readWord_182 rfl ?_
                    refine m_aload_n (j := 5) C dX12_readWord_184 rfl ?_
                    refine m_geta (k := 46) C dX12_readWord_185 w6_105 (by decide) rfl ?_
                    refine m_iload (j := 3) C dX12_readWord_188 rfl ?_
                    refine m_ald (k := 46) C dX12_readWord_190 rfl rfl (by decide) (by omega) (by show _ < ((_ : Nat) : Int); simp only [mlen]; omega) (by decide) ?_
                    refine hv3 (show 0 ≤ ah2 46 f1.toNat ∧ ah2 46 f1.toNat ≤ 4 from bn1.2 46 (f1.toNat)) (show ah2 46 (f1.toNat) = ab3 46 (f1.toNat) from congrFun (fn1.2 46 rfl) (f1.toNat)) (show ab3 46 (f1.toNat) = a 46 (f1.toNat) from congrFun (fpb3.2 46 rfl) (f1.toNat)) (fun ra4 ae4 ae5 => ?_)
                    refine m_st (st2 := [.int (iI (a 46 f1.toNat)), .int (iI x)]) (congrArg (fun z => Value.int (iI z) :: [.int (iI x)]) (congrFun (fq3.2 46 rfl) (f1.toNat))) ?_
                    refine m_iadd C dX12_readWord_191 ?_
                    refine m_istore (lv2 := [(5, .int (iI (x + (a 46 f1.toNat)))), (3, .int (iI (1 - pt))), (4, .int (iI g2)), (7, .int (iI (a 44 f1.toNat))), (6, .int (iI f1)), (0, .ref h0), (1, .int (iI q)), (2, .int (iI u))]) C dX12_readWord_192 (by decide) rfl ?_
                    refine m_goto (tgt := 8) C dX12_readWord_194 (by decide) ?_
                    refine m_lv (lv2 := [(5, .int (iI (x + (a 46 f1.toNat)))), (4, .int (iI g2)), (3, .int (iI (1 - pt))), (0, .ref h0), (1, .int (iI q)), (2, .int (iI u))]) [0, 2, 1, 5, 6, 7] rfl ?_
                    exact ih1  (1 - pt) g2 (x + (a 46 f1.toNat)) _ _ (by omega) bn1 fq3 (by omega) (by omega) (by omega)
                  · clear gf2
                    refine m_bipush (z := 6) C dX12_readWord_179 (by decide) ?_
                    exact m_iret C dX12_readWord_181 rfl (Nat.le_of_ble_eq_true rfl) (Nat.le_of_ble_eq_true rfl) ⟨6, rfl, fq3, bn1, (by omega)⟩
                · refine m_iload (j := 1) C dX12_readWord_147 rfl ?_
                  refine m_bipush (z := (-4)) C dX12_readWord_149 (by decide) ?_
                  refine m_icmp_ne (tgt := 182) C ⟨by omega, by omega⟩ ⟨by decide, by decide⟩ dX12_readWord_151 (by decide) (fun c7 => ?_) (fun c7 => ?_)
                  · refine m_iload (j := 3) C dX12_readWord_182 rfl ?_
                    refine m_aload_n (j := 5) C dX12_readWord_184 rfl ?_
                    refine m_geta (k := 46) C dX12_readWord_185 w6_105 (by decide) rfl ?_
                    refine m_iload (j := 2) C dX12_readWord_188 rfl ?_
                    refine m_ald (k := 46) C dX12_readWord_190 rfl rfl (by decide) (by omega) (by show _ < ((_ : Nat) : Int); simp only [mlen]; omega) (by decide) ?_
                    refine hv2 (show 0 ≤ ab3 46 f1.toNat ∧ ab3 46 f1.toNat ≤ 4 from bxb3.2 46 (f1.toNat)) (show ab3 46 (f1.toNat) = a 46 (f1.toNat) from congrFun (fpb3.2 46 rfl) (f1.toNat)) (fun ra5 ae6 => ?_)
                    refine m_st (st2 := [.int (iI (a 46 f1.toNat)), .int (iI x)]) (congrArg (fun z => Value.int (iI z) :: [.int (iI x)]) (congrFun (fpb3.2 46 rfl) (f1.toNat))) ?_
                    refine m_iadd C dX12_readWord_191 ?_
                    refine m_istore (lv2 := [(5, .int (iI (x + (a 46 f1.toNat)))), (4, .int (iI g2)), (7, .int (iI (a 44 f1.toNat))), (6, .int (iI f1)), (3, .int (iI pt)), (0, .ref h0), (1, .int (iI q)), (2, .int (iI u))]) C dX12_readWord_192 (by decide) rfl ?_
                    refine m_goto (tgt := 8) C dX12_readWord_194 (by decide) ?_
                    refine m_lv (lv2 := [(5, .int (iI (x + (a 46 f1.toNat)))), (4, .int (iI g2)), (3, .int (iI pt)), (0, .ref h0), (1, .int (iI q)), (2, .int (iI u))]) [0, 1, 4, 5, 6, 7] rfl ?_
                    exact ih1  pt g2 (x + (a 46 f1.toNat)) _ _ (by omega) bxb3 fpb3 (by omega) (by omega) (by omega)
                  · refine m_iconst C dX12_readWord_154 ?_
                    refine m_iload_n (j := 4) C dX12_readWord_155 rfl ?_
                    refine m_isub C dX12_readWord_156 ?_
                    refine m_istore_n (lv2 := [(3, .int (iI (1 - pt))), (4, .int (iI g2)), (7, .int (iI (a 44 f1.toNat))), (6, .int (iI f1)), (5, .int (iI x)), (0, .ref h0), (1, .int (iI q)), (2, .int (iI u))]) C dX12_readWord_157 (by decide) rfl ?_
                    refine m_aload_n (j := 5) C dX12_readWord_158 rfl ?_
                    refine m_iload (j := 2) C dX12_readWord_159 rfl ?_
                    refine m_bipush (z := (-3)) C dX12_readWord_161 (by decide) ?_
                    refine m_icmp_ne (tgt := 171) C ⟨by omega, by omega⟩ ⟨by decide, by decide⟩ dX12_readWord_163 (by decide) (fun _ => ?_) (fun z => absurd z (by omega))
                    refine m_bipush (z := 62) C dX12_readWord_171 (by decide) ?_
                    refine m_call (mc2 := 0) (ms2 := 0) (As := [.int (iI 62)]) (rest := []) C (B_tell (x := 62) bxb3 (by show -2147483648 ≤ (62 : Int) ∧ (62 : Int) ≤ 2147483647; omega)) dX12_readWord_173 kV_X12_336 rfl ck_13 rfl (Nat.le_of_ble_eq_true rfl) ⟨Nat.le_of_ble_eq_true rfl, Nat.le_of_ble_eq_true rfl⟩ ⟨Nat.le_of_ble_eq_true rfl, Nat.le_of_ble_eq_true rfl⟩ (fun rh3 vh3 ah3 h3 => ?_)
                    obtain ⟨f3, rfl, fn2, bn2, ex2⟩ := h3
                    refine hv2 (fpb3.call fn2 rfl rfl) (show f3 = 0 ∨ f3 = 1 from ex2) (fun fq4 gf3 => ?_)
                    refine m_st (st2 := [.int (iI f3)]) rfl ?_
                    refine m_if_ne (tgt := 182) C (r32_01 gf3) dX12_readWord_176 (by decide) (fun c8 => ?_) (fun c8 => ?_)
                    · replace gf3 := (gf3.resolve_left c8)
                      refine m_iload (j := 4) C dX12_readWord_182 rfl ?_
                      refine m_aload_n (j := 5) C dX12_readWord_184 rfl ?_
                      refine m_geta (k := 46) C dX12_readWord_185 w6_105 (by decide) rfl ?_
                      refine m_iload (j := 3) C dX12_readWord_188 rfl ?_
                      refine m_ald (k := 46) C dX12_readWord_190 rfl rfl (by decide) (by omega) (by show _ < ((_ : Nat) : Int); simp only [mlen]; omega) (by decide) ?_
                      refine hv3 (show 0 ≤ ah3 46 f1.toNat ∧ ah3 46 f1.toNat ≤ 4 from bn2.2 46 (f1.toNat)) (show ah3 46 (f1.toNat) = ab3 46 (f1.toNat) from congrFun (fn2.2 46 rfl) (f1.toNat)) (show ab3 46 (f1.toNat) = a 46 (f1.toNat) from congrFun (fpb3.2 46 rfl) (f1.toNat)) (fun ra6 ae7 ae8 => ?_)
                      refine m_st (st2 := [.int (iI (a 46 f1.toNat)), .int (iI x)]) (congrArg (fun z => Value.int (iI z) :: [.int (iI x)]) (congrFun (fq4.2 46 rfl) (f1.toNat))) ?_
                      refine m_iadd C dX12_readWord_191 ?_
                      refine m_istore (lv2 := [(5, .int (iI (x + (a 46 f1.toNat)))), (3, .int (iI (1 - pt))), (4, .int (iI g2)), (7, .int (iI (a 44 f1.toNat))), (6, .int (iI f1)), (0, .ref h0), (1, .int (iI q)), (2, .int (iI u))]) C dX12_readWord_192 (by decide) rfl ?_
                      refine m_goto (tgt := 8) C dX12_readWord_194 (by decide) ?_
                      refine m_lv (lv2 := [(5, .int (iI (x + (a 46 f1.toNat)))), (4, .int (iI g2)), (3, .int (iI (1 - pt))), (0, .ref h0), (1, .int (iI q)), (2, .int (iI u))]) [0, 2, 1, 5, 6, 7] rfl ?_
                      exact ih1  (1 - pt) g2 (x + (a 46 f1.toNat)) _ _ (by omega) bn2 fq4 (by omega) (by omega) (by omega)
                    · clear gf3
                      refine m_bipush (z := 6) C dX12_readWord_179 (by decide) ?_
                      exact m_iret C dX12_readWord_181 rfl (Nat.le_of_ble_eq_true rfl) (Nat.le_of_ble_eq_true rfl) ⟨6, rfl, fq4, bn2, (by omega)⟩
              refine m_icmp_ne (tgt := 137) C ⟨by omega, by omega⟩ ⟨by decide, by decide⟩ dX12_readWord_130 (by decide) (fun c9 => ?_) (fun c9 => ?_)
              · refine m_iconst C dX12_readWord_137 ?_
                refine m_lv (lv2 := [(7, .int (iI (a 44 f1.toNat))), (6, .int (iI f1)), (5, .int (iI x)), (4, .int (iI g)), (3, .int (iI pt)), (0, .ref h0), (1, .int (iI q)), (2, .int (iI u))]) [0, 1, 2, 3, 4, 5, 6, 7] rfl ?_
                exact J2  0 _ _  bxb2 fpb2 (by omega)
              · refine m_iconst C dX12_readWord_133 ?_
                refine m_goto (tgt := 138) C dX12_readWord_134 (by decide) ?_
                refine m_lv (lv2 := [(7, .int (iI (a 44 f1.toNat))), (6, .int (iI f1)), (5, .int (iI x)), (4, .int (iI g)), (3, .int (iI pt)), (0, .ref h0), (1, .int (iI q)), (2, .int (iI u))]) [0, 1, 2, 3, 4, 5, 6, 7] rfl ?_
                exact J2  1 _ _  bxb2 fpb2 (by omega)
            refine m_iload (j := 0) C dX12_readWord_61 rfl ?_
            refine m_if_lt (tgt := 127) C ⟨by omega, by omega⟩ dX12_readWord_63 (by decide) (fun c10 => ?_) (fun c10 => ?_)
            · refine m_lv (lv2 := [(7, .int (iI (a 44 f1.toNat))), (6, .int (iI f1)), (5, .int (iI x)), (4, .int (iI g)), (3, .int (iI pt)), (0, .ref h0), (1, .int (iI q)), (2, .int (iI u))]) [0, 1, 2, 3, 4, 5, 6, 7] rfl ?_
              exact J1   _ _  bq2 fq2 
            · refine m_iconst C dX12_readWord_66 ?_
              refine m_istore (lv2 := [(8, .int (iI 0)), (7, .int (iI (a 44 f1.toNat))), (6, .int (iI f1)), (5, .int (iI x)), (4, .int (iI g)), (3, .int (iI pt)), (0, .ref h0), (1, .int (iI q)), (2, .int (iI u))]) C dX12_readWord_67 (by decide) rfl ?_
              have Lp2 : ∀ (nn : Nat) (k : Int) (vb4 : Nat → Int) (ab4 : Nat → Nat → Int), 9 - k < (nn : Int) → BX vb4 ab4 → fr [52, 53] [51] v a vb4 ab4 → (0 ≤ k ∧ k ≤ 8) → mw p l e (rmq 3 0 0) s m args below meth c G A 9 (MQ below (Qm G A (fun rq Lq Eq => ∃ (vq : Nat → Int) (aq : Nat → Nat → Int), mI G h0 ad ln vq aq Lq Eq ∧ (fun r v2 a2 => ∃ f : Int, r = some (.int (iI f)) ∧ fr [52, 53] [51] v a v2 a2 ∧ BX v2 a2 ∧ (f = 0 ∨ f = 6 ∨ f = 9)) rq vq aq)) args s 0 0 A) h0 ad ln vb4 ab4 0 0 69 [(8, .int (iI k)), (7, .int (iI (a 44 f1.toNat))), (6, .int (iI f1)), (5, .int (iI x)), (4, .int (iI g)), (3, .int (iI pt)), (0, .ref h0), (1, .int (iI q)), (2, .int (iI u))] [] := by
                intro nn
                induction nn with
                | zero =>
                  intro k vb4 ab4 hm bxb4 fpb4 hk
                  exact absurd hm (by omega)
                | succ nn ih2 =>
                  intro k vb4 ab4 hm bxb4 fpb4 hk
                  refine m_iload (j := 0) C dX12_readWord_69 rfl ?_
                  refine m_aload_n (j := 6) C dX12_readWord_71 rfl ?_
                  refine m_geta (k := 12) C dX12_readWord_72 w6_71 (by decide) rfl ?_
                  refine m_iload (j := 1) C dX12_readWord_75 rfl ?_
                  refine m_ald (k := 12) C dX12_readWord_77 rfl rfl (by decide) (by omega) (by show _ < ((_ : Nat) : Int); simp only [mlen]; omega) (by decide) ?_
                  refine hv2 (show 0 ≤ ab4 12 (a 44 f1.toNat).toNat ∧ ab4 12 (a 44 f1.toNat).toNat ≤ 8 from bxb4.2 12 ((a 44 f1.toNat).toNat)) (show ab4 12 ((a 44 f1.toNat).toNat) = a 12 ((a 44 f1.toNat).toNat) from congrFun (fpb4.2 12 rfl) ((a 44 f1.toNat).toNat)) (fun ra7 ae9 => ?_)
                  refine m_st (st2 := [.int (iI (a 12 (a 44 f1.toNat).toNat)), .int (iI k)]) (congrArg (fun z => Value.int (iI z) :: [.int (iI k)]) (congrFun (fpb4.2 12 rfl) ((a 44 f1.toNat).toNat))) ?_
                  refine m_icmp_ge (tgt := 127) C (r32_c (lo := 0) (hi := 8) hk.1 hk.2 (by decide) (by decide)) ⟨by omega, by omega⟩ dX12_readWord_78 (by decide) (fun c11 => ?_) (fun c11 => ?_)
                  · refine m_lv (lv2 := [(7, .int (iI (a 44 f1.toNat))), (6, .int (iI f1)), (5, .int (iI x)), (4, .int (iI g)), (3, .int (iI pt)), (0, .ref h0), (1, .int (iI q)), (2, .int (iI u))]) [1, 2, 3, 4, 5, 6, 7, 8] rfl ?_
                    exact J1   _ _  bxb4 fpb4 
                  · refine m_aload_n (j := 6) C dX12_readWord_81 rfl ?_
                    refine m_aload_n (j := 6) C dX12_readWord_82 rfl ?_
                    refine m_geta (k := 14) C dX12_readWord_83 w6_73 (by decide) rfl ?_
                    refine m_bipush (z := 8) C dX12_readWord_86 (by decide) ?_
                    refine m_iload (j := 1) C dX12_readWord_88 rfl ?_
                    refine m_imul C dX12_readWord_90 ?_
                    refine m_iload (j := 0) C dX12_readWord_91 rfl ?_
                    refine m_iadd C dX12_readWord_93 ?_
                    refine m_ald (k := 14) C dX12_readWord_94 rfl rfl (by decide) (by omega) (by show _ < ((_ : Nat) : Int); simp only [mlen]; omega) (by decide) ?_
                    refine hv2 (show 0 ≤ ab4 14 ((8 * (a 44 f1.toNat)) + k).toNat ∧ ab4 14 ((8 * (a 44 f1.toNat)) + k).toNat ≤ 125 from bxb4.2 14 (((8 * (a 44 f1.toNat)) + k).toNat)) (show ab4 14 (((8 * (a 44 f1.toNat)) + k).toNat) = a 14 (((8 * (a 44 f1.toNat)) + k).toNat) from congrFun (fpb4.2 14 rfl) (((8 * (a 44 f1.toNat)) + k).toNat)) (fun ra8 ae10 => ?_)
                    refine m_st (st2 := [.int (iI (a 14 ((8 * (a 44 f1.toNat)) + k).toNat)), .ref h0]) (congrArg (fun z => Value.int (iI z) :: [.ref h0]) (congrFun (fpb4.2 14 rfl) (((8 * (a 44 f1.toNat)) + k).toNat))) ?_
                    refine m_iload (j := 4) C dX12_readWord_95 rfl ?_
                    refine m_if_eq (tgt := 110) C ⟨by omega, by omega⟩ dX12_readWord_97 (by decide) (fun _ => ?_) (fun z => absurd z (by omega))
                    refine m_iconst C dX12_readWord_110 ?_
                    refine m_isub C dX12_readWord_111 ?_
                    refine m_call (mc2 := 0) (ms2 := 0) (As := [.int (iI ((a 14 ((8 * (a 44 f1.toNat)) + k).toNat) - 0))]) (rest := []) C (B_tell (x := (a 14 ((8 * (a 44 f1.toNat)) + k).toNat) - 0) bxb4 (by show -2147483648 ≤ ((a 14 ((8 * (a 44 f1.toNat)) + k).toNat) - 0) ∧ ((a 14 ((8 * (a 44 f1.toNat)) + k).toNat) - 0) ≤ 2147483647; omega)) dX12_readWord_112 kV_X12_336 rfl ck_13 rfl (Nat.le_of_ble_eq_true rfl) ⟨Nat.le_of_ble_eq_true rfl, Nat.le_of_ble_eq_true rfl⟩ ⟨Nat.le_of_ble_eq_true rfl, Nat.le_of_ble_eq_true rfl⟩ (fun rh4 vh4 ah4 h4 => ?_)
                    obtain ⟨f4, rfl, fn3, bn3, ex3⟩ := h4
                    refine hv2 (fpb4.call fn3 rfl rfl) (show f4 = 0 ∨ f4 = 1 from ex3) (fun fq5 gf4 => ?_)
                    refine m_st (st2 := [.int (iI f4)]) rfl ?_
                    refine m_if_ne (tgt := 121) C (r32_01 gf4) dX12_readWord_115 (by decide) (fun c12 => ?_) (fun c12 => ?_)
                    · replace gf4 := (gf4.resolve_left c12)
                      refine m_iinc (z := k) (j := 0) (lv2 := [(8, .int (iI (k + 1))), (7, .int (iI (a 44 f1.toNat))), (6, .int (iI f1)), (5, .int (iI x)), (4, .int (iI g)), (3, .int (iI pt)), (0, .ref h0), (1, .int (iI q)), (2, .int (iI u))]) C dX12_readWord_121 rfl (by decide) rfl ?_
                      refine m_goto (tgt := 69) C dX12_readWord_124 (by decide) ?_
                      refine m_lv (lv2 := [(8, .int (iI (k + 1))), (7, .int (iI (a 44 f1.toNat))), (6, .int (iI f1)), (5, .int (iI x)), (4, .int (iI g)), (3, .int (iI pt)), (0, .ref h0), (1, .int (iI q)), (2, .int (iI u))]) [0, 1, 2, 3, 4, 5, 6, 7, 8] rfl ?_
                      exact ih2  (k + 1) _ _ (by omega) bn3 fq5 (by omega)
                    · clear gf4
                      refine m_bipush (z := 6) C dX12_readWord_118 (by decide) ?_
                      exact m_iret C dX12_readWord_120 rfl (Nat.le_of_ble_eq_true rfl) (Nat.le_of_ble_eq_true rfl) ⟨6, rfl, fq5, bn3, (by omega)⟩
              refine m_lv (lv2 := [(8, .int (iI 0)), (7, .int (iI (a 44 f1.toNat))), (6, .int (iI f1)), (5, .int (iI x)), (4, .int (iI g)), (3, .int (iI pt)), (0, .ref h0), (1, .int (iI q)), (2, .int (iI u))]) [0, 1, 2, 3, 4, 5, 6, 7, 8] rfl ?_
              exact Lp2 10 0 _ _ (by omega) bq2 fq2 (by omega)
          · replace hg := (hg.resolve_left c4)
            refine m_aload_n (j := 4) C dX12_readWord_40 rfl ?_
            refine m_iload (j := 0) C dX12_readWord_41 rfl ?_
            refine m_call (mc2 := 0) (ms2 := 0) (As := [.int (iI f1)]) (rest := []) C (M_isSmallRule (r := f1) bq2.rg (by omega) (by show ab1 44 f1.toNat < 6000; omega)) dX12_readWord_43 kV_X12_348 rfl ck_13 rfl (Nat.le_of_ble_eq_true rfl) ⟨Nat.le_of_ble_eq_true rfl, Nat.le_of_ble_eq_true rfl⟩ ⟨Nat.le_of_ble_eq_true rfl, Nat.le_of_ble_eq_true rfl⟩ (fun rh5 vh5 ah5 h5 => ?_)
            obtain ⟨f5, rfl, hf5, rfl, rfl⟩ := h5
            have gf5 : f5 = 0 ∨ f5 = 1 := hf5
            refine m_st (st2 := [.int (iI f5)]) rfl ?_
            refine m_if_ne (tgt := 52) C (r32_01 gf5) dX12_readWord_46 (by decide) (fun c13 => ?_) (fun c13 => ?_)
            · replace gf5 := (gf5.resolve_left c13)
              refine m_aload_n (j := 4) C dX12_readWord_52 rfl ?_
              refine m_geta (k := 44) C dX12_readWord_53 w6_103 (by decide) rfl ?_
              refine m_iload (j := 0) C dX12_readWord_56 rfl ?_
              refine m_ald (k := 44) C dX12_readWord_58 rfl rfl (by decide) (by omega) (by show _ < ((_ : Nat) : Int); simp only [mlen]; omega) (by decide) ?_
              refine m_st (st2 := [.int (iI (a 44 f1.toNat))]) (congrArg (fun z => Value.int (iI z) :: []) (congrFun (fq2.2 44 rfl) (f1.toNat))) ?_
              refine m_istore (lv2 := [(7, .int (iI (a 44 f1.toNat))), (6, .int (iI f1)), (5, .int (iI x)), (4, .int (iI g)), (3, .int (iI pt)), (0, .ref h0), (1, .int (iI q)), (2, .int (iI u))]) C dX12_readWord_59 (by decide) rfl ?_
              have J3 : ∀ (vb5 : Nat → Int) (ab5 : Nat → Nat → Int), BX vb5 ab5 → fr [52, 53] [51] v a vb5 ab5 → mw p l e (rmq 3 0 0) s m args below meth c G A 9 (MQ below (Qm G A (fun rq Lq Eq => ∃ (vq : Nat → Int) (aq : Nat → Nat → Int), mI G h0 ad ln vq aq Lq Eq ∧ (fun r v2 a2 => ∃ f : Int, r = some (.int (iI f)) ∧ fr [52, 53] [51] v a v2 a2 ∧ BX v2 a2 ∧ (f = 0 ∨ f = 6 ∨ f = 9)) rq vq aq)) args s 0 0 A) h0 ad ln vb5 ab5 0 0 127 [(7, .int (iI (a 44 f1.toNat))), (6, .int (iI f1)), (5, .int (iI x)), (4, .int (iI g)), (3, .int (iI pt)), (0, .ref h0), (1, .int (iI q)), (2, .int (iI u))] [] := by
                intro  vb5 ab5 bxb5 fpb5 
                refine m_iload (j := 0) C dX12_readWord_127 rfl ?_
                refine m_iconst C dX12_readWord_129 ?_
                have J4 : ∀ (g2 : Int) (vb6 : Nat → Int) (ab6 : Nat → Nat → Int), BX vb6 ab6 → fr [52, 53] [51] v a vb6 ab6 → (g2 = 0 ∨ g2 = 1) → mw p l e (rmq 3 0 0) s m args below meth c G A 9 (MQ below (Qm G A (fun rq Lq Eq => ∃ (vq : Nat → Int) (aq : Nat → Nat → Int), mI G h0 ad ln vq aq Lq Eq ∧ (fun r v2 a2 => ∃ f : Int, r = some (.int (iI f)) ∧ fr [52, 53] [51] v a v2 a2 ∧ BX v2 a2 ∧ (f = 0 ∨ f = 6 ∨ f = 9)) rq vq aq)) args s 0 0 A) h0 ad ln vb6 ab6 0 0 138 [(7, .int (iI (a 44 f1.toNat))), (6, .int (iI f1)), (5, .int (iI x)), (4, .int (iI g)), (3, .int (iI pt)), (0, .ref h0), (1, .int (iI q)), (2, .int (iI u))] [.int (iI g2)] := by
                  intro g2 vb6 ab6 bxb6 fpb6 hg2
                  refine m_istore (lv2 := [(4, .int (iI g2)), (7, .int (iI (a 44 f1.toNat))), (6, .int (iI f1)), (5, .int (iI x)), (3, .int (iI pt)), (0, .ref h0), (1, .int (iI q)), (2, .int (iI u))]) C dX12_readWord_138 (by decide) rfl ?_
                  refine m_iload (j := 1) C dX12_readWord_140 rfl ?_
                  refine m_bipush (z := (-3)) C dX12_readWord_142 (by decide) ?_
                  refine m_icmp_eq (tgt := 154) C ⟨by omega, by omega⟩ ⟨by decide, by decide⟩ dX12_readWord_144 (by decide) (fun c14 => ?_) (fun c14 => ?_)
                  · refine m_iconst C dX12_readWord_154 ?_
                    refine m_iload_n (j := 4) C dX12_readWord_155 rfl ?_
                    refine m_isub C dX12_readWord_156 ?_
                    refine m_istore_n (lv2 := [(3, .int (iI (1 - pt))), (4, .int (iI g2)), (7, .int (iI (a 44 f1.toNat))), (6, .int (iI f1)), (5, .int (iI x)), (0, .ref h0), (1, .int (iI q)), (2, .int (iI u))]) C dX12_readWord_157 (by decide) rfl ?_
                    refine m_aload_n (j := 5) C dX12_readWord_158 rfl ?_
                    refine m_iload (j := 2) C dX12_readWord_159 rfl ?_
                    refine m_bipush (z := (-3)) C dX12_readWord_161 (by decide) ?_
                    refine m_icmp_ne (tgt := 171) C ⟨by omega, by omega⟩ ⟨by decide, by decide⟩ dX12_readWord_163 (by decide) (fun z => absurd z (by omega)) (fun _ => ?_)
                    refine m_bipush (z := 60) C dX12_readWord_166 (by decide) ?_
                    refine m_goto (tgt := 173) C dX12_readWord_168 (by decide) ?_
                    refine m_call (mc2 := 0) (ms2 := 0) (As := [.int (iI 60)]) (rest := []) C (B_tell (x := 60) bxb6 (by show -2147483648 ≤ (60 : Int) ∧ (60 : Int) ≤ 2147483647; omega)) dX12_readWord_173 kV_X12_336 rfl ck_13 rfl (Nat.le_of_ble_eq_true rfl) ⟨Nat.le_of_ble_eq_true rfl, Nat.le_of_ble_eq_true rfl⟩ ⟨Nat.le_of_ble_eq_true rfl, Nat.le_of_ble_eq_true rfl⟩ (fun rh6 vh6 ah6 h6 => ?_)
                    obtain ⟨f6, rfl, fn4, bn4, ex4⟩ := h6
                    refine hv2 (fpb6.call fn4 rfl rfl) (show f6 = 0 ∨ f6 = 1 from ex4) (fun fq6 gf6 => ?_)
                    refine m_st (st2 := [.int (iI f6)]) rfl ?_
                    refine m_if_ne (tgt := 182) C (r32_01 gf6) dX12_readWord_176 (by decide) (fun c15 => ?_) (fun c15 => ?_)
                    · replace gf6 := (gf6.resolve_left c15)
                      refine m_iload (j := 4) C dX12_readWord_182 rfl ?_
                      refine m_aload_n (j := 5) C dX12_readWord_184 rfl ?_
                      refine m_geta (k := 46) C dX12_readWord_185 w6_105 (by decide) rfl ?_
                      refine m_iload (j := 3) C dX12_readWord_188 rfl ?_
                      refine m_ald (k := 46) C dX12_readWord_190 rfl rfl (by decide) (by omega) (by show _ < ((_ : Nat) : Int); simp only [mlen]; omega) (by decide) ?_
                      refine hv3 (show 0 ≤ ah6 46 f1.toNat ∧ ah6 46 f1.toNat ≤ 4 from bn4.2 46 (f1.toNat)) (show ah6 46 (f1.toNat) = ab6 46 (f1.toNat) from congrFun (fn4.2 46 rfl) (f1.toNat)) (show ab6 46 (f1.toNat) = a 46 (f1.toNat) from congrFun (fpb6.2 46 rfl) (f1.toNat)) (fun ra9 ae11 ae12 => ?_)
                      refine m_st (st2 := [.int (iI (a 46 f1.toNat)), .int (iI x)]) (congrArg (fun z => Value.int (iI z) :: [.int (iI x)]) (congrFun (fq6.2 46 rfl) (f1.toNat))) ?_
                      refine m_iadd C dX12_readWord_191 ?_
                      refine m_istore (lv2 := [(5, .int (iI (x + (a 46 f1.toNat)))), (3, .int (iI (1 - pt))), (4, .int (iI g2)), (7, .int (iI (a 44 f1.toNat))), (6, .int (iI f1)), (0, .ref h0), (1, .int (iI q)), (2, .int (iI u))]) C dX12_readWord_192 (by decide) rfl ?_
                      refine m_goto (tgt := 8) C dX12_readWord_194 (by decide) ?_
                      refine m_lv (lv2 := [(5, .int (iI (x + (a 46 f1.toNat)))), (4, .int (iI g2)), (3, .int (iI (1 - pt))), (0, .ref h0), (1, .int (iI q)), (2, .int (iI u))]) [0, 2, 1, 5, 6, 7] rfl ?_
                      exact ih1  (1 - pt) g2 (x + (a 46 f1.toNat)) _ _ (by omega) bn4 fq6 (by omega) (by omega) (by omega)
                    · clear gf6
                      refine m_bipush (z := 6) C dX12_readWord_179 (by decide) ?_
                      exact m_iret C dX12_readWord_181 rfl (Nat.le_of_ble_eq_true rfl) (Nat.le_of_ble_eq_true rfl) ⟨6, rfl, fq6, bn4, (by omega)⟩
                  · refine m_iload (j := 1) C dX12_readWord_147 rfl ?_
                    refine m_bipush (z := (-4)) C dX12_readWord_149 (by decide) ?_
                    refine m_icmp_ne (tgt := 182) C ⟨by omega, by omega⟩ ⟨by decide, by decide⟩ dX12_readWord_151 (by decide) (fun c16 => ?_) (fun c16 => ?_)
                    · refine m_iload (j := 3) C dX12_readWord_182 rfl ?_
                      refine m_aload_n (j := 5) C dX12_readWord_184 rfl ?_
                      refine m_geta (k := 46) C dX12_readWord_185 w6_105 (by decide) rfl ?_
                      refine m_iload (j := 2) C dX12_readWord_188 rfl ?_
                      refine m_ald (k := 46) C dX12_readWord_190 rfl rfl (by decide) (by omega) (by show _ < ((_ : Nat) : Int); simp only [mlen]; omega) (by decide) ?_
                      refine hv2 (show 0 ≤ ab6 46 f1.toNat ∧ ab6 46 f1.toNat ≤ 4 from bxb6.2 46 (f1.toNat)) (show ab6 46 (f1.toNat) = a 46 (f1.toNat) from congrFun (fpb6.2 46 rfl) (f1.toNat)) (fun ra10 ae13 => ?_)
                      refine m_st (st2 := [.int (iI (a 46 f1.toNat)), .int (iI x)]) (congrArg (fun z => Value.int (iI z) :: [.int (iI x)]) (congrFun (fpb6.2 46 rfl) (f1.toNat))) ?_
                      refine m_iadd C dX12_readWord_191 ?_
                      refine m_istore (lv2 := [(5, .int (iI (x + (a 46 f1.toNat)))), (4, .int (iI g2)), (7, .int (iI (a 44 f1.toNat))), (6, .int (iI f1)), (3, .int (iI pt)), (0, .ref h0), (1, .int (iI q)), (2, .int (iI u))]) C dX12_readWord_192 (by decide) rfl ?_
                      refine m_goto (tgt := 8) C dX12_readWord_194 (by decide) ?_
                      refine m_lv (lv2 := [(5, .int (iI (x + (a 46 f1.toNat)))), (4, .int (iI g2)), (3, .int (iI pt)), (0, .ref h0), (1, .int (iI q)), (2, .int (iI u))]) [0, 1, 4, 5, 6, 7] rfl ?_
                      exact ih1  pt g2 (x + (a 46 f1.toNat)) _ _ (by omega) bxb6 fpb6 (by omega) (by omega) (by omega)
                    · refine m_iconst C dX12_readWord_154 ?_
                      refine m_iload_n (j := 4) C dX12_readWord_155 rfl ?_
                      refine m_isub C dX12_readWord_156 ?_
                      refine m_istore_n (lv2 := [(3, .int (iI (1 - pt))), (4, .int (iI g2)), (7, .int (iI (a 44 f1.toNat))), (6, .int (iI f1)), (5, .int (iI x)), (0, .ref h0), (1, .int (iI q)), (2, .int (iI u))]) C dX12_readWord_157 (by decide) rfl ?_
                      refine m_aload_n (j := 5) C dX12_readWord_158 rfl ?_
                      refine m_iload (j := 2) C dX12_readWord_159 rfl ?_
                      refine m_bipush (z := (-3)) C dX12_readWord_161 (by decide) ?_
                      refine m_icmp_ne (tgt := 171) C ⟨by omega, by omega⟩ ⟨by decide, by decide⟩ dX12_readWord_163 (by decide) (fun _ => ?_) (fun z => absurd z (by omega))
                      refine m_bipush (z := 62) C dX12_readWord_171 (by decide) ?_
                      refine m_call (mc2 := 0) (ms2 := 0) (As := [.int (iI 62)]) (rest := []) C (B_tell (x := 62) bxb6 (by show -2147483648 ≤ (62 : Int) ∧ (62 : Int) ≤ 2147483647; omega)) dX12_readWord_173 kV_X12_336 rfl ck_13 rfl (Nat.le_of_ble_eq_true rfl) ⟨Nat.le_of_ble_eq_true rfl, Nat.le_of_ble_eq_true rfl⟩ ⟨Nat.le_of_ble_eq_true rfl, Nat.le_of_ble_eq_true rfl⟩ (fun rh7 vh7 ah7 h7 => ?_)
                      obtain ⟨f7, rfl, fn5, bn5, ex5⟩ := h7
                      refine hv2 (fpb6.call fn5 rfl rfl) (show f7 = 0 ∨ f7 = 1 from ex5) (fun fq7 gf7 => ?_)
                      refine m_st (st2 := [.int (iI f7)]) rfl ?_
                      refine m_if_ne (tgt := 182) C (r32_01 gf7) dX12_readWord_176 (by decide) (fun c17 => ?_) (fun c17 => ?_)
                      · replace gf7 := (gf7.resolve_left c17)
                        refine m_iload (j := 4) C dX12_readWord_182 rfl ?_
                        refine m_aload_n (j := 5) C dX12_readWord_184 rfl ?_
                        refine m_geta (k := 46) C dX12_readWord_185 w6_105 (by decide) rfl ?_
                        refine m_iload (j := 3) C dX12_readWord_188 rfl ?_
                        refine m_ald (k := 46) C dX12_readWord_190 rfl rfl (by decide) (by omega) (by show _ < ((_ : Nat) : Int); simp only [mlen]; omega) (by decide) ?_
                        refine hv3 (show 0 ≤ ah7 46 f1.toNat ∧ ah7 46 f1.toNat ≤ 4 from bn5.2 46 (f1.toNat)) (show ah7 46 (f1.toNat) = ab6 46 (f1.toNat) from congrFun (fn5.2 46 rfl) (f1.toNat)) (show ab6 46 (f1.toNat) = a 46 (f1.toNat) from congrFun (fpb6.2 46 rfl) (f1.toNat)) (fun ra11 ae14 ae15 => ?_)
                        refine m_st (st2 := [.int (iI (a 46 f1.toNat)), .int (iI x)]) (congrArg (fun z => Value.int (iI z) :: [.int (iI x)]) (congrFun (fq7.2 46 rfl) (f1.toNat))) ?_
                        refine m_iadd C dX12_readWord_191 ?_
                        refine m_istore (lv2 := [(5, .int (iI (x + (a 46 f1.toNat)))), (3, .int (iI (1 - pt))), (4, .int (iI g2)), (7, .int (iI (a 44 f1.toNat))), (6, .int (iI f1)), (0, .ref h0), (1, .int (iI q)), (2, .int (iI u))]) C dX12_readWord_192 (by decide) rfl ?_
                        refine m_goto (tgt := 8) C dX12_readWord_194 (by decide) ?_
                        refine m_lv (lv2 := [(5, .int (iI (x + (a 46 f1.toNat)))), (4, .int (iI g2)), (3, .int (iI (1 - pt))), (0, .ref h0), (1, .int (iI q)), (2, .int (iI u))]) [0, 2, 1, 5, 6, 7] rfl ?_
                        exact ih1  (1 - pt) g2 (x + (a 46 f1.toNat)) _ _ (by omega) bn5 fq7 (by omega) (by omega) (by omega)
                      · clear gf7
                        refine m_bipush (z := 6) C dX12_readWord_179 (by decide) ?_
                        exact m_iret C dX12_readWord_181 rfl (Nat.le_of_ble_eq_true rfl) (Nat.le_of_ble_eq_true rfl) ⟨6, rfl, fq7, bn5, (by omega)⟩
                refine m_icmp_ne (tgt := 137) C ⟨by omega, by omega⟩ ⟨by decide, by decide⟩ dX12_readWord_130 (by decide) (fun c18 => ?_) (fun c18 => ?_)
                · refine m_iconst C dX12_readWord_137 ?_
                  refine m_lv (lv2 := [(7, .int (iI (a 44 f1.toNat))), (6, .int (iI f1)), (5, .int (iI x)), (4, .int (iI g)), (3, .int (iI pt)), (0, .ref h0), (1, .int (iI q)), (2, .int (iI u))]) [0, 1, 2, 3, 4, 5, 6, 7] rfl ?_
                  exact J4  0 _ _  bxb5 fpb5 (by omega)
                · refine m_iconst C dX12_readWord_133 ?_
                  refine m_goto (tgt := 138) C dX12_readWord_134 (by decide) ?_
                  refine m_lv (lv2 := [(7, .int (iI (a 44 f1.toNat))), (6, .int (iI f1)), (5, .int (iI x)), (4, .int (iI g)), (3, .int (iI pt)), (0, .ref h0), (1, .int (iI q)), (2, .int (iI u))]) [0, 1, 2, 3, 4, 5, 6, 7] rfl ?_
                  exact J4  1 _ _  bxb5 fpb5 (by omega)
              refine m_iload (j := 0) C dX12_readWord_61 rfl ?_
              refine m_if_lt (tgt := 127) C ⟨by omega, by omega⟩ dX12_readWord_63 (by decide) (fun c19 => ?_) (fun c19 => ?_)
              · refine m_lv (lv2 := [(7, .int (iI (a 44 f1.toNat))), (6, .int (iI f1)), (5, .int (iI x)), (4, .int (iI g)), (3, .int (iI pt)), (0, .ref h0), (1, .int (iI q)), (2, .int (iI u))]) [0, 1, 2, 3, 4, 5, 6, 7] rfl ?_
                exact J3   _ _  bq2 fq2 
              · refine m_iconst C dX12_readWord_66 ?_
                refine m_istore (lv2 := [(8, .int (iI 0)), (7, .int (iI (a 44 f1.toNat))), (6, .int (iI f1)), (5, .int (iI x)), (4, .int (iI g)), (3, .int (iI pt)), (0, .ref h0), (1, .int (iI q)), (2, .int (iI u))]) C dX12_readWord_67 (by decide) rfl ?_
                have Lp3 : ∀ (nn : Nat) (k : Int) (vb7 : Nat → Int) (ab7 : Nat → Nat → Int), 9 - k < (nn : Int) → BX vb7 ab7 → fr [52, 53] [51] v a vb7 ab7 → (0 ≤ k ∧ k ≤ 8) → mw p l e (rmq 3 0 0) s m args below meth c G A 9 (MQ below (Qm G A (fun rq Lq Eq => ∃ (vq : Nat → Int) (aq : Nat → Nat → Int), mI G h0 ad ln vq aq Lq Eq ∧ (fun r v2 a2 => ∃ f : Int, r = some (.int (iI f)) ∧ fr [52, 53] [51] v a v2 a2 ∧ BX v2 a2 ∧ (f = 0 ∨ f = 6 ∨ f = 9)) rq vq aq)) args s 0 0 A) h0 ad ln vb7 ab7 0 0 69 [(8, .int (iI k)), (7, .int (iI (a 44 f1.toNat))), (6, .int (iI f1)), (5, .int (iI x)), (4, .int (iI g)), (3, .int (iI pt)), (0, .ref h0), (1, .int (iI q)), (2, .int (iI u))] [] := by
                  intro nn
                  induction nn with
                  | zero =>
                    intro k vb7 ab7 hm bxb7 fpb7 hk
                    exact absurd hm (by omega)
                  | succ nn ih3 =>
                    intro k vb7 ab7 hm bxb7 fpb7 hk
                    refine m_iload (j := 0) C dX12_readWord_69 rfl ?_
                    refine m_aload_n (j := 6) C dX12_readWord_71 rfl ?_
                    refine m_geta (k := 12) C dX12_readWord_72 w6_71 (by decide) rfl ?_
                    refine m_iload (j := 1) C dX12_readWord_75 rfl ?_
                    refine m_ald (k := 12) C dX12_readWord_77 rfl rfl (by decide) (by omega) (by show _ < ((_ : Nat) : Int); simp only [mlen]; omega) (by decide) ?_
                    refine hv2 (show 0 ≤ ab7 12 (a 44 f1.toNat).toNat ∧ ab7 12 (a 44 f1.toNat).toNat ≤ 8 from bxb7.2 12 ((a 44 f1.toNat).toNat)) (show ab7 12 ((a 44 f1.toNat).toNat) = a 12 ((a 44 f1.toNat).toNat) from congrFun (fpb7.2 12 rfl) ((a 44 f1.toNat).toNat)) (fun ra12 ae16 => ?_)
                    refine m_st (st2 := [.int (iI (a 12 (a 44 f1.toNat).toNat)), .int (iI k)]) (congrArg (fun z => Value.int (iI z) :: [.int (iI k)]) (congrFun (fpb7.2 12 rfl) ((a 44 f1.toNat).toNat))) ?_
                    refine m_icmp_ge (tgt := 127) C (r32_c (lo := 0) (hi := 8) hk.1 hk.2 (by decide) (by decide)) ⟨by omega, by omega⟩ dX12_readWord_78 (by decide) (fun c20 => ?_) (fun c20 => ?_)
                    · refine m_lv (lv2 := [(7, .int (iI (a 44 f1.toNat))), (6, .int (iI f1)), (5, .int (iI x)), (4, .int (iI g)), (3, .int (iI pt)), (0, .ref h0), (1, .int (iI q)), (2, .int (iI u))]) [1, 2, 3, 4, 5, 6, 7, 8] rfl ?_
                      exact J3   _ _  bxb7 fpb7 
                    · refine m_aload_n (j := 6) C dX12_readWord_81 rfl ?_
                      refine m_aload_n (j := 6) C dX12_readWord_82 rfl ?_
                      refine m_geta (k := 14) C dX12_readWord_83 w6_73 (by decide) rfl ?_
                      refine m_bipush (z := 8) C dX12_readWord_86 (by decide) ?_
                      refine m_iload (j := 1) C dX12_readWord_88 rfl ?_
                      refine m_imul C dX12_readWord_90 ?_
                      refine m_iload (j := 0) C dX12_readWord_91 rfl ?_
                      refine m_iadd C dX12_readWord_93 ?_
                      refine m_ald (k := 14) C dX12_readWord_94 rfl rfl (by decide) (by omega) (by show _ < ((_ : Nat) : Int); simp only [mlen]; omega) (by decide) ?_
                      refine hv2 (show 0 ≤ ab7 14 ((8 * (a 44 f1.toNat)) + k).toNat ∧ ab7 14 ((8 * (a 44 f1.toNat)) + k).toNat ≤ 125 from bxb7.2 14 (((8 * (a 44 f1.toNat)) + k).toNat)) (show ab7 14 (((8 * (a 44 f1.toNat)) + k).toNat) = a 14 (((8 * (a 44 f1.toNat)) + k).toNat) from congrFun (fpb7.2 14 rfl) (((8 * (a 44 f1.toNat)) + k).toNat)) (fun ra13 ae17 => ?_)
                      refine m_st (st2 := [.int (iI (a 14 ((8 * (a 44 f1.toNat)) + k).toNat)), .ref h0]) (congrArg (fun z => Value.int (iI z) :: [.ref h0]) (congrFun (fpb7.2 14 rfl) (((8 * (a 44 f1.toNat)) + k).toNat))) ?_
                      refine m_iload (j := 4) C dX12_readWord_95 rfl ?_
                      refine m_if_eq (tgt := 110) C ⟨by omega, by omega⟩ dX12_readWord_97 (by decide) (fun z => absurd z (by omega)) (fun _ => ?_)
                      refine m_iload (j := 0) C dX12_readWord_100 rfl ?_
                      refine m_if_ne (tgt := 110) C (r32_c (lo := 0) (hi := 8) hk.1 hk.2 (by decide) (by decide)) dX12_readWord_102 (by decide) (fun c21 => ?_) (fun c21 => ?_)
                      · refine m_iconst C dX12_readWord_110 ?_
                        refine m_isub C dX12_readWord_111 ?_
                        refine m_call (mc2 := 0) (ms2 := 0) (As := [.int (iI ((a 14 ((8 * (a 44 f1.toNat)) + k).toNat) - 0))]) (rest := []) C (B_tell (x := (a 14 ((8 * (a 44 f1.toNat)) + k).toNat) - 0) bxb7 (by show -2147483648 ≤ ((a 14 ((8 * (a 44 f1.toNat)) + k).toNat) - 0) ∧ ((a 14 ((8 * (a 44 f1.toNat)) + k).toNat) - 0) ≤ 2147483647; omega)) dX12_readWord_112 kV_X12_336 rfl ck_13 rfl (Nat.le_of_ble_eq_true rfl) ⟨Nat.le_of_ble_eq_true rfl, Nat.le_of_ble_eq_true rfl⟩ ⟨Nat.le_of_ble_eq_true rfl, Nat.le_of_ble_eq_true rfl⟩ (fun rh8 vh8 ah8 h8 => ?_)
                        obtain ⟨f8, rfl, fn6, bn6, ex6⟩ := h8
                        refine hv2 (fpb7.call fn6 rfl rfl) (show f8 = 0 ∨ f8 = 1 from ex6) (fun fq8 gf8 => ?_)
                        refine m_st (st2 := [.int (iI f8)]) rfl ?_
                        refine m_if_ne (tgt := 121) C (r32_01 gf8) dX12_readWord_115 (by decide) (fun c22 => ?_) (fun c22 => ?_)
                        · replace gf8 := (gf8.resolve_left c22)
                          refine m_iinc (z := k) (j := 0) (lv2 := [(8, .int (iI (k + 1))), (7, .int (iI (a 44 f1.toNat))), (6, .int (iI f1)), (5, .int (iI x)), (4, .int (iI g)), (3, .int (iI pt)), (0, .ref h0), (1, .int (iI q)), (2, .int (iI u))]) C dX12_readWord_121 rfl (by decide) rfl ?_
                          refine m_goto (tgt := 69) C dX12_readWord_124 (by decide) ?_
                          refine m_lv (lv2 := [(8, .int (iI (k + 1))), (7, .int (iI (a 44 f1.toNat))), (6, .int (iI f1)), (5, .int (iI x)), (4, .int (iI g)), (3, .int (iI pt)), (0, .ref h0), (1, .int (iI q)), (2, .int (iI u))]) [0, 1, 2, 3, 4, 5, 6, 7, 8] rfl ?_
                          exact ih3  (k + 1) _ _ (by omega) bn6 fq8 (by omega)
                        · clear gf8
                          refine m_bipush (z := 6) C dX12_readWord_118 (by decide) ?_
                          exact m_iret C dX12_readWord_120 rfl (Nat.le_of_ble_eq_true rfl) (Nat.le_of_ble_eq_true rfl) ⟨6, rfl, fq8, bn6, (by omega)⟩
                      · refine m_bipush (z := 32) C dX12_readWord_105 (by decide) ?_
                        refine m_goto (tgt := 111) C dX12_readWord_107 (by decide) ?_
                        refine m_isub C dX12_readWord_111 ?_
                        refine m_call (mc2 := 0) (ms2 := 0) (As := [.int (iI ((a 14 ((8 * (a 44 f1.toNat)) + k).toNat) - 32))]) (rest := []) C (B_tell (x := (a 14 ((8 * (a 44 f1.toNat)) + k).toNat) - 32) bxb7 (by show -2147483648 ≤ ((a 14 ((8 * (a 44 f1.toNat)) + k).toNat) - 32) ∧ ((a 14 ((8 * (a 44 f1.toNat)) + k).toNat) - 32) ≤ 2147483647; omega)) dX12_readWord_112 kV_X12_336 rfl ck_13 rfl (Nat.le_of_ble_eq_true rfl) ⟨Nat.le_of_ble_eq_true rfl, Nat.le_of_ble_eq_true rfl⟩ ⟨Nat.le_of_ble_eq_true rfl, Nat.le_of_ble_eq_true rfl⟩ (fun rh9 vh9 ah9 h9 => ?_)
                        obtain ⟨f9, rfl, fn7, bn7, ex7⟩ := h9
                        refine hv2 (fpb7.call fn7 rfl rfl) (show f9 = 0 ∨ f9 = 1 from ex7) (fun fq9 gf9 => ?_)
                        refine m_st (st2 := [.int (iI f9)]) rfl ?_
                        refine m_if_ne (tgt := 121) C (r32_01 gf9) dX12_readWord_115 (by decide) (fun c23 => ?_) (fun c23 => ?_)
                        · replace gf9 := (gf9.resolve_left c23)
                          refine m_iinc (z := k) (j := 0) (lv2 := [(8, .int (iI (k + 1))), (7, .int (iI (a 44 f1.toNat))), (6, .int (iI f1)), (5, .int (iI x)), (4, .int (iI g)), (3, .int (iI pt)), (0, .ref h0), (1, .int (iI q)), (2, .int (iI u))]) C dX12_readWord_121 rfl (by decide) rfl ?_
                          refine m_goto (tgt := 69) C dX12_readWord_124 (by decide) ?_
                          refine m_lv (lv2 := [(8, .int (iI (k + 1))), (7, .int (iI (a 44 f1.toNat))), (6, .int (iI f1)), (5, .int (iI x)), (4, .int (iI g)), (3, .int (iI pt)), (0, .ref h0), (1, .int (iI q)), (2, .int (iI u))]) [0, 1, 2, 3, 4, 5, 6, 7, 8] rfl ?_
                          exact ih3  (k + 1) _ _ (by omega) bn7 fq9 (by omega)
                        · clear gf9
                          refine m_bipush (z := 6) C dX12_readWord_118 (by decide) ?_
                          exact m_iret C dX12_readWord_120 rfl (Nat.le_of_ble_eq_true rfl) (Nat.le_of_ble_eq_true rfl) ⟨6, rfl, fq9, bn7, (by omega)⟩
                refine m_lv (lv2 := [(8, .int (iI 0)), (7, .int (iI (a 44 f1.toNat))), (6, .int (iI f1)), (5, .int (iI x)), (4, .int (iI g)), (3, .int (iI pt)), (0, .ref h0), (1, .int (iI q)), (2, .int (iI u))]) [0, 1, 2, 3, 4, 5, 6, 7, 8] rfl ?_
                exact Lp3 10 0 _ _ (by omega) bq2 fq2 (by omega)
            · clear gf5
              refine m_bipush (z := 9) C dX12_readWord_49 (by decide) ?_
              exact m_iret C dX12_readWord_51 rfl (Nat.le_of_ble_eq_true rfl) (Nat.le_of_ble_eq_true rfl) ⟨9, rfl, fq2, bq2, (by omega)⟩
  refine m_lv (lv2 := [(5, .int (iI q)), (4, .int (iI 0)), (3, .int (iI 0)), (0, .ref h0), (1, .int (iI q)), (2, .int (iI u))]) [0, 1, 2, 3, 4, 5] rfl ?_
  exact Lp1 40202 0 0 q _ _ (by omega) hB fp0 (by omega) (by omega) (by omega)
set_option maxHeartbeats 4000000 in
set_option maxRecDepth 100000 in
theorem M_readAll {l : Launch} {G : GT} {h0 : Nat} {ad ln : Nat → Nat} {v : Nat → Int} {a : Nat → Nat → Int}  (hB : BX v a) (hW : RWS a) : Mm l G yX12_readAll cX12_readAll 5 (some .int) 4 [] h0 ad ln v a 0 0 (fun r v2 a2 => ∃ f : Int, r = some (.int (iI f)) ∧ fr [52, 53] [51] v a v2 a2 ∧ BX v2 a2 ∧ (f = 0 ∨ f = 6 ∨ f = 9)) := by
  refine Mm.mk (by decide) (Nat.le_of_ble_eq_true rfl) ?_
  intro p e s m args below meth c A C
  refine hv2 (show 0 ≤ v 50 ∧ v 50 ≤ 40200 from hB.1 50) (show fr [52, 53] [51] v a v a from fr.refl) (fun r50 fp0 => ?_)
  refine m_aload_n (j := 0) C dX12_readAll_0 rfl ?_
  refine m_iconst C dX12_readAll_1 ?_
  refine m_put (k := 52) (z := 0) C dX12_readAll_2 w6_111 (by decide) rfl rfl rfl ?_
  refine hv2 (show BX (va_up v 52 0) a from hB.put (k := 52) (z := 0) ⟨by decide, by decide⟩) (fp0.put (k := 52) (z := 0) rfl) (fun bq1 fq1 => ?_)
  refine m_iconst C dX12_readAll_5 ?_
  refine m_istore_n (lv2 := [(1, .int (iI 0)), (0, .ref h0)]) C dX12_readAll_6 (by decide) rfl ?_
  refine m_iconst C dX12_readAll_7 ?_
  refine m_istore_n (lv2 := [(2, .int (iI 0)), (1, .int (iI 0)), (0, .ref h0)]) C dX12_readAll_8 (by decide) rfl ?_
  have Lp1 : ∀ (nn : Nat) (g x : Int) (vb1 : Nat → Int) (ab1 : Nat → Nat → Int), 40201 - x < (nn : Int) → BX vb1 ab1 → fr [52, 53] [51] v a vb1 ab1 → (g = 0 ∨ g = 1) → (0 ≤ x ∧ x ≤ v 50) → mw p l e (rmq 4 0 0) s m args below meth c G A 5 (MQ below (Qm G A (fun rq Lq Eq => ∃ (vq : Nat → Int) (aq : Nat → Nat → Int), mI G h0 ad ln vq aq Lq Eq ∧ (fun r v2 a2 => ∃ f : Int, r = some (.int (iI f)) ∧ fr [52, 53] [51] v a v2 a2 ∧ BX v2 a2 ∧ (f = 0 ∨ f = 6 ∨ f = 9)) rq vq aq)) args s 0 0 A) h0 ad ln vb1 ab1 0 0 9 [(2, .int (iI x)), (1, .int (iI g)), (0, .ref h0)] [] := by
    intro nn
    induction nn with
    | zero =>
      intro g x vb1 ab1 hm bxb1 fpb1 hg hx
      exact absurd hm (by omega)
    | succ nn ih1 =>
      intro g x vb1 ab1 hm bxb1 fpb1 hg hx
      refine m_iload_n (j := 0) C dX12_readAll_9 rfl ?_
      refine m_aload_n (j := 2) C dX12_readAll_10 rfl ?_
      refine hv2 (show 0 ≤ vb1 50 ∧ vb1 50 ≤ 40200 from bxb1.1 50) (show vb1 50 = v 50 from fpb1.1 50 rfl) (fun rv1 ve1 => ?_)
      refine m_get (k := 50) C dX12_readAll_11 w6_109 (by decide) rfl ?_
      refine m_st (st2 := [.int (iI (v 50)), .int (iI x)]) (congrArg (fun z => Value.int (iI z) :: [.int (iI x)]) (fpb1.1 50 rfl)) ?_
      refine m_icmp_ge (tgt := 96) C ⟨by omega, by omega⟩ (r32_c (lo := 0) (hi := 40200) (Int.le_trans rv1.1 (Int.le_of_eq ve1)) (Int.le_trans (Int.le_of_eq ve1.symm) rv1.2) (by decide) (by decide)) dX12_readAll_14 (by decide) (fun c1 => ?_) (fun c1 => ?_)
      · refine m_iconst C dX12_readAll_96 ?_
        exact m_iret C dX12_readAll_97 rfl (Nat.le_of_ble_eq_true rfl) (Nat.le_of_ble_eq_true rfl) ⟨0, rfl, fpb1, bxb1, (by omega)⟩
      · refine m_aload_n (j := 2) C dX12_readAll_17 rfl ?_
        refine m_geta (k := 48) C dX12_readAll_18 w6_107 (by decide) rfl ?_
        refine m_iload_n (j := 0) C dX12_readAll_21 rfl ?_
        refine m_ald (k := 48) C dX12_readAll_22 rfl rfl (by decide) (by omega) (by show _ < ((_ : Nat) : Int); simp only [mlen]; omega) (by decide) ?_
        refine hv2 (show (-2147483648) ≤ ab1 48 x.toNat ∧ ab1 48 x.toNat ≤ 2147483647 from bxb1.2 48 (x.toNat)) (show ab1 48 (x.toNat) = a 48 (x.toNat) from congrFun (fpb1.2 48 rfl) (x.toNat)) (fun ra1 ae1 => ?_)
        refine m_st (st2 := [.int (iI (a 48 x.toNat))]) (congrArg (fun z => Value.int (iI z) :: []) (congrFun (fpb1.2 48 rfl) (x.toNat))) ?_
        refine m_if_ne (tgt := 32) C ⟨by omega, by omega⟩ dX12_readAll_23 (by decide) (fun c2 => ?_) (fun c2 => ?_)
        · refine m_iload_n (j := 0) C dX12_readAll_32 rfl ?_
          refine m_istore_n (lv2 := [(3, .int (iI x)), (2, .int (iI x)), (1, .int (iI g)), (0, .ref h0)]) C dX12_readAll_33 (by decide) rfl ?_
          have Lp2 : ∀ (nn : Nat) (y : Int) (vb2 : Nat → Int) (ab2 : Nat → Nat → Int), 40201 - y < (nn : Int) → BX vb2 ab2 → fr [52, 53] [51] v a vb2 ab2 → (x ≤ y ∧ y ≤ v 50) → (x < y ∨ (y = x ∧ ¬ a 48 y.toNat = 0)) → mw p l e (rmq 4 0 0) s m args below meth c G A 5 (MQ below (Qm G A (fun rq Lq Eq => ∃ (vq : Nat → Int) (aq : Nat → Nat → Int), mI G h0 ad ln vq aq Lq Eq ∧ (fun r v2 a2 => ∃ f : Int, r = some (.int (iI f)) ∧ fr [52, 53] [51] v a v2 a2 ∧ BX v2 a2 ∧ (f = 0 ∨ f = 6 ∨ f = 9)) rq vq aq)) args s 0 0 A) h0 ad ln vb2 ab2 0 0 34 [(3, .int (iI y)), (2, .int (iI x)), (1, .int (iI g)), (0, .ref h0)] [] := by
            intro nn
            induction nn with
            | zero =>
              intro y vb2 ab2 hm bxb2 fpb2 hy hy2
              exact absurd hm (by omega)
            | succ nn ih2 =>
              intro y vb2 ab2 hm bxb2 fpb2 hy hy2
              refine m_iload_n (j := 0) C dX12_readAll_34 rfl ?_
              refine m_aload_n (j := 3) C dX12_readAll_35 rfl ?_
              refine hv2 (show 0 ≤ vb2 50 ∧ vb2 50 ≤ 40200 from bxb2.1 50) (show vb2 50 = v 50 from fpb2.1 50 rfl) (fun rv2 ve2 => ?_)
              refine m_get (k := 50) C dX12_readAll_36 w6_109 (by decide) rfl ?_
              refine m_st (st2 := [.int (iI (v 50)), .int (iI y)]) (congrArg (fun z => Value.int (iI z) :: [.int (iI y)]) (fpb2.1 50 rfl)) ?_
              refine m_icmp_ge (tgt := 57) C ⟨by omega, by omega⟩ (r32_c (lo := 0) (hi := 40200) (Int.le_trans rv1.1 (Int.le_of_eq ve1)) (Int.le_trans (Int.le_of_eq ve1.symm) rv1.2) (by decide) (by decide)) dX12_readAll_39 (by decide) (fun c3 => ?_) (fun c3 => ?_)
              · refine m_iload_n (j := 2) C dX12_readAll_57 rfl ?_
                refine m_if_eq (tgt := 73) C (r32_01 hg) dX12_readAll_58 (by decide) (fun c4 => ?_) (fun c4 => ?_)
                · clear hg
                  refine m_iconst C dX12_readAll_73 ?_
                  refine m_istore_n (lv2 := [(1, .int (iI 1)), (3, .int (iI y)), (2, .int (iI x)), (0, .ref h0)]) C dX12_readAll_74 (by decide) rfl ?_
                  refine m_aload_n (j := 3) C dX12_readAll_75 rfl ?_
                  refine m_iload_n (j := 2) C dX12_readAll_76 rfl ?_
                  refine m_iload_n (j := 1) C dX12_readAll_77 rfl ?_
                  refine m_call (mc2 := 0) (ms2 := 0) (As := [.int (iI x), .int (iI y)]) (rest := []) C (M_readWord (q := x) (u := y) bxb2 (RWS.fr hW fpb2 rfl) (by show 0 ≤ x ∧ x ≤ y ∧ y ≤ 40200; omega)) dX12_readAll_78 kV_X12_339 rfl ck_13 rfl (Nat.le_of_ble_eq_true rfl) ⟨Nat.le_of_ble_eq_true rfl, Nat.le_of_ble_eq_true rfl⟩ ⟨Nat.le_of_ble_eq_true rfl, Nat.le_of_ble_eq_true rfl⟩ (fun rh1 vh1 ah1 h1 => ?_)
                  obtain ⟨f1, rfl, fn1, bn1, ex1⟩ := h1
                  refine hv2 (fpb2.call fn1 rfl rfl) (show f1 = 0 ∨ f1 = 6 ∨ f1 = 9 from ex1) (fun fq2 gf1 => ?_)
                  refine m_st (st2 := [.int (iI f1)]) rfl ?_
                  refine m_istore (lv2 := [(4, .int (iI f1)), (1, .int (iI 1)), (3, .int (iI y)), (2, .int (iI x)), (0, .ref h0)]) C dX12_readAll_81 (by decide) rfl ?_
                  refine m_iload (j := 0) C dX12_readAll_83 rfl ?_
                  refine m_if_le (tgt := 91) C ⟨by omega, by omega⟩ dX12_readAll_85 (by decide) (fun c5 => ?_) (fun c5 => ?_)
                  · refine m_iload_n (j := 2) C dX12_readAll_91 rfl ?_
                    refine m_istore_n (lv2 := [(2, .int (iI y)), (4, .int (iI f1)), (1, .int (iI 1)), (3, .int (iI y)), (0, .ref h0)]) C dX12_readAll_92 (by decide) rfl ?_
                    refine m_goto (tgt := 9) C dX12_readAll_93 (by decide) ?_
                    refine m_lv (lv2 := [(2, .int (iI y)), (1, .int (iI 1)), (0, .ref h0)]) [0, 2, 4] rfl ?_
                    exact ih1  1 y _ _ (by omega) bn1 fq2 (by omega) (by omega)
                  · refine m_iload (j := 0) C dX12_readAll_88 rfl ?_
                    exact m_iret C dX12_readAll_90 rfl (Nat.le_of_ble_eq_true rfl) (Nat.le_of_ble_eq_true rfl) ⟨f1, rfl, fq2, bn1, (by omega)⟩
                · replace hg := (hg.resolve_left c4)
                  refine m_aload_n (j := 3) C dX12_readAll_61 rfl ?_
                  refine m_bipush (z := 32) C dX12_readAll_62 (by decide) ?_
                  refine m_call (mc2 := 0) (ms2 := 0) (As := [.int (iI 32)]) (rest := []) C (B_tell (x := 32) bxb2 (by show -2147483648 ≤ (32 : Int) ∧ (32 : Int) ≤ 2147483647; omega)) dX12_readAll_64 kV_X12_336 rfl ck_13 rfl (Nat.le_of_ble_eq_true rfl) ⟨Nat.le_of_ble_eq_true rfl, Nat.le_of_ble_eq_true rfl⟩ ⟨Nat.le_of_ble_eq_true rfl, Nat.le_of_ble_eq_true rfl⟩ (fun rh2 vh2 ah2 h2 => ?_)
                  obtain ⟨f2, rfl, fn2, bn2, ex2⟩ := h2
                  refine hv2 (fpb2.call fn2 rfl rfl) (show f2 = 0 ∨ f2 = 1 from ex2) (fun fq3 gf2 => ?_)
                  refine m_st (st2 := [.int (iI f2)]) rfl ?_
                  refine m_if_ne (tgt := 73) C (r32_01 gf2) dX12_readAll_67 (by decide) (fun c6 => ?_) (fun c6 => ?_)
                  · replace gf2 := (gf2.resolve_left c6)
                    refine m_iconst C dX12_readAll_73 ?_
                    refine m_istore_n (lv2 := [(1, .int (iI 1)), (3, .int (iI y)), (2, .int (iI x)), (0, .ref h0)]) C dX12_readAll_74 (by decide) rfl ?_
                    refine m_aload_n (j := 3) C dX12_readAll_75 rfl ?_
                    refine m_iload_n (j := 2) C dX12_readAll_76 rfl ?_
                    refine m_iload_n (j := 1) C dX12_readAll_77 rfl ?_
                    refine m_call (mc2 := 0) (ms2 := 0) (As := [.int (iI x), .int (iI y)]) (rest := []) C (M_readWord (q := x) (u := y) bn2 (RWS.fr hW fq3 rfl) (by show 0 ≤ x ∧ x ≤ y ∧ y ≤ 40200; omega)) dX12_readAll_78 kV_X12_339 rfl ck_13 rfl (Nat.le_of_ble_eq_true rfl) ⟨Nat.le_of_ble_eq_true rfl, Nat.le_of_ble_eq_true rfl⟩ ⟨Nat.le_of_ble_eq_true rfl, Nat.le_of_ble_eq_true rfl⟩ (fun rh3 vh3 ah3 h3 => ?_)
                    obtain ⟨f3, rfl, fn3, bn3, ex3⟩ := h3
                    refine hv2 (fq3.call fn3 rfl rfl) (show f3 = 0 ∨ f3 = 6 ∨ f3 = 9 from ex3) (fun fq4 gf3 => ?_)
                    refine m_st (st2 := [.int (iI f3)]) rfl ?_
                    refine m_istore (lv2 := [(4, .int (iI f3)), (1, .int (iI 1)), (3, .int (iI y)), (2, .int (iI x)), (0, .ref h0)]) C dX12_readAll_81 (by decide) rfl ?_
                    refine m_iload (j := 0) C dX12_readAll_83 rfl ?_
                    refine m_if_le (tgt := 91) C ⟨by omega, by omega⟩ dX12_readAll_85 (by decide) (fun c7 => ?_) (fun c7 => ?_)
                    · refine m_iload_n (j := 2) C dX12_readAll_91 rfl ?_
                      refine m_istore_n (lv2 := [(2, .int (iI y)), (4, .int (iI f3)), (1, .int (iI 1)), (3, .int (iI y)), (0, .ref h0)]) C dX12_readAll_92 (by decide) rfl ?_
                      refine m_goto (tgt := 9) C dX12_readAll_93 (by decide) ?_
                      refine m_lv (lv2 := [(2, .int (iI y)), (1, .int (iI 1)), (0, .ref h0)]) [0, 2, 4] rfl ?_
                      exact ih1  1 y _ _ (by omega) bn3 fq4 (by omega) (by omega)
                    · refine m_iload (j := 0) C dX12_readAll_88 rfl ?_
                      exact m_iret C dX12_readAll_90 rfl (Nat.le_of_ble_eq_true rfl) (Nat.le_of_ble_eq_true rfl) ⟨f3, rfl, fq4, bn3, (by omega)⟩
                  · clear gf2
                    refine m_bipush (z := 6) C dX12_readAll_70 (by decide) ?_
                    exact m_iret C dX12_readAll_72 rfl (Nat.le_of_ble_eq_true rfl) (Nat.le_of_ble_eq_true rfl) ⟨6, rfl, fq3, bn2, (by omega)⟩
              · refine m_aload_n (j := 3) C dX12_readAll_42 rfl ?_
                refine m_geta (k := 48) C dX12_readAll_43 w6_107 (by decide) rfl ?_
                refine m_iload_n (j := 0) C dX12_readAll_46 rfl ?_
                refine m_ald (k := 48) C dX12_readAll_47 rfl rfl (by decide) (by omega) (by show _ < ((_ : Nat) : Int); simp only [mlen]; omega) (by decide) ?_
                refine hv2 (show (-2147483648) ≤ ab2 48 y.toNat ∧ ab2 48 y.toNat ≤ 2147483647 from bxb2.2 48 (y.toNat)) (show ab2 48 (y.toNat) = a 48 (y.toNat) from congrFun (fpb2.2 48 rfl) (y.toNat)) (fun ra2 ae2 => ?_)
                refine m_st (st2 := [.int (iI (a 48 y.toNat))]) (congrArg (fun z => Value.int (iI z) :: []) (congrFun (fpb2.2 48 rfl) (y.toNat))) ?_
                refine m_if_eq (tgt := 57) C ⟨by omega, by omega⟩ dX12_readAll_48 (by decide) (fun c8 => ?_) (fun c8 => ?_)
                · refine m_iload_n (j := 2) C dX12_readAll_57 rfl ?_
                  refine m_if_eq (tgt := 73) C (r32_01 hg) dX12_readAll_58 (by decide) (fun c9 => ?_) (fun c9 => ?_)
                  · clear hg
                    refine m_iconst C dX12_readAll_73 ?_
                    refine m_istore_n (lv2 := [(1, .int (iI 1)), (3, .int (iI y)), (2, .int (iI x)), (0, .ref h0)]) C dX12_readAll_74 (by decide) rfl ?_
                    refine m_aload_n (j := 3) C dX12_readAll_75 rfl ?_
                    refine m_iload_n (j := 2) C dX12_readAll_76 rfl ?_
                    refine m_iload_n (j := 1) C dX12_readAll_77 rfl ?_
                    refine m_call (mc2 := 0) (ms2 := 0) (As := [.int (iI x), .int (iI y)]) (rest := []) C (M_readWord (q := x) (u := y) bxb2 (RWS.fr hW fpb2 rfl) (by show 0 ≤ x ∧ x ≤ y ∧ y ≤ 40200; omega)) dX12_readAll_78 kV_X12_339 rfl ck_13 rfl (Nat.le_of_ble_eq_true rfl) ⟨Nat.le_of_ble_eq_true rfl, Nat.le_of_ble_eq_true rfl⟩ ⟨Nat.le_of_ble_eq_true rfl, Nat.le_of_ble_eq_true rfl⟩ (fun rh4 vh4 ah4 h4 => ?_)
                    obtain ⟨f4, rfl, fn4, bn4, ex4⟩ := h4
                    refine hv2 (fpb2.call fn4 rfl rfl) (show f4 = 0 ∨ f4 = 6 ∨ f4 = 9 from ex4) (fun fq5 gf4 => ?_)
                    refine m_st (st2 := [.int (iI f4)]) rfl ?_
                    refine m_istore (lv2 := [(4, .int (iI f4)), (1, .int (iI 1)), (3, .int (iI y)), (2, .int (iI x)), (0, .ref h0)]) C dX12_readAll_81 (by decide) rfl ?_
                    refine m_iload (j := 0) C dX12_readAll_83 rfl ?_
                    refine m_if_le (tgt := 91) C ⟨by omega, by omega⟩ dX12_readAll_85 (by decide) (fun c10 => ?_) (fun c10 => ?_)
                    · refine m_iload_n (j := 2) C dX12_readAll_91 rfl ?_
                      refine m_istore_n (lv2 := [(2, .int (iI y)), (4, .int (iI f4)), (1, .int (iI 1)), (3, .int (iI y)), (0, .ref h0)]) C dX12_readAll_92 (by decide) rfl ?_
                      refine m_goto (tgt := 9) C dX12_readAll_93 (by decide) ?_
                      refine m_lv (lv2 := [(2, .int (iI y)), (1, .int (iI 1)), (0, .ref h0)]) [0, 2, 4] rfl ?_
                      exact ih1  1 y _ _ (by omega) bn4 fq5 (by omega) (by omega)
                    · refine m_iload (j := 0) C dX12_readAll_88 rfl ?_
                      exact m_iret C dX12_readAll_90 rfl (Nat.le_of_ble_eq_true rfl) (Nat.le_of_ble_eq_true rfl) ⟨f4, rfl, fq5, bn4, (by omega)⟩
                  · replace hg := (hg.resolve_left c9)
                    refine m_aload_n (j := 3) C dX12_readAll_61 rfl ?_
                    refine m_bipush (z := 32) C dX12_readAll_62 (by decide) ?_
                    refine m_call (mc2 := 0) (ms2 := 0) (As := [.int (iI 32)]) (rest := []) C (B_tell (x := 32) bxb2 (by show -2147483648 ≤ (32 : Int) ∧ (32 : Int) ≤ 2147483647; omega)) dX12_readAll_64 kV_X12_336 rfl ck_13 rfl (Nat.le_of_ble_eq_true rfl) ⟨Nat.le_of_ble_eq_true rfl, Nat.le_of_ble_eq_true rfl⟩ ⟨Nat.le_of_ble_eq_true rfl, Nat.le_of_ble_eq_true rfl⟩ (fun rh5 vh5 ah5 h5 => ?_)
                    obtain ⟨f5, rfl, fn5, bn5, ex5⟩ := h5
                    refine hv2 (fpb2.call fn5 rfl rfl) (show f5 = 0 ∨ f5 = 1 from ex5) (fun fq6 gf5 => ?_)
                    refine m_st (st2 := [.int (iI f5)]) rfl ?_
                    refine m_if_ne (tgt := 73) C (r32_01 gf5) dX12_readAll_67 (by decide) (fun c11 => ?_) (fun c11 => ?_)
                    · replace gf5 := (gf5.resolve_left c11)
                      refine m_iconst C dX12_readAll_73 ?_
                      refine m_istore_n (lv2 := [(1, .int (iI 1)), (3, .int (iI y)), (2, .int (iI x)), (0, .ref h0)]) C dX12_readAll_74 (by decide) rfl ?_
                      refine m_aload_n (j := 3) C dX12_readAll_75 rfl ?_
                      refine m_iload_n (j := 2) C dX12_readAll_76 rfl ?_
                      refine m_iload_n (j := 1) C dX12_readAll_77 rfl ?_
                      refine m_call (mc2 := 0) (ms2 := 0) (As := [.int (iI x), .int (iI y)]) (rest := []) C (M_readWord (q := x) (u := y) bn5 (RWS.fr hW fq6 rfl) (by show 0 ≤ x ∧ x ≤ y ∧ y ≤ 40200; omega)) dX12_readAll_78 kV_X12_339 rfl ck_13 rfl (Nat.le_of_ble_eq_true rfl) ⟨Nat.le_of_ble_eq_true rfl, Nat.le_of_ble_eq_true rfl⟩ ⟨Nat.le_of_ble_eq_true rfl, Nat.le_of_ble_eq_true rfl⟩ (fun rh6 vh6 ah6 h6 => ?_)
                      obtain ⟨f6, rfl, fn6, bn6, ex6⟩ := h6
                      refine hv2 (fq6.call fn6 rfl rfl) (show f6 = 0 ∨ f6 = 6 ∨ f6 = 9 from ex6) (fun fq7 gf6 => ?_)
                      refine m_st (st2 := [.int (iI f6)]) rfl ?_
                      refine m_istore (lv2 := [(4, .int (iI f6)), (1, .int (iI 1)), (3, .int (iI y)), (2, .int (iI x)), (0, .ref h0)]) C dX12_readAll_81 (by decide) rfl ?_
                      refine m_iload (j := 0) C dX12_readAll_83 rfl ?_
                      refine m_if_le (tgt := 91) C ⟨by omega, by omega⟩ dX12_readAll_85 (by decide) (fun c12 => ?_) (fun c12 => ?_)
                      · refine m_iload_n (j := 2) C dX12_readAll_91 rfl ?_
                        refine m_istore_n (lv2 := [(2, .int (iI y)), (4, .int (iI f6)), (1, .int (iI 1)), (3, .int (iI y)), (0, .ref h0)]) C dX12_readAll_92 (by decide) rfl ?_
                        refine m_goto (tgt := 9) C dX12_readAll_93 (by decide) ?_
                        refine m_lv (lv2 := [(2, .int (iI y)), (1, .int (iI 1)), (0, .ref h0)]) [0, 2, 4] rfl ?_
                        exact ih1  1 y _ _ (by omega) bn6 fq7 (by omega) (by omega)
                      · refine m_iload (j := 0) C dX12_readAll_88 rfl ?_
                        exact m_iret C dX12_readAll_90 rfl (Nat.le_of_ble_eq_true rfl) (Nat.le_of_ble_eq_true rfl) ⟨f6, rfl, fq7, bn6, (by omega)⟩
                    · clear gf5
                      refine m_bipush (z := 6) C dX12_readAll_70 (by decide) ?_
                      exact m_iret C dX12_readAll_72 rfl (Nat.le_of_ble_eq_true rfl) (Nat.le_of_ble_eq_true rfl) ⟨6, rfl, fq6, bn5, (by omega)⟩
                · refine m_iinc (z := y) (j := 0) (lv2 := [(3, .int (iI (y + 1))), (2, .int (iI x)), (1, .int (iI g)), (0, .ref h0)]) C dX12_readAll_51 rfl (by decide) rfl ?_
                  refine m_goto (tgt := 34) C dX12_readAll_54 (by decide) ?_
                  refine m_lv (lv2 := [(3, .int (iI (y + 1))), (2, .int (iI x)), (1, .int (iI g)), (0, .ref h0)]) [0, 1, 2, 3] rfl ?_
                  exact ih2  (y + 1) _ _ (by omega) bxb2 fpb2 (by omega) (by omega)
          refine m_lv (lv2 := [(3, .int (iI x)), (2, .int (iI x)), (1, .int (iI g)), (0, .ref h0)]) [0, 1, 2, 3] rfl ?_
          exact Lp2 40202 x _ _ (by omega) bxb1 fpb1 (by omega) (by omega)
        · refine m_iinc (z := x) (j := 0) (lv2 := [(2, .int (iI (x + 1))), (1, .int (iI g)), (0, .ref h0)]) C dX12_readAll_26 rfl (by decide) rfl ?_
          refine m_goto (tgt := 9) C dX12_readAll_29 (by decide) ?_
          refine m_lv (lv2 := [(2, .int (iI (x + 1))), (1, .int (iI g)), (0, .ref h0)]) [0, 1, 2] rfl ?_
          exact ih1  g (x + 1) _ _ (by omega) bxb1 fpb1 (by omega) (by omega)
  refine m_lv (lv2 := [(2, .int (iI 0)), (1, .int (iI 0)), (0, .ref h0)]) [0, 1, 2] rfl ?_
  exact Lp1 40202 0 0 _ _ (by omega) bq1 fq1 (by omega) (by omega)
end
