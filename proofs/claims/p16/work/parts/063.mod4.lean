set_option maxHeartbeats 4000000 in
set_option maxRecDepth 100000 in
theorem Lp_putInd {p : Program} {l : Launch} {e : Env} {s : State} {m : MethodId} {args : Array Value} {below : List Frame} {meth : Method} {c : Code} {G : GT} {A : Nat → Prop} {h0 : Nat} {ad ln : Nat → Nat} {v0 : Nat → Int} {a0 : Nat → Nat → Int} {t w1 : Int} (ht : 0 ≤ t ∧ t < 30) (hw : 0 ≤ w1 ∧ w1 ≤ 3) (h16 : 0 ≤ a0 16 (4 * t + w1).toNat ∧ a0 16 (4 * t + w1).toNat ≤ 4) (h25 : 0 ≤ v0 25 ∧ v0 25 ≤ 6000) (C : Cq p s m args meth c cX12_putIndicator yX12_putIndicator none G A 5) : ∀ (n : Nat) (k : Int) (v : Nat → Int) (a : Nat → Nat → Int), 5 - k < (n : Int) → (0 ≤ k ∧ k ≤ a0 16 (4 * t + w1).toNat) → v = v0 → (∀ j, j ≠ 24 → a j = a0 j) → RG v a → mw p l e (rmq 0 0 0) s m args below meth c G A 5 (MQ below (Qm G A (fun rq Lq Eq => ∃ (vq : Nat → Int) (aq : Nat → Nat → Int), mI G h0 ad ln vq aq Lq Eq ∧ (fun r v2 a2 => r = none ∧ v2 = va_up v0 25 (v0 25 + a0 16 (4 * t + w1).toNat) ∧ (∀ j, j ≠ 24 → a2 j = a0 j) ∧ RG v2 a2) rq vq aq)) args s 0 0 A) h0 ad ln v a 0 0 9 [(4, .int (iI k)), (3, .int (iI (4 * t + w1))), (0, .ref h0), (1, .int (iI t)), (2, .int (iI w1))] [] := by
  intro n
  induction n with
  | zero =>
    intro k  v a hm hk ev ha hr
    refine hv2 (show v 25 = v0 25 from by rw [ev]) (show a 16 (4 * t + w1).toNat = a0 16 (4 * t + w1).toNat from congrFun (ha 16 (by decide)) _) (fun q25 q16 => ?_)
    exact absurd hm (by omega)
  | succ n ih =>
    intro k  v a hm hk ev ha hr
    refine hv2 (show v 25 = v0 25 from by rw [ev]) (show a 16 (4 * t + w1).toNat = a0 16 (4 * t + w1).toNat from congrFun (ha 16 (by decide)) _) (fun q25 q16 => ?_)
    refine m_iload (j := 0) C dX12_putIndicator_9 rfl ?_
    refine m_aload_n (j := 2) C dX12_putIndicator_11 rfl ?_
    refine m_geta (k := 16) C dX12_putIndicator_12 w6_75 (by decide) rfl ?_
    refine m_iload_n (j := 1) C dX12_putIndicator_15 rfl ?_
    refine m_ald (k := 16) C dX12_putIndicator_16 rfl rfl (by decide) (by omega) (by show _ < ((_ : Nat) : Int); simp only [mlen]; omega) (by decide) ?_
    have ra1 := hr.2 16 ((4 * t + w1).toNat)
    refine m_icmp_ge (tgt := 49) C ⟨by omega, by omega⟩ ⟨by omega, by omega⟩ dX12_putIndicator_17 (by decide) (fun c1 => ?_) (fun c1 => ?_)
    · refine m_aload_n (j := 2) C dX12_putIndicator_49 rfl ?_
      refine m_dup C dX12_putIndicator_50 rfl ?_
      have rv25 := hr.1 25
      refine m_get (k := 25) C dX12_putIndicator_51 w6_84 (by decide) rfl ?_
      refine m_aload_n (j := 2) C dX12_putIndicator_54 rfl ?_
      refine m_geta (k := 16) C dX12_putIndicator_55 w6_75 (by decide) rfl ?_
      refine m_iload_n (j := 1) C dX12_putIndicator_58 rfl ?_
      refine m_ald (k := 16) C dX12_putIndicator_59 rfl rfl (by decide) (by omega) (by show _ < ((_ : Nat) : Int); simp only [mlen]; omega) (by decide) ?_
      have ra2 := hr.2 16 ((4 * t + w1).toNat)
      refine m_iadd C dX12_putIndicator_60 ?_
      refine m_put (k := 25) (z := (v 25) + (a 16 (4 * t + w1).toNat)) C dX12_putIndicator_61 w6_84 (by decide) rfl rfl rfl ?_
      exact m_vret C dX12_putIndicator_64 rfl (Nat.le_of_ble_eq_true rfl) (Nat.le_of_ble_eq_true rfl) ⟨rfl, (by rw [ev, q16]), ha, (hr.put ⟨by omega, by omega⟩)⟩
    · refine m_aload_n (j := 2) C dX12_putIndicator_20 rfl ?_
      refine m_geta (k := 24) C dX12_putIndicator_21 w6_83 (by decide) rfl ?_
      refine m_aload_n (j := 2) C dX12_putIndicator_24 rfl ?_
      have rv25 := hr.1 25
      refine m_get (k := 25) C dX12_putIndicator_25 w6_84 (by decide) rfl ?_
      refine m_iload (j := 0) C dX12_putIndicator_28 rfl ?_
      refine m_iadd C dX12_putIndicator_30 ?_
      refine m_aload_n (j := 2) C dX12_putIndicator_31 rfl ?_
      refine m_geta (k := 17) C dX12_putIndicator_32 w6_76 (by decide) rfl ?_
      refine m_iconst C dX12_putIndicator_35 ?_
      refine m_iload_n (j := 1) C dX12_putIndicator_36 rfl ?_
      refine m_imul C dX12_putIndicator_37 ?_
      refine m_iload (j := 0) C dX12_putIndicator_38 rfl ?_
      refine m_iadd C dX12_putIndicator_40 ?_
      refine m_ald (k := 17) C dX12_putIndicator_41 rfl rfl (by decide) (by omega) (by show _ < ((_ : Nat) : Int); simp only [mlen]; omega) (by decide) ?_
      have ra3 := hr.2 17 (((4 * (4 * t + w1)) + k).toNat)
      refine m_ast (k := 24) C dX12_putIndicator_42 rfl rfl (by decide) (by omega) (by show _ < ((_ : Nat) : Int); simp only [mlen]; omega) (by decide) ?_
      refine m_iinc (z := k) (j := 0) (lv2 := [(4, .int (iI (k + 1))), (3, .int (iI (4 * t + w1))), (0, .ref h0), (1, .int (iI t)), (2, .int (iI w1))]) C dX12_putIndicator_43 rfl (by decide) rfl ?_
      refine m_goto (tgt := 9) C dX12_putIndicator_46 (by decide) ?_
      refine m_lv (lv2 := [(4, .int (iI (k + 1))), (3, .int (iI (4 * t + w1))), (0, .ref h0), (1, .int (iI t)), (2, .int (iI w1))]) [0, 1, 2, 3, 4] rfl ?_
      exact ih (k + 1) _ _ (by omega) (by omega) ev (fun j hj => (funext fun i => up2_k hj).trans (ha j hj)) (hr.set (hr.2 17 _))
set_option maxHeartbeats 4000000 in
set_option maxRecDepth 100000 in
theorem M_putIndicator {l : Launch} {G : GT} {h0 : Nat} {ad ln : Nat → Nat} {v : Nat → Int} {a : Nat → Nat → Int} {t w1 : Int} (hR : RG v a) (ht : 0 ≤ t ∧ t < 30) (hw : 0 ≤ w1 ∧ w1 ≤ 3) (h16 : 0 ≤ a 16 (4 * t + w1).toNat ∧ a 16 (4 * t + w1).toNat ≤ 4) (h25 : 0 ≤ v 25 ∧ v 25 ≤ 6000) : Mm l G yX12_putIndicator cX12_putIndicator 5 none 0 [.int (iI t), .int (iI w1)] h0 ad ln v a 0 0 (fun r v2 a2 => r = none ∧ v2 = va_up v 25 (v 25 + a 16 (4 * t + w1).toNat) ∧ (∀ j, j ≠ 24 → a2 j = a j) ∧ RG v2 a2) := by
  refine Mm.mk (by decide) (Nat.le_of_ble_eq_true rfl) ?_
  intro p e s m args below meth c A C
  refine m_iconst C dX12_putIndicator_0 ?_
  refine m_iload_n (j := 1) C dX12_putIndicator_1 rfl ?_
  refine m_imul C dX12_putIndicator_2 ?_
  refine m_iload_n (j := 2) C dX12_putIndicator_3 rfl ?_
  refine m_iadd C dX12_putIndicator_4 ?_
  refine m_istore_n (lv2 := [(3, .int (iI ((4 * t) + w1))), (0, .ref h0), (1, .int (iI t)), (2, .int (iI w1))]) C dX12_putIndicator_5 (by decide) rfl ?_
  refine m_iconst C dX12_putIndicator_6 ?_
  refine m_istore (lv2 := [(4, .int (iI 0)), (3, .int (iI ((4 * t) + w1))), (0, .ref h0), (1, .int (iI t)), (2, .int (iI w1))]) C dX12_putIndicator_7 (by decide) rfl ?_
  refine m_lv (lv2 := [(4, .int (iI 0)), (3, .int (iI ((4 * t) + w1))), (0, .ref h0), (1, .int (iI t)), (2, .int (iI w1))]) [0, 1, 2, 3, 4] rfl ?_
  exact Lp_putInd ht hw h16 h25 C 6 0 _ _ (by omega) (by omega) rfl (fun j hj => rfl) hR
