set_option maxHeartbeats 4000000 in
set_option maxRecDepth 100000 in
theorem M_newLine {l : Launch} {G : GT} {h0 : Nat} {ad ln : Nat → Nat} {v : Nat → Int} {a : Nat → Nat → Int} (hR : RG v a) (h39 : 0 ≤ v 39 ∧ v 39 ≤ 200) : Mm l G yX12_newLine cX12_newLine 1 (some .boolean) 0 [] h0 ad ln v a 0 0 (fun r v2 a2 => ∃ f : Int, r = some (.int (iI f)) ∧ ((f = 1 ∧ v 39 < 200 ∧ v2 = va_up v 39 (v 39 + 1) ∧ a2 = up2 a 37 (v 39).toNat 0) ∨ (f = 0 ∧ v 39 = 200 ∧ v = v2 ∧ a = a2))) := by
  refine Mm.mk (by decide) (Nat.le_of_ble_eq_true rfl) ?_
  intro p e s m args below meth c A C
  refine m_aload_n (j := 0) C dX12_newLine_0 rfl ?_
  have rv39 := hR.1 39
  refine m_get (k := 39) C dX12_newLine_1 w6_98 (by decide) rfl ?_
  refine m_sipush (z := 200) C dX12_newLine_4 (by decide) ?_
  refine m_icmp_ne (tgt := 12) C ⟨by omega, by omega⟩ ⟨by decide, by decide⟩ dX12_newLine_7 (by decide) (fun c1 => ?_) (fun c1 => ?_)
  · refine m_aload_n (j := 0) C dX12_newLine_12 rfl ?_
    refine m_geta (k := 37) C dX12_newLine_13 w6_96 (by decide) rfl ?_
    refine m_aload_n (j := 0) C dX12_newLine_16 rfl ?_
    refine m_get (k := 39) C dX12_newLine_17 w6_98 (by decide) rfl ?_
    refine m_iconst C dX12_newLine_20 ?_
    refine m_ast (k := 37) C dX12_newLine_21 rfl rfl (by decide) (by omega) (by show _ < ((_ : Nat) : Int); simp only [mlen]; omega) (by decide) ?_
    refine m_aload_n (j := 0) C dX12_newLine_22 rfl ?_
    refine m_dup C dX12_newLine_23 rfl ?_
    refine m_get (k := 39) C dX12_newLine_24 w6_98 (by decide) rfl ?_
    refine m_iconst C dX12_newLine_27 ?_
    refine m_iadd C dX12_newLine_28 ?_
    refine m_put (k := 39) (z := (v 39) + 1) C dX12_newLine_29 w6_98 (by decide) rfl rfl rfl ?_
    refine m_iconst C dX12_newLine_32 ?_
    exact m_zret C dX12_newLine_33 rfl (Or.inr rfl) (Nat.le_of_ble_eq_true rfl) (Nat.le_of_ble_eq_true rfl) ⟨1, rfl, Or.inl ⟨rfl, by omega, rfl, rfl⟩⟩
  · refine m_iconst C dX12_newLine_10 ?_
    exact m_zret C dX12_newLine_11 rfl (Or.inl rfl) (Nat.le_of_ble_eq_true rfl) (Nat.le_of_ble_eq_true rfl) ⟨0, rfl, Or.inr ⟨rfl, by omega, rfl, rfl⟩⟩
set_option maxHeartbeats 4000000 in
set_option maxRecDepth 100000 in
theorem M_putCell {l : Launch} {G : GT} {h0 : Nat} {ad ln : Nat → Nat} {v : Nat → Int} {a : Nat → Nat → Int} {x : Int} (hR : RG v a) (h39 : 1 ≤ v 39 ∧ v 39 ≤ 200) (h37 : 0 ≤ a 37 (v 39 - 1).toNat ∧ a 37 (v 39 - 1).toNat < 200) : Mm l G yX12_putCell cX12_putCell 3 none 0 [.int (iI x)] h0 ad ln v a 0 0 (fun r v2 a2 => r = none ∧ v = v2 ∧ a2 = up2 (up2 a 38 (200 * (v 39 - 1) + a 37 (v 39 - 1).toNat).toNat x) 37 (v 39 - 1).toNat (a 37 (v 39 - 1).toNat + 1)) := by
  refine Mm.mk (by decide) (Nat.le_of_ble_eq_true rfl) ?_
  intro p e s m args below meth c A C
  refine m_aload_n (j := 0) C dX12_putCell_0 rfl ?_
  have rv39 := hR.1 39
  refine m_get (k := 39) C dX12_putCell_1 w6_98 (by decide) rfl ?_
  refine m_iconst C dX12_putCell_4 ?_
  refine m_isub C dX12_putCell_5 ?_
  refine m_istore_n (lv2 := [(2, .int (iI ((v 39) - 1))), (0, .ref h0), (1, .int (iI x))]) C dX12_putCell_6 (by decide) rfl ?_
  refine m_aload_n (j := 1) C dX12_putCell_7 rfl ?_
  refine m_geta (k := 38) C dX12_putCell_8 w6_97 (by decide) rfl ?_
  refine m_sipush (z := 200) C dX12_putCell_11 (by decide) ?_
  refine m_iload_n (j := 0) C dX12_putCell_14 rfl ?_
  refine m_imul C dX12_putCell_15 ?_
  refine m_aload_n (j := 1) C dX12_putCell_16 rfl ?_
  refine m_geta (k := 37) C dX12_putCell_17 w6_96 (by decide) rfl ?_
  refine m_iload_n (j := 0) C dX12_putCell_20 rfl ?_
  refine m_ald (k := 37) C dX12_putCell_21 rfl rfl (by decide) (by omega) (by show _ < ((_ : Nat) : Int); simp only [mlen]; omega) (by decide) ?_
  have ra1 := hR.2 37 (((v 39) - 1).toNat)
  refine m_iadd C dX12_putCell_22 ?_
  refine m_iload_n (j := 2) C dX12_putCell_23 rfl ?_
  refine m_ast (k := 38) C dX12_putCell_24 rfl rfl (by decide) (by omega) (by show _ < ((_ : Nat) : Int); simp only [mlen]; omega) (by decide) ?_
  refine m_aload_n (j := 1) C dX12_putCell_25 rfl ?_
  refine m_geta (k := 37) C dX12_putCell_26 w6_96 (by decide) rfl ?_
  refine m_iload_n (j := 0) C dX12_putCell_29 rfl ?_
  refine m_dup2 C dX12_putCell_30 rfl rfl ?_
  refine m_ald (k := 37) C dX12_putCell_31 rfl rfl (by decide) (by omega) (by show _ < ((_ : Nat) : Int); simp only [mlen]; omega) (by decide) ?_
  refine m_st (st2 := [.int (iI (a 37 (v 39 - 1).toNat)), .int (iI ((v 39) - 1)), .ref (ad 37)]) rfl ?_
  refine m_iconst C dX12_putCell_32 ?_
  refine m_iadd C dX12_putCell_33 ?_
  refine m_ast (k := 37) C dX12_putCell_34 rfl rfl (by decide) (by omega) (by show _ < ((_ : Nat) : Int); simp only [mlen]; omega) (by decide) ?_
  exact m_vret C dX12_putCell_35 rfl (Nat.le_of_ble_eq_true rfl) (Nat.le_of_ble_eq_true rfl) ⟨rfl, rfl, rfl⟩
set_option maxHeartbeats 4000000 in
set_option maxRecDepth 100000 in
theorem M_next {l : Launch} {G : GT} {h0 : Nat} {ad ln : Nat → Nat} {v : Nat → Int} {a : Nat → Nat → Int} {r q : Int} (hR : RG v a) (hr : 0 ≤ r ∧ r < 12016) (hq : q = 0 ∨ q = 1) : Mm l G yX12_next cX12_next 3 (some .int) 0 [.int (iI r), .int (iI q)] h0 ad ln v a 0 0 (fun r2 v2 a2 => ∃ f : Int, r2 = some (.int (iI f)) ∧ (f = 0 ∨ f = 1) ∧ v = v2 ∧ a = a2) := by
  refine Mm.mk (by decide) (Nat.le_of_ble_eq_true rfl) ?_
  intro p e s m args below meth c A C
  refine m_aload_n (j := 0) C dX12_next_0 rfl ?_
  refine m_geta (k := 44) C dX12_next_1 w6_103 (by decide) rfl ?_
  refine m_iload_n (j := 1) C dX12_next_4 rfl ?_
  refine m_ald (k := 44) C dX12_next_5 rfl rfl (by decide) (by omega) (by show _ < ((_ : Nat) : Int); simp only [mlen]; omega) (by decide) ?_
  have ra1 := hR.2 44 (r.toNat)
  refine m_bipush (z := (-3)) C dX12_next_6 (by decide) ?_
  refine m_icmp_ne (tgt := 15) C ⟨by omega, by omega⟩ ⟨by decide, by decide⟩ dX12_next_8 (by decide) (fun c1 => ?_) (fun c1 => ?_)
  · refine m_aload_n (j := 0) C dX12_next_15 rfl ?_
    refine m_geta (k := 44) C dX12_next_16 w6_103 (by decide) rfl ?_
    refine m_iload_n (j := 1) C dX12_next_19 rfl ?_
    refine m_ald (k := 44) C dX12_next_20 rfl rfl (by decide) (by omega) (by show _ < ((_ : Nat) : Int); simp only [mlen]; omega) (by decide) ?_
    have ra2 := hR.2 44 (r.toNat)
    refine m_bipush (z := (-4)) C dX12_next_21 (by decide) ?_
    refine m_icmp_ne (tgt := 30) C ⟨by omega, by omega⟩ ⟨by decide, by decide⟩ dX12_next_23 (by decide) (fun c2 => ?_) (fun c2 => ?_)
    · refine m_iload_n (j := 2) C dX12_next_30 rfl ?_
      exact m_iret C dX12_next_31 rfl (Nat.le_of_ble_eq_true rfl) (Nat.le_of_ble_eq_true rfl) ⟨q, rfl, (by omega), rfl, rfl⟩
    · refine m_iconst C dX12_next_26 ?_
      refine m_goto (tgt := 31) C dX12_next_27 (by decide) ?_
      exact m_iret C dX12_next_31 rfl (Nat.le_of_ble_eq_true rfl) (Nat.le_of_ble_eq_true rfl) ⟨0, rfl, (by omega), rfl, rfl⟩
  · refine m_iconst C dX12_next_11 ?_
    refine m_goto (tgt := 31) C dX12_next_12 (by decide) ?_
    exact m_iret C dX12_next_31 rfl (Nat.le_of_ble_eq_true rfl) (Nat.le_of_ble_eq_true rfl) ⟨1, rfl, (by omega), rfl, rfl⟩
set_option maxHeartbeats 4000000 in
set_option maxRecDepth 100000 in
theorem M_isSmallRule {l : Launch} {G : GT} {h0 : Nat} {ad ln : Nat → Nat} {v : Nat → Int} {a : Nat → Nat → Int} {r : Int} (hR : RG v a) (hr : 0 ≤ r ∧ r < 12016) (h44 : a 44 r.toNat < 6000) : Mm l G yX12_isSmallRule cX12_isSmallRule 2 (some .boolean) 1 [.int (iI r)] h0 ad ln v a 0 0 (fun r2 v2 a2 => ∃ f : Int, r2 = some (.int (iI f)) ∧ (f = 0 ∨ f = 1) ∧ v = v2 ∧ a = a2) := by
  refine Mm.mk (by decide) (Nat.le_of_ble_eq_true rfl) ?_
  intro p e s m args below meth c A C
  refine m_aload_n (j := 0) C dX12_isSmallRule_0 rfl ?_
  refine m_geta (k := 44) C dX12_isSmallRule_1 w6_103 (by decide) rfl ?_
  refine m_iload_n (j := 1) C dX12_isSmallRule_4 rfl ?_
  refine m_ald (k := 44) C dX12_isSmallRule_5 rfl rfl (by decide) (by omega) (by show _ < ((_ : Nat) : Int); simp only [mlen]; omega) (by decide) ?_
  have ra1 := hR.2 44 (r.toNat)
  refine m_if_lt (tgt := 33) C ⟨by omega, by omega⟩ dX12_isSmallRule_6 (by decide) (fun c1 => ?_) (fun c1 => ?_)
  · refine m_iconst C dX12_isSmallRule_33 ?_
    exact m_zret C dX12_isSmallRule_34 rfl (Or.inl rfl) (Nat.le_of_ble_eq_true rfl) (Nat.le_of_ble_eq_true rfl) ⟨0, rfl, (by omega), rfl, rfl⟩
  · refine m_aload_n (j := 0) C dX12_isSmallRule_9 rfl ?_
    refine m_geta (k := 14) C dX12_isSmallRule_10 w6_73 (by decide) rfl ?_
    refine m_bipush (z := 8) C dX12_isSmallRule_13 (by decide) ?_
    refine m_aload_n (j := 0) C dX12_isSmallRule_15 rfl ?_
    refine m_geta (k := 44) C dX12_isSmallRule_16 w6_103 (by decide) rfl ?_
    refine m_iload_n (j := 1) C dX12_isSmallRule_19 rfl ?_
    refine m_ald (k := 44) C dX12_isSmallRule_20 rfl rfl (by decide) (by omega) (by show _ < ((_ : Nat) : Int); simp only [mlen]; omega) (by decide) ?_
    have ra2 := hR.2 44 (r.toNat)
    refine m_imul C dX12_isSmallRule_21 ?_
    refine m_ald (k := 14) C dX12_isSmallRule_22 rfl rfl (by decide) (by omega) (by show _ < ((_ : Nat) : Int); simp only [mlen]; omega) (by decide) ?_
    have ra3 := hR.2 14 ((8 * (a 44 r.toNat)).toNat)
    refine m_callS (As := [.int (iI (a 14 (8 * (a 44 r.toNat)).toNat))]) (rest := []) C (fun L E => s_isSmall (iI (a 14 (8 * (a 44 r.toNat)).toNat))) dX12_isSmallRule_23 kS_X12_208 rfl rfl (Nat.le_of_ble_eq_true rfl) ⟨Nat.le_of_ble_eq_true rfl, Nat.le_of_ble_eq_true rfl⟩ ⟨Nat.le_of_ble_eq_true rfl, Nat.le_of_ble_eq_true rfl⟩ ?_
    rcases inn_c (x := a 14 (8 * (a 44 r.toNat)).toNat) (lo := 97) (hi := 122) ⟨by omega, by omega⟩ ⟨by decide, by decide⟩ ⟨by decide, by decide⟩ with ⟨h1a, h1b, h1e⟩ | ⟨h1a, h1e⟩
    · refine m_st (st2 := [.int (iI 1)]) (by rw [show inn (iI (a 14 (8 * (a 44 r.toNat)).toNat)) 97 122 = iI 1 from h1e]) ?_
      refine m_if_eq (tgt := 33) C ⟨by decide, by decide⟩ dX12_isSmallRule_26 (by decide) (fun z => absurd z (by omega)) (fun _ => ?_)
      refine m_iconst C dX12_isSmallRule_29 ?_
      refine m_goto (tgt := 34) C dX12_isSmallRule_30 (by decide) ?_
      exact m_zret C dX12_isSmallRule_34 rfl (Or.inr rfl) (Nat.le_of_ble_eq_true rfl) (Nat.le_of_ble_eq_true rfl) ⟨1, rfl, (by omega), rfl, rfl⟩
    · refine m_st (st2 := [.int (iI 0)]) (by rw [show inn (iI (a 14 (8 * (a 44 r.toNat)).toNat)) 97 122 = iI 0 from h1e]) ?_
      refine m_if_eq (tgt := 33) C ⟨by decide, by decide⟩ dX12_isSmallRule_26 (by decide) (fun _ => ?_) (fun z => absurd z (by omega))
      refine m_iconst C dX12_isSmallRule_33 ?_
      exact m_zret C dX12_isSmallRule_34 rfl (Or.inl rfl) (Nat.le_of_ble_eq_true rfl) (Nat.le_of_ble_eq_true rfl) ⟨0, rfl, (by omega), rfl, rfl⟩
set_option maxHeartbeats 4000000 in
set_option maxRecDepth 100000 in
theorem M_rowCell {l : Launch} {G : GT} {h0 : Nat} {ad ln : Nat → Nat} {v : Nat → Int} {a : Nat → Nat → Int} {r k : Int} (hR : RG v a) (hr : 0 ≤ r ∧ r < 12016) (h45 : 0 ≤ a 45 r.toNat + k ∧ (0 ≤ a 44 r.toNat → a 45 r.toNat + k < 24000) ∧ (a 44 r.toNat < 0 → a 45 r.toNat + k < 480)) : Mm l G yX12_rowCell cX12_rowCell 3 (some .int) 0 [.int (iI r), .int (iI k)] h0 ad ln v a 0 0 (fun r2 v2 a2 => ∃ f : Int, r2 = some (.int (iI f)) ∧ R32 f ∧ v = v2 ∧ a = a2) := by
  refine Mm.mk (by decide) (Nat.le_of_ble_eq_true rfl) ?_
  intro p e s m args below meth c A C
  refine m_aload_n (j := 0) C dX12_rowCell_0 rfl ?_
  refine m_geta (k := 44) C dX12_rowCell_1 w6_103 (by decide) rfl ?_
  refine m_iload_n (j := 1) C dX12_rowCell_4 rfl ?_
  refine m_ald (k := 44) C dX12_rowCell_5 rfl rfl (by decide) (by omega) (by show _ < ((_ : Nat) : Int); simp only [mlen]; omega) (by decide) ?_
  have ra1 := hR.2 44 (r.toNat)
  refine m_if_lt (tgt := 25) C ⟨by omega, by omega⟩ dX12_rowCell_6 (by decide) (fun c1 => ?_) (fun c1 => ?_)
  · refine m_aload_n (j := 0) C dX12_rowCell_25 rfl ?_
    refine m_geta (k := 17) C dX12_rowCell_26 w6_76 (by decide) rfl ?_
    refine m_aload_n (j := 0) C dX12_rowCell_29 rfl ?_
    refine m_geta (k := 45) C dX12_rowCell_30 w6_104 (by decide) rfl ?_
    refine m_iload_n (j := 1) C dX12_rowCell_33 rfl ?_
    refine m_ald (k := 45) C dX12_rowCell_34 rfl rfl (by decide) (by omega) (by show _ < ((_ : Nat) : Int); simp only [mlen]; omega) (by decide) ?_
    have ra2 := hR.2 45 (r.toNat)
    refine m_iload_n (j := 2) C dX12_rowCell_35 rfl ?_
    refine m_iadd C dX12_rowCell_36 ?_
    refine m_ald (k := 17) C dX12_rowCell_37 rfl rfl (by decide) (by omega) (by show _ < ((_ : Nat) : Int); simp only [mlen]; omega) (by decide) ?_
    have ra3 := hR.2 17 (((a 45 r.toNat) + k).toNat)
    exact m_iret C dX12_rowCell_38 rfl (Nat.le_of_ble_eq_true rfl) (Nat.le_of_ble_eq_true rfl) ⟨a 17 ((a 45 r.toNat) + k).toNat, rfl, hR.2 _ _, rfl, rfl⟩
  · refine m_aload_n (j := 0) C dX12_rowCell_9 rfl ?_
    refine m_geta (k := 15) C dX12_rowCell_10 w6_74 (by decide) rfl ?_
    refine m_aload_n (j := 0) C dX12_rowCell_13 rfl ?_
    refine m_geta (k := 45) C dX12_rowCell_14 w6_104 (by decide) rfl ?_
    refine m_iload_n (j := 1) C dX12_rowCell_17 rfl ?_
    refine m_ald (k := 45) C dX12_rowCell_18 rfl rfl (by decide) (by omega) (by show _ < ((_ : Nat) : Int); simp only [mlen]; omega) (by decide) ?_
    have ra4 := hR.2 45 (r.toNat)
    refine m_iload_n (j := 2) C dX12_rowCell_19 rfl ?_
    refine m_iadd C dX12_rowCell_20 ?_
    refine m_ald (k := 15) C dX12_rowCell_21 rfl rfl (by decide) (by omega) (by show _ < ((_ : Nat) : Int); simp only [mlen]; omega) (by decide) ?_
    have ra5 := hR.2 15 (((a 45 r.toNat) + k).toNat)
    refine m_goto (tgt := 38) C dX12_rowCell_22 (by decide) ?_
    exact m_iret C dX12_rowCell_38 rfl (Nat.le_of_ble_eq_true rfl) (Nat.le_of_ble_eq_true rfl) ⟨a 15 ((a 45 r.toNat) + k).toNat, rfl, hR.2 _ _, rfl, rfl⟩
set_option maxHeartbeats 4000000 in
set_option maxRecDepth 100000 in
theorem Lp_lineEnd {p : Program} {l : Launch} {e : Env} {s : State} {m : MethodId} {args : Array Value} {below : List Frame} {meth : Method} {c : Code} {G : GT} {A : Nat → Prop} {h0 : Nat} {ad ln : Nat → Nat} {v : Nat → Int} {a : Nat → Nat → Int} {q : Int} (hR : RG v a) (ht : 0 ≤ v 30 ∧ v 30 ≤ 500) (hq : 0 ≤ q ∧ q ≤ 1000) (C : Cq p s m args meth c cX12_lineEnd yX12_lineEnd (some .int) G A 3) : ∀ (n : Nat) (k : Int), 1001 - k < (n : Int) → (q ≤ k ∧ k ≤ 1000 ∧ (k = q ∨ k ≤ v 30)) → mw p l e (rmq 0 0 0) s m args below meth c G A 3 (MQ below (Qm G A (fun rq Lq Eq => ∃ (vq : Nat → Int) (aq : Nat → Nat → Int), mI G h0 ad ln vq aq Lq Eq ∧ (fun r v2 a2 => ∃ f : Int, r = some (.int (iI f)) ∧ (q ≤ f ∧ (f = q ∨ f ≤ v 30)) ∧ v = v2 ∧ a = a2) rq vq aq)) args s 0 0 A) h0 ad ln v a 0 0 2 [(2, .int (iI k)), (0, .ref h0), (1, .int (iI q))] [] := by
  intro n
  induction n with
  | zero =>
    intro k   hm hk
    exact absurd hm (by omega)
  | succ n ih =>
    intro k   hm hk
    refine m_iload_n (j := 0) C dX12_lineEnd_2 rfl ?_
    refine m_aload_n (j := 1) C dX12_lineEnd_3 rfl ?_
    have rv30 := hR.1 30
    refine m_get (k := 30) C dX12_lineEnd_4 w6_89 (by decide) rfl ?_
    refine m_icmp_ge (tgt := 27) C ⟨by omega, by omega⟩ ⟨by omega, by omega⟩ dX12_lineEnd_7 (by decide) (fun c1 => ?_) (fun c1 => ?_)
    · refine m_iload_n (j := 0) C dX12_lineEnd_27 rfl ?_
      exact m_iret C dX12_lineEnd_28 rfl (Nat.le_of_ble_eq_true rfl) (Nat.le_of_ble_eq_true rfl) ⟨k, rfl, (by omega), rfl, rfl⟩
    · refine m_aload_n (j := 1) C dX12_lineEnd_10 rfl ?_
      refine m_geta (k := 29) C dX12_lineEnd_11 w6_88 (by decide) rfl ?_
      refine m_iload_n (j := 0) C dX12_lineEnd_14 rfl ?_
      refine m_ald (k := 29) C dX12_lineEnd_15 rfl rfl (by decide) (by omega) (by show _ < ((_ : Nat) : Int); simp only [mlen]; omega) (by decide) ?_
      have ra1 := hR.2 29 (k.toNat)
      refine m_bipush (z := 10) C dX12_lineEnd_16 (by decide) ?_
      refine m_icmp_eq (tgt := 27) C ⟨by omega, by omega⟩ ⟨by decide, by decide⟩ dX12_lineEnd_18 (by decide) (fun c2 => ?_) (fun c2 => ?_)
      · refine m_iload_n (j := 0) C dX12_lineEnd_27 rfl ?_
        exact m_iret C dX12_lineEnd_28 rfl (Nat.le_of_ble_eq_true rfl) (Nat.le_of_ble_eq_true rfl) ⟨k, rfl, (by omega), rfl, rfl⟩
      · refine m_iinc (z := k) (j := 0) (lv2 := [(2, .int (iI (k + 1))), (0, .ref h0), (1, .int (iI q))]) C dX12_lineEnd_21 rfl (by decide) rfl ?_
        refine m_goto (tgt := 2) C dX12_lineEnd_24 (by decide) ?_
        refine m_lv (lv2 := [(2, .int (iI (k + 1))), (0, .ref h0), (1, .int (iI q))]) [0, 1, 2] rfl ?_
        exact ih (k + 1) (by omega) (by omega)
set_option maxHeartbeats 4000000 in
set_option maxRecDepth 100000 in
theorem M_lineEnd {l : Launch} {G : GT} {h0 : Nat} {ad ln : Nat → Nat} {v : Nat → Int} {a : Nat → Nat → Int} {q : Int} (hR : RG v a) (ht : 0 ≤ v 30 ∧ v 30 ≤ 500) (hq : 0 ≤ q ∧ q ≤ 1000) : Mm l G yX12_lineEnd cX12_lineEnd 3 (some .int) 0 [.int (iI q)] h0 ad ln v a 0 0 (fun r v2 a2 => ∃ f : Int, r = some (.int (iI f)) ∧ (q ≤ f ∧ (f = q ∨ f ≤ v 30)) ∧ v = v2 ∧ a = a2) := by
  refine Mm.mk (by decide) (Nat.le_of_ble_eq_true rfl) ?_
  intro p e s m args below meth c A C
  refine m_iload_n (j := 1) C dX12_lineEnd_0 rfl ?_
  refine m_istore_n (lv2 := [(2, .int (iI q)), (0, .ref h0), (1, .int (iI q))]) C dX12_lineEnd_1 (by decide) rfl ?_
  refine m_lv (lv2 := [(2, .int (iI q)), (0, .ref h0), (1, .int (iI q))]) [0, 1, 2] rfl ?_
  exact Lp_lineEnd hR ht hq C 1002 q  (by omega) (by omega)
