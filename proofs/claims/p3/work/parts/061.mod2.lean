set_option maxHeartbeats 4000000 in
set_option maxRecDepth 100000 in
theorem M_tell {l : Launch} {G : GT} {h0 : Nat} {ad ln : Nat → Nat} {v : Nat → Int} {a : Nat → Nat → Int} {x : Int} (hR : RG v a) (hx : R32 x) (hI : Iou v) : Mm l G yX12_tell cX12_tell 2 (some .boolean) 0 [.int (iI x)] h0 ad ln v a 0 0 (fun r v2 a2 => ∃ f : Int, r = some (.int (iI f)) ∧ ((f = 1 ∧ v 52 < 4000 ∧ v2 = va_up v 52 (v 52 + 1) ∧ a2 = up2 a 51 (v 52).toNat x) ∨ (f = 0 ∧ v = v2 ∧ a = a2))) := by
  refine Mm.mk (by decide) (Nat.le_of_ble_eq_true rfl) ?_
  intro p e s m args below meth c A C
  have hI1 := hI
  unfold Iou at hI1
  refine m_aload_n (j := 0) C dX12_tell_0 rfl ?_
  have rv52 := hR.1 52
  refine m_get (k := 52) C dX12_tell_1 w6_111 (by decide) rfl ?_
  refine m_sipush (z := 4000) C dX12_tell_4 (by decide) ?_
  refine m_icmp_ne (tgt := 12) C ⟨by omega, by omega⟩ ⟨by decide, by decide⟩ dX12_tell_7 (by decide) (fun c1 => ?_) (fun c1 => ?_)
  · refine m_aload_n (j := 0) C dX12_tell_12 rfl ?_
    refine m_geta (k := 51) C dX12_tell_13 w6_110 (by decide) rfl ?_
    refine m_aload_n (j := 0) C dX12_tell_16 rfl ?_
    refine m_get (k := 52) C dX12_tell_17 w6_111 (by decide) rfl ?_
    refine m_iload_n (j := 1) C dX12_tell_20 rfl ?_
    refine m_ast (k := 51) C dX12_tell_21 rfl rfl (by decide) (by omega) (by show _ < ((_ : Nat) : Int); simp only [mlen]; omega) (by decide) ?_
    refine m_aload_n (j := 0) C dX12_tell_22 rfl ?_
    refine m_dup C dX12_tell_23 rfl ?_
    refine m_get (k := 52) C dX12_tell_24 w6_111 (by decide) rfl ?_
    refine m_iconst C dX12_tell_27 ?_
    refine m_iadd C dX12_tell_28 ?_
    refine m_put (k := 52) (z := (v 52) + 1) C dX12_tell_29 w6_111 (by decide) rfl rfl rfl ?_
    refine m_iconst C dX12_tell_32 ?_
    exact m_zret C dX12_tell_33 rfl (Or.inr rfl) (Nat.le_of_ble_eq_true rfl) (Nat.le_of_ble_eq_true rfl) ⟨1, rfl, Or.inl ⟨rfl, by omega, rfl, rfl⟩⟩
  · refine m_iconst C dX12_tell_10 ?_
    exact m_zret C dX12_tell_11 rfl (Or.inl rfl) (Nat.le_of_ble_eq_true rfl) (Nat.le_of_ble_eq_true rfl) ⟨0, rfl, Or.inr ⟨rfl, rfl, rfl⟩⟩
set_option maxHeartbeats 4000000 in
set_option maxRecDepth 100000 in
theorem M_putRow {l : Launch} {G : GT} {h0 : Nat} {ad ln : Nat → Nat} {v : Nat → Int} {a : Nat → Nat → Int} {x y : Int} (hR : RG v a) (h50 : 0 ≤ v 50 ∧ v 50 < 40200) : Mm l G yX12_putRow cX12_putRow 3 none 0 [.int (iI x), .int (iI y)] h0 ad ln v a 0 0 (fun r v2 a2 => r = none ∧ v2 = va_up v 50 (v 50 + 1) ∧ a2 = up2 (up2 a 48 (v 50).toNat x) 49 (v 50).toNat y) := by
  refine Mm.mk (by decide) (Nat.le_of_ble_eq_true rfl) ?_
  intro p e s m args below meth c A C
  refine m_aload_n (j := 0) C dX12_putRow_0 rfl ?_
  refine m_geta (k := 48) C dX12_putRow_1 w6_107 (by decide) rfl ?_
  refine m_aload_n (j := 0) C dX12_putRow_4 rfl ?_
  have rv50 := hR.1 50
  refine m_get (k := 50) C dX12_putRow_5 w6_109 (by decide) rfl ?_
  refine m_iload_n (j := 1) C dX12_putRow_8 rfl ?_
  refine m_ast (k := 48) C dX12_putRow_9 rfl rfl (by decide) (by omega) (by show _ < ((_ : Nat) : Int); simp only [mlen]; omega) (by decide) ?_
  refine m_aload_n (j := 0) C dX12_putRow_10 rfl ?_
  refine m_geta (k := 49) C dX12_putRow_11 w6_108 (by decide) rfl ?_
  refine m_aload_n (j := 0) C dX12_putRow_14 rfl ?_
  refine m_get (k := 50) C dX12_putRow_15 w6_109 (by decide) rfl ?_
  refine m_iload_n (j := 2) C dX12_putRow_18 rfl ?_
  refine m_ast (k := 49) C dX12_putRow_19 rfl rfl (by decide) (by omega) (by show _ < ((_ : Nat) : Int); simp only [mlen]; omega) (by decide) ?_
  refine m_aload_n (j := 0) C dX12_putRow_20 rfl ?_
  refine m_dup C dX12_putRow_21 rfl ?_
  refine m_get (k := 50) C dX12_putRow_22 w6_109 (by decide) rfl ?_
  refine m_iconst C dX12_putRow_25 ?_
  refine m_iadd C dX12_putRow_26 ?_
  refine m_put (k := 50) (z := (v 50) + 1) C dX12_putRow_27 w6_109 (by decide) rfl rfl rfl ?_
  exact m_vret C dX12_putRow_30 rfl (Nat.le_of_ble_eq_true rfl) (Nat.le_of_ble_eq_true rfl) ⟨rfl, rfl, rfl⟩
set_option maxHeartbeats 4000000 in
set_option maxRecDepth 100000 in
theorem M_newLine {l : Launch} {G : GT} {h0 : Nat} {ad ln : Nat → Nat} {v : Nat → Int} {a : Nat → Nat → Int} (hR : RG v a) (h39 : 0 ≤ v 39 ∧ v 39 ≤ 200) : Mm l G yX12_newLine cX12_newLine 1 (some .boolean) 0 [] h0 ad ln v a 0 0 (fun r v2 a2 => ∃ f : Int, r = some (.int (iI f)) ∧ ((f = 1 ∧ v 39 < 200 ∧ v2 = va_up v 39 (v 39 + 1) ∧ a2 = up2 a 37 (v 39).toNat 0) ∨ (f = 0 ∧ v 39 = 200 ∧ v = v2 ∧ a = a2))) := by
  refine Mm.mk (by decide) (Nat.le_of_ble_eq_true rfl) ?_
  intro p e s m args below meth c A C
  refine m_aload_n (j := 0) C dX12_newLine_0 rfl ?_
  have rv39 := hR.1 39
  refine m_get (k := 39) C dX12_newLine_1 w6_98 (by decide) rfl ?_
  refine m_sipush (z := 200) C dX12_newLine_4 (by decide) ?_
  refine m_icmp_ne (tgt := 12) C ⟨by omega, by omega⟩ ⟨by decide, by decide⟩ dX12_newLine_7 (by decide) (fun c1 => ?_) (fun c1 => ?_)
  · refine m_aload_n (j := 0) C dX12_newLine_12 rfl ?_
    refine m_geta (k := 37) C dX12_newLine_13 w6_96 (by decide) rfl ?_
    refine m_aload_n (j := 0) C dX12_newLine_16 rfl ?_
    refine m_get (k := 39) C dX12_newLine_17 w6_98 (by decide) rfl ?_
    refine m_iconst C dX12_newLine_20 ?_
    refine m_ast (k := 37) C dX12_newLine_21 rfl rfl (by decide) (by omega) (by show _ < ((_ : Nat) : Int); simp only [mlen]; omega) (by decide) ?_
    refine m_aload_n (j := 0) C dX12_newLine_22 rfl ?_
    refine m_dup C dX12_newLine_23 rfl ?_
    refine m_get (k := 39) C dX12_newLine_24 w6_98 (by decide) rfl ?_
    refine m_iconst C dX12_newLine_27 ?_
    refine m_iadd C dX12_newLine_28 ?_
    refine m_put (k := 39) (z := (v 39) + 1) C dX12_newLine_29 w6_98 (by decide) rfl rfl rfl ?_
    refine m_iconst C dX12_newLine_32 ?_
    exact m_zret C dX12_newLine_33 rfl (Or.inr rfl) (Nat.le_of_ble_eq_true rfl) (Nat.le_of_ble_eq_true rfl) ⟨1, rfl, Or.inl ⟨rfl, by omega, rfl, rfl⟩⟩
  · refine m_iconst C dX12_newLine_10 ?_
    exact m_zret C dX12_newLine_11 rfl (Or.inl rfl) (Nat.le_of_ble_eq_true rfl) (Nat.le_of_ble_eq_true rfl) ⟨0, rfl, Or.inr ⟨rfl, by omega, rfl, rfl⟩⟩
set_option maxHeartbeats 4000000 in
set_option maxRecDepth 100000 in
theorem M_putCell {l : Launch} {G : GT} {h0 : Nat} {ad ln : Nat → Nat} {v : Nat → Int} {a : Nat → Nat → Int} {x : Int} (hR : RG v a) (h39 : 1 ≤ v 39 ∧ v 39 ≤ 200) (h37 : 0 ≤ a 37 (v 39 - 1).toNat ∧ a 37 (v 39 - 1).toNat < 200) : Mm l G yX12_putCell cX12_putCell 3 none 0 [.int (iI x)] h0 ad ln v a 0 0 (fun r v2 a2 => r = none ∧ v = v2 ∧ a2 = up2 (up2 a 38 (200 * (v 39 - 1) + a 37 (v 39 - 1).toNat).toNat x) 37 (v 39 - 1).toNat (a 37 (v 39 - 1).toNat + 1)) := by
  refine Mm.mk (by decide) (Nat.le_of_ble_eq_true rfl) ?_
  intro p e s m args below meth c A C
  refine m_aload_n (j := 0) C dX12_putCell_0 rfl ?_
  have rv39 := hR.1 39
  refine m_get (k := 39) C dX12_putCell_1 w6_98 (by decide) rfl ?_
  refine m_iconst C dX12_putCell_4 ?_
  refine m_isub C dX12_putCell_5 ?_
  refine m_istore_n (lv2 := [(2, .int (iI ((v 39) - 1))), (0, .ref h0), (1, .int (iI x))]) C dX12_putCell_6 (by decide) rfl ?_
  refine m_aload_n (j := 1) C dX12_putCell_7 rfl ?_
  refine m_geta (k := 38) C dX12_putCell_8 w6_97 (by decide) rfl ?_
  refine m_sipush (z := 200) C dX12_putCell_11 (by decide) ?_
  refine m_iload_n (j := 0) C dX12_putCell_14 rfl ?_
  refine m_imul C dX12_putCell_15 ?_
  refine m_aload_n (j := 1) C dX12_putCell_16 rfl ?_
  refine m_geta (k := 37) C dX12_putCell_17 w6_96 (by decide) rfl ?_
  refine m_iload_n (j := 0) C dX12_putCell_20 rfl ?_
  refine m_ald (k := 37) C dX12_putCell_21 rfl rfl (by decide) (by omega) (by show _ < ((_ : Nat) : Int); simp only [mlen]; omega) (by decide) ?_
  have ra1 := hR.2 37 (((v 39) - 1).toNat)
  refine m_iadd C dX12_putCell_22 ?_
  refine m_iload_n (j := 2) C dX12_putCell_23 rfl ?_
  refine m_ast (k := 38) C dX12_putCell_24 rfl rfl (by decide) (by omega) (by show _ < ((_ : Nat) : Int); simp only [mlen]; omega) (by decide) ?_
  refine m_aload_n (j := 1) C dX12_putCell_25 rfl ?_
  refine m_geta (k := 37) C dX12_putCell_26 w6_96 (by decide) rfl ?_
  refine m_iload_n (j := 0) C dX12_putCell_29 rfl ?_
  refine m_dup2 C dX12_putCell_30 rfl rfl ?_
  refine m_ald (k := 37) C dX12_putCell_31 rfl rfl (by decide) (by omega) (by show _ < ((_ : Nat) : Int); simp only [mlen]; omega) (by decide) ?_
  refine m_st (st2 := [.int (iI (a 37 (v 39 - 1).toNat)), .int (iI ((v 39) - 1)), .ref (ad 37)]) rfl ?_
  refine m_iconst C dX12_putCell_32 ?_
  refine m_iadd C dX12_putCell_33 ?_
  refine m_ast (k := 37) C dX12_putCell_34 rfl rfl (by decide) (by omega) (by show _ < ((_ : Nat) : Int); simp only [mlen]; omega) (by decide) ?_
  exact m_vret C dX12_putCell_35 rfl (Nat.le_of_ble_eq_true rfl) (Nat.le_of_ble_eq_true rfl) ⟨rfl, rfl, rfl⟩
set_option maxHeartbeats 4000000 in
set_option maxRecDepth 100000 in
theorem M_next {l : Launch} {G : GT} {h0 : Nat} {ad ln : Nat → Nat} {v : Nat → Int} {a : Nat → Nat → Int} {r q : Int} (hR : RG v a) (hr : 0 ≤ r ∧ r < 12016) (hq : q = 0 ∨ q = 1) : Mm l G yX12_next cX12_next 3 (some .int) 0 [.int (iI r), .int (iI q)] h0 ad ln v a 0 0 (fun r2 v2 a2 => ∃ f : Int, r2 = some (.int (iI f)) ∧ (f = 0 ∨ f = 1) ∧ v = v2 ∧ a = a2) := by
  refine Mm.mk (by decide) (Nat.le_of_ble_eq_true rfl) ?_
  intro p e s m args below meth c A C
  refine m_aload_n (j := 0) C dX12_next_0 rfl ?_
  refine m_geta (k := 44) C dX12_next_1 w6_103 (by decide) rfl ?_
  refine m_iload_n (j := 1) C dX12_next_4 rfl ?_
  refine m_ald (k := 44) C dX12_next_5 rfl rfl (by decide) (by omega) (by show _ < ((_ : Nat) : Int); simp only [mlen]; omega) (by decide) ?_
  have ra1 := hR.2 44 (r.toNat)
  refine m_bipush (z := (-3)) C dX12_next_6 (by decide) ?_
  refine m_icmp_ne (tgt := 15) C ⟨by omega, by omega⟩ ⟨by decide, by decide⟩ dX12_next_8 (by decide) (fun c1 => ?_) (fun c1 => ?_)
  · refine m_aload_n (j := 0) C dX12_next_15 rfl ?_
    refine m_geta (k := 44) C dX12_next_16 w6_103 (by decide) rfl ?_
    refine m_iload_n (j := 1) C dX12_next_19 rfl ?_
    refine m_ald (k := 44) C dX12_next_20 rfl rfl (by decide) (by omega) (by show _ < ((_ : Nat) : Int); simp only [mlen]; omega) (by decide) ?_
    have ra2 := hR.2 44 (r.toNat)
    refine m_bipush (z := (-4)) C dX12_next_21 (by decide) ?_
    refine m_icmp_ne (tgt := 30) C ⟨by omega, by omega⟩ ⟨by decide, by decide⟩ dX12_next_23 (by decide) (fun c2 => ?_) (fun c2 => ?_)
    · refine m_iload_n (j := 2) C dX12_next_30 rfl ?_
      exact m_iret C dX12_next_31 rfl (Nat.le_of_ble_eq_true rfl) (Nat.le_of_ble_eq_true rfl) ⟨q, rfl, (by omega), rfl, rfl⟩
    · refine m_iconst C dX12_next_26 ?_
      refine m_goto (tgt := 31) C dX12_next_27 (by decide) ?_
      exact m_iret C dX12_next_31 rfl (Nat.le_of_ble_eq_true rfl) (Nat.le_of_ble_eq_true rfl) ⟨0, rfl, (by omega), rfl, rfl⟩
  · refine m_iconst C dX12_next_11 ?_
    refine m_goto (tgt := 31) C dX12_next_12 (by decide) ?_
    exact m_iret C dX12_next_31 rfl (Nat.le_of_ble_eq_true rfl) (Nat.le_of_ble_eq_true rfl) ⟨1, rfl, (by omega), rfl, rfl⟩
set_option maxHeartbeats 4000000 in
set_option maxRecDepth 100000 in
theorem M_isSmallRule {l : Launch} {G : GT} {h0 : Nat} {ad ln : Nat → Nat} {v : Nat → Int} {a : Nat → Nat → Int} {r : Int} (hR : RG v a) (hr : 0 ≤ r ∧ r < 12016) (h44 : a 44 r.toNat < 6000) : Mm l G yX12_isSmallRule cX12_isSmallRule 2 (some .boolean) 1 [.int (iI r)] h0 ad ln v a 0 0 (fun r2 v2 a2 => ∃ f : Int, r2 = some (.int (iI f)) ∧ (f = 0 ∨ f = 1) ∧ v = v2 ∧ a = a2) := by
  refine Mm.mk (by decide) (Nat.le_of_ble_eq_true rfl) ?_
  intro p e s m args below meth c A C
  refine m_aload_n (j := 0) C dX12_isSmallRule_0 rfl ?_
  refine m_geta (k := 44) C dX12_isSmallRule_1 w6_103 (by decide) rfl ?_
  refine m_iload_n (j := 1) C dX12_isSmallRule_4 rfl ?_
  refine m_ald (k := 44) C dX12_isSmallRule_5 rfl rfl (by decide) (by omega) (by show _ < ((_ : Nat) : Int); simp only [mlen]; omega) (by decide) ?_
  have ra1 := hR.2 44 (r.toNat)
  refine m_if_lt (tgt := 33) C ⟨by omega, by omega⟩ dX12_isSmallRule_6 (by decide) (fun c1 => ?_) (fun c1 => ?_)
  · refine m_iconst C dX12_isSmallRule_33 ?_
    exact m_zret C dX12_isSmallRule_34 rfl (Or.inl rfl) (Nat.le_of_ble_eq_true rfl) (Nat.le_of_ble_eq_true rfl) ⟨0, rfl, (by omega), rfl, rfl⟩
  · refine m_aload_n (j := 0) C dX12_isSmallRule_9 rfl ?_
    refine m_geta (k := 14) C dX12_isSmallRule_10 w6_73 (by decide) rfl ?_
    refine m_bipush (z := 8) C dX12_isSmallRule_13 (by decide) ?_
    refine m_aload_n (j := 0) C dX12_isSmallRule_15 rfl ?_
    refine m_geta (k := 44) C dX12_isSmallRule_16 w6_103 (by decide) rfl ?_
    refine m_iload_n (j := 1) C dX12_isSmallRule_19 rfl ?_
    refine m_ald (k := 44) C dX12_isSmallRule_20 rfl rfl (by decide) (by omega) (by show _ < ((_ : Nat) : Int); simp only [mlen]; omega) (by decide) ?_
    have ra2 := hR.2 44 (r.toNat)
    refine m_imul C dX12_isSmallRule_21 ?_
    refine m_ald (k := 14) C dX12_isSmallRule_22 rfl rfl (by decide) (by omega) (by show _ < ((_ : Nat) : Int); simp only [mlen]; omega) (by decide) ?_
    have ra3 := hR.2 14 ((8 * (a 44 r.toNat)).toNat)
    refine m_callS (As := [.int (iI (a 14 (8 * (a 44 r.toNat)).toNat))]) (rest := []) C (fun L E => s_isSmall (iI (a 14 (8 * (a 44 r.toNat)).toNat))) dX12_isSmallRule_23 kS_X12_208 rfl rfl (Nat.le_of_ble_eq_true rfl) ⟨Nat.le_of_ble_eq_true rfl, Nat.le_of_ble_eq_true rfl⟩ ⟨Nat.le_of_ble_eq_true rfl, Nat.le_of_ble_eq_true rfl⟩ ?_
    rcases inn_c (x := a 14 (8 * (a 44 r.toNat)).toNat) (lo := 97) (hi := 122) ⟨by omega, by omega⟩ ⟨by decide, by decide⟩ ⟨by decide, by decide⟩ with ⟨h1a, h1b, h1e⟩ | ⟨h1a, h1e⟩
    · refine m_st (st2 := [.int (iI 1)]) (by rw [show inn (iI (a 14 (8 * (a 44 r.toNat)).toNat)) 97 122 = iI 1 from h1e]) ?_
      refine m_if_eq (tgt := 33) C ⟨by decide, by decide⟩ dX12_isSmallRule_26 (by decide) (fun z => absurd z (by omega)) (fun _ => ?_)
      refine m_iconst C dX12_isSmallRule_29 ?_
      refine m_goto (tgt := 34) C dX12_isSmallRule_30 (by decide) ?_
      exact m_zret C dX12_isSmallRule_34 rfl (Or.inr rfl) (Nat.le_of_ble_eq_true rfl) (Nat.le_of_ble_eq_true rfl) ⟨1, rfl, (by omega), rfl, rfl⟩
    · refine m_st (st2 := [.int (iI 0)]) (by rw [show inn (iI (a 14 (8 * (a 44 r.toNat)).toNat)) 97 122 = iI 0 from h1e]) ?_
      refine m_if_eq (tgt := 33) C ⟨by decide, by decide⟩ dX12_isSmallRule_26 (by decide) (fun _ => ?_) (fun z => absurd z (by omega))
      refine m_iconst C dX12_isSmallRule_33 ?_
      exact m_zret C dX12_isSmallRule_34 rfl (Or.inl rfl) (Nat.le_of_ble_eq_true rfl) (Nat.le_of_ble_eq_true rfl) ⟨0, rfl, (by omega), rfl, rfl⟩
set_option maxHeartbeats 4000000 in
set_option maxRecDepth 100000 in
theorem M_rowCell {l : Launch} {G : GT} {h0 : Nat} {ad ln : Nat → Nat} {v : Nat → Int} {a : Nat → Nat → Int} {r k : Int} (hR : RG v a) (hr : 0 ≤ r ∧ r < 12016) (h45 : 0 ≤ a 45 r.toNat + k ∧ (0 ≤ a 44 r.toNat → a 45 r.toNat + k < 24000) ∧ (a 44 r.toNat < 0 → a 45 r.toNat + k < 480)) : Mm l G yX12_rowCell cX12_rowCell 3 (some .int) 0 [.int (iI r), .int (iI k)] h0 ad ln v a 0 0 (fun r2 v2 a2 => ∃ f : Int, r2 = some (.int (iI f)) ∧ R32 f ∧ v = v2 ∧ a = a2) := by
  refine Mm.mk (by decide) (Nat.le_of_ble_eq_true rfl) ?_
  intro p e s m args below meth c A C
  refine m_aload_n (j := 0) C dX12_rowCell_0 rfl ?_
  refine m_geta (k := 44) C dX12_rowCell_1 w6_103 (by decide) rfl ?_
  refine m_iload_n (j := 1) C dX12_rowCell_4 rfl ?_
  refine m_ald (k := 44) C dX12_rowCell_5 rfl rfl (by decide) (by omega) (by show _ < ((_ : Nat) : Int); simp only [mlen]; omega) (by decide) ?_
  have ra1 := hR.2 44 (r.toNat)
  refine m_if_lt (tgt := 25) C ⟨by omega, by omega⟩ dX12_rowCell_6 (by decide) (fun c1 => ?_) (fun c1 => ?_)
  · refine m_aload_n (j := 0) C dX12_rowCell_25 rfl ?_
    refine m_geta (k := 17) C dX12_rowCell_26 w6_76 (by decide) rfl ?_
    refine m_aload_n (j := 0) C dX12_rowCell_29 rfl ?_
    refine m_geta (k := 45) C dX12_rowCell_30 w6_104 (by decide) rfl ?_
    refine m_iload_n (j := 1) C dX12_rowCell_33 rfl ?_
    refine m_ald (k := 45) C dX12_rowCell_34 rfl rfl (by decide) (by omega) (by show _ < ((_ : Nat) : Int); simp only [mlen]; omega) (by decide) ?_
    have ra2 := hR.2 45 (r.toNat)
    refine m_iload_n (j := 2) C dX12_rowCell_35 rfl ?_
    refine m_iadd C dX12_rowCell_36 ?_
    refine m_ald (k := 17) C dX12_rowCell_37 rfl rfl (by decide) (by omega) (by show _ < ((_ : Nat) : Int); simp only [mlen]; omega) (by decide) ?_
    have ra3 := hR.2 17 (((a 45 r.toNat) + k).toNat)
    exact m_iret C dX12_rowCell_38 rfl (Nat.le_of_ble_eq_true rfl) (Nat.le_of_ble_eq_true rfl) ⟨a 17 ((a 45 r.toNat) + k).toNat, rfl, hR.2 _ _, rfl, rfl⟩
  · refine m_aload_n (j := 0) C dX12_rowCell_9 rfl ?_
    refine m_geta (k := 15) C dX12_rowCell_10 w6_74 (by decide) rfl ?_
    refine m_aload_n (j := 0) C dX12_rowCell_13 rfl ?_
    refine m_geta (k := 45) C dX12_rowCell_14 w6_104 (by decide) rfl ?_
    refine m_iload_n (j := 1) C dX12_rowCell_17 rfl ?_
    refine m_ald (k := 45) C dX12_rowCell_18 rfl rfl (by decide) (by omega) (by show _ < ((_ : Nat) : Int); simp only [mlen]; omega) (by decide) ?_
    have ra4 := hR.2 45 (r.toNat)
    refine m_iload_n (j := 2) C dX12_rowCell_19 rfl ?_
    refine m_iadd C dX12_rowCell_20 ?_
    refine m_ald (k := 15) C dX12_rowCell_21 rfl rfl (by decide) (by omega) (by show _ < ((_ : Nat) : Int); simp only [mlen]; omega) (by decide) ?_
    have ra5 := hR.2 15 (((a 45 r.toNat) + k).toNat)
    refine m_goto (tgt := 38) C dX12_rowCell_22 (by decide) ?_
    exact m_iret C dX12_rowCell_38 rfl (Nat.le_of_ble_eq_true rfl) (Nat.le_of_ble_eq_true rfl) ⟨a 15 ((a 45 r.toNat) + k).toNat, rfl, hR.2 _ _, rfl, rfl⟩
set_option maxHeartbeats 4000000 in
set_option maxRecDepth 100000 in
theorem M_addRow {l : Launch} {G : GT} {h0 : Nat} {ad ln : Nat → Nat} {v : Nat → Int} {a : Nat → Nat → Int} {q x y z : Int} (hR : RG v a) (hq : q = 0 ∨ q = 1) (h47 : 0 ≤ a 47 q.toNat ∧ a 47 q.toNat < 6008) : Mm l G yX12_addRow cX12_addRow 6 none 0 [.int (iI q), .int (iI x), .int (iI y), .int (iI z)] h0 ad ln v a 0 0 (fun r v2 a2 => r = none ∧ v = v2 ∧ a2 = up2 (up2 (up2 (up2 a 44 (6008 * q + a 47 q.toNat).toNat x) 45 (6008 * q + a 47 q.toNat).toNat y) 46 (6008 * q + a 47 q.toNat).toNat z) 47 q.toNat (a 47 q.toNat + 1)) := by
  refine Mm.mk (by decide) (Nat.le_of_ble_eq_true rfl) ?_
  intro p e s m args below meth c A C
  refine m_sipush (z := 6008) C dX12_addRow_0 (by decide) ?_
  refine m_iload_n (j := 1) C dX12_addRow_3 rfl ?_
  refine m_imul C dX12_addRow_4 ?_
  refine m_aload_n (j := 0) C dX12_addRow_5 rfl ?_
  refine m_geta (k := 47) C dX12_addRow_6 w6_106 (by decide) rfl ?_
  refine m_iload_n (j := 1) C dX12_addRow_9 rfl ?_
  refine m_ald (k := 47) C dX12_addRow_10 rfl rfl (by decide) (by omega) (by show _ < ((_ : Nat) : Int); simp only [mlen]; omega) (by decide) ?_
  have ra1 := hR.2 47 (q.toNat)
  refine m_iadd C dX12_addRow_11 ?_
  refine m_istore (lv2 := [(5, .int (iI ((6008 * q) + (a 47 q.toNat)))), (0, .ref h0), (1, .int (iI q)), (2, .int (iI x)), (3, .int (iI y)), (4, .int (iI z))]) C dX12_addRow_12 (by decide) rfl ?_
  refine m_aload_n (j := 1) C dX12_addRow_14 rfl ?_
  refine m_geta (k := 44) C dX12_addRow_15 w6_103 (by decide) rfl ?_
  refine m_iload (j := 0) C dX12_addRow_18 rfl ?_
  refine m_iload_n (j := 3) C dX12_addRow_20 rfl ?_
  refine m_ast (k := 44) C dX12_addRow_21 rfl rfl (by decide) (by omega) (by show _ < ((_ : Nat) : Int); simp only [mlen]; omega) (by decide) ?_
  refine m_aload_n (j := 1) C dX12_addRow_22 rfl ?_
  refine m_geta (k := 45) C dX12_addRow_23 w6_104 (by decide) rfl ?_
  refine m_iload (j := 0) C dX12_addRow_26 rfl ?_
  refine m_iload_n (j := 4) C dX12_addRow_28 rfl ?_
  refine m_ast (k := 45) C dX12_addRow_29 rfl rfl (by decide) (by omega) (by show _ < ((_ : Nat) : Int); simp only [mlen]; omega) (by decide) ?_
  refine m_aload_n (j := 1) C dX12_addRow_30 rfl ?_
  refine m_geta (k := 46) C dX12_addRow_31 w6_105 (by decide) rfl ?_
  refine m_iload (j := 0) C dX12_addRow_34 rfl ?_
  refine m_iload (j := 5) C dX12_addRow_36 rfl ?_
  refine m_ast (k := 46) C dX12_addRow_38 rfl rfl (by decide) (by omega) (by show _ < ((_ : Nat) : Int); simp only [mlen]; omega) (by decide) ?_
  refine m_aload_n (j := 1) C dX12_addRow_39 rfl ?_
  refine m_geta (k := 47) C dX12_addRow_40 w6_106 (by decide) rfl ?_
  refine m_iload_n (j := 2) C dX12_addRow_43 rfl ?_
  refine m_dup2 C dX12_addRow_44 rfl rfl ?_
  refine m_ald (k := 47) C dX12_addRow_45 rfl rfl (by decide) (by omega) (by show _ < ((_ : Nat) : Int); simp only [mlen]; omega) (by decide) ?_
  refine m_st (st2 := [.int (iI (a 47 q.toNat)), .int (iI q), .ref (ad 47)]) rfl ?_
  refine m_iconst C dX12_addRow_46 ?_
  refine m_iadd C dX12_addRow_47 ?_
  refine m_ast (k := 47) C dX12_addRow_48 rfl rfl (by decide) (by omega) (by show _ < ((_ : Nat) : Int); simp only [mlen]; omega) (by decide) ?_
  exact m_vret C dX12_addRow_49 rfl (Nat.le_of_ble_eq_true rfl) (Nat.le_of_ble_eq_true rfl) ⟨rfl, rfl, rfl⟩
set_option maxHeartbeats 4000000 in
set_option maxRecDepth 100000 in
theorem Lp_feed {p : Program} {l : Launch} {e : Env} {s : State} {m : MethodId} {args : Array Value} {below : List Frame} {meth : Method} {c : Code} {G : GT} {A : Nat → Prop} {h0 : Nat} {ad ln : Nat → Nat} {v0 : Nat → Int} {a0 : Nat → Nat → Int} {x1 x2 x3 x4 x5 : Int} (h3 : 0 ≤ v0 3 ∧ v0 3 ≤ 2980) (C : Cq p s m args meth c cX12_feed yX12_feed (some .int) G A 8) : ∀ (n : Nat) (k : Int) (v : Nat → Int) (a : Nat → Nat → Int), 20 - k < (n : Int) → (0 ≤ k ∧ k ≤ 20) → v 3 = v0 3 + k → (∀ j, j ≠ 3 → v j = v0 j) → (∀ j, j ≠ 2 → a j = a0 j) → RG v a → mw p l e (rmq 1 0 0) s m args below meth c G A 8 (MQ below (Qm G A (fun rq Lq Eq => ∃ (vq : Nat → Int) (aq : Nat → Nat → Int), mI G h0 ad ln vq aq Lq Eq ∧ (fun r v2 a2 => ((r = some (.int (iI (v0 3 + 20))) ∧ v2 3 = v0 3 + 20 ∧ v0 3 ≤ 2980) ∨ (r = some (.int (iI (-1))) ∧ v2 3 = v0 3 ∧ 2980 < v0 3)) ∧ (∀ j, j ≠ 0 → j ≠ 1 → j ≠ 3 → v2 j = v0 j) ∧ (∀ j, j ≠ 2 → a2 j = a0 j) ∧ RG v2 a2) rq vq aq)) args s 0 0 A) h0 ad ln v a 0 0 23 [(6, .int (iI k)), (0, .ref h0), (1, .int (iI x1)), (2, .int (iI x2)), (3, .int (iI x3)), (4, .int (iI x4)), (5, .int (iI x5))] [] := by
  intro n
  induction n with
  | zero =>
    intro k  v a hm hk e3 hv ha hr
    exact absurd hm (by omega)
  | succ n ih =>
    intro k  v a hm hk e3 hv ha hr
    refine m_iload (j := 0) C dX12_feed_23 rfl ?_
    refine m_bipush (z := 20) C dX12_feed_25 (by decide) ?_
    refine m_icmp_ge (tgt := 120) C ⟨by omega, by omega⟩ ⟨by decide, by decide⟩ dX12_feed_27 (by decide) (fun c1 => ?_) (fun c1 => ?_)
    · refine m_aload_n (j := 1) C dX12_feed_120 rfl ?_
      refine m_aload_n (j := 1) C dX12_feed_121 rfl ?_
      have rv3 := hr.1 3
      refine m_get (k := 3) C dX12_feed_122 w6_62 (by decide) rfl ?_
      refine m_call (mc2 := 0) (ms2 := 0) (As := [.int (iI (v 3))]) (rest := []) C (M_fine (x := v 3)) dX12_feed_125 kV_X12_158 rfl ck_13 rfl (Nat.le_of_ble_eq_true rfl) ⟨Nat.le_of_ble_eq_true rfl, Nat.le_of_ble_eq_true rfl⟩ ⟨Nat.le_of_ble_eq_true rfl, Nat.le_of_ble_eq_true rfl⟩ (fun rh1 vh1 ah1 h1 => ?_)
      obtain ⟨rfl, rfl, rfl⟩ := h1
      refine m_st (st2 := [.int (iI (v 3))]) rfl ?_
      exact m_iret C dX12_feed_128 rfl (Nat.le_of_ble_eq_true rfl) (Nat.le_of_ble_eq_true rfl) ⟨Or.inl ⟨by rw [show v 3 = v0 3 + 20 by omega], (by show v 3 = v0 3 + 20; omega), h3.2⟩, fun j n0 n1 n3 => by simp [va_up, n0, n1, hv j n3], ha, ((hr.put ⟨by decide, by decide⟩).put ⟨by decide, by decide⟩)⟩
    · refine m_iload (j := 0) C dX12_feed_30 rfl ?_
      refine m_iconst C dX12_feed_32 ?_
      refine m_icmp_ge (tgt := 40) C ⟨by omega, by omega⟩ ⟨by decide, by decide⟩ dX12_feed_33 (by decide) (fun c2 => ?_) (fun c2 => ?_)
      · refine m_iload (j := 0) C dX12_feed_40 rfl ?_
        refine m_bipush (z := 8) C dX12_feed_42 (by decide) ?_
        refine m_icmp_ge (tgt := 51) C ⟨by omega, by omega⟩ ⟨by decide, by decide⟩ dX12_feed_44 (by decide) (fun c3 => ?_) (fun c3 => ?_)
        · refine m_iload (j := 0) C dX12_feed_51 rfl ?_
          refine m_bipush (z := 12) C dX12_feed_53 (by decide) ?_
          refine m_icmp_ge (tgt := 62) C ⟨by omega, by omega⟩ ⟨by decide, by decide⟩ dX12_feed_55 (by decide) (fun c4 => ?_) (fun c4 => ?_)
          · refine m_iload (j := 0) C dX12_feed_62 rfl ?_
            refine m_bipush (z := 16) C dX12_feed_64 (by decide) ?_
            refine m_icmp_ge (tgt := 74) C ⟨by omega, by omega⟩ ⟨by decide, by decide⟩ dX12_feed_66 (by decide) (fun c5 => ?_) (fun c5 => ?_)
            · refine m_iload (j := 6) C dX12_feed_74 rfl ?_
              refine m_istore (lv2 := [(7, .int (iI x5)), (6, .int (iI k)), (0, .ref h0), (1, .int (iI x1)), (2, .int (iI x2)), (3, .int (iI x3)), (4, .int (iI x4)), (5, .int (iI x5))]) C dX12_feed_76 (by decide) rfl ?_
              refine m_aload_n (j := 2) C dX12_feed_78 rfl ?_
              refine m_geta (k := 2) C dX12_feed_79 w6_61 (by decide) rfl ?_
              refine m_aload_n (j := 2) C dX12_feed_82 rfl ?_
              have rv3 := hr.1 3
              refine m_get (k := 3) C dX12_feed_83 w6_62 (by decide) rfl ?_
              refine m_iload (j := 0) C dX12_feed_86 rfl ?_
              refine m_bipush (z := 24) C dX12_feed_88 (by decide) ?_
              refine m_bipush (z := 8) C dX12_feed_90 (by decide) ?_
              refine m_iload (j := 1) C dX12_feed_92 rfl ?_
              refine m_iconst C dX12_feed_94 ?_
              refine m_iand (w := (iI k &&& iI 3)) C dX12_feed_95 rfl ?_
              obtain ⟨zz1, hzz1, ezz1⟩ := iI_of ((iI k &&& iI 3))
              refine m_st (st2 := [.int (iI zz1), .int (iI 8), .int (iI 24), .int (iI x5), .int (iI (v 3)), .ref (ad 2)]) (by rw [ezz1]) ?_
              refine m_imul C dX12_feed_96 ?_
              refine m_isub C dX12_feed_97 ?_
              refine m_ishr (w := (iI x5 >>> (iI (24 - (8 * zz1)) &&& 31))) C dX12_feed_98 rfl ?_
              obtain ⟨zz2, hzz2, ezz2⟩ := iI_of ((iI x5 >>> (iI (24 - (8 * zz1)) &&& 31)))
              refine m_st (st2 := [.int (iI zz2), .int (iI (v 3)), .ref (ad 2)]) (by rw [ezz2]) ?_
              refine m_sipush (z := 255) C dX12_feed_99 (by decide) ?_
              refine m_iand (w := (iI zz2 &&& iI 255)) C dX12_feed_102 rfl ?_
              obtain ⟨zz3, hzz3, ezz3⟩ := iI_of ((iI zz2 &&& iI 255))
              refine m_st (st2 := [.int (iI zz3), .int (iI (v 3)), .ref (ad 2)]) (by rw [ezz3]) ?_
              refine m_ast (k := 2) C dX12_feed_103 rfl rfl (by decide) (by omega) (by show _ < ((_ : Nat) : Int); simp only [mlen]; omega) (by decide) ?_
              refine m_aload_n (j := 2) C dX12_feed_104 rfl ?_
              refine m_dup C dX12_feed_105 rfl ?_
              refine m_get (k := 3) C dX12_feed_106 w6_62 (by decide) rfl ?_
              refine m_iconst C dX12_feed_109 ?_
              refine m_iadd C dX12_feed_110 ?_
              refine m_put (k := 3) (z := (v 3) + 1) C dX12_feed_111 w6_62 (by decide) rfl rfl rfl ?_
              refine m_iinc (z := k) (j := 1) (lv2 := [(6, .int (iI (k + 1))), (7, .int (iI x5)), (0, .ref h0), (1, .int (iI x1)), (2, .int (iI x2)), (3, .int (iI x3)), (4, .int (iI x4)), (5, .int (iI x5))]) C dX12_feed_114 rfl (by decide) rfl ?_
              refine m_goto (tgt := 23) C dX12_feed_117 (by decide) ?_
              refine m_lv (lv2 := [(6, .int (iI (k + 1))), (0, .ref h0), (1, .int (iI x1)), (2, .int (iI x2)), (3, .int (iI x3)), (4, .int (iI x4)), (5, .int (iI x5))]) [0, 2, 3, 4, 5, 6, 7] rfl ?_
              exact ih (k + 1) _ _ (by omega) (by omega) (by show v 3 + 1 = v0 3 + (k + 1); omega) (fun j hj => (va_up_ne _ _ hj).trans (hv j hj)) (fun j hj => (funext fun i => up2_k hj).trans (ha j hj)) ((hr.set hzz3).put ⟨by omega, by omega⟩)
            · refine m_iload (j := 5) C dX12_feed_69 rfl ?_
              refine m_goto (tgt := 76) C dX12_feed_71 (by decide) ?_
              refine m_istore (lv2 := [(7, .int (iI x4)), (6, .int (iI k)), (0, .ref h0), (1, .int (iI x1)), (2, .int (iI x2)), (3, .int (iI x3)), (4, .int (iI x4)), (5, .int (iI x5))]) C dX12_feed_76 (by decide) rfl ?_
              refine m_aload_n (j := 2) C dX12_feed_78 rfl ?_
              refine m_geta (k := 2) C dX12_feed_79 w6_61 (by decide) rfl ?_
              refine m_aload_n (j := 2) C dX12_feed_82 rfl ?_
              have rv3 := hr.1 3
              refine m_get (k := 3) C dX12_feed_83 w6_62 (by decide) rfl ?_
              refine m_iload (j := 0) C dX12_feed_86 rfl ?_
              refine m_bipush (z := 24) C dX12_feed_88 (by decide) ?_
              refine m_bipush (z := 8) C dX12_feed_90 (by decide) ?_
              refine m_iload (j := 1) C dX12_feed_92 rfl ?_
              refine m_iconst C dX12_feed_94 ?_
              refine m_iand (w := (iI k &&& iI 3)) C dX12_feed_95 rfl ?_
              obtain ⟨zz4, hzz4, ezz4⟩ := iI_of ((iI k &&& iI 3))
              refine m_st (st2 := [.int (iI zz4), .int (iI 8), .int (iI 24), .int (iI x4), .int (iI (v 3)), .ref (ad 2)]) (by rw [ezz4]) ?_
              refine m_imul C dX12_feed_96 ?_
              refine m_isub C dX12_feed_97 ?_
              refine m_ishr (w := (iI x4 >>> (iI (24 - (8 * zz4)) &&& 31))) C dX12_feed_98 rfl ?_
              obtain ⟨zz5, hzz5, ezz5⟩ := iI_of ((iI x4 >>> (iI (24 - (8 * zz4)) &&& 31)))
              refine m_st (st2 := [.int (iI zz5), .int (iI (v 3)), .ref (ad 2)]) (by rw [ezz5]) ?_
              refine m_sipush (z := 255) C dX12_feed_99 (by decide) ?_
              refine m_iand (w := (iI zz5 &&& iI 255)) C dX12_feed_102 rfl ?_
              obtain ⟨zz6, hzz6, ezz6⟩ := iI_of ((iI zz5 &&& iI 255))
              refine m_st (st2 := [.int (iI zz6), .int (iI (v 3)), .ref (ad 2)]) (by rw [ezz6]) ?_
              refine m_ast (k := 2) C dX12_feed_103 rfl rfl (by decide) (by omega) (by show _ < ((_ : Nat) : Int); simp only [mlen]; omega) (by decide) ?_
              refine m_aload_n (j := 2) C dX12_feed_104 rfl ?_
              refine m_dup C dX12_feed_105 rfl ?_
              refine m_get (k := 3) C dX12_feed_106 w6_62 (by decide) rfl ?_
              refine m_iconst C dX12_feed_109 ?_
              refine m_iadd C dX12_feed_110 ?_
              refine m_put (k := 3) (z := (v 3) + 1) C dX12_feed_111 w6_62 (by decide) rfl rfl rfl ?_
              refine m_iinc (z := k) (j := 1) (lv2 := [(6, .int (iI (k + 1))), (7, .int (iI x4)), (0, .ref h0), (1, .int (iI x1)), (2, .int (iI x2)), (3, .int (iI x3)), (4, .int (iI x4)), (5, .int (iI x5))]) C dX12_feed_114 rfl (by decide) rfl ?_
              refine m_goto (tgt := 23) C dX12_feed_117 (by decide) ?_
              refine m_lv (lv2 := [(6, .int (iI (k + 1))), (0, .ref h0), (1, .int (iI x1)), (2, .int (iI x2)), (3, .int (iI x3)), (4, .int (iI x4)), (5, .int (iI x5))]) [0, 2, 3, 4, 5, 6, 7] rfl ?_
              exact ih (k + 1) _ _ (by omega) (by omega) (by show v 3 + 1 = v0 3 + (k + 1); omega) (fun j hj => (va_up_ne _ _ hj).trans (hv j hj)) (fun j hj => (funext fun i => up2_k hj).trans (ha j hj)) ((hr.set hzz6).put ⟨by omega, by omega⟩)
          · refine m_iload_n (j := 4) C dX12_feed_58 rfl ?_
            refine m_goto (tgt := 76) C dX12_feed_59 (by decide) ?_
            refine m_istore (lv2 := [(7, .int (iI x3)), (6, .int (iI k)), (0, .ref h0), (1, .int (iI x1)), (2, .int (iI x2)), (3, .int (iI x3)), (4, .int (iI x4)), (5, .int (iI x5))]) C dX12_feed_76 (by decide) rfl ?_
            refine m_aload_n (j := 2) C dX12_feed_78 rfl ?_
            refine m_geta (k := 2) C dX12_feed_79 w6_61 (by decide) rfl ?_
            refine m_aload_n (j := 2) C dX12_feed_82 rfl ?_
            have rv3 := hr.1 3
            refine m_get (k := 3) C dX12_feed_83 w6_62 (by decide) rfl ?_
            refine m_iload (j := 0) C dX12_feed_86 rfl ?_
            refine m_bipush (z := 24) C dX12_feed_88 (by decide) ?_
            refine m_bipush (z := 8) C dX12_feed_90 (by decide) ?_
            refine m_iload (j := 1) C dX12_feed_92 rfl ?_
            refine m_iconst C dX12_feed_94 ?_
            refine m_iand (w := (iI k &&& iI 3)) C dX12_feed_95 rfl ?_
            obtain ⟨zz7, hzz7, ezz7⟩ := iI_of ((iI k &&& iI 3))
            refine m_st (st2 := [.int (iI zz7), .int (iI 8), .int (iI 24), .int (iI x3), .int (iI (v 3)), .ref (ad 2)]) (by rw [ezz7]) ?_
            refine m_imul C dX12_feed_96 ?_
            refine m_isub C dX12_feed_97 ?_
            refine m_ishr (w := (iI x3 >>> (iI (24 - (8 * zz7)) &&& 31))) C dX12_feed_98 rfl ?_
            obtain ⟨zz8, hzz8, ezz8⟩ := iI_of ((iI x3 >>> (iI (24 - (8 * zz7)) &&& 31)))
            refine m_st (st2 := [.int (iI zz8), .int (iI (v 3)), .ref (ad 2)]) (by rw [ezz8]) ?_
            refine m_sipush (z := 255) C dX12_feed_99 (by decide) ?_
            refine m_iand (w := (iI zz8 &&& iI 255)) C dX12_feed_102 rfl ?_
            obtain ⟨zz9, hzz9, ezz9⟩ := iI_of ((iI zz8 &&& iI 255))
            refine m_st (st2 := [.int (iI zz9), .int (iI (v 3)), .ref (ad 2)]) (by rw [ezz9]) ?_
            refine m_ast (k := 2) C dX12_feed_103 rfl rfl (by decide) (by omega) (by show _ < ((_ : Nat) : Int); simp only [mlen]; omega) (by decide) ?_
            refine m_aload_n (j := 2) C dX12_feed_104 rfl ?_
            refine m_dup C dX12_feed_105 rfl ?_
            refine m_get (k := 3) C dX12_feed_106 w6_62 (by decide) rfl ?_
            refine m_iconst C dX12_feed_109 ?_
            refine m_iadd C dX12_feed_110 ?_
            refine m_put (k := 3) (z := (v 3) + 1) C dX12_feed_111 w6_62 (by decide) rfl rfl rfl ?_
            refine m_iinc (z := k) (j := 1) (lv2 := [(6, .int (iI (k + 1))), (7, .int (iI x3)), (0, .ref h0), (1, .int (iI x1)), (2, .int (iI x2)), (3, .int (iI x3)), (4, .int (iI x4)), (5, .int (iI x5))]) C dX12_feed_114 rfl (by decide) rfl ?_
            refine m_goto (tgt := 23) C dX12_feed_117 (by decide) ?_
            refine m_lv (lv2 := [(6, .int (iI (k + 1))), (0, .ref h0), (1, .int (iI x1)), (2, .int (iI x2)), (3, .int (iI x3)), (4, .int (iI x4)), (5, .int (iI x5))]) [0, 2, 3, 4, 5, 6, 7] rfl ?_
            exact ih (k + 1) _ _ (by omega) (by omega) (by show v 3 + 1 = v0 3 + (k + 1); omega) (fun j hj => (va_up_ne _ _ hj).trans (hv j hj)) (fun j hj => (funext fun i => up2_k hj).trans (ha j hj)) ((hr.set hzz9).put ⟨by omega, by omega⟩)
        · refine m_iload_n (j := 3) C dX12_feed_47 rfl ?_
          refine m_goto (tgt := 76) C dX12_feed_48 (by decide) ?_
          refine m_istore (lv2 := [(7, .int (iI x2)), (6, .int (iI k)), (0, .ref h0), (1, .int (iI x1)), (2, .int (iI x2)), (3, .int (iI x3)), (4, .int (iI x4)), (5, .int (iI x5))]) C dX12_feed_76 (by decide) rfl ?_
          refine m_aload_n (j := 2) C dX12_feed_78 rfl ?_
          refine m_geta (k := 2) C dX12_feed_79 w6_61 (by decide) rfl ?_
          refine m_aload_n (j := 2) C dX12_feed_82 rfl ?_
          have rv3 := hr.1 3
          refine m_get (k := 3) C dX12_feed_83 w6_62 (by decide) rfl ?_
          refine m_iload (j := 0) C dX12_feed_86 rfl ?_
          refine m_bipush (z := 24) C dX12_feed_88 (by decide) ?_
          refine m_bipush (z := 8) C dX12_feed_90 (by decide) ?_
          refine m_iload (j := 1) C dX12_feed_92 rfl ?_
          refine m_iconst C dX12_feed_94 ?_
          refine m_iand (w := (iI k &&& iI 3)) C dX12_feed_95 rfl ?_
          obtain ⟨zz10, hzz10, ezz10⟩ := iI_of ((iI k &&& iI 3))
          refine m_st (st2 := [.int (iI zz10), .int (iI 8), .int (iI 24), .int (iI x2), .int (iI (v 3)), .ref (ad 2)]) (by rw [ezz10]) ?_
          refine m_imul C dX12_feed_96 ?_
          refine m_isub C dX12_feed_97 ?_
          refine m_ishr (w := (iI x2 >>> (iI (24 - (8 * zz10)) &&& 31))) C dX12_feed_98 rfl ?_
          obtain ⟨zz11, hzz11, ezz11⟩ := iI_of ((iI x2 >>> (iI (24 - (8 * zz10)) &&& 31)))
          refine m_st (st2 := [.int (iI zz11), .int (iI (v 3)), .ref (ad 2)]) (by rw [ezz11]) ?_
          refine m_sipush (z := 255) C dX12_feed_99 (by decide) ?_
          refine m_iand (w := (iI zz11 &&& iI 255)) C dX12_feed_102 rfl ?_
          obtain ⟨zz12, hzz12, ezz12⟩ := iI_of ((iI zz11 &&& iI 255))
          refine m_st (st2 := [.int (iI zz12), .int (iI (v 3)), .ref (ad 2)]) (by rw [ezz12]) ?_
          refine m_ast (k := 2) C dX12_feed_103 rfl rfl (by decide) (by omega) (by show _ < ((_ : Nat) : Int); simp only [mlen]; omega) (by decide) ?_
          refine m_aload_n (j := 2) C dX12_feed_104 rfl ?_
          refine m_dup C dX12_feed_105 rfl ?_
          refine m_get (k := 3) C dX12_feed_106 w6_62 (by decide) rfl ?_
          refine m_iconst C dX12_feed_109 ?_
          refine m_iadd C dX12_feed_110 ?_
          refine m_put (k := 3) (z := (v 3) + 1) C dX12_feed_111 w6_62 (by decide) rfl rfl rfl ?_
          refine m_iinc (z := k) (j := 1) (lv2 := [(6, .int (iI (k + 1))), (7, .int (iI x2)), (0, .ref h0), (1, .int (iI x1)), (2, .int (iI x2)), (3, .int (iI x3)), (4, .int (iI x4)), (5, .int (iI x5))]) C dX12_feed_114 rfl (by decide) rfl ?_
          refine m_goto (tgt := 23) C dX12_feed_117 (by decide) ?_
          refine m_lv (lv2 := [(6, .int (iI (k + 1))), (0, .ref h0), (1, .int (iI x1)), (2, .int (iI x2)), (3, .int (iI x3)), (4, .int (iI x4)), (5, .int (iI x5))]) [0, 2, 3, 4, 5, 6, 7] rfl ?_
          exact ih (k + 1) _ _ (by omega) (by omega) (by show v 3 + 1 = v0 3 + (k + 1); omega) (fun j hj => (va_up_ne _ _ hj).trans (hv j hj)) (fun j hj => (funext fun i => up2_k hj).trans (ha j hj)) ((hr.set hzz12).put ⟨by omega, by omega⟩)
      · refine m_iload_n (j := 2) C dX12_feed_36 rfl ?_
        refine m_goto (tgt := 76) C dX12_feed_37 (by decide) ?_
        refine m_istore (lv2 := [(7, .int (iI x1)), (6, .int (iI k)), (0, .ref h0), (1, .int (iI x1)), (2, .int (iI x2)), (3, .int (iI x3)), (4, .int (iI x4)), (5, .int (iI x5))]) C dX12_feed_76 (by decide) rfl ?_
        refine m_aload_n (j := 2) C dX12_feed_78 rfl ?_
        refine m_geta (k := 2) C dX12_feed_79 w6_61 (by decide) rfl ?_
        refine m_aload_n (j := 2) C dX12_feed_82 rfl ?_
        have rv3 := hr.1 3
        refine m_get (k := 3) C dX12_feed_83 w6_62 (by decide) rfl ?_
        refine m_iload (j := 0) C dX12_feed_86 rfl ?_
        refine m_bipush (z := 24) C dX12_feed_88 (by decide) ?_
        refine m_bipush (z := 8) C dX12_feed_90 (by decide) ?_
        refine m_iload (j := 1) C dX12_feed_92 rfl ?_
        refine m_iconst C dX12_feed_94 ?_
        refine m_iand (w := (iI k &&& iI 3)) C dX12_feed_95 rfl ?_
        obtain ⟨zz13, hzz13, ezz13⟩ := iI_of ((iI k &&& iI 3))
        refine m_st (st2 := [.int (iI zz13), .int (iI 8), .int (iI 24), .int (iI x1), .int (iI (v 3)), .ref (ad 2)]) (by rw [ezz13]) ?_
        refine m_imul C dX12_feed_96 ?_
        refine m_isub C dX12_feed_97 ?_
        refine m_ishr (w := (iI x1 >>> (iI (24 - (8 * zz13)) &&& 31))) C dX12_feed_98 rfl ?_
        obtain ⟨zz14, hzz14, ezz14⟩ := iI_of ((iI x1 >>> (iI (24 - (8 * zz13)) &&& 31)))
        refine m_st (st2 := [.int (iI zz14), .int (iI (v 3)), .ref (ad 2)]) (by rw [ezz14]) ?_
        refine m_sipush (z := 255) C dX12_feed_99 (by decide) ?_
        refine m_iand (w := (iI zz14 &&& iI 255)) C dX12_feed_102 rfl ?_
        obtain ⟨zz15, hzz15, ezz15⟩ := iI_of ((iI zz14 &&& iI 255))
        refine m_st (st2 := [.int (iI zz15), .int (iI (v 3)), .ref (ad 2)]) (by rw [ezz15]) ?_
        refine m_ast (k := 2) C dX12_feed_103 rfl rfl (by decide) (by omega) (by show _ < ((_ : Nat) : Int); simp only [mlen]; omega) (by decide) ?_
        refine m_aload_n (j := 2) C dX12_feed_104 rfl ?_
        refine m_dup C dX12_feed_105 rfl ?_
        refine m_get (k := 3) C dX12_feed_106 w6_62 (by decide) rfl ?_
        refine m_iconst C dX12_feed_109 ?_
        refine m_iadd C dX12_feed_110 ?_
        refine m_put (k := 3) (z := (v 3) + 1) C dX12_feed_111 w6_62 (by decide) rfl rfl rfl ?_
        refine m_iinc (z := k) (j := 1) (lv2 := [(6, .int (iI (k + 1))), (7, .int (iI x1)), (0, .ref h0), (1, .int (iI x1)), (2, .int (iI x2)), (3, .int (iI x3)), (4, .int (iI x4)), (5, .int (iI x5))]) C dX12_feed_114 rfl (by decide) rfl ?_
        refine m_goto (tgt := 23) C dX12_feed_117 (by decide) ?_
        refine m_lv (lv2 := [(6, .int (iI (k + 1))), (0, .ref h0), (1, .int (iI x1)), (2, .int (iI x2)), (3, .int (iI x3)), (4, .int (iI x4)), (5, .int (iI x5))]) [0, 2, 3, 4, 5, 6, 7] rfl ?_
        exact ih (k + 1) _ _ (by omega) (by omega) (by show v 3 + 1 = v0 3 + (k + 1); omega) (fun j hj => (va_up_ne _ _ hj).trans (hv j hj)) (fun j hj => (funext fun i => up2_k hj).trans (ha j hj)) ((hr.set hzz15).put ⟨by omega, by omega⟩)
set_option maxHeartbeats 4000000 in
set_option maxRecDepth 100000 in
theorem M_feed {l : Launch} {G : GT} {h0 : Nat} {ad ln : Nat → Nat} {v : Nat → Int} {a : Nat → Nat → Int} {x1 x2 x3 x4 x5 : Int} (hR : RG v a) (h3 : 0 ≤ v 3 ∧ v 3 ≤ 3000) : Mm l G yX12_feed cX12_feed 8 (some .int) 1 [.int (iI x1), .int (iI x2), .int (iI x3), .int (iI x4), .int (iI x5)] h0 ad ln v a 0 0 (fun r v2 a2 => ((r = some (.int (iI (v 3 + 20))) ∧ v2 3 = v 3 + 20 ∧ v 3 ≤ 2980) ∨ (r = some (.int (iI (-1))) ∧ v2 3 = v 3 ∧ 2980 < v 3)) ∧ (∀ j, j ≠ 0 → j ≠ 1 → j ≠ 3 → v2 j = v j) ∧ (∀ j, j ≠ 2 → a2 j = a j) ∧ RG v2 a2) := by
  refine Mm.mk (by decide) (Nat.le_of_ble_eq_true rfl) ?_
  intro p e s m args below meth c A C
  refine m_aload_n (j := 0) C dX12_feed_0 rfl ?_
  have rv3 := hR.1 3
  refine m_get (k := 3) C dX12_feed_1 w6_62 (by decide) rfl ?_
  refine m_bipush (z := 20) C dX12_feed_4 (by decide) ?_
  refine m_iadd C dX12_feed_6 ?_
  refine m_sipush (z := 3000) C dX12_feed_7 (by decide) ?_
  refine m_icmp_le (tgt := 20) C ⟨by omega, by omega⟩ ⟨by decide, by decide⟩ dX12_feed_10 (by decide) (fun c1 => ?_) (fun c1 => ?_)
  · refine m_iconst C dX12_feed_20 ?_
    refine m_istore (lv2 := [(6, .int (iI 0)), (0, .ref h0), (1, .int (iI x1)), (2, .int (iI x2)), (3, .int (iI x3)), (4, .int (iI x4)), (5, .int (iI x5))]) C dX12_feed_21 (by decide) rfl ?_
    refine m_lv (lv2 := [(6, .int (iI 0)), (0, .ref h0), (1, .int (iI x1)), (2, .int (iI x2)), (3, .int (iI x3)), (4, .int (iI x4)), (5, .int (iI x5))]) [0, 1, 2, 3, 4, 5, 6] rfl ?_
    exact Lp_feed (by omega) C 21 0 _ _ (by omega) (by omega) (by omega) (fun j hj => rfl) (fun j hj => rfl) hR
  · refine m_aload_n (j := 0) C dX12_feed_13 rfl ?_
    refine m_bipush (z := 6) C dX12_feed_14 (by decide) ?_
    refine m_call (mc2 := 0) (ms2 := 0) (As := [.int (iI 6)]) (rest := []) C (M_bad (x := 6)) dX12_feed_16 kV_X12_154 rfl ck_13 rfl (Nat.le_of_ble_eq_true rfl) ⟨Nat.le_of_ble_eq_true rfl, Nat.le_of_ble_eq_true rfl⟩ ⟨Nat.le_of_ble_eq_true rfl, Nat.le_of_ble_eq_true rfl⟩ (fun rh1 vh1 ah1 h1 => ?_)
    obtain ⟨rfl, rfl, rfl⟩ := h1
    refine m_st (st2 := [.int (iI (-1))]) rfl ?_
    exact m_iret C dX12_feed_19 rfl (Nat.le_of_ble_eq_true rfl) (Nat.le_of_ble_eq_true rfl) ⟨Or.inr ⟨rfl, rfl, by omega⟩, fun j n0 n1 n3 => by simp [va_up, n0, n1], fun j hj => rfl, ((hR.put ⟨by decide, by decide⟩).put ⟨by decide, by decide⟩)⟩
set_option maxHeartbeats 4000000 in
set_option maxRecDepth 100000 in
theorem Lp_lineEnd {p : Program} {l : Launch} {e : Env} {s : State} {m : MethodId} {args : Array Value} {below : List Frame} {meth : Method} {c : Code} {G : GT} {A : Nat → Prop} {h0 : Nat} {ad ln : Nat → Nat} {v : Nat → Int} {a : Nat → Nat → Int} {q : Int} (hR : RG v a) (ht : 0 ≤ v 30 ∧ v 30 ≤ 500) (hq : 0 ≤ q ∧ q ≤ 1000) (C : Cq p s m args meth c cX12_lineEnd yX12_lineEnd (some .int) G A 3) : ∀ (n : Nat) (k : Int), 1001 - k < (n : Int) → (q ≤ k ∧ k ≤ 1000 ∧ (k = q ∨ k ≤ v 30)) → mw p l e (rmq 0 0 0) s m args below meth c G A 3 (MQ below (Qm G A (fun rq Lq Eq => ∃ (vq : Nat → Int) (aq : Nat → Nat → Int), mI G h0 ad ln vq aq Lq Eq ∧ (fun r v2 a2 => ∃ f : Int, r = some (.int (iI f)) ∧ (q ≤ f ∧ (f = q ∨ f ≤ v 30)) ∧ v = v2 ∧ a = a2) rq vq aq)) args s 0 0 A) h0 ad ln v a 0 0 2 [(2, .int (iI k)), (0, .ref h0), (1, .int (iI q))] [] := by
  intro n
  induction n with
  | zero =>
    intro k   hm hk
    exact absurd hm (by omega)
  | succ n ih =>
    intro k   hm hk
    refine m_iload_n (j := 0) C dX12_lineEnd_2 rfl ?_
    refine m_aload_n (j := 1) C dX12_lineEnd_3 rfl ?_
    have rv30 := hR.1 30
    refine m_get (k := 30) C dX12_lineEnd_4 w6_89 (by decide) rfl ?_
    refine m_icmp_ge (tgt := 27) C ⟨by omega, by omega⟩ ⟨by omega, by omega⟩ dX12_lineEnd_7 (by decide) (fun c1 => ?_) (fun c1 => ?_)
    · refine m_iload_n (j := 0) C dX12_lineEnd_27 rfl ?_
      exact m_iret C dX12_lineEnd_28 rfl (Nat.le_of_ble_eq_true rfl) (Nat.le_of_ble_eq_true rfl) ⟨k, rfl, (by omega), rfl, rfl⟩
    · refine m_aload_n (j := 1) C dX12_lineEnd_10 rfl ?_
      refine m_geta (k := 29) C dX12_lineEnd_11 w6_88 (by decide) rfl ?_
      refine m_iload_n (j := 0) C dX12_lineEnd_14 rfl ?_
      refine m_ald (k := 29) C dX12_lineEnd_15 rfl rfl (by decide) (by omega) (by show _ < ((_ : Nat) : Int); simp only [mlen]; omega) (by decide) ?_
      have ra1 := hR.2 29 (k.toNat)
      refine m_bipush (z := 10) C dX12_lineEnd_16 (by decide) ?_
      refine m_icmp_eq (tgt := 27) C ⟨by omega, by omega⟩ ⟨by decide, by decide⟩ dX12_lineEnd_18 (by decide) (fun c2 => ?_) (fun c2 => ?_)
      · refine m_iload_n (j := 0) C dX12_lineEnd_27 rfl ?_
        exact m_iret C dX12_lineEnd_28 rfl (Nat.le_of_ble_eq_true rfl) (Nat.le_of_ble_eq_true rfl) ⟨k, rfl, (by omega), rfl, rfl⟩
      · refine m_iinc (z := k) (j := 0) (lv2 := [(2, .int (iI (k + 1))), (0, .ref h0), (1, .int (iI q))]) C dX12_lineEnd_21 rfl (by decide) rfl ?_
        refine m_goto (tgt := 2) C dX12_lineEnd_24 (by decide) ?_
        refine m_lv (lv2 := [(2, .int (iI (k + 1))), (0, .ref h0), (1, .int (iI q))]) [0, 1, 2] rfl ?_
        exact ih (k + 1) (by omega) (by omega)
set_option maxHeartbeats 4000000 in
set_option maxRecDepth 100000 in
theorem M_lineEnd {l : Launch} {G : GT} {h0 : Nat} {ad ln : Nat → Nat} {v : Nat → Int} {a : Nat → Nat → Int} {q : Int} (hR : RG v a) (ht : 0 ≤ v 30 ∧ v 30 ≤ 500) (hq : 0 ≤ q ∧ q ≤ 1000) : Mm l G yX12_lineEnd cX12_lineEnd 3 (some .int) 0 [.int (iI q)] h0 ad ln v a 0 0 (fun r v2 a2 => ∃ f : Int, r = some (.int (iI f)) ∧ (q ≤ f ∧ (f = q ∨ f ≤ v 30)) ∧ v = v2 ∧ a = a2) := by
  refine Mm.mk (by decide) (Nat.le_of_ble_eq_true rfl) ?_
  intro p e s m args below meth c A C
  refine m_iload_n (j := 1) C dX12_lineEnd_0 rfl ?_
  refine m_istore_n (lv2 := [(2, .int (iI q)), (0, .ref h0), (1, .int (iI q))]) C dX12_lineEnd_1 (by decide) rfl ?_
  refine m_lv (lv2 := [(2, .int (iI q)), (0, .ref h0), (1, .int (iI q))]) [0, 1, 2] rfl ?_
  exact Lp_lineEnd hR ht hq C 1002 q  (by omega) (by omega)
set_option maxHeartbeats 4000000 in
set_option maxRecDepth 100000 in
theorem Lp_areCells {p : Program} {l : Launch} {e : Env} {s : State} {m : MethodId} {args : Array Value} {below : List Frame} {meth : Method} {c : Code} {G : GT} {A : Nat → Prop} {h0 : Nat} {ad ln : Nat → Nat} {v : Nat → Int} {a : Nat → Nat → Int} {t q u : Int} (hR : RG v a) (ht : 0 ≤ t ∧ t < 30) (hq : 0 ≤ q ∧ q ≤ 3000) (hu : 0 ≤ u ∧ q + u ≤ 3000) (C : Cq p s m args meth c cX12_areCells yX12_areCells (some .boolean) G A 6) : ∀ (n : Nat) (k f : Int), 3001 - k < (n : Int) → (q ≤ k ∧ k ≤ q + u) → (f = 0 ∨ f = 1) → mw p l e (rmq 1 0 0) s m args below meth c G A 6 (MQ below (Qm G A (fun rq Lq Eq => ∃ (vq : Nat → Int) (aq : Nat → Nat → Int), mI G h0 ad ln vq aq Lq Eq ∧ (fun r v2 a2 => ∃ f : Int, r = some (.int (iI f)) ∧ (f = 0 ∨ f = 1) ∧ v = v2 ∧ a = a2) rq vq aq)) args s 0 0 A) h0 ad ln v a 0 0 6 [(5, .int (iI k)), (4, .int (iI f)), (0, .ref h0), (1, .int (iI t)), (2, .int (iI q)), (3, .int (iI u))] [] := by
  intro n
  induction n with
  | zero =>
    intro k f   hm hk hf
    exact absurd hm (by omega)
  | succ n ih =>
    intro k f   hm hk hf
    refine m_iload (j := 0) C dX12_areCells_6 rfl ?_
    refine m_iload_n (j := 4) C dX12_areCells_8 rfl ?_
    refine m_iload_n (j := 5) C dX12_areCells_9 rfl ?_
    refine m_iadd C dX12_areCells_10 ?_
    refine m_icmp_ge (tgt := 65) C ⟨by omega, by omega⟩ ⟨by omega, by omega⟩ dX12_areCells_11 (by decide) (fun c1 => ?_) (fun c1 => ?_)
    · refine m_iload (j := 1) C dX12_areCells_65 rfl ?_
      exact m_zret C dX12_areCells_67 rfl (by omega) (Nat.le_of_ble_eq_true rfl) (Nat.le_of_ble_eq_true rfl) ⟨f, rfl, hf, rfl, rfl⟩
    · refine m_iload (j := 1) C dX12_areCells_14 rfl ?_
      refine m_if_eq (tgt := 56) C ⟨by omega, by omega⟩ dX12_areCells_16 (by decide) (fun c2 => ?_) (fun c2 => ?_)
      · refine m_iconst C dX12_areCells_56 ?_
        refine m_istore (lv2 := [(4, .int (iI 0)), (5, .int (iI k)), (0, .ref h0), (1, .int (iI t)), (2, .int (iI q)), (3, .int (iI u))]) C dX12_areCells_57 (by decide) rfl ?_
        refine m_iinc (z := k) (j := 1) (lv2 := [(5, .int (iI (k + 1))), (4, .int (iI 0)), (0, .ref h0), (1, .int (iI t)), (2, .int (iI q)), (3, .int (iI u))]) C dX12_areCells_59 rfl (by decide) rfl ?_
        refine m_goto (tgt := 6) C dX12_areCells_62 (by decide) ?_
        refine m_lv (lv2 := [(5, .int (iI (k + 1))), (4, .int (iI 0)), (0, .ref h0), (1, .int (iI t)), (2, .int (iI q)), (3, .int (iI u))]) [0, 1, 2, 3, 4, 5] rfl ?_
        exact ih (k + 1) 0 (by omega) (by omega) (by omega)
      · refine m_aload_n (j := 2) C dX12_areCells_19 rfl ?_
        refine m_geta (k := 2) C dX12_areCells_20 w6_61 (by decide) rfl ?_
        refine m_iload (j := 0) C dX12_areCells_23 rfl ?_
        refine m_ald (k := 2) C dX12_areCells_25 rfl rfl (by decide) (by omega) (by show _ < ((_ : Nat) : Int); simp only [mlen]; omega) (by decide) ?_
        have ra1 := hR.2 2 (k.toNat)
        refine m_iconst C dX12_areCells_26 ?_
        refine m_aload_n (j := 2) C dX12_areCells_27 rfl ?_
        refine m_geta (k := 7) C dX12_areCells_28 w6_66 (by decide) rfl ?_
        refine m_iload_n (j := 3) C dX12_areCells_31 rfl ?_
        refine m_ald (k := 7) C dX12_areCells_32 rfl rfl (by decide) (by omega) (by show _ < ((_ : Nat) : Int); simp only [mlen]; omega) (by decide) ?_
        have ra2 := hR.2 7 (t.toNat)
        refine m_bipush (z := 6) C dX12_areCells_33 (by decide) ?_
        refine m_icmp_ne (tgt := 43) C ⟨by omega, by omega⟩ ⟨by decide, by decide⟩ dX12_areCells_35 (by decide) (fun c3 => ?_) (fun c3 => ?_)
        · refine m_sipush (z := 255) C dX12_areCells_43 (by decide) ?_
          refine m_callS (As := [.int (iI (a 2 k.toNat)), .int (iI 1), .int (iI 255)]) (rest := []) C (fun L E => s_isIn (iI (a 2 k.toNat)) (iI 1) (iI 255)) dX12_areCells_46 kS_X12_174 rfl rfl (Nat.le_of_ble_eq_true rfl) ⟨Nat.le_of_ble_eq_true rfl, Nat.le_of_ble_eq_true rfl⟩ ⟨Nat.le_of_ble_eq_true rfl, Nat.le_of_ble_eq_true rfl⟩ ?_
          rcases inn_c (x := a 2 k.toNat) (lo := 1) (hi := 255) ⟨by omega, by omega⟩ ⟨by decide, by decide⟩ ⟨by decide, by decide⟩ with ⟨h1a, h1b, h1e⟩ | ⟨h1a, h1e⟩
          · refine m_st (st2 := [.int (iI 1)]) (by rw [h1e]) ?_
            refine m_if_eq (tgt := 56) C ⟨by decide, by decide⟩ dX12_areCells_49 (by decide) (fun z => absurd z (by omega)) (fun _ => ?_)
            refine m_iconst C dX12_areCells_52 ?_
            refine m_goto (tgt := 57) C dX12_areCells_53 (by decide) ?_
            refine m_istore (lv2 := [(4, .int (iI 1)), (5, .int (iI k)), (0, .ref h0), (1, .int (iI t)), (2, .int (iI q)), (3, .int (iI u))]) C dX12_areCells_57 (by decide) rfl ?_
            refine m_iinc (z := k) (j := 1) (lv2 := [(5, .int (iI (k + 1))), (4, .int (iI 1)), (0, .ref h0), (1, .int (iI t)), (2, .int (iI q)), (3, .int (iI u))]) C dX12_areCells_59 rfl (by decide) rfl ?_
            refine m_goto (tgt := 6) C dX12_areCells_62 (by decide) ?_
            refine m_lv (lv2 := [(5, .int (iI (k + 1))), (4, .int (iI 1)), (0, .ref h0), (1, .int (iI t)), (2, .int (iI q)), (3, .int (iI u))]) [0, 1, 2, 3, 4, 5] rfl ?_
            exact ih (k + 1) 1 (by omega) (by omega) (by omega)
          · refine m_st (st2 := [.int (iI 0)]) (by rw [h1e]) ?_
            refine m_if_eq (tgt := 56) C ⟨by decide, by decide⟩ dX12_areCells_49 (by decide) (fun _ => ?_) (fun z => absurd z (by omega))
            refine m_iconst C dX12_areCells_56 ?_
            refine m_istore (lv2 := [(4, .int (iI 0)), (5, .int (iI k)), (0, .ref h0), (1, .int (iI t)), (2, .int (iI q)), (3, .int (iI u))]) C dX12_areCells_57 (by decide) rfl ?_
            refine m_iinc (z := k) (j := 1) (lv2 := [(5, .int (iI (k + 1))), (4, .int (iI 0)), (0, .ref h0), (1, .int (iI t)), (2, .int (iI q)), (3, .int (iI u))]) C dX12_areCells_59 rfl (by decide) rfl ?_
            refine m_goto (tgt := 6) C dX12_areCells_62 (by decide) ?_
            refine m_lv (lv2 := [(5, .int (iI (k + 1))), (4, .int (iI 0)), (0, .ref h0), (1, .int (iI t)), (2, .int (iI q)), (3, .int (iI u))]) [0, 1, 2, 3, 4, 5] rfl ?_
            exact ih (k + 1) 0 (by omega) (by omega) (by omega)
        · refine m_bipush (z := 63) C dX12_areCells_38 (by decide) ?_
          refine m_goto (tgt := 46) C dX12_areCells_40 (by decide) ?_
          refine m_callS (As := [.int (iI (a 2 k.toNat)), .int (iI 1), .int (iI 63)]) (rest := []) C (fun L E => s_isIn (iI (a 2 k.toNat)) (iI 1) (iI 63)) dX12_areCells_46 kS_X12_174 rfl rfl (Nat.le_of_ble_eq_true rfl) ⟨Nat.le_of_ble_eq_true rfl, Nat.le_of_ble_eq_true rfl⟩ ⟨Nat.le_of_ble_eq_true rfl, Nat.le_of_ble_eq_true rfl⟩ ?_
          rcases inn_c (x := a 2 k.toNat) (lo := 1) (hi := 63) ⟨by omega, by omega⟩ ⟨by decide, by decide⟩ ⟨by decide, by decide⟩ with ⟨h2a, h2b, h2e⟩ | ⟨h2a, h2e⟩
          · refine m_st (st2 := [.int (iI 1)]) (by rw [h2e]) ?_
            refine m_if_eq (tgt := 56) C ⟨by decide, by decide⟩ dX12_areCells_49 (by decide) (fun z => absurd z (by omega)) (fun _ => ?_)
            refine m_iconst C dX12_areCells_52 ?_
            refine m_goto (tgt := 57) C dX12_areCells_53 (by decide) ?_
            refine m_istore (lv2 := [(4, .int (iI 1)), (5, .int (iI k)), (0, .ref h0), (1, .int (iI t)), (2, .int (iI q)), (3, .int (iI u))]) C dX12_areCells_57 (by decide) rfl ?_
            refine m_iinc (z := k) (j := 1) (lv2 := [(5, .int (iI (k + 1))), (4, .int (iI 1)), (0, .ref h0), (1, .int (iI t)), (2, .int (iI q)), (3, .int (iI u))]) C dX12_areCells_59 rfl (by decide) rfl ?_
            refine m_goto (tgt := 6) C dX12_areCells_62 (by decide) ?_
            refine m_lv (lv2 := [(5, .int (iI (k + 1))), (4, .int (iI 1)), (0, .ref h0), (1, .int (iI t)), (2, .int (iI q)), (3, .int (iI u))]) [0, 1, 2, 3, 4, 5] rfl ?_
            exact ih (k + 1) 1 (by omega) (by omega) (by omega)
          · refine m_st (st2 := [.int (iI 0)]) (by rw [h2e]) ?_
            refine m_if_eq (tgt := 56) C ⟨by decide, by decide⟩ dX12_areCells_49 (by decide) (fun _ => ?_) (fun z => absurd z (by omega))
            refine m_iconst C dX12_areCells_56 ?_
            refine m_istore (lv2 := [(4, .int (iI 0)), (5, .int (iI k)), (0, .ref h0), (1, .int (iI t)), (2, .int (iI q)), (3, .int (iI u))]) C dX12_areCells_57 (by decide) rfl ?_
            refine m_iinc (z := k) (j := 1) (lv2 := [(5, .int (iI (k + 1))), (4, .int (iI 0)), (0, .ref h0), (1, .int (iI t)), (2, .int (iI q)), (3, .int (iI u))]) C dX12_areCells_59 rfl (by decide) rfl ?_
            refine m_goto (tgt := 6) C dX12_areCells_62 (by decide) ?_
            refine m_lv (lv2 := [(5, .int (iI (k + 1))), (4, .int (iI 0)), (0, .ref h0), (1, .int (iI t)), (2, .int (iI q)), (3, .int (iI u))]) [0, 1, 2, 3, 4, 5] rfl ?_
            exact ih (k + 1) 0 (by omega) (by omega) (by omega)
set_option maxHeartbeats 4000000 in
set_option maxRecDepth 100000 in
theorem M_areCells {l : Launch} {G : GT} {h0 : Nat} {ad ln : Nat → Nat} {v : Nat → Int} {a : Nat → Nat → Int} {t q u : Int} (hR : RG v a) (ht : 0 ≤ t ∧ t < 30) (hq : 0 ≤ q ∧ q ≤ 3000) (hu : 0 ≤ u ∧ q + u ≤ 3000) : Mm l G yX12_areCells cX12_areCells 6 (some .boolean) 1 [.int (iI t), .int (iI q), .int (iI u)] h0 ad ln v a 0 0 (fun r v2 a2 => ∃ f : Int, r = some (.int (iI f)) ∧ (f = 0 ∨ f = 1) ∧ v = v2 ∧ a = a2) := by
  refine Mm.mk (by decide) (Nat.le_of_ble_eq_true rfl) ?_
  intro p e s m args below meth c A C
  refine m_iconst C dX12_areCells_0 ?_
  refine m_istore (lv2 := [(4, .int (iI 1)), (0, .ref h0), (1, .int (iI t)), (2, .int (iI q)), (3, .int (iI u))]) C dX12_areCells_1 (by decide) rfl ?_
  refine m_iload_n (j := 3) C dX12_areCells_3 rfl ?_
  refine m_istore (lv2 := [(5, .int (iI q)), (4, .int (iI 1)), (0, .ref h0), (1, .int (iI t)), (2, .int (iI q)), (3, .int (iI u))]) C dX12_areCells_4 (by decide) rfl ?_
  refine m_lv (lv2 := [(5, .int (iI q)), (4, .int (iI 1)), (0, .ref h0), (1, .int (iI t)), (2, .int (iI q)), (3, .int (iI u))]) [0, 1, 2, 3, 4, 5] rfl ?_
  exact Lp_areCells hR ht hq hu C 3002 q 1  (by omega) (by omega) (by omega)
set_option maxHeartbeats 4000000 in
set_option maxRecDepth 100000 in
theorem Lp_text2 {p : Program} {l : Launch} {e : Env} {s : State} {m : MethodId} {args : Array Value} {below : List Frame} {meth : Method} {c : Code} {G : GT} {A : Nat → Prop} {h0 : Nat} {ad ln : Nat → Nat} {v0 : Nat → Int} {a0 : Nat → Nat → Int} {u f : Int} (hu : 0 ≤ u ∧ u ≤ 3000) (C : Cq p s m args meth c cX12_text yX12_text (some .int) G A 4) : ∀ (n : Nat) (k : Int) (v : Nat → Int) (a : Nat → Nat → Int), 3001 - k < (n : Int) → (0 ≤ k ∧ k ≤ u) → (0 ≤ v 30 ∧ v 30 + u ≤ 500) → v 3 = 0 → (∀ j, j ≠ 3 → v j = v0 j) → (∀ j, j ≠ 29 → a j = a0 j) → RG v a → mw p l e (rmq 1 0 0) s m args below meth c G A 4 (MQ below (Qm G A (fun rq Lq Eq => ∃ (vq : Nat → Int) (aq : Nat → Nat → Int), mI G h0 ad ln vq aq Lq Eq ∧ (fun r v2 a2 => (∀ j, j ≠ 0 → j ≠ 1 → j ≠ 3 → j ≠ 30 → v2 j = v0 j) ∧ v2 3 = 0 ∧ (0 ≤ v2 30 ∧ v2 30 ≤ 500) ∧ (∀ j, j ≠ 29 → a2 j = a0 j) ∧ RG v2 a2) rq vq aq)) args s 0 0 A) h0 ad ln v a 0 0 82 [(3, .int (iI k)), (2, .int (iI f)), (0, .ref h0), (1, .int (iI u))] [] := by
  intro n
  induction n with
  | zero =>
    intro k  v a hm hk h30 e3 hv ha hr
    exact absurd hm (by omega)
  | succ n ih =>
    intro k  v a hm hk h30 e3 hv ha hr
    refine m_iload_n (j := 0) C dX12_text_82 rfl ?_
    refine m_iload_n (j := 3) C dX12_text_83 rfl ?_
    refine m_icmp_ge (tgt := 110) C ⟨by omega, by omega⟩ ⟨by omega, by omega⟩ dX12_text_84 (by decide) (fun c1 => ?_) (fun c1 => ?_)
    · refine m_aload_n (j := 2) C dX12_text_110 rfl ?_
      refine m_iload_n (j := 3) C dX12_text_111 rfl ?_
      refine m_if_ne (tgt := 119) C ⟨by omega, by omega⟩ dX12_text_112 (by decide) (fun c2 => ?_) (fun c2 => ?_)
      · refine m_aload_n (j := 2) C dX12_text_119 rfl ?_
        have rv30 := hr.1 30
        refine m_get (k := 30) C dX12_text_120 w6_89 (by decide) rfl ?_
        refine m_iload_n (j := 3) C dX12_text_123 rfl ?_
        refine m_iadd C dX12_text_124 ?_
        refine m_put (k := 30) (z := (v 30) + u) C dX12_text_125 w6_89 (by decide) rfl rfl rfl ?_
        refine m_aload_n (j := 2) C dX12_text_128 rfl ?_
        refine m_aload_n (j := 2) C dX12_text_129 rfl ?_
        refine m_get (k := 30) C dX12_text_130 w6_89 (by decide) rfl ?_
        refine m_st (st2 := [.int (iI ((v 30) + u)), .ref h0]) rfl ?_
        refine m_call (mc2 := 0) (ms2 := 0) (As := [.int (iI ((v 30) + u))]) (rest := []) C (M_fine (x := (v 30) + u)) dX12_text_133 kV_X12_158 rfl ck_13 rfl (Nat.le_of_ble_eq_true rfl) ⟨Nat.le_of_ble_eq_true rfl, Nat.le_of_ble_eq_true rfl⟩ ⟨Nat.le_of_ble_eq_true rfl, Nat.le_of_ble_eq_true rfl⟩ (fun rh1 vh1 ah1 h1 => ?_)
        obtain ⟨rfl, rfl, rfl⟩ := h1
        refine m_st (st2 := [.int (iI ((v 30) + u))]) rfl ?_
        exact m_iret C dX12_text_136 rfl (Nat.le_of_ble_eq_true rfl) (Nat.le_of_ble_eq_true rfl) ⟨fun j n0 n1 n3 n30 => by simp [va_up, n0, n1, n30, hv j n3], e3, (by show 0 ≤ ((v 30) + u) ∧ ((v 30) + u) ≤ 500; omega), ha, (((hr.put ⟨by omega, by omega⟩).put ⟨by decide, by decide⟩).put ⟨by decide, by decide⟩)⟩
      · refine m_iconst C dX12_text_115 ?_
        refine m_goto (tgt := 125) C dX12_text_116 (by decide) ?_
        refine m_put (k := 30) (z := 0) C dX12_text_125 w6_89 (by decide) rfl rfl rfl ?_
        refine m_aload_n (j := 2) C dX12_text_128 rfl ?_
        refine m_aload_n (j := 2) C dX12_text_129 rfl ?_
        refine m_get (k := 30) C dX12_text_130 w6_89 (by decide) rfl ?_
        refine m_st (st2 := [.int (iI 0), .ref h0]) rfl ?_
        refine m_call (mc2 := 0) (ms2 := 0) (As := [.int (iI 0)]) (rest := []) C (M_fine (x := 0)) dX12_text_133 kV_X12_158 rfl ck_13 rfl (Nat.le_of_ble_eq_true rfl) ⟨Nat.le_of_ble_eq_true rfl, Nat.le_of_ble_eq_true rfl⟩ ⟨Nat.le_of_ble_eq_true rfl, Nat.le_of_ble_eq_true rfl⟩ (fun rh2 vh2 ah2 h2 => ?_)
        obtain ⟨rfl, rfl, rfl⟩ := h2
        refine m_st (st2 := [.int (iI 0)]) rfl ?_
        exact m_iret C dX12_text_136 rfl (Nat.le_of_ble_eq_true rfl) (Nat.le_of_ble_eq_true rfl) ⟨fun j n0 n1 n3 n30 => by simp [va_up, n0, n1, n30, hv j n3], e3, (by show 0 ≤ 0 ∧ 0 ≤ 500; omega), ha, (((hr.put ⟨by omega, by omega⟩).put ⟨by decide, by decide⟩).put ⟨by decide, by decide⟩)⟩
    · refine m_aload_n (j := 2) C dX12_text_87 rfl ?_
      refine m_geta (k := 29) C dX12_text_88 w6_88 (by decide) rfl ?_
      refine m_aload_n (j := 2) C dX12_text_91 rfl ?_
      have rv30 := hr.1 30
      refine m_get (k := 30) C dX12_text_92 w6_89 (by decide) rfl ?_
      refine m_iload_n (j := 0) C dX12_text_95 rfl ?_
      refine m_iadd C dX12_text_96 ?_
      refine m_aload_n (j := 2) C dX12_text_97 rfl ?_
      refine m_geta (k := 2) C dX12_text_98 w6_61 (by decide) rfl ?_
      refine m_iload_n (j := 0) C dX12_text_101 rfl ?_
      refine m_ald (k := 2) C dX12_text_102 rfl rfl (by decide) (by omega) (by show _ < ((_ : Nat) : Int); simp only [mlen]; omega) (by decide) ?_
      have ra1 := hr.2 2 (k.toNat)
      refine m_ast (k := 29) C dX12_text_103 rfl rfl (by decide) (by omega) (by show _ < ((_ : Nat) : Int); simp only [mlen]; omega) (by decide) ?_
      refine m_iinc (z := k) (j := 0) (lv2 := [(3, .int (iI (k + 1))), (2, .int (iI f)), (0, .ref h0), (1, .int (iI u))]) C dX12_text_104 rfl (by decide) rfl ?_
      refine m_goto (tgt := 82) C dX12_text_107 (by decide) ?_
      refine m_lv (lv2 := [(3, .int (iI (k + 1))), (2, .int (iI f)), (0, .ref h0), (1, .int (iI u))]) [0, 1, 2, 3] rfl ?_
      exact ih (k + 1) _ _ (by omega) (by omega) h30 e3 hv (fun j hj => (funext fun i => up2_k hj).trans (ha j hj)) (hr.set (hr.2 2 _))
set_option maxHeartbeats 4000000 in
set_option maxRecDepth 100000 in
theorem Lp_text1 {p : Program} {l : Launch} {e : Env} {s : State} {m : MethodId} {args : Array Value} {below : List Frame} {meth : Method} {c : Code} {G : GT} {A : Nat → Prop} {h0 : Nat} {ad ln : Nat → Nat} {v : Nat → Int} {a : Nat → Nat → Int} {v0 : Nat → Int} {a0 : Nat → Nat → Int} {u : Int} (hu : 0 ≤ u ∧ u ≤ 3000) (h30 : 0 ≤ v 30 ∧ v 30 ≤ 500) (e3 : v 3 = 0) (hv : ∀ j, j ≠ 3 → v j = v0 j) (ha : ∀ j, j ≠ 29 → a j = a0 j) (hR : RG v a) (C : Cq p s m args meth c cX12_text yX12_text (some .int) G A 4) : ∀ (n : Nat) (k f : Int), 3001 - k < (n : Int) → (0 ≤ k ∧ k ≤ u) → (f = 0 ∨ f = 1) → mw p l e (rmq 1 0 0) s m args below meth c G A 4 (MQ below (Qm G A (fun rq Lq Eq => ∃ (vq : Nat → Int) (aq : Nat → Nat → Int), mI G h0 ad ln vq aq Lq Eq ∧ (fun r v2 a2 => (∀ j, j ≠ 0 → j ≠ 1 → j ≠ 3 → j ≠ 30 → v2 j = v0 j) ∧ v2 3 = 0 ∧ (0 ≤ v2 30 ∧ v2 30 ≤ 500) ∧ (∀ j, j ≠ 29 → a2 j = a0 j) ∧ RG v2 a2) rq vq aq)) args s 0 0 A) h0 ad ln v a 0 0 9 [(3, .int (iI k)), (2, .int (iI f)), (0, .ref h0), (1, .int (iI u))] [] := by
  intro n
  induction n with
  | zero =>
    intro k f   hm hk hf
    exact absurd hm (by omega)
  | succ n ih =>
    intro k f   hm hk hf
    refine m_iload_n (j := 0) C dX12_text_9 rfl ?_
    refine m_iload_n (j := 3) C dX12_text_10 rfl ?_
    refine m_icmp_ge (tgt := 57) C ⟨by omega, by omega⟩ ⟨by omega, by omega⟩ dX12_text_11 (by decide) (fun c1 => ?_) (fun c1 => ?_)
    · refine m_iload_n (j := 1) C dX12_text_57 rfl ?_
      refine m_if_eq (tgt := 73) C ⟨by omega, by omega⟩ dX12_text_58 (by decide) (fun c2 => ?_) (fun c2 => ?_)
      · refine m_aload_n (j := 2) C dX12_text_73 rfl ?_
        refine m_bipush (z := 6) C dX12_text_74 (by decide) ?_
        refine m_call (mc2 := 0) (ms2 := 0) (As := [.int (iI 6)]) (rest := []) C (M_bad (x := 6)) dX12_text_76 kV_X12_154 rfl ck_13 rfl (Nat.le_of_ble_eq_true rfl) ⟨Nat.le_of_ble_eq_true rfl, Nat.le_of_ble_eq_true rfl⟩ ⟨Nat.le_of_ble_eq_true rfl, Nat.le_of_ble_eq_true rfl⟩ (fun rh1 vh1 ah1 h1 => ?_)
        obtain ⟨rfl, rfl, rfl⟩ := h1
        refine m_st (st2 := [.int (iI (-1))]) rfl ?_
        exact m_iret C dX12_text_79 rfl (Nat.le_of_ble_eq_true rfl) (Nat.le_of_ble_eq_true rfl) ⟨fun j n0 n1 n3 n30 => by simp [va_up, n0, n1, hv j n3], e3, h30, ha, ((hR.put ⟨by decide, by decide⟩).put ⟨by decide, by decide⟩)⟩
      · refine m_aload_n (j := 2) C dX12_text_61 rfl ?_
        have rv30 := hR.1 30
        refine m_get (k := 30) C dX12_text_62 w6_89 (by decide) rfl ?_
        refine m_iload_n (j := 3) C dX12_text_65 rfl ?_
        refine m_iadd C dX12_text_66 ?_
        refine m_sipush (z := 500) C dX12_text_67 (by decide) ?_
        refine m_icmp_le (tgt := 80) C ⟨by omega, by omega⟩ ⟨by decide, by decide⟩ dX12_text_70 (by decide) (fun c3 => ?_) (fun c3 => ?_)
        · refine m_iconst C dX12_text_80 ?_
          refine m_istore_n (lv2 := [(3, .int (iI 0)), (2, .int (iI f)), (0, .ref h0), (1, .int (iI u))]) C dX12_text_81 (by decide) rfl ?_
          refine m_lv (lv2 := [(3, .int (iI 0)), (2, .int (iI f)), (0, .ref h0), (1, .int (iI u))]) [0, 1, 2, 3] rfl ?_
          exact Lp_text2 hu C 3002 0 _ _ (by omega) (by omega) (by omega) e3 hv ha hR
        · refine m_aload_n (j := 2) C dX12_text_73 rfl ?_
          refine m_bipush (z := 6) C dX12_text_74 (by decide) ?_
          refine m_call (mc2 := 0) (ms2 := 0) (As := [.int (iI 6)]) (rest := []) C (M_bad (x := 6)) dX12_text_76 kV_X12_154 rfl ck_13 rfl (Nat.le_of_ble_eq_true rfl) ⟨Nat.le_of_ble_eq_true rfl, Nat.le_of_ble_eq_true rfl⟩ ⟨Nat.le_of_ble_eq_true rfl, Nat.le_of_ble_eq_true rfl⟩ (fun rh2 vh2 ah2 h2 => ?_)
          obtain ⟨rfl, rfl, rfl⟩ := h2
          refine m_st (st2 := [.int (iI (-1))]) rfl ?_
          exact m_iret C dX12_text_79 rfl (Nat.le_of_ble_eq_true rfl) (Nat.le_of_ble_eq_true rfl) ⟨fun j n0 n1 n3 n30 => by simp [va_up, n0, n1, hv j n3], e3, h30, ha, ((hR.put ⟨by decide, by decide⟩).put ⟨by decide, by decide⟩)⟩
    · refine m_iload_n (j := 1) C dX12_text_14 rfl ?_
      refine m_if_eq (tgt := 49) C ⟨by omega, by omega⟩ dX12_text_15 (by decide) (fun c4 => ?_) (fun c4 => ?_)
      · refine m_iconst C dX12_text_49 ?_
        refine m_istore_n (lv2 := [(2, .int (iI 0)), (3, .int (iI k)), (0, .ref h0), (1, .int (iI u))]) C dX12_text_50 (by decide) rfl ?_
        refine m_iinc (z := k) (j := 1) (lv2 := [(3, .int (iI (k + 1))), (2, .int (iI 0)), (0, .ref h0), (1, .int (iI u))]) C dX12_text_51 rfl (by decide) rfl ?_
        refine m_goto (tgt := 9) C dX12_text_54 (by decide) ?_
        refine m_lv (lv2 := [(3, .int (iI (k + 1))), (2, .int (iI 0)), (0, .ref h0), (1, .int (iI u))]) [0, 1, 2, 3] rfl ?_
        exact ih (k + 1) 0 (by omega) (by omega) (by omega)
      · refine m_aload_n (j := 2) C dX12_text_18 rfl ?_
        refine m_geta (k := 2) C dX12_text_19 w6_61 (by decide) rfl ?_
        refine m_iload_n (j := 0) C dX12_text_22 rfl ?_
        refine m_ald (k := 2) C dX12_text_23 rfl rfl (by decide) (by omega) (by show _ < ((_ : Nat) : Int); simp only [mlen]; omega) (by decide) ?_
        have ra1 := hR.2 2 (k.toNat)
        refine m_bipush (z := 10) C dX12_text_24 (by decide) ?_
        refine m_icmp_eq (tgt := 45) C ⟨by omega, by omega⟩ ⟨by decide, by decide⟩ dX12_text_26 (by decide) (fun c5 => ?_) (fun c5 => ?_)
        · refine m_iconst C dX12_text_45 ?_
          refine m_goto (tgt := 50) C dX12_text_46 (by decide) ?_
          refine m_istore_n (lv2 := [(2, .int (iI 1)), (3, .int (iI k)), (0, .ref h0), (1, .int (iI u))]) C dX12_text_50 (by decide) rfl ?_
          refine m_iinc (z := k) (j := 1) (lv2 := [(3, .int (iI (k + 1))), (2, .int (iI 1)), (0, .ref h0), (1, .int (iI u))]) C dX12_text_51 rfl (by decide) rfl ?_
          refine m_goto (tgt := 9) C dX12_text_54 (by decide) ?_
          refine m_lv (lv2 := [(3, .int (iI (k + 1))), (2, .int (iI 1)), (0, .ref h0), (1, .int (iI u))]) [0, 1, 2, 3] rfl ?_
          exact ih (k + 1) 1 (by omega) (by omega) (by omega)
        · refine m_aload_n (j := 2) C dX12_text_29 rfl ?_
          refine m_geta (k := 2) C dX12_text_30 w6_61 (by decide) rfl ?_
          refine m_iload_n (j := 0) C dX12_text_33 rfl ?_
          refine m_ald (k := 2) C dX12_text_34 rfl rfl (by decide) (by omega) (by show _ < ((_ : Nat) : Int); simp only [mlen]; omega) (by decide) ?_
          have ra2 := hR.2 2 (k.toNat)
          refine m_bipush (z := 32) C dX12_text_35 (by decide) ?_
          refine m_bipush (z := 126) C dX12_text_37 (by decide) ?_
          refine m_callS (As := [.int (iI (a 2 k.toNat)), .int (iI 32), .int (iI 126)]) (rest := []) C (fun L E => s_isIn (iI (a 2 k.toNat)) (iI 32) (iI 126)) dX12_text_39 kS_X12_174 rfl rfl (Nat.le_of_ble_eq_true rfl) ⟨Nat.le_of_ble_eq_true rfl, Nat.le_of_ble_eq_true rfl⟩ ⟨Nat.le_of_ble_eq_true rfl, Nat.le_of_ble_eq_true rfl⟩ ?_
          rcases inn_c (x := a 2 k.toNat) (lo := 32) (hi := 126) ⟨by omega, by omega⟩ ⟨by decide, by decide⟩ ⟨by decide, by decide⟩ with ⟨h3a, h3b, h3e⟩ | ⟨h3a, h3e⟩
          · refine m_st (st2 := [.int (iI 1)]) (by rw [h3e]) ?_
            refine m_if_eq (tgt := 49) C ⟨by decide, by decide⟩ dX12_text_42 (by decide) (fun z => absurd z (by omega)) (fun _ => ?_)
            refine m_iconst C dX12_text_45 ?_
            refine m_goto (tgt := 50) C dX12_text_46 (by decide) ?_
            refine m_istore_n (lv2 := [(2, .int (iI 1)), (3, .int (iI k)), (0, .ref h0), (1, .int (iI u))]) C dX12_text_50 (by decide) rfl ?_
            refine m_iinc (z := k) (j := 1) (lv2 := [(3, .int (iI (k + 1))), (2, .int (iI 1)), (0, .ref h0), (1, .int (iI u))]) C dX12_text_51 rfl (by decide) rfl ?_
            refine m_goto (tgt := 9) C dX12_text_54 (by decide) ?_
            refine m_lv (lv2 := [(3, .int (iI (k + 1))), (2, .int (iI 1)), (0, .ref h0), (1, .int (iI u))]) [0, 1, 2, 3] rfl ?_
            exact ih (k + 1) 1 (by omega) (by omega) (by omega)
          · refine m_st (st2 := [.int (iI 0)]) (by rw [h3e]) ?_
            refine m_if_eq (tgt := 49) C ⟨by decide, by decide⟩ dX12_text_42 (by decide) (fun _ => ?_) (fun z => absurd z (by omega))
            refine m_iconst C dX12_text_49 ?_
            refine m_istore_n (lv2 := [(2, .int (iI 0)), (3, .int (iI k)), (0, .ref h0), (1, .int (iI u))]) C dX12_text_50 (by decide) rfl ?_
            refine m_iinc (z := k) (j := 1) (lv2 := [(3, .int (iI (k + 1))), (2, .int (iI 0)), (0, .ref h0), (1, .int (iI u))]) C dX12_text_51 rfl (by decide) rfl ?_
            refine m_goto (tgt := 9) C dX12_text_54 (by decide) ?_
            refine m_lv (lv2 := [(3, .int (iI (k + 1))), (2, .int (iI 0)), (0, .ref h0), (1, .int (iI u))]) [0, 1, 2, 3] rfl ?_
            exact ih (k + 1) 0 (by omega) (by omega) (by omega)
set_option maxHeartbeats 4000000 in
set_option maxRecDepth 100000 in
theorem M_text {l : Launch} {G : GT} {h0 : Nat} {ad ln : Nat → Nat} {v : Nat → Int} {a : Nat → Nat → Int} (hR : RG v a) (h3 : 0 ≤ v 3 ∧ v 3 ≤ 3000) (h30 : 0 ≤ v 30 ∧ v 30 ≤ 500) : Mm l G yX12_text cX12_text 4 (some .int) 1 [] h0 ad ln v a 0 0 (fun r v2 a2 => (∀ j, j ≠ 0 → j ≠ 1 → j ≠ 3 → j ≠ 30 → v2 j = v j) ∧ v2 3 = 0 ∧ (0 ≤ v2 30 ∧ v2 30 ≤ 500) ∧ (∀ j, j ≠ 29 → a2 j = a j) ∧ RG v2 a2) := by
  refine Mm.mk (by decide) (Nat.le_of_ble_eq_true rfl) ?_
  intro p e s m args below meth c A C
  refine m_aload_n (j := 0) C dX12_text_0 rfl ?_
  refine m_call (mc2 := 0) (ms2 := 0) (As := []) (rest := []) C (M_taken) dX12_text_1 kV_X12_192 rfl ck_13 rfl (Nat.le_of_ble_eq_true rfl) ⟨Nat.le_of_ble_eq_true rfl, Nat.le_of_ble_eq_true rfl⟩ ⟨Nat.le_of_ble_eq_true rfl, Nat.le_of_ble_eq_true rfl⟩ (fun rh1 vh1 ah1 h1 => ?_)
  obtain ⟨rfl, rfl, rfl⟩ := h1
  refine m_st (st2 := [.int (iI (v 3))]) rfl ?_
  refine m_istore_n (lv2 := [(1, .int (iI (v 3))), (0, .ref h0)]) C dX12_text_4 (by decide) rfl ?_
  refine m_iconst C dX12_text_5 ?_
  refine m_istore_n (lv2 := [(2, .int (iI 1)), (1, .int (iI (v 3))), (0, .ref h0)]) C dX12_text_6 (by decide) rfl ?_
  refine m_iconst C dX12_text_7 ?_
  refine m_istore_n (lv2 := [(3, .int (iI 0)), (2, .int (iI 1)), (1, .int (iI (v 3))), (0, .ref h0)]) C dX12_text_8 (by decide) rfl ?_
  refine m_lv (lv2 := [(3, .int (iI 0)), (2, .int (iI 1)), (0, .ref h0), (1, .int (iI (v 3)))]) [0, 1, 3, 2] rfl ?_
  exact Lp_text1 (v := va_up v 3 0) (v0 := v) (a := a) (a0 := a) h3 h30 rfl (fun j hj => va_up_ne _ _ hj) (fun j hj => rfl) (hR.put ⟨by decide, by decide⟩) C 3002 0 1  (by omega) (by omega) (by omega)
set_option maxHeartbeats 4000000 in
set_option maxRecDepth 100000 in
theorem Lp_putBack {p : Program} {l : Launch} {e : Env} {s : State} {m : MethodId} {args : Array Value} {below : List Frame} {meth : Method} {c : Code} {G : GT} {A : Nat → Prop} {h0 : Nat} {ad ln : Nat → Nat} {v0 : Nat → Int} {a0 : Nat → Nat → Int} (h52 : 0 ≤ v0 55 ∧ v0 55 ≤ 4000) (C : Cq p s m args meth c cX12_putBack yX12_putBack none G A 2) : ∀ (n : Nat) (k : Int) (v : Nat → Int) (a : Nat → Nat → Int), 4001 - k < (n : Int) → (0 ≤ k ∧ k ≤ v0 55) → v = va_up v0 52 (v0 55) → (∀ j, j ≠ 51 → a j = a0 j) → RG v a → mw p l e (rmq 0 0 0) s m args below meth c G A 2 (MQ below (Qm G A (fun rq Lq Eq => ∃ (vq : Nat → Int) (aq : Nat → Nat → Int), mI G h0 ad ln vq aq Lq Eq ∧ (fun r v2 a2 => r = none ∧ v2 = va_up v0 52 (v0 55) ∧ (∀ j, j ≠ 51 → a2 j = a0 j) ∧ RG v2 a2) rq vq aq)) args s 0 0 A) h0 ad ln v a 0 0 10 [(1, .int (iI k)), (0, .ref h0)] [] := by
  intro n
  induction n with
  | zero =>
    intro k  v a hm hk ev ha hr
    have e52 : v 52 = v0 55 := by rw [ev]; rfl
    exact absurd hm (by omega)
  | succ n ih =>
    intro k  v a hm hk ev ha hr
    have e52 : v 52 = v0 55 := by rw [ev]; rfl
    refine m_iload_n (j := 0) C dX12_putBack_10 rfl ?_
    refine m_aload_n (j := 1) C dX12_putBack_11 rfl ?_
    have rv52 := hr.1 52
    refine m_get (k := 52) C dX12_putBack_12 w6_111 (by decide) rfl ?_
    refine m_icmp_ge (tgt := 36) C ⟨by omega, by omega⟩ ⟨by omega, by omega⟩ dX12_putBack_15 (by decide) (fun c1 => ?_) (fun c1 => ?_)
    · exact m_vret C dX12_putBack_36 rfl (Nat.le_of_ble_eq_true rfl) (Nat.le_of_ble_eq_true rfl) ⟨rfl, ev, ha, hr⟩
    · refine m_aload_n (j := 1) C dX12_putBack_18 rfl ?_
      refine m_geta (k := 51) C dX12_putBack_19 w6_110 (by decide) rfl ?_
      refine m_iload_n (j := 0) C dX12_putBack_22 rfl ?_
      refine m_aload_n (j := 1) C dX12_putBack_23 rfl ?_
      refine m_geta (k := 54) C dX12_putBack_24 w6_113 (by decide) rfl ?_
      refine m_iload_n (j := 0) C dX12_putBack_27 rfl ?_
      refine m_ald (k := 54) C dX12_putBack_28 rfl rfl (by decide) (by omega) (by show _ < ((_ : Nat) : Int); simp only [mlen]; omega) (by decide) ?_
      have ra1 := hr.2 54 (k.toNat)
      refine m_ast (k := 51) C dX12_putBack_29 rfl rfl (by decide) (by omega) (by show _ < ((_ : Nat) : Int); simp only [mlen]; omega) (by decide) ?_
      refine m_iinc (z := k) (j := 0) (lv2 := [(1, .int (iI (k + 1))), (0, .ref h0)]) C dX12_putBack_30 rfl (by decide) rfl ?_
      refine m_goto (tgt := 10) C dX12_putBack_33 (by decide) ?_
      refine m_lv (lv2 := [(1, .int (iI (k + 1))), (0, .ref h0)]) [0, 1] rfl ?_
      exact ih (k + 1) _ _ (by omega) (by omega) ev (fun j hj => (funext fun i => up2_k hj).trans (ha j hj)) (hr.set (hr.2 54 _))
set_option maxHeartbeats 4000000 in
set_option maxRecDepth 100000 in
theorem M_putBack {l : Launch} {G : GT} {h0 : Nat} {ad ln : Nat → Nat} {v : Nat → Int} {a : Nat → Nat → Int} (hR : RG v a) (h52 : 0 ≤ v 55 ∧ v 55 ≤ 4000) : Mm l G yX12_putBack cX12_putBack 2 none 0 [] h0 ad ln v a 0 0 (fun r v2 a2 => r = none ∧ v2 = va_up v 52 (v 55) ∧ (∀ j, j ≠ 51 → a2 j = a j) ∧ RG v2 a2) := by
  refine Mm.mk (by decide) (Nat.le_of_ble_eq_true rfl) ?_
  intro p e s m args below meth c A C
  refine m_aload_n (j := 0) C dX12_putBack_0 rfl ?_
  refine m_aload_n (j := 0) C dX12_putBack_1 rfl ?_
  have rv55 := hR.1 55
  refine m_get (k := 55) C dX12_putBack_2 w6_114 (by decide) rfl ?_
  refine m_put (k := 52) (z := v 55) C dX12_putBack_5 w6_111 (by decide) rfl rfl rfl ?_
  refine m_iconst C dX12_putBack_8 ?_
  refine m_istore_n (lv2 := [(1, .int (iI 0)), (0, .ref h0)]) C dX12_putBack_9 (by decide) rfl ?_
  refine m_lv (lv2 := [(1, .int (iI 0)), (0, .ref h0)]) [0, 1] rfl ?_
  exact Lp_putBack h52 C 4002 0 _ _ (by omega) (by omega) rfl (fun j hj => rfl) (hR.put ⟨by omega, by omega⟩)
