def fdv (m : Int32) (d x : Int) : Int32 := if x = 0 then m &&& ((iI 1 <<< (iI d &&& 31)) ^^^ iI (-1)) else m ||| (iI 1 <<< (iI d &&& 31))
set_option maxHeartbeats 4000000 in
set_option maxRecDepth 100000 in
theorem N_failed {l : Launch} {G : GT} {h0 : Nat} {ad ln : Nat → Nat} {v : Nat → Int} {a : Nat → Nat → Int}  {x g : Int} (hB : BX v a) (hx : -2147483648 ≤ x ∧ x ≤ 2147483647) (hg : g = 0 ∨ g = 1) : Mm l G yX12_failed cX12_failed 3 (some .int) 1 [.int (iI x), .int (iI g)] h0 ad ln v a 0 0 (fun r v2 a2 => ∃ f : Int, r = some (.int (iI f)) ∧ fr [0, 1, 56] [] v a v2 a2 ∧ BX v2 a2 ∧ (((x < 0 ∨ 7 < x) ∧ f = -1 ∧ v2 56 = v 56) ∨ (0 ≤ x ∧ x ≤ 7 ∧ iI (v2 56) = fdv (iI (v 56)) x g ∧ iI f = bcn (iI (v2 56))))) := by
  refine Mm.mk (by decide) (Nat.le_of_ble_eq_true rfl) ?_
  intro p e s m args below meth c A C
  have fp0 : fr [0, 1, 56] [] v a v a := fr.refl
  refine m_iload_n (j := 1) C dX12_failed_0 rfl ?_
  refine m_iconst C dX12_failed_1 ?_
  refine m_bipush (z := 7) C dX12_failed_2 (by decide) ?_
  refine m_callS (As := [.int (iI x), .int (iI 0), .int (iI 7)]) (rest := []) C (fun L E => s_isIn (iI x) (iI 0) (iI 7)) dX12_failed_4 kS_X12_174 rfl rfl (Nat.le_of_ble_eq_true rfl) ⟨Nat.le_of_ble_eq_true rfl, Nat.le_of_ble_eq_true rfl⟩ ⟨Nat.le_of_ble_eq_true rfl, Nat.le_of_ble_eq_true rfl⟩ ?_
  rcases inn_c (x := x) (lo := 0) (hi := 7) ⟨by omega, by omega⟩ ⟨by decide, by decide⟩ ⟨by decide, by decide⟩ with ⟨h1a, h1b, h1e⟩ | ⟨h1a, h1e⟩
  · refine m_st (st2 := [.int (iI 1)]) (by rw [h1e]) ?_
    refine m_if_ne (tgt := 17) C ⟨by decide, by decide⟩ dX12_failed_7 (by decide) (fun _ => ?_) (fun z => absurd z (by omega))
    refine m_aload_n (j := 0) C dX12_failed_17 rfl ?_
    refine m_iload_n (j := 2) C dX12_failed_18 rfl ?_
    refine m_if_eq (tgt := 33) C ⟨by omega, by omega⟩ dX12_failed_19 (by decide) (fun c1 => ?_) (fun c1 => ?_)
    · refine m_aload_n (j := 0) C dX12_failed_33 rfl ?_
      have rv1 : (-2147483648) ≤ v 56 ∧ v 56 ≤ 2147483647 := hB.1 56
      refine m_get (k := 56) C dX12_failed_34 w6_115 (by decide) rfl ?_
      refine m_iconst C dX12_failed_37 ?_
      refine m_iload_n (j := 1) C dX12_failed_38 rfl ?_
      obtain ⟨zz1, hzz1, ezz1⟩ := iI_of (iI 1 <<< (iI x &&& 31))
      refine m_ishl (w := iI zz1) C dX12_failed_39 ezz1 ?_
      refine m_iconst C dX12_failed_40 ?_
      obtain ⟨zz2, hzz2, ezz2⟩ := iI_of (iI zz1 ^^^ iI (-1))
      refine m_ixor (w := iI zz2) C dX12_failed_41 ezz2 ?_
      obtain ⟨zz3, hzz3, ezz3⟩ := iI_of (iI (v 56) &&& iI zz2)
      refine m_iand (w := iI zz3) C dX12_failed_42 ezz3 ?_
      refine m_put (k := 56) (z := zz3) C dX12_failed_43 w6_115 (by decide) rfl rfl rfl ?_
      refine hv2 (show BX (va_up v 56 zz3) a from hB.put (k := 56) (z := zz3) (show (-2147483648) ≤ zz3 ∧ zz3 ≤ 2147483647 by omega)) (fp0.put (k := 56) (z := zz3) rfl) (fun bq1 fq1 => ?_)
      refine m_aload_n (j := 0) C dX12_failed_46 rfl ?_
      refine m_aload_n (j := 0) C dX12_failed_47 rfl ?_
      refine m_get (k := 56) C dX12_failed_48 w6_115 (by decide) rfl ?_
      refine m_st (st2 := [.int (iI zz3), .ref h0]) rfl ?_
      refine m_callS (As := [.int (iI zz3)]) (rest := [.ref h0]) C (fun L E => s_bitCount (iI zz3)) dX12_failed_51 kS_X12_309 rfl rfl (Nat.le_of_ble_eq_true rfl) ⟨Nat.le_of_ble_eq_true rfl, Nat.le_of_ble_eq_true rfl⟩ ⟨Nat.le_of_ble_eq_true rfl, Nat.le_of_ble_eq_true rfl⟩ ?_
      obtain ⟨zz4, hzz4, ezz4⟩ := iI_of (bcn (iI zz3))
      · refine m_st (st2 := [.int (iI zz4), .ref h0]) (by rw [ezz4]) ?_
        refine m_call (mc2 := 0) (ms2 := 0) (As := [.int (iI zz4)]) (rest := []) C (B_fine (x := zz4) bq1 (by show -2147483648 ≤ zz4 ∧ zz4 ≤ 2147483647; omega)) dX12_failed_54 kV_X12_158 rfl ck_13 rfl (Nat.le_of_ble_eq_true rfl) ⟨Nat.le_of_ble_eq_true rfl, Nat.le_of_ble_eq_true rfl⟩ ⟨Nat.le_of_ble_eq_true rfl, Nat.le_of_ble_eq_true rfl⟩ (fun rh3 vh3 ah3 h3 => ?_)
        obtain ⟨f1, rfl, fn1, bn1, ex1⟩ := h3
        refine hv2 (fq1.call fn1 rfl rfl) (show f1 = zz4 from ex1) (fun fq2 gf1 => ?_)
        refine m_st (st2 := [.int (iI f1)]) rfl ?_
        refine hv2 (show (-2147483648) ≤ vh3 56 ∧ vh3 56 ≤ 2147483647 from bn1.1 56) (show vh3 56 = zz3 from fn1.1 56 rfl) (fun rv2 ve1 => ?_)
        exact m_iret C dX12_failed_57 rfl (Nat.le_of_ble_eq_true rfl) (Nat.le_of_ble_eq_true rfl) ⟨f1, rfl, fq2, bn1, (Or.inr ⟨by omega, by omega, by rw [show vh3 56 = zz3 by omega]; unfold fdv; rw [if_pos (show g = 0 by omega), ← ezz3, ← ezz2, ← ezz1], by rw [show f1 = zz4 by omega, ← ezz4]; exact congrArg (fun q => bcn (iI q)) (by omega)⟩)⟩
    · refine m_aload_n (j := 0) C dX12_failed_22 rfl ?_
      have rv3 : (-2147483648) ≤ v 56 ∧ v 56 ≤ 2147483647 := hB.1 56
      refine m_get (k := 56) C dX12_failed_23 w6_115 (by decide) rfl ?_
      refine m_iconst C dX12_failed_26 ?_
      refine m_iload_n (j := 1) C dX12_failed_27 rfl ?_
      obtain ⟨zz5, hzz5, ezz5⟩ := iI_of (iI 1 <<< (iI x &&& 31))
      refine m_ishl (w := iI zz5) C dX12_failed_28 ezz5 ?_
      obtain ⟨zz6, hzz6, ezz6⟩ := iI_of (iI (v 56) ||| iI zz5)
      refine m_ior (w := iI zz6) C dX12_failed_29 ezz6 ?_
      refine m_goto (tgt := 43) C dX12_failed_30 (by decide) ?_
      refine m_put (k := 56) (z := zz6) C dX12_failed_43 w6_115 (by decide) rfl rfl rfl ?_
      refine hv2 (show BX (va_up v 56 zz6) a from hB.put (k := 56) (z := zz6) (show (-2147483648) ≤ zz6 ∧ zz6 ≤ 2147483647 by omega)) (fp0.put (k := 56) (z := zz6) rfl) (fun bq2 fq3 => ?_)
      refine m_aload_n (j := 0) C dX12_failed_46 rfl ?_
      refine m_aload_n (j := 0) C dX12_failed_47 rfl ?_
      refine m_get (k := 56) C dX12_failed_48 w6_115 (by decide) rfl ?_
      refine m_st (st2 := [.int (iI zz6), .ref h0]) rfl ?_
      refine m_callS (As := [.int (iI zz6)]) (rest := [.ref h0]) C (fun L E => s_bitCount (iI zz6)) dX12_failed_51 kS_X12_309 rfl rfl (Nat.le_of_ble_eq_true rfl) ⟨Nat.le_of_ble_eq_true rfl, Nat.le_of_ble_eq_true rfl⟩ ⟨Nat.le_of_ble_eq_true rfl, Nat.le_of_ble_eq_true rfl⟩ ?_
      obtain ⟨zz7, hzz7, ezz7⟩ := iI_of (bcn (iI zz6))
      · refine m_st (st2 := [.int (iI zz7), .ref h0]) (by rw [ezz7]) ?_
        refine m_call (mc2 := 0) (ms2 := 0) (As := [.int (iI zz7)]) (rest := []) C (B_fine (x := zz7) bq2 (by show -2147483648 ≤ zz7 ∧ zz7 ≤ 2147483647; omega)) dX12_failed_54 kV_X12_158 rfl ck_13 rfl (Nat.le_of_ble_eq_true rfl) ⟨Nat.le_of_ble_eq_true rfl, Nat.le_of_ble_eq_true rfl⟩ ⟨Nat.le_of_ble_eq_true rfl, Nat.le_of_ble_eq_true rfl⟩ (fun rh5 vh5 ah5 h5 => ?_)
        obtain ⟨f2, rfl, fn2, bn2, ex2⟩ := h5
        refine hv2 (fq3.call fn2 rfl rfl) (show f2 = zz7 from ex2) (fun fq4 gf2 => ?_)
        refine m_st (st2 := [.int (iI f2)]) rfl ?_
        refine hv2 (show (-2147483648) ≤ vh5 56 ∧ vh5 56 ≤ 2147483647 from bn2.1 56) (show vh5 56 = zz6 from fn2.1 56 rfl) (fun rv4 ve2 => ?_)
        exact m_iret C dX12_failed_57 rfl (Nat.le_of_ble_eq_true rfl) (Nat.le_of_ble_eq_true rfl) ⟨f2, rfl, fq4, bn2, (Or.inr ⟨by omega, by omega, by rw [show vh5 56 = zz6 by omega]; unfold fdv; rw [if_neg (show ¬ g = 0 by omega), ← ezz6, ← ezz5], by rw [show f2 = zz7 by omega, ← ezz7]; exact congrArg (fun q => bcn (iI q)) (by omega)⟩)⟩
  · refine m_st (st2 := [.int (iI 0)]) (by rw [h1e]) ?_
    refine m_if_ne (tgt := 17) C ⟨by decide, by decide⟩ dX12_failed_7 (by decide) (fun z => absurd z (by omega)) (fun _ => ?_)
    refine m_aload_n (j := 0) C dX12_failed_10 rfl ?_
    refine m_bipush (z := 6) C dX12_failed_11 (by decide) ?_
    refine m_call (mc2 := 0) (ms2 := 0) (As := [.int (iI 6)]) (rest := []) C (B_bad (x := 6) hB (by show -2147483648 ≤ (6 : Int) ∧ (6 : Int) ≤ 2147483647; omega)) dX12_failed_13 kV_X12_154 rfl ck_13 rfl (Nat.le_of_ble_eq_true rfl) ⟨Nat.le_of_ble_eq_true rfl, Nat.le_of_ble_eq_true rfl⟩ ⟨Nat.le_of_ble_eq_true rfl, Nat.le_of_ble_eq_true rfl⟩ (fun rh6 vh6 ah6 h6 => ?_)
    obtain ⟨f3, rfl, fn3, bn3, ex3⟩ := h6
    refine hv2 (fp0.call fn3 rfl rfl) (show f3 = -1 from ex3) (fun fq5 gf3 => ?_)
    refine m_st (st2 := [.int (iI f3)]) rfl ?_
    refine hv2 (show (-2147483648) ≤ vh6 56 ∧ vh6 56 ≤ 2147483647 from bn3.1 56) (show vh6 56 = v 56 from fn3.1 56 rfl) (fun rv5 ve3 => ?_)
    exact m_iret C dX12_failed_16 rfl (Nat.le_of_ble_eq_true rfl) (Nat.le_of_ble_eq_true rfl) ⟨f3, rfl, fq5, bn3, (Or.inl ⟨by omega, by omega, by omega⟩)⟩
