section
set_option maxHeartbeats 4000000 in
set_option maxRecDepth 100000 in
theorem N_readings {l : Launch} {G : GT} {h0 : Nat} {ad ln : Nat → Nat} {v : Nat → Int} {a : Nat → Nat → Int}  {t l0 n1 : Int} (hB : BX v a) (hT : TBL v a) (hW : RWS a) (ht : -2147483648 ≤ t ∧ t ≤ 2147483647) (hl0 : -2147483648 ≤ l0 ∧ l0 ≤ 2147483647) (hn1 : -2147483648 ≤ n1 ∧ n1 ≤ 2147483647) : Mm l G yX12_readings cX12_readings 5 (some .int) 105 [.int (iI t), .int (iI l0), .int (iI n1)] h0 ad ln v a 0 0 (fun r v2 a2 => ∃ f : Int, r = some (.int (iI f)) ∧ fr [0, 1, 50, 60, 61, 63, 64] [44, 45, 46, 47, 48, 49, 57, 58, 59, 62] v a v2 a2 ∧ BX v2 a2 ∧ (RWS a2)) := by
  refine Mm.mk (by decide) (Nat.le_of_ble_eq_true rfl) ?_
  intro p e s m args below meth c A C
  refine hv2 (show 0 ≤ v 4 ∧ v 4 ≤ 30 from hB.1 4) (show fr [0, 1, 50, 60, 61, 63, 64] [44, 45, 46, 47, 48, 49, 57, 58, 59, 62] v a v a from fr.refl) (fun h30 fp0 => ?_)
  refine m_iload_n (j := 3) C dX12_readings_0 rfl ?_
  refine m_iconst C dX12_readings_1 ?_
  refine m_bipush (z := 50) C dX12_readings_2 (by decide) ?_
  refine m_callS (As := [.int (iI n1), .int (iI 1), .int (iI 50)]) (rest := []) C (fun L E => s_isIn (iI n1) (iI 1) (iI 50)) dX12_readings_4 kS_X12_174 rfl rfl (Nat.le_of_ble_eq_true rfl) ⟨Nat.le_of_ble_eq_true rfl, Nat.le_of_ble_eq_true rfl⟩ ⟨Nat.le_of_ble_eq_true rfl, Nat.le_of_ble_eq_true rfl⟩ ?_
  rcases inn_c (x := n1) (lo := 1) (hi := 50) ⟨by omega, by omega⟩ ⟨by decide, by decide⟩ ⟨by decide, by decide⟩ with ⟨h1a, h1b, h1e⟩ | ⟨h1a, h1e⟩
  · refine m_st (st2 := [.int (iI 1)]) (by rw [h1e]) ?_
    refine m_if_ne (tgt := 17) C ⟨by decide, by decide⟩ dX12_readings_7 (by decide) (fun _ => ?_) (fun z => absurd z (by omega))
    refine m_aload_n (j := 0) C dX12_readings_17 rfl ?_
    refine m_iload_n (j := 1) C dX12_readings_18 rfl ?_
    have rv1 : 0 ≤ v 4 ∧ v 4 ≤ 30 := hB.1 4
    refine m_call (mc2 := 0) (ms2 := 0) (As := [.int (iI t)]) (rest := []) C (M_isWhole (t := t) hB (hT.fr fp0 rfl rfl) (by show -2147483648 ≤ t ∧ t ≤ 2147483647; omega)) dX12_readings_19 kV_X12_171 rfl ck_13 rfl (Nat.le_of_ble_eq_true rfl) ⟨Nat.le_of_ble_eq_true rfl, Nat.le_of_ble_eq_true rfl⟩ ⟨Nat.le_of_ble_eq_true rfl, Nat.le_of_ble_eq_true rfl⟩ (fun rh2 vh2 ah2 h2 => ?_)
    obtain ⟨f1, rfl, fn1, bn1, ex1⟩ := h2
    obtain ⟨rfl, rfl⟩ := fn1.eq
    have gf1 : f1 = 0 ∨ (f1 = 1 ∧ 0 ≤ t ∧ t < (v 4)) := ex1
    refine m_st (st2 := [.int (iI f1)]) rfl ?_
    refine m_if_ne (tgt := 31) C (r32_0p gf1) dX12_readings_22 (by decide) (fun c1 => ?_) (fun c1 => ?_)
    · replace gf1 := (gf1.resolve_left c1)
      refine m_aload_n (j := 0) C dX12_readings_31 rfl ?_
      refine m_iload_n (j := 2) C dX12_readings_32 rfl ?_
      have rv2 : 0 ≤ v 36 ∧ v 36 ≤ 200 := hB.1 36
      refine m_call (mc2 := 0) (ms2 := 0) (As := [.int (iI l0)]) (rest := []) C (M_lineFault (l0 := l0) hB.rg ⟨by omega, by omega⟩ ⟨hB.1 36, hB.2 34⟩) dX12_readings_33 kV_X12_294 rfl ck_13 rfl (Nat.le_of_ble_eq_true rfl) ⟨Nat.le_of_ble_eq_true rfl, Nat.le_of_ble_eq_true rfl⟩ ⟨Nat.le_of_ble_eq_true rfl, Nat.le_of_ble_eq_true rfl⟩ (fun rh3 vh3 ah3 h3 => ?_)
      obtain ⟨f2, rfl, hf2, rfl, rfl⟩ := h3
      refine hv2 (show (f2 = 2 ∧ ¬ (0 ≤ l0 ∧ l0 < (v 36))) ∨ (f2 = 1 ∧ 0 ≤ l0 ∧ l0 < (v 36) ∧ a 34 l0.toNat < 0) ∨ (f2 = 0 ∧ 0 ≤ l0 ∧ l0 < (v 36) ∧ 0 ≤ a 34 l0.toNat) from hf2) (show (-1) ≤ a 34 l0.toNat ∧ a 34 l0.toNat ≤ 200 from hB.2 34 (l0.toNat)) (fun gf2 ra1 => ?_)
      refine m_st (st2 := [.int (iI f2)]) rfl ?_
      refine m_if_le (tgt := 49) C ⟨by omega, by omega⟩ dX12_readings_36 (by decide) (fun c2 => ?_) (fun c2 => ?_)
      · refine m_aload_n (j := 0) C dX12_readings_49 rfl ?_
        refine m_geta (k := 34) C dX12_readings_50 w6_93 (by decide) rfl ?_
        refine m_iload_n (j := 2) C dX12_readings_53 rfl ?_
        refine m_ald (k := 34) C dX12_readings_54 rfl rfl (by decide) (by omega) (by show _ < ((_ : Nat) : Int); simp only [mlen]; omega) (by decide) ?_
        refine m_bipush (z := 100) C dX12_readings_55 (by decide) ?_
        refine m_icmp_le (tgt := 67) C (r32_c (lo := (-1)) (hi := 200) ra1.1 ra1.2 (by decide) (by decide)) ⟨by decide, by decide⟩ dX12_readings_57 (by decide) (fun c3 => ?_) (fun c3 => ?_)
        · refine m_aload_n (j := 0) C dX12_readings_67 rfl ?_
          refine m_iconst C dX12_readings_68 ?_
          refine m_put (k := 50) (z := 0) C dX12_readings_69 w6_109 (by decide) rfl rfl rfl ?_
          refine hv2 (show BX (va_up v 50 0) a from hB.put (k := 50) (z := 0) ⟨by decide, by decide⟩) (fp0.put (k := 50) (z := 0) rfl) (fun bq1 fq2 => ?_)
          refine m_iconst C dX12_readings_72 ?_
          refine m_istore (lv2 := [(4, .int (iI 0)), (0, .ref h0), (1, .int (iI t)), (2, .int (iI l0)), (3, .int (iI n1))]) C dX12_readings_73 (by decide) rfl ?_
          have Lp1 : ∀ (nn : Nat) (i1 : Int) (vb1 : Nat → Int) (ab1 : Nat → Nat → Int), 201 - i1 < (nn : Int) → BX vb1 ab1 → fr [0, 1, 50, 60, 61, 63, 64] [44, 45, 46, 47, 48, 49, 57, 58, 59, 62] v a vb1 ab1 → (0 ≤ i1 ∧ i1 ≤ a 34 l0.toNat) → (vb1 50 = i1) → (RWS ab1) → mw p l e (rmq 105 0 0) s m args below meth c G A 5 (MQ below (Qm G A (fun rq Lq Eq => ∃ (vq : Nat → Int) (aq : Nat → Nat → Int), mI G h0 ad ln vq aq Lq Eq ∧ (fun r v2 a2 => ∃ f : Int, r = some (.int (iI f)) ∧ fr [0, 1, 50, 60, 61, 63, 64] [44, 45, 46, 47, 48, 49, 57, 58, 59, 62] v a v2 a2 ∧ BX v2 a2 ∧ (RWS a2)) rq vq aq)) args s 0 0 A) h0 ad ln vb1 ab1 0 0 75 [(4, .int (iI i1)), (0, .ref h0), (1, .int (iI t)), (2, .int (iI l0)), (3, .int (iI n1))] [] := by
            intro nn
            induction nn with
            | zero =>
              intro i1 vb1 ab1 hm bxb1 fpb1 hi h501 hW1
              exact absurd hm (by omega)
            | succ nn ih1 =>
              intro i1 vb1 ab1 hm bxb1 fpb1 hi h501 hW1
              refine m_iload (j := 0) C dX12_readings_75 rfl ?_
              refine m_aload_n (j := 1) C dX12_readings_77 rfl ?_
              refine m_geta (k := 34) C dX12_readings_78 w6_93 (by decide) rfl ?_
              refine m_iload_n (j := 3) C dX12_readings_81 rfl ?_
              refine m_ald (k := 34) C dX12_readings_82 rfl rfl (by decide) (by omega) (by show _ < ((_ : Nat) : Int); simp only [mlen]; omega) (by decide) ?_
              refine hv2 (show (-1) ≤ ab1 34 l0.toNat ∧ ab1 34 l0.toNat ≤ 200 from bxb1.2 34 (l0.toNat)) (show ab1 34 (l0.toNat) = a 34 (l0.toNat) from congrFun (fpb1.2 34 rfl) (l0.toNat)) (fun ra2 ae1 => ?_)
              refine m_st (st2 := [.int (iI (a 34 l0.toNat)), .int (iI i1)]) (congrArg (fun z => Value.int (iI z) :: [.int (iI i1)]) (congrFun (fpb1.2 34 rfl) (l0.toNat))) ?_
              refine m_icmp_ge (tgt := 110) C ⟨by omega, by omega⟩ (r32_c (lo := (-1)) (hi := 200) ra1.1 ra1.2 (by decide) (by decide)) dX12_readings_83 (by decide) (fun c4 => ?_) (fun c4 => ?_)
              · refine m_aload_n (j := 1) C dX12_readings_110 rfl ?_
                refine m_iload_n (j := 2) C dX12_readings_111 rfl ?_
                refine hv2 (show 0 ≤ vb1 4 ∧ vb1 4 ≤ 30 from bxb1.1 4) (show vb1 4 = v 4 from fpb1.1 4 rfl) (fun rv3 ve1 => ?_)
                refine m_call (mc2 := 0) (ms2 := 0) (As := [.int (iI t)]) (rest := []) C (M_gather (t := t) bxb1 hW1 (hT.fr fpb1 rfl rfl) (by show 0 ≤ t ∧ t < (vb1 4); omega)) dX12_readings_112 kV_X12_354 rfl ck_13 rfl (Nat.le_of_ble_eq_true rfl) ⟨Nat.le_of_ble_eq_true rfl, Nat.le_of_ble_eq_true rfl⟩ ⟨Nat.le_of_ble_eq_true rfl, Nat.le_of_ble_eq_true rfl⟩ (fun rh4 vh4 ah4 h4 => ?_)
                obtain ⟨rfl, fn2, bn2, ex2⟩ := h4
                refine hv2 (fpb1.call fn2 rfl rfl) (ex2) (fun fq3 pw1 => ?_)
                refine m_st (st2 := []) rfl ?_
                refine m_aload_n (j := 1) C dX12_readings_115 rfl ?_
                refine hv2 (show 0 ≤ vh4 50 ∧ vh4 50 ≤ 40200 from bn2.1 50) (show vh4 50 = vb1 50 from fn2.1 50 rfl) (fun rv4 ve2 => ?_)
                refine m_call (mc2 := 0) (ms2 := 0) (As := []) (rest := []) C (M_findCan  bn2 pw1 (by show (vh4 50) ≤ 100; omega)) dX12_readings_116 kV_X12_401 rfl ck_13 rfl (Nat.le_of_ble_eq_true rfl) ⟨Nat.le_of_ble_eq_true rfl, Nat.le_of_ble_eq_true rfl⟩ ⟨Nat.le_of_ble_eq_true rfl, Nat.le_of_ble_eq_true rfl⟩ (fun rh5 vh5 ah5 h5 => ?_)
                obtain ⟨rfl, fn3, bn3, ex3⟩ := h5
                refine hv2 (fq3.call fn3 rfl rfl) (show RWS ah5 from RWS.fr pw1 fn3 rfl) (fun fq4 pw2 => ?_)
                refine m_st (st2 := []) rfl ?_
                refine m_aload_n (j := 1) C dX12_readings_119 rfl ?_
                refine m_iconst C dX12_readings_120 ?_
                refine m_put (k := 60) (z := 0) C dX12_readings_121 w6_119 (by decide) rfl rfl rfl ?_
                refine hv2 (show BX (va_up vh5 60 0) ah5 from bn3.put (k := 60) (z := 0) ⟨by decide, by decide⟩) (fq4.put (k := 60) (z := 0) rfl) (fun bq2 fq5 => ?_)
                refine m_aload_n (j := 1) C dX12_readings_124 rfl ?_
                refine m_iconst C dX12_readings_125 ?_
                refine m_put (k := 61) (z := 0) C dX12_readings_126 w6_120 (by decide) rfl rfl rfl ?_
                refine hv2 (show BX (va_up (va_up vh5 60 0) 61 0) ah5 from bq2.put (k := 61) (z := 0) ⟨by decide, by decide⟩) (fq5.put (k := 61) (z := 0) rfl) (fun bq3 fq6 => ?_)
                refine m_aload_n (j := 1) C dX12_readings_129 rfl ?_
                refine m_iconst C dX12_readings_130 ?_
                refine m_put (k := 63) (z := 0) C dX12_readings_131 w6_122 (by decide) rfl rfl rfl ?_
                refine hv2 (show BX (va_up (va_up (va_up vh5 60 0) 61 0) 63 0) ah5 from bq3.put (k := 63) (z := 0) ⟨by decide, by decide⟩) (fq6.put (k := 63) (z := 0) rfl) (fun bq4 fq7 => ?_)
                refine m_aload_n (j := 1) C dX12_readings_134 rfl ?_
                refine m_iload_n (j := 4) C dX12_readings_135 rfl ?_
                refine m_put (k := 64) (z := n1) C dX12_readings_136 w6_123 (by decide) rfl rfl rfl ?_
                refine hv2 (show BX (va_up (va_up (va_up (va_up vh5 60 0) 61 0) 63 0) 64 n1) ah5 from bq4.put (k := 64) (z := n1) (show 0 ≤ n1 ∧ n1 ≤ 50 by omega)) (fq7.put (k := 64) (z := n1) rfl) (fun bq5 fq8 => ?_)
                refine m_aload_n (j := 1) C dX12_readings_139 rfl ?_
                refine m_geta (k := 57) C dX12_readings_140 w6_116 (by decide) rfl ?_
                refine m_iconst C dX12_readings_143 ?_
                refine m_zald (k := 57) C dX12_readings_144 rfl rfl (by decide) (by decide) (by decide) (by decide) ?_
                have ra3 : 0 ≤ ah5 57 0 ∧ ah5 57 0 ≤ 1 := bq5.2 57 (0)
                refine m_st (st2 := [.int (iI (ah5 57 0))]) rfl ?_
                refine m_if_eq (tgt := 155) C (r32_c (lo := 0) (hi := 1) ra3.1 ra3.2 (by decide) (by decide)) dX12_readings_145 (by decide) (fun c5 => ?_) (fun c5 => ?_)
                · refine m_aload_n (j := 1) C dX12_readings_155 rfl ?_
                  refine m_aload_n (j := 1) C dX12_readings_156 rfl ?_
                  refine m_get (k := 60) C dX12_readings_157 w6_119 (by decide) rfl ?_
                  refine m_st (st2 := [.int (iI 0), .ref h0]) rfl ?_
                  refine m_call (mc2 := 0) (ms2 := 0) (As := [.int (iI 0)]) (rest := []) C (B_fine (x := 0) bq5 (by show -2147483648 ≤ (0 : Int) ∧ (0 : Int) ≤ 2147483647; omega)) dX12_readings_160 kV_X12_158 rfl ck_13 rfl (Nat.le_of_ble_eq_true rfl) ⟨Nat.le_of_ble_eq_true rfl, Nat.le_of_ble_eq_true rfl⟩ ⟨Nat.le_of_ble_eq_true rfl, Nat.le_of_ble_eq_true rfl⟩ (fun rh6 vh6 ah6 h6 => ?_)
                  obtain ⟨f5, rfl, fn4, bn4, ex4⟩ := h6
                  refine hv3 (fq8.call fn4 rfl rfl) (show RWS ah6 from RWS.fr pw2 fn4 rfl) (show f5 = (0 : Int) from ex4) (fun fq9 pw3 gf5 => ?_)
                  refine m_st (st2 := [.int (iI f5)]) rfl ?_
                  exact m_iret C dX12_readings_163 rfl (Nat.le_of_ble_eq_true rfl) (Nat.le_of_ble_eq_true rfl) ⟨f5, rfl, fq9, bn4, pw3⟩
                · refine m_aload_n (j := 1) C dX12_readings_148 rfl ?_
                  refine m_iconst C dX12_readings_149 ?_
                  refine m_iconst C dX12_readings_150 ?_
                  refine m_iconst C dX12_readings_151 ?_
                  refine hv2 (show 0 ≤ vh5 50 ∧ vh5 50 ≤ 40200 from bq5.1 50) (show vh5 50 = vh4 50 from fn3.1 50 rfl) (fun rv5 ve3 => ?_)
                  refine m_call (mc2 := 0) (ms2 := 0) (As := [.int (iI 0), .int (iI 0), .int (iI 0)]) (rest := []) C (M_go (x := 0) (pt := 0) (g := 0) bq5 pw2 (by show (vh5 50) ≤ 100; omega) (by show 0 ≤ (0 : Int) ∧ (0 : Int) ≤ (vh5 50); omega) (by show (0 : Int) = 0 ∨ (0 : Int) = 1; omega) (by show (0 : Int) = 0 ∨ (0 : Int) = 1; omega) (by show 0 ≤ n1; omega) (by show 0 ≤ 8 * (0 : Int); omega)) dX12_readings_152 kV_X12_391 rfl ck_13 rfl (Nat.le_of_ble_eq_true rfl) ⟨Nat.le_of_ble_eq_true rfl, Nat.le_of_ble_eq_true rfl⟩ ⟨Nat.le_of_ble_eq_true rfl, Nat.le_of_ble_eq_true rfl⟩ (fun rh7 vh7 ah7 h7 => ?_)
                  obtain ⟨rfl, fn5, bn5, ex5⟩ := h7
                  refine hv5 (fq8.call fn5 rfl rfl) (show RWS ah7 from RWS.fr pw2 fn5 rfl) (show 0 ≤ vh7 60 ∧ vh7 60 ≤ 50 from bn5.1 60) (show 0 ≤ vh7 63 ∧ vh7 63 ≤ 808 from bn5.1 63) (show (vh7 60) ≤ n1 ∧ (vh7 63) = 0 from ex5) (fun fq10 pw4 rv6 rv7 gf6 => ?_)
                  refine m_st (st2 := []) rfl ?_
                  refine m_aload_n (j := 1) C dX12_readings_155 rfl ?_
                  refine m_aload_n (j := 1) C dX12_readings_156 rfl ?_
                  refine m_get (k := 60) C dX12_readings_157 w6_119 (by decide) rfl ?_
                  refine m_call (mc2 := 0) (ms2 := 0) (As := [.int (iI (vh7 60))]) (rest := []) C (B_fine (x := vh7 60) bn5 (by show -2147483648 ≤ (vh7 60) ∧ (vh7 60) ≤ 2147483647; omega)) dX12_readings_160 kV_X12_158 rfl ck_13 rfl (Nat.le_of_ble_eq_true rfl) ⟨Nat.le_of_ble_eq_true rfl, Nat.le_of_ble_eq_true rfl⟩ ⟨Nat.le_of_ble_eq_true rfl, Nat.le_of_ble_eq_true rfl⟩ (fun rh8 vh8 ah8 h8 => ?_)
                  obtain ⟨f7, rfl, fn6, bn6, ex6⟩ := h8
                  refine hv3 (fq10.call fn6 rfl rfl) (show RWS ah8 from RWS.fr pw4 fn6 rfl) (show f7 = (vh7 60) from ex6) (fun fq11 pw5 gf7 => ?_)
                  refine m_st (st2 := [.int (iI f7)]) rfl ?_
                  exact m_iret C dX12_readings_163 rfl (Nat.le_of_ble_eq_true rfl) (Nat.le_of_ble_eq_true rfl) ⟨f7, rfl, fq11, bn6, pw5⟩
              · refine m_aload_n (j := 1) C dX12_readings_86 rfl ?_
                refine m_aload_n (j := 1) C dX12_readings_87 rfl ?_
                refine m_geta (k := 35) C dX12_readings_88 w6_94 (by decide) rfl ?_
                refine m_sipush (z := 200) C dX12_readings_91 (by decide) ?_
                refine m_iload_n (j := 3) C dX12_readings_94 rfl ?_
                refine m_imul C dX12_readings_95 ?_
                refine m_iload (j := 0) C dX12_readings_96 rfl ?_
                refine m_iadd C dX12_readings_98 ?_
                refine m_ald (k := 35) C dX12_readings_99 rfl rfl (by decide) (by omega) (by show _ < ((_ : Nat) : Int); simp only [mlen]; omega) (by decide) ?_
                refine hv2 (show (-2147483648) ≤ ab1 35 ((200 * l0) + i1).toNat ∧ ab1 35 ((200 * l0) + i1).toNat ≤ 2147483647 from bxb1.2 35 (((200 * l0) + i1).toNat)) (show ab1 35 (((200 * l0) + i1).toNat) = a 35 (((200 * l0) + i1).toNat) from congrFun (fpb1.2 35 rfl) (((200 * l0) + i1).toNat)) (fun ra4 ae2 => ?_)
                refine m_st (st2 := [.int (iI (a 35 ((200 * l0) + i1).toNat)), .ref h0]) (congrArg (fun z => Value.int (iI z) :: [.ref h0]) (congrFun (fpb1.2 35 rfl) (((200 * l0) + i1).toNat))) ?_
                refine m_iconst C dX12_readings_100 ?_
                have rv8 : 0 ≤ vb1 50 ∧ vb1 50 ≤ 40200 := bxb1.1 50
                refine m_call (mc2 := 0) (ms2 := 0) (As := [.int (iI (a 35 ((200 * l0) + i1).toNat)), .int (iI 0)]) (rest := []) C (B_putRow (x := a 35 ((200 * l0) + i1).toNat) (y := 0) bxb1 (by show -2147483648 ≤ (a 35 ((200 * l0) + i1).toNat) ∧ (a 35 ((200 * l0) + i1).toNat) ≤ 2147483647; omega) (by show -2147483648 ≤ (0 : Int) ∧ (0 : Int) ≤ 2147483647; omega) (by show (vb1 50) < 40200; omega)) dX12_readings_101 kV_X12_351 rfl ck_13 rfl (Nat.le_of_ble_eq_true rfl) ⟨Nat.le_of_ble_eq_true rfl, Nat.le_of_ble_eq_true rfl⟩ ⟨Nat.le_of_ble_eq_true rfl, Nat.le_of_ble_eq_true rfl⟩ (fun rh9 vh9 ah9 h9 => ?_)
                obtain ⟨rfl, fn7, bn7, ex7⟩ := h9
                refine hv4 (fpb1.call fn7 rfl rfl) (show RWS ah9 from RWS.fr hW1 fn7 rfl) (show 0 ≤ vh9 50 ∧ vh9 50 ≤ 40200 from bn7.1 50) (show (vh9 50) = (vb1 50) + 1 from ex7) (fun fq12 pw6 rv9 gf8 => ?_)
                refine m_st (st2 := []) rfl ?_
                refine m_iinc (z := i1) (j := 0) (lv2 := [(4, .int (iI (i1 + 1))), (0, .ref h0), (1, .int (iI t)), (2, .int (iI l0)), (3, .int (iI n1))]) C dX12_readings_104 rfl (by decide) rfl ?_
                refine m_goto (tgt := 75) C dX12_readings_107 (by decide) ?_
                refine m_lv (lv2 := [(4, .int (iI (i1 + 1))), (0, .ref h0), (1, .int (iI t)), (2, .int (iI l0)), (3, .int (iI n1))]) [0, 1, 2, 3, 4] rfl ?_
                exact ih1  (i1 + 1) _ _ (by omega) bn7 fq12 (by omega) (by show (vh9 50) = (i1 + 1); omega) pw6
          refine m_lv (lv2 := [(4, .int (iI 0)), (0, .ref h0), (1, .int (iI t)), (2, .int (iI l0)), (3, .int (iI n1))]) [0, 1, 2, 3, 4] rfl ?_
          exact Lp1 202 0 _ _ (by omega) bq1 fq2 (by omega) (by show 0 = 0; omega) hW
        · refine m_aload_n (j := 0) C dX12_readings_60 rfl ?_
          refine m_bipush (z := 6) C dX12_readings_61 (by decide) ?_
          refine m_call (mc2 := 0) (ms2 := 0) (As := [.int (iI 6)]) (rest := []) C (B_bad (x := 6) hB (by show -2147483648 ≤ (6 : Int) ∧ (6 : Int) ≤ 2147483647; omega)) dX12_readings_63 kV_X12_154 rfl ck_13 rfl (Nat.le_of_ble_eq_true rfl) ⟨Nat.le_of_ble_eq_true rfl, Nat.le_of_ble_eq_true rfl⟩ ⟨Nat.le_of_ble_eq_true rfl, Nat.le_of_ble_eq_true rfl⟩ (fun rh10 vh10 ah10 h10 => ?_)
          obtain ⟨f9, rfl, fn8, bn8, ex8⟩ := h10
          refine hv3 (fp0.call fn8 rfl rfl) (show RWS ah10 from RWS.fr hW fn8 rfl) (show f9 = -1 from ex8) (fun fq13 pw7 gf9 => ?_)
          refine m_st (st2 := [.int (iI f9)]) rfl ?_
          exact m_iret C dX12_readings_66 rfl (Nat.le_of_ble_eq_true rfl) (Nat.le_of_ble_eq_true rfl) ⟨f9, rfl, fq13, bn8, pw7⟩
      · refine m_aload_n (j := 0) C dX12_readings_39 rfl ?_
        refine m_aload_n (j := 0) C dX12_readings_40 rfl ?_
        refine m_iload_n (j := 2) C dX12_readings_41 rfl ?_
        refine m_call (mc2 := 0) (ms2 := 0) (As := [.int (iI l0)]) (rest := [.ref h0]) C (M_lineFault (l0 := l0) hB.rg ⟨by omega, by omega⟩ ⟨hB.1 36, hB.2 34⟩) dX12_readings_42 kV_X12_294 rfl ck_13 rfl (Nat.le_of_ble_eq_true rfl) ⟨Nat.le_of_ble_eq_true rfl, Nat.le_of_ble_eq_true rfl⟩ ⟨Nat.le_of_ble_eq_true rfl, Nat.le_of_ble_eq_true rfl⟩ (fun rh11 vh11 ah11 h11 => ?_)
        obtain ⟨f10, rfl, hf10, rfl, rfl⟩ := h11
        have gf10 : (f10 = 2 ∧ ¬ (0 ≤ l0 ∧ l0 < (v 36))) ∨ (f10 = 1 ∧ 0 ≤ l0 ∧ l0 < (v 36) ∧ a 34 l0.toNat < 0) ∨ (f10 = 0 ∧ 0 ≤ l0 ∧ l0 < (v 36) ∧ 0 ≤ a 34 l0.toNat) := hf10
        refine m_st (st2 := [.int (iI f10), .ref h0]) rfl ?_
        refine m_call (mc2 := 0) (ms2 := 0) (As := [.int (iI f10)]) (rest := []) C (B_bad (x := f10) hB (by show -2147483648 ≤ f10 ∧ f10 ≤ 2147483647; omega)) dX12_readings_45 kV_X12_154 rfl ck_13 rfl (Nat.le_of_ble_eq_true rfl) ⟨Nat.le_of_ble_eq_true rfl, Nat.le_of_ble_eq_true rfl⟩ ⟨Nat.le_of_ble_eq_true rfl, Nat.le_of_ble_eq_true rfl⟩ (fun rh12 vh12 ah12 h12 => ?_)
        obtain ⟨f11, rfl, fn9, bn9, ex9⟩ := h12
        refine hv3 (fp0.call fn9 rfl rfl) (show RWS ah12 from RWS.fr hW fn9 rfl) (show f11 = -1 from ex9) (fun fq14 pw8 gf11 => ?_)
        refine m_st (st2 := [.int (iI f11)]) rfl ?_
        exact m_iret C dX12_readings_48 rfl (Nat.le_of_ble_eq_true rfl) (Nat.le_of_ble_eq_true rfl) ⟨f11, rfl, fq14, bn9, pw8⟩
    · clear gf1
      refine m_aload_n (j := 0) C dX12_readings_25 rfl ?_
      refine m_iconst C dX12_readings_26 ?_
      refine m_call (mc2 := 0) (ms2 := 0) (As := [.int (iI 3)]) (rest := []) C (B_bad (x := 3) hB (by show -2147483648 ≤ (3 : Int) ∧ (3 : Int) ≤ 2147483647; omega)) dX12_readings_27 kV_X12_154 rfl ck_13 rfl (Nat.le_of_ble_eq_true rfl) ⟨Nat.le_of_ble_eq_true rfl, Nat.le_of_ble_eq_true rfl⟩ ⟨Nat.le_of_ble_eq_true rfl, Nat.le_of_ble_eq_true rfl⟩ (fun rh13 vh13 ah13 h13 => ?_)
      obtain ⟨f12, rfl, fn10, bn10, ex10⟩ := h13
      refine hv3 (fp0.call fn10 rfl rfl) (show RWS ah13 from RWS.fr hW fn10 rfl) (show f12 = -1 from ex10) (fun fq15 pw9 gf12 => ?_)
      refine m_st (st2 := [.int (iI f12)]) rfl ?_
      exact m_iret C dX12_readings_30 rfl (Nat.le_of_ble_eq_true rfl) (Nat.le_of_ble_eq_true rfl) ⟨f12, rfl, fq15, bn10, pw9⟩
  · refine m_st (st2 := [.int (iI 0)]) (by rw [h1e]) ?_
    refine m_if_ne (tgt := 17) C ⟨by decide, by decide⟩ dX12_readings_7 (by decide) (fun z => absurd z (by omega)) (fun _ => ?_)
    refine m_aload_n (j := 0) C dX12_readings_10 rfl ?_
    refine m_bipush (z := 6) C dX12_readings_11 (by decide) ?_
    refine m_call (mc2 := 0) (ms2 := 0) (As := [.int (iI 6)]) (rest := []) C (B_bad (x := 6) hB (by show -2147483648 ≤ (6 : Int) ∧ (6 : Int) ≤ 2147483647; omega)) dX12_readings_13 kV_X12_154 rfl ck_13 rfl (Nat.le_of_ble_eq_true rfl) ⟨Nat.le_of_ble_eq_true rfl, Nat.le_of_ble_eq_true rfl⟩ ⟨Nat.le_of_ble_eq_true rfl, Nat.le_of_ble_eq_true rfl⟩ (fun rh14 vh14 ah14 h14 => ?_)
    obtain ⟨f13, rfl, fn11, bn11, ex11⟩ := h14
    refine hv3 (fp0.call fn11 rfl rfl) (show RWS ah14 from RWS.fr hW fn11 rfl) (show f13 = -1 from ex11) (fun fq16 pw10 gf13 => ?_)
    refine m_st (st2 := [.int (iI f13)]) rfl ?_
    exact m_iret C dX12_readings_16 rfl (Nat.le_of_ble_eq_true rfl) (Nat.le_of_ble_eq_true rfl) ⟨f13, rfl, fq16, bn11, pw10⟩
set_option maxHeartbeats 4000000 in
set_option maxRecDepth 100000 in
theorem N_judge {l : Launch} {G : GT} {h0 : Nat} {ad ln : Nat → Nat} {v : Nat → Int} {a : Nat → Nat → Int}  {t : Int} (hB : BX v a) (hT : TBL v a) (hW : RWS a) (ht : -2147483648 ≤ t ∧ t ≤ 2147483647) : Mm l G yX12_judge cX12_judge 3 (some .int) 36 [.int (iI t)] h0 ad ln v a 0 0 (fun r v2 a2 => ∃ f : Int, r = some (.int (iI f)) ∧ fr [0, 1] [44, 45, 46, 47] v a v2 a2 ∧ BX v2 a2 ∧ (RWS a2)) := by
  refine Mm.mk (by decide) (Nat.le_of_ble_eq_true rfl) ?_
  intro p e s m args below meth c A C
  refine hv2 (show 0 ≤ v 4 ∧ v 4 ≤ 30 from hB.1 4) (show fr [0, 1] [44, 45, 46, 47] v a v a from fr.refl) (fun h30 fp0 => ?_)
  refine m_aload_n (j := 0) C dX12_judge_0 rfl ?_
  refine m_iload_n (j := 1) C dX12_judge_1 rfl ?_
  have rv1 : 0 ≤ v 4 ∧ v 4 ≤ 30 := hB.1 4
  refine m_call (mc2 := 0) (ms2 := 0) (As := [.int (iI t)]) (rest := []) C (B_isTable (t := t) hB (by show -2147483648 ≤ t ∧ t ≤ 2147483647; omega)) dX12_judge_2 kV_X12_167 rfl ck_13 rfl (Nat.le_of_ble_eq_true rfl) ⟨Nat.le_of_ble_eq_true rfl, Nat.le_of_ble_eq_true rfl⟩ ⟨Nat.le_of_ble_eq_true rfl, Nat.le_of_ble_eq_true rfl⟩ (fun rh1 vh1 ah1 h1 => ?_)
  obtain ⟨f1, rfl, fn1, bn1, ex1⟩ := h1
  obtain ⟨rfl, rfl⟩ := fn1.eq
  refine hv2 (show (f1 = 0 ∧ (t < 0 ∨ (v 4) ≤ t ∨ a 5 t.toNat = 0)) ∨ (f1 = 1 ∧ 0 ≤ t ∧ t < (v 4) ∧ a 5 t.toNat = 1) from ex1) (show 0 ≤ a 5 t.toNat ∧ a 5 t.toNat ≤ 1 from hB.2 5 (t.toNat)) (fun gf1 ra1 => ?_)
  refine m_st (st2 := [.int (iI f1)]) rfl ?_
  refine m_if_ne (tgt := 14) C (r32_pq gf1) dX12_judge_5 (by decide) (fun c1 => ?_) (fun c1 => ?_)
  · replace gf1 := (gf1.resolve_left (fun q => c1 q.1))
    have ht0 := hT.1 t (by omega) (by omega)
    refine m_aload_n (j := 0) C dX12_judge_14 rfl ?_
    refine m_geta (k := 6) C dX12_judge_15 w6_65 (by decide) rfl ?_
    refine m_iload_n (j := 1) C dX12_judge_18 rfl ?_
    refine m_ald (k := 6) C dX12_judge_19 rfl rfl (by decide) (by omega) (by show _ < ((_ : Nat) : Int); simp only [mlen]; omega) (by decide) ?_
    have ra2 : 0 ≤ a 6 t.toNat ∧ a 6 t.toNat ≤ 5 := hB.2 6 (t.toNat)
    refine m_iconst C dX12_judge_20 ?_
    refine m_icmp_ne (tgt := 30) C (r32_c (lo := 0) (hi := 5) ra2.1 ra2.2 (by decide) (by decide)) ⟨by decide, by decide⟩ dX12_judge_21 (by decide) (fun c2 => ?_) (fun c2 => ?_)
    · refine m_aload_n (j := 0) C dX12_judge_30 rfl ?_
      refine m_iload_n (j := 1) C dX12_judge_31 rfl ?_
      refine m_call (mc2 := 0) (ms2 := 0) (As := [.int (iI t)]) (rest := []) C (M_isWhole (t := t) hB (hT.fr fp0 rfl rfl) (by show -2147483648 ≤ t ∧ t ≤ 2147483647; omega)) dX12_judge_32 kV_X12_171 rfl ck_13 rfl (Nat.le_of_ble_eq_true rfl) ⟨Nat.le_of_ble_eq_true rfl, Nat.le_of_ble_eq_true rfl⟩ ⟨Nat.le_of_ble_eq_true rfl, Nat.le_of_ble_eq_true rfl⟩ (fun rh2 vh2 ah2 h2 => ?_)
      obtain ⟨f2, rfl, fn2, bn2, ex2⟩ := h2
      obtain ⟨rfl, rfl⟩ := fn2.eq
      have gf2 : f2 = 0 ∨ (f2 = 1 ∧ 0 ≤ t ∧ t < (v 4)) := ex2
      refine m_st (st2 := [.int (iI f2)]) rfl ?_
      refine m_if_ne (tgt := 44) C (r32_0p gf2) dX12_judge_35 (by decide) (fun c3 => ?_) (fun c3 => ?_)
      · replace gf2 := (gf2.resolve_left c3)
        refine m_aload_n (j := 0) C dX12_judge_44 rfl ?_
        refine m_geta (k := 6) C dX12_judge_45 w6_65 (by decide) rfl ?_
        refine m_iload_n (j := 1) C dX12_judge_48 rfl ?_
        refine m_ald (k := 6) C dX12_judge_49 rfl rfl (by decide) (by omega) (by show _ < ((_ : Nat) : Int); simp only [mlen]; omega) (by decide) ?_
        refine m_iconst C dX12_judge_50 ?_
        have J1 : ∀ (g : Int) (vb1 : Nat → Int) (ab1 : Nat → Nat → Int), BX vb1 ab1 → fr [0, 1] [44, 45, 46, 47] v a vb1 ab1 → (g = 0 ∨ g = 1) → (RWS ab1) → mw p l e (rmq 36 0 0) s m args below meth c G A 3 (MQ below (Qm G A (fun rq Lq Eq => ∃ (vq : Nat → Int) (aq : Nat → Nat → Int), mI G h0 ad ln vq aq Lq Eq ∧ (fun r v2 a2 => ∃ f : Int, r = some (.int (iI f)) ∧ fr [0, 1] [44, 45, 46, 47] v a v2 a2 ∧ BX v2 a2 ∧ (RWS a2)) rq vq aq)) args s 0 0 A) h0 ad ln vb1 ab1 0 0 93 [(0, .ref h0), (1, .int (iI t))] [.int (iI g)] := by
          intro g vb1 ab1 bxb1 fpb1 hg hW1
          refine m_istore_n (lv2 := [(2, .int (iI g)), (0, .ref h0), (1, .int (iI t))]) C dX12_judge_93 (by decide) rfl ?_
          refine m_aload_n (j := 1) C dX12_judge_94 rfl ?_
          refine m_iload_n (j := 2) C dX12_judge_95 rfl ?_
          refine hv2 (show 0 ≤ vb1 4 ∧ vb1 4 ≤ 30 from bxb1.1 4) (show vb1 4 = v 4 from fpb1.1 4 rfl) (fun rv2 ve1 => ?_)
          refine m_call (mc2 := 0) (ms2 := 0) (As := [.int (iI t)]) (rest := []) C (M_gather (t := t) bxb1 hW1 (hT.fr fpb1 rfl rfl) (by show 0 ≤ t ∧ t < (vb1 4); omega)) dX12_judge_96 kV_X12_354 rfl ck_13 rfl (Nat.le_of_ble_eq_true rfl) ⟨Nat.le_of_ble_eq_true rfl, Nat.le_of_ble_eq_true rfl⟩ ⟨Nat.le_of_ble_eq_true rfl, Nat.le_of_ble_eq_true rfl⟩ (fun rh3 vh3 ah3 h3 => ?_)
          obtain ⟨rfl, fn3, bn3, ex3⟩ := h3
          refine hv2 (fpb1.call fn3 rfl rfl) (ex3) (fun fq3 pw1 => ?_)
          refine m_st (st2 := []) rfl ?_
          refine m_aload_n (j := 1) C dX12_judge_99 rfl ?_
          refine m_iload_n (j := 0) C dX12_judge_100 rfl ?_
          refine m_if_ne (tgt := 124) C (r32_01 hg) dX12_judge_101 (by decide) (fun c4 => ?_) (fun c4 => ?_)
          · replace hg := (hg.resolve_left c4)
            refine m_iconst C dX12_judge_124 ?_
            refine m_call (mc2 := 0) (ms2 := 0) (As := [.int (iI 0)]) (rest := []) C (B_fine (x := 0) bn3 (by show -2147483648 ≤ (0 : Int) ∧ (0 : Int) ≤ 2147483647; omega)) dX12_judge_125 kV_X12_158 rfl ck_13 rfl (Nat.le_of_ble_eq_true rfl) ⟨Nat.le_of_ble_eq_true rfl, Nat.le_of_ble_eq_true rfl⟩ ⟨Nat.le_of_ble_eq_true rfl, Nat.le_of_ble_eq_true rfl⟩ (fun rh4 vh4 ah4 h4 => ?_)
            obtain ⟨f4, rfl, fn4, bn4, ex4⟩ := h4
            refine hv3 (fq3.call fn4 rfl rfl) (show RWS ah4 from RWS.fr pw1 fn4 rfl) (show f4 = (0 : Int) from ex4) (fun fq4 pw2 gf4 => ?_)
            refine m_st (st2 := [.int (iI f4)]) rfl ?_
            exact m_iret C dX12_judge_128 rfl (Nat.le_of_ble_eq_true rfl) (Nat.le_of_ble_eq_true rfl) ⟨f4, rfl, fq4, bn4, pw2⟩
          · clear hg
            refine m_aload_n (j := 1) C dX12_judge_104 rfl ?_
            refine m_iconst C dX12_judge_105 ?_
            refine m_call (mc2 := 0) (ms2 := 0) (As := [.int (iI 0)]) (rest := [.ref h0]) C (M_isReadable (q := 0) bn3.rg (by omega) (pw1 (0) (by omega)).1 (pw1 (0) (by omega)).2) dX12_judge_106 kV_X12_410 rfl ck_13 rfl (Nat.le_of_ble_eq_true rfl) ⟨Nat.le_of_ble_eq_true rfl, Nat.le_of_ble_eq_true rfl⟩ ⟨Nat.le_of_ble_eq_true rfl, Nat.le_of_ble_eq_true rfl⟩ (fun rh5 vh5 ah5 h5 => ?_)
            obtain ⟨f5, rfl, hf5, rfl, rfl⟩ := h5
            have gf5 : f5 = 0 ∨ f5 = 1 := hf5
            refine m_st (st2 := [.int (iI f5), .ref h0]) rfl ?_
            refine m_if_eq (tgt := 124) C (r32_01 gf5) dX12_judge_109 (by decide) (fun c5 => ?_) (fun c5 => ?_)
            · clear gf5
              refine m_iconst C dX12_judge_124 ?_
              refine m_call (mc2 := 0) (ms2 := 0) (As := [.int (iI 0)]) (rest := []) C (B_fine (x := 0) bn3 (by show -2147483648 ≤ (0 : Int) ∧ (0 : Int) ≤ 2147483647; omega)) dX12_judge_125 kV_X12_158 rfl ck_13 rfl (Nat.le_of_ble_eq_true rfl) ⟨Nat.le_of_ble_eq_true rfl, Nat.le_of_ble_eq_true rfl⟩ ⟨Nat.le_of_ble_eq_true rfl, Nat.le_of_ble_eq_true rfl⟩ (fun rh6 vh6 ah6 h6 => ?_)
              obtain ⟨f6, rfl, fn5, bn5, ex5⟩ := h6
              refine hv3 (fq3.call fn5 rfl rfl) (show RWS ah6 from RWS.fr pw1 fn5 rfl) (show f6 = (0 : Int) from ex5) (fun fq5 pw3 gf6 => ?_)
              refine m_st (st2 := [.int (iI f6)]) rfl ?_
              exact m_iret C dX12_judge_128 rfl (Nat.le_of_ble_eq_true rfl) (Nat.le_of_ble_eq_true rfl) ⟨f6, rfl, fq5, bn5, pw3⟩
            · replace gf5 := (gf5.resolve_left c5)
              refine m_aload_n (j := 1) C dX12_judge_112 rfl ?_
              refine m_iconst C dX12_judge_113 ?_
              refine m_call (mc2 := 0) (ms2 := 0) (As := [.int (iI 1)]) (rest := [.ref h0]) C (M_isReadable (q := 1) bn3.rg (by omega) (pw1 (1) (by omega)).1 (pw1 (1) (by omega)).2) dX12_judge_114 kV_X12_410 rfl ck_13 rfl (Nat.le_of_ble_eq_true rfl) ⟨Nat.le_of_ble_eq_true rfl, Nat.le_of_ble_eq_true rfl⟩ ⟨Nat.le_of_ble_eq_true rfl, Nat.le_of_ble_eq_true rfl⟩ (fun rh7 vh7 ah7 h7 => ?_)
              obtain ⟨f7, rfl, hf7, rfl, rfl⟩ := h7
              have gf7 : f7 = 0 ∨ f7 = 1 := hf7
              refine m_st (st2 := [.int (iI f7), .ref h0]) rfl ?_
              refine m_if_eq (tgt := 124) C (r32_01 gf7) dX12_judge_117 (by decide) (fun c6 => ?_) (fun c6 => ?_)
              · clear gf7
                refine m_iconst C dX12_judge_124 ?_
                refine m_call (mc2 := 0) (ms2 := 0) (As := [.int (iI 0)]) (rest := []) C (B_fine (x := 0) bn3 (by show -2147483648 ≤ (0 : Int) ∧ (0 : Int) ≤ 2147483647; omega)) dX12_judge_125 kV_X12_158 rfl ck_13 rfl (Nat.le_of_ble_eq_true rfl) ⟨Nat.le_of_ble_eq_true rfl, Nat.le_of_ble_eq_true rfl⟩ ⟨Nat.le_of_ble_eq_true rfl, Nat.le_of_ble_eq_true rfl⟩ (fun rh8 vh8 ah8 h8 => ?_)
                obtain ⟨f8, rfl, fn6, bn6, ex6⟩ := h8
                refine hv3 (fq3.call fn6 rfl rfl) (show RWS ah8 from RWS.fr pw1 fn6 rfl) (show f8 = (0 : Int) from ex6) (fun fq6 pw4 gf8 => ?_)
                refine m_st (st2 := [.int (iI f8)]) rfl ?_
                exact m_iret C dX12_judge_128 rfl (Nat.le_of_ble_eq_true rfl) (Nat.le_of_ble_eq_true rfl) ⟨f8, rfl, fq6, bn6, pw4⟩
              · replace gf7 := (gf7.resolve_left c6)
                refine m_iconst C dX12_judge_120 ?_
                refine m_goto (tgt := 125) C dX12_judge_121 (by decide) ?_
                refine m_call (mc2 := 0) (ms2 := 0) (As := [.int (iI 1)]) (rest := []) C (B_fine (x := 1) bn3 (by show -2147483648 ≤ (1 : Int) ∧ (1 : Int) ≤ 2147483647; omega)) dX12_judge_125 kV_X12_158 rfl ck_13 rfl (Nat.le_of_ble_eq_true rfl) ⟨Nat.le_of_ble_eq_true rfl, Nat.le_of_ble_eq_true rfl⟩ ⟨Nat.le_of_ble_eq_true rfl, Nat.le_of_ble_eq_true rfl⟩ (fun rh9 vh9 ah9 h9 => ?_)
                obtain ⟨f9, rfl, fn7, bn7, ex7⟩ := h9
                refine hv3 (fq3.call fn7 rfl rfl) (show RWS ah9 from RWS.fr pw1 fn7 rfl) (show f9 = (1 : Int) from ex7) (fun fq7 pw5 gf9 => ?_)
                refine m_st (st2 := [.int (iI f9)]) rfl ?_
                exact m_iret C dX12_judge_128 rfl (Nat.le_of_ble_eq_true rfl) (Nat.le_of_ble_eq_true rfl) ⟨f9, rfl, fq7, bn7, pw5⟩
        refine m_icmp_ne (tgt := 88) C (r32_c (lo := 0) (hi := 5) ra2.1 ra2.2 (by decide) (by decide)) ⟨by decide, by decide⟩ dX12_judge_51 (by decide) (fun c7 => ?_) (fun c7 => ?_)
        · refine m_aload_n (j := 0) C dX12_judge_88 rfl ?_
          refine m_iload_n (j := 1) C dX12_judge_89 rfl ?_
          refine m_call (mc2 := 0) (ms2 := 0) (As := [.int (iI t)]) (rest := []) C (M_isShort (t := t) hB.rg (hB.1 4) (hT.fr fp0 rfl rfl).b (by show -1 ≤ t ∧ t < v 4; omega)) dX12_judge_90 kV_X12_407 rfl ck_13 rfl (Nat.le_of_ble_eq_true rfl) ⟨Nat.le_of_ble_eq_true rfl, Nat.le_of_ble_eq_true rfl⟩ ⟨Nat.le_of_ble_eq_true rfl, Nat.le_of_ble_eq_true rfl⟩ (fun rh10 vh10 ah10 h10 => ?_)
          obtain ⟨f10, rfl, hf10, rfl, rfl⟩ := h10
          have gf10 : f10 = 0 ∨ f10 = 1 := hf10
          refine m_st (st2 := [.int (iI f10)]) rfl ?_
          refine m_lv (lv2 := [(0, .ref h0), (1, .int (iI t))]) [0, 1] rfl ?_
          exact J1  f10 _ _  hB fp0 (by omega) hW
        · refine m_aload_n (j := 0) C dX12_judge_54 rfl ?_
          refine m_aload_n (j := 0) C dX12_judge_55 rfl ?_
          refine m_geta (k := 8) C dX12_judge_56 w6_67 (by decide) rfl ?_
          refine m_iload_n (j := 1) C dX12_judge_59 rfl ?_
          refine m_ald (k := 8) C dX12_judge_60 rfl rfl (by decide) (by omega) (by show _ < ((_ : Nat) : Int); simp only [mlen]; omega) (by decide) ?_
          have ra3 : (-1) ≤ a 8 t.toNat ∧ a 8 t.toNat ≤ 29 := hB.2 8 (t.toNat)
          refine m_call (mc2 := 0) (ms2 := 0) (As := [.int (iI (a 8 t.toNat))]) (rest := []) C (M_isShort (t := a 8 t.toNat) hB.rg (hB.1 4) (hT.fr fp0 rfl rfl).b (by show -1 ≤ (a 8 t.toNat) ∧ (a 8 t.toNat) < v 4; omega)) dX12_judge_61 kV_X12_407 rfl ck_13 rfl (Nat.le_of_ble_eq_true rfl) ⟨Nat.le_of_ble_eq_true rfl, Nat.le_of_ble_eq_true rfl⟩ ⟨Nat.le_of_ble_eq_true rfl, Nat.le_of_ble_eq_true rfl⟩ (fun rh11 vh11 ah11 h11 => ?_)
          obtain ⟨f11, rfl, hf11, rfl, rfl⟩ := h11
          have gf11 : f11 = 0 ∨ f11 = 1 := hf11
          refine m_st (st2 := [.int (iI f11)]) rfl ?_
          refine m_if_ne (tgt := 80) C (r32_01 gf11) dX12_judge_64 (by decide) (fun c8 => ?_) (fun c8 => ?_)
          · replace gf11 := (gf11.resolve_left c8)
            refine m_iconst C dX12_judge_80 ?_
            refine m_goto (tgt := 93) C dX12_judge_81 (by decide) ?_
            refine m_lv (lv2 := [(0, .ref h0), (1, .int (iI t))]) [0, 1] rfl ?_
            exact J1  1 _ _  hB fp0 (by omega) hW
          · clear gf11
            refine m_aload_n (j := 0) C dX12_judge_67 rfl ?_
            refine m_aload_n (j := 0) C dX12_judge_68 rfl ?_
            refine m_geta (k := 9) C dX12_judge_69 w6_68 (by decide) rfl ?_
            refine m_iload_n (j := 1) C dX12_judge_72 rfl ?_
            refine m_ald (k := 9) C dX12_judge_73 rfl rfl (by decide) (by omega) (by show _ < ((_ : Nat) : Int); simp only [mlen]; omega) (by decide) ?_
            have ra4 : (-1) ≤ a 9 t.toNat ∧ a 9 t.toNat ≤ 29 := hB.2 9 (t.toNat)
            refine m_call (mc2 := 0) (ms2 := 0) (As := [.int (iI (a 9 t.toNat))]) (rest := []) C (M_isShort (t := a 9 t.toNat) hB.rg (hB.1 4) (hT.fr fp0 rfl rfl).b (by show -1 ≤ (a 9 t.toNat) ∧ (a 9 t.toNat) < v 4; omega)) dX12_judge_74 kV_X12_407 rfl ck_13 rfl (Nat.le_of_ble_eq_true rfl) ⟨Nat.le_of_ble_eq_true rfl, Nat.le_of_ble_eq_true rfl⟩ ⟨Nat.le_of_ble_eq_true rfl, Nat.le_of_ble_eq_true rfl⟩ (fun rh12 vh12 ah12 h12 => ?_)
            obtain ⟨f12, rfl, hf12, rfl, rfl⟩ := h12
            have gf12 : f12 = 0 ∨ f12 = 1 := hf12
            refine m_st (st2 := [.int (iI f12)]) rfl ?_
            refine m_if_eq (tgt := 84) C (r32_01 gf12) dX12_judge_77 (by decide) (fun c9 => ?_) (fun c9 => ?_)
            · clear gf12
              refine m_iconst C dX12_judge_84 ?_
              refine m_goto (tgt := 93) C dX12_judge_85 (by decide) ?_
              refine m_lv (lv2 := [(0, .ref h0), (1, .int (iI t))]) [0, 1] rfl ?_
              exact J1  0 _ _  hB fp0 (by omega) hW
            · replace gf12 := (gf12.resolve_left c9)
              refine m_iconst C dX12_judge_80 ?_
              refine m_goto (tgt := 93) C dX12_judge_81 (by decide) ?_
              refine m_lv (lv2 := [(0, .ref h0), (1, .int (iI t))]) [0, 1] rfl ?_
              exact J1  1 _ _  hB fp0 (by omega) hW
      · clear gf2
        refine m_aload_n (j := 0) C dX12_judge_38 rfl ?_
        refine m_iconst C dX12_judge_39 ?_
        refine m_call (mc2 := 0) (ms2 := 0) (As := [.int (iI 3)]) (rest := []) C (B_bad (x := 3) hB (by show -2147483648 ≤ (3 : Int) ∧ (3 : Int) ≤ 2147483647; omega)) dX12_judge_40 kV_X12_154 rfl ck_13 rfl (Nat.le_of_ble_eq_true rfl) ⟨Nat.le_of_ble_eq_true rfl, Nat.le_of_ble_eq_true rfl⟩ ⟨Nat.le_of_ble_eq_true rfl, Nat.le_of_ble_eq_true rfl⟩ (fun rh13 vh13 ah13 h13 => ?_)
        obtain ⟨f13, rfl, fn8, bn8, ex8⟩ := h13
        refine hv3 (fp0.call fn8 rfl rfl) (show RWS ah13 from RWS.fr hW fn8 rfl) (show f13 = -1 from ex8) (fun fq8 pw6 gf13 => ?_)
        refine m_st (st2 := [.int (iI f13)]) rfl ?_
        exact m_iret C dX12_judge_43 rfl (Nat.le_of_ble_eq_true rfl) (Nat.le_of_ble_eq_true rfl) ⟨f13, rfl, fq8, bn8, pw6⟩
    · refine m_aload_n (j := 0) C dX12_judge_24 rfl ?_
      refine m_iconst C dX12_judge_25 ?_
      refine m_call (mc2 := 0) (ms2 := 0) (As := [.int (iI 4)]) (rest := []) C (B_bad (x := 4) hB (by show -2147483648 ≤ (4 : Int) ∧ (4 : Int) ≤ 2147483647; omega)) dX12_judge_26 kV_X12_154 rfl ck_13 rfl (Nat.le_of_ble_eq_true rfl) ⟨Nat.le_of_ble_eq_true rfl, Nat.le_of_ble_eq_true rfl⟩ ⟨Nat.le_of_ble_eq_true rfl, Nat.le_of_ble_eq_true rfl⟩ (fun rh14 vh14 ah14 h14 => ?_)
      obtain ⟨f14, rfl, fn9, bn9, ex9⟩ := h14
      refine hv3 (fp0.call fn9 rfl rfl) (show RWS ah14 from RWS.fr hW fn9 rfl) (show f14 = -1 from ex9) (fun fq9 pw7 gf14 => ?_)
      refine m_st (st2 := [.int (iI f14)]) rfl ?_
      exact m_iret C dX12_judge_29 rfl (Nat.le_of_ble_eq_true rfl) (Nat.le_of_ble_eq_true rfl) ⟨f14, rfl, fq9, bn9, pw7⟩
  · replace gf1 := (gf1.resolve_right (fun q => absurd (q.1.symm.trans c1) (by decide)))
    refine m_aload_n (j := 0) C dX12_judge_8 rfl ?_
    refine m_iconst C dX12_judge_9 ?_
    refine m_call (mc2 := 0) (ms2 := 0) (As := [.int (iI 3)]) (rest := []) C (B_bad (x := 3) hB (by show -2147483648 ≤ (3 : Int) ∧ (3 : Int) ≤ 2147483647; omega)) dX12_judge_10 kV_X12_154 rfl ck_13 rfl (Nat.le_of_ble_eq_true rfl) ⟨Nat.le_of_ble_eq_true rfl, Nat.le_of_ble_eq_true rfl⟩ ⟨Nat.le_of_ble_eq_true rfl, Nat.le_of_ble_eq_true rfl⟩ (fun rh15 vh15 ah15 h15 => ?_)
    obtain ⟨f15, rfl, fn10, bn10, ex10⟩ := h15
    refine hv3 (fp0.call fn10 rfl rfl) (show RWS ah15 from RWS.fr hW fn10 rfl) (show f15 = -1 from ex10) (fun fq10 pw8 gf15 => ?_)
    refine m_st (st2 := [.int (iI f15)]) rfl ?_
    exact m_iret C dX12_judge_13 rfl (Nat.le_of_ble_eq_true rfl) (Nat.le_of_ble_eq_true rfl) ⟨f15, rfl, fq10, bn10, pw8⟩
set_option maxHeartbeats 4000000 in
set_option maxRecDepth 100000 in
theorem N_parts {l : Launch} {G : GT} {h0 : Nat} {ad ln : Nat → Nat} {v : Nat → Int} {a : Nat → Nat → Int}  {t x y : Int} (hB : BX v a) (hT : TBL v a) (hW : RWS a) (ht : -2147483648 ≤ t ∧ t ≤ 2147483647) (hx : -2147483648 ≤ x ∧ x ≤ 2147483647) (hy : -2147483648 ≤ y ∧ y ≤ 2147483647) : Mm l G yX12_parts cX12_parts 5 (some .int) 36 [.int (iI t), .int (iI x), .int (iI y)] h0 ad ln v a 0 0 (fun r v2 a2 => ∃ f : Int, r = some (.int (iI f)) ∧ fr [0, 1] [44, 45, 46, 47] v a v2 a2 ∧ BX v2 a2 ∧ (RWS a2)) := by
  refine Mm.mk (by decide) (Nat.le_of_ble_eq_true rfl) ?_
  intro p e s m args below meth c A C
  refine hv2 (show 0 ≤ v 4 ∧ v 4 ≤ 30 from hB.1 4) (show fr [0, 1] [44, 45, 46, 47] v a v a from fr.refl) (fun h30 fp0 => ?_)
  refine m_aload_n (j := 0) C dX12_parts_0 rfl ?_
  refine m_iload_n (j := 1) C dX12_parts_1 rfl ?_
  have rv1 : 0 ≤ v 4 ∧ v 4 ≤ 30 := hB.1 4
  refine m_call (mc2 := 0) (ms2 := 0) (As := [.int (iI t)]) (rest := []) C (M_isWhole (t := t) hB (hT.fr fp0 rfl rfl) (by show -2147483648 ≤ t ∧ t ≤ 2147483647; omega)) dX12_parts_2 kV_X12_171 rfl ck_13 rfl (Nat.le_of_ble_eq_true rfl) ⟨Nat.le_of_ble_eq_true rfl, Nat.le_of_ble_eq_true rfl⟩ ⟨Nat.le_of_ble_eq_true rfl, Nat.le_of_ble_eq_true rfl⟩ (fun rh1 vh1 ah1 h1 => ?_)
  obtain ⟨f1, rfl, fn1, bn1, ex1⟩ := h1
  obtain ⟨rfl, rfl⟩ := fn1.eq
  have gf1 : f1 = 0 ∨ (f1 = 1 ∧ 0 ≤ t ∧ t < (v 4)) := ex1
  refine m_st (st2 := [.int (iI f1)]) rfl ?_
  refine m_if_ne (tgt := 14) C (r32_0p gf1) dX12_parts_5 (by decide) (fun c1 => ?_) (fun c1 => ?_)
  · replace gf1 := (gf1.resolve_left c1)
    refine m_aload_n (j := 0) C dX12_parts_14 rfl ?_
    refine m_iload_n (j := 1) C dX12_parts_15 rfl ?_
    refine m_call (mc2 := 0) (ms2 := 0) (As := [.int (iI t)]) (rest := []) C (M_gather (t := t) hB hW (hT.fr fp0 rfl rfl) (by show 0 ≤ t ∧ t < (v 4); omega)) dX12_parts_16 kV_X12_354 rfl ck_13 rfl (Nat.le_of_ble_eq_true rfl) ⟨Nat.le_of_ble_eq_true rfl, Nat.le_of_ble_eq_true rfl⟩ ⟨Nat.le_of_ble_eq_true rfl, Nat.le_of_ble_eq_true rfl⟩ (fun rh2 vh2 ah2 h2 => ?_)
    obtain ⟨rfl, fn2, bn2, ex2⟩ := h2
    refine hv2 (fp0.call fn2 rfl rfl) (ex2) (fun fq2 pw1 => ?_)
    refine m_st (st2 := []) rfl ?_
    refine m_iload_n (j := 2) C dX12_parts_19 rfl ?_
    refine m_iconst C dX12_parts_20 ?_
    refine m_aload_n (j := 0) C dX12_parts_21 rfl ?_
    refine m_geta (k := 47) C dX12_parts_22 w6_106 (by decide) rfl ?_
    refine m_iconst C dX12_parts_25 ?_
    refine m_ald (k := 47) C dX12_parts_26 rfl rfl (by decide) (by decide) (by decide) (by decide) ?_
    have ra1 : 0 ≤ ah2 47 0 ∧ ah2 47 0 ≤ 6008 := bn2.2 47 (0)
    refine m_st (st2 := [.int (iI (ah2 47 0)), .int (iI 0), .int (iI x)]) rfl ?_
    refine m_iconst C dX12_parts_27 ?_
    refine m_isub C dX12_parts_28 ?_
    refine m_callS (As := [.int (iI x), .int (iI 0), .int (iI ((ah2 47 0) - 1))]) (rest := []) C (fun L E => s_isIn (iI x) (iI 0) (iI ((ah2 47 0) - 1))) dX12_parts_29 kS_X12_174 rfl rfl (Nat.le_of_ble_eq_true rfl) ⟨Nat.le_of_ble_eq_true rfl, Nat.le_of_ble_eq_true rfl⟩ ⟨Nat.le_of_ble_eq_true rfl, Nat.le_of_ble_eq_true rfl⟩ ?_
    rcases inn_c (x := x) (lo := 0) (hi := (ah2 47 0) - 1) ⟨by omega, by omega⟩ ⟨by decide, by decide⟩ ⟨by omega, by omega⟩ with ⟨h3a, h3b, h3e⟩ | ⟨h3a, h3e⟩
    · refine m_st (st2 := [.int (iI 1)]) (by rw [h3e]) ?_
      refine m_if_eq (tgt := 51) C ⟨by decide, by decide⟩ dX12_parts_32 (by decide) (fun z => absurd z (by omega)) (fun _ => ?_)
      refine m_iload_n (j := 3) C dX12_parts_35 rfl ?_
      refine m_iconst C dX12_parts_36 ?_
      refine m_aload_n (j := 0) C dX12_parts_37 rfl ?_
      refine m_geta (k := 47) C dX12_parts_38 w6_106 (by decide) rfl ?_
      refine m_iconst C dX12_parts_41 ?_
      refine m_ald (k := 47) C dX12_parts_42 rfl rfl (by decide) (by decide) (by decide) (by decide) ?_
      refine m_st (st2 := [.int (iI (ah2 47 0)), .int (iI 0), .int (iI y)]) rfl ?_
      refine m_iconst C dX12_parts_43 ?_
      refine m_isub C dX12_parts_44 ?_
      refine m_callS (As := [.int (iI y), .int (iI 0), .int (iI ((ah2 47 0) - 1))]) (rest := []) C (fun L E => s_isIn (iI y) (iI 0) (iI ((ah2 47 0) - 1))) dX12_parts_45 kS_X12_174 rfl rfl (Nat.le_of_ble_eq_true rfl) ⟨Nat.le_of_ble_eq_true rfl, Nat.le_of_ble_eq_true rfl⟩ ⟨Nat.le_of_ble_eq_true rfl, Nat.le_of_ble_eq_true rfl⟩ ?_
      rcases inn_c (x := y) (lo := 0) (hi := (ah2 47 0) - 1) ⟨by omega, by omega⟩ ⟨by decide, by decide⟩ ⟨by omega, by omega⟩ with ⟨h4a, h4b, h4e⟩ | ⟨h4a, h4e⟩
      · refine m_st (st2 := [.int (iI 1)]) (by rw [h4e]) ?_
        refine m_if_ne (tgt := 57) C ⟨by decide, by decide⟩ dX12_parts_48 (by decide) (fun _ => ?_) (fun z => absurd z (by omega))
        refine m_aload_n (j := 0) C dX12_parts_57 rfl ?_
        refine m_iload_n (j := 2) C dX12_parts_58 rfl ?_
        refine m_iload_n (j := 3) C dX12_parts_59 rfl ?_
        refine m_call (mc2 := 0) (ms2 := 0) (As := [.int (iI x), .int (iI y)]) (rest := []) C (M_alike (x := x) (y := y) bn2.rg ((pw1 0 (Or.inl rfl)).2 (x) (by omega) (by show x < 6008 * 0 + ah2 47 0; omega)) ((pw1 0 (Or.inl rfl)).2 (y) (by omega) (by show y < 6008 * 0 + ah2 47 0; omega))) dX12_parts_60 kV_X12_404 rfl ck_13 rfl (Nat.le_of_ble_eq_true rfl) ⟨Nat.le_of_ble_eq_true rfl, Nat.le_of_ble_eq_true rfl⟩ ⟨Nat.le_of_ble_eq_true rfl, Nat.le_of_ble_eq_true rfl⟩ (fun rh5 vh5 ah5 h5 => ?_)
        obtain ⟨f3, rfl, hf3, rfl, rfl⟩ := h5
        refine hv3 (show 0 ≤ f3 ∧ f3 ≤ ah2 46 x.toNat ∧ f3 ≤ ah2 46 y.toNat from hf3) (show 0 ≤ ah2 46 x.toNat ∧ ah2 46 x.toNat ≤ 4 from bn2.2 46 (x.toNat)) (show 0 ≤ ah2 46 y.toNat ∧ ah2 46 y.toNat ≤ 4 from bn2.2 46 (y.toNat)) (fun gf3 ra2 ra3 => ?_)
        refine m_st (st2 := [.int (iI f3)]) rfl ?_
        refine m_istore (lv2 := [(4, .int (iI f3)), (0, .ref h0), (1, .int (iI t)), (2, .int (iI x)), (3, .int (iI y))]) C dX12_parts_63 (by decide) rfl ?_
        refine m_aload_n (j := 1) C dX12_parts_65 rfl ?_
        refine m_iload (j := 0) C dX12_parts_66 rfl ?_
        refine m_aload_n (j := 1) C dX12_parts_68 rfl ?_
        refine m_geta (k := 46) C dX12_parts_69 w6_105 (by decide) rfl ?_
        refine m_iload_n (j := 3) C dX12_parts_72 rfl ?_
        refine m_ald (k := 46) C dX12_parts_73 rfl rfl (by decide) (by omega) (by show _ < ((_ : Nat) : Int); simp only [mlen]; omega) (by decide) ?_
        refine m_icmp_eq (tgt := 88) C ⟨by omega, by omega⟩ (r32_c (lo := 0) (hi := 4) ra2.1 ra2.2 (by decide) (by decide)) dX12_parts_74 (by decide) (fun c2 => ?_) (fun c2 => ?_)
        · refine m_iconst C dX12_parts_88 ?_
          refine m_iload (j := 0) C dX12_parts_89 rfl ?_
          refine m_isub C dX12_parts_91 ?_
          refine m_goto (tgt := 97) C dX12_parts_92 (by decide) ?_
          refine m_call (mc2 := 0) (ms2 := 0) (As := [.int (iI ((-1) - f3))]) (rest := []) C (B_fine (x := (-1) - f3) bn2 (by show -2147483648 ≤ ((-1) - f3) ∧ ((-1) - f3) ≤ 2147483647; omega)) dX12_parts_97 kV_X12_158 rfl ck_13 rfl (Nat.le_of_ble_eq_true rfl) ⟨Nat.le_of_ble_eq_true rfl, Nat.le_of_ble_eq_true rfl⟩ ⟨Nat.le_of_ble_eq_true rfl, Nat.le_of_ble_eq_true rfl⟩ (fun rh6 vh6 ah6 h6 => ?_)
          obtain ⟨f4, rfl, fn3, bn3, ex3⟩ := h6
          refine hv3 (fq2.call fn3 rfl rfl) (show RWS ah6 from RWS.fr pw1 fn3 rfl) (show f4 = ((-1) - f3) from ex3) (fun fq3 pw2 gf4 => ?_)
          refine m_st (st2 := [.int (iI f4)]) rfl ?_
          exact m_iret C dX12_parts_100 rfl (Nat.le_of_ble_eq_true rfl) (Nat.le_of_ble_eq_true rfl) ⟨f4, rfl, fq3, bn3, pw2⟩
        · refine m_iload (j := 0) C dX12_parts_77 rfl ?_
          refine m_aload_n (j := 1) C dX12_parts_79 rfl ?_
          refine m_geta (k := 46) C dX12_parts_80 w6_105 (by decide) rfl ?_
          refine m_iload_n (j := 4) C dX12_parts_83 rfl ?_
          refine m_ald (k := 46) C dX12_parts_84 rfl rfl (by decide) (by omega) (by show _ < ((_ : Nat) : Int); simp only [mlen]; omega) (by decide) ?_
          refine m_icmp_ne (tgt := 95) C ⟨by omega, by omega⟩ (r32_c (lo := 0) (hi := 4) ra3.1 ra3.2 (by decide) (by decide)) dX12_parts_85 (by decide) (fun c3 => ?_) (fun c3 => ?_)
          · refine m_iload (j := 0) C dX12_parts_95 rfl ?_
            refine m_call (mc2 := 0) (ms2 := 0) (As := [.int (iI f3)]) (rest := []) C (B_fine (x := f3) bn2 (by show -2147483648 ≤ f3 ∧ f3 ≤ 2147483647; omega)) dX12_parts_97 kV_X12_158 rfl ck_13 rfl (Nat.le_of_ble_eq_true rfl) ⟨Nat.le_of_ble_eq_true rfl, Nat.le_of_ble_eq_true rfl⟩ ⟨Nat.le_of_ble_eq_true rfl, Nat.le_of_ble_eq_true rfl⟩ (fun rh7 vh7 ah7 h7 => ?_)
            obtain ⟨f5, rfl, fn4, bn4, ex4⟩ := h7
            refine hv3 (fq2.call fn4 rfl rfl) (show RWS ah7 from RWS.fr pw1 fn4 rfl) (show f5 = f3 from ex4) (fun fq4 pw3 gf5 => ?_)
            refine m_st (st2 := [.int (iI f5)]) rfl ?_
            exact m_iret C dX12_parts_100 rfl (Nat.le_of_ble_eq_true rfl) (Nat.le_of_ble_eq_true rfl) ⟨f5, rfl, fq4, bn4, pw3⟩
          · refine m_iconst C dX12_parts_88 ?_
            refine m_iload (j := 0) C dX12_parts_89 rfl ?_
            refine m_isub C dX12_parts_91 ?_
            refine m_goto (tgt := 97) C dX12_parts_92 (by decide) ?_
            refine m_call (mc2 := 0) (ms2 := 0) (As := [.int (iI ((-1) - f3))]) (rest := []) C (B_fine (x := (-1) - f3) bn2 (by show -2147483648 ≤ ((-1) - f3) ∧ ((-1) - f3) ≤ 2147483647; omega)) dX12_parts_97 kV_X12_158 rfl ck_13 rfl (Nat.le_of_ble_eq_true rfl) ⟨Nat.le_of_ble_eq_true rfl, Nat.le_of_ble_eq_true rfl⟩ ⟨Nat.le_of_ble_eq_true rfl, Nat.le_of_ble_eq_true rfl⟩ (fun rh8 vh8 ah8 h8 => ?_)
            obtain ⟨f6, rfl, fn5, bn5, ex5⟩ := h8
            refine hv3 (fq2.call fn5 rfl rfl) (show RWS ah8 from RWS.fr pw1 fn5 rfl) (show f6 = ((-1) - f3) from ex5) (fun fq5 pw4 gf6 => ?_)
            refine m_st (st2 := [.int (iI f6)]) rfl ?_
            exact m_iret C dX12_parts_100 rfl (Nat.le_of_ble_eq_true rfl) (Nat.le_of_ble_eq_true rfl) ⟨f6, rfl, fq5, bn5, pw4⟩
      · refine m_st (st2 := [.int (iI 0)]) (by rw [h4e]) ?_
        refine m_if_ne (tgt := 57) C ⟨by decide, by decide⟩ dX12_parts_48 (by decide) (fun z => absurd z (by omega)) (fun _ => ?_)
        refine m_aload_n (j := 0) C dX12_parts_51 rfl ?_
        refine m_iconst C dX12_parts_52 ?_
        refine m_call (mc2 := 0) (ms2 := 0) (As := [.int (iI 2)]) (rest := []) C (B_bad (x := 2) bn2 (by show -2147483648 ≤ (2 : Int) ∧ (2 : Int) ≤ 2147483647; omega)) dX12_parts_53 kV_X12_154 rfl ck_13 rfl (Nat.le_of_ble_eq_true rfl) ⟨Nat.le_of_ble_eq_true rfl, Nat.le_of_ble_eq_true rfl⟩ ⟨Nat.le_of_ble_eq_true rfl, Nat.le_of_ble_eq_true rfl⟩ (fun rh9 vh9 ah9 h9 => ?_)
        obtain ⟨f7, rfl, fn6, bn6, ex6⟩ := h9
        refine hv3 (fq2.call fn6 rfl rfl) (show RWS ah9 from RWS.fr pw1 fn6 rfl) (show f7 = -1 from ex6) (fun fq6 pw5 gf7 => ?_)
        refine m_st (st2 := [.int (iI f7)]) rfl ?_
        exact m_iret C dX12_parts_56 rfl (Nat.le_of_ble_eq_true rfl) (Nat.le_of_ble_eq_true rfl) ⟨f7, rfl, fq6, bn6, pw5⟩
    · refine m_st (st2 := [.int (iI 0)]) (by rw [h3e]) ?_
      refine m_if_eq (tgt := 51) C ⟨by decide, by decide⟩ dX12_parts_32 (by decide) (fun _ => ?_) (fun z => absurd z (by omega))
      refine m_aload_n (j := 0) C dX12_parts_51 rfl ?_
      refine m_iconst C dX12_parts_52 ?_
      refine m_call (mc2 := 0) (ms2 := 0) (As := [.int (iI 2)]) (rest := []) C (B_bad (x := 2) bn2 (by show -2147483648 ≤ (2 : Int) ∧ (2 : Int) ≤ 2147483647; omega)) dX12_parts_53 kV_X12_154 rfl ck_13 rfl (Nat.le_of_ble_eq_true rfl) ⟨Nat.le_of_ble_eq_true rfl, Nat.le_of_ble_eq_true rfl⟩ ⟨Nat.le_of_ble_eq_true rfl, Nat.le_of_ble_eq_true rfl⟩ (fun rh10 vh10 ah10 h10 => ?_)
      obtain ⟨f8, rfl, fn7, bn7, ex7⟩ := h10
      refine hv3 (fq2.call fn7 rfl rfl) (show RWS ah10 from RWS.fr pw1 fn7 rfl) (show f8 = -1 from ex7) (fun fq7 pw6 gf8 => ?_)
      refine m_st (st2 := [.int (iI f8)]) rfl ?_
      exact m_iret C dX12_parts_56 rfl (Nat.le_of_ble_eq_true rfl) (Nat.le_of_ble_eq_true rfl) ⟨f8, rfl, fq7, bn7, pw6⟩
  · clear gf1
    refine m_aload_n (j := 0) C dX12_parts_8 rfl ?_
    refine m_iconst C dX12_parts_9 ?_
    refine m_call (mc2 := 0) (ms2 := 0) (As := [.int (iI 3)]) (rest := []) C (B_bad (x := 3) hB (by show -2147483648 ≤ (3 : Int) ∧ (3 : Int) ≤ 2147483647; omega)) dX12_parts_10 kV_X12_154 rfl ck_13 rfl (Nat.le_of_ble_eq_true rfl) ⟨Nat.le_of_ble_eq_true rfl, Nat.le_of_ble_eq_true rfl⟩ ⟨Nat.le_of_ble_eq_true rfl, Nat.le_of_ble_eq_true rfl⟩ (fun rh11 vh11 ah11 h11 => ?_)
    obtain ⟨f9, rfl, fn8, bn8, ex8⟩ := h11
    refine hv3 (fp0.call fn8 rfl rfl) (show RWS ah11 from RWS.fr hW fn8 rfl) (show f9 = -1 from ex8) (fun fq8 pw7 gf9 => ?_)
    refine m_st (st2 := [.int (iI f9)]) rfl ?_
    exact m_iret C dX12_parts_13 rfl (Nat.le_of_ble_eq_true rfl) (Nat.le_of_ble_eq_true rfl) ⟨f9, rfl, fq8, bn8, pw7⟩
end
section
def fdv (m : Int32) (d x : Int) : Int32 := if x = 0 then m &&& ((iI 1 <<< (iI d &&& 31)) ^^^ iI (-1)) else m ||| (iI 1 <<< (iI d &&& 31))
set_option maxHeartbeats 4000000 in
set_option maxRecDepth 100000 in
theorem N_failed {l : Launch} {G : GT} {h0 : Nat} {ad ln : Nat → Nat} {v : Nat → Int} {a : Nat → Nat → Int}  {x g : Int} (hB : BX v a) (hx : -2147483648 ≤ x ∧ x ≤ 2147483647) (hg : g = 0 ∨ g = 1) : Mm l G yX12_failed cX12_failed 3 (some .int) 1 [.int (iI x), .int (iI g)] h0 ad ln v a 0 0 (fun r v2 a2 => ∃ f : Int, r = some (.int (iI f)) ∧ fr [0, 1, 56] [] v a v2 a2 ∧ BX v2 a2 ∧ (((x < 0 ∨ 7 < x) ∧ f = -1 ∧ v2 56 = v 56) ∨ (0 ≤ x ∧ x ≤ 7 ∧ iI (v2 56) = fdv (iI (v 56)) x g ∧ iI f = bcn (iI (v2 56))))) := by
  refine Mm.mk (by decide) (Nat.le_of_ble_eq_true rfl) ?_
  intro p e s m args below meth c A C
  have fp0 : fr [0, 1, 56] [] v a v a := fr.refl
  refine m_iload_n (j := 1) C dX12_failed_0 rfl ?_
  refine m_iconst C dX12_failed_1 ?_
  refine m_bipush (z := 7) C dX12_failed_2 (by decide) ?_
  refine m_callS (As := [.int (iI x), .int (iI 0), .int (iI 7)]) (rest := []) C (fun L E => s_isIn (iI x) (iI 0) (iI 7)) dX12_failed_4 kS_X12_174 rfl rfl (Nat.le_of_ble_eq_true rfl) ⟨Nat.le_of_ble_eq_true rfl, Nat.le_of_ble_eq_true rfl⟩ ⟨Nat.le_of_ble_eq_true rfl, Nat.le_of_ble_eq_true rfl⟩ ?_
  rcases inn_c (x := x) (lo := 0) (hi := 7) ⟨by omega, by omega⟩ ⟨by decide, by decide⟩ ⟨by decide, by decide⟩ with ⟨h1a, h1b, h1e⟩ | ⟨h1a, h1e⟩
  · refine m_st (st2 := [.int (iI 1)]) (by rw [h1e]) ?_
    refine m_if_ne (tgt := 17) C ⟨by decide, by decide⟩ dX12_failed_7 (by decide) (fun _ => ?_) (fun z => absurd z (by omega))
    refine m_aload_n (j := 0) C dX12_failed_17 rfl ?_
    refine m_iload_n (j := 2) C dX12_failed_18 rfl ?_
    refine m_if_eq (tgt := 33) C ⟨by omega, by omega⟩ dX12_failed_19 (by decide) (fun c1 => ?_) (fun c1 => ?_)
    · refine m_aload_n (j := 0) C dX12_failed_33 rfl ?_
      have rv1 : (-2147483648) ≤ v 56 ∧ v 56 ≤ 2147483647 := hB.1 56
      refine m_get (k := 56) C dX12_failed_34 w6_115 (by decide) rfl ?_
      refine m_iconst C dX12_failed_37 ?_
      refine m_iload_n (j := 1) C dX12_failed_38 rfl ?_
      obtain ⟨zz1, hzz1, ezz1⟩ := iI_of (iI 1 <<< (iI x &&& 31))
      refine m_ishl (w := iI zz1) C dX12_failed_39 ezz1 ?_
      refine m_iconst C dX12_failed_40 ?_
      obtain ⟨zz2, hzz2, ezz2⟩ := iI_of (iI zz1 ^^^ iI (-1))
      refine m_ixor (w := iI zz2) C dX12_failed_41 ezz2 ?_
      obtain ⟨zz3, hzz3, ezz3⟩ := iI_of (iI (v 56) &&& iI zz2)
      refine m_iand (w := iI zz3) C dX12_failed_42 ezz3 ?_
      refine m_put (k := 56) (z := zz3) C dX12_failed_43 w6_115 (by decide) rfl rfl rfl ?_
      refine hv2 (show BX (va_up v 56 zz3) a from hB.put (k := 56) (z := zz3) (show (-2147483648) ≤ zz3 ∧ zz3 ≤ 2147483647 by omega)) (fp0.put (k := 56) (z := zz3) rfl) (fun bq1 fq1 => ?_)
      refine m_aload_n (j := 0) C dX12_failed_46 rfl ?_
      refine m_aload_n (j := 0) C dX12_failed_47 rfl ?_
      refine m_get (k := 56) C dX12_failed_48 w6_115 (by decide) rfl ?_
      refine m_st (st2 := [.int (iI zz3), .ref h0]) rfl ?_
      refine m_callS (As := [.int (iI zz3)]) (rest := [.ref h0]) C (fun L E => s_bitCount (iI zz3)) dX12_failed_51 kS_X12_309 rfl rfl (Nat.le_of_ble_eq_true rfl) ⟨Nat.le_of_ble_eq_true rfl, Nat.le_of_ble_eq_true rfl⟩ ⟨Nat.le_of_ble_eq_true rfl, Nat.le_of_ble_eq_true rfl⟩ ?_
      obtain ⟨zz4, hzz4, ezz4⟩ := iI_of (bcn (iI zz3))
      · refine m_st (st2 := [.int (iI zz4), .ref h0]) (by rw [ezz4]) ?_
        refine m_call (mc2 := 0) (ms2 := 0) (As := [.int (iI zz4)]) (rest := []) C (B_fine (x := zz4) bq1 (by show -2147483648 ≤ zz4 ∧ zz4 ≤ 2147483647; omega)) dX12_failed_54 kV_X12_158 rfl ck_13 rfl (Nat.le_of_ble_eq_true rfl) ⟨Nat.le_of_ble_eq_true rfl, Nat.le_of_ble_eq_true rfl⟩ ⟨Nat.le_of_ble_eq_true rfl, Nat.le_of_ble_eq_true rfl⟩ (fun rh3 vh3 ah3 h3 => ?_)
        obtain ⟨f1, rfl, fn1, bn1, ex1⟩ := h3
        refine hv2 (fq1.call fn1 rfl rfl) (show f1 = zz4 from ex1) (fun fq2 gf1 => ?_)
        refine m_st (st2 := [.int (iI f1)]) rfl ?_
        refine hv2 (show (-2147483648) ≤ vh3 56 ∧ vh3 56 ≤ 2147483647 from bn1.1 56) (show vh3 56 = zz3 from fn1.1 56 rfl) (fun rv2 ve1 => ?_)
        exact m_iret C dX12_failed_57 rfl (Nat.le_of_ble_eq_true rfl) (Nat.le_of_ble_eq_true rfl) ⟨f1, rfl, fq2, bn1, (Or.inr ⟨by omega, by omega, by rw [show vh3 56 = zz3 by omega]; unfold fdv; rw [if_pos (show g = 0 by omega), ← ezz3, ← ezz2, ← ezz1], by rw [show f1 = zz4 by omega, ← ezz4]; exact congrArg (fun q => bcn (iI q)) (by omega)⟩)⟩
    · refine m_aload_n (j := 0) C dX12_failed_22 rfl ?_
      have rv3 : (-2147483648) ≤ v 56 ∧ v 56 ≤ 2147483647 := hB.1 56
      refine m_get (k := 56) C dX12_failed_23 w6_115 (by decide) rfl ?_
      refine m_iconst C dX12_failed_26 ?_
      refine m_iload_n (j := 1) C dX12_failed_27 rfl ?_
      obtain ⟨zz5, hzz5, ezz5⟩ := iI_of (iI 1 <<< (iI x &&& 31))
      refine m_ishl (w := iI zz5) C dX12_failed_28 ezz5 ?_
      obtain ⟨zz6, hzz6, ezz6⟩ := iI_of (iI (v 56) ||| iI zz5)
      refine m_ior (w := iI zz6) C dX12_failed_29 ezz6 ?_
      refine m_goto (tgt := 43) C dX12_failed_30 (by decide) ?_
      refine m_put (k := 56) (z := zz6) C dX12_failed_43 w6_115 (by decide) rfl rfl rfl ?_
      refine hv2 (show BX (va_up v 56 zz6) a from hB.put (k := 56) (z := zz6) (show (-2147483648) ≤ zz6 ∧ zz6 ≤ 2147483647 by omega)) (fp0.put (k := 56) (z := zz6) rfl) (fun bq2 fq3 => ?_)
      refine m_aload_n (j := 0) C dX12_failed_46 rfl ?_
      refine m_aload_n (j := 0) C dX12_failed_47 rfl ?_
      refine m_get (k := 56) C dX12_failed_48 w6_115 (by decide) rfl ?_
      refine m_st (st2 := [.int (iI zz6), .ref h0]) rfl ?_
      refine m_callS (As := [.int (iI zz6)]) (rest := [.ref h0]) C (fun L E => s_bitCount (iI zz6)) dX12_failed_51 kS_X12_309 rfl rfl (Nat.le_of_ble_eq_true rfl) ⟨Nat.le_of_ble_eq_true rfl, Nat.le_of_ble_eq_true rfl⟩ ⟨Nat.le_of_ble_eq_true rfl, Nat.le_of_ble_eq_true rfl⟩ ?_
      obtain ⟨zz7, hzz7, ezz7⟩ := iI_of (bcn (iI zz6))
      · refine m_st (st2 := [.int (iI zz7), .ref h0]) (by rw [ezz7]) ?_
        refine m_call (mc2 := 0) (ms2 := 0) (As := [.int (iI zz7)]) (rest := []) C (B_fine (x := zz7) bq2 (by show -2147483648 ≤ zz7 ∧ zz7 ≤ 2147483647; omega)) dX12_failed_54 kV_X12_158 rfl ck_13 rfl (Nat.le_of_ble_eq_true rfl) ⟨Nat.le_of_ble_eq_true rfl, Nat.le_of_ble_eq_true rfl⟩ ⟨Nat.le_of_ble_eq_true rfl, Nat.le_of_ble_eq_true rfl⟩ (fun rh5 vh5 ah5 h5 => ?_)
        obtain ⟨f2, rfl, fn2, bn2, ex2⟩ := h5
        refine hv2 (fq3.call fn2 rfl rfl) (show f2 = zz7 from ex2) (fun fq4 gf2 => ?_)
        refine m_st (st2 := [.int (iI f2)]) rfl ?_
        refine hv2 (show (-2147483648) ≤ vh5 56 ∧ vh5 56 ≤ 2147483647 from bn2.1 56) (show vh5 56 = zz6 from fn2.1 56 rfl) (fun rv4 ve2 => ?_)
        exact m_iret C dX12_failed_57 rfl (Nat.le_of_ble_eq_true rfl) (Nat.le_of_ble_eq_true rfl) ⟨f2, rfl, fq4, bn2, (Or.inr ⟨by omega, by omega, by rw [show vh5 56 = zz6 by omega]; unfold fdv; rw [if_neg (show ¬ g = 0 by omega), ← ezz6, ← ezz5], by rw [show f2 = zz7 by omega, ← ezz7]; exact congrArg (fun q => bcn (iI q)) (by omega)⟩)⟩
  · refine m_st (st2 := [.int (iI 0)]) (by rw [h1e]) ?_
    refine m_if_ne (tgt := 17) C ⟨by decide, by decide⟩ dX12_failed_7 (by decide) (fun z => absurd z (by omega)) (fun _ => ?_)
    refine m_aload_n (j := 0) C dX12_failed_10 rfl ?_
    refine m_bipush (z := 6) C dX12_failed_11 (by decide) ?_
    refine m_call (mc2 := 0) (ms2 := 0) (As := [.int (iI 6)]) (rest := []) C (B_bad (x := 6) hB (by show -2147483648 ≤ (6 : Int) ∧ (6 : Int) ≤ 2147483647; omega)) dX12_failed_13 kV_X12_154 rfl ck_13 rfl (Nat.le_of_ble_eq_true rfl) ⟨Nat.le_of_ble_eq_true rfl, Nat.le_of_ble_eq_true rfl⟩ ⟨Nat.le_of_ble_eq_true rfl, Nat.le_of_ble_eq_true rfl⟩ (fun rh6 vh6 ah6 h6 => ?_)
    obtain ⟨f3, rfl, fn3, bn3, ex3⟩ := h6
    refine hv2 (fp0.call fn3 rfl rfl) (show f3 = -1 from ex3) (fun fq5 gf3 => ?_)
    refine m_st (st2 := [.int (iI f3)]) rfl ?_
    refine hv2 (show (-2147483648) ≤ vh6 56 ∧ vh6 56 ≤ 2147483647 from bn3.1 56) (show vh6 56 = v 56 from fn3.1 56 rfl) (fun rv5 ve3 => ?_)
    exact m_iret C dX12_failed_16 rfl (Nat.le_of_ble_eq_true rfl) (Nat.le_of_ble_eq_true rfl) ⟨f3, rfl, fq5, bn3, (Or.inl ⟨by omega, by omega, by omega⟩)⟩
end
section
def rng : Nat → Int → List Int
  | 0, _ => []
  | n + 1, x => x :: rng n (x + 1)
def rwl (r b : Nat → Int) : Nat → Int → List Int
  | 0, _ => []
  | n + 1, t => if 0 ≤ t then rng (r t.toNat).toNat (200 * t) ++ rwl r b n (b t.toNat) else []
def upc (r b : Nat → Int) : Nat → Int → Prop
  | 0, _ => True
  | n + 1, t => 0 ≤ t → r t.toNat = 1 ∧ upc r b n (b t.toNat)
def whl (v : Nat → Int) (a : Nat → Nat → Int) : Nat → Int → Prop
  | 0, _ => False
  | n + 1, t => (0 ≤ t ∧ t < v 4 ∧ a 5 t.toNat = 1) ∧ (a 6 t.toNat = 5 → whl v a n (a 8 t.toNat) ∧ whl v a n (a 9 t.toNat)) ∧ (1 ≤ a 6 t.toNat → a 6 t.toNat ≤ 3 → whl v a n (a 8 t.toNat))
def RWL (a : Nat → Nat → Int) (t : Int) : List Int := rwl (a 10) (a 8) 31 t
def UPC (a : Nat → Nat → Int) (t : Int) : Prop := upc (a 5) (a 8) 31 t
def WHL (v : Nat → Int) (a : Nat → Nat → Int) (t : Int) : Prop := whl v a 31 t
def WHE (f : Int) (v : Nat → Int) (a : Nat → Nat → Int) (n : Nat) (t : Int) : Prop := f = 1 ↔ whl v a n t
def indl (a : Nat → Nat → Int) (I : Int) : List Int := if 0 < a 16 I.toNat then [-1 - I] else []
def rws1 (a : Nat → Nat → Int) (t : Int) : List Int := (RWL a t ++ indl a (4 * t + 0)) ++ indl a (4 * t + 1)
def gat0 (a : Nat → Nat → Int) (t : Int) : List Int := if a 6 t.toNat = 5 then rws1 a (a 8 t.toNat) ++ indl a (4 * t + 2) else rws1 a t
def gat1 (a : Nat → Nat → Int) (t : Int) : List Int := if a 6 t.toNat = 5 then rws1 a (a 9 t.toNat) ++ indl a (4 * t + 3) else []
def rent (a a2 : Nat → Nat → Int) (r d : Int) : Prop := (0 ≤ d → a2 44 r.toNat = d ∧ a2 45 r.toNat = 4 * d ∧ a2 46 r.toNat = a 13 d.toNat) ∧ (d < 0 → a2 44 r.toNat = -1 - (-1 - d) % 4 ∧ a2 45 r.toNat = 4 * (-1 - d) ∧ a2 46 r.toNat = a 16 (-1 - d).toNat)
def HLD (a a2 : Nat → Nat → Int) (q : Int) (l : List Int) : Prop := a2 47 q.toNat = (l.length : Int) ∧ l.length ≤ 6008 ∧ ∀ (r : Nat) (d : Int), l[r]? = some d → rent a a2 (6008 * q + (r : Int)) d
def ADDR (a : Nat → Nat → Int) (q x y z : Int) : Nat → Nat → Int := up2 (up2 (up2 (up2 a 44 (6008 * q + a 47 q.toNat).toNat x) 45 (6008 * q + a 47 q.toNat).toNat y) 46 (6008 * q + a 47 q.toNat).toNat z) 47 q.toNat (a 47 q.toNat + 1)
def ADI (a a2 : Nat → Nat → Int) (q t w : Int) : Prop := (0 < a 16 (4 * t + w).toNat ∧ a2 = ADDR a q (-1 - w) (4 * (4 * t + w)) (a 16 (4 * t + w).toNat)) ∨ (a 16 (4 * t + w).toNat ≤ 0 ∧ a2 = a)
def OTH (a a1 a2 : Nat → Nat → Int) (q : Int) : Prop := ∀ (q2 : Int) (l : List Int), (q2 = 0 ∨ q2 = 1) → q2 ≠ q → HLD a a1 q2 l → HLD a a2 q2 l
def ARX (a a2 : Nat → Nat → Int) (q t : Int) : Prop := HLD a a2 q (rws1 a t) ∧ OTH a a a2 q
def HX (a a2 : Nat → Nat → Int) (q t b : Int) : Prop := ∃ l, HLD a a2 q l ∧ l ++ RWL a b = RWL a t ∧ OTH a a a2 q
def HY (a a2 : Nat → Nat → Int) (q t b r : Int) : Prop := ∃ l, HLD a a2 q l ∧ l ++ (rng (200 * b + a 10 b.toNat - r).toNat r ++ RWL a (a 8 b.toNat)) = RWL a t ∧ OTH a a a2 q
def GAT (a a2 : Nat → Nat → Int) (t : Int) : Prop := HLD a a2 0 (gat0 a t) ∧ HLD a a2 1 (gat1 a t)
def rlen (a : Nat → Nat → Int) (d : Int) : Int := if 0 ≤ d then a 13 d.toNat else a 16 (-1 - d).toNat
def dcl (a : Nat → Nat → Int) (d k : Int) : Int := if 0 ≤ d then a 15 (4 * d + k).toNat else a 17 (4 * (-1 - d) + k).toNat
def rcl (a : Nat → Nat → Int) (r k : Int) : Int := if 0 ≤ a 44 r.toNat then a 15 (a 45 r.toNat + k).toNat else a 17 (a 45 r.toNat + k).toNat
section GATS
variable {v v2 : Nat → Int} {a a1 a2 a3 a4 : Nat → Nat → Int} {q x y z t b r d e w f f1 f2 k : Int} {n : Nat} {l : List Int}
theorem rwl_s {r b : Nat → Int} (n : Nat) (t : Int) : rwl r b (n + 1) t = if 0 ≤ t then rng (r t.toNat).toNat (200 * t) ++ rwl r b n (b t.toNat) else [] := rfl
theorem upc_s {r b : Nat → Int} (n : Nat) (t : Int) : upc r b (n + 1) t = (0 ≤ t → r t.toNat = 1 ∧ upc r b n (b t.toNat)) := rfl
theorem rwl_fuel {r b : Nat → Int} {V : Int} (hb : ∀ t : Int, 0 ≤ t → t < V → b t.toNat < t) : ∀ (n m : Nat) (t : Int), t < V → t < (n : Int) → t < (m : Int) → rwl r b n t = rwl r b m t := by
  intro n
  induction n with
  | zero =>
    intro m t h1 h2 h3
    cases m with
    | zero => rfl
    | succ m => rw [rwl_s, if_neg (by omega)]; rfl
  | succ n ih =>
    intro m t h1 h2 h3
    cases m with
    | zero => rw [rwl_s, if_neg (by omega)]; rfl
    | succ m =>
      rw [rwl_s, rwl_s]
      by_cases h : 0 ≤ t
      · have h4 := hb t h h1
        rw [if_pos h, if_pos h, ih m (b t.toNat) (by omega) (by omega) (by omega)]
      · rw [if_neg h, if_neg h]
theorem upc_fuel {r b : Nat → Int} {V : Int} (hb : ∀ t : Int, 0 ≤ t → t < V → b t.toNat < t) : ∀ (n m : Nat) (t : Int), t < V → t < (n : Int) → t < (m : Int) → (upc r b n t ↔ upc r b m t) := by
  intro n
  induction n with
  | zero =>
    intro m t h1 h2 h3
    cases m with
    | zero => exact Iff.rfl
    | succ m => rw [upc_s]; exact ⟨fun _ h => absurd h (by omega), fun _ => trivial⟩
  | succ n ih =>
    intro m t h1 h2 h3
    cases m with
    | zero => rw [upc_s]; exact ⟨fun _ => trivial, fun _ h => absurd h (by omega)⟩
    | succ m =>
      rw [upc_s, upc_s]
      refine ⟨fun h h0 => ?_, fun h h0 => ?_⟩
      · have h4 := hb t h0 h1
        exact ⟨(h h0).1, (ih m (b t.toNat) (by omega) (by omega) (by omega)).mp (h h0).2⟩
      · have h4 := hb t h0 h1
        exact ⟨(h h0).1, (ih m (b t.toNat) (by omega) (by omega) (by omega)).mpr (h h0).2⟩
theorem TBL.b8 (h : TBL v a) : ∀ t : Int, 0 ≤ t → t < v 4 → a 8 t.toNat < t := fun t h1 h2 => by
  have := h.1 t h1 h2
  omega
theorem RWL.s (h : TBL v a) (h30 : v 4 ≤ 30) (h0 : 0 ≤ t) (h4 : t < v 4) : RWL a t = rng (a 10 t.toNat).toNat (200 * t) ++ RWL a (a 8 t.toNat) := by
  have h8 := h.b8 t h0 h4
  have e := rwl_fuel (r := a 10) h.b8 30 31 (a 8 t.toNat) (by omega) (by omega) (by omega)
  show rwl (a 10) (a 8) 31 t = rng (a 10 t.toNat).toNat (200 * t) ++ rwl (a 10) (a 8) 31 (a 8 t.toNat)
  rw [← e]; exact (rwl_s 30 t).trans (if_pos h0)
theorem RWL.neg0 (h0 : t < 0) : RWL a t = [] := (rwl_s 30 t).trans (if_neg (by omega))
theorem UPC.s (h : TBL v a) (h30 : v 4 ≤ 30) (h0 : 0 ≤ t) (h4 : t < v 4) : UPC a t ↔ (a 5 t.toNat = 1 ∧ UPC a (a 8 t.toNat)) := by
  have h8 := h.b8 t h0 h4
  have e := upc_fuel (r := a 5) h.b8 30 31 (a 8 t.toNat) (by omega) (by omega) (by omega)
  show upc (a 5) (a 8) (30 + 1) t ↔ (a 5 t.toNat = 1 ∧ upc (a 5) (a 8) 31 (a 8 t.toNat))
  rw [← e, upc_s]
  exact ⟨fun h => h h0, fun h _ => h⟩
theorem UPC.neg0 (h0 : t < 0) : UPC a t := fun h => absurd h (by omega)
theorem whl_up (h : TBL v a) (h30 : v 4 ≤ 30) : ∀ (n : Nat) (t : Int), 0 ≤ t → t < v 4 → t < (n : Int) → a 6 t.toNat ≤ 4 → (whl v a n t ↔ UPC a t) := by
  intro n
  induction n with
  | zero => intro t h0 h4 hn; omega
  | succ n ih =>
    intro t h0 h4 hn h6
    have ht := h.1 t h0 h4
    rw [UPC.s h h30 h0 h4]
    show ((0 ≤ t ∧ t < v 4 ∧ a 5 t.toNat = 1) ∧ (a 6 t.toNat = 5 → whl v a n (a 8 t.toNat) ∧ whl v a n (a 9 t.toNat)) ∧ (1 ≤ a 6 t.toNat → a 6 t.toNat ≤ 3 → whl v a n (a 8 t.toNat))) ↔ _
    rcases ht with ⟨k1, k2⟩ | ⟨k1, k2, k3, k4, k5⟩ | ⟨k1, k2⟩
    · refine ⟨fun g => ⟨g.1.2.2, UPC.neg0 (by omega)⟩, fun g => ⟨⟨h0, h4, g.1⟩, fun e => absurd e (by omega), fun e1 e2 => absurd e1 (by omega)⟩⟩
    · have g1 := ih (a 8 t.toNat) k3 (by omega) (by omega) (by omega)
      exact ⟨fun g => ⟨g.1.2.2, g1.mp (g.2.2 k1 k2)⟩, fun g => ⟨⟨h0, h4, g.1⟩, fun e => absurd e (by omega), fun _ _ => g1.mpr g.2⟩⟩
    · exfalso; omega
theorem WHL.p (h : TBL v a) (h30 : v 4 ≤ 30) (h0 : 0 ≤ t) (h4 : t < v 4) (h6 : a 6 t.toNat ≠ 5) : WHL v a t ↔ UPC a t := by
  have ht := h.1 t h0 h4
  exact whl_up h h30 31 t h0 h4 (by omega) (by omega)
theorem WHL.j (h : TBL v a) (h30 : v 4 ≤ 30) (h0 : 0 ≤ t) (h4 : t < v 4) (h6 : a 6 t.toNat = 5) : WHL v a t ↔ (UPC a t ∧ UPC a (a 9 t.toNat)) := by
  have ht := h.1 t h0 h4
  rcases ht with ⟨k1, k2⟩ | ⟨k1, k2, k3, k4, k5⟩ | ⟨k1, k2, k3, k4, k5, k6, k7⟩
  · exfalso; omega
  · exfalso; omega
  · have g1 := whl_up h h30 30 (a 8 t.toNat) k2 (by omega) (by omega) (by omega)
    have g2 := whl_up h h30 30 (a 9 t.toNat) k5 (by omega) (by omega) (by omega)
    rw [UPC.s h h30 h0 h4]
    show ((0 ≤ t ∧ t < v 4 ∧ a 5 t.toNat = 1) ∧ (a 6 t.toNat = 5 → whl v a 30 (a 8 t.toNat) ∧ whl v a 30 (a 9 t.toNat)) ∧ (1 ≤ a 6 t.toNat → a 6 t.toNat ≤ 3 → whl v a 30 (a 8 t.toNat))) ↔ _
    exact ⟨fun g => ⟨⟨g.1.2.2, g1.mp (g.2.1 h6).1⟩, g2.mp (g.2.1 h6).2⟩, fun g => ⟨⟨h0, h4, g.1.1⟩, fun _ => ⟨g1.mpr g.1.2, g2.mpr g.2⟩, fun _ e => absurd e (by omega)⟩⟩
theorem WHL.tr (h : WHL v a t) : 0 ≤ t ∧ t < v 4 ∧ a 5 t.toNat = 1 := h.1
theorem WHE.no0 (h : ¬ (0 ≤ t ∧ t < v 4 ∧ a 5 t.toNat = 1)) : WHE 0 v a (n + 1) t := ⟨fun q => absurd q (by decide), fun q => absurd q.1 h⟩
theorem WHE.j11 (ht : 0 ≤ t ∧ t < v 4 ∧ a 5 t.toNat = 1) (h6 : a 6 t.toNat = 5) (h1 : WHE f1 v a n (a 8 t.toNat)) (h2 : WHE f2 v a n (a 9 t.toNat)) (e1 : f1 = 1) (e2 : f2 = 1) : WHE 1 v a (n + 1) t := ⟨fun _ => ⟨ht, fun _ => ⟨h1.mp e1, h2.mp e2⟩, fun _ q => absurd q (by omega)⟩, fun _ => rfl⟩
theorem WHE.j0 (h6 : a 6 t.toNat = 5) (h1 : WHE f1 v a n (a 8 t.toNat)) (e1 : f1 ≠ 1) : WHE 0 v a (n + 1) t := ⟨fun q => absurd q (by decide), fun q => absurd (h1.mpr (q.2.1 h6).1) e1⟩
theorem WHE.j10 (h6 : a 6 t.toNat = 5) (h2 : WHE f2 v a n (a 9 t.toNat)) (e2 : f2 ≠ 1) : WHE 0 v a (n + 1) t := ⟨fun q => absurd q (by decide), fun q => absurd (h2.mpr (q.2.1 h6).2) e2⟩
theorem WHE.p (ht : 0 ≤ t ∧ t < v 4 ∧ a 5 t.toNat = 1) (h6 : a 6 t.toNat < 1 ∨ a 6 t.toNat = 4) : WHE 1 v a (n + 1) t := ⟨fun _ => ⟨ht, fun q => absurd q (by omega), fun q1 q2 => absurd q1 (by omega)⟩, fun _ => rfl⟩
theorem WHE.b1 (ht : 0 ≤ t ∧ t < v 4 ∧ a 5 t.toNat = 1) (h6 : 1 ≤ a 6 t.toNat ∧ a 6 t.toNat ≤ 3) (h1 : WHE f1 v a n (a 8 t.toNat)) (e1 : f1 = 1) : WHE 1 v a (n + 1) t := ⟨fun _ => ⟨ht, fun q => absurd q (by omega), fun _ _ => h1.mp e1⟩, fun _ => rfl⟩
theorem WHE.b0 (h6 : 1 ≤ a 6 t.toNat ∧ a 6 t.toNat ≤ 3) (h1 : WHE f1 v a n (a 8 t.toNat)) (e1 : f1 ≠ 1) : WHE 0 v a (n + 1) t := ⟨fun q => absurd q (by decide), fun q => absurd (h1.mpr (q.2.2 h6.1 h6.2)) e1⟩
theorem rng_z (h : r ≤ x) : rng (r - x).toNat x = [] := by rw [show (r - x).toNat = 0 by omega]; rfl
theorem rng_c (h : x < r) : rng (r - x).toNat x = x :: rng (r - (x + 1)).toNat (x + 1) := by rw [show (r - x).toNat = (r - (x + 1)).toNat + 1 by omega]; rfl
theorem add47 (j : Nat) : ADDR a q x y z 47 j = if j = q.toNat then a 47 q.toNat + 1 else a 47 j := by
  unfold ADDR
  by_cases e : j = q.toNat
  · subst e; rw [up2_s, if_pos rfl]
  · rw [up2_ne (Or.inr e), if_neg e, up2_ne (Or.inl (by decide)), up2_ne (Or.inl (by decide)), up2_ne (Or.inl (by decide))]
theorem add44 (j : Nat) : ADDR a q x y z 44 j = if j = (6008 * q + a 47 q.toNat).toNat then x else a 44 j := by
  unfold ADDR
  rw [up2_ne (Or.inl (by decide)), up2_ne (Or.inl (by decide)), up2_ne (Or.inl (by decide))]
  by_cases e : j = (6008 * q + a 47 q.toNat).toNat
  · subst e; rw [up2_s, if_pos rfl]
  · rw [up2_ne (Or.inr e), if_neg e]
theorem add45 (j : Nat) : ADDR a q x y z 45 j = if j = (6008 * q + a 47 q.toNat).toNat then y else a 45 j := by
  unfold ADDR
  rw [up2_ne (Or.inl (by decide)), up2_ne (Or.inl (by decide))]
  by_cases e : j = (6008 * q + a 47 q.toNat).toNat
  · subst e; rw [up2_s, if_pos rfl]
  · rw [up2_ne (Or.inr e), if_neg e, up2_ne (Or.inl (by decide))]
theorem add46 (j : Nat) : ADDR a q x y z 46 j = if j = (6008 * q + a 47 q.toNat).toNat then z else a 46 j := by
  unfold ADDR
  rw [up2_ne (Or.inl (by decide))]
  by_cases e : j = (6008 * q + a 47 q.toNat).toNat
  · subst e; rw [up2_s, if_pos rfl]
  · rw [up2_ne (Or.inr e), if_neg e, up2_ne (Or.inl (by decide)), up2_ne (Or.inl (by decide))]
theorem gl_lt {r : Nat} (h : l[r]? = some d) : r < l.length := by
  by_cases e : r < l.length
  · exact e
  · rw [List.getElem?_eq_none (by omega)] at h; cases h
theorem HLD.nil (h : a2 47 q.toNat = 0) : HLD a a2 q [] := ⟨h, by decide, fun r d e => by simp at e⟩
theorem HLD.fr (h : HLD a a2 q l) (h4 : a3 44 = a2 44) (h5 : a3 45 = a2 45) (h6 : a3 46 = a2 46) (h7 : a3 47 q.toNat = a2 47 q.toNat) : HLD a a3 q l := by
  unfold HLD rent at h ⊢
  rw [h4, h5, h6, h7]; exact h
theorem HLD.cg (h : HLD a a2 q l) (h4 : a1 13 = a 13) (h5 : a1 16 = a 16) : HLD a1 a2 q l := by
  unfold HLD rent at h ⊢
  rw [h4, h5]; exact h
theorem HLD.snoc (h : HLD a a2 q l) (hq : q = 0 ∨ q = 1) (hn : a2 47 q.toNat < 6008) (h1 : 0 ≤ d → x = d ∧ y = 4 * d ∧ z = a 13 d.toNat) (h2 : d < 0 → x = -1 - (-1 - d) % 4 ∧ y = 4 * (-1 - d) ∧ z = a 16 (-1 - d).toNat) : HLD a (ADDR a2 q x y z) q (l ++ [d]) := by
  obtain ⟨g1, g2, g3⟩ := h
  refine ⟨?_, ?_, fun r e he => ?_⟩
  · have e0 : (l ++ [d]).length = l.length + 1 := by rw [List.length_append]; rfl
    rw [add47, if_pos rfl]; omega
  · rw [List.length_append]
    show l.length + 1 ≤ 6008
    omega
  · have lt := gl_lt he
    rw [List.length_append] at lt
    have lt2 : r < l.length + 1 := lt
    unfold rent
    rw [add44, add45, add46]
    by_cases e1 : r < l.length
    · rw [List.getElem?_append_left e1] at he
      have ne : ¬ (6008 * q + (r : Int)).toNat = (6008 * q + a2 47 q.toNat).toNat := by omega
      rw [if_neg ne, if_neg ne, if_neg ne]
      exact g3 r e he
    · rw [List.getElem?_append_right (by omega), show r - l.length = 0 by omega] at he
      cases he
      rw [if_pos (by omega), if_pos (by omega), if_pos (by omega)]
      exact ⟨h1, h2⟩
theorem HLD.oth {q2 : Int} (h : HLD a a2 q2 l) (hq : q = 0 ∨ q = 1) (hq2 : q2 = 0 ∨ q2 = 1) (ne : q2 ≠ q) (hn : 0 ≤ a2 47 q.toNat ∧ a2 47 q.toNat < 6008) : HLD a (ADDR a2 q x y z) q2 l := by
  obtain ⟨g1, g2, g3⟩ := h
  refine ⟨by rw [add47, if_neg (by omega)]; exact g1, g2, fun r e he => ?_⟩
  have lt := gl_lt he
  have ne : ¬ (6008 * q2 + (r : Int)).toNat = (6008 * q + a2 47 q.toNat).toNat := by omega
  unfold rent
  rw [add44, add45, add46, if_neg ne, if_neg ne, if_neg ne]
  exact g3 r e he
theorem OTH.refl : OTH a a1 a1 q := fun _ _ _ _ h => h
theorem OTH.add (h : OTH a a1 a2 q) (hq : q = 0 ∨ q = 1) (hn : 0 ≤ a2 47 q.toNat ∧ a2 47 q.toNat < 6008) : OTH a a1 (ADDR a2 q x y z) q := fun q2 l h1 h2 h3 => (h q2 l h1 h2 h3).oth hq h1 h2 hn
theorem OTH.ind (h : OTH a a1 a2 q) (hA : ADI a2 a3 q t w) (hq : q = 0 ∨ q = 1) (hn : 0 ≤ a2 47 q.toNat ∧ a2 47 q.toNat < 6008) : OTH a a1 a3 q := by
  rcases hA with ⟨_, e⟩ | ⟨_, e⟩
  · rw [e]; exact h.add hq hn
  · rw [e]; exact h
theorem HLD.ind (h : HLD a a2 q l) (hA : ADI a2 a3 q t w) (h16 : a2 16 = a 16) (hq : q = 0 ∨ q = 1) (hn : a2 47 q.toNat < 6008) (ht : 0 ≤ t) (hw : 0 ≤ w ∧ w ≤ 3) : HLD a a3 q (l ++ indl a (4 * t + w)) := by
  unfold indl
  rw [← h16]
  rcases hA with ⟨g, e⟩ | ⟨g, e⟩
  · rw [e, if_pos g]
    refine h.snoc hq hn (fun q => absurd q (by omega)) (fun _ => ⟨by omega, by omega, ?_⟩)
    rw [h16, show -1 - (-1 - (4 * t + w)) = 4 * t + w by omega]
  · rw [e, if_neg (by omega), List.append_nil]; exact h
theorem HX.init (h7 : ∀ q2 : Int, (q2 = 0 ∨ q2 = 1) → q2 ≠ q → a2 47 q2.toNat = a 47 q2.toNat) (h : a2 47 q.toNat = 0) (h4 : a2 44 = a 44) (h5 : a2 45 = a 45) (h6 : a2 46 = a 46) : HX a a2 q t t := ⟨[], HLD.nil h, rfl, fun q2 l e1 e2 g => g.fr h4 h5 h6 (h7 q2 e1 e2)⟩
theorem HX.start (h : HX a a2 q t b) (hT : TBL v a) (h30 : v 4 ≤ 30) (h0 : 0 ≤ b) (h4 : b < v 4) (h10 : 0 ≤ a 10 b.toNat) : HY a a2 q t b (200 * b) := by
  obtain ⟨l, g1, g2, g3⟩ := h
  refine ⟨l, g1, ?_, g3⟩
  rw [RWL.s hT h30 h0 h4] at g2
  rw [show 200 * b + a 10 b.toNat - 200 * b = a 10 b.toNat by omega]
  exact g2
theorem HY.step (h : HY a a2 q t b r) (hq : q = 0 ∨ q = 1) (hr : r < 200 * b + a 10 b.toNat) (h0 : 0 ≤ r) (hn : 0 ≤ a2 47 q.toNat ∧ a2 47 q.toNat < 6008) : HY a (ADDR a2 q r (4 * r) (a 13 r.toNat)) q t b (r + 1) := by
  obtain ⟨l, g1, g2, g3⟩ := h
  refine ⟨l ++ [r], g1.snoc hq hn.2 (fun _ => ⟨rfl, rfl, rfl⟩) (fun e => absurd e (by omega)), ?_, g3.add hq hn⟩
  rw [rng_c hr] at g2
  rw [List.append_assoc]
  exact g2
theorem HY.fin (h : HY a a2 q t b r) (hr : 200 * b + a 10 b.toNat ≤ r) : HX a a2 q t (a 8 b.toNat) := by
  obtain ⟨l, g1, g2, g3⟩ := h
  refine ⟨l, g1, ?_, g3⟩
  rw [rng_z hr] at g2
  exact g2
theorem HX.fin (h : HX a a1 q t b) (hb : b < 0) (t1 : ADI a1 a2 q t 0) (t2 : ADI a2 a3 q t 1) (f1 : a1 16 = a 16) (f2 : a2 16 = a 16) (hq : q = 0 ∨ q = 1) (n1 : 0 ≤ a1 47 q.toNat ∧ a1 47 q.toNat < 6008) (n2 : 0 ≤ a2 47 q.toNat ∧ a2 47 q.toNat < 6008) (ht : 0 ≤ t) : ARX a a3 q t := by
  obtain ⟨l, g1, g2, g3⟩ := h
  rw [RWL.neg0 hb, List.append_nil] at g2
  subst g2
  exact ⟨(g1.ind t1 f1 hq n1.2 ht ⟨by decide, by decide⟩).ind t2 f2 hq n2.2 ht ⟨by decide, by decide⟩, (g3.ind t1 hq n1).ind t2 hq n2⟩
theorem rws1.cg (h8 : a1 8 = a 8) (h10 : a1 10 = a 10) (h16 : a1 16 = a 16) : rws1 a1 t = rws1 a t := by
  unfold rws1 RWL indl
  rw [h8, h10, h16]
theorem GAT.mk0 (hk : a 6 t.toNat ≠ 5) (h1 : ARX a1 a2 0 t) (z1 : a1 47 1 = 0) (f8 : a1 8 = a 8) (f10 : a1 10 = a 10) (f13 : a1 13 = a 13) (f16 : a1 16 = a 16) : GAT a a2 t := by
  unfold GAT gat0 gat1
  rw [if_neg hk, if_neg hk]
  have e := h1.1
  rw [rws1.cg f8 f10 f16] at e
  exact ⟨e.cg f13.symm f16.symm, (h1.2 1 [] (by decide) (by decide) (HLD.nil z1)).cg f13.symm f16.symm⟩
theorem GAT.mk1 {b s : Int} (hk : a 6 t.toNat = 5) (hb : b = a 8 t.toNat) (hs : s = a 9 t.toNat) (h1 : ARX a1 a2 0 b) (i1 : ADI a2 a3 0 t 2) (h2 : ARX a3 a4 1 s) {a5 : Nat → Nat → Int} (i2 : ADI a4 a5 1 t 3) (f8 : a1 8 = a 8) (f10 : a1 10 = a 10) (f13 : a1 13 = a 13) (f16 : a1 16 = a 16) (e16 : a2 16 = a 16) (g8 : a3 8 = a 8) (g10 : a3 10 = a 10) (g13 : a3 13 = a 13) (g16 : a3 16 = a 16) (k16 : a4 16 = a 16) (n1 : 0 ≤ a2 47 0 ∧ a2 47 0 < 6008) (n2 : 0 ≤ a4 47 1 ∧ a4 47 1 < 6008) (ht : 0 ≤ t) : GAT a a5 t := by
  unfold GAT gat0 gat1
  rw [if_pos hk, if_pos hk, ← hb, ← hs]
  have e := h1.1
  rw [rws1.cg f8 f10 f16] at e
  refine hv2 ((e.cg f13.symm f16.symm).ind i1 e16 (Or.inl rfl) n1.2 ht ⟨by decide, by decide⟩) (h2.1) (fun e1 e3 => ?_)
  have e2 := h2.2 0 _ (Or.inl rfl) (by decide) (e1.cg g13 g16)
  rw [rws1.cg g8 g10 g16] at e3
  refine ⟨?_, (e3.cg g13.symm g16.symm).ind i2 k16 (Or.inr rfl) n2.2 ht ⟨by decide, by decide⟩⟩
  rcases i2 with ⟨_, w⟩ | ⟨_, w⟩
  · rw [w]; exact (e2.cg g13.symm g16.symm).oth (Or.inr rfl) (Or.inl rfl) (by decide) n2
  · rw [w]; exact e2.cg g13.symm g16.symm
theorem rent.rc1 {r d : Int} (h : rent a a2 r d) (h15 : a2 15 = a 15) (h17 : a2 17 = a 17) : a2 46 r.toNat = rlen a d ∧ ∀ k, rcl a2 r k = dcl a d k := by
  unfold rlen rcl dcl
  by_cases e : 0 ≤ d
  · obtain ⟨g1, g2, g3⟩ := h.1 e
    refine ⟨by rw [if_pos e]; exact g3, fun k => ?_⟩
    rw [if_pos e, if_pos (by omega), g2, h15]
  · obtain ⟨g1, g2, g3⟩ := h.2 (by omega)
    refine ⟨by rw [if_neg e]; exact g3, fun k => ?_⟩
    rw [if_neg e, if_neg (by omega), g2, h17]
end GATS
def WholeE (l : Launch) (G : GT) (h0 : Nat) (ad ln : Nat → Nat) (d n : Nat) (t : Int) : Prop := ∀ (v : Nat → Int) (a : Nat → Nat → Int), BX v a → TBL v a → Mm l G yX12_isWhole cX12_isWhole 2 (some .boolean) d [.int (iI t)] h0 ad ln v a 0 0 (fun r v2 a2 => ∃ f : Int, r = some (.int (iI f)) ∧ fr [] [] v a v2 a2 ∧ BX v2 a2 ∧ ((f = 0 ∨ (f = 1 ∧ 0 ≤ t ∧ t < v 4)) ∧ WHE f v a n t))
set_option maxHeartbeats 4000000 in
set_option maxRecDepth 100000 in
theorem E_isWhole1 {l : Launch} {G : GT} {h0 : Nat} {ad ln : Nat → Nat} {v : Nat → Int} {a : Nat → Nat → Int} {d n : Nat} {t : Int} (hB : BX v a) (hT : TBL v a) (ht : -2147483648 ≤ t ∧ t ≤ 2147483647) (hd : 3 ≤ d) (hf : ∀ b : Int, 0 ≤ b → b < t → WholeE l G h0 ad ln d n b) : Mm l G yX12_isWhole cX12_isWhole 2 (some .boolean) (d + 1) [.int (iI t)] h0 ad ln v a 0 0 (fun r v2 a2 => ∃ f : Int, r = some (.int (iI f)) ∧ fr [] [] v a v2 a2 ∧ BX v2 a2 ∧ ((f = 0 ∨ (f = 1 ∧ 0 ≤ t ∧ t < v 4)) ∧ WHE f v a (n + 1) t)) := by
  refine Mm.mk (by decide) (Nat.le_of_ble_eq_true rfl) ?_
  intro p e s m args below meth c A C
  refine hv2 (show 0 ≤ v 4 ∧ v 4 ≤ 30 from hB.1 4) (show fr [] [] v a v a from fr.refl) (fun h30 fp0 => ?_)
  refine m_aload_n (j := 0) C dX12_isWhole_0 rfl ?_
  refine m_iload_n (j := 1) C dX12_isWhole_1 rfl ?_
  have rv1 : 0 ≤ v 4 ∧ v 4 ≤ 30 := hB.1 4
  refine m_call (mc2 := 0) (ms2 := 0) (As := [.int (iI t)]) (rest := []) C (B_isTable (t := t) hB (by show -2147483648 ≤ t ∧ t ≤ 2147483647; omega)) dX12_isWhole_2 kV_X12_167 rfl ck_13 rfl (Nat.le_of_ble_eq_true rfl) ⟨by dsimp only [rmq]; omega, by dsimp only [rmq]; omega⟩ ⟨Nat.le_of_ble_eq_true rfl, Nat.le_of_ble_eq_true rfl⟩ (fun rh1 vh1 ah1 h1 => ?_)
  obtain ⟨f1, rfl, fn1, bn1, ex1⟩ := h1
  obtain ⟨rfl, rfl⟩ := fn1.eq
  refine hv2 (show (f1 = 0 ∧ (t < 0 ∨ (v 4) ≤ t ∨ a 5 t.toNat = 0)) ∨ (f1 = 1 ∧ 0 ≤ t ∧ t < (v 4) ∧ a 5 t.toNat = 1) from ex1) (show 0 ≤ a 5 t.toNat ∧ a 5 t.toNat ≤ 1 from hB.2 5 (t.toNat)) (fun gf1 ra1 => ?_)
  refine m_st (st2 := [.int (iI f1)]) rfl ?_
  refine m_if_ne (tgt := 10) C (r32_pq gf1) dX12_isWhole_5 (by decide) (fun c1 => ?_) (fun c1 => ?_)
  · replace gf1 := (gf1.resolve_left (fun q => c1 q.1))
    have ht0 := hT.1 t (by omega) (by omega)
    refine m_aload_n (j := 0) C dX12_isWhole_10 rfl ?_
    refine m_geta (k := 6) C dX12_isWhole_11 w6_65 (by decide) rfl ?_
    refine m_iload_n (j := 1) C dX12_isWhole_14 rfl ?_
    refine m_ald (k := 6) C dX12_isWhole_15 rfl rfl (by decide) (by omega) (by show _ < ((_ : Nat) : Int); simp only [mlen]; omega) (by decide) ?_
    have ra2 : 0 ≤ a 6 t.toNat ∧ a 6 t.toNat ≤ 5 := hB.2 6 (t.toNat)
    refine m_iconst C dX12_isWhole_16 ?_
    refine m_icmp_ne (tgt := 52) C (r32_c (lo := 0) (hi := 5) ra2.1 ra2.2 (by decide) (by decide)) ⟨by decide, by decide⟩ dX12_isWhole_17 (by decide) (fun c2 => ?_) (fun c2 => ?_)
    · refine m_aload_n (j := 0) C dX12_isWhole_52 rfl ?_
      refine m_geta (k := 6) C dX12_isWhole_53 w6_65 (by decide) rfl ?_
      refine m_iload_n (j := 1) C dX12_isWhole_56 rfl ?_
      refine m_ald (k := 6) C dX12_isWhole_57 rfl rfl (by decide) (by omega) (by show _ < ((_ : Nat) : Int); simp only [mlen]; omega) (by decide) ?_
      refine m_iconst C dX12_isWhole_58 ?_
      refine m_icmp_lt (tgt := 85) C (r32_c (lo := 0) (hi := 5) ra2.1 ra2.2 (by decide) (by decide)) ⟨by decide, by decide⟩ dX12_isWhole_59 (by decide) (fun c3 => ?_) (fun c3 => ?_)
      · refine m_iconst C dX12_isWhole_85 ?_
        refine m_goto (tgt := 90) C dX12_isWhole_86 (by decide) ?_
        exact m_zret C dX12_isWhole_90 rfl (Or.inr rfl) (Nat.le_of_ble_eq_true rfl) (Nat.le_of_ble_eq_true rfl) ⟨1, rfl, fp0, hB, ⟨by omega, WHE.p (by omega) (by omega)⟩⟩
      · refine m_aload_n (j := 0) C dX12_isWhole_62 rfl ?_
        refine m_geta (k := 6) C dX12_isWhole_63 w6_65 (by decide) rfl ?_
        refine m_iload_n (j := 1) C dX12_isWhole_66 rfl ?_
        refine m_ald (k := 6) C dX12_isWhole_67 rfl rfl (by decide) (by omega) (by show _ < ((_ : Nat) : Int); simp only [mlen]; omega) (by decide) ?_
        refine m_iconst C dX12_isWhole_68 ?_
        refine m_icmp_gt (tgt := 85) C (r32_c (lo := 0) (hi := 5) ra2.1 ra2.2 (by decide) (by decide)) ⟨by decide, by decide⟩ dX12_isWhole_69 (by decide) (fun c4 => ?_) (fun c4 => ?_)
        · refine m_iconst C dX12_isWhole_85 ?_
          refine m_goto (tgt := 90) C dX12_isWhole_86 (by decide) ?_
          exact m_zret C dX12_isWhole_90 rfl (Or.inr rfl) (Nat.le_of_ble_eq_true rfl) (Nat.le_of_ble_eq_true rfl) ⟨1, rfl, fp0, hB, ⟨by omega, WHE.p (by omega) (by omega)⟩⟩
        · refine m_aload_n (j := 0) C dX12_isWhole_72 rfl ?_
          refine m_aload_n (j := 0) C dX12_isWhole_73 rfl ?_
          refine m_geta (k := 8) C dX12_isWhole_74 w6_67 (by decide) rfl ?_
          refine m_iload_n (j := 1) C dX12_isWhole_77 rfl ?_
          refine m_ald (k := 8) C dX12_isWhole_78 rfl rfl (by decide) (by omega) (by show _ < ((_ : Nat) : Int); simp only [mlen]; omega) (by decide) ?_
          have ra3 : (-1) ≤ a 8 t.toNat ∧ a 8 t.toNat ≤ 29 := hB.2 8 (t.toNat)
          refine m_call (mc2 := 0) (ms2 := 0) (As := [.int (iI (a 8 t.toNat))]) (rest := []) C (hf (a 8 t.toNat) (by omega) (by omega) _ _ hB hT) dX12_isWhole_79 kV_X12_171 rfl ck_13 rfl (Nat.le_of_ble_eq_true rfl) ⟨by dsimp only [rmq]; omega, by dsimp only [rmq]; omega⟩ ⟨Nat.le_of_ble_eq_true rfl, Nat.le_of_ble_eq_true rfl⟩ (fun rh2 vh2 ah2 h2 => ?_)
          obtain ⟨f2, rfl, fn2, _, ef2, we1⟩ := h2
          obtain ⟨rfl, rfl⟩ := fn2.eq
          refine m_st (st2 := [.int (iI f2)]) rfl ?_
          refine m_if_eq (tgt := 89) C ⟨by omega, by omega⟩ dX12_isWhole_82 (by decide) (fun c5 => ?_) (fun c5 => ?_)
          · refine m_iconst C dX12_isWhole_89 ?_
            exact m_zret C dX12_isWhole_90 rfl (Or.inl rfl) (Nat.le_of_ble_eq_true rfl) (Nat.le_of_ble_eq_true rfl) ⟨0, rfl, fp0, hB, ⟨by omega, WHE.b0 (by omega) we1 (by omega)⟩⟩
          · refine m_iconst C dX12_isWhole_85 ?_
            refine m_goto (tgt := 90) C dX12_isWhole_86 (by decide) ?_
            exact m_zret C dX12_isWhole_90 rfl (Or.inr rfl) (Nat.le_of_ble_eq_true rfl) (Nat.le_of_ble_eq_true rfl) ⟨1, rfl, fp0, hB, ⟨by omega, WHE.b1 (by omega) (by omega) we1 (by omega)⟩⟩
    · refine m_aload_n (j := 0) C dX12_isWhole_20 rfl ?_
      refine m_aload_n (j := 0) C dX12_isWhole_21 rfl ?_
      refine m_geta (k := 8) C dX12_isWhole_22 w6_67 (by decide) rfl ?_
      refine m_iload_n (j := 1) C dX12_isWhole_25 rfl ?_
      refine m_ald (k := 8) C dX12_isWhole_26 rfl rfl (by decide) (by omega) (by show _ < ((_ : Nat) : Int); simp only [mlen]; omega) (by decide) ?_
      have ra4 : (-1) ≤ a 8 t.toNat ∧ a 8 t.toNat ≤ 29 := hB.2 8 (t.toNat)
      refine m_call (mc2 := 0) (ms2 := 0) (As := [.int (iI (a 8 t.toNat))]) (rest := []) C (hf (a 8 t.toNat) (by omega) (by omega) _ _ hB hT) dX12_isWhole_27 kV_X12_171 rfl ck_13 rfl (Nat.le_of_ble_eq_true rfl) ⟨by dsimp only [rmq]; omega, by dsimp only [rmq]; omega⟩ ⟨Nat.le_of_ble_eq_true rfl, Nat.le_of_ble_eq_true rfl⟩ (fun rh3 vh3 ah3 h3 => ?_)
      obtain ⟨f3, rfl, fn3, _, ef3, we2⟩ := h3
      obtain ⟨rfl, rfl⟩ := fn3.eq
      refine m_st (st2 := [.int (iI f3)]) rfl ?_
      refine m_if_eq (tgt := 50) C ⟨by omega, by omega⟩ dX12_isWhole_30 (by decide) (fun c6 => ?_) (fun c6 => ?_)
      · refine m_iconst C dX12_isWhole_50 ?_
        exact m_zret C dX12_isWhole_51 rfl (Or.inl rfl) (Nat.le_of_ble_eq_true rfl) (Nat.le_of_ble_eq_true rfl) ⟨0, rfl, fp0, hB, ⟨by omega, WHE.j0 (by omega) we2 (by omega)⟩⟩
      · refine m_aload_n (j := 0) C dX12_isWhole_33 rfl ?_
        refine m_aload_n (j := 0) C dX12_isWhole_34 rfl ?_
        refine m_geta (k := 9) C dX12_isWhole_35 w6_68 (by decide) rfl ?_
        refine m_iload_n (j := 1) C dX12_isWhole_38 rfl ?_
        refine m_ald (k := 9) C dX12_isWhole_39 rfl rfl (by decide) (by omega) (by show _ < ((_ : Nat) : Int); simp only [mlen]; omega) (by decide) ?_
        have ra5 : (-1) ≤ a 9 t.toNat ∧ a 9 t.toNat ≤ 29 := hB.2 9 (t.toNat)
        refine m_call (mc2 := 0) (ms2 := 0) (As := [.int (iI (a 9 t.toNat))]) (rest := []) C (hf (a 9 t.toNat) (by omega) (by omega) _ _ hB hT) dX12_isWhole_40 kV_X12_171 rfl ck_13 rfl (Nat.le_of_ble_eq_true rfl) ⟨by dsimp only [rmq]; omega, by dsimp only [rmq]; omega⟩ ⟨Nat.le_of_ble_eq_true rfl, Nat.le_of_ble_eq_true rfl⟩ (fun rh4 vh4 ah4 h4 => ?_)
        obtain ⟨f4, rfl, fn4, _, ef4, we3⟩ := h4
        obtain ⟨rfl, rfl⟩ := fn4.eq
        refine m_st (st2 := [.int (iI f4)]) rfl ?_
        refine m_if_eq (tgt := 50) C ⟨by omega, by omega⟩ dX12_isWhole_43 (by decide) (fun c7 => ?_) (fun c7 => ?_)
        · refine m_iconst C dX12_isWhole_50 ?_
          exact m_zret C dX12_isWhole_51 rfl (Or.inl rfl) (Nat.le_of_ble_eq_true rfl) (Nat.le_of_ble_eq_true rfl) ⟨0, rfl, fp0, hB, ⟨by omega, WHE.j10 (by omega) we3 (by omega)⟩⟩
        · refine m_iconst C dX12_isWhole_46 ?_
          refine m_goto (tgt := 51) C dX12_isWhole_47 (by decide) ?_
          exact m_zret C dX12_isWhole_51 rfl (Or.inr rfl) (Nat.le_of_ble_eq_true rfl) (Nat.le_of_ble_eq_true rfl) ⟨1, rfl, fp0, hB, ⟨by omega, WHE.j11 (by omega) (by omega) we2 we3 (by omega) (by omega)⟩⟩
  · replace gf1 := (gf1.resolve_right (fun q => absurd (q.1.symm.trans c1) (by decide)))
    refine m_iconst C dX12_isWhole_8 ?_
    exact m_zret C dX12_isWhole_9 rfl (Or.inl rfl) (Nat.le_of_ble_eq_true rfl) (Nat.le_of_ble_eq_true rfl) ⟨0, rfl, fp0, hB, ⟨by omega, WHE.no0 (by omega)⟩⟩
theorem E_isWholeN {l : Launch} {G : GT} {h0 : Nat} {ad ln : Nat → Nat} : ∀ (n : Nat) (t : Int), 0 ≤ t → t < (n : Int) → n ≤ 30 → WholeE l G h0 ad ln (n + 3) n t := by
  intro n
  induction n with
  | zero => intro t h1 h2; omega
  | succ n ih =>
    intro t h1 h2 h3 v a hB hT
    exact E_isWhole1 (d := n + 3) (n := n) hB hT ⟨by omega, by omega⟩ (by omega) (fun b hb hb2 => ih b hb (by omega) (by omega))
set_option maxHeartbeats 4000000 in
set_option maxRecDepth 100000 in
theorem E_isWhole {l : Launch} {G : GT} {h0 : Nat} {ad ln : Nat → Nat} {v : Nat → Int} {a : Nat → Nat → Int}  {t : Int} (hB : BX v a) (hT : TBL v a) (ht : -2147483648 ≤ t ∧ t ≤ 2147483647) : Mm l G yX12_isWhole cX12_isWhole 2 (some .boolean) 34 [.int (iI t)] h0 ad ln v a 0 0 (fun r v2 a2 => ∃ f : Int, r = some (.int (iI f)) ∧ fr [] [] v a v2 a2 ∧ BX v2 a2 ∧ ((f = 0 ∨ (f = 1 ∧ 0 ≤ t ∧ t < v 4)) ∧ WHE f v a 31 t)) := by
  refine Mm.mk (by decide) (Nat.le_of_ble_eq_true rfl) ?_
  intro p e s m args below meth c A C
  refine hv2 (show 0 ≤ v 4 ∧ v 4 ≤ 30 from hB.1 4) (show fr [] [] v a v a from fr.refl) (fun h30 fp0 => ?_)
  refine m_aload_n (j := 0) C dX12_isWhole_0 rfl ?_
  refine m_iload_n (j := 1) C dX12_isWhole_1 rfl ?_
  have rv1 : 0 ≤ v 4 ∧ v 4 ≤ 30 := hB.1 4
  refine m_call (mc2 := 0) (ms2 := 0) (As := [.int (iI t)]) (rest := []) C (B_isTable (t := t) hB (by show -2147483648 ≤ t ∧ t ≤ 2147483647; omega)) dX12_isWhole_2 kV_X12_167 rfl ck_13 rfl (Nat.le_of_ble_eq_true rfl) ⟨Nat.le_of_ble_eq_true rfl, Nat.le_of_ble_eq_true rfl⟩ ⟨Nat.le_of_ble_eq_true rfl, Nat.le_of_ble_eq_true rfl⟩ (fun rh1 vh1 ah1 h1 => ?_)
  obtain ⟨f1, rfl, fn1, bn1, ex1⟩ := h1
  obtain ⟨rfl, rfl⟩ := fn1.eq
  refine hv2 (show (f1 = 0 ∧ (t < 0 ∨ (v 4) ≤ t ∨ a 5 t.toNat = 0)) ∨ (f1 = 1 ∧ 0 ≤ t ∧ t < (v 4) ∧ a 5 t.toNat = 1) from ex1) (show 0 ≤ a 5 t.toNat ∧ a 5 t.toNat ≤ 1 from hB.2 5 (t.toNat)) (fun gf1 ra1 => ?_)
  refine m_st (st2 := [.int (iI f1)]) rfl ?_
  refine m_if_ne (tgt := 10) C (r32_pq gf1) dX12_isWhole_5 (by decide) (fun c1 => ?_) (fun c1 => ?_)
  · replace gf1 := (gf1.resolve_left (fun q => c1 q.1))
    have ht0 := hT.1 t (by omega) (by omega)
    refine m_aload_n (j := 0) C dX12_isWhole_10 rfl ?_
    refine m_geta (k := 6) C dX12_isWhole_11 w6_65 (by decide) rfl ?_
    refine m_iload_n (j := 1) C dX12_isWhole_14 rfl ?_
    refine m_ald (k := 6) C dX12_isWhole_15 rfl rfl (by decide) (by omega) (by show _ < ((_ : Nat) : Int); simp only [mlen]; omega) (by decide) ?_
    have ra2 : 0 ≤ a 6 t.toNat ∧ a 6 t.toNat ≤ 5 := hB.2 6 (t.toNat)
    refine m_iconst C dX12_isWhole_16 ?_
    refine m_icmp_ne (tgt := 52) C (r32_c (lo := 0) (hi := 5) ra2.1 ra2.2 (by decide) (by decide)) ⟨by decide, by decide⟩ dX12_isWhole_17 (by decide) (fun c2 => ?_) (fun c2 => ?_)
    · refine m_aload_n (j := 0) C dX12_isWhole_52 rfl ?_
      refine m_geta (k := 6) C dX12_isWhole_53 w6_65 (by decide) rfl ?_
      refine m_iload_n (j := 1) C dX12_isWhole_56 rfl ?_
      refine m_ald (k := 6) C dX12_isWhole_57 rfl rfl (by decide) (by omega) (by show _ < ((_ : Nat) : Int); simp only [mlen]; omega) (by decide) ?_
      refine m_iconst C dX12_isWhole_58 ?_
      refine m_icmp_lt (tgt := 85) C (r32_c (lo := 0) (hi := 5) ra2.1 ra2.2 (by decide) (by decide)) ⟨by decide, by decide⟩ dX12_isWhole_59 (by decide) (fun c3 => ?_) (fun c3 => ?_)
      · refine m_iconst C dX12_isWhole_85 ?_
        refine m_goto (tgt := 90) C dX12_isWhole_86 (by decide) ?_
        exact m_zret C dX12_isWhole_90 rfl (Or.inr rfl) (Nat.le_of_ble_eq_true rfl) (Nat.le_of_ble_eq_true rfl) ⟨1, rfl, fp0, hB, ⟨by omega, WHE.p (by omega) (by omega)⟩⟩
      · refine m_aload_n (j := 0) C dX12_isWhole_62 rfl ?_
        refine m_geta (k := 6) C dX12_isWhole_63 w6_65 (by decide) rfl ?_
        refine m_iload_n (j := 1) C dX12_isWhole_66 rfl ?_
        refine m_ald (k := 6) C dX12_isWhole_67 rfl rfl (by decide) (by omega) (by show _ < ((_ : Nat) : Int); simp only [mlen]; omega) (by decide) ?_
        refine m_iconst C dX12_isWhole_68 ?_
        refine m_icmp_gt (tgt := 85) C (r32_c (lo := 0) (hi := 5) ra2.1 ra2.2 (by decide) (by decide)) ⟨by decide, by decide⟩ dX12_isWhole_69 (by decide) (fun c4 => ?_) (fun c4 => ?_)
        · refine m_iconst C dX12_isWhole_85 ?_
          refine m_goto (tgt := 90) C dX12_isWhole_86 (by decide) ?_
          exact m_zret C dX12_isWhole_90 rfl (Or.inr rfl) (Nat.le_of_ble_eq_true rfl) (Nat.le_of_ble_eq_true rfl) ⟨1, rfl, fp0, hB, ⟨by omega, WHE.p (by omega) (by omega)⟩⟩
        · refine m_aload_n (j := 0) C dX12_isWhole_72 rfl ?_
          refine m_aload_n (j := 0) C dX12_isWhole_73 rfl ?_
          refine m_geta (k := 8) C dX12_isWhole_74 w6_67 (by decide) rfl ?_
          refine m_iload_n (j := 1) C dX12_isWhole_77 rfl ?_
          refine m_ald (k := 8) C dX12_isWhole_78 rfl rfl (by decide) (by omega) (by show _ < ((_ : Nat) : Int); simp only [mlen]; omega) (by decide) ?_
          have ra3 : (-1) ≤ a 8 t.toNat ∧ a 8 t.toNat ≤ 29 := hB.2 8 (t.toNat)
          refine m_call (mc2 := 0) (ms2 := 0) (As := [.int (iI (a 8 t.toNat))]) (rest := []) C ((E_isWholeN 30 (a 8 t.toNat) (by omega) (by omega) (Nat.le_refl _)) _ _ hB hT) dX12_isWhole_79 kV_X12_171 rfl ck_13 rfl (Nat.le_of_ble_eq_true rfl) ⟨Nat.le_of_ble_eq_true rfl, Nat.le_of_ble_eq_true rfl⟩ ⟨Nat.le_of_ble_eq_true rfl, Nat.le_of_ble_eq_true rfl⟩ (fun rh2 vh2 ah2 h2 => ?_)
          obtain ⟨f2, rfl, fn2, _, ef2, we1⟩ := h2
          obtain ⟨rfl, rfl⟩ := fn2.eq
          refine m_st (st2 := [.int (iI f2)]) rfl ?_
          refine m_if_eq (tgt := 89) C ⟨by omega, by omega⟩ dX12_isWhole_82 (by decide) (fun c5 => ?_) (fun c5 => ?_)
          · refine m_iconst C dX12_isWhole_89 ?_
            exact m_zret C dX12_isWhole_90 rfl (Or.inl rfl) (Nat.le_of_ble_eq_true rfl) (Nat.le_of_ble_eq_true rfl) ⟨0, rfl, fp0, hB, ⟨by omega, WHE.b0 (by omega) we1 (by omega)⟩⟩
          · refine m_iconst C dX12_isWhole_85 ?_
            refine m_goto (tgt := 90) C dX12_isWhole_86 (by decide) ?_
            exact m_zret C dX12_isWhole_90 rfl (Or.inr rfl) (Nat.le_of_ble_eq_true rfl) (Nat.le_of_ble_eq_true rfl) ⟨1, rfl, fp0, hB, ⟨by omega, WHE.b1 (by omega) (by omega) we1 (by omega)⟩⟩
    · refine m_aload_n (j := 0) C dX12_isWhole_20 rfl ?_
      refine m_aload_n (j := 0) C dX12_isWhole_21 rfl ?_
      refine m_geta (k := 8) C dX12_isWhole_22 w6_67 (by decide) rfl ?_
      refine m_iload_n (j := 1) C dX12_isWhole_25 rfl ?_
      refine m_ald (k := 8) C dX12_isWhole_26 rfl rfl (by decide) (by omega) (by show _ < ((_ : Nat) : Int); simp only [mlen]; omega) (by decide) ?_
      have ra4 : (-1) ≤ a 8 t.toNat ∧ a 8 t.toNat ≤ 29 := hB.2 8 (t.toNat)
      refine m_call (mc2 := 0) (ms2 := 0) (As := [.int (iI (a 8 t.toNat))]) (rest := []) C ((E_isWholeN 30 (a 8 t.toNat) (by omega) (by omega) (Nat.le_refl _)) _ _ hB hT) dX12_isWhole_27 kV_X12_171 rfl ck_13 rfl (Nat.le_of_ble_eq_true rfl) ⟨Nat.le_of_ble_eq_true rfl, Nat.le_of_ble_eq_true rfl⟩ ⟨Nat.le_of_ble_eq_true rfl, Nat.le_of_ble_eq_true rfl⟩ (fun rh3 vh3 ah3 h3 => ?_)
      obtain ⟨f3, rfl, fn3, _, ef3, we2⟩ := h3
      obtain ⟨rfl, rfl⟩ := fn3.eq
      refine m_st (st2 := [.int (iI f3)]) rfl ?_
      refine m_if_eq (tgt := 50) C ⟨by omega, by omega⟩ dX12_isWhole_30 (by decide) (fun c6 => ?_) (fun c6 => ?_)
      · refine m_iconst C dX12_isWhole_50 ?_
        exact m_zret C dX12_isWhole_51 rfl (Or.inl rfl) (Nat.le_of_ble_eq_true rfl) (Nat.le_of_ble_eq_true rfl) ⟨0, rfl, fp0, hB, ⟨by omega, WHE.j0 (by omega) we2 (by omega)⟩⟩
      · refine m_aload_n (j := 0) C dX12_isWhole_33 rfl ?_
        refine m_aload_n (j := 0) C dX12_isWhole_34 rfl ?_
        refine m_geta (k := 9) C dX12_isWhole_35 w6_68 (by decide) rfl ?_
        refine m_iload_n (j := 1) C dX12_isWhole_38 rfl ?_
        refine m_ald (k := 9) C dX12_isWhole_39 rfl rfl (by decide) (by omega) (by show _ < ((_ : Nat) : Int); simp only [mlen]; omega) (by decide) ?_
        have ra5 : (-1) ≤ a 9 t.toNat ∧ a 9 t.toNat ≤ 29 := hB.2 9 (t.toNat)
        refine m_call (mc2 := 0) (ms2 := 0) (As := [.int (iI (a 9 t.toNat))]) (rest := []) C ((E_isWholeN 30 (a 9 t.toNat) (by omega) (by omega) (Nat.le_refl _)) _ _ hB hT) dX12_isWhole_40 kV_X12_171 rfl ck_13 rfl (Nat.le_of_ble_eq_true rfl) ⟨Nat.le_of_ble_eq_true rfl, Nat.le_of_ble_eq_true rfl⟩ ⟨Nat.le_of_ble_eq_true rfl, Nat.le_of_ble_eq_true rfl⟩ (fun rh4 vh4 ah4 h4 => ?_)
        obtain ⟨f4, rfl, fn4, _, ef4, we3⟩ := h4
        obtain ⟨rfl, rfl⟩ := fn4.eq
        refine m_st (st2 := [.int (iI f4)]) rfl ?_
        refine m_if_eq (tgt := 50) C ⟨by omega, by omega⟩ dX12_isWhole_43 (by decide) (fun c7 => ?_) (fun c7 => ?_)
        · refine m_iconst C dX12_isWhole_50 ?_
          exact m_zret C dX12_isWhole_51 rfl (Or.inl rfl) (Nat.le_of_ble_eq_true rfl) (Nat.le_of_ble_eq_true rfl) ⟨0, rfl, fp0, hB, ⟨by omega, WHE.j10 (by omega) we3 (by omega)⟩⟩
        · refine m_iconst C dX12_isWhole_46 ?_
          refine m_goto (tgt := 51) C dX12_isWhole_47 (by decide) ?_
          exact m_zret C dX12_isWhole_51 rfl (Or.inr rfl) (Nat.le_of_ble_eq_true rfl) (Nat.le_of_ble_eq_true rfl) ⟨1, rfl, fp0, hB, ⟨by omega, WHE.j11 (by omega) (by omega) we2 we3 (by omega) (by omega)⟩⟩
  · replace gf1 := (gf1.resolve_right (fun q => absurd (q.1.symm.trans c1) (by decide)))
    refine m_iconst C dX12_isWhole_8 ?_
    exact m_zret C dX12_isWhole_9 rfl (Or.inl rfl) (Nat.le_of_ble_eq_true rfl) (Nat.le_of_ble_eq_true rfl) ⟨0, rfl, fp0, hB, ⟨by omega, WHE.no0 (by omega)⟩⟩
set_option maxHeartbeats 4000000 in
set_option maxRecDepth 100000 in
theorem E_addRow {l : Launch} {G : GT} {h0 : Nat} {ad ln : Nat → Nat} {v : Nat → Int} {a : Nat → Nat → Int}  {q x y z : Int} (hB : BX v a) (hW : RWS a) (hq : q = 0 ∨ q = 1) (h47 : a 47 q.toNat < 6008) (hx : -4 ≤ x ∧ x < 6000) (hz : 1 ≤ z ∧ z ≤ 4) (hy : 0 ≤ y) (h1 : 0 ≤ x → y + z ≤ 24000) (h2 : x < 0 → y + z ≤ 480) : Mm l G yX12_addRow cX12_addRow 6 none 0 [.int (iI q), .int (iI x), .int (iI y), .int (iI z)] h0 ad ln v a 0 0 (fun r v2 a2 => r = none ∧ fr [] [44, 45, 46, 47] v a v2 a2 ∧ BX v2 a2 ∧ (RWS a2 ∧ (a2 47 q.toNat = a 47 q.toNat + 1) ∧ a2 = ADDR a q x y z)) := by
  refine Mm.mk (by decide) (Nat.le_of_ble_eq_true rfl) ?_
  intro p e s m args below meth c A C
  refine hv2 (show 0 ≤ a 47 q.toNat ∧ a 47 q.toNat ≤ 6008 from hB.2 47 _) (show fr [] [44, 45, 46, 47] v a v a from fr.refl) (fun r47 fp0 => ?_)
  refine m_sipush (z := 6008) C dX12_addRow_0 (by decide) ?_
  refine m_iload_n (j := 1) C dX12_addRow_3 rfl ?_
  refine m_imul C dX12_addRow_4 ?_
  refine m_aload_n (j := 0) C dX12_addRow_5 rfl ?_
  refine m_geta (k := 47) C dX12_addRow_6 w6_106 (by decide) rfl ?_
  refine m_iload_n (j := 1) C dX12_addRow_9 rfl ?_
  refine m_ald (k := 47) C dX12_addRow_10 rfl rfl (by decide) (by omega) (by show _ < ((_ : Nat) : Int); simp only [mlen]; omega) (by decide) ?_
  have ra1 : 0 ≤ a 47 q.toNat ∧ a 47 q.toNat ≤ 6008 := hB.2 47 (q.toNat)
  refine m_iadd C dX12_addRow_11 ?_
  refine m_istore (lv2 := [(5, .int (iI ((6008 * q) + (a 47 q.toNat)))), (0, .ref h0), (1, .int (iI q)), (2, .int (iI x)), (3, .int (iI y)), (4, .int (iI z))]) C dX12_addRow_12 (by decide) rfl ?_
  refine m_aload_n (j := 1) C dX12_addRow_14 rfl ?_
  refine m_geta (k := 44) C dX12_addRow_15 w6_103 (by decide) rfl ?_
  refine m_iload (j := 0) C dX12_addRow_18 rfl ?_
  refine m_iload_n (j := 3) C dX12_addRow_20 rfl ?_
  refine m_ast (k := 44) C dX12_addRow_21 rfl rfl (by decide) (by omega) (by show _ < ((_ : Nat) : Int); simp only [mlen]; omega) (by decide) ?_
  refine hv2 (show BX v (up2 a 44 ((6008 * q) + (a 47 q.toNat)).toNat x) from hB.set (k := 44) (i := ((6008 * q) + (a 47 q.toNat)).toNat) (z := x) (show (-4) ≤ x ∧ x ≤ 5999 by omega)) (fp0.set (k := 44) (i := ((6008 * q) + (a 47 q.toNat)).toNat) (z := x) rfl) (fun bq1 fq1 => ?_)
  refine m_aload_n (j := 1) C dX12_addRow_22 rfl ?_
  refine m_geta (k := 45) C dX12_addRow_23 w6_104 (by decide) rfl ?_
  refine m_iload (j := 0) C dX12_addRow_26 rfl ?_
  refine m_iload_n (j := 4) C dX12_addRow_28 rfl ?_
  refine m_ast (k := 45) C dX12_addRow_29 rfl rfl (by decide) (by omega) (by show _ < ((_ : Nat) : Int); simp only [mlen]; omega) (by decide) ?_
  refine hv2 (show BX v (up2 (up2 a 44 ((6008 * q) + (a 47 q.toNat)).toNat x) 45 ((6008 * q) + (a 47 q.toNat)).toNat y) from bq1.set (k := 45) (i := ((6008 * q) + (a 47 q.toNat)).toNat) (z := y) (show 0 ≤ y ∧ y ≤ 23999 by omega)) (fq1.set (k := 45) (i := ((6008 * q) + (a 47 q.toNat)).toNat) (z := y) rfl) (fun bq2 fq2 => ?_)
  refine m_aload_n (j := 1) C dX12_addRow_30 rfl ?_
  refine m_geta (k := 46) C dX12_addRow_31 w6_105 (by decide) rfl ?_
  refine m_iload (j := 0) C dX12_addRow_34 rfl ?_
  refine m_iload (j := 5) C dX12_addRow_36 rfl ?_
  refine m_ast (k := 46) C dX12_addRow_38 rfl rfl (by decide) (by omega) (by show _ < ((_ : Nat) : Int); simp only [mlen]; omega) (by decide) ?_
  refine hv2 (show BX v (up2 (up2 (up2 a 44 ((6008 * q) + (a 47 q.toNat)).toNat x) 45 ((6008 * q) + (a 47 q.toNat)).toNat y) 46 ((6008 * q) + (a 47 q.toNat)).toNat z) from bq2.set (k := 46) (i := ((6008 * q) + (a 47 q.toNat)).toNat) (z := z) (show 0 ≤ z ∧ z ≤ 4 by omega)) (fq2.set (k := 46) (i := ((6008 * q) + (a 47 q.toNat)).toNat) (z := z) rfl) (fun bq3 fq3 => ?_)
  refine m_aload_n (j := 1) C dX12_addRow_39 rfl ?_
  refine m_geta (k := 47) C dX12_addRow_40 w6_106 (by decide) rfl ?_
  refine m_iload_n (j := 2) C dX12_addRow_43 rfl ?_
  refine m_dup2 C dX12_addRow_44 rfl rfl ?_
  refine m_ald (k := 47) C dX12_addRow_45 rfl rfl (by decide) (by omega) (by show _ < ((_ : Nat) : Int); simp only [mlen]; omega) (by decide) ?_
  refine m_st (st2 := [.int (iI (a 47 q.toNat)), .int (iI q), .ref (ad 47)]) rfl ?_
  refine m_iconst C dX12_addRow_46 ?_
  refine m_iadd C dX12_addRow_47 ?_
  refine m_ast (k := 47) C dX12_addRow_48 rfl rfl (by decide) (by omega) (by show _ < ((_ : Nat) : Int); simp only [mlen]; omega) (by decide) ?_
  refine hv2 (show BX v (up2 (up2 (up2 (up2 a 44 ((6008 * q) + (a 47 q.toNat)).toNat x) 45 ((6008 * q) + (a 47 q.toNat)).toNat y) 46 ((6008 * q) + (a 47 q.toNat)).toNat z) 47 q.toNat ((a 47 q.toNat) + 1)) from bq3.set (k := 47) (i := q.toNat) (z := (a 47 q.toNat) + 1) (show 0 ≤ ((a 47 q.toNat) + 1) ∧ ((a 47 q.toNat) + 1) ≤ 6008 by omega)) (fq3.set (k := 47) (i := q.toNat) (z := (a 47 q.toNat) + 1) rfl) (fun bq4 fq4 => ?_)
  exact m_vret C dX12_addRow_49 rfl (Nat.le_of_ble_eq_true rfl) (Nat.le_of_ble_eq_true rfl) ⟨rfl, fq4, bq4, ⟨hW.add (r := 6008 * q + a 47 q.toNat) hq h47 rfl hx hz hy h1 h2, up2_s, rfl⟩⟩
set_option maxHeartbeats 4000000 in
set_option maxRecDepth 100000 in
theorem E_addIndicator {l : Launch} {G : GT} {h0 : Nat} {ad ln : Nat → Nat} {v : Nat → Int} {a : Nat → Nat → Int}  {q t w1 : Int} (hB : BX v a) (hW : RWS a) (hq : q = 0 ∨ q = 1) (ht : 0 ≤ t ∧ t < 30) (hw : 0 ≤ w1 ∧ w1 ≤ 3) (h47 : a 47 q.toNat < 6008) : Mm l G yX12_addIndicator cX12_addIndicator 5 none 1 [.int (iI q), .int (iI t), .int (iI w1)] h0 ad ln v a 0 0 (fun r v2 a2 => r = none ∧ fr [] [44, 45, 46, 47] v a v2 a2 ∧ BX v2 a2 ∧ (RWS a2 ∧ (a2 47 q.toNat ≤ a 47 q.toNat + 1) ∧ ADI a a2 q t w1)) := by
  refine Mm.mk (by decide) (Nat.le_of_ble_eq_true rfl) ?_
  intro p e s m args below meth c A C
  have fp0 : fr [] [44, 45, 46, 47] v a v a := fr.refl
  refine m_iconst C dX12_addIndicator_0 ?_
  refine m_iload_n (j := 2) C dX12_addIndicator_1 rfl ?_
  refine m_imul C dX12_addIndicator_2 ?_
  refine m_iload_n (j := 3) C dX12_addIndicator_3 rfl ?_
  refine m_iadd C dX12_addIndicator_4 ?_
  refine m_istore (lv2 := [(4, .int (iI ((4 * t) + w1))), (0, .ref h0), (1, .int (iI q)), (2, .int (iI t)), (3, .int (iI w1))]) C dX12_addIndicator_5 (by decide) rfl ?_
  refine m_aload_n (j := 1) C dX12_addIndicator_7 rfl ?_
  refine m_geta (k := 16) C dX12_addIndicator_8 w6_75 (by decide) rfl ?_
  refine m_iload (j := 0) C dX12_addIndicator_11 rfl ?_
  refine m_ald (k := 16) C dX12_addIndicator_13 rfl rfl (by decide) (by omega) (by show _ < ((_ : Nat) : Int); simp only [mlen]; omega) (by decide) ?_
  have ra1 : 0 ≤ a 16 ((4 * t) + w1).toNat ∧ a 16 ((4 * t) + w1).toNat ≤ 4 := hB.2 16 (((4 * t) + w1).toNat)
  refine m_if_le (tgt := 36) C (r32_c (lo := 0) (hi := 4) ra1.1 ra1.2 (by decide) (by decide)) dX12_addIndicator_14 (by decide) (fun c1 => ?_) (fun c1 => ?_)
  · have ra2 : 0 ≤ a 47 q.toNat ∧ a 47 q.toNat ≤ 6008 := hB.2 47 (q.toNat)
    exact m_vret C dX12_addIndicator_36 rfl (Nat.le_of_ble_eq_true rfl) (Nat.le_of_ble_eq_true rfl) ⟨rfl, fp0, hB, ⟨hW, (by show a 47 q.toNat ≤ a 47 q.toNat + 1; omega), (Or.inr ⟨by omega, rfl⟩)⟩⟩
  · refine m_aload_n (j := 1) C dX12_addIndicator_17 rfl ?_
    refine m_iload_n (j := 2) C dX12_addIndicator_18 rfl ?_
    refine m_iconst C dX12_addIndicator_19 ?_
    refine m_iload_n (j := 4) C dX12_addIndicator_20 rfl ?_
    refine m_isub C dX12_addIndicator_21 ?_
    refine m_iconst C dX12_addIndicator_22 ?_
    refine m_iload (j := 0) C dX12_addIndicator_23 rfl ?_
    refine m_imul C dX12_addIndicator_25 ?_
    refine m_aload_n (j := 1) C dX12_addIndicator_26 rfl ?_
    refine m_geta (k := 16) C dX12_addIndicator_27 w6_75 (by decide) rfl ?_
    refine m_iload (j := 0) C dX12_addIndicator_30 rfl ?_
    refine m_ald (k := 16) C dX12_addIndicator_32 rfl rfl (by decide) (by omega) (by show _ < ((_ : Nat) : Int); simp only [mlen]; omega) (by decide) ?_
    have ra3 : 0 ≤ a 47 q.toNat ∧ a 47 q.toNat ≤ 6008 := hB.2 47 (q.toNat)
    refine m_call (mc2 := 0) (ms2 := 0) (As := [.int (iI q), .int (iI ((-1) - w1)), .int (iI (4 * ((4 * t) + w1))), .int (iI (a 16 ((4 * t) + w1).toNat))]) (rest := []) C (E_addRow (q := q) (x := (-1) - w1) (y := 4 * ((4 * t) + w1)) (z := a 16 ((4 * t) + w1).toNat) hB hW (by show q = 0 ∨ q = 1; omega) (by show a 47 q.toNat < 6008; omega) (by show -4 ≤ ((-1) - w1) ∧ ((-1) - w1) < 6000; omega) (by show 1 ≤ (a 16 ((4 * t) + w1).toNat) ∧ (a 16 ((4 * t) + w1).toNat) ≤ 4; omega) (by show 0 ≤ (4 * ((4 * t) + w1)); omega) (by show 0 ≤ ((-1) - w1) → (4 * ((4 * t) + w1)) + (a 16 ((4 * t) + w1).toNat) ≤ 24000; omega) (by show ((-1) - w1) < 0 → (4 * ((4 * t) + w1)) + (a 16 ((4 * t) + w1).toNat) ≤ 480; omega)) dX12_addIndicator_33 kV_X12_314 rfl ck_13 rfl (Nat.le_of_ble_eq_true rfl) ⟨Nat.le_of_ble_eq_true rfl, Nat.le_of_ble_eq_true rfl⟩ ⟨Nat.le_of_ble_eq_true rfl, Nat.le_of_ble_eq_true rfl⟩ (fun rh1 vh1 ah1 h1 => ?_)
    obtain ⟨rfl, fn1, bn1, ex1⟩ := h1
    have fq1 := fp0.call fn1 rfl rfl
    obtain ⟨pw1, ex1⟩ := ex1
    obtain ⟨ex1, tl1⟩ := ex1
    refine hv2 (show ah1 47 q.toNat = a 47 q.toNat + 1 from ex1) (show 0 ≤ ah1 47 q.toNat ∧ ah1 47 q.toNat ≤ 6008 from bn1.2 47 (q.toNat)) (fun gf1 ra4 => ?_)
    refine m_st (st2 := []) rfl ?_
    exact m_vret C dX12_addIndicator_36 rfl (Nat.le_of_ble_eq_true rfl) (Nat.le_of_ble_eq_true rfl) ⟨rfl, fq1, bn1, ⟨pw1, (by show ah1 47 q.toNat ≤ a 47 q.toNat + 1; omega), (Or.inl ⟨by omega, tl1⟩)⟩⟩
set_option maxHeartbeats 4000000 in
set_option maxRecDepth 100000 in
theorem E_addRows {l : Launch} {G : GT} {h0 : Nat} {ad ln : Nat → Nat} {v : Nat → Int} {a : Nat → Nat → Int}  {q t : Int} (hB : BX v a) (hW : RWS a) (hT : TBL v a) (hq : q = 0 ∨ q = 1) (ht : 0 ≤ t ∧ t < v 4) (h6 : a 6 t.toNat ≤ 4) : Mm l G yX12_addRows cX12_addRows 5 none 2 [.int (iI q), .int (iI t)] h0 ad ln v a 0 0 (fun r v2 a2 => r = none ∧ fr [] [44, 45, 46, 47] v a v2 a2 ∧ BX v2 a2 ∧ (RWS a2 ∧ (a2 47 q.toNat ≤ 6002) ∧ ARX a a2 q t)) := by
  refine Mm.mk (by decide) (Nat.le_of_ble_eq_true rfl) ?_
  intro p e s m args below meth c A C
  refine hv2 (show 0 ≤ v 4 ∧ v 4 ≤ 30 from hB.1 4) (show fr [] [44, 45, 46, 47] v a v a from fr.refl) (fun h30 fp0 => ?_)
  refine m_aload_n (j := 0) C dX12_addRows_0 rfl ?_
  refine m_geta (k := 47) C dX12_addRows_1 w6_106 (by decide) rfl ?_
  refine m_iload_n (j := 1) C dX12_addRows_4 rfl ?_
  refine m_iconst C dX12_addRows_5 ?_
  refine m_ast (k := 47) C dX12_addRows_6 rfl rfl (by decide) (by omega) (by show _ < ((_ : Nat) : Int); simp only [mlen]; omega) (by decide) ?_
  refine hv3 (show BX v (up2 a 47 q.toNat 0) from hB.set (k := 47) (i := q.toNat) (z := 0) ⟨by decide, by decide⟩) (fp0.set (k := 47) (i := q.toNat) (z := 0) rfl) (show (up2 a 47 q.toNat 0) 47 q.toNat = 0 from up2_s) (fun bq1 fq1 zpw1 => ?_)
  have pw1 : RWS (up2 a 47 q.toNat 0) := RWS.zero (q := q) hW (by omega)
  refine m_iload_n (j := 2) C dX12_addRows_7 rfl ?_
  refine m_istore_n (lv2 := [(3, .int (iI t)), (0, .ref h0), (1, .int (iI q)), (2, .int (iI t))]) C dX12_addRows_8 (by decide) rfl ?_
  have Lp1 : ∀ (nn : Nat) (b1 : Int) (vb2 : Nat → Int) (ab2 : Nat → Nat → Int), b1 + 1 < (nn : Int) → BX vb2 ab2 → fr [] [44, 45, 46, 47] v a vb2 ab2 → (-1 ≤ b1 ∧ b1 ≤ t) → (b1 = -1 ∨ a 6 b1.toNat ≤ 4) → (ab2 47 q.toNat + 200 * (b1 + 1) ≤ 6000) → (RWS ab2) → (HX a ab2 q t b1) → mw p l e (rmq 2 0 0) s m args below meth c G A 5 (MQ below (Qm G A (fun rq Lq Eq => ∃ (vq : Nat → Int) (aq : Nat → Nat → Int), mI G h0 ad ln vq aq Lq Eq ∧ (fun r v2 a2 => r = none ∧ fr [] [44, 45, 46, 47] v a v2 a2 ∧ BX v2 a2 ∧ (RWS a2 ∧ (a2 47 q.toNat ≤ 6002) ∧ ARX a a2 q t)) rq vq aq)) args s 0 0 A) h0 ad ln vb2 ab2 0 0 9 [(3, .int (iI b1)), (0, .ref h0), (1, .int (iI q)), (2, .int (iI t))] [] := by
    intro nn
    induction nn with
    | zero =>
      intro b1 vb2 ab2 hm bxb2 fpb2 hb hb6 h47 hW1 hH
      exact absurd hm (by omega)
    | succ nn ih1 =>
      intro b1 vb2 ab2 hm bxb2 fpb2 hb hb6 h47 hW1 hH
      refine m_iload_n (j := 0) C dX12_addRows_9 rfl ?_
      refine m_if_lt (tgt := 71) C ⟨by omega, by omega⟩ dX12_addRows_10 (by decide) (fun c1 => ?_) (fun c1 => ?_)
      · refine m_aload_n (j := 1) C dX12_addRows_71 rfl ?_
        refine m_iload_n (j := 2) C dX12_addRows_72 rfl ?_
        refine m_iload_n (j := 3) C dX12_addRows_73 rfl ?_
        refine m_iconst C dX12_addRows_74 ?_
        have ra1 : 0 ≤ ab2 47 q.toNat ∧ ab2 47 q.toNat ≤ 6008 := bxb2.2 47 (q.toNat)
        refine m_call (mc2 := 0) (ms2 := 0) (As := [.int (iI q), .int (iI t), .int (iI 0)]) (rest := []) C (E_addIndicator (q := q) (t := t) (w1 := 0) bxb2 hW1 (by show q = 0 ∨ q = 1; omega) (by show 0 ≤ t ∧ t < 30; omega) (by show 0 ≤ (0 : Int) ∧ (0 : Int) ≤ 3; omega) (by show ab2 47 q.toNat < 6008; omega)) dX12_addRows_75 kV_X12_317 rfl ck_13 rfl (Nat.le_of_ble_eq_true rfl) ⟨Nat.le_of_ble_eq_true rfl, Nat.le_of_ble_eq_true rfl⟩ ⟨Nat.le_of_ble_eq_true rfl, Nat.le_of_ble_eq_true rfl⟩ (fun rh1 vh1 ah1 h1 => ?_)
        obtain ⟨rfl, fn1, bn1, ex1⟩ := h1
        have fq2 := fpb2.call fn1 rfl rfl
        obtain ⟨pw2, ex1⟩ := ex1
        obtain ⟨ex1, tl1⟩ := ex1
        refine hv2 (show ah1 47 q.toNat ≤ ab2 47 q.toNat + 1 from ex1) (show 0 ≤ ah1 47 q.toNat ∧ ah1 47 q.toNat ≤ 6008 from bn1.2 47 (q.toNat)) (fun gf1 ra2 => ?_)
        refine m_st (st2 := []) rfl ?_
        refine m_aload_n (j := 1) C dX12_addRows_78 rfl ?_
        refine m_iload_n (j := 2) C dX12_addRows_79 rfl ?_
        refine m_iload_n (j := 3) C dX12_addRows_80 rfl ?_
        refine m_iconst C dX12_addRows_81 ?_
        refine m_call (mc2 := 0) (ms2 := 0) (As := [.int (iI q), .int (iI t), .int (iI 1)]) (rest := []) C (E_addIndicator (q := q) (t := t) (w1 := 1) bn1 pw2 (by show q = 0 ∨ q = 1; omega) (by show 0 ≤ t ∧ t < 30; omega) (by show 0 ≤ (1 : Int) ∧ (1 : Int) ≤ 3; omega) (by show ah1 47 q.toNat < 6008; omega)) dX12_addRows_82 kV_X12_317 rfl ck_13 rfl (Nat.le_of_ble_eq_true rfl) ⟨Nat.le_of_ble_eq_true rfl, Nat.le_of_ble_eq_true rfl⟩ ⟨Nat.le_of_ble_eq_true rfl, Nat.le_of_ble_eq_true rfl⟩ (fun rh2 vh2 ah2 h2 => ?_)
        obtain ⟨rfl, fn2, bn2, ex2⟩ := h2
        have fq3 := fq2.call fn2 rfl rfl
        obtain ⟨pw3, ex2⟩ := ex2
        obtain ⟨ex2, tl2⟩ := ex2
        refine hv2 (show ah2 47 q.toNat ≤ ah1 47 q.toNat + 1 from ex2) (show 0 ≤ ah2 47 q.toNat ∧ ah2 47 q.toNat ≤ 6008 from bn2.2 47 (q.toNat)) (fun gf2 ra3 => ?_)
        refine m_st (st2 := []) rfl ?_
        exact m_vret C dX12_addRows_85 rfl (Nat.le_of_ble_eq_true rfl) (Nat.le_of_ble_eq_true rfl) ⟨rfl, fq3, bn2, ⟨pw3, (by show ah2 47 q.toNat ≤ 6002; omega), HX.fin hH (by omega) tl1 tl2 (fpb2.2 16 rfl) (fq2.2 16 rfl) hq ⟨(bxb2.2 47 _).1, by omega⟩ ⟨(bn1.2 47 _).1, by omega⟩ (by omega)⟩⟩
      · have ht0 := hT.1 b1 (by omega) (by omega)
        have r10 : 0 ≤ a 10 b1.toNat ∧ a 10 b1.toNat ≤ 200 := hB.2 10 _
        refine m_sipush (z := 200) C dX12_addRows_13 (by decide) ?_
        refine m_iload_n (j := 0) C dX12_addRows_16 rfl ?_
        refine m_imul C dX12_addRows_17 ?_
        refine m_istore (lv2 := [(4, .int (iI (200 * b1))), (3, .int (iI b1)), (0, .ref h0), (1, .int (iI q)), (2, .int (iI t))]) C dX12_addRows_18 (by decide) rfl ?_
        have Lp2 : ∀ (nn : Nat) (r : Int) (vb3 : Nat → Int) (ab3 : Nat → Nat → Int), 200 * b1 + 200 - r < (nn : Int) → BX vb3 ab3 → fr [] [44, 45, 46, 47] v a vb3 ab3 → (200 * b1 ≤ r ∧ r ≤ 200 * b1 + a 10 b1.toNat) → (ab3 47 q.toNat + (200 * b1 + a 10 b1.toNat - r) + 200 * b1 ≤ 6000) → (RWS ab3) → (HY a ab3 q t b1 r) → mw p l e (rmq 2 0 0) s m args below meth c G A 5 (MQ below (Qm G A (fun rq Lq Eq => ∃ (vq : Nat → Int) (aq : Nat → Nat → Int), mI G h0 ad ln vq aq Lq Eq ∧ (fun r v2 a2 => r = none ∧ fr [] [44, 45, 46, 47] v a v2 a2 ∧ BX v2 a2 ∧ (RWS a2 ∧ (a2 47 q.toNat ≤ 6002) ∧ ARX a a2 q t)) rq vq aq)) args s 0 0 A) h0 ad ln vb3 ab3 0 0 20 [(4, .int (iI r)), (3, .int (iI b1)), (0, .ref h0), (1, .int (iI q)), (2, .int (iI t))] [] := by
          intro nn
          induction nn with
          | zero =>
            intro r vb3 ab3 hm bxb3 fpb3 hr h472 hW2 hH2
            exact absurd hm (by omega)
          | succ nn ih2 =>
            intro r vb3 ab3 hm bxb3 fpb3 hr h472 hW2 hH2
            refine m_iload (j := 0) C dX12_addRows_20 rfl ?_
            refine m_sipush (z := 200) C dX12_addRows_22 (by decide) ?_
            refine m_iload_n (j := 1) C dX12_addRows_25 rfl ?_
            refine m_imul C dX12_addRows_26 ?_
            refine m_aload_n (j := 2) C dX12_addRows_27 rfl ?_
            refine m_geta (k := 10) C dX12_addRows_28 w6_69 (by decide) rfl ?_
            refine m_iload_n (j := 1) C dX12_addRows_31 rfl ?_
            refine m_ald (k := 10) C dX12_addRows_32 rfl rfl (by decide) (by omega) (by show _ < ((_ : Nat) : Int); simp only [mlen]; omega) (by decide) ?_
            refine hv2 (show 0 ≤ ab3 10 b1.toNat ∧ ab3 10 b1.toNat ≤ 200 from bxb3.2 10 (b1.toNat)) (show ab3 10 (b1.toNat) = a 10 (b1.toNat) from congrFun (fpb3.2 10 rfl) (b1.toNat)) (fun ra4 ae1 => ?_)
            refine m_st (st2 := [.int (iI (a 10 b1.toNat)), .int (iI (200 * b1)), .int (iI r)]) (congrArg (fun z => Value.int (iI z) :: [.int (iI (200 * b1)), .int (iI r)]) (congrFun (fpb3.2 10 rfl) (b1.toNat))) ?_
            refine m_iadd C dX12_addRows_33 ?_
            refine m_icmp_ge (tgt := 61) C ⟨by omega, by omega⟩ ⟨by omega, by omega⟩ dX12_addRows_34 (by decide) (fun c2 => ?_) (fun c2 => ?_)
            · refine m_aload_n (j := 2) C dX12_addRows_61 rfl ?_
              refine m_geta (k := 8) C dX12_addRows_62 w6_67 (by decide) rfl ?_
              refine m_iload_n (j := 1) C dX12_addRows_65 rfl ?_
              refine m_ald (k := 8) C dX12_addRows_66 rfl rfl (by decide) (by omega) (by show _ < ((_ : Nat) : Int); simp only [mlen]; omega) (by decide) ?_
              refine hv2 (show (-1) ≤ ab3 8 b1.toNat ∧ ab3 8 b1.toNat ≤ 29 from bxb3.2 8 (b1.toNat)) (show ab3 8 (b1.toNat) = a 8 (b1.toNat) from congrFun (fpb3.2 8 rfl) (b1.toNat)) (fun ra5 ae2 => ?_)
              refine m_st (st2 := [.int (iI (a 8 b1.toNat))]) (congrArg (fun z => Value.int (iI z) :: []) (congrFun (fpb3.2 8 rfl) (b1.toNat))) ?_
              refine m_istore_n (lv2 := [(3, .int (iI (a 8 b1.toNat))), (4, .int (iI r)), (0, .ref h0), (1, .int (iI q)), (2, .int (iI t))]) C dX12_addRows_67 (by decide) rfl ?_
              refine m_goto (tgt := 9) C dX12_addRows_68 (by decide) ?_
              have ra6 : 0 ≤ ab3 47 q.toNat ∧ ab3 47 q.toNat ≤ 6008 := bxb3.2 47 (q.toNat)
              refine m_lv (lv2 := [(3, .int (iI (a 8 b1.toNat))), (0, .ref h0), (1, .int (iI q)), (2, .int (iI t))]) [0, 2, 3, 4] rfl ?_
              exact ih1  (a 8 b1.toNat) _ _ (by omega) bxb3 fpb3 (by omega) (by omega) (by show (ab3 47 q.toNat) + 200 * ((a 8 b1.toNat) + 1) ≤ 6000; omega) hW2 (HY.fin hH2 (by omega))
            · refine m_aload_n (j := 2) C dX12_addRows_37 rfl ?_
              refine m_iload_n (j := 3) C dX12_addRows_38 rfl ?_
              refine m_iload (j := 0) C dX12_addRows_39 rfl ?_
              refine m_iconst C dX12_addRows_41 ?_
              refine m_iload (j := 0) C dX12_addRows_42 rfl ?_
              refine m_imul C dX12_addRows_44 ?_
              refine m_aload_n (j := 2) C dX12_addRows_45 rfl ?_
              refine m_geta (k := 13) C dX12_addRows_46 w6_72 (by decide) rfl ?_
              refine m_iload (j := 0) C dX12_addRows_49 rfl ?_
              refine m_ald (k := 13) C dX12_addRows_51 rfl rfl (by decide) (by omega) (by show _ < ((_ : Nat) : Int); simp only [mlen]; omega) (by decide) ?_
              refine hv2 (show 0 ≤ ab3 13 r.toNat ∧ ab3 13 r.toNat ≤ 4 from bxb3.2 13 (r.toNat)) (show ab3 13 (r.toNat) = a 13 (r.toNat) from congrFun (fpb3.2 13 rfl) (r.toNat)) (fun ra7 ae3 => ?_)
              refine m_st (st2 := [.int (iI (a 13 r.toNat)), .int (iI (4 * r)), .int (iI r), .int (iI q), .ref h0]) (congrArg (fun z => Value.int (iI z) :: [.int (iI (4 * r)), .int (iI r), .int (iI q), .ref h0]) (congrFun (fpb3.2 13 rfl) (r.toNat))) ?_
              refine hv2 ((hT.2 b1 r (by omega) (by omega) (by omega) (by omega)).2) (show 0 ≤ ab3 47 q.toNat ∧ ab3 47 q.toNat ≤ 6008 from bxb3.2 47 (q.toNat)) (fun hr0 ra8 => ?_)
              refine m_call (mc2 := 0) (ms2 := 0) (As := [.int (iI q), .int (iI r), .int (iI (4 * r)), .int (iI (a 13 r.toNat))]) (rest := []) C (E_addRow (q := q) (x := r) (y := 4 * r) (z := a 13 r.toNat) bxb3 hW2 (by show q = 0 ∨ q = 1; omega) (by show ab3 47 q.toNat < 6008; omega) (by show -4 ≤ r ∧ r < 6000; omega) (by show 1 ≤ (a 13 r.toNat) ∧ (a 13 r.toNat) ≤ 4; omega) (by show 0 ≤ (4 * r); omega) (by show 0 ≤ r → (4 * r) + (a 13 r.toNat) ≤ 24000; omega) (by show r < 0 → (4 * r) + (a 13 r.toNat) ≤ 480; omega)) dX12_addRows_52 kV_X12_314 rfl ck_13 rfl (Nat.le_of_ble_eq_true rfl) ⟨Nat.le_of_ble_eq_true rfl, Nat.le_of_ble_eq_true rfl⟩ ⟨Nat.le_of_ble_eq_true rfl, Nat.le_of_ble_eq_true rfl⟩ (fun rh3 vh3 ah3 h3 => ?_)
              obtain ⟨rfl, fn3, bn3, ex3⟩ := h3
              have fq4 := fpb3.call fn3 rfl rfl
              obtain ⟨pw4, ex3⟩ := ex3
              obtain ⟨ex3, tl3⟩ := ex3
              refine hv2 (show ah3 47 q.toNat = ab3 47 q.toNat + 1 from ex3) (show 0 ≤ ah3 47 q.toNat ∧ ah3 47 q.toNat ≤ 6008 from bn3.2 47 (q.toNat)) (fun gf3 ra9 => ?_)
              refine m_st (st2 := []) rfl ?_
              refine m_iinc (z := r) (j := 0) (lv2 := [(4, .int (iI (r + 1))), (3, .int (iI b1)), (0, .ref h0), (1, .int (iI q)), (2, .int (iI t))]) C dX12_addRows_55 rfl (by decide) rfl ?_
              refine m_goto (tgt := 20) C dX12_addRows_58 (by decide) ?_
              refine m_lv (lv2 := [(4, .int (iI (r + 1))), (3, .int (iI b1)), (0, .ref h0), (1, .int (iI q)), (2, .int (iI t))]) [0, 1, 2, 3, 4] rfl ?_
              exact ih2  (r + 1) _ _ (by omega) bn3 fq4 (by omega) (by show (ah3 47 q.toNat) + (200 * b1 + a 10 b1.toNat - (r + 1)) + 200 * b1 ≤ 6000; omega) pw4 (by rw [tl3]; exact HY.step hH2 hq (by omega) (by omega) ⟨(bxb3.2 47 _).1, by omega⟩)
        have ra10 : 0 ≤ ab2 47 q.toNat ∧ ab2 47 q.toNat ≤ 6008 := bxb2.2 47 (q.toNat)
        refine m_lv (lv2 := [(4, .int (iI (200 * b1))), (3, .int (iI b1)), (0, .ref h0), (1, .int (iI q)), (2, .int (iI t))]) [0, 1, 2, 3, 4] rfl ?_
        exact Lp2 202 (200 * b1) _ _ (by omega) bxb2 fpb2 (by omega) (by show (ab2 47 q.toNat) + (200 * b1 + a 10 b1.toNat - (200 * b1)) + 200 * b1 ≤ 6000; omega) hW1 (hH.start hT (by omega) (by omega) (by omega) (by omega))
  have ra11 : 0 ≤ (up2 a 47 q.toNat 0) 47 q.toNat ∧ (up2 a 47 q.toNat 0) 47 q.toNat ≤ 6008 := bq1.2 47 (q.toNat)
  refine m_lv (lv2 := [(3, .int (iI t)), (0, .ref h0), (1, .int (iI q)), (2, .int (iI t))]) [0, 1, 2, 3] rfl ?_
  exact Lp1 32 t _ _ (by omega) bq1 fq1 (by omega) (by omega) (by show ((up2 a 47 q.toNat 0) 47 q.toNat) + 200 * (t + 1) ≤ 6000; omega) pw1 (HX.init (fun q2 h1 h2 => up2_j (by omega)) up2_s (funext fun _ => up2_k (by decide)) (funext fun _ => up2_k (by decide)) (funext fun _ => up2_k (by decide)))
set_option maxHeartbeats 4000000 in
set_option maxRecDepth 100000 in
theorem E_gather {l : Launch} {G : GT} {h0 : Nat} {ad ln : Nat → Nat} {v : Nat → Int} {a : Nat → Nat → Int}  {t : Int} (hB : BX v a) (hW : RWS a) (hT : TBL v a) (ht : 0 ≤ t ∧ t < v 4) : Mm l G yX12_gather cX12_gather 2 none 3 [.int (iI t)] h0 ad ln v a 0 0 (fun r v2 a2 => r = none ∧ fr [] [44, 45, 46, 47] v a v2 a2 ∧ BX v2 a2 ∧ (RWS a2 ∧ GAT a a2 t)) := by
  refine Mm.mk (by decide) (Nat.le_of_ble_eq_true rfl) ?_
  intro p e s m args below meth c A C
  refine hv2 (show 0 ≤ v 4 ∧ v 4 ≤ 30 from hB.1 4) (show fr [] [44, 45, 46, 47] v a v a from fr.refl) (fun h30 fp0 => ?_)
  have ht0 := hT.1 t (by omega) (by omega)
  refine m_aload_n (j := 0) C dX12_gather_0 rfl ?_
  refine m_geta (k := 47) C dX12_gather_1 w6_106 (by decide) rfl ?_
  refine m_iconst C dX12_gather_4 ?_
  refine m_iconst C dX12_gather_5 ?_
  refine m_ast (k := 47) C dX12_gather_6 rfl rfl (by decide) (by decide) (by decide) (by decide) ?_
  refine hv3 (show BX v (up2 a 47 (1 : Int).toNat 0) from hB.set (k := 47) (i := (1 : Int).toNat) (z := 0) ⟨by decide, by decide⟩) (fp0.set (k := 47) (i := (1 : Int).toNat) (z := 0) rfl) (show (up2 a 47 (1 : Int).toNat 0) 47 (1 : Int).toNat = 0 from up2_s) (fun bq1 fq1 zpw1 => ?_)
  have pw1 : RWS (up2 a 47 (1 : Int).toNat 0) := RWS.zero (q := 1) hW (by omega)
  refine m_aload_n (j := 0) C dX12_gather_7 rfl ?_
  refine m_geta (k := 6) C dX12_gather_8 w6_65 (by decide) rfl ?_
  refine m_iload_n (j := 1) C dX12_gather_11 rfl ?_
  refine m_ald (k := 6) C dX12_gather_12 rfl rfl (by decide) (by omega) (by show _ < ((_ : Nat) : Int); simp only [mlen]; omega) (by decide) ?_
  have ra1 : 0 ≤ a 6 t.toNat ∧ a 6 t.toNat ≤ 5 := bq1.2 6 (t.toNat)
  refine m_st (st2 := [.int (iI (a 6 t.toNat))]) (congrArg (fun z => Value.int (iI z) :: []) (congrFun (fq1.2 6 rfl) (t.toNat))) ?_
  refine m_iconst C dX12_gather_13 ?_
  refine m_icmp_eq (tgt := 24) C (r32_c (lo := 0) (hi := 5) ra1.1 ra1.2 (by decide) (by decide)) ⟨by decide, by decide⟩ dX12_gather_14 (by decide) (fun c1 => ?_) (fun c1 => ?_)
  · refine m_aload_n (j := 0) C dX12_gather_24 rfl ?_
    refine m_iconst C dX12_gather_25 ?_
    refine m_aload_n (j := 0) C dX12_gather_26 rfl ?_
    refine m_geta (k := 8) C dX12_gather_27 w6_67 (by decide) rfl ?_
    refine m_iload_n (j := 1) C dX12_gather_30 rfl ?_
    refine m_ald (k := 8) C dX12_gather_31 rfl rfl (by decide) (by omega) (by show _ < ((_ : Nat) : Int); simp only [mlen]; omega) (by decide) ?_
    have ra2 : (-1) ≤ a 8 t.toNat ∧ a 8 t.toNat ≤ 29 := bq1.2 8 (t.toNat)
    refine m_st (st2 := [.int (iI (a 8 t.toNat)), .int (iI 0), .ref h0]) (congrArg (fun z => Value.int (iI z) :: [.int (iI 0), .ref h0]) (congrFun (fq1.2 8 rfl) (t.toNat))) ?_
    refine hv2 (show 0 ≤ v 4 ∧ v 4 ≤ 30 from bq1.1 4) (show 0 ≤ a 6 (a 8 t.toNat).toNat ∧ a 6 (a 8 t.toNat).toNat ≤ 5 from bq1.2 6 ((a 8 t.toNat).toNat)) (fun rv1 ra3 => ?_)
    refine m_call (mc2 := 0) (ms2 := 0) (As := [.int (iI 0), .int (iI (a 8 t.toNat))]) (rest := []) C (E_addRows (q := 0) (t := a 8 t.toNat) bq1 pw1 (hT.fr fq1 rfl rfl) (by show (0 : Int) = 0 ∨ (0 : Int) = 1; omega) (by show 0 ≤ (a 8 t.toNat) ∧ (a 8 t.toNat) < (v 4); omega) (by show a 6 (a 8 t.toNat).toNat ≤ 4; omega)) dX12_gather_32 kV_X12_321 rfl ck_13 rfl (Nat.le_of_ble_eq_true rfl) ⟨Nat.le_of_ble_eq_true rfl, Nat.le_of_ble_eq_true rfl⟩ ⟨Nat.le_of_ble_eq_true rfl, Nat.le_of_ble_eq_true rfl⟩ (fun rh1 vh1 ah1 h1 => ?_)
    obtain ⟨rfl, fn1, bn1, ex1⟩ := h1
    have fq2 := fq1.call fn1 rfl rfl
    obtain ⟨pw2, ex1⟩ := ex1
    obtain ⟨ex1, tl1⟩ := ex1
    refine hv2 (show ah1 47 (0 : Int).toNat ≤ 6002 from ex1) (show 0 ≤ ah1 47 (0 : Int).toNat ∧ ah1 47 (0 : Int).toNat ≤ 6008 from bn1.2 47 ((0 : Int).toNat)) (fun gf1 ra4 => ?_)
    refine m_st (st2 := []) rfl ?_
    refine m_aload_n (j := 0) C dX12_gather_35 rfl ?_
    refine m_iconst C dX12_gather_36 ?_
    refine m_iload_n (j := 1) C dX12_gather_37 rfl ?_
    refine m_iconst C dX12_gather_38 ?_
    refine m_call (mc2 := 0) (ms2 := 0) (As := [.int (iI 0), .int (iI t), .int (iI 2)]) (rest := []) C (E_addIndicator (q := 0) (t := t) (w1 := 2) bn1 pw2 (by show (0 : Int) = 0 ∨ (0 : Int) = 1; omega) (by show 0 ≤ t ∧ t < 30; omega) (by show 0 ≤ (2 : Int) ∧ (2 : Int) ≤ 3; omega) (by show ah1 47 (0 : Int).toNat < 6008; omega)) dX12_gather_39 kV_X12_317 rfl ck_13 rfl (Nat.le_of_ble_eq_true rfl) ⟨Nat.le_of_ble_eq_true rfl, Nat.le_of_ble_eq_true rfl⟩ ⟨Nat.le_of_ble_eq_true rfl, Nat.le_of_ble_eq_true rfl⟩ (fun rh2 vh2 ah2 h2 => ?_)
    obtain ⟨rfl, fn2, bn2, ex2⟩ := h2
    have fq3 := fq2.call fn2 rfl rfl
    obtain ⟨pw3, ex2⟩ := ex2
    obtain ⟨ex2, tl2⟩ := ex2
    refine hv2 (show ah2 47 (0 : Int).toNat ≤ ah1 47 (0 : Int).toNat + 1 from ex2) (show 0 ≤ ah2 47 (0 : Int).toNat ∧ ah2 47 (0 : Int).toNat ≤ 6008 from bn2.2 47 ((0 : Int).toNat)) (fun gf2 ra5 => ?_)
    refine m_st (st2 := []) rfl ?_
    refine m_aload_n (j := 0) C dX12_gather_42 rfl ?_
    refine m_iconst C dX12_gather_43 ?_
    refine m_aload_n (j := 0) C dX12_gather_44 rfl ?_
    refine m_geta (k := 9) C dX12_gather_45 w6_68 (by decide) rfl ?_
    refine m_iload_n (j := 1) C dX12_gather_48 rfl ?_
    refine m_ald (k := 9) C dX12_gather_49 rfl rfl (by decide) (by omega) (by show _ < ((_ : Nat) : Int); simp only [mlen]; omega) (by decide) ?_
    refine hv3 (show (-1) ≤ ah2 9 t.toNat ∧ ah2 9 t.toNat ≤ 29 from bn2.2 9 (t.toNat)) (show ah2 9 (t.toNat) = ah1 9 (t.toNat) from congrFun (fn2.2 9 rfl) (t.toNat)) (show ah1 9 (t.toNat) = a 9 (t.toNat) from congrFun (fn1.2 9 rfl) (t.toNat)) (fun ra6 ae1 ae2 => ?_)
    refine m_st (st2 := [.int (iI (a 9 t.toNat)), .int (iI 1), .ref h0]) (congrArg (fun z => Value.int (iI z) :: [.int (iI 1), .ref h0]) (congrFun (fq3.2 9 rfl) (t.toNat))) ?_
    refine hv6 (show 0 ≤ vh2 4 ∧ vh2 4 ≤ 30 from bn2.1 4) (show vh2 4 = vh1 4 from fn2.1 4 rfl) (show vh1 4 = v 4 from fn1.1 4 rfl) (show 0 ≤ ah2 6 (a 9 t.toNat).toNat ∧ ah2 6 (a 9 t.toNat).toNat ≤ 5 from bn2.2 6 ((a 9 t.toNat).toNat)) (show ah2 6 ((a 9 t.toNat).toNat) = ah1 6 ((a 9 t.toNat).toNat) from congrFun (fn2.2 6 rfl) ((a 9 t.toNat).toNat)) (show ah1 6 ((a 9 t.toNat).toNat) = a 6 ((a 9 t.toNat).toNat) from congrFun (fn1.2 6 rfl) ((a 9 t.toNat).toNat)) (fun rv2 ve1 ve2 ra7 ae3 ae4 => ?_)
    refine m_call (mc2 := 0) (ms2 := 0) (As := [.int (iI 1), .int (iI (a 9 t.toNat))]) (rest := []) C (E_addRows (q := 1) (t := a 9 t.toNat) bn2 pw3 (hT.fr fq3 rfl rfl) (by show (1 : Int) = 0 ∨ (1 : Int) = 1; omega) (by show 0 ≤ (a 9 t.toNat) ∧ (a 9 t.toNat) < (vh2 4); omega) (by show ah2 6 (a 9 t.toNat).toNat ≤ 4; omega)) dX12_gather_50 kV_X12_321 rfl ck_13 rfl (Nat.le_of_ble_eq_true rfl) ⟨Nat.le_of_ble_eq_true rfl, Nat.le_of_ble_eq_true rfl⟩ ⟨Nat.le_of_ble_eq_true rfl, Nat.le_of_ble_eq_true rfl⟩ (fun rh3 vh3 ah3 h3 => ?_)
    obtain ⟨rfl, fn3, bn3, ex3⟩ := h3
    have fq4 := fq3.call fn3 rfl rfl
    obtain ⟨pw4, ex3⟩ := ex3
    obtain ⟨ex3, tl3⟩ := ex3
    refine hv2 (show ah3 47 (1 : Int).toNat ≤ 6002 from ex3) (show 0 ≤ ah3 47 (1 : Int).toNat ∧ ah3 47 (1 : Int).toNat ≤ 6008 from bn3.2 47 ((1 : Int).toNat)) (fun gf3 ra8 => ?_)
    refine m_st (st2 := []) rfl ?_
    refine m_aload_n (j := 0) C dX12_gather_53 rfl ?_
    refine m_iconst C dX12_gather_54 ?_
    refine m_iload_n (j := 1) C dX12_gather_55 rfl ?_
    refine m_iconst C dX12_gather_56 ?_
    refine m_call (mc2 := 0) (ms2 := 0) (As := [.int (iI 1), .int (iI t), .int (iI 3)]) (rest := []) C (E_addIndicator (q := 1) (t := t) (w1 := 3) bn3 pw4 (by show (1 : Int) = 0 ∨ (1 : Int) = 1; omega) (by show 0 ≤ t ∧ t < 30; omega) (by show 0 ≤ (3 : Int) ∧ (3 : Int) ≤ 3; omega) (by show ah3 47 (1 : Int).toNat < 6008; omega)) dX12_gather_57 kV_X12_317 rfl ck_13 rfl (Nat.le_of_ble_eq_true rfl) ⟨Nat.le_of_ble_eq_true rfl, Nat.le_of_ble_eq_true rfl⟩ ⟨Nat.le_of_ble_eq_true rfl, Nat.le_of_ble_eq_true rfl⟩ (fun rh4 vh4 ah4 h4 => ?_)
    obtain ⟨rfl, fn4, bn4, ex4⟩ := h4
    have fq5 := fq4.call fn4 rfl rfl
    obtain ⟨pw5, ex4⟩ := ex4
    obtain ⟨ex4, tl4⟩ := ex4
    refine hv2 (show ah4 47 (1 : Int).toNat ≤ ah3 47 (1 : Int).toNat + 1 from ex4) (show 0 ≤ ah4 47 (1 : Int).toNat ∧ ah4 47 (1 : Int).toNat ≤ 6008 from bn4.2 47 ((1 : Int).toNat)) (fun gf4 ra9 => ?_)
    refine m_st (st2 := []) rfl ?_
    exact m_vret C dX12_gather_60 rfl (Nat.le_of_ble_eq_true rfl) (Nat.le_of_ble_eq_true rfl) ⟨rfl, fq5, bn4, ⟨pw5, GAT.mk1 (by omega) rfl rfl tl1 tl2 tl3 tl4 (fq1.2 8 rfl) (fq1.2 10 rfl) (fq1.2 13 rfl) (fq1.2 16 rfl) (fq2.2 16 rfl) (fq3.2 8 rfl) (fq3.2 10 rfl) (fq3.2 13 rfl) (fq3.2 16 rfl) (fq4.2 16 rfl) (show 0 ≤ ah1 47 (0 : Int).toNat ∧ ah1 47 (0 : Int).toNat < 6008 from ⟨(bn1.2 47 _).1, by omega⟩) (show 0 ≤ ah3 47 (1 : Int).toNat ∧ ah3 47 (1 : Int).toNat < 6008 from ⟨(bn3.2 47 _).1, by omega⟩) (by omega)⟩⟩
  · refine m_aload_n (j := 0) C dX12_gather_17 rfl ?_
    refine m_iconst C dX12_gather_18 ?_
    refine m_iload_n (j := 1) C dX12_gather_19 rfl ?_
    have rv3 : 0 ≤ v 4 ∧ v 4 ≤ 30 := bq1.1 4
    refine m_call (mc2 := 0) (ms2 := 0) (As := [.int (iI 0), .int (iI t)]) (rest := []) C (E_addRows (q := 0) (t := t) bq1 pw1 (hT.fr fq1 rfl rfl) (by show (0 : Int) = 0 ∨ (0 : Int) = 1; omega) (by show 0 ≤ t ∧ t < (v 4); omega) (by show a 6 t.toNat ≤ 4; omega)) dX12_gather_20 kV_X12_321 rfl ck_13 rfl (Nat.le_of_ble_eq_true rfl) ⟨Nat.le_of_ble_eq_true rfl, Nat.le_of_ble_eq_true rfl⟩ ⟨Nat.le_of_ble_eq_true rfl, Nat.le_of_ble_eq_true rfl⟩ (fun rh5 vh5 ah5 h5 => ?_)
    obtain ⟨rfl, fn5, bn5, ex5⟩ := h5
    have fq6 := fq1.call fn5 rfl rfl
    obtain ⟨pw6, ex5⟩ := ex5
    obtain ⟨ex5, tl5⟩ := ex5
    refine hv2 (show ah5 47 (0 : Int).toNat ≤ 6002 from ex5) (show 0 ≤ ah5 47 (0 : Int).toNat ∧ ah5 47 (0 : Int).toNat ≤ 6008 from bn5.2 47 ((0 : Int).toNat)) (fun gf5 ra10 => ?_)
    refine m_st (st2 := []) rfl ?_
    exact m_vret C dX12_gather_23 rfl (Nat.le_of_ble_eq_true rfl) (Nat.le_of_ble_eq_true rfl) ⟨rfl, fq6, bn5, ⟨pw6, GAT.mk0 (by omega) tl5 (show up2 a 47 (1 : Int).toNat 0 47 1 = 0 from up2_s) (fq1.2 8 rfl) (fq1.2 10 rfl) (fq1.2 13 rfl) (fq1.2 16 rfl)⟩⟩
set_option maxHeartbeats 4000000 in
set_option maxRecDepth 100000 in
theorem E_rowCell {l : Launch} {G : GT} {h0 : Nat} {ad ln : Nat → Nat} {v : Nat → Int} {a : Nat → Nat → Int}  {w k : Int} (hB : BX v a) (hr : 0 ≤ w ∧ w < 12016) (h45 : 0 ≤ a 45 w.toNat + k ∧ (0 ≤ a 44 w.toNat → a 45 w.toNat + k < 24000) ∧ (a 44 w.toNat < 0 → a 45 w.toNat + k < 480)) : Mm l G yX12_rowCell cX12_rowCell 3 (some .int) 0 [.int (iI w), .int (iI k)] h0 ad ln v a 0 0 (fun r v2 a2 => ∃ f : Int, r = some (.int (iI f)) ∧ fr [] [] v a v2 a2 ∧ BX v2 a2 ∧ ((-2147483648 ≤ f ∧ f ≤ 2147483647) ∧ f = rcl a w k)) := by
  refine Mm.mk (by decide) (Nat.le_of_ble_eq_true rfl) ?_
  intro p e s m args below meth c A C
  have fp0 : fr [] [] v a v a := fr.refl
  refine m_aload_n (j := 0) C dX12_rowCell_0 rfl ?_
  refine m_geta (k := 44) C dX12_rowCell_1 w6_103 (by decide) rfl ?_
  refine m_iload_n (j := 1) C dX12_rowCell_4 rfl ?_
  refine m_ald (k := 44) C dX12_rowCell_5 rfl rfl (by decide) (by omega) (by show _ < ((_ : Nat) : Int); simp only [mlen]; omega) (by decide) ?_
  have ra1 : (-4) ≤ a 44 w.toNat ∧ a 44 w.toNat ≤ 5999 := hB.2 44 (w.toNat)
  refine m_if_lt (tgt := 25) C (r32_c (lo := (-4)) (hi := 5999) ra1.1 ra1.2 (by decide) (by decide)) dX12_rowCell_6 (by decide) (fun c1 => ?_) (fun c1 => ?_)
  · refine m_aload_n (j := 0) C dX12_rowCell_25 rfl ?_
    refine m_geta (k := 17) C dX12_rowCell_26 w6_76 (by decide) rfl ?_
    refine m_aload_n (j := 0) C dX12_rowCell_29 rfl ?_
    refine m_geta (k := 45) C dX12_rowCell_30 w6_104 (by decide) rfl ?_
    refine m_iload_n (j := 1) C dX12_rowCell_33 rfl ?_
    refine m_ald (k := 45) C dX12_rowCell_34 rfl rfl (by decide) (by omega) (by show _ < ((_ : Nat) : Int); simp only [mlen]; omega) (by decide) ?_
    have ra2 : 0 ≤ a 45 w.toNat ∧ a 45 w.toNat ≤ 23999 := hB.2 45 (w.toNat)
    refine m_iload_n (j := 2) C dX12_rowCell_35 rfl ?_
    refine m_iadd C dX12_rowCell_36 ?_
    refine m_ald (k := 17) C dX12_rowCell_37 rfl rfl (by decide) (by omega) (by show _ < ((_ : Nat) : Int); simp only [mlen]; omega) (by decide) ?_
    have ra3 : (-2147483648) ≤ a 17 ((a 45 w.toNat) + k).toNat ∧ a 17 ((a 45 w.toNat) + k).toNat ≤ 2147483647 := hB.2 17 (((a 45 w.toNat) + k).toNat)
    exact m_iret C dX12_rowCell_38 rfl (Nat.le_of_ble_eq_true rfl) (Nat.le_of_ble_eq_true rfl) ⟨(a 17 ((a 45 w.toNat) + k).toNat), rfl, fp0, hB, ⟨by omega, by unfold rcl; rw [if_neg (by omega)]⟩⟩
  · refine m_aload_n (j := 0) C dX12_rowCell_9 rfl ?_
    refine m_geta (k := 15) C dX12_rowCell_10 w6_74 (by decide) rfl ?_
    refine m_aload_n (j := 0) C dX12_rowCell_13 rfl ?_
    refine m_geta (k := 45) C dX12_rowCell_14 w6_104 (by decide) rfl ?_
    refine m_iload_n (j := 1) C dX12_rowCell_17 rfl ?_
    refine m_ald (k := 45) C dX12_rowCell_18 rfl rfl (by decide) (by omega) (by show _ < ((_ : Nat) : Int); simp only [mlen]; omega) (by decide) ?_
    have ra4 : 0 ≤ a 45 w.toNat ∧ a 45 w.toNat ≤ 23999 := hB.2 45 (w.toNat)
    refine m_iload_n (j := 2) C dX12_rowCell_19 rfl ?_
    refine m_iadd C dX12_rowCell_20 ?_
    refine m_ald (k := 15) C dX12_rowCell_21 rfl rfl (by decide) (by omega) (by show _ < ((_ : Nat) : Int); simp only [mlen]; omega) (by decide) ?_
    have ra5 : (-2147483648) ≤ a 15 ((a 45 w.toNat) + k).toNat ∧ a 15 ((a 45 w.toNat) + k).toNat ≤ 2147483647 := hB.2 15 (((a 45 w.toNat) + k).toNat)
    refine m_goto (tgt := 38) C dX12_rowCell_22 (by decide) ?_
    exact m_iret C dX12_rowCell_38 rfl (Nat.le_of_ble_eq_true rfl) (Nat.le_of_ble_eq_true rfl) ⟨(a 15 ((a 45 w.toNat) + k).toNat), rfl, fp0, hB, ⟨by omega, by unfold rcl; rw [if_pos (by omega)]⟩⟩
end
section
section JUDS
variable {v v2 : Nat → Int} {a a1 a2 : Nat → Nat → Int} {q x y z t b d e f f1 f2 g k h : Int} {n : Nat} {l : List Int}
end JUDS
set_option maxHeartbeats 4000000 in
set_option maxRecDepth 100000 in
theorem N_measure {l : Launch} {G : GT} {h0 : Nat} {ad ln : Nat → Nat} {v : Nat → Int} {a : Nat → Nat → Int}  {w1 h1 y1 : Int} (hB : BX v a) (hw1 : -2147483648 ≤ w1 ∧ w1 ≤ 2147483647) (hh1 : -2147483648 ≤ h1 ∧ h1 ≤ 2147483647) (hy1 : -2147483648 ≤ y1 ∧ y1 ≤ 2147483647) : Mm l G yX12_measure cX12_measure 4 (some .int) 1 [.int (iI w1), .int (iI h1), .int (iI y1)] h0 ad ln v a 0 0 (fun r v2 a2 => ∃ f : Int, r = some (.int (iI f)) ∧ fr [0, 1, 31, 32, 33] [] v a v2 a2 ∧ BX v2 a2 ∧ (((f = 1 ∧ 1 ≤ w1 ∧ w1 ≤ 100 ∧ 1 ≤ h1 ∧ h1 ≤ 50 ∧ 1 ≤ y1 ∧ y1 ≤ 255) ∨ (f = -1 ∧ ¬ (1 ≤ w1 ∧ w1 ≤ 100 ∧ 1 ≤ h1 ∧ h1 ≤ 50 ∧ 1 ≤ y1 ∧ y1 ≤ 255))) ∧ ((f = 1 ∧ v2 31 = w1 ∧ v2 32 = h1 ∧ v2 33 = y1) ∨ (f = -1 ∧ v2 31 = v 31 ∧ v2 32 = v 32 ∧ v2 33 = v 33)))) := by
  refine Mm.mk (by decide) (Nat.le_of_ble_eq_true rfl) ?_
  intro p e s m args below meth c A C
  have fp0 : fr [0, 1, 31, 32, 33] [] v a v a := fr.refl
  refine m_iload_n (j := 1) C dX12_measure_0 rfl ?_
  refine m_iconst C dX12_measure_1 ?_
  refine m_bipush (z := 100) C dX12_measure_2 (by decide) ?_
  refine m_callS (As := [.int (iI w1), .int (iI 1), .int (iI 100)]) (rest := []) C (fun L E => s_isIn (iI w1) (iI 1) (iI 100)) dX12_measure_4 kS_X12_174 rfl rfl (Nat.le_of_ble_eq_true rfl) ⟨Nat.le_of_ble_eq_true rfl, Nat.le_of_ble_eq_true rfl⟩ ⟨Nat.le_of_ble_eq_true rfl, Nat.le_of_ble_eq_true rfl⟩ ?_
  rcases inn_c (x := w1) (lo := 1) (hi := 100) ⟨by omega, by omega⟩ ⟨by decide, by decide⟩ ⟨by decide, by decide⟩ with ⟨h1a, h1b, h1e⟩ | ⟨h1a, h1e⟩
  · refine m_st (st2 := [.int (iI 1)]) (by rw [h1e]) ?_
    refine m_if_eq (tgt := 31) C ⟨by decide, by decide⟩ dX12_measure_7 (by decide) (fun z => absurd z (by omega)) (fun _ => ?_)
    refine m_iload_n (j := 2) C dX12_measure_10 rfl ?_
    refine m_iconst C dX12_measure_11 ?_
    refine m_bipush (z := 50) C dX12_measure_12 (by decide) ?_
    refine m_callS (As := [.int (iI h1), .int (iI 1), .int (iI 50)]) (rest := []) C (fun L E => s_isIn (iI h1) (iI 1) (iI 50)) dX12_measure_14 kS_X12_174 rfl rfl (Nat.le_of_ble_eq_true rfl) ⟨Nat.le_of_ble_eq_true rfl, Nat.le_of_ble_eq_true rfl⟩ ⟨Nat.le_of_ble_eq_true rfl, Nat.le_of_ble_eq_true rfl⟩ ?_
    rcases inn_c (x := h1) (lo := 1) (hi := 50) ⟨by omega, by omega⟩ ⟨by decide, by decide⟩ ⟨by decide, by decide⟩ with ⟨h2a, h2b, h2e⟩ | ⟨h2a, h2e⟩
    · refine m_st (st2 := [.int (iI 1)]) (by rw [h2e]) ?_
      refine m_if_eq (tgt := 31) C ⟨by decide, by decide⟩ dX12_measure_17 (by decide) (fun z => absurd z (by omega)) (fun _ => ?_)
      refine m_iload_n (j := 3) C dX12_measure_20 rfl ?_
      refine m_iconst C dX12_measure_21 ?_
      refine m_sipush (z := 255) C dX12_measure_22 (by decide) ?_
      refine m_callS (As := [.int (iI y1), .int (iI 1), .int (iI 255)]) (rest := []) C (fun L E => s_isIn (iI y1) (iI 1) (iI 255)) dX12_measure_25 kS_X12_174 rfl rfl (Nat.le_of_ble_eq_true rfl) ⟨Nat.le_of_ble_eq_true rfl, Nat.le_of_ble_eq_true rfl⟩ ⟨Nat.le_of_ble_eq_true rfl, Nat.le_of_ble_eq_true rfl⟩ ?_
      rcases inn_c (x := y1) (lo := 1) (hi := 255) ⟨by omega, by omega⟩ ⟨by decide, by decide⟩ ⟨by decide, by decide⟩ with ⟨h3a, h3b, h3e⟩ | ⟨h3a, h3e⟩
      · refine m_st (st2 := [.int (iI 1)]) (by rw [h3e]) ?_
        refine m_if_ne (tgt := 38) C ⟨by decide, by decide⟩ dX12_measure_28 (by decide) (fun _ => ?_) (fun z => absurd z (by omega))
        refine m_aload_n (j := 0) C dX12_measure_38 rfl ?_
        refine m_iload_n (j := 1) C dX12_measure_39 rfl ?_
        refine m_put (k := 31) (z := w1) C dX12_measure_40 w6_90 (by decide) rfl rfl rfl ?_
        refine hv2 (show BX (va_up v 31 w1) a from hB.put (k := 31) (z := w1) (show 1 ≤ w1 ∧ w1 ≤ 100 by omega)) (fp0.put (k := 31) (z := w1) rfl) (fun bq1 fq1 => ?_)
        refine m_aload_n (j := 0) C dX12_measure_43 rfl ?_
        refine m_iload_n (j := 2) C dX12_measure_44 rfl ?_
        refine m_put (k := 32) (z := h1) C dX12_measure_45 w6_91 (by decide) rfl rfl rfl ?_
        refine hv2 (show BX (va_up (va_up v 31 w1) 32 h1) a from bq1.put (k := 32) (z := h1) (show 1 ≤ h1 ∧ h1 ≤ 50 by omega)) (fq1.put (k := 32) (z := h1) rfl) (fun bq2 fq2 => ?_)
        refine m_aload_n (j := 0) C dX12_measure_48 rfl ?_
        refine m_iload_n (j := 3) C dX12_measure_49 rfl ?_
        refine m_put (k := 33) (z := y1) C dX12_measure_50 w6_92 (by decide) rfl rfl rfl ?_
        refine hv2 (show BX (va_up (va_up (va_up v 31 w1) 32 h1) 33 y1) a from bq2.put (k := 33) (z := y1) (show (-2147483648) ≤ y1 ∧ y1 ≤ 2147483647 by omega)) (fq2.put (k := 33) (z := y1) rfl) (fun bq3 fq3 => ?_)
        refine m_aload_n (j := 0) C dX12_measure_53 rfl ?_
        refine m_iconst C dX12_measure_54 ?_
        refine m_call (mc2 := 0) (ms2 := 0) (As := [.int (iI 1)]) (rest := []) C (B_fine (x := 1) bq3 (by show -2147483648 ≤ (1 : Int) ∧ (1 : Int) ≤ 2147483647; omega)) dX12_measure_55 kV_X12_158 rfl ck_13 rfl (Nat.le_of_ble_eq_true rfl) ⟨Nat.le_of_ble_eq_true rfl, Nat.le_of_ble_eq_true rfl⟩ ⟨Nat.le_of_ble_eq_true rfl, Nat.le_of_ble_eq_true rfl⟩ (fun rh4 vh4 ah4 h4 => ?_)
        obtain ⟨f1, rfl, fn1, bn1, ex1⟩ := h4
        refine hv2 (fq3.call fn1 rfl rfl) (show f1 = (1 : Int) from ex1) (fun fq4 gf1 => ?_)
        refine m_st (st2 := [.int (iI f1)]) rfl ?_
        refine hv6 (show 1 ≤ vh4 31 ∧ vh4 31 ≤ 100 from bn1.1 31) (show vh4 31 = w1 from fn1.1 31 rfl) (show 1 ≤ vh4 32 ∧ vh4 32 ≤ 50 from bn1.1 32) (show vh4 32 = h1 from fn1.1 32 rfl) (show (-2147483648) ≤ vh4 33 ∧ vh4 33 ≤ 2147483647 from bn1.1 33) (show vh4 33 = y1 from fn1.1 33 rfl) (fun rv1 ve1 rv2 ve2 rv3 ve3 => ?_)
        exact m_iret C dX12_measure_58 rfl (Nat.le_of_ble_eq_true rfl) (Nat.le_of_ble_eq_true rfl) ⟨f1, rfl, fq4, bn1, ⟨by omega, by show (f1 = 1 ∧ (vh4 31) = w1 ∧ (vh4 32) = h1 ∧ (vh4 33) = y1) ∨ (f1 = -1 ∧ (vh4 31) = (v 31) ∧ (vh4 32) = (v 32) ∧ (vh4 33) = (v 33)); omega⟩⟩
      · refine m_st (st2 := [.int (iI 0)]) (by rw [h3e]) ?_
        refine m_if_ne (tgt := 38) C ⟨by decide, by decide⟩ dX12_measure_28 (by decide) (fun z => absurd z (by omega)) (fun _ => ?_)
        refine m_aload_n (j := 0) C dX12_measure_31 rfl ?_
        refine m_bipush (z := 6) C dX12_measure_32 (by decide) ?_
        refine m_call (mc2 := 0) (ms2 := 0) (As := [.int (iI 6)]) (rest := []) C (B_bad (x := 6) hB (by show -2147483648 ≤ (6 : Int) ∧ (6 : Int) ≤ 2147483647; omega)) dX12_measure_34 kV_X12_154 rfl ck_13 rfl (Nat.le_of_ble_eq_true rfl) ⟨Nat.le_of_ble_eq_true rfl, Nat.le_of_ble_eq_true rfl⟩ ⟨Nat.le_of_ble_eq_true rfl, Nat.le_of_ble_eq_true rfl⟩ (fun rh5 vh5 ah5 h5 => ?_)
        obtain ⟨f2, rfl, fn2, bn2, ex2⟩ := h5
        refine hv2 (fp0.call fn2 rfl rfl) (show f2 = -1 from ex2) (fun fq5 gf2 => ?_)
        refine m_st (st2 := [.int (iI f2)]) rfl ?_
        refine hv6 (show 1 ≤ vh5 31 ∧ vh5 31 ≤ 100 from bn2.1 31) (show vh5 31 = v 31 from fn2.1 31 rfl) (show 1 ≤ vh5 32 ∧ vh5 32 ≤ 50 from bn2.1 32) (show vh5 32 = v 32 from fn2.1 32 rfl) (show (-2147483648) ≤ vh5 33 ∧ vh5 33 ≤ 2147483647 from bn2.1 33) (show vh5 33 = v 33 from fn2.1 33 rfl) (fun rv4 ve4 rv5 ve5 rv6 ve6 => ?_)
        exact m_iret C dX12_measure_37 rfl (Nat.le_of_ble_eq_true rfl) (Nat.le_of_ble_eq_true rfl) ⟨f2, rfl, fq5, bn2, ⟨by omega, by show (f2 = 1 ∧ (vh5 31) = w1 ∧ (vh5 32) = h1 ∧ (vh5 33) = y1) ∨ (f2 = -1 ∧ (vh5 31) = (v 31) ∧ (vh5 32) = (v 32) ∧ (vh5 33) = (v 33)); omega⟩⟩
    · refine m_st (st2 := [.int (iI 0)]) (by rw [h2e]) ?_
      refine m_if_eq (tgt := 31) C ⟨by decide, by decide⟩ dX12_measure_17 (by decide) (fun _ => ?_) (fun z => absurd z (by omega))
      refine m_aload_n (j := 0) C dX12_measure_31 rfl ?_
      refine m_bipush (z := 6) C dX12_measure_32 (by decide) ?_
      refine m_call (mc2 := 0) (ms2 := 0) (As := [.int (iI 6)]) (rest := []) C (B_bad (x := 6) hB (by show -2147483648 ≤ (6 : Int) ∧ (6 : Int) ≤ 2147483647; omega)) dX12_measure_34 kV_X12_154 rfl ck_13 rfl (Nat.le_of_ble_eq_true rfl) ⟨Nat.le_of_ble_eq_true rfl, Nat.le_of_ble_eq_true rfl⟩ ⟨Nat.le_of_ble_eq_true rfl, Nat.le_of_ble_eq_true rfl⟩ (fun rh6 vh6 ah6 h6 => ?_)
      obtain ⟨f3, rfl, fn3, bn3, ex3⟩ := h6
      refine hv2 (fp0.call fn3 rfl rfl) (show f3 = -1 from ex3) (fun fq6 gf3 => ?_)
      refine m_st (st2 := [.int (iI f3)]) rfl ?_
      refine hv6 (show 1 ≤ vh6 31 ∧ vh6 31 ≤ 100 from bn3.1 31) (show vh6 31 = v 31 from fn3.1 31 rfl) (show 1 ≤ vh6 32 ∧ vh6 32 ≤ 50 from bn3.1 32) (show vh6 32 = v 32 from fn3.1 32 rfl) (show (-2147483648) ≤ vh6 33 ∧ vh6 33 ≤ 2147483647 from bn3.1 33) (show vh6 33 = v 33 from fn3.1 33 rfl) (fun rv7 ve7 rv8 ve8 rv9 ve9 => ?_)
      exact m_iret C dX12_measure_37 rfl (Nat.le_of_ble_eq_true rfl) (Nat.le_of_ble_eq_true rfl) ⟨f3, rfl, fq6, bn3, ⟨by omega, by show (f3 = 1 ∧ (vh6 31) = w1 ∧ (vh6 32) = h1 ∧ (vh6 33) = y1) ∨ (f3 = -1 ∧ (vh6 31) = (v 31) ∧ (vh6 32) = (v 32) ∧ (vh6 33) = (v 33)); omega⟩⟩
  · refine m_st (st2 := [.int (iI 0)]) (by rw [h1e]) ?_
    refine m_if_eq (tgt := 31) C ⟨by decide, by decide⟩ dX12_measure_7 (by decide) (fun _ => ?_) (fun z => absurd z (by omega))
    refine m_aload_n (j := 0) C dX12_measure_31 rfl ?_
    refine m_bipush (z := 6) C dX12_measure_32 (by decide) ?_
    refine m_call (mc2 := 0) (ms2 := 0) (As := [.int (iI 6)]) (rest := []) C (B_bad (x := 6) hB (by show -2147483648 ≤ (6 : Int) ∧ (6 : Int) ≤ 2147483647; omega)) dX12_measure_34 kV_X12_154 rfl ck_13 rfl (Nat.le_of_ble_eq_true rfl) ⟨Nat.le_of_ble_eq_true rfl, Nat.le_of_ble_eq_true rfl⟩ ⟨Nat.le_of_ble_eq_true rfl, Nat.le_of_ble_eq_true rfl⟩ (fun rh7 vh7 ah7 h7 => ?_)
    obtain ⟨f4, rfl, fn4, bn4, ex4⟩ := h7
    refine hv2 (fp0.call fn4 rfl rfl) (show f4 = -1 from ex4) (fun fq7 gf4 => ?_)
    refine m_st (st2 := [.int (iI f4)]) rfl ?_
    refine hv6 (show 1 ≤ vh7 31 ∧ vh7 31 ≤ 100 from bn4.1 31) (show vh7 31 = v 31 from fn4.1 31 rfl) (show 1 ≤ vh7 32 ∧ vh7 32 ≤ 50 from bn4.1 32) (show vh7 32 = v 32 from fn4.1 32 rfl) (show (-2147483648) ≤ vh7 33 ∧ vh7 33 ≤ 2147483647 from bn4.1 33) (show vh7 33 = v 33 from fn4.1 33 rfl) (fun rv10 ve10 rv11 ve11 rv12 ve12 => ?_)
    exact m_iret C dX12_measure_37 rfl (Nat.le_of_ble_eq_true rfl) (Nat.le_of_ble_eq_true rfl) ⟨f4, rfl, fq7, bn4, ⟨by omega, by show (f4 = 1 ∧ (vh7 31) = w1 ∧ (vh7 32) = h1 ∧ (vh7 33) = y1) ∨ (f4 = -1 ∧ (vh7 31) = (v 31) ∧ (vh7 32) = (v 32) ∧ (vh7 33) = (v 33)); omega⟩⟩
end
section
abbrev isD (c : Int) : Prop := 48 ≤ c ∧ c ≤ 57
abbrev isG (c : Int) : Prop := 65 ≤ c ∧ c ≤ 90
abbrev isS (c : Int) : Prop := 97 ≤ c ∧ c ≤ 122
def CND (a : Nat → Nat → Int) (W : Nat → Int) (q u x r : Int) : Prop := a 11 r.toNat = 0 ∨ (a 11 r.toNat = 1 ∧ x = q) ∨ (a 11 r.toNat = 2 ∧ x ≠ q ∧ x + a 12 r.toNat ≠ u) ∨ (a 11 r.toNat = 3 ∧ x + a 12 r.toNat = u) ∨ (a 11 r.toNat = 4 ∧ x = q ∧ x + a 12 r.toNat = u) ∨ ((a 11 r.toNat < 0 ∨ 4 < a 11 r.toNat) ∧ x + a 12 r.toNat ≠ u ∧ ¬ isD (W (x + a 12 r.toNat).toNat) ∧ ¬ isG (W (x + a 12 r.toNat).toNat) ∧ ¬ isS (W (x + a 12 r.toNat).toNat))
def FTL (a : Nat → Nat → Int) (W : Nat → Int) (u x r k : Int) : Prop := x + a 12 r.toNat ≤ u ∧ ∀ j : Int, 0 ≤ j → j < k → a 14 (8 * r + j).toNat = W (x + j).toNat
def FIT (a : Nat → Nat → Int) (W : Nat → Int) (q u x r : Int) : Prop := FTL a W u x r (a 12 r.toNat) ∧ CND a W q u x r
def FTG (a : Nat → Nat → Int) (W : Nat → Int) (u x r k g : Int) : Prop := g = 1 ↔ FTL a W u x r k
def FTE (f : Int) (a : Nat → Nat → Int) (q u x r : Int) : Prop := f = 1 ↔ FIT a (a 20) q u x r
def OWI (a : Nat → Nat → Int) (W : Nat → Int) (q u x t b r : Int) : Prop := (b = -1 ∧ ∀ s : Int, 200 * t ≤ s → s < r → ¬ FIT a W q u x s) ∨ ((200 * t ≤ b ∧ b < r) ∧ FIT a W q u x b ∧ ∀ s : Int, 200 * t ≤ s → s < r → FIT a W q u x s → a 12 s.toNat ≤ a 12 b.toNat ∧ (s < b → a 12 s.toNat < a 12 b.toNat))
def OWR (a : Nat → Nat → Int) (W : Nat → Int) (q u x t r : Int) : Prop := OWI a W q u x t r (200 * t + a 10 t.toNat)
def cmb (a : Nat → Nat → Int) (x y : Int) : Int := if x < 0 ∨ (0 ≤ y ∧ a 12 x.toNat < a 12 y.toNat) then y else x
def sml (c : Int) : Int := if 65 ≤ c ∧ c ≤ 90 then c + 32 else c
def fnd (a : Nat → Nat → Int) (q u x : Int) : Nat → (Nat → Int) → Int → Int → Prop
  | 0, _, _, _ => False
  | n + 1, W, t, r => (a 6 t.toNat = 1 → ∃ y z, OWR a W q u x t y ∧ fnd a q u x n W (a 8 t.toNat) z ∧ r = cmb a y z) ∧ (a 6 t.toNat = 2 → (isD (W x.toNat) → OWR a W q u x t r) ∧ (¬ isD (W x.toNat) → fnd a q u x n W (a 8 t.toNat) r)) ∧ (a 6 t.toNat = 3 → ∃ y z, OWR a (va_up W x.toNat (sml (W x.toNat))) q u x t y ∧ fnd a q u x n (va_up W x.toNat (sml (W x.toNat))) (a 8 t.toNat) z ∧ r = cmb a y z) ∧ (a 6 t.toNat < 1 ∨ 3 < a 6 t.toNat → OWR a W q u x t r)
section FNDS
variable {v v1 v2 : Nat → Int} {V1 : List Nat} {a a1 a2 : Nat → Nat → Int} {W : Nat → Int} {q u x t b r s k g f f1 f2 y z : Int} {n m : Nat}
theorem FTL.zero (h : x + a 12 r.toNat ≤ u) : FTL a W u x r 0 := ⟨h, fun j h1 h2 => absurd h1 (by omega)⟩
theorem FTG.init1 (h : x + a 12 r.toNat ≤ u) : FTG a W u x r 0 1 := ⟨fun _ => FTL.zero h, fun _ => rfl⟩
theorem FTG.init0 (h : ¬ x + a 12 r.toNat ≤ u) : FTG a W u x r 0 0 := ⟨fun e => absurd e (by decide), fun e => absurd e.1 h⟩
theorem FTG.step1 (h : FTG a W u x r k g) (hg : g = 1) (e : a 14 (8 * r + k).toNat = W (x + k).toNat) : FTG a W u x r (k + 1) 1 := ⟨fun _ => ⟨(h.mp hg).1, fun j h1 h2 => by
  by_cases w : j < k
  · exact (h.mp hg).2 j h1 w
  · rw [show j = k by omega]; exact e⟩, fun _ => rfl⟩
theorem FTG.step0 (h0 : 0 ≤ k) (e : a 14 (8 * r + k).toNat ≠ W (x + k).toNat) : FTG a W u x r (k + 1) 0 := ⟨fun w => absurd w (by decide), fun w => absurd (w.2 k h0 (by omega)) e⟩
theorem FTE.no (h : FTG a (a 20) u x r k g) (hg : g ≠ 1) (hk : k ≤ a 12 r.toNat) : FTE 0 a q u x r := ⟨fun w => absurd w (by decide), fun w => absurd (h.mpr ⟨w.1.1, fun j h1 h2 => w.1.2 j h1 (by omega)⟩) hg⟩
theorem FTE.cn (hc : ¬ CND a (a 20) q u x r) : FTE 0 a q u x r := ⟨fun w => absurd w (by decide), fun w => absurd w.2 hc⟩
theorem FTE.cy (h : FTG a (a 20) u x r k g) (hg : g = 1) (hk : a 12 r.toNat ≤ k) (hc : CND a (a 20) q u x r) : FTE 1 a q u x r := ⟨fun _ => ⟨⟨(h.mp hg).1, fun j h1 h2 => (h.mp hg).2 j h1 (by omega)⟩, hc⟩, fun _ => rfl⟩
theorem OWI.zero : OWI a W q u x t (-1) (200 * t) := Or.inl ⟨rfl, fun s h1 h2 => absurd h1 (by omega)⟩
theorem OWI.rg (h : OWI a W q u x t b r) : b = -1 ∨ (200 * t ≤ b ∧ b < r ∧ x + a 12 b.toNat ≤ u) := by
  rcases h with ⟨h1, _⟩ | ⟨h1, h2, _⟩
  · exact Or.inl h1
  · exact Or.inr ⟨h1.1, h1.2, h2.1.1⟩
theorem OWI.skip (h : OWI a W q u x t b r) (hb : 200 * t ≤ b) (hl : a 12 r.toNat ≤ a 12 b.toNat) (h0 : 0 ≤ t) : OWI a W q u x t b (r + 1) := by
  rcases h with ⟨h1, _⟩ | ⟨h1, h2, h3⟩
  · omega
  · refine Or.inr ⟨⟨h1.1, by omega⟩, h2, fun s s1 s2 s3 => ?_⟩
    by_cases w : s < r
    · exact h3 s s1 w s3
    · rw [show s = r by omega]; exact ⟨hl, fun e => absurd e (by omega)⟩
theorem OWI.miss (h : OWI a W q u x t b r) (hf : ¬ FIT a W q u x r) : OWI a W q u x t b (r + 1) := by
  rcases h with ⟨h1, h2⟩ | ⟨h1, h2, h3⟩
  · exact Or.inl ⟨h1, fun s s1 s2 => by
      by_cases w : s < r
      · exact h2 s s1 w
      · rw [show s = r by omega]; exact hf⟩
  · refine Or.inr ⟨⟨h1.1, by omega⟩, h2, fun s s1 s2 s3 => ?_⟩
    by_cases w : s < r
    · exact h3 s s1 w s3
    · rw [show s = r by omega] at s3; exact absurd s3 hf
theorem OWI.hit (h : OWI a W q u x t b r) (hr : 200 * t ≤ r) (hl : b < 0 ∨ a 12 b.toNat < a 12 r.toNat) (h0 : 0 ≤ t) (hf : FIT a W q u x r) : OWI a W q u x t r (r + 1) := by
  refine Or.inr ⟨⟨hr, by omega⟩, hf, fun s s1 s2 s3 => ?_⟩
  by_cases w : s < r
  · rcases h with ⟨h1, h2⟩ | ⟨h1, h2, h3⟩
    · exact absurd s3 (h2 s s1 w)
    · have g := h3 s s1 w s3
      exact ⟨by omega, fun _ => by omega⟩
  · rw [show s = r by omega]; exact ⟨Int.le_refl _, fun e => absurd e (by omega)⟩
theorem OWR.rg (h : OWR a W q u x t r) : r = -1 ∨ (200 * t ≤ r ∧ r < 200 * t + a 10 t.toNat ∧ x + a 12 r.toNat ≤ u) := OWI.rg h
theorem OWR.uni (h0 : 0 ≤ t) (h : OWR a W q u x t r) (h2 : OWR a W q u x t s) : r = s := by
  rcases h with ⟨p1, p2⟩ | ⟨p1, p2, p3⟩ <;> rcases h2 with ⟨q1, q2⟩ | ⟨q1, q2, q3⟩
  · omega
  · exact absurd q2 (p2 s q1.1 q1.2)
  · exact absurd p2 (q2 r p1.1 p1.2)
  · have g1 := p3 s q1.1 q1.2 q2
    have g2 := q3 r p1.1 p1.2 p2
    by_cases w : r < s
    · have := g2.2 w; omega
    · by_cases w2 : s < r
      · have := g1.2 w2; omega
      · omega
theorem fnd_s (n : Nat) : fnd a q u x (n + 1) W t r = ((a 6 t.toNat = 1 → ∃ y z, OWR a W q u x t y ∧ fnd a q u x n W (a 8 t.toNat) z ∧ r = cmb a y z) ∧ (a 6 t.toNat = 2 → (isD (W x.toNat) → OWR a W q u x t r) ∧ (¬ isD (W x.toNat) → fnd a q u x n W (a 8 t.toNat) r)) ∧ (a 6 t.toNat = 3 → ∃ y z, OWR a (va_up W x.toNat (sml (W x.toNat))) q u x t y ∧ fnd a q u x n (va_up W x.toNat (sml (W x.toNat))) (a 8 t.toNat) z ∧ r = cmb a y z) ∧ (a 6 t.toNat < 1 ∨ 3 < a 6 t.toNat → OWR a W q u x t r)) := rfl
theorem fnd_uni (hT : TBL v a) : ∀ (n m : Nat) (W : Nat → Int) (t r s : Int), 0 ≤ t → t < v 4 → fnd a q u x n W t r → fnd a q u x m W t s → r = s := by
  intro n
  induction n with
  | zero => intro m W t r s _ _ h; exact False.elim h
  | succ n ih =>
    intro m W t r s h0 h4 h h2
    have ht := hT.1 t h0 h4
    have t8 : 1 ≤ a 6 t.toNat → a 6 t.toNat ≤ 3 → 0 ≤ a 8 t.toNat ∧ a 8 t.toNat < v 4 := by omega
    have t6 : a 6 t.toNat ≠ 1 → a 6 t.toNat ≠ 2 → a 6 t.toNat ≠ 3 → a 6 t.toNat < 1 ∨ 3 < a 6 t.toNat := by omega
    clear ht
    cases m with
    | zero => exact False.elim h2
    | succ m =>
      rw [fnd_s] at h h2
      obtain ⟨p1, p2, p3, p4⟩ := h
      obtain ⟨q1, q2, q3, q4⟩ := h2
      by_cases k1 : a 6 t.toNat = 1
      · obtain ⟨y, z, e1, e2, e3⟩ := p1 k1
        obtain ⟨y2, z2, d1, d2, d3⟩ := q1 k1
        have g1 := e1.uni h0 d1
        have g2 := ih m W _ z z2 (t8 (by omega) (by omega)).1 (t8 (by omega) (by omega)).2 e2 d2
        rw [e3, d3, g1, g2]
      · by_cases k2 : a 6 t.toNat = 2
        · by_cases c : isD (W x.toNat)
          · exact ((p2 k2).1 c).uni h0 ((q2 k2).1 c)
          · exact ih m W _ r s (t8 (by omega) (by omega)).1 (t8 (by omega) (by omega)).2 ((p2 k2).2 c) ((q2 k2).2 c)
        · by_cases k3 : a 6 t.toNat = 3
          · obtain ⟨y, z, e1, e2, e3⟩ := p3 k3
            obtain ⟨y2, z2, d1, d2, d3⟩ := q3 k3
            have g1 := e1.uni h0 d1
            have g2 := ih m _ _ z z2 (t8 (by omega) (by omega)).1 (t8 (by omega) (by omega)).2 e2 d2
            rw [e3, d3, g1, g2]
          · exact (p4 (t6 k1 k2 k3)).uni h0 (q4 (t6 k1 k2 k3))
theorem cmb_rg {P : Int → Prop} (hy : P y) (hz : P z) : P (cmb a y z) := by
  unfold cmb
  split
  · exact hz
  · exact hy
def FNP (a : Nat → Nat → Int) (u x r : Int) : Prop := r = -1 ∨ (0 ≤ r ∧ r < 6000 ∧ (1 ≤ a 12 r.toNat ∧ a 12 r.toNat ≤ 8) ∧ (1 ≤ a 13 r.toNat ∧ a 13 r.toNat ≤ 4) ∧ x + a 12 r.toNat ≤ u)
theorem own_rg (hT : TBL v a) (h30 : v 4 ≤ 30) (h0 : 0 ≤ t) (h4 : t < v 4) (h10 : a 10 t.toNat ≤ 200) (h : OWR a W q u x t r) : FNP a u x r := by
  rcases h.rg with e | ⟨e1, e2, e3⟩
  · exact Or.inl e
  · have g := hT.2 t r h0 h4 e1 e2
    exact Or.inr ⟨by omega, by omega, g.1, g.2, e3⟩
theorem OWR_cg (h10 : a1 10 = a 10) (h11 : a1 11 = a 11) (h12 : a1 12 = a 12) (h14 : a1 14 = a 14) : OWR a1 W q u x t r = OWR a W q u x t r := by
  unfold OWR OWI FIT FTL CND
  rw [h10, h11, h12, h14]
theorem cmb_cg (h12 : a1 12 = a 12) : cmb a1 y z = cmb a y z := by unfold cmb; rw [h12]
theorem fnd_cg (h6 : a1 6 = a 6) (h8 : a1 8 = a 8) (h10 : a1 10 = a 10) (h11 : a1 11 = a 11) (h12 : a1 12 = a 12) (h14 : a1 14 = a 14) : ∀ (n : Nat) (W : Nat → Int) (t r : Int), fnd a1 q u x n W t r → fnd a q u x n W t r := by
  intro n
  induction n with
  | zero => intro W t r h; exact h
  | succ n ih =>
    intro W t r h
    rw [fnd_s, h6, h8] at h
    rw [fnd_s]
    obtain ⟨p1, p2, p3, p4⟩ := h
    refine ⟨fun k => ?_, fun k => ⟨fun c => ?_, fun c => ?_⟩, fun k => ?_, fun k => ?_⟩
    · obtain ⟨y, z, e1, e2, e3⟩ := p1 k
      rw [OWR_cg h10 h11 h12 h14] at e1
      rw [cmb_cg h12] at e3
      exact ⟨y, z, e1, ih _ _ _ e2, e3⟩
    · have e := (p2 k).1 c
      rw [OWR_cg h10 h11 h12 h14] at e
      exact e
    · exact ih _ _ _ ((p2 k).2 c)
    · obtain ⟨y, z, e1, e2, e3⟩ := p3 k
      rw [OWR_cg h10 h11 h12 h14] at e1
      rw [cmb_cg h12] at e3
      exact ⟨y, z, e1, ih _ _ _ e2, e3⟩
    · have e := p4 k
      rw [OWR_cg h10 h11 h12 h14] at e
      exact e
def CTD (a : Nat → Nat → Int) (q u x : Int) (n : Nat) (W : Nat → Int) (t f : Int) : Prop := ∃ y z, OWR a W q u x t y ∧ fnd a q u x n W (a 8 t.toNat) z ∧ f = cmb a y z
theorem CTD.mk (f1 : fr V1 [27] v a v1 a1) (f2 : fr V1 [27] v a v2 a2) (h1 : OWR a1 (a1 20) q u x t y) (h2 : fnd a2 q u x n (a2 20) (a 8 t.toNat) z) (hf : f = cmb a y z) : CTD a q u x n (a 20) t f := by
  refine hv2 (show a1 20 = a 20 from f1.2 20 rfl) (show a2 20 = a 20 from f2.2 20 rfl) (fun w1 w2 => ?_)
  rw [w1, OWR_cg (f1.2 10 rfl) (f1.2 11 rfl) (f1.2 12 rfl) (f1.2 14 rfl)] at h1
  rw [w2] at h2
  exact ⟨y, z, h1, fnd_cg (f2.2 6 rfl) (f2.2 8 rfl) (f2.2 10 rfl) (f2.2 11 rfl) (f2.2 12 rfl) (f2.2 14 rfl) n _ _ _ h2, hf⟩
theorem CTD.cg {A : List Nat} (f1 : fr V1 A v a v1 a1) (hA : ([6, 8, 10, 11, 12, 14] : List Nat).all (fun j => !A.contains j) = true) (h : CTD a1 q u x n W t f) : CTD a q u x n W t f := by
  have g : ∀ j, j ∈ ([6, 8, 10, 11, 12, 14] : List Nat) → a1 j = a j := fun j hj => f1.2 j (by have := List.all_eq_true.mp hA j hj; simpa using this)
  have g6 := g 6 (by decide); have g8 := g 8 (by decide); have g10 := g 10 (by decide); have g11 := g 11 (by decide); have g12 := g 12 (by decide); have g14 := g 14 (by decide)
  obtain ⟨y, z, e1, e2, e3⟩ := h
  rw [OWR_cg g10 g11 g12 g14] at e1
  rw [g8] at e2
  rw [cmb_cg g12] at e3
  exact ⟨y, z, e1, fnd_cg g6 g8 g10 g11 g12 g14 n _ _ _ e2, e3⟩
theorem fnd.k1 (h6 : a 6 t.toNat = 1) (h : CTD a q u x n W t f) : fnd a q u x (n + 1) W t f := ⟨fun _ => h, fun e => absurd e (by omega), fun e => absurd e (by omega), fun e => absurd e (by omega)⟩
theorem fnd.k2 (h6 : a 6 t.toNat = 2) (hc : isD (W x.toNat)) (h : OWR a W q u x t f) : fnd a q u x (n + 1) W t f := ⟨fun e => absurd e (by omega), fun _ => ⟨fun _ => h, fun e => absurd hc e⟩, fun e => absurd e (by omega), fun e => absurd e (by omega)⟩
theorem fnd.k2n (h6 : a 6 t.toNat = 2) (hc : ¬ isD (W x.toNat)) (h : fnd a q u x n W (a 8 t.toNat) f) : fnd a q u x (n + 1) W t f := ⟨fun e => absurd e (by omega), fun _ => ⟨fun e => absurd e hc, fun _ => h⟩, fun e => absurd e (by omega), fun e => absurd e (by omega)⟩
theorem fnd.k3 {Z : Nat → Int} (h6 : a 6 t.toNat = 3) (hZ : Z = va_up W x.toNat (sml (W x.toNat))) (h : CTD a q u x n Z t f) : fnd a q u x (n + 1) W t f := by
  subst hZ
  exact ⟨fun e => absurd e (by omega), fun e => absurd e (by omega), fun _ => h, fun e => absurd e (by omega)⟩
theorem fnd.k0 (h6 : a 6 t.toNat < 1 ∨ 3 < a 6 t.toNat) (h : OWR a W q u x t f) : fnd a q u x (n + 1) W t f := ⟨fun e => absurd e (by omega), fun e => absurd e (by omega), fun e => absurd e (by omega), fun _ => h⟩
theorem OWR.fx (f1 : fr V1 [27] v a v1 a1) (h1 : OWR a1 (a1 20) q u x t y) : OWR a (a 20) q u x t y := by
  have w1 : a1 20 = a 20 := f1.2 20 rfl
  rw [w1, OWR_cg (f1.2 10 rfl) (f1.2 11 rfl) (f1.2 12 rfl) (f1.2 14 rfl)] at h1
  exact h1
theorem fnd.fx (f1 : fr V1 [27] v a v1 a1) (h1 : fnd a1 q u x n (a1 20) t y) : fnd a q u x n (a 20) t y := by
  have w1 : a1 20 = a 20 := f1.2 20 rfl
  rw [w1] at h1
  exact fnd_cg (f1.2 6 rfl) (f1.2 8 rfl) (f1.2 10 rfl) (f1.2 11 rfl) (f1.2 12 rfl) (f1.2 14 rfl) n _ _ _ h1
end FNDS
set_option maxHeartbeats 4000000 in
set_option maxRecDepth 100000 in
theorem E_fits {l : Launch} {G : GT} {h0 : Nat} {ad ln : Nat → Nat} {v : Nat → Int} {a : Nat → Nat → Int}  {w q u x : Int} (hB : BX v a) (hr : 0 ≤ w ∧ w < 6000) (h12 : 1 ≤ a 12 w.toNat ∧ a 12 w.toNat ≤ 8) (hx : 0 ≤ q ∧ q ≤ x ∧ x < u ∧ u ≤ 500) : Mm l G yX12_fits cX12_fits 9 (some .boolean) 1 [.int (iI w), .int (iI q), .int (iI u), .int (iI x)] h0 ad ln v a 0 0 (fun r v2 a2 => ∃ f : Int, r = some (.int (iI f)) ∧ fr [] [] v a v2 a2 ∧ BX v2 a2 ∧ ((f = 0 ∨ f = 1) ∧ FTE f a q u x w)) := by
  refine Mm.mk (by decide) (Nat.le_of_ble_eq_true rfl) ?_
  intro p e s m args below meth c A C
  have fp0 : fr [] [] v a v a := fr.refl
  refine m_aload_n (j := 0) C dX12_fits_0 rfl ?_
  refine m_geta (k := 12) C dX12_fits_1 w6_71 (by decide) rfl ?_
  refine m_iload_n (j := 1) C dX12_fits_4 rfl ?_
  refine m_ald (k := 12) C dX12_fits_5 rfl rfl (by decide) (by omega) (by show _ < ((_ : Nat) : Int); simp only [mlen]; omega) (by decide) ?_
  have ra1 : 0 ≤ a 12 w.toNat ∧ a 12 w.toNat ≤ 8 := hB.2 12 (w.toNat)
  refine m_istore (lv2 := [(5, .int (iI (a 12 w.toNat))), (0, .ref h0), (1, .int (iI w)), (2, .int (iI q)), (3, .int (iI u)), (4, .int (iI x))]) C dX12_fits_6 (by decide) rfl ?_
  have Lp1 : ∀ (nn : Nat) (g k : Int) (vb1 : Nat → Int) (ab1 : Nat → Nat → Int), 9 - k < (nn : Int) → BX vb1 ab1 → fr [] [] v a vb1 ab1 → (g = 0 ∨ g = 1) → (0 ≤ k ∧ k ≤ a 12 w.toNat) → (g = 0 ∨ x + a 12 w.toNat ≤ u) → (FTG a (a 20) u x w k g) → mw p l e (rmq 1 0 0) s m args below meth c G A 9 (MQ below (Qm G A (fun rq Lq Eq => ∃ (vq : Nat → Int) (aq : Nat → Nat → Int), mI G h0 ad ln vq aq Lq Eq ∧ (fun r v2 a2 => ∃ f : Int, r = some (.int (iI f)) ∧ fr [] [] v a v2 a2 ∧ BX v2 a2 ∧ ((f = 0 ∨ f = 1) ∧ FTE f a q u x w)) rq vq aq)) args s 0 0 A) h0 ad ln vb1 ab1 0 0 27 [(6, .int (iI g)), (7, .int (iI k)), (5, .int (iI (a 12 w.toNat))), (0, .ref h0), (1, .int (iI w)), (2, .int (iI q)), (3, .int (iI u)), (4, .int (iI x))] [] := by
    intro nn
    induction nn with
    | zero =>
      intro g k vb1 ab1 hm bxb1 fpb1 hg hk hu hF
      obtain ⟨rfl, rfl⟩ := fpb1.eq
      exact absurd hm (by omega)
    | succ nn ih1 =>
      intro g k vb1 ab1 hm bxb1 fpb1 hg hk hu hF
      obtain ⟨rfl, rfl⟩ := fpb1.eq
      refine m_iload (j := 1) C dX12_fits_27 rfl ?_
      refine m_iload (j := 2) C dX12_fits_29 rfl ?_
      refine m_icmp_ge (tgt := 77) C ⟨by omega, by omega⟩ (r32_c (lo := 0) (hi := 8) ra1.1 ra1.2 (by decide) (by decide)) dX12_fits_31 (by decide) (fun c1 => ?_) (fun c1 => ?_)
      · refine m_iload (j := 0) C dX12_fits_77 rfl ?_
        refine m_if_ne (tgt := 84) C (r32_01 hg) dX12_fits_79 (by decide) (fun c2 => ?_) (fun c2 => ?_)
        · replace hg := (hg.resolve_left c2)
          replace hu := (hu.resolve_left c2)
          refine m_iload (j := 7) C dX12_fits_84 rfl ?_
          refine m_iload_n (j := 5) C dX12_fits_86 rfl ?_
          refine m_icmp_ne (tgt := 94) C ⟨by omega, by omega⟩ ⟨by omega, by omega⟩ dX12_fits_87 (by decide) (fun c3 => ?_) (fun c3 => ?_)
          · refine m_iconst C dX12_fits_94 ?_
            refine m_istore (lv2 := [(7, .int (iI 0)), (6, .int (iI g)), (5, .int (iI (a 12 w.toNat))), (0, .ref h0), (1, .int (iI w)), (2, .int (iI q)), (3, .int (iI u)), (4, .int (iI x))]) C dX12_fits_95 (by decide) rfl ?_
            refine m_iload (j := 7) C dX12_fits_97 rfl ?_
            refine m_iload (j := 2) C dX12_fits_99 rfl ?_
            refine m_iadd C dX12_fits_101 ?_
            refine m_iload_n (j := 6) C dX12_fits_102 rfl ?_
            refine m_icmp_ne (tgt := 110) C ⟨by omega, by omega⟩ ⟨by omega, by omega⟩ dX12_fits_103 (by decide) (fun c4 => ?_) (fun c4 => ?_)
            · refine m_iconst C dX12_fits_110 ?_
              refine m_istore (lv2 := [(8, .int (iI 0)), (7, .int (iI 0)), (6, .int (iI g)), (5, .int (iI (a 12 w.toNat))), (0, .ref h0), (1, .int (iI w)), (2, .int (iI q)), (3, .int (iI u)), (4, .int (iI x))]) C dX12_fits_111 (by decide) rfl ?_
              refine m_aload_n (j := 4) C dX12_fits_113 rfl ?_
              refine m_geta (k := 11) C dX12_fits_114 w6_70 (by decide) rfl ?_
              refine m_iload_n (j := 5) C dX12_fits_117 rfl ?_
              refine m_ald (k := 11) C dX12_fits_118 rfl rfl (by decide) (by omega) (by show _ < ((_ : Nat) : Int); simp only [mlen]; omega) (by decide) ?_
              have ra2 : (-2147483648) ≤ a 11 w.toNat ∧ a 11 w.toNat ≤ 2147483647 := bxb1.2 11 (w.toNat)
              rcases (show (a 11 w.toNat) = 0 ∨ (a 11 w.toNat) = 1 ∨ (a 11 w.toNat) = 2 ∨ (a 11 w.toNat) = 3 ∨ (a 11 w.toNat) = 4 ∨ ((a 11 w.toNat) < 0 ∨ 4 < (a 11 w.toNat)) by omega) with sw1 | sw1 | sw1 | sw1 | sw1 | sw1
              · refine m_tabIn (tgt := 152) (off := 33) C (r32_c (lo := (-2147483648)) (hi := 2147483647) ra2.1 ra2.2 (by decide) (by decide)) dX12_fits_119 (by omega) (by omega) (by rw [sw1]; rfl) (by decide) ?_
                refine m_iconst C dX12_fits_152 ?_
                exact m_zret C dX12_fits_153 rfl (Or.inr rfl) (Nat.le_of_ble_eq_true rfl) (Nat.le_of_ble_eq_true rfl) ⟨1, rfl, fpb1, bxb1, ⟨by omega, FTE.cy hF (by omega) (by omega) (by unfold CND isD isG isS; omega)⟩⟩
              · refine m_tabIn (tgt := 154) (off := 35) C (r32_c (lo := (-2147483648)) (hi := 2147483647) ra2.1 ra2.2 (by decide) (by decide)) dX12_fits_119 (by omega) (by omega) (by rw [sw1]; rfl) (by decide) ?_
                refine m_iload (j := 1) C dX12_fits_154 rfl ?_
                exact m_zret C dX12_fits_156 rfl (Or.inl rfl) (Nat.le_of_ble_eq_true rfl) (Nat.le_of_ble_eq_true rfl) ⟨0, rfl, fpb1, bxb1, ⟨by omega, FTE.cn (fun h => by unfold CND isD isG isS at h; omega)⟩⟩
              · refine m_tabIn (tgt := 157) (off := 38) C (r32_c (lo := (-2147483648)) (hi := 2147483647) ra2.1 ra2.2 (by decide) (by decide)) dX12_fits_119 (by omega) (by omega) (by rw [sw1]; rfl) (by decide) ?_
                refine m_iload (j := 1) C dX12_fits_157 rfl ?_
                refine m_if_ne (tgt := 171) C ⟨by decide, by decide⟩ dX12_fits_159 (by decide) (fun z => absurd z (by omega)) (fun _ => ?_)
                refine m_iload (j := 0) C dX12_fits_162 rfl ?_
                refine m_if_ne (tgt := 171) C ⟨by decide, by decide⟩ dX12_fits_164 (by decide) (fun z => absurd z (by omega)) (fun _ => ?_)
                refine m_iconst C dX12_fits_167 ?_
                refine m_goto (tgt := 172) C dX12_fits_168 (by decide) ?_
                exact m_zret C dX12_fits_172 rfl (Or.inr rfl) (Nat.le_of_ble_eq_true rfl) (Nat.le_of_ble_eq_true rfl) ⟨1, rfl, fpb1, bxb1, ⟨by omega, FTE.cy hF (by omega) (by omega) (by unfold CND isD isG isS; omega)⟩⟩
              · refine m_tabIn (tgt := 173) (off := 54) C (r32_c (lo := (-2147483648)) (hi := 2147483647) ra2.1 ra2.2 (by decide) (by decide)) dX12_fits_119 (by omega) (by omega) (by rw [sw1]; rfl) (by decide) ?_
                refine m_iload (j := 0) C dX12_fits_173 rfl ?_
                exact m_zret C dX12_fits_175 rfl (Or.inl rfl) (Nat.le_of_ble_eq_true rfl) (Nat.le_of_ble_eq_true rfl) ⟨0, rfl, fpb1, bxb1, ⟨by omega, FTE.cn (fun h => by unfold CND isD isG isS at h; omega)⟩⟩
              · refine m_tabIn (tgt := 176) (off := 57) C (r32_c (lo := (-2147483648)) (hi := 2147483647) ra2.1 ra2.2 (by decide) (by decide)) dX12_fits_119 (by omega) (by omega) (by rw [sw1]; rfl) (by decide) ?_
                refine m_iload (j := 1) C dX12_fits_176 rfl ?_
                refine m_if_eq (tgt := 190) C ⟨by decide, by decide⟩ dX12_fits_178 (by decide) (fun _ => ?_) (fun z => absurd z (by omega))
                refine m_iconst C dX12_fits_190 ?_
                exact m_zret C dX12_fits_191 rfl (Or.inl rfl) (Nat.le_of_ble_eq_true rfl) (Nat.le_of_ble_eq_true rfl) ⟨0, rfl, fpb1, bxb1, ⟨by omega, FTE.cn (fun h => by unfold CND isD isG isS at h; omega)⟩⟩
              · refine m_tabOut (tgt := 192) C (r32_c (lo := (-2147483648)) (hi := 2147483647) ra2.1 ra2.2 (by decide) (by decide)) dX12_fits_119 sw1 (by decide) ?_
                refine m_iload (j := 0) C dX12_fits_192 rfl ?_
                refine m_if_ne (tgt := 249) C ⟨by decide, by decide⟩ dX12_fits_194 (by decide) (fun z => absurd z (by omega)) (fun _ => ?_)
                refine m_aload_n (j := 4) C dX12_fits_197 rfl ?_
                refine m_geta (k := 20) C dX12_fits_198 w6_79 (by decide) rfl ?_
                refine m_iload (j := 8) C dX12_fits_201 rfl ?_
                refine m_iload (j := 3) C dX12_fits_203 rfl ?_
                refine m_iadd C dX12_fits_205 ?_
                refine m_ald (k := 20) C dX12_fits_206 rfl rfl (by decide) (by omega) (by show _ < ((_ : Nat) : Int); simp only [mlen]; omega) (by decide) ?_
                have ra3 : (-2147483648) ≤ a 20 (x + (a 12 w.toNat)).toNat ∧ a 20 (x + (a 12 w.toNat)).toNat ≤ 2147483647 := bxb1.2 20 ((x + (a 12 w.toNat)).toNat)
                refine m_callS (As := [.int (iI (a 20 (x + (a 12 w.toNat)).toNat))]) (rest := []) C (fun L E => s_isDigit (iI (a 20 (x + (a 12 w.toNat)).toNat))) dX12_fits_207 kS_X12_202 rfl rfl (Nat.le_of_ble_eq_true rfl) ⟨Nat.le_of_ble_eq_true rfl, Nat.le_of_ble_eq_true rfl⟩ ⟨Nat.le_of_ble_eq_true rfl, Nat.le_of_ble_eq_true rfl⟩ ?_
                rcases inn_c (x := a 20 (x + (a 12 w.toNat)).toNat) (lo := 48) (hi := 57) (r32_c (lo := (-2147483648)) (hi := 2147483647) ra3.1 ra3.2 (by decide) (by decide)) ⟨by decide, by decide⟩ ⟨by decide, by decide⟩ with ⟨h1a, h1b, h1e⟩ | ⟨h1a, h1e⟩
                · refine m_st (st2 := [.int (iI 1)]) (by rw [show inn (iI (a 20 (x + (a 12 w.toNat)).toNat)) 48 57 = iI 1 from h1e]) ?_
                  refine m_if_ne (tgt := 249) C ⟨by decide, by decide⟩ dX12_fits_210 (by decide) (fun _ => ?_) (fun z => absurd z (by omega))
                  refine m_iconst C dX12_fits_249 ?_
                  exact m_zret C dX12_fits_250 rfl (Or.inl rfl) (Nat.le_of_ble_eq_true rfl) (Nat.le_of_ble_eq_true rfl) ⟨0, rfl, fpb1, bxb1, ⟨by omega, FTE.cn (fun h => by unfold CND isD isG isS at h; omega)⟩⟩
                · refine m_st (st2 := [.int (iI 0)]) (by rw [show inn (iI (a 20 (x + (a 12 w.toNat)).toNat)) 48 57 = iI 0 from h1e]) ?_
                  refine m_if_ne (tgt := 249) C ⟨by decide, by decide⟩ dX12_fits_210 (by decide) (fun z => absurd z (by omega)) (fun _ => ?_)
                  refine m_aload_n (j := 4) C dX12_fits_213 rfl ?_
                  refine m_geta (k := 20) C dX12_fits_214 w6_79 (by decide) rfl ?_
                  refine m_iload (j := 8) C dX12_fits_217 rfl ?_
                  refine m_iload (j := 3) C dX12_fits_219 rfl ?_
                  refine m_iadd C dX12_fits_221 ?_
                  refine m_ald (k := 20) C dX12_fits_222 rfl rfl (by decide) (by omega) (by show _ < ((_ : Nat) : Int); simp only [mlen]; omega) (by decide) ?_
                  refine m_callS (As := [.int (iI (a 20 (x + (a 12 w.toNat)).toNat))]) (rest := []) C (fun L E => s_isGreat (iI (a 20 (x + (a 12 w.toNat)).toNat))) dX12_fits_223 kS_X12_205 rfl rfl (Nat.le_of_ble_eq_true rfl) ⟨Nat.le_of_ble_eq_true rfl, Nat.le_of_ble_eq_true rfl⟩ ⟨Nat.le_of_ble_eq_true rfl, Nat.le_of_ble_eq_true rfl⟩ ?_
                  rcases inn_c (x := a 20 (x + (a 12 w.toNat)).toNat) (lo := 65) (hi := 90) (r32_c (lo := (-2147483648)) (hi := 2147483647) ra3.1 ra3.2 (by decide) (by decide)) ⟨by decide, by decide⟩ ⟨by decide, by decide⟩ with ⟨h2a, h2b, h2e⟩ | ⟨h2a, h2e⟩
                  · refine m_st (st2 := [.int (iI 1)]) (by rw [show inn (iI (a 20 (x + (a 12 w.toNat)).toNat)) 65 90 = iI 1 from h2e]) ?_
                    refine m_if_ne (tgt := 249) C ⟨by decide, by decide⟩ dX12_fits_226 (by decide) (fun _ => ?_) (fun z => absurd z (by omega))
                    refine m_iconst C dX12_fits_249 ?_
                    exact m_zret C dX12_fits_250 rfl (Or.inl rfl) (Nat.le_of_ble_eq_true rfl) (Nat.le_of_ble_eq_true rfl) ⟨0, rfl, fpb1, bxb1, ⟨by omega, FTE.cn (fun h => by unfold CND isD isG isS at h; omega)⟩⟩
                  · refine m_st (st2 := [.int (iI 0)]) (by rw [show inn (iI (a 20 (x + (a 12 w.toNat)).toNat)) 65 90 = iI 0 from h2e]) ?_
                    refine m_if_ne (tgt := 249) C ⟨by decide, by decide⟩ dX12_fits_226 (by decide) (fun z => absurd z (by omega)) (fun _ => ?_)
                    refine m_aload_n (j := 4) C dX12_fits_229 rfl ?_
                    refine m_geta (k := 20) C dX12_fits_230 w6_79 (by decide) rfl ?_
                    refine m_iload (j := 8) C dX12_fits_233 rfl ?_
                    refine m_iload (j := 3) C dX12_fits_235 rfl ?_
                    refine m_iadd C dX12_fits_237 ?_
                    refine m_ald (k := 20) C dX12_fits_238 rfl rfl (by decide) (by omega) (by show _ < ((_ : Nat) : Int); simp only [mlen]; omega) (by decide) ?_
                    refine m_callS (As := [.int (iI (a 20 (x + (a 12 w.toNat)).toNat))]) (rest := []) C (fun L E => s_isSmall (iI (a 20 (x + (a 12 w.toNat)).toNat))) dX12_fits_239 kS_X12_208 rfl rfl (Nat.le_of_ble_eq_true rfl) ⟨Nat.le_of_ble_eq_true rfl, Nat.le_of_ble_eq_true rfl⟩ ⟨Nat.le_of_ble_eq_true rfl, Nat.le_of_ble_eq_true rfl⟩ ?_
                    rcases inn_c (x := a 20 (x + (a 12 w.toNat)).toNat) (lo := 97) (hi := 122) (r32_c (lo := (-2147483648)) (hi := 2147483647) ra3.1 ra3.2 (by decide) (by decide)) ⟨by decide, by decide⟩ ⟨by decide, by decide⟩ with ⟨h3a, h3b, h3e⟩ | ⟨h3a, h3e⟩
                    · refine m_st (st2 := [.int (iI 1)]) (by rw [show inn (iI (a 20 (x + (a 12 w.toNat)).toNat)) 97 122 = iI 1 from h3e]) ?_
                      refine m_if_ne (tgt := 249) C ⟨by decide, by decide⟩ dX12_fits_242 (by decide) (fun _ => ?_) (fun z => absurd z (by omega))
                      refine m_iconst C dX12_fits_249 ?_
                      exact m_zret C dX12_fits_250 rfl (Or.inl rfl) (Nat.le_of_ble_eq_true rfl) (Nat.le_of_ble_eq_true rfl) ⟨0, rfl, fpb1, bxb1, ⟨by omega, FTE.cn (fun h => by unfold CND isD isG isS at h; omega)⟩⟩
                    · refine m_st (st2 := [.int (iI 0)]) (by rw [show inn (iI (a 20 (x + (a 12 w.toNat)).toNat)) 97 122 = iI 0 from h3e]) ?_
                      refine m_if_ne (tgt := 249) C ⟨by decide, by decide⟩ dX12_fits_242 (by decide) (fun z => absurd z (by omega)) (fun _ => ?_)
                      refine m_iconst C dX12_fits_245 ?_
                      refine m_goto (tgt := 250) C dX12_fits_246 (by decide) ?_
                      exact m_zret C dX12_fits_250 rfl (Or.inr rfl) (Nat.le_of_ble_eq_true rfl) (Nat.le_of_ble_eq_true rfl) ⟨1, rfl, fpb1, bxb1, ⟨by omega, FTE.cy hF (by omega) (by omega) (by unfold CND isD isG isS; omega)⟩⟩
            · refine m_iconst C dX12_fits_106 ?_
              refine m_goto (tgt := 111) C dX12_fits_107 (by decide) ?_
              refine m_istore (lv2 := [(8, .int (iI 1)), (7, .int (iI 0)), (6, .int (iI g)), (5, .int (iI (a 12 w.toNat))), (0, .ref h0), (1, .int (iI w)), (2, .int (iI q)), (3, .int (iI u)), (4, .int (iI x))]) C dX12_fits_111 (by decide) rfl ?_
              refine m_aload_n (j := 4) C dX12_fits_113 rfl ?_
              refine m_geta (k := 11) C dX12_fits_114 w6_70 (by decide) rfl ?_
              refine m_iload_n (j := 5) C dX12_fits_117 rfl ?_
              refine m_ald (k := 11) C dX12_fits_118 rfl rfl (by decide) (by omega) (by show _ < ((_ : Nat) : Int); simp only [mlen]; omega) (by decide) ?_
              have ra4 : (-2147483648) ≤ a 11 w.toNat ∧ a 11 w.toNat ≤ 2147483647 := bxb1.2 11 (w.toNat)
              rcases (show (a 11 w.toNat) = 0 ∨ (a 11 w.toNat) = 1 ∨ (a 11 w.toNat) = 2 ∨ (a 11 w.toNat) = 3 ∨ (a 11 w.toNat) = 4 ∨ ((a 11 w.toNat) < 0 ∨ 4 < (a 11 w.toNat)) by omega) with sw2 | sw2 | sw2 | sw2 | sw2 | sw2
              · refine m_tabIn (tgt := 152) (off := 33) C (r32_c (lo := (-2147483648)) (hi := 2147483647) ra4.1 ra4.2 (by decide) (by decide)) dX12_fits_119 (by omega) (by omega) (by rw [sw2]; rfl) (by decide) ?_
                refine m_iconst C dX12_fits_152 ?_
                exact m_zret C dX12_fits_153 rfl (Or.inr rfl) (Nat.le_of_ble_eq_true rfl) (Nat.le_of_ble_eq_true rfl) ⟨1, rfl, fpb1, bxb1, ⟨by omega, FTE.cy hF (by omega) (by omega) (by unfold CND isD isG isS; omega)⟩⟩
              · refine m_tabIn (tgt := 154) (off := 35) C (r32_c (lo := (-2147483648)) (hi := 2147483647) ra4.1 ra4.2 (by decide) (by decide)) dX12_fits_119 (by omega) (by omega) (by rw [sw2]; rfl) (by decide) ?_
                refine m_iload (j := 1) C dX12_fits_154 rfl ?_
                exact m_zret C dX12_fits_156 rfl (Or.inl rfl) (Nat.le_of_ble_eq_true rfl) (Nat.le_of_ble_eq_true rfl) ⟨0, rfl, fpb1, bxb1, ⟨by omega, FTE.cn (fun h => by unfold CND isD isG isS at h; omega)⟩⟩
              · refine m_tabIn (tgt := 157) (off := 38) C (r32_c (lo := (-2147483648)) (hi := 2147483647) ra4.1 ra4.2 (by decide) (by decide)) dX12_fits_119 (by omega) (by omega) (by rw [sw2]; rfl) (by decide) ?_
                refine m_iload (j := 1) C dX12_fits_157 rfl ?_
                refine m_if_ne (tgt := 171) C ⟨by decide, by decide⟩ dX12_fits_159 (by decide) (fun z => absurd z (by omega)) (fun _ => ?_)
                refine m_iload (j := 0) C dX12_fits_162 rfl ?_
                refine m_if_ne (tgt := 171) C ⟨by decide, by decide⟩ dX12_fits_164 (by decide) (fun _ => ?_) (fun z => absurd z (by omega))
                refine m_iconst C dX12_fits_171 ?_
                exact m_zret C dX12_fits_172 rfl (Or.inl rfl) (Nat.le_of_ble_eq_true rfl) (Nat.le_of_ble_eq_true rfl) ⟨0, rfl, fpb1, bxb1, ⟨by omega, FTE.cn (fun h => by unfold CND isD isG isS at h; omega)⟩⟩
              · refine m_tabIn (tgt := 173) (off := 54) C (r32_c (lo := (-2147483648)) (hi := 2147483647) ra4.1 ra4.2 (by decide) (by decide)) dX12_fits_119 (by omega) (by omega) (by rw [sw2]; rfl) (by decide) ?_
                refine m_iload (j := 0) C dX12_fits_173 rfl ?_
                exact m_zret C dX12_fits_175 rfl (Or.inr rfl) (Nat.le_of_ble_eq_true rfl) (Nat.le_of_ble_eq_true rfl) ⟨1, rfl, fpb1, bxb1, ⟨by omega, FTE.cy hF (by omega) (by omega) (by unfold CND isD isG isS; omega)⟩⟩
              · refine m_tabIn (tgt := 176) (off := 57) C (r32_c (lo := (-2147483648)) (hi := 2147483647) ra4.1 ra4.2 (by decide) (by decide)) dX12_fits_119 (by omega) (by omega) (by rw [sw2]; rfl) (by decide) ?_
                refine m_iload (j := 1) C dX12_fits_176 rfl ?_
                refine m_if_eq (tgt := 190) C ⟨by decide, by decide⟩ dX12_fits_178 (by decide) (fun _ => ?_) (fun z => absurd z (by omega))
                refine m_iconst C dX12_fits_190 ?_
                exact m_zret C dX12_fits_191 rfl (Or.inl rfl) (Nat.le_of_ble_eq_true rfl) (Nat.le_of_ble_eq_true rfl) ⟨0, rfl, fpb1, bxb1, ⟨by omega, FTE.cn (fun h => by unfold CND isD isG isS at h; omega)⟩⟩
              · refine m_tabOut (tgt := 192) C (r32_c (lo := (-2147483648)) (hi := 2147483647) ra4.1 ra4.2 (by decide) (by decide)) dX12_fits_119 sw2 (by decide) ?_
                refine m_iload (j := 0) C dX12_fits_192 rfl ?_
                refine m_if_ne (tgt := 249) C ⟨by decide, by decide⟩ dX12_fits_194 (by decide) (fun _ => ?_) (fun z => absurd z (by omega))
                refine m_iconst C dX12_fits_249 ?_
                exact m_zret C dX12_fits_250 rfl (Or.inl rfl) (Nat.le_of_ble_eq_true rfl) (Nat.le_of_ble_eq_true rfl) ⟨0, rfl, fpb1, bxb1, ⟨by omega, FTE.cn (fun h => by unfold CND isD isG isS at h; omega)⟩⟩
          · refine m_iconst C dX12_fits_90 ?_
            refine m_goto (tgt := 95) C dX12_fits_91 (by decide) ?_
            refine m_istore (lv2 := [(7, .int (iI 1)), (6, .int (iI g)), (5, .int (iI (a 12 w.toNat))), (0, .ref h0), (1, .int (iI w)), (2, .int (iI q)), (3, .int (iI u)), (4, .int (iI x))]) C dX12_fits_95 (by decide) rfl ?_
            refine m_iload (j := 7) C dX12_fits_97 rfl ?_
            refine m_iload (j := 2) C dX12_fits_99 rfl ?_
            refine m_iadd C dX12_fits_101 ?_
            refine m_iload_n (j := 6) C dX12_fits_102 rfl ?_
            refine m_icmp_ne (tgt := 110) C ⟨by omega, by omega⟩ ⟨by omega, by omega⟩ dX12_fits_103 (by decide) (fun c5 => ?_) (fun c5 => ?_)
            · refine m_iconst C dX12_fits_110 ?_
              refine m_istore (lv2 := [(8, .int (iI 0)), (7, .int (iI 1)), (6, .int (iI g)), (5, .int (iI (a 12 w.toNat))), (0, .ref h0), (1, .int (iI w)), (2, .int (iI q)), (3, .int (iI u)), (4, .int (iI x))]) C dX12_fits_111 (by decide) rfl ?_
              refine m_aload_n (j := 4) C dX12_fits_113 rfl ?_
              refine m_geta (k := 11) C dX12_fits_114 w6_70 (by decide) rfl ?_
              refine m_iload_n (j := 5) C dX12_fits_117 rfl ?_
              refine m_ald (k := 11) C dX12_fits_118 rfl rfl (by decide) (by omega) (by show _ < ((_ : Nat) : Int); simp only [mlen]; omega) (by decide) ?_
              have ra5 : (-2147483648) ≤ a 11 w.toNat ∧ a 11 w.toNat ≤ 2147483647 := bxb1.2 11 (w.toNat)
              rcases (show (a 11 w.toNat) = 0 ∨ (a 11 w.toNat) = 1 ∨ (a 11 w.toNat) = 2 ∨ (a 11 w.toNat) = 3 ∨ (a 11 w.toNat) = 4 ∨ ((a 11 w.toNat) < 0 ∨ 4 < (a 11 w.toNat)) by omega) with sw3 | sw3 | sw3 | sw3 | sw3 | sw3
              · refine m_tabIn (tgt := 152) (off := 33) C (r32_c (lo := (-2147483648)) (hi := 2147483647) ra5.1 ra5.2 (by decide) (by decide)) dX12_fits_119 (by omega) (by omega) (by rw [sw3]; rfl) (by decide) ?_
                refine m_iconst C dX12_fits_152 ?_
                exact m_zret C dX12_fits_153 rfl (Or.inr rfl) (Nat.le_of_ble_eq_true rfl) (Nat.le_of_ble_eq_true rfl) ⟨1, rfl, fpb1, bxb1, ⟨by omega, FTE.cy hF (by omega) (by omega) (by unfold CND isD isG isS; omega)⟩⟩
              · refine m_tabIn (tgt := 154) (off := 35) C (r32_c (lo := (-2147483648)) (hi := 2147483647) ra5.1 ra5.2 (by decide) (by decide)) dX12_fits_119 (by omega) (by omega) (by rw [sw3]; rfl) (by decide) ?_
                refine m_iload (j := 1) C dX12_fits_154 rfl ?_
                exact m_zret C dX12_fits_156 rfl (Or.inr rfl) (Nat.le_of_ble_eq_true rfl) (Nat.le_of_ble_eq_true rfl) ⟨1, rfl, fpb1, bxb1, ⟨by omega, FTE.cy hF (by omega) (by omega) (by unfold CND isD isG isS; omega)⟩⟩
              · refine m_tabIn (tgt := 157) (off := 38) C (r32_c (lo := (-2147483648)) (hi := 2147483647) ra5.1 ra5.2 (by decide) (by decide)) dX12_fits_119 (by omega) (by omega) (by rw [sw3]; rfl) (by decide) ?_
                refine m_iload (j := 1) C dX12_fits_157 rfl ?_
                refine m_if_ne (tgt := 171) C ⟨by decide, by decide⟩ dX12_fits_159 (by decide) (fun _ => ?_) (fun z => absurd z (by omega))
                refine m_iconst C dX12_fits_171 ?_
                exact m_zret C dX12_fits_172 rfl (Or.inl rfl) (Nat.le_of_ble_eq_true rfl) (Nat.le_of_ble_eq_true rfl) ⟨0, rfl, fpb1, bxb1, ⟨by omega, FTE.cn (fun h => by unfold CND isD isG isS at h; omega)⟩⟩
              · refine m_tabIn (tgt := 173) (off := 54) C (r32_c (lo := (-2147483648)) (hi := 2147483647) ra5.1 ra5.2 (by decide) (by decide)) dX12_fits_119 (by omega) (by omega) (by rw [sw3]; rfl) (by decide) ?_
                refine m_iload (j := 0) C dX12_fits_173 rfl ?_
                exact m_zret C dX12_fits_175 rfl (Or.inl rfl) (Nat.le_of_ble_eq_true rfl) (Nat.le_of_ble_eq_true rfl) ⟨0, rfl, fpb1, bxb1, ⟨by omega, FTE.cn (fun h => by unfold CND isD isG isS at h; omega)⟩⟩
              · refine m_tabIn (tgt := 176) (off := 57) C (r32_c (lo := (-2147483648)) (hi := 2147483647) ra5.1 ra5.2 (by decide) (by decide)) dX12_fits_119 (by omega) (by omega) (by rw [sw3]; rfl) (by decide) ?_
                refine m_iload (j := 1) C dX12_fits_176 rfl ?_
                refine m_if_eq (tgt := 190) C ⟨by decide, by decide⟩ dX12_fits_178 (by decide) (fun z => absurd z (by omega)) (fun _ => ?_)
                refine m_iload (j := 0) C dX12_fits_181 rfl ?_
                refine m_if_eq (tgt := 190) C ⟨by decide, by decide⟩ dX12_fits_183 (by decide) (fun _ => ?_) (fun z => absurd z (by omega))
                refine m_iconst C dX12_fits_190 ?_
                exact m_zret C dX12_fits_191 rfl (Or.inl rfl) (Nat.le_of_ble_eq_true rfl) (Nat.le_of_ble_eq_true rfl) ⟨0, rfl, fpb1, bxb1, ⟨by omega, FTE.cn (fun h => by unfold CND isD isG isS at h; omega)⟩⟩
              · refine m_tabOut (tgt := 192) C (r32_c (lo := (-2147483648)) (hi := 2147483647) ra5.1 ra5.2 (by decide) (by decide)) dX12_fits_119 sw3 (by decide) ?_
                refine m_iload (j := 0) C dX12_fits_192 rfl ?_
                refine m_if_ne (tgt := 249) C ⟨by decide, by decide⟩ dX12_fits_194 (by decide) (fun z => absurd z (by omega)) (fun _ => ?_)
                refine m_aload_n (j := 4) C dX12_fits_197 rfl ?_
                refine m_geta (k := 20) C dX12_fits_198 w6_79 (by decide) rfl ?_
                refine m_iload (j := 8) C dX12_fits_201 rfl ?_
                refine m_iload (j := 3) C dX12_fits_203 rfl ?_
                refine m_iadd C dX12_fits_205 ?_
                refine m_ald (k := 20) C dX12_fits_206 rfl rfl (by decide) (by omega) (by show _ < ((_ : Nat) : Int); simp only [mlen]; omega) (by decide) ?_
                have ra6 : (-2147483648) ≤ a 20 (x + (a 12 w.toNat)).toNat ∧ a 20 (x + (a 12 w.toNat)).toNat ≤ 2147483647 := bxb1.2 20 ((x + (a 12 w.toNat)).toNat)
                refine m_callS (As := [.int (iI (a 20 (x + (a 12 w.toNat)).toNat))]) (rest := []) C (fun L E => s_isDigit (iI (a 20 (x + (a 12 w.toNat)).toNat))) dX12_fits_207 kS_X12_202 rfl rfl (Nat.le_of_ble_eq_true rfl) ⟨Nat.le_of_ble_eq_true rfl, Nat.le_of_ble_eq_true rfl⟩ ⟨Nat.le_of_ble_eq_true rfl, Nat.le_of_ble_eq_true rfl⟩ ?_
                rcases inn_c (x := a 20 (x + (a 12 w.toNat)).toNat) (lo := 48) (hi := 57) (r32_c (lo := (-2147483648)) (hi := 2147483647) ra6.1 ra6.2 (by decide) (by decide)) ⟨by decide, by decide⟩ ⟨by decide, by decide⟩ with ⟨h4a, h4b, h4e⟩ | ⟨h4a, h4e⟩
                · refine m_st (st2 := [.int (iI 1)]) (by rw [show inn (iI (a 20 (x + (a 12 w.toNat)).toNat)) 48 57 = iI 1 from h4e]) ?_
                  refine m_if_ne (tgt := 249) C ⟨by decide, by decide⟩ dX12_fits_210 (by decide) (fun _ => ?_) (fun z => absurd z (by omega))
                  refine m_iconst C dX12_fits_249 ?_
                  exact m_zret C dX12_fits_250 rfl (Or.inl rfl) (Nat.le_of_ble_eq_true rfl) (Nat.le_of_ble_eq_true rfl) ⟨0, rfl, fpb1, bxb1, ⟨by omega, FTE.cn (fun h => by unfold CND isD isG isS at h; omega)⟩⟩
                · refine m_st (st2 := [.int (iI 0)]) (by rw [show inn (iI (a 20 (x + (a 12 w.toNat)).toNat)) 48 57 = iI 0 from h4e]) ?_
                  refine m_if_ne (tgt := 249) C ⟨by decide, by decide⟩ dX12_fits_210 (by decide) (fun z => absurd z (by omega)) (fun _ => ?_)
                  refine m_aload_n (j := 4) C dX12_fits_213 rfl ?_
                  refine m_geta (k := 20) C dX12_fits_214 w6_79 (by decide) rfl ?_
                  refine m_iload (j := 8) C dX12_fits_217 rfl ?_
                  refine m_iload (j := 3) C dX12_fits_219 rfl ?_
                  refine m_iadd C dX12_fits_221 ?_
                  refine m_ald (k := 20) C dX12_fits_222 rfl rfl (by decide) (by omega) (by show _ < ((_ : Nat) : Int); simp only [mlen]; omega) (by decide) ?_
                  refine m_callS (As := [.int (iI (a 20 (x + (a 12 w.toNat)).toNat))]) (rest := []) C (fun L E => s_isGreat (iI (a 20 (x + (a 12 w.toNat)).toNat))) dX12_fits_223 kS_X12_205 rfl rfl (Nat.le_of_ble_eq_true rfl) ⟨Nat.le_of_ble_eq_true rfl, Nat.le_of_ble_eq_true rfl⟩ ⟨Nat.le_of_ble_eq_true rfl, Nat.le_of_ble_eq_true rfl⟩ ?_
                  rcases inn_c (x := a 20 (x + (a 12 w.toNat)).toNat) (lo := 65) (hi := 90) (r32_c (lo := (-2147483648)) (hi := 2147483647) ra6.1 ra6.2 (by decide) (by decide)) ⟨by decide, by decide⟩ ⟨by decide, by decide⟩ with ⟨h5a, h5b, h5e⟩ | ⟨h5a, h5e⟩
                  · refine m_st (st2 := [.int (iI 1)]) (by rw [show inn (iI (a 20 (x + (a 12 w.toNat)).toNat)) 65 90 = iI 1 from h5e]) ?_
                    refine m_if_ne (tgt := 249) C ⟨by decide, by decide⟩ dX12_fits_226 (by decide) (fun _ => ?_) (fun z => absurd z (by omega))
                    refine m_iconst C dX12_fits_249 ?_
                    exact m_zret C dX12_fits_250 rfl (Or.inl rfl) (Nat.le_of_ble_eq_true rfl) (Nat.le_of_ble_eq_true rfl) ⟨0, rfl, fpb1, bxb1, ⟨by omega, FTE.cn (fun h => by unfold CND isD isG isS at h; omega)⟩⟩
                  · refine m_st (st2 := [.int (iI 0)]) (by rw [show inn (iI (a 20 (x + (a 12 w.toNat)).toNat)) 65 90 = iI 0 from h5e]) ?_
                    refine m_if_ne (tgt := 249) C ⟨by decide, by decide⟩ dX12_fits_226 (by decide) (fun z => absurd z (by omega)) (fun _ => ?_)
                    refine m_aload_n (j := 4) C dX12_fits_229 rfl ?_
                    refine m_geta (k := 20) C dX12_fits_230 w6_79 (by decide) rfl ?_
                    refine m_iload (j := 8) C dX12_fits_233 rfl ?_
                    refine m_iload (j := 3) C dX12_fits_235 rfl ?_
                    refine m_iadd C dX12_fits_237 ?_
                    refine m_ald (k := 20) C dX12_fits_238 rfl rfl (by decide) (by omega) (by show _ < ((_ : Nat) : Int); simp only [mlen]; omega) (by decide) ?_
                    refine m_callS (As := [.int (iI (a 20 (x + (a 12 w.toNat)).toNat))]) (rest := []) C (fun L E => s_isSmall (iI (a 20 (x + (a 12 w.toNat)).toNat))) dX12_fits_239 kS_X12_208 rfl rfl (Nat.le_of_ble_eq_true rfl) ⟨Nat.le_of_ble_eq_true rfl, Nat.le_of_ble_eq_true rfl⟩ ⟨Nat.le_of_ble_eq_true rfl, Nat.le_of_ble_eq_true rfl⟩ ?_
                    rcases inn_c (x := a 20 (x + (a 12 w.toNat)).toNat) (lo := 97) (hi := 122) (r32_c (lo := (-2147483648)) (hi := 2147483647) ra6.1 ra6.2 (by decide) (by decide)) ⟨by decide, by decide⟩ ⟨by decide, by decide⟩ with ⟨h6a, h6b, h6e⟩ | ⟨h6a, h6e⟩
                    · refine m_st (st2 := [.int (iI 1)]) (by rw [show inn (iI (a 20 (x + (a 12 w.toNat)).toNat)) 97 122 = iI 1 from h6e]) ?_
                      refine m_if_ne (tgt := 249) C ⟨by decide, by decide⟩ dX12_fits_242 (by decide) (fun _ => ?_) (fun z => absurd z (by omega))
                      refine m_iconst C dX12_fits_249 ?_
                      exact m_zret C dX12_fits_250 rfl (Or.inl rfl) (Nat.le_of_ble_eq_true rfl) (Nat.le_of_ble_eq_true rfl) ⟨0, rfl, fpb1, bxb1, ⟨by omega, FTE.cn (fun h => by unfold CND isD isG isS at h; omega)⟩⟩
                    · refine m_st (st2 := [.int (iI 0)]) (by rw [show inn (iI (a 20 (x + (a 12 w.toNat)).toNat)) 97 122 = iI 0 from h6e]) ?_
                      refine m_if_ne (tgt := 249) C ⟨by decide, by decide⟩ dX12_fits_242 (by decide) (fun z => absurd z (by omega)) (fun _ => ?_)
                      refine m_iconst C dX12_fits_245 ?_
                      refine m_goto (tgt := 250) C dX12_fits_246 (by decide) ?_
                      exact m_zret C dX12_fits_250 rfl (Or.inr rfl) (Nat.le_of_ble_eq_true rfl) (Nat.le_of_ble_eq_true rfl) ⟨1, rfl, fpb1, bxb1, ⟨by omega, FTE.cy hF (by omega) (by omega) (by unfold CND isD isG isS; omega)⟩⟩
            · refine m_iconst C dX12_fits_106 ?_
              refine m_goto (tgt := 111) C dX12_fits_107 (by decide) ?_
              refine m_istore (lv2 := [(8, .int (iI 1)), (7, .int (iI 1)), (6, .int (iI g)), (5, .int (iI (a 12 w.toNat))), (0, .ref h0), (1, .int (iI w)), (2, .int (iI q)), (3, .int (iI u)), (4, .int (iI x))]) C dX12_fits_111 (by decide) rfl ?_
              refine m_aload_n (j := 4) C dX12_fits_113 rfl ?_
              refine m_geta (k := 11) C dX12_fits_114 w6_70 (by decide) rfl ?_
              refine m_iload_n (j := 5) C dX12_fits_117 rfl ?_
              refine m_ald (k := 11) C dX12_fits_118 rfl rfl (by decide) (by omega) (by show _ < ((_ : Nat) : Int); simp only [mlen]; omega) (by decide) ?_
              have ra7 : (-2147483648) ≤ a 11 w.toNat ∧ a 11 w.toNat ≤ 2147483647 := bxb1.2 11 (w.toNat)
              rcases (show (a 11 w.toNat) = 0 ∨ (a 11 w.toNat) = 1 ∨ (a 11 w.toNat) = 2 ∨ (a 11 w.toNat) = 3 ∨ (a 11 w.toNat) = 4 ∨ ((a 11 w.toNat) < 0 ∨ 4 < (a 11 w.toNat)) by omega) with sw4 | sw4 | sw4 | sw4 | sw4 | sw4
              · refine m_tabIn (tgt := 152) (off := 33) C (r32_c (lo := (-2147483648)) (hi := 2147483647) ra7.1 ra7.2 (by decide) (by decide)) dX12_fits_119 (by omega) (by omega) (by rw [sw4]; rfl) (by decide) ?_
                refine m_iconst C dX12_fits_152 ?_
                exact m_zret C dX12_fits_153 rfl (Or.inr rfl) (Nat.le_of_ble_eq_true rfl) (Nat.le_of_ble_eq_true rfl) ⟨1, rfl, fpb1, bxb1, ⟨by omega, FTE.cy hF (by omega) (by omega) (by unfold CND isD isG isS; omega)⟩⟩
              · refine m_tabIn (tgt := 154) (off := 35) C (r32_c (lo := (-2147483648)) (hi := 2147483647) ra7.1 ra7.2 (by decide) (by decide)) dX12_fits_119 (by omega) (by omega) (by rw [sw4]; rfl) (by decide) ?_
                refine m_iload (j := 1) C dX12_fits_154 rfl ?_
                exact m_zret C dX12_fits_156 rfl (Or.inr rfl) (Nat.le_of_ble_eq_true rfl) (Nat.le_of_ble_eq_true rfl) ⟨1, rfl, fpb1, bxb1, ⟨by omega, FTE.cy hF (by omega) (by omega) (by unfold CND isD isG isS; omega)⟩⟩
              · refine m_tabIn (tgt := 157) (off := 38) C (r32_c (lo := (-2147483648)) (hi := 2147483647) ra7.1 ra7.2 (by decide) (by decide)) dX12_fits_119 (by omega) (by omega) (by rw [sw4]; rfl) (by decide) ?_
                refine m_iload (j := 1) C dX12_fits_157 rfl ?_
                refine m_if_ne (tgt := 171) C ⟨by decide, by decide⟩ dX12_fits_159 (by decide) (fun _ => ?_) (fun z => absurd z (by omega))
                refine m_iconst C dX12_fits_171 ?_
                exact m_zret C dX12_fits_172 rfl (Or.inl rfl) (Nat.le_of_ble_eq_true rfl) (Nat.le_of_ble_eq_true rfl) ⟨0, rfl, fpb1, bxb1, ⟨by omega, FTE.cn (fun h => by unfold CND isD isG isS at h; omega)⟩⟩
              · refine m_tabIn (tgt := 173) (off := 54) C (r32_c (lo := (-2147483648)) (hi := 2147483647) ra7.1 ra7.2 (by decide) (by decide)) dX12_fits_119 (by omega) (by omega) (by rw [sw4]; rfl) (by decide) ?_
                refine m_iload (j := 0) C dX12_fits_173 rfl ?_
                exact m_zret C dX12_fits_175 rfl (Or.inr rfl) (Nat.le_of_ble_eq_true rfl) (Nat.le_of_ble_eq_true rfl) ⟨1, rfl, fpb1, bxb1, ⟨by omega, FTE.cy hF (by omega) (by omega) (by unfold CND isD isG isS; omega)⟩⟩
              · refine m_tabIn (tgt := 176) (off := 57) C (r32_c (lo := (-2147483648)) (hi := 2147483647) ra7.1 ra7.2 (by decide) (by decide)) dX12_fits_119 (by omega) (by omega) (by rw [sw4]; rfl) (by decide) ?_
                refine m_iload (j := 1) C dX12_fits_176 rfl ?_
                refine m_if_eq (tgt := 190) C ⟨by decide, by decide⟩ dX12_fits_178 (by decide) (fun z => absurd z (by omega)) (fun _ => ?_)
                refine m_iload (j := 0) C dX12_fits_181 rfl ?_
                refine m_if_eq (tgt := 190) C ⟨by decide, by decide⟩ dX12_fits_183 (by decide) (fun z => absurd z (by omega)) (fun _ => ?_)
                refine m_iconst C dX12_fits_186 ?_
                refine m_goto (tgt := 191) C dX12_fits_187 (by decide) ?_
                exact m_zret C dX12_fits_191 rfl (Or.inr rfl) (Nat.le_of_ble_eq_true rfl) (Nat.le_of_ble_eq_true rfl) ⟨1, rfl, fpb1, bxb1, ⟨by omega, FTE.cy hF (by omega) (by omega) (by unfold CND isD isG isS; omega)⟩⟩
              · refine m_tabOut (tgt := 192) C (r32_c (lo := (-2147483648)) (hi := 2147483647) ra7.1 ra7.2 (by decide) (by decide)) dX12_fits_119 sw4 (by decide) ?_
                refine m_iload (j := 0) C dX12_fits_192 rfl ?_
                refine m_if_ne (tgt := 249) C ⟨by decide, by decide⟩ dX12_fits_194 (by decide) (fun _ => ?_) (fun z => absurd z (by omega))
                refine m_iconst C dX12_fits_249 ?_
                exact m_zret C dX12_fits_250 rfl (Or.inl rfl) (Nat.le_of_ble_eq_true rfl) (Nat.le_of_ble_eq_true rfl) ⟨0, rfl, fpb1, bxb1, ⟨by omega, FTE.cn (fun h => by unfold CND isD isG isS at h; omega)⟩⟩
        · clear hg
          clear hu
          refine m_iconst C dX12_fits_82 ?_
          exact m_zret C dX12_fits_83 rfl (Or.inl rfl) (Nat.le_of_ble_eq_true rfl) (Nat.le_of_ble_eq_true rfl) ⟨0, rfl, fpb1, bxb1, ⟨by omega, FTE.no hF (by omega) (by omega)⟩⟩
      · refine m_iload (j := 0) C dX12_fits_34 rfl ?_
        refine m_if_eq (tgt := 77) C (r32_01 hg) dX12_fits_36 (by decide) (fun c6 => ?_) (fun c6 => ?_)
        · clear hg
          clear hu
          refine m_iload (j := 0) C dX12_fits_77 rfl ?_
          refine m_if_ne (tgt := 84) C ⟨by omega, by omega⟩ dX12_fits_79 (by decide) (fun z => absurd z (by omega)) (fun _ => ?_)
          refine m_iconst C dX12_fits_82 ?_
          exact m_zret C dX12_fits_83 rfl (Or.inl rfl) (Nat.le_of_ble_eq_true rfl) (Nat.le_of_ble_eq_true rfl) ⟨0, rfl, fpb1, bxb1, ⟨by omega, FTE.no hF (by omega) (by omega)⟩⟩
        · replace hg := (hg.resolve_left c6)
          replace hu := (hu.resolve_left c6)
          refine m_aload_n (j := 3) C dX12_fits_39 rfl ?_
          refine m_geta (k := 14) C dX12_fits_40 w6_73 (by decide) rfl ?_
          refine m_bipush (z := 8) C dX12_fits_43 (by decide) ?_
          refine m_iload_n (j := 4) C dX12_fits_45 rfl ?_
          refine m_imul C dX12_fits_46 ?_
          refine m_iload (j := 1) C dX12_fits_47 rfl ?_
          refine m_iadd C dX12_fits_49 ?_
          refine m_ald (k := 14) C dX12_fits_50 rfl rfl (by decide) (by omega) (by show _ < ((_ : Nat) : Int); simp only [mlen]; omega) (by decide) ?_
          have ra8 : 0 ≤ a 14 ((8 * w) + k).toNat ∧ a 14 ((8 * w) + k).toNat ≤ 125 := bxb1.2 14 (((8 * w) + k).toNat)
          refine m_aload_n (j := 3) C dX12_fits_51 rfl ?_
          refine m_geta (k := 20) C dX12_fits_52 w6_79 (by decide) rfl ?_
          refine m_iload (j := 7) C dX12_fits_55 rfl ?_
          refine m_iload (j := 1) C dX12_fits_57 rfl ?_
          refine m_iadd C dX12_fits_59 ?_
          refine m_ald (k := 20) C dX12_fits_60 rfl rfl (by decide) (by omega) (by show _ < ((_ : Nat) : Int); simp only [mlen]; omega) (by decide) ?_
          have ra9 : (-2147483648) ≤ a 20 (x + k).toNat ∧ a 20 (x + k).toNat ≤ 2147483647 := bxb1.2 20 ((x + k).toNat)
          refine m_icmp_ne (tgt := 68) C (r32_c (lo := 0) (hi := 125) ra8.1 ra8.2 (by decide) (by decide)) (r32_c (lo := (-2147483648)) (hi := 2147483647) ra9.1 ra9.2 (by decide) (by decide)) dX12_fits_61 (by decide) (fun c7 => ?_) (fun c7 => ?_)
          · refine m_iconst C dX12_fits_68 ?_
            refine m_istore (lv2 := [(6, .int (iI 0)), (7, .int (iI k)), (5, .int (iI (a 12 w.toNat))), (0, .ref h0), (1, .int (iI w)), (2, .int (iI q)), (3, .int (iI u)), (4, .int (iI x))]) C dX12_fits_69 (by decide) rfl ?_
            refine m_iinc (z := k) (j := 1) (lv2 := [(7, .int (iI (k + 1))), (6, .int (iI 0)), (5, .int (iI (a 12 w.toNat))), (0, .ref h0), (1, .int (iI w)), (2, .int (iI q)), (3, .int (iI u)), (4, .int (iI x))]) C dX12_fits_71 rfl (by decide) rfl ?_
            refine m_goto (tgt := 27) C dX12_fits_74 (by decide) ?_
            refine m_lv (lv2 := [(6, .int (iI 0)), (7, .int (iI (k + 1))), (5, .int (iI (a 12 w.toNat))), (0, .ref h0), (1, .int (iI w)), (2, .int (iI q)), (3, .int (iI u)), (4, .int (iI x))]) [1, 0, 2, 3, 4, 5, 6, 7] rfl ?_
            exact ih1  0 (k + 1) _ _ (by omega) bxb1 fpb1 (by omega) (by omega) (by omega) (FTG.step0 (by omega) (by omega))
          · refine m_iconst C dX12_fits_64 ?_
            refine m_goto (tgt := 69) C dX12_fits_65 (by decide) ?_
            refine m_istore (lv2 := [(6, .int (iI 1)), (7, .int (iI k)), (5, .int (iI (a 12 w.toNat))), (0, .ref h0), (1, .int (iI w)), (2, .int (iI q)), (3, .int (iI u)), (4, .int (iI x))]) C dX12_fits_69 (by decide) rfl ?_
            refine m_iinc (z := k) (j := 1) (lv2 := [(7, .int (iI (k + 1))), (6, .int (iI 1)), (5, .int (iI (a 12 w.toNat))), (0, .ref h0), (1, .int (iI w)), (2, .int (iI q)), (3, .int (iI u)), (4, .int (iI x))]) C dX12_fits_71 rfl (by decide) rfl ?_
            refine m_goto (tgt := 27) C dX12_fits_74 (by decide) ?_
            refine m_lv (lv2 := [(6, .int (iI 1)), (7, .int (iI (k + 1))), (5, .int (iI (a 12 w.toNat))), (0, .ref h0), (1, .int (iI w)), (2, .int (iI q)), (3, .int (iI u)), (4, .int (iI x))]) [1, 0, 2, 3, 4, 5, 6, 7] rfl ?_
            exact ih1  1 (k + 1) _ _ (by omega) bxb1 fpb1 (by omega) (by omega) (by omega) (hF.step1 (by omega) (by omega))
  refine m_iload (j := 5) C dX12_fits_8 rfl ?_
  refine m_iload (j := 0) C dX12_fits_10 rfl ?_
  refine m_iadd C dX12_fits_12 ?_
  refine m_iload_n (j := 4) C dX12_fits_13 rfl ?_
  refine m_icmp_gt (tgt := 21) C ⟨by omega, by omega⟩ ⟨by omega, by omega⟩ dX12_fits_14 (by decide) (fun c8 => ?_) (fun c8 => ?_)
  · refine m_iconst C dX12_fits_21 ?_
    refine m_istore (lv2 := [(6, .int (iI 0)), (5, .int (iI (a 12 w.toNat))), (0, .ref h0), (1, .int (iI w)), (2, .int (iI q)), (3, .int (iI u)), (4, .int (iI x))]) C dX12_fits_22 (by decide) rfl ?_
    refine m_iconst C dX12_fits_24 ?_
    refine m_istore (lv2 := [(7, .int (iI 0)), (6, .int (iI 0)), (5, .int (iI (a 12 w.toNat))), (0, .ref h0), (1, .int (iI w)), (2, .int (iI q)), (3, .int (iI u)), (4, .int (iI x))]) C dX12_fits_25 (by decide) rfl ?_
    refine m_lv (lv2 := [(6, .int (iI 0)), (7, .int (iI 0)), (5, .int (iI (a 12 w.toNat))), (0, .ref h0), (1, .int (iI w)), (2, .int (iI q)), (3, .int (iI u)), (4, .int (iI x))]) [1, 0, 2, 3, 4, 5, 6, 7] rfl ?_
    exact Lp1 10 0 0 _ _ (by omega) hB fp0 (by omega) (by omega) (by omega) (FTG.init0 (by omega))
  · refine m_iconst C dX12_fits_17 ?_
    refine m_goto (tgt := 22) C dX12_fits_18 (by decide) ?_
    refine m_istore (lv2 := [(6, .int (iI 1)), (5, .int (iI (a 12 w.toNat))), (0, .ref h0), (1, .int (iI w)), (2, .int (iI q)), (3, .int (iI u)), (4, .int (iI x))]) C dX12_fits_22 (by decide) rfl ?_
    refine m_iconst C dX12_fits_24 ?_
    refine m_istore (lv2 := [(7, .int (iI 0)), (6, .int (iI 1)), (5, .int (iI (a 12 w.toNat))), (0, .ref h0), (1, .int (iI w)), (2, .int (iI q)), (3, .int (iI u)), (4, .int (iI x))]) C dX12_fits_25 (by decide) rfl ?_
    refine m_lv (lv2 := [(6, .int (iI 1)), (7, .int (iI 0)), (5, .int (iI (a 12 w.toNat))), (0, .ref h0), (1, .int (iI w)), (2, .int (iI q)), (3, .int (iI u)), (4, .int (iI x))]) [1, 0, 2, 3, 4, 5, 6, 7] rfl ?_
    exact Lp1 10 1 0 _ _ (by omega) hB fp0 (by omega) (by omega) (by omega) (FTG.init1 (by omega))
set_option maxHeartbeats 4000000 in
set_option maxRecDepth 100000 in
theorem E_own {l : Launch} {G : GT} {h0 : Nat} {ad ln : Nat → Nat} {v : Nat → Int} {a : Nat → Nat → Int}  {t q u x : Int} (hB : BX v a) (hT : TBL v a) (ht : 0 ≤ t ∧ t < v 4) (hx : 0 ≤ q ∧ q ≤ x ∧ x < u ∧ u ≤ 500) : Mm l G yX12_own cX12_own 7 (some .int) 2 [.int (iI t), .int (iI q), .int (iI u), .int (iI x)] h0 ad ln v a 0 0 (fun r v2 a2 => ∃ f : Int, r = some (.int (iI f)) ∧ fr [] [] v a v2 a2 ∧ BX v2 a2 ∧ ((f = -1 ∨ (0 ≤ f ∧ f < 6000 ∧ (1 ≤ a 12 f.toNat ∧ a 12 f.toNat ≤ 8) ∧ (1 ≤ a 13 f.toNat ∧ a 13 f.toNat ≤ 4) ∧ x + a 12 f.toNat ≤ u)) ∧ OWR a (a 20) q u x t f)) := by
  refine Mm.mk (by decide) (Nat.le_of_ble_eq_true rfl) ?_
  intro p e s m args below meth c A C
  refine hv3 (show 0 ≤ v 4 ∧ v 4 ≤ 30 from hB.1 4) (show 0 ≤ a 10 t.toNat ∧ a 10 t.toNat ≤ 200 from hB.2 10 _) (show fr [] [] v a v a from fr.refl) (fun h30 r10 fp0 => ?_)
  refine m_iconst C dX12_own_0 ?_
  refine m_istore (lv2 := [(5, .int (iI (-1))), (0, .ref h0), (1, .int (iI t)), (2, .int (iI q)), (3, .int (iI u)), (4, .int (iI x))]) C dX12_own_1 (by decide) rfl ?_
  refine m_sipush (z := 200) C dX12_own_3 (by decide) ?_
  refine m_iload_n (j := 2) C dX12_own_6 rfl ?_
  refine m_imul C dX12_own_7 ?_
  refine m_istore (lv2 := [(6, .int (iI (200 * t))), (5, .int (iI (-1))), (0, .ref h0), (1, .int (iI t)), (2, .int (iI q)), (3, .int (iI u)), (4, .int (iI x))]) C dX12_own_8 (by decide) rfl ?_
  have Lp1 : ∀ (nn : Nat) (w1 k : Int) (vb1 : Nat → Int) (ab1 : Nat → Nat → Int), 200 * t + 201 - k < (nn : Int) → BX vb1 ab1 → fr [] [] v a vb1 ab1 → (200 * t ≤ k ∧ k ≤ 200 * t + a 10 t.toNat) → (w1 = -1 ∨ (200 * t ≤ w1 ∧ w1 < k)) → (OWI a (a 20) q u x t w1 k) → mw p l e (rmq 2 0 0) s m args below meth c G A 7 (MQ below (Qm G A (fun rq Lq Eq => ∃ (vq : Nat → Int) (aq : Nat → Nat → Int), mI G h0 ad ln vq aq Lq Eq ∧ (fun r v2 a2 => ∃ f : Int, r = some (.int (iI f)) ∧ fr [] [] v a v2 a2 ∧ BX v2 a2 ∧ ((f = -1 ∨ (0 ≤ f ∧ f < 6000 ∧ (1 ≤ a 12 f.toNat ∧ a 12 f.toNat ≤ 8) ∧ (1 ≤ a 13 f.toNat ∧ a 13 f.toNat ≤ 4) ∧ x + a 12 f.toNat ≤ u)) ∧ OWR a (a 20) q u x t f)) rq vq aq)) args s 0 0 A) h0 ad ln vb1 ab1 0 0 10 [(5, .int (iI w1)), (6, .int (iI k)), (0, .ref h0), (1, .int (iI t)), (2, .int (iI q)), (3, .int (iI u)), (4, .int (iI x))] [] := by
    intro nn
    induction nn with
    | zero =>
      intro w1 k vb1 ab1 hm bxb1 fpb1 hk hw hO
      obtain ⟨rfl, rfl⟩ := fpb1.eq
      exact absurd hm (by omega)
    | succ nn ih1 =>
      intro w1 k vb1 ab1 hm bxb1 fpb1 hk hw hO
      obtain ⟨rfl, rfl⟩ := fpb1.eq
      refine m_iload (j := 1) C dX12_own_10 rfl ?_
      refine m_sipush (z := 200) C dX12_own_12 (by decide) ?_
      refine m_iload_n (j := 3) C dX12_own_15 rfl ?_
      refine m_imul C dX12_own_16 ?_
      refine m_aload_n (j := 2) C dX12_own_17 rfl ?_
      refine m_geta (k := 10) C dX12_own_18 w6_69 (by decide) rfl ?_
      refine m_iload_n (j := 3) C dX12_own_21 rfl ?_
      refine m_ald (k := 10) C dX12_own_22 rfl rfl (by decide) (by omega) (by show _ < ((_ : Nat) : Int); simp only [mlen]; omega) (by decide) ?_
      have ra1 : 0 ≤ a 10 t.toNat ∧ a 10 t.toNat ≤ 200 := bxb1.2 10 (t.toNat)
      refine m_iadd C dX12_own_23 ?_
      refine m_icmp_ge (tgt := 72) C ⟨by omega, by omega⟩ ⟨by omega, by omega⟩ dX12_own_24 (by decide) (fun c1 => ?_) (fun c1 => ?_)
      · refine m_iload (j := 0) C dX12_own_72 rfl ?_
        exact m_iret C dX12_own_74 rfl (Nat.le_of_ble_eq_true rfl) (Nat.le_of_ble_eq_true rfl) ⟨w1, rfl, fpb1, bxb1, (show _ ∧ _ from have ho : OWR a (a 20) q u x t w1 := (by rw [show k = 200 * t + a 10 t.toNat by omega] at hO; exact hO); ⟨own_rg hT (by omega) (by omega) (by omega) (by omega) ho, ho⟩)⟩
      · have hr0 := (hT.2 t k (by omega) (by omega) (by omega) (by omega)).1
        refine m_iload (j := 0) C dX12_own_27 rfl ?_
        refine m_if_lt (tgt := 49) C ⟨by omega, by omega⟩ dX12_own_29 (by decide) (fun c2 => ?_) (fun c2 => ?_)
        · refine m_aload_n (j := 2) C dX12_own_49 rfl ?_
          refine m_iload (j := 1) C dX12_own_50 rfl ?_
          refine m_iload_n (j := 4) C dX12_own_52 rfl ?_
          refine m_iload_n (j := 5) C dX12_own_53 rfl ?_
          refine m_iload (j := 6) C dX12_own_54 rfl ?_
          have ra2 : 0 ≤ a 12 k.toNat ∧ a 12 k.toNat ≤ 8 := bxb1.2 12 (k.toNat)
          refine m_call (mc2 := 0) (ms2 := 0) (As := [.int (iI k), .int (iI q), .int (iI u), .int (iI x)]) (rest := []) C (E_fits (w := k) (q := q) (u := u) (x := x) bxb1 (by show 0 ≤ k ∧ k < 6000; omega) (by show 1 ≤ a 12 k.toNat ∧ a 12 k.toNat ≤ 8; omega) (by show 0 ≤ q ∧ q ≤ x ∧ x < u ∧ u ≤ 500; omega)) dX12_own_56 kV_X12_211 rfl ck_13 rfl (Nat.le_of_ble_eq_true rfl) ⟨Nat.le_of_ble_eq_true rfl, Nat.le_of_ble_eq_true rfl⟩ ⟨Nat.le_of_ble_eq_true rfl, Nat.le_of_ble_eq_true rfl⟩ (fun rh1 vh1 ah1 h1 => ?_)
          obtain ⟨f1, rfl, fn1, bn1, ex1⟩ := h1
          obtain ⟨rfl, rfl⟩ := fn1.eq
          obtain ⟨ex1, tl1⟩ := ex1
          have gf1 : f1 = 0 ∨ f1 = 1 := ex1
          refine m_st (st2 := [.int (iI f1)]) rfl ?_
          refine m_if_eq (tgt := 66) C (r32_01 gf1) dX12_own_59 (by decide) (fun c3 => ?_) (fun c3 => ?_)
          · clear gf1
            refine m_iinc (z := k) (j := 1) (lv2 := [(6, .int (iI (k + 1))), (5, .int (iI w1)), (0, .ref h0), (1, .int (iI t)), (2, .int (iI q)), (3, .int (iI u)), (4, .int (iI x))]) C dX12_own_66 rfl (by decide) rfl ?_
            refine m_goto (tgt := 10) C dX12_own_69 (by decide) ?_
            refine m_lv (lv2 := [(5, .int (iI w1)), (6, .int (iI (k + 1))), (0, .ref h0), (1, .int (iI t)), (2, .int (iI q)), (3, .int (iI u)), (4, .int (iI x))]) [1, 0, 2, 3, 4, 5, 6] rfl ?_
            exact ih1  w1 (k + 1) _ _ (by omega) bxb1 fpb1 (by omega) (by omega) (hO.miss (fun w => absurd (tl1.mpr w) (by omega)))
          · replace gf1 := (gf1.resolve_left c3)
            refine m_iload (j := 1) C dX12_own_62 rfl ?_
            refine m_istore (lv2 := [(5, .int (iI k)), (6, .int (iI k)), (0, .ref h0), (1, .int (iI t)), (2, .int (iI q)), (3, .int (iI u)), (4, .int (iI x))]) C dX12_own_64 (by decide) rfl ?_
            refine m_iinc (z := k) (j := 1) (lv2 := [(6, .int (iI (k + 1))), (5, .int (iI k)), (0, .ref h0), (1, .int (iI t)), (2, .int (iI q)), (3, .int (iI u)), (4, .int (iI x))]) C dX12_own_66 rfl (by decide) rfl ?_
            refine m_goto (tgt := 10) C dX12_own_69 (by decide) ?_
            refine m_lv (lv2 := [(5, .int (iI k)), (6, .int (iI (k + 1))), (0, .ref h0), (1, .int (iI t)), (2, .int (iI q)), (3, .int (iI u)), (4, .int (iI x))]) [1, 0, 2, 3, 4, 5, 6] rfl ?_
            exact ih1  k (k + 1) _ _ (by omega) bxb1 fpb1 (by omega) (by omega) (hO.hit (by omega) (by omega) (by omega) (tl1.mp (by omega)))
        · refine m_aload_n (j := 2) C dX12_own_32 rfl ?_
          refine m_geta (k := 12) C dX12_own_33 w6_71 (by decide) rfl ?_
          refine m_iload (j := 1) C dX12_own_36 rfl ?_
          refine m_ald (k := 12) C dX12_own_38 rfl rfl (by decide) (by omega) (by show _ < ((_ : Nat) : Int); simp only [mlen]; omega) (by decide) ?_
          have ra3 : 0 ≤ a 12 k.toNat ∧ a 12 k.toNat ≤ 8 := bxb1.2 12 (k.toNat)
          refine m_aload_n (j := 2) C dX12_own_39 rfl ?_
          refine m_geta (k := 12) C dX12_own_40 w6_71 (by decide) rfl ?_
          refine m_iload (j := 0) C dX12_own_43 rfl ?_
          refine m_ald (k := 12) C dX12_own_45 rfl rfl (by decide) (by omega) (by show _ < ((_ : Nat) : Int); simp only [mlen]; omega) (by decide) ?_
          have ra4 : 0 ≤ a 12 w1.toNat ∧ a 12 w1.toNat ≤ 8 := bxb1.2 12 (w1.toNat)
          refine m_icmp_le (tgt := 66) C (r32_c (lo := 0) (hi := 8) ra3.1 ra3.2 (by decide) (by decide)) (r32_c (lo := 0) (hi := 8) ra4.1 ra4.2 (by decide) (by decide)) dX12_own_46 (by decide) (fun c4 => ?_) (fun c4 => ?_)
          · refine m_iinc (z := k) (j := 1) (lv2 := [(6, .int (iI (k + 1))), (5, .int (iI w1)), (0, .ref h0), (1, .int (iI t)), (2, .int (iI q)), (3, .int (iI u)), (4, .int (iI x))]) C dX12_own_66 rfl (by decide) rfl ?_
            refine m_goto (tgt := 10) C dX12_own_69 (by decide) ?_
            refine m_lv (lv2 := [(5, .int (iI w1)), (6, .int (iI (k + 1))), (0, .ref h0), (1, .int (iI t)), (2, .int (iI q)), (3, .int (iI u)), (4, .int (iI x))]) [1, 0, 2, 3, 4, 5, 6] rfl ?_
            exact ih1  w1 (k + 1) _ _ (by omega) bxb1 fpb1 (by omega) (by omega) (hO.skip (by omega) (by omega) (by omega))
          · refine m_aload_n (j := 2) C dX12_own_49 rfl ?_
            refine m_iload (j := 1) C dX12_own_50 rfl ?_
            refine m_iload_n (j := 4) C dX12_own_52 rfl ?_
            refine m_iload_n (j := 5) C dX12_own_53 rfl ?_
            refine m_iload (j := 6) C dX12_own_54 rfl ?_
            refine m_call (mc2 := 0) (ms2 := 0) (As := [.int (iI k), .int (iI q), .int (iI u), .int (iI x)]) (rest := []) C (E_fits (w := k) (q := q) (u := u) (x := x) bxb1 (by show 0 ≤ k ∧ k < 6000; omega) (by show 1 ≤ a 12 k.toNat ∧ a 12 k.toNat ≤ 8; omega) (by show 0 ≤ q ∧ q ≤ x ∧ x < u ∧ u ≤ 500; omega)) dX12_own_56 kV_X12_211 rfl ck_13 rfl (Nat.le_of_ble_eq_true rfl) ⟨Nat.le_of_ble_eq_true rfl, Nat.le_of_ble_eq_true rfl⟩ ⟨Nat.le_of_ble_eq_true rfl, Nat.le_of_ble_eq_true rfl⟩ (fun rh2 vh2 ah2 h2 => ?_)
            obtain ⟨f2, rfl, fn2, bn2, ex2⟩ := h2
            obtain ⟨rfl, rfl⟩ := fn2.eq
            obtain ⟨ex2, tl2⟩ := ex2
            have gf2 : f2 = 0 ∨ f2 = 1 := ex2
            refine m_st (st2 := [.int (iI f2)]) rfl ?_
            refine m_if_eq (tgt := 66) C (r32_01 gf2) dX12_own_59 (by decide) (fun c5 => ?_) (fun c5 => ?_)
            · clear gf2
              refine m_iinc (z := k) (j := 1) (lv2 := [(6, .int (iI (k + 1))), (5, .int (iI w1)), (0, .ref h0), (1, .int (iI t)), (2, .int (iI q)), (3, .int (iI u)), (4, .int (iI x))]) C dX12_own_66 rfl (by decide) rfl ?_
              refine m_goto (tgt := 10) C dX12_own_69 (by decide) ?_
              refine m_lv (lv2 := [(5, .int (iI w1)), (6, .int (iI (k + 1))), (0, .ref h0), (1, .int (iI t)), (2, .int (iI q)), (3, .int (iI u)), (4, .int (iI x))]) [1, 0, 2, 3, 4, 5, 6] rfl ?_
              exact ih1  w1 (k + 1) _ _ (by omega) bxb1 fpb1 (by omega) (by omega) (hO.miss (fun w => absurd (tl2.mpr w) (by omega)))
            · replace gf2 := (gf2.resolve_left c5)
              refine m_iload (j := 1) C dX12_own_62 rfl ?_
              refine m_istore (lv2 := [(5, .int (iI k)), (6, .int (iI k)), (0, .ref h0), (1, .int (iI t)), (2, .int (iI q)), (3, .int (iI u)), (4, .int (iI x))]) C dX12_own_64 (by decide) rfl ?_
              refine m_iinc (z := k) (j := 1) (lv2 := [(6, .int (iI (k + 1))), (5, .int (iI k)), (0, .ref h0), (1, .int (iI t)), (2, .int (iI q)), (3, .int (iI u)), (4, .int (iI x))]) C dX12_own_66 rfl (by decide) rfl ?_
              refine m_goto (tgt := 10) C dX12_own_69 (by decide) ?_
              refine m_lv (lv2 := [(5, .int (iI k)), (6, .int (iI (k + 1))), (0, .ref h0), (1, .int (iI t)), (2, .int (iI q)), (3, .int (iI u)), (4, .int (iI x))]) [1, 0, 2, 3, 4, 5, 6] rfl ?_
              exact ih1  k (k + 1) _ _ (by omega) bxb1 fpb1 (by omega) (by omega) (hO.hit (by omega) (by omega) (by omega) (tl2.mp (by omega)))
  refine m_lv (lv2 := [(5, .int (iI (-1))), (6, .int (iI (200 * t))), (0, .ref h0), (1, .int (iI t)), (2, .int (iI q)), (3, .int (iI u)), (4, .int (iI x))]) [1, 0, 2, 3, 4, 5, 6] rfl ?_
  exact Lp1 202 (-1) (200 * t) _ _ (by omega) hB fp0 (by omega) (by omega) OWI.zero
def FindE (l : Launch) (G : GT) (h0 : Nat) (ad ln : Nat → Nat) (d n : Nat) (t : Int) : Prop := ∀ (v : Nat → Int) (a : Nat → Nat → Int) (q u x : Int), BX v a → TBL v a → t < v 4 → a 6 t.toNat ≤ 4 → (0 ≤ q ∧ q ≤ x ∧ x < u ∧ u ≤ 500) → Mm l G yX12_find cX12_find 7 (some .int) d [.int (iI t), .int (iI q), .int (iI u), .int (iI x)] h0 ad ln v a 0 0 (fun r v2 a2 => ∃ f : Int, r = some (.int (iI f)) ∧ fr [] [27] v a v2 a2 ∧ BX v2 a2 ∧ ((f = -1 ∨ (0 ≤ f ∧ f < 6000 ∧ (1 ≤ a 12 f.toNat ∧ a 12 f.toNat ≤ 8) ∧ (1 ≤ a 13 f.toNat ∧ a 13 f.toNat ≤ 4) ∧ x + a 12 f.toNat ≤ u)) ∧ fnd a q u x n (a 20) t f))
set_option maxHeartbeats 4000000 in
set_option maxRecDepth 100000 in
theorem E_contracted {l : Launch} {G : GT} {h0 : Nat} {ad ln : Nat → Nat} {v : Nat → Int} {a : Nat → Nat → Int} {d n : Nat} {t q u x : Int} (hB : BX v a) (hT : TBL v a) (ht : 0 ≤ t ∧ t < v 4) (h30 : v 4 ≤ 30) (hk : 1 ≤ a 6 t.toNat ∧ a 6 t.toNat ≤ 3) (hx : 0 ≤ q ∧ q ≤ x ∧ x < u ∧ u ≤ 500) (hd : 3 ≤ d) (hf : ∀ b : Int, 0 ≤ b → b < t → FindE l G h0 ad ln d n b) : Mm l G yX12_contracted cX12_contracted 7 (some .int) (d + 1) [.int (iI t), .int (iI q), .int (iI u), .int (iI x)] h0 ad ln v a 0 0 (fun r v2 a2 => ∃ f : Int, r = some (.int (iI f)) ∧ fr [] [27] v a v2 a2 ∧ BX v2 a2 ∧ ((f = -1 ∨ (0 ≤ f ∧ f < 6000 ∧ (1 ≤ a 12 f.toNat ∧ a 12 f.toNat ≤ 8) ∧ (1 ≤ a 13 f.toNat ∧ a 13 f.toNat ≤ 4) ∧ x + a 12 f.toNat ≤ u)) ∧ CTD a q u x n (a 20) t f)) := by
  refine Mm.mk (by decide) (Nat.le_of_ble_eq_true rfl) ?_
  intro p e s m args below meth c A C
  refine hv2 (hT.1 t (by omega) (by omega)) (show fr [] [27] v a v a from fr.refl) (fun ht0 fp0 => ?_)
  refine m_aload_n (j := 0) C dX12_contracted_0 rfl ?_
  refine m_geta (k := 27) C dX12_contracted_1 w6_86 (by decide) rfl ?_
  refine m_iconst C dX12_contracted_4 ?_
  refine m_dup2 C dX12_contracted_5 rfl rfl ?_
  refine m_ald (k := 27) C dX12_contracted_6 rfl rfl (by decide) (by decide) (by decide) (by decide) ?_
  have ra1 : (-2147483648) ≤ a 27 0 ∧ a 27 0 ≤ 2147483647 := hB.2 27 (0)
  refine m_st (st2 := [.int (iI (a 27 0)), .int (iI 0), .ref (ad 27)]) rfl ?_
  refine m_iconst C dX12_contracted_7 ?_
  refine m_iadd C dX12_contracted_8 ?_
  obtain ⟨zz1, hzz1, ezz1⟩ := iI_of (iI ((a 27 0) + 1))
  refine m_st (st2 := [.int (iI zz1), .int (iI 0), .ref (ad 27)]) (by rw [ezz1]) ?_
  refine m_ast (k := 27) C dX12_contracted_9 rfl rfl (by decide) (by decide) (by decide) (by decide) ?_
  refine hv2 (show BX v (up2 a 27 (0 : Int).toNat zz1) from hB.set (k := 27) (i := (0 : Int).toNat) (z := zz1) (show (-2147483648) ≤ zz1 ∧ zz1 ≤ 2147483647 by omega)) (fp0.set (k := 27) (i := (0 : Int).toNat) (z := zz1) rfl) (fun bq1 fq1 => ?_)
  refine m_aload_n (j := 0) C dX12_contracted_10 rfl ?_
  refine m_iload_n (j := 1) C dX12_contracted_11 rfl ?_
  refine m_iload_n (j := 2) C dX12_contracted_12 rfl ?_
  refine m_iload_n (j := 3) C dX12_contracted_13 rfl ?_
  refine m_iload (j := 4) C dX12_contracted_14 rfl ?_
  have rv1 : 0 ≤ v 4 ∧ v 4 ≤ 30 := bq1.1 4
  refine m_call (mc2 := 0) (ms2 := 0) (As := [.int (iI t), .int (iI q), .int (iI u), .int (iI x)]) (rest := []) C (E_own (t := t) (q := q) (u := u) (x := x) bq1 (hT.fr fq1 rfl rfl) (by show 0 ≤ t ∧ t < (v 4); omega) (by show 0 ≤ q ∧ q ≤ x ∧ x < u ∧ u ≤ 500; omega)) dX12_contracted_16 kV_X12_221 rfl ck_13 rfl (Nat.le_of_ble_eq_true rfl) ⟨by dsimp only [rmq]; omega, by dsimp only [rmq]; omega⟩ ⟨Nat.le_of_ble_eq_true rfl, Nat.le_of_ble_eq_true rfl⟩ (fun rh1 vh1 ah1 h1 => ?_)
  obtain ⟨f1, rfl, fn1, bn1, ex1⟩ := h1
  obtain ⟨rfl, rfl⟩ := fn1.eq
  obtain ⟨ex1, tl1⟩ := ex1
  refine hv3 (show f1 = -1 ∨ (0 ≤ f1 ∧ f1 < 6000 ∧ (1 ≤ a 12 f1.toNat ∧ a 12 f1.toNat ≤ 8) ∧ (1 ≤ a 13 f1.toNat ∧ a 13 f1.toNat ≤ 4) ∧ x + a 12 f1.toNat ≤ u) from ex1) (show 0 ≤ a 12 f1.toNat ∧ a 12 f1.toNat ≤ 8 from bq1.2 12 (f1.toNat)) (show 0 ≤ a 13 f1.toNat ∧ a 13 f1.toNat ≤ 4 from bq1.2 13 (f1.toNat)) (fun gf1 ra2 ra3 => ?_)
  refine m_st (st2 := [.int (iI f1)]) rfl ?_
  refine m_istore (lv2 := [(5, .int (iI f1)), (0, .ref h0), (1, .int (iI t)), (2, .int (iI q)), (3, .int (iI u)), (4, .int (iI x))]) C dX12_contracted_19 (by decide) rfl ?_
  refine m_aload_n (j := 1) C dX12_contracted_21 rfl ?_
  refine m_aload_n (j := 1) C dX12_contracted_22 rfl ?_
  refine m_geta (k := 8) C dX12_contracted_23 w6_67 (by decide) rfl ?_
  refine m_iload_n (j := 2) C dX12_contracted_26 rfl ?_
  refine m_ald (k := 8) C dX12_contracted_27 rfl rfl (by decide) (by omega) (by show _ < ((_ : Nat) : Int); simp only [mlen]; omega) (by decide) ?_
  have ra4 : (-1) ≤ a 8 t.toNat ∧ a 8 t.toNat ≤ 29 := bq1.2 8 (t.toNat)
  refine m_st (st2 := [.int (iI (a 8 t.toNat)), .ref h0]) (congrArg (fun z => Value.int (iI z) :: [.ref h0]) (congrFun (fq1.2 8 rfl) (t.toNat))) ?_
  refine m_iload_n (j := 3) C dX12_contracted_28 rfl ?_
  refine m_iload_n (j := 4) C dX12_contracted_29 rfl ?_
  refine m_iload (j := 5) C dX12_contracted_30 rfl ?_
  refine m_call (mc2 := 0) (ms2 := 0) (As := [.int (iI (a 8 t.toNat)), .int (iI q), .int (iI u), .int (iI x)]) (rest := []) C (hf (a 8 t.toNat) (by omega) (by omega) _ _ q u x bq1 (hT.fr fq1 rfl rfl) (by show a 8 t.toNat < v 4; omega) (by show a 6 (a 8 t.toNat).toNat ≤ 4; omega) (by omega)) dX12_contracted_32 kV_X12_218 rfl ck_13 rfl (Nat.le_of_ble_eq_true rfl) ⟨by dsimp only [rmq]; omega, by dsimp only [rmq]; omega⟩ ⟨Nat.le_of_ble_eq_true rfl, Nat.le_of_ble_eq_true rfl⟩ (fun rh2 vh2 ah2 h2 => ?_)
  obtain ⟨f2, rfl, fn2, bn2, ex2, tl2⟩ := h2
  refine hv2 (fq1.call fn2 rfl rfl) (show f2 = -1 ∨ (0 ≤ f2 ∧ f2 < 6000 ∧ (1 ≤ a 12 f2.toNat ∧ a 12 f2.toNat ≤ 8) ∧ (1 ≤ a 13 f2.toNat ∧ a 13 f2.toNat ≤ 4) ∧ x + a 12 f2.toNat ≤ u) from ex2) (fun fq3 ef2 => ?_)
  refine m_st (st2 := [.int (iI f2)]) rfl ?_
  refine m_istore (lv2 := [(6, .int (iI f2)), (5, .int (iI f1)), (0, .ref h0), (1, .int (iI t)), (2, .int (iI q)), (3, .int (iI u)), (4, .int (iI x))]) C dX12_contracted_35 (by decide) rfl ?_
  refine m_iload (j := 1) C dX12_contracted_37 rfl ?_
  refine m_if_lt (tgt := 64) C ⟨by omega, by omega⟩ dX12_contracted_39 (by decide) (fun c1 => ?_) (fun c1 => ?_)
  · replace gf1 := gf1.resolve_right (fun q => by omega)
    refine m_iload (j := 0) C dX12_contracted_64 rfl ?_
    refine m_goto (tgt := 71) C dX12_contracted_66 (by decide) ?_
    exact m_iret C dX12_contracted_71 rfl (Nat.le_of_ble_eq_true rfl) (Nat.le_of_ble_eq_true rfl) ⟨f2, rfl, fq3, bn2, ⟨by omega, CTD.mk fq1 fq1 tl1 tl2 (by unfold cmb; rw [if_pos (by omega)])⟩⟩
  · replace gf1 := gf1.resolve_left (fun q => by omega)
    refine m_iload (j := 0) C dX12_contracted_42 rfl ?_
    refine m_if_lt (tgt := 69) C ⟨by omega, by omega⟩ dX12_contracted_44 (by decide) (fun c2 => ?_) (fun c2 => ?_)
    · refine m_iload (j := 1) C dX12_contracted_69 rfl ?_
      exact m_iret C dX12_contracted_71 rfl (Nat.le_of_ble_eq_true rfl) (Nat.le_of_ble_eq_true rfl) ⟨f1, rfl, fq3, bn2, ⟨by omega, CTD.mk fq1 fq1 tl1 tl2 (by unfold cmb; rw [if_neg (by omega)])⟩⟩
    · refine m_aload_n (j := 2) C dX12_contracted_47 rfl ?_
      refine m_geta (k := 12) C dX12_contracted_48 w6_71 (by decide) rfl ?_
      refine m_iload (j := 0) C dX12_contracted_51 rfl ?_
      refine m_ald (k := 12) C dX12_contracted_53 rfl rfl (by decide) (by omega) (by show _ < ((_ : Nat) : Int); simp only [mlen]; omega) (by decide) ?_
      refine hv2 (show 0 ≤ ah2 12 f2.toNat ∧ ah2 12 f2.toNat ≤ 8 from bn2.2 12 (f2.toNat)) (show ah2 12 (f2.toNat) = a 12 (f2.toNat) from congrFun (fn2.2 12 rfl) (f2.toNat)) (fun ra5 ae1 => ?_)
      refine m_st (st2 := [.int (iI (a 12 f2.toNat))]) (congrArg (fun z => Value.int (iI z) :: []) (congrFun (fq3.2 12 rfl) (f2.toNat))) ?_
      refine m_aload_n (j := 2) C dX12_contracted_54 rfl ?_
      refine m_geta (k := 12) C dX12_contracted_55 w6_71 (by decide) rfl ?_
      refine m_iload (j := 1) C dX12_contracted_58 rfl ?_
      refine m_ald (k := 12) C dX12_contracted_60 rfl rfl (by decide) (by omega) (by show _ < ((_ : Nat) : Int); simp only [mlen]; omega) (by decide) ?_
      refine hv2 (show 0 ≤ ah2 12 f1.toNat ∧ ah2 12 f1.toNat ≤ 8 from bn2.2 12 (f1.toNat)) (show ah2 12 (f1.toNat) = a 12 (f1.toNat) from congrFun (fn2.2 12 rfl) (f1.toNat)) (fun ra6 ae2 => ?_)
      refine m_st (st2 := [.int (iI (a 12 f1.toNat)), .int (iI (a 12 f2.toNat))]) (congrArg (fun z => Value.int (iI z) :: [.int (iI (a 12 f2.toNat))]) (congrFun (fq3.2 12 rfl) (f1.toNat))) ?_
      refine m_icmp_le (tgt := 69) C ⟨by omega, by omega⟩ (r32_c (lo := 0) (hi := 8) ra2.1 ra2.2 (by decide) (by decide)) dX12_contracted_61 (by decide) (fun c3 => ?_) (fun c3 => ?_)
      · refine m_iload (j := 1) C dX12_contracted_69 rfl ?_
        exact m_iret C dX12_contracted_71 rfl (Nat.le_of_ble_eq_true rfl) (Nat.le_of_ble_eq_true rfl) ⟨f1, rfl, fq3, bn2, ⟨by omega, CTD.mk fq1 fq1 tl1 tl2 (by unfold cmb; rw [if_neg (by omega)])⟩⟩
      · refine m_iload (j := 0) C dX12_contracted_64 rfl ?_
        refine m_goto (tgt := 71) C dX12_contracted_66 (by decide) ?_
        exact m_iret C dX12_contracted_71 rfl (Nat.le_of_ble_eq_true rfl) (Nat.le_of_ble_eq_true rfl) ⟨f2, rfl, fq3, bn2, ⟨by omega, CTD.mk fq1 fq1 tl1 tl2 (by unfold cmb; rw [if_pos (by omega)])⟩⟩
theorem CTD.fx {V1 : List Nat} {v v1 : Nat → Int} {a a1 : Nat → Nat → Int} {q u x t f : Int} {n : Nat} (f1 : fr V1 [27] v a v1 a1) (h : CTD a1 q u x n (a1 20) t f) : CTD a q u x n (a 20) t f := by
  have w1 : a1 20 = a 20 := f1.2 20 rfl
  rw [w1] at h
  exact CTD.cg f1 rfl h
theorem sml_w {a1 : Nat → Nat → Int} {W : Nat → Int} {x z : Int} (h : a1 20 = W) (hz : z = sml (W x.toNat)) : up2 a1 20 x.toNat z 20 = va_up W x.toNat (sml (W x.toNat)) := by
  rw [← hz, ← h]
  funext j
  unfold up2 va_up
  rw [if_pos rfl]
set_option maxHeartbeats 4000000 in
set_option maxRecDepth 100000 in
theorem E_find1 {l : Launch} {G : GT} {h0 : Nat} {ad ln : Nat → Nat} {v : Nat → Int} {a : Nat → Nat → Int} {d n : Nat} {t q u x : Int} (hB : BX v a) (hT : TBL v a) (ht : 0 ≤ t ∧ t < v 4) (h4 : a 6 t.toNat ≤ 4) (hx : 0 ≤ q ∧ q ≤ x ∧ x < u ∧ u ≤ 500) (hd : 3 ≤ d) (hf : ∀ b : Int, 0 ≤ b → b < t → FindE l G h0 ad ln d n b) : Mm l G yX12_find cX12_find 7 (some .int) (d + 2) [.int (iI t), .int (iI q), .int (iI u), .int (iI x)] h0 ad ln v a 0 0 (fun r v2 a2 => ∃ f : Int, r = some (.int (iI f)) ∧ fr [] [27] v a v2 a2 ∧ BX v2 a2 ∧ ((f = -1 ∨ (0 ≤ f ∧ f < 6000 ∧ (1 ≤ a 12 f.toNat ∧ a 12 f.toNat ≤ 8) ∧ (1 ≤ a 13 f.toNat ∧ a 13 f.toNat ≤ 4) ∧ x + a 12 f.toNat ≤ u)) ∧ fnd a q u x (n + 1) (a 20) t f)) := by
  refine Mm.mk (by decide) (Nat.le_of_ble_eq_true rfl) ?_
  intro p e s m args below meth c A C
  refine hv2 (show 0 ≤ v 4 ∧ v 4 ≤ 30 from hB.1 4) (show fr [] [27] v a v a from fr.refl) (fun h30 fp0 => ?_)
  have ht0 := hT.1 t (by omega) (by omega)
  refine m_aload_n (j := 0) C dX12_find_0 rfl ?_
  refine m_geta (k := 27) C dX12_find_1 w6_86 (by decide) rfl ?_
  refine m_aload_n (j := 0) C dX12_find_4 rfl ?_
  refine m_geta (k := 6) C dX12_find_5 w6_65 (by decide) rfl ?_
  refine m_iload_n (j := 1) C dX12_find_8 rfl ?_
  refine m_ald (k := 6) C dX12_find_9 rfl rfl (by decide) (by omega) (by show _ < ((_ : Nat) : Int); simp only [mlen]; omega) (by decide) ?_
  have ra1 : 0 ≤ a 6 t.toNat ∧ a 6 t.toNat ≤ 5 := hB.2 6 (t.toNat)
  refine m_dup2 C dX12_find_10 rfl rfl ?_
  refine m_ald (k := 27) C dX12_find_11 rfl rfl (by decide) (by omega) (by show _ < ((_ : Nat) : Int); simp only [mlen]; omega) (by decide) ?_
  have ra2 : (-2147483648) ≤ a 27 (a 6 t.toNat).toNat ∧ a 27 (a 6 t.toNat).toNat ≤ 2147483647 := hB.2 27 ((a 6 t.toNat).toNat)
  refine m_iconst C dX12_find_12 ?_
  refine m_iadd C dX12_find_13 ?_
  obtain ⟨zz1, hzz1, ezz1⟩ := iI_of (iI ((a 27 (a 6 t.toNat).toNat) + 1))
  refine m_st (st2 := [.int (iI zz1), .int (iI (a 6 t.toNat)), .ref (ad 27)]) (by rw [ezz1]) ?_
  refine m_ast (k := 27) C dX12_find_14 rfl rfl (by decide) (by omega) (by show _ < ((_ : Nat) : Int); simp only [mlen]; omega) (by decide) ?_
  refine hv2 (show BX v (up2 a 27 (a 6 t.toNat).toNat zz1) from hB.set (k := 27) (i := (a 6 t.toNat).toNat) (z := zz1) (show (-2147483648) ≤ zz1 ∧ zz1 ≤ 2147483647 by omega)) (fp0.set (k := 27) (i := (a 6 t.toNat).toNat) (z := zz1) rfl) (fun bq1 fq1 => ?_)
  refine m_aload_n (j := 0) C dX12_find_15 rfl ?_
  refine m_geta (k := 6) C dX12_find_16 w6_65 (by decide) rfl ?_
  refine m_iload_n (j := 1) C dX12_find_19 rfl ?_
  refine m_ald (k := 6) C dX12_find_20 rfl rfl (by decide) (by omega) (by show _ < ((_ : Nat) : Int); simp only [mlen]; omega) (by decide) ?_
  refine m_st (st2 := [.int (iI (a 6 t.toNat))]) (congrArg (fun z => Value.int (iI z) :: []) (congrFun (fq1.2 6 rfl) (t.toNat))) ?_
  rcases (show (a 6 t.toNat) = 1 ∨ (a 6 t.toNat) = 2 ∨ (a 6 t.toNat) = 3 ∨ ((a 6 t.toNat) < 1 ∨ 3 < (a 6 t.toNat)) by omega) with sw1 | sw1 | sw1 | sw1
  · refine m_tabIn (tgt := 48) (off := 27) C (r32_c (lo := 0) (hi := 5) ra1.1 ra1.2 (by decide) (by decide)) dX12_find_21 (by omega) (by omega) (by rw [sw1]; rfl) (by decide) ?_
    refine m_aload_n (j := 0) C dX12_find_48 rfl ?_
    refine m_iload_n (j := 1) C dX12_find_49 rfl ?_
    refine m_iload_n (j := 2) C dX12_find_50 rfl ?_
    refine m_iload_n (j := 3) C dX12_find_51 rfl ?_
    refine m_iload (j := 4) C dX12_find_52 rfl ?_
    refine m_call (mc2 := 0) (ms2 := 0) (As := [.int (iI t), .int (iI q), .int (iI u), .int (iI x)]) (rest := []) C (E_contracted (t := t) (q := q) (u := u) (x := x) bq1 (hT.fr fq1 rfl rfl) (by show 0 ≤ t ∧ t < v 4; omega) (by show v 4 ≤ 30; omega) (by show 1 ≤ a 6 t.toNat ∧ a 6 t.toNat ≤ 3; omega) hx hd hf) dX12_find_54 kV_X12_215 rfl ck_13 rfl (Nat.le_of_ble_eq_true rfl) ⟨by dsimp only [rmq]; omega, by dsimp only [rmq]; omega⟩ ⟨Nat.le_of_ble_eq_true rfl, Nat.le_of_ble_eq_true rfl⟩ (fun rh1 vh1 ah1 h1 => ?_)
    obtain ⟨f1, rfl, fn1, bn1, ex1, tl1⟩ := h1
    refine hv2 (fq1.call fn1 rfl rfl) (show f1 = -1 ∨ (0 ≤ f1 ∧ f1 < 6000 ∧ (1 ≤ a 12 f1.toNat ∧ a 12 f1.toNat ≤ 8) ∧ (1 ≤ a 13 f1.toNat ∧ a 13 f1.toNat ≤ 4) ∧ x + a 12 f1.toNat ≤ u) from ex1) (fun fq2 ef1 => ?_)
    refine m_st (st2 := [.int (iI f1)]) rfl ?_
    exact m_iret C dX12_find_57 rfl (Nat.le_of_ble_eq_true rfl) (Nat.le_of_ble_eq_true rfl) ⟨f1, rfl, fq2, bn1, ⟨by omega, fnd.k1 (by omega) (CTD.fx fq1 tl1)⟩⟩
  · refine m_tabIn (tgt := 58) (off := 37) C (r32_c (lo := 0) (hi := 5) ra1.1 ra1.2 (by decide) (by decide)) dX12_find_21 (by omega) (by omega) (by rw [sw1]; rfl) (by decide) ?_
    refine m_aload_n (j := 0) C dX12_find_58 rfl ?_
    refine m_geta (k := 20) C dX12_find_59 w6_79 (by decide) rfl ?_
    refine m_iload (j := 4) C dX12_find_62 rfl ?_
    refine m_ald (k := 20) C dX12_find_64 rfl rfl (by decide) (by omega) (by show _ < ((_ : Nat) : Int); simp only [mlen]; omega) (by decide) ?_
    have ra3 : (-2147483648) ≤ a 20 x.toNat ∧ a 20 x.toNat ≤ 2147483647 := bq1.2 20 (x.toNat)
    refine m_st (st2 := [.int (iI (a 20 x.toNat))]) (congrArg (fun z => Value.int (iI z) :: []) (congrFun (fq1.2 20 rfl) (x.toNat))) ?_
    refine m_callS (As := [.int (iI (a 20 x.toNat))]) (rest := []) C (fun L E => s_isDigit (iI (a 20 x.toNat))) dX12_find_65 kS_X12_202 rfl rfl (Nat.le_of_ble_eq_true rfl) ⟨by dsimp only [rmq]; omega, by dsimp only [rmq]; omega⟩ ⟨Nat.le_of_ble_eq_true rfl, Nat.le_of_ble_eq_true rfl⟩ ?_
    rcases inn_c (x := a 20 x.toNat) (lo := 48) (hi := 57) (r32_c (lo := (-2147483648)) (hi := 2147483647) ra3.1 ra3.2 (by decide) (by decide)) ⟨by decide, by decide⟩ ⟨by decide, by decide⟩ with ⟨h2a, h2b, h2e⟩ | ⟨h2a, h2e⟩
    · refine m_st (st2 := [.int (iI 1)]) (by rw [show inn (iI (a 20 x.toNat)) 48 57 = iI 1 from h2e]) ?_
      refine m_if_ne (tgt := 86) C ⟨by decide, by decide⟩ dX12_find_68 (by decide) (fun _ => ?_) (fun z => absurd z (by omega))
      refine m_aload_n (j := 0) C dX12_find_86 rfl ?_
      refine m_geta (k := 27) C dX12_find_87 w6_86 (by decide) rfl ?_
      refine m_iconst C dX12_find_90 ?_
      refine m_dup2 C dX12_find_91 rfl rfl ?_
      refine m_ald (k := 27) C dX12_find_92 rfl rfl (by decide) (by decide) (by decide) (by decide) ?_
      have ra4 : (-2147483648) ≤ (up2 a 27 (a 6 t.toNat).toNat zz1) 27 0 ∧ (up2 a 27 (a 6 t.toNat).toNat zz1) 27 0 ≤ 2147483647 := bq1.2 27 (0)
      refine m_st (st2 := [.int (iI ((up2 a 27 (a 6 t.toNat).toNat zz1) 27 0)), .int (iI 0), .ref (ad 27)]) rfl ?_
      refine m_iconst C dX12_find_93 ?_
      refine m_iadd C dX12_find_94 ?_
      obtain ⟨zz2, hzz2, ezz2⟩ := iI_of (iI (((up2 a 27 (a 6 t.toNat).toNat zz1) 27 0) + 1))
      refine m_st (st2 := [.int (iI zz2), .int (iI 0), .ref (ad 27)]) (by rw [ezz2]) ?_
      refine m_ast (k := 27) C dX12_find_95 rfl rfl (by decide) (by decide) (by decide) (by decide) ?_
      refine hv2 (show BX v (up2 (up2 a 27 (a 6 t.toNat).toNat zz1) 27 (0 : Int).toNat zz2) from bq1.set (k := 27) (i := (0 : Int).toNat) (z := zz2) (show (-2147483648) ≤ zz2 ∧ zz2 ≤ 2147483647 by omega)) (fq1.set (k := 27) (i := (0 : Int).toNat) (z := zz2) rfl) (fun bq2 fq3 => ?_)
      refine m_aload_n (j := 0) C dX12_find_96 rfl ?_
      refine m_iload_n (j := 1) C dX12_find_97 rfl ?_
      refine m_iload_n (j := 2) C dX12_find_98 rfl ?_
      refine m_iload_n (j := 3) C dX12_find_99 rfl ?_
      refine m_iload (j := 4) C dX12_find_100 rfl ?_
      have rv1 : 0 ≤ v 4 ∧ v 4 ≤ 30 := bq2.1 4
      refine m_call (mc2 := 0) (ms2 := 0) (As := [.int (iI t), .int (iI q), .int (iI u), .int (iI x)]) (rest := []) C (E_own (t := t) (q := q) (u := u) (x := x) bq2 (hT.fr fq3 rfl rfl) (by show 0 ≤ t ∧ t < (v 4); omega) (by show 0 ≤ q ∧ q ≤ x ∧ x < u ∧ u ≤ 500; omega)) dX12_find_102 kV_X12_221 rfl ck_13 rfl (Nat.le_of_ble_eq_true rfl) ⟨by dsimp only [rmq]; omega, by dsimp only [rmq]; omega⟩ ⟨Nat.le_of_ble_eq_true rfl, Nat.le_of_ble_eq_true rfl⟩ (fun rh3 vh3 ah3 h3 => ?_)
      obtain ⟨f2, rfl, fn2, bn2, ex2⟩ := h3
      obtain ⟨rfl, rfl⟩ := fn2.eq
      obtain ⟨ex2, tl2⟩ := ex2
      refine hv3 (show f2 = -1 ∨ (0 ≤ f2 ∧ f2 < 6000 ∧ (1 ≤ a 12 f2.toNat ∧ a 12 f2.toNat ≤ 8) ∧ (1 ≤ a 13 f2.toNat ∧ a 13 f2.toNat ≤ 4) ∧ x + a 12 f2.toNat ≤ u) from ex2) (show 0 ≤ a 12 f2.toNat ∧ a 12 f2.toNat ≤ 8 from bq2.2 12 (f2.toNat)) (show 0 ≤ a 13 f2.toNat ∧ a 13 f2.toNat ≤ 4 from bq2.2 13 (f2.toNat)) (fun gf2 ra5 ra6 => ?_)
      refine m_st (st2 := [.int (iI f2)]) rfl ?_
      exact m_iret C dX12_find_105 rfl (Nat.le_of_ble_eq_true rfl) (Nat.le_of_ble_eq_true rfl) ⟨f2, rfl, fq3, bq2, ⟨by omega, fnd.k2 (by omega) (by unfold isD; omega) (OWR.fx fq3 tl2)⟩⟩
    · refine m_st (st2 := [.int (iI 0)]) (by rw [show inn (iI (a 20 x.toNat)) 48 57 = iI 0 from h2e]) ?_
      refine m_if_ne (tgt := 86) C ⟨by decide, by decide⟩ dX12_find_68 (by decide) (fun z => absurd z (by omega)) (fun _ => ?_)
      refine m_aload_n (j := 0) C dX12_find_71 rfl ?_
      refine m_aload_n (j := 0) C dX12_find_72 rfl ?_
      refine m_geta (k := 8) C dX12_find_73 w6_67 (by decide) rfl ?_
      refine m_iload_n (j := 1) C dX12_find_76 rfl ?_
      refine m_ald (k := 8) C dX12_find_77 rfl rfl (by decide) (by omega) (by show _ < ((_ : Nat) : Int); simp only [mlen]; omega) (by decide) ?_
      have ra7 : (-1) ≤ a 8 t.toNat ∧ a 8 t.toNat ≤ 29 := bq1.2 8 (t.toNat)
      refine m_st (st2 := [.int (iI (a 8 t.toNat)), .ref h0]) (congrArg (fun z => Value.int (iI z) :: [.ref h0]) (congrFun (fq1.2 8 rfl) (t.toNat))) ?_
      refine m_iload_n (j := 2) C dX12_find_78 rfl ?_
      refine m_iload_n (j := 3) C dX12_find_79 rfl ?_
      refine m_iload (j := 4) C dX12_find_80 rfl ?_
      refine m_call (mc2 := 0) (ms2 := 0) (As := [.int (iI (a 8 t.toNat)), .int (iI q), .int (iI u), .int (iI x)]) (rest := []) C (hf (a 8 t.toNat) (by omega) (by omega) _ _ q u x bq1 (hT.fr fq1 rfl rfl) (by show a 8 t.toNat < v 4; omega) (by show a 6 (a 8 t.toNat).toNat ≤ 4; omega) (by omega)) dX12_find_82 kV_X12_218 rfl ck_13 rfl (Nat.le_of_ble_eq_true rfl) ⟨by dsimp only [rmq]; omega, by dsimp only [rmq]; omega⟩ ⟨Nat.le_of_ble_eq_true rfl, Nat.le_of_ble_eq_true rfl⟩ (fun rh4 vh4 ah4 h4 => ?_)
      obtain ⟨f3, rfl, fn3, bn3, ex3, tl3⟩ := h4
      refine hv2 (fq1.call fn3 rfl rfl) (show f3 = -1 ∨ (0 ≤ f3 ∧ f3 < 6000 ∧ (1 ≤ a 12 f3.toNat ∧ a 12 f3.toNat ≤ 8) ∧ (1 ≤ a 13 f3.toNat ∧ a 13 f3.toNat ≤ 4) ∧ x + a 12 f3.toNat ≤ u) from ex3) (fun fq5 ef3 => ?_)
      refine m_st (st2 := [.int (iI f3)]) rfl ?_
      exact m_iret C dX12_find_85 rfl (Nat.le_of_ble_eq_true rfl) (Nat.le_of_ble_eq_true rfl) ⟨f3, rfl, fq5, bn3, ⟨by omega, fnd.k2n (by omega) (by unfold isD; omega) (fnd.fx fq1 tl3)⟩⟩
  · refine m_tabIn (tgt := 106) (off := 85) C (r32_c (lo := 0) (hi := 5) ra1.1 ra1.2 (by decide) (by decide)) dX12_find_21 (by omega) (by omega) (by rw [sw1]; rfl) (by decide) ?_
    refine m_aload_n (j := 0) C dX12_find_106 rfl ?_
    refine m_geta (k := 27) C dX12_find_107 w6_86 (by decide) rfl ?_
    refine m_iconst C dX12_find_110 ?_
    refine m_dup2 C dX12_find_111 rfl rfl ?_
    refine m_ald (k := 27) C dX12_find_112 rfl rfl (by decide) (by decide) (by decide) (by decide) ?_
    have ra8 : (-2147483648) ≤ (up2 a 27 (a 6 t.toNat).toNat zz1) 27 1 ∧ (up2 a 27 (a 6 t.toNat).toNat zz1) 27 1 ≤ 2147483647 := bq1.2 27 (1)
    refine m_st (st2 := [.int (iI ((up2 a 27 (a 6 t.toNat).toNat zz1) 27 1)), .int (iI 1), .ref (ad 27)]) rfl ?_
    refine m_iconst C dX12_find_113 ?_
    refine m_iadd C dX12_find_114 ?_
    obtain ⟨zz3, hzz3, ezz3⟩ := iI_of (iI (((up2 a 27 (a 6 t.toNat).toNat zz1) 27 1) + 1))
    refine m_st (st2 := [.int (iI zz3), .int (iI 1), .ref (ad 27)]) (by rw [ezz3]) ?_
    refine m_ast (k := 27) C dX12_find_115 rfl rfl (by decide) (by decide) (by decide) (by decide) ?_
    refine hv2 (show BX v (up2 (up2 a 27 (a 6 t.toNat).toNat zz1) 27 (1 : Int).toNat zz3) from bq1.set (k := 27) (i := (1 : Int).toNat) (z := zz3) (show (-2147483648) ≤ zz3 ∧ zz3 ≤ 2147483647 by omega)) (fq1.set (k := 27) (i := (1 : Int).toNat) (z := zz3) rfl) (fun bq3 fq6 => ?_)
    refine m_aload_n (j := 0) C dX12_find_116 rfl ?_
    refine m_geta (k := 20) C dX12_find_117 w6_79 (by decide) rfl ?_
    refine m_iload (j := 4) C dX12_find_120 rfl ?_
    refine m_ald (k := 20) C dX12_find_122 rfl rfl (by decide) (by omega) (by show _ < ((_ : Nat) : Int); simp only [mlen]; omega) (by decide) ?_
    have ra9 : (-2147483648) ≤ a 20 x.toNat ∧ a 20 x.toNat ≤ 2147483647 := bq3.2 20 (x.toNat)
    refine m_st (st2 := [.int (iI (a 20 x.toNat))]) (congrArg (fun z => Value.int (iI z) :: []) (congrFun (fq6.2 20 rfl) (x.toNat))) ?_
    refine m_istore (lv2 := [(5, .int (iI (a 20 x.toNat))), (0, .ref h0), (1, .int (iI t)), (2, .int (iI q)), (3, .int (iI u)), (4, .int (iI x))]) C dX12_find_123 (by decide) rfl ?_
    refine m_aload_n (j := 1) C dX12_find_125 rfl ?_
    refine m_geta (k := 20) C dX12_find_126 w6_79 (by decide) rfl ?_
    refine m_iload (j := 5) C dX12_find_129 rfl ?_
    refine m_iload (j := 0) C dX12_find_131 rfl ?_
    refine m_callS (As := [.int (iI (a 20 x.toNat))]) (rest := [.int (iI x), .ref (ad 20)]) C (fun L E => s_isGreat (iI (a 20 x.toNat))) dX12_find_133 kS_X12_205 rfl rfl (Nat.le_of_ble_eq_true rfl) ⟨by dsimp only [rmq]; omega, by dsimp only [rmq]; omega⟩ ⟨Nat.le_of_ble_eq_true rfl, Nat.le_of_ble_eq_true rfl⟩ ?_
    rcases inn_c (x := a 20 x.toNat) (lo := 65) (hi := 90) (r32_c (lo := (-2147483648)) (hi := 2147483647) ra9.1 ra9.2 (by decide) (by decide)) ⟨by decide, by decide⟩ ⟨by decide, by decide⟩ with ⟨h5a, h5b, h5e⟩ | ⟨h5a, h5e⟩
    · refine m_st (st2 := [.int (iI 1), .int (iI x), .ref (ad 20)]) (by rw [show inn (iI (a 20 x.toNat)) 65 90 = iI 1 from h5e]) ?_
      refine m_if_eq (tgt := 147) C ⟨by decide, by decide⟩ dX12_find_136 (by decide) (fun z => absurd z (by omega)) (fun _ => ?_)
      refine m_iload (j := 0) C dX12_find_139 rfl ?_
      refine m_bipush (z := 32) C dX12_find_141 (by decide) ?_
      refine m_iadd C dX12_find_143 ?_
      refine m_goto (tgt := 149) C dX12_find_144 (by decide) ?_
      refine m_ast (k := 20) C dX12_find_149 rfl rfl (by decide) (by omega) (by show _ < ((_ : Nat) : Int); simp only [mlen]; omega) (by decide) ?_
      refine hv2 (show BX v (up2 (up2 (up2 a 27 (a 6 t.toNat).toNat zz1) 27 (1 : Int).toNat zz3) 20 x.toNat ((a 20 x.toNat) + 32)) from bq3.set (k := 20) (i := x.toNat) (z := (a 20 x.toNat) + 32) (show (-2147483648) ≤ ((a 20 x.toNat) + 32) ∧ ((a 20 x.toNat) + 32) ≤ 2147483647 by omega)) (show fr [] [20, 27] v a v (up2 (up2 (up2 a 27 (a 6 t.toNat).toNat zz1) 27 (1 : Int).toNat zz3) 20 x.toNat ((a 20 x.toNat) + 32)) from ((fr.refl (V := []) (A := [20, 27])).call fq6 rfl rfl).set (k := 20) (i := x.toNat) (z := (a 20 x.toNat) + 32) rfl) (fun bq4 fw1 => ?_)
      refine m_aload_n (j := 1) C dX12_find_150 rfl ?_
      refine m_iload_n (j := 2) C dX12_find_151 rfl ?_
      refine m_iload_n (j := 3) C dX12_find_152 rfl ?_
      refine m_iload_n (j := 4) C dX12_find_153 rfl ?_
      refine m_iload (j := 5) C dX12_find_154 rfl ?_
      refine m_call (mc2 := 0) (ms2 := 0) (As := [.int (iI t), .int (iI q), .int (iI u), .int (iI x)]) (rest := []) C (E_contracted (t := t) (q := q) (u := u) (x := x) bq4 (hT.fr fw1 rfl rfl) (by show 0 ≤ t ∧ t < v 4; omega) (by show v 4 ≤ 30; omega) (by show 1 ≤ a 6 t.toNat ∧ a 6 t.toNat ≤ 3; omega) hx hd hf) dX12_find_156 kV_X12_215 rfl ck_13 rfl (Nat.le_of_ble_eq_true rfl) ⟨by dsimp only [rmq]; omega, by dsimp only [rmq]; omega⟩ ⟨Nat.le_of_ble_eq_true rfl, Nat.le_of_ble_eq_true rfl⟩ (fun rh6 vh6 ah6 h6 => ?_)
      obtain ⟨f4, rfl, fn4, bn4, ex4, tl4⟩ := h6
      have ef4 : f4 = -1 ∨ (0 ≤ f4 ∧ f4 < 6000 ∧ (1 ≤ a 12 f4.toNat ∧ a 12 f4.toNat ≤ 8) ∧ (1 ≤ a 13 f4.toNat ∧ a 13 f4.toNat ≤ 4) ∧ x + a 12 f4.toNat ≤ u) := ex4
      refine m_st (st2 := [.int (iI f4)]) rfl ?_
      refine m_istore (lv2 := [(6, .int (iI f4)), (5, .int (iI (a 20 x.toNat))), (0, .ref h0), (1, .int (iI t)), (2, .int (iI q)), (3, .int (iI u)), (4, .int (iI x))]) C dX12_find_159 (by decide) rfl ?_
      refine m_aload_n (j := 2) C dX12_find_161 rfl ?_
      refine m_geta (k := 20) C dX12_find_162 w6_79 (by decide) rfl ?_
      refine m_iload (j := 6) C dX12_find_165 rfl ?_
      refine m_iload (j := 1) C dX12_find_167 rfl ?_
      refine m_ast (k := 20) C dX12_find_169 rfl rfl (by decide) (by omega) (by show _ < ((_ : Nat) : Int); simp only [mlen]; omega) (by decide) ?_
      refine hv2 (show BX vh6 (up2 ah6 20 x.toNat (a 20 x.toNat)) from bn4.set (k := 20) (i := x.toNat) (z := a 20 x.toNat) (show (-2147483648) ≤ (a 20 x.toNat) ∧ (a 20 x.toNat) ≤ 2147483647 by omega)) (fq6.back fn4 rfl rfl (k := 20) (i := x.toNat) (y := a 20 x.toNat) rfl) (fun bq5 fq9 => ?_)
      refine m_iload (j := 0) C dX12_find_170 rfl ?_
      exact m_iret C dX12_find_172 rfl (Nat.le_of_ble_eq_true rfl) (Nat.le_of_ble_eq_true rfl) ⟨f4, rfl, fq9, bq5, ⟨by omega, fnd.k3 (by omega) (sml_w (fq6.2 20 rfl) (by unfold sml; rw [if_pos (by omega)])) (CTD.cg fw1 rfl tl4)⟩⟩
    · refine m_st (st2 := [.int (iI 0), .int (iI x), .ref (ad 20)]) (by rw [show inn (iI (a 20 x.toNat)) 65 90 = iI 0 from h5e]) ?_
      refine m_if_eq (tgt := 147) C ⟨by decide, by decide⟩ dX12_find_136 (by decide) (fun _ => ?_) (fun z => absurd z (by omega))
      refine m_iload (j := 0) C dX12_find_147 rfl ?_
      refine m_ast (k := 20) C dX12_find_149 rfl rfl (by decide) (by omega) (by show _ < ((_ : Nat) : Int); simp only [mlen]; omega) (by decide) ?_
      refine hv2 (show BX v (up2 (up2 (up2 a 27 (a 6 t.toNat).toNat zz1) 27 (1 : Int).toNat zz3) 20 x.toNat (a 20 x.toNat)) from bq3.set (k := 20) (i := x.toNat) (z := a 20 x.toNat) (show (-2147483648) ≤ (a 20 x.toNat) ∧ (a 20 x.toNat) ≤ 2147483647 by omega)) (show fr [] [20, 27] v a v (up2 (up2 (up2 a 27 (a 6 t.toNat).toNat zz1) 27 (1 : Int).toNat zz3) 20 x.toNat (a 20 x.toNat)) from ((fr.refl (V := []) (A := [20, 27])).call fq6 rfl rfl).set (k := 20) (i := x.toNat) (z := a 20 x.toNat) rfl) (fun bq6 fw2 => ?_)
      refine m_aload_n (j := 1) C dX12_find_150 rfl ?_
      refine m_iload_n (j := 2) C dX12_find_151 rfl ?_
      refine m_iload_n (j := 3) C dX12_find_152 rfl ?_
      refine m_iload_n (j := 4) C dX12_find_153 rfl ?_
      refine m_iload (j := 5) C dX12_find_154 rfl ?_
      refine m_call (mc2 := 0) (ms2 := 0) (As := [.int (iI t), .int (iI q), .int (iI u), .int (iI x)]) (rest := []) C (E_contracted (t := t) (q := q) (u := u) (x := x) bq6 (hT.fr fw2 rfl rfl) (by show 0 ≤ t ∧ t < v 4; omega) (by show v 4 ≤ 30; omega) (by show 1 ≤ a 6 t.toNat ∧ a 6 t.toNat ≤ 3; omega) hx hd hf) dX12_find_156 kV_X12_215 rfl ck_13 rfl (Nat.le_of_ble_eq_true rfl) ⟨by dsimp only [rmq]; omega, by dsimp only [rmq]; omega⟩ ⟨Nat.le_of_ble_eq_true rfl, Nat.le_of_ble_eq_true rfl⟩ (fun rh7 vh7 ah7 h7 => ?_)
      obtain ⟨f5, rfl, fn5, bn5, ex5, tl5⟩ := h7
      have ef5 : f5 = -1 ∨ (0 ≤ f5 ∧ f5 < 6000 ∧ (1 ≤ a 12 f5.toNat ∧ a 12 f5.toNat ≤ 8) ∧ (1 ≤ a 13 f5.toNat ∧ a 13 f5.toNat ≤ 4) ∧ x + a 12 f5.toNat ≤ u) := ex5
      refine m_st (st2 := [.int (iI f5)]) rfl ?_
      refine m_istore (lv2 := [(6, .int (iI f5)), (5, .int (iI (a 20 x.toNat))), (0, .ref h0), (1, .int (iI t)), (2, .int (iI q)), (3, .int (iI u)), (4, .int (iI x))]) C dX12_find_159 (by decide) rfl ?_
      refine m_aload_n (j := 2) C dX12_find_161 rfl ?_
      refine m_geta (k := 20) C dX12_find_162 w6_79 (by decide) rfl ?_
      refine m_iload (j := 6) C dX12_find_165 rfl ?_
      refine m_iload (j := 1) C dX12_find_167 rfl ?_
      refine m_ast (k := 20) C dX12_find_169 rfl rfl (by decide) (by omega) (by show _ < ((_ : Nat) : Int); simp only [mlen]; omega) (by decide) ?_
      refine hv2 (show BX vh7 (up2 ah7 20 x.toNat (a 20 x.toNat)) from bn5.set (k := 20) (i := x.toNat) (z := a 20 x.toNat) (show (-2147483648) ≤ (a 20 x.toNat) ∧ (a 20 x.toNat) ≤ 2147483647 by omega)) (fq6.back fn5 rfl rfl (k := 20) (i := x.toNat) (y := a 20 x.toNat) rfl) (fun bq7 fq12 => ?_)
      refine m_iload (j := 0) C dX12_find_170 rfl ?_
      exact m_iret C dX12_find_172 rfl (Nat.le_of_ble_eq_true rfl) (Nat.le_of_ble_eq_true rfl) ⟨f5, rfl, fq12, bq7, ⟨by omega, fnd.k3 (by omega) (sml_w (fq6.2 20 rfl) (by unfold sml; rw [if_neg (by omega)])) (CTD.cg fw2 rfl tl5)⟩⟩
  · refine m_tabOut (tgt := 173) C (r32_c (lo := 0) (hi := 5) ra1.1 ra1.2 (by decide) (by decide)) dX12_find_21 sw1 (by decide) ?_
    refine m_aload_n (j := 0) C dX12_find_173 rfl ?_
    refine m_iload_n (j := 1) C dX12_find_174 rfl ?_
    refine m_iload_n (j := 2) C dX12_find_175 rfl ?_
    refine m_iload_n (j := 3) C dX12_find_176 rfl ?_
    refine m_iload (j := 4) C dX12_find_177 rfl ?_
    have rv2 : 0 ≤ v 4 ∧ v 4 ≤ 30 := bq1.1 4
    refine m_call (mc2 := 0) (ms2 := 0) (As := [.int (iI t), .int (iI q), .int (iI u), .int (iI x)]) (rest := []) C (E_own (t := t) (q := q) (u := u) (x := x) bq1 (hT.fr fq1 rfl rfl) (by show 0 ≤ t ∧ t < (v 4); omega) (by show 0 ≤ q ∧ q ≤ x ∧ x < u ∧ u ≤ 500; omega)) dX12_find_179 kV_X12_221 rfl ck_13 rfl (Nat.le_of_ble_eq_true rfl) ⟨by dsimp only [rmq]; omega, by dsimp only [rmq]; omega⟩ ⟨Nat.le_of_ble_eq_true rfl, Nat.le_of_ble_eq_true rfl⟩ (fun rh8 vh8 ah8 h8 => ?_)
    obtain ⟨f6, rfl, fn6, bn6, ex6⟩ := h8
    obtain ⟨rfl, rfl⟩ := fn6.eq
    obtain ⟨ex6, tl6⟩ := ex6
    refine hv3 (show f6 = -1 ∨ (0 ≤ f6 ∧ f6 < 6000 ∧ (1 ≤ a 12 f6.toNat ∧ a 12 f6.toNat ≤ 8) ∧ (1 ≤ a 13 f6.toNat ∧ a 13 f6.toNat ≤ 4) ∧ x + a 12 f6.toNat ≤ u) from ex6) (show 0 ≤ a 12 f6.toNat ∧ a 12 f6.toNat ≤ 8 from bq1.2 12 (f6.toNat)) (show 0 ≤ a 13 f6.toNat ∧ a 13 f6.toNat ≤ 4 from bq1.2 13 (f6.toNat)) (fun gf6 ra10 ra11 => ?_)
    refine m_st (st2 := [.int (iI f6)]) rfl ?_
    exact m_iret C dX12_find_182 rfl (Nat.le_of_ble_eq_true rfl) (Nat.le_of_ble_eq_true rfl) ⟨f6, rfl, fq1, bq1, ⟨by omega, fnd.k0 (by omega) (OWR.fx fq1 tl6)⟩⟩
theorem E_findN {l : Launch} {G : GT} {h0 : Nat} {ad ln : Nat → Nat} : ∀ (n : Nat) (t : Int), 0 ≤ t → t < (n : Int) → FindE l G h0 ad ln (2 * n + 3) n t := by
  intro n
  induction n with
  | zero => intro t h1 h2; omega
  | succ n ih =>
    intro t h1 h2 v a q u x hB hT ht h4 hx
    exact E_find1 (d := 2 * n + 3) (n := n) hB hT ⟨h1, ht⟩ h4 hx (by omega) (fun b hb hb2 => ih b hb (by omega))
theorem E_find {l : Launch} {G : GT} {h0 : Nat} {ad ln : Nat → Nat} {v : Nat → Int} {a : Nat → Nat → Int} {t q u x : Int} (hB : BX v a) (hT : TBL v a) (ht : 0 ≤ t ∧ t < v 4) (h4 : a 6 t.toNat ≤ 4) (hx : 0 ≤ q ∧ q ≤ x ∧ x < u ∧ u ≤ 500) : Mm l G yX12_find cX12_find 7 (some .int) 63 [.int (iI t), .int (iI q), .int (iI u), .int (iI x)] h0 ad ln v a 0 0 (fun r v2 a2 => ∃ f : Int, r = some (.int (iI f)) ∧ fr [] [27] v a v2 a2 ∧ BX v2 a2 ∧ ((f = -1 ∨ (0 ≤ f ∧ f < 6000 ∧ (1 ≤ a 12 f.toNat ∧ a 12 f.toNat ≤ 8) ∧ (1 ≤ a 13 f.toNat ∧ a 13 f.toNat ≤ 4) ∧ x + a 12 f.toNat ≤ u)) ∧ fnd a q u x 30 (a 20) t f)) := E_findN 30 t ht.1 (by have := hB.1 4; have e : vhi 4 = 30 := rfl; omega) v a q u x hB hT ht.2 h4 hx
end
