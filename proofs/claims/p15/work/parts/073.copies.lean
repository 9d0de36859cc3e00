set_option maxHeartbeats 4000000 in
set_option maxRecDepth 100000 in
theorem M_copyRow {l : Launch} {G : GT} {h0 : Nat} {ad ln : Nat → Nat} {v : Nat → Int} {a : Nat → Nat → Int}  {q w1 u x n1 : Int} (hB : BX v a) (hq : -2147483648 ≤ q ∧ q ≤ 2147483647) (hw1 : -2147483648 ≤ w1 ∧ w1 ≤ 2147483647) (hu : -2147483648 ≤ u ∧ u ≤ 2147483647) (hx : -2147483648 ≤ x ∧ x ≤ 2147483647) (hn1 : -2147483648 ≤ n1 ∧ n1 ≤ 2147483647) : Mm l G yX12_copyRow cX12_copyRow 11 (some .int) 1 [.int (iI q), .int (iI w1), .int (iI u), .int (iI x), .int (iI n1)] h0 ad ln v a 0 0 (fun r v2 a2 => ∃ f : Int, r = some (.int (iI f)) ∧ fr [0, 1] [35] v a v2 a2 ∧ BX v2 a2 ∧ (True)) := by
  refine Mm.mk (by decide) (Nat.le_of_ble_eq_true rfl) ?_
  intro p e s m args below meth c A C
  refine hv2 (show 0 ≤ v 36 ∧ v 36 ≤ 200 from hB.1 36) (show fr [0, 1] [35] v a v a from fr.refl) (fun r36 fp0 => ?_)
  refine m_iload_n (j := 1) C dX12_copyRow_0 rfl ?_
  refine m_iconst C dX12_copyRow_1 ?_
  refine m_aload_n (j := 0) C dX12_copyRow_2 rfl ?_
  have rv1 : 0 ≤ v 36 ∧ v 36 ≤ 200 := hB.1 36
  refine m_get (k := 36) C dX12_copyRow_3 w6_95 (by decide) rfl ?_
  refine m_iconst C dX12_copyRow_6 ?_
  refine m_isub C dX12_copyRow_7 ?_
  refine m_callS (As := [.int (iI q), .int (iI 0), .int (iI ((v 36) - 1))]) (rest := []) C (fun L E => s_isIn (iI q) (iI 0) (iI ((v 36) - 1))) dX12_copyRow_8 kS_X12_174 rfl rfl (Nat.le_of_ble_eq_true rfl) ⟨Nat.le_of_ble_eq_true rfl, Nat.le_of_ble_eq_true rfl⟩ ⟨Nat.le_of_ble_eq_true rfl, Nat.le_of_ble_eq_true rfl⟩ ?_
  rcases inn_c (x := q) (lo := 0) (hi := (v 36) - 1) ⟨by omega, by omega⟩ ⟨by decide, by decide⟩ ⟨by omega, by omega⟩ with ⟨h1a, h1b, h1e⟩ | ⟨h1a, h1e⟩
  · refine m_st (st2 := [.int (iI 1)]) (by rw [h1e]) ?_
    refine m_if_eq (tgt := 28) C ⟨by decide, by decide⟩ dX12_copyRow_11 (by decide) (fun z => absurd z (by omega)) (fun _ => ?_)
    refine m_iload_n (j := 3) C dX12_copyRow_14 rfl ?_
    refine m_iconst C dX12_copyRow_15 ?_
    refine m_aload_n (j := 0) C dX12_copyRow_16 rfl ?_
    refine m_get (k := 36) C dX12_copyRow_17 w6_95 (by decide) rfl ?_
    refine m_iconst C dX12_copyRow_20 ?_
    refine m_isub C dX12_copyRow_21 ?_
    refine m_callS (As := [.int (iI u), .int (iI 0), .int (iI ((v 36) - 1))]) (rest := []) C (fun L E => s_isIn (iI u) (iI 0) (iI ((v 36) - 1))) dX12_copyRow_22 kS_X12_174 rfl rfl (Nat.le_of_ble_eq_true rfl) ⟨Nat.le_of_ble_eq_true rfl, Nat.le_of_ble_eq_true rfl⟩ ⟨Nat.le_of_ble_eq_true rfl, Nat.le_of_ble_eq_true rfl⟩ ?_
    rcases inn_c (x := u) (lo := 0) (hi := (v 36) - 1) ⟨by omega, by omega⟩ ⟨by decide, by decide⟩ ⟨by omega, by omega⟩ with ⟨h2a, h2b, h2e⟩ | ⟨h2a, h2e⟩
    · refine m_st (st2 := [.int (iI 1)]) (by rw [h2e]) ?_
      refine m_if_ne (tgt := 34) C ⟨by decide, by decide⟩ dX12_copyRow_25 (by decide) (fun _ => ?_) (fun z => absurd z (by omega))
      refine m_aload_n (j := 0) C dX12_copyRow_34 rfl ?_
      refine m_geta (k := 34) C dX12_copyRow_35 w6_93 (by decide) rfl ?_
      refine m_iload_n (j := 1) C dX12_copyRow_38 rfl ?_
      refine m_ald (k := 34) C dX12_copyRow_39 rfl rfl (by decide) (by omega) (by show _ < ((_ : Nat) : Int); simp only [mlen]; omega) (by decide) ?_
      have ra1 : (-1) ≤ a 34 q.toNat ∧ a 34 q.toNat ≤ 200 := hB.2 34 (q.toNat)
      refine m_if_lt (tgt := 52) C ⟨by omega, by omega⟩ dX12_copyRow_40 (by decide) (fun c1 => ?_) (fun c1 => ?_)
      · refine m_aload_n (j := 0) C dX12_copyRow_52 rfl ?_
        refine m_iconst C dX12_copyRow_53 ?_
        refine m_call (mc2 := 0) (ms2 := 0) (As := [.int (iI 1)]) (rest := []) C (B_bad (x := 1) hB (by show -2147483648 ≤ (1 : Int) ∧ (1 : Int) ≤ 2147483647; omega)) dX12_copyRow_54 kV_X12_154 rfl ck_13 rfl (Nat.le_of_ble_eq_true rfl) ⟨Nat.le_of_ble_eq_true rfl, Nat.le_of_ble_eq_true rfl⟩ ⟨Nat.le_of_ble_eq_true rfl, Nat.le_of_ble_eq_true rfl⟩ (fun rh3 vh3 ah3 h3 => ?_)
        obtain ⟨f1, rfl, fn1, bn1, ex1⟩ := h3
        refine hv2 (fp0.call fn1 rfl rfl) (show f1 = -1 from ex1) (fun fq1 gf1 => ?_)
        refine m_st (st2 := [.int (iI f1)]) rfl ?_
        exact m_iret C dX12_copyRow_57 rfl (Nat.le_of_ble_eq_true rfl) (Nat.le_of_ble_eq_true rfl) ⟨f1, rfl, fq1, bn1, trivial⟩
      · refine m_aload_n (j := 0) C dX12_copyRow_43 rfl ?_
        refine m_geta (k := 34) C dX12_copyRow_44 w6_93 (by decide) rfl ?_
        refine m_iload_n (j := 3) C dX12_copyRow_47 rfl ?_
        refine m_ald (k := 34) C dX12_copyRow_48 rfl rfl (by decide) (by omega) (by show _ < ((_ : Nat) : Int); simp only [mlen]; omega) (by decide) ?_
        have ra2 : (-1) ≤ a 34 u.toNat ∧ a 34 u.toNat ≤ 200 := hB.2 34 (u.toNat)
        refine m_if_ge (tgt := 58) C ⟨by omega, by omega⟩ dX12_copyRow_49 (by decide) (fun c2 => ?_) (fun c2 => ?_)
        · refine m_iload (j := 5) C dX12_copyRow_58 rfl ?_
          refine m_if_lt (tgt := 99) C ⟨by omega, by omega⟩ dX12_copyRow_60 (by decide) (fun c3 => ?_) (fun c3 => ?_)
          · refine m_aload_n (j := 0) C dX12_copyRow_99 rfl ?_
            refine m_iconst C dX12_copyRow_100 ?_
            refine m_call (mc2 := 0) (ms2 := 0) (As := [.int (iI 2)]) (rest := []) C (B_bad (x := 2) hB (by show -2147483648 ≤ (2 : Int) ∧ (2 : Int) ≤ 2147483647; omega)) dX12_copyRow_101 kV_X12_154 rfl ck_13 rfl (Nat.le_of_ble_eq_true rfl) ⟨Nat.le_of_ble_eq_true rfl, Nat.le_of_ble_eq_true rfl⟩ ⟨Nat.le_of_ble_eq_true rfl, Nat.le_of_ble_eq_true rfl⟩ (fun rh4 vh4 ah4 h4 => ?_)
            obtain ⟨f2, rfl, fn2, bn2, ex2⟩ := h4
            refine hv2 (fp0.call fn2 rfl rfl) (show f2 = -1 from ex2) (fun fq2 gf2 => ?_)
            refine m_st (st2 := [.int (iI f2)]) rfl ?_
            exact m_iret C dX12_copyRow_104 rfl (Nat.le_of_ble_eq_true rfl) (Nat.le_of_ble_eq_true rfl) ⟨f2, rfl, fq2, bn2, trivial⟩
          · refine m_iload_n (j := 2) C dX12_copyRow_63 rfl ?_
            refine m_if_lt (tgt := 99) C ⟨by omega, by omega⟩ dX12_copyRow_64 (by decide) (fun c4 => ?_) (fun c4 => ?_)
            · refine m_aload_n (j := 0) C dX12_copyRow_99 rfl ?_
              refine m_iconst C dX12_copyRow_100 ?_
              refine m_call (mc2 := 0) (ms2 := 0) (As := [.int (iI 2)]) (rest := []) C (B_bad (x := 2) hB (by show -2147483648 ≤ (2 : Int) ∧ (2 : Int) ≤ 2147483647; omega)) dX12_copyRow_101 kV_X12_154 rfl ck_13 rfl (Nat.le_of_ble_eq_true rfl) ⟨Nat.le_of_ble_eq_true rfl, Nat.le_of_ble_eq_true rfl⟩ ⟨Nat.le_of_ble_eq_true rfl, Nat.le_of_ble_eq_true rfl⟩ (fun rh5 vh5 ah5 h5 => ?_)
              obtain ⟨f3, rfl, fn3, bn3, ex3⟩ := h5
              refine hv2 (fp0.call fn3 rfl rfl) (show f3 = -1 from ex3) (fun fq3 gf3 => ?_)
              refine m_st (st2 := [.int (iI f3)]) rfl ?_
              exact m_iret C dX12_copyRow_104 rfl (Nat.le_of_ble_eq_true rfl) (Nat.le_of_ble_eq_true rfl) ⟨f3, rfl, fq3, bn3, trivial⟩
            · refine m_iload (j := 4) C dX12_copyRow_67 rfl ?_
              refine m_if_lt (tgt := 99) C ⟨by omega, by omega⟩ dX12_copyRow_69 (by decide) (fun c5 => ?_) (fun c5 => ?_)
              · refine m_aload_n (j := 0) C dX12_copyRow_99 rfl ?_
                refine m_iconst C dX12_copyRow_100 ?_
                refine m_call (mc2 := 0) (ms2 := 0) (As := [.int (iI 2)]) (rest := []) C (B_bad (x := 2) hB (by show -2147483648 ≤ (2 : Int) ∧ (2 : Int) ≤ 2147483647; omega)) dX12_copyRow_101 kV_X12_154 rfl ck_13 rfl (Nat.le_of_ble_eq_true rfl) ⟨Nat.le_of_ble_eq_true rfl, Nat.le_of_ble_eq_true rfl⟩ ⟨Nat.le_of_ble_eq_true rfl, Nat.le_of_ble_eq_true rfl⟩ (fun rh6 vh6 ah6 h6 => ?_)
                obtain ⟨f4, rfl, fn4, bn4, ex4⟩ := h6
                refine hv2 (fp0.call fn4 rfl rfl) (show f4 = -1 from ex4) (fun fq4 gf4 => ?_)
                refine m_st (st2 := [.int (iI f4)]) rfl ?_
                exact m_iret C dX12_copyRow_104 rfl (Nat.le_of_ble_eq_true rfl) (Nat.le_of_ble_eq_true rfl) ⟨f4, rfl, fq4, bn4, trivial⟩
              · refine m_iload (j := 5) C dX12_copyRow_72 rfl ?_
                refine m_aload_n (j := 0) C dX12_copyRow_74 rfl ?_
                refine m_geta (k := 34) C dX12_copyRow_75 w6_93 (by decide) rfl ?_
                refine m_iload_n (j := 1) C dX12_copyRow_78 rfl ?_
                refine m_ald (k := 34) C dX12_copyRow_79 rfl rfl (by decide) (by omega) (by show _ < ((_ : Nat) : Int); simp only [mlen]; omega) (by decide) ?_
                refine m_iload_n (j := 2) C dX12_copyRow_80 rfl ?_
                refine m_isub C dX12_copyRow_81 ?_
                refine m_icmp_gt (tgt := 99) C ⟨by omega, by omega⟩ ⟨by omega, by omega⟩ dX12_copyRow_82 (by decide) (fun c6 => ?_) (fun c6 => ?_)
                · refine m_aload_n (j := 0) C dX12_copyRow_99 rfl ?_
                  refine m_iconst C dX12_copyRow_100 ?_
                  refine m_call (mc2 := 0) (ms2 := 0) (As := [.int (iI 2)]) (rest := []) C (B_bad (x := 2) hB (by show -2147483648 ≤ (2 : Int) ∧ (2 : Int) ≤ 2147483647; omega)) dX12_copyRow_101 kV_X12_154 rfl ck_13 rfl (Nat.le_of_ble_eq_true rfl) ⟨Nat.le_of_ble_eq_true rfl, Nat.le_of_ble_eq_true rfl⟩ ⟨Nat.le_of_ble_eq_true rfl, Nat.le_of_ble_eq_true rfl⟩ (fun rh7 vh7 ah7 h7 => ?_)
                  obtain ⟨f5, rfl, fn5, bn5, ex5⟩ := h7
                  refine hv2 (fp0.call fn5 rfl rfl) (show f5 = -1 from ex5) (fun fq5 gf5 => ?_)
                  refine m_st (st2 := [.int (iI f5)]) rfl ?_
                  exact m_iret C dX12_copyRow_104 rfl (Nat.le_of_ble_eq_true rfl) (Nat.le_of_ble_eq_true rfl) ⟨f5, rfl, fq5, bn5, trivial⟩
                · refine m_iload (j := 5) C dX12_copyRow_85 rfl ?_
                  refine m_aload_n (j := 0) C dX12_copyRow_87 rfl ?_
                  refine m_geta (k := 34) C dX12_copyRow_88 w6_93 (by decide) rfl ?_
                  refine m_iload_n (j := 3) C dX12_copyRow_91 rfl ?_
                  refine m_ald (k := 34) C dX12_copyRow_92 rfl rfl (by decide) (by omega) (by show _ < ((_ : Nat) : Int); simp only [mlen]; omega) (by decide) ?_
                  refine m_iload (j := 4) C dX12_copyRow_93 rfl ?_
                  refine m_isub C dX12_copyRow_95 ?_
                  refine m_icmp_le (tgt := 105) C ⟨by omega, by omega⟩ ⟨by omega, by omega⟩ dX12_copyRow_96 (by decide) (fun c7 => ?_) (fun c7 => ?_)
                  · refine m_sipush (z := 200) C dX12_copyRow_105 (by decide) ?_
                    refine m_iload_n (j := 1) C dX12_copyRow_108 rfl ?_
                    refine m_imul C dX12_copyRow_109 ?_
                    refine m_iload_n (j := 2) C dX12_copyRow_110 rfl ?_
                    refine m_iadd C dX12_copyRow_111 ?_
                    refine m_istore (lv2 := [(6, .int (iI ((200 * q) + w1))), (0, .ref h0), (1, .int (iI q)), (2, .int (iI w1)), (3, .int (iI u)), (4, .int (iI x)), (5, .int (iI n1))]) C dX12_copyRow_112 (by decide) rfl ?_
                    refine m_sipush (z := 200) C dX12_copyRow_114 (by decide) ?_
                    refine m_iload_n (j := 4) C dX12_copyRow_117 rfl ?_
                    refine m_imul C dX12_copyRow_118 ?_
                    refine m_iload (j := 5) C dX12_copyRow_119 rfl ?_
                    refine m_iadd C dX12_copyRow_121 ?_
                    refine m_istore (lv2 := [(7, .int (iI ((200 * u) + x))), (6, .int (iI ((200 * q) + w1))), (0, .ref h0), (1, .int (iI q)), (2, .int (iI w1)), (3, .int (iI u)), (4, .int (iI x)), (5, .int (iI n1))]) C dX12_copyRow_122 (by decide) rfl ?_
                    refine m_iload_n (j := 3) C dX12_copyRow_124 rfl ?_
                    refine m_iload_n (j := 5) C dX12_copyRow_125 rfl ?_
                    have J1 : ∀ (g : Int) (vb1 : Nat → Int) (ab1 : Nat → Nat → Int), BX vb1 ab1 → fr [0, 1] [35] v a vb1 ab1 → (g = 0 ∨ g = 1) → mw p l e (rmq 1 0 0) s m args below meth c G A 11 (MQ below (Qm G A (fun rq Lq Eq => ∃ (vq : Nat → Int) (aq : Nat → Nat → Int), mI G h0 ad ln vq aq Lq Eq ∧ (fun r v2 a2 => ∃ f : Int, r = some (.int (iI f)) ∧ fr [0, 1] [35] v a v2 a2 ∧ BX v2 a2 ∧ (True)) rq vq aq)) args s 0 0 A) h0 ad ln vb1 ab1 0 0 140 [(7, .int (iI ((200 * u) + x))), (6, .int (iI ((200 * q) + w1))), (0, .ref h0), (1, .int (iI q)), (2, .int (iI w1)), (3, .int (iI u)), (4, .int (iI x)), (5, .int (iI n1))] [.int (iI g)] := by
                      intro g vb1 ab1 bxb1 fpb1 hg
                      refine m_istore (lv2 := [(8, .int (iI g)), (7, .int (iI ((200 * u) + x))), (6, .int (iI ((200 * q) + w1))), (0, .ref h0), (1, .int (iI q)), (2, .int (iI w1)), (3, .int (iI u)), (4, .int (iI x)), (5, .int (iI n1))]) C dX12_copyRow_140 (by decide) rfl ?_
                      refine m_iconst C dX12_copyRow_142 ?_
                      refine m_istore (lv2 := [(9, .int (iI 0)), (8, .int (iI g)), (7, .int (iI ((200 * u) + x))), (6, .int (iI ((200 * q) + w1))), (0, .ref h0), (1, .int (iI q)), (2, .int (iI w1)), (3, .int (iI u)), (4, .int (iI x)), (5, .int (iI n1))]) C dX12_copyRow_143 (by decide) rfl ?_
                      have Lp1 : ∀ (nn : Nat) (i1 : Int) (vb2 : Nat → Int) (ab2 : Nat → Nat → Int), 201 - i1 < (nn : Int) → BX vb2 ab2 → fr [0, 1] [35] v a vb2 ab2 → (0 ≤ i1 ∧ i1 ≤ n1) → mw p l e (rmq 1 0 0) s m args below meth c G A 11 (MQ below (Qm G A (fun rq Lq Eq => ∃ (vq : Nat → Int) (aq : Nat → Nat → Int), mI G h0 ad ln vq aq Lq Eq ∧ (fun r v2 a2 => ∃ f : Int, r = some (.int (iI f)) ∧ fr [0, 1] [35] v a v2 a2 ∧ BX v2 a2 ∧ (True)) rq vq aq)) args s 0 0 A) h0 ad ln vb2 ab2 0 0 145 [(9, .int (iI i1)), (8, .int (iI g)), (7, .int (iI ((200 * u) + x))), (6, .int (iI ((200 * q) + w1))), (0, .ref h0), (1, .int (iI q)), (2, .int (iI w1)), (3, .int (iI u)), (4, .int (iI x)), (5, .int (iI n1))] [] := by
                        intro nn
                        induction nn with
                        | zero =>
                          intro i1 vb2 ab2 hm bxb2 fpb2 hi
                          exact absurd hm (by omega)
                        | succ nn ih1 =>
                          intro i1 vb2 ab2 hm bxb2 fpb2 hi
                          refine m_iload (j := 0) C dX12_copyRow_145 rfl ?_
                          refine m_iload (j := 9) C dX12_copyRow_147 rfl ?_
                          refine m_icmp_ge (tgt := 197) C ⟨by omega, by omega⟩ ⟨by omega, by omega⟩ dX12_copyRow_149 (by decide) (fun c8 => ?_) (fun c8 => ?_)
                          · refine m_aload_n (j := 4) C dX12_copyRow_197 rfl ?_
                            refine m_iload (j := 9) C dX12_copyRow_198 rfl ?_
                            refine m_call (mc2 := 0) (ms2 := 0) (As := [.int (iI n1)]) (rest := []) C (B_fine (x := n1) bxb2 (by show -2147483648 ≤ n1 ∧ n1 ≤ 2147483647; omega)) dX12_copyRow_200 kV_X12_158 rfl ck_13 rfl (Nat.le_of_ble_eq_true rfl) ⟨Nat.le_of_ble_eq_true rfl, Nat.le_of_ble_eq_true rfl⟩ ⟨Nat.le_of_ble_eq_true rfl, Nat.le_of_ble_eq_true rfl⟩ (fun rh8 vh8 ah8 h8 => ?_)
                            obtain ⟨f6, rfl, fn6, bn6, ex6⟩ := h8
                            refine hv2 (fpb2.call fn6 rfl rfl) (show f6 = n1 from ex6) (fun fq6 gf6 => ?_)
                            refine m_st (st2 := [.int (iI f6)]) rfl ?_
                            exact m_iret C dX12_copyRow_203 rfl (Nat.le_of_ble_eq_true rfl) (Nat.le_of_ble_eq_true rfl) ⟨f6, rfl, fq6, bn6, trivial⟩
                          · refine m_iload (j := 1) C dX12_copyRow_152 rfl ?_
                            have J2 : ∀ (k : Int) (vb3 : Nat → Int) (ab3 : Nat → Nat → Int), BX vb3 ab3 → fr [0, 1] [35] v a vb3 ab3 → (0 ≤ k ∧ k < n1) → mw p l e (rmq 1 0 0) s m args below meth c G A 11 (MQ below (Qm G A (fun rq Lq Eq => ∃ (vq : Nat → Int) (aq : Nat → Nat → Int), mI G h0 ad ln vq aq Lq Eq ∧ (fun r v2 a2 => ∃ f : Int, r = some (.int (iI f)) ∧ fr [0, 1] [35] v a v2 a2 ∧ BX v2 a2 ∧ (True)) rq vq aq)) args s 0 0 A) h0 ad ln vb3 ab3 0 0 169 [(9, .int (iI i1)), (8, .int (iI g)), (7, .int (iI ((200 * u) + x))), (6, .int (iI ((200 * q) + w1))), (0, .ref h0), (1, .int (iI q)), (2, .int (iI w1)), (3, .int (iI u)), (4, .int (iI x)), (5, .int (iI n1))] [.int (iI k)] := by
                              intro k vb3 ab3 bxb3 fpb3 hk
                              refine m_istore (lv2 := [(10, .int (iI k)), (9, .int (iI i1)), (8, .int (iI g)), (7, .int (iI ((200 * u) + x))), (6, .int (iI ((200 * q) + w1))), (0, .ref h0), (1, .int (iI q)), (2, .int (iI w1)), (3, .int (iI u)), (4, .int (iI x)), (5, .int (iI n1))]) C dX12_copyRow_169 (by decide) rfl ?_
                              refine m_aload_n (j := 5) C dX12_copyRow_171 rfl ?_
                              refine m_geta (k := 35) C dX12_copyRow_172 w6_94 (by decide) rfl ?_
                              refine m_iload (j := 3) C dX12_copyRow_175 rfl ?_
                              refine m_iload (j := 0) C dX12_copyRow_177 rfl ?_
                              refine m_iadd C dX12_copyRow_179 ?_
                              refine m_aload_n (j := 5) C dX12_copyRow_180 rfl ?_
                              refine m_geta (k := 35) C dX12_copyRow_181 w6_94 (by decide) rfl ?_
                              refine m_iload (j := 4) C dX12_copyRow_184 rfl ?_
                              refine m_iload (j := 0) C dX12_copyRow_186 rfl ?_
                              refine m_iadd C dX12_copyRow_188 ?_
                              refine m_ald (k := 35) C dX12_copyRow_189 rfl rfl (by decide) (by omega) (by show _ < ((_ : Nat) : Int); simp only [mlen]; omega) (by decide) ?_
                              have ra3 : (-2147483648) ≤ ab3 35 (((200 * q) + w1) + k).toNat ∧ ab3 35 (((200 * q) + w1) + k).toNat ≤ 2147483647 := bxb3.2 35 ((((200 * q) + w1) + k).toNat)
                              refine m_ast (k := 35) C dX12_copyRow_190 rfl rfl (by decide) (by omega) (by show _ < ((_ : Nat) : Int); simp only [mlen]; omega) (by decide) ?_
                              refine hv2 (show BX vb3 (up2 ab3 35 (((200 * u) + x) + k).toNat (ab3 35 (((200 * q) + w1) + k).toNat)) from bxb3.set (k := 35) (i := (((200 * u) + x) + k).toNat) (z := ab3 35 (((200 * q) + w1) + k).toNat) (show (-2147483648) ≤ (ab3 35 (((200 * q) + w1) + k).toNat) ∧ (ab3 35 (((200 * q) + w1) + k).toNat) ≤ 2147483647 by omega)) (fpb3.set (k := 35) (i := (((200 * u) + x) + k).toNat) (z := ab3 35 (((200 * q) + w1) + k).toNat) rfl) (fun bq1 fq7 => ?_)
                              refine m_iinc (z := i1) (j := 1) (lv2 := [(9, .int (iI (i1 + 1))), (10, .int (iI k)), (8, .int (iI g)), (7, .int (iI ((200 * u) + x))), (6, .int (iI ((200 * q) + w1))), (0, .ref h0), (1, .int (iI q)), (2, .int (iI w1)), (3, .int (iI u)), (4, .int (iI x)), (5, .int (iI n1))]) C dX12_copyRow_191 rfl (by decide) rfl ?_
                              refine m_goto (tgt := 145) C dX12_copyRow_194 (by decide) ?_
                              refine m_lv (lv2 := [(9, .int (iI (i1 + 1))), (8, .int (iI g)), (7, .int (iI ((200 * u) + x))), (6, .int (iI ((200 * q) + w1))), (0, .ref h0), (1, .int (iI q)), (2, .int (iI w1)), (3, .int (iI u)), (4, .int (iI x)), (5, .int (iI n1))]) [0, 2, 3, 4, 5, 6, 7, 8, 9, 10] rfl ?_
                              exact ih1  (i1 + 1) _ _ (by omega) bq1 fq7 (by omega)
                            refine m_if_eq (tgt := 167) C ⟨by omega, by omega⟩ dX12_copyRow_154 (by decide) (fun c9 => ?_) (fun c9 => ?_)
                            · refine m_iload (j := 0) C dX12_copyRow_167 rfl ?_
                              refine m_lv (lv2 := [(9, .int (iI i1)), (8, .int (iI g)), (7, .int (iI ((200 * u) + x))), (6, .int (iI ((200 * q) + w1))), (0, .ref h0), (1, .int (iI q)), (2, .int (iI w1)), (3, .int (iI u)), (4, .int (iI x)), (5, .int (iI n1))]) [0, 1, 2, 3, 4, 5, 6, 7, 8, 9] rfl ?_
                              exact J2  i1 _ _  bxb2 fpb2 (by omega)
                            · refine m_iload (j := 9) C dX12_copyRow_157 rfl ?_
                              refine m_iconst C dX12_copyRow_159 ?_
                              refine m_isub C dX12_copyRow_160 ?_
                              refine m_iload (j := 0) C dX12_copyRow_161 rfl ?_
                              refine m_isub C dX12_copyRow_163 ?_
                              refine m_goto (tgt := 169) C dX12_copyRow_164 (by decide) ?_
                              refine m_lv (lv2 := [(9, .int (iI i1)), (8, .int (iI g)), (7, .int (iI ((200 * u) + x))), (6, .int (iI ((200 * q) + w1))), (0, .ref h0), (1, .int (iI q)), (2, .int (iI w1)), (3, .int (iI u)), (4, .int (iI x)), (5, .int (iI n1))]) [0, 1, 2, 3, 4, 5, 6, 7, 8, 9] rfl ?_
                              exact J2  ((n1 - 1) - i1) _ _  bxb2 fpb2 (by omega)
                      refine m_lv (lv2 := [(9, .int (iI 0)), (8, .int (iI g)), (7, .int (iI ((200 * u) + x))), (6, .int (iI ((200 * q) + w1))), (0, .ref h0), (1, .int (iI q)), (2, .int (iI w1)), (3, .int (iI u)), (4, .int (iI x)), (5, .int (iI n1))]) [0, 1, 2, 3, 4, 5, 6, 7, 8, 9] rfl ?_
                      exact Lp1 202 0 _ _ (by omega) bxb1 fpb1 (by omega)
                    refine m_icmp_ne (tgt := 139) C ⟨by omega, by omega⟩ ⟨by omega, by omega⟩ dX12_copyRow_126 (by decide) (fun c10 => ?_) (fun c10 => ?_)
                    · refine m_iconst C dX12_copyRow_139 ?_
                      refine m_lv (lv2 := [(7, .int (iI ((200 * u) + x))), (6, .int (iI ((200 * q) + w1))), (0, .ref h0), (1, .int (iI q)), (2, .int (iI w1)), (3, .int (iI u)), (4, .int (iI x)), (5, .int (iI n1))]) [0, 1, 2, 3, 4, 5, 6, 7] rfl ?_
                      exact J1  0 _ _  hB fp0 (by omega)
                    · refine m_iload_n (j := 4) C dX12_copyRow_129 rfl ?_
                      refine m_iload (j := 6) C dX12_copyRow_130 rfl ?_
                      refine m_icmp_ge (tgt := 139) C ⟨by omega, by omega⟩ ⟨by omega, by omega⟩ dX12_copyRow_132 (by decide) (fun c11 => ?_) (fun c11 => ?_)
                      · refine m_iconst C dX12_copyRow_139 ?_
                        refine m_lv (lv2 := [(7, .int (iI ((200 * u) + x))), (6, .int (iI ((200 * q) + w1))), (0, .ref h0), (1, .int (iI q)), (2, .int (iI w1)), (3, .int (iI u)), (4, .int (iI x)), (5, .int (iI n1))]) [0, 1, 2, 3, 4, 5, 6, 7] rfl ?_
                        exact J1  0 _ _  hB fp0 (by omega)
                      · refine m_iconst C dX12_copyRow_135 ?_
                        refine m_goto (tgt := 140) C dX12_copyRow_136 (by decide) ?_
                        refine m_lv (lv2 := [(7, .int (iI ((200 * u) + x))), (6, .int (iI ((200 * q) + w1))), (0, .ref h0), (1, .int (iI q)), (2, .int (iI w1)), (3, .int (iI u)), (4, .int (iI x)), (5, .int (iI n1))]) [0, 1, 2, 3, 4, 5, 6, 7] rfl ?_
                        exact J1  1 _ _  hB fp0 (by omega)
                  · refine m_aload_n (j := 0) C dX12_copyRow_99 rfl ?_
                    refine m_iconst C dX12_copyRow_100 ?_
                    refine m_call (mc2 := 0) (ms2 := 0) (As := [.int (iI 2)]) (rest := []) C (B_bad (x := 2) hB (by show -2147483648 ≤ (2 : Int) ∧ (2 : Int) ≤ 2147483647; omega)) dX12_copyRow_101 kV_X12_154 rfl ck_13 rfl (Nat.le_of_ble_eq_true rfl) ⟨Nat.le_of_ble_eq_true rfl, Nat.le_of_ble_eq_true rfl⟩ ⟨Nat.le_of_ble_eq_true rfl, Nat.le_of_ble_eq_true rfl⟩ (fun rh9 vh9 ah9 h9 => ?_)
                    obtain ⟨f7, rfl, fn7, bn7, ex7⟩ := h9
                    refine hv2 (fp0.call fn7 rfl rfl) (show f7 = -1 from ex7) (fun fq8 gf7 => ?_)
                    refine m_st (st2 := [.int (iI f7)]) rfl ?_
                    exact m_iret C dX12_copyRow_104 rfl (Nat.le_of_ble_eq_true rfl) (Nat.le_of_ble_eq_true rfl) ⟨f7, rfl, fq8, bn7, trivial⟩
        · refine m_aload_n (j := 0) C dX12_copyRow_52 rfl ?_
          refine m_iconst C dX12_copyRow_53 ?_
          refine m_call (mc2 := 0) (ms2 := 0) (As := [.int (iI 1)]) (rest := []) C (B_bad (x := 1) hB (by show -2147483648 ≤ (1 : Int) ∧ (1 : Int) ≤ 2147483647; omega)) dX12_copyRow_54 kV_X12_154 rfl ck_13 rfl (Nat.le_of_ble_eq_true rfl) ⟨Nat.le_of_ble_eq_true rfl, Nat.le_of_ble_eq_true rfl⟩ ⟨Nat.le_of_ble_eq_true rfl, Nat.le_of_ble_eq_true rfl⟩ (fun rh10 vh10 ah10 h10 => ?_)
          obtain ⟨f8, rfl, fn8, bn8, ex8⟩ := h10
          refine hv2 (fp0.call fn8 rfl rfl) (show f8 = -1 from ex8) (fun fq9 gf8 => ?_)
          refine m_st (st2 := [.int (iI f8)]) rfl ?_
          exact m_iret C dX12_copyRow_57 rfl (Nat.le_of_ble_eq_true rfl) (Nat.le_of_ble_eq_true rfl) ⟨f8, rfl, fq9, bn8, trivial⟩
    · refine m_st (st2 := [.int (iI 0)]) (by rw [h2e]) ?_
      refine m_if_ne (tgt := 34) C ⟨by decide, by decide⟩ dX12_copyRow_25 (by decide) (fun z => absurd z (by omega)) (fun _ => ?_)
      refine m_aload_n (j := 0) C dX12_copyRow_28 rfl ?_
      refine m_iconst C dX12_copyRow_29 ?_
      refine m_call (mc2 := 0) (ms2 := 0) (As := [.int (iI 2)]) (rest := []) C (B_bad (x := 2) hB (by show -2147483648 ≤ (2 : Int) ∧ (2 : Int) ≤ 2147483647; omega)) dX12_copyRow_30 kV_X12_154 rfl ck_13 rfl (Nat.le_of_ble_eq_true rfl) ⟨Nat.le_of_ble_eq_true rfl, Nat.le_of_ble_eq_true rfl⟩ ⟨Nat.le_of_ble_eq_true rfl, Nat.le_of_ble_eq_true rfl⟩ (fun rh11 vh11 ah11 h11 => ?_)
      obtain ⟨f9, rfl, fn9, bn9, ex9⟩ := h11
      refine hv2 (fp0.call fn9 rfl rfl) (show f9 = -1 from ex9) (fun fq10 gf9 => ?_)
      refine m_st (st2 := [.int (iI f9)]) rfl ?_
      exact m_iret C dX12_copyRow_33 rfl (Nat.le_of_ble_eq_true rfl) (Nat.le_of_ble_eq_true rfl) ⟨f9, rfl, fq10, bn9, trivial⟩
  · refine m_st (st2 := [.int (iI 0)]) (by rw [h1e]) ?_
    refine m_if_eq (tgt := 28) C ⟨by decide, by decide⟩ dX12_copyRow_11 (by decide) (fun _ => ?_) (fun z => absurd z (by omega))
    refine m_aload_n (j := 0) C dX12_copyRow_28 rfl ?_
    refine m_iconst C dX12_copyRow_29 ?_
    refine m_call (mc2 := 0) (ms2 := 0) (As := [.int (iI 2)]) (rest := []) C (B_bad (x := 2) hB (by show -2147483648 ≤ (2 : Int) ∧ (2 : Int) ≤ 2147483647; omega)) dX12_copyRow_30 kV_X12_154 rfl ck_13 rfl (Nat.le_of_ble_eq_true rfl) ⟨Nat.le_of_ble_eq_true rfl, Nat.le_of_ble_eq_true rfl⟩ ⟨Nat.le_of_ble_eq_true rfl, Nat.le_of_ble_eq_true rfl⟩ (fun rh12 vh12 ah12 h12 => ?_)
    obtain ⟨f10, rfl, fn10, bn10, ex10⟩ := h12
    refine hv2 (fp0.call fn10 rfl rfl) (show f10 = -1 from ex10) (fun fq11 gf10 => ?_)
    refine m_st (st2 := [.int (iI f10)]) rfl ?_
    exact m_iret C dX12_copyRow_33 rfl (Nat.le_of_ble_eq_true rfl) (Nat.le_of_ble_eq_true rfl) ⟨f10, rfl, fq11, bn10, trivial⟩
set_option maxHeartbeats 4000000 in
set_option maxRecDepth 100000 in
theorem M_copyLines {l : Launch} {G : GT} {h0 : Nat} {ad ln : Nat → Nat} {v : Nat → Int} {a : Nat → Nat → Int}  {q u n1 : Int} (hB : BX v a) (hq : -2147483648 ≤ q ∧ q ≤ 2147483647) (hu : -2147483648 ≤ u ∧ u ≤ 2147483647) (hn1 : -2147483648 ≤ n1 ∧ n1 ≤ 2147483647) : Mm l G yX12_copyLines cX12_copyLines 10 (some .int) 1 [.int (iI q), .int (iI u), .int (iI n1)] h0 ad ln v a 0 0 (fun r v2 a2 => ∃ f : Int, r = some (.int (iI f)) ∧ fr [0, 1, 42] [34, 35] v a v2 a2 ∧ BX v2 a2 ∧ (True)) := by
  refine Mm.mk (by decide) (Nat.le_of_ble_eq_true rfl) ?_
  intro p e s m args below meth c A C
  refine hv2 (show 0 ≤ v 36 ∧ v 36 ≤ 200 from hB.1 36) (show fr [0, 1, 42] [34, 35] v a v a from fr.refl) (fun r36 fp0 => ?_)
  refine m_iload_n (j := 3) C dX12_copyLines_0 rfl ?_
  refine m_bipush (z := 10) C dX12_copyLines_1 (by decide) ?_
  refine m_icmp_le (tgt := 13) C ⟨by omega, by omega⟩ ⟨by decide, by decide⟩ dX12_copyLines_3 (by decide) (fun c1 => ?_) (fun c1 => ?_)
  · refine m_iload_n (j := 3) C dX12_copyLines_13 rfl ?_
    refine m_if_ge (tgt := 23) C ⟨by omega, by omega⟩ dX12_copyLines_14 (by decide) (fun c2 => ?_) (fun c2 => ?_)
    · refine m_aload_n (j := 0) C dX12_copyLines_23 rfl ?_
      refine m_iconst C dX12_copyLines_24 ?_
      refine m_put (k := 42) (z := 0) C dX12_copyLines_25 w6_101 (by decide) rfl rfl rfl ?_
      refine hv2 (show BX (va_up v 42 0) a from hB.put (k := 42) (z := 0) ⟨by decide, by decide⟩) (fp0.put (k := 42) (z := 0) rfl) (fun bq1 fq1 => ?_)
      refine m_iconst C dX12_copyLines_28 ?_
      refine m_istore (lv2 := [(4, .int (iI 0)), (0, .ref h0), (1, .int (iI q)), (2, .int (iI u)), (3, .int (iI n1))]) C dX12_copyLines_29 (by decide) rfl ?_
      have Lp1 : ∀ (nn : Nat) (k : Int) (vb1 : Nat → Int) (ab1 : Nat → Nat → Int), 11 - k < (nn : Int) → BX vb1 ab1 → fr [0, 1, 42] [34, 35] v a vb1 ab1 → (0 ≤ k ∧ k ≤ n1) → (vb1 42 = k) → mw p l e (rmq 1 0 0) s m args below meth c G A 10 (MQ below (Qm G A (fun rq Lq Eq => ∃ (vq : Nat → Int) (aq : Nat → Nat → Int), mI G h0 ad ln vq aq Lq Eq ∧ (fun r v2 a2 => ∃ f : Int, r = some (.int (iI f)) ∧ fr [0, 1, 42] [34, 35] v a v2 a2 ∧ BX v2 a2 ∧ (True)) rq vq aq)) args s 0 0 A) h0 ad ln vb1 ab1 0 0 31 [(4, .int (iI k)), (0, .ref h0), (1, .int (iI q)), (2, .int (iI u)), (3, .int (iI n1))] [] := by
        intro nn
        induction nn with
        | zero =>
          intro k vb1 ab1 hm bxb1 fpb1 hk hc
          exact absurd hm (by omega)
        | succ nn ih1 =>
          intro k vb1 ab1 hm bxb1 fpb1 hk hc
          refine m_iload (j := 0) C dX12_copyLines_31 rfl ?_
          refine m_iload_n (j := 4) C dX12_copyLines_33 rfl ?_
          refine m_icmp_ge (tgt := 196) C ⟨by omega, by omega⟩ ⟨by omega, by omega⟩ dX12_copyLines_34 (by decide) (fun c3 => ?_) (fun c3 => ?_)
          · refine m_aload_n (j := 1) C dX12_copyLines_196 rfl ?_
            refine m_iload_n (j := 4) C dX12_copyLines_197 rfl ?_
            refine m_call (mc2 := 0) (ms2 := 0) (As := [.int (iI n1)]) (rest := []) C (B_fine (x := n1) bxb1 (by show -2147483648 ≤ n1 ∧ n1 ≤ 2147483647; omega)) dX12_copyLines_198 kV_X12_158 rfl ck_13 rfl (Nat.le_of_ble_eq_true rfl) ⟨Nat.le_of_ble_eq_true rfl, Nat.le_of_ble_eq_true rfl⟩ ⟨Nat.le_of_ble_eq_true rfl, Nat.le_of_ble_eq_true rfl⟩ (fun rh1 vh1 ah1 h1 => ?_)
            obtain ⟨f1, rfl, fn1, bn1, ex1⟩ := h1
            refine hv2 (fpb1.call fn1 rfl rfl) (show f1 = n1 from ex1) (fun fq2 gf1 => ?_)
            refine m_st (st2 := [.int (iI f1)]) rfl ?_
            exact m_iret C dX12_copyLines_201 rfl (Nat.le_of_ble_eq_true rfl) (Nat.le_of_ble_eq_true rfl) ⟨f1, rfl, fq2, bn1, trivial⟩
          · refine m_iload_n (j := 2) C dX12_copyLines_37 rfl ?_
            refine m_i2l (w := lI q) C dX12_copyLines_38 (lI_of ⟨by omega, by omega⟩) ?_
            refine m_iload (j := 0) C dX12_copyLines_39 rfl ?_
            refine m_i2l (w := lI k) C dX12_copyLines_41 (lI_of ⟨by omega, by omega⟩) ?_
            refine m_ladd (w := lI (q + k)) C dX12_copyLines_42 (lI_add _ _) ?_
            refine m_lstore (lv2 := [(5, .long (lI (q + k))), (4, .int (iI k)), (0, .ref h0), (1, .int (iI q)), (2, .int (iI u)), (3, .int (iI n1))]) C dX12_copyLines_43 (by decide) rfl ?_
            refine m_iload_n (j := 4) C dX12_copyLines_45 rfl ?_
            refine m_i2l (w := lI u) C dX12_copyLines_46 (lI_of ⟨by omega, by omega⟩) ?_
            refine m_iload (j := 1) C dX12_copyLines_47 rfl ?_
            refine m_i2l (w := lI k) C dX12_copyLines_49 (lI_of ⟨by omega, by omega⟩) ?_
            refine m_ladd (w := lI (u + k)) C dX12_copyLines_50 (lI_add _ _) ?_
            refine m_lstore (lv2 := [(7, .long (lI (u + k))), (5, .long (lI (q + k))), (4, .int (iI k)), (0, .ref h0), (1, .int (iI q)), (2, .int (iI u)), (3, .int (iI n1))]) C dX12_copyLines_51 (by decide) rfl ?_
            refine m_lload (j := 1) C dX12_copyLines_53 rfl ?_
            refine m_lconst (w := lI 0) C dX12_copyLines_55 rfl ?_
            obtain ⟨lc1, hlc1, elc1⟩ := lcmp_c (x := (q + k)) (y := 0) ⟨by omega, by omega⟩ ⟨by omega, by omega⟩
            refine m_lcmp (w := iI lc1) C dX12_copyLines_56 elc1 ?_
            refine m_if_lt (tgt := 89) C ⟨by omega, by omega⟩ dX12_copyLines_57 (by decide) (fun c4 => ?_) (fun c4 => ?_)
            · refine m_aload_n (j := 3) C dX12_copyLines_89 rfl ?_
              refine m_iconst C dX12_copyLines_90 ?_
              refine m_call (mc2 := 0) (ms2 := 0) (As := [.int (iI 2)]) (rest := []) C (B_bad (x := 2) bxb1 (by show -2147483648 ≤ (2 : Int) ∧ (2 : Int) ≤ 2147483647; omega)) dX12_copyLines_91 kV_X12_154 rfl ck_13 rfl (Nat.le_of_ble_eq_true rfl) ⟨Nat.le_of_ble_eq_true rfl, Nat.le_of_ble_eq_true rfl⟩ ⟨Nat.le_of_ble_eq_true rfl, Nat.le_of_ble_eq_true rfl⟩ (fun rh2 vh2 ah2 h2 => ?_)
              obtain ⟨f2, rfl, fn2, bn2, ex2⟩ := h2
              refine hv2 (fpb1.call fn2 rfl rfl) (show f2 = -1 from ex2) (fun fq3 gf2 => ?_)
              refine m_st (st2 := [.int (iI f2)]) rfl ?_
              exact m_iret C dX12_copyLines_94 rfl (Nat.le_of_ble_eq_true rfl) (Nat.le_of_ble_eq_true rfl) ⟨f2, rfl, fq3, bn2, trivial⟩
            · refine m_lload (j := 1) C dX12_copyLines_60 rfl ?_
              refine m_aload_n (j := 3) C dX12_copyLines_62 rfl ?_
              refine hv2 (show 0 ≤ vb1 36 ∧ vb1 36 ≤ 200 from bxb1.1 36) (show vb1 36 = v 36 from fpb1.1 36 rfl) (fun rv1 ve1 => ?_)
              refine m_get (k := 36) C dX12_copyLines_63 w6_95 (by decide) rfl ?_
              refine m_st (st2 := [.int (iI (v 36)), .long (lI (q + k))]) (congrArg (fun z => Value.int (iI z) :: [.long (lI (q + k))]) (fpb1.1 36 rfl)) ?_
              refine m_i2l (w := lI (v 36)) C dX12_copyLines_66 (lI_of ⟨by omega, by omega⟩) ?_
              obtain ⟨lc2, hlc2, elc2⟩ := lcmp_c (x := (q + k)) (y := (v 36)) ⟨by omega, by omega⟩ ⟨by omega, by omega⟩
              refine m_lcmp (w := iI lc2) C dX12_copyLines_67 elc2 ?_
              refine m_if_ge (tgt := 89) C ⟨by omega, by omega⟩ dX12_copyLines_68 (by decide) (fun c5 => ?_) (fun c5 => ?_)
              · refine m_aload_n (j := 3) C dX12_copyLines_89 rfl ?_
                refine m_iconst C dX12_copyLines_90 ?_
                refine m_call (mc2 := 0) (ms2 := 0) (As := [.int (iI 2)]) (rest := []) C (B_bad (x := 2) bxb1 (by show -2147483648 ≤ (2 : Int) ∧ (2 : Int) ≤ 2147483647; omega)) dX12_copyLines_91 kV_X12_154 rfl ck_13 rfl (Nat.le_of_ble_eq_true rfl) ⟨Nat.le_of_ble_eq_true rfl, Nat.le_of_ble_eq_true rfl⟩ ⟨Nat.le_of_ble_eq_true rfl, Nat.le_of_ble_eq_true rfl⟩ (fun rh3 vh3 ah3 h3 => ?_)
                obtain ⟨f3, rfl, fn3, bn3, ex3⟩ := h3
                refine hv2 (fpb1.call fn3 rfl rfl) (show f3 = -1 from ex3) (fun fq4 gf3 => ?_)
                refine m_st (st2 := [.int (iI f3)]) rfl ?_
                exact m_iret C dX12_copyLines_94 rfl (Nat.le_of_ble_eq_true rfl) (Nat.le_of_ble_eq_true rfl) ⟨f3, rfl, fq4, bn3, trivial⟩
              · refine m_lload (j := 0) C dX12_copyLines_71 rfl ?_
                refine m_lconst (w := lI 0) C dX12_copyLines_73 rfl ?_
                obtain ⟨lc3, hlc3, elc3⟩ := lcmp_c (x := (u + k)) (y := 0) ⟨by omega, by omega⟩ ⟨by omega, by omega⟩
                refine m_lcmp (w := iI lc3) C dX12_copyLines_74 elc3 ?_
                refine m_if_lt (tgt := 89) C ⟨by omega, by omega⟩ dX12_copyLines_75 (by decide) (fun c6 => ?_) (fun c6 => ?_)
                · refine m_aload_n (j := 3) C dX12_copyLines_89 rfl ?_
                  refine m_iconst C dX12_copyLines_90 ?_
                  refine m_call (mc2 := 0) (ms2 := 0) (As := [.int (iI 2)]) (rest := []) C (B_bad (x := 2) bxb1 (by show -2147483648 ≤ (2 : Int) ∧ (2 : Int) ≤ 2147483647; omega)) dX12_copyLines_91 kV_X12_154 rfl ck_13 rfl (Nat.le_of_ble_eq_true rfl) ⟨Nat.le_of_ble_eq_true rfl, Nat.le_of_ble_eq_true rfl⟩ ⟨Nat.le_of_ble_eq_true rfl, Nat.le_of_ble_eq_true rfl⟩ (fun rh4 vh4 ah4 h4 => ?_)
                  obtain ⟨f4, rfl, fn4, bn4, ex4⟩ := h4
                  refine hv2 (fpb1.call fn4 rfl rfl) (show f4 = -1 from ex4) (fun fq5 gf4 => ?_)
                  refine m_st (st2 := [.int (iI f4)]) rfl ?_
                  exact m_iret C dX12_copyLines_94 rfl (Nat.le_of_ble_eq_true rfl) (Nat.le_of_ble_eq_true rfl) ⟨f4, rfl, fq5, bn4, trivial⟩
                · refine m_lload (j := 0) C dX12_copyLines_78 rfl ?_
                  refine m_aload_n (j := 3) C dX12_copyLines_80 rfl ?_
                  refine m_get (k := 36) C dX12_copyLines_81 w6_95 (by decide) rfl ?_
                  refine m_st (st2 := [.int (iI (v 36)), .long (lI (u + k))]) (congrArg (fun z => Value.int (iI z) :: [.long (lI (u + k))]) (fpb1.1 36 rfl)) ?_
                  refine m_i2l (w := lI (v 36)) C dX12_copyLines_84 (lI_of ⟨by omega, by omega⟩) ?_
                  obtain ⟨lc4, hlc4, elc4⟩ := lcmp_c (x := (u + k)) (y := (v 36)) ⟨by omega, by omega⟩ ⟨by omega, by omega⟩
                  refine m_lcmp (w := iI lc4) C dX12_copyLines_85 elc4 ?_
                  refine m_if_lt (tgt := 95) C ⟨by omega, by omega⟩ dX12_copyLines_86 (by decide) (fun c7 => ?_) (fun c7 => ?_)
                  · refine m_aload_n (j := 3) C dX12_copyLines_95 rfl ?_
                    refine m_geta (k := 34) C dX12_copyLines_96 w6_93 (by decide) rfl ?_
                    refine m_lload (j := 1) C dX12_copyLines_99 rfl ?_
                    refine m_l2i (w := iI (q + k)) C dX12_copyLines_101 (lI_i _) ?_
                    refine m_ald (k := 34) C dX12_copyLines_102 rfl rfl (by decide) (by omega) (by show _ < ((_ : Nat) : Int); simp only [mlen]; omega) (by decide) ?_
                    have ra1 : (-1) ≤ ab1 34 (q + k).toNat ∧ ab1 34 (q + k).toNat ≤ 200 := bxb1.2 34 ((q + k).toNat)
                    refine m_if_ge (tgt := 112) C ⟨by omega, by omega⟩ dX12_copyLines_103 (by decide) (fun c8 => ?_) (fun c8 => ?_)
                    · refine m_aload_n (j := 3) C dX12_copyLines_112 rfl ?_
                      refine m_geta (k := 34) C dX12_copyLines_113 w6_93 (by decide) rfl ?_
                      refine m_lload (j := 0) C dX12_copyLines_116 rfl ?_
                      refine m_l2i (w := iI (u + k)) C dX12_copyLines_118 (lI_i _) ?_
                      refine m_aload_n (j := 3) C dX12_copyLines_119 rfl ?_
                      refine m_geta (k := 34) C dX12_copyLines_120 w6_93 (by decide) rfl ?_
                      refine m_lload (j := 1) C dX12_copyLines_123 rfl ?_
                      refine m_l2i (w := iI (q + k)) C dX12_copyLines_125 (lI_i _) ?_
                      refine m_ald (k := 34) C dX12_copyLines_126 rfl rfl (by decide) (by omega) (by show _ < ((_ : Nat) : Int); simp only [mlen]; omega) (by decide) ?_
                      refine m_ast (k := 34) C dX12_copyLines_127 rfl rfl (by decide) (by omega) (by show _ < ((_ : Nat) : Int); simp only [mlen]; omega) (by decide) ?_
                      refine hv2 (show BX vb1 (up2 ab1 34 (u + k).toNat (ab1 34 (q + k).toNat)) from bxb1.set (k := 34) (i := (u + k).toNat) (z := ab1 34 (q + k).toNat) (show (-1) ≤ (ab1 34 (q + k).toNat) ∧ (ab1 34 (q + k).toNat) ≤ 200 by omega)) (fpb1.set (k := 34) (i := (u + k).toNat) (z := ab1 34 (q + k).toNat) rfl) (fun bq2 fq6 => ?_)
                      refine m_iconst C dX12_copyLines_128 ?_
                      refine m_istore (lv2 := [(9, .int (iI 0)), (7, .long (lI (u + k))), (5, .long (lI (q + k))), (4, .int (iI k)), (0, .ref h0), (1, .int (iI q)), (2, .int (iI u)), (3, .int (iI n1))]) C dX12_copyLines_129 (by decide) rfl ?_
                      have Lp2 : ∀ (nn : Nat) (i1 : Int) (vb2 : Nat → Int) (ab2 : Nat → Nat → Int), 201 - i1 < (nn : Int) → BX vb2 ab2 → fr [0, 1, 42] [34, 35] v a vb2 ab2 → (0 ≤ i1 ∧ i1 ≤ 200) → (vb2 42 = k) → mw p l e (rmq 1 0 0) s m args below meth c G A 10 (MQ below (Qm G A (fun rq Lq Eq => ∃ (vq : Nat → Int) (aq : Nat → Nat → Int), mI G h0 ad ln vq aq Lq Eq ∧ (fun r v2 a2 => ∃ f : Int, r = some (.int (iI f)) ∧ fr [0, 1, 42] [34, 35] v a v2 a2 ∧ BX v2 a2 ∧ (True)) rq vq aq)) args s 0 0 A) h0 ad ln vb2 ab2 0 0 131 [(9, .int (iI i1)), (7, .long (lI (u + k))), (5, .long (lI (q + k))), (4, .int (iI k)), (0, .ref h0), (1, .int (iI q)), (2, .int (iI u)), (3, .int (iI n1))] [] := by
                        intro nn
                        induction nn with
                        | zero =>
                          intro i1 vb2 ab2 hm bxb2 fpb2 hi hc2
                          exact absurd hm (by omega)
                        | succ nn ih2 =>
                          intro i1 vb2 ab2 hm bxb2 fpb2 hi hc2
                          refine m_iload (j := 0) C dX12_copyLines_131 rfl ?_
                          refine m_aload_n (j := 4) C dX12_copyLines_133 rfl ?_
                          refine m_geta (k := 34) C dX12_copyLines_134 w6_93 (by decide) rfl ?_
                          refine m_lload (j := 2) C dX12_copyLines_137 rfl ?_
                          refine m_l2i (w := iI (q + k)) C dX12_copyLines_139 (lI_i _) ?_
                          refine m_ald (k := 34) C dX12_copyLines_140 rfl rfl (by decide) (by omega) (by show _ < ((_ : Nat) : Int); simp only [mlen]; omega) (by decide) ?_
                          have ra2 : (-1) ≤ ab2 34 (q + k).toNat ∧ ab2 34 (q + k).toNat ≤ 200 := bxb2.2 34 ((q + k).toNat)
                          refine m_icmp_ge (tgt := 180) C ⟨by omega, by omega⟩ ⟨by omega, by omega⟩ dX12_copyLines_141 (by decide) (fun c9 => ?_) (fun c9 => ?_)
                          · refine m_aload_n (j := 4) C dX12_copyLines_180 rfl ?_
                            refine m_dup C dX12_copyLines_181 rfl ?_
                            have rv2 : (-2147483648) ≤ vb2 42 ∧ vb2 42 ≤ 2147483647 := bxb2.1 42
                            refine m_get (k := 42) C dX12_copyLines_182 w6_101 (by decide) rfl ?_
                            refine m_iconst C dX12_copyLines_185 ?_
                            refine m_iadd C dX12_copyLines_186 ?_
                            refine m_put (k := 42) (z := (vb2 42) + 1) C dX12_copyLines_187 w6_101 (by decide) rfl rfl rfl ?_
                            refine hv2 (show BX (va_up vb2 42 ((vb2 42) + 1)) ab2 from bxb2.put (k := 42) (z := (vb2 42) + 1) (show (-2147483648) ≤ ((vb2 42) + 1) ∧ ((vb2 42) + 1) ≤ 2147483647 by omega)) (fpb2.put (k := 42) (z := (vb2 42) + 1) rfl) (fun bq3 fq7 => ?_)
                            refine m_iinc (z := k) (j := 3) (lv2 := [(4, .int (iI (k + 1))), (9, .int (iI i1)), (7, .long (lI (u + k))), (5, .long (lI (q + k))), (0, .ref h0), (1, .int (iI q)), (2, .int (iI u)), (3, .int (iI n1))]) C dX12_copyLines_190 rfl (by decide) rfl ?_
                            refine m_goto (tgt := 31) C dX12_copyLines_193 (by decide) ?_
                            refine m_lv (lv2 := [(4, .int (iI (k + 1))), (0, .ref h0), (1, .int (iI q)), (2, .int (iI u)), (3, .int (iI n1))]) [0, 4, 5, 6, 7] rfl ?_
                            exact ih1  (k + 1) _ _ (by omega) bq3 fq7 (by omega) (by show ((vb2 42) + 1) = (k + 1); omega)
                          · refine m_aload_n (j := 4) C dX12_copyLines_144 rfl ?_
                            refine m_geta (k := 35) C dX12_copyLines_145 w6_94 (by decide) rfl ?_
                            refine m_sipush (z := 200) C dX12_copyLines_148 (by decide) ?_
                            refine m_lload (j := 1) C dX12_copyLines_151 rfl ?_
                            refine m_l2i (w := iI (u + k)) C dX12_copyLines_153 (lI_i _) ?_
                            refine m_imul C dX12_copyLines_154 ?_
                            refine m_iload (j := 0) C dX12_copyLines_155 rfl ?_
                            refine m_iadd C dX12_copyLines_157 ?_
                            refine m_aload_n (j := 4) C dX12_copyLines_158 rfl ?_
                            refine m_geta (k := 35) C dX12_copyLines_159 w6_94 (by decide) rfl ?_
                            refine m_sipush (z := 200) C dX12_copyLines_162 (by decide) ?_
                            refine m_lload (j := 2) C dX12_copyLines_165 rfl ?_
                            refine m_l2i (w := iI (q + k)) C dX12_copyLines_167 (lI_i _) ?_
                            refine m_imul C dX12_copyLines_168 ?_
                            refine m_iload (j := 0) C dX12_copyLines_169 rfl ?_
                            refine m_iadd C dX12_copyLines_171 ?_
                            refine m_ald (k := 35) C dX12_copyLines_172 rfl rfl (by decide) (by omega) (by show _ < ((_ : Nat) : Int); simp only [mlen]; omega) (by decide) ?_
                            have ra3 : (-2147483648) ≤ ab2 35 ((200 * (q + k)) + i1).toNat ∧ ab2 35 ((200 * (q + k)) + i1).toNat ≤ 2147483647 := bxb2.2 35 (((200 * (q + k)) + i1).toNat)
                            refine m_ast (k := 35) C dX12_copyLines_173 rfl rfl (by decide) (by omega) (by show _ < ((_ : Nat) : Int); simp only [mlen]; omega) (by decide) ?_
                            refine hv2 (show BX vb2 (up2 ab2 35 ((200 * (u + k)) + i1).toNat (ab2 35 ((200 * (q + k)) + i1).toNat)) from bxb2.set (k := 35) (i := ((200 * (u + k)) + i1).toNat) (z := ab2 35 ((200 * (q + k)) + i1).toNat) (show (-2147483648) ≤ (ab2 35 ((200 * (q + k)) + i1).toNat) ∧ (ab2 35 ((200 * (q + k)) + i1).toNat) ≤ 2147483647 by omega)) (fpb2.set (k := 35) (i := ((200 * (u + k)) + i1).toNat) (z := ab2 35 ((200 * (q + k)) + i1).toNat) rfl) (fun bq4 fq8 => ?_)
                            refine m_iinc (z := i1) (j := 0) (lv2 := [(9, .int (iI (i1 + 1))), (7, .long (lI (u + k))), (5, .long (lI (q + k))), (4, .int (iI k)), (0, .ref h0), (1, .int (iI q)), (2, .int (iI u)), (3, .int (iI n1))]) C dX12_copyLines_174 rfl (by decide) rfl ?_
                            refine m_goto (tgt := 131) C dX12_copyLines_177 (by decide) ?_
                            have rv3 : (-2147483648) ≤ vb2 42 ∧ vb2 42 ≤ 2147483647 := bq4.1 42
                            refine m_lv (lv2 := [(9, .int (iI (i1 + 1))), (7, .long (lI (u + k))), (5, .long (lI (q + k))), (4, .int (iI k)), (0, .ref h0), (1, .int (iI q)), (2, .int (iI u)), (3, .int (iI n1))]) [0, 1, 2, 3, 4, 5, 6, 7] rfl ?_
                            exact ih2  (i1 + 1) _ _ (by omega) bq4 fq8 (by omega) (by show (vb2 42) = k; omega)
                      have rv4 : (-2147483648) ≤ vb1 42 ∧ vb1 42 ≤ 2147483647 := bq2.1 42
                      refine m_lv (lv2 := [(9, .int (iI 0)), (7, .long (lI (u + k))), (5, .long (lI (q + k))), (4, .int (iI k)), (0, .ref h0), (1, .int (iI q)), (2, .int (iI u)), (3, .int (iI n1))]) [0, 1, 2, 3, 4, 5, 6, 7] rfl ?_
                      exact Lp2 202 0 _ _ (by omega) bq2 fq6 (by omega) (by show (vb1 42) = k; omega)
                    · refine m_aload_n (j := 3) C dX12_copyLines_106 rfl ?_
                      refine m_iconst C dX12_copyLines_107 ?_
                      refine m_call (mc2 := 0) (ms2 := 0) (As := [.int (iI 1)]) (rest := []) C (B_bad (x := 1) bxb1 (by show -2147483648 ≤ (1 : Int) ∧ (1 : Int) ≤ 2147483647; omega)) dX12_copyLines_108 kV_X12_154 rfl ck_13 rfl (Nat.le_of_ble_eq_true rfl) ⟨Nat.le_of_ble_eq_true rfl, Nat.le_of_ble_eq_true rfl⟩ ⟨Nat.le_of_ble_eq_true rfl, Nat.le_of_ble_eq_true rfl⟩ (fun rh5 vh5 ah5 h5 => ?_)
                      obtain ⟨f5, rfl, fn5, bn5, ex5⟩ := h5
                      refine hv2 (fpb1.call fn5 rfl rfl) (show f5 = -1 from ex5) (fun fq9 gf5 => ?_)
                      refine m_st (st2 := [.int (iI f5)]) rfl ?_
                      exact m_iret C dX12_copyLines_111 rfl (Nat.le_of_ble_eq_true rfl) (Nat.le_of_ble_eq_true rfl) ⟨f5, rfl, fq9, bn5, trivial⟩
                  · refine m_aload_n (j := 3) C dX12_copyLines_89 rfl ?_
                    refine m_iconst C dX12_copyLines_90 ?_
                    refine m_call (mc2 := 0) (ms2 := 0) (As := [.int (iI 2)]) (rest := []) C (B_bad (x := 2) bxb1 (by show -2147483648 ≤ (2 : Int) ∧ (2 : Int) ≤ 2147483647; omega)) dX12_copyLines_91 kV_X12_154 rfl ck_13 rfl (Nat.le_of_ble_eq_true rfl) ⟨Nat.le_of_ble_eq_true rfl, Nat.le_of_ble_eq_true rfl⟩ ⟨Nat.le_of_ble_eq_true rfl, Nat.le_of_ble_eq_true rfl⟩ (fun rh6 vh6 ah6 h6 => ?_)
                    obtain ⟨f6, rfl, fn6, bn6, ex6⟩ := h6
                    refine hv2 (fpb1.call fn6 rfl rfl) (show f6 = -1 from ex6) (fun fq10 gf6 => ?_)
                    refine m_st (st2 := [.int (iI f6)]) rfl ?_
                    exact m_iret C dX12_copyLines_94 rfl (Nat.le_of_ble_eq_true rfl) (Nat.le_of_ble_eq_true rfl) ⟨f6, rfl, fq10, bn6, trivial⟩
      refine m_lv (lv2 := [(4, .int (iI 0)), (0, .ref h0), (1, .int (iI q)), (2, .int (iI u)), (3, .int (iI n1))]) [0, 1, 2, 3, 4] rfl ?_
      exact Lp1 12 0 _ _ (by omega) bq1 fq1 (by omega) (by show 0 = 0; omega)
    · refine m_aload_n (j := 0) C dX12_copyLines_17 rfl ?_
      refine m_iconst C dX12_copyLines_18 ?_
      refine m_call (mc2 := 0) (ms2 := 0) (As := [.int (iI 5)]) (rest := []) C (B_bad (x := 5) hB (by show -2147483648 ≤ (5 : Int) ∧ (5 : Int) ≤ 2147483647; omega)) dX12_copyLines_19 kV_X12_154 rfl ck_13 rfl (Nat.le_of_ble_eq_true rfl) ⟨Nat.le_of_ble_eq_true rfl, Nat.le_of_ble_eq_true rfl⟩ ⟨Nat.le_of_ble_eq_true rfl, Nat.le_of_ble_eq_true rfl⟩ (fun rh7 vh7 ah7 h7 => ?_)
      obtain ⟨f7, rfl, fn7, bn7, ex7⟩ := h7
      refine hv2 (fp0.call fn7 rfl rfl) (show f7 = -1 from ex7) (fun fq11 gf7 => ?_)
      refine m_st (st2 := [.int (iI f7)]) rfl ?_
      exact m_iret C dX12_copyLines_22 rfl (Nat.le_of_ble_eq_true rfl) (Nat.le_of_ble_eq_true rfl) ⟨f7, rfl, fq11, bn7, trivial⟩
  · refine m_aload_n (j := 0) C dX12_copyLines_6 rfl ?_
    refine m_bipush (z := 6) C dX12_copyLines_7 (by decide) ?_
    refine m_call (mc2 := 0) (ms2 := 0) (As := [.int (iI 6)]) (rest := []) C (B_bad (x := 6) hB (by show -2147483648 ≤ (6 : Int) ∧ (6 : Int) ≤ 2147483647; omega)) dX12_copyLines_9 kV_X12_154 rfl ck_13 rfl (Nat.le_of_ble_eq_true rfl) ⟨Nat.le_of_ble_eq_true rfl, Nat.le_of_ble_eq_true rfl⟩ ⟨Nat.le_of_ble_eq_true rfl, Nat.le_of_ble_eq_true rfl⟩ (fun rh8 vh8 ah8 h8 => ?_)
    obtain ⟨f8, rfl, fn8, bn8, ex8⟩ := h8
    refine hv2 (fp0.call fn8 rfl rfl) (show f8 = -1 from ex8) (fun fq12 gf8 => ?_)
    refine m_st (st2 := [.int (iI f8)]) rfl ?_
    exact m_iret C dX12_copyLines_12 rfl (Nat.le_of_ble_eq_true rfl) (Nat.le_of_ble_eq_true rfl) ⟨f8, rfl, fq12, bn8, trivial⟩
def bcn (x : Int32) : Int32 := ((((((((x - (((Int32.toUInt32 x >>> (Int32.toUInt32 (1 : Int32) &&& Int32.toUInt32 31)).toInt32) &&& (1431655765 : Int32))) &&& (858993459 : Int32)) + (((Int32.toUInt32 (x - (((Int32.toUInt32 x >>> (Int32.toUInt32 (1 : Int32) &&& Int32.toUInt32 31)).toInt32) &&& (1431655765 : Int32))) >>> (Int32.toUInt32 (2 : Int32) &&& Int32.toUInt32 31)).toInt32) &&& (858993459 : Int32))) + ((Int32.toUInt32 (((x - (((Int32.toUInt32 x >>> (Int32.toUInt32 (1 : Int32) &&& Int32.toUInt32 31)).toInt32) &&& (1431655765 : Int32))) &&& (858993459 : Int32)) + (((Int32.toUInt32 (x - (((Int32.toUInt32 x >>> (Int32.toUInt32 (1 : Int32) &&& Int32.toUInt32 31)).toInt32) &&& (1431655765 : Int32))) >>> (Int32.toUInt32 (2 : Int32) &&& Int32.toUInt32 31)).toInt32) &&& (858993459 : Int32))) >>> (Int32.toUInt32 (4 : Int32) &&& Int32.toUInt32 31)).toInt32)) &&& (252645135 : Int32)) + ((Int32.toUInt32 (((((x - (((Int32.toUInt32 x >>> (Int32.toUInt32 (1 : Int32) &&& Int32.toUInt32 31)).toInt32) &&& (1431655765 : Int32))) &&& (858993459 : Int32)) + (((Int32.toUInt32 (x - (((Int32.toUInt32 x >>> (Int32.toUInt32 (1 : Int32) &&& Int32.toUInt32 31)).toInt32) &&& (1431655765 : Int32))) >>> (Int32.toUInt32 (2 : Int32) &&& Int32.toUInt32 31)).toInt32) &&& (858993459 : Int32))) + ((Int32.toUInt32 (((x - (((Int32.toUInt32 x >>> (Int32.toUInt32 (1 : Int32) &&& Int32.toUInt32 31)).toInt32) &&& (1431655765 : Int32))) &&& (858993459 : Int32)) + (((Int32.toUInt32 (x - (((Int32.toUInt32 x >>> (Int32.toUInt32 (1 : Int32) &&& Int32.toUInt32 31)).toInt32) &&& (1431655765 : Int32))) >>> (Int32.toUInt32 (2 : Int32) &&& Int32.toUInt32 31)).toInt32) &&& (858993459 : Int32))) >>> (Int32.toUInt32 (4 : Int32) &&& Int32.toUInt32 31)).toInt32)) &&& (252645135 : Int32)) >>> (Int32.toUInt32 (8 : Int32) &&& Int32.toUInt32 31)).toInt32)) + ((Int32.toUInt32 ((((((x - (((Int32.toUInt32 x >>> (Int32.toUInt32 (1 : Int32) &&& Int32.toUInt32 31)).toInt32) &&& (1431655765 : Int32))) &&& (858993459 : Int32)) + (((Int32.toUInt32 (x - (((Int32.toUInt32 x >>> (Int32.toUInt32 (1 : Int32) &&& Int32.toUInt32 31)).toInt32) &&& (1431655765 : Int32))) >>> (Int32.toUInt32 (2 : Int32) &&& Int32.toUInt32 31)).toInt32) &&& (858993459 : Int32))) + ((Int32.toUInt32 (((x - (((Int32.toUInt32 x >>> (Int32.toUInt32 (1 : Int32) &&& Int32.toUInt32 31)).toInt32) &&& (1431655765 : Int32))) &&& (858993459 : Int32)) + (((Int32.toUInt32 (x - (((Int32.toUInt32 x >>> (Int32.toUInt32 (1 : Int32) &&& Int32.toUInt32 31)).toInt32) &&& (1431655765 : Int32))) >>> (Int32.toUInt32 (2 : Int32) &&& Int32.toUInt32 31)).toInt32) &&& (858993459 : Int32))) >>> (Int32.toUInt32 (4 : Int32) &&& Int32.toUInt32 31)).toInt32)) &&& (252645135 : Int32)) + ((Int32.toUInt32 (((((x - (((Int32.toUInt32 x >>> (Int32.toUInt32 (1 : Int32) &&& Int32.toUInt32 31)).toInt32) &&& (1431655765 : Int32))) &&& (858993459 : Int32)) + (((Int32.toUInt32 (x - (((Int32.toUInt32 x >>> (Int32.toUInt32 (1 : Int32) &&& Int32.toUInt32 31)).toInt32) &&& (1431655765 : Int32))) >>> (Int32.toUInt32 (2 : Int32) &&& Int32.toUInt32 31)).toInt32) &&& (858993459 : Int32))) + ((Int32.toUInt32 (((x - (((Int32.toUInt32 x >>> (Int32.toUInt32 (1 : Int32) &&& Int32.toUInt32 31)).toInt32) &&& (1431655765 : Int32))) &&& (858993459 : Int32)) + (((Int32.toUInt32 (x - (((Int32.toUInt32 x >>> (Int32.toUInt32 (1 : Int32) &&& Int32.toUInt32 31)).toInt32) &&& (1431655765 : Int32))) >>> (Int32.toUInt32 (2 : Int32) &&& Int32.toUInt32 31)).toInt32) &&& (858993459 : Int32))) >>> (Int32.toUInt32 (4 : Int32) &&& Int32.toUInt32 31)).toInt32)) &&& (252645135 : Int32)) >>> (Int32.toUInt32 (8 : Int32) &&& Int32.toUInt32 31)).toInt32)) >>> (Int32.toUInt32 (16 : Int32) &&& Int32.toUInt32 31)).toInt32)) &&& (63 : Int32))
set_option maxHeartbeats 4000000 in
set_option maxRecDepth 100000 in
theorem s_bitCount {l : Launch} {G : GT} {L : List Nat} {E : Nat → va_E} (x : Int32) : Mq l G yJ6_bitCount_0f7a4 cJ6_bitCount_0f7a4 1 (some .int) 0 [.int x] L E 0 0 (fun v L2 E2 => v = some (.int (bcn x)) ∧ L2 = L ∧ E2 = E) := by
  refine Mq.mk (by decide) (Nat.le_of_ble_eq_true rfl) ?_
  intro p e s m args below meth c A C
  refine q_iload_n (j := 0) C dJ6_bitCount_0f7a4_0 rfl ?_
  refine q_iload_n (j := 0) C dJ6_bitCount_0f7a4_1 rfl ?_
  refine q_iconst (v := 1) C dJ6_bitCount_0f7a4_2 (by decide) ?_
  refine q_iushr (v := ((Int32.toUInt32 x >>> (Int32.toUInt32 (1 : Int32) &&& Int32.toUInt32 31)).toInt32)) C dJ6_bitCount_0f7a4_3 rfl ?_
  refine q_ldcw (v := 1431655765) C dJ6_bitCount_0f7a4_4 w5_17 ?_
  refine q_iand (v := (((Int32.toUInt32 x >>> (Int32.toUInt32 (1 : Int32) &&& Int32.toUInt32 31)).toInt32) &&& (1431655765 : Int32))) C dJ6_bitCount_0f7a4_7 rfl ?_
  refine q_isub (v := (x - (((Int32.toUInt32 x >>> (Int32.toUInt32 (1 : Int32) &&& Int32.toUInt32 31)).toInt32) &&& (1431655765 : Int32)))) C dJ6_bitCount_0f7a4_8 rfl ?_
  refine q_istore_n (lv2 := [(0, .int (x - (((Int32.toUInt32 x >>> (Int32.toUInt32 (1 : Int32) &&& Int32.toUInt32 31)).toInt32) &&& (1431655765 : Int32))))]) C dJ6_bitCount_0f7a4_9 (by decide) rfl ?_
  refine q_iload_n (j := 0) C dJ6_bitCount_0f7a4_10 rfl ?_
  refine q_ldcw (v := 858993459) C dJ6_bitCount_0f7a4_11 w5_18 ?_
  refine q_iand (v := ((x - (((Int32.toUInt32 x >>> (Int32.toUInt32 (1 : Int32) &&& Int32.toUInt32 31)).toInt32) &&& (1431655765 : Int32))) &&& (858993459 : Int32))) C dJ6_bitCount_0f7a4_14 rfl ?_
  refine q_iload_n (j := 0) C dJ6_bitCount_0f7a4_15 rfl ?_
  refine q_iconst (v := 2) C dJ6_bitCount_0f7a4_16 (by decide) ?_
  refine q_iushr (v := ((Int32.toUInt32 (x - (((Int32.toUInt32 x >>> (Int32.toUInt32 (1 : Int32) &&& Int32.toUInt32 31)).toInt32) &&& (1431655765 : Int32))) >>> (Int32.toUInt32 (2 : Int32) &&& Int32.toUInt32 31)).toInt32)) C dJ6_bitCount_0f7a4_17 rfl ?_
  refine q_ldcw (v := 858993459) C dJ6_bitCount_0f7a4_18 w5_18 ?_
  refine q_iand (v := (((Int32.toUInt32 (x - (((Int32.toUInt32 x >>> (Int32.toUInt32 (1 : Int32) &&& Int32.toUInt32 31)).toInt32) &&& (1431655765 : Int32))) >>> (Int32.toUInt32 (2 : Int32) &&& Int32.toUInt32 31)).toInt32) &&& (858993459 : Int32))) C dJ6_bitCount_0f7a4_21 rfl ?_
  refine q_iadd (v := (((x - (((Int32.toUInt32 x >>> (Int32.toUInt32 (1 : Int32) &&& Int32.toUInt32 31)).toInt32) &&& (1431655765 : Int32))) &&& (858993459 : Int32)) + (((Int32.toUInt32 (x - (((Int32.toUInt32 x >>> (Int32.toUInt32 (1 : Int32) &&& Int32.toUInt32 31)).toInt32) &&& (1431655765 : Int32))) >>> (Int32.toUInt32 (2 : Int32) &&& Int32.toUInt32 31)).toInt32) &&& (858993459 : Int32)))) C dJ6_bitCount_0f7a4_22 rfl ?_
  refine q_istore_n (lv2 := [(0, .int (((x - (((Int32.toUInt32 x >>> (Int32.toUInt32 (1 : Int32) &&& Int32.toUInt32 31)).toInt32) &&& (1431655765 : Int32))) &&& (858993459 : Int32)) + (((Int32.toUInt32 (x - (((Int32.toUInt32 x >>> (Int32.toUInt32 (1 : Int32) &&& Int32.toUInt32 31)).toInt32) &&& (1431655765 : Int32))) >>> (Int32.toUInt32 (2 : Int32) &&& Int32.toUInt32 31)).toInt32) &&& (858993459 : Int32))))]) C dJ6_bitCount_0f7a4_23 (by decide) rfl ?_
  refine q_iload_n (j := 0) C dJ6_bitCount_0f7a4_24 rfl ?_
  refine q_iload_n (j := 0) C dJ6_bitCount_0f7a4_25 rfl ?_
  refine q_iconst (v := 4) C dJ6_bitCount_0f7a4_26 (by decide) ?_
  refine q_iushr (v := ((Int32.toUInt32 (((x - (((Int32.toUInt32 x >>> (Int32.toUInt32 (1 : Int32) &&& Int32.toUInt32 31)).toInt32) &&& (1431655765 : Int32))) &&& (858993459 : Int32)) + (((Int32.toUInt32 (x - (((Int32.toUInt32 x >>> (Int32.toUInt32 (1 : Int32) &&& Int32.toUInt32 31)).toInt32) &&& (1431655765 : Int32))) >>> (Int32.toUInt32 (2 : Int32) &&& Int32.toUInt32 31)).toInt32) &&& (858993459 : Int32))) >>> (Int32.toUInt32 (4 : Int32) &&& Int32.toUInt32 31)).toInt32)) C dJ6_bitCount_0f7a4_27 rfl ?_
  refine q_iadd (v := ((((x - (((Int32.toUInt32 x >>> (Int32.toUInt32 (1 : Int32) &&& Int32.toUInt32 31)).toInt32) &&& (1431655765 : Int32))) &&& (858993459 : Int32)) + (((Int32.toUInt32 (x - (((Int32.toUInt32 x >>> (Int32.toUInt32 (1 : Int32) &&& Int32.toUInt32 31)).toInt32) &&& (1431655765 : Int32))) >>> (Int32.toUInt32 (2 : Int32) &&& Int32.toUInt32 31)).toInt32) &&& (858993459 : Int32))) + ((Int32.toUInt32 (((x - (((Int32.toUInt32 x >>> (Int32.toUInt32 (1 : Int32) &&& Int32.toUInt32 31)).toInt32) &&& (1431655765 : Int32))) &&& (858993459 : Int32)) + (((Int32.toUInt32 (x - (((Int32.toUInt32 x >>> (Int32.toUInt32 (1 : Int32) &&& Int32.toUInt32 31)).toInt32) &&& (1431655765 : Int32))) >>> (Int32.toUInt32 (2 : Int32) &&& Int32.toUInt32 31)).toInt32) &&& (858993459 : Int32))) >>> (Int32.toUInt32 (4 : Int32) &&& Int32.toUInt32 31)).toInt32))) C dJ6_bitCount_0f7a4_28 rfl ?_
  refine q_ldcw (v := 252645135) C dJ6_bitCount_0f7a4_29 w5_19 ?_
  refine q_iand (v := (((((x - (((Int32.toUInt32 x >>> (Int32.toUInt32 (1 : Int32) &&& Int32.toUInt32 31)).toInt32) &&& (1431655765 : Int32))) &&& (858993459 : Int32)) + (((Int32.toUInt32 (x - (((Int32.toUInt32 x >>> (Int32.toUInt32 (1 : Int32) &&& Int32.toUInt32 31)).toInt32) &&& (1431655765 : Int32))) >>> (Int32.toUInt32 (2 : Int32) &&& Int32.toUInt32 31)).toInt32) &&& (858993459 : Int32))) + ((Int32.toUInt32 (((x - (((Int32.toUInt32 x >>> (Int32.toUInt32 (1 : Int32) &&& Int32.toUInt32 31)).toInt32) &&& (1431655765 : Int32))) &&& (858993459 : Int32)) + (((Int32.toUInt32 (x - (((Int32.toUInt32 x >>> (Int32.toUInt32 (1 : Int32) &&& Int32.toUInt32 31)).toInt32) &&& (1431655765 : Int32))) >>> (Int32.toUInt32 (2 : Int32) &&& Int32.toUInt32 31)).toInt32) &&& (858993459 : Int32))) >>> (Int32.toUInt32 (4 : Int32) &&& Int32.toUInt32 31)).toInt32)) &&& (252645135 : Int32))) C dJ6_bitCount_0f7a4_32 rfl ?_
  refine q_istore_n (lv2 := [(0, .int (((((x - (((Int32.toUInt32 x >>> (Int32.toUInt32 (1 : Int32) &&& Int32.toUInt32 31)).toInt32) &&& (1431655765 : Int32))) &&& (858993459 : Int32)) + (((Int32.toUInt32 (x - (((Int32.toUInt32 x >>> (Int32.toUInt32 (1 : Int32) &&& Int32.toUInt32 31)).toInt32) &&& (1431655765 : Int32))) >>> (Int32.toUInt32 (2 : Int32) &&& Int32.toUInt32 31)).toInt32) &&& (858993459 : Int32))) + ((Int32.toUInt32 (((x - (((Int32.toUInt32 x >>> (Int32.toUInt32 (1 : Int32) &&& Int32.toUInt32 31)).toInt32) &&& (1431655765 : Int32))) &&& (858993459 : Int32)) + (((Int32.toUInt32 (x - (((Int32.toUInt32 x >>> (Int32.toUInt32 (1 : Int32) &&& Int32.toUInt32 31)).toInt32) &&& (1431655765 : Int32))) >>> (Int32.toUInt32 (2 : Int32) &&& Int32.toUInt32 31)).toInt32) &&& (858993459 : Int32))) >>> (Int32.toUInt32 (4 : Int32) &&& Int32.toUInt32 31)).toInt32)) &&& (252645135 : Int32)))]) C dJ6_bitCount_0f7a4_33 (by decide) rfl ?_
  refine q_iload_n (j := 0) C dJ6_bitCount_0f7a4_34 rfl ?_
  refine q_iload_n (j := 0) C dJ6_bitCount_0f7a4_35 rfl ?_
  refine q_bipush (v := 8) C dJ6_bitCount_0f7a4_36 (by decide) ?_
  refine q_iushr (v := ((Int32.toUInt32 (((((x - (((Int32.toUInt32 x >>> (Int32.toUInt32 (1 : Int32) &&& Int32.toUInt32 31)).toInt32) &&& (1431655765 : Int32))) &&& (858993459 : Int32)) + (((Int32.toUInt32 (x - (((Int32.toUInt32 x >>> (Int32.toUInt32 (1 : Int32) &&& Int32.toUInt32 31)).toInt32) &&& (1431655765 : Int32))) >>> (Int32.toUInt32 (2 : Int32) &&& Int32.toUInt32 31)).toInt32) &&& (858993459 : Int32))) + ((Int32.toUInt32 (((x - (((Int32.toUInt32 x >>> (Int32.toUInt32 (1 : Int32) &&& Int32.toUInt32 31)).toInt32) &&& (1431655765 : Int32))) &&& (858993459 : Int32)) + (((Int32.toUInt32 (x - (((Int32.toUInt32 x >>> (Int32.toUInt32 (1 : Int32) &&& Int32.toUInt32 31)).toInt32) &&& (1431655765 : Int32))) >>> (Int32.toUInt32 (2 : Int32) &&& Int32.toUInt32 31)).toInt32) &&& (858993459 : Int32))) >>> (Int32.toUInt32 (4 : Int32) &&& Int32.toUInt32 31)).toInt32)) &&& (252645135 : Int32)) >>> (Int32.toUInt32 (8 : Int32) &&& Int32.toUInt32 31)).toInt32)) C dJ6_bitCount_0f7a4_38 rfl ?_
  refine q_iadd (v := ((((((x - (((Int32.toUInt32 x >>> (Int32.toUInt32 (1 : Int32) &&& Int32.toUInt32 31)).toInt32) &&& (1431655765 : Int32))) &&& (858993459 : Int32)) + (((Int32.toUInt32 (x - (((Int32.toUInt32 x >>> (Int32.toUInt32 (1 : Int32) &&& Int32.toUInt32 31)).toInt32) &&& (1431655765 : Int32))) >>> (Int32.toUInt32 (2 : Int32) &&& Int32.toUInt32 31)).toInt32) &&& (858993459 : Int32))) + ((Int32.toUInt32 (((x - (((Int32.toUInt32 x >>> (Int32.toUInt32 (1 : Int32) &&& Int32.toUInt32 31)).toInt32) &&& (1431655765 : Int32))) &&& (858993459 : Int32)) + (((Int32.toUInt32 (x - (((Int32.toUInt32 x >>> (Int32.toUInt32 (1 : Int32) &&& Int32.toUInt32 31)).toInt32) &&& (1431655765 : Int32))) >>> (Int32.toUInt32 (2 : Int32) &&& Int32.toUInt32 31)).toInt32) &&& (858993459 : Int32))) >>> (Int32.toUInt32 (4 : Int32) &&& Int32.toUInt32 31)).toInt32)) &&& (252645135 : Int32)) + ((Int32.toUInt32 (((((x - (((Int32.toUInt32 x >>> (Int32.toUInt32 (1 : Int32) &&& Int32.toUInt32 31)).toInt32) &&& (1431655765 : Int32))) &&& (858993459 : Int32)) + (((Int32.toUInt32 (x - (((Int32.toUInt32 x >>> (Int32.toUInt32 (1 : Int32) &&& Int32.toUInt32 31)).toInt32) &&& (1431655765 : Int32))) >>> (Int32.toUInt32 (2 : Int32) &&& Int32.toUInt32 31)).toInt32) &&& (858993459 : Int32))) + ((Int32.toUInt32 (((x - (((Int32.toUInt32 x >>> (Int32.toUInt32 (1 : Int32) &&& Int32.toUInt32 31)).toInt32) &&& (1431655765 : Int32))) &&& (858993459 : Int32)) + (((Int32.toUInt32 (x - (((Int32.toUInt32 x >>> (Int32.toUInt32 (1 : Int32) &&& Int32.toUInt32 31)).toInt32) &&& (1431655765 : Int32))) >>> (Int32.toUInt32 (2 : Int32) &&& Int32.toUInt32 31)).toInt32) &&& (858993459 : Int32))) >>> (Int32.toUInt32 (4 : Int32) &&& Int32.toUInt32 31)).toInt32)) &&& (252645135 : Int32)) >>> (Int32.toUInt32 (8 : Int32) &&& Int32.toUInt32 31)).toInt32))) C dJ6_bitCount_0f7a4_39 rfl ?_
  refine q_istore_n (lv2 := [(0, .int ((((((x - (((Int32.toUInt32 x >>> (Int32.toUInt32 (1 : Int32) &&& Int32.toUInt32 31)).toInt32) &&& (1431655765 : Int32))) &&& (858993459 : Int32)) + (((Int32.toUInt32 (x - (((Int32.toUInt32 x >>> (Int32.toUInt32 (1 : Int32) &&& Int32.toUInt32 31)).toInt32) &&& (1431655765 : Int32))) >>> (Int32.toUInt32 (2 : Int32) &&& Int32.toUInt32 31)).toInt32) &&& (858993459 : Int32))) + ((Int32.toUInt32 (((x - (((Int32.toUInt32 x >>> (Int32.toUInt32 (1 : Int32) &&& Int32.toUInt32 31)).toInt32) &&& (1431655765 : Int32))) &&& (858993459 : Int32)) + (((Int32.toUInt32 (x - (((Int32.toUInt32 x >>> (Int32.toUInt32 (1 : Int32) &&& Int32.toUInt32 31)).toInt32) &&& (1431655765 : Int32))) >>> (Int32.toUInt32 (2 : Int32) &&& Int32.toUInt32 31)).toInt32) &&& (858993459 : Int32))) >>> (Int32.toUInt32 (4 : Int32) &&& Int32.toUInt32 31)).toInt32)) &&& (252645135 : Int32)) + ((Int32.toUInt32 (((((x - (((Int32.toUInt32 x >>> (Int32.toUInt32 (1 : Int32) &&& Int32.toUInt32 31)).toInt32) &&& (1431655765 : Int32))) &&& (858993459 : Int32)) + (((Int32.toUInt32 (x - (((Int32.toUInt32 x >>> (Int32.toUInt32 (1 : Int32) &&& Int32.toUInt32 31)).toInt32) &&& (1431655765 : Int32))) >>> (Int32.toUInt32 (2 : Int32) &&& Int32.toUInt32 31)).toInt32) &&& (858993459 : Int32))) + ((Int32.toUInt32 (((x - (((Int32.toUInt32 x >>> (Int32.toUInt32 (1 : Int32) &&& Int32.toUInt32 31)).toInt32) &&& (1431655765 : Int32))) &&& (858993459 : Int32)) + (((Int32.toUInt32 (x - (((Int32.toUInt32 x >>> (Int32.toUInt32 (1 : Int32) &&& Int32.toUInt32 31)).toInt32) &&& (1431655765 : Int32))) >>> (Int32.toUInt32 (2 : Int32) &&& Int32.toUInt32 31)).toInt32) &&& (858993459 : Int32))) >>> (Int32.toUInt32 (4 : Int32) &&& Int32.toUInt32 31)).toInt32)) &&& (252645135 : Int32)) >>> (Int32.toUInt32 (8 : Int32) &&& Int32.toUInt32 31)).toInt32)))]) C dJ6_bitCount_0f7a4_40 (by decide) rfl ?_
  refine q_iload_n (j := 0) C dJ6_bitCount_0f7a4_41 rfl ?_
  refine q_iload_n (j := 0) C dJ6_bitCount_0f7a4_42 rfl ?_
  refine q_bipush (v := 16) C dJ6_bitCount_0f7a4_43 (by decide) ?_
  refine q_iushr (v := ((Int32.toUInt32 ((((((x - (((Int32.toUInt32 x >>> (Int32.toUInt32 (1 : Int32) &&& Int32.toUInt32 31)).toInt32) &&& (1431655765 : Int32))) &&& (858993459 : Int32)) + (((Int32.toUInt32 (x - (((Int32.toUInt32 x >>> (Int32.toUInt32 (1 : Int32) &&& Int32.toUInt32 31)).toInt32) &&& (1431655765 : Int32))) >>> (Int32.toUInt32 (2 : Int32) &&& Int32.toUInt32 31)).toInt32) &&& (858993459 : Int32))) + ((Int32.toUInt32 (((x - (((Int32.toUInt32 x >>> (Int32.toUInt32 (1 : Int32) &&& Int32.toUInt32 31)).toInt32) &&& (1431655765 : Int32))) &&& (858993459 : Int32)) + (((Int32.toUInt32 (x - (((Int32.toUInt32 x >>> (Int32.toUInt32 (1 : Int32) &&& Int32.toUInt32 31)).toInt32) &&& (1431655765 : Int32))) >>> (Int32.toUInt32 (2 : Int32) &&& Int32.toUInt32 31)).toInt32) &&& (858993459 : Int32))) >>> (Int32.toUInt32 (4 : Int32) &&& Int32.toUInt32 31)).toInt32)) &&& (252645135 : Int32)) + ((Int32.toUInt32 (((((x - (((Int32.toUInt32 x >>> (Int32.toUInt32 (1 : Int32) &&& Int32.toUInt32 31)).toInt32) &&& (1431655765 : Int32))) &&& (858993459 : Int32)) + (((Int32.toUInt32 (x - (((Int32.toUInt32 x >>> (Int32.toUInt32 (1 : Int32) &&& Int32.toUInt32 31)).toInt32) &&& (1431655765 : Int32))) >>> (Int32.toUInt32 (2 : Int32) &&& Int32.toUInt32 31)).toInt32) &&& (858993459 : Int32))) + ((Int32.toUInt32 (((x - (((Int32.toUInt32 x >>> (Int32.toUInt32 (1 : Int32) &&& Int32.toUInt32 31)).toInt32) &&& (1431655765 : Int32))) &&& (858993459 : Int32)) + (((Int32.toUInt32 (x - (((Int32.toUInt32 x >>> (Int32.toUInt32 (1 : Int32) &&& Int32.toUInt32 31)).toInt32) &&& (1431655765 : Int32))) >>> (Int32.toUInt32 (2 : Int32) &&& Int32.toUInt32 31)).toInt32) &&& (858993459 : Int32))) >>> (Int32.toUInt32 (4 : Int32) &&& Int32.toUInt32 31)).toInt32)) &&& (252645135 : Int32)) >>> (Int32.toUInt32 (8 : Int32) &&& Int32.toUInt32 31)).toInt32)) >>> (Int32.toUInt32 (16 : Int32) &&& Int32.toUInt32 31)).toInt32)) C dJ6_bitCount_0f7a4_45 rfl ?_
  refine q_iadd (v := (((((((x - (((Int32.toUInt32 x >>> (Int32.toUInt32 (1 : Int32) &&& Int32.toUInt32 31)).toInt32) &&& (1431655765 : Int32))) &&& (858993459 : Int32)) + (((Int32.toUInt32 (x - (((Int32.toUInt32 x >>> (Int32.toUInt32 (1 : Int32) &&& Int32.toUInt32 31)).toInt32) &&& (1431655765 : Int32))) >>> (Int32.toUInt32 (2 : Int32) &&& Int32.toUInt32 31)).toInt32) &&& (858993459 : Int32))) + ((Int32.toUInt32 (((x - (((Int32.toUInt32 x >>> (Int32.toUInt32 (1 : Int32) &&& Int32.toUInt32 31)).toInt32) &&& (1431655765 : Int32))) &&& (858993459 : Int32)) + (((Int32.toUInt32 (x - (((Int32.toUInt32 x >>> (Int32.toUInt32 (1 : Int32) &&& Int32.toUInt32 31)).toInt32) &&& (1431655765 : Int32))) >>> (Int32.toUInt32 (2 : Int32) &&& Int32.toUInt32 31)).toInt32) &&& (858993459 : Int32))) >>> (Int32.toUInt32 (4 : Int32) &&& Int32.toUInt32 31)).toInt32)) &&& (252645135 : Int32)) + ((Int32.toUInt32 (((((x - (((Int32.toUInt32 x >>> (Int32.toUInt32 (1 : Int32) &&& Int32.toUInt32 31)).toInt32) &&& (1431655765 : Int32))) &&& (858993459 : Int32)) + (((Int32.toUInt32 (x - (((Int32.toUInt32 x >>> (Int32.toUInt32 (1 : Int32) &&& Int32.toUInt32 31)).toInt32) &&& (1431655765 : Int32))) >>> (Int32.toUInt32 (2 : Int32) &&& Int32.toUInt32 31)).toInt32) &&& (858993459 : Int32))) + ((Int32.toUInt32 (((x - (((Int32.toUInt32 x >>> (Int32.toUInt32 (1 : Int32) &&& Int32.toUInt32 31)).toInt32) &&& (1431655765 : Int32))) &&& (858993459 : Int32)) + (((Int32.toUInt32 (x - (((Int32.toUInt32 x >>> (Int32.toUInt32 (1 : Int32) &&& Int32.toUInt32 31)).toInt32) &&& (1431655765 : Int32))) >>> (Int32.toUInt32 (2 : Int32) &&& Int32.toUInt32 31)).toInt32) &&& (858993459 : Int32))) >>> (Int32.toUInt32 (4 : Int32) &&& Int32.toUInt32 31)).toInt32)) &&& (252645135 : Int32)) >>> (Int32.toUInt32 (8 : Int32) &&& Int32.toUInt32 31)).toInt32)) + ((Int32.toUInt32 ((((((x - (((Int32.toUInt32 x >>> (Int32.toUInt32 (1 : Int32) &&& Int32.toUInt32 31)).toInt32) &&& (1431655765 : Int32))) &&& (858993459 : Int32)) + (((Int32.toUInt32 (x - (((Int32.toUInt32 x >>> (Int32.toUInt32 (1 : Int32) &&& Int32.toUInt32 31)).toInt32) &&& (1431655765 : Int32))) >>> (Int32.toUInt32 (2 : Int32) &&& Int32.toUInt32 31)).toInt32) &&& (858993459 : Int32))) + ((Int32.toUInt32 (((x - (((Int32.toUInt32 x >>> (Int32.toUInt32 (1 : Int32) &&& Int32.toUInt32 31)).toInt32) &&& (1431655765 : Int32))) &&& (858993459 : Int32)) + (((Int32.toUInt32 (x - (((Int32.toUInt32 x >>> (Int32.toUInt32 (1 : Int32) &&& Int32.toUInt32 31)).toInt32) &&& (1431655765 : Int32))) >>> (Int32.toUInt32 (2 : Int32) &&& Int32.toUInt32 31)).toInt32) &&& (858993459 : Int32))) >>> (Int32.toUInt32 (4 : Int32) &&& Int32.toUInt32 31)).toInt32)) &&& (252645135 : Int32)) + ((Int32.toUInt32 (((((x - (((Int32.toUInt32 x >>> (Int32.toUInt32 (1 : Int32) &&& Int32.toUInt32 31)).toInt32) &&& (1431655765 : Int32))) &&& (858993459 : Int32)) + (((Int32.toUInt32 (x - (((Int32.toUInt32 x >>> (Int32.toUInt32 (1 : Int32) &&& Int32.toUInt32 31)).toInt32) &&& (1431655765 : Int32))) >>> (Int32.toUInt32 (2 : Int32) &&& Int32.toUInt32 31)).toInt32) &&& (858993459 : Int32))) + ((Int32.toUInt32 (((x - (((Int32.toUInt32 x >>> (Int32.toUInt32 (1 : Int32) &&& Int32.toUInt32 31)).toInt32) &&& (1431655765 : Int32))) &&& (858993459 : Int32)) + (((Int32.toUInt32 (x - (((Int32.toUInt32 x >>> (Int32.toUInt32 (1 : Int32) &&& Int32.toUInt32 31)).toInt32) &&& (1431655765 : Int32))) >>> (Int32.toUInt32 (2 : Int32) &&& Int32.toUInt32 31)).toInt32) &&& (858993459 : Int32))) >>> (Int32.toUInt32 (4 : Int32) &&& Int32.toUInt32 31)).toInt32)) &&& (252645135 : Int32)) >>> (Int32.toUInt32 (8 : Int32) &&& Int32.toUInt32 31)).toInt32)) >>> (Int32.toUInt32 (16 : Int32) &&& Int32.toUInt32 31)).toInt32))) C dJ6_bitCount_0f7a4_46 rfl ?_
  refine q_istore_n (lv2 := [(0, .int (((((((x - (((Int32.toUInt32 x >>> (Int32.toUInt32 (1 : Int32) &&& Int32.toUInt32 31)).toInt32) &&& (1431655765 : Int32))) &&& (858993459 : Int32)) + (((Int32.toUInt32 (x - (((Int32.toUInt32 x >>> (Int32.toUInt32 (1 : Int32) &&& Int32.toUInt32 31)).toInt32) &&& (1431655765 : Int32))) >>> (Int32.toUInt32 (2 : Int32) &&& Int32.toUInt32 31)).toInt32) &&& (858993459 : Int32))) + ((Int32.toUInt32 (((x - (((Int32.toUInt32 x >>> (Int32.toUInt32 (1 : Int32) &&& Int32.toUInt32 31)).toInt32) &&& (1431655765 : Int32))) &&& (858993459 : Int32)) + (((Int32.toUInt32 (x - (((Int32.toUInt32 x >>> (Int32.toUInt32 (1 : Int32) &&& Int32.toUInt32 31)).toInt32) &&& (1431655765 : Int32))) >>> (Int32.toUInt32 (2 : Int32) &&& Int32.toUInt32 31)).toInt32) &&& (858993459 : Int32))) >>> (Int32.toUInt32 (4 : Int32) &&& Int32.toUInt32 31)).toInt32)) &&& (252645135 : Int32)) + ((Int32.toUInt32 (((((x - (((Int32.toUInt32 x >>> (Int32.toUInt32 (1 : Int32) &&& Int32.toUInt32 31)).toInt32) &&& (1431655765 : Int32))) &&& (858993459 : Int32)) + (((Int32.toUInt32 (x - (((Int32.toUInt32 x >>> (Int32.toUInt32 (1 : Int32) &&& Int32.toUInt32 31)).toInt32) &&& (1431655765 : Int32))) >>> (Int32.toUInt32 (2 : Int32) &&& Int32.toUInt32 31)).toInt32) &&& (858993459 : Int32))) + ((Int32.toUInt32 (((x - (((Int32.toUInt32 x >>> (Int32.toUInt32 (1 : Int32) &&& Int32.toUInt32 31)).toInt32) &&& (1431655765 : Int32))) &&& (858993459 : Int32)) + (((Int32.toUInt32 (x - (((Int32.toUInt32 x >>> (Int32.toUInt32 (1 : Int32) &&& Int32.toUInt32 31)).toInt32) &&& (1431655765 : Int32))) >>> (Int32.toUInt32 (2 : Int32) &&& Int32.toUInt32 31)).toInt32) &&& (858993459 : Int32))) >>> (Int32.toUInt32 (4 : Int32) &&& Int32.toUInt32 31)).toInt32)) &&& (252645135 : Int32)) >>> (Int32.toUInt32 (8 : Int32) &&& Int32.toUInt32 31)).toInt32)) + ((Int32.toUInt32 ((((((x - (((Int32.toUInt32 x >>> (Int32.toUInt32 (1 : Int32) &&& Int32.toUInt32 31)).toInt32) &&& (1431655765 : Int32))) &&& (858993459 : Int32)) + (((Int32.toUInt32 (x - (((Int32.toUInt32 x >>> (Int32.toUInt32 (1 : Int32) &&& Int32.toUInt32 31)).toInt32) &&& (1431655765 : Int32))) >>> (Int32.toUInt32 (2 : Int32) &&& Int32.toUInt32 31)).toInt32) &&& (858993459 : Int32))) + ((Int32.toUInt32 (((x - (((Int32.toUInt32 x >>> (Int32.toUInt32 (1 : Int32) &&& Int32.toUInt32 31)).toInt32) &&& (1431655765 : Int32))) &&& (858993459 : Int32)) + (((Int32.toUInt32 (x - (((Int32.toUInt32 x >>> (Int32.toUInt32 (1 : Int32) &&& Int32.toUInt32 31)).toInt32) &&& (1431655765 : Int32))) >>> (Int32.toUInt32 (2 : Int32) &&& Int32.toUInt32 31)).toInt32) &&& (858993459 : Int32))) >>> (Int32.toUInt32 (4 : Int32) &&& Int32.toUInt32 31)).toInt32)) &&& (252645135 : Int32)) + ((Int32.toUInt32 (((((x - (((Int32.toUInt32 x >>> (Int32.toUInt32 (1 : Int32) &&& Int32.toUInt32 31)).toInt32) &&& (1431655765 : Int32))) &&& (858993459 : Int32)) + (((Int32.toUInt32 (x - (((Int32.toUInt32 x >>> (Int32.toUInt32 (1 : Int32) &&& Int32.toUInt32 31)).toInt32) &&& (1431655765 : Int32))) >>> (Int32.toUInt32 (2 : Int32) &&& Int32.toUInt32 31)).toInt32) &&& (858993459 : Int32))) + ((Int32.toUInt32 (((x - (((Int32.toUInt32 x >>> (Int32.toUInt32 (1 : Int32) &&& Int32.toUInt32 31)).toInt32) &&& (1431655765 : Int32))) &&& (858993459 : Int32)) + (((Int32.toUInt32 (x - (((Int32.toUInt32 x >>> (Int32.toUInt32 (1 : Int32) &&& Int32.toUInt32 31)).toInt32) &&& (1431655765 : Int32))) >>> (Int32.toUInt32 (2 : Int32) &&& Int32.toUInt32 31)).toInt32) &&& (858993459 : Int32))) >>> (Int32.toUInt32 (4 : Int32) &&& Int32.toUInt32 31)).toInt32)) &&& (252645135 : Int32)) >>> (Int32.toUInt32 (8 : Int32) &&& Int32.toUInt32 31)).toInt32)) >>> (Int32.toUInt32 (16 : Int32) &&& Int32.toUInt32 31)).toInt32)))]) C dJ6_bitCount_0f7a4_47 (by decide) rfl ?_
  refine q_iload_n (j := 0) C dJ6_bitCount_0f7a4_48 rfl ?_
  refine q_bipush (v := 63) C dJ6_bitCount_0f7a4_49 (by decide) ?_
  refine q_iand (v := ((((((((x - (((Int32.toUInt32 x >>> (Int32.toUInt32 (1 : Int32) &&& Int32.toUInt32 31)).toInt32) &&& (1431655765 : Int32))) &&& (858993459 : Int32)) + (((Int32.toUInt32 (x - (((Int32.toUInt32 x >>> (Int32.toUInt32 (1 : Int32) &&& Int32.toUInt32 31)).toInt32) &&& (1431655765 : Int32))) >>> (Int32.toUInt32 (2 : Int32) &&& Int32.toUInt32 31)).toInt32) &&& (858993459 : Int32))) + ((Int32.toUInt32 (((x - (((Int32.toUInt32 x >>> (Int32.toUInt32 (1 : Int32) &&& Int32.toUInt32 31)).toInt32) &&& (1431655765 : Int32))) &&& (858993459 : Int32)) + (((Int32.toUInt32 (x - (((Int32.toUInt32 x >>> (Int32.toUInt32 (1 : Int32) &&& Int32.toUInt32 31)).toInt32) &&& (1431655765 : Int32))) >>> (Int32.toUInt32 (2 : Int32) &&& Int32.toUInt32 31)).toInt32) &&& (858993459 : Int32))) >>> (Int32.toUInt32 (4 : Int32) &&& Int32.toUInt32 31)).toInt32)) &&& (252645135 : Int32)) + ((Int32.toUInt32 (((((x - (((Int32.toUInt32 x >>> (Int32.toUInt32 (1 : Int32) &&& Int32.toUInt32 31)).toInt32) &&& (1431655765 : Int32))) &&& (858993459 : Int32)) + (((Int32.toUInt32 (x - (((Int32.toUInt32 x >>> (Int32.toUInt32 (1 : Int32) &&& Int32.toUInt32 31)).toInt32) &&& (1431655765 : Int32))) >>> (Int32.toUInt32 (2 : Int32) &&& Int32.toUInt32 31)).toInt32) &&& (858993459 : Int32))) + ((Int32.toUInt32 (((x - (((Int32.toUInt32 x >>> (Int32.toUInt32 (1 : Int32) &&& Int32.toUInt32 31)).toInt32) &&& (1431655765 : Int32))) &&& (858993459 : Int32)) + (((Int32.toUInt32 (x - (((Int32.toUInt32 x >>> (Int32.toUInt32 (1 : Int32) &&& Int32.toUInt32 31)).toInt32) &&& (1431655765 : Int32))) >>> (Int32.toUInt32 (2 : Int32) &&& Int32.toUInt32 31)).toInt32) &&& (858993459 : Int32))) >>> (Int32.toUInt32 (4 : Int32) &&& Int32.toUInt32 31)).toInt32)) &&& (252645135 : Int32)) >>> (Int32.toUInt32 (8 : Int32) &&& Int32.toUInt32 31)).toInt32)) + ((Int32.toUInt32 ((((((x - (((Int32.toUInt32 x >>> (Int32.toUInt32 (1 : Int32) &&& Int32.toUInt32 31)).toInt32) &&& (1431655765 : Int32))) &&& (858993459 : Int32)) + (((Int32.toUInt32 (x - (((Int32.toUInt32 x >>> (Int32.toUInt32 (1 : Int32) &&& Int32.toUInt32 31)).toInt32) &&& (1431655765 : Int32))) >>> (Int32.toUInt32 (2 : Int32) &&& Int32.toUInt32 31)).toInt32) &&& (858993459 : Int32))) + ((Int32.toUInt32 (((x - (((Int32.toUInt32 x >>> (Int32.toUInt32 (1 : Int32) &&& Int32.toUInt32 31)).toInt32) &&& (1431655765 : Int32))) &&& (858993459 : Int32)) + (((Int32.toUInt32 (x - (((Int32.toUInt32 x >>> (Int32.toUInt32 (1 : Int32) &&& Int32.toUInt32 31)).toInt32) &&& (1431655765 : Int32))) >>> (Int32.toUInt32 (2 : Int32) &&& Int32.toUInt32 31)).toInt32) &&& (858993459 : Int32))) >>> (Int32.toUInt32 (4 : Int32) &&& Int32.toUInt32 31)).toInt32)) &&& (252645135 : Int32)) + ((Int32.toUInt32 (((((x - (((Int32.toUInt32 x >>> (Int32.toUInt32 (1 : Int32) &&& Int32.toUInt32 31)).toInt32) &&& (1431655765 : Int32))) &&& (858993459 : Int32)) + (((Int32.toUInt32 (x - (((Int32.toUInt32 x >>> (Int32.toUInt32 (1 : Int32) &&& Int32.toUInt32 31)).toInt32) &&& (1431655765 : Int32))) >>> (Int32.toUInt32 (2 : Int32) &&& Int32.toUInt32 31)).toInt32) &&& (858993459 : Int32))) + ((Int32.toUInt32 (((x - (((Int32.toUInt32 x >>> (Int32.toUInt32 (1 : Int32) &&& Int32.toUInt32 31)).toInt32) &&& (1431655765 : Int32))) &&& (858993459 : Int32)) + (((Int32.toUInt32 (x - (((Int32.toUInt32 x >>> (Int32.toUInt32 (1 : Int32) &&& Int32.toUInt32 31)).toInt32) &&& (1431655765 : Int32))) >>> (Int32.toUInt32 (2 : Int32) &&& Int32.toUInt32 31)).toInt32) &&& (858993459 : Int32))) >>> (Int32.toUInt32 (4 : Int32) &&& Int32.toUInt32 31)).toInt32)) &&& (252645135 : Int32)) >>> (Int32.toUInt32 (8 : Int32) &&& Int32.toUInt32 31)).toInt32)) >>> (Int32.toUInt32 (16 : Int32) &&& Int32.toUInt32 31)).toInt32)) &&& (63 : Int32))) C dJ6_bitCount_0f7a4_51 rfl ?_
  exact q_iret C dJ6_bitCount_0f7a4_52 rfl (Nat.le_of_ble_eq_true rfl) (Nat.le_of_ble_eq_true rfl) ⟨rfl, rfl, rfl⟩
set_option maxHeartbeats 4000000 in
set_option maxRecDepth 100000 in
theorem M_emboss {l : Launch} {G : GT} {h0 : Nat} {ad ln : Nat → Nat} {v : Nat → Int} {a : Nat → Nat → Int}  {q n1 : Int} (hB : BX v a) (hq : -2147483648 ≤ q ∧ q ≤ 2147483647) (hn1 : -2147483648 ≤ n1 ∧ n1 ≤ 2147483647) : Mm l G yX12_emboss cX12_emboss 9 (some .int) 1 [.int (iI q), .int (iI n1)] h0 ad ln v a 0 0 (fun r v2 a2 => ∃ f : Int, r = some (.int (iI f)) ∧ fr [0, 1, 43] [] v a v2 a2 ∧ BX v2 a2 ∧ (True)) := by
  refine Mm.mk (by decide) (Nat.le_of_ble_eq_true rfl) ?_
  intro p e s m args below meth c A C
  refine hv2 (show 0 ≤ v 36 ∧ v 36 ≤ 200 from hB.1 36) (show fr [0, 1, 43] [] v a v a from fr.refl) (fun r36 fp0 => ?_)
  refine m_iload_n (j := 2) C dX12_emboss_0 rfl ?_
  refine m_sipush (z := 200) C dX12_emboss_1 (by decide) ?_
  refine m_icmp_le (tgt := 14) C ⟨by omega, by omega⟩ ⟨by decide, by decide⟩ dX12_emboss_4 (by decide) (fun c1 => ?_) (fun c1 => ?_)
  · refine m_iload_n (j := 2) C dX12_emboss_14 rfl ?_
    refine m_if_ge (tgt := 24) C ⟨by omega, by omega⟩ dX12_emboss_15 (by decide) (fun c2 => ?_) (fun c2 => ?_)
    · refine m_iconst C dX12_emboss_24 ?_
      refine m_istore_n (lv2 := [(3, .int (iI 0)), (0, .ref h0), (1, .int (iI q)), (2, .int (iI n1))]) C dX12_emboss_25 (by decide) rfl ?_
      refine m_iconst C dX12_emboss_26 ?_
      refine m_istore (lv2 := [(4, .int (iI 0)), (3, .int (iI 0)), (0, .ref h0), (1, .int (iI q)), (2, .int (iI n1))]) C dX12_emboss_27 (by decide) rfl ?_
      have Lp1 : ∀ (nn : Nat) (s1 k : Int) (vb1 : Nat → Int) (ab1 : Nat → Nat → Int), 201 - k < (nn : Int) → BX vb1 ab1 → fr [0, 1, 43] [] v a vb1 ab1 → (-2147483648 ≤ s1 ∧ s1 ≤ 2147483647) → (0 ≤ k ∧ k ≤ n1) → mw p l e (rmq 1 0 0) s m args below meth c G A 9 (MQ below (Qm G A (fun rq Lq Eq => ∃ (vq : Nat → Int) (aq : Nat → Nat → Int), mI G h0 ad ln vq aq Lq Eq ∧ (fun r v2 a2 => ∃ f : Int, r = some (.int (iI f)) ∧ fr [0, 1, 43] [] v a v2 a2 ∧ BX v2 a2 ∧ (True)) rq vq aq)) args s 0 0 A) h0 ad ln vb1 ab1 0 0 29 [(4, .int (iI k)), (3, .int (iI s1)), (0, .ref h0), (1, .int (iI q)), (2, .int (iI n1))] [] := by
        intro nn
        induction nn with
        | zero =>
          intro s1 k vb1 ab1 hm bxb1 fpb1 hs hk
          exact absurd hm (by omega)
        | succ nn ih1 =>
          intro s1 k vb1 ab1 hm bxb1 fpb1 hs hk
          refine m_iload (j := 0) C dX12_emboss_29 rfl ?_
          refine m_iload_n (j := 4) C dX12_emboss_31 rfl ?_
          refine m_icmp_ge (tgt := 142) C ⟨by omega, by omega⟩ ⟨by omega, by omega⟩ dX12_emboss_32 (by decide) (fun c3 => ?_) (fun c3 => ?_)
          · refine m_aload_n (j := 2) C dX12_emboss_142 rfl ?_
            refine m_iload_n (j := 1) C dX12_emboss_143 rfl ?_
            refine m_call (mc2 := 0) (ms2 := 0) (As := [.int (iI s1)]) (rest := []) C (B_fine (x := s1) bxb1 (by show -2147483648 ≤ s1 ∧ s1 ≤ 2147483647; omega)) dX12_emboss_144 kV_X12_158 rfl ck_13 rfl (Nat.le_of_ble_eq_true rfl) ⟨Nat.le_of_ble_eq_true rfl, Nat.le_of_ble_eq_true rfl⟩ ⟨Nat.le_of_ble_eq_true rfl, Nat.le_of_ble_eq_true rfl⟩ (fun rh1 vh1 ah1 h1 => ?_)
            obtain ⟨f1, rfl, fn1, bn1, ex1⟩ := h1
            refine hv2 (fpb1.call fn1 rfl rfl) (show f1 = s1 from ex1) (fun fq1 gf1 => ?_)
            refine m_st (st2 := [.int (iI f1)]) rfl ?_
            exact m_iret C dX12_emboss_147 rfl (Nat.le_of_ble_eq_true rfl) (Nat.le_of_ble_eq_true rfl) ⟨f1, rfl, fq1, bn1, trivial⟩
          · refine m_iload_n (j := 3) C dX12_emboss_35 rfl ?_
            refine m_i2l (w := lI q) C dX12_emboss_36 (lI_of ⟨by omega, by omega⟩) ?_
            refine m_iload (j := 0) C dX12_emboss_37 rfl ?_
            refine m_i2l (w := lI k) C dX12_emboss_39 (lI_of ⟨by omega, by omega⟩) ?_
            refine m_ladd (w := lI (q + k)) C dX12_emboss_40 (lI_add _ _) ?_
            refine m_lstore (lv2 := [(5, .long (lI (q + k))), (4, .int (iI k)), (3, .int (iI s1)), (0, .ref h0), (1, .int (iI q)), (2, .int (iI n1))]) C dX12_emboss_41 (by decide) rfl ?_
            refine m_aload_n (j := 3) C dX12_emboss_43 rfl ?_
            refine m_dup C dX12_emboss_44 rfl ?_
            have rv1 : (-2147483648) ≤ vb1 43 ∧ vb1 43 ≤ 2147483647 := bxb1.1 43
            refine m_get (k := 43) C dX12_emboss_45 w6_102 (by decide) rfl ?_
            refine m_iconst C dX12_emboss_48 ?_
            refine m_iadd C dX12_emboss_49 ?_
            obtain ⟨zz1, hzz1, ezz1⟩ := iI_of (iI ((vb1 43) + 1))
            refine m_st (st2 := [.int (iI zz1), .ref h0]) (by rw [ezz1]) ?_
            refine m_put (k := 43) (z := zz1) C dX12_emboss_50 w6_102 (by decide) rfl rfl rfl ?_
            refine hv2 (show BX (va_up vb1 43 zz1) ab1 from bxb1.put (k := 43) (z := zz1) (show (-2147483648) ≤ zz1 ∧ zz1 ≤ 2147483647 by omega)) (fpb1.put (k := 43) (z := zz1) rfl) (fun bq1 fq2 => ?_)
            refine m_lload (j := 0) C dX12_emboss_53 rfl ?_
            refine m_lconst (w := lI 0) C dX12_emboss_55 rfl ?_
            obtain ⟨lc1, hlc1, elc1⟩ := lcmp_c (x := (q + k)) (y := 0) ⟨by omega, by omega⟩ ⟨by omega, by omega⟩
            refine m_lcmp (w := iI lc1) C dX12_emboss_56 elc1 ?_
            refine m_if_lt (tgt := 71) C ⟨by omega, by omega⟩ dX12_emboss_57 (by decide) (fun c4 => ?_) (fun c4 => ?_)
            · refine m_aload_n (j := 3) C dX12_emboss_71 rfl ?_
              refine m_iconst C dX12_emboss_72 ?_
              refine m_call (mc2 := 0) (ms2 := 0) (As := [.int (iI 2)]) (rest := []) C (B_bad (x := 2) bq1 (by show -2147483648 ≤ (2 : Int) ∧ (2 : Int) ≤ 2147483647; omega)) dX12_emboss_73 kV_X12_154 rfl ck_13 rfl (Nat.le_of_ble_eq_true rfl) ⟨Nat.le_of_ble_eq_true rfl, Nat.le_of_ble_eq_true rfl⟩ ⟨Nat.le_of_ble_eq_true rfl, Nat.le_of_ble_eq_true rfl⟩ (fun rh2 vh2 ah2 h2 => ?_)
              obtain ⟨f2, rfl, fn2, bn2, ex2⟩ := h2
              refine hv2 (fq2.call fn2 rfl rfl) (show f2 = -1 from ex2) (fun fq3 gf2 => ?_)
              refine m_st (st2 := [.int (iI f2)]) rfl ?_
              exact m_iret C dX12_emboss_76 rfl (Nat.le_of_ble_eq_true rfl) (Nat.le_of_ble_eq_true rfl) ⟨f2, rfl, fq3, bn2, trivial⟩
            · refine m_lload (j := 0) C dX12_emboss_60 rfl ?_
              refine m_aload_n (j := 3) C dX12_emboss_62 rfl ?_
              refine hv2 (show 0 ≤ vb1 36 ∧ vb1 36 ≤ 200 from bq1.1 36) (show vb1 36 = v 36 from fpb1.1 36 rfl) (fun rv2 ve1 => ?_)
              refine m_get (k := 36) C dX12_emboss_63 w6_95 (by decide) rfl ?_
              refine m_st (st2 := [.int (iI (v 36)), .long (lI (q + k))]) (congrArg (fun z => Value.int (iI z) :: [.long (lI (q + k))]) (fq2.1 36 rfl)) ?_
              refine m_i2l (w := lI (v 36)) C dX12_emboss_66 (lI_of ⟨by omega, by omega⟩) ?_
              obtain ⟨lc2, hlc2, elc2⟩ := lcmp_c (x := (q + k)) (y := (v 36)) ⟨by omega, by omega⟩ ⟨by omega, by omega⟩
              refine m_lcmp (w := iI lc2) C dX12_emboss_67 elc2 ?_
              refine m_if_lt (tgt := 77) C ⟨by omega, by omega⟩ dX12_emboss_68 (by decide) (fun c5 => ?_) (fun c5 => ?_)
              · refine m_aload_n (j := 3) C dX12_emboss_77 rfl ?_
                refine m_geta (k := 34) C dX12_emboss_78 w6_93 (by decide) rfl ?_
                refine m_lload (j := 0) C dX12_emboss_81 rfl ?_
                refine m_l2i (w := iI (q + k)) C dX12_emboss_83 (lI_i _) ?_
                refine m_ald (k := 34) C dX12_emboss_84 rfl rfl (by decide) (by omega) (by show _ < ((_ : Nat) : Int); simp only [mlen]; omega) (by decide) ?_
                refine hv2 (show (-1) ≤ ab1 34 (q + k).toNat ∧ ab1 34 (q + k).toNat ≤ 200 from bq1.2 34 ((q + k).toNat)) (show ab1 34 ((q + k).toNat) = a 34 ((q + k).toNat) from congrFun (fpb1.2 34 rfl) ((q + k).toNat)) (fun ra1 ae1 => ?_)
                refine m_st (st2 := [.int (iI (a 34 (q + k).toNat))]) (congrArg (fun z => Value.int (iI z) :: []) (congrFun (fq2.2 34 rfl) ((q + k).toNat))) ?_
                refine m_istore (lv2 := [(7, .int (iI (a 34 (q + k).toNat))), (5, .long (lI (q + k))), (4, .int (iI k)), (3, .int (iI s1)), (0, .ref h0), (1, .int (iI q)), (2, .int (iI n1))]) C dX12_emboss_85 (by decide) rfl ?_
                refine m_iload (j := 0) C dX12_emboss_87 rfl ?_
                refine m_aload_n (j := 4) C dX12_emboss_89 rfl ?_
                refine hv2 (show 1 ≤ vb1 31 ∧ vb1 31 ≤ 100 from bq1.1 31) (show vb1 31 = v 31 from fpb1.1 31 rfl) (fun rv3 ve2 => ?_)
                refine m_get (k := 31) C dX12_emboss_90 w6_90 (by decide) rfl ?_
                refine m_st (st2 := [.int (iI (v 31)), .int (iI (a 34 (q + k).toNat))]) (congrArg (fun z => Value.int (iI z) :: [.int (iI (a 34 (q + k).toNat))]) (fq2.1 31 rfl)) ?_
                refine m_icmp_le (tgt := 99) C ⟨by omega, by omega⟩ ⟨by omega, by omega⟩ dX12_emboss_93 (by decide) (fun c6 => ?_) (fun c6 => ?_)
                · refine m_iconst C dX12_emboss_99 ?_
                  refine m_istore (lv2 := [(8, .int (iI 0)), (7, .int (iI (a 34 (q + k).toNat))), (5, .long (lI (q + k))), (4, .int (iI k)), (3, .int (iI s1)), (0, .ref h0), (1, .int (iI q)), (2, .int (iI n1))]) C dX12_emboss_100 (by decide) rfl ?_
                  have Lp2 : ∀ (nn : Nat) (s2 i1 : Int) (vb2 : Nat → Int) (ab2 : Nat → Nat → Int), 201 - i1 < (nn : Int) → BX vb2 ab2 → fr [0, 1, 43] [] v a vb2 ab2 → (-2147483648 ≤ s2 ∧ s2 ≤ 2147483647) → (0 ≤ i1 ∧ i1 ≤ 200) → mw p l e (rmq 1 0 0) s m args below meth c G A 9 (MQ below (Qm G A (fun rq Lq Eq => ∃ (vq : Nat → Int) (aq : Nat → Nat → Int), mI G h0 ad ln vq aq Lq Eq ∧ (fun r v2 a2 => ∃ f : Int, r = some (.int (iI f)) ∧ fr [0, 1, 43] [] v a v2 a2 ∧ BX v2 a2 ∧ (True)) rq vq aq)) args s 0 0 A) h0 ad ln vb2 ab2 0 0 102 [(8, .int (iI i1)), (3, .int (iI s2)), (7, .int (iI (a 34 (q + k).toNat))), (5, .long (lI (q + k))), (4, .int (iI k)), (0, .ref h0), (1, .int (iI q)), (2, .int (iI n1))] [] := by
                    intro nn
                    induction nn with
                    | zero =>
                      intro s2 i1 vb2 ab2 hm bxb2 fpb2 hs2 hi
                      exact absurd hm (by omega)
                    | succ nn ih2 =>
                      intro s2 i1 vb2 ab2 hm bxb2 fpb2 hs2 hi
                      refine m_iload (j := 0) C dX12_emboss_102 rfl ?_
                      refine m_iload (j := 2) C dX12_emboss_104 rfl ?_
                      refine m_icmp_ge (tgt := 136) C ⟨by omega, by omega⟩ ⟨by omega, by omega⟩ dX12_emboss_106 (by decide) (fun c7 => ?_) (fun c7 => ?_)
                      · refine m_iinc (z := k) (j := 4) (lv2 := [(4, .int (iI (k + 1))), (8, .int (iI i1)), (3, .int (iI s2)), (7, .int (iI (a 34 (q + k).toNat))), (5, .long (lI (q + k))), (0, .ref h0), (1, .int (iI q)), (2, .int (iI n1))]) C dX12_emboss_136 rfl (by decide) rfl ?_
                        refine m_goto (tgt := 29) C dX12_emboss_139 (by decide) ?_
                        refine m_lv (lv2 := [(4, .int (iI (k + 1))), (3, .int (iI s2)), (0, .ref h0), (1, .int (iI q)), (2, .int (iI n1))]) [0, 2, 5, 6, 7] rfl ?_
                        exact ih1  s2 (k + 1) _ _ (by omega) bxb2 fpb2 (by omega) (by omega)
                      · refine m_iload_n (j := 1) C dX12_emboss_109 rfl ?_
                        refine m_aload_n (j := 5) C dX12_emboss_110 rfl ?_
                        refine m_geta (k := 35) C dX12_emboss_111 w6_94 (by decide) rfl ?_
                        refine m_sipush (z := 200) C dX12_emboss_114 (by decide) ?_
                        refine m_lload (j := 3) C dX12_emboss_117 rfl ?_
                        refine m_l2i (w := iI (q + k)) C dX12_emboss_119 (lI_i _) ?_
                        refine m_imul C dX12_emboss_120 ?_
                        refine m_iload (j := 0) C dX12_emboss_121 rfl ?_
                        refine m_iadd C dX12_emboss_123 ?_
                        refine m_ald (k := 35) C dX12_emboss_124 rfl rfl (by decide) (by omega) (by show _ < ((_ : Nat) : Int); simp only [mlen]; omega) (by decide) ?_
                        refine hv2 (show (-2147483648) ≤ ab2 35 ((200 * (q + k)) + i1).toNat ∧ ab2 35 ((200 * (q + k)) + i1).toNat ≤ 2147483647 from bxb2.2 35 (((200 * (q + k)) + i1).toNat)) (show ab2 35 (((200 * (q + k)) + i1).toNat) = a 35 (((200 * (q + k)) + i1).toNat) from congrFun (fpb2.2 35 rfl) (((200 * (q + k)) + i1).toNat)) (fun ra2 ae2 => ?_)
                        refine m_st (st2 := [.int (iI (a 35 ((200 * (q + k)) + i1).toNat)), .int (iI s2)]) (congrArg (fun z => Value.int (iI z) :: [.int (iI s2)]) (congrFun (fpb2.2 35 rfl) (((200 * (q + k)) + i1).toNat))) ?_
                        refine m_callS (As := [.int (iI (a 35 ((200 * (q + k)) + i1).toNat))]) (rest := [.int (iI s2)]) C (fun L E => s_bitCount (iI (a 35 ((200 * (q + k)) + i1).toNat))) dX12_emboss_125 kS_X12_309 rfl rfl (Nat.le_of_ble_eq_true rfl) ⟨Nat.le_of_ble_eq_true rfl, Nat.le_of_ble_eq_true rfl⟩ ⟨Nat.le_of_ble_eq_true rfl, Nat.le_of_ble_eq_true rfl⟩ ?_
                        obtain ⟨zz2, hzz2, ezz2⟩ := iI_of (bcn (iI (a 35 ((200 * (q + k)) + i1).toNat)))
                        · refine m_st (st2 := [.int (iI zz2), .int (iI s2)]) (by rw [ezz2]) ?_
                          refine m_iadd C dX12_emboss_128 ?_
                          obtain ⟨zz3, hzz3, ezz3⟩ := iI_of (iI (s2 + zz2))
                          refine m_st (st2 := [.int (iI zz3)]) (by rw [ezz3]) ?_
                          refine m_istore_n (lv2 := [(3, .int (iI zz3)), (8, .int (iI i1)), (7, .int (iI (a 34 (q + k).toNat))), (5, .long (lI (q + k))), (4, .int (iI k)), (0, .ref h0), (1, .int (iI q)), (2, .int (iI n1))]) C dX12_emboss_129 (by decide) rfl ?_
                          refine m_iinc (z := i1) (j := 1) (lv2 := [(8, .int (iI (i1 + 1))), (3, .int (iI zz3)), (7, .int (iI (a 34 (q + k).toNat))), (5, .long (lI (q + k))), (4, .int (iI k)), (0, .ref h0), (1, .int (iI q)), (2, .int (iI n1))]) C dX12_emboss_130 rfl (by decide) rfl ?_
                          refine m_goto (tgt := 102) C dX12_emboss_133 (by decide) ?_
                          refine m_lv (lv2 := [(8, .int (iI (i1 + 1))), (3, .int (iI zz3)), (7, .int (iI (a 34 (q + k).toNat))), (5, .long (lI (q + k))), (4, .int (iI k)), (0, .ref h0), (1, .int (iI q)), (2, .int (iI n1))]) [0, 1, 2, 3, 4, 5, 6, 7] rfl ?_
                          exact ih2  zz3 (i1 + 1) _ _ (by omega) bxb2 fpb2 (by omega) (by omega)
                  refine m_lv (lv2 := [(8, .int (iI 0)), (3, .int (iI s1)), (7, .int (iI (a 34 (q + k).toNat))), (5, .long (lI (q + k))), (4, .int (iI k)), (0, .ref h0), (1, .int (iI q)), (2, .int (iI n1))]) [0, 4, 1, 2, 3, 5, 6, 7] rfl ?_
                  exact Lp2 202 s1 0 _ _ (by omega) bq1 fq2 (by omega) (by omega)
                · refine m_goto (tgt := 142) C dX12_emboss_96 (by decide) ?_
                  refine m_aload_n (j := 4) C dX12_emboss_142 rfl ?_
                  refine m_iload_n (j := 3) C dX12_emboss_143 rfl ?_
                  refine m_call (mc2 := 0) (ms2 := 0) (As := [.int (iI s1)]) (rest := []) C (B_fine (x := s1) bq1 (by show -2147483648 ≤ s1 ∧ s1 ≤ 2147483647; omega)) dX12_emboss_144 kV_X12_158 rfl ck_13 rfl (Nat.le_of_ble_eq_true rfl) ⟨Nat.le_of_ble_eq_true rfl, Nat.le_of_ble_eq_true rfl⟩ ⟨Nat.le_of_ble_eq_true rfl, Nat.le_of_ble_eq_true rfl⟩ (fun rh4 vh4 ah4 h4 => ?_)
                  obtain ⟨f3, rfl, fn3, bn3, ex3⟩ := h4
                  refine hv2 (fq2.call fn3 rfl rfl) (show f3 = s1 from ex3) (fun fq4 gf3 => ?_)
                  refine m_st (st2 := [.int (iI f3)]) rfl ?_
                  exact m_iret C dX12_emboss_147 rfl (Nat.le_of_ble_eq_true rfl) (Nat.le_of_ble_eq_true rfl) ⟨f3, rfl, fq4, bn3, trivial⟩
              · refine m_aload_n (j := 3) C dX12_emboss_71 rfl ?_
                refine m_iconst C dX12_emboss_72 ?_
                refine m_call (mc2 := 0) (ms2 := 0) (As := [.int (iI 2)]) (rest := []) C (B_bad (x := 2) bq1 (by show -2147483648 ≤ (2 : Int) ∧ (2 : Int) ≤ 2147483647; omega)) dX12_emboss_73 kV_X12_154 rfl ck_13 rfl (Nat.le_of_ble_eq_true rfl) ⟨Nat.le_of_ble_eq_true rfl, Nat.le_of_ble_eq_true rfl⟩ ⟨Nat.le_of_ble_eq_true rfl, Nat.le_of_ble_eq_true rfl⟩ (fun rh5 vh5 ah5 h5 => ?_)
                obtain ⟨f4, rfl, fn4, bn4, ex4⟩ := h5
                refine hv2 (fq2.call fn4 rfl rfl) (show f4 = -1 from ex4) (fun fq5 gf4 => ?_)
                refine m_st (st2 := [.int (iI f4)]) rfl ?_
                exact m_iret C dX12_emboss_76 rfl (Nat.le_of_ble_eq_true rfl) (Nat.le_of_ble_eq_true rfl) ⟨f4, rfl, fq5, bn4, trivial⟩
      refine m_lv (lv2 := [(4, .int (iI 0)), (3, .int (iI 0)), (0, .ref h0), (1, .int (iI q)), (2, .int (iI n1))]) [0, 1, 2, 3, 4] rfl ?_
      exact Lp1 202 0 0 _ _ (by omega) hB fp0 (by omega) (by omega)
    · refine m_aload_n (j := 0) C dX12_emboss_18 rfl ?_
      refine m_iconst C dX12_emboss_19 ?_
      refine m_call (mc2 := 0) (ms2 := 0) (As := [.int (iI 5)]) (rest := []) C (B_bad (x := 5) hB (by show -2147483648 ≤ (5 : Int) ∧ (5 : Int) ≤ 2147483647; omega)) dX12_emboss_20 kV_X12_154 rfl ck_13 rfl (Nat.le_of_ble_eq_true rfl) ⟨Nat.le_of_ble_eq_true rfl, Nat.le_of_ble_eq_true rfl⟩ ⟨Nat.le_of_ble_eq_true rfl, Nat.le_of_ble_eq_true rfl⟩ (fun rh6 vh6 ah6 h6 => ?_)
      obtain ⟨f5, rfl, fn5, bn5, ex5⟩ := h6
      refine hv2 (fp0.call fn5 rfl rfl) (show f5 = -1 from ex5) (fun fq6 gf5 => ?_)
      refine m_st (st2 := [.int (iI f5)]) rfl ?_
      exact m_iret C dX12_emboss_23 rfl (Nat.le_of_ble_eq_true rfl) (Nat.le_of_ble_eq_true rfl) ⟨f5, rfl, fq6, bn5, trivial⟩
  · refine m_aload_n (j := 0) C dX12_emboss_7 rfl ?_
    refine m_bipush (z := 6) C dX12_emboss_8 (by decide) ?_
    refine m_call (mc2 := 0) (ms2 := 0) (As := [.int (iI 6)]) (rest := []) C (B_bad (x := 6) hB (by show -2147483648 ≤ (6 : Int) ∧ (6 : Int) ≤ 2147483647; omega)) dX12_emboss_10 kV_X12_154 rfl ck_13 rfl (Nat.le_of_ble_eq_true rfl) ⟨Nat.le_of_ble_eq_true rfl, Nat.le_of_ble_eq_true rfl⟩ ⟨Nat.le_of_ble_eq_true rfl, Nat.le_of_ble_eq_true rfl⟩ (fun rh7 vh7 ah7 h7 => ?_)
    obtain ⟨f6, rfl, fn6, bn6, ex6⟩ := h7
    refine hv2 (fp0.call fn6 rfl rfl) (show f6 = -1 from ex6) (fun fq7 gf6 => ?_)
    refine m_st (st2 := [.int (iI f6)]) rfl ?_
    exact m_iret C dX12_emboss_13 rfl (Nat.le_of_ble_eq_true rfl) (Nat.le_of_ble_eq_true rfl) ⟨f6, rfl, fq7, bn6, trivial⟩
set_option maxHeartbeats 4000000 in
set_option maxRecDepth 100000 in
theorem B_tell {l : Launch} {G : GT} {h0 : Nat} {ad ln : Nat → Nat} {v : Nat → Int} {a : Nat → Nat → Int}  {x : Int} (hB : BX v a) (hx : -2147483648 ≤ x ∧ x ≤ 2147483647) : Mm l G yX12_tell cX12_tell 2 (some .boolean) 0 [.int (iI x)] h0 ad ln v a 0 0 (fun r v2 a2 => ∃ f : Int, r = some (.int (iI f)) ∧ fr [52] [51] v a v2 a2 ∧ BX v2 a2 ∧ (f = 0 ∨ f = 1)) := by
  refine Mm.mk (by decide) (Nat.le_of_ble_eq_true rfl) ?_
  intro p e s m args below meth c A C
  have fp0 : fr [52] [51] v a v a := fr.refl
  refine m_aload_n (j := 0) C dX12_tell_0 rfl ?_
  have rv1 : 0 ≤ v 52 ∧ v 52 ≤ 4000 := hB.1 52
  refine m_get (k := 52) C dX12_tell_1 w6_111 (by decide) rfl ?_
  refine m_sipush (z := 4000) C dX12_tell_4 (by decide) ?_
  refine m_icmp_ne (tgt := 12) C ⟨by omega, by omega⟩ ⟨by decide, by decide⟩ dX12_tell_7 (by decide) (fun c1 => ?_) (fun c1 => ?_)
  · refine m_aload_n (j := 0) C dX12_tell_12 rfl ?_
    refine m_geta (k := 51) C dX12_tell_13 w6_110 (by decide) rfl ?_
    refine m_aload_n (j := 0) C dX12_tell_16 rfl ?_
    refine m_get (k := 52) C dX12_tell_17 w6_111 (by decide) rfl ?_
    refine m_iload_n (j := 1) C dX12_tell_20 rfl ?_
    refine m_ast (k := 51) C dX12_tell_21 rfl rfl (by decide) (by omega) (by show _ < ((_ : Nat) : Int); simp only [mlen]; omega) (by decide) ?_
    refine hv2 (show BX v (up2 a 51 (v 52).toNat x) from hB.set (k := 51) (i := (v 52).toNat) (z := x) (show (-2147483648) ≤ x ∧ x ≤ 2147483647 by omega)) (fp0.set (k := 51) (i := (v 52).toNat) (z := x) rfl) (fun bq1 fq1 => ?_)
    refine m_aload_n (j := 0) C dX12_tell_22 rfl ?_
    refine m_dup C dX12_tell_23 rfl ?_
    refine m_get (k := 52) C dX12_tell_24 w6_111 (by decide) rfl ?_
    refine m_iconst C dX12_tell_27 ?_
    refine m_iadd C dX12_tell_28 ?_
    refine m_put (k := 52) (z := (v 52) + 1) C dX12_tell_29 w6_111 (by decide) rfl rfl rfl ?_
    refine hv2 (show BX (va_up v 52 ((v 52) + 1)) (up2 a 51 (v 52).toNat x) from bq1.put (k := 52) (z := (v 52) + 1) (show 0 ≤ ((v 52) + 1) ∧ ((v 52) + 1) ≤ 4000 by omega)) (fq1.put (k := 52) (z := (v 52) + 1) rfl) (fun bq2 fq2 => ?_)
    refine m_iconst C dX12_tell_32 ?_
    exact m_zret C dX12_tell_33 rfl (Or.inr rfl) (Nat.le_of_ble_eq_true rfl) (Nat.le_of_ble_eq_true rfl) ⟨1, rfl, fq2, bq2, (by omega)⟩
  · refine m_iconst C dX12_tell_10 ?_
    exact m_zret C dX12_tell_11 rfl (Or.inl rfl) (Nat.le_of_ble_eq_true rfl) (Nat.le_of_ble_eq_true rfl) ⟨0, rfl, fp0, hB, (by omega)⟩
set_option maxHeartbeats 4000000 in
set_option maxRecDepth 100000 in
theorem B_putRow {l : Launch} {G : GT} {h0 : Nat} {ad ln : Nat → Nat} {v : Nat → Int} {a : Nat → Nat → Int}  {x y : Int} (hB : BX v a) (hx : -2147483648 ≤ x ∧ x ≤ 2147483647) (hy : -2147483648 ≤ y ∧ y ≤ 2147483647) (h50 : v 50 < 40200) : Mm l G yX12_putRow cX12_putRow 3 none 0 [.int (iI x), .int (iI y)] h0 ad ln v a 0 0 (fun r v2 a2 => r = none ∧ fr [50] [48, 49] v a v2 a2 ∧ BX v2 a2 ∧ (v2 50 = v 50 + 1)) := by
  refine Mm.mk (by decide) (Nat.le_of_ble_eq_true rfl) ?_
  intro p e s m args below meth c A C
  have fp0 : fr [50] [48, 49] v a v a := fr.refl
  refine m_aload_n (j := 0) C dX12_putRow_0 rfl ?_
  refine m_geta (k := 48) C dX12_putRow_1 w6_107 (by decide) rfl ?_
  refine m_aload_n (j := 0) C dX12_putRow_4 rfl ?_
  have rv1 : 0 ≤ v 50 ∧ v 50 ≤ 40200 := hB.1 50
  refine m_get (k := 50) C dX12_putRow_5 w6_109 (by decide) rfl ?_
  refine m_iload_n (j := 1) C dX12_putRow_8 rfl ?_
  refine m_ast (k := 48) C dX12_putRow_9 rfl rfl (by decide) (by omega) (by show _ < ((_ : Nat) : Int); simp only [mlen]; omega) (by decide) ?_
  refine hv2 (show BX v (up2 a 48 (v 50).toNat x) from hB.set (k := 48) (i := (v 50).toNat) (z := x) (show (-2147483648) ≤ x ∧ x ≤ 2147483647 by omega)) (fp0.set (k := 48) (i := (v 50).toNat) (z := x) rfl) (fun bq1 fq1 => ?_)
  refine m_aload_n (j := 0) C dX12_putRow_10 rfl ?_
  refine m_geta (k := 49) C dX12_putRow_11 w6_108 (by decide) rfl ?_
  refine m_aload_n (j := 0) C dX12_putRow_14 rfl ?_
  refine m_get (k := 50) C dX12_putRow_15 w6_109 (by decide) rfl ?_
  refine m_iload_n (j := 2) C dX12_putRow_18 rfl ?_
  refine m_ast (k := 49) C dX12_putRow_19 rfl rfl (by decide) (by omega) (by show _ < ((_ : Nat) : Int); simp only [mlen]; omega) (by decide) ?_
  refine hv2 (show BX v (up2 (up2 a 48 (v 50).toNat x) 49 (v 50).toNat y) from bq1.set (k := 49) (i := (v 50).toNat) (z := y) (show (-2147483648) ≤ y ∧ y ≤ 2147483647 by omega)) (fq1.set (k := 49) (i := (v 50).toNat) (z := y) rfl) (fun bq2 fq2 => ?_)
  refine m_aload_n (j := 0) C dX12_putRow_20 rfl ?_
  refine m_dup C dX12_putRow_21 rfl ?_
  refine m_get (k := 50) C dX12_putRow_22 w6_109 (by decide) rfl ?_
  refine m_iconst C dX12_putRow_25 ?_
  refine m_iadd C dX12_putRow_26 ?_
  refine m_put (k := 50) (z := (v 50) + 1) C dX12_putRow_27 w6_109 (by decide) rfl rfl rfl ?_
  refine hv2 (show BX (va_up v 50 ((v 50) + 1)) (up2 (up2 a 48 (v 50).toNat x) 49 (v 50).toNat y) from bq2.put (k := 50) (z := (v 50) + 1) (show 0 ≤ ((v 50) + 1) ∧ ((v 50) + 1) ≤ 40200 by omega)) (fq2.put (k := 50) (z := (v 50) + 1) rfl) (fun bq3 fq3 => ?_)
  exact m_vret C dX12_putRow_30 rfl (Nat.le_of_ble_eq_true rfl) (Nat.le_of_ble_eq_true rfl) ⟨rfl, fq3, bq3, rfl⟩
set_option maxHeartbeats 4000000 in
set_option maxRecDepth 100000 in
theorem B_hasHead {l : Launch} {G : GT} {h0 : Nat} {ad ln : Nat → Nat} {v : Nat → Int} {a : Nat → Nat → Int}  (hB : BX v a)  : Mm l G yX12_hasHead cX12_hasHead 1 (some .boolean) 0 [] h0 ad ln v a 0 0 (fun r v2 a2 => ∃ f : Int, r = some (.int (iI f)) ∧ fr [] [] v a v2 a2 ∧ BX v2 a2 ∧ (f = 0 ∨ (f = 1 ∧ 0 < v 41 ∧ 2 ≤ v 32))) := by
  refine Mm.mk (by decide) (Nat.le_of_ble_eq_true rfl) ?_
  intro p e s m args below meth c A C
  have fp0 : fr [] [] v a v a := fr.refl
  refine m_aload_n (j := 0) C dX12_hasHead_0 rfl ?_
  have rv1 : 0 ≤ v 41 ∧ v 41 ≤ 200 := hB.1 41
  refine m_get (k := 41) C dX12_hasHead_1 w6_100 (by decide) rfl ?_
  refine m_if_le (tgt := 19) C ⟨by omega, by omega⟩ dX12_hasHead_4 (by decide) (fun c1 => ?_) (fun c1 => ?_)
  · refine m_iconst C dX12_hasHead_19 ?_
    exact m_zret C dX12_hasHead_20 rfl (Or.inl rfl) (Nat.le_of_ble_eq_true rfl) (Nat.le_of_ble_eq_true rfl) ⟨0, rfl, fp0, hB, (by omega)⟩
  · refine m_aload_n (j := 0) C dX12_hasHead_7 rfl ?_
    have rv2 : 1 ≤ v 32 ∧ v 32 ≤ 50 := hB.1 32
    refine m_get (k := 32) C dX12_hasHead_8 w6_91 (by decide) rfl ?_
    refine m_iconst C dX12_hasHead_11 ?_
    refine m_icmp_lt (tgt := 19) C ⟨by omega, by omega⟩ ⟨by decide, by decide⟩ dX12_hasHead_12 (by decide) (fun c2 => ?_) (fun c2 => ?_)
    · refine m_iconst C dX12_hasHead_19 ?_
      exact m_zret C dX12_hasHead_20 rfl (Or.inl rfl) (Nat.le_of_ble_eq_true rfl) (Nat.le_of_ble_eq_true rfl) ⟨0, rfl, fp0, hB, (by omega)⟩
    · refine m_iconst C dX12_hasHead_15 ?_
      refine m_goto (tgt := 20) C dX12_hasHead_16 (by decide) ?_
      exact m_zret C dX12_hasHead_20 rfl (Or.inr rfl) (Nat.le_of_ble_eq_true rfl) (Nat.le_of_ble_eq_true rfl) ⟨1, rfl, fp0, hB, (by omega)⟩
set_option maxHeartbeats 4000000 in
set_option maxRecDepth 100000 in
theorem B_onPage {l : Launch} {G : GT} {h0 : Nat} {ad ln : Nat → Nat} {v : Nat → Int} {a : Nat → Nat → Int}  (hB : BX v a)  : Mm l G yX12_onPage cX12_onPage 1 (some .int) 1 [] h0 ad ln v a 0 0 (fun r v2 a2 => ∃ f : Int, r = some (.int (iI f)) ∧ fr [] [] v a v2 a2 ∧ BX v2 a2 ∧ (1 ≤ f ∧ f ≤ 50)) := by
  refine Mm.mk (by decide) (Nat.le_of_ble_eq_true rfl) ?_
  intro p e s m args below meth c A C
  have fp0 : fr [] [] v a v a := fr.refl
  refine m_aload_n (j := 0) C dX12_onPage_0 rfl ?_
  refine hv2 (show 0 ≤ v 41 ∧ v 41 ≤ 200 from hB.1 41) (show 1 ≤ v 32 ∧ v 32 ≤ 50 from hB.1 32) (fun rv1 rv2 => ?_)
  refine m_call (mc2 := 0) (ms2 := 0) (As := []) (rest := []) C (B_hasHead  hB ) dX12_onPage_1 kV_X12_288 rfl ck_13 rfl (Nat.le_of_ble_eq_true rfl) ⟨Nat.le_of_ble_eq_true rfl, Nat.le_of_ble_eq_true rfl⟩ ⟨Nat.le_of_ble_eq_true rfl, Nat.le_of_ble_eq_true rfl⟩ (fun rh1 vh1 ah1 h1 => ?_)
  obtain ⟨f1, rfl, fn1, bn1, ex1⟩ := h1
  obtain ⟨rfl, rfl⟩ := fn1.eq
  have gf1 : f1 = 0 ∨ (f1 = 1 ∧ 0 < (v 41) ∧ 2 ≤ (v 32)) := ex1
  refine m_st (st2 := [.int (iI f1)]) rfl ?_
  refine m_if_eq (tgt := 16) C ⟨by omega, by omega⟩ dX12_onPage_4 (by decide) (fun c1 => ?_) (fun c1 => ?_)
  · refine m_aload_n (j := 0) C dX12_onPage_16 rfl ?_
    refine m_get (k := 32) C dX12_onPage_17 w6_91 (by decide) rfl ?_
    exact m_iret C dX12_onPage_20 rfl (Nat.le_of_ble_eq_true rfl) (Nat.le_of_ble_eq_true rfl) ⟨(v 32), rfl, fp0, hB, (by omega)⟩
  · refine m_aload_n (j := 0) C dX12_onPage_7 rfl ?_
    refine m_get (k := 32) C dX12_onPage_8 w6_91 (by decide) rfl ?_
    refine m_iconst C dX12_onPage_11 ?_
    refine m_isub C dX12_onPage_12 ?_
    refine m_goto (tgt := 20) C dX12_onPage_13 (by decide) ?_
    exact m_iret C dX12_onPage_20 rfl (Nat.le_of_ble_eq_true rfl) (Nat.le_of_ble_eq_true rfl) ⟨((v 32) - 1), rfl, fp0, hB, (by omega)⟩
set_option maxHeartbeats 4000000 in
set_option maxRecDepth 100000 in
theorem M_pages {l : Launch} {G : GT} {h0 : Nat} {ad ln : Nat → Nat} {v : Nat → Int} {a : Nat → Nat → Int}  (hB : BX v a)  : Mm l G yX12_pages cX12_pages 1 (some .int) 2 [] h0 ad ln v a 0 0 (fun r v2 a2 => ∃ f : Int, r = some (.int (iI f)) ∧ fr [] [] v a v2 a2 ∧ BX v2 a2 ∧ (0 ≤ f ∧ f ≤ 249)) := by
  refine Mm.mk (by decide) (Nat.le_of_ble_eq_true rfl) ?_
  intro p e s m args below meth c A C
  have fp0 : fr [] [] v a v a := fr.refl
  refine m_aload_n (j := 0) C dX12_pages_0 rfl ?_
  have rv1 : 0 ≤ v 36 ∧ v 36 ≤ 200 := hB.1 36
  refine m_get (k := 36) C dX12_pages_1 w6_95 (by decide) rfl ?_
  refine m_aload_n (j := 0) C dX12_pages_4 rfl ?_
  refine m_call (mc2 := 0) (ms2 := 0) (As := []) (rest := [.int (iI (v 36))]) C (B_onPage  hB ) dX12_pages_5 kV_X12_291 rfl ck_13 rfl (Nat.le_of_ble_eq_true rfl) ⟨Nat.le_of_ble_eq_true rfl, Nat.le_of_ble_eq_true rfl⟩ ⟨Nat.le_of_ble_eq_true rfl, Nat.le_of_ble_eq_true rfl⟩ (fun rh1 vh1 ah1 h1 => ?_)
  obtain ⟨f1, rfl, fn1, bn1, ex1⟩ := h1
  obtain ⟨rfl, rfl⟩ := fn1.eq
  have gf1 : 1 ≤ f1 ∧ f1 ≤ 50 := ex1
  refine m_st (st2 := [.int (iI f1), .int (iI (v 36))]) rfl ?_
  refine m_iadd C dX12_pages_8 ?_
  refine m_iconst C dX12_pages_9 ?_
  refine m_isub C dX12_pages_10 ?_
  refine m_aload_n (j := 0) C dX12_pages_11 rfl ?_
  refine m_call (mc2 := 0) (ms2 := 0) (As := []) (rest := [.int (iI (((v 36) + f1) - 1))]) C (B_onPage  hB ) dX12_pages_12 kV_X12_291 rfl ck_13 rfl (Nat.le_of_ble_eq_true rfl) ⟨Nat.le_of_ble_eq_true rfl, Nat.le_of_ble_eq_true rfl⟩ ⟨Nat.le_of_ble_eq_true rfl, Nat.le_of_ble_eq_true rfl⟩ (fun rh2 vh2 ah2 h2 => ?_)
  obtain ⟨f2, rfl, fn2, bn2, ex2⟩ := h2
  obtain ⟨rfl, rfl⟩ := fn2.eq
  have gf2 : 1 ≤ f2 ∧ f2 ≤ 50 := ex2
  refine m_st (st2 := [.int (iI f2), .int (iI (((v 36) + f1) - 1))]) rfl ?_
  obtain ⟨dq1, hdq1⟩ : ∃ q : Int, q = (((v 36) + f1) - 1) / f2 := ⟨_, rfl⟩
  have rdq1 := ediv_r (x := ((v 36) + f1) - 1) (y := f2) (by omega) (by omega)
  rw [← hdq1] at rdq1
  refine m_idiv (w := iI dq1) C dX12_pages_15 (iI_ne0 ⟨by omega, by omega⟩) (by rw [hdq1]; exact iI_div ⟨by omega, by omega⟩ ⟨by omega, by omega⟩) ?_
  exact m_iret C dX12_pages_16 rfl (Nat.le_of_ble_eq_true rfl) (Nat.le_of_ble_eq_true rfl) ⟨dq1, rfl, fp0, hB, (by omega)⟩
set_option maxHeartbeats 4000000 in
set_option maxRecDepth 100000 in
theorem B_cell {l : Launch} {G : GT} {h0 : Nat} {ad ln : Nat → Nat} {v : Nat → Int} {a : Nat → Nat → Int}  {l0 i : Int} (hB : BX v a) (hl0 : -2147483648 ≤ l0 ∧ l0 ≤ 2147483647) (hi : -2147483648 ≤ i ∧ i ≤ 2147483647) : Mm l G yX12_cell cX12_cell 3 (some .int) 2 [.int (iI l0), .int (iI i)] h0 ad ln v a 0 0 (fun r v2 a2 => ∃ f : Int, r = some (.int (iI f)) ∧ fr [0, 1] [] v a v2 a2 ∧ BX v2 a2 ∧ (True)) := by
  refine Mm.mk (by decide) (Nat.le_of_ble_eq_true rfl) ?_
  intro p e s m args below meth c A C
  have fp0 : fr [0, 1] [] v a v a := fr.refl
  refine m_aload_n (j := 0) C dX12_cell_0 rfl ?_
  refine m_iload_n (j := 1) C dX12_cell_1 rfl ?_
  have rv1 : 0 ≤ v 36 ∧ v 36 ≤ 200 := hB.1 36
  refine m_call (mc2 := 0) (ms2 := 0) (As := [.int (iI l0)]) (rest := []) C (M_lineFault (l0 := l0) hB.rg ⟨by omega, by omega⟩ ⟨hB.1 36, hB.2 34⟩) dX12_cell_2 kV_X12_294 rfl ck_13 rfl (Nat.le_of_ble_eq_true rfl) ⟨Nat.le_of_ble_eq_true rfl, Nat.le_of_ble_eq_true rfl⟩ ⟨Nat.le_of_ble_eq_true rfl, Nat.le_of_ble_eq_true rfl⟩ (fun rh1 vh1 ah1 h1 => ?_)
  obtain ⟨f1, rfl, hf1, rfl, rfl⟩ := h1
  refine hv2 (show (f1 = 2 ∧ ¬ (0 ≤ l0 ∧ l0 < (v 36))) ∨ (f1 = 1 ∧ 0 ≤ l0 ∧ l0 < (v 36) ∧ a 34 l0.toNat < 0) ∨ (f1 = 0 ∧ 0 ≤ l0 ∧ l0 < (v 36) ∧ 0 ≤ a 34 l0.toNat) from hf1) (show (-1) ≤ a 34 l0.toNat ∧ a 34 l0.toNat ≤ 200 from hB.2 34 (l0.toNat)) (fun gf1 ra1 => ?_)
  refine m_st (st2 := [.int (iI f1)]) rfl ?_
  refine m_if_le (tgt := 18) C ⟨by omega, by omega⟩ dX12_cell_5 (by decide) (fun c1 => ?_) (fun c1 => ?_)
  · refine m_iload_n (j := 2) C dX12_cell_18 rfl ?_
    refine m_iconst C dX12_cell_19 ?_
    refine m_aload_n (j := 0) C dX12_cell_20 rfl ?_
    refine m_geta (k := 34) C dX12_cell_21 w6_93 (by decide) rfl ?_
    refine m_iload_n (j := 1) C dX12_cell_24 rfl ?_
    refine m_ald (k := 34) C dX12_cell_25 rfl rfl (by decide) (by omega) (by show _ < ((_ : Nat) : Int); simp only [mlen]; omega) (by decide) ?_
    refine m_iconst C dX12_cell_26 ?_
    refine m_isub C dX12_cell_27 ?_
    refine m_callS (As := [.int (iI i), .int (iI 0), .int (iI ((a 34 l0.toNat) - 1))]) (rest := []) C (fun L E => s_isIn (iI i) (iI 0) (iI ((a 34 l0.toNat) - 1))) dX12_cell_28 kS_X12_174 rfl rfl (Nat.le_of_ble_eq_true rfl) ⟨Nat.le_of_ble_eq_true rfl, Nat.le_of_ble_eq_true rfl⟩ ⟨Nat.le_of_ble_eq_true rfl, Nat.le_of_ble_eq_true rfl⟩ ?_
    rcases inn_c (x := i) (lo := 0) (hi := (a 34 l0.toNat) - 1) ⟨by omega, by omega⟩ ⟨by decide, by decide⟩ ⟨by omega, by omega⟩ with ⟨h2a, h2b, h2e⟩ | ⟨h2a, h2e⟩
    · refine m_st (st2 := [.int (iI 1)]) (by rw [h2e]) ?_
      refine m_if_eq (tgt := 53) C ⟨by decide, by decide⟩ dX12_cell_31 (by decide) (fun z => absurd z (by omega)) (fun _ => ?_)
      refine m_aload_n (j := 0) C dX12_cell_34 rfl ?_
      refine m_aload_n (j := 0) C dX12_cell_35 rfl ?_
      refine m_geta (k := 35) C dX12_cell_36 w6_94 (by decide) rfl ?_
      refine m_sipush (z := 200) C dX12_cell_39 (by decide) ?_
      refine m_iload_n (j := 1) C dX12_cell_42 rfl ?_
      refine m_imul C dX12_cell_43 ?_
      refine m_iload_n (j := 2) C dX12_cell_44 rfl ?_
      refine m_iadd C dX12_cell_45 ?_
      refine m_ald (k := 35) C dX12_cell_46 rfl rfl (by decide) (by omega) (by show _ < ((_ : Nat) : Int); simp only [mlen]; omega) (by decide) ?_
      have ra2 : (-2147483648) ≤ a 35 ((200 * l0) + i).toNat ∧ a 35 ((200 * l0) + i).toNat ≤ 2147483647 := hB.2 35 (((200 * l0) + i).toNat)
      refine m_call (mc2 := 0) (ms2 := 0) (As := [.int (iI (a 35 ((200 * l0) + i).toNat))]) (rest := []) C (B_fine (x := a 35 ((200 * l0) + i).toNat) hB (by show -2147483648 ≤ (a 35 ((200 * l0) + i).toNat) ∧ (a 35 ((200 * l0) + i).toNat) ≤ 2147483647; omega)) dX12_cell_47 kV_X12_158 rfl ck_13 rfl (Nat.le_of_ble_eq_true rfl) ⟨Nat.le_of_ble_eq_true rfl, Nat.le_of_ble_eq_true rfl⟩ ⟨Nat.le_of_ble_eq_true rfl, Nat.le_of_ble_eq_true rfl⟩ (fun rh3 vh3 ah3 h3 => ?_)
      obtain ⟨f2, rfl, fn1, bn1, ex1⟩ := h3
      refine hv2 (fp0.call fn1 rfl rfl) (show f2 = (a 35 ((200 * l0) + i).toNat) from ex1) (fun fq1 gf2 => ?_)
      refine m_st (st2 := [.int (iI f2)]) rfl ?_
      refine m_goto (tgt := 58) C dX12_cell_50 (by decide) ?_
      exact m_iret C dX12_cell_58 rfl (Nat.le_of_ble_eq_true rfl) (Nat.le_of_ble_eq_true rfl) ⟨f2, rfl, fq1, bn1, trivial⟩
    · refine m_st (st2 := [.int (iI 0)]) (by rw [h2e]) ?_
      refine m_if_eq (tgt := 53) C ⟨by decide, by decide⟩ dX12_cell_31 (by decide) (fun _ => ?_) (fun z => absurd z (by omega))
      refine m_aload_n (j := 0) C dX12_cell_53 rfl ?_
      refine m_iconst C dX12_cell_54 ?_
      refine m_call (mc2 := 0) (ms2 := 0) (As := [.int (iI 2)]) (rest := []) C (B_bad (x := 2) hB (by show -2147483648 ≤ (2 : Int) ∧ (2 : Int) ≤ 2147483647; omega)) dX12_cell_55 kV_X12_154 rfl ck_13 rfl (Nat.le_of_ble_eq_true rfl) ⟨Nat.le_of_ble_eq_true rfl, Nat.le_of_ble_eq_true rfl⟩ ⟨Nat.le_of_ble_eq_true rfl, Nat.le_of_ble_eq_true rfl⟩ (fun rh4 vh4 ah4 h4 => ?_)
      obtain ⟨f3, rfl, fn2, bn2, ex2⟩ := h4
      refine hv2 (fp0.call fn2 rfl rfl) (show f3 = -1 from ex2) (fun fq2 gf3 => ?_)
      refine m_st (st2 := [.int (iI f3)]) rfl ?_
      exact m_iret C dX12_cell_58 rfl (Nat.le_of_ble_eq_true rfl) (Nat.le_of_ble_eq_true rfl) ⟨f3, rfl, fq2, bn2, trivial⟩
  · refine m_aload_n (j := 0) C dX12_cell_8 rfl ?_
    refine m_aload_n (j := 0) C dX12_cell_9 rfl ?_
    refine m_iload_n (j := 1) C dX12_cell_10 rfl ?_
    refine m_call (mc2 := 0) (ms2 := 0) (As := [.int (iI l0)]) (rest := [.ref h0]) C (M_lineFault (l0 := l0) hB.rg ⟨by omega, by omega⟩ ⟨hB.1 36, hB.2 34⟩) dX12_cell_11 kV_X12_294 rfl ck_13 rfl (Nat.le_of_ble_eq_true rfl) ⟨Nat.le_of_ble_eq_true rfl, Nat.le_of_ble_eq_true rfl⟩ ⟨Nat.le_of_ble_eq_true rfl, Nat.le_of_ble_eq_true rfl⟩ (fun rh5 vh5 ah5 h5 => ?_)
    obtain ⟨f4, rfl, hf4, rfl, rfl⟩ := h5
    have gf4 : (f4 = 2 ∧ ¬ (0 ≤ l0 ∧ l0 < (v 36))) ∨ (f4 = 1 ∧ 0 ≤ l0 ∧ l0 < (v 36) ∧ a 34 l0.toNat < 0) ∨ (f4 = 0 ∧ 0 ≤ l0 ∧ l0 < (v 36) ∧ 0 ≤ a 34 l0.toNat) := hf4
    refine m_st (st2 := [.int (iI f4), .ref h0]) rfl ?_
    refine m_call (mc2 := 0) (ms2 := 0) (As := [.int (iI f4)]) (rest := []) C (B_bad (x := f4) hB (by show -2147483648 ≤ f4 ∧ f4 ≤ 2147483647; omega)) dX12_cell_14 kV_X12_154 rfl ck_13 rfl (Nat.le_of_ble_eq_true rfl) ⟨Nat.le_of_ble_eq_true rfl, Nat.le_of_ble_eq_true rfl⟩ ⟨Nat.le_of_ble_eq_true rfl, Nat.le_of_ble_eq_true rfl⟩ (fun rh6 vh6 ah6 h6 => ?_)
    obtain ⟨f5, rfl, fn3, bn3, ex3⟩ := h6
    refine hv2 (fp0.call fn3 rfl rfl) (show f5 = -1 from ex3) (fun fq3 gf5 => ?_)
    refine m_st (st2 := [.int (iI f5)]) rfl ?_
    exact m_iret C dX12_cell_17 rfl (Nat.le_of_ble_eq_true rfl) (Nat.le_of_ble_eq_true rfl) ⟨f5, rfl, fq3, bn3, trivial⟩
set_option maxHeartbeats 4000000 in
set_option maxRecDepth 100000 in
theorem M_page {l : Launch} {G : GT} {h0 : Nat} {ad ln : Nat → Nat} {v : Nat → Int} {a : Nat → Nat → Int}  {q w1 i : Int} (hB : BX v a) (hq : -2147483648 ≤ q ∧ q ≤ 2147483647) (hw1 : -2147483648 ≤ w1 ∧ w1 ≤ 2147483647) (hi : -2147483648 ≤ i ∧ i ≤ 2147483647) : Mm l G yX12_page cX12_page 5 (some .int) 3 [.int (iI q), .int (iI w1), .int (iI i)] h0 ad ln v a 0 0 (fun r v2 a2 => ∃ f : Int, r = some (.int (iI f)) ∧ fr [0, 1] [] v a v2 a2 ∧ BX v2 a2 ∧ (True)) := by
  refine Mm.mk (by decide) (Nat.le_of_ble_eq_true rfl) ?_
  intro p e s m args below meth c A C
  have fp0 : fr [0, 1] [] v a v a := fr.refl
  refine m_iload_n (j := 1) C dX12_page_0 rfl ?_
  refine m_iconst C dX12_page_1 ?_
  refine m_aload_n (j := 0) C dX12_page_2 rfl ?_
  refine m_call (mc2 := 0) (ms2 := 0) (As := []) (rest := [.int (iI 0), .int (iI q)]) C (M_pages  hB ) dX12_page_3 kV_X12_297 rfl ck_13 rfl (Nat.le_of_ble_eq_true rfl) ⟨Nat.le_of_ble_eq_true rfl, Nat.le_of_ble_eq_true rfl⟩ ⟨Nat.le_of_ble_eq_true rfl, Nat.le_of_ble_eq_true rfl⟩ (fun rh1 vh1 ah1 h1 => ?_)
  obtain ⟨f1, rfl, fn1, bn1, ex1⟩ := h1
  obtain ⟨rfl, rfl⟩ := fn1.eq
  have gf1 : 0 ≤ f1 ∧ f1 ≤ 249 := ex1
  refine m_st (st2 := [.int (iI f1), .int (iI 0), .int (iI q)]) rfl ?_
  refine m_iconst C dX12_page_6 ?_
  refine m_isub C dX12_page_7 ?_
  refine m_callS (As := [.int (iI q), .int (iI 0), .int (iI (f1 - 1))]) (rest := []) C (fun L E => s_isIn (iI q) (iI 0) (iI (f1 - 1))) dX12_page_8 kS_X12_174 rfl rfl (Nat.le_of_ble_eq_true rfl) ⟨Nat.le_of_ble_eq_true rfl, Nat.le_of_ble_eq_true rfl⟩ ⟨Nat.le_of_ble_eq_true rfl, Nat.le_of_ble_eq_true rfl⟩ ?_
  rcases inn_c (x := q) (lo := 0) (hi := f1 - 1) ⟨by omega, by omega⟩ ⟨by decide, by decide⟩ ⟨by omega, by omega⟩ with ⟨h2a, h2b, h2e⟩ | ⟨h2a, h2e⟩
  · refine m_st (st2 := [.int (iI 1)]) (by rw [h2e]) ?_
    refine m_if_ne (tgt := 20) C ⟨by decide, by decide⟩ dX12_page_11 (by decide) (fun _ => ?_) (fun z => absurd z (by omega))
    refine m_aload_n (j := 0) C dX12_page_20 rfl ?_
    refine hv2 (show 0 ≤ v 41 ∧ v 41 ≤ 200 from hB.1 41) (show 1 ≤ v 32 ∧ v 32 ≤ 50 from hB.1 32) (fun rv1 rv2 => ?_)
    refine m_call (mc2 := 0) (ms2 := 0) (As := []) (rest := []) C (B_hasHead  hB ) dX12_page_21 kV_X12_288 rfl ck_13 rfl (Nat.le_of_ble_eq_true rfl) ⟨Nat.le_of_ble_eq_true rfl, Nat.le_of_ble_eq_true rfl⟩ ⟨Nat.le_of_ble_eq_true rfl, Nat.le_of_ble_eq_true rfl⟩ (fun rh3 vh3 ah3 h3 => ?_)
    obtain ⟨f2, rfl, fn2, bn2, ex2⟩ := h3
    obtain ⟨rfl, rfl⟩ := fn2.eq
    have gf2 : f2 = 0 ∨ (f2 = 1 ∧ 0 < (v 41) ∧ 2 ≤ (v 32)) := ex2
    refine m_st (st2 := [.int (iI f2)]) rfl ?_
    refine m_if_eq (tgt := 64) C ⟨by omega, by omega⟩ dX12_page_24 (by decide) (fun c1 => ?_) (fun c1 => ?_)
    · refine m_aload_n (j := 0) C dX12_page_64 rfl ?_
      refine m_call (mc2 := 0) (ms2 := 0) (As := []) (rest := []) C (B_hasHead  hB ) dX12_page_65 kV_X12_288 rfl ck_13 rfl (Nat.le_of_ble_eq_true rfl) ⟨Nat.le_of_ble_eq_true rfl, Nat.le_of_ble_eq_true rfl⟩ ⟨Nat.le_of_ble_eq_true rfl, Nat.le_of_ble_eq_true rfl⟩ (fun rh4 vh4 ah4 h4 => ?_)
      obtain ⟨f3, rfl, fn3, bn3, ex3⟩ := h4
      obtain ⟨rfl, rfl⟩ := fn3.eq
      have gf3 : f3 = 0 ∨ (f3 = 1 ∧ 0 < (v 41) ∧ 2 ≤ (v 32)) := ex3
      refine m_st (st2 := [.int (iI f3)]) rfl ?_
      refine m_if_eq (tgt := 77) C ⟨by omega, by omega⟩ dX12_page_68 (by decide) (fun c2 => ?_) (fun c2 => ?_)
      · refine m_iload_n (j := 2) C dX12_page_77 rfl ?_
        obtain ⟨zz1, hzz1, ezz1⟩ := iI_of (iI w1)
        refine m_st (st2 := [.int (iI zz1)]) (by rw [ezz1]) ?_
        refine m_istore (lv2 := [(4, .int (iI zz1)), (0, .ref h0), (1, .int (iI q)), (2, .int (iI w1)), (3, .int (iI i))]) C dX12_page_78 (by decide) rfl ?_
        refine m_iload (j := 0) C dX12_page_80 rfl ?_
        refine m_iconst C dX12_page_82 ?_
        refine m_aload_n (j := 1) C dX12_page_83 rfl ?_
        refine m_call (mc2 := 0) (ms2 := 0) (As := []) (rest := [.int (iI 0), .int (iI zz1)]) C (B_onPage  hB ) dX12_page_84 kV_X12_291 rfl ck_13 rfl (Nat.le_of_ble_eq_true rfl) ⟨Nat.le_of_ble_eq_true rfl, Nat.le_of_ble_eq_true rfl⟩ ⟨Nat.le_of_ble_eq_true rfl, Nat.le_of_ble_eq_true rfl⟩ (fun rh5 vh5 ah5 h5 => ?_)
        obtain ⟨f4, rfl, fn4, bn4, ex4⟩ := h5
        obtain ⟨rfl, rfl⟩ := fn4.eq
        have gf4 : 1 ≤ f4 ∧ f4 ≤ 50 := ex4
        refine m_st (st2 := [.int (iI f4), .int (iI 0), .int (iI zz1)]) rfl ?_
        refine m_iconst C dX12_page_87 ?_
        refine m_isub C dX12_page_88 ?_
        refine m_callS (As := [.int (iI zz1), .int (iI 0), .int (iI (f4 - 1))]) (rest := []) C (fun L E => s_isIn (iI zz1) (iI 0) (iI (f4 - 1))) dX12_page_89 kS_X12_174 rfl rfl (Nat.le_of_ble_eq_true rfl) ⟨Nat.le_of_ble_eq_true rfl, Nat.le_of_ble_eq_true rfl⟩ ⟨Nat.le_of_ble_eq_true rfl, Nat.le_of_ble_eq_true rfl⟩ ?_
        rcases inn_c (x := zz1) (lo := 0) (hi := f4 - 1) ⟨by omega, by omega⟩ ⟨by decide, by decide⟩ ⟨by omega, by omega⟩ with ⟨h6a, h6b, h6e⟩ | ⟨h6a, h6e⟩
        · refine m_st (st2 := [.int (iI 1)]) (by rw [h6e]) ?_
          refine m_if_ne (tgt := 101) C ⟨by decide, by decide⟩ dX12_page_92 (by decide) (fun _ => ?_) (fun z => absurd z (by omega))
          refine m_aload_n (j := 1) C dX12_page_101 rfl ?_
          refine m_iload_n (j := 2) C dX12_page_102 rfl ?_
          refine m_aload_n (j := 1) C dX12_page_103 rfl ?_
          refine m_call (mc2 := 0) (ms2 := 0) (As := []) (rest := [.int (iI q), .ref h0]) C (B_onPage  hB ) dX12_page_104 kV_X12_291 rfl ck_13 rfl (Nat.le_of_ble_eq_true rfl) ⟨Nat.le_of_ble_eq_true rfl, Nat.le_of_ble_eq_true rfl⟩ ⟨Nat.le_of_ble_eq_true rfl, Nat.le_of_ble_eq_true rfl⟩ (fun rh7 vh7 ah7 h7 => ?_)
          obtain ⟨f5, rfl, fn5, bn5, ex5⟩ := h7
          obtain ⟨rfl, rfl⟩ := fn5.eq
          have gf5 : 1 ≤ f5 ∧ f5 ≤ 50 := ex5
          refine m_st (st2 := [.int (iI f5), .int (iI q), .ref h0]) rfl ?_
          refine m_imul C dX12_page_107 ?_
          refine m_iload (j := 0) C dX12_page_108 rfl ?_
          obtain ⟨zz2, hzz2, ezz2⟩ := iI_of (iI (q * f5))
          refine m_st (st2 := [.int (iI zz1), .int (iI zz2), .ref h0]) (by rw [ezz2]) ?_
          refine m_iadd C dX12_page_110 ?_
          obtain ⟨zz3, hzz3, ezz3⟩ := iI_of (iI (zz2 + zz1))
          refine m_st (st2 := [.int (iI zz3), .ref h0]) (by rw [ezz3]) ?_
          refine m_iload_n (j := 4) C dX12_page_111 rfl ?_
          refine m_call (mc2 := 0) (ms2 := 0) (As := [.int (iI zz3), .int (iI i)]) (rest := []) C (B_cell (l0 := zz3) (i := i) hB (by show -2147483648 ≤ zz3 ∧ zz3 ≤ 2147483647; omega) (by show -2147483648 ≤ i ∧ i ≤ 2147483647; omega)) dX12_page_112 kV_X12_300 rfl ck_13 rfl (Nat.le_of_ble_eq_true rfl) ⟨Nat.le_of_ble_eq_true rfl, Nat.le_of_ble_eq_true rfl⟩ ⟨Nat.le_of_ble_eq_true rfl, Nat.le_of_ble_eq_true rfl⟩ (fun rh8 vh8 ah8 h8 => ?_)
          obtain ⟨f6, rfl, fn6, bn6, ex6⟩ := h8
          have fq6 := fp0.call fn6 rfl rfl
          refine m_st (st2 := [.int (iI f6)]) rfl ?_
          exact m_iret C dX12_page_115 rfl (Nat.le_of_ble_eq_true rfl) (Nat.le_of_ble_eq_true rfl) ⟨f6, rfl, fq6, bn6, trivial⟩
        · refine m_st (st2 := [.int (iI 0)]) (by rw [h6e]) ?_
          refine m_if_ne (tgt := 101) C ⟨by decide, by decide⟩ dX12_page_92 (by decide) (fun z => absurd z (by omega)) (fun _ => ?_)
          refine m_aload_n (j := 1) C dX12_page_95 rfl ?_
          refine m_iconst C dX12_page_96 ?_
          refine m_call (mc2 := 0) (ms2 := 0) (As := [.int (iI 2)]) (rest := []) C (B_bad (x := 2) hB (by show -2147483648 ≤ (2 : Int) ∧ (2 : Int) ≤ 2147483647; omega)) dX12_page_97 kV_X12_154 rfl ck_13 rfl (Nat.le_of_ble_eq_true rfl) ⟨Nat.le_of_ble_eq_true rfl, Nat.le_of_ble_eq_true rfl⟩ ⟨Nat.le_of_ble_eq_true rfl, Nat.le_of_ble_eq_true rfl⟩ (fun rh9 vh9 ah9 h9 => ?_)
          obtain ⟨f7, rfl, fn7, bn7, ex7⟩ := h9
          refine hv2 (fp0.call fn7 rfl rfl) (show f7 = -1 from ex7) (fun fq7 gf7 => ?_)
          refine m_st (st2 := [.int (iI f7)]) rfl ?_
          exact m_iret C dX12_page_100 rfl (Nat.le_of_ble_eq_true rfl) (Nat.le_of_ble_eq_true rfl) ⟨f7, rfl, fq7, bn7, trivial⟩
      · refine m_iload_n (j := 2) C dX12_page_71 rfl ?_
        refine m_iconst C dX12_page_72 ?_
        refine m_isub C dX12_page_73 ?_
        refine m_goto (tgt := 78) C dX12_page_74 (by decide) ?_
        obtain ⟨zz4, hzz4, ezz4⟩ := iI_of (iI (w1 - 1))
        refine m_st (st2 := [.int (iI zz4)]) (by rw [ezz4]) ?_
        refine m_istore (lv2 := [(4, .int (iI zz4)), (0, .ref h0), (1, .int (iI q)), (2, .int (iI w1)), (3, .int (iI i))]) C dX12_page_78 (by decide) rfl ?_
        refine m_iload (j := 0) C dX12_page_80 rfl ?_
        refine m_iconst C dX12_page_82 ?_
        refine m_aload_n (j := 1) C dX12_page_83 rfl ?_
        refine m_call (mc2 := 0) (ms2 := 0) (As := []) (rest := [.int (iI 0), .int (iI zz4)]) C (B_onPage  hB ) dX12_page_84 kV_X12_291 rfl ck_13 rfl (Nat.le_of_ble_eq_true rfl) ⟨Nat.le_of_ble_eq_true rfl, Nat.le_of_ble_eq_true rfl⟩ ⟨Nat.le_of_ble_eq_true rfl, Nat.le_of_ble_eq_true rfl⟩ (fun rh10 vh10 ah10 h10 => ?_)
        obtain ⟨f8, rfl, fn8, bn8, ex8⟩ := h10
        obtain ⟨rfl, rfl⟩ := fn8.eq
        have gf8 : 1 ≤ f8 ∧ f8 ≤ 50 := ex8
        refine m_st (st2 := [.int (iI f8), .int (iI 0), .int (iI zz4)]) rfl ?_
        refine m_iconst C dX12_page_87 ?_
        refine m_isub C dX12_page_88 ?_
        refine m_callS (As := [.int (iI zz4), .int (iI 0), .int (iI (f8 - 1))]) (rest := []) C (fun L E => s_isIn (iI zz4) (iI 0) (iI (f8 - 1))) dX12_page_89 kS_X12_174 rfl rfl (Nat.le_of_ble_eq_true rfl) ⟨Nat.le_of_ble_eq_true rfl, Nat.le_of_ble_eq_true rfl⟩ ⟨Nat.le_of_ble_eq_true rfl, Nat.le_of_ble_eq_true rfl⟩ ?_
        rcases inn_c (x := zz4) (lo := 0) (hi := f8 - 1) ⟨by omega, by omega⟩ ⟨by decide, by decide⟩ ⟨by omega, by omega⟩ with ⟨h11a, h11b, h11e⟩ | ⟨h11a, h11e⟩
        · refine m_st (st2 := [.int (iI 1)]) (by rw [h11e]) ?_
          refine m_if_ne (tgt := 101) C ⟨by decide, by decide⟩ dX12_page_92 (by decide) (fun _ => ?_) (fun z => absurd z (by omega))
          refine m_aload_n (j := 1) C dX12_page_101 rfl ?_
          refine m_iload_n (j := 2) C dX12_page_102 rfl ?_
          refine m_aload_n (j := 1) C dX12_page_103 rfl ?_
          refine m_call (mc2 := 0) (ms2 := 0) (As := []) (rest := [.int (iI q), .ref h0]) C (B_onPage  hB ) dX12_page_104 kV_X12_291 rfl ck_13 rfl (Nat.le_of_ble_eq_true rfl) ⟨Nat.le_of_ble_eq_true rfl, Nat.le_of_ble_eq_true rfl⟩ ⟨Nat.le_of_ble_eq_true rfl, Nat.le_of_ble_eq_true rfl⟩ (fun rh12 vh12 ah12 h12 => ?_)
          obtain ⟨f9, rfl, fn9, bn9, ex9⟩ := h12
          obtain ⟨rfl, rfl⟩ := fn9.eq
          have gf9 : 1 ≤ f9 ∧ f9 ≤ 50 := ex9
          refine m_st (st2 := [.int (iI f9), .int (iI q), .ref h0]) rfl ?_
          refine m_imul C dX12_page_107 ?_
          refine m_iload (j := 0) C dX12_page_108 rfl ?_
          obtain ⟨zz5, hzz5, ezz5⟩ := iI_of (iI (q * f9))
          refine m_st (st2 := [.int (iI zz4), .int (iI zz5), .ref h0]) (by rw [ezz5]) ?_
          refine m_iadd C dX12_page_110 ?_
          obtain ⟨zz6, hzz6, ezz6⟩ := iI_of (iI (zz5 + zz4))
          refine m_st (st2 := [.int (iI zz6), .ref h0]) (by rw [ezz6]) ?_
          refine m_iload_n (j := 4) C dX12_page_111 rfl ?_
          refine m_call (mc2 := 0) (ms2 := 0) (As := [.int (iI zz6), .int (iI i)]) (rest := []) C (B_cell (l0 := zz6) (i := i) hB (by show -2147483648 ≤ zz6 ∧ zz6 ≤ 2147483647; omega) (by show -2147483648 ≤ i ∧ i ≤ 2147483647; omega)) dX12_page_112 kV_X12_300 rfl ck_13 rfl (Nat.le_of_ble_eq_true rfl) ⟨Nat.le_of_ble_eq_true rfl, Nat.le_of_ble_eq_true rfl⟩ ⟨Nat.le_of_ble_eq_true rfl, Nat.le_of_ble_eq_true rfl⟩ (fun rh13 vh13 ah13 h13 => ?_)
          obtain ⟨f10, rfl, fn10, bn10, ex10⟩ := h13
          have fq10 := fp0.call fn10 rfl rfl
          refine m_st (st2 := [.int (iI f10)]) rfl ?_
          exact m_iret C dX12_page_115 rfl (Nat.le_of_ble_eq_true rfl) (Nat.le_of_ble_eq_true rfl) ⟨f10, rfl, fq10, bn10, trivial⟩
        · refine m_st (st2 := [.int (iI 0)]) (by rw [h11e]) ?_
          refine m_if_ne (tgt := 101) C ⟨by decide, by decide⟩ dX12_page_92 (by decide) (fun z => absurd z (by omega)) (fun _ => ?_)
          refine m_aload_n (j := 1) C dX12_page_95 rfl ?_
          refine m_iconst C dX12_page_96 ?_
          refine m_call (mc2 := 0) (ms2 := 0) (As := [.int (iI 2)]) (rest := []) C (B_bad (x := 2) hB (by show -2147483648 ≤ (2 : Int) ∧ (2 : Int) ≤ 2147483647; omega)) dX12_page_97 kV_X12_154 rfl ck_13 rfl (Nat.le_of_ble_eq_true rfl) ⟨Nat.le_of_ble_eq_true rfl, Nat.le_of_ble_eq_true rfl⟩ ⟨Nat.le_of_ble_eq_true rfl, Nat.le_of_ble_eq_true rfl⟩ (fun rh14 vh14 ah14 h14 => ?_)
          obtain ⟨f11, rfl, fn11, bn11, ex11⟩ := h14
          refine hv2 (fp0.call fn11 rfl rfl) (show f11 = -1 from ex11) (fun fq11 gf11 => ?_)
          refine m_st (st2 := [.int (iI f11)]) rfl ?_
          exact m_iret C dX12_page_100 rfl (Nat.le_of_ble_eq_true rfl) (Nat.le_of_ble_eq_true rfl) ⟨f11, rfl, fq11, bn11, trivial⟩
    · refine m_iload_n (j := 2) C dX12_page_27 rfl ?_
      refine m_if_ne (tgt := 64) C ⟨by omega, by omega⟩ dX12_page_28 (by decide) (fun c3 => ?_) (fun c3 => ?_)
      · refine m_aload_n (j := 0) C dX12_page_64 rfl ?_
        refine m_call (mc2 := 0) (ms2 := 0) (As := []) (rest := []) C (B_hasHead  hB ) dX12_page_65 kV_X12_288 rfl ck_13 rfl (Nat.le_of_ble_eq_true rfl) ⟨Nat.le_of_ble_eq_true rfl, Nat.le_of_ble_eq_true rfl⟩ ⟨Nat.le_of_ble_eq_true rfl, Nat.le_of_ble_eq_true rfl⟩ (fun rh15 vh15 ah15 h15 => ?_)
        obtain ⟨f12, rfl, fn12, bn12, ex12⟩ := h15
        obtain ⟨rfl, rfl⟩ := fn12.eq
        have gf12 : f12 = 0 ∨ (f12 = 1 ∧ 0 < (v 41) ∧ 2 ≤ (v 32)) := ex12
        refine m_st (st2 := [.int (iI f12)]) rfl ?_
        refine m_if_eq (tgt := 77) C ⟨by omega, by omega⟩ dX12_page_68 (by decide) (fun c4 => ?_) (fun c4 => ?_)
        · refine m_iload_n (j := 2) C dX12_page_77 rfl ?_
          obtain ⟨zz7, hzz7, ezz7⟩ := iI_of (iI w1)
          refine m_st (st2 := [.int (iI zz7)]) (by rw [ezz7]) ?_
          refine m_istore (lv2 := [(4, .int (iI zz7)), (0, .ref h0), (1, .int (iI q)), (2, .int (iI w1)), (3, .int (iI i))]) C dX12_page_78 (by decide) rfl ?_
          refine m_iload (j := 0) C dX12_page_80 rfl ?_
          refine m_iconst C dX12_page_82 ?_
          refine m_aload_n (j := 1) C dX12_page_83 rfl ?_
          refine m_call (mc2 := 0) (ms2 := 0) (As := []) (rest := [.int (iI 0), .int (iI zz7)]) C (B_onPage  hB ) dX12_page_84 kV_X12_291 rfl ck_13 rfl (Nat.le_of_ble_eq_true rfl) ⟨Nat.le_of_ble_eq_true rfl, Nat.le_of_ble_eq_true rfl⟩ ⟨Nat.le_of_ble_eq_true rfl, Nat.le_of_ble_eq_true rfl⟩ (fun rh16 vh16 ah16 h16 => ?_)
          obtain ⟨f13, rfl, fn13, bn13, ex13⟩ := h16
          obtain ⟨rfl, rfl⟩ := fn13.eq
          have gf13 : 1 ≤ f13 ∧ f13 ≤ 50 := ex13
          refine m_st (st2 := [.int (iI f13), .int (iI 0), .int (iI zz7)]) rfl ?_
          refine m_iconst C dX12_page_87 ?_
          refine m_isub C dX12_page_88 ?_
          refine m_callS (As := [.int (iI zz7), .int (iI 0), .int (iI (f13 - 1))]) (rest := []) C (fun L E => s_isIn (iI zz7) (iI 0) (iI (f13 - 1))) dX12_page_89 kS_X12_174 rfl rfl (Nat.le_of_ble_eq_true rfl) ⟨Nat.le_of_ble_eq_true rfl, Nat.le_of_ble_eq_true rfl⟩ ⟨Nat.le_of_ble_eq_true rfl, Nat.le_of_ble_eq_true rfl⟩ ?_
          rcases inn_c (x := zz7) (lo := 0) (hi := f13 - 1) ⟨by omega, by omega⟩ ⟨by decide, by decide⟩ ⟨by omega, by omega⟩ with ⟨h17a, h17b, h17e⟩ | ⟨h17a, h17e⟩
          · refine m_st (st2 := [.int (iI 1)]) (by rw [h17e]) ?_
            refine m_if_ne (tgt := 101) C ⟨by decide, by decide⟩ dX12_page_92 (by decide) (fun _ => ?_) (fun z => absurd z (by omega))
            refine m_aload_n (j := 1) C dX12_page_101 rfl ?_
            refine m_iload_n (j := 2) C dX12_page_102 rfl ?_
            refine m_aload_n (j := 1) C dX12_page_103 rfl ?_
            refine m_call (mc2 := 0) (ms2 := 0) (As := []) (rest := [.int (iI q), .ref h0]) C (B_onPage  hB ) dX12_page_104 kV_X12_291 rfl ck_13 rfl (Nat.le_of_ble_eq_true rfl) ⟨Nat.le_of_ble_eq_true rfl, Nat.le_of_ble_eq_true rfl⟩ ⟨Nat.le_of_ble_eq_true rfl, Nat.le_of_ble_eq_true rfl⟩ (fun rh18 vh18 ah18 h18 => ?_)
            obtain ⟨f14, rfl, fn14, bn14, ex14⟩ := h18
            obtain ⟨rfl, rfl⟩ := fn14.eq
            have gf14 : 1 ≤ f14 ∧ f14 ≤ 50 := ex14
            refine m_st (st2 := [.int (iI f14), .int (iI q), .ref h0]) rfl ?_
            refine m_imul C dX12_page_107 ?_
            refine m_iload (j := 0) C dX12_page_108 rfl ?_
            obtain ⟨zz8, hzz8, ezz8⟩ := iI_of (iI (q * f14))
            refine m_st (st2 := [.int (iI zz7), .int (iI zz8), .ref h0]) (by rw [ezz8]) ?_
            refine m_iadd C dX12_page_110 ?_
            obtain ⟨zz9, hzz9, ezz9⟩ := iI_of (iI (zz8 + zz7))
            refine m_st (st2 := [.int (iI zz9), .ref h0]) (by rw [ezz9]) ?_
            refine m_iload_n (j := 4) C dX12_page_111 rfl ?_
            refine m_call (mc2 := 0) (ms2 := 0) (As := [.int (iI zz9), .int (iI i)]) (rest := []) C (B_cell (l0 := zz9) (i := i) hB (by show -2147483648 ≤ zz9 ∧ zz9 ≤ 2147483647; omega) (by show -2147483648 ≤ i ∧ i ≤ 2147483647; omega)) dX12_page_112 kV_X12_300 rfl ck_13 rfl (Nat.le_of_ble_eq_true rfl) ⟨Nat.le_of_ble_eq_true rfl, Nat.le_of_ble_eq_true rfl⟩ ⟨Nat.le_of_ble_eq_true rfl, Nat.le_of_ble_eq_true rfl⟩ (fun rh19 vh19 ah19 h19 => ?_)
            obtain ⟨f15, rfl, fn15, bn15, ex15⟩ := h19
            have fq15 := fp0.call fn15 rfl rfl
            refine m_st (st2 := [.int (iI f15)]) rfl ?_
            exact m_iret C dX12_page_115 rfl (Nat.le_of_ble_eq_true rfl) (Nat.le_of_ble_eq_true rfl) ⟨f15, rfl, fq15, bn15, trivial⟩
          · refine m_st (st2 := [.int (iI 0)]) (by rw [h17e]) ?_
            refine m_if_ne (tgt := 101) C ⟨by decide, by decide⟩ dX12_page_92 (by decide) (fun z => absurd z (by omega)) (fun _ => ?_)
            refine m_aload_n (j := 1) C dX12_page_95 rfl ?_
            refine m_iconst C dX12_page_96 ?_
            refine m_call (mc2 := 0) (ms2 := 0) (As := [.int (iI 2)]) (rest := []) C (B_bad (x := 2) hB (by show -2147483648 ≤ (2 : Int) ∧ (2 : Int) ≤ 2147483647; omega)) dX12_page_97 kV_X12_154 rfl ck_13 rfl (Nat.le_of_ble_eq_true rfl) ⟨Nat.le_of_ble_eq_true rfl, Nat.le_of_ble_eq_true rfl⟩ ⟨Nat.le_of_ble_eq_true rfl, Nat.le_of_ble_eq_true rfl⟩ (fun rh20 vh20 ah20 h20 => ?_)
            obtain ⟨f16, rfl, fn16, bn16, ex16⟩ := h20
            refine hv2 (fp0.call fn16 rfl rfl) (show f16 = -1 from ex16) (fun fq16 gf16 => ?_)
            refine m_st (st2 := [.int (iI f16)]) rfl ?_
            exact m_iret C dX12_page_100 rfl (Nat.le_of_ble_eq_true rfl) (Nat.le_of_ble_eq_true rfl) ⟨f16, rfl, fq16, bn16, trivial⟩
        · refine m_iload_n (j := 2) C dX12_page_71 rfl ?_
          refine m_iconst C dX12_page_72 ?_
          refine m_isub C dX12_page_73 ?_
          refine m_goto (tgt := 78) C dX12_page_74 (by decide) ?_
          obtain ⟨zz10, hzz10, ezz10⟩ := iI_of (iI (w1 - 1))
          refine m_st (st2 := [.int (iI zz10)]) (by rw [ezz10]) ?_
          refine m_istore (lv2 := [(4, .int (iI zz10)), (0, .ref h0), (1, .int (iI q)), (2, .int (iI w1)), (3, .int (iI i))]) C dX12_page_78 (by decide) rfl ?_
          refine m_iload (j := 0) C dX12_page_80 rfl ?_
          refine m_iconst C dX12_page_82 ?_
          refine m_aload_n (j := 1) C dX12_page_83 rfl ?_
          refine m_call (mc2 := 0) (ms2 := 0) (As := []) (rest := [.int (iI 0), .int (iI zz10)]) C (B_onPage  hB ) dX12_page_84 kV_X12_291 rfl ck_13 rfl (Nat.le_of_ble_eq_true rfl) ⟨Nat.le_of_ble_eq_true rfl, Nat.le_of_ble_eq_true rfl⟩ ⟨Nat.le_of_ble_eq_true rfl, Nat.le_of_ble_eq_true rfl⟩ (fun rh21 vh21 ah21 h21 => ?_)
          obtain ⟨f17, rfl, fn17, bn17, ex17⟩ := h21
          obtain ⟨rfl, rfl⟩ := fn17.eq
          have gf17 : 1 ≤ f17 ∧ f17 ≤ 50 := ex17
          refine m_st (st2 := [.int (iI f17), .int (iI 0), .int (iI zz10)]) rfl ?_
          refine m_iconst C dX12_page_87 ?_
          refine m_isub C dX12_page_88 ?_
          refine m_callS (As := [.int (iI zz10), .int (iI 0), .int (iI (f17 - 1))]) (rest := []) C (fun L E => s_isIn (iI zz10) (iI 0) (iI (f17 - 1))) dX12_page_89 kS_X12_174 rfl rfl (Nat.le_of_ble_eq_true rfl) ⟨Nat.le_of_ble_eq_true rfl, Nat.le_of_ble_eq_true rfl⟩ ⟨Nat.le_of_ble_eq_true rfl, Nat.le_of_ble_eq_true rfl⟩ ?_
          rcases inn_c (x := zz10) (lo := 0) (hi := f17 - 1) ⟨by omega, by omega⟩ ⟨by decide, by decide⟩ ⟨by omega, by omega⟩ with ⟨h22a, h22b, h22e⟩ | ⟨h22a, h22e⟩
          · refine m_st (st2 := [.int (iI 1)]) (by rw [h22e]) ?_
            refine m_if_ne (tgt := 101) C ⟨by decide, by decide⟩ dX12_page_92 (by decide) (fun _ => ?_) (fun z => absurd z (by omega))
            refine m_aload_n (j := 1) C dX12_page_101 rfl ?_
            refine m_iload_n (j := 2) C dX12_page_102 rfl ?_
            refine m_aload_n (j := 1) C dX12_page_103 rfl ?_
            refine m_call (mc2 := 0) (ms2 := 0) (As := []) (rest := [.int (iI q), .ref h0]) C (B_onPage  hB ) dX12_page_104 kV_X12_291 rfl ck_13 rfl (Nat.le_of_ble_eq_true rfl) ⟨Nat.le_of_ble_eq_true rfl, Nat.le_of_ble_eq_true rfl⟩ ⟨Nat.le_of_ble_eq_true rfl, Nat.le_of_ble_eq_true rfl⟩ (fun rh23 vh23 ah23 h23 => ?_)
            obtain ⟨f18, rfl, fn18, bn18, ex18⟩ := h23
            obtain ⟨rfl, rfl⟩ := fn18.eq
            have gf18 : 1 ≤ f18 ∧ f18 ≤ 50 := ex18
            refine m_st (st2 := [.int (iI f18), .int (iI q), .ref h0]) rfl ?_
            refine m_imul C dX12_page_107 ?_
            refine m_iload (j := 0) C dX12_page_108 rfl ?_
            obtain ⟨zz11, hzz11, ezz11⟩ := iI_of (iI (q * f18))
            refine m_st (st2 := [.int (iI zz10), .int (iI zz11), .ref h0]) (by rw [ezz11]) ?_
            refine m_iadd C dX12_page_110 ?_
            obtain ⟨zz12, hzz12, ezz12⟩ := iI_of (iI (zz11 + zz10))
            refine m_st (st2 := [.int (iI zz12), .ref h0]) (by rw [ezz12]) ?_
            refine m_iload_n (j := 4) C dX12_page_111 rfl ?_
            refine m_call (mc2 := 0) (ms2 := 0) (As := [.int (iI zz12), .int (iI i)]) (rest := []) C (B_cell (l0 := zz12) (i := i) hB (by show -2147483648 ≤ zz12 ∧ zz12 ≤ 2147483647; omega) (by show -2147483648 ≤ i ∧ i ≤ 2147483647; omega)) dX12_page_112 kV_X12_300 rfl ck_13 rfl (Nat.le_of_ble_eq_true rfl) ⟨Nat.le_of_ble_eq_true rfl, Nat.le_of_ble_eq_true rfl⟩ ⟨Nat.le_of_ble_eq_true rfl, Nat.le_of_ble_eq_true rfl⟩ (fun rh24 vh24 ah24 h24 => ?_)
            obtain ⟨f19, rfl, fn19, bn19, ex19⟩ := h24
            have fq19 := fp0.call fn19 rfl rfl
            refine m_st (st2 := [.int (iI f19)]) rfl ?_
            exact m_iret C dX12_page_115 rfl (Nat.le_of_ble_eq_true rfl) (Nat.le_of_ble_eq_true rfl) ⟨f19, rfl, fq19, bn19, trivial⟩
          · refine m_st (st2 := [.int (iI 0)]) (by rw [h22e]) ?_
            refine m_if_ne (tgt := 101) C ⟨by decide, by decide⟩ dX12_page_92 (by decide) (fun z => absurd z (by omega)) (fun _ => ?_)
            refine m_aload_n (j := 1) C dX12_page_95 rfl ?_
            refine m_iconst C dX12_page_96 ?_
            refine m_call (mc2 := 0) (ms2 := 0) (As := [.int (iI 2)]) (rest := []) C (B_bad (x := 2) hB (by show -2147483648 ≤ (2 : Int) ∧ (2 : Int) ≤ 2147483647; omega)) dX12_page_97 kV_X12_154 rfl ck_13 rfl (Nat.le_of_ble_eq_true rfl) ⟨Nat.le_of_ble_eq_true rfl, Nat.le_of_ble_eq_true rfl⟩ ⟨Nat.le_of_ble_eq_true rfl, Nat.le_of_ble_eq_true rfl⟩ (fun rh25 vh25 ah25 h25 => ?_)
            obtain ⟨f20, rfl, fn20, bn20, ex20⟩ := h25
            refine hv2 (fp0.call fn20 rfl rfl) (show f20 = -1 from ex20) (fun fq20 gf20 => ?_)
            refine m_st (st2 := [.int (iI f20)]) rfl ?_
            exact m_iret C dX12_page_100 rfl (Nat.le_of_ble_eq_true rfl) (Nat.le_of_ble_eq_true rfl) ⟨f20, rfl, fq20, bn20, trivial⟩
      · refine m_iload_n (j := 3) C dX12_page_31 rfl ?_
        refine m_iconst C dX12_page_32 ?_
        refine m_aload_n (j := 0) C dX12_page_33 rfl ?_
        refine m_get (k := 41) C dX12_page_34 w6_100 (by decide) rfl ?_
        refine m_iconst C dX12_page_37 ?_
        refine m_isub C dX12_page_38 ?_
        refine m_callS (As := [.int (iI i), .int (iI 0), .int (iI ((v 41) - 1))]) (rest := []) C (fun L E => s_isIn (iI i) (iI 0) (iI ((v 41) - 1))) dX12_page_39 kS_X12_174 rfl rfl (Nat.le_of_ble_eq_true rfl) ⟨Nat.le_of_ble_eq_true rfl, Nat.le_of_ble_eq_true rfl⟩ ⟨Nat.le_of_ble_eq_true rfl, Nat.le_of_ble_eq_true rfl⟩ ?_
        rcases inn_c (x := i) (lo := 0) (hi := (v 41) - 1) ⟨by omega, by omega⟩ ⟨by decide, by decide⟩ ⟨by omega, by omega⟩ with ⟨h26a, h26b, h26e⟩ | ⟨h26a, h26e⟩
        · refine m_st (st2 := [.int (iI 1)]) (by rw [h26e]) ?_
          refine m_if_eq (tgt := 58) C ⟨by decide, by decide⟩ dX12_page_42 (by decide) (fun z => absurd z (by omega)) (fun _ => ?_)
          refine m_aload_n (j := 0) C dX12_page_45 rfl ?_
          refine m_aload_n (j := 0) C dX12_page_46 rfl ?_
          refine m_geta (k := 40) C dX12_page_47 w6_99 (by decide) rfl ?_
          refine m_iload_n (j := 3) C dX12_page_50 rfl ?_
          refine m_ald (k := 40) C dX12_page_51 rfl rfl (by decide) (by omega) (by show _ < ((_ : Nat) : Int); simp only [mlen]; omega) (by decide) ?_
          have ra1 : (-2147483648) ≤ a 40 i.toNat ∧ a 40 i.toNat ≤ 2147483647 := hB.2 40 (i.toNat)
          refine m_call (mc2 := 0) (ms2 := 0) (As := [.int (iI (a 40 i.toNat))]) (rest := []) C (B_fine (x := a 40 i.toNat) hB (by show -2147483648 ≤ (a 40 i.toNat) ∧ (a 40 i.toNat) ≤ 2147483647; omega)) dX12_page_52 kV_X12_158 rfl ck_13 rfl (Nat.le_of_ble_eq_true rfl) ⟨Nat.le_of_ble_eq_true rfl, Nat.le_of_ble_eq_true rfl⟩ ⟨Nat.le_of_ble_eq_true rfl, Nat.le_of_ble_eq_true rfl⟩ (fun rh27 vh27 ah27 h27 => ?_)
          obtain ⟨f21, rfl, fn21, bn21, ex21⟩ := h27
          refine hv2 (fp0.call fn21 rfl rfl) (show f21 = (a 40 i.toNat) from ex21) (fun fq21 gf21 => ?_)
          refine m_st (st2 := [.int (iI f21)]) rfl ?_
          refine m_goto (tgt := 63) C dX12_page_55 (by decide) ?_
          exact m_iret C dX12_page_63 rfl (Nat.le_of_ble_eq_true rfl) (Nat.le_of_ble_eq_true rfl) ⟨f21, rfl, fq21, bn21, trivial⟩
        · refine m_st (st2 := [.int (iI 0)]) (by rw [h26e]) ?_
          refine m_if_eq (tgt := 58) C ⟨by decide, by decide⟩ dX12_page_42 (by decide) (fun _ => ?_) (fun z => absurd z (by omega))
          refine m_aload_n (j := 0) C dX12_page_58 rfl ?_
          refine m_iconst C dX12_page_59 ?_
          refine m_call (mc2 := 0) (ms2 := 0) (As := [.int (iI 2)]) (rest := []) C (B_bad (x := 2) hB (by show -2147483648 ≤ (2 : Int) ∧ (2 : Int) ≤ 2147483647; omega)) dX12_page_60 kV_X12_154 rfl ck_13 rfl (Nat.le_of_ble_eq_true rfl) ⟨Nat.le_of_ble_eq_true rfl, Nat.le_of_ble_eq_true rfl⟩ ⟨Nat.le_of_ble_eq_true rfl, Nat.le_of_ble_eq_true rfl⟩ (fun rh28 vh28 ah28 h28 => ?_)
          obtain ⟨f22, rfl, fn22, bn22, ex22⟩ := h28
          refine hv2 (fp0.call fn22 rfl rfl) (show f22 = -1 from ex22) (fun fq22 gf22 => ?_)
          refine m_st (st2 := [.int (iI f22)]) rfl ?_
          exact m_iret C dX12_page_63 rfl (Nat.le_of_ble_eq_true rfl) (Nat.le_of_ble_eq_true rfl) ⟨f22, rfl, fq22, bn22, trivial⟩
  · refine m_st (st2 := [.int (iI 0)]) (by rw [h2e]) ?_
    refine m_if_ne (tgt := 20) C ⟨by decide, by decide⟩ dX12_page_11 (by decide) (fun z => absurd z (by omega)) (fun _ => ?_)
    refine m_aload_n (j := 0) C dX12_page_14 rfl ?_
    refine m_iconst C dX12_page_15 ?_
    refine m_call (mc2 := 0) (ms2 := 0) (As := [.int (iI 2)]) (rest := []) C (B_bad (x := 2) hB (by show -2147483648 ≤ (2 : Int) ∧ (2 : Int) ≤ 2147483647; omega)) dX12_page_16 kV_X12_154 rfl ck_13 rfl (Nat.le_of_ble_eq_true rfl) ⟨Nat.le_of_ble_eq_true rfl, Nat.le_of_ble_eq_true rfl⟩ ⟨Nat.le_of_ble_eq_true rfl, Nat.le_of_ble_eq_true rfl⟩ (fun rh29 vh29 ah29 h29 => ?_)
    obtain ⟨f23, rfl, fn23, bn23, ex23⟩ := h29
    refine hv2 (fp0.call fn23 rfl rfl) (show f23 = -1 from ex23) (fun fq23 gf23 => ?_)
    refine m_st (st2 := [.int (iI f23)]) rfl ?_
    exact m_iret C dX12_page_19 rfl (Nat.le_of_ble_eq_true rfl) (Nat.le_of_ble_eq_true rfl) ⟨f23, rfl, fq23, bn23, trivial⟩
