set_option maxHeartbeats 4000000 in
set_option maxRecDepth 100000 in
theorem M_flow {l : Launch} {G : GT} {h0 : Nat} {ad ln : Nat → Nat} {v : Nat → Int} {a : Nat → Nat → Int}  {t : Int} (hB : BX v a) (ht : 0 ≤ t ∧ t < 30) (h39 : 1 ≤ v 39) (h25 : v 25 ≤ 200) : Mm l G yX12_flow cX12_flow 7 (some .boolean) 2 [.int (iI t)] h0 ad ln v a 0 0 (fun r v2 a2 => ∃ f : Int, r = some (.int (iI f)) ∧ fr [39] [37, 38] v a v2 a2 ∧ BX v2 a2 ∧ (f = 0 ∨ (f = 1 ∧ 1 ≤ v2 39))) := by
  refine Mm.mk (by decide) (Nat.le_of_ble_eq_true rfl) ?_
  intro p e s m args below meth c A C
  have r25 : 0 ≤ v 25 ∧ v 25 ≤ 208 := hB.1 25
  have r31 : 1 ≤ v 31 ∧ v 31 ≤ 100 := hB.1 31
  have fp0 : fr [39] [37, 38] v a v a := fr.refl
  refine m_iconst C dX12_flow_0 ?_
  refine m_istore_n (lv2 := [(2, .int (iI 0)), (0, .ref h0), (1, .int (iI t))]) C dX12_flow_1 (by decide) rfl ?_
  have Lp1 : ∀ (nn : Nat) (x : Int) (vb1 : Nat → Int) (ab1 : Nat → Nat → Int), 201 - vb1 39 < (nn : Int) → BX vb1 ab1 → fr [39] [37, 38] v a vb1 ab1 → (0 ≤ x ∧ x ≤ 208) → (1 ≤ vb1 39 ∧ vb1 39 ≤ 200) → mw p l e (rmq 2 0 0) s m args below meth c G A 7 (MQ below (Qm G A (fun rq Lq Eq => ∃ (vq : Nat → Int) (aq : Nat → Nat → Int), mI G h0 ad ln vq aq Lq Eq ∧ (fun r v2 a2 => ∃ f : Int, r = some (.int (iI f)) ∧ fr [39] [37, 38] v a v2 a2 ∧ BX v2 a2 ∧ (f = 0 ∨ (f = 1 ∧ 1 ≤ v2 39))) rq vq aq)) args s 0 0 A) h0 ad ln vb1 ab1 0 0 2 [(2, .int (iI x)), (0, .ref h0), (1, .int (iI t))] [] := by
    intro nn
    induction nn with
    | zero =>
      intro x vb1 ab1 hm bxb1 fpb1 hx hn
      exact absurd hm (by omega)
    | succ nn ih1 =>
      intro x vb1 ab1 hm bxb1 fpb1 hx hn
      refine m_iload_n (j := 0) C dX12_flow_2 rfl ?_
      refine m_aload_n (j := 1) C dX12_flow_3 rfl ?_
      have rv1 : 0 ≤ vb1 25 ∧ vb1 25 ≤ 208 := bxb1.1 25
      have ve1 : vb1 25 = v 25 := fpb1.1 25 rfl
      refine m_get (k := 25) C dX12_flow_4 w6_84 (by decide) rfl ?_
      refine m_st (st2 := [.int (iI (v 25)), .int (iI x)]) (congrArg (fun z => Value.int (iI z) :: [.int (iI x)]) (fpb1.1 25 rfl)) ?_
      refine m_icmp_ge (tgt := 164) C ⟨by omega, by omega⟩ ⟨by omega, by omega⟩ dX12_flow_7 (by decide) (fun c1 => ?_) (fun c1 => ?_)
      · refine m_iconst C dX12_flow_164 ?_
        exact m_zret C dX12_flow_165 rfl (Or.inr rfl) (Nat.le_of_ble_eq_true rfl) (Nat.le_of_ble_eq_true rfl) ⟨1, rfl, fpb1, bxb1, (Or.inr ⟨rfl, by show 1 ≤ vb1 39; omega⟩)⟩
      · refine m_aload_n (j := 1) C dX12_flow_10 rfl ?_
        refine m_geta (k := 37) C dX12_flow_11 w6_96 (by decide) rfl ?_
        refine m_aload_n (j := 1) C dX12_flow_14 rfl ?_
        have rv2 : 0 ≤ vb1 39 ∧ vb1 39 ≤ 200 := bxb1.1 39
        refine m_get (k := 39) C dX12_flow_15 w6_98 (by decide) rfl ?_
        refine m_iconst C dX12_flow_18 ?_
        refine m_isub C dX12_flow_19 ?_
        refine m_ald (k := 37) C dX12_flow_20 rfl rfl (by decide) (by omega) (by show _ < ((_ : Nat) : Int); simp only [mlen]; omega) (by decide) ?_
        have ra1 : 0 ≤ ab1 37 ((vb1 39) - 1).toNat ∧ ab1 37 ((vb1 39) - 1).toNat ≤ 200 := bxb1.2 37 (((vb1 39) - 1).toNat)
        refine m_istore_n (lv2 := [(3, .int (iI (ab1 37 ((vb1 39) - 1).toNat))), (2, .int (iI x)), (0, .ref h0), (1, .int (iI t))]) C dX12_flow_21 (by decide) rfl ?_
        have J1 : ∀ (h1 z1 : Int) (vb2 : Nat → Int) (ab2 : Nat → Nat → Int), BX vb2 ab2 → fr [39] [37, 38] v a vb2 ab2 → (0 ≤ h1 ∧ h1 ≤ 200 ∧ ((h1 = 0 ∧ z1 = v 31) ∨ (0 < h1 ∧ z1 = v 31 - (h1 + 1)))) → (vb2 39 = vb1 39) → (ab2 37 (vb2 39 - 1).toNat = h1) → mw p l e (rmq 2 0 0) s m args below meth c G A 7 (MQ below (Qm G A (fun rq Lq Eq => ∃ (vq : Nat → Int) (aq : Nat → Nat → Int), mI G h0 ad ln vq aq Lq Eq ∧ (fun r v2 a2 => ∃ f : Int, r = some (.int (iI f)) ∧ fr [39] [37, 38] v a v2 a2 ∧ BX v2 a2 ∧ (f = 0 ∨ (f = 1 ∧ 1 ≤ v2 39))) rq vq aq)) args s 0 0 A) h0 ad ln vb2 ab2 0 0 40 [(4, .int (iI z1)), (3, .int (iI h1)), (2, .int (iI x)), (0, .ref h0), (1, .int (iI t))] [] := by
          intro h1 z1 vb2 ab2 bxb2 fpb2 hh hn1 hh1
          have J2 : ∀ (y : Int) (vb3 : Nat → Int) (ab3 : Nat → Nat → Int), BX vb3 ab3 → fr [39] [37, 38] v a vb3 ab3 → (y = -1 ∨ (y = v 25 ∧ v 25 - x ≤ z1) ∨ (x < y ∧ y ≤ 208 ∧ y - x + 1 ≤ z1)) → (vb3 39 = vb1 39) → (ab3 37 (vb3 39 - 1).toNat = h1) → mw p l e (rmq 2 0 0) s m args below meth c G A 7 (MQ below (Qm G A (fun rq Lq Eq => ∃ (vq : Nat → Int) (aq : Nat → Nat → Int), mI G h0 ad ln vq aq Lq Eq ∧ (fun r v2 a2 => ∃ f : Int, r = some (.int (iI f)) ∧ fr [39] [37, 38] v a v2 a2 ∧ BX v2 a2 ∧ (f = 0 ∨ (f = 1 ∧ 1 ≤ v2 39))) rq vq aq)) args s 0 0 A) h0 ad ln vb3 ab3 0 0 68 [(5, .int (iI y)), (4, .int (iI z1)), (3, .int (iI h1)), (2, .int (iI x)), (0, .ref h0), (1, .int (iI t))] [] := by
            intro y vb3 ab3 bxb3 fpb3 hy hn2 hh2
            have J3 : ∀ (y1 : Int) (vb4 : Nat → Int) (ab4 : Nat → Nat → Int), BX vb4 ab4 → fr [39] [37, 38] v a vb4 ab4 → ((h1 = 0 ∧ y1 = v 25) ∨ (y1 = v 25 ∧ v 25 - x ≤ z1) ∨ (x < y1 ∧ y1 ≤ 208 ∧ y1 - x + 1 ≤ z1)) → (vb4 39 = vb1 39) → (ab4 37 (vb4 39 - 1).toNat = h1) → mw p l e (rmq 2 0 0) s m args below meth c G A 7 (MQ below (Qm G A (fun rq Lq Eq => ∃ (vq : Nat → Int) (aq : Nat → Nat → Int), mI G h0 ad ln vq aq Lq Eq ∧ (fun r v2 a2 => ∃ f : Int, r = some (.int (iI f)) ∧ fr [39] [37, 38] v a v2 a2 ∧ BX v2 a2 ∧ (f = 0 ∨ (f = 1 ∧ 1 ≤ v2 39))) rq vq aq)) args s 0 0 A) h0 ad ln vb4 ab4 0 0 88 [(5, .int (iI y1)), (4, .int (iI z1)), (3, .int (iI h1)), (2, .int (iI x)), (0, .ref h0), (1, .int (iI t))] [] := by
              intro y1 vb4 ab4 bxb4 fpb4 hy1 hn3 hh3
              have Lp2 : ∀ (nn : Nat) (k : Int) (vb5 : Nat → Int) (ab5 : Nat → Nat → Int), 210 - k < (nn : Int) → BX vb5 ab5 → fr [39] [37, 38] v a vb5 ab5 → (x ≤ k ∧ k ≤ 208) → (vb5 39 = vb1 39) → ((ab5 37 (vb5 39 - 1).toNat + (y1 - k) ≤ 199 ∨ (ab5 37 (vb5 39 - 1).toNat + (y1 - k) ≤ 200 ∧ y1 = v 25)) ∧ k ≤ y1) → mw p l e (rmq 2 0 0) s m args below meth c G A 7 (MQ below (Qm G A (fun rq Lq Eq => ∃ (vq : Nat → Int) (aq : Nat → Nat → Int), mI G h0 ad ln vq aq Lq Eq ∧ (fun r v2 a2 => ∃ f : Int, r = some (.int (iI f)) ∧ fr [39] [37, 38] v a v2 a2 ∧ BX v2 a2 ∧ (f = 0 ∨ (f = 1 ∧ 1 ≤ v2 39))) rq vq aq)) args s 0 0 A) h0 ad ln vb5 ab5 0 0 100 [(6, .int (iI k)), (5, .int (iI y1)), (4, .int (iI z1)), (3, .int (iI h1)), (2, .int (iI x)), (0, .ref h0), (1, .int (iI t))] [] := by
                intro nn
                induction nn with
                | zero =>
                  intro k vb5 ab5 hm bxb5 fpb5 hk hn4 hh4
                  exact absurd hm (by omega)
                | succ nn ih2 =>
                  intro k vb5 ab5 hm bxb5 fpb5 hk hn4 hh4
                  refine m_iload (j := 0) C dX12_flow_100 rfl ?_
                  refine m_iload (j := 1) C dX12_flow_102 rfl ?_
                  refine m_icmp_ge (tgt := 124) C ⟨by omega, by omega⟩ ⟨by omega, by omega⟩ dX12_flow_104 (by decide) (fun c2 => ?_) (fun c2 => ?_)
                  · refine m_iload (j := 1) C dX12_flow_124 rfl ?_
                    refine m_aload_n (j := 5) C dX12_flow_126 rfl ?_
                    have rv3 : 0 ≤ vb5 25 ∧ vb5 25 ≤ 208 := bxb5.1 25
                    have ve2 : vb5 25 = v 25 := fpb5.1 25 rfl
                    refine m_get (k := 25) C dX12_flow_127 w6_84 (by decide) rfl ?_
                    refine m_st (st2 := [.int (iI (v 25)), .int (iI y1)]) (congrArg (fun z => Value.int (iI z) :: [.int (iI y1)]) (fpb5.1 25 rfl)) ?_
                    refine m_icmp_ge (tgt := 141) C ⟨by omega, by omega⟩ ⟨by omega, by omega⟩ dX12_flow_130 (by decide) (fun c3 => ?_) (fun c3 => ?_)
                    · refine m_iload (j := 1) C dX12_flow_141 rfl ?_
                      refine m_istore_n (lv2 := [(2, .int (iI y1)), (6, .int (iI k)), (5, .int (iI y1)), (4, .int (iI z1)), (3, .int (iI h1)), (0, .ref h0), (1, .int (iI t))]) C dX12_flow_143 (by decide) rfl ?_
                      refine m_iload_n (j := 0) C dX12_flow_144 rfl ?_
                      refine m_aload_n (j := 5) C dX12_flow_145 rfl ?_
                      refine m_get (k := 25) C dX12_flow_146 w6_84 (by decide) rfl ?_
                      refine m_st (st2 := [.int (iI (v 25)), .int (iI y1)]) (congrArg (fun z => Value.int (iI z) :: [.int (iI y1)]) (fpb5.1 25 rfl)) ?_
                      refine m_icmp_ge (tgt := 161) C ⟨by omega, by omega⟩ ⟨by omega, by omega⟩ dX12_flow_149 (by decide) (fun c4 => ?_) (fun c4 => ?_)
                      · refine m_goto (tgt := 2) C dX12_flow_161 (by decide) ?_
                        refine m_iload_n (j := 0) C dX12_flow_2 rfl ?_
                        refine m_aload_n (j := 5) C dX12_flow_3 rfl ?_
                        refine m_get (k := 25) C dX12_flow_4 w6_84 (by decide) rfl ?_
                        refine m_st (st2 := [.int (iI (v 25)), .int (iI y1)]) (congrArg (fun z => Value.int (iI z) :: [.int (iI y1)]) (fpb5.1 25 rfl)) ?_
                        refine m_icmp_ge (tgt := 164) C ⟨by omega, by omega⟩ ⟨by omega, by omega⟩ dX12_flow_7 (by decide) (fun _ => ?_) (fun z => absurd z (by omega))
                        refine m_iconst C dX12_flow_164 ?_
                        exact m_zret C dX12_flow_165 rfl (Or.inr rfl) (Nat.le_of_ble_eq_true rfl) (Nat.le_of_ble_eq_true rfl) ⟨1, rfl, fpb5, bxb5, (Or.inr ⟨rfl, by show 1 ≤ vb5 39; omega⟩)⟩
                      · refine m_aload_n (j := 5) C dX12_flow_152 rfl ?_
                        refine m_call (mc2 := 0) (ms2 := 0) (As := []) (rest := []) C (M_newLine  bxb5.rg (bxb5.1 39)) dX12_flow_153 kV_X12_257 rfl ck_13 rfl (Nat.le_of_ble_eq_true rfl) ⟨Nat.le_of_ble_eq_true rfl, Nat.le_of_ble_eq_true rfl⟩ ⟨Nat.le_of_ble_eq_true rfl, Nat.le_of_ble_eq_true rfl⟩ (fun rh1 vh1 ah1 h1 => ?_)
                        obtain ⟨f1, rfl, fn1, bn1, ex1⟩ := W_newLine bxb5  h1
                        have fq1 := fpb5.call fn1 rfl rfl
                        have gf1 : (f1 = 1 ∧ vh1 39 = vb5 39 + 1 ∧ ah1 37 (vh1 39 - 1).toNat = 0) ∨ f1 = 0 := ex1
                        refine m_st (st2 := [.int (iI f1)]) rfl ?_
                        refine m_if_ne (tgt := 161) C ⟨by omega, by omega⟩ dX12_flow_156 (by decide) (fun c5 => ?_) (fun c5 => ?_)
                        · refine m_goto (tgt := 2) C dX12_flow_161 (by decide) ?_
                          have rv4 : 0 ≤ vh1 39 ∧ vh1 39 ≤ 200 := bn1.1 39
                          refine m_lv (lv2 := [(2, .int (iI y1)), (0, .ref h0), (1, .int (iI t))]) [0, 5, 6] rfl ?_
                          exact ih1  y1 _ _ (by omega) bn1 fq1 (by omega) (by show 1 ≤ (vh1 39) ∧ (vh1 39) ≤ 200; omega)
                        · refine m_iconst C dX12_flow_159 ?_
                          exact m_zret C dX12_flow_160 rfl (Or.inl rfl) (Nat.le_of_ble_eq_true rfl) (Nat.le_of_ble_eq_true rfl) ⟨0, rfl, fq1, bn1, (Or.inl rfl)⟩
                    · refine m_aload_n (j := 5) C dX12_flow_133 rfl ?_
                      refine m_aload_n (j := 5) C dX12_flow_134 rfl ?_
                      have rv5 : (-2147483648) ≤ vb5 33 ∧ vb5 33 ≤ 2147483647 := bxb5.1 33
                      have ve3 : vb5 33 = v 33 := fpb5.1 33 rfl
                      refine m_get (k := 33) C dX12_flow_135 w6_92 (by decide) rfl ?_
                      refine m_st (st2 := [.int (iI (v 33)), .ref h0]) (congrArg (fun z => Value.int (iI z) :: [.ref h0]) (fpb5.1 33 rfl)) ?_
                      have rv6 : 0 ≤ vb5 39 ∧ vb5 39 ≤ 200 := bxb5.1 39
                      have ra2 : 0 ≤ ab5 37 (vb5 39 - 1).toNat ∧ ab5 37 (vb5 39 - 1).toNat ≤ 200 := bxb5.2 37 ((vb5 39 - 1).toNat)
                      refine m_call (mc2 := 0) (ms2 := 0) (As := [.int (iI (v 33))]) (rest := []) C (M_putCell (x := v 33) bxb5.rg (by show 1 ≤ vb5 39 ∧ vb5 39 ≤ 200; omega) (by show 0 ≤ ab5 37 (vb5 39 - 1).toNat ∧ ab5 37 (vb5 39 - 1).toNat < 200; omega)) dX12_flow_138 kV_X12_253 rfl ck_13 rfl (Nat.le_of_ble_eq_true rfl) ⟨Nat.le_of_ble_eq_true rfl, Nat.le_of_ble_eq_true rfl⟩ ⟨Nat.le_of_ble_eq_true rfl, Nat.le_of_ble_eq_true rfl⟩ (fun rh2 vh2 ah2 h2 => ?_)
                      obtain ⟨rfl, fn2, bn2, ex2⟩ := W_putCell bxb5 (by omega) (by show ab5 37 (vb5 39 - 1).toNat < 200; omega) h2
                      have fq2 := fpb5.call fn2 rfl rfl
                      have rv7 : 0 ≤ vh2 39 ∧ vh2 39 ≤ 200 := bn2.1 39
                      have ve4 : vh2 39 = vb5 39 := fn2.1 39 rfl
                      have gex2 : ah2 37 (vb5 39 - 1).toNat = ab5 37 (vb5 39 - 1).toNat + 1 := ex2
                      have jex2 : ah2 37 (vh2 39 - 1).toNat = ab5 37 (vb5 39 - 1).toNat + 1 := by rw [show vh2 39 = vb5 39 by omega]; exact ex2
                      refine m_st (st2 := []) rfl ?_
                      refine m_iload (j := 1) C dX12_flow_141 rfl ?_
                      refine m_istore_n (lv2 := [(2, .int (iI y1)), (6, .int (iI k)), (5, .int (iI y1)), (4, .int (iI z1)), (3, .int (iI h1)), (0, .ref h0), (1, .int (iI t))]) C dX12_flow_143 (by decide) rfl ?_
                      refine m_iload_n (j := 0) C dX12_flow_144 rfl ?_
                      refine m_aload_n (j := 5) C dX12_flow_145 rfl ?_
                      have rv8 : 0 ≤ vh2 25 ∧ vh2 25 ≤ 208 := bn2.1 25
                      have ve5 : vh2 25 = vb5 25 := fn2.1 25 rfl
                      refine m_get (k := 25) C dX12_flow_146 w6_84 (by decide) rfl ?_
                      refine m_st (st2 := [.int (iI (v 25)), .int (iI y1)]) (congrArg (fun z => Value.int (iI z) :: [.int (iI y1)]) (fq2.1 25 rfl)) ?_
                      refine m_icmp_ge (tgt := 161) C ⟨by omega, by omega⟩ ⟨by omega, by omega⟩ dX12_flow_149 (by decide) (fun c6 => ?_) (fun c6 => ?_)
                      · refine m_goto (tgt := 2) C dX12_flow_161 (by decide) ?_
                        refine m_iload_n (j := 0) C dX12_flow_2 rfl ?_
                        refine m_aload_n (j := 5) C dX12_flow_3 rfl ?_
                        refine m_get (k := 25) C dX12_flow_4 w6_84 (by decide) rfl ?_
                        refine m_st (st2 := [.int (iI (v 25)), .int (iI y1)]) (congrArg (fun z => Value.int (iI z) :: [.int (iI y1)]) (fq2.1 25 rfl)) ?_
                        refine m_icmp_ge (tgt := 164) C ⟨by omega, by omega⟩ ⟨by omega, by omega⟩ dX12_flow_7 (by decide) (fun _ => ?_) (fun z => absurd z (by omega))
                        refine m_iconst C dX12_flow_164 ?_
                        exact m_zret C dX12_flow_165 rfl (Or.inr rfl) (Nat.le_of_ble_eq_true rfl) (Nat.le_of_ble_eq_true rfl) ⟨1, rfl, fq2, bn2, (Or.inr ⟨rfl, by show 1 ≤ vh2 39; omega⟩)⟩
                      · refine m_aload_n (j := 5) C dX12_flow_152 rfl ?_
                        refine m_call (mc2 := 0) (ms2 := 0) (As := []) (rest := []) C (M_newLine  bn2.rg (bn2.1 39)) dX12_flow_153 kV_X12_257 rfl ck_13 rfl (Nat.le_of_ble_eq_true rfl) ⟨Nat.le_of_ble_eq_true rfl, Nat.le_of_ble_eq_true rfl⟩ ⟨Nat.le_of_ble_eq_true rfl, Nat.le_of_ble_eq_true rfl⟩ (fun rh3 vh3 ah3 h3 => ?_)
                        obtain ⟨f3, rfl, fn3, bn3, ex3⟩ := W_newLine bn2  h3
                        have fq3 := fq2.call fn3 rfl rfl
                        have gf3 : (f3 = 1 ∧ vh3 39 = vh2 39 + 1 ∧ ah3 37 (vh3 39 - 1).toNat = 0) ∨ f3 = 0 := ex3
                        refine m_st (st2 := [.int (iI f3)]) rfl ?_
                        refine m_if_ne (tgt := 161) C ⟨by omega, by omega⟩ dX12_flow_156 (by decide) (fun c7 => ?_) (fun c7 => ?_)
                        · refine m_goto (tgt := 2) C dX12_flow_161 (by decide) ?_
                          have rv9 : 0 ≤ vh3 39 ∧ vh3 39 ≤ 200 := bn3.1 39
                          refine m_lv (lv2 := [(2, .int (iI y1)), (0, .ref h0), (1, .int (iI t))]) [0, 5, 6] rfl ?_
                          exact ih1  y1 _ _ (by omega) bn3 fq3 (by omega) (by show 1 ≤ (vh3 39) ∧ (vh3 39) ≤ 200; omega)
                        · refine m_iconst C dX12_flow_159 ?_
                          exact m_zret C dX12_flow_160 rfl (Or.inl rfl) (Nat.le_of_ble_eq_true rfl) (Nat.le_of_ble_eq_true rfl) ⟨0, rfl, fq3, bn3, (Or.inl rfl)⟩
                  · refine m_aload_n (j := 5) C dX12_flow_107 rfl ?_
                    refine m_aload_n (j := 5) C dX12_flow_108 rfl ?_
                    refine m_geta (k := 24) C dX12_flow_109 w6_83 (by decide) rfl ?_
                    refine m_iload (j := 0) C dX12_flow_112 rfl ?_
                    refine m_ald (k := 24) C dX12_flow_114 rfl rfl (by decide) (by omega) (by show _ < ((_ : Nat) : Int); simp only [mlen]; omega) (by decide) ?_
                    have ra3 : (-2147483648) ≤ ab5 24 k.toNat ∧ ab5 24 k.toNat ≤ 2147483647 := bxb5.2 24 (k.toNat)
                    have ae1 : ab5 24 (k.toNat) = a 24 (k.toNat) := congrFun (fpb5.2 24 rfl) (k.toNat)
                    refine m_st (st2 := [.int (iI (a 24 k.toNat)), .ref h0]) (congrArg (fun z => Value.int (iI z) :: [.ref h0]) (congrFun (fpb5.2 24 rfl) (k.toNat))) ?_
                    have rv10 : 0 ≤ vb5 39 ∧ vb5 39 ≤ 200 := bxb5.1 39
                    have ra4 : 0 ≤ ab5 37 (vb5 39 - 1).toNat ∧ ab5 37 (vb5 39 - 1).toNat ≤ 200 := bxb5.2 37 ((vb5 39 - 1).toNat)
                    refine m_call (mc2 := 0) (ms2 := 0) (As := [.int (iI (a 24 k.toNat))]) (rest := []) C (M_putCell (x := a 24 k.toNat) bxb5.rg (by show 1 ≤ vb5 39 ∧ vb5 39 ≤ 200; omega) (by show 0 ≤ ab5 37 (vb5 39 - 1).toNat ∧ ab5 37 (vb5 39 - 1).toNat < 200; omega)) dX12_flow_115 kV_X12_253 rfl ck_13 rfl (Nat.le_of_ble_eq_true rfl) ⟨Nat.le_of_ble_eq_true rfl, Nat.le_of_ble_eq_true rfl⟩ ⟨Nat.le_of_ble_eq_true rfl, Nat.le_of_ble_eq_true rfl⟩ (fun rh4 vh4 ah4 h4 => ?_)
                    obtain ⟨rfl, fn4, bn4, ex4⟩ := W_putCell bxb5 (by omega) (by show ab5 37 (vb5 39 - 1).toNat < 200; omega) h4
                    have fq4 := fpb5.call fn4 rfl rfl
                    have rv11 : 0 ≤ vh4 39 ∧ vh4 39 ≤ 200 := bn4.1 39
                    have ve6 : vh4 39 = vb5 39 := fn4.1 39 rfl
                    have gex4 : ah4 37 (vb5 39 - 1).toNat = ab5 37 (vb5 39 - 1).toNat + 1 := ex4
                    have jex4 : ah4 37 (vh4 39 - 1).toNat = ab5 37 (vb5 39 - 1).toNat + 1 := by rw [show vh4 39 = vb5 39 by omega]; exact ex4
                    refine m_st (st2 := []) rfl ?_
                    refine m_iinc (z := k) (j := 0) (lv2 := [(6, .int (iI (k + 1))), (5, .int (iI y1)), (4, .int (iI z1)), (3, .int (iI h1)), (2, .int (iI x)), (0, .ref h0), (1, .int (iI t))]) C dX12_flow_118 rfl (by decide) rfl ?_
                    refine m_goto (tgt := 100) C dX12_flow_121 (by decide) ?_
                    have ra5 : 0 ≤ ah4 37 ((vh4 39) - 1).toNat ∧ ah4 37 ((vh4 39) - 1).toNat ≤ 200 := bn4.2 37 (((vh4 39) - 1).toNat)
                    refine m_lv (lv2 := [(6, .int (iI (k + 1))), (5, .int (iI y1)), (4, .int (iI z1)), (3, .int (iI h1)), (2, .int (iI x)), (0, .ref h0), (1, .int (iI t))]) [0, 1, 2, 3, 4, 5, 6] rfl ?_
                    exact ih2  (k + 1) _ _ (by omega) bn4 fq4 (by omega) (by show (vh4 39) = vb1 39; omega) (by show ((ah4 37 ((vh4 39) - 1).toNat) + (y1 - (k + 1)) ≤ 199 ∨ ((ah4 37 ((vh4 39) - 1).toNat) + (y1 - (k + 1)) ≤ 200 ∧ y1 = v 25)) ∧ (k + 1) ≤ y1; omega)
              refine m_iload_n (j := 2) C dX12_flow_88 rfl ?_
              refine m_if_le (tgt := 97) C ⟨by omega, by omega⟩ dX12_flow_89 (by decide) (fun c8 => ?_) (fun c8 => ?_)
              · refine m_iload_n (j := 3) C dX12_flow_97 rfl ?_
                refine m_istore (lv2 := [(6, .int (iI x)), (5, .int (iI y1)), (4, .int (iI z1)), (3, .int (iI h1)), (2, .int (iI x)), (0, .ref h0), (1, .int (iI t))]) C dX12_flow_98 (by decide) rfl ?_
                have rv12 : 0 ≤ vb4 39 ∧ vb4 39 ≤ 200 := bxb4.1 39
                have ra6 : 0 ≤ ab4 37 ((vb4 39) - 1).toNat ∧ ab4 37 ((vb4 39) - 1).toNat ≤ 200 := bxb4.2 37 (((vb4 39) - 1).toNat)
                refine m_lv (lv2 := [(6, .int (iI x)), (5, .int (iI y1)), (4, .int (iI z1)), (3, .int (iI h1)), (2, .int (iI x)), (0, .ref h0), (1, .int (iI t))]) [0, 1, 2, 3, 4, 5, 6] rfl ?_
                exact Lp2 211 x _ _ (by omega) bxb4 fpb4 (by omega) (by show (vb4 39) = vb1 39; omega) (by show ((ab4 37 ((vb4 39) - 1).toNat) + (y1 - x) ≤ 199 ∨ ((ab4 37 ((vb4 39) - 1).toNat) + (y1 - x) ≤ 200 ∧ y1 = v 25)) ∧ x ≤ y1; omega)
              · refine m_aload_n (j := 4) C dX12_flow_92 rfl ?_
                refine m_iconst C dX12_flow_93 ?_
                have rv13 : 0 ≤ vb4 39 ∧ vb4 39 ≤ 200 := bxb4.1 39
                have ra7 : 0 ≤ ab4 37 (vb4 39 - 1).toNat ∧ ab4 37 (vb4 39 - 1).toNat ≤ 200 := bxb4.2 37 ((vb4 39 - 1).toNat)
                refine m_call (mc2 := 0) (ms2 := 0) (As := [.int (iI 0)]) (rest := []) C (M_putCell (x := 0) bxb4.rg (by show 1 ≤ vb4 39 ∧ vb4 39 ≤ 200; omega) (by show 0 ≤ ab4 37 (vb4 39 - 1).toNat ∧ ab4 37 (vb4 39 - 1).toNat < 200; omega)) dX12_flow_94 kV_X12_253 rfl ck_13 rfl (Nat.le_of_ble_eq_true rfl) ⟨Nat.le_of_ble_eq_true rfl, Nat.le_of_ble_eq_true rfl⟩ ⟨Nat.le_of_ble_eq_true rfl, Nat.le_of_ble_eq_true rfl⟩ (fun rh5 vh5 ah5 h5 => ?_)
                obtain ⟨rfl, fn5, bn5, ex5⟩ := W_putCell bxb4 (by omega) (by show ab4 37 (vb4 39 - 1).toNat < 200; omega) h5
                have fq5 := fpb4.call fn5 rfl rfl
                have rv14 : 0 ≤ vh5 39 ∧ vh5 39 ≤ 200 := bn5.1 39
                have ve7 : vh5 39 = vb4 39 := fn5.1 39 rfl
                have gex5 : ah5 37 (vb4 39 - 1).toNat = ab4 37 (vb4 39 - 1).toNat + 1 := ex5
                have jex5 : ah5 37 (vh5 39 - 1).toNat = ab4 37 (vb4 39 - 1).toNat + 1 := by rw [show vh5 39 = vb4 39 by omega]; exact ex5
                refine m_st (st2 := []) rfl ?_
                refine m_iload_n (j := 3) C dX12_flow_97 rfl ?_
                refine m_istore (lv2 := [(6, .int (iI x)), (5, .int (iI y1)), (4, .int (iI z1)), (3, .int (iI h1)), (2, .int (iI x)), (0, .ref h0), (1, .int (iI t))]) C dX12_flow_98 (by decide) rfl ?_
                have ra8 : 0 ≤ ah5 37 ((vh5 39) - 1).toNat ∧ ah5 37 ((vh5 39) - 1).toNat ≤ 200 := bn5.2 37 (((vh5 39) - 1).toNat)
                refine m_lv (lv2 := [(6, .int (iI x)), (5, .int (iI y1)), (4, .int (iI z1)), (3, .int (iI h1)), (2, .int (iI x)), (0, .ref h0), (1, .int (iI t))]) [0, 1, 2, 3, 4, 5, 6] rfl ?_
                exact Lp2 211 x _ _ (by omega) bn5 fq5 (by omega) (by show (vh5 39) = vb1 39; omega) (by show ((ah5 37 ((vh5 39) - 1).toNat) + (y1 - x) ≤ 199 ∨ ((ah5 37 ((vh5 39) - 1).toNat) + (y1 - x) ≤ 200 ∧ y1 = v 25)) ∧ x ≤ y1; omega)
            refine m_iload (j := 0) C dX12_flow_68 rfl ?_
            refine m_if_ge (tgt := 83) C ⟨by omega, by omega⟩ dX12_flow_70 (by decide) (fun c9 => ?_) (fun c9 => ?_)
            · refine m_iload (j := 0) C dX12_flow_83 rfl ?_
              refine m_if_lt (tgt := 144) C ⟨by omega, by omega⟩ dX12_flow_85 (by decide) (fun c10 => ?_) (fun c10 => ?_)
              · refine m_iload_n (j := 3) C dX12_flow_144 rfl ?_
                refine m_aload_n (j := 4) C dX12_flow_145 rfl ?_
                have rv15 : 0 ≤ vb3 25 ∧ vb3 25 ≤ 208 := bxb3.1 25
                have ve8 : vb3 25 = v 25 := fpb3.1 25 rfl
                refine m_get (k := 25) C dX12_flow_146 w6_84 (by decide) rfl ?_
                refine m_st (st2 := [.int (iI (v 25)), .int (iI x)]) (congrArg (fun z => Value.int (iI z) :: [.int (iI x)]) (fpb3.1 25 rfl)) ?_
                refine m_icmp_ge (tgt := 161) C ⟨by omega, by omega⟩ ⟨by omega, by omega⟩ dX12_flow_149 (by decide) (fun c11 => ?_) (fun c11 => ?_)
                · refine m_goto (tgt := 2) C dX12_flow_161 (by decide) ?_
                  refine m_iload_n (j := 3) C dX12_flow_2 rfl ?_
                  refine m_aload_n (j := 4) C dX12_flow_3 rfl ?_
                  refine m_get (k := 25) C dX12_flow_4 w6_84 (by decide) rfl ?_
                  refine m_st (st2 := [.int (iI (v 25)), .int (iI x)]) (congrArg (fun z => Value.int (iI z) :: [.int (iI x)]) (fpb3.1 25 rfl)) ?_
                  refine m_icmp_ge (tgt := 164) C ⟨by omega, by omega⟩ ⟨by omega, by omega⟩ dX12_flow_7 (by decide) (fun _ => ?_) (fun z => absurd z (by omega))
                  refine m_iconst C dX12_flow_164 ?_
                  exact m_zret C dX12_flow_165 rfl (Or.inr rfl) (Nat.le_of_ble_eq_true rfl) (Nat.le_of_ble_eq_true rfl) ⟨1, rfl, fpb3, bxb3, (Or.inr ⟨rfl, by show 1 ≤ vb3 39; omega⟩)⟩
                · refine m_aload_n (j := 4) C dX12_flow_152 rfl ?_
                  refine m_call (mc2 := 0) (ms2 := 0) (As := []) (rest := []) C (M_newLine  bxb3.rg (bxb3.1 39)) dX12_flow_153 kV_X12_257 rfl ck_13 rfl (Nat.le_of_ble_eq_true rfl) ⟨Nat.le_of_ble_eq_true rfl, Nat.le_of_ble_eq_true rfl⟩ ⟨Nat.le_of_ble_eq_true rfl, Nat.le_of_ble_eq_true rfl⟩ (fun rh6 vh6 ah6 h6 => ?_)
                  obtain ⟨f6, rfl, fn6, bn6, ex6⟩ := W_newLine bxb3  h6
                  have fq6 := fpb3.call fn6 rfl rfl
                  have gf6 : (f6 = 1 ∧ vh6 39 = vb3 39 + 1 ∧ ah6 37 (vh6 39 - 1).toNat = 0) ∨ f6 = 0 := ex6
                  refine m_st (st2 := [.int (iI f6)]) rfl ?_
                  refine m_if_ne (tgt := 161) C ⟨by omega, by omega⟩ dX12_flow_156 (by decide) (fun c12 => ?_) (fun c12 => ?_)
                  · refine m_goto (tgt := 2) C dX12_flow_161 (by decide) ?_
                    have rv16 : 0 ≤ vh6 39 ∧ vh6 39 ≤ 200 := bn6.1 39
                    refine m_lv (lv2 := [(2, .int (iI x)), (0, .ref h0), (1, .int (iI t))]) [3, 4, 5] rfl ?_
                    exact ih1  x _ _ (by omega) bn6 fq6 (by omega) (by show 1 ≤ (vh6 39) ∧ (vh6 39) ≤ 200; omega)
                  · refine m_iconst C dX12_flow_159 ?_
                    exact m_zret C dX12_flow_160 rfl (Or.inl rfl) (Nat.le_of_ble_eq_true rfl) (Nat.le_of_ble_eq_true rfl) ⟨0, rfl, fq6, bn6, (Or.inl rfl)⟩
              · have Lp3 : ∀ (nn : Nat) (k : Int) (vb6 : Nat → Int) (ab6 : Nat → Nat → Int), 210 - k < (nn : Int) → BX vb6 ab6 → fr [39] [37, 38] v a vb6 ab6 → (x ≤ k ∧ k ≤ 208) → (vb6 39 = vb1 39) → ((ab6 37 (vb6 39 - 1).toNat + (y1 - k) ≤ 199 ∨ (ab6 37 (vb6 39 - 1).toNat + (y1 - k) ≤ 200 ∧ y1 = v 25)) ∧ k ≤ y1) → mw p l e (rmq 2 0 0) s m args below meth c G A 7 (MQ below (Qm G A (fun rq Lq Eq => ∃ (vq : Nat → Int) (aq : Nat → Nat → Int), mI G h0 ad ln vq aq Lq Eq ∧ (fun r v2 a2 => ∃ f : Int, r = some (.int (iI f)) ∧ fr [39] [37, 38] v a v2 a2 ∧ BX v2 a2 ∧ (f = 0 ∨ (f = 1 ∧ 1 ≤ v2 39))) rq vq aq)) args s 0 0 A) h0 ad ln vb6 ab6 0 0 100 [(6, .int (iI k)), (5, .int (iI y)), (4, .int (iI z1)), (3, .int (iI h1)), (2, .int (iI x)), (0, .ref h0), (1, .int (iI t))] [] := by
                  intro nn
                  induction nn with
                  | zero =>
                    intro k vb6 ab6 hm bxb6 fpb6 hk hn4 hh4
                    exact absurd hm (by omega)
                  | succ nn ih3 =>
                    intro k vb6 ab6 hm bxb6 fpb6 hk hn4 hh4
                    refine m_iload (j := 0) C dX12_flow_100 rfl ?_
                    refine m_iload (j := 1) C dX12_flow_102 rfl ?_
                    refine m_icmp_ge (tgt := 124) C ⟨by omega, by omega⟩ ⟨by omega, by omega⟩ dX12_flow_104 (by decide) (fun c13 => ?_) (fun c13 => ?_)
                    · refine m_iload (j := 1) C dX12_flow_124 rfl ?_
                      refine m_aload_n (j := 5) C dX12_flow_126 rfl ?_
                      have rv17 : 0 ≤ vb6 25 ∧ vb6 25 ≤ 208 := bxb6.1 25
                      have ve9 : vb6 25 = v 25 := fpb6.1 25 rfl
                      refine m_get (k := 25) C dX12_flow_127 w6_84 (by decide) rfl ?_
                      refine m_st (st2 := [.int (iI (v 25)), .int (iI y)]) (congrArg (fun z => Value.int (iI z) :: [.int (iI y)]) (fpb6.1 25 rfl)) ?_
                      refine m_icmp_ge (tgt := 141) C ⟨by omega, by omega⟩ ⟨by omega, by omega⟩ dX12_flow_130 (by decide) (fun c14 => ?_) (fun c14 => ?_)
                      · refine m_iload (j := 1) C dX12_flow_141 rfl ?_
                        refine m_istore_n (lv2 := [(2, .int (iI y)), (6, .int (iI k)), (5, .int (iI y)), (4, .int (iI z1)), (3, .int (iI h1)), (0, .ref h0), (1, .int (iI t))]) C dX12_flow_143 (by decide) rfl ?_
                        refine m_iload_n (j := 0) C dX12_flow_144 rfl ?_
                        refine m_aload_n (j := 5) C dX12_flow_145 rfl ?_
                        refine m_get (k := 25) C dX12_flow_146 w6_84 (by decide) rfl ?_
                        refine m_st (st2 := [.int (iI (v 25)), .int (iI y)]) (congrArg (fun z => Value.int (iI z) :: [.int (iI y)]) (fpb6.1 25 rfl)) ?_
                        refine m_icmp_ge (tgt := 161) C ⟨by omega, by omega⟩ ⟨by omega, by omega⟩ dX12_flow_149 (by decide) (fun c15 => ?_) (fun c15 => ?_)
                        · refine m_goto (tgt := 2) C dX12_flow_161 (by decide) ?_
                          refine m_iload_n (j := 0) C dX12_flow_2 rfl ?_
                          refine m_aload_n (j := 5) C dX12_flow_3 rfl ?_
                          refine m_get (k := 25) C dX12_flow_4 w6_84 (by decide) rfl ?_
                          refine m_st (st2 := [.int (iI (v 25)), .int (iI y)]) (congrArg (fun z => Value.int (iI z) :: [.int (iI y)]) (fpb6.1 25 rfl)) ?_
                          refine m_icmp_ge (tgt := 164) C ⟨by omega, by omega⟩ ⟨by omega, by omega⟩ dX12_flow_7 (by decide) (fun _ => ?_) (fun z => absurd z (by omega))
                          refine m_iconst C dX12_flow_164 ?_
                          exact m_zret C dX12_flow_165 rfl (Or.inr rfl) (Nat.le_of_ble_eq_true rfl) (Nat.le_of_ble_eq_true rfl) ⟨1, rfl, fpb6, bxb6, (Or.inr ⟨rfl, by show 1 ≤ vb6 39; omega⟩)⟩
                        · refine m_aload_n (j := 5) C dX12_flow_152 rfl ?_
                          refine m_call (mc2 := 0) (ms2 := 0) (As := []) (rest := []) C (M_newLine  bxb6.rg (bxb6.1 39)) dX12_flow_153 kV_X12_257 rfl ck_13 rfl (Nat.le_of_ble_eq_true rfl) ⟨Nat.le_of_ble_eq_true rfl, Nat.le_of_ble_eq_true rfl⟩ ⟨Nat.le_of_ble_eq_true rfl, Nat.le_of_ble_eq_true rfl⟩ (fun rh7 vh7 ah7 h7 => ?_)
                          obtain ⟨f7, rfl, fn7, bn7, ex7⟩ := W_newLine bxb6  h7
                          have fq7 := fpb6.call fn7 rfl rfl
                          have gf7 : (f7 = 1 ∧ vh7 39 = vb6 39 + 1 ∧ ah7 37 (vh7 39 - 1).toNat = 0) ∨ f7 = 0 := ex7
                          refine m_st (st2 := [.int (iI f7)]) rfl ?_
                          refine m_if_ne (tgt := 161) C ⟨by omega, by omega⟩ dX12_flow_156 (by decide) (fun c16 => ?_) (fun c16 => ?_)
                          · refine m_goto (tgt := 2) C dX12_flow_161 (by decide) ?_
                            have rv18 : 0 ≤ vh7 39 ∧ vh7 39 ≤ 200 := bn7.1 39
                            refine m_lv (lv2 := [(2, .int (iI y)), (0, .ref h0), (1, .int (iI t))]) [0, 5, 6] rfl ?_
                            exact ih1  y _ _ (by omega) bn7 fq7 (by omega) (by show 1 ≤ (vh7 39) ∧ (vh7 39) ≤ 200; omega)
                          · refine m_iconst C dX12_flow_159 ?_
                            exact m_zret C dX12_flow_160 rfl (Or.inl rfl) (Nat.le_of_ble_eq_true rfl) (Nat.le_of_ble_eq_true rfl) ⟨0, rfl, fq7, bn7, (Or.inl rfl)⟩
                      · refine m_aload_n (j := 5) C dX12_flow_133 rfl ?_
                        refine m_aload_n (j := 5) C dX12_flow_134 rfl ?_
                        have rv19 : (-2147483648) ≤ vb6 33 ∧ vb6 33 ≤ 2147483647 := bxb6.1 33
                        have ve10 : vb6 33 = v 33 := fpb6.1 33 rfl
                        refine m_get (k := 33) C dX12_flow_135 w6_92 (by decide) rfl ?_
                        refine m_st (st2 := [.int (iI (v 33)), .ref h0]) (congrArg (fun z => Value.int (iI z) :: [.ref h0]) (fpb6.1 33 rfl)) ?_
                        have rv20 : 0 ≤ vb6 39 ∧ vb6 39 ≤ 200 := bxb6.1 39
                        have ra9 : 0 ≤ ab6 37 (vb6 39 - 1).toNat ∧ ab6 37 (vb6 39 - 1).toNat ≤ 200 := bxb6.2 37 ((vb6 39 - 1).toNat)
                        refine m_call (mc2 := 0) (ms2 := 0) (As := [.int (iI (v 33))]) (rest := []) C (M_putCell (x := v 33) bxb6.rg (by show 1 ≤ vb6 39 ∧ vb6 39 ≤ 200; omega) (by show 0 ≤ ab6 37 (vb6 39 - 1).toNat ∧ ab6 37 (vb6 39 - 1).toNat < 200; omega)) dX12_flow_138 kV_X12_253 rfl ck_13 rfl (Nat.le_of_ble_eq_true rfl) ⟨Nat.le_of_ble_eq_true rfl, Nat.le_of_ble_eq_true rfl⟩ ⟨Nat.le_of_ble_eq_true rfl, Nat.le_of_ble_eq_true rfl⟩ (fun rh8 vh8 ah8 h8 => ?_)
                        obtain ⟨rfl, fn8, bn8, ex8⟩ := W_putCell bxb6 (by omega) (by show ab6 37 (vb6 39 - 1).toNat < 200; omega) h8
                        have fq8 := fpb6.call fn8 rfl rfl
                        have rv21 : 0 ≤ vh8 39 ∧ vh8 39 ≤ 200 := bn8.1 39
                        have ve11 : vh8 39 = vb6 39 := fn8.1 39 rfl
                        have gex8 : ah8 37 (vb6 39 - 1).toNat = ab6 37 (vb6 39 - 1).toNat + 1 := ex8
                        have jex8 : ah8 37 (vh8 39 - 1).toNat = ab6 37 (vb6 39 - 1).toNat + 1 := by rw [show vh8 39 = vb6 39 by omega]; exact ex8
                        refine m_st (st2 := []) rfl ?_
                        refine m_iload (j := 1) C dX12_flow_141 rfl ?_
                        refine m_istore_n (lv2 := [(2, .int (iI y)), (6, .int (iI k)), (5, .int (iI y)), (4, .int (iI z1)), (3, .int (iI h1)), (0, .ref h0), (1, .int (iI t))]) C dX12_flow_143 (by decide) rfl ?_
                        refine m_iload_n (j := 0) C dX12_flow_144 rfl ?_
                        refine m_aload_n (j := 5) C dX12_flow_145 rfl ?_
                        have rv22 : 0 ≤ vh8 25 ∧ vh8 25 ≤ 208 := bn8.1 25
                        have ve12 : vh8 25 = vb6 25 := fn8.1 25 rfl
                        refine m_get (k := 25) C dX12_flow_146 w6_84 (by decide) rfl ?_
                        refine m_st (st2 := [.int (iI (v 25)), .int (iI y)]) (congrArg (fun z => Value.int (iI z) :: [.int (iI y)]) (fq8.1 25 rfl)) ?_
                        refine m_icmp_ge (tgt := 161) C ⟨by omega, by omega⟩ ⟨by omega, by omega⟩ dX12_flow_149 (by decide) (fun c17 => ?_) (fun c17 => ?_)
                        · refine m_goto (tgt := 2) C dX12_flow_161 (by decide) ?_
                          refine m_iload_n (j := 0) C dX12_flow_2 rfl ?_
                          refine m_aload_n (j := 5) C dX12_flow_3 rfl ?_
                          refine m_get (k := 25) C dX12_flow_4 w6_84 (by decide) rfl ?_
                          refine m_st (st2 := [.int (iI (v 25)), .int (iI y)]) (congrArg (fun z => Value.int (iI z) :: [.int (iI y)]) (fq8.1 25 rfl)) ?_
                          refine m_icmp_ge (tgt := 164) C ⟨by omega, by omega⟩ ⟨by omega, by omega⟩ dX12_flow_7 (by decide) (fun _ => ?_) (fun z => absurd z (by omega))
                          refine m_iconst C dX12_flow_164 ?_
                          exact m_zret C dX12_flow_165 rfl (Or.inr rfl) (Nat.le_of_ble_eq_true rfl) (Nat.le_of_ble_eq_true rfl) ⟨1, rfl, fq8, bn8, (Or.inr ⟨rfl, by show 1 ≤ vh8 39; omega⟩)⟩
                        · refine m_aload_n (j := 5) C dX12_flow_152 rfl ?_
                          refine m_call (mc2 := 0) (ms2 := 0) (As := []) (rest := []) C (M_newLine  bn8.rg (bn8.1 39)) dX12_flow_153 kV_X12_257 rfl ck_13 rfl (Nat.le_of_ble_eq_true rfl) ⟨Nat.le_of_ble_eq_true rfl, Nat.le_of_ble_eq_true rfl⟩ ⟨Nat.le_of_ble_eq_true rfl, Nat.le_of_ble_eq_true rfl⟩ (fun rh9 vh9 ah9 h9 => ?_)
                          obtain ⟨f9, rfl, fn9, bn9, ex9⟩ := W_newLine bn8  h9
                          have fq9 := fq8.call fn9 rfl rfl
                          have gf9 : (f9 = 1 ∧ vh9 39 = vh8 39 + 1 ∧ ah9 37 (vh9 39 - 1).toNat = 0) ∨ f9 = 0 := ex9
                          refine m_st (st2 := [.int (iI f9)]) rfl ?_
                          refine m_if_ne (tgt := 161) C ⟨by omega, by omega⟩ dX12_flow_156 (by decide) (fun c18 => ?_) (fun c18 => ?_)
                          · refine m_goto (tgt := 2) C dX12_flow_161 (by decide) ?_
                            have rv23 : 0 ≤ vh9 39 ∧ vh9 39 ≤ 200 := bn9.1 39
                            refine m_lv (lv2 := [(2, .int (iI y)), (0, .ref h0), (1, .int (iI t))]) [0, 5, 6] rfl ?_
                            exact ih1  y _ _ (by omega) bn9 fq9 (by omega) (by show 1 ≤ (vh9 39) ∧ (vh9 39) ≤ 200; omega)
                          · refine m_iconst C dX12_flow_159 ?_
                            exact m_zret C dX12_flow_160 rfl (Or.inl rfl) (Nat.le_of_ble_eq_true rfl) (Nat.le_of_ble_eq_true rfl) ⟨0, rfl, fq9, bn9, (Or.inl rfl)⟩
                    · refine m_aload_n (j := 5) C dX12_flow_107 rfl ?_
                      refine m_aload_n (j := 5) C dX12_flow_108 rfl ?_
                      refine m_geta (k := 24) C dX12_flow_109 w6_83 (by decide) rfl ?_
                      refine m_iload (j := 0) C dX12_flow_112 rfl ?_
                      refine m_ald (k := 24) C dX12_flow_114 rfl rfl (by decide) (by omega) (by show _ < ((_ : Nat) : Int); simp only [mlen]; omega) (by decide) ?_
                      have ra10 : (-2147483648) ≤ ab6 24 k.toNat ∧ ab6 24 k.toNat ≤ 2147483647 := bxb6.2 24 (k.toNat)
                      have ae2 : ab6 24 (k.toNat) = a 24 (k.toNat) := congrFun (fpb6.2 24 rfl) (k.toNat)
                      refine m_st (st2 := [.int (iI (a 24 k.toNat)), .ref h0]) (congrArg (fun z => Value.int (iI z) :: [.ref h0]) (congrFun (fpb6.2 24 rfl) (k.toNat))) ?_
                      have rv24 : 0 ≤ vb6 39 ∧ vb6 39 ≤ 200 := bxb6.1 39
                      have ra11 : 0 ≤ ab6 37 (vb6 39 - 1).toNat ∧ ab6 37 (vb6 39 - 1).toNat ≤ 200 := bxb6.2 37 ((vb6 39 - 1).toNat)
                      refine m_call (mc2 := 0) (ms2 := 0) (As := [.int (iI (a 24 k.toNat))]) (rest := []) C (M_putCell (x := a 24 k.toNat) bxb6.rg (by show 1 ≤ vb6 39 ∧ vb6 39 ≤ 200; omega) (by show 0 ≤ ab6 37 (vb6 39 - 1).toNat ∧ ab6 37 (vb6 39 - 1).toNat < 200; omega)) dX12_flow_115 kV_X12_253 rfl ck_13 rfl (Nat.le_of_ble_eq_true rfl) ⟨Nat.le_of_ble_eq_true rfl, Nat.le_of_ble_eq_true rfl⟩ ⟨Nat.le_of_ble_eq_true rfl, Nat.le_of_ble_eq_true rfl⟩ (fun rh10 vh10 ah10 h10 => ?_)
                      obtain ⟨rfl, fn10, bn10, ex10⟩ := W_putCell bxb6 (by omega) (by show ab6 37 (vb6 39 - 1).toNat < 200; omega) h10
                      have fq10 := fpb6.call fn10 rfl rfl
                      have rv25 : 0 ≤ vh10 39 ∧ vh10 39 ≤ 200 := bn10.1 39
                      have ve13 : vh10 39 = vb6 39 := fn10.1 39 rfl
                      have gex10 : ah10 37 (vb6 39 - 1).toNat = ab6 37 (vb6 39 - 1).toNat + 1 := ex10
                      have jex10 : ah10 37 (vh10 39 - 1).toNat = ab6 37 (vb6 39 - 1).toNat + 1 := by rw [show vh10 39 = vb6 39 by omega]; exact ex10
                      refine m_st (st2 := []) rfl ?_
                      refine m_iinc (z := k) (j := 0) (lv2 := [(6, .int (iI (k + 1))), (5, .int (iI y)), (4, .int (iI z1)), (3, .int (iI h1)), (2, .int (iI x)), (0, .ref h0), (1, .int (iI t))]) C dX12_flow_118 rfl (by decide) rfl ?_
                      refine m_goto (tgt := 100) C dX12_flow_121 (by decide) ?_
                      have ra12 : 0 ≤ ah10 37 ((vh10 39) - 1).toNat ∧ ah10 37 ((vh10 39) - 1).toNat ≤ 200 := bn10.2 37 (((vh10 39) - 1).toNat)
                      refine m_lv (lv2 := [(6, .int (iI (k + 1))), (5, .int (iI y)), (4, .int (iI z1)), (3, .int (iI h1)), (2, .int (iI x)), (0, .ref h0), (1, .int (iI t))]) [0, 1, 2, 3, 4, 5, 6] rfl ?_
                      exact ih3  (k + 1) _ _ (by omega) bn10 fq10 (by omega) (by show (vh10 39) = vb1 39; omega) (by show ((ah10 37 ((vh10 39) - 1).toNat) + (y1 - (k + 1)) ≤ 199 ∨ ((ah10 37 ((vh10 39) - 1).toNat) + (y1 - (k + 1)) ≤ 200 ∧ y1 = v 25)) ∧ (k + 1) ≤ y1; omega)
                have rv26 : 0 ≤ vb3 39 ∧ vb3 39 ≤ 200 := bxb3.1 39
                have ra13 : 0 ≤ ab3 37 ((vb3 39) - 1).toNat ∧ ab3 37 ((vb3 39) - 1).toNat ≤ 200 := bxb3.2 37 (((vb3 39) - 1).toNat)
                refine m_lv (lv2 := [(5, .int (iI y)), (4, .int (iI z1)), (3, .int (iI h1)), (2, .int (iI x)), (0, .ref h0), (1, .int (iI t))]) [0, 1, 2, 3, 4, 5] rfl ?_
                exact J3  y _ _  bxb3 fpb3 (by omega) (by show (vb3 39) = vb1 39; omega) (by show (ab3 37 ((vb3 39) - 1).toNat) = h1; omega)
            · refine m_iload_n (j := 2) C dX12_flow_73 rfl ?_
              refine m_if_ne (tgt := 83) C ⟨by omega, by omega⟩ dX12_flow_74 (by decide) (fun c19 => ?_) (fun c19 => ?_)
              · refine m_iload (j := 0) C dX12_flow_83 rfl ?_
                refine m_if_lt (tgt := 144) C ⟨by omega, by omega⟩ dX12_flow_85 (by decide) (fun c20 => ?_) (fun c20 => ?_)
                · refine m_iload_n (j := 3) C dX12_flow_144 rfl ?_
                  refine m_aload_n (j := 4) C dX12_flow_145 rfl ?_
                  have rv27 : 0 ≤ vb3 25 ∧ vb3 25 ≤ 208 := bxb3.1 25
                  have ve14 : vb3 25 = v 25 := fpb3.1 25 rfl
                  refine m_get (k := 25) C dX12_flow_146 w6_84 (by decide) rfl ?_
                  refine m_st (st2 := [.int (iI (v 25)), .int (iI x)]) (congrArg (fun z => Value.int (iI z) :: [.int (iI x)]) (fpb3.1 25 rfl)) ?_
                  refine m_icmp_ge (tgt := 161) C ⟨by omega, by omega⟩ ⟨by omega, by omega⟩ dX12_flow_149 (by decide) (fun c21 => ?_) (fun c21 => ?_)
                  · refine m_goto (tgt := 2) C dX12_flow_161 (by decide) ?_
                    refine m_iload_n (j := 3) C dX12_flow_2 rfl ?_
                    refine m_aload_n (j := 4) C dX12_flow_3 rfl ?_
                    refine m_get (k := 25) C dX12_flow_4 w6_84 (by decide) rfl ?_
                    refine m_st (st2 := [.int (iI (v 25)), .int (iI x)]) (congrArg (fun z => Value.int (iI z) :: [.int (iI x)]) (fpb3.1 25 rfl)) ?_
                    refine m_icmp_ge (tgt := 164) C ⟨by omega, by omega⟩ ⟨by omega, by omega⟩ dX12_flow_7 (by decide) (fun _ => ?_) (fun z => absurd z (by omega))
                    refine m_iconst C dX12_flow_164 ?_
                    exact m_zret C dX12_flow_165 rfl (Or.inr rfl) (Nat.le_of_ble_eq_true rfl) (Nat.le_of_ble_eq_true rfl) ⟨1, rfl, fpb3, bxb3, (Or.inr ⟨rfl, by show 1 ≤ vb3 39; omega⟩)⟩
                  · refine m_aload_n (j := 4) C dX12_flow_152 rfl ?_
                    refine m_call (mc2 := 0) (ms2 := 0) (As := []) (rest := []) C (M_newLine  bxb3.rg (bxb3.1 39)) dX12_flow_153 kV_X12_257 rfl ck_13 rfl (Nat.le_of_ble_eq_true rfl) ⟨Nat.le_of_ble_eq_true rfl, Nat.le_of_ble_eq_true rfl⟩ ⟨Nat.le_of_ble_eq_true rfl, Nat.le_of_ble_eq_true rfl⟩ (fun rh11 vh11 ah11 h11 => ?_)
                    obtain ⟨f11, rfl, fn11, bn11, ex11⟩ := W_newLine bxb3  h11
                    have fq11 := fpb3.call fn11 rfl rfl
                    have gf11 : (f11 = 1 ∧ vh11 39 = vb3 39 + 1 ∧ ah11 37 (vh11 39 - 1).toNat = 0) ∨ f11 = 0 := ex11
                    refine m_st (st2 := [.int (iI f11)]) rfl ?_
                    refine m_if_ne (tgt := 161) C ⟨by omega, by omega⟩ dX12_flow_156 (by decide) (fun c22 => ?_) (fun c22 => ?_)
                    · refine m_goto (tgt := 2) C dX12_flow_161 (by decide) ?_
                      have rv28 : 0 ≤ vh11 39 ∧ vh11 39 ≤ 200 := bn11.1 39
                      refine m_lv (lv2 := [(2, .int (iI x)), (0, .ref h0), (1, .int (iI t))]) [3, 4, 5] rfl ?_
                      exact ih1  x _ _ (by omega) bn11 fq11 (by omega) (by show 1 ≤ (vh11 39) ∧ (vh11 39) ≤ 200; omega)
                    · refine m_iconst C dX12_flow_159 ?_
                      exact m_zret C dX12_flow_160 rfl (Or.inl rfl) (Nat.le_of_ble_eq_true rfl) (Nat.le_of_ble_eq_true rfl) ⟨0, rfl, fq11, bn11, (Or.inl rfl)⟩
                · have Lp4 : ∀ (nn : Nat) (k : Int) (vb7 : Nat → Int) (ab7 : Nat → Nat → Int), 210 - k < (nn : Int) → BX vb7 ab7 → fr [39] [37, 38] v a vb7 ab7 → (x ≤ k ∧ k ≤ 208) → (vb7 39 = vb1 39) → ((ab7 37 (vb7 39 - 1).toNat + (y1 - k) ≤ 199 ∨ (ab7 37 (vb7 39 - 1).toNat + (y1 - k) ≤ 200 ∧ y1 = v 25)) ∧ k ≤ y1) → mw p l e (rmq 2 0 0) s m args below meth c G A 7 (MQ below (Qm G A (fun rq Lq Eq => ∃ (vq : Nat → Int) (aq : Nat → Nat → Int), mI G h0 ad ln vq aq Lq Eq ∧ (fun r v2 a2 => ∃ f : Int, r = some (.int (iI f)) ∧ fr [39] [37, 38] v a v2 a2 ∧ BX v2 a2 ∧ (f = 0 ∨ (f = 1 ∧ 1 ≤ v2 39))) rq vq aq)) args s 0 0 A) h0 ad ln vb7 ab7 0 0 100 [(6, .int (iI k)), (5, .int (iI y)), (4, .int (iI z1)), (3, .int (iI h1)), (2, .int (iI x)), (0, .ref h0), (1, .int (iI t))] [] := by
                    intro nn
                    induction nn with
                    | zero =>
                      intro k vb7 ab7 hm bxb7 fpb7 hk hn4 hh4
                      exact absurd hm (by omega)
                    | succ nn ih4 =>
                      intro k vb7 ab7 hm bxb7 fpb7 hk hn4 hh4
                      refine m_iload (j := 0) C dX12_flow_100 rfl ?_
                      refine m_iload (j := 1) C dX12_flow_102 rfl ?_
                      refine m_icmp_ge (tgt := 124) C ⟨by omega, by omega⟩ ⟨by omega, by omega⟩ dX12_flow_104 (by decide) (fun c23 => ?_) (fun c23 => ?_)
                      · refine m_iload (j := 1) C dX12_flow_124 rfl ?_
                        refine m_aload_n (j := 5) C dX12_flow_126 rfl ?_
                        have rv29 : 0 ≤ vb7 25 ∧ vb7 25 ≤ 208 := bxb7.1 25
                        have ve15 : vb7 25 = v 25 := fpb7.1 25 rfl
                        refine m_get (k := 25) C dX12_flow_127 w6_84 (by decide) rfl ?_
                        refine m_st (st2 := [.int (iI (v 25)), .int (iI y)]) (congrArg (fun z => Value.int (iI z) :: [.int (iI y)]) (fpb7.1 25 rfl)) ?_
                        refine m_icmp_ge (tgt := 141) C ⟨by omega, by omega⟩ ⟨by omega, by omega⟩ dX12_flow_130 (by decide) (fun c24 => ?_) (fun c24 => ?_)
                        · refine m_iload (j := 1) C dX12_flow_141 rfl ?_
                          refine m_istore_n (lv2 := [(2, .int (iI y)), (6, .int (iI k)), (5, .int (iI y)), (4, .int (iI z1)), (3, .int (iI h1)), (0, .ref h0), (1, .int (iI t))]) C dX12_flow_143 (by decide) rfl ?_
                          refine m_iload_n (j := 0) C dX12_flow_144 rfl ?_
                          refine m_aload_n (j := 5) C dX12_flow_145 rfl ?_
                          refine m_get (k := 25) C dX12_flow_146 w6_84 (by decide) rfl ?_
                          refine m_st (st2 := [.int (iI (v 25)), .int (iI y)]) (congrArg (fun z => Value.int (iI z) :: [.int (iI y)]) (fpb7.1 25 rfl)) ?_
                          refine m_icmp_ge (tgt := 161) C ⟨by omega, by omega⟩ ⟨by omega, by omega⟩ dX12_flow_149 (by decide) (fun c25 => ?_) (fun c25 => ?_)
                          · refine m_goto (tgt := 2) C dX12_flow_161 (by decide) ?_
                            refine m_iload_n (j := 0) C dX12_flow_2 rfl ?_
                            refine m_aload_n (j := 5) C dX12_flow_3 rfl ?_
                            refine m_get (k := 25) C dX12_flow_4 w6_84 (by decide) rfl ?_
                            refine m_st (st2 := [.int (iI (v 25)), .int (iI y)]) (congrArg (fun z => Value.int (iI z) :: [.int (iI y)]) (fpb7.1 25 rfl)) ?_
                            refine m_icmp_ge (tgt := 164) C ⟨by omega, by omega⟩ ⟨by omega, by omega⟩ dX12_flow_7 (by decide) (fun _ => ?_) (fun z => absurd z (by omega))
                            refine m_iconst C dX12_flow_164 ?_
                            exact m_zret C dX12_flow_165 rfl (Or.inr rfl) (Nat.le_of_ble_eq_true rfl) (Nat.le_of_ble_eq_true rfl) ⟨1, rfl, fpb7, bxb7, (Or.inr ⟨rfl, by show 1 ≤ vb7 39; omega⟩)⟩
                          · refine m_aload_n (j := 5) C dX12_flow_152 rfl ?_
                            refine m_call (mc2 := 0) (ms2 := 0) (As := []) (rest := []) C (M_newLine  bxb7.rg (bxb7.1 39)) dX12_flow_153 kV_X12_257 rfl ck_13 rfl (Nat.le_of_ble_eq_true rfl) ⟨Nat.le_of_ble_eq_true rfl, Nat.le_of_ble_eq_true rfl⟩ ⟨Nat.le_of_ble_eq_true rfl, Nat.le_of_ble_eq_true rfl⟩ (fun rh12 vh12 ah12 h12 => ?_)
                            obtain ⟨f12, rfl, fn12, bn12, ex12⟩ := W_newLine bxb7  h12
                            have fq12 := fpb7.call fn12 rfl rfl
                            have gf12 : (f12 = 1 ∧ vh12 39 = vb7 39 + 1 ∧ ah12 37 (vh12 39 - 1).toNat = 0) ∨ f12 = 0 := ex12
                            refine m_st (st2 := [.int (iI f12)]) rfl ?_
                            refine m_if_ne (tgt := 161) C ⟨by omega, by omega⟩ dX12_flow_156 (by decide) (fun c26 => ?_) (fun c26 => ?_)
                            · refine m_goto (tgt := 2) C dX12_flow_161 (by decide) ?_
                              have rv30 : 0 ≤ vh12 39 ∧ vh12 39 ≤ 200 := bn12.1 39
                              refine m_lv (lv2 := [(2, .int (iI y)), (0, .ref h0), (1, .int (iI t))]) [0, 5, 6] rfl ?_
                              exact ih1  y _ _ (by omega) bn12 fq12 (by omega) (by show 1 ≤ (vh12 39) ∧ (vh12 39) ≤ 200; omega)
                            · refine m_iconst C dX12_flow_159 ?_
                              exact m_zret C dX12_flow_160 rfl (Or.inl rfl) (Nat.le_of_ble_eq_true rfl) (Nat.le_of_ble_eq_true rfl) ⟨0, rfl, fq12, bn12, (Or.inl rfl)⟩
                        · refine m_aload_n (j := 5) C dX12_flow_133 rfl ?_
                          refine m_aload_n (j := 5) C dX12_flow_134 rfl ?_
                          have rv31 : (-2147483648) ≤ vb7 33 ∧ vb7 33 ≤ 2147483647 := bxb7.1 33
                          have ve16 : vb7 33 = v 33 := fpb7.1 33 rfl
                          refine m_get (k := 33) C dX12_flow_135 w6_92 (by decide) rfl ?_
                          refine m_st (st2 := [.int (iI (v 33)), .ref h0]) (congrArg (fun z => Value.int (iI z) :: [.ref h0]) (fpb7.1 33 rfl)) ?_
                          have rv32 : 0 ≤ vb7 39 ∧ vb7 39 ≤ 200 := bxb7.1 39
                          have ra14 : 0 ≤ ab7 37 (vb7 39 - 1).toNat ∧ ab7 37 (vb7 39 - 1).toNat ≤ 200 := bxb7.2 37 ((vb7 39 - 1).toNat)
                          refine m_call (mc2 := 0) (ms2 := 0) (As := [.int (iI (v 33))]) (rest := []) C (M_putCell (x := v 33) bxb7.rg (by show 1 ≤ vb7 39 ∧ vb7 39 ≤ 200; omega) (by show 0 ≤ ab7 37 (vb7 39 - 1).toNat ∧ ab7 37 (vb7 39 - 1).toNat < 200; omega)) dX12_flow_138 kV_X12_253 rfl ck_13 rfl (Nat.le_of_ble_eq_true rfl) ⟨Nat.le_of_ble_eq_true rfl, Nat.le_of_ble_eq_true rfl⟩ ⟨Nat.le_of_ble_eq_true rfl, Nat.le_of_ble_eq_true rfl⟩ (fun rh13 vh13 ah13 h13 => ?_)
                          obtain ⟨rfl, fn13, bn13, ex13⟩ := W_putCell bxb7 (by omega) (by show ab7 37 (vb7 39 - 1).toNat < 200; omega) h13
                          have fq13 := fpb7.call fn13 rfl rfl
                          have rv33 : 0 ≤ vh13 39 ∧ vh13 39 ≤ 200 := bn13.1 39
                          have ve17 : vh13 39 = vb7 39 := fn13.1 39 rfl
                          have gex13 : ah13 37 (vb7 39 - 1).toNat = ab7 37 (vb7 39 - 1).toNat + 1 := ex13
                          have jex13 : ah13 37 (vh13 39 - 1).toNat = ab7 37 (vb7 39 - 1).toNat + 1 := by rw [show vh13 39 = vb7 39 by omega]; exact ex13
                          refine m_st (st2 := []) rfl ?_
                          refine m_iload (j := 1) C dX12_flow_141 rfl ?_
                          refine m_istore_n (lv2 := [(2, .int (iI y)), (6, .int (iI k)), (5, .int (iI y)), (4, .int (iI z1)), (3, .int (iI h1)), (0, .ref h0), (1, .int (iI t))]) C dX12_flow_143 (by decide) rfl ?_
                          refine m_iload_n (j := 0) C dX12_flow_144 rfl ?_
                          refine m_aload_n (j := 5) C dX12_flow_145 rfl ?_
                          have rv34 : 0 ≤ vh13 25 ∧ vh13 25 ≤ 208 := bn13.1 25
                          have ve18 : vh13 25 = vb7 25 := fn13.1 25 rfl
                          refine m_get (k := 25) C dX12_flow_146 w6_84 (by decide) rfl ?_
                          refine m_st (st2 := [.int (iI (v 25)), .int (iI y)]) (congrArg (fun z => Value.int (iI z) :: [.int (iI y)]) (fq13.1 25 rfl)) ?_
                          refine m_icmp_ge (tgt := 161) C ⟨by omega, by omega⟩ ⟨by omega, by omega⟩ dX12_flow_149 (by decide) (fun c27 => ?_) (fun c27 => ?_)
                          · refine m_goto (tgt := 2) C dX12_flow_161 (by decide) ?_
                            refine m_iload_n (j := 0) C dX12_flow_2 rfl ?_
                            refine m_aload_n (j := 5) C dX12_flow_3 rfl ?_
                            refine m_get (k := 25) C dX12_flow_4 w6_84 (by decide) rfl ?_
                            refine m_st (st2 := [.int (iI (v 25)), .int (iI y)]) (congrArg (fun z => Value.int (iI z) :: [.int (iI y)]) (fq13.1 25 rfl)) ?_
                            refine m_icmp_ge (tgt := 164) C ⟨by omega, by omega⟩ ⟨by omega, by omega⟩ dX12_flow_7 (by decide) (fun _ => ?_) (fun z => absurd z (by omega))
                            refine m_iconst C dX12_flow_164 ?_
                            exact m_zret C dX12_flow_165 rfl (Or.inr rfl) (Nat.le_of_ble_eq_true rfl) (Nat.le_of_ble_eq_true rfl) ⟨1, rfl, fq13, bn13, (Or.inr ⟨rfl, by show 1 ≤ vh13 39; omega⟩)⟩
                          · refine m_aload_n (j := 5) C dX12_flow_152 rfl ?_
                            refine m_call (mc2 := 0) (ms2 := 0) (As := []) (rest := []) C (M_newLine  bn13.rg (bn13.1 39)) dX12_flow_153 kV_X12_257 rfl ck_13 rfl (Nat.le_of_ble_eq_true rfl) ⟨Nat.le_of_ble_eq_true rfl, Nat.le_of_ble_eq_true rfl⟩ ⟨Nat.le_of_ble_eq_true rfl, Nat.le_of_ble_eq_true rfl⟩ (fun rh14 vh14 ah14 h14 => ?_)
                            obtain ⟨f14, rfl, fn14, bn14, ex14⟩ := W_newLine bn13  h14
                            have fq14 := fq13.call fn14 rfl rfl
                            have gf14 : (f14 = 1 ∧ vh14 39 = vh13 39 + 1 ∧ ah14 37 (vh14 39 - 1).toNat = 0) ∨ f14 = 0 := ex14
                            refine m_st (st2 := [.int (iI f14)]) rfl ?_
                            refine m_if_ne (tgt := 161) C ⟨by omega, by omega⟩ dX12_flow_156 (by decide) (fun c28 => ?_) (fun c28 => ?_)
                            · refine m_goto (tgt := 2) C dX12_flow_161 (by decide) ?_
                              have rv35 : 0 ≤ vh14 39 ∧ vh14 39 ≤ 200 := bn14.1 39
                              refine m_lv (lv2 := [(2, .int (iI y)), (0, .ref h0), (1, .int (iI t))]) [0, 5, 6] rfl ?_
                              exact ih1  y _ _ (by omega) bn14 fq14 (by omega) (by show 1 ≤ (vh14 39) ∧ (vh14 39) ≤ 200; omega)
                            · refine m_iconst C dX12_flow_159 ?_
                              exact m_zret C dX12_flow_160 rfl (Or.inl rfl) (Nat.le_of_ble_eq_true rfl) (Nat.le_of_ble_eq_true rfl) ⟨0, rfl, fq14, bn14, (Or.inl rfl)⟩
                      · refine m_aload_n (j := 5) C dX12_flow_107 rfl ?_
                        refine m_aload_n (j := 5) C dX12_flow_108 rfl ?_
                        refine m_geta (k := 24) C dX12_flow_109 w6_83 (by decide) rfl ?_
                        refine m_iload (j := 0) C dX12_flow_112 rfl ?_
                        refine m_ald (k := 24) C dX12_flow_114 rfl rfl (by decide) (by omega) (by show _ < ((_ : Nat) : Int); simp only [mlen]; omega) (by decide) ?_
                        have ra15 : (-2147483648) ≤ ab7 24 k.toNat ∧ ab7 24 k.toNat ≤ 2147483647 := bxb7.2 24 (k.toNat)
                        have ae3 : ab7 24 (k.toNat) = a 24 (k.toNat) := congrFun (fpb7.2 24 rfl) (k.toNat)
                        refine m_st (st2 := [.int (iI (a 24 k.toNat)), .ref h0]) (congrArg (fun z => Value.int (iI z) :: [.ref h0]) (congrFun (fpb7.2 24 rfl) (k.toNat))) ?_
                        have rv36 : 0 ≤ vb7 39 ∧ vb7 39 ≤ 200 := bxb7.1 39
                        have ra16 : 0 ≤ ab7 37 (vb7 39 - 1).toNat ∧ ab7 37 (vb7 39 - 1).toNat ≤ 200 := bxb7.2 37 ((vb7 39 - 1).toNat)
                        refine m_call (mc2 := 0) (ms2 := 0) (As := [.int (iI (a 24 k.toNat))]) (rest := []) C (M_putCell (x := a 24 k.toNat) bxb7.rg (by show 1 ≤ vb7 39 ∧ vb7 39 ≤ 200; omega) (by show 0 ≤ ab7 37 (vb7 39 - 1).toNat ∧ ab7 37 (vb7 39 - 1).toNat < 200; omega)) dX12_flow_115 kV_X12_253 rfl ck_13 rfl (Nat.le_of_ble_eq_true rfl) ⟨Nat.le_of_ble_eq_true rfl, Nat.le_of_ble_eq_true rfl⟩ ⟨Nat.le_of_ble_eq_true rfl, Nat.le_of_ble_eq_true rfl⟩ (fun rh15 vh15 ah15 h15 => ?_)
                        obtain ⟨rfl, fn15, bn15, ex15⟩ := W_putCell bxb7 (by omega) (by show ab7 37 (vb7 39 - 1).toNat < 200; omega) h15
                        have fq15 := fpb7.call fn15 rfl rfl
                        have rv37 : 0 ≤ vh15 39 ∧ vh15 39 ≤ 200 := bn15.1 39
                        have ve19 : vh15 39 = vb7 39 := fn15.1 39 rfl
                        have gex15 : ah15 37 (vb7 39 - 1).toNat = ab7 37 (vb7 39 - 1).toNat + 1 := ex15
                        have jex15 : ah15 37 (vh15 39 - 1).toNat = ab7 37 (vb7 39 - 1).toNat + 1 := by rw [show vh15 39 = vb7 39 by omega]; exact ex15
                        refine m_st (st2 := []) rfl ?_
                        refine m_iinc (z := k) (j := 0) (lv2 := [(6, .int (iI (k + 1))), (5, .int (iI y)), (4, .int (iI z1)), (3, .int (iI h1)), (2, .int (iI x)), (0, .ref h0), (1, .int (iI t))]) C dX12_flow_118 rfl (by decide) rfl ?_
                        refine m_goto (tgt := 100) C dX12_flow_121 (by decide) ?_
                        have ra17 : 0 ≤ ah15 37 ((vh15 39) - 1).toNat ∧ ah15 37 ((vh15 39) - 1).toNat ≤ 200 := bn15.2 37 (((vh15 39) - 1).toNat)
                        refine m_lv (lv2 := [(6, .int (iI (k + 1))), (5, .int (iI y)), (4, .int (iI z1)), (3, .int (iI h1)), (2, .int (iI x)), (0, .ref h0), (1, .int (iI t))]) [0, 1, 2, 3, 4, 5, 6] rfl ?_
                        exact ih4  (k + 1) _ _ (by omega) bn15 fq15 (by omega) (by show (vh15 39) = vb1 39; omega) (by show ((ah15 37 ((vh15 39) - 1).toNat) + (y1 - (k + 1)) ≤ 199 ∨ ((ah15 37 ((vh15 39) - 1).toNat) + (y1 - (k + 1)) ≤ 200 ∧ y1 = v 25)) ∧ (k + 1) ≤ y1; omega)
                  have rv38 : 0 ≤ vb3 39 ∧ vb3 39 ≤ 200 := bxb3.1 39
                  have ra18 : 0 ≤ ab3 37 ((vb3 39) - 1).toNat ∧ ab3 37 ((vb3 39) - 1).toNat ≤ 200 := bxb3.2 37 (((vb3 39) - 1).toNat)
                  refine m_lv (lv2 := [(5, .int (iI y)), (4, .int (iI z1)), (3, .int (iI h1)), (2, .int (iI x)), (0, .ref h0), (1, .int (iI t))]) [0, 1, 2, 3, 4, 5] rfl ?_
                  exact J3  y _ _  bxb3 fpb3 (by omega) (by show (vb3 39) = vb1 39; omega) (by show (ab3 37 ((vb3 39) - 1).toNat) = h1; omega)
              · refine m_aload_n (j := 4) C dX12_flow_77 rfl ?_
                have rv39 : 0 ≤ vb3 25 ∧ vb3 25 ≤ 208 := bxb3.1 25
                have ve20 : vb3 25 = v 25 := fpb3.1 25 rfl
                refine m_get (k := 25) C dX12_flow_78 w6_84 (by decide) rfl ?_
                refine m_st (st2 := [.int (iI (v 25))]) (congrArg (fun z => Value.int (iI z) :: []) (fpb3.1 25 rfl)) ?_
                refine m_istore (lv2 := [(5, .int (iI (v 25))), (4, .int (iI z1)), (3, .int (iI h1)), (2, .int (iI x)), (0, .ref h0), (1, .int (iI t))]) C dX12_flow_81 (by decide) rfl ?_
                refine m_iload (j := 0) C dX12_flow_83 rfl ?_
                refine m_if_lt (tgt := 144) C ⟨by omega, by omega⟩ dX12_flow_85 (by decide) (fun c29 => ?_) (fun c29 => ?_)
                · refine m_iload_n (j := 3) C dX12_flow_144 rfl ?_
                  refine m_aload_n (j := 4) C dX12_flow_145 rfl ?_
                  refine m_get (k := 25) C dX12_flow_146 w6_84 (by decide) rfl ?_
                  refine m_st (st2 := [.int (iI (v 25)), .int (iI x)]) (congrArg (fun z => Value.int (iI z) :: [.int (iI x)]) (fpb3.1 25 rfl)) ?_
                  refine m_icmp_ge (tgt := 161) C ⟨by omega, by omega⟩ ⟨by omega, by omega⟩ dX12_flow_149 (by decide) (fun c30 => ?_) (fun c30 => ?_)
                  · refine m_goto (tgt := 2) C dX12_flow_161 (by decide) ?_
                    refine m_iload_n (j := 3) C dX12_flow_2 rfl ?_
                    refine m_aload_n (j := 4) C dX12_flow_3 rfl ?_
                    refine m_get (k := 25) C dX12_flow_4 w6_84 (by decide) rfl ?_
                    refine m_st (st2 := [.int (iI (v 25)), .int (iI x)]) (congrArg (fun z => Value.int (iI z) :: [.int (iI x)]) (fpb3.1 25 rfl)) ?_
                    refine m_icmp_ge (tgt := 164) C ⟨by omega, by omega⟩ ⟨by omega, by omega⟩ dX12_flow_7 (by decide) (fun _ => ?_) (fun z => absurd z (by omega))
                    refine m_iconst C dX12_flow_164 ?_
                    exact m_zret C dX12_flow_165 rfl (Or.inr rfl) (Nat.le_of_ble_eq_true rfl) (Nat.le_of_ble_eq_true rfl) ⟨1, rfl, fpb3, bxb3, (Or.inr ⟨rfl, by show 1 ≤ vb3 39; omega⟩)⟩
                  · refine m_aload_n (j := 4) C dX12_flow_152 rfl ?_
                    refine m_call (mc2 := 0) (ms2 := 0) (As := []) (rest := []) C (M_newLine  bxb3.rg (bxb3.1 39)) dX12_flow_153 kV_X12_257 rfl ck_13 rfl (Nat.le_of_ble_eq_true rfl) ⟨Nat.le_of_ble_eq_true rfl, Nat.le_of_ble_eq_true rfl⟩ ⟨Nat.le_of_ble_eq_true rfl, Nat.le_of_ble_eq_true rfl⟩ (fun rh16 vh16 ah16 h16 => ?_)
                    obtain ⟨f16, rfl, fn16, bn16, ex16⟩ := W_newLine bxb3  h16
                    have fq16 := fpb3.call fn16 rfl rfl
                    have gf16 : (f16 = 1 ∧ vh16 39 = vb3 39 + 1 ∧ ah16 37 (vh16 39 - 1).toNat = 0) ∨ f16 = 0 := ex16
                    refine m_st (st2 := [.int (iI f16)]) rfl ?_
                    refine m_if_ne (tgt := 161) C ⟨by omega, by omega⟩ dX12_flow_156 (by decide) (fun c31 => ?_) (fun c31 => ?_)
                    · refine m_goto (tgt := 2) C dX12_flow_161 (by decide) ?_
                      have rv40 : 0 ≤ vh16 39 ∧ vh16 39 ≤ 200 := bn16.1 39
                      refine m_lv (lv2 := [(2, .int (iI x)), (0, .ref h0), (1, .int (iI t))]) [3, 4, 5] rfl ?_
                      exact ih1  x _ _ (by omega) bn16 fq16 (by omega) (by show 1 ≤ (vh16 39) ∧ (vh16 39) ≤ 200; omega)
                    · refine m_iconst C dX12_flow_159 ?_
                      exact m_zret C dX12_flow_160 rfl (Or.inl rfl) (Nat.le_of_ble_eq_true rfl) (Nat.le_of_ble_eq_true rfl) ⟨0, rfl, fq16, bn16, (Or.inl rfl)⟩
                · have Lp5 : ∀ (nn : Nat) (k : Int) (vb8 : Nat → Int) (ab8 : Nat → Nat → Int), 210 - k < (nn : Int) → BX vb8 ab8 → fr [39] [37, 38] v a vb8 ab8 → (x ≤ k ∧ k ≤ 208) → (vb8 39 = vb1 39) → ((ab8 37 (vb8 39 - 1).toNat + (y1 - k) ≤ 199 ∨ (ab8 37 (vb8 39 - 1).toNat + (y1 - k) ≤ 200 ∧ y1 = v 25)) ∧ k ≤ y1) → mw p l e (rmq 2 0 0) s m args below meth c G A 7 (MQ below (Qm G A (fun rq Lq Eq => ∃ (vq : Nat → Int) (aq : Nat → Nat → Int), mI G h0 ad ln vq aq Lq Eq ∧ (fun r v2 a2 => ∃ f : Int, r = some (.int (iI f)) ∧ fr [39] [37, 38] v a v2 a2 ∧ BX v2 a2 ∧ (f = 0 ∨ (f = 1 ∧ 1 ≤ v2 39))) rq vq aq)) args s 0 0 A) h0 ad ln vb8 ab8 0 0 100 [(6, .int (iI k)), (5, .int (iI (v 25))), (4, .int (iI z1)), (3, .int (iI h1)), (2, .int (iI x)), (0, .ref h0), (1, .int (iI t))] [] := by
                    intro nn
                    induction nn with
                    | zero =>
                      intro k vb8 ab8 hm bxb8 fpb8 hk hn4 hh4
                      exact absurd hm (by omega)
                    | succ nn ih5 =>
                      intro k vb8 ab8 hm bxb8 fpb8 hk hn4 hh4
                      refine m_iload (j := 0) C dX12_flow_100 rfl ?_
                      refine m_iload (j := 1) C dX12_flow_102 rfl ?_
                      refine m_icmp_ge (tgt := 124) C ⟨by omega, by omega⟩ ⟨by omega, by omega⟩ dX12_flow_104 (by decide) (fun c32 => ?_) (fun c32 => ?_)
                      · refine m_iload (j := 1) C dX12_flow_124 rfl ?_
                        refine m_aload_n (j := 5) C dX12_flow_126 rfl ?_
                        have rv41 : 0 ≤ vb8 25 ∧ vb8 25 ≤ 208 := bxb8.1 25
                        have ve21 : vb8 25 = v 25 := fpb8.1 25 rfl
                        refine m_get (k := 25) C dX12_flow_127 w6_84 (by decide) rfl ?_
                        refine m_st (st2 := [.int (iI (v 25)), .int (iI (v 25))]) (congrArg (fun z => Value.int (iI z) :: [.int (iI (v 25))]) (fpb8.1 25 rfl)) ?_
                        refine m_icmp_ge (tgt := 141) C ⟨by omega, by omega⟩ ⟨by omega, by omega⟩ dX12_flow_130 (by decide) (fun c33 => ?_) (fun c33 => ?_)
                        · refine m_iload (j := 1) C dX12_flow_141 rfl ?_
                          refine m_istore_n (lv2 := [(2, .int (iI (v 25))), (6, .int (iI k)), (5, .int (iI (v 25))), (4, .int (iI z1)), (3, .int (iI h1)), (0, .ref h0), (1, .int (iI t))]) C dX12_flow_143 (by decide) rfl ?_
                          refine m_iload_n (j := 0) C dX12_flow_144 rfl ?_
                          refine m_aload_n (j := 5) C dX12_flow_145 rfl ?_
                          refine m_get (k := 25) C dX12_flow_146 w6_84 (by decide) rfl ?_
                          refine m_st (st2 := [.int (iI (v 25)), .int (iI (v 25))]) (congrArg (fun z => Value.int (iI z) :: [.int (iI (v 25))]) (fpb8.1 25 rfl)) ?_
                          refine m_icmp_ge (tgt := 161) C ⟨by omega, by omega⟩ ⟨by omega, by omega⟩ dX12_flow_149 (by decide) (fun c34 => ?_) (fun c34 => ?_)
                          · refine m_goto (tgt := 2) C dX12_flow_161 (by decide) ?_
                            refine m_iload_n (j := 0) C dX12_flow_2 rfl ?_
                            refine m_aload_n (j := 5) C dX12_flow_3 rfl ?_
                            refine m_get (k := 25) C dX12_flow_4 w6_84 (by decide) rfl ?_
                            refine m_st (st2 := [.int (iI (v 25)), .int (iI (v 25))]) (congrArg (fun z => Value.int (iI z) :: [.int (iI (v 25))]) (fpb8.1 25 rfl)) ?_
                            refine m_icmp_ge (tgt := 164) C ⟨by omega, by omega⟩ ⟨by omega, by omega⟩ dX12_flow_7 (by decide) (fun _ => ?_) (fun z => absurd z (by omega))
                            refine m_iconst C dX12_flow_164 ?_
                            exact m_zret C dX12_flow_165 rfl (Or.inr rfl) (Nat.le_of_ble_eq_true rfl) (Nat.le_of_ble_eq_true rfl) ⟨1, rfl, fpb8, bxb8, (Or.inr ⟨rfl, by show 1 ≤ vb8 39; omega⟩)⟩
                          · refine m_aload_n (j := 5) C dX12_flow_152 rfl ?_
                            refine m_call (mc2 := 0) (ms2 := 0) (As := []) (rest := []) C (M_newLine  bxb8.rg (bxb8.1 39)) dX12_flow_153 kV_X12_257 rfl ck_13 rfl (Nat.le_of_ble_eq_true rfl) ⟨Nat.le_of_ble_eq_true rfl, Nat.le_of_ble_eq_true rfl⟩ ⟨Nat.le_of_ble_eq_true rfl, Nat.le_of_ble_eq_true rfl⟩ (fun rh17 vh17 ah17 h17 => ?_)
                            obtain ⟨f17, rfl, fn17, bn17, ex17⟩ := W_newLine bxb8  h17
                            have fq17 := fpb8.call fn17 rfl rfl
                            have gf17 : (f17 = 1 ∧ vh17 39 = vb8 39 + 1 ∧ ah17 37 (vh17 39 - 1).toNat = 0) ∨ f17 = 0 := ex17
                            refine m_st (st2 := [.int (iI f17)]) rfl ?_
                            refine m_if_ne (tgt := 161) C ⟨by omega, by omega⟩ dX12_flow_156 (by decide) (fun c35 => ?_) (fun c35 => ?_)
                            · refine m_goto (tgt := 2) C dX12_flow_161 (by decide) ?_
                              have rv42 : 0 ≤ vh17 39 ∧ vh17 39 ≤ 200 := bn17.1 39
                              refine m_lv (lv2 := [(2, .int (iI (v 25))), (0, .ref h0), (1, .int (iI t))]) [0, 5, 6] rfl ?_
                              exact ih1  (v 25) _ _ (by omega) bn17 fq17 (by omega) (by show 1 ≤ (vh17 39) ∧ (vh17 39) ≤ 200; omega)
                            · refine m_iconst C dX12_flow_159 ?_
                              exact m_zret C dX12_flow_160 rfl (Or.inl rfl) (Nat.le_of_ble_eq_true rfl) (Nat.le_of_ble_eq_true rfl) ⟨0, rfl, fq17, bn17, (Or.inl rfl)⟩
                        · refine m_aload_n (j := 5) C dX12_flow_133 rfl ?_
                          refine m_aload_n (j := 5) C dX12_flow_134 rfl ?_
                          have rv43 : (-2147483648) ≤ vb8 33 ∧ vb8 33 ≤ 2147483647 := bxb8.1 33
                          have ve22 : vb8 33 = v 33 := fpb8.1 33 rfl
                          refine m_get (k := 33) C dX12_flow_135 w6_92 (by decide) rfl ?_
                          refine m_st (st2 := [.int (iI (v 33)), .ref h0]) (congrArg (fun z => Value.int (iI z) :: [.ref h0]) (fpb8.1 33 rfl)) ?_
                          have rv44 : 0 ≤ vb8 39 ∧ vb8 39 ≤ 200 := bxb8.1 39
                          have ra19 : 0 ≤ ab8 37 (vb8 39 - 1).toNat ∧ ab8 37 (vb8 39 - 1).toNat ≤ 200 := bxb8.2 37 ((vb8 39 - 1).toNat)
                          refine m_call (mc2 := 0) (ms2 := 0) (As := [.int (iI (v 33))]) (rest := []) C (M_putCell (x := v 33) bxb8.rg (by show 1 ≤ vb8 39 ∧ vb8 39 ≤ 200; omega) (by show 0 ≤ ab8 37 (vb8 39 - 1).toNat ∧ ab8 37 (vb8 39 - 1).toNat < 200; omega)) dX12_flow_138 kV_X12_253 rfl ck_13 rfl (Nat.le_of_ble_eq_true rfl) ⟨Nat.le_of_ble_eq_true rfl, Nat.le_of_ble_eq_true rfl⟩ ⟨Nat.le_of_ble_eq_true rfl, Nat.le_of_ble_eq_true rfl⟩ (fun rh18 vh18 ah18 h18 => ?_)
                          obtain ⟨rfl, fn18, bn18, ex18⟩ := W_putCell bxb8 (by omega) (by show ab8 37 (vb8 39 - 1).toNat < 200; omega) h18
                          have fq18 := fpb8.call fn18 rfl rfl
                          have rv45 : 0 ≤ vh18 39 ∧ vh18 39 ≤ 200 := bn18.1 39
                          have ve23 : vh18 39 = vb8 39 := fn18.1 39 rfl
                          have gex18 : ah18 37 (vb8 39 - 1).toNat = ab8 37 (vb8 39 - 1).toNat + 1 := ex18
                          have jex18 : ah18 37 (vh18 39 - 1).toNat = ab8 37 (vb8 39 - 1).toNat + 1 := by rw [show vh18 39 = vb8 39 by omega]; exact ex18
                          refine m_st (st2 := []) rfl ?_
                          refine m_iload (j := 1) C dX12_flow_141 rfl ?_
                          refine m_istore_n (lv2 := [(2, .int (iI (v 25))), (6, .int (iI k)), (5, .int (iI (v 25))), (4, .int (iI z1)), (3, .int (iI h1)), (0, .ref h0), (1, .int (iI t))]) C dX12_flow_143 (by decide) rfl ?_
                          refine m_iload_n (j := 0) C dX12_flow_144 rfl ?_
                          refine m_aload_n (j := 5) C dX12_flow_145 rfl ?_
                          have rv46 : 0 ≤ vh18 25 ∧ vh18 25 ≤ 208 := bn18.1 25
                          have ve24 : vh18 25 = vb8 25 := fn18.1 25 rfl
                          refine m_get (k := 25) C dX12_flow_146 w6_84 (by decide) rfl ?_
                          refine m_st (st2 := [.int (iI (v 25)), .int (iI (v 25))]) (congrArg (fun z => Value.int (iI z) :: [.int (iI (v 25))]) (fq18.1 25 rfl)) ?_
                          refine m_icmp_ge (tgt := 161) C ⟨by omega, by omega⟩ ⟨by omega, by omega⟩ dX12_flow_149 (by decide) (fun c36 => ?_) (fun c36 => ?_)
                          · refine m_goto (tgt := 2) C dX12_flow_161 (by decide) ?_
                            refine m_iload_n (j := 0) C dX12_flow_2 rfl ?_
                            refine m_aload_n (j := 5) C dX12_flow_3 rfl ?_
                            refine m_get (k := 25) C dX12_flow_4 w6_84 (by decide) rfl ?_
                            refine m_st (st2 := [.int (iI (v 25)), .int (iI (v 25))]) (congrArg (fun z => Value.int (iI z) :: [.int (iI (v 25))]) (fq18.1 25 rfl)) ?_
                            refine m_icmp_ge (tgt := 164) C ⟨by omega, by omega⟩ ⟨by omega, by omega⟩ dX12_flow_7 (by decide) (fun _ => ?_) (fun z => absurd z (by omega))
                            refine m_iconst C dX12_flow_164 ?_
                            exact m_zret C dX12_flow_165 rfl (Or.inr rfl) (Nat.le_of_ble_eq_true rfl) (Nat.le_of_ble_eq_true rfl) ⟨1, rfl, fq18, bn18, (Or.inr ⟨rfl, by show 1 ≤ vh18 39; omega⟩)⟩
                          · refine m_aload_n (j := 5) C dX12_flow_152 rfl ?_
                            refine m_call (mc2 := 0) (ms2 := 0) (As := []) (rest := []) C (M_newLine  bn18.rg (bn18.1 39)) dX12_flow_153 kV_X12_257 rfl ck_13 rfl (Nat.le_of_ble_eq_true rfl) ⟨Nat.le_of_ble_eq_true rfl, Nat.le_of_ble_eq_true rfl⟩ ⟨Nat.le_of_ble_eq_true rfl, Nat.le_of_ble_eq_true rfl⟩ (fun rh19 vh19 ah19 h19 => ?_)
                            obtain ⟨f19, rfl, fn19, bn19, ex19⟩ := W_newLine bn18  h19
                            have fq19 := fq18.call fn19 rfl rfl
                            have gf19 : (f19 = 1 ∧ vh19 39 = vh18 39 + 1 ∧ ah19 37 (vh19 39 - 1).toNat = 0) ∨ f19 = 0 := ex19
                            refine m_st (st2 := [.int (iI f19)]) rfl ?_
                            refine m_if_ne (tgt := 161) C ⟨by omega, by omega⟩ dX12_flow_156 (by decide) (fun c37 => ?_) (fun c37 => ?_)
                            · refine m_goto (tgt := 2) C dX12_flow_161 (by decide) ?_
                              have rv47 : 0 ≤ vh19 39 ∧ vh19 39 ≤ 200 := bn19.1 39
                              refine m_lv (lv2 := [(2, .int (iI (v 25))), (0, .ref h0), (1, .int (iI t))]) [0, 5, 6] rfl ?_
                              exact ih1  (v 25) _ _ (by omega) bn19 fq19 (by omega) (by show 1 ≤ (vh19 39) ∧ (vh19 39) ≤ 200; omega)
                            · refine m_iconst C dX12_flow_159 ?_
                              exact m_zret C dX12_flow_160 rfl (Or.inl rfl) (Nat.le_of_ble_eq_true rfl) (Nat.le_of_ble_eq_true rfl) ⟨0, rfl, fq19, bn19, (Or.inl rfl)⟩
                      · refine m_aload_n (j := 5) C dX12_flow_107 rfl ?_
                        refine m_aload_n (j := 5) C dX12_flow_108 rfl ?_
                        refine m_geta (k := 24) C dX12_flow_109 w6_83 (by decide) rfl ?_
                        refine m_iload (j := 0) C dX12_flow_112 rfl ?_
                        refine m_ald (k := 24) C dX12_flow_114 rfl rfl (by decide) (by omega) (by show _ < ((_ : Nat) : Int); simp only [mlen]; omega) (by decide) ?_
                        have ra20 : (-2147483648) ≤ ab8 24 k.toNat ∧ ab8 24 k.toNat ≤ 2147483647 := bxb8.2 24 (k.toNat)
                        have ae4 : ab8 24 (k.toNat) = a 24 (k.toNat) := congrFun (fpb8.2 24 rfl) (k.toNat)
                        refine m_st (st2 := [.int (iI (a 24 k.toNat)), .ref h0]) (congrArg (fun z => Value.int (iI z) :: [.ref h0]) (congrFun (fpb8.2 24 rfl) (k.toNat))) ?_
                        have rv48 : 0 ≤ vb8 39 ∧ vb8 39 ≤ 200 := bxb8.1 39
                        have ra21 : 0 ≤ ab8 37 (vb8 39 - 1).toNat ∧ ab8 37 (vb8 39 - 1).toNat ≤ 200 := bxb8.2 37 ((vb8 39 - 1).toNat)
                        refine m_call (mc2 := 0) (ms2 := 0) (As := [.int (iI (a 24 k.toNat))]) (rest := []) C (M_putCell (x := a 24 k.toNat) bxb8.rg (by show 1 ≤ vb8 39 ∧ vb8 39 ≤ 200; omega) (by show 0 ≤ ab8 37 (vb8 39 - 1).toNat ∧ ab8 37 (vb8 39 - 1).toNat < 200; omega)) dX12_flow_115 kV_X12_253 rfl ck_13 rfl (Nat.le_of_ble_eq_true rfl) ⟨Nat.le_of_ble_eq_true rfl, Nat.le_of_ble_eq_true rfl⟩ ⟨Nat.le_of_ble_eq_true rfl, Nat.le_of_ble_eq_true rfl⟩ (fun rh20 vh20 ah20 h20 => ?_)
                        obtain ⟨rfl, fn20, bn20, ex20⟩ := W_putCell bxb8 (by omega) (by show ab8 37 (vb8 39 - 1).toNat < 200; omega) h20
                        have fq20 := fpb8.call fn20 rfl rfl
                        have rv49 : 0 ≤ vh20 39 ∧ vh20 39 ≤ 200 := bn20.1 39
                        have ve25 : vh20 39 = vb8 39 := fn20.1 39 rfl
                        have gex20 : ah20 37 (vb8 39 - 1).toNat = ab8 37 (vb8 39 - 1).toNat + 1 := ex20
                        have jex20 : ah20 37 (vh20 39 - 1).toNat = ab8 37 (vb8 39 - 1).toNat + 1 := by rw [show vh20 39 = vb8 39 by omega]; exact ex20
                        refine m_st (st2 := []) rfl ?_
                        refine m_iinc (z := k) (j := 0) (lv2 := [(6, .int (iI (k + 1))), (5, .int (iI (v 25))), (4, .int (iI z1)), (3, .int (iI h1)), (2, .int (iI x)), (0, .ref h0), (1, .int (iI t))]) C dX12_flow_118 rfl (by decide) rfl ?_
                        refine m_goto (tgt := 100) C dX12_flow_121 (by decide) ?_
                        have ra22 : 0 ≤ ah20 37 ((vh20 39) - 1).toNat ∧ ah20 37 ((vh20 39) - 1).toNat ≤ 200 := bn20.2 37 (((vh20 39) - 1).toNat)
                        refine m_lv (lv2 := [(6, .int (iI (k + 1))), (5, .int (iI (v 25))), (4, .int (iI z1)), (3, .int (iI h1)), (2, .int (iI x)), (0, .ref h0), (1, .int (iI t))]) [0, 1, 2, 3, 4, 5, 6] rfl ?_
                        exact ih5  (k + 1) _ _ (by omega) bn20 fq20 (by omega) (by show (vh20 39) = vb1 39; omega) (by show ((ah20 37 ((vh20 39) - 1).toNat) + (y1 - (k + 1)) ≤ 199 ∨ ((ah20 37 ((vh20 39) - 1).toNat) + (y1 - (k + 1)) ≤ 200 ∧ y1 = v 25)) ∧ (k + 1) ≤ y1; omega)
                  have rv50 : 0 ≤ vb3 39 ∧ vb3 39 ≤ 200 := bxb3.1 39
                  have ra23 : 0 ≤ ab3 37 ((vb3 39) - 1).toNat ∧ ab3 37 ((vb3 39) - 1).toNat ≤ 200 := bxb3.2 37 (((vb3 39) - 1).toNat)
                  refine m_lv (lv2 := [(5, .int (iI (v 25))), (4, .int (iI z1)), (3, .int (iI h1)), (2, .int (iI x)), (0, .ref h0), (1, .int (iI t))]) [0, 1, 2, 3, 4, 5] rfl ?_
                  exact J3  (v 25) _ _  bxb3 fpb3 (by omega) (by show (vb3 39) = vb1 39; omega) (by show (ab3 37 ((vb3 39) - 1).toNat) = h1; omega)
          refine m_aload_n (j := 3) C dX12_flow_40 rfl ?_
          have rv51 : 0 ≤ vb2 25 ∧ vb2 25 ≤ 208 := bxb2.1 25
          have ve26 : vb2 25 = v 25 := fpb2.1 25 rfl
          refine m_get (k := 25) C dX12_flow_41 w6_84 (by decide) rfl ?_
          refine m_st (st2 := [.int (iI (v 25))]) (congrArg (fun z => Value.int (iI z) :: []) (fpb2.1 25 rfl)) ?_
          refine m_iload_n (j := 2) C dX12_flow_44 rfl ?_
          refine m_isub C dX12_flow_45 ?_
          refine m_iload (j := 0) C dX12_flow_46 rfl ?_
          refine m_icmp_gt (tgt := 58) C ⟨by omega, by omega⟩ ⟨by omega, by omega⟩ dX12_flow_48 (by decide) (fun c38 => ?_) (fun c38 => ?_)
          · refine m_aload_n (j := 3) C dX12_flow_58 rfl ?_
            refine m_iload_n (j := 4) C dX12_flow_59 rfl ?_
            refine m_iload_n (j := 2) C dX12_flow_60 rfl ?_
            refine m_iload (j := 0) C dX12_flow_61 rfl ?_
            refine m_call (mc2 := 0) (ms2 := 0) (As := [.int (iI t), .int (iI x), .int (iI z1)]) (rest := []) C (M_breakOf (t := t) (q := x) (z := z1) bxb2 (by omega) (by omega) (by omega)) dX12_flow_63 kV_X12_249 rfl ck_13 rfl (Nat.le_of_ble_eq_true rfl) ⟨Nat.le_of_ble_eq_true rfl, Nat.le_of_ble_eq_true rfl⟩ ⟨Nat.le_of_ble_eq_true rfl, Nat.le_of_ble_eq_true rfl⟩ (fun rh21 vh21 ah21 h21 => ?_)
            obtain ⟨f21, rfl, fn21, bn21, ex21⟩ := h21
            have fq21 := fpb2.call fn21 rfl rfl
            refine m_st (st2 := [.int (iI f21)]) rfl ?_
            refine m_istore (lv2 := [(5, .int (iI f21)), (4, .int (iI z1)), (3, .int (iI h1)), (2, .int (iI x)), (0, .ref h0), (1, .int (iI t))]) C dX12_flow_66 (by decide) rfl ?_
            have J4 : ∀ (y1 : Int) (vb9 : Nat → Int) (ab9 : Nat → Nat → Int), BX vb9 ab9 → fr [39] [37, 38] v a vb9 ab9 → ((h1 = 0 ∧ y1 = v 25) ∨ (y1 = v 25 ∧ v 25 - x ≤ z1) ∨ (x < y1 ∧ y1 ≤ 208 ∧ y1 - x + 1 ≤ z1)) → (vb9 39 = vb1 39) → (ab9 37 (vb9 39 - 1).toNat = h1) → mw p l e (rmq 2 0 0) s m args below meth c G A 7 (MQ below (Qm G A (fun rq Lq Eq => ∃ (vq : Nat → Int) (aq : Nat → Nat → Int), mI G h0 ad ln vq aq Lq Eq ∧ (fun r v2 a2 => ∃ f : Int, r = some (.int (iI f)) ∧ fr [39] [37, 38] v a v2 a2 ∧ BX v2 a2 ∧ (f = 0 ∨ (f = 1 ∧ 1 ≤ v2 39))) rq vq aq)) args s 0 0 A) h0 ad ln vb9 ab9 0 0 88 [(5, .int (iI y1)), (4, .int (iI z1)), (3, .int (iI h1)), (2, .int (iI x)), (0, .ref h0), (1, .int (iI t))] [] := by
              intro y1 vb9 ab9 bxb9 fpb9 hy1 hn3 hh3
              have Lp6 : ∀ (nn : Nat) (k : Int) (vb10 : Nat → Int) (ab10 : Nat → Nat → Int), 210 - k < (nn : Int) → BX vb10 ab10 → fr [39] [37, 38] v a vb10 ab10 → (x ≤ k ∧ k ≤ 208) → (vb10 39 = vb1 39) → ((ab10 37 (vb10 39 - 1).toNat + (y1 - k) ≤ 199 ∨ (ab10 37 (vb10 39 - 1).toNat + (y1 - k) ≤ 200 ∧ y1 = v 25)) ∧ k ≤ y1) → mw p l e (rmq 2 0 0) s m args below meth c G A 7 (MQ below (Qm G A (fun rq Lq Eq => ∃ (vq : Nat → Int) (aq : Nat → Nat → Int), mI G h0 ad ln vq aq Lq Eq ∧ (fun r v2 a2 => ∃ f : Int, r = some (.int (iI f)) ∧ fr [39] [37, 38] v a v2 a2 ∧ BX v2 a2 ∧ (f = 0 ∨ (f = 1 ∧ 1 ≤ v2 39))) rq vq aq)) args s 0 0 A) h0 ad ln vb10 ab10 0 0 100 [(6, .int (iI k)), (5, .int (iI y1)), (4, .int (iI z1)), (3, .int (iI h1)), (2, .int (iI x)), (0, .ref h0), (1, .int (iI t))] [] := by
                intro nn
                induction nn with
                | zero =>
                  intro k vb10 ab10 hm bxb10 fpb10 hk hn4 hh4
                  exact absurd hm (by omega)
                | succ nn ih6 =>
                  intro k vb10 ab10 hm bxb10 fpb10 hk hn4 hh4
                  refine m_iload (j := 0) C dX12_flow_100 rfl ?_
                  refine m_iload (j := 1) C dX12_flow_102 rfl ?_
                  refine m_icmp_ge (tgt := 124) C ⟨by omega, by omega⟩ ⟨by omega, by omega⟩ dX12_flow_104 (by decide) (fun c39 => ?_) (fun c39 => ?_)
                  · refine m_iload (j := 1) C dX12_flow_124 rfl ?_
                    refine m_aload_n (j := 5) C dX12_flow_126 rfl ?_
                    have rv52 : 0 ≤ vb10 25 ∧ vb10 25 ≤ 208 := bxb10.1 25
                    have ve27 : vb10 25 = v 25 := fpb10.1 25 rfl
                    refine m_get (k := 25) C dX12_flow_127 w6_84 (by decide) rfl ?_
                    refine m_st (st2 := [.int (iI (v 25)), .int (iI y1)]) (congrArg (fun z => Value.int (iI z) :: [.int (iI y1)]) (fpb10.1 25 rfl)) ?_
                    refine m_icmp_ge (tgt := 141) C ⟨by omega, by omega⟩ ⟨by omega, by omega⟩ dX12_flow_130 (by decide) (fun c40 => ?_) (fun c40 => ?_)
                    · refine m_iload (j := 1) C dX12_flow_141 rfl ?_
                      refine m_istore_n (lv2 := [(2, .int (iI y1)), (6, .int (iI k)), (5, .int (iI y1)), (4, .int (iI z1)), (3, .int (iI h1)), (0, .ref h0), (1, .int (iI t))]) C dX12_flow_143 (by decide) rfl ?_
                      refine m_iload_n (j := 0) C dX12_flow_144 rfl ?_
                      refine m_aload_n (j := 5) C dX12_flow_145 rfl ?_
                      refine m_get (k := 25) C dX12_flow_146 w6_84 (by decide) rfl ?_
                      refine m_st (st2 := [.int (iI (v 25)), .int (iI y1)]) (congrArg (fun z => Value.int (iI z) :: [.int (iI y1)]) (fpb10.1 25 rfl)) ?_
                      refine m_icmp_ge (tgt := 161) C ⟨by omega, by omega⟩ ⟨by omega, by omega⟩ dX12_flow_149 (by decide) (fun c41 => ?_) (fun c41 => ?_)
                      · refine m_goto (tgt := 2) C dX12_flow_161 (by decide) ?_
                        refine m_iload_n (j := 0) C dX12_flow_2 rfl ?_
                        refine m_aload_n (j := 5) C dX12_flow_3 rfl ?_
                        refine m_get (k := 25) C dX12_flow_4 w6_84 (by decide) rfl ?_
                        refine m_st (st2 := [.int (iI (v 25)), .int (iI y1)]) (congrArg (fun z => Value.int (iI z) :: [.int (iI y1)]) (fpb10.1 25 rfl)) ?_
                        refine m_icmp_ge (tgt := 164) C ⟨by omega, by omega⟩ ⟨by omega, by omega⟩ dX12_flow_7 (by decide) (fun _ => ?_) (fun z => absurd z (by omega))
                        refine m_iconst C dX12_flow_164 ?_
                        exact m_zret C dX12_flow_165 rfl (Or.inr rfl) (Nat.le_of_ble_eq_true rfl) (Nat.le_of_ble_eq_true rfl) ⟨1, rfl, fpb10, bxb10, (Or.inr ⟨rfl, by show 1 ≤ vb10 39; omega⟩)⟩
                      · refine m_aload_n (j := 5) C dX12_flow_152 rfl ?_
                        refine m_call (mc2 := 0) (ms2 := 0) (As := []) (rest := []) C (M_newLine  bxb10.rg (bxb10.1 39)) dX12_flow_153 kV_X12_257 rfl ck_13 rfl (Nat.le_of_ble_eq_true rfl) ⟨Nat.le_of_ble_eq_true rfl, Nat.le_of_ble_eq_true rfl⟩ ⟨Nat.le_of_ble_eq_true rfl, Nat.le_of_ble_eq_true rfl⟩ (fun rh22 vh22 ah22 h22 => ?_)
                        obtain ⟨f22, rfl, fn22, bn22, ex22⟩ := W_newLine bxb10  h22
                        have fq22 := fpb10.call fn22 rfl rfl
                        have gf22 : (f22 = 1 ∧ vh22 39 = vb10 39 + 1 ∧ ah22 37 (vh22 39 - 1).toNat = 0) ∨ f22 = 0 := ex22
                        refine m_st (st2 := [.int (iI f22)]) rfl ?_
                        refine m_if_ne (tgt := 161) C ⟨by omega, by omega⟩ dX12_flow_156 (by decide) (fun c42 => ?_) (fun c42 => ?_)
                        · refine m_goto (tgt := 2) C dX12_flow_161 (by decide) ?_
                          have rv53 : 0 ≤ vh22 39 ∧ vh22 39 ≤ 200 := bn22.1 39
                          refine m_lv (lv2 := [(2, .int (iI y1)), (0, .ref h0), (1, .int (iI t))]) [0, 5, 6] rfl ?_
                          exact ih1  y1 _ _ (by omega) bn22 fq22 (by omega) (by show 1 ≤ (vh22 39) ∧ (vh22 39) ≤ 200; omega)
                        · refine m_iconst C dX12_flow_159 ?_
                          exact m_zret C dX12_flow_160 rfl (Or.inl rfl) (Nat.le_of_ble_eq_true rfl) (Nat.le_of_ble_eq_true rfl) ⟨0, rfl, fq22, bn22, (Or.inl rfl)⟩
                    · refine m_aload_n (j := 5) C dX12_flow_133 rfl ?_
                      refine m_aload_n (j := 5) C dX12_flow_134 rfl ?_
                      have rv54 : (-2147483648) ≤ vb10 33 ∧ vb10 33 ≤ 2147483647 := bxb10.1 33
                      have ve28 : vb10 33 = v 33 := fpb10.1 33 rfl
                      refine m_get (k := 33) C dX12_flow_135 w6_92 (by decide) rfl ?_
                      refine m_st (st2 := [.int (iI (v 33)), .ref h0]) (congrArg (fun z => Value.int (iI z) :: [.ref h0]) (fpb10.1 33 rfl)) ?_
                      have rv55 : 0 ≤ vb10 39 ∧ vb10 39 ≤ 200 := bxb10.1 39
                      have ra24 : 0 ≤ ab10 37 (vb10 39 - 1).toNat ∧ ab10 37 (vb10 39 - 1).toNat ≤ 200 := bxb10.2 37 ((vb10 39 - 1).toNat)
                      refine m_call (mc2 := 0) (ms2 := 0) (As := [.int (iI (v 33))]) (rest := []) C (M_putCell (x := v 33) bxb10.rg (by show 1 ≤ vb10 39 ∧ vb10 39 ≤ 200; omega) (by show 0 ≤ ab10 37 (vb10 39 - 1).toNat ∧ ab10 37 (vb10 39 - 1).toNat < 200; omega)) dX12_flow_138 kV_X12_253 rfl ck_13 rfl (Nat.le_of_ble_eq_true rfl) ⟨Nat.le_of_ble_eq_true rfl, Nat.le_of_ble_eq_true rfl⟩ ⟨Nat.le_of_ble_eq_true rfl, Nat.le_of_ble_eq_true rfl⟩ (fun rh23 vh23 ah23 h23 => ?_)
                      obtain ⟨rfl, fn23, bn23, ex23⟩ := W_putCell bxb10 (by omega) (by show ab10 37 (vb10 39 - 1).toNat < 200; omega) h23
                      have fq23 := fpb10.call fn23 rfl rfl
                      have rv56 : 0 ≤ vh23 39 ∧ vh23 39 ≤ 200 := bn23.1 39
                      have ve29 : vh23 39 = vb10 39 := fn23.1 39 rfl
                      have gex23 : ah23 37 (vb10 39 - 1).toNat = ab10 37 (vb10 39 - 1).toNat + 1 := ex23
                      have jex23 : ah23 37 (vh23 39 - 1).toNat = ab10 37 (vb10 39 - 1).toNat + 1 := by rw [show vh23 39 = vb10 39 by omega]; exact ex23
                      refine m_st (st2 := []) rfl ?_
                      refine m_iload (j := 1) C dX12_flow_141 rfl ?_
                      refine m_istore_n (lv2 := [(2, .int (iI y1)), (6, .int (iI k)), (5, .int (iI y1)), (4, .int (iI z1)), (3, .int (iI h1)), (0, .ref h0), (1, .int (iI t))]) C dX12_flow_143 (by decide) rfl ?_
                      refine m_iload_n (j := 0) C dX12_flow_144 rfl ?_
                      refine m_aload_n (j := 5) C dX12_flow_145 rfl ?_
                      have rv57 : 0 ≤ vh23 25 ∧ vh23 25 ≤ 208 := bn23.1 25
                      have ve30 : vh23 25 = vb10 25 := fn23.1 25 rfl
                      refine m_get (k := 25) C dX12_flow_146 w6_84 (by decide) rfl ?_
                      refine m_st (st2 := [.int (iI (v 25)), .int (iI y1)]) (congrArg (fun z => Value.int (iI z) :: [.int (iI y1)]) (fq23.1 25 rfl)) ?_
                      refine m_icmp_ge (tgt := 161) C ⟨by omega, by omega⟩ ⟨by omega, by omega⟩ dX12_flow_149 (by decide) (fun c43 => ?_) (fun c43 => ?_)
                      · refine m_goto (tgt := 2) C dX12_flow_161 (by decide) ?_
                        refine m_iload_n (j := 0) C dX12_flow_2 rfl ?_
                        refine m_aload_n (j := 5) C dX12_flow_3 rfl ?_
                        refine m_get (k := 25) C dX12_flow_4 w6_84 (by decide) rfl ?_
                        refine m_st (st2 := [.int (iI (v 25)), .int (iI y1)]) (congrArg (fun z => Value.int (iI z) :: [.int (iI y1)]) (fq23.1 25 rfl)) ?_
                        refine m_icmp_ge (tgt := 164) C ⟨by omega, by omega⟩ ⟨by omega, by omega⟩ dX12_flow_7 (by decide) (fun _ => ?_) (fun z => absurd z (by omega))
                        refine m_iconst C dX12_flow_164 ?_
                        exact m_zret C dX12_flow_165 rfl (Or.inr rfl) (Nat.le_of_ble_eq_true rfl) (Nat.le_of_ble_eq_true rfl) ⟨1, rfl, fq23, bn23, (Or.inr ⟨rfl, by show 1 ≤ vh23 39; omega⟩)⟩
                      · refine m_aload_n (j := 5) C dX12_flow_152 rfl ?_
                        refine m_call (mc2 := 0) (ms2 := 0) (As := []) (rest := []) C (M_newLine  bn23.rg (bn23.1 39)) dX12_flow_153 kV_X12_257 rfl ck_13 rfl (Nat.le_of_ble_eq_true rfl) ⟨Nat.le_of_ble_eq_true rfl, Nat.le_of_ble_eq_true rfl⟩ ⟨Nat.le_of_ble_eq_true rfl, Nat.le_of_ble_eq_true rfl⟩ (fun rh24 vh24 ah24 h24 => ?_)
                        obtain ⟨f24, rfl, fn24, bn24, ex24⟩ := W_newLine bn23  h24
                        have fq24 := fq23.call fn24 rfl rfl
                        have gf24 : (f24 = 1 ∧ vh24 39 = vh23 39 + 1 ∧ ah24 37 (vh24 39 - 1).toNat = 0) ∨ f24 = 0 := ex24
                        refine m_st (st2 := [.int (iI f24)]) rfl ?_
                        refine m_if_ne (tgt := 161) C ⟨by omega, by omega⟩ dX12_flow_156 (by decide) (fun c44 => ?_) (fun c44 => ?_)
                        · refine m_goto (tgt := 2) C dX12_flow_161 (by decide) ?_
                          have rv58 : 0 ≤ vh24 39 ∧ vh24 39 ≤ 200 := bn24.1 39
                          refine m_lv (lv2 := [(2, .int (iI y1)), (0, .ref h0), (1, .int (iI t))]) [0, 5, 6] rfl ?_
                          exact ih1  y1 _ _ (by omega) bn24 fq24 (by omega) (by show 1 ≤ (vh24 39) ∧ (vh24 39) ≤ 200; omega)
                        · refine m_iconst C dX12_flow_159 ?_
                          exact m_zret C dX12_flow_160 rfl (Or.inl rfl) (Nat.le_of_ble_eq_true rfl) (Nat.le_of_ble_eq_true rfl) ⟨0, rfl, fq24, bn24, (Or.inl rfl)⟩
                  · refine m_aload_n (j := 5) C dX12_flow_107 rfl ?_
                    refine m_aload_n (j := 5) C dX12_flow_108 rfl ?_
                    refine m_geta (k := 24) C dX12_flow_109 w6_83 (by decide) rfl ?_
                    refine m_iload (j := 0) C dX12_flow_112 rfl ?_
                    refine m_ald (k := 24) C dX12_flow_114 rfl rfl (by decide) (by omega) (by show _ < ((_ : Nat) : Int); simp only [mlen]; omega) (by decide) ?_
                    have ra25 : (-2147483648) ≤ ab10 24 k.toNat ∧ ab10 24 k.toNat ≤ 2147483647 := bxb10.2 24 (k.toNat)
                    have ae5 : ab10 24 (k.toNat) = a 24 (k.toNat) := congrFun (fpb10.2 24 rfl) (k.toNat)
                    refine m_st (st2 := [.int (iI (a 24 k.toNat)), .ref h0]) (congrArg (fun z => Value.int (iI z) :: [.ref h0]) (congrFun (fpb10.2 24 rfl) (k.toNat))) ?_
                    have rv59 : 0 ≤ vb10 39 ∧ vb10 39 ≤ 200 := bxb10.1 39
                    have ra26 : 0 ≤ ab10 37 (vb10 39 - 1).toNat ∧ ab10 37 (vb10 39 - 1).toNat ≤ 200 := bxb10.2 37 ((vb10 39 - 1).toNat)
                    refine m_call (mc2 := 0) (ms2 := 0) (As := [.int (iI (a 24 k.toNat))]) (rest := []) C (M_putCell (x := a 24 k.toNat) bxb10.rg (by show 1 ≤ vb10 39 ∧ vb10 39 ≤ 200; omega) (by show 0 ≤ ab10 37 (vb10 39 - 1).toNat ∧ ab10 37 (vb10 39 - 1).toNat < 200; omega)) dX12_flow_115 kV_X12_253 rfl ck_13 rfl (Nat.le_of_ble_eq_true rfl) ⟨Nat.le_of_ble_eq_true rfl, Nat.le_of_ble_eq_true rfl⟩ ⟨Nat.le_of_ble_eq_true rfl, Nat.le_of_ble_eq_true rfl⟩ (fun rh25 vh25 ah25 h25 => ?_)
                    obtain ⟨rfl, fn25, bn25, ex25⟩ := W_putCell bxb10 (by omega) (by show ab10 37 (vb10 39 - 1).toNat < 200; omega) h25
                    have fq25 := fpb10.call fn25 rfl rfl
                    have rv60 : 0 ≤ vh25 39 ∧ vh25 39 ≤ 200 := bn25.1 39
                    have ve31 : vh25 39 = vb10 39 := fn25.1 39 rfl
                    have gex25 : ah25 37 (vb10 39 - 1).toNat = ab10 37 (vb10 39 - 1).toNat + 1 := ex25
                    have jex25 : ah25 37 (vh25 39 - 1).toNat = ab10 37 (vb10 39 - 1).toNat + 1 := by rw [show vh25 39 = vb10 39 by omega]; exact ex25
                    refine m_st (st2 := []) rfl ?_
                    refine m_iinc (z := k) (j := 0) (lv2 := [(6, .int (iI (k + 1))), (5, .int (iI y1)), (4, .int (iI z1)), (3, .int (iI h1)), (2, .int (iI x)), (0, .ref h0), (1, .int (iI t))]) C dX12_flow_118 rfl (by decide) rfl ?_
                    refine m_goto (tgt := 100) C dX12_flow_121 (by decide) ?_
                    have ra27 : 0 ≤ ah25 37 ((vh25 39) - 1).toNat ∧ ah25 37 ((vh25 39) - 1).toNat ≤ 200 := bn25.2 37 (((vh25 39) - 1).toNat)
                    refine m_lv (lv2 := [(6, .int (iI (k + 1))), (5, .int (iI y1)), (4, .int (iI z1)), (3, .int (iI h1)), (2, .int (iI x)), (0, .ref h0), (1, .int (iI t))]) [0, 1, 2, 3, 4, 5, 6] rfl ?_
                    exact ih6  (k + 1) _ _ (by omega) bn25 fq25 (by omega) (by show (vh25 39) = vb1 39; omega) (by show ((ah25 37 ((vh25 39) - 1).toNat) + (y1 - (k + 1)) ≤ 199 ∨ ((ah25 37 ((vh25 39) - 1).toNat) + (y1 - (k + 1)) ≤ 200 ∧ y1 = v 25)) ∧ (k + 1) ≤ y1; omega)
              refine m_iload_n (j := 2) C dX12_flow_88 rfl ?_
              refine m_if_le (tgt := 97) C ⟨by omega, by omega⟩ dX12_flow_89 (by decide) (fun c45 => ?_) (fun c45 => ?_)
              · refine m_iload_n (j := 3) C dX12_flow_97 rfl ?_
                refine m_istore (lv2 := [(6, .int (iI x)), (5, .int (iI y1)), (4, .int (iI z1)), (3, .int (iI h1)), (2, .int (iI x)), (0, .ref h0), (1, .int (iI t))]) C dX12_flow_98 (by decide) rfl ?_
                have rv61 : 0 ≤ vb9 39 ∧ vb9 39 ≤ 200 := bxb9.1 39
                have ra28 : 0 ≤ ab9 37 ((vb9 39) - 1).toNat ∧ ab9 37 ((vb9 39) - 1).toNat ≤ 200 := bxb9.2 37 (((vb9 39) - 1).toNat)
                refine m_lv (lv2 := [(6, .int (iI x)), (5, .int (iI y1)), (4, .int (iI z1)), (3, .int (iI h1)), (2, .int (iI x)), (0, .ref h0), (1, .int (iI t))]) [0, 1, 2, 3, 4, 5, 6] rfl ?_
                exact Lp6 211 x _ _ (by omega) bxb9 fpb9 (by omega) (by show (vb9 39) = vb1 39; omega) (by show ((ab9 37 ((vb9 39) - 1).toNat) + (y1 - x) ≤ 199 ∨ ((ab9 37 ((vb9 39) - 1).toNat) + (y1 - x) ≤ 200 ∧ y1 = v 25)) ∧ x ≤ y1; omega)
              · refine m_aload_n (j := 4) C dX12_flow_92 rfl ?_
                refine m_iconst C dX12_flow_93 ?_
                have rv62 : 0 ≤ vb9 39 ∧ vb9 39 ≤ 200 := bxb9.1 39
                have ra29 : 0 ≤ ab9 37 (vb9 39 - 1).toNat ∧ ab9 37 (vb9 39 - 1).toNat ≤ 200 := bxb9.2 37 ((vb9 39 - 1).toNat)
                refine m_call (mc2 := 0) (ms2 := 0) (As := [.int (iI 0)]) (rest := []) C (M_putCell (x := 0) bxb9.rg (by show 1 ≤ vb9 39 ∧ vb9 39 ≤ 200; omega) (by show 0 ≤ ab9 37 (vb9 39 - 1).toNat ∧ ab9 37 (vb9 39 - 1).toNat < 200; omega)) dX12_flow_94 kV_X12_253 rfl ck_13 rfl (Nat.le_of_ble_eq_true rfl) ⟨Nat.le_of_ble_eq_true rfl, Nat.le_of_ble_eq_true rfl⟩ ⟨Nat.le_of_ble_eq_true rfl, Nat.le_of_ble_eq_true rfl⟩ (fun rh26 vh26 ah26 h26 => ?_)
                obtain ⟨rfl, fn26, bn26, ex26⟩ := W_putCell bxb9 (by omega) (by show ab9 37 (vb9 39 - 1).toNat < 200; omega) h26
                have fq26 := fpb9.call fn26 rfl rfl
                have rv63 : 0 ≤ vh26 39 ∧ vh26 39 ≤ 200 := bn26.1 39
                have ve32 : vh26 39 = vb9 39 := fn26.1 39 rfl
                have gex26 : ah26 37 (vb9 39 - 1).toNat = ab9 37 (vb9 39 - 1).toNat + 1 := ex26
                have jex26 : ah26 37 (vh26 39 - 1).toNat = ab9 37 (vb9 39 - 1).toNat + 1 := by rw [show vh26 39 = vb9 39 by omega]; exact ex26
                refine m_st (st2 := []) rfl ?_
                refine m_iload_n (j := 3) C dX12_flow_97 rfl ?_
                refine m_istore (lv2 := [(6, .int (iI x)), (5, .int (iI y1)), (4, .int (iI z1)), (3, .int (iI h1)), (2, .int (iI x)), (0, .ref h0), (1, .int (iI t))]) C dX12_flow_98 (by decide) rfl ?_
                have ra30 : 0 ≤ ah26 37 ((vh26 39) - 1).toNat ∧ ah26 37 ((vh26 39) - 1).toNat ≤ 200 := bn26.2 37 (((vh26 39) - 1).toNat)
                refine m_lv (lv2 := [(6, .int (iI x)), (5, .int (iI y1)), (4, .int (iI z1)), (3, .int (iI h1)), (2, .int (iI x)), (0, .ref h0), (1, .int (iI t))]) [0, 1, 2, 3, 4, 5, 6] rfl ?_
                exact Lp6 211 x _ _ (by omega) bn26 fq26 (by omega) (by show (vh26 39) = vb1 39; omega) (by show ((ah26 37 ((vh26 39) - 1).toNat) + (y1 - x) ≤ 199 ∨ ((ah26 37 ((vh26 39) - 1).toNat) + (y1 - x) ≤ 200 ∧ y1 = v 25)) ∧ x ≤ y1; omega)
            have rv64 : 0 ≤ vh21 39 ∧ vh21 39 ≤ 200 := bn21.1 39
            have ve33 : vh21 39 = vb2 39 := fn21.1 39 rfl
            have ra31 : 0 ≤ ah21 37 ((vh21 39) - 1).toNat ∧ ah21 37 ((vh21 39) - 1).toNat ≤ 200 := bn21.2 37 (((vh21 39) - 1).toNat)
            have ae6 : ah21 37 (((vh21 39) - 1).toNat) = ab2 37 (((vh21 39) - 1).toNat) := congrFun (fn21.2 37 rfl) (((vh21 39) - 1).toNat)
            refine m_lv (lv2 := [(5, .int (iI f21)), (4, .int (iI z1)), (3, .int (iI h1)), (2, .int (iI x)), (0, .ref h0), (1, .int (iI t))]) [0, 1, 2, 3, 4, 5] rfl ?_
            exact J2  f21 _ _  bn21 fq21 (by omega) (by show (vh21 39) = vb1 39; omega) (by show (ah21 37 ((vh21 39) - 1).toNat) = h1; omega)
          · refine m_aload_n (j := 3) C dX12_flow_51 rfl ?_
            refine m_get (k := 25) C dX12_flow_52 w6_84 (by decide) rfl ?_
            refine m_st (st2 := [.int (iI (v 25))]) (congrArg (fun z => Value.int (iI z) :: []) (fpb2.1 25 rfl)) ?_
            refine m_goto (tgt := 66) C dX12_flow_55 (by decide) ?_
            refine m_istore (lv2 := [(5, .int (iI (v 25))), (4, .int (iI z1)), (3, .int (iI h1)), (2, .int (iI x)), (0, .ref h0), (1, .int (iI t))]) C dX12_flow_66 (by decide) rfl ?_
            have J5 : ∀ (y1 : Int) (vb11 : Nat → Int) (ab11 : Nat → Nat → Int), BX vb11 ab11 → fr [39] [37, 38] v a vb11 ab11 → ((h1 = 0 ∧ y1 = v 25) ∨ (y1 = v 25 ∧ v 25 - x ≤ z1) ∨ (x < y1 ∧ y1 ≤ 208 ∧ y1 - x + 1 ≤ z1)) → (vb11 39 = vb1 39) → (ab11 37 (vb11 39 - 1).toNat = h1) → mw p l e (rmq 2 0 0) s m args below meth c G A 7 (MQ below (Qm G A (fun rq Lq Eq => ∃ (vq : Nat → Int) (aq : Nat → Nat → Int), mI G h0 ad ln vq aq Lq Eq ∧ (fun r v2 a2 => ∃ f : Int, r = some (.int (iI f)) ∧ fr [39] [37, 38] v a v2 a2 ∧ BX v2 a2 ∧ (f = 0 ∨ (f = 1 ∧ 1 ≤ v2 39))) rq vq aq)) args s 0 0 A) h0 ad ln vb11 ab11 0 0 88 [(5, .int (iI y1)), (4, .int (iI z1)), (3, .int (iI h1)), (2, .int (iI x)), (0, .ref h0), (1, .int (iI t))] [] := by
              intro y1 vb11 ab11 bxb11 fpb11 hy1 hn3 hh3
              have Lp7 : ∀ (nn : Nat) (k : Int) (vb12 : Nat → Int) (ab12 : Nat → Nat → Int), 210 - k < (nn : Int) → BX vb12 ab12 → fr [39] [37, 38] v a vb12 ab12 → (x ≤ k ∧ k ≤ 208) → (vb12 39 = vb1 39) → ((ab12 37 (vb12 39 - 1).toNat + (y1 - k) ≤ 199 ∨ (ab12 37 (vb12 39 - 1).toNat + (y1 - k) ≤ 200 ∧ y1 = v 25)) ∧ k ≤ y1) → mw p l e (rmq 2 0 0) s m args below meth c G A 7 (MQ below (Qm G A (fun rq Lq Eq => ∃ (vq : Nat → Int) (aq : Nat → Nat → Int), mI G h0 ad ln vq aq Lq Eq ∧ (fun r v2 a2 => ∃ f : Int, r = some (.int (iI f)) ∧ fr [39] [37, 38] v a v2 a2 ∧ BX v2 a2 ∧ (f = 0 ∨ (f = 1 ∧ 1 ≤ v2 39))) rq vq aq)) args s 0 0 A) h0 ad ln vb12 ab12 0 0 100 [(6, .int (iI k)), (5, .int (iI y1)), (4, .int (iI z1)), (3, .int (iI h1)), (2, .int (iI x)), (0, .ref h0), (1, .int (iI t))] [] := by
                intro nn
                induction nn with
                | zero =>
                  intro k vb12 ab12 hm bxb12 fpb12 hk hn4 hh4
                  exact absurd hm (by omega)
                | succ nn ih7 =>
                  intro k vb12 ab12 hm bxb12 fpb12 hk hn4 hh4
                  refine m_iload (j := 0) C dX12_flow_100 rfl ?_
                  refine m_iload (j := 1) C dX12_flow_102 rfl ?_
                  refine m_icmp_ge (tgt := 124) C ⟨by omega, by omega⟩ ⟨by omega, by omega⟩ dX12_flow_104 (by decide) (fun c46 => ?_) (fun c46 => ?_)
                  · refine m_iload (j := 1) C dX12_flow_124 rfl ?_
                    refine m_aload_n (j := 5) C dX12_flow_126 rfl ?_
                    have rv65 : 0 ≤ vb12 25 ∧ vb12 25 ≤ 208 := bxb12.1 25
                    have ve34 : vb12 25 = v 25 := fpb12.1 25 rfl
                    refine m_get (k := 25) C dX12_flow_127 w6_84 (by decide) rfl ?_
                    refine m_st (st2 := [.int (iI (v 25)), .int (iI y1)]) (congrArg (fun z => Value.int (iI z) :: [.int (iI y1)]) (fpb12.1 25 rfl)) ?_
                    refine m_icmp_ge (tgt := 141) C ⟨by omega, by omega⟩ ⟨by omega, by omega⟩ dX12_flow_130 (by decide) (fun c47 => ?_) (fun c47 => ?_)
                    · refine m_iload (j := 1) C dX12_flow_141 rfl ?_
                      refine m_istore_n (lv2 := [(2, .int (iI y1)), (6, .int (iI k)), (5, .int (iI y1)), (4, .int (iI z1)), (3, .int (iI h1)), (0, .ref h0), (1, .int (iI t))]) C dX12_flow_143 (by decide) rfl ?_
                      refine m_iload_n (j := 0) C dX12_flow_144 rfl ?_
                      refine m_aload_n (j := 5) C dX12_flow_145 rfl ?_
                      refine m_get (k := 25) C dX12_flow_146 w6_84 (by decide) rfl ?_
                      refine m_st (st2 := [.int (iI (v 25)), .int (iI y1)]) (congrArg (fun z => Value.int (iI z) :: [.int (iI y1)]) (fpb12.1 25 rfl)) ?_
                      refine m_icmp_ge (tgt := 161) C ⟨by omega, by omega⟩ ⟨by omega, by omega⟩ dX12_flow_149 (by decide) (fun c48 => ?_) (fun c48 => ?_)
                      · refine m_goto (tgt := 2) C dX12_flow_161 (by decide) ?_
                        refine m_iload_n (j := 0) C dX12_flow_2 rfl ?_
                        refine m_aload_n (j := 5) C dX12_flow_3 rfl ?_
                        refine m_get (k := 25) C dX12_flow_4 w6_84 (by decide) rfl ?_
                        refine m_st (st2 := [.int (iI (v 25)), .int (iI y1)]) (congrArg (fun z => Value.int (iI z) :: [.int (iI y1)]) (fpb12.1 25 rfl)) ?_
                        refine m_icmp_ge (tgt := 164) C ⟨by omega, by omega⟩ ⟨by omega, by omega⟩ dX12_flow_7 (by decide) (fun _ => ?_) (fun z => absurd z (by omega))
                        refine m_iconst C dX12_flow_164 ?_
                        exact m_zret C dX12_flow_165 rfl (Or.inr rfl) (Nat.le_of_ble_eq_true rfl) (Nat.le_of_ble_eq_true rfl) ⟨1, rfl, fpb12, bxb12, (Or.inr ⟨rfl, by show 1 ≤ vb12 39; omega⟩)⟩
                      · refine m_aload_n (j := 5) C dX12_flow_152 rfl ?_
                        refine m_call (mc2 := 0) (ms2 := 0) (As := []) (rest := []) C (M_newLine  bxb12.rg (bxb12.1 39)) dX12_flow_153 kV_X12_257 rfl ck_13 rfl (Nat.le_of_ble_eq_true rfl) ⟨Nat.le_of_ble_eq_true rfl, Nat.le_of_ble_eq_true rfl⟩ ⟨Nat.le_of_ble_eq_true rfl, Nat.le_of_ble_eq_true rfl⟩ (fun rh27 vh27 ah27 h27 => ?_)
                        obtain ⟨f27, rfl, fn27, bn27, ex27⟩ := W_newLine bxb12  h27
                        have fq27 := fpb12.call fn27 rfl rfl
                        have gf27 : (f27 = 1 ∧ vh27 39 = vb12 39 + 1 ∧ ah27 37 (vh27 39 - 1).toNat = 0) ∨ f27 = 0 := ex27
                        refine m_st (st2 := [.int (iI f27)]) rfl ?_
                        refine m_if_ne (tgt := 161) C ⟨by omega, by omega⟩ dX12_flow_156 (by decide) (fun c49 => ?_) (fun c49 => ?_)
                        · refine m_goto (tgt := 2) C dX12_flow_161 (by decide) ?_
                          have rv66 : 0 ≤ vh27 39 ∧ vh27 39 ≤ 200 := bn27.1 39
                          refine m_lv (lv2 := [(2, .int (iI y1)), (0, .ref h0), (1, .int (iI t))]) [0, 5, 6] rfl ?_
                          exact ih1  y1 _ _ (by omega) bn27 fq27 (by omega) (by show 1 ≤ (vh27 39) ∧ (vh27 39) ≤ 200; omega)
                        · refine m_iconst C dX12_flow_159 ?_
                          exact m_zret C dX12_flow_160 rfl (Or.inl rfl) (Nat.le_of_ble_eq_true rfl) (Nat.le_of_ble_eq_true rfl) ⟨0, rfl, fq27, bn27, (Or.inl rfl)⟩
                    · refine m_aload_n (j := 5) C dX12_flow_133 rfl ?_
                      refine m_aload_n (j := 5) C dX12_flow_134 rfl ?_
                      have rv67 : (-2147483648) ≤ vb12 33 ∧ vb12 33 ≤ 2147483647 := bxb12.1 33
                      have ve35 : vb12 33 = v 33 := fpb12.1 33 rfl
                      refine m_get (k := 33) C dX12_flow_135 w6_92 (by decide) rfl ?_
                      refine m_st (st2 := [.int (iI (v 33)), .ref h0]) (congrArg (fun z => Value.int (iI z) :: [.ref h0]) (fpb12.1 33 rfl)) ?_
                      have rv68 : 0 ≤ vb12 39 ∧ vb12 39 ≤ 200 := bxb12.1 39
                      have ra32 : 0 ≤ ab12 37 (vb12 39 - 1).toNat ∧ ab12 37 (vb12 39 - 1).toNat ≤ 200 := bxb12.2 37 ((vb12 39 - 1).toNat)
                      refine m_call (mc2 := 0) (ms2 := 0) (As := [.int (iI (v 33))]) (rest := []) C (M_putCell (x := v 33) bxb12.rg (by show 1 ≤ vb12 39 ∧ vb12 39 ≤ 200; omega) (by show 0 ≤ ab12 37 (vb12 39 - 1).toNat ∧ ab12 37 (vb12 39 - 1).toNat < 200; omega)) dX12_flow_138 kV_X12_253 rfl ck_13 rfl (Nat.le_of_ble_eq_true rfl) ⟨Nat.le_of_ble_eq_true rfl, Nat.le_of_ble_eq_true rfl⟩ ⟨Nat.le_of_ble_eq_true rfl, Nat.le_of_ble_eq_true rfl⟩ (fun rh28 vh28 ah28 h28 => ?_)
                      obtain ⟨rfl, fn28, bn28, ex28⟩ := W_putCell bxb12 (by omega) (by show ab12 37 (vb12 39 - 1).toNat < 200; omega) h28
                      have fq28 := fpb12.call fn28 rfl rfl
                      have rv69 : 0 ≤ vh28 39 ∧ vh28 39 ≤ 200 := bn28.1 39
                      have ve36 : vh28 39 = vb12 39 := fn28.1 39 rfl
                      have gex28 : ah28 37 (vb12 39 - 1).toNat = ab12 37 (vb12 39 - 1).toNat + 1 := ex28
                      have jex28 : ah28 37 (vh28 39 - 1).toNat = ab12 37 (vb12 39 - 1).toNat + 1 := by rw [show vh28 39 = vb12 39 by omega]; exact ex28
                      refine m_st (st2 := []) rfl ?_
                      refine m_iload (j := 1) C dX12_flow_141 rfl ?_
                      refine m_istore_n (lv2 := [(2, .int (iI y1)), (6, .int (iI k)), (5, .int (iI y1)), (4, .int (iI z1)), (3, .int (iI h1)), (0, .ref h0), (1, .int (iI t))]) C dX12_flow_143 (by decide) rfl ?_
                      refine m_iload_n (j := 0) C dX12_flow_144 rfl ?_
                      refine m_aload_n (j := 5) C dX12_flow_145 rfl ?_
                      have rv70 : 0 ≤ vh28 25 ∧ vh28 25 ≤ 208 := bn28.1 25
                      have ve37 : vh28 25 = vb12 25 := fn28.1 25 rfl
                      refine m_get (k := 25) C dX12_flow_146 w6_84 (by decide) rfl ?_
                      refine m_st (st2 := [.int (iI (v 25)), .int (iI y1)]) (congrArg (fun z => Value.int (iI z) :: [.int (iI y1)]) (fq28.1 25 rfl)) ?_
                      refine m_icmp_ge (tgt := 161) C ⟨by omega, by omega⟩ ⟨by omega, by omega⟩ dX12_flow_149 (by decide) (fun c50 => ?_) (fun c50 => ?_)
                      · refine m_goto (tgt := 2) C dX12_flow_161 (by decide) ?_
                        refine m_iload_n (j := 0) C dX12_flow_2 rfl ?_
                        refine m_aload_n (j := 5) C dX12_flow_3 rfl ?_
                        refine m_get (k := 25) C dX12_flow_4 w6_84 (by decide) rfl ?_
                        refine m_st (st2 := [.int (iI (v 25)), .int (iI y1)]) (congrArg (fun z => Value.int (iI z) :: [.int (iI y1)]) (fq28.1 25 rfl)) ?_
                        refine m_icmp_ge (tgt := 164) C ⟨by omega, by omega⟩ ⟨by omega, by omega⟩ dX12_flow_7 (by decide) (fun _ => ?_) (fun z => absurd z (by omega))
                        refine m_iconst C dX12_flow_164 ?_
                        exact m_zret C dX12_flow_165 rfl (Or.inr rfl) (Nat.le_of_ble_eq_true rfl) (Nat.le_of_ble_eq_true rfl) ⟨1, rfl, fq28, bn28, (Or.inr ⟨rfl, by show 1 ≤ vh28 39; omega⟩)⟩
                      · refine m_aload_n (j := 5) C dX12_flow_152 rfl ?_
                        refine m_call (mc2 := 0) (ms2 := 0) (As := []) (rest := []) C (M_newLine  bn28.rg (bn28.1 39)) dX12_flow_153 kV_X12_257 rfl ck_13 rfl (Nat.le_of_ble_eq_true rfl) ⟨Nat.le_of_ble_eq_true rfl, Nat.le_of_ble_eq_true rfl⟩ ⟨Nat.le_of_ble_eq_true rfl, Nat.le_of_ble_eq_true rfl⟩ (fun rh29 vh29 ah29 h29 => ?_)
                        obtain ⟨f29, rfl, fn29, bn29, ex29⟩ := W_newLine bn28  h29
                        have fq29 := fq28.call fn29 rfl rfl
                        have gf29 : (f29 = 1 ∧ vh29 39 = vh28 39 + 1 ∧ ah29 37 (vh29 39 - 1).toNat = 0) ∨ f29 = 0 := ex29
                        refine m_st (st2 := [.int (iI f29)]) rfl ?_
                        refine m_if_ne (tgt := 161) C ⟨by omega, by omega⟩ dX12_flow_156 (by decide) (fun c51 => ?_) (fun c51 => ?_)
                        · refine m_goto (tgt := 2) C dX12_flow_161 (by decide) ?_
                          have rv71 : 0 ≤ vh29 39 ∧ vh29 39 ≤ 200 := bn29.1 39
                          refine m_lv (lv2 := [(2, .int (iI y1)), (0, .ref h0), (1, .int (iI t))]) [0, 5, 6] rfl ?_
                          exact ih1  y1 _ _ (by omega) bn29 fq29 (by omega) (by show 1 ≤ (vh29 39) ∧ (vh29 39) ≤ 200; omega)
                        · refine m_iconst C dX12_flow_159 ?_
                          exact m_zret C dX12_flow_160 rfl (Or.inl rfl) (Nat.le_of_ble_eq_true rfl) (Nat.le_of_ble_eq_true rfl) ⟨0, rfl, fq29, bn29, (Or.inl rfl)⟩
                  · refine m_aload_n (j := 5) C dX12_flow_107 rfl ?_
                    refine m_aload_n (j := 5) C dX12_flow_108 rfl ?_
                    refine m_geta (k := 24) C dX12_flow_109 w6_83 (by decide) rfl ?_
                    refine m_iload (j := 0) C dX12_flow_112 rfl ?_
                    refine m_ald (k := 24) C dX12_flow_114 rfl rfl (by decide) (by omega) (by show _ < ((_ : Nat) : Int); simp only [mlen]; omega) (by decide) ?_
                    have ra33 : (-2147483648) ≤ ab12 24 k.toNat ∧ ab12 24 k.toNat ≤ 2147483647 := bxb12.2 24 (k.toNat)
                    have ae7 : ab12 24 (k.toNat) = a 24 (k.toNat) := congrFun (fpb12.2 24 rfl) (k.toNat)
                    refine m_st (st2 := [.int (iI (a 24 k.toNat)), .ref h0]) (congrArg (fun z => Value.int (iI z) :: [.ref h0]) (congrFun (fpb12.2 24 rfl) (k.toNat))) ?_
                    have rv72 : 0 ≤ vb12 39 ∧ vb12 39 ≤ 200 := bxb12.1 39
                    have ra34 : 0 ≤ ab12 37 (vb12 39 - 1).toNat ∧ ab12 37 (vb12 39 - 1).toNat ≤ 200 := bxb12.2 37 ((vb12 39 - 1).toNat)
                    refine m_call (mc2 := 0) (ms2 := 0) (As := [.int (iI (a 24 k.toNat))]) (rest := []) C (M_putCell (x := a 24 k.toNat) bxb12.rg (by show 1 ≤ vb12 39 ∧ vb12 39 ≤ 200; omega) (by show 0 ≤ ab12 37 (vb12 39 - 1).toNat ∧ ab12 37 (vb12 39 - 1).toNat < 200; omega)) dX12_flow_115 kV_X12_253 rfl ck_13 rfl (Nat.le_of_ble_eq_true rfl) ⟨Nat.le_of_ble_eq_true rfl, Nat.le_of_ble_eq_true rfl⟩ ⟨Nat.le_of_ble_eq_true rfl, Nat.le_of_ble_eq_true rfl⟩ (fun rh30 vh30 ah30 h30 => ?_)
                    obtain ⟨rfl, fn30, bn30, ex30⟩ := W_putCell bxb12 (by omega) (by show ab12 37 (vb12 39 - 1).toNat < 200; omega) h30
                    have fq30 := fpb12.call fn30 rfl rfl
                    have rv73 : 0 ≤ vh30 39 ∧ vh30 39 ≤ 200 := bn30.1 39
                    have ve38 : vh30 39 = vb12 39 := fn30.1 39 rfl
                    have gex30 : ah30 37 (vb12 39 - 1).toNat = ab12 37 (vb12 39 - 1).toNat + 1 := ex30
                    have jex30 : ah30 37 (vh30 39 - 1).toNat = ab12 37 (vb12 39 - 1).toNat + 1 := by rw [show vh30 39 = vb12 39 by omega]; exact ex30
                    refine m_st (st2 := []) rfl ?_
                    refine m_iinc (z := k) (j := 0) (lv2 := [(6, .int (iI (k + 1))), (5, .int (iI y1)), (4, .int (iI z1)), (3, .int (iI h1)), (2, .int (iI x)), (0, .ref h0), (1, .int (iI t))]) C dX12_flow_118 rfl (by decide) rfl ?_
                    refine m_goto (tgt := 100) C dX12_flow_121 (by decide) ?_
                    have ra35 : 0 ≤ ah30 37 ((vh30 39) - 1).toNat ∧ ah30 37 ((vh30 39) - 1).toNat ≤ 200 := bn30.2 37 (((vh30 39) - 1).toNat)
                    refine m_lv (lv2 := [(6, .int (iI (k + 1))), (5, .int (iI y1)), (4, .int (iI z1)), (3, .int (iI h1)), (2, .int (iI x)), (0, .ref h0), (1, .int (iI t))]) [0, 1, 2, 3, 4, 5, 6] rfl ?_
                    exact ih7  (k + 1) _ _ (by omega) bn30 fq30 (by omega) (by show (vh30 39) = vb1 39; omega) (by show ((ah30 37 ((vh30 39) - 1).toNat) + (y1 - (k + 1)) ≤ 199 ∨ ((ah30 37 ((vh30 39) - 1).toNat) + (y1 - (k + 1)) ≤ 200 ∧ y1 = v 25)) ∧ (k + 1) ≤ y1; omega)
              refine m_iload_n (j := 2) C dX12_flow_88 rfl ?_
              refine m_if_le (tgt := 97) C ⟨by omega, by omega⟩ dX12_flow_89 (by decide) (fun c52 => ?_) (fun c52 => ?_)
              · refine m_iload_n (j := 3) C dX12_flow_97 rfl ?_
                refine m_istore (lv2 := [(6, .int (iI x)), (5, .int (iI y1)), (4, .int (iI z1)), (3, .int (iI h1)), (2, .int (iI x)), (0, .ref h0), (1, .int (iI t))]) C dX12_flow_98 (by decide) rfl ?_
                have rv74 : 0 ≤ vb11 39 ∧ vb11 39 ≤ 200 := bxb11.1 39
                have ra36 : 0 ≤ ab11 37 ((vb11 39) - 1).toNat ∧ ab11 37 ((vb11 39) - 1).toNat ≤ 200 := bxb11.2 37 (((vb11 39) - 1).toNat)
                refine m_lv (lv2 := [(6, .int (iI x)), (5, .int (iI y1)), (4, .int (iI z1)), (3, .int (iI h1)), (2, .int (iI x)), (0, .ref h0), (1, .int (iI t))]) [0, 1, 2, 3, 4, 5, 6] rfl ?_
                exact Lp7 211 x _ _ (by omega) bxb11 fpb11 (by omega) (by show (vb11 39) = vb1 39; omega) (by show ((ab11 37 ((vb11 39) - 1).toNat) + (y1 - x) ≤ 199 ∨ ((ab11 37 ((vb11 39) - 1).toNat) + (y1 - x) ≤ 200 ∧ y1 = v 25)) ∧ x ≤ y1; omega)
              · refine m_aload_n (j := 4) C dX12_flow_92 rfl ?_
                refine m_iconst C dX12_flow_93 ?_
                have rv75 : 0 ≤ vb11 39 ∧ vb11 39 ≤ 200 := bxb11.1 39
                have ra37 : 0 ≤ ab11 37 (vb11 39 - 1).toNat ∧ ab11 37 (vb11 39 - 1).toNat ≤ 200 := bxb11.2 37 ((vb11 39 - 1).toNat)
                refine m_call (mc2 := 0) (ms2 := 0) (As := [.int (iI 0)]) (rest := []) C (M_putCell (x := 0) bxb11.rg (by show 1 ≤ vb11 39 ∧ vb11 39 ≤ 200; omega) (by show 0 ≤ ab11 37 (vb11 39 - 1).toNat ∧ ab11 37 (vb11 39 - 1).toNat < 200; omega)) dX12_flow_94 kV_X12_253 rfl ck_13 rfl (Nat.le_of_ble_eq_true rfl) ⟨Nat.le_of_ble_eq_true rfl, Nat.le_of_ble_eq_true rfl⟩ ⟨Nat.le_of_ble_eq_true rfl, Nat.le_of_ble_eq_true rfl⟩ (fun rh31 vh31 ah31 h31 => ?_)
                obtain ⟨rfl, fn31, bn31, ex31⟩ := W_putCell bxb11 (by omega) (by show ab11 37 (vb11 39 - 1).toNat < 200; omega) h31
                have fq31 := fpb11.call fn31 rfl rfl
                have rv76 : 0 ≤ vh31 39 ∧ vh31 39 ≤ 200 := bn31.1 39
                have ve39 : vh31 39 = vb11 39 := fn31.1 39 rfl
                have gex31 : ah31 37 (vb11 39 - 1).toNat = ab11 37 (vb11 39 - 1).toNat + 1 := ex31
                have jex31 : ah31 37 (vh31 39 - 1).toNat = ab11 37 (vb11 39 - 1).toNat + 1 := by rw [show vh31 39 = vb11 39 by omega]; exact ex31
                refine m_st (st2 := []) rfl ?_
                refine m_iload_n (j := 3) C dX12_flow_97 rfl ?_
                refine m_istore (lv2 := [(6, .int (iI x)), (5, .int (iI y1)), (4, .int (iI z1)), (3, .int (iI h1)), (2, .int (iI x)), (0, .ref h0), (1, .int (iI t))]) C dX12_flow_98 (by decide) rfl ?_
                have ra38 : 0 ≤ ah31 37 ((vh31 39) - 1).toNat ∧ ah31 37 ((vh31 39) - 1).toNat ≤ 200 := bn31.2 37 (((vh31 39) - 1).toNat)
                refine m_lv (lv2 := [(6, .int (iI x)), (5, .int (iI y1)), (4, .int (iI z1)), (3, .int (iI h1)), (2, .int (iI x)), (0, .ref h0), (1, .int (iI t))]) [0, 1, 2, 3, 4, 5, 6] rfl ?_
                exact Lp7 211 x _ _ (by omega) bn31 fq31 (by omega) (by show (vh31 39) = vb1 39; omega) (by show ((ah31 37 ((vh31 39) - 1).toNat) + (y1 - x) ≤ 199 ∨ ((ah31 37 ((vh31 39) - 1).toNat) + (y1 - x) ≤ 200 ∧ y1 = v 25)) ∧ x ≤ y1; omega)
            have rv77 : 0 ≤ vb2 39 ∧ vb2 39 ≤ 200 := bxb2.1 39
            have ra39 : 0 ≤ ab2 37 ((vb2 39) - 1).toNat ∧ ab2 37 ((vb2 39) - 1).toNat ≤ 200 := bxb2.2 37 (((vb2 39) - 1).toNat)
            refine m_lv (lv2 := [(5, .int (iI (v 25))), (4, .int (iI z1)), (3, .int (iI h1)), (2, .int (iI x)), (0, .ref h0), (1, .int (iI t))]) [0, 1, 2, 3, 4, 5] rfl ?_
            exact J2  (v 25) _ _  bxb2 fpb2 (by omega) (by show (vb2 39) = vb1 39; omega) (by show (ab2 37 ((vb2 39) - 1).toNat) = h1; omega)
        refine m_aload_n (j := 2) C dX12_flow_22 rfl ?_
        have rv78 : 1 ≤ vb1 31 ∧ vb1 31 ≤ 100 := bxb1.1 31
        have ve40 : vb1 31 = v 31 := fpb1.1 31 rfl
        refine m_get (k := 31) C dX12_flow_23 w6_90 (by decide) rfl ?_
        refine m_st (st2 := [.int (iI (v 31))]) (congrArg (fun z => Value.int (iI z) :: []) (fpb1.1 31 rfl)) ?_
        refine m_iload_n (j := 0) C dX12_flow_26 rfl ?_
        refine m_if_ne (tgt := 34) C ⟨by omega, by omega⟩ dX12_flow_27 (by decide) (fun c53 => ?_) (fun c53 => ?_)
        · refine m_iload_n (j := 0) C dX12_flow_34 rfl ?_
          refine m_iconst C dX12_flow_35 ?_
          refine m_iadd C dX12_flow_36 ?_
          refine m_isub C dX12_flow_37 ?_
          refine m_istore (lv2 := [(4, .int (iI ((v 31) - ((ab1 37 ((vb1 39) - 1).toNat) + 1)))), (3, .int (iI (ab1 37 ((vb1 39) - 1).toNat))), (2, .int (iI x)), (0, .ref h0), (1, .int (iI t))]) C dX12_flow_38 (by decide) rfl ?_
          have J6 : ∀ (y : Int) (vb13 : Nat → Int) (ab13 : Nat → Nat → Int), BX vb13 ab13 → fr [39] [37, 38] v a vb13 ab13 → (y = -1 ∨ (y = v 25 ∧ v 25 - x ≤ z1) ∨ (x < y ∧ y ≤ 208 ∧ y - x + 1 ≤ z1)) → (vb13 39 = vb1 39) → (ab13 37 (vb13 39 - 1).toNat = h1) → mw p l e (rmq 2 0 0) s m args below meth c G A 7 (MQ below (Qm G A (fun rq Lq Eq => ∃ (vq : Nat → Int) (aq : Nat → Nat → Int), mI G h0 ad ln vq aq Lq Eq ∧ (fun r v2 a2 => ∃ f : Int, r = some (.int (iI f)) ∧ fr [39] [37, 38] v a v2 a2 ∧ BX v2 a2 ∧ (f = 0 ∨ (f = 1 ∧ 1 ≤ v2 39))) rq vq aq)) args s 0 0 A) h0 ad ln vb13 ab13 0 0 68 [(5, .int (iI y)), (4, .int (iI ((v 31) - ((ab1 37 ((vb1 39) - 1).toNat) + 1)))), (3, .int (iI (ab1 37 ((vb1 39) - 1).toNat))), (2, .int (iI x)), (0, .ref h0), (1, .int (iI t))] [] := by
            intro y vb13 ab13 bxb13 fpb13 hy hn2 hh2
            have J7 : ∀ (y1 : Int) (vb14 : Nat → Int) (ab14 : Nat → Nat → Int), BX vb14 ab14 → fr [39] [37, 38] v a vb14 ab14 → ((h1 = 0 ∧ y1 = v 25) ∨ (y1 = v 25 ∧ v 25 - x ≤ z1) ∨ (x < y1 ∧ y1 ≤ 208 ∧ y1 - x + 1 ≤ z1)) → (vb14 39 = vb1 39) → (ab14 37 (vb14 39 - 1).toNat = h1) → mw p l e (rmq 2 0 0) s m args below meth c G A 7 (MQ below (Qm G A (fun rq Lq Eq => ∃ (vq : Nat → Int) (aq : Nat → Nat → Int), mI G h0 ad ln vq aq Lq Eq ∧ (fun r v2 a2 => ∃ f : Int, r = some (.int (iI f)) ∧ fr [39] [37, 38] v a v2 a2 ∧ BX v2 a2 ∧ (f = 0 ∨ (f = 1 ∧ 1 ≤ v2 39))) rq vq aq)) args s 0 0 A) h0 ad ln vb14 ab14 0 0 88 [(5, .int (iI y1)), (4, .int (iI ((v 31) - ((ab1 37 ((vb1 39) - 1).toNat) + 1)))), (3, .int (iI (ab1 37 ((vb1 39) - 1).toNat))), (2, .int (iI x)), (0, .ref h0), (1, .int (iI t))] [] := by
              intro y1 vb14 ab14 bxb14 fpb14 hy1 hn3 hh3
              have Lp8 : ∀ (nn : Nat) (k : Int) (vb15 : Nat → Int) (ab15 : Nat → Nat → Int), 210 - k < (nn : Int) → BX vb15 ab15 → fr [39] [37, 38] v a vb15 ab15 → (x ≤ k ∧ k ≤ 208) → (vb15 39 = vb1 39) → ((ab15 37 (vb15 39 - 1).toNat + (y1 - k) ≤ 199 ∨ (ab15 37 (vb15 39 - 1).toNat + (y1 - k) ≤ 200 ∧ y1 = v 25)) ∧ k ≤ y1) → mw p l e (rmq 2 0 0) s m args below meth c G A 7 (MQ below (Qm G A (fun rq Lq Eq => ∃ (vq : Nat → Int) (aq : Nat → Nat → Int), mI G h0 ad ln vq aq Lq Eq ∧ (fun r v2 a2 => ∃ f : Int, r = some (.int (iI f)) ∧ fr [39] [37, 38] v a v2 a2 ∧ BX v2 a2 ∧ (f = 0 ∨ (f = 1 ∧ 1 ≤ v2 39))) rq vq aq)) args s 0 0 A) h0 ad ln vb15 ab15 0 0 100 [(6, .int (iI k)), (5, .int (iI y1)), (4, .int (iI ((v 31) - ((ab1 37 ((vb1 39) - 1).toNat) + 1)))), (3, .int (iI (ab1 37 ((vb1 39) - 1).toNat))), (2, .int (iI x)), (0, .ref h0), (1, .int (iI t))] [] := by
                intro nn
                induction nn with
                | zero =>
                  intro k vb15 ab15 hm bxb15 fpb15 hk hn4 hh4
                  exact absurd hm (by omega)
                | succ nn ih8 =>
                  intro k vb15 ab15 hm bxb15 fpb15 hk hn4 hh4
                  refine m_iload (j := 0) C dX12_flow_100 rfl ?_
                  refine m_iload (j := 1) C dX12_flow_102 rfl ?_
                  refine m_icmp_ge (tgt := 124) C ⟨by omega, by omega⟩ ⟨by omega, by omega⟩ dX12_flow_104 (by decide) (fun c54 => ?_) (fun c54 => ?_)
                  · refine m_iload (j := 1) C dX12_flow_124 rfl ?_
                    refine m_aload_n (j := 5) C dX12_flow_126 rfl ?_
                    have rv79 : 0 ≤ vb15 25 ∧ vb15 25 ≤ 208 := bxb15.1 25
                    have ve41 : vb15 25 = v 25 := fpb15.1 25 rfl
                    refine m_get (k := 25) C dX12_flow_127 w6_84 (by decide) rfl ?_
                    refine m_st (st2 := [.int (iI (v 25)), .int (iI y1)]) (congrArg (fun z => Value.int (iI z) :: [.int (iI y1)]) (fpb15.1 25 rfl)) ?_
                    refine m_icmp_ge (tgt := 141) C ⟨by omega, by omega⟩ ⟨by omega, by omega⟩ dX12_flow_130 (by decide) (fun c55 => ?_) (fun c55 => ?_)
                    · refine m_iload (j := 1) C dX12_flow_141 rfl ?_
                      refine m_istore_n (lv2 := [(2, .int (iI y1)), (6, .int (iI k)), (5, .int (iI y1)), (4, .int (iI ((v 31) - ((ab1 37 ((vb1 39) - 1).toNat) + 1)))), (3, .int (iI (ab1 37 ((vb1 39) - 1).toNat))), (0, .ref h0), (1, .int (iI t))]) C dX12_flow_143 (by decide) rfl ?_
                      refine m_iload_n (j := 0) C dX12_flow_144 rfl ?_
                      refine m_aload_n (j := 5) C dX12_flow_145 rfl ?_
                      refine m_get (k := 25) C dX12_flow_146 w6_84 (by decide) rfl ?_
                      refine m_st (st2 := [.int (iI (v 25)), .int (iI y1)]) (congrArg (fun z => Value.int (iI z) :: [.int (iI y1)]) (fpb15.1 25 rfl)) ?_
                      refine m_icmp_ge (tgt := 161) C ⟨by omega, by omega⟩ ⟨by omega, by omega⟩ dX12_flow_149 (by decide) (fun c56 => ?_) (fun c56 => ?_)
                      · refine m_goto (tgt := 2) C dX12_flow_161 (by decide) ?_
                        refine m_iload_n (j := 0) C dX12_flow_2 rfl ?_
                        refine m_aload_n (j := 5) C dX12_flow_3 rfl ?_
                        refine m_get (k := 25) C dX12_flow_4 w6_84 (by decide) rfl ?_
                        refine m_st (st2 := [.int (iI (v 25)), .int (iI y1)]) (congrArg (fun z => Value.int (iI z) :: [.int (iI y1)]) (fpb15.1 25 rfl)) ?_
                        refine m_icmp_ge (tgt := 164) C ⟨by omega, by omega⟩ ⟨by omega, by omega⟩ dX12_flow_7 (by decide) (fun _ => ?_) (fun z => absurd z (by omega))
                        refine m_iconst C dX12_flow_164 ?_
                        exact m_zret C dX12_flow_165 rfl (Or.inr rfl) (Nat.le_of_ble_eq_true rfl) (Nat.le_of_ble_eq_true rfl) ⟨1, rfl, fpb15, bxb15, (Or.inr ⟨rfl, by show 1 ≤ vb15 39; omega⟩)⟩
                      · refine m_aload_n (j := 5) C dX12_flow_152 rfl ?_
                        refine m_call (mc2 := 0) (ms2 := 0) (As := []) (rest := []) C (M_newLine  bxb15.rg (bxb15.1 39)) dX12_flow_153 kV_X12_257 rfl ck_13 rfl (Nat.le_of_ble_eq_true rfl) ⟨Nat.le_of_ble_eq_true rfl, Nat.le_of_ble_eq_true rfl⟩ ⟨Nat.le_of_ble_eq_true rfl, Nat.le_of_ble_eq_true rfl⟩ (fun rh32 vh32 ah32 h32 => ?_)
                        obtain ⟨f32, rfl, fn32, bn32, ex32⟩ := W_newLine bxb15  h32
                        have fq32 := fpb15.call fn32 rfl rfl
                        have gf32 : (f32 = 1 ∧ vh32 39 = vb15 39 + 1 ∧ ah32 37 (vh32 39 - 1).toNat = 0) ∨ f32 = 0 := ex32
                        refine m_st (st2 := [.int (iI f32)]) rfl ?_
                        refine m_if_ne (tgt := 161) C ⟨by omega, by omega⟩ dX12_flow_156 (by decide) (fun c57 => ?_) (fun c57 => ?_)
                        · refine m_goto (tgt := 2) C dX12_flow_161 (by decide) ?_
                          have rv80 : 0 ≤ vh32 39 ∧ vh32 39 ≤ 200 := bn32.1 39
                          refine m_lv (lv2 := [(2, .int (iI y1)), (0, .ref h0), (1, .int (iI t))]) [0, 5, 6] rfl ?_
                          exact ih1  y1 _ _ (by omega) bn32 fq32 (by omega) (by show 1 ≤ (vh32 39) ∧ (vh32 39) ≤ 200; omega)
                        · refine m_iconst C dX12_flow_159 ?_
                          exact m_zret C dX12_flow_160 rfl (Or.inl rfl) (Nat.le_of_ble_eq_true rfl) (Nat.le_of_ble_eq_true rfl) ⟨0, rfl, fq32, bn32, (Or.inl rfl)⟩
                    · refine m_aload_n (j := 5) C dX12_flow_133 rfl ?_
                      refine m_aload_n (j := 5) C dX12_flow_134 rfl ?_
                      have rv81 : (-2147483648) ≤ vb15 33 ∧ vb15 33 ≤ 2147483647 := bxb15.1 33
                      have ve42 : vb15 33 = v 33 := fpb15.1 33 rfl
                      refine m_get (k := 33) C dX12_flow_135 w6_92 (by decide) rfl ?_
                      refine m_st (st2 := [.int (iI (v 33)), .ref h0]) (congrArg (fun z => Value.int (iI z) :: [.ref h0]) (fpb15.1 33 rfl)) ?_
                      have rv82 : 0 ≤ vb15 39 ∧ vb15 39 ≤ 200 := bxb15.1 39
                      have ra40 : 0 ≤ ab15 37 (vb15 39 - 1).toNat ∧ ab15 37 (vb15 39 - 1).toNat ≤ 200 := bxb15.2 37 ((vb15 39 - 1).toNat)
                      refine m_call (mc2 := 0) (ms2 := 0) (As := [.int (iI (v 33))]) (rest := []) C (M_putCell (x := v 33) bxb15.rg (by show 1 ≤ vb15 39 ∧ vb15 39 ≤ 200; omega) (by show 0 ≤ ab15 37 (vb15 39 - 1).toNat ∧ ab15 37 (vb15 39 - 1).toNat < 200; omega)) dX12_flow_138 kV_X12_253 rfl ck_13 rfl (Nat.le_of_ble_eq_true rfl) ⟨Nat.le_of_ble_eq_true rfl, Nat.le_of_ble_eq_true rfl⟩ ⟨Nat.le_of_ble_eq_true rfl, Nat.le_of_ble_eq_true rfl⟩ (fun rh33 vh33 ah33 h33 => ?_)
                      obtain ⟨rfl, fn33, bn33, ex33⟩ := W_putCell bxb15 (by omega) (by show ab15 37 (vb15 39 - 1).toNat < 200; omega) h33
                      have fq33 := fpb15.call fn33 rfl rfl
                      have rv83 : 0 ≤ vh33 39 ∧ vh33 39 ≤ 200 := bn33.1 39
                      have ve43 : vh33 39 = vb15 39 := fn33.1 39 rfl
                      have gex33 : ah33 37 (vb15 39 - 1).toNat = ab15 37 (vb15 39 - 1).toNat + 1 := ex33
                      have jex33 : ah33 37 (vh33 39 - 1).toNat = ab15 37 (vb15 39 - 1).toNat + 1 := by rw [show vh33 39 = vb15 39 by omega]; exact ex33
                      refine m_st (st2 := []) rfl ?_
                      refine m_iload (j := 1) C dX12_flow_141 rfl ?_
                      refine m_istore_n (lv2 := [(2, .int (iI y1)), (6, .int (iI k)), (5, .int (iI y1)), (4, .int (iI ((v 31) - ((ab1 37 ((vb1 39) - 1).toNat) + 1)))), (3, .int (iI (ab1 37 ((vb1 39) - 1).toNat))), (0, .ref h0), (1, .int (iI t))]) C dX12_flow_143 (by decide) rfl ?_
                      refine m_iload_n (j := 0) C dX12_flow_144 rfl ?_
                      refine m_aload_n (j := 5) C dX12_flow_145 rfl ?_
                      have rv84 : 0 ≤ vh33 25 ∧ vh33 25 ≤ 208 := bn33.1 25
                      have ve44 : vh33 25 = vb15 25 := fn33.1 25 rfl
                      refine m_get (k := 25) C dX12_flow_146 w6_84 (by decide) rfl ?_
                      refine m_st (st2 := [.int (iI (v 25)), .int (iI y1)]) (congrArg (fun z => Value.int (iI z) :: [.int (iI y1)]) (fq33.1 25 rfl)) ?_
                      refine m_icmp_ge (tgt := 161) C ⟨by omega, by omega⟩ ⟨by omega, by omega⟩ dX12_flow_149 (by decide) (fun c58 => ?_) (fun c58 => ?_)
                      · refine m_goto (tgt := 2) C dX12_flow_161 (by decide) ?_
                        refine m_iload_n (j := 0) C dX12_flow_2 rfl ?_
                        refine m_aload_n (j := 5) C dX12_flow_3 rfl ?_
                        refine m_get (k := 25) C dX12_flow_4 w6_84 (by decide) rfl ?_
                        refine m_st (st2 := [.int (iI (v 25)), .int (iI y1)]) (congrArg (fun z => Value.int (iI z) :: [.int (iI y1)]) (fq33.1 25 rfl)) ?_
                        refine m_icmp_ge (tgt := 164) C ⟨by omega, by omega⟩ ⟨by omega, by omega⟩ dX12_flow_7 (by decide) (fun _ => ?_) (fun z => absurd z (by omega))
                        refine m_iconst C dX12_flow_164 ?_
                        exact m_zret C dX12_flow_165 rfl (Or.inr rfl) (Nat.le_of_ble_eq_true rfl) (Nat.le_of_ble_eq_true rfl) ⟨1, rfl, fq33, bn33, (Or.inr ⟨rfl, by show 1 ≤ vh33 39; omega⟩)⟩
                      · refine m_aload_n (j := 5) C dX12_flow_152 rfl ?_
                        refine m_call (mc2 := 0) (ms2 := 0) (As := []) (rest := []) C (M_newLine  bn33.rg (bn33.1 39)) dX12_flow_153 kV_X12_257 rfl ck_13 rfl (Nat.le_of_ble_eq_true rfl) ⟨Nat.le_of_ble_eq_true rfl, Nat.le_of_ble_eq_true rfl⟩ ⟨Nat.le_of_ble_eq_true rfl, Nat.le_of_ble_eq_true rfl⟩ (fun rh34 vh34 ah34 h34 => ?_)
                        obtain ⟨f34, rfl, fn34, bn34, ex34⟩ := W_newLine bn33  h34
                        have fq34 := fq33.call fn34 rfl rfl
                        have gf34 : (f34 = 1 ∧ vh34 39 = vh33 39 + 1 ∧ ah34 37 (vh34 39 - 1).toNat = 0) ∨ f34 = 0 := ex34
                        refine m_st (st2 := [.int (iI f34)]) rfl ?_
                        refine m_if_ne (tgt := 161) C ⟨by omega, by omega⟩ dX12_flow_156 (by decide) (fun c59 => ?_) (fun c59 => ?_)
                        · refine m_goto (tgt := 2) C dX12_flow_161 (by decide) ?_
                          have rv85 : 0 ≤ vh34 39 ∧ vh34 39 ≤ 200 := bn34.1 39
                          refine m_lv (lv2 := [(2, .int (iI y1)), (0, .ref h0), (1, .int (iI t))]) [0, 5, 6] rfl ?_
                          exact ih1  y1 _ _ (by omega) bn34 fq34 (by omega) (by show 1 ≤ (vh34 39) ∧ (vh34 39) ≤ 200; omega)
                        · refine m_iconst C dX12_flow_159 ?_
                          exact m_zret C dX12_flow_160 rfl (Or.inl rfl) (Nat.le_of_ble_eq_true rfl) (Nat.le_of_ble_eq_true rfl) ⟨0, rfl, fq34, bn34, (Or.inl rfl)⟩
                  · refine m_aload_n (j := 5) C dX12_flow_107 rfl ?_
                    refine m_aload_n (j := 5) C dX12_flow_108 rfl ?_
                    refine m_geta (k := 24) C dX12_flow_109 w6_83 (by decide) rfl ?_
                    refine m_iload (j := 0) C dX12_flow_112 rfl ?_
                    refine m_ald (k := 24) C dX12_flow_114 rfl rfl (by decide) (by omega) (by show _ < ((_ : Nat) : Int); simp only [mlen]; omega) (by decide) ?_
                    have ra41 : (-2147483648) ≤ ab15 24 k.toNat ∧ ab15 24 k.toNat ≤ 2147483647 := bxb15.2 24 (k.toNat)
                    have ae8 : ab15 24 (k.toNat) = a 24 (k.toNat) := congrFun (fpb15.2 24 rfl) (k.toNat)
                    refine m_st (st2 := [.int (iI (a 24 k.toNat)), .ref h0]) (congrArg (fun z => Value.int (iI z) :: [.ref h0]) (congrFun (fpb15.2 24 rfl) (k.toNat))) ?_
                    have rv86 : 0 ≤ vb15 39 ∧ vb15 39 ≤ 200 := bxb15.1 39
                    have ra42 : 0 ≤ ab15 37 (vb15 39 - 1).toNat ∧ ab15 37 (vb15 39 - 1).toNat ≤ 200 := bxb15.2 37 ((vb15 39 - 1).toNat)
                    refine m_call (mc2 := 0) (ms2 := 0) (As := [.int (iI (a 24 k.toNat))]) (rest := []) C (M_putCell (x := a 24 k.toNat) bxb15.rg (by show 1 ≤ vb15 39 ∧ vb15 39 ≤ 200; omega) (by show 0 ≤ ab15 37 (vb15 39 - 1).toNat ∧ ab15 37 (vb15 39 - 1).toNat < 200; omega)) dX12_flow_115 kV_X12_253 rfl ck_13 rfl (Nat.le_of_ble_eq_true rfl) ⟨Nat.le_of_ble_eq_true rfl, Nat.le_of_ble_eq_true rfl⟩ ⟨Nat.le_of_ble_eq_true rfl, Nat.le_of_ble_eq_true rfl⟩ (fun rh35 vh35 ah35 h35 => ?_)
                    obtain ⟨rfl, fn35, bn35, ex35⟩ := W_putCell bxb15 (by omega) (by show ab15 37 (vb15 39 - 1).toNat < 200; omega) h35
                    have fq35 := fpb15.call fn35 rfl rfl
                    have rv87 : 0 ≤ vh35 39 ∧ vh35 39 ≤ 200 := bn35.1 39
                    have ve45 : vh35 39 = vb15 39 := fn35.1 39 rfl
                    have gex35 : ah35 37 (vb15 39 - 1).toNat = ab15 37 (vb15 39 - 1).toNat + 1 := ex35
                    have jex35 : ah35 37 (vh35 39 - 1).toNat = ab15 37 (vb15 39 - 1).toNat + 1 := by rw [show vh35 39 = vb15 39 by omega]; exact ex35
                    refine m_st (st2 := []) rfl ?_
                    refine m_iinc (z := k) (j := 0) (lv2 := [(6, .int (iI (k + 1))), (5, .int (iI y1)), (4, .int (iI ((v 31) - ((ab1 37 ((vb1 39) - 1).toNat) + 1)))), (3, .int (iI (ab1 37 ((vb1 39) - 1).toNat))), (2, .int (iI x)), (0, .ref h0), (1, .int (iI t))]) C dX12_flow_118 rfl (by decide) rfl ?_
                    refine m_goto (tgt := 100) C dX12_flow_121 (by decide) ?_
                    have ra43 : 0 ≤ ah35 37 ((vh35 39) - 1).toNat ∧ ah35 37 ((vh35 39) - 1).toNat ≤ 200 := bn35.2 37 (((vh35 39) - 1).toNat)
                    refine m_lv (lv2 := [(6, .int (iI (k + 1))), (5, .int (iI y1)), (4, .int (iI ((v 31) - ((ab1 37 ((vb1 39) - 1).toNat) + 1)))), (3, .int (iI (ab1 37 ((vb1 39) - 1).toNat))), (2, .int (iI x)), (0, .ref h0), (1, .int (iI t))]) [0, 1, 2, 3, 4, 5, 6] rfl ?_
                    exact ih8  (k + 1) _ _ (by omega) bn35 fq35 (by omega) (by show (vh35 39) = vb1 39; omega) (by show ((ah35 37 ((vh35 39) - 1).toNat) + (y1 - (k + 1)) ≤ 199 ∨ ((ah35 37 ((vh35 39) - 1).toNat) + (y1 - (k + 1)) ≤ 200 ∧ y1 = v 25)) ∧ (k + 1) ≤ y1; omega)
              refine m_iload_n (j := 2) C dX12_flow_88 rfl ?_
              refine m_if_le (tgt := 97) C ⟨by omega, by omega⟩ dX12_flow_89 (by decide) (fun c60 => ?_) (fun c60 => ?_)
              · refine m_iload_n (j := 3) C dX12_flow_97 rfl ?_
                refine m_istore (lv2 := [(6, .int (iI x)), (5, .int (iI y1)), (4, .int (iI ((v 31) - ((ab1 37 ((vb1 39) - 1).toNat) + 1)))), (3, .int (iI (ab1 37 ((vb1 39) - 1).toNat))), (2, .int (iI x)), (0, .ref h0), (1, .int (iI t))]) C dX12_flow_98 (by decide) rfl ?_
                have rv88 : 0 ≤ vb14 39 ∧ vb14 39 ≤ 200 := bxb14.1 39
                have ra44 : 0 ≤ ab14 37 ((vb14 39) - 1).toNat ∧ ab14 37 ((vb14 39) - 1).toNat ≤ 200 := bxb14.2 37 (((vb14 39) - 1).toNat)
                refine m_lv (lv2 := [(6, .int (iI x)), (5, .int (iI y1)), (4, .int (iI ((v 31) - ((ab1 37 ((vb1 39) - 1).toNat) + 1)))), (3, .int (iI (ab1 37 ((vb1 39) - 1).toNat))), (2, .int (iI x)), (0, .ref h0), (1, .int (iI t))]) [0, 1, 2, 3, 4, 5, 6] rfl ?_
                exact Lp8 211 x _ _ (by omega) bxb14 fpb14 (by omega) (by show (vb14 39) = vb1 39; omega) (by show ((ab14 37 ((vb14 39) - 1).toNat) + (y1 - x) ≤ 199 ∨ ((ab14 37 ((vb14 39) - 1).toNat) + (y1 - x) ≤ 200 ∧ y1 = v 25)) ∧ x ≤ y1; omega)
              · refine m_aload_n (j := 4) C dX12_flow_92 rfl ?_
                refine m_iconst C dX12_flow_93 ?_
                have rv89 : 0 ≤ vb14 39 ∧ vb14 39 ≤ 200 := bxb14.1 39
                have ra45 : 0 ≤ ab14 37 (vb14 39 - 1).toNat ∧ ab14 37 (vb14 39 - 1).toNat ≤ 200 := bxb14.2 37 ((vb14 39 - 1).toNat)
                refine m_call (mc2 := 0) (ms2 := 0) (As := [.int (iI 0)]) (rest := []) C (M_putCell (x := 0) bxb14.rg (by show 1 ≤ vb14 39 ∧ vb14 39 ≤ 200; omega) (by show 0 ≤ ab14 37 (vb14 39 - 1).toNat ∧ ab14 37 (vb14 39 - 1).toNat < 200; omega)) dX12_flow_94 kV_X12_253 rfl ck_13 rfl (Nat.le_of_ble_eq_true rfl) ⟨Nat.le_of_ble_eq_true rfl, Nat.le_of_ble_eq_true rfl⟩ ⟨Nat.le_of_ble_eq_true rfl, Nat.le_of_ble_eq_true rfl⟩ (fun rh36 vh36 ah36 h36 => ?_)
                obtain ⟨rfl, fn36, bn36, ex36⟩ := W_putCell bxb14 (by omega) (by show ab14 37 (vb14 39 - 1).toNat < 200; omega) h36
                have fq36 := fpb14.call fn36 rfl rfl
                have rv90 : 0 ≤ vh36 39 ∧ vh36 39 ≤ 200 := bn36.1 39
                have ve46 : vh36 39 = vb14 39 := fn36.1 39 rfl
                have gex36 : ah36 37 (vb14 39 - 1).toNat = ab14 37 (vb14 39 - 1).toNat + 1 := ex36
                have jex36 : ah36 37 (vh36 39 - 1).toNat = ab14 37 (vb14 39 - 1).toNat + 1 := by rw [show vh36 39 = vb14 39 by omega]; exact ex36
                refine m_st (st2 := []) rfl ?_
                refine m_iload_n (j := 3) C dX12_flow_97 rfl ?_
                refine m_istore (lv2 := [(6, .int (iI x)), (5, .int (iI y1)), (4, .int (iI ((v 31) - ((ab1 37 ((vb1 39) - 1).toNat) + 1)))), (3, .int (iI (ab1 37 ((vb1 39) - 1).toNat))), (2, .int (iI x)), (0, .ref h0), (1, .int (iI t))]) C dX12_flow_98 (by decide) rfl ?_
                have ra46 : 0 ≤ ah36 37 ((vh36 39) - 1).toNat ∧ ah36 37 ((vh36 39) - 1).toNat ≤ 200 := bn36.2 37 (((vh36 39) - 1).toNat)
                refine m_lv (lv2 := [(6, .int (iI x)), (5, .int (iI y1)), (4, .int (iI ((v 31) - ((ab1 37 ((vb1 39) - 1).toNat) + 1)))), (3, .int (iI (ab1 37 ((vb1 39) - 1).toNat))), (2, .int (iI x)), (0, .ref h0), (1, .int (iI t))]) [0, 1, 2, 3, 4, 5, 6] rfl ?_
                exact Lp8 211 x _ _ (by omega) bn36 fq36 (by omega) (by show (vh36 39) = vb1 39; omega) (by show ((ah36 37 ((vh36 39) - 1).toNat) + (y1 - x) ≤ 199 ∨ ((ah36 37 ((vh36 39) - 1).toNat) + (y1 - x) ≤ 200 ∧ y1 = v 25)) ∧ x ≤ y1; omega)
            refine m_iload (j := 0) C dX12_flow_68 rfl ?_
            refine m_if_ge (tgt := 83) C ⟨by omega, by omega⟩ dX12_flow_70 (by decide) (fun c61 => ?_) (fun c61 => ?_)
            · refine m_iload (j := 0) C dX12_flow_83 rfl ?_
              refine m_if_lt (tgt := 144) C ⟨by omega, by omega⟩ dX12_flow_85 (by decide) (fun c62 => ?_) (fun c62 => ?_)
              · refine m_iload_n (j := 3) C dX12_flow_144 rfl ?_
                refine m_aload_n (j := 4) C dX12_flow_145 rfl ?_
                have rv91 : 0 ≤ vb13 25 ∧ vb13 25 ≤ 208 := bxb13.1 25
                have ve47 : vb13 25 = v 25 := fpb13.1 25 rfl
                refine m_get (k := 25) C dX12_flow_146 w6_84 (by decide) rfl ?_
                refine m_st (st2 := [.int (iI (v 25)), .int (iI x)]) (congrArg (fun z => Value.int (iI z) :: [.int (iI x)]) (fpb13.1 25 rfl)) ?_
                refine m_icmp_ge (tgt := 161) C ⟨by omega, by omega⟩ ⟨by omega, by omega⟩ dX12_flow_149 (by decide) (fun c63 => ?_) (fun c63 => ?_)
                · refine m_goto (tgt := 2) C dX12_flow_161 (by decide) ?_
                  refine m_iload_n (j := 3) C dX12_flow_2 rfl ?_
                  refine m_aload_n (j := 4) C dX12_flow_3 rfl ?_
                  refine m_get (k := 25) C dX12_flow_4 w6_84 (by decide) rfl ?_
                  refine m_st (st2 := [.int (iI (v 25)), .int (iI x)]) (congrArg (fun z => Value.int (iI z) :: [.int (iI x)]) (fpb13.1 25 rfl)) ?_
                  refine m_icmp_ge (tgt := 164) C ⟨by omega, by omega⟩ ⟨by omega, by omega⟩ dX12_flow_7 (by decide) (fun _ => ?_) (fun z => absurd z (by omega))
                  refine m_iconst C dX12_flow_164 ?_
                  exact m_zret C dX12_flow_165 rfl (Or.inr rfl) (Nat.le_of_ble_eq_true rfl) (Nat.le_of_ble_eq_true rfl) ⟨1, rfl, fpb13, bxb13, (Or.inr ⟨rfl, by show 1 ≤ vb13 39; omega⟩)⟩
                · refine m_aload_n (j := 4) C dX12_flow_152 rfl ?_
                  refine m_call (mc2 := 0) (ms2 := 0) (As := []) (rest := []) C (M_newLine  bxb13.rg (bxb13.1 39)) dX12_flow_153 kV_X12_257 rfl ck_13 rfl (Nat.le_of_ble_eq_true rfl) ⟨Nat.le_of_ble_eq_true rfl, Nat.le_of_ble_eq_true rfl⟩ ⟨Nat.le_of_ble_eq_true rfl, Nat.le_of_ble_eq_true rfl⟩ (fun rh37 vh37 ah37 h37 => ?_)
                  obtain ⟨f37, rfl, fn37, bn37, ex37⟩ := W_newLine bxb13  h37
                  have fq37 := fpb13.call fn37 rfl rfl
                  have gf37 : (f37 = 1 ∧ vh37 39 = vb13 39 + 1 ∧ ah37 37 (vh37 39 - 1).toNat = 0) ∨ f37 = 0 := ex37
                  refine m_st (st2 := [.int (iI f37)]) rfl ?_
                  refine m_if_ne (tgt := 161) C ⟨by omega, by omega⟩ dX12_flow_156 (by decide) (fun c64 => ?_) (fun c64 => ?_)
                  · refine m_goto (tgt := 2) C dX12_flow_161 (by decide) ?_
                    have rv92 : 0 ≤ vh37 39 ∧ vh37 39 ≤ 200 := bn37.1 39
                    refine m_lv (lv2 := [(2, .int (iI x)), (0, .ref h0), (1, .int (iI t))]) [3, 4, 5] rfl ?_
                    exact ih1  x _ _ (by omega) bn37 fq37 (by omega) (by show 1 ≤ (vh37 39) ∧ (vh37 39) ≤ 200; omega)
                  · refine m_iconst C dX12_flow_159 ?_
                    exact m_zret C dX12_flow_160 rfl (Or.inl rfl) (Nat.le_of_ble_eq_true rfl) (Nat.le_of_ble_eq_true rfl) ⟨0, rfl, fq37, bn37, (Or.inl rfl)⟩
              · have Lp9 : ∀ (nn : Nat) (k : Int) (vb16 : Nat → Int) (ab16 : Nat → Nat → Int), 210 - k < (nn : Int) → BX vb16 ab16 → fr [39] [37, 38] v a vb16 ab16 → (x ≤ k ∧ k ≤ 208) → (vb16 39 = vb1 39) → ((ab16 37 (vb16 39 - 1).toNat + (y1 - k) ≤ 199 ∨ (ab16 37 (vb16 39 - 1).toNat + (y1 - k) ≤ 200 ∧ y1 = v 25)) ∧ k ≤ y1) → mw p l e (rmq 2 0 0) s m args below meth c G A 7 (MQ below (Qm G A (fun rq Lq Eq => ∃ (vq : Nat → Int) (aq : Nat → Nat → Int), mI G h0 ad ln vq aq Lq Eq ∧ (fun r v2 a2 => ∃ f : Int, r = some (.int (iI f)) ∧ fr [39] [37, 38] v a v2 a2 ∧ BX v2 a2 ∧ (f = 0 ∨ (f = 1 ∧ 1 ≤ v2 39))) rq vq aq)) args s 0 0 A) h0 ad ln vb16 ab16 0 0 100 [(6, .int (iI k)), (5, .int (iI y)), (4, .int (iI ((v 31) - ((ab1 37 ((vb1 39) - 1).toNat) + 1)))), (3, .int (iI (ab1 37 ((vb1 39) - 1).toNat))), (2, .int (iI x)), (0, .ref h0), (1, .int (iI t))] [] := by
                  intro nn
                  induction nn with
                  | zero =>
                    intro k vb16 ab16 hm bxb16 fpb16 hk hn4 hh4
                    exact absurd hm (by omega)
                  | succ nn ih9 =>
                    intro k vb16 ab16 hm bxb16 fpb16 hk hn4 hh4
                    refine m_iload (j := 0) C dX12_flow_100 rfl ?_
                    refine m_iload (j := 1) C dX12_flow_102 rfl ?_
                    refine m_icmp_ge (tgt := 124) C ⟨by omega, by omega⟩ ⟨by omega, by omega⟩ dX12_flow_104 (by decide) (fun c65 => ?_) (fun c65 => ?_)
                    · refine m_iload (j := 1) C dX12_flow_124 rfl ?_
                      refine m_aload_n (j := 5) C dX12_flow_126 rfl ?_
                      have rv93 : 0 ≤ vb16 25 ∧ vb16 25 ≤ 208 := bxb16.1 25
                      have ve48 : vb16 25 = v 25 := fpb16.1 25 rfl
                      refine m_get (k := 25) C dX12_flow_127 w6_84 (by decide) rfl ?_
                      refine m_st (st2 := [.int (iI (v 25)), .int (iI y)]) (congrArg (fun z => Value.int (iI z) :: [.int (iI y)]) (fpb16.1 25 rfl)) ?_
                      refine m_icmp_ge (tgt := 141) C ⟨by omega, by omega⟩ ⟨by omega, by omega⟩ dX12_flow_130 (by decide) (fun c66 => ?_) (fun c66 => ?_)
                      · refine m_iload (j := 1) C dX12_flow_141 rfl ?_
                        refine m_istore_n (lv2 := [(2, .int (iI y)), (6, .int (iI k)), (5, .int (iI y)), (4, .int (iI ((v 31) - ((ab1 37 ((vb1 39) - 1).toNat) + 1)))), (3, .int (iI (ab1 37 ((vb1 39) - 1).toNat))), (0, .ref h0), (1, .int (iI t))]) C dX12_flow_143 (by decide) rfl ?_
                        refine m_iload_n (j := 0) C dX12_flow_144 rfl ?_
                        refine m_aload_n (j := 5) C dX12_flow_145 rfl ?_
                        refine m_get (k := 25) C dX12_flow_146 w6_84 (by decide) rfl ?_
                        refine m_st (st2 := [.int (iI (v 25)), .int (iI y)]) (congrArg (fun z => Value.int (iI z) :: [.int (iI y)]) (fpb16.1 25 rfl)) ?_
                        refine m_icmp_ge (tgt := 161) C ⟨by omega, by omega⟩ ⟨by omega, by omega⟩ dX12_flow_149 (by decide) (fun c67 => ?_) (fun c67 => ?_)
                        · refine m_goto (tgt := 2) C dX12_flow_161 (by decide) ?_
                          refine m_iload_n (j := 0) C dX12_flow_2 rfl ?_
                          refine m_aload_n (j := 5) C dX12_flow_3 rfl ?_
                          refine m_get (k := 25) C dX12_flow_4 w6_84 (by decide) rfl ?_
                          refine m_st (st2 := [.int (iI (v 25)), .int (iI y)]) (congrArg (fun z => Value.int (iI z) :: [.int (iI y)]) (fpb16.1 25 rfl)) ?_
                          refine m_icmp_ge (tgt := 164) C ⟨by omega, by omega⟩ ⟨by omega, by omega⟩ dX12_flow_7 (by decide) (fun _ => ?_) (fun z => absurd z (by omega))
                          refine m_iconst C dX12_flow_164 ?_
                          exact m_zret C dX12_flow_165 rfl (Or.inr rfl) (Nat.le_of_ble_eq_true rfl) (Nat.le_of_ble_eq_true rfl) ⟨1, rfl, fpb16, bxb16, (Or.inr ⟨rfl, by show 1 ≤ vb16 39; omega⟩)⟩
                        · refine m_aload_n (j := 5) C dX12_flow_152 rfl ?_
                          refine m_call (mc2 := 0) (ms2 := 0) (As := []) (rest := []) C (M_newLine  bxb16.rg (bxb16.1 39)) dX12_flow_153 kV_X12_257 rfl ck_13 rfl (Nat.le_of_ble_eq_true rfl) ⟨Nat.le_of_ble_eq_true rfl, Nat.le_of_ble_eq_true rfl⟩ ⟨Nat.le_of_ble_eq_true rfl, Nat.le_of_ble_eq_true rfl⟩ (fun rh38 vh38 ah38 h38 => ?_)
                          obtain ⟨f38, rfl, fn38, bn38, ex38⟩ := W_newLine bxb16  h38
                          have fq38 := fpb16.call fn38 rfl rfl
                          have gf38 : (f38 = 1 ∧ vh38 39 = vb16 39 + 1 ∧ ah38 37 (vh38 39 - 1).toNat = 0) ∨ f38 = 0 := ex38
                          refine m_st (st2 := [.int (iI f38)]) rfl ?_
                          refine m_if_ne (tgt := 161) C ⟨by omega, by omega⟩ dX12_flow_156 (by decide) (fun c68 => ?_) (fun c68 => ?_)
                          · refine m_goto (tgt := 2) C dX12_flow_161 (by decide) ?_
                            have rv94 : 0 ≤ vh38 39 ∧ vh38 39 ≤ 200 := bn38.1 39
                            refine m_lv (lv2 := [(2, .int (iI y)), (0, .ref h0), (1, .int (iI t))]) [0, 5, 6] rfl ?_
                            exact ih1  y _ _ (by omega) bn38 fq38 (by omega) (by show 1 ≤ (vh38 39) ∧ (vh38 39) ≤ 200; omega)
                          · refine m_iconst C dX12_flow_159 ?_
                            exact m_zret C dX12_flow_160 rfl (Or.inl rfl) (Nat.le_of_ble_eq_true rfl) (Nat.le_of_ble_eq_true rfl) ⟨0, rfl, fq38, bn38, (Or.inl rfl)⟩
                      · refine m_aload_n (j := 5) C dX12_flow_133 rfl ?_
                        refine m_aload_n (j := 5) C dX12_flow_134 rfl ?_
                        have rv95 : (-2147483648) ≤ vb16 33 ∧ vb16 33 ≤ 2147483647 := bxb16.1 33
                        have ve49 : vb16 33 = v 33 := fpb16.1 33 rfl
                        refine m_get (k := 33) C dX12_flow_135 w6_92 (by decide) rfl ?_
                        refine m_st (st2 := [.int (iI (v 33)), .ref h0]) (congrArg (fun z => Value.int (iI z) :: [.ref h0]) (fpb16.1 33 rfl)) ?_
                        have rv96 : 0 ≤ vb16 39 ∧ vb16 39 ≤ 200 := bxb16.1 39
                        have ra47 : 0 ≤ ab16 37 (vb16 39 - 1).toNat ∧ ab16 37 (vb16 39 - 1).toNat ≤ 200 := bxb16.2 37 ((vb16 39 - 1).toNat)
                        refine m_call (mc2 := 0) (ms2 := 0) (As := [.int (iI (v 33))]) (rest := []) C (M_putCell (x := v 33) bxb16.rg (by show 1 ≤ vb16 39 ∧ vb16 39 ≤ 200; omega) (by show 0 ≤ ab16 37 (vb16 39 - 1).toNat ∧ ab16 37 (vb16 39 - 1).toNat < 200; omega)) dX12_flow_138 kV_X12_253 rfl ck_13 rfl (Nat.le_of_ble_eq_true rfl) ⟨Nat.le_of_ble_eq_true rfl, Nat.le_of_ble_eq_true rfl⟩ ⟨Nat.le_of_ble_eq_true rfl, Nat.le_of_ble_eq_true rfl⟩ (fun rh39 vh39 ah39 h39 => ?_)
                        obtain ⟨rfl, fn39, bn39, ex39⟩ := W_putCell bxb16 (by omega) (by show ab16 37 (vb16 39 - 1).toNat < 200; omega) h39
                        have fq39 := fpb16.call fn39 rfl rfl
                        have rv97 : 0 ≤ vh39 39 ∧ vh39 39 ≤ 200 := bn39.1 39
                        have ve50 : vh39 39 = vb16 39 := fn39.1 39 rfl
                        have gex39 : ah39 37 (vb16 39 - 1).toNat = ab16 37 (vb16 39 - 1).toNat + 1 := ex39
                        have jex39 : ah39 37 (vh39 39 - 1).toNat = ab16 37 (vb16 39 - 1).toNat + 1 := by rw [show vh39 39 = vb16 39 by omega]; exact ex39
                        refine m_st (st2 := []) rfl ?_
                        refine m_iload (j := 1) C dX12_flow_141 rfl ?_
                        refine m_istore_n (lv2 := [(2, .int (iI y)), (6, .int (iI k)), (5, .int (iI y)), (4, .int (iI ((v 31) - ((ab1 37 ((vb1 39) - 1).toNat) + 1)))), (3, .int (iI (ab1 37 ((vb1 39) - 1).toNat))), (0, .ref h0), (1, .int (iI t))]) C dX12_flow_143 (by decide) rfl ?_
                        refine m_iload_n (j := 0) C dX12_flow_144 rfl ?_
                        refine m_aload_n (j := 5) C dX12_flow_145 rfl ?_
                        have rv98 : 0 ≤ vh39 25 ∧ vh39 25 ≤ 208 := bn39.1 25
                        have ve51 : vh39 25 = vb16 25 := fn39.1 25 rfl
                        refine m_get (k := 25) C dX12_flow_146 w6_84 (by decide) rfl ?_
                        refine m_st (st2 := [.int (iI (v 25)), .int (iI y)]) (congrArg (fun z => Value.int (iI z) :: [.int (iI y)]) (fq39.1 25 rfl)) ?_
                        refine m_icmp_ge (tgt := 161) C ⟨by omega, by omega⟩ ⟨by omega, by omega⟩ dX12_flow_149 (by decide) (fun c69 => ?_) (fun c69 => ?_)
                        · refine m_goto (tgt := 2) C dX12_flow_161 (by decide) ?_
                          refine m_iload_n (j := 0) C dX12_flow_2 rfl ?_
                          refine m_aload_n (j := 5) C dX12_flow_3 rfl ?_
                          refine m_get (k := 25) C dX12_flow_4 w6_84 (by decide) rfl ?_
                          refine m_st (st2 := [.int (iI (v 25)), .int (iI y)]) (congrArg (fun z => Value.int (iI z) :: [.int (iI y)]) (fq39.1 25 rfl)) ?_
                          refine m_icmp_ge (tgt := 164) C ⟨by omega, by omega⟩ ⟨by omega, by omega⟩ dX12_flow_7 (by decide) (fun _ => ?_) (fun z => absurd z (by omega))
                          refine m_iconst C dX12_flow_164 ?_
                          exact m_zret C dX12_flow_165 rfl (Or.inr rfl) (Nat.le_of_ble_eq_true rfl) (Nat.le_of_ble_eq_true rfl) ⟨1, rfl, fq39, bn39, (Or.inr ⟨rfl, by show 1 ≤ vh39 39; omega⟩)⟩
                        · refine m_aload_n (j := 5) C dX12_flow_152 rfl ?_
                          refine m_call (mc2 := 0) (ms2 := 0) (As := []) (rest := []) C (M_newLine  bn39.rg (bn39.1 39)) dX12_flow_153 kV_X12_257 rfl ck_13 rfl (Nat.le_of_ble_eq_true rfl) ⟨Nat.le_of_ble_eq_true rfl, Nat.le_of_ble_eq_true rfl⟩ ⟨Nat.le_of_ble_eq_true rfl, Nat.le_of_ble_eq_true rfl⟩ (fun rh40 vh40 ah40 h40 => ?_)
                          obtain ⟨f40, rfl, fn40, bn40, ex40⟩ := W_newLine bn39  h40
                          have fq40 := fq39.call fn40 rfl rfl
                          have gf40 : (f40 = 1 ∧ vh40 39 = vh39 39 + 1 ∧ ah40 37 (vh40 39 - 1).toNat = 0) ∨ f40 = 0 := ex40
                          refine m_st (st2 := [.int (iI f40)]) rfl ?_
                          refine m_if_ne (tgt := 161) C ⟨by omega, by omega⟩ dX12_flow_156 (by decide) (fun c70 => ?_) (fun c70 => ?_)
                          · refine m_goto (tgt := 2) C dX12_flow_161 (by decide) ?_
                            have rv99 : 0 ≤ vh40 39 ∧ vh40 39 ≤ 200 := bn40.1 39
                            refine m_lv (lv2 := [(2, .int (iI y)), (0, .ref h0), (1, .int (iI t))]) [0, 5, 6] rfl ?_
                            exact ih1  y _ _ (by omega) bn40 fq40 (by omega) (by show 1 ≤ (vh40 39) ∧ (vh40 39) ≤ 200; omega)
                          · refine m_iconst C dX12_flow_159 ?_
                            exact m_zret C dX12_flow_160 rfl (Or.inl rfl) (Nat.le_of_ble_eq_true rfl) (Nat.le_of_ble_eq_true rfl) ⟨0, rfl, fq40, bn40, (Or.inl rfl)⟩
                    · refine m_aload_n (j := 5) C dX12_flow_107 rfl ?_
                      refine m_aload_n (j := 5) C dX12_flow_108 rfl ?_
                      refine m_geta (k := 24) C dX12_flow_109 w6_83 (by decide) rfl ?_
                      refine m_iload (j := 0) C dX12_flow_112 rfl ?_
                      refine m_ald (k := 24) C dX12_flow_114 rfl rfl (by decide) (by omega) (by show _ < ((_ : Nat) : Int); simp only [mlen]; omega) (by decide) ?_
                      have ra48 : (-2147483648) ≤ ab16 24 k.toNat ∧ ab16 24 k.toNat ≤ 2147483647 := bxb16.2 24 (k.toNat)
                      have ae9 : ab16 24 (k.toNat) = a 24 (k.toNat) := congrFun (fpb16.2 24 rfl) (k.toNat)
                      refine m_st (st2 := [.int (iI (a 24 k.toNat)), .ref h0]) (congrArg (fun z => Value.int (iI z) :: [.ref h0]) (congrFun (fpb16.2 24 rfl) (k.toNat))) ?_
                      have rv100 : 0 ≤ vb16 39 ∧ vb16 39 ≤ 200 := bxb16.1 39
                      have ra49 : 0 ≤ ab16 37 (vb16 39 - 1).toNat ∧ ab16 37 (vb16 39 - 1).toNat ≤ 200 := bxb16.2 37 ((vb16 39 - 1).toNat)
                      refine m_call (mc2 := 0) (ms2 := 0) (As := [.int (iI (a 24 k.toNat))]) (rest := []) C (M_putCell (x := a 24 k.toNat) bxb16.rg (by show 1 ≤ vb16 39 ∧ vb16 39 ≤ 200; omega) (by show 0 ≤ ab16 37 (vb16 39 - 1).toNat ∧ ab16 37 (vb16 39 - 1).toNat < 200; omega)) dX12_flow_115 kV_X12_253 rfl ck_13 rfl (Nat.le_of_ble_eq_true rfl) ⟨Nat.le_of_ble_eq_true rfl, Nat.le_of_ble_eq_true rfl⟩ ⟨Nat.le_of_ble_eq_true rfl, Nat.le_of_ble_eq_true rfl⟩ (fun rh41 vh41 ah41 h41 => ?_)
                      obtain ⟨rfl, fn41, bn41, ex41⟩ := W_putCell bxb16 (by omega) (by show ab16 37 (vb16 39 - 1).toNat < 200; omega) h41
                      have fq41 := fpb16.call fn41 rfl rfl
                      have rv101 : 0 ≤ vh41 39 ∧ vh41 39 ≤ 200 := bn41.1 39
                      have ve52 : vh41 39 = vb16 39 := fn41.1 39 rfl
                      have gex41 : ah41 37 (vb16 39 - 1).toNat = ab16 37 (vb16 39 - 1).toNat + 1 := ex41
                      have jex41 : ah41 37 (vh41 39 - 1).toNat = ab16 37 (vb16 39 - 1).toNat + 1 := by rw [show vh41 39 = vb16 39 by omega]; exact ex41
                      refine m_st (st2 := []) rfl ?_
                      refine m_iinc (z := k) (j := 0) (lv2 := [(6, .int (iI (k + 1))), (5, .int (iI y)), (4, .int (iI ((v 31) - ((ab1 37 ((vb1 39) - 1).toNat) + 1)))), (3, .int (iI (ab1 37 ((vb1 39) - 1).toNat))), (2, .int (iI x)), (0, .ref h0), (1, .int (iI t))]) C dX12_flow_118 rfl (by decide) rfl ?_
                      refine m_goto (tgt := 100) C dX12_flow_121 (by decide) ?_
                      have ra50 : 0 ≤ ah41 37 ((vh41 39) - 1).toNat ∧ ah41 37 ((vh41 39) - 1).toNat ≤ 200 := bn41.2 37 (((vh41 39) - 1).toNat)
                      refine m_lv (lv2 := [(6, .int (iI (k + 1))), (5, .int (iI y)), (4, .int (iI ((v 31) - ((ab1 37 ((vb1 39) - 1).toNat) + 1)))), (3, .int (iI (ab1 37 ((vb1 39) - 1).toNat))), (2, .int (iI x)), (0, .ref h0), (1, .int (iI t))]) [0, 1, 2, 3, 4, 5, 6] rfl ?_
                      exact ih9  (k + 1) _ _ (by omega) bn41 fq41 (by omega) (by show (vh41 39) = vb1 39; omega) (by show ((ah41 37 ((vh41 39) - 1).toNat) + (y1 - (k + 1)) ≤ 199 ∨ ((ah41 37 ((vh41 39) - 1).toNat) + (y1 - (k + 1)) ≤ 200 ∧ y1 = v 25)) ∧ (k + 1) ≤ y1; omega)
                have rv102 : 0 ≤ vb13 39 ∧ vb13 39 ≤ 200 := bxb13.1 39
                have ra51 : 0 ≤ ab13 37 ((vb13 39) - 1).toNat ∧ ab13 37 ((vb13 39) - 1).toNat ≤ 200 := bxb13.2 37 (((vb13 39) - 1).toNat)
                refine m_lv (lv2 := [(5, .int (iI y)), (4, .int (iI ((v 31) - ((ab1 37 ((vb1 39) - 1).toNat) + 1)))), (3, .int (iI (ab1 37 ((vb1 39) - 1).toNat))), (2, .int (iI x)), (0, .ref h0), (1, .int (iI t))]) [0, 1, 2, 3, 4, 5] rfl ?_
                exact J7  y _ _  bxb13 fpb13 (by omega) (by show (vb13 39) = vb1 39; omega) (by show (ab13 37 ((vb13 39) - 1).toNat) = h1; omega)
            · refine m_iload_n (j := 2) C dX12_flow_73 rfl ?_
              refine m_if_ne (tgt := 83) C ⟨by omega, by omega⟩ dX12_flow_74 (by decide) (fun c71 => ?_) (fun c71 => ?_)
              · refine m_iload (j := 0) C dX12_flow_83 rfl ?_
                refine m_if_lt (tgt := 144) C ⟨by omega, by omega⟩ dX12_flow_85 (by decide) (fun c72 => ?_) (fun c72 => ?_)
                · refine m_iload_n (j := 3) C dX12_flow_144 rfl ?_
                  refine m_aload_n (j := 4) C dX12_flow_145 rfl ?_
                  have rv103 : 0 ≤ vb13 25 ∧ vb13 25 ≤ 208 := bxb13.1 25
                  have ve53 : vb13 25 = v 25 := fpb13.1 25 rfl
                  refine m_get (k := 25) C dX12_flow_146 w6_84 (by decide) rfl ?_
                  refine m_st (st2 := [.int (iI (v 25)), .int (iI x)]) (congrArg (fun z => Value.int (iI z) :: [.int (iI x)]) (fpb13.1 25 rfl)) ?_
                  refine m_icmp_ge (tgt := 161) C ⟨by omega, by omega⟩ ⟨by omega, by omega⟩ dX12_flow_149 (by decide) (fun c73 => ?_) (fun c73 => ?_)
                  · refine m_goto (tgt := 2) C dX12_flow_161 (by decide) ?_
                    refine m_iload_n (j := 3) C dX12_flow_2 rfl ?_
                    refine m_aload_n (j := 4) C dX12_flow_3 rfl ?_
                    refine m_get (k := 25) C dX12_flow_4 w6_84 (by decide) rfl ?_
                    refine m_st (st2 := [.int (iI (v 25)), .int (iI x)]) (congrArg (fun z => Value.int (iI z) :: [.int (iI x)]) (fpb13.1 25 rfl)) ?_
                    refine m_icmp_ge (tgt := 164) C ⟨by omega, by omega⟩ ⟨by omega, by omega⟩ dX12_flow_7 (by decide) (fun _ => ?_) (fun z => absurd z (by omega))
                    refine m_iconst C dX12_flow_164 ?_
                    exact m_zret C dX12_flow_165 rfl (Or.inr rfl) (Nat.le_of_ble_eq_true rfl) (Nat.le_of_ble_eq_true rfl) ⟨1, rfl, fpb13, bxb13, (Or.inr ⟨rfl, by show 1 ≤ vb13 39; omega⟩)⟩
                  · refine m_aload_n (j := 4) C dX12_flow_152 rfl ?_
                    refine m_call (mc2 := 0) (ms2 := 0) (As := []) (rest := []) C (M_newLine  bxb13.rg (bxb13.1 39)) dX12_flow_153 kV_X12_257 rfl ck_13 rfl (Nat.le_of_ble_eq_true rfl) ⟨Nat.le_of_ble_eq_true rfl, Nat.le_of_ble_eq_true rfl⟩ ⟨Nat.le_of_ble_eq_true rfl, Nat.le_of_ble_eq_true rfl⟩ (fun rh42 vh42 ah42 h42 => ?_)
                    obtain ⟨f42, rfl, fn42, bn42, ex42⟩ := W_newLine bxb13  h42
                    have fq42 := fpb13.call fn42 rfl rfl
                    have gf42 : (f42 = 1 ∧ vh42 39 = vb13 39 + 1 ∧ ah42 37 (vh42 39 - 1).toNat = 0) ∨ f42 = 0 := ex42
                    refine m_st (st2 := [.int (iI f42)]) rfl ?_
                    refine m_if_ne (tgt := 161) C ⟨by omega, by omega⟩ dX12_flow_156 (by decide) (fun c74 => ?_) (fun c74 => ?_)
                    · refine m_goto (tgt := 2) C dX12_flow_161 (by decide) ?_
                      have rv104 : 0 ≤ vh42 39 ∧ vh42 39 ≤ 200 := bn42.1 39
                      refine m_lv (lv2 := [(2, .int (iI x)), (0, .ref h0), (1, .int (iI t))]) [3, 4, 5] rfl ?_
                      exact ih1  x _ _ (by omega) bn42 fq42 (by omega) (by show 1 ≤ (vh42 39) ∧ (vh42 39) ≤ 200; omega)
                    · refine m_iconst C dX12_flow_159 ?_
                      exact m_zret C dX12_flow_160 rfl (Or.inl rfl) (Nat.le_of_ble_eq_true rfl) (Nat.le_of_ble_eq_true rfl) ⟨0, rfl, fq42, bn42, (Or.inl rfl)⟩
                · have Lp10 : ∀ (nn : Nat) (k : Int) (vb17 : Nat → Int) (ab17 : Nat → Nat → Int), 210 - k < (nn : Int) → BX vb17 ab17 → fr [39] [37, 38] v a vb17 ab17 → (x ≤ k ∧ k ≤ 208) → (vb17 39 = vb1 39) → ((ab17 37 (vb17 39 - 1).toNat + (y1 - k) ≤ 199 ∨ (ab17 37 (vb17 39 - 1).toNat + (y1 - k) ≤ 200 ∧ y1 = v 25)) ∧ k ≤ y1) → mw p l e (rmq 2 0 0) s m args below meth c G A 7 (MQ below (Qm G A (fun rq Lq Eq => ∃ (vq : Nat → Int) (aq : Nat → Nat → Int), mI G h0 ad ln vq aq Lq Eq ∧ (fun r v2 a2 => ∃ f : Int, r = some (.int (iI f)) ∧ fr [39] [37, 38] v a v2 a2 ∧ BX v2 a2 ∧ (f = 0 ∨ (f = 1 ∧ 1 ≤ v2 39))) rq vq aq)) args s 0 0 A) h0 ad ln vb17 ab17 0 0 100 [(6, .int (iI k)), (5, .int (iI y)), (4, .int (iI ((v 31) - ((ab1 37 ((vb1 39) - 1).toNat) + 1)))), (3, .int (iI (ab1 37 ((vb1 39) - 1).toNat))), (2, .int (iI x)), (0, .ref h0), (1, .int (iI t))] [] := by
                    intro nn
                    induction nn with
                    | zero =>
                      intro k vb17 ab17 hm bxb17 fpb17 hk hn4 hh4
                      exact absurd hm (by omega)
                    | succ nn ih10 =>
                      intro k vb17 ab17 hm bxb17 fpb17 hk hn4 hh4
                      refine m_iload (j := 0) C dX12_flow_100 rfl ?_
                      refine m_iload (j := 1) C dX12_flow_102 rfl ?_
                      refine m_icmp_ge (tgt := 124) C ⟨by omega, by omega⟩ ⟨by omega, by omega⟩ dX12_flow_104 (by decide) (fun c75 => ?_) (fun c75 => ?_)
                      · refine m_iload (j := 1) C dX12_flow_124 rfl ?_
                        refine m_aload_n (j := 5) C dX12_flow_126 rfl ?_
                        have rv105 : 0 ≤ vb17 25 ∧ vb17 25 ≤ 208 := bxb17.1 25
                        have ve54 : vb17 25 = v 25 := fpb17.1 25 rfl
                        refine m_get (k := 25) C dX12_flow_127 w6_84 (by decide) rfl ?_
                        refine m_st (st2 := [.int (iI (v 25)), .int (iI y)]) (congrArg (fun z => Value.int (iI z) :: [.int (iI y)]) (fpb17.1 25 rfl)) ?_
                        refine m_icmp_ge (tgt := 141) C ⟨by omega, by omega⟩ ⟨by omega, by omega⟩ dX12_flow_130 (by decide) (fun c76 => ?_) (fun c76 => ?_)
                        · refine m_iload (j := 1) C dX12_flow_141 rfl ?_
                          refine m_istore_n (lv2 := [(2, .int (iI y)), (6, .int (iI k)), (5, .int (iI y)), (4, .int (iI ((v 31) - ((ab1 37 ((vb1 39) - 1).toNat) + 1)))), (3, .int (iI (ab1 37 ((vb1 39) - 1).toNat))), (0, .ref h0), (1, .int (iI t))]) C dX12_flow_143 (by decide) rfl ?_
                          refine m_iload_n (j := 0) C dX12_flow_144 rfl ?_
                          refine m_aload_n (j := 5) C dX12_flow_145 rfl ?_
                          refine m_get (k := 25) C dX12_flow_146 w6_84 (by decide) rfl ?_
                          refine m_st (st2 := [.int (iI (v 25)), .int (iI y)]) (congrArg (fun z => Value.int (iI z) :: [.int (iI y)]) (fpb17.1 25 rfl)) ?_
                          refine m_icmp_ge (tgt := 161) C ⟨by omega, by omega⟩ ⟨by omega, by omega⟩ dX12_flow_149 (by decide) (fun c77 => ?_) (fun c77 => ?_)
                          · refine m_goto (tgt := 2) C dX12_flow_161 (by decide) ?_
                            refine m_iload_n (j := 0) C dX12_flow_2 rfl ?_
                            refine m_aload_n (j := 5) C dX12_flow_3 rfl ?_
                            refine m_get (k := 25) C dX12_flow_4 w6_84 (by decide) rfl ?_
                            refine m_st (st2 := [.int (iI (v 25)), .int (iI y)]) (congrArg (fun z => Value.int (iI z) :: [.int (iI y)]) (fpb17.1 25 rfl)) ?_
                            refine m_icmp_ge (tgt := 164) C ⟨by omega, by omega⟩ ⟨by omega, by omega⟩ dX12_flow_7 (by decide) (fun _ => ?_) (fun z => absurd z (by omega))
                            refine m_iconst C dX12_flow_164 ?_
                            exact m_zret C dX12_flow_165 rfl (Or.inr rfl) (Nat.le_of_ble_eq_true rfl) (Nat.le_of_ble_eq_true rfl) ⟨1, rfl, fpb17, bxb17, (Or.inr ⟨rfl, by show 1 ≤ vb17 39; omega⟩)⟩
                          · refine m_aload_n (j := 5) C dX12_flow_152 rfl ?_
                            refine m_call (mc2 := 0) (ms2 := 0) (As := []) (rest := []) C (M_newLine  bxb17.rg (bxb17.1 39)) dX12_flow_153 kV_X12_257 rfl ck_13 rfl (Nat.le_of_ble_eq_true rfl) ⟨Nat.le_of_ble_eq_true rfl, Nat.le_of_ble_eq_true rfl⟩ ⟨Nat.le_of_ble_eq_true rfl, Nat.le_of_ble_eq_true rfl⟩ (fun rh43 vh43 ah43 h43 => ?_)
                            obtain ⟨f43, rfl, fn43, bn43, ex43⟩ := W_newLine bxb17  h43
                            have fq43 := fpb17.call fn43 rfl rfl
                            have gf43 : (f43 = 1 ∧ vh43 39 = vb17 39 + 1 ∧ ah43 37 (vh43 39 - 1).toNat = 0) ∨ f43 = 0 := ex43
                            refine m_st (st2 := [.int (iI f43)]) rfl ?_
                            refine m_if_ne (tgt := 161) C ⟨by omega, by omega⟩ dX12_flow_156 (by decide) (fun c78 => ?_) (fun c78 => ?_)
                            · refine m_goto (tgt := 2) C dX12_flow_161 (by decide) ?_
                              have rv106 : 0 ≤ vh43 39 ∧ vh43 39 ≤ 200 := bn43.1 39
                              refine m_lv (lv2 := [(2, .int (iI y)), (0, .ref h0), (1, .int (iI t))]) [0, 5, 6] rfl ?_
                              exact ih1  y _ _ (by omega) bn43 fq43 (by omega) (by show 1 ≤ (vh43 39) ∧ (vh43 39) ≤ 200; omega)
                            · refine m_iconst C dX12_flow_159 ?_
                              exact m_zret C dX12_flow_160 rfl (Or.inl rfl) (Nat.le_of_ble_eq_true rfl) (Nat.le_of_ble_eq_true rfl) ⟨0, rfl, fq43, bn43, (Or.inl rfl)⟩
                        · refine m_aload_n (j := 5) C dX12_flow_133 rfl ?_
                          refine m_aload_n (j := 5) C dX12_flow_134 rfl ?_
                          have rv107 : (-2147483648) ≤ vb17 33 ∧ vb17 33 ≤ 2147483647 := bxb17.1 33
                          have ve55 : vb17 33 = v 33 := fpb17.1 33 rfl
                          refine m_get (k := 33) C dX12_flow_135 w6_92 (by decide) rfl ?_
                          refine m_st (st2 := [.int (iI (v 33)), .ref h0]) (congrArg (fun z => Value.int (iI z) :: [.ref h0]) (fpb17.1 33 rfl)) ?_
                          have rv108 : 0 ≤ vb17 39 ∧ vb17 39 ≤ 200 := bxb17.1 39
                          have ra52 : 0 ≤ ab17 37 (vb17 39 - 1).toNat ∧ ab17 37 (vb17 39 - 1).toNat ≤ 200 := bxb17.2 37 ((vb17 39 - 1).toNat)
                          refine m_call (mc2 := 0) (ms2 := 0) (As := [.int (iI (v 33))]) (rest := []) C (M_putCell (x := v 33) bxb17.rg (by show 1 ≤ vb17 39 ∧ vb17 39 ≤ 200; omega) (by show 0 ≤ ab17 37 (vb17 39 - 1).toNat ∧ ab17 37 (vb17 39 - 1).toNat < 200; omega)) dX12_flow_138 kV_X12_253 rfl ck_13 rfl (Nat.le_of_ble_eq_true rfl) ⟨Nat.le_of_ble_eq_true rfl, Nat.le_of_ble_eq_true rfl⟩ ⟨Nat.le_of_ble_eq_true rfl, Nat.le_of_ble_eq_true rfl⟩ (fun rh44 vh44 ah44 h44 => ?_)
                          obtain ⟨rfl, fn44, bn44, ex44⟩ := W_putCell bxb17 (by omega) (by show ab17 37 (vb17 39 - 1).toNat < 200; omega) h44
                          have fq44 := fpb17.call fn44 rfl rfl
                          have rv109 : 0 ≤ vh44 39 ∧ vh44 39 ≤ 200 := bn44.1 39
                          have ve56 : vh44 39 = vb17 39 := fn44.1 39 rfl
                          have gex44 : ah44 37 (vb17 39 - 1).toNat = ab17 37 (vb17 39 - 1).toNat + 1 := ex44
                          have jex44 : ah44 37 (vh44 39 - 1).toNat = ab17 37 (vb17 39 - 1).toNat + 1 := by rw [show vh44 39 = vb17 39 by omega]; exact ex44
                          refine m_st (st2 := []) rfl ?_
                          refine m_iload (j := 1) C dX12_flow_141 rfl ?_
                          refine m_istore_n (lv2 := [(2, .int (iI y)), (6, .int (iI k)), (5, .int (iI y)), (4, .int (iI ((v 31) - ((ab1 37 ((vb1 39) - 1).toNat) + 1)))), (3, .int (iI (ab1 37 ((vb1 39) - 1).toNat))), (0, .ref h0), (1, .int (iI t))]) C dX12_flow_143 (by decide) rfl ?_
                          refine m_iload_n (j := 0) C dX12_flow_144 rfl ?_
                          refine m_aload_n (j := 5) C dX12_flow_145 rfl ?_
                          have rv110 : 0 ≤ vh44 25 ∧ vh44 25 ≤ 208 := bn44.1 25
                          have ve57 : vh44 25 = vb17 25 := fn44.1 25 rfl
                          refine m_get (k := 25) C dX12_flow_146 w6_84 (by decide) rfl ?_
                          refine m_st (st2 := [.int (iI (v 25)), .int (iI y)]) (congrArg (fun z => Value.int (iI z) :: [.int (iI y)]) (fq44.1 25 rfl)) ?_
                          refine m_icmp_ge (tgt := 161) C ⟨by omega, by omega⟩ ⟨by omega, by omega⟩ dX12_flow_149 (by decide) (fun c79 => ?_) (fun c79 => ?_)
                          · refine m_goto (tgt := 2) C dX12_flow_161 (by decide) ?_
                            refine m_iload_n (j := 0) C dX12_flow_2 rfl ?_
                            refine m_aload_n (j := 5) C dX12_flow_3 rfl ?_
                            refine m_get (k := 25) C dX12_flow_4 w6_84 (by decide) rfl ?_
                            refine m_st (st2 := [.int (iI (v 25)), .int (iI y)]) (congrArg (fun z => Value.int (iI z) :: [.int (iI y)]) (fq44.1 25 rfl)) ?_
                            refine m_icmp_ge (tgt := 164) C ⟨by omega, by omega⟩ ⟨by omega, by omega⟩ dX12_flow_7 (by decide) (fun _ => ?_) (fun z => absurd z (by omega))
                            refine m_iconst C dX12_flow_164 ?_
                            exact m_zret C dX12_flow_165 rfl (Or.inr rfl) (Nat.le_of_ble_eq_true rfl) (Nat.le_of_ble_eq_true rfl) ⟨1, rfl, fq44, bn44, (Or.inr ⟨rfl, by show 1 ≤ vh44 39; omega⟩)⟩
                          · refine m_aload_n (j := 5) C dX12_flow_152 rfl ?_
                            refine m_call (mc2 := 0) (ms2 := 0) (As := []) (rest := []) C (M_newLine  bn44.rg (bn44.1 39)) dX12_flow_153 kV_X12_257 rfl ck_13 rfl (Nat.le_of_ble_eq_true rfl) ⟨Nat.le_of_ble_eq_true rfl, Nat.le_of_ble_eq_true rfl⟩ ⟨Nat.le_of_ble_eq_true rfl, Nat.le_of_ble_eq_true rfl⟩ (fun rh45 vh45 ah45 h45 => ?_)
                            obtain ⟨f45, rfl, fn45, bn45, ex45⟩ := W_newLine bn44  h45
                            have fq45 := fq44.call fn45 rfl rfl
                            have gf45 : (f45 = 1 ∧ vh45 39 = vh44 39 + 1 ∧ ah45 37 (vh45 39 - 1).toNat = 0) ∨ f45 = 0 := ex45
                            refine m_st (st2 := [.int (iI f45)]) rfl ?_
                            refine m_if_ne (tgt := 161) C ⟨by omega, by omega⟩ dX12_flow_156 (by decide) (fun c80 => ?_) (fun c80 => ?_)
                            · refine m_goto (tgt := 2) C dX12_flow_161 (by decide) ?_
                              have rv111 : 0 ≤ vh45 39 ∧ vh45 39 ≤ 200 := bn45.1 39
                              refine m_lv (lv2 := [(2, .int (iI y)), (0, .ref h0), (1, .int (iI t))]) [0, 5, 6] rfl ?_
                              exact ih1  y _ _ (by omega) bn45 fq45 (by omega) (by show 1 ≤ (vh45 39) ∧ (vh45 39) ≤ 200; omega)
                            · refine m_iconst C dX12_flow_159 ?_
                              exact m_zret C dX12_flow_160 rfl (Or.inl rfl) (Nat.le_of_ble_eq_true rfl) (Nat.le_of_ble_eq_true rfl) ⟨0, rfl, fq45, bn45, (Or.inl rfl)⟩
                      · refine m_aload_n (j := 5) C dX12_flow_107 rfl ?_
                        refine m_aload_n (j := 5) C dX12_flow_108 rfl ?_
                        refine m_geta (k := 24) C dX12_flow_109 w6_83 (by decide) rfl ?_
                        refine m_iload (j := 0) C dX12_flow_112 rfl ?_
                        refine m_ald (k := 24) C dX12_flow_114 rfl rfl (by decide) (by omega) (by show _ < ((_ : Nat) : Int); simp only [mlen]; omega) (by decide) ?_
                        have ra53 : (-2147483648) ≤ ab17 24 k.toNat ∧ ab17 24 k.toNat ≤ 2147483647 := bxb17.2 24 (k.toNat)
                        have ae10 : ab17 24 (k.toNat) = a 24 (k.toNat) := congrFun (fpb17.2 24 rfl) (k.toNat)
                        refine m_st (st2 := [.int (iI (a 24 k.toNat)), .ref h0]) (congrArg (fun z => Value.int (iI z) :: [.ref h0]) (congrFun (fpb17.2 24 rfl) (k.toNat))) ?_
                        have rv112 : 0 ≤ vb17 39 ∧ vb17 39 ≤ 200 := bxb17.1 39
                        have ra54 : 0 ≤ ab17 37 (vb17 39 - 1).toNat ∧ ab17 37 (vb17 39 - 1).toNat ≤ 200 := bxb17.2 37 ((vb17 39 - 1).toNat)
                        refine m_call (mc2 := 0) (ms2 := 0) (As := [.int (iI (a 24 k.toNat))]) (rest := []) C (M_putCell (x := a 24 k.toNat) bxb17.rg (by show 1 ≤ vb17 39 ∧ vb17 39 ≤ 200; omega) (by show 0 ≤ ab17 37 (vb17 39 - 1).toNat ∧ ab17 37 (vb17 39 - 1).toNat < 200; omega)) dX12_flow_115 kV_X12_253 rfl ck_13 rfl (Nat.le_of_ble_eq_true rfl) ⟨Nat.le_of_ble_eq_true rfl, Nat.le_of_ble_eq_true rfl⟩ ⟨Nat.le_of_ble_eq_true rfl, Nat.le_of_ble_eq_true rfl⟩ (fun rh46 vh46 ah46 h46 => ?_)
                        obtain ⟨rfl, fn46, bn46, ex46⟩ := W_putCell bxb17 (by omega) (by show ab17 37 (vb17 39 - 1).toNat < 200; omega) h46
                        have fq46 := fpb17.call fn46 rfl rfl
                        have rv113 : 0 ≤ vh46 39 ∧ vh46 39 ≤ 200 := bn46.1 39
                        have ve58 : vh46 39 = vb17 39 := fn46.1 39 rfl
                        have gex46 : ah46 37 (vb17 39 - 1).toNat = ab17 37 (vb17 39 - 1).toNat + 1 := ex46
                        have jex46 : ah46 37 (vh46 39 - 1).toNat = ab17 37 (vb17 39 - 1).toNat + 1 := by rw [show vh46 39 = vb17 39 by omega]; exact ex46
                        refine m_st (st2 := []) rfl ?_
                        refine m_iinc (z := k) (j := 0) (lv2 := [(6, .int (iI (k + 1))), (5, .int (iI y)), (4, .int (iI ((v 31) - ((ab1 37 ((vb1 39) - 1).toNat) + 1)))), (3, .int (iI (ab1 37 ((vb1 39) - 1).toNat))), (2, .int (iI x)), (0, .ref h0), (1, .int (iI t))]) C dX12_flow_118 rfl (by decide) rfl ?_
                        refine m_goto (tgt := 100) C dX12_flow_121 (by decide) ?_
                        have ra55 : 0 ≤ ah46 37 ((vh46 39) - 1).toNat ∧ ah46 37 ((vh46 39) - 1).toNat ≤ 200 := bn46.2 37 (((vh46 39) - 1).toNat)
                        refine m_lv (lv2 := [(6, .int (iI (k + 1))), (5, .int (iI y)), (4, .int (iI ((v 31) - ((ab1 37 ((vb1 39) - 1).toNat) + 1)))), (3, .int (iI (ab1 37 ((vb1 39) - 1).toNat))), (2, .int (iI x)), (0, .ref h0), (1, .int (iI t))]) [0, 1, 2, 3, 4, 5, 6] rfl ?_
                        exact ih10  (k + 1) _ _ (by omega) bn46 fq46 (by omega) (by show (vh46 39) = vb1 39; omega) (by show ((ah46 37 ((vh46 39) - 1).toNat) + (y1 - (k + 1)) ≤ 199 ∨ ((ah46 37 ((vh46 39) - 1).toNat) + (y1 - (k + 1)) ≤ 200 ∧ y1 = v 25)) ∧ (k + 1) ≤ y1; omega)
                  have rv114 : 0 ≤ vb13 39 ∧ vb13 39 ≤ 200 := bxb13.1 39
                  have ra56 : 0 ≤ ab13 37 ((vb13 39) - 1).toNat ∧ ab13 37 ((vb13 39) - 1).toNat ≤ 200 := bxb13.2 37 (((vb13 39) - 1).toNat)
                  refine m_lv (lv2 := [(5, .int (iI y)), (4, .int (iI ((v 31) - ((ab1 37 ((vb1 39) - 1).toNat) + 1)))), (3, .int (iI (ab1 37 ((vb1 39) - 1).toNat))), (2, .int (iI x)), (0, .ref h0), (1, .int (iI t))]) [0, 1, 2, 3, 4, 5] rfl ?_
                  exact J7  y _ _  bxb13 fpb13 (by omega) (by show (vb13 39) = vb1 39; omega) (by show (ab13 37 ((vb13 39) - 1).toNat) = h1; omega)
              · refine m_aload_n (j := 4) C dX12_flow_77 rfl ?_
                have rv115 : 0 ≤ vb13 25 ∧ vb13 25 ≤ 208 := bxb13.1 25
                have ve59 : vb13 25 = v 25 := fpb13.1 25 rfl
                refine m_get (k := 25) C dX12_flow_78 w6_84 (by decide) rfl ?_
                refine m_st (st2 := [.int (iI (v 25))]) (congrArg (fun z => Value.int (iI z) :: []) (fpb13.1 25 rfl)) ?_
                refine m_istore (lv2 := [(5, .int (iI (v 25))), (4, .int (iI ((v 31) - ((ab1 37 ((vb1 39) - 1).toNat) + 1)))), (3, .int (iI (ab1 37 ((vb1 39) - 1).toNat))), (2, .int (iI x)), (0, .ref h0), (1, .int (iI t))]) C dX12_flow_81 (by decide) rfl ?_
                refine m_iload (j := 0) C dX12_flow_83 rfl ?_
                refine m_if_lt (tgt := 144) C ⟨by omega, by omega⟩ dX12_flow_85 (by decide) (fun c81 => ?_) (fun c81 => ?_)
                · refine m_iload_n (j := 3) C dX12_flow_144 rfl ?_
                  refine m_aload_n (j := 4) C dX12_flow_145 rfl ?_
                  refine m_get (k := 25) C dX12_flow_146 w6_84 (by decide) rfl ?_
                  refine m_st (st2 := [.int (iI (v 25)), .int (iI x)]) (congrArg (fun z => Value.int (iI z) :: [.int (iI x)]) (fpb13.1 25 rfl)) ?_
                  refine m_icmp_ge (tgt := 161) C ⟨by omega, by omega⟩ ⟨by omega, by omega⟩ dX12_flow_149 (by decide) (fun c82 => ?_) (fun c82 => ?_)
                  · refine m_goto (tgt := 2) C dX12_flow_161 (by decide) ?_
                    refine m_iload_n (j := 3) C dX12_flow_2 rfl ?_
                    refine m_aload_n (j := 4) C dX12_flow_3 rfl ?_
                    refine m_get (k := 25) C dX12_flow_4 w6_84 (by decide) rfl ?_
                    refine m_st (st2 := [.int (iI (v 25)), .int (iI x)]) (congrArg (fun z => Value.int (iI z) :: [.int (iI x)]) (fpb13.1 25 rfl)) ?_
                    refine m_icmp_ge (tgt := 164) C ⟨by omega, by omega⟩ ⟨by omega, by omega⟩ dX12_flow_7 (by decide) (fun _ => ?_) (fun z => absurd z (by omega))
                    refine m_iconst C dX12_flow_164 ?_
                    exact m_zret C dX12_flow_165 rfl (Or.inr rfl) (Nat.le_of_ble_eq_true rfl) (Nat.le_of_ble_eq_true rfl) ⟨1, rfl, fpb13, bxb13, (Or.inr ⟨rfl, by show 1 ≤ vb13 39; omega⟩)⟩
                  · refine m_aload_n (j := 4) C dX12_flow_152 rfl ?_
                    refine m_call (mc2 := 0) (ms2 := 0) (As := []) (rest := []) C (M_newLine  bxb13.rg (bxb13.1 39)) dX12_flow_153 kV_X12_257 rfl ck_13 rfl (Nat.le_of_ble_eq_true rfl) ⟨Nat.le_of_ble_eq_true rfl, Nat.le_of_ble_eq_true rfl⟩ ⟨Nat.le_of_ble_eq_true rfl, Nat.le_of_ble_eq_true rfl⟩ (fun rh47 vh47 ah47 h47 => ?_)
                    obtain ⟨f47, rfl, fn47, bn47, ex47⟩ := W_newLine bxb13  h47
                    have fq47 := fpb13.call fn47 rfl rfl
                    have gf47 : (f47 = 1 ∧ vh47 39 = vb13 39 + 1 ∧ ah47 37 (vh47 39 - 1).toNat = 0) ∨ f47 = 0 := ex47
                    refine m_st (st2 := [.int (iI f47)]) rfl ?_
                    refine m_if_ne (tgt := 161) C ⟨by omega, by omega⟩ dX12_flow_156 (by decide) (fun c83 => ?_) (fun c83 => ?_)
                    · refine m_goto (tgt := 2) C dX12_flow_161 (by decide) ?_
                      have rv116 : 0 ≤ vh47 39 ∧ vh47 39 ≤ 200 := bn47.1 39
                      refine m_lv (lv2 := [(2, .int (iI x)), (0, .ref h0), (1, .int (iI t))]) [3, 4, 5] rfl ?_
                      exact ih1  x _ _ (by omega) bn47 fq47 (by omega) (by show 1 ≤ (vh47 39) ∧ (vh47 39) ≤ 200; omega)
                    · refine m_iconst C dX12_flow_159 ?_
                      exact m_zret C dX12_flow_160 rfl (Or.inl rfl) (Nat.le_of_ble_eq_true rfl) (Nat.le_of_ble_eq_true rfl) ⟨0, rfl, fq47, bn47, (Or.inl rfl)⟩
                · have Lp11 : ∀ (nn : Nat) (k : Int) (vb18 : Nat → Int) (ab18 : Nat → Nat → Int), 210 - k < (nn : Int) → BX vb18 ab18 → fr [39] [37, 38] v a vb18 ab18 → (x ≤ k ∧ k ≤ 208) → (vb18 39 = vb1 39) → ((ab18 37 (vb18 39 - 1).toNat + (y1 - k) ≤ 199 ∨ (ab18 37 (vb18 39 - 1).toNat + (y1 - k) ≤ 200 ∧ y1 = v 25)) ∧ k ≤ y1) → mw p l e (rmq 2 0 0) s m args below meth c G A 7 (MQ below (Qm G A (fun rq Lq Eq => ∃ (vq : Nat → Int) (aq : Nat → Nat → Int), mI G h0 ad ln vq aq Lq Eq ∧ (fun r v2 a2 => ∃ f : Int, r = some (.int (iI f)) ∧ fr [39] [37, 38] v a v2 a2 ∧ BX v2 a2 ∧ (f = 0 ∨ (f = 1 ∧ 1 ≤ v2 39))) rq vq aq)) args s 0 0 A) h0 ad ln vb18 ab18 0 0 100 [(6, .int (iI k)), (5, .int (iI (v 25))), (4, .int (iI ((v 31) - ((ab1 37 ((vb1 39) - 1).toNat) + 1)))), (3, .int (iI (ab1 37 ((vb1 39) - 1).toNat))), (2, .int (iI x)), (0, .ref h0), (1, .int (iI t))] [] := by
                    intro nn
                    induction nn with
                    | zero =>
                      intro k vb18 ab18 hm bxb18 fpb18 hk hn4 hh4
                      exact absurd hm (by omega)
                    | succ nn ih11 =>
                      intro k vb18 ab18 hm bxb18 fpb18 hk hn4 hh4
                      refine m_iload (j := 0) C dX12_flow_100 rfl ?_
                      refine m_iload (j := 1) C dX12_flow_102 rfl ?_
                      refine m_icmp_ge (tgt := 124) C ⟨by omega, by omega⟩ ⟨by omega, by omega⟩ dX12_flow_104 (by decide) (fun c84 => ?_) (fun c84 => ?_)
                      · refine m_iload (j := 1) C dX12_flow_124 rfl ?_
                        refine m_aload_n (j := 5) C dX12_flow_126 rfl ?_
                        have rv117 : 0 ≤ vb18 25 ∧ vb18 25 ≤ 208 := bxb18.1 25
                        have ve60 : vb18 25 = v 25 := fpb18.1 25 rfl
                        refine m_get (k := 25) C dX12_flow_127 w6_84 (by decide) rfl ?_
                        refine m_st (st2 := [.int (iI (v 25)), .int (iI (v 25))]) (congrArg (fun z => Value.int (iI z) :: [.int (iI (v 25))]) (fpb18.1 25 rfl)) ?_
                        refine m_icmp_ge (tgt := 141) C ⟨by omega, by omega⟩ ⟨by omega, by omega⟩ dX12_flow_130 (by decide) (fun c85 => ?_) (fun c85 => ?_)
                        · refine m_iload (j := 1) C dX12_flow_141 rfl ?_
                          refine m_istore_n (lv2 := [(2, .int (iI (v 25))), (6, .int (iI k)), (5, .int (iI (v 25))), (4, .int (iI ((v 31) - ((ab1 37 ((vb1 39) - 1).toNat) + 1)))), (3, .int (iI (ab1 37 ((vb1 39) - 1).toNat))), (0, .ref h0), (1, .int (iI t))]) C dX12_flow_143 (by decide) rfl ?_
                          refine m_iload_n (j := 0) C dX12_flow_144 rfl ?_
                          refine m_aload_n (j := 5) C dX12_flow_145 rfl ?_
                          refine m_get (k := 25) C dX12_flow_146 w6_84 (by decide) rfl ?_
                          refine m_st (st2 := [.int (iI (v 25)), .int (iI (v 25))]) (congrArg (fun z => Value.int (iI z) :: [.int (iI (v 25))]) (fpb18.1 25 rfl)) ?_
                          refine m_icmp_ge (tgt := 161) C ⟨by omega, by omega⟩ ⟨by omega, by omega⟩ dX12_flow_149 (by decide) (fun c86 => ?_) (fun c86 => ?_)
                          · refine m_goto (tgt := 2) C dX12_flow_161 (by decide) ?_
                            refine m_iload_n (j := 0) C dX12_flow_2 rfl ?_
                            refine m_aload_n (j := 5) C dX12_flow_3 rfl ?_
                            refine m_get (k := 25) C dX12_flow_4 w6_84 (by decide) rfl ?_
                            refine m_st (st2 := [.int (iI (v 25)), .int (iI (v 25))]) (congrArg (fun z => Value.int (iI z) :: [.int (iI (v 25))]) (fpb18.1 25 rfl)) ?_
                            refine m_icmp_ge (tgt := 164) C ⟨by omega, by omega⟩ ⟨by omega, by omega⟩ dX12_flow_7 (by decide) (fun _ => ?_) (fun z => absurd z (by omega))
                            refine m_iconst C dX12_flow_164 ?_
                            exact m_zret C dX12_flow_165 rfl (Or.inr rfl) (Nat.le_of_ble_eq_true rfl) (Nat.le_of_ble_eq_true rfl) ⟨1, rfl, fpb18, bxb18, (Or.inr ⟨rfl, by show 1 ≤ vb18 39; omega⟩)⟩
                          · refine m_aload_n (j := 5) C dX12_flow_152 rfl ?_
                            refine m_call (mc2 := 0) (ms2 := 0) (As := []) (rest := []) C (M_newLine  bxb18.rg (bxb18.1 39)) dX12_flow_153 kV_X12_257 rfl ck_13 rfl (Nat.le_of_ble_eq_true rfl) ⟨Nat.le_of_ble_eq_true rfl, Nat.le_of_ble_eq_true rfl⟩ ⟨Nat.le_of_ble_eq_true rfl, Nat.le_of_ble_eq_true rfl⟩ (fun rh48 vh48 ah48 h48 => ?_)
                            obtain ⟨f48, rfl, fn48, bn48, ex48⟩ := W_newLine bxb18  h48
                            have fq48 := fpb18.call fn48 rfl rfl
                            have gf48 : (f48 = 1 ∧ vh48 39 = vb18 39 + 1 ∧ ah48 37 (vh48 39 - 1).toNat = 0) ∨ f48 = 0 := ex48
                            refine m_st (st2 := [.int (iI f48)]) rfl ?_
                            refine m_if_ne (tgt := 161) C ⟨by omega, by omega⟩ dX12_flow_156 (by decide) (fun c87 => ?_) (fun c87 => ?_)
                            · refine m_goto (tgt := 2) C dX12_flow_161 (by decide) ?_
                              have rv118 : 0 ≤ vh48 39 ∧ vh48 39 ≤ 200 := bn48.1 39
                              refine m_lv (lv2 := [(2, .int (iI (v 25))), (0, .ref h0), (1, .int (iI t))]) [0, 5, 6] rfl ?_
                              exact ih1  (v 25) _ _ (by omega) bn48 fq48 (by omega) (by show 1 ≤ (vh48 39) ∧ (vh48 39) ≤ 200; omega)
                            · refine m_iconst C dX12_flow_159 ?_
                              exact m_zret C dX12_flow_160 rfl (Or.inl rfl) (Nat.le_of_ble_eq_true rfl) (Nat.le_of_ble_eq_true rfl) ⟨0, rfl, fq48, bn48, (Or.inl rfl)⟩
                        · refine m_aload_n (j := 5) C dX12_flow_133 rfl ?_
                          refine m_aload_n (j := 5) C dX12_flow_134 rfl ?_
                          have rv119 : (-2147483648) ≤ vb18 33 ∧ vb18 33 ≤ 2147483647 := bxb18.1 33
                          have ve61 : vb18 33 = v 33 := fpb18.1 33 rfl
                          refine m_get (k := 33) C dX12_flow_135 w6_92 (by decide) rfl ?_
                          refine m_st (st2 := [.int (iI (v 33)), .ref h0]) (congrArg (fun z => Value.int (iI z) :: [.ref h0]) (fpb18.1 33 rfl)) ?_
                          have rv120 : 0 ≤ vb18 39 ∧ vb18 39 ≤ 200 := bxb18.1 39
                          have ra57 : 0 ≤ ab18 37 (vb18 39 - 1).toNat ∧ ab18 37 (vb18 39 - 1).toNat ≤ 200 := bxb18.2 37 ((vb18 39 - 1).toNat)
                          refine m_call (mc2 := 0) (ms2 := 0) (As := [.int (iI (v 33))]) (rest := []) C (M_putCell (x := v 33) bxb18.rg (by show 1 ≤ vb18 39 ∧ vb18 39 ≤ 200; omega) (by show 0 ≤ ab18 37 (vb18 39 - 1).toNat ∧ ab18 37 (vb18 39 - 1).toNat < 200; omega)) dX12_flow_138 kV_X12_253 rfl ck_13 rfl (Nat.le_of_ble_eq_true rfl) ⟨Nat.le_of_ble_eq_true rfl, Nat.le_of_ble_eq_true rfl⟩ ⟨Nat.le_of_ble_eq_true rfl, Nat.le_of_ble_eq_true rfl⟩ (fun rh49 vh49 ah49 h49 => ?_)
                          obtain ⟨rfl, fn49, bn49, ex49⟩ := W_putCell bxb18 (by omega) (by show ab18 37 (vb18 39 - 1).toNat < 200; omega) h49
                          have fq49 := fpb18.call fn49 rfl rfl
                          have rv121 : 0 ≤ vh49 39 ∧ vh49 39 ≤ 200 := bn49.1 39
                          have ve62 : vh49 39 = vb18 39 := fn49.1 39 rfl
                          have gex49 : ah49 37 (vb18 39 - 1).toNat = ab18 37 (vb18 39 - 1).toNat + 1 := ex49
                          have jex49 : ah49 37 (vh49 39 - 1).toNat = ab18 37 (vb18 39 - 1).toNat + 1 := by rw [show vh49 39 = vb18 39 by omega]; exact ex49
                          refine m_st (st2 := []) rfl ?_
                          refine m_iload (j := 1) C dX12_flow_141 rfl ?_
                          refine m_istore_n (lv2 := [(2, .int (iI (v 25))), (6, .int (iI k)), (5, .int (iI (v 25))), (4, .int (iI ((v 31) - ((ab1 37 ((vb1 39) - 1).toNat) + 1)))), (3, .int (iI (ab1 37 ((vb1 39) - 1).toNat))), (0, .ref h0), (1, .int (iI t))]) C dX12_flow_143 (by decide) rfl ?_
                          refine m_iload_n (j := 0) C dX12_flow_144 rfl ?_
                          refine m_aload_n (j := 5) C dX12_flow_145 rfl ?_
                          have rv122 : 0 ≤ vh49 25 ∧ vh49 25 ≤ 208 := bn49.1 25
                          have ve63 : vh49 25 = vb18 25 := fn49.1 25 rfl
                          refine m_get (k := 25) C dX12_flow_146 w6_84 (by decide) rfl ?_
                          refine m_st (st2 := [.int (iI (v 25)), .int (iI (v 25))]) (congrArg (fun z => Value.int (iI z) :: [.int (iI (v 25))]) (fq49.1 25 rfl)) ?_
                          refine m_icmp_ge (tgt := 161) C ⟨by omega, by omega⟩ ⟨by omega, by omega⟩ dX12_flow_149 (by decide) (fun c88 => ?_) (fun c88 => ?_)
                          · refine m_goto (tgt := 2) C dX12_flow_161 (by decide) ?_
                            refine m_iload_n (j := 0) C dX12_flow_2 rfl ?_
                            refine m_aload_n (j := 5) C dX12_flow_3 rfl ?_
                            refine m_get (k := 25) C dX12_flow_4 w6_84 (by decide) rfl ?_
                            refine m_st (st2 := [.int (iI (v 25)), .int (iI (v 25))]) (congrArg (fun z => Value.int (iI z) :: [.int (iI (v 25))]) (fq49.1 25 rfl)) ?_
                            refine m_icmp_ge (tgt := 164) C ⟨by omega, by omega⟩ ⟨by omega, by omega⟩ dX12_flow_7 (by decide) (fun _ => ?_) (fun z => absurd z (by omega))
                            refine m_iconst C dX12_flow_164 ?_
                            exact m_zret C dX12_flow_165 rfl (Or.inr rfl) (Nat.le_of_ble_eq_true rfl) (Nat.le_of_ble_eq_true rfl) ⟨1, rfl, fq49, bn49, (Or.inr ⟨rfl, by show 1 ≤ vh49 39; omega⟩)⟩
                          · refine m_aload_n (j := 5) C dX12_flow_152 rfl ?_
                            refine m_call (mc2 := 0) (ms2 := 0) (As := []) (rest := []) C (M_newLine  bn49.rg (bn49.1 39)) dX12_flow_153 kV_X12_257 rfl ck_13 rfl (Nat.le_of_ble_eq_true rfl) ⟨Nat.le_of_ble_eq_true rfl, Nat.le_of_ble_eq_true rfl⟩ ⟨Nat.le_of_ble_eq_true rfl, Nat.le_of_ble_eq_true rfl⟩ (fun rh50 vh50 ah50 h50 => ?_)
                            obtain ⟨f50, rfl, fn50, bn50, ex50⟩ := W_newLine bn49  h50
                            have fq50 := fq49.call fn50 rfl rfl
                            have gf50 : (f50 = 1 ∧ vh50 39 = vh49 39 + 1 ∧ ah50 37 (vh50 39 - 1).toNat = 0) ∨ f50 = 0 := ex50
                            refine m_st (st2 := [.int (iI f50)]) rfl ?_
                            refine m_if_ne (tgt := 161) C ⟨by omega, by omega⟩ dX12_flow_156 (by decide) (fun c89 => ?_) (fun c89 => ?_)
                            · refine m_goto (tgt := 2) C dX12_flow_161 (by decide) ?_
                              have rv123 : 0 ≤ vh50 39 ∧ vh50 39 ≤ 200 := bn50.1 39
                              refine m_lv (lv2 := [(2, .int (iI (v 25))), (0, .ref h0), (1, .int (iI t))]) [0, 5, 6] rfl ?_
                              exact ih1  (v 25) _ _ (by omega) bn50 fq50 (by omega) (by show 1 ≤ (vh50 39) ∧ (vh50 39) ≤ 200; omega)
                            · refine m_iconst C dX12_flow_159 ?_
                              exact m_zret C dX12_flow_160 rfl (Or.inl rfl) (Nat.le_of_ble_eq_true rfl) (Nat.le_of_ble_eq_true rfl) ⟨0, rfl, fq50, bn50, (Or.inl rfl)⟩
                      · refine m_aload_n (j := 5) C dX12_flow_107 rfl ?_
                        refine m_aload_n (j := 5) C dX12_flow_108 rfl ?_
                        refine m_geta (k := 24) C dX12_flow_109 w6_83 (by decide) rfl ?_
                        refine m_iload (j := 0) C dX12_flow_112 rfl ?_
                        refine m_ald (k := 24) C dX12_flow_114 rfl rfl (by decide) (by omega) (by show _ < ((_ : Nat) : Int); simp only [mlen]; omega) (by decide) ?_
                        have ra58 : (-2147483648) ≤ ab18 24 k.toNat ∧ ab18 24 k.toNat ≤ 2147483647 := bxb18.2 24 (k.toNat)
                        have ae11 : ab18 24 (k.toNat) = a 24 (k.toNat) := congrFun (fpb18.2 24 rfl) (k.toNat)
                        refine m_st (st2 := [.int (iI (a 24 k.toNat)), .ref h0]) (congrArg (fun z => Value.int (iI z) :: [.ref h0]) (congrFun (fpb18.2 24 rfl) (k.toNat))) ?_
                        have rv124 : 0 ≤ vb18 39 ∧ vb18 39 ≤ 200 := bxb18.1 39
                        have ra59 : 0 ≤ ab18 37 (vb18 39 - 1).toNat ∧ ab18 37 (vb18 39 - 1).toNat ≤ 200 := bxb18.2 37 ((vb18 39 - 1).toNat)
                        refine m_call (mc2 := 0) (ms2 := 0) (As := [.int (iI (a 24 k.toNat))]) (rest := []) C (M_putCell (x := a 24 k.toNat) bxb18.rg (by show 1 ≤ vb18 39 ∧ vb18 39 ≤ 200; omega) (by show 0 ≤ ab18 37 (vb18 39 - 1).toNat ∧ ab18 37 (vb18 39 - 1).toNat < 200; omega)) dX12_flow_115 kV_X12_253 rfl ck_13 rfl (Nat.le_of_ble_eq_true rfl) ⟨Nat.le_of_ble_eq_true rfl, Nat.le_of_ble_eq_true rfl⟩ ⟨Nat.le_of_ble_eq_true rfl, Nat.le_of_ble_eq_true rfl⟩ (fun rh51 vh51 ah51 h51 => ?_)
                        obtain ⟨rfl, fn51, bn51, ex51⟩ := W_putCell bxb18 (by omega) (by show ab18 37 (vb18 39 - 1).toNat < 200; omega) h51
                        have fq51 := fpb18.call fn51 rfl rfl
                        have rv125 : 0 ≤ vh51 39 ∧ vh51 39 ≤ 200 := bn51.1 39
                        have ve64 : vh51 39 = vb18 39 := fn51.1 39 rfl
                        have gex51 : ah51 37 (vb18 39 - 1).toNat = ab18 37 (vb18 39 - 1).toNat + 1 := ex51
                        have jex51 : ah51 37 (vh51 39 - 1).toNat = ab18 37 (vb18 39 - 1).toNat + 1 := by rw [show vh51 39 = vb18 39 by omega]; exact ex51
                        refine m_st (st2 := []) rfl ?_
                        refine m_iinc (z := k) (j := 0) (lv2 := [(6, .int (iI (k + 1))), (5, .int (iI (v 25))), (4, .int (iI ((v 31) - ((ab1 37 ((vb1 39) - 1).toNat) + 1)))), (3, .int (iI (ab1 37 ((vb1 39) - 1).toNat))), (2, .int (iI x)), (0, .ref h0), (1, .int (iI t))]) C dX12_flow_118 rfl (by decide) rfl ?_
                        refine m_goto (tgt := 100) C dX12_flow_121 (by decide) ?_
                        have ra60 : 0 ≤ ah51 37 ((vh51 39) - 1).toNat ∧ ah51 37 ((vh51 39) - 1).toNat ≤ 200 := bn51.2 37 (((vh51 39) - 1).toNat)
                        refine m_lv (lv2 := [(6, .int (iI (k + 1))), (5, .int (iI (v 25))), (4, .int (iI ((v 31) - ((ab1 37 ((vb1 39) - 1).toNat) + 1)))), (3, .int (iI (ab1 37 ((vb1 39) - 1).toNat))), (2, .int (iI x)), (0, .ref h0), (1, .int (iI t))]) [0, 1, 2, 3, 4, 5, 6] rfl ?_
                        exact ih11  (k + 1) _ _ (by omega) bn51 fq51 (by omega) (by show (vh51 39) = vb1 39; omega) (by show ((ah51 37 ((vh51 39) - 1).toNat) + (y1 - (k + 1)) ≤ 199 ∨ ((ah51 37 ((vh51 39) - 1).toNat) + (y1 - (k + 1)) ≤ 200 ∧ y1 = v 25)) ∧ (k + 1) ≤ y1; omega)
                  have rv126 : 0 ≤ vb13 39 ∧ vb13 39 ≤ 200 := bxb13.1 39
                  have ra61 : 0 ≤ ab13 37 ((vb13 39) - 1).toNat ∧ ab13 37 ((vb13 39) - 1).toNat ≤ 200 := bxb13.2 37 (((vb13 39) - 1).toNat)
                  refine m_lv (lv2 := [(5, .int (iI (v 25))), (4, .int (iI ((v 31) - ((ab1 37 ((vb1 39) - 1).toNat) + 1)))), (3, .int (iI (ab1 37 ((vb1 39) - 1).toNat))), (2, .int (iI x)), (0, .ref h0), (1, .int (iI t))]) [0, 1, 2, 3, 4, 5] rfl ?_
                  exact J7  (v 25) _ _  bxb13 fpb13 (by omega) (by show (vb13 39) = vb1 39; omega) (by show (ab13 37 ((vb13 39) - 1).toNat) = h1; omega)
          refine m_lv (lv2 := [(4, .int (iI ((v 31) - ((ab1 37 ((vb1 39) - 1).toNat) + 1)))), (3, .int (iI (ab1 37 ((vb1 39) - 1).toNat))), (2, .int (iI x)), (0, .ref h0), (1, .int (iI t))]) [0, 1, 2, 3, 4] rfl ?_
          exact J1  (ab1 37 ((vb1 39) - 1).toNat) ((v 31) - ((ab1 37 ((vb1 39) - 1).toNat) + 1)) _ _  bxb1 fpb1 (by omega) (by show (vb1 39) = vb1 39; omega) (by show (ab1 37 ((vb1 39) - 1).toNat) = (ab1 37 ((vb1 39) - 1).toNat); omega)
        · refine m_iconst C dX12_flow_30 ?_
          refine m_goto (tgt := 37) C dX12_flow_31 (by decide) ?_
          refine m_isub C dX12_flow_37 ?_
          refine m_istore (lv2 := [(4, .int (iI ((v 31) - 0))), (3, .int (iI (ab1 37 ((vb1 39) - 1).toNat))), (2, .int (iI x)), (0, .ref h0), (1, .int (iI t))]) C dX12_flow_38 (by decide) rfl ?_
          have J8 : ∀ (y : Int) (vb19 : Nat → Int) (ab19 : Nat → Nat → Int), BX vb19 ab19 → fr [39] [37, 38] v a vb19 ab19 → (y = -1 ∨ (y = v 25 ∧ v 25 - x ≤ z1) ∨ (x < y ∧ y ≤ 208 ∧ y - x + 1 ≤ z1)) → (vb19 39 = vb1 39) → (ab19 37 (vb19 39 - 1).toNat = h1) → mw p l e (rmq 2 0 0) s m args below meth c G A 7 (MQ below (Qm G A (fun rq Lq Eq => ∃ (vq : Nat → Int) (aq : Nat → Nat → Int), mI G h0 ad ln vq aq Lq Eq ∧ (fun r v2 a2 => ∃ f : Int, r = some (.int (iI f)) ∧ fr [39] [37, 38] v a v2 a2 ∧ BX v2 a2 ∧ (f = 0 ∨ (f = 1 ∧ 1 ≤ v2 39))) rq vq aq)) args s 0 0 A) h0 ad ln vb19 ab19 0 0 68 [(5, .int (iI y)), (4, .int (iI ((v 31) - 0))), (3, .int (iI (ab1 37 ((vb1 39) - 1).toNat))), (2, .int (iI x)), (0, .ref h0), (1, .int (iI t))] [] := by
            intro y vb19 ab19 bxb19 fpb19 hy hn2 hh2
            have J9 : ∀ (y1 : Int) (vb20 : Nat → Int) (ab20 : Nat → Nat → Int), BX vb20 ab20 → fr [39] [37, 38] v a vb20 ab20 → ((h1 = 0 ∧ y1 = v 25) ∨ (y1 = v 25 ∧ v 25 - x ≤ z1) ∨ (x < y1 ∧ y1 ≤ 208 ∧ y1 - x + 1 ≤ z1)) → (vb20 39 = vb1 39) → (ab20 37 (vb20 39 - 1).toNat = h1) → mw p l e (rmq 2 0 0) s m args below meth c G A 7 (MQ below (Qm G A (fun rq Lq Eq => ∃ (vq : Nat → Int) (aq : Nat → Nat → Int), mI G h0 ad ln vq aq Lq Eq ∧ (fun r v2 a2 => ∃ f : Int, r = some (.int (iI f)) ∧ fr [39] [37, 38] v a v2 a2 ∧ BX v2 a2 ∧ (f = 0 ∨ (f = 1 ∧ 1 ≤ v2 39))) rq vq aq)) args s 0 0 A) h0 ad ln vb20 ab20 0 0 88 [(5, .int (iI y1)), (4, .int (iI ((v 31) - 0))), (3, .int (iI (ab1 37 ((vb1 39) - 1).toNat))), (2, .int (iI x)), (0, .ref h0), (1, .int (iI t))] [] := by
              intro y1 vb20 ab20 bxb20 fpb20 hy1 hn3 hh3
              have Lp12 : ∀ (nn : Nat) (k : Int) (vb21 : Nat → Int) (ab21 : Nat → Nat → Int), 210 - k < (nn : Int) → BX vb21 ab21 → fr [39] [37, 38] v a vb21 ab21 → (x ≤ k ∧ k ≤ 208) → (vb21 39 = vb1 39) → ((ab21 37 (vb21 39 - 1).toNat + (y1 - k) ≤ 199 ∨ (ab21 37 (vb21 39 - 1).toNat + (y1 - k) ≤ 200 ∧ y1 = v 25)) ∧ k ≤ y1) → mw p l e (rmq 2 0 0) s m args below meth c G A 7 (MQ below (Qm G A (fun rq Lq Eq => ∃ (vq : Nat → Int) (aq : Nat → Nat → Int), mI G h0 ad ln vq aq Lq Eq ∧ (fun r v2 a2 => ∃ f : Int, r = some (.int (iI f)) ∧ fr [39] [37, 38] v a v2 a2 ∧ BX v2 a2 ∧ (f = 0 ∨ (f = 1 ∧ 1 ≤ v2 39))) rq vq aq)) args s 0 0 A) h0 ad ln vb21 ab21 0 0 100 [(6, .int (iI k)), (5, .int (iI y1)), (4, .int (iI ((v 31) - 0))), (3, .int (iI (ab1 37 ((vb1 39) - 1).toNat))), (2, .int (iI x)), (0, .ref h0), (1, .int (iI t))] [] := by
                intro nn
                induction nn with
                | zero =>
                  intro k vb21 ab21 hm bxb21 fpb21 hk hn4 hh4
                  exact absurd hm (by omega)
                | succ nn ih12 =>
                  intro k vb21 ab21 hm bxb21 fpb21 hk hn4 hh4
                  refine m_iload (j := 0) C dX12_flow_100 rfl ?_
                  refine m_iload (j := 1) C dX12_flow_102 rfl ?_
                  refine m_icmp_ge (tgt := 124) C ⟨by omega, by omega⟩ ⟨by omega, by omega⟩ dX12_flow_104 (by decide) (fun c90 => ?_) (fun c90 => ?_)
                  · refine m_iload (j := 1) C dX12_flow_124 rfl ?_
                    refine m_aload_n (j := 5) C dX12_flow_126 rfl ?_
                    have rv127 : 0 ≤ vb21 25 ∧ vb21 25 ≤ 208 := bxb21.1 25
                    have ve65 : vb21 25 = v 25 := fpb21.1 25 rfl
                    refine m_get (k := 25) C dX12_flow_127 w6_84 (by decide) rfl ?_
                    refine m_st (st2 := [.int (iI (v 25)), .int (iI y1)]) (congrArg (fun z => Value.int (iI z) :: [.int (iI y1)]) (fpb21.1 25 rfl)) ?_
                    refine m_icmp_ge (tgt := 141) C ⟨by omega, by omega⟩ ⟨by omega, by omega⟩ dX12_flow_130 (by decide) (fun c91 => ?_) (fun c91 => ?_)
                    · refine m_iload (j := 1) C dX12_flow_141 rfl ?_
                      refine m_istore_n (lv2 := [(2, .int (iI y1)), (6, .int (iI k)), (5, .int (iI y1)), (4, .int (iI ((v 31) - 0))), (3, .int (iI (ab1 37 ((vb1 39) - 1).toNat))), (0, .ref h0), (1, .int (iI t))]) C dX12_flow_143 (by decide) rfl ?_
                      refine m_iload_n (j := 0) C dX12_flow_144 rfl ?_
                      refine m_aload_n (j := 5) C dX12_flow_145 rfl ?_
                      refine m_get (k := 25) C dX12_flow_146 w6_84 (by decide) rfl ?_
                      refine m_st (st2 := [.int (iI (v 25)), .int (iI y1)]) (congrArg (fun z => Value.int (iI z) :: [.int (iI y1)]) (fpb21.1 25 rfl)) ?_
                      refine m_icmp_ge (tgt := 161) C ⟨by omega, by omega⟩ ⟨by omega, by omega⟩ dX12_flow_149 (by decide) (fun c92 => ?_) (fun c92 => ?_)
                      · refine m_goto (tgt := 2) C dX12_flow_161 (by decide) ?_
                        refine m_iload_n (j := 0) C dX12_flow_2 rfl ?_
                        refine m_aload_n (j := 5) C dX12_flow_3 rfl ?_
                        refine m_get (k := 25) C dX12_flow_4 w6_84 (by decide) rfl ?_
                        refine m_st (st2 := [.int (iI (v 25)), .int (iI y1)]) (congrArg (fun z => Value.int (iI z) :: [.int (iI y1)]) (fpb21.1 25 rfl)) ?_
                        refine m_icmp_ge (tgt := 164) C ⟨by omega, by omega⟩ ⟨by omega, by omega⟩ dX12_flow_7 (by decide) (fun _ => ?_) (fun z => absurd z (by omega))
                        refine m_iconst C dX12_flow_164 ?_
                        exact m_zret C dX12_flow_165 rfl (Or.inr rfl) (Nat.le_of_ble_eq_true rfl) (Nat.le_of_ble_eq_true rfl) ⟨1, rfl, fpb21, bxb21, (Or.inr ⟨rfl, by show 1 ≤ vb21 39; omega⟩)⟩
                      · refine m_aload_n (j := 5) C dX12_flow_152 rfl ?_
                        refine m_call (mc2 := 0) (ms2 := 0) (As := []) (rest := []) C (M_newLine  bxb21.rg (bxb21.1 39)) dX12_flow_153 kV_X12_257 rfl ck_13 rfl (Nat.le_of_ble_eq_true rfl) ⟨Nat.le_of_ble_eq_true rfl, Nat.le_of_ble_eq_true rfl⟩ ⟨Nat.le_of_ble_eq_true rfl, Nat.le_of_ble_eq_true rfl⟩ (fun rh52 vh52 ah52 h52 => ?_)
                        obtain ⟨f52, rfl, fn52, bn52, ex52⟩ := W_newLine bxb21  h52
                        have fq52 := fpb21.call fn52 rfl rfl
                        have gf52 : (f52 = 1 ∧ vh52 39 = vb21 39 + 1 ∧ ah52 37 (vh52 39 - 1).toNat = 0) ∨ f52 = 0 := ex52
                        refine m_st (st2 := [.int (iI f52)]) rfl ?_
                        refine m_if_ne (tgt := 161) C ⟨by omega, by omega⟩ dX12_flow_156 (by decide) (fun c93 => ?_) (fun c93 => ?_)
                        · refine m_goto (tgt := 2) C dX12_flow_161 (by decide) ?_
                          have rv128 : 0 ≤ vh52 39 ∧ vh52 39 ≤ 200 := bn52.1 39
                          refine m_lv (lv2 := [(2, .int (iI y1)), (0, .ref h0), (1, .int (iI t))]) [0, 5, 6] rfl ?_
                          exact ih1  y1 _ _ (by omega) bn52 fq52 (by omega) (by show 1 ≤ (vh52 39) ∧ (vh52 39) ≤ 200; omega)
                        · refine m_iconst C dX12_flow_159 ?_
                          exact m_zret C dX12_flow_160 rfl (Or.inl rfl) (Nat.le_of_ble_eq_true rfl) (Nat.le_of_ble_eq_true rfl) ⟨0, rfl, fq52, bn52, (Or.inl rfl)⟩
                    · refine m_aload_n (j := 5) C dX12_flow_133 rfl ?_
                      refine m_aload_n (j := 5) C dX12_flow_134 rfl ?_
                      have rv129 : (-2147483648) ≤ vb21 33 ∧ vb21 33 ≤ 2147483647 := bxb21.1 33
                      have ve66 : vb21 33 = v 33 := fpb21.1 33 rfl
                      refine m_get (k := 33) C dX12_flow_135 w6_92 (by decide) rfl ?_
                      refine m_st (st2 := [.int (iI (v 33)), .ref h0]) (congrArg (fun z => Value.int (iI z) :: [.ref h0]) (fpb21.1 33 rfl)) ?_
                      have rv130 : 0 ≤ vb21 39 ∧ vb21 39 ≤ 200 := bxb21.1 39
                      have ra62 : 0 ≤ ab21 37 (vb21 39 - 1).toNat ∧ ab21 37 (vb21 39 - 1).toNat ≤ 200 := bxb21.2 37 ((vb21 39 - 1).toNat)
                      refine m_call (mc2 := 0) (ms2 := 0) (As := [.int (iI (v 33))]) (rest := []) C (M_putCell (x := v 33) bxb21.rg (by show 1 ≤ vb21 39 ∧ vb21 39 ≤ 200; omega) (by show 0 ≤ ab21 37 (vb21 39 - 1).toNat ∧ ab21 37 (vb21 39 - 1).toNat < 200; omega)) dX12_flow_138 kV_X12_253 rfl ck_13 rfl (Nat.le_of_ble_eq_true rfl) ⟨Nat.le_of_ble_eq_true rfl, Nat.le_of_ble_eq_true rfl⟩ ⟨Nat.le_of_ble_eq_true rfl, Nat.le_of_ble_eq_true rfl⟩ (fun rh53 vh53 ah53 h53 => ?_)
                      obtain ⟨rfl, fn53, bn53, ex53⟩ := W_putCell bxb21 (by omega) (by show ab21 37 (vb21 39 - 1).toNat < 200; omega) h53
                      have fq53 := fpb21.call fn53 rfl rfl
                      have rv131 : 0 ≤ vh53 39 ∧ vh53 39 ≤ 200 := bn53.1 39
                      have ve67 : vh53 39 = vb21 39 := fn53.1 39 rfl
                      have gex53 : ah53 37 (vb21 39 - 1).toNat = ab21 37 (vb21 39 - 1).toNat + 1 := ex53
                      have jex53 : ah53 37 (vh53 39 - 1).toNat = ab21 37 (vb21 39 - 1).toNat + 1 := by rw [show vh53 39 = vb21 39 by omega]; exact ex53
                      refine m_st (st2 := []) rfl ?_
                      refine m_iload (j := 1) C dX12_flow_141 rfl ?_
                      refine m_istore_n (lv2 := [(2, .int (iI y1)), (6, .int (iI k)), (5, .int (iI y1)), (4, .int (iI ((v 31) - 0))), (3, .int (iI (ab1 37 ((vb1 39) - 1).toNat))), (0, .ref h0), (1, .int (iI t))]) C dX12_flow_143 (by decide) rfl ?_
                      refine m_iload_n (j := 0) C dX12_flow_144 rfl ?_
                      refine m_aload_n (j := 5) C dX12_flow_145 rfl ?_
                      have rv132 : 0 ≤ vh53 25 ∧ vh53 25 ≤ 208 := bn53.1 25
                      have ve68 : vh53 25 = vb21 25 := fn53.1 25 rfl
                      refine m_get (k := 25) C dX12_flow_146 w6_84 (by decide) rfl ?_
                      refine m_st (st2 := [.int (iI (v 25)), .int (iI y1)]) (congrArg (fun z => Value.int (iI z) :: [.int (iI y1)]) (fq53.1 25 rfl)) ?_
                      refine m_icmp_ge (tgt := 161) C ⟨by omega, by omega⟩ ⟨by omega, by omega⟩ dX12_flow_149 (by decide) (fun c94 => ?_) (fun c94 => ?_)
                      · refine m_goto (tgt := 2) C dX12_flow_161 (by decide) ?_
                        refine m_iload_n (j := 0) C dX12_flow_2 rfl ?_
                        refine m_aload_n (j := 5) C dX12_flow_3 rfl ?_
                        refine m_get (k := 25) C dX12_flow_4 w6_84 (by decide) rfl ?_
                        refine m_st (st2 := [.int (iI (v 25)), .int (iI y1)]) (congrArg (fun z => Value.int (iI z) :: [.int (iI y1)]) (fq53.1 25 rfl)) ?_
                        refine m_icmp_ge (tgt := 164) C ⟨by omega, by omega⟩ ⟨by omega, by omega⟩ dX12_flow_7 (by decide) (fun _ => ?_) (fun z => absurd z (by omega))
                        refine m_iconst C dX12_flow_164 ?_
                        exact m_zret C dX12_flow_165 rfl (Or.inr rfl) (Nat.le_of_ble_eq_true rfl) (Nat.le_of_ble_eq_true rfl) ⟨1, rfl, fq53, bn53, (Or.inr ⟨rfl, by show 1 ≤ vh53 39; omega⟩)⟩
                      · refine m_aload_n (j := 5) C dX12_flow_152 rfl ?_
                        refine m_call (mc2 := 0) (ms2 := 0) (As := []) (rest := []) C (M_newLine  bn53.rg (bn53.1 39)) dX12_flow_153 kV_X12_257 rfl ck_13 rfl (Nat.le_of_ble_eq_true rfl) ⟨Nat.le_of_ble_eq_true rfl, Nat.le_of_ble_eq_true rfl⟩ ⟨Nat.le_of_ble_eq_true rfl, Nat.le_of_ble_eq_true rfl⟩ (fun rh54 vh54 ah54 h54 => ?_)
                        obtain ⟨f54, rfl, fn54, bn54, ex54⟩ := W_newLine bn53  h54
                        have fq54 := fq53.call fn54 rfl rfl
                        have gf54 : (f54 = 1 ∧ vh54 39 = vh53 39 + 1 ∧ ah54 37 (vh54 39 - 1).toNat = 0) ∨ f54 = 0 := ex54
                        refine m_st (st2 := [.int (iI f54)]) rfl ?_
                        refine m_if_ne (tgt := 161) C ⟨by omega, by omega⟩ dX12_flow_156 (by decide) (fun c95 => ?_) (fun c95 => ?_)
                        · refine m_goto (tgt := 2) C dX12_flow_161 (by decide) ?_
                          have rv133 : 0 ≤ vh54 39 ∧ vh54 39 ≤ 200 := bn54.1 39
                          refine m_lv (lv2 := [(2, .int (iI y1)), (0, .ref h0), (1, .int (iI t))]) [0, 5, 6] rfl ?_
                          exact ih1  y1 _ _ (by omega) bn54 fq54 (by omega) (by show 1 ≤ (vh54 39) ∧ (vh54 39) ≤ 200; omega)
                        · refine m_iconst C dX12_flow_159 ?_
                          exact m_zret C dX12_flow_160 rfl (Or.inl rfl) (Nat.le_of_ble_eq_true rfl) (Nat.le_of_ble_eq_true rfl) ⟨0, rfl, fq54, bn54, (Or.inl rfl)⟩
                  · refine m_aload_n (j := 5) C dX12_flow_107 rfl ?_
                    refine m_aload_n (j := 5) C dX12_flow_108 rfl ?_
                    refine m_geta (k := 24) C dX12_flow_109 w6_83 (by decide) rfl ?_
                    refine m_iload (j := 0) C dX12_flow_112 rfl ?_
                    refine m_ald (k := 24) C dX12_flow_114 rfl rfl (by decide) (by omega) (by show _ < ((_ : Nat) : Int); simp only [mlen]; omega) (by decide) ?_
                    have ra63 : (-2147483648) ≤ ab21 24 k.toNat ∧ ab21 24 k.toNat ≤ 2147483647 := bxb21.2 24 (k.toNat)
                    have ae12 : ab21 24 (k.toNat) = a 24 (k.toNat) := congrFun (fpb21.2 24 rfl) (k.toNat)
                    refine m_st (st2 := [.int (iI (a 24 k.toNat)), .ref h0]) (congrArg (fun z => Value.int (iI z) :: [.ref h0]) (congrFun (fpb21.2 24 rfl) (k.toNat))) ?_
                    have rv134 : 0 ≤ vb21 39 ∧ vb21 39 ≤ 200 := bxb21.1 39
                    have ra64 : 0 ≤ ab21 37 (vb21 39 - 1).toNat ∧ ab21 37 (vb21 39 - 1).toNat ≤ 200 := bxb21.2 37 ((vb21 39 - 1).toNat)
                    refine m_call (mc2 := 0) (ms2 := 0) (As := [.int (iI (a 24 k.toNat))]) (rest := []) C (M_putCell (x := a 24 k.toNat) bxb21.rg (by show 1 ≤ vb21 39 ∧ vb21 39 ≤ 200; omega) (by show 0 ≤ ab21 37 (vb21 39 - 1).toNat ∧ ab21 37 (vb21 39 - 1).toNat < 200; omega)) dX12_flow_115 kV_X12_253 rfl ck_13 rfl (Nat.le_of_ble_eq_true rfl) ⟨Nat.le_of_ble_eq_true rfl, Nat.le_of_ble_eq_true rfl⟩ ⟨Nat.le_of_ble_eq_true rfl, Nat.le_of_ble_eq_true rfl⟩ (fun rh55 vh55 ah55 h55 => ?_)
                    obtain ⟨rfl, fn55, bn55, ex55⟩ := W_putCell bxb21 (by omega) (by show ab21 37 (vb21 39 - 1).toNat < 200; omega) h55
                    have fq55 := fpb21.call fn55 rfl rfl
                    have rv135 : 0 ≤ vh55 39 ∧ vh55 39 ≤ 200 := bn55.1 39
                    have ve69 : vh55 39 = vb21 39 := fn55.1 39 rfl
                    have gex55 : ah55 37 (vb21 39 - 1).toNat = ab21 37 (vb21 39 - 1).toNat + 1 := ex55
                    have jex55 : ah55 37 (vh55 39 - 1).toNat = ab21 37 (vb21 39 - 1).toNat + 1 := by rw [show vh55 39 = vb21 39 by omega]; exact ex55
                    refine m_st (st2 := []) rfl ?_
                    refine m_iinc (z := k) (j := 0) (lv2 := [(6, .int (iI (k + 1))), (5, .int (iI y1)), (4, .int (iI ((v 31) - 0))), (3, .int (iI (ab1 37 ((vb1 39) - 1).toNat))), (2, .int (iI x)), (0, .ref h0), (1, .int (iI t))]) C dX12_flow_118 rfl (by decide) rfl ?_
                    refine m_goto (tgt := 100) C dX12_flow_121 (by decide) ?_
                    have ra65 : 0 ≤ ah55 37 ((vh55 39) - 1).toNat ∧ ah55 37 ((vh55 39) - 1).toNat ≤ 200 := bn55.2 37 (((vh55 39) - 1).toNat)
                    refine m_lv (lv2 := [(6, .int (iI (k + 1))), (5, .int (iI y1)), (4, .int (iI ((v 31) - 0))), (3, .int (iI (ab1 37 ((vb1 39) - 1).toNat))), (2, .int (iI x)), (0, .ref h0), (1, .int (iI t))]) [0, 1, 2, 3, 4, 5, 6] rfl ?_
                    exact ih12  (k + 1) _ _ (by omega) bn55 fq55 (by omega) (by show (vh55 39) = vb1 39; omega) (by show ((ah55 37 ((vh55 39) - 1).toNat) + (y1 - (k + 1)) ≤ 199 ∨ ((ah55 37 ((vh55 39) - 1).toNat) + (y1 - (k + 1)) ≤ 200 ∧ y1 = v 25)) ∧ (k + 1) ≤ y1; omega)
              refine m_iload_n (j := 2) C dX12_flow_88 rfl ?_
              refine m_if_le (tgt := 97) C ⟨by omega, by omega⟩ dX12_flow_89 (by decide) (fun c96 => ?_) (fun c96 => ?_)
              · refine m_iload_n (j := 3) C dX12_flow_97 rfl ?_
                refine m_istore (lv2 := [(6, .int (iI x)), (5, .int (iI y1)), (4, .int (iI ((v 31) - 0))), (3, .int (iI (ab1 37 ((vb1 39) - 1).toNat))), (2, .int (iI x)), (0, .ref h0), (1, .int (iI t))]) C dX12_flow_98 (by decide) rfl ?_
                have rv136 : 0 ≤ vb20 39 ∧ vb20 39 ≤ 200 := bxb20.1 39
                have ra66 : 0 ≤ ab20 37 ((vb20 39) - 1).toNat ∧ ab20 37 ((vb20 39) - 1).toNat ≤ 200 := bxb20.2 37 (((vb20 39) - 1).toNat)
                refine m_lv (lv2 := [(6, .int (iI x)), (5, .int (iI y1)), (4, .int (iI ((v 31) - 0))), (3, .int (iI (ab1 37 ((vb1 39) - 1).toNat))), (2, .int (iI x)), (0, .ref h0), (1, .int (iI t))]) [0, 1, 2, 3, 4, 5, 6] rfl ?_
                exact Lp12 211 x _ _ (by omega) bxb20 fpb20 (by omega) (by show (vb20 39) = vb1 39; omega) (by show ((ab20 37 ((vb20 39) - 1).toNat) + (y1 - x) ≤ 199 ∨ ((ab20 37 ((vb20 39) - 1).toNat) + (y1 - x) ≤ 200 ∧ y1 = v 25)) ∧ x ≤ y1; omega)
              · refine m_aload_n (j := 4) C dX12_flow_92 rfl ?_
                refine m_iconst C dX12_flow_93 ?_
                have rv137 : 0 ≤ vb20 39 ∧ vb20 39 ≤ 200 := bxb20.1 39
                have ra67 : 0 ≤ ab20 37 (vb20 39 - 1).toNat ∧ ab20 37 (vb20 39 - 1).toNat ≤ 200 := bxb20.2 37 ((vb20 39 - 1).toNat)
                refine m_call (mc2 := 0) (ms2 := 0) (As := [.int (iI 0)]) (rest := []) C (M_putCell (x := 0) bxb20.rg (by show 1 ≤ vb20 39 ∧ vb20 39 ≤ 200; omega) (by show 0 ≤ ab20 37 (vb20 39 - 1).toNat ∧ ab20 37 (vb20 39 - 1).toNat < 200; omega)) dX12_flow_94 kV_X12_253 rfl ck_13 rfl (Nat.le_of_ble_eq_true rfl) ⟨Nat.le_of_ble_eq_true rfl, Nat.le_of_ble_eq_true rfl⟩ ⟨Nat.le_of_ble_eq_true rfl, Nat.le_of_ble_eq_true rfl⟩ (fun rh56 vh56 ah56 h56 => ?_)
                obtain ⟨rfl, fn56, bn56, ex56⟩ := W_putCell bxb20 (by omega) (by show ab20 37 (vb20 39 - 1).toNat < 200; omega) h56
                have fq56 := fpb20.call fn56 rfl rfl
                have rv138 : 0 ≤ vh56 39 ∧ vh56 39 ≤ 200 := bn56.1 39
                have ve70 : vh56 39 = vb20 39 := fn56.1 39 rfl
                have gex56 : ah56 37 (vb20 39 - 1).toNat = ab20 37 (vb20 39 - 1).toNat + 1 := ex56
                have jex56 : ah56 37 (vh56 39 - 1).toNat = ab20 37 (vb20 39 - 1).toNat + 1 := by rw [show vh56 39 = vb20 39 by omega]; exact ex56
                refine m_st (st2 := []) rfl ?_
                refine m_iload_n (j := 3) C dX12_flow_97 rfl ?_
                refine m_istore (lv2 := [(6, .int (iI x)), (5, .int (iI y1)), (4, .int (iI ((v 31) - 0))), (3, .int (iI (ab1 37 ((vb1 39) - 1).toNat))), (2, .int (iI x)), (0, .ref h0), (1, .int (iI t))]) C dX12_flow_98 (by decide) rfl ?_
                have ra68 : 0 ≤ ah56 37 ((vh56 39) - 1).toNat ∧ ah56 37 ((vh56 39) - 1).toNat ≤ 200 := bn56.2 37 (((vh56 39) - 1).toNat)
                refine m_lv (lv2 := [(6, .int (iI x)), (5, .int (iI y1)), (4, .int (iI ((v 31) - 0))), (3, .int (iI (ab1 37 ((vb1 39) - 1).toNat))), (2, .int (iI x)), (0, .ref h0), (1, .int (iI t))]) [0, 1, 2, 3, 4, 5, 6] rfl ?_
                exact Lp12 211 x _ _ (by omega) bn56 fq56 (by omega) (by show (vh56 39) = vb1 39; omega) (by show ((ah56 37 ((vh56 39) - 1).toNat) + (y1 - x) ≤ 199 ∨ ((ah56 37 ((vh56 39) - 1).toNat) + (y1 - x) ≤ 200 ∧ y1 = v 25)) ∧ x ≤ y1; omega)
            refine m_iload (j := 0) C dX12_flow_68 rfl ?_
            refine m_if_ge (tgt := 83) C ⟨by omega, by omega⟩ dX12_flow_70 (by decide) (fun c97 => ?_) (fun c97 => ?_)
            · refine m_iload (j := 0) C dX12_flow_83 rfl ?_
              refine m_if_lt (tgt := 144) C ⟨by omega, by omega⟩ dX12_flow_85 (by decide) (fun c98 => ?_) (fun c98 => ?_)
              · refine m_iload_n (j := 3) C dX12_flow_144 rfl ?_
                refine m_aload_n (j := 4) C dX12_flow_145 rfl ?_
                have rv139 : 0 ≤ vb19 25 ∧ vb19 25 ≤ 208 := bxb19.1 25
                have ve71 : vb19 25 = v 25 := fpb19.1 25 rfl
                refine m_get (k := 25) C dX12_flow_146 w6_84 (by decide) rfl ?_
                refine m_st (st2 := [.int (iI (v 25)), .int (iI x)]) (congrArg (fun z => Value.int (iI z) :: [.int (iI x)]) (fpb19.1 25 rfl)) ?_
                refine m_icmp_ge (tgt := 161) C ⟨by omega, by omega⟩ ⟨by omega, by omega⟩ dX12_flow_149 (by decide) (fun c99 => ?_) (fun c99 => ?_)
                · refine m_goto (tgt := 2) C dX12_flow_161 (by decide) ?_
                  refine m_iload_n (j := 3) C dX12_flow_2 rfl ?_
                  refine m_aload_n (j := 4) C dX12_flow_3 rfl ?_
                  refine m_get (k := 25) C dX12_flow_4 w6_84 (by decide) rfl ?_
                  refine m_st (st2 := [.int (iI (v 25)), .int (iI x)]) (congrArg (fun z => Value.int (iI z) :: [.int (iI x)]) (fpb19.1 25 rfl)) ?_
                  refine m_icmp_ge (tgt := 164) C ⟨by omega, by omega⟩ ⟨by omega, by omega⟩ dX12_flow_7 (by decide) (fun _ => ?_) (fun z => absurd z (by omega))
                  refine m_iconst C dX12_flow_164 ?_
                  exact m_zret C dX12_flow_165 rfl (Or.inr rfl) (Nat.le_of_ble_eq_true rfl) (Nat.le_of_ble_eq_true rfl) ⟨1, rfl, fpb19, bxb19, (Or.inr ⟨rfl, by show 1 ≤ vb19 39; omega⟩)⟩
                · refine m_aload_n (j := 4) C dX12_flow_152 rfl ?_
                  refine m_call (mc2 := 0) (ms2 := 0) (As := []) (rest := []) C (M_newLine  bxb19.rg (bxb19.1 39)) dX12_flow_153 kV_X12_257 rfl ck_13 rfl (Nat.le_of_ble_eq_true rfl) ⟨Nat.le_of_ble_eq_true rfl, Nat.le_of_ble_eq_true rfl⟩ ⟨Nat.le_of_ble_eq_true rfl, Nat.le_of_ble_eq_true rfl⟩ (fun rh57 vh57 ah57 h57 => ?_)
                  obtain ⟨f57, rfl, fn57, bn57, ex57⟩ := W_newLine bxb19  h57
                  have fq57 := fpb19.call fn57 rfl rfl
                  have gf57 : (f57 = 1 ∧ vh57 39 = vb19 39 + 1 ∧ ah57 37 (vh57 39 - 1).toNat = 0) ∨ f57 = 0 := ex57
                  refine m_st (st2 := [.int (iI f57)]) rfl ?_
                  refine m_if_ne (tgt := 161) C ⟨by omega, by omega⟩ dX12_flow_156 (by decide) (fun c100 => ?_) (fun c100 => ?_)
                  · refine m_goto (tgt := 2) C dX12_flow_161 (by decide) ?_
                    have rv140 : 0 ≤ vh57 39 ∧ vh57 39 ≤ 200 := bn57.1 39
                    refine m_lv (lv2 := [(2, .int (iI x)), (0, .ref h0), (1, .int (iI t))]) [3, 4, 5] rfl ?_
                    exact ih1  x _ _ (by omega) bn57 fq57 (by omega) (by show 1 ≤ (vh57 39) ∧ (vh57 39) ≤ 200; omega)
                  · refine m_iconst C dX12_flow_159 ?_
                    exact m_zret C dX12_flow_160 rfl (Or.inl rfl) (Nat.le_of_ble_eq_true rfl) (Nat.le_of_ble_eq_true rfl) ⟨0, rfl, fq57, bn57, (Or.inl rfl)⟩
              · have Lp13 : ∀ (nn : Nat) (k : Int) (vb22 : Nat → Int) (ab22 : Nat → Nat → Int), 210 - k < (nn : Int) → BX vb22 ab22 → fr [39] [37, 38] v a vb22 ab22 → (x ≤ k ∧ k ≤ 208) → (vb22 39 = vb1 39) → ((ab22 37 (vb22 39 - 1).toNat + (y1 - k) ≤ 199 ∨ (ab22 37 (vb22 39 - 1).toNat + (y1 - k) ≤ 200 ∧ y1 = v 25)) ∧ k ≤ y1) → mw p l e (rmq 2 0 0) s m args below meth c G A 7 (MQ below (Qm G A (fun rq Lq Eq => ∃ (vq : Nat → Int) (aq : Nat → Nat → Int), mI G h0 ad ln vq aq Lq Eq ∧ (fun r v2 a2 => ∃ f : Int, r = some (.int (iI f)) ∧ fr [39] [37, 38] v a v2 a2 ∧ BX v2 a2 ∧ (f = 0 ∨ (f = 1 ∧ 1 ≤ v2 39))) rq vq aq)) args s 0 0 A) h0 ad ln vb22 ab22 0 0 100 [(6, .int (iI k)), (5, .int (iI y)), (4, .int (iI ((v 31) - 0))), (3, .int (iI (ab1 37 ((vb1 39) - 1).toNat))), (2, .int (iI x)), (0, .ref h0), (1, .int (iI t))] [] := by
                  intro nn
                  induction nn with
                  | zero =>
                    intro k vb22 ab22 hm bxb22 fpb22 hk hn4 hh4
                    exact absurd hm (by omega)
                  | succ nn ih13 =>
                    intro k vb22 ab22 hm bxb22 fpb22 hk hn4 hh4
                    refine m_iload (j := 0) C dX12_flow_100 rfl ?_
                    refine m_iload (j := 1) C dX12_flow_102 rfl ?_
                    refine m_icmp_ge (tgt := 124) C ⟨by omega, by omega⟩ ⟨by omega, by omega⟩ dX12_flow_104 (by decide) (fun c101 => ?_) (fun c101 => ?_)
                    · refine m_iload (j := 1) C dX12_flow_124 rfl ?_
                      refine m_aload_n (j := 5) C dX12_flow_126 rfl ?_
                      have rv141 : 0 ≤ vb22 25 ∧ vb22 25 ≤ 208 := bxb22.1 25
                      have ve72 : vb22 25 = v 25 := fpb22.1 25 rfl
                      refine m_get (k := 25) C dX12_flow_127 w6_84 (by decide) rfl ?_
                      refine m_st (st2 := [.int (iI (v 25)), .int (iI y)]) (congrArg (fun z => Value.int (iI z) :: [.int (iI y)]) (fpb22.1 25 rfl)) ?_
                      refine m_icmp_ge (tgt := 141) C ⟨by omega, by omega⟩ ⟨by omega, by omega⟩ dX12_flow_130 (by decide) (fun c102 => ?_) (fun c102 => ?_)
                      · refine m_iload (j := 1) C dX12_flow_141 rfl ?_
                        refine m_istore_n (lv2 := [(2, .int (iI y)), (6, .int (iI k)), (5, .int (iI y)), (4, .int (iI ((v 31) - 0))), (3, .int (iI (ab1 37 ((vb1 39) - 1).toNat))), (0, .ref h0), (1, .int (iI t))]) C dX12_flow_143 (by decide) rfl ?_
                        refine m_iload_n (j := 0) C dX12_flow_144 rfl ?_
                        refine m_aload_n (j := 5) C dX12_flow_145 rfl ?_
                        refine m_get (k := 25) C dX12_flow_146 w6_84 (by decide) rfl ?_
                        refine m_st (st2 := [.int (iI (v 25)), .int (iI y)]) (congrArg (fun z => Value.int (iI z) :: [.int (iI y)]) (fpb22.1 25 rfl)) ?_
                        refine m_icmp_ge (tgt := 161) C ⟨by omega, by omega⟩ ⟨by omega, by omega⟩ dX12_flow_149 (by decide) (fun c103 => ?_) (fun c103 => ?_)
                        · refine m_goto (tgt := 2) C dX12_flow_161 (by decide) ?_
                          refine m_iload_n (j := 0) C dX12_flow_2 rfl ?_
                          refine m_aload_n (j := 5) C dX12_flow_3 rfl ?_
                          refine m_get (k := 25) C dX12_flow_4 w6_84 (by decide) rfl ?_
                          refine m_st (st2 := [.int (iI (v 25)), .int (iI y)]) (congrArg (fun z => Value.int (iI z) :: [.int (iI y)]) (fpb22.1 25 rfl)) ?_
                          refine m_icmp_ge (tgt := 164) C ⟨by omega, by omega⟩ ⟨by omega, by omega⟩ dX12_flow_7 (by decide) (fun _ => ?_) (fun z => absurd z (by omega))
                          refine m_iconst C dX12_flow_164 ?_
                          exact m_zret C dX12_flow_165 rfl (Or.inr rfl) (Nat.le_of_ble_eq_true rfl) (Nat.le_of_ble_eq_true rfl) ⟨1, rfl, fpb22, bxb22, (Or.inr ⟨rfl, by show 1 ≤ vb22 39; omega⟩)⟩
                        · refine m_aload_n (j := 5) C dX12_flow_152 rfl ?_
                          refine m_call (mc2 := 0) (ms2 := 0) (As := []) (rest := []) C (M_newLine  bxb22.rg (bxb22.1 39)) dX12_flow_153 kV_X12_257 rfl ck_13 rfl (Nat.le_of_ble_eq_true rfl) ⟨Nat.le_of_ble_eq_true rfl, Nat.le_of_ble_eq_true rfl⟩ ⟨Nat.le_of_ble_eq_true rfl, Nat.le_of_ble_eq_true rfl⟩ (fun rh58 vh58 ah58 h58 => ?_)
                          obtain ⟨f58, rfl, fn58, bn58, ex58⟩ := W_newLine bxb22  h58
                          have fq58 := fpb22.call fn58 rfl rfl
                          have gf58 : (f58 = 1 ∧ vh58 39 = vb22 39 + 1 ∧ ah58 37 (vh58 39 - 1).toNat = 0) ∨ f58 = 0 := ex58
                          refine m_st (st2 := [.int (iI f58)]) rfl ?_
                          refine m_if_ne (tgt := 161) C ⟨by omega, by omega⟩ dX12_flow_156 (by decide) (fun c104 => ?_) (fun c104 => ?_)
                          · refine m_goto (tgt := 2) C dX12_flow_161 (by decide) ?_
                            have rv142 : 0 ≤ vh58 39 ∧ vh58 39 ≤ 200 := bn58.1 39
                            refine m_lv (lv2 := [(2, .int (iI y)), (0, .ref h0), (1, .int (iI t))]) [0, 5, 6] rfl ?_
                            exact ih1  y _ _ (by omega) bn58 fq58 (by omega) (by show 1 ≤ (vh58 39) ∧ (vh58 39) ≤ 200; omega)
                          · refine m_iconst C dX12_flow_159 ?_
                            exact m_zret C dX12_flow_160 rfl (Or.inl rfl) (Nat.le_of_ble_eq_true rfl) (Nat.le_of_ble_eq_true rfl) ⟨0, rfl, fq58, bn58, (Or.inl rfl)⟩
                      · refine m_aload_n (j := 5) C dX12_flow_133 rfl ?_
                        refine m_aload_n (j := 5) C dX12_flow_134 rfl ?_
                        have rv143 : (-2147483648) ≤ vb22 33 ∧ vb22 33 ≤ 2147483647 := bxb22.1 33
                        have ve73 : vb22 33 = v 33 := fpb22.1 33 rfl
                        refine m_get (k := 33) C dX12_flow_135 w6_92 (by decide) rfl ?_
                        refine m_st (st2 := [.int (iI (v 33)), .ref h0]) (congrArg (fun z => Value.int (iI z) :: [.ref h0]) (fpb22.1 33 rfl)) ?_
                        have rv144 : 0 ≤ vb22 39 ∧ vb22 39 ≤ 200 := bxb22.1 39
                        have ra69 : 0 ≤ ab22 37 (vb22 39 - 1).toNat ∧ ab22 37 (vb22 39 - 1).toNat ≤ 200 := bxb22.2 37 ((vb22 39 - 1).toNat)
                        refine m_call (mc2 := 0) (ms2 := 0) (As := [.int (iI (v 33))]) (rest := []) C (M_putCell (x := v 33) bxb22.rg (by show 1 ≤ vb22 39 ∧ vb22 39 ≤ 200; omega) (by show 0 ≤ ab22 37 (vb22 39 - 1).toNat ∧ ab22 37 (vb22 39 - 1).toNat < 200; omega)) dX12_flow_138 kV_X12_253 rfl ck_13 rfl (Nat.le_of_ble_eq_true rfl) ⟨Nat.le_of_ble_eq_true rfl, Nat.le_of_ble_eq_true rfl⟩ ⟨Nat.le_of_ble_eq_true rfl, Nat.le_of_ble_eq_true rfl⟩ (fun rh59 vh59 ah59 h59 => ?_)
                        obtain ⟨rfl, fn59, bn59, ex59⟩ := W_putCell bxb22 (by omega) (by show ab22 37 (vb22 39 - 1).toNat < 200; omega) h59
                        have fq59 := fpb22.call fn59 rfl rfl
                        have rv145 : 0 ≤ vh59 39 ∧ vh59 39 ≤ 200 := bn59.1 39
                        have ve74 : vh59 39 = vb22 39 := fn59.1 39 rfl
                        have gex59 : ah59 37 (vb22 39 - 1).toNat = ab22 37 (vb22 39 - 1).toNat + 1 := ex59
                        have jex59 : ah59 37 (vh59 39 - 1).toNat = ab22 37 (vb22 39 - 1).toNat + 1 := by rw [show vh59 39 = vb22 39 by omega]; exact ex59
                        refine m_st (st2 := []) rfl ?_
                        refine m_iload (j := 1) C dX12_flow_141 rfl ?_
                        refine m_istore_n (lv2 := [(2, .int (iI y)), (6, .int (iI k)), (5, .int (iI y)), (4, .int (iI ((v 31) - 0))), (3, .int (iI (ab1 37 ((vb1 39) - 1).toNat))), (0, .ref h0), (1, .int (iI t))]) C dX12_flow_143 (by decide) rfl ?_
                        refine m_iload_n (j := 0) C dX12_flow_144 rfl ?_
                        refine m_aload_n (j := 5) C dX12_flow_145 rfl ?_
                        have rv146 : 0 ≤ vh59 25 ∧ vh59 25 ≤ 208 := bn59.1 25
                        have ve75 : vh59 25 = vb22 25 := fn59.1 25 rfl
                        refine m_get (k := 25) C dX12_flow_146 w6_84 (by decide) rfl ?_
                        refine m_st (st2 := [.int (iI (v 25)), .int (iI y)]) (congrArg (fun z => Value.int (iI z) :: [.int (iI y)]) (fq59.1 25 rfl)) ?_
                        refine m_icmp_ge (tgt := 161) C ⟨by omega, by omega⟩ ⟨by omega, by omega⟩ dX12_flow_149 (by decide) (fun c105 => ?_) (fun c105 => ?_)
                        · refine m_goto (tgt := 2) C dX12_flow_161 (by decide) ?_
                          refine m_iload_n (j := 0) C dX12_flow_2 rfl ?_
                          refine m_aload_n (j := 5) C dX12_flow_3 rfl ?_
                          refine m_get (k := 25) C dX12_flow_4 w6_84 (by decide) rfl ?_
                          refine m_st (st2 := [.int (iI (v 25)), .int (iI y)]) (congrArg (fun z => Value.int (iI z) :: [.int (iI y)]) (fq59.1 25 rfl)) ?_
                          refine m_icmp_ge (tgt := 164) C ⟨by omega, by omega⟩ ⟨by omega, by omega⟩ dX12_flow_7 (by decide) (fun _ => ?_) (fun z => absurd z (by omega))
                          refine m_iconst C dX12_flow_164 ?_
                          exact m_zret C dX12_flow_165 rfl (Or.inr rfl) (Nat.le_of_ble_eq_true rfl) (Nat.le_of_ble_eq_true rfl) ⟨1, rfl, fq59, bn59, (Or.inr ⟨rfl, by show 1 ≤ vh59 39; omega⟩)⟩
                        · refine m_aload_n (j := 5) C dX12_flow_152 rfl ?_
                          refine m_call (mc2 := 0) (ms2 := 0) (As := []) (rest := []) C (M_newLine  bn59.rg (bn59.1 39)) dX12_flow_153 kV_X12_257 rfl ck_13 rfl (Nat.le_of_ble_eq_true rfl) ⟨Nat.le_of_ble_eq_true rfl, Nat.le_of_ble_eq_true rfl⟩ ⟨Nat.le_of_ble_eq_true rfl, Nat.le_of_ble_eq_true rfl⟩ (fun rh60 vh60 ah60 h60 => ?_)
                          obtain ⟨f60, rfl, fn60, bn60, ex60⟩ := W_newLine bn59  h60
                          have fq60 := fq59.call fn60 rfl rfl
                          have gf60 : (f60 = 1 ∧ vh60 39 = vh59 39 + 1 ∧ ah60 37 (vh60 39 - 1).toNat = 0) ∨ f60 = 0 := ex60
                          refine m_st (st2 := [.int (iI f60)]) rfl ?_
                          refine m_if_ne (tgt := 161) C ⟨by omega, by omega⟩ dX12_flow_156 (by decide) (fun c106 => ?_) (fun c106 => ?_)
                          · refine m_goto (tgt := 2) C dX12_flow_161 (by decide) ?_
                            have rv147 : 0 ≤ vh60 39 ∧ vh60 39 ≤ 200 := bn60.1 39
                            refine m_lv (lv2 := [(2, .int (iI y)), (0, .ref h0), (1, .int (iI t))]) [0, 5, 6] rfl ?_
                            exact ih1  y _ _ (by omega) bn60 fq60 (by omega) (by show 1 ≤ (vh60 39) ∧ (vh60 39) ≤ 200; omega)
                          · refine m_iconst C dX12_flow_159 ?_
                            exact m_zret C dX12_flow_160 rfl (Or.inl rfl) (Nat.le_of_ble_eq_true rfl) (Nat.le_of_ble_eq_true rfl) ⟨0, rfl, fq60, bn60, (Or.inl rfl)⟩
                    · refine m_aload_n (j := 5) C dX12_flow_107 rfl ?_
                      refine m_aload_n (j := 5) C dX12_flow_108 rfl ?_
                      refine m_geta (k := 24) C dX12_flow_109 w6_83 (by decide) rfl ?_
                      refine m_iload (j := 0) C dX12_flow_112 rfl ?_
                      refine m_ald (k := 24) C dX12_flow_114 rfl rfl (by decide) (by omega) (by show _ < ((_ : Nat) : Int); simp only [mlen]; omega) (by decide) ?_
                      have ra70 : (-2147483648) ≤ ab22 24 k.toNat ∧ ab22 24 k.toNat ≤ 2147483647 := bxb22.2 24 (k.toNat)
                      have ae13 : ab22 24 (k.toNat) = a 24 (k.toNat) := congrFun (fpb22.2 24 rfl) (k.toNat)
                      refine m_st (st2 := [.int (iI (a 24 k.toNat)), .ref h0]) (congrArg (fun z => Value.int (iI z) :: [.ref h0]) (congrFun (fpb22.2 24 rfl) (k.toNat))) ?_
                      have rv148 : 0 ≤ vb22 39 ∧ vb22 39 ≤ 200 := bxb22.1 39
                      have ra71 : 0 ≤ ab22 37 (vb22 39 - 1).toNat ∧ ab22 37 (vb22 39 - 1).toNat ≤ 200 := bxb22.2 37 ((vb22 39 - 1).toNat)
                      refine m_call (mc2 := 0) (ms2 := 0) (As := [.int (iI (a 24 k.toNat))]) (rest := []) C (M_putCell (x := a 24 k.toNat) bxb22.rg (by show 1 ≤ vb22 39 ∧ vb22 39 ≤ 200; omega) (by show 0 ≤ ab22 37 (vb22 39 - 1).toNat ∧ ab22 37 (vb22 39 - 1).toNat < 200; omega)) dX12_flow_115 kV_X12_253 rfl ck_13 rfl (Nat.le_of_ble_eq_true rfl) ⟨Nat.le_of_ble_eq_true rfl, Nat.le_of_ble_eq_true rfl⟩ ⟨Nat.le_of_ble_eq_true rfl, Nat.le_of_ble_eq_true rfl⟩ (fun rh61 vh61 ah61 h61 => ?_)
                      obtain ⟨rfl, fn61, bn61, ex61⟩ := W_putCell bxb22 (by omega) (by show ab22 37 (vb22 39 - 1).toNat < 200; omega) h61
                      have fq61 := fpb22.call fn61 rfl rfl
                      have rv149 : 0 ≤ vh61 39 ∧ vh61 39 ≤ 200 := bn61.1 39
                      have ve76 : vh61 39 = vb22 39 := fn61.1 39 rfl
                      have gex61 : ah61 37 (vb22 39 - 1).toNat = ab22 37 (vb22 39 - 1).toNat + 1 := ex61
                      have jex61 : ah61 37 (vh61 39 - 1).toNat = ab22 37 (vb22 39 - 1).toNat + 1 := by rw [show vh61 39 = vb22 39 by omega]; exact ex61
                      refine m_st (st2 := []) rfl ?_
                      refine m_iinc (z := k) (j := 0) (lv2 := [(6, .int (iI (k + 1))), (5, .int (iI y)), (4, .int (iI ((v 31) - 0))), (3, .int (iI (ab1 37 ((vb1 39) - 1).toNat))), (2, .int (iI x)), (0, .ref h0), (1, .int (iI t))]) C dX12_flow_118 rfl (by decide) rfl ?_
                      refine m_goto (tgt := 100) C dX12_flow_121 (by decide) ?_
                      have ra72 : 0 ≤ ah61 37 ((vh61 39) - 1).toNat ∧ ah61 37 ((vh61 39) - 1).toNat ≤ 200 := bn61.2 37 (((vh61 39) - 1).toNat)
                      refine m_lv (lv2 := [(6, .int (iI (k + 1))), (5, .int (iI y)), (4, .int (iI ((v 31) - 0))), (3, .int (iI (ab1 37 ((vb1 39) - 1).toNat))), (2, .int (iI x)), (0, .ref h0), (1, .int (iI t))]) [0, 1, 2, 3, 4, 5, 6] rfl ?_
                      exact ih13  (k + 1) _ _ (by omega) bn61 fq61 (by omega) (by show (vh61 39) = vb1 39; omega) (by show ((ah61 37 ((vh61 39) - 1).toNat) + (y1 - (k + 1)) ≤ 199 ∨ ((ah61 37 ((vh61 39) - 1).toNat) + (y1 - (k + 1)) ≤ 200 ∧ y1 = v 25)) ∧ (k + 1) ≤ y1; omega)
                have rv150 : 0 ≤ vb19 39 ∧ vb19 39 ≤ 200 := bxb19.1 39
                have ra73 : 0 ≤ ab19 37 ((vb19 39) - 1).toNat ∧ ab19 37 ((vb19 39) - 1).toNat ≤ 200 := bxb19.2 37 (((vb19 39) - 1).toNat)
                refine m_lv (lv2 := [(5, .int (iI y)), (4, .int (iI ((v 31) - 0))), (3, .int (iI (ab1 37 ((vb1 39) - 1).toNat))), (2, .int (iI x)), (0, .ref h0), (1, .int (iI t))]) [0, 1, 2, 3, 4, 5] rfl ?_
                exact J9  y _ _  bxb19 fpb19 (by omega) (by show (vb19 39) = vb1 39; omega) (by show (ab19 37 ((vb19 39) - 1).toNat) = h1; omega)
            · refine m_iload_n (j := 2) C dX12_flow_73 rfl ?_
              refine m_if_ne (tgt := 83) C ⟨by omega, by omega⟩ dX12_flow_74 (by decide) (fun c107 => ?_) (fun c107 => ?_)
              · refine m_iload (j := 0) C dX12_flow_83 rfl ?_
                refine m_if_lt (tgt := 144) C ⟨by omega, by omega⟩ dX12_flow_85 (by decide) (fun c108 => ?_) (fun c108 => ?_)
                · refine m_iload_n (j := 3) C dX12_flow_144 rfl ?_
                  refine m_aload_n (j := 4) C dX12_flow_145 rfl ?_
                  have rv151 : 0 ≤ vb19 25 ∧ vb19 25 ≤ 208 := bxb19.1 25
                  have ve77 : vb19 25 = v 25 := fpb19.1 25 rfl
                  refine m_get (k := 25) C dX12_flow_146 w6_84 (by decide) rfl ?_
                  refine m_st (st2 := [.int (iI (v 25)), .int (iI x)]) (congrArg (fun z => Value.int (iI z) :: [.int (iI x)]) (fpb19.1 25 rfl)) ?_
                  refine m_icmp_ge (tgt := 161) C ⟨by omega, by omega⟩ ⟨by omega, by omega⟩ dX12_flow_149 (by decide) (fun c109 => ?_) (fun c109 => ?_)
                  · refine m_goto (tgt := 2) C dX12_flow_161 (by decide) ?_
                    refine m_iload_n (j := 3) C dX12_flow_2 rfl ?_
                    refine m_aload_n (j := 4) C dX12_flow_3 rfl ?_
                    refine m_get (k := 25) C dX12_flow_4 w6_84 (by decide) rfl ?_
                    refine m_st (st2 := [.int (iI (v 25)), .int (iI x)]) (congrArg (fun z => Value.int (iI z) :: [.int (iI x)]) (fpb19.1 25 rfl)) ?_
                    refine m_icmp_ge (tgt := 164) C ⟨by omega, by omega⟩ ⟨by omega, by omega⟩ dX12_flow_7 (by decide) (fun _ => ?_) (fun z => absurd z (by omega))
                    refine m_iconst C dX12_flow_164 ?_
                    exact m_zret C dX12_flow_165 rfl (Or.inr rfl) (Nat.le_of_ble_eq_true rfl) (Nat.le_of_ble_eq_true rfl) ⟨1, rfl, fpb19, bxb19, (Or.inr ⟨rfl, by show 1 ≤ vb19 39; omega⟩)⟩
                  · refine m_aload_n (j := 4) C dX12_flow_152 rfl ?_
                    refine m_call (mc2 := 0) (ms2 := 0) (As := []) (rest := []) C (M_newLine  bxb19.rg (bxb19.1 39)) dX12_flow_153 kV_X12_257 rfl ck_13 rfl (Nat.le_of_ble_eq_true rfl) ⟨Nat.le_of_ble_eq_true rfl, Nat.le_of_ble_eq_true rfl⟩ ⟨Nat.le_of_ble_eq_true rfl, Nat.le_of_ble_eq_true rfl⟩ (fun rh62 vh62 ah62 h62 => ?_)
                    obtain ⟨f62, rfl, fn62, bn62, ex62⟩ := W_newLine bxb19  h62
                    have fq62 := fpb19.call fn62 rfl rfl
                    have gf62 : (f62 = 1 ∧ vh62 39 = vb19 39 + 1 ∧ ah62 37 (vh62 39 - 1).toNat = 0) ∨ f62 = 0 := ex62
                    refine m_st (st2 := [.int (iI f62)]) rfl ?_
                    refine m_if_ne (tgt := 161) C ⟨by omega, by omega⟩ dX12_flow_156 (by decide) (fun c110 => ?_) (fun c110 => ?_)
                    · refine m_goto (tgt := 2) C dX12_flow_161 (by decide) ?_
                      have rv152 : 0 ≤ vh62 39 ∧ vh62 39 ≤ 200 := bn62.1 39
                      refine m_lv (lv2 := [(2, .int (iI x)), (0, .ref h0), (1, .int (iI t))]) [3, 4, 5] rfl ?_
                      exact ih1  x _ _ (by omega) bn62 fq62 (by omega) (by show 1 ≤ (vh62 39) ∧ (vh62 39) ≤ 200; omega)
                    · refine m_iconst C dX12_flow_159 ?_
                      exact m_zret C dX12_flow_160 rfl (Or.inl rfl) (Nat.le_of_ble_eq_true rfl) (Nat.le_of_ble_eq_true rfl) ⟨0, rfl, fq62, bn62, (Or.inl rfl)⟩
                · have Lp14 : ∀ (nn : Nat) (k : Int) (vb23 : Nat → Int) (ab23 : Nat → Nat → Int), 210 - k < (nn : Int) → BX vb23 ab23 → fr [39] [37, 38] v a vb23 ab23 → (x ≤ k ∧ k ≤ 208) → (vb23 39 = vb1 39) → ((ab23 37 (vb23 39 - 1).toNat + (y1 - k) ≤ 199 ∨ (ab23 37 (vb23 39 - 1).toNat + (y1 - k) ≤ 200 ∧ y1 = v 25)) ∧ k ≤ y1) → mw p l e (rmq 2 0 0) s m args below meth c G A 7 (MQ below (Qm G A (fun rq Lq Eq => ∃ (vq : Nat → Int) (aq : Nat → Nat → Int), mI G h0 ad ln vq aq Lq Eq ∧ (fun r v2 a2 => ∃ f : Int, r = some (.int (iI f)) ∧ fr [39] [37, 38] v a v2 a2 ∧ BX v2 a2 ∧ (f = 0 ∨ (f = 1 ∧ 1 ≤ v2 39))) rq vq aq)) args s 0 0 A) h0 ad ln vb23 ab23 0 0 100 [(6, .int (iI k)), (5, .int (iI y)), (4, .int (iI ((v 31) - 0))), (3, .int (iI (ab1 37 ((vb1 39) - 1).toNat))), (2, .int (iI x)), (0, .ref h0), (1, .int (iI t))] [] := by
                    intro nn
                    induction nn with
                    | zero =>
                      intro k vb23 ab23 hm bxb23 fpb23 hk hn4 hh4
                      exact absurd hm (by omega)
                    | succ nn ih14 =>
                      intro k vb23 ab23 hm bxb23 fpb23 hk hn4 hh4
                      refine m_iload (j := 0) C dX12_flow_100 rfl ?_
                      refine m_iload (j := 1) C dX12_flow_102 rfl ?_
                      refine m_icmp_ge (tgt := 124) C ⟨by omega, by omega⟩ ⟨by omega, by omega⟩ dX12_flow_104 (by decide) (fun c111 => ?_) (fun c111 => ?_)
                      · refine m_iload (j := 1) C dX12_flow_124 rfl ?_
                        refine m_aload_n (j := 5) C dX12_flow_126 rfl ?_
                        have rv153 : 0 ≤ vb23 25 ∧ vb23 25 ≤ 208 := bxb23.1 25
                        have ve78 : vb23 25 = v 25 := fpb23.1 25 rfl
                        refine m_get (k := 25) C dX12_flow_127 w6_84 (by decide) rfl ?_
                        refine m_st (st2 := [.int (iI (v 25)), .int (iI y)]) (congrArg (fun z => Value.int (iI z) :: [.int (iI y)]) (fpb23.1 25 rfl)) ?_
                        refine m_icmp_ge (tgt := 141) C ⟨by omega, by omega⟩ ⟨by omega, by omega⟩ dX12_flow_130 (by decide) (fun c112 => ?_) (fun c112 => ?_)
                        · refine m_iload (j := 1) C dX12_flow_141 rfl ?_
                          refine m_istore_n (lv2 := [(2, .int (iI y)), (6, .int (iI k)), (5, .int (iI y)), (4, .int (iI ((v 31) - 0))), (3, .int (iI (ab1 37 ((vb1 39) - 1).toNat))), (0, .ref h0), (1, .int (iI t))]) C dX12_flow_143 (by decide) rfl ?_
                          refine m_iload_n (j := 0) C dX12_flow_144 rfl ?_
                          refine m_aload_n (j := 5) C dX12_flow_145 rfl ?_
                          refine m_get (k := 25) C dX12_flow_146 w6_84 (by decide) rfl ?_
                          refine m_st (st2 := [.int (iI (v 25)), .int (iI y)]) (congrArg (fun z => Value.int (iI z) :: [.int (iI y)]) (fpb23.1 25 rfl)) ?_
                          refine m_icmp_ge (tgt := 161) C ⟨by omega, by omega⟩ ⟨by omega, by omega⟩ dX12_flow_149 (by decide) (fun c113 => ?_) (fun c113 => ?_)
                          · refine m_goto (tgt := 2) C dX12_flow_161 (by decide) ?_
                            refine m_iload_n (j := 0) C dX12_flow_2 rfl ?_
                            refine m_aload_n (j := 5) C dX12_flow_3 rfl ?_
                            refine m_get (k := 25) C dX12_flow_4 w6_84 (by decide) rfl ?_
                            refine m_st (st2 := [.int (iI (v 25)), .int (iI y)]) (congrArg (fun z => Value.int (iI z) :: [.int (iI y)]) (fpb23.1 25 rfl)) ?_
                            refine m_icmp_ge (tgt := 164) C ⟨by omega, by omega⟩ ⟨by omega, by omega⟩ dX12_flow_7 (by decide) (fun _ => ?_) (fun z => absurd z (by omega))
                            refine m_iconst C dX12_flow_164 ?_
                            exact m_zret C dX12_flow_165 rfl (Or.inr rfl) (Nat.le_of_ble_eq_true rfl) (Nat.le_of_ble_eq_true rfl) ⟨1, rfl, fpb23, bxb23, (Or.inr ⟨rfl, by show 1 ≤ vb23 39; omega⟩)⟩
                          · refine m_aload_n (j := 5) C dX12_flow_152 rfl ?_
                            refine m_call (mc2 := 0) (ms2 := 0) (As := []) (rest := []) C (M_newLine  bxb23.rg (bxb23.1 39)) dX12_flow_153 kV_X12_257 rfl ck_13 rfl (Nat.le_of_ble_eq_true rfl) ⟨Nat.le_of_ble_eq_true rfl, Nat.le_of_ble_eq_true rfl⟩ ⟨Nat.le_of_ble_eq_true rfl, Nat.le_of_ble_eq_true rfl⟩ (fun rh63 vh63 ah63 h63 => ?_)
                            obtain ⟨f63, rfl, fn63, bn63, ex63⟩ := W_newLine bxb23  h63
                            have fq63 := fpb23.call fn63 rfl rfl
                            have gf63 : (f63 = 1 ∧ vh63 39 = vb23 39 + 1 ∧ ah63 37 (vh63 39 - 1).toNat = 0) ∨ f63 = 0 := ex63
                            refine m_st (st2 := [.int (iI f63)]) rfl ?_
                            refine m_if_ne (tgt := 161) C ⟨by omega, by omega⟩ dX12_flow_156 (by decide) (fun c114 => ?_) (fun c114 => ?_)
                            · refine m_goto (tgt := 2) C dX12_flow_161 (by decide) ?_
                              have rv154 : 0 ≤ vh63 39 ∧ vh63 39 ≤ 200 := bn63.1 39
                              refine m_lv (lv2 := [(2, .int (iI y)), (0, .ref h0), (1, .int (iI t))]) [0, 5, 6] rfl ?_
                              exact ih1  y _ _ (by omega) bn63 fq63 (by omega) (by show 1 ≤ (vh63 39) ∧ (vh63 39) ≤ 200; omega)
                            · refine m_iconst C dX12_flow_159 ?_
                              exact m_zret C dX12_flow_160 rfl (Or.inl rfl) (Nat.le_of_ble_eq_true rfl) (Nat.le_of_ble_eq_true rfl) ⟨0, rfl, fq63, bn63, (Or.inl rfl)⟩
                        · refine m_aload_n (j := 5) C dX12_flow_133 rfl ?_
                          refine m_aload_n (j := 5) C dX12_flow_134 rfl ?_
                          have rv155 : (-2147483648) ≤ vb23 33 ∧ vb23 33 ≤ 2147483647 := bxb23.1 33
                          have ve79 : vb23 33 = v 33 := fpb23.1 33 rfl
                          refine m_get (k := 33) C dX12_flow_135 w6_92 (by decide) rfl ?_
                          refine m_st (st2 := [.int (iI (v 33)), .ref h0]) (congrArg (fun z => Value.int (iI z) :: [.ref h0]) (fpb23.1 33 rfl)) ?_
                          have rv156 : 0 ≤ vb23 39 ∧ vb23 39 ≤ 200 := bxb23.1 39
                          have ra74 : 0 ≤ ab23 37 (vb23 39 - 1).toNat ∧ ab23 37 (vb23 39 - 1).toNat ≤ 200 := bxb23.2 37 ((vb23 39 - 1).toNat)
                          refine m_call (mc2 := 0) (ms2 := 0) (As := [.int (iI (v 33))]) (rest := []) C (M_putCell (x := v 33) bxb23.rg (by show 1 ≤ vb23 39 ∧ vb23 39 ≤ 200; omega) (by show 0 ≤ ab23 37 (vb23 39 - 1).toNat ∧ ab23 37 (vb23 39 - 1).toNat < 200; omega)) dX12_flow_138 kV_X12_253 rfl ck_13 rfl (Nat.le_of_ble_eq_true rfl) ⟨Nat.le_of_ble_eq_true rfl, Nat.le_of_ble_eq_true rfl⟩ ⟨Nat.le_of_ble_eq_true rfl, Nat.le_of_ble_eq_true rfl⟩ (fun rh64 vh64 ah64 h64 => ?_)
                          obtain ⟨rfl, fn64, bn64, ex64⟩ := W_putCell bxb23 (by omega) (by show ab23 37 (vb23 39 - 1).toNat < 200; omega) h64
                          have fq64 := fpb23.call fn64 rfl rfl
                          have rv157 : 0 ≤ vh64 39 ∧ vh64 39 ≤ 200 := bn64.1 39
                          have ve80 : vh64 39 = vb23 39 := fn64.1 39 rfl
                          have gex64 : ah64 37 (vb23 39 - 1).toNat = ab23 37 (vb23 39 - 1).toNat + 1 := ex64
                          have jex64 : ah64 37 (vh64 39 - 1).toNat = ab23 37 (vb23 39 - 1).toNat + 1 := by rw [show vh64 39 = vb23 39 by omega]; exact ex64
                          refine m_st (st2 := []) rfl ?_
                          refine m_iload (j := 1) C dX12_flow_141 rfl ?_
                          refine m_istore_n (lv2 := [(2, .int (iI y)), (6, .int (iI k)), (5, .int (iI y)), (4, .int (iI ((v 31) - 0))), (3, .int (iI (ab1 37 ((vb1 39) - 1).toNat))), (0, .ref h0), (1, .int (iI t))]) C dX12_flow_143 (by decide) rfl ?_
                          refine m_iload_n (j := 0) C dX12_flow_144 rfl ?_
                          refine m_aload_n (j := 5) C dX12_flow_145 rfl ?_
                          have rv158 : 0 ≤ vh64 25 ∧ vh64 25 ≤ 208 := bn64.1 25
                          have ve81 : vh64 25 = vb23 25 := fn64.1 25 rfl
                          refine m_get (k := 25) C dX12_flow_146 w6_84 (by decide) rfl ?_
                          refine m_st (st2 := [.int (iI (v 25)), .int (iI y)]) (congrArg (fun z => Value.int (iI z) :: [.int (iI y)]) (fq64.1 25 rfl)) ?_
                          refine m_icmp_ge (tgt := 161) C ⟨by omega, by omega⟩ ⟨by omega, by omega⟩ dX12_flow_149 (by decide) (fun c115 => ?_) (fun c115 => ?_)
                          · refine m_goto (tgt := 2) C dX12_flow_161 (by decide) ?_
                            refine m_iload_n (j := 0) C dX12_flow_2 rfl ?_
                            refine m_aload_n (j := 5) C dX12_flow_3 rfl ?_
                            refine m_get (k := 25) C dX12_flow_4 w6_84 (by decide) rfl ?_
                            refine m_st (st2 := [.int (iI (v 25)), .int (iI y)]) (congrArg (fun z => Value.int (iI z) :: [.int (iI y)]) (fq64.1 25 rfl)) ?_
                            refine m_icmp_ge (tgt := 164) C ⟨by omega, by omega⟩ ⟨by omega, by omega⟩ dX12_flow_7 (by decide) (fun _ => ?_) (fun z => absurd z (by omega))
                            refine m_iconst C dX12_flow_164 ?_
                            exact m_zret C dX12_flow_165 rfl (Or.inr rfl) (Nat.le_of_ble_eq_true rfl) (Nat.le_of_ble_eq_true rfl) ⟨1, rfl, fq64, bn64, (Or.inr ⟨rfl, by show 1 ≤ vh64 39; omega⟩)⟩
                          · refine m_aload_n (j := 5) C dX12_flow_152 rfl ?_
                            refine m_call (mc2 := 0) (ms2 := 0) (As := []) (rest := []) C (M_newLine  bn64.rg (bn64.1 39)) dX12_flow_153 kV_X12_257 rfl ck_13 rfl (Nat.le_of_ble_eq_true rfl) ⟨Nat.le_of_ble_eq_true rfl, Nat.le_of_ble_eq_true rfl⟩ ⟨Nat.le_of_ble_eq_true rfl, Nat.le_of_ble_eq_true rfl⟩ (fun rh65 vh65 ah65 h65 => ?_)
                            obtain ⟨f65, rfl, fn65, bn65, ex65⟩ := W_newLine bn64  h65
                            have fq65 := fq64.call fn65 rfl rfl
                            have gf65 : (f65 = 1 ∧ vh65 39 = vh64 39 + 1 ∧ ah65 37 (vh65 39 - 1).toNat = 0) ∨ f65 = 0 := ex65
                            refine m_st (st2 := [.int (iI f65)]) rfl ?_
                            refine m_if_ne (tgt := 161) C ⟨by omega, by omega⟩ dX12_flow_156 (by decide) (fun c116 => ?_) (fun c116 => ?_)
                            · refine m_goto (tgt := 2) C dX12_flow_161 (by decide) ?_
                              have rv159 : 0 ≤ vh65 39 ∧ vh65 39 ≤ 200 := bn65.1 39
                              refine m_lv (lv2 := [(2, .int (iI y)), (0, .ref h0), (1, .int (iI t))]) [0, 5, 6] rfl ?_
                              exact ih1  y _ _ (by omega) bn65 fq65 (by omega) (by show 1 ≤ (vh65 39) ∧ (vh65 39) ≤ 200; omega)
                            · refine m_iconst C dX12_flow_159 ?_
                              exact m_zret C dX12_flow_160 rfl (Or.inl rfl) (Nat.le_of_ble_eq_true rfl) (Nat.le_of_ble_eq_true rfl) ⟨0, rfl, fq65, bn65, (Or.inl rfl)⟩
                      · refine m_aload_n (j := 5) C dX12_flow_107 rfl ?_
                        refine m_aload_n (j := 5) C dX12_flow_108 rfl ?_
                        refine m_geta (k := 24) C dX12_flow_109 w6_83 (by decide) rfl ?_
                        refine m_iload (j := 0) C dX12_flow_112 rfl ?_
                        refine m_ald (k := 24) C dX12_flow_114 rfl rfl (by decide) (by omega) (by show _ < ((_ : Nat) : Int); simp only [mlen]; omega) (by decide) ?_
                        have ra75 : (-2147483648) ≤ ab23 24 k.toNat ∧ ab23 24 k.toNat ≤ 2147483647 := bxb23.2 24 (k.toNat)
                        have ae14 : ab23 24 (k.toNat) = a 24 (k.toNat) := congrFun (fpb23.2 24 rfl) (k.toNat)
                        refine m_st (st2 := [.int (iI (a 24 k.toNat)), .ref h0]) (congrArg (fun z => Value.int (iI z) :: [.ref h0]) (congrFun (fpb23.2 24 rfl) (k.toNat))) ?_
                        have rv160 : 0 ≤ vb23 39 ∧ vb23 39 ≤ 200 := bxb23.1 39
                        have ra76 : 0 ≤ ab23 37 (vb23 39 - 1).toNat ∧ ab23 37 (vb23 39 - 1).toNat ≤ 200 := bxb23.2 37 ((vb23 39 - 1).toNat)
                        refine m_call (mc2 := 0) (ms2 := 0) (As := [.int (iI (a 24 k.toNat))]) (rest := []) C (M_putCell (x := a 24 k.toNat) bxb23.rg (by show 1 ≤ vb23 39 ∧ vb23 39 ≤ 200; omega) (by show 0 ≤ ab23 37 (vb23 39 - 1).toNat ∧ ab23 37 (vb23 39 - 1).toNat < 200; omega)) dX12_flow_115 kV_X12_253 rfl ck_13 rfl (Nat.le_of_ble_eq_true rfl) ⟨Nat.le_of_ble_eq_true rfl, Nat.le_of_ble_eq_true rfl⟩ ⟨Nat.le_of_ble_eq_true rfl, Nat.le_of_ble_eq_true rfl⟩ (fun rh66 vh66 ah66 h66 => ?_)
                        obtain ⟨rfl, fn66, bn66, ex66⟩ := W_putCell bxb23 (by omega) (by show ab23 37 (vb23 39 - 1).toNat < 200; omega) h66
                        have fq66 := fpb23.call fn66 rfl rfl
                        have rv161 : 0 ≤ vh66 39 ∧ vh66 39 ≤ 200 := bn66.1 39
                        have ve82 : vh66 39 = vb23 39 := fn66.1 39 rfl
                        have gex66 : ah66 37 (vb23 39 - 1).toNat = ab23 37 (vb23 39 - 1).toNat + 1 := ex66
                        have jex66 : ah66 37 (vh66 39 - 1).toNat = ab23 37 (vb23 39 - 1).toNat + 1 := by rw [show vh66 39 = vb23 39 by omega]; exact ex66
                        refine m_st (st2 := []) rfl ?_
                        refine m_iinc (z := k) (j := 0) (lv2 := [(6, .int (iI (k + 1))), (5, .int (iI y)), (4, .int (iI ((v 31) - 0))), (3, .int (iI (ab1 37 ((vb1 39) - 1).toNat))), (2, .int (iI x)), (0, .ref h0), (1, .int (iI t))]) C dX12_flow_118 rfl (by decide) rfl ?_
                        refine m_goto (tgt := 100) C dX12_flow_121 (by decide) ?_
                        have ra77 : 0 ≤ ah66 37 ((vh66 39) - 1).toNat ∧ ah66 37 ((vh66 39) - 1).toNat ≤ 200 := bn66.2 37 (((vh66 39) - 1).toNat)
                        refine m_lv (lv2 := [(6, .int (iI (k + 1))), (5, .int (iI y)), (4, .int (iI ((v 31) - 0))), (3, .int (iI (ab1 37 ((vb1 39) - 1).toNat))), (2, .int (iI x)), (0, .ref h0), (1, .int (iI t))]) [0, 1, 2, 3, 4, 5, 6] rfl ?_
                        exact ih14  (k + 1) _ _ (by omega) bn66 fq66 (by omega) (by show (vh66 39) = vb1 39; omega) (by show ((ah66 37 ((vh66 39) - 1).toNat) + (y1 - (k + 1)) ≤ 199 ∨ ((ah66 37 ((vh66 39) - 1).toNat) + (y1 - (k + 1)) ≤ 200 ∧ y1 = v 25)) ∧ (k + 1) ≤ y1; omega)
                  have rv162 : 0 ≤ vb19 39 ∧ vb19 39 ≤ 200 := bxb19.1 39
                  have ra78 : 0 ≤ ab19 37 ((vb19 39) - 1).toNat ∧ ab19 37 ((vb19 39) - 1).toNat ≤ 200 := bxb19.2 37 (((vb19 39) - 1).toNat)
                  refine m_lv (lv2 := [(5, .int (iI y)), (4, .int (iI ((v 31) - 0))), (3, .int (iI (ab1 37 ((vb1 39) - 1).toNat))), (2, .int (iI x)), (0, .ref h0), (1, .int (iI t))]) [0, 1, 2, 3, 4, 5] rfl ?_
                  exact J9  y _ _  bxb19 fpb19 (by omega) (by show (vb19 39) = vb1 39; omega) (by show (ab19 37 ((vb19 39) - 1).toNat) = h1; omega)
              · refine m_aload_n (j := 4) C dX12_flow_77 rfl ?_
                have rv163 : 0 ≤ vb19 25 ∧ vb19 25 ≤ 208 := bxb19.1 25
                have ve83 : vb19 25 = v 25 := fpb19.1 25 rfl
                refine m_get (k := 25) C dX12_flow_78 w6_84 (by decide) rfl ?_
                refine m_st (st2 := [.int (iI (v 25))]) (congrArg (fun z => Value.int (iI z) :: []) (fpb19.1 25 rfl)) ?_
                refine m_istore (lv2 := [(5, .int (iI (v 25))), (4, .int (iI ((v 31) - 0))), (3, .int (iI (ab1 37 ((vb1 39) - 1).toNat))), (2, .int (iI x)), (0, .ref h0), (1, .int (iI t))]) C dX12_flow_81 (by decide) rfl ?_
                refine m_iload (j := 0) C dX12_flow_83 rfl ?_
                refine m_if_lt (tgt := 144) C ⟨by omega, by omega⟩ dX12_flow_85 (by decide) (fun c117 => ?_) (fun c117 => ?_)
                · refine m_iload_n (j := 3) C dX12_flow_144 rfl ?_
                  refine m_aload_n (j := 4) C dX12_flow_145 rfl ?_
                  refine m_get (k := 25) C dX12_flow_146 w6_84 (by decide) rfl ?_
                  refine m_st (st2 := [.int (iI (v 25)), .int (iI x)]) (congrArg (fun z => Value.int (iI z) :: [.int (iI x)]) (fpb19.1 25 rfl)) ?_
                  refine m_icmp_ge (tgt := 161) C ⟨by omega, by omega⟩ ⟨by omega, by omega⟩ dX12_flow_149 (by decide) (fun c118 => ?_) (fun c118 => ?_)
                  · refine m_goto (tgt := 2) C dX12_flow_161 (by decide) ?_
                    refine m_iload_n (j := 3) C dX12_flow_2 rfl ?_
                    refine m_aload_n (j := 4) C dX12_flow_3 rfl ?_
                    refine m_get (k := 25) C dX12_flow_4 w6_84 (by decide) rfl ?_
                    refine m_st (st2 := [.int (iI (v 25)), .int (iI x)]) (congrArg (fun z => Value.int (iI z) :: [.int (iI x)]) (fpb19.1 25 rfl)) ?_
                    refine m_icmp_ge (tgt := 164) C ⟨by omega, by omega⟩ ⟨by omega, by omega⟩ dX12_flow_7 (by decide) (fun _ => ?_) (fun z => absurd z (by omega))
                    refine m_iconst C dX12_flow_164 ?_
                    exact m_zret C dX12_flow_165 rfl (Or.inr rfl) (Nat.le_of_ble_eq_true rfl) (Nat.le_of_ble_eq_true rfl) ⟨1, rfl, fpb19, bxb19, (Or.inr ⟨rfl, by show 1 ≤ vb19 39; omega⟩)⟩
                  · refine m_aload_n (j := 4) C dX12_flow_152 rfl ?_
                    refine m_call (mc2 := 0) (ms2 := 0) (As := []) (rest := []) C (M_newLine  bxb19.rg (bxb19.1 39)) dX12_flow_153 kV_X12_257 rfl ck_13 rfl (Nat.le_of_ble_eq_true rfl) ⟨Nat.le_of_ble_eq_true rfl, Nat.le_of_ble_eq_true rfl⟩ ⟨Nat.le_of_ble_eq_true rfl, Nat.le_of_ble_eq_true rfl⟩ (fun rh67 vh67 ah67 h67 => ?_)
                    obtain ⟨f67, rfl, fn67, bn67, ex67⟩ := W_newLine bxb19  h67
                    have fq67 := fpb19.call fn67 rfl rfl
                    have gf67 : (f67 = 1 ∧ vh67 39 = vb19 39 + 1 ∧ ah67 37 (vh67 39 - 1).toNat = 0) ∨ f67 = 0 := ex67
                    refine m_st (st2 := [.int (iI f67)]) rfl ?_
                    refine m_if_ne (tgt := 161) C ⟨by omega, by omega⟩ dX12_flow_156 (by decide) (fun c119 => ?_) (fun c119 => ?_)
                    · refine m_goto (tgt := 2) C dX12_flow_161 (by decide) ?_
                      have rv164 : 0 ≤ vh67 39 ∧ vh67 39 ≤ 200 := bn67.1 39
                      refine m_lv (lv2 := [(2, .int (iI x)), (0, .ref h0), (1, .int (iI t))]) [3, 4, 5] rfl ?_
                      exact ih1  x _ _ (by omega) bn67 fq67 (by omega) (by show 1 ≤ (vh67 39) ∧ (vh67 39) ≤ 200; omega)
                    · refine m_iconst C dX12_flow_159 ?_
                      exact m_zret C dX12_flow_160 rfl (Or.inl rfl) (Nat.le_of_ble_eq_true rfl) (Nat.le_of_ble_eq_true rfl) ⟨0, rfl, fq67, bn67, (Or.inl rfl)⟩
                · have Lp15 : ∀ (nn : Nat) (k : Int) (vb24 : Nat → Int) (ab24 : Nat → Nat → Int), 210 - k < (nn : Int) → BX vb24 ab24 → fr [39] [37, 38] v a vb24 ab24 → (x ≤ k ∧ k ≤ 208) → (vb24 39 = vb1 39) → ((ab24 37 (vb24 39 - 1).toNat + (y1 - k) ≤ 199 ∨ (ab24 37 (vb24 39 - 1).toNat + (y1 - k) ≤ 200 ∧ y1 = v 25)) ∧ k ≤ y1) → mw p l e (rmq 2 0 0) s m args below meth c G A 7 (MQ below (Qm G A (fun rq Lq Eq => ∃ (vq : Nat → Int) (aq : Nat → Nat → Int), mI G h0 ad ln vq aq Lq Eq ∧ (fun r v2 a2 => ∃ f : Int, r = some (.int (iI f)) ∧ fr [39] [37, 38] v a v2 a2 ∧ BX v2 a2 ∧ (f = 0 ∨ (f = 1 ∧ 1 ≤ v2 39))) rq vq aq)) args s 0 0 A) h0 ad ln vb24 ab24 0 0 100 [(6, .int (iI k)), (5, .int (iI (v 25))), (4, .int (iI ((v 31) - 0))), (3, .int (iI (ab1 37 ((vb1 39) - 1).toNat))), (2, .int (iI x)), (0, .ref h0), (1, .int (iI t))] [] := by
                    intro nn
                    induction nn with
                    | zero =>
                      intro k vb24 ab24 hm bxb24 fpb24 hk hn4 hh4
                      exact absurd hm (by omega)
                    | succ nn ih15 =>
                      intro k vb24 ab24 hm bxb24 fpb24 hk hn4 hh4
                      refine m_iload (j := 0) C dX12_flow_100 rfl ?_
                      refine m_iload (j := 1) C dX12_flow_102 rfl ?_
                      refine m_icmp_ge (tgt := 124) C ⟨by omega, by omega⟩ ⟨by omega, by omega⟩ dX12_flow_104 (by decide) (fun c120 => ?_) (fun c120 => ?_)
                      · refine m_iload (j := 1) C dX12_flow_124 rfl ?_
                        refine m_aload_n (j := 5) C dX12_flow_126 rfl ?_
                        have rv165 : 0 ≤ vb24 25 ∧ vb24 25 ≤ 208 := bxb24.1 25
                        have ve84 : vb24 25 = v 25 := fpb24.1 25 rfl
                        refine m_get (k := 25) C dX12_flow_127 w6_84 (by decide) rfl ?_
                        refine m_st (st2 := [.int (iI (v 25)), .int (iI (v 25))]) (congrArg (fun z => Value.int (iI z) :: [.int (iI (v 25))]) (fpb24.1 25 rfl)) ?_
                        refine m_icmp_ge (tgt := 141) C ⟨by omega, by omega⟩ ⟨by omega, by omega⟩ dX12_flow_130 (by decide) (fun c121 => ?_) (fun c121 => ?_)
                        · refine m_iload (j := 1) C dX12_flow_141 rfl ?_
                          refine m_istore_n (lv2 := [(2, .int (iI (v 25))), (6, .int (iI k)), (5, .int (iI (v 25))), (4, .int (iI ((v 31) - 0))), (3, .int (iI (ab1 37 ((vb1 39) - 1).toNat))), (0, .ref h0), (1, .int (iI t))]) C dX12_flow_143 (by decide) rfl ?_
                          refine m_iload_n (j := 0) C dX12_flow_144 rfl ?_
                          refine m_aload_n (j := 5) C dX12_flow_145 rfl ?_
                          refine m_get (k := 25) C dX12_flow_146 w6_84 (by decide) rfl ?_
                          refine m_st (st2 := [.int (iI (v 25)), .int (iI (v 25))]) (congrArg (fun z => Value.int (iI z) :: [.int (iI (v 25))]) (fpb24.1 25 rfl)) ?_
                          refine m_icmp_ge (tgt := 161) C ⟨by omega, by omega⟩ ⟨by omega, by omega⟩ dX12_flow_149 (by decide) (fun c122 => ?_) (fun c122 => ?_)
                          · refine m_goto (tgt := 2) C dX12_flow_161 (by decide) ?_
                            refine m_iload_n (j := 0) C dX12_flow_2 rfl ?_
                            refine m_aload_n (j := 5) C dX12_flow_3 rfl ?_
                            refine m_get (k := 25) C dX12_flow_4 w6_84 (by decide) rfl ?_
                            refine m_st (st2 := [.int (iI (v 25)), .int (iI (v 25))]) (congrArg (fun z => Value.int (iI z) :: [.int (iI (v 25))]) (fpb24.1 25 rfl)) ?_
                            refine m_icmp_ge (tgt := 164) C ⟨by omega, by omega⟩ ⟨by omega, by omega⟩ dX12_flow_7 (by decide) (fun _ => ?_) (fun z => absurd z (by omega))
                            refine m_iconst C dX12_flow_164 ?_
                            exact m_zret C dX12_flow_165 rfl (Or.inr rfl) (Nat.le_of_ble_eq_true rfl) (Nat.le_of_ble_eq_true rfl) ⟨1, rfl, fpb24, bxb24, (Or.inr ⟨rfl, by show 1 ≤ vb24 39; omega⟩)⟩
                          · refine m_aload_n (j := 5) C dX12_flow_152 rfl ?_
                            refine m_call (mc2 := 0) (ms2 := 0) (As := []) (rest := []) C (M_newLine  bxb24.rg (bxb24.1 39)) dX12_flow_153 kV_X12_257 rfl ck_13 rfl (Nat.le_of_ble_eq_true rfl) ⟨Nat.le_of_ble_eq_true rfl, Nat.le_of_ble_eq_true rfl⟩ ⟨Nat.le_of_ble_eq_true rfl, Nat.le_of_ble_eq_true rfl⟩ (fun rh68 vh68 ah68 h68 => ?_)
                            obtain ⟨f68, rfl, fn68, bn68, ex68⟩ := W_newLine bxb24  h68
                            have fq68 := fpb24.call fn68 rfl rfl
                            have gf68 : (f68 = 1 ∧ vh68 39 = vb24 39 + 1 ∧ ah68 37 (vh68 39 - 1).toNat = 0) ∨ f68 = 0 := ex68
                            refine m_st (st2 := [.int (iI f68)]) rfl ?_
                            refine m_if_ne (tgt := 161) C ⟨by omega, by omega⟩ dX12_flow_156 (by decide) (fun c123 => ?_) (fun c123 => ?_)
                            · refine m_goto (tgt := 2) C dX12_flow_161 (by decide) ?_
                              have rv166 : 0 ≤ vh68 39 ∧ vh68 39 ≤ 200 := bn68.1 39
                              refine m_lv (lv2 := [(2, .int (iI (v 25))), (0, .ref h0), (1, .int (iI t))]) [0, 5, 6] rfl ?_
                              exact ih1  (v 25) _ _ (by omega) bn68 fq68 (by omega) (by show 1 ≤ (vh68 39) ∧ (vh68 39) ≤ 200; omega)
                            · refine m_iconst C dX12_flow_159 ?_
                              exact m_zret C dX12_flow_160 rfl (Or.inl rfl) (Nat.le_of_ble_eq_true rfl) (Nat.le_of_ble_eq_true rfl) ⟨0, rfl, fq68, bn68, (Or.inl rfl)⟩
                        · refine m_aload_n (j := 5) C dX12_flow_133 rfl ?_
                          refine m_aload_n (j := 5) C dX12_flow_134 rfl ?_
                          have rv167 : (-2147483648) ≤ vb24 33 ∧ vb24 33 ≤ 2147483647 := bxb24.1 33
                          have ve85 : vb24 33 = v 33 := fpb24.1 33 rfl
                          refine m_get (k := 33) C dX12_flow_135 w6_92 (by decide) rfl ?_
                          refine m_st (st2 := [.int (iI (v 33)), .ref h0]) (congrArg (fun z => Value.int (iI z) :: [.ref h0]) (fpb24.1 33 rfl)) ?_
                          have rv168 : 0 ≤ vb24 39 ∧ vb24 39 ≤ 200 := bxb24.1 39
                          have ra79 : 0 ≤ ab24 37 (vb24 39 - 1).toNat ∧ ab24 37 (vb24 39 - 1).toNat ≤ 200 := bxb24.2 37 ((vb24 39 - 1).toNat)
                          refine m_call (mc2 := 0) (ms2 := 0) (As := [.int (iI (v 33))]) (rest := []) C (M_putCell (x := v 33) bxb24.rg (by show 1 ≤ vb24 39 ∧ vb24 39 ≤ 200; omega) (by show 0 ≤ ab24 37 (vb24 39 - 1).toNat ∧ ab24 37 (vb24 39 - 1).toNat < 200; omega)) dX12_flow_138 kV_X12_253 rfl ck_13 rfl (Nat.le_of_ble_eq_true rfl) ⟨Nat.le_of_ble_eq_true rfl, Nat.le_of_ble_eq_true rfl⟩ ⟨Nat.le_of_ble_eq_true rfl, Nat.le_of_ble_eq_true rfl⟩ (fun rh69 vh69 ah69 h69 => ?_)
                          obtain ⟨rfl, fn69, bn69, ex69⟩ := W_putCell bxb24 (by omega) (by show ab24 37 (vb24 39 - 1).toNat < 200; omega) h69
                          have fq69 := fpb24.call fn69 rfl rfl
                          have rv169 : 0 ≤ vh69 39 ∧ vh69 39 ≤ 200 := bn69.1 39
                          have ve86 : vh69 39 = vb24 39 := fn69.1 39 rfl
                          have gex69 : ah69 37 (vb24 39 - 1).toNat = ab24 37 (vb24 39 - 1).toNat + 1 := ex69
                          have jex69 : ah69 37 (vh69 39 - 1).toNat = ab24 37 (vb24 39 - 1).toNat + 1 := by rw [show vh69 39 = vb24 39 by omega]; exact ex69
                          refine m_st (st2 := []) rfl ?_
                          refine m_iload (j := 1) C dX12_flow_141 rfl ?_
                          refine m_istore_n (lv2 := [(2, .int (iI (v 25))), (6, .int (iI k)), (5, .int (iI (v 25))), (4, .int (iI ((v 31) - 0))), (3, .int (iI (ab1 37 ((vb1 39) - 1).toNat))), (0, .ref h0), (1, .int (iI t))]) C dX12_flow_143 (by decide) rfl ?_
                          refine m_iload_n (j := 0) C dX12_flow_144 rfl ?_
                          refine m_aload_n (j := 5) C dX12_flow_145 rfl ?_
                          have rv170 : 0 ≤ vh69 25 ∧ vh69 25 ≤ 208 := bn69.1 25
                          have ve87 : vh69 25 = vb24 25 := fn69.1 25 rfl
                          refine m_get (k := 25) C dX12_flow_146 w6_84 (by decide) rfl ?_
                          refine m_st (st2 := [.int (iI (v 25)), .int (iI (v 25))]) (congrArg (fun z => Value.int (iI z) :: [.int (iI (v 25))]) (fq69.1 25 rfl)) ?_
                          refine m_icmp_ge (tgt := 161) C ⟨by omega, by omega⟩ ⟨by omega, by omega⟩ dX12_flow_149 (by decide) (fun c124 => ?_) (fun c124 => ?_)
                          · refine m_goto (tgt := 2) C dX12_flow_161 (by decide) ?_
                            refine m_iload_n (j := 0) C dX12_flow_2 rfl ?_
                            refine m_aload_n (j := 5) C dX12_flow_3 rfl ?_
                            refine m_get (k := 25) C dX12_flow_4 w6_84 (by decide) rfl ?_
                            refine m_st (st2 := [.int (iI (v 25)), .int (iI (v 25))]) (congrArg (fun z => Value.int (iI z) :: [.int (iI (v 25))]) (fq69.1 25 rfl)) ?_
                            refine m_icmp_ge (tgt := 164) C ⟨by omega, by omega⟩ ⟨by omega, by omega⟩ dX12_flow_7 (by decide) (fun _ => ?_) (fun z => absurd z (by omega))
                            refine m_iconst C dX12_flow_164 ?_
                            exact m_zret C dX12_flow_165 rfl (Or.inr rfl) (Nat.le_of_ble_eq_true rfl) (Nat.le_of_ble_eq_true rfl) ⟨1, rfl, fq69, bn69, (Or.inr ⟨rfl, by show 1 ≤ vh69 39; omega⟩)⟩
                          · refine m_aload_n (j := 5) C dX12_flow_152 rfl ?_
                            refine m_call (mc2 := 0) (ms2 := 0) (As := []) (rest := []) C (M_newLine  bn69.rg (bn69.1 39)) dX12_flow_153 kV_X12_257 rfl ck_13 rfl (Nat.le_of_ble_eq_true rfl) ⟨Nat.le_of_ble_eq_true rfl, Nat.le_of_ble_eq_true rfl⟩ ⟨Nat.le_of_ble_eq_true rfl, Nat.le_of_ble_eq_true rfl⟩ (fun rh70 vh70 ah70 h70 => ?_)
                            obtain ⟨f70, rfl, fn70, bn70, ex70⟩ := W_newLine bn69  h70
                            have fq70 := fq69.call fn70 rfl rfl
                            have gf70 : (f70 = 1 ∧ vh70 39 = vh69 39 + 1 ∧ ah70 37 (vh70 39 - 1).toNat = 0) ∨ f70 = 0 := ex70
                            refine m_st (st2 := [.int (iI f70)]) rfl ?_
                            refine m_if_ne (tgt := 161) C ⟨by omega, by omega⟩ dX12_flow_156 (by decide) (fun c125 => ?_) (fun c125 => ?_)
                            · refine m_goto (tgt := 2) C dX12_flow_161 (by decide) ?_
                              have rv171 : 0 ≤ vh70 39 ∧ vh70 39 ≤ 200 := bn70.1 39
                              refine m_lv (lv2 := [(2, .int (iI (v 25))), (0, .ref h0), (1, .int (iI t))]) [0, 5, 6] rfl ?_
                              exact ih1  (v 25) _ _ (by omega) bn70 fq70 (by omega) (by show 1 ≤ (vh70 39) ∧ (vh70 39) ≤ 200; omega)
                            · refine m_iconst C dX12_flow_159 ?_
                              exact m_zret C dX12_flow_160 rfl (Or.inl rfl) (Nat.le_of_ble_eq_true rfl) (Nat.le_of_ble_eq_true rfl) ⟨0, rfl, fq70, bn70, (Or.inl rfl)⟩
                      · refine m_aload_n (j := 5) C dX12_flow_107 rfl ?_
                        refine m_aload_n (j := 5) C dX12_flow_108 rfl ?_
                        refine m_geta (k := 24) C dX12_flow_109 w6_83 (by decide) rfl ?_
                        refine m_iload (j := 0) C dX12_flow_112 rfl ?_
                        refine m_ald (k := 24) C dX12_flow_114 rfl rfl (by decide) (by omega) (by show _ < ((_ : Nat) : Int); simp only [mlen]; omega) (by decide) ?_
                        have ra80 : (-2147483648) ≤ ab24 24 k.toNat ∧ ab24 24 k.toNat ≤ 2147483647 := bxb24.2 24 (k.toNat)
                        have ae15 : ab24 24 (k.toNat) = a 24 (k.toNat) := congrFun (fpb24.2 24 rfl) (k.toNat)
                        refine m_st (st2 := [.int (iI (a 24 k.toNat)), .ref h0]) (congrArg (fun z => Value.int (iI z) :: [.ref h0]) (congrFun (fpb24.2 24 rfl) (k.toNat))) ?_
                        have rv172 : 0 ≤ vb24 39 ∧ vb24 39 ≤ 200 := bxb24.1 39
                        have ra81 : 0 ≤ ab24 37 (vb24 39 - 1).toNat ∧ ab24 37 (vb24 39 - 1).toNat ≤ 200 := bxb24.2 37 ((vb24 39 - 1).toNat)
                        refine m_call (mc2 := 0) (ms2 := 0) (As := [.int (iI (a 24 k.toNat))]) (rest := []) C (M_putCell (x := a 24 k.toNat) bxb24.rg (by show 1 ≤ vb24 39 ∧ vb24 39 ≤ 200; omega) (by show 0 ≤ ab24 37 (vb24 39 - 1).toNat ∧ ab24 37 (vb24 39 - 1).toNat < 200; omega)) dX12_flow_115 kV_X12_253 rfl ck_13 rfl (Nat.le_of_ble_eq_true rfl) ⟨Nat.le_of_ble_eq_true rfl, Nat.le_of_ble_eq_true rfl⟩ ⟨Nat.le_of_ble_eq_true rfl, Nat.le_of_ble_eq_true rfl⟩ (fun rh71 vh71 ah71 h71 => ?_)
                        obtain ⟨rfl, fn71, bn71, ex71⟩ := W_putCell bxb24 (by omega) (by show ab24 37 (vb24 39 - 1).toNat < 200; omega) h71
                        have fq71 := fpb24.call fn71 rfl rfl
                        have rv173 : 0 ≤ vh71 39 ∧ vh71 39 ≤ 200 := bn71.1 39
                        have ve88 : vh71 39 = vb24 39 := fn71.1 39 rfl
                        have gex71 : ah71 37 (vb24 39 - 1).toNat = ab24 37 (vb24 39 - 1).toNat + 1 := ex71
                        have jex71 : ah71 37 (vh71 39 - 1).toNat = ab24 37 (vb24 39 - 1).toNat + 1 := by rw [show vh71 39 = vb24 39 by omega]; exact ex71
                        refine m_st (st2 := []) rfl ?_
                        refine m_iinc (z := k) (j := 0) (lv2 := [(6, .int (iI (k + 1))), (5, .int (iI (v 25))), (4, .int (iI ((v 31) - 0))), (3, .int (iI (ab1 37 ((vb1 39) - 1).toNat))), (2, .int (iI x)), (0, .ref h0), (1, .int (iI t))]) C dX12_flow_118 rfl (by decide) rfl ?_
                        refine m_goto (tgt := 100) C dX12_flow_121 (by decide) ?_
                        have ra82 : 0 ≤ ah71 37 ((vh71 39) - 1).toNat ∧ ah71 37 ((vh71 39) - 1).toNat ≤ 200 := bn71.2 37 (((vh71 39) - 1).toNat)
                        refine m_lv (lv2 := [(6, .int (iI (k + 1))), (5, .int (iI (v 25))), (4, .int (iI ((v 31) - 0))), (3, .int (iI (ab1 37 ((vb1 39) - 1).toNat))), (2, .int (iI x)), (0, .ref h0), (1, .int (iI t))]) [0, 1, 2, 3, 4, 5, 6] rfl ?_
                        exact ih15  (k + 1) _ _ (by omega) bn71 fq71 (by omega) (by show (vh71 39) = vb1 39; omega) (by show ((ah71 37 ((vh71 39) - 1).toNat) + (y1 - (k + 1)) ≤ 199 ∨ ((ah71 37 ((vh71 39) - 1).toNat) + (y1 - (k + 1)) ≤ 200 ∧ y1 = v 25)) ∧ (k + 1) ≤ y1; omega)
                  have rv174 : 0 ≤ vb19 39 ∧ vb19 39 ≤ 200 := bxb19.1 39
                  have ra83 : 0 ≤ ab19 37 ((vb19 39) - 1).toNat ∧ ab19 37 ((vb19 39) - 1).toNat ≤ 200 := bxb19.2 37 (((vb19 39) - 1).toNat)
                  refine m_lv (lv2 := [(5, .int (iI (v 25))), (4, .int (iI ((v 31) - 0))), (3, .int (iI (ab1 37 ((vb1 39) - 1).toNat))), (2, .int (iI x)), (0, .ref h0), (1, .int (iI t))]) [0, 1, 2, 3, 4, 5] rfl ?_
                  exact J9  (v 25) _ _  bxb19 fpb19 (by omega) (by show (vb19 39) = vb1 39; omega) (by show (ab19 37 ((vb19 39) - 1).toNat) = h1; omega)
          refine m_lv (lv2 := [(4, .int (iI ((v 31) - 0))), (3, .int (iI (ab1 37 ((vb1 39) - 1).toNat))), (2, .int (iI x)), (0, .ref h0), (1, .int (iI t))]) [0, 1, 2, 3, 4] rfl ?_
          exact J1  (ab1 37 ((vb1 39) - 1).toNat) ((v 31) - 0) _ _  bxb1 fpb1 (by omega) (by show (vb1 39) = vb1 39; omega) (by show (ab1 37 ((vb1 39) - 1).toNat) = (ab1 37 ((vb1 39) - 1).toNat); omega)
  have rv175 : 0 ≤ v 39 ∧ v 39 ≤ 200 := hB.1 39
  refine m_lv (lv2 := [(2, .int (iI 0)), (0, .ref h0), (1, .int (iI t))]) [0, 1, 2] rfl ?_
  exact Lp1 202 0 _ _ (by omega) hB fp0 (by omega) (by show 1 ≤ (v 39) ∧ (v 39) ≤ 200; omega)
