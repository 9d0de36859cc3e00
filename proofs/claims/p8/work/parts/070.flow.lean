set_option maxHeartbeats 4000000 in
set_option maxRecDepth 100000 in
theorem M_flow {l : Launch} {G : GT} {h0 : Nat} {ad ln : Nat → Nat} {v : Nat → Int} {a : Nat → Nat → Int}  {t : Int} (hB : BX v a) (ht : 0 ≤ t ∧ t < 30) (h39 : 1 ≤ v 39) (h25 : v 25 ≤ 200) : Mm l G yX12_flow cX12_flow 7 (some .boolean) 2 [.int (iI t)] h0 ad ln v a 0 0 (fun r v2 a2 => ∃ f : Int, r = some (.int (iI f)) ∧ fr [39] [37, 38] v a v2 a2 ∧ BX v2 a2 ∧ (f = 0 ∨ (f = 1 ∧ 1 ≤ v2 39))) := by
  refine Mm.mk (by decide) (Nat.le_of_ble_eq_true rfl) ?_
  intro p e s m args below meth c A C
  have r25 : 0 ≤ v 25 ∧ v 25 ≤ 208 := hB.1 25
  have r31 : 1 ≤ v 31 ∧ v 31 ≤ 100 := hB.1 31
  have fp0 : fr [39] [37, 38] v a v a := fr.refl
  refine m_iconst C dX12_flow_0 ?_
  refine m_istore_n (lv2 := [(2, .int (iI 0)), (0, .ref h0), (1, .int (iI t))]) C dX12_flow_1 (by decide) rfl ?_
  have Lp1 : ∀ (nn : Nat) (x : Int) (vb1 : Nat → Int) (ab1 : Nat → Nat → Int), 201 - vb1 39 < (nn : Int) → BX vb1 ab1 → fr [39] [37, 38] v a vb1 ab1 → (0 ≤ x ∧ x ≤ 208) → (1 ≤ vb1 39 ∧ vb1 39 ≤ 200) → mw p l e (rmq 2 0 0) s m args below meth c G A 7 (MQ below (Qm G A (fun rq Lq Eq => ∃ (vq : Nat → Int) (aq : Nat → Nat → Int), mI G h0 ad ln vq aq Lq Eq ∧ (fun r v2 a2 => ∃ f : Int, r = some (.int (iI f)) ∧ fr [39] [37, 38] v a v2 a2 ∧ BX v2 a2 ∧ (f = 0 ∨ (f = 1 ∧ 1 ≤ v2 39))) rq vq aq)) args s 0 0 A) h0 ad ln vb1 ab1 0 0 2 [(2, .int (iI x)), (0, .ref h0), (1, .int (iI t))] [] := by
    intro nn
    induction nn with
    | zero =>
      intro x vb1 ab1 hm bxb1 fpb1 hx hn
      exact absurd hm (by omega)
    | succ nn ih1 =>
      intro x vb1 ab1 hm bxb1 fpb1 hx hn
      refine m_iload_n (j := 0) C dX12_flow_2 rfl ?_
      refine m_aload_n (j := 1) C dX12_flow_3 rfl ?_
      have rv1 : 0 ≤ vb1 25 ∧ vb1 25 ≤ 208 := bxb1.1 25
      have ve1 : vb1 25 = v 25 := fpb1.1 25 rfl
      refine m_get (k := 25) C dX12_flow_4 w6_84 (by decide) rfl ?_
      refine m_st (st2 := [.int (iI (v 25)), .int (iI x)]) (congrArg (fun z => Value.int (iI z) :: [.int (iI x)]) (fpb1.1 25 rfl)) ?_
      refine m_icmp_ge (tgt := 164) C ⟨by omega, by omega⟩ ⟨by omega, by omega⟩ dX12_flow_7 (by decide) (fun c1 => ?_) (fun c1 => ?_)
      · refine m_iconst C dX12_flow_164 ?_
        exact m_zret C dX12_flow_165 rfl (Or.inr rfl) (Nat.le_of_ble_eq_true rfl) (Nat.le_of_ble_eq_true rfl) ⟨1, rfl, fpb1, bxb1, (Or.inr ⟨rfl, by show 1 ≤ vb1 39; omega⟩)⟩
      · refine m_aload_n (j := 1) C dX12_flow_10 rfl ?_
        refine m_geta (k := 37) C dX12_flow_11 w6_96 (by decide) rfl ?_
        refine m_aload_n (j := 1) C dX12_flow_14 rfl ?_
        have rv2 : 0 ≤ vb1 39 ∧ vb1 39 ≤ 200 := bxb1.1 39
        refine m_get (k := 39) C dX12_flow_15 w6_98 (by decide) rfl ?_
        refine m_iconst C dX12_flow_18 ?_
        refine m_isub C dX12_flow_19 ?_
        refine m_ald (k := 37) C dX12_flow_20 rfl rfl (by decide) (by omega) (by show _ < ((_ : Nat) : Int); simp only [mlen]; omega) (by decide) ?_
        have ra1 : 0 ≤ ab1 37 ((vb1 39) - 1).toNat ∧ ab1 37 ((vb1 39) - 1).toNat ≤ 200 := bxb1.2 37 (((vb1 39) - 1).toNat)
        refine m_istore_n (lv2 := [(3, .int (iI (ab1 37 ((vb1 39) - 1).toNat))), (2, .int (iI x)), (0, .ref h0), (1, .int (iI t))]) C dX12_flow_21 (by decide) rfl ?_
        have J1 : ∀ (h1 z1 : Int) (vb2 : Nat → Int) (ab2 : Nat → Nat → Int), BX vb2 ab2 → fr [39] [37, 38] v a vb2 ab2 → (0 ≤ h1 ∧ h1 ≤ 200 ∧ ((h1 = 0 ∧ z1 = v 31) ∨ (0 < h1 ∧ z1 = v 31 - (h1 + 1)))) → (vb2 39 = vb1 39) → (ab2 37 (vb2 39 - 1).toNat = h1) → mw p l e (rmq 2 0 0) s m args below meth c G A 7 (MQ below (Qm G A (fun rq Lq Eq => ∃ (vq : Nat → Int) (aq : Nat → Nat → Int), mI G h0 ad ln vq aq Lq Eq ∧ (fun r v2 a2 => ∃ f : Int, r = some (.int (iI f)) ∧ fr [39] [37, 38] v a v2 a2 ∧ BX v2 a2 ∧ (f = 0 ∨ (f = 1 ∧ 1 ≤ v2 39))) rq vq aq)) args s 0 0 A) h0 ad ln vb2 ab2 0 0 40 [(4, .int (iI z1)), (3, .int (iI h1)), (2, .int (iI x)), (0, .ref h0), (1, .int (iI t))] [] := by
          intro h1 z1 vb2 ab2 bxb2 fpb2 hh hn1 hh1
          have J2 : ∀ (y : Int) (vb3 : Nat → Int) (ab3 : Nat → Nat → Int), BX vb3 ab3 → fr [39] [37, 38] v a vb3 ab3 → (y = -1 ∨ (y = v 25 ∧ v 25 - x ≤ z1) ∨ (x < y ∧ y ≤ 208 ∧ y - x + 1 ≤ z1)) → (vb3 39 = vb1 39) → (ab3 37 (vb3 39 - 1).toNat = h1) → mw p l e (rmq 2 0 0) s m args below meth c G A 7 (MQ below (Qm G A (fun rq Lq Eq => ∃ (vq : Nat → Int) (aq : Nat → Nat → Int), mI G h0 ad ln vq aq Lq Eq ∧ (fun r v2 a2 => ∃ f : Int, r = some (.int (iI f)) ∧ fr [39] [37, 38] v a v2 a2 ∧ BX v2 a2 ∧ (f = 0 ∨ (f = 1 ∧ 1 ≤ v2 39))) rq vq aq)) args s 0 0 A) h0 ad ln vb3 ab3 0 0 68 [(5, .int (iI y)), (4, .int (iI z1)), (3, .int (iI h1)), (2, .int (iI x)), (0, .ref h0), (1, .int (iI t))] [] := by
            intro y vb3 ab3 bxb3 fpb3 hy hn2 hh2
            have J3 : ∀ (y1 : Int) (vb4 : Nat → Int) (ab4 : Nat → Nat → Int), BX vb4 ab4 → fr [39] [37, 38] v a vb4 ab4 → ((h1 = 0 ∧ y1 = v 25) ∨ (y1 = v 25 ∧ v 25 - x ≤ z1) ∨ (x < y1 ∧ y1 ≤ 208 ∧ y1 - x + 1 ≤ z1)) → (vb4 39 = vb1 39) → (ab4 37 (vb4 39 - 1).toNat = h1) → mw p l e (rmq 2 0 0) s m args below meth c G A 7 (MQ below (Qm G A (fun rq Lq Eq => ∃ (vq : Nat → Int) (aq : Nat → Nat → Int), mI G h0 ad ln vq aq Lq Eq ∧ (fun r v2 a2 => ∃ f : Int, r = some (.int (iI f)) ∧ fr [39] [37, 38] v a v2 a2 ∧ BX v2 a2 ∧ (f = 0 ∨ (f = 1 ∧ 1 ≤ v2 39))) rq vq aq)) args s 0 0 A) h0 ad ln vb4 ab4 0 0 88 [(5, .int (iI y1)), (4, .int (iI z1)), (3, .int (iI h1)), (2, .int (iI x)), (0, .ref h0), (1, .int (iI t))] [] := by
              intro y1 vb4 ab4 bxb4 fpb4 hy1 hn3 hh3
              have Lp2 : ∀ (nn : Nat) (k : Int) (vb5 : Nat → Int) (ab5 : Nat → Nat → Int), 210 - k < (nn : Int) → BX vb5 ab5 → fr [39] [37, 38] v a vb5 ab5 → (x ≤ k ∧ k ≤ 208) → (vb5 39 = vb1 39) → ((ab5 37 (vb5 39 - 1).toNat + (y1 - k) ≤ 199 ∨ (ab5 37 (vb5 39 - 1).toNat + (y1 - k) ≤ 200 ∧ y1 = v 25)) ∧ k ≤ y1) → mw p l e (rmq 2 0 0) s m args below meth c G A 7 (MQ below (Qm G A (fun rq Lq Eq => ∃ (vq : Nat → Int) (aq : Nat → Nat → Int), mI G h0 ad ln vq aq Lq Eq ∧ (fun r v2 a2 => ∃ f : Int, r = some (.int (iI f)) ∧ fr [39] [37, 38] v a v2 a2 ∧ BX v2 a2 ∧ (f = 0 ∨ (f = 1 ∧ 1 ≤ v2 39))) rq vq aq)) args s 0 0 A) h0 ad ln vb5 ab5 0 0 100 [(6, .int (iI k)), (5, .int (iI y1)), (4, .int (iI z1)), (3, .int (iI h1)), (2, .int (iI x)), (0, .ref h0), (1, .int (iI t))] [] := by
                intro nn
                induction nn with
                | zero =>
                  intro k vb5 ab5 hm bxb5 fpb5 hk hn4 hh4
                  exact absurd hm (by omega)
                | succ nn ih2 =>
                  intro k vb5 ab5 hm bxb5 fpb5 hk hn4 hh4
                  refine m_iload (j := 0) C dX12_flow_100 rfl ?_
                  refine m_iload (j := 1) C dX12_flow_102 rfl ?_
                  refine m_icmp_ge (tgt := 124) C ⟨by omega, by omega⟩ ⟨by omega, by omega⟩ dX12_flow_104 (by decide) (fun c2 => ?_) (fun c2 => ?_)
                  · refine m_iload (j := 1) C dX12_flow_124 rfl ?_
                    refine m_aload_n (j := 5) C dX12_flow_126 rfl ?_
                    have rv3 : 0 ≤ vb5 25 ∧ vb5 25 ≤ 208 := bxb5.1 25
                    have ve2 : vb5 25 = v 25 := fpb5.1 25 rfl
                    refine m_get (k := 25) C dX12_flow_127 w6_84 (by decide) rfl ?_
                    refine m_st (st2 := [.int (iI (v 25)), .int (iI y1)]) (congrArg (fun z => Value.int (iI z) :: [.int (iI y1)]) (fpb5.1 25 rfl)) ?_
                    refine m_icmp_ge (tgt := 141) C ⟨by omega, by omega⟩ ⟨by omega, by omega⟩ dX12_flow_130 (by decide) (fun c3 => ?_) (fun c3 => ?_)
                    · refine m_iload (j := 1) C dX12_flow_141 rfl ?_
                      refine m_istore_n (lv2 := [(2, .int (iI y1)), (6, .int (iI k)), (5, .int (iI y1)), (4, .int (iI z1)), (3, .int (iI h1)), (0, .ref h0), (1, .int (iI t))]) C dX12_flow_143 (by decide) rfl ?_
                      refine m_iload_n (j := 0) C dX12_flow_144 rfl ?_
                      refine m_aload_n (j := 5) C dX12_flow_145 rfl ?_
                      refine m_get (k := 25) C dX12_flow_146 w6_84 (by decide) rfl ?_
                      refine m_st (st2 := [.int (iI (v 25)), .int (iI y1)]) (congrArg (fun z => Value.int (iI z) :: [.int (iI y1)]) (fpb5.1 25 rfl)) ?_
                      refine m_icmp_ge (tgt := 161) C ⟨by omega, by omega⟩ ⟨by omega, by omega⟩ dX12_flow_149 (by decide) (fun c4 => ?_) (fun c4 => ?_)
                      · refine m_goto (tgt := 2) C dX12_flow_161 (by decide) ?_
                        refine m_iload_n (j := 0) C dX12_flow_2 rfl ?_
                        refine m_aload_n (j := 5) C dX12_flow_3 rfl ?_
                        refine m_get (k := 25) C dX12_flow_4 w6_84 (by decide) rfl ?_
                        refine m_st (st2 := [.int (iI (v 25)), .int (iI y1)]) (congrArg (fun z => Value.int (iI z) :: [.int (iI y1)]) (fpb5.1 25 rfl)) ?_
                        refine m_icmp_ge (tgt := 164) C ⟨by omega, by omega⟩ ⟨by omega, by omega⟩ dX12_flow_7 (by decide) (fun _ => ?_) (fun z => absurd z (by omega))
                        refine m_iconst C dX12_flow_164 ?_
                        exact m_zret C dX12_flow_165 rfl (Or.inr rfl) (Nat.le_of_ble_eq_true rfl) (Nat.le_of_ble_eq_true rfl) ⟨1, rfl, fpb5, bxb5, (Or.inr ⟨rfl, by show 1 ≤ vb5 39; omega⟩)⟩
                      · refine m_aload_n (j := 5) C dX12_flow_152 rfl ?_
                        refine m_call (mc2 := 0) (ms2 := 0) (As := []) (rest := []) C (M_newLine  bxb5.rg (bxb5.1 39)) dX12_flow_153 kV_X12_257 rfl ck_13 rfl (Nat.le_of_ble_eq_true rfl) ⟨Nat.le_of_ble_eq_true rfl, Nat.le_of_ble_eq_true rfl⟩ ⟨Nat.le_of_ble_eq_true rfl, Nat.le_of_ble_eq_true rfl⟩ (fun rh1 vh1 ah1 h1 => ?_)
                        obtain ⟨f1, rfl, fn1, bn1, ex1⟩ := W_newLine bxb5  h1
                        have fq1 := fpb5.call fn1 rfl rfl
                        have gf1 : (f1 = 1 ∧ vh1 39 = vb5 39 + 1 ∧ ah1 37 (vh1 39 - 1).toNat = 0) ∨ f1 = 0 := ex1
                        refine m_st (st2 := [.int (iI f1)]) rfl ?_
                        refine m_if_ne (tgt := 161) C ⟨by omega, by omega⟩ dX12_flow_156 (by decide) (fun c5 => ?_) (fun c5 => ?_)
                        · refine m_goto (tgt := 2) C dX12_flow_161 (by decide) ?_
                          have rv4 : 0 ≤ vh1 39 ∧ vh1 39 ≤ 200 := bn1.1 39
                          refine m_lv (lv2 := [(2, .int (iI y1)), (0, .ref h0), (1, .int (iI t))]) [0, 5, 6] rfl ?_
                          exact ih1  y1 _ _ (by omega) bn1 fq1 (by omega) (by show 1 ≤ (vh1 39) ∧ (vh1 39) ≤ 200; omega)
                        · refine m_iconst C dX12_flow_159 ?_
                          exact m_zret C dX12_flow_160 rfl (Or.inl rfl) (Nat.le_of_ble_eq_true rfl) (Nat.le_of_ble_eq_true rfl) ⟨0, rfl, fq1, bn1, (Or.inl rfl)⟩
                    · refine m_aload_n (j := 5) C dX12_flow_133 rfl ?_
                      refine m_aload_n (j := 5) C dX12_flow_134 rfl ?_
                      have rv5 : (-2147483648) ≤ vb5 33 ∧ vb5 33 ≤ 2147483647 := bxb5.1 33
                      have ve3 : vb5 33 = v 33 := fpb5.1 33 rfl
                      refine m_get (k := 33) C dX12_flow_135 w6_92 (by decide) rfl ?_
                      refine m_st (st2 := [.int (iI (v 33)), .ref h0]) (congrArg (fun z => Value.int (iI z) :: [.ref h0]) (fpb5.1 33 rfl)) ?_
                      have rv6 : 0 ≤ vb5 39 ∧ vb5 39 ≤ 200 := bxb5.1 39
                      have ra2 : 0 ≤ ab5 37 (vb5 39 - 1).toNat ∧ ab5 37 (vb5 39 - 1).toNat ≤ 200 := bxb5.2 37 ((vb5 39 - 1).toNat)
                      refine m_call (mc2 := 0) (ms2 := 0) (As := [.int (iI (v 33))]) (rest := []) C (M_putCell (x := v 33) bxb5.rg (by show 1 ≤ vb5 39 ∧ vb5 39 ≤ 200; omega) (by show 0 ≤ ab5 37 (vb5 39 - 1).toNat ∧ ab5 37 (vb5 39 - 1).toNat < 200; omega)) dX12_flow_138 kV_X12_253 rfl ck_13 rfl (Nat.le_of_ble_eq_true rfl) ⟨Nat.le_of_ble_eq_true rfl, Nat.le_of_ble_eq_true rfl⟩ ⟨Nat.le_of_ble_eq_true rfl, Nat.le_of_ble_eq_true rfl⟩ (fun rh2 vh2 ah2 h2 => ?_)
                      obtain ⟨rfl, fn2, bn2, ex2⟩ := W_putCell bxb5 (by omega) (by show ab5 37 (vb5 39 - 1).toNat < 200; omega) h2
                      have fq2 := fpb5.call fn2 rfl rfl
                      have rv7 : 0 ≤ vh2 39 ∧ vh2 39 ≤ 200 := bn2.1 39
                      have ve4 : vh2 39 = vb5 39 := fn2.1 39 rfl
                      have gex2 : ah2 37 (vb5 39 - 1).toNat = ab5 37 (vb5 39 - 1).toNat + 1 := ex2
                      have jex2 : ah2 37 (vh2 39 - 1).toNat = ab5 37 (vb5 39 - 1).toNat + 1 := by rw [show vh2 39 = vb5 39 by omega]; exact ex2
                      refine m_st (st2 := []) rfl ?_
                      refine m_iload (j := 1) C dX12_flow_141 rfl ?_
                      refine m_istore_n (lv2 := [(2, .int (iI y1)), (6, .int (iI k)), (5, .int (iI y1)), (4, .int (iI z1)), (3, .int (iI h1)), (0, .ref h0), (1, .int (iI t))]) C dX12_flow_143 (by decide) rfl ?_
                      refine m_iload_n (j := 0) C dX12_flow_144 rfl ?_
                      refine m_aload_n (j := 5) C dX12_flow_145 rfl ?_
                      have rv8 : 0 ≤ vh2 25 ∧ vh2 25 ≤ 208 := bn2.1 25
                      have ve5 : vh2 25 = vb5 25 := fn2.1 25 rfl
                      refine m_get (k := 25) C dX12_flow_146 w6_84 (by decide) rfl ?_
                      refine m_st (st2 := [.int (iI (v 25)), .int (iI y1)]) (congrArg (fun z => Value.int (iI z) :: [.int (iI y1)]) (fq2.1 25 rfl)) ?_
                      refine m_icmp_ge (tgt := 161) C ⟨by omega, by omega⟩ ⟨by omega, by omega⟩ dX12_flow_149 (by decide) (fun c6 => ?_) (fun c6 => ?_)
                      · refine m_goto (tgt := 2) C dX12_flow_161 (by decide) ?_
                        refine m_iload_n (j := 0) C dX12_flow_2 rfl ?_
                        refine m_aload_n (j := 5) C dX12_flow_3 rfl ?_
                        refine m_get (k := 25) C dX12_flow_4 w6_84 (by decide) rfl ?_
                        refine m_st (st2 := [.int (iI (v 25)), .int (iI y1)]) (congrArg (fun z => Value.int (iI z) :: [.int (iI y1)]) (fq2.1 25 rfl)) ?_
                        refine m_icmp_ge (tgt := 164) C ⟨by omega, by omega⟩ ⟨by omega, by omega⟩ dX12_flow_7 (by decide) (fun _ => ?_) (fun z => absurd z (by omega))
                        refine m_iconst C dX12_flow_164 ?_
                        exact m_zret C dX12_flow_165 rfl (Or.inr rfl) (Nat.le_of_ble_eq_true rfl) (Nat.le_of_ble_eq_true rfl) ⟨1, rfl, fq2, bn2, (Or.inr ⟨rfl, by show 1 ≤ vh2 39; omega⟩)⟩
                      · refine m_aload_n (j := 5) C dX12_flow_152 rfl ?_
                        refine m_call (mc2 := 0) (ms2 := 0) (As := []) (rest := []) C (M_newLine  bn2.rg (bn2.1 39)) dX12_flow_153 kV_X12_257 rfl ck_13 rfl (Nat.le_of_ble_eq_true rfl) ⟨Nat.le_of_ble_eq_true rfl, Nat.le_of_ble_eq_true rfl⟩ ⟨Nat.le_of_ble_eq_true rfl, Nat.le_of_ble_eq_true rfl⟩ (fun rh3 vh3 ah3 h3 => ?_)
                        obtain ⟨f3, rfl, fn3, bn3, ex3⟩ := W_newLine bn2  h3
                        have fq3 := fq2.call fn3 rfl rfl
                        have gf3 : (f3 = 1 ∧ vh3 39 = vh2 39 + 1 ∧ ah3 37 (vh3 39 - 1).toNat = 0) ∨ f3 = 0 := ex3
                        refine m_st (st2 := [.int (iI f3)]) rfl ?_
                        refine m_if_ne (tgt := 161) C ⟨by omega, by omega⟩ dX12_flow_156 (by decide) (fun c7 => ?_) (fun c7 => ?_)
                        · refine m_goto (tgt := 2) C dX12_flow_161 (by decide) ?_
                          have rv9 : 0 ≤ vh3 39 ∧ vh3 39 ≤ 200 := bn3.1 39
                          refine m_lv (lv2 := [(2, .int (iI y1)), (0, .ref h0), (1, .int (iI t))]) [0, 5, 6] rfl ?_
                          exact ih1  y1 _ _ (by omega) bn3 fq3 (by omega) (by show 1 ≤ (vh3 39) ∧ (vh3 39) ≤ 200; omega)
                        · refine m_iconst C dX12_flow_159 ?_
                          exact m_zret C dX12_flow_160 rfl (Or.inl rfl) (Nat.le_of_ble_eq_true rfl) (Nat.le_of_ble_eq_true rfl) ⟨0, rfl, fq3, bn3, (Or.inl rfl)⟩
                  · refine m_aload_n (j := 5) C dX12_flow_107 rfl ?_
                    refine m_aload_n (j := 5) C dX12_flow_108 rfl ?_
                    refine m_geta (k := 24) C dX12_flow_109 w6_83 (by decide) rfl ?_
                    refine m_iload (j := 0) C dX12_flow_112 rfl ?_
                    refine m_ald (k := 24) C dX12_flow_114 rfl rfl (by decide) (by omega) (by show _ < ((_ : Nat) : Int); simp only [mlen]; omega) (by decide) ?_
                    have ra3 : (-2147483648) ≤ ab5 24 k.toNat ∧ ab5 24 k.toNat ≤ 2147483647 := bxb5.2 24 (k.toNat)
                    have ae1 : ab5 24 (k.toNat) = a 24 (k.toNat) := congrFun (fpb5.2 24 rfl) (k.toNat)
                    refine m_st (st2 := [.int (iI (a 24 k.toNat)), .ref h0]) (congrArg (fun z => Value.int (iI z) :: [.ref h0]) (congrFun (fpb5.2 24 rfl) (k.toNat))) ?_
                    have rv10 : 0 ≤ vb5 39 ∧ vb5 39 ≤ 200 := bxb5.1 39
                    have ra4 : 0 ≤ ab5 37 (vb5 39 - 1).toNat ∧ ab5 37 (vb5 39 - 1).toNat ≤ 200 := bxb5.2 37 ((vb5 39 - 1).toNat)
                    refine m_call (mc2 := 0) (ms2 := 0) (As := [.int (iI (a 24 k.toNat))]) (rest := []) C (M_putCell (x := a 24 k.toNat) bxb5.rg (by show 1 ≤ vb5 39 ∧ vb5 39 ≤ 200; omega) (by show 0 ≤ ab5 37 (vb5 39 - 1).toNat ∧ ab5 37 (vb5 39 - 1).toNat < 200; omega)) dX12_flow_115 kV_X12_253 rfl ck_13 rfl (Nat.le_of_ble_eq_true rfl) ⟨Nat.le_of_ble_eq_true rfl, Nat.le_of_ble_eq_true rfl⟩ ⟨Nat.le_of_ble_eq_true rfl, Nat.le_of_ble_eq_true rfl⟩ (fun rh4 vh4 ah4 h4 => ?_)
                    obtain ⟨rfl, fn4, bn4, ex4⟩ := W_putCell bxb5 (by omega) (by show ab5 37 (vb5 39 - 1).toNat < 200; omega) h4
                    have fq4 := fpb5.call fn4 rfl rfl
                    have rv11 : 0 ≤ vh4 39 ∧ vh4 39 ≤ 200 := bn4.1 39
                    have ve6 : vh4 39 = vb5 39 := fn4.1 39 rfl
                    have gex4 : ah4 37 (vb5 39 - 1).toNat = ab5 37 (vb5 39 - 1).toNat + 1 := ex4
                    have jex4 : ah4 37 (vh4 39 - 1).toNat = ab5 37 (vb5 39 - 1).toNat + 1 := by rw [show vh4 39 = vb5 39 by omega]; exact ex4
                    refine m_st (st2 := []) rfl ?_
                    refine m_iinc (z := k) (j := 0) (lv2 := [(6, .int (iI (k + 1))), (5, .int (iI y1)), (4, .int (iI z1)), (3, .int (iI h1)), (2, .int (iI x)), (0, .ref h0), (1, .int (iI t))]) C dX12_flow_118 rfl (by decide) rfl ?_
                    refine m_goto (tgt := 100) C dX12_flow_121 (by decide) ?_
                    have ra5 : 0 ≤ ah4 37 ((vh4 39) - 1).toNat ∧ ah4 37 ((vh4 39) - 1).toNat ≤ 200 := bn4.2 37 (((vh4 39) - 1).toNat)
                    refine m_lv (lv2 := [(6, .int (iI (k + 1))), (5, .int (iI y1)), (4, .int (iI z1)), (3, .int (iI h1)), (2, .int (iI x)), (0, .ref h0), (1, .int (iI t))]) [0, 1, 2, 3, 4, 5, 6] rfl ?_
                    exact ih2  (k + 1) _ _ (by omega) bn4 fq4 (by omega) (by show (vh4 39) = vb1 39; omega) (by show ((ah4 37 ((vh4 39) - 1).toNat) + (y1 - (k + 1)) ≤ 199 ∨ ((ah4 37 ((vh4 39) - 1).toNat) + (y1 - (k + 1)) ≤ 200 ∧ y1 = v 25)) ∧ (k + 1) ≤ y1; omega)
              refine m_iload_n (j := 2) C dX12_flow_88 rfl ?_
              refine m_if_le (tgt := 97) C ⟨by omega, by omega⟩ dX12_flow_89 (by decide) (fun c8 => ?_) (fun c8 => ?_)
              · refine m_iload_n (j := 3) C dX12_flow_97 rfl ?_
                refine m_istore (lv2 := [(6, .int (iI x)), (5, .int (iI y1)), (4, .int (iI z1)), (3, .int (iI h1)), (2, .int (iI x)), (0, .ref h0), (1, .int (iI t))]) C dX12_flow_98 (by decide) rfl ?_
                have rv12 : 0 ≤ vb4 39 ∧ vb4 39 ≤ 200 := bxb4.1 39
                have ra6 : 0 ≤ ab4 37 ((vb4 39) - 1).toNat ∧ ab4 37 ((vb4 39) - 1).toNat ≤ 200 := bxb4.2 37 (((vb4 39) - 1).toNat)
                refine m_lv (lv2 := [(6, .int (iI x)), (5, .int (iI y1)), (4, .int (iI z1)), (3, .int (iI h1)), (2, .int (iI x)), (0, .ref h0), (1, .int (iI t))]) [0, 1, 2, 3, 4, 5, 6] rfl ?_
                exact Lp2 211 x _ _ (by omega) bxb4 fpb4 (by omega) (by show (vb4 39) = vb1 39; omega) (by show ((ab4 37 ((vb4 39) - 1).toNat) + (y1 - x) ≤ 199 ∨ ((ab4 37 ((vb4 39) - 1).toNat) + (y1 - x) ≤ 200 ∧ y1 = v 25)) ∧ x ≤ y1; omega)
              · refine m_aload_n (j := 4) C dX12_flow_92 rfl ?_
                refine m_iconst C dX12_flow_93 ?_
                have rv13 : 0 ≤ vb4 39 ∧ vb4 39 ≤ 200 := bxb4.1 39
                have ra7 : 0 ≤ ab4 37 (vb4 39 - 1).toNat ∧ ab4 37 (vb4 39 - 1).toNat ≤ 200 := bxb4.2 37 ((vb4 39 - 1).toNat)
                refine m_call (mc2 := 0) (ms2 := 0) (As := [.int (iI 0)]) (rest := []) C (M_putCell (x := 0) bxb4.rg (by show 1 ≤ vb4 39 ∧ vb4 39 ≤ 200; omega) (by show 0 ≤ ab4 37 (vb4 39 - 1).toNat ∧ ab4 37 (vb4 39 - 1).toNat < 200; omega)) dX12_flow_94 kV_X12_253 rfl ck_13 rfl (Nat.le_of_ble_eq_true rfl) ⟨Nat.le_of_ble_eq_true rfl, Nat.le_of_ble_eq_true rfl⟩ ⟨Nat.le_of_ble_eq_true rfl, Nat.le_of_ble_eq_true rfl⟩ (fun rh5 vh5 ah5 h5 => ?_)
                obtain ⟨rfl, fn5, bn5, ex5⟩ := W_putCell bxb4 (by omega) (by show ab4 37 (vb4 39 - 1).toNat < 200; omega) h5
                have fq5 := fpb4.call fn5 rfl rfl
                have rv14 : 0 ≤ vh5 39 ∧ vh5 39 ≤ 200 := bn5.1 39
                have ve7 : vh5 39 = vb4 39 := fn5.1 39 rfl
                have gex5 : ah5 37 (vb4 39 - 1).toNat = ab4 37 (vb4 39 - 1).toNat + 1 := ex5
                have jex5 : ah5 37 (vh5 39 - 1).toNat = ab4 37 (vb4 39 - 1).toNat + 1 := by rw [show vh5 39 = vb4 39 by omega]; exact ex5
                refine m_st (st2 := []) rfl ?_
                refine m_iload_n (j := 3) C dX12_flow_97 rfl ?_
                refine m_istore (lv2 := [(6, .int (iI x)), (5, .int (iI y1)), (4, .int (iI z1)), (3, .int (iI h1)), (2, .int (iI x)), (0, .ref h0), (1, .int (iI t))]) C dX12_flow_98 (by decide) rfl ?_
                have ra8 : 0 ≤ ah5 37 ((vh5 39) - 1).toNat ∧ ah5 37 ((vh5 39) - 1).toNat ≤ 200 := bn5.2 37 (((vh5 39) - 1).toNat)
                refine m_lv (lv2 := [(6, .int (iI x)), (5, .int (iI y1)), (4, .int (iI z1)), (3, .int (iI h1)), (2, .int (iI x)), (0, .ref h0), (1, .int (iI t))]) [0, 1, 2, 3, 4, 5, 6] rfl ?_
                exact Lp2 211 x _ _ (by omega) bn5 fq5 (by omega) (by show (vh5 39) = vb1 39; omega) (by show ((ah5 37 ((vh5 39) - 1).toNat) + (y1 - x) ≤ 199 ∨ ((ah5 37 ((vh5 39) - 1).toNat) + (y1 - x) ≤ 200 ∧ y1 = v 25)) ∧ x ≤ y1; omega)
            refine m_iload (j := 0) C dX12_flow_68 rfl ?_
            refine m_if_ge (tgt := 83) C ⟨by omega, by omega⟩ dX12_flow_70 (by decide) (fun c9 => ?_) (fun c9 => ?_)
            · refine m_iload (j := 0) C dX12_flow_83 rfl ?_
              refine m_if_lt (tgt := 144) C ⟨by omega, by omega⟩ dX12_flow_85 (by decide) (fun c10 => ?_) (fun c10 => ?_)
              · refine m_iload_n (j := 3) C dX12_flow_144 rfl ?_
                refine m_aload_n (j := 4) C dX12_flow_145 rfl ?_
                have rv15 : 0 ≤ vb3 25 ∧ vb3 25 ≤ 208 := bxb3.1 25
                have ve8 : vb3 25 = v 25 := fpb3.1 25 rfl
                refine m_get (k := 25) C dX12_flow_146 w6_84 (by decide) rfl ?_
                refine m_st (st2 := [.int (iI (v 25)), .int (iI x)]) (congrArg (fun z => Value.int (iI z) :: [.int (iI x)]) (fpb3.1 25 rfl)) ?_
                refine m_icmp_ge (tgt := 161) C ⟨by omega, by omega⟩ ⟨by omega, by omega⟩ dX12_flow_149 (by decide) (fun c11 => ?_) (fun c11 => ?_)
                · refine m_goto (tgt := 2) C dX12_flow_161 (by decide) ?_
                  refine m_iload_n (j := 3) C dX12_flow_2 rfl ?_
                  refine m_aload_n (j := 4) C dX12_flow_3 rfl ?_
                  refine m_get (k := 25) C dX12_flow_4 w6_84 (by decide) rfl ?_
                  refine m_st (st2 := [.int (iI (v 25)), .int (iI x)]) (congrArg (fun z => Value.int (iI z) :: [.int (iI x)]) (fpb3.1 25 rfl)) ?_
                  refine m_icmp_ge (tgt := 164) C ⟨by omega, by omega⟩ ⟨by omega, by omega⟩ dX12_flow_7 (by decide) (fun _ => ?_) (fun z => absurd z (by omega))
                  refine m_iconst C dX12_flow_164 ?_
                  exact m_zret C dX12_flow_165 rfl (Or.inr rfl) (Nat.le_of_ble_eq_true rfl) (Nat.le_of_ble_eq_true rfl) ⟨1, rfl, fpb3, bxb3, (Or.inr ⟨rfl, by show 1 ≤ vb3 39; omega⟩)⟩
                · refine m_aload_n (j := 4) C dX12_flow_152 rfl ?_
                  refine m_call (mc2 := 0) (ms2 := 0) (As := []) (rest := []) C (M_newLine  bxb3.rg (bxb3.1 39)) dX12_flow_153 kV_X12_257 rfl ck_13 rfl (Nat.le_of_ble_eq_true rfl) ⟨Nat.le_of_ble_eq_true rfl, Nat.le_of_ble_eq_true rfl⟩ ⟨Nat.le_of_ble_eq_true rfl, Nat.le_of_ble_eq_true rfl⟩ (fun rh6 vh6 ah6 h6 => ?_)
                  obtain ⟨f6, rfl, fn6, bn6, ex6⟩ := W_newLine bxb3  h6
                  have fq6 := fpb3.call fn6 rfl rfl
                  have gf6 : (f6 = 1 ∧ vh6 39 = vb3 39 + 1 ∧ ah6 37 (vh6 39 - 1).toNat = 0) ∨ f6 = 0 := ex6
                  refine m_st (st2 := [.int (iI f6)]) rfl ?_
                  refine m_if_ne (tgt := 161) C ⟨by omega, by omega⟩ dX12_flow_156 (by decide) (fun c12 => ?_) (fun c12 => ?_)
                  · refine m_goto (tgt := 2) C dX12_flow_161 (by decide) ?_
                    have rv16 : 0 ≤ vh6 39 ∧ vh6 39 ≤ 200 := bn6.1 39
                    refine m_lv (lv2 := [(2, .int (iI x)), (0, .ref h0), (1, .int (iI t))]) [3, 4, 5] rfl ?_
                    exact ih1  x _ _ (by omega) bn6 fq6 (by omega) (by show 1 ≤ (vh6 39) ∧ (vh6 39) ≤ 200; omega)
                  · refine m_iconst C dX12_flow_159 ?_
                    exact m_zret C dX12_flow_160 rfl (Or.inl rfl) (Nat.le_of_ble_eq_true rfl) (Nat.le_of_ble_eq_true rfl) ⟨0, rfl, fq6, bn6, (Or.inl rfl)⟩
              · have rv17 : 0 ≤ vb3 39 ∧ vb3 39 ≤ 200 := bxb3.1 39
                have ra9 : 0 ≤ ab3 37 ((vb3 39) - 1).toNat ∧ ab3 37 ((vb3 39) - 1).toNat ≤ 200 := bxb3.2 37 (((vb3 39) - 1).toNat)
                refine m_lv (lv2 := [(5, .int (iI y)), (4, .int (iI z1)), (3, .int (iI h1)), (2, .int (iI x)), (0, .ref h0), (1, .int (iI t))]) [0, 1, 2, 3, 4, 5] rfl ?_
                exact J3  y _ _  bxb3 fpb3 (by omega) (by show (vb3 39) = vb1 39; omega) (by show (ab3 37 ((vb3 39) - 1).toNat) = h1; omega)
            · refine m_iload_n (j := 2) C dX12_flow_73 rfl ?_
              refine m_if_ne (tgt := 83) C ⟨by omega, by omega⟩ dX12_flow_74 (by decide) (fun c13 => ?_) (fun c13 => ?_)
              · refine m_iload (j := 0) C dX12_flow_83 rfl ?_
                refine m_if_lt (tgt := 144) C ⟨by omega, by omega⟩ dX12_flow_85 (by decide) (fun c14 => ?_) (fun c14 => ?_)
                · refine m_iload_n (j := 3) C dX12_flow_144 rfl ?_
                  refine m_aload_n (j := 4) C dX12_flow_145 rfl ?_
                  have rv18 : 0 ≤ vb3 25 ∧ vb3 25 ≤ 208 := bxb3.1 25
                  have ve9 : vb3 25 = v 25 := fpb3.1 25 rfl
                  refine m_get (k := 25) C dX12_flow_146 w6_84 (by decide) rfl ?_
                  refine m_st (st2 := [.int (iI (v 25)), .int (iI x)]) (congrArg (fun z => Value.int (iI z) :: [.int (iI x)]) (fpb3.1 25 rfl)) ?_
                  refine m_icmp_ge (tgt := 161) C ⟨by omega, by omega⟩ ⟨by omega, by omega⟩ dX12_flow_149 (by decide) (fun c15 => ?_) (fun c15 => ?_)
                  · refine m_goto (tgt := 2) C dX12_flow_161 (by decide) ?_
                    refine m_iload_n (j := 3) C dX12_flow_2 rfl ?_
                    refine m_aload_n (j := 4) C dX12_flow_3 rfl ?_
                    refine m_get (k := 25) C dX12_flow_4 w6_84 (by decide) rfl ?_
                    refine m_st (st2 := [.int (iI (v 25)), .int (iI x)]) (congrArg (fun z => Value.int (iI z) :: [.int (iI x)]) (fpb3.1 25 rfl)) ?_
                    refine m_icmp_ge (tgt := 164) C ⟨by omega, by omega⟩ ⟨by omega, by omega⟩ dX12_flow_7 (by decide) (fun _ => ?_) (fun z => absurd z (by omega))
                    refine m_iconst C dX12_flow_164 ?_
                    exact m_zret C dX12_flow_165 rfl (Or.inr rfl) (Nat.le_of_ble_eq_true rfl) (Nat.le_of_ble_eq_true rfl) ⟨1, rfl, fpb3, bxb3, (Or.inr ⟨rfl, by show 1 ≤ vb3 39; omega⟩)⟩
                  · refine m_aload_n (j := 4) C dX12_flow_152 rfl ?_
                    refine m_call (mc2 := 0) (ms2 := 0) (As := []) (rest := []) C (M_newLine  bxb3.rg (bxb3.1 39)) dX12_flow_153 kV_X12_257 rfl ck_13 rfl (Nat.le_of_ble_eq_true rfl) ⟨Nat.le_of_ble_eq_true rfl, Nat.le_of_ble_eq_true rfl⟩ ⟨Nat.le_of_ble_eq_true rfl, Nat.le_of_ble_eq_true rfl⟩ (fun rh7 vh7 ah7 h7 => ?_)
                    obtain ⟨f7, rfl, fn7, bn7, ex7⟩ := W_newLine bxb3  h7
                    have fq7 := fpb3.call fn7 rfl rfl
                    have gf7 : (f7 = 1 ∧ vh7 39 = vb3 39 + 1 ∧ ah7 37 (vh7 39 - 1).toNat = 0) ∨ f7 = 0 := ex7
                    refine m_st (st2 := [.int (iI f7)]) rfl ?_
                    refine m_if_ne (tgt := 161) C ⟨by omega, by omega⟩ dX12_flow_156 (by decide) (fun c16 => ?_) (fun c16 => ?_)
                    · refine m_goto (tgt := 2) C dX12_flow_161 (by decide) ?_
                      have rv19 : 0 ≤ vh7 39 ∧ vh7 39 ≤ 200 := bn7.1 39
                      refine m_lv (lv2 := [(2, .int (iI x)), (0, .ref h0), (1, .int (iI t))]) [3, 4, 5] rfl ?_
                      exact ih1  x _ _ (by omega) bn7 fq7 (by omega) (by show 1 ≤ (vh7 39) ∧ (vh7 39) ≤ 200; omega)
                    · refine m_iconst C dX12_flow_159 ?_
                      exact m_zret C dX12_flow_160 rfl (Or.inl rfl) (Nat.le_of_ble_eq_true rfl) (Nat.le_of_ble_eq_true rfl) ⟨0, rfl, fq7, bn7, (Or.inl rfl)⟩
                · have rv20 : 0 ≤ vb3 39 ∧ vb3 39 ≤ 200 := bxb3.1 39
                  have ra10 : 0 ≤ ab3 37 ((vb3 39) - 1).toNat ∧ ab3 37 ((vb3 39) - 1).toNat ≤ 200 := bxb3.2 37 (((vb3 39) - 1).toNat)
                  refine m_lv (lv2 := [(5, .int (iI y)), (4, .int (iI z1)), (3, .int (iI h1)), (2, .int (iI x)), (0, .ref h0), (1, .int (iI t))]) [0, 1, 2, 3, 4, 5] rfl ?_
                  exact J3  y _ _  bxb3 fpb3 (by omega) (by show (vb3 39) = vb1 39; omega) (by show (ab3 37 ((vb3 39) - 1).toNat) = h1; omega)
              · refine m_aload_n (j := 4) C dX12_flow_77 rfl ?_
                have rv21 : 0 ≤ vb3 25 ∧ vb3 25 ≤ 208 := bxb3.1 25
                have ve10 : vb3 25 = v 25 := fpb3.1 25 rfl
                refine m_get (k := 25) C dX12_flow_78 w6_84 (by decide) rfl ?_
                refine m_st (st2 := [.int (iI (v 25))]) (congrArg (fun z => Value.int (iI z) :: []) (fpb3.1 25 rfl)) ?_
                refine m_istore (lv2 := [(5, .int (iI (v 25))), (4, .int (iI z1)), (3, .int (iI h1)), (2, .int (iI x)), (0, .ref h0), (1, .int (iI t))]) C dX12_flow_81 (by decide) rfl ?_
                refine m_iload (j := 0) C dX12_flow_83 rfl ?_
                refine m_if_lt (tgt := 144) C ⟨by omega, by omega⟩ dX12_flow_85 (by decide) (fun c17 => ?_) (fun c17 => ?_)
                · refine m_iload_n (j := 3) C dX12_flow_144 rfl ?_
                  refine m_aload_n (j := 4) C dX12_flow_145 rfl ?_
                  refine m_get (k := 25) C dX12_flow_146 w6_84 (by decide) rfl ?_
                  refine m_st (st2 := [.int (iI (v 25)), .int (iI x)]) (congrArg (fun z => Value.int (iI z) :: [.int (iI x)]) (fpb3.1 25 rfl)) ?_
                  refine m_icmp_ge (tgt := 161) C ⟨by omega, by omega⟩ ⟨by omega, by omega⟩ dX12_flow_149 (by decide) (fun c18 => ?_) (fun c18 => ?_)
                  · refine m_goto (tgt := 2) C dX12_flow_161 (by decide) ?_
                    refine m_iload_n (j := 3) C dX12_flow_2 rfl ?_
                    refine m_aload_n (j := 4) C dX12_flow_3 rfl ?_
                    refine m_get (k := 25) C dX12_flow_4 w6_84 (by decide) rfl ?_
                    refine m_st (st2 := [.int (iI (v 25)), .int (iI x)]) (congrArg (fun z => Value.int (iI z) :: [.int (iI x)]) (fpb3.1 25 rfl)) ?_
                    refine m_icmp_ge (tgt := 164) C ⟨by omega, by omega⟩ ⟨by omega, by omega⟩ dX12_flow_7 (by decide) (fun _ => ?_) (fun z => absurd z (by omega))
                    refine m_iconst C dX12_flow_164 ?_
                    exact m_zret C dX12_flow_165 rfl (Or.inr rfl) (Nat.le_of_ble_eq_true rfl) (Nat.le_of_ble_eq_true rfl) ⟨1, rfl, fpb3, bxb3, (Or.inr ⟨rfl, by show 1 ≤ vb3 39; omega⟩)⟩
                  · refine m_aload_n (j := 4) C dX12_flow_152 rfl ?_
                    refine m_call (mc2 := 0) (ms2 := 0) (As := []) (rest := []) C (M_newLine  bxb3.rg (bxb3.1 39)) dX12_flow_153 kV_X12_257 rfl ck_13 rfl (Nat.le_of_ble_eq_true rfl) ⟨Nat.le_of_ble_eq_true rfl, Nat.le_of_ble_eq_true rfl⟩ ⟨Nat.le_of_ble_eq_true rfl, Nat.le_of_ble_eq_true rfl⟩ (fun rh8 vh8 ah8 h8 => ?_)
                    obtain ⟨f8, rfl, fn8, bn8, ex8⟩ := W_newLine bxb3  h8
                    have fq8 := fpb3.call fn8 rfl rfl
                    have gf8 : (f8 = 1 ∧ vh8 39 = vb3 39 + 1 ∧ ah8 37 (vh8 39 - 1).toNat = 0) ∨ f8 = 0 := ex8
                    refine m_st (st2 := [.int (iI f8)]) rfl ?_
                    refine m_if_ne (tgt := 161) C ⟨by omega, by omega⟩ dX12_flow_156 (by decide) (fun c19 => ?_) (fun c19 => ?_)
                    · refine m_goto (tgt := 2) C dX12_flow_161 (by decide) ?_
                      have rv22 : 0 ≤ vh8 39 ∧ vh8 39 ≤ 200 := bn8.1 39
                      refine m_lv (lv2 := [(2, .int (iI x)), (0, .ref h0), (1, .int (iI t))]) [3, 4, 5] rfl ?_
                      exact ih1  x _ _ (by omega) bn8 fq8 (by omega) (by show 1 ≤ (vh8 39) ∧ (vh8 39) ≤ 200; omega)
                    · refine m_iconst C dX12_flow_159 ?_
                      exact m_zret C dX12_flow_160 rfl (Or.inl rfl) (Nat.le_of_ble_eq_true rfl) (Nat.le_of_ble_eq_true rfl) ⟨0, rfl, fq8, bn8, (Or.inl rfl)⟩
                · have rv23 : 0 ≤ vb3 39 ∧ vb3 39 ≤ 200 := bxb3.1 39
                  have ra11 : 0 ≤ ab3 37 ((vb3 39) - 1).toNat ∧ ab3 37 ((vb3 39) - 1).toNat ≤ 200 := bxb3.2 37 (((vb3 39) - 1).toNat)
                  refine m_lv (lv2 := [(5, .int (iI (v 25))), (4, .int (iI z1)), (3, .int (iI h1)), (2, .int (iI x)), (0, .ref h0), (1, .int (iI t))]) [0, 1, 2, 3, 4, 5] rfl ?_
                  exact J3  (v 25) _ _  bxb3 fpb3 (by omega) (by show (vb3 39) = vb1 39; omega) (by show (ab3 37 ((vb3 39) - 1).toNat) = h1; omega)
          refine m_aload_n (j := 3) C dX12_flow_40 rfl ?_
          have rv24 : 0 ≤ vb2 25 ∧ vb2 25 ≤ 208 := bxb2.1 25
          have ve11 : vb2 25 = v 25 := fpb2.1 25 rfl
          refine m_get (k := 25) C dX12_flow_41 w6_84 (by decide) rfl ?_
          refine m_st (st2 := [.int (iI (v 25))]) (congrArg (fun z => Value.int (iI z) :: []) (fpb2.1 25 rfl)) ?_
          refine m_iload_n (j := 2) C dX12_flow_44 rfl ?_
          refine m_isub C dX12_flow_45 ?_
          refine m_iload (j := 0) C dX12_flow_46 rfl ?_
          refine m_icmp_gt (tgt := 58) C ⟨by omega, by omega⟩ ⟨by omega, by omega⟩ dX12_flow_48 (by decide) (fun c20 => ?_) (fun c20 => ?_)
          · refine m_aload_n (j := 3) C dX12_flow_58 rfl ?_
            refine m_iload_n (j := 4) C dX12_flow_59 rfl ?_
            refine m_iload_n (j := 2) C dX12_flow_60 rfl ?_
            refine m_iload (j := 0) C dX12_flow_61 rfl ?_
            refine m_call (mc2 := 0) (ms2 := 0) (As := [.int (iI t), .int (iI x), .int (iI z1)]) (rest := []) C (M_breakOf (t := t) (q := x) (z := z1) bxb2 (by omega) (by omega) (by omega)) dX12_flow_63 kV_X12_249 rfl ck_13 rfl (Nat.le_of_ble_eq_true rfl) ⟨Nat.le_of_ble_eq_true rfl, Nat.le_of_ble_eq_true rfl⟩ ⟨Nat.le_of_ble_eq_true rfl, Nat.le_of_ble_eq_true rfl⟩ (fun rh9 vh9 ah9 h9 => ?_)
            obtain ⟨f9, rfl, fn9, bn9, ex9⟩ := h9
            obtain ⟨rfl, rfl⟩ := fn9.eq
            refine m_st (st2 := [.int (iI f9)]) rfl ?_
            refine m_istore (lv2 := [(5, .int (iI f9)), (4, .int (iI z1)), (3, .int (iI h1)), (2, .int (iI x)), (0, .ref h0), (1, .int (iI t))]) C dX12_flow_66 (by decide) rfl ?_
            have rv25 : 0 ≤ vb2 39 ∧ vb2 39 ≤ 200 := bxb2.1 39
            have ra12 : 0 ≤ ab2 37 ((vb2 39) - 1).toNat ∧ ab2 37 ((vb2 39) - 1).toNat ≤ 200 := bxb2.2 37 (((vb2 39) - 1).toNat)
            refine m_lv (lv2 := [(5, .int (iI f9)), (4, .int (iI z1)), (3, .int (iI h1)), (2, .int (iI x)), (0, .ref h0), (1, .int (iI t))]) [0, 1, 2, 3, 4, 5] rfl ?_
            exact J2  f9 _ _  bxb2 fpb2 (by omega) (by show (vb2 39) = vb1 39; omega) (by show (ab2 37 ((vb2 39) - 1).toNat) = h1; omega)
          · refine m_aload_n (j := 3) C dX12_flow_51 rfl ?_
            refine m_get (k := 25) C dX12_flow_52 w6_84 (by decide) rfl ?_
            refine m_st (st2 := [.int (iI (v 25))]) (congrArg (fun z => Value.int (iI z) :: []) (fpb2.1 25 rfl)) ?_
            refine m_goto (tgt := 66) C dX12_flow_55 (by decide) ?_
            refine m_istore (lv2 := [(5, .int (iI (v 25))), (4, .int (iI z1)), (3, .int (iI h1)), (2, .int (iI x)), (0, .ref h0), (1, .int (iI t))]) C dX12_flow_66 (by decide) rfl ?_
            have rv26 : 0 ≤ vb2 39 ∧ vb2 39 ≤ 200 := bxb2.1 39
            have ra13 : 0 ≤ ab2 37 ((vb2 39) - 1).toNat ∧ ab2 37 ((vb2 39) - 1).toNat ≤ 200 := bxb2.2 37 (((vb2 39) - 1).toNat)
            refine m_lv (lv2 := [(5, .int (iI (v 25))), (4, .int (iI z1)), (3, .int (iI h1)), (2, .int (iI x)), (0, .ref h0), (1, .int (iI t))]) [0, 1, 2, 3, 4, 5] rfl ?_
            exact J2  (v 25) _ _  bxb2 fpb2 (by omega) (by show (vb2 39) = vb1 39; omega) (by show (ab2 37 ((vb2 39) - 1).toNat) = h1; omega)
        refine m_aload_n (j := 2) C dX12_flow_22 rfl ?_
        have rv27 : 1 ≤ vb1 31 ∧ vb1 31 ≤ 100 := bxb1.1 31
        have ve12 : vb1 31 = v 31 := fpb1.1 31 rfl
        refine m_get (k := 31) C dX12_flow_23 w6_90 (by decide) rfl ?_
        refine m_st (st2 := [.int (iI (v 31))]) (congrArg (fun z => Value.int (iI z) :: []) (fpb1.1 31 rfl)) ?_
        refine m_iload_n (j := 0) C dX12_flow_26 rfl ?_
        refine m_if_ne (tgt := 34) C ⟨by omega, by omega⟩ dX12_flow_27 (by decide) (fun c21 => ?_) (fun c21 => ?_)
        · refine m_iload_n (j := 0) C dX12_flow_34 rfl ?_
          refine m_iconst C dX12_flow_35 ?_
          refine m_iadd C dX12_flow_36 ?_
          refine m_isub C dX12_flow_37 ?_
          refine m_istore (lv2 := [(4, .int (iI ((v 31) - ((ab1 37 ((vb1 39) - 1).toNat) + 1)))), (3, .int (iI (ab1 37 ((vb1 39) - 1).toNat))), (2, .int (iI x)), (0, .ref h0), (1, .int (iI t))]) C dX12_flow_38 (by decide) rfl ?_
          refine m_lv (lv2 := [(4, .int (iI ((v 31) - ((ab1 37 ((vb1 39) - 1).toNat) + 1)))), (3, .int (iI (ab1 37 ((vb1 39) - 1).toNat))), (2, .int (iI x)), (0, .ref h0), (1, .int (iI t))]) [0, 1, 2, 3, 4] rfl ?_
          exact J1  (ab1 37 ((vb1 39) - 1).toNat) ((v 31) - ((ab1 37 ((vb1 39) - 1).toNat) + 1)) _ _  bxb1 fpb1 (by omega) (by show (vb1 39) = vb1 39; omega) (by show (ab1 37 ((vb1 39) - 1).toNat) = (ab1 37 ((vb1 39) - 1).toNat); omega)
        · refine m_iconst C dX12_flow_30 ?_
          refine m_goto (tgt := 37) C dX12_flow_31 (by decide) ?_
          refine m_isub C dX12_flow_37 ?_
          refine m_istore (lv2 := [(4, .int (iI ((v 31) - 0))), (3, .int (iI (ab1 37 ((vb1 39) - 1).toNat))), (2, .int (iI x)), (0, .ref h0), (1, .int (iI t))]) C dX12_flow_38 (by decide) rfl ?_
          refine m_lv (lv2 := [(4, .int (iI ((v 31) - 0))), (3, .int (iI (ab1 37 ((vb1 39) - 1).toNat))), (2, .int (iI x)), (0, .ref h0), (1, .int (iI t))]) [0, 1, 2, 3, 4] rfl ?_
          exact J1  (ab1 37 ((vb1 39) - 1).toNat) ((v 31) - 0) _ _  bxb1 fpb1 (by omega) (by show (vb1 39) = vb1 39; omega) (by show (ab1 37 ((vb1 39) - 1).toNat) = (ab1 37 ((vb1 39) - 1).toNat); omega)
  have rv28 : 0 ≤ v 39 ∧ v 39 ≤ 200 := hB.1 39
  refine m_lv (lv2 := [(2, .int (iI 0)), (0, .ref h0), (1, .int (iI t))]) [0, 1, 2] rfl ?_
  exact Lp1 202 0 _ _ (by omega) hB fp0 (by omega) (by show 1 ≤ (v 39) ∧ (v 39) ≤ 200; omega)
