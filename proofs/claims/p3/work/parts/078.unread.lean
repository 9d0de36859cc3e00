def ATS (v : Nat → Int) (a : Nat → Nat → Int) : Prop := ∀ j : Nat, 0 ≤ a 70 j ∧ (a 70 j = 0 ∨ a 70 j < v 66)
theorem ATS.put {v : Nat → Int} {a : Nat → Nat → Int} (h : ATS v a) {k : Nat} {z : Int} (hk : k ≠ 66) : ATS (va_up v k z) a := fun j => by rw [va_up_ne _ _ (Ne.symm hk)]; exact h j
theorem ATS.set {v : Nat → Int} {a : Nat → Nat → Int} (h : ATS v a) {k i : Nat} {z : Int} (hk : k ≠ 70) : ATS v (up2 a k i z) := fun j => by rw [up2_k (Ne.symm hk)]; exact h j
theorem ATS.sto {v : Nat → Int} {a : Nat → Nat → Int} (h : ATS v a) {i : Nat} {z : Int} (hz : 0 ≤ z ∧ (z = 0 ∨ z < v 66)) : ATS v (up2 a 70 i z) := fun j => by
  by_cases e : j = i
  · subst e; rw [up2_s]; exact hz
  · rw [up2_j e]; exact h j
theorem ATS.fr {V A : List Nat} {v v2 : Nat → Int} {a a2 : Nat → Nat → Int} (h : ATS v a) (f : fr V A v a v2 a2) (h1 : V.contains 66 = false) (h2 : A.contains 70 = false) : ATS v2 a2 := fun j => by rw [f.1 66 h1, f.2 70 h2]; exact h j
set_option maxHeartbeats 4000000 in
set_option maxRecDepth 100000 in
theorem M_gatherSigns {l : Launch} {G : GT} {h0 : Nat} {ad ln : Nat → Nat} {v : Nat → Int} {a : Nat → Nat → Int} {t : Int} (hB : BX v a) (ht : 0 ≤ t ∧ t < 30) : Mm l G yX12_gatherSigns cX12_gatherSigns 8 none 1 [.int (iI t)] h0 ad ln v a 1 256 (fun r v2 a2 => r = none ∧ fr [66] [65, 70] v a v2 a2 ∧ BX v2 a2 ∧ (True)) := by
  refine Mm.mk (by decide) (Nat.le_of_ble_eq_true rfl) ?_
  intro p e s m args below meth c A C
  have fp0 : fr [66] [65, 70] v a v a := fr.refl
  refine m_sipush (z := 256) C dX12_gatherSigns_0 (by decide) ?_
  refine m_newZ (z := 256) (nb := 256) C dX12_gatherSigns_3 w1_129 ⟨by omega, by omega⟩ rfl ⟨Nat.le_of_ble_eq_true rfl, Nat.le_of_ble_eq_true rfl⟩ hB (fun bb vw1 aw1 fnw1 bnw1 znw1 => ?_)
  have fqw1 := fp0.call fnw1 rfl rfl
  refine x_astore_n (lv2 := [(2, .ref bb), (0, .ref h0), (1, .int (iI t))]) C dX12_gatherSigns_5 (by decide) rfl ?_
  refine x_iconst C dX12_gatherSigns_6 ?_
  refine x_istore_n (lv2 := [(3, .int (iI 0)), (2, .ref bb), (0, .ref h0), (1, .int (iI t))]) C dX12_gatherSigns_7 (by decide) rfl ?_
  have Lp1 : ∀ (nn : Nat) (pt : Int) (vb1 : Nat → Int) (ab1 : Nat → Nat → Int), 3 - pt < (nn : Int) → BX vb1 ab1 → fr [66] [65, 70] v a vb1 ab1 → (0 ≤ pt ∧ pt ≤ 2) → mx p l e (rmq 1 1 256) s m args below meth c G A 8 (MQ below (Qm G A (fun rq Lq Eq => ∃ (vq : Nat → Int) (aq : Nat → Nat → Int), mI G h0 ad ln vq aq Lq Eq ∧ (fun r v2 a2 => r = none ∧ fr [66] [65, 70] v a v2 a2 ∧ BX v2 a2 ∧ (True)) rq vq aq)) args s 1 256 A) bb 256 true h0 ad ln vb1 ab1 (0 + 1) (0 + 256) 8 [(3, .int (iI pt)), (2, .ref bb), (0, .ref h0), (1, .int (iI t))] [] := by
    intro nn
    induction nn with
    | zero =>
      intro pt vb1 ab1 hm bxb1 fpb1 hp
      exact absurd hm (by omega)
    | succ nn ih1 =>
      intro pt vb1 ab1 hm bxb1 fpb1 hp
      refine x_iload_n (j := 0) C dX12_gatherSigns_8 rfl ?_
      refine x_iconst C dX12_gatherSigns_9 ?_
      refine x_icmp_ge (tgt := 120) C ⟨by omega, by omega⟩ ⟨by decide, by decide⟩ dX12_gatherSigns_10 (by decide) (fun c1 => ?_) (fun c1 => ?_)
      · refine x_aload_n (j := 2) C dX12_gatherSigns_120 rfl ?_
        refine x_geta (k := 6) C dX12_gatherSigns_121 w6_65 (by decide) rfl ?_
        refine x_iload_n (j := 3) C dX12_gatherSigns_124 rfl ?_
        refine x_ald (k := 6) C dX12_gatherSigns_125 rfl rfl (by decide) (by omega) (by show _ < ((_ : Nat) : Int); simp only [mlen]; omega) (by decide) ?_
        have ra1 : 0 ≤ ab1 6 t.toNat ∧ ab1 6 t.toNat ≤ 5 := bxb1.2 6 (t.toNat)
        have ae1 : ab1 6 (t.toNat) = a 6 (t.toNat) := congrFun (fpb1.2 6 rfl) (t.toNat)
        refine x_st (st2 := [.int (iI (a 6 t.toNat))]) (congrArg (fun z => Value.int (iI z) :: []) (congrFun (fpb1.2 6 rfl) (t.toNat))) ?_
        refine x_iconst C dX12_gatherSigns_126 ?_
        have J1 : ∀ (vb2 : Nat → Int) (ab2 : Nat → Nat → Int), BX vb2 ab2 → fr [66] [65, 70] v a vb2 ab2 → mx p l e (rmq 1 1 256) s m args below meth c G A 8 (MQ below (Qm G A (fun rq Lq Eq => ∃ (vq : Nat → Int) (aq : Nat → Nat → Int), mI G h0 ad ln vq aq Lq Eq ∧ (fun r v2 a2 => r = none ∧ fr [66] [65, 70] v a v2 a2 ∧ BX v2 a2 ∧ (True)) rq vq aq)) args s 1 256 A) bb 256 true h0 ad ln vb2 ab2 (0 + 1) (0 + 256) 140 [(3, .int (iI pt)), (2, .ref bb), (0, .ref h0), (1, .int (iI t))] [] := by
          intro  vb2 ab2 bxb2 fpb2 
          refine x_aload_n (j := 2) C dX12_gatherSigns_140 rfl ?_
          refine x_iconst C dX12_gatherSigns_141 ?_
          refine x_put (k := 66) (z := 0) C dX12_gatherSigns_142 w6_125 (by decide) rfl rfl rfl ?_
          have bq1 : BX (va_up vb2 66 0) ab2 := bxb2.put (k := 66) (z := 0) ⟨by decide, by decide⟩
          have fq1 := fpb2.put (k := 66) (z := 0) rfl
          refine x_iconst C dX12_gatherSigns_145 ?_
          refine x_istore_n (lv2 := [(3, .int (iI 0)), (2, .ref bb), (0, .ref h0), (1, .int (iI t))]) C dX12_gatherSigns_146 (by decide) rfl ?_
          have Lp2 : ∀ (nn : Nat) (k1 : Int) (vb3 : Nat → Int) (ab3 : Nat → Nat → Int), 257 - k1 < (nn : Int) → BX vb3 ab3 → fr [66] [65, 70] v a vb3 ab3 → (0 ≤ k1 ∧ k1 ≤ 256) → (vb3 66 ≤ k1) → mx p l e (rmq 1 1 256) s m args below meth c G A 8 (MQ below (Qm G A (fun rq Lq Eq => ∃ (vq : Nat → Int) (aq : Nat → Nat → Int), mI G h0 ad ln vq aq Lq Eq ∧ (fun r v2 a2 => r = none ∧ fr [66] [65, 70] v a v2 a2 ∧ BX v2 a2 ∧ (True)) rq vq aq)) args s 1 256 A) bb 256 true h0 ad ln vb3 ab3 (0 + 1) (0 + 256) 147 [(3, .int (iI k1)), (2, .ref bb), (0, .ref h0), (1, .int (iI t))] [] := by
            intro nn
            induction nn with
            | zero =>
              intro k1 vb3 ab3 hm bxb3 fpb3 hk1 h66
              exact absurd hm (by omega)
            | succ nn ih2 =>
              intro k1 vb3 ab3 hm bxb3 fpb3 hk1 h66
              refine x_iload_n (j := 0) C dX12_gatherSigns_147 rfl ?_
              refine x_sipush (z := 256) C dX12_gatherSigns_148 (by decide) ?_
              refine x_icmp_ge (tgt := 189) C ⟨by omega, by omega⟩ ⟨by decide, by decide⟩ dX12_gatherSigns_151 (by decide) (fun c2 => ?_) (fun c2 => ?_)
              · exact x_vret C dX12_gatherSigns_189 rfl (Nat.le_of_ble_eq_true rfl) (Nat.le_of_ble_eq_true rfl) ⟨rfl, fpb3, bxb3, trivial⟩
              · refine x_aload_n (j := 1) C dX12_gatherSigns_154 rfl ?_
                refine x_iload_n (j := 0) C dX12_gatherSigns_155 rfl ?_
                refine x_lzald C dX12_gatherSigns_156 rfl (by omega) (by omega) (by decide) ?_
                have ra2 : (-2147483648) ≤ ab3 70 k1.toNat ∧ ab3 70 k1.toNat ≤ 2147483647 := bxb3.2 70 (k1.toNat)
                refine x_if_ne (tgt := 163) C ⟨by omega, by omega⟩ dX12_gatherSigns_157 (by decide) (fun c3 => ?_) (fun c3 => ?_)
                · refine x_aload_n (j := 2) C dX12_gatherSigns_163 rfl ?_
                  refine x_geta (k := 65) C dX12_gatherSigns_164 w6_124 (by decide) rfl ?_
                  refine x_aload_n (j := 2) C dX12_gatherSigns_167 rfl ?_
                  have rv1 : 0 ≤ vb3 66 ∧ vb3 66 ≤ 256 := bxb3.1 66
                  refine x_get (k := 66) C dX12_gatherSigns_168 w6_125 (by decide) rfl ?_
                  refine x_iload_n (j := 0) C dX12_gatherSigns_171 rfl ?_
                  refine x_ast (k := 65) C dX12_gatherSigns_172 rfl rfl (by decide) (by omega) (by show _ < ((_ : Nat) : Int); simp only [mlen]; omega) (by decide) ?_
                  have bq2 : BX vb3 (up2 ab3 65 (vb3 66).toNat k1) := bxb3.set (k := 65) (i := (vb3 66).toNat) (z := k1) (show 0 ≤ k1 ∧ k1 ≤ 255 by omega)
                  have fq2 := fpb3.set (k := 65) (i := (vb3 66).toNat) (z := k1) rfl
                  refine x_aload_n (j := 2) C dX12_gatherSigns_173 rfl ?_
                  refine x_dup C dX12_gatherSigns_174 rfl ?_
                  refine x_get (k := 66) C dX12_gatherSigns_175 w6_125 (by decide) rfl ?_
                  refine x_iconst C dX12_gatherSigns_178 ?_
                  refine x_iadd C dX12_gatherSigns_179 ?_
                  refine x_put (k := 66) (z := (vb3 66) + 1) C dX12_gatherSigns_180 w6_125 (by decide) rfl rfl rfl ?_
                  have bq3 : BX (va_up vb3 66 ((vb3 66) + 1)) (up2 ab3 65 (vb3 66).toNat k1) := bq2.put (k := 66) (z := (vb3 66) + 1) (show 0 ≤ ((vb3 66) + 1) ∧ ((vb3 66) + 1) ≤ 256 by omega)
                  have fq3 := fq2.put (k := 66) (z := (vb3 66) + 1) rfl
                  refine x_iinc (z := k1) (j := 0) (lv2 := [(3, .int (iI (k1 + 1))), (2, .ref bb), (0, .ref h0), (1, .int (iI t))]) C dX12_gatherSigns_183 rfl (by decide) rfl ?_
                  refine x_goto (tgt := 147) C dX12_gatherSigns_186 (by decide) ?_
                  refine x_lv (lv2 := [(3, .int (iI (k1 + 1))), (2, .ref bb), (0, .ref h0), (1, .int (iI t))]) [0, 1, 2, 3] rfl ?_
                  exact ih2  (k1 + 1) _ _ (by omega) bq3 fq3 (by omega) (by show ((vb3 66) + 1) ≤ (k1 + 1); omega)
                · refine x_goto (tgt := 183) C dX12_gatherSigns_160 (by decide) ?_
                  refine x_iinc (z := k1) (j := 0) (lv2 := [(3, .int (iI (k1 + 1))), (2, .ref bb), (0, .ref h0), (1, .int (iI t))]) C dX12_gatherSigns_183 rfl (by decide) rfl ?_
                  refine x_goto (tgt := 147) C dX12_gatherSigns_186 (by decide) ?_
                  have rv2 : 0 ≤ vb3 66 ∧ vb3 66 ≤ 256 := bxb3.1 66
                  refine x_lv (lv2 := [(3, .int (iI (k1 + 1))), (2, .ref bb), (0, .ref h0), (1, .int (iI t))]) [0, 1, 2, 3] rfl ?_
                  exact ih2  (k1 + 1) _ _ (by omega) bxb3 fpb3 (by omega) (by show (vb3 66) ≤ (k1 + 1); omega)
          refine x_lv (lv2 := [(3, .int (iI 0)), (2, .ref bb), (0, .ref h0), (1, .int (iI t))]) [0, 1, 2, 3] rfl ?_
          exact Lp2 258 0 _ _ (by omega) bq1 fq1 (by omega) (by show 0 ≤ 0; omega)
        refine x_icmp_ne (tgt := 140) C ⟨by omega, by omega⟩ ⟨by decide, by decide⟩ dX12_gatherSigns_127 (by decide) (fun c4 => ?_) (fun c4 => ?_)
        · refine x_lv (lv2 := [(3, .int (iI pt)), (2, .ref bb), (0, .ref h0), (1, .int (iI t))]) [0, 1, 2, 3] rfl ?_
          exact J1   _ _  bxb1 fpb1 
        · refine x_aload_n (j := 1) C dX12_gatherSigns_130 rfl ?_
          refine x_bipush (z := 60) C dX12_gatherSigns_131 (by decide) ?_
          refine x_iconst C dX12_gatherSigns_133 ?_
          refine x_lzast (w := 1) C dX12_gatherSigns_134 rfl (by omega) (by omega) (by decide) (by omega) ?_
          have bq4 : BX vb1 (up2 ab1 70 (60 : Int).toNat 1) := bxb1.set (k := 70) (i := (60 : Int).toNat) (z := 1) ⟨by decide, by decide⟩
          have fq4 := fpb1.set (k := 70) (i := (60 : Int).toNat) (z := 1) rfl
          refine x_aload_n (j := 1) C dX12_gatherSigns_135 rfl ?_
          refine x_bipush (z := 62) C dX12_gatherSigns_136 (by decide) ?_
          refine x_iconst C dX12_gatherSigns_138 ?_
          refine x_lzast (w := 1) C dX12_gatherSigns_139 rfl (by omega) (by omega) (by decide) (by omega) ?_
          have bq5 : BX vb1 (up2 (up2 ab1 70 (60 : Int).toNat 1) 70 (62 : Int).toNat 1) := bq4.set (k := 70) (i := (62 : Int).toNat) (z := 1) ⟨by decide, by decide⟩
          have fq5 := fq4.set (k := 70) (i := (62 : Int).toNat) (z := 1) rfl
          refine x_lv (lv2 := [(3, .int (iI pt)), (2, .ref bb), (0, .ref h0), (1, .int (iI t))]) [0, 1, 2, 3] rfl ?_
          exact J1   _ _  bq5 fq5 
      · refine x_sipush (z := 6008) C dX12_gatherSigns_13 (by decide) ?_
        refine x_iload_n (j := 0) C dX12_gatherSigns_16 rfl ?_
        refine x_imul C dX12_gatherSigns_17 ?_
        refine x_istore (lv2 := [(4, .int (iI (6008 * pt))), (3, .int (iI pt)), (2, .ref bb), (0, .ref h0), (1, .int (iI t))]) C dX12_gatherSigns_18 (by decide) rfl ?_
        have Lp3 : ∀ (nn : Nat) (r : Int) (vb4 : Nat → Int) (ab4 : Nat → Nat → Int), 6008 * pt + 6009 - r < (nn : Int) → BX vb4 ab4 → fr [66] [65, 70] v a vb4 ab4 → (6008 * pt ≤ r ∧ r ≤ 6008 * pt + 6008) → mx p l e (rmq 1 1 256) s m args below meth c G A 8 (MQ below (Qm G A (fun rq Lq Eq => ∃ (vq : Nat → Int) (aq : Nat → Nat → Int), mI G h0 ad ln vq aq Lq Eq ∧ (fun r v2 a2 => r = none ∧ fr [66] [65, 70] v a v2 a2 ∧ BX v2 a2 ∧ (True)) rq vq aq)) args s 1 256 A) bb 256 true h0 ad ln vb4 ab4 (0 + 1) (0 + 256) 20 [(4, .int (iI r)), (3, .int (iI pt)), (2, .ref bb), (0, .ref h0), (1, .int (iI t))] [] := by
          intro nn
          induction nn with
          | zero =>
            intro r vb4 ab4 hm bxb4 fpb4 hr
            exact absurd hm (by omega)
          | succ nn ih3 =>
            intro r vb4 ab4 hm bxb4 fpb4 hr
            refine x_iload (j := 0) C dX12_gatherSigns_20 rfl ?_
            refine x_sipush (z := 6008) C dX12_gatherSigns_22 (by decide) ?_
            refine x_iload_n (j := 1) C dX12_gatherSigns_25 rfl ?_
            refine x_imul C dX12_gatherSigns_26 ?_
            refine x_aload_n (j := 3) C dX12_gatherSigns_27 rfl ?_
            refine x_geta (k := 47) C dX12_gatherSigns_28 w6_106 (by decide) rfl ?_
            refine x_iload_n (j := 1) C dX12_gatherSigns_31 rfl ?_
            refine x_ald (k := 47) C dX12_gatherSigns_32 rfl rfl (by decide) (by omega) (by show _ < ((_ : Nat) : Int); simp only [mlen]; omega) (by decide) ?_
            have ra3 : 0 ≤ ab4 47 pt.toNat ∧ ab4 47 pt.toNat ≤ 6008 := bxb4.2 47 (pt.toNat)
            have ae2 : ab4 47 (pt.toNat) = a 47 (pt.toNat) := congrFun (fpb4.2 47 rfl) (pt.toNat)
            refine x_st (st2 := [.int (iI (a 47 pt.toNat)), .int (iI (6008 * pt)), .int (iI r)]) (congrArg (fun z => Value.int (iI z) :: [.int (iI (6008 * pt)), .int (iI r)]) (congrFun (fpb4.2 47 rfl) (pt.toNat))) ?_
            refine x_iadd C dX12_gatherSigns_33 ?_
            refine x_icmp_ge (tgt := 114) C ⟨by omega, by omega⟩ ⟨by omega, by omega⟩ dX12_gatherSigns_34 (by decide) (fun c5 => ?_) (fun c5 => ?_)
            · refine x_iinc (z := pt) (j := 1) (lv2 := [(3, .int (iI (pt + 1))), (4, .int (iI r)), (2, .ref bb), (0, .ref h0), (1, .int (iI t))]) C dX12_gatherSigns_114 rfl (by decide) rfl ?_
              refine x_goto (tgt := 8) C dX12_gatherSigns_117 (by decide) ?_
              refine x_lv (lv2 := [(3, .int (iI (pt + 1))), (2, .ref bb), (0, .ref h0), (1, .int (iI t))]) [0, 2, 3, 4] rfl ?_
              exact ih1  (pt + 1) _ _ (by omega) bxb4 fpb4 (by omega)
            · refine x_aload_n (j := 3) C dX12_gatherSigns_37 rfl ?_
              refine x_geta (k := 44) C dX12_gatherSigns_38 w6_103 (by decide) rfl ?_
              refine x_iload (j := 0) C dX12_gatherSigns_41 rfl ?_
              refine x_ald (k := 44) C dX12_gatherSigns_43 rfl rfl (by decide) (by omega) (by show _ < ((_ : Nat) : Int); simp only [mlen]; omega) (by decide) ?_
              have ra4 : (-4) ≤ ab4 44 r.toNat ∧ ab4 44 r.toNat ≤ 5999 := bxb4.2 44 (r.toNat)
              have ae3 : ab4 44 (r.toNat) = a 44 (r.toNat) := congrFun (fpb4.2 44 rfl) (r.toNat)
              refine x_st (st2 := [.int (iI (a 44 r.toNat))]) (congrArg (fun z => Value.int (iI z) :: []) (congrFun (fpb4.2 44 rfl) (r.toNat))) ?_
              refine x_istore (lv2 := [(5, .int (iI (a 44 r.toNat))), (4, .int (iI r)), (3, .int (iI pt)), (2, .ref bb), (0, .ref h0), (1, .int (iI t))]) C dX12_gatherSigns_44 (by decide) rfl ?_
              refine x_iconst C dX12_gatherSigns_46 ?_
              refine x_istore (lv2 := [(6, .int (iI 0)), (5, .int (iI (a 44 r.toNat))), (4, .int (iI r)), (3, .int (iI pt)), (2, .ref bb), (0, .ref h0), (1, .int (iI t))]) C dX12_gatherSigns_47 (by decide) rfl ?_
              have Lp4 : ∀ (nn : Nat) (k : Int) (vb5 : Nat → Int) (ab5 : Nat → Nat → Int), 9 - k < (nn : Int) → BX vb5 ab5 → fr [66] [65, 70] v a vb5 ab5 → (0 ≤ k ∧ k ≤ 8) → mx p l e (rmq 1 1 256) s m args below meth c G A 8 (MQ below (Qm G A (fun rq Lq Eq => ∃ (vq : Nat → Int) (aq : Nat → Nat → Int), mI G h0 ad ln vq aq Lq Eq ∧ (fun r v2 a2 => r = none ∧ fr [66] [65, 70] v a v2 a2 ∧ BX v2 a2 ∧ (True)) rq vq aq)) args s 1 256 A) bb 256 true h0 ad ln vb5 ab5 (0 + 1) (0 + 256) 49 [(6, .int (iI k)), (5, .int (iI (a 44 r.toNat))), (4, .int (iI r)), (3, .int (iI pt)), (2, .ref bb), (0, .ref h0), (1, .int (iI t))] [] := by
                intro nn
                induction nn with
                | zero =>
                  intro k vb5 ab5 hm bxb5 fpb5 hk
                  exact absurd hm (by omega)
                | succ nn ih4 =>
                  intro k vb5 ab5 hm bxb5 fpb5 hk
                  refine x_iload (j := 1) C dX12_gatherSigns_49 rfl ?_
                  refine x_if_lt (tgt := 108) C ⟨by omega, by omega⟩ dX12_gatherSigns_51 (by decide) (fun c6 => ?_) (fun c6 => ?_)
                  · refine x_iinc (z := r) (j := 2) (lv2 := [(4, .int (iI (r + 1))), (6, .int (iI k)), (5, .int (iI (a 44 r.toNat))), (3, .int (iI pt)), (2, .ref bb), (0, .ref h0), (1, .int (iI t))]) C dX12_gatherSigns_108 rfl (by decide) rfl ?_
                    refine x_goto (tgt := 20) C dX12_gatherSigns_111 (by decide) ?_
                    refine x_lv (lv2 := [(4, .int (iI (r + 1))), (3, .int (iI pt)), (2, .ref bb), (0, .ref h0), (1, .int (iI t))]) [0, 3, 4, 5, 6] rfl ?_
                    exact ih3  (r + 1) _ _ (by omega) bxb5 fpb5 (by omega)
                  · refine x_iload (j := 0) C dX12_gatherSigns_54 rfl ?_
                    refine x_aload_n (j := 5) C dX12_gatherSigns_56 rfl ?_
                    refine x_geta (k := 12) C dX12_gatherSigns_57 w6_71 (by decide) rfl ?_
                    refine x_iload (j := 1) C dX12_gatherSigns_60 rfl ?_
                    refine x_ald (k := 12) C dX12_gatherSigns_62 rfl rfl (by decide) (by omega) (by show _ < ((_ : Nat) : Int); simp only [mlen]; omega) (by decide) ?_
                    have ra5 : 0 ≤ ab5 12 (a 44 r.toNat).toNat ∧ ab5 12 (a 44 r.toNat).toNat ≤ 8 := bxb5.2 12 ((a 44 r.toNat).toNat)
                    have ae4 : ab5 12 ((a 44 r.toNat).toNat) = a 12 ((a 44 r.toNat).toNat) := congrFun (fpb5.2 12 rfl) ((a 44 r.toNat).toNat)
                    refine x_st (st2 := [.int (iI (a 12 (a 44 r.toNat).toNat)), .int (iI k)]) (congrArg (fun z => Value.int (iI z) :: [.int (iI k)]) (congrFun (fpb5.2 12 rfl) ((a 44 r.toNat).toNat))) ?_
                    refine x_icmp_ge (tgt := 108) C ⟨by omega, by omega⟩ ⟨by omega, by omega⟩ dX12_gatherSigns_63 (by decide) (fun c7 => ?_) (fun c7 => ?_)
                    · refine x_iinc (z := r) (j := 2) (lv2 := [(4, .int (iI (r + 1))), (6, .int (iI k)), (5, .int (iI (a 44 r.toNat))), (3, .int (iI pt)), (2, .ref bb), (0, .ref h0), (1, .int (iI t))]) C dX12_gatherSigns_108 rfl (by decide) rfl ?_
                      refine x_goto (tgt := 20) C dX12_gatherSigns_111 (by decide) ?_
                      refine x_lv (lv2 := [(4, .int (iI (r + 1))), (3, .int (iI pt)), (2, .ref bb), (0, .ref h0), (1, .int (iI t))]) [0, 3, 4, 5, 6] rfl ?_
                      exact ih3  (r + 1) _ _ (by omega) bxb5 fpb5 (by omega)
                    · refine x_aload_n (j := 5) C dX12_gatherSigns_66 rfl ?_
                      refine x_geta (k := 14) C dX12_gatherSigns_67 w6_73 (by decide) rfl ?_
                      refine x_bipush (z := 8) C dX12_gatherSigns_70 (by decide) ?_
                      refine x_iload (j := 1) C dX12_gatherSigns_72 rfl ?_
                      refine x_imul C dX12_gatherSigns_74 ?_
                      refine x_iload (j := 0) C dX12_gatherSigns_75 rfl ?_
                      refine x_iadd C dX12_gatherSigns_77 ?_
                      refine x_ald (k := 14) C dX12_gatherSigns_78 rfl rfl (by decide) (by omega) (by show _ < ((_ : Nat) : Int); simp only [mlen]; omega) (by decide) ?_
                      have ra6 : 0 ≤ ab5 14 ((8 * (a 44 r.toNat)) + k).toNat ∧ ab5 14 ((8 * (a 44 r.toNat)) + k).toNat ≤ 125 := bxb5.2 14 (((8 * (a 44 r.toNat)) + k).toNat)
                      have ae5 : ab5 14 (((8 * (a 44 r.toNat)) + k).toNat) = a 14 (((8 * (a 44 r.toNat)) + k).toNat) := congrFun (fpb5.2 14 rfl) (((8 * (a 44 r.toNat)) + k).toNat)
                      refine x_st (st2 := [.int (iI (a 14 ((8 * (a 44 r.toNat)) + k).toNat))]) (congrArg (fun z => Value.int (iI z) :: []) (congrFun (fpb5.2 14 rfl) (((8 * (a 44 r.toNat)) + k).toNat))) ?_
                      refine x_istore (lv2 := [(7, .int (iI (a 14 ((8 * (a 44 r.toNat)) + k).toNat))), (6, .int (iI k)), (5, .int (iI (a 44 r.toNat))), (4, .int (iI r)), (3, .int (iI pt)), (2, .ref bb), (0, .ref h0), (1, .int (iI t))]) C dX12_gatherSigns_79 (by decide) rfl ?_
                      refine x_aload_n (j := 5) C dX12_gatherSigns_81 rfl ?_
                      refine x_iload (j := 0) C dX12_gatherSigns_82 rfl ?_
                      refine x_iconst C dX12_gatherSigns_84 ?_
                      refine x_lzast (w := 1) C dX12_gatherSigns_85 rfl (by omega) (by omega) (by decide) (by omega) ?_
                      have bq6 : BX vb5 (up2 ab5 70 (a 14 ((8 * (a 44 r.toNat)) + k).toNat).toNat 1) := bxb5.set (k := 70) (i := (a 14 ((8 * (a 44 r.toNat)) + k).toNat).toNat) (z := 1) ⟨by decide, by decide⟩
                      have fq6 := fpb5.set (k := 70) (i := (a 14 ((8 * (a 44 r.toNat)) + k).toNat).toNat) (z := 1) rfl
                      refine x_iload (j := 0) C dX12_gatherSigns_86 rfl ?_
                      refine x_callS (As := [.int (iI (a 14 ((8 * (a 44 r.toNat)) + k).toNat))]) (rest := []) C (fun L E => s_isSmall (iI (a 14 ((8 * (a 44 r.toNat)) + k).toNat))) dX12_gatherSigns_88 kS_X12_208 rfl rfl (Nat.le_of_ble_eq_true rfl) ⟨Nat.le_of_ble_eq_true rfl, Nat.le_of_ble_eq_true rfl⟩ ⟨Nat.le_of_ble_eq_true rfl, Nat.le_of_ble_eq_true rfl⟩ ?_
                      rcases inn_c (x := a 14 ((8 * (a 44 r.toNat)) + k).toNat) (lo := 97) (hi := 122) ⟨by omega, by omega⟩ ⟨by decide, by decide⟩ ⟨by decide, by decide⟩ with ⟨h1a, h1b, h1e⟩ | ⟨h1a, h1e⟩
                      · refine x_st (st2 := [.int (iI 1)]) (by rw [show inn (iI (a 14 ((8 * (a 44 r.toNat)) + k).toNat)) 97 122 = iI 1 from h1e]) ?_
                        refine x_if_eq (tgt := 102) C ⟨by decide, by decide⟩ dX12_gatherSigns_91 (by decide) (fun z => absurd z (by omega)) (fun _ => ?_)
                        refine x_aload_n (j := 5) C dX12_gatherSigns_94 rfl ?_
                        refine x_iload (j := 0) C dX12_gatherSigns_95 rfl ?_
                        refine x_bipush (z := 32) C dX12_gatherSigns_97 (by decide) ?_
                        refine x_isub C dX12_gatherSigns_99 ?_
                        refine x_iconst C dX12_gatherSigns_100 ?_
                        refine x_lzast (w := 1) C dX12_gatherSigns_101 rfl (by omega) (by omega) (by decide) (by omega) ?_
                        have bq7 : BX vb5 (up2 (up2 ab5 70 (a 14 ((8 * (a 44 r.toNat)) + k).toNat).toNat 1) 70 ((a 14 ((8 * (a 44 r.toNat)) + k).toNat) - 32).toNat 1) := bq6.set (k := 70) (i := ((a 14 ((8 * (a 44 r.toNat)) + k).toNat) - 32).toNat) (z := 1) ⟨by decide, by decide⟩
                        have fq7 := fq6.set (k := 70) (i := ((a 14 ((8 * (a 44 r.toNat)) + k).toNat) - 32).toNat) (z := 1) rfl
                        refine x_iinc (z := k) (j := 1) (lv2 := [(6, .int (iI (k + 1))), (7, .int (iI (a 14 ((8 * (a 44 r.toNat)) + k).toNat))), (5, .int (iI (a 44 r.toNat))), (4, .int (iI r)), (3, .int (iI pt)), (2, .ref bb), (0, .ref h0), (1, .int (iI t))]) C dX12_gatherSigns_102 rfl (by decide) rfl ?_
                        refine x_goto (tgt := 49) C dX12_gatherSigns_105 (by decide) ?_
                        refine x_lv (lv2 := [(6, .int (iI (k + 1))), (5, .int (iI (a 44 r.toNat))), (4, .int (iI r)), (3, .int (iI pt)), (2, .ref bb), (0, .ref h0), (1, .int (iI t))]) [0, 2, 3, 4, 5, 6, 7] rfl ?_
                        exact ih4  (k + 1) _ _ (by omega) bq7 fq7 (by omega)
                      · refine x_st (st2 := [.int (iI 0)]) (by rw [show inn (iI (a 14 ((8 * (a 44 r.toNat)) + k).toNat)) 97 122 = iI 0 from h1e]) ?_
                        refine x_if_eq (tgt := 102) C ⟨by decide, by decide⟩ dX12_gatherSigns_91 (by decide) (fun _ => ?_) (fun z => absurd z (by omega))
                        refine x_iinc (z := k) (j := 1) (lv2 := [(6, .int (iI (k + 1))), (7, .int (iI (a 14 ((8 * (a 44 r.toNat)) + k).toNat))), (5, .int (iI (a 44 r.toNat))), (4, .int (iI r)), (3, .int (iI pt)), (2, .ref bb), (0, .ref h0), (1, .int (iI t))]) C dX12_gatherSigns_102 rfl (by decide) rfl ?_
                        refine x_goto (tgt := 49) C dX12_gatherSigns_105 (by decide) ?_
                        refine x_lv (lv2 := [(6, .int (iI (k + 1))), (5, .int (iI (a 44 r.toNat))), (4, .int (iI r)), (3, .int (iI pt)), (2, .ref bb), (0, .ref h0), (1, .int (iI t))]) [0, 2, 3, 4, 5, 6, 7] rfl ?_
                        exact ih4  (k + 1) _ _ (by omega) bq6 fq6 (by omega)
              refine x_lv (lv2 := [(6, .int (iI 0)), (5, .int (iI (a 44 r.toNat))), (4, .int (iI r)), (3, .int (iI pt)), (2, .ref bb), (0, .ref h0), (1, .int (iI t))]) [0, 1, 2, 3, 4, 5, 6] rfl ?_
              exact Lp4 10 0 _ _ (by omega) bxb4 fpb4 (by omega)
        refine x_lv (lv2 := [(4, .int (iI (6008 * pt))), (3, .int (iI pt)), (2, .ref bb), (0, .ref h0), (1, .int (iI t))]) [0, 1, 2, 3, 4] rfl ?_
        exact Lp3 6010 (6008 * pt) _ _ (by omega) bxb1 fpb1 (by omega)
  refine x_lv (lv2 := [(3, .int (iI 0)), (2, .ref bb), (0, .ref h0), (1, .int (iI t))]) [0, 1, 2, 3] rfl ?_
  exact Lp1 4 0 _ _ (by omega) bnw1 fqw1 (by omega)
set_option maxHeartbeats 4000000 in
set_option maxRecDepth 100000 in
theorem M_unreadable {l : Launch} {G : GT} {h0 : Nat} {ad ln : Nat → Nat} {v : Nat → Int} {a : Nat → Nat → Int} {t n1 m1 : Int} (hB : BX v a) (hT : TBL v a) (hW : RWS a) (ht : -2147483648 ≤ t ∧ t ≤ 2147483647) (hn1 : -2147483648 ≤ n1 ∧ n1 ≤ 2147483647) (hm1 : -2147483648 ≤ m1 ∧ m1 ≤ 2147483647) : Mm l G yX12_unreadable cX12_unreadable 9 (some .int) 67 [.int (iI t), .int (iI n1), .int (iI m1)] h0 ad ln v a 2 262 (fun r v2 a2 => ∃ f : Int, r = some (.int (iI f)) ∧ fr [0, 1, 23, 25, 28, 50, 52, 53, 55, 66] [20, 24, 26, 27, 44, 45, 46, 47, 48, 49, 51, 54, 65, 70] v a v2 a2 ∧ BX v2 a2 ∧ (True)) := by
  refine Mm.mk (by decide) (Nat.le_of_ble_eq_true rfl) ?_
  intro p e s m args below meth c A C
  have h30 : 0 ≤ v 4 ∧ v 4 ≤ 30 := hB.1 4
  have fp0 : fr [0, 1, 23, 25, 28, 50, 52, 53, 55, 66] [20, 24, 26, 27, 44, 45, 46, 47, 48, 49, 51, 54, 65, 70] v a v a := fr.refl
  refine m_iload_n (j := 2) C dX12_unreadable_0 rfl ?_
  refine m_iconst C dX12_unreadable_1 ?_
  refine m_bipush (z := 6) C dX12_unreadable_2 (by decide) ?_
  refine m_callS (As := [.int (iI n1), .int (iI 1), .int (iI 6)]) (rest := []) C (fun L E => s_isIn (iI n1) (iI 1) (iI 6)) dX12_unreadable_4 kS_X12_174 rfl rfl (Nat.le_of_ble_eq_true rfl) ⟨Nat.le_of_ble_eq_true rfl, Nat.le_of_ble_eq_true rfl⟩ ⟨Nat.le_of_ble_eq_true rfl, Nat.le_of_ble_eq_true rfl⟩ ?_
  rcases inn_c (x := n1) (lo := 1) (hi := 6) ⟨by omega, by omega⟩ ⟨by decide, by decide⟩ ⟨by decide, by decide⟩ with ⟨h1a, h1b, h1e⟩ | ⟨h1a, h1e⟩
  · refine m_st (st2 := [.int (iI 1)]) (by rw [h1e]) ?_
    refine m_if_eq (tgt := 21) C ⟨by decide, by decide⟩ dX12_unreadable_7 (by decide) (fun z => absurd z (by omega)) (fun _ => ?_)
    refine m_iload_n (j := 3) C dX12_unreadable_10 rfl ?_
    refine m_iconst C dX12_unreadable_11 ?_
    refine m_sipush (z := 5000) C dX12_unreadable_12 (by decide) ?_
    refine m_callS (As := [.int (iI m1), .int (iI 1), .int (iI 5000)]) (rest := []) C (fun L E => s_isIn (iI m1) (iI 1) (iI 5000)) dX12_unreadable_15 kS_X12_174 rfl rfl (Nat.le_of_ble_eq_true rfl) ⟨Nat.le_of_ble_eq_true rfl, Nat.le_of_ble_eq_true rfl⟩ ⟨Nat.le_of_ble_eq_true rfl, Nat.le_of_ble_eq_true rfl⟩ ?_
    rcases inn_c (x := m1) (lo := 1) (hi := 5000) ⟨by omega, by omega⟩ ⟨by decide, by decide⟩ ⟨by decide, by decide⟩ with ⟨h2a, h2b, h2e⟩ | ⟨h2a, h2e⟩
    · refine m_st (st2 := [.int (iI 1)]) (by rw [h2e]) ?_
      refine m_if_ne (tgt := 28) C ⟨by decide, by decide⟩ dX12_unreadable_18 (by decide) (fun _ => ?_) (fun z => absurd z (by omega))
      refine m_aload_n (j := 0) C dX12_unreadable_28 rfl ?_
      refine m_iload_n (j := 1) C dX12_unreadable_29 rfl ?_
      have rv1 : 0 ≤ v 4 ∧ v 4 ≤ 30 := hB.1 4
      refine m_call (mc2 := 0) (ms2 := 0) (As := [.int (iI t)]) (rest := []) C (M_isWhole (t := t) hB (hT.fr fp0 rfl rfl) (by show -2147483648 ≤ t ∧ t ≤ 2147483647; omega)) dX12_unreadable_30 kV_X12_171 rfl ck_13 rfl (Nat.le_of_ble_eq_true rfl) ⟨Nat.le_of_ble_eq_true rfl, Nat.le_of_ble_eq_true rfl⟩ ⟨Nat.le_of_ble_eq_true rfl, Nat.le_of_ble_eq_true rfl⟩ (fun rh3 vh3 ah3 h3 => ?_)
      obtain ⟨f1, rfl, fn1, bn1, ex1⟩ := h3
      obtain ⟨rfl, rfl⟩ := fn1.eq
      have gf1 : f1 = 0 ∨ (f1 = 1 ∧ 0 ≤ t ∧ t < (v 4)) := ex1
      refine m_st (st2 := [.int (iI f1)]) rfl ?_
      refine m_if_ne (tgt := 42) C ⟨by omega, by omega⟩ dX12_unreadable_33 (by decide) (fun c1 => ?_) (fun c1 => ?_)
      · refine m_aload_n (j := 0) C dX12_unreadable_42 rfl ?_
        refine m_iload_n (j := 1) C dX12_unreadable_43 rfl ?_
        refine m_call (mc2 := 0) (ms2 := 0) (As := [.int (iI t)]) (rest := []) C (M_gather (t := t) hB hW (hT.fr fp0 rfl rfl) (by show 0 ≤ t ∧ t < (v 4); omega)) dX12_unreadable_44 kV_X12_354 rfl ck_13 rfl (Nat.le_of_ble_eq_true rfl) ⟨Nat.le_of_ble_eq_true rfl, Nat.le_of_ble_eq_true rfl⟩ ⟨Nat.le_of_ble_eq_true rfl, Nat.le_of_ble_eq_true rfl⟩ (fun rh4 vh4 ah4 h4 => ?_)
        obtain ⟨rfl, fn2, bn2, ex2⟩ := h4
        have fq2 := fp0.call fn2 rfl rfl
        have pw1 := ex2
        refine m_st (st2 := []) rfl ?_
        refine m_aload_n (j := 0) C dX12_unreadable_47 rfl ?_
        refine m_iload_n (j := 1) C dX12_unreadable_48 rfl ?_
        refine m_call (mc2 := 1) (ms2 := 256) (As := [.int (iI t)]) (rest := []) C (M_gatherSigns (t := t) bn2 (by show 0 ≤ t ∧ t < 30; omega)) dX12_unreadable_49 kV_X12_416 rfl ck_13 rfl (Nat.le_of_ble_eq_true rfl) ⟨Nat.le_of_ble_eq_true rfl, Nat.le_of_ble_eq_true rfl⟩ ⟨Nat.le_of_ble_eq_true rfl, Nat.le_of_ble_eq_true rfl⟩ (fun rh5 vh5 ah5 h5 => ?_)
        obtain ⟨rfl, fn3, bn3, ex3⟩ := h5
        have fq3 := fq2.call fn3 rfl rfl
        have pw2 : RWS ah5 := RWS.fr pw1 fn3 rfl
        refine m_st (st2 := []) rfl ?_
        refine m_aload_n (j := 0) C dX12_unreadable_52 rfl ?_
        refine m_aload_n (j := 0) C dX12_unreadable_53 rfl ?_
        have rv2 : 0 ≤ vh5 52 ∧ vh5 52 ≤ 4000 := bn3.1 52
        have ve1 : vh5 52 = vh4 52 := fn3.1 52 rfl
        have ve2 : vh4 52 = v 52 := fn2.1 52 rfl
        refine m_get (k := 52) C dX12_unreadable_54 w6_111 (by decide) rfl ?_
        refine m_put (k := 55) (z := vh5 52) C dX12_unreadable_57 w6_114 (by decide) rfl rfl rfl ?_
        have bq1 : BX (va_up vh5 55 (vh5 52)) ah5 := bn3.put (k := 55) (z := vh5 52) (show 0 ≤ (vh5 52) ∧ (vh5 52) ≤ 4000 by omega)
        have fq4 := fq3.put (k := 55) (z := vh5 52) rfl
        refine m_iconst C dX12_unreadable_60 ?_
        refine m_istore (lv2 := [(4, .int (iI 0)), (0, .ref h0), (1, .int (iI t)), (2, .int (iI n1)), (3, .int (iI m1))]) C dX12_unreadable_61 (by decide) rfl ?_
        have Lp1 : ∀ (nn : Nat) (k : Int) (vb1 : Nat → Int) (ab1 : Nat → Nat → Int), 4001 - k < (nn : Int) → BX vb1 ab1 → fr [0, 1, 23, 25, 28, 50, 52, 53, 55, 66] [20, 24, 26, 27, 44, 45, 46, 47, 48, 49, 51, 54, 65, 70] v a vb1 ab1 → (0 ≤ k ∧ k ≤ 4000) → (RWS ab1) → mw p l e (rmq 67 2 262) s m args below meth c G A 9 (MQ below (Qm G A (fun rq Lq Eq => ∃ (vq : Nat → Int) (aq : Nat → Nat → Int), mI G h0 ad ln vq aq Lq Eq ∧ (fun r v2 a2 => ∃ f : Int, r = some (.int (iI f)) ∧ fr [0, 1, 23, 25, 28, 50, 52, 53, 55, 66] [20, 24, 26, 27, 44, 45, 46, 47, 48, 49, 51, 54, 65, 70] v a v2 a2 ∧ BX v2 a2 ∧ (True)) rq vq aq)) args s 2 262 A) h0 ad ln vb1 ab1 (0 + 1) (0 + 256) 63 [(4, .int (iI k)), (0, .ref h0), (1, .int (iI t)), (2, .int (iI n1)), (3, .int (iI m1))] [] := by
          intro nn
          induction nn with
          | zero =>
            intro k vb1 ab1 hm bxb1 fpb1 hk hRa
            exact absurd hm (by omega)
          | succ nn ih1 =>
            intro k vb1 ab1 hm bxb1 fpb1 hk hRa
            refine m_iload (j := 0) C dX12_unreadable_63 rfl ?_
            refine m_aload_n (j := 1) C dX12_unreadable_65 rfl ?_
            have rv3 : 0 ≤ vb1 52 ∧ vb1 52 ≤ 4000 := bxb1.1 52
            refine m_get (k := 52) C dX12_unreadable_66 w6_111 (by decide) rfl ?_
            refine m_icmp_ge (tgt := 92) C ⟨by omega, by omega⟩ ⟨by omega, by omega⟩ dX12_unreadable_69 (by decide) (fun c2 => ?_) (fun c2 => ?_)
            · refine m_iconst C dX12_unreadable_92 ?_
              refine m_istore (lv2 := [(4, .int (iI 0)), (0, .ref h0), (1, .int (iI t)), (2, .int (iI n1)), (3, .int (iI m1))]) C dX12_unreadable_93 (by decide) rfl ?_
              refine m_bipush (z := 6) C dX12_unreadable_95 (by decide) ?_
              refine m_newI (z := 6) (nb := 6) C dX12_unreadable_97 w1_57 ⟨by omega, by omega⟩ rfl ⟨Nat.le_of_ble_eq_true rfl, Nat.le_of_ble_eq_true rfl⟩ bxb1 (fun bb vw1 aw1 fnw1 bnw1 znw1 => ?_)
              have fqw1 := fpb1.call fnw1 rfl rfl
              have pw3 : RWS aw1 := RWS.fr hRa fnw1 rfl
              have pw4 : ATS vw1 aw1 := fun j => ⟨Int.le_of_eq (znw1 j).symm, Or.inl (znw1 j)⟩
              refine x_astore (lv2 := [(5, .ref bb), (4, .int (iI 0)), (0, .ref h0), (1, .int (iI t)), (2, .int (iI n1)), (3, .int (iI m1))]) C dX12_unreadable_99 (by decide) rfl ?_
              refine x_iconst C dX12_unreadable_101 ?_
              refine x_istore (lv2 := [(6, .int (iI 1)), (5, .ref bb), (4, .int (iI 0)), (0, .ref h0), (1, .int (iI t)), (2, .int (iI n1)), (3, .int (iI m1))]) C dX12_unreadable_102 (by decide) rfl ?_
              have Lp2 : ∀ (nn : Nat) (tr m2 : Int) (vb2 : Nat → Int) (ab2 : Nat → Nat → Int), n1 + 2 - m2 < (nn : Int) → BX vb2 ab2 → fr [0, 1, 23, 25, 28, 50, 52, 53, 55, 66] [20, 24, 26, 27, 44, 45, 46, 47, 48, 49, 51, 54, 65, 70] v a vb2 ab2 → (0 ≤ tr ∧ tr ≤ m1) → (1 ≤ m2 ∧ m2 ≤ n1 + 1) → (RWS ab2) → (ATS vb2 ab2) → mx p l e (rmq 67 2 262) s m args below meth c G A 9 (MQ below (Qm G A (fun rq Lq Eq => ∃ (vq : Nat → Int) (aq : Nat → Nat → Int), mI G h0 ad ln vq aq Lq Eq ∧ (fun r v2 a2 => ∃ f : Int, r = some (.int (iI f)) ∧ fr [0, 1, 23, 25, 28, 50, 52, 53, 55, 66] [20, 24, 26, 27, 44, 45, 46, 47, 48, 49, 51, 54, 65, 70] v a v2 a2 ∧ BX v2 a2 ∧ (True)) rq vq aq)) args s 2 262 A) bb 6 false h0 ad ln vb2 ab2 ((0 + 1) + 1) ((0 + 256) + 6) 104 [(6, .int (iI m2)), (4, .int (iI tr)), (5, .ref bb), (0, .ref h0), (1, .int (iI t)), (2, .int (iI n1)), (3, .int (iI m1))] [] := by
                intro nn
                induction nn with
                | zero =>
                  intro tr m2 vb2 ab2 hm bxb2 fpb2 htr hm2 hRb hAb
                  exact absurd hm (by omega)
                | succ nn ih2 =>
                  intro tr m2 vb2 ab2 hm bxb2 fpb2 htr hm2 hRb hAb
                  refine x_iload (j := 0) C dX12_unreadable_104 rfl ?_
                  refine x_iload_n (j := 5) C dX12_unreadable_106 rfl ?_
                  refine x_icmp_gt (tgt := 329) C ⟨by omega, by omega⟩ ⟨by omega, by omega⟩ dX12_unreadable_107 (by decide) (fun c3 => ?_) (fun c3 => ?_)
                  · refine x_aload_n (j := 3) C dX12_unreadable_329 rfl ?_
                    refine x_call (mc2 := 0) (ms2 := 0) (As := []) (rest := []) C (B_putBack  bxb2 ) (fun _ _ _ q => by first | exact q.2.1.2 70 rfl | (obtain ⟨_, _, q2, _⟩ := q; exact q2.2 70 rfl)) dX12_unreadable_330 kV_X12_422 rfl ck_13 rfl (Nat.le_of_ble_eq_true rfl) ⟨Nat.le_of_ble_eq_true rfl, Nat.le_of_ble_eq_true rfl⟩ ⟨Nat.le_of_ble_eq_true rfl, Nat.le_of_ble_eq_true rfl⟩ (fun rh6 vh6 ah6 h6 => ?_)
                    obtain ⟨rfl, fn4, bn4, ex4⟩ := h6
                    have fq5 := fpb2.call fn4 rfl rfl
                    have pw5 : RWS ah6 := RWS.fr hRb fn4 rfl
                    have pw6 : ATS vh6 ah6 := ATS.fr hAb fn4 rfl rfl
                    refine x_st (st2 := []) rfl ?_
                    refine x_aload_n (j := 3) C dX12_unreadable_333 rfl ?_
                    refine x_iconst C dX12_unreadable_334 ?_
                    refine x_call (mc2 := 0) (ms2 := 0) (As := [.int (iI 0)]) (rest := []) C (B_fine (x := 0) bn4 (by show -2147483648 ≤ (0 : Int) ∧ (0 : Int) ≤ 2147483647; omega)) (fun _ _ _ q => by first | exact q.2.1.2 70 rfl | (obtain ⟨_, _, q2, _⟩ := q; exact q2.2 70 rfl)) dX12_unreadable_335 kV_X12_158 rfl ck_13 rfl (Nat.le_of_ble_eq_true rfl) ⟨Nat.le_of_ble_eq_true rfl, Nat.le_of_ble_eq_true rfl⟩ ⟨Nat.le_of_ble_eq_true rfl, Nat.le_of_ble_eq_true rfl⟩ (fun rh7 vh7 ah7 h7 => ?_)
                    obtain ⟨f5, rfl, fn5, bn5, ex5⟩ := h7
                    have fq6 := fq5.call fn5 rfl rfl
                    have pw7 : RWS ah7 := RWS.fr pw5 fn5 rfl
                    have pw8 : ATS vh7 ah7 := ATS.fr pw6 fn5 rfl rfl
                    have gf5 : f5 = (0 : Int) := ex5
                    refine x_st (st2 := [.int (iI f5)]) rfl ?_
                    exact x_iret C dX12_unreadable_338 rfl (Nat.le_of_ble_eq_true rfl) (Nat.le_of_ble_eq_true rfl) ⟨f5, rfl, fq6, bn5, trivial⟩
                  · refine x_aload_n (j := 3) C dX12_unreadable_110 rfl ?_
                    have rv4 : 0 ≤ vb2 66 ∧ vb2 66 ≤ 256 := bxb2.1 66
                    refine x_get (k := 66) C dX12_unreadable_111 w6_125 (by decide) rfl ?_
                    refine x_if_le (tgt := 329) C ⟨by omega, by omega⟩ dX12_unreadable_114 (by decide) (fun c4 => ?_) (fun c4 => ?_)
                    · refine x_aload_n (j := 3) C dX12_unreadable_329 rfl ?_
                      refine x_call (mc2 := 0) (ms2 := 0) (As := []) (rest := []) C (B_putBack  bxb2 ) (fun _ _ _ q => by first | exact q.2.1.2 70 rfl | (obtain ⟨_, _, q2, _⟩ := q; exact q2.2 70 rfl)) dX12_unreadable_330 kV_X12_422 rfl ck_13 rfl (Nat.le_of_ble_eq_true rfl) ⟨Nat.le_of_ble_eq_true rfl, Nat.le_of_ble_eq_true rfl⟩ ⟨Nat.le_of_ble_eq_true rfl, Nat.le_of_ble_eq_true rfl⟩ (fun rh8 vh8 ah8 h8 => ?_)
                      obtain ⟨rfl, fn6, bn6, ex6⟩ := h8
                      have fq7 := fpb2.call fn6 rfl rfl
                      have pw9 : RWS ah8 := RWS.fr hRb fn6 rfl
                      have pw10 : ATS vh8 ah8 := ATS.fr hAb fn6 rfl rfl
                      refine x_st (st2 := []) rfl ?_
                      refine x_aload_n (j := 3) C dX12_unreadable_333 rfl ?_
                      refine x_iconst C dX12_unreadable_334 ?_
                      refine x_call (mc2 := 0) (ms2 := 0) (As := [.int (iI 0)]) (rest := []) C (B_fine (x := 0) bn6 (by show -2147483648 ≤ (0 : Int) ∧ (0 : Int) ≤ 2147483647; omega)) (fun _ _ _ q => by first | exact q.2.1.2 70 rfl | (obtain ⟨_, _, q2, _⟩ := q; exact q2.2 70 rfl)) dX12_unreadable_335 kV_X12_158 rfl ck_13 rfl (Nat.le_of_ble_eq_true rfl) ⟨Nat.le_of_ble_eq_true rfl, Nat.le_of_ble_eq_true rfl⟩ ⟨Nat.le_of_ble_eq_true rfl, Nat.le_of_ble_eq_true rfl⟩ (fun rh9 vh9 ah9 h9 => ?_)
                      obtain ⟨f7, rfl, fn7, bn7, ex7⟩ := h9
                      have fq8 := fq7.call fn7 rfl rfl
                      have pw11 : RWS ah9 := RWS.fr pw9 fn7 rfl
                      have pw12 : ATS vh9 ah9 := ATS.fr pw10 fn7 rfl rfl
                      have gf7 : f7 = (0 : Int) := ex7
                      refine x_st (st2 := [.int (iI f7)]) rfl ?_
                      exact x_iret C dX12_unreadable_338 rfl (Nat.le_of_ble_eq_true rfl) (Nat.le_of_ble_eq_true rfl) ⟨f7, rfl, fq8, bn7, trivial⟩
                    · refine x_iconst C dX12_unreadable_117 ?_
                      refine x_istore (lv2 := [(7, .int (iI 0)), (6, .int (iI m2)), (4, .int (iI tr)), (5, .ref bb), (0, .ref h0), (1, .int (iI t)), (2, .int (iI n1)), (3, .int (iI m1))]) C dX12_unreadable_118 (by decide) rfl ?_
                      have Lp3 : ∀ (nn : Nat) (k1 : Int) (vb3 : Nat → Int) (ab3 : Nat → Nat → Int), 7 - k1 < (nn : Int) → BX vb3 ab3 → fr [0, 1, 23, 25, 28, 50, 52, 53, 55, 66] [20, 24, 26, 27, 44, 45, 46, 47, 48, 49, 51, 54, 65, 70] v a vb3 ab3 → (0 ≤ k1 ∧ k1 ≤ m2) → (RWS ab3) → (ATS vb3 ab3) → (0 < vb3 66) → mx p l e (rmq 67 2 262) s m args below meth c G A 9 (MQ below (Qm G A (fun rq Lq Eq => ∃ (vq : Nat → Int) (aq : Nat → Nat → Int), mI G h0 ad ln vq aq Lq Eq ∧ (fun r v2 a2 => ∃ f : Int, r = some (.int (iI f)) ∧ fr [0, 1, 23, 25, 28, 50, 52, 53, 55, 66] [20, 24, 26, 27, 44, 45, 46, 47, 48, 49, 51, 54, 65, 70] v a v2 a2 ∧ BX v2 a2 ∧ (True)) rq vq aq)) args s 2 262 A) bb 6 false h0 ad ln vb3 ab3 ((0 + 1) + 1) ((0 + 256) + 6) 120 [(7, .int (iI k1)), (6, .int (iI m2)), (4, .int (iI tr)), (5, .ref bb), (0, .ref h0), (1, .int (iI t)), (2, .int (iI n1)), (3, .int (iI m1))] [] := by
                        intro nn
                        induction nn with
                        | zero =>
                          intro k1 vb3 ab3 hm bxb3 fpb3 hk1 hRc hAc h66c
                          exact absurd hm (by omega)
                        | succ nn ih3 =>
                          intro k1 vb3 ab3 hm bxb3 fpb3 hk1 hRc hAc h66c
                          refine x_iload (j := 0) C dX12_unreadable_120 rfl ?_
                          refine x_iload (j := 1) C dX12_unreadable_122 rfl ?_
                          refine x_icmp_ge (tgt := 139) C ⟨by omega, by omega⟩ ⟨by omega, by omega⟩ dX12_unreadable_124 (by decide) (fun c5 => ?_) (fun c5 => ?_)
                          · refine x_iconst C dX12_unreadable_139 ?_
                            refine x_istore (lv2 := [(7, .int (iI 1)), (6, .int (iI m2)), (4, .int (iI tr)), (5, .ref bb), (0, .ref h0), (1, .int (iI t)), (2, .int (iI n1)), (3, .int (iI m1))]) C dX12_unreadable_140 (by decide) rfl ?_
                            have Lp4 : ∀ (nn : Nat) (g tr2 : Int) (vb4 : Nat → Int) (ab4 : Nat → Nat → Int), m1 + 1 - tr2 < (nn : Int) → BX vb4 ab4 → fr [0, 1, 23, 25, 28, 50, 52, 53, 55, 66] [20, 24, 26, 27, 44, 45, 46, 47, 48, 49, 51, 54, 65, 70] v a vb4 ab4 → (g = 0 ∨ g = 1) → (0 ≤ tr2 ∧ tr2 ≤ m1) → (RWS ab4) → (ATS vb4 ab4) → (0 < vb4 66) → mx p l e (rmq 67 2 262) s m args below meth c G A 9 (MQ below (Qm G A (fun rq Lq Eq => ∃ (vq : Nat → Int) (aq : Nat → Nat → Int), mI G h0 ad ln vq aq Lq Eq ∧ (fun r v2 a2 => ∃ f : Int, r = some (.int (iI f)) ∧ fr [0, 1, 23, 25, 28, 50, 52, 53, 55, 66] [20, 24, 26, 27, 44, 45, 46, 47, 48, 49, 51, 54, 65, 70] v a v2 a2 ∧ BX v2 a2 ∧ (True)) rq vq aq)) args s 2 262 A) bb 6 false h0 ad ln vb4 ab4 ((0 + 1) + 1) ((0 + 256) + 6) 142 [(7, .int (iI g)), (4, .int (iI tr2)), (6, .int (iI m2)), (5, .ref bb), (0, .ref h0), (1, .int (iI t)), (2, .int (iI n1)), (3, .int (iI m1))] [] := by
                              intro nn
                              induction nn with
                              | zero =>
                                intro g tr2 vb4 ab4 hm bxb4 fpb4 hg htr2 hRd hAd h66d
                                exact absurd hm (by omega)
                              | succ nn ih4 =>
                                intro g tr2 vb4 ab4 hm bxb4 fpb4 hg htr2 hRd hAd h66d
                                refine x_iload (j := 0) C dX12_unreadable_142 rfl ?_
                                refine x_if_eq (tgt := 323) C ⟨by omega, by omega⟩ dX12_unreadable_144 (by decide) (fun c6 => ?_) (fun c6 => ?_)
                                · refine x_iinc (z := m2) (j := 2) (lv2 := [(6, .int (iI (m2 + 1))), (7, .int (iI g)), (4, .int (iI tr2)), (5, .ref bb), (0, .ref h0), (1, .int (iI t)), (2, .int (iI n1)), (3, .int (iI m1))]) C dX12_unreadable_323 rfl (by decide) rfl ?_
                                  refine x_goto (tgt := 104) C dX12_unreadable_326 (by decide) ?_
                                  refine x_lv (lv2 := [(6, .int (iI (m2 + 1))), (4, .int (iI tr2)), (5, .ref bb), (0, .ref h0), (1, .int (iI t)), (2, .int (iI n1)), (3, .int (iI m1))]) [0, 2, 3, 4, 5, 6, 7] rfl ?_
                                  exact ih2  tr2 (m2 + 1) _ _ (by omega) bxb4 fpb4 (by omega) (by omega) hRd hAd
                                · refine x_iload (j := 1) C dX12_unreadable_147 rfl ?_
                                  refine x_iload_n (j := 7) C dX12_unreadable_149 rfl ?_
                                  refine x_icmp_ne (tgt := 164) C ⟨by omega, by omega⟩ ⟨by omega, by omega⟩ dX12_unreadable_150 (by decide) (fun c7 => ?_) (fun c7 => ?_)
                                  · refine x_iinc (z := tr2) (j := 1) (lv2 := [(4, .int (iI (tr2 + 1))), (7, .int (iI g)), (6, .int (iI m2)), (5, .ref bb), (0, .ref h0), (1, .int (iI t)), (2, .int (iI n1)), (3, .int (iI m1))]) C dX12_unreadable_164 rfl (by decide) rfl ?_
                                    refine x_aload_n (j := 4) C dX12_unreadable_167 rfl ?_
                                    refine x_iload (j := 2) C dX12_unreadable_168 rfl ?_
                                    refine x_put (k := 23) (z := m2) C dX12_unreadable_170 w6_82 (by decide) rfl rfl rfl ?_
                                    have bq2 : BX (va_up vb4 23 m2) ab4 := bxb4.put (k := 23) (z := m2) (show 0 ≤ m2 ∧ m2 ≤ 500 by omega)
                                    have fq9 := fpb4.put (k := 23) (z := m2) rfl
                                    have pw13 : ATS (va_up vb4 23 m2) ab4 := ATS.put hAd (k := 23) (z := m2) (by decide)
                                    refine x_iconst C dX12_unreadable_173 ?_
                                    refine x_istore (lv2 := [(8, .int (iI 0)), (4, .int (iI (tr2 + 1))), (7, .int (iI g)), (6, .int (iI m2)), (5, .ref bb), (0, .ref h0), (1, .int (iI t)), (2, .int (iI n1)), (3, .int (iI m1))]) C dX12_unreadable_174 (by decide) rfl ?_
                                    have Lp5 : ∀ (nn : Nat) (k2 : Int) (vb5 : Nat → Int) (ab5 : Nat → Nat → Int), 7 - k2 < (nn : Int) → BX vb5 ab5 → fr [0, 1, 23, 25, 28, 50, 52, 53, 55, 66] [20, 24, 26, 27, 44, 45, 46, 47, 48, 49, 51, 54, 65, 70] v a vb5 ab5 → (0 ≤ k2 ∧ k2 ≤ m2) → (RWS ab5) → (ATS vb5 ab5) → (0 < vb5 66) → mx p l e (rmq 67 2 262) s m args below meth c G A 9 (MQ below (Qm G A (fun rq Lq Eq => ∃ (vq : Nat → Int) (aq : Nat → Nat → Int), mI G h0 ad ln vq aq Lq Eq ∧ (fun r v2 a2 => ∃ f : Int, r = some (.int (iI f)) ∧ fr [0, 1, 23, 25, 28, 50, 52, 53, 55, 66] [20, 24, 26, 27, 44, 45, 46, 47, 48, 49, 51, 54, 65, 70] v a v2 a2 ∧ BX v2 a2 ∧ (True)) rq vq aq)) args s 2 262 A) bb 6 false h0 ad ln vb5 ab5 ((0 + 1) + 1) ((0 + 256) + 6) 176 [(8, .int (iI k2)), (4, .int (iI (tr2 + 1))), (7, .int (iI g)), (6, .int (iI m2)), (5, .ref bb), (0, .ref h0), (1, .int (iI t)), (2, .int (iI n1)), (3, .int (iI m1))] [] := by
                                      intro nn
                                      induction nn with
                                      | zero =>
                                        intro k2 vb5 ab5 hm bxb5 fpb5 hk2 hRe hAe h66e
                                        exact absurd hm (by omega)
                                      | succ nn ih5 =>
                                        intro k2 vb5 ab5 hm bxb5 fpb5 hk2 hRe hAe h66e
                                        refine x_iload (j := 0) C dX12_unreadable_176 rfl ?_
                                        refine x_iload (j := 3) C dX12_unreadable_178 rfl ?_
                                        refine x_icmp_ge (tgt := 206) C ⟨by omega, by omega⟩ ⟨by omega, by omega⟩ dX12_unreadable_180 (by decide) (fun c8 => ?_) (fun c8 => ?_)
                                        · refine x_aload_n (j := 5) C dX12_unreadable_206 rfl ?_
                                          refine x_iload_n (j := 6) C dX12_unreadable_207 rfl ?_
                                          have rv5 : 0 ≤ vb5 4 ∧ vb5 4 ≤ 30 := bxb5.1 4
                                          have ve3 : vb5 4 = v 4 := fpb5.1 4 rfl
                                          refine x_call (mc2 := 0) (ms2 := 0) (As := [.int (iI t)]) (rest := []) C (M_isUnreadable (t := t) bxb5 (hT.fr fpb5 rfl rfl) hRe (by show 0 ≤ t ∧ t < (vb5 4); omega)) (fun _ _ _ q => by first | exact q.2.1.2 70 rfl | (obtain ⟨_, _, q2, _⟩ := q; exact q2.2 70 rfl)) dX12_unreadable_208 kV_X12_425 rfl ck_13 rfl (Nat.le_of_ble_eq_true rfl) ⟨Nat.le_of_ble_eq_true rfl, Nat.le_of_ble_eq_true rfl⟩ ⟨Nat.le_of_ble_eq_true rfl, Nat.le_of_ble_eq_true rfl⟩ (fun rh10 vh10 ah10 h10 => ?_)
                                          obtain ⟨f8, rfl, fn8, bn8, ex8⟩ := h10
                                          have fq10 := fpb5.call fn8 rfl rfl
                                          have pw14 : RWS ah10 := RWS.fr hRe fn8 rfl
                                          have pw15 : ATS vh10 ah10 := ATS.fr hAe fn8 rfl rfl
                                          have gf8 : f8 = 0 ∨ f8 = 1 := ex8
                                          refine x_st (st2 := [.int (iI f8)]) rfl ?_
                                          refine x_if_eq (tgt := 257) C ⟨by omega, by omega⟩ dX12_unreadable_211 (by decide) (fun c9 => ?_) (fun c9 => ?_)
                                          · refine x_iload (j := 3) C dX12_unreadable_257 rfl ?_
                                            refine x_iconst C dX12_unreadable_259 ?_
                                            refine x_isub C dX12_unreadable_260 ?_
                                            refine x_istore (lv2 := [(8, .int (iI (m2 - 1))), (4, .int (iI (tr2 + 1))), (7, .int (iI g)), (6, .int (iI m2)), (5, .ref bb), (0, .ref h0), (1, .int (iI t)), (2, .int (iI n1)), (3, .int (iI m1))]) C dX12_unreadable_261 (by decide) rfl ?_
                                            have Lp6 : ∀ (nn : Nat) (k4 : Int) (vb6 : Nat → Int) (ab6 : Nat → Nat → Int), k4 + 1 < (nn : Int) → BX vb6 ab6 → fr [0, 1, 23, 25, 28, 50, 52, 53, 55, 66] [20, 24, 26, 27, 44, 45, 46, 47, 48, 49, 51, 54, 65, 70] v a vb6 ab6 → (-1 ≤ k4 ∧ k4 ≤ m2 - 1) → (RWS ab6) → (ATS vb6 ab6) → (0 < vb6 66) → mx p l e (rmq 67 2 262) s m args below meth c G A 9 (MQ below (Qm G A (fun rq Lq Eq => ∃ (vq : Nat → Int) (aq : Nat → Nat → Int), mI G h0 ad ln vq aq Lq Eq ∧ (fun r v2 a2 => ∃ f : Int, r = some (.int (iI f)) ∧ fr [0, 1, 23, 25, 28, 50, 52, 53, 55, 66] [20, 24, 26, 27, 44, 45, 46, 47, 48, 49, 51, 54, 65, 70] v a v2 a2 ∧ BX v2 a2 ∧ (True)) rq vq aq)) args s 2 262 A) bb 6 false h0 ad ln vb6 ab6 ((0 + 1) + 1) ((0 + 256) + 6) 263 [(8, .int (iI k4)), (4, .int (iI (tr2 + 1))), (7, .int (iI g)), (6, .int (iI m2)), (5, .ref bb), (0, .ref h0), (1, .int (iI t)), (2, .int (iI n1)), (3, .int (iI m1))] [] := by
                                              intro nn
                                              induction nn with
                                              | zero =>
                                                intro k4 vb6 ab6 hm bxb6 fpb6 hk4 hRf hAf h66f
                                                exact absurd hm (by omega)
                                              | succ nn ih6 =>
                                                intro k4 vb6 ab6 hm bxb6 fpb6 hk4 hRf hAf h66f
                                                refine x_iload (j := 0) C dX12_unreadable_263 rfl ?_
                                                refine x_if_lt (tgt := 294) C ⟨by omega, by omega⟩ dX12_unreadable_265 (by decide) (fun c10 => ?_) (fun c10 => ?_)
                                                · refine x_iload (j := 0) C dX12_unreadable_294 rfl ?_
                                                  refine x_if_lt (tgt := 303) C ⟨by omega, by omega⟩ dX12_unreadable_296 (by decide) (fun c11 => ?_) (fun c11 => ?_)
                                                  · refine x_iconst C dX12_unreadable_303 ?_
                                                    refine x_istore (lv2 := [(7, .int (iI 0)), (8, .int (iI k4)), (4, .int (iI (tr2 + 1))), (6, .int (iI m2)), (5, .ref bb), (0, .ref h0), (1, .int (iI t)), (2, .int (iI n1)), (3, .int (iI m1))]) C dX12_unreadable_304 (by decide) rfl ?_
                                                    refine x_iload (j := 0) C dX12_unreadable_306 rfl ?_
                                                    refine x_if_eq (tgt := 320) C ⟨by decide, by decide⟩ dX12_unreadable_308 (by decide) (fun _ => ?_) (fun z => absurd z (by omega))
                                                    refine x_goto (tgt := 142) C dX12_unreadable_320 (by decide) ?_
                                                    have rv6 : 0 ≤ vb6 66 ∧ vb6 66 ≤ 256 := bxb6.1 66
                                                    refine x_lv (lv2 := [(7, .int (iI 0)), (4, .int (iI (tr2 + 1))), (6, .int (iI m2)), (5, .ref bb), (0, .ref h0), (1, .int (iI t)), (2, .int (iI n1)), (3, .int (iI m1))]) [0, 2, 3, 4, 5, 6, 7, 8] rfl ?_
                                                    exact ih4  0 (tr2 + 1) _ _ (by omega) bxb6 fpb6 (by omega) (by omega) hRf hAf (by show 0 < (vb6 66); omega)
                                                  · refine x_iconst C dX12_unreadable_299 ?_
                                                    refine x_goto (tgt := 304) C dX12_unreadable_300 (by decide) ?_
                                                    refine x_istore (lv2 := [(7, .int (iI 1)), (8, .int (iI k4)), (4, .int (iI (tr2 + 1))), (6, .int (iI m2)), (5, .ref bb), (0, .ref h0), (1, .int (iI t)), (2, .int (iI n1)), (3, .int (iI m1))]) C dX12_unreadable_304 (by decide) rfl ?_
                                                    refine x_iload (j := 0) C dX12_unreadable_306 rfl ?_
                                                    refine x_if_eq (tgt := 320) C ⟨by decide, by decide⟩ dX12_unreadable_308 (by decide) (fun z => absurd z (by omega)) (fun _ => ?_)
                                                    refine x_aload (j := 4) C dX12_unreadable_311 rfl ?_
                                                    refine x_iload (j := 1) C dX12_unreadable_313 rfl ?_
                                                    refine x_dup2 C dX12_unreadable_315 rfl rfl ?_
                                                    refine x_lald C dX12_unreadable_316 rfl (by omega) (by omega) (by decide) ?_
                                                    have ra1 : (-2147483648) ≤ ab6 70 k4.toNat ∧ ab6 70 k4.toNat ≤ 2147483647 := bxb6.2 70 (k4.toNat)
                                                    have rv7 : 0 ≤ vb6 66 ∧ vb6 66 ≤ 256 := bxb6.1 66
                                                    have at316 : 0 ≤ ab6 70 k4.toNat ∧ (ab6 70 k4.toNat = 0 ∨ ab6 70 k4.toNat < vb6 66) := hAf (k4.toNat)
                                                    refine x_iconst C dX12_unreadable_317 ?_
                                                    refine x_iadd C dX12_unreadable_318 ?_
                                                    refine x_last (w := (ab6 70 k4.toNat) + 1) C dX12_unreadable_319 rfl (by omega) (by omega) (by decide) ?_
                                                    have bq3 : BX vb6 (up2 ab6 70 k4.toNat ((ab6 70 k4.toNat) + 1)) := bxb6.set (k := 70) (i := k4.toNat) (z := (ab6 70 k4.toNat) + 1) (show (-2147483648) ≤ ((ab6 70 k4.toNat) + 1) ∧ ((ab6 70 k4.toNat) + 1) ≤ 2147483647 by omega)
                                                    have fq11 := fpb6.set (k := 70) (i := k4.toNat) (z := (ab6 70 k4.toNat) + 1) rfl
                                                    have pw16 : RWS (up2 ab6 70 k4.toNat ((ab6 70 k4.toNat) + 1)) := RWS.set hRf (k := 70) (i := k4.toNat) (z := (ab6 70 k4.toNat) + 1) rfl
                                                    have pw17 : ATS vb6 (up2 ab6 70 k4.toNat ((ab6 70 k4.toNat) + 1)) := ATS.sto (i := k4.toNat) (z := (ab6 70 k4.toNat) + 1) hAf (by show 0 ≤ ((ab6 70 k4.toNat) + 1) ∧ (((ab6 70 k4.toNat) + 1) = 0 ∨ ((ab6 70 k4.toNat) + 1) < vb6 66); omega)
                                                    refine x_goto (tgt := 142) C dX12_unreadable_320 (by decide) ?_
                                                    refine x_lv (lv2 := [(7, .int (iI 1)), (4, .int (iI (tr2 + 1))), (6, .int (iI m2)), (5, .ref bb), (0, .ref h0), (1, .int (iI t)), (2, .int (iI n1)), (3, .int (iI m1))]) [0, 2, 3, 4, 5, 6, 7, 8] rfl ?_
                                                    exact ih4  1 (tr2 + 1) _ _ (by omega) bq3 fq11 (by omega) (by omega) pw16 pw17 (by show 0 < (vb6 66); omega)
                                                · refine x_aload (j := 4) C dX12_unreadable_268 rfl ?_
                                                  refine x_iload (j := 0) C dX12_unreadable_270 rfl ?_
                                                  refine x_lald C dX12_unreadable_272 rfl (by omega) (by omega) (by decide) ?_
                                                  have ra2 : (-2147483648) ≤ ab6 70 k4.toNat ∧ ab6 70 k4.toNat ≤ 2147483647 := bxb6.2 70 (k4.toNat)
                                                  have rv8 : 0 ≤ vb6 66 ∧ vb6 66 ≤ 256 := bxb6.1 66
                                                  have at272 : 0 ≤ ab6 70 k4.toNat ∧ (ab6 70 k4.toNat = 0 ∨ ab6 70 k4.toNat < vb6 66) := hAf (k4.toNat)
                                                  refine x_aload_n (j := 5) C dX12_unreadable_273 rfl ?_
                                                  refine x_get (k := 66) C dX12_unreadable_274 w6_125 (by decide) rfl ?_
                                                  refine x_iconst C dX12_unreadable_277 ?_
                                                  refine x_isub C dX12_unreadable_278 ?_
                                                  refine x_icmp_ne (tgt := 294) C ⟨by omega, by omega⟩ ⟨by omega, by omega⟩ dX12_unreadable_279 (by decide) (fun c12 => ?_) (fun c12 => ?_)
                                                  · refine x_iload (j := 0) C dX12_unreadable_294 rfl ?_
                                                    refine x_if_lt (tgt := 303) C ⟨by omega, by omega⟩ dX12_unreadable_296 (by decide) (fun c13 => ?_) (fun c13 => ?_)
                                                    · refine x_iconst C dX12_unreadable_303 ?_
                                                      refine x_istore (lv2 := [(7, .int (iI 0)), (8, .int (iI k4)), (4, .int (iI (tr2 + 1))), (6, .int (iI m2)), (5, .ref bb), (0, .ref h0), (1, .int (iI t)), (2, .int (iI n1)), (3, .int (iI m1))]) C dX12_unreadable_304 (by decide) rfl ?_
                                                      refine x_iload (j := 0) C dX12_unreadable_306 rfl ?_
                                                      refine x_if_eq (tgt := 320) C ⟨by decide, by decide⟩ dX12_unreadable_308 (by decide) (fun _ => ?_) (fun z => absurd z (by omega))
                                                      refine x_goto (tgt := 142) C dX12_unreadable_320 (by decide) ?_
                                                      refine x_lv (lv2 := [(7, .int (iI 0)), (4, .int (iI (tr2 + 1))), (6, .int (iI m2)), (5, .ref bb), (0, .ref h0), (1, .int (iI t)), (2, .int (iI n1)), (3, .int (iI m1))]) [0, 2, 3, 4, 5, 6, 7, 8] rfl ?_
                                                      exact ih4  0 (tr2 + 1) _ _ (by omega) bxb6 fpb6 (by omega) (by omega) hRf hAf (by show 0 < (vb6 66); omega)
                                                    · refine x_iconst C dX12_unreadable_299 ?_
                                                      refine x_goto (tgt := 304) C dX12_unreadable_300 (by decide) ?_
                                                      refine x_istore (lv2 := [(7, .int (iI 1)), (8, .int (iI k4)), (4, .int (iI (tr2 + 1))), (6, .int (iI m2)), (5, .ref bb), (0, .ref h0), (1, .int (iI t)), (2, .int (iI n1)), (3, .int (iI m1))]) C dX12_unreadable_304 (by decide) rfl ?_
                                                      refine x_iload (j := 0) C dX12_unreadable_306 rfl ?_
                                                      refine x_if_eq (tgt := 320) C ⟨by decide, by decide⟩ dX12_unreadable_308 (by decide) (fun z => absurd z (by omega)) (fun _ => ?_)
                                                      refine x_aload (j := 4) C dX12_unreadable_311 rfl ?_
                                                      refine x_iload (j := 1) C dX12_unreadable_313 rfl ?_
                                                      refine x_dup2 C dX12_unreadable_315 rfl rfl ?_
                                                      refine x_lald C dX12_unreadable_316 rfl (by omega) (by omega) (by decide) ?_
                                                      have at316 : 0 ≤ ab6 70 k4.toNat ∧ (ab6 70 k4.toNat = 0 ∨ ab6 70 k4.toNat < vb6 66) := hAf (k4.toNat)
                                                      refine x_iconst C dX12_unreadable_317 ?_
                                                      refine x_iadd C dX12_unreadable_318 ?_
                                                      refine x_last (w := (ab6 70 k4.toNat) + 1) C dX12_unreadable_319 rfl (by omega) (by omega) (by decide) ?_
                                                      have bq4 : BX vb6 (up2 ab6 70 k4.toNat ((ab6 70 k4.toNat) + 1)) := bxb6.set (k := 70) (i := k4.toNat) (z := (ab6 70 k4.toNat) + 1) (show (-2147483648) ≤ ((ab6 70 k4.toNat) + 1) ∧ ((ab6 70 k4.toNat) + 1) ≤ 2147483647 by omega)
                                                      have fq12 := fpb6.set (k := 70) (i := k4.toNat) (z := (ab6 70 k4.toNat) + 1) rfl
                                                      have pw18 : RWS (up2 ab6 70 k4.toNat ((ab6 70 k4.toNat) + 1)) := RWS.set hRf (k := 70) (i := k4.toNat) (z := (ab6 70 k4.toNat) + 1) rfl
                                                      have pw19 : ATS vb6 (up2 ab6 70 k4.toNat ((ab6 70 k4.toNat) + 1)) := ATS.sto (i := k4.toNat) (z := (ab6 70 k4.toNat) + 1) hAf (by show 0 ≤ ((ab6 70 k4.toNat) + 1) ∧ (((ab6 70 k4.toNat) + 1) = 0 ∨ ((ab6 70 k4.toNat) + 1) < vb6 66); omega)
                                                      refine x_goto (tgt := 142) C dX12_unreadable_320 (by decide) ?_
                                                      refine x_lv (lv2 := [(7, .int (iI 1)), (4, .int (iI (tr2 + 1))), (6, .int (iI m2)), (5, .ref bb), (0, .ref h0), (1, .int (iI t)), (2, .int (iI n1)), (3, .int (iI m1))]) [0, 2, 3, 4, 5, 6, 7, 8] rfl ?_
                                                      exact ih4  1 (tr2 + 1) _ _ (by omega) bq4 fq12 (by omega) (by omega) pw18 pw19 (by show 0 < (vb6 66); omega)
                                                  · refine x_aload (j := 4) C dX12_unreadable_282 rfl ?_
                                                    refine x_iload (j := 0) C dX12_unreadable_284 rfl ?_
                                                    refine x_iconst C dX12_unreadable_286 ?_
                                                    refine x_last (w := 0) C dX12_unreadable_287 rfl (by omega) (by omega) (by decide) ?_
                                                    have bq5 : BX vb6 (up2 ab6 70 k4.toNat 0) := bxb6.set (k := 70) (i := k4.toNat) (z := 0) ⟨by decide, by decide⟩
                                                    have fq13 := fpb6.set (k := 70) (i := k4.toNat) (z := 0) rfl
                                                    have pw20 : RWS (up2 ab6 70 k4.toNat 0) := RWS.set hRf (k := 70) (i := k4.toNat) (z := 0) rfl
                                                    have pw21 : ATS vb6 (up2 ab6 70 k4.toNat 0) := ATS.sto (i := k4.toNat) (z := 0) hAf (by show 0 ≤ 0 ∧ (0 = 0 ∨ 0 < vb6 66); omega)
                                                    refine x_iinc (z := k4) (j := 0) (lv2 := [(8, .int (iI (k4 + (-1)))), (4, .int (iI (tr2 + 1))), (7, .int (iI g)), (6, .int (iI m2)), (5, .ref bb), (0, .ref h0), (1, .int (iI t)), (2, .int (iI n1)), (3, .int (iI m1))]) C dX12_unreadable_288 rfl (by decide) rfl ?_
                                                    refine x_goto (tgt := 263) C dX12_unreadable_291 (by decide) ?_
                                                    refine x_lv (lv2 := [(8, .int (iI (k4 + (-1)))), (4, .int (iI (tr2 + 1))), (7, .int (iI g)), (6, .int (iI m2)), (5, .ref bb), (0, .ref h0), (1, .int (iI t)), (2, .int (iI n1)), (3, .int (iI m1))]) [0, 1, 2, 3, 4, 5, 6, 7, 8] rfl ?_
                                                    exact ih6  (k4 + (-1)) _ _ (by omega) bq5 fq13 (by omega) pw20 pw21 (by show 0 < (vb6 66); omega)
                                            have rv9 : 0 ≤ vh10 66 ∧ vh10 66 ≤ 256 := bn8.1 66
                                            have ve4 : vh10 66 = vb5 66 := fn8.1 66 rfl
                                            refine x_lv (lv2 := [(8, .int (iI (m2 - 1))), (4, .int (iI (tr2 + 1))), (7, .int (iI g)), (6, .int (iI m2)), (5, .ref bb), (0, .ref h0), (1, .int (iI t)), (2, .int (iI n1)), (3, .int (iI m1))]) [0, 1, 2, 3, 4, 5, 6, 7, 8] rfl ?_
                                            exact Lp6 8 (m2 - 1) _ _ (by omega) bn8 fq10 (by omega) pw14 pw15 (by show 0 < (vh10 66); omega)
                                          · refine x_aload_n (j := 5) C dX12_unreadable_214 rfl ?_
                                            refine x_iload (j := 3) C dX12_unreadable_215 rfl ?_
                                            refine x_put (k := 52) (z := m2) C dX12_unreadable_217 w6_111 (by decide) rfl rfl rfl ?_
                                            have bq6 : BX (va_up vh10 52 m2) ah10 := bn8.put (k := 52) (z := m2) (show 0 ≤ m2 ∧ m2 ≤ 4000 by omega)
                                            have fq14 := fq10.put (k := 52) (z := m2) rfl
                                            have pw22 : ATS (va_up vh10 52 m2) ah10 := ATS.put pw15 (k := 52) (z := m2) (by decide)
                                            refine x_iconst C dX12_unreadable_220 ?_
                                            refine x_istore (lv2 := [(8, .int (iI 0)), (4, .int (iI (tr2 + 1))), (7, .int (iI g)), (6, .int (iI m2)), (5, .ref bb), (0, .ref h0), (1, .int (iI t)), (2, .int (iI n1)), (3, .int (iI m1))]) C dX12_unreadable_221 (by decide) rfl ?_
                                            have Lp7 : ∀ (nn : Nat) (k3 : Int) (vb7 : Nat → Int) (ab7 : Nat → Nat → Int), 7 - k3 < (nn : Int) → BX vb7 ab7 → fr [0, 1, 23, 25, 28, 50, 52, 53, 55, 66] [20, 24, 26, 27, 44, 45, 46, 47, 48, 49, 51, 54, 65, 70] v a vb7 ab7 → (0 ≤ k3 ∧ k3 ≤ m2) → mx p l e (rmq 67 2 262) s m args below meth c G A 9 (MQ below (Qm G A (fun rq Lq Eq => ∃ (vq : Nat → Int) (aq : Nat → Nat → Int), mI G h0 ad ln vq aq Lq Eq ∧ (fun r v2 a2 => ∃ f : Int, r = some (.int (iI f)) ∧ fr [0, 1, 23, 25, 28, 50, 52, 53, 55, 66] [20, 24, 26, 27, 44, 45, 46, 47, 48, 49, 51, 54, 65, 70] v a v2 a2 ∧ BX v2 a2 ∧ (True)) rq vq aq)) args s 2 262 A) bb 6 false h0 ad ln vb7 ab7 ((0 + 1) + 1) ((0 + 256) + 6) 223 [(8, .int (iI k3)), (4, .int (iI (tr2 + 1))), (7, .int (iI g)), (6, .int (iI m2)), (5, .ref bb), (0, .ref h0), (1, .int (iI t)), (2, .int (iI n1)), (3, .int (iI m1))] [] := by
                                              intro nn
                                              induction nn with
                                              | zero =>
                                                intro k3 vb7 ab7 hm bxb7 fpb7 hk3
                                                exact absurd hm (by omega)
                                              | succ nn ih7 =>
                                                intro k3 vb7 ab7 hm bxb7 fpb7 hk3
                                                refine x_iload (j := 0) C dX12_unreadable_223 rfl ?_
                                                refine x_iload (j := 3) C dX12_unreadable_225 rfl ?_
                                                refine x_icmp_ge (tgt := 250) C ⟨by omega, by omega⟩ ⟨by omega, by omega⟩ dX12_unreadable_227 (by decide) (fun c14 => ?_) (fun c14 => ?_)
                                                · refine x_aload_n (j := 5) C dX12_unreadable_250 rfl ?_
                                                  refine x_iload (j := 3) C dX12_unreadable_251 rfl ?_
                                                  refine x_call (mc2 := 0) (ms2 := 0) (As := [.int (iI m2)]) (rest := []) C (B_fine (x := m2) bxb7 (by show -2147483648 ≤ m2 ∧ m2 ≤ 2147483647; omega)) (fun _ _ _ q => by first | exact q.2.1.2 70 rfl | (obtain ⟨_, _, q2, _⟩ := q; exact q2.2 70 rfl)) dX12_unreadable_253 kV_X12_158 rfl ck_13 rfl (Nat.le_of_ble_eq_true rfl) ⟨Nat.le_of_ble_eq_true rfl, Nat.le_of_ble_eq_true rfl⟩ ⟨Nat.le_of_ble_eq_true rfl, Nat.le_of_ble_eq_true rfl⟩ (fun rh11 vh11 ah11 h11 => ?_)
                                                  obtain ⟨f9, rfl, fn9, bn9, ex9⟩ := h11
                                                  have fq15 := fpb7.call fn9 rfl rfl
                                                  have gf9 : f9 = m2 := ex9
                                                  refine x_st (st2 := [.int (iI f9)]) rfl ?_
                                                  exact x_iret C dX12_unreadable_256 rfl (Nat.le_of_ble_eq_true rfl) (Nat.le_of_ble_eq_true rfl) ⟨f9, rfl, fq15, bn9, trivial⟩
                                                · refine x_aload_n (j := 5) C dX12_unreadable_230 rfl ?_
                                                  refine x_geta (k := 51) C dX12_unreadable_231 w6_110 (by decide) rfl ?_
                                                  refine x_iload (j := 0) C dX12_unreadable_234 rfl ?_
                                                  refine x_aload_n (j := 5) C dX12_unreadable_236 rfl ?_
                                                  refine x_geta (k := 20) C dX12_unreadable_237 w6_79 (by decide) rfl ?_
                                                  refine x_iload (j := 0) C dX12_unreadable_240 rfl ?_
                                                  refine x_ald (k := 20) C dX12_unreadable_242 rfl rfl (by decide) (by omega) (by show _ < ((_ : Nat) : Int); simp only [mlen]; omega) (by decide) ?_
                                                  have ra3 : (-2147483648) ≤ ab7 20 k3.toNat ∧ ab7 20 k3.toNat ≤ 2147483647 := bxb7.2 20 (k3.toNat)
                                                  refine x_ast (k := 51) C dX12_unreadable_243 rfl rfl (by decide) (by omega) (by show _ < ((_ : Nat) : Int); simp only [mlen]; omega) (by decide) ?_
                                                  have bq7 : BX vb7 (up2 ab7 51 k3.toNat (ab7 20 k3.toNat)) := bxb7.set (k := 51) (i := k3.toNat) (z := ab7 20 k3.toNat) (show (-2147483648) ≤ (ab7 20 k3.toNat) ∧ (ab7 20 k3.toNat) ≤ 2147483647 by omega)
                                                  have fq16 := fpb7.set (k := 51) (i := k3.toNat) (z := ab7 20 k3.toNat) rfl
                                                  refine x_iinc (z := k3) (j := 0) (lv2 := [(8, .int (iI (k3 + 1))), (4, .int (iI (tr2 + 1))), (7, .int (iI g)), (6, .int (iI m2)), (5, .ref bb), (0, .ref h0), (1, .int (iI t)), (2, .int (iI n1)), (3, .int (iI m1))]) C dX12_unreadable_244 rfl (by decide) rfl ?_
                                                  refine x_goto (tgt := 223) C dX12_unreadable_247 (by decide) ?_
                                                  refine x_lv (lv2 := [(8, .int (iI (k3 + 1))), (4, .int (iI (tr2 + 1))), (7, .int (iI g)), (6, .int (iI m2)), (5, .ref bb), (0, .ref h0), (1, .int (iI t)), (2, .int (iI n1)), (3, .int (iI m1))]) [0, 1, 2, 3, 4, 5, 6, 7, 8] rfl ?_
                                                  exact ih7  (k3 + 1) _ _ (by omega) bq7 fq16 (by omega)
                                            refine x_lv (lv2 := [(8, .int (iI 0)), (4, .int (iI (tr2 + 1))), (7, .int (iI g)), (6, .int (iI m2)), (5, .ref bb), (0, .ref h0), (1, .int (iI t)), (2, .int (iI n1)), (3, .int (iI m1))]) [0, 1, 2, 3, 4, 5, 6, 7, 8] rfl ?_
                                            exact Lp7 8 0 _ _ (by omega) bq6 fq14 (by omega)
                                        · refine x_aload_n (j := 5) C dX12_unreadable_183 rfl ?_
                                          refine x_geta (k := 20) C dX12_unreadable_184 w6_79 (by decide) rfl ?_
                                          refine x_iload (j := 0) C dX12_unreadable_187 rfl ?_
                                          refine x_aload_n (j := 5) C dX12_unreadable_189 rfl ?_
                                          refine x_geta (k := 65) C dX12_unreadable_190 w6_124 (by decide) rfl ?_
                                          refine x_aload (j := 4) C dX12_unreadable_193 rfl ?_
                                          refine x_iload (j := 0) C dX12_unreadable_195 rfl ?_
                                          refine x_lald C dX12_unreadable_197 rfl (by omega) (by omega) (by decide) ?_
                                          have ra4 : (-2147483648) ≤ ab5 70 k2.toNat ∧ ab5 70 k2.toNat ≤ 2147483647 := bxb5.2 70 (k2.toNat)
                                          have rv10 : 0 ≤ vb5 66 ∧ vb5 66 ≤ 256 := bxb5.1 66
                                          have at197 : 0 ≤ ab5 70 k2.toNat ∧ (ab5 70 k2.toNat = 0 ∨ ab5 70 k2.toNat < vb5 66) := hAe (k2.toNat)
                                          refine x_ald (k := 65) C dX12_unreadable_198 rfl rfl (by decide) (by omega) (by show _ < ((_ : Nat) : Int); simp only [mlen]; omega) (by decide) ?_
                                          have ra5 : 0 ≤ ab5 65 (ab5 70 k2.toNat).toNat ∧ ab5 65 (ab5 70 k2.toNat).toNat ≤ 255 := bxb5.2 65 ((ab5 70 k2.toNat).toNat)
                                          refine x_ast (k := 20) C dX12_unreadable_199 rfl rfl (by decide) (by omega) (by show _ < ((_ : Nat) : Int); simp only [mlen]; omega) (by decide) ?_
                                          have bq8 : BX vb5 (up2 ab5 20 k2.toNat (ab5 65 (ab5 70 k2.toNat).toNat)) := bxb5.set (k := 20) (i := k2.toNat) (z := ab5 65 (ab5 70 k2.toNat).toNat) (show (-2147483648) ≤ (ab5 65 (ab5 70 k2.toNat).toNat) ∧ (ab5 65 (ab5 70 k2.toNat).toNat) ≤ 2147483647 by omega)
                                          have fq17 := fpb5.set (k := 20) (i := k2.toNat) (z := ab5 65 (ab5 70 k2.toNat).toNat) rfl
                                          have pw23 : RWS (up2 ab5 20 k2.toNat (ab5 65 (ab5 70 k2.toNat).toNat)) := RWS.set hRe (k := 20) (i := k2.toNat) (z := ab5 65 (ab5 70 k2.toNat).toNat) rfl
                                          have pw24 : ATS vb5 (up2 ab5 20 k2.toNat (ab5 65 (ab5 70 k2.toNat).toNat)) := ATS.set hAe (k := 20) (i := k2.toNat) (z := ab5 65 (ab5 70 k2.toNat).toNat) (by decide)
                                          refine x_iinc (z := k2) (j := 0) (lv2 := [(8, .int (iI (k2 + 1))), (4, .int (iI (tr2 + 1))), (7, .int (iI g)), (6, .int (iI m2)), (5, .ref bb), (0, .ref h0), (1, .int (iI t)), (2, .int (iI n1)), (3, .int (iI m1))]) C dX12_unreadable_200 rfl (by decide) rfl ?_
                                          refine x_goto (tgt := 176) C dX12_unreadable_203 (by decide) ?_
                                          refine x_lv (lv2 := [(8, .int (iI (k2 + 1))), (4, .int (iI (tr2 + 1))), (7, .int (iI g)), (6, .int (iI m2)), (5, .ref bb), (0, .ref h0), (1, .int (iI t)), (2, .int (iI n1)), (3, .int (iI m1))]) [0, 1, 2, 3, 4, 5, 6, 7, 8] rfl ?_
                                          exact ih5  (k2 + 1) _ _ (by omega) bq8 fq17 (by omega) pw23 pw24 (by show 0 < (vb5 66); omega)
                                    have rv11 : 0 ≤ vb4 66 ∧ vb4 66 ≤ 256 := bq2.1 66
                                    refine x_lv (lv2 := [(8, .int (iI 0)), (4, .int (iI (tr2 + 1))), (7, .int (iI g)), (6, .int (iI m2)), (5, .ref bb), (0, .ref h0), (1, .int (iI t)), (2, .int (iI n1)), (3, .int (iI m1))]) [0, 1, 2, 3, 4, 5, 6, 7, 8] rfl ?_
                                    exact Lp5 8 0 _ _ (by omega) bq2 fq9 (by omega) hRd pw13 (by show 0 < (vb4 66); omega)
                                  · refine x_aload_n (j := 4) C dX12_unreadable_153 rfl ?_
                                    refine x_call (mc2 := 0) (ms2 := 0) (As := []) (rest := []) C (B_putBack  bxb4 ) (fun _ _ _ q => by first | exact q.2.1.2 70 rfl | (obtain ⟨_, _, q2, _⟩ := q; exact q2.2 70 rfl)) dX12_unreadable_154 kV_X12_422 rfl ck_13 rfl (Nat.le_of_ble_eq_true rfl) ⟨Nat.le_of_ble_eq_true rfl, Nat.le_of_ble_eq_true rfl⟩ ⟨Nat.le_of_ble_eq_true rfl, Nat.le_of_ble_eq_true rfl⟩ (fun rh12 vh12 ah12 h12 => ?_)
                                    obtain ⟨rfl, fn10, bn10, ex10⟩ := h12
                                    have fq18 := fpb4.call fn10 rfl rfl
                                    have pw25 : RWS ah12 := RWS.fr hRd fn10 rfl
                                    have pw26 : ATS vh12 ah12 := ATS.fr hAd fn10 rfl rfl
                                    refine x_st (st2 := []) rfl ?_
                                    refine x_aload_n (j := 4) C dX12_unreadable_157 rfl ?_
                                    refine x_bipush (z := 8) C dX12_unreadable_158 (by decide) ?_
                                    refine x_call (mc2 := 0) (ms2 := 0) (As := [.int (iI 8)]) (rest := []) C (B_bad (x := 8) bn10 (by show -2147483648 ≤ (8 : Int) ∧ (8 : Int) ≤ 2147483647; omega)) (fun _ _ _ q => by first | exact q.2.1.2 70 rfl | (obtain ⟨_, _, q2, _⟩ := q; exact q2.2 70 rfl)) dX12_unreadable_160 kV_X12_154 rfl ck_13 rfl (Nat.le_of_ble_eq_true rfl) ⟨Nat.le_of_ble_eq_true rfl, Nat.le_of_ble_eq_true rfl⟩ ⟨Nat.le_of_ble_eq_true rfl, Nat.le_of_ble_eq_true rfl⟩ (fun rh13 vh13 ah13 h13 => ?_)
                                    obtain ⟨f11, rfl, fn11, bn11, ex11⟩ := h13
                                    have fq19 := fq18.call fn11 rfl rfl
                                    have pw27 : RWS ah13 := RWS.fr pw25 fn11 rfl
                                    have pw28 : ATS vh13 ah13 := ATS.fr pw26 fn11 rfl rfl
                                    have gf11 : f11 = -1 := ex11
                                    refine x_st (st2 := [.int (iI f11)]) rfl ?_
                                    exact x_iret C dX12_unreadable_163 rfl (Nat.le_of_ble_eq_true rfl) (Nat.le_of_ble_eq_true rfl) ⟨f11, rfl, fq19, bn11, trivial⟩
                            have rv12 : 0 ≤ vb3 66 ∧ vb3 66 ≤ 256 := bxb3.1 66
                            refine x_lv (lv2 := [(7, .int (iI 1)), (4, .int (iI tr)), (6, .int (iI m2)), (5, .ref bb), (0, .ref h0), (1, .int (iI t)), (2, .int (iI n1)), (3, .int (iI m1))]) [0, 2, 1, 3, 4, 5, 6, 7] rfl ?_
                            exact Lp4 5002 1 tr _ _ (by omega) bxb3 fpb3 (by omega) (by omega) hRc hAc (by show 0 < (vb3 66); omega)
                          · refine x_aload (j := 3) C dX12_unreadable_127 rfl ?_
                            refine x_iload (j := 0) C dX12_unreadable_129 rfl ?_
                            refine x_iconst C dX12_unreadable_131 ?_
                            refine x_last (w := 0) C dX12_unreadable_132 rfl (by omega) (by omega) (by decide) ?_
                            have bq9 : BX vb3 (up2 ab3 70 k1.toNat 0) := bxb3.set (k := 70) (i := k1.toNat) (z := 0) ⟨by decide, by decide⟩
                            have fq20 := fpb3.set (k := 70) (i := k1.toNat) (z := 0) rfl
                            have pw29 : RWS (up2 ab3 70 k1.toNat 0) := RWS.set hRc (k := 70) (i := k1.toNat) (z := 0) rfl
                            have rv13 : 0 ≤ vb3 66 ∧ vb3 66 ≤ 256 := bq9.1 66
                            have pw30 : ATS vb3 (up2 ab3 70 k1.toNat 0) := ATS.sto (i := k1.toNat) (z := 0) hAc (by show 0 ≤ 0 ∧ (0 = 0 ∨ 0 < vb3 66); omega)
                            refine x_iinc (z := k1) (j := 0) (lv2 := [(7, .int (iI (k1 + 1))), (6, .int (iI m2)), (4, .int (iI tr)), (5, .ref bb), (0, .ref h0), (1, .int (iI t)), (2, .int (iI n1)), (3, .int (iI m1))]) C dX12_unreadable_133 rfl (by decide) rfl ?_
                            refine x_goto (tgt := 120) C dX12_unreadable_136 (by decide) ?_
                            refine x_lv (lv2 := [(7, .int (iI (k1 + 1))), (6, .int (iI m2)), (4, .int (iI tr)), (5, .ref bb), (0, .ref h0), (1, .int (iI t)), (2, .int (iI n1)), (3, .int (iI m1))]) [0, 1, 2, 3, 4, 5, 6, 7] rfl ?_
                            exact ih3  (k1 + 1) _ _ (by omega) bq9 fq20 (by omega) pw29 pw30 (by show 0 < (vb3 66); omega)
                      refine x_lv (lv2 := [(7, .int (iI 0)), (6, .int (iI m2)), (4, .int (iI tr)), (5, .ref bb), (0, .ref h0), (1, .int (iI t)), (2, .int (iI n1)), (3, .int (iI m1))]) [0, 1, 2, 3, 4, 5, 6, 7] rfl ?_
                      exact Lp3 8 0 _ _ (by omega) bxb2 fpb2 (by omega) hRb hAb (by show 0 < (vb2 66); omega)
              refine x_lv (lv2 := [(6, .int (iI 1)), (4, .int (iI 0)), (5, .ref bb), (0, .ref h0), (1, .int (iI t)), (2, .int (iI n1)), (3, .int (iI m1))]) [0, 2, 1, 3, 4, 5, 6] rfl ?_
              exact Lp2 9 0 1 _ _ (by omega) bnw1 fqw1 (by omega) (by omega) pw3 pw4
            · refine m_aload_n (j := 1) C dX12_unreadable_72 rfl ?_
              refine m_geta (k := 54) C dX12_unreadable_73 w6_113 (by decide) rfl ?_
              refine m_iload (j := 0) C dX12_unreadable_76 rfl ?_
              refine m_aload_n (j := 1) C dX12_unreadable_78 rfl ?_
              refine m_geta (k := 51) C dX12_unreadable_79 w6_110 (by decide) rfl ?_
              refine m_iload (j := 0) C dX12_unreadable_82 rfl ?_
              refine m_ald (k := 51) C dX12_unreadable_84 rfl rfl (by decide) (by omega) (by show _ < ((_ : Nat) : Int); simp only [mlen]; omega) (by decide) ?_
              have ra6 : (-2147483648) ≤ ab1 51 k.toNat ∧ ab1 51 k.toNat ≤ 2147483647 := bxb1.2 51 (k.toNat)
              refine m_ast (k := 54) C dX12_unreadable_85 rfl rfl (by decide) (by omega) (by show _ < ((_ : Nat) : Int); simp only [mlen]; omega) (by decide) ?_
              have bq10 : BX vb1 (up2 ab1 54 k.toNat (ab1 51 k.toNat)) := bxb1.set (k := 54) (i := k.toNat) (z := ab1 51 k.toNat) (show (-2147483648) ≤ (ab1 51 k.toNat) ∧ (ab1 51 k.toNat) ≤ 2147483647 by omega)
              have fq21 := fpb1.set (k := 54) (i := k.toNat) (z := ab1 51 k.toNat) rfl
              have pw31 : RWS (up2 ab1 54 k.toNat (ab1 51 k.toNat)) := RWS.set hRa (k := 54) (i := k.toNat) (z := ab1 51 k.toNat) rfl
              refine m_iinc (z := k) (j := 0) (lv2 := [(4, .int (iI (k + 1))), (0, .ref h0), (1, .int (iI t)), (2, .int (iI n1)), (3, .int (iI m1))]) C dX12_unreadable_86 rfl (by decide) rfl ?_
              refine m_goto (tgt := 63) C dX12_unreadable_89 (by decide) ?_
              refine m_lv (lv2 := [(4, .int (iI (k + 1))), (0, .ref h0), (1, .int (iI t)), (2, .int (iI n1)), (3, .int (iI m1))]) [0, 1, 2, 3, 4] rfl ?_
              exact ih1  (k + 1) _ _ (by omega) bq10 fq21 (by omega) pw31
        refine m_lv (lv2 := [(4, .int (iI 0)), (0, .ref h0), (1, .int (iI t)), (2, .int (iI n1)), (3, .int (iI m1))]) [0, 1, 2, 3, 4] rfl ?_
        exact Lp1 4002 0 _ _ (by omega) bq1 fq4 (by omega) pw2
      · refine m_aload_n (j := 0) C dX12_unreadable_36 rfl ?_
        refine m_iconst C dX12_unreadable_37 ?_
        refine m_call (mc2 := 0) (ms2 := 0) (As := [.int (iI 3)]) (rest := []) C (B_bad (x := 3) hB (by show -2147483648 ≤ (3 : Int) ∧ (3 : Int) ≤ 2147483647; omega)) dX12_unreadable_38 kV_X12_154 rfl ck_13 rfl (Nat.le_of_ble_eq_true rfl) ⟨Nat.le_of_ble_eq_true rfl, Nat.le_of_ble_eq_true rfl⟩ ⟨Nat.le_of_ble_eq_true rfl, Nat.le_of_ble_eq_true rfl⟩ (fun rh14 vh14 ah14 h14 => ?_)
        obtain ⟨f12, rfl, fn12, bn12, ex12⟩ := h14
        have fq22 := fp0.call fn12 rfl rfl
        have pw32 : RWS ah14 := RWS.fr hW fn12 rfl
        have gf12 : f12 = -1 := ex12
        refine m_st (st2 := [.int (iI f12)]) rfl ?_
        exact m_iret C dX12_unreadable_41 rfl (Nat.le_of_ble_eq_true rfl) (Nat.le_of_ble_eq_true rfl) ⟨f12, rfl, fq22, bn12, trivial⟩
    · refine m_st (st2 := [.int (iI 0)]) (by rw [h2e]) ?_
      refine m_if_ne (tgt := 28) C ⟨by decide, by decide⟩ dX12_unreadable_18 (by decide) (fun z => absurd z (by omega)) (fun _ => ?_)
      refine m_aload_n (j := 0) C dX12_unreadable_21 rfl ?_
      refine m_bipush (z := 6) C dX12_unreadable_22 (by decide) ?_
      refine m_call (mc2 := 0) (ms2 := 0) (As := [.int (iI 6)]) (rest := []) C (B_bad (x := 6) hB (by show -2147483648 ≤ (6 : Int) ∧ (6 : Int) ≤ 2147483647; omega)) dX12_unreadable_24 kV_X12_154 rfl ck_13 rfl (Nat.le_of_ble_eq_true rfl) ⟨Nat.le_of_ble_eq_true rfl, Nat.le_of_ble_eq_true rfl⟩ ⟨Nat.le_of_ble_eq_true rfl, Nat.le_of_ble_eq_true rfl⟩ (fun rh15 vh15 ah15 h15 => ?_)
      obtain ⟨f13, rfl, fn13, bn13, ex13⟩ := h15
      have fq23 := fp0.call fn13 rfl rfl
      have pw33 : RWS ah15 := RWS.fr hW fn13 rfl
      have gf13 : f13 = -1 := ex13
      refine m_st (st2 := [.int (iI f13)]) rfl ?_
      exact m_iret C dX12_unreadable_27 rfl (Nat.le_of_ble_eq_true rfl) (Nat.le_of_ble_eq_true rfl) ⟨f13, rfl, fq23, bn13, trivial⟩
  · refine m_st (st2 := [.int (iI 0)]) (by rw [h1e]) ?_
    refine m_if_eq (tgt := 21) C ⟨by decide, by decide⟩ dX12_unreadable_7 (by decide) (fun _ => ?_) (fun z => absurd z (by omega))
    refine m_aload_n (j := 0) C dX12_unreadable_21 rfl ?_
    refine m_bipush (z := 6) C dX12_unreadable_22 (by decide) ?_
    refine m_call (mc2 := 0) (ms2 := 0) (As := [.int (iI 6)]) (rest := []) C (B_bad (x := 6) hB (by show -2147483648 ≤ (6 : Int) ∧ (6 : Int) ≤ 2147483647; omega)) dX12_unreadable_24 kV_X12_154 rfl ck_13 rfl (Nat.le_of_ble_eq_true rfl) ⟨Nat.le_of_ble_eq_true rfl, Nat.le_of_ble_eq_true rfl⟩ ⟨Nat.le_of_ble_eq_true rfl, Nat.le_of_ble_eq_true rfl⟩ (fun rh16 vh16 ah16 h16 => ?_)
    obtain ⟨f14, rfl, fn14, bn14, ex14⟩ := h16
    have fq24 := fp0.call fn14 rfl rfl
    have pw34 : RWS ah16 := RWS.fr hW fn14 rfl
    have gf14 : f14 = -1 := ex14
    refine m_st (st2 := [.int (iI f14)]) rfl ?_
    exact m_iret C dX12_unreadable_27 rfl (Nat.le_of_ble_eq_true rfl) (Nat.le_of_ble_eq_true rfl) ⟨f14, rfl, fq24, bn14, trivial⟩
