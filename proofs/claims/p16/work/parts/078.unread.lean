def ATS (v : Nat → Int) (a : Nat → Nat → Int) : Prop := ∀ j : Nat, 0 ≤ a 70 j ∧ (a 70 j = 0 ∨ a 70 j < v 66)
theorem ATS.put {v : Nat → Int} {a : Nat → Nat → Int} (h : ATS v a) {k : Nat} {z : Int} (hk : k ≠ 66) : ATS (va_up v k z) a := fun j => by rw [va_up_ne _ _ (Ne.symm hk)]; exact h j
theorem ATS.set {v : Nat → Int} {a : Nat → Nat → Int} (h : ATS v a) {k i : Nat} {z : Int} (hk : k ≠ 70) : ATS v (up2 a k i z) := fun j => by rw [up2_k (Ne.symm hk)]; exact h j
theorem ATS.sto {v : Nat → Int} {a : Nat → Nat → Int} (h : ATS v a) {i : Nat} {z : Int} (hz : 0 ≤ z ∧ (z = 0 ∨ z < v 66)) : ATS v (up2 a 70 i z) := fun j => by
  by_cases e : j = i
  · subst e; rw [up2_s]; exact hz
  · rw [up2_j e]; exact h j
theorem ATS.fr {V A : List Nat} {v v2 : Nat → Int} {a a2 : Nat → Nat → Int} (h : ATS v a) (f : fr V A v a v2 a2) (h1 : V.contains 66 = false) (h2 : A.contains 70 = false) : ATS v2 a2 := fun j => by rw [f.1 66 h1, f.2 70 h2]; exact h j
set_option maxHeartbeats 4000000 in
set_option maxRecDepth 100000 in
theorem M_gatherSigns {l : Launch} {G : GT} {h0 : Nat} {ad ln : Nat → Nat} {v : Nat → Int} {a : Nat → Nat → Int} {t : Int} (hB : BX v a) (ht : 0 ≤ t ∧ t < 30) : Mm l G yX12_gatherSigns cX12_gatherSigns 8 none 1 [.int (iI t)] h0 ad ln v a 1 256 (fun r v2 a2 => r = none ∧ fr [66] [65, 70] v a v2 a2 ∧ BX v2 a2 ∧ (True)) := by
  refine Mm.mk (by decide) (Nat.le_of_ble_eq_true rfl) ?_
  intro p e s m args below meth c A C
  have fp0 : fr [66] [65, 70] v a v a := fr.refl
  refine m_sipush (z := 256) C dX12_gatherSigns_0 (by decide) ?_
  refine m_newZ (z := 256) (nb := 256) C dX12_gatherSigns_3 w1_129 ⟨by omega, by omega⟩ rfl ⟨Nat.le_of_ble_eq_true rfl, Nat.le_of_ble_eq_true rfl⟩ hB (fun bb vw1 aw1 fnw1 bnw1 znw1 => ?_)
  have fqw1 := fp0.call fnw1 rfl rfl
  refine x_astore_n (lv2 := [(2, .ref bb), (0, .ref h0), (1, .int (iI t))]) C dX12_gatherSigns_5 (by decide) rfl ?_
  refine x_iconst C dX12_gatherSigns_6 ?_
  refine x_istore_n (lv2 := [(3, .int (iI 0)), (2, .ref bb), (0, .ref h0), (1, .int (iI t))]) C dX12_gatherSigns_7 (by decide) rfl ?_
  have Lp1 : ∀ (nn : Nat) (pt : Int) (vb1 : Nat → Int) (ab1 : Nat → Nat → Int), 3 - pt < (nn : Int) → BX vb1 ab1 → fr [66] [65, 70] v a vb1 ab1 → (0 ≤ pt ∧ pt ≤ 2) → mx p l e (rmq 1 1 256) s m args below meth c G A 8 (MQ below (Qm G A (fun rq Lq Eq => ∃ (vq : Nat → Int) (aq : Nat → Nat → Int), mI G h0 ad ln vq aq Lq Eq ∧ (fun r v2 a2 => r = none ∧ fr [66] [65, 70] v a v2 a2 ∧ BX v2 a2 ∧ (True)) rq vq aq)) args s 1 256 A) bb 256 true h0 ad ln vb1 ab1 (0 + 1) (0 + 256) 8 [(3, .int (iI pt)), (2, .ref bb), (0, .ref h0), (1, .int (iI t))] [] := by
    intro nn
    induction nn with
    | zero =>
      intro pt vb1 ab1 hm bxb1 fpb1 hp
      exact absurd hm (by omega)
    | succ nn ih1 =>
      intro pt vb1 ab1 hm bxb1 fpb1 hp
      refine x_iload_n (j := 0) C dX12_gatherSigns_8 rfl ?_
      refine x_iconst C dX12_gatherSigns_9 ?_
      refine x_icmp_ge (tgt := 120) C (r32_c (lo := 0) (hi := 2) hp.1 hp.2 (by decide) (by decide)) ⟨by decide, by decide⟩ dX12_gatherSigns_10 (by decide) (fun c1 => ?_) (fun c1 => ?_)
      · refine x_aload_n (j := 2) C dX12_gatherSigns_120 rfl ?_
        refine x_geta (k := 6) C dX12_gatherSigns_121 w6_65 (by decide) rfl ?_
        refine x_iload_n (j := 3) C dX12_gatherSigns_124 rfl ?_
        refine x_ald (k := 6) C dX12_gatherSigns_125 rfl rfl (by decide) (by omega) (by show _ < ((_ : Nat) : Int); simp only [mlen]; omega) (by decide) ?_
        refine hv2 (show 0 ≤ ab1 6 t.toNat ∧ ab1 6 t.toNat ≤ 5 from bxb1.2 6 (t.toNat)) (show ab1 6 (t.toNat) = a 6 (t.toNat) from congrFun (fpb1.2 6 rfl) (t.toNat)) (fun ra1 ae1 => ?_)
        refine x_st (st2 := [.int (iI (a 6 t.toNat))]) (congrArg (fun z => Value.int (iI z) :: []) (congrFun (fpb1.2 6 rfl) (t.toNat))) ?_
        refine x_iconst C dX12_gatherSigns_126 ?_
        have J1 : ∀ (vb2 : Nat → Int) (ab2 : Nat → Nat → Int), BX vb2 ab2 → fr [66] [65, 70] v a vb2 ab2 → mx p l e (rmq 1 1 256) s m args below meth c G A 8 (MQ below (Qm G A (fun rq Lq Eq => ∃ (vq : Nat → Int) (aq : Nat → Nat → Int), mI G h0 ad ln vq aq Lq Eq ∧ (fun r v2 a2 => r = none ∧ fr [66] [65, 70] v a v2 a2 ∧ BX v2 a2 ∧ (True)) rq vq aq)) args s 1 256 A) bb 256 true h0 ad ln vb2 ab2 (0 + 1) (0 + 256) 140 [(3, .int (iI pt)), (2, .ref bb), (0, .ref h0), (1, .int (iI t))] [] := by
          intro  vb2 ab2 bxb2 fpb2 
          refine x_aload_n (j := 2) C dX12_gatherSigns_140 rfl ?_
          refine x_iconst C dX12_gatherSigns_141 ?_
          refine x_put (k := 66) (z := 0) C dX12_gatherSigns_142 w6_125 (by decide) rfl rfl rfl ?_
          refine hv2 (show BX (va_up vb2 66 0) ab2 from bxb2.put (k := 66) (z := 0) ⟨by decide, by decide⟩) (fpb2.put (k := 66) (z := 0) rfl) (fun bq1 fq1 => ?_)
          refine x_iconst C dX12_gatherSigns_145 ?_
          refine x_istore_n (lv2 := [(3, .int (iI 0)), (2, .ref bb), (0, .ref h0), (1, .int (iI t))]) C dX12_gatherSigns_146 (by decide) rfl ?_
          have Lp2 : ∀ (nn : Nat) (k1 : Int) (vb3 : Nat → Int) (ab3 : Nat → Nat → Int), 257 - k1 < (nn : Int) → BX vb3 ab3 → fr [66] [65, 70] v a vb3 ab3 → (0 ≤ k1 ∧ k1 ≤ 256) → (vb3 66 ≤ k1) → mx p l e (rmq 1 1 256) s m args below meth c G A 8 (MQ below (Qm G A (fun rq Lq Eq => ∃ (vq : Nat → Int) (aq : Nat → Nat → Int), mI G h0 ad ln vq aq Lq Eq ∧ (fun r v2 a2 => r = none ∧ fr [66] [65, 70] v a v2 a2 ∧ BX v2 a2 ∧ (True)) rq vq aq)) args s 1 256 A) bb 256 true h0 ad ln vb3 ab3 (0 + 1) (0 + 256) 147 [(3, .int (iI k1)), (2, .ref bb), (0, .ref h0), (1, .int (iI t))] [] := by
            intro nn
            induction nn with
            | zero =>
              intro k1 vb3 ab3 hm bxb3 fpb3 hk1 h66
              exact absurd hm (by omega)
            | succ nn ih2 =>
              intro k1 vb3 ab3 hm bxb3 fpb3 hk1 h66
              refine x_iload_n (j := 0) C dX12_gatherSigns_147 rfl ?_
              refine x_sipush (z := 256) C dX12_gatherSigns_148 (by decide) ?_
              refine x_icmp_ge (tgt := 189) C (r32_c (lo := 0) (hi := 256) hk1.1 hk1.2 (by decide) (by decide)) ⟨by decide, by decide⟩ dX12_gatherSigns_151 (by decide) (fun c2 => ?_) (fun c2 => ?_)
              · exact x_vret C dX12_gatherSigns_189 rfl (Nat.le_of_ble_eq_true rfl) (Nat.le_of_ble_eq_true rfl) ⟨rfl, fpb3, bxb3, trivial⟩
              · refine x_aload_n (j := 1) C dX12_gatherSigns_154 rfl ?_
                refine x_iload_n (j := 0) C dX12_gatherSigns_155 rfl ?_
                refine x_lzald C dX12_gatherSigns_156 rfl (by omega) (by omega) (by decide) ?_
                have ra2 : (-2147483648) ≤ ab3 70 k1.toNat ∧ ab3 70 k1.toNat ≤ 2147483647 := bxb3.2 70 (k1.toNat)
                refine x_if_ne (tgt := 163) C (r32_c (lo := (-2147483648)) (hi := 2147483647) ra2.1 ra2.2 (by decide) (by decide)) dX12_gatherSigns_157 (by decide) (fun c3 => ?_) (fun c3 => ?_)
                · refine x_aload_n (j := 2) C dX12_gatherSigns_163 rfl ?_
                  refine x_geta (k := 65) C dX12_gatherSigns_164 w6_124 (by decide) rfl ?_
                  refine x_aload_n (j := 2) C dX12_gatherSigns_167 rfl ?_
                  have rv1 : 0 ≤ vb3 66 ∧ vb3 66 ≤ 256 := bxb3.1 66
                  refine x_get (k := 66) C dX12_gatherSigns_168 w6_125 (by decide) rfl ?_
                  refine x_iload_n (j := 0) C dX12_gatherSigns_171 rfl ?_
                  refine x_ast (k := 65) C dX12_gatherSigns_172 rfl rfl (by decide) (by omega) (by show _ < ((_ : Nat) : Int); simp only [mlen]; omega) (by decide) ?_
                  refine hv2 (show BX vb3 (up2 ab3 65 (vb3 66).toNat k1) from bxb3.set (k := 65) (i := (vb3 66).toNat) (z := k1) (show 0 ≤ k1 ∧ k1 ≤ 255 by omega)) (fpb3.set (k := 65) (i := (vb3 66).toNat) (z := k1) rfl) (fun bq2 fq2 => ?_)
                  refine x_aload_n (j := 2) C dX12_gatherSigns_173 rfl ?_
                  refine x_dup C dX12_gatherSigns_174 rfl ?_
                  refine x_get (k := 66) C dX12_gatherSigns_175 w6_125 (by decide) rfl ?_
                  refine x_iconst C dX12_gatherSigns_178 ?_
                  refine x_iadd C dX12_gatherSigns_179 ?_
                  refine x_put (k := 66) (z := (vb3 66) + 1) C dX12_gatherSigns_180 w6_125 (by decide) rfl rfl rfl ?_
                  refine hv2 (show BX (va_up vb3 66 ((vb3 66) + 1)) (up2 ab3 65 (vb3 66).toNat k1) from bq2.put (k := 66) (z := (vb3 66) + 1) (show 0 ≤ ((vb3 66) + 1) ∧ ((vb3 66) + 1) ≤ 256 by omega)) (fq2.put (k := 66) (z := (vb3 66) + 1) rfl) (fun bq3 fq3 => ?_)
                  refine x_iinc (z := k1) (j := 0) (lv2 := [(3, .int (iI (k1 + 1))), (2, .ref bb), (0, .ref h0), (1, .int (iI t))]) C dX12_gatherSigns_183 rfl (by decide) rfl ?_
                  refine x_goto (tgt := 147) C dX12_gatherSigns_186 (by decide) ?_
                  refine x_lv (lv2 := [(3, .int (iI (k1 + 1))), (2, .ref bb), (0, .ref h0), (1, .int (iI t))]) [0, 1, 2, 3] rfl ?_
                  exact ih2  (k1 + 1) _ _ (by omega) bq3 fq3 (by omega) (by show ((vb3 66) + 1) ≤ (k1 + 1); omega)
                · refine x_goto (tgt := 183) C dX12_gatherSigns_160 (by decide) ?_
                  refine x_iinc (z := k1) (j := 0) (lv2 := [(3, .int (iI (k1 + 1))), (2, .ref bb), (0, .ref h0), (1, .int (iI t))]) C dX12_gatherSigns_183 rfl (by decide) rfl ?_
                  refine x_goto (tgt := 147) C dX12_gatherSigns_186 (by decide) ?_
                  have rv2 : 0 ≤ vb3 66 ∧ vb3 66 ≤ 256 := bxb3.1 66
                  refine x_lv (lv2 := [(3, .int (iI (k1 + 1))), (2, .ref bb), (0, .ref h0), (1, .int (iI t))]) [0, 1, 2, 3] rfl ?_
                  exact ih2  (k1 + 1) _ _ (by omega) bxb3 fpb3 (by omega) (by show (vb3 66) ≤ (k1 + 1); omega)
          refine x_lv (lv2 := [(3, .int (iI 0)), (2, .ref bb), (0, .ref h0), (1, .int (iI t))]) [0, 1, 2, 3] rfl ?_
          exact Lp2 258 0 _ _ (by omega) bq1 fq1 (by omega) (by show 0 ≤ 0; omega)
        refine x_icmp_ne (tgt := 140) C ⟨by omega, by omega⟩ ⟨by decide, by decide⟩ dX12_gatherSigns_127 (by decide) (fun c4 => ?_) (fun c4 => ?_)
        · refine x_lv (lv2 := [(3, .int (iI pt)), (2, .ref bb), (0, .ref h0), (1, .int (iI t))]) [0, 1, 2, 3] rfl ?_
          exact J1   _ _  bxb1 fpb1 
        · refine x_aload_n (j := 1) C dX12_gatherSigns_130 rfl ?_
          refine x_bipush (z := 60) C dX12_gatherSigns_131 (by decide) ?_
          refine x_iconst C dX12_gatherSigns_133 ?_
          refine x_lzast (w := 1) C dX12_gatherSigns_134 rfl (by omega) (by omega) (by decide) (by omega) ?_
          refine hv2 (show BX vb1 (up2 ab1 70 (60 : Int).toNat 1) from bxb1.set (k := 70) (i := (60 : Int).toNat) (z := 1) ⟨by decide, by decide⟩) (fpb1.set (k := 70) (i := (60 : Int).toNat) (z := 1) rfl) (fun bq4 fq4 => ?_)
          refine x_aload_n (j := 1) C dX12_gatherSigns_135 rfl ?_
          refine x_bipush (z := 62) C dX12_gatherSigns_136 (by decide) ?_
          refine x_iconst C dX12_gatherSigns_138 ?_
          refine x_lzast (w := 1) C dX12_gatherSigns_139 rfl (by omega) (by omega) (by decide) (by omega) ?_
          refine hv2 (show BX vb1 (up2 (up2 ab1 70 (60 : Int).toNat 1) 70 (62 : Int).toNat 1) from bq4.set (k := 70) (i := (62 : Int).toNat) (z := 1) ⟨by decide, by decide⟩) (fq4.set (k := 70) (i := (62 : Int).toNat) (z := 1) rfl) (fun bq5 fq5 => ?_)
          refine x_lv (lv2 := [(3, .int (iI pt)), (2, .ref bb), (0, .ref h0), (1, .int (iI t))]) [0, 1, 2, 3] rfl ?_
          exact J1   _ _  bq5 fq5 
      · refine x_sipush (z := 6008) C dX12_gatherSigns_13 (by decide) ?_
        refine x_iload_n (j := 0) C dX12_gatherSigns_16 rfl ?_
        refine x_imul C dX12_gatherSigns_17 ?_
        refine x_istore (lv2 := [(4, .int (iI (6008 * pt))), (3, .int (iI pt)), (2, .ref bb), (0, .ref h0), (1, .int (iI t))]) C dX12_gatherSigns_18 (by decide) rfl ?_
        have Lp3 : ∀ (nn : Nat) (r : Int) (vb4 : Nat → Int) (ab4 : Nat → Nat → Int), 6008 * pt + 6009 - r < (nn : Int) → BX vb4 ab4 → fr [66] [65, 70] v a vb4 ab4 → (6008 * pt ≤ r ∧ r ≤ 6008 * pt + 6008) → mx p l e (rmq 1 1 256) s m args below meth c G A 8 (MQ below (Qm G A (fun rq Lq Eq => ∃ (vq : Nat → Int) (aq : Nat → Nat → Int), mI G h0 ad ln vq aq Lq Eq ∧ (fun r v2 a2 => r = none ∧ fr [66] [65, 70] v a v2 a2 ∧ BX v2 a2 ∧ (True)) rq vq aq)) args s 1 256 A) bb 256 true h0 ad ln vb4 ab4 (0 + 1) (0 + 256) 20 [(4, .int (iI r)), (3, .int (iI pt)), (2, .ref bb), (0, .ref h0), (1, .int (iI t))] [] := by
          intro nn
          induction nn with
          | zero =>
            intro r vb4 ab4 hm bxb4 fpb4 hr
            exact absurd hm (by omega)
          | succ nn ih3 =>
            intro r vb4 ab4 hm bxb4 fpb4 hr
            refine x_iload (j := 0) C dX12_gatherSigns_20 rfl ?_
            refine x_sipush (z := 6008) C dX12_gatherSigns_22 (by decide) ?_
            refine x_iload_n (j := 1) C dX12_gatherSigns_25 rfl ?_
            refine x_imul C dX12_gatherSigns_26 ?_
            refine x_aload_n (j := 3) C dX12_gatherSigns_27 rfl ?_
            refine x_geta (k := 47) C dX12_gatherSigns_28 w6_106 (by decide) rfl ?_
            refine x_iload_n (j := 1) C dX12_gatherSigns_31 rfl ?_
            refine x_ald (k := 47) C dX12_gatherSigns_32 rfl rfl (by decide) (by omega) (by show _ < ((_ : Nat) : Int); simp only [mlen]; omega) (by decide) ?_
            refine hv2 (show 0 ≤ ab4 47 pt.toNat ∧ ab4 47 pt.toNat ≤ 6008 from bxb4.2 47 (pt.toNat)) (show ab4 47 (pt.toNat) = a 47 (pt.toNat) from congrFun (fpb4.2 47 rfl) (pt.toNat)) (fun ra3 ae2 => ?_)
            refine x_st (st2 := [.int (iI (a 47 pt.toNat)), .int (iI (6008 * pt)), .int (iI r)]) (congrArg (fun z => Value.int (iI z) :: [.int (iI (6008 * pt)), .int (iI r)]) (congrFun (fpb4.2 47 rfl) (pt.toNat))) ?_
            refine x_iadd C dX12_gatherSigns_33 ?_
            refine x_icmp_ge (tgt := 114) C ⟨by omega, by omega⟩ ⟨by omega, by omega⟩ dX12_gatherSigns_34 (by decide) (fun c5 => ?_) (fun c5 => ?_)
            · refine x_iinc (z := pt) (j := 1) (lv2 := [(3, .int (iI (pt + 1))), (4, .int (iI r)), (2, .ref bb), (0, .ref h0), (1, .int (iI t))]) C dX12_gatherSigns_114 rfl (by decide) rfl ?_
              refine x_goto (tgt := 8) C dX12_gatherSigns_117 (by decide) ?_
              refine x_lv (lv2 := [(3, .int (iI (pt + 1))), (2, .ref bb), (0, .ref h0), (1, .int (iI t))]) [0, 2, 3, 4] rfl ?_
              exact ih1  (pt + 1) _ _ (by omega) bxb4 fpb4 (by omega)
            · refine x_aload_n (j := 3) C dX12_gatherSigns_37 rfl ?_
              refine x_geta (k := 44) C dX12_gatherSigns_38 w6_103 (by decide) rfl ?_
              refine x_iload (j := 0) C dX12_gatherSigns_41 rfl ?_
              refine x_ald (k := 44) C dX12_gatherSigns_43 rfl rfl (by decide) (by omega) (by show _ < ((_ : Nat) : Int); simp only [mlen]; omega) (by decide) ?_
              refine hv2 (show (-4) ≤ ab4 44 r.toNat ∧ ab4 44 r.toNat ≤ 5999 from bxb4.2 44 (r.toNat)) (show ab4 44 (r.toNat) = a 44 (r.toNat) from congrFun (fpb4.2 44 rfl) (r.toNat)) (fun ra4 ae3 => ?_)
              refine x_st (st2 := [.int (iI (a 44 r.toNat))]) (congrArg (fun z => Value.int (iI z) :: []) (congrFun (fpb4.2 44 rfl) (r.toNat))) ?_
              refine x_istore (lv2 := [(5, .int (iI (a 44 r.toNat))), (4, .int (iI r)), (3, .int (iI pt)), (2, .ref bb), (0, .ref h0), (1, .int (iI t))]) C dX12_gatherSigns_44 (by decide) rfl ?_
              refine x_iconst C dX12_gatherSigns_46 ?_
              refine x_istore (lv2 := [(6, .int (iI 0)), (5, .int (iI (a 44 r.toNat))), (4, .int (iI r)), (3, .int (iI pt)), (2, .ref bb), (0, .ref h0), (1, .int (iI t))]) C dX12_gatherSigns_47 (by decide) rfl ?_
              have Lp4 : ∀ (nn : Nat) (k : Int) (vb5 : Nat → Int) (ab5 : Nat → Nat → Int), 9 - k < (nn : Int) → BX vb5 ab5 → fr [66] [65, 70] v a vb5 ab5 → (0 ≤ k ∧ k ≤ 8) → mx p l e (rmq 1 1 256) s m args below meth c G A 8 (MQ below (Qm G A (fun rq Lq Eq => ∃ (vq : Nat → Int) (aq : Nat → Nat → Int), mI G h0 ad ln vq aq Lq Eq ∧ (fun r v2 a2 => r = none ∧ fr [66] [65, 70] v a v2 a2 ∧ BX v2 a2 ∧ (True)) rq vq aq)) args s 1 256 A) bb 256 true h0 ad ln vb5 ab5 (0 + 1) (0 + 256) 49 [(6, .int (iI k)), (5, .int (iI (a 44 r.toNat))), (4, .int (iI r)), (3, .int (iI pt)), (2, .ref bb), (0, .ref h0), (1, .int (iI t))] [] := by
                intro nn
                induction nn with
                | zero =>
                  intro k vb5 ab5 hm bxb5 fpb5 hk
                  exact absurd hm (by omega)
                | succ nn ih4 =>
                  intro k vb5 ab5 hm bxb5 fpb5 hk
                  refine x_iload (j := 1) C dX12_gatherSigns_49 rfl ?_
                  refine x_if_lt (tgt := 108) C ⟨by omega, by omega⟩ dX12_gatherSigns_51 (by decide) (fun c6 => ?_) (fun c6 => ?_)
                  · refine x_iinc (z := r) (j := 2) (lv2 := [(4, .int (iI (r + 1))), (6, .int (iI k)), (5, .int (iI (a 44 r.toNat))), (3, .int (iI pt)), (2, .ref bb), (0, .ref h0), (1, .int (iI t))]) C dX12_gatherSigns_108 rfl (by decide) rfl ?_
                    refine x_goto (tgt := 20) C dX12_gatherSigns_111 (by decide) ?_
                    refine x_lv (lv2 := [(4, .int (iI (r + 1))), (3, .int (iI pt)), (2, .ref bb), (0, .ref h0), (1, .int (iI t))]) [0, 3, 4, 5, 6] rfl ?_
                    exact ih3  (r + 1) _ _ (by omega) bxb5 fpb5 (by omega)
                  · refine x_iload (j := 0) C dX12_gatherSigns_54 rfl ?_
                    refine x_aload_n (j := 5) C dX12_gatherSigns_56 rfl ?_
                    refine x_geta (k := 12) C dX12_gatherSigns_57 w6_71 (by decide) rfl ?_
                    refine x_iload (j := 1) C dX12_gatherSigns_60 rfl ?_
                    refine x_ald (k := 12) C dX12_gatherSigns_62 rfl rfl (by decide) (by omega) (by show _ < ((_ : Nat) : Int); simp only [mlen]; omega) (by decide) ?_
                    refine hv2 (show 0 ≤ ab5 12 (a 44 r.toNat).toNat ∧ ab5 12 (a 44 r.toNat).toNat ≤ 8 from bxb5.2 12 ((a 44 r.toNat).toNat)) (show ab5 12 ((a 44 r.toNat).toNat) = a 12 ((a 44 r.toNat).toNat) from congrFun (fpb5.2 12 rfl) ((a 44 r.toNat).toNat)) (fun ra5 ae4 => ?_)
                    refine x_st (st2 := [.int (iI (a 12 (a 44 r.toNat).toNat)), .int (iI k)]) (congrArg (fun z => Value.int (iI z) :: [.int (iI k)]) (congrFun (fpb5.2 12 rfl) ((a 44 r.toNat).toNat))) ?_
                    refine x_icmp_ge (tgt := 108) C (r32_c (lo := 0) (hi := 8) hk.1 hk.2 (by decide) (by decide)) ⟨by omega, by omega⟩ dX12_gatherSigns_63 (by decide) (fun c7 => ?_) (fun c7 => ?_)
                    · refine x_iinc (z := r) (j := 2) (lv2 := [(4, .int (iI (r + 1))), (6, .int (iI k)), (5, .int (iI (a 44 r.toNat))), (3, .int (iI pt)), (2, .ref bb), (0, .ref h0), (1, .int (iI t))]) C dX12_gatherSigns_108 rfl (by decide) rfl ?_
                      refine x_goto (tgt := 20) C dX12_gatherSigns_111 (by decide) ?_
                      refine x_lv (lv2 := [(4, .int (iI (r + 1))), (3, .int (iI pt)), (2, .ref bb), (0, .ref h0), (1, .int (iI t))]) [0, 3, 4, 5, 6] rfl ?_
                      exact ih3  (r + 1) _ _ (by omega) bxb5 fpb5 (by omega)
                    · refine x_aload_n (j := 5) C dX12_gatherSigns_66 rfl ?_
                      refine x_geta (k := 14) C dX12_gatherSigns_67 w6_73 (by decide) rfl ?_
                      refine x_bipush (z := 8) C dX12_gatherSigns_70 (by decide) ?_
                      refine x_iload (j := 1) C dX12_gatherSigns_72 rfl ?_
                      refine x_imul C dX12_gatherSigns_74 ?_
                      refine x_iload (j := 0) C dX12_gatherSigns_75 rfl ?_
                      refine x_iadd C dX12_gatherSigns_77 ?_
                      refine x_ald (k := 14) C dX12_gatherSigns_78 rfl rfl (by decide) (by omega) (by show _ < ((_ : Nat) : Int); simp only [mlen]; omega) (by decide) ?_
                      refine hv2 (show 0 ≤ ab5 14 ((8 * (a 44 r.toNat)) + k).toNat ∧ ab5 14 ((8 * (a 44 r.toNat)) + k).toNat ≤ 125 from bxb5.2 14 (((8 * (a 44 r.toNat)) + k).toNat)) (show ab5 14 (((8 * (a 44 r.toNat)) + k).toNat) = a 14 (((8 * (a 44 r.toNat)) + k).toNat) from congrFun (fpb5.2 14 rfl) (((8 * (a 44 r.toNat)) + k).toNat)) (fun ra6 ae5 => ?_)
                      refine x_st (st2 := [.int (iI (a 14 ((8 * (a 44 r.toNat)) + k).toNat))]) (congrArg (fun z => Value.int (iI z) :: []) (congrFun (fpb5.2 14 rfl) (((8 * (a 44 r.toNat)) + k).toNat))) ?_
                      refine x_istore (lv2 := [(7, .int (iI (a 14 ((8 * (a 44 r.toNat)) + k).toNat))), (6, .int (iI k)), (5, .int (iI (a 44 r.toNat))), (4, .int (iI r)), (3, .int (iI pt)), (2, .ref bb), (0, .ref h0), (1, .int (iI t))]) C dX12_gatherSigns_79 (by decide) rfl ?_
                      refine x_aload_n (j := 5) C dX12_gatherSigns_81 rfl ?_
                      refine x_iload (j := 0) C dX12_gatherSigns_82 rfl ?_
                      refine x_iconst C dX12_gatherSigns_84 ?_
                      refine x_lzast (w := 1) C dX12_gatherSigns_85 rfl (by omega) (by omega) (by decide) (by omega) ?_
                      refine hv2 (show BX vb5 (up2 ab5 70 (a 14 ((8 * (a 44 r.toNat)) + k).toNat).toNat 1) from bxb5.set (k := 70) (i := (a 14 ((8 * (a 44 r.toNat)) + k).toNat).toNat) (z := 1) ⟨by decide, by decide⟩) (fpb5.set (k := 70) (i := (a 14 ((8 * (a 44 r.toNat)) + k).toNat).toNat) (z := 1) rfl) (fun bq6 fq6 => ?_)
                      refine x_iload (j := 0) C dX12_gatherSigns_86 rfl ?_
                      refine x_callS (As := [.int (iI (a 14 ((8 * (a 44 r.toNat)) + k).toNat))]) (rest := []) C (fun L E => s_isSmall (iI (a 14 ((8 * (a 44 r.toNat)) + k).toNat))) dX12_gatherSigns_88 kS_X12_208 rfl rfl (Nat.le_of_ble_eq_true rfl) ⟨Nat.le_of_ble_eq_true rfl, Nat.le_of_ble_eq_true rfl⟩ ⟨Nat.le_of_ble_eq_true rfl, Nat.le_of_ble_eq_true rfl⟩ ?_
                      rcases inn_c (x := a 14 ((8 * (a 44 r.toNat)) + k).toNat) (lo := 97) (hi := 122) ⟨by omega, by omega⟩ ⟨by decide, by decide⟩ ⟨by decide, by decide⟩ with ⟨h1a, h1b, h1e⟩ | ⟨h1a, h1e⟩
                      · refine x_st (st2 := [.int (iI 1)]) (by rw [show inn (iI (a 14 ((8 * (a 44 r.toNat)) + k).toNat)) 97 122 = iI 1 from h1e]) ?_
                        refine x_if_eq (tgt := 102) C ⟨by decide, by decide⟩ dX12_gatherSigns_91 (by decide) (fun z => absurd z (by omega)) (fun _ => ?_)
                        refine x_aload_n (j := 5) C dX12_gatherSigns_94 rfl ?_
                        refine x_iload (j := 0) C dX12_gatherSigns_95 rfl ?_
                        refine x_bipush (z := 32) C dX12_gatherSigns_97 (by decide) ?_
                        refine x_isub C dX12_gatherSigns_99 ?_
                        refine x_iconst C dX12_gatherSigns_100 ?_
                        refine x_lzast (w := 1) C dX12_gatherSigns_101 rfl (by omega) (by omega) (by decide) (by omega) ?_
                        refine hv2 (show BX vb5 (up2 (up2 ab5 70 (a 14 ((8 * (a 44 r.toNat)) + k).toNat).toNat 1) 70 ((a 14 ((8 * (a 44 r.toNat)) + k).toNat) - 32).toNat 1) from bq6.set (k := 70) (i := ((a 14 ((8 * (a 44 r.toNat)) + k).toNat) - 32).toNat) (z := 1) ⟨by decide, by decide⟩) (fq6.set (k := 70) (i := ((a 14 ((8 * (a 44 r.toNat)) + k).toNat) - 32).toNat) (z := 1) rfl) (fun bq7 fq7 => ?_)
                        refine x_iinc (z := k) (j := 1) (lv2 := [(6, .int (iI (k + 1))), (7, .int (iI (a 14 ((8 * (a 44 r.toNat)) + k).toNat))), (5, .int (iI (a 44 r.toNat))), (4, .int (iI r)), (3, .int (iI pt)), (2, .ref bb), (0, .ref h0), (1, .int (iI t))]) C dX12_gatherSigns_102 rfl (by decide) rfl ?_
                        refine x_goto (tgt := 49) C dX12_gatherSigns_105 (by decide) ?_
                        refine x_lv (lv2 := [(6, .int (iI (k + 1))), (5, .int (iI (a 44 r.toNat))), (4, .int (iI r)), (3, .int (iI pt)), (2, .ref bb), (0, .ref h0), (1, .int (iI t))]) [0, 2, 3, 4, 5, 6, 7] rfl ?_
                        exact ih4  (k + 1) _ _ (by omega) bq7 fq7 (by omega)
                      · refine x_st (st2 := [.int (iI 0)]) (by rw [show inn (iI (a 14 ((8 * (a 44 r.toNat)) + k).toNat)) 97 122 = iI 0 from h1e]) ?_
                        refine x_if_eq (tgt := 102) C ⟨by decide, by decide⟩ dX12_gatherSigns_91 (by decide) (fun _ => ?_) (fun z => absurd z (by omega))
                        refine x_iinc (z := k) (j := 1) (lv2 := [(6, .int (iI (k + 1))), (7, .int (iI (a 14 ((8 * (a 44 r.toNat)) + k).toNat))), (5, .int (iI (a 44 r.toNat))), (4, .int (iI r)), (3, .int (iI pt)), (2, .ref bb), (0, .ref h0), (1, .int (iI t))]) C dX12_gatherSigns_102 rfl (by decide) rfl ?_
                        refine x_goto (tgt := 49) C dX12_gatherSigns_105 (by decide) ?_
                        refine x_lv (lv2 := [(6, .int (iI (k + 1))), (5, .int (iI (a 44 r.toNat))), (4, .int (iI r)), (3, .int (iI pt)), (2, .ref bb), (0, .ref h0), (1, .int (iI t))]) [0, 2, 3, 4, 5, 6, 7] rfl ?_
                        exact ih4  (k + 1) _ _ (by omega) bq6 fq6 (by omega)
              refine x_lv (lv2 := [(6, .int (iI 0)), (5, .int (iI (a 44 r.toNat))), (4, .int (iI r)), (3, .int (iI pt)), (2, .ref bb), (0, .ref h0), (1, .int (iI t))]) [0, 1, 2, 3, 4, 5, 6] rfl ?_
              exact Lp4 10 0 _ _ (by omega) bxb4 fpb4 (by omega)
        refine x_lv (lv2 := [(4, .int (iI (6008 * pt))), (3, .int (iI pt)), (2, .ref bb), (0, .ref h0), (1, .int (iI t))]) [0, 1, 2, 3, 4] rfl ?_
        exact Lp3 6010 (6008 * pt) _ _ (by omega) bxb1 fpb1 (by omega)
  refine x_lv (lv2 := [(3, .int (iI 0)), (2, .ref bb), (0, .ref h0), (1, .int (iI t))]) [0, 1, 2, 3] rfl ?_
  exact Lp1 4 0 _ _ (by omega) bnw1 fqw1 (by omega)
