section
theorem W_newLine2 {v v2 : Nat → Int} {a a2 : Nat → Nat → Int} {r : Option Value}  (hB : BX v a)  (h : (fun r v2 a2 => ∃ f : Int, r = some (.int (iI f)) ∧ ((f = 1 ∧ v 39 < 200 ∧ v2 = va_up v 39 (v 39 + 1) ∧ a2 = up2 a 37 (v 39).toNat 0) ∨ (f = 0 ∧ v 39 = 200 ∧ v = v2 ∧ a = a2))) r v2 a2) : (fun r v2 a2 => ∃ f : Int, r = some (.int (iI f)) ∧ fr [39] [37] v a v2 a2 ∧ BX v2 a2 ∧ (((f = 1 ∧ v2 39 = v 39 + 1 ∧ a2 37 (v2 39 - 1).toNat = 0) ∨ f = 0) ∧ NLX v a v2 a2 f)) r v2 a2 := by
  obtain ⟨f, rfl, h⟩ := h
  have q39 : 0 ≤ v 39 ∧ v 39 ≤ 200 := hB.1 39
  rcases h with ⟨rfl, h1, rfl, rfl⟩ | ⟨rfl, h1, rfl, rfl⟩
  · refine ⟨1, rfl, ((fr.refl (V := [39]) (A := [37])).put (k := 39) rfl).set (k := 37) rfl, (hB.put (k := 39) (show 0 ≤ v 39 + 1 ∧ v 39 + 1 ≤ 200 by omega)).set (k := 37) (show (0 : Int) ≤ 0 ∧ (0 : Int) ≤ 200 by omega), Or.inl ⟨rfl, rfl, (by rw [show (va_up v 39 (v 39 + 1)) 39 - 1 = v 39 by rw [va_up_self]; omega]; exact up2_s)⟩, fun D hD => ?_⟩
    have e0 := hD.1
    exact Or.inl ⟨rfl, by omega, hD.new rfl (va_up_self _ _ _)⟩
  · refine ⟨0, rfl, fr.refl, hB, Or.inr rfl, fun D hD => ?_⟩
    have e0 := hD.1
    exact Or.inr ⟨rfl, by omega⟩
set_option maxHeartbeats 4000000 in
set_option maxRecDepth 100000 in
theorem E_breakOf {l : Launch} {G : GT} {h0 : Nat} {ad ln : Nat → Nat} {v : Nat → Int} {a : Nat → Nat → Int}  {t q z : Int} (hB : BX v a) (ht : 0 ≤ t ∧ t < 30) (hq : 0 ≤ q ∧ q ≤ 208) (hz : -200 ≤ z ∧ z ≤ 200) : Mm l G yX12_breakOf cX12_breakOf 7 (some .int) 1 [.int (iI t), .int (iI q), .int (iI z)] h0 ad ln v a 0 0 (fun r v2 a2 => ∃ f : Int, r = some (.int (iI f)) ∧ fr [] [] v a v2 a2 ∧ BX v2 a2 ∧ ((f = -1 ∨ (q < f ∧ f ≤ 208 ∧ f - q + 1 ≤ z)) ∧ BRQ v a t q z f)) := by
  refine Mm.mk (by decide) (Nat.le_of_ble_eq_true rfl) ?_
  intro p e s m args below meth c A C
  refine hv2 (show 0 ≤ v 23 ∧ v 23 ≤ 500 from hB.1 23) (show fr [] [] v a v a from fr.refl) (fun r23 fp0 => ?_)
  refine m_iconst C dX12_breakOf_0 ?_
  refine m_istore (lv2 := [(4, .int (iI (-1))), (0, .ref h0), (1, .int (iI t)), (2, .int (iI q)), (3, .int (iI z))]) C dX12_breakOf_1 (by decide) rfl ?_
  refine m_iconst C dX12_breakOf_3 ?_
  refine m_istore (lv2 := [(5, .int (iI 1)), (4, .int (iI (-1))), (0, .ref h0), (1, .int (iI t)), (2, .int (iI q)), (3, .int (iI z))]) C dX12_breakOf_4 (by decide) rfl ?_
  have Lp1 : ∀ (nn : Nat) (w1 k : Int) (vb1 : Nat → Int) (ab1 : Nat → Nat → Int), 502 - k < (nn : Int) → BX vb1 ab1 → fr [] [] v a vb1 ab1 → (w1 = -1 ∨ (q < w1 ∧ w1 ≤ 208 ∧ w1 - q + 1 ≤ z)) → (1 ≤ k ∧ k ≤ 501 ∧ (k = 1 ∨ k ≤ v 23)) → (BRI v a t q z k w1) → mw p l e (rmq 1 0 0) s m args below meth c G A 7 (MQ below (Qm G A (fun rq Lq Eq => ∃ (vq : Nat → Int) (aq : Nat → Nat → Int), mI G h0 ad ln vq aq Lq Eq ∧ (fun r v2 a2 => ∃ f : Int, r = some (.int (iI f)) ∧ fr [] [] v a v2 a2 ∧ BX v2 a2 ∧ ((f = -1 ∨ (q < f ∧ f ≤ 208 ∧ f - q + 1 ≤ z)) ∧ BRQ v a t q z f)) rq vq aq)) args s 0 0 A) h0 ad ln vb1 ab1 0 0 6 [(4, .int (iI w1)), (5, .int (iI k)), (0, .ref h0), (1, .int (iI t)), (2, .int (iI q)), (3, .int (iI z))] [] := by
    intro nn
    induction nn with
    | zero =>
      intro w1 k vb1 ab1 hm bxb1 fpb1 hw hk hI
      obtain ⟨rfl, rfl⟩ := fpb1.eq
      exact absurd hm (by omega)
    | succ nn ih1 =>
      intro w1 k vb1 ab1 hm bxb1 fpb1 hw hk hI
      obtain ⟨rfl, rfl⟩ := fpb1.eq
      refine m_iload (j := 1) C dX12_breakOf_6 rfl ?_
      refine m_aload_n (j := 2) C dX12_breakOf_8 rfl ?_
      have rv1 : 0 ≤ v 23 ∧ v 23 ≤ 500 := bxb1.1 23
      refine m_get (k := 23) C dX12_breakOf_9 w6_82 (by decide) rfl ?_
      refine m_icmp_ge (tgt := 148) C (r32_c (lo := 1) (hi := 501) hk.1 hk.2.1 (by decide) (by decide)) (r32_c (lo := 0) (hi := 500) rv1.1 rv1.2 (by decide) (by decide)) dX12_breakOf_12 (by decide) (fun c1 => ?_) (fun c1 => ?_)
      · refine m_iload (j := 0) C dX12_breakOf_148 rfl ?_
        exact m_iret C dX12_breakOf_150 rfl (Nat.le_of_ble_eq_true rfl) (Nat.le_of_ble_eq_true rfl) ⟨w1, rfl, fpb1, bxb1, ⟨hw, hI.fin (by omega)⟩⟩
      · refine m_aload_n (j := 2) C dX12_breakOf_15 rfl ?_
        refine m_geta (k := 22) C dX12_breakOf_16 w6_81 (by decide) rfl ?_
        refine m_iload (j := 1) C dX12_breakOf_19 rfl ?_
        refine m_zald (k := 22) C dX12_breakOf_21 rfl rfl (by decide) (Int.le_trans (by decide) hk.1) (Int.lt_of_le_of_lt hk.2.1 (by decide)) (by decide) ?_
        have ra1 : 0 ≤ a 22 k.toNat ∧ a 22 k.toNat ≤ 1 := bxb1.2 22 (k.toNat)
        refine m_if_eq (tgt := 142) C (r32_c (lo := 0) (hi := 1) ra1.1 ra1.2 (by decide) (by decide)) dX12_breakOf_22 (by decide) (fun c2 => ?_) (fun c2 => ?_)
        · refine m_iinc (z := k) (j := 1) (lv2 := [(5, .int (iI (k + 1))), (4, .int (iI w1)), (0, .ref h0), (1, .int (iI t)), (2, .int (iI q)), (3, .int (iI z))]) C dX12_breakOf_142 rfl (by decide) rfl ?_
          refine m_goto (tgt := 6) C dX12_breakOf_145 (by decide) ?_
          refine m_lv (lv2 := [(4, .int (iI w1)), (5, .int (iI (k + 1))), (0, .ref h0), (1, .int (iI t)), (2, .int (iI q)), (3, .int (iI z))]) [1, 0, 2, 3, 4, 5] rfl ?_
          exact ih1  w1 (k + 1) _ _ (by omega) bxb1 fpb1 (by omega) (by omega) (hI.miss ⟨by omega, by omega⟩ (fun e => absurd e.1 (by omega)))
        · refine m_aload_n (j := 2) C dX12_breakOf_25 rfl ?_
          refine m_geta (k := 26) C dX12_breakOf_26 w6_85 (by decide) rfl ?_
          refine m_iload (j := 1) C dX12_breakOf_29 rfl ?_
          refine m_ald (k := 26) C dX12_breakOf_31 rfl rfl (by decide) (Int.le_trans (by decide) hk.1) (Int.lt_of_le_of_lt hk.2.1 (by decide)) (by decide) ?_
          have ra2 : (-1) ≤ a 26 k.toNat ∧ a 26 k.toNat ≤ 208 := bxb1.2 26 (k.toNat)
          refine m_iload_n (j := 4) C dX12_breakOf_32 rfl ?_
          refine m_icmp_le (tgt := 142) C (r32_c (lo := (-1)) (hi := 208) ra2.1 ra2.2 (by decide) (by decide)) ⟨by omega, by omega⟩ dX12_breakOf_33 (by decide) (fun c3 => ?_) (fun c3 => ?_)
          · refine m_iinc (z := k) (j := 1) (lv2 := [(5, .int (iI (k + 1))), (4, .int (iI w1)), (0, .ref h0), (1, .int (iI t)), (2, .int (iI q)), (3, .int (iI z))]) C dX12_breakOf_142 rfl (by decide) rfl ?_
            refine m_goto (tgt := 6) C dX12_breakOf_145 (by decide) ?_
            refine m_lv (lv2 := [(4, .int (iI w1)), (5, .int (iI (k + 1))), (0, .ref h0), (1, .int (iI t)), (2, .int (iI q)), (3, .int (iI z))]) [1, 0, 2, 3, 4, 5] rfl ?_
            exact ih1  w1 (k + 1) _ _ (by omega) bxb1 fpb1 (by omega) (by omega) (hI.miss ⟨by omega, by omega⟩ (fun e => absurd e.2.1 (by omega)))
          · refine m_aload_n (j := 2) C dX12_breakOf_36 rfl ?_
            refine m_geta (k := 26) C dX12_breakOf_37 w6_85 (by decide) rfl ?_
            refine m_iload (j := 1) C dX12_breakOf_40 rfl ?_
            refine m_ald (k := 26) C dX12_breakOf_42 rfl rfl (by decide) (Int.le_trans (by decide) hk.1) (Int.lt_of_le_of_lt hk.2.1 (by decide)) (by decide) ?_
            refine m_iload_n (j := 4) C dX12_breakOf_43 rfl ?_
            refine m_isub C dX12_breakOf_44 ?_
            refine m_iconst C dX12_breakOf_45 ?_
            refine m_iadd C dX12_breakOf_46 ?_
            refine m_iload_n (j := 5) C dX12_breakOf_47 rfl ?_
            refine m_icmp_le (tgt := 54) C ⟨by omega, by omega⟩ ⟨by omega, by omega⟩ dX12_breakOf_48 (by decide) (fun c4 => ?_) (fun c4 => ?_)
            · have J1 : ∀ (g : Int) (vb2 : Nat → Int) (ab2 : Nat → Nat → Int), BX vb2 ab2 → fr [] [] v a vb2 ab2 → (g = 0 ∨ g = 1) → (g = 1 ↔ kok (a 6 t.toNat) (v 23) (a 20 (k - 1).toNat) (a 20 k.toNat)) → mw p l e (rmq 1 0 0) s m args below meth c G A 7 (MQ below (Qm G A (fun rq Lq Eq => ∃ (vq : Nat → Int) (aq : Nat → Nat → Int), mI G h0 ad ln vq aq Lq Eq ∧ (fun r v2 a2 => ∃ f : Int, r = some (.int (iI f)) ∧ fr [] [] v a v2 a2 ∧ BX v2 a2 ∧ ((f = -1 ∨ (q < f ∧ f ≤ 208 ∧ f - q + 1 ≤ z)) ∧ BRQ v a t q z f)) rq vq aq)) args s 0 0 A) h0 ad ln vb2 ab2 0 0 128 [(6, .int (iI g)), (4, .int (iI w1)), (5, .int (iI k)), (0, .ref h0), (1, .int (iI t)), (2, .int (iI q)), (3, .int (iI z))] [] := by
                intro g vb2 ab2 bxb2 fpb2 hg hg2
                obtain ⟨rfl, rfl⟩ := fpb2.eq
                refine m_iload (j := 0) C dX12_breakOf_128 rfl ?_
                refine m_if_eq (tgt := 142) C (r32_01 hg) dX12_breakOf_130 (by decide) (fun c5 => ?_) (fun c5 => ?_)
                · clear hg
                  refine m_iinc (z := k) (j := 2) (lv2 := [(5, .int (iI (k + 1))), (6, .int (iI g)), (4, .int (iI w1)), (0, .ref h0), (1, .int (iI t)), (2, .int (iI q)), (3, .int (iI z))]) C dX12_breakOf_142 rfl (by decide) rfl ?_
                  refine m_goto (tgt := 6) C dX12_breakOf_145 (by decide) ?_
                  refine m_lv (lv2 := [(4, .int (iI w1)), (5, .int (iI (k + 1))), (0, .ref h0), (1, .int (iI t)), (2, .int (iI q)), (3, .int (iI z))]) [2, 0, 3, 4, 5, 6] rfl ?_
                  exact ih1  w1 (k + 1) _ _ (by omega) bxb2 fpb2 (by omega) (by omega) (hI.miss ⟨by omega, by omega⟩ (fun e => absurd (hg2.mpr e.2.2.2) (by omega)))
                · replace hg := (hg.resolve_left c5)
                  refine m_aload_n (j := 3) C dX12_breakOf_133 rfl ?_
                  refine m_geta (k := 26) C dX12_breakOf_134 w6_85 (by decide) rfl ?_
                  refine m_iload (j := 2) C dX12_breakOf_137 rfl ?_
                  refine m_ald (k := 26) C dX12_breakOf_139 rfl rfl (by decide) (Int.le_trans (by decide) hk.1) (Int.lt_of_le_of_lt hk.2.1 (by decide)) (by decide) ?_
                  refine m_istore (lv2 := [(4, .int (iI (a 26 k.toNat))), (6, .int (iI g)), (5, .int (iI k)), (0, .ref h0), (1, .int (iI t)), (2, .int (iI q)), (3, .int (iI z))]) C dX12_breakOf_140 (by decide) rfl ?_
                  refine m_iinc (z := k) (j := 2) (lv2 := [(5, .int (iI (k + 1))), (4, .int (iI (a 26 k.toNat))), (6, .int (iI g)), (0, .ref h0), (1, .int (iI t)), (2, .int (iI q)), (3, .int (iI z))]) C dX12_breakOf_142 rfl (by decide) rfl ?_
                  refine m_goto (tgt := 6) C dX12_breakOf_145 (by decide) ?_
                  refine m_lv (lv2 := [(4, .int (iI (a 26 k.toNat))), (5, .int (iI (k + 1))), (0, .ref h0), (1, .int (iI t)), (2, .int (iI q)), (3, .int (iI z))]) [1, 0, 3, 4, 5, 6] rfl ?_
                  exact ih1  (a 26 k.toNat) (k + 1) _ _ (by omega) bxb2 fpb2 (by omega) (by omega) (hI.hit ⟨by omega, by omega⟩ (by omega) (by omega) (by omega) (hg2.mp (by omega)) rfl)
              refine m_aload_n (j := 2) C dX12_breakOf_54 rfl ?_
              refine m_geta (k := 6) C dX12_breakOf_55 w6_65 (by decide) rfl ?_
              refine m_iload_n (j := 3) C dX12_breakOf_58 rfl ?_
              refine m_ald (k := 6) C dX12_breakOf_59 rfl rfl (by decide) (by omega) (by show _ < ((_ : Nat) : Int); simp only [mlen]; omega) (by decide) ?_
              have ra3 : 0 ≤ a 6 t.toNat ∧ a 6 t.toNat ≤ 5 := bxb1.2 6 (t.toNat)
              refine m_iconst C dX12_breakOf_60 ?_
              refine m_icmp_gt (tgt := 125) C (r32_c (lo := 0) (hi := 5) ra3.1 ra3.2 (by decide) (by decide)) ⟨by decide, by decide⟩ dX12_breakOf_61 (by decide) (fun c6 => ?_) (fun c6 => ?_)
              · refine m_iconst C dX12_breakOf_125 ?_
                refine m_istore (lv2 := [(6, .int (iI 0)), (4, .int (iI w1)), (5, .int (iI k)), (0, .ref h0), (1, .int (iI t)), (2, .int (iI q)), (3, .int (iI z))]) C dX12_breakOf_126 (by decide) rfl ?_
                refine m_lv (lv2 := [(6, .int (iI 0)), (4, .int (iI w1)), (5, .int (iI k)), (0, .ref h0), (1, .int (iI t)), (2, .int (iI q)), (3, .int (iI z))]) [0, 1, 2, 3, 4, 5, 6] rfl ?_
                exact J1  0 _ _  bxb1 fpb1 (by omega) (by unfold kok isD; omega)
              · refine m_aload_n (j := 2) C dX12_breakOf_64 rfl ?_
                refine m_geta (k := 6) C dX12_breakOf_65 w6_65 (by decide) rfl ?_
                refine m_iload_n (j := 3) C dX12_breakOf_68 rfl ?_
                refine m_ald (k := 6) C dX12_breakOf_69 rfl rfl (by decide) (by omega) (by show _ < ((_ : Nat) : Int); simp only [mlen]; omega) (by decide) ?_
                refine m_iconst C dX12_breakOf_70 ?_
                refine m_icmp_ne (tgt := 102) C (r32_c (lo := 0) (hi := 5) ra3.1 ra3.2 (by decide) (by decide)) ⟨by decide, by decide⟩ dX12_breakOf_71 (by decide) (fun c7 => ?_) (fun c7 => ?_)
                · refine m_aload_n (j := 2) C dX12_breakOf_102 rfl ?_
                  refine m_geta (k := 6) C dX12_breakOf_103 w6_65 (by decide) rfl ?_
                  refine m_iload_n (j := 3) C dX12_breakOf_106 rfl ?_
                  refine m_ald (k := 6) C dX12_breakOf_107 rfl rfl (by decide) (by omega) (by show _ < ((_ : Nat) : Int); simp only [mlen]; omega) (by decide) ?_
                  refine m_iconst C dX12_breakOf_108 ?_
                  refine m_icmp_ne (tgt := 121) C (r32_c (lo := 0) (hi := 5) ra3.1 ra3.2 (by decide) (by decide)) ⟨by decide, by decide⟩ dX12_breakOf_109 (by decide) (fun c8 => ?_) (fun c8 => ?_)
                  · refine m_iconst C dX12_breakOf_121 ?_
                    refine m_goto (tgt := 126) C dX12_breakOf_122 (by decide) ?_
                    refine m_istore (lv2 := [(6, .int (iI 1)), (4, .int (iI w1)), (5, .int (iI k)), (0, .ref h0), (1, .int (iI t)), (2, .int (iI q)), (3, .int (iI z))]) C dX12_breakOf_126 (by decide) rfl ?_
                    refine m_lv (lv2 := [(6, .int (iI 1)), (4, .int (iI w1)), (5, .int (iI k)), (0, .ref h0), (1, .int (iI t)), (2, .int (iI q)), (3, .int (iI z))]) [0, 1, 2, 3, 4, 5, 6] rfl ?_
                    exact J1  1 _ _  bxb1 fpb1 (by omega) (by unfold kok isD; omega)
                  · refine m_aload_n (j := 2) C dX12_breakOf_112 rfl ?_
                    refine m_get (k := 23) C dX12_breakOf_113 w6_82 (by decide) rfl ?_
                    refine m_bipush (z := 6) C dX12_breakOf_116 (by decide) ?_
                    refine m_icmp_lt (tgt := 125) C (r32_c (lo := 0) (hi := 500) rv1.1 rv1.2 (by decide) (by decide)) ⟨by decide, by decide⟩ dX12_breakOf_118 (by decide) (fun c9 => ?_) (fun c9 => ?_)
                    · refine m_iconst C dX12_breakOf_125 ?_
                      refine m_istore (lv2 := [(6, .int (iI 0)), (4, .int (iI w1)), (5, .int (iI k)), (0, .ref h0), (1, .int (iI t)), (2, .int (iI q)), (3, .int (iI z))]) C dX12_breakOf_126 (by decide) rfl ?_
                      refine m_lv (lv2 := [(6, .int (iI 0)), (4, .int (iI w1)), (5, .int (iI k)), (0, .ref h0), (1, .int (iI t)), (2, .int (iI q)), (3, .int (iI z))]) [0, 1, 2, 3, 4, 5, 6] rfl ?_
                      exact J1  0 _ _  bxb1 fpb1 (by omega) (by unfold kok isD; omega)
                    · refine m_iconst C dX12_breakOf_121 ?_
                      refine m_goto (tgt := 126) C dX12_breakOf_122 (by decide) ?_
                      refine m_istore (lv2 := [(6, .int (iI 1)), (4, .int (iI w1)), (5, .int (iI k)), (0, .ref h0), (1, .int (iI t)), (2, .int (iI q)), (3, .int (iI z))]) C dX12_breakOf_126 (by decide) rfl ?_
                      refine m_lv (lv2 := [(6, .int (iI 1)), (4, .int (iI w1)), (5, .int (iI k)), (0, .ref h0), (1, .int (iI t)), (2, .int (iI q)), (3, .int (iI z))]) [0, 1, 2, 3, 4, 5, 6] rfl ?_
                      exact J1  1 _ _  bxb1 fpb1 (by omega) (by unfold kok isD; omega)
                · refine m_aload_n (j := 2) C dX12_breakOf_74 rfl ?_
                  refine m_geta (k := 20) C dX12_breakOf_75 w6_79 (by decide) rfl ?_
                  refine m_iload (j := 1) C dX12_breakOf_78 rfl ?_
                  refine m_iconst C dX12_breakOf_80 ?_
                  refine m_isub C dX12_breakOf_81 ?_
                  refine m_ald (k := 20) C dX12_breakOf_82 rfl rfl (by decide) (by omega) (by show _ < ((_ : Nat) : Int); simp only [mlen]; omega) (by decide) ?_
                  have ra4 : (-2147483648) ≤ a 20 (k - 1).toNat ∧ a 20 (k - 1).toNat ≤ 2147483647 := bxb1.2 20 ((k - 1).toNat)
                  refine m_callS (As := [.int (iI (a 20 (k - 1).toNat))]) (rest := []) C (fun L E => s_isDigit (iI (a 20 (k - 1).toNat))) dX12_breakOf_83 kS_X12_202 rfl rfl (Nat.le_of_ble_eq_true rfl) ⟨Nat.le_of_ble_eq_true rfl, Nat.le_of_ble_eq_true rfl⟩ ⟨Nat.le_of_ble_eq_true rfl, Nat.le_of_ble_eq_true rfl⟩ ?_
                  rcases inn_c (x := a 20 (k - 1).toNat) (lo := 48) (hi := 57) (r32_c (lo := (-2147483648)) (hi := 2147483647) ra4.1 ra4.2 (by decide) (by decide)) ⟨by decide, by decide⟩ ⟨by decide, by decide⟩ with ⟨h1a, h1b, h1e⟩ | ⟨h1a, h1e⟩
                  · refine m_st (st2 := [.int (iI 1)]) (by rw [show inn (iI (a 20 (k - 1).toNat)) 48 57 = iI 1 from h1e]) ?_
                    refine m_if_ne (tgt := 125) C ⟨by decide, by decide⟩ dX12_breakOf_86 (by decide) (fun _ => ?_) (fun z => absurd z (by omega))
                    refine m_iconst C dX12_breakOf_125 ?_
                    refine m_istore (lv2 := [(6, .int (iI 0)), (4, .int (iI w1)), (5, .int (iI k)), (0, .ref h0), (1, .int (iI t)), (2, .int (iI q)), (3, .int (iI z))]) C dX12_breakOf_126 (by decide) rfl ?_
                    refine m_lv (lv2 := [(6, .int (iI 0)), (4, .int (iI w1)), (5, .int (iI k)), (0, .ref h0), (1, .int (iI t)), (2, .int (iI q)), (3, .int (iI z))]) [0, 1, 2, 3, 4, 5, 6] rfl ?_
                    exact J1  0 _ _  bxb1 fpb1 (by omega) (by unfold kok isD; omega)
                  · refine m_st (st2 := [.int (iI 0)]) (by rw [show inn (iI (a 20 (k - 1).toNat)) 48 57 = iI 0 from h1e]) ?_
                    refine m_if_ne (tgt := 125) C ⟨by decide, by decide⟩ dX12_breakOf_86 (by decide) (fun z => absurd z (by omega)) (fun _ => ?_)
                    refine m_aload_n (j := 2) C dX12_breakOf_89 rfl ?_
                    refine m_geta (k := 20) C dX12_breakOf_90 w6_79 (by decide) rfl ?_
                    refine m_iload (j := 1) C dX12_breakOf_93 rfl ?_
                    refine m_ald (k := 20) C dX12_breakOf_95 rfl rfl (by decide) (Int.le_trans (by decide) hk.1) (Int.lt_of_le_of_lt hk.2.1 (by decide)) (by decide) ?_
                    have ra5 : (-2147483648) ≤ a 20 k.toNat ∧ a 20 k.toNat ≤ 2147483647 := bxb1.2 20 (k.toNat)
                    refine m_callS (As := [.int (iI (a 20 k.toNat))]) (rest := []) C (fun L E => s_isDigit (iI (a 20 k.toNat))) dX12_breakOf_96 kS_X12_202 rfl rfl (Nat.le_of_ble_eq_true rfl) ⟨Nat.le_of_ble_eq_true rfl, Nat.le_of_ble_eq_true rfl⟩ ⟨Nat.le_of_ble_eq_true rfl, Nat.le_of_ble_eq_true rfl⟩ ?_
                    rcases inn_c (x := a 20 k.toNat) (lo := 48) (hi := 57) (r32_c (lo := (-2147483648)) (hi := 2147483647) ra5.1 ra5.2 (by decide) (by decide)) ⟨by decide, by decide⟩ ⟨by decide, by decide⟩ with ⟨h2a, h2b, h2e⟩ | ⟨h2a, h2e⟩
                    · refine m_st (st2 := [.int (iI 1)]) (by rw [show inn (iI (a 20 k.toNat)) 48 57 = iI 1 from h2e]) ?_
                      refine m_if_ne (tgt := 125) C ⟨by decide, by decide⟩ dX12_breakOf_99 (by decide) (fun _ => ?_) (fun z => absurd z (by omega))
                      refine m_iconst C dX12_breakOf_125 ?_
                      refine m_istore (lv2 := [(6, .int (iI 0)), (4, .int (iI w1)), (5, .int (iI k)), (0, .ref h0), (1, .int (iI t)), (2, .int (iI q)), (3, .int (iI z))]) C dX12_breakOf_126 (by decide) rfl ?_
                      refine m_lv (lv2 := [(6, .int (iI 0)), (4, .int (iI w1)), (5, .int (iI k)), (0, .ref h0), (1, .int (iI t)), (2, .int (iI q)), (3, .int (iI z))]) [0, 1, 2, 3, 4, 5, 6] rfl ?_
                      exact J1  0 _ _  bxb1 fpb1 (by omega) (by unfold kok isD; omega)
                    · refine m_st (st2 := [.int (iI 0)]) (by rw [show inn (iI (a 20 k.toNat)) 48 57 = iI 0 from h2e]) ?_
                      refine m_if_ne (tgt := 125) C ⟨by decide, by decide⟩ dX12_breakOf_99 (by decide) (fun z => absurd z (by omega)) (fun _ => ?_)
                      refine m_aload_n (j := 2) C dX12_breakOf_102 rfl ?_
                      refine m_geta (k := 6) C dX12_breakOf_103 w6_65 (by decide) rfl ?_
                      refine m_iload_n (j := 3) C dX12_breakOf_106 rfl ?_
                      refine m_ald (k := 6) C dX12_breakOf_107 rfl rfl (by decide) (by omega) (by show _ < ((_ : Nat) : Int); simp only [mlen]; omega) (by decide) ?_
                      refine m_iconst C dX12_breakOf_108 ?_
                      refine m_icmp_ne (tgt := 121) C (r32_c (lo := 0) (hi := 5) ra3.1 ra3.2 (by decide) (by decide)) ⟨by decide, by decide⟩ dX12_breakOf_109 (by decide) (fun c10 => ?_) (fun c10 => ?_)
                      · refine m_iconst C dX12_breakOf_121 ?_
                        refine m_goto (tgt := 126) C dX12_breakOf_122 (by decide) ?_
                        refine m_istore (lv2 := [(6, .int (iI 1)), (4, .int (iI w1)), (5, .int (iI k)), (0, .ref h0), (1, .int (iI t)), (2, .int (iI q)), (3, .int (iI z))]) C dX12_breakOf_126 (by decide) rfl ?_
                        refine m_lv (lv2 := [(6, .int (iI 1)), (4, .int (iI w1)), (5, .int (iI k)), (0, .ref h0), (1, .int (iI t)), (2, .int (iI q)), (3, .int (iI z))]) [0, 1, 2, 3, 4, 5, 6] rfl ?_
                        exact J1  1 _ _  bxb1 fpb1 (by omega) (by unfold kok isD; omega)
                      · refine m_aload_n (j := 2) C dX12_breakOf_112 rfl ?_
                        refine m_get (k := 23) C dX12_breakOf_113 w6_82 (by decide) rfl ?_
                        refine m_bipush (z := 6) C dX12_breakOf_116 (by decide) ?_
                        refine m_icmp_lt (tgt := 125) C (r32_c (lo := 0) (hi := 500) rv1.1 rv1.2 (by decide) (by decide)) ⟨by decide, by decide⟩ dX12_breakOf_118 (by decide) (fun c11 => ?_) (fun c11 => ?_)
                        · refine m_iconst C dX12_breakOf_125 ?_
                          refine m_istore (lv2 := [(6, .int (iI 0)), (4, .int (iI w1)), (5, .int (iI k)), (0, .ref h0), (1, .int (iI t)), (2, .int (iI q)), (3, .int (iI z))]) C dX12_breakOf_126 (by decide) rfl ?_
                          refine m_lv (lv2 := [(6, .int (iI 0)), (4, .int (iI w1)), (5, .int (iI k)), (0, .ref h0), (1, .int (iI t)), (2, .int (iI q)), (3, .int (iI z))]) [0, 1, 2, 3, 4, 5, 6] rfl ?_
                          exact J1  0 _ _  bxb1 fpb1 (by omega) (by unfold kok isD; omega)
                        · refine m_iconst C dX12_breakOf_121 ?_
                          refine m_goto (tgt := 126) C dX12_breakOf_122 (by decide) ?_
                          refine m_istore (lv2 := [(6, .int (iI 1)), (4, .int (iI w1)), (5, .int (iI k)), (0, .ref h0), (1, .int (iI t)), (2, .int (iI q)), (3, .int (iI z))]) C dX12_breakOf_126 (by decide) rfl ?_
                          refine m_lv (lv2 := [(6, .int (iI 1)), (4, .int (iI w1)), (5, .int (iI k)), (0, .ref h0), (1, .int (iI t)), (2, .int (iI q)), (3, .int (iI z))]) [0, 1, 2, 3, 4, 5, 6] rfl ?_
                          exact J1  1 _ _  bxb1 fpb1 (by omega) (by unfold kok isD; omega)
            · refine m_goto (tgt := 142) C dX12_breakOf_51 (by decide) ?_
              refine m_iinc (z := k) (j := 1) (lv2 := [(5, .int (iI (k + 1))), (4, .int (iI w1)), (0, .ref h0), (1, .int (iI t)), (2, .int (iI q)), (3, .int (iI z))]) C dX12_breakOf_142 rfl (by decide) rfl ?_
              refine m_goto (tgt := 6) C dX12_breakOf_145 (by decide) ?_
              refine m_lv (lv2 := [(4, .int (iI w1)), (5, .int (iI (k + 1))), (0, .ref h0), (1, .int (iI t)), (2, .int (iI q)), (3, .int (iI z))]) [1, 0, 2, 3, 4, 5] rfl ?_
              exact ih1  w1 (k + 1) _ _ (by omega) bxb1 fpb1 (by omega) (by omega) (hI.miss ⟨by omega, by omega⟩ (fun e => absurd e.2.2.1 (by omega)))
  refine m_lv (lv2 := [(4, .int (iI (-1))), (5, .int (iI 1)), (0, .ref h0), (1, .int (iI t)), (2, .int (iI q)), (3, .int (iI z))]) [1, 0, 2, 3, 4, 5] rfl ?_
  exact Lp1 503 (-1) 1 _ _ (by omega) hB fp0 (by omega) (by omega) BRI.init
set_option maxHeartbeats 4000000 in
set_option maxRecDepth 100000 in
theorem E_flow {l : Launch} {G : GT} {h0 : Nat} {ad ln : Nat → Nat} {v : Nat → Int} {a : Nat → Nat → Int}  {t : Int} (hB : BX v a) (ht : 0 ≤ t ∧ t < 30) (h39 : 1 ≤ v 39) (h25 : 1 ≤ v 25 ∧ v 25 ≤ 200) : Mm l G yX12_flow cX12_flow 7 (some .boolean) 2 [.int (iI t)] h0 ad ln v a 0 0 (fun r v2 a2 => ∃ f : Int, r = some (.int (iI f)) ∧ fr [39] [37, 38] v a v2 a2 ∧ BX v2 a2 ∧ ((f = 0 ∨ (f = 1 ∧ 1 ≤ v2 39)) ∧ FLT v a v2 a2 t f)) := by
  refine Mm.mk (by decide) (Nat.le_of_ble_eq_true rfl) ?_
  intro p e s m args below meth c A C
  refine hv2 (show 1 ≤ v 31 ∧ v 31 ≤ 100 from hB.1 31) (show fr [39] [37, 38] v a v a from fr.refl) (fun r31 fp0 => ?_)
  refine m_iconst C dX12_flow_0 ?_
  refine m_istore_n (lv2 := [(2, .int (iI 0)), (0, .ref h0), (1, .int (iI t))]) C dX12_flow_1 (by decide) rfl ?_
  have Lp1 : ∀ (nn : Nat) (x : Int) (vb1 : Nat → Int) (ab1 : Nat → Nat → Int), 201 - vb1 39 < (nn : Int) → BX vb1 ab1 → fr [39] [37, 38] v a vb1 ab1 → (0 ≤ x ∧ x < v 25) → (1 ≤ vb1 39 ∧ vb1 39 ≤ 200) → (FL2 v a vb1 ab1 t x) → mw p l e (rmq 2 0 0) s m args below meth c G A 7 (MQ below (Qm G A (fun rq Lq Eq => ∃ (vq : Nat → Int) (aq : Nat → Nat → Int), mI G h0 ad ln vq aq Lq Eq ∧ (fun r v2 a2 => ∃ f : Int, r = some (.int (iI f)) ∧ fr [39] [37, 38] v a v2 a2 ∧ BX v2 a2 ∧ ((f = 0 ∨ (f = 1 ∧ 1 ≤ v2 39)) ∧ FLT v a v2 a2 t f)) rq vq aq)) args s 0 0 A) h0 ad ln vb1 ab1 0 0 2 [(2, .int (iI x)), (0, .ref h0), (1, .int (iI t))] [] := by
    intro nn
    induction nn with
    | zero =>
      intro x vb1 ab1 hm bxb1 fpb1 hx hn hI
      exact absurd hm (by omega)
    | succ nn ih1 =>
      intro x vb1 ab1 hm bxb1 fpb1 hx hn hI
      refine m_iload_n (j := 0) C dX12_flow_2 rfl ?_
      refine m_aload_n (j := 1) C dX12_flow_3 rfl ?_
      refine hv2 (show 0 ≤ vb1 25 ∧ vb1 25 ≤ 208 from bxb1.1 25) (show vb1 25 = v 25 from fpb1.1 25 rfl) (fun rv1 ve1 => ?_)
      refine m_get (k := 25) C dX12_flow_4 w6_84 (by decide) rfl ?_
      refine m_st (st2 := [.int (iI (v 25)), .int (iI x)]) (congrArg (fun z => Value.int (iI z) :: [.int (iI x)]) (fpb1.1 25 rfl)) ?_
      refine m_icmp_ge (tgt := 164) C ⟨by omega, by omega⟩ (r32_c (lo := 0) (hi := 208) (Int.le_trans rv1.1 (Int.le_of_eq ve1)) (Int.le_trans (Int.le_of_eq ve1.symm) rv1.2) (by decide) (by decide)) dX12_flow_7 (by decide) (fun c1 => ?_) (fun c1 => ?_)
      · refine m_iconst C dX12_flow_164 ?_
        exact m_zret C dX12_flow_165 rfl (Or.inr rfl) (Nat.le_of_ble_eq_true rfl) (Nat.le_of_ble_eq_true rfl) ⟨1, rfl, fpb1, bxb1, ⟨(Or.inr ⟨rfl, by show 1 ≤ vb1 39; omega⟩), absurd hx.2 (by omega)⟩⟩
      · refine m_aload_n (j := 1) C dX12_flow_10 rfl ?_
        refine m_geta (k := 37) C dX12_flow_11 w6_96 (by decide) rfl ?_
        refine m_aload_n (j := 1) C dX12_flow_14 rfl ?_
        have rv2 : 0 ≤ vb1 39 ∧ vb1 39 ≤ 200 := bxb1.1 39
        refine m_get (k := 39) C dX12_flow_15 w6_98 (by decide) rfl ?_
        refine m_iconst C dX12_flow_18 ?_
        refine m_isub C dX12_flow_19 ?_
        refine m_ald (k := 37) C dX12_flow_20 rfl rfl (by decide) (by omega) (by show _ < ((_ : Nat) : Int); simp only [mlen]; omega) (by decide) ?_
        have ra1 : 0 ≤ ab1 37 ((vb1 39) - 1).toNat ∧ ab1 37 ((vb1 39) - 1).toNat ≤ 200 := bxb1.2 37 (((vb1 39) - 1).toNat)
        refine m_istore_n (lv2 := [(3, .int (iI (ab1 37 ((vb1 39) - 1).toNat))), (2, .int (iI x)), (0, .ref h0), (1, .int (iI t))]) C dX12_flow_21 (by decide) rfl ?_
        have J1 : ∀ (h1 z1 : Int) (vb2 : Nat → Int) (ab2 : Nat → Nat → Int), BX vb2 ab2 → fr [39] [37, 38] v a vb2 ab2 → (0 ≤ h1 ∧ h1 ≤ 200 ∧ ((h1 = 0 ∧ z1 = v 31) ∨ (0 < h1 ∧ z1 = v 31 - (h1 + 1)))) → (vb2 39 = vb1 39) → (ab2 37 (vb2 39 - 1).toNat = h1) → (FL2 v a vb2 ab2 t x) → mw p l e (rmq 2 0 0) s m args below meth c G A 7 (MQ below (Qm G A (fun rq Lq Eq => ∃ (vq : Nat → Int) (aq : Nat → Nat → Int), mI G h0 ad ln vq aq Lq Eq ∧ (fun r v2 a2 => ∃ f : Int, r = some (.int (iI f)) ∧ fr [39] [37, 38] v a v2 a2 ∧ BX v2 a2 ∧ ((f = 0 ∨ (f = 1 ∧ 1 ≤ v2 39)) ∧ FLT v a v2 a2 t f)) rq vq aq)) args s 0 0 A) h0 ad ln vb2 ab2 0 0 40 [(4, .int (iI z1)), (3, .int (iI h1)), (2, .int (iI x)), (0, .ref h0), (1, .int (iI t))] [] := by
          intro h1 z1 vb2 ab2 bxb2 fpb2 hh hn1 hh1 hI40
          have J2 : ∀ (y : Int) (vb3 : Nat → Int) (ab3 : Nat → Nat → Int), BX vb3 ab3 → fr [39] [37, 38] v a vb3 ab3 → (y = -1 ∨ (y = v 25 ∧ v 25 - x ≤ z1) ∨ (x < y ∧ y ≤ 208 ∧ y - x + 1 ≤ z1)) → (vb3 39 = vb1 39) → (ab3 37 (vb3 39 - 1).toNat = h1) → (FL2 v a vb3 ab3 t x) → ((v 25 - x ≤ z1 ∧ y = v 25) ∨ (z1 < v 25 - x ∧ BRQ v a t x z1 y)) → mw p l e (rmq 2 0 0) s m args below meth c G A 7 (MQ below (Qm G A (fun rq Lq Eq => ∃ (vq : Nat → Int) (aq : Nat → Nat → Int), mI G h0 ad ln vq aq Lq Eq ∧ (fun r v2 a2 => ∃ f : Int, r = some (.int (iI f)) ∧ fr [39] [37, 38] v a v2 a2 ∧ BX v2 a2 ∧ ((f = 0 ∨ (f = 1 ∧ 1 ≤ v2 39)) ∧ FLT v a v2 a2 t f)) rq vq aq)) args s 0 0 A) h0 ad ln vb3 ab3 0 0 68 [(5, .int (iI y)), (4, .int (iI z1)), (3, .int (iI h1)), (2, .int (iI x)), (0, .ref h0), (1, .int (iI t))] [] := by
            intro y vb3 ab3 bxb3 fpb3 hy hn2 hh2 hI68 hyx
            have J3 : ∀ (y1 : Int) (vb4 : Nat → Int) (ab4 : Nat → Nat → Int), BX vb4 ab4 → fr [39] [37, 38] v a vb4 ab4 → ((h1 = 0 ∧ y1 = v 25) ∨ (y1 = v 25 ∧ v 25 - x ≤ z1) ∨ (x < y1 ∧ y1 ≤ 208 ∧ y1 - x + 1 ≤ z1)) → (vb4 39 = vb1 39) → (ab4 37 (vb4 39 - 1).toNat = h1) → (FL2 v a vb4 ab4 t x) → ((v 25 - x ≤ z1 ∧ y1 = v 25) ∨ (z1 < v 25 - x ∧ ((h1 = 0 ∧ y1 = v 25 ∧ BRQ v a t x z1 (-1)) ∨ (0 ≤ y1 ∧ BRQ v a t x z1 y1)))) → mw p l e (rmq 2 0 0) s m args below meth c G A 7 (MQ below (Qm G A (fun rq Lq Eq => ∃ (vq : Nat → Int) (aq : Nat → Nat → Int), mI G h0 ad ln vq aq Lq Eq ∧ (fun r v2 a2 => ∃ f : Int, r = some (.int (iI f)) ∧ fr [39] [37, 38] v a v2 a2 ∧ BX v2 a2 ∧ ((f = 0 ∨ (f = 1 ∧ 1 ≤ v2 39)) ∧ FLT v a v2 a2 t f)) rq vq aq)) args s 0 0 A) h0 ad ln vb4 ab4 0 0 88 [(5, .int (iI y1)), (4, .int (iI z1)), (3, .int (iI h1)), (2, .int (iI x)), (0, .ref h0), (1, .int (iI t))] [] := by
              intro y1 vb4 ab4 bxb4 fpb4 hy1 hn3 hh3 hI88 hyz
              have Lp2 : ∀ (nn : Nat) (k : Int) (vb5 : Nat → Int) (ab5 : Nat → Nat → Int), 210 - k < (nn : Int) → BX vb5 ab5 → fr [39] [37, 38] v a vb5 ab5 → (x ≤ k ∧ k ≤ 208) → (vb5 39 = vb1 39) → ((ab5 37 (vb5 39 - 1).toNat + (y1 - k) ≤ 199 ∨ (ab5 37 (vb5 39 - 1).toNat + (y1 - k) ≤ 200 ∧ y1 = v 25)) ∧ k ≤ y1) → (FL4 v a vb5 ab5 t x h1 k) → mw p l e (rmq 2 0 0) s m args below meth c G A 7 (MQ below (Qm G A (fun rq Lq Eq => ∃ (vq : Nat → Int) (aq : Nat → Nat → Int), mI G h0 ad ln vq aq Lq Eq ∧ (fun r v2 a2 => ∃ f : Int, r = some (.int (iI f)) ∧ fr [39] [37, 38] v a v2 a2 ∧ BX v2 a2 ∧ ((f = 0 ∨ (f = 1 ∧ 1 ≤ v2 39)) ∧ FLT v a v2 a2 t f)) rq vq aq)) args s 0 0 A) h0 ad ln vb5 ab5 0 0 100 [(6, .int (iI k)), (5, .int (iI y1)), (4, .int (iI z1)), (3, .int (iI h1)), (2, .int (iI x)), (0, .ref h0), (1, .int (iI t))] [] := by
                intro nn
                induction nn with
                | zero =>
                  intro k vb5 ab5 hm bxb5 fpb5 hk hn4 hh4 hf4
                  exact absurd hm (by omega)
                | succ nn ih2 =>
                  intro k vb5 ab5 hm bxb5 fpb5 hk hn4 hh4 hf4
                  refine m_iload (j := 0) C dX12_flow_100 rfl ?_
                  refine m_iload (j := 1) C dX12_flow_102 rfl ?_
                  refine m_icmp_ge (tgt := 124) C ⟨by omega, by omega⟩ ⟨by omega, by omega⟩ dX12_flow_104 (by decide) (fun c2 => ?_) (fun c2 => ?_)
                  · refine m_iload (j := 1) C dX12_flow_124 rfl ?_
                    refine m_aload_n (j := 5) C dX12_flow_126 rfl ?_
                    refine hv2 (show 0 ≤ vb5 25 ∧ vb5 25 ≤ 208 from bxb5.1 25) (show vb5 25 = v 25 from fpb5.1 25 rfl) (fun rv3 ve2 => ?_)
                    refine m_get (k := 25) C dX12_flow_127 w6_84 (by decide) rfl ?_
                    refine m_st (st2 := [.int (iI (v 25)), .int (iI y1)]) (congrArg (fun z => Value.int (iI z) :: [.int (iI y1)]) (fpb5.1 25 rfl)) ?_
                    refine m_icmp_ge (tgt := 141) C ⟨by omega, by omega⟩ (r32_c (lo := 0) (hi := 208) (Int.le_trans rv1.1 (Int.le_of_eq ve1)) (Int.le_trans (Int.le_of_eq ve1.symm) rv1.2) (by decide) (by decide)) dX12_flow_130 (by decide) (fun c3 => ?_) (fun c3 => ?_)
                    · refine m_iload (j := 1) C dX12_flow_141 rfl ?_
                      refine m_istore_n (lv2 := [(2, .int (iI y1)), (6, .int (iI k)), (5, .int (iI y1)), (4, .int (iI z1)), (3, .int (iI h1)), (0, .ref h0), (1, .int (iI t))]) C dX12_flow_143 (by decide) rfl ?_
                      refine m_iload_n (j := 0) C dX12_flow_144 rfl ?_
                      refine m_aload_n (j := 5) C dX12_flow_145 rfl ?_
                      refine m_get (k := 25) C dX12_flow_146 w6_84 (by decide) rfl ?_
                      refine m_st (st2 := [.int (iI (v 25)), .int (iI y1)]) (congrArg (fun z => Value.int (iI z) :: [.int (iI y1)]) (fpb5.1 25 rfl)) ?_
                      refine m_icmp_ge (tgt := 161) C ⟨by omega, by omega⟩ (r32_c (lo := 0) (hi := 208) (Int.le_trans rv1.1 (Int.le_of_eq ve1)) (Int.le_trans (Int.le_of_eq ve1.symm) rv1.2) (by decide) (by decide)) dX12_flow_149 (by decide) (fun _ => ?_) (fun z => absurd z (by omega))
                      refine m_goto (tgt := 2) C dX12_flow_161 (by decide) ?_
                      refine m_iload_n (j := 0) C dX12_flow_2 rfl ?_
                      refine m_aload_n (j := 5) C dX12_flow_3 rfl ?_
                      refine m_get (k := 25) C dX12_flow_4 w6_84 (by decide) rfl ?_
                      refine m_st (st2 := [.int (iI (v 25)), .int (iI y1)]) (congrArg (fun z => Value.int (iI z) :: [.int (iI y1)]) (fpb5.1 25 rfl)) ?_
                      refine m_icmp_ge (tgt := 164) C ⟨by omega, by omega⟩ (r32_c (lo := 0) (hi := 208) (Int.le_trans rv1.1 (Int.le_of_eq ve1)) (Int.le_trans (Int.le_of_eq ve1.symm) rv1.2) (by decide) (by decide)) dX12_flow_7 (by decide) (fun _ => ?_) (fun z => absurd z (by omega))
                      refine m_iconst C dX12_flow_164 ?_
                      exact m_zret C dX12_flow_165 rfl (Or.inr rfl) (Nat.le_of_ble_eq_true rfl) (Nat.le_of_ble_eq_true rfl) ⟨1, rfl, fpb5, bxb5, ⟨(Or.inr ⟨rfl, by show 1 ≤ vb5 39; omega⟩), FL4.fin (z := z1) hf4 (by omega) (by omega) (by omega) (by omega) (by rcases hyz with ⟨q1, _⟩ | ⟨q1, ⟨q2, _, q3⟩ | ⟨_, q3⟩⟩; exact Or.inl q1; exact Or.inr ⟨q1, Or.inl ⟨q2, q3⟩⟩; exact Or.inr ⟨q1, Or.inr (by rw [show k = y1 by omega]; exact q3)⟩)⟩⟩
                    · refine m_aload_n (j := 5) C dX12_flow_133 rfl ?_
                      refine m_aload_n (j := 5) C dX12_flow_134 rfl ?_
                      refine hv2 (show (-2147483648) ≤ vb5 33 ∧ vb5 33 ≤ 2147483647 from bxb5.1 33) (show vb5 33 = v 33 from fpb5.1 33 rfl) (fun rv4 ve3 => ?_)
                      refine m_get (k := 33) C dX12_flow_135 w6_92 (by decide) rfl ?_
                      refine m_st (st2 := [.int (iI (v 33)), .ref h0]) (congrArg (fun z => Value.int (iI z) :: [.ref h0]) (fpb5.1 33 rfl)) ?_
                      refine hv2 (show 0 ≤ vb5 39 ∧ vb5 39 ≤ 200 from bxb5.1 39) (show 0 ≤ ab5 37 (vb5 39 - 1).toNat ∧ ab5 37 (vb5 39 - 1).toNat ≤ 200 from bxb5.2 37 ((vb5 39 - 1).toNat)) (fun rv5 ra2 => ?_)
                      refine m_call (mc2 := 0) (ms2 := 0) (As := [.int (iI (v 33))]) (rest := []) C (M_putCell (x := v 33) bxb5.rg (by show 1 ≤ vb5 39 ∧ vb5 39 ≤ 200; omega) (by show 0 ≤ ab5 37 (vb5 39 - 1).toNat ∧ ab5 37 (vb5 39 - 1).toNat < 200; omega)) dX12_flow_138 kV_X12_253 rfl ck_13 rfl (Nat.le_of_ble_eq_true rfl) ⟨Nat.le_of_ble_eq_true rfl, Nat.le_of_ble_eq_true rfl⟩ ⟨Nat.le_of_ble_eq_true rfl, Nat.le_of_ble_eq_true rfl⟩ (fun rh2 vh2 ah2 h2 => ?_)
                      have px1 := PUC.mk bxb5 h2
                      obtain ⟨rfl, fn1, bn1, ex1⟩ := W_putCell bxb5 (by omega) (by show ab5 37 (vb5 39 - 1).toNat < 200; omega) h2
                      refine hv4 (fpb5.call fn1 rfl rfl) (show 0 ≤ vh2 39 ∧ vh2 39 ≤ 200 from bn1.1 39) (show vh2 39 = vb5 39 from fn1.1 39 rfl) (show ah2 37 (vb5 39 - 1).toNat = ab5 37 (vb5 39 - 1).toNat + 1 from ex1) (fun fq1 rv6 ve4 gex1 => ?_)
                      have jex1 : ah2 37 (vh2 39 - 1).toNat = ab5 37 (vb5 39 - 1).toNat + 1 := by rw [show vh2 39 = vb5 39 by omega]; exact ex1
                      refine m_st (st2 := []) rfl ?_
                      refine m_iload (j := 1) C dX12_flow_141 rfl ?_
                      refine m_istore_n (lv2 := [(2, .int (iI y1)), (6, .int (iI k)), (5, .int (iI y1)), (4, .int (iI z1)), (3, .int (iI h1)), (0, .ref h0), (1, .int (iI t))]) C dX12_flow_143 (by decide) rfl ?_
                      refine m_iload_n (j := 0) C dX12_flow_144 rfl ?_
                      refine m_aload_n (j := 5) C dX12_flow_145 rfl ?_
                      refine hv2 (show 0 ≤ vh2 25 ∧ vh2 25 ≤ 208 from bn1.1 25) (show vh2 25 = vb5 25 from fn1.1 25 rfl) (fun rv7 ve5 => ?_)
                      refine m_get (k := 25) C dX12_flow_146 w6_84 (by decide) rfl ?_
                      refine m_st (st2 := [.int (iI (v 25)), .int (iI y1)]) (congrArg (fun z => Value.int (iI z) :: [.int (iI y1)]) (fq1.1 25 rfl)) ?_
                      refine m_icmp_ge (tgt := 161) C ⟨by omega, by omega⟩ (r32_c (lo := 0) (hi := 208) (Int.le_trans rv1.1 (Int.le_of_eq ve1)) (Int.le_trans (Int.le_of_eq ve1.symm) rv1.2) (by decide) (by decide)) dX12_flow_149 (by decide) (fun z => absurd z (by omega)) (fun _ => ?_)
                      refine m_aload_n (j := 5) C dX12_flow_152 rfl ?_
                      refine m_call (mc2 := 0) (ms2 := 0) (As := []) (rest := []) C (M_newLine bn1.rg (bn1.1 39)) dX12_flow_153 kV_X12_257 rfl ck_13 rfl (Nat.le_of_ble_eq_true rfl) ⟨Nat.le_of_ble_eq_true rfl, Nat.le_of_ble_eq_true rfl⟩ ⟨Nat.le_of_ble_eq_true rfl, Nat.le_of_ble_eq_true rfl⟩ (fun rh3 vh3 ah3 h3 => ?_)
                      obtain ⟨f2, rfl, fn2, bn2, ex2, nx1⟩ := W_newLine2 bn1 h3
                      refine hv2 (fq1.call fn2 rfl rfl) (show (f2 = 1 ∧ vh3 39 = vh2 39 + 1 ∧ ah3 37 (vh3 39 - 1).toNat = 0) ∨ f2 = 0 from ex2) (fun fq2 gf2 => ?_)
                      refine m_st (st2 := [.int (iI f2)]) rfl ?_
                      refine m_if_ne (tgt := 161) C (r32_p0 gf2) dX12_flow_156 (by decide) (fun c4 => ?_) (fun c4 => ?_)
                      · replace gf2 := (gf2.resolve_right c4)
                        refine m_goto (tgt := 2) C dX12_flow_161 (by decide) ?_
                        have rv8 : 0 ≤ vh3 39 ∧ vh3 39 ≤ 200 := bn2.1 39
                        refine m_lv (lv2 := [(2, .int (iI y1)), (0, .ref h0), (1, .int (iI t))]) [0, 5, 6] rfl ?_
                        exact ih1  y1 _ _ (by omega) bn2 fq2 (by omega) (by show 1 ≤ (vh3 39) ∧ (vh3 39) ≤ 200; omega) (by have e := FL4.hyp (z := z1) hf4 (by omega) (by omega) (by omega) (by rcases hyz with ⟨_, q2⟩ | ⟨q1, _⟩; exact absurd q2 (by omega); exact q1) (by rcases hyz with ⟨_, q2⟩ | ⟨_, ⟨_, q2, _⟩ | ⟨_, q3⟩⟩; exact absurd q2 (by omega); exact absurd q2 (by omega); rw [show k = y1 by omega]; exact q3) (by omega) rfl px1 nx1 (by omega); rw [show k = y1 by omega] at e; exact e)
                      · clear gf2
                        refine m_iconst C dX12_flow_159 ?_
                        exact m_zret C dX12_flow_160 rfl (Or.inl rfl) (Nat.le_of_ble_eq_true rfl) (Nat.le_of_ble_eq_true rfl) ⟨0, rfl, fq2, bn2, ⟨Or.inl rfl, FL4.hno (z := z1) hf4 (by omega) (by omega) (by rcases hyz with ⟨_, q2⟩ | ⟨q1, _⟩; exact absurd q2 (by omega); exact q1) (by rcases hyz with ⟨_, q2⟩ | ⟨_, ⟨_, q2, _⟩ | ⟨_, q3⟩⟩; exact absurd q2 (by omega); exact absurd q2 (by omega); rw [show k = y1 by omega]; exact q3) (by omega) px1 nx1 (by omega)⟩⟩
                  · refine m_aload_n (j := 5) C dX12_flow_107 rfl ?_
                    refine m_aload_n (j := 5) C dX12_flow_108 rfl ?_
                    refine m_geta (k := 24) C dX12_flow_109 w6_83 (by decide) rfl ?_
                    refine m_iload (j := 0) C dX12_flow_112 rfl ?_
                    refine m_ald (k := 24) C dX12_flow_114 rfl rfl (by decide) (by omega) (by show _ < ((_ : Nat) : Int); simp only [mlen]; omega) (by decide) ?_
                    refine hv2 (show (-2147483648) ≤ ab5 24 k.toNat ∧ ab5 24 k.toNat ≤ 2147483647 from bxb5.2 24 (k.toNat)) (show ab5 24 (k.toNat) = a 24 (k.toNat) from congrFun (fpb5.2 24 rfl) (k.toNat)) (fun ra3 ae1 => ?_)
                    refine m_st (st2 := [.int (iI (a 24 k.toNat)), .ref h0]) (congrArg (fun z => Value.int (iI z) :: [.ref h0]) (congrFun (fpb5.2 24 rfl) (k.toNat))) ?_
                    refine hv2 (show 0 ≤ vb5 39 ∧ vb5 39 ≤ 200 from bxb5.1 39) (show 0 ≤ ab5 37 (vb5 39 - 1).toNat ∧ ab5 37 (vb5 39 - 1).toNat ≤ 200 from bxb5.2 37 ((vb5 39 - 1).toNat)) (fun rv9 ra4 => ?_)
                    refine m_call (mc2 := 0) (ms2 := 0) (As := [.int (iI (a 24 k.toNat))]) (rest := []) C (M_putCell (x := a 24 k.toNat) bxb5.rg (by show 1 ≤ vb5 39 ∧ vb5 39 ≤ 200; omega) (by show 0 ≤ ab5 37 (vb5 39 - 1).toNat ∧ ab5 37 (vb5 39 - 1).toNat < 200; omega)) dX12_flow_115 kV_X12_253 rfl ck_13 rfl (Nat.le_of_ble_eq_true rfl) ⟨Nat.le_of_ble_eq_true rfl, Nat.le_of_ble_eq_true rfl⟩ ⟨Nat.le_of_ble_eq_true rfl, Nat.le_of_ble_eq_true rfl⟩ (fun rh4 vh4 ah4 h4 => ?_)
                    have px2 := PUC.mk bxb5 h4
                    obtain ⟨rfl, fn3, bn3, ex3⟩ := W_putCell bxb5 (by omega) (by show ab5 37 (vb5 39 - 1).toNat < 200; omega) h4
                    refine hv4 (fpb5.call fn3 rfl rfl) (show 0 ≤ vh4 39 ∧ vh4 39 ≤ 200 from bn3.1 39) (show vh4 39 = vb5 39 from fn3.1 39 rfl) (show ah4 37 (vb5 39 - 1).toNat = ab5 37 (vb5 39 - 1).toNat + 1 from ex3) (fun fq3 rv10 ve6 gex3 => ?_)
                    have jex3 : ah4 37 (vh4 39 - 1).toNat = ab5 37 (vb5 39 - 1).toNat + 1 := by rw [show vh4 39 = vb5 39 by omega]; exact ex3
                    refine m_st (st2 := []) rfl ?_
                    refine m_iinc (z := k) (j := 0) (lv2 := [(6, .int (iI (k + 1))), (5, .int (iI y1)), (4, .int (iI z1)), (3, .int (iI h1)), (2, .int (iI x)), (0, .ref h0), (1, .int (iI t))]) C dX12_flow_118 rfl (by decide) rfl ?_
                    refine m_goto (tgt := 100) C dX12_flow_121 (by decide) ?_
                    have ra5 : 0 ≤ ah4 37 ((vh4 39) - 1).toNat ∧ ah4 37 ((vh4 39) - 1).toNat ≤ 200 := bn3.2 37 (((vh4 39) - 1).toNat)
                    refine m_lv (lv2 := [(6, .int (iI (k + 1))), (5, .int (iI y1)), (4, .int (iI z1)), (3, .int (iI h1)), (2, .int (iI x)), (0, .ref h0), (1, .int (iI t))]) [0, 1, 2, 3, 4, 5, 6] rfl ?_
                    exact ih2  (k + 1) _ _ (by omega) bn3 fq3 (by omega) (by show (vh4 39) = vb1 39; omega) (by show ((ah4 37 ((vh4 39) - 1).toNat) + (y1 - (k + 1)) ≤ 199 ∨ ((ah4 37 ((vh4 39) - 1).toNat) + (y1 - (k + 1)) ≤ 200 ∧ y1 = v 25)) ∧ (k + 1) ≤ y1; omega) (hf4.put (by omega) (by omega) rfl px2)
              refine m_iload_n (j := 2) C dX12_flow_88 rfl ?_
              refine m_if_le (tgt := 97) C (r32_c (lo := 0) (hi := 200) hh.1 hh.2.1 (by decide) (by decide)) dX12_flow_89 (by decide) (fun c5 => ?_) (fun c5 => ?_)
              · refine m_iload_n (j := 3) C dX12_flow_97 rfl ?_
                refine m_istore (lv2 := [(6, .int (iI x)), (5, .int (iI y1)), (4, .int (iI z1)), (3, .int (iI h1)), (2, .int (iI x)), (0, .ref h0), (1, .int (iI t))]) C dX12_flow_98 (by decide) rfl ?_
                refine hv2 (show 0 ≤ vb4 39 ∧ vb4 39 ≤ 200 from bxb4.1 39) (show 0 ≤ ab4 37 ((vb4 39) - 1).toNat ∧ ab4 37 ((vb4 39) - 1).toNat ≤ 200 from bxb4.2 37 (((vb4 39) - 1).toNat)) (fun rv11 ra6 => ?_)
                refine m_lv (lv2 := [(6, .int (iI x)), (5, .int (iI y1)), (4, .int (iI z1)), (3, .int (iI h1)), (2, .int (iI x)), (0, .ref h0), (1, .int (iI t))]) [0, 1, 2, 3, 4, 5, 6] rfl ?_
                exact Lp2 211 x _ _ (by omega) bxb4 fpb4 (by omega) (by show (vb4 39) = vb1 39; omega) (by show ((ab4 37 ((vb4 39) - 1).toNat) + (y1 - x) ≤ 199 ∨ ((ab4 37 ((vb4 39) - 1).toNat) + (y1 - x) ≤ 200 ∧ y1 = v 25)) ∧ x ≤ y1; omega) (FL2.b0 hI88 hh3 (by omega))
              · refine m_aload_n (j := 4) C dX12_flow_92 rfl ?_
                refine m_iconst C dX12_flow_93 ?_
                refine hv2 (show 0 ≤ vb4 39 ∧ vb4 39 ≤ 200 from bxb4.1 39) (show 0 ≤ ab4 37 (vb4 39 - 1).toNat ∧ ab4 37 (vb4 39 - 1).toNat ≤ 200 from bxb4.2 37 ((vb4 39 - 1).toNat)) (fun rv12 ra7 => ?_)
                refine m_call (mc2 := 0) (ms2 := 0) (As := [.int (iI 0)]) (rest := []) C (M_putCell (x := 0) bxb4.rg (by show 1 ≤ vb4 39 ∧ vb4 39 ≤ 200; omega) (by show 0 ≤ ab4 37 (vb4 39 - 1).toNat ∧ ab4 37 (vb4 39 - 1).toNat < 200; omega)) dX12_flow_94 kV_X12_253 rfl ck_13 rfl (Nat.le_of_ble_eq_true rfl) ⟨Nat.le_of_ble_eq_true rfl, Nat.le_of_ble_eq_true rfl⟩ ⟨Nat.le_of_ble_eq_true rfl, Nat.le_of_ble_eq_true rfl⟩ (fun rh5 vh5 ah5 h5 => ?_)
                have px3 := PUC.mk bxb4 h5
                obtain ⟨rfl, fn4, bn4, ex4⟩ := W_putCell bxb4 (by omega) (by show ab4 37 (vb4 39 - 1).toNat < 200; omega) h5
                refine hv4 (fpb4.call fn4 rfl rfl) (show 0 ≤ vh5 39 ∧ vh5 39 ≤ 200 from bn4.1 39) (show vh5 39 = vb4 39 from fn4.1 39 rfl) (show ah5 37 (vb4 39 - 1).toNat = ab4 37 (vb4 39 - 1).toNat + 1 from ex4) (fun fq4 rv13 ve7 gex4 => ?_)
                have jex4 : ah5 37 (vh5 39 - 1).toNat = ab4 37 (vb4 39 - 1).toNat + 1 := by rw [show vh5 39 = vb4 39 by omega]; exact ex4
                refine m_st (st2 := []) rfl ?_
                refine m_iload_n (j := 3) C dX12_flow_97 rfl ?_
                refine m_istore (lv2 := [(6, .int (iI x)), (5, .int (iI y1)), (4, .int (iI z1)), (3, .int (iI h1)), (2, .int (iI x)), (0, .ref h0), (1, .int (iI t))]) C dX12_flow_98 (by decide) rfl ?_
                have ra8 : 0 ≤ ah5 37 ((vh5 39) - 1).toNat ∧ ah5 37 ((vh5 39) - 1).toNat ≤ 200 := bn4.2 37 (((vh5 39) - 1).toNat)
                refine m_lv (lv2 := [(6, .int (iI x)), (5, .int (iI y1)), (4, .int (iI z1)), (3, .int (iI h1)), (2, .int (iI x)), (0, .ref h0), (1, .int (iI t))]) [0, 1, 2, 3, 4, 5, 6] rfl ?_
                exact Lp2 211 x _ _ (by omega) bn4 fq4 (by omega) (by show (vh5 39) = vb1 39; omega) (by show ((ah5 37 ((vh5 39) - 1).toNat) + (y1 - x) ≤ 199 ∨ ((ah5 37 ((vh5 39) - 1).toNat) + (y1 - x) ≤ 200 ∧ y1 = v 25)) ∧ x ≤ y1; omega) (FL2.b1 hI88 hh3 (by omega) px3)
            refine m_iload (j := 0) C dX12_flow_68 rfl ?_
            refine m_if_ge (tgt := 83) C ⟨by omega, by omega⟩ dX12_flow_70 (by decide) (fun c6 => ?_) (fun c6 => ?_)
            · refine m_iload (j := 0) C dX12_flow_83 rfl ?_
              refine m_if_lt (tgt := 144) C ⟨by omega, by omega⟩ dX12_flow_85 (by decide) (fun z => absurd z (by omega)) (fun _ => ?_)
              refine hv2 (show 0 ≤ vb3 39 ∧ vb3 39 ≤ 200 from bxb3.1 39) (show 0 ≤ ab3 37 ((vb3 39) - 1).toNat ∧ ab3 37 ((vb3 39) - 1).toNat ≤ 200 from bxb3.2 37 (((vb3 39) - 1).toNat)) (fun rv14 ra9 => ?_)
              refine m_lv (lv2 := [(5, .int (iI y)), (4, .int (iI z1)), (3, .int (iI h1)), (2, .int (iI x)), (0, .ref h0), (1, .int (iI t))]) [0, 1, 2, 3, 4, 5] rfl ?_
              exact J3  y _ _  bxb3 fpb3 (by omega) (by show (vb3 39) = vb1 39; omega) (by show (ab3 37 ((vb3 39) - 1).toNat) = h1; omega) hI68 (by rcases hyx with ⟨q1, q2⟩ | ⟨q1, q2⟩; exact Or.inl ⟨q1, q2⟩; exact Or.inr ⟨q1, Or.inr ⟨by omega, q2⟩⟩)
            · refine m_iload_n (j := 2) C dX12_flow_73 rfl ?_
              refine m_if_ne (tgt := 83) C (r32_c (lo := 0) (hi := 200) hh.1 hh.2.1 (by decide) (by decide)) dX12_flow_74 (by decide) (fun c7 => ?_) (fun c7 => ?_)
              · refine m_iload (j := 0) C dX12_flow_83 rfl ?_
                refine m_if_lt (tgt := 144) C ⟨by omega, by omega⟩ dX12_flow_85 (by decide) (fun _ => ?_) (fun z => absurd z (by omega))
                refine m_iload_n (j := 3) C dX12_flow_144 rfl ?_
                refine m_aload_n (j := 4) C dX12_flow_145 rfl ?_
                refine hv2 (show 0 ≤ vb3 25 ∧ vb3 25 ≤ 208 from bxb3.1 25) (show vb3 25 = v 25 from fpb3.1 25 rfl) (fun rv15 ve8 => ?_)
                refine m_get (k := 25) C dX12_flow_146 w6_84 (by decide) rfl ?_
                refine m_st (st2 := [.int (iI (v 25)), .int (iI x)]) (congrArg (fun z => Value.int (iI z) :: [.int (iI x)]) (fpb3.1 25 rfl)) ?_
                refine m_icmp_ge (tgt := 161) C ⟨by omega, by omega⟩ (r32_c (lo := 0) (hi := 208) (Int.le_trans rv1.1 (Int.le_of_eq ve1)) (Int.le_trans (Int.le_of_eq ve1.symm) rv1.2) (by decide) (by decide)) dX12_flow_149 (by decide) (fun z => absurd z (by omega)) (fun _ => ?_)
                refine m_aload_n (j := 4) C dX12_flow_152 rfl ?_
                refine m_call (mc2 := 0) (ms2 := 0) (As := []) (rest := []) C (M_newLine bxb3.rg (bxb3.1 39)) dX12_flow_153 kV_X12_257 rfl ck_13 rfl (Nat.le_of_ble_eq_true rfl) ⟨Nat.le_of_ble_eq_true rfl, Nat.le_of_ble_eq_true rfl⟩ ⟨Nat.le_of_ble_eq_true rfl, Nat.le_of_ble_eq_true rfl⟩ (fun rh6 vh6 ah6 h6 => ?_)
                obtain ⟨f5, rfl, fn5, bn5, ex5, nx2⟩ := W_newLine2 bxb3 h6
                refine hv2 (fpb3.call fn5 rfl rfl) (show (f5 = 1 ∧ vh6 39 = vb3 39 + 1 ∧ ah6 37 (vh6 39 - 1).toNat = 0) ∨ f5 = 0 from ex5) (fun fq5 gf5 => ?_)
                refine m_st (st2 := [.int (iI f5)]) rfl ?_
                refine m_if_ne (tgt := 161) C (r32_p0 gf5) dX12_flow_156 (by decide) (fun c8 => ?_) (fun c8 => ?_)
                · replace gf5 := (gf5.resolve_right c8)
                  refine m_goto (tgt := 2) C dX12_flow_161 (by decide) ?_
                  have rv16 : 0 ≤ vh6 39 ∧ vh6 39 ≤ 200 := bn5.1 39
                  refine m_lv (lv2 := [(2, .int (iI x)), (0, .ref h0), (1, .int (iI t))]) [3, 4, 5] rfl ?_
                  exact ih1  x _ _ (by omega) bn5 fq5 (by omega) (by show 1 ≤ (vh6 39) ∧ (vh6 39) ≤ 200; omega) (FL2.nl (z := z1) hI68 (by omega) hh2 (by omega) (by omega) (by rcases hyx with ⟨_, q⟩ | ⟨q, _⟩; exact absurd q (by omega); exact q) (by rcases hyx with ⟨_, q⟩ | ⟨_, q⟩; exact absurd q (by omega); exact q) (by omega) nx2 (by omega))
                · clear gf5
                  refine m_iconst C dX12_flow_159 ?_
                  exact m_zret C dX12_flow_160 rfl (Or.inl rfl) (Nat.le_of_ble_eq_true rfl) (Nat.le_of_ble_eq_true rfl) ⟨0, rfl, fq5, bn5, ⟨Or.inl rfl, FL2.nno (z := z1) hI68 (by omega) hh2 (by omega) (by omega) (by rcases hyx with ⟨_, q⟩ | ⟨q, _⟩; exact absurd q (by omega); exact q) nx2 (by omega)⟩⟩
              · refine m_aload_n (j := 4) C dX12_flow_77 rfl ?_
                refine hv2 (show 0 ≤ vb3 25 ∧ vb3 25 ≤ 208 from bxb3.1 25) (show vb3 25 = v 25 from fpb3.1 25 rfl) (fun rv17 ve9 => ?_)
                refine m_get (k := 25) C dX12_flow_78 w6_84 (by decide) rfl ?_
                refine m_st (st2 := [.int (iI (v 25))]) (congrArg (fun z => Value.int (iI z) :: []) (fpb3.1 25 rfl)) ?_
                refine m_istore (lv2 := [(5, .int (iI (v 25))), (4, .int (iI z1)), (3, .int (iI h1)), (2, .int (iI x)), (0, .ref h0), (1, .int (iI t))]) C dX12_flow_81 (by decide) rfl ?_
                refine m_iload (j := 0) C dX12_flow_83 rfl ?_
                refine m_if_lt (tgt := 144) C (r32_c (lo := 0) (hi := 208) (Int.le_trans rv1.1 (Int.le_of_eq ve1)) (Int.le_trans (Int.le_of_eq ve1.symm) rv1.2) (by decide) (by decide)) dX12_flow_85 (by decide) (fun c9 => ?_) (fun c9 => ?_)
                · refine m_iload_n (j := 3) C dX12_flow_144 rfl ?_
                  refine m_aload_n (j := 4) C dX12_flow_145 rfl ?_
                  refine m_get (k := 25) C dX12_flow_146 w6_84 (by decide) rfl ?_
                  refine m_st (st2 := [.int (iI (v 25)), .int (iI x)]) (congrArg (fun z => Value.int (iI z) :: [.int (iI x)]) (fpb3.1 25 rfl)) ?_
                  refine m_icmp_ge (tgt := 161) C ⟨by omega, by omega⟩ (r32_c (lo := 0) (hi := 208) (Int.le_trans rv1.1 (Int.le_of_eq ve1)) (Int.le_trans (Int.le_of_eq ve1.symm) rv1.2) (by decide) (by decide)) dX12_flow_149 (by decide) (fun z => absurd z (by omega)) (fun _ => ?_)
                  refine m_aload_n (j := 4) C dX12_flow_152 rfl ?_
                  refine m_call (mc2 := 0) (ms2 := 0) (As := []) (rest := []) C (M_newLine bxb3.rg (bxb3.1 39)) dX12_flow_153 kV_X12_257 rfl ck_13 rfl (Nat.le_of_ble_eq_true rfl) ⟨Nat.le_of_ble_eq_true rfl, Nat.le_of_ble_eq_true rfl⟩ ⟨Nat.le_of_ble_eq_true rfl, Nat.le_of_ble_eq_true rfl⟩ (fun rh7 vh7 ah7 h7 => ?_)
                  obtain ⟨f6, rfl, fn6, bn6, ex6, nx3⟩ := W_newLine2 bxb3 h7
                  refine hv2 (fpb3.call fn6 rfl rfl) (show (f6 = 1 ∧ vh7 39 = vb3 39 + 1 ∧ ah7 37 (vh7 39 - 1).toNat = 0) ∨ f6 = 0 from ex6) (fun fq6 gf6 => ?_)
                  refine m_st (st2 := [.int (iI f6)]) rfl ?_
                  refine m_if_ne (tgt := 161) C (r32_p0 gf6) dX12_flow_156 (by decide) (fun c10 => ?_) (fun c10 => ?_)
                  · replace gf6 := (gf6.resolve_right c10)
                    refine m_goto (tgt := 2) C dX12_flow_161 (by decide) ?_
                    have rv18 : 0 ≤ vh7 39 ∧ vh7 39 ≤ 200 := bn6.1 39
                    refine m_lv (lv2 := [(2, .int (iI x)), (0, .ref h0), (1, .int (iI t))]) [3, 4, 5] rfl ?_
                    exact ih1  x _ _ (by omega) bn6 fq6 (by omega) (by show 1 ≤ (vh7 39) ∧ (vh7 39) ≤ 200; omega) (FL2.nl (z := z1) hI68 (by omega) hh2 (by omega) (by omega) (by rcases hyx with ⟨_, q⟩ | ⟨q, _⟩; exact absurd q (by omega); exact q) (by rcases hyx with ⟨_, q⟩ | ⟨_, q⟩; exact absurd q (by omega); exact q) (by omega) nx3 (by omega))
                  · clear gf6
                    refine m_iconst C dX12_flow_159 ?_
                    exact m_zret C dX12_flow_160 rfl (Or.inl rfl) (Nat.le_of_ble_eq_true rfl) (Nat.le_of_ble_eq_true rfl) ⟨0, rfl, fq6, bn6, ⟨Or.inl rfl, FL2.nno (z := z1) hI68 (by omega) hh2 (by omega) (by omega) (by rcases hyx with ⟨_, q⟩ | ⟨q, _⟩; exact absurd q (by omega); exact q) nx3 (by omega)⟩⟩
                · have rv19 : 0 ≤ vb3 39 ∧ vb3 39 ≤ 200 := bxb3.1 39
                  have ra10 : 0 ≤ ab3 37 ((vb3 39) - 1).toNat ∧ ab3 37 ((vb3 39) - 1).toNat ≤ 200 := bxb3.2 37 (((vb3 39) - 1).toNat)
                  refine m_lv (lv2 := [(5, .int (iI (v 25))), (4, .int (iI z1)), (3, .int (iI h1)), (2, .int (iI x)), (0, .ref h0), (1, .int (iI t))]) [0, 1, 2, 3, 4, 5] rfl ?_
                  exact J3  (v 25) _ _  bxb3 fpb3 (by omega) (by show (vb3 39) = vb1 39; omega) (by show (ab3 37 ((vb3 39) - 1).toNat) = h1; omega) hI68 (by rcases hyx with ⟨q1, q2⟩ | ⟨q1, q2⟩; exact absurd q2 (by omega); exact Or.inr ⟨q1, Or.inl ⟨by omega, by omega, by rw [show y = -1 by omega] at q2; exact q2⟩⟩)
          refine m_aload_n (j := 3) C dX12_flow_40 rfl ?_
          refine hv2 (show 0 ≤ vb2 25 ∧ vb2 25 ≤ 208 from bxb2.1 25) (show vb2 25 = v 25 from fpb2.1 25 rfl) (fun rv20 ve10 => ?_)
          refine m_get (k := 25) C dX12_flow_41 w6_84 (by decide) rfl ?_
          refine m_st (st2 := [.int (iI (v 25))]) (congrArg (fun z => Value.int (iI z) :: []) (fpb2.1 25 rfl)) ?_
          refine m_iload_n (j := 2) C dX12_flow_44 rfl ?_
          refine m_isub C dX12_flow_45 ?_
          refine m_iload (j := 0) C dX12_flow_46 rfl ?_
          refine m_icmp_gt (tgt := 58) C ⟨by omega, by omega⟩ ⟨by omega, by omega⟩ dX12_flow_48 (by decide) (fun c11 => ?_) (fun c11 => ?_)
          · refine m_aload_n (j := 3) C dX12_flow_58 rfl ?_
            refine m_iload_n (j := 4) C dX12_flow_59 rfl ?_
            refine m_iload_n (j := 2) C dX12_flow_60 rfl ?_
            refine m_iload (j := 0) C dX12_flow_61 rfl ?_
            refine m_call (mc2 := 0) (ms2 := 0) (As := [.int (iI t), .int (iI x), .int (iI z1)]) (rest := []) C (E_breakOf (t := t) (q := x) (z := z1) bxb2 (by omega) (by omega) (by omega)) dX12_flow_63 kV_X12_249 rfl ck_13 rfl (Nat.le_of_ble_eq_true rfl) ⟨Nat.le_of_ble_eq_true rfl, Nat.le_of_ble_eq_true rfl⟩ ⟨Nat.le_of_ble_eq_true rfl, Nat.le_of_ble_eq_true rfl⟩ (fun rh8 vh8 ah8 h8 => ?_)
            obtain ⟨f7, rfl, fn7, bn7, ex7, bq1⟩ := h8
            obtain ⟨rfl, rfl⟩ := fn7.eq
            have gf7 : f7 = -1 ∨ (x < f7 ∧ f7 ≤ 208 ∧ f7 - x + 1 ≤ z1) := ex7
            refine m_st (st2 := [.int (iI f7)]) rfl ?_
            refine m_istore (lv2 := [(5, .int (iI f7)), (4, .int (iI z1)), (3, .int (iI h1)), (2, .int (iI x)), (0, .ref h0), (1, .int (iI t))]) C dX12_flow_66 (by decide) rfl ?_
            refine hv2 (show 0 ≤ vb2 39 ∧ vb2 39 ≤ 200 from bxb2.1 39) (show 0 ≤ ab2 37 ((vb2 39) - 1).toNat ∧ ab2 37 ((vb2 39) - 1).toNat ≤ 200 from bxb2.2 37 (((vb2 39) - 1).toNat)) (fun rv21 ra11 => ?_)
            refine m_lv (lv2 := [(5, .int (iI f7)), (4, .int (iI z1)), (3, .int (iI h1)), (2, .int (iI x)), (0, .ref h0), (1, .int (iI t))]) [0, 1, 2, 3, 4, 5] rfl ?_
            exact J2  f7 _ _  bxb2 fpb2 (by omega) (by show (vb2 39) = vb1 39; omega) (by show (ab2 37 ((vb2 39) - 1).toNat) = h1; omega) hI40 (Or.inr ⟨by omega, (BRQ.fr bq1 (fpb2.1 23 rfl) (fpb2.2 6 rfl) (fpb2.2 20 rfl) (fpb2.2 21 rfl) (fpb2.2 22 rfl) (fpb2.2 26 rfl))⟩)
          · refine m_aload_n (j := 3) C dX12_flow_51 rfl ?_
            refine m_get (k := 25) C dX12_flow_52 w6_84 (by decide) rfl ?_
            refine m_st (st2 := [.int (iI (v 25))]) (congrArg (fun z => Value.int (iI z) :: []) (fpb2.1 25 rfl)) ?_
            refine m_goto (tgt := 66) C dX12_flow_55 (by decide) ?_
            refine m_istore (lv2 := [(5, .int (iI (v 25))), (4, .int (iI z1)), (3, .int (iI h1)), (2, .int (iI x)), (0, .ref h0), (1, .int (iI t))]) C dX12_flow_66 (by decide) rfl ?_
            refine hv2 (show 0 ≤ vb2 39 ∧ vb2 39 ≤ 200 from bxb2.1 39) (show 0 ≤ ab2 37 ((vb2 39) - 1).toNat ∧ ab2 37 ((vb2 39) - 1).toNat ≤ 200 from bxb2.2 37 (((vb2 39) - 1).toNat)) (fun rv22 ra12 => ?_)
            refine m_lv (lv2 := [(5, .int (iI (v 25))), (4, .int (iI z1)), (3, .int (iI h1)), (2, .int (iI x)), (0, .ref h0), (1, .int (iI t))]) [0, 1, 2, 3, 4, 5] rfl ?_
            exact J2  (v 25) _ _  bxb2 fpb2 (by omega) (by show (vb2 39) = vb1 39; omega) (by show (ab2 37 ((vb2 39) - 1).toNat) = h1; omega) hI40 (Or.inl ⟨by omega, by omega⟩)
        refine m_aload_n (j := 2) C dX12_flow_22 rfl ?_
        refine hv2 (show 1 ≤ vb1 31 ∧ vb1 31 ≤ 100 from bxb1.1 31) (show vb1 31 = v 31 from fpb1.1 31 rfl) (fun rv23 ve11 => ?_)
        refine m_get (k := 31) C dX12_flow_23 w6_90 (by decide) rfl ?_
        refine m_st (st2 := [.int (iI (v 31))]) (congrArg (fun z => Value.int (iI z) :: []) (fpb1.1 31 rfl)) ?_
        refine m_iload_n (j := 0) C dX12_flow_26 rfl ?_
        refine m_if_ne (tgt := 34) C (r32_c (lo := 0) (hi := 200) ra1.1 ra1.2 (by decide) (by decide)) dX12_flow_27 (by decide) (fun c12 => ?_) (fun c12 => ?_)
        · refine m_iload_n (j := 0) C dX12_flow_34 rfl ?_
          refine m_iconst C dX12_flow_35 ?_
          refine m_iadd C dX12_flow_36 ?_
          refine m_isub C dX12_flow_37 ?_
          refine m_istore (lv2 := [(4, .int (iI ((v 31) - ((ab1 37 ((vb1 39) - 1).toNat) + 1)))), (3, .int (iI (ab1 37 ((vb1 39) - 1).toNat))), (2, .int (iI x)), (0, .ref h0), (1, .int (iI t))]) C dX12_flow_38 (by decide) rfl ?_
          refine m_lv (lv2 := [(4, .int (iI ((v 31) - ((ab1 37 ((vb1 39) - 1).toNat) + 1)))), (3, .int (iI (ab1 37 ((vb1 39) - 1).toNat))), (2, .int (iI x)), (0, .ref h0), (1, .int (iI t))]) [0, 1, 2, 3, 4] rfl ?_
          exact J1  (ab1 37 ((vb1 39) - 1).toNat) ((v 31) - ((ab1 37 ((vb1 39) - 1).toNat) + 1)) _ _  bxb1 fpb1 (by omega) (by show (vb1 39) = vb1 39; omega) (by show (ab1 37 ((vb1 39) - 1).toNat) = (ab1 37 ((vb1 39) - 1).toNat); omega) hI
        · refine m_iconst C dX12_flow_30 ?_
          refine m_goto (tgt := 37) C dX12_flow_31 (by decide) ?_
          refine m_isub C dX12_flow_37 ?_
          refine m_istore (lv2 := [(4, .int (iI ((v 31) - 0))), (3, .int (iI (ab1 37 ((vb1 39) - 1).toNat))), (2, .int (iI x)), (0, .ref h0), (1, .int (iI t))]) C dX12_flow_38 (by decide) rfl ?_
          refine m_lv (lv2 := [(4, .int (iI ((v 31) - 0))), (3, .int (iI (ab1 37 ((vb1 39) - 1).toNat))), (2, .int (iI x)), (0, .ref h0), (1, .int (iI t))]) [0, 1, 2, 3, 4] rfl ?_
          exact J1  (ab1 37 ((vb1 39) - 1).toNat) ((v 31) - 0) _ _  bxb1 fpb1 (by omega) (by show (vb1 39) = vb1 39; omega) (by show (ab1 37 ((vb1 39) - 1).toNat) = (ab1 37 ((vb1 39) - 1).toNat); omega) hI
  have rv24 : 0 ≤ v 39 ∧ v 39 ≤ 200 := hB.1 39
  refine m_lv (lv2 := [(2, .int (iI 0)), (0, .ref h0), (1, .int (iI t))]) [0, 1, 2] rfl ?_
  exact Lp1 202 0 _ _ (by omega) hB fp0 (by omega) (by show 1 ≤ (v 39) ∧ (v 39) ≤ 200; omega) FL2.init
set_option maxHeartbeats 4000000 in
set_option maxRecDepth 100000 in
theorem E_centre {l : Launch} {G : GT} {h0 : Nat} {ad ln : Nat → Nat} {v : Nat → Int} {a : Nat → Nat → Int}  {q : Int} (hB : BX v a) (hq : 0 ≤ q ∧ q ≤ 200) : Mm l G yX12_centre cX12_centre 5 none 0 [.int (iI q)] h0 ad ln v a 0 0 (fun r v2 a2 => r = none ∧ fr [] [37, 38] v a v2 a2 ∧ BX v2 a2 ∧ (CNX v a v2 a2 q)) := by
  refine Mm.mk (by decide) (Nat.le_of_ble_eq_true rfl) ?_
  intro p e s m args below meth c A C
  refine hv2 (show 1 ≤ v 31 ∧ v 31 ≤ 100 from hB.1 31) (show fr [] [37, 38] v a v a from fr.refl) (fun r31 fp0 => ?_)
  refine m_iload_n (j := 1) C dX12_centre_0 rfl ?_
  refine m_istore_n (lv2 := [(2, .int (iI q)), (0, .ref h0), (1, .int (iI q))]) C dX12_centre_1 (by decide) rfl ?_
  have Lp1 : ∀ (nn : Nat) (x : Int) (vb1 : Nat → Int) (ab1 : Nat → Nat → Int), 201 - x < (nn : Int) → BX vb1 ab1 → fr [] [37, 38] v a vb1 ab1 → (0 ≤ x ∧ x ≤ 200 ∧ q ≤ x) → (CN2 v a vb1 ab1 q x) → mw p l e (rmq 0 0 0) s m args below meth c G A 5 (MQ below (Qm G A (fun rq Lq Eq => ∃ (vq : Nat → Int) (aq : Nat → Nat → Int), mI G h0 ad ln vq aq Lq Eq ∧ (fun r v2 a2 => r = none ∧ fr [] [37, 38] v a v2 a2 ∧ BX v2 a2 ∧ (CNX v a v2 a2 q)) rq vq aq)) args s 0 0 A) h0 ad ln vb1 ab1 0 0 2 [(2, .int (iI x)), (0, .ref h0), (1, .int (iI q))] [] := by
    intro nn
    induction nn with
    | zero =>
      intro x vb1 ab1 hm bxb1 fpb1 hx hC
      exact absurd hm (by omega)
    | succ nn ih1 =>
      intro x vb1 ab1 hm bxb1 fpb1 hx hC
      refine m_iload_n (j := 0) C dX12_centre_2 rfl ?_
      refine m_aload_n (j := 1) C dX12_centre_3 rfl ?_
      refine hv2 (show 0 ≤ vb1 39 ∧ vb1 39 ≤ 200 from bxb1.1 39) (show vb1 39 = v 39 from fpb1.1 39 rfl) (fun rv1 ve1 => ?_)
      refine m_get (k := 39) C dX12_centre_4 w6_98 (by decide) rfl ?_
      refine m_st (st2 := [.int (iI (v 39)), .int (iI x)]) (congrArg (fun z => Value.int (iI z) :: [.int (iI x)]) (fpb1.1 39 rfl)) ?_
      refine m_icmp_ge (tgt := 144) C (r32_c (lo := 0) (hi := 200) hx.1 hx.2.1 (by decide) (by decide)) (r32_c (lo := 0) (hi := 200) (Int.le_trans rv1.1 (Int.le_of_eq ve1)) (Int.le_trans (Int.le_of_eq ve1.symm) rv1.2) (by decide) (by decide)) dX12_centre_7 (by decide) (fun c1 => ?_) (fun c1 => ?_)
      · exact m_vret C dX12_centre_144 rfl (Nat.le_of_ble_eq_true rfl) (Nat.le_of_ble_eq_true rfl) ⟨rfl, fpb1, bxb1, (hC.fin (by omega) (by omega))⟩
      · refine m_aload_n (j := 1) C dX12_centre_10 rfl ?_
        refine m_geta (k := 37) C dX12_centre_11 w6_96 (by decide) rfl ?_
        refine m_iload_n (j := 0) C dX12_centre_14 rfl ?_
        refine m_ald (k := 37) C dX12_centre_15 rfl rfl (by decide) (by omega) (by show _ < ((_ : Nat) : Int); simp only [mlen]; omega) (by decide) ?_
        have ra1 : 0 ≤ ab1 37 x.toNat ∧ ab1 37 x.toNat ≤ 200 := bxb1.2 37 (x.toNat)
        have J1 : ∀ (y : Int) (vb2 : Nat → Int) (ab2 : Nat → Nat → Int), BX vb2 ab2 → fr [] [37, 38] v a vb2 ab2 → (0 ≤ y ∧ ab2 37 x.toNat + y ≤ 200) → ((((ab2 37 x.toNat = 0 ∨ v 31 ≤ ab2 37 x.toNat) ∧ y = 0) ∨ (0 < ab2 37 x.toNat ∧ ab2 37 x.toNat < v 31 ∧ y = (v 31 - ab2 37 x.toNat) / 2))) → (CN2 v a vb2 ab2 q x) → mw p l e (rmq 0 0 0) s m args below meth c G A 5 (MQ below (Qm G A (fun rq Lq Eq => ∃ (vq : Nat → Int) (aq : Nat → Nat → Int), mI G h0 ad ln vq aq Lq Eq ∧ (fun r v2 a2 => r = none ∧ fr [] [37, 38] v a v2 a2 ∧ BX v2 a2 ∧ (CNX v a v2 a2 q)) rq vq aq)) args s 0 0 A) h0 ad ln vb2 ab2 0 0 49 [(2, .int (iI x)), (0, .ref h0), (1, .int (iI q))] [.int (iI y)] := by
          intro y vb2 ab2 bxb2 fpb2 hy hy2 hC1
          refine m_istore_n (lv2 := [(3, .int (iI y)), (2, .int (iI x)), (0, .ref h0), (1, .int (iI q))]) C dX12_centre_49 (by decide) rfl ?_
          refine m_aload_n (j := 2) C dX12_centre_50 rfl ?_
          refine m_geta (k := 37) C dX12_centre_51 w6_96 (by decide) rfl ?_
          refine m_iload_n (j := 1) C dX12_centre_54 rfl ?_
          refine m_ald (k := 37) C dX12_centre_55 rfl rfl (by decide) (by omega) (by show _ < ((_ : Nat) : Int); simp only [mlen]; omega) (by decide) ?_
          have ra2 : 0 ≤ ab2 37 x.toNat ∧ ab2 37 x.toNat ≤ 200 := bxb2.2 37 (x.toNat)
          refine m_iconst C dX12_centre_56 ?_
          refine m_isub C dX12_centre_57 ?_
          refine m_istore (lv2 := [(4, .int (iI ((ab2 37 x.toNat) - 1))), (3, .int (iI y)), (2, .int (iI x)), (0, .ref h0), (1, .int (iI q))]) C dX12_centre_58 (by decide) rfl ?_
          have Lp2 : ∀ (nn : Nat) (k : Int) (vb3 : Nat → Int) (ab3 : Nat → Nat → Int), k + 1 < (nn : Int) → BX vb3 ab3 → fr [] [37, 38] v a vb3 ab3 → (-1 ≤ k ∧ k < ab3 37 x.toNat ∧ ab3 37 x.toNat + y ≤ 200) → ((((ab3 37 x.toNat = 0 ∨ v 31 ≤ ab3 37 x.toNat) ∧ y = 0) ∨ (0 < ab3 37 x.toNat ∧ ab3 37 x.toNat < v 31 ∧ y = (v 31 - ab3 37 x.toNat) / 2))) → (CE6 v a vb3 ab3 q x y k) → mw p l e (rmq 0 0 0) s m args below meth c G A 5 (MQ below (Qm G A (fun rq Lq Eq => ∃ (vq : Nat → Int) (aq : Nat → Nat → Int), mI G h0 ad ln vq aq Lq Eq ∧ (fun r v2 a2 => r = none ∧ fr [] [37, 38] v a v2 a2 ∧ BX v2 a2 ∧ (CNX v a v2 a2 q)) rq vq aq)) args s 0 0 A) h0 ad ln vb3 ab3 0 0 60 [(4, .int (iI k)), (3, .int (iI y)), (2, .int (iI x)), (0, .ref h0), (1, .int (iI q))] [] := by
            intro nn
            induction nn with
            | zero =>
              intro k vb3 ab3 hm bxb3 fpb3 hk hy3 h6
              exact absurd hm (by omega)
            | succ nn ih2 =>
              intro k vb3 ab3 hm bxb3 fpb3 hk hy3 h6
              refine m_iload (j := 0) C dX12_centre_60 rfl ?_
              refine m_if_lt (tgt := 99) C ⟨by omega, by omega⟩ dX12_centre_62 (by decide) (fun c2 => ?_) (fun c2 => ?_)
              · refine m_iconst C dX12_centre_99 ?_
                refine m_istore (lv2 := [(4, .int (iI 0)), (3, .int (iI y)), (2, .int (iI x)), (0, .ref h0), (1, .int (iI q))]) C dX12_centre_100 (by decide) rfl ?_
                have Lp3 : ∀ (nn : Nat) (k1 : Int) (vb4 : Nat → Int) (ab4 : Nat → Nat → Int), 201 - k1 < (nn : Int) → BX vb4 ab4 → fr [] [37, 38] v a vb4 ab4 → (0 ≤ k1 ∧ k1 ≤ y ∧ k1 ≤ 200 ∧ ab4 37 x.toNat + y ≤ 200) → ((((ab4 37 x.toNat = 0 ∨ v 31 ≤ ab4 37 x.toNat) ∧ y = 0) ∨ (0 < ab4 37 x.toNat ∧ ab4 37 x.toNat < v 31 ∧ y = (v 31 - ab4 37 x.toNat) / 2))) → (CE7 v a vb4 ab4 q x y k1) → mw p l e (rmq 0 0 0) s m args below meth c G A 5 (MQ below (Qm G A (fun rq Lq Eq => ∃ (vq : Nat → Int) (aq : Nat → Nat → Int), mI G h0 ad ln vq aq Lq Eq ∧ (fun r v2 a2 => r = none ∧ fr [] [37, 38] v a v2 a2 ∧ BX v2 a2 ∧ (CNX v a v2 a2 q)) rq vq aq)) args s 0 0 A) h0 ad ln vb4 ab4 0 0 102 [(4, .int (iI k1)), (3, .int (iI y)), (2, .int (iI x)), (0, .ref h0), (1, .int (iI q))] [] := by
                  intro nn
                  induction nn with
                  | zero =>
                    intro k1 vb4 ab4 hm bxb4 fpb4 hk1 hy4 h7
                    exact absurd hm (by omega)
                  | succ nn ih3 =>
                    intro k1 vb4 ab4 hm bxb4 fpb4 hk1 hy4 h7
                    refine m_iload (j := 0) C dX12_centre_102 rfl ?_
                    refine m_iload_n (j := 1) C dX12_centre_104 rfl ?_
                    refine m_icmp_ge (tgt := 128) C (r32_c (lo := 0) (hi := 200) hk1.1 hk1.2.2.1 (by decide) (by decide)) ⟨by omega, by omega⟩ dX12_centre_105 (by decide) (fun c3 => ?_) (fun c3 => ?_)
                    · refine m_aload_n (j := 3) C dX12_centre_128 rfl ?_
                      refine m_geta (k := 37) C dX12_centre_129 w6_96 (by decide) rfl ?_
                      refine m_iload_n (j := 2) C dX12_centre_132 rfl ?_
                      refine m_dup2 C dX12_centre_133 rfl rfl ?_
                      refine m_ald (k := 37) C dX12_centre_134 rfl rfl (by decide) (by omega) (by show _ < ((_ : Nat) : Int); simp only [mlen]; omega) (by decide) ?_
                      have ra3 : 0 ≤ ab4 37 x.toNat ∧ ab4 37 x.toNat ≤ 200 := bxb4.2 37 (x.toNat)
                      refine m_iload_n (j := 1) C dX12_centre_135 rfl ?_
                      refine m_iadd C dX12_centre_136 ?_
                      refine m_ast (k := 37) C dX12_centre_137 rfl rfl (by decide) (by omega) (by show _ < ((_ : Nat) : Int); simp only [mlen]; omega) (by decide) ?_
                      refine hv2 (show BX vb4 (up2 ab4 37 x.toNat ((ab4 37 x.toNat) + y)) from bxb4.set (k := 37) (i := x.toNat) (z := (ab4 37 x.toNat) + y) (show 0 ≤ ((ab4 37 x.toNat) + y) ∧ ((ab4 37 x.toNat) + y) ≤ 200 by omega)) (fpb4.set (k := 37) (i := x.toNat) (z := (ab4 37 x.toNat) + y) rfl) (fun bq1 fq1 => ?_)
                      refine m_iinc (z := x) (j := 2) (lv2 := [(2, .int (iI (x + 1))), (4, .int (iI k1)), (3, .int (iI y)), (0, .ref h0), (1, .int (iI q))]) C dX12_centre_138 rfl (by decide) rfl ?_
                      refine m_goto (tgt := 2) C dX12_centre_141 (by decide) ?_
                      refine m_lv (lv2 := [(2, .int (iI (x + 1))), (0, .ref h0), (1, .int (iI q))]) [0, 3, 4] rfl ?_
                      exact ih1  (x + 1) _ _ (by omega) bq1 fq1 (by omega) (CE7.fin h7 ⟨by omega, by omega⟩ (by omega) (by omega) rfl (by omega) rfl rfl)
                    · refine m_aload_n (j := 3) C dX12_centre_108 rfl ?_
                      refine m_geta (k := 38) C dX12_centre_109 w6_97 (by decide) rfl ?_
                      refine m_sipush (z := 200) C dX12_centre_112 (by decide) ?_
                      refine m_iload_n (j := 2) C dX12_centre_115 rfl ?_
                      refine m_imul C dX12_centre_116 ?_
                      refine m_iload (j := 0) C dX12_centre_117 rfl ?_
                      refine m_iadd C dX12_centre_119 ?_
                      refine m_iconst C dX12_centre_120 ?_
                      refine m_ast (k := 38) C dX12_centre_121 rfl rfl (by decide) (by omega) (by show _ < ((_ : Nat) : Int); simp only [mlen]; omega) (by decide) ?_
                      refine hv2 (show BX vb4 (up2 ab4 38 ((200 * x) + k1).toNat 0) from bxb4.set (k := 38) (i := ((200 * x) + k1).toNat) (z := 0) ⟨by decide, by decide⟩) (fpb4.set (k := 38) (i := ((200 * x) + k1).toNat) (z := 0) rfl) (fun bq2 fq2 => ?_)
                      refine m_iinc (z := k1) (j := 0) (lv2 := [(4, .int (iI (k1 + 1))), (3, .int (iI y)), (2, .int (iI x)), (0, .ref h0), (1, .int (iI q))]) C dX12_centre_122 rfl (by decide) rfl ?_
                      refine m_goto (tgt := 102) C dX12_centre_125 (by decide) ?_
                      have ra4 : 0 ≤ ab4 37 x.toNat ∧ ab4 37 x.toNat ≤ 200 := bq2.2 37 (x.toNat)
                      refine m_lv (lv2 := [(4, .int (iI (k1 + 1))), (3, .int (iI y)), (2, .int (iI x)), (0, .ref h0), (1, .int (iI q))]) [0, 1, 2, 3, 4] rfl ?_
                      exact ih3  (k1 + 1) _ _ (by omega) bq2 fq2 (by show 0 ≤ (k1 + 1) ∧ (k1 + 1) ≤ y ∧ (k1 + 1) ≤ 200 ∧ (ab4 37 x.toNat) + y ≤ 200; omega) (by show ((((ab4 37 x.toNat) = 0 ∨ v 31 ≤ (ab4 37 x.toNat)) ∧ y = 0) ∨ (0 < (ab4 37 x.toNat) ∧ (ab4 37 x.toNat) < v 31 ∧ y = (v 31 - (ab4 37 x.toNat)) / 2)); omega) (h7.mv (fun l => (bxb4.2 37 l).2) (by omega) ⟨by omega, by omega, by omega⟩ rfl)
                have ra5 : 0 ≤ ab3 37 x.toNat ∧ ab3 37 x.toNat ≤ 200 := bxb3.2 37 (x.toNat)
                refine m_lv (lv2 := [(4, .int (iI 0)), (3, .int (iI y)), (2, .int (iI x)), (0, .ref h0), (1, .int (iI q))]) [0, 1, 2, 3, 4] rfl ?_
                exact Lp3 202 0 _ _ (by omega) bxb3 fpb3 (by show 0 ≤ 0 ∧ 0 ≤ y ∧ 0 ≤ 200 ∧ (ab3 37 x.toNat) + y ≤ 200; omega) (by show ((((ab3 37 x.toNat) = 0 ∨ v 31 ≤ (ab3 37 x.toNat)) ∧ y = 0) ∨ (0 < (ab3 37 x.toNat) ∧ (ab3 37 x.toNat) < v 31 ∧ y = (v 31 - (ab3 37 x.toNat)) / 2)); omega) (h6.zr (by omega))
              · refine m_aload_n (j := 3) C dX12_centre_65 rfl ?_
                refine m_geta (k := 38) C dX12_centre_66 w6_97 (by decide) rfl ?_
                refine m_sipush (z := 200) C dX12_centre_69 (by decide) ?_
                refine m_iload_n (j := 2) C dX12_centre_72 rfl ?_
                refine m_imul C dX12_centre_73 ?_
                refine m_iload (j := 0) C dX12_centre_74 rfl ?_
                refine m_iadd C dX12_centre_76 ?_
                refine m_iload_n (j := 1) C dX12_centre_77 rfl ?_
                refine m_iadd C dX12_centre_78 ?_
                refine m_aload_n (j := 3) C dX12_centre_79 rfl ?_
                refine m_geta (k := 38) C dX12_centre_80 w6_97 (by decide) rfl ?_
                refine m_sipush (z := 200) C dX12_centre_83 (by decide) ?_
                refine m_iload_n (j := 2) C dX12_centre_86 rfl ?_
                refine m_imul C dX12_centre_87 ?_
                refine m_iload (j := 0) C dX12_centre_88 rfl ?_
                refine m_iadd C dX12_centre_90 ?_
                refine m_ald (k := 38) C dX12_centre_91 rfl rfl (by decide) (by omega) (by show _ < ((_ : Nat) : Int); simp only [mlen]; omega) (by decide) ?_
                have ra6 : (-2147483648) ≤ ab3 38 ((200 * x) + k).toNat ∧ ab3 38 ((200 * x) + k).toNat ≤ 2147483647 := bxb3.2 38 (((200 * x) + k).toNat)
                refine m_ast (k := 38) C dX12_centre_92 rfl rfl (by decide) (by omega) (by show _ < ((_ : Nat) : Int); simp only [mlen]; omega) (by decide) ?_
                refine hv2 (show BX vb3 (up2 ab3 38 (((200 * x) + k) + y).toNat (ab3 38 ((200 * x) + k).toNat)) from bxb3.set (k := 38) (i := (((200 * x) + k) + y).toNat) (z := ab3 38 ((200 * x) + k).toNat) (show (-2147483648) ≤ (ab3 38 ((200 * x) + k).toNat) ∧ (ab3 38 ((200 * x) + k).toNat) ≤ 2147483647 by omega)) (fpb3.set (k := 38) (i := (((200 * x) + k) + y).toNat) (z := ab3 38 ((200 * x) + k).toNat) rfl) (fun bq3 fq3 => ?_)
                refine m_iinc (z := k) (j := 0) (lv2 := [(4, .int (iI (k + (-1)))), (3, .int (iI y)), (2, .int (iI x)), (0, .ref h0), (1, .int (iI q))]) C dX12_centre_93 rfl (by decide) rfl ?_
                refine m_goto (tgt := 60) C dX12_centre_96 (by decide) ?_
                have ra7 : 0 ≤ ab3 37 x.toNat ∧ ab3 37 x.toNat ≤ 200 := bq3.2 37 (x.toNat)
                refine m_lv (lv2 := [(4, .int (iI (k + (-1)))), (3, .int (iI y)), (2, .int (iI x)), (0, .ref h0), (1, .int (iI q))]) [0, 1, 2, 3, 4] rfl ?_
                exact ih2  (k + (-1)) _ _ (by omega) bq3 fq3 (by show -1 ≤ (k + (-1)) ∧ (k + (-1)) < (ab3 37 x.toNat) ∧ (ab3 37 x.toNat) + y ≤ 200; omega) (by show ((((ab3 37 x.toNat) = 0 ∨ v 31 ≤ (ab3 37 x.toNat)) ∧ y = 0) ∨ (0 < (ab3 37 x.toNat) ∧ (ab3 37 x.toNat) < v 31 ∧ y = (v 31 - (ab3 37 x.toNat)) / 2)); omega) (h6.mv (fun l => (bxb3.2 37 l).2) (by omega) ⟨by omega, by omega, by omega⟩ rfl rfl)
          refine m_lv (lv2 := [(4, .int (iI ((ab2 37 x.toNat) - 1))), (3, .int (iI y)), (2, .int (iI x)), (0, .ref h0), (1, .int (iI q))]) [0, 1, 2, 3, 4] rfl ?_
          exact Lp2 202 ((ab2 37 x.toNat) - 1) _ _ (by omega) bxb2 fpb2 (by show -1 ≤ ((ab2 37 x.toNat) - 1) ∧ ((ab2 37 x.toNat) - 1) < (ab2 37 x.toNat) ∧ (ab2 37 x.toNat) + y ≤ 200; omega) (by show ((((ab2 37 x.toNat) = 0 ∨ v 31 ≤ (ab2 37 x.toNat)) ∧ y = 0) ∨ (0 < (ab2 37 x.toNat) ∧ (ab2 37 x.toNat) < v 31 ∧ y = (v 31 - (ab2 37 x.toNat)) / 2)); omega) (hC1.go (by omega) rfl)
        refine m_if_eq (tgt := 32) C (r32_c (lo := 0) (hi := 200) ra1.1 ra1.2 (by decide) (by decide)) dX12_centre_16 (by decide) (fun c4 => ?_) (fun c4 => ?_)
        · refine m_iconst C dX12_centre_32 ?_
          refine m_goto (tgt := 49) C dX12_centre_33 (by decide) ?_
          refine m_lv (lv2 := [(2, .int (iI x)), (0, .ref h0), (1, .int (iI q))]) [0, 1, 2] rfl ?_
          exact J1  0 _ _  bxb1 fpb1 (by show 0 ≤ 0 ∧ (ab1 37 x.toNat) + 0 ≤ 200; omega) (by show ((((ab1 37 x.toNat) = 0 ∨ v 31 ≤ (ab1 37 x.toNat)) ∧ 0 = 0) ∨ (0 < (ab1 37 x.toNat) ∧ (ab1 37 x.toNat) < v 31 ∧ 0 = (v 31 - (ab1 37 x.toNat)) / 2)); omega) hC
        · refine m_aload_n (j := 1) C dX12_centre_19 rfl ?_
          refine m_geta (k := 37) C dX12_centre_20 w6_96 (by decide) rfl ?_
          refine m_iload_n (j := 0) C dX12_centre_23 rfl ?_
          refine m_ald (k := 37) C dX12_centre_24 rfl rfl (by decide) (by omega) (by show _ < ((_ : Nat) : Int); simp only [mlen]; omega) (by decide) ?_
          refine m_aload_n (j := 1) C dX12_centre_25 rfl ?_
          refine hv2 (show 1 ≤ vb1 31 ∧ vb1 31 ≤ 100 from bxb1.1 31) (show vb1 31 = v 31 from fpb1.1 31 rfl) (fun rv2 ve2 => ?_)
          refine m_get (k := 31) C dX12_centre_26 w6_90 (by decide) rfl ?_
          refine m_st (st2 := [.int (iI (v 31)), .int (iI (ab1 37 x.toNat))]) (congrArg (fun z => Value.int (iI z) :: [.int (iI (ab1 37 x.toNat))]) (fpb1.1 31 rfl)) ?_
          refine m_icmp_lt (tgt := 36) C (r32_c (lo := 0) (hi := 200) ra1.1 ra1.2 (by decide) (by decide)) (r32_c (lo := 1) (hi := 100) (Int.le_trans rv2.1 (Int.le_of_eq ve2)) (Int.le_trans (Int.le_of_eq ve2.symm) rv2.2) (by decide) (by decide)) dX12_centre_29 (by decide) (fun c5 => ?_) (fun c5 => ?_)
          · refine m_aload_n (j := 1) C dX12_centre_36 rfl ?_
            refine m_get (k := 31) C dX12_centre_37 w6_90 (by decide) rfl ?_
            refine m_st (st2 := [.int (iI (v 31))]) (congrArg (fun z => Value.int (iI z) :: []) (fpb1.1 31 rfl)) ?_
            refine m_aload_n (j := 1) C dX12_centre_40 rfl ?_
            refine m_geta (k := 37) C dX12_centre_41 w6_96 (by decide) rfl ?_
            refine m_iload_n (j := 0) C dX12_centre_44 rfl ?_
            refine m_ald (k := 37) C dX12_centre_45 rfl rfl (by decide) (by omega) (by show _ < ((_ : Nat) : Int); simp only [mlen]; omega) (by decide) ?_
            refine m_isub C dX12_centre_46 ?_
            refine m_iconst C dX12_centre_47 ?_
            obtain ⟨dq1, hdq1⟩ : ∃ q : Int, q = ((v 31) - (ab1 37 x.toNat)) / 2 := ⟨_, rfl⟩
            refine m_idiv (w := iI dq1) C dX12_centre_48 (iI_ne0 ⟨by omega, by omega⟩) (by rw [hdq1]; exact iI_div ⟨by omega, by omega⟩ ⟨by omega, by omega⟩) ?_
            refine m_lv (lv2 := [(2, .int (iI x)), (0, .ref h0), (1, .int (iI q))]) [0, 1, 2] rfl ?_
            exact J1  dq1 _ _  bxb1 fpb1 (by show 0 ≤ dq1 ∧ (ab1 37 x.toNat) + dq1 ≤ 200; omega) (by show ((((ab1 37 x.toNat) = 0 ∨ v 31 ≤ (ab1 37 x.toNat)) ∧ dq1 = 0) ∨ (0 < (ab1 37 x.toNat) ∧ (ab1 37 x.toNat) < v 31 ∧ dq1 = (v 31 - (ab1 37 x.toNat)) / 2)); omega) hC
          · refine m_iconst C dX12_centre_32 ?_
            refine m_goto (tgt := 49) C dX12_centre_33 (by decide) ?_
            refine m_lv (lv2 := [(2, .int (iI x)), (0, .ref h0), (1, .int (iI q))]) [0, 1, 2] rfl ?_
            exact J1  0 _ _  bxb1 fpb1 (by show 0 ≤ 0 ∧ (ab1 37 x.toNat) + 0 ≤ 200; omega) (by show ((((ab1 37 x.toNat) = 0 ∨ v 31 ≤ (ab1 37 x.toNat)) ∧ 0 = 0) ∨ (0 < (ab1 37 x.toNat) ∧ (ab1 37 x.toNat) < v 31 ∧ 0 = (v 31 - (ab1 37 x.toNat)) / 2)); omega) hC
  refine m_lv (lv2 := [(2, .int (iI q)), (0, .ref h0), (1, .int (iI q))]) [0, 1, 2] rfl ?_
  exact Lp1 202 q _ _ (by omega) hB fp0 (by omega) CN2.init
end
section
def nxe (T : Nat → Int) (N : Int) (s : Int × Nat × List (Int × List (Int × Nat × Int))) : Int × Nat × List (Int × List (Int × Nat × Int)) := if s.1 = 0 then (if N ≤ ((s.2.1 : Nat) : Int) then s else (if T s.2.1 = 94 then (2, s.2.1 + 1, (1, []) :: s.2.2) else (1, s.2.1, (1, []) :: s.2.2))) else (if (TWF T N ((s.2.1 : Nat) : Int)).2.length = 0 then (0, (TWF T N ((s.2.1 : Nat) : Int)).1 + 1, (if s.1 = 2 then 4 else 3, []) :: s.2.2) else (s.1, (TWF T N ((s.2.1 : Nat) : Int)).1, (2, (TWF T N ((s.2.1 : Nat) : Int)).2) :: s.2.2))
def evs (T : Nat → Int) (N : Int) : Nat → Int × Nat × List (Int × List (Int × Nat × Int))
  | 0 => (0, 0, [])
  | k + 1 => nxe T N (evs T N k)
def RNE (T : Nat → Int) (N m : Int) (p : Int) (es : List (Int × List (Int × Nat × Int))) : Prop := 0 ≤ p ∧ ∃ k, evs T N k = (m, p.toNat, es)
def ENDV (T : Nat → Int) (N : Int) (es : List (Int × List (Int × Nat × Int))) : Prop := ∃ p, RNE T N 0 p es ∧ N ≤ p
def WSS (a : Nat → Nat → Int) (t : Int) (w : List (Int × Nat × Int)) (cs : List Int) (st : Nat → Int) : Prop := WST a t w cs ∧ (a 6 t.toNat ≠ 5 → ∃ ps, SPS a (lts w) t 0 ((w.length : Nat) : Int) 0 ps ∧ cs = cls ps ∧ st = fun j => bgn ps 0 j (-1)) ∧ (a 6 t.toNat = 5 → st = fun _ => -1)
def STV (a : Nat → Nat → Int) (t wd hy : Int) (e : (Int × List (Int × Nat × Int))) (D0 : List (List Int)) (b0 : Nat) (D : List (List Int)) (b : Nat) : Prop := (e.1 = 1 ∧ D0.length < 200 ∧ D = D0 ++ [[]] ∧ b = D0.length) ∨ (e.1 = 2 ∧ (∃ D1 x1 cs st, D0 = D1 ++ [x1] ∧ WSS a t e.2 cs st ∧ flw (brk a t e.2 st) wd hy cs 201 0 D1 x1 = some D) ∧ b = b0) ∨ (e.1 = 3 ∧ D = D0 ∧ b = b0) ∨ (e.1 = 4 ∧ D = cnl wd b0 D0 ∧ b = b0)
def drs (a : Nat → Nat → Int) (t wd hy : Int) : List (Int × List (Int × Nat × Int)) → List (List Int) → Nat → Prop
  | [], D, b => D = [] ∧ b = 0
  | e :: es, D, b => ∃ D0 b0, drs a t wd hy es D0 b0 ∧ STV a t wd hy e D0 b0 D b
def BADV (T : Nat → Int) (N : Int) (a : Nat → Nat → Int) (t wd hy : Int) : Prop := ∃ m p es, RNE T N m p es ∧ ¬ ∃ D b, drs a t wd hy es D b
def SHH (v : Nat → Int) (a : Nat → Nat → Int) (D : List (List Int)) : Prop := v 36 = ((D.length : Nat) : Int) ∧ ∀ (l : Nat) (xs : List Int), D[l]? = some xs → a 34 l = ((xs.length : Nat) : Int) ∧ ∀ (j : Nat) (x : Int), xs[j]? = some x → a 35 (200 * l + j) = x
def SETD (v : Nat → Int) (a : Nat → Nat → Int) (t f : Int) (D : List (List Int)) : Prop := WHL v a t ∧ ∃ es b, ENDV (a 29) (v 30) es ∧ drs a t (v 31) (v 33) es D b ∧ f = ((D.length : Nat) : Int)
def SETN (v : Nat → Int) (a : Nat → Nat → Int) (t f : Int) : Prop := f = -1 ∧ (¬ WHL v a t ∨ (WHL v a t ∧ BADV (a 29) (v 30) a t (v 31) (v 33)))
def KSH (v : Nat → Int) (a : Nat → Nat → Int) (v2 : Nat → Int) (a2 : Nat → Nat → Int) : Prop := v2 36 = v 36 ∧ a2 34 = a 34 ∧ a2 35 = a 35
def SETX (v : Nat → Int) (a : Nat → Nat → Int) (v2 : Nat → Int) (a2 : Nat → Nat → Int) (t f : Int) : Prop := (SETN v a t f ∧ KSH v a v2 a2) ∨ ∃ D, SETD v a t f D ∧ SHH v2 a2 D
section EVNS
variable {v v1 v2 v3 : Nat → Int} {a a1 a2 a3 : Nat → Nat → Int} {T W : Nat → Int} {N q u p b f f1 f2 z x y m t n wd hy l r k : Int} {w : List (Int × Nat × Int)} {es es2 : List (Int × List (Int × Nat × Int))} {D D2 D0 : List (List Int)} {b0 b1 b2 : Nat} {cs ds xs : List Int} {st st2 : Nat → Int} {ps : List (Int × List Int)}
theorem snocx {α : Type} : ∀ D : List α, D.length ≠ 0 → ∃ D1 u, D = D1 ++ [u] := by
  intro D
  induction D with
  | nil => intro h; exact absurd rfl h
  | cons x D ih =>
    intro _
    by_cases c : D.length = 0
    · have e := List.length_eq_zero_iff.mp c
      subst e
      exact ⟨[], x, rfl⟩
    · obtain ⟨D1, u, e⟩ := ih c
      exact ⟨x :: D1, u, by rw [e]; rfl⟩
theorem app_inj {α : Type} {D1 D2 : List α} {u m : α} (h : D1 ++ [u] = D2 ++ [m]) : D1 = D2 ∧ u = m := by
  have h1 := congrArg List.length h
  rw [len1, len1] at h1
  have e := List.append_inj h (by omega)
  exact ⟨e.1, by have e2 := e.2; injection e2⟩
theorem evs_s (k : Nat) : evs T N (k + 1) = nxe T N (evs T N k) := rfl
theorem nxe_ext (s : Int × Nat × List (Int × List (Int × Nat × Int))) : ∃ r, (nxe T N s).2.2 = r ++ s.2.2 := by
  unfold nxe
  split
  · split
    · exact ⟨[], rfl⟩
    · split
      · exact ⟨[_], rfl⟩
      · exact ⟨[_], rfl⟩
  · split
    · exact ⟨[_], rfl⟩
    · exact ⟨[_], rfl⟩
theorem evs_ext (k : Nat) : ∀ d : Nat, ∃ r, (evs T N (k + d)).2.2 = r ++ (evs T N k).2.2 := by
  intro d
  induction d with
  | zero => exact ⟨[], rfl⟩
  | succ d ih =>
    obtain ⟨r, h⟩ := ih
    obtain ⟨r2, h2⟩ := nxe_ext (T := T) (N := N) (evs T N (k + d))
    refine ⟨r2 ++ r, ?_⟩
    rw [← Nat.add_assoc, evs_s, h2, h, List.append_assoc]
theorem evs_end {P k : Nat} (h : evs T N k = (0, P, es)) (hN : N ≤ ((P : Nat) : Int)) : ∀ d : Nat, evs T N (k + d) = (0, P, es) := by
  intro d
  induction d with
  | zero => exact h
  | succ d ih =>
    rw [← Nat.add_assoc, evs_s, ih]
    unfold nxe
    rw [if_pos (by show (0 : Int) = 0; rfl), if_pos (by show N ≤ ((P : Nat) : Int); exact hN)]
theorem RNE.sub (h : RNE T N m p es) (h2 : ENDV T N es2) : ∃ r, es2 = r ++ es := by
  obtain ⟨_, k, e⟩ := h
  obtain ⟨p2, ⟨_, k2, e2⟩, hN⟩ := h2
  have e3 := evs_end e2 (by omega) k
  obtain ⟨r, h4⟩ := evs_ext (T := T) (N := N) k k2
  rw [Nat.add_comm k k2, e3, e] at h4
  exact ⟨r, h4⟩
theorem ENDV.uni (h : ENDV T N es) (h2 : ENDV T N es2) : es = es2 := by
  obtain ⟨p, g, gN⟩ := h
  obtain ⟨p2, g2, gN2⟩ := h2
  obtain ⟨r, e⟩ := g.sub ⟨p2, g2, gN2⟩
  obtain ⟨r2, e2⟩ := g2.sub ⟨p, g, gN⟩
  refine hv2 (congrArg List.length e) (congrArg List.length e2) (fun l1 l2 => ?_)
  rw [List.length_append] at l1 l2
  have e0 : r = [] := List.length_eq_zero_iff.mp (by omega)
  rw [e, e0]
  rfl
theorem RNE.zero : RNE T N 0 0 [] := ⟨Int.le_refl _, 0, rfl⟩
theorem nxe0 (P : Nat) (hP : ((P : Nat) : Int) < N) : nxe T N (0, P, es) = if T P = 94 then (2, P + 1, (1, []) :: es) else (1, P, (1, []) :: es) := by
  unfold nxe
  rw [if_pos (by show (0 : Int) = 0; rfl), if_neg (by show ¬ N ≤ ((P : Nat) : Int); omega)]
theorem nxe1 (P : Nat) (hP : ((P : Nat) : Int) = p) (hm : m ≠ 0) : nxe T N (m, P, es) = if (TWF T N p).2.length = 0 then (0, (TWF T N p).1 + 1, (if m = 2 then 4 else 3, []) :: es) else (m, (TWF T N p).1, (2, (TWF T N p).2) :: es) := by
  subst hP
  unfold nxe
  rw [if_neg (by show ¬ m = 0; exact hm)]
theorem RNE.enter (h : RNE T N 0 p es) (hp : p < N) (hz : (T p.toNat = 94 ∧ z = p + 1 ∧ m = 2) ∨ (T p.toNat ≠ 94 ∧ z = p ∧ m = 1)) : RNE T N m z ((1, []) :: es) := by
  obtain ⟨h0, k, e⟩ := h
  refine ⟨by omega, k + 1, ?_⟩
  rw [evs_s, e, nxe0 (N := N) p.toNat (by omega)]
  rcases hz with ⟨e1, e2, e3⟩ | ⟨e1, e2, e3⟩
  · rw [if_pos e1, e3, show z.toNat = p.toNat + 1 by omega]
  · rw [if_neg e1, e3, e2]
theorem RNE.word (h : RNE T N m p es) (hm : m ≠ 0) (hr : TWF T N p = (z.toNat, w)) (hz : 0 ≤ z) (hw : w.length ≠ 0) : RNE T N m z ((2, w) :: es) := by
  obtain ⟨h0, k, e⟩ := h
  refine hv2 (show (TWF T N p).2 = w from congrArg Prod.snd hr) (show (TWF T N p).1 = z.toNat from congrArg Prod.fst hr) (fun e3 e4 => ?_)
  refine ⟨hz, k + 1, ?_⟩
  rw [evs_s, e, nxe1 (p := p) p.toNat (by omega) hm, e3, e4, if_neg hw]
theorem RNE.line (h : RNE T N m p es) (hm : m ≠ 0) (hr : TWF T N p = (z.toNat, w)) (hz : 0 ≤ z) (hw : w.length = 0) : RNE T N 0 (z + 1) ((if m = 2 then 4 else 3, []) :: es) := by
  obtain ⟨h0, k, e⟩ := h
  refine hv2 (show (TWF T N p).2 = w from congrArg Prod.snd hr) (show (TWF T N p).1 = z.toNat from congrArg Prod.fst hr) (fun e3 e4 => ?_)
  refine ⟨by omega, k + 1, ?_⟩
  rw [evs_s, e, nxe1 (p := p) p.toNat (by omega) hm, e3, e4, if_pos hw, show (z + 1).toNat = z.toNat + 1 by omega]
theorem ptp.uni2 (hT : TBL v a) (ht : 0 ≤ t ∧ t < v 4) {qs : List (Int × List Int)} (h : SPS a W t 0 n 0 ps) (h2 : SPS a W t 0 n 0 qs) : ps = qs := by
  obtain ⟨⟨y, h1, h3⟩, _⟩ := h
  obtain ⟨⟨z, g1, g3⟩, _⟩ := h2
  exact ptp.uni hT ht.1 ht.2 h1 h3 g1 g3
theorem WSS.uni (hT : TBL v a) (ht : 0 ≤ t ∧ t < v 4) (h : WSS a t w cs st) (h2 : WSS a t w ds st2) : cs = ds ∧ st = st2 := by
  obtain ⟨p1, p2, p3⟩ := h
  obtain ⟨q1, q2, q3⟩ := h2
  refine ⟨SWC.uni hT ht p1 q1, ?_⟩
  by_cases c : a 6 t.toNat = 5
  · rw [p3 c, q3 c]
  · obtain ⟨ps, k1, _, k3⟩ := p2 c
    obtain ⟨qs, j1, _, j3⟩ := q2 c
    rw [k3, j3, ptp.uni2 hT ht k1 j1]
theorem STV.uni {e : (Int × List (Int × Nat × Int))} {B1 B2 : Nat} (hT : TBL v a) (ht : 0 ≤ t ∧ t < v 4) (h : STV a t wd hy e D0 b0 D B1) (h2 : STV a t wd hy e D0 b0 D2 B2) : D = D2 ∧ B1 = B2 := by
  rcases h with ⟨e1, _, e2, e3⟩ | ⟨e1, ⟨D1, x1, cs, st, k1, k2, k3⟩, e3⟩ | ⟨e1, e2, e3⟩ | ⟨e1, e2, e3⟩ <;> rcases h2 with ⟨d1, _, d2, d3⟩ | ⟨d1, ⟨D3, x3, ds, st3, j1, j2, j3⟩, d3⟩ | ⟨d1, d2, d3⟩ | ⟨d1, d2, d3⟩
  · exact ⟨e2.trans d2.symm, e3.trans d3.symm⟩
  · omega
  · omega
  · omega
  · omega
  · obtain ⟨i1, i2⟩ := app_inj (k1.symm.trans j1)
    obtain ⟨c1, c2⟩ := WSS.uni hT ht k2 j2
    subst i1
    subst i2
    subst c1
    subst c2
    rw [k3] at j3
    injection j3 with j4
    exact ⟨j4, e3.trans d3.symm⟩
  · omega
  · omega
  · omega
  · omega
  · exact ⟨e2.trans d2.symm, e3.trans d3.symm⟩
  · omega
  · omega
  · omega
  · omega
  · exact ⟨e2.trans d2.symm, e3.trans d3.symm⟩
theorem drs.uni (hT : TBL v a) (ht : 0 ≤ t ∧ t < v 4) : ∀ (es : List (Int × List (Int × Nat × Int))) (D D2 : List (List Int)) (B1 B2 : Nat), drs a t wd hy es D B1 → drs a t wd hy es D2 B2 → D = D2 ∧ B1 = B2 := by
  intro es
  induction es with
  | nil =>
    intro D D2 B1 B2 h h2
    obtain ⟨e1, e2⟩ := h
    obtain ⟨d1, d2⟩ := h2
    exact ⟨e1.trans d1.symm, e2.trans d2.symm⟩
  | cons e es ih =>
    intro D D2 B1 B2 h h2
    obtain ⟨D3, b3, g1, g2⟩ := h
    obtain ⟨D4, b4, j1, j2⟩ := h2
    obtain ⟨i1, i2⟩ := ih D3 D4 b3 b4 g1 j1
    subst i1
    subst i2
    exact STV.uni hT ht g2 j2
theorem drs.tail : ∀ (rs : List (Int × List (Int × Nat × Int))) (es : List (Int × List (Int × Nat × Int))) (D : List (List Int)) (B : Nat), drs a t wd hy (rs ++ es) D B → ∃ D2 B2, drs a t wd hy es D2 B2 := by
  intro rs
  induction rs with
  | nil => intro es D B h; exact ⟨D, B, h⟩
  | cons e rs ih =>
    intro es D B h
    obtain ⟨D3, b3, g1, _⟩ := h
    exact ih es D3 b3 g1
theorem BADV.no {B : Nat} (h : BADV T N a t wd hy) (h2 : ENDV T N es) (h3 : drs a t wd hy es D B) : False := by
  obtain ⟨m, p, es1, g1, g2⟩ := h
  obtain ⟨r, e⟩ := g1.sub h2
  subst e
  exact g2 (drs.tail r es1 D B h3)
theorem SETD.uni (hT : TBL v a) (h : SETD v a t f1 D) (h2 : SETD v a t f2 D2) : f1 = f2 ∧ D = D2 := by
  obtain ⟨w1, es1, b1, p1, p2, p3⟩ := h
  obtain ⟨_, es3, b3, q1, q2, q3⟩ := h2
  refine hv2 (WHL.tr w1) (p1.uni q1) (fun ht e => ?_)
  subst e
  obtain ⟨e1, _⟩ := drs.uni hT ⟨ht.1, ht.2.1⟩ es1 D D2 b1 b3 p2 q2
  subst e1
  exact ⟨p3.trans q3.symm, rfl⟩
theorem SETN.no (h : SETN v a t f1) (h2 : SETD v a t f2 D) : False := by
  obtain ⟨_, g⟩ := h
  obtain ⟨w1, es1, b1, p1, p2, _⟩ := h2
  rcases g with g | ⟨_, g⟩
  · exact g w1
  · exact g.no p1 p2
theorem fnd_rng (hT : TBL v a) (h30 : v 4 ≤ 30) (h10 : ∀ i, a 10 i ≤ 200) : ∀ (n : Nat) (W : Nat → Int) (t r : Int), 0 ≤ t → t < v 4 → fnd a q u x n W t r → FNP a u x r := by
  intro n
  induction n with
  | zero => intro W t r _ _ h; exact False.elim h
  | succ n ih =>
    intro W t r h0 h4 h
    have ht := hT.1 t h0 h4
    have t8 : 1 ≤ a 6 t.toNat → a 6 t.toNat ≤ 3 → 0 ≤ a 8 t.toNat ∧ a 8 t.toNat < v 4 := by omega
    have t6 : a 6 t.toNat ≠ 1 → a 6 t.toNat ≠ 2 → a 6 t.toNat ≠ 3 → a 6 t.toNat < 1 ∨ 3 < a 6 t.toNat := by omega
    clear ht
    rw [fnd_s] at h
    obtain ⟨p1, p2, p3, p4⟩ := h
    by_cases k1 : a 6 t.toNat = 1
    · obtain ⟨y, z, e1, e2, e3⟩ := p1 k1
      rw [e3]
      exact cmb_rg (P := FNP a u x) (own_rg hT h30 h0 h4 (h10 _) e1) (ih W _ z (t8 (by omega) (by omega)).1 (t8 (by omega) (by omega)).2 e2)
    · by_cases k2 : a 6 t.toNat = 2
      · by_cases c : isD (W x.toNat)
        · exact own_rg hT h30 h0 h4 (h10 _) ((p2 k2).1 c)
        · exact ih W _ r (t8 (by omega) (by omega)).1 (t8 (by omega) (by omega)).2 ((p2 k2).2 c)
      · by_cases k3 : a 6 t.toNat = 3
        · obtain ⟨y, z, e1, e2, e3⟩ := p3 k3
          rw [e3]
          exact cmb_rg (P := FNP a u x) (own_rg hT h30 h0 h4 (h10 _) e1) (ih _ _ z (t8 (by omega) (by omega)).1 (t8 (by omega) (by omega)).2 e2)
        · exact own_rg hT h30 h0 h4 (h10 _) (p4 (t6 k1 k2 k3))
theorem PC1.rg (hT : TBL v a) (h30 : v 4 ≤ 30) (h10 : ∀ i, a 10 i ≤ 200) (ht : 0 ≤ t ∧ t < v 4) (h : PC1 a W t q u x l cs) : 1 ≤ l ∧ 1 ≤ cs.length := by
  obtain ⟨r, ⟨r0, e⟩, p⟩ := h
  rcases p with ⟨p4, p5⟩ | ⟨_, _, p6, p7⟩
  · have g := fnd_rng hT h30 h10 _ _ _ _ ht.1 ht.2 p4
    rcases g with g | ⟨g1, g2, g3, g4, g5⟩
    · omega
    · have e2 := RCL.len (a := a) (r := r) (by omega)
      rw [p5, List.length_append]
      omega
  · have g := fnd_rng hT h30 h10 _ _ _ _ ht.1 ht.2 p6
    rcases g with g | ⟨g1, g2, g3, g4, g5⟩
    · omega
    · have e2 := RCL.len (a := a) (r := r) (by omega)
      rw [p7, List.length_append]
      omega
theorem bgn_lt {i : Nat} : ∀ (ps : List (Int × List Int)) (m d : Int), (∀ p ∈ ps, 1 ≤ p.2.length) → d < m + (((cls ps).length : Nat) : Int) → bgn ps m i d < m + (((cls ps).length : Nat) : Int) := by
  intro ps
  induction ps with
  | nil => intro m d _ h; exact h
  | cons p ps ih =>
    intro m d hp h
    have e := hp p List.mem_cons_self
    rw [cls_cons, List.length_append] at h ⊢
    have g := ih (m + ((p.2.length : Nat) : Int)) (if i = p.1.toNat then m else d) (fun q hq => hp q (List.mem_cons_of_mem _ hq)) (by push_cast at h; split <;> omega)
    show bgn ps (m + ((p.2.length : Nat) : Int)) i (if i = p.1.toNat then m else d) < _
    push_cast
    omega
theorem ptp.ne (hl : ∀ x l cs, PC1 a W t q u x l cs → 1 ≤ l ∧ 1 ≤ cs.length) : ∀ (ps : List (Int × List Int)) (x y : Int), ptp a W t q u x ps y → ∀ p ∈ ps, 1 ≤ p.2.length := by
  intro ps
  induction ps with
  | nil => intro x y _ p hp; cases hp
  | cons p0 ps ih =>
    intro x y h p hp
    obtain ⟨_, _, l, h3, h4⟩ := h
    rcases List.mem_cons.mp hp with e | e
    · rw [e]; exact (hl x l _ h3).2
    · exact ih _ _ h4 p e
theorem ptp.mono (hl : ∀ x l cs, PC1 a W t q u x l cs → 1 ≤ l ∧ 1 ≤ cs.length) {i j : Nat} (hij : i < j) : ∀ (ps : List (Int × List Int)) (x m di dj : Int), ptp a W t q u x ps y → 0 ≤ x → 0 ≤ m → (0 ≤ di → 0 ≤ dj → di ≤ dj) → (x ≤ ((j : Nat) : Int) → dj = -1) → di ≤ m → dj ≤ m → 0 ≤ bgn ps m i di → 0 ≤ bgn ps m j dj → bgn ps m i di ≤ bgn ps m j dj := by
  intro ps
  induction ps with
  | nil => intro x m di dj _ _ _ c1 _ _ _ h1 h2; exact c1 h1 h2
  | cons p ps ih =>
    intro x m di dj h h0 hm c1 c2 c3 c4 h1 h2
    obtain ⟨_, e, l, h3, h4⟩ := h
    refine hv2 ((hl x l _ h3).1) (show p.1.toNat = x.toNat from by rw [e]) (fun l1 ex => ?_)
    refine ih (x + l) (m + ((p.2.length : Nat) : Int)) _ _ h4 (by omega) (by omega) ?_ ?_ ?_ ?_ h1 h2
    · intro g1 g2
      by_cases ci : i = p.1.toNat
      · rw [if_pos ci] at g1 ⊢
        rw [if_neg (by omega)] at g2 ⊢
        have := c2 (by omega)
        omega
      · rw [if_neg ci] at g1 ⊢
        by_cases cj : j = p.1.toNat
        · rw [if_pos cj]
          exact c3
        · rw [if_neg cj] at g2 ⊢
          exact c1 g1 g2
    · intro g
      rw [if_neg (by omega)]
      exact c2 (by omega)
    · split <;> omega
    · split <;> omega
theorem WSS.lt (hT : TBL v a) (h30 : v 4 ≤ 30) (h10 : ∀ i, a 10 i ≤ 200) (ht : 0 ≤ t ∧ t < v 4) (h : WSS a t w cs st) (h5 : a 6 t.toNat ≠ 5) (j : Nat) : st j < ((cs.length : Nat) : Int) := by
  obtain ⟨ps, ⟨⟨y, k1, _⟩, _⟩, k2, k3⟩ := h.2.1 h5
  rw [k3, k2]
  have g := bgn_lt (i := j) ps 0 (-1) (ptp.ne (fun x l cs hp => PC1.rg hT h30 h10 ht hp) ps 0 y k1) (by omega)
  rw [Int.zero_add] at g
  exact g
theorem WSS.mono (hT : TBL v a) (h30 : v 4 ≤ 30) (h10 : ∀ i, a 10 i ≤ 200) (ht : 0 ≤ t ∧ t < v 4) (h : WSS a t w cs st) (h5 : a 6 t.toNat ≠ 5) {i j : Nat} (hij : i < j) (h1 : 0 ≤ st i) (h2 : 0 ≤ st j) : st i ≤ st j := by
  obtain ⟨ps, ⟨⟨y, k1, _⟩, _⟩, k2, k3⟩ := h.2.1 h5
  rw [k3] at h1 h2 ⊢
  exact ptp.mono (fun x l cs hp => PC1.rg hT h30 h10 ht hp) hij ps 0 0 (-1) (-1) k1 (by omega) (by omega) (fun g => absurd g (by decide)) (fun _ => rfl) (by decide) (by decide) h1 h2
theorem SWT.wss (hs : SWT v1 a1 v2 a2 t f) (hb : SWB v1 a1 v2 a2 t f) (hf : f = 1) (hT : TBL v a) (h30 : v 4 ≤ 30) (h10 : ∀ i, a 10 i ≤ 200) (ht : 0 ≤ t ∧ t < v 4) (hE : TBE a1 a) (hw : WDH v1 a1 w) (h12 : ∀ i, 0 ≤ a 12 i) : ∃ cs st, WSS a t w cs st ∧ MDH v2 a2 cs ∧ (a 6 t.toNat ≠ 5 → ∀ j : Nat, j < w.length → a2 26 j = st j ∧ st j < ((cs.length : Nat) : Int)) := by
  refine hv3 (lts_w hw) (hw.1) (hE 6 (by decide)) (fun ag e e6 => ?_)
  obtain ⟨cs, g1, g2⟩ := hs.2.1 hf
  rw [e] at g1
  have ws : WST a t w cs := SWC_w ag h12 (SWC_cg hE g1)
  by_cases h5 : a 6 t.toNat = 5
  · exact ⟨cs, fun _ => -1, ⟨ws, fun c => absurd h5 c, fun _ => rfl⟩, g2, fun c => absurd h5 c⟩
  · obtain ⟨ps, k1, k2, k3⟩ := hb hf (by rw [e6]; exact h5)
    rw [e] at k1 k3
    have k4 := SPS_cg hE k1
    have k5 : SPS a (lts w) t 0 ((w.length : Nat) : Int) 0 ps := by
      obtain ⟨⟨y, j1, j2⟩, j3⟩ := k4
      exact ⟨⟨y, ptp_w ag (Int.le_refl _) h12 ps 0 y (Int.le_refl _) j1, j2⟩, j3⟩
    have ec : cs = cls ps := SWC.uni hT ht ws (Or.inl ⟨h5, ps, k5, rfl⟩)
    have wss : WSS a t w cs (fun j => bgn ps 0 j (-1)) := ⟨ws, fun _ => ⟨ps, k5, ec, rfl⟩, fun c => absurd c h5⟩
    exact ⟨cs, _, wss, g2, fun _ j hj => ⟨k3 j (by omega), wss.lt hT h30 h10 ht h5 j⟩⟩
theorem SWC.pos (hT : TBL v a) (h30 : v 4 ≤ 30) (h10 : ∀ i, a 10 i ≤ 200) (h16 : ∀ i, 0 ≤ a 16 i) (ht : 0 ≤ t ∧ t < v 4) (hn : 0 < n) (h : SWC a W n t cs) : 1 ≤ cs.length := by
  rcases h with ⟨_, ps, ⟨⟨y, k1, k2⟩, _⟩, k3⟩ | ⟨h5, _, js, ps, g, x, k1, k2, k3⟩
  · cases ps with
    | nil => cases k1; omega
    | cons p ps =>
      have g := ptp.ne (fun x l cs hp => PC1.rg hT h30 h10 ht hp) _ 0 y k1 p List.mem_cons_self
      rw [k3, cls_cons, List.length_append]
      omega
  · have tt := hT.1 t ht.1 ht.2
    cases js with
    | cons p js =>
      obtain ⟨_, _, k4, _⟩ := k1
      have e := ICL.len (a := a) (r := ind4 t 0) (h16 _)
      rw [k3]
      show 1 ≤ (((cls p.2 ++ ICL a (ind4 t 0)) ++ jcl a t (1 - 0) js) ++ cls ps).length
      rw [List.length_append, List.length_append, List.length_append]
      omega
    | nil =>
      obtain ⟨e1, e2⟩ := k1
      obtain ⟨_, _, _, z, j1, j2⟩ := k2
      cases ps with
      | nil => cases j1; omega
      | cons p ps =>
        have tp : 0 ≤ prt a t g ∧ prt a t g < v 4 := by
          unfold prt
          split <;> omega
        have g := ptp.ne (fun x l cs hp => PC1.rg hT h30 h10 tp hp) _ _ z j1 p List.mem_cons_self
        rw [k3, cls_cons, List.length_append, List.length_append]
        omega
theorem flw_len {br : Int → Int → Int} : ∀ (n d : Nat) (D : List (List Int)) (xs : List Int) (D2 : List (List Int)), flw br wd hy cs n d D xs = some D2 → D.length + 1 ≤ D2.length := by
  intro n
  induction n with
  | zero => intro d D xs D2 h; cases h
  | succ n ih =>
    intro d D xs D2 h
    rw [flw_s] at h
    split at h
    · injection h with h1
      rw [← h1, len1]
      exact Nat.le_refl _
    · split at h
      · split at h
        · have g := ih _ _ _ _ h
          rw [len1] at g
          omega
        · cases h
      · split at h
        · injection h with h1
          rw [← h1, len1]
          exact Nat.le_refl _
        · split at h
          · have g := ih _ _ _ _ h
            rw [len1] at g
            omega
          · cases h
end EVNS
def SE2 (v : Nat → Int) (a : Nat → Nat → Int) (v1 : Nat → Int) (a1 : Nat → Nat → Int) (t x : Int) : Prop := ∃ es D b, RNE (a 29) (v 30) 0 x es ∧ drs a t (v 31) (v 33) es D b ∧ DRH v1 a1 D
def SE3 (v : Nat → Int) (a : Nat → Nat → Int) (v1 : Nat → Int) (a1 : Nat → Nat → Int) (t g q p : Int) : Prop := ∃ es D b, RNE (a 29) (v 30) (1 + g) p es ∧ drs a t (v 31) (v 33) es D b ∧ DRH v1 a1 D ∧ ((b : Nat) : Int) = q ∧ b < D.length
def SE4 (v : Nat → Int) (a : Nat → Nat → Int) (v1 : Nat → Int) (a1 : Nat → Nat → Int) (t g q z : Int) : Prop := ∃ p w, SE3 v a v1 a1 t g q p ∧ TWF (a 29) (v 30) p = (z.toNat, w) ∧ WDH v1 a1 w
def SC1 (a1 : Nat → Nat → Int) (y : Int) : Prop := ∀ l : Nat, ((l : Nat) : Int) < y → a1 34 l = a1 37 l ∧ ∀ j : Nat, ((j : Nat) : Int) < a1 37 l → a1 35 (200 * l + j) = a1 38 (200 * l + j)
def SC2 (a1 : Nat → Nat → Int) (y z : Int) : Prop := SC1 a1 y ∧ a1 34 y.toNat = a1 37 y.toNat ∧ ∀ j : Nat, ((j : Nat) : Int) < z → a1 35 (200 * y.toNat + j) = a1 38 (200 * y.toNat + j)
def SE5 (v : Nat → Int) (a : Nat → Nat → Int) (v1 : Nat → Int) (a1 : Nat → Nat → Int) (t : Int) : Prop := ∃ es D b, ENDV (a 29) (v 30) es ∧ drs a t (v 31) (v 33) es D b ∧ DRH v1 a1 D ∧ v1 36 = v1 39
section RSET
variable {v v1 v2 v3 : Nat → Int} {a a1 a2 a3 : Nat → Nat → Int} {q u p b f f1 f2 z x y m t n g k c : Int} {w : List (Int × Nat × Int)} {es : List (Int × List (Int × Nat × Int))} {D : List (List Int)} {i i2 : Nat} {cs : List Int} {st : Nat → Int}
theorem SE2.init (h : v1 39 = 0) : SE2 v a v1 a1 t 0 := ⟨[], [], 0, RNE.zero, ⟨rfl, rfl⟩, h, fun l xs e => by simp at e⟩
theorem SE2.fr (h : SE2 v a v1 a1 t x) (hv : v2 39 = v1 39) (h37 : a2 37 = a1 37) (h38 : a2 38 = a1 38) : SE2 v a v2 a2 t x := by
  obtain ⟨es, D, b, h1, h2, h3⟩ := h
  exact ⟨es, D, b, h1, h2, h3.fr hv h37 h38⟩
theorem SE2.enter (h : SE2 v a v1 a1 t x) (hx : x < v 30) (hz : (a 29 x.toNat = 94 ∧ y = x + 1 ∧ g = 1) ∨ (a 29 x.toNat ≠ 94 ∧ y = x ∧ g = 0)) (hn : NLX v1 a1 v2 a2 f) (hf : f = 1) (h5 : q = v1 39) : SE3 v a v2 a2 t g q y := by
  obtain ⟨es, D, b, h1, h2, h3⟩ := h
  rcases hn D h3 with ⟨_, n2, n3⟩ | ⟨n1, _⟩
  · refine ⟨_, _, D.length, h1.enter hx (z := y) (m := 1 + g) (by omega), ⟨D, b, h2, Or.inl ⟨rfl, n2, rfl, rfl⟩⟩, n3, ?_, by rw [len1]; omega⟩
    rw [h5]
    exact h3.1.symm
  · omega
theorem SE2.nroom (h : SE2 v a v1 a1 t x) (hx : x < v 30) (hT : TBL v a) (ht : 0 ≤ t ∧ t < v 4) (hn : NLX v1 a1 v2 a2 f) (hf : f ≠ 1) : BADV (a 29) (v 30) a t (v 31) (v 33) := by
  obtain ⟨es, D, b, h1, h2, h3⟩ := h
  rcases hn D h3 with ⟨n1, _⟩ | ⟨_, n2⟩
  · exact absurd n1 hf
  · have no : ∀ D2 b2, ¬ drs a t (v 31) (v 33) ((1, []) :: es) D2 b2 := fun D2 b2 g => by
      obtain ⟨D0, b0, g1, g2⟩ := g
      obtain ⟨e1, _⟩ := drs.uni hT ht es D0 D b0 b g1 h2
      subst e1
      rcases g2 with ⟨_, q2, _⟩ | ⟨q1, _⟩ | ⟨q1, _⟩ | ⟨q1, _⟩
      · omega
      · exact absurd q1 (by decide)
      · exact absurd q1 (by decide)
      · exact absurd q1 (by decide)
    by_cases c : a 29 x.toNat = 94
    · exact ⟨2, x + 1, _, h1.enter hx (Or.inl ⟨c, rfl, rfl⟩), fun ⟨D2, b2, g⟩ => no D2 b2 g⟩
    · exact ⟨1, x, _, h1.enter hx (Or.inr ⟨c, rfl, rfl⟩), fun ⟨D2, b2, g⟩ => no D2 b2 g⟩
theorem SE3.take (h : SE3 v a v1 a1 t g q p) (hx : TKX (a 29) (v 30) v2 a2 p z) (hv : v2 39 = v1 39) (h37 : a2 37 = a1 37) (h38 : a2 38 = a1 38) : SE4 v a v2 a2 t g q z := by
  obtain ⟨w, h1, h2⟩ := hx
  obtain ⟨es, D, b, k1, k2, k3, k4, k5⟩ := h
  exact ⟨p, w, ⟨es, D, b, k1, k2, k3.fr hv h37 h38, k4, k5⟩, h1, h2⟩
theorem SE4.lineC (h : SE4 v a v1 a1 t g q z) (h23 : v1 23 = 0) (hz : 0 ≤ z) (hg : g = 1) (h31 : v1 31 = v 31) (hc : CNX v1 a1 v2 a2 q) : SE2 v a v2 a2 t (z + 1) := by
  obtain ⟨p, w, ⟨es, D, b, k1, k2, k3, k4, k5⟩, h1, h2⟩ := h
  have e := h2.1
  have g1 := k1.line (by omega) h1 hz (by omega)
  rw [if_pos (by omega)] at g1
  refine ⟨_, _, b, g1, ⟨D, b, k2, Or.inr (Or.inr (Or.inr ⟨rfl, rfl, rfl⟩))⟩, ?_⟩
  have g2 := hc D k3
  rw [h31, show q.toNat = b by omega] at g2
  exact g2
theorem SE4.lineN (h : SE4 v a v1 a1 t g q z) (h23 : v1 23 = 0) (hz : 0 ≤ z) (hg : g = 0) : SE2 v a v1 a1 t (z + 1) := by
  obtain ⟨p, w, ⟨es, D, b, k1, k2, k3, k4, k5⟩, h1, h2⟩ := h
  have e := h2.1
  have g1 := k1.line (by omega) h1 hz (by omega)
  rw [if_neg (by omega)] at g1
  exact ⟨_, _, b, g1, ⟨D, b, k2, Or.inr (Or.inr (Or.inl ⟨rfl, rfl, rfl⟩))⟩, k3⟩
theorem SE4.bad (h : SE4 v a v1 a1 t g q z) (hg : g = 0 ∨ g = 1) (hz : 0 ≤ z) (h23 : v1 23 ≠ 0) (hs : SWT v1 a1 v2 a2 t f) (hf : f ≠ 1) (hE : TBE a1 a) (h12 : ∀ i, 0 ≤ a 12 i) (h13 : ∀ i, 0 ≤ a1 12 i) : BADV (a 29) (v 30) a t (v 31) (v 33) := by
  obtain ⟨p, w, ⟨es, D, b, k1, k2, k3, k4, k5⟩, h1, h2⟩ := h
  have e := h2.1
  refine ⟨_, _, _, k1.word (by omega) h1 hz (by omega), fun ⟨D2, b2, D0, b0, _, j2⟩ => ?_⟩
  rcases j2 with ⟨q1, _⟩ | ⟨_, ⟨D1, x1, cs, st, _, j4, _⟩, _⟩ | ⟨q1, _⟩ | ⟨q1, _⟩
  · exact absurd (show (2 : Int) = 1 from q1) (by decide)
  · exact (hs.wst hE h2 h12 h13).2 hf ⟨cs, j4.1⟩
  · exact absurd (show (2 : Int) = 3 from q1) (by decide)
  · exact absurd (show (2 : Int) = 4 from q1) (by decide)
theorem SE4.flow (h : SE4 v a v1 a1 t g q z) (hg : g = 0 ∨ g = 1) (hz : 0 ≤ z) (h23 : v1 23 ≠ 0) (hT : TBL v a) (h30 : v 4 ≤ 30) (h10 : ∀ i, a 10 i ≤ 200) (ht : 0 ≤ t ∧ t < v 4) (hs : SWT v1 a1 v2 a2 t f1) (hb : SWB v1 a1 v2 a2 t f1) (hf : f1 = 1) (hE : TBE a1 a) (h12 : ∀ i, 0 ≤ a 12 i) (h6 : a2 6 = a 6) (h21 : a2 21 = a1 21) (h22 : a2 22 = a1 22) (v23 : v2 23 = v1 23) (v39 : v2 39 = v1 39) (h37 : a2 37 = a1 37) (h38 : a2 38 = a1 38) (v31 : v2 31 = v 31) (v33 : v2 33 = v 33) (hF : FLT v2 a2 v3 a3 t f2) : (f2 = 1 → SE3 v a v3 a3 t g q z) ∧ (f2 ≠ 1 → BADV (a 29) (v 30) a t (v 31) (v 33)) := by
  obtain ⟨p, w, ⟨es, D, b, k1, k2, k3, k4, k5⟩, h1, h2⟩ := h
  have e := h2.1
  obtain ⟨cs, st, w1, w2, w3⟩ := hs.wss hb hf hT h30 h10 ht hE h2 h12
  obtain ⟨D1, x1, eD⟩ := snocx D (by omega)
  have cx : FCX v2 a2 t D1 x1 cs w st := ⟨by rw [← eD]; exact k3.fr v39 h37 h38, w2, ⟨v23.trans e, fun j y ej => by rw [hs.1, h21, h22]; exact h2.2 j y ej⟩, by unfold BGT; rw [h6]; exact w3⟩
  obtain ⟨F1, F2⟩ := hF D1 x1 cs w st cx
  have eV : FLV v2 a2 t D1 x1 cs w st = flw (brk a t w st) (v 31) (v 33) cs 201 0 D1 x1 := by
    unfold FLV brk
    rw [h6, v31, v33]
  rw [eV] at F1 F2
  have rn := k1.word (by omega) h1 hz (by omega)
  refine ⟨fun c => ?_, fun c => ?_⟩
  · obtain ⟨D2, g1, g2⟩ := F1 c
    refine hv2 (flw_len _ _ _ _ _ g1) (congrArg List.length eD) (fun gl el => ?_)
    rw [len1] at el
    exact ⟨_, D2, b, rn, ⟨D, b, k2, Or.inr (Or.inl ⟨rfl, ⟨D1, x1, cs, st, eD, w1, g1⟩, rfl⟩)⟩, g2, k4, by omega⟩
  · have g1 := F2 c
    refine ⟨_, _, _, rn, fun ⟨D2, b2, D0, b0, j1, j2⟩ => ?_⟩
    obtain ⟨e1, _⟩ := drs.uni hT ht es D0 D b0 b j1 k2
    subst e1
    rcases j2 with ⟨q1, _⟩ | ⟨_, ⟨D3, x3, ds, s3, j3, j4, j5⟩, _⟩ | ⟨q1, _⟩ | ⟨q1, _⟩
    · exact absurd (show (2 : Int) = 1 from q1) (by decide)
    · obtain ⟨i1, i2⟩ := app_inj (eD.symm.trans j3)
      obtain ⟨c1, c2⟩ := WSS.uni hT ht w1 j4
      subst i1
      subst i2
      subst c1
      subst c2
      rw [g1] at j5
      cases j5
    · exact absurd (show (2 : Int) = 3 from q1) (by decide)
    · exact absurd (show (2 : Int) = 4 from q1) (by decide)
theorem SE2.fin (h : SE2 v a v1 a1 t x) (hx : v 30 ≤ x) (hv : v2 39 = v1 39) (h36 : v2 36 = v1 39) : SE5 v a v2 a1 t := by
  obtain ⟨es, D, b, h1, h2, h3⟩ := h
  exact ⟨es, D, b, ⟨x, h1, hx⟩, h2, h3.fr hv rfl rfl, by omega⟩
theorem SE5.fr (h : SE5 v a v1 a1 t) (h37 : a2 37 = a1 37) (h38 : a2 38 = a1 38) : SE5 v a v1 a2 t := by
  obtain ⟨es, D, b, h1, h2, h3, h4⟩ := h
  exact ⟨es, D, b, h1, h2, h3.fr rfl h37 h38, h4⟩
theorem SC1.init (hy : y = 0) : SC1 a1 y := fun l hl => absurd hl (by omega)
theorem SC1.go (h : SC1 a1 y) (hy : 0 ≤ y) (hi : i = y.toNat) (hz : z = a1 37 y.toNat) : SC2 (up2 a1 34 i z) y 0 := by
  subst hi
  refine ⟨fun l hl => ?_, ?_, fun j hj => absurd hj (by omega)⟩
  · obtain ⟨g1, g2⟩ := h l hl
    refine ⟨by rw [up2_j (by omega), up2_k (by decide)]; exact g1, fun j hj => ?_⟩
    rw [up2_k (by decide)] at hj
    rw [up2_k (by decide), up2_k (by decide)]
    exact g2 j hj
  · rw [up2_s, up2_k (by decide)]
    exact hz
theorem SC2.mv (h : SC2 a1 y k) (hb : ∀ l, a1 37 l ≤ 200) (hy : 0 ≤ y) (hk : 0 ≤ k ∧ k < 200) (hi : i = (200 * y + k).toNat) (hz : z = a1 38 (200 * y + k).toNat) : SC2 (up2 a1 35 i z) y (k + 1) := by
  obtain ⟨h1, h2, h3⟩ := h
  refine hv2 (show i = 200 * y.toNat + k.toNat from by omega) (show z = a1 38 i from by rw [hz, hi]) (fun ei ez => ?_)
  refine ⟨fun l hl => ?_, by rw [up2_k (by decide), up2_k (by decide)]; exact h2, fun j hj => ?_⟩
  · obtain ⟨g1, g2⟩ := h1 l hl
    have b1 := hb l
    refine ⟨by rw [up2_k (by decide), up2_k (by decide)]; exact g1, fun j hj => ?_⟩
    rw [up2_k (by decide)] at hj
    rw [up2_j (by omega), up2_k (by decide)]
    exact g2 j hj
  · by_cases c : ((j : Nat) : Int) = k
    · rw [show 200 * y.toNat + j = i by omega, up2_s, up2_k (by decide)]
      exact ez
    · rw [up2_j (by omega), up2_k (by decide)]
      exact h3 j (by omega)
theorem SC2.fin (h : SC2 a1 y k) (hy : 0 ≤ y) (hk : a1 37 y.toNat ≤ k) : SC1 a1 (y + 1) := fun l hl => by
  by_cases c : ((l : Nat) : Int) < y
  · exact h.1 l c
  · have e : l = y.toNat := by omega
    subst e
    exact ⟨h.2.1, fun j hj => h.2.2 j (by omega)⟩
theorem SETX.ok (hw : WHL v a t) (h : SE5 v a v1 a1 t) (hc : SC1 a1 y) (hy : v1 36 ≤ y) (hf : f = v1 36) (h36 : v2 36 = v1 36) (h34 : a2 34 = a1 34) (h35 : a2 35 = a1 35) : SETX v a v2 a2 t f := by
  obtain ⟨es, D, b, h1, h2, h3, h4⟩ := h
  have e := h3.1
  refine Or.inr ⟨D, ⟨hw, es, b, h1, h2, by omega⟩, by omega, fun l xs ex => ?_⟩
  have lt := gl3 ex
  obtain ⟨g1, g2⟩ := h3.2 l xs ex
  obtain ⟨c1, c2⟩ := hc l (by omega)
  rw [h34, h35]
  refine ⟨c1.trans g1, fun j z ej => ?_⟩
  have lj := gl3 ej
  rw [c2 j (by omega)]
  exact g2 j z ej
theorem SETX.n1 (h : ¬ WHL v a t) (hf : f = -1) (hk : KSH v a v2 a2) : SETX v a v2 a2 t f := Or.inl ⟨⟨hf, Or.inl h⟩, hk⟩
theorem SETX.n2 (hw : WHL v a t) (h : BADV (a 29) (v 30) a t (v 31) (v 33)) (hf : f = -1) (hk : KSH v a v2 a2) : SETX v a v2 a2 t f := Or.inl ⟨⟨hf, Or.inr ⟨hw, h⟩⟩, hk⟩
theorem KSH.refl : KSH v a v a := ⟨rfl, rfl, rfl⟩
theorem KSH.fr {V A : List Nat} (h : KSH v a v1 a1) (f1 : fr V A v1 a1 v2 a2) (h36 : V.contains 36 = false) (h34 : A.contains 34 = false) (h35 : A.contains 35 = false) : KSH v a v2 a2 := ⟨(f1.1 36 h36).trans h.1, (f1.2 34 h34).trans h.2.1, (f1.2 35 h35).trans h.2.2⟩
theorem SWT.pos (hs : SWT v1 a1 v2 a2 t f) (hf : f = 1) (hT : TBL v1 a1) (hB : BX v1 a1) (ht : 0 ≤ t ∧ t < v1 4) (hn : 0 < v1 23) : 1 ≤ v2 25 := by
  obtain ⟨cs, g1, g2⟩ := hs.2.1 hf
  refine hv2 (SWC.pos hT (hB.1 4).2 (fun i => (hB.2 10 i).2) (fun i => (hB.2 16 i).1) ht hn g1) (g2.1) (fun g e => ?_)
  omega
end RSET
set_option maxHeartbeats 4000000 in
set_option maxRecDepth 100000 in
theorem N2_set {l : Launch} {G : GT} {h0 : Nat} {ad ln : Nat → Nat} {v : Nat → Int} {a : Nat → Nat → Int}  {t : Int} (hB : BX v a) (hT : TBL v a) (ht : -2147483648 ≤ t ∧ t ≤ 2147483647) : Mm l G yX12_set cX12_set 7 (some .int) 66 [.int (iI t)] h0 ad ln v a 0 0 (fun r v2 a2 => ∃ f : Int, r = some (.int (iI f)) ∧ fr [0, 1, 23, 25, 28, 36, 39] [20, 21, 22, 24, 26, 27, 34, 35, 37, 38] v a v2 a2 ∧ BX v2 a2 ∧ (SETX v a v2 a2 t f)) := by
  refine Mm.mk (by decide) (Nat.le_of_ble_eq_true rfl) ?_
  intro p e s m args below meth c A C
  refine hv3 (show 0 ≤ v 4 ∧ v 4 ≤ 30 from hB.1 4) (show 0 ≤ v 30 ∧ v 30 ≤ 500 from hB.1 30) (show fr [0, 1, 23, 25, 28, 36, 39] [20, 21, 22, 24, 26, 27, 34, 35, 37, 38] v a v a from fr.refl) (fun h30 r30 fp0 => ?_)
  refine m_aload_n (j := 0) C dX12_set_0 rfl ?_
  refine m_iload_n (j := 1) C dX12_set_1 rfl ?_
  have rv1 : 0 ≤ v 4 ∧ v 4 ≤ 30 := hB.1 4
  refine m_call (mc2 := 0) (ms2 := 0) (As := [.int (iI t)]) (rest := []) C (E_isWhole (t := t) hB (hT.fr fp0 rfl rfl) (by show -2147483648 ≤ t ∧ t ≤ 2147483647; omega)) dX12_set_2 kV_X12_171 rfl ck_13 rfl (Nat.le_of_ble_eq_true rfl) ⟨Nat.le_of_ble_eq_true rfl, Nat.le_of_ble_eq_true rfl⟩ ⟨Nat.le_of_ble_eq_true rfl, Nat.le_of_ble_eq_true rfl⟩ (fun rh1 vh1 ah1 h1 => ?_)
  obtain ⟨f1, rfl, fn1, bn1, ex1⟩ := h1
  obtain ⟨rfl, rfl⟩ := fn1.eq
  obtain ⟨ex1, tl1⟩ := ex1
  have gf1 : f1 = 0 ∨ (f1 = 1 ∧ 0 ≤ t ∧ t < (v 4)) := ex1
  refine m_st (st2 := [.int (iI f1)]) rfl ?_
  refine m_if_ne (tgt := 14) C (r32_0p gf1) dX12_set_5 (by decide) (fun c1 => ?_) (fun c1 => ?_)
  · replace gf1 := (gf1.resolve_left c1)
    refine m_aload_n (j := 0) C dX12_set_14 rfl ?_
    refine m_iconst C dX12_set_15 ?_
    refine m_put (k := 39) (z := 0) C dX12_set_16 w6_98 (by decide) rfl rfl rfl ?_
    refine hv2 (show BX (va_up v 39 0) a from hB.put (k := 39) (z := 0) ⟨by decide, by decide⟩) (fp0.put (k := 39) (z := 0) rfl) (fun bq1 fq2 => ?_)
    refine m_iconst C dX12_set_19 ?_
    refine m_istore_n (lv2 := [(2, .int (iI 0)), (0, .ref h0), (1, .int (iI t))]) C dX12_set_20 (by decide) rfl ?_
    have Lp1 : ∀ (nn : Nat) (x : Int) (vb1 : Nat → Int) (ab1 : Nat → Nat → Int), 502 - x < (nn : Int) → BX vb1 ab1 → fr [0, 1, 23, 25, 28, 36, 39] [20, 21, 22, 24, 26, 27, 34, 35, 37, 38] v a vb1 ab1 → (0 ≤ x ∧ x ≤ 501) → (KSH v a vb1 ab1) → (SE2 v a vb1 ab1 t x) → mw p l e (rmq 66 0 0) s m args below meth c G A 7 (MQ below (Qm G A (fun rq Lq Eq => ∃ (vq : Nat → Int) (aq : Nat → Nat → Int), mI G h0 ad ln vq aq Lq Eq ∧ (fun r v2 a2 => ∃ f : Int, r = some (.int (iI f)) ∧ fr [0, 1, 23, 25, 28, 36, 39] [20, 21, 22, 24, 26, 27, 34, 35, 37, 38] v a v2 a2 ∧ BX v2 a2 ∧ (SETX v a v2 a2 t f)) rq vq aq)) args s 0 0 A) h0 ad ln vb1 ab1 0 0 21 [(2, .int (iI x)), (0, .ref h0), (1, .int (iI t))] [] := by
      intro nn
      induction nn with
      | zero =>
        intro x vb1 ab1 hm bxb1 fpb1 hx hK21 hS1
        exact absurd hm (by omega)
      | succ nn ih1 =>
        intro x vb1 ab1 hm bxb1 fpb1 hx hK21 hS1
        refine m_iload_n (j := 0) C dX12_set_21 rfl ?_
        refine m_aload_n (j := 1) C dX12_set_22 rfl ?_
        refine hv2 (show 0 ≤ vb1 30 ∧ vb1 30 ≤ 500 from bxb1.1 30) (show vb1 30 = v 30 from fpb1.1 30 rfl) (fun rv2 ve1 => ?_)
        refine m_get (k := 30) C dX12_set_23 w6_89 (by decide) rfl ?_
        refine m_st (st2 := [.int (iI (v 30)), .int (iI x)]) (congrArg (fun z => Value.int (iI z) :: [.int (iI x)]) (fpb1.1 30 rfl)) ?_
        refine m_icmp_ge (tgt := 157) C (r32_c (lo := 0) (hi := 501) hx.1 hx.2 (by decide) (by decide)) (r32_c (lo := 0) (hi := 500) (Int.le_trans rv2.1 (Int.le_of_eq ve1)) (Int.le_trans (Int.le_of_eq ve1.symm) rv2.2) (by decide) (by decide)) dX12_set_26 (by decide) (fun c2 => ?_) (fun c2 => ?_)
        · refine m_aload_n (j := 1) C dX12_set_157 rfl ?_
          refine m_aload_n (j := 1) C dX12_set_158 rfl ?_
          have rv3 : 0 ≤ vb1 39 ∧ vb1 39 ≤ 200 := bxb1.1 39
          refine m_get (k := 39) C dX12_set_159 w6_98 (by decide) rfl ?_
          refine m_put (k := 36) (z := vb1 39) C dX12_set_162 w6_95 (by decide) rfl rfl rfl ?_
          refine hv2 (show BX (va_up vb1 36 (vb1 39)) ab1 from bxb1.put (k := 36) (z := vb1 39) (show 0 ≤ (vb1 39) ∧ (vb1 39) ≤ 200 by omega)) (fpb1.put (k := 36) (z := vb1 39) rfl) (fun bq2 fq3 => ?_)
          refine m_iconst C dX12_set_165 ?_
          refine m_istore_n (lv2 := [(3, .int (iI 0)), (2, .int (iI x)), (0, .ref h0), (1, .int (iI t))]) C dX12_set_166 (by decide) rfl ?_
          have Lp2 : ∀ (nn : Nat) (y : Int) (vb2 : Nat → Int) (ab2 : Nat → Nat → Int), 201 - y < (nn : Int) → BX vb2 ab2 → fr [0, 1, 23, 25, 28, 36, 39] [20, 21, 22, 24, 26, 27, 34, 35, 37, 38] v a vb2 ab2 → (0 ≤ y ∧ y ≤ 200) → (SE5 v a vb2 ab2 t) → (SC1 ab2 y) → mw p l e (rmq 66 0 0) s m args below meth c G A 7 (MQ below (Qm G A (fun rq Lq Eq => ∃ (vq : Nat → Int) (aq : Nat → Nat → Int), mI G h0 ad ln vq aq Lq Eq ∧ (fun r v2 a2 => ∃ f : Int, r = some (.int (iI f)) ∧ fr [0, 1, 23, 25, 28, 36, 39] [20, 21, 22, 24, 26, 27, 34, 35, 37, 38] v a v2 a2 ∧ BX v2 a2 ∧ (SETX v a v2 a2 t f)) rq vq aq)) args s 0 0 A) h0 ad ln vb2 ab2 0 0 167 [(3, .int (iI y)), (2, .int (iI x)), (0, .ref h0), (1, .int (iI t))] [] := by
            intro nn
            induction nn with
            | zero =>
              intro y vb2 ab2 hm bxb2 fpb2 hy hS5 hC1
              exact absurd hm (by omega)
            | succ nn ih2 =>
              intro y vb2 ab2 hm bxb2 fpb2 hy hS5 hC1
              refine m_iload_n (j := 0) C dX12_set_167 rfl ?_
              refine m_aload_n (j := 2) C dX12_set_168 rfl ?_
              have rv4 : 0 ≤ vb2 36 ∧ vb2 36 ≤ 200 := bxb2.1 36
              refine m_get (k := 36) C dX12_set_169 w6_95 (by decide) rfl ?_
              refine m_icmp_ge (tgt := 239) C (r32_c (lo := 0) (hi := 200) hy.1 hy.2 (by decide) (by decide)) (r32_c (lo := 0) (hi := 200) rv4.1 rv4.2 (by decide) (by decide)) dX12_set_172 (by decide) (fun c3 => ?_) (fun c3 => ?_)
              · refine m_aload_n (j := 2) C dX12_set_239 rfl ?_
                refine m_aload_n (j := 2) C dX12_set_240 rfl ?_
                refine m_get (k := 36) C dX12_set_241 w6_95 (by decide) rfl ?_
                refine m_call (mc2 := 0) (ms2 := 0) (As := [.int (iI (vb2 36))]) (rest := []) C (B_fine (x := vb2 36) bxb2 (by show -2147483648 ≤ (vb2 36) ∧ (vb2 36) ≤ 2147483647; omega)) dX12_set_244 kV_X12_158 rfl ck_13 rfl (Nat.le_of_ble_eq_true rfl) ⟨Nat.le_of_ble_eq_true rfl, Nat.le_of_ble_eq_true rfl⟩ ⟨Nat.le_of_ble_eq_true rfl, Nat.le_of_ble_eq_true rfl⟩ (fun rh2 vh2 ah2 h2 => ?_)
                obtain ⟨f2, rfl, fn2, bn2, ex2⟩ := h2
                refine hv2 (fpb2.call fn2 rfl rfl) (show f2 = (vb2 36) from ex2) (fun fq4 gf2 => ?_)
                refine m_st (st2 := [.int (iI f2)]) rfl ?_
                exact m_iret C dX12_set_247 rfl (Nat.le_of_ble_eq_true rfl) (Nat.le_of_ble_eq_true rfl) ⟨f2, rfl, fq4, bn2, (SETX.ok (tl1.mp (by omega)) hS5 hC1 (by omega) (by omega) (fn2.1 36 rfl) (fn2.2 34 rfl) (fn2.2 35 rfl))⟩
              · refine m_aload_n (j := 2) C dX12_set_175 rfl ?_
                refine m_geta (k := 34) C dX12_set_176 w6_93 (by decide) rfl ?_
                refine m_iload_n (j := 0) C dX12_set_179 rfl ?_
                refine m_aload_n (j := 2) C dX12_set_180 rfl ?_
                refine m_geta (k := 37) C dX12_set_181 w6_96 (by decide) rfl ?_
                refine m_iload_n (j := 0) C dX12_set_184 rfl ?_
                refine m_ald (k := 37) C dX12_set_185 rfl rfl (by decide) (by omega) (by show _ < ((_ : Nat) : Int); simp only [mlen]; omega) (by decide) ?_
                have ra1 : 0 ≤ ab2 37 y.toNat ∧ ab2 37 y.toNat ≤ 200 := bxb2.2 37 (y.toNat)
                refine m_ast (k := 34) C dX12_set_186 rfl rfl (by decide) (by omega) (by show _ < ((_ : Nat) : Int); simp only [mlen]; omega) (by decide) ?_
                refine hv2 (show BX vb2 (up2 ab2 34 y.toNat (ab2 37 y.toNat)) from bxb2.set (k := 34) (i := y.toNat) (z := ab2 37 y.toNat) (show (-1) ≤ (ab2 37 y.toNat) ∧ (ab2 37 y.toNat) ≤ 200 by omega)) (fpb2.set (k := 34) (i := y.toNat) (z := ab2 37 y.toNat) rfl) (fun bq3 fq5 => ?_)
                refine m_iconst C dX12_set_187 ?_
                refine m_istore (lv2 := [(4, .int (iI 0)), (3, .int (iI y)), (2, .int (iI x)), (0, .ref h0), (1, .int (iI t))]) C dX12_set_188 (by decide) rfl ?_
                have Lp3 : ∀ (nn : Nat) (z : Int) (vb3 : Nat → Int) (ab3 : Nat → Nat → Int), 201 - z < (nn : Int) → BX vb3 ab3 → fr [0, 1, 23, 25, 28, 36, 39] [20, 21, 22, 24, 26, 27, 34, 35, 37, 38] v a vb3 ab3 → (0 ≤ z ∧ z ≤ 200) → (SE5 v a vb3 ab3 t) → (SC2 ab3 y z) → mw p l e (rmq 66 0 0) s m args below meth c G A 7 (MQ below (Qm G A (fun rq Lq Eq => ∃ (vq : Nat → Int) (aq : Nat → Nat → Int), mI G h0 ad ln vq aq Lq Eq ∧ (fun r v2 a2 => ∃ f : Int, r = some (.int (iI f)) ∧ fr [0, 1, 23, 25, 28, 36, 39] [20, 21, 22, 24, 26, 27, 34, 35, 37, 38] v a v2 a2 ∧ BX v2 a2 ∧ (SETX v a v2 a2 t f)) rq vq aq)) args s 0 0 A) h0 ad ln vb3 ab3 0 0 190 [(4, .int (iI z)), (3, .int (iI y)), (2, .int (iI x)), (0, .ref h0), (1, .int (iI t))] [] := by
                  intro nn
                  induction nn with
                  | zero =>
                    intro z vb3 ab3 hm bxb3 fpb3 hz hS6 hC2
                    exact absurd hm (by omega)
                  | succ nn ih3 =>
                    intro z vb3 ab3 hm bxb3 fpb3 hz hS6 hC2
                    refine m_iload (j := 0) C dX12_set_190 rfl ?_
                    refine m_aload_n (j := 3) C dX12_set_192 rfl ?_
                    refine m_geta (k := 37) C dX12_set_193 w6_96 (by decide) rfl ?_
                    refine m_iload_n (j := 1) C dX12_set_196 rfl ?_
                    refine m_ald (k := 37) C dX12_set_197 rfl rfl (by decide) (by omega) (by show _ < ((_ : Nat) : Int); simp only [mlen]; omega) (by decide) ?_
                    have ra2 : 0 ≤ ab3 37 y.toNat ∧ ab3 37 y.toNat ≤ 200 := bxb3.2 37 (y.toNat)
                    refine m_icmp_ge (tgt := 233) C (r32_c (lo := 0) (hi := 200) hz.1 hz.2 (by decide) (by decide)) (r32_c (lo := 0) (hi := 200) ra2.1 ra2.2 (by decide) (by decide)) dX12_set_198 (by decide) (fun c4 => ?_) (fun c4 => ?_)
                    · refine m_iinc (z := y) (j := 1) (lv2 := [(3, .int (iI (y + 1))), (4, .int (iI z)), (2, .int (iI x)), (0, .ref h0), (1, .int (iI t))]) C dX12_set_233 rfl (by decide) rfl ?_
                      refine m_goto (tgt := 167) C dX12_set_236 (by decide) ?_
                      refine m_lv (lv2 := [(3, .int (iI (y + 1))), (2, .int (iI x)), (0, .ref h0), (1, .int (iI t))]) [0, 2, 3, 4] rfl ?_
                      exact ih2  (y + 1) _ _ (by omega) bxb3 fpb3 (by omega) hS6 (SC2.fin hC2 (by omega) (by omega))
                    · refine m_aload_n (j := 3) C dX12_set_201 rfl ?_
                      refine m_geta (k := 35) C dX12_set_202 w6_94 (by decide) rfl ?_
                      refine m_sipush (z := 200) C dX12_set_205 (by decide) ?_
                      refine m_iload_n (j := 1) C dX12_set_208 rfl ?_
                      refine m_imul C dX12_set_209 ?_
                      refine m_iload (j := 0) C dX12_set_210 rfl ?_
                      refine m_iadd C dX12_set_212 ?_
                      refine m_aload_n (j := 3) C dX12_set_213 rfl ?_
                      refine m_geta (k := 38) C dX12_set_214 w6_97 (by decide) rfl ?_
                      refine m_sipush (z := 200) C dX12_set_217 (by decide) ?_
                      refine m_iload_n (j := 1) C dX12_set_220 rfl ?_
                      refine m_imul C dX12_set_221 ?_
                      refine m_iload (j := 0) C dX12_set_222 rfl ?_
                      refine m_iadd C dX12_set_224 ?_
                      refine m_ald (k := 38) C dX12_set_225 rfl rfl (by decide) (by omega) (by show _ < ((_ : Nat) : Int); simp only [mlen]; omega) (by decide) ?_
                      have ra3 : (-2147483648) ≤ ab3 38 ((200 * y) + z).toNat ∧ ab3 38 ((200 * y) + z).toNat ≤ 2147483647 := bxb3.2 38 (((200 * y) + z).toNat)
                      refine m_ast (k := 35) C dX12_set_226 rfl rfl (by decide) (by omega) (by show _ < ((_ : Nat) : Int); simp only [mlen]; omega) (by decide) ?_
                      refine hv2 (show BX vb3 (up2 ab3 35 ((200 * y) + z).toNat (ab3 38 ((200 * y) + z).toNat)) from bxb3.set (k := 35) (i := ((200 * y) + z).toNat) (z := ab3 38 ((200 * y) + z).toNat) (show (-2147483648) ≤ (ab3 38 ((200 * y) + z).toNat) ∧ (ab3 38 ((200 * y) + z).toNat) ≤ 2147483647 by omega)) (fpb3.set (k := 35) (i := ((200 * y) + z).toNat) (z := ab3 38 ((200 * y) + z).toNat) rfl) (fun bq4 fq6 => ?_)
                      refine m_iinc (z := z) (j := 0) (lv2 := [(4, .int (iI (z + 1))), (3, .int (iI y)), (2, .int (iI x)), (0, .ref h0), (1, .int (iI t))]) C dX12_set_227 rfl (by decide) rfl ?_
                      refine m_goto (tgt := 190) C dX12_set_230 (by decide) ?_
                      refine m_lv (lv2 := [(4, .int (iI (z + 1))), (3, .int (iI y)), (2, .int (iI x)), (0, .ref h0), (1, .int (iI t))]) [0, 1, 2, 3, 4] rfl ?_
                      exact ih3  (z + 1) _ _ (by omega) bq4 fq6 (by omega) (SE5.fr hS6 (funext fun _ => up2_k (by decide)) (funext fun _ => up2_k (by decide))) (SC2.mv hC2 (fun l => (bxb3.2 37 l).2) (by omega) ⟨by omega, by omega⟩ rfl rfl)
                refine m_lv (lv2 := [(4, .int (iI 0)), (3, .int (iI y)), (2, .int (iI x)), (0, .ref h0), (1, .int (iI t))]) [0, 1, 2, 3, 4] rfl ?_
                exact Lp3 202 0 _ _ (by omega) bq3 fq5 (by omega) (SE5.fr hS5 (funext fun _ => up2_k (by decide)) (funext fun _ => up2_k (by decide))) (SC1.go hC1 (by omega) rfl rfl)
          refine m_lv (lv2 := [(3, .int (iI 0)), (2, .int (iI x)), (0, .ref h0), (1, .int (iI t))]) [0, 1, 2, 3] rfl ?_
          exact Lp2 202 0 _ _ (by omega) bq2 fq3 (by omega) (SE2.fin hS1 (by omega) (va_up_ne _ _ (by decide)) (va_up_self _ _ _)) (SC1.init rfl)
        · refine m_aload_n (j := 1) C dX12_set_29 rfl ?_
          refine m_iload_n (j := 0) C dX12_set_30 rfl ?_
          refine m_call (mc2 := 0) (ms2 := 0) (As := [.int (iI x)]) (rest := []) C (E_lineEnd (q := x) bxb1 (by show 0 ≤ x ∧ x ≤ 1000; omega)) dX12_set_31 kV_X12_261 rfl ck_13 rfl (Nat.le_of_ble_eq_true rfl) ⟨Nat.le_of_ble_eq_true rfl, Nat.le_of_ble_eq_true rfl⟩ ⟨Nat.le_of_ble_eq_true rfl, Nat.le_of_ble_eq_true rfl⟩ (fun rh3 vh3 ah3 h3 => ?_)
          obtain ⟨f3, rfl, fn3, bn3, ex3⟩ := h3
          obtain ⟨rfl, rfl⟩ := fn3.eq
          obtain ⟨ex3, tl2⟩ := ex3
          refine hv2 (show x ≤ f3 ∧ (f3 = x ∨ f3 ≤ (vb1 30)) from ex3) (show LEX (a 29) (v 30) x f3 from (by have q1 := tl2; rw [fpb1.2 29 rfl, fpb1.1 30 rfl] at q1; exact q1)) (fun gf3 lef3 => ?_)
          refine m_st (st2 := [.int (iI f3)]) rfl ?_
          replace gf3 : x ≤ f3 ∧ f3 ≤ vb1 30 := by omega
          refine m_istore_n (lv2 := [(3, .int (iI f3)), (2, .int (iI x)), (0, .ref h0), (1, .int (iI t))]) C dX12_set_34 (by decide) rfl ?_
          refine m_aload_n (j := 2) C dX12_set_35 rfl ?_
          refine m_geta (k := 29) C dX12_set_36 w6_88 (by decide) rfl ?_
          refine m_iload_n (j := 1) C dX12_set_39 rfl ?_
          refine m_ald (k := 29) C dX12_set_40 rfl rfl (by decide) (by omega) (by show _ < ((_ : Nat) : Int); simp only [mlen]; omega) (by decide) ?_
          refine hv2 (show (-2147483648) ≤ ab1 29 x.toNat ∧ ab1 29 x.toNat ≤ 2147483647 from bxb1.2 29 (x.toNat)) (show ab1 29 (x.toNat) = a 29 (x.toNat) from congrFun (fpb1.2 29 rfl) (x.toNat)) (fun ra4 ae1 => ?_)
          refine m_st (st2 := [.int (iI (a 29 x.toNat))]) (congrArg (fun z => Value.int (iI z) :: []) (congrFun (fpb1.2 29 rfl) (x.toNat))) ?_
          refine m_bipush (z := 94) C dX12_set_41 (by decide) ?_
          have J1 : ∀ (g : Int) (vb4 : Nat → Int) (ab4 : Nat → Nat → Int), BX vb4 ab4 → fr [0, 1, 23, 25, 28, 36, 39] [20, 21, 22, 24, 26, 27, 34, 35, 37, 38] v a vb4 ab4 → (g = 0 ∨ g = 1) → (KSH v a vb4 ab4) → ((g = 1 ∧ a 29 x.toNat = 94) ∨ (g = 0 ∧ a 29 x.toNat ≠ 94)) → (SE2 v a vb4 ab4 t x) → mw p l e (rmq 66 0 0) s m args below meth c G A 7 (MQ below (Qm G A (fun rq Lq Eq => ∃ (vq : Nat → Int) (aq : Nat → Nat → Int), mI G h0 ad ln vq aq Lq Eq ∧ (fun r v2 a2 => ∃ f : Int, r = some (.int (iI f)) ∧ fr [0, 1, 23, 25, 28, 36, 39] [20, 21, 22, 24, 26, 27, 34, 35, 37, 38] v a v2 a2 ∧ BX v2 a2 ∧ (SETX v a v2 a2 t f)) rq vq aq)) args s 0 0 A) h0 ad ln vb4 ab4 0 0 51 [(3, .int (iI f3)), (2, .int (iI x)), (0, .ref h0), (1, .int (iI t))] [.int (iI g)] := by
            intro g vb4 ab4 bxb4 fpb4 hg hK51 hg2 hS2
            refine m_istore (lv2 := [(4, .int (iI g)), (3, .int (iI f3)), (2, .int (iI x)), (0, .ref h0), (1, .int (iI t))]) C dX12_set_51 (by decide) rfl ?_
            refine m_aload_n (j := 3) C dX12_set_53 rfl ?_
            have rv5 : 0 ≤ vb4 39 ∧ vb4 39 ≤ 200 := bxb4.1 39
            refine m_get (k := 39) C dX12_set_54 w6_98 (by decide) rfl ?_
            refine m_istore (lv2 := [(5, .int (iI (vb4 39))), (4, .int (iI g)), (3, .int (iI f3)), (2, .int (iI x)), (0, .ref h0), (1, .int (iI t))]) C dX12_set_57 (by decide) rfl ?_
            refine m_aload_n (j := 4) C dX12_set_59 rfl ?_
            refine m_call (mc2 := 0) (ms2 := 0) (As := []) (rest := []) C (M_newLine bxb4.rg (bxb4.1 39)) dX12_set_60 kV_X12_257 rfl ck_13 rfl (Nat.le_of_ble_eq_true rfl) ⟨Nat.le_of_ble_eq_true rfl, Nat.le_of_ble_eq_true rfl⟩ ⟨Nat.le_of_ble_eq_true rfl, Nat.le_of_ble_eq_true rfl⟩ (fun rh4 vh4 ah4 h4 => ?_)
            obtain ⟨f4, rfl, fn4, bn4, ex4, nx1⟩ := W_newLine2 bxb4 h4
            refine hv3 (fpb4.call fn4 rfl rfl) (show (f4 = 1 ∧ vh4 39 = vb4 39 + 1 ∧ ah4 37 (vh4 39 - 1).toNat = 0) ∨ f4 = 0 from ex4) (hK51.fr fn4 rfl rfl rfl) (fun fq8 gf4 ks1 => ?_)
            refine m_st (st2 := [.int (iI f4)]) rfl ?_
            refine m_if_ne (tgt := 73) C (r32_p0 gf4) dX12_set_63 (by decide) (fun c5 => ?_) (fun c5 => ?_)
            · replace gf4 := (gf4.resolve_right c5)
              refine m_aload_n (j := 4) C dX12_set_73 rfl ?_
              refine m_iload (j := 1) C dX12_set_74 rfl ?_
              have J2 : ∀ (y : Int) (vb5 : Nat → Int) (ab5 : Nat → Nat → Int), BX vb5 ab5 → fr [0, 1, 23, 25, 28, 36, 39] [20, 21, 22, 24, 26, 27, 34, 35, 37, 38] v a vb5 ab5 → (y = x ∨ y = x + 1) → (1 ≤ vb5 39) → (KSH v a vb5 ab5) → ((g = 1 ∧ y = x + 1) ∨ (g = 0 ∧ y = x)) → (SE3 v a vb5 ab5 t g (vb4 39) y) → mw p l e (rmq 66 0 0) s m args below meth c G A 7 (MQ below (Qm G A (fun rq Lq Eq => ∃ (vq : Nat → Int) (aq : Nat → Nat → Int), mI G h0 ad ln vq aq Lq Eq ∧ (fun r v2 a2 => ∃ f : Int, r = some (.int (iI f)) ∧ fr [0, 1, 23, 25, 28, 36, 39] [20, 21, 22, 24, 26, 27, 34, 35, 37, 38] v a v2 a2 ∧ BX v2 a2 ∧ (SETX v a v2 a2 t f)) rq vq aq)) args s 0 0 A) h0 ad ln vb5 ab5 0 0 86 [(5, .int (iI (vb4 39))), (4, .int (iI g)), (3, .int (iI f3)), (2, .int (iI x)), (0, .ref h0), (1, .int (iI t))] [.int (iI y), .ref h0] := by
                intro y vb5 ab5 bxb5 fpb5 hy hn hK86 hy2 hS3
                refine m_iload_n (j := 2) C dX12_set_86 rfl ?_
                refine hv4 (show 0 ≤ vb5 30 ∧ vb5 30 ≤ 500 from bxb5.1 30) (show vb5 30 = v 30 from fpb5.1 30 rfl) (show 0 ≤ vb5 23 ∧ vb5 23 ≤ 500 from bxb5.1 23) (show 0 ≤ vb5 39 ∧ vb5 39 ≤ 200 from bxb5.1 39) (fun rv6 ve2 rv7 rv8 => ?_)
                have tkp1 : TKP (a 29) (v 30) y f3 := LEX.tkp lef3 (by omega) (by omega) (by omega)
                refine m_call (mc2 := 0) (ms2 := 0) (As := [.int (iI y), .int (iI f3)]) (rest := []) C (E_takeWord (q := y) (u := f3) bxb5 (by omega) (by omega) (TKP.cg tkp1 (fpb5.2 29 rfl) (fpb5.1 30 rfl))) dX12_set_87 kV_X12_264 rfl ck_13 rfl (Nat.le_of_ble_eq_true rfl) ⟨Nat.le_of_ble_eq_true rfl, Nat.le_of_ble_eq_true rfl⟩ ⟨Nat.le_of_ble_eq_true rfl, Nat.le_of_ble_eq_true rfl⟩ (fun rh5 vh5 ah5 h5 => ?_)
                obtain ⟨f5, rfl, fn5, bn5, ex5, tl3⟩ := h5
                refine hv6 (fpb5.call fn5 rfl rfl) (show 0 ≤ vh5 23 ∧ vh5 23 ≤ 500 from bn5.1 23) (show (f5 = y ∨ (y ≤ f5 ∧ f5 ≤ f3)) ∧ (vh5 23) ≤ f5 - y from ex5) (show (vh5 23) ≠ 0 ∨ f5 = f3 from tl3.2) (show TKX (a 29) (v 30) vh5 ah5 y f5 from (by have q1 := tl3.1; rw [fpb5.2 29 rfl, fpb5.1 30 rfl] at q1; exact q1)) (hK86.fr fn5 rfl rfl rfl) (fun fq9 rv9 gf5 hf5 tk1 ks2 => ?_)
                have se1 := SE3.take hS3 tk1 (fn5.1 39 rfl) (fn5.2 37 rfl) (fn5.2 38 rfl)
                refine m_st (st2 := [.int (iI f5)]) rfl ?_
                refine m_istore (lv2 := [(6, .int (iI f5)), (5, .int (iI (vb4 39))), (4, .int (iI g)), (3, .int (iI f3)), (2, .int (iI x)), (0, .ref h0), (1, .int (iI t))]) C dX12_set_90 (by decide) rfl ?_
                have Lp4 : ∀ (nn : Nat) (w1 : Int) (vb6 : Nat → Int) (ab6 : Nat → Nat → Int), 1005 - 2 * w1 + min 1 (vb6 23) < (nn : Int) → BX vb6 ab6 → fr [0, 1, 23, 25, 28, 36, 39] [20, 21, 22, 24, 26, 27, 34, 35, 37, 38] v a vb6 ab6 → (0 ≤ w1 ∧ w1 ≤ 501) → (1 ≤ vb6 39) → (0 ≤ vb6 23 ∧ vb6 23 ≤ 500) → (y ≤ w1 ∧ w1 ≤ f3) → (vb6 23 ≠ 0 ∨ w1 = f3) → (KSH v a vb6 ab6) → (SE4 v a vb6 ab6 t g (vb4 39) w1) → mw p l e (rmq 66 0 0) s m args below meth c G A 7 (MQ below (Qm G A (fun rq Lq Eq => ∃ (vq : Nat → Int) (aq : Nat → Nat → Int), mI G h0 ad ln vq aq Lq Eq ∧ (fun r v2 a2 => ∃ f : Int, r = some (.int (iI f)) ∧ fr [0, 1, 23, 25, 28, 36, 39] [20, 21, 22, 24, 26, 27, 34, 35, 37, 38] v a v2 a2 ∧ BX v2 a2 ∧ (SETX v a v2 a2 t f)) rq vq aq)) args s 0 0 A) h0 ad ln vb6 ab6 0 0 92 [(6, .int (iI w1)), (5, .int (iI (vb4 39))), (4, .int (iI g)), (3, .int (iI f3)), (2, .int (iI x)), (0, .ref h0), (1, .int (iI t))] [] := by
                  intro nn
                  induction nn with
                  | zero =>
                    intro w1 vb6 ab6 hm bxb6 fpb6 hw hn2 h23 hwr hto hK92 hS4
                    clear hy hy2 hg2 gf5 hf5
                    exact absurd hm (by omega)
                  | succ nn ih4 =>
                    intro w1 vb6 ab6 hm bxb6 fpb6 hw hn2 h23 hwr hto hK92 hS4
                    clear hy hy2 hg2 gf5 hf5
                    refine m_aload_n (j := 5) C dX12_set_92 rfl ?_
                    have rv10 : 0 ≤ vb6 23 ∧ vb6 23 ≤ 500 := bxb6.1 23
                    refine m_get (k := 23) C dX12_set_93 w6_82 (by decide) rfl ?_
                    refine m_if_le (tgt := 139) C (r32_c (lo := 0) (hi := 500) rv10.1 rv10.2 (by decide) (by decide)) dX12_set_96 (by decide) (fun c6 => ?_) (fun c6 => ?_)
                    · refine m_iload (j := 2) C dX12_set_139 rfl ?_
                      refine m_if_eq (tgt := 150) C (r32_01 hg) dX12_set_141 (by decide) (fun c7 => ?_) (fun c7 => ?_)
                      · refine m_iload_n (j := 3) C dX12_set_150 rfl ?_
                        refine m_iconst C dX12_set_151 ?_
                        refine m_iadd C dX12_set_152 ?_
                        refine m_istore_n (lv2 := [(2, .int (iI (f3 + 1))), (6, .int (iI w1)), (5, .int (iI (vb4 39))), (4, .int (iI g)), (3, .int (iI f3)), (0, .ref h0), (1, .int (iI t))]) C dX12_set_153 (by decide) rfl ?_
                        refine m_goto (tgt := 21) C dX12_set_154 (by decide) ?_
                        refine m_lv (lv2 := [(2, .int (iI (f3 + 1))), (0, .ref h0), (1, .int (iI t))]) [0, 5, 6] rfl ?_
                        exact ih1  (f3 + 1) _ _ (by omega) bxb6 fpb6 (by omega) hK92 (by have e := SE4.lineN hS4 (by omega) (by omega) (by omega); rw [show w1 = f3 by omega] at e; exact e)
                      · refine m_aload_n (j := 5) C dX12_set_144 rfl ?_
                        refine m_iload (j := 1) C dX12_set_145 rfl ?_
                        refine m_call (mc2 := 0) (ms2 := 0) (As := [.int (iI (vb4 39))]) (rest := []) C (E_centre (q := vb4 39) bxb6 (by show 0 ≤ (vb4 39) ∧ (vb4 39) ≤ 200; omega)) dX12_set_147 kV_X12_276 rfl ck_13 rfl (Nat.le_of_ble_eq_true rfl) ⟨Nat.le_of_ble_eq_true rfl, Nat.le_of_ble_eq_true rfl⟩ ⟨Nat.le_of_ble_eq_true rfl, Nat.le_of_ble_eq_true rfl⟩ (fun rh6 vh6 ah6 h6 => ?_)
                        obtain ⟨rfl, fn6, bn6, ex6⟩ := h6
                        refine hv3 (fpb6.call fn6 rfl rfl) (ex6) (hK92.fr fn6 rfl rfl rfl) (fun fq10 tl4 ks3 => ?_)
                        refine m_st (st2 := []) rfl ?_
                        refine m_iload_n (j := 3) C dX12_set_150 rfl ?_
                        refine m_iconst C dX12_set_151 ?_
                        refine m_iadd C dX12_set_152 ?_
                        refine m_istore_n (lv2 := [(2, .int (iI (f3 + 1))), (6, .int (iI w1)), (5, .int (iI (vb4 39))), (4, .int (iI g)), (3, .int (iI f3)), (0, .ref h0), (1, .int (iI t))]) C dX12_set_153 (by decide) rfl ?_
                        refine m_goto (tgt := 21) C dX12_set_154 (by decide) ?_
                        refine m_lv (lv2 := [(2, .int (iI (f3 + 1))), (0, .ref h0), (1, .int (iI t))]) [0, 5, 6] rfl ?_
                        exact ih1  (f3 + 1) _ _ (by omega) bn6 fq10 (by omega) ks3 (by have e := SE4.lineC hS4 (by omega) (by omega) (by omega) (fpb6.1 31 rfl) tl4; rw [show w1 = f3 by omega] at e; exact e)
                    · refine m_aload_n (j := 5) C dX12_set_99 rfl ?_
                      refine m_iload_n (j := 6) C dX12_set_100 rfl ?_
                      refine hv2 (show 0 ≤ vb6 4 ∧ vb6 4 ≤ 30 from bxb6.1 4) (show vb6 4 = v 4 from fpb6.1 4 rfl) (fun rv11 ve3 => ?_)
                      refine m_call (mc2 := 0) (ms2 := 0) (As := [.int (iI t)]) (rest := []) C (E_setWord (t := t) bxb6 (hT.fr fpb6 rfl rfl) (by show 0 ≤ t ∧ t < (vb6 4); omega)) dX12_set_101 kV_X12_267 rfl ck_13 rfl (Nat.le_of_ble_eq_true rfl) ⟨Nat.le_of_ble_eq_true rfl, Nat.le_of_ble_eq_true rfl⟩ ⟨Nat.le_of_ble_eq_true rfl, Nat.le_of_ble_eq_true rfl⟩ (fun rh7 vh7 ah7 h7 => ?_)
                      obtain ⟨f7, rfl, fn7, bn7, ex7⟩ := h7
                      have fq11 := fpb6.call fn7 rfl rfl
                      obtain ⟨ex7, tl5⟩ := ex7
                      refine hv3 (show 0 ≤ vh7 25 ∧ vh7 25 ≤ 208 from bn7.1 25) (show f7 = 0 ∨ (f7 = 1 ∧ (vh7 25) ≤ 200) from ex7) (hK92.fr fn7 rfl rfl rfl) (fun rv12 gf7 ks4 => ?_)
                      have spf7 : f7 = 1 → 1 ≤ (vh7 25) := fun e => SWT.pos tl5.1 e (hT.fr fpb6 rfl rfl) bxb6 ⟨by omega, by have e4 := fpb6.1 4 rfl; omega⟩ (by omega)
                      refine m_st (st2 := [.int (iI f7)]) rfl ?_
                      refine m_if_ne (tgt := 112) C (r32_0p gf7) dX12_set_104 (by decide) (fun c8 => ?_) (fun c8 => ?_)
                      · replace gf7 := (gf7.resolve_left c8)
                        refine m_aload_n (j := 5) C dX12_set_112 rfl ?_
                        refine m_iload_n (j := 6) C dX12_set_113 rfl ?_
                        refine hv2 (show 0 ≤ vh7 39 ∧ vh7 39 ≤ 200 from bn7.1 39) (show vh7 39 = vb6 39 from fn7.1 39 rfl) (fun rv13 ve4 => ?_)
                        refine m_call (mc2 := 0) (ms2 := 0) (As := [.int (iI t)]) (rest := []) C (E_flow (t := t) bn7 (by show 0 ≤ t ∧ t < 30; omega) (by show 1 ≤ (vh7 39); omega) (by show 1 ≤ (vh7 25) ∧ (vh7 25) ≤ 200; omega)) dX12_set_114 kV_X12_273 rfl ck_13 rfl (Nat.le_of_ble_eq_true rfl) ⟨Nat.le_of_ble_eq_true rfl, Nat.le_of_ble_eq_true rfl⟩ ⟨Nat.le_of_ble_eq_true rfl, Nat.le_of_ble_eq_true rfl⟩ (fun rh8 vh8 ah8 h8 => ?_)
                        obtain ⟨f8, rfl, fn8, bn8, ex8⟩ := h8
                        have fq12 := fq11.call fn8 rfl rfl
                        obtain ⟨ex8, tl6⟩ := ex8
                        refine hv3 (show 0 ≤ vh8 39 ∧ vh8 39 ≤ 200 from bn8.1 39) (show f8 = 0 ∨ (f8 = 1 ∧ 1 ≤ (vh8 39)) from ex8) (ks4.fr fn8 rfl rfl rfl) (fun rv14 gf8 ks5 => ?_)
                        have fw1 := SE4.flow hS4 hg (by omega) (by omega) hT (hB.1 4).2 (fun i => (hB.2 10 i).2) ⟨by omega, by omega⟩ tl5.1 tl5.2 (by omega) (TBE.fr fpb6 rfl) (fun i => (hB.2 12 i).1) (fq11.2 6 rfl) (fn7.2 21 rfl) (fn7.2 22 rfl) (fn7.1 23 rfl) (fn7.1 39 rfl) (fn7.2 37 rfl) (fn7.2 38 rfl) (fq11.1 31 rfl) (fq11.1 33 rfl) tl6
                        refine m_st (st2 := [.int (iI f8)]) rfl ?_
                        refine m_if_ne (tgt := 127) C (r32_0p gf8) dX12_set_117 (by decide) (fun c9 => ?_) (fun c9 => ?_)
                        · replace gf8 := (gf8.resolve_left c9)
                          refine m_aload_n (j := 5) C dX12_set_127 rfl ?_
                          refine m_iload (j := 0) C dX12_set_128 rfl ?_
                          refine m_iload_n (j := 3) C dX12_set_130 rfl ?_
                          refine hv7 (show 0 ≤ vh8 30 ∧ vh8 30 ≤ 500 from bn8.1 30) (show vh8 30 = vh7 30 from fn8.1 30 rfl) (show vh7 30 = vb6 30 from fn7.1 30 rfl) (show vb6 30 = v 30 from fpb6.1 30 rfl) (show 0 ≤ vh8 23 ∧ vh8 23 ≤ 500 from bn8.1 23) (show vh8 23 = vh7 23 from fn8.1 23 rfl) (show vh7 23 = vb6 23 from fn7.1 23 rfl) (fun rv15 ve5 ve6 ve7 rv16 ve8 ve9 => ?_)
                          refine m_call (mc2 := 0) (ms2 := 0) (As := [.int (iI w1), .int (iI f3)]) (rest := []) C (E_takeWord (q := w1) (u := f3) bn8 (by omega) (by omega) (TKP.cg (tkp1.sub ⟨by omega, by omega⟩) (fq12.2 29 rfl) (fq12.1 30 rfl))) dX12_set_131 kV_X12_264 rfl ck_13 rfl (Nat.le_of_ble_eq_true rfl) ⟨Nat.le_of_ble_eq_true rfl, Nat.le_of_ble_eq_true rfl⟩ ⟨Nat.le_of_ble_eq_true rfl, Nat.le_of_ble_eq_true rfl⟩ (fun rh9 vh9 ah9 h9 => ?_)
                          obtain ⟨f9, rfl, fn9, bn9, ex9, tl7⟩ := h9
                          refine hv6 (fq12.call fn9 rfl rfl) (show 0 ≤ vh9 23 ∧ vh9 23 ≤ 500 from bn9.1 23) (show (f9 = w1 ∨ (w1 ≤ f9 ∧ f9 ≤ f3)) ∧ (vh9 23) ≤ f9 - w1 from ex9) (show (vh9 23) ≠ 0 ∨ f9 = f3 from tl7.2) (show TKX (a 29) (v 30) vh9 ah9 w1 f9 from (by have q1 := tl7.1; rw [fq12.2 29 rfl, fq12.1 30 rfl] at q1; exact q1)) (ks5.fr fn9 rfl rfl rfl) (fun fq13 rv17 gf9 hf9 tk2 ks6 => ?_)
                          have se2 := SE3.take (fw1.1 (by omega)) tk2 (fn9.1 39 rfl) (fn9.2 37 rfl) (fn9.2 38 rfl)
                          refine m_st (st2 := [.int (iI f9)]) rfl ?_
                          refine m_istore (lv2 := [(6, .int (iI f9)), (5, .int (iI (vb4 39))), (4, .int (iI g)), (3, .int (iI f3)), (2, .int (iI x)), (0, .ref h0), (1, .int (iI t))]) C dX12_set_134 (by decide) rfl ?_
                          refine m_goto (tgt := 92) C dX12_set_136 (by decide) ?_
                          refine hv2 (show 0 ≤ vh9 39 ∧ vh9 39 ≤ 200 from bn9.1 39) (show vh9 39 = vh8 39 from fn9.1 39 rfl) (fun rv18 ve10 => ?_)
                          refine m_lv (lv2 := [(6, .int (iI f9)), (5, .int (iI (vb4 39))), (4, .int (iI g)), (3, .int (iI f3)), (2, .int (iI x)), (0, .ref h0), (1, .int (iI t))]) [0, 1, 2, 3, 4, 5, 6] rfl ?_
                          exact ih4  f9 _ _ (by omega) bn9 fq13 (by omega) (by show 1 ≤ (vh9 39); omega) (by show 0 ≤ (vh9 23) ∧ (vh9 23) ≤ 500; omega) (by omega) (by show (vh9 23) ≠ 0 ∨ f9 = f3; omega) ks6 se2
                        · clear gf8
                          refine m_aload_n (j := 5) C dX12_set_120 rfl ?_
                          refine m_bipush (z := 6) C dX12_set_121 (by decide) ?_
                          refine m_call (mc2 := 0) (ms2 := 0) (As := [.int (iI 6)]) (rest := []) C (B_bad (x := 6) bn8 (by show -2147483648 ≤ (6 : Int) ∧ (6 : Int) ≤ 2147483647; omega)) dX12_set_123 kV_X12_154 rfl ck_13 rfl (Nat.le_of_ble_eq_true rfl) ⟨Nat.le_of_ble_eq_true rfl, Nat.le_of_ble_eq_true rfl⟩ ⟨Nat.le_of_ble_eq_true rfl, Nat.le_of_ble_eq_true rfl⟩ (fun rh10 vh10 ah10 h10 => ?_)
                          obtain ⟨f10, rfl, fn10, bn10, ex10⟩ := h10
                          refine hv2 (fq12.call fn10 rfl rfl) (show f10 = -1 from ex10) (fun fq14 gf10 => ?_)
                          refine m_st (st2 := [.int (iI f10)]) rfl ?_
                          exact m_iret C dX12_set_126 rfl (Nat.le_of_ble_eq_true rfl) (Nat.le_of_ble_eq_true rfl) ⟨f10, rfl, fq14, bn10, (SETX.n2 (tl1.mp (by omega)) (fw1.2 (by omega)) (by omega) (ks5.fr fn10 rfl rfl rfl))⟩
                      · clear gf7
                        refine m_aload_n (j := 5) C dX12_set_107 rfl ?_
                        refine m_call (mc2 := 0) (ms2 := 0) (As := []) (rest := []) C (B_notSet  bn7 ) dX12_set_108 kV_X12_270 rfl ck_13 rfl (Nat.le_of_ble_eq_true rfl) ⟨Nat.le_of_ble_eq_true rfl, Nat.le_of_ble_eq_true rfl⟩ ⟨Nat.le_of_ble_eq_true rfl, Nat.le_of_ble_eq_true rfl⟩ (fun rh11 vh11 ah11 h11 => ?_)
                        obtain ⟨f11, rfl, fn11, bn11, ex11⟩ := h11
                        refine hv2 (fq11.call fn11 rfl rfl) (show f11 = -1 from ex11) (fun fq15 gf11 => ?_)
                        refine m_st (st2 := [.int (iI f11)]) rfl ?_
                        exact m_iret C dX12_set_111 rfl (Nat.le_of_ble_eq_true rfl) (Nat.le_of_ble_eq_true rfl) ⟨f11, rfl, fq15, bn11, (SETX.n2 (tl1.mp (by omega)) (SE4.bad hS4 hg (by omega) (by omega) tl5.1 (by omega) (TBE.fr fpb6 rfl) (fun i => (hB.2 12 i).1) (fun i => (bxb6.2 12 i).1)) (by omega) (ks4.fr fn11 rfl rfl rfl))⟩
                refine hv2 (show 0 ≤ vh5 39 ∧ vh5 39 ≤ 200 from bn5.1 39) (show vh5 39 = vb5 39 from fn5.1 39 rfl) (fun rv19 ve11 => ?_)
                refine m_lv (lv2 := [(6, .int (iI f5)), (5, .int (iI (vb4 39))), (4, .int (iI g)), (3, .int (iI f3)), (2, .int (iI x)), (0, .ref h0), (1, .int (iI t))]) [0, 1, 2, 3, 4, 5, 6] rfl ?_
                exact Lp4 1010 f5 _ _ (by omega) bn5 fq9 (by omega) (by show 1 ≤ (vh5 39); omega) (by show 0 ≤ (vh5 23) ∧ (vh5 23) ≤ 500; omega) (by omega) (by show (vh5 23) ≠ 0 ∨ f5 = f3; omega) ks2 se1
              refine m_if_eq (tgt := 85) C (r32_01 hg) dX12_set_76 (by decide) (fun c10 => ?_) (fun c10 => ?_)
              · replace hg2 := (hg2.resolve_left (fun q => absurd (q.1.symm.trans c10) (by decide)))
                refine m_iload_n (j := 3) C dX12_set_85 rfl ?_
                have rv20 : 0 ≤ vh4 39 ∧ vh4 39 ≤ 200 := bn4.1 39
                refine m_lv (lv2 := [(5, .int (iI (vb4 39))), (4, .int (iI g)), (3, .int (iI f3)), (2, .int (iI x)), (0, .ref h0), (1, .int (iI t))]) [0, 1, 2, 3, 4, 5] rfl ?_
                exact J2  x _ _  bn4 fq8 (by omega) (by show 1 ≤ (vh4 39); omega) ks1 (by omega) (SE2.enter hS2 (by omega) (by omega) nx1 (by omega) rfl)
              · replace hg2 := (hg2.resolve_right (fun q => c10 q.1))
                refine m_iload_n (j := 3) C dX12_set_79 rfl ?_
                refine m_iconst C dX12_set_80 ?_
                refine m_iadd C dX12_set_81 ?_
                refine m_goto (tgt := 86) C dX12_set_82 (by decide) ?_
                have rv21 : 0 ≤ vh4 39 ∧ vh4 39 ≤ 200 := bn4.1 39
                refine m_lv (lv2 := [(5, .int (iI (vb4 39))), (4, .int (iI g)), (3, .int (iI f3)), (2, .int (iI x)), (0, .ref h0), (1, .int (iI t))]) [0, 1, 2, 3, 4, 5] rfl ?_
                exact J2  (x + 1) _ _  bn4 fq8 (by omega) (by show 1 ≤ (vh4 39); omega) ks1 (by omega) (SE2.enter hS2 (by omega) (by omega) nx1 (by omega) rfl)
            · clear gf4
              refine m_aload_n (j := 4) C dX12_set_66 rfl ?_
              refine m_bipush (z := 6) C dX12_set_67 (by decide) ?_
              refine m_call (mc2 := 0) (ms2 := 0) (As := [.int (iI 6)]) (rest := []) C (B_bad (x := 6) bn4 (by show -2147483648 ≤ (6 : Int) ∧ (6 : Int) ≤ 2147483647; omega)) dX12_set_69 kV_X12_154 rfl ck_13 rfl (Nat.le_of_ble_eq_true rfl) ⟨Nat.le_of_ble_eq_true rfl, Nat.le_of_ble_eq_true rfl⟩ ⟨Nat.le_of_ble_eq_true rfl, Nat.le_of_ble_eq_true rfl⟩ (fun rh12 vh12 ah12 h12 => ?_)
              obtain ⟨f12, rfl, fn12, bn12, ex12⟩ := h12
              refine hv2 (fq8.call fn12 rfl rfl) (show f12 = -1 from ex12) (fun fq16 gf12 => ?_)
              refine m_st (st2 := [.int (iI f12)]) rfl ?_
              exact m_iret C dX12_set_72 rfl (Nat.le_of_ble_eq_true rfl) (Nat.le_of_ble_eq_true rfl) ⟨f12, rfl, fq16, bn12, (SETX.n2 (tl1.mp (by omega)) (SE2.nroom hS2 (by omega) hT ⟨by omega, by omega⟩ nx1 (by omega)) (by omega) (ks1.fr fn12 rfl rfl rfl))⟩
          refine m_icmp_ne (tgt := 50) C ⟨by omega, by omega⟩ ⟨by decide, by decide⟩ dX12_set_43 (by decide) (fun c11 => ?_) (fun c11 => ?_)
          · refine m_iconst C dX12_set_50 ?_
            refine m_lv (lv2 := [(3, .int (iI f3)), (2, .int (iI x)), (0, .ref h0), (1, .int (iI t))]) [0, 1, 2, 3] rfl ?_
            exact J1  0 _ _  bxb1 fpb1 (by omega) hK21 (by omega) hS1
          · refine m_iconst C dX12_set_46 ?_
            refine m_goto (tgt := 51) C dX12_set_47 (by decide) ?_
            refine m_lv (lv2 := [(3, .int (iI f3)), (2, .int (iI x)), (0, .ref h0), (1, .int (iI t))]) [0, 1, 2, 3] rfl ?_
            exact J1  1 _ _  bxb1 fpb1 (by omega) hK21 (by omega) hS1
    refine m_lv (lv2 := [(2, .int (iI 0)), (0, .ref h0), (1, .int (iI t))]) [0, 1, 2] rfl ?_
    exact Lp1 503 0 _ _ (by omega) bq1 fq2 (by omega) ⟨va_up_ne _ _ (by decide), rfl, rfl⟩ (SE2.init (va_up_self _ _ _))
  · clear gf1
    refine m_aload_n (j := 0) C dX12_set_8 rfl ?_
    refine m_iconst C dX12_set_9 ?_
    refine m_call (mc2 := 0) (ms2 := 0) (As := [.int (iI 3)]) (rest := []) C (B_bad (x := 3) hB (by show -2147483648 ≤ (3 : Int) ∧ (3 : Int) ≤ 2147483647; omega)) dX12_set_10 kV_X12_154 rfl ck_13 rfl (Nat.le_of_ble_eq_true rfl) ⟨Nat.le_of_ble_eq_true rfl, Nat.le_of_ble_eq_true rfl⟩ ⟨Nat.le_of_ble_eq_true rfl, Nat.le_of_ble_eq_true rfl⟩ (fun rh13 vh13 ah13 h13 => ?_)
    obtain ⟨f13, rfl, fn13, bn13, ex13⟩ := h13
    refine hv2 (fp0.call fn13 rfl rfl) (show f13 = -1 from ex13) (fun fq17 gf13 => ?_)
    refine m_st (st2 := [.int (iI f13)]) rfl ?_
    exact m_iret C dX12_set_13 rfl (Nat.le_of_ble_eq_true rfl) (Nat.le_of_ble_eq_true rfl) ⟨f13, rfl, fq17, bn13, (SETX.n1 (fun q => absurd (tl1.mpr q) (by omega)) (by omega) ((KSH.refl (v := v) (a := a)).fr fn13 rfl rfl rfl))⟩
end
section
def rwe (E : List (Option (List Int))) (l : Int) : Option (Option (List Int)) := if 0 ≤ l then E[l.toNat]? else none
def RWA (a : Nat → Nat → Int) (l : Nat) (x : Option (List Int)) : Prop := (x = none ∧ a 34 l < 0) ∨ ∃ xs, x = some xs ∧ a 34 l = ((xs.length : Nat) : Int) ∧ ∀ (j : Nat) (y : Int), xs[j]? = some y → a 35 (200 * l + j) = y
def SHA (v : Nat → Int) (a : Nat → Nat → Int) (E : List (Option (List Int))) : Prop := v 36 = ((E.length : Nat) : Int) ∧ ∀ (l : Nat) (x : Option (List Int)), E[l]? = some x → RWA a l x
def mpr (n : Nat) (F : Nat → Int) : List Int := (List.range n).map F
def gd0 (xs : List Int) (j : Nat) : Int := (xs[j]?).getD 0
def LOSX (E : List (Option (List Int))) (l f : Int) (E2 : List (Option (List Int))) : Prop := ((∃ x, rwe E l = some x) ∧ E2 = E.set l.toNat none ∧ f = 1) ∨ (rwe E l = none ∧ E2 = E ∧ f = -1)
def CUTX (E : List (Option (List Int))) (l n f : Int) (E2 : List (Option (List Int))) : Prop := ((0 ≤ n ∧ n ≤ 200) ∧ ∃ xs, rwe E l = some (some xs) ∧ E2 = E.set l.toNat (some (mpr n.toNat (gd0 xs))) ∧ f = n) ∨ ((¬ ((0 ≤ n ∧ n ≤ 200) ∧ ∃ xs, rwe E l = some (some xs))) ∧ E2 = E ∧ f = -1)
def cpx (xs ys : List Int) (w x n : Nat) : List Int := mpr ys.length (fun j => if x ≤ j ∧ j < x + n then gd0 xs (w + (j - x)) else gd0 ys j)
def CPK (E : List (Option (List Int))) (q w u x n : Int) (xs ys : List Int) : Prop := rwe E q = some (some xs) ∧ rwe E u = some (some ys) ∧ 0 ≤ n ∧ 0 ≤ w ∧ 0 ≤ x ∧ w + n ≤ ((xs.length : Nat) : Int) ∧ x + n ≤ ((ys.length : Nat) : Int)
def CPRX (E : List (Option (List Int))) (q w u x n f : Int) (E2 : List (Option (List Int))) : Prop := (∃ xs ys, CPK E q w u x n xs ys ∧ E2 = E.set u.toNat (some (cpx xs ys w.toNat x.toNat n.toNat)) ∧ f = n) ∨ ((¬ ∃ xs ys, CPK E q w u x n xs ys) ∧ E2 = E ∧ f = -1)
def cst (E : List (Option (List Int))) (q u : Int) (E2 : List (Option (List Int))) : Prop := ∃ xs y, rwe E q = some (some xs) ∧ rwe E u = some y ∧ E2 = E.set u.toNat (some xs)
def cpn (E : List (Option (List Int))) (q u : Int) : Nat → List (Option (List Int)) → Prop
  | 0, E2 => E2 = E
  | k + 1, E2 => ∃ E1, cpn E q u k E1 ∧ cst E1 (q + ((k : Nat) : Int)) (u + ((k : Nat) : Int)) E2
def CPLX (E : List (Option (List Int))) (q u n c f : Int) (E2 : List (Option (List Int))) (c2 : Int) : Prop := ((n < 0 ∨ 10 < n) ∧ E2 = E ∧ f = -1 ∧ c2 = c) ∨ ((0 ≤ n ∧ n ≤ 10) ∧ ((cpn E q u n.toNat E2 ∧ f = n ∧ c2 = n) ∨ ∃ k : Nat, ((k : Nat) : Int) < n ∧ cpn E q u k E2 ∧ (¬ ∃ E3, cst E2 (q + ((k : Nat) : Int)) (u + ((k : Nat) : Int)) E3) ∧ f = -1 ∧ c2 = ((k : Nat) : Int)))
section CONT
variable {v v2 : Nat → Int} {a a2 : Nat → Nat → Int} {E E1 E2 E3 : List (Option (List Int))} {l i n q u w x f f1 f2 c c1 c2 : Int} {k : Nat} {xs ys : List Int}
theorem mpr_len {n : Nat} {F : Nat → Int} : (mpr n F).length = n := by
  unfold mpr
  rw [List.length_map, List.length_range]
theorem mpr_at {n j : Nat} {F : Nat → Int} {y : Int} (h : (mpr n F)[j]? = some y) : j < n ∧ y = F j := by
  have lt := gl3 h
  rw [mpr_len] at lt
  refine ⟨lt, ?_⟩
  unfold mpr at h
  rw [List.getElem?_map, List.getElem?_range lt] at h
  exact (Option.some.inj h).symm
theorem gd0_at {j : Nat} {y : Int} (h : xs[j]? = some y) : gd0 xs j = y := by
  unfold gd0
  rw [h]
  rfl
theorem gd0_out {j : Nat} (h : xs.length ≤ j) : gd0 xs j = 0 := by
  unfold gd0
  rw [List.getElem?_eq_none h]
  rfl
theorem gd0_lt {j : Nat} (h : j < xs.length) : xs[j]? = some (gd0 xs j) := by
  rw [gd0_at (List.getElem?_eq_getElem h)]
  exact List.getElem?_eq_getElem h
theorem rwl_lt {y : Option (List Int)} (h : rwe E l = some y) : 0 ≤ l ∧ l < ((E.length : Nat) : Int) ∧ E[l.toNat]? = some y := by
  unfold rwe at h
  by_cases c0 : 0 ≤ l
  · rw [if_pos c0] at h
    have lt := gl3 h
    exact ⟨c0, by omega, h⟩
  · rw [if_neg c0] at h
    cases h
theorem rwl_in (h0 : 0 ≤ l) (h : l < ((E.length : Nat) : Int)) : ∃ y, rwe E l = some y ∧ E[l.toNat]? = some y := by
  have lt : l.toNat < E.length := by omega
  refine ⟨_, ?_, List.getElem?_eq_getElem lt⟩
  unfold rwe
  rw [if_pos h0]
  exact List.getElem?_eq_getElem lt
theorem rwl_out (h : ¬ (0 ≤ l ∧ l < ((E.length : Nat) : Int))) : rwe E l = none := by
  unfold rwe
  by_cases c0 : 0 ≤ l
  · rw [if_pos c0]
    exact List.getElem?_eq_none (by omega)
  · rw [if_neg c0]
theorem SHA.off (h : SHA v a E) (hl : ¬ (0 ≤ l ∧ l < v 36)) : rwe E l = none := rwl_out (by have e := h.1; omega)
theorem SHA.on (h : SHA v a E) (h0 : 0 ≤ l) (hl : l < v 36) : ∃ y, rwe E l = some y ∧ RWA a l.toNat y := by
  obtain ⟨y, y1, y2⟩ := rwl_in (E := E) h0 (by have e := h.1; omega)
  exact ⟨y, y1, h.2 _ y y2⟩
theorem SHA.lack (h : SHA v a E) (h0 : 0 ≤ l) (hl : l < v 36) (hn : a 34 l.toNat < 0) : rwe E l = some none := by
  obtain ⟨y, y1, y2⟩ := h.on h0 hl
  rcases y2 with ⟨e, _⟩ | ⟨xs, _, e, _⟩
  · rw [y1, e]
  · omega
theorem SHA.have_ (h : SHA v a E) (h0 : 0 ≤ l) (hl : l < v 36) (hn : 0 ≤ a 34 l.toNat) : ∃ xs, rwe E l = some (some xs) ∧ a 34 l.toNat = ((xs.length : Nat) : Int) ∧ ∀ j : Nat, j < xs.length → a 35 (200 * l.toNat + j) = gd0 xs j := by
  obtain ⟨y, y1, y2⟩ := h.on h0 hl
  rcases y2 with ⟨_, e⟩ | ⟨xs, e1, e2, e3⟩
  · omega
  · exact ⟨xs, by rw [y1, e1], e2, fun j hj => e3 j _ (gd0_lt hj)⟩
theorem LOSX.uni (h : LOSX E l f1 E1) (h2 : LOSX E l f2 E2) : f1 = f2 ∧ E1 = E2 := by
  rcases h with ⟨⟨x, e1⟩, e2, e3⟩ | ⟨e1, e2, e3⟩ <;> rcases h2 with ⟨⟨y, d1⟩, d2, d3⟩ | ⟨d1, d2, d3⟩
  · exact ⟨e3.trans d3.symm, e2.trans d2.symm⟩
  · rw [e1] at d1
    cases d1
  · rw [e1] at d1
    cases d1
  · exact ⟨e3.trans d3.symm, e2.trans d2.symm⟩
theorem CUTX.uni (h : CUTX E l n f1 E1) (h2 : CUTX E l n f2 E2) : f1 = f2 ∧ E1 = E2 := by
  rcases h with ⟨e0, xs, e1, e2, e3⟩ | ⟨e1, e2, e3⟩ <;> rcases h2 with ⟨d0, ys, d1, d2, d3⟩ | ⟨d1, d2, d3⟩
  · rw [e1] at d1
    cases d1
    exact ⟨e3.trans d3.symm, e2.trans d2.symm⟩
  · exact absurd ⟨e0, xs, e1⟩ d1
  · exact absurd ⟨d0, ys, d1⟩ e1
  · exact ⟨e3.trans d3.symm, e2.trans d2.symm⟩
theorem CPRX.uni (h : CPRX E q w u x n f1 E1) (h2 : CPRX E q w u x n f2 E2) : f1 = f2 ∧ E1 = E2 := by
  rcases h with ⟨xs, ys, e1, e2, e3⟩ | ⟨e1, e2, e3⟩ <;> rcases h2 with ⟨zs, us, d1, d2, d3⟩ | ⟨d1, d2, d3⟩
  · have i1 := e1.1.symm.trans d1.1
    have i2 := e1.2.1.symm.trans d1.2.1
    cases i1
    cases i2
    exact ⟨e3.trans d3.symm, e2.trans d2.symm⟩
  · exact absurd ⟨xs, ys, e1⟩ d1
  · exact absurd ⟨zs, us, d1⟩ e1
  · exact ⟨e3.trans d3.symm, e2.trans d2.symm⟩
theorem cst.uni (h : cst E q u E1) (h2 : cst E q u E2) : E1 = E2 := by
  obtain ⟨xs, y, e1, e2, e3⟩ := h
  obtain ⟨ys, z, d1, d2, d3⟩ := h2
  rw [e1] at d1
  cases d1
  rw [e3, d3]
theorem cpn.uni : ∀ (k : Nat) (E1 E2 : List (Option (List Int))), cpn E q u k E1 → cpn E q u k E2 → E1 = E2 := by
  intro k
  induction k with
  | zero => intro E1 E2 h h2; exact h.trans h2.symm
  | succ k ih =>
    intro E1 E2 h h2
    obtain ⟨A, a1, a2⟩ := h
    obtain ⟨B, b1, b2⟩ := h2
    have e := ih A B a1 b1
    subst e
    exact cst.uni a2 b2
theorem cpn.less {m : Nat} (hm : k < m) : ∀ E1, cpn E q u m E1 → ∃ E2 E3, cpn E q u k E2 ∧ cst E2 (q + ((k : Nat) : Int)) (u + ((k : Nat) : Int)) E3 := by
  induction m with
  | zero => omega
  | succ m ih =>
    intro E1 h
    obtain ⟨A, a1, a2⟩ := h
    by_cases c0 : k = m
    · subst c0
      exact ⟨A, E1, a1, a2⟩
    · exact ih (by omega) A a1
theorem cpn.stop {m : Nat} (h1 : cpn E q u k E1) (n1 : ¬ ∃ E3, cst E1 (q + ((k : Nat) : Int)) (u + ((k : Nat) : Int)) E3) (h2 : cpn E q u m E2) (hm : k < m) : False := by
  obtain ⟨A, B, a1, a2⟩ := cpn.less hm E2 h2
  have e := cpn.uni k A E1 a1 h1
  subst e
  exact n1 ⟨B, a2⟩
theorem CPLX.uni (h : CPLX E q u n c f1 E1 c1) (h2 : CPLX E q u n c f2 E2 c2) : f1 = f2 ∧ E1 = E2 ∧ c1 = c2 := by
  rcases h with ⟨e0, e1, e2, e3⟩ | ⟨e0, ⟨e1, e2, e3⟩ | ⟨k, e1, e2, e3, e4, e5⟩⟩ <;> rcases h2 with ⟨d0, d1, d2, d3⟩ | ⟨d0, ⟨d1, d2, d3⟩ | ⟨m, d1, d2, d3, d4, d5⟩⟩
  · exact ⟨e2.trans d2.symm, e1.trans d1.symm, e3.trans d3.symm⟩
  · omega
  · omega
  · omega
  · exact ⟨e2.trans d2.symm, cpn.uni _ _ _ e1 d1, e3.trans d3.symm⟩
  · exact (cpn.stop d2 d3 e1 (by omega)).elim
  · omega
  · exact (cpn.stop e2 e3 d1 (by omega)).elim
  · by_cases c0 : k = m
    · subst c0
      exact ⟨e4.trans d4.symm, cpn.uni _ _ _ e2 d2, e5.trans d5.symm⟩
    · by_cases c3 : k < m
      · exact (cpn.stop e2 e3 d2 c3).elim
      · exact (cpn.stop d2 d3 e2 (by omega)).elim
end CONT
end
