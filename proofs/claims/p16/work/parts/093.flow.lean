theorem W_newLine2 {v v2 : Nat → Int} {a a2 : Nat → Nat → Int} {r : Option Value}  (hB : BX v a)  (h : (fun r v2 a2 => ∃ f : Int, r = some (.int (iI f)) ∧ ((f = 1 ∧ v 39 < 200 ∧ v2 = va_up v 39 (v 39 + 1) ∧ a2 = up2 a 37 (v 39).toNat 0) ∨ (f = 0 ∧ v 39 = 200 ∧ v = v2 ∧ a = a2))) r v2 a2) : (fun r v2 a2 => ∃ f : Int, r = some (.int (iI f)) ∧ fr [39] [37] v a v2 a2 ∧ BX v2 a2 ∧ (((f = 1 ∧ v2 39 = v 39 + 1 ∧ a2 37 (v2 39 - 1).toNat = 0) ∨ f = 0) ∧ NLX v a v2 a2 f)) r v2 a2 := by
  obtain ⟨f, rfl, h⟩ := h
  have q39 : 0 ≤ v 39 ∧ v 39 ≤ 200 := hB.1 39
  rcases h with ⟨rfl, h1, rfl, rfl⟩ | ⟨rfl, h1, rfl, rfl⟩
  · refine ⟨1, rfl, ((fr.refl (V := [39]) (A := [37])).put (k := 39) rfl).set (k := 37) rfl, (hB.put (k := 39) (show 0 ≤ v 39 + 1 ∧ v 39 + 1 ≤ 200 by omega)).set (k := 37) (show (0 : Int) ≤ 0 ∧ (0 : Int) ≤ 200 by omega), Or.inl ⟨rfl, rfl, (by rw [show (va_up v 39 (v 39 + 1)) 39 - 1 = v 39 by rw [va_up_self]; omega]; exact up2_s)⟩, fun D hD => ?_⟩
    have e0 := hD.1
    exact Or.inl ⟨rfl, by omega, hD.new rfl (va_up_self _ _ _)⟩
  · refine ⟨0, rfl, fr.refl, hB, Or.inr rfl, fun D hD => ?_⟩
    have e0 := hD.1
    exact Or.inr ⟨rfl, by omega⟩
set_option maxHeartbeats 4000000 in
set_option maxRecDepth 100000 in
theorem E_breakOf {l : Launch} {G : GT} {h0 : Nat} {ad ln : Nat → Nat} {v : Nat → Int} {a : Nat → Nat → Int}  {t q z : Int} (hB : BX v a) (ht : 0 ≤ t ∧ t < 30) (hq : 0 ≤ q ∧ q ≤ 208) (hz : -200 ≤ z ∧ z ≤ 200) : Mm l G yX12_breakOf cX12_breakOf 7 (some .int) 1 [.int (iI t), .int (iI q), .int (iI z)] h0 ad ln v a 0 0 (fun r v2 a2 => ∃ f : Int, r = some (.int (iI f)) ∧ fr [] [] v a v2 a2 ∧ BX v2 a2 ∧ ((f = -1 ∨ (q < f ∧ f ≤ 208 ∧ f - q + 1 ≤ z)) ∧ BRQ v a t q z f)) := by
  refine Mm.mk (by decide) (Nat.le_of_ble_eq_true rfl) ?_
  intro p e s m args below meth c A C
  refine hv2 (show 0 ≤ v 23 ∧ v 23 ≤ 500 from hB.1 23) (show fr [] [] v a v a from fr.refl) (fun r23 fp0 => ?_)
  refine m_iconst C dX12_breakOf_0 ?_
  refine m_istore (lv2 := [(4, .int (iI (-1))), (0, .ref h0), (1, .int (iI t)), (2, .int (iI q)), (3, .int (iI z))]) C dX12_breakOf_1 (by decide) rfl ?_
  refine m_iconst C dX12_breakOf_3 ?_
  refine m_istore (lv2 := [(5, .int (iI 1)), (4, .int (iI (-1))), (0, .ref h0), (1, .int (iI t)), (2, .int (iI q)), (3, .int (iI z))]) C dX12_breakOf_4 (by decide) rfl ?_
  have Lp1 : ∀ (nn : Nat) (w1 k : Int) (vb1 : Nat → Int) (ab1 : Nat → Nat → Int), 502 - k < (nn : Int) → BX vb1 ab1 → fr [] [] v a vb1 ab1 → (w1 = -1 ∨ (q < w1 ∧ w1 ≤ 208 ∧ w1 - q + 1 ≤ z)) → (1 ≤ k ∧ k ≤ 501 ∧ (k = 1 ∨ k ≤ v 23)) → (BRI v a t q z k w1) → mw p l e (rmq 1 0 0) s m args below meth c G A 7 (MQ below (Qm G A (fun rq Lq Eq => ∃ (vq : Nat → Int) (aq : Nat → Nat → Int), mI G h0 ad ln vq aq Lq Eq ∧ (fun r v2 a2 => ∃ f : Int, r = some (.int (iI f)) ∧ fr [] [] v a v2 a2 ∧ BX v2 a2 ∧ ((f = -1 ∨ (q < f ∧ f ≤ 208 ∧ f - q + 1 ≤ z)) ∧ BRQ v a t q z f)) rq vq aq)) args s 0 0 A) h0 ad ln vb1 ab1 0 0 6 [(4, .int (iI w1)), (5, .int (iI k)), (0, .ref h0), (1, .int (iI t)), (2, .int (iI q)), (3, .int (iI z))] [] := by
    intro nn
    induction nn with
    | zero =>
      intro w1 k vb1 ab1 hm bxb1 fpb1 hw hk hI
      obtain ⟨rfl, rfl⟩ := fpb1.eq
      exact absurd hm (by omega)
    | succ nn ih1 =>
      intro w1 k vb1 ab1 hm bxb1 fpb1 hw hk hI
      obtain ⟨rfl, rfl⟩ := fpb1.eq
      refine m_iload (j := 1) C dX12_breakOf_6 rfl ?_
      refine m_aload_n (j := 2) C dX12_breakOf_8 rfl ?_
      have rv1 : 0 ≤ v 23 ∧ v 23 ≤ 500 := bxb1.1 23
      refine m_get (k := 23) C dX12_breakOf_9 w6_82 (by decide) rfl ?_
      refine m_icmp_ge (tgt := 148) C (r32_c (lo := 1) (hi := 501) hk.1 hk.2.1 (by decide) (by decide)) (r32_c (lo := 0) (hi := 500) rv1.1 rv1.2 (by decide) (by decide)) dX12_breakOf_12 (by decide) (fun c1 => ?_) (fun c1 => ?_)
      · refine m_iload (j := 0) C dX12_breakOf_148 rfl ?_
        exact m_iret C dX12_breakOf_150 rfl (Nat.le_of_ble_eq_true rfl) (Nat.le_of_ble_eq_true rfl) ⟨w1, rfl, fpb1, bxb1, ⟨hw, hI.fin (by omega)⟩⟩
      · refine m_aload_n (j := 2) C dX12_breakOf_15 rfl ?_
        refine m_geta (k := 22) C dX12_breakOf_16 w6_81 (by decide) rfl ?_
        refine m_iload (j := 1) C dX12_breakOf_19 rfl ?_
        refine m_zald (k := 22) C dX12_breakOf_21 rfl rfl (by decide) (Int.le_trans (by decide) hk.1) (Int.lt_of_le_of_lt hk.2.1 (by decide)) (by decide) ?_
        have ra1 : 0 ≤ a 22 k.toNat ∧ a 22 k.toNat ≤ 1 := bxb1.2 22 (k.toNat)
        refine m_if_eq (tgt := 142) C (r32_c (lo := 0) (hi := 1) ra1.1 ra1.2 (by decide) (by decide)) dX12_breakOf_22 (by decide) (fun c2 => ?_) (fun c2 => ?_)
        · refine m_iinc (z := k) (j := 1) (lv2 := [(5, .int (iI (k + 1))), (4, .int (iI w1)), (0, .ref h0), (1, .int (iI t)), (2, .int (iI q)), (3, .int (iI z))]) C dX12_breakOf_142 rfl (by decide) rfl ?_
          refine m_goto (tgt := 6) C dX12_breakOf_145 (by decide) ?_
          refine m_lv (lv2 := [(4, .int (iI w1)), (5, .int (iI (k + 1))), (0, .ref h0), (1, .int (iI t)), (2, .int (iI q)), (3, .int (iI z))]) [1, 0, 2, 3, 4, 5] rfl ?_
          exact ih1  w1 (k + 1) _ _ (by omega) bxb1 fpb1 (by omega) (by omega) (hI.miss ⟨by omega, by omega⟩ (fun e => absurd e.1 (by omega)))
        · refine m_aload_n (j := 2) C dX12_breakOf_25 rfl ?_
          refine m_geta (k := 26) C dX12_breakOf_26 w6_85 (by decide) rfl ?_
          refine m_iload (j := 1) C dX12_breakOf_29 rfl ?_
          refine m_ald (k := 26) C dX12_breakOf_31 rfl rfl (by decide) (Int.le_trans (by decide) hk.1) (Int.lt_of_le_of_lt hk.2.1 (by decide)) (by decide) ?_
          have ra2 : (-1) ≤ a 26 k.toNat ∧ a 26 k.toNat ≤ 208 := bxb1.2 26 (k.toNat)
          refine m_iload_n (j := 4) C dX12_breakOf_32 rfl ?_
          refine m_icmp_le (tgt := 142) C (r32_c (lo := (-1)) (hi := 208) ra2.1 ra2.2 (by decide) (by decide)) ⟨by omega, by omega⟩ dX12_breakOf_33 (by decide) (fun c3 => ?_) (fun c3 => ?_)
          · refine m_iinc (z := k) (j := 1) (lv2 := [(5, .int (iI (k + 1))), (4, .int (iI w1)), (0, .ref h0), (1, .int (iI t)), (2, .int (iI q)), (3, .int (iI z))]) C dX12_breakOf_142 rfl (by decide) rfl ?_
            refine m_goto (tgt := 6) C dX12_breakOf_145 (by decide) ?_
            refine m_lv (lv2 := [(4, .int (iI w1)), (5, .int (iI (k + 1))), (0, .ref h0), (1, .int (iI t)), (2, .int (iI q)), (3, .int (iI z))]) [1, 0, 2, 3, 4, 5] rfl ?_
            exact ih1  w1 (k + 1) _ _ (by omega) bxb1 fpb1 (by omega) (by omega) (hI.miss ⟨by omega, by omega⟩ (fun e => absurd e.2.1 (by omega)))
          · refine m_aload_n (j := 2) C dX12_breakOf_36 rfl ?_
            refine m_geta (k := 26) C dX12_breakOf_37 w6_85 (by decide) rfl ?_
            refine m_iload (j := 1) C dX12_breakOf_40 rfl ?_
            refine m_ald (k := 26) C dX12_breakOf_42 rfl rfl (by decide) (Int.le_trans (by decide) hk.1) (Int.lt_of_le_of_lt hk.2.1 (by decide)) (by decide) ?_
            refine m_iload_n (j := 4) C dX12_breakOf_43 rfl ?_
            refine m_isub C dX12_breakOf_44 ?_
            refine m_iconst C dX12_breakOf_45 ?_
            refine m_iadd C dX12_breakOf_46 ?_
            refine m_iload_n (j := 5) C dX12_breakOf_47 rfl ?_
            refine m_icmp_le (tgt := 54) C ⟨by omega, by omega⟩ ⟨by omega, by omega⟩ dX12_breakOf_48 (by decide) (fun c4 => ?_) (fun c4 => ?_)
            · have J1 : ∀ (g : Int) (vb2 : Nat → Int) (ab2 : Nat → Nat → Int), BX vb2 ab2 → fr [] [] v a vb2 ab2 → (g = 0 ∨ g = 1) → (g = 1 ↔ kok (a 6 t.toNat) (v 23) (a 20 (k - 1).toNat) (a 20 k.toNat)) → mw p l e (rmq 1 0 0) s m args below meth c G A 7 (MQ below (Qm G A (fun rq Lq Eq => ∃ (vq : Nat → Int) (aq : Nat → Nat → Int), mI G h0 ad ln vq aq Lq Eq ∧ (fun r v2 a2 => ∃ f : Int, r = some (.int (iI f)) ∧ fr [] [] v a v2 a2 ∧ BX v2 a2 ∧ ((f = -1 ∨ (q < f ∧ f ≤ 208 ∧ f - q + 1 ≤ z)) ∧ BRQ v a t q z f)) rq vq aq)) args s 0 0 A) h0 ad ln vb2 ab2 0 0 128 [(6, .int (iI g)), (4, .int (iI w1)), (5, .int (iI k)), (0, .ref h0), (1, .int (iI t)), (2, .int (iI q)), (3, .int (iI z))] [] := by
                intro g vb2 ab2 bxb2 fpb2 hg hg2
                obtain ⟨rfl, rfl⟩ := fpb2.eq
                refine m_iload (j := 0) C dX12_breakOf_128 rfl ?_
                refine m_if_eq (tgt := 142) C (r32_01 hg) dX12_breakOf_130 (by decide) (fun c5 => ?_) (fun c5 => ?_)
                · clear hg
                  refine m_iinc (z := k) (j := 2) (lv2 := [(5, .int (iI (k + 1))), (6, .int (iI g)), (4, .int (iI w1)), (0, .ref h0), (1, .int (iI t)), (2, .int (iI q)), (3, .int (iI z))]) C dX12_breakOf_142 rfl (by decide) rfl ?_
                  refine m_goto (tgt := 6) C dX12_breakOf_145 (by decide) ?_
                  refine m_lv (lv2 := [(4, .int (iI w1)), (5, .int (iI (k + 1))), (0, .ref h0), (1, .int (iI t)), (2, .int (iI q)), (3, .int (iI z))]) [2, 0, 3, 4, 5, 6] rfl ?_
                  exact ih1  w1 (k + 1) _ _ (by omega) bxb2 fpb2 (by omega) (by omega) (hI.miss ⟨by omega, by omega⟩ (fun e => absurd (hg2.mpr e.2.2.2) (by omega)))
                · replace hg := (hg.resolve_left c5)
                  refine m_aload_n (j := 3) C dX12_breakOf_133 rfl ?_
                  refine m_geta (k := 26) C dX12_breakOf_134 w6_85 (by decide) rfl ?_
                  refine m_iload (j := 2) C dX12_breakOf_137 rfl ?_
                  refine m_ald (k := 26) C dX12_breakOf_139 rfl rfl (by decide) (Int.le_trans (by decide) hk.1) (Int.lt_of_le_of_lt hk.2.1 (by decide)) (by decide) ?_
                  refine m_istore (lv2 := [(4, .int (iI (a 26 k.toNat))), (6, .int (iI g)), (5, .int (iI k)), (0, .ref h0), (1, .int (iI t)), (2, .int (iI q)), (3, .int (iI z))]) C dX12_breakOf_140 (by decide) rfl ?_
                  refine m_iinc (z := k) (j := 2) (lv2 := [(5, .int (iI (k + 1))), (4, .int (iI (a 26 k.toNat))), (6, .int (iI g)), (0, .ref h0), (1, .int (iI t)), (2, .int (iI q)), (3, .int (iI z))]) C dX12_breakOf_142 rfl (by decide) rfl ?_
                  refine m_goto (tgt := 6) C dX12_breakOf_145 (by decide) ?_
                  refine m_lv (lv2 := [(4, .int (iI (a 26 k.toNat))), (5, .int (iI (k + 1))), (0, .ref h0), (1, .int (iI t)), (2, .int (iI q)), (3, .int (iI z))]) [1, 0, 3, 4, 5, 6] rfl ?_
                  exact ih1  (a 26 k.toNat) (k + 1) _ _ (by omega) bxb2 fpb2 (by omega) (by omega) (hI.hit ⟨by omega, by omega⟩ (by omega) (by omega) (by omega) (hg2.mp (by omega)) rfl)
              refine m_aload_n (j := 2) C dX12_breakOf_54 rfl ?_
              refine m_geta (k := 6) C dX12_breakOf_55 w6_65 (by decide) rfl ?_
              refine m_iload_n (j := 3) C dX12_breakOf_58 rfl ?_
              refine m_ald (k := 6) C dX12_breakOf_59 rfl rfl (by decide) (by omega) (by show _ < ((_ : Nat) : Int); simp only [mlen]; omega) (by decide) ?_
              have ra3 : 0 ≤ a 6 t.toNat ∧ a 6 t.toNat ≤ 5 := bxb1.2 6 (t.toNat)
              refine m_iconst C dX12_breakOf_60 ?_
              refine m_icmp_gt (tgt := 125) C (r32_c (lo := 0) (hi := 5) ra3.1 ra3.2 (by decide) (by decide)) ⟨by decide, by decide⟩ dX12_breakOf_61 (by decide) (fun c6 => ?_) (fun c6 => ?_)
              · refine m_iconst C dX12_breakOf_125 ?_
                refine m_istore (lv2 := [(6, .int (iI 0)), (4, .int (iI w1)), (5, .int (iI k)), (0, .ref h0), (1, .int (iI t)), (2, .int (iI q)), (3, .int (iI z))]) C dX12_breakOf_126 (by decide) rfl ?_
                refine m_lv (lv2 := [(6, .int (iI 0)), (4, .int (iI w1)), (5, .int (iI k)), (0, .ref h0), (1, .int (iI t)), (2, .int (iI q)), (3, .int (iI z))]) [0, 1, 2, 3, 4, 5, 6] rfl ?_
                exact J1  0 _ _  bxb1 fpb1 (by omega) (by unfold kok isD; omega)
              · refine m_aload_n (j := 2) C dX12_breakOf_64 rfl ?_
                refine m_geta (k := 6) C dX12_breakOf_65 w6_65 (by decide) rfl ?_
                refine m_iload_n (j := 3) C dX12_breakOf_68 rfl ?_
                refine m_ald (k := 6) C dX12_breakOf_69 rfl rfl (by decide) (by omega) (by show _ < ((_ : Nat) : Int); simp only [mlen]; omega) (by decide) ?_
                refine m_iconst C dX12_breakOf_70 ?_
                refine m_icmp_ne (tgt := 102) C (r32_c (lo := 0) (hi := 5) ra3.1 ra3.2 (by decide) (by decide)) ⟨by decide, by decide⟩ dX12_breakOf_71 (by decide) (fun c7 => ?_) (fun c7 => ?_)
                · refine m_aload_n (j := 2) C dX12_breakOf_102 rfl ?_
                  refine m_geta (k := 6) C dX12_breakOf_103 w6_65 (by decide) rfl ?_
                  refine m_iload_n (j := 3) C dX12_breakOf_106 rfl ?_
                  refine m_ald (k := 6) C dX12_breakOf_107 rfl rfl (by decide) (by omega) (by show _ < ((_ : Nat) : Int); simp only [mlen]; omega) (by decide) ?_
                  refine m_iconst C dX12_breakOf_108 ?_
                  refine m_icmp_ne (tgt := 121) C (r32_c (lo := 0) (hi := 5) ra3.1 ra3.2 (by decide) (by decide)) ⟨by decide, by decide⟩ dX12_breakOf_109 (by decide) (fun c8 => ?_) (fun c8 => ?_)
                  · refine m_iconst C dX12_breakOf_121 ?_
                    refine m_goto (tgt := 126) C dX12_breakOf_122 (by decide) ?_
                    refine m_istore (lv2 := [(6, .int (iI 1)), (4, .int (iI w1)), (5, .int (iI k)), (0, .ref h0), (1, .int (iI t)), (2, .int (iI q)), (3, .int (iI z))]) C dX12_breakOf_126 (by decide) rfl ?_
                    refine m_lv (lv2 := [(6, .int (iI 1)), (4, .int (iI w1)), (5, .int (iI k)), (0, .ref h0), (1, .int (iI t)), (2, .int (iI q)), (3, .int (iI z))]) [0, 1, 2, 3, 4, 5, 6] rfl ?_
                    exact J1  1 _ _  bxb1 fpb1 (by omega) (by unfold kok isD; omega)
                  · refine m_aload_n (j := 2) C dX12_breakOf_112 rfl ?_
                    refine m_get (k := 23) C dX12_breakOf_113 w6_82 (by decide) rfl ?_
                    refine m_bipush (z := 6) C dX12_breakOf_116 (by decide) ?_
                    refine m_icmp_lt (tgt := 125) C (r32_c (lo := 0) (hi := 500) rv1.1 rv1.2 (by decide) (by decide)) ⟨by decide, by decide⟩ dX12_breakOf_118 (by decide) (fun c9 => ?_) (fun c9 => ?_)
                    · refine m_iconst C dX12_breakOf_125 ?_
                      refine m_istore (lv2 := [(6, .int (iI 0)), (4, .int (iI w1)), (5, .int (iI k)), (0, .ref h0), (1, .int (iI t)), (2, .int (iI q)), (3, .int (iI z))]) C dX12_breakOf_126 (by decide) rfl ?_
                      refine m_lv (lv2 := [(6, .int (iI 0)), (4, .int (iI w1)), (5, .int (iI k)), (0, .ref h0), (1, .int (iI t)), (2, .int (iI q)), (3, .int (iI z))]) [0, 1, 2, 3, 4, 5, 6] rfl ?_
                      exact J1  0 _ _  bxb1 fpb1 (by omega) (by unfold kok isD; omega)
                    · refine m_iconst C dX12_breakOf_121 ?_
                      refine m_goto (tgt := 126) C dX12_breakOf_122 (by decide) ?_
                      refine m_istore (lv2 := [(6, .int (iI 1)), (4, .int (iI w1)), (5, .int (iI k)), (0, .ref h0), (1, .int (iI t)), (2, .int (iI q)), (3, .int (iI z))]) C dX12_breakOf_126 (by decide) rfl ?_
                      refine m_lv (lv2 := [(6, .int (iI 1)), (4, .int (iI w1)), (5, .int (iI k)), (0, .ref h0), (1, .int (iI t)), (2, .int (iI q)), (3, .int (iI z))]) [0, 1, 2, 3, 4, 5, 6] rfl ?_
                      exact J1  1 _ _  bxb1 fpb1 (by omega) (by unfold kok isD; omega)
                · refine m_aload_n (j := 2) C dX12_breakOf_74 rfl ?_
                  refine m_geta (k := 20) C dX12_breakOf_75 w6_79 (by decide) rfl ?_
                  refine m_iload (j := 1) C dX12_breakOf_78 rfl ?_
                  refine m_iconst C dX12_breakOf_80 ?_
                  refine m_isub C dX12_breakOf_81 ?_
                  refine m_ald (k := 20) C dX12_breakOf_82 rfl rfl (by decide) (by omega) (by show _ < ((_ : Nat) : Int); simp only [mlen]; omega) (by decide) ?_
                  have ra4 : (-2147483648) ≤ a 20 (k - 1).toNat ∧ a 20 (k - 1).toNat ≤ 2147483647 := bxb1.2 20 ((k - 1).toNat)
                  refine m_callS (As := [.int (iI (a 20 (k - 1).toNat))]) (rest := []) C (fun L E => s_isDigit (iI (a 20 (k - 1).toNat))) dX12_breakOf_83 kS_X12_202 rfl rfl (Nat.le_of_ble_eq_true rfl) ⟨Nat.le_of_ble_eq_true rfl, Nat.le_of_ble_eq_true rfl⟩ ⟨Nat.le_of_ble_eq_true rfl, Nat.le_of_ble_eq_true rfl⟩ ?_
                  rcases inn_c (x := a 20 (k - 1).toNat) (lo := 48) (hi := 57) (r32_c (lo := (-2147483648)) (hi := 2147483647) ra4.1 ra4.2 (by decide) (by decide)) ⟨by decide, by decide⟩ ⟨by decide, by decide⟩ with ⟨h1a, h1b, h1e⟩ | ⟨h1a, h1e⟩
                  · refine m_st (st2 := [.int (iI 1)]) (by rw [show inn (iI (a 20 (k - 1).toNat)) 48 57 = iI 1 from h1e]) ?_
                    refine m_if_ne (tgt := 125) C ⟨by decide, by decide⟩ dX12_breakOf_86 (by decide) (fun _ => ?_) (fun z => absurd z (by omega))
                    refine m_iconst C dX12_breakOf_125 ?_
                    refine m_istore (lv2 := [(6, .int (iI 0)), (4, .int (iI w1)), (5, .int (iI k)), (0, .ref h0), (1, .int (iI t)), (2, .int (iI q)), (3, .int (iI z))]) C dX12_breakOf_126 (by decide) rfl ?_
                    refine m_lv (lv2 := [(6, .int (iI 0)), (4, .int (iI w1)), (5, .int (iI k)), (0, .ref h0), (1, .int (iI t)), (2, .int (iI q)), (3, .int (iI z))]) [0, 1, 2, 3, 4, 5, 6] rfl ?_
                    exact J1  0 _ _  bxb1 fpb1 (by omega) (by unfold kok isD; omega)
                  · refine m_st (st2 := [.int (iI 0)]) (by rw [show inn (iI (a 20 (k - 1).toNat)) 48 57 = iI 0 from h1e]) ?_
                    refine m_if_ne (tgt := 125) C ⟨by decide, by decide⟩ dX12_breakOf_86 (by decide) (fun z => absurd z (by omega)) (fun _ => ?_)
                    refine m_aload_n (j := 2) C dX12_breakOf_89 rfl ?_
                    refine m_geta (k := 20) C dX12_breakOf_90 w6_79 (by decide) rfl ?_
                    refine m_iload (j := 1) C dX12_breakOf_93 rfl ?_
                    refine m_ald (k := 20) C dX12_breakOf_95 rfl rfl (by decide) (Int.le_trans (by decide) hk.1) (Int.lt_of_le_of_lt hk.2.1 (by decide)) (by decide) ?_
                    have ra5 : (-2147483648) ≤ a 20 k.toNat ∧ a 20 k.toNat ≤ 2147483647 := bxb1.2 20 (k.toNat)
                    refine m_callS (As := [.int (iI (a 20 k.toNat))]) (rest := []) C (fun L E => s_isDigit (iI (a 20 k.toNat))) dX12_breakOf_96 kS_X12_202 rfl rfl (Nat.le_of_ble_eq_true rfl) ⟨Nat.le_of_ble_eq_true rfl, Nat.le_of_ble_eq_true rfl⟩ ⟨Nat.le_of_ble_eq_true rfl, Nat.le_of_ble_eq_true rfl⟩ ?_
                    rcases inn_c (x := a 20 k.toNat) (lo := 48) (hi := 57) (r32_c (lo := (-2147483648)) (hi := 2147483647) ra5.1 ra5.2 (by decide) (by decide)) ⟨by decide, by decide⟩ ⟨by decide, by decide⟩ with ⟨h2a, h2b, h2e⟩ | ⟨h2a, h2e⟩
                    · refine m_st (st2 := [.int (iI 1)]) (by rw [show inn (iI (a 20 k.toNat)) 48 57 = iI 1 from h2e]) ?_
                      refine m_if_ne (tgt := 125) C ⟨by decide, by decide⟩ dX12_breakOf_99 (by decide) (fun _ => ?_) (fun z => absurd z (by omega))
                      refine m_iconst C dX12_breakOf_125 ?_
                      refine m_istore (lv2 := [(6, .int (iI 0)), (4, .int (iI w1)), (5, .int (iI k)), (0, .ref h0), (1, .int (iI t)), (2, .int (iI q)), (3, .int (iI z))]) C dX12_breakOf_126 (by decide) rfl ?_
                      refine m_lv (lv2 := [(6, .int (iI 0)), (4, .int (iI w1)), (5, .int (iI k)), (0, .ref h0), (1, .int (iI t)), (2, .int (iI q)), (3, .int (iI z))]) [0, 1, 2, 3, 4, 5, 6] rfl ?_
                      exact J1  0 _ _  bxb1 fpb1 (by omega) (by unfold kok isD; omega)
                    · refine m_st (st2 := [.int (iI 0)]) (by rw [show inn (iI (a 20 k.toNat)) 48 57 = iI 0 from h2e]) ?_
                      refine m_if_ne (tgt := 125) C ⟨by decide, by decide⟩ dX12_breakOf_99 (by decide) (fun z => absurd z (by omega)) (fun _ => ?_)
                      refine m_aload_n (j := 2) C dX12_breakOf_102 rfl ?_
                      refine m_geta (k := 6) C dX12_breakOf_103 w6_65 (by decide) rfl ?_
                      refine m_iload_n (j := 3) C dX12_breakOf_106 rfl ?_
                      refine m_ald (k := 6) C dX12_breakOf_107 rfl rfl (by decide) (by omega) (by show _ < ((_ : Nat) : Int); simp only [mlen]; omega) (by decide) ?_
                      refine m_iconst C dX12_breakOf_108 ?_
                      refine m_icmp_ne (tgt := 121) C (r32_c (lo := 0) (hi := 5) ra3.1 ra3.2 (by decide) (by decide)) ⟨by decide, by decide⟩ dX12_breakOf_109 (by decide) (fun c10 => ?_) (fun c10 => ?_)
                      · refine m_iconst C dX12_breakOf_121 ?_
                        refine m_goto (tgt := 126) C dX12_breakOf_122 (by decide) ?_
                        refine m_istore (lv2 := [(6, .int (iI 1)), (4, .int (iI w1)), (5, .int (iI k)), (0, .ref h0), (1, .int (iI t)), (2, .int (iI q)), (3, .int (iI z))]) C dX12_breakOf_126 (by decide) rfl ?_
                        refine m_lv (lv2 := [(6, .int (iI 1)), (4, .int (iI w1)), (5, .int (iI k)), (0, .ref h0), (1, .int (iI t)), (2, .int (iI q)), (3, .int (iI z))]) [0, 1, 2, 3, 4, 5, 6] rfl ?_
                        exact J1  1 _ _  bxb1 fpb1 (by omega) (by unfold kok isD; omega)
                      · refine m_aload_n (j := 2) C dX12_breakOf_112 rfl ?_
                        refine m_get (k := 23) C dX12_breakOf_113 w6_82 (by decide) rfl ?_
                        refine m_bipush (z := 6) C dX12_breakOf_116 (by decide) ?_
                        refine m_icmp_lt (tgt := 125) C (r32_c (lo := 0) (hi := 500) rv1.1 rv1.2 (by decide) (by decide)) ⟨by decide, by decide⟩ dX12_breakOf_118 (by decide) (fun c11 => ?_) (fun c11 => ?_)
                        · refine m_iconst C dX12_breakOf_125 ?_
                          refine m_istore (lv2 := [(6, .int (iI 0)), (4, .int (iI w1)), (5, .int (iI k)), (0, .ref h0), (1, .int (iI t)), (2, .int (iI q)), (3, .int (iI z))]) C dX12_breakOf_126 (by decide) rfl ?_
                          refine m_lv (lv2 := [(6, .int (iI 0)), (4, .int (iI w1)), (5, .int (iI k)), (0, .ref h0), (1, .int (iI t)), (2, .int (iI q)), (3, .int (iI z))]) [0, 1, 2, 3, 4, 5, 6] rfl ?_
                          exact J1  0 _ _  bxb1 fpb1 (by omega) (by unfold kok isD; omega)
                        · refine m_iconst C dX12_breakOf_121 ?_
                          refine m_goto (tgt := 126) C dX12_breakOf_122 (by decide) ?_
                          refine m_istore (lv2 := [(6, .int (iI 1)), (4, .int (iI w1)), (5, .int (iI k)), (0, .ref h0), (1, .int (iI t)), (2, .int (iI q)), (3, .int (iI z))]) C dX12_breakOf_126 (by decide) rfl ?_
                          refine m_lv (lv2 := [(6, .int (iI 1)), (4, .int (iI w1)), (5, .int (iI k)), (0, .ref h0), (1, .int (iI t)), (2, .int (iI q)), (3, .int (iI z))]) [0, 1, 2, 3, 4, 5, 6] rfl ?_
                          exact J1  1 _ _  bxb1 fpb1 (by omega) (by unfold kok isD; omega)
            · refine m_goto (tgt := 142) C dX12_breakOf_51 (by decide) ?_
              refine m_iinc (z := k) (j := 1) (lv2 := [(5, .int (iI (k + 1))), (4, .int (iI w1)), (0, .ref h0), (1, .int (iI t)), (2, .int (iI q)), (3, .int (iI z))]) C dX12_breakOf_142 rfl (by decide) rfl ?_
              refine m_goto (tgt := 6) C dX12_breakOf_145 (by decide) ?_
              refine m_lv (lv2 := [(4, .int (iI w1)), (5, .int (iI (k + 1))), (0, .ref h0), (1, .int (iI t)), (2, .int (iI q)), (3, .int (iI z))]) [1, 0, 2, 3, 4, 5] rfl ?_
              exact ih1  w1 (k + 1) _ _ (by omega) bxb1 fpb1 (by omega) (by omega) (hI.miss ⟨by omega, by omega⟩ (fun e => absurd e.2.2.1 (by omega)))
  refine m_lv (lv2 := [(4, .int (iI (-1))), (5, .int (iI 1)), (0, .ref h0), (1, .int (iI t)), (2, .int (iI q)), (3, .int (iI z))]) [1, 0, 2, 3, 4, 5] rfl ?_
  exact Lp1 503 (-1) 1 _ _ (by omega) hB fp0 (by omega) (by omega) BRI.init
set_option maxHeartbeats 4000000 in
set_option maxRecDepth 100000 in
theorem E_flow {l : Launch} {G : GT} {h0 : Nat} {ad ln : Nat → Nat} {v : Nat → Int} {a : Nat → Nat → Int}  {t : Int} (hB : BX v a) (ht : 0 ≤ t ∧ t < 30) (h39 : 1 ≤ v 39) (h25 : 1 ≤ v 25 ∧ v 25 ≤ 200) : Mm l G yX12_flow cX12_flow 7 (some .boolean) 2 [.int (iI t)] h0 ad ln v a 0 0 (fun r v2 a2 => ∃ f : Int, r = some (.int (iI f)) ∧ fr [39] [37, 38] v a v2 a2 ∧ BX v2 a2 ∧ ((f = 0 ∨ (f = 1 ∧ 1 ≤ v2 39)) ∧ FLT v a v2 a2 t f)) := by
  refine Mm.mk (by decide) (Nat.le_of_ble_eq_true rfl) ?_
  intro p e s m args below meth c A C
  refine hv2 (show 1 ≤ v 31 ∧ v 31 ≤ 100 from hB.1 31) (show fr [39] [37, 38] v a v a from fr.refl) (fun r31 fp0 => ?_)
  refine m_iconst C dX12_flow_0 ?_
  refine m_istore_n (lv2 := [(2, .int (iI 0)), (0, .ref h0), (1, .int (iI t))]) C dX12_flow_1 (by decide) rfl ?_
  have Lp1 : ∀ (nn : Nat) (x : Int) (vb1 : Nat → Int) (ab1 : Nat → Nat → Int), 201 - vb1 39 < (nn : Int) → BX vb1 ab1 → fr [39] [37, 38] v a vb1 ab1 → (0 ≤ x ∧ x < v 25) → (1 ≤ vb1 39 ∧ vb1 39 ≤ 200) → (FL2 v a vb1 ab1 t x) → mw p l e (rmq 2 0 0) s m args below meth c G A 7 (MQ below (Qm G A (fun rq Lq Eq => ∃ (vq : Nat → Int) (aq : Nat → Nat → Int), mI G h0 ad ln vq aq Lq Eq ∧ (fun r v2 a2 => ∃ f : Int, r = some (.int (iI f)) ∧ fr [39] [37, 38] v a v2 a2 ∧ BX v2 a2 ∧ ((f = 0 ∨ (f = 1 ∧ 1 ≤ v2 39)) ∧ FLT v a v2 a2 t f)) rq vq aq)) args s 0 0 A) h0 ad ln vb1 ab1 0 0 2 [(2, .int (iI x)), (0, .ref h0), (1, .int (iI t))] [] := by
    intro nn
    induction nn with
    | zero =>
      intro x vb1 ab1 hm bxb1 fpb1 hx hn hI
      exact absurd hm (by omega)
    | succ nn ih1 =>
      intro x vb1 ab1 hm bxb1 fpb1 hx hn hI
      refine m_iload_n (j := 0) C dX12_flow_2 rfl ?_
      refine m_aload_n (j := 1) C dX12_flow_3 rfl ?_
      refine hv2 (show 0 ≤ vb1 25 ∧ vb1 25 ≤ 208 from bxb1.1 25) (show vb1 25 = v 25 from fpb1.1 25 rfl) (fun rv1 ve1 => ?_)
      refine m_get (k := 25) C dX12_flow_4 w6_84 (by decide) rfl ?_
      refine m_st (st2 := [.int (iI (v 25)), .int (iI x)]) (congrArg (fun z => Value.int (iI z) :: [.int (iI x)]) (fpb1.1 25 rfl)) ?_
      refine m_icmp_ge (tgt := 164) C ⟨by omega, by omega⟩ (r32_c (lo := 0) (hi := 208) (Int.le_trans rv1.1 (Int.le_of_eq ve1)) (Int.le_trans (Int.le_of_eq ve1.symm) rv1.2) (by decide) (by decide)) dX12_flow_7 (by decide) (fun c1 => ?_) (fun c1 => ?_)
      · refine m_iconst C dX12_flow_164 ?_
        exact m_zret C dX12_flow_165 rfl (Or.inr rfl) (Nat.le_of_ble_eq_true rfl) (Nat.le_of_ble_eq_true rfl) ⟨1, rfl, fpb1, bxb1, ⟨(Or.inr ⟨rfl, by show 1 ≤ vb1 39; omega⟩), absurd hx.2 (by omega)⟩⟩
      · refine m_aload_n (j := 1) C dX12_flow_10 rfl ?_
        refine m_geta (k := 37) C dX12_flow_11 w6_96 (by decide) rfl ?_
        refine m_aload_n (j := 1) C dX12_flow_14 rfl ?_
        have rv2 : 0 ≤ vb1 39 ∧ vb1 39 ≤ 200 := bxb1.1 39
        refine m_get (k := 39) C dX12_flow_15 w6_98 (by decide) rfl ?_
        refine m_iconst C dX12_flow_18 ?_
        refine m_isub C dX12_flow_19 ?_
        refine m_ald (k := 37) C dX12_flow_20 rfl rfl (by decide) (by omega) (by show _ < ((_ : Nat) : Int); simp only [mlen]; omega) (by decide) ?_
        have ra1 : 0 ≤ ab1 37 ((vb1 39) - 1).toNat ∧ ab1 37 ((vb1 39) - 1).toNat ≤ 200 := bxb1.2 37 (((vb1 39) - 1).toNat)
        refine m_istore_n (lv2 := [(3, .int (iI (ab1 37 ((vb1 39) - 1).toNat))), (2, .int (iI x)), (0, .ref h0), (1, .int (iI t))]) C dX12_flow_21 (by decide) rfl ?_
        have J1 : ∀ (h1 z1 : Int) (vb2 : Nat → Int) (ab2 : Nat → Nat → Int), BX vb2 ab2 → fr [39] [37, 38] v a vb2 ab2 → (0 ≤ h1 ∧ h1 ≤ 200 ∧ ((h1 = 0 ∧ z1 = v 31) ∨ (0 < h1 ∧ z1 = v 31 - (h1 + 1)))) → (vb2 39 = vb1 39) → (ab2 37 (vb2 39 - 1).toNat = h1) → (FL2 v a vb2 ab2 t x) → mw p l e (rmq 2 0 0) s m args below meth c G A 7 (MQ below (Qm G A (fun rq Lq Eq => ∃ (vq : Nat → Int) (aq : Nat → Nat → Int), mI G h0 ad ln vq aq Lq Eq ∧ (fun r v2 a2 => ∃ f : Int, r = some (.int (iI f)) ∧ fr [39] [37, 38] v a v2 a2 ∧ BX v2 a2 ∧ ((f = 0 ∨ (f = 1 ∧ 1 ≤ v2 39)) ∧ FLT v a v2 a2 t f)) rq vq aq)) args s 0 0 A) h0 ad ln vb2 ab2 0 0 40 [(4, .int (iI z1)), (3, .int (iI h1)), (2, .int (iI x)), (0, .ref h0), (1, .int (iI t))] [] := by
          intro h1 z1 vb2 ab2 bxb2 fpb2 hh hn1 hh1 hI40
          have J2 : ∀ (y : Int) (vb3 : Nat → Int) (ab3 : Nat → Nat → Int), BX vb3 ab3 → fr [39] [37, 38] v a vb3 ab3 → (y = -1 ∨ (y = v 25 ∧ v 25 - x ≤ z1) ∨ (x < y ∧ y ≤ 208 ∧ y - x + 1 ≤ z1)) → (vb3 39 = vb1 39) → (ab3 37 (vb3 39 - 1).toNat = h1) → (FL2 v a vb3 ab3 t x) → ((v 25 - x ≤ z1 ∧ y = v 25) ∨ (z1 < v 25 - x ∧ BRQ v a t x z1 y)) → mw p l e (rmq 2 0 0) s m args below meth c G A 7 (MQ below (Qm G A (fun rq Lq Eq => ∃ (vq : Nat → Int) (aq : Nat → Nat → Int), mI G h0 ad ln vq aq Lq Eq ∧ (fun r v2 a2 => ∃ f : Int, r = some (.int (iI f)) ∧ fr [39] [37, 38] v a v2 a2 ∧ BX v2 a2 ∧ ((f = 0 ∨ (f = 1 ∧ 1 ≤ v2 39)) ∧ FLT v a v2 a2 t f)) rq vq aq)) args s 0 0 A) h0 ad ln vb3 ab3 0 0 68 [(5, .int (iI y)), (4, .int (iI z1)), (3, .int (iI h1)), (2, .int (iI x)), (0, .ref h0), (1, .int (iI t))] [] := by
            intro y vb3 ab3 bxb3 fpb3 hy hn2 hh2 hI68 hyx
            have J3 : ∀ (y1 : Int) (vb4 : Nat → Int) (ab4 : Nat → Nat → Int), BX vb4 ab4 → fr [39] [37, 38] v a vb4 ab4 → ((h1 = 0 ∧ y1 = v 25) ∨ (y1 = v 25 ∧ v 25 - x ≤ z1) ∨ (x < y1 ∧ y1 ≤ 208 ∧ y1 - x + 1 ≤ z1)) → (vb4 39 = vb1 39) → (ab4 37 (vb4 39 - 1).toNat = h1) → (FL2 v a vb4 ab4 t x) → ((v 25 - x ≤ z1 ∧ y1 = v 25) ∨ (z1 < v 25 - x ∧ ((h1 = 0 ∧ y1 = v 25 ∧ BRQ v a t x z1 (-1)) ∨ (0 ≤ y1 ∧ BRQ v a t x z1 y1)))) → mw p l e (rmq 2 0 0) s m args below meth c G A 7 (MQ below (Qm G A (fun rq Lq Eq => ∃ (vq : Nat → Int) (aq : Nat → Nat → Int), mI G h0 ad ln vq aq Lq Eq ∧ (fun r v2 a2 => ∃ f : Int, r = some (.int (iI f)) ∧ fr [39] [37, 38] v a v2 a2 ∧ BX v2 a2 ∧ ((f = 0 ∨ (f = 1 ∧ 1 ≤ v2 39)) ∧ FLT v a v2 a2 t f)) rq vq aq)) args s 0 0 A) h0 ad ln vb4 ab4 0 0 88 [(5, .int (iI y1)), (4, .int (iI z1)), (3, .int (iI h1)), (2, .int (iI x)), (0, .ref h0), (1, .int (iI t))] [] := by
              intro y1 vb4 ab4 bxb4 fpb4 hy1 hn3 hh3 hI88 hyz
              have Lp2 : ∀ (nn : Nat) (k : Int) (vb5 : Nat → Int) (ab5 : Nat → Nat → Int), 210 - k < (nn : Int) → BX vb5 ab5 → fr [39] [37, 38] v a vb5 ab5 → (x ≤ k ∧ k ≤ 208) → (vb5 39 = vb1 39) → ((ab5 37 (vb5 39 - 1).toNat + (y1 - k) ≤ 199 ∨ (ab5 37 (vb5 39 - 1).toNat + (y1 - k) ≤ 200 ∧ y1 = v 25)) ∧ k ≤ y1) → (FL4 v a vb5 ab5 t x h1 k) → mw p l e (rmq 2 0 0) s m args below meth c G A 7 (MQ below (Qm G A (fun rq Lq Eq => ∃ (vq : Nat → Int) (aq : Nat → Nat → Int), mI G h0 ad ln vq aq Lq Eq ∧ (fun r v2 a2 => ∃ f : Int, r = some (.int (iI f)) ∧ fr [39] [37, 38] v a v2 a2 ∧ BX v2 a2 ∧ ((f = 0 ∨ (f = 1 ∧ 1 ≤ v2 39)) ∧ FLT v a v2 a2 t f)) rq vq aq)) args s 0 0 A) h0 ad ln vb5 ab5 0 0 100 [(6, .int (iI k)), (5, .int (iI y1)), (4, .int (iI z1)), (3, .int (iI h1)), (2, .int (iI x)), (0, .ref h0), (1, .int (iI t))] [] := by
                intro nn
                induction nn with
                | zero =>
                  intro k vb5 ab5 hm bxb5 fpb5 hk hn4 hh4 hf4
                  exact absurd hm (by omega)
                | succ nn ih2 =>
                  intro k vb5 ab5 hm bxb5 fpb5 hk hn4 hh4 hf4
                  refine m_iload (j := 0) C dX12_flow_100 rfl ?_
                  refine m_iload (j := 1) C dX12_flow_102 rfl ?_
                  refine m_icmp_ge (tgt := 124) C ⟨by omega, by omega⟩ ⟨by omega, by omega⟩ dX12_flow_104 (by decide) (fun c2 => ?_) (fun c2 => ?_)
                  · refine m_iload (j := 1) C dX12_flow_124 rfl ?_
                    refine m_aload_n (j := 5) C dX12_flow_126 rfl ?_
                    refine hv2 (show 0 ≤ vb5 25 ∧ vb5 25 ≤ 208 from bxb5.1 25) (show vb5 25 = v 25 from fpb5.1 25 rfl) (fun rv3 ve2 => ?_)
                    refine m_get (k := 25) C dX12_flow_127 w6_84 (by decide) rfl ?_
                    refine m_st (st2 := [.int (iI (v 25)), .int (iI y1)]) (congrArg (fun z => Value.int (iI z) :: [.int (iI y1)]) (fpb5.1 25 rfl)) ?_
                    refine m_icmp_ge (tgt := 141) C ⟨by omega, by omega⟩ (r32_c (lo := 0) (hi := 208) (Int.le_trans rv1.1 (Int.le_of_eq ve1)) (Int.le_trans (Int.le_of_eq ve1.symm) rv1.2) (by decide) (by decide)) dX12_flow_130 (by decide) (fun c3 => ?_) (fun c3 => ?_)
                    · refine m_iload (j := 1) C dX12_flow_141 rfl ?_
                      refine m_istore_n (lv2 := [(2, .int (iI y1)), (6, .int (iI k)), (5, .int (iI y1)), (4, .int (iI z1)), (3, .int (iI h1)), (0, .ref h0), (1, .int (iI t))]) C dX12_flow_143 (by decide) rfl ?_
                      refine m_iload_n (j := 0) C dX12_flow_144 rfl ?_
                      refine m_aload_n (j := 5) C dX12_flow_145 rfl ?_
                      refine m_get (k := 25) C dX12_flow_146 w6_84 (by decide) rfl ?_
                      refine m_st (st2 := [.int (iI (v 25)), .int (iI y1)]) (congrArg (fun z => Value.int (iI z) :: [.int (iI y1)]) (fpb5.1 25 rfl)) ?_
                      refine m_icmp_ge (tgt := 161) C ⟨by omega, by omega⟩ (r32_c (lo := 0) (hi := 208) (Int.le_trans rv1.1 (Int.le_of_eq ve1)) (Int.le_trans (Int.le_of_eq ve1.symm) rv1.2) (by decide) (by decide)) dX12_flow_149 (by decide) (fun _ => ?_) (fun z => absurd z (by omega))
                      refine m_goto (tgt := 2) C dX12_flow_161 (by decide) ?_
                      refine m_iload_n (j := 0) C dX12_flow_2 rfl ?_
                      refine m_aload_n (j := 5) C dX12_flow_3 rfl ?_
                      refine m_get (k := 25) C dX12_flow_4 w6_84 (by decide) rfl ?_
                      refine m_st (st2 := [.int (iI (v 25)), .int (iI y1)]) (congrArg (fun z => Value.int (iI z) :: [.int (iI y1)]) (fpb5.1 25 rfl)) ?_
                      refine m_icmp_ge (tgt := 164) C ⟨by omega, by omega⟩ (r32_c (lo := 0) (hi := 208) (Int.le_trans rv1.1 (Int.le_of_eq ve1)) (Int.le_trans (Int.le_of_eq ve1.symm) rv1.2) (by decide) (by decide)) dX12_flow_7 (by decide) (fun _ => ?_) (fun z => absurd z (by omega))
                      refine m_iconst C dX12_flow_164 ?_
                      exact m_zret C dX12_flow_165 rfl (Or.inr rfl) (Nat.le_of_ble_eq_true rfl) (Nat.le_of_ble_eq_true rfl) ⟨1, rfl, fpb5, bxb5, ⟨(Or.inr ⟨rfl, by show 1 ≤ vb5 39; omega⟩), FL4.fin (z := z1) hf4 (by omega) (by omega) (by omega) (by omega) (by rcases hyz with ⟨q1, _⟩ | ⟨q1, ⟨q2, _, q3⟩ | ⟨_, q3⟩⟩; exact Or.inl q1; exact Or.inr ⟨q1, Or.inl ⟨q2, q3⟩⟩; exact Or.inr ⟨q1, Or.inr (by rw [show k = y1 by omega]; exact q3)⟩)⟩⟩
                    · refine m_aload_n (j := 5) C dX12_flow_133 rfl ?_
                      refine m_aload_n (j := 5) C dX12_flow_134 rfl ?_
                      refine hv2 (show (-2147483648) ≤ vb5 33 ∧ vb5 33 ≤ 2147483647 from bxb5.1 33) (show vb5 33 = v 33 from fpb5.1 33 rfl) (fun rv4 ve3 => ?_)
                      refine m_get (k := 33) C dX12_flow_135 w6_92 (by decide) rfl ?_
                      refine m_st (st2 := [.int (iI (v 33)), .ref h0]) (congrArg (fun z => Value.int (iI z) :: [.ref h0]) (fpb5.1 33 rfl)) ?_
                      refine hv2 (show 0 ≤ vb5 39 ∧ vb5 39 ≤ 200 from bxb5.1 39) (show 0 ≤ ab5 37 (vb5 39 - 1).toNat ∧ ab5 37 (vb5 39 - 1).toNat ≤ 200 from bxb5.2 37 ((vb5 39 - 1).toNat)) (fun rv5 ra2 => ?_)
                      refine m_call (mc2 := 0) (ms2 := 0) (As := [.int (iI (v 33))]) (rest := []) C (M_putCell (x := v 33) bxb5.rg (by show 1 ≤ vb5 39 ∧ vb5 39 ≤ 200; omega) (by show 0 ≤ ab5 37 (vb5 39 - 1).toNat ∧ ab5 37 (vb5 39 - 1).toNat < 200; omega)) dX12_flow_138 kV_X12_253 rfl ck_13 rfl (Nat.le_of_ble_eq_true rfl) ⟨Nat.le_of_ble_eq_true rfl, Nat.le_of_ble_eq_true rfl⟩ ⟨Nat.le_of_ble_eq_true rfl, Nat.le_of_ble_eq_true rfl⟩ (fun rh2 vh2 ah2 h2 => ?_)
                      have px1 := PUC.mk bxb5 h2
                      obtain ⟨rfl, fn1, bn1, ex1⟩ := W_putCell bxb5 (by omega) (by show ab5 37 (vb5 39 - 1).toNat < 200; omega) h2
                      refine hv4 (fpb5.call fn1 rfl rfl) (show 0 ≤ vh2 39 ∧ vh2 39 ≤ 200 from bn1.1 39) (show vh2 39 = vb5 39 from fn1.1 39 rfl) (show ah2 37 (vb5 39 - 1).toNat = ab5 37 (vb5 39 - 1).toNat + 1 from ex1) (fun fq1 rv6 ve4 gex1 => ?_)
                      have jex1 : ah2 37 (vh2 39 - 1).toNat = ab5 37 (vb5 39 - 1).toNat + 1 := by rw [show vh2 39 = vb5 39 by omega]; exact ex1
                      refine m_st (st2 := []) rfl ?_
                      refine m_iload (j := 1) C dX12_flow_141 rfl ?_
                      refine m_istore_n (lv2 := [(2, .int (iI y1)), (6, .int (iI k)), (5, .int (iI y1)), (4, .int (iI z1)), (3, .int (iI h1)), (0, .ref h0), (1, .int (iI t))]) C dX12_flow_143 (by decide) rfl ?_
                      refine m_iload_n (j := 0) C dX12_flow_144 rfl ?_
                      refine m_aload_n (j := 5) C dX12_flow_145 rfl ?_
                      refine hv2 (show 0 ≤ vh2 25 ∧ vh2 25 ≤ 208 from bn1.1 25) (show vh2 25 = vb5 25 from fn1.1 25 rfl) (fun rv7 ve5 => ?_)
                      refine m_get (k := 25) C dX12_flow_146 w6_84 (by decide) rfl ?_
                      refine m_st (st2 := [.int (iI (v 25)), .int (iI y1)]) (congrArg (fun z => Value.int (iI z) :: [.int (iI y1)]) (fq1.1 25 rfl)) ?_
                      refine m_icmp_ge (tgt := 161) C ⟨by omega, by omega⟩ (r32_c (lo := 0) (hi := 208) (Int.le_trans rv1.1 (Int.le_of_eq ve1)) (Int.le_trans (Int.le_of_eq ve1.symm) rv1.2) (by decide) (by decide)) dX12_flow_149 (by decide) (fun z => absurd z (by omega)) (fun _ => ?_)
                      refine m_aload_n (j := 5) C dX12_flow_152 rfl ?_
                      refine m_call (mc2 := 0) (ms2 := 0) (As := []) (rest := []) C (M_newLine bn1.rg (bn1.1 39)) dX12_flow_153 kV_X12_257 rfl ck_13 rfl (Nat.le_of_ble_eq_true rfl) ⟨Nat.le_of_ble_eq_true rfl, Nat.le_of_ble_eq_true rfl⟩ ⟨Nat.le_of_ble_eq_true rfl, Nat.le_of_ble_eq_true rfl⟩ (fun rh3 vh3 ah3 h3 => ?_)
                      obtain ⟨f2, rfl, fn2, bn2, ex2, nx1⟩ := W_newLine2 bn1 h3
                      refine hv2 (fq1.call fn2 rfl rfl) (show (f2 = 1 ∧ vh3 39 = vh2 39 + 1 ∧ ah3 37 (vh3 39 - 1).toNat = 0) ∨ f2 = 0 from ex2) (fun fq2 gf2 => ?_)
                      refine m_st (st2 := [.int (iI f2)]) rfl ?_
                      refine m_if_ne (tgt := 161) C (r32_p0 gf2) dX12_flow_156 (by decide) (fun c4 => ?_) (fun c4 => ?_)
                      · replace gf2 := (gf2.resolve_right c4)
                        refine m_goto (tgt := 2) C dX12_flow_161 (by decide) ?_
                        have rv8 : 0 ≤ vh3 39 ∧ vh3 39 ≤ 200 := bn2.1 39
                        refine m_lv (lv2 := [(2, .int (iI y1)), (0, .ref h0), (1, .int (iI t))]) [0, 5, 6] rfl ?_
                        exact ih1  y1 _ _ (by omega) bn2 fq2 (by omega) (by show 1 ≤ (vh3 39) ∧ (vh3 39) ≤ 200; omega) (by have e := FL4.hyp (z := z1) hf4 (by omega) (by omega) (by omega) (by rcases hyz with ⟨_, q2⟩ | ⟨q1, _⟩; exact absurd q2 (by omega); exact q1) (by rcases hyz with ⟨_, q2⟩ | ⟨_, ⟨_, q2, _⟩ | ⟨_, q3⟩⟩; exact absurd q2 (by omega); exact absurd q2 (by omega); rw [show k = y1 by omega]; exact q3) (by omega) rfl px1 nx1 (by omega); rw [show k = y1 by omega] at e; exact e)
                      · clear gf2
                        refine m_iconst C dX12_flow_159 ?_
                        exact m_zret C dX12_flow_160 rfl (Or.inl rfl) (Nat.le_of_ble_eq_true rfl) (Nat.le_of_ble_eq_true rfl) ⟨0, rfl, fq2, bn2, ⟨Or.inl rfl, FL4.hno (z := z1) hf4 (by omega) (by omega) (by rcases hyz with ⟨_, q2⟩ | ⟨q1, _⟩; exact absurd q2 (by omega); exact q1) (by rcases hyz with ⟨_, q2⟩ | ⟨_, ⟨_, q2, _⟩ | ⟨_, q3⟩⟩; exact absurd q2 (by omega); exact absurd q2 (by omega); rw [show k = y1 by omega]; exact q3) (by omega) px1 nx1 (by omega)⟩⟩
                  · refine m_aload_n (j := 5) C dX12_flow_107 rfl ?_
                    refine m_aload_n (j := 5) C dX12_flow_108 rfl ?_
                    refine m_geta (k := 24) C dX12_flow_109 w6_83 (by decide) rfl ?_
                    refine m_iload (j := 0) C dX12_flow_112 rfl ?_
                    refine m_ald (k := 24) C dX12_flow_114 rfl rfl (by decide) (by omega) (by show _ < ((_ : Nat) : Int); simp only [mlen]; omega) (by decide) ?_
                    refine hv2 (show (-2147483648) ≤ ab5 24 k.toNat ∧ ab5 24 k.toNat ≤ 2147483647 from bxb5.2 24 (k.toNat)) (show ab5 24 (k.toNat) = a 24 (k.toNat) from congrFun (fpb5.2 24 rfl) (k.toNat)) (fun ra3 ae1 => ?_)
                    refine m_st (st2 := [.int (iI (a 24 k.toNat)), .ref h0]) (congrArg (fun z => Value.int (iI z) :: [.ref h0]) (congrFun (fpb5.2 24 rfl) (k.toNat))) ?_
                    refine hv2 (show 0 ≤ vb5 39 ∧ vb5 39 ≤ 200 from bxb5.1 39) (show 0 ≤ ab5 37 (vb5 39 - 1).toNat ∧ ab5 37 (vb5 39 - 1).toNat ≤ 200 from bxb5.2 37 ((vb5 39 - 1).toNat)) (fun rv9 ra4 => ?_)
                    refine m_call (mc2 := 0) (ms2 := 0) (As := [.int (iI (a 24 k.toNat))]) (rest := []) C (M_putCell (x := a 24 k.toNat) bxb5.rg (by show 1 ≤ vb5 39 ∧ vb5 39 ≤ 200; omega) (by show 0 ≤ ab5 37 (vb5 39 - 1).toNat ∧ ab5 37 (vb5 39 - 1).toNat < 200; omega)) dX12_flow_115 kV_X12_253 rfl ck_13 rfl (Nat.le_of_ble_eq_true rfl) ⟨Nat.le_of_ble_eq_true rfl, Nat.le_of_ble_eq_true rfl⟩ ⟨Nat.le_of_ble_eq_true rfl, Nat.le_of_ble_eq_true rfl⟩ (fun rh4 vh4 ah4 h4 => ?_)
                    have px2 := PUC.mk bxb5 h4
                    obtain ⟨rfl, fn3, bn3, ex3⟩ := W_putCell bxb5 (by omega) (by show ab5 37 (vb5 39 - 1).toNat < 200; omega) h4
                    refine hv4 (fpb5.call fn3 rfl rfl) (show 0 ≤ vh4 39 ∧ vh4 39 ≤ 200 from bn3.1 39) (show vh4 39 = vb5 39 from fn3.1 39 rfl) (show ah4 37 (vb5 39 - 1).toNat = ab5 37 (vb5 39 - 1).toNat + 1 from ex3) (fun fq3 rv10 ve6 gex3 => ?_)
                    have jex3 : ah4 37 (vh4 39 - 1).toNat = ab5 37 (vb5 39 - 1).toNat + 1 := by rw [show vh4 39 = vb5 39 by omega]; exact ex3
                    refine m_st (st2 := []) rfl ?_
                    refine m_iinc (z := k) (j := 0) (lv2 := [(6, .int (iI (k + 1))), (5, .int (iI y1)), (4, .int (iI z1)), (3, .int (iI h1)), (2, .int (iI x)), (0, .ref h0), (1, .int (iI t))]) C dX12_flow_118 rfl (by decide) rfl ?_
                    refine m_goto (tgt := 100) C dX12_flow_121 (by decide) ?_
                    have ra5 : 0 ≤ ah4 37 ((vh4 39) - 1).toNat ∧ ah4 37 ((vh4 39) - 1).toNat ≤ 200 := bn3.2 37 (((vh4 39) - 1).toNat)
                    refine m_lv (lv2 := [(6, .int (iI (k + 1))), (5, .int (iI y1)), (4, .int (iI z1)), (3, .int (iI h1)), (2, .int (iI x)), (0, .ref h0), (1, .int (iI t))]) [0, 1, 2, 3, 4, 5, 6] rfl ?_
                    exact ih2  (k + 1) _ _ (by omega) bn3 fq3 (by omega) (by show (vh4 39) = vb1 39; omega) (by show ((ah4 37 ((vh4 39) - 1).toNat) + (y1 - (k + 1)) ≤ 199 ∨ ((ah4 37 ((vh4 39) - 1).toNat) + (y1 - (k + 1)) ≤ 200 ∧ y1 = v 25)) ∧ (k + 1) ≤ y1; omega) (hf4.put (by omega) (by omega) rfl px2)
              refine m_iload_n (j := 2) C dX12_flow_88 rfl ?_
              refine m_if_le (tgt := 97) C (r32_c (lo := 0) (hi := 200) hh.1 hh.2.1 (by decide) (by decide)) dX12_flow_89 (by decide) (fun c5 => ?_) (fun c5 => ?_)
              · refine m_iload_n (j := 3) C dX12_flow_97 rfl ?_
                refine m_istore (lv2 := [(6, .int (iI x)), (5, .int (iI y1)), (4, .int (iI z1)), (3, .int (iI h1)), (2, .int (iI x)), (0, .ref h0), (1, .int (iI t))]) C dX12_flow_98 (by decide) rfl ?_
                refine hv2 (show 0 ≤ vb4 39 ∧ vb4 39 ≤ 200 from bxb4.1 39) (show 0 ≤ ab4 37 ((vb4 39) - 1).toNat ∧ ab4 37 ((vb4 39) - 1).toNat ≤ 200 from bxb4.2 37 (((vb4 39) - 1).toNat)) (fun rv11 ra6 => ?_)
                refine m_lv (lv2 := [(6, .int (iI x)), (5, .int (iI y1)), (4, .int (iI z1)), (3, .int (iI h1)), (2, .int (iI x)), (0, .ref h0), (1, .int (iI t))]) [0, 1, 2, 3, 4, 5, 6] rfl ?_
                exact Lp2 211 x _ _ (by omega) bxb4 fpb4 (by omega) (by show (vb4 39) = vb1 39; omega) (by show ((ab4 37 ((vb4 39) - 1).toNat) + (y1 - x) ≤ 199 ∨ ((ab4 37 ((vb4 39) - 1).toNat) + (y1 - x) ≤ 200 ∧ y1 = v 25)) ∧ x ≤ y1; omega) (FL2.b0 hI88 hh3 (by omega))
              · refine m_aload_n (j := 4) C dX12_flow_92 rfl ?_
                refine m_iconst C dX12_flow_93 ?_
                refine hv2 (show 0 ≤ vb4 39 ∧ vb4 39 ≤ 200 from bxb4.1 39) (show 0 ≤ ab4 37 (vb4 39 - 1).toNat ∧ ab4 37 (vb4 39 - 1).toNat ≤ 200 from bxb4.2 37 ((vb4 39 - 1).toNat)) (fun rv12 ra7 => ?_)
                refine m_call (mc2 := 0) (ms2 := 0) (As := [.int (iI 0)]) (rest := []) C (M_putCell (x := 0) bxb4.rg (by show 1 ≤ vb4 39 ∧ vb4 39 ≤ 200; omega) (by show 0 ≤ ab4 37 (vb4 39 - 1).toNat ∧ ab4 37 (vb4 39 - 1).toNat < 200; omega)) dX12_flow_94 kV_X12_253 rfl ck_13 rfl (Nat.le_of_ble_eq_true rfl) ⟨Nat.le_of_ble_eq_true rfl, Nat.le_of_ble_eq_true rfl⟩ ⟨Nat.le_of_ble_eq_true rfl, Nat.le_of_ble_eq_true rfl⟩ (fun rh5 vh5 ah5 h5 => ?_)
                have px3 := PUC.mk bxb4 h5
                obtain ⟨rfl, fn4, bn4, ex4⟩ := W_putCell bxb4 (by omega) (by show ab4 37 (vb4 39 - 1).toNat < 200; omega) h5
                refine hv4 (fpb4.call fn4 rfl rfl) (show 0 ≤ vh5 39 ∧ vh5 39 ≤ 200 from bn4.1 39) (show vh5 39 = vb4 39 from fn4.1 39 rfl) (show ah5 37 (vb4 39 - 1).toNat = ab4 37 (vb4 39 - 1).toNat + 1 from ex4) (fun fq4 rv13 ve7 gex4 => ?_)
                have jex4 : ah5 37 (vh5 39 - 1).toNat = ab4 37 (vb4 39 - 1).toNat + 1 := by rw [show vh5 39 = vb4 39 by omega]; exact ex4
                refine m_st (st2 := []) rfl ?_
                refine m_iload_n (j := 3) C dX12_flow_97 rfl ?_
                refine m_istore (lv2 := [(6, .int (iI x)), (5, .int (iI y1)), (4, .int (iI z1)), (3, .int (iI h1)), (2, .int (iI x)), (0, .ref h0), (1, .int (iI t))]) C dX12_flow_98 (by decide) rfl ?_
                have ra8 : 0 ≤ ah5 37 ((vh5 39) - 1).toNat ∧ ah5 37 ((vh5 39) - 1).toNat ≤ 200 := bn4.2 37 (((vh5 39) - 1).toNat)
                refine m_lv (lv2 := [(6, .int (iI x)), (5, .int (iI y1)), (4, .int (iI z1)), (3, .int (iI h1)), (2, .int (iI x)), (0, .ref h0), (1, .int (iI t))]) [0, 1, 2, 3, 4, 5, 6] rfl ?_
                exact Lp2 211 x _ _ (by omega) bn4 fq4 (by omega) (by show (vh5 39) = vb1 39; omega) (by show ((ah5 37 ((vh5 39) - 1).toNat) + (y1 - x) ≤ 199 ∨ ((ah5 37 ((vh5 39) - 1).toNat) + (y1 - x) ≤ 200 ∧ y1 = v 25)) ∧ x ≤ y1; omega) (FL2.b1 hI88 hh3 (by omega) px3)
            refine m_iload (j := 0) C dX12_flow_68 rfl ?_
            refine m_if_ge (tgt := 83) C ⟨by omega, by omega⟩ dX12_flow_70 (by decide) (fun c6 => ?_) (fun c6 => ?_)
            · refine m_iload (j := 0) C dX12_flow_83 rfl ?_
              refine m_if_lt (tgt := 144) C ⟨by omega, by omega⟩ dX12_flow_85 (by decide) (fun z => absurd z (by omega)) (fun _ => ?_)
              refine hv2 (show 0 ≤ vb3 39 ∧ vb3 39 ≤ 200 from bxb3.1 39) (show 0 ≤ ab3 37 ((vb3 39) - 1).toNat ∧ ab3 37 ((vb3 39) - 1).toNat ≤ 200 from bxb3.2 37 (((vb3 39) - 1).toNat)) (fun rv14 ra9 => ?_)
              refine m_lv (lv2 := [(5, .int (iI y)), (4, .int (iI z1)), (3, .int (iI h1)), (2, .int (iI x)), (0, .ref h0), (1, .int (iI t))]) [0, 1, 2, 3, 4, 5] rfl ?_
              exact J3  y _ _  bxb3 fpb3 (by omega) (by show (vb3 39) = vb1 39; omega) (by show (ab3 37 ((vb3 39) - 1).toNat) = h1; omega) hI68 (by rcases hyx with ⟨q1, q2⟩ | ⟨q1, q2⟩; exact Or.inl ⟨q1, q2⟩; exact Or.inr ⟨q1, Or.inr ⟨by omega, q2⟩⟩)
            · refine m_iload_n (j := 2) C dX12_flow_73 rfl ?_
              refine m_if_ne (tgt := 83) C (r32_c (lo := 0) (hi := 200) hh.1 hh.2.1 (by decide) (by decide)) dX12_flow_74 (by decide) (fun c7 => ?_) (fun c7 => ?_)
              · refine m_iload (j := 0) C dX12_flow_83 rfl ?_
                refine m_if_lt (tgt := 144) C ⟨by omega, by omega⟩ dX12_flow_85 (by decide) (fun _ => ?_) (fun z => absurd z (by omega))
                refine m_iload_n (j := 3) C dX12_flow_144 rfl ?_
                refine m_aload_n (j := 4) C dX12_flow_145 rfl ?_
                refine hv2 (show 0 ≤ vb3 25 ∧ vb3 25 ≤ 208 from bxb3.1 25) (show vb3 25 = v 25 from fpb3.1 25 rfl) (fun rv15 ve8 => ?_)
                refine m_get (k := 25) C dX12_flow_146 w6_84 (by decide) rfl ?_
                refine m_st (st2 := [.int (iI (v 25)), .int (iI x)]) (congrArg (fun z => Value.int (iI z) :: [.int (iI x)]) (fpb3.1 25 rfl)) ?_
                refine m_icmp_ge (tgt := 161) C ⟨by omega, by omega⟩ (r32_c (lo := 0) (hi := 208) (Int.le_trans rv1.1 (Int.le_of_eq ve1)) (Int.le_trans (Int.le_of_eq ve1.symm) rv1.2) (by decide) (by decide)) dX12_flow_149 (by decide) (fun z => absurd z (by omega)) (fun _ => ?_)
                refine m_aload_n (j := 4) C dX12_flow_152 rfl ?_
                refine m_call (mc2 := 0) (ms2 := 0) (As := []) (rest := []) C (M_newLine bxb3.rg (bxb3.1 39)) dX12_flow_153 kV_X12_257 rfl ck_13 rfl (Nat.le_of_ble_eq_true rfl) ⟨Nat.le_of_ble_eq_true rfl, Nat.le_of_ble_eq_true rfl⟩ ⟨Nat.le_of_ble_eq_true rfl, Nat.le_of_ble_eq_true rfl⟩ (fun rh6 vh6 ah6 h6 => ?_)
                obtain ⟨f5, rfl, fn5, bn5, ex5, nx2⟩ := W_newLine2 bxb3 h6
                refine hv2 (fpb3.call fn5 rfl rfl) (show (f5 = 1 ∧ vh6 39 = vb3 39 + 1 ∧ ah6 37 (vh6 39 - 1).toNat = 0) ∨ f5 = 0 from ex5) (fun fq5 gf5 => ?_)
                refine m_st (st2 := [.int (iI f5)]) rfl ?_
                refine m_if_ne (tgt := 161) C (r32_p0 gf5) dX12_flow_156 (by decide) (fun c8 => ?_) (fun c8 => ?_)
                · replace gf5 := (gf5.resolve_right c8)
                  refine m_goto (tgt := 2) C dX12_flow_161 (by decide) ?_
                  have rv16 : 0 ≤ vh6 39 ∧ vh6 39 ≤ 200 := bn5.1 39
                  refine m_lv (lv2 := [(2, .int (iI x)), (0, .ref h0), (1, .int (iI t))]) [3, 4, 5] rfl ?_
                  exact ih1  x _ _ (by omega) bn5 fq5 (by omega) (by show 1 ≤ (vh6 39) ∧ (vh6 39) ≤ 200; omega) (FL2.nl (z := z1) hI68 (by omega) hh2 (by omega) (by omega) (by rcases hyx with ⟨_, q⟩ | ⟨q, _⟩; exact absurd q (by omega); exact q) (by rcases hyx with ⟨_, q⟩ | ⟨_, q⟩; exact absurd q (by omega); exact q) (by omega) nx2 (by omega))
                · clear gf5
                  refine m_iconst C dX12_flow_159 ?_
                  exact m_zret C dX12_flow_160 rfl (Or.inl rfl) (Nat.le_of_ble_eq_true rfl) (Nat.le_of_ble_eq_true rfl) ⟨0, rfl, fq5, bn5, ⟨Or.inl rfl, FL2.nno (z := z1) hI68 (by omega) hh2 (by omega) (by omega) (by rcases hyx with ⟨_, q⟩ | ⟨q, _⟩; exact absurd q (by omega); exact q) nx2 (by omega)⟩⟩
              · refine m_aload_n (j := 4) C dX12_flow_77 rfl ?_
                refine hv2 (show 0 ≤ vb3 25 ∧ vb3 25 ≤ 208 from bxb3.1 25) (show vb3 25 = v 25 from fpb3.1 25 rfl) (fun rv17 ve9 => ?_)
                refine m_get (k := 25) C dX12_flow_78 w6_84 (by decide) rfl ?_
                refine m_st (st2 := [.int (iI (v 25))]) (congrArg (fun z => Value.int (iI z) :: []) (fpb3.1 25 rfl)) ?_
                refine m_istore (lv2 := [(5, .int (iI (v 25))), (4, .int (iI z1)), (3, .int (iI h1)), (2, .int (iI x)), (0, .ref h0), (1, .int (iI t))]) C dX12_flow_81 (by decide) rfl ?_
                refine m_iload (j := 0) C dX12_flow_83 rfl ?_
                refine m_if_lt (tgt := 144) C (r32_c (lo := 0) (hi := 208) (Int.le_trans rv1.1 (Int.le_of_eq ve1)) (Int.le_trans (Int.le_of_eq ve1.symm) rv1.2) (by decide) (by decide)) dX12_flow_85 (by decide) (fun c9 => ?_) (fun c9 => ?_)
                · refine m_iload_n (j := 3) C dX12_flow_144 rfl ?_
                  refine m_aload_n (j := 4) C dX12_flow_145 rfl ?_
                  refine m_get (k := 25) C dX12_flow_146 w6_84 (by decide) rfl ?_
                  refine m_st (st2 := [.int (iI (v 25)), .int (iI x)]) (congrArg (fun z => Value.int (iI z) :: [.int (iI x)]) (fpb3.1 25 rfl)) ?_
                  refine m_icmp_ge (tgt := 161) C ⟨by omega, by omega⟩ (r32_c (lo := 0) (hi := 208) (Int.le_trans rv1.1 (Int.le_of_eq ve1)) (Int.le_trans (Int.le_of_eq ve1.symm) rv1.2) (by decide) (by decide)) dX12_flow_149 (by decide) (fun z => absurd z (by omega)) (fun _ => ?_)
                  refine m_aload_n (j := 4) C dX12_flow_152 rfl ?_
                  refine m_call (mc2 := 0) (ms2 := 0) (As := []) (rest := []) C (M_newLine bxb3.rg (bxb3.1 39)) dX12_flow_153 kV_X12_257 rfl ck_13 rfl (Nat.le_of_ble_eq_true rfl) ⟨Nat.le_of_ble_eq_true rfl, Nat.le_of_ble_eq_true rfl⟩ ⟨Nat.le_of_ble_eq_true rfl, Nat.le_of_ble_eq_true rfl⟩ (fun rh7 vh7 ah7 h7 => ?_)
                  obtain ⟨f6, rfl, fn6, bn6, ex6, nx3⟩ := W_newLine2 bxb3 h7
                  refine hv2 (fpb3.call fn6 rfl rfl) (show (f6 = 1 ∧ vh7 39 = vb3 39 + 1 ∧ ah7 37 (vh7 39 - 1).toNat = 0) ∨ f6 = 0 from ex6) (fun fq6 gf6 => ?_)
                  refine m_st (st2 := [.int (iI f6)]) rfl ?_
                  refine m_if_ne (tgt := 161) C (r32_p0 gf6) dX12_flow_156 (by decide) (fun c10 => ?_) (fun c10 => ?_)
                  · replace gf6 := (gf6.resolve_right c10)
                    refine m_goto (tgt := 2) C dX12_flow_161 (by decide) ?_
                    have rv18 : 0 ≤ vh7 39 ∧ vh7 39 ≤ 200 := bn6.1 39
                    refine m_lv (lv2 := [(2, .int (iI x)), (0, .ref h0), (1, .int (iI t))]) [3, 4, 5] rfl ?_
                    exact ih1  x _ _ (by omega) bn6 fq6 (by omega) (by show 1 ≤ (vh7 39) ∧ (vh7 39) ≤ 200; omega) (FL2.nl (z := z1) hI68 (by omega) hh2 (by omega) (by omega) (by rcases hyx with ⟨_, q⟩ | ⟨q, _⟩; exact absurd q (by omega); exact q) (by rcases hyx with ⟨_, q⟩ | ⟨_, q⟩; exact absurd q (by omega); exact q) (by omega) nx3 (by omega))
                  · clear gf6
                    refine m_iconst C dX12_flow_159 ?_
                    exact m_zret C dX12_flow_160 rfl (Or.inl rfl) (Nat.le_of_ble_eq_true rfl) (Nat.le_of_ble_eq_true rfl) ⟨0, rfl, fq6, bn6, ⟨Or.inl rfl, FL2.nno (z := z1) hI68 (by omega) hh2 (by omega) (by omega) (by rcases hyx with ⟨_, q⟩ | ⟨q, _⟩; exact absurd q (by omega); exact q) nx3 (by omega)⟩⟩
                · have rv19 : 0 ≤ vb3 39 ∧ vb3 39 ≤ 200 := bxb3.1 39
                  have ra10 : 0 ≤ ab3 37 ((vb3 39) - 1).toNat ∧ ab3 37 ((vb3 39) - 1).toNat ≤ 200 := bxb3.2 37 (((vb3 39) - 1).toNat)
                  refine m_lv (lv2 := [(5, .int (iI (v 25))), (4, .int (iI z1)), (3, .int (iI h1)), (2, .int (iI x)), (0, .ref h0), (1, .int (iI t))]) [0, 1, 2, 3, 4, 5] rfl ?_
                  exact J3  (v 25) _ _  bxb3 fpb3 (by omega) (by show (vb3 39) = vb1 39; omega) (by show (ab3 37 ((vb3 39) - 1).toNat) = h1; omega) hI68 (by rcases hyx with ⟨q1, q2⟩ | ⟨q1, q2⟩; exact absurd q2 (by omega); exact Or.inr ⟨q1, Or.inl ⟨by omega, by omega, by rw [show y = -1 by omega] at q2; exact q2⟩⟩)
          refine m_aload_n (j := 3) C dX12_flow_40 rfl ?_
          refine hv2 (show 0 ≤ vb2 25 ∧ vb2 25 ≤ 208 from bxb2.1 25) (show vb2 25 = v 25 from fpb2.1 25 rfl) (fun rv20 ve10 => ?_)
          refine m_get (k := 25) C dX12_flow_41 w6_84 (by decide) rfl ?_
          refine m_st (st2 := [.int (iI (v 25))]) (congrArg (fun z => Value.int (iI z) :: []) (fpb2.1 25 rfl)) ?_
          refine m_iload_n (j := 2) C dX12_flow_44 rfl ?_
          refine m_isub C dX12_flow_45 ?_
          refine m_iload (j := 0) C dX12_flow_46 rfl ?_
          refine m_icmp_gt (tgt := 58) C ⟨by omega, by omega⟩ ⟨by omega, by omega⟩ dX12_flow_48 (by decide) (fun c11 => ?_) (fun c11 => ?_)
          · refine m_aload_n (j := 3) C dX12_flow_58 rfl ?_
            refine m_iload_n (j := 4) C dX12_flow_59 rfl ?_
            refine m_iload_n (j := 2) C dX12_flow_60 rfl ?_
            refine m_iload (j := 0) C dX12_flow_61 rfl ?_
            refine m_call (mc2 := 0) (ms2 := 0) (As := [.int (iI t), .int (iI x), .int (iI z1)]) (rest := []) C (E_breakOf (t := t) (q := x) (z := z1) bxb2 (by omega) (by omega) (by omega)) dX12_flow_63 kV_X12_249 rfl ck_13 rfl (Nat.le_of_ble_eq_true rfl) ⟨Nat.le_of_ble_eq_true rfl, Nat.le_of_ble_eq_true rfl⟩ ⟨Nat.le_of_ble_eq_true rfl, Nat.le_of_ble_eq_true rfl⟩ (fun rh8 vh8 ah8 h8 => ?_)
            obtain ⟨f7, rfl, fn7, bn7, ex7, bq1⟩ := h8
            obtain ⟨rfl, rfl⟩ := fn7.eq
            have gf7 : f7 = -1 ∨ (x < f7 ∧ f7 ≤ 208 ∧ f7 - x + 1 ≤ z1) := ex7
            refine m_st (st2 := [.int (iI f7)]) rfl ?_
            refine m_istore (lv2 := [(5, .int (iI f7)), (4, .int (iI z1)), (3, .int (iI h1)), (2, .int (iI x)), (0, .ref h0), (1, .int (iI t))]) C dX12_flow_66 (by decide) rfl ?_
            refine hv2 (show 0 ≤ vb2 39 ∧ vb2 39 ≤ 200 from bxb2.1 39) (show 0 ≤ ab2 37 ((vb2 39) - 1).toNat ∧ ab2 37 ((vb2 39) - 1).toNat ≤ 200 from bxb2.2 37 (((vb2 39) - 1).toNat)) (fun rv21 ra11 => ?_)
            refine m_lv (lv2 := [(5, .int (iI f7)), (4, .int (iI z1)), (3, .int (iI h1)), (2, .int (iI x)), (0, .ref h0), (1, .int (iI t))]) [0, 1, 2, 3, 4, 5] rfl ?_
            exact J2  f7 _ _  bxb2 fpb2 (by omega) (by show (vb2 39) = vb1 39; omega) (by show (ab2 37 ((vb2 39) - 1).toNat) = h1; omega) hI40 (Or.inr ⟨by omega, (BRQ.fr bq1 (fpb2.1 23 rfl) (fpb2.2 6 rfl) (fpb2.2 20 rfl) (fpb2.2 21 rfl) (fpb2.2 22 rfl) (fpb2.2 26 rfl))⟩)
          · refine m_aload_n (j := 3) C dX12_flow_51 rfl ?_
            refine m_get (k := 25) C dX12_flow_52 w6_84 (by decide) rfl ?_
            refine m_st (st2 := [.int (iI (v 25))]) (congrArg (fun z => Value.int (iI z) :: []) (fpb2.1 25 rfl)) ?_
            refine m_goto (tgt := 66) C dX12_flow_55 (by decide) ?_
            refine m_istore (lv2 := [(5, .int (iI (v 25))), (4, .int (iI z1)), (3, .int (iI h1)), (2, .int (iI x)), (0, .ref h0), (1, .int (iI t))]) C dX12_flow_66 (by decide) rfl ?_
            refine hv2 (show 0 ≤ vb2 39 ∧ vb2 39 ≤ 200 from bxb2.1 39) (show 0 ≤ ab2 37 ((vb2 39) - 1).toNat ∧ ab2 37 ((vb2 39) - 1).toNat ≤ 200 from bxb2.2 37 (((vb2 39) - 1).toNat)) (fun rv22 ra12 => ?_)
            refine m_lv (lv2 := [(5, .int (iI (v 25))), (4, .int (iI z1)), (3, .int (iI h1)), (2, .int (iI x)), (0, .ref h0), (1, .int (iI t))]) [0, 1, 2, 3, 4, 5] rfl ?_
            exact J2  (v 25) _ _  bxb2 fpb2 (by omega) (by show (vb2 39) = vb1 39; omega) (by show (ab2 37 ((vb2 39) - 1).toNat) = h1; omega) hI40 (Or.inl ⟨by omega, by omega⟩)
        refine m_aload_n (j := 2) C dX12_flow_22 rfl ?_
        refine hv2 (show 1 ≤ vb1 31 ∧ vb1 31 ≤ 100 from bxb1.1 31) (show vb1 31 = v 31 from fpb1.1 31 rfl) (fun rv23 ve11 => ?_)
        refine m_get (k := 31) C dX12_flow_23 w6_90 (by decide) rfl ?_
        refine m_st (st2 := [.int (iI (v 31))]) (congrArg (fun z => Value.int (iI z) :: []) (fpb1.1 31 rfl)) ?_
        refine m_iload_n (j := 0) C dX12_flow_26 rfl ?_
        refine m_if_ne (tgt := 34) C (r32_c (lo := 0) (hi := 200) ra1.1 ra1.2 (by decide) (by decide)) dX12_flow_27 (by decide) (fun c12 => ?_) (fun c12 => ?_)
        · refine m_iload_n (j := 0) C dX12_flow_34 rfl ?_
          refine m_iconst C dX12_flow_35 ?_
          refine m_iadd C dX12_flow_36 ?_
          refine m_isub C dX12_flow_37 ?_
          refine m_istore (lv2 := [(4, .int (iI ((v 31) - ((ab1 37 ((vb1 39) - 1).toNat) + 1)))), (3, .int (iI (ab1 37 ((vb1 39) - 1).toNat))), (2, .int (iI x)), (0, .ref h0), (1, .int (iI t))]) C dX12_flow_38 (by decide) rfl ?_
          refine m_lv (lv2 := [(4, .int (iI ((v 31) - ((ab1 37 ((vb1 39) - 1).toNat) + 1)))), (3, .int (iI (ab1 37 ((vb1 39) - 1).toNat))), (2, .int (iI x)), (0, .ref h0), (1, .int (iI t))]) [0, 1, 2, 3, 4] rfl ?_
          exact J1  (ab1 37 ((vb1 39) - 1).toNat) ((v 31) - ((ab1 37 ((vb1 39) - 1).toNat) + 1)) _ _  bxb1 fpb1 (by omega) (by show (vb1 39) = vb1 39; omega) (by show (ab1 37 ((vb1 39) - 1).toNat) = (ab1 37 ((vb1 39) - 1).toNat); omega) hI
        · refine m_iconst C dX12_flow_30 ?_
          refine m_goto (tgt := 37) C dX12_flow_31 (by decide) ?_
          refine m_isub C dX12_flow_37 ?_
          refine m_istore (lv2 := [(4, .int (iI ((v 31) - 0))), (3, .int (iI (ab1 37 ((vb1 39) - 1).toNat))), (2, .int (iI x)), (0, .ref h0), (1, .int (iI t))]) C dX12_flow_38 (by decide) rfl ?_
          refine m_lv (lv2 := [(4, .int (iI ((v 31) - 0))), (3, .int (iI (ab1 37 ((vb1 39) - 1).toNat))), (2, .int (iI x)), (0, .ref h0), (1, .int (iI t))]) [0, 1, 2, 3, 4] rfl ?_
          exact J1  (ab1 37 ((vb1 39) - 1).toNat) ((v 31) - 0) _ _  bxb1 fpb1 (by omega) (by show (vb1 39) = vb1 39; omega) (by show (ab1 37 ((vb1 39) - 1).toNat) = (ab1 37 ((vb1 39) - 1).toNat); omega) hI
  have rv24 : 0 ≤ v 39 ∧ v 39 ≤ 200 := hB.1 39
  refine m_lv (lv2 := [(2, .int (iI 0)), (0, .ref h0), (1, .int (iI t))]) [0, 1, 2] rfl ?_
  exact Lp1 202 0 _ _ (by omega) hB fp0 (by omega) (by show 1 ≤ (v 39) ∧ (v 39) ≤ 200; omega) FL2.init
set_option maxHeartbeats 4000000 in
set_option maxRecDepth 100000 in
theorem E_centre {l : Launch} {G : GT} {h0 : Nat} {ad ln : Nat → Nat} {v : Nat → Int} {a : Nat → Nat → Int}  {q : Int} (hB : BX v a) (hq : 0 ≤ q ∧ q ≤ 200) : Mm l G yX12_centre cX12_centre 5 none 0 [.int (iI q)] h0 ad ln v a 0 0 (fun r v2 a2 => r = none ∧ fr [] [37, 38] v a v2 a2 ∧ BX v2 a2 ∧ (CNX v a v2 a2 q)) := by
  refine Mm.mk (by decide) (Nat.le_of_ble_eq_true rfl) ?_
  intro p e s m args below meth c A C
  refine hv2 (show 1 ≤ v 31 ∧ v 31 ≤ 100 from hB.1 31) (show fr [] [37, 38] v a v a from fr.refl) (fun r31 fp0 => ?_)
  refine m_iload_n (j := 1) C dX12_centre_0 rfl ?_
  refine m_istore_n (lv2 := [(2, .int (iI q)), (0, .ref h0), (1, .int (iI q))]) C dX12_centre_1 (by decide) rfl ?_
  have Lp1 : ∀ (nn : Nat) (x : Int) (vb1 : Nat → Int) (ab1 : Nat → Nat → Int), 201 - x < (nn : Int) → BX vb1 ab1 → fr [] [37, 38] v a vb1 ab1 → (0 ≤ x ∧ x ≤ 200 ∧ q ≤ x) → (CN2 v a vb1 ab1 q x) → mw p l e (rmq 0 0 0) s m args below meth c G A 5 (MQ below (Qm G A (fun rq Lq Eq => ∃ (vq : Nat → Int) (aq : Nat → Nat → Int), mI G h0 ad ln vq aq Lq Eq ∧ (fun r v2 a2 => r = none ∧ fr [] [37, 38] v a v2 a2 ∧ BX v2 a2 ∧ (CNX v a v2 a2 q)) rq vq aq)) args s 0 0 A) h0 ad ln vb1 ab1 0 0 2 [(2, .int (iI x)), (0, .ref h0), (1, .int (iI q))] [] := by
    intro nn
    induction nn with
    | zero =>
      intro x vb1 ab1 hm bxb1 fpb1 hx hC
      exact absurd hm (by omega)
    | succ nn ih1 =>
      intro x vb1 ab1 hm bxb1 fpb1 hx hC
      refine m_iload_n (j := 0) C dX12_centre_2 rfl ?_
      refine m_aload_n (j := 1) C dX12_centre_3 rfl ?_
      refine hv2 (show 0 ≤ vb1 39 ∧ vb1 39 ≤ 200 from bxb1.1 39) (show vb1 39 = v 39 from fpb1.1 39 rfl) (fun rv1 ve1 => ?_)
      refine m_get (k := 39) C dX12_centre_4 w6_98 (by decide) rfl ?_
      refine m_st (st2 := [.int (iI (v 39)), .int (iI x)]) (congrArg (fun z => Value.int (iI z) :: [.int (iI x)]) (fpb1.1 39 rfl)) ?_
      refine m_icmp_ge (tgt := 144) C (r32_c (lo := 0) (hi := 200) hx.1 hx.2.1 (by decide) (by decide)) (r32_c (lo := 0) (hi := 200) (Int.le_trans rv1.1 (Int.le_of_eq ve1)) (Int.le_trans (Int.le_of_eq ve1.symm) rv1.2) (by decide) (by decide)) dX12_centre_7 (by decide) (fun c1 => ?_) (fun c1 => ?_)
      · exact m_vret C dX12_centre_144 rfl (Nat.le_of_ble_eq_true rfl) (Nat.le_of_ble_eq_true rfl) ⟨rfl, fpb1, bxb1, (hC.fin (by omega) (by omega))⟩
      · refine m_aload_n (j := 1) C dX12_centre_10 rfl ?_
        refine m_geta (k := 37) C dX12_centre_11 w6_96 (by decide) rfl ?_
        refine m_iload_n (j := 0) C dX12_centre_14 rfl ?_
        refine m_ald (k := 37) C dX12_centre_15 rfl rfl (by decide) (by omega) (by show _ < ((_ : Nat) : Int); simp only [mlen]; omega) (by decide) ?_
        have ra1 : 0 ≤ ab1 37 x.toNat ∧ ab1 37 x.toNat ≤ 200 := bxb1.2 37 (x.toNat)
        have J1 : ∀ (y : Int) (vb2 : Nat → Int) (ab2 : Nat → Nat → Int), BX vb2 ab2 → fr [] [37, 38] v a vb2 ab2 → (0 ≤ y ∧ ab2 37 x.toNat + y ≤ 200) → ((((ab2 37 x.toNat = 0 ∨ v 31 ≤ ab2 37 x.toNat) ∧ y = 0) ∨ (0 < ab2 37 x.toNat ∧ ab2 37 x.toNat < v 31 ∧ y = (v 31 - ab2 37 x.toNat) / 2))) → (CN2 v a vb2 ab2 q x) → mw p l e (rmq 0 0 0) s m args below meth c G A 5 (MQ below (Qm G A (fun rq Lq Eq => ∃ (vq : Nat → Int) (aq : Nat → Nat → Int), mI G h0 ad ln vq aq Lq Eq ∧ (fun r v2 a2 => r = none ∧ fr [] [37, 38] v a v2 a2 ∧ BX v2 a2 ∧ (CNX v a v2 a2 q)) rq vq aq)) args s 0 0 A) h0 ad ln vb2 ab2 0 0 49 [(2, .int (iI x)), (0, .ref h0), (1, .int (iI q))] [.int (iI y)] := by
          intro y vb2 ab2 bxb2 fpb2 hy hy2 hC1
          refine m_istore_n (lv2 := [(3, .int (iI y)), (2, .int (iI x)), (0, .ref h0), (1, .int (iI q))]) C dX12_centre_49 (by decide) rfl ?_
          refine m_aload_n (j := 2) C dX12_centre_50 rfl ?_
          refine m_geta (k := 37) C dX12_centre_51 w6_96 (by decide) rfl ?_
          refine m_iload_n (j := 1) C dX12_centre_54 rfl ?_
          refine m_ald (k := 37) C dX12_centre_55 rfl rfl (by decide) (by omega) (by show _ < ((_ : Nat) : Int); simp only [mlen]; omega) (by decide) ?_
          have ra2 : 0 ≤ ab2 37 x.toNat ∧ ab2 37 x.toNat ≤ 200 := bxb2.2 37 (x.toNat)
          refine m_iconst C dX12_centre_56 ?_
          refine m_isub C dX12_centre_57 ?_
          refine m_istore (lv2 := [(4, .int (iI ((ab2 37 x.toNat) - 1))), (3, .int (iI y)), (2, .int (iI x)), (0, .ref h0), (1, .int (iI q))]) C dX12_centre_58 (by decide) rfl ?_
          have Lp2 : ∀ (nn : Nat) (k : Int) (vb3 : Nat → Int) (ab3 : Nat → Nat → Int), k + 1 < (nn : Int) → BX vb3 ab3 → fr [] [37, 38] v a vb3 ab3 → (-1 ≤ k ∧ k < ab3 37 x.toNat ∧ ab3 37 x.toNat + y ≤ 200) → ((((ab3 37 x.toNat = 0 ∨ v 31 ≤ ab3 37 x.toNat) ∧ y = 0) ∨ (0 < ab3 37 x.toNat ∧ ab3 37 x.toNat < v 31 ∧ y = (v 31 - ab3 37 x.toNat) / 2))) → (CE6 v a vb3 ab3 q x y k) → mw p l e (rmq 0 0 0) s m args below meth c G A 5 (MQ below (Qm G A (fun rq Lq Eq => ∃ (vq : Nat → Int) (aq : Nat → Nat → Int), mI G h0 ad ln vq aq Lq Eq ∧ (fun r v2 a2 => r = none ∧ fr [] [37, 38] v a v2 a2 ∧ BX v2 a2 ∧ (CNX v a v2 a2 q)) rq vq aq)) args s 0 0 A) h0 ad ln vb3 ab3 0 0 60 [(4, .int (iI k)), (3, .int (iI y)), (2, .int (iI x)), (0, .ref h0), (1, .int (iI q))] [] := by
            intro nn
            induction nn with
            | zero =>
              intro k vb3 ab3 hm bxb3 fpb3 hk hy3 h6
              exact absurd hm (by omega)
            | succ nn ih2 =>
              intro k vb3 ab3 hm bxb3 fpb3 hk hy3 h6
              refine m_iload (j := 0) C dX12_centre_60 rfl ?_
              refine m_if_lt (tgt := 99) C ⟨by omega, by omega⟩ dX12_centre_62 (by decide) (fun c2 => ?_) (fun c2 => ?_)
              · refine m_iconst C dX12_centre_99 ?_
                refine m_istore (lv2 := [(4, .int (iI 0)), (3, .int (iI y)), (2, .int (iI x)), (0, .ref h0), (1, .int (iI q))]) C dX12_centre_100 (by decide) rfl ?_
                have Lp3 : ∀ (nn : Nat) (k1 : Int) (vb4 : Nat → Int) (ab4 : Nat → Nat → Int), 201 - k1 < (nn : Int) → BX vb4 ab4 → fr [] [37, 38] v a vb4 ab4 → (0 ≤ k1 ∧ k1 ≤ y ∧ k1 ≤ 200 ∧ ab4 37 x.toNat + y ≤ 200) → ((((ab4 37 x.toNat = 0 ∨ v 31 ≤ ab4 37 x.toNat) ∧ y = 0) ∨ (0 < ab4 37 x.toNat ∧ ab4 37 x.toNat < v 31 ∧ y = (v 31 - ab4 37 x.toNat) / 2))) → (CE7 v a vb4 ab4 q x y k1) → mw p l e (rmq 0 0 0) s m args below meth c G A 5 (MQ below (Qm G A (fun rq Lq Eq => ∃ (vq : Nat → Int) (aq : Nat → Nat → Int), mI G h0 ad ln vq aq Lq Eq ∧ (fun r v2 a2 => r = none ∧ fr [] [37, 38] v a v2 a2 ∧ BX v2 a2 ∧ (CNX v a v2 a2 q)) rq vq aq)) args s 0 0 A) h0 ad ln vb4 ab4 0 0 102 [(4, .int (iI k1)), (3, .int (iI y)), (2, .int (iI x)), (0, .ref h0), (1, .int (iI q))] [] := by
                  intro nn
                  induction nn with
                  | zero =>
                    intro k1 vb4 ab4 hm bxb4 fpb4 hk1 hy4 h7
                    exact absurd hm (by omega)
                  | succ nn ih3 =>
                    intro k1 vb4 ab4 hm bxb4 fpb4 hk1 hy4 h7
                    refine m_iload (j := 0) C dX12_centre_102 rfl ?_
                    refine m_iload_n (j := 1) C dX12_centre_104 rfl ?_
                    refine m_icmp_ge (tgt := 128) C (r32_c (lo := 0) (hi := 200) hk1.1 hk1.2.2.1 (by decide) (by decide)) ⟨by omega, by omega⟩ dX12_centre_105 (by decide) (fun c3 => ?_) (fun c3 => ?_)
                    · refine m_aload_n (j := 3) C dX12_centre_128 rfl ?_
                      refine m_geta (k := 37) C dX12_centre_129 w6_96 (by decide) rfl ?_
                      refine m_iload_n (j := 2) C dX12_centre_132 rfl ?_
                      refine m_dup2 C dX12_centre_133 rfl rfl ?_
                      refine m_ald (k := 37) C dX12_centre_134 rfl rfl (by decide) (by omega) (by show _ < ((_ : Nat) : Int); simp only [mlen]; omega) (by decide) ?_
                      have ra3 : 0 ≤ ab4 37 x.toNat ∧ ab4 37 x.toNat ≤ 200 := bxb4.2 37 (x.toNat)
                      refine m_iload_n (j := 1) C dX12_centre_135 rfl ?_
                      refine m_iadd C dX12_centre_136 ?_
                      refine m_ast (k := 37) C dX12_centre_137 rfl rfl (by decide) (by omega) (by show _ < ((_ : Nat) : Int); simp only [mlen]; omega) (by decide) ?_
                      refine hv2 (show BX vb4 (up2 ab4 37 x.toNat ((ab4 37 x.toNat) + y)) from bxb4.set (k := 37) (i := x.toNat) (z := (ab4 37 x.toNat) + y) (show 0 ≤ ((ab4 37 x.toNat) + y) ∧ ((ab4 37 x.toNat) + y) ≤ 200 by omega)) (fpb4.set (k := 37) (i := x.toNat) (z := (ab4 37 x.toNat) + y) rfl) (fun bq1 fq1 => ?_)
                      refine m_iinc (z := x) (j := 2) (lv2 := [(2, .int (iI (x + 1))), (4, .int (iI k1)), (3, .int (iI y)), (0, .ref h0), (1, .int (iI q))]) C dX12_centre_138 rfl (by decide) rfl ?_
                      refine m_goto (tgt := 2) C dX12_centre_141 (by decide) ?_
                      refine m_lv (lv2 := [(2, .int (iI (x + 1))), (0, .ref h0), (1, .int (iI q))]) [0, 3, 4] rfl ?_
                      exact ih1  (x + 1) _ _ (by omega) bq1 fq1 (by omega) (CE7.fin h7 ⟨by omega, by omega⟩ (by omega) (by omega) rfl (by omega) rfl rfl)
                    · refine m_aload_n (j := 3) C dX12_centre_108 rfl ?_
                      refine m_geta (k := 38) C dX12_centre_109 w6_97 (by decide) rfl ?_
                      refine m_sipush (z := 200) C dX12_centre_112 (by decide) ?_
                      refine m_iload_n (j := 2) C dX12_centre_115 rfl ?_
                      refine m_imul C dX12_centre_116 ?_
                      refine m_iload (j := 0) C dX12_centre_117 rfl ?_
                      refine m_iadd C dX12_centre_119 ?_
                      refine m_iconst C dX12_centre_120 ?_
                      refine m_ast (k := 38) C dX12_centre_121 rfl rfl (by decide) (by omega) (by show _ < ((_ : Nat) : Int); simp only [mlen]; omega) (by decide) ?_
                      refine hv2 (show BX vb4 (up2 ab4 38 ((200 * x) + k1).toNat 0) from bxb4.set (k := 38) (i := ((200 * x) + k1).toNat) (z := 0) ⟨by decide, by decide⟩) (fpb4.set (k := 38) (i := ((200 * x) + k1).toNat) (z := 0) rfl) (fun bq2 fq2 => ?_)
                      refine m_iinc (z := k1) (j := 0) (lv2 := [(4, .int (iI (k1 + 1))), (3, .int (iI y)), (2, .int (iI x)), (0, .ref h0), (1, .int (iI q))]) C dX12_centre_122 rfl (by decide) rfl ?_
                      refine m_goto (tgt := 102) C dX12_centre_125 (by decide) ?_
                      have ra4 : 0 ≤ ab4 37 x.toNat ∧ ab4 37 x.toNat ≤ 200 := bq2.2 37 (x.toNat)
                      refine m_lv (lv2 := [(4, .int (iI (k1 + 1))), (3, .int (iI y)), (2, .int (iI x)), (0, .ref h0), (1, .int (iI q))]) [0, 1, 2, 3, 4] rfl ?_
                      exact ih3  (k1 + 1) _ _ (by omega) bq2 fq2 (by show 0 ≤ (k1 + 1) ∧ (k1 + 1) ≤ y ∧ (k1 + 1) ≤ 200 ∧ (ab4 37 x.toNat) + y ≤ 200; omega) (by show ((((ab4 37 x.toNat) = 0 ∨ v 31 ≤ (ab4 37 x.toNat)) ∧ y = 0) ∨ (0 < (ab4 37 x.toNat) ∧ (ab4 37 x.toNat) < v 31 ∧ y = (v 31 - (ab4 37 x.toNat)) / 2)); omega) (h7.mv (fun l => (bxb4.2 37 l).2) (by omega) ⟨by omega, by omega, by omega⟩ rfl)
                have ra5 : 0 ≤ ab3 37 x.toNat ∧ ab3 37 x.toNat ≤ 200 := bxb3.2 37 (x.toNat)
                refine m_lv (lv2 := [(4, .int (iI 0)), (3, .int (iI y)), (2, .int (iI x)), (0, .ref h0), (1, .int (iI q))]) [0, 1, 2, 3, 4] rfl ?_
                exact Lp3 202 0 _ _ (by omega) bxb3 fpb3 (by show 0 ≤ 0 ∧ 0 ≤ y ∧ 0 ≤ 200 ∧ (ab3 37 x.toNat) + y ≤ 200; omega) (by show ((((ab3 37 x.toNat) = 0 ∨ v 31 ≤ (ab3 37 x.toNat)) ∧ y = 0) ∨ (0 < (ab3 37 x.toNat) ∧ (ab3 37 x.toNat) < v 31 ∧ y = (v 31 - (ab3 37 x.toNat)) / 2)); omega) (h6.zr (by omega))
              · refine m_aload_n (j := 3) C dX12_centre_65 rfl ?_
                refine m_geta (k := 38) C dX12_centre_66 w6_97 (by decide) rfl ?_
                refine m_sipush (z := 200) C dX12_centre_69 (by decide) ?_
                refine m_iload_n (j := 2) C dX12_centre_72 rfl ?_
                refine m_imul C dX12_centre_73 ?_
                refine m_iload (j := 0) C dX12_centre_74 rfl ?_
                refine m_iadd C dX12_centre_76 ?_
                refine m_iload_n (j := 1) C dX12_centre_77 rfl ?_
                refine m_iadd C dX12_centre_78 ?_
                refine m_aload_n (j := 3) C dX12_centre_79 rfl ?_
                refine m_geta (k := 38) C dX12_centre_80 w6_97 (by decide) rfl ?_
                refine m_sipush (z := 200) C dX12_centre_83 (by decide) ?_
                refine m_iload_n (j := 2) C dX12_centre_86 rfl ?_
                refine m_imul C dX12_centre_87 ?_
                refine m_iload (j := 0) C dX12_centre_88 rfl ?_
                refine m_iadd C dX12_centre_90 ?_
                refine m_ald (k := 38) C dX12_centre_91 rfl rfl (by decide) (by omega) (by show _ < ((_ : Nat) : Int); simp only [mlen]; omega) (by decide) ?_
                have ra6 : (-2147483648) ≤ ab3 38 ((200 * x) + k).toNat ∧ ab3 38 ((200 * x) + k).toNat ≤ 2147483647 := bxb3.2 38 (((200 * x) + k).toNat)
                refine m_ast (k := 38) C dX12_centre_92 rfl rfl (by decide) (by omega) (by show _ < ((_ : Nat) : Int); simp only [mlen]; omega) (by decide) ?_
                refine hv2 (show BX vb3 (up2 ab3 38 (((200 * x) + k) + y).toNat (ab3 38 ((200 * x) + k).toNat)) from bxb3.set (k := 38) (i := (((200 * x) + k) + y).toNat) (z := ab3 38 ((200 * x) + k).toNat) (show (-2147483648) ≤ (ab3 38 ((200 * x) + k).toNat) ∧ (ab3 38 ((200 * x) + k).toNat) ≤ 2147483647 by omega)) (fpb3.set (k := 38) (i := (((200 * x) + k) + y).toNat) (z := ab3 38 ((200 * x) + k).toNat) rfl) (fun bq3 fq3 => ?_)
                refine m_iinc (z := k) (j := 0) (lv2 := [(4, .int (iI (k + (-1)))), (3, .int (iI y)), (2, .int (iI x)), (0, .ref h0), (1, .int (iI q))]) C dX12_centre_93 rfl (by decide) rfl ?_
                refine m_goto (tgt := 60) C dX12_centre_96 (by decide) ?_
                have ra7 : 0 ≤ ab3 37 x.toNat ∧ ab3 37 x.toNat ≤ 200 := bq3.2 37 (x.toNat)
                refine m_lv (lv2 := [(4, .int (iI (k + (-1)))), (3, .int (iI y)), (2, .int (iI x)), (0, .ref h0), (1, .int (iI q))]) [0, 1, 2, 3, 4] rfl ?_
                exact ih2  (k + (-1)) _ _ (by omega) bq3 fq3 (by show -1 ≤ (k + (-1)) ∧ (k + (-1)) < (ab3 37 x.toNat) ∧ (ab3 37 x.toNat) + y ≤ 200; omega) (by show ((((ab3 37 x.toNat) = 0 ∨ v 31 ≤ (ab3 37 x.toNat)) ∧ y = 0) ∨ (0 < (ab3 37 x.toNat) ∧ (ab3 37 x.toNat) < v 31 ∧ y = (v 31 - (ab3 37 x.toNat)) / 2)); omega) (h6.mv (fun l => (bxb3.2 37 l).2) (by omega) ⟨by omega, by omega, by omega⟩ rfl rfl)
          refine m_lv (lv2 := [(4, .int (iI ((ab2 37 x.toNat) - 1))), (3, .int (iI y)), (2, .int (iI x)), (0, .ref h0), (1, .int (iI q))]) [0, 1, 2, 3, 4] rfl ?_
          exact Lp2 202 ((ab2 37 x.toNat) - 1) _ _ (by omega) bxb2 fpb2 (by show -1 ≤ ((ab2 37 x.toNat) - 1) ∧ ((ab2 37 x.toNat) - 1) < (ab2 37 x.toNat) ∧ (ab2 37 x.toNat) + y ≤ 200; omega) (by show ((((ab2 37 x.toNat) = 0 ∨ v 31 ≤ (ab2 37 x.toNat)) ∧ y = 0) ∨ (0 < (ab2 37 x.toNat) ∧ (ab2 37 x.toNat) < v 31 ∧ y = (v 31 - (ab2 37 x.toNat)) / 2)); omega) (hC1.go (by omega) rfl)
        refine m_if_eq (tgt := 32) C (r32_c (lo := 0) (hi := 200) ra1.1 ra1.2 (by decide) (by decide)) dX12_centre_16 (by decide) (fun c4 => ?_) (fun c4 => ?_)
        · refine m_iconst C dX12_centre_32 ?_
          refine m_goto (tgt := 49) C dX12_centre_33 (by decide) ?_
          refine m_lv (lv2 := [(2, .int (iI x)), (0, .ref h0), (1, .int (iI q))]) [0, 1, 2] rfl ?_
          exact J1  0 _ _  bxb1 fpb1 (by show 0 ≤ 0 ∧ (ab1 37 x.toNat) + 0 ≤ 200; omega) (by show ((((ab1 37 x.toNat) = 0 ∨ v 31 ≤ (ab1 37 x.toNat)) ∧ 0 = 0) ∨ (0 < (ab1 37 x.toNat) ∧ (ab1 37 x.toNat) < v 31 ∧ 0 = (v 31 - (ab1 37 x.toNat)) / 2)); omega) hC
        · refine m_aload_n (j := 1) C dX12_centre_19 rfl ?_
          refine m_geta (k := 37) C dX12_centre_20 w6_96 (by decide) rfl ?_
          refine m_iload_n (j := 0) C dX12_centre_23 rfl ?_
          refine m_ald (k := 37) C dX12_centre_24 rfl rfl (by decide) (by omega) (by show _ < ((_ : Nat) : Int); simp only [mlen]; omega) (by decide) ?_
          refine m_aload_n (j := 1) C dX12_centre_25 rfl ?_
          refine hv2 (show 1 ≤ vb1 31 ∧ vb1 31 ≤ 100 from bxb1.1 31) (show vb1 31 = v 31 from fpb1.1 31 rfl) (fun rv2 ve2 => ?_)
          refine m_get (k := 31) C dX12_centre_26 w6_90 (by decide) rfl ?_
          refine m_st (st2 := [.int (iI (v 31)), .int (iI (ab1 37 x.toNat))]) (congrArg (fun z => Value.int (iI z) :: [.int (iI (ab1 37 x.toNat))]) (fpb1.1 31 rfl)) ?_
          refine m_icmp_lt (tgt := 36) C (r32_c (lo := 0) (hi := 200) ra1.1 ra1.2 (by decide) (by decide)) (r32_c (lo := 1) (hi := 100) (Int.le_trans rv2.1 (Int.le_of_eq ve2)) (Int.le_trans (Int.le_of_eq ve2.symm) rv2.2) (by decide) (by decide)) dX12_centre_29 (by decide) (fun c5 => ?_) (fun c5 => ?_)
          · refine m_aload_n (j := 1) C dX12_centre_36 rfl ?_
            refine m_get (k := 31) C dX12_centre_37 w6_90 (by decide) rfl ?_
            refine m_st (st2 := [.int (iI (v 31))]) (congrArg (fun z => Value.int (iI z) :: []) (fpb1.1 31 rfl)) ?_
            refine m_aload_n (j := 1) C dX12_centre_40 rfl ?_
            refine m_geta (k := 37) C dX12_centre_41 w6_96 (by decide) rfl ?_
            refine m_iload_n (j := 0) C dX12_centre_44 rfl ?_
            refine m_ald (k := 37) C dX12_centre_45 rfl rfl (by decide) (by omega) (by show _ < ((_ : Nat) : Int); simp only [mlen]; omega) (by decide) ?_
            refine m_isub C dX12_centre_46 ?_
            refine m_iconst C dX12_centre_47 ?_
            obtain ⟨dq1, hdq1⟩ : ∃ q : Int, q = ((v 31) - (ab1 37 x.toNat)) / 2 := ⟨_, rfl⟩
            refine m_idiv (w := iI dq1) C dX12_centre_48 (iI_ne0 ⟨by omega, by omega⟩) (by rw [hdq1]; exact iI_div ⟨by omega, by omega⟩ ⟨by omega, by omega⟩) ?_
            refine m_lv (lv2 := [(2, .int (iI x)), (0, .ref h0), (1, .int (iI q))]) [0, 1, 2] rfl ?_
            exact J1  dq1 _ _  bxb1 fpb1 (by show 0 ≤ dq1 ∧ (ab1 37 x.toNat) + dq1 ≤ 200; omega) (by show ((((ab1 37 x.toNat) = 0 ∨ v 31 ≤ (ab1 37 x.toNat)) ∧ dq1 = 0) ∨ (0 < (ab1 37 x.toNat) ∧ (ab1 37 x.toNat) < v 31 ∧ dq1 = (v 31 - (ab1 37 x.toNat)) / 2)); omega) hC
          · refine m_iconst C dX12_centre_32 ?_
            refine m_goto (tgt := 49) C dX12_centre_33 (by decide) ?_
            refine m_lv (lv2 := [(2, .int (iI x)), (0, .ref h0), (1, .int (iI q))]) [0, 1, 2] rfl ?_
            exact J1  0 _ _  bxb1 fpb1 (by show 0 ≤ 0 ∧ (ab1 37 x.toNat) + 0 ≤ 200; omega) (by show ((((ab1 37 x.toNat) = 0 ∨ v 31 ≤ (ab1 37 x.toNat)) ∧ 0 = 0) ∨ (0 < (ab1 37 x.toNat) ∧ (ab1 37 x.toNat) < v 31 ∧ 0 = (v 31 - (ab1 37 x.toNat)) / 2)); omega) hC
  refine m_lv (lv2 := [(2, .int (iI q)), (0, .ref h0), (1, .int (iI q))]) [0, 1, 2] rfl ?_
  exact Lp1 202 q _ _ (by omega) hB fp0 (by omega) CN2.init
