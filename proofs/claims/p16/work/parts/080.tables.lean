theorem up2_le {a : Nat → Nat → Int} {k i : Nat} {z : Int} (h : z ≤ a k i) : ∀ j, up2 a k i z k j ≤ a k j := by
  intro j
  by_cases e : j = i
  · subst e; rw [up2_s]; exact h
  · rw [up2_j e]; exact Int.le_refl _
theorem up2_if {a : Nat → Nat → Int} {k i : Nat} {z : Int} : ∀ j, up2 a k i z k j = if j = i then z else a k j := by
  intro j
  by_cases e : j = i
  · subst e; rw [up2_s, if_pos rfl]
  · rw [up2_j e, if_neg e]
set_option maxHeartbeats 4000000 in
set_option maxRecDepth 100000 in
theorem M_step {l : Launch} {G : GT} {h0 : Nat} {ad ln : Nat → Nat} {v : Nat → Int} {a : Nat → Nat → Int} {x t y z : Int} (hB : BX v a) (hx : -2147483648 ≤ x ∧ x ≤ 2147483647) (ht : -2147483648 ≤ t ∧ t ≤ 2147483647) (hy : -2147483648 ≤ y ∧ y ≤ 2147483647) (hz : -2147483648 ≤ z ∧ z ≤ 2147483647) (h19 : 0 ≤ v 19 ∧ v 19 ≤ 2048) (hln : v 19 ≤ (ln 18 : Nat) ∧ 64 ≤ ln 18 ∧ ln 18 ≤ 8192) : Mn l G yX12_step cX12_step 7 none 0 [.int (iI x), .int (iI t), .int (iI y), .int (iI z)] h0 ad ln v a 1 4110 (fun r ln2 v2 a2 => r = none ∧ fr [19] [18, 70] v a v2 a2 ∧ BX v2 a2 ∧ (v2 19 = v 19 + 4 ∧ v2 19 ≤ (ln2 18 : Nat) ∧ (64 ≤ ln2 18 ∧ ln2 18 ≤ 8192) ∧ (∀ j : Nat, (j : Int) < v 19 → a2 18 j = a 18 j) ∧ a2 18 (v 19).toNat = x ∧ a2 18 (v 19 + 1).toNat = t ∧ a2 18 (v 19 + 2).toNat = y ∧ a2 18 (v 19 + 3).toNat = z)) := by
  refine Mn.mk (by decide) (Nat.le_of_ble_eq_true rfl) ?_
  intro p e s m args below meth c A C
  have fp0 : fr [19] [18, 70] v a v a := fr.refl
  refine m_aload_n (j := 0) C dX12_step_0 rfl ?_
  have rv1 : (-2147483648) ≤ v 19 ∧ v 19 ≤ 2147483647 := hB.1 19
  refine m_get (k := 19) C dX12_step_1 w6_78 (by decide) rfl ?_
  refine m_bipush (z := 8) C dX12_step_4 (by decide) ?_
  refine m_iadd C dX12_step_6 ?_
  refine m_aload_n (j := 0) C dX12_step_7 rfl ?_
  refine m_geta (k := 18) C dX12_step_8 w6_77 (by decide) rfl ?_
  refine m_alen18 C dX12_step_11 ?_
  refine m_icmp_le (tgt := 62) C ⟨by omega, by omega⟩ ⟨by omega, by omega⟩ dX12_step_12 (by decide) (fun c1 => ?_) (fun c1 => ?_)
  · refine m_aload_n (j := 0) C dX12_step_62 rfl ?_
    refine m_geta (k := 18) C dX12_step_63 w6_77 (by decide) rfl ?_
    refine m_aload_n (j := 0) C dX12_step_66 rfl ?_
    refine m_get (k := 19) C dX12_step_67 w6_78 (by decide) rfl ?_
    refine m_iload_n (j := 1) C dX12_step_70 rfl ?_
    refine m_ast18 (w := x) C dX12_step_71 (by omega) (by omega) (by omega) ?_
    refine hv2 (show BX v (up2 a 18 (v 19).toNat x) from hB.set (k := 18) (i := (v 19).toNat) (z := x) (show (-2147483648) ≤ x ∧ x ≤ 2147483647 by omega)) (fp0.set (k := 18) (i := (v 19).toNat) (z := x) rfl) (fun bq1 fq1 => ?_)
    refine m_aload_n (j := 0) C dX12_step_72 rfl ?_
    refine m_geta (k := 18) C dX12_step_73 w6_77 (by decide) rfl ?_
    refine m_aload_n (j := 0) C dX12_step_76 rfl ?_
    refine m_get (k := 19) C dX12_step_77 w6_78 (by decide) rfl ?_
    refine m_iconst C dX12_step_80 ?_
    refine m_iadd C dX12_step_81 ?_
    refine m_iload_n (j := 2) C dX12_step_82 rfl ?_
    refine m_ast18 (w := t) C dX12_step_83 (by omega) (by omega) (by omega) ?_
    refine hv2 (show BX v (up2 (up2 a 18 (v 19).toNat x) 18 ((v 19) + 1).toNat t) from bq1.set (k := 18) (i := ((v 19) + 1).toNat) (z := t) (show (-2147483648) ≤ t ∧ t ≤ 2147483647 by omega)) (fq1.set (k := 18) (i := ((v 19) + 1).toNat) (z := t) rfl) (fun bq2 fq2 => ?_)
    refine m_aload_n (j := 0) C dX12_step_84 rfl ?_
    refine m_geta (k := 18) C dX12_step_85 w6_77 (by decide) rfl ?_
    refine m_aload_n (j := 0) C dX12_step_88 rfl ?_
    refine m_get (k := 19) C dX12_step_89 w6_78 (by decide) rfl ?_
    refine m_iconst C dX12_step_92 ?_
    refine m_iadd C dX12_step_93 ?_
    refine m_iload_n (j := 3) C dX12_step_94 rfl ?_
    refine m_ast18 (w := y) C dX12_step_95 (by omega) (by omega) (by omega) ?_
    refine hv2 (show BX v (up2 (up2 (up2 a 18 (v 19).toNat x) 18 ((v 19) + 1).toNat t) 18 ((v 19) + 2).toNat y) from bq2.set (k := 18) (i := ((v 19) + 2).toNat) (z := y) (show (-2147483648) ≤ y ∧ y ≤ 2147483647 by omega)) (fq2.set (k := 18) (i := ((v 19) + 2).toNat) (z := y) rfl) (fun bq3 fq3 => ?_)
    refine m_aload_n (j := 0) C dX12_step_96 rfl ?_
    refine m_geta (k := 18) C dX12_step_97 w6_77 (by decide) rfl ?_
    refine m_aload_n (j := 0) C dX12_step_100 rfl ?_
    refine m_get (k := 19) C dX12_step_101 w6_78 (by decide) rfl ?_
    refine m_iconst C dX12_step_104 ?_
    refine m_iadd C dX12_step_105 ?_
    refine m_iload (j := 4) C dX12_step_106 rfl ?_
    refine m_ast18 (w := z) C dX12_step_108 (by omega) (by omega) (by omega) ?_
    refine hv2 (show BX v (up2 (up2 (up2 (up2 a 18 (v 19).toNat x) 18 ((v 19) + 1).toNat t) 18 ((v 19) + 2).toNat y) 18 ((v 19) + 3).toNat z) from bq3.set (k := 18) (i := ((v 19) + 3).toNat) (z := z) (show (-2147483648) ≤ z ∧ z ≤ 2147483647 by omega)) (fq3.set (k := 18) (i := ((v 19) + 3).toNat) (z := z) rfl) (fun bq4 fq4 => ?_)
    refine m_aload_n (j := 0) C dX12_step_109 rfl ?_
    refine m_dup C dX12_step_110 rfl ?_
    refine m_get (k := 19) C dX12_step_111 w6_78 (by decide) rfl ?_
    refine m_iconst C dX12_step_114 ?_
    refine m_iadd C dX12_step_115 ?_
    refine m_put (k := 19) (z := (v 19) + 4) C dX12_step_116 w6_78 (by decide) rfl rfl rfl ?_
    refine hv2 (show BX (va_up v 19 ((v 19) + 4)) (up2 (up2 (up2 (up2 a 18 (v 19).toNat x) 18 ((v 19) + 1).toNat t) 18 ((v 19) + 2).toNat y) 18 ((v 19) + 3).toNat z) from bq4.put (k := 19) (z := (v 19) + 4) (show (-2147483648) ≤ ((v 19) + 4) ∧ ((v 19) + 4) ≤ 2147483647 by omega)) (fq4.put (k := 19) (z := (v 19) + 4) rfl) (fun bq5 fq5 => ?_)
    exact n_vret C dX12_step_119 rfl (by omega) (by omega) ⟨rfl, fq5, bq5, (by exact ⟨va_up_self _ _ _, (by show v 19 + 4 ≤ ((ln 18 : Nat) : Int); omega), ⟨by omega, by omega⟩, (fun j hj => ((push4 (a := a) (n := v 19) (x := x) (t := t) (y := y) (z := z) (by omega)).1 j hj).trans ((fun j _ => rfl) j hj)), (push4 (a := a) (n := v 19) (x := x) (t := t) (y := y) (z := z) (by omega)).2.1, (push4 (a := a) (n := v 19) (x := x) (t := t) (y := y) (z := z) (by omega)).2.2.1, (push4 (a := a) (n := v 19) (x := x) (t := t) (y := y) (z := z) (by omega)).2.2.2.1, (push4 (a := a) (n := v 19) (x := x) (t := t) (y := y) (z := z) (by omega)).2.2.2.2⟩)⟩
  · refine m_iconst C dX12_step_15 ?_
    refine m_aload_n (j := 0) C dX12_step_16 rfl ?_
    refine m_geta (k := 18) C dX12_step_17 w6_77 (by decide) rfl ?_
    refine m_alen18 C dX12_step_20 ?_
    refine m_imul C dX12_step_21 ?_
    refine m_newI (z := 2 * ((ln 18 : Nat) : Int)) (nb := (2 * ln 18)) C dX12_step_22 w1_57 ⟨by omega, by omega⟩ (by omega) ⟨by dsimp only [rmq]; omega, by dsimp only [rmq]; omega⟩ hB (fun bb vw1 aw1 fnw1 bnw1 znw1 => ?_)
    have fqw1 := fp0.call fnw1 rfl rfl
    refine x_astore (lv2 := [(5, .ref bb), (0, .ref h0), (1, .int (iI x)), (2, .int (iI t)), (3, .int (iI y)), (4, .int (iI z))]) C dX12_step_24 (by decide) rfl ?_
    refine x_iconst C dX12_step_26 ?_
    refine x_istore (lv2 := [(6, .int (iI 0)), (5, .ref bb), (0, .ref h0), (1, .int (iI x)), (2, .int (iI t)), (3, .int (iI y)), (4, .int (iI z))]) C dX12_step_27 (by decide) rfl ?_
    have Lp1 : ∀ (nn : Nat) (k : Int) (vb1 : Nat → Int) (ab1 : Nat → Nat → Int), v 19 + 1 - k < (nn : Int) → BX vb1 ab1 → fr [19] [18, 70] v a vb1 ab1 → (0 ≤ k ∧ k ≤ v 19) → (vb1 19 = v 19) → (∀ j : Nat, ab1 18 j = a 18 j) → (∀ j : Nat, (j : Int) < k → ab1 70 j = a 18 j) → mx p l e (rmq 0 1 4110) s m args below meth c G A 7 (MQ below (Qm G A (fun rq Lq Eq => ∃ (adq lnq : Nat → Nat) (vq : Nat → Int) (aq : Nat → Nat → Int), mI G h0 adq lnq vq aq Lq Eq ∧ (fun r ln2 v2 a2 => r = none ∧ fr [19] [18, 70] v a v2 a2 ∧ BX v2 a2 ∧ (v2 19 = v 19 + 4 ∧ v2 19 ≤ (ln2 18 : Nat) ∧ (64 ≤ ln2 18 ∧ ln2 18 ≤ 8192) ∧ (∀ j : Nat, (j : Int) < v 19 → a2 18 j = a 18 j) ∧ a2 18 (v 19).toNat = x ∧ a2 18 (v 19 + 1).toNat = t ∧ a2 18 (v 19 + 2).toNat = y ∧ a2 18 (v 19 + 3).toNat = z)) rq lnq vq aq)) args s 1 4110 A) bb (2 * ln 18) false h0 ad ln vb1 ab1 (0 + 1) (0 + (2 * ln 18)) 29 [(6, .int (iI k)), (5, .ref bb), (0, .ref h0), (1, .int (iI x)), (2, .int (iI t)), (3, .int (iI y)), (4, .int (iI z))] [] := by
      intro nn
      induction nn with
      | zero =>
        intro k vb1 ab1 hm bxb1 fpb1 hk h19k h18 hc
        exact absurd hm (by omega)
      | succ nn ih1 =>
        intro k vb1 ab1 hm bxb1 fpb1 hk h19k h18 hc
        refine x_iload (j := 0) C dX12_step_29 rfl ?_
        refine x_aload_n (j := 2) C dX12_step_31 rfl ?_
        have rv2 : (-2147483648) ≤ vb1 19 ∧ vb1 19 ≤ 2147483647 := bxb1.1 19
        refine x_get (k := 19) C dX12_step_32 w6_78 (by decide) rfl ?_
        refine x_icmp_ge (tgt := 56) C ⟨by omega, by omega⟩ (r32_c (lo := (-2147483648)) (hi := 2147483647) rv2.1 rv2.2 (by decide) (by decide)) dX12_step_35 (by decide) (fun c2 => ?_) (fun c2 => ?_)
        · refine x_aload_n (j := 2) C dX12_step_56 rfl ?_
          refine x_aload (j := 1) C dX12_step_57 rfl ?_
          refine x_sw C dX12_step_59 w6_77 rfl ⟨by omega, by omega⟩ (fun ad ln a9 hl9 h189 hk9 => ?_)
          have fq9 : fr [19] [18, 70] v a vb1 a9 := ⟨fpb1.1, fun j hj => (hk9 j (fun e => by subst e; exact absurd hj (by decide))).trans (fpb1.2 j hj)⟩
          have bx9 : BX vb1 a9 := ⟨bxb1.1, fun k j => by
              by_cases e : k = 18
              · subst e; rw [h189]; exact bxb1.2 70 j
              · rw [hk9 k e]; exact bxb1.2 k j⟩
          have hc9 : ∀ j : Nat, (j : Int) < vb1 19 → a9 18 j = a 18 j := fun j hj => by rw [h189]; exact hc j (by omega)
          refine m_aload_n (j := 2) C dX12_step_62 rfl ?_
          refine m_geta (k := 18) C dX12_step_63 w6_77 (by decide) rfl ?_
          refine m_aload_n (j := 2) C dX12_step_66 rfl ?_
          refine m_get (k := 19) C dX12_step_67 w6_78 (by decide) rfl ?_
          refine m_iload_n (j := 3) C dX12_step_70 rfl ?_
          refine m_ast18 (w := x) C dX12_step_71 (by omega) (by omega) (by omega) ?_
          refine hv2 (show BX vb1 (up2 a9 18 (vb1 19).toNat x) from bx9.set (k := 18) (i := (vb1 19).toNat) (z := x) (show (-2147483648) ≤ x ∧ x ≤ 2147483647 by omega)) (fq9.set (k := 18) (i := (vb1 19).toNat) (z := x) rfl) (fun bq6 fq6 => ?_)
          refine m_aload_n (j := 2) C dX12_step_72 rfl ?_
          refine m_geta (k := 18) C dX12_step_73 w6_77 (by decide) rfl ?_
          refine m_aload_n (j := 2) C dX12_step_76 rfl ?_
          refine m_get (k := 19) C dX12_step_77 w6_78 (by decide) rfl ?_
          refine m_iconst C dX12_step_80 ?_
          refine m_iadd C dX12_step_81 ?_
          refine m_iload_n (j := 4) C dX12_step_82 rfl ?_
          refine m_ast18 (w := t) C dX12_step_83 (by omega) (by omega) (by omega) ?_
          refine hv2 (show BX vb1 (up2 (up2 a9 18 (vb1 19).toNat x) 18 ((vb1 19) + 1).toNat t) from bq6.set (k := 18) (i := ((vb1 19) + 1).toNat) (z := t) (show (-2147483648) ≤ t ∧ t ≤ 2147483647 by omega)) (fq6.set (k := 18) (i := ((vb1 19) + 1).toNat) (z := t) rfl) (fun bq7 fq7 => ?_)
          refine m_aload_n (j := 2) C dX12_step_84 rfl ?_
          refine m_geta (k := 18) C dX12_step_85 w6_77 (by decide) rfl ?_
          refine m_aload_n (j := 2) C dX12_step_88 rfl ?_
          refine m_get (k := 19) C dX12_step_89 w6_78 (by decide) rfl ?_
          refine m_iconst C dX12_step_92 ?_
          refine m_iadd C dX12_step_93 ?_
          refine m_iload_n (j := 5) C dX12_step_94 rfl ?_
          refine m_ast18 (w := y) C dX12_step_95 (by omega) (by omega) (by omega) ?_
          refine hv2 (show BX vb1 (up2 (up2 (up2 a9 18 (vb1 19).toNat x) 18 ((vb1 19) + 1).toNat t) 18 ((vb1 19) + 2).toNat y) from bq7.set (k := 18) (i := ((vb1 19) + 2).toNat) (z := y) (show (-2147483648) ≤ y ∧ y ≤ 2147483647 by omega)) (fq7.set (k := 18) (i := ((vb1 19) + 2).toNat) (z := y) rfl) (fun bq8 fq8 => ?_)
          refine m_aload_n (j := 2) C dX12_step_96 rfl ?_
          refine m_geta (k := 18) C dX12_step_97 w6_77 (by decide) rfl ?_
          refine m_aload_n (j := 2) C dX12_step_100 rfl ?_
          refine m_get (k := 19) C dX12_step_101 w6_78 (by decide) rfl ?_
          refine m_iconst C dX12_step_104 ?_
          refine m_iadd C dX12_step_105 ?_
          refine m_iload (j := 6) C dX12_step_106 rfl ?_
          refine m_ast18 (w := z) C dX12_step_108 (by omega) (by omega) (by omega) ?_
          refine hv2 (show BX vb1 (up2 (up2 (up2 (up2 a9 18 (vb1 19).toNat x) 18 ((vb1 19) + 1).toNat t) 18 ((vb1 19) + 2).toNat y) 18 ((vb1 19) + 3).toNat z) from bq8.set (k := 18) (i := ((vb1 19) + 3).toNat) (z := z) (show (-2147483648) ≤ z ∧ z ≤ 2147483647 by omega)) (fq8.set (k := 18) (i := ((vb1 19) + 3).toNat) (z := z) rfl) (fun bq9 fq9 => ?_)
          refine m_aload_n (j := 2) C dX12_step_109 rfl ?_
          refine m_dup C dX12_step_110 rfl ?_
          refine m_get (k := 19) C dX12_step_111 w6_78 (by decide) rfl ?_
          refine m_iconst C dX12_step_114 ?_
          refine m_iadd C dX12_step_115 ?_
          refine m_put (k := 19) (z := (vb1 19) + 4) C dX12_step_116 w6_78 (by decide) rfl rfl rfl ?_
          refine hv2 (show BX (va_up vb1 19 ((vb1 19) + 4)) (up2 (up2 (up2 (up2 a9 18 (vb1 19).toNat x) 18 ((vb1 19) + 1).toNat t) 18 ((vb1 19) + 2).toNat y) 18 ((vb1 19) + 3).toNat z) from bq9.put (k := 19) (z := (vb1 19) + 4) (show (-2147483648) ≤ ((vb1 19) + 4) ∧ ((vb1 19) + 4) ≤ 2147483647 by omega)) (fq9.put (k := 19) (z := (vb1 19) + 4) rfl) (fun bq10 fq10 => ?_)
          exact n_vret C dX12_step_119 rfl (by omega) (by omega) ⟨rfl, fq10, bq10, (by rw [← h19k]; exact ⟨va_up_self _ _ _, (by show vb1 19 + 4 ≤ ((ln 18 : Nat) : Int); omega), ⟨by omega, by omega⟩, (fun j hj => ((push4 (a := a9) (n := vb1 19) (x := x) (t := t) (y := y) (z := z) (by omega)).1 j hj).trans (hc9 j hj)), (push4 (a := a9) (n := vb1 19) (x := x) (t := t) (y := y) (z := z) (by omega)).2.1, (push4 (a := a9) (n := vb1 19) (x := x) (t := t) (y := y) (z := z) (by omega)).2.2.1, (push4 (a := a9) (n := vb1 19) (x := x) (t := t) (y := y) (z := z) (by omega)).2.2.2.1, (push4 (a := a9) (n := vb1 19) (x := x) (t := t) (y := y) (z := z) (by omega)).2.2.2.2⟩)⟩
        · refine x_aload (j := 1) C dX12_step_38 rfl ?_
          refine x_iload (j := 0) C dX12_step_40 rfl ?_
          refine x_aload_n (j := 2) C dX12_step_42 rfl ?_
          refine x_geta (k := 18) C dX12_step_43 w6_77 (by decide) rfl ?_
          refine x_iload (j := 0) C dX12_step_46 rfl ?_
          refine x_ald18 C dX12_step_48 (by omega) (by omega) (by omega) ?_
          have ra1 : (-2147483648) ≤ ab1 18 k.toNat ∧ ab1 18 k.toNat ≤ 2147483647 := bxb1.2 18 (k.toNat)
          refine x_last (w := ab1 18 k.toNat) C dX12_step_49 rfl (by omega) (by omega) (by omega) ?_
          refine hv2 (show BX vb1 (up2 ab1 70 k.toNat (ab1 18 k.toNat)) from bxb1.set (k := 70) (i := k.toNat) (z := ab1 18 k.toNat) (show (-2147483648) ≤ (ab1 18 k.toNat) ∧ (ab1 18 k.toNat) ≤ 2147483647 by omega)) (fpb1.set (k := 70) (i := k.toNat) (z := ab1 18 k.toNat) rfl) (fun bq11 fq11 => ?_)
          refine x_iinc (z := k) (j := 0) (lv2 := [(6, .int (iI (k + 1))), (5, .ref bb), (0, .ref h0), (1, .int (iI x)), (2, .int (iI t)), (3, .int (iI y)), (4, .int (iI z))]) C dX12_step_50 rfl (by decide) rfl ?_
          refine x_goto (tgt := 29) C dX12_step_53 (by decide) ?_
          refine x_lv (lv2 := [(6, .int (iI (k + 1))), (5, .ref bb), (0, .ref h0), (1, .int (iI x)), (2, .int (iI t)), (3, .int (iI y)), (4, .int (iI z))]) [0, 1, 2, 3, 4, 5, 6] rfl ?_
          exact ih1  (k + 1) _ _ (by omega) bq11 fq11 (by omega) (by show (vb1 19) = v 19; omega) (fun j => by rw [up2_k (by decide)]; exact h18 j) (fun j hj => by
              by_cases e : j = k.toNat
              · subst e; rw [up2_s]; exact h18 _
              · rw [up2_j e]; exact hc j (by omega))
    refine hv2 (show (-2147483648) ≤ vw1 19 ∧ vw1 19 ≤ 2147483647 from bnw1.1 19) (show vw1 19 = v 19 from fnw1.1 19 rfl) (fun rv3 ve1 => ?_)
    refine x_lv (lv2 := [(6, .int (iI 0)), (5, .ref bb), (0, .ref h0), (1, .int (iI x)), (2, .int (iI t)), (3, .int (iI y)), (4, .int (iI z))]) [0, 1, 2, 3, 4, 5, 6] rfl ?_
    exact Lp1 2050 0 _ _ (by omega) bnw1 fqw1 (by omega) (by show (vw1 19) = v 19; omega) (fun j => congrFun (fnw1.2 18 rfl) j) (fun j hj => absurd hj (by omega))
