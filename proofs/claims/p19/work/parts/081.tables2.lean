section
theorem NewT.fr {T : Nat} {a a2 a3 : Nat → Nat → Int} {v2 v3 : Nat → Int} {k b s : Int} {V A : List Nat} (h : NewT T a k b s a2) (f : fr V A v2 a2 v3 a3) (hA : ([6, 8, 9, 10] : List Nat).all (fun j => !A.contains j) = true) : NewT T a k b s a3 := by
  have g : ∀ j, j ∈ ([6, 8, 9, 10] : List Nat) → a3 j = a2 j := fun j hj => f.2 j (by have := List.all_eq_true.mp hA j hj; simpa using this)
  exact ⟨fun j => by rw [g 6 (by decide)]; exact h.1 j, fun j => by rw [g 8 (by decide)]; exact h.2.1 j, fun j => by rw [g 9 (by decide)]; exact h.2.2.1 j, fun j => by rw [g 10 (by decide)]; exact h.2.2.2 j⟩
theorem RUL.fr {a a2 a3 : Nat → Nat → Int} {v2 v3 : Nat → Int} {r m c : Int} {V A : List Nat} (h : RUL a r m c a2) (f : fr V A v2 a2 v3 a3) (hA : ([10, 12, 13] : List Nat).all (fun j => !A.contains j) = true) : RUL a r m c a3 := by
  have g : ∀ j, j ∈ ([10, 12, 13] : List Nat) → a3 j = a2 j := fun j hj => f.2 j (by have := List.all_eq_true.mp hA j hj; simpa using this)
  exact ⟨fun j => by rw [g 12 (by decide)]; exact h.1 j, fun j => by rw [g 13 (by decide)]; exact h.2.1 j, by rw [g 10 (by decide)]; exact h.2.2⟩
theorem NewT.mk {T : Nat} {a : Nat → Nat → Int} {k d b s : Int} : NewT T a k b s (up2 (up2 (up2 (up2 (up2 (up2 a 5 T 1) 6 T k) 7 T d) 8 T b) 9 T s) 10 T 0) := ⟨fun j => by simp [up2], fun j => by simp [up2], fun j => by simp [up2], fun j => by simp [up2]⟩
set_option maxHeartbeats 4000000 in
set_option maxRecDepth 100000 in
theorem M_newTable {l : Launch} {G : GT} {h0 : Nat} {ad ln : Nat → Nat} {v : Nat → Int} {a : Nat → Nat → Int} {k0 d0 b0 s0 : Int} (hB : BX v a) (hT : TBL v a) (hS : STK ln v a) (hk0 : ((k0 = 0 ∨ k0 = 4) ∧ b0 = -1) ∨ (1 ≤ k0 ∧ k0 ≤ 3 ∧ 0 ≤ b0 ∧ b0 < v 4 ∧ a 6 b0.toNat ≤ 3) ∨ (k0 = 5 ∧ 0 ≤ b0 ∧ b0 < v 4 ∧ a 6 b0.toNat ≤ 3 ∧ 0 ≤ s0 ∧ s0 < v 4 ∧ a 6 s0.toNat ≤ 3)) (hd0 : -2147483648 ≤ d0 ∧ d0 ≤ 2147483647) (hs0 : -1 ≤ s0 ∧ s0 ≤ 29) (h4 : v 4 < 30) (h19 : v 19 ≤ 2044) : Mn l G yX12_newTable cX12_newTable 7 (some .int) 1 [.int (iI k0), .int (iI d0), .int (iI b0), .int (iI s0)] h0 ad ln v a 1 4110 (fun r ln2 v2 a2 => ∃ f : Int, r = some (.int (iI f)) ∧ fr [4, 19] [5, 6, 7, 8, 9, 10, 16, 18, 70] v a v2 a2 ∧ BX v2 a2 ∧ ((f = v 4 ∧ v2 4 = v 4 + 1) ∧ TBL v2 a2 ∧ STK ln2 v2 a2 ∧ v2 19 ≤ v 19 + 4 ∧ (∀ j, j ≠ 16 → j ≠ 18 → j ≠ 70 → a2 j = NA a (v 4).toNat k0 d0 b0 s0 j) ∧ PSH v a v2 a2 0 (v 4) 0 0 ∧ FIL (a2 16) (a 16) (4 * v 4).toNat 4 4 (fun _ => 0))) := by
  refine Mn.mk (by decide) (Nat.le_of_ble_eq_true rfl) ?_
  intro p e s m args below meth c A C
  have h30 : 0 ≤ v 4 ∧ v 4 ≤ 30 := hB.1 4
  obtain ⟨n9, hn9, hk9⟩ := hS.2.2
  refine hv3 (hS.1) (hS.2.1) (show fr [4, 19] [5, 6, 7, 8, 9, 10, 16, 18, 70] v a v a from fr.refl) (fun hl1 hl2 fp0 => ?_)
  refine m_aload_n (j := 0) C dX12_newTable_0 rfl ?_
  have rv1 : 0 ≤ v 4 ∧ v 4 ≤ 30 := hB.1 4
  refine m_get (k := 4) C dX12_newTable_1 w6_63 (by decide) rfl ?_
  refine m_istore (lv2 := [(5, .int (iI (v 4))), (0, .ref h0), (1, .int (iI k0)), (2, .int (iI d0)), (3, .int (iI b0)), (4, .int (iI s0))]) C dX12_newTable_4 (by decide) rfl ?_
  refine m_aload_n (j := 1) C dX12_newTable_6 rfl ?_
  refine m_dup C dX12_newTable_7 rfl ?_
  refine m_get (k := 4) C dX12_newTable_8 w6_63 (by decide) rfl ?_
  refine m_iconst C dX12_newTable_11 ?_
  refine m_iadd C dX12_newTable_12 ?_
  refine m_put (k := 4) (z := (v 4) + 1) C dX12_newTable_13 w6_63 (by decide) rfl rfl rfl ?_
  refine hv3 (show BX (va_up v 4 ((v 4) + 1)) a from hB.put (k := 4) (z := (v 4) + 1) (show 0 ≤ ((v 4) + 1) ∧ ((v 4) + 1) ≤ 30 by omega)) (fp0.put (k := 4) (z := (v 4) + 1) rfl) (show KS v a (va_up v 4 ((v 4) + 1)) a from KS.put (⟨rfl, rfl⟩ : KS v a v a) (k := 4) (z := (v 4) + 1) (by decide)) (fun bq1 fq1 pw1 => ?_)
  refine m_aload_n (j := 1) C dX12_newTable_16 rfl ?_
  refine m_geta (k := 5) C dX12_newTable_17 w6_64 (by decide) rfl ?_
  refine m_iload (j := 0) C dX12_newTable_20 rfl ?_
  refine m_iconst C dX12_newTable_22 ?_
  refine m_zast (k := 5) (w := 1) C dX12_newTable_23 rfl rfl (by decide) (by omega) (by show _ < ((_ : Nat) : Int); simp only [mlen]; omega) (by decide) (by omega) ?_
  refine hv3 (show BX (va_up v 4 ((v 4) + 1)) (up2 a 5 (v 4).toNat 1) from bq1.set (k := 5) (i := (v 4).toNat) (z := 1) ⟨by decide, by decide⟩) (fq1.set (k := 5) (i := (v 4).toNat) (z := 1) rfl) (show KS v a (va_up v 4 ((v 4) + 1)) (up2 a 5 (v 4).toNat 1) from KS.set pw1 (k := 5) (i := (v 4).toNat) (z := 1) (by decide)) (fun bq2 fq2 pw2 => ?_)
  refine m_aload_n (j := 1) C dX12_newTable_24 rfl ?_
  refine m_geta (k := 6) C dX12_newTable_25 w6_65 (by decide) rfl ?_
  refine m_iload (j := 0) C dX12_newTable_28 rfl ?_
  refine m_iload_n (j := 2) C dX12_newTable_30 rfl ?_
  refine m_ast (k := 6) C dX12_newTable_31 rfl rfl (by decide) (by omega) (by show _ < ((_ : Nat) : Int); simp only [mlen]; omega) (by decide) ?_
  refine hv3 (show BX (va_up v 4 ((v 4) + 1)) (up2 (up2 a 5 (v 4).toNat 1) 6 (v 4).toNat k0) from bq2.set (k := 6) (i := (v 4).toNat) (z := k0) (show 0 ≤ k0 ∧ k0 ≤ 5 by omega)) (fq2.set (k := 6) (i := (v 4).toNat) (z := k0) rfl) (show KS v a (va_up v 4 ((v 4) + 1)) (up2 (up2 a 5 (v 4).toNat 1) 6 (v 4).toNat k0) from KS.set pw2 (k := 6) (i := (v 4).toNat) (z := k0) (by decide)) (fun bq3 fq3 pw3 => ?_)
  refine m_aload_n (j := 1) C dX12_newTable_32 rfl ?_
  refine m_geta (k := 7) C dX12_newTable_33 w6_66 (by decide) rfl ?_
  refine m_iload (j := 0) C dX12_newTable_36 rfl ?_
  refine m_iload_n (j := 3) C dX12_newTable_38 rfl ?_
  refine m_ast (k := 7) C dX12_newTable_39 rfl rfl (by decide) (by omega) (by show _ < ((_ : Nat) : Int); simp only [mlen]; omega) (by decide) ?_
  refine hv3 (show BX (va_up v 4 ((v 4) + 1)) (up2 (up2 (up2 a 5 (v 4).toNat 1) 6 (v 4).toNat k0) 7 (v 4).toNat d0) from bq3.set (k := 7) (i := (v 4).toNat) (z := d0) (show (-2147483648) ≤ d0 ∧ d0 ≤ 2147483647 by omega)) (fq3.set (k := 7) (i := (v 4).toNat) (z := d0) rfl) (show KS v a (va_up v 4 ((v 4) + 1)) (up2 (up2 (up2 a 5 (v 4).toNat 1) 6 (v 4).toNat k0) 7 (v 4).toNat d0) from KS.set pw3 (k := 7) (i := (v 4).toNat) (z := d0) (by decide)) (fun bq4 fq4 pw4 => ?_)
  refine m_aload_n (j := 1) C dX12_newTable_40 rfl ?_
  refine m_geta (k := 8) C dX12_newTable_41 w6_67 (by decide) rfl ?_
  refine m_iload (j := 0) C dX12_newTable_44 rfl ?_
  refine m_iload_n (j := 4) C dX12_newTable_46 rfl ?_
  refine m_ast (k := 8) C dX12_newTable_47 rfl rfl (by decide) (by omega) (by show _ < ((_ : Nat) : Int); simp only [mlen]; omega) (by decide) ?_
  refine hv3 (show BX (va_up v 4 ((v 4) + 1)) (up2 (up2 (up2 (up2 a 5 (v 4).toNat 1) 6 (v 4).toNat k0) 7 (v 4).toNat d0) 8 (v 4).toNat b0) from bq4.set (k := 8) (i := (v 4).toNat) (z := b0) (show (-1) ≤ b0 ∧ b0 ≤ 29 by omega)) (fq4.set (k := 8) (i := (v 4).toNat) (z := b0) rfl) (show KS v a (va_up v 4 ((v 4) + 1)) (up2 (up2 (up2 (up2 a 5 (v 4).toNat 1) 6 (v 4).toNat k0) 7 (v 4).toNat d0) 8 (v 4).toNat b0) from KS.set pw4 (k := 8) (i := (v 4).toNat) (z := b0) (by decide)) (fun bq5 fq5 pw5 => ?_)
  refine m_aload_n (j := 1) C dX12_newTable_48 rfl ?_
  refine m_geta (k := 9) C dX12_newTable_49 w6_68 (by decide) rfl ?_
  refine m_iload (j := 0) C dX12_newTable_52 rfl ?_
  refine m_iload (j := 5) C dX12_newTable_54 rfl ?_
  refine m_ast (k := 9) C dX12_newTable_56 rfl rfl (by decide) (by omega) (by show _ < ((_ : Nat) : Int); simp only [mlen]; omega) (by decide) ?_
  refine hv3 (show BX (va_up v 4 ((v 4) + 1)) (up2 (up2 (up2 (up2 (up2 a 5 (v 4).toNat 1) 6 (v 4).toNat k0) 7 (v 4).toNat d0) 8 (v 4).toNat b0) 9 (v 4).toNat s0) from bq5.set (k := 9) (i := (v 4).toNat) (z := s0) (show (-1) ≤ s0 ∧ s0 ≤ 29 by omega)) (fq5.set (k := 9) (i := (v 4).toNat) (z := s0) rfl) (show KS v a (va_up v 4 ((v 4) + 1)) (up2 (up2 (up2 (up2 (up2 a 5 (v 4).toNat 1) 6 (v 4).toNat k0) 7 (v 4).toNat d0) 8 (v 4).toNat b0) 9 (v 4).toNat s0) from KS.set pw5 (k := 9) (i := (v 4).toNat) (z := s0) (by decide)) (fun bq6 fq6 pw6 => ?_)
  refine m_aload_n (j := 1) C dX12_newTable_57 rfl ?_
  refine m_geta (k := 10) C dX12_newTable_58 w6_69 (by decide) rfl ?_
  refine m_iload (j := 0) C dX12_newTable_61 rfl ?_
  refine m_iconst C dX12_newTable_63 ?_
  refine m_ast (k := 10) C dX12_newTable_64 rfl rfl (by decide) (by omega) (by show _ < ((_ : Nat) : Int); simp only [mlen]; omega) (by decide) ?_
  refine hv4 (show BX (va_up v 4 ((v 4) + 1)) (up2 (up2 (up2 (up2 (up2 (up2 a 5 (v 4).toNat 1) 6 (v 4).toNat k0) 7 (v 4).toNat d0) 8 (v 4).toNat b0) 9 (v 4).toNat s0) 10 (v 4).toNat 0) from bq6.set (k := 10) (i := (v 4).toNat) (z := 0) ⟨by decide, by decide⟩) (fq6.set (k := 10) (i := (v 4).toNat) (z := 0) rfl) (show KS v a (va_up v 4 ((v 4) + 1)) (up2 (up2 (up2 (up2 (up2 (up2 a 5 (v 4).toNat 1) 6 (v 4).toNat k0) 7 (v 4).toNat d0) 8 (v 4).toNat b0) 9 (v 4).toNat s0) 10 (v 4).toNat 0) from KS.set pw6 (k := 10) (i := (v 4).toNat) (z := 0) (by decide)) (show NewT (v 4).toNat a k0 b0 s0 (up2 (up2 (up2 (up2 (up2 (up2 a 5 (v 4).toNat 1) 6 (v 4).toNat k0) 7 (v 4).toNat d0) 8 (v 4).toNat b0) 9 (v 4).toNat s0) 10 (v 4).toNat 0) from NewT.mk (d := d0)) (fun bq7 fq7 pw7 pw8 => ?_)
  refine m_iconst C dX12_newTable_65 ?_
  refine m_istore (lv2 := [(6, .int (iI 0)), (5, .int (iI (v 4))), (0, .ref h0), (1, .int (iI k0)), (2, .int (iI d0)), (3, .int (iI b0)), (4, .int (iI s0))]) C dX12_newTable_66 (by decide) rfl ?_
  have Lp1 : ∀ (nn : Nat) (k : Int) (vb1 : Nat → Int) (ab1 : Nat → Nat → Int), 5 - k < (nn : Int) → BX vb1 ab1 → fr [4, 19] [5, 6, 7, 8, 9, 10, 16, 18, 70] v a vb1 ab1 → (0 ≤ k ∧ k ≤ 4) → (KS v a vb1 ab1) → (NewT (v 4).toNat a k0 b0 s0 ab1) → (vb1 4 = v 4 + 1) → (∀ j, j ≠ 16 → ab1 j = NA a (v 4).toNat k0 d0 b0 s0 j) → (FIL (ab1 16) (a 16) (4 * v 4).toNat k.toNat 4 (fun _ => 0)) → mw p l e (rmq 1 1 4110) s m args below meth c G A 7 (MQ below (Qm G A (fun rq Lq Eq => ∃ (adq lnq : Nat → Nat) (vq : Nat → Int) (aq : Nat → Nat → Int), mI G h0 adq lnq vq aq Lq Eq ∧ (fun r ln2 v2 a2 => ∃ f : Int, r = some (.int (iI f)) ∧ fr [4, 19] [5, 6, 7, 8, 9, 10, 16, 18, 70] v a v2 a2 ∧ BX v2 a2 ∧ ((f = v 4 ∧ v2 4 = v 4 + 1) ∧ TBL v2 a2 ∧ STK ln2 v2 a2 ∧ v2 19 ≤ v 19 + 4 ∧ (∀ j, j ≠ 16 → j ≠ 18 → j ≠ 70 → a2 j = NA a (v 4).toNat k0 d0 b0 s0 j) ∧ PSH v a v2 a2 0 (v 4) 0 0 ∧ FIL (a2 16) (a 16) (4 * v 4).toNat 4 4 (fun _ => 0))) rq lnq vq aq)) args s 1 4110 A) h0 ad ln vb1 ab1 0 0 68 [(6, .int (iI k)), (5, .int (iI (v 4))), (0, .ref h0), (1, .int (iI k0)), (2, .int (iI d0)), (3, .int (iI b0)), (4, .int (iI s0))] [] := by
    intro nn
    induction nn with
    | zero =>
      intro k vb1 ab1 hm bxb1 fpb1 hk hKS hNW h41 hna h16
      exact absurd hm (by omega)
    | succ nn ih1 =>
      intro k vb1 ab1 hm bxb1 fpb1 hk hKS hNW h41 hna h16
      refine m_iload (j := 0) C dX12_newTable_68 rfl ?_
      refine m_iconst C dX12_newTable_70 ?_
      refine m_icmp_ge (tgt := 93) C (r32_c (lo := 0) (hi := 4) hk.1 hk.2 (by decide) (by decide)) ⟨by decide, by decide⟩ dX12_newTable_71 (by decide) (fun c1 => ?_) (fun c1 => ?_)
      · refine m_aload_n (j := 2) C dX12_newTable_93 rfl ?_
        refine m_iconst C dX12_newTable_94 ?_
        refine m_iload (j := 1) C dX12_newTable_95 rfl ?_
        refine m_iconst C dX12_newTable_97 ?_
        refine m_iconst C dX12_newTable_98 ?_
        refine hv3 (show (-2147483648) ≤ vb1 19 ∧ vb1 19 ≤ 2147483647 from bxb1.1 19) (show KS v a vb1 ab1 from hKS) (show vb1 19 = vb1 19 from rfl) (fun rv2 kq1 kq1s => ?_)
        have kq11 := kq1.1
        refine n_call (mc2 := 1) (ms2 := 4110) (As := [.int (iI 0), .int (iI (v 4)), .int (iI 0), .int (iI 0)]) (rest := []) C (M_step (x := 0) (t := v 4) (y := 0) (z := 0) bxb1 (by omega) (by omega) (by omega) (by omega) (by show 0 ≤ vb1 19 ∧ vb1 19 ≤ 2048; omega) (by show vb1 19 ≤ ((ln 18 : Nat) : Int) ∧ 64 ≤ ln 18 ∧ ln 18 ≤ 8192; omega)) dX12_newTable_99 kV_X12_182 rfl ck_13 rfl (Nat.le_of_ble_eq_true rfl) ⟨Nat.le_of_ble_eq_true rfl, Nat.le_of_ble_eq_true rfl⟩ ⟨Nat.le_of_ble_eq_true rfl, Nat.le_of_ble_eq_true rfl⟩ (fun rh1 ad ln vh1 ah1 h1 => ?_)
        obtain ⟨rfl, fn1, bn1, sx1_1, sx1_2, sx1_3, sx1_4, sx1_5, sx1_6, sx1_7, sx1_8⟩ := h1
        refine hv4 (fpb1.call fn1 rfl rfl) (show NewT (v 4).toNat a k0 b0 s0 ah1 from NewT.fr hNW fn1 rfl) (show 0 ≤ vh1 4 ∧ vh1 4 ≤ 30 from bn1.1 4) (show vh1 4 = vb1 4 from fn1.1 4 rfl) (fun fq8 pw9 rv3 ve1 => ?_)
        have ps1 : PSH v a vh1 ah1 0 (v 4) 0 0 := ⟨by have q := kq1.1; have q1 := sx1_1; omega, fun j hj => (sx1_4 j (by have q := kq1.1; omega)).trans (congrFun kq1.2 j), by rw [← kq1.1]; exact sx1_5, by rw [← kq1.1]; exact sx1_6, by rw [← kq1.1]; exact sx1_7, by rw [← kq1.1]; exact sx1_8⟩
        have pw10 : STK ln vh1 ah1 := STK.push (T0 := vh1 4 - 1) (R0 := ah1 10) (x := 0) (t := v 4) (y := 0) hS (by have q := kq1.1; have q1 := sx1_1; omega) sx1_2 sx1_3 (fun j hj => (sx1_4 j (by have q := kq1.1; omega)).trans (congrFun kq1.2 j)) (by rw [← kq1.1]; exact sx1_5) (by rw [← kq1.1]; exact sx1_6) (by rw [← kq1.1]; exact sx1_7) (Or.inl ⟨rfl, (by show 1 ≤ vh1 4; omega), rfl, rfl⟩) (by omega) (fun j hj => by have q := (pw9).2.2.2 j; rw [if_neg (by omega)] at q; exact q)
        have pw11 : TBL vh1 ah1 := TBL.new hT pw9 (by omega) (by omega) (fq8.2 12 rfl) (fq8.2 13 rfl) hk0
        refine m_st (st2 := []) rfl ?_
        refine m_iload (j := 1) C dX12_newTable_102 rfl ?_
        have rv4 : (-2147483648) ≤ vh1 19 ∧ vh1 19 ≤ 2147483647 := bn1.1 19
        exact n_iret C dX12_newTable_104 rfl (Nat.le_of_ble_eq_true rfl) (Nat.le_of_ble_eq_true rfl) ⟨(v 4), rfl, fq8, bn1, ⟨⟨(by omega), (by show vh1 4 = v 4 + 1; omega)⟩, pw11, pw10, (by show vh1 19 ≤ v 19 + 4; omega), (fun j h1 h2 h3 => (fn1.2 j (con2 h2 h3)).trans (hna j h1)), ps1, ((h16.n (show 4 = k.toNat by omega)).cg (fn1.2 16 rfl))⟩⟩
      · refine m_aload_n (j := 2) C dX12_newTable_74 rfl ?_
        refine m_geta (k := 16) C dX12_newTable_75 w6_75 (by decide) rfl ?_
        refine m_iconst C dX12_newTable_78 ?_
        refine m_iload (j := 1) C dX12_newTable_79 rfl ?_
        refine m_imul C dX12_newTable_81 ?_
        refine m_iload (j := 0) C dX12_newTable_82 rfl ?_
        refine m_iadd C dX12_newTable_84 ?_
        refine m_iconst C dX12_newTable_85 ?_
        refine m_ast (k := 16) C dX12_newTable_86 rfl rfl (by decide) (by omega) (by show _ < ((_ : Nat) : Int); simp only [mlen]; omega) (by decide) ?_
        refine hv4 (show BX vb1 (up2 ab1 16 ((4 * (v 4)) + k).toNat 0) from bxb1.set (k := 16) (i := ((4 * (v 4)) + k).toNat) (z := 0) ⟨by decide, by decide⟩) (fpb1.set (k := 16) (i := ((4 * (v 4)) + k).toNat) (z := 0) rfl) (show KS v a vb1 (up2 ab1 16 ((4 * (v 4)) + k).toNat 0) from KS.set hKS (k := 16) (i := ((4 * (v 4)) + k).toNat) (z := 0) (by decide)) (show NewT (v 4).toNat a k0 b0 s0 (up2 ab1 16 ((4 * (v 4)) + k).toNat 0) from NewT.set hNW (k := 16) (i := ((4 * (v 4)) + k).toNat) (z := 0) (by decide)) (fun bq8 fq9 pw12 pw13 => ?_)
        refine m_iinc (z := k) (j := 0) (lv2 := [(6, .int (iI (k + 1))), (5, .int (iI (v 4))), (0, .ref h0), (1, .int (iI k0)), (2, .int (iI d0)), (3, .int (iI b0)), (4, .int (iI s0))]) C dX12_newTable_87 rfl (by decide) rfl ?_
        refine m_goto (tgt := 68) C dX12_newTable_90 (by decide) ?_
        have rv5 : 0 ≤ vb1 4 ∧ vb1 4 ≤ 30 := bq8.1 4
        refine m_lv (lv2 := [(6, .int (iI (k + 1))), (5, .int (iI (v 4))), (0, .ref h0), (1, .int (iI k0)), (2, .int (iI d0)), (3, .int (iI b0)), (4, .int (iI s0))]) [0, 1, 2, 3, 4, 5, 6] rfl ?_
        exact ih1  (k + 1) _ _ (by omega) bq8 fq9 (by omega) pw12 pw13 (by show (vb1 4) = v 4 + 1; omega) (fun j hj => (funext fun _ => up2_k hj).trans (hna j hj)) (by rw [up2_va]; exact h16.step (by omega) rfl (by omega) (by omega))
  refine m_lv (lv2 := [(6, .int (iI 0)), (5, .int (iI (v 4))), (0, .ref h0), (1, .int (iI k0)), (2, .int (iI d0)), (3, .int (iI b0)), (4, .int (iI s0))]) [0, 1, 2, 3, 4, 5, 6] rfl ?_
  exact Lp1 6 0 _ _ (by omega) bq7 fq7 (by omega) pw7 pw8 (by show ((v 4) + 1) = v 4 + 1; omega) (fun _ _ => rfl) (FIL.zero (funext fun _ => by rw [up2_k (by decide), up2_k (by decide), up2_k (by decide), up2_k (by decide), up2_k (by decide), up2_k (by decide)]) rfl)
set_option maxHeartbeats 4000000 in
set_option maxRecDepth 100000 in
theorem M_table {l : Launch} {G : GT} {h0 : Nat} {ad ln : Nat → Nat} {v : Nat → Int} {a : Nat → Nat → Int} {k0 d0 b0 : Int} (hB : BX v a) (hT : TBL v a) (hS : STK ln v a) (hk0 : -2147483648 ≤ k0 ∧ k0 ≤ 2147483647) (hd0 : -2147483648 ≤ d0 ∧ d0 ≤ 2147483647) (hb0 : -2147483648 ≤ b0 ∧ b0 ≤ 2147483647) (h19 : v 19 ≤ 2044) : Mn l G yX12_table cX12_table 5 (some .int) 2 [.int (iI k0), .int (iI d0), .int (iI b0)] h0 ad ln v a 1 4110 (fun r ln2 v2 a2 => ∃ f : Int, r = some (.int (iI f)) ∧ fr [0, 1, 4, 19] [5, 6, 7, 8, 9, 10, 16, 18, 70] v a v2 a2 ∧ BX v2 a2 ∧ (TBL v2 a2 ∧ STK ln2 v2 a2 ∧ v2 19 ≤ v 19 + 4 ∧ ((f = -1 ∧ TSAME v a v2 a2 ∧ ¬ (0 ≤ k0 ∧ k0 ≤ 4 ∧ (d0 = 6 ∨ d0 = 8) ∧ v 4 ≠ 30 ∧ (k0 < 1 ∨ 3 < k0 ∨ (0 ≤ b0 ∧ b0 < v 4 ∧ a 5 b0.toNat = 1 ∧ a 6 b0.toNat ≤ 3)))) ∨ (f = v 4 ∧ (0 ≤ k0 ∧ k0 ≤ 4 ∧ (d0 = 6 ∨ d0 = 8) ∧ v 4 ≠ 30 ∧ (k0 < 1 ∨ 3 < k0 ∨ (0 ≤ b0 ∧ b0 < v 4 ∧ a 5 b0.toNat = 1 ∧ a 6 b0.toNat ≤ 3))) ∧ TNEW k0 d0 (if k0 < 1 ∨ 3 < k0 then -1 else b0) (-1) v a v2 a2)))) := by
  refine Mn.mk (by decide) (Nat.le_of_ble_eq_true rfl) ?_
  intro p e s m args below meth c A C
  have h30 : 0 ≤ v 4 ∧ v 4 ≤ 30 := hB.1 4
  obtain ⟨n9, hn9, hk9⟩ := hS.2.2
  refine hv3 (hS.1) (hS.2.1) (show fr [0, 1, 4, 19] [5, 6, 7, 8, 9, 10, 16, 18, 70] v a v a from fr.refl) (fun hl1 hl2 fp0 => ?_)
  refine m_iload_n (j := 1) C dX12_table_0 rfl ?_
  refine m_iconst C dX12_table_1 ?_
  refine m_iconst C dX12_table_2 ?_
  refine m_callS (As := [.int (iI k0), .int (iI 1), .int (iI 3)]) (rest := []) C (fun L E => s_isIn (iI k0) (iI 1) (iI 3)) dX12_table_3 kS_X12_174 rfl rfl (Nat.le_of_ble_eq_true rfl) ⟨Nat.le_of_ble_eq_true rfl, Nat.le_of_ble_eq_true rfl⟩ ⟨Nat.le_of_ble_eq_true rfl, Nat.le_of_ble_eq_true rfl⟩ ?_
  rcases inn_c (x := k0) (lo := 1) (hi := 3) ⟨by omega, by omega⟩ ⟨by decide, by decide⟩ ⟨by decide, by decide⟩ with ⟨h1a, h1b, h1e⟩ | ⟨h1a, h1e⟩
  · refine m_st (st2 := [.int (iI 1)]) (by rw [h1e]) ?_
    refine m_istore (lv2 := [(4, .int (iI 1)), (0, .ref h0), (1, .int (iI k0)), (2, .int (iI d0)), (3, .int (iI b0))]) C dX12_table_6 (by decide) rfl ?_
    refine m_iload_n (j := 2) C dX12_table_8 rfl ?_
    refine m_iconst C dX12_table_9 ?_
    refine m_iconst C dX12_table_10 ?_
    refine m_callS (As := [.int (iI k0), .int (iI 0), .int (iI 4)]) (rest := []) C (fun L E => s_isIn (iI k0) (iI 0) (iI 4)) dX12_table_11 kS_X12_174 rfl rfl (Nat.le_of_ble_eq_true rfl) ⟨Nat.le_of_ble_eq_true rfl, Nat.le_of_ble_eq_true rfl⟩ ⟨Nat.le_of_ble_eq_true rfl, Nat.le_of_ble_eq_true rfl⟩ ?_
    rcases inn_c (x := k0) (lo := 0) (hi := 4) ⟨by omega, by omega⟩ ⟨by decide, by decide⟩ ⟨by decide, by decide⟩ with ⟨h2a, h2b, h2e⟩ | ⟨h2a, h2e⟩
    · refine m_st (st2 := [.int (iI 1)]) (by rw [h2e]) ?_
      refine m_if_eq (tgt := 38) C ⟨by decide, by decide⟩ dX12_table_14 (by decide) (fun z => absurd z (by omega)) (fun _ => ?_)
      refine m_iload_n (j := 3) C dX12_table_17 rfl ?_
      refine m_bipush (z := 6) C dX12_table_18 (by decide) ?_
      refine m_icmp_eq (tgt := 29) C ⟨by omega, by omega⟩ ⟨by decide, by decide⟩ dX12_table_20 (by decide) (fun c1 => ?_) (fun c1 => ?_)
      · refine m_aload_n (j := 1) C dX12_table_29 rfl ?_
        have rv1 : 0 ≤ v 4 ∧ v 4 ≤ 30 := hB.1 4
        refine m_get (k := 4) C dX12_table_30 w6_63 (by decide) rfl ?_
        refine m_bipush (z := 30) C dX12_table_33 (by decide) ?_
        refine m_icmp_ne (tgt := 45) C (r32_c (lo := 0) (hi := 30) rv1.1 rv1.2 (by decide) (by decide)) ⟨by decide, by decide⟩ dX12_table_35 (by decide) (fun c2 => ?_) (fun c2 => ?_)
        · refine m_iload (j := 0) C dX12_table_45 rfl ?_
          refine m_if_eq (tgt := 64) C ⟨by decide, by decide⟩ dX12_table_47 (by decide) (fun z => absurd z (by omega)) (fun _ => ?_)
          refine m_aload_n (j := 1) C dX12_table_50 rfl ?_
          refine m_iload_n (j := 4) C dX12_table_51 rfl ?_
          refine m_call (mc2 := 0) (ms2 := 0) (As := [.int (iI b0)]) (rest := []) C (B_isTable (t := b0) hB (by show -2147483648 ≤ b0 ∧ b0 ≤ 2147483647; omega)) dX12_table_52 kV_X12_167 rfl ck_13 rfl (Nat.le_of_ble_eq_true rfl) ⟨Nat.le_of_ble_eq_true rfl, Nat.le_of_ble_eq_true rfl⟩ ⟨Nat.le_of_ble_eq_true rfl, Nat.le_of_ble_eq_true rfl⟩ (fun rh3 vh3 ah3 h3 => ?_)
          obtain ⟨f1, rfl, fn1, bn1, ex1⟩ := h3
          obtain ⟨rfl, rfl⟩ := fn1.eq
          refine hv2 (show (f1 = 0 ∧ (b0 < 0 ∨ (v 4) ≤ b0 ∨ a 5 b0.toNat = 0)) ∨ (f1 = 1 ∧ 0 ≤ b0 ∧ b0 < (v 4) ∧ a 5 b0.toNat = 1) from ex1) (show 0 ≤ a 5 b0.toNat ∧ a 5 b0.toNat ≤ 1 from hB.2 5 (b0.toNat)) (fun gf1 ra1 => ?_)
          refine m_st (st2 := [.int (iI f1)]) rfl ?_
          refine m_if_ne (tgt := 64) C (r32_pq gf1) dX12_table_55 (by decide) (fun c3 => ?_) (fun c3 => ?_)
          · replace gf1 := (gf1.resolve_left (fun q => c3 q.1))
            refine m_iload (j := 0) C dX12_table_64 rfl ?_
            refine m_if_eq (tgt := 85) C ⟨by decide, by decide⟩ dX12_table_66 (by decide) (fun z => absurd z (by omega)) (fun _ => ?_)
            refine m_aload_n (j := 1) C dX12_table_69 rfl ?_
            refine m_geta (k := 6) C dX12_table_70 w6_65 (by decide) rfl ?_
            refine m_iload_n (j := 4) C dX12_table_73 rfl ?_
            refine m_ald (k := 6) C dX12_table_74 rfl rfl (by decide) (by omega) (by show _ < ((_ : Nat) : Int); simp only [mlen]; omega) (by decide) ?_
            have ra2 : 0 ≤ a 6 b0.toNat ∧ a 6 b0.toNat ≤ 5 := hB.2 6 (b0.toNat)
            refine m_iconst C dX12_table_75 ?_
            refine m_icmp_le (tgt := 85) C (r32_c (lo := 0) (hi := 5) ra2.1 ra2.2 (by decide) (by decide)) ⟨by decide, by decide⟩ dX12_table_76 (by decide) (fun c4 => ?_) (fun c4 => ?_)
            · refine m_aload_n (j := 1) C dX12_table_85 rfl ?_
              refine m_aload_n (j := 1) C dX12_table_86 rfl ?_
              refine m_iload_n (j := 2) C dX12_table_87 rfl ?_
              refine m_iload_n (j := 3) C dX12_table_88 rfl ?_
              refine m_iload (j := 0) C dX12_table_89 rfl ?_
              refine m_if_eq (tgt := 98) C ⟨by decide, by decide⟩ dX12_table_91 (by decide) (fun z => absurd z (by omega)) (fun _ => ?_)
              refine m_iload_n (j := 4) C dX12_table_94 rfl ?_
              refine m_goto (tgt := 99) C dX12_table_95 (by decide) ?_
              refine m_iconst C dX12_table_99 ?_
              refine n_call (mc2 := 1) (ms2 := 4110) (As := [.int (iI k0), .int (iI d0), .int (iI b0), .int (iI (-1))]) (rest := [.ref h0]) C (M_newTable (k0 := k0) (d0 := d0) (b0 := b0) (s0 := (-1)) hB hT hS (by omega) (by omega) (by omega) (by omega) (by omega)) dX12_table_100 kV_X12_178 rfl ck_13 rfl (Nat.le_of_ble_eq_true rfl) ⟨Nat.le_of_ble_eq_true rfl, Nat.le_of_ble_eq_true rfl⟩ ⟨Nat.le_of_ble_eq_true rfl, Nat.le_of_ble_eq_true rfl⟩ (fun rh4 ad ln vh4 ah4 h4 => ?_)
              obtain ⟨f2, rfl, fn2, bn2, ⟨gf2a, gf2b⟩, pw1, pw2, gf2c, tnf2, psf2, nif2⟩ := h4
              have fq2 := fp0.call fn2 rfl rfl
              refine m_st (st2 := [.int (iI f2), .ref h0]) rfl ?_
              refine m_call (mc2 := 0) (ms2 := 0) (As := [.int (iI f2)]) (rest := []) C (B_fine (x := f2) bn2 (by show -2147483648 ≤ f2 ∧ f2 ≤ 2147483647; omega)) dX12_table_103 kV_X12_158 rfl ck_13 rfl (Nat.le_of_ble_eq_true rfl) ⟨Nat.le_of_ble_eq_true rfl, Nat.le_of_ble_eq_true rfl⟩ ⟨Nat.le_of_ble_eq_true rfl, Nat.le_of_ble_eq_true rfl⟩ (fun rh5 vh5 ah5 h5 => ?_)
              obtain ⟨f3, rfl, fn3, bn3, ex2⟩ := h5
              refine hv5 (fq2.call fn3 rfl rfl) (show TBL vh5 ah5 from TBL.fr pw1 fn3 rfl rfl) (show STK ln vh5 ah5 from STK.fr pw2 fn3 rfl rfl) (show PSH v a vh5 ah5 0 (v 4) 0 0 from PSH.fr psf2 fn3 rfl rfl) (show f3 = f2 from ex2) (fun fq3 pw3 pw4 pw5 gf3 => ?_)
              refine m_st (st2 := [.int (iI f3)]) rfl ?_
              refine hv4 (show (-2147483648) ≤ vh5 19 ∧ vh5 19 ≤ 2147483647 from bn3.1 19) (show vh5 19 = vh4 19 from fn3.1 19 rfl) (show 0 ≤ vh5 4 ∧ vh5 4 ≤ 30 from bn3.1 4) (show vh5 4 = vh4 4 from fn3.1 4 rfl) (fun rv2 ve1 rv3 ve2 => ?_)
              exact n_iret C dX12_table_106 rfl (Nat.le_of_ble_eq_true rfl) (Nat.le_of_ble_eq_true rfl) ⟨f3, rfl, fq3, bn3, ⟨pw3, pw4, (by show vh5 19 ≤ v 19 + 4; omega), Or.inr ⟨by omega, by omega, (by show vh5 4 = v 4 + 1; omega), ((fn3.2 5 rfl).trans ((tnf2 5 (by decide) (by decide) (by decide)).trans NA_5.1)), ((fn3.2 6 rfl).trans ((tnf2 6 (by decide) (by decide) (by decide)).trans NA_5.2.1)), ((fn3.2 7 rfl).trans ((tnf2 7 (by decide) (by decide) (by decide)).trans NA_5.2.2.1)), ((fn3.2 10 rfl).trans ((tnf2 10 (by decide) (by decide) (by decide)).trans NA_5.2.2.2.1)), pw5, (fq3.2 11 rfl), (by first | (rw [if_pos (by omega)]; exact ((fn3.2 8 rfl).trans ((tnf2 8 (by decide) (by decide) (by decide)).trans NA_5.2.2.2.2.1))) | (rw [if_neg (by omega)]; exact ((fn3.2 8 rfl).trans ((tnf2 8 (by decide) (by decide) (by decide)).trans NA_5.2.2.2.2.1)))), ((fn3.2 9 rfl).trans ((tnf2 9 (by decide) (by decide) (by decide)).trans NA_5.2.2.2.2.2.1)), (fq3.2 12 rfl), (fq3.2 13 rfl), (fq3.2 14 rfl), (fq3.2 15 rfl), (fq3.2 17 rfl), (nif2.cg (fn3.2 16 rfl))⟩⟩⟩
            · refine m_aload_n (j := 1) C dX12_table_79 rfl ?_
              refine m_iconst C dX12_table_80 ?_
              refine m_call (mc2 := 0) (ms2 := 0) (As := [.int (iI 4)]) (rest := []) C (B_bad (x := 4) hB (by show -2147483648 ≤ (4 : Int) ∧ (4 : Int) ≤ 2147483647; omega)) dX12_table_81 kV_X12_154 rfl ck_13 rfl (Nat.le_of_ble_eq_true rfl) ⟨Nat.le_of_ble_eq_true rfl, Nat.le_of_ble_eq_true rfl⟩ ⟨Nat.le_of_ble_eq_true rfl, Nat.le_of_ble_eq_true rfl⟩ (fun rh6 vh6 ah6 h6 => ?_)
              obtain ⟨f4, rfl, fn4, bn4, ex3⟩ := h6
              refine hv5 (fp0.call fn4 rfl rfl) (show KS v a vh6 ah6 from KS.fr (⟨rfl, rfl⟩ : KS v a v a) fn4 rfl rfl) (show TBL vh6 ah6 from TBL.fr hT fn4 rfl rfl) (show STK ln vh6 ah6 from STK.fr hS fn4 rfl rfl) (show f4 = -1 from ex3) (fun fq4 pw6 pw7 pw8 gf4 => ?_)
              refine m_st (st2 := [.int (iI f4)]) rfl ?_
              refine hv5 (show (-2147483648) ≤ vh6 19 ∧ vh6 19 ≤ 2147483647 from bn4.1 19) (show vh6 19 = v 19 from fn4.1 19 rfl) ((pw6).1) (show 0 ≤ vh6 4 ∧ vh6 4 ≤ 30 from bn4.1 4) (show vh6 4 = v 4 from fn4.1 4 rfl) (fun rv4 ve3 ksx1 rv5 ve4 => ?_)
              exact n_iret C dX12_table_84 rfl (Nat.le_of_ble_eq_true rfl) (Nat.le_of_ble_eq_true rfl) ⟨f4, rfl, fq4, bn4, ⟨pw7, pw8, (by show vh6 19 ≤ v 19 + 4; omega), Or.inl ⟨by omega, ⟨(by show vh6 4 = v 4; omega), (fn4.2 5 rfl), (fn4.2 6 rfl), (fn4.2 7 rfl), (fn4.2 10 rfl), (pw6).1, (pw6).2, (fq4.2 11 rfl), ⟨(fn4.2 8 rfl), (fn4.2 9 rfl), (fq4.2 12 rfl), (fq4.2 13 rfl), (fq4.2 14 rfl), (fq4.2 15 rfl), (fn4.2 16 rfl), (fq4.2 17 rfl)⟩⟩, by omega⟩⟩⟩
          · replace gf1 := (gf1.resolve_right (fun q => absurd (q.1.symm.trans c3) (by decide)))
            refine m_aload_n (j := 1) C dX12_table_58 rfl ?_
            refine m_iconst C dX12_table_59 ?_
            refine m_call (mc2 := 0) (ms2 := 0) (As := [.int (iI 3)]) (rest := []) C (B_bad (x := 3) hB (by show -2147483648 ≤ (3 : Int) ∧ (3 : Int) ≤ 2147483647; omega)) dX12_table_60 kV_X12_154 rfl ck_13 rfl (Nat.le_of_ble_eq_true rfl) ⟨Nat.le_of_ble_eq_true rfl, Nat.le_of_ble_eq_true rfl⟩ ⟨Nat.le_of_ble_eq_true rfl, Nat.le_of_ble_eq_true rfl⟩ (fun rh7 vh7 ah7 h7 => ?_)
            obtain ⟨f5, rfl, fn5, bn5, ex4⟩ := h7
            refine hv5 (fp0.call fn5 rfl rfl) (show KS v a vh7 ah7 from KS.fr (⟨rfl, rfl⟩ : KS v a v a) fn5 rfl rfl) (show TBL vh7 ah7 from TBL.fr hT fn5 rfl rfl) (show STK ln vh7 ah7 from STK.fr hS fn5 rfl rfl) (show f5 = -1 from ex4) (fun fq5 pw9 pw10 pw11 gf5 => ?_)
            refine m_st (st2 := [.int (iI f5)]) rfl ?_
            refine hv5 (show (-2147483648) ≤ vh7 19 ∧ vh7 19 ≤ 2147483647 from bn5.1 19) (show vh7 19 = v 19 from fn5.1 19 rfl) ((pw9).1) (show 0 ≤ vh7 4 ∧ vh7 4 ≤ 30 from bn5.1 4) (show vh7 4 = v 4 from fn5.1 4 rfl) (fun rv6 ve5 ksx2 rv7 ve6 => ?_)
            exact n_iret C dX12_table_63 rfl (Nat.le_of_ble_eq_true rfl) (Nat.le_of_ble_eq_true rfl) ⟨f5, rfl, fq5, bn5, ⟨pw10, pw11, (by show vh7 19 ≤ v 19 + 4; omega), Or.inl ⟨by omega, ⟨(by show vh7 4 = v 4; omega), (fn5.2 5 rfl), (fn5.2 6 rfl), (fn5.2 7 rfl), (fn5.2 10 rfl), (pw9).1, (pw9).2, (fq5.2 11 rfl), ⟨(fn5.2 8 rfl), (fn5.2 9 rfl), (fq5.2 12 rfl), (fq5.2 13 rfl), (fq5.2 14 rfl), (fq5.2 15 rfl), (fn5.2 16 rfl), (fq5.2 17 rfl)⟩⟩, by omega⟩⟩⟩
        · refine m_aload_n (j := 1) C dX12_table_38 rfl ?_
          refine m_bipush (z := 6) C dX12_table_39 (by decide) ?_
          refine m_call (mc2 := 0) (ms2 := 0) (As := [.int (iI 6)]) (rest := []) C (B_bad (x := 6) hB (by show -2147483648 ≤ (6 : Int) ∧ (6 : Int) ≤ 2147483647; omega)) dX12_table_41 kV_X12_154 rfl ck_13 rfl (Nat.le_of_ble_eq_true rfl) ⟨Nat.le_of_ble_eq_true rfl, Nat.le_of_ble_eq_true rfl⟩ ⟨Nat.le_of_ble_eq_true rfl, Nat.le_of_ble_eq_true rfl⟩ (fun rh8 vh8 ah8 h8 => ?_)
          obtain ⟨f6, rfl, fn6, bn6, ex5⟩ := h8
          refine hv5 (fp0.call fn6 rfl rfl) (show KS v a vh8 ah8 from KS.fr (⟨rfl, rfl⟩ : KS v a v a) fn6 rfl rfl) (show TBL vh8 ah8 from TBL.fr hT fn6 rfl rfl) (show STK ln vh8 ah8 from STK.fr hS fn6 rfl rfl) (show f6 = -1 from ex5) (fun fq6 pw12 pw13 pw14 gf6 => ?_)
          refine m_st (st2 := [.int (iI f6)]) rfl ?_
          refine hv5 (show (-2147483648) ≤ vh8 19 ∧ vh8 19 ≤ 2147483647 from bn6.1 19) (show vh8 19 = v 19 from fn6.1 19 rfl) ((pw12).1) (show 0 ≤ vh8 4 ∧ vh8 4 ≤ 30 from bn6.1 4) (show vh8 4 = v 4 from fn6.1 4 rfl) (fun rv8 ve7 ksx3 rv9 ve8 => ?_)
          exact n_iret C dX12_table_44 rfl (Nat.le_of_ble_eq_true rfl) (Nat.le_of_ble_eq_true rfl) ⟨f6, rfl, fq6, bn6, ⟨pw13, pw14, (by show vh8 19 ≤ v 19 + 4; omega), Or.inl ⟨by omega, ⟨(by show vh8 4 = v 4; omega), (fn6.2 5 rfl), (fn6.2 6 rfl), (fn6.2 7 rfl), (fn6.2 10 rfl), (pw12).1, (pw12).2, (fq6.2 11 rfl), ⟨(fn6.2 8 rfl), (fn6.2 9 rfl), (fq6.2 12 rfl), (fq6.2 13 rfl), (fq6.2 14 rfl), (fq6.2 15 rfl), (fn6.2 16 rfl), (fq6.2 17 rfl)⟩⟩, by omega⟩⟩⟩
      · refine m_iload_n (j := 3) C dX12_table_23 rfl ?_
        refine m_bipush (z := 8) C dX12_table_24 (by decide) ?_
        refine m_icmp_ne (tgt := 38) C ⟨by omega, by omega⟩ ⟨by decide, by decide⟩ dX12_table_26 (by decide) (fun c5 => ?_) (fun c5 => ?_)
        · refine m_aload_n (j := 1) C dX12_table_38 rfl ?_
          refine m_bipush (z := 6) C dX12_table_39 (by decide) ?_
          refine m_call (mc2 := 0) (ms2 := 0) (As := [.int (iI 6)]) (rest := []) C (B_bad (x := 6) hB (by show -2147483648 ≤ (6 : Int) ∧ (6 : Int) ≤ 2147483647; omega)) dX12_table_41 kV_X12_154 rfl ck_13 rfl (Nat.le_of_ble_eq_true rfl) ⟨Nat.le_of_ble_eq_true rfl, Nat.le_of_ble_eq_true rfl⟩ ⟨Nat.le_of_ble_eq_true rfl, Nat.le_of_ble_eq_true rfl⟩ (fun rh9 vh9 ah9 h9 => ?_)
          obtain ⟨f7, rfl, fn7, bn7, ex6⟩ := h9
          refine hv5 (fp0.call fn7 rfl rfl) (show KS v a vh9 ah9 from KS.fr (⟨rfl, rfl⟩ : KS v a v a) fn7 rfl rfl) (show TBL vh9 ah9 from TBL.fr hT fn7 rfl rfl) (show STK ln vh9 ah9 from STK.fr hS fn7 rfl rfl) (show f7 = -1 from ex6) (fun fq7 pw15 pw16 pw17 gf7 => ?_)
          refine m_st (st2 := [.int (iI f7)]) rfl ?_
          refine hv5 (show (-2147483648) ≤ vh9 19 ∧ vh9 19 ≤ 2147483647 from bn7.1 19) (show vh9 19 = v 19 from fn7.1 19 rfl) ((pw15).1) (show 0 ≤ vh9 4 ∧ vh9 4 ≤ 30 from bn7.1 4) (show vh9 4 = v 4 from fn7.1 4 rfl) (fun rv10 ve9 ksx4 rv11 ve10 => ?_)
          exact n_iret C dX12_table_44 rfl (Nat.le_of_ble_eq_true rfl) (Nat.le_of_ble_eq_true rfl) ⟨f7, rfl, fq7, bn7, ⟨pw16, pw17, (by show vh9 19 ≤ v 19 + 4; omega), Or.inl ⟨by omega, ⟨(by show vh9 4 = v 4; omega), (fn7.2 5 rfl), (fn7.2 6 rfl), (fn7.2 7 rfl), (fn7.2 10 rfl), (pw15).1, (pw15).2, (fq7.2 11 rfl), ⟨(fn7.2 8 rfl), (fn7.2 9 rfl), (fq7.2 12 rfl), (fq7.2 13 rfl), (fq7.2 14 rfl), (fq7.2 15 rfl), (fn7.2 16 rfl), (fq7.2 17 rfl)⟩⟩, by omega⟩⟩⟩
        · refine m_aload_n (j := 1) C dX12_table_29 rfl ?_
          have rv12 : 0 ≤ v 4 ∧ v 4 ≤ 30 := hB.1 4
          refine m_get (k := 4) C dX12_table_30 w6_63 (by decide) rfl ?_
          refine m_bipush (z := 30) C dX12_table_33 (by decide) ?_
          refine m_icmp_ne (tgt := 45) C (r32_c (lo := 0) (hi := 30) rv12.1 rv12.2 (by decide) (by decide)) ⟨by decide, by decide⟩ dX12_table_35 (by decide) (fun c6 => ?_) (fun c6 => ?_)
          · refine m_iload (j := 0) C dX12_table_45 rfl ?_
            refine m_if_eq (tgt := 64) C ⟨by decide, by decide⟩ dX12_table_47 (by decide) (fun z => absurd z (by omega)) (fun _ => ?_)
            refine m_aload_n (j := 1) C dX12_table_50 rfl ?_
            refine m_iload_n (j := 4) C dX12_table_51 rfl ?_
            refine m_call (mc2 := 0) (ms2 := 0) (As := [.int (iI b0)]) (rest := []) C (B_isTable (t := b0) hB (by show -2147483648 ≤ b0 ∧ b0 ≤ 2147483647; omega)) dX12_table_52 kV_X12_167 rfl ck_13 rfl (Nat.le_of_ble_eq_true rfl) ⟨Nat.le_of_ble_eq_true rfl, Nat.le_of_ble_eq_true rfl⟩ ⟨Nat.le_of_ble_eq_true rfl, Nat.le_of_ble_eq_true rfl⟩ (fun rh10 vh10 ah10 h10 => ?_)
            obtain ⟨f8, rfl, fn8, bn8, ex7⟩ := h10
            obtain ⟨rfl, rfl⟩ := fn8.eq
            refine hv2 (show (f8 = 0 ∧ (b0 < 0 ∨ (v 4) ≤ b0 ∨ a 5 b0.toNat = 0)) ∨ (f8 = 1 ∧ 0 ≤ b0 ∧ b0 < (v 4) ∧ a 5 b0.toNat = 1) from ex7) (show 0 ≤ a 5 b0.toNat ∧ a 5 b0.toNat ≤ 1 from hB.2 5 (b0.toNat)) (fun gf8 ra3 => ?_)
            refine m_st (st2 := [.int (iI f8)]) rfl ?_
            refine m_if_ne (tgt := 64) C (r32_pq gf8) dX12_table_55 (by decide) (fun c7 => ?_) (fun c7 => ?_)
            · replace gf8 := (gf8.resolve_left (fun q => c7 q.1))
              refine m_iload (j := 0) C dX12_table_64 rfl ?_
              refine m_if_eq (tgt := 85) C ⟨by decide, by decide⟩ dX12_table_66 (by decide) (fun z => absurd z (by omega)) (fun _ => ?_)
              refine m_aload_n (j := 1) C dX12_table_69 rfl ?_
              refine m_geta (k := 6) C dX12_table_70 w6_65 (by decide) rfl ?_
              refine m_iload_n (j := 4) C dX12_table_73 rfl ?_
              refine m_ald (k := 6) C dX12_table_74 rfl rfl (by decide) (by omega) (by show _ < ((_ : Nat) : Int); simp only [mlen]; omega) (by decide) ?_
              have ra4 : 0 ≤ a 6 b0.toNat ∧ a 6 b0.toNat ≤ 5 := hB.2 6 (b0.toNat)
              refine m_iconst C dX12_table_75 ?_
              refine m_icmp_le (tgt := 85) C (r32_c (lo := 0) (hi := 5) ra4.1 ra4.2 (by decide) (by decide)) ⟨by decide, by decide⟩ dX12_table_76 (by decide) (fun c8 => ?_) (fun c8 => ?_)
              · refine m_aload_n (j := 1) C dX12_table_85 rfl ?_
                refine m_aload_n (j := 1) C dX12_table_86 rfl ?_
                refine m_iload_n (j := 2) C dX12_table_87 rfl ?_
                refine m_iload_n (j := 3) C dX12_table_88 rfl ?_
                refine m_iload (j := 0) C dX12_table_89 rfl ?_
                refine m_if_eq (tgt := 98) C ⟨by decide, by decide⟩ dX12_table_91 (by decide) (fun z => absurd z (by omega)) (fun _ => ?_)
                refine m_iload_n (j := 4) C dX12_table_94 rfl ?_
                refine m_goto (tgt := 99) C dX12_table_95 (by decide) ?_
                refine m_iconst C dX12_table_99 ?_
                refine n_call (mc2 := 1) (ms2 := 4110) (As := [.int (iI k0), .int (iI d0), .int (iI b0), .int (iI (-1))]) (rest := [.ref h0]) C (M_newTable (k0 := k0) (d0 := d0) (b0 := b0) (s0 := (-1)) hB hT hS (by omega) (by omega) (by omega) (by omega) (by omega)) dX12_table_100 kV_X12_178 rfl ck_13 rfl (Nat.le_of_ble_eq_true rfl) ⟨Nat.le_of_ble_eq_true rfl, Nat.le_of_ble_eq_true rfl⟩ ⟨Nat.le_of_ble_eq_true rfl, Nat.le_of_ble_eq_true rfl⟩ (fun rh11 ad ln vh11 ah11 h11 => ?_)
                obtain ⟨f9, rfl, fn9, bn9, ⟨gf9a, gf9b⟩, pw18, pw19, gf9c, tnf9, psf9, nif9⟩ := h11
                have fq9 := fp0.call fn9 rfl rfl
                refine m_st (st2 := [.int (iI f9), .ref h0]) rfl ?_
                refine m_call (mc2 := 0) (ms2 := 0) (As := [.int (iI f9)]) (rest := []) C (B_fine (x := f9) bn9 (by show -2147483648 ≤ f9 ∧ f9 ≤ 2147483647; omega)) dX12_table_103 kV_X12_158 rfl ck_13 rfl (Nat.le_of_ble_eq_true rfl) ⟨Nat.le_of_ble_eq_true rfl, Nat.le_of_ble_eq_true rfl⟩ ⟨Nat.le_of_ble_eq_true rfl, Nat.le_of_ble_eq_true rfl⟩ (fun rh12 vh12 ah12 h12 => ?_)
                obtain ⟨f10, rfl, fn10, bn10, ex8⟩ := h12
                refine hv5 (fq9.call fn10 rfl rfl) (show TBL vh12 ah12 from TBL.fr pw18 fn10 rfl rfl) (show STK ln vh12 ah12 from STK.fr pw19 fn10 rfl rfl) (show PSH v a vh12 ah12 0 (v 4) 0 0 from PSH.fr psf9 fn10 rfl rfl) (show f10 = f9 from ex8) (fun fq10 pw20 pw21 pw22 gf10 => ?_)
                refine m_st (st2 := [.int (iI f10)]) rfl ?_
                refine hv4 (show (-2147483648) ≤ vh12 19 ∧ vh12 19 ≤ 2147483647 from bn10.1 19) (show vh12 19 = vh11 19 from fn10.1 19 rfl) (show 0 ≤ vh12 4 ∧ vh12 4 ≤ 30 from bn10.1 4) (show vh12 4 = vh11 4 from fn10.1 4 rfl) (fun rv13 ve11 rv14 ve12 => ?_)
                exact n_iret C dX12_table_106 rfl (Nat.le_of_ble_eq_true rfl) (Nat.le_of_ble_eq_true rfl) ⟨f10, rfl, fq10, bn10, ⟨pw20, pw21, (by show vh12 19 ≤ v 19 + 4; omega), Or.inr ⟨by omega, by omega, (by show vh12 4 = v 4 + 1; omega), ((fn10.2 5 rfl).trans ((tnf9 5 (by decide) (by decide) (by decide)).trans NA_5.1)), ((fn10.2 6 rfl).trans ((tnf9 6 (by decide) (by decide) (by decide)).trans NA_5.2.1)), ((fn10.2 7 rfl).trans ((tnf9 7 (by decide) (by decide) (by decide)).trans NA_5.2.2.1)), ((fn10.2 10 rfl).trans ((tnf9 10 (by decide) (by decide) (by decide)).trans NA_5.2.2.2.1)), pw22, (fq10.2 11 rfl), (by first | (rw [if_pos (by omega)]; exact ((fn10.2 8 rfl).trans ((tnf9 8 (by decide) (by decide) (by decide)).trans NA_5.2.2.2.2.1))) | (rw [if_neg (by omega)]; exact ((fn10.2 8 rfl).trans ((tnf9 8 (by decide) (by decide) (by decide)).trans NA_5.2.2.2.2.1)))), ((fn10.2 9 rfl).trans ((tnf9 9 (by decide) (by decide) (by decide)).trans NA_5.2.2.2.2.2.1)), (fq10.2 12 rfl), (fq10.2 13 rfl), (fq10.2 14 rfl), (fq10.2 15 rfl), (fq10.2 17 rfl), (nif9.cg (fn10.2 16 rfl))⟩⟩⟩
              · refine m_aload_n (j := 1) C dX12_table_79 rfl ?_
                refine m_iconst C dX12_table_80 ?_
                refine m_call (mc2 := 0) (ms2 := 0) (As := [.int (iI 4)]) (rest := []) C (B_bad (x := 4) hB (by show -2147483648 ≤ (4 : Int) ∧ (4 : Int) ≤ 2147483647; omega)) dX12_table_81 kV_X12_154 rfl ck_13 rfl (Nat.le_of_ble_eq_true rfl) ⟨Nat.le_of_ble_eq_true rfl, Nat.le_of_ble_eq_true rfl⟩ ⟨Nat.le_of_ble_eq_true rfl, Nat.le_of_ble_eq_true rfl⟩ (fun rh13 vh13 ah13 h13 => ?_)
                obtain ⟨f11, rfl, fn11, bn11, ex9⟩ := h13
                refine hv5 (fp0.call fn11 rfl rfl) (show KS v a vh13 ah13 from KS.fr (⟨rfl, rfl⟩ : KS v a v a) fn11 rfl rfl) (show TBL vh13 ah13 from TBL.fr hT fn11 rfl rfl) (show STK ln vh13 ah13 from STK.fr hS fn11 rfl rfl) (show f11 = -1 from ex9) (fun fq11 pw23 pw24 pw25 gf11 => ?_)
                refine m_st (st2 := [.int (iI f11)]) rfl ?_
                refine hv5 (show (-2147483648) ≤ vh13 19 ∧ vh13 19 ≤ 2147483647 from bn11.1 19) (show vh13 19 = v 19 from fn11.1 19 rfl) ((pw23).1) (show 0 ≤ vh13 4 ∧ vh13 4 ≤ 30 from bn11.1 4) (show vh13 4 = v 4 from fn11.1 4 rfl) (fun rv15 ve13 ksx5 rv16 ve14 => ?_)
                exact n_iret C dX12_table_84 rfl (Nat.le_of_ble_eq_true rfl) (Nat.le_of_ble_eq_true rfl) ⟨f11, rfl, fq11, bn11, ⟨pw24, pw25, (by show vh13 19 ≤ v 19 + 4; omega), Or.inl ⟨by omega, ⟨(by show vh13 4 = v 4; omega), (fn11.2 5 rfl), (fn11.2 6 rfl), (fn11.2 7 rfl), (fn11.2 10 rfl), (pw23).1, (pw23).2, (fq11.2 11 rfl), ⟨(fn11.2 8 rfl), (fn11.2 9 rfl), (fq11.2 12 rfl), (fq11.2 13 rfl), (fq11.2 14 rfl), (fq11.2 15 rfl), (fn11.2 16 rfl), (fq11.2 17 rfl)⟩⟩, by omega⟩⟩⟩
            · replace gf8 := (gf8.resolve_right (fun q => absurd (q.1.symm.trans c7) (by decide)))
              refine m_aload_n (j := 1) C dX12_table_58 rfl ?_
              refine m_iconst C dX12_table_59 ?_
              refine m_call (mc2 := 0) (ms2 := 0) (As := [.int (iI 3)]) (rest := []) C (B_bad (x := 3) hB (by show -2147483648 ≤ (3 : Int) ∧ (3 : Int) ≤ 2147483647; omega)) dX12_table_60 kV_X12_154 rfl ck_13 rfl (Nat.le_of_ble_eq_true rfl) ⟨Nat.le_of_ble_eq_true rfl, Nat.le_of_ble_eq_true rfl⟩ ⟨Nat.le_of_ble_eq_true rfl, Nat.le_of_ble_eq_true rfl⟩ (fun rh14 vh14 ah14 h14 => ?_)
              obtain ⟨f12, rfl, fn12, bn12, ex10⟩ := h14
              refine hv5 (fp0.call fn12 rfl rfl) (show KS v a vh14 ah14 from KS.fr (⟨rfl, rfl⟩ : KS v a v a) fn12 rfl rfl) (show TBL vh14 ah14 from TBL.fr hT fn12 rfl rfl) (show STK ln vh14 ah14 from STK.fr hS fn12 rfl rfl) (show f12 = -1 from ex10) (fun fq12 pw26 pw27 pw28 gf12 => ?_)
              refine m_st (st2 := [.int (iI f12)]) rfl ?_
              refine hv5 (show (-2147483648) ≤ vh14 19 ∧ vh14 19 ≤ 2147483647 from bn12.1 19) (show vh14 19 = v 19 from fn12.1 19 rfl) ((pw26).1) (show 0 ≤ vh14 4 ∧ vh14 4 ≤ 30 from bn12.1 4) (show vh14 4 = v 4 from fn12.1 4 rfl) (fun rv17 ve15 ksx6 rv18 ve16 => ?_)
              exact n_iret C dX12_table_63 rfl (Nat.le_of_ble_eq_true rfl) (Nat.le_of_ble_eq_true rfl) ⟨f12, rfl, fq12, bn12, ⟨pw27, pw28, (by show vh14 19 ≤ v 19 + 4; omega), Or.inl ⟨by omega, ⟨(by show vh14 4 = v 4; omega), (fn12.2 5 rfl), (fn12.2 6 rfl), (fn12.2 7 rfl), (fn12.2 10 rfl), (pw26).1, (pw26).2, (fq12.2 11 rfl), ⟨(fn12.2 8 rfl), (fn12.2 9 rfl), (fq12.2 12 rfl), (fq12.2 13 rfl), (fq12.2 14 rfl), (fq12.2 15 rfl), (fn12.2 16 rfl), (fq12.2 17 rfl)⟩⟩, by omega⟩⟩⟩
          · refine m_aload_n (j := 1) C dX12_table_38 rfl ?_
            refine m_bipush (z := 6) C dX12_table_39 (by decide) ?_
            refine m_call (mc2 := 0) (ms2 := 0) (As := [.int (iI 6)]) (rest := []) C (B_bad (x := 6) hB (by show -2147483648 ≤ (6 : Int) ∧ (6 : Int) ≤ 2147483647; omega)) dX12_table_41 kV_X12_154 rfl ck_13 rfl (Nat.le_of_ble_eq_true rfl) ⟨Nat.le_of_ble_eq_true rfl, Nat.le_of_ble_eq_true rfl⟩ ⟨Nat.le_of_ble_eq_true rfl, Nat.le_of_ble_eq_true rfl⟩ (fun rh15 vh15 ah15 h15 => ?_)
            obtain ⟨f13, rfl, fn13, bn13, ex11⟩ := h15
            refine hv5 (fp0.call fn13 rfl rfl) (show KS v a vh15 ah15 from KS.fr (⟨rfl, rfl⟩ : KS v a v a) fn13 rfl rfl) (show TBL vh15 ah15 from TBL.fr hT fn13 rfl rfl) (show STK ln vh15 ah15 from STK.fr hS fn13 rfl rfl) (show f13 = -1 from ex11) (fun fq13 pw29 pw30 pw31 gf13 => ?_)
            refine m_st (st2 := [.int (iI f13)]) rfl ?_
            refine hv5 (show (-2147483648) ≤ vh15 19 ∧ vh15 19 ≤ 2147483647 from bn13.1 19) (show vh15 19 = v 19 from fn13.1 19 rfl) ((pw29).1) (show 0 ≤ vh15 4 ∧ vh15 4 ≤ 30 from bn13.1 4) (show vh15 4 = v 4 from fn13.1 4 rfl) (fun rv19 ve17 ksx7 rv20 ve18 => ?_)
            exact n_iret C dX12_table_44 rfl (Nat.le_of_ble_eq_true rfl) (Nat.le_of_ble_eq_true rfl) ⟨f13, rfl, fq13, bn13, ⟨pw30, pw31, (by show vh15 19 ≤ v 19 + 4; omega), Or.inl ⟨by omega, ⟨(by show vh15 4 = v 4; omega), (fn13.2 5 rfl), (fn13.2 6 rfl), (fn13.2 7 rfl), (fn13.2 10 rfl), (pw29).1, (pw29).2, (fq13.2 11 rfl), ⟨(fn13.2 8 rfl), (fn13.2 9 rfl), (fq13.2 12 rfl), (fq13.2 13 rfl), (fq13.2 14 rfl), (fq13.2 15 rfl), (fn13.2 16 rfl), (fq13.2 17 rfl)⟩⟩, by omega⟩⟩⟩
    · refine m_st (st2 := [.int (iI 0)]) (by rw [h2e]) ?_
      refine m_if_eq (tgt := 38) C ⟨by decide, by decide⟩ dX12_table_14 (by decide) (fun _ => ?_) (fun z => absurd z (by omega))
      refine m_aload_n (j := 1) C dX12_table_38 rfl ?_
      refine m_bipush (z := 6) C dX12_table_39 (by decide) ?_
      refine m_call (mc2 := 0) (ms2 := 0) (As := [.int (iI 6)]) (rest := []) C (B_bad (x := 6) hB (by show -2147483648 ≤ (6 : Int) ∧ (6 : Int) ≤ 2147483647; omega)) dX12_table_41 kV_X12_154 rfl ck_13 rfl (Nat.le_of_ble_eq_true rfl) ⟨Nat.le_of_ble_eq_true rfl, Nat.le_of_ble_eq_true rfl⟩ ⟨Nat.le_of_ble_eq_true rfl, Nat.le_of_ble_eq_true rfl⟩ (fun rh16 vh16 ah16 h16 => ?_)
      obtain ⟨f14, rfl, fn14, bn14, ex12⟩ := h16
      refine hv5 (fp0.call fn14 rfl rfl) (show KS v a vh16 ah16 from KS.fr (⟨rfl, rfl⟩ : KS v a v a) fn14 rfl rfl) (show TBL vh16 ah16 from TBL.fr hT fn14 rfl rfl) (show STK ln vh16 ah16 from STK.fr hS fn14 rfl rfl) (show f14 = -1 from ex12) (fun fq14 pw32 pw33 pw34 gf14 => ?_)
      refine m_st (st2 := [.int (iI f14)]) rfl ?_
      refine hv5 (show (-2147483648) ≤ vh16 19 ∧ vh16 19 ≤ 2147483647 from bn14.1 19) (show vh16 19 = v 19 from fn14.1 19 rfl) ((pw32).1) (show 0 ≤ vh16 4 ∧ vh16 4 ≤ 30 from bn14.1 4) (show vh16 4 = v 4 from fn14.1 4 rfl) (fun rv21 ve19 ksx8 rv22 ve20 => ?_)
      exact n_iret C dX12_table_44 rfl (Nat.le_of_ble_eq_true rfl) (Nat.le_of_ble_eq_true rfl) ⟨f14, rfl, fq14, bn14, ⟨pw33, pw34, (by show vh16 19 ≤ v 19 + 4; omega), Or.inl ⟨by omega, ⟨(by show vh16 4 = v 4; omega), (fn14.2 5 rfl), (fn14.2 6 rfl), (fn14.2 7 rfl), (fn14.2 10 rfl), (pw32).1, (pw32).2, (fq14.2 11 rfl), ⟨(fn14.2 8 rfl), (fn14.2 9 rfl), (fq14.2 12 rfl), (fq14.2 13 rfl), (fq14.2 14 rfl), (fq14.2 15 rfl), (fn14.2 16 rfl), (fq14.2 17 rfl)⟩⟩, by omega⟩⟩⟩
  · refine m_st (st2 := [.int (iI 0)]) (by rw [h1e]) ?_
    refine m_istore (lv2 := [(4, .int (iI 0)), (0, .ref h0), (1, .int (iI k0)), (2, .int (iI d0)), (3, .int (iI b0))]) C dX12_table_6 (by decide) rfl ?_
    refine m_iload_n (j := 2) C dX12_table_8 rfl ?_
    refine m_iconst C dX12_table_9 ?_
    refine m_iconst C dX12_table_10 ?_
    refine m_callS (As := [.int (iI k0), .int (iI 0), .int (iI 4)]) (rest := []) C (fun L E => s_isIn (iI k0) (iI 0) (iI 4)) dX12_table_11 kS_X12_174 rfl rfl (Nat.le_of_ble_eq_true rfl) ⟨Nat.le_of_ble_eq_true rfl, Nat.le_of_ble_eq_true rfl⟩ ⟨Nat.le_of_ble_eq_true rfl, Nat.le_of_ble_eq_true rfl⟩ ?_
    rcases inn_c (x := k0) (lo := 0) (hi := 4) ⟨by omega, by omega⟩ ⟨by decide, by decide⟩ ⟨by decide, by decide⟩ with ⟨h17a, h17b, h17e⟩ | ⟨h17a, h17e⟩
    · refine m_st (st2 := [.int (iI 1)]) (by rw [h17e]) ?_
      refine m_if_eq (tgt := 38) C ⟨by decide, by decide⟩ dX12_table_14 (by decide) (fun z => absurd z (by omega)) (fun _ => ?_)
      refine m_iload_n (j := 3) C dX12_table_17 rfl ?_
      refine m_bipush (z := 6) C dX12_table_18 (by decide) ?_
      refine m_icmp_eq (tgt := 29) C ⟨by omega, by omega⟩ ⟨by decide, by decide⟩ dX12_table_20 (by decide) (fun c9 => ?_) (fun c9 => ?_)
      · refine m_aload_n (j := 1) C dX12_table_29 rfl ?_
        have rv23 : 0 ≤ v 4 ∧ v 4 ≤ 30 := hB.1 4
        refine m_get (k := 4) C dX12_table_30 w6_63 (by decide) rfl ?_
        refine m_bipush (z := 30) C dX12_table_33 (by decide) ?_
        refine m_icmp_ne (tgt := 45) C (r32_c (lo := 0) (hi := 30) rv23.1 rv23.2 (by decide) (by decide)) ⟨by decide, by decide⟩ dX12_table_35 (by decide) (fun c10 => ?_) (fun c10 => ?_)
        · refine m_iload (j := 0) C dX12_table_45 rfl ?_
          refine m_if_eq (tgt := 64) C ⟨by decide, by decide⟩ dX12_table_47 (by decide) (fun _ => ?_) (fun z => absurd z (by omega))
          refine m_iload (j := 0) C dX12_table_64 rfl ?_
          refine m_if_eq (tgt := 85) C ⟨by decide, by decide⟩ dX12_table_66 (by decide) (fun _ => ?_) (fun z => absurd z (by omega))
          refine m_aload_n (j := 1) C dX12_table_85 rfl ?_
          refine m_aload_n (j := 1) C dX12_table_86 rfl ?_
          refine m_iload_n (j := 2) C dX12_table_87 rfl ?_
          refine m_iload_n (j := 3) C dX12_table_88 rfl ?_
          refine m_iload (j := 0) C dX12_table_89 rfl ?_
          refine m_if_eq (tgt := 98) C ⟨by decide, by decide⟩ dX12_table_91 (by decide) (fun _ => ?_) (fun z => absurd z (by omega))
          refine m_iconst C dX12_table_98 ?_
          refine m_iconst C dX12_table_99 ?_
          refine n_call (mc2 := 1) (ms2 := 4110) (As := [.int (iI k0), .int (iI d0), .int (iI (-1)), .int (iI (-1))]) (rest := [.ref h0]) C (M_newTable (k0 := k0) (d0 := d0) (b0 := (-1)) (s0 := (-1)) hB hT hS (by omega) (by omega) (by omega) (by omega) (by omega)) dX12_table_100 kV_X12_178 rfl ck_13 rfl (Nat.le_of_ble_eq_true rfl) ⟨Nat.le_of_ble_eq_true rfl, Nat.le_of_ble_eq_true rfl⟩ ⟨Nat.le_of_ble_eq_true rfl, Nat.le_of_ble_eq_true rfl⟩ (fun rh18 ad ln vh18 ah18 h18 => ?_)
          obtain ⟨f15, rfl, fn15, bn15, ⟨gf15a, gf15b⟩, pw35, pw36, gf15c, tnf15, psf15, nif15⟩ := h18
          have fq15 := fp0.call fn15 rfl rfl
          refine m_st (st2 := [.int (iI f15), .ref h0]) rfl ?_
          refine m_call (mc2 := 0) (ms2 := 0) (As := [.int (iI f15)]) (rest := []) C (B_fine (x := f15) bn15 (by show -2147483648 ≤ f15 ∧ f15 ≤ 2147483647; omega)) dX12_table_103 kV_X12_158 rfl ck_13 rfl (Nat.le_of_ble_eq_true rfl) ⟨Nat.le_of_ble_eq_true rfl, Nat.le_of_ble_eq_true rfl⟩ ⟨Nat.le_of_ble_eq_true rfl, Nat.le_of_ble_eq_true rfl⟩ (fun rh19 vh19 ah19 h19 => ?_)
          obtain ⟨f16, rfl, fn16, bn16, ex13⟩ := h19
          refine hv5 (fq15.call fn16 rfl rfl) (show TBL vh19 ah19 from TBL.fr pw35 fn16 rfl rfl) (show STK ln vh19 ah19 from STK.fr pw36 fn16 rfl rfl) (show PSH v a vh19 ah19 0 (v 4) 0 0 from PSH.fr psf15 fn16 rfl rfl) (show f16 = f15 from ex13) (fun fq16 pw37 pw38 pw39 gf16 => ?_)
          refine m_st (st2 := [.int (iI f16)]) rfl ?_
          refine hv4 (show (-2147483648) ≤ vh19 19 ∧ vh19 19 ≤ 2147483647 from bn16.1 19) (show vh19 19 = vh18 19 from fn16.1 19 rfl) (show 0 ≤ vh19 4 ∧ vh19 4 ≤ 30 from bn16.1 4) (show vh19 4 = vh18 4 from fn16.1 4 rfl) (fun rv24 ve21 rv25 ve22 => ?_)
          exact n_iret C dX12_table_106 rfl (Nat.le_of_ble_eq_true rfl) (Nat.le_of_ble_eq_true rfl) ⟨f16, rfl, fq16, bn16, ⟨pw37, pw38, (by show vh19 19 ≤ v 19 + 4; omega), Or.inr ⟨by omega, by omega, (by show vh19 4 = v 4 + 1; omega), ((fn16.2 5 rfl).trans ((tnf15 5 (by decide) (by decide) (by decide)).trans NA_5.1)), ((fn16.2 6 rfl).trans ((tnf15 6 (by decide) (by decide) (by decide)).trans NA_5.2.1)), ((fn16.2 7 rfl).trans ((tnf15 7 (by decide) (by decide) (by decide)).trans NA_5.2.2.1)), ((fn16.2 10 rfl).trans ((tnf15 10 (by decide) (by decide) (by decide)).trans NA_5.2.2.2.1)), pw39, (fq16.2 11 rfl), (by first | (rw [if_pos (by omega)]; exact ((fn16.2 8 rfl).trans ((tnf15 8 (by decide) (by decide) (by decide)).trans NA_5.2.2.2.2.1))) | (rw [if_neg (by omega)]; exact ((fn16.2 8 rfl).trans ((tnf15 8 (by decide) (by decide) (by decide)).trans NA_5.2.2.2.2.1)))), ((fn16.2 9 rfl).trans ((tnf15 9 (by decide) (by decide) (by decide)).trans NA_5.2.2.2.2.2.1)), (fq16.2 12 rfl), (fq16.2 13 rfl), (fq16.2 14 rfl), (fq16.2 15 rfl), (fq16.2 17 rfl), (nif15.cg (fn16.2 16 rfl))⟩⟩⟩
        · refine m_aload_n (j := 1) C dX12_table_38 rfl ?_
          refine m_bipush (z := 6) C dX12_table_39 (by decide) ?_
          refine m_call (mc2 := 0) (ms2 := 0) (As := [.int (iI 6)]) (rest := []) C (B_bad (x := 6) hB (by show -2147483648 ≤ (6 : Int) ∧ (6 : Int) ≤ 2147483647; omega)) dX12_table_41 kV_X12_154 rfl ck_13 rfl (Nat.le_of_ble_eq_true rfl) ⟨Nat.le_of_ble_eq_true rfl, Nat.le_of_ble_eq_true rfl⟩ ⟨Nat.le_of_ble_eq_true rfl, Nat.le_of_ble_eq_true rfl⟩ (fun rh20 vh20 ah20 h20 => ?_)
          obtain ⟨f17, rfl, fn17, bn17, ex14⟩ := h20
          refine hv5 (fp0.call fn17 rfl rfl) (show KS v a vh20 ah20 from KS.fr (⟨rfl, rfl⟩ : KS v a v a) fn17 rfl rfl) (show TBL vh20 ah20 from TBL.fr hT fn17 rfl rfl) (show STK ln vh20 ah20 from STK.fr hS fn17 rfl rfl) (show f17 = -1 from ex14) (fun fq17 pw40 pw41 pw42 gf17 => ?_)
          refine m_st (st2 := [.int (iI f17)]) rfl ?_
          refine hv5 (show (-2147483648) ≤ vh20 19 ∧ vh20 19 ≤ 2147483647 from bn17.1 19) (show vh20 19 = v 19 from fn17.1 19 rfl) ((pw40).1) (show 0 ≤ vh20 4 ∧ vh20 4 ≤ 30 from bn17.1 4) (show vh20 4 = v 4 from fn17.1 4 rfl) (fun rv26 ve23 ksx9 rv27 ve24 => ?_)
          exact n_iret C dX12_table_44 rfl (Nat.le_of_ble_eq_true rfl) (Nat.le_of_ble_eq_true rfl) ⟨f17, rfl, fq17, bn17, ⟨pw41, pw42, (by show vh20 19 ≤ v 19 + 4; omega), Or.inl ⟨by omega, ⟨(by show vh20 4 = v 4; omega), (fn17.2 5 rfl), (fn17.2 6 rfl), (fn17.2 7 rfl), (fn17.2 10 rfl), (pw40).1, (pw40).2, (fq17.2 11 rfl), ⟨(fn17.2 8 rfl), (fn17.2 9 rfl), (fq17.2 12 rfl), (fq17.2 13 rfl), (fq17.2 14 rfl), (fq17.2 15 rfl), (fn17.2 16 rfl), (fq17.2 17 rfl)⟩⟩, by omega⟩⟩⟩
      · refine m_iload_n (j := 3) C dX12_table_23 rfl ?_
        refine m_bipush (z := 8) C dX12_table_24 (by decide) ?_
        refine m_icmp_ne (tgt := 38) C ⟨by omega, by omega⟩ ⟨by decide, by decide⟩ dX12_table_26 (by decide) (fun c11 => ?_) (fun c11 => ?_)
        · refine m_aload_n (j := 1) C dX12_table_38 rfl ?_
          refine m_bipush (z := 6) C dX12_table_39 (by decide) ?_
          refine m_call (mc2 := 0) (ms2 := 0) (As := [.int (iI 6)]) (rest := []) C (B_bad (x := 6) hB (by show -2147483648 ≤ (6 : Int) ∧ (6 : Int) ≤ 2147483647; omega)) dX12_table_41 kV_X12_154 rfl ck_13 rfl (Nat.le_of_ble_eq_true rfl) ⟨Nat.le_of_ble_eq_true rfl, Nat.le_of_ble_eq_true rfl⟩ ⟨Nat.le_of_ble_eq_true rfl, Nat.le_of_ble_eq_true rfl⟩ (fun rh21 vh21 ah21 h21 => ?_)
          obtain ⟨f18, rfl, fn18, bn18, ex15⟩ := h21
          refine hv5 (fp0.call fn18 rfl rfl) (show KS v a vh21 ah21 from KS.fr (⟨rfl, rfl⟩ : KS v a v a) fn18 rfl rfl) (show TBL vh21 ah21 from TBL.fr hT fn18 rfl rfl) (show STK ln vh21 ah21 from STK.fr hS fn18 rfl rfl) (show f18 = -1 from ex15) (fun fq18 pw43 pw44 pw45 gf18 => ?_)
          refine m_st (st2 := [.int (iI f18)]) rfl ?_
          refine hv5 (show (-2147483648) ≤ vh21 19 ∧ vh21 19 ≤ 2147483647 from bn18.1 19) (show vh21 19 = v 19 from fn18.1 19 rfl) ((pw43).1) (show 0 ≤ vh21 4 ∧ vh21 4 ≤ 30 from bn18.1 4) (show vh21 4 = v 4 from fn18.1 4 rfl) (fun rv28 ve25 ksx10 rv29 ve26 => ?_)
          exact n_iret C dX12_table_44 rfl (Nat.le_of_ble_eq_true rfl) (Nat.le_of_ble_eq_true rfl) ⟨f18, rfl, fq18, bn18, ⟨pw44, pw45, (by show vh21 19 ≤ v 19 + 4; omega), Or.inl ⟨by omega, ⟨(by show vh21 4 = v 4; omega), (fn18.2 5 rfl), (fn18.2 6 rfl), (fn18.2 7 rfl), (fn18.2 10 rfl), (pw43).1, (pw43).2, (fq18.2 11 rfl), ⟨(fn18.2 8 rfl), (fn18.2 9 rfl), (fq18.2 12 rfl), (fq18.2 13 rfl), (fq18.2 14 rfl), (fq18.2 15 rfl), (fn18.2 16 rfl), (fq18.2 17 rfl)⟩⟩, by omega⟩⟩⟩
        · refine m_aload_n (j := 1) C dX12_table_29 rfl ?_
          have rv30 : 0 ≤ v 4 ∧ v 4 ≤ 30 := hB.1 4
          refine m_get (k := 4) C dX12_table_30 w6_63 (by decide) rfl ?_
          refine m_bipush (z := 30) C dX12_table_33 (by decide) ?_
          refine m_icmp_ne (tgt := 45) C (r32_c (lo := 0) (hi := 30) rv30.1 rv30.2 (by decide) (by decide)) ⟨by decide, by decide⟩ dX12_table_35 (by decide) (fun c12 => ?_) (fun c12 => ?_)
          · refine m_iload (j := 0) C dX12_table_45 rfl ?_
            refine m_if_eq (tgt := 64) C ⟨by decide, by decide⟩ dX12_table_47 (by decide) (fun _ => ?_) (fun z => absurd z (by omega))
            refine m_iload (j := 0) C dX12_table_64 rfl ?_
            refine m_if_eq (tgt := 85) C ⟨by decide, by decide⟩ dX12_table_66 (by decide) (fun _ => ?_) (fun z => absurd z (by omega))
            refine m_aload_n (j := 1) C dX12_table_85 rfl ?_
            refine m_aload_n (j := 1) C dX12_table_86 rfl ?_
            refine m_iload_n (j := 2) C dX12_table_87 rfl ?_
            refine m_iload_n (j := 3) C dX12_table_88 rfl ?_
            refine m_iload (j := 0) C dX12_table_89 rfl ?_
            refine m_if_eq (tgt := 98) C ⟨by decide, by decide⟩ dX12_table_91 (by decide) (fun _ => ?_) (fun z => absurd z (by omega))
            refine m_iconst C dX12_table_98 ?_
            refine m_iconst C dX12_table_99 ?_
            refine n_call (mc2 := 1) (ms2 := 4110) (As := [.int (iI k0), .int (iI d0), .int (iI (-1)), .int (iI (-1))]) (rest := [.ref h0]) C (M_newTable (k0 := k0) (d0 := d0) (b0 := (-1)) (s0 := (-1)) hB hT hS (by omega) (by omega) (by omega) (by omega) (by omega)) dX12_table_100 kV_X12_178 rfl ck_13 rfl (Nat.le_of_ble_eq_true rfl) ⟨Nat.le_of_ble_eq_true rfl, Nat.le_of_ble_eq_true rfl⟩ ⟨Nat.le_of_ble_eq_true rfl, Nat.le_of_ble_eq_true rfl⟩ (fun rh22 ad ln vh22 ah22 h22 => ?_)
            obtain ⟨f19, rfl, fn19, bn19, ⟨gf19a, gf19b⟩, pw46, pw47, gf19c, tnf19, psf19, nif19⟩ := h22
            have fq19 := fp0.call fn19 rfl rfl
            refine m_st (st2 := [.int (iI f19), .ref h0]) rfl ?_
            refine m_call (mc2 := 0) (ms2 := 0) (As := [.int (iI f19)]) (rest := []) C (B_fine (x := f19) bn19 (by show -2147483648 ≤ f19 ∧ f19 ≤ 2147483647; omega)) dX12_table_103 kV_X12_158 rfl ck_13 rfl (Nat.le_of_ble_eq_true rfl) ⟨Nat.le_of_ble_eq_true rfl, Nat.le_of_ble_eq_true rfl⟩ ⟨Nat.le_of_ble_eq_true rfl, Nat.le_of_ble_eq_true rfl⟩ (fun rh23 vh23 ah23 h23 => ?_)
            obtain ⟨f20, rfl, fn20, bn20, ex16⟩ := h23
            refine hv5 (fq19.call fn20 rfl rfl) (show TBL vh23 ah23 from TBL.fr pw46 fn20 rfl rfl) (show STK ln vh23 ah23 from STK.fr pw47 fn20 rfl rfl) (show PSH v a vh23 ah23 0 (v 4) 0 0 from PSH.fr psf19 fn20 rfl rfl) (show f20 = f19 from ex16) (fun fq20 pw48 pw49 pw50 gf20 => ?_)
            refine m_st (st2 := [.int (iI f20)]) rfl ?_
            refine hv4 (show (-2147483648) ≤ vh23 19 ∧ vh23 19 ≤ 2147483647 from bn20.1 19) (show vh23 19 = vh22 19 from fn20.1 19 rfl) (show 0 ≤ vh23 4 ∧ vh23 4 ≤ 30 from bn20.1 4) (show vh23 4 = vh22 4 from fn20.1 4 rfl) (fun rv31 ve27 rv32 ve28 => ?_)
            exact n_iret C dX12_table_106 rfl (Nat.le_of_ble_eq_true rfl) (Nat.le_of_ble_eq_true rfl) ⟨f20, rfl, fq20, bn20, ⟨pw48, pw49, (by show vh23 19 ≤ v 19 + 4; omega), Or.inr ⟨by omega, by omega, (by show vh23 4 = v 4 + 1; omega), ((fn20.2 5 rfl).trans ((tnf19 5 (by decide) (by decide) (by decide)).trans NA_5.1)), ((fn20.2 6 rfl).trans ((tnf19 6 (by decide) (by decide) (by decide)).trans NA_5.2.1)), ((fn20.2 7 rfl).trans ((tnf19 7 (by decide) (by decide) (by decide)).trans NA_5.2.2.1)), ((fn20.2 10 rfl).trans ((tnf19 10 (by decide) (by decide) (by decide)).trans NA_5.2.2.2.1)), pw50, (fq20.2 11 rfl), (by first | (rw [if_pos (by omega)]; exact ((fn20.2 8 rfl).trans ((tnf19 8 (by decide) (by decide) (by decide)).trans NA_5.2.2.2.2.1))) | (rw [if_neg (by omega)]; exact ((fn20.2 8 rfl).trans ((tnf19 8 (by decide) (by decide) (by decide)).trans NA_5.2.2.2.2.1)))), ((fn20.2 9 rfl).trans ((tnf19 9 (by decide) (by decide) (by decide)).trans NA_5.2.2.2.2.2.1)), (fq20.2 12 rfl), (fq20.2 13 rfl), (fq20.2 14 rfl), (fq20.2 15 rfl), (fq20.2 17 rfl), (nif19.cg (fn20.2 16 rfl))⟩⟩⟩
          · refine m_aload_n (j := 1) C dX12_table_38 rfl ?_
            refine m_bipush (z := 6) C dX12_table_39 (by decide) ?_
            refine m_call (mc2 := 0) (ms2 := 0) (As := [.int (iI 6)]) (rest := []) C (B_bad (x := 6) hB (by show -2147483648 ≤ (6 : Int) ∧ (6 : Int) ≤ 2147483647; omega)) dX12_table_41 kV_X12_154 rfl ck_13 rfl (Nat.le_of_ble_eq_true rfl) ⟨Nat.le_of_ble_eq_true rfl, Nat.le_of_ble_eq_true rfl⟩ ⟨Nat.le_of_ble_eq_true rfl, Nat.le_of_ble_eq_true rfl⟩ (fun rh24 vh24 ah24 h24 => ?_)
            obtain ⟨f21, rfl, fn21, bn21, ex17⟩ := h24
            refine hv5 (fp0.call fn21 rfl rfl) (show KS v a vh24 ah24 from KS.fr (⟨rfl, rfl⟩ : KS v a v a) fn21 rfl rfl) (show TBL vh24 ah24 from TBL.fr hT fn21 rfl rfl) (show STK ln vh24 ah24 from STK.fr hS fn21 rfl rfl) (show f21 = -1 from ex17) (fun fq21 pw51 pw52 pw53 gf21 => ?_)
            refine m_st (st2 := [.int (iI f21)]) rfl ?_
            refine hv5 (show (-2147483648) ≤ vh24 19 ∧ vh24 19 ≤ 2147483647 from bn21.1 19) (show vh24 19 = v 19 from fn21.1 19 rfl) ((pw51).1) (show 0 ≤ vh24 4 ∧ vh24 4 ≤ 30 from bn21.1 4) (show vh24 4 = v 4 from fn21.1 4 rfl) (fun rv33 ve29 ksx11 rv34 ve30 => ?_)
            exact n_iret C dX12_table_44 rfl (Nat.le_of_ble_eq_true rfl) (Nat.le_of_ble_eq_true rfl) ⟨f21, rfl, fq21, bn21, ⟨pw52, pw53, (by show vh24 19 ≤ v 19 + 4; omega), Or.inl ⟨by omega, ⟨(by show vh24 4 = v 4; omega), (fn21.2 5 rfl), (fn21.2 6 rfl), (fn21.2 7 rfl), (fn21.2 10 rfl), (pw51).1, (pw51).2, (fq21.2 11 rfl), ⟨(fn21.2 8 rfl), (fn21.2 9 rfl), (fq21.2 12 rfl), (fq21.2 13 rfl), (fq21.2 14 rfl), (fq21.2 15 rfl), (fn21.2 16 rfl), (fq21.2 17 rfl)⟩⟩, by omega⟩⟩⟩
    · refine m_st (st2 := [.int (iI 0)]) (by rw [h17e]) ?_
      refine m_if_eq (tgt := 38) C ⟨by decide, by decide⟩ dX12_table_14 (by decide) (fun _ => ?_) (fun z => absurd z (by omega))
      refine m_aload_n (j := 1) C dX12_table_38 rfl ?_
      refine m_bipush (z := 6) C dX12_table_39 (by decide) ?_
      refine m_call (mc2 := 0) (ms2 := 0) (As := [.int (iI 6)]) (rest := []) C (B_bad (x := 6) hB (by show -2147483648 ≤ (6 : Int) ∧ (6 : Int) ≤ 2147483647; omega)) dX12_table_41 kV_X12_154 rfl ck_13 rfl (Nat.le_of_ble_eq_true rfl) ⟨Nat.le_of_ble_eq_true rfl, Nat.le_of_ble_eq_true rfl⟩ ⟨Nat.le_of_ble_eq_true rfl, Nat.le_of_ble_eq_true rfl⟩ (fun rh25 vh25 ah25 h25 => ?_)
      obtain ⟨f22, rfl, fn22, bn22, ex18⟩ := h25
      refine hv5 (fp0.call fn22 rfl rfl) (show KS v a vh25 ah25 from KS.fr (⟨rfl, rfl⟩ : KS v a v a) fn22 rfl rfl) (show TBL vh25 ah25 from TBL.fr hT fn22 rfl rfl) (show STK ln vh25 ah25 from STK.fr hS fn22 rfl rfl) (show f22 = -1 from ex18) (fun fq22 pw54 pw55 pw56 gf22 => ?_)
      refine m_st (st2 := [.int (iI f22)]) rfl ?_
      refine hv5 (show (-2147483648) ≤ vh25 19 ∧ vh25 19 ≤ 2147483647 from bn22.1 19) (show vh25 19 = v 19 from fn22.1 19 rfl) ((pw54).1) (show 0 ≤ vh25 4 ∧ vh25 4 ≤ 30 from bn22.1 4) (show vh25 4 = v 4 from fn22.1 4 rfl) (fun rv35 ve31 ksx12 rv36 ve32 => ?_)
      exact n_iret C dX12_table_44 rfl (Nat.le_of_ble_eq_true rfl) (Nat.le_of_ble_eq_true rfl) ⟨f22, rfl, fq22, bn22, ⟨pw55, pw56, (by show vh25 19 ≤ v 19 + 4; omega), Or.inl ⟨by omega, ⟨(by show vh25 4 = v 4; omega), (fn22.2 5 rfl), (fn22.2 6 rfl), (fn22.2 7 rfl), (fn22.2 10 rfl), (pw54).1, (pw54).2, (fq22.2 11 rfl), ⟨(fn22.2 8 rfl), (fn22.2 9 rfl), (fq22.2 12 rfl), (fq22.2 13 rfl), (fq22.2 14 rfl), (fq22.2 15 rfl), (fn22.2 16 rfl), (fq22.2 17 rfl)⟩⟩, by omega⟩⟩⟩
set_option maxHeartbeats 4000000 in
set_option maxRecDepth 100000 in
theorem M_join {l : Launch} {G : GT} {h0 : Nat} {ad ln : Nat → Nat} {v : Nat → Int} {a : Nat → Nat → Int} {x y : Int} (hB : BX v a) (hT : TBL v a) (hS : STK ln v a) (hx : -2147483648 ≤ x ∧ x ≤ 2147483647) (hy : -2147483648 ≤ y ∧ y ≤ 2147483647) (h19 : v 19 ≤ 2044) : Mn l G yX12_join cX12_join 3 (some .int) 2 [.int (iI x), .int (iI y)] h0 ad ln v a 1 4110 (fun r ln2 v2 a2 => ∃ f : Int, r = some (.int (iI f)) ∧ fr [0, 1, 4, 19] [5, 6, 7, 8, 9, 10, 16, 18, 70] v a v2 a2 ∧ BX v2 a2 ∧ (TBL v2 a2 ∧ STK ln2 v2 a2 ∧ v2 19 ≤ v 19 + 4 ∧ ((f = -1 ∧ TSAME v a v2 a2 ∧ ¬ (0 ≤ x ∧ x < v 4 ∧ a 5 x.toNat = 1 ∧ a 6 x.toNat ≤ 3 ∧ 0 ≤ y ∧ y < v 4 ∧ a 5 y.toNat = 1 ∧ a 6 y.toNat ≤ 3 ∧ v 4 ≠ 30)) ∨ (f = v 4 ∧ (0 ≤ x ∧ x < v 4 ∧ a 5 x.toNat = 1 ∧ a 6 x.toNat ≤ 3 ∧ 0 ≤ y ∧ y < v 4 ∧ a 5 y.toNat = 1 ∧ a 6 y.toNat ≤ 3 ∧ v 4 ≠ 30) ∧ TNEW 5 (max (a 7 x.toNat) (a 7 y.toNat)) x y v a v2 a2)))) := by
  refine Mn.mk (by decide) (Nat.le_of_ble_eq_true rfl) ?_
  intro p e s m args below meth c A C
  have h30 : 0 ≤ v 4 ∧ v 4 ≤ 30 := hB.1 4
  obtain ⟨n9, hn9, hk9⟩ := hS.2.2
  refine hv3 (hS.1) (hS.2.1) (show fr [0, 1, 4, 19] [5, 6, 7, 8, 9, 10, 16, 18, 70] v a v a from fr.refl) (fun hl1 hl2 fp0 => ?_)
  refine m_aload_n (j := 0) C dX12_join_0 rfl ?_
  refine m_iload_n (j := 1) C dX12_join_1 rfl ?_
  have rv1 : 0 ≤ v 4 ∧ v 4 ≤ 30 := hB.1 4
  refine m_call (mc2 := 0) (ms2 := 0) (As := [.int (iI x)]) (rest := []) C (B_isTable (t := x) hB (by show -2147483648 ≤ x ∧ x ≤ 2147483647; omega)) dX12_join_2 kV_X12_167 rfl ck_13 rfl (Nat.le_of_ble_eq_true rfl) ⟨Nat.le_of_ble_eq_true rfl, Nat.le_of_ble_eq_true rfl⟩ ⟨Nat.le_of_ble_eq_true rfl, Nat.le_of_ble_eq_true rfl⟩ (fun rh1 vh1 ah1 h1 => ?_)
  obtain ⟨f1, rfl, fn1, bn1, ex1⟩ := h1
  obtain ⟨rfl, rfl⟩ := fn1.eq
  refine hv2 (show (f1 = 0 ∧ (x < 0 ∨ (v 4) ≤ x ∨ a 5 x.toNat = 0)) ∨ (f1 = 1 ∧ 0 ≤ x ∧ x < (v 4) ∧ a 5 x.toNat = 1) from ex1) (show 0 ≤ a 5 x.toNat ∧ a 5 x.toNat ≤ 1 from hB.2 5 (x.toNat)) (fun gf1 ra1 => ?_)
  refine m_st (st2 := [.int (iI f1)]) rfl ?_
  refine m_if_ne (tgt := 14) C (r32_pq gf1) dX12_join_5 (by decide) (fun c1 => ?_) (fun c1 => ?_)
  · replace gf1 := (gf1.resolve_left (fun q => c1 q.1))
    refine m_aload_n (j := 0) C dX12_join_14 rfl ?_
    refine m_geta (k := 6) C dX12_join_15 w6_65 (by decide) rfl ?_
    refine m_iload_n (j := 1) C dX12_join_18 rfl ?_
    refine m_ald (k := 6) C dX12_join_19 rfl rfl (by decide) (by omega) (by show _ < ((_ : Nat) : Int); simp only [mlen]; omega) (by decide) ?_
    have ra2 : 0 ≤ a 6 x.toNat ∧ a 6 x.toNat ≤ 5 := hB.2 6 (x.toNat)
    refine m_iconst C dX12_join_20 ?_
    refine m_icmp_le (tgt := 30) C (r32_c (lo := 0) (hi := 5) ra2.1 ra2.2 (by decide) (by decide)) ⟨by decide, by decide⟩ dX12_join_21 (by decide) (fun c2 => ?_) (fun c2 => ?_)
    · refine m_aload_n (j := 0) C dX12_join_30 rfl ?_
      refine m_iload_n (j := 2) C dX12_join_31 rfl ?_
      refine m_call (mc2 := 0) (ms2 := 0) (As := [.int (iI y)]) (rest := []) C (B_isTable (t := y) hB (by show -2147483648 ≤ y ∧ y ≤ 2147483647; omega)) dX12_join_32 kV_X12_167 rfl ck_13 rfl (Nat.le_of_ble_eq_true rfl) ⟨Nat.le_of_ble_eq_true rfl, Nat.le_of_ble_eq_true rfl⟩ ⟨Nat.le_of_ble_eq_true rfl, Nat.le_of_ble_eq_true rfl⟩ (fun rh2 vh2 ah2 h2 => ?_)
      obtain ⟨f2, rfl, fn2, bn2, ex2⟩ := h2
      obtain ⟨rfl, rfl⟩ := fn2.eq
      refine hv2 (show (f2 = 0 ∧ (y < 0 ∨ (v 4) ≤ y ∨ a 5 y.toNat = 0)) ∨ (f2 = 1 ∧ 0 ≤ y ∧ y < (v 4) ∧ a 5 y.toNat = 1) from ex2) (show 0 ≤ a 5 y.toNat ∧ a 5 y.toNat ≤ 1 from hB.2 5 (y.toNat)) (fun gf2 ra3 => ?_)
      refine m_st (st2 := [.int (iI f2)]) rfl ?_
      refine m_if_ne (tgt := 44) C (r32_pq gf2) dX12_join_35 (by decide) (fun c3 => ?_) (fun c3 => ?_)
      · replace gf2 := (gf2.resolve_left (fun q => c3 q.1))
        refine m_aload_n (j := 0) C dX12_join_44 rfl ?_
        refine m_geta (k := 6) C dX12_join_45 w6_65 (by decide) rfl ?_
        refine m_iload_n (j := 2) C dX12_join_48 rfl ?_
        refine m_ald (k := 6) C dX12_join_49 rfl rfl (by decide) (by omega) (by show _ < ((_ : Nat) : Int); simp only [mlen]; omega) (by decide) ?_
        have ra4 : 0 ≤ a 6 y.toNat ∧ a 6 y.toNat ≤ 5 := hB.2 6 (y.toNat)
        refine m_iconst C dX12_join_50 ?_
        refine m_icmp_le (tgt := 60) C (r32_c (lo := 0) (hi := 5) ra4.1 ra4.2 (by decide) (by decide)) ⟨by decide, by decide⟩ dX12_join_51 (by decide) (fun c4 => ?_) (fun c4 => ?_)
        · refine m_aload_n (j := 0) C dX12_join_60 rfl ?_
          refine m_get (k := 4) C dX12_join_61 w6_63 (by decide) rfl ?_
          refine m_bipush (z := 30) C dX12_join_64 (by decide) ?_
          refine m_icmp_ne (tgt := 76) C (r32_c (lo := 0) (hi := 30) rv1.1 rv1.2 (by decide) (by decide)) ⟨by decide, by decide⟩ dX12_join_66 (by decide) (fun c5 => ?_) (fun c5 => ?_)
          · refine m_aload_n (j := 0) C dX12_join_76 rfl ?_
            refine m_aload_n (j := 0) C dX12_join_77 rfl ?_
            refine m_iconst C dX12_join_78 ?_
            refine m_aload_n (j := 0) C dX12_join_79 rfl ?_
            refine m_geta (k := 7) C dX12_join_80 w6_66 (by decide) rfl ?_
            refine m_iload_n (j := 1) C dX12_join_83 rfl ?_
            refine m_ald (k := 7) C dX12_join_84 rfl rfl (by decide) (by omega) (by show _ < ((_ : Nat) : Int); simp only [mlen]; omega) (by decide) ?_
            have ra5 : (-2147483648) ≤ a 7 x.toNat ∧ a 7 x.toNat ≤ 2147483647 := hB.2 7 (x.toNat)
            refine m_aload_n (j := 0) C dX12_join_85 rfl ?_
            refine m_geta (k := 7) C dX12_join_86 w6_66 (by decide) rfl ?_
            refine m_iload_n (j := 2) C dX12_join_89 rfl ?_
            refine m_ald (k := 7) C dX12_join_90 rfl rfl (by decide) (by omega) (by show _ < ((_ : Nat) : Int); simp only [mlen]; omega) (by decide) ?_
            have ra6 : (-2147483648) ≤ a 7 y.toNat ∧ a 7 y.toNat ≤ 2147483647 := hB.2 7 (y.toNat)
            obtain ⟨mn1, hmn1, emn1⟩ := mmax_c (x := a 7 x.toNat) (y := a 7 y.toNat) ⟨by omega, by omega⟩ ⟨by omega, by omega⟩
            refine m_mmax (w := iI mn1) C dX12_join_91 w7_60 w2_148 w1_14 w2_149 ⟨Nat.le_of_ble_eq_true rfl, Nat.le_of_ble_eq_true rfl⟩ ⟨Nat.le_of_ble_eq_true rfl, Nat.le_of_ble_eq_true rfl⟩ (Nat.le_of_ble_eq_true rfl) emn1 ?_
            refine m_iload_n (j := 1) C dX12_join_94 rfl ?_
            refine m_iload_n (j := 2) C dX12_join_95 rfl ?_
            refine n_call (mc2 := 1) (ms2 := 4110) (As := [.int (iI 5), .int (iI mn1), .int (iI x), .int (iI y)]) (rest := [.ref h0]) C (M_newTable (k0 := 5) (d0 := mn1) (b0 := x) (s0 := y) hB hT hS (by omega) (by omega) (by omega) (by omega) (by omega)) dX12_join_96 kV_X12_178 rfl ck_13 rfl (Nat.le_of_ble_eq_true rfl) ⟨Nat.le_of_ble_eq_true rfl, Nat.le_of_ble_eq_true rfl⟩ ⟨Nat.le_of_ble_eq_true rfl, Nat.le_of_ble_eq_true rfl⟩ (fun rh3 ad ln vh3 ah3 h3 => ?_)
            obtain ⟨f3, rfl, fn3, bn3, ⟨gf3a, gf3b⟩, pw1, pw2, gf3c, tnf3, psf3, nif3⟩ := h3
            have fq3 := fp0.call fn3 rfl rfl
            refine m_st (st2 := [.int (iI f3), .ref h0]) rfl ?_
            refine m_call (mc2 := 0) (ms2 := 0) (As := [.int (iI f3)]) (rest := []) C (B_fine (x := f3) bn3 (by show -2147483648 ≤ f3 ∧ f3 ≤ 2147483647; omega)) dX12_join_99 kV_X12_158 rfl ck_13 rfl (Nat.le_of_ble_eq_true rfl) ⟨Nat.le_of_ble_eq_true rfl, Nat.le_of_ble_eq_true rfl⟩ ⟨Nat.le_of_ble_eq_true rfl, Nat.le_of_ble_eq_true rfl⟩ (fun rh4 vh4 ah4 h4 => ?_)
            obtain ⟨f4, rfl, fn4, bn4, ex3⟩ := h4
            refine hv5 (fq3.call fn4 rfl rfl) (show TBL vh4 ah4 from TBL.fr pw1 fn4 rfl rfl) (show STK ln vh4 ah4 from STK.fr pw2 fn4 rfl rfl) (show PSH v a vh4 ah4 0 (v 4) 0 0 from PSH.fr psf3 fn4 rfl rfl) (show f4 = f3 from ex3) (fun fq4 pw3 pw4 pw5 gf4 => ?_)
            refine m_st (st2 := [.int (iI f4)]) rfl ?_
            refine hv4 (show (-2147483648) ≤ vh4 19 ∧ vh4 19 ≤ 2147483647 from bn4.1 19) (show vh4 19 = vh3 19 from fn4.1 19 rfl) (show 0 ≤ vh4 4 ∧ vh4 4 ≤ 30 from bn4.1 4) (show vh4 4 = vh3 4 from fn4.1 4 rfl) (fun rv2 ve1 rv3 ve2 => ?_)
            have mx0 : max (a 7 x.toNat) (a 7 y.toNat) = mn1 := by omega
            exact n_iret C dX12_join_102 rfl (Nat.le_of_ble_eq_true rfl) (Nat.le_of_ble_eq_true rfl) ⟨f4, rfl, fq4, bn4, ⟨pw3, pw4, (by show vh4 19 ≤ v 19 + 4; omega), Or.inr ⟨by omega, by omega, (by show vh4 4 = v 4 + 1; omega), ((fn4.2 5 rfl).trans ((tnf3 5 (by decide) (by decide) (by decide)).trans NA_5.1)), ((fn4.2 6 rfl).trans ((tnf3 6 (by decide) (by decide) (by decide)).trans NA_5.2.1)), (by rw [mx0]; exact ((fn4.2 7 rfl).trans ((tnf3 7 (by decide) (by decide) (by decide)).trans NA_5.2.2.1))), ((fn4.2 10 rfl).trans ((tnf3 10 (by decide) (by decide) (by decide)).trans NA_5.2.2.2.1)), pw5, (fq4.2 11 rfl), ((fn4.2 8 rfl).trans ((tnf3 8 (by decide) (by decide) (by decide)).trans NA_5.2.2.2.2.1)), ((fn4.2 9 rfl).trans ((tnf3 9 (by decide) (by decide) (by decide)).trans NA_5.2.2.2.2.2.1)), (fq4.2 12 rfl), (fq4.2 13 rfl), (fq4.2 14 rfl), (fq4.2 15 rfl), (fq4.2 17 rfl), (nif3.cg (fn4.2 16 rfl))⟩⟩⟩
          · refine m_aload_n (j := 0) C dX12_join_69 rfl ?_
            refine m_bipush (z := 6) C dX12_join_70 (by decide) ?_
            refine m_call (mc2 := 0) (ms2 := 0) (As := [.int (iI 6)]) (rest := []) C (B_bad (x := 6) hB (by show -2147483648 ≤ (6 : Int) ∧ (6 : Int) ≤ 2147483647; omega)) dX12_join_72 kV_X12_154 rfl ck_13 rfl (Nat.le_of_ble_eq_true rfl) ⟨Nat.le_of_ble_eq_true rfl, Nat.le_of_ble_eq_true rfl⟩ ⟨Nat.le_of_ble_eq_true rfl, Nat.le_of_ble_eq_true rfl⟩ (fun rh5 vh5 ah5 h5 => ?_)
            obtain ⟨f5, rfl, fn5, bn5, ex4⟩ := h5
            refine hv5 (fp0.call fn5 rfl rfl) (show KS v a vh5 ah5 from KS.fr (⟨rfl, rfl⟩ : KS v a v a) fn5 rfl rfl) (show TBL vh5 ah5 from TBL.fr hT fn5 rfl rfl) (show STK ln vh5 ah5 from STK.fr hS fn5 rfl rfl) (show f5 = -1 from ex4) (fun fq5 pw6 pw7 pw8 gf5 => ?_)
            refine m_st (st2 := [.int (iI f5)]) rfl ?_
            refine hv5 (show (-2147483648) ≤ vh5 19 ∧ vh5 19 ≤ 2147483647 from bn5.1 19) (show vh5 19 = v 19 from fn5.1 19 rfl) ((pw6).1) (show 0 ≤ vh5 4 ∧ vh5 4 ≤ 30 from bn5.1 4) (show vh5 4 = v 4 from fn5.1 4 rfl) (fun rv4 ve3 ksx1 rv5 ve4 => ?_)
            exact n_iret C dX12_join_75 rfl (Nat.le_of_ble_eq_true rfl) (Nat.le_of_ble_eq_true rfl) ⟨f5, rfl, fq5, bn5, ⟨pw7, pw8, (by show vh5 19 ≤ v 19 + 4; omega), Or.inl ⟨by omega, ⟨(by show vh5 4 = v 4; omega), (fn5.2 5 rfl), (fn5.2 6 rfl), (fn5.2 7 rfl), (fn5.2 10 rfl), (pw6).1, (pw6).2, (fq5.2 11 rfl), ⟨(fn5.2 8 rfl), (fn5.2 9 rfl), (fq5.2 12 rfl), (fq5.2 13 rfl), (fq5.2 14 rfl), (fq5.2 15 rfl), (fn5.2 16 rfl), (fq5.2 17 rfl)⟩⟩, by omega⟩⟩⟩
        · refine m_aload_n (j := 0) C dX12_join_54 rfl ?_
          refine m_iconst C dX12_join_55 ?_
          refine m_call (mc2 := 0) (ms2 := 0) (As := [.int (iI 4)]) (rest := []) C (B_bad (x := 4) hB (by show -2147483648 ≤ (4 : Int) ∧ (4 : Int) ≤ 2147483647; omega)) dX12_join_56 kV_X12_154 rfl ck_13 rfl (Nat.le_of_ble_eq_true rfl) ⟨Nat.le_of_ble_eq_true rfl, Nat.le_of_ble_eq_true rfl⟩ ⟨Nat.le_of_ble_eq_true rfl, Nat.le_of_ble_eq_true rfl⟩ (fun rh6 vh6 ah6 h6 => ?_)
          obtain ⟨f6, rfl, fn6, bn6, ex5⟩ := h6
          refine hv5 (fp0.call fn6 rfl rfl) (show KS v a vh6 ah6 from KS.fr (⟨rfl, rfl⟩ : KS v a v a) fn6 rfl rfl) (show TBL vh6 ah6 from TBL.fr hT fn6 rfl rfl) (show STK ln vh6 ah6 from STK.fr hS fn6 rfl rfl) (show f6 = -1 from ex5) (fun fq6 pw9 pw10 pw11 gf6 => ?_)
          refine m_st (st2 := [.int (iI f6)]) rfl ?_
          refine hv5 (show (-2147483648) ≤ vh6 19 ∧ vh6 19 ≤ 2147483647 from bn6.1 19) (show vh6 19 = v 19 from fn6.1 19 rfl) ((pw9).1) (show 0 ≤ vh6 4 ∧ vh6 4 ≤ 30 from bn6.1 4) (show vh6 4 = v 4 from fn6.1 4 rfl) (fun rv6 ve5 ksx2 rv7 ve6 => ?_)
          exact n_iret C dX12_join_59 rfl (Nat.le_of_ble_eq_true rfl) (Nat.le_of_ble_eq_true rfl) ⟨f6, rfl, fq6, bn6, ⟨pw10, pw11, (by show vh6 19 ≤ v 19 + 4; omega), Or.inl ⟨by omega, ⟨(by show vh6 4 = v 4; omega), (fn6.2 5 rfl), (fn6.2 6 rfl), (fn6.2 7 rfl), (fn6.2 10 rfl), (pw9).1, (pw9).2, (fq6.2 11 rfl), ⟨(fn6.2 8 rfl), (fn6.2 9 rfl), (fq6.2 12 rfl), (fq6.2 13 rfl), (fq6.2 14 rfl), (fq6.2 15 rfl), (fn6.2 16 rfl), (fq6.2 17 rfl)⟩⟩, by omega⟩⟩⟩
      · replace gf2 := (gf2.resolve_right (fun q => absurd (q.1.symm.trans c3) (by decide)))
        refine m_aload_n (j := 0) C dX12_join_38 rfl ?_
        refine m_iconst C dX12_join_39 ?_
        refine m_call (mc2 := 0) (ms2 := 0) (As := [.int (iI 3)]) (rest := []) C (B_bad (x := 3) hB (by show -2147483648 ≤ (3 : Int) ∧ (3 : Int) ≤ 2147483647; omega)) dX12_join_40 kV_X12_154 rfl ck_13 rfl (Nat.le_of_ble_eq_true rfl) ⟨Nat.le_of_ble_eq_true rfl, Nat.le_of_ble_eq_true rfl⟩ ⟨Nat.le_of_ble_eq_true rfl, Nat.le_of_ble_eq_true rfl⟩ (fun rh7 vh7 ah7 h7 => ?_)
        obtain ⟨f7, rfl, fn7, bn7, ex6⟩ := h7
        refine hv5 (fp0.call fn7 rfl rfl) (show KS v a vh7 ah7 from KS.fr (⟨rfl, rfl⟩ : KS v a v a) fn7 rfl rfl) (show TBL vh7 ah7 from TBL.fr hT fn7 rfl rfl) (show STK ln vh7 ah7 from STK.fr hS fn7 rfl rfl) (show f7 = -1 from ex6) (fun fq7 pw12 pw13 pw14 gf7 => ?_)
        refine m_st (st2 := [.int (iI f7)]) rfl ?_
        refine hv5 (show (-2147483648) ≤ vh7 19 ∧ vh7 19 ≤ 2147483647 from bn7.1 19) (show vh7 19 = v 19 from fn7.1 19 rfl) ((pw12).1) (show 0 ≤ vh7 4 ∧ vh7 4 ≤ 30 from bn7.1 4) (show vh7 4 = v 4 from fn7.1 4 rfl) (fun rv8 ve7 ksx3 rv9 ve8 => ?_)
        exact n_iret C dX12_join_43 rfl (Nat.le_of_ble_eq_true rfl) (Nat.le_of_ble_eq_true rfl) ⟨f7, rfl, fq7, bn7, ⟨pw13, pw14, (by show vh7 19 ≤ v 19 + 4; omega), Or.inl ⟨by omega, ⟨(by show vh7 4 = v 4; omega), (fn7.2 5 rfl), (fn7.2 6 rfl), (fn7.2 7 rfl), (fn7.2 10 rfl), (pw12).1, (pw12).2, (fq7.2 11 rfl), ⟨(fn7.2 8 rfl), (fn7.2 9 rfl), (fq7.2 12 rfl), (fq7.2 13 rfl), (fq7.2 14 rfl), (fq7.2 15 rfl), (fn7.2 16 rfl), (fq7.2 17 rfl)⟩⟩, by omega⟩⟩⟩
    · refine m_aload_n (j := 0) C dX12_join_24 rfl ?_
      refine m_iconst C dX12_join_25 ?_
      refine m_call (mc2 := 0) (ms2 := 0) (As := [.int (iI 4)]) (rest := []) C (B_bad (x := 4) hB (by show -2147483648 ≤ (4 : Int) ∧ (4 : Int) ≤ 2147483647; omega)) dX12_join_26 kV_X12_154 rfl ck_13 rfl (Nat.le_of_ble_eq_true rfl) ⟨Nat.le_of_ble_eq_true rfl, Nat.le_of_ble_eq_true rfl⟩ ⟨Nat.le_of_ble_eq_true rfl, Nat.le_of_ble_eq_true rfl⟩ (fun rh8 vh8 ah8 h8 => ?_)
      obtain ⟨f8, rfl, fn8, bn8, ex7⟩ := h8
      refine hv5 (fp0.call fn8 rfl rfl) (show KS v a vh8 ah8 from KS.fr (⟨rfl, rfl⟩ : KS v a v a) fn8 rfl rfl) (show TBL vh8 ah8 from TBL.fr hT fn8 rfl rfl) (show STK ln vh8 ah8 from STK.fr hS fn8 rfl rfl) (show f8 = -1 from ex7) (fun fq8 pw15 pw16 pw17 gf8 => ?_)
      refine m_st (st2 := [.int (iI f8)]) rfl ?_
      refine hv5 (show (-2147483648) ≤ vh8 19 ∧ vh8 19 ≤ 2147483647 from bn8.1 19) (show vh8 19 = v 19 from fn8.1 19 rfl) ((pw15).1) (show 0 ≤ vh8 4 ∧ vh8 4 ≤ 30 from bn8.1 4) (show vh8 4 = v 4 from fn8.1 4 rfl) (fun rv10 ve9 ksx4 rv11 ve10 => ?_)
      exact n_iret C dX12_join_29 rfl (Nat.le_of_ble_eq_true rfl) (Nat.le_of_ble_eq_true rfl) ⟨f8, rfl, fq8, bn8, ⟨pw16, pw17, (by show vh8 19 ≤ v 19 + 4; omega), Or.inl ⟨by omega, ⟨(by show vh8 4 = v 4; omega), (fn8.2 5 rfl), (fn8.2 6 rfl), (fn8.2 7 rfl), (fn8.2 10 rfl), (pw15).1, (pw15).2, (fq8.2 11 rfl), ⟨(fn8.2 8 rfl), (fn8.2 9 rfl), (fq8.2 12 rfl), (fq8.2 13 rfl), (fq8.2 14 rfl), (fq8.2 15 rfl), (fn8.2 16 rfl), (fq8.2 17 rfl)⟩⟩, by omega⟩⟩⟩
  · replace gf1 := (gf1.resolve_right (fun q => absurd (q.1.symm.trans c1) (by decide)))
    refine m_aload_n (j := 0) C dX12_join_8 rfl ?_
    refine m_iconst C dX12_join_9 ?_
    refine m_call (mc2 := 0) (ms2 := 0) (As := [.int (iI 3)]) (rest := []) C (B_bad (x := 3) hB (by show -2147483648 ≤ (3 : Int) ∧ (3 : Int) ≤ 2147483647; omega)) dX12_join_10 kV_X12_154 rfl ck_13 rfl (Nat.le_of_ble_eq_true rfl) ⟨Nat.le_of_ble_eq_true rfl, Nat.le_of_ble_eq_true rfl⟩ ⟨Nat.le_of_ble_eq_true rfl, Nat.le_of_ble_eq_true rfl⟩ (fun rh9 vh9 ah9 h9 => ?_)
    obtain ⟨f9, rfl, fn9, bn9, ex8⟩ := h9
    refine hv5 (fp0.call fn9 rfl rfl) (show KS v a vh9 ah9 from KS.fr (⟨rfl, rfl⟩ : KS v a v a) fn9 rfl rfl) (show TBL vh9 ah9 from TBL.fr hT fn9 rfl rfl) (show STK ln vh9 ah9 from STK.fr hS fn9 rfl rfl) (show f9 = -1 from ex8) (fun fq9 pw18 pw19 pw20 gf9 => ?_)
    refine m_st (st2 := [.int (iI f9)]) rfl ?_
    refine hv5 (show (-2147483648) ≤ vh9 19 ∧ vh9 19 ≤ 2147483647 from bn9.1 19) (show vh9 19 = v 19 from fn9.1 19 rfl) ((pw18).1) (show 0 ≤ vh9 4 ∧ vh9 4 ≤ 30 from bn9.1 4) (show vh9 4 = v 4 from fn9.1 4 rfl) (fun rv12 ve11 ksx5 rv13 ve12 => ?_)
    exact n_iret C dX12_join_13 rfl (Nat.le_of_ble_eq_true rfl) (Nat.le_of_ble_eq_true rfl) ⟨f9, rfl, fq9, bn9, ⟨pw19, pw20, (by show vh9 19 ≤ v 19 + 4; omega), Or.inl ⟨by omega, ⟨(by show vh9 4 = v 4; omega), (fn9.2 5 rfl), (fn9.2 6 rfl), (fn9.2 7 rfl), (fn9.2 10 rfl), (pw18).1, (pw18).2, (fq9.2 11 rfl), ⟨(fn9.2 8 rfl), (fn9.2 9 rfl), (fq9.2 12 rfl), (fq9.2 13 rfl), (fq9.2 14 rfl), (fq9.2 15 rfl), (fn9.2 16 rfl), (fq9.2 17 rfl)⟩⟩, by omega⟩⟩⟩
set_option maxHeartbeats 4000000 in
set_option maxRecDepth 100000 in
theorem B_areCells {l : Launch} {G : GT} {h0 : Nat} {ad ln : Nat → Nat} {v : Nat → Int} {a : Nat → Nat → Int}  {t q u : Int} (hB : BX v a) (ht : 0 ≤ t ∧ t < 30) (hq : 0 ≤ q ∧ q ≤ 3000) (hu : 0 ≤ u ∧ q + u ≤ 3000) : Mm l G yX12_areCells cX12_areCells 6 (some .boolean) 1 [.int (iI t), .int (iI q), .int (iI u)] h0 ad ln v a 0 0 (fun r v2 a2 => ∃ f : Int, r = some (.int (iI f)) ∧ fr [] [] v a v2 a2 ∧ BX v2 a2 ∧ ((f = 0 ∨ f = 1) ∧ (f = 1 ↔ ACL (a 2) q u (DC (a 7 t.toNat))))) := by
  refine Mm.mk (by decide) (Nat.le_of_ble_eq_true rfl) ?_
  intro p e s m args below meth c A C
  have fp0 : fr [] [] v a v a := fr.refl
  refine m_iconst C dX12_areCells_0 ?_
  refine m_istore (lv2 := [(4, .int (iI 1)), (0, .ref h0), (1, .int (iI t)), (2, .int (iI q)), (3, .int (iI u))]) C dX12_areCells_1 (by decide) rfl ?_
  refine m_iload_n (j := 3) C dX12_areCells_3 rfl ?_
  refine m_istore (lv2 := [(5, .int (iI q)), (4, .int (iI 1)), (0, .ref h0), (1, .int (iI t)), (2, .int (iI q)), (3, .int (iI u))]) C dX12_areCells_4 (by decide) rfl ?_
  have Lp1 : ∀ (nn : Nat) (g k : Int) (vb1 : Nat → Int) (ab1 : Nat → Nat → Int), 3001 - k < (nn : Int) → BX vb1 ab1 → fr [] [] v a vb1 ab1 → (g = 0 ∨ g = 1) → (q ≤ k ∧ k ≤ q + u) → (g = 1 ↔ ACL (a 2) q (k - q) (DC (a 7 t.toNat))) → mw p l e (rmq 1 0 0) s m args below meth c G A 6 (MQ below (Qm G A (fun rq Lq Eq => ∃ (vq : Nat → Int) (aq : Nat → Nat → Int), mI G h0 ad ln vq aq Lq Eq ∧ (fun r v2 a2 => ∃ f : Int, r = some (.int (iI f)) ∧ fr [] [] v a v2 a2 ∧ BX v2 a2 ∧ ((f = 0 ∨ f = 1) ∧ (f = 1 ↔ ACL (a 2) q u (DC (a 7 t.toNat))))) rq vq aq)) args s 0 0 A) h0 ad ln vb1 ab1 0 0 6 [(5, .int (iI k)), (4, .int (iI g)), (0, .ref h0), (1, .int (iI t)), (2, .int (iI q)), (3, .int (iI u))] [] := by
    intro nn
    induction nn with
    | zero =>
      intro g k vb1 ab1 hm bxb1 fpb1 hg hk hac
      exact absurd hm (by omega)
    | succ nn ih1 =>
      intro g k vb1 ab1 hm bxb1 fpb1 hg hk hac
      refine m_iload (j := 0) C dX12_areCells_6 rfl ?_
      refine m_iload_n (j := 4) C dX12_areCells_8 rfl ?_
      refine m_iload_n (j := 5) C dX12_areCells_9 rfl ?_
      refine m_iadd C dX12_areCells_10 ?_
      refine m_icmp_ge (tgt := 65) C ⟨by omega, by omega⟩ ⟨by omega, by omega⟩ dX12_areCells_11 (by decide) (fun c1 => ?_) (fun c1 => ?_)
      · refine m_iload (j := 1) C dX12_areCells_65 rfl ?_
        exact m_zret C dX12_areCells_67 rfl (by omega) (Nat.le_of_ble_eq_true rfl) (Nat.le_of_ble_eq_true rfl) ⟨g, rfl, fpb1, bxb1, ⟨by omega, by rw [show u = k - q by omega]; exact hac⟩⟩
      · refine m_iload (j := 1) C dX12_areCells_14 rfl ?_
        refine m_if_eq (tgt := 56) C (r32_01 hg) dX12_areCells_16 (by decide) (fun c2 => ?_) (fun c2 => ?_)
        · clear hg
          refine m_iconst C dX12_areCells_56 ?_
          refine m_istore (lv2 := [(4, .int (iI 0)), (5, .int (iI k)), (0, .ref h0), (1, .int (iI t)), (2, .int (iI q)), (3, .int (iI u))]) C dX12_areCells_57 (by decide) rfl ?_
          refine m_iinc (z := k) (j := 1) (lv2 := [(5, .int (iI (k + 1))), (4, .int (iI 0)), (0, .ref h0), (1, .int (iI t)), (2, .int (iI q)), (3, .int (iI u))]) C dX12_areCells_59 rfl (by decide) rfl ?_
          refine m_goto (tgt := 6) C dX12_areCells_62 (by decide) ?_
          refine m_lv (lv2 := [(5, .int (iI (k + 1))), (4, .int (iI 0)), (0, .ref h0), (1, .int (iI t)), (2, .int (iI q)), (3, .int (iI u))]) [0, 1, 2, 3, 4, 5] rfl ?_
          exact ih1  0 (k + 1) _ _ (by omega) bxb1 fpb1 (by omega) (by omega) (ACL.step hac (by omega) (by have q := dcf (a 7 t.toNat); omega))
        · replace hg := (hg.resolve_left c2)
          refine m_aload_n (j := 2) C dX12_areCells_19 rfl ?_
          refine m_geta (k := 2) C dX12_areCells_20 w6_61 (by decide) rfl ?_
          refine m_iload (j := 0) C dX12_areCells_23 rfl ?_
          refine m_ald (k := 2) C dX12_areCells_25 rfl rfl (by decide) (by omega) (by show _ < ((_ : Nat) : Int); simp only [mlen]; omega) (by decide) ?_
          refine hv2 (show (-2147483648) ≤ ab1 2 k.toNat ∧ ab1 2 k.toNat ≤ 2147483647 from bxb1.2 2 (k.toNat)) (show ab1 2 (k.toNat) = a 2 (k.toNat) from congrFun (fpb1.2 2 rfl) (k.toNat)) (fun ra1 ae1 => ?_)
          refine m_st (st2 := [.int (iI (a 2 k.toNat))]) (congrArg (fun z => Value.int (iI z) :: []) (congrFun (fpb1.2 2 rfl) (k.toNat))) ?_
          refine m_iconst C dX12_areCells_26 ?_
          refine m_aload_n (j := 2) C dX12_areCells_27 rfl ?_
          refine m_geta (k := 7) C dX12_areCells_28 w6_66 (by decide) rfl ?_
          refine m_iload_n (j := 3) C dX12_areCells_31 rfl ?_
          refine m_ald (k := 7) C dX12_areCells_32 rfl rfl (by decide) (by omega) (by show _ < ((_ : Nat) : Int); simp only [mlen]; omega) (by decide) ?_
          refine hv2 (show (-2147483648) ≤ ab1 7 t.toNat ∧ ab1 7 t.toNat ≤ 2147483647 from bxb1.2 7 (t.toNat)) (show ab1 7 (t.toNat) = a 7 (t.toNat) from congrFun (fpb1.2 7 rfl) (t.toNat)) (fun ra2 ae2 => ?_)
          refine m_st (st2 := [.int (iI (a 7 t.toNat)), .int (iI 1), .int (iI (a 2 k.toNat))]) (congrArg (fun z => Value.int (iI z) :: [.int (iI 1), .int (iI (a 2 k.toNat))]) (congrFun (fpb1.2 7 rfl) (t.toNat))) ?_
          refine m_bipush (z := 6) C dX12_areCells_33 (by decide) ?_
          refine m_icmp_ne (tgt := 43) C ⟨by omega, by omega⟩ ⟨by decide, by decide⟩ dX12_areCells_35 (by decide) (fun c3 => ?_) (fun c3 => ?_)
          · refine m_sipush (z := 255) C dX12_areCells_43 (by decide) ?_
            refine m_callS (As := [.int (iI (a 2 k.toNat)), .int (iI 1), .int (iI 255)]) (rest := []) C (fun L E => s_isIn (iI (a 2 k.toNat)) (iI 1) (iI 255)) dX12_areCells_46 kS_X12_174 rfl rfl (Nat.le_of_ble_eq_true rfl) ⟨Nat.le_of_ble_eq_true rfl, Nat.le_of_ble_eq_true rfl⟩ ⟨Nat.le_of_ble_eq_true rfl, Nat.le_of_ble_eq_true rfl⟩ ?_
            rcases inn_c (x := a 2 k.toNat) (lo := 1) (hi := 255) ⟨by omega, by omega⟩ ⟨by decide, by decide⟩ ⟨by decide, by decide⟩ with ⟨h1a, h1b, h1e⟩ | ⟨h1a, h1e⟩
            · refine m_st (st2 := [.int (iI 1)]) (by rw [h1e]) ?_
              refine m_if_eq (tgt := 56) C ⟨by decide, by decide⟩ dX12_areCells_49 (by decide) (fun z => absurd z (by omega)) (fun _ => ?_)
              refine m_iconst C dX12_areCells_52 ?_
              refine m_goto (tgt := 57) C dX12_areCells_53 (by decide) ?_
              refine m_istore (lv2 := [(4, .int (iI 1)), (5, .int (iI k)), (0, .ref h0), (1, .int (iI t)), (2, .int (iI q)), (3, .int (iI u))]) C dX12_areCells_57 (by decide) rfl ?_
              refine m_iinc (z := k) (j := 1) (lv2 := [(5, .int (iI (k + 1))), (4, .int (iI 1)), (0, .ref h0), (1, .int (iI t)), (2, .int (iI q)), (3, .int (iI u))]) C dX12_areCells_59 rfl (by decide) rfl ?_
              refine m_goto (tgt := 6) C dX12_areCells_62 (by decide) ?_
              refine m_lv (lv2 := [(5, .int (iI (k + 1))), (4, .int (iI 1)), (0, .ref h0), (1, .int (iI t)), (2, .int (iI q)), (3, .int (iI u))]) [0, 1, 2, 3, 4, 5] rfl ?_
              exact ih1  1 (k + 1) _ _ (by omega) bxb1 fpb1 (by omega) (by omega) (ACL.step hac (by omega) (by have q := dcf (a 7 t.toNat); omega))
            · refine m_st (st2 := [.int (iI 0)]) (by rw [h1e]) ?_
              refine m_if_eq (tgt := 56) C ⟨by decide, by decide⟩ dX12_areCells_49 (by decide) (fun _ => ?_) (fun z => absurd z (by omega))
              refine m_iconst C dX12_areCells_56 ?_
              refine m_istore (lv2 := [(4, .int (iI 0)), (5, .int (iI k)), (0, .ref h0), (1, .int (iI t)), (2, .int (iI q)), (3, .int (iI u))]) C dX12_areCells_57 (by decide) rfl ?_
              refine m_iinc (z := k) (j := 1) (lv2 := [(5, .int (iI (k + 1))), (4, .int (iI 0)), (0, .ref h0), (1, .int (iI t)), (2, .int (iI q)), (3, .int (iI u))]) C dX12_areCells_59 rfl (by decide) rfl ?_
              refine m_goto (tgt := 6) C dX12_areCells_62 (by decide) ?_
              refine m_lv (lv2 := [(5, .int (iI (k + 1))), (4, .int (iI 0)), (0, .ref h0), (1, .int (iI t)), (2, .int (iI q)), (3, .int (iI u))]) [0, 1, 2, 3, 4, 5] rfl ?_
              exact ih1  0 (k + 1) _ _ (by omega) bxb1 fpb1 (by omega) (by omega) (ACL.step hac (by omega) (by have q := dcf (a 7 t.toNat); omega))
          · refine m_bipush (z := 63) C dX12_areCells_38 (by decide) ?_
            refine m_goto (tgt := 46) C dX12_areCells_40 (by decide) ?_
            refine m_callS (As := [.int (iI (a 2 k.toNat)), .int (iI 1), .int (iI 63)]) (rest := []) C (fun L E => s_isIn (iI (a 2 k.toNat)) (iI 1) (iI 63)) dX12_areCells_46 kS_X12_174 rfl rfl (Nat.le_of_ble_eq_true rfl) ⟨Nat.le_of_ble_eq_true rfl, Nat.le_of_ble_eq_true rfl⟩ ⟨Nat.le_of_ble_eq_true rfl, Nat.le_of_ble_eq_true rfl⟩ ?_
            rcases inn_c (x := a 2 k.toNat) (lo := 1) (hi := 63) ⟨by omega, by omega⟩ ⟨by decide, by decide⟩ ⟨by decide, by decide⟩ with ⟨h2a, h2b, h2e⟩ | ⟨h2a, h2e⟩
            · refine m_st (st2 := [.int (iI 1)]) (by rw [h2e]) ?_
              refine m_if_eq (tgt := 56) C ⟨by decide, by decide⟩ dX12_areCells_49 (by decide) (fun z => absurd z (by omega)) (fun _ => ?_)
              refine m_iconst C dX12_areCells_52 ?_
              refine m_goto (tgt := 57) C dX12_areCells_53 (by decide) ?_
              refine m_istore (lv2 := [(4, .int (iI 1)), (5, .int (iI k)), (0, .ref h0), (1, .int (iI t)), (2, .int (iI q)), (3, .int (iI u))]) C dX12_areCells_57 (by decide) rfl ?_
              refine m_iinc (z := k) (j := 1) (lv2 := [(5, .int (iI (k + 1))), (4, .int (iI 1)), (0, .ref h0), (1, .int (iI t)), (2, .int (iI q)), (3, .int (iI u))]) C dX12_areCells_59 rfl (by decide) rfl ?_
              refine m_goto (tgt := 6) C dX12_areCells_62 (by decide) ?_
              refine m_lv (lv2 := [(5, .int (iI (k + 1))), (4, .int (iI 1)), (0, .ref h0), (1, .int (iI t)), (2, .int (iI q)), (3, .int (iI u))]) [0, 1, 2, 3, 4, 5] rfl ?_
              exact ih1  1 (k + 1) _ _ (by omega) bxb1 fpb1 (by omega) (by omega) (ACL.step hac (by omega) (by have q := dcf (a 7 t.toNat); omega))
            · refine m_st (st2 := [.int (iI 0)]) (by rw [h2e]) ?_
              refine m_if_eq (tgt := 56) C ⟨by decide, by decide⟩ dX12_areCells_49 (by decide) (fun _ => ?_) (fun z => absurd z (by omega))
              refine m_iconst C dX12_areCells_56 ?_
              refine m_istore (lv2 := [(4, .int (iI 0)), (5, .int (iI k)), (0, .ref h0), (1, .int (iI t)), (2, .int (iI q)), (3, .int (iI u))]) C dX12_areCells_57 (by decide) rfl ?_
              refine m_iinc (z := k) (j := 1) (lv2 := [(5, .int (iI (k + 1))), (4, .int (iI 0)), (0, .ref h0), (1, .int (iI t)), (2, .int (iI q)), (3, .int (iI u))]) C dX12_areCells_59 rfl (by decide) rfl ?_
              refine m_goto (tgt := 6) C dX12_areCells_62 (by decide) ?_
              refine m_lv (lv2 := [(5, .int (iI (k + 1))), (4, .int (iI 0)), (0, .ref h0), (1, .int (iI t)), (2, .int (iI q)), (3, .int (iI u))]) [0, 1, 2, 3, 4, 5] rfl ?_
              exact ih1  0 (k + 1) _ _ (by omega) bxb1 fpb1 (by omega) (by omega) (ACL.step hac (by omega) (by have q := dcf (a 7 t.toNat); omega))
  refine m_lv (lv2 := [(5, .int (iI q)), (4, .int (iI 1)), (0, .ref h0), (1, .int (iI t)), (2, .int (iI q)), (3, .int (iI u))]) [0, 1, 2, 3, 4, 5] rfl ?_
  exact Lp1 3002 1 q _ _ (by omega) hB fp0 (by omega) (by omega) ⟨fun _ => ACL.zero, fun _ => rfl⟩
set_option maxHeartbeats 4000000 in
set_option maxRecDepth 100000 in
theorem M_drop {l : Launch} {G : GT} {h0 : Nat} {ad ln : Nat → Nat} {v : Nat → Int} {a : Nat → Nat → Int} {t : Int} (hB : BX v a) (hT : TBL v a) (hS : STK ln v a) (ht : -2147483648 ≤ t ∧ t ≤ 2147483647) (h19 : v 19 ≤ 2044) : Mn l G yX12_drop cX12_drop 2 (some .int) 1 [.int (iI t)] h0 ad ln v a 1 4110 (fun r ln2 v2 a2 => ∃ f : Int, r = some (.int (iI f)) ∧ fr [0, 1, 19] [5, 18, 70] v a v2 a2 ∧ BX v2 a2 ∧ (TBL v2 a2 ∧ STK ln2 v2 a2 ∧ v2 19 ≤ v 19 + 4 ∧ ((f = -1 ∧ TSAME v a v2 a2 ∧ ¬ (0 ≤ t ∧ t < v 4 ∧ a 5 t.toNat = 1)) ∨ (f = 1 ∧ (0 ≤ t ∧ t < v 4 ∧ a 5 t.toNat = 1) ∧ TDRP t v a v2 a2)))) := by
  refine Mn.mk (by decide) (Nat.le_of_ble_eq_true rfl) ?_
  intro p e s m args below meth c A C
  have h30 : 0 ≤ v 4 ∧ v 4 ≤ 30 := hB.1 4
  obtain ⟨n9, hn9, hk9⟩ := hS.2.2
  refine hv3 (hS.1) (hS.2.1) (show fr [0, 1, 19] [5, 18, 70] v a v a from fr.refl) (fun hl1 hl2 fp0 => ?_)
  refine m_aload_n (j := 0) C dX12_drop_0 rfl ?_
  refine m_iload_n (j := 1) C dX12_drop_1 rfl ?_
  have rv1 : 0 ≤ v 4 ∧ v 4 ≤ 30 := hB.1 4
  refine m_call (mc2 := 0) (ms2 := 0) (As := [.int (iI t)]) (rest := []) C (B_isTable (t := t) hB (by show -2147483648 ≤ t ∧ t ≤ 2147483647; omega)) dX12_drop_2 kV_X12_167 rfl ck_13 rfl (Nat.le_of_ble_eq_true rfl) ⟨Nat.le_of_ble_eq_true rfl, Nat.le_of_ble_eq_true rfl⟩ ⟨Nat.le_of_ble_eq_true rfl, Nat.le_of_ble_eq_true rfl⟩ (fun rh1 vh1 ah1 h1 => ?_)
  obtain ⟨f1, rfl, fn1, bn1, ex1⟩ := h1
  obtain ⟨rfl, rfl⟩ := fn1.eq
  refine hv2 (show (f1 = 0 ∧ (t < 0 ∨ (v 4) ≤ t ∨ a 5 t.toNat = 0)) ∨ (f1 = 1 ∧ 0 ≤ t ∧ t < (v 4) ∧ a 5 t.toNat = 1) from ex1) (show 0 ≤ a 5 t.toNat ∧ a 5 t.toNat ≤ 1 from hB.2 5 (t.toNat)) (fun gf1 ra1 => ?_)
  refine m_st (st2 := [.int (iI f1)]) rfl ?_
  refine m_if_ne (tgt := 14) C (r32_pq gf1) dX12_drop_5 (by decide) (fun c1 => ?_) (fun c1 => ?_)
  · replace gf1 := (gf1.resolve_left (fun q => c1 q.1))
    refine m_aload_n (j := 0) C dX12_drop_14 rfl ?_
    refine m_geta (k := 5) C dX12_drop_15 w6_64 (by decide) rfl ?_
    refine m_iload_n (j := 1) C dX12_drop_18 rfl ?_
    refine m_iconst C dX12_drop_19 ?_
    refine m_zast (k := 5) (w := 0) C dX12_drop_20 rfl rfl (by decide) (by omega) (by show _ < ((_ : Nat) : Int); simp only [mlen]; omega) (by decide) (by omega) ?_
    refine hv5 (show BX v (up2 a 5 t.toNat 0) from hB.set (k := 5) (i := t.toNat) (z := 0) ⟨by decide, by decide⟩) (fp0.set (k := 5) (i := t.toNat) (z := 0) rfl) (show KS v a v (up2 a 5 t.toNat 0) from KS.set (⟨rfl, rfl⟩ : KS v a v a) (k := 5) (i := t.toNat) (z := 0) (by decide)) (show TBL v (up2 a 5 t.toNat 0) from TBL.set hT (k := 5) (i := t.toNat) (z := 0) (by decide)) (show STK ln v (up2 a 5 t.toNat 0) from STK.set hS (k := 5) (i := t.toNat) (z := 0) (by decide)) (fun bq1 fq2 pw1 pw2 pw3 => ?_)
    refine m_aload_n (j := 0) C dX12_drop_21 rfl ?_
    refine m_iconst C dX12_drop_22 ?_
    refine m_iload_n (j := 1) C dX12_drop_23 rfl ?_
    refine m_iconst C dX12_drop_24 ?_
    refine m_iconst C dX12_drop_25 ?_
    refine hv3 (show (-2147483648) ≤ v 19 ∧ v 19 ≤ 2147483647 from bq1.1 19) (show KS v a v (up2 a 5 t.toNat 0) from pw1) (show v 19 = v 19 from rfl) (fun rv2 kq1 kq1s => ?_)
    have kq11 := kq1.1
    refine n_call (mc2 := 1) (ms2 := 4110) (As := [.int (iI 1), .int (iI t), .int (iI 0), .int (iI 0)]) (rest := []) C (M_step (x := 1) (t := t) (y := 0) (z := 0) bq1 (by omega) (by omega) (by omega) (by omega) (by show 0 ≤ v 19 ∧ v 19 ≤ 2048; omega) (by show v 19 ≤ ((ln 18 : Nat) : Int) ∧ 64 ≤ ln 18 ∧ ln 18 ≤ 8192; omega)) dX12_drop_26 kV_X12_182 rfl ck_13 rfl (Nat.le_of_ble_eq_true rfl) ⟨Nat.le_of_ble_eq_true rfl, Nat.le_of_ble_eq_true rfl⟩ ⟨Nat.le_of_ble_eq_true rfl, Nat.le_of_ble_eq_true rfl⟩ (fun rh2 ad ln vh2 ah2 h2 => ?_)
    obtain ⟨rfl, fn2, bn2, sx1_1, sx1_2, sx1_3, sx1_4, sx1_5, sx1_6, sx1_7, sx1_8⟩ := h2
    refine hv4 (fq2.call fn2 rfl rfl) (show TBL vh2 ah2 from TBL.fr pw2 fn2 rfl rfl) (show 0 ≤ vh2 4 ∧ vh2 4 ≤ 30 from bn2.1 4) (show vh2 4 = v 4 from fn2.1 4 rfl) (fun fq3 pw4 rv3 ve1 => ?_)
    refine hv2 (show PSH v a vh2 ah2 1 t 0 0 from ⟨by have q := kq1.1; have q1 := sx1_1; omega, fun j hj => (sx1_4 j (by have q := kq1.1; omega)).trans (congrFun kq1.2 j), by rw [← kq1.1]; exact sx1_5, by rw [← kq1.1]; exact sx1_6, by rw [← kq1.1]; exact sx1_7, by rw [← kq1.1]; exact sx1_8⟩) (show TBL vh2 ah2 from hT.fr fq3 rfl rfl) (fun ps1 pw6 => ?_)
    have pw5 : STK ln vh2 ah2 := STK.push (T0 := vh2 4) (R0 := ah2 10) (x := 1) (t := t) (y := 0) hS (by have q := kq1.1; have q1 := sx1_1; omega) sx1_2 sx1_3 (fun j hj => (sx1_4 j (by have q := kq1.1; omega)).trans (congrFun kq1.2 j)) (by rw [← kq1.1]; exact sx1_5) (by rw [← kq1.1]; exact sx1_6) (by rw [← kq1.1]; exact sx1_7) (Or.inr (Or.inl ⟨rfl, ⟨by omega, by omega⟩, rfl, rfl⟩)) (fq3.1 4 rfl) (fun j hj => congrFun (fq3.2 10 rfl) j)
    refine m_st (st2 := []) rfl ?_
    refine m_aload_n (j := 0) C dX12_drop_29 rfl ?_
    refine m_iconst C dX12_drop_30 ?_
    refine m_call (mc2 := 0) (ms2 := 0) (As := [.int (iI 1)]) (rest := []) C (B_fine (x := 1) bn2 (by show -2147483648 ≤ (1 : Int) ∧ (1 : Int) ≤ 2147483647; omega)) dX12_drop_31 kV_X12_158 rfl ck_13 rfl (Nat.le_of_ble_eq_true rfl) ⟨Nat.le_of_ble_eq_true rfl, Nat.le_of_ble_eq_true rfl⟩ ⟨Nat.le_of_ble_eq_true rfl, Nat.le_of_ble_eq_true rfl⟩ (fun rh3 vh3 ah3 h3 => ?_)
    obtain ⟨f2, rfl, fn3, bn3, ex2⟩ := h3
    refine hv5 (fq3.call fn3 rfl rfl) (show TBL vh3 ah3 from TBL.fr pw6 fn3 rfl rfl) (show STK ln vh3 ah3 from STK.fr pw5 fn3 rfl rfl) (show PSH v a vh3 ah3 1 t 0 0 from PSH.fr ps1 fn3 rfl rfl) (show f2 = (1 : Int) from ex2) (fun fq4 pw7 pw8 pw9 gf2 => ?_)
    refine m_st (st2 := [.int (iI f2)]) rfl ?_
    refine hv2 (show (-2147483648) ≤ vh3 19 ∧ vh3 19 ≤ 2147483647 from bn3.1 19) (show vh3 19 = vh2 19 from fn3.1 19 rfl) (fun rv4 ve2 => ?_)
    exact n_iret C dX12_drop_34 rfl (Nat.le_of_ble_eq_true rfl) (Nat.le_of_ble_eq_true rfl) ⟨f2, rfl, fq4, bn3, ⟨pw7, pw8, (by show vh3 19 ≤ v 19 + 4; omega), Or.inr ⟨by omega, by omega, (fq4.1 4 rfl), ((fn3.2 5 rfl).trans ((fn2.2 5 rfl).trans up2_va)), (fq4.2 6 rfl), (fq4.2 7 rfl), (fq4.2 10 rfl), pw9, (fq4.2 11 rfl), ⟨(fq4.2 8 rfl), (fq4.2 9 rfl), (fq4.2 12 rfl), (fq4.2 13 rfl), (fq4.2 14 rfl), (fq4.2 15 rfl), (fq4.2 16 rfl), (fq4.2 17 rfl)⟩⟩⟩⟩
  · replace gf1 := (gf1.resolve_right (fun q => absurd (q.1.symm.trans c1) (by decide)))
    refine m_aload_n (j := 0) C dX12_drop_8 rfl ?_
    refine m_iconst C dX12_drop_9 ?_
    refine m_call (mc2 := 0) (ms2 := 0) (As := [.int (iI 3)]) (rest := []) C (B_bad (x := 3) hB (by show -2147483648 ≤ (3 : Int) ∧ (3 : Int) ≤ 2147483647; omega)) dX12_drop_10 kV_X12_154 rfl ck_13 rfl (Nat.le_of_ble_eq_true rfl) ⟨Nat.le_of_ble_eq_true rfl, Nat.le_of_ble_eq_true rfl⟩ ⟨Nat.le_of_ble_eq_true rfl, Nat.le_of_ble_eq_true rfl⟩ (fun rh4 vh4 ah4 h4 => ?_)
    obtain ⟨f3, rfl, fn4, bn4, ex3⟩ := h4
    refine hv5 (fp0.call fn4 rfl rfl) (show KS v a vh4 ah4 from KS.fr (⟨rfl, rfl⟩ : KS v a v a) fn4 rfl rfl) (show TBL vh4 ah4 from TBL.fr hT fn4 rfl rfl) (show STK ln vh4 ah4 from STK.fr hS fn4 rfl rfl) (show f3 = -1 from ex3) (fun fq5 pw10 pw11 pw12 gf3 => ?_)
    refine m_st (st2 := [.int (iI f3)]) rfl ?_
    refine hv3 (show (-2147483648) ≤ vh4 19 ∧ vh4 19 ≤ 2147483647 from bn4.1 19) (show vh4 19 = v 19 from fn4.1 19 rfl) ((pw10).1) (fun rv5 ve3 ksx1 => ?_)
    exact n_iret C dX12_drop_13 rfl (Nat.le_of_ble_eq_true rfl) (Nat.le_of_ble_eq_true rfl) ⟨f3, rfl, fq5, bn4, ⟨pw11, pw12, (by show vh4 19 ≤ v 19 + 4; omega), Or.inl ⟨by omega, ⟨(fq5.1 4 rfl), (fn4.2 5 rfl), (fq5.2 6 rfl), (fq5.2 7 rfl), (fq5.2 10 rfl), (pw10).1, (pw10).2, (fq5.2 11 rfl), ⟨(fq5.2 8 rfl), (fq5.2 9 rfl), (fq5.2 12 rfl), (fq5.2 13 rfl), (fq5.2 14 rfl), (fq5.2 15 rfl), (fq5.2 16 rfl), (fq5.2 17 rfl)⟩⟩, by omega⟩⟩⟩
set_option maxHeartbeats 4000000 in
set_option maxRecDepth 100000 in
theorem M_condition {l : Launch} {G : GT} {h0 : Nat} {ad ln : Nat → Nat} {v : Nat → Int} {a : Nat → Nat → Int} {t r0 x : Int} (hB : BX v a) (hT : TBL v a) (hS : STK ln v a) (ht : -2147483648 ≤ t ∧ t ≤ 2147483647) (hr0 : -2147483648 ≤ r0 ∧ r0 ≤ 2147483647) (hx : -2147483648 ≤ x ∧ x ≤ 2147483647) (h19 : v 19 ≤ 2044) : Mn l G yX12_condition cX12_condition 5 (some .int) 2 [.int (iI t), .int (iI r0), .int (iI x)] h0 ad ln v a 1 4110 (fun r ln2 v2 a2 => ∃ f : Int, r = some (.int (iI f)) ∧ fr [0, 1, 19] [11, 18, 70] v a v2 a2 ∧ BX v2 a2 ∧ (TBL v2 a2 ∧ STK ln2 v2 a2 ∧ v2 19 ≤ v 19 + 4 ∧ ((f = -1 ∧ TSAME v a v2 a2 ∧ ¬ (0 ≤ t ∧ t < v 4 ∧ a 5 t.toNat = 1 ∧ a 6 t.toNat ≠ 5 ∧ 0 ≤ r0 ∧ r0 < a 10 t.toNat ∧ 0 ≤ x ∧ x ≤ 5)) ∨ (f = a 11 (200 * t + r0).toNat ∧ (0 ≤ t ∧ t < v 4 ∧ a 5 t.toNat = 1 ∧ a 6 t.toNat ≠ 5 ∧ 0 ≤ r0 ∧ r0 < a 10 t.toNat ∧ 0 ≤ x ∧ x ≤ 5) ∧ TCND t r0 x v a v2 a2)))) := by
  refine Mn.mk (by decide) (Nat.le_of_ble_eq_true rfl) ?_
  intro p e s m args below meth c A C
  have h30 : 0 ≤ v 4 ∧ v 4 ≤ 30 := hB.1 4
  obtain ⟨n9, hn9, hk9⟩ := hS.2.2
  refine hv3 (hS.1) (hS.2.1) (show fr [0, 1, 19] [11, 18, 70] v a v a from fr.refl) (fun hl1 hl2 fp0 => ?_)
  refine m_aload_n (j := 0) C dX12_condition_0 rfl ?_
  refine m_iload_n (j := 1) C dX12_condition_1 rfl ?_
  have rv1 : 0 ≤ v 4 ∧ v 4 ≤ 30 := hB.1 4
  refine m_call (mc2 := 0) (ms2 := 0) (As := [.int (iI t)]) (rest := []) C (B_isTable (t := t) hB (by show -2147483648 ≤ t ∧ t ≤ 2147483647; omega)) dX12_condition_2 kV_X12_167 rfl ck_13 rfl (Nat.le_of_ble_eq_true rfl) ⟨Nat.le_of_ble_eq_true rfl, Nat.le_of_ble_eq_true rfl⟩ ⟨Nat.le_of_ble_eq_true rfl, Nat.le_of_ble_eq_true rfl⟩ (fun rh1 vh1 ah1 h1 => ?_)
  obtain ⟨f1, rfl, fn1, bn1, ex1⟩ := h1
  obtain ⟨rfl, rfl⟩ := fn1.eq
  refine hv2 (show (f1 = 0 ∧ (t < 0 ∨ (v 4) ≤ t ∨ a 5 t.toNat = 0)) ∨ (f1 = 1 ∧ 0 ≤ t ∧ t < (v 4) ∧ a 5 t.toNat = 1) from ex1) (show 0 ≤ a 5 t.toNat ∧ a 5 t.toNat ≤ 1 from hB.2 5 (t.toNat)) (fun gf1 ra1 => ?_)
  refine m_st (st2 := [.int (iI f1)]) rfl ?_
  refine m_if_ne (tgt := 14) C (r32_pq gf1) dX12_condition_5 (by decide) (fun c1 => ?_) (fun c1 => ?_)
  · replace gf1 := (gf1.resolve_left (fun q => c1 q.1))
    refine m_aload_n (j := 0) C dX12_condition_14 rfl ?_
    refine m_geta (k := 6) C dX12_condition_15 w6_65 (by decide) rfl ?_
    refine m_iload_n (j := 1) C dX12_condition_18 rfl ?_
    refine m_ald (k := 6) C dX12_condition_19 rfl rfl (by decide) (by omega) (by show _ < ((_ : Nat) : Int); simp only [mlen]; omega) (by decide) ?_
    have ra2 : 0 ≤ a 6 t.toNat ∧ a 6 t.toNat ≤ 5 := hB.2 6 (t.toNat)
    refine m_iconst C dX12_condition_20 ?_
    refine m_icmp_ne (tgt := 30) C (r32_c (lo := 0) (hi := 5) ra2.1 ra2.2 (by decide) (by decide)) ⟨by decide, by decide⟩ dX12_condition_21 (by decide) (fun c2 => ?_) (fun c2 => ?_)
    · refine m_iload_n (j := 2) C dX12_condition_30 rfl ?_
      refine m_iconst C dX12_condition_31 ?_
      refine m_aload_n (j := 0) C dX12_condition_32 rfl ?_
      refine m_geta (k := 10) C dX12_condition_33 w6_69 (by decide) rfl ?_
      refine m_iload_n (j := 1) C dX12_condition_36 rfl ?_
      refine m_ald (k := 10) C dX12_condition_37 rfl rfl (by decide) (by omega) (by show _ < ((_ : Nat) : Int); simp only [mlen]; omega) (by decide) ?_
      have ra3 : 0 ≤ a 10 t.toNat ∧ a 10 t.toNat ≤ 200 := hB.2 10 (t.toNat)
      refine m_iconst C dX12_condition_38 ?_
      refine m_isub C dX12_condition_39 ?_
      refine m_callS (As := [.int (iI r0), .int (iI 0), .int (iI ((a 10 t.toNat) - 1))]) (rest := []) C (fun L E => s_isIn (iI r0) (iI 0) (iI ((a 10 t.toNat) - 1))) dX12_condition_40 kS_X12_174 rfl rfl (Nat.le_of_ble_eq_true rfl) ⟨Nat.le_of_ble_eq_true rfl, Nat.le_of_ble_eq_true rfl⟩ ⟨Nat.le_of_ble_eq_true rfl, Nat.le_of_ble_eq_true rfl⟩ ?_
      rcases inn_c (x := r0) (lo := 0) (hi := (a 10 t.toNat) - 1) ⟨by omega, by omega⟩ ⟨by decide, by decide⟩ ⟨by omega, by omega⟩ with ⟨h2a, h2b, h2e⟩ | ⟨h2a, h2e⟩
      · refine m_st (st2 := [.int (iI 1)]) (by rw [h2e]) ?_
        refine m_if_ne (tgt := 52) C ⟨by decide, by decide⟩ dX12_condition_43 (by decide) (fun _ => ?_) (fun z => absurd z (by omega))
        refine m_iload_n (j := 3) C dX12_condition_52 rfl ?_
        refine m_iconst C dX12_condition_53 ?_
        refine m_iconst C dX12_condition_54 ?_
        refine m_callS (As := [.int (iI x), .int (iI 0), .int (iI 5)]) (rest := []) C (fun L E => s_isIn (iI x) (iI 0) (iI 5)) dX12_condition_55 kS_X12_174 rfl rfl (Nat.le_of_ble_eq_true rfl) ⟨Nat.le_of_ble_eq_true rfl, Nat.le_of_ble_eq_true rfl⟩ ⟨Nat.le_of_ble_eq_true rfl, Nat.le_of_ble_eq_true rfl⟩ ?_
        rcases inn_c (x := x) (lo := 0) (hi := 5) ⟨by omega, by omega⟩ ⟨by decide, by decide⟩ ⟨by decide, by decide⟩ with ⟨h3a, h3b, h3e⟩ | ⟨h3a, h3e⟩
        · refine m_st (st2 := [.int (iI 1)]) (by rw [h3e]) ?_
          refine m_if_ne (tgt := 68) C ⟨by decide, by decide⟩ dX12_condition_58 (by decide) (fun _ => ?_) (fun z => absurd z (by omega))
          refine m_aload_n (j := 0) C dX12_condition_68 rfl ?_
          refine m_geta (k := 11) C dX12_condition_69 w6_70 (by decide) rfl ?_
          refine m_sipush (z := 200) C dX12_condition_72 (by decide) ?_
          refine m_iload_n (j := 1) C dX12_condition_75 rfl ?_
          refine m_imul C dX12_condition_76 ?_
          refine m_iload_n (j := 2) C dX12_condition_77 rfl ?_
          refine m_iadd C dX12_condition_78 ?_
          refine m_ald (k := 11) C dX12_condition_79 rfl rfl (by decide) (by omega) (by show _ < ((_ : Nat) : Int); simp only [mlen]; omega) (by decide) ?_
          have ra4 : (-2147483648) ≤ a 11 ((200 * t) + r0).toNat ∧ a 11 ((200 * t) + r0).toNat ≤ 2147483647 := hB.2 11 (((200 * t) + r0).toNat)
          refine m_istore (lv2 := [(4, .int (iI (a 11 ((200 * t) + r0).toNat))), (0, .ref h0), (1, .int (iI t)), (2, .int (iI r0)), (3, .int (iI x))]) C dX12_condition_80 (by decide) rfl ?_
          refine m_aload_n (j := 1) C dX12_condition_82 rfl ?_
          refine m_geta (k := 11) C dX12_condition_83 w6_70 (by decide) rfl ?_
          refine m_sipush (z := 200) C dX12_condition_86 (by decide) ?_
          refine m_iload_n (j := 2) C dX12_condition_89 rfl ?_
          refine m_imul C dX12_condition_90 ?_
          refine m_iload_n (j := 3) C dX12_condition_91 rfl ?_
          refine m_iadd C dX12_condition_92 ?_
          refine m_iload_n (j := 4) C dX12_condition_93 rfl ?_
          refine m_ast (k := 11) C dX12_condition_94 rfl rfl (by decide) (by omega) (by show _ < ((_ : Nat) : Int); simp only [mlen]; omega) (by decide) ?_
          refine hv5 (show BX v (up2 a 11 ((200 * t) + r0).toNat x) from hB.set (k := 11) (i := ((200 * t) + r0).toNat) (z := x) (show (-2147483648) ≤ x ∧ x ≤ 2147483647 by omega)) (fp0.set (k := 11) (i := ((200 * t) + r0).toNat) (z := x) rfl) (show KS v a v (up2 a 11 ((200 * t) + r0).toNat x) from KS.set (⟨rfl, rfl⟩ : KS v a v a) (k := 11) (i := ((200 * t) + r0).toNat) (z := x) (by decide)) (show TBL v (up2 a 11 ((200 * t) + r0).toNat x) from TBL.set hT (k := 11) (i := ((200 * t) + r0).toNat) (z := x) (by decide)) (show STK ln v (up2 a 11 ((200 * t) + r0).toNat x) from STK.set hS (k := 11) (i := ((200 * t) + r0).toNat) (z := x) (by decide)) (fun bq1 fq2 pw1 pw2 pw3 => ?_)
          refine m_aload_n (j := 1) C dX12_condition_95 rfl ?_
          refine m_iconst C dX12_condition_96 ?_
          refine m_iload_n (j := 2) C dX12_condition_97 rfl ?_
          refine m_iload_n (j := 3) C dX12_condition_98 rfl ?_
          refine m_iload (j := 0) C dX12_condition_99 rfl ?_
          refine hv3 (show (-2147483648) ≤ v 19 ∧ v 19 ≤ 2147483647 from bq1.1 19) (show KS v a v (up2 a 11 ((200 * t) + r0).toNat x) from pw1) (show v 19 = v 19 from rfl) (fun rv2 kq1 kq1s => ?_)
          have kq11 := kq1.1
          refine n_call (mc2 := 1) (ms2 := 4110) (As := [.int (iI 3), .int (iI t), .int (iI r0), .int (iI (a 11 ((200 * t) + r0).toNat))]) (rest := []) C (M_step (x := 3) (t := t) (y := r0) (z := a 11 ((200 * t) + r0).toNat) bq1 (by omega) (by omega) (by omega) (by omega) (by show 0 ≤ v 19 ∧ v 19 ≤ 2048; omega) (by show v 19 ≤ ((ln 18 : Nat) : Int) ∧ 64 ≤ ln 18 ∧ ln 18 ≤ 8192; omega)) dX12_condition_101 kV_X12_182 rfl ck_13 rfl (Nat.le_of_ble_eq_true rfl) ⟨Nat.le_of_ble_eq_true rfl, Nat.le_of_ble_eq_true rfl⟩ ⟨Nat.le_of_ble_eq_true rfl, Nat.le_of_ble_eq_true rfl⟩ (fun rh4 ad ln vh4 ah4 h4 => ?_)
          obtain ⟨rfl, fn2, bn2, sx1_1, sx1_2, sx1_3, sx1_4, sx1_5, sx1_6, sx1_7, sx1_8⟩ := h4
          refine hv4 (fq2.call fn2 rfl rfl) (show TBL vh4 ah4 from TBL.fr pw2 fn2 rfl rfl) (show 0 ≤ vh4 4 ∧ vh4 4 ≤ 30 from bn2.1 4) (show vh4 4 = v 4 from fn2.1 4 rfl) (fun fq3 pw4 rv3 ve1 => ?_)
          refine hv2 (show PSH v a vh4 ah4 3 t r0 (a 11 ((200 * t) + r0).toNat) from ⟨by have q := kq1.1; have q1 := sx1_1; omega, fun j hj => (sx1_4 j (by have q := kq1.1; omega)).trans (congrFun kq1.2 j), by rw [← kq1.1]; exact sx1_5, by rw [← kq1.1]; exact sx1_6, by rw [← kq1.1]; exact sx1_7, by rw [← kq1.1]; exact sx1_8⟩) (show TBL vh4 ah4 from hT.fr fq3 rfl rfl) (fun ps1 pw6 => ?_)
          have pw5 : STK ln vh4 ah4 := STK.push (T0 := vh4 4) (R0 := ah4 10) (x := 3) (t := t) (y := r0) hS (by have q := kq1.1; have q1 := sx1_1; omega) sx1_2 sx1_3 (fun j hj => (sx1_4 j (by have q := kq1.1; omega)).trans (congrFun kq1.2 j)) (by rw [← kq1.1]; exact sx1_5) (by rw [← kq1.1]; exact sx1_6) (by rw [← kq1.1]; exact sx1_7) (Or.inr (Or.inr (Or.inr (Or.inl ⟨rfl, ⟨by omega, by omega⟩, ⟨by omega, by have q := congrFun (fq3.2 10 rfl) t.toNat; omega⟩, rfl, rfl⟩)))) (fq3.1 4 rfl) (fun j hj => congrFun (fq3.2 10 rfl) j)
          refine m_st (st2 := []) rfl ?_
          refine m_aload_n (j := 1) C dX12_condition_104 rfl ?_
          refine m_iload (j := 0) C dX12_condition_105 rfl ?_
          refine m_call (mc2 := 0) (ms2 := 0) (As := [.int (iI (a 11 ((200 * t) + r0).toNat))]) (rest := []) C (B_fine (x := a 11 ((200 * t) + r0).toNat) bn2 (by show -2147483648 ≤ (a 11 ((200 * t) + r0).toNat) ∧ (a 11 ((200 * t) + r0).toNat) ≤ 2147483647; omega)) dX12_condition_107 kV_X12_158 rfl ck_13 rfl (Nat.le_of_ble_eq_true rfl) ⟨Nat.le_of_ble_eq_true rfl, Nat.le_of_ble_eq_true rfl⟩ ⟨Nat.le_of_ble_eq_true rfl, Nat.le_of_ble_eq_true rfl⟩ (fun rh5 vh5 ah5 h5 => ?_)
          obtain ⟨f2, rfl, fn3, bn3, ex2⟩ := h5
          refine hv5 (fq3.call fn3 rfl rfl) (show TBL vh5 ah5 from TBL.fr pw6 fn3 rfl rfl) (show STK ln vh5 ah5 from STK.fr pw5 fn3 rfl rfl) (show PSH v a vh5 ah5 3 t r0 (a 11 ((200 * t) + r0).toNat) from PSH.fr ps1 fn3 rfl rfl) (show f2 = (a 11 ((200 * t) + r0).toNat) from ex2) (fun fq4 pw7 pw8 pw9 gf2 => ?_)
          refine m_st (st2 := [.int (iI f2)]) rfl ?_
          refine hv2 (show (-2147483648) ≤ vh5 19 ∧ vh5 19 ≤ 2147483647 from bn3.1 19) (show vh5 19 = vh4 19 from fn3.1 19 rfl) (fun rv4 ve2 => ?_)
          exact n_iret C dX12_condition_110 rfl (Nat.le_of_ble_eq_true rfl) (Nat.le_of_ble_eq_true rfl) ⟨f2, rfl, fq4, bn3, ⟨pw7, pw8, (by show vh5 19 ≤ v 19 + 4; omega), Or.inr ⟨by omega, by omega, ⟨(fq4.1 4 rfl), (fq4.2 5 rfl), (fq4.2 6 rfl), (fq4.2 7 rfl), (fq4.2 10 rfl), pw9⟩, ((fn3.2 11 rfl).trans ((fn2.2 11 rfl).trans up2_va)), ⟨(fq4.2 8 rfl), (fq4.2 9 rfl), (fq4.2 12 rfl), (fq4.2 13 rfl), (fq4.2 14 rfl), (fq4.2 15 rfl), (fq4.2 16 rfl), (fq4.2 17 rfl)⟩⟩⟩⟩
        · refine m_st (st2 := [.int (iI 0)]) (by rw [h3e]) ?_
          refine m_if_ne (tgt := 68) C ⟨by decide, by decide⟩ dX12_condition_58 (by decide) (fun z => absurd z (by omega)) (fun _ => ?_)
          refine m_aload_n (j := 0) C dX12_condition_61 rfl ?_
          refine m_bipush (z := 6) C dX12_condition_62 (by decide) ?_
          refine m_call (mc2 := 0) (ms2 := 0) (As := [.int (iI 6)]) (rest := []) C (B_bad (x := 6) hB (by show -2147483648 ≤ (6 : Int) ∧ (6 : Int) ≤ 2147483647; omega)) dX12_condition_64 kV_X12_154 rfl ck_13 rfl (Nat.le_of_ble_eq_true rfl) ⟨Nat.le_of_ble_eq_true rfl, Nat.le_of_ble_eq_true rfl⟩ ⟨Nat.le_of_ble_eq_true rfl, Nat.le_of_ble_eq_true rfl⟩ (fun rh6 vh6 ah6 h6 => ?_)
          obtain ⟨f3, rfl, fn4, bn4, ex3⟩ := h6
          refine hv5 (fp0.call fn4 rfl rfl) (show KS v a vh6 ah6 from KS.fr (⟨rfl, rfl⟩ : KS v a v a) fn4 rfl rfl) (show TBL vh6 ah6 from TBL.fr hT fn4 rfl rfl) (show STK ln vh6 ah6 from STK.fr hS fn4 rfl rfl) (show f3 = -1 from ex3) (fun fq5 pw10 pw11 pw12 gf3 => ?_)
          refine m_st (st2 := [.int (iI f3)]) rfl ?_
          refine hv3 (show (-2147483648) ≤ vh6 19 ∧ vh6 19 ≤ 2147483647 from bn4.1 19) (show vh6 19 = v 19 from fn4.1 19 rfl) ((pw10).1) (fun rv5 ve3 ksx1 => ?_)
          exact n_iret C dX12_condition_67 rfl (Nat.le_of_ble_eq_true rfl) (Nat.le_of_ble_eq_true rfl) ⟨f3, rfl, fq5, bn4, ⟨pw11, pw12, (by show vh6 19 ≤ v 19 + 4; omega), Or.inl ⟨by omega, ⟨(fq5.1 4 rfl), (fq5.2 5 rfl), (fq5.2 6 rfl), (fq5.2 7 rfl), (fq5.2 10 rfl), (pw10).1, (pw10).2, (fn4.2 11 rfl), ⟨(fq5.2 8 rfl), (fq5.2 9 rfl), (fq5.2 12 rfl), (fq5.2 13 rfl), (fq5.2 14 rfl), (fq5.2 15 rfl), (fq5.2 16 rfl), (fq5.2 17 rfl)⟩⟩, by omega⟩⟩⟩
      · refine m_st (st2 := [.int (iI 0)]) (by rw [h2e]) ?_
        refine m_if_ne (tgt := 52) C ⟨by decide, by decide⟩ dX12_condition_43 (by decide) (fun z => absurd z (by omega)) (fun _ => ?_)
        refine m_aload_n (j := 0) C dX12_condition_46 rfl ?_
        refine m_iconst C dX12_condition_47 ?_
        refine m_call (mc2 := 0) (ms2 := 0) (As := [.int (iI 2)]) (rest := []) C (B_bad (x := 2) hB (by show -2147483648 ≤ (2 : Int) ∧ (2 : Int) ≤ 2147483647; omega)) dX12_condition_48 kV_X12_154 rfl ck_13 rfl (Nat.le_of_ble_eq_true rfl) ⟨Nat.le_of_ble_eq_true rfl, Nat.le_of_ble_eq_true rfl⟩ ⟨Nat.le_of_ble_eq_true rfl, Nat.le_of_ble_eq_true rfl⟩ (fun rh7 vh7 ah7 h7 => ?_)
        obtain ⟨f4, rfl, fn5, bn5, ex4⟩ := h7
        refine hv5 (fp0.call fn5 rfl rfl) (show KS v a vh7 ah7 from KS.fr (⟨rfl, rfl⟩ : KS v a v a) fn5 rfl rfl) (show TBL vh7 ah7 from TBL.fr hT fn5 rfl rfl) (show STK ln vh7 ah7 from STK.fr hS fn5 rfl rfl) (show f4 = -1 from ex4) (fun fq6 pw13 pw14 pw15 gf4 => ?_)
        refine m_st (st2 := [.int (iI f4)]) rfl ?_
        refine hv3 (show (-2147483648) ≤ vh7 19 ∧ vh7 19 ≤ 2147483647 from bn5.1 19) (show vh7 19 = v 19 from fn5.1 19 rfl) ((pw13).1) (fun rv6 ve4 ksx2 => ?_)
        exact n_iret C dX12_condition_51 rfl (Nat.le_of_ble_eq_true rfl) (Nat.le_of_ble_eq_true rfl) ⟨f4, rfl, fq6, bn5, ⟨pw14, pw15, (by show vh7 19 ≤ v 19 + 4; omega), Or.inl ⟨by omega, ⟨(fq6.1 4 rfl), (fq6.2 5 rfl), (fq6.2 6 rfl), (fq6.2 7 rfl), (fq6.2 10 rfl), (pw13).1, (pw13).2, (fn5.2 11 rfl), ⟨(fq6.2 8 rfl), (fq6.2 9 rfl), (fq6.2 12 rfl), (fq6.2 13 rfl), (fq6.2 14 rfl), (fq6.2 15 rfl), (fq6.2 16 rfl), (fq6.2 17 rfl)⟩⟩, by omega⟩⟩⟩
    · refine m_aload_n (j := 0) C dX12_condition_24 rfl ?_
      refine m_iconst C dX12_condition_25 ?_
      refine m_call (mc2 := 0) (ms2 := 0) (As := [.int (iI 4)]) (rest := []) C (B_bad (x := 4) hB (by show -2147483648 ≤ (4 : Int) ∧ (4 : Int) ≤ 2147483647; omega)) dX12_condition_26 kV_X12_154 rfl ck_13 rfl (Nat.le_of_ble_eq_true rfl) ⟨Nat.le_of_ble_eq_true rfl, Nat.le_of_ble_eq_true rfl⟩ ⟨Nat.le_of_ble_eq_true rfl, Nat.le_of_ble_eq_true rfl⟩ (fun rh8 vh8 ah8 h8 => ?_)
      obtain ⟨f5, rfl, fn6, bn6, ex5⟩ := h8
      refine hv5 (fp0.call fn6 rfl rfl) (show KS v a vh8 ah8 from KS.fr (⟨rfl, rfl⟩ : KS v a v a) fn6 rfl rfl) (show TBL vh8 ah8 from TBL.fr hT fn6 rfl rfl) (show STK ln vh8 ah8 from STK.fr hS fn6 rfl rfl) (show f5 = -1 from ex5) (fun fq7 pw16 pw17 pw18 gf5 => ?_)
      refine m_st (st2 := [.int (iI f5)]) rfl ?_
      refine hv3 (show (-2147483648) ≤ vh8 19 ∧ vh8 19 ≤ 2147483647 from bn6.1 19) (show vh8 19 = v 19 from fn6.1 19 rfl) ((pw16).1) (fun rv7 ve5 ksx3 => ?_)
      exact n_iret C dX12_condition_29 rfl (Nat.le_of_ble_eq_true rfl) (Nat.le_of_ble_eq_true rfl) ⟨f5, rfl, fq7, bn6, ⟨pw17, pw18, (by show vh8 19 ≤ v 19 + 4; omega), Or.inl ⟨by omega, ⟨(fq7.1 4 rfl), (fq7.2 5 rfl), (fq7.2 6 rfl), (fq7.2 7 rfl), (fq7.2 10 rfl), (pw16).1, (pw16).2, (fn6.2 11 rfl), ⟨(fq7.2 8 rfl), (fq7.2 9 rfl), (fq7.2 12 rfl), (fq7.2 13 rfl), (fq7.2 14 rfl), (fq7.2 15 rfl), (fq7.2 16 rfl), (fq7.2 17 rfl)⟩⟩, by omega⟩⟩⟩
  · replace gf1 := (gf1.resolve_right (fun q => absurd (q.1.symm.trans c1) (by decide)))
    refine m_aload_n (j := 0) C dX12_condition_8 rfl ?_
    refine m_iconst C dX12_condition_9 ?_
    refine m_call (mc2 := 0) (ms2 := 0) (As := [.int (iI 3)]) (rest := []) C (B_bad (x := 3) hB (by show -2147483648 ≤ (3 : Int) ∧ (3 : Int) ≤ 2147483647; omega)) dX12_condition_10 kV_X12_154 rfl ck_13 rfl (Nat.le_of_ble_eq_true rfl) ⟨Nat.le_of_ble_eq_true rfl, Nat.le_of_ble_eq_true rfl⟩ ⟨Nat.le_of_ble_eq_true rfl, Nat.le_of_ble_eq_true rfl⟩ (fun rh9 vh9 ah9 h9 => ?_)
    obtain ⟨f6, rfl, fn7, bn7, ex6⟩ := h9
    refine hv5 (fp0.call fn7 rfl rfl) (show KS v a vh9 ah9 from KS.fr (⟨rfl, rfl⟩ : KS v a v a) fn7 rfl rfl) (show TBL vh9 ah9 from TBL.fr hT fn7 rfl rfl) (show STK ln vh9 ah9 from STK.fr hS fn7 rfl rfl) (show f6 = -1 from ex6) (fun fq8 pw19 pw20 pw21 gf6 => ?_)
    refine m_st (st2 := [.int (iI f6)]) rfl ?_
    refine hv3 (show (-2147483648) ≤ vh9 19 ∧ vh9 19 ≤ 2147483647 from bn7.1 19) (show vh9 19 = v 19 from fn7.1 19 rfl) ((pw19).1) (fun rv8 ve6 ksx4 => ?_)
    exact n_iret C dX12_condition_13 rfl (Nat.le_of_ble_eq_true rfl) (Nat.le_of_ble_eq_true rfl) ⟨f6, rfl, fq8, bn7, ⟨pw20, pw21, (by show vh9 19 ≤ v 19 + 4; omega), Or.inl ⟨by omega, ⟨(fq8.1 4 rfl), (fq8.2 5 rfl), (fq8.2 6 rfl), (fq8.2 7 rfl), (fq8.2 10 rfl), (pw19).1, (pw19).2, (fn7.2 11 rfl), ⟨(fq8.2 8 rfl), (fq8.2 9 rfl), (fq8.2 12 rfl), (fq8.2 13 rfl), (fq8.2 14 rfl), (fq8.2 15 rfl), (fq8.2 16 rfl), (fq8.2 17 rfl)⟩⟩, by omega⟩⟩⟩
set_option maxHeartbeats 4000000 in
set_option maxRecDepth 100000 in
theorem M_indicator {l : Launch} {G : GT} {h0 : Nat} {ad ln : Nat → Nat} {v : Nat → Int} {a : Nat → Nat → Int} {t x : Int} (hB : BX v a) (hT : TBL v a) (hS : STK ln v a) (ht : -2147483648 ≤ t ∧ t ≤ 2147483647) (hx : -2147483648 ≤ x ∧ x ≤ 2147483647) (h19 : v 19 ≤ 2044) : Mn l G yX12_indicator cX12_indicator 8 (some .int) 2 [.int (iI t), .int (iI x)] h0 ad ln v a 1 4110 (fun r ln2 v2 a2 => ∃ f : Int, r = some (.int (iI f)) ∧ fr [0, 1, 3, 19] [16, 17, 18, 70] v a v2 a2 ∧ BX v2 a2 ∧ (TBL v2 a2 ∧ STK ln2 v2 a2 ∧ v2 19 ≤ v 19 + 4 ∧ v2 3 = 0 ∧ ((f = -1 ∧ TSAME v a v2 a2 ∧ ¬ ((0 ≤ x ∧ x ≤ 3 ∧ 0 ≤ t ∧ t < v 4 ∧ a 5 t.toNat = 1 ∧ ((x = 0 ∧ a 6 t.toNat ≤ 2) ∨ (x = 1 ∧ a 6 t.toNat = 2) ∨ (x ≠ 0 ∧ x ≠ 1 ∧ a 6 t.toNat = 5)) ∧ v 3 ≤ 4) ∧ ACL (a 2) 0 (v 3) (DC (a 7 t.toNat)) ∧ True)) ∨ (f = v 3 ∧ ((0 ≤ x ∧ x ≤ 3 ∧ 0 ≤ t ∧ t < v 4 ∧ a 5 t.toNat = 1 ∧ ((x = 0 ∧ a 6 t.toNat ≤ 2) ∨ (x = 1 ∧ a 6 t.toNat = 2) ∨ (x ≠ 0 ∧ x ≠ 1 ∧ a 6 t.toNat = 5)) ∧ v 3 ≤ 4) ∧ ACL (a 2) 0 (v 3) (DC (a 7 t.toNat)) ∧ True) ∧ TIND t x v a v2 a2)))) := by
  refine Mn.mk (by decide) (Nat.le_of_ble_eq_true rfl) ?_
  intro p e s m args below meth c A C
  have h30 : 0 ≤ v 4 ∧ v 4 ≤ 30 := hB.1 4
  obtain ⟨n9, hn9, hk9⟩ := hS.2.2
  refine hv3 (hS.1) (hS.2.1) (show fr [0, 1, 3, 19] [16, 17, 18, 70] v a v a from fr.refl) (fun hl1 hl2 fp0 => ?_)
  refine m_aload_n (j := 0) C dX12_indicator_0 rfl ?_
  have rv1 : 0 ≤ v 3 ∧ v 3 ≤ 3000 := hB.1 3
  refine m_call (mc2 := 0) (ms2 := 0) (As := []) (rest := []) C (B_taken  hB ) dX12_indicator_1 kV_X12_192 rfl ck_13 rfl (Nat.le_of_ble_eq_true rfl) ⟨Nat.le_of_ble_eq_true rfl, Nat.le_of_ble_eq_true rfl⟩ ⟨Nat.le_of_ble_eq_true rfl, Nat.le_of_ble_eq_true rfl⟩ (fun rh1 vh1 ah1 h1 => ?_)
  obtain ⟨f1, rfl, fn1, bn1, ex1⟩ := h1
  refine hv6 (fp0.call fn1 rfl rfl) (show KS v a vh1 ah1 from KS.fr (⟨rfl, rfl⟩ : KS v a v a) fn1 rfl rfl) (show TBL vh1 ah1 from TBL.fr hT fn1 rfl rfl) (show STK ln vh1 ah1 from STK.fr hS fn1 rfl rfl) (show 0 ≤ vh1 3 ∧ vh1 3 ≤ 3000 from bn1.1 3) (show f1 = (v 3) ∧ (vh1 3) = 0 from ex1) (fun fq1 pw1 pw2 pw3 rv2 gf1 => ?_)
  refine m_st (st2 := [.int (iI f1)]) rfl ?_
  refine m_istore_n (lv2 := [(3, .int (iI f1)), (0, .ref h0), (1, .int (iI t)), (2, .int (iI x))]) C dX12_indicator_4 (by decide) rfl ?_
  refine m_iload_n (j := 3) C dX12_indicator_5 rfl ?_
  refine m_iconst C dX12_indicator_6 ?_
  refine m_iconst C dX12_indicator_7 ?_
  refine m_callS (As := [.int (iI x), .int (iI 0), .int (iI 3)]) (rest := []) C (fun L E => s_isIn (iI x) (iI 0) (iI 3)) dX12_indicator_8 kS_X12_174 rfl rfl (Nat.le_of_ble_eq_true rfl) ⟨Nat.le_of_ble_eq_true rfl, Nat.le_of_ble_eq_true rfl⟩ ⟨Nat.le_of_ble_eq_true rfl, Nat.le_of_ble_eq_true rfl⟩ ?_
  rcases inn_c (x := x) (lo := 0) (hi := 3) ⟨by omega, by omega⟩ ⟨by decide, by decide⟩ ⟨by decide, by decide⟩ with ⟨h2a, h2b, h2e⟩ | ⟨h2a, h2e⟩
  · refine m_st (st2 := [.int (iI 1)]) (by rw [h2e]) ?_
    refine m_if_ne (tgt := 21) C ⟨by decide, by decide⟩ dX12_indicator_11 (by decide) (fun _ => ?_) (fun z => absurd z (by omega))
    refine m_aload_n (j := 1) C dX12_indicator_21 rfl ?_
    refine m_iload_n (j := 2) C dX12_indicator_22 rfl ?_
    refine hv2 (show 0 ≤ vh1 4 ∧ vh1 4 ≤ 30 from bn1.1 4) (show vh1 4 = v 4 from fn1.1 4 rfl) (fun rv3 ve1 => ?_)
    refine m_call (mc2 := 0) (ms2 := 0) (As := [.int (iI t)]) (rest := []) C (B_isTable (t := t) bn1 (by show -2147483648 ≤ t ∧ t ≤ 2147483647; omega)) dX12_indicator_23 kV_X12_167 rfl ck_13 rfl (Nat.le_of_ble_eq_true rfl) ⟨Nat.le_of_ble_eq_true rfl, Nat.le_of_ble_eq_true rfl⟩ ⟨Nat.le_of_ble_eq_true rfl, Nat.le_of_ble_eq_true rfl⟩ (fun rh3 vh3 ah3 h3 => ?_)
    obtain ⟨f2, rfl, fn2, bn2, ex2⟩ := h3
    obtain ⟨rfl, rfl⟩ := fn2.eq
    refine hv3 (show (f2 = 0 ∧ (t < 0 ∨ (vh1 4) ≤ t ∨ ah1 5 t.toNat = 0)) ∨ (f2 = 1 ∧ 0 ≤ t ∧ t < (vh1 4) ∧ ah1 5 t.toNat = 1) from ex2) (show 0 ≤ ah1 5 t.toNat ∧ ah1 5 t.toNat ≤ 1 from bn1.2 5 (t.toNat)) (show ah1 5 (t.toNat) = a 5 (t.toNat) from congrFun (fn1.2 5 rfl) (t.toNat)) (fun gf2 ra1 ae1 => ?_)
    refine m_st (st2 := [.int (iI f2)]) rfl ?_
    refine m_if_ne (tgt := 35) C (r32_pq gf2) dX12_indicator_26 (by decide) (fun c1 => ?_) (fun c1 => ?_)
    · replace gf2 := (gf2.resolve_left (fun q => c1 q.1))
      refine m_iload_n (j := 3) C dX12_indicator_35 rfl ?_
      have J1 : ∀ (g : Int) (vb1 : Nat → Int) (ab1 : Nat → Nat → Int), BX vb1 ab1 → fr [0, 1, 3, 19] [16, 17, 18, 70] v a vb1 ab1 → ((g = 0 ∨ g = 1) ∧ (g = 1 ↔ ((x = 0 ∧ a 6 t.toNat ≤ 2) ∨ (x = 1 ∧ a 6 t.toNat = 2) ∨ (x ≠ 0 ∧ x ≠ 1 ∧ a 6 t.toNat = 5)))) → (KS v a vb1 ab1) → (TBL vb1 ab1) → (STK ln vb1 ab1) → (ab1 16 = a 16) → (ab1 17 = a 17) → (vb1 3 = 0) → mw p l e (rmq 2 1 4110) s m args below meth c G A 8 (MQ below (Qm G A (fun rq Lq Eq => ∃ (adq lnq : Nat → Nat) (vq : Nat → Int) (aq : Nat → Nat → Int), mI G h0 adq lnq vq aq Lq Eq ∧ (fun r ln2 v2 a2 => ∃ f : Int, r = some (.int (iI f)) ∧ fr [0, 1, 3, 19] [16, 17, 18, 70] v a v2 a2 ∧ BX v2 a2 ∧ (TBL v2 a2 ∧ STK ln2 v2 a2 ∧ v2 19 ≤ v 19 + 4 ∧ v2 3 = 0 ∧ ((f = -1 ∧ TSAME v a v2 a2 ∧ ¬ ((0 ≤ x ∧ x ≤ 3 ∧ 0 ≤ t ∧ t < v 4 ∧ a 5 t.toNat = 1 ∧ ((x = 0 ∧ a 6 t.toNat ≤ 2) ∨ (x = 1 ∧ a 6 t.toNat = 2) ∨ (x ≠ 0 ∧ x ≠ 1 ∧ a 6 t.toNat = 5)) ∧ v 3 ≤ 4) ∧ ACL (a 2) 0 (v 3) (DC (a 7 t.toNat)) ∧ True)) ∨ (f = v 3 ∧ ((0 ≤ x ∧ x ≤ 3 ∧ 0 ≤ t ∧ t < v 4 ∧ a 5 t.toNat = 1 ∧ ((x = 0 ∧ a 6 t.toNat ≤ 2) ∨ (x = 1 ∧ a 6 t.toNat = 2) ∨ (x ≠ 0 ∧ x ≠ 1 ∧ a 6 t.toNat = 5)) ∧ v 3 ≤ 4) ∧ ACL (a 2) 0 (v 3) (DC (a 7 t.toNat)) ∧ True) ∧ TIND t x v a v2 a2)))) rq lnq vq aq)) args s 1 4110 A) h0 ad ln vb1 ab1 0 0 95 [(3, .int (iI f1)), (0, .ref h0), (1, .int (iI t)), (2, .int (iI x))] [.int (iI g)] := by
        intro g vb1 ab1 bxb1 fpb1 hg hKa hTa hSa h16a h17a hz30
        refine m_istore (lv2 := [(4, .int (iI g)), (3, .int (iI f1)), (0, .ref h0), (1, .int (iI t)), (2, .int (iI x))]) C dX12_indicator_95 (by decide) rfl ?_
        refine m_iload (j := 0) C dX12_indicator_97 rfl ?_
        refine m_if_ne (tgt := 108) C ⟨by omega, by omega⟩ dX12_indicator_99 (by decide) (fun c2 => ?_) (fun c2 => ?_)
        · replace hg := (And.intro (hg.1.resolve_left c2) hg.2)
          refine m_iload_n (j := 1) C dX12_indicator_108 rfl ?_
          refine m_iconst C dX12_indicator_109 ?_
          refine m_icmp_gt (tgt := 123) C ⟨by omega, by omega⟩ ⟨by decide, by decide⟩ dX12_indicator_110 (by decide) (fun c3 => ?_) (fun c3 => ?_)
          · refine m_aload_n (j := 2) C dX12_indicator_123 rfl ?_
            refine m_bipush (z := 6) C dX12_indicator_124 (by decide) ?_
            refine m_call (mc2 := 0) (ms2 := 0) (As := [.int (iI 6)]) (rest := []) C (B_bad (x := 6) bxb1 (by show -2147483648 ≤ (6 : Int) ∧ (6 : Int) ≤ 2147483647; omega)) dX12_indicator_126 kV_X12_154 rfl ck_13 rfl (Nat.le_of_ble_eq_true rfl) ⟨Nat.le_of_ble_eq_true rfl, Nat.le_of_ble_eq_true rfl⟩ ⟨Nat.le_of_ble_eq_true rfl, Nat.le_of_ble_eq_true rfl⟩ (fun rh4 vh4 ah4 h4 => ?_)
            obtain ⟨f3, rfl, fn3, bn3, ex3⟩ := h4
            refine hv5 (fpb1.call fn3 rfl rfl) (show KS v a vh4 ah4 from KS.fr hKa fn3 rfl rfl) (show TBL vh4 ah4 from TBL.fr hTa fn3 rfl rfl) (show STK ln vh4 ah4 from STK.fr hSa fn3 rfl rfl) (show f3 = -1 from ex3) (fun fq3 pw4 pw5 pw6 gf3 => ?_)
            refine m_st (st2 := [.int (iI f3)]) rfl ?_
            refine hv5 (show (-2147483648) ≤ vh4 19 ∧ vh4 19 ≤ 2147483647 from bn3.1 19) (show vh4 19 = vb1 19 from fn3.1 19 rfl) ((pw4).1) (show 0 ≤ vh4 3 ∧ vh4 3 ≤ 3000 from bn3.1 3) (show vh4 3 = vb1 3 from fn3.1 3 rfl) (fun rv4 ve2 ksx1 rv5 ve3 => ?_)
            exact n_iret C dX12_indicator_129 rfl (Nat.le_of_ble_eq_true rfl) (Nat.le_of_ble_eq_true rfl) ⟨f3, rfl, fq3, bn3, ⟨pw5, pw6, (by show vh4 19 ≤ v 19 + 4; omega), (by show vh4 3 = 0; omega), Or.inl ⟨by omega, ⟨(fq3.1 4 rfl), (fq3.2 5 rfl), (fq3.2 6 rfl), (fq3.2 7 rfl), (fq3.2 10 rfl), (pw4).1, (pw4).2, (fq3.2 11 rfl), ⟨(fq3.2 8 rfl), (fq3.2 9 rfl), (fq3.2 12 rfl), (fq3.2 13 rfl), (fq3.2 14 rfl), (fq3.2 15 rfl), ((fn3.2 16 rfl).trans h16a), ((fn3.2 17 rfl).trans h17a)⟩⟩, (fun q => by have q1 := q.1; first | omega)⟩⟩⟩
          · refine m_aload_n (j := 2) C dX12_indicator_113 rfl ?_
            refine m_iload_n (j := 3) C dX12_indicator_114 rfl ?_
            refine m_iconst C dX12_indicator_115 ?_
            refine m_iload_n (j := 1) C dX12_indicator_116 rfl ?_
            refine m_call (mc2 := 0) (ms2 := 0) (As := [.int (iI t), .int (iI 0), .int (iI f1)]) (rest := []) C (B_areCells (t := t) (q := 0) (u := f1) bxb1 (by show 0 ≤ t ∧ t < 30; omega) (by show 0 ≤ (0 : Int) ∧ (0 : Int) ≤ 3000; omega) (by show 0 ≤ f1 ∧ (0 : Int) + f1 ≤ 3000; omega)) dX12_indicator_117 kV_X12_196 rfl ck_13 rfl (Nat.le_of_ble_eq_true rfl) ⟨Nat.le_of_ble_eq_true rfl, Nat.le_of_ble_eq_true rfl⟩ ⟨Nat.le_of_ble_eq_true rfl, Nat.le_of_ble_eq_true rfl⟩ (fun rh5 vh5 ah5 h5 => ?_)
            obtain ⟨f4, rfl, fn4, bn4, ex4⟩ := h5
            obtain ⟨rfl, rfl⟩ := fn4.eq
            refine hv3 (show (f4 = 0 ∨ f4 = 1) ∧ (f4 = 1 ↔ ACL (ab1 2) (0 : Int) f1 (DC (ab1 7 t.toNat))) from ex4) (show (-2147483648) ≤ ab1 7 t.toNat ∧ ab1 7 t.toNat ≤ 2147483647 from bxb1.2 7 (t.toNat)) (show ab1 7 (t.toNat) = a 7 (t.toNat) from congrFun (fpb1.2 7 rfl) (t.toNat)) (fun gf4 ra2 ae2 => ?_)
            have acf4 : f4 = 1 ↔ ACL (a 2) 0 f1 (DC (a 7 t.toNat)) := by
              have q := gf4.2
              rw [fpb1.2 2 rfl, fpb1.2 7 rfl] at q
              exact q
            refine m_st (st2 := [.int (iI f4)]) rfl ?_
            refine m_if_ne (tgt := 130) C (r32_01 gf4.1) dX12_indicator_120 (by decide) (fun c4 => ?_) (fun c4 => ?_)
            · replace gf4 := (And.intro (gf4.1.resolve_left c4) gf4.2)
              refine m_iconst C dX12_indicator_130 ?_
              refine m_iload_n (j := 3) C dX12_indicator_131 rfl ?_
              refine m_imul C dX12_indicator_132 ?_
              refine m_iload_n (j := 4) C dX12_indicator_133 rfl ?_
              refine m_iadd C dX12_indicator_134 ?_
              refine m_istore (lv2 := [(5, .int (iI ((4 * t) + x))), (4, .int (iI g)), (3, .int (iI f1)), (0, .ref h0), (1, .int (iI t)), (2, .int (iI x))]) C dX12_indicator_135 (by decide) rfl ?_
              refine m_iconst C dX12_indicator_137 ?_
              refine m_istore (lv2 := [(6, .int (iI 0)), (5, .int (iI ((4 * t) + x))), (4, .int (iI g)), (3, .int (iI f1)), (0, .ref h0), (1, .int (iI t)), (2, .int (iI x))]) C dX12_indicator_138 (by decide) rfl ?_
              refine m_iconst C dX12_indicator_140 ?_
              refine m_istore (lv2 := [(7, .int (iI 0)), (6, .int (iI 0)), (5, .int (iI ((4 * t) + x))), (4, .int (iI g)), (3, .int (iI f1)), (0, .ref h0), (1, .int (iI t)), (2, .int (iI x))]) C dX12_indicator_141 (by decide) rfl ?_
              have Lp1 : ∀ (nn : Nat) (bf k : Int) (vb2 : Nat → Int) (ab2 : Nat → Nat → Int), 5 - k < (nn : Int) → BX vb2 ab2 → fr [0, 1, 3, 19] [16, 17, 18, 70] v a vb2 ab2 → (-2147483648 ≤ bf ∧ bf ≤ 2147483647) → (0 ≤ k ∧ k ≤ 4) → (KS v a vb2 ab2) → (TBL vb2 ab2) → (STK ln vb2 ab2) → (ab2 16 = a 16) → (ab2 17 = a 17) → (bf = PKB (a 17) (4 * (4 * t + x)).toNat k.toNat) → (k ≤ a 16 (4 * t + x).toNat) → (vb2 3 = 0) → mw p l e (rmq 2 1 4110) s m args below meth c G A 8 (MQ below (Qm G A (fun rq Lq Eq => ∃ (adq lnq : Nat → Nat) (vq : Nat → Int) (aq : Nat → Nat → Int), mI G h0 adq lnq vq aq Lq Eq ∧ (fun r ln2 v2 a2 => ∃ f : Int, r = some (.int (iI f)) ∧ fr [0, 1, 3, 19] [16, 17, 18, 70] v a v2 a2 ∧ BX v2 a2 ∧ (TBL v2 a2 ∧ STK ln2 v2 a2 ∧ v2 19 ≤ v 19 + 4 ∧ v2 3 = 0 ∧ ((f = -1 ∧ TSAME v a v2 a2 ∧ ¬ ((0 ≤ x ∧ x ≤ 3 ∧ 0 ≤ t ∧ t < v 4 ∧ a 5 t.toNat = 1 ∧ ((x = 0 ∧ a 6 t.toNat ≤ 2) ∨ (x = 1 ∧ a 6 t.toNat = 2) ∨ (x ≠ 0 ∧ x ≠ 1 ∧ a 6 t.toNat = 5)) ∧ v 3 ≤ 4) ∧ ACL (a 2) 0 (v 3) (DC (a 7 t.toNat)) ∧ True)) ∨ (f = v 3 ∧ ((0 ≤ x ∧ x ≤ 3 ∧ 0 ≤ t ∧ t < v 4 ∧ a 5 t.toNat = 1 ∧ ((x = 0 ∧ a 6 t.toNat ≤ 2) ∨ (x = 1 ∧ a 6 t.toNat = 2) ∨ (x ≠ 0 ∧ x ≠ 1 ∧ a 6 t.toNat = 5)) ∧ v 3 ≤ 4) ∧ ACL (a 2) 0 (v 3) (DC (a 7 t.toNat)) ∧ True) ∧ TIND t x v a v2 a2)))) rq lnq vq aq)) args s 1 4110 A) h0 ad ln vb2 ab2 0 0 143 [(7, .int (iI k)), (6, .int (iI bf)), (5, .int (iI ((4 * t) + x))), (4, .int (iI g)), (3, .int (iI f1)), (0, .ref h0), (1, .int (iI t)), (2, .int (iI x))] [] := by
                intro nn
                induction nn with
                | zero =>
                  intro bf k vb2 ab2 hm bxb2 fpb2 hbf hk hKb hTb hSb h16b h17b hpk hkm hz31
                  exact absurd hm (by omega)
                | succ nn ih1 =>
                  intro bf k vb2 ab2 hm bxb2 fpb2 hbf hk hKb hTb hSb h16b h17b hpk hkm hz31
                  refine m_iload (j := 0) C dX12_indicator_143 rfl ?_
                  refine m_aload_n (j := 5) C dX12_indicator_145 rfl ?_
                  refine m_geta (k := 16) C dX12_indicator_146 w6_75 (by decide) rfl ?_
                  refine m_iload (j := 2) C dX12_indicator_149 rfl ?_
                  refine m_ald (k := 16) C dX12_indicator_151 rfl rfl (by decide) (by omega) (by show _ < ((_ : Nat) : Int); simp only [mlen]; omega) (by decide) ?_
                  have ra3 : 0 ≤ ab2 16 ((4 * t) + x).toNat ∧ ab2 16 ((4 * t) + x).toNat ≤ 4 := bxb2.2 16 (((4 * t) + x).toNat)
                  refine m_icmp_ge (tgt := 181) C (r32_c (lo := 0) (hi := 4) hk.1 hk.2 (by decide) (by decide)) (r32_c (lo := 0) (hi := 4) ra3.1 ra3.2 (by decide) (by decide)) dX12_indicator_152 (by decide) (fun c5 => ?_) (fun c5 => ?_)
                  · refine m_aload_n (j := 5) C dX12_indicator_181 rfl ?_
                    refine m_iconst C dX12_indicator_182 ?_
                    refine m_iload (j := 2) C dX12_indicator_183 rfl ?_
                    refine m_aload_n (j := 5) C dX12_indicator_185 rfl ?_
                    refine m_geta (k := 16) C dX12_indicator_186 w6_75 (by decide) rfl ?_
                    refine m_iload (j := 2) C dX12_indicator_189 rfl ?_
                    refine m_ald (k := 16) C dX12_indicator_191 rfl rfl (by decide) (by omega) (by show _ < ((_ : Nat) : Int); simp only [mlen]; omega) (by decide) ?_
                    refine m_iload (j := 1) C dX12_indicator_192 rfl ?_
                    refine hv3 (show (-2147483648) ≤ vb2 19 ∧ vb2 19 ≤ 2147483647 from bxb2.1 19) (show KS v a vb2 ab2 from hKb) (show vb2 19 = vb2 19 from rfl) (fun rv6 kq1 kq1s => ?_)
                    have kq11 := kq1.1
                    refine n_call (mc2 := 1) (ms2 := 4110) (As := [.int (iI 4), .int (iI ((4 * t) + x)), .int (iI (ab2 16 ((4 * t) + x).toNat)), .int (iI bf)]) (rest := []) C (M_step (x := 4) (t := (4 * t) + x) (y := ab2 16 ((4 * t) + x).toNat) (z := bf) bxb2 (by omega) (by omega) (by omega) (by omega) (by show 0 ≤ vb2 19 ∧ vb2 19 ≤ 2048; omega) (by show vb2 19 ≤ ((ln 18 : Nat) : Int) ∧ 64 ≤ ln 18 ∧ ln 18 ≤ 8192; omega)) dX12_indicator_194 kV_X12_182 rfl ck_13 rfl (Nat.le_of_ble_eq_true rfl) ⟨Nat.le_of_ble_eq_true rfl, Nat.le_of_ble_eq_true rfl⟩ ⟨Nat.le_of_ble_eq_true rfl, Nat.le_of_ble_eq_true rfl⟩ (fun rh6 ad ln vh6 ah6 h6 => ?_)
                    obtain ⟨rfl, fn5, bn5, sx1_1, sx1_2, sx1_3, sx1_4, sx1_5, sx1_6, sx1_7, sx1_8⟩ := h6
                    refine hv5 (fpb2.call fn5 rfl rfl) (show TBL vh6 ah6 from TBL.fr hTb fn5 rfl rfl) (show 0 ≤ vh6 4 ∧ vh6 4 ≤ 30 from bn5.1 4) (show vh6 4 = vb2 4 from fn5.1 4 rfl) (show vb2 4 = v 4 from fpb2.1 4 rfl) (fun fq5 pw7 rv7 ve4 ve5 => ?_)
                    refine hv2 (show PSH v a vh6 ah6 4 ((4 * t) + x) (ab2 16 ((4 * t) + x).toNat) bf from ⟨by have q := kq1.1; have q1 := sx1_1; omega, fun j hj => (sx1_4 j (by have q := kq1.1; omega)).trans (congrFun kq1.2 j), by rw [← kq1.1]; exact sx1_5, by rw [← kq1.1]; exact sx1_6, by rw [← kq1.1]; exact sx1_7, by rw [← kq1.1]; exact sx1_8⟩) (show TBL vh6 ah6 from hT.fr fq5 rfl rfl) (fun ps1 pw9 => ?_)
                    have pw8 : STK ln vh6 ah6 := STK.push (T0 := vh6 4) (R0 := ah6 10) (x := 4) (t := (4 * t) + x) (y := ab2 16 ((4 * t) + x).toNat) hS (by have q := kq1.1; have q1 := sx1_1; omega) sx1_2 sx1_3 (fun j hj => (sx1_4 j (by have q := kq1.1; omega)).trans (congrFun kq1.2 j)) (by rw [← kq1.1]; exact sx1_5) (by rw [← kq1.1]; exact sx1_6) (by rw [← kq1.1]; exact sx1_7) (Or.inr (Or.inr (Or.inr (Or.inr ⟨rfl, ⟨by omega, by omega⟩, ⟨by omega, by omega⟩, rfl, rfl⟩)))) (fq5.1 4 rfl) (fun j hj => congrFun (fq5.2 10 rfl) j)
                    refine m_st (st2 := []) rfl ?_
                    refine m_aload_n (j := 5) C dX12_indicator_197 rfl ?_
                    refine m_geta (k := 16) C dX12_indicator_198 w6_75 (by decide) rfl ?_
                    refine m_iload (j := 2) C dX12_indicator_201 rfl ?_
                    refine m_iload_n (j := 4) C dX12_indicator_203 rfl ?_
                    refine m_ast (k := 16) C dX12_indicator_204 rfl rfl (by decide) (by omega) (by show _ < ((_ : Nat) : Int); simp only [mlen]; omega) (by decide) ?_
                    refine hv5 (show BX vh6 (up2 ah6 16 ((4 * t) + x).toNat f1) from bn5.set (k := 16) (i := ((4 * t) + x).toNat) (z := f1) (show 0 ≤ f1 ∧ f1 ≤ 4 by omega)) (fq5.set (k := 16) (i := ((4 * t) + x).toNat) (z := f1) rfl) (show TBL vh6 (up2 ah6 16 ((4 * t) + x).toNat f1) from TBL.set pw9 (k := 16) (i := ((4 * t) + x).toNat) (z := f1) (by decide)) (show STK ln vh6 (up2 ah6 16 ((4 * t) + x).toNat f1) from STK.set pw8 (k := 16) (i := ((4 * t) + x).toNat) (z := f1) (by decide)) (show PSH v a vh6 (up2 ah6 16 ((4 * t) + x).toNat f1) 4 ((4 * t) + x) (ab2 16 ((4 * t) + x).toNat) bf from PSH.set ps1 (k := 16) (i := ((4 * t) + x).toNat) (z := f1) (by decide)) (fun bq1 fq6 pw10 pw11 pw12 => ?_)
                    refine m_iconst C dX12_indicator_205 ?_
                    refine m_istore (lv2 := [(7, .int (iI 0)), (6, .int (iI bf)), (5, .int (iI ((4 * t) + x))), (4, .int (iI g)), (3, .int (iI f1)), (0, .ref h0), (1, .int (iI t)), (2, .int (iI x))]) C dX12_indicator_206 (by decide) rfl ?_
                    have Lp2 : ∀ (nn : Nat) (k1 : Int) (vb3 : Nat → Int) (ab3 : Nat → Nat → Int), 5 - k1 < (nn : Int) → BX vb3 ab3 → fr [0, 1, 3, 19] [16, 17, 18, 70] v a vb3 ab3 → (0 ≤ k1 ∧ k1 ≤ 4) → (vb3 19 ≤ v 19 + 4) → (TBL vb3 ab3) → (STK ln vb3 ab3) → (PSH v a vb3 ab3 4 ((4 * t) + x) (ab2 16 ((4 * t) + x).toNat) bf) → (ab3 16 = va_up (a 16) (4 * t + x).toNat (v 3)) → (FIL (ab3 17) (a 17) (4 * (4 * t + x)).toNat k1.toNat 4 (a 2)) → (k1 ≤ f1) → (vb3 3 = 0) → mw p l e (rmq 2 1 4110) s m args below meth c G A 8 (MQ below (Qm G A (fun rq Lq Eq => ∃ (adq lnq : Nat → Nat) (vq : Nat → Int) (aq : Nat → Nat → Int), mI G h0 adq lnq vq aq Lq Eq ∧ (fun r ln2 v2 a2 => ∃ f : Int, r = some (.int (iI f)) ∧ fr [0, 1, 3, 19] [16, 17, 18, 70] v a v2 a2 ∧ BX v2 a2 ∧ (TBL v2 a2 ∧ STK ln2 v2 a2 ∧ v2 19 ≤ v 19 + 4 ∧ v2 3 = 0 ∧ ((f = -1 ∧ TSAME v a v2 a2 ∧ ¬ ((0 ≤ x ∧ x ≤ 3 ∧ 0 ≤ t ∧ t < v 4 ∧ a 5 t.toNat = 1 ∧ ((x = 0 ∧ a 6 t.toNat ≤ 2) ∨ (x = 1 ∧ a 6 t.toNat = 2) ∨ (x ≠ 0 ∧ x ≠ 1 ∧ a 6 t.toNat = 5)) ∧ v 3 ≤ 4) ∧ ACL (a 2) 0 (v 3) (DC (a 7 t.toNat)) ∧ True)) ∨ (f = v 3 ∧ ((0 ≤ x ∧ x ≤ 3 ∧ 0 ≤ t ∧ t < v 4 ∧ a 5 t.toNat = 1 ∧ ((x = 0 ∧ a 6 t.toNat ≤ 2) ∨ (x = 1 ∧ a 6 t.toNat = 2) ∨ (x ≠ 0 ∧ x ≠ 1 ∧ a 6 t.toNat = 5)) ∧ v 3 ≤ 4) ∧ ACL (a 2) 0 (v 3) (DC (a 7 t.toNat)) ∧ True) ∧ TIND t x v a v2 a2)))) rq lnq vq aq)) args s 1 4110 A) h0 ad ln vb3 ab3 (0 + 1) (0 + 4110) 208 [(7, .int (iI k1)), (6, .int (iI bf)), (5, .int (iI ((4 * t) + x))), (4, .int (iI g)), (3, .int (iI f1)), (0, .ref h0), (1, .int (iI t)), (2, .int (iI x))] [] := by
                      intro nn
                      induction nn with
                      | zero =>
                        intro k1 vb3 ab3 hm bxb3 fpb3 hk1 h19c hTc hSc hPc h16c h17c hk1m hz32
                        exact absurd hm (by omega)
                      | succ nn ih2 =>
                        intro k1 vb3 ab3 hm bxb3 fpb3 hk1 h19c hTc hSc hPc h16c h17c hk1m hz32
                        refine m_iload (j := 0) C dX12_indicator_208 rfl ?_
                        refine m_iload_n (j := 4) C dX12_indicator_210 rfl ?_
                        refine m_icmp_ge (tgt := 239) C (r32_c (lo := 0) (hi := 4) hk1.1 hk1.2 (by decide) (by decide)) ⟨by omega, by omega⟩ dX12_indicator_211 (by decide) (fun c6 => ?_) (fun c6 => ?_)
                        · refine m_aload_n (j := 5) C dX12_indicator_239 rfl ?_
                          refine m_iload_n (j := 4) C dX12_indicator_240 rfl ?_
                          refine m_call (mc2 := 0) (ms2 := 0) (As := [.int (iI f1)]) (rest := []) C (B_fine (x := f1) bxb3 (by show -2147483648 ≤ f1 ∧ f1 ≤ 2147483647; omega)) dX12_indicator_241 kV_X12_158 rfl ck_13 rfl (Nat.le_of_ble_eq_true rfl) ⟨Nat.le_of_ble_eq_true rfl, Nat.le_of_ble_eq_true rfl⟩ ⟨Nat.le_of_ble_eq_true rfl, Nat.le_of_ble_eq_true rfl⟩ (fun rh7 vh7 ah7 h7 => ?_)
                          obtain ⟨f5, rfl, fn6, bn6, ex5⟩ := h7
                          refine hv5 (fpb3.call fn6 rfl rfl) (show TBL vh7 ah7 from TBL.fr hTc fn6 rfl rfl) (show STK ln vh7 ah7 from STK.fr hSc fn6 rfl rfl) (show PSH v a vh7 ah7 4 ((4 * t) + x) (ab2 16 ((4 * t) + x).toNat) bf from PSH.fr hPc fn6 rfl rfl) (show f5 = f1 from ex5) (fun fq7 pw13 pw14 pw15 gf5 => ?_)
                          refine m_st (st2 := [.int (iI f5)]) rfl ?_
                          refine hv4 (show (-2147483648) ≤ vh7 19 ∧ vh7 19 ≤ 2147483647 from bn6.1 19) (show vh7 19 = vb3 19 from fn6.1 19 rfl) (show 0 ≤ vh7 3 ∧ vh7 3 ≤ 3000 from bn6.1 3) (show vh7 3 = vb3 3 from fn6.1 3 rfl) (fun rv8 ve6 rv9 ve7 => ?_)
                          have ea0 : v 3 = f1 := by omega
                          exact n_iret C dX12_indicator_244 rfl (Nat.le_of_ble_eq_true rfl) (Nat.le_of_ble_eq_true rfl) ⟨f5, rfl, fq7, bn6, ⟨pw13, pw14, (by show vh7 19 ≤ v 19 + 4; omega), (by show vh7 3 = 0; omega), Or.inr ⟨by omega, ⟨by omega, (by rw [ea0]; exact acf4.mp (by omega)), trivial⟩, ⟨(fq7.1 4 rfl), (fq7.2 5 rfl), (fq7.2 6 rfl), (fq7.2 7 rfl), (fq7.2 10 rfl), (pw15.cg (congrFun h16b _) (by rw [hpk, show k.toNat = (a 16 (4 * t + x).toNat).toNat by have q := congrFun h16b (4 * t + x).toNat; omega]))⟩, (fq7.2 11 rfl), (fq7.2 8 rfl), (fq7.2 9 rfl), (fq7.2 12 rfl), (fq7.2 13 rfl), (fq7.2 14 rfl), (fq7.2 15 rfl), ((fn6.2 16 rfl).trans h16c), ((h17c.n (show (v 3).toNat = k1.toNat by omega)).cg (fn6.2 17 rfl))⟩⟩⟩
                        · refine m_aload_n (j := 5) C dX12_indicator_214 rfl ?_
                          refine m_geta (k := 17) C dX12_indicator_215 w6_76 (by decide) rfl ?_
                          refine m_iconst C dX12_indicator_218 ?_
                          refine m_iload (j := 2) C dX12_indicator_219 rfl ?_
                          refine m_imul C dX12_indicator_221 ?_
                          refine m_iload (j := 0) C dX12_indicator_222 rfl ?_
                          refine m_iadd C dX12_indicator_224 ?_
                          refine m_aload_n (j := 5) C dX12_indicator_225 rfl ?_
                          refine m_geta (k := 2) C dX12_indicator_226 w6_61 (by decide) rfl ?_
                          refine m_iload (j := 0) C dX12_indicator_229 rfl ?_
                          refine m_ald (k := 2) C dX12_indicator_231 rfl rfl (by decide) hk1.1 (Int.lt_of_le_of_lt hk1.2 (by decide)) (by decide) ?_
                          refine hv2 (show (-2147483648) ≤ ab3 2 k1.toNat ∧ ab3 2 k1.toNat ≤ 2147483647 from bxb3.2 2 (k1.toNat)) (show ab3 2 (k1.toNat) = a 2 (k1.toNat) from congrFun (fpb3.2 2 rfl) (k1.toNat)) (fun ra4 ae3 => ?_)
                          refine m_st (st2 := [.int (iI (a 2 k1.toNat)), .int (iI ((4 * ((4 * t) + x)) + k1)), .ref (ad 17)]) (congrArg (fun z => Value.int (iI z) :: [.int (iI ((4 * ((4 * t) + x)) + k1)), .ref (ad 17)]) (congrFun (fpb3.2 2 rfl) (k1.toNat))) ?_
                          refine m_ast (k := 17) C dX12_indicator_232 rfl rfl (by decide) (by omega) (by show _ < ((_ : Nat) : Int); simp only [mlen]; omega) (by decide) ?_
                          refine hv5 (show BX vb3 (up2 ab3 17 ((4 * ((4 * t) + x)) + k1).toNat (a 2 k1.toNat)) from bxb3.set (k := 17) (i := ((4 * ((4 * t) + x)) + k1).toNat) (z := a 2 k1.toNat) (show (-2147483648) ≤ (a 2 k1.toNat) ∧ (a 2 k1.toNat) ≤ 2147483647 by omega)) (fpb3.set (k := 17) (i := ((4 * ((4 * t) + x)) + k1).toNat) (z := a 2 k1.toNat) rfl) (show TBL vb3 (up2 ab3 17 ((4 * ((4 * t) + x)) + k1).toNat (a 2 k1.toNat)) from TBL.set hTc (k := 17) (i := ((4 * ((4 * t) + x)) + k1).toNat) (z := a 2 k1.toNat) (by decide)) (show STK ln vb3 (up2 ab3 17 ((4 * ((4 * t) + x)) + k1).toNat (a 2 k1.toNat)) from STK.set hSc (k := 17) (i := ((4 * ((4 * t) + x)) + k1).toNat) (z := a 2 k1.toNat) (by decide)) (show PSH v a vb3 (up2 ab3 17 ((4 * ((4 * t) + x)) + k1).toNat (a 2 k1.toNat)) 4 ((4 * t) + x) (ab2 16 ((4 * t) + x).toNat) bf from PSH.set hPc (k := 17) (i := ((4 * ((4 * t) + x)) + k1).toNat) (z := a 2 k1.toNat) (by decide)) (fun bq2 fq8 pw16 pw17 pw18 => ?_)
                          refine m_iinc (z := k1) (j := 0) (lv2 := [(7, .int (iI (k1 + 1))), (6, .int (iI bf)), (5, .int (iI ((4 * t) + x))), (4, .int (iI g)), (3, .int (iI f1)), (0, .ref h0), (1, .int (iI t)), (2, .int (iI x))]) C dX12_indicator_233 rfl (by decide) rfl ?_
                          refine m_goto (tgt := 208) C dX12_indicator_236 (by decide) ?_
                          refine hv2 (show (-2147483648) ≤ vb3 19 ∧ vb3 19 ≤ 2147483647 from bq2.1 19) (show 0 ≤ vb3 3 ∧ vb3 3 ≤ 3000 from bq2.1 3) (fun rv10 rv11 => ?_)
                          refine m_lv (lv2 := [(7, .int (iI (k1 + 1))), (6, .int (iI bf)), (5, .int (iI ((4 * t) + x))), (4, .int (iI g)), (3, .int (iI f1)), (0, .ref h0), (1, .int (iI t)), (2, .int (iI x))]) [0, 1, 2, 3, 4, 5, 6, 7] rfl ?_
                          exact ih2  (k1 + 1) _ _ (by omega) bq2 fq8 (by omega) (by show (vb3 19) ≤ v 19 + 4; omega) pw16 pw17 pw18 ((funext fun _ => up2_k (by decide)).trans h16c) (by rw [up2_va]; exact h17c.step (by omega) rfl (by omega) (by omega)) (by omega) (by show (vb3 3) = 0; omega)
                    refine hv3 (show (-2147483648) ≤ vh6 19 ∧ vh6 19 ≤ 2147483647 from bq1.1 19) (show 0 ≤ vh6 3 ∧ vh6 3 ≤ 3000 from bq1.1 3) (show vh6 3 = vb2 3 from fn5.1 3 rfl) (fun rv12 rv13 ve8 => ?_)
                    refine m_lv (lv2 := [(7, .int (iI 0)), (6, .int (iI bf)), (5, .int (iI ((4 * t) + x))), (4, .int (iI g)), (3, .int (iI f1)), (0, .ref h0), (1, .int (iI t)), (2, .int (iI x))]) [0, 1, 2, 3, 4, 5, 6, 7] rfl ?_
                    exact Lp2 6 0 _ _ (by omega) bq1 fq6 (by omega) (by show (vh6 19) ≤ v 19 + 4; omega) pw10 pw11 pw12 (by rw [up2_va, fn5.2 16 rfl, h16b, show f1 = v 3 by omega]) (FIL.zero ((funext fun _ => up2_k (by decide)).trans ((fn5.2 17 rfl).trans h17b)) rfl) (by omega) (by show (vh6 3) = 0; omega)
                  · refine m_iload (j := 1) C dX12_indicator_155 rfl ?_
                    refine m_bipush (z := 8) C dX12_indicator_157 (by decide) ?_
                    obtain ⟨zz1, hzz1, ezz1⟩ := iI_of (iI bf <<< (iI 8 &&& 31))
                    refine m_ishl (w := iI zz1) C dX12_indicator_159 ezz1 ?_
                    refine m_aload_n (j := 5) C dX12_indicator_160 rfl ?_
                    refine m_geta (k := 17) C dX12_indicator_161 w6_76 (by decide) rfl ?_
                    refine m_iconst C dX12_indicator_164 ?_
                    refine m_iload (j := 2) C dX12_indicator_165 rfl ?_
                    refine m_imul C dX12_indicator_167 ?_
                    refine m_iload (j := 0) C dX12_indicator_168 rfl ?_
                    refine m_iadd C dX12_indicator_170 ?_
                    refine m_ald (k := 17) C dX12_indicator_171 rfl rfl (by decide) (by omega) (by show _ < ((_ : Nat) : Int); simp only [mlen]; omega) (by decide) ?_
                    have ra5 : (-2147483648) ≤ ab2 17 ((4 * ((4 * t) + x)) + k).toNat ∧ ab2 17 ((4 * ((4 * t) + x)) + k).toNat ≤ 2147483647 := bxb2.2 17 (((4 * ((4 * t) + x)) + k).toNat)
                    obtain ⟨zz2, hzz2, ezz2⟩ := iI_of (iI zz1 ||| iI (ab2 17 ((4 * ((4 * t) + x)) + k).toNat))
                    refine m_ior (w := iI zz2) C dX12_indicator_172 ezz2 ?_
                    refine m_istore (lv2 := [(6, .int (iI zz2)), (7, .int (iI k)), (5, .int (iI ((4 * t) + x))), (4, .int (iI g)), (3, .int (iI f1)), (0, .ref h0), (1, .int (iI t)), (2, .int (iI x))]) C dX12_indicator_173 (by decide) rfl ?_
                    refine m_iinc (z := k) (j := 1) (lv2 := [(7, .int (iI (k + 1))), (6, .int (iI zz2)), (5, .int (iI ((4 * t) + x))), (4, .int (iI g)), (3, .int (iI f1)), (0, .ref h0), (1, .int (iI t)), (2, .int (iI x))]) C dX12_indicator_175 rfl (by decide) rfl ?_
                    refine m_goto (tgt := 143) C dX12_indicator_178 (by decide) ?_
                    have rv14 : 0 ≤ vb2 3 ∧ vb2 3 ≤ 3000 := bxb2.1 3
                    refine m_lv (lv2 := [(7, .int (iI (k + 1))), (6, .int (iI zz2)), (5, .int (iI ((4 * t) + x))), (4, .int (iI g)), (3, .int (iI f1)), (0, .ref h0), (1, .int (iI t)), (2, .int (iI x))]) [0, 1, 2, 3, 4, 5, 6, 7] rfl ?_
                    exact ih1  zz2 (k + 1) _ _ (by omega) bxb2 fpb2 (by omega) (by omega) hKb hTb hSb h16b h17b (PKB.step hpk ezz1 ezz2 hzz2 (by rw [h17b]; exact congrArg (a 17) (by omega)) (by omega)) (by have q := congrFun h16b (4 * t + x).toNat; omega) (by show (vb2 3) = 0; omega)
              have rv15 : 0 ≤ vb1 3 ∧ vb1 3 ≤ 3000 := bxb1.1 3
              refine m_lv (lv2 := [(7, .int (iI 0)), (6, .int (iI 0)), (5, .int (iI ((4 * t) + x))), (4, .int (iI g)), (3, .int (iI f1)), (0, .ref h0), (1, .int (iI t)), (2, .int (iI x))]) [0, 1, 2, 3, 4, 5, 6, 7] rfl ?_
              exact Lp1 6 0 0 _ _ (by omega) bxb1 fpb1 (by omega) (by omega) hKa hTa hSa h16a h17a rfl (by have q : 0 ≤ a 16 (4 * t + x).toNat ∧ a 16 (4 * t + x).toNat ≤ 4 := hB.2 16 _; omega) (by show (vb1 3) = 0; omega)
            · replace gf4 := (And.intro c4 gf4.2)
              refine m_aload_n (j := 2) C dX12_indicator_123 rfl ?_
              refine m_bipush (z := 6) C dX12_indicator_124 (by decide) ?_
              refine m_call (mc2 := 0) (ms2 := 0) (As := [.int (iI 6)]) (rest := []) C (B_bad (x := 6) bxb1 (by show -2147483648 ≤ (6 : Int) ∧ (6 : Int) ≤ 2147483647; omega)) dX12_indicator_126 kV_X12_154 rfl ck_13 rfl (Nat.le_of_ble_eq_true rfl) ⟨Nat.le_of_ble_eq_true rfl, Nat.le_of_ble_eq_true rfl⟩ ⟨Nat.le_of_ble_eq_true rfl, Nat.le_of_ble_eq_true rfl⟩ (fun rh8 vh8 ah8 h8 => ?_)
              obtain ⟨f6, rfl, fn7, bn7, ex6⟩ := h8
              refine hv5 (fpb1.call fn7 rfl rfl) (show KS v a vh8 ah8 from KS.fr hKa fn7 rfl rfl) (show TBL vh8 ah8 from TBL.fr hTa fn7 rfl rfl) (show STK ln vh8 ah8 from STK.fr hSa fn7 rfl rfl) (show f6 = -1 from ex6) (fun fq9 pw19 pw20 pw21 gf6 => ?_)
              refine m_st (st2 := [.int (iI f6)]) rfl ?_
              refine hv5 (show (-2147483648) ≤ vh8 19 ∧ vh8 19 ≤ 2147483647 from bn7.1 19) (show vh8 19 = vb1 19 from fn7.1 19 rfl) ((pw19).1) (show 0 ≤ vh8 3 ∧ vh8 3 ≤ 3000 from bn7.1 3) (show vh8 3 = vb1 3 from fn7.1 3 rfl) (fun rv16 ve9 ksx2 rv17 ve10 => ?_)
              exact n_iret C dX12_indicator_129 rfl (Nat.le_of_ble_eq_true rfl) (Nat.le_of_ble_eq_true rfl) ⟨f6, rfl, fq9, bn7, ⟨pw20, pw21, (by show vh8 19 ≤ v 19 + 4; omega), (by show vh8 3 = 0; omega), Or.inl ⟨by omega, ⟨(fq9.1 4 rfl), (fq9.2 5 rfl), (fq9.2 6 rfl), (fq9.2 7 rfl), (fq9.2 10 rfl), (pw19).1, (pw19).2, (fq9.2 11 rfl), ⟨(fq9.2 8 rfl), (fq9.2 9 rfl), (fq9.2 12 rfl), (fq9.2 13 rfl), (fq9.2 14 rfl), (fq9.2 15 rfl), ((fn7.2 16 rfl).trans h16a), ((fn7.2 17 rfl).trans h17a)⟩⟩, (fun q => by have q1 := q.1; first | omega | exact absurd (acf4.mpr (by rw [show f1 = v 3 by omega]; exact q.2.1)) (by omega))⟩⟩⟩
        · replace hg := (And.intro c2 hg.2)
          refine m_aload_n (j := 2) C dX12_indicator_102 rfl ?_
          refine m_iconst C dX12_indicator_103 ?_
          refine m_call (mc2 := 0) (ms2 := 0) (As := [.int (iI 4)]) (rest := []) C (B_bad (x := 4) bxb1 (by show -2147483648 ≤ (4 : Int) ∧ (4 : Int) ≤ 2147483647; omega)) dX12_indicator_104 kV_X12_154 rfl ck_13 rfl (Nat.le_of_ble_eq_true rfl) ⟨Nat.le_of_ble_eq_true rfl, Nat.le_of_ble_eq_true rfl⟩ ⟨Nat.le_of_ble_eq_true rfl, Nat.le_of_ble_eq_true rfl⟩ (fun rh9 vh9 ah9 h9 => ?_)
          obtain ⟨f7, rfl, fn8, bn8, ex7⟩ := h9
          refine hv5 (fpb1.call fn8 rfl rfl) (show KS v a vh9 ah9 from KS.fr hKa fn8 rfl rfl) (show TBL vh9 ah9 from TBL.fr hTa fn8 rfl rfl) (show STK ln vh9 ah9 from STK.fr hSa fn8 rfl rfl) (show f7 = -1 from ex7) (fun fq10 pw22 pw23 pw24 gf7 => ?_)
          refine m_st (st2 := [.int (iI f7)]) rfl ?_
          refine hv5 (show (-2147483648) ≤ vh9 19 ∧ vh9 19 ≤ 2147483647 from bn8.1 19) (show vh9 19 = vb1 19 from fn8.1 19 rfl) ((pw22).1) (show 0 ≤ vh9 3 ∧ vh9 3 ≤ 3000 from bn8.1 3) (show vh9 3 = vb1 3 from fn8.1 3 rfl) (fun rv18 ve11 ksx3 rv19 ve12 => ?_)
          exact n_iret C dX12_indicator_107 rfl (Nat.le_of_ble_eq_true rfl) (Nat.le_of_ble_eq_true rfl) ⟨f7, rfl, fq10, bn8, ⟨pw23, pw24, (by show vh9 19 ≤ v 19 + 4; omega), (by show vh9 3 = 0; omega), Or.inl ⟨by omega, ⟨(fq10.1 4 rfl), (fq10.2 5 rfl), (fq10.2 6 rfl), (fq10.2 7 rfl), (fq10.2 10 rfl), (pw22).1, (pw22).2, (fq10.2 11 rfl), ⟨(fq10.2 8 rfl), (fq10.2 9 rfl), (fq10.2 12 rfl), (fq10.2 13 rfl), (fq10.2 14 rfl), (fq10.2 15 rfl), ((fn8.2 16 rfl).trans h16a), ((fn8.2 17 rfl).trans h17a)⟩⟩, (fun q => by have q1 := q.1; first | omega)⟩⟩⟩
      refine m_if_ne (tgt := 57) C ⟨by omega, by omega⟩ dX12_indicator_36 (by decide) (fun c7 => ?_) (fun c7 => ?_)
      · refine m_iload_n (j := 3) C dX12_indicator_57 rfl ?_
        refine m_iconst C dX12_indicator_58 ?_
        refine m_icmp_ne (tgt := 80) C ⟨by omega, by omega⟩ ⟨by decide, by decide⟩ dX12_indicator_59 (by decide) (fun c8 => ?_) (fun c8 => ?_)
        · refine m_aload_n (j := 1) C dX12_indicator_80 rfl ?_
          refine m_geta (k := 6) C dX12_indicator_81 w6_65 (by decide) rfl ?_
          refine m_iload_n (j := 2) C dX12_indicator_84 rfl ?_
          refine m_ald (k := 6) C dX12_indicator_85 rfl rfl (by decide) (by omega) (by show _ < ((_ : Nat) : Int); simp only [mlen]; omega) (by decide) ?_
          refine hv2 (show 0 ≤ ah1 6 t.toNat ∧ ah1 6 t.toNat ≤ 5 from bn1.2 6 (t.toNat)) (show ah1 6 (t.toNat) = a 6 (t.toNat) from congrFun (fn1.2 6 rfl) (t.toNat)) (fun ra6 ae4 => ?_)
          refine m_st (st2 := [.int (iI (a 6 t.toNat))]) (congrArg (fun z => Value.int (iI z) :: []) (congrFun (fq1.2 6 rfl) (t.toNat))) ?_
          refine m_iconst C dX12_indicator_86 ?_
          refine m_icmp_ne (tgt := 94) C ⟨by omega, by omega⟩ ⟨by decide, by decide⟩ dX12_indicator_87 (by decide) (fun c9 => ?_) (fun c9 => ?_)
          · refine m_iconst C dX12_indicator_94 ?_
            refine m_lv (lv2 := [(3, .int (iI f1)), (0, .ref h0), (1, .int (iI t)), (2, .int (iI x))]) [0, 1, 2, 3] rfl ?_
            exact J1  0 _ _  bn1 fq1 (by omega) pw1 pw2 pw3 (fn1.2 16 rfl) (fn1.2 17 rfl) (by show (vh1 3) = 0; omega)
          · refine m_iconst C dX12_indicator_90 ?_
            refine m_goto (tgt := 95) C dX12_indicator_91 (by decide) ?_
            refine m_lv (lv2 := [(3, .int (iI f1)), (0, .ref h0), (1, .int (iI t)), (2, .int (iI x))]) [0, 1, 2, 3] rfl ?_
            exact J1  1 _ _  bn1 fq1 (by omega) pw1 pw2 pw3 (fn1.2 16 rfl) (fn1.2 17 rfl) (by show (vh1 3) = 0; omega)
        · refine m_aload_n (j := 1) C dX12_indicator_62 rfl ?_
          refine m_geta (k := 6) C dX12_indicator_63 w6_65 (by decide) rfl ?_
          refine m_iload_n (j := 2) C dX12_indicator_66 rfl ?_
          refine m_ald (k := 6) C dX12_indicator_67 rfl rfl (by decide) (by omega) (by show _ < ((_ : Nat) : Int); simp only [mlen]; omega) (by decide) ?_
          refine hv2 (show 0 ≤ ah1 6 t.toNat ∧ ah1 6 t.toNat ≤ 5 from bn1.2 6 (t.toNat)) (show ah1 6 (t.toNat) = a 6 (t.toNat) from congrFun (fn1.2 6 rfl) (t.toNat)) (fun ra7 ae5 => ?_)
          refine m_st (st2 := [.int (iI (a 6 t.toNat))]) (congrArg (fun z => Value.int (iI z) :: []) (congrFun (fq1.2 6 rfl) (t.toNat))) ?_
          refine m_iconst C dX12_indicator_68 ?_
          refine m_icmp_ne (tgt := 76) C ⟨by omega, by omega⟩ ⟨by decide, by decide⟩ dX12_indicator_69 (by decide) (fun c10 => ?_) (fun c10 => ?_)
          · refine m_iconst C dX12_indicator_76 ?_
            refine m_goto (tgt := 95) C dX12_indicator_77 (by decide) ?_
            refine m_lv (lv2 := [(3, .int (iI f1)), (0, .ref h0), (1, .int (iI t)), (2, .int (iI x))]) [0, 1, 2, 3] rfl ?_
            exact J1  0 _ _  bn1 fq1 (by omega) pw1 pw2 pw3 (fn1.2 16 rfl) (fn1.2 17 rfl) (by show (vh1 3) = 0; omega)
          · refine m_iconst C dX12_indicator_72 ?_
            refine m_goto (tgt := 95) C dX12_indicator_73 (by decide) ?_
            refine m_lv (lv2 := [(3, .int (iI f1)), (0, .ref h0), (1, .int (iI t)), (2, .int (iI x))]) [0, 1, 2, 3] rfl ?_
            exact J1  1 _ _  bn1 fq1 (by omega) pw1 pw2 pw3 (fn1.2 16 rfl) (fn1.2 17 rfl) (by show (vh1 3) = 0; omega)
      · refine m_aload_n (j := 1) C dX12_indicator_39 rfl ?_
        refine m_geta (k := 6) C dX12_indicator_40 w6_65 (by decide) rfl ?_
        refine m_iload_n (j := 2) C dX12_indicator_43 rfl ?_
        refine m_ald (k := 6) C dX12_indicator_44 rfl rfl (by decide) (by omega) (by show _ < ((_ : Nat) : Int); simp only [mlen]; omega) (by decide) ?_
        refine hv2 (show 0 ≤ ah1 6 t.toNat ∧ ah1 6 t.toNat ≤ 5 from bn1.2 6 (t.toNat)) (show ah1 6 (t.toNat) = a 6 (t.toNat) from congrFun (fn1.2 6 rfl) (t.toNat)) (fun ra8 ae6 => ?_)
        refine m_st (st2 := [.int (iI (a 6 t.toNat))]) (congrArg (fun z => Value.int (iI z) :: []) (congrFun (fq1.2 6 rfl) (t.toNat))) ?_
        refine m_iconst C dX12_indicator_45 ?_
        refine m_icmp_gt (tgt := 53) C ⟨by omega, by omega⟩ ⟨by decide, by decide⟩ dX12_indicator_46 (by decide) (fun c11 => ?_) (fun c11 => ?_)
        · refine m_iconst C dX12_indicator_53 ?_
          refine m_goto (tgt := 95) C dX12_indicator_54 (by decide) ?_
          refine m_lv (lv2 := [(3, .int (iI f1)), (0, .ref h0), (1, .int (iI t)), (2, .int (iI x))]) [0, 1, 2, 3] rfl ?_
          exact J1  0 _ _  bn1 fq1 (by omega) pw1 pw2 pw3 (fn1.2 16 rfl) (fn1.2 17 rfl) (by show (vh1 3) = 0; omega)
        · refine m_iconst C dX12_indicator_49 ?_
          refine m_goto (tgt := 95) C dX12_indicator_50 (by decide) ?_
          refine m_lv (lv2 := [(3, .int (iI f1)), (0, .ref h0), (1, .int (iI t)), (2, .int (iI x))]) [0, 1, 2, 3] rfl ?_
          exact J1  1 _ _  bn1 fq1 (by omega) pw1 pw2 pw3 (fn1.2 16 rfl) (fn1.2 17 rfl) (by show (vh1 3) = 0; omega)
    · replace gf2 := (gf2.resolve_right (fun q => absurd (q.1.symm.trans c1) (by decide)))
      refine m_aload_n (j := 1) C dX12_indicator_29 rfl ?_
      refine m_iconst C dX12_indicator_30 ?_
      refine m_call (mc2 := 0) (ms2 := 0) (As := [.int (iI 3)]) (rest := []) C (B_bad (x := 3) bn1 (by show -2147483648 ≤ (3 : Int) ∧ (3 : Int) ≤ 2147483647; omega)) dX12_indicator_31 kV_X12_154 rfl ck_13 rfl (Nat.le_of_ble_eq_true rfl) ⟨Nat.le_of_ble_eq_true rfl, Nat.le_of_ble_eq_true rfl⟩ ⟨Nat.le_of_ble_eq_true rfl, Nat.le_of_ble_eq_true rfl⟩ (fun rh10 vh10 ah10 h10 => ?_)
      obtain ⟨f8, rfl, fn9, bn9, ex8⟩ := h10
      refine hv5 (fq1.call fn9 rfl rfl) (show KS v a vh10 ah10 from KS.fr pw1 fn9 rfl rfl) (show TBL vh10 ah10 from TBL.fr pw2 fn9 rfl rfl) (show STK ln vh10 ah10 from STK.fr pw3 fn9 rfl rfl) (show f8 = -1 from ex8) (fun fq11 pw25 pw26 pw27 gf8 => ?_)
      refine m_st (st2 := [.int (iI f8)]) rfl ?_
      refine hv6 (show (-2147483648) ≤ vh10 19 ∧ vh10 19 ≤ 2147483647 from bn9.1 19) (show vh10 19 = vh1 19 from fn9.1 19 rfl) (show vh1 19 = v 19 from fn1.1 19 rfl) ((pw25).1) (show 0 ≤ vh10 3 ∧ vh10 3 ≤ 3000 from bn9.1 3) (show vh10 3 = vh1 3 from fn9.1 3 rfl) (fun rv20 ve13 ve14 ksx4 rv21 ve15 => ?_)
      exact n_iret C dX12_indicator_34 rfl (Nat.le_of_ble_eq_true rfl) (Nat.le_of_ble_eq_true rfl) ⟨f8, rfl, fq11, bn9, ⟨pw26, pw27, (by show vh10 19 ≤ v 19 + 4; omega), (by show vh10 3 = 0; omega), Or.inl ⟨by omega, ⟨(fq11.1 4 rfl), (fq11.2 5 rfl), (fq11.2 6 rfl), (fq11.2 7 rfl), (fq11.2 10 rfl), (pw25).1, (pw25).2, (fq11.2 11 rfl), ⟨(fq11.2 8 rfl), (fq11.2 9 rfl), (fq11.2 12 rfl), (fq11.2 13 rfl), (fq11.2 14 rfl), (fq11.2 15 rfl), ((fn9.2 16 rfl).trans (fn1.2 16 rfl)), ((fn9.2 17 rfl).trans (fn1.2 17 rfl))⟩⟩, (fun q => by have q1 := q.1; first | omega)⟩⟩⟩
  · refine m_st (st2 := [.int (iI 0)]) (by rw [h2e]) ?_
    refine m_if_ne (tgt := 21) C ⟨by decide, by decide⟩ dX12_indicator_11 (by decide) (fun z => absurd z (by omega)) (fun _ => ?_)
    refine m_aload_n (j := 1) C dX12_indicator_14 rfl ?_
    refine m_bipush (z := 6) C dX12_indicator_15 (by decide) ?_
    refine m_call (mc2 := 0) (ms2 := 0) (As := [.int (iI 6)]) (rest := []) C (B_bad (x := 6) bn1 (by show -2147483648 ≤ (6 : Int) ∧ (6 : Int) ≤ 2147483647; omega)) dX12_indicator_17 kV_X12_154 rfl ck_13 rfl (Nat.le_of_ble_eq_true rfl) ⟨Nat.le_of_ble_eq_true rfl, Nat.le_of_ble_eq_true rfl⟩ ⟨Nat.le_of_ble_eq_true rfl, Nat.le_of_ble_eq_true rfl⟩ (fun rh11 vh11 ah11 h11 => ?_)
    obtain ⟨f9, rfl, fn10, bn10, ex9⟩ := h11
    refine hv5 (fq1.call fn10 rfl rfl) (show KS v a vh11 ah11 from KS.fr pw1 fn10 rfl rfl) (show TBL vh11 ah11 from TBL.fr pw2 fn10 rfl rfl) (show STK ln vh11 ah11 from STK.fr pw3 fn10 rfl rfl) (show f9 = -1 from ex9) (fun fq12 pw28 pw29 pw30 gf9 => ?_)
    refine m_st (st2 := [.int (iI f9)]) rfl ?_
    refine hv6 (show (-2147483648) ≤ vh11 19 ∧ vh11 19 ≤ 2147483647 from bn10.1 19) (show vh11 19 = vh1 19 from fn10.1 19 rfl) (show vh1 19 = v 19 from fn1.1 19 rfl) ((pw28).1) (show 0 ≤ vh11 3 ∧ vh11 3 ≤ 3000 from bn10.1 3) (show vh11 3 = vh1 3 from fn10.1 3 rfl) (fun rv22 ve16 ve17 ksx5 rv23 ve18 => ?_)
    exact n_iret C dX12_indicator_20 rfl (Nat.le_of_ble_eq_true rfl) (Nat.le_of_ble_eq_true rfl) ⟨f9, rfl, fq12, bn10, ⟨pw29, pw30, (by show vh11 19 ≤ v 19 + 4; omega), (by show vh11 3 = 0; omega), Or.inl ⟨by omega, ⟨(fq12.1 4 rfl), (fq12.2 5 rfl), (fq12.2 6 rfl), (fq12.2 7 rfl), (fq12.2 10 rfl), (pw28).1, (pw28).2, (fq12.2 11 rfl), ⟨(fq12.2 8 rfl), (fq12.2 9 rfl), (fq12.2 12 rfl), (fq12.2 13 rfl), (fq12.2 14 rfl), (fq12.2 15 rfl), ((fn10.2 16 rfl).trans (fn1.2 16 rfl)), ((fn10.2 17 rfl).trans (fn1.2 17 rfl))⟩⟩, (fun q => by have q1 := q.1; first | omega)⟩⟩⟩
def UN (a a2 : Nat → Nat → Int) : Prop := a2 10 = a 10 ∧ a2 12 = a 12 ∧ a2 13 = a 13 ∧ a2 11 = a 11 ∧ a2 14 = a 14 ∧ a2 15 = a 15
theorem UN.set {a a2 : Nat → Nat → Int} (h : UN a a2) {k i : Nat} {z : Int} (hk : ([10, 11, 12, 13, 14, 15] : List Nat).contains k = false) : UN a (up2 a2 k i z) := by
  have g : ∀ j, ([10, 11, 12, 13, 14, 15] : List Nat).contains j = true → up2 a2 k i z j = a2 j := fun j hj => funext fun q => up2_k (fun e => by rw [e, hk] at hj; cases hj)
  exact ⟨(g _ rfl).trans h.1, (g _ rfl).trans h.2.1, (g _ rfl).trans h.2.2.1, (g _ rfl).trans h.2.2.2.1, (g _ rfl).trans h.2.2.2.2.1, (g _ rfl).trans h.2.2.2.2.2⟩
theorem UN.fr {a a2 a3 : Nat → Nat → Int} {v2 v3 : Nat → Int} {V A : List Nat} (h : UN a a2) (f : fr V A v2 a2 v3 a3) (hA : ([10, 11, 12, 13, 14, 15] : List Nat).all (fun j => !A.contains j) = true) : UN a a3 := by
  have g : ∀ j, j ∈ ([10, 11, 12, 13, 14, 15] : List Nat) → a3 j = a2 j := fun j hj => f.2 j (by have := List.all_eq_true.mp hA j hj; simpa using this)
  exact ⟨(g 10 (by decide)).trans h.1, (g 12 (by decide)).trans h.2.1, (g 13 (by decide)).trans h.2.2.1, (g 11 (by decide)).trans h.2.2.2.1, (g 14 (by decide)).trans h.2.2.2.2.1, (g 15 (by decide)).trans h.2.2.2.2.2⟩
def C11 (a : Nat → Nat → Int) (r x : Int) (a2 : Nat → Nat → Int) : Prop := a2 11 = va_up (a 11) r.toNat x
theorem C11.mk {a a2 : Nat → Nat → Int} {r x m c : Int} (h : a2 11 = a 11) : C11 a r x (up2 (up2 (up2 a2 11 r.toNat x) 12 r.toNat m) 13 r.toNat c) := by
  unfold C11
  rw [← h]
  funext j
  rw [up2_k (by decide), up2_k (by decide), up2_va]
theorem C11.set {a a2 : Nat → Nat → Int} {r x : Int} (h : C11 a r x a2) {k i : Nat} {z : Int} (hk : k ≠ 11) : C11 a r x (up2 a2 k i z) := (funext fun _ => up2_k (Ne.symm hk)).trans h
theorem C11.fr {a a2 a3 : Nat → Nat → Int} {v2 v3 : Nat → Int} {r x : Int} {V A : List Nat} (h : C11 a r x a2) (f : fr V A v2 a2 v3 a3) (hA : A.contains 11 = false) : C11 a r x a3 := (f.2 11 hA).trans h
theorem UN.rul {a a2 : Nat → Nat → Int} {r n w1 z m c : Int} (h : UN a a2) : RUL a r m c (up2 (up2 (up2 a2 11 r.toNat z) 12 r.toNat m) 13 r.toNat c) := by
  refine ⟨fun j => ?_, fun j => ?_, ?_⟩
  · rw [up2_k (by decide), up2_if j, up2_k (by decide), h.2.1]
  · rw [up2_if j, up2_k (by decide), up2_k (by decide), h.2.2.1]
  · rw [← h.1]; exact funext fun j => by rw [up2_k (by decide), up2_k (by decide), up2_k (by decide)]
set_option maxHeartbeats 4000000 in
set_option maxRecDepth 100000 in
theorem M_rule {l : Launch} {G : GT} {h0 : Nat} {ad ln : Nat → Nat} {v : Nat → Int} {a : Nat → Nat → Int} {t x m1 : Int} (hB : BX v a) (hT : TBL v a) (hS : STK ln v a) (ht : -2147483648 ≤ t ∧ t ≤ 2147483647) (hx : -2147483648 ≤ x ∧ x ≤ 2147483647) (hm1 : -2147483648 ≤ m1 ∧ m1 ≤ 2147483647) (h19 : v 19 ≤ 2044) : Mn l G yX12_rule cX12_rule 8 (some .int) 2 [.int (iI t), .int (iI x), .int (iI m1)] h0 ad ln v a 1 4110 (fun r ln2 v2 a2 => ∃ f : Int, r = some (.int (iI f)) ∧ fr [0, 1, 3, 19] [10, 11, 12, 13, 14, 15, 18, 70] v a v2 a2 ∧ BX v2 a2 ∧ (TBL v2 a2 ∧ STK ln2 v2 a2 ∧ v2 19 ≤ v 19 + 4 ∧ v2 3 = 0 ∧ ((f = -1 ∧ TSAME v a v2 a2 ∧ ¬ ((0 ≤ t ∧ t < v 4 ∧ a 5 t.toNat = 1 ∧ a 6 t.toNat ≠ 5 ∧ 0 ≤ x ∧ x ≤ 5 ∧ 1 ≤ m1 ∧ m1 ≤ 8 ∧ 1 ≤ v 3 - m1 ∧ v 3 - m1 ≤ 4 ∧ a 10 t.toNat ≠ 200) ∧ ACL (a 2) m1 (v 3 - m1) (DC (a 7 t.toNat)) ∧ LTK (a 2) m1)) ∨ (f = a 10 t.toNat ∧ ((0 ≤ t ∧ t < v 4 ∧ a 5 t.toNat = 1 ∧ a 6 t.toNat ≠ 5 ∧ 0 ≤ x ∧ x ≤ 5 ∧ 1 ≤ m1 ∧ m1 ≤ 8 ∧ 1 ≤ v 3 - m1 ∧ v 3 - m1 ≤ 4 ∧ a 10 t.toNat ≠ 200) ∧ ACL (a 2) m1 (v 3 - m1) (DC (a 7 t.toNat)) ∧ LTK (a 2) m1) ∧ TRUL t x m1 v a v2 a2)))) := by
  refine Mn.mk (by decide) (Nat.le_of_ble_eq_true rfl) ?_
  intro p e s m args below meth c A C
  have h30 : 0 ≤ v 4 ∧ v 4 ≤ 30 := hB.1 4
  obtain ⟨n9, hn9, hk9⟩ := hS.2.2
  refine hv3 (hS.1) (hS.2.1) (show fr [0, 1, 3, 19] [10, 11, 12, 13, 14, 15, 18, 70] v a v a from fr.refl) (fun hl1 hl2 fp0 => ?_)
  refine m_aload_n (j := 0) C dX12_rule_0 rfl ?_
  have rv1 : 0 ≤ v 3 ∧ v 3 ≤ 3000 := hB.1 3
  refine m_call (mc2 := 0) (ms2 := 0) (As := []) (rest := []) C (B_taken  hB ) dX12_rule_1 kV_X12_192 rfl ck_13 rfl (Nat.le_of_ble_eq_true rfl) ⟨Nat.le_of_ble_eq_true rfl, Nat.le_of_ble_eq_true rfl⟩ ⟨Nat.le_of_ble_eq_true rfl, Nat.le_of_ble_eq_true rfl⟩ (fun rh1 vh1 ah1 h1 => ?_)
  obtain ⟨f1, rfl, fn1, bn1, ex1⟩ := h1
  refine hv7 (fp0.call fn1 rfl rfl) (show KS v a vh1 ah1 from KS.fr (⟨rfl, rfl⟩ : KS v a v a) fn1 rfl rfl) (show TBL vh1 ah1 from TBL.fr hT fn1 rfl rfl) (show STK ln vh1 ah1 from STK.fr hS fn1 rfl rfl) (show UN a ah1 from UN.fr (⟨rfl, rfl, rfl, rfl, rfl, rfl⟩ : UN a a) fn1 rfl) (show 0 ≤ vh1 3 ∧ vh1 3 ≤ 3000 from bn1.1 3) (show f1 = (v 3) ∧ (vh1 3) = 0 from ex1) (fun fq1 pw1 pw2 pw3 pw4 rv2 gf1 => ?_)
  refine m_st (st2 := [.int (iI f1)]) rfl ?_
  refine m_istore (lv2 := [(4, .int (iI f1)), (0, .ref h0), (1, .int (iI t)), (2, .int (iI x)), (3, .int (iI m1))]) C dX12_rule_4 (by decide) rfl ?_
  refine m_aload_n (j := 1) C dX12_rule_6 rfl ?_
  refine m_iload_n (j := 2) C dX12_rule_7 rfl ?_
  refine hv2 (show 0 ≤ vh1 4 ∧ vh1 4 ≤ 30 from bn1.1 4) (show vh1 4 = v 4 from fn1.1 4 rfl) (fun rv3 ve1 => ?_)
  refine m_call (mc2 := 0) (ms2 := 0) (As := [.int (iI t)]) (rest := []) C (B_isTable (t := t) bn1 (by show -2147483648 ≤ t ∧ t ≤ 2147483647; omega)) dX12_rule_8 kV_X12_167 rfl ck_13 rfl (Nat.le_of_ble_eq_true rfl) ⟨Nat.le_of_ble_eq_true rfl, Nat.le_of_ble_eq_true rfl⟩ ⟨Nat.le_of_ble_eq_true rfl, Nat.le_of_ble_eq_true rfl⟩ (fun rh2 vh2 ah2 h2 => ?_)
  obtain ⟨f2, rfl, fn2, bn2, ex2⟩ := h2
  obtain ⟨rfl, rfl⟩ := fn2.eq
  refine hv3 (show (f2 = 0 ∧ (t < 0 ∨ (vh1 4) ≤ t ∨ ah1 5 t.toNat = 0)) ∨ (f2 = 1 ∧ 0 ≤ t ∧ t < (vh1 4) ∧ ah1 5 t.toNat = 1) from ex2) (show 0 ≤ ah1 5 t.toNat ∧ ah1 5 t.toNat ≤ 1 from bn1.2 5 (t.toNat)) (show ah1 5 (t.toNat) = a 5 (t.toNat) from congrFun (fn1.2 5 rfl) (t.toNat)) (fun gf2 ra1 ae1 => ?_)
  refine m_st (st2 := [.int (iI f2)]) rfl ?_
  refine m_if_ne (tgt := 20) C (r32_pq gf2) dX12_rule_11 (by decide) (fun c1 => ?_) (fun c1 => ?_)
  · replace gf2 := (gf2.resolve_left (fun q => c1 q.1))
    refine m_aload_n (j := 1) C dX12_rule_20 rfl ?_
    refine m_geta (k := 6) C dX12_rule_21 w6_65 (by decide) rfl ?_
    refine m_iload_n (j := 2) C dX12_rule_24 rfl ?_
    refine m_ald (k := 6) C dX12_rule_25 rfl rfl (by decide) (by omega) (by show _ < ((_ : Nat) : Int); simp only [mlen]; omega) (by decide) ?_
    refine hv2 (show 0 ≤ ah1 6 t.toNat ∧ ah1 6 t.toNat ≤ 5 from bn1.2 6 (t.toNat)) (show ah1 6 (t.toNat) = a 6 (t.toNat) from congrFun (fn1.2 6 rfl) (t.toNat)) (fun ra2 ae2 => ?_)
    refine m_st (st2 := [.int (iI (a 6 t.toNat))]) (congrArg (fun z => Value.int (iI z) :: []) (congrFun (fq1.2 6 rfl) (t.toNat))) ?_
    refine m_iconst C dX12_rule_26 ?_
    refine m_icmp_ne (tgt := 36) C ⟨by omega, by omega⟩ ⟨by decide, by decide⟩ dX12_rule_27 (by decide) (fun c2 => ?_) (fun c2 => ?_)
    · refine m_iload_n (j := 4) C dX12_rule_36 rfl ?_
      refine m_if_ge (tgt := 46) C ⟨by omega, by omega⟩ dX12_rule_37 (by decide) (fun c3 => ?_) (fun c3 => ?_)
      · refine m_iload_n (j := 3) C dX12_rule_46 rfl ?_
        refine m_iconst C dX12_rule_47 ?_
        refine m_iconst C dX12_rule_48 ?_
        refine m_callS (As := [.int (iI x), .int (iI 0), .int (iI 5)]) (rest := []) C (fun L E => s_isIn (iI x) (iI 0) (iI 5)) dX12_rule_49 kS_X12_174 rfl rfl (Nat.le_of_ble_eq_true rfl) ⟨Nat.le_of_ble_eq_true rfl, Nat.le_of_ble_eq_true rfl⟩ ⟨Nat.le_of_ble_eq_true rfl, Nat.le_of_ble_eq_true rfl⟩ ?_
        rcases inn_c (x := x) (lo := 0) (hi := 5) ⟨by omega, by omega⟩ ⟨by decide, by decide⟩ ⟨by decide, by decide⟩ with ⟨h3a, h3b, h3e⟩ | ⟨h3a, h3e⟩
        · refine m_st (st2 := [.int (iI 1)]) (by rw [h3e]) ?_
          refine m_if_eq (tgt := 102) C ⟨by decide, by decide⟩ dX12_rule_52 (by decide) (fun z => absurd z (by omega)) (fun _ => ?_)
          refine m_iload_n (j := 4) C dX12_rule_55 rfl ?_
          refine m_iconst C dX12_rule_56 ?_
          refine m_bipush (z := 8) C dX12_rule_57 (by decide) ?_
          refine m_callS (As := [.int (iI m1), .int (iI 1), .int (iI 8)]) (rest := []) C (fun L E => s_isIn (iI m1) (iI 1) (iI 8)) dX12_rule_59 kS_X12_174 rfl rfl (Nat.le_of_ble_eq_true rfl) ⟨Nat.le_of_ble_eq_true rfl, Nat.le_of_ble_eq_true rfl⟩ ⟨Nat.le_of_ble_eq_true rfl, Nat.le_of_ble_eq_true rfl⟩ ?_
          rcases inn_c (x := m1) (lo := 1) (hi := 8) ⟨by omega, by omega⟩ ⟨by decide, by decide⟩ ⟨by decide, by decide⟩ with ⟨h4a, h4b, h4e⟩ | ⟨h4a, h4e⟩
          · refine m_st (st2 := [.int (iI 1)]) (by rw [h4e]) ?_
            refine m_if_eq (tgt := 102) C ⟨by decide, by decide⟩ dX12_rule_62 (by decide) (fun z => absurd z (by omega)) (fun _ => ?_)
            refine m_iload (j := 0) C dX12_rule_65 rfl ?_
            refine m_iload_n (j := 4) C dX12_rule_67 rfl ?_
            refine m_isub C dX12_rule_68 ?_
            refine m_iconst C dX12_rule_69 ?_
            refine m_iconst C dX12_rule_70 ?_
            refine m_callS (As := [.int (iI (f1 - m1)), .int (iI 1), .int (iI 4)]) (rest := []) C (fun L E => s_isIn (iI (f1 - m1)) (iI 1) (iI 4)) dX12_rule_71 kS_X12_174 rfl rfl (Nat.le_of_ble_eq_true rfl) ⟨Nat.le_of_ble_eq_true rfl, Nat.le_of_ble_eq_true rfl⟩ ⟨Nat.le_of_ble_eq_true rfl, Nat.le_of_ble_eq_true rfl⟩ ?_
            rcases inn_c (x := f1 - m1) (lo := 1) (hi := 4) ⟨by omega, by omega⟩ ⟨by decide, by decide⟩ ⟨by decide, by decide⟩ with ⟨h5a, h5b, h5e⟩ | ⟨h5a, h5e⟩
            · refine m_st (st2 := [.int (iI 1)]) (by rw [h5e]) ?_
              refine m_if_eq (tgt := 102) C ⟨by decide, by decide⟩ dX12_rule_74 (by decide) (fun z => absurd z (by omega)) (fun _ => ?_)
              refine m_aload_n (j := 1) C dX12_rule_77 rfl ?_
              refine m_geta (k := 10) C dX12_rule_78 w6_69 (by decide) rfl ?_
              refine m_iload_n (j := 2) C dX12_rule_81 rfl ?_
              refine m_ald (k := 10) C dX12_rule_82 rfl rfl (by decide) (by omega) (by show _ < ((_ : Nat) : Int); simp only [mlen]; omega) (by decide) ?_
              refine hv2 (show 0 ≤ ah1 10 t.toNat ∧ ah1 10 t.toNat ≤ 200 from bn1.2 10 (t.toNat)) (show ah1 10 (t.toNat) = a 10 (t.toNat) from congrFun (fn1.2 10 rfl) (t.toNat)) (fun ra3 ae3 => ?_)
              refine m_sipush (z := 200) C dX12_rule_83 (by decide) ?_
              refine m_icmp_eq (tgt := 102) C (r32_c (lo := 0) (hi := 200) ra3.1 ra3.2 (by decide) (by decide)) ⟨by decide, by decide⟩ dX12_rule_86 (by decide) (fun c4 => ?_) (fun c4 => ?_)
              · refine m_aload_n (j := 1) C dX12_rule_102 rfl ?_
                refine m_bipush (z := 6) C dX12_rule_103 (by decide) ?_
                refine m_call (mc2 := 0) (ms2 := 0) (As := [.int (iI 6)]) (rest := []) C (B_bad (x := 6) bn1 (by show -2147483648 ≤ (6 : Int) ∧ (6 : Int) ≤ 2147483647; omega)) dX12_rule_105 kV_X12_154 rfl ck_13 rfl (Nat.le_of_ble_eq_true rfl) ⟨Nat.le_of_ble_eq_true rfl, Nat.le_of_ble_eq_true rfl⟩ ⟨Nat.le_of_ble_eq_true rfl, Nat.le_of_ble_eq_true rfl⟩ (fun rh6 vh6 ah6 h6 => ?_)
                obtain ⟨f3, rfl, fn3, bn3, ex3⟩ := h6
                refine hv6 (fq1.call fn3 rfl rfl) (show KS v a vh6 ah6 from KS.fr pw1 fn3 rfl rfl) (show TBL vh6 ah6 from TBL.fr pw2 fn3 rfl rfl) (show STK ln vh6 ah6 from STK.fr pw3 fn3 rfl rfl) (show UN a ah6 from UN.fr pw4 fn3 rfl) (show f3 = -1 from ex3) (fun fq3 pw5 pw6 pw7 pw8 gf3 => ?_)
                refine m_st (st2 := [.int (iI f3)]) rfl ?_
                refine hv6 (show (-2147483648) ≤ vh6 19 ∧ vh6 19 ≤ 2147483647 from bn3.1 19) (show vh6 19 = vh1 19 from fn3.1 19 rfl) (show vh1 19 = v 19 from fn1.1 19 rfl) ((pw5).1) (show 0 ≤ vh6 3 ∧ vh6 3 ≤ 3000 from bn3.1 3) (show vh6 3 = vh1 3 from fn3.1 3 rfl) (fun rv4 ve2 ve3 ksx1 rv5 ve4 => ?_)
                exact n_iret C dX12_rule_108 rfl (Nat.le_of_ble_eq_true rfl) (Nat.le_of_ble_eq_true rfl) ⟨f3, rfl, fq3, bn3, ⟨pw6, pw7, (by show vh6 19 ≤ v 19 + 4; omega), (by show vh6 3 = 0; omega), Or.inl ⟨by omega, ⟨(fq3.1 4 rfl), (fq3.2 5 rfl), (fq3.2 6 rfl), (fq3.2 7 rfl), (pw8).1, (pw5).1, (pw5).2, (pw8).2.2.2.1, ⟨(fq3.2 8 rfl), (fq3.2 9 rfl), (pw8).2.1, (pw8).2.2.1, (pw8).2.2.2.2.1, (pw8).2.2.2.2.2, (fq3.2 16 rfl), (fq3.2 17 rfl)⟩⟩, (fun q => by have q1 := q.1; first | omega)⟩⟩⟩
              · refine m_aload_n (j := 1) C dX12_rule_89 rfl ?_
                refine m_iload_n (j := 2) C dX12_rule_90 rfl ?_
                refine m_iload_n (j := 4) C dX12_rule_91 rfl ?_
                refine m_iload (j := 0) C dX12_rule_92 rfl ?_
                refine m_iload_n (j := 4) C dX12_rule_94 rfl ?_
                refine m_isub C dX12_rule_95 ?_
                refine m_call (mc2 := 0) (ms2 := 0) (As := [.int (iI t), .int (iI m1), .int (iI (f1 - m1))]) (rest := []) C (B_areCells (t := t) (q := m1) (u := f1 - m1) bn1 (by show 0 ≤ t ∧ t < 30; omega) (by show 0 ≤ m1 ∧ m1 ≤ 3000; omega) (by show 0 ≤ (f1 - m1) ∧ m1 + (f1 - m1) ≤ 3000; omega)) dX12_rule_96 kV_X12_196 rfl ck_13 rfl (Nat.le_of_ble_eq_true rfl) ⟨Nat.le_of_ble_eq_true rfl, Nat.le_of_ble_eq_true rfl⟩ ⟨Nat.le_of_ble_eq_true rfl, Nat.le_of_ble_eq_true rfl⟩ (fun rh7 vh7 ah7 h7 => ?_)
                obtain ⟨f4, rfl, fn4, bn4, ex4⟩ := h7
                obtain ⟨rfl, rfl⟩ := fn4.eq
                refine hv3 (show (f4 = 0 ∨ f4 = 1) ∧ (f4 = 1 ↔ ACL (ah1 2) m1 (f1 - m1) (DC (ah1 7 t.toNat))) from ex4) (show (-2147483648) ≤ ah1 7 t.toNat ∧ ah1 7 t.toNat ≤ 2147483647 from bn1.2 7 (t.toNat)) (show ah1 7 (t.toNat) = a 7 (t.toNat) from congrFun (fn1.2 7 rfl) (t.toNat)) (fun gf4 ra4 ae4 => ?_)
                have acf4 : f4 = 1 ↔ ACL (a 2) m1 (f1 - m1) (DC (a 7 t.toNat)) := by
                  have q := gf4.2
                  rw [fq1.2 2 rfl, fq1.2 7 rfl] at q
                  exact q
                refine m_st (st2 := [.int (iI f4)]) rfl ?_
                refine m_if_ne (tgt := 109) C (r32_01 gf4.1) dX12_rule_99 (by decide) (fun c5 => ?_) (fun c5 => ?_)
                · replace gf4 := (And.intro (gf4.1.resolve_left c5) gf4.2)
                  refine m_iconst C dX12_rule_109 ?_
                  refine m_istore (lv2 := [(5, .int (iI 1)), (4, .int (iI f1)), (0, .ref h0), (1, .int (iI t)), (2, .int (iI x)), (3, .int (iI m1))]) C dX12_rule_110 (by decide) rfl ?_
                  refine m_iconst C dX12_rule_112 ?_
                  refine m_istore (lv2 := [(6, .int (iI 0)), (5, .int (iI 1)), (4, .int (iI f1)), (0, .ref h0), (1, .int (iI t)), (2, .int (iI x)), (3, .int (iI m1))]) C dX12_rule_113 (by decide) rfl ?_
                  have Lp1 : ∀ (nn : Nat) (g k : Int) (vb1 : Nat → Int) (ab1 : Nat → Nat → Int), 9 - k < (nn : Int) → BX vb1 ab1 → fr [0, 1, 3, 19] [10, 11, 12, 13, 14, 15, 18, 70] v a vb1 ab1 → (g = 0 ∨ g = 1) → (0 ≤ k ∧ k ≤ m1) → (KS v a vb1 ab1) → (TBL vb1 ab1) → (STK ln vb1 ab1) → (UN a ab1) → (g = 1 → ∀ j : Int, 0 ≤ j → j < k → (33 ≤ a 2 j.toNat ∧ a 2 j.toNat ≤ 125)) → (g = 1 ↔ LTK (a 2) k) → (vb1 3 = 0) → mw p l e (rmq 2 1 4110) s m args below meth c G A 8 (MQ below (Qm G A (fun rq Lq Eq => ∃ (adq lnq : Nat → Nat) (vq : Nat → Int) (aq : Nat → Nat → Int), mI G h0 adq lnq vq aq Lq Eq ∧ (fun r ln2 v2 a2 => ∃ f : Int, r = some (.int (iI f)) ∧ fr [0, 1, 3, 19] [10, 11, 12, 13, 14, 15, 18, 70] v a v2 a2 ∧ BX v2 a2 ∧ (TBL v2 a2 ∧ STK ln2 v2 a2 ∧ v2 19 ≤ v 19 + 4 ∧ v2 3 = 0 ∧ ((f = -1 ∧ TSAME v a v2 a2 ∧ ¬ ((0 ≤ t ∧ t < v 4 ∧ a 5 t.toNat = 1 ∧ a 6 t.toNat ≠ 5 ∧ 0 ≤ x ∧ x ≤ 5 ∧ 1 ≤ m1 ∧ m1 ≤ 8 ∧ 1 ≤ v 3 - m1 ∧ v 3 - m1 ≤ 4 ∧ a 10 t.toNat ≠ 200) ∧ ACL (a 2) m1 (v 3 - m1) (DC (a 7 t.toNat)) ∧ LTK (a 2) m1)) ∨ (f = a 10 t.toNat ∧ ((0 ≤ t ∧ t < v 4 ∧ a 5 t.toNat = 1 ∧ a 6 t.toNat ≠ 5 ∧ 0 ≤ x ∧ x ≤ 5 ∧ 1 ≤ m1 ∧ m1 ≤ 8 ∧ 1 ≤ v 3 - m1 ∧ v 3 - m1 ≤ 4 ∧ a 10 t.toNat ≠ 200) ∧ ACL (a 2) m1 (v 3 - m1) (DC (a 7 t.toNat)) ∧ LTK (a 2) m1) ∧ TRUL t x m1 v a v2 a2)))) rq lnq vq aq)) args s 1 4110 A) h0 ad ln vb1 ab1 0 0 115 [(6, .int (iI k)), (5, .int (iI g)), (4, .int (iI f1)), (0, .ref h0), (1, .int (iI t)), (2, .int (iI x)), (3, .int (iI m1))] [] := by
                    intro nn
                    induction nn with
                    | zero =>
                      intro g k vb1 ab1 hm bxb1 fpb1 hg hk hKa hTa hSa hUa hL hM hz30
                      exact absurd hm (by omega)
                    | succ nn ih1 =>
                      intro g k vb1 ab1 hm bxb1 fpb1 hg hk hKa hTa hSa hUa hL hM hz30
                      refine m_iload (j := 0) C dX12_rule_115 rfl ?_
                      refine m_iload_n (j := 6) C dX12_rule_117 rfl ?_
                      refine m_icmp_ge (tgt := 152) C ⟨by omega, by omega⟩ ⟨by omega, by omega⟩ dX12_rule_118 (by decide) (fun c6 => ?_) (fun c6 => ?_)
                      · refine m_iload (j := 1) C dX12_rule_152 rfl ?_
                        refine m_if_ne (tgt := 164) C (r32_01 hg) dX12_rule_154 (by decide) (fun c7 => ?_) (fun c7 => ?_)
                        · replace hg := (hg.resolve_left c7)
                          refine m_sipush (z := 200) C dX12_rule_164 (by decide) ?_
                          refine m_iload_n (j := 4) C dX12_rule_167 rfl ?_
                          refine m_imul C dX12_rule_168 ?_
                          refine m_aload_n (j := 3) C dX12_rule_169 rfl ?_
                          refine m_geta (k := 10) C dX12_rule_170 w6_69 (by decide) rfl ?_
                          refine m_iload_n (j := 4) C dX12_rule_173 rfl ?_
                          refine m_ald (k := 10) C dX12_rule_174 rfl rfl (by decide) (by omega) (by show _ < ((_ : Nat) : Int); simp only [mlen]; omega) (by decide) ?_
                          have ra5 : 0 ≤ ab1 10 t.toNat ∧ ab1 10 t.toNat ≤ 200 := bxb1.2 10 (t.toNat)
                          refine m_iadd C dX12_rule_175 ?_
                          have u10 : ab1 10 t.toNat = a 10 t.toNat := congrFun (hUa).1 _
                          refine m_istore (lv2 := [(6, .int (iI ((200 * t) + (ab1 10 t.toNat)))), (5, .int (iI g)), (4, .int (iI f1)), (0, .ref h0), (1, .int (iI t)), (2, .int (iI x)), (3, .int (iI m1))]) C dX12_rule_176 (by decide) rfl ?_
                          have J1 : ∀ (rr : Int) (vb2 : Nat → Int) (ab2 : Nat → Nat → Int), BX vb2 ab2 → fr [0, 1, 3, 19] [10, 11, 12, 13, 14, 15, 18, 70] v a vb2 ab2 → (rr = 200 * t + a 10 t.toNat) → (0 ≤ a 10 t.toNat ∧ a 10 t.toNat < 200) → (KS v a vb2 ab2) → (UN a ab2) → (∀ j : Int, 0 ≤ j → j < m1 → (33 ≤ a 2 j.toNat ∧ a 2 j.toNat ≤ 125)) → (vb2 3 = 0) → mw p l e (rmq 2 1 4110) s m args below meth c G A 8 (MQ below (Qm G A (fun rq Lq Eq => ∃ (adq lnq : Nat → Nat) (vq : Nat → Int) (aq : Nat → Nat → Int), mI G h0 adq lnq vq aq Lq Eq ∧ (fun r ln2 v2 a2 => ∃ f : Int, r = some (.int (iI f)) ∧ fr [0, 1, 3, 19] [10, 11, 12, 13, 14, 15, 18, 70] v a v2 a2 ∧ BX v2 a2 ∧ (TBL v2 a2 ∧ STK ln2 v2 a2 ∧ v2 19 ≤ v 19 + 4 ∧ v2 3 = 0 ∧ ((f = -1 ∧ TSAME v a v2 a2 ∧ ¬ ((0 ≤ t ∧ t < v 4 ∧ a 5 t.toNat = 1 ∧ a 6 t.toNat ≠ 5 ∧ 0 ≤ x ∧ x ≤ 5 ∧ 1 ≤ m1 ∧ m1 ≤ 8 ∧ 1 ≤ v 3 - m1 ∧ v 3 - m1 ≤ 4 ∧ a 10 t.toNat ≠ 200) ∧ ACL (a 2) m1 (v 3 - m1) (DC (a 7 t.toNat)) ∧ LTK (a 2) m1)) ∨ (f = a 10 t.toNat ∧ ((0 ≤ t ∧ t < v 4 ∧ a 5 t.toNat = 1 ∧ a 6 t.toNat ≠ 5 ∧ 0 ≤ x ∧ x ≤ 5 ∧ 1 ≤ m1 ∧ m1 ≤ 8 ∧ 1 ≤ v 3 - m1 ∧ v 3 - m1 ≤ 4 ∧ a 10 t.toNat ≠ 200) ∧ ACL (a 2) m1 (v 3 - m1) (DC (a 7 t.toNat)) ∧ LTK (a 2) m1) ∧ TRUL t x m1 v a v2 a2)))) rq lnq vq aq)) args s 1 4110 A) h0 ad ln vb2 ab2 0 0 178 [(6, .int (iI rr)), (5, .int (iI g)), (4, .int (iI f1)), (0, .ref h0), (1, .int (iI t)), (2, .int (iI x)), (3, .int (iI m1))] [] := by
                            intro rr vb2 ab2 bxb2 fpb2 hrr hr2 hKb hUb hLf hz32
                            refine m_aload_n (j := 3) C dX12_rule_178 rfl ?_
                            refine m_geta (k := 11) C dX12_rule_179 w6_70 (by decide) rfl ?_
                            refine m_iload (j := 0) C dX12_rule_182 rfl ?_
                            refine m_iload_n (j := 5) C dX12_rule_184 rfl ?_
                            refine m_ast (k := 11) C dX12_rule_185 rfl rfl (by decide) (by omega) (by show _ < ((_ : Nat) : Int); simp only [mlen]; omega) (by decide) ?_
                            refine hv3 (show BX vb2 (up2 ab2 11 rr.toNat x) from bxb2.set (k := 11) (i := rr.toNat) (z := x) (show (-2147483648) ≤ x ∧ x ≤ 2147483647 by omega)) (fpb2.set (k := 11) (i := rr.toNat) (z := x) rfl) (show KS v a vb2 (up2 ab2 11 rr.toNat x) from KS.set hKb (k := 11) (i := rr.toNat) (z := x) (by decide)) (fun bq1 fq5 pw9 => ?_)
                            refine m_aload_n (j := 3) C dX12_rule_186 rfl ?_
                            refine m_geta (k := 12) C dX12_rule_187 w6_71 (by decide) rfl ?_
                            refine m_iload (j := 0) C dX12_rule_190 rfl ?_
                            refine m_iload_n (j := 6) C dX12_rule_192 rfl ?_
                            refine m_ast (k := 12) C dX12_rule_193 rfl rfl (by decide) (by omega) (by show _ < ((_ : Nat) : Int); simp only [mlen]; omega) (by decide) ?_
                            refine hv3 (show BX vb2 (up2 (up2 ab2 11 rr.toNat x) 12 rr.toNat m1) from bq1.set (k := 12) (i := rr.toNat) (z := m1) (show 0 ≤ m1 ∧ m1 ≤ 8 by omega)) (fq5.set (k := 12) (i := rr.toNat) (z := m1) rfl) (show KS v a vb2 (up2 (up2 ab2 11 rr.toNat x) 12 rr.toNat m1) from KS.set pw9 (k := 12) (i := rr.toNat) (z := m1) (by decide)) (fun bq2 fq6 pw10 => ?_)
                            refine m_aload_n (j := 3) C dX12_rule_194 rfl ?_
                            refine m_geta (k := 13) C dX12_rule_195 w6_72 (by decide) rfl ?_
                            refine m_iload (j := 0) C dX12_rule_198 rfl ?_
                            refine m_iload (j := 2) C dX12_rule_200 rfl ?_
                            refine m_iload_n (j := 6) C dX12_rule_202 rfl ?_
                            refine m_isub C dX12_rule_203 ?_
                            refine m_ast (k := 13) C dX12_rule_204 rfl rfl (by decide) (by omega) (by show _ < ((_ : Nat) : Int); simp only [mlen]; omega) (by decide) ?_
                            refine hv7 (show BX vb2 (up2 (up2 (up2 ab2 11 rr.toNat x) 12 rr.toNat m1) 13 rr.toNat (f1 - m1)) from bq2.set (k := 13) (i := rr.toNat) (z := f1 - m1) (show 0 ≤ (f1 - m1) ∧ (f1 - m1) ≤ 4 by omega)) (fq6.set (k := 13) (i := rr.toNat) (z := f1 - m1) rfl) (show KS v a vb2 (up2 (up2 (up2 ab2 11 rr.toNat x) 12 rr.toNat m1) 13 rr.toNat (f1 - m1)) from KS.set pw10 (k := 13) (i := rr.toNat) (z := f1 - m1) (by decide)) (show RUL a rr m1 (f1 - m1) (up2 (up2 (up2 ab2 11 rr.toNat x) 12 rr.toNat m1) 13 rr.toNat (f1 - m1)) from UN.rul (n := 0) (w1 := 0) hUb) (show C11 a rr x (up2 (up2 (up2 ab2 11 rr.toNat x) 12 rr.toNat m1) 13 rr.toNat (f1 - m1)) from C11.mk (hUb).2.2.2.1) (show (up2 (up2 (up2 ab2 11 rr.toNat x) 12 rr.toNat m1) 13 rr.toNat (f1 - m1)) 14 = a 14 from (funext fun _ => by rw [up2_k (by decide), up2_k (by decide), up2_k (by decide)]).trans (hUb).2.2.2.2.1) (show (up2 (up2 (up2 ab2 11 rr.toNat x) 12 rr.toNat m1) 13 rr.toNat (f1 - m1)) 15 = a 15 from (funext fun _ => by rw [up2_k (by decide), up2_k (by decide), up2_k (by decide)]).trans (hUb).2.2.2.2.2) (fun bq3 fq7 pw11 pw12 pw13 u14 u15 => ?_)
                            refine m_iconst C dX12_rule_205 ?_
                            refine m_istore (lv2 := [(7, .int (iI 0)), (6, .int (iI rr)), (5, .int (iI g)), (4, .int (iI f1)), (0, .ref h0), (1, .int (iI t)), (2, .int (iI x)), (3, .int (iI m1))]) C dX12_rule_206 (by decide) rfl ?_
                            have Lp2 : ∀ (nn : Nat) (k2 : Int) (vb3 : Nat → Int) (ab3 : Nat → Nat → Int), 9 - k2 < (nn : Int) → BX vb3 ab3 → fr [0, 1, 3, 19] [10, 11, 12, 13, 14, 15, 18, 70] v a vb3 ab3 → (0 ≤ k2 ∧ k2 ≤ m1) → (KS v a vb3 ab3) → (RUL a rr m1 (f1 - m1) ab3) → (C11 a rr x ab3) → (FIL (ab3 14) (a 14) (8 * rr).toNat k2.toNat 8 (a 2)) → (ab3 15 = a 15) → (vb3 3 = 0) → mw p l e (rmq 2 1 4110) s m args below meth c G A 8 (MQ below (Qm G A (fun rq Lq Eq => ∃ (adq lnq : Nat → Nat) (vq : Nat → Int) (aq : Nat → Nat → Int), mI G h0 adq lnq vq aq Lq Eq ∧ (fun r ln2 v2 a2 => ∃ f : Int, r = some (.int (iI f)) ∧ fr [0, 1, 3, 19] [10, 11, 12, 13, 14, 15, 18, 70] v a v2 a2 ∧ BX v2 a2 ∧ (TBL v2 a2 ∧ STK ln2 v2 a2 ∧ v2 19 ≤ v 19 + 4 ∧ v2 3 = 0 ∧ ((f = -1 ∧ TSAME v a v2 a2 ∧ ¬ ((0 ≤ t ∧ t < v 4 ∧ a 5 t.toNat = 1 ∧ a 6 t.toNat ≠ 5 ∧ 0 ≤ x ∧ x ≤ 5 ∧ 1 ≤ m1 ∧ m1 ≤ 8 ∧ 1 ≤ v 3 - m1 ∧ v 3 - m1 ≤ 4 ∧ a 10 t.toNat ≠ 200) ∧ ACL (a 2) m1 (v 3 - m1) (DC (a 7 t.toNat)) ∧ LTK (a 2) m1)) ∨ (f = a 10 t.toNat ∧ ((0 ≤ t ∧ t < v 4 ∧ a 5 t.toNat = 1 ∧ a 6 t.toNat ≠ 5 ∧ 0 ≤ x ∧ x ≤ 5 ∧ 1 ≤ m1 ∧ m1 ≤ 8 ∧ 1 ≤ v 3 - m1 ∧ v 3 - m1 ≤ 4 ∧ a 10 t.toNat ≠ 200) ∧ ACL (a 2) m1 (v 3 - m1) (DC (a 7 t.toNat)) ∧ LTK (a 2) m1) ∧ TRUL t x m1 v a v2 a2)))) rq lnq vq aq)) args s 1 4110 A) h0 ad ln vb3 ab3 0 0 208 [(7, .int (iI k2)), (6, .int (iI rr)), (5, .int (iI g)), (4, .int (iI f1)), (0, .ref h0), (1, .int (iI t)), (2, .int (iI x)), (3, .int (iI m1))] [] := by
                              intro nn
                              induction nn with
                              | zero =>
                                intro k2 vb3 ab3 hm bxb3 fpb3 hk2 hKc hRc hCc hLT hC15 hz33
                                exact absurd hm (by omega)
                              | succ nn ih2 =>
                                intro k2 vb3 ab3 hm bxb3 fpb3 hk2 hKc hRc hCc hLT hC15 hz33
                                refine m_iload (j := 0) C dX12_rule_208 rfl ?_
                                refine m_iload_n (j := 7) C dX12_rule_210 rfl ?_
                                refine m_icmp_ge (tgt := 240) C ⟨by omega, by omega⟩ ⟨by omega, by omega⟩ dX12_rule_211 (by decide) (fun c8 => ?_) (fun c8 => ?_)
                                · refine m_iload_n (j := 7) C dX12_rule_240 rfl ?_
                                  refine m_istore (lv2 := [(7, .int (iI m1)), (6, .int (iI rr)), (5, .int (iI g)), (4, .int (iI f1)), (0, .ref h0), (1, .int (iI t)), (2, .int (iI x)), (3, .int (iI m1))]) C dX12_rule_241 (by decide) rfl ?_
                                  have Lp3 : ∀ (nn : Nat) (k3 : Int) (vb4 : Nat → Int) (ab4 : Nat → Nat → Int), f1 + 1 - k3 < (nn : Int) → BX vb4 ab4 → fr [0, 1, 3, 19] [10, 11, 12, 13, 14, 15, 18, 70] v a vb4 ab4 → (m1 ≤ k3 ∧ k3 ≤ f1) → (KS v a vb4 ab4) → (RUL a rr m1 (f1 - m1) ab4) → (C11 a rr x ab4) → (FIL (ab4 14) (a 14) (8 * rr).toNat m1.toNat 8 (a 2)) → (FIL (ab4 15) (a 15) (4 * rr).toNat (k3 - m1).toNat 4 (fun k => a 2 (m1.toNat + k))) → (vb4 3 = 0) → mw p l e (rmq 2 1 4110) s m args below meth c G A 8 (MQ below (Qm G A (fun rq Lq Eq => ∃ (adq lnq : Nat → Nat) (vq : Nat → Int) (aq : Nat → Nat → Int), mI G h0 adq lnq vq aq Lq Eq ∧ (fun r ln2 v2 a2 => ∃ f : Int, r = some (.int (iI f)) ∧ fr [0, 1, 3, 19] [10, 11, 12, 13, 14, 15, 18, 70] v a v2 a2 ∧ BX v2 a2 ∧ (TBL v2 a2 ∧ STK ln2 v2 a2 ∧ v2 19 ≤ v 19 + 4 ∧ v2 3 = 0 ∧ ((f = -1 ∧ TSAME v a v2 a2 ∧ ¬ ((0 ≤ t ∧ t < v 4 ∧ a 5 t.toNat = 1 ∧ a 6 t.toNat ≠ 5 ∧ 0 ≤ x ∧ x ≤ 5 ∧ 1 ≤ m1 ∧ m1 ≤ 8 ∧ 1 ≤ v 3 - m1 ∧ v 3 - m1 ≤ 4 ∧ a 10 t.toNat ≠ 200) ∧ ACL (a 2) m1 (v 3 - m1) (DC (a 7 t.toNat)) ∧ LTK (a 2) m1)) ∨ (f = a 10 t.toNat ∧ ((0 ≤ t ∧ t < v 4 ∧ a 5 t.toNat = 1 ∧ a 6 t.toNat ≠ 5 ∧ 0 ≤ x ∧ x ≤ 5 ∧ 1 ≤ m1 ∧ m1 ≤ 8 ∧ 1 ≤ v 3 - m1 ∧ v 3 - m1 ≤ 4 ∧ a 10 t.toNat ≠ 200) ∧ ACL (a 2) m1 (v 3 - m1) (DC (a 7 t.toNat)) ∧ LTK (a 2) m1) ∧ TRUL t x m1 v a v2 a2)))) rq lnq vq aq)) args s 1 4110 A) h0 ad ln vb4 ab4 0 0 243 [(7, .int (iI k3)), (6, .int (iI rr)), (5, .int (iI g)), (4, .int (iI f1)), (0, .ref h0), (1, .int (iI t)), (2, .int (iI x)), (3, .int (iI m1))] [] := by
                                    intro nn
                                    induction nn with
                                    | zero =>
                                      intro k3 vb4 ab4 hm bxb4 fpb4 hk3 hKd hRd hCd hLT2 hCE hz34
                                      exact absurd hm (by omega)
                                    | succ nn ih3 =>
                                      intro k3 vb4 ab4 hm bxb4 fpb4 hk3 hKd hRd hCd hLT2 hCE hz34
                                      refine m_iload (j := 0) C dX12_rule_243 rfl ?_
                                      refine m_iload (j := 3) C dX12_rule_245 rfl ?_
                                      refine m_icmp_ge (tgt := 277) C ⟨by omega, by omega⟩ ⟨by omega, by omega⟩ dX12_rule_247 (by decide) (fun c9 => ?_) (fun c9 => ?_)
                                      · have u277 : ab4 10 t.toNat = a 10 t.toNat := congrFun (hRd).2.2 _
                                        refine m_aload_n (j := 4) C dX12_rule_277 rfl ?_
                                        refine m_geta (k := 10) C dX12_rule_278 w6_69 (by decide) rfl ?_
                                        refine m_iload_n (j := 5) C dX12_rule_281 rfl ?_
                                        refine m_dup2 C dX12_rule_282 rfl rfl ?_
                                        refine m_ald (k := 10) C dX12_rule_283 rfl rfl (by decide) (by omega) (by show _ < ((_ : Nat) : Int); simp only [mlen]; omega) (by decide) ?_
                                        have ra6 : 0 ≤ ab4 10 t.toNat ∧ ab4 10 t.toNat ≤ 200 := bxb4.2 10 (t.toNat)
                                        refine m_iconst C dX12_rule_284 ?_
                                        refine m_iadd C dX12_rule_285 ?_
                                        refine m_ast (k := 10) C dX12_rule_286 rfl rfl (by decide) (by omega) (by show _ < ((_ : Nat) : Int); simp only [mlen]; omega) (by decide) ?_
                                        refine hv4 (show BX vb4 (up2 ab4 10 t.toNat ((ab4 10 t.toNat) + 1)) from bxb4.set (k := 10) (i := t.toNat) (z := (ab4 10 t.toNat) + 1) (show 0 ≤ ((ab4 10 t.toNat) + 1) ∧ ((ab4 10 t.toNat) + 1) ≤ 200 by omega)) (fpb4.set (k := 10) (i := t.toNat) (z := (ab4 10 t.toNat) + 1) rfl) (show KS v a vb4 (up2 ab4 10 t.toNat ((ab4 10 t.toNat) + 1)) from KS.set hKd (k := 10) (i := t.toNat) (z := (ab4 10 t.toNat) + 1) (by decide)) (show C11 a rr x (up2 ab4 10 t.toNat ((ab4 10 t.toNat) + 1)) from C11.set hCd (k := 10) (i := t.toNat) (z := (ab4 10 t.toNat) + 1) (by decide)) (fun bq4 fq8 pw14 pw15 => ?_)
                                        have h10b : ∀ j, (up2 ab4 10 t.toNat ((ab4 10 t.toNat) + 1)) 10 j = if j = t.toNat then a 10 j + 1 else a 10 j := fun j => by
                                          have q := (hRd).2.2
                                          rw [up2_if j, q]
                                          by_cases e : j = t.toNat
                                          · rw [if_pos e, if_pos e, e]
                                          · rw [if_neg e, if_neg e]
                                        refine hv4 (show ∀ j, (up2 ab4 10 t.toNat ((ab4 10 t.toNat) + 1)) 12 j = if j = rr.toNat then m1 else a 12 j from fun j => (up2_k (by decide)).trans ((hRd).1 j)) (show ∀ j, (up2 ab4 10 t.toNat ((ab4 10 t.toNat) + 1)) 13 j = if j = rr.toNat then f1 - m1 else a 13 j from fun j => (up2_k (by decide)).trans ((hRd).2.1 j)) (show FIL ((up2 ab4 10 t.toNat ((ab4 10 t.toNat) + 1)) 14) (a 14) (8 * rr).toNat m1.toNat 8 (a 2) from hLT2.cg (funext fun _ => up2_k (by decide))) (show FIL ((up2 ab4 10 t.toNat ((ab4 10 t.toNat) + 1)) 15) (a 15) (4 * rr).toNat (k3 - m1).toNat 4 (fun k => a 2 (m1.toNat + k)) from hCE.cg (funext fun _ => up2_k (by decide))) (fun h12b h13b h14b h15b => ?_)
                                        refine m_aload_n (j := 4) C dX12_rule_287 rfl ?_
                                        refine m_iconst C dX12_rule_288 ?_
                                        refine m_iload_n (j := 5) C dX12_rule_289 rfl ?_
                                        refine m_iconst C dX12_rule_290 ?_
                                        refine m_iconst C dX12_rule_291 ?_
                                        refine hv3 (show (-2147483648) ≤ vb4 19 ∧ vb4 19 ≤ 2147483647 from bq4.1 19) (show KS v a vb4 (up2 ab4 10 t.toNat ((ab4 10 t.toNat) + 1)) from pw14) (show vb4 19 = vb4 19 from rfl) (fun rv6 kq1 kq1s => ?_)
                                        have kq11 := kq1.1
                                        refine n_call (mc2 := 1) (ms2 := 4110) (As := [.int (iI 2), .int (iI t), .int (iI 0), .int (iI 0)]) (rest := []) C (M_step (x := 2) (t := t) (y := 0) (z := 0) bq4 (by omega) (by omega) (by omega) (by omega) (by show 0 ≤ vb4 19 ∧ vb4 19 ≤ 2048; omega) (by show vb4 19 ≤ ((ln 18 : Nat) : Int) ∧ 64 ≤ ln 18 ∧ ln 18 ≤ 8192; omega)) dX12_rule_292 kV_X12_182 rfl ck_13 rfl (Nat.le_of_ble_eq_true rfl) ⟨Nat.le_of_ble_eq_true rfl, Nat.le_of_ble_eq_true rfl⟩ ⟨Nat.le_of_ble_eq_true rfl, Nat.le_of_ble_eq_true rfl⟩ (fun rh8 ad ln vh8 ah8 h8 => ?_)
                                        obtain ⟨rfl, fn5, bn5, sx1_1, sx1_2, sx1_3, sx1_4, sx1_5, sx1_6, sx1_7, sx1_8⟩ := h8
                                        refine hv10 (fq8.call fn5 rfl rfl) (show C11 a rr x ah8 from C11.fr pw15 fn5 rfl) (show 0 ≤ vh8 4 ∧ vh8 4 ≤ 30 from bn5.1 4) (show vh8 4 = vb4 4 from fn5.1 4 rfl) (show vb4 4 = v 4 from fpb4.1 4 rfl) (show ∀ j, ah8 10 j = if j = t.toNat then a 10 j + 1 else a 10 j from fun j => (congrFun (fn5.2 10 rfl) j).trans (h10b j)) (show ∀ j, ah8 12 j = if j = rr.toNat then m1 else a 12 j from fun j => (congrFun (fn5.2 12 rfl) j).trans (h12b j)) (show ∀ j, ah8 13 j = if j = rr.toNat then f1 - m1 else a 13 j from fun j => (congrFun (fn5.2 13 rfl) j).trans (h13b j)) (h14b.cg (fn5.2 14 rfl)) (h15b.cg (fn5.2 15 rfl)) (fun fq9 pw16 rv7 ve5 ve6 h10x h12x h13x h14x h15x => ?_)
                                        refine hv2 (show PSH v a vh8 ah8 2 t 0 0 from ⟨by have q := kq1.1; have q1 := sx1_1; omega, fun j hj => (sx1_4 j (by have q := kq1.1; omega)).trans (congrFun kq1.2 j), by rw [← kq1.1]; exact sx1_5, by rw [← kq1.1]; exact sx1_6, by rw [← kq1.1]; exact sx1_7, by rw [← kq1.1]; exact sx1_8⟩) (h10x t.toNat) (fun ps1 h10t => ?_)
                                        rw [if_pos rfl] at h10t
                                        have h10z : 0 ≤ a 10 t.toNat := (hB.2 10 _).1
                                        have pw17 : STK ln vh8 ah8 := STK.push (T0 := vh8 4) (R0 := (fun j => if j = t.toNat then ah8 10 j - 1 else ah8 10 j)) (x := 2) (t := t) (y := 0) hS (by have q := kq1.1; have q1 := sx1_1; omega) sx1_2 sx1_3 (fun j hj => (sx1_4 j (by have q := kq1.1; omega)).trans (congrFun kq1.2 j)) (by rw [← kq1.1]; exact sx1_5) (by rw [← kq1.1]; exact sx1_6) (by rw [← kq1.1]; exact sx1_7) (Or.inr (Or.inr (Or.inl ⟨rfl, ⟨by omega, by omega⟩, (by omega), rfl, rfl⟩))) (fq9.1 4 rfl) (fun j hj => by
                                            show (if j = t.toNat then ah8 10 j - 1 else ah8 10 j) = a 10 j
                                            have q := h10x j
                                            by_cases e : j = t.toNat
                                            · rw [if_pos e] at q ⊢; omega
                                            · rw [if_neg e] at q ⊢; exact q)
                                        have pw18 : TBL vh8 ah8 := TBL.rule (t := t) (r := rr) (m := m1) (c := f1 - m1) hT hB ⟨by omega, by omega⟩ hrr (by omega) ⟨by omega, by omega⟩ ⟨by omega, by omega⟩ (fq9.1 4 rfl) (fq9.2 6 rfl) (fq9.2 8 rfl) (fq9.2 9 rfl) h12x h13x h10x
                                        refine m_st (st2 := []) rfl ?_
                                        refine m_aload_n (j := 4) C dX12_rule_295 rfl ?_
                                        refine m_aload_n (j := 4) C dX12_rule_296 rfl ?_
                                        refine m_geta (k := 10) C dX12_rule_297 w6_69 (by decide) rfl ?_
                                        refine m_iload_n (j := 5) C dX12_rule_300 rfl ?_
                                        refine m_ald (k := 10) C dX12_rule_301 rfl rfl (by decide) (by omega) (by show _ < ((_ : Nat) : Int); simp only [mlen]; omega) (by decide) ?_
                                        refine hv2 (show 0 ≤ ah8 10 t.toNat ∧ ah8 10 t.toNat ≤ 200 from bn5.2 10 (t.toNat)) (show ah8 10 (t.toNat) = (up2 ab4 10 t.toNat ((ab4 10 t.toNat) + 1)) 10 (t.toNat) from congrFun (fn5.2 10 rfl) (t.toNat)) (fun ra7 ae5 => ?_)
                                        refine m_iconst C dX12_rule_302 ?_
                                        refine m_isub C dX12_rule_303 ?_
                                        refine m_call (mc2 := 0) (ms2 := 0) (As := [.int (iI ((ah8 10 t.toNat) - 1))]) (rest := []) C (B_fine (x := (ah8 10 t.toNat) - 1) bn5 (by show -2147483648 ≤ ((ah8 10 t.toNat) - 1) ∧ ((ah8 10 t.toNat) - 1) ≤ 2147483647; omega)) dX12_rule_304 kV_X12_158 rfl ck_13 rfl (Nat.le_of_ble_eq_true rfl) ⟨Nat.le_of_ble_eq_true rfl, Nat.le_of_ble_eq_true rfl⟩ ⟨Nat.le_of_ble_eq_true rfl, Nat.le_of_ble_eq_true rfl⟩ (fun rh9 vh9 ah9 h9 => ?_)
                                        obtain ⟨f5, rfl, fn6, bn6, ex5⟩ := h9
                                        refine hv6 (fq9.call fn6 rfl rfl) (show C11 a rr x ah9 from C11.fr pw16 fn6 rfl) (show STK ln vh9 ah9 from STK.fr pw17 fn6 rfl rfl) (show TBL vh9 ah9 from TBL.fr pw18 fn6 rfl rfl) (show PSH v a vh9 ah9 2 t 0 0 from PSH.fr ps1 fn6 rfl rfl) (show f5 = ((ah8 10 t.toNat) - 1) from ex5) (fun fq10 pw19 pw20 pw21 pw22 gf5 => ?_)
                                        refine m_st (st2 := [.int (iI f5)]) rfl ?_
                                        refine hv6 (show (-2147483648) ≤ vh9 19 ∧ vh9 19 ≤ 2147483647 from bn6.1 19) (show vh9 19 = vh8 19 from fn6.1 19 rfl) (show 0 ≤ vh9 3 ∧ vh9 3 ≤ 3000 from bn6.1 3) (show vh9 3 = vh8 3 from fn6.1 3 rfl) (show vh8 3 = vb4 3 from fn5.1 3 rfl) (show ah9 10 t.toNat = ah8 10 t.toNat from congrFun (fn6.2 10 rfl) t.toNat) (fun rv8 ve7 rv9 ve8 ve9 et0 => ?_)
                                        have ea0 : v 3 = f1 := by omega
                                        exact n_iret C dX12_rule_307 rfl (Nat.le_of_ble_eq_true rfl) (Nat.le_of_ble_eq_true rfl) ⟨f5, rfl, fq10, bn6, ⟨pw21, pw20, (by show vh9 19 ≤ v 19 + 4; omega), (by show vh9 3 = 0; omega), Or.inr ⟨by omega, ⟨by omega, (by rw [ea0]; exact acf4.mp (by omega)), (fun j hj => hM.mp (by omega) j (by omega))⟩, (fq10.1 4 rfl), (fq10.2 5 rfl), (fq10.2 6 rfl), (fq10.2 7 rfl), ((fn6.2 10 rfl).trans (vupR h10x)), pw22, (by rw [← hrr]; exact pw19), (fq10.2 8 rfl), (fq10.2 9 rfl), (fq10.2 16 rfl), (fq10.2 17 rfl), (by rw [← hrr]; exact (fn6.2 12 rfl).trans (vupS h12x)), (by rw [← hrr, ea0]; exact (fn6.2 13 rfl).trans (vupS h13x)), (by rw [← hrr]; exact h14x.cg (fn6.2 14 rfl)), (by rw [← hrr, ea0]; exact (h15x.n (by omega)).cg (fn6.2 15 rfl))⟩⟩⟩
                                      · refine m_aload_n (j := 4) C dX12_rule_250 rfl ?_
                                        refine m_geta (k := 15) C dX12_rule_251 w6_74 (by decide) rfl ?_
                                        refine m_iconst C dX12_rule_254 ?_
                                        refine m_iload (j := 1) C dX12_rule_255 rfl ?_
                                        refine m_imul C dX12_rule_257 ?_
                                        refine m_iload (j := 0) C dX12_rule_258 rfl ?_
                                        refine m_iadd C dX12_rule_260 ?_
                                        refine m_iload_n (j := 7) C dX12_rule_261 rfl ?_
                                        refine m_isub C dX12_rule_262 ?_
                                        refine m_aload_n (j := 4) C dX12_rule_263 rfl ?_
                                        refine m_geta (k := 2) C dX12_rule_264 w6_61 (by decide) rfl ?_
                                        refine m_iload (j := 0) C dX12_rule_267 rfl ?_
                                        refine m_ald (k := 2) C dX12_rule_269 rfl rfl (by decide) (by omega) (by show _ < ((_ : Nat) : Int); simp only [mlen]; omega) (by decide) ?_
                                        refine hv2 (show (-2147483648) ≤ ab4 2 k3.toNat ∧ ab4 2 k3.toNat ≤ 2147483647 from bxb4.2 2 (k3.toNat)) (show ab4 2 (k3.toNat) = a 2 (k3.toNat) from congrFun (fpb4.2 2 rfl) (k3.toNat)) (fun ra8 ae6 => ?_)
                                        refine m_st (st2 := [.int (iI (a 2 k3.toNat)), .int (iI (((4 * rr) + k3) - m1)), .ref (ad 15)]) (congrArg (fun z => Value.int (iI z) :: [.int (iI (((4 * rr) + k3) - m1)), .ref (ad 15)]) (congrFun (fpb4.2 2 rfl) (k3.toNat))) ?_
                                        refine m_ast (k := 15) C dX12_rule_270 rfl rfl (by decide) (by omega) (by show _ < ((_ : Nat) : Int); simp only [mlen]; omega) (by decide) ?_
                                        refine hv5 (show BX vb4 (up2 ab4 15 (((4 * rr) + k3) - m1).toNat (a 2 k3.toNat)) from bxb4.set (k := 15) (i := (((4 * rr) + k3) - m1).toNat) (z := a 2 k3.toNat) (show (-2147483648) ≤ (a 2 k3.toNat) ∧ (a 2 k3.toNat) ≤ 2147483647 by omega)) (fpb4.set (k := 15) (i := (((4 * rr) + k3) - m1).toNat) (z := a 2 k3.toNat) rfl) (show KS v a vb4 (up2 ab4 15 (((4 * rr) + k3) - m1).toNat (a 2 k3.toNat)) from KS.set hKd (k := 15) (i := (((4 * rr) + k3) - m1).toNat) (z := a 2 k3.toNat) (by decide)) (show RUL a rr m1 (f1 - m1) (up2 ab4 15 (((4 * rr) + k3) - m1).toNat (a 2 k3.toNat)) from RUL.set hRd (k := 15) (i := (((4 * rr) + k3) - m1).toNat) (z := a 2 k3.toNat) (by decide)) (show C11 a rr x (up2 ab4 15 (((4 * rr) + k3) - m1).toNat (a 2 k3.toNat)) from C11.set hCd (k := 15) (i := (((4 * rr) + k3) - m1).toNat) (z := a 2 k3.toNat) (by decide)) (fun bq5 fq11 pw23 pw24 pw25 => ?_)
                                        refine m_iinc (z := k3) (j := 0) (lv2 := [(7, .int (iI (k3 + 1))), (6, .int (iI rr)), (5, .int (iI g)), (4, .int (iI f1)), (0, .ref h0), (1, .int (iI t)), (2, .int (iI x)), (3, .int (iI m1))]) C dX12_rule_271 rfl (by decide) rfl ?_
                                        refine m_goto (tgt := 243) C dX12_rule_274 (by decide) ?_
                                        have rv10 : 0 ≤ vb4 3 ∧ vb4 3 ≤ 3000 := bq5.1 3
                                        refine m_lv (lv2 := [(7, .int (iI (k3 + 1))), (6, .int (iI rr)), (5, .int (iI g)), (4, .int (iI f1)), (0, .ref h0), (1, .int (iI t)), (2, .int (iI x)), (3, .int (iI m1))]) [0, 1, 2, 3, 4, 5, 6, 7] rfl ?_
                                        exact ih3  (k3 + 1) _ _ (by omega) bq5 fq11 (by omega) pw23 pw24 pw25 (hLT2.cg (funext fun _ => up2_k (by decide))) (by rw [up2_va]; exact hCE.step (by omega) (congrArg (a 2) (show k3.toNat = m1.toNat + (k3 - m1).toNat by omega)) (by omega) (by omega)) (by show (vb4 3) = 0; omega)
                                  have rv11 : 0 ≤ vb3 3 ∧ vb3 3 ≤ 3000 := bxb3.1 3
                                  refine m_lv (lv2 := [(7, .int (iI m1)), (6, .int (iI rr)), (5, .int (iI g)), (4, .int (iI f1)), (0, .ref h0), (1, .int (iI t)), (2, .int (iI x)), (3, .int (iI m1))]) [0, 1, 2, 3, 4, 5, 6, 7] rfl ?_
                                  exact Lp3 3002 m1 _ _ (by omega) bxb3 fpb3 (by omega) hKc hRc hCc (hLT.n (by omega)) (FIL.zero hC15 (by omega)) (by show (vb3 3) = 0; omega)
                                · refine m_aload_n (j := 4) C dX12_rule_214 rfl ?_
                                  refine m_geta (k := 14) C dX12_rule_215 w6_73 (by decide) rfl ?_
                                  refine m_bipush (z := 8) C dX12_rule_218 (by decide) ?_
                                  refine m_iload (j := 1) C dX12_rule_220 rfl ?_
                                  refine m_imul C dX12_rule_222 ?_
                                  refine m_iload (j := 0) C dX12_rule_223 rfl ?_
                                  refine m_iadd C dX12_rule_225 ?_
                                  refine m_aload_n (j := 4) C dX12_rule_226 rfl ?_
                                  refine m_geta (k := 2) C dX12_rule_227 w6_61 (by decide) rfl ?_
                                  refine m_iload (j := 0) C dX12_rule_230 rfl ?_
                                  refine m_ald (k := 2) C dX12_rule_232 rfl rfl (by decide) (by omega) (by show _ < ((_ : Nat) : Int); simp only [mlen]; omega) (by decide) ?_
                                  refine hv2 (show (-2147483648) ≤ ab3 2 k2.toNat ∧ ab3 2 k2.toNat ≤ 2147483647 from bxb3.2 2 (k2.toNat)) (show ab3 2 (k2.toNat) = a 2 (k2.toNat) from congrFun (fpb3.2 2 rfl) (k2.toNat)) (fun ra9 ae7 => ?_)
                                  refine m_st (st2 := [.int (iI (a 2 k2.toNat)), .int (iI ((8 * rr) + k2)), .ref (ad 14)]) (congrArg (fun z => Value.int (iI z) :: [.int (iI ((8 * rr) + k2)), .ref (ad 14)]) (congrFun (fpb3.2 2 rfl) (k2.toNat))) ?_
                                  have lf2 := hLf k2 (by omega) (by omega)
                                  refine m_ast (k := 14) C dX12_rule_233 rfl rfl (by decide) (by omega) (by show _ < ((_ : Nat) : Int); simp only [mlen]; omega) (by decide) ?_
                                  refine hv5 (show BX vb3 (up2 ab3 14 ((8 * rr) + k2).toNat (a 2 k2.toNat)) from bxb3.set (k := 14) (i := ((8 * rr) + k2).toNat) (z := a 2 k2.toNat) (show 0 ≤ (a 2 k2.toNat) ∧ (a 2 k2.toNat) ≤ 125 by omega)) (fpb3.set (k := 14) (i := ((8 * rr) + k2).toNat) (z := a 2 k2.toNat) rfl) (show KS v a vb3 (up2 ab3 14 ((8 * rr) + k2).toNat (a 2 k2.toNat)) from KS.set hKc (k := 14) (i := ((8 * rr) + k2).toNat) (z := a 2 k2.toNat) (by decide)) (show RUL a rr m1 (f1 - m1) (up2 ab3 14 ((8 * rr) + k2).toNat (a 2 k2.toNat)) from RUL.set hRc (k := 14) (i := ((8 * rr) + k2).toNat) (z := a 2 k2.toNat) (by decide)) (show C11 a rr x (up2 ab3 14 ((8 * rr) + k2).toNat (a 2 k2.toNat)) from C11.set hCc (k := 14) (i := ((8 * rr) + k2).toNat) (z := a 2 k2.toNat) (by decide)) (fun bq6 fq12 pw26 pw27 pw28 => ?_)
                                  refine m_iinc (z := k2) (j := 0) (lv2 := [(7, .int (iI (k2 + 1))), (6, .int (iI rr)), (5, .int (iI g)), (4, .int (iI f1)), (0, .ref h0), (1, .int (iI t)), (2, .int (iI x)), (3, .int (iI m1))]) C dX12_rule_234 rfl (by decide) rfl ?_
                                  refine m_goto (tgt := 208) C dX12_rule_237 (by decide) ?_
                                  have rv12 : 0 ≤ vb3 3 ∧ vb3 3 ≤ 3000 := bq6.1 3
                                  refine m_lv (lv2 := [(7, .int (iI (k2 + 1))), (6, .int (iI rr)), (5, .int (iI g)), (4, .int (iI f1)), (0, .ref h0), (1, .int (iI t)), (2, .int (iI x)), (3, .int (iI m1))]) [0, 1, 2, 3, 4, 5, 6, 7] rfl ?_
                                  exact ih2  (k2 + 1) _ _ (by omega) bq6 fq12 (by omega) pw26 pw27 pw28 (by rw [up2_va]; exact hLT.step (by omega) rfl (by omega) (by omega)) ((funext fun _ => up2_k (by decide)).trans hC15) (by show (vb3 3) = 0; omega)
                            have rv13 : 0 ≤ vb2 3 ∧ vb2 3 ≤ 3000 := bq3.1 3
                            refine m_lv (lv2 := [(7, .int (iI 0)), (6, .int (iI rr)), (5, .int (iI g)), (4, .int (iI f1)), (0, .ref h0), (1, .int (iI t)), (2, .int (iI x)), (3, .int (iI m1))]) [0, 1, 2, 3, 4, 5, 6, 7] rfl ?_
                            exact Lp2 10 0 _ _ (by omega) bq3 fq7 (by omega) pw11 pw12 pw13 (FIL.zero u14 rfl) u15 (by show (vb2 3) = 0; omega)
                          have rv14 : 0 ≤ vb1 3 ∧ vb1 3 ≤ 3000 := bxb1.1 3
                          refine m_lv (lv2 := [(6, .int (iI ((200 * t) + (ab1 10 t.toNat)))), (5, .int (iI g)), (4, .int (iI f1)), (0, .ref h0), (1, .int (iI t)), (2, .int (iI x)), (3, .int (iI m1))]) [0, 1, 2, 3, 4, 5, 6] rfl ?_
                          exact J1  ((200 * t) + (ab1 10 t.toNat)) _ _  bxb1 fpb1 (by omega) (by omega) hKa hUa (fun j h1 h2 => hL (by omega) j h1 (by omega)) (by show (vb1 3) = 0; omega)
                        · clear hg
                          refine m_aload_n (j := 3) C dX12_rule_157 rfl ?_
                          refine m_bipush (z := 6) C dX12_rule_158 (by decide) ?_
                          refine m_call (mc2 := 0) (ms2 := 0) (As := [.int (iI 6)]) (rest := []) C (B_bad (x := 6) bxb1 (by show -2147483648 ≤ (6 : Int) ∧ (6 : Int) ≤ 2147483647; omega)) dX12_rule_160 kV_X12_154 rfl ck_13 rfl (Nat.le_of_ble_eq_true rfl) ⟨Nat.le_of_ble_eq_true rfl, Nat.le_of_ble_eq_true rfl⟩ ⟨Nat.le_of_ble_eq_true rfl, Nat.le_of_ble_eq_true rfl⟩ (fun rh10 vh10 ah10 h10 => ?_)
                          obtain ⟨f6, rfl, fn7, bn7, ex6⟩ := h10
                          refine hv6 (fpb1.call fn7 rfl rfl) (show KS v a vh10 ah10 from KS.fr hKa fn7 rfl rfl) (show TBL vh10 ah10 from TBL.fr hTa fn7 rfl rfl) (show STK ln vh10 ah10 from STK.fr hSa fn7 rfl rfl) (show UN a ah10 from UN.fr hUa fn7 rfl) (show f6 = -1 from ex6) (fun fq13 pw29 pw30 pw31 pw32 gf6 => ?_)
                          refine m_st (st2 := [.int (iI f6)]) rfl ?_
                          refine hv5 (show (-2147483648) ≤ vh10 19 ∧ vh10 19 ≤ 2147483647 from bn7.1 19) (show vh10 19 = vb1 19 from fn7.1 19 rfl) ((pw29).1) (show 0 ≤ vh10 3 ∧ vh10 3 ≤ 3000 from bn7.1 3) (show vh10 3 = vb1 3 from fn7.1 3 rfl) (fun rv15 ve10 ksx2 rv16 ve11 => ?_)
                          exact n_iret C dX12_rule_163 rfl (Nat.le_of_ble_eq_true rfl) (Nat.le_of_ble_eq_true rfl) ⟨f6, rfl, fq13, bn7, ⟨pw30, pw31, (by show vh10 19 ≤ v 19 + 4; omega), (by show vh10 3 = 0; omega), Or.inl ⟨by omega, ⟨(fq13.1 4 rfl), (fq13.2 5 rfl), (fq13.2 6 rfl), (fq13.2 7 rfl), (pw32).1, (pw29).1, (pw29).2, (pw32).2.2.2.1, ⟨(fq13.2 8 rfl), (fq13.2 9 rfl), (pw32).2.1, (pw32).2.2.1, (pw32).2.2.2.2.1, (pw32).2.2.2.2.2, (fq13.2 16 rfl), (fq13.2 17 rfl)⟩⟩, (fun q => by have q1 := q.1; first | omega | exact absurd (acf4.mpr (by rw [show f1 = v 3 by omega]; exact q.2.1)) (by omega) | exact absurd (hM.mpr (fun j hj => q.2.2 j (by omega))) (by omega))⟩⟩⟩
                      · have J2 : ∀ (g1 : Int) (vb5 : Nat → Int) (ab5 : Nat → Nat → Int), BX vb5 ab5 → fr [0, 1, 3, 19] [10, 11, 12, 13, 14, 15, 18, 70] v a vb5 ab5 → (g1 = 0 ∨ g1 = 1) → (KS v a vb5 ab5) → (TBL vb5 ab5) → (STK ln vb5 ab5) → (UN a ab5) → (g1 = 1 → ∀ j : Int, 0 ≤ j → j < k + 1 → (33 ≤ a 2 j.toNat ∧ a 2 j.toNat ≤ 125)) → (g1 = 1 ↔ LTK (a 2) (k + 1)) → (vb5 3 = 0) → mw p l e (rmq 2 1 4110) s m args below meth c G A 8 (MQ below (Qm G A (fun rq Lq Eq => ∃ (adq lnq : Nat → Nat) (vq : Nat → Int) (aq : Nat → Nat → Int), mI G h0 adq lnq vq aq Lq Eq ∧ (fun r ln2 v2 a2 => ∃ f : Int, r = some (.int (iI f)) ∧ fr [0, 1, 3, 19] [10, 11, 12, 13, 14, 15, 18, 70] v a v2 a2 ∧ BX v2 a2 ∧ (TBL v2 a2 ∧ STK ln2 v2 a2 ∧ v2 19 ≤ v 19 + 4 ∧ v2 3 = 0 ∧ ((f = -1 ∧ TSAME v a v2 a2 ∧ ¬ ((0 ≤ t ∧ t < v 4 ∧ a 5 t.toNat = 1 ∧ a 6 t.toNat ≠ 5 ∧ 0 ≤ x ∧ x ≤ 5 ∧ 1 ≤ m1 ∧ m1 ≤ 8 ∧ 1 ≤ v 3 - m1 ∧ v 3 - m1 ≤ 4 ∧ a 10 t.toNat ≠ 200) ∧ ACL (a 2) m1 (v 3 - m1) (DC (a 7 t.toNat)) ∧ LTK (a 2) m1)) ∨ (f = a 10 t.toNat ∧ ((0 ≤ t ∧ t < v 4 ∧ a 5 t.toNat = 1 ∧ a 6 t.toNat ≠ 5 ∧ 0 ≤ x ∧ x ≤ 5 ∧ 1 ≤ m1 ∧ m1 ≤ 8 ∧ 1 ≤ v 3 - m1 ∧ v 3 - m1 ≤ 4 ∧ a 10 t.toNat ≠ 200) ∧ ACL (a 2) m1 (v 3 - m1) (DC (a 7 t.toNat)) ∧ LTK (a 2) m1) ∧ TRUL t x m1 v a v2 a2)))) rq lnq vq aq)) args s 1 4110 A) h0 ad ln vb5 ab5 0 0 144 [(6, .int (iI k)), (5, .int (iI g)), (4, .int (iI f1)), (0, .ref h0), (1, .int (iI t)), (2, .int (iI x)), (3, .int (iI m1))] [.int (iI g1)] := by
                          intro g1 vb5 ab5 bxb5 fpb5 hg1 hKt hTt hSt hUt hL1 hM1 hz31
                          refine m_istore (lv2 := [(5, .int (iI g1)), (6, .int (iI k)), (4, .int (iI f1)), (0, .ref h0), (1, .int (iI t)), (2, .int (iI x)), (3, .int (iI m1))]) C dX12_rule_144 (by decide) rfl ?_
                          refine m_iinc (z := k) (j := 1) (lv2 := [(6, .int (iI (k + 1))), (5, .int (iI g1)), (4, .int (iI f1)), (0, .ref h0), (1, .int (iI t)), (2, .int (iI x)), (3, .int (iI m1))]) C dX12_rule_146 rfl (by decide) rfl ?_
                          refine m_goto (tgt := 115) C dX12_rule_149 (by decide) ?_
                          have rv17 : 0 ≤ vb5 3 ∧ vb5 3 ≤ 3000 := bxb5.1 3
                          refine m_lv (lv2 := [(6, .int (iI (k + 1))), (5, .int (iI g1)), (4, .int (iI f1)), (0, .ref h0), (1, .int (iI t)), (2, .int (iI x)), (3, .int (iI m1))]) [0, 1, 2, 3, 4, 5, 6] rfl ?_
                          exact ih1  g1 (k + 1) _ _ (by omega) bxb5 fpb5 (by omega) (by omega) hKt hTt hSt hUt hL1 hM1 (by show (vb5 3) = 0; omega)
                        refine m_iload (j := 1) C dX12_rule_121 rfl ?_
                        refine m_if_eq (tgt := 143) C (r32_01 hg) dX12_rule_123 (by decide) (fun c10 => ?_) (fun c10 => ?_)
                        · clear hg
                          refine m_iconst C dX12_rule_143 ?_
                          have rv18 : 0 ≤ vb1 3 ∧ vb1 3 ≤ 3000 := bxb1.1 3
                          refine m_lv (lv2 := [(6, .int (iI k)), (5, .int (iI g)), (4, .int (iI f1)), (0, .ref h0), (1, .int (iI t)), (2, .int (iI x)), (3, .int (iI m1))]) [0, 1, 2, 3, 4, 5, 6] rfl ?_
                          exact J2  0 _ _  bxb1 fpb1 (by omega) hKa hTa hSa hUa (fun q => absurd q (by omega)) (LTK.step hM (by omega) (by omega)) (by show (vb1 3) = 0; omega)
                        · replace hg := (hg.resolve_left c10)
                          refine m_aload_n (j := 3) C dX12_rule_126 rfl ?_
                          refine m_geta (k := 2) C dX12_rule_127 w6_61 (by decide) rfl ?_
                          refine m_iload (j := 0) C dX12_rule_130 rfl ?_
                          refine m_ald (k := 2) C dX12_rule_132 rfl rfl (by decide) (by omega) (by show _ < ((_ : Nat) : Int); simp only [mlen]; omega) (by decide) ?_
                          refine hv2 (show (-2147483648) ≤ ab1 2 k.toNat ∧ ab1 2 k.toNat ≤ 2147483647 from bxb1.2 2 (k.toNat)) (show ab1 2 (k.toNat) = a 2 (k.toNat) from congrFun (fpb1.2 2 rfl) (k.toNat)) (fun ra10 ae8 => ?_)
                          refine m_st (st2 := [.int (iI (a 2 k.toNat))]) (congrArg (fun z => Value.int (iI z) :: []) (congrFun (fpb1.2 2 rfl) (k.toNat))) ?_
                          refine m_callS (As := [.int (iI (a 2 k.toNat))]) (rest := []) C (fun L E => s_isLetter (iI (a 2 k.toNat))) dX12_rule_133 kS_X12_199 rfl rfl (Nat.le_of_ble_eq_true rfl) ⟨Nat.le_of_ble_eq_true rfl, Nat.le_of_ble_eq_true rfl⟩ ⟨Nat.le_of_ble_eq_true rfl, Nat.le_of_ble_eq_true rfl⟩ ?_
                          rcases inn_c (x := a 2 k.toNat) (lo := 33) (hi := 125) ⟨by omega, by omega⟩ ⟨by decide, by decide⟩ ⟨by decide, by decide⟩ with ⟨h11a, h11b, h11e⟩ | ⟨h11a, h11e⟩
                          · refine m_st (st2 := [.int (iI 1)]) (by rw [show inn (iI (a 2 k.toNat)) 33 125 = iI 1 from h11e]) ?_
                            refine m_if_eq (tgt := 143) C ⟨by decide, by decide⟩ dX12_rule_136 (by decide) (fun z => absurd z (by omega)) (fun _ => ?_)
                            refine m_iconst C dX12_rule_139 ?_
                            refine m_goto (tgt := 144) C dX12_rule_140 (by decide) ?_
                            have rv19 : 0 ≤ vb1 3 ∧ vb1 3 ≤ 3000 := bxb1.1 3
                            refine m_lv (lv2 := [(6, .int (iI k)), (5, .int (iI g)), (4, .int (iI f1)), (0, .ref h0), (1, .int (iI t)), (2, .int (iI x)), (3, .int (iI m1))]) [0, 1, 2, 3, 4, 5, 6] rfl ?_
                            exact J2  1 _ _  bxb1 fpb1 (by omega) hKa hTa hSa hUa (fun _ j h1 h2 => by
                                by_cases e : j = k
                                · subst e; exact ⟨by omega, by omega⟩
                                · exact hL (by omega) j h1 (by omega)) (LTK.step hM (by omega) (by omega)) (by show (vb1 3) = 0; omega)
                          · refine m_st (st2 := [.int (iI 0)]) (by rw [show inn (iI (a 2 k.toNat)) 33 125 = iI 0 from h11e]) ?_
                            refine m_if_eq (tgt := 143) C ⟨by decide, by decide⟩ dX12_rule_136 (by decide) (fun _ => ?_) (fun z => absurd z (by omega))
                            refine m_iconst C dX12_rule_143 ?_
                            have rv20 : 0 ≤ vb1 3 ∧ vb1 3 ≤ 3000 := bxb1.1 3
                            refine m_lv (lv2 := [(6, .int (iI k)), (5, .int (iI g)), (4, .int (iI f1)), (0, .ref h0), (1, .int (iI t)), (2, .int (iI x)), (3, .int (iI m1))]) [0, 1, 2, 3, 4, 5, 6] rfl ?_
                            exact J2  0 _ _  bxb1 fpb1 (by omega) hKa hTa hSa hUa (fun q => absurd q (by omega)) (LTK.step hM (by omega) (by omega)) (by show (vb1 3) = 0; omega)
                  refine m_lv (lv2 := [(6, .int (iI 0)), (5, .int (iI 1)), (4, .int (iI f1)), (0, .ref h0), (1, .int (iI t)), (2, .int (iI x)), (3, .int (iI m1))]) [0, 1, 2, 3, 4, 5, 6] rfl ?_
                  exact Lp1 10 1 0 _ _ (by omega) bn1 fq1 (by omega) (by omega) pw1 pw2 pw3 pw4 (fun _ j h1 h2 => absurd h2 (by omega)) ⟨fun _ => LTK.zero, fun _ => rfl⟩ (by show (vh1 3) = 0; omega)
                · replace gf4 := (And.intro c5 gf4.2)
                  refine m_aload_n (j := 1) C dX12_rule_102 rfl ?_
                  refine m_bipush (z := 6) C dX12_rule_103 (by decide) ?_
                  refine m_call (mc2 := 0) (ms2 := 0) (As := [.int (iI 6)]) (rest := []) C (B_bad (x := 6) bn1 (by show -2147483648 ≤ (6 : Int) ∧ (6 : Int) ≤ 2147483647; omega)) dX12_rule_105 kV_X12_154 rfl ck_13 rfl (Nat.le_of_ble_eq_true rfl) ⟨Nat.le_of_ble_eq_true rfl, Nat.le_of_ble_eq_true rfl⟩ ⟨Nat.le_of_ble_eq_true rfl, Nat.le_of_ble_eq_true rfl⟩ (fun rh12 vh12 ah12 h12 => ?_)
                  obtain ⟨f7, rfl, fn8, bn8, ex7⟩ := h12
                  refine hv6 (fq1.call fn8 rfl rfl) (show KS v a vh12 ah12 from KS.fr pw1 fn8 rfl rfl) (show TBL vh12 ah12 from TBL.fr pw2 fn8 rfl rfl) (show STK ln vh12 ah12 from STK.fr pw3 fn8 rfl rfl) (show UN a ah12 from UN.fr pw4 fn8 rfl) (show f7 = -1 from ex7) (fun fq14 pw33 pw34 pw35 pw36 gf7 => ?_)
                  refine m_st (st2 := [.int (iI f7)]) rfl ?_
                  refine hv6 (show (-2147483648) ≤ vh12 19 ∧ vh12 19 ≤ 2147483647 from bn8.1 19) (show vh12 19 = vh1 19 from fn8.1 19 rfl) (show vh1 19 = v 19 from fn1.1 19 rfl) ((pw33).1) (show 0 ≤ vh12 3 ∧ vh12 3 ≤ 3000 from bn8.1 3) (show vh12 3 = vh1 3 from fn8.1 3 rfl) (fun rv21 ve12 ve13 ksx3 rv22 ve14 => ?_)
                  exact n_iret C dX12_rule_108 rfl (Nat.le_of_ble_eq_true rfl) (Nat.le_of_ble_eq_true rfl) ⟨f7, rfl, fq14, bn8, ⟨pw34, pw35, (by show vh12 19 ≤ v 19 + 4; omega), (by show vh12 3 = 0; omega), Or.inl ⟨by omega, ⟨(fq14.1 4 rfl), (fq14.2 5 rfl), (fq14.2 6 rfl), (fq14.2 7 rfl), (pw36).1, (pw33).1, (pw33).2, (pw36).2.2.2.1, ⟨(fq14.2 8 rfl), (fq14.2 9 rfl), (pw36).2.1, (pw36).2.2.1, (pw36).2.2.2.2.1, (pw36).2.2.2.2.2, (fq14.2 16 rfl), (fq14.2 17 rfl)⟩⟩, (fun q => by have q1 := q.1; first | omega | exact absurd (acf4.mpr (by rw [show f1 = v 3 by omega]; exact q.2.1)) (by omega))⟩⟩⟩
            · refine m_st (st2 := [.int (iI 0)]) (by rw [h5e]) ?_
              refine m_if_eq (tgt := 102) C ⟨by decide, by decide⟩ dX12_rule_74 (by decide) (fun _ => ?_) (fun z => absurd z (by omega))
              refine m_aload_n (j := 1) C dX12_rule_102 rfl ?_
              refine m_bipush (z := 6) C dX12_rule_103 (by decide) ?_
              refine m_call (mc2 := 0) (ms2 := 0) (As := [.int (iI 6)]) (rest := []) C (B_bad (x := 6) bn1 (by show -2147483648 ≤ (6 : Int) ∧ (6 : Int) ≤ 2147483647; omega)) dX12_rule_105 kV_X12_154 rfl ck_13 rfl (Nat.le_of_ble_eq_true rfl) ⟨Nat.le_of_ble_eq_true rfl, Nat.le_of_ble_eq_true rfl⟩ ⟨Nat.le_of_ble_eq_true rfl, Nat.le_of_ble_eq_true rfl⟩ (fun rh13 vh13 ah13 h13 => ?_)
              obtain ⟨f8, rfl, fn9, bn9, ex8⟩ := h13
              refine hv6 (fq1.call fn9 rfl rfl) (show KS v a vh13 ah13 from KS.fr pw1 fn9 rfl rfl) (show TBL vh13 ah13 from TBL.fr pw2 fn9 rfl rfl) (show STK ln vh13 ah13 from STK.fr pw3 fn9 rfl rfl) (show UN a ah13 from UN.fr pw4 fn9 rfl) (show f8 = -1 from ex8) (fun fq15 pw37 pw38 pw39 pw40 gf8 => ?_)
              refine m_st (st2 := [.int (iI f8)]) rfl ?_
              refine hv6 (show (-2147483648) ≤ vh13 19 ∧ vh13 19 ≤ 2147483647 from bn9.1 19) (show vh13 19 = vh1 19 from fn9.1 19 rfl) (show vh1 19 = v 19 from fn1.1 19 rfl) ((pw37).1) (show 0 ≤ vh13 3 ∧ vh13 3 ≤ 3000 from bn9.1 3) (show vh13 3 = vh1 3 from fn9.1 3 rfl) (fun rv23 ve15 ve16 ksx4 rv24 ve17 => ?_)
              exact n_iret C dX12_rule_108 rfl (Nat.le_of_ble_eq_true rfl) (Nat.le_of_ble_eq_true rfl) ⟨f8, rfl, fq15, bn9, ⟨pw38, pw39, (by show vh13 19 ≤ v 19 + 4; omega), (by show vh13 3 = 0; omega), Or.inl ⟨by omega, ⟨(fq15.1 4 rfl), (fq15.2 5 rfl), (fq15.2 6 rfl), (fq15.2 7 rfl), (pw40).1, (pw37).1, (pw37).2, (pw40).2.2.2.1, ⟨(fq15.2 8 rfl), (fq15.2 9 rfl), (pw40).2.1, (pw40).2.2.1, (pw40).2.2.2.2.1, (pw40).2.2.2.2.2, (fq15.2 16 rfl), (fq15.2 17 rfl)⟩⟩, (fun q => by have q1 := q.1; first | omega)⟩⟩⟩
          · refine m_st (st2 := [.int (iI 0)]) (by rw [h4e]) ?_
            refine m_if_eq (tgt := 102) C ⟨by decide, by decide⟩ dX12_rule_62 (by decide) (fun _ => ?_) (fun z => absurd z (by omega))
            refine m_aload_n (j := 1) C dX12_rule_102 rfl ?_
            refine m_bipush (z := 6) C dX12_rule_103 (by decide) ?_
            refine m_call (mc2 := 0) (ms2 := 0) (As := [.int (iI 6)]) (rest := []) C (B_bad (x := 6) bn1 (by show -2147483648 ≤ (6 : Int) ∧ (6 : Int) ≤ 2147483647; omega)) dX12_rule_105 kV_X12_154 rfl ck_13 rfl (Nat.le_of_ble_eq_true rfl) ⟨Nat.le_of_ble_eq_true rfl, Nat.le_of_ble_eq_true rfl⟩ ⟨Nat.le_of_ble_eq_true rfl, Nat.le_of_ble_eq_true rfl⟩ (fun rh14 vh14 ah14 h14 => ?_)
            obtain ⟨f9, rfl, fn10, bn10, ex9⟩ := h14
            refine hv6 (fq1.call fn10 rfl rfl) (show KS v a vh14 ah14 from KS.fr pw1 fn10 rfl rfl) (show TBL vh14 ah14 from TBL.fr pw2 fn10 rfl rfl) (show STK ln vh14 ah14 from STK.fr pw3 fn10 rfl rfl) (show UN a ah14 from UN.fr pw4 fn10 rfl) (show f9 = -1 from ex9) (fun fq16 pw41 pw42 pw43 pw44 gf9 => ?_)
            refine m_st (st2 := [.int (iI f9)]) rfl ?_
            refine hv6 (show (-2147483648) ≤ vh14 19 ∧ vh14 19 ≤ 2147483647 from bn10.1 19) (show vh14 19 = vh1 19 from fn10.1 19 rfl) (show vh1 19 = v 19 from fn1.1 19 rfl) ((pw41).1) (show 0 ≤ vh14 3 ∧ vh14 3 ≤ 3000 from bn10.1 3) (show vh14 3 = vh1 3 from fn10.1 3 rfl) (fun rv25 ve18 ve19 ksx5 rv26 ve20 => ?_)
            exact n_iret C dX12_rule_108 rfl (Nat.le_of_ble_eq_true rfl) (Nat.le_of_ble_eq_true rfl) ⟨f9, rfl, fq16, bn10, ⟨pw42, pw43, (by show vh14 19 ≤ v 19 + 4; omega), (by show vh14 3 = 0; omega), Or.inl ⟨by omega, ⟨(fq16.1 4 rfl), (fq16.2 5 rfl), (fq16.2 6 rfl), (fq16.2 7 rfl), (pw44).1, (pw41).1, (pw41).2, (pw44).2.2.2.1, ⟨(fq16.2 8 rfl), (fq16.2 9 rfl), (pw44).2.1, (pw44).2.2.1, (pw44).2.2.2.2.1, (pw44).2.2.2.2.2, (fq16.2 16 rfl), (fq16.2 17 rfl)⟩⟩, (fun q => by have q1 := q.1; first | omega)⟩⟩⟩
        · refine m_st (st2 := [.int (iI 0)]) (by rw [h3e]) ?_
          refine m_if_eq (tgt := 102) C ⟨by decide, by decide⟩ dX12_rule_52 (by decide) (fun _ => ?_) (fun z => absurd z (by omega))
          refine m_aload_n (j := 1) C dX12_rule_102 rfl ?_
          refine m_bipush (z := 6) C dX12_rule_103 (by decide) ?_
          refine m_call (mc2 := 0) (ms2 := 0) (As := [.int (iI 6)]) (rest := []) C (B_bad (x := 6) bn1 (by show -2147483648 ≤ (6 : Int) ∧ (6 : Int) ≤ 2147483647; omega)) dX12_rule_105 kV_X12_154 rfl ck_13 rfl (Nat.le_of_ble_eq_true rfl) ⟨Nat.le_of_ble_eq_true rfl, Nat.le_of_ble_eq_true rfl⟩ ⟨Nat.le_of_ble_eq_true rfl, Nat.le_of_ble_eq_true rfl⟩ (fun rh15 vh15 ah15 h15 => ?_)
          obtain ⟨f10, rfl, fn11, bn11, ex10⟩ := h15
          refine hv6 (fq1.call fn11 rfl rfl) (show KS v a vh15 ah15 from KS.fr pw1 fn11 rfl rfl) (show TBL vh15 ah15 from TBL.fr pw2 fn11 rfl rfl) (show STK ln vh15 ah15 from STK.fr pw3 fn11 rfl rfl) (show UN a ah15 from UN.fr pw4 fn11 rfl) (show f10 = -1 from ex10) (fun fq17 pw45 pw46 pw47 pw48 gf10 => ?_)
          refine m_st (st2 := [.int (iI f10)]) rfl ?_
          refine hv6 (show (-2147483648) ≤ vh15 19 ∧ vh15 19 ≤ 2147483647 from bn11.1 19) (show vh15 19 = vh1 19 from fn11.1 19 rfl) (show vh1 19 = v 19 from fn1.1 19 rfl) ((pw45).1) (show 0 ≤ vh15 3 ∧ vh15 3 ≤ 3000 from bn11.1 3) (show vh15 3 = vh1 3 from fn11.1 3 rfl) (fun rv27 ve21 ve22 ksx6 rv28 ve23 => ?_)
          exact n_iret C dX12_rule_108 rfl (Nat.le_of_ble_eq_true rfl) (Nat.le_of_ble_eq_true rfl) ⟨f10, rfl, fq17, bn11, ⟨pw46, pw47, (by show vh15 19 ≤ v 19 + 4; omega), (by show vh15 3 = 0; omega), Or.inl ⟨by omega, ⟨(fq17.1 4 rfl), (fq17.2 5 rfl), (fq17.2 6 rfl), (fq17.2 7 rfl), (pw48).1, (pw45).1, (pw45).2, (pw48).2.2.2.1, ⟨(fq17.2 8 rfl), (fq17.2 9 rfl), (pw48).2.1, (pw48).2.2.1, (pw48).2.2.2.2.1, (pw48).2.2.2.2.2, (fq17.2 16 rfl), (fq17.2 17 rfl)⟩⟩, (fun q => by have q1 := q.1; first | omega)⟩⟩⟩
      · refine m_aload_n (j := 1) C dX12_rule_40 rfl ?_
        refine m_iconst C dX12_rule_41 ?_
        refine m_call (mc2 := 0) (ms2 := 0) (As := [.int (iI 5)]) (rest := []) C (B_bad (x := 5) bn1 (by show -2147483648 ≤ (5 : Int) ∧ (5 : Int) ≤ 2147483647; omega)) dX12_rule_42 kV_X12_154 rfl ck_13 rfl (Nat.le_of_ble_eq_true rfl) ⟨Nat.le_of_ble_eq_true rfl, Nat.le_of_ble_eq_true rfl⟩ ⟨Nat.le_of_ble_eq_true rfl, Nat.le_of_ble_eq_true rfl⟩ (fun rh16 vh16 ah16 h16 => ?_)
        obtain ⟨f11, rfl, fn12, bn12, ex11⟩ := h16
        refine hv6 (fq1.call fn12 rfl rfl) (show KS v a vh16 ah16 from KS.fr pw1 fn12 rfl rfl) (show TBL vh16 ah16 from TBL.fr pw2 fn12 rfl rfl) (show STK ln vh16 ah16 from STK.fr pw3 fn12 rfl rfl) (show UN a ah16 from UN.fr pw4 fn12 rfl) (show f11 = -1 from ex11) (fun fq18 pw49 pw50 pw51 pw52 gf11 => ?_)
        refine m_st (st2 := [.int (iI f11)]) rfl ?_
        refine hv6 (show (-2147483648) ≤ vh16 19 ∧ vh16 19 ≤ 2147483647 from bn12.1 19) (show vh16 19 = vh1 19 from fn12.1 19 rfl) (show vh1 19 = v 19 from fn1.1 19 rfl) ((pw49).1) (show 0 ≤ vh16 3 ∧ vh16 3 ≤ 3000 from bn12.1 3) (show vh16 3 = vh1 3 from fn12.1 3 rfl) (fun rv29 ve24 ve25 ksx7 rv30 ve26 => ?_)
        exact n_iret C dX12_rule_45 rfl (Nat.le_of_ble_eq_true rfl) (Nat.le_of_ble_eq_true rfl) ⟨f11, rfl, fq18, bn12, ⟨pw50, pw51, (by show vh16 19 ≤ v 19 + 4; omega), (by show vh16 3 = 0; omega), Or.inl ⟨by omega, ⟨(fq18.1 4 rfl), (fq18.2 5 rfl), (fq18.2 6 rfl), (fq18.2 7 rfl), (pw52).1, (pw49).1, (pw49).2, (pw52).2.2.2.1, ⟨(fq18.2 8 rfl), (fq18.2 9 rfl), (pw52).2.1, (pw52).2.2.1, (pw52).2.2.2.2.1, (pw52).2.2.2.2.2, (fq18.2 16 rfl), (fq18.2 17 rfl)⟩⟩, (fun q => by have q1 := q.1; first | omega)⟩⟩⟩
    · refine m_aload_n (j := 1) C dX12_rule_30 rfl ?_
      refine m_iconst C dX12_rule_31 ?_
      refine m_call (mc2 := 0) (ms2 := 0) (As := [.int (iI 4)]) (rest := []) C (B_bad (x := 4) bn1 (by show -2147483648 ≤ (4 : Int) ∧ (4 : Int) ≤ 2147483647; omega)) dX12_rule_32 kV_X12_154 rfl ck_13 rfl (Nat.le_of_ble_eq_true rfl) ⟨Nat.le_of_ble_eq_true rfl, Nat.le_of_ble_eq_true rfl⟩ ⟨Nat.le_of_ble_eq_true rfl, Nat.le_of_ble_eq_true rfl⟩ (fun rh17 vh17 ah17 h17 => ?_)
      obtain ⟨f12, rfl, fn13, bn13, ex12⟩ := h17
      refine hv6 (fq1.call fn13 rfl rfl) (show KS v a vh17 ah17 from KS.fr pw1 fn13 rfl rfl) (show TBL vh17 ah17 from TBL.fr pw2 fn13 rfl rfl) (show STK ln vh17 ah17 from STK.fr pw3 fn13 rfl rfl) (show UN a ah17 from UN.fr pw4 fn13 rfl) (show f12 = -1 from ex12) (fun fq19 pw53 pw54 pw55 pw56 gf12 => ?_)
      refine m_st (st2 := [.int (iI f12)]) rfl ?_
      refine hv6 (show (-2147483648) ≤ vh17 19 ∧ vh17 19 ≤ 2147483647 from bn13.1 19) (show vh17 19 = vh1 19 from fn13.1 19 rfl) (show vh1 19 = v 19 from fn1.1 19 rfl) ((pw53).1) (show 0 ≤ vh17 3 ∧ vh17 3 ≤ 3000 from bn13.1 3) (show vh17 3 = vh1 3 from fn13.1 3 rfl) (fun rv31 ve27 ve28 ksx8 rv32 ve29 => ?_)
      exact n_iret C dX12_rule_35 rfl (Nat.le_of_ble_eq_true rfl) (Nat.le_of_ble_eq_true rfl) ⟨f12, rfl, fq19, bn13, ⟨pw54, pw55, (by show vh17 19 ≤ v 19 + 4; omega), (by show vh17 3 = 0; omega), Or.inl ⟨by omega, ⟨(fq19.1 4 rfl), (fq19.2 5 rfl), (fq19.2 6 rfl), (fq19.2 7 rfl), (pw56).1, (pw53).1, (pw53).2, (pw56).2.2.2.1, ⟨(fq19.2 8 rfl), (fq19.2 9 rfl), (pw56).2.1, (pw56).2.2.1, (pw56).2.2.2.2.1, (pw56).2.2.2.2.2, (fq19.2 16 rfl), (fq19.2 17 rfl)⟩⟩, (fun q => by have q1 := q.1; first | omega)⟩⟩⟩
  · replace gf2 := (gf2.resolve_right (fun q => absurd (q.1.symm.trans c1) (by decide)))
    refine m_aload_n (j := 1) C dX12_rule_14 rfl ?_
    refine m_iconst C dX12_rule_15 ?_
    refine m_call (mc2 := 0) (ms2 := 0) (As := [.int (iI 3)]) (rest := []) C (B_bad (x := 3) bn1 (by show -2147483648 ≤ (3 : Int) ∧ (3 : Int) ≤ 2147483647; omega)) dX12_rule_16 kV_X12_154 rfl ck_13 rfl (Nat.le_of_ble_eq_true rfl) ⟨Nat.le_of_ble_eq_true rfl, Nat.le_of_ble_eq_true rfl⟩ ⟨Nat.le_of_ble_eq_true rfl, Nat.le_of_ble_eq_true rfl⟩ (fun rh18 vh18 ah18 h18 => ?_)
    obtain ⟨f13, rfl, fn14, bn14, ex13⟩ := h18
    refine hv6 (fq1.call fn14 rfl rfl) (show KS v a vh18 ah18 from KS.fr pw1 fn14 rfl rfl) (show TBL vh18 ah18 from TBL.fr pw2 fn14 rfl rfl) (show STK ln vh18 ah18 from STK.fr pw3 fn14 rfl rfl) (show UN a ah18 from UN.fr pw4 fn14 rfl) (show f13 = -1 from ex13) (fun fq20 pw57 pw58 pw59 pw60 gf13 => ?_)
    refine m_st (st2 := [.int (iI f13)]) rfl ?_
    refine hv6 (show (-2147483648) ≤ vh18 19 ∧ vh18 19 ≤ 2147483647 from bn14.1 19) (show vh18 19 = vh1 19 from fn14.1 19 rfl) (show vh1 19 = v 19 from fn1.1 19 rfl) ((pw57).1) (show 0 ≤ vh18 3 ∧ vh18 3 ≤ 3000 from bn14.1 3) (show vh18 3 = vh1 3 from fn14.1 3 rfl) (fun rv33 ve30 ve31 ksx9 rv34 ve32 => ?_)
    exact n_iret C dX12_rule_19 rfl (Nat.le_of_ble_eq_true rfl) (Nat.le_of_ble_eq_true rfl) ⟨f13, rfl, fq20, bn14, ⟨pw58, pw59, (by show vh18 19 ≤ v 19 + 4; omega), (by show vh18 3 = 0; omega), Or.inl ⟨by omega, ⟨(fq20.1 4 rfl), (fq20.2 5 rfl), (fq20.2 6 rfl), (fq20.2 7 rfl), (pw60).1, (pw57).1, (pw57).2, (pw60).2.2.2.1, ⟨(fq20.2 8 rfl), (fq20.2 9 rfl), (pw60).2.1, (pw60).2.2.1, (pw60).2.2.2.2.1, (pw60).2.2.2.2.2, (fq20.2 16 rfl), (fq20.2 17 rfl)⟩⟩, (fun q => by have q1 := q.1; first | omega)⟩⟩⟩
set_option maxHeartbeats 4000000 in
set_option maxRecDepth 100000 in
theorem M_undo {l : Launch} {G : GT} {h0 : Nat} {ad ln : Nat → Nat} {v : Nat → Int} {a : Nat → Nat → Int} (hB : BX v a) (hT : TBL v a) (hS : STK ln v a) (h19 : v 19 ≤ 2048) : Mn l G yX12_undo cX12_undo 5 (some .int) 1 [] h0 ad ln v a 0 0 (fun r ln2 v2 a2 => ∃ f : Int, r = some (.int (iI f)) ∧ fr [0, 1, 4, 19] [5, 10, 11, 16, 17] v a v2 a2 ∧ BX v2 a2 ∧ (TBL v2 a2 ∧ STK ln2 v2 a2 ∧ v2 19 ≤ v 19 + 4 ∧ ((v 19 = 0 ∧ f = 0 ∧ TSAME v a v2 a2) ∨ (v 19 ≠ 0 ∧ f = 1 ∧ TUND v a v2 a2)))) := by
  refine Mn.mk (by decide) (Nat.le_of_ble_eq_true rfl) ?_
  intro p e s m args below meth c A C
  have h30 : 0 ≤ v 4 ∧ v 4 ≤ 30 := hB.1 4
  obtain ⟨n9, hn9, hk9⟩ := hS.2.2
  refine hv3 (hS.1) (hS.2.1) (show fr [0, 1, 4, 19] [5, 10, 11, 16, 17] v a v a from fr.refl) (fun hl1 hl2 fp0 => ?_)
  refine m_aload_n (j := 0) C dX12_undo_0 rfl ?_
  have rv1 : (-2147483648) ≤ v 19 ∧ v 19 ≤ 2147483647 := hB.1 19
  refine m_get (k := 19) C dX12_undo_1 w6_78 (by decide) rfl ?_
  refine m_if_ne (tgt := 13) C (r32_c (lo := (-2147483648)) (hi := 2147483647) rv1.1 rv1.2 (by decide) (by decide)) dX12_undo_4 (by decide) (fun c1 => ?_) (fun c1 => ?_)
  · obtain ⟨u4, T0, R0, he, hpop⟩ := STK.pop hS (by omega)
    refine hv4 (show -2147483648 ≤ a 18 (v 19 - 4).toNat ∧ a 18 (v 19 - 4).toNat ≤ 2147483647 from hB.2 18 _) (show -2147483648 ≤ a 18 (v 19 - 4 + 1).toNat ∧ a 18 (v 19 - 4 + 1).toNat ≤ 2147483647 from hB.2 18 _) (show -2147483648 ≤ a 18 (v 19 - 4 + 2).toNat ∧ a 18 (v 19 - 4 + 2).toNat ≤ 2147483647 from hB.2 18 _) (show -2147483648 ≤ a 18 (v 19 - 4 + 3).toNat ∧ a 18 (v 19 - 4 + 3).toNat ≤ 2147483647 from hB.2 18 _) (fun bb1 bb2 bb3 bb4 => ?_)
    refine m_aload_n (j := 0) C dX12_undo_13 rfl ?_
    refine m_dup C dX12_undo_14 rfl ?_
    refine m_get (k := 19) C dX12_undo_15 w6_78 (by decide) rfl ?_
    refine m_iconst C dX12_undo_18 ?_
    refine m_isub C dX12_undo_19 ?_
    refine m_put (k := 19) (z := (v 19) - 4) C dX12_undo_20 w6_78 (by decide) rfl rfl rfl ?_
    refine hv3 (show BX (va_up v 19 ((v 19) - 4)) a from hB.put (k := 19) (z := (v 19) - 4) (show (-2147483648) ≤ ((v 19) - 4) ∧ ((v 19) - 4) ≤ 2147483647 by omega)) (fp0.put (k := 19) (z := (v 19) - 4) rfl) (show TBL (va_up v 19 ((v 19) - 4)) a from TBL.put hT (k := 19) (z := (v 19) - 4) (by decide)) (fun bq1 fq1 pw1 => ?_)
    refine m_aload_n (j := 0) C dX12_undo_23 rfl ?_
    refine m_geta (k := 18) C dX12_undo_24 w6_77 (by decide) rfl ?_
    refine m_aload_n (j := 0) C dX12_undo_27 rfl ?_
    refine m_get (k := 19) C dX12_undo_28 w6_78 (by decide) rfl ?_
    refine m_st (st2 := [.int (iI ((v 19) - 4)), .ref (ad 18)]) rfl ?_
    refine m_iconst C dX12_undo_31 ?_
    refine m_iadd C dX12_undo_32 ?_
    refine m_ald18 C dX12_undo_33 (by omega) (by omega) (by omega) ?_
    have ra1 : (-2147483648) ≤ a 18 (((v 19) - 4) + 1).toNat ∧ a 18 (((v 19) - 4) + 1).toNat ≤ 2147483647 := bq1.2 18 ((((v 19) - 4) + 1).toNat)
    refine m_istore_n (lv2 := [(1, .int (iI (a 18 (((v 19) - 4) + 1).toNat))), (0, .ref h0)]) C dX12_undo_34 (by decide) rfl ?_
    refine m_aload_n (j := 1) C dX12_undo_35 rfl ?_
    refine m_geta (k := 18) C dX12_undo_36 w6_77 (by decide) rfl ?_
    refine m_aload_n (j := 1) C dX12_undo_39 rfl ?_
    refine m_get (k := 19) C dX12_undo_40 w6_78 (by decide) rfl ?_
    refine m_st (st2 := [.int (iI ((v 19) - 4)), .ref (ad 18)]) rfl ?_
    refine m_iconst C dX12_undo_43 ?_
    refine m_iadd C dX12_undo_44 ?_
    refine m_ald18 C dX12_undo_45 (by omega) (by omega) (by omega) ?_
    have ra2 : (-2147483648) ≤ a 18 (((v 19) - 4) + 2).toNat ∧ a 18 (((v 19) - 4) + 2).toNat ≤ 2147483647 := bq1.2 18 ((((v 19) - 4) + 2).toNat)
    refine m_istore_n (lv2 := [(2, .int (iI (a 18 (((v 19) - 4) + 2).toNat))), (1, .int (iI (a 18 (((v 19) - 4) + 1).toNat))), (0, .ref h0)]) C dX12_undo_46 (by decide) rfl ?_
    refine m_aload_n (j := 2) C dX12_undo_47 rfl ?_
    refine m_geta (k := 18) C dX12_undo_48 w6_77 (by decide) rfl ?_
    refine m_aload_n (j := 2) C dX12_undo_51 rfl ?_
    refine m_get (k := 19) C dX12_undo_52 w6_78 (by decide) rfl ?_
    refine m_st (st2 := [.int (iI ((v 19) - 4)), .ref (ad 18)]) rfl ?_
    refine m_iconst C dX12_undo_55 ?_
    refine m_iadd C dX12_undo_56 ?_
    refine m_ald18 C dX12_undo_57 (by omega) (by omega) (by omega) ?_
    have ra3 : (-2147483648) ≤ a 18 (((v 19) - 4) + 3).toNat ∧ a 18 (((v 19) - 4) + 3).toNat ≤ 2147483647 := bq1.2 18 ((((v 19) - 4) + 3).toNat)
    refine m_istore_n (lv2 := [(3, .int (iI (a 18 (((v 19) - 4) + 3).toNat))), (2, .int (iI (a 18 (((v 19) - 4) + 2).toNat))), (1, .int (iI (a 18 (((v 19) - 4) + 1).toNat))), (0, .ref h0)]) C dX12_undo_58 (by decide) rfl ?_
    refine m_aload_n (j := 3) C dX12_undo_59 rfl ?_
    refine m_geta (k := 18) C dX12_undo_60 w6_77 (by decide) rfl ?_
    refine m_aload_n (j := 3) C dX12_undo_63 rfl ?_
    refine m_get (k := 19) C dX12_undo_64 w6_78 (by decide) rfl ?_
    refine m_st (st2 := [.int (iI ((v 19) - 4)), .ref (ad 18)]) rfl ?_
    refine m_ald18 C dX12_undo_67 (by omega) (by omega) (by omega) ?_
    have ra4 : (-2147483648) ≤ a 18 ((v 19) - 4).toNat ∧ a 18 ((v 19) - 4).toNat ≤ 2147483647 := bq1.2 18 (((v 19) - 4).toNat)
    rcases (show (a 18 ((v 19) - 4).toNat) = 0 ∨ (a 18 ((v 19) - 4).toNat) = 1 ∨ (a 18 ((v 19) - 4).toNat) = 2 ∨ (a 18 ((v 19) - 4).toNat) = 3 ∨ ((a 18 ((v 19) - 4).toNat) < 0 ∨ 3 < (a 18 ((v 19) - 4).toNat)) by omega) with sw1 | sw1 | sw1 | sw1 | sw1
    · refine m_tabIn (tgt := 100) (off := 32) C (r32_c (lo := (-2147483648)) (hi := 2147483647) ra4.1 ra4.2 (by decide) (by decide)) dX12_undo_68 (by omega) (by omega) (by rw [sw1]; rfl) (by decide) ?_
      obtain ⟨q1, q2, q3⟩ := he.e0 sw1
      refine m_aload_n (j := 3) C dX12_undo_100 rfl ?_
      refine m_dup C dX12_undo_101 rfl ?_
      have rv2 : 0 ≤ v 4 ∧ v 4 ≤ 30 := bq1.1 4
      refine m_get (k := 4) C dX12_undo_102 w6_63 (by decide) rfl ?_
      refine m_st (st2 := [.int (iI (v 4)), .ref h0]) rfl ?_
      refine m_iconst C dX12_undo_105 ?_
      refine m_isub C dX12_undo_106 ?_
      refine m_put (k := 4) (z := (v 4) - 1) C dX12_undo_107 w6_63 (by decide) rfl rfl rfl ?_
      refine hv3 (show BX (va_up (va_up v 19 ((v 19) - 4)) 4 ((v 4) - 1)) a from bq1.put (k := 4) (z := (v 4) - 1) (show 0 ≤ ((v 4) - 1) ∧ ((v 4) - 1) ≤ 30 by omega)) (fq1.put (k := 4) (z := (v 4) - 1) rfl) (show STK ln (va_up (va_up v 19 ((v 19) - 4)) 4 ((v 4) - 1)) a from hpop _ _ rfl rfl q2.symm (fun j _ => by rw [q3])) (fun bq2 fq2 pw2 => ?_)
      have pw3 : TBL (va_up (va_up v 19 ((v 19) - 4)) 4 ((v 4) - 1)) a := TBL.le hT (by show v 4 - 1 ≤ v 4; omega) rfl rfl rfl rfl rfl (fun j => Int.le_refl _)
      refine m_goto (tgt := 200) C dX12_undo_110 (by decide) ?_
      refine m_aload_n (j := 3) C dX12_undo_200 rfl ?_
      refine m_iconst C dX12_undo_201 ?_
      refine m_call (mc2 := 0) (ms2 := 0) (As := [.int (iI 1)]) (rest := []) C (B_fine (x := 1) bq2 (by show -2147483648 ≤ (1 : Int) ∧ (1 : Int) ≤ 2147483647; omega)) dX12_undo_202 kV_X12_158 rfl ck_13 rfl (Nat.le_of_ble_eq_true rfl) ⟨Nat.le_of_ble_eq_true rfl, Nat.le_of_ble_eq_true rfl⟩ ⟨Nat.le_of_ble_eq_true rfl, Nat.le_of_ble_eq_true rfl⟩ (fun rh1 vh1 ah1 h1 => ?_)
      obtain ⟨f1, rfl, fn1, bn1, ex1⟩ := h1
      refine hv4 (fq2.call fn1 rfl rfl) (show STK ln vh1 ah1 from STK.fr pw2 fn1 rfl rfl) (show TBL vh1 ah1 from TBL.fr pw3 fn1 rfl rfl) (show f1 = (1 : Int) from ex1) (fun fq3 pw4 pw5 gf1 => ?_)
      refine m_st (st2 := [.int (iI f1)]) rfl ?_
      refine hv4 (show (-2147483648) ≤ vh1 19 ∧ vh1 19 ≤ 2147483647 from bn1.1 19) (show vh1 19 = (v 19) - 4 from fn1.1 19 rfl) (show 0 ≤ vh1 4 ∧ vh1 4 ≤ 30 from bn1.1 4) (show vh1 4 = (v 4) - 1 from fn1.1 4 rfl) (fun rv3 ve1 rv4 ve2 => ?_)
      exact n_iret C dX12_undo_205 rfl (Nat.le_of_ble_eq_true rfl) (Nat.le_of_ble_eq_true rfl) ⟨f1, rfl, fq3, bn1, ⟨pw5, pw4, (by show vh1 19 ≤ v 19 + 4; omega), Or.inr ⟨by omega, by omega, (by show vh1 19 = v 19 - 4; omega), (fq3.2 18 rfl), (fq3.2 6 rfl), (fq3.2 7 rfl), ⟨(fq3.2 8 rfl), (fq3.2 9 rfl), (fq3.2 12 rfl), (fq3.2 13 rfl), (fq3.2 14 rfl), (fq3.2 15 rfl)⟩, Or.inl ⟨by omega, (by show vh1 4 = v 4 - 1; omega), (fn1.2 5 rfl), (fn1.2 10 rfl), (fn1.2 11 rfl), (fn1.2 16 rfl), (fn1.2 17 rfl)⟩⟩⟩⟩
    · refine m_tabIn (tgt := 113) (off := 45) C (r32_c (lo := (-2147483648)) (hi := 2147483647) ra4.1 ra4.2 (by decide) (by decide)) dX12_undo_68 (by omega) (by omega) (by rw [sw1]; rfl) (by decide) ?_
      obtain ⟨q1, q2, q3⟩ := he.e1 sw1
      refine m_aload_n (j := 3) C dX12_undo_113 rfl ?_
      refine m_geta (k := 5) C dX12_undo_114 w6_64 (by decide) rfl ?_
      refine m_iload_n (j := 2) C dX12_undo_117 rfl ?_
      refine m_iconst C dX12_undo_118 ?_
      refine m_zast (k := 5) (w := 1) C dX12_undo_119 rfl rfl (by decide) (by omega) (by show _ < ((_ : Nat) : Int); simp only [mlen]; omega) (by decide) (by omega) ?_
      refine hv4 (show BX (va_up v 19 ((v 19) - 4)) (up2 a 5 (a 18 (((v 19) - 4) + 1).toNat).toNat 1) from bq1.set (k := 5) (i := (a 18 (((v 19) - 4) + 1).toNat).toNat) (z := 1) ⟨by decide, by decide⟩) (fq1.set (k := 5) (i := (a 18 (((v 19) - 4) + 1).toNat).toNat) (z := 1) rfl) (show TBL (va_up v 19 ((v 19) - 4)) (up2 a 5 (a 18 (((v 19) - 4) + 1).toNat).toNat 1) from TBL.set pw1 (k := 5) (i := (a 18 (((v 19) - 4) + 1).toNat).toNat) (z := 1) (by decide)) (show STK ln (va_up v 19 ((v 19) - 4)) (up2 a 5 (a 18 (((v 19) - 4) + 1).toNat).toNat 1) from hpop _ _ rfl (funext fun _ => up2_k (by decide)) q2.symm (fun j _ => by rw [q3]; exact up2_k (by decide))) (fun bq3 fq4 pw6 pw7 => ?_)
      refine m_goto (tgt := 200) C dX12_undo_120 (by decide) ?_
      refine m_aload_n (j := 3) C dX12_undo_200 rfl ?_
      refine m_iconst C dX12_undo_201 ?_
      refine m_call (mc2 := 0) (ms2 := 0) (As := [.int (iI 1)]) (rest := []) C (B_fine (x := 1) bq3 (by show -2147483648 ≤ (1 : Int) ∧ (1 : Int) ≤ 2147483647; omega)) dX12_undo_202 kV_X12_158 rfl ck_13 rfl (Nat.le_of_ble_eq_true rfl) ⟨Nat.le_of_ble_eq_true rfl, Nat.le_of_ble_eq_true rfl⟩ ⟨Nat.le_of_ble_eq_true rfl, Nat.le_of_ble_eq_true rfl⟩ (fun rh2 vh2 ah2 h2 => ?_)
      obtain ⟨f2, rfl, fn2, bn2, ex2⟩ := h2
      refine hv4 (fq4.call fn2 rfl rfl) (show TBL vh2 ah2 from TBL.fr pw6 fn2 rfl rfl) (show STK ln vh2 ah2 from STK.fr pw7 fn2 rfl rfl) (show f2 = (1 : Int) from ex2) (fun fq5 pw8 pw9 gf2 => ?_)
      refine m_st (st2 := [.int (iI f2)]) rfl ?_
      refine hv4 (show (-2147483648) ≤ vh2 19 ∧ vh2 19 ≤ 2147483647 from bn2.1 19) (show vh2 19 = (v 19) - 4 from fn2.1 19 rfl) (show 0 ≤ vh2 4 ∧ vh2 4 ≤ 30 from bn2.1 4) (show vh2 4 = v 4 from fn2.1 4 rfl) (fun rv5 ve3 rv6 ve4 => ?_)
      exact n_iret C dX12_undo_205 rfl (Nat.le_of_ble_eq_true rfl) (Nat.le_of_ble_eq_true rfl) ⟨f2, rfl, fq5, bn2, ⟨pw8, pw9, (by show vh2 19 ≤ v 19 + 4; omega), Or.inr ⟨by omega, by omega, (by show vh2 19 = v 19 - 4; omega), (fq5.2 18 rfl), (fq5.2 6 rfl), (fq5.2 7 rfl), ⟨(fq5.2 8 rfl), (fq5.2 9 rfl), (fq5.2 12 rfl), (fq5.2 13 rfl), (fq5.2 14 rfl), (fq5.2 15 rfl)⟩, Or.inr (Or.inl ⟨by omega, (by show vh2 4 = v 4; omega), (fn2.2 5 rfl).trans up2_va, ((fn2.2 10 rfl).trans (funext fun _ => up2_k (by decide))), ((fn2.2 11 rfl).trans (funext fun _ => up2_k (by decide))), ((fn2.2 16 rfl).trans (funext fun _ => up2_k (by decide))), ((fn2.2 17 rfl).trans (funext fun _ => up2_k (by decide)))⟩)⟩⟩⟩
    · refine m_tabIn (tgt := 123) (off := 55) C (r32_c (lo := (-2147483648)) (hi := 2147483647) ra4.1 ra4.2 (by decide) (by decide)) dX12_undo_68 (by omega) (by omega) (by rw [sw1]; rfl) (by decide) ?_
      obtain ⟨q1, q4, q2, q3⟩ := he.e2 sw1
      refine m_aload_n (j := 3) C dX12_undo_123 rfl ?_
      refine m_geta (k := 10) C dX12_undo_124 w6_69 (by decide) rfl ?_
      refine m_iload_n (j := 2) C dX12_undo_127 rfl ?_
      refine m_dup2 C dX12_undo_128 rfl rfl ?_
      refine m_ald (k := 10) C dX12_undo_129 rfl rfl (by decide) (by omega) (by show _ < ((_ : Nat) : Int); simp only [mlen]; omega) (by decide) ?_
      have ra5 : 0 ≤ a 10 (a 18 (((v 19) - 4) + 1).toNat).toNat ∧ a 10 (a 18 (((v 19) - 4) + 1).toNat).toNat ≤ 200 := bq1.2 10 ((a 18 (((v 19) - 4) + 1).toNat).toNat)
      refine m_iconst C dX12_undo_130 ?_
      refine m_isub C dX12_undo_131 ?_
      refine m_ast (k := 10) C dX12_undo_132 rfl rfl (by decide) (by omega) (by show _ < ((_ : Nat) : Int); simp only [mlen]; omega) (by decide) ?_
      refine hv2 (show BX (va_up v 19 ((v 19) - 4)) (up2 a 10 (a 18 (((v 19) - 4) + 1).toNat).toNat ((a 10 (a 18 (((v 19) - 4) + 1).toNat).toNat) - 1)) from bq1.set (k := 10) (i := (a 18 (((v 19) - 4) + 1).toNat).toNat) (z := (a 10 (a 18 (((v 19) - 4) + 1).toNat).toNat) - 1) (show 0 ≤ ((a 10 (a 18 (((v 19) - 4) + 1).toNat).toNat) - 1) ∧ ((a 10 (a 18 (((v 19) - 4) + 1).toNat).toNat) - 1) ≤ 200 by omega)) (fq1.set (k := 10) (i := (a 18 (((v 19) - 4) + 1).toNat).toNat) (z := (a 10 (a 18 (((v 19) - 4) + 1).toNat).toNat) - 1) rfl) (fun bq4 fq6 => ?_)
      have pw10 : STK ln (va_up v 19 ((v 19) - 4)) (up2 a 10 (a 18 (((v 19) - 4) + 1).toNat).toNat ((a 10 (a 18 (((v 19) - 4) + 1).toNat).toNat) - 1)) := hpop _ _ rfl (funext fun _ => up2_k (by decide)) q2.symm (fun j _ => by
          rw [q3, up2_if j]
          by_cases e : j = (a 18 (v 19 - 4 + 1).toNat).toNat
          · show (if _ then _ else _) = (if _ then _ else _); rw [if_pos e, if_pos e, e]
          · show (if _ then _ else _) = (if _ then _ else _); rw [if_neg e, if_neg e])
      have pw11 : TBL (va_up v 19 ((v 19) - 4)) (up2 a 10 (a 18 (((v 19) - 4) + 1).toNat).toNat ((a 10 (a 18 (((v 19) - 4) + 1).toNat).toNat) - 1)) := TBL.le hT (Int.le_refl (v 4)) (funext fun _ => up2_k (by decide)) (funext fun _ => up2_k (by decide)) (funext fun _ => up2_k (by decide)) (funext fun _ => up2_k (by decide)) (funext fun _ => up2_k (by decide)) (up2_le (by omega))
      refine m_goto (tgt := 200) C dX12_undo_133 (by decide) ?_
      refine m_aload_n (j := 3) C dX12_undo_200 rfl ?_
      refine m_iconst C dX12_undo_201 ?_
      refine m_call (mc2 := 0) (ms2 := 0) (As := [.int (iI 1)]) (rest := []) C (B_fine (x := 1) bq4 (by show -2147483648 ≤ (1 : Int) ∧ (1 : Int) ≤ 2147483647; omega)) dX12_undo_202 kV_X12_158 rfl ck_13 rfl (Nat.le_of_ble_eq_true rfl) ⟨Nat.le_of_ble_eq_true rfl, Nat.le_of_ble_eq_true rfl⟩ ⟨Nat.le_of_ble_eq_true rfl, Nat.le_of_ble_eq_true rfl⟩ (fun rh3 vh3 ah3 h3 => ?_)
      obtain ⟨f3, rfl, fn3, bn3, ex3⟩ := h3
      refine hv4 (fq6.call fn3 rfl rfl) (show STK ln vh3 ah3 from STK.fr pw10 fn3 rfl rfl) (show TBL vh3 ah3 from TBL.fr pw11 fn3 rfl rfl) (show f3 = (1 : Int) from ex3) (fun fq7 pw12 pw13 gf3 => ?_)
      refine m_st (st2 := [.int (iI f3)]) rfl ?_
      refine hv4 (show (-2147483648) ≤ vh3 19 ∧ vh3 19 ≤ 2147483647 from bn3.1 19) (show vh3 19 = (v 19) - 4 from fn3.1 19 rfl) (show 0 ≤ vh3 4 ∧ vh3 4 ≤ 30 from bn3.1 4) (show vh3 4 = v 4 from fn3.1 4 rfl) (fun rv7 ve5 rv8 ve6 => ?_)
      exact n_iret C dX12_undo_205 rfl (Nat.le_of_ble_eq_true rfl) (Nat.le_of_ble_eq_true rfl) ⟨f3, rfl, fq7, bn3, ⟨pw13, pw12, (by show vh3 19 ≤ v 19 + 4; omega), Or.inr ⟨by omega, by omega, (by show vh3 19 = v 19 - 4; omega), (fq7.2 18 rfl), (fq7.2 6 rfl), (fq7.2 7 rfl), ⟨(fq7.2 8 rfl), (fq7.2 9 rfl), (fq7.2 12 rfl), (fq7.2 13 rfl), (fq7.2 14 rfl), (fq7.2 15 rfl)⟩, Or.inr (Or.inr (Or.inl ⟨by omega, (by show vh3 4 = v 4; omega), ((fn3.2 5 rfl).trans (funext fun _ => up2_k (by decide))), (fn3.2 10 rfl).trans up2_va, ((fn3.2 11 rfl).trans (funext fun _ => up2_k (by decide))), ((fn3.2 16 rfl).trans (funext fun _ => up2_k (by decide))), ((fn3.2 17 rfl).trans (funext fun _ => up2_k (by decide)))⟩))⟩⟩⟩
    · refine m_tabIn (tgt := 136) (off := 68) C (r32_c (lo := (-2147483648)) (hi := 2147483647) ra4.1 ra4.2 (by decide) (by decide)) dX12_undo_68 (by omega) (by omega) (by rw [sw1]; rfl) (by decide) ?_
      obtain ⟨q1, q4, q2, q3⟩ := he.e3 sw1
      have b10 : 0 ≤ a 10 (a 18 (v 19 - 4 + 1).toNat).toNat ∧ a 10 (a 18 (v 19 - 4 + 1).toNat).toNat ≤ 200 := hB.2 10 _
      refine m_aload_n (j := 3) C dX12_undo_136 rfl ?_
      refine m_geta (k := 11) C dX12_undo_137 w6_70 (by decide) rfl ?_
      refine m_sipush (z := 200) C dX12_undo_140 (by decide) ?_
      refine m_iload_n (j := 2) C dX12_undo_143 rfl ?_
      refine m_imul C dX12_undo_144 ?_
      refine m_iload_n (j := 1) C dX12_undo_145 rfl ?_
      refine m_iadd C dX12_undo_146 ?_
      refine m_iload_n (j := 0) C dX12_undo_147 rfl ?_
      refine m_ast (k := 11) C dX12_undo_148 rfl rfl (by decide) (by omega) (by show _ < ((_ : Nat) : Int); simp only [mlen]; omega) (by decide) ?_
      refine hv4 (show BX (va_up v 19 ((v 19) - 4)) (up2 a 11 ((200 * (a 18 (((v 19) - 4) + 1).toNat)) + (a 18 (((v 19) - 4) + 2).toNat)).toNat (a 18 (((v 19) - 4) + 3).toNat)) from bq1.set (k := 11) (i := ((200 * (a 18 (((v 19) - 4) + 1).toNat)) + (a 18 (((v 19) - 4) + 2).toNat)).toNat) (z := a 18 (((v 19) - 4) + 3).toNat) (show (-2147483648) ≤ (a 18 (((v 19) - 4) + 3).toNat) ∧ (a 18 (((v 19) - 4) + 3).toNat) ≤ 2147483647 by omega)) (fq1.set (k := 11) (i := ((200 * (a 18 (((v 19) - 4) + 1).toNat)) + (a 18 (((v 19) - 4) + 2).toNat)).toNat) (z := a 18 (((v 19) - 4) + 3).toNat) rfl) (show TBL (va_up v 19 ((v 19) - 4)) (up2 a 11 ((200 * (a 18 (((v 19) - 4) + 1).toNat)) + (a 18 (((v 19) - 4) + 2).toNat)).toNat (a 18 (((v 19) - 4) + 3).toNat)) from TBL.set pw1 (k := 11) (i := ((200 * (a 18 (((v 19) - 4) + 1).toNat)) + (a 18 (((v 19) - 4) + 2).toNat)).toNat) (z := a 18 (((v 19) - 4) + 3).toNat) (by decide)) (show STK ln (va_up v 19 ((v 19) - 4)) (up2 a 11 ((200 * (a 18 (((v 19) - 4) + 1).toNat)) + (a 18 (((v 19) - 4) + 2).toNat)).toNat (a 18 (((v 19) - 4) + 3).toNat)) from hpop _ _ rfl (funext fun _ => up2_k (by decide)) q2.symm (fun j _ => by rw [q3]; exact up2_k (by decide))) (fun bq5 fq8 pw14 pw15 => ?_)
      refine m_goto (tgt := 200) C dX12_undo_149 (by decide) ?_
      refine m_aload_n (j := 3) C dX12_undo_200 rfl ?_
      refine m_iconst C dX12_undo_201 ?_
      refine m_call (mc2 := 0) (ms2 := 0) (As := [.int (iI 1)]) (rest := []) C (B_fine (x := 1) bq5 (by show -2147483648 ≤ (1 : Int) ∧ (1 : Int) ≤ 2147483647; omega)) dX12_undo_202 kV_X12_158 rfl ck_13 rfl (Nat.le_of_ble_eq_true rfl) ⟨Nat.le_of_ble_eq_true rfl, Nat.le_of_ble_eq_true rfl⟩ ⟨Nat.le_of_ble_eq_true rfl, Nat.le_of_ble_eq_true rfl⟩ (fun rh4 vh4 ah4 h4 => ?_)
      obtain ⟨f4, rfl, fn4, bn4, ex4⟩ := h4
      refine hv4 (fq8.call fn4 rfl rfl) (show TBL vh4 ah4 from TBL.fr pw14 fn4 rfl rfl) (show STK ln vh4 ah4 from STK.fr pw15 fn4 rfl rfl) (show f4 = (1 : Int) from ex4) (fun fq9 pw16 pw17 gf4 => ?_)
      refine m_st (st2 := [.int (iI f4)]) rfl ?_
      refine hv4 (show (-2147483648) ≤ vh4 19 ∧ vh4 19 ≤ 2147483647 from bn4.1 19) (show vh4 19 = (v 19) - 4 from fn4.1 19 rfl) (show 0 ≤ vh4 4 ∧ vh4 4 ≤ 30 from bn4.1 4) (show vh4 4 = v 4 from fn4.1 4 rfl) (fun rv9 ve7 rv10 ve8 => ?_)
      exact n_iret C dX12_undo_205 rfl (Nat.le_of_ble_eq_true rfl) (Nat.le_of_ble_eq_true rfl) ⟨f4, rfl, fq9, bn4, ⟨pw16, pw17, (by show vh4 19 ≤ v 19 + 4; omega), Or.inr ⟨by omega, by omega, (by show vh4 19 = v 19 - 4; omega), (fq9.2 18 rfl), (fq9.2 6 rfl), (fq9.2 7 rfl), ⟨(fq9.2 8 rfl), (fq9.2 9 rfl), (fq9.2 12 rfl), (fq9.2 13 rfl), (fq9.2 14 rfl), (fq9.2 15 rfl)⟩, Or.inr (Or.inr (Or.inr (Or.inl ⟨by omega, (by show vh4 4 = v 4; omega), ((fn4.2 5 rfl).trans (funext fun _ => up2_k (by decide))), ((fn4.2 10 rfl).trans (funext fun _ => up2_k (by decide))), (fn4.2 11 rfl).trans up2_va, ((fn4.2 16 rfl).trans (funext fun _ => up2_k (by decide))), ((fn4.2 17 rfl).trans (funext fun _ => up2_k (by decide)))⟩)))⟩⟩⟩
    · refine m_tabOut (tgt := 152) C (r32_c (lo := (-2147483648)) (hi := 2147483647) ra4.1 ra4.2 (by decide) (by decide)) dX12_undo_68 sw1 (by decide) ?_
      obtain ⟨q0, q1, q4, q2, q3⟩ := he.e4 sw1
      refine m_aload_n (j := 3) C dX12_undo_152 rfl ?_
      refine m_geta (k := 16) C dX12_undo_153 w6_75 (by decide) rfl ?_
      refine m_iload_n (j := 2) C dX12_undo_156 rfl ?_
      refine m_iload_n (j := 1) C dX12_undo_157 rfl ?_
      refine m_ast (k := 16) C dX12_undo_158 rfl rfl (by decide) (by omega) (by show _ < ((_ : Nat) : Int); simp only [mlen]; omega) (by decide) ?_
      refine hv4 (show BX (va_up v 19 ((v 19) - 4)) (up2 a 16 (a 18 (((v 19) - 4) + 1).toNat).toNat (a 18 (((v 19) - 4) + 2).toNat)) from bq1.set (k := 16) (i := (a 18 (((v 19) - 4) + 1).toNat).toNat) (z := a 18 (((v 19) - 4) + 2).toNat) (show 0 ≤ (a 18 (((v 19) - 4) + 2).toNat) ∧ (a 18 (((v 19) - 4) + 2).toNat) ≤ 4 by omega)) (fq1.set (k := 16) (i := (a 18 (((v 19) - 4) + 1).toNat).toNat) (z := a 18 (((v 19) - 4) + 2).toNat) rfl) (show TBL (va_up v 19 ((v 19) - 4)) (up2 a 16 (a 18 (((v 19) - 4) + 1).toNat).toNat (a 18 (((v 19) - 4) + 2).toNat)) from TBL.set pw1 (k := 16) (i := (a 18 (((v 19) - 4) + 1).toNat).toNat) (z := a 18 (((v 19) - 4) + 2).toNat) (by decide)) (show STK ln (va_up v 19 ((v 19) - 4)) (up2 a 16 (a 18 (((v 19) - 4) + 1).toNat).toNat (a 18 (((v 19) - 4) + 2).toNat)) from hpop _ _ rfl (funext fun _ => up2_k (by decide)) q2.symm (fun j _ => by rw [q3]; exact up2_k (by decide))) (fun bq6 fq10 pw18 pw19 => ?_)
      refine m_iconst C dX12_undo_159 ?_
      refine m_istore (lv2 := [(4, .int (iI 0)), (3, .int (iI (a 18 (((v 19) - 4) + 3).toNat))), (2, .int (iI (a 18 (((v 19) - 4) + 2).toNat))), (1, .int (iI (a 18 (((v 19) - 4) + 1).toNat))), (0, .ref h0)]) C dX12_undo_160 (by decide) rfl ?_
      have Lp1 : ∀ (nn : Nat) (k : Int) (vb1 : Nat → Int) (ab1 : Nat → Nat → Int), 5 - k < (nn : Int) → BX vb1 ab1 → fr [0, 1, 4, 19] [5, 10, 11, 16, 17] v a vb1 ab1 → (0 ≤ k ∧ k ≤ 4) → (vb1 19 = v 19 - 4) → (vb1 4 = v 4) → (ab1 5 = a 5) → (ab1 10 = a 10) → (ab1 11 = a 11) → (ab1 16 = va_up (a 16) (a 18 (v 19 - 4 + 1).toNat).toNat (a 18 (v 19 - 4 + 2).toNat)) → (FIL (ab1 17) (a 17) (4 * a 18 (v 19 - 4 + 1).toNat).toNat k.toNat 4 (fun k => UPK (a 18 (v 19 - 4 + 3).toNat) (a 18 (v 19 - 4 + 2).toNat) (k : Int))) → (k ≤ a 18 (v 19 - 4 + 2).toNat) → (TBL vb1 ab1) → (STK ln vb1 ab1) → mw p l e (rmq 1 0 0) s m args below meth c G A 5 (MQ below (Qm G A (fun rq Lq Eq => ∃ (adq lnq : Nat → Nat) (vq : Nat → Int) (aq : Nat → Nat → Int), mI G h0 adq lnq vq aq Lq Eq ∧ (fun r ln2 v2 a2 => ∃ f : Int, r = some (.int (iI f)) ∧ fr [0, 1, 4, 19] [5, 10, 11, 16, 17] v a v2 a2 ∧ BX v2 a2 ∧ (TBL v2 a2 ∧ STK ln2 v2 a2 ∧ v2 19 ≤ v 19 + 4 ∧ ((v 19 = 0 ∧ f = 0 ∧ TSAME v a v2 a2) ∨ (v 19 ≠ 0 ∧ f = 1 ∧ TUND v a v2 a2)))) rq lnq vq aq)) args s 0 0 A) h0 ad ln vb1 ab1 0 0 162 [(4, .int (iI k)), (3, .int (iI (a 18 (((v 19) - 4) + 3).toNat))), (2, .int (iI (a 18 (((v 19) - 4) + 2).toNat))), (1, .int (iI (a 18 (((v 19) - 4) + 1).toNat))), (0, .ref h0)] [] := by
        intro nn
        induction nn with
        | zero =>
          intro k vb1 ab1 hm bxb1 fpb1 hk h19k h4k hu5 hu10 hu11 hu16 hu17 hkc hTa hSa
          exact absurd hm (by omega)
        | succ nn ih1 =>
          intro k vb1 ab1 hm bxb1 fpb1 hk h19k h4k hu5 hu10 hu11 hu16 hu17 hkc hTa hSa
          refine m_iload (j := 0) C dX12_undo_162 rfl ?_
          refine m_iload_n (j := 2) C dX12_undo_164 rfl ?_
          refine m_icmp_ge (tgt := 200) C (r32_c (lo := 0) (hi := 4) hk.1 hk.2 (by decide) (by decide)) (r32_c (lo := (-2147483648)) (hi := 2147483647) ra2.1 ra2.2 (by decide) (by decide)) dX12_undo_165 (by decide) (fun c2 => ?_) (fun c2 => ?_)
          · refine m_aload_n (j := 4) C dX12_undo_200 rfl ?_
            refine m_iconst C dX12_undo_201 ?_
            refine m_call (mc2 := 0) (ms2 := 0) (As := [.int (iI 1)]) (rest := []) C (B_fine (x := 1) bxb1 (by show -2147483648 ≤ (1 : Int) ∧ (1 : Int) ≤ 2147483647; omega)) dX12_undo_202 kV_X12_158 rfl ck_13 rfl (Nat.le_of_ble_eq_true rfl) ⟨Nat.le_of_ble_eq_true rfl, Nat.le_of_ble_eq_true rfl⟩ ⟨Nat.le_of_ble_eq_true rfl, Nat.le_of_ble_eq_true rfl⟩ (fun rh5 vh5 ah5 h5 => ?_)
            obtain ⟨f5, rfl, fn5, bn5, ex5⟩ := h5
            refine hv4 (fpb1.call fn5 rfl rfl) (show TBL vh5 ah5 from TBL.fr hTa fn5 rfl rfl) (show STK ln vh5 ah5 from STK.fr hSa fn5 rfl rfl) (show f5 = (1 : Int) from ex5) (fun fq11 pw20 pw21 gf5 => ?_)
            refine m_st (st2 := [.int (iI f5)]) rfl ?_
            refine hv4 (show (-2147483648) ≤ vh5 19 ∧ vh5 19 ≤ 2147483647 from bn5.1 19) (show vh5 19 = vb1 19 from fn5.1 19 rfl) (show 0 ≤ vh5 4 ∧ vh5 4 ≤ 30 from bn5.1 4) (show vh5 4 = vb1 4 from fn5.1 4 rfl) (fun rv11 ve9 rv12 ve10 => ?_)
            exact n_iret C dX12_undo_205 rfl (Nat.le_of_ble_eq_true rfl) (Nat.le_of_ble_eq_true rfl) ⟨f5, rfl, fq11, bn5, ⟨pw20, pw21, (by show vh5 19 ≤ v 19 + 4; omega), Or.inr ⟨by omega, by omega, (by show vh5 19 = v 19 - 4; omega), (fq11.2 18 rfl), (fq11.2 6 rfl), (fq11.2 7 rfl), ⟨(fq11.2 8 rfl), (fq11.2 9 rfl), (fq11.2 12 rfl), (fq11.2 13 rfl), (fq11.2 14 rfl), (fq11.2 15 rfl)⟩, Or.inr (Or.inr (Or.inr (Or.inr ⟨by omega, (by show vh5 4 = v 4; omega), ((fn5.2 5 rfl).trans (hu5)), ((fn5.2 10 rfl).trans (hu10)), ((fn5.2 11 rfl).trans (hu11)), (fn5.2 16 rfl).trans hu16, (hu17.n (by omega)).cg (fn5.2 17 rfl)⟩)))⟩⟩⟩
          · refine m_aload_n (j := 4) C dX12_undo_168 rfl ?_
            refine m_geta (k := 17) C dX12_undo_169 w6_76 (by decide) rfl ?_
            refine m_iconst C dX12_undo_172 ?_
            refine m_iload_n (j := 3) C dX12_undo_173 rfl ?_
            refine m_imul C dX12_undo_174 ?_
            refine m_iload (j := 0) C dX12_undo_175 rfl ?_
            refine m_iadd C dX12_undo_177 ?_
            refine m_iload_n (j := 1) C dX12_undo_178 rfl ?_
            refine m_bipush (z := 8) C dX12_undo_179 (by decide) ?_
            refine m_iload_n (j := 2) C dX12_undo_181 rfl ?_
            refine m_iconst C dX12_undo_182 ?_
            refine m_isub C dX12_undo_183 ?_
            refine m_iload (j := 0) C dX12_undo_184 rfl ?_
            refine m_isub C dX12_undo_186 ?_
            refine m_imul C dX12_undo_187 ?_
            obtain ⟨zz1, hzz1, ezz1⟩ := iI_of (iI (a 18 (((v 19) - 4) + 3).toNat) >>> (iI (8 * (((a 18 (((v 19) - 4) + 2).toNat) - 1) - k)) &&& 31))
            refine m_ishr (w := iI zz1) C dX12_undo_188 ezz1 ?_
            refine m_sipush (z := 255) C dX12_undo_189 (by decide) ?_
            obtain ⟨zz2, hzz2, ezz2⟩ := iI_of (iI zz1 &&& iI 255)
            refine m_iand (w := iI zz2) C dX12_undo_192 ezz2 ?_
            refine m_ast (k := 17) C dX12_undo_193 rfl rfl (by decide) (by omega) (by show _ < ((_ : Nat) : Int); simp only [mlen]; omega) (by decide) ?_
            refine hv4 (show BX vb1 (up2 ab1 17 ((4 * (a 18 (((v 19) - 4) + 1).toNat)) + k).toNat zz2) from bxb1.set (k := 17) (i := ((4 * (a 18 (((v 19) - 4) + 1).toNat)) + k).toNat) (z := zz2) (show (-2147483648) ≤ zz2 ∧ zz2 ≤ 2147483647 by omega)) (fpb1.set (k := 17) (i := ((4 * (a 18 (((v 19) - 4) + 1).toNat)) + k).toNat) (z := zz2) rfl) (show TBL vb1 (up2 ab1 17 ((4 * (a 18 (((v 19) - 4) + 1).toNat)) + k).toNat zz2) from TBL.set hTa (k := 17) (i := ((4 * (a 18 (((v 19) - 4) + 1).toNat)) + k).toNat) (z := zz2) (by decide)) (show STK ln vb1 (up2 ab1 17 ((4 * (a 18 (((v 19) - 4) + 1).toNat)) + k).toNat zz2) from STK.set hSa (k := 17) (i := ((4 * (a 18 (((v 19) - 4) + 1).toNat)) + k).toNat) (z := zz2) (by decide)) (fun bq7 fq12 pw22 pw23 => ?_)
            refine m_iinc (z := k) (j := 0) (lv2 := [(4, .int (iI (k + 1))), (3, .int (iI (a 18 (((v 19) - 4) + 3).toNat))), (2, .int (iI (a 18 (((v 19) - 4) + 2).toNat))), (1, .int (iI (a 18 (((v 19) - 4) + 1).toNat))), (0, .ref h0)]) C dX12_undo_194 rfl (by decide) rfl ?_
            refine m_goto (tgt := 162) C dX12_undo_197 (by decide) ?_
            refine hv2 (show (-2147483648) ≤ vb1 19 ∧ vb1 19 ≤ 2147483647 from bq7.1 19) (show 0 ≤ vb1 4 ∧ vb1 4 ≤ 30 from bq7.1 4) (fun rv13 rv14 => ?_)
            refine m_lv (lv2 := [(4, .int (iI (k + 1))), (3, .int (iI (a 18 (((v 19) - 4) + 3).toNat))), (2, .int (iI (a 18 (((v 19) - 4) + 2).toNat))), (1, .int (iI (a 18 (((v 19) - 4) + 1).toNat))), (0, .ref h0)]) [0, 1, 2, 3, 4] rfl ?_
            exact ih1  (k + 1) _ _ (by omega) bq7 fq12 (by omega) (by show (vb1 19) = v 19 - 4; omega) (by show (vb1 4) = v 4; omega) ((funext fun _ => up2_k (by decide)).trans hu5) ((funext fun _ => up2_k (by decide)).trans hu10) ((funext fun _ => up2_k (by decide)).trans hu11) ((funext fun _ => up2_k (by decide)).trans hu16) (by rw [up2_va]; exact hu17.step (by omega) (by rw [Int.toNat_of_nonneg (by omega)]; exact UPK.of ezz1 ezz2 hzz2 rfl) (by omega) (by omega)) (by omega) pw22 pw23
      have rv15 : 0 ≤ v 4 ∧ v 4 ≤ 30 := bq6.1 4
      refine m_lv (lv2 := [(4, .int (iI 0)), (3, .int (iI (a 18 (((v 19) - 4) + 3).toNat))), (2, .int (iI (a 18 (((v 19) - 4) + 2).toNat))), (1, .int (iI (a 18 (((v 19) - 4) + 1).toNat))), (0, .ref h0)]) [0, 1, 2, 3, 4] rfl ?_
      exact Lp1 6 0 _ _ (by omega) bq6 fq10 (by omega) (by show ((v 19) - 4) = v 19 - 4; omega) (by show (v 4) = v 4; omega) (funext fun _ => up2_k (by decide)) (funext fun _ => up2_k (by decide)) (funext fun _ => up2_k (by decide)) up2_va (FIL.zero (funext fun _ => up2_k (by decide)) rfl) (by omega) pw18 pw19
  · refine m_aload_n (j := 0) C dX12_undo_7 rfl ?_
    refine m_iconst C dX12_undo_8 ?_
    refine m_call (mc2 := 0) (ms2 := 0) (As := [.int (iI 0)]) (rest := []) C (B_fine (x := 0) hB (by show -2147483648 ≤ (0 : Int) ∧ (0 : Int) ≤ 2147483647; omega)) dX12_undo_9 kV_X12_158 rfl ck_13 rfl (Nat.le_of_ble_eq_true rfl) ⟨Nat.le_of_ble_eq_true rfl, Nat.le_of_ble_eq_true rfl⟩ ⟨Nat.le_of_ble_eq_true rfl, Nat.le_of_ble_eq_true rfl⟩ (fun rh6 vh6 ah6 h6 => ?_)
    obtain ⟨f6, rfl, fn6, bn6, ex6⟩ := h6
    refine hv4 (fp0.call fn6 rfl rfl) (show TBL vh6 ah6 from TBL.fr hT fn6 rfl rfl) (show STK ln vh6 ah6 from STK.fr hS fn6 rfl rfl) (show f6 = (0 : Int) from ex6) (fun fq13 pw24 pw25 gf6 => ?_)
    refine m_st (st2 := [.int (iI f6)]) rfl ?_
    refine hv4 (show (-2147483648) ≤ vh6 19 ∧ vh6 19 ≤ 2147483647 from bn6.1 19) (show vh6 19 = v 19 from fn6.1 19 rfl) (show 0 ≤ vh6 4 ∧ vh6 4 ≤ 30 from bn6.1 4) (show vh6 4 = v 4 from fn6.1 4 rfl) (fun rv16 ve11 rv17 ve12 => ?_)
    exact n_iret C dX12_undo_12 rfl (Nat.le_of_ble_eq_true rfl) (Nat.le_of_ble_eq_true rfl) ⟨f6, rfl, fq13, bn6, ⟨pw24, pw25, (by show vh6 19 ≤ v 19 + 4; omega), Or.inl ⟨by omega, by omega, (by show vh6 4 = v 4; omega), (fn6.2 5 rfl), (fq13.2 6 rfl), (fq13.2 7 rfl), (fn6.2 10 rfl), (by show vh6 19 = v 19; omega), (fq13.2 18 rfl), (fn6.2 11 rfl), ⟨(fq13.2 8 rfl), (fq13.2 9 rfl), (fq13.2 12 rfl), (fq13.2 13 rfl), (fq13.2 14 rfl), (fq13.2 15 rfl), (fn6.2 16 rfl), (fn6.2 17 rfl)⟩⟩⟩⟩
end
section
set_option maxHeartbeats 4000000 in
set_option maxRecDepth 100000 in
theorem N_read {l : Launch} {G : GT} {h0 : Nat} {ad ln : Nat → Nat} {v : Nat → Int} {a : Nat → Nat → Int}  {t q n1 : Int} (hB : BX v a) (hT : TBL v a) (hW : RWS a) (ht : -2147483648 ≤ t ∧ t ≤ 2147483647) (hq : -2147483648 ≤ q ∧ q ≤ 2147483647) (hn1 : -2147483648 ≤ n1 ∧ n1 ≤ 2147483647) : Mm l G yX12_read cX12_read 11 (some .int) 36 [.int (iI t), .int (iI q), .int (iI n1)] h0 ad ln v a 0 0 (fun r v2 a2 => ∃ f : Int, r = some (.int (iI f)) ∧ fr [0, 1, 50, 52, 53] [44, 45, 46, 47, 48, 49, 51] v a v2 a2 ∧ BX v2 a2 ∧ (RWS a2)) := by
  refine Mm.mk (by decide) (Nat.le_of_ble_eq_true rfl) ?_
  intro p e s m args below meth c A C
  refine hv3 (show 0 ≤ v 4 ∧ v 4 ≤ 30 from hB.1 4) (show 0 ≤ v 36 ∧ v 36 ≤ 200 from hB.1 36) (show fr [0, 1, 50, 52, 53] [44, 45, 46, 47, 48, 49, 51] v a v a from fr.refl) (fun h30 r36 fp0 => ?_)
  refine m_aload_n (j := 0) C dX12_read_0 rfl ?_
  refine m_iload_n (j := 1) C dX12_read_1 rfl ?_
  have rv1 : 0 ≤ v 4 ∧ v 4 ≤ 30 := hB.1 4
  refine m_call (mc2 := 0) (ms2 := 0) (As := [.int (iI t)]) (rest := []) C (M_isWhole (t := t) hB (hT.fr fp0 rfl rfl) (by show -2147483648 ≤ t ∧ t ≤ 2147483647; omega)) dX12_read_2 kV_X12_171 rfl ck_13 rfl (Nat.le_of_ble_eq_true rfl) ⟨Nat.le_of_ble_eq_true rfl, Nat.le_of_ble_eq_true rfl⟩ ⟨Nat.le_of_ble_eq_true rfl, Nat.le_of_ble_eq_true rfl⟩ (fun rh1 vh1 ah1 h1 => ?_)
  obtain ⟨f1, rfl, fn1, bn1, ex1⟩ := h1
  obtain ⟨rfl, rfl⟩ := fn1.eq
  have gf1 : f1 = 0 ∨ (f1 = 1 ∧ 0 ≤ t ∧ t < (v 4)) := ex1
  refine m_st (st2 := [.int (iI f1)]) rfl ?_
  refine m_if_ne (tgt := 14) C (r32_0p gf1) dX12_read_5 (by decide) (fun c1 => ?_) (fun c1 => ?_)
  · replace gf1 := (gf1.resolve_left c1)
    refine m_iload_n (j := 3) C dX12_read_14 rfl ?_
    refine m_if_ge (tgt := 24) C ⟨by omega, by omega⟩ dX12_read_15 (by decide) (fun c2 => ?_) (fun c2 => ?_)
    · refine m_aload_n (j := 0) C dX12_read_24 rfl ?_
      refine m_iconst C dX12_read_25 ?_
      refine m_put (k := 50) (z := 0) C dX12_read_26 w6_109 (by decide) rfl rfl rfl ?_
      refine hv2 (show BX (va_up v 50 0) a from hB.put (k := 50) (z := 0) ⟨by decide, by decide⟩) (fp0.put (k := 50) (z := 0) rfl) (fun bq1 fq2 => ?_)
      refine m_iconst C dX12_read_29 ?_
      refine m_istore (lv2 := [(4, .int (iI 0)), (0, .ref h0), (1, .int (iI t)), (2, .int (iI q)), (3, .int (iI n1))]) C dX12_read_30 (by decide) rfl ?_
      have Lp1 : ∀ (nn : Nat) (k : Int) (vb1 : Nat → Int) (ab1 : Nat → Nat → Int), 201 - k < (nn : Int) → BX vb1 ab1 → fr [0, 1, 50, 52, 53] [44, 45, 46, 47, 48, 49, 51] v a vb1 ab1 → (0 ≤ k ∧ k ≤ n1) → (k = 0 ∨ (0 ≤ q ∧ q + k ≤ v 36)) → (vb1 50 ≤ 201 * k) → (RWS ab1) → mw p l e (rmq 36 0 0) s m args below meth c G A 11 (MQ below (Qm G A (fun rq Lq Eq => ∃ (vq : Nat → Int) (aq : Nat → Nat → Int), mI G h0 ad ln vq aq Lq Eq ∧ (fun r v2 a2 => ∃ f : Int, r = some (.int (iI f)) ∧ fr [0, 1, 50, 52, 53] [44, 45, 46, 47, 48, 49, 51] v a v2 a2 ∧ BX v2 a2 ∧ (RWS a2)) rq vq aq)) args s 0 0 A) h0 ad ln vb1 ab1 0 0 32 [(4, .int (iI k)), (0, .ref h0), (1, .int (iI t)), (2, .int (iI q)), (3, .int (iI n1))] [] := by
        intro nn
        induction nn with
        | zero =>
          intro k vb1 ab1 hm bxb1 fpb1 hk hk2 h50 hW1
          exact absurd hm (by omega)
        | succ nn ih1 =>
          intro k vb1 ab1 hm bxb1 fpb1 hk hk2 h50 hW1
          refine m_iload (j := 0) C dX12_read_32 rfl ?_
          refine m_iload_n (j := 4) C dX12_read_34 rfl ?_
          refine m_icmp_ge (tgt := 209) C ⟨by omega, by omega⟩ ⟨by omega, by omega⟩ dX12_read_35 (by decide) (fun c3 => ?_) (fun c3 => ?_)
          · refine m_aload_n (j := 1) C dX12_read_209 rfl ?_
            refine m_iload_n (j := 2) C dX12_read_210 rfl ?_
            refine hv2 (show 0 ≤ vb1 4 ∧ vb1 4 ≤ 30 from bxb1.1 4) (show vb1 4 = v 4 from fpb1.1 4 rfl) (fun rv2 ve1 => ?_)
            refine m_call (mc2 := 0) (ms2 := 0) (As := [.int (iI t)]) (rest := []) C (M_gather (t := t) bxb1 hW1 (hT.fr fpb1 rfl rfl) (by show 0 ≤ t ∧ t < (vb1 4); omega)) dX12_read_211 kV_X12_354 rfl ck_13 rfl (Nat.le_of_ble_eq_true rfl) ⟨Nat.le_of_ble_eq_true rfl, Nat.le_of_ble_eq_true rfl⟩ ⟨Nat.le_of_ble_eq_true rfl, Nat.le_of_ble_eq_true rfl⟩ (fun rh2 vh2 ah2 h2 => ?_)
            obtain ⟨rfl, fn2, bn2, ex2⟩ := h2
            refine hv2 (fpb1.call fn2 rfl rfl) (ex2) (fun fq3 pw1 => ?_)
            refine m_st (st2 := []) rfl ?_
            refine m_aload_n (j := 1) C dX12_read_214 rfl ?_
            refine m_call (mc2 := 0) (ms2 := 0) (As := []) (rest := []) C (M_readAll  bn2 pw1) dX12_read_215 kV_X12_357 rfl ck_13 rfl (Nat.le_of_ble_eq_true rfl) ⟨Nat.le_of_ble_eq_true rfl, Nat.le_of_ble_eq_true rfl⟩ ⟨Nat.le_of_ble_eq_true rfl, Nat.le_of_ble_eq_true rfl⟩ (fun rh3 vh3 ah3 h3 => ?_)
            obtain ⟨f3, rfl, fn3, bn3, ex3⟩ := h3
            refine hv3 (fq3.call fn3 rfl rfl) (show RWS ah3 from RWS.fr pw1 fn3 rfl) (show f3 = 0 ∨ f3 = 6 ∨ f3 = 9 from ex3) (fun fq4 pw2 gf3 => ?_)
            refine m_st (st2 := [.int (iI f3)]) rfl ?_
            refine m_istore (lv2 := [(4, .int (iI f3)), (0, .ref h0), (1, .int (iI t)), (2, .int (iI q)), (3, .int (iI n1))]) C dX12_read_218 (by decide) rfl ?_
            refine m_iload (j := 0) C dX12_read_220 rfl ?_
            refine m_if_ne (tgt := 234) C ⟨by omega, by omega⟩ dX12_read_222 (by decide) (fun c4 => ?_) (fun c4 => ?_)
            · replace gf3 := (gf3.resolve_left c4)
              refine m_aload_n (j := 1) C dX12_read_234 rfl ?_
              refine m_iconst C dX12_read_235 ?_
              refine m_put (k := 52) (z := 0) C dX12_read_236 w6_111 (by decide) rfl rfl rfl ?_
              refine hv2 (show BX (va_up vh3 52 0) ah3 from bn3.put (k := 52) (z := 0) ⟨by decide, by decide⟩) (fq4.put (k := 52) (z := 0) rfl) (fun bq2 fq5 => ?_)
              refine m_aload_n (j := 1) C dX12_read_239 rfl ?_
              have rv3 : 0 ≤ vh3 53 ∧ vh3 53 ≤ 40200 := bq2.1 53
              refine m_get (k := 53) C dX12_read_240 w6_112 (by decide) rfl ?_
              refine m_st (st2 := [.int (iI (vh3 53))]) rfl ?_
              refine m_aload_n (j := 1) C dX12_read_243 rfl ?_
              refine hv3 (show 0 ≤ vh3 50 ∧ vh3 50 ≤ 40200 from bq2.1 50) (show vh3 50 = vh2 50 from fn3.1 50 rfl) (show vh2 50 = vb1 50 from fn2.1 50 rfl) (fun rv4 ve2 ve3 => ?_)
              refine m_get (k := 50) C dX12_read_244 w6_109 (by decide) rfl ?_
              refine m_st (st2 := [.int (iI (vh3 50)), .int (iI (vh3 53))]) rfl ?_
              refine m_icmp_ge (tgt := 274) C (r32_c (lo := 0) (hi := 40200) rv3.1 rv3.2 (by decide) (by decide)) (r32_c (lo := 0) (hi := 40200) rv4.1 rv4.2 (by decide) (by decide)) dX12_read_247 (by decide) (fun c5 => ?_) (fun c5 => ?_)
              · refine m_aload_n (j := 1) C dX12_read_274 rfl ?_
                refine m_get (k := 53) C dX12_read_275 w6_112 (by decide) rfl ?_
                refine m_st (st2 := [.int (iI (vh3 53))]) rfl ?_
                refine m_if_le (tgt := 297) C (r32_c (lo := 0) (hi := 40200) rv3.1 rv3.2 (by decide) (by decide)) dX12_read_278 (by decide) (fun c6 => ?_) (fun c6 => ?_)
                · refine m_iconst C dX12_read_297 ?_
                  obtain ⟨zz1, hzz1, ezz1⟩ := iI_of (iI 0)
                  refine m_st (st2 := [.int (iI zz1)]) (by rw [ezz1]) ?_
                  refine m_istore (lv2 := [(5, .int (iI zz1)), (4, .int (iI f3)), (0, .ref h0), (1, .int (iI t)), (2, .int (iI q)), (3, .int (iI n1))]) C dX12_read_298 (by decide) rfl ?_
                  refine m_aload_n (j := 2) C dX12_read_300 rfl ?_
                  refine m_iload (j := 1) C dX12_read_301 rfl ?_
                  refine m_iload (j := 0) C dX12_read_303 rfl ?_
                  refine m_call (mc2 := 0) (ms2 := 0) (As := [.int (iI f3), .int (iI zz1)]) (rest := []) C (B_badAt (x := f3) (y := zz1) bq2 (by show -2147483648 ≤ f3 ∧ f3 ≤ 2147483647; omega) (by show -2147483648 ≤ zz1 ∧ zz1 ≤ 2147483647; omega)) dX12_read_305 kV_X12_240 rfl ck_13 rfl (Nat.le_of_ble_eq_true rfl) ⟨Nat.le_of_ble_eq_true rfl, Nat.le_of_ble_eq_true rfl⟩ ⟨Nat.le_of_ble_eq_true rfl, Nat.le_of_ble_eq_true rfl⟩ (fun rh4 vh4 ah4 h4 => ?_)
                  obtain ⟨f4, rfl, fn4, bn4, ex4⟩ := h4
                  refine hv3 (fq5.call fn4 rfl rfl) (show RWS ah4 from RWS.fr pw2 fn4 rfl) (show f4 = -1 from ex4) (fun fq6 pw3 gf4 => ?_)
                  refine m_st (st2 := [.int (iI f4)]) rfl ?_
                  exact m_iret C dX12_read_308 rfl (Nat.le_of_ble_eq_true rfl) (Nat.le_of_ble_eq_true rfl) ⟨f4, rfl, fq6, bn4, pw3⟩
                · refine m_aload_n (j := 1) C dX12_read_281 rfl ?_
                  refine m_geta (k := 49) C dX12_read_282 w6_108 (by decide) rfl ?_
                  refine m_aload_n (j := 1) C dX12_read_285 rfl ?_
                  refine m_get (k := 53) C dX12_read_286 w6_112 (by decide) rfl ?_
                  refine m_st (st2 := [.int (iI (vh3 53)), .ref (ad 49)]) rfl ?_
                  refine m_iconst C dX12_read_289 ?_
                  refine m_isub C dX12_read_290 ?_
                  refine m_ald (k := 49) C dX12_read_291 rfl rfl (by decide) (by omega) (by show _ < ((_ : Nat) : Int); simp only [mlen]; omega) (by decide) ?_
                  refine hv3 (show (-2147483648) ≤ ah3 49 ((vh3 53) - 1).toNat ∧ ah3 49 ((vh3 53) - 1).toNat ≤ 2147483647 from bq2.2 49 (((vh3 53) - 1).toNat)) (show ah3 49 (((vh3 53) - 1).toNat) = ah2 49 (((vh3 53) - 1).toNat) from congrFun (fn3.2 49 rfl) (((vh3 53) - 1).toNat)) (show ah2 49 (((vh3 53) - 1).toNat) = ab1 49 (((vh3 53) - 1).toNat) from congrFun (fn2.2 49 rfl) (((vh3 53) - 1).toNat)) (fun ra1 ae1 ae2 => ?_)
                  refine m_iconst C dX12_read_292 ?_
                  refine m_iadd C dX12_read_293 ?_
                  refine m_goto (tgt := 298) C dX12_read_294 (by decide) ?_
                  obtain ⟨zz2, hzz2, ezz2⟩ := iI_of (iI ((ah3 49 ((vh3 53) - 1).toNat) + 1))
                  refine m_st (st2 := [.int (iI zz2)]) (by rw [ezz2]) ?_
                  refine m_istore (lv2 := [(5, .int (iI zz2)), (4, .int (iI f3)), (0, .ref h0), (1, .int (iI t)), (2, .int (iI q)), (3, .int (iI n1))]) C dX12_read_298 (by decide) rfl ?_
                  refine m_aload_n (j := 2) C dX12_read_300 rfl ?_
                  refine m_iload (j := 1) C dX12_read_301 rfl ?_
                  refine m_iload (j := 0) C dX12_read_303 rfl ?_
                  refine m_call (mc2 := 0) (ms2 := 0) (As := [.int (iI f3), .int (iI zz2)]) (rest := []) C (B_badAt (x := f3) (y := zz2) bq2 (by show -2147483648 ≤ f3 ∧ f3 ≤ 2147483647; omega) (by show -2147483648 ≤ zz2 ∧ zz2 ≤ 2147483647; omega)) dX12_read_305 kV_X12_240 rfl ck_13 rfl (Nat.le_of_ble_eq_true rfl) ⟨Nat.le_of_ble_eq_true rfl, Nat.le_of_ble_eq_true rfl⟩ ⟨Nat.le_of_ble_eq_true rfl, Nat.le_of_ble_eq_true rfl⟩ (fun rh5 vh5 ah5 h5 => ?_)
                  obtain ⟨f5, rfl, fn5, bn5, ex5⟩ := h5
                  refine hv3 (fq5.call fn5 rfl rfl) (show RWS ah5 from RWS.fr pw2 fn5 rfl) (show f5 = -1 from ex5) (fun fq7 pw4 gf5 => ?_)
                  refine m_st (st2 := [.int (iI f5)]) rfl ?_
                  exact m_iret C dX12_read_308 rfl (Nat.le_of_ble_eq_true rfl) (Nat.le_of_ble_eq_true rfl) ⟨f5, rfl, fq7, bn5, pw4⟩
              · refine m_aload_n (j := 1) C dX12_read_250 rfl ?_
                refine m_geta (k := 48) C dX12_read_251 w6_107 (by decide) rfl ?_
                refine m_aload_n (j := 1) C dX12_read_254 rfl ?_
                refine m_get (k := 53) C dX12_read_255 w6_112 (by decide) rfl ?_
                refine m_st (st2 := [.int (iI (vh3 53)), .ref (ad 48)]) rfl ?_
                refine m_ald (k := 48) C dX12_read_258 rfl rfl (by decide) (by omega) (by show _ < ((_ : Nat) : Int); simp only [mlen]; omega) (by decide) ?_
                refine hv3 (show (-2147483648) ≤ ah3 48 (vh3 53).toNat ∧ ah3 48 (vh3 53).toNat ≤ 2147483647 from bq2.2 48 ((vh3 53).toNat)) (show ah3 48 ((vh3 53).toNat) = ah2 48 ((vh3 53).toNat) from congrFun (fn3.2 48 rfl) ((vh3 53).toNat)) (show ah2 48 ((vh3 53).toNat) = ab1 48 ((vh3 53).toNat) from congrFun (fn2.2 48 rfl) ((vh3 53).toNat)) (fun ra2 ae3 ae4 => ?_)
                refine m_if_eq (tgt := 274) C (r32_c (lo := (-2147483648)) (hi := 2147483647) ra2.1 ra2.2 (by decide) (by decide)) dX12_read_259 (by decide) (fun c7 => ?_) (fun c7 => ?_)
                · refine m_aload_n (j := 1) C dX12_read_274 rfl ?_
                  refine m_get (k := 53) C dX12_read_275 w6_112 (by decide) rfl ?_
                  refine m_st (st2 := [.int (iI (vh3 53))]) rfl ?_
                  refine m_if_le (tgt := 297) C (r32_c (lo := 0) (hi := 40200) rv3.1 rv3.2 (by decide) (by decide)) dX12_read_278 (by decide) (fun c8 => ?_) (fun c8 => ?_)
                  · refine m_iconst C dX12_read_297 ?_
                    obtain ⟨zz3, hzz3, ezz3⟩ := iI_of (iI 0)
                    refine m_st (st2 := [.int (iI zz3)]) (by rw [ezz3]) ?_
                    refine m_istore (lv2 := [(5, .int (iI zz3)), (4, .int (iI f3)), (0, .ref h0), (1, .int (iI t)), (2, .int (iI q)), (3, .int (iI n1))]) C dX12_read_298 (by decide) rfl ?_
                    refine m_aload_n (j := 2) C dX12_read_300 rfl ?_
                    refine m_iload (j := 1) C dX12_read_301 rfl ?_
                    refine m_iload (j := 0) C dX12_read_303 rfl ?_
                    refine m_call (mc2 := 0) (ms2 := 0) (As := [.int (iI f3), .int (iI zz3)]) (rest := []) C (B_badAt (x := f3) (y := zz3) bq2 (by show -2147483648 ≤ f3 ∧ f3 ≤ 2147483647; omega) (by show -2147483648 ≤ zz3 ∧ zz3 ≤ 2147483647; omega)) dX12_read_305 kV_X12_240 rfl ck_13 rfl (Nat.le_of_ble_eq_true rfl) ⟨Nat.le_of_ble_eq_true rfl, Nat.le_of_ble_eq_true rfl⟩ ⟨Nat.le_of_ble_eq_true rfl, Nat.le_of_ble_eq_true rfl⟩ (fun rh6 vh6 ah6 h6 => ?_)
                    obtain ⟨f6, rfl, fn6, bn6, ex6⟩ := h6
                    refine hv3 (fq5.call fn6 rfl rfl) (show RWS ah6 from RWS.fr pw2 fn6 rfl) (show f6 = -1 from ex6) (fun fq8 pw5 gf6 => ?_)
                    refine m_st (st2 := [.int (iI f6)]) rfl ?_
                    exact m_iret C dX12_read_308 rfl (Nat.le_of_ble_eq_true rfl) (Nat.le_of_ble_eq_true rfl) ⟨f6, rfl, fq8, bn6, pw5⟩
                  · refine m_aload_n (j := 1) C dX12_read_281 rfl ?_
                    refine m_geta (k := 49) C dX12_read_282 w6_108 (by decide) rfl ?_
                    refine m_aload_n (j := 1) C dX12_read_285 rfl ?_
                    refine m_get (k := 53) C dX12_read_286 w6_112 (by decide) rfl ?_
                    refine m_st (st2 := [.int (iI (vh3 53)), .ref (ad 49)]) rfl ?_
                    refine m_iconst C dX12_read_289 ?_
                    refine m_isub C dX12_read_290 ?_
                    refine m_ald (k := 49) C dX12_read_291 rfl rfl (by decide) (by omega) (by show _ < ((_ : Nat) : Int); simp only [mlen]; omega) (by decide) ?_
                    refine hv3 (show (-2147483648) ≤ ah3 49 ((vh3 53) - 1).toNat ∧ ah3 49 ((vh3 53) - 1).toNat ≤ 2147483647 from bq2.2 49 (((vh3 53) - 1).toNat)) (show ah3 49 (((vh3 53) - 1).toNat) = ah2 49 (((vh3 53) - 1).toNat) from congrFun (fn3.2 49 rfl) (((vh3 53) - 1).toNat)) (show ah2 49 (((vh3 53) - 1).toNat) = ab1 49 (((vh3 53) - 1).toNat) from congrFun (fn2.2 49 rfl) (((vh3 53) - 1).toNat)) (fun ra3 ae5 ae6 => ?_)
                    refine m_iconst C dX12_read_292 ?_
                    refine m_iadd C dX12_read_293 ?_
                    refine m_goto (tgt := 298) C dX12_read_294 (by decide) ?_
                    obtain ⟨zz4, hzz4, ezz4⟩ := iI_of (iI ((ah3 49 ((vh3 53) - 1).toNat) + 1))
                    refine m_st (st2 := [.int (iI zz4)]) (by rw [ezz4]) ?_
                    refine m_istore (lv2 := [(5, .int (iI zz4)), (4, .int (iI f3)), (0, .ref h0), (1, .int (iI t)), (2, .int (iI q)), (3, .int (iI n1))]) C dX12_read_298 (by decide) rfl ?_
                    refine m_aload_n (j := 2) C dX12_read_300 rfl ?_
                    refine m_iload (j := 1) C dX12_read_301 rfl ?_
                    refine m_iload (j := 0) C dX12_read_303 rfl ?_
                    refine m_call (mc2 := 0) (ms2 := 0) (As := [.int (iI f3), .int (iI zz4)]) (rest := []) C (B_badAt (x := f3) (y := zz4) bq2 (by show -2147483648 ≤ f3 ∧ f3 ≤ 2147483647; omega) (by show -2147483648 ≤ zz4 ∧ zz4 ≤ 2147483647; omega)) dX12_read_305 kV_X12_240 rfl ck_13 rfl (Nat.le_of_ble_eq_true rfl) ⟨Nat.le_of_ble_eq_true rfl, Nat.le_of_ble_eq_true rfl⟩ ⟨Nat.le_of_ble_eq_true rfl, Nat.le_of_ble_eq_true rfl⟩ (fun rh7 vh7 ah7 h7 => ?_)
                    obtain ⟨f7, rfl, fn7, bn7, ex7⟩ := h7
                    refine hv3 (fq5.call fn7 rfl rfl) (show RWS ah7 from RWS.fr pw2 fn7 rfl) (show f7 = -1 from ex7) (fun fq9 pw6 gf7 => ?_)
                    refine m_st (st2 := [.int (iI f7)]) rfl ?_
                    exact m_iret C dX12_read_308 rfl (Nat.le_of_ble_eq_true rfl) (Nat.le_of_ble_eq_true rfl) ⟨f7, rfl, fq9, bn7, pw6⟩
                · refine m_aload_n (j := 1) C dX12_read_262 rfl ?_
                  refine m_geta (k := 49) C dX12_read_263 w6_108 (by decide) rfl ?_
                  refine m_aload_n (j := 1) C dX12_read_266 rfl ?_
                  refine m_get (k := 53) C dX12_read_267 w6_112 (by decide) rfl ?_
                  refine m_st (st2 := [.int (iI (vh3 53)), .ref (ad 49)]) rfl ?_
                  refine m_ald (k := 49) C dX12_read_270 rfl rfl (by decide) (by omega) (by show _ < ((_ : Nat) : Int); simp only [mlen]; omega) (by decide) ?_
                  refine hv3 (show (-2147483648) ≤ ah3 49 (vh3 53).toNat ∧ ah3 49 (vh3 53).toNat ≤ 2147483647 from bq2.2 49 ((vh3 53).toNat)) (show ah3 49 ((vh3 53).toNat) = ah2 49 ((vh3 53).toNat) from congrFun (fn3.2 49 rfl) ((vh3 53).toNat)) (show ah2 49 ((vh3 53).toNat) = ab1 49 ((vh3 53).toNat) from congrFun (fn2.2 49 rfl) ((vh3 53).toNat)) (fun ra4 ae7 ae8 => ?_)
                  refine m_goto (tgt := 298) C dX12_read_271 (by decide) ?_
                  obtain ⟨zz5, hzz5, ezz5⟩ := iI_of (iI (ah3 49 (vh3 53).toNat))
                  refine m_st (st2 := [.int (iI zz5)]) (by rw [ezz5]) ?_
                  refine m_istore (lv2 := [(5, .int (iI zz5)), (4, .int (iI f3)), (0, .ref h0), (1, .int (iI t)), (2, .int (iI q)), (3, .int (iI n1))]) C dX12_read_298 (by decide) rfl ?_
                  refine m_aload_n (j := 2) C dX12_read_300 rfl ?_
                  refine m_iload (j := 1) C dX12_read_301 rfl ?_
                  refine m_iload (j := 0) C dX12_read_303 rfl ?_
                  refine m_call (mc2 := 0) (ms2 := 0) (As := [.int (iI f3), .int (iI zz5)]) (rest := []) C (B_badAt (x := f3) (y := zz5) bq2 (by show -2147483648 ≤ f3 ∧ f3 ≤ 2147483647; omega) (by show -2147483648 ≤ zz5 ∧ zz5 ≤ 2147483647; omega)) dX12_read_305 kV_X12_240 rfl ck_13 rfl (Nat.le_of_ble_eq_true rfl) ⟨Nat.le_of_ble_eq_true rfl, Nat.le_of_ble_eq_true rfl⟩ ⟨Nat.le_of_ble_eq_true rfl, Nat.le_of_ble_eq_true rfl⟩ (fun rh8 vh8 ah8 h8 => ?_)
                  obtain ⟨f8, rfl, fn8, bn8, ex8⟩ := h8
                  refine hv3 (fq5.call fn8 rfl rfl) (show RWS ah8 from RWS.fr pw2 fn8 rfl) (show f8 = -1 from ex8) (fun fq10 pw7 gf8 => ?_)
                  refine m_st (st2 := [.int (iI f8)]) rfl ?_
                  exact m_iret C dX12_read_308 rfl (Nat.le_of_ble_eq_true rfl) (Nat.le_of_ble_eq_true rfl) ⟨f8, rfl, fq10, bn8, pw7⟩
            · clear gf3
              refine m_aload_n (j := 1) C dX12_read_225 rfl ?_
              refine m_aload_n (j := 1) C dX12_read_226 rfl ?_
              have rv5 : 0 ≤ vh3 52 ∧ vh3 52 ≤ 4000 := bn3.1 52
              refine m_get (k := 52) C dX12_read_227 w6_111 (by decide) rfl ?_
              refine m_call (mc2 := 0) (ms2 := 0) (As := [.int (iI (vh3 52))]) (rest := []) C (B_fine (x := vh3 52) bn3 (by show -2147483648 ≤ (vh3 52) ∧ (vh3 52) ≤ 2147483647; omega)) dX12_read_230 kV_X12_158 rfl ck_13 rfl (Nat.le_of_ble_eq_true rfl) ⟨Nat.le_of_ble_eq_true rfl, Nat.le_of_ble_eq_true rfl⟩ ⟨Nat.le_of_ble_eq_true rfl, Nat.le_of_ble_eq_true rfl⟩ (fun rh9 vh9 ah9 h9 => ?_)
              obtain ⟨f9, rfl, fn9, bn9, ex9⟩ := h9
              refine hv3 (fq4.call fn9 rfl rfl) (show RWS ah9 from RWS.fr pw2 fn9 rfl) (show f9 = (vh3 52) from ex9) (fun fq11 pw8 gf9 => ?_)
              refine m_st (st2 := [.int (iI f9)]) rfl ?_
              exact m_iret C dX12_read_233 rfl (Nat.le_of_ble_eq_true rfl) (Nat.le_of_ble_eq_true rfl) ⟨f9, rfl, fq11, bn9, pw8⟩
          · refine m_iload_n (j := 3) C dX12_read_38 rfl ?_
            refine m_i2l (w := lI q) C dX12_read_39 (lI_of ⟨by omega, by omega⟩) ?_
            refine m_iload (j := 0) C dX12_read_40 rfl ?_
            refine m_i2l (w := lI k) C dX12_read_42 (lI_of ⟨by omega, by omega⟩) ?_
            refine m_ladd (w := lI (q + k)) C dX12_read_43 (lI_add _ _) ?_
            refine m_lstore (lv2 := [(5, .long (lI (q + k))), (4, .int (iI k)), (0, .ref h0), (1, .int (iI t)), (2, .int (iI q)), (3, .int (iI n1))]) C dX12_read_44 (by decide) rfl ?_
            refine m_lload (j := 0) C dX12_read_46 rfl ?_
            refine m_lconst (w := lI 0) C dX12_read_48 rfl ?_
            obtain ⟨lc1, hlc1, elc1⟩ := lcmp_c (x := (q + k)) (y := 0) ⟨by omega, by omega⟩ ⟨by omega, by omega⟩
            refine m_lcmp (w := iI lc1) C dX12_read_49 elc1 ?_
            have J1 : ∀ (y : Int) (vb2 : Nat → Int) (ab2 : Nat → Nat → Int), BX vb2 ab2 → fr [0, 1, 50, 52, 53] [44, 45, 46, 47, 48, 49, 51] v a vb2 ab2 → (y = -1 ∨ (y = q + k ∧ 0 ≤ y ∧ y < v 36)) → (vb2 50 ≤ 201 * k) → (RWS ab2) → mw p l e (rmq 36 0 0) s m args below meth c G A 11 (MQ below (Qm G A (fun rq Lq Eq => ∃ (vq : Nat → Int) (aq : Nat → Nat → Int), mI G h0 ad ln vq aq Lq Eq ∧ (fun r v2 a2 => ∃ f : Int, r = some (.int (iI f)) ∧ fr [0, 1, 50, 52, 53] [44, 45, 46, 47, 48, 49, 51] v a v2 a2 ∧ BX v2 a2 ∧ (RWS a2)) rq vq aq)) args s 0 0 A) h0 ad ln vb2 ab2 0 0 71 [(5, .long (lI (q + k))), (4, .int (iI k)), (0, .ref h0), (1, .int (iI t)), (2, .int (iI q)), (3, .int (iI n1))] [.int (iI y)] := by
              intro y vb2 ab2 bxb2 fpb2 hy h501 hW2
              refine m_istore (lv2 := [(7, .int (iI y)), (5, .long (lI (q + k))), (4, .int (iI k)), (0, .ref h0), (1, .int (iI t)), (2, .int (iI q)), (3, .int (iI n1))]) C dX12_read_71 (by decide) rfl ?_
              refine m_aload_n (j := 3) C dX12_read_73 rfl ?_
              refine m_iload (j := 0) C dX12_read_74 rfl ?_
              refine hv2 (show 0 ≤ vb2 36 ∧ vb2 36 ≤ 200 from bxb2.1 36) (show vb2 36 = v 36 from fpb2.1 36 rfl) (fun rv6 ve4 => ?_)
              refine m_call (mc2 := 0) (ms2 := 0) (As := [.int (iI y)]) (rest := []) C (M_lineFault (l0 := y) bxb2.rg ⟨by omega, by omega⟩ ⟨bxb2.1 36, bxb2.2 34⟩) dX12_read_76 kV_X12_294 rfl ck_13 rfl (Nat.le_of_ble_eq_true rfl) ⟨Nat.le_of_ble_eq_true rfl, Nat.le_of_ble_eq_true rfl⟩ ⟨Nat.le_of_ble_eq_true rfl, Nat.le_of_ble_eq_true rfl⟩ (fun rh10 vh10 ah10 h10 => ?_)
              obtain ⟨f10, rfl, hf10, rfl, rfl⟩ := h10
              refine hv3 (show (f10 = 2 ∧ ¬ (0 ≤ y ∧ y < (vb2 36))) ∨ (f10 = 1 ∧ 0 ≤ y ∧ y < (vb2 36) ∧ ab2 34 y.toNat < 0) ∨ (f10 = 0 ∧ 0 ≤ y ∧ y < (vb2 36) ∧ 0 ≤ ab2 34 y.toNat) from hf10) (show (-1) ≤ ab2 34 y.toNat ∧ ab2 34 y.toNat ≤ 200 from bxb2.2 34 (y.toNat)) (show ab2 34 (y.toNat) = a 34 (y.toNat) from congrFun (fpb2.2 34 rfl) (y.toNat)) (fun gf10 ra5 ae9 => ?_)
              refine m_st (st2 := [.int (iI f10)]) rfl ?_
              refine m_if_le (tgt := 93) C ⟨by omega, by omega⟩ dX12_read_79 (by decide) (fun c9 => ?_) (fun c9 => ?_)
              · refine m_aload_n (j := 3) C dX12_read_93 rfl ?_
                refine m_geta (k := 34) C dX12_read_94 w6_93 (by decide) rfl ?_
                refine m_iload (j := 0) C dX12_read_97 rfl ?_
                refine m_ald (k := 34) C dX12_read_99 rfl rfl (by decide) (by omega) (by show _ < ((_ : Nat) : Int); simp only [mlen]; omega) (by decide) ?_
                refine m_st (st2 := [.int (iI (a 34 y.toNat))]) (congrArg (fun z => Value.int (iI z) :: []) (congrFun (fpb2.2 34 rfl) (y.toNat))) ?_
                refine m_istore (lv2 := [(8, .int (iI (a 34 y.toNat))), (7, .int (iI y)), (5, .long (lI (q + k))), (4, .int (iI k)), (0, .ref h0), (1, .int (iI t)), (2, .int (iI q)), (3, .int (iI n1))]) C dX12_read_100 (by decide) rfl ?_
                refine m_iload (j := 0) C dX12_read_102 rfl ?_
                have J2 : ∀ (g : Int) (vb3 : Nat → Int) (ab3 : Nat → Nat → Int), BX vb3 ab3 → fr [0, 1, 50, 52, 53] [44, 45, 46, 47, 48, 49, 51] v a vb3 ab3 → (g = 0 ∨ (g = 1 ∧ 0 < a 34 y.toNat)) → (vb3 50 ≤ 201 * k) → (RWS ab3) → mw p l e (rmq 36 0 0) s m args below meth c G A 11 (MQ below (Qm G A (fun rq Lq Eq => ∃ (vq : Nat → Int) (aq : Nat → Nat → Int), mI G h0 ad ln vq aq Lq Eq ∧ (fun r v2 a2 => ∃ f : Int, r = some (.int (iI f)) ∧ fr [0, 1, 50, 52, 53] [44, 45, 46, 47, 48, 49, 51] v a v2 a2 ∧ BX v2 a2 ∧ (RWS a2)) rq vq aq)) args s 0 0 A) h0 ad ln vb3 ab3 0 0 135 [(8, .int (iI (a 34 y.toNat))), (7, .int (iI y)), (5, .long (lI (q + k))), (4, .int (iI k)), (0, .ref h0), (1, .int (iI t)), (2, .int (iI q)), (3, .int (iI n1))] [.int (iI g)] := by
                  intro g vb3 ab3 bxb3 fpb3 hg h502 hW3
                  refine m_istore (lv2 := [(9, .int (iI g)), (8, .int (iI (a 34 y.toNat))), (7, .int (iI y)), (5, .long (lI (q + k))), (4, .int (iI k)), (0, .ref h0), (1, .int (iI t)), (2, .int (iI q)), (3, .int (iI n1))]) C dX12_read_135 (by decide) rfl ?_
                  refine m_iconst C dX12_read_137 ?_
                  refine m_istore (lv2 := [(10, .int (iI 0)), (9, .int (iI g)), (8, .int (iI (a 34 y.toNat))), (7, .int (iI y)), (5, .long (lI (q + k))), (4, .int (iI k)), (0, .ref h0), (1, .int (iI t)), (2, .int (iI q)), (3, .int (iI n1))]) C dX12_read_138 (by decide) rfl ?_
                  have Lp2 : ∀ (nn : Nat) (i1 : Int) (vb4 : Nat → Int) (ab4 : Nat → Nat → Int), 201 - i1 < (nn : Int) → BX vb4 ab4 → fr [0, 1, 50, 52, 53] [44, 45, 46, 47, 48, 49, 51] v a vb4 ab4 → (0 ≤ i1 ∧ i1 ≤ a 34 y.toNat) → (vb4 50 ≤ 201 * k + i1) → (RWS ab4) → mw p l e (rmq 36 0 0) s m args below meth c G A 11 (MQ below (Qm G A (fun rq Lq Eq => ∃ (vq : Nat → Int) (aq : Nat → Nat → Int), mI G h0 ad ln vq aq Lq Eq ∧ (fun r v2 a2 => ∃ f : Int, r = some (.int (iI f)) ∧ fr [0, 1, 50, 52, 53] [44, 45, 46, 47, 48, 49, 51] v a v2 a2 ∧ BX v2 a2 ∧ (RWS a2)) rq vq aq)) args s 0 0 A) h0 ad ln vb4 ab4 0 0 140 [(10, .int (iI i1)), (9, .int (iI g)), (8, .int (iI (a 34 y.toNat))), (7, .int (iI y)), (5, .long (lI (q + k))), (4, .int (iI k)), (0, .ref h0), (1, .int (iI t)), (2, .int (iI q)), (3, .int (iI n1))] [] := by
                    intro nn
                    induction nn with
                    | zero =>
                      intro i1 vb4 ab4 hm bxb4 fpb4 hi h503 hW4
                      exact absurd hm (by omega)
                    | succ nn ih2 =>
                      intro i1 vb4 ab4 hm bxb4 fpb4 hi h503 hW4
                      refine m_iload (j := 0) C dX12_read_140 rfl ?_
                      refine m_iload (j := 1) C dX12_read_142 rfl ?_
                      refine m_if_eq (tgt := 154) C ⟨by omega, by omega⟩ dX12_read_144 (by decide) (fun c10 => ?_) (fun c10 => ?_)
                      · clear hg
                        refine m_iload (j := 2) C dX12_read_154 rfl ?_
                        refine m_icmp_ge (tgt := 192) C ⟨by omega, by omega⟩ ⟨by omega, by omega⟩ dX12_read_156 (by decide) (fun c11 => ?_) (fun c11 => ?_)
                        · refine m_iload (j := 1) C dX12_read_192 rfl ?_
                          refine m_if_ne (tgt := 203) C ⟨by omega, by omega⟩ dX12_read_194 (by decide) (fun z => absurd z (by omega)) (fun _ => ?_)
                          refine m_aload_n (j := 6) C dX12_read_197 rfl ?_
                          refine m_iconst C dX12_read_198 ?_
                          refine m_iconst C dX12_read_199 ?_
                          have rv7 : 0 ≤ vb4 50 ∧ vb4 50 ≤ 40200 := bxb4.1 50
                          refine m_call (mc2 := 0) (ms2 := 0) (As := [.int (iI 0), .int (iI 0)]) (rest := []) C (B_putRow (x := 0) (y := 0) bxb4 (by show -2147483648 ≤ (0 : Int) ∧ (0 : Int) ≤ 2147483647; omega) (by show -2147483648 ≤ (0 : Int) ∧ (0 : Int) ≤ 2147483647; omega) (by show (vb4 50) < 40200; omega)) dX12_read_200 kV_X12_351 rfl ck_13 rfl (Nat.le_of_ble_eq_true rfl) ⟨Nat.le_of_ble_eq_true rfl, Nat.le_of_ble_eq_true rfl⟩ ⟨Nat.le_of_ble_eq_true rfl, Nat.le_of_ble_eq_true rfl⟩ (fun rh11 vh11 ah11 h11 => ?_)
                          obtain ⟨rfl, fn10, bn10, ex10⟩ := h11
                          refine hv4 (fpb4.call fn10 rfl rfl) (show RWS ah11 from RWS.fr hW4 fn10 rfl) (show 0 ≤ vh11 50 ∧ vh11 50 ≤ 40200 from bn10.1 50) (show (vh11 50) = (vb4 50) + 1 from ex10) (fun fq12 pw9 rv8 gf11 => ?_)
                          refine m_st (st2 := []) rfl ?_
                          refine m_iinc (z := k) (j := 5) (lv2 := [(4, .int (iI (k + 1))), (10, .int (iI i1)), (9, .int (iI g)), (8, .int (iI (a 34 y.toNat))), (7, .int (iI y)), (5, .long (lI (q + k))), (0, .ref h0), (1, .int (iI t)), (2, .int (iI q)), (3, .int (iI n1))]) C dX12_read_203 rfl (by decide) rfl ?_
                          refine m_goto (tgt := 32) C dX12_read_206 (by decide) ?_
                          refine m_lv (lv2 := [(4, .int (iI (k + 1))), (0, .ref h0), (1, .int (iI t)), (2, .int (iI q)), (3, .int (iI n1))]) [0, 6, 7, 8, 9] rfl ?_
                          exact ih1  (k + 1) _ _ (by omega) bn10 fq12 (by omega) (by omega) (by show (vh11 50) ≤ 201 * (k + 1); omega) pw9
                        · refine m_aload_n (j := 6) C dX12_read_159 rfl ?_
                          refine m_aload_n (j := 6) C dX12_read_160 rfl ?_
                          refine m_geta (k := 35) C dX12_read_161 w6_94 (by decide) rfl ?_
                          refine m_sipush (z := 200) C dX12_read_164 (by decide) ?_
                          refine m_iload (j := 3) C dX12_read_167 rfl ?_
                          refine m_imul C dX12_read_169 ?_
                          refine m_iload (j := 0) C dX12_read_170 rfl ?_
                          refine m_iadd C dX12_read_172 ?_
                          refine m_ald (k := 35) C dX12_read_173 rfl rfl (by decide) (by omega) (by show _ < ((_ : Nat) : Int); simp only [mlen]; omega) (by decide) ?_
                          refine hv2 (show (-2147483648) ≤ ab4 35 ((200 * y) + i1).toNat ∧ ab4 35 ((200 * y) + i1).toNat ≤ 2147483647 from bxb4.2 35 (((200 * y) + i1).toNat)) (show ab4 35 (((200 * y) + i1).toNat) = a 35 (((200 * y) + i1).toNat) from congrFun (fpb4.2 35 rfl) (((200 * y) + i1).toNat)) (fun ra6 ae10 => ?_)
                          refine m_st (st2 := [.int (iI (a 35 ((200 * y) + i1).toNat)), .ref h0]) (congrArg (fun z => Value.int (iI z) :: [.ref h0]) (congrFun (fpb4.2 35 rfl) (((200 * y) + i1).toNat))) ?_
                          refine m_sipush (z := 1000) C dX12_read_174 (by decide) ?_
                          refine m_iload (j := 3) C dX12_read_177 rfl ?_
                          refine m_imul C dX12_read_179 ?_
                          refine m_iload (j := 0) C dX12_read_180 rfl ?_
                          refine m_iadd C dX12_read_182 ?_
                          have rv9 : 0 ≤ vb4 50 ∧ vb4 50 ≤ 40200 := bxb4.1 50
                          refine m_call (mc2 := 0) (ms2 := 0) (As := [.int (iI (a 35 ((200 * y) + i1).toNat)), .int (iI ((1000 * y) + i1))]) (rest := []) C (B_putRow (x := a 35 ((200 * y) + i1).toNat) (y := (1000 * y) + i1) bxb4 (by show -2147483648 ≤ (a 35 ((200 * y) + i1).toNat) ∧ (a 35 ((200 * y) + i1).toNat) ≤ 2147483647; omega) (by show -2147483648 ≤ ((1000 * y) + i1) ∧ ((1000 * y) + i1) ≤ 2147483647; omega) (by show (vb4 50) < 40200; omega)) dX12_read_183 kV_X12_351 rfl ck_13 rfl (Nat.le_of_ble_eq_true rfl) ⟨Nat.le_of_ble_eq_true rfl, Nat.le_of_ble_eq_true rfl⟩ ⟨Nat.le_of_ble_eq_true rfl, Nat.le_of_ble_eq_true rfl⟩ (fun rh12 vh12 ah12 h12 => ?_)
                          obtain ⟨rfl, fn11, bn11, ex11⟩ := h12
                          refine hv4 (fpb4.call fn11 rfl rfl) (show RWS ah12 from RWS.fr hW4 fn11 rfl) (show 0 ≤ vh12 50 ∧ vh12 50 ≤ 40200 from bn11.1 50) (show (vh12 50) = (vb4 50) + 1 from ex11) (fun fq13 pw10 rv10 gf12 => ?_)
                          refine m_st (st2 := []) rfl ?_
                          refine m_iinc (z := i1) (j := 0) (lv2 := [(10, .int (iI (i1 + 1))), (9, .int (iI g)), (8, .int (iI (a 34 y.toNat))), (7, .int (iI y)), (5, .long (lI (q + k))), (4, .int (iI k)), (0, .ref h0), (1, .int (iI t)), (2, .int (iI q)), (3, .int (iI n1))]) C dX12_read_186 rfl (by decide) rfl ?_
                          refine m_goto (tgt := 140) C dX12_read_189 (by decide) ?_
                          refine m_lv (lv2 := [(10, .int (iI (i1 + 1))), (9, .int (iI g)), (8, .int (iI (a 34 y.toNat))), (7, .int (iI y)), (5, .long (lI (q + k))), (4, .int (iI k)), (0, .ref h0), (1, .int (iI t)), (2, .int (iI q)), (3, .int (iI n1))]) [0, 1, 2, 3, 4, 5, 6, 7, 8, 9] rfl ?_
                          exact ih2  (i1 + 1) _ _ (by omega) bn11 fq13 (by omega) (by show (vh12 50) ≤ 201 * k + (i1 + 1); omega) pw10
                      · replace hg := (hg.resolve_left c10)
                        refine m_iload (j := 2) C dX12_read_147 rfl ?_
                        refine m_iconst C dX12_read_149 ?_
                        refine m_isub C dX12_read_150 ?_
                        refine m_goto (tgt := 156) C dX12_read_151 (by decide) ?_
                        refine m_icmp_ge (tgt := 192) C ⟨by omega, by omega⟩ ⟨by omega, by omega⟩ dX12_read_156 (by decide) (fun c12 => ?_) (fun c12 => ?_)
                        · refine m_iload (j := 1) C dX12_read_192 rfl ?_
                          refine m_if_ne (tgt := 203) C ⟨by omega, by omega⟩ dX12_read_194 (by decide) (fun _ => ?_) (fun z => absurd z (by omega))
                          refine m_iinc (z := k) (j := 5) (lv2 := [(4, .int (iI (k + 1))), (10, .int (iI i1)), (9, .int (iI g)), (8, .int (iI (a 34 y.toNat))), (7, .int (iI y)), (5, .long (lI (q + k))), (0, .ref h0), (1, .int (iI t)), (2, .int (iI q)), (3, .int (iI n1))]) C dX12_read_203 rfl (by decide) rfl ?_
                          refine m_goto (tgt := 32) C dX12_read_206 (by decide) ?_
                          have rv11 : 0 ≤ vb4 50 ∧ vb4 50 ≤ 40200 := bxb4.1 50
                          refine m_lv (lv2 := [(4, .int (iI (k + 1))), (0, .ref h0), (1, .int (iI t)), (2, .int (iI q)), (3, .int (iI n1))]) [0, 6, 7, 8, 9] rfl ?_
                          exact ih1  (k + 1) _ _ (by omega) bxb4 fpb4 (by omega) (by omega) (by show (vb4 50) ≤ 201 * (k + 1); omega) hW4
                        · refine m_aload_n (j := 6) C dX12_read_159 rfl ?_
                          refine m_aload_n (j := 6) C dX12_read_160 rfl ?_
                          refine m_geta (k := 35) C dX12_read_161 w6_94 (by decide) rfl ?_
                          refine m_sipush (z := 200) C dX12_read_164 (by decide) ?_
                          refine m_iload (j := 3) C dX12_read_167 rfl ?_
                          refine m_imul C dX12_read_169 ?_
                          refine m_iload (j := 0) C dX12_read_170 rfl ?_
                          refine m_iadd C dX12_read_172 ?_
                          refine m_ald (k := 35) C dX12_read_173 rfl rfl (by decide) (by omega) (by show _ < ((_ : Nat) : Int); simp only [mlen]; omega) (by decide) ?_
                          refine hv2 (show (-2147483648) ≤ ab4 35 ((200 * y) + i1).toNat ∧ ab4 35 ((200 * y) + i1).toNat ≤ 2147483647 from bxb4.2 35 (((200 * y) + i1).toNat)) (show ab4 35 (((200 * y) + i1).toNat) = a 35 (((200 * y) + i1).toNat) from congrFun (fpb4.2 35 rfl) (((200 * y) + i1).toNat)) (fun ra7 ae11 => ?_)
                          refine m_st (st2 := [.int (iI (a 35 ((200 * y) + i1).toNat)), .ref h0]) (congrArg (fun z => Value.int (iI z) :: [.ref h0]) (congrFun (fpb4.2 35 rfl) (((200 * y) + i1).toNat))) ?_
                          refine m_sipush (z := 1000) C dX12_read_174 (by decide) ?_
                          refine m_iload (j := 3) C dX12_read_177 rfl ?_
                          refine m_imul C dX12_read_179 ?_
                          refine m_iload (j := 0) C dX12_read_180 rfl ?_
                          refine m_iadd C dX12_read_182 ?_
                          have rv12 : 0 ≤ vb4 50 ∧ vb4 50 ≤ 40200 := bxb4.1 50
                          refine m_call (mc2 := 0) (ms2 := 0) (As := [.int (iI (a 35 ((200 * y) + i1).toNat)), .int (iI ((1000 * y) + i1))]) (rest := []) C (B_putRow (x := a 35 ((200 * y) + i1).toNat) (y := (1000 * y) + i1) bxb4 (by show -2147483648 ≤ (a 35 ((200 * y) + i1).toNat) ∧ (a 35 ((200 * y) + i1).toNat) ≤ 2147483647; omega) (by show -2147483648 ≤ ((1000 * y) + i1) ∧ ((1000 * y) + i1) ≤ 2147483647; omega) (by show (vb4 50) < 40200; omega)) dX12_read_183 kV_X12_351 rfl ck_13 rfl (Nat.le_of_ble_eq_true rfl) ⟨Nat.le_of_ble_eq_true rfl, Nat.le_of_ble_eq_true rfl⟩ ⟨Nat.le_of_ble_eq_true rfl, Nat.le_of_ble_eq_true rfl⟩ (fun rh13 vh13 ah13 h13 => ?_)
                          obtain ⟨rfl, fn12, bn12, ex12⟩ := h13
                          refine hv4 (fpb4.call fn12 rfl rfl) (show RWS ah13 from RWS.fr hW4 fn12 rfl) (show 0 ≤ vh13 50 ∧ vh13 50 ≤ 40200 from bn12.1 50) (show (vh13 50) = (vb4 50) + 1 from ex12) (fun fq14 pw11 rv13 gf13 => ?_)
                          refine m_st (st2 := []) rfl ?_
                          refine m_iinc (z := i1) (j := 0) (lv2 := [(10, .int (iI (i1 + 1))), (9, .int (iI g)), (8, .int (iI (a 34 y.toNat))), (7, .int (iI y)), (5, .long (lI (q + k))), (4, .int (iI k)), (0, .ref h0), (1, .int (iI t)), (2, .int (iI q)), (3, .int (iI n1))]) C dX12_read_186 rfl (by decide) rfl ?_
                          refine m_goto (tgt := 140) C dX12_read_189 (by decide) ?_
                          refine m_lv (lv2 := [(10, .int (iI (i1 + 1))), (9, .int (iI g)), (8, .int (iI (a 34 y.toNat))), (7, .int (iI y)), (5, .long (lI (q + k))), (4, .int (iI k)), (0, .ref h0), (1, .int (iI t)), (2, .int (iI q)), (3, .int (iI n1))]) [0, 1, 2, 3, 4, 5, 6, 7, 8, 9] rfl ?_
                          exact ih2  (i1 + 1) _ _ (by omega) bn12 fq14 (by omega) (by show (vh13 50) ≤ 201 * k + (i1 + 1); omega) pw11
                  have rv14 : 0 ≤ vb3 50 ∧ vb3 50 ≤ 40200 := bxb3.1 50
                  refine m_lv (lv2 := [(10, .int (iI 0)), (9, .int (iI g)), (8, .int (iI (a 34 y.toNat))), (7, .int (iI y)), (5, .long (lI (q + k))), (4, .int (iI k)), (0, .ref h0), (1, .int (iI t)), (2, .int (iI q)), (3, .int (iI n1))]) [0, 1, 2, 3, 4, 5, 6, 7, 8, 9] rfl ?_
                  exact Lp2 202 0 _ _ (by omega) bxb3 fpb3 (by omega) (by show (vb3 50) ≤ 201 * k + 0; omega) hW3
                refine m_if_le (tgt := 134) C ⟨by omega, by omega⟩ dX12_read_104 (by decide) (fun c13 => ?_) (fun c13 => ?_)
                · refine m_iconst C dX12_read_134 ?_
                  have rv15 : 0 ≤ vb2 50 ∧ vb2 50 ≤ 40200 := bxb2.1 50
                  refine m_lv (lv2 := [(8, .int (iI (a 34 y.toNat))), (7, .int (iI y)), (5, .long (lI (q + k))), (4, .int (iI k)), (0, .ref h0), (1, .int (iI t)), (2, .int (iI q)), (3, .int (iI n1))]) [0, 1, 2, 3, 4, 5, 6, 7] rfl ?_
                  exact J2  0 _ _  bxb2 fpb2 (by omega) (by show (vb2 50) ≤ 201 * k; omega) hW2
                · refine m_aload_n (j := 4) C dX12_read_107 rfl ?_
                  refine m_geta (k := 35) C dX12_read_108 w6_94 (by decide) rfl ?_
                  refine m_sipush (z := 200) C dX12_read_111 (by decide) ?_
                  refine m_iload (j := 1) C dX12_read_114 rfl ?_
                  refine m_imul C dX12_read_116 ?_
                  refine m_iload (j := 0) C dX12_read_117 rfl ?_
                  refine m_iadd C dX12_read_119 ?_
                  refine m_iconst C dX12_read_120 ?_
                  refine m_isub C dX12_read_121 ?_
                  refine m_ald (k := 35) C dX12_read_122 rfl rfl (by decide) (by omega) (by show _ < ((_ : Nat) : Int); simp only [mlen]; omega) (by decide) ?_
                  refine hv2 (show (-2147483648) ≤ ab2 35 (((200 * y) + (a 34 y.toNat)) - 1).toNat ∧ ab2 35 (((200 * y) + (a 34 y.toNat)) - 1).toNat ≤ 2147483647 from bxb2.2 35 ((((200 * y) + (a 34 y.toNat)) - 1).toNat)) (show ab2 35 ((((200 * y) + (a 34 y.toNat)) - 1).toNat) = a 35 ((((200 * y) + (a 34 y.toNat)) - 1).toNat) from congrFun (fpb2.2 35 rfl) ((((200 * y) + (a 34 y.toNat)) - 1).toNat)) (fun ra8 ae12 => ?_)
                  refine m_st (st2 := [.int (iI (a 35 (((200 * y) + (a 34 y.toNat)) - 1).toNat))]) (congrArg (fun z => Value.int (iI z) :: []) (congrFun (fpb2.2 35 rfl) ((((200 * y) + (a 34 y.toNat)) - 1).toNat))) ?_
                  refine m_aload_n (j := 4) C dX12_read_123 rfl ?_
                  refine hv2 (show (-2147483648) ≤ vb2 33 ∧ vb2 33 ≤ 2147483647 from bxb2.1 33) (show vb2 33 = v 33 from fpb2.1 33 rfl) (fun rv16 ve5 => ?_)
                  refine m_get (k := 33) C dX12_read_124 w6_92 (by decide) rfl ?_
                  refine m_st (st2 := [.int (iI (v 33)), .int (iI (a 35 (((200 * y) + (a 34 y.toNat)) - 1).toNat))]) (congrArg (fun z => Value.int (iI z) :: [.int (iI (a 35 (((200 * y) + (a 34 y.toNat)) - 1).toNat))]) (fpb2.1 33 rfl)) ?_
                  refine m_icmp_ne (tgt := 134) C ⟨by omega, by omega⟩ (r32_c (lo := (-2147483648)) (hi := 2147483647) (Int.le_trans rv16.1 (Int.le_of_eq ve5)) (Int.le_trans (Int.le_of_eq ve5.symm) rv16.2) (by decide) (by decide)) dX12_read_127 (by decide) (fun c14 => ?_) (fun c14 => ?_)
                  · refine m_iconst C dX12_read_134 ?_
                    have rv17 : 0 ≤ vb2 50 ∧ vb2 50 ≤ 40200 := bxb2.1 50
                    refine m_lv (lv2 := [(8, .int (iI (a 34 y.toNat))), (7, .int (iI y)), (5, .long (lI (q + k))), (4, .int (iI k)), (0, .ref h0), (1, .int (iI t)), (2, .int (iI q)), (3, .int (iI n1))]) [0, 1, 2, 3, 4, 5, 6, 7] rfl ?_
                    exact J2  0 _ _  bxb2 fpb2 (by omega) (by show (vb2 50) ≤ 201 * k; omega) hW2
                  · refine m_iconst C dX12_read_130 ?_
                    refine m_goto (tgt := 135) C dX12_read_131 (by decide) ?_
                    have rv18 : 0 ≤ vb2 50 ∧ vb2 50 ≤ 40200 := bxb2.1 50
                    refine m_lv (lv2 := [(8, .int (iI (a 34 y.toNat))), (7, .int (iI y)), (5, .long (lI (q + k))), (4, .int (iI k)), (0, .ref h0), (1, .int (iI t)), (2, .int (iI q)), (3, .int (iI n1))]) [0, 1, 2, 3, 4, 5, 6, 7] rfl ?_
                    exact J2  1 _ _  bxb2 fpb2 (by omega) (by show (vb2 50) ≤ 201 * k; omega) hW2
              · refine m_aload_n (j := 3) C dX12_read_82 rfl ?_
                refine m_aload_n (j := 3) C dX12_read_83 rfl ?_
                refine m_iload (j := 0) C dX12_read_84 rfl ?_
                refine m_call (mc2 := 0) (ms2 := 0) (As := [.int (iI y)]) (rest := [.ref h0]) C (M_lineFault (l0 := y) bxb2.rg ⟨by omega, by omega⟩ ⟨bxb2.1 36, bxb2.2 34⟩) dX12_read_86 kV_X12_294 rfl ck_13 rfl (Nat.le_of_ble_eq_true rfl) ⟨Nat.le_of_ble_eq_true rfl, Nat.le_of_ble_eq_true rfl⟩ ⟨Nat.le_of_ble_eq_true rfl, Nat.le_of_ble_eq_true rfl⟩ (fun rh14 vh14 ah14 h14 => ?_)
                obtain ⟨f14, rfl, hf14, rfl, rfl⟩ := h14
                have gf14 : (f14 = 2 ∧ ¬ (0 ≤ y ∧ y < (vb2 36))) ∨ (f14 = 1 ∧ 0 ≤ y ∧ y < (vb2 36) ∧ ab2 34 y.toNat < 0) ∨ (f14 = 0 ∧ 0 ≤ y ∧ y < (vb2 36) ∧ 0 ≤ ab2 34 y.toNat) := hf14
                refine m_st (st2 := [.int (iI f14), .ref h0]) rfl ?_
                refine m_call (mc2 := 0) (ms2 := 0) (As := [.int (iI f14)]) (rest := []) C (B_bad (x := f14) bxb2 (by show -2147483648 ≤ f14 ∧ f14 ≤ 2147483647; omega)) dX12_read_89 kV_X12_154 rfl ck_13 rfl (Nat.le_of_ble_eq_true rfl) ⟨Nat.le_of_ble_eq_true rfl, Nat.le_of_ble_eq_true rfl⟩ ⟨Nat.le_of_ble_eq_true rfl, Nat.le_of_ble_eq_true rfl⟩ (fun rh15 vh15 ah15 h15 => ?_)
                obtain ⟨f15, rfl, fn13, bn13, ex13⟩ := h15
                refine hv3 (fpb2.call fn13 rfl rfl) (show RWS ah15 from RWS.fr hW2 fn13 rfl) (show f15 = -1 from ex13) (fun fq15 pw12 gf15 => ?_)
                refine m_st (st2 := [.int (iI f15)]) rfl ?_
                exact m_iret C dX12_read_92 rfl (Nat.le_of_ble_eq_true rfl) (Nat.le_of_ble_eq_true rfl) ⟨f15, rfl, fq15, bn13, pw12⟩
            refine m_if_lt (tgt := 64) C ⟨by omega, by omega⟩ dX12_read_50 (by decide) (fun c15 => ?_) (fun c15 => ?_)
            · refine m_iconst C dX12_read_64 ?_
              refine m_goto (tgt := 71) C dX12_read_65 (by decide) ?_
              have rv19 : 0 ≤ vb1 50 ∧ vb1 50 ≤ 40200 := bxb1.1 50
              refine m_lv (lv2 := [(5, .long (lI (q + k))), (4, .int (iI k)), (0, .ref h0), (1, .int (iI t)), (2, .int (iI q)), (3, .int (iI n1))]) [0, 1, 2, 3, 4, 5] rfl ?_
              exact J1  (-1) _ _  bxb1 fpb1 (by omega) (by show (vb1 50) ≤ 201 * k; omega) hW1
            · refine m_lload (j := 0) C dX12_read_53 rfl ?_
              refine m_aload_n (j := 2) C dX12_read_55 rfl ?_
              refine hv2 (show 0 ≤ vb1 36 ∧ vb1 36 ≤ 200 from bxb1.1 36) (show vb1 36 = v 36 from fpb1.1 36 rfl) (fun rv20 ve6 => ?_)
              refine m_get (k := 36) C dX12_read_56 w6_95 (by decide) rfl ?_
              refine m_st (st2 := [.int (iI (v 36)), .long (lI (q + k))]) (congrArg (fun z => Value.int (iI z) :: [.long (lI (q + k))]) (fpb1.1 36 rfl)) ?_
              refine m_i2l (w := lI (v 36)) C dX12_read_59 (lI_of ⟨by omega, by omega⟩) ?_
              obtain ⟨lc2, hlc2, elc2⟩ := lcmp_c (x := (q + k)) (y := (v 36)) ⟨by omega, by omega⟩ ⟨by omega, by omega⟩
              refine m_lcmp (w := iI lc2) C dX12_read_60 elc2 ?_
              refine m_if_lt (tgt := 68) C ⟨by omega, by omega⟩ dX12_read_61 (by decide) (fun c16 => ?_) (fun c16 => ?_)
              · refine m_lload (j := 0) C dX12_read_68 rfl ?_
                refine m_l2i (w := iI (q + k)) C dX12_read_70 (lI_i _) ?_
                have rv21 : 0 ≤ vb1 50 ∧ vb1 50 ≤ 40200 := bxb1.1 50
                refine m_lv (lv2 := [(5, .long (lI (q + k))), (4, .int (iI k)), (0, .ref h0), (1, .int (iI t)), (2, .int (iI q)), (3, .int (iI n1))]) [0, 1, 2, 3, 4, 5] rfl ?_
                exact J1  (q + k) _ _  bxb1 fpb1 (by omega) (by show (vb1 50) ≤ 201 * k; omega) hW1
              · refine m_iconst C dX12_read_64 ?_
                refine m_goto (tgt := 71) C dX12_read_65 (by decide) ?_
                have rv22 : 0 ≤ vb1 50 ∧ vb1 50 ≤ 40200 := bxb1.1 50
                refine m_lv (lv2 := [(5, .long (lI (q + k))), (4, .int (iI k)), (0, .ref h0), (1, .int (iI t)), (2, .int (iI q)), (3, .int (iI n1))]) [0, 1, 2, 3, 4, 5] rfl ?_
                exact J1  (-1) _ _  bxb1 fpb1 (by omega) (by show (vb1 50) ≤ 201 * k; omega) hW1
      refine m_lv (lv2 := [(4, .int (iI 0)), (0, .ref h0), (1, .int (iI t)), (2, .int (iI q)), (3, .int (iI n1))]) [0, 1, 2, 3, 4] rfl ?_
      exact Lp1 202 0 _ _ (by omega) bq1 fq2 (by omega) (by omega) (by show 0 ≤ 201 * 0; omega) hW
    · refine m_aload_n (j := 0) C dX12_read_18 rfl ?_
      refine m_iconst C dX12_read_19 ?_
      refine m_call (mc2 := 0) (ms2 := 0) (As := [.int (iI 5)]) (rest := []) C (B_bad (x := 5) hB (by show -2147483648 ≤ (5 : Int) ∧ (5 : Int) ≤ 2147483647; omega)) dX12_read_20 kV_X12_154 rfl ck_13 rfl (Nat.le_of_ble_eq_true rfl) ⟨Nat.le_of_ble_eq_true rfl, Nat.le_of_ble_eq_true rfl⟩ ⟨Nat.le_of_ble_eq_true rfl, Nat.le_of_ble_eq_true rfl⟩ (fun rh16 vh16 ah16 h16 => ?_)
      obtain ⟨f16, rfl, fn14, bn14, ex14⟩ := h16
      refine hv3 (fp0.call fn14 rfl rfl) (show RWS ah16 from RWS.fr hW fn14 rfl) (show f16 = -1 from ex14) (fun fq16 pw13 gf16 => ?_)
      refine m_st (st2 := [.int (iI f16)]) rfl ?_
      exact m_iret C dX12_read_23 rfl (Nat.le_of_ble_eq_true rfl) (Nat.le_of_ble_eq_true rfl) ⟨f16, rfl, fq16, bn14, pw13⟩
  · clear gf1
    refine m_aload_n (j := 0) C dX12_read_8 rfl ?_
    refine m_iconst C dX12_read_9 ?_
    refine m_call (mc2 := 0) (ms2 := 0) (As := [.int (iI 3)]) (rest := []) C (B_bad (x := 3) hB (by show -2147483648 ≤ (3 : Int) ∧ (3 : Int) ≤ 2147483647; omega)) dX12_read_10 kV_X12_154 rfl ck_13 rfl (Nat.le_of_ble_eq_true rfl) ⟨Nat.le_of_ble_eq_true rfl, Nat.le_of_ble_eq_true rfl⟩ ⟨Nat.le_of_ble_eq_true rfl, Nat.le_of_ble_eq_true rfl⟩ (fun rh17 vh17 ah17 h17 => ?_)
    obtain ⟨f17, rfl, fn15, bn15, ex15⟩ := h17
    refine hv3 (fp0.call fn15 rfl rfl) (show RWS ah17 from RWS.fr hW fn15 rfl) (show f17 = -1 from ex15) (fun fq17 pw14 gf17 => ?_)
    refine m_st (st2 := [.int (iI f17)]) rfl ?_
    exact m_iret C dX12_read_13 rfl (Nat.le_of_ble_eq_true rfl) (Nat.le_of_ble_eq_true rfl) ⟨f17, rfl, fq17, bn15, pw14⟩
set_option maxHeartbeats 4000000 in
set_option maxRecDepth 100000 in
theorem N_readings {l : Launch} {G : GT} {h0 : Nat} {ad ln : Nat → Nat} {v : Nat → Int} {a : Nat → Nat → Int}  {t l0 n1 : Int} (hB : BX v a) (hT : TBL v a) (hW : RWS a) (ht : -2147483648 ≤ t ∧ t ≤ 2147483647) (hl0 : -2147483648 ≤ l0 ∧ l0 ≤ 2147483647) (hn1 : -2147483648 ≤ n1 ∧ n1 ≤ 2147483647) : Mm l G yX12_readings cX12_readings 5 (some .int) 105 [.int (iI t), .int (iI l0), .int (iI n1)] h0 ad ln v a 0 0 (fun r v2 a2 => ∃ f : Int, r = some (.int (iI f)) ∧ fr [0, 1, 50, 60, 61, 63, 64] [44, 45, 46, 47, 48, 49, 57, 58, 59, 62] v a v2 a2 ∧ BX v2 a2 ∧ (RWS a2)) := by
  refine Mm.mk (by decide) (Nat.le_of_ble_eq_true rfl) ?_
  intro p e s m args below meth c A C
  refine hv2 (show 0 ≤ v 4 ∧ v 4 ≤ 30 from hB.1 4) (show fr [0, 1, 50, 60, 61, 63, 64] [44, 45, 46, 47, 48, 49, 57, 58, 59, 62] v a v a from fr.refl) (fun h30 fp0 => ?_)
  refine m_iload_n (j := 3) C dX12_readings_0 rfl ?_
  refine m_iconst C dX12_readings_1 ?_
  refine m_bipush (z := 50) C dX12_readings_2 (by decide) ?_
  refine m_callS (As := [.int (iI n1), .int (iI 1), .int (iI 50)]) (rest := []) C (fun L E => s_isIn (iI n1) (iI 1) (iI 50)) dX12_readings_4 kS_X12_174 rfl rfl (Nat.le_of_ble_eq_true rfl) ⟨Nat.le_of_ble_eq_true rfl, Nat.le_of_ble_eq_true rfl⟩ ⟨Nat.le_of_ble_eq_true rfl, Nat.le_of_ble_eq_true rfl⟩ ?_
  rcases inn_c (x := n1) (lo := 1) (hi := 50) ⟨by omega, by omega⟩ ⟨by decide, by decide⟩ ⟨by decide, by decide⟩ with ⟨h1a, h1b, h1e⟩ | ⟨h1a, h1e⟩
  · refine m_st (st2 := [.int (iI 1)]) (by rw [h1e]) ?_
    refine m_if_ne (tgt := 17) C ⟨by decide, by decide⟩ dX12_readings_7 (by decide) (fun _ => ?_) (fun z => absurd z (by omega))
    refine m_aload_n (j := 0) C dX12_readings_17 rfl ?_
    refine m_iload_n (j := 1) C dX12_readings_18 rfl ?_
    have rv1 : 0 ≤ v 4 ∧ v 4 ≤ 30 := hB.1 4
    refine m_call (mc2 := 0) (ms2 := 0) (As := [.int (iI t)]) (rest := []) C (M_isWhole (t := t) hB (hT.fr fp0 rfl rfl) (by show -2147483648 ≤ t ∧ t ≤ 2147483647; omega)) dX12_readings_19 kV_X12_171 rfl ck_13 rfl (Nat.le_of_ble_eq_true rfl) ⟨Nat.le_of_ble_eq_true rfl, Nat.le_of_ble_eq_true rfl⟩ ⟨Nat.le_of_ble_eq_true rfl, Nat.le_of_ble_eq_true rfl⟩ (fun rh2 vh2 ah2 h2 => ?_)
    obtain ⟨f1, rfl, fn1, bn1, ex1⟩ := h2
    obtain ⟨rfl, rfl⟩ := fn1.eq
    have gf1 : f1 = 0 ∨ (f1 = 1 ∧ 0 ≤ t ∧ t < (v 4)) := ex1
    refine m_st (st2 := [.int (iI f1)]) rfl ?_
    refine m_if_ne (tgt := 31) C (r32_0p gf1) dX12_readings_22 (by decide) (fun c1 => ?_) (fun c1 => ?_)
    · replace gf1 := (gf1.resolve_left c1)
      refine m_aload_n (j := 0) C dX12_readings_31 rfl ?_
      refine m_iload_n (j := 2) C dX12_readings_32 rfl ?_
      have rv2 : 0 ≤ v 36 ∧ v 36 ≤ 200 := hB.1 36
      refine m_call (mc2 := 0) (ms2 := 0) (As := [.int (iI l0)]) (rest := []) C (M_lineFault (l0 := l0) hB.rg ⟨by omega, by omega⟩ ⟨hB.1 36, hB.2 34⟩) dX12_readings_33 kV_X12_294 rfl ck_13 rfl (Nat.le_of_ble_eq_true rfl) ⟨Nat.le_of_ble_eq_true rfl, Nat.le_of_ble_eq_true rfl⟩ ⟨Nat.le_of_ble_eq_true rfl, Nat.le_of_ble_eq_true rfl⟩ (fun rh3 vh3 ah3 h3 => ?_)
      obtain ⟨f2, rfl, hf2, rfl, rfl⟩ := h3
      refine hv2 (show (f2 = 2 ∧ ¬ (0 ≤ l0 ∧ l0 < (v 36))) ∨ (f2 = 1 ∧ 0 ≤ l0 ∧ l0 < (v 36) ∧ a 34 l0.toNat < 0) ∨ (f2 = 0 ∧ 0 ≤ l0 ∧ l0 < (v 36) ∧ 0 ≤ a 34 l0.toNat) from hf2) (show (-1) ≤ a 34 l0.toNat ∧ a 34 l0.toNat ≤ 200 from hB.2 34 (l0.toNat)) (fun gf2 ra1 => ?_)
      refine m_st (st2 := [.int (iI f2)]) rfl ?_
      refine m_if_le (tgt := 49) C ⟨by omega, by omega⟩ dX12_readings_36 (by decide) (fun c2 => ?_) (fun c2 => ?_)
      · refine m_aload_n (j := 0) C dX12_readings_49 rfl ?_
        refine m_geta (k := 34) C dX12_readings_50 w6_93 (by decide) rfl ?_
        refine m_iload_n (j := 2) C dX12_readings_53 rfl ?_
        refine m_ald (k := 34) C dX12_readings_54 rfl rfl (by decide) (by omega) (by show _ < ((_ : Nat) : Int); simp only [mlen]; omega) (by decide) ?_
        refine m_bipush (z := 100) C dX12_readings_55 (by decide) ?_
        refine m_icmp_le (tgt := 67) C (r32_c (lo := (-1)) (hi := 200) ra1.1 ra1.2 (by decide) (by decide)) ⟨by decide, by decide⟩ dX12_readings_57 (by decide) (fun c3 => ?_) (fun c3 => ?_)
        · refine m_aload_n (j := 0) C dX12_readings_67 rfl ?_
          refine m_iconst C dX12_readings_68 ?_
          refine m_put (k := 50) (z := 0) C dX12_readings_69 w6_109 (by decide) rfl rfl rfl ?_
          refine hv2 (show BX (va_up v 50 0) a from hB.put (k := 50) (z := 0) ⟨by decide, by decide⟩) (fp0.put (k := 50) (z := 0) rfl) (fun bq1 fq2 => ?_)
          refine m_iconst C dX12_readings_72 ?_
          refine m_istore (lv2 := [(4, .int (iI 0)), (0, .ref h0), (1, .int (iI t)), (2, .int (iI l0)), (3, .int (iI n1))]) C dX12_readings_73 (by decide) rfl ?_
          have Lp1 : ∀ (nn : Nat) (i1 : Int) (vb1 : Nat → Int) (ab1 : Nat → Nat → Int), 201 - i1 < (nn : Int) → BX vb1 ab1 → fr [0, 1, 50, 60, 61, 63, 64] [44, 45, 46, 47, 48, 49, 57, 58, 59, 62] v a vb1 ab1 → (0 ≤ i1 ∧ i1 ≤ a 34 l0.toNat) → (vb1 50 = i1) → (RWS ab1) → mw p l e (rmq 105 0 0) s m args below meth c G A 5 (MQ below (Qm G A (fun rq Lq Eq => ∃ (vq : Nat → Int) (aq : Nat → Nat → Int), mI G h0 ad ln vq aq Lq Eq ∧ (fun r v2 a2 => ∃ f : Int, r = some (.int (iI f)) ∧ fr [0, 1, 50, 60, 61, 63, 64] [44, 45, 46, 47, 48, 49, 57, 58, 59, 62] v a v2 a2 ∧ BX v2 a2 ∧ (RWS a2)) rq vq aq)) args s 0 0 A) h0 ad ln vb1 ab1 0 0 75 [(4, .int (iI i1)), (0, .ref h0), (1, .int (iI t)), (2, .int (iI l0)), (3, .int (iI n1))] [] := by
            intro nn
            induction nn with
            | zero =>
              intro i1 vb1 ab1 hm bxb1 fpb1 hi h501 hW1
              exact absurd hm (by omega)
            | succ nn ih1 =>
              intro i1 vb1 ab1 hm bxb1 fpb1 hi h501 hW1
              refine m_iload (j := 0) C dX12_readings_75 rfl ?_
              refine m_aload_n (j := 1) C dX12_readings_77 rfl ?_
              refine m_geta (k := 34) C dX12_readings_78 w6_93 (by decide) rfl ?_
              refine m_iload_n (j := 3) C dX12_readings_81 rfl ?_
              refine m_ald (k := 34) C dX12_readings_82 rfl rfl (by decide) (by omega) (by show _ < ((_ : Nat) : Int); simp only [mlen]; omega) (by decide) ?_
              refine hv2 (show (-1) ≤ ab1 34 l0.toNat ∧ ab1 34 l0.toNat ≤ 200 from bxb1.2 34 (l0.toNat)) (show ab1 34 (l0.toNat) = a 34 (l0.toNat) from congrFun (fpb1.2 34 rfl) (l0.toNat)) (fun ra2 ae1 => ?_)
              refine m_st (st2 := [.int (iI (a 34 l0.toNat)), .int (iI i1)]) (congrArg (fun z => Value.int (iI z) :: [.int (iI i1)]) (congrFun (fpb1.2 34 rfl) (l0.toNat))) ?_
              refine m_icmp_ge (tgt := 110) C ⟨by omega, by omega⟩ (r32_c (lo := (-1)) (hi := 200) ra1.1 ra1.2 (by decide) (by decide)) dX12_readings_83 (by decide) (fun c4 => ?_) (fun c4 => ?_)
              · refine m_aload_n (j := 1) C dX12_readings_110 rfl ?_
                refine m_iload_n (j := 2) C dX12_readings_111 rfl ?_
                refine hv2 (show 0 ≤ vb1 4 ∧ vb1 4 ≤ 30 from bxb1.1 4) (show vb1 4 = v 4 from fpb1.1 4 rfl) (fun rv3 ve1 => ?_)
                refine m_call (mc2 := 0) (ms2 := 0) (As := [.int (iI t)]) (rest := []) C (M_gather (t := t) bxb1 hW1 (hT.fr fpb1 rfl rfl) (by show 0 ≤ t ∧ t < (vb1 4); omega)) dX12_readings_112 kV_X12_354 rfl ck_13 rfl (Nat.le_of_ble_eq_true rfl) ⟨Nat.le_of_ble_eq_true rfl, Nat.le_of_ble_eq_true rfl⟩ ⟨Nat.le_of_ble_eq_true rfl, Nat.le_of_ble_eq_true rfl⟩ (fun rh4 vh4 ah4 h4 => ?_)
                obtain ⟨rfl, fn2, bn2, ex2⟩ := h4
                refine hv2 (fpb1.call fn2 rfl rfl) (ex2) (fun fq3 pw1 => ?_)
                refine m_st (st2 := []) rfl ?_
                refine m_aload_n (j := 1) C dX12_readings_115 rfl ?_
                refine hv2 (show 0 ≤ vh4 50 ∧ vh4 50 ≤ 40200 from bn2.1 50) (show vh4 50 = vb1 50 from fn2.1 50 rfl) (fun rv4 ve2 => ?_)
                refine m_call (mc2 := 0) (ms2 := 0) (As := []) (rest := []) C (M_findCan  bn2 pw1 (by show (vh4 50) ≤ 100; omega)) dX12_readings_116 kV_X12_401 rfl ck_13 rfl (Nat.le_of_ble_eq_true rfl) ⟨Nat.le_of_ble_eq_true rfl, Nat.le_of_ble_eq_true rfl⟩ ⟨Nat.le_of_ble_eq_true rfl, Nat.le_of_ble_eq_true rfl⟩ (fun rh5 vh5 ah5 h5 => ?_)
                obtain ⟨rfl, fn3, bn3, ex3⟩ := h5
                refine hv2 (fq3.call fn3 rfl rfl) (show RWS ah5 from RWS.fr pw1 fn3 rfl) (fun fq4 pw2 => ?_)
                refine m_st (st2 := []) rfl ?_
                refine m_aload_n (j := 1) C dX12_readings_119 rfl ?_
                refine m_iconst C dX12_readings_120 ?_
                refine m_put (k := 60) (z := 0) C dX12_readings_121 w6_119 (by decide) rfl rfl rfl ?_
                refine hv2 (show BX (va_up vh5 60 0) ah5 from bn3.put (k := 60) (z := 0) ⟨by decide, by decide⟩) (fq4.put (k := 60) (z := 0) rfl) (fun bq2 fq5 => ?_)
                refine m_aload_n (j := 1) C dX12_readings_124 rfl ?_
                refine m_iconst C dX12_readings_125 ?_
                refine m_put (k := 61) (z := 0) C dX12_readings_126 w6_120 (by decide) rfl rfl rfl ?_
                refine hv2 (show BX (va_up (va_up vh5 60 0) 61 0) ah5 from bq2.put (k := 61) (z := 0) ⟨by decide, by decide⟩) (fq5.put (k := 61) (z := 0) rfl) (fun bq3 fq6 => ?_)
                refine m_aload_n (j := 1) C dX12_readings_129 rfl ?_
                refine m_iconst C dX12_readings_130 ?_
                refine m_put (k := 63) (z := 0) C dX12_readings_131 w6_122 (by decide) rfl rfl rfl ?_
                refine hv2 (show BX (va_up (va_up (va_up vh5 60 0) 61 0) 63 0) ah5 from bq3.put (k := 63) (z := 0) ⟨by decide, by decide⟩) (fq6.put (k := 63) (z := 0) rfl) (fun bq4 fq7 => ?_)
                refine m_aload_n (j := 1) C dX12_readings_134 rfl ?_
                refine m_iload_n (j := 4) C dX12_readings_135 rfl ?_
                refine m_put (k := 64) (z := n1) C dX12_readings_136 w6_123 (by decide) rfl rfl rfl ?_
                refine hv2 (show BX (va_up (va_up (va_up (va_up vh5 60 0) 61 0) 63 0) 64 n1) ah5 from bq4.put (k := 64) (z := n1) (show 0 ≤ n1 ∧ n1 ≤ 50 by omega)) (fq7.put (k := 64) (z := n1) rfl) (fun bq5 fq8 => ?_)
                refine m_aload_n (j := 1) C dX12_readings_139 rfl ?_
                refine m_geta (k := 57) C dX12_readings_140 w6_116 (by decide) rfl ?_
                refine m_iconst C dX12_readings_143 ?_
                refine m_zald (k := 57) C dX12_readings_144 rfl rfl (by decide) (by decide) (by decide) (by decide) ?_
                have ra3 : 0 ≤ ah5 57 0 ∧ ah5 57 0 ≤ 1 := bq5.2 57 (0)
                refine m_st (st2 := [.int (iI (ah5 57 0))]) rfl ?_
                refine m_if_eq (tgt := 155) C (r32_c (lo := 0) (hi := 1) ra3.1 ra3.2 (by decide) (by decide)) dX12_readings_145 (by decide) (fun c5 => ?_) (fun c5 => ?_)
                · refine m_aload_n (j := 1) C dX12_readings_155 rfl ?_
                  refine m_aload_n (j := 1) C dX12_readings_156 rfl ?_
                  refine m_get (k := 60) C dX12_readings_157 w6_119 (by decide) rfl ?_
                  refine m_st (st2 := [.int (iI 0), .ref h0]) rfl ?_
                  refine m_call (mc2 := 0) (ms2 := 0) (As := [.int (iI 0)]) (rest := []) C (B_fine (x := 0) bq5 (by show -2147483648 ≤ (0 : Int) ∧ (0 : Int) ≤ 2147483647; omega)) dX12_readings_160 kV_X12_158 rfl ck_13 rfl (Nat.le_of_ble_eq_true rfl) ⟨Nat.le_of_ble_eq_true rfl, Nat.le_of_ble_eq_true rfl⟩ ⟨Nat.le_of_ble_eq_true rfl, Nat.le_of_ble_eq_true rfl⟩ (fun rh6 vh6 ah6 h6 => ?_)
                  obtain ⟨f5, rfl, fn4, bn4, ex4⟩ := h6
                  refine hv3 (fq8.call fn4 rfl rfl) (show RWS ah6 from RWS.fr pw2 fn4 rfl) (show f5 = (0 : Int) from ex4) (fun fq9 pw3 gf5 => ?_)
                  refine m_st (st2 := [.int (iI f5)]) rfl ?_
                  exact m_iret C dX12_readings_163 rfl (Nat.le_of_ble_eq_true rfl) (Nat.le_of_ble_eq_true rfl) ⟨f5, rfl, fq9, bn4, pw3⟩
                · refine m_aload_n (j := 1) C dX12_readings_148 rfl ?_
                  refine m_iconst C dX12_readings_149 ?_
                  refine m_iconst C dX12_readings_150 ?_
                  refine m_iconst C dX12_readings_151 ?_
                  refine hv2 (show 0 ≤ vh5 50 ∧ vh5 50 ≤ 40200 from bq5.1 50) (show vh5 50 = vh4 50 from fn3.1 50 rfl) (fun rv5 ve3 => ?_)
                  refine m_call (mc2 := 0) (ms2 := 0) (As := [.int (iI 0), .int (iI 0), .int (iI 0)]) (rest := []) C (M_go (x := 0) (pt := 0) (g := 0) bq5 pw2 (by show (vh5 50) ≤ 100; omega) (by show 0 ≤ (0 : Int) ∧ (0 : Int) ≤ (vh5 50); omega) (by show (0 : Int) = 0 ∨ (0 : Int) = 1; omega) (by show (0 : Int) = 0 ∨ (0 : Int) = 1; omega) (by show 0 ≤ n1; omega) (by show 0 ≤ 8 * (0 : Int); omega)) dX12_readings_152 kV_X12_391 rfl ck_13 rfl (Nat.le_of_ble_eq_true rfl) ⟨Nat.le_of_ble_eq_true rfl, Nat.le_of_ble_eq_true rfl⟩ ⟨Nat.le_of_ble_eq_true rfl, Nat.le_of_ble_eq_true rfl⟩ (fun rh7 vh7 ah7 h7 => ?_)
                  obtain ⟨rfl, fn5, bn5, ex5⟩ := h7
                  refine hv5 (fq8.call fn5 rfl rfl) (show RWS ah7 from RWS.fr pw2 fn5 rfl) (show 0 ≤ vh7 60 ∧ vh7 60 ≤ 50 from bn5.1 60) (show 0 ≤ vh7 63 ∧ vh7 63 ≤ 808 from bn5.1 63) (show (vh7 60) ≤ n1 ∧ (vh7 63) = 0 from ex5) (fun fq10 pw4 rv6 rv7 gf6 => ?_)
                  refine m_st (st2 := []) rfl ?_
                  refine m_aload_n (j := 1) C dX12_readings_155 rfl ?_
                  refine m_aload_n (j := 1) C dX12_readings_156 rfl ?_
                  refine m_get (k := 60) C dX12_readings_157 w6_119 (by decide) rfl ?_
                  refine m_call (mc2 := 0) (ms2 := 0) (As := [.int (iI (vh7 60))]) (rest := []) C (B_fine (x := vh7 60) bn5 (by show -2147483648 ≤ (vh7 60) ∧ (vh7 60) ≤ 2147483647; omega)) dX12_readings_160 kV_X12_158 rfl ck_13 rfl (Nat.le_of_ble_eq_true rfl) ⟨Nat.le_of_ble_eq_true rfl, Nat.le_of_ble_eq_true rfl⟩ ⟨Nat.le_of_ble_eq_true rfl, Nat.le_of_ble_eq_true rfl⟩ (fun rh8 vh8 ah8 h8 => ?_)
                  obtain ⟨f7, rfl, fn6, bn6, ex6⟩ := h8
                  refine hv3 (fq10.call fn6 rfl rfl) (show RWS ah8 from RWS.fr pw4 fn6 rfl) (show f7 = (vh7 60) from ex6) (fun fq11 pw5 gf7 => ?_)
                  refine m_st (st2 := [.int (iI f7)]) rfl ?_
                  exact m_iret C dX12_readings_163 rfl (Nat.le_of_ble_eq_true rfl) (Nat.le_of_ble_eq_true rfl) ⟨f7, rfl, fq11, bn6, pw5⟩
              · refine m_aload_n (j := 1) C dX12_readings_86 rfl ?_
                refine m_aload_n (j := 1) C dX12_readings_87 rfl ?_
                refine m_geta (k := 35) C dX12_readings_88 w6_94 (by decide) rfl ?_
                refine m_sipush (z := 200) C dX12_readings_91 (by decide) ?_
                refine m_iload_n (j := 3) C dX12_readings_94 rfl ?_
                refine m_imul C dX12_readings_95 ?_
                refine m_iload (j := 0) C dX12_readings_96 rfl ?_
                refine m_iadd C dX12_readings_98 ?_
                refine m_ald (k := 35) C dX12_readings_99 rfl rfl (by decide) (by omega) (by show _ < ((_ : Nat) : Int); simp only [mlen]; omega) (by decide) ?_
                refine hv2 (show (-2147483648) ≤ ab1 35 ((200 * l0) + i1).toNat ∧ ab1 35 ((200 * l0) + i1).toNat ≤ 2147483647 from bxb1.2 35 (((200 * l0) + i1).toNat)) (show ab1 35 (((200 * l0) + i1).toNat) = a 35 (((200 * l0) + i1).toNat) from congrFun (fpb1.2 35 rfl) (((200 * l0) + i1).toNat)) (fun ra4 ae2 => ?_)
                refine m_st (st2 := [.int (iI (a 35 ((200 * l0) + i1).toNat)), .ref h0]) (congrArg (fun z => Value.int (iI z) :: [.ref h0]) (congrFun (fpb1.2 35 rfl) (((200 * l0) + i1).toNat))) ?_
                refine m_iconst C dX12_readings_100 ?_
                have rv8 : 0 ≤ vb1 50 ∧ vb1 50 ≤ 40200 := bxb1.1 50
                refine m_call (mc2 := 0) (ms2 := 0) (As := [.int (iI (a 35 ((200 * l0) + i1).toNat)), .int (iI 0)]) (rest := []) C (B_putRow (x := a 35 ((200 * l0) + i1).toNat) (y := 0) bxb1 (by show -2147483648 ≤ (a 35 ((200 * l0) + i1).toNat) ∧ (a 35 ((200 * l0) + i1).toNat) ≤ 2147483647; omega) (by show -2147483648 ≤ (0 : Int) ∧ (0 : Int) ≤ 2147483647; omega) (by show (vb1 50) < 40200; omega)) dX12_readings_101 kV_X12_351 rfl ck_13 rfl (Nat.le_of_ble_eq_true rfl) ⟨Nat.le_of_ble_eq_true rfl, Nat.le_of_ble_eq_true rfl⟩ ⟨Nat.le_of_ble_eq_true rfl, Nat.le_of_ble_eq_true rfl⟩ (fun rh9 vh9 ah9 h9 => ?_)
                obtain ⟨rfl, fn7, bn7, ex7⟩ := h9
                refine hv4 (fpb1.call fn7 rfl rfl) (show RWS ah9 from RWS.fr hW1 fn7 rfl) (show 0 ≤ vh9 50 ∧ vh9 50 ≤ 40200 from bn7.1 50) (show (vh9 50) = (vb1 50) + 1 from ex7) (fun fq12 pw6 rv9 gf8 => ?_)
                refine m_st (st2 := []) rfl ?_
                refine m_iinc (z := i1) (j := 0) (lv2 := [(4, .int (iI (i1 + 1))), (0, .ref h0), (1, .int (iI t)), (2, .int (iI l0)), (3, .int (iI n1))]) C dX12_readings_104 rfl (by decide) rfl ?_
                refine m_goto (tgt := 75) C dX12_readings_107 (by decide) ?_
                refine m_lv (lv2 := [(4, .int (iI (i1 + 1))), (0, .ref h0), (1, .int (iI t)), (2, .int (iI l0)), (3, .int (iI n1))]) [0, 1, 2, 3, 4] rfl ?_
                exact ih1  (i1 + 1) _ _ (by omega) bn7 fq12 (by omega) (by show (vh9 50) = (i1 + 1); omega) pw6
          refine m_lv (lv2 := [(4, .int (iI 0)), (0, .ref h0), (1, .int (iI t)), (2, .int (iI l0)), (3, .int (iI n1))]) [0, 1, 2, 3, 4] rfl ?_
          exact Lp1 202 0 _ _ (by omega) bq1 fq2 (by omega) (by show 0 = 0; omega) hW
        · refine m_aload_n (j := 0) C dX12_readings_60 rfl ?_
          refine m_bipush (z := 6) C dX12_readings_61 (by decide) ?_
          refine m_call (mc2 := 0) (ms2 := 0) (As := [.int (iI 6)]) (rest := []) C (B_bad (x := 6) hB (by show -2147483648 ≤ (6 : Int) ∧ (6 : Int) ≤ 2147483647; omega)) dX12_readings_63 kV_X12_154 rfl ck_13 rfl (Nat.le_of_ble_eq_true rfl) ⟨Nat.le_of_ble_eq_true rfl, Nat.le_of_ble_eq_true rfl⟩ ⟨Nat.le_of_ble_eq_true rfl, Nat.le_of_ble_eq_true rfl⟩ (fun rh10 vh10 ah10 h10 => ?_)
          obtain ⟨f9, rfl, fn8, bn8, ex8⟩ := h10
          refine hv3 (fp0.call fn8 rfl rfl) (show RWS ah10 from RWS.fr hW fn8 rfl) (show f9 = -1 from ex8) (fun fq13 pw7 gf9 => ?_)
          refine m_st (st2 := [.int (iI f9)]) rfl ?_
          exact m_iret C dX12_readings_66 rfl (Nat.le_of_ble_eq_true rfl) (Nat.le_of_ble_eq_true rfl) ⟨f9, rfl, fq13, bn8, pw7⟩
      · refine m_aload_n (j := 0) C dX12_readings_39 rfl ?_
        refine m_aload_n (j := 0) C dX12_readings_40 rfl ?_
        refine m_iload_n (j := 2) C dX12_readings_41 rfl ?_
        refine m_call (mc2 := 0) (ms2 := 0) (As := [.int (iI l0)]) (rest := [.ref h0]) C (M_lineFault (l0 := l0) hB.rg ⟨by omega, by omega⟩ ⟨hB.1 36, hB.2 34⟩) dX12_readings_42 kV_X12_294 rfl ck_13 rfl (Nat.le_of_ble_eq_true rfl) ⟨Nat.le_of_ble_eq_true rfl, Nat.le_of_ble_eq_true rfl⟩ ⟨Nat.le_of_ble_eq_true rfl, Nat.le_of_ble_eq_true rfl⟩ (fun rh11 vh11 ah11 h11 => ?_)
        obtain ⟨f10, rfl, hf10, rfl, rfl⟩ := h11
        have gf10 : (f10 = 2 ∧ ¬ (0 ≤ l0 ∧ l0 < (v 36))) ∨ (f10 = 1 ∧ 0 ≤ l0 ∧ l0 < (v 36) ∧ a 34 l0.toNat < 0) ∨ (f10 = 0 ∧ 0 ≤ l0 ∧ l0 < (v 36) ∧ 0 ≤ a 34 l0.toNat) := hf10
        refine m_st (st2 := [.int (iI f10), .ref h0]) rfl ?_
        refine m_call (mc2 := 0) (ms2 := 0) (As := [.int (iI f10)]) (rest := []) C (B_bad (x := f10) hB (by show -2147483648 ≤ f10 ∧ f10 ≤ 2147483647; omega)) dX12_readings_45 kV_X12_154 rfl ck_13 rfl (Nat.le_of_ble_eq_true rfl) ⟨Nat.le_of_ble_eq_true rfl, Nat.le_of_ble_eq_true rfl⟩ ⟨Nat.le_of_ble_eq_true rfl, Nat.le_of_ble_eq_true rfl⟩ (fun rh12 vh12 ah12 h12 => ?_)
        obtain ⟨f11, rfl, fn9, bn9, ex9⟩ := h12
        refine hv3 (fp0.call fn9 rfl rfl) (show RWS ah12 from RWS.fr hW fn9 rfl) (show f11 = -1 from ex9) (fun fq14 pw8 gf11 => ?_)
        refine m_st (st2 := [.int (iI f11)]) rfl ?_
        exact m_iret C dX12_readings_48 rfl (Nat.le_of_ble_eq_true rfl) (Nat.le_of_ble_eq_true rfl) ⟨f11, rfl, fq14, bn9, pw8⟩
    · clear gf1
      refine m_aload_n (j := 0) C dX12_readings_25 rfl ?_
      refine m_iconst C dX12_readings_26 ?_
      refine m_call (mc2 := 0) (ms2 := 0) (As := [.int (iI 3)]) (rest := []) C (B_bad (x := 3) hB (by show -2147483648 ≤ (3 : Int) ∧ (3 : Int) ≤ 2147483647; omega)) dX12_readings_27 kV_X12_154 rfl ck_13 rfl (Nat.le_of_ble_eq_true rfl) ⟨Nat.le_of_ble_eq_true rfl, Nat.le_of_ble_eq_true rfl⟩ ⟨Nat.le_of_ble_eq_true rfl, Nat.le_of_ble_eq_true rfl⟩ (fun rh13 vh13 ah13 h13 => ?_)
      obtain ⟨f12, rfl, fn10, bn10, ex10⟩ := h13
      refine hv3 (fp0.call fn10 rfl rfl) (show RWS ah13 from RWS.fr hW fn10 rfl) (show f12 = -1 from ex10) (fun fq15 pw9 gf12 => ?_)
      refine m_st (st2 := [.int (iI f12)]) rfl ?_
      exact m_iret C dX12_readings_30 rfl (Nat.le_of_ble_eq_true rfl) (Nat.le_of_ble_eq_true rfl) ⟨f12, rfl, fq15, bn10, pw9⟩
  · refine m_st (st2 := [.int (iI 0)]) (by rw [h1e]) ?_
    refine m_if_ne (tgt := 17) C ⟨by decide, by decide⟩ dX12_readings_7 (by decide) (fun z => absurd z (by omega)) (fun _ => ?_)
    refine m_aload_n (j := 0) C dX12_readings_10 rfl ?_
    refine m_bipush (z := 6) C dX12_readings_11 (by decide) ?_
    refine m_call (mc2 := 0) (ms2 := 0) (As := [.int (iI 6)]) (rest := []) C (B_bad (x := 6) hB (by show -2147483648 ≤ (6 : Int) ∧ (6 : Int) ≤ 2147483647; omega)) dX12_readings_13 kV_X12_154 rfl ck_13 rfl (Nat.le_of_ble_eq_true rfl) ⟨Nat.le_of_ble_eq_true rfl, Nat.le_of_ble_eq_true rfl⟩ ⟨Nat.le_of_ble_eq_true rfl, Nat.le_of_ble_eq_true rfl⟩ (fun rh14 vh14 ah14 h14 => ?_)
    obtain ⟨f13, rfl, fn11, bn11, ex11⟩ := h14
    refine hv3 (fp0.call fn11 rfl rfl) (show RWS ah14 from RWS.fr hW fn11 rfl) (show f13 = -1 from ex11) (fun fq16 pw10 gf13 => ?_)
    refine m_st (st2 := [.int (iI f13)]) rfl ?_
    exact m_iret C dX12_readings_16 rfl (Nat.le_of_ble_eq_true rfl) (Nat.le_of_ble_eq_true rfl) ⟨f13, rfl, fq16, bn11, pw10⟩
set_option maxHeartbeats 4000000 in
set_option maxRecDepth 100000 in
theorem N_judge {l : Launch} {G : GT} {h0 : Nat} {ad ln : Nat → Nat} {v : Nat → Int} {a : Nat → Nat → Int}  {t : Int} (hB : BX v a) (hT : TBL v a) (hW : RWS a) (ht : -2147483648 ≤ t ∧ t ≤ 2147483647) : Mm l G yX12_judge cX12_judge 3 (some .int) 36 [.int (iI t)] h0 ad ln v a 0 0 (fun r v2 a2 => ∃ f : Int, r = some (.int (iI f)) ∧ fr [0, 1] [44, 45, 46, 47] v a v2 a2 ∧ BX v2 a2 ∧ (RWS a2)) := by
  refine Mm.mk (by decide) (Nat.le_of_ble_eq_true rfl) ?_
  intro p e s m args below meth c A C
  refine hv2 (show 0 ≤ v 4 ∧ v 4 ≤ 30 from hB.1 4) (show fr [0, 1] [44, 45, 46, 47] v a v a from fr.refl) (fun h30 fp0 => ?_)
  refine m_aload_n (j := 0) C dX12_judge_0 rfl ?_
  refine m_iload_n (j := 1) C dX12_judge_1 rfl ?_
  have rv1 : 0 ≤ v 4 ∧ v 4 ≤ 30 := hB.1 4
  refine m_call (mc2 := 0) (ms2 := 0) (As := [.int (iI t)]) (rest := []) C (B_isTable (t := t) hB (by show -2147483648 ≤ t ∧ t ≤ 2147483647; omega)) dX12_judge_2 kV_X12_167 rfl ck_13 rfl (Nat.le_of_ble_eq_true rfl) ⟨Nat.le_of_ble_eq_true rfl, Nat.le_of_ble_eq_true rfl⟩ ⟨Nat.le_of_ble_eq_true rfl, Nat.le_of_ble_eq_true rfl⟩ (fun rh1 vh1 ah1 h1 => ?_)
  obtain ⟨f1, rfl, fn1, bn1, ex1⟩ := h1
  obtain ⟨rfl, rfl⟩ := fn1.eq
  refine hv2 (show (f1 = 0 ∧ (t < 0 ∨ (v 4) ≤ t ∨ a 5 t.toNat = 0)) ∨ (f1 = 1 ∧ 0 ≤ t ∧ t < (v 4) ∧ a 5 t.toNat = 1) from ex1) (show 0 ≤ a 5 t.toNat ∧ a 5 t.toNat ≤ 1 from hB.2 5 (t.toNat)) (fun gf1 ra1 => ?_)
  refine m_st (st2 := [.int (iI f1)]) rfl ?_
  refine m_if_ne (tgt := 14) C (r32_pq gf1) dX12_judge_5 (by decide) (fun c1 => ?_) (fun c1 => ?_)
  · replace gf1 := (gf1.resolve_left (fun q => c1 q.1))
    have ht0 := hT.1 t (by omega) (by omega)
    refine m_aload_n (j := 0) C dX12_judge_14 rfl ?_
    refine m_geta (k := 6) C dX12_judge_15 w6_65 (by decide) rfl ?_
    refine m_iload_n (j := 1) C dX12_judge_18 rfl ?_
    refine m_ald (k := 6) C dX12_judge_19 rfl rfl (by decide) (by omega) (by show _ < ((_ : Nat) : Int); simp only [mlen]; omega) (by decide) ?_
    have ra2 : 0 ≤ a 6 t.toNat ∧ a 6 t.toNat ≤ 5 := hB.2 6 (t.toNat)
    refine m_iconst C dX12_judge_20 ?_
    refine m_icmp_ne (tgt := 30) C (r32_c (lo := 0) (hi := 5) ra2.1 ra2.2 (by decide) (by decide)) ⟨by decide, by decide⟩ dX12_judge_21 (by decide) (fun c2 => ?_) (fun c2 => ?_)
    · refine m_aload_n (j := 0) C dX12_judge_30 rfl ?_
      refine m_iload_n (j := 1) C dX12_judge_31 rfl ?_
      refine m_call (mc2 := 0) (ms2 := 0) (As := [.int (iI t)]) (rest := []) C (M_isWhole (t := t) hB (hT.fr fp0 rfl rfl) (by show -2147483648 ≤ t ∧ t ≤ 2147483647; omega)) dX12_judge_32 kV_X12_171 rfl ck_13 rfl (Nat.le_of_ble_eq_true rfl) ⟨Nat.le_of_ble_eq_true rfl, Nat.le_of_ble_eq_true rfl⟩ ⟨Nat.le_of_ble_eq_true rfl, Nat.le_of_ble_eq_true rfl⟩ (fun rh2 vh2 ah2 h2 => ?_)
      obtain ⟨f2, rfl, fn2, bn2, ex2⟩ := h2
      obtain ⟨rfl, rfl⟩ := fn2.eq
      have gf2 : f2 = 0 ∨ (f2 = 1 ∧ 0 ≤ t ∧ t < (v 4)) := ex2
      refine m_st (st2 := [.int (iI f2)]) rfl ?_
      refine m_if_ne (tgt := 44) C (r32_0p gf2) dX12_judge_35 (by decide) (fun c3 => ?_) (fun c3 => ?_)
      · replace gf2 := (gf2.resolve_left c3)
        refine m_aload_n (j := 0) C dX12_judge_44 rfl ?_
        refine m_geta (k := 6) C dX12_judge_45 w6_65 (by decide) rfl ?_
        refine m_iload_n (j := 1) C dX12_judge_48 rfl ?_
        refine m_ald (k := 6) C dX12_judge_49 rfl rfl (by decide) (by omega) (by show _ < ((_ : Nat) : Int); simp only [mlen]; omega) (by decide) ?_
        refine m_iconst C dX12_judge_50 ?_
        have J1 : ∀ (g : Int) (vb1 : Nat → Int) (ab1 : Nat → Nat → Int), BX vb1 ab1 → fr [0, 1] [44, 45, 46, 47] v a vb1 ab1 → (g = 0 ∨ g = 1) → (RWS ab1) → mw p l e (rmq 36 0 0) s m args below meth c G A 3 (MQ below (Qm G A (fun rq Lq Eq => ∃ (vq : Nat → Int) (aq : Nat → Nat → Int), mI G h0 ad ln vq aq Lq Eq ∧ (fun r v2 a2 => ∃ f : Int, r = some (.int (iI f)) ∧ fr [0, 1] [44, 45, 46, 47] v a v2 a2 ∧ BX v2 a2 ∧ (RWS a2)) rq vq aq)) args s 0 0 A) h0 ad ln vb1 ab1 0 0 93 [(0, .ref h0), (1, .int (iI t))] [.int (iI g)] := by
          intro g vb1 ab1 bxb1 fpb1 hg hW1
          refine m_istore_n (lv2 := [(2, .int (iI g)), (0, .ref h0), (1, .int (iI t))]) C dX12_judge_93 (by decide) rfl ?_
          refine m_aload_n (j := 1) C dX12_judge_94 rfl ?_
          refine m_iload_n (j := 2) C dX12_judge_95 rfl ?_
          refine hv2 (show 0 ≤ vb1 4 ∧ vb1 4 ≤ 30 from bxb1.1 4) (show vb1 4 = v 4 from fpb1.1 4 rfl) (fun rv2 ve1 => ?_)
          refine m_call (mc2 := 0) (ms2 := 0) (As := [.int (iI t)]) (rest := []) C (M_gather (t := t) bxb1 hW1 (hT.fr fpb1 rfl rfl) (by show 0 ≤ t ∧ t < (vb1 4); omega)) dX12_judge_96 kV_X12_354 rfl ck_13 rfl (Nat.le_of_ble_eq_true rfl) ⟨Nat.le_of_ble_eq_true rfl, Nat.le_of_ble_eq_true rfl⟩ ⟨Nat.le_of_ble_eq_true rfl, Nat.le_of_ble_eq_true rfl⟩ (fun rh3 vh3 ah3 h3 => ?_)
          obtain ⟨rfl, fn3, bn3, ex3⟩ := h3
          refine hv2 (fpb1.call fn3 rfl rfl) (ex3) (fun fq3 pw1 => ?_)
          refine m_st (st2 := []) rfl ?_
          refine m_aload_n (j := 1) C dX12_judge_99 rfl ?_
          refine m_iload_n (j := 0) C dX12_judge_100 rfl ?_
          refine m_if_ne (tgt := 124) C (r32_01 hg) dX12_judge_101 (by decide) (fun c4 => ?_) (fun c4 => ?_)
          · replace hg := (hg.resolve_left c4)
            refine m_iconst C dX12_judge_124 ?_
            refine m_call (mc2 := 0) (ms2 := 0) (As := [.int (iI 0)]) (rest := []) C (B_fine (x := 0) bn3 (by show -2147483648 ≤ (0 : Int) ∧ (0 : Int) ≤ 2147483647; omega)) dX12_judge_125 kV_X12_158 rfl ck_13 rfl (Nat.le_of_ble_eq_true rfl) ⟨Nat.le_of_ble_eq_true rfl, Nat.le_of_ble_eq_true rfl⟩ ⟨Nat.le_of_ble_eq_true rfl, Nat.le_of_ble_eq_true rfl⟩ (fun rh4 vh4 ah4 h4 => ?_)
            obtain ⟨f4, rfl, fn4, bn4, ex4⟩ := h4
            refine hv3 (fq3.call fn4 rfl rfl) (show RWS ah4 from RWS.fr pw1 fn4 rfl) (show f4 = (0 : Int) from ex4) (fun fq4 pw2 gf4 => ?_)
            refine m_st (st2 := [.int (iI f4)]) rfl ?_
            exact m_iret C dX12_judge_128 rfl (Nat.le_of_ble_eq_true rfl) (Nat.le_of_ble_eq_true rfl) ⟨f4, rfl, fq4, bn4, pw2⟩
          · clear hg
            refine m_aload_n (j := 1) C dX12_judge_104 rfl ?_
            refine m_iconst C dX12_judge_105 ?_
            refine m_call (mc2 := 0) (ms2 := 0) (As := [.int (iI 0)]) (rest := [.ref h0]) C (M_isReadable (q := 0) bn3.rg (by omega) (pw1 (0) (by omega)).1 (pw1 (0) (by omega)).2) dX12_judge_106 kV_X12_410 rfl ck_13 rfl (Nat.le_of_ble_eq_true rfl) ⟨Nat.le_of_ble_eq_true rfl, Nat.le_of_ble_eq_true rfl⟩ ⟨Nat.le_of_ble_eq_true rfl, Nat.le_of_ble_eq_true rfl⟩ (fun rh5 vh5 ah5 h5 => ?_)
            obtain ⟨f5, rfl, hf5, rfl, rfl⟩ := h5
            have gf5 : f5 = 0 ∨ f5 = 1 := hf5
            refine m_st (st2 := [.int (iI f5), .ref h0]) rfl ?_
            refine m_if_eq (tgt := 124) C (r32_01 gf5) dX12_judge_109 (by decide) (fun c5 => ?_) (fun c5 => ?_)
            · clear gf5
              refine m_iconst C dX12_judge_124 ?_
              refine m_call (mc2 := 0) (ms2 := 0) (As := [.int (iI 0)]) (rest := []) C (B_fine (x := 0) bn3 (by show -2147483648 ≤ (0 : Int) ∧ (0 : Int) ≤ 2147483647; omega)) dX12_judge_125 kV_X12_158 rfl ck_13 rfl (Nat.le_of_ble_eq_true rfl) ⟨Nat.le_of_ble_eq_true rfl, Nat.le_of_ble_eq_true rfl⟩ ⟨Nat.le_of_ble_eq_true rfl, Nat.le_of_ble_eq_true rfl⟩ (fun rh6 vh6 ah6 h6 => ?_)
              obtain ⟨f6, rfl, fn5, bn5, ex5⟩ := h6
              refine hv3 (fq3.call fn5 rfl rfl) (show RWS ah6 from RWS.fr pw1 fn5 rfl) (show f6 = (0 : Int) from ex5) (fun fq5 pw3 gf6 => ?_)
              refine m_st (st2 := [.int (iI f6)]) rfl ?_
              exact m_iret C dX12_judge_128 rfl (Nat.le_of_ble_eq_true rfl) (Nat.le_of_ble_eq_true rfl) ⟨f6, rfl, fq5, bn5, pw3⟩
            · replace gf5 := (gf5.resolve_left c5)
              refine m_aload_n (j := 1) C dX12_judge_112 rfl ?_
              refine m_iconst C dX12_judge_113 ?_
              refine m_call (mc2 := 0) (ms2 := 0) (As := [.int (iI 1)]) (rest := [.ref h0]) C (M_isReadable (q := 1) bn3.rg (by omega) (pw1 (1) (by omega)).1 (pw1 (1) (by omega)).2) dX12_judge_114 kV_X12_410 rfl ck_13 rfl (Nat.le_of_ble_eq_true rfl) ⟨Nat.le_of_ble_eq_true rfl, Nat.le_of_ble_eq_true rfl⟩ ⟨Nat.le_of_ble_eq_true rfl, Nat.le_of_ble_eq_true rfl⟩ (fun rh7 vh7 ah7 h7 => ?_)
              obtain ⟨f7, rfl, hf7, rfl, rfl⟩ := h7
              have gf7 : f7 = 0 ∨ f7 = 1 := hf7
              refine m_st (st2 := [.int (iI f7), .ref h0]) rfl ?_
              refine m_if_eq (tgt := 124) C (r32_01 gf7) dX12_judge_117 (by decide) (fun c6 => ?_) (fun c6 => ?_)
              · clear gf7
                refine m_iconst C dX12_judge_124 ?_
                refine m_call (mc2 := 0) (ms2 := 0) (As := [.int (iI 0)]) (rest := []) C (B_fine (x := 0) bn3 (by show -2147483648 ≤ (0 : Int) ∧ (0 : Int) ≤ 2147483647; omega)) dX12_judge_125 kV_X12_158 rfl ck_13 rfl (Nat.le_of_ble_eq_true rfl) ⟨Nat.le_of_ble_eq_true rfl, Nat.le_of_ble_eq_true rfl⟩ ⟨Nat.le_of_ble_eq_true rfl, Nat.le_of_ble_eq_true rfl⟩ (fun rh8 vh8 ah8 h8 => ?_)
                obtain ⟨f8, rfl, fn6, bn6, ex6⟩ := h8
                refine hv3 (fq3.call fn6 rfl rfl) (show RWS ah8 from RWS.fr pw1 fn6 rfl) (show f8 = (0 : Int) from ex6) (fun fq6 pw4 gf8 => ?_)
                refine m_st (st2 := [.int (iI f8)]) rfl ?_
                exact m_iret C dX12_judge_128 rfl (Nat.le_of_ble_eq_true rfl) (Nat.le_of_ble_eq_true rfl) ⟨f8, rfl, fq6, bn6, pw4⟩
              · replace gf7 := (gf7.resolve_left c6)
                refine m_iconst C dX12_judge_120 ?_
                refine m_goto (tgt := 125) C dX12_judge_121 (by decide) ?_
                refine m_call (mc2 := 0) (ms2 := 0) (As := [.int (iI 1)]) (rest := []) C (B_fine (x := 1) bn3 (by show -2147483648 ≤ (1 : Int) ∧ (1 : Int) ≤ 2147483647; omega)) dX12_judge_125 kV_X12_158 rfl ck_13 rfl (Nat.le_of_ble_eq_true rfl) ⟨Nat.le_of_ble_eq_true rfl, Nat.le_of_ble_eq_true rfl⟩ ⟨Nat.le_of_ble_eq_true rfl, Nat.le_of_ble_eq_true rfl⟩ (fun rh9 vh9 ah9 h9 => ?_)
                obtain ⟨f9, rfl, fn7, bn7, ex7⟩ := h9
                refine hv3 (fq3.call fn7 rfl rfl) (show RWS ah9 from RWS.fr pw1 fn7 rfl) (show f9 = (1 : Int) from ex7) (fun fq7 pw5 gf9 => ?_)
                refine m_st (st2 := [.int (iI f9)]) rfl ?_
                exact m_iret C dX12_judge_128 rfl (Nat.le_of_ble_eq_true rfl) (Nat.le_of_ble_eq_true rfl) ⟨f9, rfl, fq7, bn7, pw5⟩
        refine m_icmp_ne (tgt := 88) C (r32_c (lo := 0) (hi := 5) ra2.1 ra2.2 (by decide) (by decide)) ⟨by decide, by decide⟩ dX12_judge_51 (by decide) (fun c7 => ?_) (fun c7 => ?_)
        · refine m_aload_n (j := 0) C dX12_judge_88 rfl ?_
          refine m_iload_n (j := 1) C dX12_judge_89 rfl ?_
          refine m_call (mc2 := 0) (ms2 := 0) (As := [.int (iI t)]) (rest := []) C (M_isShort (t := t) hB.rg (hB.1 4) (hT.fr fp0 rfl rfl).b (by show -1 ≤ t ∧ t < v 4; omega)) dX12_judge_90 kV_X12_407 rfl ck_13 rfl (Nat.le_of_ble_eq_true rfl) ⟨Nat.le_of_ble_eq_true rfl, Nat.le_of_ble_eq_true rfl⟩ ⟨Nat.le_of_ble_eq_true rfl, Nat.le_of_ble_eq_true rfl⟩ (fun rh10 vh10 ah10 h10 => ?_)
          obtain ⟨f10, rfl, hf10, rfl, rfl⟩ := h10
          have gf10 : f10 = 0 ∨ f10 = 1 := hf10
          refine m_st (st2 := [.int (iI f10)]) rfl ?_
          refine m_lv (lv2 := [(0, .ref h0), (1, .int (iI t))]) [0, 1] rfl ?_
          exact J1  f10 _ _  hB fp0 (by omega) hW
        · refine m_aload_n (j := 0) C dX12_judge_54 rfl ?_
          refine m_aload_n (j := 0) C dX12_judge_55 rfl ?_
          refine m_geta (k := 8) C dX12_judge_56 w6_67 (by decide) rfl ?_
          refine m_iload_n (j := 1) C dX12_judge_59 rfl ?_
          refine m_ald (k := 8) C dX12_judge_60 rfl rfl (by decide) (by omega) (by show _ < ((_ : Nat) : Int); simp only [mlen]; omega) (by decide) ?_
          have ra3 : (-1) ≤ a 8 t.toNat ∧ a 8 t.toNat ≤ 29 := hB.2 8 (t.toNat)
          refine m_call (mc2 := 0) (ms2 := 0) (As := [.int (iI (a 8 t.toNat))]) (rest := []) C (M_isShort (t := a 8 t.toNat) hB.rg (hB.1 4) (hT.fr fp0 rfl rfl).b (by show -1 ≤ (a 8 t.toNat) ∧ (a 8 t.toNat) < v 4; omega)) dX12_judge_61 kV_X12_407 rfl ck_13 rfl (Nat.le_of_ble_eq_true rfl) ⟨Nat.le_of_ble_eq_true rfl, Nat.le_of_ble_eq_true rfl⟩ ⟨Nat.le_of_ble_eq_true rfl, Nat.le_of_ble_eq_true rfl⟩ (fun rh11 vh11 ah11 h11 => ?_)
          obtain ⟨f11, rfl, hf11, rfl, rfl⟩ := h11
          have gf11 : f11 = 0 ∨ f11 = 1 := hf11
          refine m_st (st2 := [.int (iI f11)]) rfl ?_
          refine m_if_ne (tgt := 80) C (r32_01 gf11) dX12_judge_64 (by decide) (fun c8 => ?_) (fun c8 => ?_)
          · replace gf11 := (gf11.resolve_left c8)
            refine m_iconst C dX12_judge_80 ?_
            refine m_goto (tgt := 93) C dX12_judge_81 (by decide) ?_
            refine m_lv (lv2 := [(0, .ref h0), (1, .int (iI t))]) [0, 1] rfl ?_
            exact J1  1 _ _  hB fp0 (by omega) hW
          · clear gf11
            refine m_aload_n (j := 0) C dX12_judge_67 rfl ?_
            refine m_aload_n (j := 0) C dX12_judge_68 rfl ?_
            refine m_geta (k := 9) C dX12_judge_69 w6_68 (by decide) rfl ?_
            refine m_iload_n (j := 1) C dX12_judge_72 rfl ?_
            refine m_ald (k := 9) C dX12_judge_73 rfl rfl (by decide) (by omega) (by show _ < ((_ : Nat) : Int); simp only [mlen]; omega) (by decide) ?_
            have ra4 : (-1) ≤ a 9 t.toNat ∧ a 9 t.toNat ≤ 29 := hB.2 9 (t.toNat)
            refine m_call (mc2 := 0) (ms2 := 0) (As := [.int (iI (a 9 t.toNat))]) (rest := []) C (M_isShort (t := a 9 t.toNat) hB.rg (hB.1 4) (hT.fr fp0 rfl rfl).b (by show -1 ≤ (a 9 t.toNat) ∧ (a 9 t.toNat) < v 4; omega)) dX12_judge_74 kV_X12_407 rfl ck_13 rfl (Nat.le_of_ble_eq_true rfl) ⟨Nat.le_of_ble_eq_true rfl, Nat.le_of_ble_eq_true rfl⟩ ⟨Nat.le_of_ble_eq_true rfl, Nat.le_of_ble_eq_true rfl⟩ (fun rh12 vh12 ah12 h12 => ?_)
            obtain ⟨f12, rfl, hf12, rfl, rfl⟩ := h12
            have gf12 : f12 = 0 ∨ f12 = 1 := hf12
            refine m_st (st2 := [.int (iI f12)]) rfl ?_
            refine m_if_eq (tgt := 84) C (r32_01 gf12) dX12_judge_77 (by decide) (fun c9 => ?_) (fun c9 => ?_)
            · clear gf12
              refine m_iconst C dX12_judge_84 ?_
              refine m_goto (tgt := 93) C dX12_judge_85 (by decide) ?_
              refine m_lv (lv2 := [(0, .ref h0), (1, .int (iI t))]) [0, 1] rfl ?_
              exact J1  0 _ _  hB fp0 (by omega) hW
            · replace gf12 := (gf12.resolve_left c9)
              refine m_iconst C dX12_judge_80 ?_
              refine m_goto (tgt := 93) C dX12_judge_81 (by decide) ?_
              refine m_lv (lv2 := [(0, .ref h0), (1, .int (iI t))]) [0, 1] rfl ?_
              exact J1  1 _ _  hB fp0 (by omega) hW
      · clear gf2
        refine m_aload_n (j := 0) C dX12_judge_38 rfl ?_
        refine m_iconst C dX12_judge_39 ?_
        refine m_call (mc2 := 0) (ms2 := 0) (As := [.int (iI 3)]) (rest := []) C (B_bad (x := 3) hB (by show -2147483648 ≤ (3 : Int) ∧ (3 : Int) ≤ 2147483647; omega)) dX12_judge_40 kV_X12_154 rfl ck_13 rfl (Nat.le_of_ble_eq_true rfl) ⟨Nat.le_of_ble_eq_true rfl, Nat.le_of_ble_eq_true rfl⟩ ⟨Nat.le_of_ble_eq_true rfl, Nat.le_of_ble_eq_true rfl⟩ (fun rh13 vh13 ah13 h13 => ?_)
        obtain ⟨f13, rfl, fn8, bn8, ex8⟩ := h13
        refine hv3 (fp0.call fn8 rfl rfl) (show RWS ah13 from RWS.fr hW fn8 rfl) (show f13 = -1 from ex8) (fun fq8 pw6 gf13 => ?_)
        refine m_st (st2 := [.int (iI f13)]) rfl ?_
        exact m_iret C dX12_judge_43 rfl (Nat.le_of_ble_eq_true rfl) (Nat.le_of_ble_eq_true rfl) ⟨f13, rfl, fq8, bn8, pw6⟩
    · refine m_aload_n (j := 0) C dX12_judge_24 rfl ?_
      refine m_iconst C dX12_judge_25 ?_
      refine m_call (mc2 := 0) (ms2 := 0) (As := [.int (iI 4)]) (rest := []) C (B_bad (x := 4) hB (by show -2147483648 ≤ (4 : Int) ∧ (4 : Int) ≤ 2147483647; omega)) dX12_judge_26 kV_X12_154 rfl ck_13 rfl (Nat.le_of_ble_eq_true rfl) ⟨Nat.le_of_ble_eq_true rfl, Nat.le_of_ble_eq_true rfl⟩ ⟨Nat.le_of_ble_eq_true rfl, Nat.le_of_ble_eq_true rfl⟩ (fun rh14 vh14 ah14 h14 => ?_)
      obtain ⟨f14, rfl, fn9, bn9, ex9⟩ := h14
      refine hv3 (fp0.call fn9 rfl rfl) (show RWS ah14 from RWS.fr hW fn9 rfl) (show f14 = -1 from ex9) (fun fq9 pw7 gf14 => ?_)
      refine m_st (st2 := [.int (iI f14)]) rfl ?_
      exact m_iret C dX12_judge_29 rfl (Nat.le_of_ble_eq_true rfl) (Nat.le_of_ble_eq_true rfl) ⟨f14, rfl, fq9, bn9, pw7⟩
  · replace gf1 := (gf1.resolve_right (fun q => absurd (q.1.symm.trans c1) (by decide)))
    refine m_aload_n (j := 0) C dX12_judge_8 rfl ?_
    refine m_iconst C dX12_judge_9 ?_
    refine m_call (mc2 := 0) (ms2 := 0) (As := [.int (iI 3)]) (rest := []) C (B_bad (x := 3) hB (by show -2147483648 ≤ (3 : Int) ∧ (3 : Int) ≤ 2147483647; omega)) dX12_judge_10 kV_X12_154 rfl ck_13 rfl (Nat.le_of_ble_eq_true rfl) ⟨Nat.le_of_ble_eq_true rfl, Nat.le_of_ble_eq_true rfl⟩ ⟨Nat.le_of_ble_eq_true rfl, Nat.le_of_ble_eq_true rfl⟩ (fun rh15 vh15 ah15 h15 => ?_)
    obtain ⟨f15, rfl, fn10, bn10, ex10⟩ := h15
    refine hv3 (fp0.call fn10 rfl rfl) (show RWS ah15 from RWS.fr hW fn10 rfl) (show f15 = -1 from ex10) (fun fq10 pw8 gf15 => ?_)
    refine m_st (st2 := [.int (iI f15)]) rfl ?_
    exact m_iret C dX12_judge_13 rfl (Nat.le_of_ble_eq_true rfl) (Nat.le_of_ble_eq_true rfl) ⟨f15, rfl, fq10, bn10, pw8⟩
set_option maxHeartbeats 4000000 in
set_option maxRecDepth 100000 in
theorem N_parts {l : Launch} {G : GT} {h0 : Nat} {ad ln : Nat → Nat} {v : Nat → Int} {a : Nat → Nat → Int}  {t x y : Int} (hB : BX v a) (hT : TBL v a) (hW : RWS a) (ht : -2147483648 ≤ t ∧ t ≤ 2147483647) (hx : -2147483648 ≤ x ∧ x ≤ 2147483647) (hy : -2147483648 ≤ y ∧ y ≤ 2147483647) : Mm l G yX12_parts cX12_parts 5 (some .int) 36 [.int (iI t), .int (iI x), .int (iI y)] h0 ad ln v a 0 0 (fun r v2 a2 => ∃ f : Int, r = some (.int (iI f)) ∧ fr [0, 1] [44, 45, 46, 47] v a v2 a2 ∧ BX v2 a2 ∧ (RWS a2)) := by
  refine Mm.mk (by decide) (Nat.le_of_ble_eq_true rfl) ?_
  intro p e s m args below meth c A C
  refine hv2 (show 0 ≤ v 4 ∧ v 4 ≤ 30 from hB.1 4) (show fr [0, 1] [44, 45, 46, 47] v a v a from fr.refl) (fun h30 fp0 => ?_)
  refine m_aload_n (j := 0) C dX12_parts_0 rfl ?_
  refine m_iload_n (j := 1) C dX12_parts_1 rfl ?_
  have rv1 : 0 ≤ v 4 ∧ v 4 ≤ 30 := hB.1 4
  refine m_call (mc2 := 0) (ms2 := 0) (As := [.int (iI t)]) (rest := []) C (M_isWhole (t := t) hB (hT.fr fp0 rfl rfl) (by show -2147483648 ≤ t ∧ t ≤ 2147483647; omega)) dX12_parts_2 kV_X12_171 rfl ck_13 rfl (Nat.le_of_ble_eq_true rfl) ⟨Nat.le_of_ble_eq_true rfl, Nat.le_of_ble_eq_true rfl⟩ ⟨Nat.le_of_ble_eq_true rfl, Nat.le_of_ble_eq_true rfl⟩ (fun rh1 vh1 ah1 h1 => ?_)
  obtain ⟨f1, rfl, fn1, bn1, ex1⟩ := h1
  obtain ⟨rfl, rfl⟩ := fn1.eq
  have gf1 : f1 = 0 ∨ (f1 = 1 ∧ 0 ≤ t ∧ t < (v 4)) := ex1
  refine m_st (st2 := [.int (iI f1)]) rfl ?_
  refine m_if_ne (tgt := 14) C (r32_0p gf1) dX12_parts_5 (by decide) (fun c1 => ?_) (fun c1 => ?_)
  · replace gf1 := (gf1.resolve_left c1)
    refine m_aload_n (j := 0) C dX12_parts_14 rfl ?_
    refine m_iload_n (j := 1) C dX12_parts_15 rfl ?_
    refine m_call (mc2 := 0) (ms2 := 0) (As := [.int (iI t)]) (rest := []) C (M_gather (t := t) hB hW (hT.fr fp0 rfl rfl) (by show 0 ≤ t ∧ t < (v 4); omega)) dX12_parts_16 kV_X12_354 rfl ck_13 rfl (Nat.le_of_ble_eq_true rfl) ⟨Nat.le_of_ble_eq_true rfl, Nat.le_of_ble_eq_true rfl⟩ ⟨Nat.le_of_ble_eq_true rfl, Nat.le_of_ble_eq_true rfl⟩ (fun rh2 vh2 ah2 h2 => ?_)
    obtain ⟨rfl, fn2, bn2, ex2⟩ := h2
    refine hv2 (fp0.call fn2 rfl rfl) (ex2) (fun fq2 pw1 => ?_)
    refine m_st (st2 := []) rfl ?_
    refine m_iload_n (j := 2) C dX12_parts_19 rfl ?_
    refine m_iconst C dX12_parts_20 ?_
    refine m_aload_n (j := 0) C dX12_parts_21 rfl ?_
    refine m_geta (k := 47) C dX12_parts_22 w6_106 (by decide) rfl ?_
    refine m_iconst C dX12_parts_25 ?_
    refine m_ald (k := 47) C dX12_parts_26 rfl rfl (by decide) (by decide) (by decide) (by decide) ?_
    have ra1 : 0 ≤ ah2 47 0 ∧ ah2 47 0 ≤ 6008 := bn2.2 47 (0)
    refine m_st (st2 := [.int (iI (ah2 47 0)), .int (iI 0), .int (iI x)]) rfl ?_
    refine m_iconst C dX12_parts_27 ?_
    refine m_isub C dX12_parts_28 ?_
    refine m_callS (As := [.int (iI x), .int (iI 0), .int (iI ((ah2 47 0) - 1))]) (rest := []) C (fun L E => s_isIn (iI x) (iI 0) (iI ((ah2 47 0) - 1))) dX12_parts_29 kS_X12_174 rfl rfl (Nat.le_of_ble_eq_true rfl) ⟨Nat.le_of_ble_eq_true rfl, Nat.le_of_ble_eq_true rfl⟩ ⟨Nat.le_of_ble_eq_true rfl, Nat.le_of_ble_eq_true rfl⟩ ?_
    rcases inn_c (x := x) (lo := 0) (hi := (ah2 47 0) - 1) ⟨by omega, by omega⟩ ⟨by decide, by decide⟩ ⟨by omega, by omega⟩ with ⟨h3a, h3b, h3e⟩ | ⟨h3a, h3e⟩
    · refine m_st (st2 := [.int (iI 1)]) (by rw [h3e]) ?_
      refine m_if_eq (tgt := 51) C ⟨by decide, by decide⟩ dX12_parts_32 (by decide) (fun z => absurd z (by omega)) (fun _ => ?_)
      refine m_iload_n (j := 3) C dX12_parts_35 rfl ?_
      refine m_iconst C dX12_parts_36 ?_
      refine m_aload_n (j := 0) C dX12_parts_37 rfl ?_
      refine m_geta (k := 47) C dX12_parts_38 w6_106 (by decide) rfl ?_
      refine m_iconst C dX12_parts_41 ?_
      refine m_ald (k := 47) C dX12_parts_42 rfl rfl (by decide) (by decide) (by decide) (by decide) ?_
      refine m_st (st2 := [.int (iI (ah2 47 0)), .int (iI 0), .int (iI y)]) rfl ?_
      refine m_iconst C dX12_parts_43 ?_
      refine m_isub C dX12_parts_44 ?_
      refine m_callS (As := [.int (iI y), .int (iI 0), .int (iI ((ah2 47 0) - 1))]) (rest := []) C (fun L E => s_isIn (iI y) (iI 0) (iI ((ah2 47 0) - 1))) dX12_parts_45 kS_X12_174 rfl rfl (Nat.le_of_ble_eq_true rfl) ⟨Nat.le_of_ble_eq_true rfl, Nat.le_of_ble_eq_true rfl⟩ ⟨Nat.le_of_ble_eq_true rfl, Nat.le_of_ble_eq_true rfl⟩ ?_
      rcases inn_c (x := y) (lo := 0) (hi := (ah2 47 0) - 1) ⟨by omega, by omega⟩ ⟨by decide, by decide⟩ ⟨by omega, by omega⟩ with ⟨h4a, h4b, h4e⟩ | ⟨h4a, h4e⟩
      · refine m_st (st2 := [.int (iI 1)]) (by rw [h4e]) ?_
        refine m_if_ne (tgt := 57) C ⟨by decide, by decide⟩ dX12_parts_48 (by decide) (fun _ => ?_) (fun z => absurd z (by omega))
        refine m_aload_n (j := 0) C dX12_parts_57 rfl ?_
        refine m_iload_n (j := 2) C dX12_parts_58 rfl ?_
        refine m_iload_n (j := 3) C dX12_parts_59 rfl ?_
        refine m_call (mc2 := 0) (ms2 := 0) (As := [.int (iI x), .int (iI y)]) (rest := []) C (M_alike (x := x) (y := y) bn2.rg ((pw1 0 (Or.inl rfl)).2 (x) (by omega) (by show x < 6008 * 0 + ah2 47 0; omega)) ((pw1 0 (Or.inl rfl)).2 (y) (by omega) (by show y < 6008 * 0 + ah2 47 0; omega))) dX12_parts_60 kV_X12_404 rfl ck_13 rfl (Nat.le_of_ble_eq_true rfl) ⟨Nat.le_of_ble_eq_true rfl, Nat.le_of_ble_eq_true rfl⟩ ⟨Nat.le_of_ble_eq_true rfl, Nat.le_of_ble_eq_true rfl⟩ (fun rh5 vh5 ah5 h5 => ?_)
        obtain ⟨f3, rfl, hf3, rfl, rfl⟩ := h5
        refine hv3 (show 0 ≤ f3 ∧ f3 ≤ ah2 46 x.toNat ∧ f3 ≤ ah2 46 y.toNat from hf3) (show 0 ≤ ah2 46 x.toNat ∧ ah2 46 x.toNat ≤ 4 from bn2.2 46 (x.toNat)) (show 0 ≤ ah2 46 y.toNat ∧ ah2 46 y.toNat ≤ 4 from bn2.2 46 (y.toNat)) (fun gf3 ra2 ra3 => ?_)
        refine m_st (st2 := [.int (iI f3)]) rfl ?_
        refine m_istore (lv2 := [(4, .int (iI f3)), (0, .ref h0), (1, .int (iI t)), (2, .int (iI x)), (3, .int (iI y))]) C dX12_parts_63 (by decide) rfl ?_
        refine m_aload_n (j := 1) C dX12_parts_65 rfl ?_
        refine m_iload (j := 0) C dX12_parts_66 rfl ?_
        refine m_aload_n (j := 1) C dX12_parts_68 rfl ?_
        refine m_geta (k := 46) C dX12_parts_69 w6_105 (by decide) rfl ?_
        refine m_iload_n (j := 3) C dX12_parts_72 rfl ?_
        refine m_ald (k := 46) C dX12_parts_73 rfl rfl (by decide) (by omega) (by show _ < ((_ : Nat) : Int); simp only [mlen]; omega) (by decide) ?_
        refine m_icmp_eq (tgt := 88) C ⟨by omega, by omega⟩ (r32_c (lo := 0) (hi := 4) ra2.1 ra2.2 (by decide) (by decide)) dX12_parts_74 (by decide) (fun c2 => ?_) (fun c2 => ?_)
        · refine m_iconst C dX12_parts_88 ?_
          refine m_iload (j := 0) C dX12_parts_89 rfl ?_
          refine m_isub C dX12_parts_91 ?_
          refine m_goto (tgt := 97) C dX12_parts_92 (by decide) ?_
          refine m_call (mc2 := 0) (ms2 := 0) (As := [.int (iI ((-1) - f3))]) (rest := []) C (B_fine (x := (-1) - f3) bn2 (by show -2147483648 ≤ ((-1) - f3) ∧ ((-1) - f3) ≤ 2147483647; omega)) dX12_parts_97 kV_X12_158 rfl ck_13 rfl (Nat.le_of_ble_eq_true rfl) ⟨Nat.le_of_ble_eq_true rfl, Nat.le_of_ble_eq_true rfl⟩ ⟨Nat.le_of_ble_eq_true rfl, Nat.le_of_ble_eq_true rfl⟩ (fun rh6 vh6 ah6 h6 => ?_)
          obtain ⟨f4, rfl, fn3, bn3, ex3⟩ := h6
          refine hv3 (fq2.call fn3 rfl rfl) (show RWS ah6 from RWS.fr pw1 fn3 rfl) (show f4 = ((-1) - f3) from ex3) (fun fq3 pw2 gf4 => ?_)
          refine m_st (st2 := [.int (iI f4)]) rfl ?_
          exact m_iret C dX12_parts_100 rfl (Nat.le_of_ble_eq_true rfl) (Nat.le_of_ble_eq_true rfl) ⟨f4, rfl, fq3, bn3, pw2⟩
        · refine m_iload (j := 0) C dX12_parts_77 rfl ?_
          refine m_aload_n (j := 1) C dX12_parts_79 rfl ?_
          refine m_geta (k := 46) C dX12_parts_80 w6_105 (by decide) rfl ?_
          refine m_iload_n (j := 4) C dX12_parts_83 rfl ?_
          refine m_ald (k := 46) C dX12_parts_84 rfl rfl (by decide) (by omega) (by show _ < ((_ : Nat) : Int); simp only [mlen]; omega) (by decide) ?_
          refine m_icmp_ne (tgt := 95) C ⟨by omega, by omega⟩ (r32_c (lo := 0) (hi := 4) ra3.1 ra3.2 (by decide) (by decide)) dX12_parts_85 (by decide) (fun c3 => ?_) (fun c3 => ?_)
          · refine m_iload (j := 0) C dX12_parts_95 rfl ?_
            refine m_call (mc2 := 0) (ms2 := 0) (As := [.int (iI f3)]) (rest := []) C (B_fine (x := f3) bn2 (by show -2147483648 ≤ f3 ∧ f3 ≤ 2147483647; omega)) dX12_parts_97 kV_X12_158 rfl ck_13 rfl (Nat.le_of_ble_eq_true rfl) ⟨Nat.le_of_ble_eq_true rfl, Nat.le_of_ble_eq_true rfl⟩ ⟨Nat.le_of_ble_eq_true rfl, Nat.le_of_ble_eq_true rfl⟩ (fun rh7 vh7 ah7 h7 => ?_)
            obtain ⟨f5, rfl, fn4, bn4, ex4⟩ := h7
            refine hv3 (fq2.call fn4 rfl rfl) (show RWS ah7 from RWS.fr pw1 fn4 rfl) (show f5 = f3 from ex4) (fun fq4 pw3 gf5 => ?_)
            refine m_st (st2 := [.int (iI f5)]) rfl ?_
            exact m_iret C dX12_parts_100 rfl (Nat.le_of_ble_eq_true rfl) (Nat.le_of_ble_eq_true rfl) ⟨f5, rfl, fq4, bn4, pw3⟩
          · refine m_iconst C dX12_parts_88 ?_
            refine m_iload (j := 0) C dX12_parts_89 rfl ?_
            refine m_isub C dX12_parts_91 ?_
            refine m_goto (tgt := 97) C dX12_parts_92 (by decide) ?_
            refine m_call (mc2 := 0) (ms2 := 0) (As := [.int (iI ((-1) - f3))]) (rest := []) C (B_fine (x := (-1) - f3) bn2 (by show -2147483648 ≤ ((-1) - f3) ∧ ((-1) - f3) ≤ 2147483647; omega)) dX12_parts_97 kV_X12_158 rfl ck_13 rfl (Nat.le_of_ble_eq_true rfl) ⟨Nat.le_of_ble_eq_true rfl, Nat.le_of_ble_eq_true rfl⟩ ⟨Nat.le_of_ble_eq_true rfl, Nat.le_of_ble_eq_true rfl⟩ (fun rh8 vh8 ah8 h8 => ?_)
            obtain ⟨f6, rfl, fn5, bn5, ex5⟩ := h8
            refine hv3 (fq2.call fn5 rfl rfl) (show RWS ah8 from RWS.fr pw1 fn5 rfl) (show f6 = ((-1) - f3) from ex5) (fun fq5 pw4 gf6 => ?_)
            refine m_st (st2 := [.int (iI f6)]) rfl ?_
            exact m_iret C dX12_parts_100 rfl (Nat.le_of_ble_eq_true rfl) (Nat.le_of_ble_eq_true rfl) ⟨f6, rfl, fq5, bn5, pw4⟩
      · refine m_st (st2 := [.int (iI 0)]) (by rw [h4e]) ?_
        refine m_if_ne (tgt := 57) C ⟨by decide, by decide⟩ dX12_parts_48 (by decide) (fun z => absurd z (by omega)) (fun _ => ?_)
        refine m_aload_n (j := 0) C dX12_parts_51 rfl ?_
        refine m_iconst C dX12_parts_52 ?_
        refine m_call (mc2 := 0) (ms2 := 0) (As := [.int (iI 2)]) (rest := []) C (B_bad (x := 2) bn2 (by show -2147483648 ≤ (2 : Int) ∧ (2 : Int) ≤ 2147483647; omega)) dX12_parts_53 kV_X12_154 rfl ck_13 rfl (Nat.le_of_ble_eq_true rfl) ⟨Nat.le_of_ble_eq_true rfl, Nat.le_of_ble_eq_true rfl⟩ ⟨Nat.le_of_ble_eq_true rfl, Nat.le_of_ble_eq_true rfl⟩ (fun rh9 vh9 ah9 h9 => ?_)
        obtain ⟨f7, rfl, fn6, bn6, ex6⟩ := h9
        refine hv3 (fq2.call fn6 rfl rfl) (show RWS ah9 from RWS.fr pw1 fn6 rfl) (show f7 = -1 from ex6) (fun fq6 pw5 gf7 => ?_)
        refine m_st (st2 := [.int (iI f7)]) rfl ?_
        exact m_iret C dX12_parts_56 rfl (Nat.le_of_ble_eq_true rfl) (Nat.le_of_ble_eq_true rfl) ⟨f7, rfl, fq6, bn6, pw5⟩
    · refine m_st (st2 := [.int (iI 0)]) (by rw [h3e]) ?_
      refine m_if_eq (tgt := 51) C ⟨by decide, by decide⟩ dX12_parts_32 (by decide) (fun _ => ?_) (fun z => absurd z (by omega))
      refine m_aload_n (j := 0) C dX12_parts_51 rfl ?_
      refine m_iconst C dX12_parts_52 ?_
      refine m_call (mc2 := 0) (ms2 := 0) (As := [.int (iI 2)]) (rest := []) C (B_bad (x := 2) bn2 (by show -2147483648 ≤ (2 : Int) ∧ (2 : Int) ≤ 2147483647; omega)) dX12_parts_53 kV_X12_154 rfl ck_13 rfl (Nat.le_of_ble_eq_true rfl) ⟨Nat.le_of_ble_eq_true rfl, Nat.le_of_ble_eq_true rfl⟩ ⟨Nat.le_of_ble_eq_true rfl, Nat.le_of_ble_eq_true rfl⟩ (fun rh10 vh10 ah10 h10 => ?_)
      obtain ⟨f8, rfl, fn7, bn7, ex7⟩ := h10
      refine hv3 (fq2.call fn7 rfl rfl) (show RWS ah10 from RWS.fr pw1 fn7 rfl) (show f8 = -1 from ex7) (fun fq7 pw6 gf8 => ?_)
      refine m_st (st2 := [.int (iI f8)]) rfl ?_
      exact m_iret C dX12_parts_56 rfl (Nat.le_of_ble_eq_true rfl) (Nat.le_of_ble_eq_true rfl) ⟨f8, rfl, fq7, bn7, pw6⟩
  · clear gf1
    refine m_aload_n (j := 0) C dX12_parts_8 rfl ?_
    refine m_iconst C dX12_parts_9 ?_
    refine m_call (mc2 := 0) (ms2 := 0) (As := [.int (iI 3)]) (rest := []) C (B_bad (x := 3) hB (by show -2147483648 ≤ (3 : Int) ∧ (3 : Int) ≤ 2147483647; omega)) dX12_parts_10 kV_X12_154 rfl ck_13 rfl (Nat.le_of_ble_eq_true rfl) ⟨Nat.le_of_ble_eq_true rfl, Nat.le_of_ble_eq_true rfl⟩ ⟨Nat.le_of_ble_eq_true rfl, Nat.le_of_ble_eq_true rfl⟩ (fun rh11 vh11 ah11 h11 => ?_)
    obtain ⟨f9, rfl, fn8, bn8, ex8⟩ := h11
    refine hv3 (fp0.call fn8 rfl rfl) (show RWS ah11 from RWS.fr hW fn8 rfl) (show f9 = -1 from ex8) (fun fq8 pw7 gf9 => ?_)
    refine m_st (st2 := [.int (iI f9)]) rfl ?_
    exact m_iret C dX12_parts_13 rfl (Nat.le_of_ble_eq_true rfl) (Nat.le_of_ble_eq_true rfl) ⟨f9, rfl, fq8, bn8, pw7⟩
set_option maxHeartbeats 4000000 in
set_option maxRecDepth 100000 in
theorem N_unreadable {l : Launch} {G : GT} {h0 : Nat} {ad ln : Nat → Nat} {v : Nat → Int} {a : Nat → Nat → Int} {t n1 m1 : Int} (hB : BX v a) (hT : TBL v a) (hW : RWS a) (ht : -2147483648 ≤ t ∧ t ≤ 2147483647) (hn1 : -2147483648 ≤ n1 ∧ n1 ≤ 2147483647) (hm1 : -2147483648 ≤ m1 ∧ m1 ≤ 2147483647) : Mm l G yX12_unreadable cX12_unreadable 9 (some .int) 67 [.int (iI t), .int (iI n1), .int (iI m1)] h0 ad ln v a 2 262 (fun r v2 a2 => ∃ f : Int, r = some (.int (iI f)) ∧ fr [0, 1, 23, 25, 28, 50, 52, 53, 55, 66] [20, 24, 26, 27, 44, 45, 46, 47, 48, 49, 51, 54, 65, 70] v a v2 a2 ∧ BX v2 a2 ∧ (RWS a2)) := by
  refine Mm.mk (by decide) (Nat.le_of_ble_eq_true rfl) ?_
  intro p e s m args below meth c A C
  refine hv2 (show 0 ≤ v 4 ∧ v 4 ≤ 30 from hB.1 4) (show fr [0, 1, 23, 25, 28, 50, 52, 53, 55, 66] [20, 24, 26, 27, 44, 45, 46, 47, 48, 49, 51, 54, 65, 70] v a v a from fr.refl) (fun h30 fp0 => ?_)
  refine m_iload_n (j := 2) C dX12_unreadable_0 rfl ?_
  refine m_iconst C dX12_unreadable_1 ?_
  refine m_bipush (z := 6) C dX12_unreadable_2 (by decide) ?_
  refine m_callS (As := [.int (iI n1), .int (iI 1), .int (iI 6)]) (rest := []) C (fun L E => s_isIn (iI n1) (iI 1) (iI 6)) dX12_unreadable_4 kS_X12_174 rfl rfl (Nat.le_of_ble_eq_true rfl) ⟨Nat.le_of_ble_eq_true rfl, Nat.le_of_ble_eq_true rfl⟩ ⟨Nat.le_of_ble_eq_true rfl, Nat.le_of_ble_eq_true rfl⟩ ?_
  rcases inn_c (x := n1) (lo := 1) (hi := 6) ⟨by omega, by omega⟩ ⟨by decide, by decide⟩ ⟨by decide, by decide⟩ with ⟨h1a, h1b, h1e⟩ | ⟨h1a, h1e⟩
  · refine m_st (st2 := [.int (iI 1)]) (by rw [h1e]) ?_
    refine m_if_eq (tgt := 21) C ⟨by decide, by decide⟩ dX12_unreadable_7 (by decide) (fun z => absurd z (by omega)) (fun _ => ?_)
    refine m_iload_n (j := 3) C dX12_unreadable_10 rfl ?_
    refine m_iconst C dX12_unreadable_11 ?_
    refine m_sipush (z := 5000) C dX12_unreadable_12 (by decide) ?_
    refine m_callS (As := [.int (iI m1), .int (iI 1), .int (iI 5000)]) (rest := []) C (fun L E => s_isIn (iI m1) (iI 1) (iI 5000)) dX12_unreadable_15 kS_X12_174 rfl rfl (Nat.le_of_ble_eq_true rfl) ⟨Nat.le_of_ble_eq_true rfl, Nat.le_of_ble_eq_true rfl⟩ ⟨Nat.le_of_ble_eq_true rfl, Nat.le_of_ble_eq_true rfl⟩ ?_
    rcases inn_c (x := m1) (lo := 1) (hi := 5000) ⟨by omega, by omega⟩ ⟨by decide, by decide⟩ ⟨by decide, by decide⟩ with ⟨h2a, h2b, h2e⟩ | ⟨h2a, h2e⟩
    · refine m_st (st2 := [.int (iI 1)]) (by rw [h2e]) ?_
      refine m_if_ne (tgt := 28) C ⟨by decide, by decide⟩ dX12_unreadable_18 (by decide) (fun _ => ?_) (fun z => absurd z (by omega))
      refine m_aload_n (j := 0) C dX12_unreadable_28 rfl ?_
      refine m_iload_n (j := 1) C dX12_unreadable_29 rfl ?_
      have rv1 : 0 ≤ v 4 ∧ v 4 ≤ 30 := hB.1 4
      refine m_call (mc2 := 0) (ms2 := 0) (As := [.int (iI t)]) (rest := []) C (M_isWhole (t := t) hB (hT.fr fp0 rfl rfl) (by show -2147483648 ≤ t ∧ t ≤ 2147483647; omega)) dX12_unreadable_30 kV_X12_171 rfl ck_13 rfl (Nat.le_of_ble_eq_true rfl) ⟨Nat.le_of_ble_eq_true rfl, Nat.le_of_ble_eq_true rfl⟩ ⟨Nat.le_of_ble_eq_true rfl, Nat.le_of_ble_eq_true rfl⟩ (fun rh3 vh3 ah3 h3 => ?_)
      obtain ⟨f1, rfl, fn1, bn1, ex1⟩ := h3
      obtain ⟨rfl, rfl⟩ := fn1.eq
      have gf1 : f1 = 0 ∨ (f1 = 1 ∧ 0 ≤ t ∧ t < (v 4)) := ex1
      refine m_st (st2 := [.int (iI f1)]) rfl ?_
      refine m_if_ne (tgt := 42) C (r32_0p gf1) dX12_unreadable_33 (by decide) (fun c1 => ?_) (fun c1 => ?_)
      · replace gf1 := (gf1.resolve_left c1)
        refine m_aload_n (j := 0) C dX12_unreadable_42 rfl ?_
        refine m_iload_n (j := 1) C dX12_unreadable_43 rfl ?_
        refine m_call (mc2 := 0) (ms2 := 0) (As := [.int (iI t)]) (rest := []) C (M_gather (t := t) hB hW (hT.fr fp0 rfl rfl) (by show 0 ≤ t ∧ t < (v 4); omega)) dX12_unreadable_44 kV_X12_354 rfl ck_13 rfl (Nat.le_of_ble_eq_true rfl) ⟨Nat.le_of_ble_eq_true rfl, Nat.le_of_ble_eq_true rfl⟩ ⟨Nat.le_of_ble_eq_true rfl, Nat.le_of_ble_eq_true rfl⟩ (fun rh4 vh4 ah4 h4 => ?_)
        obtain ⟨rfl, fn2, bn2, ex2⟩ := h4
        refine hv2 (fp0.call fn2 rfl rfl) (ex2) (fun fq2 pw1 => ?_)
        refine m_st (st2 := []) rfl ?_
        refine m_aload_n (j := 0) C dX12_unreadable_47 rfl ?_
        refine m_iload_n (j := 1) C dX12_unreadable_48 rfl ?_
        refine m_call (mc2 := 1) (ms2 := 256) (As := [.int (iI t)]) (rest := []) C (M_gatherSigns (t := t) bn2 (by show 0 ≤ t ∧ t < 30; omega)) dX12_unreadable_49 kV_X12_416 rfl ck_13 rfl (Nat.le_of_ble_eq_true rfl) ⟨Nat.le_of_ble_eq_true rfl, Nat.le_of_ble_eq_true rfl⟩ ⟨Nat.le_of_ble_eq_true rfl, Nat.le_of_ble_eq_true rfl⟩ (fun rh5 vh5 ah5 h5 => ?_)
        obtain ⟨rfl, fn3, bn3, ex3⟩ := h5
        refine hv2 (fq2.call fn3 rfl rfl) (show RWS ah5 from RWS.fr pw1 fn3 rfl) (fun fq3 pw2 => ?_)
        refine m_st (st2 := []) rfl ?_
        refine m_aload_n (j := 0) C dX12_unreadable_52 rfl ?_
        refine m_aload_n (j := 0) C dX12_unreadable_53 rfl ?_
        refine hv3 (show 0 ≤ vh5 52 ∧ vh5 52 ≤ 4000 from bn3.1 52) (show vh5 52 = vh4 52 from fn3.1 52 rfl) (show vh4 52 = v 52 from fn2.1 52 rfl) (fun rv2 ve1 ve2 => ?_)
        refine m_get (k := 52) C dX12_unreadable_54 w6_111 (by decide) rfl ?_
        refine m_put (k := 55) (z := vh5 52) C dX12_unreadable_57 w6_114 (by decide) rfl rfl rfl ?_
        refine hv2 (show BX (va_up vh5 55 (vh5 52)) ah5 from bn3.put (k := 55) (z := vh5 52) (show 0 ≤ (vh5 52) ∧ (vh5 52) ≤ 4000 by omega)) (fq3.put (k := 55) (z := vh5 52) rfl) (fun bq1 fq4 => ?_)
        refine m_iconst C dX12_unreadable_60 ?_
        refine m_istore (lv2 := [(4, .int (iI 0)), (0, .ref h0), (1, .int (iI t)), (2, .int (iI n1)), (3, .int (iI m1))]) C dX12_unreadable_61 (by decide) rfl ?_
        have Lp1 : ∀ (nn : Nat) (k : Int) (vb1 : Nat → Int) (ab1 : Nat → Nat → Int), 4001 - k < (nn : Int) → BX vb1 ab1 → fr [0, 1, 23, 25, 28, 50, 52, 53, 55, 66] [20, 24, 26, 27, 44, 45, 46, 47, 48, 49, 51, 54, 65, 70] v a vb1 ab1 → (0 ≤ k ∧ k ≤ 4000) → (RWS ab1) → mw p l e (rmq 67 2 262) s m args below meth c G A 9 (MQ below (Qm G A (fun rq Lq Eq => ∃ (vq : Nat → Int) (aq : Nat → Nat → Int), mI G h0 ad ln vq aq Lq Eq ∧ (fun r v2 a2 => ∃ f : Int, r = some (.int (iI f)) ∧ fr [0, 1, 23, 25, 28, 50, 52, 53, 55, 66] [20, 24, 26, 27, 44, 45, 46, 47, 48, 49, 51, 54, 65, 70] v a v2 a2 ∧ BX v2 a2 ∧ (RWS a2)) rq vq aq)) args s 2 262 A) h0 ad ln vb1 ab1 (0 + 1) (0 + 256) 63 [(4, .int (iI k)), (0, .ref h0), (1, .int (iI t)), (2, .int (iI n1)), (3, .int (iI m1))] [] := by
          intro nn
          induction nn with
          | zero =>
            intro k vb1 ab1 hm bxb1 fpb1 hk hRa
            exact absurd hm (by omega)
          | succ nn ih1 =>
            intro k vb1 ab1 hm bxb1 fpb1 hk hRa
            refine m_iload (j := 0) C dX12_unreadable_63 rfl ?_
            refine m_aload_n (j := 1) C dX12_unreadable_65 rfl ?_
            have rv3 : 0 ≤ vb1 52 ∧ vb1 52 ≤ 4000 := bxb1.1 52
            refine m_get (k := 52) C dX12_unreadable_66 w6_111 (by decide) rfl ?_
            refine m_icmp_ge (tgt := 92) C (r32_c (lo := 0) (hi := 4000) hk.1 hk.2 (by decide) (by decide)) (r32_c (lo := 0) (hi := 4000) rv3.1 rv3.2 (by decide) (by decide)) dX12_unreadable_69 (by decide) (fun c2 => ?_) (fun c2 => ?_)
            · refine m_iconst C dX12_unreadable_92 ?_
              refine m_istore (lv2 := [(4, .int (iI 0)), (0, .ref h0), (1, .int (iI t)), (2, .int (iI n1)), (3, .int (iI m1))]) C dX12_unreadable_93 (by decide) rfl ?_
              refine m_bipush (z := 6) C dX12_unreadable_95 (by decide) ?_
              refine m_newI (z := 6) (nb := 6) C dX12_unreadable_97 w1_57 ⟨by omega, by omega⟩ rfl ⟨Nat.le_of_ble_eq_true rfl, Nat.le_of_ble_eq_true rfl⟩ bxb1 (fun bb vw1 aw1 fnw1 bnw1 znw1 => ?_)
              refine hv3 (fpb1.call fnw1 rfl rfl) (show RWS aw1 from RWS.fr hRa fnw1 rfl) (show ATS vw1 aw1 from fun j => ⟨Int.le_of_eq (znw1 j).symm, Or.inl (znw1 j)⟩) (fun fqw1 pw3 pw4 => ?_)
              refine x_astore (lv2 := [(5, .ref bb), (4, .int (iI 0)), (0, .ref h0), (1, .int (iI t)), (2, .int (iI n1)), (3, .int (iI m1))]) C dX12_unreadable_99 (by decide) rfl ?_
              refine x_iconst C dX12_unreadable_101 ?_
              refine x_istore (lv2 := [(6, .int (iI 1)), (5, .ref bb), (4, .int (iI 0)), (0, .ref h0), (1, .int (iI t)), (2, .int (iI n1)), (3, .int (iI m1))]) C dX12_unreadable_102 (by decide) rfl ?_
              have Lp2 : ∀ (nn : Nat) (tr m2 : Int) (vb2 : Nat → Int) (ab2 : Nat → Nat → Int), n1 + 2 - m2 < (nn : Int) → BX vb2 ab2 → fr [0, 1, 23, 25, 28, 50, 52, 53, 55, 66] [20, 24, 26, 27, 44, 45, 46, 47, 48, 49, 51, 54, 65, 70] v a vb2 ab2 → (0 ≤ tr ∧ tr ≤ m1) → (1 ≤ m2 ∧ m2 ≤ n1 + 1) → (RWS ab2) → (ATS vb2 ab2) → mx p l e (rmq 67 2 262) s m args below meth c G A 9 (MQ below (Qm G A (fun rq Lq Eq => ∃ (vq : Nat → Int) (aq : Nat → Nat → Int), mI G h0 ad ln vq aq Lq Eq ∧ (fun r v2 a2 => ∃ f : Int, r = some (.int (iI f)) ∧ fr [0, 1, 23, 25, 28, 50, 52, 53, 55, 66] [20, 24, 26, 27, 44, 45, 46, 47, 48, 49, 51, 54, 65, 70] v a v2 a2 ∧ BX v2 a2 ∧ (RWS a2)) rq vq aq)) args s 2 262 A) bb 6 false h0 ad ln vb2 ab2 ((0 + 1) + 1) ((0 + 256) + 6) 104 [(6, .int (iI m2)), (4, .int (iI tr)), (5, .ref bb), (0, .ref h0), (1, .int (iI t)), (2, .int (iI n1)), (3, .int (iI m1))] [] := by
                intro nn
                induction nn with
                | zero =>
                  intro tr m2 vb2 ab2 hm bxb2 fpb2 htr hm2 hRb hAb
                  exact absurd hm (by omega)
                | succ nn ih2 =>
                  intro tr m2 vb2 ab2 hm bxb2 fpb2 htr hm2 hRb hAb
                  refine x_iload (j := 0) C dX12_unreadable_104 rfl ?_
                  refine x_iload_n (j := 5) C dX12_unreadable_106 rfl ?_
                  refine x_icmp_gt (tgt := 329) C ⟨by omega, by omega⟩ ⟨by omega, by omega⟩ dX12_unreadable_107 (by decide) (fun c3 => ?_) (fun c3 => ?_)
                  · refine x_aload_n (j := 3) C dX12_unreadable_329 rfl ?_
                    refine x_call (mc2 := 0) (ms2 := 0) (As := []) (rest := []) C (B_putBack  bxb2 ) (fun _ _ _ q => by first | exact q.2.1.2 70 rfl | (obtain ⟨_, _, q2, _⟩ := q; exact q2.2 70 rfl)) dX12_unreadable_330 kV_X12_422 rfl ck_13 rfl (Nat.le_of_ble_eq_true rfl) ⟨Nat.le_of_ble_eq_true rfl, Nat.le_of_ble_eq_true rfl⟩ ⟨Nat.le_of_ble_eq_true rfl, Nat.le_of_ble_eq_true rfl⟩ (fun rh6 vh6 ah6 h6 => ?_)
                    obtain ⟨rfl, fn4, bn4, ex4⟩ := h6
                    refine hv3 (fpb2.call fn4 rfl rfl) (show RWS ah6 from RWS.fr hRb fn4 rfl) (show ATS vh6 ah6 from ATS.fr hAb fn4 rfl rfl) (fun fq5 pw5 pw6 => ?_)
                    refine x_st (st2 := []) rfl ?_
                    refine x_aload_n (j := 3) C dX12_unreadable_333 rfl ?_
                    refine x_iconst C dX12_unreadable_334 ?_
                    refine x_call (mc2 := 0) (ms2 := 0) (As := [.int (iI 0)]) (rest := []) C (B_fine (x := 0) bn4 (by show -2147483648 ≤ (0 : Int) ∧ (0 : Int) ≤ 2147483647; omega)) (fun _ _ _ q => by first | exact q.2.1.2 70 rfl | (obtain ⟨_, _, q2, _⟩ := q; exact q2.2 70 rfl)) dX12_unreadable_335 kV_X12_158 rfl ck_13 rfl (Nat.le_of_ble_eq_true rfl) ⟨Nat.le_of_ble_eq_true rfl, Nat.le_of_ble_eq_true rfl⟩ ⟨Nat.le_of_ble_eq_true rfl, Nat.le_of_ble_eq_true rfl⟩ (fun rh7 vh7 ah7 h7 => ?_)
                    obtain ⟨f5, rfl, fn5, bn5, ex5⟩ := h7
                    refine hv4 (fq5.call fn5 rfl rfl) (show RWS ah7 from RWS.fr pw5 fn5 rfl) (show ATS vh7 ah7 from ATS.fr pw6 fn5 rfl rfl) (show f5 = (0 : Int) from ex5) (fun fq6 pw7 pw8 gf5 => ?_)
                    refine x_st (st2 := [.int (iI f5)]) rfl ?_
                    exact x_iret C dX12_unreadable_338 rfl (Nat.le_of_ble_eq_true rfl) (Nat.le_of_ble_eq_true rfl) ⟨f5, rfl, fq6, bn5, pw7⟩
                  · refine x_aload_n (j := 3) C dX12_unreadable_110 rfl ?_
                    have rv4 : 0 ≤ vb2 66 ∧ vb2 66 ≤ 256 := bxb2.1 66
                    refine x_get (k := 66) C dX12_unreadable_111 w6_125 (by decide) rfl ?_
                    refine x_if_le (tgt := 329) C (r32_c (lo := 0) (hi := 256) rv4.1 rv4.2 (by decide) (by decide)) dX12_unreadable_114 (by decide) (fun c4 => ?_) (fun c4 => ?_)
                    · refine x_aload_n (j := 3) C dX12_unreadable_329 rfl ?_
                      refine x_call (mc2 := 0) (ms2 := 0) (As := []) (rest := []) C (B_putBack  bxb2 ) (fun _ _ _ q => by first | exact q.2.1.2 70 rfl | (obtain ⟨_, _, q2, _⟩ := q; exact q2.2 70 rfl)) dX12_unreadable_330 kV_X12_422 rfl ck_13 rfl (Nat.le_of_ble_eq_true rfl) ⟨Nat.le_of_ble_eq_true rfl, Nat.le_of_ble_eq_true rfl⟩ ⟨Nat.le_of_ble_eq_true rfl, Nat.le_of_ble_eq_true rfl⟩ (fun rh8 vh8 ah8 h8 => ?_)
                      obtain ⟨rfl, fn6, bn6, ex6⟩ := h8
                      refine hv3 (fpb2.call fn6 rfl rfl) (show RWS ah8 from RWS.fr hRb fn6 rfl) (show ATS vh8 ah8 from ATS.fr hAb fn6 rfl rfl) (fun fq7 pw9 pw10 => ?_)
                      refine x_st (st2 := []) rfl ?_
                      refine x_aload_n (j := 3) C dX12_unreadable_333 rfl ?_
                      refine x_iconst C dX12_unreadable_334 ?_
                      refine x_call (mc2 := 0) (ms2 := 0) (As := [.int (iI 0)]) (rest := []) C (B_fine (x := 0) bn6 (by show -2147483648 ≤ (0 : Int) ∧ (0 : Int) ≤ 2147483647; omega)) (fun _ _ _ q => by first | exact q.2.1.2 70 rfl | (obtain ⟨_, _, q2, _⟩ := q; exact q2.2 70 rfl)) dX12_unreadable_335 kV_X12_158 rfl ck_13 rfl (Nat.le_of_ble_eq_true rfl) ⟨Nat.le_of_ble_eq_true rfl, Nat.le_of_ble_eq_true rfl⟩ ⟨Nat.le_of_ble_eq_true rfl, Nat.le_of_ble_eq_true rfl⟩ (fun rh9 vh9 ah9 h9 => ?_)
                      obtain ⟨f7, rfl, fn7, bn7, ex7⟩ := h9
                      refine hv4 (fq7.call fn7 rfl rfl) (show RWS ah9 from RWS.fr pw9 fn7 rfl) (show ATS vh9 ah9 from ATS.fr pw10 fn7 rfl rfl) (show f7 = (0 : Int) from ex7) (fun fq8 pw11 pw12 gf7 => ?_)
                      refine x_st (st2 := [.int (iI f7)]) rfl ?_
                      exact x_iret C dX12_unreadable_338 rfl (Nat.le_of_ble_eq_true rfl) (Nat.le_of_ble_eq_true rfl) ⟨f7, rfl, fq8, bn7, pw11⟩
                    · refine x_iconst C dX12_unreadable_117 ?_
                      refine x_istore (lv2 := [(7, .int (iI 0)), (6, .int (iI m2)), (4, .int (iI tr)), (5, .ref bb), (0, .ref h0), (1, .int (iI t)), (2, .int (iI n1)), (3, .int (iI m1))]) C dX12_unreadable_118 (by decide) rfl ?_
                      have Lp3 : ∀ (nn : Nat) (k1 : Int) (vb3 : Nat → Int) (ab3 : Nat → Nat → Int), 7 - k1 < (nn : Int) → BX vb3 ab3 → fr [0, 1, 23, 25, 28, 50, 52, 53, 55, 66] [20, 24, 26, 27, 44, 45, 46, 47, 48, 49, 51, 54, 65, 70] v a vb3 ab3 → (0 ≤ k1 ∧ k1 ≤ m2) → (RWS ab3) → (ATS vb3 ab3) → (0 < vb3 66) → mx p l e (rmq 67 2 262) s m args below meth c G A 9 (MQ below (Qm G A (fun rq Lq Eq => ∃ (vq : Nat → Int) (aq : Nat → Nat → Int), mI G h0 ad ln vq aq Lq Eq ∧ (fun r v2 a2 => ∃ f : Int, r = some (.int (iI f)) ∧ fr [0, 1, 23, 25, 28, 50, 52, 53, 55, 66] [20, 24, 26, 27, 44, 45, 46, 47, 48, 49, 51, 54, 65, 70] v a v2 a2 ∧ BX v2 a2 ∧ (RWS a2)) rq vq aq)) args s 2 262 A) bb 6 false h0 ad ln vb3 ab3 ((0 + 1) + 1) ((0 + 256) + 6) 120 [(7, .int (iI k1)), (6, .int (iI m2)), (4, .int (iI tr)), (5, .ref bb), (0, .ref h0), (1, .int (iI t)), (2, .int (iI n1)), (3, .int (iI m1))] [] := by
                        intro nn
                        induction nn with
                        | zero =>
                          intro k1 vb3 ab3 hm bxb3 fpb3 hk1 hRc hAc h66c
                          exact absurd hm (by omega)
                        | succ nn ih3 =>
                          intro k1 vb3 ab3 hm bxb3 fpb3 hk1 hRc hAc h66c
                          refine x_iload (j := 0) C dX12_unreadable_120 rfl ?_
                          refine x_iload (j := 1) C dX12_unreadable_122 rfl ?_
                          refine x_icmp_ge (tgt := 139) C ⟨by omega, by omega⟩ ⟨by omega, by omega⟩ dX12_unreadable_124 (by decide) (fun c5 => ?_) (fun c5 => ?_)
                          · refine x_iconst C dX12_unreadable_139 ?_
                            refine x_istore (lv2 := [(7, .int (iI 1)), (6, .int (iI m2)), (4, .int (iI tr)), (5, .ref bb), (0, .ref h0), (1, .int (iI t)), (2, .int (iI n1)), (3, .int (iI m1))]) C dX12_unreadable_140 (by decide) rfl ?_
                            have Lp4 : ∀ (nn : Nat) (g tr2 : Int) (vb4 : Nat → Int) (ab4 : Nat → Nat → Int), m1 + 1 - tr2 < (nn : Int) → BX vb4 ab4 → fr [0, 1, 23, 25, 28, 50, 52, 53, 55, 66] [20, 24, 26, 27, 44, 45, 46, 47, 48, 49, 51, 54, 65, 70] v a vb4 ab4 → (g = 0 ∨ g = 1) → (0 ≤ tr2 ∧ tr2 ≤ m1) → (RWS ab4) → (ATS vb4 ab4) → (0 < vb4 66) → mx p l e (rmq 67 2 262) s m args below meth c G A 9 (MQ below (Qm G A (fun rq Lq Eq => ∃ (vq : Nat → Int) (aq : Nat → Nat → Int), mI G h0 ad ln vq aq Lq Eq ∧ (fun r v2 a2 => ∃ f : Int, r = some (.int (iI f)) ∧ fr [0, 1, 23, 25, 28, 50, 52, 53, 55, 66] [20, 24, 26, 27, 44, 45, 46, 47, 48, 49, 51, 54, 65, 70] v a v2 a2 ∧ BX v2 a2 ∧ (RWS a2)) rq vq aq)) args s 2 262 A) bb 6 false h0 ad ln vb4 ab4 ((0 + 1) + 1) ((0 + 256) + 6) 142 [(7, .int (iI g)), (4, .int (iI tr2)), (6, .int (iI m2)), (5, .ref bb), (0, .ref h0), (1, .int (iI t)), (2, .int (iI n1)), (3, .int (iI m1))] [] := by
                              intro nn
                              induction nn with
                              | zero =>
                                intro g tr2 vb4 ab4 hm bxb4 fpb4 hg htr2 hRd hAd h66d
                                exact absurd hm (by omega)
                              | succ nn ih4 =>
                                intro g tr2 vb4 ab4 hm bxb4 fpb4 hg htr2 hRd hAd h66d
                                refine x_iload (j := 0) C dX12_unreadable_142 rfl ?_
                                refine x_if_eq (tgt := 323) C (r32_01 hg) dX12_unreadable_144 (by decide) (fun c6 => ?_) (fun c6 => ?_)
                                · clear hg
                                  refine x_iinc (z := m2) (j := 2) (lv2 := [(6, .int (iI (m2 + 1))), (7, .int (iI g)), (4, .int (iI tr2)), (5, .ref bb), (0, .ref h0), (1, .int (iI t)), (2, .int (iI n1)), (3, .int (iI m1))]) C dX12_unreadable_323 rfl (by decide) rfl ?_
                                  refine x_goto (tgt := 104) C dX12_unreadable_326 (by decide) ?_
                                  refine x_lv (lv2 := [(6, .int (iI (m2 + 1))), (4, .int (iI tr2)), (5, .ref bb), (0, .ref h0), (1, .int (iI t)), (2, .int (iI n1)), (3, .int (iI m1))]) [0, 2, 3, 4, 5, 6, 7] rfl ?_
                                  exact ih2  tr2 (m2 + 1) _ _ (by omega) bxb4 fpb4 (by omega) (by omega) hRd hAd
                                · replace hg := (hg.resolve_left c6)
                                  refine x_iload (j := 1) C dX12_unreadable_147 rfl ?_
                                  refine x_iload_n (j := 7) C dX12_unreadable_149 rfl ?_
                                  refine x_icmp_ne (tgt := 164) C ⟨by omega, by omega⟩ ⟨by omega, by omega⟩ dX12_unreadable_150 (by decide) (fun c7 => ?_) (fun c7 => ?_)
                                  · refine x_iinc (z := tr2) (j := 1) (lv2 := [(4, .int (iI (tr2 + 1))), (7, .int (iI g)), (6, .int (iI m2)), (5, .ref bb), (0, .ref h0), (1, .int (iI t)), (2, .int (iI n1)), (3, .int (iI m1))]) C dX12_unreadable_164 rfl (by decide) rfl ?_
                                    refine x_aload_n (j := 4) C dX12_unreadable_167 rfl ?_
                                    refine x_iload (j := 2) C dX12_unreadable_168 rfl ?_
                                    refine x_put (k := 23) (z := m2) C dX12_unreadable_170 w6_82 (by decide) rfl rfl rfl ?_
                                    refine hv3 (show BX (va_up vb4 23 m2) ab4 from bxb4.put (k := 23) (z := m2) (show 0 ≤ m2 ∧ m2 ≤ 500 by omega)) (fpb4.put (k := 23) (z := m2) rfl) (show ATS (va_up vb4 23 m2) ab4 from ATS.put hAd (k := 23) (z := m2) (by decide)) (fun bq2 fq9 pw13 => ?_)
                                    refine x_iconst C dX12_unreadable_173 ?_
                                    refine x_istore (lv2 := [(8, .int (iI 0)), (4, .int (iI (tr2 + 1))), (7, .int (iI g)), (6, .int (iI m2)), (5, .ref bb), (0, .ref h0), (1, .int (iI t)), (2, .int (iI n1)), (3, .int (iI m1))]) C dX12_unreadable_174 (by decide) rfl ?_
                                    have Lp5 : ∀ (nn : Nat) (k2 : Int) (vb5 : Nat → Int) (ab5 : Nat → Nat → Int), 7 - k2 < (nn : Int) → BX vb5 ab5 → fr [0, 1, 23, 25, 28, 50, 52, 53, 55, 66] [20, 24, 26, 27, 44, 45, 46, 47, 48, 49, 51, 54, 65, 70] v a vb5 ab5 → (0 ≤ k2 ∧ k2 ≤ m2) → (RWS ab5) → (ATS vb5 ab5) → (0 < vb5 66) → mx p l e (rmq 67 2 262) s m args below meth c G A 9 (MQ below (Qm G A (fun rq Lq Eq => ∃ (vq : Nat → Int) (aq : Nat → Nat → Int), mI G h0 ad ln vq aq Lq Eq ∧ (fun r v2 a2 => ∃ f : Int, r = some (.int (iI f)) ∧ fr [0, 1, 23, 25, 28, 50, 52, 53, 55, 66] [20, 24, 26, 27, 44, 45, 46, 47, 48, 49, 51, 54, 65, 70] v a v2 a2 ∧ BX v2 a2 ∧ (RWS a2)) rq vq aq)) args s 2 262 A) bb 6 false h0 ad ln vb5 ab5 ((0 + 1) + 1) ((0 + 256) + 6) 176 [(8, .int (iI k2)), (4, .int (iI (tr2 + 1))), (7, .int (iI g)), (6, .int (iI m2)), (5, .ref bb), (0, .ref h0), (1, .int (iI t)), (2, .int (iI n1)), (3, .int (iI m1))] [] := by
                                      intro nn
                                      induction nn with
                                      | zero =>
                                        intro k2 vb5 ab5 hm bxb5 fpb5 hk2 hRe hAe h66e
                                        exact absurd hm (by omega)
                                      | succ nn ih5 =>
                                        intro k2 vb5 ab5 hm bxb5 fpb5 hk2 hRe hAe h66e
                                        refine x_iload (j := 0) C dX12_unreadable_176 rfl ?_
                                        refine x_iload (j := 3) C dX12_unreadable_178 rfl ?_
                                        refine x_icmp_ge (tgt := 206) C ⟨by omega, by omega⟩ ⟨by omega, by omega⟩ dX12_unreadable_180 (by decide) (fun c8 => ?_) (fun c8 => ?_)
                                        · refine x_aload_n (j := 5) C dX12_unreadable_206 rfl ?_
                                          refine x_iload_n (j := 6) C dX12_unreadable_207 rfl ?_
                                          refine hv2 (show 0 ≤ vb5 4 ∧ vb5 4 ≤ 30 from bxb5.1 4) (show vb5 4 = v 4 from fpb5.1 4 rfl) (fun rv5 ve3 => ?_)
                                          refine x_call (mc2 := 0) (ms2 := 0) (As := [.int (iI t)]) (rest := []) C (M_isUnreadable (t := t) bxb5 (hT.fr fpb5 rfl rfl) hRe (by show 0 ≤ t ∧ t < (vb5 4); omega)) (fun _ _ _ q => by first | exact q.2.1.2 70 rfl | (obtain ⟨_, _, q2, _⟩ := q; exact q2.2 70 rfl)) dX12_unreadable_208 kV_X12_425 rfl ck_13 rfl (Nat.le_of_ble_eq_true rfl) ⟨Nat.le_of_ble_eq_true rfl, Nat.le_of_ble_eq_true rfl⟩ ⟨Nat.le_of_ble_eq_true rfl, Nat.le_of_ble_eq_true rfl⟩ (fun rh10 vh10 ah10 h10 => ?_)
                                          obtain ⟨f8, rfl, fn8, bn8, ex8⟩ := h10
                                          refine hv4 (fpb5.call fn8 rfl rfl) (show RWS ah10 from RWS.fr hRe fn8 rfl) (show ATS vh10 ah10 from ATS.fr hAe fn8 rfl rfl) (show f8 = 0 ∨ f8 = 1 from ex8) (fun fq10 pw14 pw15 gf8 => ?_)
                                          refine x_st (st2 := [.int (iI f8)]) rfl ?_
                                          refine x_if_eq (tgt := 257) C (r32_01 gf8) dX12_unreadable_211 (by decide) (fun c9 => ?_) (fun c9 => ?_)
                                          · clear gf8
                                            refine x_iload (j := 3) C dX12_unreadable_257 rfl ?_
                                            refine x_iconst C dX12_unreadable_259 ?_
                                            refine x_isub C dX12_unreadable_260 ?_
                                            refine x_istore (lv2 := [(8, .int (iI (m2 - 1))), (4, .int (iI (tr2 + 1))), (7, .int (iI g)), (6, .int (iI m2)), (5, .ref bb), (0, .ref h0), (1, .int (iI t)), (2, .int (iI n1)), (3, .int (iI m1))]) C dX12_unreadable_261 (by decide) rfl ?_
                                            have Lp6 : ∀ (nn : Nat) (k4 : Int) (vb6 : Nat → Int) (ab6 : Nat → Nat → Int), k4 + 1 < (nn : Int) → BX vb6 ab6 → fr [0, 1, 23, 25, 28, 50, 52, 53, 55, 66] [20, 24, 26, 27, 44, 45, 46, 47, 48, 49, 51, 54, 65, 70] v a vb6 ab6 → (-1 ≤ k4 ∧ k4 ≤ m2 - 1) → (RWS ab6) → (ATS vb6 ab6) → (0 < vb6 66) → mx p l e (rmq 67 2 262) s m args below meth c G A 9 (MQ below (Qm G A (fun rq Lq Eq => ∃ (vq : Nat → Int) (aq : Nat → Nat → Int), mI G h0 ad ln vq aq Lq Eq ∧ (fun r v2 a2 => ∃ f : Int, r = some (.int (iI f)) ∧ fr [0, 1, 23, 25, 28, 50, 52, 53, 55, 66] [20, 24, 26, 27, 44, 45, 46, 47, 48, 49, 51, 54, 65, 70] v a v2 a2 ∧ BX v2 a2 ∧ (RWS a2)) rq vq aq)) args s 2 262 A) bb 6 false h0 ad ln vb6 ab6 ((0 + 1) + 1) ((0 + 256) + 6) 263 [(8, .int (iI k4)), (4, .int (iI (tr2 + 1))), (7, .int (iI g)), (6, .int (iI m2)), (5, .ref bb), (0, .ref h0), (1, .int (iI t)), (2, .int (iI n1)), (3, .int (iI m1))] [] := by
                                              intro nn
                                              induction nn with
                                              | zero =>
                                                intro k4 vb6 ab6 hm bxb6 fpb6 hk4 hRf hAf h66f
                                                exact absurd hm (by omega)
                                              | succ nn ih6 =>
                                                intro k4 vb6 ab6 hm bxb6 fpb6 hk4 hRf hAf h66f
                                                refine x_iload (j := 0) C dX12_unreadable_263 rfl ?_
                                                refine x_if_lt (tgt := 294) C ⟨by omega, by omega⟩ dX12_unreadable_265 (by decide) (fun c10 => ?_) (fun c10 => ?_)
                                                · refine x_iload (j := 0) C dX12_unreadable_294 rfl ?_
                                                  refine x_if_lt (tgt := 303) C ⟨by omega, by omega⟩ dX12_unreadable_296 (by decide) (fun _ => ?_) (fun z => absurd z (by omega))
                                                  refine x_iconst C dX12_unreadable_303 ?_
                                                  refine x_istore (lv2 := [(7, .int (iI 0)), (8, .int (iI k4)), (4, .int (iI (tr2 + 1))), (6, .int (iI m2)), (5, .ref bb), (0, .ref h0), (1, .int (iI t)), (2, .int (iI n1)), (3, .int (iI m1))]) C dX12_unreadable_304 (by decide) rfl ?_
                                                  refine x_iload (j := 0) C dX12_unreadable_306 rfl ?_
                                                  refine x_if_eq (tgt := 320) C ⟨by decide, by decide⟩ dX12_unreadable_308 (by decide) (fun _ => ?_) (fun z => absurd z (by omega))
                                                  refine x_goto (tgt := 142) C dX12_unreadable_320 (by decide) ?_
                                                  have rv6 : 0 ≤ vb6 66 ∧ vb6 66 ≤ 256 := bxb6.1 66
                                                  refine x_lv (lv2 := [(7, .int (iI 0)), (4, .int (iI (tr2 + 1))), (6, .int (iI m2)), (5, .ref bb), (0, .ref h0), (1, .int (iI t)), (2, .int (iI n1)), (3, .int (iI m1))]) [0, 2, 3, 4, 5, 6, 7, 8] rfl ?_
                                                  exact ih4  0 (tr2 + 1) _ _ (by omega) bxb6 fpb6 (by omega) (by omega) hRf hAf (by show 0 < (vb6 66); omega)
                                                · refine x_aload (j := 4) C dX12_unreadable_268 rfl ?_
                                                  refine x_iload (j := 0) C dX12_unreadable_270 rfl ?_
                                                  refine x_lald C dX12_unreadable_272 rfl (by omega) (by omega) (by decide) ?_
                                                  refine hv3 (show (-2147483648) ≤ ab6 70 k4.toNat ∧ ab6 70 k4.toNat ≤ 2147483647 from bxb6.2 70 (k4.toNat)) (show 0 ≤ vb6 66 ∧ vb6 66 ≤ 256 from bxb6.1 66) (show 0 ≤ ab6 70 k4.toNat ∧ (ab6 70 k4.toNat = 0 ∨ ab6 70 k4.toNat < vb6 66) from hAf (k4.toNat)) (fun ra1 rv7 at272 => ?_)
                                                  refine x_aload_n (j := 5) C dX12_unreadable_273 rfl ?_
                                                  refine x_get (k := 66) C dX12_unreadable_274 w6_125 (by decide) rfl ?_
                                                  refine x_iconst C dX12_unreadable_277 ?_
                                                  refine x_isub C dX12_unreadable_278 ?_
                                                  refine x_icmp_ne (tgt := 294) C (r32_c (lo := 0) (hi := 2147483647) at272.1 ra1.2 (by decide) (by decide)) ⟨by omega, by omega⟩ dX12_unreadable_279 (by decide) (fun c11 => ?_) (fun c11 => ?_)
                                                  · refine x_iload (j := 0) C dX12_unreadable_294 rfl ?_
                                                    refine x_if_lt (tgt := 303) C ⟨by omega, by omega⟩ dX12_unreadable_296 (by decide) (fun z => absurd z (by omega)) (fun _ => ?_)
                                                    refine x_iconst C dX12_unreadable_299 ?_
                                                    refine x_goto (tgt := 304) C dX12_unreadable_300 (by decide) ?_
                                                    refine x_istore (lv2 := [(7, .int (iI 1)), (8, .int (iI k4)), (4, .int (iI (tr2 + 1))), (6, .int (iI m2)), (5, .ref bb), (0, .ref h0), (1, .int (iI t)), (2, .int (iI n1)), (3, .int (iI m1))]) C dX12_unreadable_304 (by decide) rfl ?_
                                                    refine x_iload (j := 0) C dX12_unreadable_306 rfl ?_
                                                    refine x_if_eq (tgt := 320) C ⟨by decide, by decide⟩ dX12_unreadable_308 (by decide) (fun z => absurd z (by omega)) (fun _ => ?_)
                                                    refine x_aload (j := 4) C dX12_unreadable_311 rfl ?_
                                                    refine x_iload (j := 1) C dX12_unreadable_313 rfl ?_
                                                    refine x_dup2 C dX12_unreadable_315 rfl rfl ?_
                                                    refine x_lald C dX12_unreadable_316 rfl (by omega) (by omega) (by decide) ?_
                                                    have at316 : 0 ≤ ab6 70 k4.toNat ∧ (ab6 70 k4.toNat = 0 ∨ ab6 70 k4.toNat < vb6 66) := hAf (k4.toNat)
                                                    refine x_iconst C dX12_unreadable_317 ?_
                                                    refine x_iadd C dX12_unreadable_318 ?_
                                                    refine x_last (w := (ab6 70 k4.toNat) + 1) C dX12_unreadable_319 rfl (by omega) (by omega) (by decide) ?_
                                                    refine hv3 (show BX vb6 (up2 ab6 70 k4.toNat ((ab6 70 k4.toNat) + 1)) from bxb6.set (k := 70) (i := k4.toNat) (z := (ab6 70 k4.toNat) + 1) (show (-2147483648) ≤ ((ab6 70 k4.toNat) + 1) ∧ ((ab6 70 k4.toNat) + 1) ≤ 2147483647 by omega)) (fpb6.set (k := 70) (i := k4.toNat) (z := (ab6 70 k4.toNat) + 1) rfl) (show RWS (up2 ab6 70 k4.toNat ((ab6 70 k4.toNat) + 1)) from RWS.set hRf (k := 70) (i := k4.toNat) (z := (ab6 70 k4.toNat) + 1) rfl) (fun bq3 fq11 pw16 => ?_)
                                                    have pw17 : ATS vb6 (up2 ab6 70 k4.toNat ((ab6 70 k4.toNat) + 1)) := ATS.sto (i := k4.toNat) (z := (ab6 70 k4.toNat) + 1) hAf (by show 0 ≤ ((ab6 70 k4.toNat) + 1) ∧ (((ab6 70 k4.toNat) + 1) = 0 ∨ ((ab6 70 k4.toNat) + 1) < vb6 66); omega)
                                                    refine x_goto (tgt := 142) C dX12_unreadable_320 (by decide) ?_
                                                    refine x_lv (lv2 := [(7, .int (iI 1)), (4, .int (iI (tr2 + 1))), (6, .int (iI m2)), (5, .ref bb), (0, .ref h0), (1, .int (iI t)), (2, .int (iI n1)), (3, .int (iI m1))]) [0, 2, 3, 4, 5, 6, 7, 8] rfl ?_
                                                    exact ih4  1 (tr2 + 1) _ _ (by omega) bq3 fq11 (by omega) (by omega) pw16 pw17 (by show 0 < (vb6 66); omega)
                                                  · refine x_aload (j := 4) C dX12_unreadable_282 rfl ?_
                                                    refine x_iload (j := 0) C dX12_unreadable_284 rfl ?_
                                                    refine x_iconst C dX12_unreadable_286 ?_
                                                    refine x_last (w := 0) C dX12_unreadable_287 rfl (by omega) (by omega) (by decide) ?_
                                                    refine hv3 (show BX vb6 (up2 ab6 70 k4.toNat 0) from bxb6.set (k := 70) (i := k4.toNat) (z := 0) ⟨by decide, by decide⟩) (fpb6.set (k := 70) (i := k4.toNat) (z := 0) rfl) (show RWS (up2 ab6 70 k4.toNat 0) from RWS.set hRf (k := 70) (i := k4.toNat) (z := 0) rfl) (fun bq4 fq12 pw18 => ?_)
                                                    have pw19 : ATS vb6 (up2 ab6 70 k4.toNat 0) := ATS.sto (i := k4.toNat) (z := 0) hAf (by show 0 ≤ 0 ∧ (0 = 0 ∨ 0 < vb6 66); omega)
                                                    refine x_iinc (z := k4) (j := 0) (lv2 := [(8, .int (iI (k4 + (-1)))), (4, .int (iI (tr2 + 1))), (7, .int (iI g)), (6, .int (iI m2)), (5, .ref bb), (0, .ref h0), (1, .int (iI t)), (2, .int (iI n1)), (3, .int (iI m1))]) C dX12_unreadable_288 rfl (by decide) rfl ?_
                                                    refine x_goto (tgt := 263) C dX12_unreadable_291 (by decide) ?_
                                                    refine x_lv (lv2 := [(8, .int (iI (k4 + (-1)))), (4, .int (iI (tr2 + 1))), (7, .int (iI g)), (6, .int (iI m2)), (5, .ref bb), (0, .ref h0), (1, .int (iI t)), (2, .int (iI n1)), (3, .int (iI m1))]) [0, 1, 2, 3, 4, 5, 6, 7, 8] rfl ?_
                                                    exact ih6  (k4 + (-1)) _ _ (by omega) bq4 fq12 (by omega) pw18 pw19 (by show 0 < (vb6 66); omega)
                                            refine hv2 (show 0 ≤ vh10 66 ∧ vh10 66 ≤ 256 from bn8.1 66) (show vh10 66 = vb5 66 from fn8.1 66 rfl) (fun rv8 ve4 => ?_)
                                            refine x_lv (lv2 := [(8, .int (iI (m2 - 1))), (4, .int (iI (tr2 + 1))), (7, .int (iI g)), (6, .int (iI m2)), (5, .ref bb), (0, .ref h0), (1, .int (iI t)), (2, .int (iI n1)), (3, .int (iI m1))]) [0, 1, 2, 3, 4, 5, 6, 7, 8] rfl ?_
                                            exact Lp6 8 (m2 - 1) _ _ (by omega) bn8 fq10 (by omega) pw14 pw15 (by show 0 < (vh10 66); omega)
                                          · replace gf8 := (gf8.resolve_left c9)
                                            refine x_aload_n (j := 5) C dX12_unreadable_214 rfl ?_
                                            refine x_iload (j := 3) C dX12_unreadable_215 rfl ?_
                                            refine x_put (k := 52) (z := m2) C dX12_unreadable_217 w6_111 (by decide) rfl rfl rfl ?_
                                            refine hv3 (show BX (va_up vh10 52 m2) ah10 from bn8.put (k := 52) (z := m2) (show 0 ≤ m2 ∧ m2 ≤ 4000 by omega)) (fq10.put (k := 52) (z := m2) rfl) (show ATS (va_up vh10 52 m2) ah10 from ATS.put pw15 (k := 52) (z := m2) (by decide)) (fun bq5 fq13 pw20 => ?_)
                                            refine x_iconst C dX12_unreadable_220 ?_
                                            refine x_istore (lv2 := [(8, .int (iI 0)), (4, .int (iI (tr2 + 1))), (7, .int (iI g)), (6, .int (iI m2)), (5, .ref bb), (0, .ref h0), (1, .int (iI t)), (2, .int (iI n1)), (3, .int (iI m1))]) C dX12_unreadable_221 (by decide) rfl ?_
                                            have Lp7 : ∀ (nn : Nat) (k3 : Int) (vb7 : Nat → Int) (ab7 : Nat → Nat → Int), 7 - k3 < (nn : Int) → BX vb7 ab7 → fr [0, 1, 23, 25, 28, 50, 52, 53, 55, 66] [20, 24, 26, 27, 44, 45, 46, 47, 48, 49, 51, 54, 65, 70] v a vb7 ab7 → (0 ≤ k3 ∧ k3 ≤ m2) → (RWS ab7) → mx p l e (rmq 67 2 262) s m args below meth c G A 9 (MQ below (Qm G A (fun rq Lq Eq => ∃ (vq : Nat → Int) (aq : Nat → Nat → Int), mI G h0 ad ln vq aq Lq Eq ∧ (fun r v2 a2 => ∃ f : Int, r = some (.int (iI f)) ∧ fr [0, 1, 23, 25, 28, 50, 52, 53, 55, 66] [20, 24, 26, 27, 44, 45, 46, 47, 48, 49, 51, 54, 65, 70] v a v2 a2 ∧ BX v2 a2 ∧ (RWS a2)) rq vq aq)) args s 2 262 A) bb 6 false h0 ad ln vb7 ab7 ((0 + 1) + 1) ((0 + 256) + 6) 223 [(8, .int (iI k3)), (4, .int (iI (tr2 + 1))), (7, .int (iI g)), (6, .int (iI m2)), (5, .ref bb), (0, .ref h0), (1, .int (iI t)), (2, .int (iI n1)), (3, .int (iI m1))] [] := by
                                              intro nn
                                              induction nn with
                                              | zero =>
                                                intro k3 vb7 ab7 hm bxb7 fpb7 hk3 hRg
                                                exact absurd hm (by omega)
                                              | succ nn ih7 =>
                                                intro k3 vb7 ab7 hm bxb7 fpb7 hk3 hRg
                                                refine x_iload (j := 0) C dX12_unreadable_223 rfl ?_
                                                refine x_iload (j := 3) C dX12_unreadable_225 rfl ?_
                                                refine x_icmp_ge (tgt := 250) C ⟨by omega, by omega⟩ ⟨by omega, by omega⟩ dX12_unreadable_227 (by decide) (fun c12 => ?_) (fun c12 => ?_)
                                                · refine x_aload_n (j := 5) C dX12_unreadable_250 rfl ?_
                                                  refine x_iload (j := 3) C dX12_unreadable_251 rfl ?_
                                                  refine x_call (mc2 := 0) (ms2 := 0) (As := [.int (iI m2)]) (rest := []) C (B_fine (x := m2) bxb7 (by show -2147483648 ≤ m2 ∧ m2 ≤ 2147483647; omega)) (fun _ _ _ q => by first | exact q.2.1.2 70 rfl | (obtain ⟨_, _, q2, _⟩ := q; exact q2.2 70 rfl)) dX12_unreadable_253 kV_X12_158 rfl ck_13 rfl (Nat.le_of_ble_eq_true rfl) ⟨Nat.le_of_ble_eq_true rfl, Nat.le_of_ble_eq_true rfl⟩ ⟨Nat.le_of_ble_eq_true rfl, Nat.le_of_ble_eq_true rfl⟩ (fun rh11 vh11 ah11 h11 => ?_)
                                                  obtain ⟨f9, rfl, fn9, bn9, ex9⟩ := h11
                                                  refine hv3 (fpb7.call fn9 rfl rfl) (show RWS ah11 from RWS.fr hRg fn9 rfl) (show f9 = m2 from ex9) (fun fq14 pw21 gf9 => ?_)
                                                  refine x_st (st2 := [.int (iI f9)]) rfl ?_
                                                  exact x_iret C dX12_unreadable_256 rfl (Nat.le_of_ble_eq_true rfl) (Nat.le_of_ble_eq_true rfl) ⟨f9, rfl, fq14, bn9, pw21⟩
                                                · refine x_aload_n (j := 5) C dX12_unreadable_230 rfl ?_
                                                  refine x_geta (k := 51) C dX12_unreadable_231 w6_110 (by decide) rfl ?_
                                                  refine x_iload (j := 0) C dX12_unreadable_234 rfl ?_
                                                  refine x_aload_n (j := 5) C dX12_unreadable_236 rfl ?_
                                                  refine x_geta (k := 20) C dX12_unreadable_237 w6_79 (by decide) rfl ?_
                                                  refine x_iload (j := 0) C dX12_unreadable_240 rfl ?_
                                                  refine x_ald (k := 20) C dX12_unreadable_242 rfl rfl (by decide) (by omega) (by show _ < ((_ : Nat) : Int); simp only [mlen]; omega) (by decide) ?_
                                                  have ra2 : (-2147483648) ≤ ab7 20 k3.toNat ∧ ab7 20 k3.toNat ≤ 2147483647 := bxb7.2 20 (k3.toNat)
                                                  refine x_ast (k := 51) C dX12_unreadable_243 rfl rfl (by decide) (by omega) (by show _ < ((_ : Nat) : Int); simp only [mlen]; omega) (by decide) ?_
                                                  refine hv3 (show BX vb7 (up2 ab7 51 k3.toNat (ab7 20 k3.toNat)) from bxb7.set (k := 51) (i := k3.toNat) (z := ab7 20 k3.toNat) (show (-2147483648) ≤ (ab7 20 k3.toNat) ∧ (ab7 20 k3.toNat) ≤ 2147483647 by omega)) (fpb7.set (k := 51) (i := k3.toNat) (z := ab7 20 k3.toNat) rfl) (show RWS (up2 ab7 51 k3.toNat (ab7 20 k3.toNat)) from RWS.set hRg (k := 51) (i := k3.toNat) (z := ab7 20 k3.toNat) rfl) (fun bq6 fq15 pw22 => ?_)
                                                  refine x_iinc (z := k3) (j := 0) (lv2 := [(8, .int (iI (k3 + 1))), (4, .int (iI (tr2 + 1))), (7, .int (iI g)), (6, .int (iI m2)), (5, .ref bb), (0, .ref h0), (1, .int (iI t)), (2, .int (iI n1)), (3, .int (iI m1))]) C dX12_unreadable_244 rfl (by decide) rfl ?_
                                                  refine x_goto (tgt := 223) C dX12_unreadable_247 (by decide) ?_
                                                  refine x_lv (lv2 := [(8, .int (iI (k3 + 1))), (4, .int (iI (tr2 + 1))), (7, .int (iI g)), (6, .int (iI m2)), (5, .ref bb), (0, .ref h0), (1, .int (iI t)), (2, .int (iI n1)), (3, .int (iI m1))]) [0, 1, 2, 3, 4, 5, 6, 7, 8] rfl ?_
                                                  exact ih7  (k3 + 1) _ _ (by omega) bq6 fq15 (by omega) pw22
                                            refine x_lv (lv2 := [(8, .int (iI 0)), (4, .int (iI (tr2 + 1))), (7, .int (iI g)), (6, .int (iI m2)), (5, .ref bb), (0, .ref h0), (1, .int (iI t)), (2, .int (iI n1)), (3, .int (iI m1))]) [0, 1, 2, 3, 4, 5, 6, 7, 8] rfl ?_
                                            exact Lp7 8 0 _ _ (by omega) bq5 fq13 (by omega) pw14
                                        · refine x_aload_n (j := 5) C dX12_unreadable_183 rfl ?_
                                          refine x_geta (k := 20) C dX12_unreadable_184 w6_79 (by decide) rfl ?_
                                          refine x_iload (j := 0) C dX12_unreadable_187 rfl ?_
                                          refine x_aload_n (j := 5) C dX12_unreadable_189 rfl ?_
                                          refine x_geta (k := 65) C dX12_unreadable_190 w6_124 (by decide) rfl ?_
                                          refine x_aload (j := 4) C dX12_unreadable_193 rfl ?_
                                          refine x_iload (j := 0) C dX12_unreadable_195 rfl ?_
                                          refine x_lald C dX12_unreadable_197 rfl (by omega) (by omega) (by decide) ?_
                                          refine hv3 (show (-2147483648) ≤ ab5 70 k2.toNat ∧ ab5 70 k2.toNat ≤ 2147483647 from bxb5.2 70 (k2.toNat)) (show 0 ≤ vb5 66 ∧ vb5 66 ≤ 256 from bxb5.1 66) (show 0 ≤ ab5 70 k2.toNat ∧ (ab5 70 k2.toNat = 0 ∨ ab5 70 k2.toNat < vb5 66) from hAe (k2.toNat)) (fun ra3 rv9 at197 => ?_)
                                          refine x_ald (k := 65) C dX12_unreadable_198 rfl rfl (by decide) (by omega) (by show _ < ((_ : Nat) : Int); simp only [mlen]; omega) (by decide) ?_
                                          have ra4 : 0 ≤ ab5 65 (ab5 70 k2.toNat).toNat ∧ ab5 65 (ab5 70 k2.toNat).toNat ≤ 255 := bxb5.2 65 ((ab5 70 k2.toNat).toNat)
                                          refine x_ast (k := 20) C dX12_unreadable_199 rfl rfl (by decide) (by omega) (by show _ < ((_ : Nat) : Int); simp only [mlen]; omega) (by decide) ?_
                                          refine hv4 (show BX vb5 (up2 ab5 20 k2.toNat (ab5 65 (ab5 70 k2.toNat).toNat)) from bxb5.set (k := 20) (i := k2.toNat) (z := ab5 65 (ab5 70 k2.toNat).toNat) (show (-2147483648) ≤ (ab5 65 (ab5 70 k2.toNat).toNat) ∧ (ab5 65 (ab5 70 k2.toNat).toNat) ≤ 2147483647 by omega)) (fpb5.set (k := 20) (i := k2.toNat) (z := ab5 65 (ab5 70 k2.toNat).toNat) rfl) (show RWS (up2 ab5 20 k2.toNat (ab5 65 (ab5 70 k2.toNat).toNat)) from RWS.set hRe (k := 20) (i := k2.toNat) (z := ab5 65 (ab5 70 k2.toNat).toNat) rfl) (show ATS vb5 (up2 ab5 20 k2.toNat (ab5 65 (ab5 70 k2.toNat).toNat)) from ATS.set hAe (k := 20) (i := k2.toNat) (z := ab5 65 (ab5 70 k2.toNat).toNat) (by decide)) (fun bq7 fq16 pw23 pw24 => ?_)
                                          refine x_iinc (z := k2) (j := 0) (lv2 := [(8, .int (iI (k2 + 1))), (4, .int (iI (tr2 + 1))), (7, .int (iI g)), (6, .int (iI m2)), (5, .ref bb), (0, .ref h0), (1, .int (iI t)), (2, .int (iI n1)), (3, .int (iI m1))]) C dX12_unreadable_200 rfl (by decide) rfl ?_
                                          refine x_goto (tgt := 176) C dX12_unreadable_203 (by decide) ?_
                                          refine x_lv (lv2 := [(8, .int (iI (k2 + 1))), (4, .int (iI (tr2 + 1))), (7, .int (iI g)), (6, .int (iI m2)), (5, .ref bb), (0, .ref h0), (1, .int (iI t)), (2, .int (iI n1)), (3, .int (iI m1))]) [0, 1, 2, 3, 4, 5, 6, 7, 8] rfl ?_
                                          exact ih5  (k2 + 1) _ _ (by omega) bq7 fq16 (by omega) pw23 pw24 (by show 0 < (vb5 66); omega)
                                    have rv10 : 0 ≤ vb4 66 ∧ vb4 66 ≤ 256 := bq2.1 66
                                    refine x_lv (lv2 := [(8, .int (iI 0)), (4, .int (iI (tr2 + 1))), (7, .int (iI g)), (6, .int (iI m2)), (5, .ref bb), (0, .ref h0), (1, .int (iI t)), (2, .int (iI n1)), (3, .int (iI m1))]) [0, 1, 2, 3, 4, 5, 6, 7, 8] rfl ?_
                                    exact Lp5 8 0 _ _ (by omega) bq2 fq9 (by omega) hRd pw13 (by show 0 < (vb4 66); omega)
                                  · refine x_aload_n (j := 4) C dX12_unreadable_153 rfl ?_
                                    refine x_call (mc2 := 0) (ms2 := 0) (As := []) (rest := []) C (B_putBack  bxb4 ) (fun _ _ _ q => by first | exact q.2.1.2 70 rfl | (obtain ⟨_, _, q2, _⟩ := q; exact q2.2 70 rfl)) dX12_unreadable_154 kV_X12_422 rfl ck_13 rfl (Nat.le_of_ble_eq_true rfl) ⟨Nat.le_of_ble_eq_true rfl, Nat.le_of_ble_eq_true rfl⟩ ⟨Nat.le_of_ble_eq_true rfl, Nat.le_of_ble_eq_true rfl⟩ (fun rh12 vh12 ah12 h12 => ?_)
                                    obtain ⟨rfl, fn10, bn10, ex10⟩ := h12
                                    refine hv3 (fpb4.call fn10 rfl rfl) (show RWS ah12 from RWS.fr hRd fn10 rfl) (show ATS vh12 ah12 from ATS.fr hAd fn10 rfl rfl) (fun fq17 pw25 pw26 => ?_)
                                    refine x_st (st2 := []) rfl ?_
                                    refine x_aload_n (j := 4) C dX12_unreadable_157 rfl ?_
                                    refine x_bipush (z := 8) C dX12_unreadable_158 (by decide) ?_
                                    refine x_call (mc2 := 0) (ms2 := 0) (As := [.int (iI 8)]) (rest := []) C (B_bad (x := 8) bn10 (by show -2147483648 ≤ (8 : Int) ∧ (8 : Int) ≤ 2147483647; omega)) (fun _ _ _ q => by first | exact q.2.1.2 70 rfl | (obtain ⟨_, _, q2, _⟩ := q; exact q2.2 70 rfl)) dX12_unreadable_160 kV_X12_154 rfl ck_13 rfl (Nat.le_of_ble_eq_true rfl) ⟨Nat.le_of_ble_eq_true rfl, Nat.le_of_ble_eq_true rfl⟩ ⟨Nat.le_of_ble_eq_true rfl, Nat.le_of_ble_eq_true rfl⟩ (fun rh13 vh13 ah13 h13 => ?_)
                                    obtain ⟨f11, rfl, fn11, bn11, ex11⟩ := h13
                                    refine hv4 (fq17.call fn11 rfl rfl) (show RWS ah13 from RWS.fr pw25 fn11 rfl) (show ATS vh13 ah13 from ATS.fr pw26 fn11 rfl rfl) (show f11 = -1 from ex11) (fun fq18 pw27 pw28 gf11 => ?_)
                                    refine x_st (st2 := [.int (iI f11)]) rfl ?_
                                    exact x_iret C dX12_unreadable_163 rfl (Nat.le_of_ble_eq_true rfl) (Nat.le_of_ble_eq_true rfl) ⟨f11, rfl, fq18, bn11, pw27⟩
                            have rv11 : 0 ≤ vb3 66 ∧ vb3 66 ≤ 256 := bxb3.1 66
                            refine x_lv (lv2 := [(7, .int (iI 1)), (4, .int (iI tr)), (6, .int (iI m2)), (5, .ref bb), (0, .ref h0), (1, .int (iI t)), (2, .int (iI n1)), (3, .int (iI m1))]) [0, 2, 1, 3, 4, 5, 6, 7] rfl ?_
                            exact Lp4 5002 1 tr _ _ (by omega) bxb3 fpb3 (by omega) (by omega) hRc hAc (by show 0 < (vb3 66); omega)
                          · refine x_aload (j := 3) C dX12_unreadable_127 rfl ?_
                            refine x_iload (j := 0) C dX12_unreadable_129 rfl ?_
                            refine x_iconst C dX12_unreadable_131 ?_
                            refine x_last (w := 0) C dX12_unreadable_132 rfl (by omega) (by omega) (by decide) ?_
                            refine hv3 (show BX vb3 (up2 ab3 70 k1.toNat 0) from bxb3.set (k := 70) (i := k1.toNat) (z := 0) ⟨by decide, by decide⟩) (fpb3.set (k := 70) (i := k1.toNat) (z := 0) rfl) (show RWS (up2 ab3 70 k1.toNat 0) from RWS.set hRc (k := 70) (i := k1.toNat) (z := 0) rfl) (fun bq8 fq19 pw29 => ?_)
                            have rv12 : 0 ≤ vb3 66 ∧ vb3 66 ≤ 256 := bq8.1 66
                            have pw30 : ATS vb3 (up2 ab3 70 k1.toNat 0) := ATS.sto (i := k1.toNat) (z := 0) hAc (by show 0 ≤ 0 ∧ (0 = 0 ∨ 0 < vb3 66); omega)
                            refine x_iinc (z := k1) (j := 0) (lv2 := [(7, .int (iI (k1 + 1))), (6, .int (iI m2)), (4, .int (iI tr)), (5, .ref bb), (0, .ref h0), (1, .int (iI t)), (2, .int (iI n1)), (3, .int (iI m1))]) C dX12_unreadable_133 rfl (by decide) rfl ?_
                            refine x_goto (tgt := 120) C dX12_unreadable_136 (by decide) ?_
                            refine x_lv (lv2 := [(7, .int (iI (k1 + 1))), (6, .int (iI m2)), (4, .int (iI tr)), (5, .ref bb), (0, .ref h0), (1, .int (iI t)), (2, .int (iI n1)), (3, .int (iI m1))]) [0, 1, 2, 3, 4, 5, 6, 7] rfl ?_
                            exact ih3  (k1 + 1) _ _ (by omega) bq8 fq19 (by omega) pw29 pw30 (by show 0 < (vb3 66); omega)
                      refine x_lv (lv2 := [(7, .int (iI 0)), (6, .int (iI m2)), (4, .int (iI tr)), (5, .ref bb), (0, .ref h0), (1, .int (iI t)), (2, .int (iI n1)), (3, .int (iI m1))]) [0, 1, 2, 3, 4, 5, 6, 7] rfl ?_
                      exact Lp3 8 0 _ _ (by omega) bxb2 fpb2 (by omega) hRb hAb (by show 0 < (vb2 66); omega)
              refine x_lv (lv2 := [(6, .int (iI 1)), (4, .int (iI 0)), (5, .ref bb), (0, .ref h0), (1, .int (iI t)), (2, .int (iI n1)), (3, .int (iI m1))]) [0, 2, 1, 3, 4, 5, 6] rfl ?_
              exact Lp2 9 0 1 _ _ (by omega) bnw1 fqw1 (by omega) (by omega) pw3 pw4
            · refine m_aload_n (j := 1) C dX12_unreadable_72 rfl ?_
              refine m_geta (k := 54) C dX12_unreadable_73 w6_113 (by decide) rfl ?_
              refine m_iload (j := 0) C dX12_unreadable_76 rfl ?_
              refine m_aload_n (j := 1) C dX12_unreadable_78 rfl ?_
              refine m_geta (k := 51) C dX12_unreadable_79 w6_110 (by decide) rfl ?_
              refine m_iload (j := 0) C dX12_unreadable_82 rfl ?_
              refine m_ald (k := 51) C dX12_unreadable_84 rfl rfl (by decide) (by omega) (by show _ < ((_ : Nat) : Int); simp only [mlen]; omega) (by decide) ?_
              have ra5 : (-2147483648) ≤ ab1 51 k.toNat ∧ ab1 51 k.toNat ≤ 2147483647 := bxb1.2 51 (k.toNat)
              refine m_ast (k := 54) C dX12_unreadable_85 rfl rfl (by decide) (by omega) (by show _ < ((_ : Nat) : Int); simp only [mlen]; omega) (by decide) ?_
              refine hv3 (show BX vb1 (up2 ab1 54 k.toNat (ab1 51 k.toNat)) from bxb1.set (k := 54) (i := k.toNat) (z := ab1 51 k.toNat) (show (-2147483648) ≤ (ab1 51 k.toNat) ∧ (ab1 51 k.toNat) ≤ 2147483647 by omega)) (fpb1.set (k := 54) (i := k.toNat) (z := ab1 51 k.toNat) rfl) (show RWS (up2 ab1 54 k.toNat (ab1 51 k.toNat)) from RWS.set hRa (k := 54) (i := k.toNat) (z := ab1 51 k.toNat) rfl) (fun bq9 fq20 pw31 => ?_)
              refine m_iinc (z := k) (j := 0) (lv2 := [(4, .int (iI (k + 1))), (0, .ref h0), (1, .int (iI t)), (2, .int (iI n1)), (3, .int (iI m1))]) C dX12_unreadable_86 rfl (by decide) rfl ?_
              refine m_goto (tgt := 63) C dX12_unreadable_89 (by decide) ?_
              refine m_lv (lv2 := [(4, .int (iI (k + 1))), (0, .ref h0), (1, .int (iI t)), (2, .int (iI n1)), (3, .int (iI m1))]) [0, 1, 2, 3, 4] rfl ?_
              exact ih1  (k + 1) _ _ (by omega) bq9 fq20 (by omega) pw31
        refine m_lv (lv2 := [(4, .int (iI 0)), (0, .ref h0), (1, .int (iI t)), (2, .int (iI n1)), (3, .int (iI m1))]) [0, 1, 2, 3, 4] rfl ?_
        exact Lp1 4002 0 _ _ (by omega) bq1 fq4 (by omega) pw2
      · clear gf1
        refine m_aload_n (j := 0) C dX12_unreadable_36 rfl ?_
        refine m_iconst C dX12_unreadable_37 ?_
        refine m_call (mc2 := 0) (ms2 := 0) (As := [.int (iI 3)]) (rest := []) C (B_bad (x := 3) hB (by show -2147483648 ≤ (3 : Int) ∧ (3 : Int) ≤ 2147483647; omega)) dX12_unreadable_38 kV_X12_154 rfl ck_13 rfl (Nat.le_of_ble_eq_true rfl) ⟨Nat.le_of_ble_eq_true rfl, Nat.le_of_ble_eq_true rfl⟩ ⟨Nat.le_of_ble_eq_true rfl, Nat.le_of_ble_eq_true rfl⟩ (fun rh14 vh14 ah14 h14 => ?_)
        obtain ⟨f12, rfl, fn12, bn12, ex12⟩ := h14
        refine hv3 (fp0.call fn12 rfl rfl) (show RWS ah14 from RWS.fr hW fn12 rfl) (show f12 = -1 from ex12) (fun fq21 pw32 gf12 => ?_)
        refine m_st (st2 := [.int (iI f12)]) rfl ?_
        exact m_iret C dX12_unreadable_41 rfl (Nat.le_of_ble_eq_true rfl) (Nat.le_of_ble_eq_true rfl) ⟨f12, rfl, fq21, bn12, pw32⟩
    · refine m_st (st2 := [.int (iI 0)]) (by rw [h2e]) ?_
      refine m_if_ne (tgt := 28) C ⟨by decide, by decide⟩ dX12_unreadable_18 (by decide) (fun z => absurd z (by omega)) (fun _ => ?_)
      refine m_aload_n (j := 0) C dX12_unreadable_21 rfl ?_
      refine m_bipush (z := 6) C dX12_unreadable_22 (by decide) ?_
      refine m_call (mc2 := 0) (ms2 := 0) (As := [.int (iI 6)]) (rest := []) C (B_bad (x := 6) hB (by show -2147483648 ≤ (6 : Int) ∧ (6 : Int) ≤ 2147483647; omega)) dX12_unreadable_24 kV_X12_154 rfl ck_13 rfl (Nat.le_of_ble_eq_true rfl) ⟨Nat.le_of_ble_eq_true rfl, Nat.le_of_ble_eq_true rfl⟩ ⟨Nat.le_of_ble_eq_true rfl, Nat.le_of_ble_eq_true rfl⟩ (fun rh15 vh15 ah15 h15 => ?_)
      obtain ⟨f13, rfl, fn13, bn13, ex13⟩ := h15
      refine hv3 (fp0.call fn13 rfl rfl) (show RWS ah15 from RWS.fr hW fn13 rfl) (show f13 = -1 from ex13) (fun fq22 pw33 gf13 => ?_)
      refine m_st (st2 := [.int (iI f13)]) rfl ?_
      exact m_iret C dX12_unreadable_27 rfl (Nat.le_of_ble_eq_true rfl) (Nat.le_of_ble_eq_true rfl) ⟨f13, rfl, fq22, bn13, pw33⟩
  · refine m_st (st2 := [.int (iI 0)]) (by rw [h1e]) ?_
    refine m_if_eq (tgt := 21) C ⟨by decide, by decide⟩ dX12_unreadable_7 (by decide) (fun _ => ?_) (fun z => absurd z (by omega))
    refine m_aload_n (j := 0) C dX12_unreadable_21 rfl ?_
    refine m_bipush (z := 6) C dX12_unreadable_22 (by decide) ?_
    refine m_call (mc2 := 0) (ms2 := 0) (As := [.int (iI 6)]) (rest := []) C (B_bad (x := 6) hB (by show -2147483648 ≤ (6 : Int) ∧ (6 : Int) ≤ 2147483647; omega)) dX12_unreadable_24 kV_X12_154 rfl ck_13 rfl (Nat.le_of_ble_eq_true rfl) ⟨Nat.le_of_ble_eq_true rfl, Nat.le_of_ble_eq_true rfl⟩ ⟨Nat.le_of_ble_eq_true rfl, Nat.le_of_ble_eq_true rfl⟩ (fun rh16 vh16 ah16 h16 => ?_)
    obtain ⟨f14, rfl, fn14, bn14, ex14⟩ := h16
    refine hv3 (fp0.call fn14 rfl rfl) (show RWS ah16 from RWS.fr hW fn14 rfl) (show f14 = -1 from ex14) (fun fq23 pw34 gf14 => ?_)
    refine m_st (st2 := [.int (iI f14)]) rfl ?_
    exact m_iret C dX12_unreadable_27 rfl (Nat.le_of_ble_eq_true rfl) (Nat.le_of_ble_eq_true rfl) ⟨f14, rfl, fq23, bn14, pw34⟩
end
section
def fdv (m : Int32) (d x : Int) : Int32 := if x = 0 then m &&& ((iI 1 <<< (iI d &&& 31)) ^^^ iI (-1)) else m ||| (iI 1 <<< (iI d &&& 31))
set_option maxHeartbeats 4000000 in
set_option maxRecDepth 100000 in
theorem N_failed {l : Launch} {G : GT} {h0 : Nat} {ad ln : Nat → Nat} {v : Nat → Int} {a : Nat → Nat → Int}  {x g : Int} (hB : BX v a) (hx : -2147483648 ≤ x ∧ x ≤ 2147483647) (hg : g = 0 ∨ g = 1) : Mm l G yX12_failed cX12_failed 3 (some .int) 1 [.int (iI x), .int (iI g)] h0 ad ln v a 0 0 (fun r v2 a2 => ∃ f : Int, r = some (.int (iI f)) ∧ fr [0, 1, 56] [] v a v2 a2 ∧ BX v2 a2 ∧ (((x < 0 ∨ 7 < x) ∧ f = -1 ∧ v2 56 = v 56) ∨ (0 ≤ x ∧ x ≤ 7 ∧ iI (v2 56) = fdv (iI (v 56)) x g ∧ iI f = bcn (iI (v2 56))))) := by
  refine Mm.mk (by decide) (Nat.le_of_ble_eq_true rfl) ?_
  intro p e s m args below meth c A C
  have fp0 : fr [0, 1, 56] [] v a v a := fr.refl
  refine m_iload_n (j := 1) C dX12_failed_0 rfl ?_
  refine m_iconst C dX12_failed_1 ?_
  refine m_bipush (z := 7) C dX12_failed_2 (by decide) ?_
  refine m_callS (As := [.int (iI x), .int (iI 0), .int (iI 7)]) (rest := []) C (fun L E => s_isIn (iI x) (iI 0) (iI 7)) dX12_failed_4 kS_X12_174 rfl rfl (Nat.le_of_ble_eq_true rfl) ⟨Nat.le_of_ble_eq_true rfl, Nat.le_of_ble_eq_true rfl⟩ ⟨Nat.le_of_ble_eq_true rfl, Nat.le_of_ble_eq_true rfl⟩ ?_
  rcases inn_c (x := x) (lo := 0) (hi := 7) ⟨by omega, by omega⟩ ⟨by decide, by decide⟩ ⟨by decide, by decide⟩ with ⟨h1a, h1b, h1e⟩ | ⟨h1a, h1e⟩
  · refine m_st (st2 := [.int (iI 1)]) (by rw [h1e]) ?_
    refine m_if_ne (tgt := 17) C ⟨by decide, by decide⟩ dX12_failed_7 (by decide) (fun _ => ?_) (fun z => absurd z (by omega))
    refine m_aload_n (j := 0) C dX12_failed_17 rfl ?_
    refine m_iload_n (j := 2) C dX12_failed_18 rfl ?_
    refine m_if_eq (tgt := 33) C ⟨by omega, by omega⟩ dX12_failed_19 (by decide) (fun c1 => ?_) (fun c1 => ?_)
    · refine m_aload_n (j := 0) C dX12_failed_33 rfl ?_
      have rv1 : (-2147483648) ≤ v 56 ∧ v 56 ≤ 2147483647 := hB.1 56
      refine m_get (k := 56) C dX12_failed_34 w6_115 (by decide) rfl ?_
      refine m_iconst C dX12_failed_37 ?_
      refine m_iload_n (j := 1) C dX12_failed_38 rfl ?_
      obtain ⟨zz1, hzz1, ezz1⟩ := iI_of (iI 1 <<< (iI x &&& 31))
      refine m_ishl (w := iI zz1) C dX12_failed_39 ezz1 ?_
      refine m_iconst C dX12_failed_40 ?_
      obtain ⟨zz2, hzz2, ezz2⟩ := iI_of (iI zz1 ^^^ iI (-1))
      refine m_ixor (w := iI zz2) C dX12_failed_41 ezz2 ?_
      obtain ⟨zz3, hzz3, ezz3⟩ := iI_of (iI (v 56) &&& iI zz2)
      refine m_iand (w := iI zz3) C dX12_failed_42 ezz3 ?_
      refine m_put (k := 56) (z := zz3) C dX12_failed_43 w6_115 (by decide) rfl rfl rfl ?_
      refine hv2 (show BX (va_up v 56 zz3) a from hB.put (k := 56) (z := zz3) (show (-2147483648) ≤ zz3 ∧ zz3 ≤ 2147483647 by omega)) (fp0.put (k := 56) (z := zz3) rfl) (fun bq1 fq1 => ?_)
      refine m_aload_n (j := 0) C dX12_failed_46 rfl ?_
      refine m_aload_n (j := 0) C dX12_failed_47 rfl ?_
      refine m_get (k := 56) C dX12_failed_48 w6_115 (by decide) rfl ?_
      refine m_st (st2 := [.int (iI zz3), .ref h0]) rfl ?_
      refine m_callS (As := [.int (iI zz3)]) (rest := [.ref h0]) C (fun L E => s_bitCount (iI zz3)) dX12_failed_51 kS_X12_309 rfl rfl (Nat.le_of_ble_eq_true rfl) ⟨Nat.le_of_ble_eq_true rfl, Nat.le_of_ble_eq_true rfl⟩ ⟨Nat.le_of_ble_eq_true rfl, Nat.le_of_ble_eq_true rfl⟩ ?_
      obtain ⟨zz4, hzz4, ezz4⟩ := iI_of (bcn (iI zz3))
      · refine m_st (st2 := [.int (iI zz4), .ref h0]) (by rw [ezz4]) ?_
        refine m_call (mc2 := 0) (ms2 := 0) (As := [.int (iI zz4)]) (rest := []) C (B_fine (x := zz4) bq1 (by show -2147483648 ≤ zz4 ∧ zz4 ≤ 2147483647; omega)) dX12_failed_54 kV_X12_158 rfl ck_13 rfl (Nat.le_of_ble_eq_true rfl) ⟨Nat.le_of_ble_eq_true rfl, Nat.le_of_ble_eq_true rfl⟩ ⟨Nat.le_of_ble_eq_true rfl, Nat.le_of_ble_eq_true rfl⟩ (fun rh3 vh3 ah3 h3 => ?_)
        obtain ⟨f1, rfl, fn1, bn1, ex1⟩ := h3
        refine hv2 (fq1.call fn1 rfl rfl) (show f1 = zz4 from ex1) (fun fq2 gf1 => ?_)
        refine m_st (st2 := [.int (iI f1)]) rfl ?_
        refine hv2 (show (-2147483648) ≤ vh3 56 ∧ vh3 56 ≤ 2147483647 from bn1.1 56) (show vh3 56 = zz3 from fn1.1 56 rfl) (fun rv2 ve1 => ?_)
        exact m_iret C dX12_failed_57 rfl (Nat.le_of_ble_eq_true rfl) (Nat.le_of_ble_eq_true rfl) ⟨f1, rfl, fq2, bn1, (Or.inr ⟨by omega, by omega, by rw [show vh3 56 = zz3 by omega]; unfold fdv; rw [if_pos (show g = 0 by omega), ← ezz3, ← ezz2, ← ezz1], by rw [show f1 = zz4 by omega, ← ezz4]; exact congrArg (fun q => bcn (iI q)) (by omega)⟩)⟩
    · refine m_aload_n (j := 0) C dX12_failed_22 rfl ?_
      have rv3 : (-2147483648) ≤ v 56 ∧ v 56 ≤ 2147483647 := hB.1 56
      refine m_get (k := 56) C dX12_failed_23 w6_115 (by decide) rfl ?_
      refine m_iconst C dX12_failed_26 ?_
      refine m_iload_n (j := 1) C dX12_failed_27 rfl ?_
      obtain ⟨zz5, hzz5, ezz5⟩ := iI_of (iI 1 <<< (iI x &&& 31))
      refine m_ishl (w := iI zz5) C dX12_failed_28 ezz5 ?_
      obtain ⟨zz6, hzz6, ezz6⟩ := iI_of (iI (v 56) ||| iI zz5)
      refine m_ior (w := iI zz6) C dX12_failed_29 ezz6 ?_
      refine m_goto (tgt := 43) C dX12_failed_30 (by decide) ?_
      refine m_put (k := 56) (z := zz6) C dX12_failed_43 w6_115 (by decide) rfl rfl rfl ?_
      refine hv2 (show BX (va_up v 56 zz6) a from hB.put (k := 56) (z := zz6) (show (-2147483648) ≤ zz6 ∧ zz6 ≤ 2147483647 by omega)) (fp0.put (k := 56) (z := zz6) rfl) (fun bq2 fq3 => ?_)
      refine m_aload_n (j := 0) C dX12_failed_46 rfl ?_
      refine m_aload_n (j := 0) C dX12_failed_47 rfl ?_
      refine m_get (k := 56) C dX12_failed_48 w6_115 (by decide) rfl ?_
      refine m_st (st2 := [.int (iI zz6), .ref h0]) rfl ?_
      refine m_callS (As := [.int (iI zz6)]) (rest := [.ref h0]) C (fun L E => s_bitCount (iI zz6)) dX12_failed_51 kS_X12_309 rfl rfl (Nat.le_of_ble_eq_true rfl) ⟨Nat.le_of_ble_eq_true rfl, Nat.le_of_ble_eq_true rfl⟩ ⟨Nat.le_of_ble_eq_true rfl, Nat.le_of_ble_eq_true rfl⟩ ?_
      obtain ⟨zz7, hzz7, ezz7⟩ := iI_of (bcn (iI zz6))
      · refine m_st (st2 := [.int (iI zz7), .ref h0]) (by rw [ezz7]) ?_
        refine m_call (mc2 := 0) (ms2 := 0) (As := [.int (iI zz7)]) (rest := []) C (B_fine (x := zz7) bq2 (by show -2147483648 ≤ zz7 ∧ zz7 ≤ 2147483647; omega)) dX12_failed_54 kV_X12_158 rfl ck_13 rfl (Nat.le_of_ble_eq_true rfl) ⟨Nat.le_of_ble_eq_true rfl, Nat.le_of_ble_eq_true rfl⟩ ⟨Nat.le_of_ble_eq_true rfl, Nat.le_of_ble_eq_true rfl⟩ (fun rh5 vh5 ah5 h5 => ?_)
        obtain ⟨f2, rfl, fn2, bn2, ex2⟩ := h5
        refine hv2 (fq3.call fn2 rfl rfl) (show f2 = zz7 from ex2) (fun fq4 gf2 => ?_)
        refine m_st (st2 := [.int (iI f2)]) rfl ?_
        refine hv2 (show (-2147483648) ≤ vh5 56 ∧ vh5 56 ≤ 2147483647 from bn2.1 56) (show vh5 56 = zz6 from fn2.1 56 rfl) (fun rv4 ve2 => ?_)
        exact m_iret C dX12_failed_57 rfl (Nat.le_of_ble_eq_true rfl) (Nat.le_of_ble_eq_true rfl) ⟨f2, rfl, fq4, bn2, (Or.inr ⟨by omega, by omega, by rw [show vh5 56 = zz6 by omega]; unfold fdv; rw [if_neg (show ¬ g = 0 by omega), ← ezz6, ← ezz5], by rw [show f2 = zz7 by omega, ← ezz7]; exact congrArg (fun q => bcn (iI q)) (by omega)⟩)⟩
  · refine m_st (st2 := [.int (iI 0)]) (by rw [h1e]) ?_
    refine m_if_ne (tgt := 17) C ⟨by decide, by decide⟩ dX12_failed_7 (by decide) (fun z => absurd z (by omega)) (fun _ => ?_)
    refine m_aload_n (j := 0) C dX12_failed_10 rfl ?_
    refine m_bipush (z := 6) C dX12_failed_11 (by decide) ?_
    refine m_call (mc2 := 0) (ms2 := 0) (As := [.int (iI 6)]) (rest := []) C (B_bad (x := 6) hB (by show -2147483648 ≤ (6 : Int) ∧ (6 : Int) ≤ 2147483647; omega)) dX12_failed_13 kV_X12_154 rfl ck_13 rfl (Nat.le_of_ble_eq_true rfl) ⟨Nat.le_of_ble_eq_true rfl, Nat.le_of_ble_eq_true rfl⟩ ⟨Nat.le_of_ble_eq_true rfl, Nat.le_of_ble_eq_true rfl⟩ (fun rh6 vh6 ah6 h6 => ?_)
    obtain ⟨f3, rfl, fn3, bn3, ex3⟩ := h6
    refine hv2 (fp0.call fn3 rfl rfl) (show f3 = -1 from ex3) (fun fq5 gf3 => ?_)
    refine m_st (st2 := [.int (iI f3)]) rfl ?_
    refine hv2 (show (-2147483648) ≤ vh6 56 ∧ vh6 56 ≤ 2147483647 from bn3.1 56) (show vh6 56 = v 56 from fn3.1 56 rfl) (fun rv5 ve3 => ?_)
    exact m_iret C dX12_failed_16 rfl (Nat.le_of_ble_eq_true rfl) (Nat.le_of_ble_eq_true rfl) ⟨f3, rfl, fq5, bn3, (Or.inl ⟨by omega, by omega, by omega⟩)⟩
end
section
def upc (r b : Nat → Int) : Nat → Int → Prop
  | 0, _ => True
  | n + 1, t => 0 ≤ t → r t.toNat = 1 ∧ upc r b n (b t.toNat)
def whl (v : Nat → Int) (a : Nat → Nat → Int) : Nat → Int → Prop
  | 0, _ => False
  | n + 1, t => (0 ≤ t ∧ t < v 4 ∧ a 5 t.toNat = 1) ∧ (a 6 t.toNat = 5 → whl v a n (a 8 t.toNat) ∧ whl v a n (a 9 t.toNat)) ∧ (1 ≤ a 6 t.toNat → a 6 t.toNat ≤ 3 → whl v a n (a 8 t.toNat))
def UPC (a : Nat → Nat → Int) (t : Int) : Prop := upc (a 5) (a 8) 31 t
def WHL (v : Nat → Int) (a : Nat → Nat → Int) (t : Int) : Prop := whl v a 31 t
def WHE (f : Int) (v : Nat → Int) (a : Nat → Nat → Int) (n : Nat) (t : Int) : Prop := f = 1 ↔ whl v a n t
section GATS
variable {v v2 : Nat → Int} {a a1 a2 a3 a4 : Nat → Nat → Int} {q x y z t b r d e w f f1 f2 k : Int} {n : Nat} {l : List Int}
theorem upc_s {r b : Nat → Int} (n : Nat) (t : Int) : upc r b (n + 1) t = (0 ≤ t → r t.toNat = 1 ∧ upc r b n (b t.toNat)) := rfl
theorem upc_fuel {r b : Nat → Int} {V : Int} (hb : ∀ t : Int, 0 ≤ t → t < V → b t.toNat < t) : ∀ (n m : Nat) (t : Int), t < V → t < (n : Int) → t < (m : Int) → (upc r b n t ↔ upc r b m t) := by
  intro n
  induction n with
  | zero =>
    intro m t h1 h2 h3
    cases m with
    | zero => exact Iff.rfl
    | succ m => rw [upc_s]; exact ⟨fun _ h => absurd h (by omega), fun _ => trivial⟩
  | succ n ih =>
    intro m t h1 h2 h3
    cases m with
    | zero => rw [upc_s]; exact ⟨fun _ => trivial, fun _ h => absurd h (by omega)⟩
    | succ m =>
      rw [upc_s, upc_s]
      refine ⟨fun h h0 => ?_, fun h h0 => ?_⟩
      · have h4 := hb t h0 h1
        exact ⟨(h h0).1, (ih m (b t.toNat) (by omega) (by omega) (by omega)).mp (h h0).2⟩
      · have h4 := hb t h0 h1
        exact ⟨(h h0).1, (ih m (b t.toNat) (by omega) (by omega) (by omega)).mpr (h h0).2⟩
theorem TBL.b8 (h : TBL v a) : ∀ t : Int, 0 ≤ t → t < v 4 → a 8 t.toNat < t := fun t h1 h2 => by
  have := h.1 t h1 h2
  omega
theorem UPC.s (h : TBL v a) (h30 : v 4 ≤ 30) (h0 : 0 ≤ t) (h4 : t < v 4) : UPC a t ↔ (a 5 t.toNat = 1 ∧ UPC a (a 8 t.toNat)) := by
  have h8 := h.b8 t h0 h4
  have e := upc_fuel (r := a 5) h.b8 30 31 (a 8 t.toNat) (by omega) (by omega) (by omega)
  show upc (a 5) (a 8) (30 + 1) t ↔ (a 5 t.toNat = 1 ∧ upc (a 5) (a 8) 31 (a 8 t.toNat))
  rw [← e, upc_s]
  exact ⟨fun h => h h0, fun h _ => h⟩
theorem UPC.neg0 (h0 : t < 0) : UPC a t := fun h => absurd h (by omega)
theorem whl_up (h : TBL v a) (h30 : v 4 ≤ 30) : ∀ (n : Nat) (t : Int), 0 ≤ t → t < v 4 → t < (n : Int) → a 6 t.toNat ≤ 4 → (whl v a n t ↔ UPC a t) := by
  intro n
  induction n with
  | zero => intro t h0 h4 hn; omega
  | succ n ih =>
    intro t h0 h4 hn h6
    have ht := h.1 t h0 h4
    rw [UPC.s h h30 h0 h4]
    show ((0 ≤ t ∧ t < v 4 ∧ a 5 t.toNat = 1) ∧ (a 6 t.toNat = 5 → whl v a n (a 8 t.toNat) ∧ whl v a n (a 9 t.toNat)) ∧ (1 ≤ a 6 t.toNat → a 6 t.toNat ≤ 3 → whl v a n (a 8 t.toNat))) ↔ _
    rcases ht with ⟨k1, k2⟩ | ⟨k1, k2, k3, k4, k5⟩ | ⟨k1, k2⟩
    · refine ⟨fun g => ⟨g.1.2.2, UPC.neg0 (by omega)⟩, fun g => ⟨⟨h0, h4, g.1⟩, fun e => absurd e (by omega), fun e1 e2 => absurd e1 (by omega)⟩⟩
    · have g1 := ih (a 8 t.toNat) k3 (by omega) (by omega) (by omega)
      exact ⟨fun g => ⟨g.1.2.2, g1.mp (g.2.2 k1 k2)⟩, fun g => ⟨⟨h0, h4, g.1⟩, fun e => absurd e (by omega), fun _ _ => g1.mpr g.2⟩⟩
    · exfalso; omega
theorem WHL.p (h : TBL v a) (h30 : v 4 ≤ 30) (h0 : 0 ≤ t) (h4 : t < v 4) (h6 : a 6 t.toNat ≠ 5) : WHL v a t ↔ UPC a t := by
  have ht := h.1 t h0 h4
  exact whl_up h h30 31 t h0 h4 (by omega) (by omega)
theorem WHL.j (h : TBL v a) (h30 : v 4 ≤ 30) (h0 : 0 ≤ t) (h4 : t < v 4) (h6 : a 6 t.toNat = 5) : WHL v a t ↔ (UPC a t ∧ UPC a (a 9 t.toNat)) := by
  have ht := h.1 t h0 h4
  rcases ht with ⟨k1, k2⟩ | ⟨k1, k2, k3, k4, k5⟩ | ⟨k1, k2, k3, k4, k5, k6, k7⟩
  · exfalso; omega
  · exfalso; omega
  · have g1 := whl_up h h30 30 (a 8 t.toNat) k2 (by omega) (by omega) (by omega)
    have g2 := whl_up h h30 30 (a 9 t.toNat) k5 (by omega) (by omega) (by omega)
    rw [UPC.s h h30 h0 h4]
    show ((0 ≤ t ∧ t < v 4 ∧ a 5 t.toNat = 1) ∧ (a 6 t.toNat = 5 → whl v a 30 (a 8 t.toNat) ∧ whl v a 30 (a 9 t.toNat)) ∧ (1 ≤ a 6 t.toNat → a 6 t.toNat ≤ 3 → whl v a 30 (a 8 t.toNat))) ↔ _
    exact ⟨fun g => ⟨⟨g.1.2.2, g1.mp (g.2.1 h6).1⟩, g2.mp (g.2.1 h6).2⟩, fun g => ⟨⟨h0, h4, g.1.1⟩, fun _ => ⟨g1.mpr g.1.2, g2.mpr g.2⟩, fun _ e => absurd e (by omega)⟩⟩
theorem WHL.tr (h : WHL v a t) : 0 ≤ t ∧ t < v 4 ∧ a 5 t.toNat = 1 := h.1
theorem WHE.no0 (h : ¬ (0 ≤ t ∧ t < v 4 ∧ a 5 t.toNat = 1)) : WHE 0 v a (n + 1) t := ⟨fun q => absurd q (by decide), fun q => absurd q.1 h⟩
theorem WHE.j11 (ht : 0 ≤ t ∧ t < v 4 ∧ a 5 t.toNat = 1) (h6 : a 6 t.toNat = 5) (h1 : WHE f1 v a n (a 8 t.toNat)) (h2 : WHE f2 v a n (a 9 t.toNat)) (e1 : f1 = 1) (e2 : f2 = 1) : WHE 1 v a (n + 1) t := ⟨fun _ => ⟨ht, fun _ => ⟨h1.mp e1, h2.mp e2⟩, fun _ q => absurd q (by omega)⟩, fun _ => rfl⟩
theorem WHE.j0 (h6 : a 6 t.toNat = 5) (h1 : WHE f1 v a n (a 8 t.toNat)) (e1 : f1 ≠ 1) : WHE 0 v a (n + 1) t := ⟨fun q => absurd q (by decide), fun q => absurd (h1.mpr (q.2.1 h6).1) e1⟩
theorem WHE.j10 (h6 : a 6 t.toNat = 5) (h2 : WHE f2 v a n (a 9 t.toNat)) (e2 : f2 ≠ 1) : WHE 0 v a (n + 1) t := ⟨fun q => absurd q (by decide), fun q => absurd (h2.mpr (q.2.1 h6).2) e2⟩
theorem WHE.p (ht : 0 ≤ t ∧ t < v 4 ∧ a 5 t.toNat = 1) (h6 : a 6 t.toNat < 1 ∨ a 6 t.toNat = 4) : WHE 1 v a (n + 1) t := ⟨fun _ => ⟨ht, fun q => absurd q (by omega), fun q1 q2 => absurd q1 (by omega)⟩, fun _ => rfl⟩
theorem WHE.b1 (ht : 0 ≤ t ∧ t < v 4 ∧ a 5 t.toNat = 1) (h6 : 1 ≤ a 6 t.toNat ∧ a 6 t.toNat ≤ 3) (h1 : WHE f1 v a n (a 8 t.toNat)) (e1 : f1 = 1) : WHE 1 v a (n + 1) t := ⟨fun _ => ⟨ht, fun q => absurd q (by omega), fun _ _ => h1.mp e1⟩, fun _ => rfl⟩
theorem WHE.b0 (h6 : 1 ≤ a 6 t.toNat ∧ a 6 t.toNat ≤ 3) (h1 : WHE f1 v a n (a 8 t.toNat)) (e1 : f1 ≠ 1) : WHE 0 v a (n + 1) t := ⟨fun q => absurd q (by decide), fun q => absurd (h1.mpr (q.2.2 h6.1 h6.2)) e1⟩
theorem gl_lt {r : Nat} (h : l[r]? = some d) : r < l.length := by
  by_cases e : r < l.length
  · exact e
  · rw [List.getElem?_eq_none (by omega)] at h; cases h
end GATS
def WholeE (l : Launch) (G : GT) (h0 : Nat) (ad ln : Nat → Nat) (d n : Nat) (t : Int) : Prop := ∀ (v : Nat → Int) (a : Nat → Nat → Int), BX v a → TBL v a → Mm l G yX12_isWhole cX12_isWhole 2 (some .boolean) d [.int (iI t)] h0 ad ln v a 0 0 (fun r v2 a2 => ∃ f : Int, r = some (.int (iI f)) ∧ fr [] [] v a v2 a2 ∧ BX v2 a2 ∧ ((f = 0 ∨ (f = 1 ∧ 0 ≤ t ∧ t < v 4)) ∧ WHE f v a n t))
set_option maxHeartbeats 4000000 in
set_option maxRecDepth 100000 in
theorem E_isWhole1 {l : Launch} {G : GT} {h0 : Nat} {ad ln : Nat → Nat} {v : Nat → Int} {a : Nat → Nat → Int} {d n : Nat} {t : Int} (hB : BX v a) (hT : TBL v a) (ht : -2147483648 ≤ t ∧ t ≤ 2147483647) (hd : 3 ≤ d) (hf : ∀ b : Int, 0 ≤ b → b < t → WholeE l G h0 ad ln d n b) : Mm l G yX12_isWhole cX12_isWhole 2 (some .boolean) (d + 1) [.int (iI t)] h0 ad ln v a 0 0 (fun r v2 a2 => ∃ f : Int, r = some (.int (iI f)) ∧ fr [] [] v a v2 a2 ∧ BX v2 a2 ∧ ((f = 0 ∨ (f = 1 ∧ 0 ≤ t ∧ t < v 4)) ∧ WHE f v a (n + 1) t)) := by
  refine Mm.mk (by decide) (Nat.le_of_ble_eq_true rfl) ?_
  intro p e s m args below meth c A C
  refine hv2 (show 0 ≤ v 4 ∧ v 4 ≤ 30 from hB.1 4) (show fr [] [] v a v a from fr.refl) (fun h30 fp0 => ?_)
  refine m_aload_n (j := 0) C dX12_isWhole_0 rfl ?_
  refine m_iload_n (j := 1) C dX12_isWhole_1 rfl ?_
  have rv1 : 0 ≤ v 4 ∧ v 4 ≤ 30 := hB.1 4
  refine m_call (mc2 := 0) (ms2 := 0) (As := [.int (iI t)]) (rest := []) C (B_isTable (t := t) hB (by show -2147483648 ≤ t ∧ t ≤ 2147483647; omega)) dX12_isWhole_2 kV_X12_167 rfl ck_13 rfl (Nat.le_of_ble_eq_true rfl) ⟨by dsimp only [rmq]; omega, by dsimp only [rmq]; omega⟩ ⟨Nat.le_of_ble_eq_true rfl, Nat.le_of_ble_eq_true rfl⟩ (fun rh1 vh1 ah1 h1 => ?_)
  obtain ⟨f1, rfl, fn1, bn1, ex1⟩ := h1
  obtain ⟨rfl, rfl⟩ := fn1.eq
  refine hv2 (show (f1 = 0 ∧ (t < 0 ∨ (v 4) ≤ t ∨ a 5 t.toNat = 0)) ∨ (f1 = 1 ∧ 0 ≤ t ∧ t < (v 4) ∧ a 5 t.toNat = 1) from ex1) (show 0 ≤ a 5 t.toNat ∧ a 5 t.toNat ≤ 1 from hB.2 5 (t.toNat)) (fun gf1 ra1 => ?_)
  refine m_st (st2 := [.int (iI f1)]) rfl ?_
  refine m_if_ne (tgt := 10) C (r32_pq gf1) dX12_isWhole_5 (by decide) (fun c1 => ?_) (fun c1 => ?_)
  · replace gf1 := (gf1.resolve_left (fun q => c1 q.1))
    have ht0 := hT.1 t (by omega) (by omega)
    refine m_aload_n (j := 0) C dX12_isWhole_10 rfl ?_
    refine m_geta (k := 6) C dX12_isWhole_11 w6_65 (by decide) rfl ?_
    refine m_iload_n (j := 1) C dX12_isWhole_14 rfl ?_
    refine m_ald (k := 6) C dX12_isWhole_15 rfl rfl (by decide) (by omega) (by show _ < ((_ : Nat) : Int); simp only [mlen]; omega) (by decide) ?_
    have ra2 : 0 ≤ a 6 t.toNat ∧ a 6 t.toNat ≤ 5 := hB.2 6 (t.toNat)
    refine m_iconst C dX12_isWhole_16 ?_
    refine m_icmp_ne (tgt := 52) C (r32_c (lo := 0) (hi := 5) ra2.1 ra2.2 (by decide) (by decide)) ⟨by decide, by decide⟩ dX12_isWhole_17 (by decide) (fun c2 => ?_) (fun c2 => ?_)
    · refine m_aload_n (j := 0) C dX12_isWhole_52 rfl ?_
      refine m_geta (k := 6) C dX12_isWhole_53 w6_65 (by decide) rfl ?_
      refine m_iload_n (j := 1) C dX12_isWhole_56 rfl ?_
      refine m_ald (k := 6) C dX12_isWhole_57 rfl rfl (by decide) (by omega) (by show _ < ((_ : Nat) : Int); simp only [mlen]; omega) (by decide) ?_
      refine m_iconst C dX12_isWhole_58 ?_
      refine m_icmp_lt (tgt := 85) C (r32_c (lo := 0) (hi := 5) ra2.1 ra2.2 (by decide) (by decide)) ⟨by decide, by decide⟩ dX12_isWhole_59 (by decide) (fun c3 => ?_) (fun c3 => ?_)
      · refine m_iconst C dX12_isWhole_85 ?_
        refine m_goto (tgt := 90) C dX12_isWhole_86 (by decide) ?_
        exact m_zret C dX12_isWhole_90 rfl (Or.inr rfl) (Nat.le_of_ble_eq_true rfl) (Nat.le_of_ble_eq_true rfl) ⟨1, rfl, fp0, hB, ⟨by omega, WHE.p (by omega) (by omega)⟩⟩
      · refine m_aload_n (j := 0) C dX12_isWhole_62 rfl ?_
        refine m_geta (k := 6) C dX12_isWhole_63 w6_65 (by decide) rfl ?_
        refine m_iload_n (j := 1) C dX12_isWhole_66 rfl ?_
        refine m_ald (k := 6) C dX12_isWhole_67 rfl rfl (by decide) (by omega) (by show _ < ((_ : Nat) : Int); simp only [mlen]; omega) (by decide) ?_
        refine m_iconst C dX12_isWhole_68 ?_
        refine m_icmp_gt (tgt := 85) C (r32_c (lo := 0) (hi := 5) ra2.1 ra2.2 (by decide) (by decide)) ⟨by decide, by decide⟩ dX12_isWhole_69 (by decide) (fun c4 => ?_) (fun c4 => ?_)
        · refine m_iconst C dX12_isWhole_85 ?_
          refine m_goto (tgt := 90) C dX12_isWhole_86 (by decide) ?_
          exact m_zret C dX12_isWhole_90 rfl (Or.inr rfl) (Nat.le_of_ble_eq_true rfl) (Nat.le_of_ble_eq_true rfl) ⟨1, rfl, fp0, hB, ⟨by omega, WHE.p (by omega) (by omega)⟩⟩
        · refine m_aload_n (j := 0) C dX12_isWhole_72 rfl ?_
          refine m_aload_n (j := 0) C dX12_isWhole_73 rfl ?_
          refine m_geta (k := 8) C dX12_isWhole_74 w6_67 (by decide) rfl ?_
          refine m_iload_n (j := 1) C dX12_isWhole_77 rfl ?_
          refine m_ald (k := 8) C dX12_isWhole_78 rfl rfl (by decide) (by omega) (by show _ < ((_ : Nat) : Int); simp only [mlen]; omega) (by decide) ?_
          have ra3 : (-1) ≤ a 8 t.toNat ∧ a 8 t.toNat ≤ 29 := hB.2 8 (t.toNat)
          refine m_call (mc2 := 0) (ms2 := 0) (As := [.int (iI (a 8 t.toNat))]) (rest := []) C (hf (a 8 t.toNat) (by omega) (by omega) _ _ hB hT) dX12_isWhole_79 kV_X12_171 rfl ck_13 rfl (Nat.le_of_ble_eq_true rfl) ⟨by dsimp only [rmq]; omega, by dsimp only [rmq]; omega⟩ ⟨Nat.le_of_ble_eq_true rfl, Nat.le_of_ble_eq_true rfl⟩ (fun rh2 vh2 ah2 h2 => ?_)
          obtain ⟨f2, rfl, fn2, _, ef2, we1⟩ := h2
          obtain ⟨rfl, rfl⟩ := fn2.eq
          refine m_st (st2 := [.int (iI f2)]) rfl ?_
          refine m_if_eq (tgt := 89) C ⟨by omega, by omega⟩ dX12_isWhole_82 (by decide) (fun c5 => ?_) (fun c5 => ?_)
          · refine m_iconst C dX12_isWhole_89 ?_
            exact m_zret C dX12_isWhole_90 rfl (Or.inl rfl) (Nat.le_of_ble_eq_true rfl) (Nat.le_of_ble_eq_true rfl) ⟨0, rfl, fp0, hB, ⟨by omega, WHE.b0 (by omega) we1 (by omega)⟩⟩
          · refine m_iconst C dX12_isWhole_85 ?_
            refine m_goto (tgt := 90) C dX12_isWhole_86 (by decide) ?_
            exact m_zret C dX12_isWhole_90 rfl (Or.inr rfl) (Nat.le_of_ble_eq_true rfl) (Nat.le_of_ble_eq_true rfl) ⟨1, rfl, fp0, hB, ⟨by omega, WHE.b1 (by omega) (by omega) we1 (by omega)⟩⟩
    · refine m_aload_n (j := 0) C dX12_isWhole_20 rfl ?_
      refine m_aload_n (j := 0) C dX12_isWhole_21 rfl ?_
      refine m_geta (k := 8) C dX12_isWhole_22 w6_67 (by decide) rfl ?_
      refine m_iload_n (j := 1) C dX12_isWhole_25 rfl ?_
      refine m_ald (k := 8) C dX12_isWhole_26 rfl rfl (by decide) (by omega) (by show _ < ((_ : Nat) : Int); simp only [mlen]; omega) (by decide) ?_
      have ra4 : (-1) ≤ a 8 t.toNat ∧ a 8 t.toNat ≤ 29 := hB.2 8 (t.toNat)
      refine m_call (mc2 := 0) (ms2 := 0) (As := [.int (iI (a 8 t.toNat))]) (rest := []) C (hf (a 8 t.toNat) (by omega) (by omega) _ _ hB hT) dX12_isWhole_27 kV_X12_171 rfl ck_13 rfl (Nat.le_of_ble_eq_true rfl) ⟨by dsimp only [rmq]; omega, by dsimp only [rmq]; omega⟩ ⟨Nat.le_of_ble_eq_true rfl, Nat.le_of_ble_eq_true rfl⟩ (fun rh3 vh3 ah3 h3 => ?_)
      obtain ⟨f3, rfl, fn3, _, ef3, we2⟩ := h3
      obtain ⟨rfl, rfl⟩ := fn3.eq
      refine m_st (st2 := [.int (iI f3)]) rfl ?_
      refine m_if_eq (tgt := 50) C ⟨by omega, by omega⟩ dX12_isWhole_30 (by decide) (fun c6 => ?_) (fun c6 => ?_)
      · refine m_iconst C dX12_isWhole_50 ?_
        exact m_zret C dX12_isWhole_51 rfl (Or.inl rfl) (Nat.le_of_ble_eq_true rfl) (Nat.le_of_ble_eq_true rfl) ⟨0, rfl, fp0, hB, ⟨by omega, WHE.j0 (by omega) we2 (by omega)⟩⟩
      · refine m_aload_n (j := 0) C dX12_isWhole_33 rfl ?_
        refine m_aload_n (j := 0) C dX12_isWhole_34 rfl ?_
        refine m_geta (k := 9) C dX12_isWhole_35 w6_68 (by decide) rfl ?_
        refine m_iload_n (j := 1) C dX12_isWhole_38 rfl ?_
        refine m_ald (k := 9) C dX12_isWhole_39 rfl rfl (by decide) (by omega) (by show _ < ((_ : Nat) : Int); simp only [mlen]; omega) (by decide) ?_
        have ra5 : (-1) ≤ a 9 t.toNat ∧ a 9 t.toNat ≤ 29 := hB.2 9 (t.toNat)
        refine m_call (mc2 := 0) (ms2 := 0) (As := [.int (iI (a 9 t.toNat))]) (rest := []) C (hf (a 9 t.toNat) (by omega) (by omega) _ _ hB hT) dX12_isWhole_40 kV_X12_171 rfl ck_13 rfl (Nat.le_of_ble_eq_true rfl) ⟨by dsimp only [rmq]; omega, by dsimp only [rmq]; omega⟩ ⟨Nat.le_of_ble_eq_true rfl, Nat.le_of_ble_eq_true rfl⟩ (fun rh4 vh4 ah4 h4 => ?_)
        obtain ⟨f4, rfl, fn4, _, ef4, we3⟩ := h4
        obtain ⟨rfl, rfl⟩ := fn4.eq
        refine m_st (st2 := [.int (iI f4)]) rfl ?_
        refine m_if_eq (tgt := 50) C ⟨by omega, by omega⟩ dX12_isWhole_43 (by decide) (fun c7 => ?_) (fun c7 => ?_)
        · refine m_iconst C dX12_isWhole_50 ?_
          exact m_zret C dX12_isWhole_51 rfl (Or.inl rfl) (Nat.le_of_ble_eq_true rfl) (Nat.le_of_ble_eq_true rfl) ⟨0, rfl, fp0, hB, ⟨by omega, WHE.j10 (by omega) we3 (by omega)⟩⟩
        · refine m_iconst C dX12_isWhole_46 ?_
          refine m_goto (tgt := 51) C dX12_isWhole_47 (by decide) ?_
          exact m_zret C dX12_isWhole_51 rfl (Or.inr rfl) (Nat.le_of_ble_eq_true rfl) (Nat.le_of_ble_eq_true rfl) ⟨1, rfl, fp0, hB, ⟨by omega, WHE.j11 (by omega) (by omega) we2 we3 (by omega) (by omega)⟩⟩
  · replace gf1 := (gf1.resolve_right (fun q => absurd (q.1.symm.trans c1) (by decide)))
    refine m_iconst C dX12_isWhole_8 ?_
    exact m_zret C dX12_isWhole_9 rfl (Or.inl rfl) (Nat.le_of_ble_eq_true rfl) (Nat.le_of_ble_eq_true rfl) ⟨0, rfl, fp0, hB, ⟨by omega, WHE.no0 (by omega)⟩⟩
theorem E_isWholeN {l : Launch} {G : GT} {h0 : Nat} {ad ln : Nat → Nat} : ∀ (n : Nat) (t : Int), 0 ≤ t → t < (n : Int) → n ≤ 30 → WholeE l G h0 ad ln (n + 3) n t := by
  intro n
  induction n with
  | zero => intro t h1 h2; omega
  | succ n ih =>
    intro t h1 h2 h3 v a hB hT
    exact E_isWhole1 (d := n + 3) (n := n) hB hT ⟨by omega, by omega⟩ (by omega) (fun b hb hb2 => ih b hb (by omega) (by omega))
set_option maxHeartbeats 4000000 in
set_option maxRecDepth 100000 in
theorem E_isWhole {l : Launch} {G : GT} {h0 : Nat} {ad ln : Nat → Nat} {v : Nat → Int} {a : Nat → Nat → Int}  {t : Int} (hB : BX v a) (hT : TBL v a) (ht : -2147483648 ≤ t ∧ t ≤ 2147483647) : Mm l G yX12_isWhole cX12_isWhole 2 (some .boolean) 34 [.int (iI t)] h0 ad ln v a 0 0 (fun r v2 a2 => ∃ f : Int, r = some (.int (iI f)) ∧ fr [] [] v a v2 a2 ∧ BX v2 a2 ∧ ((f = 0 ∨ (f = 1 ∧ 0 ≤ t ∧ t < v 4)) ∧ WHE f v a 31 t)) := by
  refine Mm.mk (by decide) (Nat.le_of_ble_eq_true rfl) ?_
  intro p e s m args below meth c A C
  refine hv2 (show 0 ≤ v 4 ∧ v 4 ≤ 30 from hB.1 4) (show fr [] [] v a v a from fr.refl) (fun h30 fp0 => ?_)
  refine m_aload_n (j := 0) C dX12_isWhole_0 rfl ?_
  refine m_iload_n (j := 1) C dX12_isWhole_1 rfl ?_
  have rv1 : 0 ≤ v 4 ∧ v 4 ≤ 30 := hB.1 4
  refine m_call (mc2 := 0) (ms2 := 0) (As := [.int (iI t)]) (rest := []) C (B_isTable (t := t) hB (by show -2147483648 ≤ t ∧ t ≤ 2147483647; omega)) dX12_isWhole_2 kV_X12_167 rfl ck_13 rfl (Nat.le_of_ble_eq_true rfl) ⟨Nat.le_of_ble_eq_true rfl, Nat.le_of_ble_eq_true rfl⟩ ⟨Nat.le_of_ble_eq_true rfl, Nat.le_of_ble_eq_true rfl⟩ (fun rh1 vh1 ah1 h1 => ?_)
  obtain ⟨f1, rfl, fn1, bn1, ex1⟩ := h1
  obtain ⟨rfl, rfl⟩ := fn1.eq
  refine hv2 (show (f1 = 0 ∧ (t < 0 ∨ (v 4) ≤ t ∨ a 5 t.toNat = 0)) ∨ (f1 = 1 ∧ 0 ≤ t ∧ t < (v 4) ∧ a 5 t.toNat = 1) from ex1) (show 0 ≤ a 5 t.toNat ∧ a 5 t.toNat ≤ 1 from hB.2 5 (t.toNat)) (fun gf1 ra1 => ?_)
  refine m_st (st2 := [.int (iI f1)]) rfl ?_
  refine m_if_ne (tgt := 10) C (r32_pq gf1) dX12_isWhole_5 (by decide) (fun c1 => ?_) (fun c1 => ?_)
  · replace gf1 := (gf1.resolve_left (fun q => c1 q.1))
    have ht0 := hT.1 t (by omega) (by omega)
    refine m_aload_n (j := 0) C dX12_isWhole_10 rfl ?_
    refine m_geta (k := 6) C dX12_isWhole_11 w6_65 (by decide) rfl ?_
    refine m_iload_n (j := 1) C dX12_isWhole_14 rfl ?_
    refine m_ald (k := 6) C dX12_isWhole_15 rfl rfl (by decide) (by omega) (by show _ < ((_ : Nat) : Int); simp only [mlen]; omega) (by decide) ?_
    have ra2 : 0 ≤ a 6 t.toNat ∧ a 6 t.toNat ≤ 5 := hB.2 6 (t.toNat)
    refine m_iconst C dX12_isWhole_16 ?_
    refine m_icmp_ne (tgt := 52) C (r32_c (lo := 0) (hi := 5) ra2.1 ra2.2 (by decide) (by decide)) ⟨by decide, by decide⟩ dX12_isWhole_17 (by decide) (fun c2 => ?_) (fun c2 => ?_)
    · refine m_aload_n (j := 0) C dX12_isWhole_52 rfl ?_
      refine m_geta (k := 6) C dX12_isWhole_53 w6_65 (by decide) rfl ?_
      refine m_iload_n (j := 1) C dX12_isWhole_56 rfl ?_
      refine m_ald (k := 6) C dX12_isWhole_57 rfl rfl (by decide) (by omega) (by show _ < ((_ : Nat) : Int); simp only [mlen]; omega) (by decide) ?_
      refine m_iconst C dX12_isWhole_58 ?_
      refine m_icmp_lt (tgt := 85) C (r32_c (lo := 0) (hi := 5) ra2.1 ra2.2 (by decide) (by decide)) ⟨by decide, by decide⟩ dX12_isWhole_59 (by decide) (fun c3 => ?_) (fun c3 => ?_)
      · refine m_iconst C dX12_isWhole_85 ?_
        refine m_goto (tgt := 90) C dX12_isWhole_86 (by decide) ?_
        exact m_zret C dX12_isWhole_90 rfl (Or.inr rfl) (Nat.le_of_ble_eq_true rfl) (Nat.le_of_ble_eq_true rfl) ⟨1, rfl, fp0, hB, ⟨by omega, WHE.p (by omega) (by omega)⟩⟩
      · refine m_aload_n (j := 0) C dX12_isWhole_62 rfl ?_
        refine m_geta (k := 6) C dX12_isWhole_63 w6_65 (by decide) rfl ?_
        refine m_iload_n (j := 1) C dX12_isWhole_66 rfl ?_
        refine m_ald (k := 6) C dX12_isWhole_67 rfl rfl (by decide) (by omega) (by show _ < ((_ : Nat) : Int); simp only [mlen]; omega) (by decide) ?_
        refine m_iconst C dX12_isWhole_68 ?_
        refine m_icmp_gt (tgt := 85) C (r32_c (lo := 0) (hi := 5) ra2.1 ra2.2 (by decide) (by decide)) ⟨by decide, by decide⟩ dX12_isWhole_69 (by decide) (fun c4 => ?_) (fun c4 => ?_)
        · refine m_iconst C dX12_isWhole_85 ?_
          refine m_goto (tgt := 90) C dX12_isWhole_86 (by decide) ?_
          exact m_zret C dX12_isWhole_90 rfl (Or.inr rfl) (Nat.le_of_ble_eq_true rfl) (Nat.le_of_ble_eq_true rfl) ⟨1, rfl, fp0, hB, ⟨by omega, WHE.p (by omega) (by omega)⟩⟩
        · refine m_aload_n (j := 0) C dX12_isWhole_72 rfl ?_
          refine m_aload_n (j := 0) C dX12_isWhole_73 rfl ?_
          refine m_geta (k := 8) C dX12_isWhole_74 w6_67 (by decide) rfl ?_
          refine m_iload_n (j := 1) C dX12_isWhole_77 rfl ?_
          refine m_ald (k := 8) C dX12_isWhole_78 rfl rfl (by decide) (by omega) (by show _ < ((_ : Nat) : Int); simp only [mlen]; omega) (by decide) ?_
          have ra3 : (-1) ≤ a 8 t.toNat ∧ a 8 t.toNat ≤ 29 := hB.2 8 (t.toNat)
          refine m_call (mc2 := 0) (ms2 := 0) (As := [.int (iI (a 8 t.toNat))]) (rest := []) C ((E_isWholeN 30 (a 8 t.toNat) (by omega) (by omega) (Nat.le_refl _)) _ _ hB hT) dX12_isWhole_79 kV_X12_171 rfl ck_13 rfl (Nat.le_of_ble_eq_true rfl) ⟨Nat.le_of_ble_eq_true rfl, Nat.le_of_ble_eq_true rfl⟩ ⟨Nat.le_of_ble_eq_true rfl, Nat.le_of_ble_eq_true rfl⟩ (fun rh2 vh2 ah2 h2 => ?_)
          obtain ⟨f2, rfl, fn2, _, ef2, we1⟩ := h2
          obtain ⟨rfl, rfl⟩ := fn2.eq
          refine m_st (st2 := [.int (iI f2)]) rfl ?_
          refine m_if_eq (tgt := 89) C ⟨by omega, by omega⟩ dX12_isWhole_82 (by decide) (fun c5 => ?_) (fun c5 => ?_)
          · refine m_iconst C dX12_isWhole_89 ?_
            exact m_zret C dX12_isWhole_90 rfl (Or.inl rfl) (Nat.le_of_ble_eq_true rfl) (Nat.le_of_ble_eq_true rfl) ⟨0, rfl, fp0, hB, ⟨by omega, WHE.b0 (by omega) we1 (by omega)⟩⟩
          · refine m_iconst C dX12_isWhole_85 ?_
            refine m_goto (tgt := 90) C dX12_isWhole_86 (by decide) ?_
            exact m_zret C dX12_isWhole_90 rfl (Or.inr rfl) (Nat.le_of_ble_eq_true rfl) (Nat.le_of_ble_eq_true rfl) ⟨1, rfl, fp0, hB, ⟨by omega, WHE.b1 (by omega) (by omega) we1 (by omega)⟩⟩
    · refine m_aload_n (j := 0) C dX12_isWhole_20 rfl ?_
      refine m_aload_n (j := 0) C dX12_isWhole_21 rfl ?_
      refine m_geta (k := 8) C dX12_isWhole_22 w6_67 (by decide) rfl ?_
      refine m_iload_n (j := 1) C dX12_isWhole_25 rfl ?_
      refine m_ald (k := 8) C dX12_isWhole_26 rfl rfl (by decide) (by omega) (by show _ < ((_ : Nat) : Int); simp only [mlen]; omega) (by decide) ?_
      have ra4 : (-1) ≤ a 8 t.toNat ∧ a 8 t.toNat ≤ 29 := hB.2 8 (t.toNat)
      refine m_call (mc2 := 0) (ms2 := 0) (As := [.int (iI (a 8 t.toNat))]) (rest := []) C ((E_isWholeN 30 (a 8 t.toNat) (by omega) (by omega) (Nat.le_refl _)) _ _ hB hT) dX12_isWhole_27 kV_X12_171 rfl ck_13 rfl (Nat.le_of_ble_eq_true rfl) ⟨Nat.le_of_ble_eq_true rfl, Nat.le_of_ble_eq_true rfl⟩ ⟨Nat.le_of_ble_eq_true rfl, Nat.le_of_ble_eq_true rfl⟩ (fun rh3 vh3 ah3 h3 => ?_)
      obtain ⟨f3, rfl, fn3, _, ef3, we2⟩ := h3
      obtain ⟨rfl, rfl⟩ := fn3.eq
      refine m_st (st2 := [.int (iI f3)]) rfl ?_
      refine m_if_eq (tgt := 50) C ⟨by omega, by omega⟩ dX12_isWhole_30 (by decide) (fun c6 => ?_) (fun c6 => ?_)
      · refine m_iconst C dX12_isWhole_50 ?_
        exact m_zret C dX12_isWhole_51 rfl (Or.inl rfl) (Nat.le_of_ble_eq_true rfl) (Nat.le_of_ble_eq_true rfl) ⟨0, rfl, fp0, hB, ⟨by omega, WHE.j0 (by omega) we2 (by omega)⟩⟩
      · refine m_aload_n (j := 0) C dX12_isWhole_33 rfl ?_
        refine m_aload_n (j := 0) C dX12_isWhole_34 rfl ?_
        refine m_geta (k := 9) C dX12_isWhole_35 w6_68 (by decide) rfl ?_
        refine m_iload_n (j := 1) C dX12_isWhole_38 rfl ?_
        refine m_ald (k := 9) C dX12_isWhole_39 rfl rfl (by decide) (by omega) (by show _ < ((_ : Nat) : Int); simp only [mlen]; omega) (by decide) ?_
        have ra5 : (-1) ≤ a 9 t.toNat ∧ a 9 t.toNat ≤ 29 := hB.2 9 (t.toNat)
        refine m_call (mc2 := 0) (ms2 := 0) (As := [.int (iI (a 9 t.toNat))]) (rest := []) C ((E_isWholeN 30 (a 9 t.toNat) (by omega) (by omega) (Nat.le_refl _)) _ _ hB hT) dX12_isWhole_40 kV_X12_171 rfl ck_13 rfl (Nat.le_of_ble_eq_true rfl) ⟨Nat.le_of_ble_eq_true rfl, Nat.le_of_ble_eq_true rfl⟩ ⟨Nat.le_of_ble_eq_true rfl, Nat.le_of_ble_eq_true rfl⟩ (fun rh4 vh4 ah4 h4 => ?_)
        obtain ⟨f4, rfl, fn4, _, ef4, we3⟩ := h4
        obtain ⟨rfl, rfl⟩ := fn4.eq
        refine m_st (st2 := [.int (iI f4)]) rfl ?_
        refine m_if_eq (tgt := 50) C ⟨by omega, by omega⟩ dX12_isWhole_43 (by decide) (fun c7 => ?_) (fun c7 => ?_)
        · refine m_iconst C dX12_isWhole_50 ?_
          exact m_zret C dX12_isWhole_51 rfl (Or.inl rfl) (Nat.le_of_ble_eq_true rfl) (Nat.le_of_ble_eq_true rfl) ⟨0, rfl, fp0, hB, ⟨by omega, WHE.j10 (by omega) we3 (by omega)⟩⟩
        · refine m_iconst C dX12_isWhole_46 ?_
          refine m_goto (tgt := 51) C dX12_isWhole_47 (by decide) ?_
          exact m_zret C dX12_isWhole_51 rfl (Or.inr rfl) (Nat.le_of_ble_eq_true rfl) (Nat.le_of_ble_eq_true rfl) ⟨1, rfl, fp0, hB, ⟨by omega, WHE.j11 (by omega) (by omega) we2 we3 (by omega) (by omega)⟩⟩
  · replace gf1 := (gf1.resolve_right (fun q => absurd (q.1.symm.trans c1) (by decide)))
    refine m_iconst C dX12_isWhole_8 ?_
    exact m_zret C dX12_isWhole_9 rfl (Or.inl rfl) (Nat.le_of_ble_eq_true rfl) (Nat.le_of_ble_eq_true rfl) ⟨0, rfl, fp0, hB, ⟨by omega, WHE.no0 (by omega)⟩⟩
end
section
section JUDS
variable {v v2 : Nat → Int} {a a1 a2 : Nat → Nat → Int} {q x y z t b d e f f1 f2 g k h : Int} {n : Nat} {l : List Int}
end JUDS
set_option maxHeartbeats 4000000 in
set_option maxRecDepth 100000 in
theorem N_measure {l : Launch} {G : GT} {h0 : Nat} {ad ln : Nat → Nat} {v : Nat → Int} {a : Nat → Nat → Int}  {w1 h1 y1 : Int} (hB : BX v a) (hw1 : -2147483648 ≤ w1 ∧ w1 ≤ 2147483647) (hh1 : -2147483648 ≤ h1 ∧ h1 ≤ 2147483647) (hy1 : -2147483648 ≤ y1 ∧ y1 ≤ 2147483647) : Mm l G yX12_measure cX12_measure 4 (some .int) 1 [.int (iI w1), .int (iI h1), .int (iI y1)] h0 ad ln v a 0 0 (fun r v2 a2 => ∃ f : Int, r = some (.int (iI f)) ∧ fr [0, 1, 31, 32, 33] [] v a v2 a2 ∧ BX v2 a2 ∧ (((f = 1 ∧ 1 ≤ w1 ∧ w1 ≤ 100 ∧ 1 ≤ h1 ∧ h1 ≤ 50 ∧ 1 ≤ y1 ∧ y1 ≤ 255) ∨ (f = -1 ∧ ¬ (1 ≤ w1 ∧ w1 ≤ 100 ∧ 1 ≤ h1 ∧ h1 ≤ 50 ∧ 1 ≤ y1 ∧ y1 ≤ 255))) ∧ ((f = 1 ∧ v2 31 = w1 ∧ v2 32 = h1 ∧ v2 33 = y1) ∨ (f = -1 ∧ v2 31 = v 31 ∧ v2 32 = v 32 ∧ v2 33 = v 33)))) := by
  refine Mm.mk (by decide) (Nat.le_of_ble_eq_true rfl) ?_
  intro p e s m args below meth c A C
  have fp0 : fr [0, 1, 31, 32, 33] [] v a v a := fr.refl
  refine m_iload_n (j := 1) C dX12_measure_0 rfl ?_
  refine m_iconst C dX12_measure_1 ?_
  refine m_bipush (z := 100) C dX12_measure_2 (by decide) ?_
  refine m_callS (As := [.int (iI w1), .int (iI 1), .int (iI 100)]) (rest := []) C (fun L E => s_isIn (iI w1) (iI 1) (iI 100)) dX12_measure_4 kS_X12_174 rfl rfl (Nat.le_of_ble_eq_true rfl) ⟨Nat.le_of_ble_eq_true rfl, Nat.le_of_ble_eq_true rfl⟩ ⟨Nat.le_of_ble_eq_true rfl, Nat.le_of_ble_eq_true rfl⟩ ?_
  rcases inn_c (x := w1) (lo := 1) (hi := 100) ⟨by omega, by omega⟩ ⟨by decide, by decide⟩ ⟨by decide, by decide⟩ with ⟨h1a, h1b, h1e⟩ | ⟨h1a, h1e⟩
  · refine m_st (st2 := [.int (iI 1)]) (by rw [h1e]) ?_
    refine m_if_eq (tgt := 31) C ⟨by decide, by decide⟩ dX12_measure_7 (by decide) (fun z => absurd z (by omega)) (fun _ => ?_)
    refine m_iload_n (j := 2) C dX12_measure_10 rfl ?_
    refine m_iconst C dX12_measure_11 ?_
    refine m_bipush (z := 50) C dX12_measure_12 (by decide) ?_
    refine m_callS (As := [.int (iI h1), .int (iI 1), .int (iI 50)]) (rest := []) C (fun L E => s_isIn (iI h1) (iI 1) (iI 50)) dX12_measure_14 kS_X12_174 rfl rfl (Nat.le_of_ble_eq_true rfl) ⟨Nat.le_of_ble_eq_true rfl, Nat.le_of_ble_eq_true rfl⟩ ⟨Nat.le_of_ble_eq_true rfl, Nat.le_of_ble_eq_true rfl⟩ ?_
    rcases inn_c (x := h1) (lo := 1) (hi := 50) ⟨by omega, by omega⟩ ⟨by decide, by decide⟩ ⟨by decide, by decide⟩ with ⟨h2a, h2b, h2e⟩ | ⟨h2a, h2e⟩
    · refine m_st (st2 := [.int (iI 1)]) (by rw [h2e]) ?_
      refine m_if_eq (tgt := 31) C ⟨by decide, by decide⟩ dX12_measure_17 (by decide) (fun z => absurd z (by omega)) (fun _ => ?_)
      refine m_iload_n (j := 3) C dX12_measure_20 rfl ?_
      refine m_iconst C dX12_measure_21 ?_
      refine m_sipush (z := 255) C dX12_measure_22 (by decide) ?_
      refine m_callS (As := [.int (iI y1), .int (iI 1), .int (iI 255)]) (rest := []) C (fun L E => s_isIn (iI y1) (iI 1) (iI 255)) dX12_measure_25 kS_X12_174 rfl rfl (Nat.le_of_ble_eq_true rfl) ⟨Nat.le_of_ble_eq_true rfl, Nat.le_of_ble_eq_true rfl⟩ ⟨Nat.le_of_ble_eq_true rfl, Nat.le_of_ble_eq_true rfl⟩ ?_
      rcases inn_c (x := y1) (lo := 1) (hi := 255) ⟨by omega, by omega⟩ ⟨by decide, by decide⟩ ⟨by decide, by decide⟩ with ⟨h3a, h3b, h3e⟩ | ⟨h3a, h3e⟩
      · refine m_st (st2 := [.int (iI 1)]) (by rw [h3e]) ?_
        refine m_if_ne (tgt := 38) C ⟨by decide, by decide⟩ dX12_measure_28 (by decide) (fun _ => ?_) (fun z => absurd z (by omega))
        refine m_aload_n (j := 0) C dX12_measure_38 rfl ?_
        refine m_iload_n (j := 1) C dX12_measure_39 rfl ?_
        refine m_put (k := 31) (z := w1) C dX12_measure_40 w6_90 (by decide) rfl rfl rfl ?_
        refine hv2 (show BX (va_up v 31 w1) a from hB.put (k := 31) (z := w1) (show 1 ≤ w1 ∧ w1 ≤ 100 by omega)) (fp0.put (k := 31) (z := w1) rfl) (fun bq1 fq1 => ?_)
        refine m_aload_n (j := 0) C dX12_measure_43 rfl ?_
        refine m_iload_n (j := 2) C dX12_measure_44 rfl ?_
        refine m_put (k := 32) (z := h1) C dX12_measure_45 w6_91 (by decide) rfl rfl rfl ?_
        refine hv2 (show BX (va_up (va_up v 31 w1) 32 h1) a from bq1.put (k := 32) (z := h1) (show 1 ≤ h1 ∧ h1 ≤ 50 by omega)) (fq1.put (k := 32) (z := h1) rfl) (fun bq2 fq2 => ?_)
        refine m_aload_n (j := 0) C dX12_measure_48 rfl ?_
        refine m_iload_n (j := 3) C dX12_measure_49 rfl ?_
        refine m_put (k := 33) (z := y1) C dX12_measure_50 w6_92 (by decide) rfl rfl rfl ?_
        refine hv2 (show BX (va_up (va_up (va_up v 31 w1) 32 h1) 33 y1) a from bq2.put (k := 33) (z := y1) (show (-2147483648) ≤ y1 ∧ y1 ≤ 2147483647 by omega)) (fq2.put (k := 33) (z := y1) rfl) (fun bq3 fq3 => ?_)
        refine m_aload_n (j := 0) C dX12_measure_53 rfl ?_
        refine m_iconst C dX12_measure_54 ?_
        refine m_call (mc2 := 0) (ms2 := 0) (As := [.int (iI 1)]) (rest := []) C (B_fine (x := 1) bq3 (by show -2147483648 ≤ (1 : Int) ∧ (1 : Int) ≤ 2147483647; omega)) dX12_measure_55 kV_X12_158 rfl ck_13 rfl (Nat.le_of_ble_eq_true rfl) ⟨Nat.le_of_ble_eq_true rfl, Nat.le_of_ble_eq_true rfl⟩ ⟨Nat.le_of_ble_eq_true rfl, Nat.le_of_ble_eq_true rfl⟩ (fun rh4 vh4 ah4 h4 => ?_)
        obtain ⟨f1, rfl, fn1, bn1, ex1⟩ := h4
        refine hv2 (fq3.call fn1 rfl rfl) (show f1 = (1 : Int) from ex1) (fun fq4 gf1 => ?_)
        refine m_st (st2 := [.int (iI f1)]) rfl ?_
        refine hv6 (show 1 ≤ vh4 31 ∧ vh4 31 ≤ 100 from bn1.1 31) (show vh4 31 = w1 from fn1.1 31 rfl) (show 1 ≤ vh4 32 ∧ vh4 32 ≤ 50 from bn1.1 32) (show vh4 32 = h1 from fn1.1 32 rfl) (show (-2147483648) ≤ vh4 33 ∧ vh4 33 ≤ 2147483647 from bn1.1 33) (show vh4 33 = y1 from fn1.1 33 rfl) (fun rv1 ve1 rv2 ve2 rv3 ve3 => ?_)
        exact m_iret C dX12_measure_58 rfl (Nat.le_of_ble_eq_true rfl) (Nat.le_of_ble_eq_true rfl) ⟨f1, rfl, fq4, bn1, ⟨by omega, by show (f1 = 1 ∧ (vh4 31) = w1 ∧ (vh4 32) = h1 ∧ (vh4 33) = y1) ∨ (f1 = -1 ∧ (vh4 31) = (v 31) ∧ (vh4 32) = (v 32) ∧ (vh4 33) = (v 33)); omega⟩⟩
      · refine m_st (st2 := [.int (iI 0)]) (by rw [h3e]) ?_
        refine m_if_ne (tgt := 38) C ⟨by decide, by decide⟩ dX12_measure_28 (by decide) (fun z => absurd z (by omega)) (fun _ => ?_)
        refine m_aload_n (j := 0) C dX12_measure_31 rfl ?_
        refine m_bipush (z := 6) C dX12_measure_32 (by decide) ?_
        refine m_call (mc2 := 0) (ms2 := 0) (As := [.int (iI 6)]) (rest := []) C (B_bad (x := 6) hB (by show -2147483648 ≤ (6 : Int) ∧ (6 : Int) ≤ 2147483647; omega)) dX12_measure_34 kV_X12_154 rfl ck_13 rfl (Nat.le_of_ble_eq_true rfl) ⟨Nat.le_of_ble_eq_true rfl, Nat.le_of_ble_eq_true rfl⟩ ⟨Nat.le_of_ble_eq_true rfl, Nat.le_of_ble_eq_true rfl⟩ (fun rh5 vh5 ah5 h5 => ?_)
        obtain ⟨f2, rfl, fn2, bn2, ex2⟩ := h5
        refine hv2 (fp0.call fn2 rfl rfl) (show f2 = -1 from ex2) (fun fq5 gf2 => ?_)
        refine m_st (st2 := [.int (iI f2)]) rfl ?_
        refine hv6 (show 1 ≤ vh5 31 ∧ vh5 31 ≤ 100 from bn2.1 31) (show vh5 31 = v 31 from fn2.1 31 rfl) (show 1 ≤ vh5 32 ∧ vh5 32 ≤ 50 from bn2.1 32) (show vh5 32 = v 32 from fn2.1 32 rfl) (show (-2147483648) ≤ vh5 33 ∧ vh5 33 ≤ 2147483647 from bn2.1 33) (show vh5 33 = v 33 from fn2.1 33 rfl) (fun rv4 ve4 rv5 ve5 rv6 ve6 => ?_)
        exact m_iret C dX12_measure_37 rfl (Nat.le_of_ble_eq_true rfl) (Nat.le_of_ble_eq_true rfl) ⟨f2, rfl, fq5, bn2, ⟨by omega, by show (f2 = 1 ∧ (vh5 31) = w1 ∧ (vh5 32) = h1 ∧ (vh5 33) = y1) ∨ (f2 = -1 ∧ (vh5 31) = (v 31) ∧ (vh5 32) = (v 32) ∧ (vh5 33) = (v 33)); omega⟩⟩
    · refine m_st (st2 := [.int (iI 0)]) (by rw [h2e]) ?_
      refine m_if_eq (tgt := 31) C ⟨by decide, by decide⟩ dX12_measure_17 (by decide) (fun _ => ?_) (fun z => absurd z (by omega))
      refine m_aload_n (j := 0) C dX12_measure_31 rfl ?_
      refine m_bipush (z := 6) C dX12_measure_32 (by decide) ?_
      refine m_call (mc2 := 0) (ms2 := 0) (As := [.int (iI 6)]) (rest := []) C (B_bad (x := 6) hB (by show -2147483648 ≤ (6 : Int) ∧ (6 : Int) ≤ 2147483647; omega)) dX12_measure_34 kV_X12_154 rfl ck_13 rfl (Nat.le_of_ble_eq_true rfl) ⟨Nat.le_of_ble_eq_true rfl, Nat.le_of_ble_eq_true rfl⟩ ⟨Nat.le_of_ble_eq_true rfl, Nat.le_of_ble_eq_true rfl⟩ (fun rh6 vh6 ah6 h6 => ?_)
      obtain ⟨f3, rfl, fn3, bn3, ex3⟩ := h6
      refine hv2 (fp0.call fn3 rfl rfl) (show f3 = -1 from ex3) (fun fq6 gf3 => ?_)
      refine m_st (st2 := [.int (iI f3)]) rfl ?_
      refine hv6 (show 1 ≤ vh6 31 ∧ vh6 31 ≤ 100 from bn3.1 31) (show vh6 31 = v 31 from fn3.1 31 rfl) (show 1 ≤ vh6 32 ∧ vh6 32 ≤ 50 from bn3.1 32) (show vh6 32 = v 32 from fn3.1 32 rfl) (show (-2147483648) ≤ vh6 33 ∧ vh6 33 ≤ 2147483647 from bn3.1 33) (show vh6 33 = v 33 from fn3.1 33 rfl) (fun rv7 ve7 rv8 ve8 rv9 ve9 => ?_)
      exact m_iret C dX12_measure_37 rfl (Nat.le_of_ble_eq_true rfl) (Nat.le_of_ble_eq_true rfl) ⟨f3, rfl, fq6, bn3, ⟨by omega, by show (f3 = 1 ∧ (vh6 31) = w1 ∧ (vh6 32) = h1 ∧ (vh6 33) = y1) ∨ (f3 = -1 ∧ (vh6 31) = (v 31) ∧ (vh6 32) = (v 32) ∧ (vh6 33) = (v 33)); omega⟩⟩
  · refine m_st (st2 := [.int (iI 0)]) (by rw [h1e]) ?_
    refine m_if_eq (tgt := 31) C ⟨by decide, by decide⟩ dX12_measure_7 (by decide) (fun _ => ?_) (fun z => absurd z (by omega))
    refine m_aload_n (j := 0) C dX12_measure_31 rfl ?_
    refine m_bipush (z := 6) C dX12_measure_32 (by decide) ?_
    refine m_call (mc2 := 0) (ms2 := 0) (As := [.int (iI 6)]) (rest := []) C (B_bad (x := 6) hB (by show -2147483648 ≤ (6 : Int) ∧ (6 : Int) ≤ 2147483647; omega)) dX12_measure_34 kV_X12_154 rfl ck_13 rfl (Nat.le_of_ble_eq_true rfl) ⟨Nat.le_of_ble_eq_true rfl, Nat.le_of_ble_eq_true rfl⟩ ⟨Nat.le_of_ble_eq_true rfl, Nat.le_of_ble_eq_true rfl⟩ (fun rh7 vh7 ah7 h7 => ?_)
    obtain ⟨f4, rfl, fn4, bn4, ex4⟩ := h7
    refine hv2 (fp0.call fn4 rfl rfl) (show f4 = -1 from ex4) (fun fq7 gf4 => ?_)
    refine m_st (st2 := [.int (iI f4)]) rfl ?_
    refine hv6 (show 1 ≤ vh7 31 ∧ vh7 31 ≤ 100 from bn4.1 31) (show vh7 31 = v 31 from fn4.1 31 rfl) (show 1 ≤ vh7 32 ∧ vh7 32 ≤ 50 from bn4.1 32) (show vh7 32 = v 32 from fn4.1 32 rfl) (show (-2147483648) ≤ vh7 33 ∧ vh7 33 ≤ 2147483647 from bn4.1 33) (show vh7 33 = v 33 from fn4.1 33 rfl) (fun rv10 ve10 rv11 ve11 rv12 ve12 => ?_)
    exact m_iret C dX12_measure_37 rfl (Nat.le_of_ble_eq_true rfl) (Nat.le_of_ble_eq_true rfl) ⟨f4, rfl, fq7, bn4, ⟨by omega, by show (f4 = 1 ∧ (vh7 31) = w1 ∧ (vh7 32) = h1 ∧ (vh7 33) = y1) ∨ (f4 = -1 ∧ (vh7 31) = (v 31) ∧ (vh7 32) = (v 32) ∧ (vh7 33) = (v 33)); omega⟩⟩
end
