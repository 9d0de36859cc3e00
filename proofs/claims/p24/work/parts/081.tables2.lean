theorem NewT.fr {T : Nat} {a a2 a3 : Nat → Nat → Int} {v2 v3 : Nat → Int} {k b s : Int} {V A : List Nat} (h : NewT T a k b s a2) (f : fr V A v2 a2 v3 a3) (hA : ([6, 8, 9, 10] : List Nat).all (fun j => !A.contains j) = true) : NewT T a k b s a3 := by
  have g : ∀ j, j ∈ ([6, 8, 9, 10] : List Nat) → a3 j = a2 j := fun j hj => f.2 j (by have := List.all_eq_true.mp hA j hj; simpa using this)
  exact ⟨fun j => by rw [g 6 (by decide)]; exact h.1 j, fun j => by rw [g 8 (by decide)]; exact h.2.1 j, fun j => by rw [g 9 (by decide)]; exact h.2.2.1 j, fun j => by rw [g 10 (by decide)]; exact h.2.2.2 j⟩
theorem RUL.fr {a a2 a3 : Nat → Nat → Int} {v2 v3 : Nat → Int} {r m c : Int} {V A : List Nat} (h : RUL a r m c a2) (f : fr V A v2 a2 v3 a3) (hA : ([10, 12, 13] : List Nat).all (fun j => !A.contains j) = true) : RUL a r m c a3 := by
  have g : ∀ j, j ∈ ([10, 12, 13] : List Nat) → a3 j = a2 j := fun j hj => f.2 j (by have := List.all_eq_true.mp hA j hj; simpa using this)
  exact ⟨fun j => by rw [g 12 (by decide)]; exact h.1 j, fun j => by rw [g 13 (by decide)]; exact h.2.1 j, by rw [g 10 (by decide)]; exact h.2.2⟩
theorem NewT.mk {T : Nat} {a : Nat → Nat → Int} {k d b s : Int} : NewT T a k b s (up2 (up2 (up2 (up2 (up2 (up2 a 5 T 1) 6 T k) 7 T d) 8 T b) 9 T s) 10 T 0) := ⟨fun j => by simp [up2], fun j => by simp [up2], fun j => by simp [up2], fun j => by simp [up2]⟩
set_option maxHeartbeats 4000000 in
set_option maxRecDepth 100000 in
theorem M_newTable {l : Launch} {G : GT} {h0 : Nat} {ad ln : Nat → Nat} {v : Nat → Int} {a : Nat → Nat → Int} {k0 d0 b0 s0 : Int} (hB : BX v a) (hT : TBL v a) (hS : STK ln v a) (hk0 : ((k0 = 0 ∨ k0 = 4) ∧ b0 = -1) ∨ (1 ≤ k0 ∧ k0 ≤ 3 ∧ 0 ≤ b0 ∧ b0 < v 4 ∧ a 6 b0.toNat ≤ 3) ∨ (k0 = 5 ∧ 0 ≤ b0 ∧ b0 < v 4 ∧ a 6 b0.toNat ≤ 3 ∧ 0 ≤ s0 ∧ s0 < v 4 ∧ a 6 s0.toNat ≤ 3)) (hd0 : -2147483648 ≤ d0 ∧ d0 ≤ 2147483647) (hs0 : -1 ≤ s0 ∧ s0 ≤ 29) (h4 : v 4 < 30) (h19 : v 19 ≤ 2044) : Mn l G yX12_newTable cX12_newTable 7 (some .int) 1 [.int (iI k0), .int (iI d0), .int (iI b0), .int (iI s0)] h0 ad ln v a 1 4110 (fun r ln2 v2 a2 => ∃ f : Int, r = some (.int (iI f)) ∧ fr [4, 19] [5, 6, 7, 8, 9, 10, 16, 18, 70] v a v2 a2 ∧ BX v2 a2 ∧ ((f = v 4 ∧ v2 4 = v 4 + 1) ∧ TBL v2 a2 ∧ STK ln2 v2 a2 ∧ v2 19 ≤ v 19 + 4 ∧ (∀ j, j ≠ 16 → j ≠ 18 → j ≠ 70 → a2 j = NA a (v 4).toNat k0 d0 b0 s0 j) ∧ PSH v a v2 a2 0 (v 4) 0 0 ∧ FIL (a2 16) (a 16) (4 * v 4).toNat 4 4 (fun _ => 0))) := by
  refine Mn.mk (by decide) (Nat.le_of_ble_eq_true rfl) ?_
  intro p e s m args below meth c A C
  have h30 : 0 ≤ v 4 ∧ v 4 ≤ 30 := hB.1 4
  obtain ⟨n9, hn9, hk9⟩ := hS.2.2
  refine hv3 (hS.1) (hS.2.1) (show fr [4, 19] [5, 6, 7, 8, 9, 10, 16, 18, 70] v a v a from fr.refl) (fun hl1 hl2 fp0 => ?_)
  refine m_aload_n (j := 0) C dX12_newTable_0 rfl ?_
  have rv1 : 0 ≤ v 4 ∧ v 4 ≤ 30 := hB.1 4
  refine m_get (k := 4) C dX12_newTable_1 w6_63 (by decide) rfl ?_
  refine m_istore (lv2 := [(5, .int (iI (v 4))), (0, .ref h0), (1, .int (iI k0)), (2, .int (iI d0)), (3, .int (iI b0)), (4, .int (iI s0))]) C dX12_newTable_4 (by decide) rfl ?_
  refine m_aload_n (j := 1) C dX12_newTable_6 rfl ?_
  refine m_dup C dX12_newTable_7 rfl ?_
  refine m_get (k := 4) C dX12_newTable_8 w6_63 (by decide) rfl ?_
  refine m_iconst C dX12_newTable_11 ?_
  refine m_iadd C dX12_newTable_12 ?_
  refine m_put (k := 4) (z := (v 4) + 1) C dX12_newTable_13 w6_63 (by decide) rfl rfl rfl ?_
  refine hv3 (show BX (va_up v 4 ((v 4) + 1)) a from hB.put (k := 4) (z := (v 4) + 1) (show 0 ≤ ((v 4) + 1) ∧ ((v 4) + 1) ≤ 30 by omega)) (fp0.put (k := 4) (z := (v 4) + 1) rfl) (show KS v a (va_up v 4 ((v 4) + 1)) a from KS.put (⟨rfl, rfl⟩ : KS v a v a) (k := 4) (z := (v 4) + 1) (by decide)) (fun bq1 fq1 pw1 => ?_)
  refine m_aload_n (j := 1) C dX12_newTable_16 rfl ?_
  refine m_geta (k := 5) C dX12_newTable_17 w6_64 (by decide) rfl ?_
  refine m_iload (j := 0) C dX12_newTable_20 rfl ?_
  refine m_iconst C dX12_newTable_22 ?_
  refine m_zast (k := 5) (w := 1) C dX12_newTable_23 rfl rfl (by decide) (by omega) (by show _ < ((_ : Nat) : Int); simp only [mlen]; omega) (by decide) (by omega) ?_
  refine hv3 (show BX (va_up v 4 ((v 4) + 1)) (up2 a 5 (v 4).toNat 1) from bq1.set (k := 5) (i := (v 4).toNat) (z := 1) ⟨by decide, by decide⟩) (fq1.set (k := 5) (i := (v 4).toNat) (z := 1) rfl) (show KS v a (va_up v 4 ((v 4) + 1)) (up2 a 5 (v 4).toNat 1) from KS.set pw1 (k := 5) (i := (v 4).toNat) (z := 1) (by decide)) (fun bq2 fq2 pw2 => ?_)
  refine m_aload_n (j := 1) C dX12_newTable_24 rfl ?_
  refine m_geta (k := 6) C dX12_newTable_25 w6_65 (by decide) rfl ?_
  refine m_iload (j := 0) C dX12_newTable_28 rfl ?_
  refine m_iload_n (j := 2) C dX12_newTable_30 rfl ?_
  refine m_ast (k := 6) C dX12_newTable_31 rfl rfl (by decide) (by omega) (by show _ < ((_ : Nat) : Int); simp only [mlen]; omega) (by decide) ?_
  refine hv3 (show BX (va_up v 4 ((v 4) + 1)) (up2 (up2 a 5 (v 4).toNat 1) 6 (v 4).toNat k0) from bq2.set (k := 6) (i := (v 4).toNat) (z := k0) (show 0 ≤ k0 ∧ k0 ≤ 5 by omega)) (fq2.set (k := 6) (i := (v 4).toNat) (z := k0) rfl) (show KS v a (va_up v 4 ((v 4) + 1)) (up2 (up2 a 5 (v 4).toNat 1) 6 (v 4).toNat k0) from KS.set pw2 (k := 6) (i := (v 4).toNat) (z := k0) (by decide)) (fun bq3 fq3 pw3 => ?_)
  refine m_aload_n (j := 1) C dX12_newTable_32 rfl ?_
  refine m_geta (k := 7) C dX12_newTable_33 w6_66 (by decide) rfl ?_
  refine m_iload (j := 0) C dX12_newTable_36 rfl ?_
  refine m_iload_n (j := 3) C dX12_newTable_38 rfl ?_
  refine m_ast (k := 7) C dX12_newTable_39 rfl rfl (by decide) (by omega) (by show _ < ((_ : Nat) : Int); simp only [mlen]; omega) (by decide) ?_
  refine hv3 (show BX (va_up v 4 ((v 4) + 1)) (up2 (up2 (up2 a 5 (v 4).toNat 1) 6 (v 4).toNat k0) 7 (v 4).toNat d0) from bq3.set (k := 7) (i := (v 4).toNat) (z := d0) (show (-2147483648) ≤ d0 ∧ d0 ≤ 2147483647 by omega)) (fq3.set (k := 7) (i := (v 4).toNat) (z := d0) rfl) (show KS v a (va_up v 4 ((v 4) + 1)) (up2 (up2 (up2 a 5 (v 4).toNat 1) 6 (v 4).toNat k0) 7 (v 4).toNat d0) from KS.set pw3 (k := 7) (i := (v 4).toNat) (z := d0) (by decide)) (fun bq4 fq4 pw4 => ?_)
  refine m_aload_n (j := 1) C dX12_newTable_40 rfl ?_
  refine m_geta (k := 8) C dX12_newTable_41 w6_67 (by decide) rfl ?_
  refine m_iload (j := 0) C dX12_newTable_44 rfl ?_
  refine m_iload_n (j := 4) C dX12_newTable_46 rfl ?_
  refine m_ast (k := 8) C dX12_newTable_47 rfl rfl (by decide) (by omega) (by show _ < ((_ : Nat) : Int); simp only [mlen]; omega) (by decide) ?_
  refine hv3 (show BX (va_up v 4 ((v 4) + 1)) (up2 (up2 (up2 (up2 a 5 (v 4).toNat 1) 6 (v 4).toNat k0) 7 (v 4).toNat d0) 8 (v 4).toNat b0) from bq4.set (k := 8) (i := (v 4).toNat) (z := b0) (show (-1) ≤ b0 ∧ b0 ≤ 29 by omega)) (fq4.set (k := 8) (i := (v 4).toNat) (z := b0) rfl) (show KS v a (va_up v 4 ((v 4) + 1)) (up2 (up2 (up2 (up2 a 5 (v 4).toNat 1) 6 (v 4).toNat k0) 7 (v 4).toNat d0) 8 (v 4).toNat b0) from KS.set pw4 (k := 8) (i := (v 4).toNat) (z := b0) (by decide)) (fun bq5 fq5 pw5 => ?_)
  refine m_aload_n (j := 1) C dX12_newTable_48 rfl ?_
  refine m_geta (k := 9) C dX12_newTable_49 w6_68 (by decide) rfl ?_
  refine m_iload (j := 0) C dX12_newTable_52 rfl ?_
  refine m_iload (j := 5) C dX12_newTable_54 rfl ?_
  refine m_ast (k := 9) C dX12_newTable_56 rfl rfl (by decide) (by omega) (by show _ < ((_ : Nat) : Int); simp only [mlen]; omega) (by decide) ?_
  refine hv3 (show BX (va_up v 4 ((v 4) + 1)) (up2 (up2 (up2 (up2 (up2 a 5 (v 4).toNat 1) 6 (v 4).toNat k0) 7 (v 4).toNat d0) 8 (v 4).toNat b0) 9 (v 4).toNat s0) from bq5.set (k := 9) (i := (v 4).toNat) (z := s0) (show (-1) ≤ s0 ∧ s0 ≤ 29 by omega)) (fq5.set (k := 9) (i := (v 4).toNat) (z := s0) rfl) (show KS v a (va_up v 4 ((v 4) + 1)) (up2 (up2 (up2 (up2 (up2 a 5 (v 4).toNat 1) 6 (v 4).toNat k0) 7 (v 4).toNat d0) 8 (v 4).toNat b0) 9 (v 4).toNat s0) from KS.set pw5 (k := 9) (i := (v 4).toNat) (z := s0) (by decide)) (fun bq6 fq6 pw6 => ?_)
  refine m_aload_n (j := 1) C dX12_newTable_57 rfl ?_
  refine m_geta (k := 10) C dX12_newTable_58 w6_69 (by decide) rfl ?_
  refine m_iload (j := 0) C dX12_newTable_61 rfl ?_
  refine m_iconst C dX12_newTable_63 ?_
  refine m_ast (k := 10) C dX12_newTable_64 rfl rfl (by decide) (by omega) (by show _ < ((_ : Nat) : Int); simp only [mlen]; omega) (by decide) ?_
  refine hv4 (show BX (va_up v 4 ((v 4) + 1)) (up2 (up2 (up2 (up2 (up2 (up2 a 5 (v 4).toNat 1) 6 (v 4).toNat k0) 7 (v 4).toNat d0) 8 (v 4).toNat b0) 9 (v 4).toNat s0) 10 (v 4).toNat 0) from bq6.set (k := 10) (i := (v 4).toNat) (z := 0) ⟨by decide, by decide⟩) (fq6.set (k := 10) (i := (v 4).toNat) (z := 0) rfl) (show KS v a (va_up v 4 ((v 4) + 1)) (up2 (up2 (up2 (up2 (up2 (up2 a 5 (v 4).toNat 1) 6 (v 4).toNat k0) 7 (v 4).toNat d0) 8 (v 4).toNat b0) 9 (v 4).toNat s0) 10 (v 4).toNat 0) from KS.set pw6 (k := 10) (i := (v 4).toNat) (z := 0) (by decide)) (show NewT (v 4).toNat a k0 b0 s0 (up2 (up2 (up2 (up2 (up2 (up2 a 5 (v 4).toNat 1) 6 (v 4).toNat k0) 7 (v 4).toNat d0) 8 (v 4).toNat b0) 9 (v 4).toNat s0) 10 (v 4).toNat 0) from NewT.mk (d := d0)) (fun bq7 fq7 pw7 pw8 => ?_)
  refine m_iconst C dX12_newTable_65 ?_
  refine m_istore (lv2 := [(6, .int (iI 0)), (5, .int (iI (v 4))), (0, .ref h0), (1, .int (iI k0)), (2, .int (iI d0)), (3, .int (iI b0)), (4, .int (iI s0))]) C dX12_newTable_66 (by decide) rfl ?_
  have Lp1 : ∀ (nn : Nat) (k : Int) (vb1 : Nat → Int) (ab1 : Nat → Nat → Int), 5 - k < (nn : Int) → BX vb1 ab1 → fr [4, 19] [5, 6, 7, 8, 9, 10, 16, 18, 70] v a vb1 ab1 → (0 ≤ k ∧ k ≤ 4) → (KS v a vb1 ab1) → (NewT (v 4).toNat a k0 b0 s0 ab1) → (vb1 4 = v 4 + 1) → (∀ j, j ≠ 16 → ab1 j = NA a (v 4).toNat k0 d0 b0 s0 j) → (FIL (ab1 16) (a 16) (4 * v 4).toNat k.toNat 4 (fun _ => 0)) → mw p l e (rmq 1 1 4110) s m args below meth c G A 7 (MQ below (Qm G A (fun rq Lq Eq => ∃ (adq lnq : Nat → Nat) (vq : Nat → Int) (aq : Nat → Nat → Int), mI G h0 adq lnq vq aq Lq Eq ∧ (fun r ln2 v2 a2 => ∃ f : Int, r = some (.int (iI f)) ∧ fr [4, 19] [5, 6, 7, 8, 9, 10, 16, 18, 70] v a v2 a2 ∧ BX v2 a2 ∧ ((f = v 4 ∧ v2 4 = v 4 + 1) ∧ TBL v2 a2 ∧ STK ln2 v2 a2 ∧ v2 19 ≤ v 19 + 4 ∧ (∀ j, j ≠ 16 → j ≠ 18 → j ≠ 70 → a2 j = NA a (v 4).toNat k0 d0 b0 s0 j) ∧ PSH v a v2 a2 0 (v 4) 0 0 ∧ FIL (a2 16) (a 16) (4 * v 4).toNat 4 4 (fun _ => 0))) rq lnq vq aq)) args s 1 4110 A) h0 ad ln vb1 ab1 0 0 68 [(6, .int (iI k)), (5, .int (iI (v 4))), (0, .ref h0), (1, .int (iI k0)), (2, .int (iI d0)), (3, .int (iI b0)), (4, .int (iI s0))] [] := by
    intro nn
    induction nn with
    | zero =>
      intro k vb1 ab1 hm bxb1 fpb1 hk hKS hNW h41 hna h16
      exact absurd hm (by omega)
    | succ nn ih1 =>
      intro k vb1 ab1 hm bxb1 fpb1 hk hKS hNW h41 hna h16
      refine m_iload (j := 0) C dX12_newTable_68 rfl ?_
      refine m_iconst C dX12_newTable_70 ?_
      refine m_icmp_ge (tgt := 93) C (r32_c (lo := 0) (hi := 4) hk.1 hk.2 (by decide) (by decide)) ⟨by decide, by decide⟩ dX12_newTable_71 (by decide) (fun c1 => ?_) (fun c1 => ?_)
      · refine m_aload_n (j := 2) C dX12_newTable_93 rfl ?_
        refine m_iconst C dX12_newTable_94 ?_
        refine m_iload (j := 1) C dX12_newTable_95 rfl ?_
        refine m_iconst C dX12_newTable_97 ?_
        refine m_iconst C dX12_newTable_98 ?_
        refine hv3 (show (-2147483648) ≤ vb1 19 ∧ vb1 19 ≤ 2147483647 from bxb1.1 19) (show KS v a vb1 ab1 from hKS) (show vb1 19 = vb1 19 from rfl) (fun rv2 kq1 kq1s => ?_)
        have kq11 := kq1.1
        refine n_call (mc2 := 1) (ms2 := 4110) (As := [.int (iI 0), .int (iI (v 4)), .int (iI 0), .int (iI 0)]) (rest := []) C (M_step (x := 0) (t := v 4) (y := 0) (z := 0) bxb1 (by omega) (by omega) (by omega) (by omega) (by show 0 ≤ vb1 19 ∧ vb1 19 ≤ 2048; omega) (by show vb1 19 ≤ ((ln 18 : Nat) : Int) ∧ 64 ≤ ln 18 ∧ ln 18 ≤ 8192; omega)) dX12_newTable_99 kV_X12_182 rfl ck_13 rfl (Nat.le_of_ble_eq_true rfl) ⟨Nat.le_of_ble_eq_true rfl, Nat.le_of_ble_eq_true rfl⟩ ⟨Nat.le_of_ble_eq_true rfl, Nat.le_of_ble_eq_true rfl⟩ (fun rh1 ad ln vh1 ah1 h1 => ?_)
        obtain ⟨rfl, fn1, bn1, sx1_1, sx1_2, sx1_3, sx1_4, sx1_5, sx1_6, sx1_7, sx1_8⟩ := h1
        refine hv4 (fpb1.call fn1 rfl rfl) (show NewT (v 4).toNat a k0 b0 s0 ah1 from NewT.fr hNW fn1 rfl) (show 0 ≤ vh1 4 ∧ vh1 4 ≤ 30 from bn1.1 4) (show vh1 4 = vb1 4 from fn1.1 4 rfl) (fun fq8 pw9 rv3 ve1 => ?_)
        have ps1 : PSH v a vh1 ah1 0 (v 4) 0 0 := ⟨by have q := kq1.1; have q1 := sx1_1; omega, fun j hj => (sx1_4 j (by have q := kq1.1; omega)).trans (congrFun kq1.2 j), by rw [← kq1.1]; exact sx1_5, by rw [← kq1.1]; exact sx1_6, by rw [← kq1.1]; exact sx1_7, by rw [← kq1.1]; exact sx1_8⟩
        have pw10 : STK ln vh1 ah1 := STK.push (T0 := vh1 4 - 1) (R0 := ah1 10) (x := 0) (t := v 4) (y := 0) hS (by have q := kq1.1; have q1 := sx1_1; omega) sx1_2 sx1_3 (fun j hj => (sx1_4 j (by have q := kq1.1; omega)).trans (congrFun kq1.2 j)) (by rw [← kq1.1]; exact sx1_5) (by rw [← kq1.1]; exact sx1_6) (by rw [← kq1.1]; exact sx1_7) (Or.inl ⟨rfl, (by show 1 ≤ vh1 4; omega), rfl, rfl⟩) (by omega) (fun j hj => by have q := (pw9).2.2.2 j; rw [if_neg (by omega)] at q; exact q)
        have pw11 : TBL vh1 ah1 := TBL.new hT pw9 (by omega) (by omega) (fq8.2 12 rfl) (fq8.2 13 rfl) hk0
        refine m_st (st2 := []) rfl ?_
        refine m_iload (j := 1) C dX12_newTable_102 rfl ?_
        have rv4 : (-2147483648) ≤ vh1 19 ∧ vh1 19 ≤ 2147483647 := bn1.1 19
        exact n_iret C dX12_newTable_104 rfl (Nat.le_of_ble_eq_true rfl) (Nat.le_of_ble_eq_true rfl) ⟨(v 4), rfl, fq8, bn1, ⟨⟨(by omega), (by show vh1 4 = v 4 + 1; omega)⟩, pw11, pw10, (by show vh1 19 ≤ v 19 + 4; omega), (fun j h1 h2 h3 => (fn1.2 j (con2 h2 h3)).trans (hna j h1)), ps1, ((h16.n (show 4 = k.toNat by omega)).cg (fn1.2 16 rfl))⟩⟩
      · refine m_aload_n (j := 2) C dX12_newTable_74 rfl ?_
        refine m_geta (k := 16) C dX12_newTable_75 w6_75 (by decide) rfl ?_
        refine m_iconst C dX12_newTable_78 ?_
        refine m_iload (j := 1) C dX12_newTable_79 rfl ?_
        refine m_imul C dX12_newTable_81 ?_
        refine m_iload (j := 0) C dX12_newTable_82 rfl ?_
        refine m_iadd C dX12_newTable_84 ?_
        refine m_iconst C dX12_newTable_85 ?_
        refine m_ast (k := 16) C dX12_newTable_86 rfl rfl (by decide) (by omega) (by show _ < ((_ : Nat) : Int); simp only [mlen]; omega) (by decide) ?_
        refine hv4 (show BX vb1 (up2 ab1 16 ((4 * (v 4)) + k).toNat 0) from bxb1.set (k := 16) (i := ((4 * (v 4)) + k).toNat) (z := 0) ⟨by decide, by decide⟩) (fpb1.set (k := 16) (i := ((4 * (v 4)) + k).toNat) (z := 0) rfl) (show KS v a vb1 (up2 ab1 16 ((4 * (v 4)) + k).toNat 0) from KS.set hKS (k := 16) (i := ((4 * (v 4)) + k).toNat) (z := 0) (by decide)) (show NewT (v 4).toNat a k0 b0 s0 (up2 ab1 16 ((4 * (v 4)) + k).toNat 0) from NewT.set hNW (k := 16) (i := ((4 * (v 4)) + k).toNat) (z := 0) (by decide)) (fun bq8 fq9 pw12 pw13 => ?_)
        refine m_iinc (z := k) (j := 0) (lv2 := [(6, .int (iI (k + 1))), (5, .int (iI (v 4))), (0, .ref h0), (1, .int (iI k0)), (2, .int (iI d0)), (3, .int (iI b0)), (4, .int (iI s0))]) C dX12_newTable_87 rfl (by decide) rfl ?_
        refine m_goto (tgt := 68) C dX12_newTable_90 (by decide) ?_
        have rv5 : 0 ≤ vb1 4 ∧ vb1 4 ≤ 30 := bq8.1 4
        refine m_lv (lv2 := [(6, .int (iI (k + 1))), (5, .int (iI (v 4))), (0, .ref h0), (1, .int (iI k0)), (2, .int (iI d0)), (3, .int (iI b0)), (4, .int (iI s0))]) [0, 1, 2, 3, 4, 5, 6] rfl ?_
        exact ih1  (k + 1) _ _ (by omega) bq8 fq9 (by omega) pw12 pw13 (by show (vb1 4) = v 4 + 1; omega) (fun j hj => (funext fun _ => up2_k hj).trans (hna j hj)) (by rw [up2_va]; exact h16.step (by omega) rfl (by omega) (by omega))
  refine m_lv (lv2 := [(6, .int (iI 0)), (5, .int (iI (v 4))), (0, .ref h0), (1, .int (iI k0)), (2, .int (iI d0)), (3, .int (iI b0)), (4, .int (iI s0))]) [0, 1, 2, 3, 4, 5, 6] rfl ?_
  exact Lp1 6 0 _ _ (by omega) bq7 fq7 (by omega) pw7 pw8 (by show ((v 4) + 1) = v 4 + 1; omega) (fun _ _ => rfl) (FIL.zero (funext fun _ => by rw [up2_k (by decide), up2_k (by decide), up2_k (by decide), up2_k (by decide), up2_k (by decide), up2_k (by decide)]) rfl)
set_option maxHeartbeats 4000000 in
set_option maxRecDepth 100000 in
theorem M_table {l : Launch} {G : GT} {h0 : Nat} {ad ln : Nat → Nat} {v : Nat → Int} {a : Nat → Nat → Int} {k0 d0 b0 : Int} (hB : BX v a) (hT : TBL v a) (hS : STK ln v a) (hk0 : -2147483648 ≤ k0 ∧ k0 ≤ 2147483647) (hd0 : -2147483648 ≤ d0 ∧ d0 ≤ 2147483647) (hb0 : -2147483648 ≤ b0 ∧ b0 ≤ 2147483647) (h19 : v 19 ≤ 2044) : Mn l G yX12_table cX12_table 5 (some .int) 2 [.int (iI k0), .int (iI d0), .int (iI b0)] h0 ad ln v a 1 4110 (fun r ln2 v2 a2 => ∃ f : Int, r = some (.int (iI f)) ∧ fr [0, 1, 4, 19] [5, 6, 7, 8, 9, 10, 16, 18, 70] v a v2 a2 ∧ BX v2 a2 ∧ (TBL v2 a2 ∧ STK ln2 v2 a2 ∧ v2 19 ≤ v 19 + 4 ∧ ((f = -1 ∧ TSAME v a v2 a2 ∧ ¬ (0 ≤ k0 ∧ k0 ≤ 4 ∧ (d0 = 6 ∨ d0 = 8) ∧ v 4 ≠ 30 ∧ (k0 < 1 ∨ 3 < k0 ∨ (0 ≤ b0 ∧ b0 < v 4 ∧ a 5 b0.toNat = 1 ∧ a 6 b0.toNat ≤ 3)))) ∨ (f = v 4 ∧ (0 ≤ k0 ∧ k0 ≤ 4 ∧ (d0 = 6 ∨ d0 = 8) ∧ v 4 ≠ 30 ∧ (k0 < 1 ∨ 3 < k0 ∨ (0 ≤ b0 ∧ b0 < v 4 ∧ a 5 b0.toNat = 1 ∧ a 6 b0.toNat ≤ 3))) ∧ TNEW k0 d0 (if k0 < 1 ∨ 3 < k0 then -1 else b0) (-1) v a v2 a2)))) := by
  refine Mn.mk (by decide) (Nat.le_of_ble_eq_true rfl) ?_
  intro p e s m args below meth c A C
  have h30 : 0 ≤ v 4 ∧ v 4 ≤ 30 := hB.1 4
  obtain ⟨n9, hn9, hk9⟩ := hS.2.2
  refine hv3 (hS.1) (hS.2.1) (show fr [0, 1, 4, 19] [5, 6, 7, 8, 9, 10, 16, 18, 70] v a v a from fr.refl) (fun hl1 hl2 fp0 => ?_)
  refine m_iload_n (j := 1) C dX12_table_0 rfl ?_
  refine m_iconst C dX12_table_1 ?_
  refine m_iconst C dX12_table_2 ?_
  refine m_callS (As := [.int (iI k0), .int (iI 1), .int (iI 3)]) (rest := []) C (fun L E => s_isIn (iI k0) (iI 1) (iI 3)) dX12_table_3 kS_X12_174 rfl rfl (Nat.le_of_ble_eq_true rfl) ⟨Nat.le_of_ble_eq_true rfl, Nat.le_of_ble_eq_true rfl⟩ ⟨Nat.le_of_ble_eq_true rfl, Nat.le_of_ble_eq_true rfl⟩ ?_
  rcases inn_c (x := k0) (lo := 1) (hi := 3) ⟨by omega, by omega⟩ ⟨by decide, by decide⟩ ⟨by decide, by decide⟩ with ⟨h1a, h1b, h1e⟩ | ⟨h1a, h1e⟩
  · refine m_st (st2 := [.int (iI 1)]) (by rw [h1e]) ?_
    refine m_istore (lv2 := [(4, .int (iI 1)), (0, .ref h0), (1, .int (iI k0)), (2, .int (iI d0)), (3, .int (iI b0))]) C dX12_table_6 (by decide) rfl ?_
    refine m_iload_n (j := 2) C dX12_table_8 rfl ?_
    refine m_iconst C dX12_table_9 ?_
    refine m_iconst C dX12_table_10 ?_
    refine m_callS (As := [.int (iI k0), .int (iI 0), .int (iI 4)]) (rest := []) C (fun L E => s_isIn (iI k0) (iI 0) (iI 4)) dX12_table_11 kS_X12_174 rfl rfl (Nat.le_of_ble_eq_true rfl) ⟨Nat.le_of_ble_eq_true rfl, Nat.le_of_ble_eq_true rfl⟩ ⟨Nat.le_of_ble_eq_true rfl, Nat.le_of_ble_eq_true rfl⟩ ?_
    rcases inn_c (x := k0) (lo := 0) (hi := 4) ⟨by omega, by omega⟩ ⟨by decide, by decide⟩ ⟨by decide, by decide⟩ with ⟨h2a, h2b, h2e⟩ | ⟨h2a, h2e⟩
    · refine m_st (st2 := [.int (iI 1)]) (by rw [h2e]) ?_
      refine m_if_eq (tgt := 38) C ⟨by decide, by decide⟩ dX12_table_14 (by decide) (fun z => absurd z (by omega)) (fun _ => ?_)
      refine m_iload_n (j := 3) C dX12_table_17 rfl ?_
      refine m_bipush (z := 6) C dX12_table_18 (by decide) ?_
      refine m_icmp_eq (tgt := 29) C ⟨by omega, by omega⟩ ⟨by decide, by decide⟩ dX12_table_20 (by decide) (fun c1 => ?_) (fun c1 => ?_)
      · refine m_aload_n (j := 1) C dX12_table_29 rfl ?_
        have rv1 : 0 ≤ v 4 ∧ v 4 ≤ 30 := hB.1 4
        refine m_get (k := 4) C dX12_table_30 w6_63 (by decide) rfl ?_
        refine m_bipush (z := 30) C dX12_table_33 (by decide) ?_
        refine m_icmp_ne (tgt := 45) C (r32_c (lo := 0) (hi := 30) rv1.1 rv1.2 (by decide) (by decide)) ⟨by decide, by decide⟩ dX12_table_35 (by decide) (fun c2 => ?_) (fun c2 => ?_)
        · refine m_iload (j := 0) C dX12_table_45 rfl ?_
          refine m_if_eq (tgt := 64) C ⟨by decide, by decide⟩ dX12_table_47 (by decide) (fun z => absurd z (by omega)) (fun _ => ?_)
          refine m_aload_n (j := 1) C dX12_table_50 rfl ?_
          refine m_iload_n (j := 4) C dX12_table_51 rfl ?_
          refine m_call (mc2 := 0) (ms2 := 0) (As := [.int (iI b0)]) (rest := []) C (B_isTable (t := b0) hB (by show -2147483648 ≤ b0 ∧ b0 ≤ 2147483647; omega)) dX12_table_52 kV_X12_167 rfl ck_13 rfl (Nat.le_of_ble_eq_true rfl) ⟨Nat.le_of_ble_eq_true rfl, Nat.le_of_ble_eq_true rfl⟩ ⟨Nat.le_of_ble_eq_true rfl, Nat.le_of_ble_eq_true rfl⟩ (fun rh3 vh3 ah3 h3 => ?_)
          obtain ⟨f1, rfl, fn1, bn1, ex1⟩ := h3
          obtain ⟨rfl, rfl⟩ := fn1.eq
          refine hv2 (show (f1 = 0 ∧ (b0 < 0 ∨ (v 4) ≤ b0 ∨ a 5 b0.toNat = 0)) ∨ (f1 = 1 ∧ 0 ≤ b0 ∧ b0 < (v 4) ∧ a 5 b0.toNat = 1) from ex1) (show 0 ≤ a 5 b0.toNat ∧ a 5 b0.toNat ≤ 1 from hB.2 5 (b0.toNat)) (fun gf1 ra1 => ?_)
          refine m_st (st2 := [.int (iI f1)]) rfl ?_
          refine m_if_ne (tgt := 64) C (r32_pq gf1) dX12_table_55 (by decide) (fun c3 => ?_) (fun c3 => ?_)
          · replace gf1 := (gf1.resolve_left (fun q => c3 q.1))
            refine m_iload (j := 0) C dX12_table_64 rfl ?_
            refine m_if_eq (tgt := 85) C ⟨by decide, by decide⟩ dX12_table_66 (by decide) (fun z => absurd z (by omega)) (fun _ => ?_)
            refine m_aload_n (j := 1) C dX12_table_69 rfl ?_
            refine m_geta (k := 6) C dX12_table_70 w6_65 (by decide) rfl ?_
            refine m_iload_n (j := 4) C dX12_table_73 rfl ?_
            refine m_ald (k := 6) C dX12_table_74 rfl rfl (by decide) (by omega) (by show _ < ((_ : Nat) : Int); simp only [mlen]; omega) (by decide) ?_
            have ra2 : 0 ≤ a 6 b0.toNat ∧ a 6 b0.toNat ≤ 5 := hB.2 6 (b0.toNat)
            refine m_iconst C dX12_table_75 ?_
            refine m_icmp_le (tgt := 85) C (r32_c (lo := 0) (hi := 5) ra2.1 ra2.2 (by decide) (by decide)) ⟨by decide, by decide⟩ dX12_table_76 (by decide) (fun c4 => ?_) (fun c4 => ?_)
            · refine m_aload_n (j := 1) C dX12_table_85 rfl ?_
              refine m_aload_n (j := 1) C dX12_table_86 rfl ?_
              refine m_iload_n (j := 2) C dX12_table_87 rfl ?_
              refine m_iload_n (j := 3) C dX12_table_88 rfl ?_
              refine m_iload (j := 0) C dX12_table_89 rfl ?_
              refine m_if_eq (tgt := 98) C ⟨by decide, by decide⟩ dX12_table_91 (by decide) (fun z => absurd z (by omega)) (fun _ => ?_)
              refine m_iload_n (j := 4) C dX12_table_94 rfl ?_
              refine m_goto (tgt := 99) C dX12_table_95 (by decide) ?_
              refine m_iconst C dX12_table_99 ?_
              refine n_call (mc2 := 1) (ms2 := 4110) (As := [.int (iI k0), .int (iI d0), .int (iI b0), .int (iI (-1))]) (rest := [.ref h0]) C (M_newTable (k0 := k0) (d0 := d0) (b0 := b0) (s0 := (-1)) hB hT hS (by omega) (by omega) (by omega) (by omega) (by omega)) dX12_table_100 kV_X12_178 rfl ck_13 rfl (Nat.le_of_ble_eq_true rfl) ⟨Nat.le_of_ble_eq_true rfl, Nat.le_of_ble_eq_true rfl⟩ ⟨Nat.le_of_ble_eq_true rfl, Nat.le_of_ble_eq_true rfl⟩ (fun rh4 ad ln vh4 ah4 h4 => ?_)
              obtain ⟨f2, rfl, fn2, bn2, ⟨gf2a, gf2b⟩, pw1, pw2, gf2c, tnf2, psf2, nif2⟩ := h4
              have fq2 := fp0.call fn2 rfl rfl
              refine m_st (st2 := [.int (iI f2), .ref h0]) rfl ?_
              refine m_call (mc2 := 0) (ms2 := 0) (As := [.int (iI f2)]) (rest := []) C (B_fine (x := f2) bn2 (by show -2147483648 ≤ f2 ∧ f2 ≤ 2147483647; omega)) dX12_table_103 kV_X12_158 rfl ck_13 rfl (Nat.le_of_ble_eq_true rfl) ⟨Nat.le_of_ble_eq_true rfl, Nat.le_of_ble_eq_true rfl⟩ ⟨Nat.le_of_ble_eq_true rfl, Nat.le_of_ble_eq_true rfl⟩ (fun rh5 vh5 ah5 h5 => ?_)
              obtain ⟨f3, rfl, fn3, bn3, ex2⟩ := h5
              refine hv5 (fq2.call fn3 rfl rfl) (show TBL vh5 ah5 from TBL.fr pw1 fn3 rfl rfl) (show STK ln vh5 ah5 from STK.fr pw2 fn3 rfl rfl) (show PSH v a vh5 ah5 0 (v 4) 0 0 from PSH.fr psf2 fn3 rfl rfl) (show f3 = f2 from ex2) (fun fq3 pw3 pw4 pw5 gf3 => ?_)
              refine m_st (st2 := [.int (iI f3)]) rfl ?_
              refine hv4 (show (-2147483648) ≤ vh5 19 ∧ vh5 19 ≤ 2147483647 from bn3.1 19) (show vh5 19 = vh4 19 from fn3.1 19 rfl) (show 0 ≤ vh5 4 ∧ vh5 4 ≤ 30 from bn3.1 4) (show vh5 4 = vh4 4 from fn3.1 4 rfl) (fun rv2 ve1 rv3 ve2 => ?_)
              exact n_iret C dX12_table_106 rfl (Nat.le_of_ble_eq_true rfl) (Nat.le_of_ble_eq_true rfl) ⟨f3, rfl, fq3, bn3, ⟨pw3, pw4, (by show vh5 19 ≤ v 19 + 4; omega), Or.inr ⟨by omega, by omega, (by show vh5 4 = v 4 + 1; omega), ((fn3.2 5 rfl).trans ((tnf2 5 (by decide) (by decide) (by decide)).trans NA_5.1)), ((fn3.2 6 rfl).trans ((tnf2 6 (by decide) (by decide) (by decide)).trans NA_5.2.1)), ((fn3.2 7 rfl).trans ((tnf2 7 (by decide) (by decide) (by decide)).trans NA_5.2.2.1)), ((fn3.2 10 rfl).trans ((tnf2 10 (by decide) (by decide) (by decide)).trans NA_5.2.2.2.1)), pw5, (fq3.2 11 rfl), (by first | (rw [if_pos (by omega)]; exact ((fn3.2 8 rfl).trans ((tnf2 8 (by decide) (by decide) (by decide)).trans NA_5.2.2.2.2.1))) | (rw [if_neg (by omega)]; exact ((fn3.2 8 rfl).trans ((tnf2 8 (by decide) (by decide) (by decide)).trans NA_5.2.2.2.2.1)))), ((fn3.2 9 rfl).trans ((tnf2 9 (by decide) (by decide) (by decide)).trans NA_5.2.2.2.2.2.1)), (fq3.2 12 rfl), (fq3.2 13 rfl), (fq3.2 14 rfl), (fq3.2 15 rfl), (fq3.2 17 rfl), (nif2.cg (fn3.2 16 rfl))⟩⟩⟩
            · refine m_aload_n (j := 1) C dX12_table_79 rfl ?_
              refine m_iconst C dX12_table_80 ?_
              refine m_call (mc2 := 0) (ms2 := 0) (As := [.int (iI 4)]) (rest := []) C (B_bad (x := 4) hB (by show -2147483648 ≤ (4 : Int) ∧ (4 : Int) ≤ 2147483647; omega)) dX12_table_81 kV_X12_154 rfl ck_13 rfl (Nat.le_of_ble_eq_true rfl) ⟨Nat.le_of_ble_eq_true rfl, Nat.le_of_ble_eq_true rfl⟩ ⟨Nat.le_of_ble_eq_true rfl, Nat.le_of_ble_eq_true rfl⟩ (fun rh6 vh6 ah6 h6 => ?_)
              obtain ⟨f4, rfl, fn4, bn4, ex3⟩ := h6
              refine hv5 (fp0.call fn4 rfl rfl) (show KS v a vh6 ah6 from KS.fr (⟨rfl, rfl⟩ : KS v a v a) fn4 rfl rfl) (show TBL vh6 ah6 from TBL.fr hT fn4 rfl rfl) (show STK ln vh6 ah6 from STK.fr hS fn4 rfl rfl) (show f4 = -1 from ex3) (fun fq4 pw6 pw7 pw8 gf4 => ?_)
              refine m_st (st2 := [.int (iI f4)]) rfl ?_
              refine hv5 (show (-2147483648) ≤ vh6 19 ∧ vh6 19 ≤ 2147483647 from bn4.1 19) (show vh6 19 = v 19 from fn4.1 19 rfl) ((pw6).1) (show 0 ≤ vh6 4 ∧ vh6 4 ≤ 30 from bn4.1 4) (show vh6 4 = v 4 from fn4.1 4 rfl) (fun rv4 ve3 ksx1 rv5 ve4 => ?_)
              exact n_iret C dX12_table_84 rfl (Nat.le_of_ble_eq_true rfl) (Nat.le_of_ble_eq_true rfl) ⟨f4, rfl, fq4, bn4, ⟨pw7, pw8, (by show vh6 19 ≤ v 19 + 4; omega), Or.inl ⟨by omega, ⟨(by show vh6 4 = v 4; omega), (fn4.2 5 rfl), (fn4.2 6 rfl), (fn4.2 7 rfl), (fn4.2 10 rfl), (pw6).1, (pw6).2, (fq4.2 11 rfl), ⟨(fn4.2 8 rfl), (fn4.2 9 rfl), (fq4.2 12 rfl), (fq4.2 13 rfl), (fq4.2 14 rfl), (fq4.2 15 rfl), (fn4.2 16 rfl), (fq4.2 17 rfl)⟩⟩, by omega⟩⟩⟩
          · replace gf1 := (gf1.resolve_right (fun q => absurd (q.1.symm.trans c3) (by decide)))
            refine m_aload_n (j := 1) C dX12_table_58 rfl ?_
            refine m_iconst C dX12_table_59 ?_
            refine m_call (mc2 := 0) (ms2 := 0) (As := [.int (iI 3)]) (rest := []) C (B_bad (x := 3) hB (by show -2147483648 ≤ (3 : Int) ∧ (3 : Int) ≤ 2147483647; omega)) dX12_table_60 kV_X12_154 rfl ck_13 rfl (Nat.le_of_ble_eq_true rfl) ⟨Nat.le_of_ble_eq_true rfl, Nat.le_of_ble_eq_true rfl⟩ ⟨Nat.le_of_ble_eq_true rfl, Nat.le_of_ble_eq_true rfl⟩ (fun rh7 vh7 ah7 h7 => ?_)
            obtain ⟨f5, rfl, fn5, bn5, ex4⟩ := h7
            refine hv5 (fp0.call fn5 rfl rfl) (show KS v a vh7 ah7 from KS.fr (⟨rfl, rfl⟩ : KS v a v a) fn5 rfl rfl) (show TBL vh7 ah7 from TBL.fr hT fn5 rfl rfl) (show STK ln vh7 ah7 from STK.fr hS fn5 rfl rfl) (show f5 = -1 from ex4) (fun fq5 pw9 pw10 pw11 gf5 => ?_)
            refine m_st (st2 := [.int (iI f5)]) rfl ?_
            refine hv5 (show (-2147483648) ≤ vh7 19 ∧ vh7 19 ≤ 2147483647 from bn5.1 19) (show vh7 19 = v 19 from fn5.1 19 rfl) ((pw9).1) (show 0 ≤ vh7 4 ∧ vh7 4 ≤ 30 from bn5.1 4) (show vh7 4 = v 4 from fn5.1 4 rfl) (fun rv6 ve5 ksx2 rv7 ve6 => ?_)
            exact n_iret C dX12_table_63 rfl (Nat.le_of_ble_eq_true rfl) (Nat.le_of_ble_eq_true rfl) ⟨f5, rfl, fq5, bn5, ⟨pw10, pw11, (by show vh7 19 ≤ v 19 + 4; omega), Or.inl ⟨by omega, ⟨(by show vh7 4 = v 4; omega), (fn5.2 5 rfl), (fn5.2 6 rfl), (fn5.2 7 rfl), (fn5.2 10 rfl), (pw9).1, (pw9).2, (fq5.2 11 rfl), ⟨(fn5.2 8 rfl), (fn5.2 9 rfl), (fq5.2 12 rfl), (fq5.2 13 rfl), (fq5.2 14 rfl), (fq5.2 15 rfl), (fn5.2 16 rfl), (fq5.2 17 rfl)⟩⟩, by omega⟩⟩⟩
        · refine m_aload_n (j := 1) C dX12_table_38 rfl ?_
          refine m_bipush (z := 6) C dX12_table_39 (by decide) ?_
          refine m_call (mc2 := 0) (ms2 := 0) (As := [.int (iI 6)]) (rest := []) C (B_bad (x := 6) hB (by show -2147483648 ≤ (6 : Int) ∧ (6 : Int) ≤ 2147483647; omega)) dX12_table_41 kV_X12_154 rfl ck_13 rfl (Nat.le_of_ble_eq_true rfl) ⟨Nat.le_of_ble_eq_true rfl, Nat.le_of_ble_eq_true rfl⟩ ⟨Nat.le_of_ble_eq_true rfl, Nat.le_of_ble_eq_true rfl⟩ (fun rh8 vh8 ah8 h8 => ?_)
          obtain ⟨f6, rfl, fn6, bn6, ex5⟩ := h8
          refine hv5 (fp0.call fn6 rfl rfl) (show KS v a vh8 ah8 from KS.fr (⟨rfl, rfl⟩ : KS v a v a) fn6 rfl rfl) (show TBL vh8 ah8 from TBL.fr hT fn6 rfl rfl) (show STK ln vh8 ah8 from STK.fr hS fn6 rfl rfl) (show f6 = -1 from ex5) (fun fq6 pw12 pw13 pw14 gf6 => ?_)
          refine m_st (st2 := [.int (iI f6)]) rfl ?_
          refine hv5 (show (-2147483648) ≤ vh8 19 ∧ vh8 19 ≤ 2147483647 from bn6.1 19) (show vh8 19 = v 19 from fn6.1 19 rfl) ((pw12).1) (show 0 ≤ vh8 4 ∧ vh8 4 ≤ 30 from bn6.1 4) (show vh8 4 = v 4 from fn6.1 4 rfl) (fun rv8 ve7 ksx3 rv9 ve8 => ?_)
          exact n_iret C dX12_table_44 rfl (Nat.le_of_ble_eq_true rfl) (Nat.le_of_ble_eq_true rfl) ⟨f6, rfl, fq6, bn6, ⟨pw13, pw14, (by show vh8 19 ≤ v 19 + 4; omega), Or.inl ⟨by omega, ⟨(by show vh8 4 = v 4; omega), (fn6.2 5 rfl), (fn6.2 6 rfl), (fn6.2 7 rfl), (fn6.2 10 rfl), (pw12).1, (pw12).2, (fq6.2 11 rfl), ⟨(fn6.2 8 rfl), (fn6.2 9 rfl), (fq6.2 12 rfl), (fq6.2 13 rfl), (fq6.2 14 rfl), (fq6.2 15 rfl), (fn6.2 16 rfl), (fq6.2 17 rfl)⟩⟩, by omega⟩⟩⟩
      · refine m_iload_n (j := 3) C dX12_table_23 rfl ?_
        refine m_bipush (z := 8) C dX12_table_24 (by decide) ?_
        refine m_icmp_ne (tgt := 38) C ⟨by omega, by omega⟩ ⟨by decide, by decide⟩ dX12_table_26 (by decide) (fun c5 => ?_) (fun c5 => ?_)
        · refine m_aload_n (j := 1) C dX12_table_38 rfl ?_
          refine m_bipush (z := 6) C dX12_table_39 (by decide) ?_
          refine m_call (mc2 := 0) (ms2 := 0) (As := [.int (iI 6)]) (rest := []) C (B_bad (x := 6) hB (by show -2147483648 ≤ (6 : Int) ∧ (6 : Int) ≤ 2147483647; omega)) dX12_table_41 kV_X12_154 rfl ck_13 rfl (Nat.le_of_ble_eq_true rfl) ⟨Nat.le_of_ble_eq_true rfl, Nat.le_of_ble_eq_true rfl⟩ ⟨Nat.le_of_ble_eq_true rfl, Nat.le_of_ble_eq_true rfl⟩ (fun rh9 vh9 ah9 h9 => ?_)
          obtain ⟨f7, rfl, fn7, bn7, ex6⟩ := h9
          refine hv5 (fp0.call fn7 rfl rfl) (show KS v a vh9 ah9 from KS.fr (⟨rfl, rfl⟩ : KS v a v a) fn7 rfl rfl) (show TBL vh9 ah9 from TBL.fr hT fn7 rfl rfl) (show STK ln vh9 ah9 from STK.fr hS fn7 rfl rfl) (show f7 = -1 from ex6) (fun fq7 pw15 pw16 pw17 gf7 => ?_)
          refine m_st (st2 := [.int (iI f7)]) rfl ?_
          refine hv5 (show (-2147483648) ≤ vh9 19 ∧ vh9 19 ≤ 2147483647 from bn7.1 19) (show vh9 19 = v 19 from fn7.1 19 rfl) ((pw15).1) (show 0 ≤ vh9 4 ∧ vh9 4 ≤ 30 from bn7.1 4) (show vh9 4 = v 4 from fn7.1 4 rfl) (fun rv10 ve9 ksx4 rv11 ve10 => ?_)
          exact n_iret C dX12_table_44 rfl (Nat.le_of_ble_eq_true rfl) (Nat.le_of_ble_eq_true rfl) ⟨f7, rfl, fq7, bn7, ⟨pw16, pw17, (by show vh9 19 ≤ v 19 + 4; omega), Or.inl ⟨by omega, ⟨(by show vh9 4 = v 4; omega), (fn7.2 5 rfl), (fn7.2 6 rfl), (fn7.2 7 rfl), (fn7.2 10 rfl), (pw15).1, (pw15).2, (fq7.2 11 rfl), ⟨(fn7.2 8 rfl), (fn7.2 9 rfl), (fq7.2 12 rfl), (fq7.2 13 rfl), (fq7.2 14 rfl), (fq7.2 15 rfl), (fn7.2 16 rfl), (fq7.2 17 rfl)⟩⟩, by omega⟩⟩⟩
        · refine m_aload_n (j := 1) C dX12_table_29 rfl ?_
          have rv12 : 0 ≤ v 4 ∧ v 4 ≤ 30 := hB.1 4
          refine m_get (k := 4) C dX12_table_30 w6_63 (by decide) rfl ?_
          refine m_bipush (z := 30) C dX12_table_33 (by decide) ?_
          refine m_icmp_ne (tgt := 45) C (r32_c (lo := 0) (hi := 30) rv12.1 rv12.2 (by decide) (by decide)) ⟨by decide, by decide⟩ dX12_table_35 (by decide) (fun c6 => ?_) (fun c6 => ?_)
          · refine m_iload (j := 0) C dX12_table_45 rfl ?_
            refine m_if_eq (tgt := 64) C ⟨by decide, by decide⟩ dX12_table_47 (by decide) (fun z => absurd z (by omega)) (fun _ => ?_)
            refine m_aload_n (j := 1) C dX12_table_50 rfl ?_
            refine m_iload_n (j := 4) C dX12_table_51 rfl ?_
            refine m_call (mc2 := 0) (ms2 := 0) (As := [.int (iI b0)]) (rest := []) C (B_isTable (t := b0) hB (by show -2147483648 ≤ b0 ∧ b0 ≤ 2147483647; omega)) dX12_table_52 kV_X12_167 rfl ck_13 rfl (Nat.le_of_ble_eq_true rfl) ⟨Nat.le_of_ble_eq_true rfl, Nat.le_of_ble_eq_true rfl⟩ ⟨Nat.le_of_ble_eq_true rfl, Nat.le_of_ble_eq_true rfl⟩ (fun rh10 vh10 ah10 h10 => ?_)
            obtain ⟨f8, rfl, fn8, bn8, ex7⟩ := h10
            obtain ⟨rfl, rfl⟩ := fn8.eq
            refine hv2 (show (f8 = 0 ∧ (b0 < 0 ∨ (v 4) ≤ b0 ∨ a 5 b0.toNat = 0)) ∨ (f8 = 1 ∧ 0 ≤ b0 ∧ b0 < (v 4) ∧ a 5 b0.toNat = 1) from ex7) (show 0 ≤ a 5 b0.toNat ∧ a 5 b0.toNat ≤ 1 from hB.2 5 (b0.toNat)) (fun gf8 ra3 => ?_)
            refine m_st (st2 := [.int (iI f8)]) rfl ?_
            refine m_if_ne (tgt := 64) C (r32_pq gf8) dX12_table_55 (by decide) (fun c7 => ?_) (fun c7 => ?_)
            · replace gf8 := (gf8.resolve_left (fun q => c7 q.1))
              refine m_iload (j := 0) C dX12_table_64 rfl ?_
              refine m_if_eq (tgt := 85) C ⟨by decide, by decide⟩ dX12_table_66 (by decide) (fun z => absurd z (by omega)) (fun _ => ?_)
              refine m_aload_n (j := 1) C dX12_table_69 rfl ?_
              refine m_geta (k := 6) C dX12_table_70 w6_65 (by decide) rfl ?_
              refine m_iload_n (j := 4) C dX12_table_73 rfl ?_
              refine m_ald (k := 6) C dX12_table_74 rfl rfl (by decide) (by omega) (by show _ < ((_ : Nat) : Int); simp only [mlen]; omega) (by decide) ?_
              have ra4 : 0 ≤ a 6 b0.toNat ∧ a 6 b0.toNat ≤ 5 := hB.2 6 (b0.toNat)
              refine m_iconst C dX12_table_75 ?_
              refine m_icmp_le (tgt := 85) C (r32_c (lo := 0) (hi := 5) ra4.1 ra4.2 (by decide) (by decide)) ⟨by decide, by decide⟩ dX12_table_76 (by decide) (fun c8 => ?_) (fun c8 => ?_)
              · refine m_aload_n (j := 1) C dX12_table_85 rfl ?_
                refine m_aload_n (j := 1) C dX12_table_86 rfl ?_
                refine m_iload_n (j := 2) C dX12_table_87 rfl ?_
                refine m_iload_n (j := 3) C dX12_table_88 rfl ?_
                refine m_iload (j := 0) C dX12_table_89 rfl ?_
                refine m_if_eq (tgt := 98) C ⟨by decide, by decide⟩ dX12_table_91 (by decide) (fun z => absurd z (by omega)) (fun _ => ?_)
                refine m_iload_n (j := 4) C dX12_table_94 rfl ?_
                refine m_goto (tgt := 99) C dX12_table_95 (by decide) ?_
                refine m_iconst C dX12_table_99 ?_
                refine n_call (mc2 := 1) (ms2 := 4110) (As := [.int (iI k0), .int (iI d0), .int (iI b0), .int (iI (-1))]) (rest := [.ref h0]) C (M_newTable (k0 := k0) (d0 := d0) (b0 := b0) (s0 := (-1)) hB hT hS (by omega) (by omega) (by omega) (by omega) (by omega)) dX12_table_100 kV_X12_178 rfl ck_13 rfl (Nat.le_of_ble_eq_true rfl) ⟨Nat.le_of_ble_eq_true rfl, Nat.le_of_ble_eq_true rfl⟩ ⟨Nat.le_of_ble_eq_true rfl, Nat.le_of_ble_eq_true rfl⟩ (fun rh11 ad ln vh11 ah11 h11 => ?_)
                obtain ⟨f9, rfl, fn9, bn9, ⟨gf9a, gf9b⟩, pw18, pw19, gf9c, tnf9, psf9, nif9⟩ := h11
                have fq9 := fp0.call fn9 rfl rfl
                refine m_st (st2 := [.int (iI f9), .ref h0]) rfl ?_
                refine m_call (mc2 := 0) (ms2 := 0) (As := [.int (iI f9)]) (rest := []) C (B_fine (x := f9) bn9 (by show -2147483648 ≤ f9 ∧ f9 ≤ 2147483647; omega)) dX12_table_103 kV_X12_158 rfl ck_13 rfl (Nat.le_of_ble_eq_true rfl) ⟨Nat.le_of_ble_eq_true rfl, Nat.le_of_ble_eq_true rfl⟩ ⟨Nat.le_of_ble_eq_true rfl, Nat.le_of_ble_eq_true rfl⟩ (fun rh12 vh12 ah12 h12 => ?_)
                obtain ⟨f10, rfl, fn10, bn10, ex8⟩ := h12
                refine hv5 (fq9.call fn10 rfl rfl) (show TBL vh12 ah12 from TBL.fr pw18 fn10 rfl rfl) (show STK ln vh12 ah12 from STK.fr pw19 fn10 rfl rfl) (show PSH v a vh12 ah12 0 (v 4) 0 0 from PSH.fr psf9 fn10 rfl rfl) (show f10 = f9 from ex8) (fun fq10 pw20 pw21 pw22 gf10 => ?_)
                refine m_st (st2 := [.int (iI f10)]) rfl ?_
                refine hv4 (show (-2147483648) ≤ vh12 19 ∧ vh12 19 ≤ 2147483647 from bn10.1 19) (show vh12 19 = vh11 19 from fn10.1 19 rfl) (show 0 ≤ vh12 4 ∧ vh12 4 ≤ 30 from bn10.1 4) (show vh12 4 = vh11 4 from fn10.1 4 rfl) (fun rv13 ve11 rv14 ve12 => ?_)
                exact n_iret C dX12_table_106 rfl (Nat.le_of_ble_eq_true rfl) (Nat.le_of_ble_eq_true rfl) ⟨f10, rfl, fq10, bn10, ⟨pw20, pw21, (by show vh12 19 ≤ v 19 + 4; omega), Or.inr ⟨by omega, by omega, (by show vh12 4 = v 4 + 1; omega), ((fn10.2 5 rfl).trans ((tnf9 5 (by decide) (by decide) (by decide)).trans NA_5.1)), ((fn10.2 6 rfl).trans ((tnf9 6 (by decide) (by decide) (by decide)).trans NA_5.2.1)), ((fn10.2 7 rfl).trans ((tnf9 7 (by decide) (by decide) (by decide)).trans NA_5.2.2.1)), ((fn10.2 10 rfl).trans ((tnf9 10 (by decide) (by decide) (by decide)).trans NA_5.2.2.2.1)), pw22, (fq10.2 11 rfl), (by first | (rw [if_pos (by omega)]; exact ((fn10.2 8 rfl).trans ((tnf9 8 (by decide) (by decide) (by decide)).trans NA_5.2.2.2.2.1))) | (rw [if_neg (by omega)]; exact ((fn10.2 8 rfl).trans ((tnf9 8 (by decide) (by decide) (by decide)).trans NA_5.2.2.2.2.1)))), ((fn10.2 9 rfl).trans ((tnf9 9 (by decide) (by decide) (by decide)).trans NA_5.2.2.2.2.2.1)), (fq10.2 12 rfl), (fq10.2 13 rfl), (fq10.2 14 rfl), (fq10.2 15 rfl), (fq10.2 17 rfl), (nif9.cg (fn10.2 16 rfl))⟩⟩⟩
              · refine m_aload_n (j := 1) C dX12_table_79 rfl ?_
                refine m_iconst C dX12_table_80 ?_
                refine m_call (mc2 := 0) (ms2 := 0) (As := [.int (iI 4)]) (rest := []) C (B_bad (x := 4) hB (by show -2147483648 ≤ (4 : Int) ∧ (4 : Int) ≤ 2147483647; omega)) dX12_table_81 kV_X12_154 rfl ck_13 rfl (Nat.le_of_ble_eq_true rfl) ⟨Nat.le_of_ble_eq_true rfl, Nat.le_of_ble_eq_true rfl⟩ ⟨Nat.le_of_ble_eq_true rfl, Nat.le_of_ble_eq_true rfl⟩ (fun rh13 vh13 ah13 h13 => ?_)
                obtain ⟨f11, rfl, fn11, bn11, ex9⟩ := h13
                refine hv5 (fp0.call fn11 rfl rfl) (show KS v a vh13 ah13 from KS.fr (⟨rfl, rfl⟩ : KS v a v a) fn11 rfl rfl) (show TBL vh13 ah13 from TBL.fr hT fn11 rfl rfl) (show STK ln vh13 ah13 from STK.fr hS fn11 rfl rfl) (show f11 = -1 from ex9) (fun fq11 pw23 pw24 pw25 gf11 => ?_)
                refine m_st (st2 := [.int (iI f11)]) rfl ?_
                refine hv5 (show (-2147483648) ≤ vh13 19 ∧ vh13 19 ≤ 2147483647 from bn11.1 19) (show vh13 19 = v 19 from fn11.1 19 rfl) ((pw23).1) (show 0 ≤ vh13 4 ∧ vh13 4 ≤ 30 from bn11.1 4) (show vh13 4 = v 4 from fn11.1 4 rfl) (fun rv15 ve13 ksx5 rv16 ve14 => ?_)
                exact n_iret C dX12_table_84 rfl (Nat.le_of_ble_eq_true rfl) (Nat.le_of_ble_eq_true rfl) ⟨f11, rfl, fq11, bn11, ⟨pw24, pw25, (by show vh13 19 ≤ v 19 + 4; omega), Or.inl ⟨by omega, ⟨(by show vh13 4 = v 4; omega), (fn11.2 5 rfl), (fn11.2 6 rfl), (fn11.2 7 rfl), (fn11.2 10 rfl), (pw23).1, (pw23).2, (fq11.2 11 rfl), ⟨(fn11.2 8 rfl), (fn11.2 9 rfl), (fq11.2 12 rfl), (fq11.2 13 rfl), (fq11.2 14 rfl), (fq11.2 15 rfl), (fn11.2 16 rfl), (fq11.2 17 rfl)⟩⟩, by omega⟩⟩⟩
            · replace gf8 := (gf8.resolve_right (fun q => absurd (q.1.symm.trans c7) (by decide)))
              refine m_aload_n (j := 1) C dX12_table_58 rfl ?_
              refine m_iconst C dX12_table_59 ?_
              refine m_call (mc2 := 0) (ms2 := 0) (As := [.int (iI 3)]) (rest := []) C (B_bad (x := 3) hB (by show -2147483648 ≤ (3 : Int) ∧ (3 : Int) ≤ 2147483647; omega)) dX12_table_60 kV_X12_154 rfl ck_13 rfl (Nat.le_of_ble_eq_true rfl) ⟨Nat.le_of_ble_eq_true rfl, Nat.le_of_ble_eq_true rfl⟩ ⟨Nat.le_of_ble_eq_true rfl, Nat.le_of_ble_eq_true rfl⟩ (fun rh14 vh14 ah14 h14 => ?_)
              obtain ⟨f12, rfl, fn12, bn12, ex10⟩ := h14
              refine hv5 (fp0.call fn12 rfl rfl) (show KS v a vh14 ah14 from KS.fr (⟨rfl, rfl⟩ : KS v a v a) fn12 rfl rfl) (show TBL vh14 ah14 from TBL.fr hT fn12 rfl rfl) (show STK ln vh14 ah14 from STK.fr hS fn12 rfl rfl) (show f12 = -1 from ex10) (fun fq12 pw26 pw27 pw28 gf12 => ?_)
              refine m_st (st2 := [.int (iI f12)]) rfl ?_
              refine hv5 (show (-2147483648) ≤ vh14 19 ∧ vh14 19 ≤ 2147483647 from bn12.1 19) (show vh14 19 = v 19 from fn12.1 19 rfl) ((pw26).1) (show 0 ≤ vh14 4 ∧ vh14 4 ≤ 30 from bn12.1 4) (show vh14 4 = v 4 from fn12.1 4 rfl) (fun rv17 ve15 ksx6 rv18 ve16 => ?_)
              exact n_iret C dX12_table_63 rfl (Nat.le_of_ble_eq_true rfl) (Nat.le_of_ble_eq_true rfl) ⟨f12, rfl, fq12, bn12, ⟨pw27, pw28, (by show vh14 19 ≤ v 19 + 4; omega), Or.inl ⟨by omega, ⟨(by show vh14 4 = v 4; omega), (fn12.2 5 rfl), (fn12.2 6 rfl), (fn12.2 7 rfl), (fn12.2 10 rfl), (pw26).1, (pw26).2, (fq12.2 11 rfl), ⟨(fn12.2 8 rfl), (fn12.2 9 rfl), (fq12.2 12 rfl), (fq12.2 13 rfl), (fq12.2 14 rfl), (fq12.2 15 rfl), (fn12.2 16 rfl), (fq12.2 17 rfl)⟩⟩, by omega⟩⟩⟩
          · refine m_aload_n (j := 1) C dX12_table_38 rfl ?_
            refine m_bipush (z := 6) C dX12_table_39 (by decide) ?_
            refine m_call (mc2 := 0) (ms2 := 0) (As := [.int (iI 6)]) (rest := []) C (B_bad (x := 6) hB (by show -2147483648 ≤ (6 : Int) ∧ (6 : Int) ≤ 2147483647; omega)) dX12_table_41 kV_X12_154 rfl ck_13 rfl (Nat.le_of_ble_eq_true rfl) ⟨Nat.le_of_ble_eq_true rfl, Nat.le_of_ble_eq_true rfl⟩ ⟨Nat.le_of_ble_eq_true rfl, Nat.le_of_ble_eq_true rfl⟩ (fun rh15 vh15 ah15 h15 => ?_)
            obtain ⟨f13, rfl, fn13, bn13, ex11⟩ := h15
            refine hv5 (fp0.call fn13 rfl rfl) (show KS v a vh15 ah15 from KS.fr (⟨rfl, rfl⟩ : KS v a v a) fn13 rfl rfl) (show TBL vh15 ah15 from TBL.fr hT fn13 rfl rfl) (show STK ln vh15 ah15 from STK.fr hS fn13 rfl rfl) (show f13 = -1 from ex11) (fun fq13 pw29 pw30 pw31 gf13 => ?_)
            refine m_st (st2 := [.int (iI f13)]) rfl ?_
            refine hv5 (show (-2147483648) ≤ vh15 19 ∧ vh15 19 ≤ 2147483647 from bn13.1 19) (show vh15 19 = v 19 from fn13.1 19 rfl) ((pw29).1) (show 0 ≤ vh15 4 ∧ vh15 4 ≤ 30 from bn13.1 4) (show vh15 4 = v 4 from fn13.1 4 rfl) (fun rv19 ve17 ksx7 rv20 ve18 => ?_)
            exact n_iret C dX12_table_44 rfl (Nat.le_of_ble_eq_true rfl) (Nat.le_of_ble_eq_true rfl) ⟨f13, rfl, fq13, bn13, ⟨pw30, pw31, (by show vh15 19 ≤ v 19 + 4; omega), Or.inl ⟨by omega, ⟨(by show vh15 4 = v 4; omega), (fn13.2 5 rfl), (fn13.2 6 rfl), (fn13.2 7 rfl), (fn13.2 10 rfl), (pw29).1, (pw29).2, (fq13.2 11 rfl), ⟨(fn13.2 8 rfl), (fn13.2 9 rfl), (fq13.2 12 rfl), (fq13.2 13 rfl), (fq13.2 14 rfl), (fq13.2 15 rfl), (fn13.2 16 rfl), (fq13.2 17 rfl)⟩⟩, by omega⟩⟩⟩
    · refine m_st (st2 := [.int (iI 0)]) (by rw [h2e]) ?_
      refine m_if_eq (tgt := 38) C ⟨by decide, by decide⟩ dX12_table_14 (by decide) (fun _ => ?_) (fun z => absurd z (by omega))
      refine m_aload_n (j := 1) C dX12_table_38 rfl ?_
      refine m_bipush (z := 6) C dX12_table_39 (by decide) ?_
      refine m_call (mc2 := 0) (ms2 := 0) (As := [.int (iI 6)]) (rest := []) C (B_bad (x := 6) hB (by show -2147483648 ≤ (6 : Int) ∧ (6 : Int) ≤ 2147483647; omega)) dX12_table_41 kV_X12_154 rfl ck_13 rfl (Nat.le_of_ble_eq_true rfl) ⟨Nat.le_of_ble_eq_true rfl, Nat.le_of_ble_eq_true rfl⟩ ⟨Nat.le_of_ble_eq_true rfl, Nat.le_of_ble_eq_true rfl⟩ (fun rh16 vh16 ah16 h16 => ?_)
      obtain ⟨f14, rfl, fn14, bn14, ex12⟩ := h16
      refine hv5 (fp0.call fn14 rfl rfl) (show KS v a vh16 ah16 from KS.fr (⟨rfl, rfl⟩ : KS v a v a) fn14 rfl rfl) (show TBL vh16 ah16 from TBL.fr hT fn14 rfl rfl) (show STK ln vh16 ah16 from STK.fr hS fn14 rfl rfl) (show f14 = -1 from ex12) (fun fq14 pw32 pw33 pw34 gf14 => ?_)
      refine m_st (st2 := [.int (iI f14)]) rfl ?_
      refine hv5 (show (-2147483648) ≤ vh16 19 ∧ vh16 19 ≤ 2147483647 from bn14.1 19) (show vh16 19 = v 19 from fn14.1 19 rfl) ((pw32).1) (show 0 ≤ vh16 4 ∧ vh16 4 ≤ 30 from bn14.1 4) (show vh16 4 = v 4 from fn14.1 4 rfl) (fun rv21 ve19 ksx8 rv22 ve20 => ?_)
      exact n_iret C dX12_table_44 rfl (Nat.le_of_ble_eq_true rfl) (Nat.le_of_ble_eq_true rfl) ⟨f14, rfl, fq14, bn14, ⟨pw33, pw34, (by show vh16 19 ≤ v 19 + 4; omega), Or.inl ⟨by omega, ⟨(by show vh16 4 = v 4; omega), (fn14.2 5 rfl), (fn14.2 6 rfl), (fn14.2 7 rfl), (fn14.2 10 rfl), (pw32).1, (pw32).2, (fq14.2 11 rfl), ⟨(fn14.2 8 rfl), (fn14.2 9 rfl), (fq14.2 12 rfl), (fq14.2 13 rfl), (fq14.2 14 rfl), (fq14.2 15 rfl), (fn14.2 16 rfl), (fq14.2 17 rfl)⟩⟩, by omega⟩⟩⟩
  · refine m_st (st2 := [.int (iI 0)]) (by rw [h1e]) ?_
    refine m_istore (lv2 := [(4, .int (iI 0)), (0, .ref h0), (1, .int (iI k0)), (2, .int (iI d0)), (3, .int (iI b0))]) C dX12_table_6 (by decide) rfl ?_
    refine m_iload_n (j := 2) C dX12_table_8 rfl ?_
    refine m_iconst C dX12_table_9 ?_
    refine m_iconst C dX12_table_10 ?_
    refine m_callS (As := [.int (iI k0), .int (iI 0), .int (iI 4)]) (rest := []) C (fun L E => s_isIn (iI k0) (iI 0) (iI 4)) dX12_table_11 kS_X12_174 rfl rfl (Nat.le_of_ble_eq_true rfl) ⟨Nat.le_of_ble_eq_true rfl, Nat.le_of_ble_eq_true rfl⟩ ⟨Nat.le_of_ble_eq_true rfl, Nat.le_of_ble_eq_true rfl⟩ ?_
    rcases inn_c (x := k0) (lo := 0) (hi := 4) ⟨by omega, by omega⟩ ⟨by decide, by decide⟩ ⟨by decide, by decide⟩ with ⟨h17a, h17b, h17e⟩ | ⟨h17a, h17e⟩
    · refine m_st (st2 := [.int (iI 1)]) (by rw [h17e]) ?_
      refine m_if_eq (tgt := 38) C ⟨by decide, by decide⟩ dX12_table_14 (by decide) (fun z => absurd z (by omega)) (fun _ => ?_)
      refine m_iload_n (j := 3) C dX12_table_17 rfl ?_
      refine m_bipush (z := 6) C dX12_table_18 (by decide) ?_
      refine m_icmp_eq (tgt := 29) C ⟨by omega, by omega⟩ ⟨by decide, by decide⟩ dX12_table_20 (by decide) (fun c9 => ?_) (fun c9 => ?_)
      · refine m_aload_n (j := 1) C dX12_table_29 rfl ?_
        have rv23 : 0 ≤ v 4 ∧ v 4 ≤ 30 := hB.1 4
        refine m_get (k := 4) C dX12_table_30 w6_63 (by decide) rfl ?_
        refine m_bipush (z := 30) C dX12_table_33 (by decide) ?_
        refine m_icmp_ne (tgt := 45) C (r32_c (lo := 0) (hi := 30) rv23.1 rv23.2 (by decide) (by decide)) ⟨by decide, by decide⟩ dX12_table_35 (by decide) (fun c10 => ?_) (fun c10 => ?_)
        · refine m_iload (j := 0) C dX12_table_45 rfl ?_
          refine m_if_eq (tgt := 64) C ⟨by decide, by decide⟩ dX12_table_47 (by decide) (fun _ => ?_) (fun z => absurd z (by omega))
          refine m_iload (j := 0) C dX12_table_64 rfl ?_
          refine m_if_eq (tgt := 85) C ⟨by decide, by decide⟩ dX12_table_66 (by decide) (fun _ => ?_) (fun z => absurd z (by omega))
          refine m_aload_n (j := 1) C dX12_table_85 rfl ?_
          refine m_aload_n (j := 1) C dX12_table_86 rfl ?_
          refine m_iload_n (j := 2) C dX12_table_87 rfl ?_
          refine m_iload_n (j := 3) C dX12_table_88 rfl ?_
          refine m_iload (j := 0) C dX12_table_89 rfl ?_
          refine m_if_eq (tgt := 98) C ⟨by decide, by decide⟩ dX12_table_91 (by decide) (fun _ => ?_) (fun z => absurd z (by omega))
          refine m_iconst C dX12_table_98 ?_
          refine m_iconst C dX12_table_99 ?_
          refine n_call (mc2 := 1) (ms2 := 4110) (As := [.int (iI k0), .int (iI d0), .int (iI (-1)), .int (iI (-1))]) (rest := [.ref h0]) C (M_newTable (k0 := k0) (d0 := d0) (b0 := (-1)) (s0 := (-1)) hB hT hS (by omega) (by omega) (by omega) (by omega) (by omega)) dX12_table_100 kV_X12_178 rfl ck_13 rfl (Nat.le_of_ble_eq_true rfl) ⟨Nat.le_of_ble_eq_true rfl, Nat.le_of_ble_eq_true rfl⟩ ⟨Nat.le_of_ble_eq_true rfl, Nat.le_of_ble_eq_true rfl⟩ (fun rh18 ad ln vh18 ah18 h18 => ?_)
          obtain ⟨f15, rfl, fn15, bn15, ⟨gf15a, gf15b⟩, pw35, pw36, gf15c, tnf15, psf15, nif15⟩ := h18
          have fq15 := fp0.call fn15 rfl rfl
          refine m_st (st2 := [.int (iI f15), .ref h0]) rfl ?_
          refine m_call (mc2 := 0) (ms2 := 0) (As := [.int (iI f15)]) (rest := []) C (B_fine (x := f15) bn15 (by show -2147483648 ≤ f15 ∧ f15 ≤ 2147483647; omega)) dX12_table_103 kV_X12_158 rfl ck_13 rfl (Nat.le_of_ble_eq_true rfl) ⟨Nat.le_of_ble_eq_true rfl, Nat.le_of_ble_eq_true rfl⟩ ⟨Nat.le_of_ble_eq_true rfl, Nat.le_of_ble_eq_true rfl⟩ (fun rh19 vh19 ah19 h19 => ?_)
          obtain ⟨f16, rfl, fn16, bn16, ex13⟩ := h19
          refine hv5 (fq15.call fn16 rfl rfl) (show TBL vh19 ah19 from TBL.fr pw35 fn16 rfl rfl) (show STK ln vh19 ah19 from STK.fr pw36 fn16 rfl rfl) (show PSH v a vh19 ah19 0 (v 4) 0 0 from PSH.fr psf15 fn16 rfl rfl) (show f16 = f15 from ex13) (fun fq16 pw37 pw38 pw39 gf16 => ?_)
          refine m_st (st2 := [.int (iI f16)]) rfl ?_
          refine hv4 (show (-2147483648) ≤ vh19 19 ∧ vh19 19 ≤ 2147483647 from bn16.1 19) (show vh19 19 = vh18 19 from fn16.1 19 rfl) (show 0 ≤ vh19 4 ∧ vh19 4 ≤ 30 from bn16.1 4) (show vh19 4 = vh18 4 from fn16.1 4 rfl) (fun rv24 ve21 rv25 ve22 => ?_)
          exact n_iret C dX12_table_106 rfl (Nat.le_of_ble_eq_true rfl) (Nat.le_of_ble_eq_true rfl) ⟨f16, rfl, fq16, bn16, ⟨pw37, pw38, (by show vh19 19 ≤ v 19 + 4; omega), Or.inr ⟨by omega, by omega, (by show vh19 4 = v 4 + 1; omega), ((fn16.2 5 rfl).trans ((tnf15 5 (by decide) (by decide) (by decide)).trans NA_5.1)), ((fn16.2 6 rfl).trans ((tnf15 6 (by decide) (by decide) (by decide)).trans NA_5.2.1)), ((fn16.2 7 rfl).trans ((tnf15 7 (by decide) (by decide) (by decide)).trans NA_5.2.2.1)), ((fn16.2 10 rfl).trans ((tnf15 10 (by decide) (by decide) (by decide)).trans NA_5.2.2.2.1)), pw39, (fq16.2 11 rfl), (by first | (rw [if_pos (by omega)]; exact ((fn16.2 8 rfl).trans ((tnf15 8 (by decide) (by decide) (by decide)).trans NA_5.2.2.2.2.1))) | (rw [if_neg (by omega)]; exact ((fn16.2 8 rfl).trans ((tnf15 8 (by decide) (by decide) (by decide)).trans NA_5.2.2.2.2.1)))), ((fn16.2 9 rfl).trans ((tnf15 9 (by decide) (by decide) (by decide)).trans NA_5.2.2.2.2.2.1)), (fq16.2 12 rfl), (fq16.2 13 rfl), (fq16.2 14 rfl), (fq16.2 15 rfl), (fq16.2 17 rfl), (nif15.cg (fn16.2 16 rfl))⟩⟩⟩
        · refine m_aload_n (j := 1) C dX12_table_38 rfl ?_
          refine m_bipush (z := 6) C dX12_table_39 (by decide) ?_
          refine m_call (mc2 := 0) (ms2 := 0) (As := [.int (iI 6)]) (rest := []) C (B_bad (x := 6) hB (by show -2147483648 ≤ (6 : Int) ∧ (6 : Int) ≤ 2147483647; omega)) dX12_table_41 kV_X12_154 rfl ck_13 rfl (Nat.le_of_ble_eq_true rfl) ⟨Nat.le_of_ble_eq_true rfl, Nat.le_of_ble_eq_true rfl⟩ ⟨Nat.le_of_ble_eq_true rfl, Nat.le_of_ble_eq_true rfl⟩ (fun rh20 vh20 ah20 h20 => ?_)
          obtain ⟨f17, rfl, fn17, bn17, ex14⟩ := h20
          refine hv5 (fp0.call fn17 rfl rfl) (show KS v a vh20 ah20 from KS.fr (⟨rfl, rfl⟩ : KS v a v a) fn17 rfl rfl) (show TBL vh20 ah20 from TBL.fr hT fn17 rfl rfl) (show STK ln vh20 ah20 from STK.fr hS fn17 rfl rfl) (show f17 = -1 from ex14) (fun fq17 pw40 pw41 pw42 gf17 => ?_)
          refine m_st (st2 := [.int (iI f17)]) rfl ?_
          refine hv5 (show (-2147483648) ≤ vh20 19 ∧ vh20 19 ≤ 2147483647 from bn17.1 19) (show vh20 19 = v 19 from fn17.1 19 rfl) ((pw40).1) (show 0 ≤ vh20 4 ∧ vh20 4 ≤ 30 from bn17.1 4) (show vh20 4 = v 4 from fn17.1 4 rfl) (fun rv26 ve23 ksx9 rv27 ve24 => ?_)
          exact n_iret C dX12_table_44 rfl (Nat.le_of_ble_eq_true rfl) (Nat.le_of_ble_eq_true rfl) ⟨f17, rfl, fq17, bn17, ⟨pw41, pw42, (by show vh20 19 ≤ v 19 + 4; omega), Or.inl ⟨by omega, ⟨(by show vh20 4 = v 4; omega), (fn17.2 5 rfl), (fn17.2 6 rfl), (fn17.2 7 rfl), (fn17.2 10 rfl), (pw40).1, (pw40).2, (fq17.2 11 rfl), ⟨(fn17.2 8 rfl), (fn17.2 9 rfl), (fq17.2 12 rfl), (fq17.2 13 rfl), (fq17.2 14 rfl), (fq17.2 15 rfl), (fn17.2 16 rfl), (fq17.2 17 rfl)⟩⟩, by omega⟩⟩⟩
      · refine m_iload_n (j := 3) C dX12_table_23 rfl ?_
        refine m_bipush (z := 8) C dX12_table_24 (by decide) ?_
        refine m_icmp_ne (tgt := 38) C ⟨by omega, by omega⟩ ⟨by decide, by decide⟩ dX12_table_26 (by decide) (fun c11 => ?_) (fun c11 => ?_)
        · refine m_aload_n (j := 1) C dX12_table_38 rfl ?_
          refine m_bipush (z := 6) C dX12_table_39 (by decide) ?_
          refine m_call (mc2 := 0) (ms2 := 0) (As := [.int (iI 6)]) (rest := []) C (B_bad (x := 6) hB (by show -2147483648 ≤ (6 : Int) ∧ (6 : Int) ≤ 2147483647; omega)) dX12_table_41 kV_X12_154 rfl ck_13 rfl (Nat.le_of_ble_eq_true rfl) ⟨Nat.le_of_ble_eq_true rfl, Nat.le_of_ble_eq_true rfl⟩ ⟨Nat.le_of_ble_eq_true rfl, Nat.le_of_ble_eq_true rfl⟩ (fun rh21 vh21 ah21 h21 => ?_)
          obtain ⟨f18, rfl, fn18, bn18, ex15⟩ := h21
          refine hv5 (fp0.call fn18 rfl rfl) (show KS v a vh21 ah21 from KS.fr (⟨rfl, rfl⟩ : KS v a v a) fn18 rfl rfl) (show TBL vh21 ah21 from TBL.fr hT fn18 rfl rfl) (show STK ln vh21 ah21 from STK.fr hS fn18 rfl rfl) (show f18 = -1 from ex15) (fun fq18 pw43 pw44 pw45 gf18 => ?_)
          refine m_st (st2 := [.int (iI f18)]) rfl ?_
          refine hv5 (show (-2147483648) ≤ vh21 19 ∧ vh21 19 ≤ 2147483647 from bn18.1 19) (show vh21 19 = v 19 from fn18.1 19 rfl) ((pw43).1) (show 0 ≤ vh21 4 ∧ vh21 4 ≤ 30 from bn18.1 4) (show vh21 4 = v 4 from fn18.1 4 rfl) (fun rv28 ve25 ksx10 rv29 ve26 => ?_)
          exact n_iret C dX12_table_44 rfl (Nat.le_of_ble_eq_true rfl) (Nat.le_of_ble_eq_true rfl) ⟨f18, rfl, fq18, bn18, ⟨pw44, pw45, (by show vh21 19 ≤ v 19 + 4; omega), Or.inl ⟨by omega, ⟨(by show vh21 4 = v 4; omega), (fn18.2 5 rfl), (fn18.2 6 rfl), (fn18.2 7 rfl), (fn18.2 10 rfl), (pw43).1, (pw43).2, (fq18.2 11 rfl), ⟨(fn18.2 8 rfl), (fn18.2 9 rfl), (fq18.2 12 rfl), (fq18.2 13 rfl), (fq18.2 14 rfl), (fq18.2 15 rfl), (fn18.2 16 rfl), (fq18.2 17 rfl)⟩⟩, by omega⟩⟩⟩
        · refine m_aload_n (j := 1) C dX12_table_29 rfl ?_
          have rv30 : 0 ≤ v 4 ∧ v 4 ≤ 30 := hB.1 4
          refine m_get (k := 4) C dX12_table_30 w6_63 (by decide) rfl ?_
          refine m_bipush (z := 30) C dX12_table_33 (by decide) ?_
          refine m_icmp_ne (tgt := 45) C (r32_c (lo := 0) (hi := 30) rv30.1 rv30.2 (by decide) (by decide)) ⟨by decide, by decide⟩ dX12_table_35 (by decide) (fun c12 => ?_) (fun c12 => ?_)
          · refine m_iload (j := 0) C dX12_table_45 rfl ?_
            refine m_if_eq (tgt := 64) C ⟨by decide, by decide⟩ dX12_table_47 (by decide) (fun _ => ?_) (fun z => absurd z (by omega))
            refine m_iload (j := 0) C dX12_table_64 rfl ?_
            refine m_if_eq (tgt := 85) C ⟨by decide, by decide⟩ dX12_table_66 (by decide) (fun _ => ?_) (fun z => absurd z (by omega))
            refine m_aload_n (j := 1) C dX12_table_85 rfl ?_
            refine m_aload_n (j := 1) C dX12_table_86 rfl ?_
            refine m_iload_n (j := 2) C dX12_table_87 rfl ?_
            refine m_iload_n (j := 3) C dX12_table_88 rfl ?_
            refine m_iload (j := 0) C dX12_table_89 rfl ?_
            refine m_if_eq (tgt := 98) C ⟨by decide, by decide⟩ dX12_table_91 (by decide) (fun _ => ?_) (fun z => absurd z (by omega))
            refine m_iconst C dX12_table_98 ?_
            refine m_iconst C dX12_table_99 ?_
            refine n_call (mc2 := 1) (ms2 := 4110) (As := [.int (iI k0), .int (iI d0), .int (iI (-1)), .int (iI (-1))]) (rest := [.ref h0]) C (M_newTable (k0 := k0) (d0 := d0) (b0 := (-1)) (s0 := (-1)) hB hT hS (by omega) (by omega) (by omega) (by omega) (by omega)) dX12_table_100 kV_X12_178 rfl ck_13 rfl (Nat.le_of_ble_eq_true rfl) ⟨Nat.le_of_ble_eq_true rfl, Nat.le_of_ble_eq_true rfl⟩ ⟨Nat.le_of_ble_eq_true rfl, Nat.le_of_ble_eq_true rfl⟩ (fun rh22 ad ln vh22 ah22 h22 => ?_)
            obtain ⟨f19, rfl, fn19, bn19, ⟨gf19a, gf19b⟩, pw46, pw47, gf19c, tnf19, psf19, nif19⟩ := h22
            have fq19 := fp0.call fn19 rfl rfl
            refine m_st (st2 := [.int (iI f19), .ref h0]) rfl ?_
            refine m_call (mc2 := 0) (ms2 := 0) (As := [.int (iI f19)]) (rest := []) C (B_fine (x := f19) bn19 (by show -2147483648 ≤ f19 ∧ f19 ≤ 2147483647; omega)) dX12_table_103 kV_X12_158 rfl ck_13 rfl (Nat.le_of_ble_eq_true rfl) ⟨Nat.le_of_ble_eq_true rfl, Nat.le_of_ble_eq_true rfl⟩ ⟨Nat.le_of_ble_eq_true rfl, Nat.le_of_ble_eq_true rfl⟩ (fun rh23 vh23 ah23 h23 => ?_)
            obtain ⟨f20, rfl, fn20, bn20, ex16⟩ := h23
            refine hv5 (fq19.call fn20 rfl rfl) (show TBL vh23 ah23 from TBL.fr pw46 fn20 rfl rfl) (show STK ln vh23 ah23 from STK.fr pw47 fn20 rfl rfl) (show PSH v a vh23 ah23 0 (v 4) 0 0 from PSH.fr psf19 fn20 rfl rfl) (show f20 = f19 from ex16) (fun fq20 pw48 pw49 pw50 gf20 => ?_)
            refine m_st (st2 := [.int (iI f20)]) rfl ?_
            refine hv4 (show (-2147483648) ≤ vh23 19 ∧ vh23 19 ≤ 2147483647 from bn20.1 19) (show vh23 19 = vh22 19 from fn20.1 19 rfl) (show 0 ≤ vh23 4 ∧ vh23 4 ≤ 30 from bn20.1 4) (show vh23 4 = vh22 4 from fn20.1 4 rfl) (fun rv31 ve27 rv32 ve28 => ?_)
            exact n_iret C dX12_table_106 rfl (Nat.le_of_ble_eq_true rfl) (Nat.le_of_ble_eq_true rfl) ⟨f20, rfl, fq20, bn20, ⟨pw48, pw49, (by show vh23 19 ≤ v 19 + 4; omega), Or.inr ⟨by omega, by omega, (by show vh23 4 = v 4 + 1; omega), ((fn20.2 5 rfl).trans ((tnf19 5 (by decide) (by decide) (by decide)).trans NA_5.1)), ((fn20.2 6 rfl).trans ((tnf19 6 (by decide) (by decide) (by decide)).trans NA_5.2.1)), ((fn20.2 7 rfl).trans ((tnf19 7 (by decide) (by decide) (by decide)).trans NA_5.2.2.1)), ((fn20.2 10 rfl).trans ((tnf19 10 (by decide) (by decide) (by decide)).trans NA_5.2.2.2.1)), pw50, (fq20.2 11 rfl), (by first | (rw [if_pos (by omega)]; exact ((fn20.2 8 rfl).trans ((tnf19 8 (by decide) (by decide) (by decide)).trans NA_5.2.2.2.2.1))) | (rw [if_neg (by omega)]; exact ((fn20.2 8 rfl).trans ((tnf19 8 (by decide) (by decide) (by decide)).trans NA_5.2.2.2.2.1)))), ((fn20.2 9 rfl).trans ((tnf19 9 (by decide) (by decide) (by decide)).trans NA_5.2.2.2.2.2.1)), (fq20.2 12 rfl), (fq20.2 13 rfl), (fq20.2 14 rfl), (fq20.2 15 rfl), (fq20.2 17 rfl), (nif19.cg (fn20.2 16 rfl))⟩⟩⟩
          · refine m_aload_n (j := 1) C dX12_table_38 rfl ?_
            refine m_bipush (z := 6) C dX12_table_39 (by decide) ?_
            refine m_call (mc2 := 0) (ms2 := 0) (As := [.int (iI 6)]) (rest := []) C (B_bad (x := 6) hB (by show -2147483648 ≤ (6 : Int) ∧ (6 : Int) ≤ 2147483647; omega)) dX12_table_41 kV_X12_154 rfl ck_13 rfl (Nat.le_of_ble_eq_true rfl) ⟨Nat.le_of_ble_eq_true rfl, Nat.le_of_ble_eq_true rfl⟩ ⟨Nat.le_of_ble_eq_true rfl, Nat.le_of_ble_eq_true rfl⟩ (fun rh24 vh24 ah24 h24 => ?_)
            obtain ⟨f21, rfl, fn21, bn21, ex17⟩ := h24
            refine hv5 (fp0.call fn21 rfl rfl) (show KS v a vh24 ah24 from KS.fr (⟨rfl, rfl⟩ : KS v a v a) fn21 rfl rfl) (show TBL vh24 ah24 from TBL.fr hT fn21 rfl rfl) (show STK ln vh24 ah24 from STK.fr hS fn21 rfl rfl) (show f21 = -1 from ex17) (fun fq21 pw51 pw52 pw53 gf21 => ?_)
            refine m_st (st2 := [.int (iI f21)]) rfl ?_
            refine hv5 (show (-2147483648) ≤ vh24 19 ∧ vh24 19 ≤ 2147483647 from bn21.1 19) (show vh24 19 = v 19 from fn21.1 19 rfl) ((pw51).1) (show 0 ≤ vh24 4 ∧ vh24 4 ≤ 30 from bn21.1 4) (show vh24 4 = v 4 from fn21.1 4 rfl) (fun rv33 ve29 ksx11 rv34 ve30 => ?_)
            exact n_iret C dX12_table_44 rfl (Nat.le_of_ble_eq_true rfl) (Nat.le_of_ble_eq_true rfl) ⟨f21, rfl, fq21, bn21, ⟨pw52, pw53, (by show vh24 19 ≤ v 19 + 4; omega), Or.inl ⟨by omega, ⟨(by show vh24 4 = v 4; omega), (fn21.2 5 rfl), (fn21.2 6 rfl), (fn21.2 7 rfl), (fn21.2 10 rfl), (pw51).1, (pw51).2, (fq21.2 11 rfl), ⟨(fn21.2 8 rfl), (fn21.2 9 rfl), (fq21.2 12 rfl), (fq21.2 13 rfl), (fq21.2 14 rfl), (fq21.2 15 rfl), (fn21.2 16 rfl), (fq21.2 17 rfl)⟩⟩, by omega⟩⟩⟩
    · refine m_st (st2 := [.int (iI 0)]) (by rw [h17e]) ?_
      refine m_if_eq (tgt := 38) C ⟨by decide, by decide⟩ dX12_table_14 (by decide) (fun _ => ?_) (fun z => absurd z (by omega))
      refine m_aload_n (j := 1) C dX12_table_38 rfl ?_
      refine m_bipush (z := 6) C dX12_table_39 (by decide) ?_
      refine m_call (mc2 := 0) (ms2 := 0) (As := [.int (iI 6)]) (rest := []) C (B_bad (x := 6) hB (by show -2147483648 ≤ (6 : Int) ∧ (6 : Int) ≤ 2147483647; omega)) dX12_table_41 kV_X12_154 rfl ck_13 rfl (Nat.le_of_ble_eq_true rfl) ⟨Nat.le_of_ble_eq_true rfl, Nat.le_of_ble_eq_true rfl⟩ ⟨Nat.le_of_ble_eq_true rfl, Nat.le_of_ble_eq_true rfl⟩ (fun rh25 vh25 ah25 h25 => ?_)
      obtain ⟨f22, rfl, fn22, bn22, ex18⟩ := h25
      refine hv5 (fp0.call fn22 rfl rfl) (show KS v a vh25 ah25 from KS.fr (⟨rfl, rfl⟩ : KS v a v a) fn22 rfl rfl) (show TBL vh25 ah25 from TBL.fr hT fn22 rfl rfl) (show STK ln vh25 ah25 from STK.fr hS fn22 rfl rfl) (show f22 = -1 from ex18) (fun fq22 pw54 pw55 pw56 gf22 => ?_)
      refine m_st (st2 := [.int (iI f22)]) rfl ?_
      refine hv5 (show (-2147483648) ≤ vh25 19 ∧ vh25 19 ≤ 2147483647 from bn22.1 19) (show vh25 19 = v 19 from fn22.1 19 rfl) ((pw54).1) (show 0 ≤ vh25 4 ∧ vh25 4 ≤ 30 from bn22.1 4) (show vh25 4 = v 4 from fn22.1 4 rfl) (fun rv35 ve31 ksx12 rv36 ve32 => ?_)
      exact n_iret C dX12_table_44 rfl (Nat.le_of_ble_eq_true rfl) (Nat.le_of_ble_eq_true rfl) ⟨f22, rfl, fq22, bn22, ⟨pw55, pw56, (by show vh25 19 ≤ v 19 + 4; omega), Or.inl ⟨by omega, ⟨(by show vh25 4 = v 4; omega), (fn22.2 5 rfl), (fn22.2 6 rfl), (fn22.2 7 rfl), (fn22.2 10 rfl), (pw54).1, (pw54).2, (fq22.2 11 rfl), ⟨(fn22.2 8 rfl), (fn22.2 9 rfl), (fq22.2 12 rfl), (fq22.2 13 rfl), (fq22.2 14 rfl), (fq22.2 15 rfl), (fn22.2 16 rfl), (fq22.2 17 rfl)⟩⟩, by omega⟩⟩⟩
set_option maxHeartbeats 4000000 in
set_option maxRecDepth 100000 in
theorem M_join {l : Launch} {G : GT} {h0 : Nat} {ad ln : Nat → Nat} {v : Nat → Int} {a : Nat → Nat → Int} {x y : Int} (hB : BX v a) (hT : TBL v a) (hS : STK ln v a) (hx : -2147483648 ≤ x ∧ x ≤ 2147483647) (hy : -2147483648 ≤ y ∧ y ≤ 2147483647) (h19 : v 19 ≤ 2044) : Mn l G yX12_join cX12_join 3 (some .int) 2 [.int (iI x), .int (iI y)] h0 ad ln v a 1 4110 (fun r ln2 v2 a2 => ∃ f : Int, r = some (.int (iI f)) ∧ fr [0, 1, 4, 19] [5, 6, 7, 8, 9, 10, 16, 18, 70] v a v2 a2 ∧ BX v2 a2 ∧ (TBL v2 a2 ∧ STK ln2 v2 a2 ∧ v2 19 ≤ v 19 + 4 ∧ ((f = -1 ∧ TSAME v a v2 a2 ∧ ¬ (0 ≤ x ∧ x < v 4 ∧ a 5 x.toNat = 1 ∧ a 6 x.toNat ≤ 3 ∧ 0 ≤ y ∧ y < v 4 ∧ a 5 y.toNat = 1 ∧ a 6 y.toNat ≤ 3 ∧ v 4 ≠ 30)) ∨ (f = v 4 ∧ (0 ≤ x ∧ x < v 4 ∧ a 5 x.toNat = 1 ∧ a 6 x.toNat ≤ 3 ∧ 0 ≤ y ∧ y < v 4 ∧ a 5 y.toNat = 1 ∧ a 6 y.toNat ≤ 3 ∧ v 4 ≠ 30) ∧ TNEW 5 (max (a 7 x.toNat) (a 7 y.toNat)) x y v a v2 a2)))) := by
  refine Mn.mk (by decide) (Nat.le_of_ble_eq_true rfl) ?_
  intro p e s m args below meth c A C
  have h30 : 0 ≤ v 4 ∧ v 4 ≤ 30 := hB.1 4
  obtain ⟨n9, hn9, hk9⟩ := hS.2.2
  refine hv3 (hS.1) (hS.2.1) (show fr [0, 1, 4, 19] [5, 6, 7, 8, 9, 10, 16, 18, 70] v a v a from fr.refl) (fun hl1 hl2 fp0 => ?_)
  refine m_aload_n (j := 0) C dX12_join_0 rfl ?_
  refine m_iload_n (j := 1) C dX12_join_1 rfl ?_
  have rv1 : 0 ≤ v 4 ∧ v 4 ≤ 30 := hB.1 4
  refine m_call (mc2 := 0) (ms2 := 0) (As := [.int (iI x)]) (rest := []) C (B_isTable (t := x) hB (by show -2147483648 ≤ x ∧ x ≤ 2147483647; omega)) dX12_join_2 kV_X12_167 rfl ck_13 rfl (Nat.le_of_ble_eq_true rfl) ⟨Nat.le_of_ble_eq_true rfl, Nat.le_of_ble_eq_true rfl⟩ ⟨Nat.le_of_ble_eq_true rfl, Nat.le_of_ble_eq_true rfl⟩ (fun rh1 vh1 ah1 h1 => ?_)
  obtain ⟨f1, rfl, fn1, bn1, ex1⟩ := h1
  obtain ⟨rfl, rfl⟩ := fn1.eq
  refine hv2 (show (f1 = 0 ∧ (x < 0 ∨ (v 4) ≤ x ∨ a 5 x.toNat = 0)) ∨ (f1 = 1 ∧ 0 ≤ x ∧ x < (v 4) ∧ a 5 x.toNat = 1) from ex1) (show 0 ≤ a 5 x.toNat ∧ a 5 x.toNat ≤ 1 from hB.2 5 (x.toNat)) (fun gf1 ra1 => ?_)
  refine m_st (st2 := [.int (iI f1)]) rfl ?_
  refine m_if_ne (tgt := 14) C (r32_pq gf1) dX12_join_5 (by decide) (fun c1 => ?_) (fun c1 => ?_)
  · replace gf1 := (gf1.resolve_left (fun q => c1 q.1))
    refine m_aload_n (j := 0) C dX12_join_14 rfl ?_
    refine m_geta (k := 6) C dX12_join_15 w6_65 (by decide) rfl ?_
    refine m_iload_n (j := 1) C dX12_join_18 rfl ?_
    refine m_ald (k := 6) C dX12_join_19 rfl rfl (by decide) (by omega) (by show _ < ((_ : Nat) : Int); simp only [mlen]; omega) (by decide) ?_
    have ra2 : 0 ≤ a 6 x.toNat ∧ a 6 x.toNat ≤ 5 := hB.2 6 (x.toNat)
    refine m_iconst C dX12_join_20 ?_
    refine m_icmp_le (tgt := 30) C (r32_c (lo := 0) (hi := 5) ra2.1 ra2.2 (by decide) (by decide)) ⟨by decide, by decide⟩ dX12_join_21 (by decide) (fun c2 => ?_) (fun c2 => ?_)
    · refine m_aload_n (j := 0) C dX12_join_30 rfl ?_
      refine m_iload_n (j := 2) C dX12_join_31 rfl ?_
      refine m_call (mc2 := 0) (ms2 := 0) (As := [.int (iI y)]) (rest := []) C (B_isTable (t := y) hB (by show -2147483648 ≤ y ∧ y ≤ 2147483647; omega)) dX12_join_32 kV_X12_167 rfl ck_13 rfl (Nat.le_of_ble_eq_true rfl) ⟨Nat.le_of_ble_eq_true rfl, Nat.le_of_ble_eq_true rfl⟩ ⟨Nat.le_of_ble_eq_true rfl, Nat.le_of_ble_eq_true rfl⟩ (fun rh2 vh2 ah2 h2 => ?_)
      obtain ⟨f2, rfl, fn2, bn2, ex2⟩ := h2
      obtain ⟨rfl, rfl⟩ := fn2.eq
      refine hv2 (show (f2 = 0 ∧ (y < 0 ∨ (v 4) ≤ y ∨ a 5 y.toNat = 0)) ∨ (f2 = 1 ∧ 0 ≤ y ∧ y < (v 4) ∧ a 5 y.toNat = 1) from ex2) (show 0 ≤ a 5 y.toNat ∧ a 5 y.toNat ≤ 1 from hB.2 5 (y.toNat)) (fun gf2 ra3 => ?_)
      refine m_st (st2 := [.int (iI f2)]) rfl ?_
      refine m_if_ne (tgt := 44) C (r32_pq gf2) dX12_join_35 (by decide) (fun c3 => ?_) (fun c3 => ?_)
      · replace gf2 := (gf2.resolve_left (fun q => c3 q.1))
        refine m_aload_n (j := 0) C dX12_join_44 rfl ?_
        refine m_geta (k := 6) C dX12_join_45 w6_65 (by decide) rfl ?_
        refine m_iload_n (j := 2) C dX12_join_48 rfl ?_
        refine m_ald (k := 6) C dX12_join_49 rfl rfl (by decide) (by omega) (by show _ < ((_ : Nat) : Int); simp only [mlen]; omega) (by decide) ?_
        have ra4 : 0 ≤ a 6 y.toNat ∧ a 6 y.toNat ≤ 5 := hB.2 6 (y.toNat)
        refine m_iconst C dX12_join_50 ?_
        refine m_icmp_le (tgt := 60) C (r32_c (lo := 0) (hi := 5) ra4.1 ra4.2 (by decide) (by decide)) ⟨by decide, by decide⟩ dX12_join_51 (by decide) (fun c4 => ?_) (fun c4 => ?_)
        · refine m_aload_n (j := 0) C dX12_join_60 rfl ?_
          refine m_get (k := 4) C dX12_join_61 w6_63 (by decide) rfl ?_
          refine m_bipush (z := 30) C dX12_join_64 (by decide) ?_
          refine m_icmp_ne (tgt := 76) C (r32_c (lo := 0) (hi := 30) rv1.1 rv1.2 (by decide) (by decide)) ⟨by decide, by decide⟩ dX12_join_66 (by decide) (fun c5 => ?_) (fun c5 => ?_)
          · refine m_aload_n (j := 0) C dX12_join_76 rfl ?_
            refine m_aload_n (j := 0) C dX12_join_77 rfl ?_
            refine m_iconst C dX12_join_78 ?_
            refine m_aload_n (j := 0) C dX12_join_79 rfl ?_
            refine m_geta (k := 7) C dX12_join_80 w6_66 (by decide) rfl ?_
            refine m_iload_n (j := 1) C dX12_join_83 rfl ?_
            refine m_ald (k := 7) C dX12_join_84 rfl rfl (by decide) (by omega) (by show _ < ((_ : Nat) : Int); simp only [mlen]; omega) (by decide) ?_
            have ra5 : (-2147483648) ≤ a 7 x.toNat ∧ a 7 x.toNat ≤ 2147483647 := hB.2 7 (x.toNat)
            refine m_aload_n (j := 0) C dX12_join_85 rfl ?_
            refine m_geta (k := 7) C dX12_join_86 w6_66 (by decide) rfl ?_
            refine m_iload_n (j := 2) C dX12_join_89 rfl ?_
            refine m_ald (k := 7) C dX12_join_90 rfl rfl (by decide) (by omega) (by show _ < ((_ : Nat) : Int); simp only [mlen]; omega) (by decide) ?_
            have ra6 : (-2147483648) ≤ a 7 y.toNat ∧ a 7 y.toNat ≤ 2147483647 := hB.2 7 (y.toNat)
            obtain ⟨mn1, hmn1, emn1⟩ := mmax_c (x := a 7 x.toNat) (y := a 7 y.toNat) ⟨by omega, by omega⟩ ⟨by omega, by omega⟩
            refine m_mmax (w := iI mn1) C dX12_join_91 w7_60 w2_148 w1_14 w2_149 ⟨Nat.le_of_ble_eq_true rfl, Nat.le_of_ble_eq_true rfl⟩ ⟨Nat.le_of_ble_eq_true rfl, Nat.le_of_ble_eq_true rfl⟩ (Nat.le_of_ble_eq_true rfl) emn1 ?_
            refine m_iload_n (j := 1) C dX12_join_94 rfl ?_
            refine m_iload_n (j := 2) C dX12_join_95 rfl ?_
            refine n_call (mc2 := 1) (ms2 := 4110) (As := [.int (iI 5), .int (iI mn1), .int (iI x), .int (iI y)]) (rest := [.ref h0]) C (M_newTable (k0 := 5) (d0 := mn1) (b0 := x) (s0 := y) hB hT hS (by omega) (by omega) (by omega) (by omega) (by omega)) dX12_join_96 kV_X12_178 rfl ck_13 rfl (Nat.le_of_ble_eq_true rfl) ⟨Nat.le_of_ble_eq_true rfl, Nat.le_of_ble_eq_true rfl⟩ ⟨Nat.le_of_ble_eq_true rfl, Nat.le_of_ble_eq_true rfl⟩ (fun rh3 ad ln vh3 ah3 h3 => ?_)
            obtain ⟨f3, rfl, fn3, bn3, ⟨gf3a, gf3b⟩, pw1, pw2, gf3c, tnf3, psf3, nif3⟩ := h3
            have fq3 := fp0.call fn3 rfl rfl
            refine m_st (st2 := [.int (iI f3), .ref h0]) rfl ?_
            refine m_call (mc2 := 0) (ms2 := 0) (As := [.int (iI f3)]) (rest := []) C (B_fine (x := f3) bn3 (by show -2147483648 ≤ f3 ∧ f3 ≤ 2147483647; omega)) dX12_join_99 kV_X12_158 rfl ck_13 rfl (Nat.le_of_ble_eq_true rfl) ⟨Nat.le_of_ble_eq_true rfl, Nat.le_of_ble_eq_true rfl⟩ ⟨Nat.le_of_ble_eq_true rfl, Nat.le_of_ble_eq_true rfl⟩ (fun rh4 vh4 ah4 h4 => ?_)
            obtain ⟨f4, rfl, fn4, bn4, ex3⟩ := h4
            refine hv5 (fq3.call fn4 rfl rfl) (show TBL vh4 ah4 from TBL.fr pw1 fn4 rfl rfl) (show STK ln vh4 ah4 from STK.fr pw2 fn4 rfl rfl) (show PSH v a vh4 ah4 0 (v 4) 0 0 from PSH.fr psf3 fn4 rfl rfl) (show f4 = f3 from ex3) (fun fq4 pw3 pw4 pw5 gf4 => ?_)
            refine m_st (st2 := [.int (iI f4)]) rfl ?_
            refine hv4 (show (-2147483648) ≤ vh4 19 ∧ vh4 19 ≤ 2147483647 from bn4.1 19) (show vh4 19 = vh3 19 from fn4.1 19 rfl) (show 0 ≤ vh4 4 ∧ vh4 4 ≤ 30 from bn4.1 4) (show vh4 4 = vh3 4 from fn4.1 4 rfl) (fun rv2 ve1 rv3 ve2 => ?_)
            have mx0 : max (a 7 x.toNat) (a 7 y.toNat) = mn1 := by omega
            exact n_iret C dX12_join_102 rfl (Nat.le_of_ble_eq_true rfl) (Nat.le_of_ble_eq_true rfl) ⟨f4, rfl, fq4, bn4, ⟨pw3, pw4, (by show vh4 19 ≤ v 19 + 4; omega), Or.inr ⟨by omega, by omega, (by show vh4 4 = v 4 + 1; omega), ((fn4.2 5 rfl).trans ((tnf3 5 (by decide) (by decide) (by decide)).trans NA_5.1)), ((fn4.2 6 rfl).trans ((tnf3 6 (by decide) (by decide) (by decide)).trans NA_5.2.1)), (by rw [mx0]; exact ((fn4.2 7 rfl).trans ((tnf3 7 (by decide) (by decide) (by decide)).trans NA_5.2.2.1))), ((fn4.2 10 rfl).trans ((tnf3 10 (by decide) (by decide) (by decide)).trans NA_5.2.2.2.1)), pw5, (fq4.2 11 rfl), ((fn4.2 8 rfl).trans ((tnf3 8 (by decide) (by decide) (by decide)).trans NA_5.2.2.2.2.1)), ((fn4.2 9 rfl).trans ((tnf3 9 (by decide) (by decide) (by decide)).trans NA_5.2.2.2.2.2.1)), (fq4.2 12 rfl), (fq4.2 13 rfl), (fq4.2 14 rfl), (fq4.2 15 rfl), (fq4.2 17 rfl), (nif3.cg (fn4.2 16 rfl))⟩⟩⟩
          · refine m_aload_n (j := 0) C dX12_join_69 rfl ?_
            refine m_bipush (z := 6) C dX12_join_70 (by decide) ?_
            refine m_call (mc2 := 0) (ms2 := 0) (As := [.int (iI 6)]) (rest := []) C (B_bad (x := 6) hB (by show -2147483648 ≤ (6 : Int) ∧ (6 : Int) ≤ 2147483647; omega)) dX12_join_72 kV_X12_154 rfl ck_13 rfl (Nat.le_of_ble_eq_true rfl) ⟨Nat.le_of_ble_eq_true rfl, Nat.le_of_ble_eq_true rfl⟩ ⟨Nat.le_of_ble_eq_true rfl, Nat.le_of_ble_eq_true rfl⟩ (fun rh5 vh5 ah5 h5 => ?_)
            obtain ⟨f5, rfl, fn5, bn5, ex4⟩ := h5
            refine hv5 (fp0.call fn5 rfl rfl) (show KS v a vh5 ah5 from KS.fr (⟨rfl, rfl⟩ : KS v a v a) fn5 rfl rfl) (show TBL vh5 ah5 from TBL.fr hT fn5 rfl rfl) (show STK ln vh5 ah5 from STK.fr hS fn5 rfl rfl) (show f5 = -1 from ex4) (fun fq5 pw6 pw7 pw8 gf5 => ?_)
            refine m_st (st2 := [.int (iI f5)]) rfl ?_
            refine hv5 (show (-2147483648) ≤ vh5 19 ∧ vh5 19 ≤ 2147483647 from bn5.1 19) (show vh5 19 = v 19 from fn5.1 19 rfl) ((pw6).1) (show 0 ≤ vh5 4 ∧ vh5 4 ≤ 30 from bn5.1 4) (show vh5 4 = v 4 from fn5.1 4 rfl) (fun rv4 ve3 ksx1 rv5 ve4 => ?_)
            exact n_iret C dX12_join_75 rfl (Nat.le_of_ble_eq_true rfl) (Nat.le_of_ble_eq_true rfl) ⟨f5, rfl, fq5, bn5, ⟨pw7, pw8, (by show vh5 19 ≤ v 19 + 4; omega), Or.inl ⟨by omega, ⟨(by show vh5 4 = v 4; omega), (fn5.2 5 rfl), (fn5.2 6 rfl), (fn5.2 7 rfl), (fn5.2 10 rfl), (pw6).1, (pw6).2, (fq5.2 11 rfl), ⟨(fn5.2 8 rfl), (fn5.2 9 rfl), (fq5.2 12 rfl), (fq5.2 13 rfl), (fq5.2 14 rfl), (fq5.2 15 rfl), (fn5.2 16 rfl), (fq5.2 17 rfl)⟩⟩, by omega⟩⟩⟩
        · refine m_aload_n (j := 0) C dX12_join_54 rfl ?_
          refine m_iconst C dX12_join_55 ?_
          refine m_call (mc2 := 0) (ms2 := 0) (As := [.int (iI 4)]) (rest := []) C (B_bad (x := 4) hB (by show -2147483648 ≤ (4 : Int) ∧ (4 : Int) ≤ 2147483647; omega)) dX12_join_56 kV_X12_154 rfl ck_13 rfl (Nat.le_of_ble_eq_true rfl) ⟨Nat.le_of_ble_eq_true rfl, Nat.le_of_ble_eq_true rfl⟩ ⟨Nat.le_of_ble_eq_true rfl, Nat.le_of_ble_eq_true rfl⟩ (fun rh6 vh6 ah6 h6 => ?_)
          obtain ⟨f6, rfl, fn6, bn6, ex5⟩ := h6
          refine hv5 (fp0.call fn6 rfl rfl) (show KS v a vh6 ah6 from KS.fr (⟨rfl, rfl⟩ : KS v a v a) fn6 rfl rfl) (show TBL vh6 ah6 from TBL.fr hT fn6 rfl rfl) (show STK ln vh6 ah6 from STK.fr hS fn6 rfl rfl) (show f6 = -1 from ex5) (fun fq6 pw9 pw10 pw11 gf6 => ?_)
          refine m_st (st2 := [.int (iI f6)]) rfl ?_
          refine hv5 (show (-2147483648) ≤ vh6 19 ∧ vh6 19 ≤ 2147483647 from bn6.1 19) (show vh6 19 = v 19 from fn6.1 19 rfl) ((pw9).1) (show 0 ≤ vh6 4 ∧ vh6 4 ≤ 30 from bn6.1 4) (show vh6 4 = v 4 from fn6.1 4 rfl) (fun rv6 ve5 ksx2 rv7 ve6 => ?_)
          exact n_iret C dX12_join_59 rfl (Nat.le_of_ble_eq_true rfl) (Nat.le_of_ble_eq_true rfl) ⟨f6, rfl, fq6, bn6, ⟨pw10, pw11, (by show vh6 19 ≤ v 19 + 4; omega), Or.inl ⟨by omega, ⟨(by show vh6 4 = v 4; omega), (fn6.2 5 rfl), (fn6.2 6 rfl), (fn6.2 7 rfl), (fn6.2 10 rfl), (pw9).1, (pw9).2, (fq6.2 11 rfl), ⟨(fn6.2 8 rfl), (fn6.2 9 rfl), (fq6.2 12 rfl), (fq6.2 13 rfl), (fq6.2 14 rfl), (fq6.2 15 rfl), (fn6.2 16 rfl), (fq6.2 17 rfl)⟩⟩, by omega⟩⟩⟩
      · replace gf2 := (gf2.resolve_right (fun q => absurd (q.1.symm.trans c3) (by decide)))
        refine m_aload_n (j := 0) C dX12_join_38 rfl ?_
        refine m_iconst C dX12_join_39 ?_
        refine m_call (mc2 := 0) (ms2 := 0) (As := [.int (iI 3)]) (rest := []) C (B_bad (x := 3) hB (by show -2147483648 ≤ (3 : Int) ∧ (3 : Int) ≤ 2147483647; omega)) dX12_join_40 kV_X12_154 rfl ck_13 rfl (Nat.le_of_ble_eq_true rfl) ⟨Nat.le_of_ble_eq_true rfl, Nat.le_of_ble_eq_true rfl⟩ ⟨Nat.le_of_ble_eq_true rfl, Nat.le_of_ble_eq_true rfl⟩ (fun rh7 vh7 ah7 h7 => ?_)
        obtain ⟨f7, rfl, fn7, bn7, ex6⟩ := h7
        refine hv5 (fp0.call fn7 rfl rfl) (show KS v a vh7 ah7 from KS.fr (⟨rfl, rfl⟩ : KS v a v a) fn7 rfl rfl) (show TBL vh7 ah7 from TBL.fr hT fn7 rfl rfl) (show STK ln vh7 ah7 from STK.fr hS fn7 rfl rfl) (show f7 = -1 from ex6) (fun fq7 pw12 pw13 pw14 gf7 => ?_)
        refine m_st (st2 := [.int (iI f7)]) rfl ?_
        refine hv5 (show (-2147483648) ≤ vh7 19 ∧ vh7 19 ≤ 2147483647 from bn7.1 19) (show vh7 19 = v 19 from fn7.1 19 rfl) ((pw12).1) (show 0 ≤ vh7 4 ∧ vh7 4 ≤ 30 from bn7.1 4) (show vh7 4 = v 4 from fn7.1 4 rfl) (fun rv8 ve7 ksx3 rv9 ve8 => ?_)
        exact n_iret C dX12_join_43 rfl (Nat.le_of_ble_eq_true rfl) (Nat.le_of_ble_eq_true rfl) ⟨f7, rfl, fq7, bn7, ⟨pw13, pw14, (by show vh7 19 ≤ v 19 + 4; omega), Or.inl ⟨by omega, ⟨(by show vh7 4 = v 4; omega), (fn7.2 5 rfl), (fn7.2 6 rfl), (fn7.2 7 rfl), (fn7.2 10 rfl), (pw12).1, (pw12).2, (fq7.2 11 rfl), ⟨(fn7.2 8 rfl), (fn7.2 9 rfl), (fq7.2 12 rfl), (fq7.2 13 rfl), (fq7.2 14 rfl), (fq7.2 15 rfl), (fn7.2 16 rfl), (fq7.2 17 rfl)⟩⟩, by omega⟩⟩⟩
    · refine m_aload_n (j := 0) C dX12_join_24 rfl ?_
      refine m_iconst C dX12_join_25 ?_
      refine m_call (mc2 := 0) (ms2 := 0) (As := [.int (iI 4)]) (rest := []) C (B_bad (x := 4) hB (by show -2147483648 ≤ (4 : Int) ∧ (4 : Int) ≤ 2147483647; omega)) dX12_join_26 kV_X12_154 rfl ck_13 rfl (Nat.le_of_ble_eq_true rfl) ⟨Nat.le_of_ble_eq_true rfl, Nat.le_of_ble_eq_true rfl⟩ ⟨Nat.le_of_ble_eq_true rfl, Nat.le_of_ble_eq_true rfl⟩ (fun rh8 vh8 ah8 h8 => ?_)
      obtain ⟨f8, rfl, fn8, bn8, ex7⟩ := h8
      refine hv5 (fp0.call fn8 rfl rfl) (show KS v a vh8 ah8 from KS.fr (⟨rfl, rfl⟩ : KS v a v a) fn8 rfl rfl) (show TBL vh8 ah8 from TBL.fr hT fn8 rfl rfl) (show STK ln vh8 ah8 from STK.fr hS fn8 rfl rfl) (show f8 = -1 from ex7) (fun fq8 pw15 pw16 pw17 gf8 => ?_)
      refine m_st (st2 := [.int (iI f8)]) rfl ?_
      refine hv5 (show (-2147483648) ≤ vh8 19 ∧ vh8 19 ≤ 2147483647 from bn8.1 19) (show vh8 19 = v 19 from fn8.1 19 rfl) ((pw15).1) (show 0 ≤ vh8 4 ∧ vh8 4 ≤ 30 from bn8.1 4) (show vh8 4 = v 4 from fn8.1 4 rfl) (fun rv10 ve9 ksx4 rv11 ve10 => ?_)
      exact n_iret C dX12_join_29 rfl (Nat.le_of_ble_eq_true rfl) (Nat.le_of_ble_eq_true rfl) ⟨f8, rfl, fq8, bn8, ⟨pw16, pw17, (by show vh8 19 ≤ v 19 + 4; omega), Or.inl ⟨by omega, ⟨(by show vh8 4 = v 4; omega), (fn8.2 5 rfl), (fn8.2 6 rfl), (fn8.2 7 rfl), (fn8.2 10 rfl), (pw15).1, (pw15).2, (fq8.2 11 rfl), ⟨(fn8.2 8 rfl), (fn8.2 9 rfl), (fq8.2 12 rfl), (fq8.2 13 rfl), (fq8.2 14 rfl), (fq8.2 15 rfl), (fn8.2 16 rfl), (fq8.2 17 rfl)⟩⟩, by omega⟩⟩⟩
  · replace gf1 := (gf1.resolve_right (fun q => absurd (q.1.symm.trans c1) (by decide)))
    refine m_aload_n (j := 0) C dX12_join_8 rfl ?_
    refine m_iconst C dX12_join_9 ?_
    refine m_call (mc2 := 0) (ms2 := 0) (As := [.int (iI 3)]) (rest := []) C (B_bad (x := 3) hB (by show -2147483648 ≤ (3 : Int) ∧ (3 : Int) ≤ 2147483647; omega)) dX12_join_10 kV_X12_154 rfl ck_13 rfl (Nat.le_of_ble_eq_true rfl) ⟨Nat.le_of_ble_eq_true rfl, Nat.le_of_ble_eq_true rfl⟩ ⟨Nat.le_of_ble_eq_true rfl, Nat.le_of_ble_eq_true rfl⟩ (fun rh9 vh9 ah9 h9 => ?_)
    obtain ⟨f9, rfl, fn9, bn9, ex8⟩ := h9
    refine hv5 (fp0.call fn9 rfl rfl) (show KS v a vh9 ah9 from KS.fr (⟨rfl, rfl⟩ : KS v a v a) fn9 rfl rfl) (show TBL vh9 ah9 from TBL.fr hT fn9 rfl rfl) (show STK ln vh9 ah9 from STK.fr hS fn9 rfl rfl) (show f9 = -1 from ex8) (fun fq9 pw18 pw19 pw20 gf9 => ?_)
    refine m_st (st2 := [.int (iI f9)]) rfl ?_
    refine hv5 (show (-2147483648) ≤ vh9 19 ∧ vh9 19 ≤ 2147483647 from bn9.1 19) (show vh9 19 = v 19 from fn9.1 19 rfl) ((pw18).1) (show 0 ≤ vh9 4 ∧ vh9 4 ≤ 30 from bn9.1 4) (show vh9 4 = v 4 from fn9.1 4 rfl) (fun rv12 ve11 ksx5 rv13 ve12 => ?_)
    exact n_iret C dX12_join_13 rfl (Nat.le_of_ble_eq_true rfl) (Nat.le_of_ble_eq_true rfl) ⟨f9, rfl, fq9, bn9, ⟨pw19, pw20, (by show vh9 19 ≤ v 19 + 4; omega), Or.inl ⟨by omega, ⟨(by show vh9 4 = v 4; omega), (fn9.2 5 rfl), (fn9.2 6 rfl), (fn9.2 7 rfl), (fn9.2 10 rfl), (pw18).1, (pw18).2, (fq9.2 11 rfl), ⟨(fn9.2 8 rfl), (fn9.2 9 rfl), (fq9.2 12 rfl), (fq9.2 13 rfl), (fq9.2 14 rfl), (fq9.2 15 rfl), (fn9.2 16 rfl), (fq9.2 17 rfl)⟩⟩, by omega⟩⟩⟩
set_option maxHeartbeats 4000000 in
set_option maxRecDepth 100000 in
theorem B_areCells {l : Launch} {G : GT} {h0 : Nat} {ad ln : Nat → Nat} {v : Nat → Int} {a : Nat → Nat → Int}  {t q u : Int} (hB : BX v a) (ht : 0 ≤ t ∧ t < 30) (hq : 0 ≤ q ∧ q ≤ 3000) (hu : 0 ≤ u ∧ q + u ≤ 3000) : Mm l G yX12_areCells cX12_areCells 6 (some .boolean) 1 [.int (iI t), .int (iI q), .int (iI u)] h0 ad ln v a 0 0 (fun r v2 a2 => ∃ f : Int, r = some (.int (iI f)) ∧ fr [] [] v a v2 a2 ∧ BX v2 a2 ∧ ((f = 0 ∨ f = 1) ∧ (f = 1 ↔ ACL (a 2) q u (DC (a 7 t.toNat))))) := by
  refine Mm.mk (by decide) (Nat.le_of_ble_eq_true rfl) ?_
  intro p e s m args below meth c A C
  have fp0 : fr [] [] v a v a := fr.refl
  refine m_iconst C dX12_areCells_0 ?_
  refine m_istore (lv2 := [(4, .int (iI 1)), (0, .ref h0), (1, .int (iI t)), (2, .int (iI q)), (3, .int (iI u))]) C dX12_areCells_1 (by decide) rfl ?_
  refine m_iload_n (j := 3) C dX12_areCells_3 rfl ?_
  refine m_istore (lv2 := [(5, .int (iI q)), (4, .int (iI 1)), (0, .ref h0), (1, .int (iI t)), (2, .int (iI q)), (3, .int (iI u))]) C dX12_areCells_4 (by decide) rfl ?_
  have Lp1 : ∀ (nn : Nat) (g k : Int) (vb1 : Nat → Int) (ab1 : Nat → Nat → Int), 3001 - k < (nn : Int) → BX vb1 ab1 → fr [] [] v a vb1 ab1 → (g = 0 ∨ g = 1) → (q ≤ k ∧ k ≤ q + u) → (g = 1 ↔ ACL (a 2) q (k - q) (DC (a 7 t.toNat))) → mw p l e (rmq 1 0 0) s m args below meth c G A 6 (MQ below (Qm G A (fun rq Lq Eq => ∃ (vq : Nat → Int) (aq : Nat → Nat → Int), mI G h0 ad ln vq aq Lq Eq ∧ (fun r v2 a2 => ∃ f : Int, r = some (.int (iI f)) ∧ fr [] [] v a v2 a2 ∧ BX v2 a2 ∧ ((f = 0 ∨ f = 1) ∧ (f = 1 ↔ ACL (a 2) q u (DC (a 7 t.toNat))))) rq vq aq)) args s 0 0 A) h0 ad ln vb1 ab1 0 0 6 [(5, .int (iI k)), (4, .int (iI g)), (0, .ref h0), (1, .int (iI t)), (2, .int (iI q)), (3, .int (iI u))] [] := by
    intro nn
    induction nn with
    | zero =>
      intro g k vb1 ab1 hm bxb1 fpb1 hg hk hac
      exact absurd hm (by omega)
    | succ nn ih1 =>
      intro g k vb1 ab1 hm bxb1 fpb1 hg hk hac
      refine m_iload (j := 0) C dX12_areCells_6 rfl ?_
      refine m_iload_n (j := 4) C dX12_areCells_8 rfl ?_
      refine m_iload_n (j := 5) C dX12_areCells_9 rfl ?_
      refine m_iadd C dX12_areCells_10 ?_
      refine m_icmp_ge (tgt := 65) C ⟨by omega, by omega⟩ ⟨by omega, by omega⟩ dX12_areCells_11 (by decide) (fun c1 => ?_) (fun c1 => ?_)
      · refine m_iload (j := 1) C dX12_areCells_65 rfl ?_
        exact m_zret C dX12_areCells_67 rfl (by omega) (Nat.le_of_ble_eq_true rfl) (Nat.le_of_ble_eq_true rfl) ⟨g, rfl, fpb1, bxb1, ⟨by omega, by rw [show u = k - q by omega]; exact hac⟩⟩
      · refine m_iload (j := 1) C dX12_areCells_14 rfl ?_
        refine m_if_eq (tgt := 56) C (r32_01 hg) dX12_areCells_16 (by decide) (fun c2 => ?_) (fun c2 => ?_)
        · clear hg
          refine m_iconst C dX12_areCells_56 ?_
          refine m_istore (lv2 := [(4, .int (iI 0)), (5, .int (iI k)), (0, .ref h0), (1, .int (iI t)), (2, .int (iI q)), (3, .int (iI u))]) C dX12_areCells_57 (by decide) rfl ?_
          refine m_iinc (z := k) (j := 1) (lv2 := [(5, .int (iI (k + 1))), (4, .int (iI 0)), (0, .ref h0), (1, .int (iI t)), (2, .int (iI q)), (3, .int (iI u))]) C dX12_areCells_59 rfl (by decide) rfl ?_
          refine m_goto (tgt := 6) C dX12_areCells_62 (by decide) ?_
          refine m_lv (lv2 := [(5, .int (iI (k + 1))), (4, .int (iI 0)), (0, .ref h0), (1, .int (iI t)), (2, .int (iI q)), (3, .int (iI u))]) [0, 1, 2, 3, 4, 5] rfl ?_
          exact ih1  0 (k + 1) _ _ (by omega) bxb1 fpb1 (by omega) (by omega) (ACL.step hac (by omega) (by have q := dcf (a 7 t.toNat); omega))
        · replace hg := (hg.resolve_left c2)
          refine m_aload_n (j := 2) C dX12_areCells_19 rfl ?_
          refine m_geta (k := 2) C dX12_areCells_20 w6_61 (by decide) rfl ?_
          refine m_iload (j := 0) C dX12_areCells_23 rfl ?_
          refine m_ald (k := 2) C dX12_areCells_25 rfl rfl (by decide) (by omega) (by show _ < ((_ : Nat) : Int); simp only [mlen]; omega) (by decide) ?_
          refine hv2 (show (-2147483648) ≤ ab1 2 k.toNat ∧ ab1 2 k.toNat ≤ 2147483647 from bxb1.2 2 (k.toNat)) (show ab1 2 (k.toNat) = a 2 (k.toNat) from congrFun (fpb1.2 2 rfl) (k.toNat)) (fun ra1 ae1 => ?_)
          refine m_st (st2 := [.int (iI (a 2 k.toNat))]) (congrArg (fun z => Value.int (iI z) :: []) (congrFun (fpb1.2 2 rfl) (k.toNat))) ?_
          refine m_iconst C dX12_areCells_26 ?_
          refine m_aload_n (j := 2) C dX12_areCells_27 rfl ?_
          refine m_geta (k := 7) C dX12_areCells_28 w6_66 (by decide) rfl ?_
          refine m_iload_n (j := 3) C dX12_areCells_31 rfl ?_
          refine m_ald (k := 7) C dX12_areCells_32 rfl rfl (by decide) (by omega) (by show _ < ((_ : Nat) : Int); simp only [mlen]; omega) (by decide) ?_
          refine hv2 (show (-2147483648) ≤ ab1 7 t.toNat ∧ ab1 7 t.toNat ≤ 2147483647 from bxb1.2 7 (t.toNat)) (show ab1 7 (t.toNat) = a 7 (t.toNat) from congrFun (fpb1.2 7 rfl) (t.toNat)) (fun ra2 ae2 => ?_)
          refine m_st (st2 := [.int (iI (a 7 t.toNat)), .int (iI 1), .int (iI (a 2 k.toNat))]) (congrArg (fun z => Value.int (iI z) :: [.int (iI 1), .int (iI (a 2 k.toNat))]) (congrFun (fpb1.2 7 rfl) (t.toNat))) ?_
          refine m_bipush (z := 6) C dX12_areCells_33 (by decide) ?_
          refine m_icmp_ne (tgt := 43) C ⟨by omega, by omega⟩ ⟨by decide, by decide⟩ dX12_areCells_35 (by decide) (fun c3 => ?_) (fun c3 => ?_)
          · refine m_sipush (z := 255) C dX12_areCells_43 (by decide) ?_
            refine m_callS (As := [.int (iI (a 2 k.toNat)), .int (iI 1), .int (iI 255)]) (rest := []) C (fun L E => s_isIn (iI (a 2 k.toNat)) (iI 1) (iI 255)) dX12_areCells_46 kS_X12_174 rfl rfl (Nat.le_of_ble_eq_true rfl) ⟨Nat.le_of_ble_eq_true rfl, Nat.le_of_ble_eq_true rfl⟩ ⟨Nat.le_of_ble_eq_true rfl, Nat.le_of_ble_eq_true rfl⟩ ?_
            rcases inn_c (x := a 2 k.toNat) (lo := 1) (hi := 255) ⟨by omega, by omega⟩ ⟨by decide, by decide⟩ ⟨by decide, by decide⟩ with ⟨h1a, h1b, h1e⟩ | ⟨h1a, h1e⟩
            · refine m_st (st2 := [.int (iI 1)]) (by rw [h1e]) ?_
              refine m_if_eq (tgt := 56) C ⟨by decide, by decide⟩ dX12_areCells_49 (by decide) (fun z => absurd z (by omega)) (fun _ => ?_)
              refine m_iconst C dX12_areCells_52 ?_
              refine m_goto (tgt := 57) C dX12_areCells_53 (by decide) ?_
              refine m_istore (lv2 := [(4, .int (iI 1)), (5, .int (iI k)), (0, .ref h0), (1, .int (iI t)), (2, .int (iI q)), (3, .int (iI u))]) C dX12_areCells_57 (by decide) rfl ?_
              refine m_iinc (z := k) (j := 1) (lv2 := [(5, .int (iI (k + 1))), (4, .int (iI 1)), (0, .ref h0), (1, .int (iI t)), (2, .int (iI q)), (3, .int (iI u))]) C dX12_areCells_59 rfl (by decide) rfl ?_
              refine m_goto (tgt := 6) C dX12_areCells_62 (by decide) ?_
              refine m_lv (lv2 := [(5, .int (iI (k + 1))), (4, .int (iI 1)), (0, .ref h0), (1, .int (iI t)), (2, .int (iI q)), (3, .int (iI u))]) [0, 1, 2, 3, 4, 5] rfl ?_
              exact ih1  1 (k + 1) _ _ (by omega) bxb1 fpb1 (by omega) (by omega) (ACL.step hac (by omega) (by have q := dcf (a 7 t.toNat); omega))
            · refine m_st (st2 := [.int (iI 0)]) (by rw [h1e]) ?_
              refine m_if_eq (tgt := 56) C ⟨by decide, by decide⟩ dX12_areCells_49 (by decide) (fun _ => ?_) (fun z => absurd z (by omega))
              refine m_iconst C dX12_areCells_56 ?_
              refine m_istore (lv2 := [(4, .int (iI 0)), (5, .int (iI k)), (0, .ref h0), (1, .int (iI t)), (2, .int (iI q)), (3, .int (iI u))]) C dX12_areCells_57 (by decide) rfl ?_
              refine m_iinc (z := k) (j := 1) (lv2 := [(5, .int (iI (k + 1))), (4, .int (iI 0)), (0, .ref h0), (1, .int (iI t)), (2, .int (iI q)), (3, .int (iI u))]) C dX12_areCells_59 rfl (by decide) rfl ?_
              refine m_goto (tgt := 6) C dX12_areCells_62 (by decide) ?_
              refine m_lv (lv2 := [(5, .int (iI (k + 1))), (4, .int (iI 0)), (0, .ref h0), (1, .int (iI t)), (2, .int (iI q)), (3, .int (iI u))]) [0, 1, 2, 3, 4, 5] rfl ?_
              exact ih1  0 (k + 1) _ _ (by omega) bxb1 fpb1 (by omega) (by omega) (ACL.step hac (by omega) (by have q := dcf (a 7 t.toNat); omega))
          · refine m_bipush (z := 63) C dX12_areCells_38 (by decide) ?_
            refine m_goto (tgt := 46) C dX12_areCells_40 (by decide) ?_
            refine m_callS (As := [.int (iI (a 2 k.toNat)), .int (iI 1), .int (iI 63)]) (rest := []) C (fun L E => s_isIn (iI (a 2 k.toNat)) (iI 1) (iI 63)) dX12_areCells_46 kS_X12_174 rfl rfl (Nat.le_of_ble_eq_true rfl) ⟨Nat.le_of_ble_eq_true rfl, Nat.le_of_ble_eq_true rfl⟩ ⟨Nat.le_of_ble_eq_true rfl, Nat.le_of_ble_eq_true rfl⟩ ?_
            rcases inn_c (x := a 2 k.toNat) (lo := 1) (hi := 63) ⟨by omega, by omega⟩ ⟨by decide, by decide⟩ ⟨by decide, by decide⟩ with ⟨h2a, h2b, h2e⟩ | ⟨h2a, h2e⟩
            · refine m_st (st2 := [.int (iI 1)]) (by rw [h2e]) ?_
              refine m_if_eq (tgt := 56) C ⟨by decide, by decide⟩ dX12_areCells_49 (by decide) (fun z => absurd z (by omega)) (fun _ => ?_)
              refine m_iconst C dX12_areCells_52 ?_
              refine m_goto (tgt := 57) C dX12_areCells_53 (by decide) ?_
              refine m_istore (lv2 := [(4, .int (iI 1)), (5, .int (iI k)), (0, .ref h0), (1, .int (iI t)), (2, .int (iI q)), (3, .int (iI u))]) C dX12_areCells_57 (by decide) rfl ?_
              refine m_iinc (z := k) (j := 1) (lv2 := [(5, .int (iI (k + 1))), (4, .int (iI 1)), (0, .ref h0), (1, .int (iI t)), (2, .int (iI q)), (3, .int (iI u))]) C dX12_areCells_59 rfl (by decide) rfl ?_
              refine m_goto (tgt := 6) C dX12_areCells_62 (by decide) ?_
              refine m_lv (lv2 := [(5, .int (iI (k + 1))), (4, .int (iI 1)), (0, .ref h0), (1, .int (iI t)), (2, .int (iI q)), (3, .int (iI u))]) [0, 1, 2, 3, 4, 5] rfl ?_
              exact ih1  1 (k + 1) _ _ (by omega) bxb1 fpb1 (by omega) (by omega) (ACL.step hac (by omega) (by have q := dcf (a 7 t.toNat); omega))
            · refine m_st (st2 := [.int (iI 0)]) (by rw [h2e]) ?_
              refine m_if_eq (tgt := 56) C ⟨by decide, by decide⟩ dX12_areCells_49 (by decide) (fun _ => ?_) (fun z => absurd z (by omega))
              refine m_iconst C dX12_areCells_56 ?_
              refine m_istore (lv2 := [(4, .int (iI 0)), (5, .int (iI k)), (0, .ref h0), (1, .int (iI t)), (2, .int (iI q)), (3, .int (iI u))]) C dX12_areCells_57 (by decide) rfl ?_
              refine m_iinc (z := k) (j := 1) (lv2 := [(5, .int (iI (k + 1))), (4, .int (iI 0)), (0, .ref h0), (1, .int (iI t)), (2, .int (iI q)), (3, .int (iI u))]) C dX12_areCells_59 rfl (by decide) rfl ?_
              refine m_goto (tgt := 6) C dX12_areCells_62 (by decide) ?_
              refine m_lv (lv2 := [(5, .int (iI (k + 1))), (4, .int (iI 0)), (0, .ref h0), (1, .int (iI t)), (2, .int (iI q)), (3, .int (iI u))]) [0, 1, 2, 3, 4, 5] rfl ?_
              exact ih1  0 (k + 1) _ _ (by omega) bxb1 fpb1 (by omega) (by omega) (ACL.step hac (by omega) (by have q := dcf (a 7 t.toNat); omega))
  refine m_lv (lv2 := [(5, .int (iI q)), (4, .int (iI 1)), (0, .ref h0), (1, .int (iI t)), (2, .int (iI q)), (3, .int (iI u))]) [0, 1, 2, 3, 4, 5] rfl ?_
  exact Lp1 3002 1 q _ _ (by omega) hB fp0 (by omega) (by omega) ⟨fun _ => ACL.zero, fun _ => rfl⟩
set_option maxHeartbeats 4000000 in
set_option maxRecDepth 100000 in
theorem M_drop {l : Launch} {G : GT} {h0 : Nat} {ad ln : Nat → Nat} {v : Nat → Int} {a : Nat → Nat → Int} {t : Int} (hB : BX v a) (hT : TBL v a) (hS : STK ln v a) (ht : -2147483648 ≤ t ∧ t ≤ 2147483647) (h19 : v 19 ≤ 2044) : Mn l G yX12_drop cX12_drop 2 (some .int) 1 [.int (iI t)] h0 ad ln v a 1 4110 (fun r ln2 v2 a2 => ∃ f : Int, r = some (.int (iI f)) ∧ fr [0, 1, 19] [5, 18, 70] v a v2 a2 ∧ BX v2 a2 ∧ (TBL v2 a2 ∧ STK ln2 v2 a2 ∧ v2 19 ≤ v 19 + 4 ∧ ((f = -1 ∧ TSAME v a v2 a2 ∧ ¬ (0 ≤ t ∧ t < v 4 ∧ a 5 t.toNat = 1)) ∨ (f = 1 ∧ (0 ≤ t ∧ t < v 4 ∧ a 5 t.toNat = 1) ∧ TDRP t v a v2 a2)))) := by
  refine Mn.mk (by decide) (Nat.le_of_ble_eq_true rfl) ?_
  intro p e s m args below meth c A C
  have h30 : 0 ≤ v 4 ∧ v 4 ≤ 30 := hB.1 4
  obtain ⟨n9, hn9, hk9⟩ := hS.2.2
  refine hv3 (hS.1) (hS.2.1) (show fr [0, 1, 19] [5, 18, 70] v a v a from fr.refl) (fun hl1 hl2 fp0 => ?_)
  refine m_aload_n (j := 0) C dX12_drop_0 rfl ?_
  refine m_iload_n (j := 1) C dX12_drop_1 rfl ?_
  have rv1 : 0 ≤ v 4 ∧ v 4 ≤ 30 := hB.1 4
  refine m_call (mc2 := 0) (ms2 := 0) (As := [.int (iI t)]) (rest := []) C (B_isTable (t := t) hB (by show -2147483648 ≤ t ∧ t ≤ 2147483647; omega)) dX12_drop_2 kV_X12_167 rfl ck_13 rfl (Nat.le_of_ble_eq_true rfl) ⟨Nat.le_of_ble_eq_true rfl, Nat.le_of_ble_eq_true rfl⟩ ⟨Nat.le_of_ble_eq_true rfl, Nat.le_of_ble_eq_true rfl⟩ (fun rh1 vh1 ah1 h1 => ?_)
  obtain ⟨f1, rfl, fn1, bn1, ex1⟩ := h1
  obtain ⟨rfl, rfl⟩ := fn1.eq
  refine hv2 (show (f1 = 0 ∧ (t < 0 ∨ (v 4) ≤ t ∨ a 5 t.toNat = 0)) ∨ (f1 = 1 ∧ 0 ≤ t ∧ t < (v 4) ∧ a 5 t.toNat = 1) from ex1) (show 0 ≤ a 5 t.toNat ∧ a 5 t.toNat ≤ 1 from hB.2 5 (t.toNat)) (fun gf1 ra1 => ?_)
  refine m_st (st2 := [.int (iI f1)]) rfl ?_
  refine m_if_ne (tgt := 14) C (r32_pq gf1) dX12_drop_5 (by decide) (fun c1 => ?_) (fun c1 => ?_)
  · replace gf1 := (gf1.resolve_left (fun q => c1 q.1))
    refine m_aload_n (j := 0) C dX12_drop_14 rfl ?_
    refine m_geta (k := 5) C dX12_drop_15 w6_64 (by decide) rfl ?_
    refine m_iload_n (j := 1) C dX12_drop_18 rfl ?_
    refine m_iconst C dX12_drop_19 ?_
    refine m_zast (k := 5) (w := 0) C dX12_drop_20 rfl rfl (by decide) (by omega) (by show _ < ((_ : Nat) : Int); simp only [mlen]; omega) (by decide) (by omega) ?_
    refine hv5 (show BX v (up2 a 5 t.toNat 0) from hB.set (k := 5) (i := t.toNat) (z := 0) ⟨by decide, by decide⟩) (fp0.set (k := 5) (i := t.toNat) (z := 0) rfl) (show KS v a v (up2 a 5 t.toNat 0) from KS.set (⟨rfl, rfl⟩ : KS v a v a) (k := 5) (i := t.toNat) (z := 0) (by decide)) (show TBL v (up2 a 5 t.toNat 0) from TBL.set hT (k := 5) (i := t.toNat) (z := 0) (by decide)) (show STK ln v (up2 a 5 t.toNat 0) from STK.set hS (k := 5) (i := t.toNat) (z := 0) (by decide)) (fun bq1 fq2 pw1 pw2 pw3 => ?_)
    refine m_aload_n (j := 0) C dX12_drop_21 rfl ?_
    refine m_iconst C dX12_drop_22 ?_
    refine m_iload_n (j := 1) C dX12_drop_23 rfl ?_
    refine m_iconst C dX12_drop_24 ?_
    refine m_iconst C dX12_drop_25 ?_
    refine hv3 (show (-2147483648) ≤ v 19 ∧ v 19 ≤ 2147483647 from bq1.1 19) (show KS v a v (up2 a 5 t.toNat 0) from pw1) (show v 19 = v 19 from rfl) (fun rv2 kq1 kq1s => ?_)
    have kq11 := kq1.1
    refine n_call (mc2 := 1) (ms2 := 4110) (As := [.int (iI 1), .int (iI t), .int (iI 0), .int (iI 0)]) (rest := []) C (M_step (x := 1) (t := t) (y := 0) (z := 0) bq1 (by omega) (by omega) (by omega) (by omega) (by show 0 ≤ v 19 ∧ v 19 ≤ 2048; omega) (by show v 19 ≤ ((ln 18 : Nat) : Int) ∧ 64 ≤ ln 18 ∧ ln 18 ≤ 8192; omega)) dX12_drop_26 kV_X12_182 rfl ck_13 rfl (Nat.le_of_ble_eq_true rfl) ⟨Nat.le_of_ble_eq_true rfl, Nat.le_of_ble_eq_true rfl⟩ ⟨Nat.le_of_ble_eq_true rfl, Nat.le_of_ble_eq_true rfl⟩ (fun rh2 ad ln vh2 ah2 h2 => ?_)
    obtain ⟨rfl, fn2, bn2, sx1_1, sx1_2, sx1_3, sx1_4, sx1_5, sx1_6, sx1_7, sx1_8⟩ := h2
    refine hv4 (fq2.call fn2 rfl rfl) (show TBL vh2 ah2 from TBL.fr pw2 fn2 rfl rfl) (show 0 ≤ vh2 4 ∧ vh2 4 ≤ 30 from bn2.1 4) (show vh2 4 = v 4 from fn2.1 4 rfl) (fun fq3 pw4 rv3 ve1 => ?_)
    refine hv2 (show PSH v a vh2 ah2 1 t 0 0 from ⟨by have q := kq1.1; have q1 := sx1_1; omega, fun j hj => (sx1_4 j (by have q := kq1.1; omega)).trans (congrFun kq1.2 j), by rw [← kq1.1]; exact sx1_5, by rw [← kq1.1]; exact sx1_6, by rw [← kq1.1]; exact sx1_7, by rw [← kq1.1]; exact sx1_8⟩) (show TBL vh2 ah2 from hT.fr fq3 rfl rfl) (fun ps1 pw6 => ?_)
    have pw5 : STK ln vh2 ah2 := STK.push (T0 := vh2 4) (R0 := ah2 10) (x := 1) (t := t) (y := 0) hS (by have q := kq1.1; have q1 := sx1_1; omega) sx1_2 sx1_3 (fun j hj => (sx1_4 j (by have q := kq1.1; omega)).trans (congrFun kq1.2 j)) (by rw [← kq1.1]; exact sx1_5) (by rw [← kq1.1]; exact sx1_6) (by rw [← kq1.1]; exact sx1_7) (Or.inr (Or.inl ⟨rfl, ⟨by omega, by omega⟩, rfl, rfl⟩)) (fq3.1 4 rfl) (fun j hj => congrFun (fq3.2 10 rfl) j)
    refine m_st (st2 := []) rfl ?_
    refine m_aload_n (j := 0) C dX12_drop_29 rfl ?_
    refine m_iconst C dX12_drop_30 ?_
    refine m_call (mc2 := 0) (ms2 := 0) (As := [.int (iI 1)]) (rest := []) C (B_fine (x := 1) bn2 (by show -2147483648 ≤ (1 : Int) ∧ (1 : Int) ≤ 2147483647; omega)) dX12_drop_31 kV_X12_158 rfl ck_13 rfl (Nat.le_of_ble_eq_true rfl) ⟨Nat.le_of_ble_eq_true rfl, Nat.le_of_ble_eq_true rfl⟩ ⟨Nat.le_of_ble_eq_true rfl, Nat.le_of_ble_eq_true rfl⟩ (fun rh3 vh3 ah3 h3 => ?_)
    obtain ⟨f2, rfl, fn3, bn3, ex2⟩ := h3
    refine hv5 (fq3.call fn3 rfl rfl) (show TBL vh3 ah3 from TBL.fr pw6 fn3 rfl rfl) (show STK ln vh3 ah3 from STK.fr pw5 fn3 rfl rfl) (show PSH v a vh3 ah3 1 t 0 0 from PSH.fr ps1 fn3 rfl rfl) (show f2 = (1 : Int) from ex2) (fun fq4 pw7 pw8 pw9 gf2 => ?_)
    refine m_st (st2 := [.int (iI f2)]) rfl ?_
    refine hv2 (show (-2147483648) ≤ vh3 19 ∧ vh3 19 ≤ 2147483647 from bn3.1 19) (show vh3 19 = vh2 19 from fn3.1 19 rfl) (fun rv4 ve2 => ?_)
    exact n_iret C dX12_drop_34 rfl (Nat.le_of_ble_eq_true rfl) (Nat.le_of_ble_eq_true rfl) ⟨f2, rfl, fq4, bn3, ⟨pw7, pw8, (by show vh3 19 ≤ v 19 + 4; omega), Or.inr ⟨by omega, by omega, (fq4.1 4 rfl), ((fn3.2 5 rfl).trans ((fn2.2 5 rfl).trans up2_va)), (fq4.2 6 rfl), (fq4.2 7 rfl), (fq4.2 10 rfl), pw9, (fq4.2 11 rfl), ⟨(fq4.2 8 rfl), (fq4.2 9 rfl), (fq4.2 12 rfl), (fq4.2 13 rfl), (fq4.2 14 rfl), (fq4.2 15 rfl), (fq4.2 16 rfl), (fq4.2 17 rfl)⟩⟩⟩⟩
  · replace gf1 := (gf1.resolve_right (fun q => absurd (q.1.symm.trans c1) (by decide)))
    refine m_aload_n (j := 0) C dX12_drop_8 rfl ?_
    refine m_iconst C dX12_drop_9 ?_
    refine m_call (mc2 := 0) (ms2 := 0) (As := [.int (iI 3)]) (rest := []) C (B_bad (x := 3) hB (by show -2147483648 ≤ (3 : Int) ∧ (3 : Int) ≤ 2147483647; omega)) dX12_drop_10 kV_X12_154 rfl ck_13 rfl (Nat.le_of_ble_eq_true rfl) ⟨Nat.le_of_ble_eq_true rfl, Nat.le_of_ble_eq_true rfl⟩ ⟨Nat.le_of_ble_eq_true rfl, Nat.le_of_ble_eq_true rfl⟩ (fun rh4 vh4 ah4 h4 => ?_)
    obtain ⟨f3, rfl, fn4, bn4, ex3⟩ := h4
    refine hv5 (fp0.call fn4 rfl rfl) (show KS v a vh4 ah4 from KS.fr (⟨rfl, rfl⟩ : KS v a v a) fn4 rfl rfl) (show TBL vh4 ah4 from TBL.fr hT fn4 rfl rfl) (show STK ln vh4 ah4 from STK.fr hS fn4 rfl rfl) (show f3 = -1 from ex3) (fun fq5 pw10 pw11 pw12 gf3 => ?_)
    refine m_st (st2 := [.int (iI f3)]) rfl ?_
    refine hv3 (show (-2147483648) ≤ vh4 19 ∧ vh4 19 ≤ 2147483647 from bn4.1 19) (show vh4 19 = v 19 from fn4.1 19 rfl) ((pw10).1) (fun rv5 ve3 ksx1 => ?_)
    exact n_iret C dX12_drop_13 rfl (Nat.le_of_ble_eq_true rfl) (Nat.le_of_ble_eq_true rfl) ⟨f3, rfl, fq5, bn4, ⟨pw11, pw12, (by show vh4 19 ≤ v 19 + 4; omega), Or.inl ⟨by omega, ⟨(fq5.1 4 rfl), (fn4.2 5 rfl), (fq5.2 6 rfl), (fq5.2 7 rfl), (fq5.2 10 rfl), (pw10).1, (pw10).2, (fq5.2 11 rfl), ⟨(fq5.2 8 rfl), (fq5.2 9 rfl), (fq5.2 12 rfl), (fq5.2 13 rfl), (fq5.2 14 rfl), (fq5.2 15 rfl), (fq5.2 16 rfl), (fq5.2 17 rfl)⟩⟩, by omega⟩⟩⟩
set_option maxHeartbeats 4000000 in
set_option maxRecDepth 100000 in
theorem M_condition {l : Launch} {G : GT} {h0 : Nat} {ad ln : Nat → Nat} {v : Nat → Int} {a : Nat → Nat → Int} {t r0 x : Int} (hB : BX v a) (hT : TBL v a) (hS : STK ln v a) (ht : -2147483648 ≤ t ∧ t ≤ 2147483647) (hr0 : -2147483648 ≤ r0 ∧ r0 ≤ 2147483647) (hx : -2147483648 ≤ x ∧ x ≤ 2147483647) (h19 : v 19 ≤ 2044) : Mn l G yX12_condition cX12_condition 5 (some .int) 2 [.int (iI t), .int (iI r0), .int (iI x)] h0 ad ln v a 1 4110 (fun r ln2 v2 a2 => ∃ f : Int, r = some (.int (iI f)) ∧ fr [0, 1, 19] [11, 18, 70] v a v2 a2 ∧ BX v2 a2 ∧ (TBL v2 a2 ∧ STK ln2 v2 a2 ∧ v2 19 ≤ v 19 + 4 ∧ ((f = -1 ∧ TSAME v a v2 a2 ∧ ¬ (0 ≤ t ∧ t < v 4 ∧ a 5 t.toNat = 1 ∧ a 6 t.toNat ≠ 5 ∧ 0 ≤ r0 ∧ r0 < a 10 t.toNat ∧ 0 ≤ x ∧ x ≤ 5)) ∨ (f = a 11 (200 * t + r0).toNat ∧ (0 ≤ t ∧ t < v 4 ∧ a 5 t.toNat = 1 ∧ a 6 t.toNat ≠ 5 ∧ 0 ≤ r0 ∧ r0 < a 10 t.toNat ∧ 0 ≤ x ∧ x ≤ 5) ∧ TCND t r0 x v a v2 a2)))) := by
  refine Mn.mk (by decide) (Nat.le_of_ble_eq_true rfl) ?_
  intro p e s m args below meth c A C
  have h30 : 0 ≤ v 4 ∧ v 4 ≤ 30 := hB.1 4
  obtain ⟨n9, hn9, hk9⟩ := hS.2.2
  refine hv3 (hS.1) (hS.2.1) (show fr [0, 1, 19] [11, 18, 70] v a v a from fr.refl) (fun hl1 hl2 fp0 => ?_)
  refine m_aload_n (j := 0) C dX12_condition_0 rfl ?_
  refine m_iload_n (j := 1) C dX12_condition_1 rfl ?_
  have rv1 : 0 ≤ v 4 ∧ v 4 ≤ 30 := hB.1 4
  refine m_call (mc2 := 0) (ms2 := 0) (As := [.int (iI t)]) (rest := []) C (B_isTable (t := t) hB (by show -2147483648 ≤ t ∧ t ≤ 2147483647; omega)) dX12_condition_2 kV_X12_167 rfl ck_13 rfl (Nat.le_of_ble_eq_true rfl) ⟨Nat.le_of_ble_eq_true rfl, Nat.le_of_ble_eq_true rfl⟩ ⟨Nat.le_of_ble_eq_true rfl, Nat.le_of_ble_eq_true rfl⟩ (fun rh1 vh1 ah1 h1 => ?_)
  obtain ⟨f1, rfl, fn1, bn1, ex1⟩ := h1
  obtain ⟨rfl, rfl⟩ := fn1.eq
  refine hv2 (show (f1 = 0 ∧ (t < 0 ∨ (v 4) ≤ t ∨ a 5 t.toNat = 0)) ∨ (f1 = 1 ∧ 0 ≤ t ∧ t < (v 4) ∧ a 5 t.toNat = 1) from ex1) (show 0 ≤ a 5 t.toNat ∧ a 5 t.toNat ≤ 1 from hB.2 5 (t.toNat)) (fun gf1 ra1 => ?_)
  refine m_st (st2 := [.int (iI f1)]) rfl ?_
  refine m_if_ne (tgt := 14) C (r32_pq gf1) dX12_condition_5 (by decide) (fun c1 => ?_) (fun c1 => ?_)
  · replace gf1 := (gf1.resolve_left (fun q => c1 q.1))
    refine m_aload_n (j := 0) C dX12_condition_14 rfl ?_
    refine m_geta (k := 6) C dX12_condition_15 w6_65 (by decide) rfl ?_
    refine m_iload_n (j := 1) C dX12_condition_18 rfl ?_
    refine m_ald (k := 6) C dX12_condition_19 rfl rfl (by decide) (by omega) (by show _ < ((_ : Nat) : Int); simp only [mlen]; omega) (by decide) ?_
    have ra2 : 0 ≤ a 6 t.toNat ∧ a 6 t.toNat ≤ 5 := hB.2 6 (t.toNat)
    refine m_iconst C dX12_condition_20 ?_
    refine m_icmp_ne (tgt := 30) C (r32_c (lo := 0) (hi := 5) ra2.1 ra2.2 (by decide) (by decide)) ⟨by decide, by decide⟩ dX12_condition_21 (by decide) (fun c2 => ?_) (fun c2 => ?_)
    · refine m_iload_n (j := 2) C dX12_condition_30 rfl ?_
      refine m_iconst C dX12_condition_31 ?_
      refine m_aload_n (j := 0) C dX12_condition_32 rfl ?_
      refine m_geta (k := 10) C dX12_condition_33 w6_69 (by decide) rfl ?_
      refine m_iload_n (j := 1) C dX12_condition_36 rfl ?_
      refine m_ald (k := 10) C dX12_condition_37 rfl rfl (by decide) (by omega) (by show _ < ((_ : Nat) : Int); simp only [mlen]; omega) (by decide) ?_
      have ra3 : 0 ≤ a 10 t.toNat ∧ a 10 t.toNat ≤ 200 := hB.2 10 (t.toNat)
      refine m_iconst C dX12_condition_38 ?_
      refine m_isub C dX12_condition_39 ?_
      refine m_callS (As := [.int (iI r0), .int (iI 0), .int (iI ((a 10 t.toNat) - 1))]) (rest := []) C (fun L E => s_isIn (iI r0) (iI 0) (iI ((a 10 t.toNat) - 1))) dX12_condition_40 kS_X12_174 rfl rfl (Nat.le_of_ble_eq_true rfl) ⟨Nat.le_of_ble_eq_true rfl, Nat.le_of_ble_eq_true rfl⟩ ⟨Nat.le_of_ble_eq_true rfl, Nat.le_of_ble_eq_true rfl⟩ ?_
      rcases inn_c (x := r0) (lo := 0) (hi := (a 10 t.toNat) - 1) ⟨by omega, by omega⟩ ⟨by decide, by decide⟩ ⟨by omega, by omega⟩ with ⟨h2a, h2b, h2e⟩ | ⟨h2a, h2e⟩
      · refine m_st (st2 := [.int (iI 1)]) (by rw [h2e]) ?_
        refine m_if_ne (tgt := 52) C ⟨by decide, by decide⟩ dX12_condition_43 (by decide) (fun _ => ?_) (fun z => absurd z (by omega))
        refine m_iload_n (j := 3) C dX12_condition_52 rfl ?_
        refine m_iconst C dX12_condition_53 ?_
        refine m_iconst C dX12_condition_54 ?_
        refine m_callS (As := [.int (iI x), .int (iI 0), .int (iI 5)]) (rest := []) C (fun L E => s_isIn (iI x) (iI 0) (iI 5)) dX12_condition_55 kS_X12_174 rfl rfl (Nat.le_of_ble_eq_true rfl) ⟨Nat.le_of_ble_eq_true rfl, Nat.le_of_ble_eq_true rfl⟩ ⟨Nat.le_of_ble_eq_true rfl, Nat.le_of_ble_eq_true rfl⟩ ?_
        rcases inn_c (x := x) (lo := 0) (hi := 5) ⟨by omega, by omega⟩ ⟨by decide, by decide⟩ ⟨by decide, by decide⟩ with ⟨h3a, h3b, h3e⟩ | ⟨h3a, h3e⟩
        · refine m_st (st2 := [.int (iI 1)]) (by rw [h3e]) ?_
          refine m_if_ne (tgt := 68) C ⟨by decide, by decide⟩ dX12_condition_58 (by decide) (fun _ => ?_) (fun z => absurd z (by omega))
          refine m_aload_n (j := 0) C dX12_condition_68 rfl ?_
          refine m_geta (k := 11) C dX12_condition_69 w6_70 (by decide) rfl ?_
          refine m_sipush (z := 200) C dX12_condition_72 (by decide) ?_
          refine m_iload_n (j := 1) C dX12_condition_75 rfl ?_
          refine m_imul C dX12_condition_76 ?_
          refine m_iload_n (j := 2) C dX12_condition_77 rfl ?_
          refine m_iadd C dX12_condition_78 ?_
          refine m_ald (k := 11) C dX12_condition_79 rfl rfl (by decide) (by omega) (by show _ < ((_ : Nat) : Int); simp only [mlen]; omega) (by decide) ?_
          have ra4 : (-2147483648) ≤ a 11 ((200 * t) + r0).toNat ∧ a 11 ((200 * t) + r0).toNat ≤ 2147483647 := hB.2 11 (((200 * t) + r0).toNat)
          refine m_istore (lv2 := [(4, .int (iI (a 11 ((200 * t) + r0).toNat))), (0, .ref h0), (1, .int (iI t)), (2, .int (iI r0)), (3, .int (iI x))]) C dX12_condition_80 (by decide) rfl ?_
          refine m_aload_n (j := 1) C dX12_condition_82 rfl ?_
          refine m_geta (k := 11) C dX12_condition_83 w6_70 (by decide) rfl ?_
          refine m_sipush (z := 200) C dX12_condition_86 (by decide) ?_
          refine m_iload_n (j := 2) C dX12_condition_89 rfl ?_
          refine m_imul C dX12_condition_90 ?_
          refine m_iload_n (j := 3) C dX12_condition_91 rfl ?_
          refine m_iadd C dX12_condition_92 ?_
          refine m_iload_n (j := 4) C dX12_condition_93 rfl ?_
          refine m_ast (k := 11) C dX12_condition_94 rfl rfl (by decide) (by omega) (by show _ < ((_ : Nat) : Int); simp only [mlen]; omega) (by decide) ?_
          refine hv5 (show BX v (up2 a 11 ((200 * t) + r0).toNat x) from hB.set (k := 11) (i := ((200 * t) + r0).toNat) (z := x) (show (-2147483648) ≤ x ∧ x ≤ 2147483647 by omega)) (fp0.set (k := 11) (i := ((200 * t) + r0).toNat) (z := x) rfl) (show KS v a v (up2 a 11 ((200 * t) + r0).toNat x) from KS.set (⟨rfl, rfl⟩ : KS v a v a) (k := 11) (i := ((200 * t) + r0).toNat) (z := x) (by decide)) (show TBL v (up2 a 11 ((200 * t) + r0).toNat x) from TBL.set hT (k := 11) (i := ((200 * t) + r0).toNat) (z := x) (by decide)) (show STK ln v (up2 a 11 ((200 * t) + r0).toNat x) from STK.set hS (k := 11) (i := ((200 * t) + r0).toNat) (z := x) (by decide)) (fun bq1 fq2 pw1 pw2 pw3 => ?_)
          refine m_aload_n (j := 1) C dX12_condition_95 rfl ?_
          refine m_iconst C dX12_condition_96 ?_
          refine m_iload_n (j := 2) C dX12_condition_97 rfl ?_
          refine m_iload_n (j := 3) C dX12_condition_98 rfl ?_
          refine m_iload (j := 0) C dX12_condition_99 rfl ?_
          refine hv3 (show (-2147483648) ≤ v 19 ∧ v 19 ≤ 2147483647 from bq1.1 19) (show KS v a v (up2 a 11 ((200 * t) + r0).toNat x) from pw1) (show v 19 = v 19 from rfl) (fun rv2 kq1 kq1s => ?_)
          have kq11 := kq1.1
          refine n_call (mc2 := 1) (ms2 := 4110) (As := [.int (iI 3), .int (iI t), .int (iI r0), .int (iI (a 11 ((200 * t) + r0).toNat))]) (rest := []) C (M_step (x := 3) (t := t) (y := r0) (z := a 11 ((200 * t) + r0).toNat) bq1 (by omega) (by omega) (by omega) (by omega) (by show 0 ≤ v 19 ∧ v 19 ≤ 2048; omega) (by show v 19 ≤ ((ln 18 : Nat) : Int) ∧ 64 ≤ ln 18 ∧ ln 18 ≤ 8192; omega)) dX12_condition_101 kV_X12_182 rfl ck_13 rfl (Nat.le_of_ble_eq_true rfl) ⟨Nat.le_of_ble_eq_true rfl, Nat.le_of_ble_eq_true rfl⟩ ⟨Nat.le_of_ble_eq_true rfl, Nat.le_of_ble_eq_true rfl⟩ (fun rh4 ad ln vh4 ah4 h4 => ?_)
          obtain ⟨rfl, fn2, bn2, sx1_1, sx1_2, sx1_3, sx1_4, sx1_5, sx1_6, sx1_7, sx1_8⟩ := h4
          refine hv4 (fq2.call fn2 rfl rfl) (show TBL vh4 ah4 from TBL.fr pw2 fn2 rfl rfl) (show 0 ≤ vh4 4 ∧ vh4 4 ≤ 30 from bn2.1 4) (show vh4 4 = v 4 from fn2.1 4 rfl) (fun fq3 pw4 rv3 ve1 => ?_)
          refine hv2 (show PSH v a vh4 ah4 3 t r0 (a 11 ((200 * t) + r0).toNat) from ⟨by have q := kq1.1; have q1 := sx1_1; omega, fun j hj => (sx1_4 j (by have q := kq1.1; omega)).trans (congrFun kq1.2 j), by rw [← kq1.1]; exact sx1_5, by rw [← kq1.1]; exact sx1_6, by rw [← kq1.1]; exact sx1_7, by rw [← kq1.1]; exact sx1_8⟩) (show TBL vh4 ah4 from hT.fr fq3 rfl rfl) (fun ps1 pw6 => ?_)
          have pw5 : STK ln vh4 ah4 := STK.push (T0 := vh4 4) (R0 := ah4 10) (x := 3) (t := t) (y := r0) hS (by have q := kq1.1; have q1 := sx1_1; omega) sx1_2 sx1_3 (fun j hj => (sx1_4 j (by have q := kq1.1; omega)).trans (congrFun kq1.2 j)) (by rw [← kq1.1]; exact sx1_5) (by rw [← kq1.1]; exact sx1_6) (by rw [← kq1.1]; exact sx1_7) (Or.inr (Or.inr (Or.inr (Or.inl ⟨rfl, ⟨by omega, by omega⟩, ⟨by omega, by have q := congrFun (fq3.2 10 rfl) t.toNat; omega⟩, rfl, rfl⟩)))) (fq3.1 4 rfl) (fun j hj => congrFun (fq3.2 10 rfl) j)
          refine m_st (st2 := []) rfl ?_
          refine m_aload_n (j := 1) C dX12_condition_104 rfl ?_
          refine m_iload (j := 0) C dX12_condition_105 rfl ?_
          refine m_call (mc2 := 0) (ms2 := 0) (As := [.int (iI (a 11 ((200 * t) + r0).toNat))]) (rest := []) C (B_fine (x := a 11 ((200 * t) + r0).toNat) bn2 (by show -2147483648 ≤ (a 11 ((200 * t) + r0).toNat) ∧ (a 11 ((200 * t) + r0).toNat) ≤ 2147483647; omega)) dX12_condition_107 kV_X12_158 rfl ck_13 rfl (Nat.le_of_ble_eq_true rfl) ⟨Nat.le_of_ble_eq_true rfl, Nat.le_of_ble_eq_true rfl⟩ ⟨Nat.le_of_ble_eq_true rfl, Nat.le_of_ble_eq_true rfl⟩ (fun rh5 vh5 ah5 h5 => ?_)
          obtain ⟨f2, rfl, fn3, bn3, ex2⟩ := h5
          refine hv5 (fq3.call fn3 rfl rfl) (show TBL vh5 ah5 from TBL.fr pw6 fn3 rfl rfl) (show STK ln vh5 ah5 from STK.fr pw5 fn3 rfl rfl) (show PSH v a vh5 ah5 3 t r0 (a 11 ((200 * t) + r0).toNat) from PSH.fr ps1 fn3 rfl rfl) (show f2 = (a 11 ((200 * t) + r0).toNat) from ex2) (fun fq4 pw7 pw8 pw9 gf2 => ?_)
          refine m_st (st2 := [.int (iI f2)]) rfl ?_
          refine hv2 (show (-2147483648) ≤ vh5 19 ∧ vh5 19 ≤ 2147483647 from bn3.1 19) (show vh5 19 = vh4 19 from fn3.1 19 rfl) (fun rv4 ve2 => ?_)
          exact n_iret C dX12_condition_110 rfl (Nat.le_of_ble_eq_true rfl) (Nat.le_of_ble_eq_true rfl) ⟨f2, rfl, fq4, bn3, ⟨pw7, pw8, (by show vh5 19 ≤ v 19 + 4; omega), Or.inr ⟨by omega, by omega, ⟨(fq4.1 4 rfl), (fq4.2 5 rfl), (fq4.2 6 rfl), (fq4.2 7 rfl), (fq4.2 10 rfl), pw9⟩, ((fn3.2 11 rfl).trans ((fn2.2 11 rfl).trans up2_va)), ⟨(fq4.2 8 rfl), (fq4.2 9 rfl), (fq4.2 12 rfl), (fq4.2 13 rfl), (fq4.2 14 rfl), (fq4.2 15 rfl), (fq4.2 16 rfl), (fq4.2 17 rfl)⟩⟩⟩⟩
        · refine m_st (st2 := [.int (iI 0)]) (by rw [h3e]) ?_
          refine m_if_ne (tgt := 68) C ⟨by decide, by decide⟩ dX12_condition_58 (by decide) (fun z => absurd z (by omega)) (fun _ => ?_)
          refine m_aload_n (j := 0) C dX12_condition_61 rfl ?_
          refine m_bipush (z := 6) C dX12_condition_62 (by decide) ?_
          refine m_call (mc2 := 0) (ms2 := 0) (As := [.int (iI 6)]) (rest := []) C (B_bad (x := 6) hB (by show -2147483648 ≤ (6 : Int) ∧ (6 : Int) ≤ 2147483647; omega)) dX12_condition_64 kV_X12_154 rfl ck_13 rfl (Nat.le_of_ble_eq_true rfl) ⟨Nat.le_of_ble_eq_true rfl, Nat.le_of_ble_eq_true rfl⟩ ⟨Nat.le_of_ble_eq_true rfl, Nat.le_of_ble_eq_true rfl⟩ (fun rh6 vh6 ah6 h6 => ?_)
          obtain ⟨f3, rfl, fn4, bn4, ex3⟩ := h6
          refine hv5 (fp0.call fn4 rfl rfl) (show KS v a vh6 ah6 from KS.fr (⟨rfl, rfl⟩ : KS v a v a) fn4 rfl rfl) (show TBL vh6 ah6 from TBL.fr hT fn4 rfl rfl) (show STK ln vh6 ah6 from STK.fr hS fn4 rfl rfl) (show f3 = -1 from ex3) (fun fq5 pw10 pw11 pw12 gf3 => ?_)
          refine m_st (st2 := [.int (iI f3)]) rfl ?_
          refine hv3 (show (-2147483648) ≤ vh6 19 ∧ vh6 19 ≤ 2147483647 from bn4.1 19) (show vh6 19 = v 19 from fn4.1 19 rfl) ((pw10).1) (fun rv5 ve3 ksx1 => ?_)
          exact n_iret C dX12_condition_67 rfl (Nat.le_of_ble_eq_true rfl) (Nat.le_of_ble_eq_true rfl) ⟨f3, rfl, fq5, bn4, ⟨pw11, pw12, (by show vh6 19 ≤ v 19 + 4; omega), Or.inl ⟨by omega, ⟨(fq5.1 4 rfl), (fq5.2 5 rfl), (fq5.2 6 rfl), (fq5.2 7 rfl), (fq5.2 10 rfl), (pw10).1, (pw10).2, (fn4.2 11 rfl), ⟨(fq5.2 8 rfl), (fq5.2 9 rfl), (fq5.2 12 rfl), (fq5.2 13 rfl), (fq5.2 14 rfl), (fq5.2 15 rfl), (fq5.2 16 rfl), (fq5.2 17 rfl)⟩⟩, by omega⟩⟩⟩
      · refine m_st (st2 := [.int (iI 0)]) (by rw [h2e]) ?_
        refine m_if_ne (tgt := 52) C ⟨by decide, by decide⟩ dX12_condition_43 (by decide) (fun z => absurd z (by omega)) (fun _ => ?_)
        refine m_aload_n (j := 0) C dX12_condition_46 rfl ?_
        refine m_iconst C dX12_condition_47 ?_
        refine m_call (mc2 := 0) (ms2 := 0) (As := [.int (iI 2)]) (rest := []) C (B_bad (x := 2) hB (by show -2147483648 ≤ (2 : Int) ∧ (2 : Int) ≤ 2147483647; omega)) dX12_condition_48 kV_X12_154 rfl ck_13 rfl (Nat.le_of_ble_eq_true rfl) ⟨Nat.le_of_ble_eq_true rfl, Nat.le_of_ble_eq_true rfl⟩ ⟨Nat.le_of_ble_eq_true rfl, Nat.le_of_ble_eq_true rfl⟩ (fun rh7 vh7 ah7 h7 => ?_)
        obtain ⟨f4, rfl, fn5, bn5, ex4⟩ := h7
        refine hv5 (fp0.call fn5 rfl rfl) (show KS v a vh7 ah7 from KS.fr (⟨rfl, rfl⟩ : KS v a v a) fn5 rfl rfl) (show TBL vh7 ah7 from TBL.fr hT fn5 rfl rfl) (show STK ln vh7 ah7 from STK.fr hS fn5 rfl rfl) (show f4 = -1 from ex4) (fun fq6 pw13 pw14 pw15 gf4 => ?_)
        refine m_st (st2 := [.int (iI f4)]) rfl ?_
        refine hv3 (show (-2147483648) ≤ vh7 19 ∧ vh7 19 ≤ 2147483647 from bn5.1 19) (show vh7 19 = v 19 from fn5.1 19 rfl) ((pw13).1) (fun rv6 ve4 ksx2 => ?_)
        exact n_iret C dX12_condition_51 rfl (Nat.le_of_ble_eq_true rfl) (Nat.le_of_ble_eq_true rfl) ⟨f4, rfl, fq6, bn5, ⟨pw14, pw15, (by show vh7 19 ≤ v 19 + 4; omega), Or.inl ⟨by omega, ⟨(fq6.1 4 rfl), (fq6.2 5 rfl), (fq6.2 6 rfl), (fq6.2 7 rfl), (fq6.2 10 rfl), (pw13).1, (pw13).2, (fn5.2 11 rfl), ⟨(fq6.2 8 rfl), (fq6.2 9 rfl), (fq6.2 12 rfl), (fq6.2 13 rfl), (fq6.2 14 rfl), (fq6.2 15 rfl), (fq6.2 16 rfl), (fq6.2 17 rfl)⟩⟩, by omega⟩⟩⟩
    · refine m_aload_n (j := 0) C dX12_condition_24 rfl ?_
      refine m_iconst C dX12_condition_25 ?_
      refine m_call (mc2 := 0) (ms2 := 0) (As := [.int (iI 4)]) (rest := []) C (B_bad (x := 4) hB (by show -2147483648 ≤ (4 : Int) ∧ (4 : Int) ≤ 2147483647; omega)) dX12_condition_26 kV_X12_154 rfl ck_13 rfl (Nat.le_of_ble_eq_true rfl) ⟨Nat.le_of_ble_eq_true rfl, Nat.le_of_ble_eq_true rfl⟩ ⟨Nat.le_of_ble_eq_true rfl, Nat.le_of_ble_eq_true rfl⟩ (fun rh8 vh8 ah8 h8 => ?_)
      obtain ⟨f5, rfl, fn6, bn6, ex5⟩ := h8
      refine hv5 (fp0.call fn6 rfl rfl) (show KS v a vh8 ah8 from KS.fr (⟨rfl, rfl⟩ : KS v a v a) fn6 rfl rfl) (show TBL vh8 ah8 from TBL.fr hT fn6 rfl rfl) (show STK ln vh8 ah8 from STK.fr hS fn6 rfl rfl) (show f5 = -1 from ex5) (fun fq7 pw16 pw17 pw18 gf5 => ?_)
      refine m_st (st2 := [.int (iI f5)]) rfl ?_
      refine hv3 (show (-2147483648) ≤ vh8 19 ∧ vh8 19 ≤ 2147483647 from bn6.1 19) (show vh8 19 = v 19 from fn6.1 19 rfl) ((pw16).1) (fun rv7 ve5 ksx3 => ?_)
      exact n_iret C dX12_condition_29 rfl (Nat.le_of_ble_eq_true rfl) (Nat.le_of_ble_eq_true rfl) ⟨f5, rfl, fq7, bn6, ⟨pw17, pw18, (by show vh8 19 ≤ v 19 + 4; omega), Or.inl ⟨by omega, ⟨(fq7.1 4 rfl), (fq7.2 5 rfl), (fq7.2 6 rfl), (fq7.2 7 rfl), (fq7.2 10 rfl), (pw16).1, (pw16).2, (fn6.2 11 rfl), ⟨(fq7.2 8 rfl), (fq7.2 9 rfl), (fq7.2 12 rfl), (fq7.2 13 rfl), (fq7.2 14 rfl), (fq7.2 15 rfl), (fq7.2 16 rfl), (fq7.2 17 rfl)⟩⟩, by omega⟩⟩⟩
  · replace gf1 := (gf1.resolve_right (fun q => absurd (q.1.symm.trans c1) (by decide)))
    refine m_aload_n (j := 0) C dX12_condition_8 rfl ?_
    refine m_iconst C dX12_condition_9 ?_
    refine m_call (mc2 := 0) (ms2 := 0) (As := [.int (iI 3)]) (rest := []) C (B_bad (x := 3) hB (by show -2147483648 ≤ (3 : Int) ∧ (3 : Int) ≤ 2147483647; omega)) dX12_condition_10 kV_X12_154 rfl ck_13 rfl (Nat.le_of_ble_eq_true rfl) ⟨Nat.le_of_ble_eq_true rfl, Nat.le_of_ble_eq_true rfl⟩ ⟨Nat.le_of_ble_eq_true rfl, Nat.le_of_ble_eq_true rfl⟩ (fun rh9 vh9 ah9 h9 => ?_)
    obtain ⟨f6, rfl, fn7, bn7, ex6⟩ := h9
    refine hv5 (fp0.call fn7 rfl rfl) (show KS v a vh9 ah9 from KS.fr (⟨rfl, rfl⟩ : KS v a v a) fn7 rfl rfl) (show TBL vh9 ah9 from TBL.fr hT fn7 rfl rfl) (show STK ln vh9 ah9 from STK.fr hS fn7 rfl rfl) (show f6 = -1 from ex6) (fun fq8 pw19 pw20 pw21 gf6 => ?_)
    refine m_st (st2 := [.int (iI f6)]) rfl ?_
    refine hv3 (show (-2147483648) ≤ vh9 19 ∧ vh9 19 ≤ 2147483647 from bn7.1 19) (show vh9 19 = v 19 from fn7.1 19 rfl) ((pw19).1) (fun rv8 ve6 ksx4 => ?_)
    exact n_iret C dX12_condition_13 rfl (Nat.le_of_ble_eq_true rfl) (Nat.le_of_ble_eq_true rfl) ⟨f6, rfl, fq8, bn7, ⟨pw20, pw21, (by show vh9 19 ≤ v 19 + 4; omega), Or.inl ⟨by omega, ⟨(fq8.1 4 rfl), (fq8.2 5 rfl), (fq8.2 6 rfl), (fq8.2 7 rfl), (fq8.2 10 rfl), (pw19).1, (pw19).2, (fn7.2 11 rfl), ⟨(fq8.2 8 rfl), (fq8.2 9 rfl), (fq8.2 12 rfl), (fq8.2 13 rfl), (fq8.2 14 rfl), (fq8.2 15 rfl), (fq8.2 16 rfl), (fq8.2 17 rfl)⟩⟩, by omega⟩⟩⟩
set_option maxHeartbeats 4000000 in
set_option maxRecDepth 100000 in
theorem M_indicator {l : Launch} {G : GT} {h0 : Nat} {ad ln : Nat → Nat} {v : Nat → Int} {a : Nat → Nat → Int} {t x : Int} (hB : BX v a) (hT : TBL v a) (hS : STK ln v a) (ht : -2147483648 ≤ t ∧ t ≤ 2147483647) (hx : -2147483648 ≤ x ∧ x ≤ 2147483647) (h19 : v 19 ≤ 2044) : Mn l G yX12_indicator cX12_indicator 8 (some .int) 2 [.int (iI t), .int (iI x)] h0 ad ln v a 1 4110 (fun r ln2 v2 a2 => ∃ f : Int, r = some (.int (iI f)) ∧ fr [0, 1, 3, 19] [16, 17, 18, 70] v a v2 a2 ∧ BX v2 a2 ∧ (TBL v2 a2 ∧ STK ln2 v2 a2 ∧ v2 19 ≤ v 19 + 4 ∧ v2 3 = 0 ∧ ((f = -1 ∧ TSAME v a v2 a2 ∧ ¬ ((0 ≤ x ∧ x ≤ 3 ∧ 0 ≤ t ∧ t < v 4 ∧ a 5 t.toNat = 1 ∧ ((x = 0 ∧ a 6 t.toNat ≤ 2) ∨ (x = 1 ∧ a 6 t.toNat = 2) ∨ (x ≠ 0 ∧ x ≠ 1 ∧ a 6 t.toNat = 5)) ∧ v 3 ≤ 4) ∧ ACL (a 2) 0 (v 3) (DC (a 7 t.toNat)) ∧ True)) ∨ (f = v 3 ∧ ((0 ≤ x ∧ x ≤ 3 ∧ 0 ≤ t ∧ t < v 4 ∧ a 5 t.toNat = 1 ∧ ((x = 0 ∧ a 6 t.toNat ≤ 2) ∨ (x = 1 ∧ a 6 t.toNat = 2) ∨ (x ≠ 0 ∧ x ≠ 1 ∧ a 6 t.toNat = 5)) ∧ v 3 ≤ 4) ∧ ACL (a 2) 0 (v 3) (DC (a 7 t.toNat)) ∧ True) ∧ TIND t x v a v2 a2)))) := by
  refine Mn.mk (by decide) (Nat.le_of_ble_eq_true rfl) ?_
  intro p e s m args below meth c A C
  have h30 : 0 ≤ v 4 ∧ v 4 ≤ 30 := hB.1 4
  obtain ⟨n9, hn9, hk9⟩ := hS.2.2
  refine hv3 (hS.1) (hS.2.1) (show fr [0, 1, 3, 19] [16, 17, 18, 70] v a v a from fr.refl) (fun hl1 hl2 fp0 => ?_)
  refine m_aload_n (j := 0) C dX12_indicator_0 rfl ?_
  have rv1 : 0 ≤ v 3 ∧ v 3 ≤ 3000 := hB.1 3
  refine m_call (mc2 := 0) (ms2 := 0) (As := []) (rest := []) C (B_taken  hB ) dX12_indicator_1 kV_X12_192 rfl ck_13 rfl (Nat.le_of_ble_eq_true rfl) ⟨Nat.le_of_ble_eq_true rfl, Nat.le_of_ble_eq_true rfl⟩ ⟨Nat.le_of_ble_eq_true rfl, Nat.le_of_ble_eq_true rfl⟩ (fun rh1 vh1 ah1 h1 => ?_)
  obtain ⟨f1, rfl, fn1, bn1, ex1⟩ := h1
  refine hv6 (fp0.call fn1 rfl rfl) (show KS v a vh1 ah1 from KS.fr (⟨rfl, rfl⟩ : KS v a v a) fn1 rfl rfl) (show TBL vh1 ah1 from TBL.fr hT fn1 rfl rfl) (show STK ln vh1 ah1 from STK.fr hS fn1 rfl rfl) (show 0 ≤ vh1 3 ∧ vh1 3 ≤ 3000 from bn1.1 3) (show f1 = (v 3) ∧ (vh1 3) = 0 from ex1) (fun fq1 pw1 pw2 pw3 rv2 gf1 => ?_)
  refine m_st (st2 := [.int (iI f1)]) rfl ?_
  refine m_istore_n (lv2 := [(3, .int (iI f1)), (0, .ref h0), (1, .int (iI t)), (2, .int (iI x))]) C dX12_indicator_4 (by decide) rfl ?_
  refine m_iload_n (j := 3) C dX12_indicator_5 rfl ?_
  refine m_iconst C dX12_indicator_6 ?_
  refine m_iconst C dX12_indicator_7 ?_
  refine m_callS (As := [.int (iI x), .int (iI 0), .int (iI 3)]) (rest := []) C (fun L E => s_isIn (iI x) (iI 0) (iI 3)) dX12_indicator_8 kS_X12_174 rfl rfl (Nat.le_of_ble_eq_true rfl) ⟨Nat.le_of_ble_eq_true rfl, Nat.le_of_ble_eq_true rfl⟩ ⟨Nat.le_of_ble_eq_true rfl, Nat.le_of_ble_eq_true rfl⟩ ?_
  rcases inn_c (x := x) (lo := 0) (hi := 3) ⟨by omega, by omega⟩ ⟨by decide, by decide⟩ ⟨by decide, by decide⟩ with ⟨h2a, h2b, h2e⟩ | ⟨h2a, h2e⟩
  · refine m_st (st2 := [.int (iI 1)]) (by rw [h2e]) ?_
    refine m_if_ne (tgt := 21) C ⟨by decide, by decide⟩ dX12_indicator_11 (by decide) (fun _ => ?_) (fun z => absurd z (by omega))
    refine m_aload_n (j := 1) C dX12_indicator_21 rfl ?_
    refine m_iload_n (j := 2) C dX12_indicator_22 rfl ?_
    refine hv2 (show 0 ≤ vh1 4 ∧ vh1 4 ≤ 30 from bn1.1 4) (show vh1 4 = v 4 from fn1.1 4 rfl) (fun rv3 ve1 => ?_)
    refine m_call (mc2 := 0) (ms2 := 0) (As := [.int (iI t)]) (rest := []) C (B_isTable (t := t) bn1 (by show -2147483648 ≤ t ∧ t ≤ 2147483647; omega)) dX12_indicator_23 kV_X12_167 rfl ck_13 rfl (Nat.le_of_ble_eq_true rfl) ⟨Nat.le_of_ble_eq_true rfl, Nat.le_of_ble_eq_true rfl⟩ ⟨Nat.le_of_ble_eq_true rfl, Nat.le_of_ble_eq_true rfl⟩ (fun rh3 vh3 ah3 h3 => ?_)
    obtain ⟨f2, rfl, fn2, bn2, ex2⟩ := h3
    obtain ⟨rfl, rfl⟩ := fn2.eq
    refine hv3 (show (f2 = 0 ∧ (t < 0 ∨ (vh1 4) ≤ t ∨ ah1 5 t.toNat = 0)) ∨ (f2 = 1 ∧ 0 ≤ t ∧ t < (vh1 4) ∧ ah1 5 t.toNat = 1) from ex2) (show 0 ≤ ah1 5 t.toNat ∧ ah1 5 t.toNat ≤ 1 from bn1.2 5 (t.toNat)) (show ah1 5 (t.toNat) = a 5 (t.toNat) from congrFun (fn1.2 5 rfl) (t.toNat)) (fun gf2 ra1 ae1 => ?_)
    refine m_st (st2 := [.int (iI f2)]) rfl ?_
    refine m_if_ne (tgt := 35) C (r32_pq gf2) dX12_indicator_26 (by decide) (fun c1 => ?_) (fun c1 => ?_)
    · replace gf2 := (gf2.resolve_left (fun q => c1 q.1))
      refine m_iload_n (j := 3) C dX12_indicator_35 rfl ?_
      have J1 : ∀ (g : Int) (vb1 : Nat → Int) (ab1 : Nat → Nat → Int), BX vb1 ab1 → fr [0, 1, 3, 19] [16, 17, 18, 70] v a vb1 ab1 → ((g = 0 ∨ g = 1) ∧ (g = 1 ↔ ((x = 0 ∧ a 6 t.toNat ≤ 2) ∨ (x = 1 ∧ a 6 t.toNat = 2) ∨ (x ≠ 0 ∧ x ≠ 1 ∧ a 6 t.toNat = 5)))) → (KS v a vb1 ab1) → (TBL vb1 ab1) → (STK ln vb1 ab1) → (ab1 16 = a 16) → (ab1 17 = a 17) → (vb1 3 = 0) → mw p l e (rmq 2 1 4110) s m args below meth c G A 8 (MQ below (Qm G A (fun rq Lq Eq => ∃ (adq lnq : Nat → Nat) (vq : Nat → Int) (aq : Nat → Nat → Int), mI G h0 adq lnq vq aq Lq Eq ∧ (fun r ln2 v2 a2 => ∃ f : Int, r = some (.int (iI f)) ∧ fr [0, 1, 3, 19] [16, 17, 18, 70] v a v2 a2 ∧ BX v2 a2 ∧ (TBL v2 a2 ∧ STK ln2 v2 a2 ∧ v2 19 ≤ v 19 + 4 ∧ v2 3 = 0 ∧ ((f = -1 ∧ TSAME v a v2 a2 ∧ ¬ ((0 ≤ x ∧ x ≤ 3 ∧ 0 ≤ t ∧ t < v 4 ∧ a 5 t.toNat = 1 ∧ ((x = 0 ∧ a 6 t.toNat ≤ 2) ∨ (x = 1 ∧ a 6 t.toNat = 2) ∨ (x ≠ 0 ∧ x ≠ 1 ∧ a 6 t.toNat = 5)) ∧ v 3 ≤ 4) ∧ ACL (a 2) 0 (v 3) (DC (a 7 t.toNat)) ∧ True)) ∨ (f = v 3 ∧ ((0 ≤ x ∧ x ≤ 3 ∧ 0 ≤ t ∧ t < v 4 ∧ a 5 t.toNat = 1 ∧ ((x = 0 ∧ a 6 t.toNat ≤ 2) ∨ (x = 1 ∧ a 6 t.toNat = 2) ∨ (x ≠ 0 ∧ x ≠ 1 ∧ a 6 t.toNat = 5)) ∧ v 3 ≤ 4) ∧ ACL (a 2) 0 (v 3) (DC (a 7 t.toNat)) ∧ True) ∧ TIND t x v a v2 a2)))) rq lnq vq aq)) args s 1 4110 A) h0 ad ln vb1 ab1 0 0 95 [(3, .int (iI f1)), (0, .ref h0), (1, .int (iI t)), (2, .int (iI x))] [.int (iI g)] := by
        intro g vb1 ab1 bxb1 fpb1 hg hKa hTa hSa h16a h17a hz30
        refine m_istore (lv2 := [(4, .int (iI g)), (3, .int (iI f1)), (0, .ref h0), (1, .int (iI t)), (2, .int (iI x))]) C dX12_indicator_95 (by decide) rfl ?_
        refine m_iload (j := 0) C dX12_indicator_97 rfl ?_
        refine m_if_ne (tgt := 108) C ⟨by omega, by omega⟩ dX12_indicator_99 (by decide) (fun c2 => ?_) (fun c2 => ?_)
        · replace hg := (And.intro (hg.1.resolve_left c2) hg.2)
          refine m_iload_n (j := 1) C dX12_indicator_108 rfl ?_
          refine m_iconst C dX12_indicator_109 ?_
          refine m_icmp_gt (tgt := 123) C ⟨by omega, by omega⟩ ⟨by decide, by decide⟩ dX12_indicator_110 (by decide) (fun c3 => ?_) (fun c3 => ?_)
          · refine m_aload_n (j := 2) C dX12_indicator_123 rfl ?_
            refine m_bipush (z := 6) C dX12_indicator_124 (by decide) ?_
            refine m_call (mc2 := 0) (ms2 := 0) (As := [.int (iI 6)]) (rest := []) C (B_bad (x := 6) bxb1 (by show -2147483648 ≤ (6 : Int) ∧ (6 : Int) ≤ 2147483647; omega)) dX12_indicator_126 kV_X12_154 rfl ck_13 rfl (Nat.le_of_ble_eq_true rfl) ⟨Nat.le_of_ble_eq_true rfl, Nat.le_of_ble_eq_true rfl⟩ ⟨Nat.le_of_ble_eq_true rfl, Nat.le_of_ble_eq_true rfl⟩ (fun rh4 vh4 ah4 h4 => ?_)
            obtain ⟨f3, rfl, fn3, bn3, ex3⟩ := h4
            refine hv5 (fpb1.call fn3 rfl rfl) (show KS v a vh4 ah4 from KS.fr hKa fn3 rfl rfl) (show TBL vh4 ah4 from TBL.fr hTa fn3 rfl rfl) (show STK ln vh4 ah4 from STK.fr hSa fn3 rfl rfl) (show f3 = -1 from ex3) (fun fq3 pw4 pw5 pw6 gf3 => ?_)
            refine m_st (st2 := [.int (iI f3)]) rfl ?_
            refine hv5 (show (-2147483648) ≤ vh4 19 ∧ vh4 19 ≤ 2147483647 from bn3.1 19) (show vh4 19 = vb1 19 from fn3.1 19 rfl) ((pw4).1) (show 0 ≤ vh4 3 ∧ vh4 3 ≤ 3000 from bn3.1 3) (show vh4 3 = vb1 3 from fn3.1 3 rfl) (fun rv4 ve2 ksx1 rv5 ve3 => ?_)
            exact n_iret C dX12_indicator_129 rfl (Nat.le_of_ble_eq_true rfl) (Nat.le_of_ble_eq_true rfl) ⟨f3, rfl, fq3, bn3, ⟨pw5, pw6, (by show vh4 19 ≤ v 19 + 4; omega), (by show vh4 3 = 0; omega), Or.inl ⟨by omega, ⟨(fq3.1 4 rfl), (fq3.2 5 rfl), (fq3.2 6 rfl), (fq3.2 7 rfl), (fq3.2 10 rfl), (pw4).1, (pw4).2, (fq3.2 11 rfl), ⟨(fq3.2 8 rfl), (fq3.2 9 rfl), (fq3.2 12 rfl), (fq3.2 13 rfl), (fq3.2 14 rfl), (fq3.2 15 rfl), ((fn3.2 16 rfl).trans h16a), ((fn3.2 17 rfl).trans h17a)⟩⟩, (fun q => by have q1 := q.1; first | omega)⟩⟩⟩
          · refine m_aload_n (j := 2) C dX12_indicator_113 rfl ?_
            refine m_iload_n (j := 3) C dX12_indicator_114 rfl ?_
            refine m_iconst C dX12_indicator_115 ?_
            refine m_iload_n (j := 1) C dX12_indicator_116 rfl ?_
            refine m_call (mc2 := 0) (ms2 := 0) (As := [.int (iI t), .int (iI 0), .int (iI f1)]) (rest := []) C (B_areCells (t := t) (q := 0) (u := f1) bxb1 (by show 0 ≤ t ∧ t < 30; omega) (by show 0 ≤ (0 : Int) ∧ (0 : Int) ≤ 3000; omega) (by show 0 ≤ f1 ∧ (0 : Int) + f1 ≤ 3000; omega)) dX12_indicator_117 kV_X12_196 rfl ck_13 rfl (Nat.le_of_ble_eq_true rfl) ⟨Nat.le_of_ble_eq_true rfl, Nat.le_of_ble_eq_true rfl⟩ ⟨Nat.le_of_ble_eq_true rfl, Nat.le_of_ble_eq_true rfl⟩ (fun rh5 vh5 ah5 h5 => ?_)
            obtain ⟨f4, rfl, fn4, bn4, ex4⟩ := h5
            obtain ⟨rfl, rfl⟩ := fn4.eq
            refine hv3 (show (f4 = 0 ∨ f4 = 1) ∧ (f4 = 1 ↔ ACL (ab1 2) (0 : Int) f1 (DC (ab1 7 t.toNat))) from ex4) (show (-2147483648) ≤ ab1 7 t.toNat ∧ ab1 7 t.toNat ≤ 2147483647 from bxb1.2 7 (t.toNat)) (show ab1 7 (t.toNat) = a 7 (t.toNat) from congrFun (fpb1.2 7 rfl) (t.toNat)) (fun gf4 ra2 ae2 => ?_)
            have acf4 : f4 = 1 ↔ ACL (a 2) 0 f1 (DC (a 7 t.toNat)) := by
              have q := gf4.2
              rw [fpb1.2 2 rfl, fpb1.2 7 rfl] at q
              exact q
            refine m_st (st2 := [.int (iI f4)]) rfl ?_
            refine m_if_ne (tgt := 130) C (r32_01 gf4.1) dX12_indicator_120 (by decide) (fun c4 => ?_) (fun c4 => ?_)
            · replace gf4 := (And.intro (gf4.1.resolve_left c4) gf4.2)
              refine m_iconst C dX12_indicator_130 ?_
              refine m_iload_n (j := 3) C dX12_indicator_131 rfl ?_
              refine m_imul C dX12_indicator_132 ?_
              refine m_iload_n (j := 4) C dX12_indicator_133 rfl ?_
              refine m_iadd C dX12_indicator_134 ?_
              refine m_istore (lv2 := [(5, .int (iI ((4 * t) + x))), (4, .int (iI g)), (3, .int (iI f1)), (0, .ref h0), (1, .int (iI t)), (2, .int (iI x))]) C dX12_indicator_135 (by decide) rfl ?_
              refine m_iconst C dX12_indicator_137 ?_
              refine m_istore (lv2 := [(6, .int (iI 0)), (5, .int (iI ((4 * t) + x))), (4, .int (iI g)), (3, .int (iI f1)), (0, .ref h0), (1, .int (iI t)), (2, .int (iI x))]) C dX12_indicator_138 (by decide) rfl ?_
              refine m_iconst C dX12_indicator_140 ?_
              refine m_istore (lv2 := [(7, .int (iI 0)), (6, .int (iI 0)), (5, .int (iI ((4 * t) + x))), (4, .int (iI g)), (3, .int (iI f1)), (0, .ref h0), (1, .int (iI t)), (2, .int (iI x))]) C dX12_indicator_141 (by decide) rfl ?_
              have Lp1 : ∀ (nn : Nat) (bf k : Int) (vb2 : Nat → Int) (ab2 : Nat → Nat → Int), 5 - k < (nn : Int) → BX vb2 ab2 → fr [0, 1, 3, 19] [16, 17, 18, 70] v a vb2 ab2 → (-2147483648 ≤ bf ∧ bf ≤ 2147483647) → (0 ≤ k ∧ k ≤ 4) → (KS v a vb2 ab2) → (TBL vb2 ab2) → (STK ln vb2 ab2) → (ab2 16 = a 16) → (ab2 17 = a 17) → (bf = PKB (a 17) (4 * (4 * t + x)).toNat k.toNat) → (k ≤ a 16 (4 * t + x).toNat) → (vb2 3 = 0) → mw p l e (rmq 2 1 4110) s m args below meth c G A 8 (MQ below (Qm G A (fun rq Lq Eq => ∃ (adq lnq : Nat → Nat) (vq : Nat → Int) (aq : Nat → Nat → Int), mI G h0 adq lnq vq aq Lq Eq ∧ (fun r ln2 v2 a2 => ∃ f : Int, r = some (.int (iI f)) ∧ fr [0, 1, 3, 19] [16, 17, 18, 70] v a v2 a2 ∧ BX v2 a2 ∧ (TBL v2 a2 ∧ STK ln2 v2 a2 ∧ v2 19 ≤ v 19 + 4 ∧ v2 3 = 0 ∧ ((f = -1 ∧ TSAME v a v2 a2 ∧ ¬ ((0 ≤ x ∧ x ≤ 3 ∧ 0 ≤ t ∧ t < v 4 ∧ a 5 t.toNat = 1 ∧ ((x = 0 ∧ a 6 t.toNat ≤ 2) ∨ (x = 1 ∧ a 6 t.toNat = 2) ∨ (x ≠ 0 ∧ x ≠ 1 ∧ a 6 t.toNat = 5)) ∧ v 3 ≤ 4) ∧ ACL (a 2) 0 (v 3) (DC (a 7 t.toNat)) ∧ True)) ∨ (f = v 3 ∧ ((0 ≤ x ∧ x ≤ 3 ∧ 0 ≤ t ∧ t < v 4 ∧ a 5 t.toNat = 1 ∧ ((x = 0 ∧ a 6 t.toNat ≤ 2) ∨ (x = 1 ∧ a 6 t.toNat = 2) ∨ (x ≠ 0 ∧ x ≠ 1 ∧ a 6 t.toNat = 5)) ∧ v 3 ≤ 4) ∧ ACL (a 2) 0 (v 3) (DC (a 7 t.toNat)) ∧ True) ∧ TIND t x v a v2 a2)))) rq lnq vq aq)) args s 1 4110 A) h0 ad ln vb2 ab2 0 0 143 [(7, .int (iI k)), (6, .int (iI bf)), (5, .int (iI ((4 * t) + x))), (4, .int (iI g)), (3, .int (iI f1)), (0, .ref h0), (1, .int (iI t)), (2, .int (iI x))] [] := by
                intro nn
                induction nn with
                | zero =>
                  intro bf k vb2 ab2 hm bxb2 fpb2 hbf hk hKb hTb hSb h16b h17b hpk hkm hz31
                  exact absurd hm (by omega)
                | succ nn ih1 =>
                  intro bf k vb2 ab2 hm bxb2 fpb2 hbf hk hKb hTb hSb h16b h17b hpk hkm hz31
                  refine m_iload (j := 0) C dX12_indicator_143 rfl ?_
                  refine m_aload_n (j := 5) C dX12_indicator_145 rfl ?_
                  refine m_geta (k := 16) C dX12_indicator_146 w6_75 (by decide) rfl ?_
                  refine m_iload (j := 2) C dX12_indicator_149 rfl ?_
                  refine m_ald (k := 16) C dX12_indicator_151 rfl rfl (by decide) (by omega) (by show _ < ((_ : Nat) : Int); simp only [mlen]; omega) (by decide) ?_
                  have ra3 : 0 ≤ ab2 16 ((4 * t) + x).toNat ∧ ab2 16 ((4 * t) + x).toNat ≤ 4 := bxb2.2 16 (((4 * t) + x).toNat)
                  refine m_icmp_ge (tgt := 181) C (r32_c (lo := 0) (hi := 4) hk.1 hk.2 (by decide) (by decide)) (r32_c (lo := 0) (hi := 4) ra3.1 ra3.2 (by decide) (by decide)) dX12_indicator_152 (by decide) (fun c5 => ?_) (fun c5 => ?_)
                  · refine m_aload_n (j := 5) C dX12_indicator_181 rfl ?_
                    refine m_iconst C dX12_indicator_182 ?_
                    refine m_iload (j := 2) C dX12_indicator_183 rfl ?_
                    refine m_aload_n (j := 5) C dX12_indicator_185 rfl ?_
                    refine m_geta (k := 16) C dX12_indicator_186 w6_75 (by decide) rfl ?_
                    refine m_iload (j := 2) C dX12_indicator_189 rfl ?_
                    refine m_ald (k := 16) C dX12_indicator_191 rfl rfl (by decide) (by omega) (by show _ < ((_ : Nat) : Int); simp only [mlen]; omega) (by decide) ?_
                    refine m_iload (j := 1) C dX12_indicator_192 rfl ?_
                    refine hv3 (show (-2147483648) ≤ vb2 19 ∧ vb2 19 ≤ 2147483647 from bxb2.1 19) (show KS v a vb2 ab2 from hKb) (show vb2 19 = vb2 19 from rfl) (fun rv6 kq1 kq1s => ?_)
                    have kq11 := kq1.1
                    refine n_call (mc2 := 1) (ms2 := 4110) (As := [.int (iI 4), .int (iI ((4 * t) + x)), .int (iI (ab2 16 ((4 * t) + x).toNat)), .int (iI bf)]) (rest := []) C (M_step (x := 4) (t := (4 * t) + x) (y := ab2 16 ((4 * t) + x).toNat) (z := bf) bxb2 (by omega) (by omega) (by omega) (by omega) (by show 0 ≤ vb2 19 ∧ vb2 19 ≤ 2048; omega) (by show vb2 19 ≤ ((ln 18 : Nat) : Int) ∧ 64 ≤ ln 18 ∧ ln 18 ≤ 8192; omega)) dX12_indicator_194 kV_X12_182 rfl ck_13 rfl (Nat.le_of_ble_eq_true rfl) ⟨Nat.le_of_ble_eq_true rfl, Nat.le_of_ble_eq_true rfl⟩ ⟨Nat.le_of_ble_eq_true rfl, Nat.le_of_ble_eq_true rfl⟩ (fun rh6 ad ln vh6 ah6 h6 => ?_)
                    obtain ⟨rfl, fn5, bn5, sx1_1, sx1_2, sx1_3, sx1_4, sx1_5, sx1_6, sx1_7, sx1_8⟩ := h6
                    refine hv5 (fpb2.call fn5 rfl rfl) (show TBL vh6 ah6 from TBL.fr hTb fn5 rfl rfl) (show 0 ≤ vh6 4 ∧ vh6 4 ≤ 30 from bn5.1 4) (show vh6 4 = vb2 4 from fn5.1 4 rfl) (show vb2 4 = v 4 from fpb2.1 4 rfl) (fun fq5 pw7 rv7 ve4 ve5 => ?_)
                    refine hv2 (show PSH v a vh6 ah6 4 ((4 * t) + x) (ab2 16 ((4 * t) + x).toNat) bf from ⟨by have q := kq1.1; have q1 := sx1_1; omega, fun j hj => (sx1_4 j (by have q := kq1.1; omega)).trans (congrFun kq1.2 j), by rw [← kq1.1]; exact sx1_5, by rw [← kq1.1]; exact sx1_6, by rw [← kq1.1]; exact sx1_7, by rw [← kq1.1]; exact sx1_8⟩) (show TBL vh6 ah6 from hT.fr fq5 rfl rfl) (fun ps1 pw9 => ?_)
                    have pw8 : STK ln vh6 ah6 := STK.push (T0 := vh6 4) (R0 := ah6 10) (x := 4) (t := (4 * t) + x) (y := ab2 16 ((4 * t) + x).toNat) hS (by have q := kq1.1; have q1 := sx1_1; omega) sx1_2 sx1_3 (fun j hj => (sx1_4 j (by have q := kq1.1; omega)).trans (congrFun kq1.2 j)) (by rw [← kq1.1]; exact sx1_5) (by rw [← kq1.1]; exact sx1_6) (by rw [← kq1.1]; exact sx1_7) (Or.inr (Or.inr (Or.inr (Or.inr ⟨rfl, ⟨by omega, by omega⟩, ⟨by omega, by omega⟩, rfl, rfl⟩)))) (fq5.1 4 rfl) (fun j hj => congrFun (fq5.2 10 rfl) j)
                    refine m_st (st2 := []) rfl ?_
                    refine m_aload_n (j := 5) C dX12_indicator_197 rfl ?_
                    refine m_geta (k := 16) C dX12_indicator_198 w6_75 (by decide) rfl ?_
                    refine m_iload (j := 2) C dX12_indicator_201 rfl ?_
                    refine m_iload_n (j := 4) C dX12_indicator_203 rfl ?_
                    refine m_ast (k := 16) C dX12_indicator_204 rfl rfl (by decide) (by omega) (by show _ < ((_ : Nat) : Int); simp only [mlen]; omega) (by decide) ?_
                    refine hv5 (show BX vh6 (up2 ah6 16 ((4 * t) + x).toNat f1) from bn5.set (k := 16) (i := ((4 * t) + x).toNat) (z := f1) (show 0 ≤ f1 ∧ f1 ≤ 4 by omega)) (fq5.set (k := 16) (i := ((4 * t) + x).toNat) (z := f1) rfl) (show TBL vh6 (up2 ah6 16 ((4 * t) + x).toNat f1) from TBL.set pw9 (k := 16) (i := ((4 * t) + x).toNat) (z := f1) (by decide)) (show STK ln vh6 (up2 ah6 16 ((4 * t) + x).toNat f1) from STK.set pw8 (k := 16) (i := ((4 * t) + x).toNat) (z := f1) (by decide)) (show PSH v a vh6 (up2 ah6 16 ((4 * t) + x).toNat f1) 4 ((4 * t) + x) (ab2 16 ((4 * t) + x).toNat) bf from PSH.set ps1 (k := 16) (i := ((4 * t) + x).toNat) (z := f1) (by decide)) (fun bq1 fq6 pw10 pw11 pw12 => ?_)
                    refine m_iconst C dX12_indicator_205 ?_
                    refine m_istore (lv2 := [(7, .int (iI 0)), (6, .int (iI bf)), (5, .int (iI ((4 * t) + x))), (4, .int (iI g)), (3, .int (iI f1)), (0, .ref h0), (1, .int (iI t)), (2, .int (iI x))]) C dX12_indicator_206 (by decide) rfl ?_
                    have Lp2 : ∀ (nn : Nat) (k1 : Int) (vb3 : Nat → Int) (ab3 : Nat → Nat → Int), 5 - k1 < (nn : Int) → BX vb3 ab3 → fr [0, 1, 3, 19] [16, 17, 18, 70] v a vb3 ab3 → (0 ≤ k1 ∧ k1 ≤ 4) → (vb3 19 ≤ v 19 + 4) → (TBL vb3 ab3) → (STK ln vb3 ab3) → (PSH v a vb3 ab3 4 ((4 * t) + x) (ab2 16 ((4 * t) + x).toNat) bf) → (ab3 16 = va_up (a 16) (4 * t + x).toNat (v 3)) → (FIL (ab3 17) (a 17) (4 * (4 * t + x)).toNat k1.toNat 4 (a 2)) → (k1 ≤ f1) → (vb3 3 = 0) → mw p l e (rmq 2 1 4110) s m args below meth c G A 8 (MQ below (Qm G A (fun rq Lq Eq => ∃ (adq lnq : Nat → Nat) (vq : Nat → Int) (aq : Nat → Nat → Int), mI G h0 adq lnq vq aq Lq Eq ∧ (fun r ln2 v2 a2 => ∃ f : Int, r = some (.int (iI f)) ∧ fr [0, 1, 3, 19] [16, 17, 18, 70] v a v2 a2 ∧ BX v2 a2 ∧ (TBL v2 a2 ∧ STK ln2 v2 a2 ∧ v2 19 ≤ v 19 + 4 ∧ v2 3 = 0 ∧ ((f = -1 ∧ TSAME v a v2 a2 ∧ ¬ ((0 ≤ x ∧ x ≤ 3 ∧ 0 ≤ t ∧ t < v 4 ∧ a 5 t.toNat = 1 ∧ ((x = 0 ∧ a 6 t.toNat ≤ 2) ∨ (x = 1 ∧ a 6 t.toNat = 2) ∨ (x ≠ 0 ∧ x ≠ 1 ∧ a 6 t.toNat = 5)) ∧ v 3 ≤ 4) ∧ ACL (a 2) 0 (v 3) (DC (a 7 t.toNat)) ∧ True)) ∨ (f = v 3 ∧ ((0 ≤ x ∧ x ≤ 3 ∧ 0 ≤ t ∧ t < v 4 ∧ a 5 t.toNat = 1 ∧ ((x = 0 ∧ a 6 t.toNat ≤ 2) ∨ (x = 1 ∧ a 6 t.toNat = 2) ∨ (x ≠ 0 ∧ x ≠ 1 ∧ a 6 t.toNat = 5)) ∧ v 3 ≤ 4) ∧ ACL (a 2) 0 (v 3) (DC (a 7 t.toNat)) ∧ True) ∧ TIND t x v a v2 a2)))) rq lnq vq aq)) args s 1 4110 A) h0 ad ln vb3 ab3 (0 + 1) (0 + 4110) 208 [(7, .int (iI k1)), (6, .int (iI bf)), (5, .int (iI ((4 * t) + x))), (4, .int (iI g)), (3, .int (iI f1)), (0, .ref h0), (1, .int (iI t)), (2, .int (iI x))] [] := by
                      intro nn
                      induction nn with
                      | zero =>
                        intro k1 vb3 ab3 hm bxb3 fpb3 hk1 h19c hTc hSc hPc h16c h17c hk1m hz32
                        exact absurd hm (by omega)
                      | succ nn ih2 =>
                        intro k1 vb3 ab3 hm bxb3 fpb3 hk1 h19c hTc hSc hPc h16c h17c hk1m hz32
                        refine m_iload (j := 0) C dX12_indicator_208 rfl ?_
                        refine m_iload_n (j := 4) C dX12_indicator_210 rfl ?_
                        refine m_icmp_ge (tgt := 239) C (r32_c (lo := 0) (hi := 4) hk1.1 hk1.2 (by decide) (by decide)) ⟨by omega, by omega⟩ dX12_indicator_211 (by decide) (fun c6 => ?_) (fun c6 => ?_)
                        · refine m_aload_n (j := 5) C dX12_indicator_239 rfl ?_
                          refine m_iload_n (j := 4) C dX12_indicator_240 rfl ?_
                          refine m_call (mc2 := 0) (ms2 := 0) (As := [.int (iI f1)]) (rest := []) C (B_fine (x := f1) bxb3 (by show -2147483648 ≤ f1 ∧ f1 ≤ 2147483647; omega)) dX12_indicator_241 kV_X12_158 rfl ck_13 rfl (Nat.le_of_ble_eq_true rfl) ⟨Nat.le_of_ble_eq_true rfl, Nat.le_of_ble_eq_true rfl⟩ ⟨Nat.le_of_ble_eq_true rfl, Nat.le_of_ble_eq_true rfl⟩ (fun rh7 vh7 ah7 h7 => ?_)
                          obtain ⟨f5, rfl, fn6, bn6, ex5⟩ := h7
                          refine hv5 (fpb3.call fn6 rfl rfl) (show TBL vh7 ah7 from TBL.fr hTc fn6 rfl rfl) (show STK ln vh7 ah7 from STK.fr hSc fn6 rfl rfl) (show PSH v a vh7 ah7 4 ((4 * t) + x) (ab2 16 ((4 * t) + x).toNat) bf from PSH.fr hPc fn6 rfl rfl) (show f5 = f1 from ex5) (fun fq7 pw13 pw14 pw15 gf5 => ?_)
                          refine m_st (st2 := [.int (iI f5)]) rfl ?_
                          refine hv4 (show (-2147483648) ≤ vh7 19 ∧ vh7 19 ≤ 2147483647 from bn6.1 19) (show vh7 19 = vb3 19 from fn6.1 19 rfl) (show 0 ≤ vh7 3 ∧ vh7 3 ≤ 3000 from bn6.1 3) (show vh7 3 = vb3 3 from fn6.1 3 rfl) (fun rv8 ve6 rv9 ve7 => ?_)
                          have ea0 : v 3 = f1 := by omega
                          exact n_iret C dX12_indicator_244 rfl (Nat.le_of_ble_eq_true rfl) (Nat.le_of_ble_eq_true rfl) ⟨f5, rfl, fq7, bn6, ⟨pw13, pw14, (by show vh7 19 ≤ v 19 + 4; omega), (by show vh7 3 = 0; omega), Or.inr ⟨by omega, ⟨by omega, (by rw [ea0]; exact acf4.mp (by omega)), trivial⟩, ⟨(fq7.1 4 rfl), (fq7.2 5 rfl), (fq7.2 6 rfl), (fq7.2 7 rfl), (fq7.2 10 rfl), (pw15.cg (congrFun h16b _) (by rw [hpk, show k.toNat = (a 16 (4 * t + x).toNat).toNat by have q := congrFun h16b (4 * t + x).toNat; omega]))⟩, (fq7.2 11 rfl), (fq7.2 8 rfl), (fq7.2 9 rfl), (fq7.2 12 rfl), (fq7.2 13 rfl), (fq7.2 14 rfl), (fq7.2 15 rfl), ((fn6.2 16 rfl).trans h16c), ((h17c.n (show (v 3).toNat = k1.toNat by omega)).cg (fn6.2 17 rfl))⟩⟩⟩
                        · refine m_aload_n (j := 5) C dX12_indicator_214 rfl ?_
                          refine m_geta (k := 17) C dX12_indicator_215 w6_76 (by decide) rfl ?_
                          refine m_iconst C dX12_indicator_218 ?_
                          refine m_iload (j := 2) C dX12_indicator_219 rfl ?_
                          refine m_imul C dX12_indicator_221 ?_
                          refine m_iload (j := 0) C dX12_indicator_222 rfl ?_
                          refine m_iadd C dX12_indicator_224 ?_
                          refine m_aload_n (j := 5) C dX12_indicator_225 rfl ?_
                          refine m_geta (k := 2) C dX12_indicator_226 w6_61 (by decide) rfl ?_
                          refine m_iload (j := 0) C dX12_indicator_229 rfl ?_
                          refine m_ald (k := 2) C dX12_indicator_231 rfl rfl (by decide) hk1.1 (Int.lt_of_le_of_lt hk1.2 (by decide)) (by decide) ?_
                          refine hv2 (show (-2147483648) ≤ ab3 2 k1.toNat ∧ ab3 2 k1.toNat ≤ 2147483647 from bxb3.2 2 (k1.toNat)) (show ab3 2 (k1.toNat) = a 2 (k1.toNat) from congrFun (fpb3.2 2 rfl) (k1.toNat)) (fun ra4 ae3 => ?_)
                          refine m_st (st2 := [.int (iI (a 2 k1.toNat)), .int (iI ((4 * ((4 * t) + x)) + k1)), .ref (ad 17)]) (congrArg (fun z => Value.int (iI z) :: [.int (iI ((4 * ((4 * t) + x)) + k1)), .ref (ad 17)]) (congrFun (fpb3.2 2 rfl) (k1.toNat))) ?_
                          refine m_ast (k := 17) C dX12_indicator_232 rfl rfl (by decide) (by omega) (by show _ < ((_ : Nat) : Int); simp only [mlen]; omega) (by decide) ?_
                          refine hv5 (show BX vb3 (up2 ab3 17 ((4 * ((4 * t) + x)) + k1).toNat (a 2 k1.toNat)) from bxb3.set (k := 17) (i := ((4 * ((4 * t) + x)) + k1).toNat) (z := a 2 k1.toNat) (show (-2147483648) ≤ (a 2 k1.toNat) ∧ (a 2 k1.toNat) ≤ 2147483647 by omega)) (fpb3.set (k := 17) (i := ((4 * ((4 * t) + x)) + k1).toNat) (z := a 2 k1.toNat) rfl) (show TBL vb3 (up2 ab3 17 ((4 * ((4 * t) + x)) + k1).toNat (a 2 k1.toNat)) from TBL.set hTc (k := 17) (i := ((4 * ((4 * t) + x)) + k1).toNat) (z := a 2 k1.toNat) (by decide)) (show STK ln vb3 (up2 ab3 17 ((4 * ((4 * t) + x)) + k1).toNat (a 2 k1.toNat)) from STK.set hSc (k := 17) (i := ((4 * ((4 * t) + x)) + k1).toNat) (z := a 2 k1.toNat) (by decide)) (show PSH v a vb3 (up2 ab3 17 ((4 * ((4 * t) + x)) + k1).toNat (a 2 k1.toNat)) 4 ((4 * t) + x) (ab2 16 ((4 * t) + x).toNat) bf from PSH.set hPc (k := 17) (i := ((4 * ((4 * t) + x)) + k1).toNat) (z := a 2 k1.toNat) (by decide)) (fun bq2 fq8 pw16 pw17 pw18 => ?_)
                          refine m_iinc (z := k1) (j := 0) (lv2 := [(7, .int (iI (k1 + 1))), (6, .int (iI bf)), (5, .int (iI ((4 * t) + x))), (4, .int (iI g)), (3, .int (iI f1)), (0, .ref h0), (1, .int (iI t)), (2, .int (iI x))]) C dX12_indicator_233 rfl (by decide) rfl ?_
                          refine m_goto (tgt := 208) C dX12_indicator_236 (by decide) ?_
                          refine hv2 (show (-2147483648) ≤ vb3 19 ∧ vb3 19 ≤ 2147483647 from bq2.1 19) (show 0 ≤ vb3 3 ∧ vb3 3 ≤ 3000 from bq2.1 3) (fun rv10 rv11 => ?_)
                          refine m_lv (lv2 := [(7, .int (iI (k1 + 1))), (6, .int (iI bf)), (5, .int (iI ((4 * t) + x))), (4, .int (iI g)), (3, .int (iI f1)), (0, .ref h0), (1, .int (iI t)), (2, .int (iI x))]) [0, 1, 2, 3, 4, 5, 6, 7] rfl ?_
                          exact ih2  (k1 + 1) _ _ (by omega) bq2 fq8 (by omega) (by show (vb3 19) ≤ v 19 + 4; omega) pw16 pw17 pw18 ((funext fun _ => up2_k (by decide)).trans h16c) (by rw [up2_va]; exact h17c.step (by omega) rfl (by omega) (by omega)) (by omega) (by show (vb3 3) = 0; omega)
                    refine hv3 (show (-2147483648) ≤ vh6 19 ∧ vh6 19 ≤ 2147483647 from bq1.1 19) (show 0 ≤ vh6 3 ∧ vh6 3 ≤ 3000 from bq1.1 3) (show vh6 3 = vb2 3 from fn5.1 3 rfl) (fun rv12 rv13 ve8 => ?_)
                    refine m_lv (lv2 := [(7, .int (iI 0)), (6, .int (iI bf)), (5, .int (iI ((4 * t) + x))), (4, .int (iI g)), (3, .int (iI f1)), (0, .ref h0), (1, .int (iI t)), (2, .int (iI x))]) [0, 1, 2, 3, 4, 5, 6, 7] rfl ?_
                    exact Lp2 6 0 _ _ (by omega) bq1 fq6 (by omega) (by show (vh6 19) ≤ v 19 + 4; omega) pw10 pw11 pw12 (by rw [up2_va, fn5.2 16 rfl, h16b, show f1 = v 3 by omega]) (FIL.zero ((funext fun _ => up2_k (by decide)).trans ((fn5.2 17 rfl).trans h17b)) rfl) (by omega) (by show (vh6 3) = 0; omega)
                  · refine m_iload (j := 1) C dX12_indicator_155 rfl ?_
                    refine m_bipush (z := 8) C dX12_indicator_157 (by decide) ?_
                    obtain ⟨zz1, hzz1, ezz1⟩ := iI_of (iI bf <<< (iI 8 &&& 31))
                    refine m_ishl (w := iI zz1) C dX12_indicator_159 ezz1 ?_
                    refine m_aload_n (j := 5) C dX12_indicator_160 rfl ?_
                    refine m_geta (k := 17) C dX12_indicator_161 w6_76 (by decide) rfl ?_
                    refine m_iconst C dX12_indicator_164 ?_
                    refine m_iload (j := 2) C dX12_indicator_165 rfl ?_
                    refine m_imul C dX12_indicator_167 ?_
                    refine m_iload (j := 0) C dX12_indicator_168 rfl ?_
                    refine m_iadd C dX12_indicator_170 ?_
                    refine m_ald (k := 17) C dX12_indicator_171 rfl rfl (by decide) (by omega) (by show _ < ((_ : Nat) : Int); simp only [mlen]; omega) (by decide) ?_
                    have ra5 : (-2147483648) ≤ ab2 17 ((4 * ((4 * t) + x)) + k).toNat ∧ ab2 17 ((4 * ((4 * t) + x)) + k).toNat ≤ 2147483647 := bxb2.2 17 (((4 * ((4 * t) + x)) + k).toNat)
                    obtain ⟨zz2, hzz2, ezz2⟩ := iI_of (iI zz1 ||| iI (ab2 17 ((4 * ((4 * t) + x)) + k).toNat))
                    refine m_ior (w := iI zz2) C dX12_indicator_172 ezz2 ?_
                    refine m_istore (lv2 := [(6, .int (iI zz2)), (7, .int (iI k)), (5, .int (iI ((4 * t) + x))), (4, .int (iI g)), (3, .int (iI f1)), (0, .ref h0), (1, .int (iI t)), (2, .int (iI x))]) C dX12_indicator_173 (by decide) rfl ?_
                    refine m_iinc (z := k) (j := 1) (lv2 := [(7, .int (iI (k + 1))), (6, .int (iI zz2)), (5, .int (iI ((4 * t) + x))), (4, .int (iI g)), (3, .int (iI f1)), (0, .ref h0), (1, .int (iI t)), (2, .int (iI x))]) C dX12_indicator_175 rfl (by decide) rfl ?_
                    refine m_goto (tgt := 143) C dX12_indicator_178 (by decide) ?_
                    have rv14 : 0 ≤ vb2 3 ∧ vb2 3 ≤ 3000 := bxb2.1 3
                    refine m_lv (lv2 := [(7, .int (iI (k + 1))), (6, .int (iI zz2)), (5, .int (iI ((4 * t) + x))), (4, .int (iI g)), (3, .int (iI f1)), (0, .ref h0), (1, .int (iI t)), (2, .int (iI x))]) [0, 1, 2, 3, 4, 5, 6, 7] rfl ?_
                    exact ih1  zz2 (k + 1) _ _ (by omega) bxb2 fpb2 (by omega) (by omega) hKb hTb hSb h16b h17b (PKB.step hpk ezz1 ezz2 hzz2 (by rw [h17b]; exact congrArg (a 17) (by omega)) (by omega)) (by have q := congrFun h16b (4 * t + x).toNat; omega) (by show (vb2 3) = 0; omega)
              have rv15 : 0 ≤ vb1 3 ∧ vb1 3 ≤ 3000 := bxb1.1 3
              refine m_lv (lv2 := [(7, .int (iI 0)), (6, .int (iI 0)), (5, .int (iI ((4 * t) + x))), (4, .int (iI g)), (3, .int (iI f1)), (0, .ref h0), (1, .int (iI t)), (2, .int (iI x))]) [0, 1, 2, 3, 4, 5, 6, 7] rfl ?_
              exact Lp1 6 0 0 _ _ (by omega) bxb1 fpb1 (by omega) (by omega) hKa hTa hSa h16a h17a rfl (by have q : 0 ≤ a 16 (4 * t + x).toNat ∧ a 16 (4 * t + x).toNat ≤ 4 := hB.2 16 _; omega) (by show (vb1 3) = 0; omega)
            · replace gf4 := (And.intro c4 gf4.2)
              refine m_aload_n (j := 2) C dX12_indicator_123 rfl ?_
              refine m_bipush (z := 6) C dX12_indicator_124 (by decide) ?_
              refine m_call (mc2 := 0) (ms2 := 0) (As := [.int (iI 6)]) (rest := []) C (B_bad (x := 6) bxb1 (by show -2147483648 ≤ (6 : Int) ∧ (6 : Int) ≤ 2147483647; omega)) dX12_indicator_126 kV_X12_154 rfl ck_13 rfl (Nat.le_of_ble_eq_true rfl) ⟨Nat.le_of_ble_eq_true rfl, Nat.le_of_ble_eq_true rfl⟩ ⟨Nat.le_of_ble_eq_true rfl, Nat.le_of_ble_eq_true rfl⟩ (fun rh8 vh8 ah8 h8 => ?_)
              obtain ⟨f6, rfl, fn7, bn7, ex6⟩ := h8
              refine hv5 (fpb1.call fn7 rfl rfl) (show KS v a vh8 ah8 from KS.fr hKa fn7 rfl rfl) (show TBL vh8 ah8 from TBL.fr hTa fn7 rfl rfl) (show STK ln vh8 ah8 from STK.fr hSa fn7 rfl rfl) (show f6 = -1 from ex6) (fun fq9 pw19 pw20 pw21 gf6 => ?_)
              refine m_st (st2 := [.int (iI f6)]) rfl ?_
              refine hv5 (show (-2147483648) ≤ vh8 19 ∧ vh8 19 ≤ 2147483647 from bn7.1 19) (show vh8 19 = vb1 19 from fn7.1 19 rfl) ((pw19).1) (show 0 ≤ vh8 3 ∧ vh8 3 ≤ 3000 from bn7.1 3) (show vh8 3 = vb1 3 from fn7.1 3 rfl) (fun rv16 ve9 ksx2 rv17 ve10 => ?_)
              exact n_iret C dX12_indicator_129 rfl (Nat.le_of_ble_eq_true rfl) (Nat.le_of_ble_eq_true rfl) ⟨f6, rfl, fq9, bn7, ⟨pw20, pw21, (by show vh8 19 ≤ v 19 + 4; omega), (by show vh8 3 = 0; omega), Or.inl ⟨by omega, ⟨(fq9.1 4 rfl), (fq9.2 5 rfl), (fq9.2 6 rfl), (fq9.2 7 rfl), (fq9.2 10 rfl), (pw19).1, (pw19).2, (fq9.2 11 rfl), ⟨(fq9.2 8 rfl), (fq9.2 9 rfl), (fq9.2 12 rfl), (fq9.2 13 rfl), (fq9.2 14 rfl), (fq9.2 15 rfl), ((fn7.2 16 rfl).trans h16a), ((fn7.2 17 rfl).trans h17a)⟩⟩, (fun q => by have q1 := q.1; first | omega | exact absurd (acf4.mpr (by rw [show f1 = v 3 by omega]; exact q.2.1)) (by omega))⟩⟩⟩
        · replace hg := (And.intro c2 hg.2)
          refine m_aload_n (j := 2) C dX12_indicator_102 rfl ?_
          refine m_iconst C dX12_indicator_103 ?_
          refine m_call (mc2 := 0) (ms2 := 0) (As := [.int (iI 4)]) (rest := []) C (B_bad (x := 4) bxb1 (by show -2147483648 ≤ (4 : Int) ∧ (4 : Int) ≤ 2147483647; omega)) dX12_indicator_104 kV_X12_154 rfl ck_13 rfl (Nat.le_of_ble_eq_true rfl) ⟨Nat.le_of_ble_eq_true rfl, Nat.le_of_ble_eq_true rfl⟩ ⟨Nat.le_of_ble_eq_true rfl, Nat.le_of_ble_eq_true rfl⟩ (fun rh9 vh9 ah9 h9 => ?_)
          obtain ⟨f7, rfl, fn8, bn8, ex7⟩ := h9
          refine hv5 (fpb1.call fn8 rfl rfl) (show KS v a vh9 ah9 from KS.fr hKa fn8 rfl rfl) (show TBL vh9 ah9 from TBL.fr hTa fn8 rfl rfl) (show STK ln vh9 ah9 from STK.fr hSa fn8 rfl rfl) (show f7 = -1 from ex7) (fun fq10 pw22 pw23 pw24 gf7 => ?_)
          refine m_st (st2 := [.int (iI f7)]) rfl ?_
          refine hv5 (show (-2147483648) ≤ vh9 19 ∧ vh9 19 ≤ 2147483647 from bn8.1 19) (show vh9 19 = vb1 19 from fn8.1 19 rfl) ((pw22).1) (show 0 ≤ vh9 3 ∧ vh9 3 ≤ 3000 from bn8.1 3) (show vh9 3 = vb1 3 from fn8.1 3 rfl) (fun rv18 ve11 ksx3 rv19 ve12 => ?_)
          exact n_iret C dX12_indicator_107 rfl (Nat.le_of_ble_eq_true rfl) (Nat.le_of_ble_eq_true rfl) ⟨f7, rfl, fq10, bn8, ⟨pw23, pw24, (by show vh9 19 ≤ v 19 + 4; omega), (by show vh9 3 = 0; omega), Or.inl ⟨by omega, ⟨(fq10.1 4 rfl), (fq10.2 5 rfl), (fq10.2 6 rfl), (fq10.2 7 rfl), (fq10.2 10 rfl), (pw22).1, (pw22).2, (fq10.2 11 rfl), ⟨(fq10.2 8 rfl), (fq10.2 9 rfl), (fq10.2 12 rfl), (fq10.2 13 rfl), (fq10.2 14 rfl), (fq10.2 15 rfl), ((fn8.2 16 rfl).trans h16a), ((fn8.2 17 rfl).trans h17a)⟩⟩, (fun q => by have q1 := q.1; first | omega)⟩⟩⟩
      refine m_if_ne (tgt := 57) C ⟨by omega, by omega⟩ dX12_indicator_36 (by decide) (fun c7 => ?_) (fun c7 => ?_)
      · refine m_iload_n (j := 3) C dX12_indicator_57 rfl ?_
        refine m_iconst C dX12_indicator_58 ?_
        refine m_icmp_ne (tgt := 80) C ⟨by omega, by omega⟩ ⟨by decide, by decide⟩ dX12_indicator_59 (by decide) (fun c8 => ?_) (fun c8 => ?_)
        · refine m_aload_n (j := 1) C dX12_indicator_80 rfl ?_
          refine m_geta (k := 6) C dX12_indicator_81 w6_65 (by decide) rfl ?_
          refine m_iload_n (j := 2) C dX12_indicator_84 rfl ?_
          refine m_ald (k := 6) C dX12_indicator_85 rfl rfl (by decide) (by omega) (by show _ < ((_ : Nat) : Int); simp only [mlen]; omega) (by decide) ?_
          refine hv2 (show 0 ≤ ah1 6 t.toNat ∧ ah1 6 t.toNat ≤ 5 from bn1.2 6 (t.toNat)) (show ah1 6 (t.toNat) = a 6 (t.toNat) from congrFun (fn1.2 6 rfl) (t.toNat)) (fun ra6 ae4 => ?_)
          refine m_st (st2 := [.int (iI (a 6 t.toNat))]) (congrArg (fun z => Value.int (iI z) :: []) (congrFun (fq1.2 6 rfl) (t.toNat))) ?_
          refine m_iconst C dX12_indicator_86 ?_
          refine m_icmp_ne (tgt := 94) C ⟨by omega, by omega⟩ ⟨by decide, by decide⟩ dX12_indicator_87 (by decide) (fun c9 => ?_) (fun c9 => ?_)
          · refine m_iconst C dX12_indicator_94 ?_
            refine m_lv (lv2 := [(3, .int (iI f1)), (0, .ref h0), (1, .int (iI t)), (2, .int (iI x))]) [0, 1, 2, 3] rfl ?_
            exact J1  0 _ _  bn1 fq1 (by omega) pw1 pw2 pw3 (fn1.2 16 rfl) (fn1.2 17 rfl) (by show (vh1 3) = 0; omega)
          · refine m_iconst C dX12_indicator_90 ?_
            refine m_goto (tgt := 95) C dX12_indicator_91 (by decide) ?_
            refine m_lv (lv2 := [(3, .int (iI f1)), (0, .ref h0), (1, .int (iI t)), (2, .int (iI x))]) [0, 1, 2, 3] rfl ?_
            exact J1  1 _ _  bn1 fq1 (by omega) pw1 pw2 pw3 (fn1.2 16 rfl) (fn1.2 17 rfl) (by show (vh1 3) = 0; omega)
        · refine m_aload_n (j := 1) C dX12_indicator_62 rfl ?_
          refine m_geta (k := 6) C dX12_indicator_63 w6_65 (by decide) rfl ?_
          refine m_iload_n (j := 2) C dX12_indicator_66 rfl ?_
          refine m_ald (k := 6) C dX12_indicator_67 rfl rfl (by decide) (by omega) (by show _ < ((_ : Nat) : Int); simp only [mlen]; omega) (by decide) ?_
          refine hv2 (show 0 ≤ ah1 6 t.toNat ∧ ah1 6 t.toNat ≤ 5 from bn1.2 6 (t.toNat)) (show ah1 6 (t.toNat) = a 6 (t.toNat) from congrFun (fn1.2 6 rfl) (t.toNat)) (fun ra7 ae5 => ?_)
          refine m_st (st2 := [.int (iI (a 6 t.toNat))]) (congrArg (fun z => Value.int (iI z) :: []) (congrFun (fq1.2 6 rfl) (t.toNat))) ?_
          refine m_iconst C dX12_indicator_68 ?_
          refine m_icmp_ne (tgt := 76) C ⟨by omega, by omega⟩ ⟨by decide, by decide⟩ dX12_indicator_69 (by decide) (fun c10 => ?_) (fun c10 => ?_)
          · refine m_iconst C dX12_indicator_76 ?_
            refine m_goto (tgt := 95) C dX12_indicator_77 (by decide) ?_
            refine m_lv (lv2 := [(3, .int (iI f1)), (0, .ref h0), (1, .int (iI t)), (2, .int (iI x))]) [0, 1, 2, 3] rfl ?_
            exact J1  0 _ _  bn1 fq1 (by omega) pw1 pw2 pw3 (fn1.2 16 rfl) (fn1.2 17 rfl) (by show (vh1 3) = 0; omega)
          · refine m_iconst C dX12_indicator_72 ?_
            refine m_goto (tgt := 95) C dX12_indicator_73 (by decide) ?_
            refine m_lv (lv2 := [(3, .int (iI f1)), (0, .ref h0), (1, .int (iI t)), (2, .int (iI x))]) [0, 1, 2, 3] rfl ?_
            exact J1  1 _ _  bn1 fq1 (by omega) pw1 pw2 pw3 (fn1.2 16 rfl) (fn1.2 17 rfl) (by show (vh1 3) = 0; omega)
      · refine m_aload_n (j := 1) C dX12_indicator_39 rfl ?_
        refine m_geta (k := 6) C dX12_indicator_40 w6_65 (by decide) rfl ?_
        refine m_iload_n (j := 2) C dX12_indicator_43 rfl ?_
        refine m_ald (k := 6) C dX12_indicator_44 rfl rfl (by decide) (by omega) (by show _ < ((_ : Nat) : Int); simp only [mlen]; omega) (by decide) ?_
        refine hv2 (show 0 ≤ ah1 6 t.toNat ∧ ah1 6 t.toNat ≤ 5 from bn1.2 6 (t.toNat)) (show ah1 6 (t.toNat) = a 6 (t.toNat) from congrFun (fn1.2 6 rfl) (t.toNat)) (fun ra8 ae6 => ?_)
        refine m_st (st2 := [.int (iI (a 6 t.toNat))]) (congrArg (fun z => Value.int (iI z) :: []) (congrFun (fq1.2 6 rfl) (t.toNat))) ?_
        refine m_iconst C dX12_indicator_45 ?_
        refine m_icmp_gt (tgt := 53) C ⟨by omega, by omega⟩ ⟨by decide, by decide⟩ dX12_indicator_46 (by decide) (fun c11 => ?_) (fun c11 => ?_)
        · refine m_iconst C dX12_indicator_53 ?_
          refine m_goto (tgt := 95) C dX12_indicator_54 (by decide) ?_
          refine m_lv (lv2 := [(3, .int (iI f1)), (0, .ref h0), (1, .int (iI t)), (2, .int (iI x))]) [0, 1, 2, 3] rfl ?_
          exact J1  0 _ _  bn1 fq1 (by omega) pw1 pw2 pw3 (fn1.2 16 rfl) (fn1.2 17 rfl) (by show (vh1 3) = 0; omega)
        · refine m_iconst C dX12_indicator_49 ?_
          refine m_goto (tgt := 95) C dX12_indicator_50 (by decide) ?_
          refine m_lv (lv2 := [(3, .int (iI f1)), (0, .ref h0), (1, .int (iI t)), (2, .int (iI x))]) [0, 1, 2, 3] rfl ?_
          exact J1  1 _ _  bn1 fq1 (by omega) pw1 pw2 pw3 (fn1.2 16 rfl) (fn1.2 17 rfl) (by show (vh1 3) = 0; omega)
    · replace gf2 := (gf2.resolve_right (fun q => absurd (q.1.symm.trans c1) (by decide)))
      refine m_aload_n (j := 1) C dX12_indicator_29 rfl ?_
      refine m_iconst C dX12_indicator_30 ?_
      refine m_call (mc2 := 0) (ms2 := 0) (As := [.int (iI 3)]) (rest := []) C (B_bad (x := 3) bn1 (by show -2147483648 ≤ (3 : Int) ∧ (3 : Int) ≤ 2147483647; omega)) dX12_indicator_31 kV_X12_154 rfl ck_13 rfl (Nat.le_of_ble_eq_true rfl) ⟨Nat.le_of_ble_eq_true rfl, Nat.le_of_ble_eq_true rfl⟩ ⟨Nat.le_of_ble_eq_true rfl, Nat.le_of_ble_eq_true rfl⟩ (fun rh10 vh10 ah10 h10 => ?_)
      obtain ⟨f8, rfl, fn9, bn9, ex8⟩ := h10
      refine hv5 (fq1.call fn9 rfl rfl) (show KS v a vh10 ah10 from KS.fr pw1 fn9 rfl rfl) (show TBL vh10 ah10 from TBL.fr pw2 fn9 rfl rfl) (show STK ln vh10 ah10 from STK.fr pw3 fn9 rfl rfl) (show f8 = -1 from ex8) (fun fq11 pw25 pw26 pw27 gf8 => ?_)
      refine m_st (st2 := [.int (iI f8)]) rfl ?_
      refine hv6 (show (-2147483648) ≤ vh10 19 ∧ vh10 19 ≤ 2147483647 from bn9.1 19) (show vh10 19 = vh1 19 from fn9.1 19 rfl) (show vh1 19 = v 19 from fn1.1 19 rfl) ((pw25).1) (show 0 ≤ vh10 3 ∧ vh10 3 ≤ 3000 from bn9.1 3) (show vh10 3 = vh1 3 from fn9.1 3 rfl) (fun rv20 ve13 ve14 ksx4 rv21 ve15 => ?_)
      exact n_iret C dX12_indicator_34 rfl (Nat.le_of_ble_eq_true rfl) (Nat.le_of_ble_eq_true rfl) ⟨f8, rfl, fq11, bn9, ⟨pw26, pw27, (by show vh10 19 ≤ v 19 + 4; omega), (by show vh10 3 = 0; omega), Or.inl ⟨by omega, ⟨(fq11.1 4 rfl), (fq11.2 5 rfl), (fq11.2 6 rfl), (fq11.2 7 rfl), (fq11.2 10 rfl), (pw25).1, (pw25).2, (fq11.2 11 rfl), ⟨(fq11.2 8 rfl), (fq11.2 9 rfl), (fq11.2 12 rfl), (fq11.2 13 rfl), (fq11.2 14 rfl), (fq11.2 15 rfl), ((fn9.2 16 rfl).trans (fn1.2 16 rfl)), ((fn9.2 17 rfl).trans (fn1.2 17 rfl))⟩⟩, (fun q => by have q1 := q.1; first | omega)⟩⟩⟩
  · refine m_st (st2 := [.int (iI 0)]) (by rw [h2e]) ?_
    refine m_if_ne (tgt := 21) C ⟨by decide, by decide⟩ dX12_indicator_11 (by decide) (fun z => absurd z (by omega)) (fun _ => ?_)
    refine m_aload_n (j := 1) C dX12_indicator_14 rfl ?_
    refine m_bipush (z := 6) C dX12_indicator_15 (by decide) ?_
    refine m_call (mc2 := 0) (ms2 := 0) (As := [.int (iI 6)]) (rest := []) C (B_bad (x := 6) bn1 (by show -2147483648 ≤ (6 : Int) ∧ (6 : Int) ≤ 2147483647; omega)) dX12_indicator_17 kV_X12_154 rfl ck_13 rfl (Nat.le_of_ble_eq_true rfl) ⟨Nat.le_of_ble_eq_true rfl, Nat.le_of_ble_eq_true rfl⟩ ⟨Nat.le_of_ble_eq_true rfl, Nat.le_of_ble_eq_true rfl⟩ (fun rh11 vh11 ah11 h11 => ?_)
    obtain ⟨f9, rfl, fn10, bn10, ex9⟩ := h11
    refine hv5 (fq1.call fn10 rfl rfl) (show KS v a vh11 ah11 from KS.fr pw1 fn10 rfl rfl) (show TBL vh11 ah11 from TBL.fr pw2 fn10 rfl rfl) (show STK ln vh11 ah11 from STK.fr pw3 fn10 rfl rfl) (show f9 = -1 from ex9) (fun fq12 pw28 pw29 pw30 gf9 => ?_)
    refine m_st (st2 := [.int (iI f9)]) rfl ?_
    refine hv6 (show (-2147483648) ≤ vh11 19 ∧ vh11 19 ≤ 2147483647 from bn10.1 19) (show vh11 19 = vh1 19 from fn10.1 19 rfl) (show vh1 19 = v 19 from fn1.1 19 rfl) ((pw28).1) (show 0 ≤ vh11 3 ∧ vh11 3 ≤ 3000 from bn10.1 3) (show vh11 3 = vh1 3 from fn10.1 3 rfl) (fun rv22 ve16 ve17 ksx5 rv23 ve18 => ?_)
    exact n_iret C dX12_indicator_20 rfl (Nat.le_of_ble_eq_true rfl) (Nat.le_of_ble_eq_true rfl) ⟨f9, rfl, fq12, bn10, ⟨pw29, pw30, (by show vh11 19 ≤ v 19 + 4; omega), (by show vh11 3 = 0; omega), Or.inl ⟨by omega, ⟨(fq12.1 4 rfl), (fq12.2 5 rfl), (fq12.2 6 rfl), (fq12.2 7 rfl), (fq12.2 10 rfl), (pw28).1, (pw28).2, (fq12.2 11 rfl), ⟨(fq12.2 8 rfl), (fq12.2 9 rfl), (fq12.2 12 rfl), (fq12.2 13 rfl), (fq12.2 14 rfl), (fq12.2 15 rfl), ((fn10.2 16 rfl).trans (fn1.2 16 rfl)), ((fn10.2 17 rfl).trans (fn1.2 17 rfl))⟩⟩, (fun q => by have q1 := q.1; first | omega)⟩⟩⟩
def UN (a a2 : Nat → Nat → Int) : Prop := a2 10 = a 10 ∧ a2 12 = a 12 ∧ a2 13 = a 13 ∧ a2 11 = a 11 ∧ a2 14 = a 14 ∧ a2 15 = a 15
theorem UN.set {a a2 : Nat → Nat → Int} (h : UN a a2) {k i : Nat} {z : Int} (hk : ([10, 11, 12, 13, 14, 15] : List Nat).contains k = false) : UN a (up2 a2 k i z) := by
  have g : ∀ j, ([10, 11, 12, 13, 14, 15] : List Nat).contains j = true → up2 a2 k i z j = a2 j := fun j hj => funext fun q => up2_k (fun e => by rw [e, hk] at hj; cases hj)
  exact ⟨(g _ rfl).trans h.1, (g _ rfl).trans h.2.1, (g _ rfl).trans h.2.2.1, (g _ rfl).trans h.2.2.2.1, (g _ rfl).trans h.2.2.2.2.1, (g _ rfl).trans h.2.2.2.2.2⟩
theorem UN.fr {a a2 a3 : Nat → Nat → Int} {v2 v3 : Nat → Int} {V A : List Nat} (h : UN a a2) (f : fr V A v2 a2 v3 a3) (hA : ([10, 11, 12, 13, 14, 15] : List Nat).all (fun j => !A.contains j) = true) : UN a a3 := by
  have g : ∀ j, j ∈ ([10, 11, 12, 13, 14, 15] : List Nat) → a3 j = a2 j := fun j hj => f.2 j (by have := List.all_eq_true.mp hA j hj; simpa using this)
  exact ⟨(g 10 (by decide)).trans h.1, (g 12 (by decide)).trans h.2.1, (g 13 (by decide)).trans h.2.2.1, (g 11 (by decide)).trans h.2.2.2.1, (g 14 (by decide)).trans h.2.2.2.2.1, (g 15 (by decide)).trans h.2.2.2.2.2⟩
def C11 (a : Nat → Nat → Int) (r x : Int) (a2 : Nat → Nat → Int) : Prop := a2 11 = va_up (a 11) r.toNat x
theorem C11.mk {a a2 : Nat → Nat → Int} {r x m c : Int} (h : a2 11 = a 11) : C11 a r x (up2 (up2 (up2 a2 11 r.toNat x) 12 r.toNat m) 13 r.toNat c) := by
  unfold C11
  rw [← h]
  funext j
  rw [up2_k (by decide), up2_k (by decide), up2_va]
theorem C11.set {a a2 : Nat → Nat → Int} {r x : Int} (h : C11 a r x a2) {k i : Nat} {z : Int} (hk : k ≠ 11) : C11 a r x (up2 a2 k i z) := (funext fun _ => up2_k (Ne.symm hk)).trans h
theorem C11.fr {a a2 a3 : Nat → Nat → Int} {v2 v3 : Nat → Int} {r x : Int} {V A : List Nat} (h : C11 a r x a2) (f : fr V A v2 a2 v3 a3) (hA : A.contains 11 = false) : C11 a r x a3 := (f.2 11 hA).trans h
theorem UN.rul {a a2 : Nat → Nat → Int} {r n w1 z m c : Int} (h : UN a a2) : RUL a r m c (up2 (up2 (up2 a2 11 r.toNat z) 12 r.toNat m) 13 r.toNat c) := by
  refine ⟨fun j => ?_, fun j => ?_, ?_⟩
  · rw [up2_k (by decide), up2_if j, up2_k (by decide), h.2.1]
  · rw [up2_if j, up2_k (by decide), up2_k (by decide), h.2.2.1]
  · rw [← h.1]; exact funext fun j => by rw [up2_k (by decide), up2_k (by decide), up2_k (by decide)]
set_option maxHeartbeats 4000000 in
set_option maxRecDepth 100000 in
theorem M_rule {l : Launch} {G : GT} {h0 : Nat} {ad ln : Nat → Nat} {v : Nat → Int} {a : Nat → Nat → Int} {t x m1 : Int} (hB : BX v a) (hT : TBL v a) (hS : STK ln v a) (ht : -2147483648 ≤ t ∧ t ≤ 2147483647) (hx : -2147483648 ≤ x ∧ x ≤ 2147483647) (hm1 : -2147483648 ≤ m1 ∧ m1 ≤ 2147483647) (h19 : v 19 ≤ 2044) : Mn l G yX12_rule cX12_rule 8 (some .int) 2 [.int (iI t), .int (iI x), .int (iI m1)] h0 ad ln v a 1 4110 (fun r ln2 v2 a2 => ∃ f : Int, r = some (.int (iI f)) ∧ fr [0, 1, 3, 19] [10, 11, 12, 13, 14, 15, 18, 70] v a v2 a2 ∧ BX v2 a2 ∧ (TBL v2 a2 ∧ STK ln2 v2 a2 ∧ v2 19 ≤ v 19 + 4 ∧ v2 3 = 0 ∧ ((f = -1 ∧ TSAME v a v2 a2 ∧ ¬ ((0 ≤ t ∧ t < v 4 ∧ a 5 t.toNat = 1 ∧ a 6 t.toNat ≠ 5 ∧ 0 ≤ x ∧ x ≤ 5 ∧ 1 ≤ m1 ∧ m1 ≤ 8 ∧ 1 ≤ v 3 - m1 ∧ v 3 - m1 ≤ 4 ∧ a 10 t.toNat ≠ 200) ∧ ACL (a 2) m1 (v 3 - m1) (DC (a 7 t.toNat)) ∧ LTK (a 2) m1)) ∨ (f = a 10 t.toNat ∧ ((0 ≤ t ∧ t < v 4 ∧ a 5 t.toNat = 1 ∧ a 6 t.toNat ≠ 5 ∧ 0 ≤ x ∧ x ≤ 5 ∧ 1 ≤ m1 ∧ m1 ≤ 8 ∧ 1 ≤ v 3 - m1 ∧ v 3 - m1 ≤ 4 ∧ a 10 t.toNat ≠ 200) ∧ ACL (a 2) m1 (v 3 - m1) (DC (a 7 t.toNat)) ∧ LTK (a 2) m1) ∧ TRUL t x m1 v a v2 a2)))) := by
  refine Mn.mk (by decide) (Nat.le_of_ble_eq_true rfl) ?_
  intro p e s m args below meth c A C
  have h30 : 0 ≤ v 4 ∧ v 4 ≤ 30 := hB.1 4
  obtain ⟨n9, hn9, hk9⟩ := hS.2.2
  refine hv3 (hS.1) (hS.2.1) (show fr [0, 1, 3, 19] [10, 11, 12, 13, 14, 15, 18, 70] v a v a from fr.refl) (fun hl1 hl2 fp0 => ?_)
  refine m_aload_n (j := 0) C dX12_rule_0 rfl ?_
  have rv1 : 0 ≤ v 3 ∧ v 3 ≤ 3000 := hB.1 3
  refine m_call (mc2 := 0) (ms2 := 0) (As := []) (rest := []) C (B_taken  hB ) dX12_rule_1 kV_X12_192 rfl ck_13 rfl (Nat.le_of_ble_eq_true rfl) ⟨Nat.le_of_ble_eq_true rfl, Nat.le_of_ble_eq_true rfl⟩ ⟨Nat.le_of_ble_eq_true rfl, Nat.le_of_ble_eq_true rfl⟩ (fun rh1 vh1 ah1 h1 => ?_)
  obtain ⟨f1, rfl, fn1, bn1, ex1⟩ := h1
  refine hv7 (fp0.call fn1 rfl rfl) (show KS v a vh1 ah1 from KS.fr (⟨rfl, rfl⟩ : KS v a v a) fn1 rfl rfl) (show TBL vh1 ah1 from TBL.fr hT fn1 rfl rfl) (show STK ln vh1 ah1 from STK.fr hS fn1 rfl rfl) (show UN a ah1 from UN.fr (⟨rfl, rfl, rfl, rfl, rfl, rfl⟩ : UN a a) fn1 rfl) (show 0 ≤ vh1 3 ∧ vh1 3 ≤ 3000 from bn1.1 3) (show f1 = (v 3) ∧ (vh1 3) = 0 from ex1) (fun fq1 pw1 pw2 pw3 pw4 rv2 gf1 => ?_)
  refine m_st (st2 := [.int (iI f1)]) rfl ?_
  refine m_istore (lv2 := [(4, .int (iI f1)), (0, .ref h0), (1, .int (iI t)), (2, .int (iI x)), (3, .int (iI m1))]) C dX12_rule_4 (by decide) rfl ?_
  refine m_aload_n (j := 1) C dX12_rule_6 rfl ?_
  refine m_iload_n (j := 2) C dX12_rule_7 rfl ?_
  refine hv2 (show 0 ≤ vh1 4 ∧ vh1 4 ≤ 30 from bn1.1 4) (show vh1 4 = v 4 from fn1.1 4 rfl) (fun rv3 ve1 => ?_)
  refine m_call (mc2 := 0) (ms2 := 0) (As := [.int (iI t)]) (rest := []) C (B_isTable (t := t) bn1 (by show -2147483648 ≤ t ∧ t ≤ 2147483647; omega)) dX12_rule_8 kV_X12_167 rfl ck_13 rfl (Nat.le_of_ble_eq_true rfl) ⟨Nat.le_of_ble_eq_true rfl, Nat.le_of_ble_eq_true rfl⟩ ⟨Nat.le_of_ble_eq_true rfl, Nat.le_of_ble_eq_true rfl⟩ (fun rh2 vh2 ah2 h2 => ?_)
  obtain ⟨f2, rfl, fn2, bn2, ex2⟩ := h2
  obtain ⟨rfl, rfl⟩ := fn2.eq
  refine hv3 (show (f2 = 0 ∧ (t < 0 ∨ (vh1 4) ≤ t ∨ ah1 5 t.toNat = 0)) ∨ (f2 = 1 ∧ 0 ≤ t ∧ t < (vh1 4) ∧ ah1 5 t.toNat = 1) from ex2) (show 0 ≤ ah1 5 t.toNat ∧ ah1 5 t.toNat ≤ 1 from bn1.2 5 (t.toNat)) (show ah1 5 (t.toNat) = a 5 (t.toNat) from congrFun (fn1.2 5 rfl) (t.toNat)) (fun gf2 ra1 ae1 => ?_)
  refine m_st (st2 := [.int (iI f2)]) rfl ?_
  refine m_if_ne (tgt := 20) C (r32_pq gf2) dX12_rule_11 (by decide) (fun c1 => ?_) (fun c1 => ?_)
  · replace gf2 := (gf2.resolve_left (fun q => c1 q.1))
    refine m_aload_n (j := 1) C dX12_rule_20 rfl ?_
    refine m_geta (k := 6) C dX12_rule_21 w6_65 (by decide) rfl ?_
    refine m_iload_n (j := 2) C dX12_rule_24 rfl ?_
    refine m_ald (k := 6) C dX12_rule_25 rfl rfl (by decide) (by omega) (by show _ < ((_ : Nat) : Int); simp only [mlen]; omega) (by decide) ?_
    refine hv2 (show 0 ≤ ah1 6 t.toNat ∧ ah1 6 t.toNat ≤ 5 from bn1.2 6 (t.toNat)) (show ah1 6 (t.toNat) = a 6 (t.toNat) from congrFun (fn1.2 6 rfl) (t.toNat)) (fun ra2 ae2 => ?_)
    refine m_st (st2 := [.int (iI (a 6 t.toNat))]) (congrArg (fun z => Value.int (iI z) :: []) (congrFun (fq1.2 6 rfl) (t.toNat))) ?_
    refine m_iconst C dX12_rule_26 ?_
    refine m_icmp_ne (tgt := 36) C ⟨by omega, by omega⟩ ⟨by decide, by decide⟩ dX12_rule_27 (by decide) (fun c2 => ?_) (fun c2 => ?_)
    · refine m_iload_n (j := 4) C dX12_rule_36 rfl ?_
      refine m_if_ge (tgt := 46) C ⟨by omega, by omega⟩ dX12_rule_37 (by decide) (fun c3 => ?_) (fun c3 => ?_)
      · refine m_iload_n (j := 3) C dX12_rule_46 rfl ?_
        refine m_iconst C dX12_rule_47 ?_
        refine m_iconst C dX12_rule_48 ?_
        refine m_callS (As := [.int (iI x), .int (iI 0), .int (iI 5)]) (rest := []) C (fun L E => s_isIn (iI x) (iI 0) (iI 5)) dX12_rule_49 kS_X12_174 rfl rfl (Nat.le_of_ble_eq_true rfl) ⟨Nat.le_of_ble_eq_true rfl, Nat.le_of_ble_eq_true rfl⟩ ⟨Nat.le_of_ble_eq_true rfl, Nat.le_of_ble_eq_true rfl⟩ ?_
        rcases inn_c (x := x) (lo := 0) (hi := 5) ⟨by omega, by omega⟩ ⟨by decide, by decide⟩ ⟨by decide, by decide⟩ with ⟨h3a, h3b, h3e⟩ | ⟨h3a, h3e⟩
        · refine m_st (st2 := [.int (iI 1)]) (by rw [h3e]) ?_
          refine m_if_eq (tgt := 102) C ⟨by decide, by decide⟩ dX12_rule_52 (by decide) (fun z => absurd z (by omega)) (fun _ => ?_)
          refine m_iload_n (j := 4) C dX12_rule_55 rfl ?_
          refine m_iconst C dX12_rule_56 ?_
          refine m_bipush (z := 8) C dX12_rule_57 (by decide) ?_
          refine m_callS (As := [.int (iI m1), .int (iI 1), .int (iI 8)]) (rest := []) C (fun L E => s_isIn (iI m1) (iI 1) (iI 8)) dX12_rule_59 kS_X12_174 rfl rfl (Nat.le_of_ble_eq_true rfl) ⟨Nat.le_of_ble_eq_true rfl, Nat.le_of_ble_eq_true rfl⟩ ⟨Nat.le_of_ble_eq_true rfl, Nat.le_of_ble_eq_true rfl⟩ ?_
          rcases inn_c (x := m1) (lo := 1) (hi := 8) ⟨by omega, by omega⟩ ⟨by decide, by decide⟩ ⟨by decide, by decide⟩ with ⟨h4a, h4b, h4e⟩ | ⟨h4a, h4e⟩
          · refine m_st (st2 := [.int (iI 1)]) (by rw [h4e]) ?_
            refine m_if_eq (tgt := 102) C ⟨by decide, by decide⟩ dX12_rule_62 (by decide) (fun z => absurd z (by omega)) (fun _ => ?_)
            refine m_iload (j := 0) C dX12_rule_65 rfl ?_
            refine m_iload_n (j := 4) C dX12_rule_67 rfl ?_
            refine m_isub C dX12_rule_68 ?_
            refine m_iconst C dX12_rule_69 ?_
            refine m_iconst C dX12_rule_70 ?_
            refine m_callS (As := [.int (iI (f1 - m1)), .int (iI 1), .int (iI 4)]) (rest := []) C (fun L E => s_isIn (iI (f1 - m1)) (iI 1) (iI 4)) dX12_rule_71 kS_X12_174 rfl rfl (Nat.le_of_ble_eq_true rfl) ⟨Nat.le_of_ble_eq_true rfl, Nat.le_of_ble_eq_true rfl⟩ ⟨Nat.le_of_ble_eq_true rfl, Nat.le_of_ble_eq_true rfl⟩ ?_
            rcases inn_c (x := f1 - m1) (lo := 1) (hi := 4) ⟨by omega, by omega⟩ ⟨by decide, by decide⟩ ⟨by decide, by decide⟩ with ⟨h5a, h5b, h5e⟩ | ⟨h5a, h5e⟩
            · refine m_st (st2 := [.int (iI 1)]) (by rw [h5e]) ?_
              refine m_if_eq (tgt := 102) C ⟨by decide, by decide⟩ dX12_rule_74 (by decide) (fun z => absurd z (by omega)) (fun _ => ?_)
              refine m_aload_n (j := 1) C dX12_rule_77 rfl ?_
              refine m_geta (k := 10) C dX12_rule_78 w6_69 (by decide) rfl ?_
              refine m_iload_n (j := 2) C dX12_rule_81 rfl ?_
              refine m_ald (k := 10) C dX12_rule_82 rfl rfl (by decide) (by omega) (by show _ < ((_ : Nat) : Int); simp only [mlen]; omega) (by decide) ?_
              refine hv2 (show 0 ≤ ah1 10 t.toNat ∧ ah1 10 t.toNat ≤ 200 from bn1.2 10 (t.toNat)) (show ah1 10 (t.toNat) = a 10 (t.toNat) from congrFun (fn1.2 10 rfl) (t.toNat)) (fun ra3 ae3 => ?_)
              refine m_sipush (z := 200) C dX12_rule_83 (by decide) ?_
              refine m_icmp_eq (tgt := 102) C (r32_c (lo := 0) (hi := 200) ra3.1 ra3.2 (by decide) (by decide)) ⟨by decide, by decide⟩ dX12_rule_86 (by decide) (fun c4 => ?_) (fun c4 => ?_)
              · refine m_aload_n (j := 1) C dX12_rule_102 rfl ?_
                refine m_bipush (z := 6) C dX12_rule_103 (by decide) ?_
                refine m_call (mc2 := 0) (ms2 := 0) (As := [.int (iI 6)]) (rest := []) C (B_bad (x := 6) bn1 (by show -2147483648 ≤ (6 : Int) ∧ (6 : Int) ≤ 2147483647; omega)) dX12_rule_105 kV_X12_154 rfl ck_13 rfl (Nat.le_of_ble_eq_true rfl) ⟨Nat.le_of_ble_eq_true rfl, Nat.le_of_ble_eq_true rfl⟩ ⟨Nat.le_of_ble_eq_true rfl, Nat.le_of_ble_eq_true rfl⟩ (fun rh6 vh6 ah6 h6 => ?_)
                obtain ⟨f3, rfl, fn3, bn3, ex3⟩ := h6
                refine hv6 (fq1.call fn3 rfl rfl) (show KS v a vh6 ah6 from KS.fr pw1 fn3 rfl rfl) (show TBL vh6 ah6 from TBL.fr pw2 fn3 rfl rfl) (show STK ln vh6 ah6 from STK.fr pw3 fn3 rfl rfl) (show UN a ah6 from UN.fr pw4 fn3 rfl) (show f3 = -1 from ex3) (fun fq3 pw5 pw6 pw7 pw8 gf3 => ?_)
                refine m_st (st2 := [.int (iI f3)]) rfl ?_
                refine hv6 (show (-2147483648) ≤ vh6 19 ∧ vh6 19 ≤ 2147483647 from bn3.1 19) (show vh6 19 = vh1 19 from fn3.1 19 rfl) (show vh1 19 = v 19 from fn1.1 19 rfl) ((pw5).1) (show 0 ≤ vh6 3 ∧ vh6 3 ≤ 3000 from bn3.1 3) (show vh6 3 = vh1 3 from fn3.1 3 rfl) (fun rv4 ve2 ve3 ksx1 rv5 ve4 => ?_)
                exact n_iret C dX12_rule_108 rfl (Nat.le_of_ble_eq_true rfl) (Nat.le_of_ble_eq_true rfl) ⟨f3, rfl, fq3, bn3, ⟨pw6, pw7, (by show vh6 19 ≤ v 19 + 4; omega), (by show vh6 3 = 0; omega), Or.inl ⟨by omega, ⟨(fq3.1 4 rfl), (fq3.2 5 rfl), (fq3.2 6 rfl), (fq3.2 7 rfl), (pw8).1, (pw5).1, (pw5).2, (pw8).2.2.2.1, ⟨(fq3.2 8 rfl), (fq3.2 9 rfl), (pw8).2.1, (pw8).2.2.1, (pw8).2.2.2.2.1, (pw8).2.2.2.2.2, (fq3.2 16 rfl), (fq3.2 17 rfl)⟩⟩, (fun q => by have q1 := q.1; first | omega)⟩⟩⟩
              · refine m_aload_n (j := 1) C dX12_rule_89 rfl ?_
                refine m_iload_n (j := 2) C dX12_rule_90 rfl ?_
                refine m_iload_n (j := 4) C dX12_rule_91 rfl ?_
                refine m_iload (j := 0) C dX12_rule_92 rfl ?_
                refine m_iload_n (j := 4) C dX12_rule_94 rfl ?_
                refine m_isub C dX12_rule_95 ?_
                refine m_call (mc2 := 0) (ms2 := 0) (As := [.int (iI t), .int (iI m1), .int (iI (f1 - m1))]) (rest := []) C (B_areCells (t := t) (q := m1) (u := f1 - m1) bn1 (by show 0 ≤ t ∧ t < 30; omega) (by show 0 ≤ m1 ∧ m1 ≤ 3000; omega) (by show 0 ≤ (f1 - m1) ∧ m1 + (f1 - m1) ≤ 3000; omega)) dX12_rule_96 kV_X12_196 rfl ck_13 rfl (Nat.le_of_ble_eq_true rfl) ⟨Nat.le_of_ble_eq_true rfl, Nat.le_of_ble_eq_true rfl⟩ ⟨Nat.le_of_ble_eq_true rfl, Nat.le_of_ble_eq_true rfl⟩ (fun rh7 vh7 ah7 h7 => ?_)
                obtain ⟨f4, rfl, fn4, bn4, ex4⟩ := h7
                obtain ⟨rfl, rfl⟩ := fn4.eq
                refine hv3 (show (f4 = 0 ∨ f4 = 1) ∧ (f4 = 1 ↔ ACL (ah1 2) m1 (f1 - m1) (DC (ah1 7 t.toNat))) from ex4) (show (-2147483648) ≤ ah1 7 t.toNat ∧ ah1 7 t.toNat ≤ 2147483647 from bn1.2 7 (t.toNat)) (show ah1 7 (t.toNat) = a 7 (t.toNat) from congrFun (fn1.2 7 rfl) (t.toNat)) (fun gf4 ra4 ae4 => ?_)
                have acf4 : f4 = 1 ↔ ACL (a 2) m1 (f1 - m1) (DC (a 7 t.toNat)) := by
                  have q := gf4.2
                  rw [fq1.2 2 rfl, fq1.2 7 rfl] at q
                  exact q
                refine m_st (st2 := [.int (iI f4)]) rfl ?_
                refine m_if_ne (tgt := 109) C (r32_01 gf4.1) dX12_rule_99 (by decide) (fun c5 => ?_) (fun c5 => ?_)
                · replace gf4 := (And.intro (gf4.1.resolve_left c5) gf4.2)
                  refine m_iconst C dX12_rule_109 ?_
                  refine m_istore (lv2 := [(5, .int (iI 1)), (4, .int (iI f1)), (0, .ref h0), (1, .int (iI t)), (2, .int (iI x)), (3, .int (iI m1))]) C dX12_rule_110 (by decide) rfl ?_
                  refine m_iconst C dX12_rule_112 ?_
                  refine m_istore (lv2 := [(6, .int (iI 0)), (5, .int (iI 1)), (4, .int (iI f1)), (0, .ref h0), (1, .int (iI t)), (2, .int (iI x)), (3, .int (iI m1))]) C dX12_rule_113 (by decide) rfl ?_
                  have Lp1 : ∀ (nn : Nat) (g k : Int) (vb1 : Nat → Int) (ab1 : Nat → Nat → Int), 9 - k < (nn : Int) → BX vb1 ab1 → fr [0, 1, 3, 19] [10, 11, 12, 13, 14, 15, 18, 70] v a vb1 ab1 → (g = 0 ∨ g = 1) → (0 ≤ k ∧ k ≤ m1) → (KS v a vb1 ab1) → (TBL vb1 ab1) → (STK ln vb1 ab1) → (UN a ab1) → (g = 1 → ∀ j : Int, 0 ≤ j → j < k → (33 ≤ a 2 j.toNat ∧ a 2 j.toNat ≤ 125)) → (g = 1 ↔ LTK (a 2) k) → (vb1 3 = 0) → mw p l e (rmq 2 1 4110) s m args below meth c G A 8 (MQ below (Qm G A (fun rq Lq Eq => ∃ (adq lnq : Nat → Nat) (vq : Nat → Int) (aq : Nat → Nat → Int), mI G h0 adq lnq vq aq Lq Eq ∧ (fun r ln2 v2 a2 => ∃ f : Int, r = some (.int (iI f)) ∧ fr [0, 1, 3, 19] [10, 11, 12, 13, 14, 15, 18, 70] v a v2 a2 ∧ BX v2 a2 ∧ (TBL v2 a2 ∧ STK ln2 v2 a2 ∧ v2 19 ≤ v 19 + 4 ∧ v2 3 = 0 ∧ ((f = -1 ∧ TSAME v a v2 a2 ∧ ¬ ((0 ≤ t ∧ t < v 4 ∧ a 5 t.toNat = 1 ∧ a 6 t.toNat ≠ 5 ∧ 0 ≤ x ∧ x ≤ 5 ∧ 1 ≤ m1 ∧ m1 ≤ 8 ∧ 1 ≤ v 3 - m1 ∧ v 3 - m1 ≤ 4 ∧ a 10 t.toNat ≠ 200) ∧ ACL (a 2) m1 (v 3 - m1) (DC (a 7 t.toNat)) ∧ LTK (a 2) m1)) ∨ (f = a 10 t.toNat ∧ ((0 ≤ t ∧ t < v 4 ∧ a 5 t.toNat = 1 ∧ a 6 t.toNat ≠ 5 ∧ 0 ≤ x ∧ x ≤ 5 ∧ 1 ≤ m1 ∧ m1 ≤ 8 ∧ 1 ≤ v 3 - m1 ∧ v 3 - m1 ≤ 4 ∧ a 10 t.toNat ≠ 200) ∧ ACL (a 2) m1 (v 3 - m1) (DC (a 7 t.toNat)) ∧ LTK (a 2) m1) ∧ TRUL t x m1 v a v2 a2)))) rq lnq vq aq)) args s 1 4110 A) h0 ad ln vb1 ab1 0 0 115 [(6, .int (iI k)), (5, .int (iI g)), (4, .int (iI f1)), (0, .ref h0), (1, .int (iI t)), (2, .int (iI x)), (3, .int (iI m1))] [] := by
                    intro nn
                    induction nn with
                    | zero =>
                      intro g k vb1 ab1 hm bxb1 fpb1 hg hk hKa hTa hSa hUa hL hM hz30
                      exact absurd hm (by omega)
                    | succ nn ih1 =>
                      intro g k vb1 ab1 hm bxb1 fpb1 hg hk hKa hTa hSa hUa hL hM hz30
                      refine m_iload (j := 0) C dX12_rule_115 rfl ?_
                      refine m_iload_n (j := 6) C dX12_rule_117 rfl ?_
                      refine m_icmp_ge (tgt := 152) C ⟨by omega, by omega⟩ ⟨by omega, by omega⟩ dX12_rule_118 (by decide) (fun c6 => ?_) (fun c6 => ?_)
                      · refine m_iload (j := 1) C dX12_rule_152 rfl ?_
                        refine m_if_ne (tgt := 164) C (r32_01 hg) dX12_rule_154 (by decide) (fun c7 => ?_) (fun c7 => ?_)
                        · replace hg := (hg.resolve_left c7)
                          refine m_sipush (z := 200) C dX12_rule_164 (by decide) ?_
                          refine m_iload_n (j := 4) C dX12_rule_167 rfl ?_
                          refine m_imul C dX12_rule_168 ?_
                          refine m_aload_n (j := 3) C dX12_rule_169 rfl ?_
                          refine m_geta (k := 10) C dX12_rule_170 w6_69 (by decide) rfl ?_
                          refine m_iload_n (j := 4) C dX12_rule_173 rfl ?_
                          refine m_ald (k := 10) C dX12_rule_174 rfl rfl (by decide) (by omega) (by show _ < ((_ : Nat) : Int); simp only [mlen]; omega) (by decide) ?_
                          have ra5 : 0 ≤ ab1 10 t.toNat ∧ ab1 10 t.toNat ≤ 200 := bxb1.2 10 (t.toNat)
                          refine m_iadd C dX12_rule_175 ?_
                          have u10 : ab1 10 t.toNat = a 10 t.toNat := congrFun (hUa).1 _
                          refine m_istore (lv2 := [(6, .int (iI ((200 * t) + (ab1 10 t.toNat)))), (5, .int (iI g)), (4, .int (iI f1)), (0, .ref h0), (1, .int (iI t)), (2, .int (iI x)), (3, .int (iI m1))]) C dX12_rule_176 (by decide) rfl ?_
                          have J1 : ∀ (rr : Int) (vb2 : Nat → Int) (ab2 : Nat → Nat → Int), BX vb2 ab2 → fr [0, 1, 3, 19] [10, 11, 12, 13, 14, 15, 18, 70] v a vb2 ab2 → (rr = 200 * t + a 10 t.toNat) → (0 ≤ a 10 t.toNat ∧ a 10 t.toNat < 200) → (KS v a vb2 ab2) → (UN a ab2) → (∀ j : Int, 0 ≤ j → j < m1 → (33 ≤ a 2 j.toNat ∧ a 2 j.toNat ≤ 125)) → (vb2 3 = 0) → mw p l e (rmq 2 1 4110) s m args below meth c G A 8 (MQ below (Qm G A (fun rq Lq Eq => ∃ (adq lnq : Nat → Nat) (vq : Nat → Int) (aq : Nat → Nat → Int), mI G h0 adq lnq vq aq Lq Eq ∧ (fun r ln2 v2 a2 => ∃ f : Int, r = some (.int (iI f)) ∧ fr [0, 1, 3, 19] [10, 11, 12, 13, 14, 15, 18, 70] v a v2 a2 ∧ BX v2 a2 ∧ (TBL v2 a2 ∧ STK ln2 v2 a2 ∧ v2 19 ≤ v 19 + 4 ∧ v2 3 = 0 ∧ ((f = -1 ∧ TSAME v a v2 a2 ∧ ¬ ((0 ≤ t ∧ t < v 4 ∧ a 5 t.toNat = 1 ∧ a 6 t.toNat ≠ 5 ∧ 0 ≤ x ∧ x ≤ 5 ∧ 1 ≤ m1 ∧ m1 ≤ 8 ∧ 1 ≤ v 3 - m1 ∧ v 3 - m1 ≤ 4 ∧ a 10 t.toNat ≠ 200) ∧ ACL (a 2) m1 (v 3 - m1) (DC (a 7 t.toNat)) ∧ LTK (a 2) m1)) ∨ (f = a 10 t.toNat ∧ ((0 ≤ t ∧ t < v 4 ∧ a 5 t.toNat = 1 ∧ a 6 t.toNat ≠ 5 ∧ 0 ≤ x ∧ x ≤ 5 ∧ 1 ≤ m1 ∧ m1 ≤ 8 ∧ 1 ≤ v 3 - m1 ∧ v 3 - m1 ≤ 4 ∧ a 10 t.toNat ≠ 200) ∧ ACL (a 2) m1 (v 3 - m1) (DC (a 7 t.toNat)) ∧ LTK (a 2) m1) ∧ TRUL t x m1 v a v2 a2)))) rq lnq vq aq)) args s 1 4110 A) h0 ad ln vb2 ab2 0 0 178 [(6, .int (iI rr)), (5, .int (iI g)), (4, .int (iI f1)), (0, .ref h0), (1, .int (iI t)), (2, .int (iI x)), (3, .int (iI m1))] [] := by
                            intro rr vb2 ab2 bxb2 fpb2 hrr hr2 hKb hUb hLf hz32
                            refine m_aload_n (j := 3) C dX12_rule_178 rfl ?_
                            refine m_geta (k := 11) C dX12_rule_179 w6_70 (by decide) rfl ?_
                            refine m_iload (j := 0) C dX12_rule_182 rfl ?_
                            refine m_iload_n (j := 5) C dX12_rule_184 rfl ?_
                            refine m_ast (k := 11) C dX12_rule_185 rfl rfl (by decide) (by omega) (by show _ < ((_ : Nat) : Int); simp only [mlen]; omega) (by decide) ?_
                            refine hv3 (show BX vb2 (up2 ab2 11 rr.toNat x) from bxb2.set (k := 11) (i := rr.toNat) (z := x) (show (-2147483648) ≤ x ∧ x ≤ 2147483647 by omega)) (fpb2.set (k := 11) (i := rr.toNat) (z := x) rfl) (show KS v a vb2 (up2 ab2 11 rr.toNat x) from KS.set hKb (k := 11) (i := rr.toNat) (z := x) (by decide)) (fun bq1 fq5 pw9 => ?_)
                            refine m_aload_n (j := 3) C dX12_rule_186 rfl ?_
                            refine m_geta (k := 12) C dX12_rule_187 w6_71 (by decide) rfl ?_
                            refine m_iload (j := 0) C dX12_rule_190 rfl ?_
                            refine m_iload_n (j := 6) C dX12_rule_192 rfl ?_
                            refine m_ast (k := 12) C dX12_rule_193 rfl rfl (by decide) (by omega) (by show _ < ((_ : Nat) : Int); simp only [mlen]; omega) (by decide) ?_
                            refine hv3 (show BX vb2 (up2 (up2 ab2 11 rr.toNat x) 12 rr.toNat m1) from bq1.set (k := 12) (i := rr.toNat) (z := m1) (show 0 ≤ m1 ∧ m1 ≤ 8 by omega)) (fq5.set (k := 12) (i := rr.toNat) (z := m1) rfl) (show KS v a vb2 (up2 (up2 ab2 11 rr.toNat x) 12 rr.toNat m1) from KS.set pw9 (k := 12) (i := rr.toNat) (z := m1) (by decide)) (fun bq2 fq6 pw10 => ?_)
                            refine m_aload_n (j := 3) C dX12_rule_194 rfl ?_
                            refine m_geta (k := 13) C dX12_rule_195 w6_72 (by decide) rfl ?_
                            refine m_iload (j := 0) C dX12_rule_198 rfl ?_
                            refine m_iload (j := 2) C dX12_rule_200 rfl ?_
                            refine m_iload_n (j := 6) C dX12_rule_202 rfl ?_
                            refine m_isub C dX12_rule_203 ?_
                            refine m_ast (k := 13) C dX12_rule_204 rfl rfl (by decide) (by omega) (by show _ < ((_ : Nat) : Int); simp only [mlen]; omega) (by decide) ?_
                            refine hv7 (show BX vb2 (up2 (up2 (up2 ab2 11 rr.toNat x) 12 rr.toNat m1) 13 rr.toNat (f1 - m1)) from bq2.set (k := 13) (i := rr.toNat) (z := f1 - m1) (show 0 ≤ (f1 - m1) ∧ (f1 - m1) ≤ 4 by omega)) (fq6.set (k := 13) (i := rr.toNat) (z := f1 - m1) rfl) (show KS v a vb2 (up2 (up2 (up2 ab2 11 rr.toNat x) 12 rr.toNat m1) 13 rr.toNat (f1 - m1)) from KS.set pw10 (k := 13) (i := rr.toNat) (z := f1 - m1) (by decide)) (show RUL a rr m1 (f1 - m1) (up2 (up2 (up2 ab2 11 rr.toNat x) 12 rr.toNat m1) 13 rr.toNat (f1 - m1)) from UN.rul (n := 0) (w1 := 0) hUb) (show C11 a rr x (up2 (up2 (up2 ab2 11 rr.toNat x) 12 rr.toNat m1) 13 rr.toNat (f1 - m1)) from C11.mk (hUb).2.2.2.1) (show (up2 (up2 (up2 ab2 11 rr.toNat x) 12 rr.toNat m1) 13 rr.toNat (f1 - m1)) 14 = a 14 from (funext fun _ => by rw [up2_k (by decide), up2_k (by decide), up2_k (by decide)]).trans (hUb).2.2.2.2.1) (show (up2 (up2 (up2 ab2 11 rr.toNat x) 12 rr.toNat m1) 13 rr.toNat (f1 - m1)) 15 = a 15 from (funext fun _ => by rw [up2_k (by decide), up2_k (by decide), up2_k (by decide)]).trans (hUb).2.2.2.2.2) (fun bq3 fq7 pw11 pw12 pw13 u14 u15 => ?_)
                            refine m_iconst C dX12_rule_205 ?_
                            refine m_istore (lv2 := [(7, .int (iI 0)), (6, .int (iI rr)), (5, .int (iI g)), (4, .int (iI f1)), (0, .ref h0), (1, .int (iI t)), (2, .int (iI x)), (3, .int (iI m1))]) C dX12_rule_206 (by decide) rfl ?_
                            have Lp2 : ∀ (nn : Nat) (k2 : Int) (vb3 : Nat → Int) (ab3 : Nat → Nat → Int), 9 - k2 < (nn : Int) → BX vb3 ab3 → fr [0, 1, 3, 19] [10, 11, 12, 13, 14, 15, 18, 70] v a vb3 ab3 → (0 ≤ k2 ∧ k2 ≤ m1) → (KS v a vb3 ab3) → (RUL a rr m1 (f1 - m1) ab3) → (C11 a rr x ab3) → (FIL (ab3 14) (a 14) (8 * rr).toNat k2.toNat 8 (a 2)) → (ab3 15 = a 15) → (vb3 3 = 0) → mw p l e (rmq 2 1 4110) s m args below meth c G A 8 (MQ below (Qm G A (fun rq Lq Eq => ∃ (adq lnq : Nat → Nat) (vq : Nat → Int) (aq : Nat → Nat → Int), mI G h0 adq lnq vq aq Lq Eq ∧ (fun r ln2 v2 a2 => ∃ f : Int, r = some (.int (iI f)) ∧ fr [0, 1, 3, 19] [10, 11, 12, 13, 14, 15, 18, 70] v a v2 a2 ∧ BX v2 a2 ∧ (TBL v2 a2 ∧ STK ln2 v2 a2 ∧ v2 19 ≤ v 19 + 4 ∧ v2 3 = 0 ∧ ((f = -1 ∧ TSAME v a v2 a2 ∧ ¬ ((0 ≤ t ∧ t < v 4 ∧ a 5 t.toNat = 1 ∧ a 6 t.toNat ≠ 5 ∧ 0 ≤ x ∧ x ≤ 5 ∧ 1 ≤ m1 ∧ m1 ≤ 8 ∧ 1 ≤ v 3 - m1 ∧ v 3 - m1 ≤ 4 ∧ a 10 t.toNat ≠ 200) ∧ ACL (a 2) m1 (v 3 - m1) (DC (a 7 t.toNat)) ∧ LTK (a 2) m1)) ∨ (f = a 10 t.toNat ∧ ((0 ≤ t ∧ t < v 4 ∧ a 5 t.toNat = 1 ∧ a 6 t.toNat ≠ 5 ∧ 0 ≤ x ∧ x ≤ 5 ∧ 1 ≤ m1 ∧ m1 ≤ 8 ∧ 1 ≤ v 3 - m1 ∧ v 3 - m1 ≤ 4 ∧ a 10 t.toNat ≠ 200) ∧ ACL (a 2) m1 (v 3 - m1) (DC (a 7 t.toNat)) ∧ LTK (a 2) m1) ∧ TRUL t x m1 v a v2 a2)))) rq lnq vq aq)) args s 1 4110 A) h0 ad ln vb3 ab3 0 0 208 [(7, .int (iI k2)), (6, .int (iI rr)), (5, .int (iI g)), (4, .int (iI f1)), (0, .ref h0), (1, .int (iI t)), (2, .int (iI x)), (3, .int (iI m1))] [] := by
                              intro nn
                              induction nn with
                              | zero =>
                                intro k2 vb3 ab3 hm bxb3 fpb3 hk2 hKc hRc hCc hLT hC15 hz33
                                exact absurd hm (by omega)
                              | succ nn ih2 =>
                                intro k2 vb3 ab3 hm bxb3 fpb3 hk2 hKc hRc hCc hLT hC15 hz33
                                refine m_iload (j := 0) C dX12_rule_208 rfl ?_
                                refine m_iload_n (j := 7) C dX12_rule_210 rfl ?_
                                refine m_icmp_ge (tgt := 240) C ⟨by omega, by omega⟩ ⟨by omega, by omega⟩ dX12_rule_211 (by decide) (fun c8 => ?_) (fun c8 => ?_)
                                · refine m_iload_n (j := 7) C dX12_rule_240 rfl ?_
                                  refine m_istore (lv2 := [(7, .int (iI m1)), (6, .int (iI rr)), (5, .int (iI g)), (4, .int (iI f1)), (0, .ref h0), (1, .int (iI t)), (2, .int (iI x)), (3, .int (iI m1))]) C dX12_rule_241 (by decide) rfl ?_
                                  have Lp3 : ∀ (nn : Nat) (k3 : Int) (vb4 : Nat → Int) (ab4 : Nat → Nat → Int), f1 + 1 - k3 < (nn : Int) → BX vb4 ab4 → fr [0, 1, 3, 19] [10, 11, 12, 13, 14, 15, 18, 70] v a vb4 ab4 → (m1 ≤ k3 ∧ k3 ≤ f1) → (KS v a vb4 ab4) → (RUL a rr m1 (f1 - m1) ab4) → (C11 a rr x ab4) → (FIL (ab4 14) (a 14) (8 * rr).toNat m1.toNat 8 (a 2)) → (FIL (ab4 15) (a 15) (4 * rr).toNat (k3 - m1).toNat 4 (fun k => a 2 (m1.toNat + k))) → (vb4 3 = 0) → mw p l e (rmq 2 1 4110) s m args below meth c G A 8 (MQ below (Qm G A (fun rq Lq Eq => ∃ (adq lnq : Nat → Nat) (vq : Nat → Int) (aq : Nat → Nat → Int), mI G h0 adq lnq vq aq Lq Eq ∧ (fun r ln2 v2 a2 => ∃ f : Int, r = some (.int (iI f)) ∧ fr [0, 1, 3, 19] [10, 11, 12, 13, 14, 15, 18, 70] v a v2 a2 ∧ BX v2 a2 ∧ (TBL v2 a2 ∧ STK ln2 v2 a2 ∧ v2 19 ≤ v 19 + 4 ∧ v2 3 = 0 ∧ ((f = -1 ∧ TSAME v a v2 a2 ∧ ¬ ((0 ≤ t ∧ t < v 4 ∧ a 5 t.toNat = 1 ∧ a 6 t.toNat ≠ 5 ∧ 0 ≤ x ∧ x ≤ 5 ∧ 1 ≤ m1 ∧ m1 ≤ 8 ∧ 1 ≤ v 3 - m1 ∧ v 3 - m1 ≤ 4 ∧ a 10 t.toNat ≠ 200) ∧ ACL (a 2) m1 (v 3 - m1) (DC (a 7 t.toNat)) ∧ LTK (a 2) m1)) ∨ (f = a 10 t.toNat ∧ ((0 ≤ t ∧ t < v 4 ∧ a 5 t.toNat = 1 ∧ a 6 t.toNat ≠ 5 ∧ 0 ≤ x ∧ x ≤ 5 ∧ 1 ≤ m1 ∧ m1 ≤ 8 ∧ 1 ≤ v 3 - m1 ∧ v 3 - m1 ≤ 4 ∧ a 10 t.toNat ≠ 200) ∧ ACL (a 2) m1 (v 3 - m1) (DC (a 7 t.toNat)) ∧ LTK (a 2) m1) ∧ TRUL t x m1 v a v2 a2)))) rq lnq vq aq)) args s 1 4110 A) h0 ad ln vb4 ab4 0 0 243 [(7, .int (iI k3)), (6, .int (iI rr)), (5, .int (iI g)), (4, .int (iI f1)), (0, .ref h0), (1, .int (iI t)), (2, .int (iI x)), (3, .int (iI m1))] [] := by
                                    intro nn
                                    induction nn with
                                    | zero =>
                                      intro k3 vb4 ab4 hm bxb4 fpb4 hk3 hKd hRd hCd hLT2 hCE hz34
                                      exact absurd hm (by omega)
                                    | succ nn ih3 =>
                                      intro k3 vb4 ab4 hm bxb4 fpb4 hk3 hKd hRd hCd hLT2 hCE hz34
                                      refine m_iload (j := 0) C dX12_rule_243 rfl ?_
                                      refine m_iload (j := 3) C dX12_rule_245 rfl ?_
                                      refine m_icmp_ge (tgt := 277) C ⟨by omega, by omega⟩ ⟨by omega, by omega⟩ dX12_rule_247 (by decide) (fun c9 => ?_) (fun c9 => ?_)
                                      · have u277 : ab4 10 t.toNat = a 10 t.toNat := congrFun (hRd).2.2 _
                                        refine m_aload_n (j := 4) C dX12_rule_277 rfl ?_
                                        refine m_geta (k := 10) C dX12_rule_278 w6_69 (by decide) rfl ?_
                                        refine m_iload_n (j := 5) C dX12_rule_281 rfl ?_
                                        refine m_dup2 C dX12_rule_282 rfl rfl ?_
                                        refine m_ald (k := 10) C dX12_rule_283 rfl rfl (by decide) (by omega) (by show _ < ((_ : Nat) : Int); simp only [mlen]; omega) (by decide) ?_
                                        have ra6 : 0 ≤ ab4 10 t.toNat ∧ ab4 10 t.toNat ≤ 200 := bxb4.2 10 (t.toNat)
                                        refine m_iconst C dX12_rule_284 ?_
                                        refine m_iadd C dX12_rule_285 ?_
                                        refine m_ast (k := 10) C dX12_rule_286 rfl rfl (by decide) (by omega) (by show _ < ((_ : Nat) : Int); simp only [mlen]; omega) (by decide) ?_
                                        refine hv4 (show BX vb4 (up2 ab4 10 t.toNat ((ab4 10 t.toNat) + 1)) from bxb4.set (k := 10) (i := t.toNat) (z := (ab4 10 t.toNat) + 1) (show 0 ≤ ((ab4 10 t.toNat) + 1) ∧ ((ab4 10 t.toNat) + 1) ≤ 200 by omega)) (fpb4.set (k := 10) (i := t.toNat) (z := (ab4 10 t.toNat) + 1) rfl) (show KS v a vb4 (up2 ab4 10 t.toNat ((ab4 10 t.toNat) + 1)) from KS.set hKd (k := 10) (i := t.toNat) (z := (ab4 10 t.toNat) + 1) (by decide)) (show C11 a rr x (up2 ab4 10 t.toNat ((ab4 10 t.toNat) + 1)) from C11.set hCd (k := 10) (i := t.toNat) (z := (ab4 10 t.toNat) + 1) (by decide)) (fun bq4 fq8 pw14 pw15 => ?_)
                                        have h10b : ∀ j, (up2 ab4 10 t.toNat ((ab4 10 t.toNat) + 1)) 10 j = if j = t.toNat then a 10 j + 1 else a 10 j := fun j => by
                                          have q := (hRd).2.2
                                          rw [up2_if j, q]
                                          by_cases e : j = t.toNat
                                          · rw [if_pos e, if_pos e, e]
                                          · rw [if_neg e, if_neg e]
                                        refine hv4 (show ∀ j, (up2 ab4 10 t.toNat ((ab4 10 t.toNat) + 1)) 12 j = if j = rr.toNat then m1 else a 12 j from fun j => (up2_k (by decide)).trans ((hRd).1 j)) (show ∀ j, (up2 ab4 10 t.toNat ((ab4 10 t.toNat) + 1)) 13 j = if j = rr.toNat then f1 - m1 else a 13 j from fun j => (up2_k (by decide)).trans ((hRd).2.1 j)) (show FIL ((up2 ab4 10 t.toNat ((ab4 10 t.toNat) + 1)) 14) (a 14) (8 * rr).toNat m1.toNat 8 (a 2) from hLT2.cg (funext fun _ => up2_k (by decide))) (show FIL ((up2 ab4 10 t.toNat ((ab4 10 t.toNat) + 1)) 15) (a 15) (4 * rr).toNat (k3 - m1).toNat 4 (fun k => a 2 (m1.toNat + k)) from hCE.cg (funext fun _ => up2_k (by decide))) (fun h12b h13b h14b h15b => ?_)
                                        refine m_aload_n (j := 4) C dX12_rule_287 rfl ?_
                                        refine m_iconst C dX12_rule_288 ?_
                                        refine m_iload_n (j := 5) C dX12_rule_289 rfl ?_
                                        refine m_iconst C dX12_rule_290 ?_
                                        refine m_iconst C dX12_rule_291 ?_
                                        refine hv3 (show (-2147483648) ≤ vb4 19 ∧ vb4 19 ≤ 2147483647 from bq4.1 19) (show KS v a vb4 (up2 ab4 10 t.toNat ((ab4 10 t.toNat) + 1)) from pw14) (show vb4 19 = vb4 19 from rfl) (fun rv6 kq1 kq1s => ?_)
                                        have kq11 := kq1.1
                                        refine n_call (mc2 := 1) (ms2 := 4110) (As := [.int (iI 2), .int (iI t), .int (iI 0), .int (iI 0)]) (rest := []) C (M_step (x := 2) (t := t) (y := 0) (z := 0) bq4 (by omega) (by omega) (by omega) (by omega) (by show 0 ≤ vb4 19 ∧ vb4 19 ≤ 2048; omega) (by show vb4 19 ≤ ((ln 18 : Nat) : Int) ∧ 64 ≤ ln 18 ∧ ln 18 ≤ 8192; omega)) dX12_rule_292 kV_X12_182 rfl ck_13 rfl (Nat.le_of_ble_eq_true rfl) ⟨Nat.le_of_ble_eq_true rfl, Nat.le_of_ble_eq_true rfl⟩ ⟨Nat.le_of_ble_eq_true rfl, Nat.le_of_ble_eq_true rfl⟩ (fun rh8 ad ln vh8 ah8 h8 => ?_)
                                        obtain ⟨rfl, fn5, bn5, sx1_1, sx1_2, sx1_3, sx1_4, sx1_5, sx1_6, sx1_7, sx1_8⟩ := h8
                                        refine hv10 (fq8.call fn5 rfl rfl) (show C11 a rr x ah8 from C11.fr pw15 fn5 rfl) (show 0 ≤ vh8 4 ∧ vh8 4 ≤ 30 from bn5.1 4) (show vh8 4 = vb4 4 from fn5.1 4 rfl) (show vb4 4 = v 4 from fpb4.1 4 rfl) (show ∀ j, ah8 10 j = if j = t.toNat then a 10 j + 1 else a 10 j from fun j => (congrFun (fn5.2 10 rfl) j).trans (h10b j)) (show ∀ j, ah8 12 j = if j = rr.toNat then m1 else a 12 j from fun j => (congrFun (fn5.2 12 rfl) j).trans (h12b j)) (show ∀ j, ah8 13 j = if j = rr.toNat then f1 - m1 else a 13 j from fun j => (congrFun (fn5.2 13 rfl) j).trans (h13b j)) (h14b.cg (fn5.2 14 rfl)) (h15b.cg (fn5.2 15 rfl)) (fun fq9 pw16 rv7 ve5 ve6 h10x h12x h13x h14x h15x => ?_)
                                        refine hv2 (show PSH v a vh8 ah8 2 t 0 0 from ⟨by have q := kq1.1; have q1 := sx1_1; omega, fun j hj => (sx1_4 j (by have q := kq1.1; omega)).trans (congrFun kq1.2 j), by rw [← kq1.1]; exact sx1_5, by rw [← kq1.1]; exact sx1_6, by rw [← kq1.1]; exact sx1_7, by rw [← kq1.1]; exact sx1_8⟩) (h10x t.toNat) (fun ps1 h10t => ?_)
                                        rw [if_pos rfl] at h10t
                                        have h10z : 0 ≤ a 10 t.toNat := (hB.2 10 _).1
                                        have pw17 : STK ln vh8 ah8 := STK.push (T0 := vh8 4) (R0 := (fun j => if j = t.toNat then ah8 10 j - 1 else ah8 10 j)) (x := 2) (t := t) (y := 0) hS (by have q := kq1.1; have q1 := sx1_1; omega) sx1_2 sx1_3 (fun j hj => (sx1_4 j (by have q := kq1.1; omega)).trans (congrFun kq1.2 j)) (by rw [← kq1.1]; exact sx1_5) (by rw [← kq1.1]; exact sx1_6) (by rw [← kq1.1]; exact sx1_7) (Or.inr (Or.inr (Or.inl ⟨rfl, ⟨by omega, by omega⟩, (by omega), rfl, rfl⟩))) (fq9.1 4 rfl) (fun j hj => by
                                            show (if j = t.toNat then ah8 10 j - 1 else ah8 10 j) = a 10 j
                                            have q := h10x j
                                            by_cases e : j = t.toNat
                                            · rw [if_pos e] at q ⊢; omega
                                            · rw [if_neg e] at q ⊢; exact q)
                                        have pw18 : TBL vh8 ah8 := TBL.rule (t := t) (r := rr) (m := m1) (c := f1 - m1) hT hB ⟨by omega, by omega⟩ hrr (by omega) ⟨by omega, by omega⟩ ⟨by omega, by omega⟩ (fq9.1 4 rfl) (fq9.2 6 rfl) (fq9.2 8 rfl) (fq9.2 9 rfl) h12x h13x h10x
                                        refine m_st (st2 := []) rfl ?_
                                        refine m_aload_n (j := 4) C dX12_rule_295 rfl ?_
                                        refine m_aload_n (j := 4) C dX12_rule_296 rfl ?_
                                        refine m_geta (k := 10) C dX12_rule_297 w6_69 (by decide) rfl ?_
                                        refine m_iload_n (j := 5) C dX12_rule_300 rfl ?_
                                        refine m_ald (k := 10) C dX12_rule_301 rfl rfl (by decide) (by omega) (by show _ < ((_ : Nat) : Int); simp only [mlen]; omega) (by decide) ?_
                                        refine hv2 (show 0 ≤ ah8 10 t.toNat ∧ ah8 10 t.toNat ≤ 200 from bn5.2 10 (t.toNat)) (show ah8 10 (t.toNat) = (up2 ab4 10 t.toNat ((ab4 10 t.toNat) + 1)) 10 (t.toNat) from congrFun (fn5.2 10 rfl) (t.toNat)) (fun ra7 ae5 => ?_)
                                        refine m_iconst C dX12_rule_302 ?_
                                        refine m_isub C dX12_rule_303 ?_
                                        refine m_call (mc2 := 0) (ms2 := 0) (As := [.int (iI ((ah8 10 t.toNat) - 1))]) (rest := []) C (B_fine (x := (ah8 10 t.toNat) - 1) bn5 (by show -2147483648 ≤ ((ah8 10 t.toNat) - 1) ∧ ((ah8 10 t.toNat) - 1) ≤ 2147483647; omega)) dX12_rule_304 kV_X12_158 rfl ck_13 rfl (Nat.le_of_ble_eq_true rfl) ⟨Nat.le_of_ble_eq_true rfl, Nat.le_of_ble_eq_true rfl⟩ ⟨Nat.le_of_ble_eq_true rfl, Nat.le_of_ble_eq_true rfl⟩ (fun rh9 vh9 ah9 h9 => ?_)
                                        obtain ⟨f5, rfl, fn6, bn6, ex5⟩ := h9
                                        refine hv6 (fq9.call fn6 rfl rfl) (show C11 a rr x ah9 from C11.fr pw16 fn6 rfl) (show STK ln vh9 ah9 from STK.fr pw17 fn6 rfl rfl) (show TBL vh9 ah9 from TBL.fr pw18 fn6 rfl rfl) (show PSH v a vh9 ah9 2 t 0 0 from PSH.fr ps1 fn6 rfl rfl) (show f5 = ((ah8 10 t.toNat) - 1) from ex5) (fun fq10 pw19 pw20 pw21 pw22 gf5 => ?_)
                                        refine m_st (st2 := [.int (iI f5)]) rfl ?_
                                        refine hv6 (show (-2147483648) ≤ vh9 19 ∧ vh9 19 ≤ 2147483647 from bn6.1 19) (show vh9 19 = vh8 19 from fn6.1 19 rfl) (show 0 ≤ vh9 3 ∧ vh9 3 ≤ 3000 from bn6.1 3) (show vh9 3 = vh8 3 from fn6.1 3 rfl) (show vh8 3 = vb4 3 from fn5.1 3 rfl) (show ah9 10 t.toNat = ah8 10 t.toNat from congrFun (fn6.2 10 rfl) t.toNat) (fun rv8 ve7 rv9 ve8 ve9 et0 => ?_)
                                        have ea0 : v 3 = f1 := by omega
                                        exact n_iret C dX12_rule_307 rfl (Nat.le_of_ble_eq_true rfl) (Nat.le_of_ble_eq_true rfl) ⟨f5, rfl, fq10, bn6, ⟨pw21, pw20, (by show vh9 19 ≤ v 19 + 4; omega), (by show vh9 3 = 0; omega), Or.inr ⟨by omega, ⟨by omega, (by rw [ea0]; exact acf4.mp (by omega)), (fun j hj => hM.mp (by omega) j (by omega))⟩, (fq10.1 4 rfl), (fq10.2 5 rfl), (fq10.2 6 rfl), (fq10.2 7 rfl), ((fn6.2 10 rfl).trans (vupR h10x)), pw22, (by rw [← hrr]; exact pw19), (fq10.2 8 rfl), (fq10.2 9 rfl), (fq10.2 16 rfl), (fq10.2 17 rfl), (by rw [← hrr]; exact (fn6.2 12 rfl).trans (vupS h12x)), (by rw [← hrr, ea0]; exact (fn6.2 13 rfl).trans (vupS h13x)), (by rw [← hrr]; exact h14x.cg (fn6.2 14 rfl)), (by rw [← hrr, ea0]; exact (h15x.n (by omega)).cg (fn6.2 15 rfl))⟩⟩⟩
                                      · refine m_aload_n (j := 4) C dX12_rule_250 rfl ?_
                                        refine m_geta (k := 15) C dX12_rule_251 w6_74 (by decide) rfl ?_
                                        refine m_iconst C dX12_rule_254 ?_
                                        refine m_iload (j := 1) C dX12_rule_255 rfl ?_
                                        refine m_imul C dX12_rule_257 ?_
                                        refine m_iload (j := 0) C dX12_rule_258 rfl ?_
                                        refine m_iadd C dX12_rule_260 ?_
                                        refine m_iload_n (j := 7) C dX12_rule_261 rfl ?_
                                        refine m_isub C dX12_rule_262 ?_
                                        refine m_aload_n (j := 4) C dX12_rule_263 rfl ?_
                                        refine m_geta (k := 2) C dX12_rule_264 w6_61 (by decide) rfl ?_
                                        refine m_iload (j := 0) C dX12_rule_267 rfl ?_
                                        refine m_ald (k := 2) C dX12_rule_269 rfl rfl (by decide) (by omega) (by show _ < ((_ : Nat) : Int); simp only [mlen]; omega) (by decide) ?_
                                        refine hv2 (show (-2147483648) ≤ ab4 2 k3.toNat ∧ ab4 2 k3.toNat ≤ 2147483647 from bxb4.2 2 (k3.toNat)) (show ab4 2 (k3.toNat) = a 2 (k3.toNat) from congrFun (fpb4.2 2 rfl) (k3.toNat)) (fun ra8 ae6 => ?_)
                                        refine m_st (st2 := [.int (iI (a 2 k3.toNat)), .int (iI (((4 * rr) + k3) - m1)), .ref (ad 15)]) (congrArg (fun z => Value.int (iI z) :: [.int (iI (((4 * rr) + k3) - m1)), .ref (ad 15)]) (congrFun (fpb4.2 2 rfl) (k3.toNat))) ?_
                                        refine m_ast (k := 15) C dX12_rule_270 rfl rfl (by decide) (by omega) (by show _ < ((_ : Nat) : Int); simp only [mlen]; omega) (by decide) ?_
                                        refine hv5 (show BX vb4 (up2 ab4 15 (((4 * rr) + k3) - m1).toNat (a 2 k3.toNat)) from bxb4.set (k := 15) (i := (((4 * rr) + k3) - m1).toNat) (z := a 2 k3.toNat) (show (-2147483648) ≤ (a 2 k3.toNat) ∧ (a 2 k3.toNat) ≤ 2147483647 by omega)) (fpb4.set (k := 15) (i := (((4 * rr) + k3) - m1).toNat) (z := a 2 k3.toNat) rfl) (show KS v a vb4 (up2 ab4 15 (((4 * rr) + k3) - m1).toNat (a 2 k3.toNat)) from KS.set hKd (k := 15) (i := (((4 * rr) + k3) - m1).toNat) (z := a 2 k3.toNat) (by decide)) (show RUL a rr m1 (f1 - m1) (up2 ab4 15 (((4 * rr) + k3) - m1).toNat (a 2 k3.toNat)) from RUL.set hRd (k := 15) (i := (((4 * rr) + k3) - m1).toNat) (z := a 2 k3.toNat) (by decide)) (show C11 a rr x (up2 ab4 15 (((4 * rr) + k3) - m1).toNat (a 2 k3.toNat)) from C11.set hCd (k := 15) (i := (((4 * rr) + k3) - m1).toNat) (z := a 2 k3.toNat) (by decide)) (fun bq5 fq11 pw23 pw24 pw25 => ?_)
                                        refine m_iinc (z := k3) (j := 0) (lv2 := [(7, .int (iI (k3 + 1))), (6, .int (iI rr)), (5, .int (iI g)), (4, .int (iI f1)), (0, .ref h0), (1, .int (iI t)), (2, .int (iI x)), (3, .int (iI m1))]) C dX12_rule_271 rfl (by decide) rfl ?_
                                        refine m_goto (tgt := 243) C dX12_rule_274 (by decide) ?_
                                        have rv10 : 0 ≤ vb4 3 ∧ vb4 3 ≤ 3000 := bq5.1 3
                                        refine m_lv (lv2 := [(7, .int (iI (k3 + 1))), (6, .int (iI rr)), (5, .int (iI g)), (4, .int (iI f1)), (0, .ref h0), (1, .int (iI t)), (2, .int (iI x)), (3, .int (iI m1))]) [0, 1, 2, 3, 4, 5, 6, 7] rfl ?_
                                        exact ih3  (k3 + 1) _ _ (by omega) bq5 fq11 (by omega) pw23 pw24 pw25 (hLT2.cg (funext fun _ => up2_k (by decide))) (by rw [up2_va]; exact hCE.step (by omega) (congrArg (a 2) (show k3.toNat = m1.toNat + (k3 - m1).toNat by omega)) (by omega) (by omega)) (by show (vb4 3) = 0; omega)
                                  have rv11 : 0 ≤ vb3 3 ∧ vb3 3 ≤ 3000 := bxb3.1 3
                                  refine m_lv (lv2 := [(7, .int (iI m1)), (6, .int (iI rr)), (5, .int (iI g)), (4, .int (iI f1)), (0, .ref h0), (1, .int (iI t)), (2, .int (iI x)), (3, .int (iI m1))]) [0, 1, 2, 3, 4, 5, 6, 7] rfl ?_
                                  exact Lp3 3002 m1 _ _ (by omega) bxb3 fpb3 (by omega) hKc hRc hCc (hLT.n (by omega)) (FIL.zero hC15 (by omega)) (by show (vb3 3) = 0; omega)
                                · refine m_aload_n (j := 4) C dX12_rule_214 rfl ?_
                                  refine m_geta (k := 14) C dX12_rule_215 w6_73 (by decide) rfl ?_
                                  refine m_bipush (z := 8) C dX12_rule_218 (by decide) ?_
                                  refine m_iload (j := 1) C dX12_rule_220 rfl ?_
                                  refine m_imul C dX12_rule_222 ?_
                                  refine m_iload (j := 0) C dX12_rule_223 rfl ?_
                                  refine m_iadd C dX12_rule_225 ?_
                                  refine m_aload_n (j := 4) C dX12_rule_226 rfl ?_
                                  refine m_geta (k := 2) C dX12_rule_227 w6_61 (by decide) rfl ?_
                                  refine m_iload (j := 0) C dX12_rule_230 rfl ?_
                                  refine m_ald (k := 2) C dX12_rule_232 rfl rfl (by decide) (by omega) (by show _ < ((_ : Nat) : Int); simp only [mlen]; omega) (by decide) ?_
                                  refine hv2 (show (-2147483648) ≤ ab3 2 k2.toNat ∧ ab3 2 k2.toNat ≤ 2147483647 from bxb3.2 2 (k2.toNat)) (show ab3 2 (k2.toNat) = a 2 (k2.toNat) from congrFun (fpb3.2 2 rfl) (k2.toNat)) (fun ra9 ae7 => ?_)
                                  refine m_st (st2 := [.int (iI (a 2 k2.toNat)), .int (iI ((8 * rr) + k2)), .ref (ad 14)]) (congrArg (fun z => Value.int (iI z) :: [.int (iI ((8 * rr) + k2)), .ref (ad 14)]) (congrFun (fpb3.2 2 rfl) (k2.toNat))) ?_
                                  have lf2 := hLf k2 (by omega) (by omega)
                                  refine m_ast (k := 14) C dX12_rule_233 rfl rfl (by decide) (by omega) (by show _ < ((_ : Nat) : Int); simp only [mlen]; omega) (by decide) ?_
                                  refine hv5 (show BX vb3 (up2 ab3 14 ((8 * rr) + k2).toNat (a 2 k2.toNat)) from bxb3.set (k := 14) (i := ((8 * rr) + k2).toNat) (z := a 2 k2.toNat) (show 0 ≤ (a 2 k2.toNat) ∧ (a 2 k2.toNat) ≤ 125 by omega)) (fpb3.set (k := 14) (i := ((8 * rr) + k2).toNat) (z := a 2 k2.toNat) rfl) (show KS v a vb3 (up2 ab3 14 ((8 * rr) + k2).toNat (a 2 k2.toNat)) from KS.set hKc (k := 14) (i := ((8 * rr) + k2).toNat) (z := a 2 k2.toNat) (by decide)) (show RUL a rr m1 (f1 - m1) (up2 ab3 14 ((8 * rr) + k2).toNat (a 2 k2.toNat)) from RUL.set hRc (k := 14) (i := ((8 * rr) + k2).toNat) (z := a 2 k2.toNat) (by decide)) (show C11 a rr x (up2 ab3 14 ((8 * rr) + k2).toNat (a 2 k2.toNat)) from C11.set hCc (k := 14) (i := ((8 * rr) + k2).toNat) (z := a 2 k2.toNat) (by decide)) (fun bq6 fq12 pw26 pw27 pw28 => ?_)
                                  refine m_iinc (z := k2) (j := 0) (lv2 := [(7, .int (iI (k2 + 1))), (6, .int (iI rr)), (5, .int (iI g)), (4, .int (iI f1)), (0, .ref h0), (1, .int (iI t)), (2, .int (iI x)), (3, .int (iI m1))]) C dX12_rule_234 rfl (by decide) rfl ?_
                                  refine m_goto (tgt := 208) C dX12_rule_237 (by decide) ?_
                                  have rv12 : 0 ≤ vb3 3 ∧ vb3 3 ≤ 3000 := bq6.1 3
                                  refine m_lv (lv2 := [(7, .int (iI (k2 + 1))), (6, .int (iI rr)), (5, .int (iI g)), (4, .int (iI f1)), (0, .ref h0), (1, .int (iI t)), (2, .int (iI x)), (3, .int (iI m1))]) [0, 1, 2, 3, 4, 5, 6, 7] rfl ?_
                                  exact ih2  (k2 + 1) _ _ (by omega) bq6 fq12 (by omega) pw26 pw27 pw28 (by rw [up2_va]; exact hLT.step (by omega) rfl (by omega) (by omega)) ((funext fun _ => up2_k (by decide)).trans hC15) (by show (vb3 3) = 0; omega)
                            have rv13 : 0 ≤ vb2 3 ∧ vb2 3 ≤ 3000 := bq3.1 3
                            refine m_lv (lv2 := [(7, .int (iI 0)), (6, .int (iI rr)), (5, .int (iI g)), (4, .int (iI f1)), (0, .ref h0), (1, .int (iI t)), (2, .int (iI x)), (3, .int (iI m1))]) [0, 1, 2, 3, 4, 5, 6, 7] rfl ?_
                            exact Lp2 10 0 _ _ (by omega) bq3 fq7 (by omega) pw11 pw12 pw13 (FIL.zero u14 rfl) u15 (by show (vb2 3) = 0; omega)
                          have rv14 : 0 ≤ vb1 3 ∧ vb1 3 ≤ 3000 := bxb1.1 3
                          refine m_lv (lv2 := [(6, .int (iI ((200 * t) + (ab1 10 t.toNat)))), (5, .int (iI g)), (4, .int (iI f1)), (0, .ref h0), (1, .int (iI t)), (2, .int (iI x)), (3, .int (iI m1))]) [0, 1, 2, 3, 4, 5, 6] rfl ?_
                          exact J1  ((200 * t) + (ab1 10 t.toNat)) _ _  bxb1 fpb1 (by omega) (by omega) hKa hUa (fun j h1 h2 => hL (by omega) j h1 (by omega)) (by show (vb1 3) = 0; omega)
                        · clear hg
                          refine m_aload_n (j := 3) C dX12_rule_157 rfl ?_
                          refine m_bipush (z := 6) C dX12_rule_158 (by decide) ?_
                          refine m_call (mc2 := 0) (ms2 := 0) (As := [.int (iI 6)]) (rest := []) C (B_bad (x := 6) bxb1 (by show -2147483648 ≤ (6 : Int) ∧ (6 : Int) ≤ 2147483647; omega)) dX12_rule_160 kV_X12_154 rfl ck_13 rfl (Nat.le_of_ble_eq_true rfl) ⟨Nat.le_of_ble_eq_true rfl, Nat.le_of_ble_eq_true rfl⟩ ⟨Nat.le_of_ble_eq_true rfl, Nat.le_of_ble_eq_true rfl⟩ (fun rh10 vh10 ah10 h10 => ?_)
                          obtain ⟨f6, rfl, fn7, bn7, ex6⟩ := h10
                          refine hv6 (fpb1.call fn7 rfl rfl) (show KS v a vh10 ah10 from KS.fr hKa fn7 rfl rfl) (show TBL vh10 ah10 from TBL.fr hTa fn7 rfl rfl) (show STK ln vh10 ah10 from STK.fr hSa fn7 rfl rfl) (show UN a ah10 from UN.fr hUa fn7 rfl) (show f6 = -1 from ex6) (fun fq13 pw29 pw30 pw31 pw32 gf6 => ?_)
                          refine m_st (st2 := [.int (iI f6)]) rfl ?_
                          refine hv5 (show (-2147483648) ≤ vh10 19 ∧ vh10 19 ≤ 2147483647 from bn7.1 19) (show vh10 19 = vb1 19 from fn7.1 19 rfl) ((pw29).1) (show 0 ≤ vh10 3 ∧ vh10 3 ≤ 3000 from bn7.1 3) (show vh10 3 = vb1 3 from fn7.1 3 rfl) (fun rv15 ve10 ksx2 rv16 ve11 => ?_)
                          exact n_iret C dX12_rule_163 rfl (Nat.le_of_ble_eq_true rfl) (Nat.le_of_ble_eq_true rfl) ⟨f6, rfl, fq13, bn7, ⟨pw30, pw31, (by show vh10 19 ≤ v 19 + 4; omega), (by show vh10 3 = 0; omega), Or.inl ⟨by omega, ⟨(fq13.1 4 rfl), (fq13.2 5 rfl), (fq13.2 6 rfl), (fq13.2 7 rfl), (pw32).1, (pw29).1, (pw29).2, (pw32).2.2.2.1, ⟨(fq13.2 8 rfl), (fq13.2 9 rfl), (pw32).2.1, (pw32).2.2.1, (pw32).2.2.2.2.1, (pw32).2.2.2.2.2, (fq13.2 16 rfl), (fq13.2 17 rfl)⟩⟩, (fun q => by have q1 := q.1; first | omega | exact absurd (acf4.mpr (by rw [show f1 = v 3 by omega]; exact q.2.1)) (by omega) | exact absurd (hM.mpr (fun j hj => q.2.2 j (by omega))) (by omega))⟩⟩⟩
                      · have J2 : ∀ (g1 : Int) (vb5 : Nat → Int) (ab5 : Nat → Nat → Int), BX vb5 ab5 → fr [0, 1, 3, 19] [10, 11, 12, 13, 14, 15, 18, 70] v a vb5 ab5 → (g1 = 0 ∨ g1 = 1) → (KS v a vb5 ab5) → (TBL vb5 ab5) → (STK ln vb5 ab5) → (UN a ab5) → (g1 = 1 → ∀ j : Int, 0 ≤ j → j < k + 1 → (33 ≤ a 2 j.toNat ∧ a 2 j.toNat ≤ 125)) → (g1 = 1 ↔ LTK (a 2) (k + 1)) → (vb5 3 = 0) → mw p l e (rmq 2 1 4110) s m args below meth c G A 8 (MQ below (Qm G A (fun rq Lq Eq => ∃ (adq lnq : Nat → Nat) (vq : Nat → Int) (aq : Nat → Nat → Int), mI G h0 adq lnq vq aq Lq Eq ∧ (fun r ln2 v2 a2 => ∃ f : Int, r = some (.int (iI f)) ∧ fr [0, 1, 3, 19] [10, 11, 12, 13, 14, 15, 18, 70] v a v2 a2 ∧ BX v2 a2 ∧ (TBL v2 a2 ∧ STK ln2 v2 a2 ∧ v2 19 ≤ v 19 + 4 ∧ v2 3 = 0 ∧ ((f = -1 ∧ TSAME v a v2 a2 ∧ ¬ ((0 ≤ t ∧ t < v 4 ∧ a 5 t.toNat = 1 ∧ a 6 t.toNat ≠ 5 ∧ 0 ≤ x ∧ x ≤ 5 ∧ 1 ≤ m1 ∧ m1 ≤ 8 ∧ 1 ≤ v 3 - m1 ∧ v 3 - m1 ≤ 4 ∧ a 10 t.toNat ≠ 200) ∧ ACL (a 2) m1 (v 3 - m1) (DC (a 7 t.toNat)) ∧ LTK (a 2) m1)) ∨ (f = a 10 t.toNat ∧ ((0 ≤ t ∧ t < v 4 ∧ a 5 t.toNat = 1 ∧ a 6 t.toNat ≠ 5 ∧ 0 ≤ x ∧ x ≤ 5 ∧ 1 ≤ m1 ∧ m1 ≤ 8 ∧ 1 ≤ v 3 - m1 ∧ v 3 - m1 ≤ 4 ∧ a 10 t.toNat ≠ 200) ∧ ACL (a 2) m1 (v 3 - m1) (DC (a 7 t.toNat)) ∧ LTK (a 2) m1) ∧ TRUL t x m1 v a v2 a2)))) rq lnq vq aq)) args s 1 4110 A) h0 ad ln vb5 ab5 0 0 144 [(6, .int (iI k)), (5, .int (iI g)), (4, .int (iI f1)), (0, .ref h0), (1, .int (iI t)), (2, .int (iI x)), (3, .int (iI m1))] [.int (iI g1)] := by
                          intro g1 vb5 ab5 bxb5 fpb5 hg1 hKt hTt hSt hUt hL1 hM1 hz31
                          refine m_istore (lv2 := [(5, .int (iI g1)), (6, .int (iI k)), (4, .int (iI f1)), (0, .ref h0), (1, .int (iI t)), (2, .int (iI x)), (3, .int (iI m1))]) C dX12_rule_144 (by decide) rfl ?_
                          refine m_iinc (z := k) (j := 1) (lv2 := [(6, .int (iI (k + 1))), (5, .int (iI g1)), (4, .int (iI f1)), (0, .ref h0), (1, .int (iI t)), (2, .int (iI x)), (3, .int (iI m1))]) C dX12_rule_146 rfl (by decide) rfl ?_
                          refine m_goto (tgt := 115) C dX12_rule_149 (by decide) ?_
                          have rv17 : 0 ≤ vb5 3 ∧ vb5 3 ≤ 3000 := bxb5.1 3
                          refine m_lv (lv2 := [(6, .int (iI (k + 1))), (5, .int (iI g1)), (4, .int (iI f1)), (0, .ref h0), (1, .int (iI t)), (2, .int (iI x)), (3, .int (iI m1))]) [0, 1, 2, 3, 4, 5, 6] rfl ?_
                          exact ih1  g1 (k + 1) _ _ (by omega) bxb5 fpb5 (by omega) (by omega) hKt hTt hSt hUt hL1 hM1 (by show (vb5 3) = 0; omega)
                        refine m_iload (j := 1) C dX12_rule_121 rfl ?_
                        refine m_if_eq (tgt := 143) C (r32_01 hg) dX12_rule_123 (by decide) (fun c10 => ?_) (fun c10 => ?_)
                        · clear hg
                          refine m_iconst C dX12_rule_143 ?_
                          have rv18 : 0 ≤ vb1 3 ∧ vb1 3 ≤ 3000 := bxb1.1 3
                          refine m_lv (lv2 := [(6, .int (iI k)), (5, .int (iI g)), (4, .int (iI f1)), (0, .ref h0), (1, .int (iI t)), (2, .int (iI x)), (3, .int (iI m1))]) [0, 1, 2, 3, 4, 5, 6] rfl ?_
                          exact J2  0 _ _  bxb1 fpb1 (by omega) hKa hTa hSa hUa (fun q => absurd q (by omega)) (LTK.step hM (by omega) (by omega)) (by show (vb1 3) = 0; omega)
                        · replace hg := (hg.resolve_left c10)
                          refine m_aload_n (j := 3) C dX12_rule_126 rfl ?_
                          refine m_geta (k := 2) C dX12_rule_127 w6_61 (by decide) rfl ?_
                          refine m_iload (j := 0) C dX12_rule_130 rfl ?_
                          refine m_ald (k := 2) C dX12_rule_132 rfl rfl (by decide) (by omega) (by show _ < ((_ : Nat) : Int); simp only [mlen]; omega) (by decide) ?_
                          refine hv2 (show (-2147483648) ≤ ab1 2 k.toNat ∧ ab1 2 k.toNat ≤ 2147483647 from bxb1.2 2 (k.toNat)) (show ab1 2 (k.toNat) = a 2 (k.toNat) from congrFun (fpb1.2 2 rfl) (k.toNat)) (fun ra10 ae8 => ?_)
                          refine m_st (st2 := [.int (iI (a 2 k.toNat))]) (congrArg (fun z => Value.int (iI z) :: []) (congrFun (fpb1.2 2 rfl) (k.toNat))) ?_
                          refine m_callS (As := [.int (iI (a 2 k.toNat))]) (rest := []) C (fun L E => s_isLetter (iI (a 2 k.toNat))) dX12_rule_133 kS_X12_199 rfl rfl (Nat.le_of_ble_eq_true rfl) ⟨Nat.le_of_ble_eq_true rfl, Nat.le_of_ble_eq_true rfl⟩ ⟨Nat.le_of_ble_eq_true rfl, Nat.le_of_ble_eq_true rfl⟩ ?_
                          rcases inn_c (x := a 2 k.toNat) (lo := 33) (hi := 125) ⟨by omega, by omega⟩ ⟨by decide, by decide⟩ ⟨by decide, by decide⟩ with ⟨h11a, h11b, h11e⟩ | ⟨h11a, h11e⟩
                          · refine m_st (st2 := [.int (iI 1)]) (by rw [show inn (iI (a 2 k.toNat)) 33 125 = iI 1 from h11e]) ?_
                            refine m_if_eq (tgt := 143) C ⟨by decide, by decide⟩ dX12_rule_136 (by decide) (fun z => absurd z (by omega)) (fun _ => ?_)
                            refine m_iconst C dX12_rule_139 ?_
                            refine m_goto (tgt := 144) C dX12_rule_140 (by decide) ?_
                            have rv19 : 0 ≤ vb1 3 ∧ vb1 3 ≤ 3000 := bxb1.1 3
                            refine m_lv (lv2 := [(6, .int (iI k)), (5, .int (iI g)), (4, .int (iI f1)), (0, .ref h0), (1, .int (iI t)), (2, .int (iI x)), (3, .int (iI m1))]) [0, 1, 2, 3, 4, 5, 6] rfl ?_
                            exact J2  1 _ _  bxb1 fpb1 (by omega) hKa hTa hSa hUa (fun _ j h1 h2 => by
                                by_cases e : j = k
                                · subst e; exact ⟨by omega, by omega⟩
                                · exact hL (by omega) j h1 (by omega)) (LTK.step hM (by omega) (by omega)) (by show (vb1 3) = 0; omega)
                          · refine m_st (st2 := [.int (iI 0)]) (by rw [show inn (iI (a 2 k.toNat)) 33 125 = iI 0 from h11e]) ?_
                            refine m_if_eq (tgt := 143) C ⟨by decide, by decide⟩ dX12_rule_136 (by decide) (fun _ => ?_) (fun z => absurd z (by omega))
                            refine m_iconst C dX12_rule_143 ?_
                            have rv20 : 0 ≤ vb1 3 ∧ vb1 3 ≤ 3000 := bxb1.1 3
                            refine m_lv (lv2 := [(6, .int (iI k)), (5, .int (iI g)), (4, .int (iI f1)), (0, .ref h0), (1, .int (iI t)), (2, .int (iI x)), (3, .int (iI m1))]) [0, 1, 2, 3, 4, 5, 6] rfl ?_
                            exact J2  0 _ _  bxb1 fpb1 (by omega) hKa hTa hSa hUa (fun q => absurd q (by omega)) (LTK.step hM (by omega) (by omega)) (by show (vb1 3) = 0; omega)
                  refine m_lv (lv2 := [(6, .int (iI 0)), (5, .int (iI 1)), (4, .int (iI f1)), (0, .ref h0), (1, .int (iI t)), (2, .int (iI x)), (3, .int (iI m1))]) [0, 1, 2, 3, 4, 5, 6] rfl ?_
                  exact Lp1 10 1 0 _ _ (by omega) bn1 fq1 (by omega) (by omega) pw1 pw2 pw3 pw4 (fun _ j h1 h2 => absurd h2 (by omega)) ⟨fun _ => LTK.zero, fun _ => rfl⟩ (by show (vh1 3) = 0; omega)
                · replace gf4 := (And.intro c5 gf4.2)
                  refine m_aload_n (j := 1) C dX12_rule_102 rfl ?_
                  refine m_bipush (z := 6) C dX12_rule_103 (by decide) ?_
                  refine m_call (mc2 := 0) (ms2 := 0) (As := [.int (iI 6)]) (rest := []) C (B_bad (x := 6) bn1 (by show -2147483648 ≤ (6 : Int) ∧ (6 : Int) ≤ 2147483647; omega)) dX12_rule_105 kV_X12_154 rfl ck_13 rfl (Nat.le_of_ble_eq_true rfl) ⟨Nat.le_of_ble_eq_true rfl, Nat.le_of_ble_eq_true rfl⟩ ⟨Nat.le_of_ble_eq_true rfl, Nat.le_of_ble_eq_true rfl⟩ (fun rh12 vh12 ah12 h12 => ?_)
                  obtain ⟨f7, rfl, fn8, bn8, ex7⟩ := h12
                  refine hv6 (fq1.call fn8 rfl rfl) (show KS v a vh12 ah12 from KS.fr pw1 fn8 rfl rfl) (show TBL vh12 ah12 from TBL.fr pw2 fn8 rfl rfl) (show STK ln vh12 ah12 from STK.fr pw3 fn8 rfl rfl) (show UN a ah12 from UN.fr pw4 fn8 rfl) (show f7 = -1 from ex7) (fun fq14 pw33 pw34 pw35 pw36 gf7 => ?_)
                  refine m_st (st2 := [.int (iI f7)]) rfl ?_
                  refine hv6 (show (-2147483648) ≤ vh12 19 ∧ vh12 19 ≤ 2147483647 from bn8.1 19) (show vh12 19 = vh1 19 from fn8.1 19 rfl) (show vh1 19 = v 19 from fn1.1 19 rfl) ((pw33).1) (show 0 ≤ vh12 3 ∧ vh12 3 ≤ 3000 from bn8.1 3) (show vh12 3 = vh1 3 from fn8.1 3 rfl) (fun rv21 ve12 ve13 ksx3 rv22 ve14 => ?_)
                  exact n_iret C dX12_rule_108 rfl (Nat.le_of_ble_eq_true rfl) (Nat.le_of_ble_eq_true rfl) ⟨f7, rfl, fq14, bn8, ⟨pw34, pw35, (by show vh12 19 ≤ v 19 + 4; omega), (by show vh12 3 = 0; omega), Or.inl ⟨by omega, ⟨(fq14.1 4 rfl), (fq14.2 5 rfl), (fq14.2 6 rfl), (fq14.2 7 rfl), (pw36).1, (pw33).1, (pw33).2, (pw36).2.2.2.1, ⟨(fq14.2 8 rfl), (fq14.2 9 rfl), (pw36).2.1, (pw36).2.2.1, (pw36).2.2.2.2.1, (pw36).2.2.2.2.2, (fq14.2 16 rfl), (fq14.2 17 rfl)⟩⟩, (fun q => by have q1 := q.1; first | omega | exact absurd (acf4.mpr (by rw [show f1 = v 3 by omega]; exact q.2.1)) (by omega))⟩⟩⟩
            · refine m_st (st2 := [.int (iI 0)]) (by rw [h5e]) ?_
              refine m_if_eq (tgt := 102) C ⟨by decide, by decide⟩ dX12_rule_74 (by decide) (fun _ => ?_) (fun z => absurd z (by omega))
              refine m_aload_n (j := 1) C dX12_rule_102 rfl ?_
              refine m_bipush (z := 6) C dX12_rule_103 (by decide) ?_
              refine m_call (mc2 := 0) (ms2 := 0) (As := [.int (iI 6)]) (rest := []) C (B_bad (x := 6) bn1 (by show -2147483648 ≤ (6 : Int) ∧ (6 : Int) ≤ 2147483647; omega)) dX12_rule_105 kV_X12_154 rfl ck_13 rfl (Nat.le_of_ble_eq_true rfl) ⟨Nat.le_of_ble_eq_true rfl, Nat.le_of_ble_eq_true rfl⟩ ⟨Nat.le_of_ble_eq_true rfl, Nat.le_of_ble_eq_true rfl⟩ (fun rh13 vh13 ah13 h13 => ?_)
              obtain ⟨f8, rfl, fn9, bn9, ex8⟩ := h13
              refine hv6 (fq1.call fn9 rfl rfl) (show KS v a vh13 ah13 from KS.fr pw1 fn9 rfl rfl) (show TBL vh13 ah13 from TBL.fr pw2 fn9 rfl rfl) (show STK ln vh13 ah13 from STK.fr pw3 fn9 rfl rfl) (show UN a ah13 from UN.fr pw4 fn9 rfl) (show f8 = -1 from ex8) (fun fq15 pw37 pw38 pw39 pw40 gf8 => ?_)
              refine m_st (st2 := [.int (iI f8)]) rfl ?_
              refine hv6 (show (-2147483648) ≤ vh13 19 ∧ vh13 19 ≤ 2147483647 from bn9.1 19) (show vh13 19 = vh1 19 from fn9.1 19 rfl) (show vh1 19 = v 19 from fn1.1 19 rfl) ((pw37).1) (show 0 ≤ vh13 3 ∧ vh13 3 ≤ 3000 from bn9.1 3) (show vh13 3 = vh1 3 from fn9.1 3 rfl) (fun rv23 ve15 ve16 ksx4 rv24 ve17 => ?_)
              exact n_iret C dX12_rule_108 rfl (Nat.le_of_ble_eq_true rfl) (Nat.le_of_ble_eq_true rfl) ⟨f8, rfl, fq15, bn9, ⟨pw38, pw39, (by show vh13 19 ≤ v 19 + 4; omega), (by show vh13 3 = 0; omega), Or.inl ⟨by omega, ⟨(fq15.1 4 rfl), (fq15.2 5 rfl), (fq15.2 6 rfl), (fq15.2 7 rfl), (pw40).1, (pw37).1, (pw37).2, (pw40).2.2.2.1, ⟨(fq15.2 8 rfl), (fq15.2 9 rfl), (pw40).2.1, (pw40).2.2.1, (pw40).2.2.2.2.1, (pw40).2.2.2.2.2, (fq15.2 16 rfl), (fq15.2 17 rfl)⟩⟩, (fun q => by have q1 := q.1; first | omega)⟩⟩⟩
          · refine m_st (st2 := [.int (iI 0)]) (by rw [h4e]) ?_
            refine m_if_eq (tgt := 102) C ⟨by decide, by decide⟩ dX12_rule_62 (by decide) (fun _ => ?_) (fun z => absurd z (by omega))
            refine m_aload_n (j := 1) C dX12_rule_102 rfl ?_
            refine m_bipush (z := 6) C dX12_rule_103 (by decide) ?_
            refine m_call (mc2 := 0) (ms2 := 0) (As := [.int (iI 6)]) (rest := []) C (B_bad (x := 6) bn1 (by show -2147483648 ≤ (6 : Int) ∧ (6 : Int) ≤ 2147483647; omega)) dX12_rule_105 kV_X12_154 rfl ck_13 rfl (Nat.le_of_ble_eq_true rfl) ⟨Nat.le_of_ble_eq_true rfl, Nat.le_of_ble_eq_true rfl⟩ ⟨Nat.le_of_ble_eq_true rfl, Nat.le_of_ble_eq_true rfl⟩ (fun rh14 vh14 ah14 h14 => ?_)
            obtain ⟨f9, rfl, fn10, bn10, ex9⟩ := h14
            refine hv6 (fq1.call fn10 rfl rfl) (show KS v a vh14 ah14 from KS.fr pw1 fn10 rfl rfl) (show TBL vh14 ah14 from TBL.fr pw2 fn10 rfl rfl) (show STK ln vh14 ah14 from STK.fr pw3 fn10 rfl rfl) (show UN a ah14 from UN.fr pw4 fn10 rfl) (show f9 = -1 from ex9) (fun fq16 pw41 pw42 pw43 pw44 gf9 => ?_)
            refine m_st (st2 := [.int (iI f9)]) rfl ?_
            refine hv6 (show (-2147483648) ≤ vh14 19 ∧ vh14 19 ≤ 2147483647 from bn10.1 19) (show vh14 19 = vh1 19 from fn10.1 19 rfl) (show vh1 19 = v 19 from fn1.1 19 rfl) ((pw41).1) (show 0 ≤ vh14 3 ∧ vh14 3 ≤ 3000 from bn10.1 3) (show vh14 3 = vh1 3 from fn10.1 3 rfl) (fun rv25 ve18 ve19 ksx5 rv26 ve20 => ?_)
            exact n_iret C dX12_rule_108 rfl (Nat.le_of_ble_eq_true rfl) (Nat.le_of_ble_eq_true rfl) ⟨f9, rfl, fq16, bn10, ⟨pw42, pw43, (by show vh14 19 ≤ v 19 + 4; omega), (by show vh14 3 = 0; omega), Or.inl ⟨by omega, ⟨(fq16.1 4 rfl), (fq16.2 5 rfl), (fq16.2 6 rfl), (fq16.2 7 rfl), (pw44).1, (pw41).1, (pw41).2, (pw44).2.2.2.1, ⟨(fq16.2 8 rfl), (fq16.2 9 rfl), (pw44).2.1, (pw44).2.2.1, (pw44).2.2.2.2.1, (pw44).2.2.2.2.2, (fq16.2 16 rfl), (fq16.2 17 rfl)⟩⟩, (fun q => by have q1 := q.1; first | omega)⟩⟩⟩
        · refine m_st (st2 := [.int (iI 0)]) (by rw [h3e]) ?_
          refine m_if_eq (tgt := 102) C ⟨by decide, by decide⟩ dX12_rule_52 (by decide) (fun _ => ?_) (fun z => absurd z (by omega))
          refine m_aload_n (j := 1) C dX12_rule_102 rfl ?_
          refine m_bipush (z := 6) C dX12_rule_103 (by decide) ?_
          refine m_call (mc2 := 0) (ms2 := 0) (As := [.int (iI 6)]) (rest := []) C (B_bad (x := 6) bn1 (by show -2147483648 ≤ (6 : Int) ∧ (6 : Int) ≤ 2147483647; omega)) dX12_rule_105 kV_X12_154 rfl ck_13 rfl (Nat.le_of_ble_eq_true rfl) ⟨Nat.le_of_ble_eq_true rfl, Nat.le_of_ble_eq_true rfl⟩ ⟨Nat.le_of_ble_eq_true rfl, Nat.le_of_ble_eq_true rfl⟩ (fun rh15 vh15 ah15 h15 => ?_)
          obtain ⟨f10, rfl, fn11, bn11, ex10⟩ := h15
          refine hv6 (fq1.call fn11 rfl rfl) (show KS v a vh15 ah15 from KS.fr pw1 fn11 rfl rfl) (show TBL vh15 ah15 from TBL.fr pw2 fn11 rfl rfl) (show STK ln vh15 ah15 from STK.fr pw3 fn11 rfl rfl) (show UN a ah15 from UN.fr pw4 fn11 rfl) (show f10 = -1 from ex10) (fun fq17 pw45 pw46 pw47 pw48 gf10 => ?_)
          refine m_st (st2 := [.int (iI f10)]) rfl ?_
          refine hv6 (show (-2147483648) ≤ vh15 19 ∧ vh15 19 ≤ 2147483647 from bn11.1 19) (show vh15 19 = vh1 19 from fn11.1 19 rfl) (show vh1 19 = v 19 from fn1.1 19 rfl) ((pw45).1) (show 0 ≤ vh15 3 ∧ vh15 3 ≤ 3000 from bn11.1 3) (show vh15 3 = vh1 3 from fn11.1 3 rfl) (fun rv27 ve21 ve22 ksx6 rv28 ve23 => ?_)
          exact n_iret C dX12_rule_108 rfl (Nat.le_of_ble_eq_true rfl) (Nat.le_of_ble_eq_true rfl) ⟨f10, rfl, fq17, bn11, ⟨pw46, pw47, (by show vh15 19 ≤ v 19 + 4; omega), (by show vh15 3 = 0; omega), Or.inl ⟨by omega, ⟨(fq17.1 4 rfl), (fq17.2 5 rfl), (fq17.2 6 rfl), (fq17.2 7 rfl), (pw48).1, (pw45).1, (pw45).2, (pw48).2.2.2.1, ⟨(fq17.2 8 rfl), (fq17.2 9 rfl), (pw48).2.1, (pw48).2.2.1, (pw48).2.2.2.2.1, (pw48).2.2.2.2.2, (fq17.2 16 rfl), (fq17.2 17 rfl)⟩⟩, (fun q => by have q1 := q.1; first | omega)⟩⟩⟩
      · refine m_aload_n (j := 1) C dX12_rule_40 rfl ?_
        refine m_iconst C dX12_rule_41 ?_
        refine m_call (mc2 := 0) (ms2 := 0) (As := [.int (iI 5)]) (rest := []) C (B_bad (x := 5) bn1 (by show -2147483648 ≤ (5 : Int) ∧ (5 : Int) ≤ 2147483647; omega)) dX12_rule_42 kV_X12_154 rfl ck_13 rfl (Nat.le_of_ble_eq_true rfl) ⟨Nat.le_of_ble_eq_true rfl, Nat.le_of_ble_eq_true rfl⟩ ⟨Nat.le_of_ble_eq_true rfl, Nat.le_of_ble_eq_true rfl⟩ (fun rh16 vh16 ah16 h16 => ?_)
        obtain ⟨f11, rfl, fn12, bn12, ex11⟩ := h16
        refine hv6 (fq1.call fn12 rfl rfl) (show KS v a vh16 ah16 from KS.fr pw1 fn12 rfl rfl) (show TBL vh16 ah16 from TBL.fr pw2 fn12 rfl rfl) (show STK ln vh16 ah16 from STK.fr pw3 fn12 rfl rfl) (show UN a ah16 from UN.fr pw4 fn12 rfl) (show f11 = -1 from ex11) (fun fq18 pw49 pw50 pw51 pw52 gf11 => ?_)
        refine m_st (st2 := [.int (iI f11)]) rfl ?_
        refine hv6 (show (-2147483648) ≤ vh16 19 ∧ vh16 19 ≤ 2147483647 from bn12.1 19) (show vh16 19 = vh1 19 from fn12.1 19 rfl) (show vh1 19 = v 19 from fn1.1 19 rfl) ((pw49).1) (show 0 ≤ vh16 3 ∧ vh16 3 ≤ 3000 from bn12.1 3) (show vh16 3 = vh1 3 from fn12.1 3 rfl) (fun rv29 ve24 ve25 ksx7 rv30 ve26 => ?_)
        exact n_iret C dX12_rule_45 rfl (Nat.le_of_ble_eq_true rfl) (Nat.le_of_ble_eq_true rfl) ⟨f11, rfl, fq18, bn12, ⟨pw50, pw51, (by show vh16 19 ≤ v 19 + 4; omega), (by show vh16 3 = 0; omega), Or.inl ⟨by omega, ⟨(fq18.1 4 rfl), (fq18.2 5 rfl), (fq18.2 6 rfl), (fq18.2 7 rfl), (pw52).1, (pw49).1, (pw49).2, (pw52).2.2.2.1, ⟨(fq18.2 8 rfl), (fq18.2 9 rfl), (pw52).2.1, (pw52).2.2.1, (pw52).2.2.2.2.1, (pw52).2.2.2.2.2, (fq18.2 16 rfl), (fq18.2 17 rfl)⟩⟩, (fun q => by have q1 := q.1; first | omega)⟩⟩⟩
    · refine m_aload_n (j := 1) C dX12_rule_30 rfl ?_
      refine m_iconst C dX12_rule_31 ?_
      refine m_call (mc2 := 0) (ms2 := 0) (As := [.int (iI 4)]) (rest := []) C (B_bad (x := 4) bn1 (by show -2147483648 ≤ (4 : Int) ∧ (4 : Int) ≤ 2147483647; omega)) dX12_rule_32 kV_X12_154 rfl ck_13 rfl (Nat.le_of_ble_eq_true rfl) ⟨Nat.le_of_ble_eq_true rfl, Nat.le_of_ble_eq_true rfl⟩ ⟨Nat.le_of_ble_eq_true rfl, Nat.le_of_ble_eq_true rfl⟩ (fun rh17 vh17 ah17 h17 => ?_)
      obtain ⟨f12, rfl, fn13, bn13, ex12⟩ := h17
      refine hv6 (fq1.call fn13 rfl rfl) (show KS v a vh17 ah17 from KS.fr pw1 fn13 rfl rfl) (show TBL vh17 ah17 from TBL.fr pw2 fn13 rfl rfl) (show STK ln vh17 ah17 from STK.fr pw3 fn13 rfl rfl) (show UN a ah17 from UN.fr pw4 fn13 rfl) (show f12 = -1 from ex12) (fun fq19 pw53 pw54 pw55 pw56 gf12 => ?_)
      refine m_st (st2 := [.int (iI f12)]) rfl ?_
      refine hv6 (show (-2147483648) ≤ vh17 19 ∧ vh17 19 ≤ 2147483647 from bn13.1 19) (show vh17 19 = vh1 19 from fn13.1 19 rfl) (show vh1 19 = v 19 from fn1.1 19 rfl) ((pw53).1) (show 0 ≤ vh17 3 ∧ vh17 3 ≤ 3000 from bn13.1 3) (show vh17 3 = vh1 3 from fn13.1 3 rfl) (fun rv31 ve27 ve28 ksx8 rv32 ve29 => ?_)
      exact n_iret C dX12_rule_35 rfl (Nat.le_of_ble_eq_true rfl) (Nat.le_of_ble_eq_true rfl) ⟨f12, rfl, fq19, bn13, ⟨pw54, pw55, (by show vh17 19 ≤ v 19 + 4; omega), (by show vh17 3 = 0; omega), Or.inl ⟨by omega, ⟨(fq19.1 4 rfl), (fq19.2 5 rfl), (fq19.2 6 rfl), (fq19.2 7 rfl), (pw56).1, (pw53).1, (pw53).2, (pw56).2.2.2.1, ⟨(fq19.2 8 rfl), (fq19.2 9 rfl), (pw56).2.1, (pw56).2.2.1, (pw56).2.2.2.2.1, (pw56).2.2.2.2.2, (fq19.2 16 rfl), (fq19.2 17 rfl)⟩⟩, (fun q => by have q1 := q.1; first | omega)⟩⟩⟩
  · replace gf2 := (gf2.resolve_right (fun q => absurd (q.1.symm.trans c1) (by decide)))
    refine m_aload_n (j := 1) C dX12_rule_14 rfl ?_
    refine m_iconst C dX12_rule_15 ?_
    refine m_call (mc2 := 0) (ms2 := 0) (As := [.int (iI 3)]) (rest := []) C (B_bad (x := 3) bn1 (by show -2147483648 ≤ (3 : Int) ∧ (3 : Int) ≤ 2147483647; omega)) dX12_rule_16 kV_X12_154 rfl ck_13 rfl (Nat.le_of_ble_eq_true rfl) ⟨Nat.le_of_ble_eq_true rfl, Nat.le_of_ble_eq_true rfl⟩ ⟨Nat.le_of_ble_eq_true rfl, Nat.le_of_ble_eq_true rfl⟩ (fun rh18 vh18 ah18 h18 => ?_)
    obtain ⟨f13, rfl, fn14, bn14, ex13⟩ := h18
    refine hv6 (fq1.call fn14 rfl rfl) (show KS v a vh18 ah18 from KS.fr pw1 fn14 rfl rfl) (show TBL vh18 ah18 from TBL.fr pw2 fn14 rfl rfl) (show STK ln vh18 ah18 from STK.fr pw3 fn14 rfl rfl) (show UN a ah18 from UN.fr pw4 fn14 rfl) (show f13 = -1 from ex13) (fun fq20 pw57 pw58 pw59 pw60 gf13 => ?_)
    refine m_st (st2 := [.int (iI f13)]) rfl ?_
    refine hv6 (show (-2147483648) ≤ vh18 19 ∧ vh18 19 ≤ 2147483647 from bn14.1 19) (show vh18 19 = vh1 19 from fn14.1 19 rfl) (show vh1 19 = v 19 from fn1.1 19 rfl) ((pw57).1) (show 0 ≤ vh18 3 ∧ vh18 3 ≤ 3000 from bn14.1 3) (show vh18 3 = vh1 3 from fn14.1 3 rfl) (fun rv33 ve30 ve31 ksx9 rv34 ve32 => ?_)
    exact n_iret C dX12_rule_19 rfl (Nat.le_of_ble_eq_true rfl) (Nat.le_of_ble_eq_true rfl) ⟨f13, rfl, fq20, bn14, ⟨pw58, pw59, (by show vh18 19 ≤ v 19 + 4; omega), (by show vh18 3 = 0; omega), Or.inl ⟨by omega, ⟨(fq20.1 4 rfl), (fq20.2 5 rfl), (fq20.2 6 rfl), (fq20.2 7 rfl), (pw60).1, (pw57).1, (pw57).2, (pw60).2.2.2.1, ⟨(fq20.2 8 rfl), (fq20.2 9 rfl), (pw60).2.1, (pw60).2.2.1, (pw60).2.2.2.2.1, (pw60).2.2.2.2.2, (fq20.2 16 rfl), (fq20.2 17 rfl)⟩⟩, (fun q => by have q1 := q.1; first | omega)⟩⟩⟩
set_option maxHeartbeats 4000000 in
set_option maxRecDepth 100000 in
theorem M_undo {l : Launch} {G : GT} {h0 : Nat} {ad ln : Nat → Nat} {v : Nat → Int} {a : Nat → Nat → Int} (hB : BX v a) (hT : TBL v a) (hS : STK ln v a) (h19 : v 19 ≤ 2048) : Mn l G yX12_undo cX12_undo 5 (some .int) 1 [] h0 ad ln v a 0 0 (fun r ln2 v2 a2 => ∃ f : Int, r = some (.int (iI f)) ∧ fr [0, 1, 4, 19] [5, 10, 11, 16, 17] v a v2 a2 ∧ BX v2 a2 ∧ (TBL v2 a2 ∧ STK ln2 v2 a2 ∧ v2 19 ≤ v 19 + 4 ∧ ((v 19 = 0 ∧ f = 0 ∧ TSAME v a v2 a2) ∨ (v 19 ≠ 0 ∧ f = 1 ∧ TUND v a v2 a2)))) := by
  refine Mn.mk (by decide) (Nat.le_of_ble_eq_true rfl) ?_
  intro p e s m args below meth c A C
  have h30 : 0 ≤ v 4 ∧ v 4 ≤ 30 := hB.1 4
  obtain ⟨n9, hn9, hk9⟩ := hS.2.2
  refine hv3 (hS.1) (hS.2.1) (show fr [0, 1, 4, 19] [5, 10, 11, 16, 17] v a v a from fr.refl) (fun hl1 hl2 fp0 => ?_)
  refine m_aload_n (j := 0) C dX12_undo_0 rfl ?_
  have rv1 : (-2147483648) ≤ v 19 ∧ v 19 ≤ 2147483647 := hB.1 19
  refine m_get (k := 19) C dX12_undo_1 w6_78 (by decide) rfl ?_
  refine m_if_ne (tgt := 13) C (r32_c (lo := (-2147483648)) (hi := 2147483647) rv1.1 rv1.2 (by decide) (by decide)) dX12_undo_4 (by decide) (fun c1 => ?_) (fun c1 => ?_)
  · obtain ⟨u4, T0, R0, he, hpop⟩ := STK.pop hS (by omega)
    refine hv4 (show -2147483648 ≤ a 18 (v 19 - 4).toNat ∧ a 18 (v 19 - 4).toNat ≤ 2147483647 from hB.2 18 _) (show -2147483648 ≤ a 18 (v 19 - 4 + 1).toNat ∧ a 18 (v 19 - 4 + 1).toNat ≤ 2147483647 from hB.2 18 _) (show -2147483648 ≤ a 18 (v 19 - 4 + 2).toNat ∧ a 18 (v 19 - 4 + 2).toNat ≤ 2147483647 from hB.2 18 _) (show -2147483648 ≤ a 18 (v 19 - 4 + 3).toNat ∧ a 18 (v 19 - 4 + 3).toNat ≤ 2147483647 from hB.2 18 _) (fun bb1 bb2 bb3 bb4 => ?_)
    refine m_aload_n (j := 0) C dX12_undo_13 rfl ?_
    refine m_dup C dX12_undo_14 rfl ?_
    refine m_get (k := 19) C dX12_undo_15 w6_78 (by decide) rfl ?_
    refine m_iconst C dX12_undo_18 ?_
    refine m_isub C dX12_undo_19 ?_
    refine m_put (k := 19) (z := (v 19) - 4) C dX12_undo_20 w6_78 (by decide) rfl rfl rfl ?_
    refine hv3 (show BX (va_up v 19 ((v 19) - 4)) a from hB.put (k := 19) (z := (v 19) - 4) (show (-2147483648) ≤ ((v 19) - 4) ∧ ((v 19) - 4) ≤ 2147483647 by omega)) (fp0.put (k := 19) (z := (v 19) - 4) rfl) (show TBL (va_up v 19 ((v 19) - 4)) a from TBL.put hT (k := 19) (z := (v 19) - 4) (by decide)) (fun bq1 fq1 pw1 => ?_)
    refine m_aload_n (j := 0) C dX12_undo_23 rfl ?_
    refine m_geta (k := 18) C dX12_undo_24 w6_77 (by decide) rfl ?_
    refine m_aload_n (j := 0) C dX12_undo_27 rfl ?_
    refine m_get (k := 19) C dX12_undo_28 w6_78 (by decide) rfl ?_
    refine m_st (st2 := [.int (iI ((v 19) - 4)), .ref (ad 18)]) rfl ?_
    refine m_iconst C dX12_undo_31 ?_
    refine m_iadd C dX12_undo_32 ?_
    refine m_ald18 C dX12_undo_33 (by omega) (by omega) (by omega) ?_
    have ra1 : (-2147483648) ≤ a 18 (((v 19) - 4) + 1).toNat ∧ a 18 (((v 19) - 4) + 1).toNat ≤ 2147483647 := bq1.2 18 ((((v 19) - 4) + 1).toNat)
    refine m_istore_n (lv2 := [(1, .int (iI (a 18 (((v 19) - 4) + 1).toNat))), (0, .ref h0)]) C dX12_undo_34 (by decide) rfl ?_
    refine m_aload_n (j := 1) C dX12_undo_35 rfl ?_
    refine m_geta (k := 18) C dX12_undo_36 w6_77 (by decide) rfl ?_
    refine m_aload_n (j := 1) C dX12_undo_39 rfl ?_
    refine m_get (k := 19) C dX12_undo_40 w6_78 (by decide) rfl ?_
    refine m_st (st2 := [.int (iI ((v 19) - 4)), .ref (ad 18)]) rfl ?_
    refine m_iconst C dX12_undo_43 ?_
    refine m_iadd C dX12_undo_44 ?_
    refine m_ald18 C dX12_undo_45 (by omega) (by omega) (by omega) ?_
    have ra2 : (-2147483648) ≤ a 18 (((v 19) - 4) + 2).toNat ∧ a 18 (((v 19) - 4) + 2).toNat ≤ 2147483647 := bq1.2 18 ((((v 19) - 4) + 2).toNat)
    refine m_istore_n (lv2 := [(2, .int (iI (a 18 (((v 19) - 4) + 2).toNat))), (1, .int (iI (a 18 (((v 19) - 4) + 1).toNat))), (0, .ref h0)]) C dX12_undo_46 (by decide) rfl ?_
    refine m_aload_n (j := 2) C dX12_undo_47 rfl ?_
    refine m_geta (k := 18) C dX12_undo_48 w6_77 (by decide) rfl ?_
    refine m_aload_n (j := 2) C dX12_undo_51 rfl ?_
    refine m_get (k := 19) C dX12_undo_52 w6_78 (by decide) rfl ?_
    refine m_st (st2 := [.int (iI ((v 19) - 4)), .ref (ad 18)]) rfl ?_
    refine m_iconst C dX12_undo_55 ?_
    refine m_iadd C dX12_undo_56 ?_
    refine m_ald18 C dX12_undo_57 (by omega) (by omega) (by omega) ?_
    have ra3 : (-2147483648) ≤ a 18 (((v 19) - 4) + 3).toNat ∧ a 18 (((v 19) - 4) + 3).toNat ≤ 2147483647 := bq1.2 18 ((((v 19) - 4) + 3).toNat)
    refine m_istore_n (lv2 := [(3, .int (iI (a 18 (((v 19) - 4) + 3).toNat))), (2, .int (iI (a 18 (((v 19) - 4) + 2).toNat))), (1, .int (iI (a 18 (((v 19) - 4) + 1).toNat))), (0, .ref h0)]) C dX12_undo_58 (by decide) rfl ?_
    refine m_aload_n (j := 3) C dX12_undo_59 rfl ?_
    refine m_geta (k := 18) C dX12_undo_60 w6_77 (by decide) rfl ?_
    refine m_aload_n (j := 3) C dX12_undo_63 rfl ?_
    refine m_get (k := 19) C dX12_undo_64 w6_78 (by decide) rfl ?_
    refine m_st (st2 := [.int (iI ((v 19) - 4)), .ref (ad 18)]) rfl ?_
    refine m_ald18 C dX12_undo_67 (by omega) (by omega) (by omega) ?_
    have ra4 : (-2147483648) ≤ a 18 ((v 19) - 4).toNat ∧ a 18 ((v 19) - 4).toNat ≤ 2147483647 := bq1.2 18 (((v 19) - 4).toNat)
    rcases (show (a 18 ((v 19) - 4).toNat) = 0 ∨ (a 18 ((v 19) - 4).toNat) = 1 ∨ (a 18 ((v 19) - 4).toNat) = 2 ∨ (a 18 ((v 19) - 4).toNat) = 3 ∨ ((a 18 ((v 19) - 4).toNat) < 0 ∨ 3 < (a 18 ((v 19) - 4).toNat)) by omega) with sw1 | sw1 | sw1 | sw1 | sw1
    · refine m_tabIn (tgt := 100) (off := 32) C (r32_c (lo := (-2147483648)) (hi := 2147483647) ra4.1 ra4.2 (by decide) (by decide)) dX12_undo_68 (by omega) (by omega) (by rw [sw1]; rfl) (by decide) ?_
      obtain ⟨q1, q2, q3⟩ := he.e0 sw1
      refine m_aload_n (j := 3) C dX12_undo_100 rfl ?_
      refine m_dup C dX12_undo_101 rfl ?_
      have rv2 : 0 ≤ v 4 ∧ v 4 ≤ 30 := bq1.1 4
      refine m_get (k := 4) C dX12_undo_102 w6_63 (by decide) rfl ?_
      refine m_st (st2 := [.int (iI (v 4)), .ref h0]) rfl ?_
      refine m_iconst C dX12_undo_105 ?_
      refine m_isub C dX12_undo_106 ?_
      refine m_put (k := 4) (z := (v 4) - 1) C dX12_undo_107 w6_63 (by decide) rfl rfl rfl ?_
      refine hv3 (show BX (va_up (va_up v 19 ((v 19) - 4)) 4 ((v 4) - 1)) a from bq1.put (k := 4) (z := (v 4) - 1) (show 0 ≤ ((v 4) - 1) ∧ ((v 4) - 1) ≤ 30 by omega)) (fq1.put (k := 4) (z := (v 4) - 1) rfl) (show STK ln (va_up (va_up v 19 ((v 19) - 4)) 4 ((v 4) - 1)) a from hpop _ _ rfl rfl q2.symm (fun j _ => by rw [q3])) (fun bq2 fq2 pw2 => ?_)
      have pw3 : TBL (va_up (va_up v 19 ((v 19) - 4)) 4 ((v 4) - 1)) a := TBL.le hT (by show v 4 - 1 ≤ v 4; omega) rfl rfl rfl rfl rfl (fun j => Int.le_refl _)
      refine m_goto (tgt := 200) C dX12_undo_110 (by decide) ?_
      refine m_aload_n (j := 3) C dX12_undo_200 rfl ?_
      refine m_iconst C dX12_undo_201 ?_
      refine m_call (mc2 := 0) (ms2 := 0) (As := [.int (iI 1)]) (rest := []) C (B_fine (x := 1) bq2 (by show -2147483648 ≤ (1 : Int) ∧ (1 : Int) ≤ 2147483647; omega)) dX12_undo_202 kV_X12_158 rfl ck_13 rfl (Nat.le_of_ble_eq_true rfl) ⟨Nat.le_of_ble_eq_true rfl, Nat.le_of_ble_eq_true rfl⟩ ⟨Nat.le_of_ble_eq_true rfl, Nat.le_of_ble_eq_true rfl⟩ (fun rh1 vh1 ah1 h1 => ?_)
      obtain ⟨f1, rfl, fn1, bn1, ex1⟩ := h1
      refine hv4 (fq2.call fn1 rfl rfl) (show STK ln vh1 ah1 from STK.fr pw2 fn1 rfl rfl) (show TBL vh1 ah1 from TBL.fr pw3 fn1 rfl rfl) (show f1 = (1 : Int) from ex1) (fun fq3 pw4 pw5 gf1 => ?_)
      refine m_st (st2 := [.int (iI f1)]) rfl ?_
      refine hv4 (show (-2147483648) ≤ vh1 19 ∧ vh1 19 ≤ 2147483647 from bn1.1 19) (show vh1 19 = (v 19) - 4 from fn1.1 19 rfl) (show 0 ≤ vh1 4 ∧ vh1 4 ≤ 30 from bn1.1 4) (show vh1 4 = (v 4) - 1 from fn1.1 4 rfl) (fun rv3 ve1 rv4 ve2 => ?_)
      exact n_iret C dX12_undo_205 rfl (Nat.le_of_ble_eq_true rfl) (Nat.le_of_ble_eq_true rfl) ⟨f1, rfl, fq3, bn1, ⟨pw5, pw4, (by show vh1 19 ≤ v 19 + 4; omega), Or.inr ⟨by omega, by omega, (by show vh1 19 = v 19 - 4; omega), (fq3.2 18 rfl), (fq3.2 6 rfl), (fq3.2 7 rfl), ⟨(fq3.2 8 rfl), (fq3.2 9 rfl), (fq3.2 12 rfl), (fq3.2 13 rfl), (fq3.2 14 rfl), (fq3.2 15 rfl)⟩, Or.inl ⟨by omega, (by show vh1 4 = v 4 - 1; omega), (fn1.2 5 rfl), (fn1.2 10 rfl), (fn1.2 11 rfl), (fn1.2 16 rfl), (fn1.2 17 rfl)⟩⟩⟩⟩
    · refine m_tabIn (tgt := 113) (off := 45) C (r32_c (lo := (-2147483648)) (hi := 2147483647) ra4.1 ra4.2 (by decide) (by decide)) dX12_undo_68 (by omega) (by omega) (by rw [sw1]; rfl) (by decide) ?_
      obtain ⟨q1, q2, q3⟩ := he.e1 sw1
      refine m_aload_n (j := 3) C dX12_undo_113 rfl ?_
      refine m_geta (k := 5) C dX12_undo_114 w6_64 (by decide) rfl ?_
      refine m_iload_n (j := 2) C dX12_undo_117 rfl ?_
      refine m_iconst C dX12_undo_118 ?_
      refine m_zast (k := 5) (w := 1) C dX12_undo_119 rfl rfl (by decide) (by omega) (by show _ < ((_ : Nat) : Int); simp only [mlen]; omega) (by decide) (by omega) ?_
      refine hv4 (show BX (va_up v 19 ((v 19) - 4)) (up2 a 5 (a 18 (((v 19) - 4) + 1).toNat).toNat 1) from bq1.set (k := 5) (i := (a 18 (((v 19) - 4) + 1).toNat).toNat) (z := 1) ⟨by decide, by decide⟩) (fq1.set (k := 5) (i := (a 18 (((v 19) - 4) + 1).toNat).toNat) (z := 1) rfl) (show TBL (va_up v 19 ((v 19) - 4)) (up2 a 5 (a 18 (((v 19) - 4) + 1).toNat).toNat 1) from TBL.set pw1 (k := 5) (i := (a 18 (((v 19) - 4) + 1).toNat).toNat) (z := 1) (by decide)) (show STK ln (va_up v 19 ((v 19) - 4)) (up2 a 5 (a 18 (((v 19) - 4) + 1).toNat).toNat 1) from hpop _ _ rfl (funext fun _ => up2_k (by decide)) q2.symm (fun j _ => by rw [q3]; exact up2_k (by decide))) (fun bq3 fq4 pw6 pw7 => ?_)
      refine m_goto (tgt := 200) C dX12_undo_120 (by decide) ?_
      refine m_aload_n (j := 3) C dX12_undo_200 rfl ?_
      refine m_iconst C dX12_undo_201 ?_
      refine m_call (mc2 := 0) (ms2 := 0) (As := [.int (iI 1)]) (rest := []) C (B_fine (x := 1) bq3 (by show -2147483648 ≤ (1 : Int) ∧ (1 : Int) ≤ 2147483647; omega)) dX12_undo_202 kV_X12_158 rfl ck_13 rfl (Nat.le_of_ble_eq_true rfl) ⟨Nat.le_of_ble_eq_true rfl, Nat.le_of_ble_eq_true rfl⟩ ⟨Nat.le_of_ble_eq_true rfl, Nat.le_of_ble_eq_true rfl⟩ (fun rh2 vh2 ah2 h2 => ?_)
      obtain ⟨f2, rfl, fn2, bn2, ex2⟩ := h2
      refine hv4 (fq4.call fn2 rfl rfl) (show TBL vh2 ah2 from TBL.fr pw6 fn2 rfl rfl) (show STK ln vh2 ah2 from STK.fr pw7 fn2 rfl rfl) (show f2 = (1 : Int) from ex2) (fun fq5 pw8 pw9 gf2 => ?_)
      refine m_st (st2 := [.int (iI f2)]) rfl ?_
      refine hv4 (show (-2147483648) ≤ vh2 19 ∧ vh2 19 ≤ 2147483647 from bn2.1 19) (show vh2 19 = (v 19) - 4 from fn2.1 19 rfl) (show 0 ≤ vh2 4 ∧ vh2 4 ≤ 30 from bn2.1 4) (show vh2 4 = v 4 from fn2.1 4 rfl) (fun rv5 ve3 rv6 ve4 => ?_)
      exact n_iret C dX12_undo_205 rfl (Nat.le_of_ble_eq_true rfl) (Nat.le_of_ble_eq_true rfl) ⟨f2, rfl, fq5, bn2, ⟨pw8, pw9, (by show vh2 19 ≤ v 19 + 4; omega), Or.inr ⟨by omega, by omega, (by show vh2 19 = v 19 - 4; omega), (fq5.2 18 rfl), (fq5.2 6 rfl), (fq5.2 7 rfl), ⟨(fq5.2 8 rfl), (fq5.2 9 rfl), (fq5.2 12 rfl), (fq5.2 13 rfl), (fq5.2 14 rfl), (fq5.2 15 rfl)⟩, Or.inr (Or.inl ⟨by omega, (by show vh2 4 = v 4; omega), (fn2.2 5 rfl).trans up2_va, ((fn2.2 10 rfl).trans (funext fun _ => up2_k (by decide))), ((fn2.2 11 rfl).trans (funext fun _ => up2_k (by decide))), ((fn2.2 16 rfl).trans (funext fun _ => up2_k (by decide))), ((fn2.2 17 rfl).trans (funext fun _ => up2_k (by decide)))⟩)⟩⟩⟩
    · refine m_tabIn (tgt := 123) (off := 55) C (r32_c (lo := (-2147483648)) (hi := 2147483647) ra4.1 ra4.2 (by decide) (by decide)) dX12_undo_68 (by omega) (by omega) (by rw [sw1]; rfl) (by decide) ?_
      obtain ⟨q1, q4, q2, q3⟩ := he.e2 sw1
      refine m_aload_n (j := 3) C dX12_undo_123 rfl ?_
      refine m_geta (k := 10) C dX12_undo_124 w6_69 (by decide) rfl ?_
      refine m_iload_n (j := 2) C dX12_undo_127 rfl ?_
      refine m_dup2 C dX12_undo_128 rfl rfl ?_
      refine m_ald (k := 10) C dX12_undo_129 rfl rfl (by decide) (by omega) (by show _ < ((_ : Nat) : Int); simp only [mlen]; omega) (by decide) ?_
      have ra5 : 0 ≤ a 10 (a 18 (((v 19) - 4) + 1).toNat).toNat ∧ a 10 (a 18 (((v 19) - 4) + 1).toNat).toNat ≤ 200 := bq1.2 10 ((a 18 (((v 19) - 4) + 1).toNat).toNat)
      refine m_iconst C dX12_undo_130 ?_
      refine m_isub C dX12_undo_131 ?_
      refine m_ast (k := 10) C dX12_undo_132 rfl rfl (by decide) (by omega) (by show _ < ((_ : Nat) : Int); simp only [mlen]; omega) (by decide) ?_
      refine hv2 (show BX (va_up v 19 ((v 19) - 4)) (up2 a 10 (a 18 (((v 19) - 4) + 1).toNat).toNat ((a 10 (a 18 (((v 19) - 4) + 1).toNat).toNat) - 1)) from bq1.set (k := 10) (i := (a 18 (((v 19) - 4) + 1).toNat).toNat) (z := (a 10 (a 18 (((v 19) - 4) + 1).toNat).toNat) - 1) (show 0 ≤ ((a 10 (a 18 (((v 19) - 4) + 1).toNat).toNat) - 1) ∧ ((a 10 (a 18 (((v 19) - 4) + 1).toNat).toNat) - 1) ≤ 200 by omega)) (fq1.set (k := 10) (i := (a 18 (((v 19) - 4) + 1).toNat).toNat) (z := (a 10 (a 18 (((v 19) - 4) + 1).toNat).toNat) - 1) rfl) (fun bq4 fq6 => ?_)
      have pw10 : STK ln (va_up v 19 ((v 19) - 4)) (up2 a 10 (a 18 (((v 19) - 4) + 1).toNat).toNat ((a 10 (a 18 (((v 19) - 4) + 1).toNat).toNat) - 1)) := hpop _ _ rfl (funext fun _ => up2_k (by decide)) q2.symm (fun j _ => by
          rw [q3, up2_if j]
          by_cases e : j = (a 18 (v 19 - 4 + 1).toNat).toNat
          · show (if _ then _ else _) = (if _ then _ else _); rw [if_pos e, if_pos e, e]
          · show (if _ then _ else _) = (if _ then _ else _); rw [if_neg e, if_neg e])
      have pw11 : TBL (va_up v 19 ((v 19) - 4)) (up2 a 10 (a 18 (((v 19) - 4) + 1).toNat).toNat ((a 10 (a 18 (((v 19) - 4) + 1).toNat).toNat) - 1)) := TBL.le hT (Int.le_refl (v 4)) (funext fun _ => up2_k (by decide)) (funext fun _ => up2_k (by decide)) (funext fun _ => up2_k (by decide)) (funext fun _ => up2_k (by decide)) (funext fun _ => up2_k (by decide)) (up2_le (by omega))
      refine m_goto (tgt := 200) C dX12_undo_133 (by decide) ?_
      refine m_aload_n (j := 3) C dX12_undo_200 rfl ?_
      refine m_iconst C dX12_undo_201 ?_
      refine m_call (mc2 := 0) (ms2 := 0) (As := [.int (iI 1)]) (rest := []) C (B_fine (x := 1) bq4 (by show -2147483648 ≤ (1 : Int) ∧ (1 : Int) ≤ 2147483647; omega)) dX12_undo_202 kV_X12_158 rfl ck_13 rfl (Nat.le_of_ble_eq_true rfl) ⟨Nat.le_of_ble_eq_true rfl, Nat.le_of_ble_eq_true rfl⟩ ⟨Nat.le_of_ble_eq_true rfl, Nat.le_of_ble_eq_true rfl⟩ (fun rh3 vh3 ah3 h3 => ?_)
      obtain ⟨f3, rfl, fn3, bn3, ex3⟩ := h3
      refine hv4 (fq6.call fn3 rfl rfl) (show STK ln vh3 ah3 from STK.fr pw10 fn3 rfl rfl) (show TBL vh3 ah3 from TBL.fr pw11 fn3 rfl rfl) (show f3 = (1 : Int) from ex3) (fun fq7 pw12 pw13 gf3 => ?_)
      refine m_st (st2 := [.int (iI f3)]) rfl ?_
      refine hv4 (show (-2147483648) ≤ vh3 19 ∧ vh3 19 ≤ 2147483647 from bn3.1 19) (show vh3 19 = (v 19) - 4 from fn3.1 19 rfl) (show 0 ≤ vh3 4 ∧ vh3 4 ≤ 30 from bn3.1 4) (show vh3 4 = v 4 from fn3.1 4 rfl) (fun rv7 ve5 rv8 ve6 => ?_)
      exact n_iret C dX12_undo_205 rfl (Nat.le_of_ble_eq_true rfl) (Nat.le_of_ble_eq_true rfl) ⟨f3, rfl, fq7, bn3, ⟨pw13, pw12, (by show vh3 19 ≤ v 19 + 4; omega), Or.inr ⟨by omega, by omega, (by show vh3 19 = v 19 - 4; omega), (fq7.2 18 rfl), (fq7.2 6 rfl), (fq7.2 7 rfl), ⟨(fq7.2 8 rfl), (fq7.2 9 rfl), (fq7.2 12 rfl), (fq7.2 13 rfl), (fq7.2 14 rfl), (fq7.2 15 rfl)⟩, Or.inr (Or.inr (Or.inl ⟨by omega, (by show vh3 4 = v 4; omega), ((fn3.2 5 rfl).trans (funext fun _ => up2_k (by decide))), (fn3.2 10 rfl).trans up2_va, ((fn3.2 11 rfl).trans (funext fun _ => up2_k (by decide))), ((fn3.2 16 rfl).trans (funext fun _ => up2_k (by decide))), ((fn3.2 17 rfl).trans (funext fun _ => up2_k (by decide)))⟩))⟩⟩⟩
    · refine m_tabIn (tgt := 136) (off := 68) C (r32_c (lo := (-2147483648)) (hi := 2147483647) ra4.1 ra4.2 (by decide) (by decide)) dX12_undo_68 (by omega) (by omega) (by rw [sw1]; rfl) (by decide) ?_
      obtain ⟨q1, q4, q2, q3⟩ := he.e3 sw1
      have b10 : 0 ≤ a 10 (a 18 (v 19 - 4 + 1).toNat).toNat ∧ a 10 (a 18 (v 19 - 4 + 1).toNat).toNat ≤ 200 := hB.2 10 _
      refine m_aload_n (j := 3) C dX12_undo_136 rfl ?_
      refine m_geta (k := 11) C dX12_undo_137 w6_70 (by decide) rfl ?_
      refine m_sipush (z := 200) C dX12_undo_140 (by decide) ?_
      refine m_iload_n (j := 2) C dX12_undo_143 rfl ?_
      refine m_imul C dX12_undo_144 ?_
      refine m_iload_n (j := 1) C dX12_undo_145 rfl ?_
      refine m_iadd C dX12_undo_146 ?_
      refine m_iload_n (j := 0) C dX12_undo_147 rfl ?_
      refine m_ast (k := 11) C dX12_undo_148 rfl rfl (by decide) (by omega) (by show _ < ((_ : Nat) : Int); simp only [mlen]; omega) (by decide) ?_
      refine hv4 (show BX (va_up v 19 ((v 19) - 4)) (up2 a 11 ((200 * (a 18 (((v 19) - 4) + 1).toNat)) + (a 18 (((v 19) - 4) + 2).toNat)).toNat (a 18 (((v 19) - 4) + 3).toNat)) from bq1.set (k := 11) (i := ((200 * (a 18 (((v 19) - 4) + 1).toNat)) + (a 18 (((v 19) - 4) + 2).toNat)).toNat) (z := a 18 (((v 19) - 4) + 3).toNat) (show (-2147483648) ≤ (a 18 (((v 19) - 4) + 3).toNat) ∧ (a 18 (((v 19) - 4) + 3).toNat) ≤ 2147483647 by omega)) (fq1.set (k := 11) (i := ((200 * (a 18 (((v 19) - 4) + 1).toNat)) + (a 18 (((v 19) - 4) + 2).toNat)).toNat) (z := a 18 (((v 19) - 4) + 3).toNat) rfl) (show TBL (va_up v 19 ((v 19) - 4)) (up2 a 11 ((200 * (a 18 (((v 19) - 4) + 1).toNat)) + (a 18 (((v 19) - 4) + 2).toNat)).toNat (a 18 (((v 19) - 4) + 3).toNat)) from TBL.set pw1 (k := 11) (i := ((200 * (a 18 (((v 19) - 4) + 1).toNat)) + (a 18 (((v 19) - 4) + 2).toNat)).toNat) (z := a 18 (((v 19) - 4) + 3).toNat) (by decide)) (show STK ln (va_up v 19 ((v 19) - 4)) (up2 a 11 ((200 * (a 18 (((v 19) - 4) + 1).toNat)) + (a 18 (((v 19) - 4) + 2).toNat)).toNat (a 18 (((v 19) - 4) + 3).toNat)) from hpop _ _ rfl (funext fun _ => up2_k (by decide)) q2.symm (fun j _ => by rw [q3]; exact up2_k (by decide))) (fun bq5 fq8 pw14 pw15 => ?_)
      refine m_goto (tgt := 200) C dX12_undo_149 (by decide) ?_
      refine m_aload_n (j := 3) C dX12_undo_200 rfl ?_
      refine m_iconst C dX12_undo_201 ?_
      refine m_call (mc2 := 0) (ms2 := 0) (As := [.int (iI 1)]) (rest := []) C (B_fine (x := 1) bq5 (by show -2147483648 ≤ (1 : Int) ∧ (1 : Int) ≤ 2147483647; omega)) dX12_undo_202 kV_X12_158 rfl ck_13 rfl (Nat.le_of_ble_eq_true rfl) ⟨Nat.le_of_ble_eq_true rfl, Nat.le_of_ble_eq_true rfl⟩ ⟨Nat.le_of_ble_eq_true rfl, Nat.le_of_ble_eq_true rfl⟩ (fun rh4 vh4 ah4 h4 => ?_)
      obtain ⟨f4, rfl, fn4, bn4, ex4⟩ := h4
      refine hv4 (fq8.call fn4 rfl rfl) (show TBL vh4 ah4 from TBL.fr pw14 fn4 rfl rfl) (show STK ln vh4 ah4 from STK.fr pw15 fn4 rfl rfl) (show f4 = (1 : Int) from ex4) (fun fq9 pw16 pw17 gf4 => ?_)
      refine m_st (st2 := [.int (iI f4)]) rfl ?_
      refine hv4 (show (-2147483648) ≤ vh4 19 ∧ vh4 19 ≤ 2147483647 from bn4.1 19) (show vh4 19 = (v 19) - 4 from fn4.1 19 rfl) (show 0 ≤ vh4 4 ∧ vh4 4 ≤ 30 from bn4.1 4) (show vh4 4 = v 4 from fn4.1 4 rfl) (fun rv9 ve7 rv10 ve8 => ?_)
      exact n_iret C dX12_undo_205 rfl (Nat.le_of_ble_eq_true rfl) (Nat.le_of_ble_eq_true rfl) ⟨f4, rfl, fq9, bn4, ⟨pw16, pw17, (by show vh4 19 ≤ v 19 + 4; omega), Or.inr ⟨by omega, by omega, (by show vh4 19 = v 19 - 4; omega), (fq9.2 18 rfl), (fq9.2 6 rfl), (fq9.2 7 rfl), ⟨(fq9.2 8 rfl), (fq9.2 9 rfl), (fq9.2 12 rfl), (fq9.2 13 rfl), (fq9.2 14 rfl), (fq9.2 15 rfl)⟩, Or.inr (Or.inr (Or.inr (Or.inl ⟨by omega, (by show vh4 4 = v 4; omega), ((fn4.2 5 rfl).trans (funext fun _ => up2_k (by decide))), ((fn4.2 10 rfl).trans (funext fun _ => up2_k (by decide))), (fn4.2 11 rfl).trans up2_va, ((fn4.2 16 rfl).trans (funext fun _ => up2_k (by decide))), ((fn4.2 17 rfl).trans (funext fun _ => up2_k (by decide)))⟩)))⟩⟩⟩
    · refine m_tabOut (tgt := 152) C (r32_c (lo := (-2147483648)) (hi := 2147483647) ra4.1 ra4.2 (by decide) (by decide)) dX12_undo_68 sw1 (by decide) ?_
      obtain ⟨q0, q1, q4, q2, q3⟩ := he.e4 sw1
      refine m_aload_n (j := 3) C dX12_undo_152 rfl ?_
      refine m_geta (k := 16) C dX12_undo_153 w6_75 (by decide) rfl ?_
      refine m_iload_n (j := 2) C dX12_undo_156 rfl ?_
      refine m_iload_n (j := 1) C dX12_undo_157 rfl ?_
      refine m_ast (k := 16) C dX12_undo_158 rfl rfl (by decide) (by omega) (by show _ < ((_ : Nat) : Int); simp only [mlen]; omega) (by decide) ?_
      refine hv4 (show BX (va_up v 19 ((v 19) - 4)) (up2 a 16 (a 18 (((v 19) - 4) + 1).toNat).toNat (a 18 (((v 19) - 4) + 2).toNat)) from bq1.set (k := 16) (i := (a 18 (((v 19) - 4) + 1).toNat).toNat) (z := a 18 (((v 19) - 4) + 2).toNat) (show 0 ≤ (a 18 (((v 19) - 4) + 2).toNat) ∧ (a 18 (((v 19) - 4) + 2).toNat) ≤ 4 by omega)) (fq1.set (k := 16) (i := (a 18 (((v 19) - 4) + 1).toNat).toNat) (z := a 18 (((v 19) - 4) + 2).toNat) rfl) (show TBL (va_up v 19 ((v 19) - 4)) (up2 a 16 (a 18 (((v 19) - 4) + 1).toNat).toNat (a 18 (((v 19) - 4) + 2).toNat)) from TBL.set pw1 (k := 16) (i := (a 18 (((v 19) - 4) + 1).toNat).toNat) (z := a 18 (((v 19) - 4) + 2).toNat) (by decide)) (show STK ln (va_up v 19 ((v 19) - 4)) (up2 a 16 (a 18 (((v 19) - 4) + 1).toNat).toNat (a 18 (((v 19) - 4) + 2).toNat)) from hpop _ _ rfl (funext fun _ => up2_k (by decide)) q2.symm (fun j _ => by rw [q3]; exact up2_k (by decide))) (fun bq6 fq10 pw18 pw19 => ?_)
      refine m_iconst C dX12_undo_159 ?_
      refine m_istore (lv2 := [(4, .int (iI 0)), (3, .int (iI (a 18 (((v 19) - 4) + 3).toNat))), (2, .int (iI (a 18 (((v 19) - 4) + 2).toNat))), (1, .int (iI (a 18 (((v 19) - 4) + 1).toNat))), (0, .ref h0)]) C dX12_undo_160 (by decide) rfl ?_
      have Lp1 : ∀ (nn : Nat) (k : Int) (vb1 : Nat → Int) (ab1 : Nat → Nat → Int), 5 - k < (nn : Int) → BX vb1 ab1 → fr [0, 1, 4, 19] [5, 10, 11, 16, 17] v a vb1 ab1 → (0 ≤ k ∧ k ≤ 4) → (vb1 19 = v 19 - 4) → (vb1 4 = v 4) → (ab1 5 = a 5) → (ab1 10 = a 10) → (ab1 11 = a 11) → (ab1 16 = va_up (a 16) (a 18 (v 19 - 4 + 1).toNat).toNat (a 18 (v 19 - 4 + 2).toNat)) → (FIL (ab1 17) (a 17) (4 * a 18 (v 19 - 4 + 1).toNat).toNat k.toNat 4 (fun k => UPK (a 18 (v 19 - 4 + 3).toNat) (a 18 (v 19 - 4 + 2).toNat) (k : Int))) → (k ≤ a 18 (v 19 - 4 + 2).toNat) → (TBL vb1 ab1) → (STK ln vb1 ab1) → mw p l e (rmq 1 0 0) s m args below meth c G A 5 (MQ below (Qm G A (fun rq Lq Eq => ∃ (adq lnq : Nat → Nat) (vq : Nat → Int) (aq : Nat → Nat → Int), mI G h0 adq lnq vq aq Lq Eq ∧ (fun r ln2 v2 a2 => ∃ f : Int, r = some (.int (iI f)) ∧ fr [0, 1, 4, 19] [5, 10, 11, 16, 17] v a v2 a2 ∧ BX v2 a2 ∧ (TBL v2 a2 ∧ STK ln2 v2 a2 ∧ v2 19 ≤ v 19 + 4 ∧ ((v 19 = 0 ∧ f = 0 ∧ TSAME v a v2 a2) ∨ (v 19 ≠ 0 ∧ f = 1 ∧ TUND v a v2 a2)))) rq lnq vq aq)) args s 0 0 A) h0 ad ln vb1 ab1 0 0 162 [(4, .int (iI k)), (3, .int (iI (a 18 (((v 19) - 4) + 3).toNat))), (2, .int (iI (a 18 (((v 19) - 4) + 2).toNat))), (1, .int (iI (a 18 (((v 19) - 4) + 1).toNat))), (0, .ref h0)] [] := by
        intro nn
        induction nn with
        | zero =>
          intro k vb1 ab1 hm bxb1 fpb1 hk h19k h4k hu5 hu10 hu11 hu16 hu17 hkc hTa hSa
          exact absurd hm (by omega)
        | succ nn ih1 =>
          intro k vb1 ab1 hm bxb1 fpb1 hk h19k h4k hu5 hu10 hu11 hu16 hu17 hkc hTa hSa
          refine m_iload (j := 0) C dX12_undo_162 rfl ?_
          refine m_iload_n (j := 2) C dX12_undo_164 rfl ?_
          refine m_icmp_ge (tgt := 200) C (r32_c (lo := 0) (hi := 4) hk.1 hk.2 (by decide) (by decide)) (r32_c (lo := (-2147483648)) (hi := 2147483647) ra2.1 ra2.2 (by decide) (by decide)) dX12_undo_165 (by decide) (fun c2 => ?_) (fun c2 => ?_)
          · refine m_aload_n (j := 4) C dX12_undo_200 rfl ?_
            refine m_iconst C dX12_undo_201 ?_
            refine m_call (mc2 := 0) (ms2 := 0) (As := [.int (iI 1)]) (rest := []) C (B_fine (x := 1) bxb1 (by show -2147483648 ≤ (1 : Int) ∧ (1 : Int) ≤ 2147483647; omega)) dX12_undo_202 kV_X12_158 rfl ck_13 rfl (Nat.le_of_ble_eq_true rfl) ⟨Nat.le_of_ble_eq_true rfl, Nat.le_of_ble_eq_true rfl⟩ ⟨Nat.le_of_ble_eq_true rfl, Nat.le_of_ble_eq_true rfl⟩ (fun rh5 vh5 ah5 h5 => ?_)
            obtain ⟨f5, rfl, fn5, bn5, ex5⟩ := h5
            refine hv4 (fpb1.call fn5 rfl rfl) (show TBL vh5 ah5 from TBL.fr hTa fn5 rfl rfl) (show STK ln vh5 ah5 from STK.fr hSa fn5 rfl rfl) (show f5 = (1 : Int) from ex5) (fun fq11 pw20 pw21 gf5 => ?_)
            refine m_st (st2 := [.int (iI f5)]) rfl ?_
            refine hv4 (show (-2147483648) ≤ vh5 19 ∧ vh5 19 ≤ 2147483647 from bn5.1 19) (show vh5 19 = vb1 19 from fn5.1 19 rfl) (show 0 ≤ vh5 4 ∧ vh5 4 ≤ 30 from bn5.1 4) (show vh5 4 = vb1 4 from fn5.1 4 rfl) (fun rv11 ve9 rv12 ve10 => ?_)
            exact n_iret C dX12_undo_205 rfl (Nat.le_of_ble_eq_true rfl) (Nat.le_of_ble_eq_true rfl) ⟨f5, rfl, fq11, bn5, ⟨pw20, pw21, (by show vh5 19 ≤ v 19 + 4; omega), Or.inr ⟨by omega, by omega, (by show vh5 19 = v 19 - 4; omega), (fq11.2 18 rfl), (fq11.2 6 rfl), (fq11.2 7 rfl), ⟨(fq11.2 8 rfl), (fq11.2 9 rfl), (fq11.2 12 rfl), (fq11.2 13 rfl), (fq11.2 14 rfl), (fq11.2 15 rfl)⟩, Or.inr (Or.inr (Or.inr (Or.inr ⟨by omega, (by show vh5 4 = v 4; omega), ((fn5.2 5 rfl).trans (hu5)), ((fn5.2 10 rfl).trans (hu10)), ((fn5.2 11 rfl).trans (hu11)), (fn5.2 16 rfl).trans hu16, (hu17.n (by omega)).cg (fn5.2 17 rfl)⟩)))⟩⟩⟩
          · refine m_aload_n (j := 4) C dX12_undo_168 rfl ?_
            refine m_geta (k := 17) C dX12_undo_169 w6_76 (by decide) rfl ?_
            refine m_iconst C dX12_undo_172 ?_
            refine m_iload_n (j := 3) C dX12_undo_173 rfl ?_
            refine m_imul C dX12_undo_174 ?_
            refine m_iload (j := 0) C dX12_undo_175 rfl ?_
            refine m_iadd C dX12_undo_177 ?_
            refine m_iload_n (j := 1) C dX12_undo_178 rfl ?_
            refine m_bipush (z := 8) C dX12_undo_179 (by decide) ?_
            refine m_iload_n (j := 2) C dX12_undo_181 rfl ?_
            refine m_iconst C dX12_undo_182 ?_
            refine m_isub C dX12_undo_183 ?_
            refine m_iload (j := 0) C dX12_undo_184 rfl ?_
            refine m_isub C dX12_undo_186 ?_
            refine m_imul C dX12_undo_187 ?_
            obtain ⟨zz1, hzz1, ezz1⟩ := iI_of (iI (a 18 (((v 19) - 4) + 3).toNat) >>> (iI (8 * (((a 18 (((v 19) - 4) + 2).toNat) - 1) - k)) &&& 31))
            refine m_ishr (w := iI zz1) C dX12_undo_188 ezz1 ?_
            refine m_sipush (z := 255) C dX12_undo_189 (by decide) ?_
            obtain ⟨zz2, hzz2, ezz2⟩ := iI_of (iI zz1 &&& iI 255)
            refine m_iand (w := iI zz2) C dX12_undo_192 ezz2 ?_
            refine m_ast (k := 17) C dX12_undo_193 rfl rfl (by decide) (by omega) (by show _ < ((_ : Nat) : Int); simp only [mlen]; omega) (by decide) ?_
            refine hv4 (show BX vb1 (up2 ab1 17 ((4 * (a 18 (((v 19) - 4) + 1).toNat)) + k).toNat zz2) from bxb1.set (k := 17) (i := ((4 * (a 18 (((v 19) - 4) + 1).toNat)) + k).toNat) (z := zz2) (show (-2147483648) ≤ zz2 ∧ zz2 ≤ 2147483647 by omega)) (fpb1.set (k := 17) (i := ((4 * (a 18 (((v 19) - 4) + 1).toNat)) + k).toNat) (z := zz2) rfl) (show TBL vb1 (up2 ab1 17 ((4 * (a 18 (((v 19) - 4) + 1).toNat)) + k).toNat zz2) from TBL.set hTa (k := 17) (i := ((4 * (a 18 (((v 19) - 4) + 1).toNat)) + k).toNat) (z := zz2) (by decide)) (show STK ln vb1 (up2 ab1 17 ((4 * (a 18 (((v 19) - 4) + 1).toNat)) + k).toNat zz2) from STK.set hSa (k := 17) (i := ((4 * (a 18 (((v 19) - 4) + 1).toNat)) + k).toNat) (z := zz2) (by decide)) (fun bq7 fq12 pw22 pw23 => ?_)
            refine m_iinc (z := k) (j := 0) (lv2 := [(4, .int (iI (k + 1))), (3, .int (iI (a 18 (((v 19) - 4) + 3).toNat))), (2, .int (iI (a 18 (((v 19) - 4) + 2).toNat))), (1, .int (iI (a 18 (((v 19) - 4) + 1).toNat))), (0, .ref h0)]) C dX12_undo_194 rfl (by decide) rfl ?_
            refine m_goto (tgt := 162) C dX12_undo_197 (by decide) ?_
            refine hv2 (show (-2147483648) ≤ vb1 19 ∧ vb1 19 ≤ 2147483647 from bq7.1 19) (show 0 ≤ vb1 4 ∧ vb1 4 ≤ 30 from bq7.1 4) (fun rv13 rv14 => ?_)
            refine m_lv (lv2 := [(4, .int (iI (k + 1))), (3, .int (iI (a 18 (((v 19) - 4) + 3).toNat))), (2, .int (iI (a 18 (((v 19) - 4) + 2).toNat))), (1, .int (iI (a 18 (((v 19) - 4) + 1).toNat))), (0, .ref h0)]) [0, 1, 2, 3, 4] rfl ?_
            exact ih1  (k + 1) _ _ (by omega) bq7 fq12 (by omega) (by show (vb1 19) = v 19 - 4; omega) (by show (vb1 4) = v 4; omega) ((funext fun _ => up2_k (by decide)).trans hu5) ((funext fun _ => up2_k (by decide)).trans hu10) ((funext fun _ => up2_k (by decide)).trans hu11) ((funext fun _ => up2_k (by decide)).trans hu16) (by rw [up2_va]; exact hu17.step (by omega) (by rw [Int.toNat_of_nonneg (by omega)]; exact UPK.of ezz1 ezz2 hzz2 rfl) (by omega) (by omega)) (by omega) pw22 pw23
      have rv15 : 0 ≤ v 4 ∧ v 4 ≤ 30 := bq6.1 4
      refine m_lv (lv2 := [(4, .int (iI 0)), (3, .int (iI (a 18 (((v 19) - 4) + 3).toNat))), (2, .int (iI (a 18 (((v 19) - 4) + 2).toNat))), (1, .int (iI (a 18 (((v 19) - 4) + 1).toNat))), (0, .ref h0)]) [0, 1, 2, 3, 4] rfl ?_
      exact Lp1 6 0 _ _ (by omega) bq6 fq10 (by omega) (by show ((v 19) - 4) = v 19 - 4; omega) (by show (v 4) = v 4; omega) (funext fun _ => up2_k (by decide)) (funext fun _ => up2_k (by decide)) (funext fun _ => up2_k (by decide)) up2_va (FIL.zero (funext fun _ => up2_k (by decide)) rfl) (by omega) pw18 pw19
  · refine m_aload_n (j := 0) C dX12_undo_7 rfl ?_
    refine m_iconst C dX12_undo_8 ?_
    refine m_call (mc2 := 0) (ms2 := 0) (As := [.int (iI 0)]) (rest := []) C (B_fine (x := 0) hB (by show -2147483648 ≤ (0 : Int) ∧ (0 : Int) ≤ 2147483647; omega)) dX12_undo_9 kV_X12_158 rfl ck_13 rfl (Nat.le_of_ble_eq_true rfl) ⟨Nat.le_of_ble_eq_true rfl, Nat.le_of_ble_eq_true rfl⟩ ⟨Nat.le_of_ble_eq_true rfl, Nat.le_of_ble_eq_true rfl⟩ (fun rh6 vh6 ah6 h6 => ?_)
    obtain ⟨f6, rfl, fn6, bn6, ex6⟩ := h6
    refine hv4 (fp0.call fn6 rfl rfl) (show TBL vh6 ah6 from TBL.fr hT fn6 rfl rfl) (show STK ln vh6 ah6 from STK.fr hS fn6 rfl rfl) (show f6 = (0 : Int) from ex6) (fun fq13 pw24 pw25 gf6 => ?_)
    refine m_st (st2 := [.int (iI f6)]) rfl ?_
    refine hv4 (show (-2147483648) ≤ vh6 19 ∧ vh6 19 ≤ 2147483647 from bn6.1 19) (show vh6 19 = v 19 from fn6.1 19 rfl) (show 0 ≤ vh6 4 ∧ vh6 4 ≤ 30 from bn6.1 4) (show vh6 4 = v 4 from fn6.1 4 rfl) (fun rv16 ve11 rv17 ve12 => ?_)
    exact n_iret C dX12_undo_12 rfl (Nat.le_of_ble_eq_true rfl) (Nat.le_of_ble_eq_true rfl) ⟨f6, rfl, fq13, bn6, ⟨pw24, pw25, (by show vh6 19 ≤ v 19 + 4; omega), Or.inl ⟨by omega, by omega, (by show vh6 4 = v 4; omega), (fn6.2 5 rfl), (fq13.2 6 rfl), (fq13.2 7 rfl), (fn6.2 10 rfl), (by show vh6 19 = v 19; omega), (fq13.2 18 rfl), (fn6.2 11 rfl), ⟨(fq13.2 8 rfl), (fq13.2 9 rfl), (fq13.2 12 rfl), (fq13.2 13 rfl), (fq13.2 14 rfl), (fq13.2 15 rfl), (fn6.2 16 rfl), (fn6.2 17 rfl)⟩⟩⟩⟩
