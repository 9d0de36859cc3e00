set_option maxHeartbeats 4000000 in
set_option maxRecDepth 100000 in
theorem Lp_cut {p : Program} {l : Launch} {e : Env} {s : State} {m : MethodId} {args : Array Value} {below : List Frame} {meth : Method} {c : Code} {G : GT} {A : Nat → Prop} {h0 : Nat} {ad ln : Nat → Nat} {v0 : Nat → Int} {a0 : Nat → Nat → Int} {l0 n1 : Int} (hl : 0 ≤ l0 ∧ l0 < 200) (hn : 0 ≤ n1 ∧ n1 ≤ 200) (C : Cq p s m args meth c cX12_cut yX12_cut (some .int) G A 4) : ∀ (n : Nat) (k : Int) (v : Nat → Int) (a : Nat → Nat → Int), 201 - k < (n : Int) → (0 ≤ k ∧ k ≤ 200) → (∀ j, v j = v0 j) → (∀ j, j ≠ 35 → a j = a0 j) → RG v a → mw p l e (rmq 2 0 0) s m args below meth c G A 4 (MQ below (Qm G A (fun rq Lq Eq => ∃ (vq : Nat → Int) (aq : Nat → Nat → Int), mI G h0 ad ln vq aq Lq Eq ∧ (fun r v2 a2 => (∀ j, j ≠ 0 → j ≠ 1 → v2 j = v0 j) ∧ (∀ j, j ≠ 34 → j ≠ 35 → a2 j = a0 j) ∧ (∀ i, a2 34 i = a0 34 i ∨ (-1 ≤ a2 34 i ∧ a2 34 i ≤ 200)) ∧ RG v2 a2) rq vq aq)) args s 0 0 A) h0 ad ln v a 0 0 49 [(3, .int (iI k)), (0, .ref h0), (1, .int (iI l0)), (2, .int (iI n1))] [] := by
  intro n
  induction n with
  | zero =>
    intro k  v a hm hk hv ha hr
    exact absurd hm (by omega)
  | succ n ih =>
    intro k  v a hm hk hv ha hr
    refine m_iload_n (j := 0) C dX12_cut_49 rfl ?_
    refine m_iload_n (j := 3) C dX12_cut_50 rfl ?_
    refine m_icmp_ge (tgt := 73) C ⟨by omega, by omega⟩ ⟨by omega, by omega⟩ dX12_cut_51 (by decide) (fun c1 => ?_) (fun c1 => ?_)
    · refine m_aload_n (j := 1) C dX12_cut_73 rfl ?_
      refine m_geta (k := 34) C dX12_cut_74 w6_93 (by decide) rfl ?_
      refine m_iload_n (j := 2) C dX12_cut_77 rfl ?_
      refine m_iload_n (j := 3) C dX12_cut_78 rfl ?_
      refine m_ast (k := 34) C dX12_cut_79 rfl rfl (by decide) (by omega) (by show _ < ((_ : Nat) : Int); simp only [mlen]; omega) (by decide) ?_
      refine m_aload_n (j := 1) C dX12_cut_80 rfl ?_
      refine m_iload_n (j := 3) C dX12_cut_81 rfl ?_
      refine m_call (mc2 := 0) (ms2 := 0) (As := [.int (iI n1)]) (rest := []) C (M_fine (x := n1)) dX12_cut_82 kV_X12_158 rfl ck_13 rfl (Nat.le_of_ble_eq_true rfl) ⟨Nat.le_of_ble_eq_true rfl, Nat.le_of_ble_eq_true rfl⟩ ⟨Nat.le_of_ble_eq_true rfl, Nat.le_of_ble_eq_true rfl⟩ (fun rh1 vh1 ah1 h1 => ?_)
      obtain ⟨rfl, rfl, rfl⟩ := h1
      refine m_st (st2 := [.int (iI n1)]) rfl ?_
      exact m_iret C dX12_cut_85 rfl (Nat.le_of_ble_eq_true rfl) (Nat.le_of_ble_eq_true rfl) ⟨fun j n0 n1 => by simp [va_up, n0, n1, hv j], fun j j1 j2 => (funext fun i => up2_k j1).trans (ha j j2), fun i => by unfold up2; rw [if_pos rfl]; split; exact Or.inr (by omega); exact Or.inl (congrFun (ha 34 (by decide)) i), (((hr.set ⟨by omega, by omega⟩).put ⟨by decide, by decide⟩).put ⟨by decide, by decide⟩)⟩
    · refine m_aload_n (j := 1) C dX12_cut_54 rfl ?_
      refine m_geta (k := 35) C dX12_cut_55 w6_94 (by decide) rfl ?_
      refine m_sipush (z := 200) C dX12_cut_58 (by decide) ?_
      refine m_iload_n (j := 2) C dX12_cut_61 rfl ?_
      refine m_imul C dX12_cut_62 ?_
      refine m_iload_n (j := 0) C dX12_cut_63 rfl ?_
      refine m_iadd C dX12_cut_64 ?_
      refine m_iconst C dX12_cut_65 ?_
      refine m_ast (k := 35) C dX12_cut_66 rfl rfl (by decide) (by omega) (by show _ < ((_ : Nat) : Int); simp only [mlen]; omega) (by decide) ?_
      refine m_iinc (z := k) (j := 0) (lv2 := [(3, .int (iI (k + 1))), (0, .ref h0), (1, .int (iI l0)), (2, .int (iI n1))]) C dX12_cut_67 rfl (by decide) rfl ?_
      refine m_goto (tgt := 49) C dX12_cut_70 (by decide) ?_
      refine m_lv (lv2 := [(3, .int (iI (k + 1))), (0, .ref h0), (1, .int (iI l0)), (2, .int (iI n1))]) [0, 1, 2, 3] rfl ?_
      exact ih (k + 1) _ _ (by omega) (by omega) hv (fun j hj => (funext fun i => up2_k hj).trans (ha j hj)) (hr.set ⟨by decide, by decide⟩)
set_option maxHeartbeats 4000000 in
set_option maxRecDepth 100000 in
theorem M_cut {l : Launch} {G : GT} {h0 : Nat} {ad ln : Nat → Nat} {v : Nat → Int} {a : Nat → Nat → Int} {l0 n1 : Int} (hR : RG v a) (hl : R32 l0) (hn : R32 n1) (hI : Iln v a) : Mm l G yX12_cut cX12_cut 4 (some .int) 2 [.int (iI l0), .int (iI n1)] h0 ad ln v a 0 0 (fun r v2 a2 => (∀ j, j ≠ 0 → j ≠ 1 → v2 j = v j) ∧ (∀ j, j ≠ 34 → j ≠ 35 → a2 j = a j) ∧ (∀ i, a2 34 i = a 34 i ∨ (-1 ≤ a2 34 i ∧ a2 34 i ≤ 200)) ∧ RG v2 a2) := by
  refine Mm.mk (by decide) (Nat.le_of_ble_eq_true rfl) ?_
  intro p e s m args below meth c A C
  have hI1 := hI.1
  have hI2 := hI.2 l0.toNat
  refine m_iload_n (j := 2) C dX12_cut_0 rfl ?_
  refine m_sipush (z := 200) C dX12_cut_1 (by decide) ?_
  refine m_icmp_le (tgt := 14) C ⟨by omega, by omega⟩ ⟨by decide, by decide⟩ dX12_cut_4 (by decide) (fun c1 => ?_) (fun c1 => ?_)
  · refine m_iload_n (j := 2) C dX12_cut_14 rfl ?_
    refine m_if_ge (tgt := 24) C ⟨by omega, by omega⟩ dX12_cut_15 (by decide) (fun c2 => ?_) (fun c2 => ?_)
    · refine m_aload_n (j := 0) C dX12_cut_24 rfl ?_
      refine m_iload_n (j := 1) C dX12_cut_25 rfl ?_
      refine m_call (mc2 := 0) (ms2 := 0) (As := [.int (iI l0)]) (rest := []) C (M_lineFault (l0 := l0) hR ⟨by omega, by omega⟩ hI) dX12_cut_26 kV_X12_294 rfl ck_13 rfl (Nat.le_of_ble_eq_true rfl) ⟨Nat.le_of_ble_eq_true rfl, Nat.le_of_ble_eq_true rfl⟩ ⟨Nat.le_of_ble_eq_true rfl, Nat.le_of_ble_eq_true rfl⟩ (fun rh1 vh1 ah1 h1 => ?_)
      obtain ⟨f1, rfl, hf1, rfl, rfl⟩ := h1
      refine m_st (st2 := [.int (iI f1)]) rfl ?_
      refine m_if_le (tgt := 42) C ⟨by omega, by omega⟩ dX12_cut_29 (by decide) (fun c3 => ?_) (fun c3 => ?_)
      · refine m_aload_n (j := 0) C dX12_cut_42 rfl ?_
        refine m_geta (k := 34) C dX12_cut_43 w6_93 (by decide) rfl ?_
        refine m_iload_n (j := 1) C dX12_cut_46 rfl ?_
        refine m_ald (k := 34) C dX12_cut_47 rfl rfl (by decide) (by omega) (by show _ < ((_ : Nat) : Int); simp only [mlen]; omega) (by decide) ?_
        have ra1 := hR.2 34 (l0.toNat)
        refine m_istore_n (lv2 := [(3, .int (iI (a 34 l0.toNat))), (0, .ref h0), (1, .int (iI l0)), (2, .int (iI n1))]) C dX12_cut_48 (by decide) rfl ?_
        refine m_lv (lv2 := [(3, .int (iI (a 34 l0.toNat))), (0, .ref h0), (1, .int (iI l0)), (2, .int (iI n1))]) [0, 1, 2, 3] rfl ?_
        exact Lp_cut (by omega) (by omega) C 202 (a 34 l0.toNat) _ _ (by omega) (by omega) (fun j => rfl) (fun j hj => rfl) hR
      · refine m_aload_n (j := 0) C dX12_cut_32 rfl ?_
        refine m_aload_n (j := 0) C dX12_cut_33 rfl ?_
        refine m_iload_n (j := 1) C dX12_cut_34 rfl ?_
        refine m_call (mc2 := 0) (ms2 := 0) (As := [.int (iI l0)]) (rest := [.ref h0]) C (M_lineFault (l0 := l0) hR ⟨by omega, by omega⟩ hI) dX12_cut_35 kV_X12_294 rfl ck_13 rfl (Nat.le_of_ble_eq_true rfl) ⟨Nat.le_of_ble_eq_true rfl, Nat.le_of_ble_eq_true rfl⟩ ⟨Nat.le_of_ble_eq_true rfl, Nat.le_of_ble_eq_true rfl⟩ (fun rh2 vh2 ah2 h2 => ?_)
        obtain ⟨f2, rfl, hf2, rfl, rfl⟩ := h2
        refine m_st (st2 := [.int (iI f2), .ref h0]) rfl ?_
        refine m_call (mc2 := 0) (ms2 := 0) (As := [.int (iI f2)]) (rest := []) C (M_bad (x := f2)) dX12_cut_38 kV_X12_154 rfl ck_13 rfl (Nat.le_of_ble_eq_true rfl) ⟨Nat.le_of_ble_eq_true rfl, Nat.le_of_ble_eq_true rfl⟩ ⟨Nat.le_of_ble_eq_true rfl, Nat.le_of_ble_eq_true rfl⟩ (fun rh3 vh3 ah3 h3 => ?_)
        obtain ⟨rfl, rfl, rfl⟩ := h3
        refine m_st (st2 := [.int (iI (-1))]) rfl ?_
        exact m_iret C dX12_cut_41 rfl (Nat.le_of_ble_eq_true rfl) (Nat.le_of_ble_eq_true rfl) ⟨fun j n0 n1 => by simp [va_up, n0, n1], (fun j _ _ => rfl), (fun i => Or.inl rfl), ((hR.put ⟨by omega, by omega⟩).put ⟨by decide, by decide⟩)⟩
    · refine m_aload_n (j := 0) C dX12_cut_18 rfl ?_
      refine m_iconst C dX12_cut_19 ?_
      refine m_call (mc2 := 0) (ms2 := 0) (As := [.int (iI 5)]) (rest := []) C (M_bad (x := 5)) dX12_cut_20 kV_X12_154 rfl ck_13 rfl (Nat.le_of_ble_eq_true rfl) ⟨Nat.le_of_ble_eq_true rfl, Nat.le_of_ble_eq_true rfl⟩ ⟨Nat.le_of_ble_eq_true rfl, Nat.le_of_ble_eq_true rfl⟩ (fun rh4 vh4 ah4 h4 => ?_)
      obtain ⟨rfl, rfl, rfl⟩ := h4
      refine m_st (st2 := [.int (iI (-1))]) rfl ?_
      exact m_iret C dX12_cut_23 rfl (Nat.le_of_ble_eq_true rfl) (Nat.le_of_ble_eq_true rfl) ⟨fun j n0 n1 => by simp [va_up, n0, n1], (fun j _ _ => rfl), (fun i => Or.inl rfl), ((hR.put ⟨by omega, by omega⟩).put ⟨by decide, by decide⟩)⟩
  · refine m_aload_n (j := 0) C dX12_cut_7 rfl ?_
    refine m_bipush (z := 6) C dX12_cut_8 (by decide) ?_
    refine m_call (mc2 := 0) (ms2 := 0) (As := [.int (iI 6)]) (rest := []) C (M_bad (x := 6)) dX12_cut_10 kV_X12_154 rfl ck_13 rfl (Nat.le_of_ble_eq_true rfl) ⟨Nat.le_of_ble_eq_true rfl, Nat.le_of_ble_eq_true rfl⟩ ⟨Nat.le_of_ble_eq_true rfl, Nat.le_of_ble_eq_true rfl⟩ (fun rh5 vh5 ah5 h5 => ?_)
    obtain ⟨rfl, rfl, rfl⟩ := h5
    refine m_st (st2 := [.int (iI (-1))]) rfl ?_
    exact m_iret C dX12_cut_13 rfl (Nat.le_of_ble_eq_true rfl) (Nat.le_of_ble_eq_true rfl) ⟨fun j n0 n1 => by simp [va_up, n0, n1], (fun j _ _ => rfl), (fun i => Or.inl rfl), ((hR.put ⟨by omega, by omega⟩).put ⟨by decide, by decide⟩)⟩
set_option maxHeartbeats 4000000 in
set_option maxRecDepth 100000 in
theorem Lp_keep {p : Program} {l : Launch} {e : Env} {s : State} {m : MethodId} {args : Array Value} {below : List Frame} {meth : Method} {c : Code} {G : GT} {A : Nat → Prop} {h0 : Nat} {ad ln : Nat → Nat} {v0 : Nat → Int} {a0 : Nat → Nat → Int} (h60 : 0 ≤ v0 60 ∧ v0 60 < v0 64 ∧ v0 64 ≤ 50) (h63 : 0 ≤ v0 63 ∧ v0 63 ≤ 808) (C : Cq p s m args meth c cX12_keep yX12_keep none G A 2) : ∀ (n : Nat) (k : Int) (v : Nat → Int) (a : Nat → Nat → Int), 809 - k < (n : Int) → (0 ≤ k ∧ k ≤ v0 63) → (∀ j, v j = v0 j) → (∀ j, j ≠ 58 → a j = a0 j) → RG v a → mw p l e (rmq 0 0 0) s m args below meth c G A 2 (MQ below (Qm G A (fun rq Lq Eq => ∃ (vq : Nat → Int) (aq : Nat → Nat → Int), mI G h0 ad ln vq aq Lq Eq ∧ (fun r v2 a2 => r = none ∧ (∀ j, j ≠ 60 → j ≠ 61 → v2 j = v0 j) ∧ (0 ≤ v2 60 ∧ v2 60 ≤ v0 64) ∧ (∀ j, j ≠ 58 → j ≠ 59 → a2 j = a0 j) ∧ (∀ i, a2 59 i = a0 59 i ∨ (0 ≤ a2 59 i ∧ a2 59 i ≤ 808)) ∧ RG v2 a2) rq vq aq)) args s 0 0 A) h0 ad ln v a 0 0 19 [(1, .int (iI k)), (0, .ref h0)] [] := by
  intro n
  induction n with
  | zero =>
    intro k  v a hm hk hv ha hr
    have q60 := hv 60
    have q63 := hv 63
    exact absurd hm (by omega)
  | succ n ih =>
    intro k  v a hm hk hv ha hr
    have q60 := hv 60
    have q63 := hv 63
    refine m_iload_n (j := 0) C dX12_keep_19 rfl ?_
    refine m_aload_n (j := 1) C dX12_keep_20 rfl ?_
    have rv63 := hr.1 63
    refine m_get (k := 63) C dX12_keep_21 w6_122 (by decide) rfl ?_
    refine m_icmp_ge (tgt := 54) C ⟨by omega, by omega⟩ ⟨by omega, by omega⟩ dX12_keep_24 (by decide) (fun c1 => ?_) (fun c1 => ?_)
    · refine m_aload_n (j := 1) C dX12_keep_54 rfl ?_
      refine m_geta (k := 59) C dX12_keep_55 w6_118 (by decide) rfl ?_
      refine m_aload_n (j := 1) C dX12_keep_58 rfl ?_
      have rv60 := hr.1 60
      refine m_get (k := 60) C dX12_keep_59 w6_119 (by decide) rfl ?_
      refine m_aload_n (j := 1) C dX12_keep_62 rfl ?_
      refine m_get (k := 63) C dX12_keep_63 w6_122 (by decide) rfl ?_
      refine m_ast (k := 59) C dX12_keep_66 rfl rfl (by decide) (by omega) (by show _ < ((_ : Nat) : Int); simp only [mlen]; omega) (by decide) ?_
      refine m_aload_n (j := 1) C dX12_keep_67 rfl ?_
      refine m_dup C dX12_keep_68 rfl ?_
      refine m_get (k := 60) C dX12_keep_69 w6_119 (by decide) rfl ?_
      refine m_iconst C dX12_keep_72 ?_
      refine m_iadd C dX12_keep_73 ?_
      refine m_put (k := 60) (z := (v 60) + 1) C dX12_keep_74 w6_119 (by decide) rfl rfl rfl ?_
      exact m_vret C dX12_keep_77 rfl (Nat.le_of_ble_eq_true rfl) (Nat.le_of_ble_eq_true rfl) ⟨rfl, fun j j1 j2 => (va_up_ne _ _ j1).trans (hv j), (by show 0 ≤ v 60 + 1 ∧ v 60 + 1 ≤ v0 64; omega), fun j j1 j2 => (funext fun i => up2_k j2).trans (ha j j1), fun i => by unfold up2; rw [if_pos rfl]; split; exact Or.inr (by omega); exact Or.inl (congrFun (ha 59 (by decide)) i), ((hr.set ⟨by omega, by omega⟩).put ⟨by omega, by omega⟩)⟩
    · refine m_aload_n (j := 1) C dX12_keep_27 rfl ?_
      refine m_geta (k := 58) C dX12_keep_28 w6_117 (by decide) rfl ?_
      refine m_sipush (z := 808) C dX12_keep_31 (by decide) ?_
      refine m_aload_n (j := 1) C dX12_keep_34 rfl ?_
      have rv60 := hr.1 60
      refine m_get (k := 60) C dX12_keep_35 w6_119 (by decide) rfl ?_
      refine m_imul C dX12_keep_38 ?_
      refine m_iload_n (j := 0) C dX12_keep_39 rfl ?_
      refine m_iadd C dX12_keep_40 ?_
      refine m_aload_n (j := 1) C dX12_keep_41 rfl ?_
      refine m_geta (k := 62) C dX12_keep_42 w6_121 (by decide) rfl ?_
      refine m_iload_n (j := 0) C dX12_keep_45 rfl ?_
      refine m_ald (k := 62) C dX12_keep_46 rfl rfl (by decide) (by omega) (by show _ < ((_ : Nat) : Int); simp only [mlen]; omega) (by decide) ?_
      have ra1 := hr.2 62 (k.toNat)
      refine m_ast (k := 58) C dX12_keep_47 rfl rfl (by decide) (by omega) (by show _ < ((_ : Nat) : Int); simp only [mlen]; omega) (by decide) ?_
      refine m_iinc (z := k) (j := 0) (lv2 := [(1, .int (iI (k + 1))), (0, .ref h0)]) C dX12_keep_48 rfl (by decide) rfl ?_
      refine m_goto (tgt := 19) C dX12_keep_51 (by decide) ?_
      refine m_lv (lv2 := [(1, .int (iI (k + 1))), (0, .ref h0)]) [0, 1] rfl ?_
      exact ih (k + 1) _ _ (by omega) (by omega) hv (fun j hj => (funext fun i => up2_k hj).trans (ha j hj)) (hr.set (hr.2 62 _))
set_option maxHeartbeats 4000000 in
set_option maxRecDepth 100000 in
theorem M_keep {l : Launch} {G : GT} {h0 : Nat} {ad ln : Nat → Nat} {v : Nat → Int} {a : Nat → Nat → Int} (hR : RG v a) (h60 : 0 ≤ v 60 ∧ v 60 ≤ v 64 ∧ v 64 ≤ 50) (h63 : 0 ≤ v 63 ∧ v 63 ≤ 808) : Mm l G yX12_keep cX12_keep 2 none 0 [] h0 ad ln v a 0 0 (fun r v2 a2 => r = none ∧ (∀ j, j ≠ 60 → j ≠ 61 → v2 j = v j) ∧ (0 ≤ v2 60 ∧ v2 60 ≤ v 64) ∧ (∀ j, j ≠ 58 → j ≠ 59 → a2 j = a j) ∧ (∀ i, a2 59 i = a 59 i ∨ (0 ≤ a2 59 i ∧ a2 59 i ≤ 808)) ∧ RG v2 a2) := by
  refine Mm.mk (by decide) (Nat.le_of_ble_eq_true rfl) ?_
  intro p e s m args below meth c A C
  refine m_aload_n (j := 0) C dX12_keep_0 rfl ?_
  have rv60 := hR.1 60
  refine m_get (k := 60) C dX12_keep_1 w6_119 (by decide) rfl ?_
  refine m_aload_n (j := 0) C dX12_keep_4 rfl ?_
  have rv64 := hR.1 64
  refine m_get (k := 64) C dX12_keep_5 w6_123 (by decide) rfl ?_
  refine m_icmp_ne (tgt := 17) C ⟨by omega, by omega⟩ ⟨by omega, by omega⟩ dX12_keep_8 (by decide) (fun c1 => ?_) (fun c1 => ?_)
  · refine m_iconst C dX12_keep_17 ?_
    refine m_istore_n (lv2 := [(1, .int (iI 0)), (0, .ref h0)]) C dX12_keep_18 (by decide) rfl ?_
    refine m_lv (lv2 := [(1, .int (iI 0)), (0, .ref h0)]) [0, 1] rfl ?_
    exact Lp_keep (by omega) h63 C 810 0 _ _ (by omega) (by omega) (fun j => rfl) (fun j hj => rfl) hR
  · refine m_aload_n (j := 0) C dX12_keep_11 rfl ?_
    refine m_iconst C dX12_keep_12 ?_
    refine m_put (k := 61) (z := 1) C dX12_keep_13 w6_120 (by decide) rfl rfl rfl ?_
    exact m_vret C dX12_keep_16 rfl (Nat.le_of_ble_eq_true rfl) (Nat.le_of_ble_eq_true rfl) ⟨rfl, fun j j1 j2 => va_up_ne _ _ j2, (by show 0 ≤ v 60 ∧ v 60 ≤ v 64; omega), fun j _ _ => rfl, fun i => Or.inl rfl, hR.put ⟨by decide, by decide⟩⟩
set_option maxHeartbeats 4000000 in
set_option maxRecDepth 100000 in
theorem Lp_putInd {p : Program} {l : Launch} {e : Env} {s : State} {m : MethodId} {args : Array Value} {below : List Frame} {meth : Method} {c : Code} {G : GT} {A : Nat → Prop} {h0 : Nat} {ad ln : Nat → Nat} {v0 : Nat → Int} {a0 : Nat → Nat → Int} {t w1 : Int} (ht : 0 ≤ t ∧ t < 30) (hw : 0 ≤ w1 ∧ w1 ≤ 3) (h16 : 0 ≤ a0 16 (4 * t + w1).toNat ∧ a0 16 (4 * t + w1).toNat ≤ 4) (h25 : 0 ≤ v0 25 ∧ v0 25 ≤ 6000) (C : Cq p s m args meth c cX12_putIndicator yX12_putIndicator none G A 5) : ∀ (n : Nat) (k : Int) (v : Nat → Int) (a : Nat → Nat → Int), 5 - k < (n : Int) → (0 ≤ k ∧ k ≤ a0 16 (4 * t + w1).toNat) → v = v0 → (∀ j, j ≠ 24 → a j = a0 j) → RG v a → mw p l e (rmq 0 0 0) s m args below meth c G A 5 (MQ below (Qm G A (fun rq Lq Eq => ∃ (vq : Nat → Int) (aq : Nat → Nat → Int), mI G h0 ad ln vq aq Lq Eq ∧ (fun r v2 a2 => r = none ∧ v2 = va_up v0 25 (v0 25 + a0 16 (4 * t + w1).toNat) ∧ (∀ j, j ≠ 24 → a2 j = a0 j) ∧ RG v2 a2) rq vq aq)) args s 0 0 A) h0 ad ln v a 0 0 9 [(4, .int (iI k)), (3, .int (iI (4 * t + w1))), (0, .ref h0), (1, .int (iI t)), (2, .int (iI w1))] [] := by
  intro n
  induction n with
  | zero =>
    intro k  v a hm hk ev ha hr
    have q25 : v 25 = v0 25 := by rw [ev]
    have q16 : a 16 (4 * t + w1).toNat = a0 16 (4 * t + w1).toNat := congrFun (ha 16 (by decide)) _
    exact absurd hm (by omega)
  | succ n ih =>
    intro k  v a hm hk ev ha hr
    have q25 : v 25 = v0 25 := by rw [ev]
    have q16 : a 16 (4 * t + w1).toNat = a0 16 (4 * t + w1).toNat := congrFun (ha 16 (by decide)) _
    refine m_iload (j := 0) C dX12_putIndicator_9 rfl ?_
    refine m_aload_n (j := 2) C dX12_putIndicator_11 rfl ?_
    refine m_geta (k := 16) C dX12_putIndicator_12 w6_75 (by decide) rfl ?_
    refine m_iload_n (j := 1) C dX12_putIndicator_15 rfl ?_
    refine m_ald (k := 16) C dX12_putIndicator_16 rfl rfl (by decide) (by omega) (by show _ < ((_ : Nat) : Int); simp only [mlen]; omega) (by decide) ?_
    have ra1 := hr.2 16 ((4 * t + w1).toNat)
    refine m_icmp_ge (tgt := 49) C ⟨by omega, by omega⟩ ⟨by omega, by omega⟩ dX12_putIndicator_17 (by decide) (fun c1 => ?_) (fun c1 => ?_)
    · refine m_aload_n (j := 2) C dX12_putIndicator_49 rfl ?_
      refine m_dup C dX12_putIndicator_50 rfl ?_
      have rv25 := hr.1 25
      refine m_get (k := 25) C dX12_putIndicator_51 w6_84 (by decide) rfl ?_
      refine m_aload_n (j := 2) C dX12_putIndicator_54 rfl ?_
      refine m_geta (k := 16) C dX12_putIndicator_55 w6_75 (by decide) rfl ?_
      refine m_iload_n (j := 1) C dX12_putIndicator_58 rfl ?_
      refine m_ald (k := 16) C dX12_putIndicator_59 rfl rfl (by decide) (by omega) (by show _ < ((_ : Nat) : Int); simp only [mlen]; omega) (by decide) ?_
      have ra2 := hr.2 16 ((4 * t + w1).toNat)
      refine m_iadd C dX12_putIndicator_60 ?_
      refine m_put (k := 25) (z := (v 25) + (a 16 (4 * t + w1).toNat)) C dX12_putIndicator_61 w6_84 (by decide) rfl rfl rfl ?_
      exact m_vret C dX12_putIndicator_64 rfl (Nat.le_of_ble_eq_true rfl) (Nat.le_of_ble_eq_true rfl) ⟨rfl, (by rw [ev, q16]), ha, (hr.put ⟨by omega, by omega⟩)⟩
    · refine m_aload_n (j := 2) C dX12_putIndicator_20 rfl ?_
      refine m_geta (k := 24) C dX12_putIndicator_21 w6_83 (by decide) rfl ?_
      refine m_aload_n (j := 2) C dX12_putIndicator_24 rfl ?_
      have rv25 := hr.1 25
      refine m_get (k := 25) C dX12_putIndicator_25 w6_84 (by decide) rfl ?_
      refine m_iload (j := 0) C dX12_putIndicator_28 rfl ?_
      refine m_iadd C dX12_putIndicator_30 ?_
      refine m_aload_n (j := 2) C dX12_putIndicator_31 rfl ?_
      refine m_geta (k := 17) C dX12_putIndicator_32 w6_76 (by decide) rfl ?_
      refine m_iconst C dX12_putIndicator_35 ?_
      refine m_iload_n (j := 1) C dX12_putIndicator_36 rfl ?_
      refine m_imul C dX12_putIndicator_37 ?_
      refine m_iload (j := 0) C dX12_putIndicator_38 rfl ?_
      refine m_iadd C dX12_putIndicator_40 ?_
      refine m_ald (k := 17) C dX12_putIndicator_41 rfl rfl (by decide) (by omega) (by show _ < ((_ : Nat) : Int); simp only [mlen]; omega) (by decide) ?_
      have ra3 := hr.2 17 (((4 * (4 * t + w1)) + k).toNat)
      refine m_ast (k := 24) C dX12_putIndicator_42 rfl rfl (by decide) (by omega) (by show _ < ((_ : Nat) : Int); simp only [mlen]; omega) (by decide) ?_
      refine m_iinc (z := k) (j := 0) (lv2 := [(4, .int (iI (k + 1))), (3, .int (iI (4 * t + w1))), (0, .ref h0), (1, .int (iI t)), (2, .int (iI w1))]) C dX12_putIndicator_43 rfl (by decide) rfl ?_
      refine m_goto (tgt := 9) C dX12_putIndicator_46 (by decide) ?_
      refine m_lv (lv2 := [(4, .int (iI (k + 1))), (3, .int (iI (4 * t + w1))), (0, .ref h0), (1, .int (iI t)), (2, .int (iI w1))]) [0, 1, 2, 3, 4] rfl ?_
      exact ih (k + 1) _ _ (by omega) (by omega) ev (fun j hj => (funext fun i => up2_k hj).trans (ha j hj)) (hr.set (hr.2 17 _))
set_option maxHeartbeats 4000000 in
set_option maxRecDepth 100000 in
theorem M_putIndicator {l : Launch} {G : GT} {h0 : Nat} {ad ln : Nat → Nat} {v : Nat → Int} {a : Nat → Nat → Int} {t w1 : Int} (hR : RG v a) (ht : 0 ≤ t ∧ t < 30) (hw : 0 ≤ w1 ∧ w1 ≤ 3) (h16 : 0 ≤ a 16 (4 * t + w1).toNat ∧ a 16 (4 * t + w1).toNat ≤ 4) (h25 : 0 ≤ v 25 ∧ v 25 ≤ 6000) : Mm l G yX12_putIndicator cX12_putIndicator 5 none 0 [.int (iI t), .int (iI w1)] h0 ad ln v a 0 0 (fun r v2 a2 => r = none ∧ v2 = va_up v 25 (v 25 + a 16 (4 * t + w1).toNat) ∧ (∀ j, j ≠ 24 → a2 j = a j) ∧ RG v2 a2) := by
  refine Mm.mk (by decide) (Nat.le_of_ble_eq_true rfl) ?_
  intro p e s m args below meth c A C
  refine m_iconst C dX12_putIndicator_0 ?_
  refine m_iload_n (j := 1) C dX12_putIndicator_1 rfl ?_
  refine m_imul C dX12_putIndicator_2 ?_
  refine m_iload_n (j := 2) C dX12_putIndicator_3 rfl ?_
  refine m_iadd C dX12_putIndicator_4 ?_
  refine m_istore_n (lv2 := [(3, .int (iI ((4 * t) + w1))), (0, .ref h0), (1, .int (iI t)), (2, .int (iI w1))]) C dX12_putIndicator_5 (by decide) rfl ?_
  refine m_iconst C dX12_putIndicator_6 ?_
  refine m_istore (lv2 := [(4, .int (iI 0)), (3, .int (iI ((4 * t) + w1))), (0, .ref h0), (1, .int (iI t)), (2, .int (iI w1))]) C dX12_putIndicator_7 (by decide) rfl ?_
  refine m_lv (lv2 := [(4, .int (iI 0)), (3, .int (iI ((4 * t) + w1))), (0, .ref h0), (1, .int (iI t)), (2, .int (iI w1))]) [0, 1, 2, 3, 4] rfl ?_
  exact Lp_putInd ht hw h16 h25 C 6 0 _ _ (by omega) (by omega) rfl (fun j hj => rfl) hR
