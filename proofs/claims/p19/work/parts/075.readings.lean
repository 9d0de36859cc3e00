section
set_option maxHeartbeats 4000000 in
set_option maxRecDepth 100000 in
theorem M_looksLike {l : Launch} {G : GT} {h0 : Nat} {ad ln : Nat → Nat} {v : Nat → Int} {a : Nat → Nat → Int}  {x y : Int} (hB : BX v a) (hx : -2147483648 ≤ x ∧ x ≤ 2147483647) (hy : -2147483648 ≤ y ∧ y ≤ 2147483647) : Mm l G yX12_looksLike cX12_looksLike 3 (some .boolean) 0 [.int (iI x), .int (iI y)] h0 ad ln v a 0 0 (fun r v2 a2 => ∃ f : Int, r = some (.int (iI f)) ∧ fr [] [] v a v2 a2 ∧ BX v2 a2 ∧ (f = 0 ∨ f = 1)) := by
  refine Mm.mk (by decide) (Nat.le_of_ble_eq_true rfl) ?_
  intro p e s m args below meth c A C
  have fp0 : fr [] [] v a v a := fr.refl
  refine m_iload_n (j := 1) C dX12_looksLike_0 rfl ?_
  refine m_iload_n (j := 2) C dX12_looksLike_1 rfl ?_
  obtain ⟨zz1, hzz1, ezz1⟩ := iI_of (iI x ^^^ iI y)
  refine m_ixor (w := iI zz1) C dX12_looksLike_2 ezz1 ?_
  refine m_sipush (z := 255) C dX12_looksLike_3 (by decide) ?_
  obtain ⟨zz2, hzz2, ezz2⟩ := iI_of (iI zz1 &&& iI 255)
  refine m_iand (w := iI zz2) C dX12_looksLike_6 ezz2 ?_
  refine m_aload_n (j := 0) C dX12_looksLike_7 rfl ?_
  have rv1 : (-2147483648) ≤ v 56 ∧ v 56 ≤ 2147483647 := hB.1 56
  refine m_get (k := 56) C dX12_looksLike_8 w6_115 (by decide) rfl ?_
  refine m_iconst C dX12_looksLike_11 ?_
  obtain ⟨zz3, hzz3, ezz3⟩ := iI_of (iI (v 56) ^^^ iI (-1))
  refine m_ixor (w := iI zz3) C dX12_looksLike_12 ezz3 ?_
  obtain ⟨zz4, hzz4, ezz4⟩ := iI_of (iI zz2 &&& iI zz3)
  refine m_iand (w := iI zz4) C dX12_looksLike_13 ezz4 ?_
  refine m_if_ne (tgt := 21) C ⟨by omega, by omega⟩ dX12_looksLike_14 (by decide) (fun c1 => ?_) (fun c1 => ?_)
  · refine m_iconst C dX12_looksLike_21 ?_
    exact m_zret C dX12_looksLike_22 rfl (Or.inl rfl) (Nat.le_of_ble_eq_true rfl) (Nat.le_of_ble_eq_true rfl) ⟨0, rfl, fp0, hB, (by omega)⟩
  · refine m_iconst C dX12_looksLike_17 ?_
    refine m_goto (tgt := 22) C dX12_looksLike_18 (by decide) ?_
    exact m_zret C dX12_looksLike_22 rfl (Or.inr rfl) (Nat.le_of_ble_eq_true rfl) (Nat.le_of_ble_eq_true rfl) ⟨1, rfl, fp0, hB, (by omega)⟩
def stt (x y z : Int32) : Int32 := 4 * x + 2 * y + (if z = 0 then 0 else 1)
theorem stt_c {x y z : Int} (hz : z = 0 ∨ z = 1) : stt (iI x) (iI y) (iI z) = iI (4 * x + 2 * y + z) := by
  unfold stt
  refine hv2 (show (4 : Int32) = iI 4 from rfl) (show (2 : Int32) = iI 2 from rfl) (fun e e2 => ?_)
  rcases hz with rfl | rfl
  · rw [if_pos (show iI 0 = 0 from rfl), e, e2, show (0 : Int32) = iI 0 from rfl, ← Int32.ofInt_mul, ← Int32.ofInt_mul, ← Int32.ofInt_add, ← Int32.ofInt_add]
  · rw [if_neg (by decide), e, e2, show (1 : Int32) = iI 1 from rfl, ← Int32.ofInt_mul, ← Int32.ofInt_mul, ← Int32.ofInt_add, ← Int32.ofInt_add]
set_option maxHeartbeats 4000000 in
set_option maxRecDepth 100000 in
theorem s_state {l : Launch} {G : GT} {L : List Nat} {E : Nat → va_E} (x y z : Int32) : Mq l G yX12_state cX12_state 3 (some .int) 0 [.int x, .int y, .int z] L E 0 0 (fun v L2 E2 => v = some (.int (stt x y z)) ∧ L2 = L ∧ E2 = E) := by
  refine Mq.mk (by decide) (Nat.le_of_ble_eq_true rfl) ?_
  intro p e s m args below meth c A C
  refine q_iconst (v := 4) C dX12_state_0 (by decide) ?_
  refine q_iload_n (j := 0) C dX12_state_1 rfl ?_
  refine q_imul (v := ((4 : Int32) * x)) C dX12_state_2 rfl ?_
  refine q_iconst (v := 2) C dX12_state_3 (by decide) ?_
  refine q_iload_n (j := 1) C dX12_state_4 rfl ?_
  refine q_imul (v := ((2 : Int32) * y)) C dX12_state_5 rfl ?_
  refine q_iadd (v := (((4 : Int32) * x) + ((2 : Int32) * y))) C dX12_state_6 rfl ?_
  refine q_iload_n (j := 2) C dX12_state_7 rfl ?_
  refine q_if_eq (tgt := 15) C dX12_state_8 (by decide) (fun c1 => ?_) (fun c1 => ?_)
  · refine q_iconst (v := 0) C dX12_state_15 (by decide) ?_
    refine q_iadd (v := ((((4 : Int32) * x) + ((2 : Int32) * y)) + (0 : Int32))) C dX12_state_16 rfl ?_
    exact q_iret C dX12_state_17 rfl (Nat.le_of_ble_eq_true rfl) (Nat.le_of_ble_eq_true rfl) ⟨(by refine congrArg (fun z => some (Value.int z)) ?_; unfold stt; first | rw [if_pos c1] | rw [if_neg c1]), rfl, rfl⟩
  · refine q_iconst (v := 1) C dX12_state_11 (by decide) ?_
    refine q_goto (tgt := 16) C dX12_state_12 (by decide) ?_
    refine q_iadd (v := ((((4 : Int32) * x) + ((2 : Int32) * y)) + (1 : Int32))) C dX12_state_16 rfl ?_
    exact q_iret C dX12_state_17 rfl (Nat.le_of_ble_eq_true rfl) (Nat.le_of_ble_eq_true rfl) ⟨(by refine congrArg (fun z => some (Value.int z)) ?_; unfold stt; first | rw [if_pos c1] | rw [if_neg c1]), rfl, rfl⟩
set_option maxHeartbeats 4000000 in
set_option maxRecDepth 100000 in
theorem M_may {l : Launch} {G : GT} {h0 : Nat} {ad ln : Nat → Nat} {v : Nat → Int} {a : Nat → Nat → Int}  {r1 x pt g : Int} (hB : BX v a) (hr : 0 ≤ r1 ∧ r1 < 12016) (ho : -4 ≤ a 44 r1.toNat ∧ a 44 r1.toNat < 6000) (ho2 : 1 ≤ a 46 r1.toNat ∧ a 46 r1.toNat ≤ 4) (ho3 : 0 ≤ a 45 r1.toNat ∧ (0 ≤ a 44 r1.toNat → a 45 r1.toNat + a 46 r1.toNat ≤ 24000) ∧ (a 44 r1.toNat < 0 → a 45 r1.toNat + a 46 r1.toNat ≤ 480)) (hx : 0 ≤ x ∧ x ≤ 100) (h50 : v 50 ≤ 100) (hp : pt = 0 ∨ pt = 1) (hg : g = 0 ∨ g = 1) : Mm l G yX12_may cX12_may 6 (some .boolean) 2 [.int (iI r1), .int (iI x), .int (iI pt), .int (iI g)] h0 ad ln v a 0 0 (fun r v2 a2 => ∃ f : Int, r = some (.int (iI f)) ∧ fr [] [] v a v2 a2 ∧ BX v2 a2 ∧ (f = 0 ∨ (f = 1 ∧ x + a 46 r1.toNat ≤ v 50))) := by
  refine Mm.mk (by decide) (Nat.le_of_ble_eq_true rfl) ?_
  intro p e s m args below meth c A C
  refine hv2 (show 0 ≤ v 50 ∧ v 50 ≤ 40200 from hB.1 50) (show fr [] [] v a v a from fr.refl) (fun r50 fp0 => ?_)
  refine m_iload_n (j := 2) C dX12_may_0 rfl ?_
  refine m_aload_n (j := 0) C dX12_may_1 rfl ?_
  refine m_geta (k := 46) C dX12_may_2 w6_105 (by decide) rfl ?_
  refine m_iload_n (j := 1) C dX12_may_5 rfl ?_
  refine m_ald (k := 46) C dX12_may_6 rfl rfl (by decide) (by omega) (by show _ < ((_ : Nat) : Int); simp only [mlen]; omega) (by decide) ?_
  have ra1 : 0 ≤ a 46 r1.toNat ∧ a 46 r1.toNat ≤ 4 := hB.2 46 (r1.toNat)
  refine m_iadd C dX12_may_7 ?_
  refine m_aload_n (j := 0) C dX12_may_8 rfl ?_
  have rv1 : 0 ≤ v 50 ∧ v 50 ≤ 40200 := hB.1 50
  refine m_get (k := 50) C dX12_may_9 w6_109 (by decide) rfl ?_
  refine m_icmp_gt (tgt := 28) C ⟨by omega, by omega⟩ (r32_c (lo := 0) (hi := 40200) rv1.1 rv1.2 (by decide) (by decide)) dX12_may_12 (by decide) (fun c1 => ?_) (fun c1 => ?_)
  · refine m_iconst C dX12_may_28 ?_
    exact m_zret C dX12_may_29 rfl (Or.inl rfl) (Nat.le_of_ble_eq_true rfl) (Nat.le_of_ble_eq_true rfl) ⟨0, rfl, fp0, hB, (by omega)⟩
  · refine m_iload (j := 4) C dX12_may_15 rfl ?_
    refine m_if_eq (tgt := 30) C ⟨by omega, by omega⟩ dX12_may_17 (by decide) (fun c2 => ?_) (fun c2 => ?_)
    · refine m_iconst C dX12_may_30 ?_
      refine m_istore (lv2 := [(5, .int (iI 0)), (0, .ref h0), (1, .int (iI r1)), (2, .int (iI x)), (3, .int (iI pt)), (4, .int (iI g))]) C dX12_may_31 (by decide) rfl ?_
      have Lp1 : ∀ (nn : Nat) (k : Int) (vb1 : Nat → Int) (ab1 : Nat → Nat → Int), 5 - k < (nn : Int) → BX vb1 ab1 → fr [] [] v a vb1 ab1 → (0 ≤ k ∧ k ≤ 4) → mw p l e (rmq 2 0 0) s m args below meth c G A 6 (MQ below (Qm G A (fun rq Lq Eq => ∃ (vq : Nat → Int) (aq : Nat → Nat → Int), mI G h0 ad ln vq aq Lq Eq ∧ (fun r v2 a2 => ∃ f : Int, r = some (.int (iI f)) ∧ fr [] [] v a v2 a2 ∧ BX v2 a2 ∧ (f = 0 ∨ (f = 1 ∧ x + a 46 r1.toNat ≤ v 50))) rq vq aq)) args s 0 0 A) h0 ad ln vb1 ab1 0 0 33 [(5, .int (iI k)), (0, .ref h0), (1, .int (iI r1)), (2, .int (iI x)), (3, .int (iI pt)), (4, .int (iI g))] [] := by
        intro nn
        induction nn with
        | zero =>
          intro k vb1 ab1 hm bxb1 fpb1 hk
          exact absurd hm (by omega)
        | succ nn ih1 =>
          intro k vb1 ab1 hm bxb1 fpb1 hk
          refine m_iload (j := 0) C dX12_may_33 rfl ?_
          refine m_aload_n (j := 1) C dX12_may_35 rfl ?_
          refine m_geta (k := 46) C dX12_may_36 w6_105 (by decide) rfl ?_
          refine m_iload_n (j := 2) C dX12_may_39 rfl ?_
          refine m_ald (k := 46) C dX12_may_40 rfl rfl (by decide) (by omega) (by show _ < ((_ : Nat) : Int); simp only [mlen]; omega) (by decide) ?_
          refine hv2 (show 0 ≤ ab1 46 r1.toNat ∧ ab1 46 r1.toNat ≤ 4 from bxb1.2 46 (r1.toNat)) (show ab1 46 (r1.toNat) = a 46 (r1.toNat) from congrFun (fpb1.2 46 rfl) (r1.toNat)) (fun ra2 ae1 => ?_)
          refine m_st (st2 := [.int (iI (a 46 r1.toNat)), .int (iI k)]) (congrArg (fun z => Value.int (iI z) :: [.int (iI k)]) (congrFun (fpb1.2 46 rfl) (r1.toNat))) ?_
          refine m_icmp_ge (tgt := 75) C (r32_c (lo := 0) (hi := 4) hk.1 hk.2 (by decide) (by decide)) (r32_c (lo := 0) (hi := 4) ra1.1 ra1.2 (by decide) (by decide)) dX12_may_41 (by decide) (fun c3 => ?_) (fun c3 => ?_)
          · refine m_aload_n (j := 1) C dX12_may_75 rfl ?_
            refine m_geta (k := 57) C dX12_may_76 w6_116 (by decide) rfl ?_
            refine m_iload_n (j := 3) C dX12_may_79 rfl ?_
            refine m_aload_n (j := 1) C dX12_may_80 rfl ?_
            refine m_geta (k := 46) C dX12_may_81 w6_105 (by decide) rfl ?_
            refine m_iload_n (j := 2) C dX12_may_84 rfl ?_
            refine m_ald (k := 46) C dX12_may_85 rfl rfl (by decide) (by omega) (by show _ < ((_ : Nat) : Int); simp only [mlen]; omega) (by decide) ?_
            refine m_st (st2 := [.int (iI (a 46 r1.toNat)), .int (iI x), .ref (ad 57)]) (congrArg (fun z => Value.int (iI z) :: [.int (iI x), .ref (ad 57)]) (congrFun (fpb1.2 46 rfl) (r1.toNat))) ?_
            refine m_iadd C dX12_may_86 ?_
            refine m_aload_n (j := 1) C dX12_may_87 rfl ?_
            refine m_iload_n (j := 2) C dX12_may_88 rfl ?_
            refine m_iload_n (j := 4) C dX12_may_89 rfl ?_
            refine m_call (mc2 := 0) (ms2 := 0) (As := [.int (iI r1), .int (iI pt)]) (rest := [.int (iI (x + (a 46 r1.toNat))), .ref (ad 57)]) C (M_next (r := r1) (q := pt) bxb1.rg (by omega) (by omega)) dX12_may_90 kV_X12_367 rfl ck_13 rfl (Nat.le_of_ble_eq_true rfl) ⟨Nat.le_of_ble_eq_true rfl, Nat.le_of_ble_eq_true rfl⟩ ⟨Nat.le_of_ble_eq_true rfl, Nat.le_of_ble_eq_true rfl⟩ (fun rh1 vh1 ah1 h1 => ?_)
            obtain ⟨f1, rfl, hf1, rfl, rfl⟩ := h1
            have gf1 : f1 = 0 ∨ f1 = 1 := hf1
            refine m_st (st2 := [.int (iI f1), .int (iI (x + (a 46 r1.toNat))), .ref (ad 57)]) rfl ?_
            refine m_aload_n (j := 1) C dX12_may_93 rfl ?_
            refine m_geta (k := 44) C dX12_may_94 w6_103 (by decide) rfl ?_
            refine m_iload_n (j := 2) C dX12_may_97 rfl ?_
            refine m_ald (k := 44) C dX12_may_98 rfl rfl (by decide) (by omega) (by show _ < ((_ : Nat) : Int); simp only [mlen]; omega) (by decide) ?_
            refine hv2 (show (-4) ≤ ab1 44 r1.toNat ∧ ab1 44 r1.toNat ≤ 5999 from bxb1.2 44 (r1.toNat)) (show ab1 44 (r1.toNat) = a 44 (r1.toNat) from congrFun (fpb1.2 44 rfl) (r1.toNat)) (fun ra3 ae2 => ?_)
            refine m_st (st2 := [.int (iI (a 44 r1.toNat)), .int (iI f1), .int (iI (x + (a 46 r1.toNat))), .ref (ad 57)]) (congrArg (fun z => Value.int (iI z) :: [.int (iI f1), .int (iI (x + (a 46 r1.toNat))), .ref (ad 57)]) (congrFun (fpb1.2 44 rfl) (r1.toNat))) ?_
            refine m_iconst C dX12_may_99 ?_
            refine m_icmp_ne (tgt := 107) C ⟨by omega, by omega⟩ ⟨by decide, by decide⟩ dX12_may_100 (by decide) (fun c4 => ?_) (fun c4 => ?_)
            · refine m_iconst C dX12_may_107 ?_
              refine m_callS (As := [.int (iI (x + (a 46 r1.toNat))), .int (iI f1), .int (iI 0)]) (rest := [.ref (ad 57)]) C (fun L E => s_state (iI (x + (a 46 r1.toNat))) (iI f1) (iI 0)) dX12_may_108 kS_X12_370 rfl rfl (Nat.le_of_ble_eq_true rfl) ⟨Nat.le_of_ble_eq_true rfl, Nat.le_of_ble_eq_true rfl⟩ ⟨Nat.le_of_ble_eq_true rfl, Nat.le_of_ble_eq_true rfl⟩ ?_
              obtain ⟨sx1, hsx1⟩ : ∃ w : Int, w = 4 * (x + (a 46 r1.toNat)) + 2 * f1 + 0 := ⟨_, rfl⟩
              · refine m_st (st2 := [.int (iI sx1), .ref (ad 57)]) (by rw [stt_c (by omega), ← hsx1]) ?_
                refine m_zald (k := 57) C dX12_may_111 rfl rfl (by decide) (by omega) (by show _ < ((_ : Nat) : Int); simp only [mlen]; omega) (by decide) ?_
                refine hv2 (show 0 ≤ ab1 57 sx1.toNat ∧ ab1 57 sx1.toNat ≤ 1 from bxb1.2 57 (sx1.toNat)) (show ab1 57 (sx1.toNat) = a 57 (sx1.toNat) from congrFun (fpb1.2 57 rfl) (sx1.toNat)) (fun ra4 ae3 => ?_)
                refine m_st (st2 := [.int (iI (a 57 sx1.toNat))]) (congrArg (fun z => Value.int (iI z) :: []) (congrFun (fpb1.2 57 rfl) (sx1.toNat))) ?_
                exact m_zret C dX12_may_112 rfl (by omega) (Nat.le_of_ble_eq_true rfl) (Nat.le_of_ble_eq_true rfl) ⟨(a 57 sx1.toNat), rfl, fpb1, bxb1, (by omega)⟩
            · refine m_iconst C dX12_may_103 ?_
              refine m_goto (tgt := 108) C dX12_may_104 (by decide) ?_
              refine m_callS (As := [.int (iI (x + (a 46 r1.toNat))), .int (iI f1), .int (iI 1)]) (rest := [.ref (ad 57)]) C (fun L E => s_state (iI (x + (a 46 r1.toNat))) (iI f1) (iI 1)) dX12_may_108 kS_X12_370 rfl rfl (Nat.le_of_ble_eq_true rfl) ⟨Nat.le_of_ble_eq_true rfl, Nat.le_of_ble_eq_true rfl⟩ ⟨Nat.le_of_ble_eq_true rfl, Nat.le_of_ble_eq_true rfl⟩ ?_
              obtain ⟨sx2, hsx2⟩ : ∃ w : Int, w = 4 * (x + (a 46 r1.toNat)) + 2 * f1 + 1 := ⟨_, rfl⟩
              · refine m_st (st2 := [.int (iI sx2), .ref (ad 57)]) (by rw [stt_c (by omega), ← hsx2]) ?_
                refine m_zald (k := 57) C dX12_may_111 rfl rfl (by decide) (by omega) (by show _ < ((_ : Nat) : Int); simp only [mlen]; omega) (by decide) ?_
                refine hv2 (show 0 ≤ ab1 57 sx2.toNat ∧ ab1 57 sx2.toNat ≤ 1 from bxb1.2 57 (sx2.toNat)) (show ab1 57 (sx2.toNat) = a 57 (sx2.toNat) from congrFun (fpb1.2 57 rfl) (sx2.toNat)) (fun ra5 ae4 => ?_)
                refine m_st (st2 := [.int (iI (a 57 sx2.toNat))]) (congrArg (fun z => Value.int (iI z) :: []) (congrFun (fpb1.2 57 rfl) (sx2.toNat))) ?_
                exact m_zret C dX12_may_112 rfl (by omega) (Nat.le_of_ble_eq_true rfl) (Nat.le_of_ble_eq_true rfl) ⟨(a 57 sx2.toNat), rfl, fpb1, bxb1, (by omega)⟩
          · refine m_aload_n (j := 1) C dX12_may_44 rfl ?_
            refine m_aload_n (j := 1) C dX12_may_45 rfl ?_
            refine m_iload_n (j := 2) C dX12_may_46 rfl ?_
            refine m_iload (j := 0) C dX12_may_47 rfl ?_
            refine hv4 (show (-4) ≤ ab1 44 r1.toNat ∧ ab1 44 r1.toNat ≤ 5999 from bxb1.2 44 (r1.toNat)) (show ab1 44 (r1.toNat) = a 44 (r1.toNat) from congrFun (fpb1.2 44 rfl) (r1.toNat)) (show 0 ≤ ab1 45 r1.toNat ∧ ab1 45 r1.toNat ≤ 23999 from bxb1.2 45 (r1.toNat)) (show ab1 45 (r1.toNat) = a 45 (r1.toNat) from congrFun (fpb1.2 45 rfl) (r1.toNat)) (fun ra6 ae5 ra7 ae6 => ?_)
            refine m_call (mc2 := 0) (ms2 := 0) (As := [.int (iI r1), .int (iI k)]) (rest := [.ref h0]) C (M_rowCell (r := r1) (k := k) bxb1.rg (by omega) (by omega)) dX12_may_49 kV_X12_324 rfl ck_13 rfl (Nat.le_of_ble_eq_true rfl) ⟨Nat.le_of_ble_eq_true rfl, Nat.le_of_ble_eq_true rfl⟩ ⟨Nat.le_of_ble_eq_true rfl, Nat.le_of_ble_eq_true rfl⟩ (fun rh4 vh4 ah4 h4 => ?_)
            obtain ⟨f2, rfl, hf2, rfl, rfl⟩ := h4
            have gf2 : -2147483648 ≤ f2 ∧ f2 < 2147483648 := hf2
            refine m_st (st2 := [.int (iI f2), .ref h0]) rfl ?_
            refine m_aload_n (j := 1) C dX12_may_52 rfl ?_
            refine m_geta (k := 48) C dX12_may_53 w6_107 (by decide) rfl ?_
            refine m_iload_n (j := 3) C dX12_may_56 rfl ?_
            refine m_iload (j := 0) C dX12_may_57 rfl ?_
            refine m_iadd C dX12_may_59 ?_
            refine m_ald (k := 48) C dX12_may_60 rfl rfl (by decide) (by omega) (by show _ < ((_ : Nat) : Int); simp only [mlen]; omega) (by decide) ?_
            refine hv2 (show (-2147483648) ≤ ab1 48 (x + k).toNat ∧ ab1 48 (x + k).toNat ≤ 2147483647 from bxb1.2 48 ((x + k).toNat)) (show ab1 48 ((x + k).toNat) = a 48 ((x + k).toNat) from congrFun (fpb1.2 48 rfl) ((x + k).toNat)) (fun ra8 ae7 => ?_)
            refine m_st (st2 := [.int (iI (a 48 (x + k).toNat)), .int (iI f2), .ref h0]) (congrArg (fun z => Value.int (iI z) :: [.int (iI f2), .ref h0]) (congrFun (fpb1.2 48 rfl) ((x + k).toNat))) ?_
            refine m_call (mc2 := 0) (ms2 := 0) (As := [.int (iI f2), .int (iI (a 48 (x + k).toNat))]) (rest := []) C (M_looksLike (x := f2) (y := a 48 (x + k).toNat) bxb1 (by show -2147483648 ≤ f2 ∧ f2 ≤ 2147483647; omega) (by show -2147483648 ≤ (a 48 (x + k).toNat) ∧ (a 48 (x + k).toNat) ≤ 2147483647; omega)) dX12_may_61 kV_X12_363 rfl ck_13 rfl (Nat.le_of_ble_eq_true rfl) ⟨Nat.le_of_ble_eq_true rfl, Nat.le_of_ble_eq_true rfl⟩ ⟨Nat.le_of_ble_eq_true rfl, Nat.le_of_ble_eq_true rfl⟩ (fun rh5 vh5 ah5 h5 => ?_)
            obtain ⟨f3, rfl, fn1, bn1, ex1⟩ := h5
            obtain ⟨rfl, rfl⟩ := fn1.eq
            have gf3 : f3 = 0 ∨ f3 = 1 := ex1
            refine m_st (st2 := [.int (iI f3)]) rfl ?_
            refine m_if_ne (tgt := 69) C (r32_01 gf3) dX12_may_64 (by decide) (fun c5 => ?_) (fun c5 => ?_)
            · replace gf3 := (gf3.resolve_left c5)
              refine m_iinc (z := k) (j := 0) (lv2 := [(5, .int (iI (k + 1))), (0, .ref h0), (1, .int (iI r1)), (2, .int (iI x)), (3, .int (iI pt)), (4, .int (iI g))]) C dX12_may_69 rfl (by decide) rfl ?_
              refine m_goto (tgt := 33) C dX12_may_72 (by decide) ?_
              refine m_lv (lv2 := [(5, .int (iI (k + 1))), (0, .ref h0), (1, .int (iI r1)), (2, .int (iI x)), (3, .int (iI pt)), (4, .int (iI g))]) [0, 1, 2, 3, 4, 5] rfl ?_
              exact ih1  (k + 1) _ _ (by omega) bxb1 fpb1 (by omega)
            · clear gf3
              refine m_iconst C dX12_may_67 ?_
              exact m_zret C dX12_may_68 rfl (Or.inl rfl) (Nat.le_of_ble_eq_true rfl) (Nat.le_of_ble_eq_true rfl) ⟨0, rfl, fpb1, bxb1, (by omega)⟩
      refine m_lv (lv2 := [(5, .int (iI 0)), (0, .ref h0), (1, .int (iI r1)), (2, .int (iI x)), (3, .int (iI pt)), (4, .int (iI g))]) [0, 1, 2, 3, 4, 5] rfl ?_
      exact Lp1 6 0 _ _ (by omega) hB fp0 (by omega)
    · refine m_aload_n (j := 0) C dX12_may_20 rfl ?_
      refine m_iload_n (j := 1) C dX12_may_21 rfl ?_
      have ra9 : (-4) ≤ a 44 r1.toNat ∧ a 44 r1.toNat ≤ 5999 := hB.2 44 (r1.toNat)
      refine m_call (mc2 := 0) (ms2 := 0) (As := [.int (iI r1)]) (rest := []) C (M_isSmallRule (r := r1) hB.rg (by omega) (by show a 44 r1.toNat < 6000; omega)) dX12_may_22 kV_X12_348 rfl ck_13 rfl (Nat.le_of_ble_eq_true rfl) ⟨Nat.le_of_ble_eq_true rfl, Nat.le_of_ble_eq_true rfl⟩ ⟨Nat.le_of_ble_eq_true rfl, Nat.le_of_ble_eq_true rfl⟩ (fun rh6 vh6 ah6 h6 => ?_)
      obtain ⟨f4, rfl, hf4, rfl, rfl⟩ := h6
      have gf4 : f4 = 0 ∨ f4 = 1 := hf4
      refine m_st (st2 := [.int (iI f4)]) rfl ?_
      refine m_if_ne (tgt := 30) C (r32_01 gf4) dX12_may_25 (by decide) (fun c6 => ?_) (fun c6 => ?_)
      · replace gf4 := (gf4.resolve_left c6)
        refine m_iconst C dX12_may_30 ?_
        refine m_istore (lv2 := [(5, .int (iI 0)), (0, .ref h0), (1, .int (iI r1)), (2, .int (iI x)), (3, .int (iI pt)), (4, .int (iI g))]) C dX12_may_31 (by decide) rfl ?_
        have Lp2 : ∀ (nn : Nat) (k : Int) (vb2 : Nat → Int) (ab2 : Nat → Nat → Int), 5 - k < (nn : Int) → BX vb2 ab2 → fr [] [] v a vb2 ab2 → (0 ≤ k ∧ k ≤ 4) → mw p l e (rmq 2 0 0) s m args below meth c G A 6 (MQ below (Qm G A (fun rq Lq Eq => ∃ (vq : Nat → Int) (aq : Nat → Nat → Int), mI G h0 ad ln vq aq Lq Eq ∧ (fun r v2 a2 => ∃ f : Int, r = some (.int (iI f)) ∧ fr [] [] v a v2 a2 ∧ BX v2 a2 ∧ (f = 0 ∨ (f = 1 ∧ x + a 46 r1.toNat ≤ v 50))) rq vq aq)) args s 0 0 A) h0 ad ln vb2 ab2 0 0 33 [(5, .int (iI k)), (0, .ref h0), (1, .int (iI r1)), (2, .int (iI x)), (3, .int (iI pt)), (4, .int (iI g))] [] := by
          intro nn
          induction nn with
          | zero =>
            intro k vb2 ab2 hm bxb2 fpb2 hk
            exact absurd hm (by omega)
          | succ nn ih2 =>
            intro k vb2 ab2 hm bxb2 fpb2 hk
            refine m_iload (j := 0) C dX12_may_33 rfl ?_
            refine m_aload_n (j := 1) C dX12_may_35 rfl ?_
            refine m_geta (k := 46) C dX12_may_36 w6_105 (by decide) rfl ?_
            refine m_iload_n (j := 2) C dX12_may_39 rfl ?_
            refine m_ald (k := 46) C dX12_may_40 rfl rfl (by decide) (by omega) (by show _ < ((_ : Nat) : Int); simp only [mlen]; omega) (by decide) ?_
            refine hv2 (show 0 ≤ ab2 46 r1.toNat ∧ ab2 46 r1.toNat ≤ 4 from bxb2.2 46 (r1.toNat)) (show ab2 46 (r1.toNat) = a 46 (r1.toNat) from congrFun (fpb2.2 46 rfl) (r1.toNat)) (fun ra10 ae8 => ?_)
            refine m_st (st2 := [.int (iI (a 46 r1.toNat)), .int (iI k)]) (congrArg (fun z => Value.int (iI z) :: [.int (iI k)]) (congrFun (fpb2.2 46 rfl) (r1.toNat))) ?_
            refine m_icmp_ge (tgt := 75) C (r32_c (lo := 0) (hi := 4) hk.1 hk.2 (by decide) (by decide)) (r32_c (lo := 0) (hi := 4) ra1.1 ra1.2 (by decide) (by decide)) dX12_may_41 (by decide) (fun c7 => ?_) (fun c7 => ?_)
            · refine m_aload_n (j := 1) C dX12_may_75 rfl ?_
              refine m_geta (k := 57) C dX12_may_76 w6_116 (by decide) rfl ?_
              refine m_iload_n (j := 3) C dX12_may_79 rfl ?_
              refine m_aload_n (j := 1) C dX12_may_80 rfl ?_
              refine m_geta (k := 46) C dX12_may_81 w6_105 (by decide) rfl ?_
              refine m_iload_n (j := 2) C dX12_may_84 rfl ?_
              refine m_ald (k := 46) C dX12_may_85 rfl rfl (by decide) (by omega) (by show _ < ((_ : Nat) : Int); simp only [mlen]; omega) (by decide) ?_
              refine m_st (st2 := [.int (iI (a 46 r1.toNat)), .int (iI x), .ref (ad 57)]) (congrArg (fun z => Value.int (iI z) :: [.int (iI x), .ref (ad 57)]) (congrFun (fpb2.2 46 rfl) (r1.toNat))) ?_
              refine m_iadd C dX12_may_86 ?_
              refine m_aload_n (j := 1) C dX12_may_87 rfl ?_
              refine m_iload_n (j := 2) C dX12_may_88 rfl ?_
              refine m_iload_n (j := 4) C dX12_may_89 rfl ?_
              refine m_call (mc2 := 0) (ms2 := 0) (As := [.int (iI r1), .int (iI pt)]) (rest := [.int (iI (x + (a 46 r1.toNat))), .ref (ad 57)]) C (M_next (r := r1) (q := pt) bxb2.rg (by omega) (by omega)) dX12_may_90 kV_X12_367 rfl ck_13 rfl (Nat.le_of_ble_eq_true rfl) ⟨Nat.le_of_ble_eq_true rfl, Nat.le_of_ble_eq_true rfl⟩ ⟨Nat.le_of_ble_eq_true rfl, Nat.le_of_ble_eq_true rfl⟩ (fun rh7 vh7 ah7 h7 => ?_)
              obtain ⟨f5, rfl, hf5, rfl, rfl⟩ := h7
              have gf5 : f5 = 0 ∨ f5 = 1 := hf5
              refine m_st (st2 := [.int (iI f5), .int (iI (x + (a 46 r1.toNat))), .ref (ad 57)]) rfl ?_
              refine m_aload_n (j := 1) C dX12_may_93 rfl ?_
              refine m_geta (k := 44) C dX12_may_94 w6_103 (by decide) rfl ?_
              refine m_iload_n (j := 2) C dX12_may_97 rfl ?_
              refine m_ald (k := 44) C dX12_may_98 rfl rfl (by decide) (by omega) (by show _ < ((_ : Nat) : Int); simp only [mlen]; omega) (by decide) ?_
              refine hv2 (show (-4) ≤ ab2 44 r1.toNat ∧ ab2 44 r1.toNat ≤ 5999 from bxb2.2 44 (r1.toNat)) (show ab2 44 (r1.toNat) = a 44 (r1.toNat) from congrFun (fpb2.2 44 rfl) (r1.toNat)) (fun ra11 ae9 => ?_)
              refine m_st (st2 := [.int (iI (a 44 r1.toNat)), .int (iI f5), .int (iI (x + (a 46 r1.toNat))), .ref (ad 57)]) (congrArg (fun z => Value.int (iI z) :: [.int (iI f5), .int (iI (x + (a 46 r1.toNat))), .ref (ad 57)]) (congrFun (fpb2.2 44 rfl) (r1.toNat))) ?_
              refine m_iconst C dX12_may_99 ?_
              refine m_icmp_ne (tgt := 107) C (r32_c (lo := (-4)) (hi := 5999) ra9.1 ra9.2 (by decide) (by decide)) ⟨by decide, by decide⟩ dX12_may_100 (by decide) (fun c8 => ?_) (fun c8 => ?_)
              · refine m_iconst C dX12_may_107 ?_
                refine m_callS (As := [.int (iI (x + (a 46 r1.toNat))), .int (iI f5), .int (iI 0)]) (rest := [.ref (ad 57)]) C (fun L E => s_state (iI (x + (a 46 r1.toNat))) (iI f5) (iI 0)) dX12_may_108 kS_X12_370 rfl rfl (Nat.le_of_ble_eq_true rfl) ⟨Nat.le_of_ble_eq_true rfl, Nat.le_of_ble_eq_true rfl⟩ ⟨Nat.le_of_ble_eq_true rfl, Nat.le_of_ble_eq_true rfl⟩ ?_
                obtain ⟨sx3, hsx3⟩ : ∃ w : Int, w = 4 * (x + (a 46 r1.toNat)) + 2 * f5 + 0 := ⟨_, rfl⟩
                · refine m_st (st2 := [.int (iI sx3), .ref (ad 57)]) (by rw [stt_c (by omega), ← hsx3]) ?_
                  refine m_zald (k := 57) C dX12_may_111 rfl rfl (by decide) (by omega) (by show _ < ((_ : Nat) : Int); simp only [mlen]; omega) (by decide) ?_
                  refine hv2 (show 0 ≤ ab2 57 sx3.toNat ∧ ab2 57 sx3.toNat ≤ 1 from bxb2.2 57 (sx3.toNat)) (show ab2 57 (sx3.toNat) = a 57 (sx3.toNat) from congrFun (fpb2.2 57 rfl) (sx3.toNat)) (fun ra12 ae10 => ?_)
                  refine m_st (st2 := [.int (iI (a 57 sx3.toNat))]) (congrArg (fun z => Value.int (iI z) :: []) (congrFun (fpb2.2 57 rfl) (sx3.toNat))) ?_
                  exact m_zret C dX12_may_112 rfl (by omega) (Nat.le_of_ble_eq_true rfl) (Nat.le_of_ble_eq_true rfl) ⟨(a 57 sx3.toNat), rfl, fpb2, bxb2, (by omega)⟩
              · refine m_iconst C dX12_may_103 ?_
                refine m_goto (tgt := 108) C dX12_may_104 (by decide) ?_
                refine m_callS (As := [.int (iI (x + (a 46 r1.toNat))), .int (iI f5), .int (iI 1)]) (rest := [.ref (ad 57)]) C (fun L E => s_state (iI (x + (a 46 r1.toNat))) (iI f5) (iI 1)) dX12_may_108 kS_X12_370 rfl rfl (Nat.le_of_ble_eq_true rfl) ⟨Nat.le_of_ble_eq_true rfl, Nat.le_of_ble_eq_true rfl⟩ ⟨Nat.le_of_ble_eq_true rfl, Nat.le_of_ble_eq_true rfl⟩ ?_
                obtain ⟨sx4, hsx4⟩ : ∃ w : Int, w = 4 * (x + (a 46 r1.toNat)) + 2 * f5 + 1 := ⟨_, rfl⟩
                · refine m_st (st2 := [.int (iI sx4), .ref (ad 57)]) (by rw [stt_c (by omega), ← hsx4]) ?_
                  refine m_zald (k := 57) C dX12_may_111 rfl rfl (by decide) (by omega) (by show _ < ((_ : Nat) : Int); simp only [mlen]; omega) (by decide) ?_
                  refine hv2 (show 0 ≤ ab2 57 sx4.toNat ∧ ab2 57 sx4.toNat ≤ 1 from bxb2.2 57 (sx4.toNat)) (show ab2 57 (sx4.toNat) = a 57 (sx4.toNat) from congrFun (fpb2.2 57 rfl) (sx4.toNat)) (fun ra13 ae11 => ?_)
                  refine m_st (st2 := [.int (iI (a 57 sx4.toNat))]) (congrArg (fun z => Value.int (iI z) :: []) (congrFun (fpb2.2 57 rfl) (sx4.toNat))) ?_
                  exact m_zret C dX12_may_112 rfl (by omega) (Nat.le_of_ble_eq_true rfl) (Nat.le_of_ble_eq_true rfl) ⟨(a 57 sx4.toNat), rfl, fpb2, bxb2, (by omega)⟩
            · refine m_aload_n (j := 1) C dX12_may_44 rfl ?_
              refine m_aload_n (j := 1) C dX12_may_45 rfl ?_
              refine m_iload_n (j := 2) C dX12_may_46 rfl ?_
              refine m_iload (j := 0) C dX12_may_47 rfl ?_
              refine hv4 (show (-4) ≤ ab2 44 r1.toNat ∧ ab2 44 r1.toNat ≤ 5999 from bxb2.2 44 (r1.toNat)) (show ab2 44 (r1.toNat) = a 44 (r1.toNat) from congrFun (fpb2.2 44 rfl) (r1.toNat)) (show 0 ≤ ab2 45 r1.toNat ∧ ab2 45 r1.toNat ≤ 23999 from bxb2.2 45 (r1.toNat)) (show ab2 45 (r1.toNat) = a 45 (r1.toNat) from congrFun (fpb2.2 45 rfl) (r1.toNat)) (fun ra14 ae12 ra15 ae13 => ?_)
              refine m_call (mc2 := 0) (ms2 := 0) (As := [.int (iI r1), .int (iI k)]) (rest := [.ref h0]) C (M_rowCell (r := r1) (k := k) bxb2.rg (by omega) (by omega)) dX12_may_49 kV_X12_324 rfl ck_13 rfl (Nat.le_of_ble_eq_true rfl) ⟨Nat.le_of_ble_eq_true rfl, Nat.le_of_ble_eq_true rfl⟩ ⟨Nat.le_of_ble_eq_true rfl, Nat.le_of_ble_eq_true rfl⟩ (fun rh10 vh10 ah10 h10 => ?_)
              obtain ⟨f6, rfl, hf6, rfl, rfl⟩ := h10
              have gf6 : -2147483648 ≤ f6 ∧ f6 < 2147483648 := hf6
              refine m_st (st2 := [.int (iI f6), .ref h0]) rfl ?_
              refine m_aload_n (j := 1) C dX12_may_52 rfl ?_
              refine m_geta (k := 48) C dX12_may_53 w6_107 (by decide) rfl ?_
              refine m_iload_n (j := 3) C dX12_may_56 rfl ?_
              refine m_iload (j := 0) C dX12_may_57 rfl ?_
              refine m_iadd C dX12_may_59 ?_
              refine m_ald (k := 48) C dX12_may_60 rfl rfl (by decide) (by omega) (by show _ < ((_ : Nat) : Int); simp only [mlen]; omega) (by decide) ?_
              refine hv2 (show (-2147483648) ≤ ab2 48 (x + k).toNat ∧ ab2 48 (x + k).toNat ≤ 2147483647 from bxb2.2 48 ((x + k).toNat)) (show ab2 48 ((x + k).toNat) = a 48 ((x + k).toNat) from congrFun (fpb2.2 48 rfl) ((x + k).toNat)) (fun ra16 ae14 => ?_)
              refine m_st (st2 := [.int (iI (a 48 (x + k).toNat)), .int (iI f6), .ref h0]) (congrArg (fun z => Value.int (iI z) :: [.int (iI f6), .ref h0]) (congrFun (fpb2.2 48 rfl) ((x + k).toNat))) ?_
              refine m_call (mc2 := 0) (ms2 := 0) (As := [.int (iI f6), .int (iI (a 48 (x + k).toNat))]) (rest := []) C (M_looksLike (x := f6) (y := a 48 (x + k).toNat) bxb2 (by show -2147483648 ≤ f6 ∧ f6 ≤ 2147483647; omega) (by show -2147483648 ≤ (a 48 (x + k).toNat) ∧ (a 48 (x + k).toNat) ≤ 2147483647; omega)) dX12_may_61 kV_X12_363 rfl ck_13 rfl (Nat.le_of_ble_eq_true rfl) ⟨Nat.le_of_ble_eq_true rfl, Nat.le_of_ble_eq_true rfl⟩ ⟨Nat.le_of_ble_eq_true rfl, Nat.le_of_ble_eq_true rfl⟩ (fun rh11 vh11 ah11 h11 => ?_)
              obtain ⟨f7, rfl, fn2, bn2, ex2⟩ := h11
              obtain ⟨rfl, rfl⟩ := fn2.eq
              have gf7 : f7 = 0 ∨ f7 = 1 := ex2
              refine m_st (st2 := [.int (iI f7)]) rfl ?_
              refine m_if_ne (tgt := 69) C (r32_01 gf7) dX12_may_64 (by decide) (fun c9 => ?_) (fun c9 => ?_)
              · replace gf7 := (gf7.resolve_left c9)
                refine m_iinc (z := k) (j := 0) (lv2 := [(5, .int (iI (k + 1))), (0, .ref h0), (1, .int (iI r1)), (2, .int (iI x)), (3, .int (iI pt)), (4, .int (iI g))]) C dX12_may_69 rfl (by decide) rfl ?_
                refine m_goto (tgt := 33) C dX12_may_72 (by decide) ?_
                refine m_lv (lv2 := [(5, .int (iI (k + 1))), (0, .ref h0), (1, .int (iI r1)), (2, .int (iI x)), (3, .int (iI pt)), (4, .int (iI g))]) [0, 1, 2, 3, 4, 5] rfl ?_
                exact ih2  (k + 1) _ _ (by omega) bxb2 fpb2 (by omega)
              · clear gf7
                refine m_iconst C dX12_may_67 ?_
                exact m_zret C dX12_may_68 rfl (Or.inl rfl) (Nat.le_of_ble_eq_true rfl) (Nat.le_of_ble_eq_true rfl) ⟨0, rfl, fpb2, bxb2, (by omega)⟩
        refine m_lv (lv2 := [(5, .int (iI 0)), (0, .ref h0), (1, .int (iI r1)), (2, .int (iI x)), (3, .int (iI pt)), (4, .int (iI g))]) [0, 1, 2, 3, 4, 5] rfl ?_
        exact Lp2 6 0 _ _ (by omega) hB fp0 (by omega)
      · clear gf4
        refine m_iconst C dX12_may_28 ?_
        exact m_zret C dX12_may_29 rfl (Or.inl rfl) (Nat.le_of_ble_eq_true rfl) (Nat.le_of_ble_eq_true rfl) ⟨0, rfl, fp0, hB, (by omega)⟩
set_option maxHeartbeats 4000000 in
set_option maxRecDepth 100000 in
theorem M_mayBlank {l : Launch} {G : GT} {h0 : Nat} {ad ln : Nat → Nat} {v : Nat → Int} {a : Nat → Nat → Int}  {x g : Int} (hB : BX v a) (hx : 0 ≤ x ∧ x < v 50) (h50 : v 50 ≤ 100) (hg : g = 0 ∨ g = 1) : Mm l G yX12_mayBlank cX12_mayBlank 3 (some .boolean) 1 [.int (iI x), .int (iI g)] h0 ad ln v a 0 0 (fun r v2 a2 => ∃ f : Int, r = some (.int (iI f)) ∧ fr [] [] v a v2 a2 ∧ BX v2 a2 ∧ (f = 0 ∨ f = 1)) := by
  refine Mm.mk (by decide) (Nat.le_of_ble_eq_true rfl) ?_
  intro p e s m args below meth c A C
  have fp0 : fr [] [] v a v a := fr.refl
  refine m_iload_n (j := 2) C dX12_mayBlank_0 rfl ?_
  refine m_if_ne (tgt := 38) C ⟨by omega, by omega⟩ dX12_mayBlank_1 (by decide) (fun c1 => ?_) (fun c1 => ?_)
  · refine m_iconst C dX12_mayBlank_38 ?_
    exact m_zret C dX12_mayBlank_39 rfl (Or.inl rfl) (Nat.le_of_ble_eq_true rfl) (Nat.le_of_ble_eq_true rfl) ⟨0, rfl, fp0, hB, (by omega)⟩
  · refine m_aload_n (j := 0) C dX12_mayBlank_4 rfl ?_
    refine m_iconst C dX12_mayBlank_5 ?_
    refine m_aload_n (j := 0) C dX12_mayBlank_6 rfl ?_
    refine m_geta (k := 48) C dX12_mayBlank_7 w6_107 (by decide) rfl ?_
    refine m_iload_n (j := 1) C dX12_mayBlank_10 rfl ?_
    refine m_ald (k := 48) C dX12_mayBlank_11 rfl rfl (by decide) (by omega) (by show _ < ((_ : Nat) : Int); simp only [mlen]; omega) (by decide) ?_
    have ra1 : (-2147483648) ≤ a 48 x.toNat ∧ a 48 x.toNat ≤ 2147483647 := hB.2 48 (x.toNat)
    refine m_call (mc2 := 0) (ms2 := 0) (As := [.int (iI 0), .int (iI (a 48 x.toNat))]) (rest := []) C (M_looksLike (x := 0) (y := a 48 x.toNat) hB (by show -2147483648 ≤ (0 : Int) ∧ (0 : Int) ≤ 2147483647; omega) (by show -2147483648 ≤ (a 48 x.toNat) ∧ (a 48 x.toNat) ≤ 2147483647; omega)) dX12_mayBlank_12 kV_X12_363 rfl ck_13 rfl (Nat.le_of_ble_eq_true rfl) ⟨Nat.le_of_ble_eq_true rfl, Nat.le_of_ble_eq_true rfl⟩ ⟨Nat.le_of_ble_eq_true rfl, Nat.le_of_ble_eq_true rfl⟩ (fun rh1 vh1 ah1 h1 => ?_)
    obtain ⟨f1, rfl, fn1, bn1, ex1⟩ := h1
    obtain ⟨rfl, rfl⟩ := fn1.eq
    have gf1 : f1 = 0 ∨ f1 = 1 := ex1
    refine m_st (st2 := [.int (iI f1)]) rfl ?_
    refine m_if_eq (tgt := 38) C (r32_01 gf1) dX12_mayBlank_15 (by decide) (fun c2 => ?_) (fun c2 => ?_)
    · clear gf1
      refine m_iconst C dX12_mayBlank_38 ?_
      exact m_zret C dX12_mayBlank_39 rfl (Or.inl rfl) (Nat.le_of_ble_eq_true rfl) (Nat.le_of_ble_eq_true rfl) ⟨0, rfl, fp0, hB, (by omega)⟩
    · replace gf1 := (gf1.resolve_left c2)
      refine m_aload_n (j := 0) C dX12_mayBlank_18 rfl ?_
      refine m_geta (k := 57) C dX12_mayBlank_19 w6_116 (by decide) rfl ?_
      refine m_iload_n (j := 1) C dX12_mayBlank_22 rfl ?_
      refine m_iconst C dX12_mayBlank_23 ?_
      refine m_iadd C dX12_mayBlank_24 ?_
      refine m_iconst C dX12_mayBlank_25 ?_
      refine m_iconst C dX12_mayBlank_26 ?_
      refine m_callS (As := [.int (iI (x + 1)), .int (iI 0), .int (iI 0)]) (rest := [.ref (ad 57)]) C (fun L E => s_state (iI (x + 1)) (iI 0) (iI 0)) dX12_mayBlank_27 kS_X12_370 rfl rfl (Nat.le_of_ble_eq_true rfl) ⟨Nat.le_of_ble_eq_true rfl, Nat.le_of_ble_eq_true rfl⟩ ⟨Nat.le_of_ble_eq_true rfl, Nat.le_of_ble_eq_true rfl⟩ ?_
      obtain ⟨sx1, hsx1⟩ : ∃ w : Int, w = 4 * (x + 1) + 2 * 0 + 0 := ⟨_, rfl⟩
      · refine m_st (st2 := [.int (iI sx1), .ref (ad 57)]) (by rw [stt_c (by omega), ← hsx1]) ?_
        refine m_zald (k := 57) C dX12_mayBlank_30 rfl rfl (by decide) (by omega) (by show _ < ((_ : Nat) : Int); simp only [mlen]; omega) (by decide) ?_
        have ra2 : 0 ≤ a 57 sx1.toNat ∧ a 57 sx1.toNat ≤ 1 := hB.2 57 (sx1.toNat)
        refine m_if_eq (tgt := 38) C (r32_c (lo := 0) (hi := 1) ra2.1 ra2.2 (by decide) (by decide)) dX12_mayBlank_31 (by decide) (fun c3 => ?_) (fun c3 => ?_)
        · refine m_iconst C dX12_mayBlank_38 ?_
          exact m_zret C dX12_mayBlank_39 rfl (Or.inl rfl) (Nat.le_of_ble_eq_true rfl) (Nat.le_of_ble_eq_true rfl) ⟨0, rfl, fp0, hB, (by omega)⟩
        · refine m_iconst C dX12_mayBlank_34 ?_
          refine m_goto (tgt := 39) C dX12_mayBlank_35 (by decide) ?_
          exact m_zret C dX12_mayBlank_39 rfl (Or.inr rfl) (Nat.le_of_ble_eq_true rfl) (Nat.le_of_ble_eq_true rfl) ⟨1, rfl, fp0, hB, (by omega)⟩
set_option maxHeartbeats 4000000 in
set_option maxRecDepth 100000 in
theorem M_findCan {l : Launch} {G : GT} {h0 : Nat} {ad ln : Nat → Nat} {v : Nat → Int} {a : Nat → Nat → Int}  (hB : BX v a) (hW : RWS a) (h50 : v 50 ≤ 100) : Mm l G yX12_findCan cX12_findCan 7 none 3 [] h0 ad ln v a 0 0 (fun r v2 a2 => r = none ∧ fr [] [57] v a v2 a2 ∧ BX v2 a2 ∧ (True)) := by
  refine Mm.mk (by decide) (Nat.le_of_ble_eq_true rfl) ?_
  intro p e s m args below meth c A C
  refine hv4 (show 0 ≤ v 50 ∧ v 50 ≤ 40200 from hB.1 50) ((hW 0 (Or.inl rfl)).1) ((hW 1 (Or.inr rfl)).1) (show fr [] [57] v a v a from fr.refl) (fun r50 r470 r471 fp0 => ?_)
  refine m_aload_n (j := 0) C dX12_findCan_0 rfl ?_
  have rv1 : 0 ≤ v 50 ∧ v 50 ≤ 40200 := hB.1 50
  refine m_get (k := 50) C dX12_findCan_1 w6_109 (by decide) rfl ?_
  refine m_istore_n (lv2 := [(1, .int (iI (v 50))), (0, .ref h0)]) C dX12_findCan_4 (by decide) rfl ?_
  have Lp1 : ∀ (nn : Nat) (x : Int) (vb1 : Nat → Int) (ab1 : Nat → Nat → Int), x + 1 < (nn : Int) → BX vb1 ab1 → fr [] [57] v a vb1 ab1 → (-1 ≤ x ∧ x ≤ v 50) → mw p l e (rmq 3 0 0) s m args below meth c G A 7 (MQ below (Qm G A (fun rq Lq Eq => ∃ (vq : Nat → Int) (aq : Nat → Nat → Int), mI G h0 ad ln vq aq Lq Eq ∧ (fun r v2 a2 => r = none ∧ fr [] [57] v a v2 a2 ∧ BX v2 a2 ∧ (True)) rq vq aq)) args s 0 0 A) h0 ad ln vb1 ab1 0 0 5 [(1, .int (iI x)), (0, .ref h0)] [] := by
    intro nn
    induction nn with
    | zero =>
      intro x vb1 ab1 hm bxb1 fpb1 hx
      exact absurd hm (by omega)
    | succ nn ih1 =>
      intro x vb1 ab1 hm bxb1 fpb1 hx
      refine m_iload_n (j := 0) C dX12_findCan_5 rfl ?_
      refine m_if_lt (tgt := 151) C ⟨by omega, by omega⟩ dX12_findCan_6 (by decide) (fun c1 => ?_) (fun c1 => ?_)
      · exact m_vret C dX12_findCan_151 rfl (Nat.le_of_ble_eq_true rfl) (Nat.le_of_ble_eq_true rfl) ⟨rfl, fpb1, bxb1, trivial⟩
      · refine m_iconst C dX12_findCan_9 ?_
        refine m_istore_n (lv2 := [(2, .int (iI 0)), (1, .int (iI x)), (0, .ref h0)]) C dX12_findCan_10 (by decide) rfl ?_
        have Lp2 : ∀ (nn : Nat) (y : Int) (vb2 : Nat → Int) (ab2 : Nat → Nat → Int), 5 - y < (nn : Int) → BX vb2 ab2 → fr [] [57] v a vb2 ab2 → (0 ≤ y ∧ y ≤ 4) → mw p l e (rmq 3 0 0) s m args below meth c G A 7 (MQ below (Qm G A (fun rq Lq Eq => ∃ (vq : Nat → Int) (aq : Nat → Nat → Int), mI G h0 ad ln vq aq Lq Eq ∧ (fun r v2 a2 => r = none ∧ fr [] [57] v a v2 a2 ∧ BX v2 a2 ∧ (True)) rq vq aq)) args s 0 0 A) h0 ad ln vb2 ab2 0 0 11 [(2, .int (iI y)), (1, .int (iI x)), (0, .ref h0)] [] := by
          intro nn
          induction nn with
          | zero =>
            intro y vb2 ab2 hm bxb2 fpb2 hy
            exact absurd hm (by omega)
          | succ nn ih2 =>
            intro y vb2 ab2 hm bxb2 fpb2 hy
            refine m_iload_n (j := 0) C dX12_findCan_11 rfl ?_
            refine m_iconst C dX12_findCan_12 ?_
            refine m_icmp_ge (tgt := 145) C (r32_c (lo := 0) (hi := 4) hy.1 hy.2 (by decide) (by decide)) ⟨by decide, by decide⟩ dX12_findCan_13 (by decide) (fun c2 => ?_) (fun c2 => ?_)
            · refine m_iinc (z := x) (j := 1) (lv2 := [(1, .int (iI (x + (-1)))), (2, .int (iI y)), (0, .ref h0)]) C dX12_findCan_145 rfl (by decide) rfl ?_
              refine m_goto (tgt := 5) C dX12_findCan_148 (by decide) ?_
              refine m_lv (lv2 := [(1, .int (iI (x + (-1)))), (0, .ref h0)]) [0, 2] rfl ?_
              exact ih1  (x + (-1)) _ _ (by omega) bxb2 fpb2 (by omega)
            · refine m_iload_n (j := 0) C dX12_findCan_16 rfl ?_
              refine m_iconst C dX12_findCan_17 ?_
              obtain ⟨dq1, hdq1⟩ : ∃ q : Int, q = y / 2 := ⟨_, rfl⟩
              refine m_idiv (w := iI dq1) C dX12_findCan_18 (iI_ne0 ⟨by omega, by omega⟩) (by rw [hdq1]; exact iI_div ⟨by omega, by omega⟩ ⟨by omega, by omega⟩) ?_
              refine m_istore_n (lv2 := [(3, .int (iI dq1)), (2, .int (iI y)), (1, .int (iI x)), (0, .ref h0)]) C dX12_findCan_19 (by decide) rfl ?_
              refine m_iload_n (j := 1) C dX12_findCan_20 rfl ?_
              refine m_iconst C dX12_findCan_21 ?_
              obtain ⟨dq2, hdq2⟩ : ∃ q : Int, q = y % 2 := ⟨_, rfl⟩
              refine m_irem (w := iI dq2) C dX12_findCan_22 (iI_ne0 ⟨by omega, by omega⟩) (by rw [hdq2]; exact iI_mod ⟨by omega, by omega⟩ ⟨by omega, by omega⟩) ?_
              refine m_iconst C dX12_findCan_23 ?_
              have J1 : ∀ (g : Int) (vb3 : Nat → Int) (ab3 : Nat → Nat → Int), BX vb3 ab3 → fr [] [57] v a vb3 ab3 → (g = 0 ∨ g = 1) → mw p l e (rmq 3 0 0) s m args below meth c G A 7 (MQ below (Qm G A (fun rq Lq Eq => ∃ (vq : Nat → Int) (aq : Nat → Nat → Int), mI G h0 ad ln vq aq Lq Eq ∧ (fun r v2 a2 => r = none ∧ fr [] [57] v a v2 a2 ∧ BX v2 a2 ∧ (True)) rq vq aq)) args s 0 0 A) h0 ad ln vb3 ab3 0 0 32 [(3, .int (iI dq1)), (2, .int (iI y)), (1, .int (iI x)), (0, .ref h0)] [.int (iI g)] := by
                intro g vb3 ab3 bxb3 fpb3 hg
                refine m_istore (lv2 := [(4, .int (iI g)), (3, .int (iI dq1)), (2, .int (iI y)), (1, .int (iI x)), (0, .ref h0)]) C dX12_findCan_32 (by decide) rfl ?_
                refine m_iload_n (j := 3) C dX12_findCan_34 rfl ?_
                refine m_aload_n (j := 4) C dX12_findCan_35 rfl ?_
                refine hv2 (show 0 ≤ vb3 50 ∧ vb3 50 ≤ 40200 from bxb3.1 50) (show vb3 50 = v 50 from fpb3.1 50 rfl) (fun rv2 ve1 => ?_)
                refine m_get (k := 50) C dX12_findCan_36 w6_109 (by decide) rfl ?_
                refine m_st (st2 := [.int (iI (v 50)), .int (iI x)]) (congrArg (fun z => Value.int (iI z) :: [.int (iI x)]) (fpb3.1 50 rfl)) ?_
                have J2 : ∀ (g1 : Int) (vb4 : Nat → Int) (ab4 : Nat → Nat → Int), BX vb4 ab4 → fr [] [57] v a vb4 ab4 → (g1 = 0 ∨ g1 = 1) → mw p l e (rmq 3 0 0) s m args below meth c G A 7 (MQ below (Qm G A (fun rq Lq Eq => ∃ (vq : Nat → Int) (aq : Nat → Nat → Int), mI G h0 ad ln vq aq Lq Eq ∧ (fun r v2 a2 => r = none ∧ fr [] [57] v a v2 a2 ∧ BX v2 a2 ∧ (True)) rq vq aq)) args s 0 0 A) h0 ad ln vb4 ab4 0 0 70 [(4, .int (iI g)), (3, .int (iI dq1)), (2, .int (iI y)), (1, .int (iI x)), (0, .ref h0)] [.int (iI g1)] := by
                  intro g1 vb4 ab4 bxb4 fpb4 hg1
                  refine m_istore (lv2 := [(5, .int (iI g1)), (4, .int (iI g)), (3, .int (iI dq1)), (2, .int (iI y)), (1, .int (iI x)), (0, .ref h0)]) C dX12_findCan_70 (by decide) rfl ?_
                  refine m_sipush (z := 6008) C dX12_findCan_72 (by decide) ?_
                  refine m_iload_n (j := 2) C dX12_findCan_75 rfl ?_
                  refine m_imul C dX12_findCan_76 ?_
                  refine m_istore (lv2 := [(6, .int (iI (6008 * dq1))), (5, .int (iI g1)), (4, .int (iI g)), (3, .int (iI dq1)), (2, .int (iI y)), (1, .int (iI x)), (0, .ref h0)]) C dX12_findCan_77 (by decide) rfl ?_
                  have Lp3 : ∀ (nn : Nat) (g2 r : Int) (vb5 : Nat → Int) (ab5 : Nat → Nat → Int), 6008 * dq1 + 6009 - r < (nn : Int) → BX vb5 ab5 → fr [] [57] v a vb5 ab5 → (g2 = 0 ∨ g2 = 1) → (6008 * dq1 ≤ r ∧ r ≤ 6008 * dq1 + 6008) → mw p l e (rmq 3 0 0) s m args below meth c G A 7 (MQ below (Qm G A (fun rq Lq Eq => ∃ (vq : Nat → Int) (aq : Nat → Nat → Int), mI G h0 ad ln vq aq Lq Eq ∧ (fun r v2 a2 => r = none ∧ fr [] [57] v a v2 a2 ∧ BX v2 a2 ∧ (True)) rq vq aq)) args s 0 0 A) h0 ad ln vb5 ab5 0 0 79 [(6, .int (iI r)), (5, .int (iI g2)), (4, .int (iI g)), (3, .int (iI dq1)), (2, .int (iI y)), (1, .int (iI x)), (0, .ref h0)] [] := by
                    intro nn
                    induction nn with
                    | zero =>
                      intro g2 r vb5 ab5 hm bxb5 fpb5 hg2 hr
                      exact absurd hm (by omega)
                    | succ nn ih3 =>
                      intro g2 r vb5 ab5 hm bxb5 fpb5 hg2 hr
                      refine m_iload (j := 0) C dX12_findCan_79 rfl ?_
                      refine m_sipush (z := 6008) C dX12_findCan_81 (by decide) ?_
                      refine m_iload_n (j := 3) C dX12_findCan_84 rfl ?_
                      refine m_imul C dX12_findCan_85 ?_
                      refine m_aload_n (j := 6) C dX12_findCan_86 rfl ?_
                      refine m_geta (k := 47) C dX12_findCan_87 w6_106 (by decide) rfl ?_
                      refine m_iload_n (j := 3) C dX12_findCan_90 rfl ?_
                      refine m_ald (k := 47) C dX12_findCan_91 rfl rfl (by decide) (by omega) (by show _ < ((_ : Nat) : Int); simp only [mlen]; omega) (by decide) ?_
                      refine hv2 (show 0 ≤ ab5 47 dq1.toNat ∧ ab5 47 dq1.toNat ≤ 6008 from bxb5.2 47 (dq1.toNat)) (show ab5 47 (dq1.toNat) = a 47 (dq1.toNat) from congrFun (fpb5.2 47 rfl) (dq1.toNat)) (fun ra1 ae1 => ?_)
                      refine m_st (st2 := [.int (iI (a 47 dq1.toNat)), .int (iI (6008 * dq1)), .int (iI r)]) (congrArg (fun z => Value.int (iI z) :: [.int (iI (6008 * dq1)), .int (iI r)]) (congrFun (fpb5.2 47 rfl) (dq1.toNat))) ?_
                      refine m_iadd C dX12_findCan_92 ?_
                      refine m_icmp_ge (tgt := 127) C ⟨by omega, by omega⟩ ⟨by omega, by omega⟩ dX12_findCan_93 (by decide) (fun c3 => ?_) (fun c3 => ?_)
                      · refine m_aload_n (j := 6) C dX12_findCan_127 rfl ?_
                        refine m_geta (k := 57) C dX12_findCan_128 w6_116 (by decide) rfl ?_
                        refine m_iconst C dX12_findCan_131 ?_
                        refine m_iload_n (j := 5) C dX12_findCan_132 rfl ?_
                        refine m_imul C dX12_findCan_133 ?_
                        refine m_iload_n (j := 4) C dX12_findCan_134 rfl ?_
                        refine m_iadd C dX12_findCan_135 ?_
                        refine m_iload (j := 1) C dX12_findCan_136 rfl ?_
                        refine m_zast (k := 57) (w := g2) C dX12_findCan_138 rfl rfl (by decide) (by omega) (by show _ < ((_ : Nat) : Int); simp only [mlen]; omega) (by decide) (by omega) ?_
                        refine hv2 (show BX vb5 (up2 ab5 57 ((4 * x) + y).toNat g2) from bxb5.set (k := 57) (i := ((4 * x) + y).toNat) (z := g2) (show 0 ≤ g2 ∧ g2 ≤ 1 by omega)) (fpb5.set (k := 57) (i := ((4 * x) + y).toNat) (z := g2) rfl) (fun bq1 fq1 => ?_)
                        refine m_iinc (z := y) (j := 4) (lv2 := [(2, .int (iI (y + 1))), (6, .int (iI r)), (5, .int (iI g2)), (4, .int (iI g)), (3, .int (iI dq1)), (1, .int (iI x)), (0, .ref h0)]) C dX12_findCan_139 rfl (by decide) rfl ?_
                        refine m_goto (tgt := 11) C dX12_findCan_142 (by decide) ?_
                        refine m_lv (lv2 := [(2, .int (iI (y + 1))), (1, .int (iI x)), (0, .ref h0)]) [0, 5, 6] rfl ?_
                        exact ih2  (y + 1) _ _ (by omega) bq1 fq1 (by omega)
                      · refine m_iload (j := 1) C dX12_findCan_96 rfl ?_
                        refine m_if_ne (tgt := 127) C (r32_01 hg2) dX12_findCan_98 (by decide) (fun c4 => ?_) (fun c4 => ?_)
                        · replace hg2 := (hg2.resolve_left c4)
                          refine m_aload_n (j := 6) C dX12_findCan_127 rfl ?_
                          refine m_geta (k := 57) C dX12_findCan_128 w6_116 (by decide) rfl ?_
                          refine m_iconst C dX12_findCan_131 ?_
                          refine m_iload_n (j := 5) C dX12_findCan_132 rfl ?_
                          refine m_imul C dX12_findCan_133 ?_
                          refine m_iload_n (j := 4) C dX12_findCan_134 rfl ?_
                          refine m_iadd C dX12_findCan_135 ?_
                          refine m_iload (j := 1) C dX12_findCan_136 rfl ?_
                          refine m_zast (k := 57) (w := g2) C dX12_findCan_138 rfl rfl (by decide) (by omega) (by show _ < ((_ : Nat) : Int); simp only [mlen]; omega) (by decide) (by omega) ?_
                          refine hv2 (show BX vb5 (up2 ab5 57 ((4 * x) + y).toNat g2) from bxb5.set (k := 57) (i := ((4 * x) + y).toNat) (z := g2) (show 0 ≤ g2 ∧ g2 ≤ 1 by omega)) (fpb5.set (k := 57) (i := ((4 * x) + y).toNat) (z := g2) rfl) (fun bq2 fq2 => ?_)
                          refine m_iinc (z := y) (j := 4) (lv2 := [(2, .int (iI (y + 1))), (6, .int (iI r)), (5, .int (iI g2)), (4, .int (iI g)), (3, .int (iI dq1)), (1, .int (iI x)), (0, .ref h0)]) C dX12_findCan_139 rfl (by decide) rfl ?_
                          refine m_goto (tgt := 11) C dX12_findCan_142 (by decide) ?_
                          refine m_lv (lv2 := [(2, .int (iI (y + 1))), (1, .int (iI x)), (0, .ref h0)]) [0, 5, 6] rfl ?_
                          exact ih2  (y + 1) _ _ (by omega) bq2 fq2 (by omega)
                        · clear hg2
                          refine m_iload_n (j := 5) C dX12_findCan_101 rfl ?_
                          refine m_aload_n (j := 6) C dX12_findCan_102 rfl ?_
                          refine hv2 (show 0 ≤ vb5 50 ∧ vb5 50 ≤ 40200 from bxb5.1 50) (show vb5 50 = v 50 from fpb5.1 50 rfl) (fun rv3 ve2 => ?_)
                          refine m_get (k := 50) C dX12_findCan_103 w6_109 (by decide) rfl ?_
                          refine m_st (st2 := [.int (iI (v 50)), .int (iI x)]) (congrArg (fun z => Value.int (iI z) :: [.int (iI x)]) (fpb5.1 50 rfl)) ?_
                          refine m_icmp_ge (tgt := 127) C ⟨by omega, by omega⟩ (r32_c (lo := 0) (hi := 40200) rv1.1 rv1.2 (by decide) (by decide)) dX12_findCan_106 (by decide) (fun c5 => ?_) (fun c5 => ?_)
                          · refine m_aload_n (j := 6) C dX12_findCan_127 rfl ?_
                            refine m_geta (k := 57) C dX12_findCan_128 w6_116 (by decide) rfl ?_
                            refine m_iconst C dX12_findCan_131 ?_
                            refine m_iload_n (j := 5) C dX12_findCan_132 rfl ?_
                            refine m_imul C dX12_findCan_133 ?_
                            refine m_iload_n (j := 4) C dX12_findCan_134 rfl ?_
                            refine m_iadd C dX12_findCan_135 ?_
                            refine m_iload (j := 1) C dX12_findCan_136 rfl ?_
                            refine m_zast (k := 57) (w := g2) C dX12_findCan_138 rfl rfl (by decide) (by omega) (by show _ < ((_ : Nat) : Int); simp only [mlen]; omega) (by decide) (by omega) ?_
                            refine hv2 (show BX vb5 (up2 ab5 57 ((4 * x) + y).toNat g2) from bxb5.set (k := 57) (i := ((4 * x) + y).toNat) (z := g2) (show 0 ≤ g2 ∧ g2 ≤ 1 by omega)) (fpb5.set (k := 57) (i := ((4 * x) + y).toNat) (z := g2) rfl) (fun bq3 fq3 => ?_)
                            refine m_iinc (z := y) (j := 4) (lv2 := [(2, .int (iI (y + 1))), (6, .int (iI r)), (5, .int (iI g2)), (4, .int (iI g)), (3, .int (iI dq1)), (1, .int (iI x)), (0, .ref h0)]) C dX12_findCan_139 rfl (by decide) rfl ?_
                            refine m_goto (tgt := 11) C dX12_findCan_142 (by decide) ?_
                            refine m_lv (lv2 := [(2, .int (iI (y + 1))), (1, .int (iI x)), (0, .ref h0)]) [0, 5, 6] rfl ?_
                            exact ih2  (y + 1) _ _ (by omega) bq3 fq3 (by omega)
                          · refine m_aload_n (j := 6) C dX12_findCan_109 rfl ?_
                            refine m_iload (j := 0) C dX12_findCan_110 rfl ?_
                            refine m_iload_n (j := 5) C dX12_findCan_112 rfl ?_
                            refine m_iload_n (j := 3) C dX12_findCan_113 rfl ?_
                            refine m_iload (j := 2) C dX12_findCan_114 rfl ?_
                            refine hv7 (show RowOK a r from (hW (dq1) (by omega)).2 r (by omega) (by omega)) (show (-4) ≤ ab5 44 r.toNat ∧ ab5 44 r.toNat ≤ 5999 from bxb5.2 44 (r.toNat)) (show ab5 44 (r.toNat) = a 44 (r.toNat) from congrFun (fpb5.2 44 rfl) (r.toNat)) (show 0 ≤ ab5 46 r.toNat ∧ ab5 46 r.toNat ≤ 4 from bxb5.2 46 (r.toNat)) (show ab5 46 (r.toNat) = a 46 (r.toNat) from congrFun (fpb5.2 46 rfl) (r.toNat)) (show 0 ≤ ab5 45 r.toNat ∧ ab5 45 r.toNat ≤ 23999 from bxb5.2 45 (r.toNat)) (show ab5 45 (r.toNat) = a 45 (r.toNat) from congrFun (fpb5.2 45 rfl) (r.toNat)) (fun ro ra2 ae2 ra3 ae3 ra4 ae4 => ?_)
                            refine hv4 (ro.1) (ro.2.1) (ro.2.2.1) (ro.2.2.2) (fun ro1 ro2 ro3 ro4 => ?_)
                            refine m_call (mc2 := 0) (ms2 := 0) (As := [.int (iI r), .int (iI x), .int (iI dq1), .int (iI g)]) (rest := []) C (M_may (r1 := r) (x := x) (pt := dq1) (g := g) bxb5 (by show 0 ≤ r ∧ r < 12016; omega) (by show -4 ≤ ab5 44 r.toNat ∧ ab5 44 r.toNat < 6000; omega) (by show 1 ≤ ab5 46 r.toNat ∧ ab5 46 r.toNat ≤ 4; omega) (by show 0 ≤ ab5 45 r.toNat ∧ (0 ≤ ab5 44 r.toNat → ab5 45 r.toNat + ab5 46 r.toNat ≤ 24000) ∧ (ab5 44 r.toNat < 0 → ab5 45 r.toNat + ab5 46 r.toNat ≤ 480); omega) (by show 0 ≤ x ∧ x ≤ 100; omega) (by show (vb5 50) ≤ 100; omega) (by show dq1 = 0 ∨ dq1 = 1; omega) (by show g = 0 ∨ g = 1; omega)) dX12_findCan_116 kV_X12_378 rfl ck_13 rfl (Nat.le_of_ble_eq_true rfl) ⟨Nat.le_of_ble_eq_true rfl, Nat.le_of_ble_eq_true rfl⟩ ⟨Nat.le_of_ble_eq_true rfl, Nat.le_of_ble_eq_true rfl⟩ (fun rh1 vh1 ah1 h1 => ?_)
                            obtain ⟨f1, rfl, fn1, bn1, ex1⟩ := h1
                            obtain ⟨rfl, rfl⟩ := fn1.eq
                            have gf1 : f1 = 0 ∨ (f1 = 1 ∧ x + ab5 46 r.toNat ≤ (vb5 50)) := ex1
                            refine m_st (st2 := [.int (iI f1)]) rfl ?_
                            refine m_istore (lv2 := [(5, .int (iI f1)), (6, .int (iI r)), (4, .int (iI g)), (3, .int (iI dq1)), (2, .int (iI y)), (1, .int (iI x)), (0, .ref h0)]) C dX12_findCan_119 (by decide) rfl ?_
                            refine m_iinc (z := r) (j := 1) (lv2 := [(6, .int (iI (r + 1))), (5, .int (iI f1)), (4, .int (iI g)), (3, .int (iI dq1)), (2, .int (iI y)), (1, .int (iI x)), (0, .ref h0)]) C dX12_findCan_121 rfl (by decide) rfl ?_
                            refine m_goto (tgt := 79) C dX12_findCan_124 (by decide) ?_
                            refine m_lv (lv2 := [(6, .int (iI (r + 1))), (5, .int (iI f1)), (4, .int (iI g)), (3, .int (iI dq1)), (2, .int (iI y)), (1, .int (iI x)), (0, .ref h0)]) [0, 1, 2, 3, 4, 5, 6] rfl ?_
                            exact ih3  f1 (r + 1) _ _ (by omega) bxb5 fpb5 (by omega) (by omega)
                  refine m_lv (lv2 := [(6, .int (iI (6008 * dq1))), (5, .int (iI g1)), (4, .int (iI g)), (3, .int (iI dq1)), (2, .int (iI y)), (1, .int (iI x)), (0, .ref h0)]) [0, 1, 2, 3, 4, 5, 6] rfl ?_
                  exact Lp3 6010 g1 (6008 * dq1) _ _ (by omega) bxb4 fpb4 (by omega) (by omega)
                refine m_icmp_ne (tgt := 47) C ⟨by omega, by omega⟩ (r32_c (lo := 0) (hi := 40200) rv1.1 rv1.2 (by decide) (by decide)) dX12_findCan_39 (by decide) (fun c6 => ?_) (fun c6 => ?_)
                · refine m_iload_n (j := 3) C dX12_findCan_47 rfl ?_
                  refine m_aload_n (j := 4) C dX12_findCan_48 rfl ?_
                  refine m_get (k := 50) C dX12_findCan_49 w6_109 (by decide) rfl ?_
                  refine m_st (st2 := [.int (iI (v 50)), .int (iI x)]) (congrArg (fun z => Value.int (iI z) :: [.int (iI x)]) (fpb3.1 50 rfl)) ?_
                  refine m_icmp_ge (tgt := 69) C ⟨by omega, by omega⟩ (r32_c (lo := 0) (hi := 40200) rv1.1 rv1.2 (by decide) (by decide)) dX12_findCan_52 (by decide) (fun c7 => ?_) (fun c7 => ?_)
                  · refine m_iconst C dX12_findCan_69 ?_
                    refine m_lv (lv2 := [(4, .int (iI g)), (3, .int (iI dq1)), (2, .int (iI y)), (1, .int (iI x)), (0, .ref h0)]) [0, 1, 2, 3, 4] rfl ?_
                    exact J2  0 _ _  bxb3 fpb3 (by omega)
                  · refine m_aload_n (j := 4) C dX12_findCan_55 rfl ?_
                    refine m_iload_n (j := 3) C dX12_findCan_56 rfl ?_
                    refine m_iload (j := 0) C dX12_findCan_57 rfl ?_
                    refine m_call (mc2 := 0) (ms2 := 0) (As := [.int (iI x), .int (iI g)]) (rest := []) C (M_mayBlank (x := x) (g := g) bxb3 (by show 0 ≤ x ∧ x < (vb3 50); omega) (by show (vb3 50) ≤ 100; omega) (by show g = 0 ∨ g = 1; omega)) dX12_findCan_59 kV_X12_374 rfl ck_13 rfl (Nat.le_of_ble_eq_true rfl) ⟨Nat.le_of_ble_eq_true rfl, Nat.le_of_ble_eq_true rfl⟩ ⟨Nat.le_of_ble_eq_true rfl, Nat.le_of_ble_eq_true rfl⟩ (fun rh2 vh2 ah2 h2 => ?_)
                    obtain ⟨f2, rfl, fn2, bn2, ex2⟩ := h2
                    obtain ⟨rfl, rfl⟩ := fn2.eq
                    have gf2 : f2 = 0 ∨ f2 = 1 := ex2
                    refine m_st (st2 := [.int (iI f2)]) rfl ?_
                    refine m_if_eq (tgt := 69) C (r32_01 gf2) dX12_findCan_62 (by decide) (fun c8 => ?_) (fun c8 => ?_)
                    · clear gf2
                      refine m_iconst C dX12_findCan_69 ?_
                      refine m_lv (lv2 := [(4, .int (iI g)), (3, .int (iI dq1)), (2, .int (iI y)), (1, .int (iI x)), (0, .ref h0)]) [0, 1, 2, 3, 4] rfl ?_
                      exact J2  0 _ _  bxb3 fpb3 (by omega)
                    · replace gf2 := (gf2.resolve_left c8)
                      refine m_iconst C dX12_findCan_65 ?_
                      refine m_goto (tgt := 70) C dX12_findCan_66 (by decide) ?_
                      refine m_lv (lv2 := [(4, .int (iI g)), (3, .int (iI dq1)), (2, .int (iI y)), (1, .int (iI x)), (0, .ref h0)]) [0, 1, 2, 3, 4] rfl ?_
                      exact J2  1 _ _  bxb3 fpb3 (by omega)
                · refine m_iload (j := 0) C dX12_findCan_42 rfl ?_
                  refine m_if_eq (tgt := 65) C (r32_01 hg) dX12_findCan_44 (by decide) (fun c9 => ?_) (fun c9 => ?_)
                  · clear hg
                    refine m_iconst C dX12_findCan_65 ?_
                    refine m_goto (tgt := 70) C dX12_findCan_66 (by decide) ?_
                    refine m_lv (lv2 := [(4, .int (iI g)), (3, .int (iI dq1)), (2, .int (iI y)), (1, .int (iI x)), (0, .ref h0)]) [0, 1, 2, 3, 4] rfl ?_
                    exact J2  1 _ _  bxb3 fpb3 (by omega)
                  · replace hg := (hg.resolve_left c9)
                    refine m_iload_n (j := 3) C dX12_findCan_47 rfl ?_
                    refine m_aload_n (j := 4) C dX12_findCan_48 rfl ?_
                    refine m_get (k := 50) C dX12_findCan_49 w6_109 (by decide) rfl ?_
                    refine m_st (st2 := [.int (iI (v 50)), .int (iI x)]) (congrArg (fun z => Value.int (iI z) :: [.int (iI x)]) (fpb3.1 50 rfl)) ?_
                    refine m_icmp_ge (tgt := 69) C ⟨by omega, by omega⟩ (r32_c (lo := 0) (hi := 40200) rv1.1 rv1.2 (by decide) (by decide)) dX12_findCan_52 (by decide) (fun _ => ?_) (fun z => absurd z (by omega))
                    refine m_iconst C dX12_findCan_69 ?_
                    refine m_lv (lv2 := [(4, .int (iI g)), (3, .int (iI dq1)), (2, .int (iI y)), (1, .int (iI x)), (0, .ref h0)]) [0, 1, 2, 3, 4] rfl ?_
                    exact J2  0 _ _  bxb3 fpb3 (by omega)
              refine m_icmp_ne (tgt := 31) C ⟨by omega, by omega⟩ ⟨by decide, by decide⟩ dX12_findCan_24 (by decide) (fun c10 => ?_) (fun c10 => ?_)
              · refine m_iconst C dX12_findCan_31 ?_
                refine m_lv (lv2 := [(3, .int (iI dq1)), (2, .int (iI y)), (1, .int (iI x)), (0, .ref h0)]) [0, 1, 2, 3] rfl ?_
                exact J1  0 _ _  bxb2 fpb2 (by omega)
              · refine m_iconst C dX12_findCan_27 ?_
                refine m_goto (tgt := 32) C dX12_findCan_28 (by decide) ?_
                refine m_lv (lv2 := [(3, .int (iI dq1)), (2, .int (iI y)), (1, .int (iI x)), (0, .ref h0)]) [0, 1, 2, 3] rfl ?_
                exact J1  1 _ _  bxb2 fpb2 (by omega)
        refine m_lv (lv2 := [(2, .int (iI 0)), (1, .int (iI x)), (0, .ref h0)]) [0, 1, 2] rfl ?_
        exact Lp2 6 0 _ _ (by omega) bxb1 fpb1 (by omega)
  refine m_lv (lv2 := [(1, .int (iI (v 50))), (0, .ref h0)]) [0, 1] rfl ?_
  exact Lp1 102 (v 50) _ _ (by omega) hB fp0 (by omega)
set_option maxHeartbeats 4000000 in
set_option maxRecDepth 100000 in
theorem B_keep {l : Launch} {G : GT} {h0 : Nat} {ad ln : Nat → Nat} {v : Nat → Int} {a : Nat → Nat → Int}  (hB : BX v a) (h60 : v 60 ≤ v 64) : Mm l G yX12_keep cX12_keep 2 none 0 [] h0 ad ln v a 0 0 (fun r v2 a2 => r = none ∧ fr [60, 61] [58, 59] v a v2 a2 ∧ BX v2 a2 ∧ (v2 60 ≤ v 64)) := by
  refine Mm.mk (by decide) (Nat.le_of_ble_eq_true rfl) ?_
  intro p e s m args below meth c A C
  refine hv3 (show 0 ≤ v 64 ∧ v 64 ≤ 50 from hB.1 64) (show 0 ≤ v 60 ∧ v 60 ≤ 50 from hB.1 60) (show fr [60, 61] [58, 59] v a v a from fr.refl) (fun r64 r60 fp0 => ?_)
  refine m_aload_n (j := 0) C dX12_keep_0 rfl ?_
  have rv1 : 0 ≤ v 60 ∧ v 60 ≤ 50 := hB.1 60
  refine m_get (k := 60) C dX12_keep_1 w6_119 (by decide) rfl ?_
  refine m_aload_n (j := 0) C dX12_keep_4 rfl ?_
  have rv2 : 0 ≤ v 64 ∧ v 64 ≤ 50 := hB.1 64
  refine m_get (k := 64) C dX12_keep_5 w6_123 (by decide) rfl ?_
  refine m_icmp_ne (tgt := 17) C (r32_c (lo := 0) (hi := 50) rv1.1 rv1.2 (by decide) (by decide)) (r32_c (lo := 0) (hi := 50) rv2.1 rv2.2 (by decide) (by decide)) dX12_keep_8 (by decide) (fun c1 => ?_) (fun c1 => ?_)
  · refine m_iconst C dX12_keep_17 ?_
    refine m_istore_n (lv2 := [(1, .int (iI 0)), (0, .ref h0)]) C dX12_keep_18 (by decide) rfl ?_
    have Lp1 : ∀ (nn : Nat) (k : Int) (vb1 : Nat → Int) (ab1 : Nat → Nat → Int), 809 - k < (nn : Int) → BX vb1 ab1 → fr [60, 61] [58, 59] v a vb1 ab1 → (0 ≤ k ∧ k ≤ 808) → (vb1 60 = v 60) → mw p l e (rmq 0 0 0) s m args below meth c G A 2 (MQ below (Qm G A (fun rq Lq Eq => ∃ (vq : Nat → Int) (aq : Nat → Nat → Int), mI G h0 ad ln vq aq Lq Eq ∧ (fun r v2 a2 => r = none ∧ fr [60, 61] [58, 59] v a v2 a2 ∧ BX v2 a2 ∧ (v2 60 ≤ v 64)) rq vq aq)) args s 0 0 A) h0 ad ln vb1 ab1 0 0 19 [(1, .int (iI k)), (0, .ref h0)] [] := by
      intro nn
      induction nn with
      | zero =>
        intro k vb1 ab1 hm bxb1 fpb1 hk h602
        exact absurd hm (by omega)
      | succ nn ih1 =>
        intro k vb1 ab1 hm bxb1 fpb1 hk h602
        refine m_iload_n (j := 0) C dX12_keep_19 rfl ?_
        refine m_aload_n (j := 1) C dX12_keep_20 rfl ?_
        refine hv2 (show 0 ≤ vb1 63 ∧ vb1 63 ≤ 808 from bxb1.1 63) (show vb1 63 = v 63 from fpb1.1 63 rfl) (fun rv3 ve1 => ?_)
        refine m_get (k := 63) C dX12_keep_21 w6_122 (by decide) rfl ?_
        refine m_st (st2 := [.int (iI (v 63)), .int (iI k)]) (congrArg (fun z => Value.int (iI z) :: [.int (iI k)]) (fpb1.1 63 rfl)) ?_
        refine m_icmp_ge (tgt := 54) C (r32_c (lo := 0) (hi := 808) hk.1 hk.2 (by decide) (by decide)) (r32_c (lo := 0) (hi := 808) (Int.le_trans rv3.1 (Int.le_of_eq ve1)) (Int.le_trans (Int.le_of_eq ve1.symm) rv3.2) (by decide) (by decide)) dX12_keep_24 (by decide) (fun c2 => ?_) (fun c2 => ?_)
        · refine m_aload_n (j := 1) C dX12_keep_54 rfl ?_
          refine m_geta (k := 59) C dX12_keep_55 w6_118 (by decide) rfl ?_
          refine m_aload_n (j := 1) C dX12_keep_58 rfl ?_
          have rv4 : 0 ≤ vb1 60 ∧ vb1 60 ≤ 50 := bxb1.1 60
          refine m_get (k := 60) C dX12_keep_59 w6_119 (by decide) rfl ?_
          refine m_aload_n (j := 1) C dX12_keep_62 rfl ?_
          refine m_get (k := 63) C dX12_keep_63 w6_122 (by decide) rfl ?_
          refine m_st (st2 := [.int (iI (v 63)), .int (iI (vb1 60)), .ref (ad 59)]) (congrArg (fun z => Value.int (iI z) :: [.int (iI (vb1 60)), .ref (ad 59)]) (fpb1.1 63 rfl)) ?_
          refine m_ast (k := 59) C dX12_keep_66 rfl rfl (by decide) (by omega) (by show _ < ((_ : Nat) : Int); simp only [mlen]; omega) (by decide) ?_
          refine hv2 (show BX vb1 (up2 ab1 59 (vb1 60).toNat (v 63)) from bxb1.set (k := 59) (i := (vb1 60).toNat) (z := v 63) (show 0 ≤ (v 63) ∧ (v 63) ≤ 808 by omega)) (fpb1.set (k := 59) (i := (vb1 60).toNat) (z := v 63) rfl) (fun bq1 fq1 => ?_)
          refine m_aload_n (j := 1) C dX12_keep_67 rfl ?_
          refine m_dup C dX12_keep_68 rfl ?_
          refine m_get (k := 60) C dX12_keep_69 w6_119 (by decide) rfl ?_
          refine m_iconst C dX12_keep_72 ?_
          refine m_iadd C dX12_keep_73 ?_
          refine m_put (k := 60) (z := (vb1 60) + 1) C dX12_keep_74 w6_119 (by decide) rfl rfl rfl ?_
          refine hv2 (show BX (va_up vb1 60 ((vb1 60) + 1)) (up2 ab1 59 (vb1 60).toNat (v 63)) from bq1.put (k := 60) (z := (vb1 60) + 1) (show 0 ≤ ((vb1 60) + 1) ∧ ((vb1 60) + 1) ≤ 50 by omega)) (fq1.put (k := 60) (z := (vb1 60) + 1) rfl) (fun bq2 fq2 => ?_)
          exact m_vret C dX12_keep_77 rfl (Nat.le_of_ble_eq_true rfl) (Nat.le_of_ble_eq_true rfl) ⟨rfl, fq2, bq2, (by show ((vb1 60) + 1) ≤ (v 64); omega)⟩
        · refine m_aload_n (j := 1) C dX12_keep_27 rfl ?_
          refine m_geta (k := 58) C dX12_keep_28 w6_117 (by decide) rfl ?_
          refine m_sipush (z := 808) C dX12_keep_31 (by decide) ?_
          refine m_aload_n (j := 1) C dX12_keep_34 rfl ?_
          have rv5 : 0 ≤ vb1 60 ∧ vb1 60 ≤ 50 := bxb1.1 60
          refine m_get (k := 60) C dX12_keep_35 w6_119 (by decide) rfl ?_
          refine m_imul C dX12_keep_38 ?_
          refine m_iload_n (j := 0) C dX12_keep_39 rfl ?_
          refine m_iadd C dX12_keep_40 ?_
          refine m_aload_n (j := 1) C dX12_keep_41 rfl ?_
          refine m_geta (k := 62) C dX12_keep_42 w6_121 (by decide) rfl ?_
          refine m_iload_n (j := 0) C dX12_keep_45 rfl ?_
          refine m_ald (k := 62) C dX12_keep_46 rfl rfl (by decide) hk.1 (Int.lt_of_le_of_lt hk.2 (by decide)) (by decide) ?_
          refine hv2 (show (-2147483648) ≤ ab1 62 k.toNat ∧ ab1 62 k.toNat ≤ 2147483647 from bxb1.2 62 (k.toNat)) (show ab1 62 (k.toNat) = a 62 (k.toNat) from congrFun (fpb1.2 62 rfl) (k.toNat)) (fun ra1 ae1 => ?_)
          refine m_st (st2 := [.int (iI (a 62 k.toNat)), .int (iI ((808 * (vb1 60)) + k)), .ref (ad 58)]) (congrArg (fun z => Value.int (iI z) :: [.int (iI ((808 * (vb1 60)) + k)), .ref (ad 58)]) (congrFun (fpb1.2 62 rfl) (k.toNat))) ?_
          refine m_ast (k := 58) C dX12_keep_47 rfl rfl (by decide) (by omega) (by show _ < ((_ : Nat) : Int); simp only [mlen]; omega) (by decide) ?_
          refine hv2 (show BX vb1 (up2 ab1 58 ((808 * (vb1 60)) + k).toNat (a 62 k.toNat)) from bxb1.set (k := 58) (i := ((808 * (vb1 60)) + k).toNat) (z := a 62 k.toNat) (show (-2147483648) ≤ (a 62 k.toNat) ∧ (a 62 k.toNat) ≤ 2147483647 by omega)) (fpb1.set (k := 58) (i := ((808 * (vb1 60)) + k).toNat) (z := a 62 k.toNat) rfl) (fun bq3 fq3 => ?_)
          refine m_iinc (z := k) (j := 0) (lv2 := [(1, .int (iI (k + 1))), (0, .ref h0)]) C dX12_keep_48 rfl (by decide) rfl ?_
          refine m_goto (tgt := 19) C dX12_keep_51 (by decide) ?_
          refine m_lv (lv2 := [(1, .int (iI (k + 1))), (0, .ref h0)]) [0, 1] rfl ?_
          exact ih1  (k + 1) _ _ (by omega) bq3 fq3 (by omega) (by show (vb1 60) = v 60; omega)
    refine m_lv (lv2 := [(1, .int (iI 0)), (0, .ref h0)]) [0, 1] rfl ?_
    exact Lp1 810 0 _ _ (by omega) hB fp0 (by omega) (by show (v 60) = v 60; omega)
  · refine m_aload_n (j := 0) C dX12_keep_11 rfl ?_
    refine m_iconst C dX12_keep_12 ?_
    refine m_put (k := 61) (z := 1) C dX12_keep_13 w6_120 (by decide) rfl rfl rfl ?_
    refine hv2 (show BX (va_up v 61 1) a from hB.put (k := 61) (z := 1) ⟨by decide, by decide⟩) (fp0.put (k := 61) (z := 1) rfl) (fun bq4 fq4 => ?_)
    exact m_vret C dX12_keep_16 rfl (Nat.le_of_ble_eq_true rfl) (Nat.le_of_ble_eq_true rfl) ⟨rfl, fq4, bq4, (by show (v 60) ≤ (v 64); omega)⟩
def GoC (l : Launch) (G : GT) (h0 : Nat) (ad ln : Nat → Nat) (d : Nat) (x : Int) : Prop := ∀ (v : Nat → Int) (a : Nat → Nat → Int) (pt g : Int), BX v a → RWS a → v 50 ≤ 100 → (0 ≤ x ∧ x ≤ v 50) → (pt = 0 ∨ pt = 1) → (g = 0 ∨ g = 1) → v 60 ≤ v 64 → v 63 ≤ 8 * x → Mm l G yX12_go cX12_go 8 none d [.int (iI x), .int (iI pt), .int (iI g)] h0 ad ln v a 0 0 (fun r v2 a2 => r = none ∧ fr [60, 61, 63] [58, 59, 62] v a v2 a2 ∧ BX v2 a2 ∧ (v2 60 ≤ v 64 ∧ v2 63 = v 63))
set_option maxHeartbeats 4000000 in
set_option maxRecDepth 100000 in
theorem M_go1 {l : Launch} {G : GT} {h0 : Nat} {ad ln : Nat → Nat} {v : Nat → Int} {a : Nat → Nat → Int} {d : Nat} {x pt g : Int} (hB : BX v a) (hW : RWS a) (h50 : v 50 ≤ 100) (hx : 0 ≤ x ∧ x ≤ v 50) (hp : pt = 0 ∨ pt = 1) (hg : g = 0 ∨ g = 1) (h60 : v 60 ≤ v 64) (h63 : v 63 ≤ 8 * x) (hd : 3 ≤ d) (hf : ∀ b : Int, x < b → GoC l G h0 ad ln d b) : Mm l G yX12_go cX12_go 8 none (d + 1) [.int (iI x), .int (iI pt), .int (iI g)] h0 ad ln v a 0 0 (fun r v2 a2 => r = none ∧ fr [60, 61, 63] [58, 59, 62] v a v2 a2 ∧ BX v2 a2 ∧ (v2 60 ≤ v 64 ∧ v2 63 = v 63)) := by
  refine Mm.mk (by decide) (Nat.le_of_ble_eq_true rfl) ?_
  intro p e s m args below meth c A C
  refine hv6 (show 0 ≤ v 64 ∧ v 64 ≤ 50 from hB.1 64) (show 0 ≤ v 60 ∧ v 60 ≤ 50 from hB.1 60) (show 0 ≤ v 63 ∧ v 63 ≤ 808 from hB.1 63) ((hW 0 (Or.inl rfl)).1) ((hW 1 (Or.inr rfl)).1) (show fr [60, 61, 63] [58, 59, 62] v a v a from fr.refl) (fun r64 r60 r63 r470 r471 fp0 => ?_)
  refine m_aload_n (j := 0) C dX12_go_0 rfl ?_
  have rv1 : 0 ≤ v 61 ∧ v 61 ≤ 1 := hB.1 61
  refine m_get (k := 61) C dX12_go_1 w6_120 (by decide) rfl ?_
  refine m_iconst C dX12_go_4 ?_
  refine m_icmp_ne (tgt := 9) C (r32_c (lo := 0) (hi := 1) rv1.1 rv1.2 (by decide) (by decide)) ⟨by decide, by decide⟩ dX12_go_5 (by decide) (fun c1 => ?_) (fun c1 => ?_)
  · refine m_iload_n (j := 1) C dX12_go_9 rfl ?_
    refine m_aload_n (j := 0) C dX12_go_10 rfl ?_
    have rv2 : 0 ≤ v 50 ∧ v 50 ≤ 40200 := hB.1 50
    refine m_get (k := 50) C dX12_go_11 w6_109 (by decide) rfl ?_
    refine m_icmp_ne (tgt := 22) C ⟨by omega, by omega⟩ (r32_c (lo := 0) (hi := 40200) rv2.1 rv2.2 (by decide) (by decide)) dX12_go_14 (by decide) (fun c2 => ?_) (fun c2 => ?_)
    · refine m_aload_n (j := 0) C dX12_go_22 rfl ?_
      have rv3 : 0 ≤ v 63 ∧ v 63 ≤ 808 := hB.1 63
      refine m_get (k := 63) C dX12_go_23 w6_122 (by decide) rfl ?_
      refine m_istore (lv2 := [(4, .int (iI (v 63))), (0, .ref h0), (1, .int (iI x)), (2, .int (iI pt)), (3, .int (iI g))]) C dX12_go_26 (by decide) rfl ?_
      refine m_aload_n (j := 1) C dX12_go_28 rfl ?_
      refine m_iload_n (j := 2) C dX12_go_29 rfl ?_
      refine m_iload_n (j := 4) C dX12_go_30 rfl ?_
      refine m_call (mc2 := 0) (ms2 := 0) (As := [.int (iI x), .int (iI g)]) (rest := []) C (M_mayBlank (x := x) (g := g) hB (by show 0 ≤ x ∧ x < (v 50); omega) (by show (v 50) ≤ 100; omega) (by show g = 0 ∨ g = 1; omega)) dX12_go_31 kV_X12_374 rfl ck_13 rfl (Nat.le_of_ble_eq_true rfl) ⟨by dsimp only [rmq]; omega, by dsimp only [rmq]; omega⟩ ⟨Nat.le_of_ble_eq_true rfl, Nat.le_of_ble_eq_true rfl⟩ (fun rh1 vh1 ah1 h1 => ?_)
      obtain ⟨f1, rfl, fn1, bn1, ex1⟩ := h1
      obtain ⟨rfl, rfl⟩ := fn1.eq
      have gf1 : f1 = 0 ∨ f1 = 1 := ex1
      refine m_st (st2 := [.int (iI f1)]) rfl ?_
      have J1 : ∀ (vb1 : Nat → Int) (ab1 : Nat → Nat → Int), BX vb1 ab1 → fr [60, 61, 63] [58, 59, 62] v a vb1 ab1 → (vb1 63 = v 63) → (vb1 60 ≤ v 64) → mw p l e (rmq (d + 1) 0 0) s m args below meth c G A 8 (MQ below (Qm G A (fun rq Lq Eq => ∃ (vq : Nat → Int) (aq : Nat → Nat → Int), mI G h0 ad ln vq aq Lq Eq ∧ (fun r v2 a2 => r = none ∧ fr [60, 61, 63] [58, 59, 62] v a v2 a2 ∧ BX v2 a2 ∧ (v2 60 ≤ v 64 ∧ v2 63 = v 63)) rq vq aq)) args s 0 0 A) h0 ad ln vb1 ab1 0 0 73 [(4, .int (iI (v 63))), (0, .ref h0), (1, .int (iI x)), (2, .int (iI pt)), (3, .int (iI g))] [] := by
        intro  vb1 ab1 bxb1 fpb1 h63a h60a
        refine m_sipush (z := 6008) C dX12_go_73 (by decide) ?_
        refine m_iload_n (j := 3) C dX12_go_76 rfl ?_
        refine m_imul C dX12_go_77 ?_
        refine m_istore (lv2 := [(5, .int (iI (6008 * pt))), (4, .int (iI (v 63))), (0, .ref h0), (1, .int (iI x)), (2, .int (iI pt)), (3, .int (iI g))]) C dX12_go_78 (by decide) rfl ?_
        have Lp1 : ∀ (nn : Nat) (r : Int) (vb2 : Nat → Int) (ab2 : Nat → Nat → Int), 6008 * pt + 6009 - r < (nn : Int) → BX vb2 ab2 → fr [60, 61, 63] [58, 59, 62] v a vb2 ab2 → (6008 * pt ≤ r ∧ r ≤ 6008 * pt + 6008) → (vb2 63 = v 63) → (vb2 60 ≤ v 64) → mw p l e (rmq (d + 1) 0 0) s m args below meth c G A 8 (MQ below (Qm G A (fun rq Lq Eq => ∃ (vq : Nat → Int) (aq : Nat → Nat → Int), mI G h0 ad ln vq aq Lq Eq ∧ (fun r v2 a2 => r = none ∧ fr [60, 61, 63] [58, 59, 62] v a v2 a2 ∧ BX v2 a2 ∧ (v2 60 ≤ v 64 ∧ v2 63 = v 63)) rq vq aq)) args s 0 0 A) h0 ad ln vb2 ab2 0 0 80 [(5, .int (iI r)), (4, .int (iI (v 63))), (0, .ref h0), (1, .int (iI x)), (2, .int (iI pt)), (3, .int (iI g))] [] := by
          intro nn
          induction nn with
          | zero =>
            intro r vb2 ab2 hm bxb2 fpb2 hr h63b h60b
            exact absurd hm (by omega)
          | succ nn ih1 =>
            intro r vb2 ab2 hm bxb2 fpb2 hr h63b h60b
            refine m_iload (j := 0) C dX12_go_80 rfl ?_
            refine m_sipush (z := 6008) C dX12_go_82 (by decide) ?_
            refine m_iload_n (j := 4) C dX12_go_85 rfl ?_
            refine m_imul C dX12_go_86 ?_
            refine m_aload_n (j := 2) C dX12_go_87 rfl ?_
            refine m_geta (k := 47) C dX12_go_88 w6_106 (by decide) rfl ?_
            refine m_iload_n (j := 4) C dX12_go_91 rfl ?_
            refine m_ald (k := 47) C dX12_go_92 rfl rfl (by decide) (by omega) (by show _ < ((_ : Nat) : Int); simp only [mlen]; omega) (by decide) ?_
            refine hv2 (show 0 ≤ ab2 47 pt.toNat ∧ ab2 47 pt.toNat ≤ 6008 from bxb2.2 47 (pt.toNat)) (show ab2 47 (pt.toNat) = a 47 (pt.toNat) from congrFun (fpb2.2 47 rfl) (pt.toNat)) (fun ra1 ae1 => ?_)
            refine m_st (st2 := [.int (iI (a 47 pt.toNat)), .int (iI (6008 * pt)), .int (iI r)]) (congrArg (fun z => Value.int (iI z) :: [.int (iI (6008 * pt)), .int (iI r)]) (congrFun (fpb2.2 47 rfl) (pt.toNat))) ?_
            refine m_iadd C dX12_go_93 ?_
            refine m_icmp_ge (tgt := 310) C ⟨by omega, by omega⟩ ⟨by omega, by omega⟩ dX12_go_94 (by decide) (fun c3 => ?_) (fun c3 => ?_)
            · have rv4 : 0 ≤ vb2 60 ∧ vb2 60 ≤ 50 := bxb2.1 60
              have rv5 : 0 ≤ vb2 63 ∧ vb2 63 ≤ 808 := bxb2.1 63
              exact m_vret C dX12_go_310 rfl (Nat.le_of_ble_eq_true rfl) (Nat.le_of_ble_eq_true rfl) ⟨rfl, fpb2, bxb2, (by show (vb2 60) ≤ (v 64) ∧ (vb2 63) = (v 63); omega)⟩
            · refine m_aload_n (j := 2) C dX12_go_97 rfl ?_
              have rv6 : 0 ≤ vb2 61 ∧ vb2 61 ≤ 1 := bxb2.1 61
              refine m_get (k := 61) C dX12_go_98 w6_120 (by decide) rfl ?_
              refine m_if_ne (tgt := 310) C (r32_c (lo := 0) (hi := 1) rv6.1 rv6.2 (by decide) (by decide)) dX12_go_101 (by decide) (fun c4 => ?_) (fun c4 => ?_)
              · have rv7 : 0 ≤ vb2 60 ∧ vb2 60 ≤ 50 := bxb2.1 60
                have rv8 : 0 ≤ vb2 63 ∧ vb2 63 ≤ 808 := bxb2.1 63
                exact m_vret C dX12_go_310 rfl (Nat.le_of_ble_eq_true rfl) (Nat.le_of_ble_eq_true rfl) ⟨rfl, fpb2, bxb2, (by show (vb2 60) ≤ (v 64) ∧ (vb2 63) = (v 63); omega)⟩
              · refine m_aload_n (j := 2) C dX12_go_104 rfl ?_
                refine m_iload (j := 0) C dX12_go_105 rfl ?_
                refine m_iload_n (j := 3) C dX12_go_107 rfl ?_
                refine m_iload_n (j := 4) C dX12_go_108 rfl ?_
                refine m_iload_n (j := 5) C dX12_go_109 rfl ?_
                refine hv9 (show RowOK a r from (hW (pt) (by omega)).2 r (by omega) (by omega)) (show (-4) ≤ ab2 44 r.toNat ∧ ab2 44 r.toNat ≤ 5999 from bxb2.2 44 (r.toNat)) (show ab2 44 (r.toNat) = a 44 (r.toNat) from congrFun (fpb2.2 44 rfl) (r.toNat)) (show 0 ≤ ab2 46 r.toNat ∧ ab2 46 r.toNat ≤ 4 from bxb2.2 46 (r.toNat)) (show ab2 46 (r.toNat) = a 46 (r.toNat) from congrFun (fpb2.2 46 rfl) (r.toNat)) (show 0 ≤ ab2 45 r.toNat ∧ ab2 45 r.toNat ≤ 23999 from bxb2.2 45 (r.toNat)) (show ab2 45 (r.toNat) = a 45 (r.toNat) from congrFun (fpb2.2 45 rfl) (r.toNat)) (show 0 ≤ vb2 50 ∧ vb2 50 ≤ 40200 from bxb2.1 50) (show vb2 50 = v 50 from fpb2.1 50 rfl) (fun ro ra2 ae2 ra3 ae3 ra4 ae4 rv9 ve1 => ?_)
                refine hv4 (ro.1) (ro.2.1) (ro.2.2.1) (ro.2.2.2) (fun ro1 ro2 ro3 ro4 => ?_)
                refine m_call (mc2 := 0) (ms2 := 0) (As := [.int (iI r), .int (iI x), .int (iI pt), .int (iI g)]) (rest := []) C (M_may (r1 := r) (x := x) (pt := pt) (g := g) bxb2 (by show 0 ≤ r ∧ r < 12016; omega) (by show -4 ≤ ab2 44 r.toNat ∧ ab2 44 r.toNat < 6000; omega) (by show 1 ≤ ab2 46 r.toNat ∧ ab2 46 r.toNat ≤ 4; omega) (by show 0 ≤ ab2 45 r.toNat ∧ (0 ≤ ab2 44 r.toNat → ab2 45 r.toNat + ab2 46 r.toNat ≤ 24000) ∧ (ab2 44 r.toNat < 0 → ab2 45 r.toNat + ab2 46 r.toNat ≤ 480); omega) (by show 0 ≤ x ∧ x ≤ 100; omega) (by show (vb2 50) ≤ 100; omega) (by show pt = 0 ∨ pt = 1; omega) (by show g = 0 ∨ g = 1; omega)) dX12_go_110 kV_X12_378 rfl ck_13 rfl (Nat.le_of_ble_eq_true rfl) ⟨by dsimp only [rmq]; omega, by dsimp only [rmq]; omega⟩ ⟨Nat.le_of_ble_eq_true rfl, Nat.le_of_ble_eq_true rfl⟩ (fun rh2 vh2 ah2 h2 => ?_)
                obtain ⟨f2, rfl, fn2, bn2, ex2⟩ := h2
                obtain ⟨rfl, rfl⟩ := fn2.eq
                have gf2 : f2 = 0 ∨ (f2 = 1 ∧ x + ab2 46 r.toNat ≤ (vb2 50)) := ex2
                refine m_st (st2 := [.int (iI f2)]) rfl ?_
                refine m_if_ne (tgt := 119) C (r32_0p gf2) dX12_go_113 (by decide) (fun c5 => ?_) (fun c5 => ?_)
                · replace gf2 := (gf2.resolve_left c5)
                  refine m_aload_n (j := 2) C dX12_go_119 rfl ?_
                  refine m_geta (k := 44) C dX12_go_120 w6_103 (by decide) rfl ?_
                  refine m_iload (j := 0) C dX12_go_123 rfl ?_
                  refine m_ald (k := 44) C dX12_go_125 rfl rfl (by decide) (by omega) (by show _ < ((_ : Nat) : Int); simp only [mlen]; omega) (by decide) ?_
                  refine m_st (st2 := [.int (iI (a 44 r.toNat))]) (congrArg (fun z => Value.int (iI z) :: []) (congrFun (fpb2.2 44 rfl) (r.toNat))) ?_
                  refine m_istore (lv2 := [(6, .int (iI (a 44 r.toNat))), (5, .int (iI r)), (4, .int (iI (v 63))), (0, .ref h0), (1, .int (iI x)), (2, .int (iI pt)), (3, .int (iI g))]) C dX12_go_126 (by decide) rfl ?_
                  refine m_iconst C dX12_go_128 ?_
                  refine m_istore (lv2 := [(7, .int (iI 0)), (6, .int (iI (a 44 r.toNat))), (5, .int (iI r)), (4, .int (iI (v 63))), (0, .ref h0), (1, .int (iI x)), (2, .int (iI pt)), (3, .int (iI g))]) C dX12_go_129 (by decide) rfl ?_
                  have Lp2 : ∀ (nn : Nat) (k : Int) (vb3 : Nat → Int) (ab3 : Nat → Nat → Int), 9 - k < (nn : Int) → BX vb3 ab3 → fr [60, 61, 63] [58, 59, 62] v a vb3 ab3 → (0 ≤ k ∧ k ≤ 8) → (vb3 63 = v 63) → (vb3 60 ≤ v 64) → mw p l e (rmq (d + 1) 0 0) s m args below meth c G A 8 (MQ below (Qm G A (fun rq Lq Eq => ∃ (vq : Nat → Int) (aq : Nat → Nat → Int), mI G h0 ad ln vq aq Lq Eq ∧ (fun r v2 a2 => r = none ∧ fr [60, 61, 63] [58, 59, 62] v a v2 a2 ∧ BX v2 a2 ∧ (v2 60 ≤ v 64 ∧ v2 63 = v 63)) rq vq aq)) args s 0 0 A) h0 ad ln vb3 ab3 0 0 131 [(7, .int (iI k)), (6, .int (iI (a 44 r.toNat))), (5, .int (iI r)), (4, .int (iI (v 63))), (0, .ref h0), (1, .int (iI x)), (2, .int (iI pt)), (3, .int (iI g))] [] := by
                    intro nn
                    induction nn with
                    | zero =>
                      intro k vb3 ab3 hm bxb3 fpb3 hk h63c h60c
                      exact absurd hm (by omega)
                    | succ nn ih2 =>
                      intro k vb3 ab3 hm bxb3 fpb3 hk h63c h60c
                      have J2 : ∀ (vb4 : Nat → Int) (ab4 : Nat → Nat → Int), BX vb4 ab4 → fr [60, 61, 63] [58, 59, 62] v a vb4 ab4 → (vb4 63 = v 63) → (vb4 60 ≤ v 64) → mw p l e (rmq (d + 1) 0 0) s m args below meth c G A 8 (MQ below (Qm G A (fun rq Lq Eq => ∃ (vq : Nat → Int) (aq : Nat → Nat → Int), mI G h0 ad ln vq aq Lq Eq ∧ (fun r v2 a2 => r = none ∧ fr [60, 61, 63] [58, 59, 62] v a v2 a2 ∧ BX v2 a2 ∧ (v2 60 ≤ v 64 ∧ v2 63 = v 63)) rq vq aq)) args s 0 0 A) h0 ad ln vb4 ab4 0 0 195 [(6, .int (iI (a 44 r.toNat))), (5, .int (iI r)), (4, .int (iI (v 63))), (0, .ref h0), (1, .int (iI x)), (2, .int (iI pt)), (3, .int (iI g))] [] := by
                        intro  vb4 ab4 bxb4 fpb4 h63d h60d
                        have J3 : ∀ (vb5 : Nat → Int) (ab5 : Nat → Nat → Int), BX vb5 ab5 → fr [60, 61, 63] [58, 59, 62] v a vb5 ab5 → (0 ≤ vb5 63 ∧ vb5 63 ≤ 8 * x + 8 ∧ (a 44 r.toNat < 0 → vb5 63 ≤ 8 * x)) → (vb5 60 ≤ v 64) → mw p l e (rmq (d + 1) 0 0) s m args below meth c G A 8 (MQ below (Qm G A (fun rq Lq Eq => ∃ (vq : Nat → Int) (aq : Nat → Nat → Int), mI G h0 ad ln vq aq Lq Eq ∧ (fun r v2 a2 => r = none ∧ fr [60, 61, 63] [58, 59, 62] v a v2 a2 ∧ BX v2 a2 ∧ (v2 60 ≤ v 64 ∧ v2 63 = v 63)) rq vq aq)) args s 0 0 A) h0 ad ln vb5 ab5 0 0 220 [(6, .int (iI (a 44 r.toNat))), (5, .int (iI r)), (4, .int (iI (v 63))), (0, .ref h0), (1, .int (iI x)), (2, .int (iI pt)), (3, .int (iI g))] [] := by
                          intro  vb5 ab5 bxb5 fpb5 h63e h60e
                          have J4 : ∀ (vb6 : Nat → Int) (ab6 : Nat → Nat → Int), BX vb6 ab6 → fr [60, 61, 63] [58, 59, 62] v a vb6 ab6 → (0 ≤ vb6 63 ∧ vb6 63 ≤ 8 * x + 8) → (vb6 60 ≤ v 64) → mw p l e (rmq (d + 1) 0 0) s m args below meth c G A 8 (MQ below (Qm G A (fun rq Lq Eq => ∃ (vq : Nat → Int) (aq : Nat → Nat → Int), mI G h0 ad ln vq aq Lq Eq ∧ (fun r v2 a2 => r = none ∧ fr [60, 61, 63] [58, 59, 62] v a v2 a2 ∧ BX v2 a2 ∧ (v2 60 ≤ v 64 ∧ v2 63 = v 63)) rq vq aq)) args s 0 0 A) h0 ad ln vb6 ab6 0 0 267 [(6, .int (iI (a 44 r.toNat))), (5, .int (iI r)), (4, .int (iI (v 63))), (0, .ref h0), (1, .int (iI x)), (2, .int (iI pt)), (3, .int (iI g))] [] := by
                            intro  vb6 ab6 bxb6 fpb6 h63f h60f
                            refine m_aload_n (j := 3) C dX12_go_267 rfl ?_
                            refine m_iload_n (j := 4) C dX12_go_268 rfl ?_
                            refine m_aload_n (j := 3) C dX12_go_269 rfl ?_
                            refine m_geta (k := 46) C dX12_go_270 w6_105 (by decide) rfl ?_
                            refine m_iload (j := 1) C dX12_go_273 rfl ?_
                            refine m_ald (k := 46) C dX12_go_275 rfl rfl (by decide) (by omega) (by show _ < ((_ : Nat) : Int); simp only [mlen]; omega) (by decide) ?_
                            refine hv2 (show 0 ≤ ab6 46 r.toNat ∧ ab6 46 r.toNat ≤ 4 from bxb6.2 46 (r.toNat)) (show ab6 46 (r.toNat) = a 46 (r.toNat) from congrFun (fpb6.2 46 rfl) (r.toNat)) (fun ra5 ae5 => ?_)
                            refine m_st (st2 := [.int (iI (a 46 r.toNat)), .int (iI x), .ref h0]) (congrArg (fun z => Value.int (iI z) :: [.int (iI x), .ref h0]) (congrFun (fpb6.2 46 rfl) (r.toNat))) ?_
                            refine m_iadd C dX12_go_276 ?_
                            refine m_aload_n (j := 3) C dX12_go_277 rfl ?_
                            refine m_iload (j := 1) C dX12_go_278 rfl ?_
                            refine m_iload_n (j := 5) C dX12_go_280 rfl ?_
                            refine m_call (mc2 := 0) (ms2 := 0) (As := [.int (iI r), .int (iI pt)]) (rest := [.int (iI (x + (a 46 r.toNat))), .ref h0]) C (M_next (r := r) (q := pt) bxb6.rg (by omega) (by omega)) dX12_go_281 kV_X12_367 rfl ck_13 rfl (Nat.le_of_ble_eq_true rfl) ⟨by dsimp only [rmq]; omega, by dsimp only [rmq]; omega⟩ ⟨Nat.le_of_ble_eq_true rfl, Nat.le_of_ble_eq_true rfl⟩ (fun rh3 vh3 ah3 h3 => ?_)
                            obtain ⟨f3, rfl, hf3, rfl, rfl⟩ := h3
                            have gf3 : f3 = 0 ∨ f3 = 1 := hf3
                            refine m_st (st2 := [.int (iI f3), .int (iI (x + (a 46 r.toNat))), .ref h0]) rfl ?_
                            refine m_iload (j := 0) C dX12_go_284 rfl ?_
                            refine m_iconst C dX12_go_286 ?_
                            refine m_icmp_ne (tgt := 294) C ⟨by omega, by omega⟩ ⟨by decide, by decide⟩ dX12_go_287 (by decide) (fun c6 => ?_) (fun c6 => ?_)
                            · refine m_iconst C dX12_go_294 ?_
                              refine hv6 (show 0 ≤ vb6 50 ∧ vb6 50 ≤ 40200 from bxb6.1 50) (show vb6 50 = v 50 from fpb6.1 50 rfl) (show 0 ≤ vb6 60 ∧ vb6 60 ≤ 50 from bxb6.1 60) (show 0 ≤ vb6 63 ∧ vb6 63 ≤ 808 from bxb6.1 63) (show 0 ≤ vb6 64 ∧ vb6 64 ≤ 50 from bxb6.1 64) (show vb6 64 = v 64 from fpb6.1 64 rfl) (fun rv10 ve2 rv11 rv12 rv13 ve3 => ?_)
                              refine m_call (mc2 := 0) (ms2 := 0) (As := [.int (iI (x + (a 46 r.toNat))), .int (iI f3), .int (iI 0)]) (rest := []) C (hf (x + (a 46 r.toNat)) (by omega) _ _ (f3) (0) bxb6 (RWS.fr hW fpb6 rfl) (by show (vb6 50) ≤ 100; omega) (by show 0 ≤ (x + (a 46 r.toNat)) ∧ (x + (a 46 r.toNat)) ≤ (vb6 50); omega) (by omega) (by omega) (by show (vb6 60) ≤ (vb6 64); omega) (by show (vb6 63) ≤ 8 * (x + (a 46 r.toNat)); omega)) dX12_go_295 kV_X12_391 rfl ck_13 rfl (Nat.le_of_ble_eq_true rfl) ⟨by dsimp only [rmq]; omega, by dsimp only [rmq]; omega⟩ ⟨Nat.le_of_ble_eq_true rfl, Nat.le_of_ble_eq_true rfl⟩ (fun rh4 vh4 ah4 h4 => ?_)
                              obtain ⟨rfl, fn3, bn3, ex3⟩ := h4
                              refine hv4 (fpb6.call fn3 rfl rfl) (show 0 ≤ vh4 60 ∧ vh4 60 ≤ 50 from bn3.1 60) (show 0 ≤ vh4 63 ∧ vh4 63 ≤ 808 from bn3.1 63) (show (vh4 60) ≤ (vb6 64) ∧ (vh4 63) = (vb6 63) from ex3) (fun fq3 rv14 rv15 gex3 => ?_)
                              refine m_st (st2 := []) rfl ?_
                              refine m_aload_n (j := 3) C dX12_go_298 rfl ?_
                              refine m_iload (j := 2) C dX12_go_299 rfl ?_
                              refine m_put (k := 63) (z := v 63) C dX12_go_301 w6_122 (by decide) rfl rfl rfl ?_
                              refine hv2 (show BX (va_up vh4 63 (v 63)) ah4 from bn3.put (k := 63) (z := v 63) (show 0 ≤ (v 63) ∧ (v 63) ≤ 808 by omega)) (fq3.put (k := 63) (z := v 63) rfl) (fun bq1 fq4 => ?_)
                              refine m_iinc (z := r) (j := 1) (lv2 := [(5, .int (iI (r + 1))), (6, .int (iI (a 44 r.toNat))), (4, .int (iI (v 63))), (0, .ref h0), (1, .int (iI x)), (2, .int (iI pt)), (3, .int (iI g))]) C dX12_go_304 rfl (by decide) rfl ?_
                              refine m_goto (tgt := 80) C dX12_go_307 (by decide) ?_
                              refine m_lv (lv2 := [(5, .int (iI (r + 1))), (4, .int (iI (v 63))), (0, .ref h0), (1, .int (iI x)), (2, .int (iI pt)), (3, .int (iI g))]) [0, 2, 3, 4, 5, 6] rfl ?_
                              exact ih1  (r + 1) _ _ (by omega) bq1 fq4 (by omega) (by show (v 63) = v 63; omega) (by show (vh4 60) ≤ v 64; omega)
                            · refine m_iconst C dX12_go_290 ?_
                              refine m_goto (tgt := 295) C dX12_go_291 (by decide) ?_
                              refine hv6 (show 0 ≤ vb6 50 ∧ vb6 50 ≤ 40200 from bxb6.1 50) (show vb6 50 = v 50 from fpb6.1 50 rfl) (show 0 ≤ vb6 60 ∧ vb6 60 ≤ 50 from bxb6.1 60) (show 0 ≤ vb6 63 ∧ vb6 63 ≤ 808 from bxb6.1 63) (show 0 ≤ vb6 64 ∧ vb6 64 ≤ 50 from bxb6.1 64) (show vb6 64 = v 64 from fpb6.1 64 rfl) (fun rv16 ve4 rv17 rv18 rv19 ve5 => ?_)
                              refine m_call (mc2 := 0) (ms2 := 0) (As := [.int (iI (x + (a 46 r.toNat))), .int (iI f3), .int (iI 1)]) (rest := []) C (hf (x + (a 46 r.toNat)) (by omega) _ _ (f3) (1) bxb6 (RWS.fr hW fpb6 rfl) (by show (vb6 50) ≤ 100; omega) (by show 0 ≤ (x + (a 46 r.toNat)) ∧ (x + (a 46 r.toNat)) ≤ (vb6 50); omega) (by omega) (by omega) (by show (vb6 60) ≤ (vb6 64); omega) (by show (vb6 63) ≤ 8 * (x + (a 46 r.toNat)); omega)) dX12_go_295 kV_X12_391 rfl ck_13 rfl (Nat.le_of_ble_eq_true rfl) ⟨by dsimp only [rmq]; omega, by dsimp only [rmq]; omega⟩ ⟨Nat.le_of_ble_eq_true rfl, Nat.le_of_ble_eq_true rfl⟩ (fun rh5 vh5 ah5 h5 => ?_)
                              obtain ⟨rfl, fn4, bn4, ex4⟩ := h5
                              refine hv4 (fpb6.call fn4 rfl rfl) (show 0 ≤ vh5 60 ∧ vh5 60 ≤ 50 from bn4.1 60) (show 0 ≤ vh5 63 ∧ vh5 63 ≤ 808 from bn4.1 63) (show (vh5 60) ≤ (vb6 64) ∧ (vh5 63) = (vb6 63) from ex4) (fun fq5 rv20 rv21 gex4 => ?_)
                              refine m_st (st2 := []) rfl ?_
                              refine m_aload_n (j := 3) C dX12_go_298 rfl ?_
                              refine m_iload (j := 2) C dX12_go_299 rfl ?_
                              refine m_put (k := 63) (z := v 63) C dX12_go_301 w6_122 (by decide) rfl rfl rfl ?_
                              refine hv2 (show BX (va_up vh5 63 (v 63)) ah5 from bn4.put (k := 63) (z := v 63) (show 0 ≤ (v 63) ∧ (v 63) ≤ 808 by omega)) (fq5.put (k := 63) (z := v 63) rfl) (fun bq2 fq6 => ?_)
                              refine m_iinc (z := r) (j := 1) (lv2 := [(5, .int (iI (r + 1))), (6, .int (iI (a 44 r.toNat))), (4, .int (iI (v 63))), (0, .ref h0), (1, .int (iI x)), (2, .int (iI pt)), (3, .int (iI g))]) C dX12_go_304 rfl (by decide) rfl ?_
                              refine m_goto (tgt := 80) C dX12_go_307 (by decide) ?_
                              refine m_lv (lv2 := [(5, .int (iI (r + 1))), (4, .int (iI (v 63))), (0, .ref h0), (1, .int (iI x)), (2, .int (iI pt)), (3, .int (iI g))]) [0, 2, 3, 4, 5, 6] rfl ?_
                              exact ih1  (r + 1) _ _ (by omega) bq2 fq6 (by omega) (by show (v 63) = v 63; omega) (by show (vh5 60) ≤ v 64; omega)
                          refine m_iload (j := 0) C dX12_go_220 rfl ?_
                          refine m_bipush (z := (-3)) C dX12_go_222 (by decide) ?_
                          refine m_icmp_eq (tgt := 234) C ⟨by omega, by omega⟩ ⟨by decide, by decide⟩ dX12_go_224 (by decide) (fun c7 => ?_) (fun c7 => ?_)
                          · refine m_aload_n (j := 3) C dX12_go_234 rfl ?_
                            refine m_geta (k := 62) C dX12_go_235 w6_121 (by decide) rfl ?_
                            refine m_aload_n (j := 3) C dX12_go_238 rfl ?_
                            have rv22 : 0 ≤ vb5 63 ∧ vb5 63 ≤ 808 := bxb5.1 63
                            refine m_get (k := 63) C dX12_go_239 w6_122 (by decide) rfl ?_
                            refine m_iload (j := 0) C dX12_go_242 rfl ?_
                            refine m_bipush (z := (-3)) C dX12_go_244 (by decide) ?_
                            refine m_icmp_ne (tgt := 254) C ⟨by omega, by omega⟩ ⟨by decide, by decide⟩ dX12_go_246 (by decide) (fun z => absurd z (by omega)) (fun _ => ?_)
                            refine m_bipush (z := 60) C dX12_go_249 (by decide) ?_
                            refine m_goto (tgt := 256) C dX12_go_251 (by decide) ?_
                            refine m_ast (k := 62) C dX12_go_256 rfl rfl (by decide) rv22.1 (Int.lt_of_le_of_lt rv22.2 (by decide)) (by decide) ?_
                            refine hv2 (show BX vb5 (up2 ab5 62 (vb5 63).toNat 60) from bxb5.set (k := 62) (i := (vb5 63).toNat) (z := 60) ⟨by decide, by decide⟩) (fpb5.set (k := 62) (i := (vb5 63).toNat) (z := 60) rfl) (fun bq3 fq7 => ?_)
                            refine m_aload_n (j := 3) C dX12_go_257 rfl ?_
                            refine m_dup C dX12_go_258 rfl ?_
                            refine m_get (k := 63) C dX12_go_259 w6_122 (by decide) rfl ?_
                            refine m_iconst C dX12_go_262 ?_
                            refine m_iadd C dX12_go_263 ?_
                            refine m_put (k := 63) (z := (vb5 63) + 1) C dX12_go_264 w6_122 (by decide) rfl rfl rfl ?_
                            refine hv2 (show BX (va_up vb5 63 ((vb5 63) + 1)) (up2 ab5 62 (vb5 63).toNat 60) from bq3.put (k := 63) (z := (vb5 63) + 1) (show 0 ≤ ((vb5 63) + 1) ∧ ((vb5 63) + 1) ≤ 808 by omega)) (fq7.put (k := 63) (z := (vb5 63) + 1) rfl) (fun bq4 fq8 => ?_)
                            have rv23 : 0 ≤ vb5 60 ∧ vb5 60 ≤ 50 := bq4.1 60
                            refine m_lv (lv2 := [(6, .int (iI (a 44 r.toNat))), (5, .int (iI r)), (4, .int (iI (v 63))), (0, .ref h0), (1, .int (iI x)), (2, .int (iI pt)), (3, .int (iI g))]) [0, 1, 2, 3, 4, 5, 6] rfl ?_
                            exact J4   _ _  bq4 fq8 (by show 0 ≤ ((vb5 63) + 1) ∧ ((vb5 63) + 1) ≤ 8 * x + 8; omega) (by show (vb5 60) ≤ v 64; omega)
                          · refine m_iload (j := 0) C dX12_go_227 rfl ?_
                            refine m_bipush (z := (-4)) C dX12_go_229 (by decide) ?_
                            refine m_icmp_ne (tgt := 267) C ⟨by omega, by omega⟩ ⟨by decide, by decide⟩ dX12_go_231 (by decide) (fun c8 => ?_) (fun c8 => ?_)
                            · have rv24 : 0 ≤ vb5 63 ∧ vb5 63 ≤ 808 := bxb5.1 63
                              have rv25 : 0 ≤ vb5 60 ∧ vb5 60 ≤ 50 := bxb5.1 60
                              refine m_lv (lv2 := [(6, .int (iI (a 44 r.toNat))), (5, .int (iI r)), (4, .int (iI (v 63))), (0, .ref h0), (1, .int (iI x)), (2, .int (iI pt)), (3, .int (iI g))]) [0, 1, 2, 3, 4, 5, 6] rfl ?_
                              exact J4   _ _  bxb5 fpb5 (by show 0 ≤ (vb5 63) ∧ (vb5 63) ≤ 8 * x + 8; omega) (by show (vb5 60) ≤ v 64; omega)
                            · refine m_aload_n (j := 3) C dX12_go_234 rfl ?_
                              refine m_geta (k := 62) C dX12_go_235 w6_121 (by decide) rfl ?_
                              refine m_aload_n (j := 3) C dX12_go_238 rfl ?_
                              have rv26 : 0 ≤ vb5 63 ∧ vb5 63 ≤ 808 := bxb5.1 63
                              refine m_get (k := 63) C dX12_go_239 w6_122 (by decide) rfl ?_
                              refine m_iload (j := 0) C dX12_go_242 rfl ?_
                              refine m_bipush (z := (-3)) C dX12_go_244 (by decide) ?_
                              refine m_icmp_ne (tgt := 254) C ⟨by omega, by omega⟩ ⟨by decide, by decide⟩ dX12_go_246 (by decide) (fun _ => ?_) (fun z => absurd z (by omega))
                              refine m_bipush (z := 62) C dX12_go_254 (by decide) ?_
                              refine m_ast (k := 62) C dX12_go_256 rfl rfl (by decide) rv26.1 (Int.lt_of_le_of_lt rv26.2 (by decide)) (by decide) ?_
                              refine hv2 (show BX vb5 (up2 ab5 62 (vb5 63).toNat 62) from bxb5.set (k := 62) (i := (vb5 63).toNat) (z := 62) ⟨by decide, by decide⟩) (fpb5.set (k := 62) (i := (vb5 63).toNat) (z := 62) rfl) (fun bq5 fq9 => ?_)
                              refine m_aload_n (j := 3) C dX12_go_257 rfl ?_
                              refine m_dup C dX12_go_258 rfl ?_
                              refine m_get (k := 63) C dX12_go_259 w6_122 (by decide) rfl ?_
                              refine m_iconst C dX12_go_262 ?_
                              refine m_iadd C dX12_go_263 ?_
                              refine m_put (k := 63) (z := (vb5 63) + 1) C dX12_go_264 w6_122 (by decide) rfl rfl rfl ?_
                              refine hv2 (show BX (va_up vb5 63 ((vb5 63) + 1)) (up2 ab5 62 (vb5 63).toNat 62) from bq5.put (k := 63) (z := (vb5 63) + 1) (show 0 ≤ ((vb5 63) + 1) ∧ ((vb5 63) + 1) ≤ 808 by omega)) (fq9.put (k := 63) (z := (vb5 63) + 1) rfl) (fun bq6 fq10 => ?_)
                              have rv27 : 0 ≤ vb5 60 ∧ vb5 60 ≤ 50 := bq6.1 60
                              refine m_lv (lv2 := [(6, .int (iI (a 44 r.toNat))), (5, .int (iI r)), (4, .int (iI (v 63))), (0, .ref h0), (1, .int (iI x)), (2, .int (iI pt)), (3, .int (iI g))]) [0, 1, 2, 3, 4, 5, 6] rfl ?_
                              exact J4   _ _  bq6 fq10 (by show 0 ≤ ((vb5 63) + 1) ∧ ((vb5 63) + 1) ≤ 8 * x + 8; omega) (by show (vb5 60) ≤ v 64; omega)
                        refine m_aload_n (j := 3) C dX12_go_195 rfl ?_
                        refine m_dup C dX12_go_196 rfl ?_
                        have rv28 : 0 ≤ vb4 63 ∧ vb4 63 ≤ 808 := bxb4.1 63
                        refine m_get (k := 63) C dX12_go_197 w6_122 (by decide) rfl ?_
                        refine m_iload (j := 0) C dX12_go_200 rfl ?_
                        refine m_if_lt (tgt := 215) C ⟨by omega, by omega⟩ dX12_go_202 (by decide) (fun c9 => ?_) (fun c9 => ?_)
                        · refine m_iconst C dX12_go_215 ?_
                          refine m_iadd C dX12_go_216 ?_
                          refine m_put (k := 63) (z := (vb4 63) + 0) C dX12_go_217 w6_122 (by decide) rfl rfl rfl ?_
                          refine hv2 (show BX (va_up vb4 63 ((vb4 63) + 0)) ab4 from bxb4.put (k := 63) (z := (vb4 63) + 0) (show 0 ≤ ((vb4 63) + 0) ∧ ((vb4 63) + 0) ≤ 808 by omega)) (fpb4.put (k := 63) (z := (vb4 63) + 0) rfl) (fun bq7 fq11 => ?_)
                          have rv29 : 0 ≤ vb4 60 ∧ vb4 60 ≤ 50 := bq7.1 60
                          refine m_lv (lv2 := [(6, .int (iI (a 44 r.toNat))), (5, .int (iI r)), (4, .int (iI (v 63))), (0, .ref h0), (1, .int (iI x)), (2, .int (iI pt)), (3, .int (iI g))]) [0, 1, 2, 3, 4, 5, 6] rfl ?_
                          exact J3   _ _  bq7 fq11 (by show 0 ≤ ((vb4 63) + 0) ∧ ((vb4 63) + 0) ≤ 8 * x + 8 ∧ (a 44 r.toNat < 0 → ((vb4 63) + 0) ≤ 8 * x); omega) (by show (vb4 60) ≤ v 64; omega)
                        · refine m_aload_n (j := 3) C dX12_go_205 rfl ?_
                          refine m_geta (k := 12) C dX12_go_206 w6_71 (by decide) rfl ?_
                          refine m_iload (j := 0) C dX12_go_209 rfl ?_
                          refine m_ald (k := 12) C dX12_go_211 rfl rfl (by decide) (by omega) (by show _ < ((_ : Nat) : Int); simp only [mlen]; omega) (by decide) ?_
                          refine hv2 (show 0 ≤ ab4 12 (a 44 r.toNat).toNat ∧ ab4 12 (a 44 r.toNat).toNat ≤ 8 from bxb4.2 12 ((a 44 r.toNat).toNat)) (show ab4 12 ((a 44 r.toNat).toNat) = a 12 ((a 44 r.toNat).toNat) from congrFun (fpb4.2 12 rfl) ((a 44 r.toNat).toNat)) (fun ra6 ae6 => ?_)
                          refine m_st (st2 := [.int (iI (a 12 (a 44 r.toNat).toNat)), .int (iI (vb4 63)), .ref h0]) (congrArg (fun z => Value.int (iI z) :: [.int (iI (vb4 63)), .ref h0]) (congrFun (fpb4.2 12 rfl) ((a 44 r.toNat).toNat))) ?_
                          refine m_goto (tgt := 216) C dX12_go_212 (by decide) ?_
                          refine m_iadd C dX12_go_216 ?_
                          refine m_put (k := 63) (z := (vb4 63) + (a 12 (a 44 r.toNat).toNat)) C dX12_go_217 w6_122 (by decide) rfl rfl rfl ?_
                          refine hv2 (show BX (va_up vb4 63 ((vb4 63) + (a 12 (a 44 r.toNat).toNat))) ab4 from bxb4.put (k := 63) (z := (vb4 63) + (a 12 (a 44 r.toNat).toNat)) (show 0 ≤ ((vb4 63) + (a 12 (a 44 r.toNat).toNat)) ∧ ((vb4 63) + (a 12 (a 44 r.toNat).toNat)) ≤ 808 by omega)) (fpb4.put (k := 63) (z := (vb4 63) + (a 12 (a 44 r.toNat).toNat)) rfl) (fun bq8 fq12 => ?_)
                          have rv30 : 0 ≤ vb4 60 ∧ vb4 60 ≤ 50 := bq8.1 60
                          refine m_lv (lv2 := [(6, .int (iI (a 44 r.toNat))), (5, .int (iI r)), (4, .int (iI (v 63))), (0, .ref h0), (1, .int (iI x)), (2, .int (iI pt)), (3, .int (iI g))]) [0, 1, 2, 3, 4, 5, 6] rfl ?_
                          exact J3   _ _  bq8 fq12 (by show 0 ≤ ((vb4 63) + (a 12 (a 44 r.toNat).toNat)) ∧ ((vb4 63) + (a 12 (a 44 r.toNat).toNat)) ≤ 8 * x + 8 ∧ (a 44 r.toNat < 0 → ((vb4 63) + (a 12 (a 44 r.toNat).toNat)) ≤ 8 * x); omega) (by show (vb4 60) ≤ v 64; omega)
                      refine m_iload (j := 1) C dX12_go_131 rfl ?_
                      refine m_if_lt (tgt := 195) C ⟨by omega, by omega⟩ dX12_go_133 (by decide) (fun c10 => ?_) (fun c10 => ?_)
                      · have rv31 : 0 ≤ vb3 63 ∧ vb3 63 ≤ 808 := bxb3.1 63
                        have rv32 : 0 ≤ vb3 60 ∧ vb3 60 ≤ 50 := bxb3.1 60
                        refine m_lv (lv2 := [(6, .int (iI (a 44 r.toNat))), (5, .int (iI r)), (4, .int (iI (v 63))), (0, .ref h0), (1, .int (iI x)), (2, .int (iI pt)), (3, .int (iI g))]) [1, 2, 3, 4, 5, 6, 7] rfl ?_
                        exact J2   _ _  bxb3 fpb3 (by show (vb3 63) = v 63; omega) (by show (vb3 60) ≤ v 64; omega)
                      · refine m_iload (j := 0) C dX12_go_136 rfl ?_
                        refine m_aload_n (j := 4) C dX12_go_138 rfl ?_
                        refine m_geta (k := 12) C dX12_go_139 w6_71 (by decide) rfl ?_
                        refine m_iload (j := 1) C dX12_go_142 rfl ?_
                        refine m_ald (k := 12) C dX12_go_144 rfl rfl (by decide) (by omega) (by show _ < ((_ : Nat) : Int); simp only [mlen]; omega) (by decide) ?_
                        refine hv2 (show 0 ≤ ab3 12 (a 44 r.toNat).toNat ∧ ab3 12 (a 44 r.toNat).toNat ≤ 8 from bxb3.2 12 ((a 44 r.toNat).toNat)) (show ab3 12 ((a 44 r.toNat).toNat) = a 12 ((a 44 r.toNat).toNat) from congrFun (fpb3.2 12 rfl) ((a 44 r.toNat).toNat)) (fun ra7 ae7 => ?_)
                        refine m_st (st2 := [.int (iI (a 12 (a 44 r.toNat).toNat)), .int (iI k)]) (congrArg (fun z => Value.int (iI z) :: [.int (iI k)]) (congrFun (fpb3.2 12 rfl) ((a 44 r.toNat).toNat))) ?_
                        refine m_icmp_ge (tgt := 195) C (r32_c (lo := 0) (hi := 8) hk.1 hk.2 (by decide) (by decide)) ⟨by omega, by omega⟩ dX12_go_145 (by decide) (fun c11 => ?_) (fun c11 => ?_)
                        · have rv33 : 0 ≤ vb3 63 ∧ vb3 63 ≤ 808 := bxb3.1 63
                          have rv34 : 0 ≤ vb3 60 ∧ vb3 60 ≤ 50 := bxb3.1 60
                          refine m_lv (lv2 := [(6, .int (iI (a 44 r.toNat))), (5, .int (iI r)), (4, .int (iI (v 63))), (0, .ref h0), (1, .int (iI x)), (2, .int (iI pt)), (3, .int (iI g))]) [1, 2, 3, 4, 5, 6, 7] rfl ?_
                          exact J2   _ _  bxb3 fpb3 (by show (vb3 63) = v 63; omega) (by show (vb3 60) ≤ v 64; omega)
                        · refine m_aload_n (j := 4) C dX12_go_148 rfl ?_
                          refine m_geta (k := 62) C dX12_go_149 w6_121 (by decide) rfl ?_
                          refine m_aload_n (j := 4) C dX12_go_152 rfl ?_
                          have rv35 : 0 ≤ vb3 63 ∧ vb3 63 ≤ 808 := bxb3.1 63
                          refine m_get (k := 63) C dX12_go_153 w6_122 (by decide) rfl ?_
                          refine m_iload (j := 0) C dX12_go_156 rfl ?_
                          refine m_iadd C dX12_go_158 ?_
                          refine m_aload_n (j := 4) C dX12_go_159 rfl ?_
                          refine m_geta (k := 14) C dX12_go_160 w6_73 (by decide) rfl ?_
                          refine m_bipush (z := 8) C dX12_go_163 (by decide) ?_
                          refine m_iload (j := 1) C dX12_go_165 rfl ?_
                          refine m_imul C dX12_go_167 ?_
                          refine m_iload (j := 0) C dX12_go_168 rfl ?_
                          refine m_iadd C dX12_go_170 ?_
                          refine m_ald (k := 14) C dX12_go_171 rfl rfl (by decide) (by omega) (by show _ < ((_ : Nat) : Int); simp only [mlen]; omega) (by decide) ?_
                          refine hv2 (show 0 ≤ ab3 14 ((8 * (a 44 r.toNat)) + k).toNat ∧ ab3 14 ((8 * (a 44 r.toNat)) + k).toNat ≤ 125 from bxb3.2 14 (((8 * (a 44 r.toNat)) + k).toNat)) (show ab3 14 (((8 * (a 44 r.toNat)) + k).toNat) = a 14 (((8 * (a 44 r.toNat)) + k).toNat) from congrFun (fpb3.2 14 rfl) (((8 * (a 44 r.toNat)) + k).toNat)) (fun ra8 ae8 => ?_)
                          refine m_st (st2 := [.int (iI (a 14 ((8 * (a 44 r.toNat)) + k).toNat)), .int (iI ((vb3 63) + k)), .ref (ad 62)]) (congrArg (fun z => Value.int (iI z) :: [.int (iI ((vb3 63) + k)), .ref (ad 62)]) (congrFun (fpb3.2 14 rfl) (((8 * (a 44 r.toNat)) + k).toNat))) ?_
                          refine m_iload_n (j := 7) C dX12_go_172 rfl ?_
                          refine m_if_eq (tgt := 186) C ⟨by omega, by omega⟩ dX12_go_173 (by decide) (fun c12 => ?_) (fun c12 => ?_)
                          · refine m_iconst C dX12_go_186 ?_
                            refine m_isub C dX12_go_187 ?_
                            refine m_ast (k := 62) C dX12_go_188 rfl rfl (by decide) (by omega) (by show _ < ((_ : Nat) : Int); simp only [mlen]; omega) (by decide) ?_
                            refine hv2 (show BX vb3 (up2 ab3 62 ((vb3 63) + k).toNat ((a 14 ((8 * (a 44 r.toNat)) + k).toNat) - 0)) from bxb3.set (k := 62) (i := ((vb3 63) + k).toNat) (z := (a 14 ((8 * (a 44 r.toNat)) + k).toNat) - 0) (show (-2147483648) ≤ ((a 14 ((8 * (a 44 r.toNat)) + k).toNat) - 0) ∧ ((a 14 ((8 * (a 44 r.toNat)) + k).toNat) - 0) ≤ 2147483647 by omega)) (fpb3.set (k := 62) (i := ((vb3 63) + k).toNat) (z := (a 14 ((8 * (a 44 r.toNat)) + k).toNat) - 0) rfl) (fun bq9 fq13 => ?_)
                            refine m_iinc (z := k) (j := 0) (lv2 := [(7, .int (iI (k + 1))), (6, .int (iI (a 44 r.toNat))), (5, .int (iI r)), (4, .int (iI (v 63))), (0, .ref h0), (1, .int (iI x)), (2, .int (iI pt)), (3, .int (iI g))]) C dX12_go_189 rfl (by decide) rfl ?_
                            refine m_goto (tgt := 131) C dX12_go_192 (by decide) ?_
                            have rv36 : 0 ≤ vb3 60 ∧ vb3 60 ≤ 50 := bq9.1 60
                            refine m_lv (lv2 := [(7, .int (iI (k + 1))), (6, .int (iI (a 44 r.toNat))), (5, .int (iI r)), (4, .int (iI (v 63))), (0, .ref h0), (1, .int (iI x)), (2, .int (iI pt)), (3, .int (iI g))]) [0, 1, 2, 3, 4, 5, 6, 7] rfl ?_
                            exact ih2  (k + 1) _ _ (by omega) bq9 fq13 (by omega) (by show (vb3 63) = v 63; omega) (by show (vb3 60) ≤ v 64; omega)
                          · refine m_iload (j := 0) C dX12_go_176 rfl ?_
                            refine m_if_ne (tgt := 186) C (r32_c (lo := 0) (hi := 8) hk.1 hk.2 (by decide) (by decide)) dX12_go_178 (by decide) (fun c13 => ?_) (fun c13 => ?_)
                            · refine m_iconst C dX12_go_186 ?_
                              refine m_isub C dX12_go_187 ?_
                              refine m_ast (k := 62) C dX12_go_188 rfl rfl (by decide) (by omega) (by show _ < ((_ : Nat) : Int); simp only [mlen]; omega) (by decide) ?_
                              refine hv2 (show BX vb3 (up2 ab3 62 ((vb3 63) + k).toNat ((a 14 ((8 * (a 44 r.toNat)) + k).toNat) - 0)) from bxb3.set (k := 62) (i := ((vb3 63) + k).toNat) (z := (a 14 ((8 * (a 44 r.toNat)) + k).toNat) - 0) (show (-2147483648) ≤ ((a 14 ((8 * (a 44 r.toNat)) + k).toNat) - 0) ∧ ((a 14 ((8 * (a 44 r.toNat)) + k).toNat) - 0) ≤ 2147483647 by omega)) (fpb3.set (k := 62) (i := ((vb3 63) + k).toNat) (z := (a 14 ((8 * (a 44 r.toNat)) + k).toNat) - 0) rfl) (fun bq10 fq14 => ?_)
                              refine m_iinc (z := k) (j := 0) (lv2 := [(7, .int (iI (k + 1))), (6, .int (iI (a 44 r.toNat))), (5, .int (iI r)), (4, .int (iI (v 63))), (0, .ref h0), (1, .int (iI x)), (2, .int (iI pt)), (3, .int (iI g))]) C dX12_go_189 rfl (by decide) rfl ?_
                              refine m_goto (tgt := 131) C dX12_go_192 (by decide) ?_
                              have rv37 : 0 ≤ vb3 60 ∧ vb3 60 ≤ 50 := bq10.1 60
                              refine m_lv (lv2 := [(7, .int (iI (k + 1))), (6, .int (iI (a 44 r.toNat))), (5, .int (iI r)), (4, .int (iI (v 63))), (0, .ref h0), (1, .int (iI x)), (2, .int (iI pt)), (3, .int (iI g))]) [0, 1, 2, 3, 4, 5, 6, 7] rfl ?_
                              exact ih2  (k + 1) _ _ (by omega) bq10 fq14 (by omega) (by show (vb3 63) = v 63; omega) (by show (vb3 60) ≤ v 64; omega)
                            · refine m_bipush (z := 32) C dX12_go_181 (by decide) ?_
                              refine m_goto (tgt := 187) C dX12_go_183 (by decide) ?_
                              refine m_isub C dX12_go_187 ?_
                              refine m_ast (k := 62) C dX12_go_188 rfl rfl (by decide) (by omega) (by show _ < ((_ : Nat) : Int); simp only [mlen]; omega) (by decide) ?_
                              refine hv2 (show BX vb3 (up2 ab3 62 ((vb3 63) + k).toNat ((a 14 ((8 * (a 44 r.toNat)) + k).toNat) - 32)) from bxb3.set (k := 62) (i := ((vb3 63) + k).toNat) (z := (a 14 ((8 * (a 44 r.toNat)) + k).toNat) - 32) (show (-2147483648) ≤ ((a 14 ((8 * (a 44 r.toNat)) + k).toNat) - 32) ∧ ((a 14 ((8 * (a 44 r.toNat)) + k).toNat) - 32) ≤ 2147483647 by omega)) (fpb3.set (k := 62) (i := ((vb3 63) + k).toNat) (z := (a 14 ((8 * (a 44 r.toNat)) + k).toNat) - 32) rfl) (fun bq11 fq15 => ?_)
                              refine m_iinc (z := k) (j := 0) (lv2 := [(7, .int (iI (k + 1))), (6, .int (iI (a 44 r.toNat))), (5, .int (iI r)), (4, .int (iI (v 63))), (0, .ref h0), (1, .int (iI x)), (2, .int (iI pt)), (3, .int (iI g))]) C dX12_go_189 rfl (by decide) rfl ?_
                              refine m_goto (tgt := 131) C dX12_go_192 (by decide) ?_
                              have rv38 : 0 ≤ vb3 60 ∧ vb3 60 ≤ 50 := bq11.1 60
                              refine m_lv (lv2 := [(7, .int (iI (k + 1))), (6, .int (iI (a 44 r.toNat))), (5, .int (iI r)), (4, .int (iI (v 63))), (0, .ref h0), (1, .int (iI x)), (2, .int (iI pt)), (3, .int (iI g))]) [0, 1, 2, 3, 4, 5, 6, 7] rfl ?_
                              exact ih2  (k + 1) _ _ (by omega) bq11 fq15 (by omega) (by show (vb3 63) = v 63; omega) (by show (vb3 60) ≤ v 64; omega)
                  refine hv2 (show 0 ≤ vb2 63 ∧ vb2 63 ≤ 808 from bxb2.1 63) (show 0 ≤ vb2 60 ∧ vb2 60 ≤ 50 from bxb2.1 60) (fun rv39 rv40 => ?_)
                  refine m_lv (lv2 := [(7, .int (iI 0)), (6, .int (iI (a 44 r.toNat))), (5, .int (iI r)), (4, .int (iI (v 63))), (0, .ref h0), (1, .int (iI x)), (2, .int (iI pt)), (3, .int (iI g))]) [0, 1, 2, 3, 4, 5, 6, 7] rfl ?_
                  exact Lp2 10 0 _ _ (by omega) bxb2 fpb2 (by omega) (by show (vb2 63) = v 63; omega) (by show (vb2 60) ≤ v 64; omega)
                · clear gf2
                  refine m_goto (tgt := 304) C dX12_go_116 (by decide) ?_
                  refine m_iinc (z := r) (j := 0) (lv2 := [(5, .int (iI (r + 1))), (4, .int (iI (v 63))), (0, .ref h0), (1, .int (iI x)), (2, .int (iI pt)), (3, .int (iI g))]) C dX12_go_304 rfl (by decide) rfl ?_
                  refine m_goto (tgt := 80) C dX12_go_307 (by decide) ?_
                  refine hv2 (show 0 ≤ vb2 63 ∧ vb2 63 ≤ 808 from bxb2.1 63) (show 0 ≤ vb2 60 ∧ vb2 60 ≤ 50 from bxb2.1 60) (fun rv41 rv42 => ?_)
                  refine m_lv (lv2 := [(5, .int (iI (r + 1))), (4, .int (iI (v 63))), (0, .ref h0), (1, .int (iI x)), (2, .int (iI pt)), (3, .int (iI g))]) [0, 1, 2, 3, 4, 5] rfl ?_
                  exact ih1  (r + 1) _ _ (by omega) bxb2 fpb2 (by omega) (by show (vb2 63) = v 63; omega) (by show (vb2 60) ≤ v 64; omega)
        refine hv2 (show 0 ≤ vb1 63 ∧ vb1 63 ≤ 808 from bxb1.1 63) (show 0 ≤ vb1 60 ∧ vb1 60 ≤ 50 from bxb1.1 60) (fun rv43 rv44 => ?_)
        refine m_lv (lv2 := [(5, .int (iI (6008 * pt))), (4, .int (iI (v 63))), (0, .ref h0), (1, .int (iI x)), (2, .int (iI pt)), (3, .int (iI g))]) [0, 1, 2, 3, 4, 5] rfl ?_
        exact Lp1 6010 (6008 * pt) _ _ (by omega) bxb1 fpb1 (by omega) (by show (vb1 63) = v 63; omega) (by show (vb1 60) ≤ v 64; omega)
      refine m_if_eq (tgt := 73) C (r32_01 gf1) dX12_go_34 (by decide) (fun c14 => ?_) (fun c14 => ?_)
      · clear gf1
        have rv45 : 0 ≤ v 60 ∧ v 60 ≤ 50 := hB.1 60
        refine m_lv (lv2 := [(4, .int (iI (v 63))), (0, .ref h0), (1, .int (iI x)), (2, .int (iI pt)), (3, .int (iI g))]) [0, 1, 2, 3, 4] rfl ?_
        exact J1   _ _  hB fp0 (by show (v 63) = v 63; omega) (by show (v 60) ≤ v 64; omega)
      · replace gf1 := (gf1.resolve_left c14)
        refine m_aload_n (j := 1) C dX12_go_37 rfl ?_
        refine m_geta (k := 62) C dX12_go_38 w6_121 (by decide) rfl ?_
        refine m_aload_n (j := 1) C dX12_go_41 rfl ?_
        refine m_get (k := 63) C dX12_go_42 w6_122 (by decide) rfl ?_
        refine m_bipush (z := 32) C dX12_go_45 (by decide) ?_
        refine m_ast (k := 62) C dX12_go_47 rfl rfl (by decide) rv3.1 (Int.lt_of_le_of_lt rv3.2 (by decide)) (by decide) ?_
        refine hv2 (show BX v (up2 a 62 (v 63).toNat 32) from hB.set (k := 62) (i := (v 63).toNat) (z := 32) ⟨by decide, by decide⟩) (fp0.set (k := 62) (i := (v 63).toNat) (z := 32) rfl) (fun bq12 fq16 => ?_)
        refine m_aload_n (j := 1) C dX12_go_48 rfl ?_
        refine m_dup C dX12_go_49 rfl ?_
        refine m_get (k := 63) C dX12_go_50 w6_122 (by decide) rfl ?_
        refine m_iconst C dX12_go_53 ?_
        refine m_iadd C dX12_go_54 ?_
        refine m_put (k := 63) (z := (v 63) + 1) C dX12_go_55 w6_122 (by decide) rfl rfl rfl ?_
        refine hv2 (show BX (va_up v 63 ((v 63) + 1)) (up2 a 62 (v 63).toNat 32) from bq12.put (k := 63) (z := (v 63) + 1) (show 0 ≤ ((v 63) + 1) ∧ ((v 63) + 1) ≤ 808 by omega)) (fq16.put (k := 63) (z := (v 63) + 1) rfl) (fun bq13 fq17 => ?_)
        refine m_aload_n (j := 1) C dX12_go_58 rfl ?_
        refine m_iload_n (j := 2) C dX12_go_59 rfl ?_
        refine m_iconst C dX12_go_60 ?_
        refine m_iadd C dX12_go_61 ?_
        refine m_iconst C dX12_go_62 ?_
        refine m_iconst C dX12_go_63 ?_
        refine hv2 (show 0 ≤ v 60 ∧ v 60 ≤ 50 from bq13.1 60) (show 0 ≤ v 64 ∧ v 64 ≤ 50 from bq13.1 64) (fun rv46 rv47 => ?_)
        refine m_call (mc2 := 0) (ms2 := 0) (As := [.int (iI (x + 1)), .int (iI 0), .int (iI 0)]) (rest := []) C (hf (x + 1) (by omega) _ _ (0) (0) bq13 (RWS.fr hW fq17 rfl) (by show (v 50) ≤ 100; omega) (by show 0 ≤ (x + 1) ∧ (x + 1) ≤ (v 50); omega) (by omega) (by omega) (by show (v 60) ≤ (v 64); omega) (by show ((v 63) + 1) ≤ 8 * (x + 1); omega)) dX12_go_64 kV_X12_391 rfl ck_13 rfl (Nat.le_of_ble_eq_true rfl) ⟨by dsimp only [rmq]; omega, by dsimp only [rmq]; omega⟩ ⟨Nat.le_of_ble_eq_true rfl, Nat.le_of_ble_eq_true rfl⟩ (fun rh6 vh6 ah6 h6 => ?_)
        obtain ⟨rfl, fn5, bn5, ex5⟩ := h6
        refine hv4 (fq17.call fn5 rfl rfl) (show 0 ≤ vh6 60 ∧ vh6 60 ≤ 50 from bn5.1 60) (show 0 ≤ vh6 63 ∧ vh6 63 ≤ 808 from bn5.1 63) (show (vh6 60) ≤ (v 64) ∧ (vh6 63) = ((v 63) + 1) from ex5) (fun fq18 rv48 rv49 gex5 => ?_)
        refine m_st (st2 := []) rfl ?_
        refine m_aload_n (j := 1) C dX12_go_67 rfl ?_
        refine m_iload (j := 0) C dX12_go_68 rfl ?_
        refine m_put (k := 63) (z := v 63) C dX12_go_70 w6_122 (by decide) rfl rfl rfl ?_
        refine hv2 (show BX (va_up vh6 63 (v 63)) ah6 from bn5.put (k := 63) (z := v 63) (show 0 ≤ (v 63) ∧ (v 63) ≤ 808 by omega)) (fq18.put (k := 63) (z := v 63) rfl) (fun bq14 fq19 => ?_)
        refine m_lv (lv2 := [(4, .int (iI (v 63))), (0, .ref h0), (1, .int (iI x)), (2, .int (iI pt)), (3, .int (iI g))]) [0, 1, 2, 3, 4] rfl ?_
        exact J1   _ _  bq14 fq19 (by show (v 63) = v 63; omega) (by show (vh6 60) ≤ v 64; omega)
    · refine m_aload_n (j := 0) C dX12_go_17 rfl ?_
      refine hv2 (show 0 ≤ v 60 ∧ v 60 ≤ 50 from hB.1 60) (show 0 ≤ v 64 ∧ v 64 ≤ 50 from hB.1 64) (fun rv50 rv51 => ?_)
      refine m_call (mc2 := 0) (ms2 := 0) (As := []) (rest := []) C (B_keep  hB (by show (v 60) ≤ (v 64); omega)) dX12_go_18 kV_X12_385 rfl ck_13 rfl (Nat.le_of_ble_eq_true rfl) ⟨by dsimp only [rmq]; omega, by dsimp only [rmq]; omega⟩ ⟨Nat.le_of_ble_eq_true rfl, Nat.le_of_ble_eq_true rfl⟩ (fun rh7 vh7 ah7 h7 => ?_)
      obtain ⟨rfl, fn6, bn6, ex6⟩ := h7
      refine hv3 (fp0.call fn6 rfl rfl) (show 0 ≤ vh7 60 ∧ vh7 60 ≤ 50 from bn6.1 60) (show (vh7 60) ≤ (v 64) from ex6) (fun fq20 rv52 gf4 => ?_)
      refine m_st (st2 := []) rfl ?_
      refine hv2 (show 0 ≤ vh7 63 ∧ vh7 63 ≤ 808 from bn6.1 63) (show vh7 63 = v 63 from fn6.1 63 rfl) (fun rv53 ve6 => ?_)
      exact m_vret C dX12_go_21 rfl (Nat.le_of_ble_eq_true rfl) (Nat.le_of_ble_eq_true rfl) ⟨rfl, fq20, bn6, (by show (vh7 60) ≤ (v 64) ∧ (vh7 63) = (v 63); omega)⟩
  · have rv54 : 0 ≤ v 60 ∧ v 60 ≤ 50 := hB.1 60
    have rv55 : 0 ≤ v 63 ∧ v 63 ≤ 808 := hB.1 63
    exact m_vret C dX12_go_8 rfl (Nat.le_of_ble_eq_true rfl) (Nat.le_of_ble_eq_true rfl) ⟨rfl, fp0, hB, (by show (v 60) ≤ (v 64) ∧ (v 63) = (v 63); omega)⟩
theorem M_goN {l : Launch} {G : GT} {h0 : Nat} {ad ln : Nat → Nat} : ∀ (n : Nat) (x : Int), 100 < x + n → GoC l G h0 ad ln (n + 3) x := by
  intro n
  induction n with
  | zero => intro x h1 v a pt g hB hW h50 hx; omega
  | succ n ih =>
    intro x h1 v a pt g hB hW h50 hx hp hg h60 h63
    exact M_go1 (d := n + 3) hB hW h50 hx hp hg h60 h63 (by omega) (fun b hb => ih b (by omega))
theorem M_go {l : Launch} {G : GT} {h0 : Nat} {ad ln : Nat → Nat} {v : Nat → Int} {a : Nat → Nat → Int} {x pt g : Int} (hB : BX v a) (hW : RWS a) (h50 : v 50 ≤ 100) (hx : 0 ≤ x ∧ x ≤ v 50) (hp : pt = 0 ∨ pt = 1) (hg : g = 0 ∨ g = 1) (h60 : v 60 ≤ v 64) (h63 : v 63 ≤ 8 * x) : Mm l G yX12_go cX12_go 8 none 104 [.int (iI x), .int (iI pt), .int (iI g)] h0 ad ln v a 0 0 (fun r v2 a2 => r = none ∧ fr [60, 61, 63] [58, 59, 62] v a v2 a2 ∧ BX v2 a2 ∧ (v2 60 ≤ v 64 ∧ v2 63 = v 63)) := M_goN 101 x (by omega) v a pt g hB hW h50 hx hp hg h60 h63
theorem TBL.b {v : Nat → Int} {a : Nat → Nat → Int} (h : TBL v a) : ∀ t : Int, 0 ≤ t → t < v 4 → a 8 t.toNat = -1 ∨ (0 ≤ a 8 t.toNat ∧ a 8 t.toNat < t) := by
  intro t h1 h2
  have := h.1 t h1 h2
  omega
end
section
set_option maxHeartbeats 4000000 in
set_option maxRecDepth 100000 in
theorem B_lines {l : Launch} {G : GT} {h0 : Nat} {ad ln : Nat → Nat} {v : Nat → Int} {a : Nat → Nat → Int}  (hB : BX v a)  : Mm l G yX12_lines cX12_lines 1 (some .int) 0 [] h0 ad ln v a 0 0 (fun r v2 a2 => ∃ f : Int, r = some (.int (iI f)) ∧ fr [] [] v a v2 a2 ∧ BX v2 a2 ∧ (True)) := by
  refine Mm.mk (by decide) (Nat.le_of_ble_eq_true rfl) ?_
  intro p e s m args below meth c A C
  have fp0 : fr [] [] v a v a := fr.refl
  refine m_aload_n (j := 0) C dX12_lines_0 rfl ?_
  have rv1 : 0 ≤ v 36 ∧ v 36 ≤ 200 := hB.1 36
  refine m_get (k := 36) C dX12_lines_1 w6_95 (by decide) rfl ?_
  exact m_iret C dX12_lines_4 rfl (Nat.le_of_ble_eq_true rfl) (Nat.le_of_ble_eq_true rfl) ⟨(v 36), rfl, fp0, hB, trivial⟩
set_option maxHeartbeats 4000000 in
set_option maxRecDepth 100000 in
theorem B_copied {l : Launch} {G : GT} {h0 : Nat} {ad ln : Nat → Nat} {v : Nat → Int} {a : Nat → Nat → Int}  (hB : BX v a)  : Mm l G yX12_copied cX12_copied 1 (some .int) 0 [] h0 ad ln v a 0 0 (fun r v2 a2 => ∃ f : Int, r = some (.int (iI f)) ∧ fr [] [] v a v2 a2 ∧ BX v2 a2 ∧ (True)) := by
  refine Mm.mk (by decide) (Nat.le_of_ble_eq_true rfl) ?_
  intro p e s m args below meth c A C
  have fp0 : fr [] [] v a v a := fr.refl
  refine m_aload_n (j := 0) C dX12_copied_0 rfl ?_
  have rv1 : (-2147483648) ≤ v 42 ∧ v 42 ≤ 2147483647 := hB.1 42
  refine m_get (k := 42) C dX12_copied_1 w6_101 (by decide) rfl ?_
  exact m_iret C dX12_copied_4 rfl (Nat.le_of_ble_eq_true rfl) (Nat.le_of_ble_eq_true rfl) ⟨(v 42), rfl, fp0, hB, trivial⟩
set_option maxHeartbeats 4000000 in
set_option maxRecDepth 100000 in
theorem B_closed {l : Launch} {G : GT} {h0 : Nat} {ad ln : Nat → Nat} {v : Nat → Int} {a : Nat → Nat → Int}  (hB : BX v a)  : Mm l G yX12_closed cX12_closed 1 (some .int) 0 [] h0 ad ln v a 0 0 (fun r v2 a2 => ∃ f : Int, r = some (.int (iI f)) ∧ fr [] [] v a v2 a2 ∧ BX v2 a2 ∧ (True)) := by
  refine Mm.mk (by decide) (Nat.le_of_ble_eq_true rfl) ?_
  intro p e s m args below meth c A C
  have fp0 : fr [] [] v a v a := fr.refl
  refine m_aload_n (j := 0) C dX12_closed_0 rfl ?_
  have rv1 : (-2147483648) ≤ v 43 ∧ v 43 ≤ 2147483647 := hB.1 43
  refine m_get (k := 43) C dX12_closed_1 w6_102 (by decide) rfl ?_
  exact m_iret C dX12_closed_4 rfl (Nat.le_of_ble_eq_true rfl) (Nat.le_of_ble_eq_true rfl) ⟨(v 43), rfl, fp0, hB, trivial⟩
set_option maxHeartbeats 4000000 in
set_option maxRecDepth 100000 in
theorem B_more {l : Launch} {G : GT} {h0 : Nat} {ad ln : Nat → Nat} {v : Nat → Int} {a : Nat → Nat → Int}  (hB : BX v a)  : Mm l G yX12_more cX12_more 1 (some .int) 0 [] h0 ad ln v a 0 0 (fun r v2 a2 => ∃ f : Int, r = some (.int (iI f)) ∧ fr [] [] v a v2 a2 ∧ BX v2 a2 ∧ (True)) := by
  refine Mm.mk (by decide) (Nat.le_of_ble_eq_true rfl) ?_
  intro p e s m args below meth c A C
  have fp0 : fr [] [] v a v a := fr.refl
  refine m_aload_n (j := 0) C dX12_more_0 rfl ?_
  have rv1 : 0 ≤ v 61 ∧ v 61 ≤ 1 := hB.1 61
  refine m_get (k := 61) C dX12_more_1 w6_120 (by decide) rfl ?_
  exact m_iret C dX12_more_4 rfl (Nat.le_of_ble_eq_true rfl) (Nat.le_of_ble_eq_true rfl) ⟨(v 61), rfl, fp0, hB, trivial⟩
set_option maxHeartbeats 4000000 in
set_option maxRecDepth 100000 in
theorem B_place {l : Launch} {G : GT} {h0 : Nat} {ad ln : Nat → Nat} {v : Nat → Int} {a : Nat → Nat → Int}  (hB : BX v a)  : Mm l G yX12_place cX12_place 1 (some .int) 0 [] h0 ad ln v a 0 0 (fun r v2 a2 => ∃ f : Int, r = some (.int (iI f)) ∧ fr [] [] v a v2 a2 ∧ BX v2 a2 ∧ (True)) := by
  refine Mm.mk (by decide) (Nat.le_of_ble_eq_true rfl) ?_
  intro p e s m args below meth c A C
  have fp0 : fr [] [] v a v a := fr.refl
  refine m_aload_n (j := 0) C dX12_place_0 rfl ?_
  have rv1 : (-2147483648) ≤ v 1 ∧ v 1 ≤ 2147483647 := hB.1 1
  refine m_get (k := 1) C dX12_place_1 w6_60 (by decide) rfl ?_
  exact m_iret C dX12_place_4 rfl (Nat.le_of_ble_eq_true rfl) (Nat.le_of_ble_eq_true rfl) ⟨(v 1), rfl, fp0, hB, trivial⟩
set_option maxHeartbeats 4000000 in
set_option maxRecDepth 100000 in
theorem B_status {l : Launch} {G : GT} {h0 : Nat} {ad ln : Nat → Nat} {v : Nat → Int} {a : Nat → Nat → Int}  (hB : BX v a)  : Mm l G yX12_status cX12_status 1 (some .int) 0 [] h0 ad ln v a 0 0 (fun r v2 a2 => ∃ f : Int, r = some (.int (iI f)) ∧ fr [] [] v a v2 a2 ∧ BX v2 a2 ∧ (True)) := by
  refine Mm.mk (by decide) (Nat.le_of_ble_eq_true rfl) ?_
  intro p e s m args below meth c A C
  have fp0 : fr [] [] v a v a := fr.refl
  refine m_aload_n (j := 0) C dX12_status_0 rfl ?_
  have rv1 : (-2147483648) ≤ v 0 ∧ v 0 ≤ 2147483647 := hB.1 0
  refine m_get (k := 0) C dX12_status_1 w6_59 (by decide) rfl ?_
  exact m_iret C dX12_status_4 rfl (Nat.le_of_ble_eq_true rfl) (Nat.le_of_ble_eq_true rfl) ⟨(v 0), rfl, fp0, hB, trivial⟩
set_option maxHeartbeats 4000000 in
set_option maxRecDepth 100000 in
theorem B_end {l : Launch} {G : GT} {h0 : Nat} {ad ln : Nat → Nat} {v : Nat → Int} {a : Nat → Nat → Int}  {n1 : Int} (hB : BX v a) (hn1 : -2147483648 ≤ n1 ∧ n1 ≤ 2147483647) : Mm l G yX12_end cX12_end 2 (some .int) 1 [.int (iI n1)] h0 ad ln v a 0 0 (fun r v2 a2 => ∃ f : Int, r = some (.int (iI f)) ∧ fr [0, 1, 3] [] v a v2 a2 ∧ BX v2 a2 ∧ ((f = -1 ∧ v2 3 = v 3 ∧ (n1 < 0 ∨ v 3 < n1)) ∨ (f = n1 ∧ v2 3 = n1 ∧ 0 ≤ n1 ∧ n1 ≤ v 3))) := by
  refine Mm.mk (by decide) (Nat.le_of_ble_eq_true rfl) ?_
  intro p e s m args below meth c A C
  refine hv2 (show 0 ≤ v 3 ∧ v 3 ≤ 3000 from hB.1 3) (show fr [0, 1, 3] [] v a v a from fr.refl) (fun r3 fp0 => ?_)
  refine m_iload_n (j := 1) C dX12_end_0 rfl ?_
  refine m_if_ge (tgt := 10) C ⟨by omega, by omega⟩ dX12_end_1 (by decide) (fun c1 => ?_) (fun c1 => ?_)
  · refine m_iload_n (j := 1) C dX12_end_10 rfl ?_
    refine m_aload_n (j := 0) C dX12_end_11 rfl ?_
    have rv1 : 0 ≤ v 3 ∧ v 3 ≤ 3000 := hB.1 3
    refine m_get (k := 3) C dX12_end_12 w6_62 (by decide) rfl ?_
    refine m_icmp_le (tgt := 25) C ⟨by omega, by omega⟩ (r32_c (lo := 0) (hi := 3000) rv1.1 rv1.2 (by decide) (by decide)) dX12_end_15 (by decide) (fun c2 => ?_) (fun c2 => ?_)
    · refine m_aload_n (j := 0) C dX12_end_25 rfl ?_
      refine m_iload_n (j := 1) C dX12_end_26 rfl ?_
      refine m_put (k := 3) (z := n1) C dX12_end_27 w6_62 (by decide) rfl rfl rfl ?_
      refine hv2 (show BX (va_up v 3 n1) a from hB.put (k := 3) (z := n1) (show 0 ≤ n1 ∧ n1 ≤ 3000 by omega)) (fp0.put (k := 3) (z := n1) rfl) (fun bq1 fq1 => ?_)
      refine m_aload_n (j := 0) C dX12_end_30 rfl ?_
      refine m_iload_n (j := 1) C dX12_end_31 rfl ?_
      refine m_call (mc2 := 0) (ms2 := 0) (As := [.int (iI n1)]) (rest := []) C (B_fine (x := n1) bq1 (by show -2147483648 ≤ n1 ∧ n1 ≤ 2147483647; omega)) dX12_end_32 kV_X12_158 rfl ck_13 rfl (Nat.le_of_ble_eq_true rfl) ⟨Nat.le_of_ble_eq_true rfl, Nat.le_of_ble_eq_true rfl⟩ ⟨Nat.le_of_ble_eq_true rfl, Nat.le_of_ble_eq_true rfl⟩ (fun rh1 vh1 ah1 h1 => ?_)
      obtain ⟨f1, rfl, fn1, bn1, ex1⟩ := h1
      refine hv2 (fq1.call fn1 rfl rfl) (show f1 = n1 from ex1) (fun fq2 gf1 => ?_)
      refine m_st (st2 := [.int (iI f1)]) rfl ?_
      refine hv2 (show 0 ≤ vh1 3 ∧ vh1 3 ≤ 3000 from bn1.1 3) (show vh1 3 = n1 from fn1.1 3 rfl) (fun rv2 ve1 => ?_)
      exact m_iret C dX12_end_35 rfl (Nat.le_of_ble_eq_true rfl) (Nat.le_of_ble_eq_true rfl) ⟨f1, rfl, fq2, bn1, (by show (f1 = -1 ∧ (vh1 3) = (v 3) ∧ (n1 < 0 ∨ (v 3) < n1)) ∨ (f1 = n1 ∧ (vh1 3) = n1 ∧ 0 ≤ n1 ∧ n1 ≤ (v 3)); omega)⟩
    · refine m_aload_n (j := 0) C dX12_end_18 rfl ?_
      refine m_bipush (z := 6) C dX12_end_19 (by decide) ?_
      refine m_call (mc2 := 0) (ms2 := 0) (As := [.int (iI 6)]) (rest := []) C (B_bad (x := 6) hB (by show -2147483648 ≤ (6 : Int) ∧ (6 : Int) ≤ 2147483647; omega)) dX12_end_21 kV_X12_154 rfl ck_13 rfl (Nat.le_of_ble_eq_true rfl) ⟨Nat.le_of_ble_eq_true rfl, Nat.le_of_ble_eq_true rfl⟩ ⟨Nat.le_of_ble_eq_true rfl, Nat.le_of_ble_eq_true rfl⟩ (fun rh2 vh2 ah2 h2 => ?_)
      obtain ⟨f2, rfl, fn2, bn2, ex2⟩ := h2
      refine hv2 (fp0.call fn2 rfl rfl) (show f2 = -1 from ex2) (fun fq3 gf2 => ?_)
      refine m_st (st2 := [.int (iI f2)]) rfl ?_
      refine hv2 (show 0 ≤ vh2 3 ∧ vh2 3 ≤ 3000 from bn2.1 3) (show vh2 3 = v 3 from fn2.1 3 rfl) (fun rv3 ve2 => ?_)
      exact m_iret C dX12_end_24 rfl (Nat.le_of_ble_eq_true rfl) (Nat.le_of_ble_eq_true rfl) ⟨f2, rfl, fq3, bn2, (by show (f2 = -1 ∧ (vh2 3) = (v 3) ∧ (n1 < 0 ∨ (v 3) < n1)) ∨ (f2 = n1 ∧ (vh2 3) = n1 ∧ 0 ≤ n1 ∧ n1 ≤ (v 3)); omega)⟩
  · refine m_aload_n (j := 0) C dX12_end_4 rfl ?_
    refine m_iconst C dX12_end_5 ?_
    refine m_call (mc2 := 0) (ms2 := 0) (As := [.int (iI 5)]) (rest := []) C (B_bad (x := 5) hB (by show -2147483648 ≤ (5 : Int) ∧ (5 : Int) ≤ 2147483647; omega)) dX12_end_6 kV_X12_154 rfl ck_13 rfl (Nat.le_of_ble_eq_true rfl) ⟨Nat.le_of_ble_eq_true rfl, Nat.le_of_ble_eq_true rfl⟩ ⟨Nat.le_of_ble_eq_true rfl, Nat.le_of_ble_eq_true rfl⟩ (fun rh3 vh3 ah3 h3 => ?_)
    obtain ⟨f3, rfl, fn3, bn3, ex3⟩ := h3
    refine hv2 (fp0.call fn3 rfl rfl) (show f3 = -1 from ex3) (fun fq4 gf3 => ?_)
    refine m_st (st2 := [.int (iI f3)]) rfl ?_
    refine hv2 (show 0 ≤ vh3 3 ∧ vh3 3 ≤ 3000 from bn3.1 3) (show vh3 3 = v 3 from fn3.1 3 rfl) (fun rv4 ve3 => ?_)
    exact m_iret C dX12_end_9 rfl (Nat.le_of_ble_eq_true rfl) (Nat.le_of_ble_eq_true rfl) ⟨f3, rfl, fq4, bn3, (by show (f3 = -1 ∧ (vh3 3) = (v 3) ∧ (n1 < 0 ∨ (v 3) < n1)) ∨ (f3 = n1 ∧ (vh3 3) = n1 ∧ 0 ≤ n1 ∧ n1 ≤ (v 3)); omega)⟩
def bsel (k x1 x2 x3 x4 x5 : Int) : Int := if k < 4 then x1 else if k < 8 then x2 else if k < 12 then x3 else if k < 16 then x4 else x5
def rby (y k : Int) : Int := ((iI y >>> ((iI 24 - iI 8 * (iI k &&& iI 3)) &&& 31)) &&& iI 255).toInt
def rfd (ss : Nat → Int) (n : Nat) (x1 x2 x3 x4 x5 : Int) : Nat → (Nat → Int)
  | 0 => ss
  | i + 1 => va_up (rfd ss n x1 x2 x3 x4 x5 i) (n + i) (rby (bsel (i : Int) x1 x2 x3 x4 x5) (i : Int))
theorem rby_of {y k z1 z2 z3 z4 : Int} (e1 : iI k &&& iI 3 = iI z1) (e2 : iI (24 - (8 * z1)) = iI z2) (e3 : iI y >>> (iI z2 &&& 31) = iI z3) (e4 : iI z3 &&& iI 255 = iI z4) (h4 : R32 z4) : z4 = rby y k := by
  unfold rby
  have q : iI 24 - iI 8 * iI z1 = iI z2 := by rw [← e2]; exact ((Int32.ofInt_sub ..).trans (congrArg (fun w => iI 24 - w) (Int32.ofInt_mul ..))).symm
  rw [e1, q, e3, e4, iI_int h4]
theorem rfd_step {a2 : Nat → Nat → Int} {ss : Nat → Int} {n i : Nat} {x1 x2 x3 x4 x5 k z : Int} (h : a2 2 = rfd ss n x1 x2 x3 x4 x5 k.toNat) (hk : 0 ≤ k) (hi : i = n + k.toNat) (hz : z = rby (bsel k x1 x2 x3 x4 x5) k) : up2 a2 2 i z 2 = rfd ss n x1 x2 x3 x4 x5 (k + 1).toNat := by
  refine hv2 (show (k + 1).toNat = k.toNat + 1 from by omega) (show ((k.toNat : Nat) : Int) = k from Int.toNat_of_nonneg hk) (fun e e2 => ?_)
  rw [e]
  show _ = va_up (rfd ss n x1 x2 x3 x4 x5 k.toNat) (n + k.toNat) (rby (bsel ((k.toNat : Nat) : Int) x1 x2 x3 x4 x5) ((k.toNat : Nat) : Int))
  rw [e2, ← h, ← hi, ← hz]
  funext j
  unfold up2 va_up
  rw [if_pos rfl]
def TOK (ss : Nat → Int) (n : Int) : Prop := ∀ j : Nat, (j : Int) < n → (ss j = 10 ∨ (32 ≤ ss j ∧ ss j ≤ 126))
theorem TOK.zero {ss : Nat → Int} : TOK ss 0 := fun j hj => absurd hj (by omega)
theorem TOK.snoc {ss : Nat → Int} {k : Int} (h : TOK ss k) (hk : 0 ≤ k) (hb : ss k.toNat = 10 ∨ (32 ≤ ss k.toNat ∧ ss k.toNat ≤ 126)) : TOK ss (k + 1) := fun j hj => by
  by_cases e : (j : Int) < k
  · exact h j e
  · rw [show j = k.toNat by omega]; exact hb
theorem TOK.step {ss : Nat → Int} {g g2 k : Int} (h : g = 1 ↔ TOK ss k) (hk : 0 ≤ k) (e : g2 = 1 ↔ (g = 1 ∧ (ss k.toNat = 10 ∨ (32 ≤ ss k.toNat ∧ ss k.toNat ≤ 126)))) : g2 = 1 ↔ TOK ss (k + 1) :=
  ⟨fun q => TOK.snoc (h.mp (e.mp q).1) hk (e.mp q).2, fun q => e.mpr ⟨h.mpr (fun j hj => q j (by omega)), q k.toNat (by omega)⟩⟩
set_option maxHeartbeats 4000000 in
set_option maxRecDepth 100000 in
theorem B_feed {l : Launch} {G : GT} {h0 : Nat} {ad ln : Nat → Nat} {v : Nat → Int} {a : Nat → Nat → Int}  {x1 x2 x3 x4 x5 : Int} (hB : BX v a) (hx1 : -2147483648 ≤ x1 ∧ x1 ≤ 2147483647) (hx2 : -2147483648 ≤ x2 ∧ x2 ≤ 2147483647) (hx3 : -2147483648 ≤ x3 ∧ x3 ≤ 2147483647) (hx4 : -2147483648 ≤ x4 ∧ x4 ≤ 2147483647) (hx5 : -2147483648 ≤ x5 ∧ x5 ≤ 2147483647) : Mm l G yX12_feed cX12_feed 8 (some .int) 1 [.int (iI x1), .int (iI x2), .int (iI x3), .int (iI x4), .int (iI x5)] h0 ad ln v a 0 0 (fun r v2 a2 => ∃ f : Int, r = some (.int (iI f)) ∧ fr [0, 1, 3] [2] v a v2 a2 ∧ BX v2 a2 ∧ ((f = -1 ∧ v2 3 = v 3 ∧ 2980 < v 3 ∧ a2 2 = a 2) ∨ (f = v 3 + 20 ∧ v2 3 = v 3 + 20 ∧ v 3 ≤ 2980 ∧ a2 2 = rfd (a 2) (v 3).toNat x1 x2 x3 x4 x5 20))) := by
  refine Mm.mk (by decide) (Nat.le_of_ble_eq_true rfl) ?_
  intro p e s m args below meth c A C
  refine hv2 (show 0 ≤ v 3 ∧ v 3 ≤ 3000 from hB.1 3) (show fr [0, 1, 3] [2] v a v a from fr.refl) (fun r3 fp0 => ?_)
  refine m_aload_n (j := 0) C dX12_feed_0 rfl ?_
  have rv1 : 0 ≤ v 3 ∧ v 3 ≤ 3000 := hB.1 3
  refine m_get (k := 3) C dX12_feed_1 w6_62 (by decide) rfl ?_
  refine m_bipush (z := 20) C dX12_feed_4 (by decide) ?_
  refine m_iadd C dX12_feed_6 ?_
  refine m_sipush (z := 3000) C dX12_feed_7 (by decide) ?_
  refine m_icmp_le (tgt := 20) C ⟨by omega, by omega⟩ ⟨by decide, by decide⟩ dX12_feed_10 (by decide) (fun c1 => ?_) (fun c1 => ?_)
  · refine m_iconst C dX12_feed_20 ?_
    refine m_istore (lv2 := [(6, .int (iI 0)), (0, .ref h0), (1, .int (iI x1)), (2, .int (iI x2)), (3, .int (iI x3)), (4, .int (iI x4)), (5, .int (iI x5))]) C dX12_feed_21 (by decide) rfl ?_
    have Lp1 : ∀ (nn : Nat) (k : Int) (vb1 : Nat → Int) (ab1 : Nat → Nat → Int), 21 - k < (nn : Int) → BX vb1 ab1 → fr [0, 1, 3] [2] v a vb1 ab1 → (0 ≤ k ∧ k ≤ 20) → (vb1 3 = v 3 + k) → (ab1 2 = rfd (a 2) (v 3).toNat x1 x2 x3 x4 x5 k.toNat) → mw p l e (rmq 1 0 0) s m args below meth c G A 8 (MQ below (Qm G A (fun rq Lq Eq => ∃ (vq : Nat → Int) (aq : Nat → Nat → Int), mI G h0 ad ln vq aq Lq Eq ∧ (fun r v2 a2 => ∃ f : Int, r = some (.int (iI f)) ∧ fr [0, 1, 3] [2] v a v2 a2 ∧ BX v2 a2 ∧ ((f = -1 ∧ v2 3 = v 3 ∧ 2980 < v 3 ∧ a2 2 = a 2) ∨ (f = v 3 + 20 ∧ v2 3 = v 3 + 20 ∧ v 3 ≤ 2980 ∧ a2 2 = rfd (a 2) (v 3).toNat x1 x2 x3 x4 x5 20))) rq vq aq)) args s 0 0 A) h0 ad ln vb1 ab1 0 0 23 [(6, .int (iI k)), (0, .ref h0), (1, .int (iI x1)), (2, .int (iI x2)), (3, .int (iI x3)), (4, .int (iI x4)), (5, .int (iI x5))] [] := by
      intro nn
      induction nn with
      | zero =>
        intro k vb1 ab1 hm bxb1 fpb1 hk h3 hfd
        exact absurd hm (by omega)
      | succ nn ih1 =>
        intro k vb1 ab1 hm bxb1 fpb1 hk h3 hfd
        refine m_iload (j := 0) C dX12_feed_23 rfl ?_
        refine m_bipush (z := 20) C dX12_feed_25 (by decide) ?_
        refine m_icmp_ge (tgt := 120) C (r32_c (lo := 0) (hi := 20) hk.1 hk.2 (by decide) (by decide)) ⟨by decide, by decide⟩ dX12_feed_27 (by decide) (fun c2 => ?_) (fun c2 => ?_)
        · refine m_aload_n (j := 1) C dX12_feed_120 rfl ?_
          refine m_aload_n (j := 1) C dX12_feed_121 rfl ?_
          have rv2 : 0 ≤ vb1 3 ∧ vb1 3 ≤ 3000 := bxb1.1 3
          refine m_get (k := 3) C dX12_feed_122 w6_62 (by decide) rfl ?_
          refine m_call (mc2 := 0) (ms2 := 0) (As := [.int (iI (vb1 3))]) (rest := []) C (B_fine (x := vb1 3) bxb1 (by show -2147483648 ≤ (vb1 3) ∧ (vb1 3) ≤ 2147483647; omega)) dX12_feed_125 kV_X12_158 rfl ck_13 rfl (Nat.le_of_ble_eq_true rfl) ⟨Nat.le_of_ble_eq_true rfl, Nat.le_of_ble_eq_true rfl⟩ ⟨Nat.le_of_ble_eq_true rfl, Nat.le_of_ble_eq_true rfl⟩ (fun rh1 vh1 ah1 h1 => ?_)
          obtain ⟨f1, rfl, fn1, bn1, ex1⟩ := h1
          refine hv2 (fpb1.call fn1 rfl rfl) (show f1 = (vb1 3) from ex1) (fun fq1 gf1 => ?_)
          refine m_st (st2 := [.int (iI f1)]) rfl ?_
          refine hv2 (show 0 ≤ vh1 3 ∧ vh1 3 ≤ 3000 from bn1.1 3) (show vh1 3 = vb1 3 from fn1.1 3 rfl) (fun rv3 ve1 => ?_)
          exact m_iret C dX12_feed_128 rfl (Nat.le_of_ble_eq_true rfl) (Nat.le_of_ble_eq_true rfl) ⟨f1, rfl, fq1, bn1, (Or.inr ⟨by omega, by omega, by omega, (fn1.2 2 rfl).trans (hfd.trans (by rw [show k.toNat = 20 by omega]))⟩)⟩
        · refine m_iload (j := 0) C dX12_feed_30 rfl ?_
          refine m_iconst C dX12_feed_32 ?_
          have J1 : ∀ (y : Int) (vb2 : Nat → Int) (ab2 : Nat → Nat → Int), BX vb2 ab2 → fr [0, 1, 3] [2] v a vb2 ab2 → (-2147483648 ≤ y ∧ y ≤ 2147483647) → (vb2 3 = v 3 + k) → (y = bsel k x1 x2 x3 x4 x5) → (ab2 2 = rfd (a 2) (v 3).toNat x1 x2 x3 x4 x5 k.toNat) → mw p l e (rmq 1 0 0) s m args below meth c G A 8 (MQ below (Qm G A (fun rq Lq Eq => ∃ (vq : Nat → Int) (aq : Nat → Nat → Int), mI G h0 ad ln vq aq Lq Eq ∧ (fun r v2 a2 => ∃ f : Int, r = some (.int (iI f)) ∧ fr [0, 1, 3] [2] v a v2 a2 ∧ BX v2 a2 ∧ ((f = -1 ∧ v2 3 = v 3 ∧ 2980 < v 3 ∧ a2 2 = a 2) ∨ (f = v 3 + 20 ∧ v2 3 = v 3 + 20 ∧ v 3 ≤ 2980 ∧ a2 2 = rfd (a 2) (v 3).toNat x1 x2 x3 x4 x5 20))) rq vq aq)) args s 0 0 A) h0 ad ln vb2 ab2 0 0 76 [(6, .int (iI k)), (0, .ref h0), (1, .int (iI x1)), (2, .int (iI x2)), (3, .int (iI x3)), (4, .int (iI x4)), (5, .int (iI x5))] [.int (iI y)] := by
            intro y vb2 ab2 bxb2 fpb2 hy h32 hy2 hfd2
            refine m_istore (lv2 := [(7, .int (iI y)), (6, .int (iI k)), (0, .ref h0), (1, .int (iI x1)), (2, .int (iI x2)), (3, .int (iI x3)), (4, .int (iI x4)), (5, .int (iI x5))]) C dX12_feed_76 (by decide) rfl ?_
            refine m_aload_n (j := 2) C dX12_feed_78 rfl ?_
            refine m_geta (k := 2) C dX12_feed_79 w6_61 (by decide) rfl ?_
            refine m_aload_n (j := 2) C dX12_feed_82 rfl ?_
            have rv4 : 0 ≤ vb2 3 ∧ vb2 3 ≤ 3000 := bxb2.1 3
            refine m_get (k := 3) C dX12_feed_83 w6_62 (by decide) rfl ?_
            refine m_iload (j := 0) C dX12_feed_86 rfl ?_
            refine m_bipush (z := 24) C dX12_feed_88 (by decide) ?_
            refine m_bipush (z := 8) C dX12_feed_90 (by decide) ?_
            refine m_iload (j := 1) C dX12_feed_92 rfl ?_
            refine m_iconst C dX12_feed_94 ?_
            obtain ⟨zz1, hzz1, ezz1⟩ := iI_of (iI k &&& iI 3)
            refine m_iand (w := iI zz1) C dX12_feed_95 ezz1 ?_
            refine m_imul C dX12_feed_96 ?_
            refine m_isub C dX12_feed_97 ?_
            obtain ⟨zz2, hzz2, ezz2⟩ := iI_of (iI (24 - (8 * zz1)))
            refine m_st (st2 := [.int (iI zz2), .int (iI y), .int (iI (vb2 3)), .ref (ad 2)]) (by rw [ezz2]) ?_
            obtain ⟨zz3, hzz3, ezz3⟩ := iI_of (iI y >>> (iI zz2 &&& 31))
            refine m_ishr (w := iI zz3) C dX12_feed_98 ezz3 ?_
            refine m_sipush (z := 255) C dX12_feed_99 (by decide) ?_
            obtain ⟨zz4, hzz4, ezz4⟩ := iI_of (iI zz3 &&& iI 255)
            refine m_iand (w := iI zz4) C dX12_feed_102 ezz4 ?_
            refine m_ast (k := 2) C dX12_feed_103 rfl rfl (by decide) (by omega) (by show _ < ((_ : Nat) : Int); simp only [mlen]; omega) (by decide) ?_
            refine hv2 (show BX vb2 (up2 ab2 2 (vb2 3).toNat zz4) from bxb2.set (k := 2) (i := (vb2 3).toNat) (z := zz4) (show (-2147483648) ≤ zz4 ∧ zz4 ≤ 2147483647 by omega)) (fpb2.set (k := 2) (i := (vb2 3).toNat) (z := zz4) rfl) (fun bq1 fq2 => ?_)
            refine m_aload_n (j := 2) C dX12_feed_104 rfl ?_
            refine m_dup C dX12_feed_105 rfl ?_
            refine m_get (k := 3) C dX12_feed_106 w6_62 (by decide) rfl ?_
            refine m_iconst C dX12_feed_109 ?_
            refine m_iadd C dX12_feed_110 ?_
            refine m_put (k := 3) (z := (vb2 3) + 1) C dX12_feed_111 w6_62 (by decide) rfl rfl rfl ?_
            refine hv2 (show BX (va_up vb2 3 ((vb2 3) + 1)) (up2 ab2 2 (vb2 3).toNat zz4) from bq1.put (k := 3) (z := (vb2 3) + 1) (show 0 ≤ ((vb2 3) + 1) ∧ ((vb2 3) + 1) ≤ 3000 by omega)) (fq2.put (k := 3) (z := (vb2 3) + 1) rfl) (fun bq2 fq3 => ?_)
            refine m_iinc (z := k) (j := 1) (lv2 := [(6, .int (iI (k + 1))), (7, .int (iI y)), (0, .ref h0), (1, .int (iI x1)), (2, .int (iI x2)), (3, .int (iI x3)), (4, .int (iI x4)), (5, .int (iI x5))]) C dX12_feed_114 rfl (by decide) rfl ?_
            refine m_goto (tgt := 23) C dX12_feed_117 (by decide) ?_
            refine m_lv (lv2 := [(6, .int (iI (k + 1))), (0, .ref h0), (1, .int (iI x1)), (2, .int (iI x2)), (3, .int (iI x3)), (4, .int (iI x4)), (5, .int (iI x5))]) [0, 2, 3, 4, 5, 6, 7] rfl ?_
            exact ih1  (k + 1) _ _ (by omega) bq2 fq3 (by omega) (by show ((vb2 3) + 1) = v 3 + (k + 1); omega) (rfd_step hfd2 (by omega) (by omega) (by rw [← hy2]; exact rby_of ezz1 ezz2 ezz3 ezz4 hzz4))
          refine m_icmp_ge (tgt := 40) C (r32_c (lo := 0) (hi := 20) hk.1 hk.2 (by decide) (by decide)) ⟨by decide, by decide⟩ dX12_feed_33 (by decide) (fun c3 => ?_) (fun c3 => ?_)
          · refine m_iload (j := 0) C dX12_feed_40 rfl ?_
            refine m_bipush (z := 8) C dX12_feed_42 (by decide) ?_
            refine m_icmp_ge (tgt := 51) C (r32_c (lo := 0) (hi := 20) hk.1 hk.2 (by decide) (by decide)) ⟨by decide, by decide⟩ dX12_feed_44 (by decide) (fun c4 => ?_) (fun c4 => ?_)
            · refine m_iload (j := 0) C dX12_feed_51 rfl ?_
              refine m_bipush (z := 12) C dX12_feed_53 (by decide) ?_
              refine m_icmp_ge (tgt := 62) C (r32_c (lo := 0) (hi := 20) hk.1 hk.2 (by decide) (by decide)) ⟨by decide, by decide⟩ dX12_feed_55 (by decide) (fun c5 => ?_) (fun c5 => ?_)
              · refine m_iload (j := 0) C dX12_feed_62 rfl ?_
                refine m_bipush (z := 16) C dX12_feed_64 (by decide) ?_
                refine m_icmp_ge (tgt := 74) C (r32_c (lo := 0) (hi := 20) hk.1 hk.2 (by decide) (by decide)) ⟨by decide, by decide⟩ dX12_feed_66 (by decide) (fun c6 => ?_) (fun c6 => ?_)
                · refine m_iload (j := 6) C dX12_feed_74 rfl ?_
                  have rv5 : 0 ≤ vb1 3 ∧ vb1 3 ≤ 3000 := bxb1.1 3
                  refine m_lv (lv2 := [(6, .int (iI k)), (0, .ref h0), (1, .int (iI x1)), (2, .int (iI x2)), (3, .int (iI x3)), (4, .int (iI x4)), (5, .int (iI x5))]) [0, 1, 2, 3, 4, 5, 6] rfl ?_
                  exact J1  x5 _ _  bxb1 fpb1 (by omega) (by show (vb1 3) = v 3 + k; omega) (by unfold bsel; (repeat' split) <;> omega) hfd
                · refine m_iload (j := 5) C dX12_feed_69 rfl ?_
                  refine m_goto (tgt := 76) C dX12_feed_71 (by decide) ?_
                  have rv6 : 0 ≤ vb1 3 ∧ vb1 3 ≤ 3000 := bxb1.1 3
                  refine m_lv (lv2 := [(6, .int (iI k)), (0, .ref h0), (1, .int (iI x1)), (2, .int (iI x2)), (3, .int (iI x3)), (4, .int (iI x4)), (5, .int (iI x5))]) [0, 1, 2, 3, 4, 5, 6] rfl ?_
                  exact J1  x4 _ _  bxb1 fpb1 (by omega) (by show (vb1 3) = v 3 + k; omega) (by unfold bsel; (repeat' split) <;> omega) hfd
              · refine m_iload_n (j := 4) C dX12_feed_58 rfl ?_
                refine m_goto (tgt := 76) C dX12_feed_59 (by decide) ?_
                have rv7 : 0 ≤ vb1 3 ∧ vb1 3 ≤ 3000 := bxb1.1 3
                refine m_lv (lv2 := [(6, .int (iI k)), (0, .ref h0), (1, .int (iI x1)), (2, .int (iI x2)), (3, .int (iI x3)), (4, .int (iI x4)), (5, .int (iI x5))]) [0, 1, 2, 3, 4, 5, 6] rfl ?_
                exact J1  x3 _ _  bxb1 fpb1 (by omega) (by show (vb1 3) = v 3 + k; omega) (by unfold bsel; (repeat' split) <;> omega) hfd
            · refine m_iload_n (j := 3) C dX12_feed_47 rfl ?_
              refine m_goto (tgt := 76) C dX12_feed_48 (by decide) ?_
              have rv8 : 0 ≤ vb1 3 ∧ vb1 3 ≤ 3000 := bxb1.1 3
              refine m_lv (lv2 := [(6, .int (iI k)), (0, .ref h0), (1, .int (iI x1)), (2, .int (iI x2)), (3, .int (iI x3)), (4, .int (iI x4)), (5, .int (iI x5))]) [0, 1, 2, 3, 4, 5, 6] rfl ?_
              exact J1  x2 _ _  bxb1 fpb1 (by omega) (by show (vb1 3) = v 3 + k; omega) (by unfold bsel; (repeat' split) <;> omega) hfd
          · refine m_iload_n (j := 2) C dX12_feed_36 rfl ?_
            refine m_goto (tgt := 76) C dX12_feed_37 (by decide) ?_
            have rv9 : 0 ≤ vb1 3 ∧ vb1 3 ≤ 3000 := bxb1.1 3
            refine m_lv (lv2 := [(6, .int (iI k)), (0, .ref h0), (1, .int (iI x1)), (2, .int (iI x2)), (3, .int (iI x3)), (4, .int (iI x4)), (5, .int (iI x5))]) [0, 1, 2, 3, 4, 5, 6] rfl ?_
            exact J1  x1 _ _  bxb1 fpb1 (by omega) (by show (vb1 3) = v 3 + k; omega) (by unfold bsel; (repeat' split) <;> omega) hfd
    refine m_lv (lv2 := [(6, .int (iI 0)), (0, .ref h0), (1, .int (iI x1)), (2, .int (iI x2)), (3, .int (iI x3)), (4, .int (iI x4)), (5, .int (iI x5))]) [0, 1, 2, 3, 4, 5, 6] rfl ?_
    exact Lp1 22 0 _ _ (by omega) hB fp0 (by omega) (by show (v 3) = v 3 + 0; omega) rfl
  · refine m_aload_n (j := 0) C dX12_feed_13 rfl ?_
    refine m_bipush (z := 6) C dX12_feed_14 (by decide) ?_
    refine m_call (mc2 := 0) (ms2 := 0) (As := [.int (iI 6)]) (rest := []) C (B_bad (x := 6) hB (by show -2147483648 ≤ (6 : Int) ∧ (6 : Int) ≤ 2147483647; omega)) dX12_feed_16 kV_X12_154 rfl ck_13 rfl (Nat.le_of_ble_eq_true rfl) ⟨Nat.le_of_ble_eq_true rfl, Nat.le_of_ble_eq_true rfl⟩ ⟨Nat.le_of_ble_eq_true rfl, Nat.le_of_ble_eq_true rfl⟩ (fun rh2 vh2 ah2 h2 => ?_)
    obtain ⟨f2, rfl, fn2, bn2, ex2⟩ := h2
    refine hv2 (fp0.call fn2 rfl rfl) (show f2 = -1 from ex2) (fun fq4 gf2 => ?_)
    refine m_st (st2 := [.int (iI f2)]) rfl ?_
    refine hv2 (show 0 ≤ vh2 3 ∧ vh2 3 ≤ 3000 from bn2.1 3) (show vh2 3 = v 3 from fn2.1 3 rfl) (fun rv10 ve2 => ?_)
    exact m_iret C dX12_feed_19 rfl (Nat.le_of_ble_eq_true rfl) (Nat.le_of_ble_eq_true rfl) ⟨f2, rfl, fq4, bn2, (Or.inl ⟨by omega, by omega, by omega, fn2.2 2 rfl⟩)⟩
def apd (tt : Nat → Int) (m : Nat) (ss : Nat → Int) : Nat → Int := fun j => if j < m then tt j else ss (j - m)
def TXI (v : Nat → Int) (a : Nat → Nat → Int) (A : Nat → Int) (k : Int) : Prop := ∀ j : Nat, (j : Int) < v 30 + k → A j = apd (a 29) (v 30).toNat (a 2) j
def TXR (v : Nat → Int) (a : Nat → Nat → Int) (v2 : Nat → Int) (a2 : Nat → Nat → Int) (f : Int) : Prop := (f = -1 → a2 29 = a 29) ∧ (f ≠ -1 → ∀ j : Nat, (j : Int) < v2 30 → a2 29 j = apd (a 29) (v 30).toNat (a 2) j)
theorem TXI.zero {v : Nat → Int} {a : Nat → Nat → Int} {A : Nat → Int} (h : A = a 29) : TXI v a A 0 := fun j hj => by
  rw [h]
  unfold apd
  rw [if_pos (by omega)]
theorem TXI.step {v : Nat → Int} {a ab : Nat → Nat → Int} {k z : Int} {i : Nat} (h : TXI v a (ab 29) k) (h0 : 0 ≤ k) (h30 : 0 ≤ v 30) (hi : i = (v 30 + k).toNat) (hz : z = a 2 k.toNat) : TXI v a (up2 ab 29 i z 29) (k + 1) := fun j hj => by
  by_cases e : j = i
  · subst e
    rw [up2_s, hz]
    unfold apd
    rw [if_neg (by omega)]
    exact congrArg (a 2) (by omega)
  · rw [up2_j e]
    exact h j (by omega)
set_option maxHeartbeats 4000000 in
set_option maxRecDepth 100000 in
theorem B_text {l : Launch} {G : GT} {h0 : Nat} {ad ln : Nat → Nat} {v : Nat → Int} {a : Nat → Nat → Int}  (hB : BX v a)  : Mm l G yX12_text cX12_text 4 (some .int) 1 [] h0 ad ln v a 0 0 (fun r v2 a2 => ∃ f : Int, r = some (.int (iI f)) ∧ fr [0, 1, 3, 30] [29] v a v2 a2 ∧ BX v2 a2 ∧ ((v2 3 = 0 ∧ ((f = -1 ∧ v2 30 = v 30 ∧ ¬ (TOK (a 2) (v 3) ∧ v 30 + v 3 ≤ 500)) ∨ (f = v2 30 ∧ TOK (a 2) (v 3) ∧ v 30 + v 3 ≤ 500 ∧ ((v 3 = 0 ∧ v2 30 = 0) ∨ (v 3 ≠ 0 ∧ v2 30 = v 30 + v 3))))) ∧ TXR v a v2 a2 f)) := by
  refine Mm.mk (by decide) (Nat.le_of_ble_eq_true rfl) ?_
  intro p e s m args below meth c A C
  refine hv3 (show 0 ≤ v 3 ∧ v 3 ≤ 3000 from hB.1 3) (show 0 ≤ v 30 ∧ v 30 ≤ 500 from hB.1 30) (show fr [0, 1, 3, 30] [29] v a v a from fr.refl) (fun r3 r30 fp0 => ?_)
  refine m_aload_n (j := 0) C dX12_text_0 rfl ?_
  have rv1 : 0 ≤ v 3 ∧ v 3 ≤ 3000 := hB.1 3
  refine m_call (mc2 := 0) (ms2 := 0) (As := []) (rest := []) C (B_taken  hB ) dX12_text_1 kV_X12_192 rfl ck_13 rfl (Nat.le_of_ble_eq_true rfl) ⟨Nat.le_of_ble_eq_true rfl, Nat.le_of_ble_eq_true rfl⟩ ⟨Nat.le_of_ble_eq_true rfl, Nat.le_of_ble_eq_true rfl⟩ (fun rh1 vh1 ah1 h1 => ?_)
  obtain ⟨f1, rfl, fn1, bn1, ex1⟩ := h1
  refine hv3 (fp0.call fn1 rfl rfl) (show 0 ≤ vh1 3 ∧ vh1 3 ≤ 3000 from bn1.1 3) (show f1 = (v 3) ∧ (vh1 3) = 0 from ex1) (fun fq1 rv2 gf1 => ?_)
  refine m_st (st2 := [.int (iI f1)]) rfl ?_
  refine m_istore_n (lv2 := [(1, .int (iI f1)), (0, .ref h0)]) C dX12_text_4 (by decide) rfl ?_
  refine m_iconst C dX12_text_5 ?_
  refine m_istore_n (lv2 := [(2, .int (iI 1)), (1, .int (iI f1)), (0, .ref h0)]) C dX12_text_6 (by decide) rfl ?_
  refine m_iconst C dX12_text_7 ?_
  refine m_istore_n (lv2 := [(3, .int (iI 0)), (2, .int (iI 1)), (1, .int (iI f1)), (0, .ref h0)]) C dX12_text_8 (by decide) rfl ?_
  have Lp1 : ∀ (nn : Nat) (g k : Int) (vb1 : Nat → Int) (ab1 : Nat → Nat → Int), 3001 - k < (nn : Int) → BX vb1 ab1 → fr [0, 1, 3, 30] [29] v a vb1 ab1 → (g = 0 ∨ g = 1) → (0 ≤ k ∧ k ≤ f1) → (vb1 3 = 0) → (vb1 30 = v 30) → (g = 1 ↔ TOK (a 2) k) → (ab1 29 = a 29) → mw p l e (rmq 1 0 0) s m args below meth c G A 4 (MQ below (Qm G A (fun rq Lq Eq => ∃ (vq : Nat → Int) (aq : Nat → Nat → Int), mI G h0 ad ln vq aq Lq Eq ∧ (fun r v2 a2 => ∃ f : Int, r = some (.int (iI f)) ∧ fr [0, 1, 3, 30] [29] v a v2 a2 ∧ BX v2 a2 ∧ ((v2 3 = 0 ∧ ((f = -1 ∧ v2 30 = v 30 ∧ ¬ (TOK (a 2) (v 3) ∧ v 30 + v 3 ≤ 500)) ∨ (f = v2 30 ∧ TOK (a 2) (v 3) ∧ v 30 + v 3 ≤ 500 ∧ ((v 3 = 0 ∧ v2 30 = 0) ∨ (v 3 ≠ 0 ∧ v2 30 = v 30 + v 3))))) ∧ TXR v a v2 a2 f)) rq vq aq)) args s 0 0 A) h0 ad ln vb1 ab1 0 0 9 [(3, .int (iI k)), (2, .int (iI g)), (1, .int (iI f1)), (0, .ref h0)] [] := by
    intro nn
    induction nn with
    | zero =>
      intro g k vb1 ab1 hm bxb1 fpb1 hg hk h3 h30 hg2 h29
      exact absurd hm (by omega)
    | succ nn ih1 =>
      intro g k vb1 ab1 hm bxb1 fpb1 hg hk h3 h30 hg2 h29
      refine m_iload_n (j := 0) C dX12_text_9 rfl ?_
      refine m_iload_n (j := 2) C dX12_text_10 rfl ?_
      refine m_icmp_ge (tgt := 57) C ⟨by omega, by omega⟩ ⟨by omega, by omega⟩ dX12_text_11 (by decide) (fun c1 => ?_) (fun c1 => ?_)
      · refine m_iload_n (j := 1) C dX12_text_57 rfl ?_
        refine m_if_eq (tgt := 73) C (r32_01 hg) dX12_text_58 (by decide) (fun c2 => ?_) (fun c2 => ?_)
        · clear hg
          refine m_aload_n (j := 3) C dX12_text_73 rfl ?_
          refine m_bipush (z := 6) C dX12_text_74 (by decide) ?_
          refine m_call (mc2 := 0) (ms2 := 0) (As := [.int (iI 6)]) (rest := []) C (B_bad (x := 6) bxb1 (by show -2147483648 ≤ (6 : Int) ∧ (6 : Int) ≤ 2147483647; omega)) dX12_text_76 kV_X12_154 rfl ck_13 rfl (Nat.le_of_ble_eq_true rfl) ⟨Nat.le_of_ble_eq_true rfl, Nat.le_of_ble_eq_true rfl⟩ ⟨Nat.le_of_ble_eq_true rfl, Nat.le_of_ble_eq_true rfl⟩ (fun rh2 vh2 ah2 h2 => ?_)
          obtain ⟨f2, rfl, fn2, bn2, ex2⟩ := h2
          refine hv2 (fpb1.call fn2 rfl rfl) (show f2 = -1 from ex2) (fun fq2 gf2 => ?_)
          refine m_st (st2 := [.int (iI f2)]) rfl ?_
          refine hv4 (show 0 ≤ vh2 3 ∧ vh2 3 ≤ 3000 from bn2.1 3) (show vh2 3 = vb1 3 from fn2.1 3 rfl) (show 0 ≤ vh2 30 ∧ vh2 30 ≤ 500 from bn2.1 30) (show vh2 30 = vb1 30 from fn2.1 30 rfl) (fun rv3 ve1 rv4 ve2 => ?_)
          exact m_iret C dX12_text_79 rfl (Nat.le_of_ble_eq_true rfl) (Nat.le_of_ble_eq_true rfl) ⟨f2, rfl, fq2, bn2, ⟨⟨by omega, Or.inl ⟨by omega, by omega, fun q => absurd (hg2.mpr (fun j hj => q.1 j (by omega))) (fun q2 => absurd q.2 (by omega))⟩⟩, fun _ => (fn2.2 29 rfl).trans h29, fun e => absurd (by omega) e⟩⟩
        · replace hg := (hg.resolve_left c2)
          refine m_aload_n (j := 3) C dX12_text_61 rfl ?_
          have rv5 : 0 ≤ vb1 30 ∧ vb1 30 ≤ 500 := bxb1.1 30
          refine m_get (k := 30) C dX12_text_62 w6_89 (by decide) rfl ?_
          refine m_iload_n (j := 2) C dX12_text_65 rfl ?_
          refine m_iadd C dX12_text_66 ?_
          refine m_sipush (z := 500) C dX12_text_67 (by decide) ?_
          refine m_icmp_le (tgt := 80) C ⟨by omega, by omega⟩ ⟨by decide, by decide⟩ dX12_text_70 (by decide) (fun c3 => ?_) (fun c3 => ?_)
          · refine m_iconst C dX12_text_80 ?_
            refine m_istore_n (lv2 := [(3, .int (iI 0)), (2, .int (iI g)), (1, .int (iI f1)), (0, .ref h0)]) C dX12_text_81 (by decide) rfl ?_
            have Lp2 : ∀ (nn : Nat) (k1 : Int) (vb2 : Nat → Int) (ab2 : Nat → Nat → Int), 501 - k1 < (nn : Int) → BX vb2 ab2 → fr [0, 1, 3, 30] [29] v a vb2 ab2 → (0 ≤ k1 ∧ k1 ≤ f1) → (vb2 3 = 0) → (vb2 30 = v 30) → (TXI v a (ab2 29) k1) → mw p l e (rmq 1 0 0) s m args below meth c G A 4 (MQ below (Qm G A (fun rq Lq Eq => ∃ (vq : Nat → Int) (aq : Nat → Nat → Int), mI G h0 ad ln vq aq Lq Eq ∧ (fun r v2 a2 => ∃ f : Int, r = some (.int (iI f)) ∧ fr [0, 1, 3, 30] [29] v a v2 a2 ∧ BX v2 a2 ∧ ((v2 3 = 0 ∧ ((f = -1 ∧ v2 30 = v 30 ∧ ¬ (TOK (a 2) (v 3) ∧ v 30 + v 3 ≤ 500)) ∨ (f = v2 30 ∧ TOK (a 2) (v 3) ∧ v 30 + v 3 ≤ 500 ∧ ((v 3 = 0 ∧ v2 30 = 0) ∨ (v 3 ≠ 0 ∧ v2 30 = v 30 + v 3))))) ∧ TXR v a v2 a2 f)) rq vq aq)) args s 0 0 A) h0 ad ln vb2 ab2 0 0 82 [(3, .int (iI k1)), (2, .int (iI g)), (1, .int (iI f1)), (0, .ref h0)] [] := by
              intro nn
              induction nn with
              | zero =>
                intro k1 vb2 ab2 hm bxb2 fpb2 hk1 h31 h301 h29b
                exact absurd hm (by omega)
              | succ nn ih2 =>
                intro k1 vb2 ab2 hm bxb2 fpb2 hk1 h31 h301 h29b
                refine m_iload_n (j := 0) C dX12_text_82 rfl ?_
                refine m_iload_n (j := 2) C dX12_text_83 rfl ?_
                refine m_icmp_ge (tgt := 110) C ⟨by omega, by omega⟩ ⟨by omega, by omega⟩ dX12_text_84 (by decide) (fun c4 => ?_) (fun c4 => ?_)
                · refine m_aload_n (j := 3) C dX12_text_110 rfl ?_
                  refine m_iload_n (j := 2) C dX12_text_111 rfl ?_
                  refine m_if_ne (tgt := 119) C ⟨by omega, by omega⟩ dX12_text_112 (by decide) (fun c5 => ?_) (fun c5 => ?_)
                  · refine m_aload_n (j := 3) C dX12_text_119 rfl ?_
                    have rv6 : 0 ≤ vb2 30 ∧ vb2 30 ≤ 500 := bxb2.1 30
                    refine m_get (k := 30) C dX12_text_120 w6_89 (by decide) rfl ?_
                    refine m_iload_n (j := 2) C dX12_text_123 rfl ?_
                    refine m_iadd C dX12_text_124 ?_
                    refine m_put (k := 30) (z := (vb2 30) + f1) C dX12_text_125 w6_89 (by decide) rfl rfl rfl ?_
                    refine hv2 (show BX (va_up vb2 30 ((vb2 30) + f1)) ab2 from bxb2.put (k := 30) (z := (vb2 30) + f1) (show 0 ≤ ((vb2 30) + f1) ∧ ((vb2 30) + f1) ≤ 500 by omega)) (fpb2.put (k := 30) (z := (vb2 30) + f1) rfl) (fun bq1 fq3 => ?_)
                    refine m_aload_n (j := 3) C dX12_text_128 rfl ?_
                    refine m_aload_n (j := 3) C dX12_text_129 rfl ?_
                    refine m_get (k := 30) C dX12_text_130 w6_89 (by decide) rfl ?_
                    refine m_st (st2 := [.int (iI ((vb2 30) + f1)), .ref h0]) rfl ?_
                    refine m_call (mc2 := 0) (ms2 := 0) (As := [.int (iI ((vb2 30) + f1))]) (rest := []) C (B_fine (x := (vb2 30) + f1) bq1 (by show -2147483648 ≤ ((vb2 30) + f1) ∧ ((vb2 30) + f1) ≤ 2147483647; omega)) dX12_text_133 kV_X12_158 rfl ck_13 rfl (Nat.le_of_ble_eq_true rfl) ⟨Nat.le_of_ble_eq_true rfl, Nat.le_of_ble_eq_true rfl⟩ ⟨Nat.le_of_ble_eq_true rfl, Nat.le_of_ble_eq_true rfl⟩ (fun rh4 vh4 ah4 h4 => ?_)
                    obtain ⟨f3, rfl, fn3, bn3, ex3⟩ := h4
                    refine hv2 (fq3.call fn3 rfl rfl) (show f3 = ((vb2 30) + f1) from ex3) (fun fq4 gf3 => ?_)
                    refine m_st (st2 := [.int (iI f3)]) rfl ?_
                    refine hv4 (show 0 ≤ vh4 3 ∧ vh4 3 ≤ 3000 from bn3.1 3) (show vh4 3 = vb2 3 from fn3.1 3 rfl) (show 0 ≤ vh4 30 ∧ vh4 30 ≤ 500 from bn3.1 30) (show vh4 30 = (vb2 30) + f1 from fn3.1 30 rfl) (fun rv7 ve3 rv8 ve4 => ?_)
                    exact m_iret C dX12_text_136 rfl (Nat.le_of_ble_eq_true rfl) (Nat.le_of_ble_eq_true rfl) ⟨f3, rfl, fq4, bn3, ⟨⟨by omega, Or.inr ⟨by omega, fun j hj => hg2.mp (by omega) j (by omega), by omega, by omega⟩⟩, fun e => absurd e (by omega), fun _ j hj => (congrFun (fn3.2 29 rfl) j).trans (h29b j (by omega))⟩⟩
                  · refine m_iconst C dX12_text_115 ?_
                    refine m_goto (tgt := 125) C dX12_text_116 (by decide) ?_
                    refine m_put (k := 30) (z := 0) C dX12_text_125 w6_89 (by decide) rfl rfl rfl ?_
                    refine hv2 (show BX (va_up vb2 30 0) ab2 from bxb2.put (k := 30) (z := 0) ⟨by decide, by decide⟩) (fpb2.put (k := 30) (z := 0) rfl) (fun bq2 fq5 => ?_)
                    refine m_aload_n (j := 3) C dX12_text_128 rfl ?_
                    refine m_aload_n (j := 3) C dX12_text_129 rfl ?_
                    refine m_get (k := 30) C dX12_text_130 w6_89 (by decide) rfl ?_
                    refine m_st (st2 := [.int (iI 0), .ref h0]) rfl ?_
                    refine m_call (mc2 := 0) (ms2 := 0) (As := [.int (iI 0)]) (rest := []) C (B_fine (x := 0) bq2 (by show -2147483648 ≤ (0 : Int) ∧ (0 : Int) ≤ 2147483647; omega)) dX12_text_133 kV_X12_158 rfl ck_13 rfl (Nat.le_of_ble_eq_true rfl) ⟨Nat.le_of_ble_eq_true rfl, Nat.le_of_ble_eq_true rfl⟩ ⟨Nat.le_of_ble_eq_true rfl, Nat.le_of_ble_eq_true rfl⟩ (fun rh5 vh5 ah5 h5 => ?_)
                    obtain ⟨f4, rfl, fn4, bn4, ex4⟩ := h5
                    refine hv2 (fq5.call fn4 rfl rfl) (show f4 = (0 : Int) from ex4) (fun fq6 gf4 => ?_)
                    refine m_st (st2 := [.int (iI f4)]) rfl ?_
                    refine hv4 (show 0 ≤ vh5 3 ∧ vh5 3 ≤ 3000 from bn4.1 3) (show vh5 3 = vb2 3 from fn4.1 3 rfl) (show 0 ≤ vh5 30 ∧ vh5 30 ≤ 500 from bn4.1 30) (show vh5 30 = 0 from fn4.1 30 rfl) (fun rv9 ve5 rv10 ve6 => ?_)
                    exact m_iret C dX12_text_136 rfl (Nat.le_of_ble_eq_true rfl) (Nat.le_of_ble_eq_true rfl) ⟨f4, rfl, fq6, bn4, ⟨⟨by omega, Or.inr ⟨by omega, fun j hj => hg2.mp (by omega) j (by omega), by omega, by omega⟩⟩, fun e => absurd e (by omega), fun _ j hj => (congrFun (fn4.2 29 rfl) j).trans (h29b j (by omega))⟩⟩
                · refine m_aload_n (j := 3) C dX12_text_87 rfl ?_
                  refine m_geta (k := 29) C dX12_text_88 w6_88 (by decide) rfl ?_
                  refine m_aload_n (j := 3) C dX12_text_91 rfl ?_
                  have rv11 : 0 ≤ vb2 30 ∧ vb2 30 ≤ 500 := bxb2.1 30
                  refine m_get (k := 30) C dX12_text_92 w6_89 (by decide) rfl ?_
                  refine m_iload_n (j := 0) C dX12_text_95 rfl ?_
                  refine m_iadd C dX12_text_96 ?_
                  refine m_aload_n (j := 3) C dX12_text_97 rfl ?_
                  refine m_geta (k := 2) C dX12_text_98 w6_61 (by decide) rfl ?_
                  refine m_iload_n (j := 0) C dX12_text_101 rfl ?_
                  refine m_ald (k := 2) C dX12_text_102 rfl rfl (by decide) (by omega) (by show _ < ((_ : Nat) : Int); simp only [mlen]; omega) (by decide) ?_
                  refine hv2 (show (-2147483648) ≤ ab2 2 k1.toNat ∧ ab2 2 k1.toNat ≤ 2147483647 from bxb2.2 2 (k1.toNat)) (show ab2 2 (k1.toNat) = a 2 (k1.toNat) from congrFun (fpb2.2 2 rfl) (k1.toNat)) (fun ra1 ae1 => ?_)
                  refine m_st (st2 := [.int (iI (a 2 k1.toNat)), .int (iI ((vb2 30) + k1)), .ref (ad 29)]) (congrArg (fun z => Value.int (iI z) :: [.int (iI ((vb2 30) + k1)), .ref (ad 29)]) (congrFun (fpb2.2 2 rfl) (k1.toNat))) ?_
                  refine m_ast (k := 29) C dX12_text_103 rfl rfl (by decide) (by omega) (by show _ < ((_ : Nat) : Int); simp only [mlen]; omega) (by decide) ?_
                  refine hv2 (show BX vb2 (up2 ab2 29 ((vb2 30) + k1).toNat (a 2 k1.toNat)) from bxb2.set (k := 29) (i := ((vb2 30) + k1).toNat) (z := a 2 k1.toNat) (show (-2147483648) ≤ (a 2 k1.toNat) ∧ (a 2 k1.toNat) ≤ 2147483647 by omega)) (fpb2.set (k := 29) (i := ((vb2 30) + k1).toNat) (z := a 2 k1.toNat) rfl) (fun bq3 fq7 => ?_)
                  refine m_iinc (z := k1) (j := 0) (lv2 := [(3, .int (iI (k1 + 1))), (2, .int (iI g)), (1, .int (iI f1)), (0, .ref h0)]) C dX12_text_104 rfl (by decide) rfl ?_
                  refine m_goto (tgt := 82) C dX12_text_107 (by decide) ?_
                  have rv12 : 0 ≤ vb2 3 ∧ vb2 3 ≤ 3000 := bq3.1 3
                  refine m_lv (lv2 := [(3, .int (iI (k1 + 1))), (2, .int (iI g)), (1, .int (iI f1)), (0, .ref h0)]) [0, 1, 2, 3] rfl ?_
                  exact ih2  (k1 + 1) _ _ (by omega) bq3 fq7 (by omega) (by show (vb2 3) = 0; omega) (by show (vb2 30) = v 30; omega) (h29b.step (by omega) (by omega) (by omega) rfl)
            have rv13 : 0 ≤ vb1 3 ∧ vb1 3 ≤ 3000 := bxb1.1 3
            refine m_lv (lv2 := [(3, .int (iI 0)), (2, .int (iI g)), (1, .int (iI f1)), (0, .ref h0)]) [0, 1, 2, 3] rfl ?_
            exact Lp2 502 0 _ _ (by omega) bxb1 fpb1 (by omega) (by show (vb1 3) = 0; omega) (by show (vb1 30) = v 30; omega) (TXI.zero h29)
          · refine m_aload_n (j := 3) C dX12_text_73 rfl ?_
            refine m_bipush (z := 6) C dX12_text_74 (by decide) ?_
            refine m_call (mc2 := 0) (ms2 := 0) (As := [.int (iI 6)]) (rest := []) C (B_bad (x := 6) bxb1 (by show -2147483648 ≤ (6 : Int) ∧ (6 : Int) ≤ 2147483647; omega)) dX12_text_76 kV_X12_154 rfl ck_13 rfl (Nat.le_of_ble_eq_true rfl) ⟨Nat.le_of_ble_eq_true rfl, Nat.le_of_ble_eq_true rfl⟩ ⟨Nat.le_of_ble_eq_true rfl, Nat.le_of_ble_eq_true rfl⟩ (fun rh6 vh6 ah6 h6 => ?_)
            obtain ⟨f5, rfl, fn5, bn5, ex5⟩ := h6
            refine hv2 (fpb1.call fn5 rfl rfl) (show f5 = -1 from ex5) (fun fq8 gf5 => ?_)
            refine m_st (st2 := [.int (iI f5)]) rfl ?_
            refine hv4 (show 0 ≤ vh6 3 ∧ vh6 3 ≤ 3000 from bn5.1 3) (show vh6 3 = vb1 3 from fn5.1 3 rfl) (show 0 ≤ vh6 30 ∧ vh6 30 ≤ 500 from bn5.1 30) (show vh6 30 = vb1 30 from fn5.1 30 rfl) (fun rv14 ve7 rv15 ve8 => ?_)
            exact m_iret C dX12_text_79 rfl (Nat.le_of_ble_eq_true rfl) (Nat.le_of_ble_eq_true rfl) ⟨f5, rfl, fq8, bn5, ⟨⟨by omega, Or.inl ⟨by omega, by omega, fun q => absurd (hg2.mpr (fun j hj => q.1 j (by omega))) (fun q2 => absurd q.2 (by omega))⟩⟩, fun _ => (fn5.2 29 rfl).trans h29, fun e => absurd (by omega) e⟩⟩
      · refine m_iload_n (j := 1) C dX12_text_14 rfl ?_
        refine m_if_eq (tgt := 49) C (r32_01 hg) dX12_text_15 (by decide) (fun c6 => ?_) (fun c6 => ?_)
        · clear hg
          refine m_iconst C dX12_text_49 ?_
          refine m_istore_n (lv2 := [(2, .int (iI 0)), (3, .int (iI k)), (1, .int (iI f1)), (0, .ref h0)]) C dX12_text_50 (by decide) rfl ?_
          refine m_iinc (z := k) (j := 1) (lv2 := [(3, .int (iI (k + 1))), (2, .int (iI 0)), (1, .int (iI f1)), (0, .ref h0)]) C dX12_text_51 rfl (by decide) rfl ?_
          refine m_goto (tgt := 9) C dX12_text_54 (by decide) ?_
          refine hv2 (show 0 ≤ vb1 3 ∧ vb1 3 ≤ 3000 from bxb1.1 3) (show 0 ≤ vb1 30 ∧ vb1 30 ≤ 500 from bxb1.1 30) (fun rv16 rv17 => ?_)
          refine m_lv (lv2 := [(3, .int (iI (k + 1))), (2, .int (iI 0)), (1, .int (iI f1)), (0, .ref h0)]) [0, 1, 2, 3] rfl ?_
          exact ih1  0 (k + 1) _ _ (by omega) bxb1 fpb1 (by omega) (by omega) (by show (vb1 3) = 0; omega) (by show (vb1 30) = v 30; omega) (TOK.step hg2 (by omega) (by omega)) h29
        · replace hg := (hg.resolve_left c6)
          refine m_aload_n (j := 3) C dX12_text_18 rfl ?_
          refine m_geta (k := 2) C dX12_text_19 w6_61 (by decide) rfl ?_
          refine m_iload_n (j := 0) C dX12_text_22 rfl ?_
          refine m_ald (k := 2) C dX12_text_23 rfl rfl (by decide) (by omega) (by show _ < ((_ : Nat) : Int); simp only [mlen]; omega) (by decide) ?_
          refine hv2 (show (-2147483648) ≤ ab1 2 k.toNat ∧ ab1 2 k.toNat ≤ 2147483647 from bxb1.2 2 (k.toNat)) (show ab1 2 (k.toNat) = a 2 (k.toNat) from congrFun (fpb1.2 2 rfl) (k.toNat)) (fun ra2 ae2 => ?_)
          refine m_st (st2 := [.int (iI (a 2 k.toNat))]) (congrArg (fun z => Value.int (iI z) :: []) (congrFun (fpb1.2 2 rfl) (k.toNat))) ?_
          refine m_bipush (z := 10) C dX12_text_24 (by decide) ?_
          refine m_icmp_eq (tgt := 45) C ⟨by omega, by omega⟩ ⟨by decide, by decide⟩ dX12_text_26 (by decide) (fun c7 => ?_) (fun c7 => ?_)
          · refine m_iconst C dX12_text_45 ?_
            refine m_goto (tgt := 50) C dX12_text_46 (by decide) ?_
            refine m_istore_n (lv2 := [(2, .int (iI 1)), (3, .int (iI k)), (1, .int (iI f1)), (0, .ref h0)]) C dX12_text_50 (by decide) rfl ?_
            refine m_iinc (z := k) (j := 1) (lv2 := [(3, .int (iI (k + 1))), (2, .int (iI 1)), (1, .int (iI f1)), (0, .ref h0)]) C dX12_text_51 rfl (by decide) rfl ?_
            refine m_goto (tgt := 9) C dX12_text_54 (by decide) ?_
            refine hv2 (show 0 ≤ vb1 3 ∧ vb1 3 ≤ 3000 from bxb1.1 3) (show 0 ≤ vb1 30 ∧ vb1 30 ≤ 500 from bxb1.1 30) (fun rv18 rv19 => ?_)
            refine m_lv (lv2 := [(3, .int (iI (k + 1))), (2, .int (iI 1)), (1, .int (iI f1)), (0, .ref h0)]) [0, 1, 2, 3] rfl ?_
            exact ih1  1 (k + 1) _ _ (by omega) bxb1 fpb1 (by omega) (by omega) (by show (vb1 3) = 0; omega) (by show (vb1 30) = v 30; omega) (TOK.step hg2 (by omega) (by omega)) h29
          · refine m_aload_n (j := 3) C dX12_text_29 rfl ?_
            refine m_geta (k := 2) C dX12_text_30 w6_61 (by decide) rfl ?_
            refine m_iload_n (j := 0) C dX12_text_33 rfl ?_
            refine m_ald (k := 2) C dX12_text_34 rfl rfl (by decide) (by omega) (by show _ < ((_ : Nat) : Int); simp only [mlen]; omega) (by decide) ?_
            refine m_st (st2 := [.int (iI (a 2 k.toNat))]) (congrArg (fun z => Value.int (iI z) :: []) (congrFun (fpb1.2 2 rfl) (k.toNat))) ?_
            refine m_bipush (z := 32) C dX12_text_35 (by decide) ?_
            refine m_bipush (z := 126) C dX12_text_37 (by decide) ?_
            refine m_callS (As := [.int (iI (a 2 k.toNat)), .int (iI 32), .int (iI 126)]) (rest := []) C (fun L E => s_isIn (iI (a 2 k.toNat)) (iI 32) (iI 126)) dX12_text_39 kS_X12_174 rfl rfl (Nat.le_of_ble_eq_true rfl) ⟨Nat.le_of_ble_eq_true rfl, Nat.le_of_ble_eq_true rfl⟩ ⟨Nat.le_of_ble_eq_true rfl, Nat.le_of_ble_eq_true rfl⟩ ?_
            rcases inn_c (x := a 2 k.toNat) (lo := 32) (hi := 126) ⟨by omega, by omega⟩ ⟨by decide, by decide⟩ ⟨by decide, by decide⟩ with ⟨h7a, h7b, h7e⟩ | ⟨h7a, h7e⟩
            · refine m_st (st2 := [.int (iI 1)]) (by rw [h7e]) ?_
              refine m_if_eq (tgt := 49) C ⟨by decide, by decide⟩ dX12_text_42 (by decide) (fun z => absurd z (by omega)) (fun _ => ?_)
              refine m_iconst C dX12_text_45 ?_
              refine m_goto (tgt := 50) C dX12_text_46 (by decide) ?_
              refine m_istore_n (lv2 := [(2, .int (iI 1)), (3, .int (iI k)), (1, .int (iI f1)), (0, .ref h0)]) C dX12_text_50 (by decide) rfl ?_
              refine m_iinc (z := k) (j := 1) (lv2 := [(3, .int (iI (k + 1))), (2, .int (iI 1)), (1, .int (iI f1)), (0, .ref h0)]) C dX12_text_51 rfl (by decide) rfl ?_
              refine m_goto (tgt := 9) C dX12_text_54 (by decide) ?_
              refine hv2 (show 0 ≤ vb1 3 ∧ vb1 3 ≤ 3000 from bxb1.1 3) (show 0 ≤ vb1 30 ∧ vb1 30 ≤ 500 from bxb1.1 30) (fun rv20 rv21 => ?_)
              refine m_lv (lv2 := [(3, .int (iI (k + 1))), (2, .int (iI 1)), (1, .int (iI f1)), (0, .ref h0)]) [0, 1, 2, 3] rfl ?_
              exact ih1  1 (k + 1) _ _ (by omega) bxb1 fpb1 (by omega) (by omega) (by show (vb1 3) = 0; omega) (by show (vb1 30) = v 30; omega) (TOK.step hg2 (by omega) (by omega)) h29
            · refine m_st (st2 := [.int (iI 0)]) (by rw [h7e]) ?_
              refine m_if_eq (tgt := 49) C ⟨by decide, by decide⟩ dX12_text_42 (by decide) (fun _ => ?_) (fun z => absurd z (by omega))
              refine m_iconst C dX12_text_49 ?_
              refine m_istore_n (lv2 := [(2, .int (iI 0)), (3, .int (iI k)), (1, .int (iI f1)), (0, .ref h0)]) C dX12_text_50 (by decide) rfl ?_
              refine m_iinc (z := k) (j := 1) (lv2 := [(3, .int (iI (k + 1))), (2, .int (iI 0)), (1, .int (iI f1)), (0, .ref h0)]) C dX12_text_51 rfl (by decide) rfl ?_
              refine m_goto (tgt := 9) C dX12_text_54 (by decide) ?_
              refine hv2 (show 0 ≤ vb1 3 ∧ vb1 3 ≤ 3000 from bxb1.1 3) (show 0 ≤ vb1 30 ∧ vb1 30 ≤ 500 from bxb1.1 30) (fun rv22 rv23 => ?_)
              refine m_lv (lv2 := [(3, .int (iI (k + 1))), (2, .int (iI 0)), (1, .int (iI f1)), (0, .ref h0)]) [0, 1, 2, 3] rfl ?_
              exact ih1  0 (k + 1) _ _ (by omega) bxb1 fpb1 (by omega) (by omega) (by show (vb1 3) = 0; omega) (by show (vb1 30) = v 30; omega) (TOK.step hg2 (by omega) (by omega)) h29
  refine hv2 (show 0 ≤ vh1 30 ∧ vh1 30 ≤ 500 from bn1.1 30) (show vh1 30 = v 30 from fn1.1 30 rfl) (fun rv24 ve9 => ?_)
  refine m_lv (lv2 := [(3, .int (iI 0)), (2, .int (iI 1)), (1, .int (iI f1)), (0, .ref h0)]) [0, 1, 2, 3] rfl ?_
  exact Lp1 3002 1 0 _ _ (by omega) bn1 fq1 (by omega) (by omega) (by show (vh1 3) = 0; omega) (by show (vh1 30) = v 30; omega) ⟨fun _ => TOK.zero, fun _ => rfl⟩ (fn1.2 29 rfl)
set_option maxHeartbeats 4000000 in
set_option maxRecDepth 100000 in
theorem B_length {l : Launch} {G : GT} {h0 : Nat} {ad ln : Nat → Nat} {v : Nat → Int} {a : Nat → Nat → Int}  {l0 : Int} (hB : BX v a) (hl0 : -2147483648 ≤ l0 ∧ l0 ≤ 2147483647) : Mm l G yX12_length cX12_length 2 (some .int) 2 [.int (iI l0)] h0 ad ln v a 0 0 (fun r v2 a2 => ∃ f : Int, r = some (.int (iI f)) ∧ fr [0, 1] [] v a v2 a2 ∧ BX v2 a2 ∧ (True)) := by
  refine Mm.mk (by decide) (Nat.le_of_ble_eq_true rfl) ?_
  intro p e s m args below meth c A C
  have fp0 : fr [0, 1] [] v a v a := fr.refl
  refine m_aload_n (j := 0) C dX12_length_0 rfl ?_
  refine m_iload_n (j := 1) C dX12_length_1 rfl ?_
  have rv1 : 0 ≤ v 36 ∧ v 36 ≤ 200 := hB.1 36
  refine m_call (mc2 := 0) (ms2 := 0) (As := [.int (iI l0)]) (rest := []) C (M_lineFault (l0 := l0) hB.rg ⟨by omega, by omega⟩ ⟨hB.1 36, hB.2 34⟩) dX12_length_2 kV_X12_294 rfl ck_13 rfl (Nat.le_of_ble_eq_true rfl) ⟨Nat.le_of_ble_eq_true rfl, Nat.le_of_ble_eq_true rfl⟩ ⟨Nat.le_of_ble_eq_true rfl, Nat.le_of_ble_eq_true rfl⟩ (fun rh1 vh1 ah1 h1 => ?_)
  obtain ⟨f1, rfl, hf1, rfl, rfl⟩ := h1
  refine hv2 (show (f1 = 2 ∧ ¬ (0 ≤ l0 ∧ l0 < (v 36))) ∨ (f1 = 1 ∧ 0 ≤ l0 ∧ l0 < (v 36) ∧ a 34 l0.toNat < 0) ∨ (f1 = 0 ∧ 0 ≤ l0 ∧ l0 < (v 36) ∧ 0 ≤ a 34 l0.toNat) from hf1) (show (-1) ≤ a 34 l0.toNat ∧ a 34 l0.toNat ≤ 200 from hB.2 34 (l0.toNat)) (fun gf1 ra1 => ?_)
  refine m_st (st2 := [.int (iI f1)]) rfl ?_
  refine m_if_le (tgt := 20) C ⟨by omega, by omega⟩ dX12_length_5 (by decide) (fun c1 => ?_) (fun c1 => ?_)
  · refine m_aload_n (j := 0) C dX12_length_20 rfl ?_
    refine m_aload_n (j := 0) C dX12_length_21 rfl ?_
    refine m_geta (k := 34) C dX12_length_22 w6_93 (by decide) rfl ?_
    refine m_iload_n (j := 1) C dX12_length_25 rfl ?_
    refine m_ald (k := 34) C dX12_length_26 rfl rfl (by decide) (by omega) (by show _ < ((_ : Nat) : Int); simp only [mlen]; omega) (by decide) ?_
    refine m_call (mc2 := 0) (ms2 := 0) (As := [.int (iI (a 34 l0.toNat))]) (rest := []) C (B_fine (x := a 34 l0.toNat) hB (by show -2147483648 ≤ (a 34 l0.toNat) ∧ (a 34 l0.toNat) ≤ 2147483647; omega)) dX12_length_27 kV_X12_158 rfl ck_13 rfl (Nat.le_of_ble_eq_true rfl) ⟨Nat.le_of_ble_eq_true rfl, Nat.le_of_ble_eq_true rfl⟩ ⟨Nat.le_of_ble_eq_true rfl, Nat.le_of_ble_eq_true rfl⟩ (fun rh2 vh2 ah2 h2 => ?_)
    obtain ⟨f2, rfl, fn1, bn1, ex1⟩ := h2
    refine hv2 (fp0.call fn1 rfl rfl) (show f2 = (a 34 l0.toNat) from ex1) (fun fq1 gf2 => ?_)
    refine m_st (st2 := [.int (iI f2)]) rfl ?_
    exact m_iret C dX12_length_30 rfl (Nat.le_of_ble_eq_true rfl) (Nat.le_of_ble_eq_true rfl) ⟨f2, rfl, fq1, bn1, trivial⟩
  · refine m_aload_n (j := 0) C dX12_length_8 rfl ?_
    refine m_aload_n (j := 0) C dX12_length_9 rfl ?_
    refine m_iload_n (j := 1) C dX12_length_10 rfl ?_
    refine m_call (mc2 := 0) (ms2 := 0) (As := [.int (iI l0)]) (rest := [.ref h0]) C (M_lineFault (l0 := l0) hB.rg ⟨by omega, by omega⟩ ⟨hB.1 36, hB.2 34⟩) dX12_length_11 kV_X12_294 rfl ck_13 rfl (Nat.le_of_ble_eq_true rfl) ⟨Nat.le_of_ble_eq_true rfl, Nat.le_of_ble_eq_true rfl⟩ ⟨Nat.le_of_ble_eq_true rfl, Nat.le_of_ble_eq_true rfl⟩ (fun rh3 vh3 ah3 h3 => ?_)
    obtain ⟨f3, rfl, hf3, rfl, rfl⟩ := h3
    have gf3 : (f3 = 2 ∧ ¬ (0 ≤ l0 ∧ l0 < (v 36))) ∨ (f3 = 1 ∧ 0 ≤ l0 ∧ l0 < (v 36) ∧ a 34 l0.toNat < 0) ∨ (f3 = 0 ∧ 0 ≤ l0 ∧ l0 < (v 36) ∧ 0 ≤ a 34 l0.toNat) := hf3
    refine m_st (st2 := [.int (iI f3), .ref h0]) rfl ?_
    refine m_call (mc2 := 0) (ms2 := 0) (As := [.int (iI f3)]) (rest := []) C (B_bad (x := f3) hB (by show -2147483648 ≤ f3 ∧ f3 ≤ 2147483647; omega)) dX12_length_14 kV_X12_154 rfl ck_13 rfl (Nat.le_of_ble_eq_true rfl) ⟨Nat.le_of_ble_eq_true rfl, Nat.le_of_ble_eq_true rfl⟩ ⟨Nat.le_of_ble_eq_true rfl, Nat.le_of_ble_eq_true rfl⟩ (fun rh4 vh4 ah4 h4 => ?_)
    obtain ⟨f4, rfl, fn2, bn2, ex2⟩ := h4
    refine hv2 (fp0.call fn2 rfl rfl) (show f4 = -1 from ex2) (fun fq2 gf4 => ?_)
    refine m_st (st2 := [.int (iI f4)]) rfl ?_
    refine m_goto (tgt := 30) C dX12_length_17 (by decide) ?_
    exact m_iret C dX12_length_30 rfl (Nat.le_of_ble_eq_true rfl) (Nat.le_of_ble_eq_true rfl) ⟨f4, rfl, fq2, bn2, trivial⟩
set_option maxHeartbeats 4000000 in
set_option maxRecDepth 100000 in
theorem B_letter {l : Launch} {G : GT} {h0 : Nat} {ad ln : Nat → Nat} {v : Nat → Int} {a : Nat → Nat → Int}  {i : Int} (hB : BX v a) (hi : -2147483648 ≤ i ∧ i ≤ 2147483647) : Mm l G yX12_letter cX12_letter 2 (some .int) 2 [.int (iI i)] h0 ad ln v a 0 0 (fun r v2 a2 => ∃ f : Int, r = some (.int (iI f)) ∧ fr [0, 1] [] v a v2 a2 ∧ BX v2 a2 ∧ (True)) := by
  refine Mm.mk (by decide) (Nat.le_of_ble_eq_true rfl) ?_
  intro p e s m args below meth c A C
  have fp0 : fr [0, 1] [] v a v a := fr.refl
  refine m_iload_n (j := 1) C dX12_letter_0 rfl ?_
  refine m_iconst C dX12_letter_1 ?_
  refine m_aload_n (j := 0) C dX12_letter_2 rfl ?_
  have rv1 : 0 ≤ v 52 ∧ v 52 ≤ 4000 := hB.1 52
  refine m_get (k := 52) C dX12_letter_3 w6_111 (by decide) rfl ?_
  refine m_iconst C dX12_letter_6 ?_
  refine m_isub C dX12_letter_7 ?_
  refine m_callS (As := [.int (iI i), .int (iI 0), .int (iI ((v 52) - 1))]) (rest := []) C (fun L E => s_isIn (iI i) (iI 0) (iI ((v 52) - 1))) dX12_letter_8 kS_X12_174 rfl rfl (Nat.le_of_ble_eq_true rfl) ⟨Nat.le_of_ble_eq_true rfl, Nat.le_of_ble_eq_true rfl⟩ ⟨Nat.le_of_ble_eq_true rfl, Nat.le_of_ble_eq_true rfl⟩ ?_
  rcases inn_c (x := i) (lo := 0) (hi := (v 52) - 1) ⟨by omega, by omega⟩ ⟨by decide, by decide⟩ ⟨by omega, by omega⟩ with ⟨h1a, h1b, h1e⟩ | ⟨h1a, h1e⟩
  · refine m_st (st2 := [.int (iI 1)]) (by rw [h1e]) ?_
    refine m_if_eq (tgt := 27) C ⟨by decide, by decide⟩ dX12_letter_11 (by decide) (fun z => absurd z (by omega)) (fun _ => ?_)
    refine m_aload_n (j := 0) C dX12_letter_14 rfl ?_
    refine m_aload_n (j := 0) C dX12_letter_15 rfl ?_
    refine m_geta (k := 51) C dX12_letter_16 w6_110 (by decide) rfl ?_
    refine m_iload_n (j := 1) C dX12_letter_19 rfl ?_
    refine m_ald (k := 51) C dX12_letter_20 rfl rfl (by decide) (by omega) (by show _ < ((_ : Nat) : Int); simp only [mlen]; omega) (by decide) ?_
    have ra1 : (-2147483648) ≤ a 51 i.toNat ∧ a 51 i.toNat ≤ 2147483647 := hB.2 51 (i.toNat)
    refine m_call (mc2 := 0) (ms2 := 0) (As := [.int (iI (a 51 i.toNat))]) (rest := []) C (B_fine (x := a 51 i.toNat) hB (by show -2147483648 ≤ (a 51 i.toNat) ∧ (a 51 i.toNat) ≤ 2147483647; omega)) dX12_letter_21 kV_X12_158 rfl ck_13 rfl (Nat.le_of_ble_eq_true rfl) ⟨Nat.le_of_ble_eq_true rfl, Nat.le_of_ble_eq_true rfl⟩ ⟨Nat.le_of_ble_eq_true rfl, Nat.le_of_ble_eq_true rfl⟩ (fun rh2 vh2 ah2 h2 => ?_)
    obtain ⟨f1, rfl, fn1, bn1, ex1⟩ := h2
    refine hv2 (fp0.call fn1 rfl rfl) (show f1 = (a 51 i.toNat) from ex1) (fun fq1 gf1 => ?_)
    refine m_st (st2 := [.int (iI f1)]) rfl ?_
    refine m_goto (tgt := 32) C dX12_letter_24 (by decide) ?_
    exact m_iret C dX12_letter_32 rfl (Nat.le_of_ble_eq_true rfl) (Nat.le_of_ble_eq_true rfl) ⟨f1, rfl, fq1, bn1, trivial⟩
  · refine m_st (st2 := [.int (iI 0)]) (by rw [h1e]) ?_
    refine m_if_eq (tgt := 27) C ⟨by decide, by decide⟩ dX12_letter_11 (by decide) (fun _ => ?_) (fun z => absurd z (by omega))
    refine m_aload_n (j := 0) C dX12_letter_27 rfl ?_
    refine m_iconst C dX12_letter_28 ?_
    refine m_call (mc2 := 0) (ms2 := 0) (As := [.int (iI 2)]) (rest := []) C (B_bad (x := 2) hB (by show -2147483648 ≤ (2 : Int) ∧ (2 : Int) ≤ 2147483647; omega)) dX12_letter_29 kV_X12_154 rfl ck_13 rfl (Nat.le_of_ble_eq_true rfl) ⟨Nat.le_of_ble_eq_true rfl, Nat.le_of_ble_eq_true rfl⟩ ⟨Nat.le_of_ble_eq_true rfl, Nat.le_of_ble_eq_true rfl⟩ (fun rh3 vh3 ah3 h3 => ?_)
    obtain ⟨f2, rfl, fn2, bn2, ex2⟩ := h3
    refine hv2 (fp0.call fn2 rfl rfl) (show f2 = -1 from ex2) (fun fq2 gf2 => ?_)
    refine m_st (st2 := [.int (iI f2)]) rfl ?_
    exact m_iret C dX12_letter_32 rfl (Nat.le_of_ble_eq_true rfl) (Nat.le_of_ble_eq_true rfl) ⟨f2, rfl, fq2, bn2, trivial⟩
set_option maxHeartbeats 4000000 in
set_option maxRecDepth 100000 in
theorem B_reading {l : Launch} {G : GT} {h0 : Nat} {ad ln : Nat → Nat} {v : Nat → Int} {a : Nat → Nat → Int}  {k i : Int} (hB : BX v a) (hk : -2147483648 ≤ k ∧ k ≤ 2147483647) (hi : -2147483648 ≤ i ∧ i ≤ 2147483647) : Mm l G yX12_reading cX12_reading 3 (some .int) 2 [.int (iI k), .int (iI i)] h0 ad ln v a 0 0 (fun r v2 a2 => ∃ f : Int, r = some (.int (iI f)) ∧ fr [0, 1] [] v a v2 a2 ∧ BX v2 a2 ∧ (True)) := by
  refine Mm.mk (by decide) (Nat.le_of_ble_eq_true rfl) ?_
  intro p e s m args below meth c A C
  have fp0 : fr [0, 1] [] v a v a := fr.refl
  refine m_iload_n (j := 1) C dX12_reading_0 rfl ?_
  refine m_iconst C dX12_reading_1 ?_
  refine m_aload_n (j := 0) C dX12_reading_2 rfl ?_
  have rv1 : 0 ≤ v 60 ∧ v 60 ≤ 50 := hB.1 60
  refine m_get (k := 60) C dX12_reading_3 w6_119 (by decide) rfl ?_
  refine m_iconst C dX12_reading_6 ?_
  refine m_isub C dX12_reading_7 ?_
  refine m_callS (As := [.int (iI k), .int (iI 0), .int (iI ((v 60) - 1))]) (rest := []) C (fun L E => s_isIn (iI k) (iI 0) (iI ((v 60) - 1))) dX12_reading_8 kS_X12_174 rfl rfl (Nat.le_of_ble_eq_true rfl) ⟨Nat.le_of_ble_eq_true rfl, Nat.le_of_ble_eq_true rfl⟩ ⟨Nat.le_of_ble_eq_true rfl, Nat.le_of_ble_eq_true rfl⟩ ?_
  rcases inn_c (x := k) (lo := 0) (hi := (v 60) - 1) ⟨by omega, by omega⟩ ⟨by decide, by decide⟩ ⟨by omega, by omega⟩ with ⟨h1a, h1b, h1e⟩ | ⟨h1a, h1e⟩
  · refine m_st (st2 := [.int (iI 1)]) (by rw [h1e]) ?_
    refine m_if_eq (tgt := 49) C ⟨by decide, by decide⟩ dX12_reading_11 (by decide) (fun z => absurd z (by omega)) (fun _ => ?_)
    refine m_iload_n (j := 2) C dX12_reading_14 rfl ?_
    refine m_iconst C dX12_reading_15 ?_
    refine m_aload_n (j := 0) C dX12_reading_16 rfl ?_
    refine m_geta (k := 59) C dX12_reading_17 w6_118 (by decide) rfl ?_
    refine m_iload_n (j := 1) C dX12_reading_20 rfl ?_
    refine m_ald (k := 59) C dX12_reading_21 rfl rfl (by decide) (by omega) (by show _ < ((_ : Nat) : Int); simp only [mlen]; omega) (by decide) ?_
    have ra1 : 0 ≤ a 59 k.toNat ∧ a 59 k.toNat ≤ 808 := hB.2 59 (k.toNat)
    refine m_iconst C dX12_reading_22 ?_
    refine m_isub C dX12_reading_23 ?_
    refine m_callS (As := [.int (iI i), .int (iI 0), .int (iI ((a 59 k.toNat) - 1))]) (rest := []) C (fun L E => s_isIn (iI i) (iI 0) (iI ((a 59 k.toNat) - 1))) dX12_reading_24 kS_X12_174 rfl rfl (Nat.le_of_ble_eq_true rfl) ⟨Nat.le_of_ble_eq_true rfl, Nat.le_of_ble_eq_true rfl⟩ ⟨Nat.le_of_ble_eq_true rfl, Nat.le_of_ble_eq_true rfl⟩ ?_
    rcases inn_c (x := i) (lo := 0) (hi := (a 59 k.toNat) - 1) ⟨by omega, by omega⟩ ⟨by decide, by decide⟩ ⟨by omega, by omega⟩ with ⟨h2a, h2b, h2e⟩ | ⟨h2a, h2e⟩
    · refine m_st (st2 := [.int (iI 1)]) (by rw [h2e]) ?_
      refine m_if_eq (tgt := 49) C ⟨by decide, by decide⟩ dX12_reading_27 (by decide) (fun z => absurd z (by omega)) (fun _ => ?_)
      refine m_aload_n (j := 0) C dX12_reading_30 rfl ?_
      refine m_aload_n (j := 0) C dX12_reading_31 rfl ?_
      refine m_geta (k := 58) C dX12_reading_32 w6_117 (by decide) rfl ?_
      refine m_sipush (z := 808) C dX12_reading_35 (by decide) ?_
      refine m_iload_n (j := 1) C dX12_reading_38 rfl ?_
      refine m_imul C dX12_reading_39 ?_
      refine m_iload_n (j := 2) C dX12_reading_40 rfl ?_
      refine m_iadd C dX12_reading_41 ?_
      refine m_ald (k := 58) C dX12_reading_42 rfl rfl (by decide) (by omega) (by show _ < ((_ : Nat) : Int); simp only [mlen]; omega) (by decide) ?_
      have ra2 : (-2147483648) ≤ a 58 ((808 * k) + i).toNat ∧ a 58 ((808 * k) + i).toNat ≤ 2147483647 := hB.2 58 (((808 * k) + i).toNat)
      refine m_call (mc2 := 0) (ms2 := 0) (As := [.int (iI (a 58 ((808 * k) + i).toNat))]) (rest := []) C (B_fine (x := a 58 ((808 * k) + i).toNat) hB (by show -2147483648 ≤ (a 58 ((808 * k) + i).toNat) ∧ (a 58 ((808 * k) + i).toNat) ≤ 2147483647; omega)) dX12_reading_43 kV_X12_158 rfl ck_13 rfl (Nat.le_of_ble_eq_true rfl) ⟨Nat.le_of_ble_eq_true rfl, Nat.le_of_ble_eq_true rfl⟩ ⟨Nat.le_of_ble_eq_true rfl, Nat.le_of_ble_eq_true rfl⟩ (fun rh3 vh3 ah3 h3 => ?_)
      obtain ⟨f1, rfl, fn1, bn1, ex1⟩ := h3
      refine hv2 (fp0.call fn1 rfl rfl) (show f1 = (a 58 ((808 * k) + i).toNat) from ex1) (fun fq1 gf1 => ?_)
      refine m_st (st2 := [.int (iI f1)]) rfl ?_
      refine m_goto (tgt := 54) C dX12_reading_46 (by decide) ?_
      exact m_iret C dX12_reading_54 rfl (Nat.le_of_ble_eq_true rfl) (Nat.le_of_ble_eq_true rfl) ⟨f1, rfl, fq1, bn1, trivial⟩
    · refine m_st (st2 := [.int (iI 0)]) (by rw [h2e]) ?_
      refine m_if_eq (tgt := 49) C ⟨by decide, by decide⟩ dX12_reading_27 (by decide) (fun _ => ?_) (fun z => absurd z (by omega))
      refine m_aload_n (j := 0) C dX12_reading_49 rfl ?_
      refine m_iconst C dX12_reading_50 ?_
      refine m_call (mc2 := 0) (ms2 := 0) (As := [.int (iI 2)]) (rest := []) C (B_bad (x := 2) hB (by show -2147483648 ≤ (2 : Int) ∧ (2 : Int) ≤ 2147483647; omega)) dX12_reading_51 kV_X12_154 rfl ck_13 rfl (Nat.le_of_ble_eq_true rfl) ⟨Nat.le_of_ble_eq_true rfl, Nat.le_of_ble_eq_true rfl⟩ ⟨Nat.le_of_ble_eq_true rfl, Nat.le_of_ble_eq_true rfl⟩ (fun rh4 vh4 ah4 h4 => ?_)
      obtain ⟨f2, rfl, fn2, bn2, ex2⟩ := h4
      refine hv2 (fp0.call fn2 rfl rfl) (show f2 = -1 from ex2) (fun fq2 gf2 => ?_)
      refine m_st (st2 := [.int (iI f2)]) rfl ?_
      exact m_iret C dX12_reading_54 rfl (Nat.le_of_ble_eq_true rfl) (Nat.le_of_ble_eq_true rfl) ⟨f2, rfl, fq2, bn2, trivial⟩
  · refine m_st (st2 := [.int (iI 0)]) (by rw [h1e]) ?_
    refine m_if_eq (tgt := 49) C ⟨by decide, by decide⟩ dX12_reading_11 (by decide) (fun _ => ?_) (fun z => absurd z (by omega))
    refine m_aload_n (j := 0) C dX12_reading_49 rfl ?_
    refine m_iconst C dX12_reading_50 ?_
    refine m_call (mc2 := 0) (ms2 := 0) (As := [.int (iI 2)]) (rest := []) C (B_bad (x := 2) hB (by show -2147483648 ≤ (2 : Int) ∧ (2 : Int) ≤ 2147483647; omega)) dX12_reading_51 kV_X12_154 rfl ck_13 rfl (Nat.le_of_ble_eq_true rfl) ⟨Nat.le_of_ble_eq_true rfl, Nat.le_of_ble_eq_true rfl⟩ ⟨Nat.le_of_ble_eq_true rfl, Nat.le_of_ble_eq_true rfl⟩ (fun rh5 vh5 ah5 h5 => ?_)
    obtain ⟨f3, rfl, fn3, bn3, ex3⟩ := h5
    refine hv2 (fp0.call fn3 rfl rfl) (show f3 = -1 from ex3) (fun fq3 gf3 => ?_)
    refine m_st (st2 := [.int (iI f3)]) rfl ?_
    exact m_iret C dX12_reading_54 rfl (Nat.le_of_ble_eq_true rfl) (Nat.le_of_ble_eq_true rfl) ⟨f3, rfl, fq3, bn3, trivial⟩
set_option maxHeartbeats 4000000 in
set_option maxRecDepth 100000 in
theorem B_putBack {l : Launch} {G : GT} {h0 : Nat} {ad ln : Nat → Nat} {v : Nat → Int} {a : Nat → Nat → Int}  (hB : BX v a)  : Mm l G yX12_putBack cX12_putBack 2 none 0 [] h0 ad ln v a 0 0 (fun r v2 a2 => r = none ∧ fr [52] [51] v a v2 a2 ∧ BX v2 a2 ∧ (True)) := by
  refine Mm.mk (by decide) (Nat.le_of_ble_eq_true rfl) ?_
  intro p e s m args below meth c A C
  have fp0 : fr [52] [51] v a v a := fr.refl
  refine m_aload_n (j := 0) C dX12_putBack_0 rfl ?_
  refine m_aload_n (j := 0) C dX12_putBack_1 rfl ?_
  have rv1 : 0 ≤ v 55 ∧ v 55 ≤ 4000 := hB.1 55
  refine m_get (k := 55) C dX12_putBack_2 w6_114 (by decide) rfl ?_
  refine m_put (k := 52) (z := v 55) C dX12_putBack_5 w6_111 (by decide) rfl rfl rfl ?_
  refine hv2 (show BX (va_up v 52 (v 55)) a from hB.put (k := 52) (z := v 55) (show 0 ≤ (v 55) ∧ (v 55) ≤ 4000 by omega)) (fp0.put (k := 52) (z := v 55) rfl) (fun bq1 fq1 => ?_)
  refine m_iconst C dX12_putBack_8 ?_
  refine m_istore_n (lv2 := [(1, .int (iI 0)), (0, .ref h0)]) C dX12_putBack_9 (by decide) rfl ?_
  have Lp1 : ∀ (nn : Nat) (k : Int) (vb1 : Nat → Int) (ab1 : Nat → Nat → Int), 4001 - k < (nn : Int) → BX vb1 ab1 → fr [52] [51] v a vb1 ab1 → (0 ≤ k ∧ k ≤ 4000) → mw p l e (rmq 0 0 0) s m args below meth c G A 2 (MQ below (Qm G A (fun rq Lq Eq => ∃ (vq : Nat → Int) (aq : Nat → Nat → Int), mI G h0 ad ln vq aq Lq Eq ∧ (fun r v2 a2 => r = none ∧ fr [52] [51] v a v2 a2 ∧ BX v2 a2 ∧ (True)) rq vq aq)) args s 0 0 A) h0 ad ln vb1 ab1 0 0 10 [(1, .int (iI k)), (0, .ref h0)] [] := by
    intro nn
    induction nn with
    | zero =>
      intro k vb1 ab1 hm bxb1 fpb1 hk
      exact absurd hm (by omega)
    | succ nn ih1 =>
      intro k vb1 ab1 hm bxb1 fpb1 hk
      refine m_iload_n (j := 0) C dX12_putBack_10 rfl ?_
      refine m_aload_n (j := 1) C dX12_putBack_11 rfl ?_
      have rv2 : 0 ≤ vb1 52 ∧ vb1 52 ≤ 4000 := bxb1.1 52
      refine m_get (k := 52) C dX12_putBack_12 w6_111 (by decide) rfl ?_
      refine m_icmp_ge (tgt := 36) C (r32_c (lo := 0) (hi := 4000) hk.1 hk.2 (by decide) (by decide)) (r32_c (lo := 0) (hi := 4000) rv2.1 rv2.2 (by decide) (by decide)) dX12_putBack_15 (by decide) (fun c1 => ?_) (fun c1 => ?_)
      · exact m_vret C dX12_putBack_36 rfl (Nat.le_of_ble_eq_true rfl) (Nat.le_of_ble_eq_true rfl) ⟨rfl, fpb1, bxb1, trivial⟩
      · refine m_aload_n (j := 1) C dX12_putBack_18 rfl ?_
        refine m_geta (k := 51) C dX12_putBack_19 w6_110 (by decide) rfl ?_
        refine m_iload_n (j := 0) C dX12_putBack_22 rfl ?_
        refine m_aload_n (j := 1) C dX12_putBack_23 rfl ?_
        refine m_geta (k := 54) C dX12_putBack_24 w6_113 (by decide) rfl ?_
        refine m_iload_n (j := 0) C dX12_putBack_27 rfl ?_
        refine m_ald (k := 54) C dX12_putBack_28 rfl rfl (by decide) (by omega) (by show _ < ((_ : Nat) : Int); simp only [mlen]; omega) (by decide) ?_
        refine hv2 (show (-2147483648) ≤ ab1 54 k.toNat ∧ ab1 54 k.toNat ≤ 2147483647 from bxb1.2 54 (k.toNat)) (show ab1 54 (k.toNat) = a 54 (k.toNat) from congrFun (fpb1.2 54 rfl) (k.toNat)) (fun ra1 ae1 => ?_)
        refine m_st (st2 := [.int (iI (a 54 k.toNat)), .int (iI k), .ref (ad 51)]) (congrArg (fun z => Value.int (iI z) :: [.int (iI k), .ref (ad 51)]) (congrFun (fpb1.2 54 rfl) (k.toNat))) ?_
        refine m_ast (k := 51) C dX12_putBack_29 rfl rfl (by decide) (by omega) (by show _ < ((_ : Nat) : Int); simp only [mlen]; omega) (by decide) ?_
        refine hv2 (show BX vb1 (up2 ab1 51 k.toNat (a 54 k.toNat)) from bxb1.set (k := 51) (i := k.toNat) (z := a 54 k.toNat) (show (-2147483648) ≤ (a 54 k.toNat) ∧ (a 54 k.toNat) ≤ 2147483647 by omega)) (fpb1.set (k := 51) (i := k.toNat) (z := a 54 k.toNat) rfl) (fun bq2 fq2 => ?_)
        refine m_iinc (z := k) (j := 0) (lv2 := [(1, .int (iI (k + 1))), (0, .ref h0)]) C dX12_putBack_30 rfl (by decide) rfl ?_
        refine m_goto (tgt := 10) C dX12_putBack_33 (by decide) ?_
        refine m_lv (lv2 := [(1, .int (iI (k + 1))), (0, .ref h0)]) [0, 1] rfl ?_
        exact ih1  (k + 1) _ _ (by omega) bq2 fq2 (by omega)
  refine m_lv (lv2 := [(1, .int (iI 0)), (0, .ref h0)]) [0, 1] rfl ?_
  exact Lp1 4002 0 _ _ (by omega) bq1 fq1 (by omega)
set_option maxHeartbeats 4000000 in
set_option maxRecDepth 100000 in
theorem M_finds {l : Launch} {G : GT} {h0 : Nat} {ad ln : Nat → Nat} {v : Nat → Int} {a : Nat → Nat → Int}  {k : Int} (hB : BX v a) (hk : -2147483648 ≤ k ∧ k ≤ 2147483647) : Mm l G yX12_finds cX12_finds 2 (some .int) 1 [.int (iI k)] h0 ad ln v a 0 0 (fun r v2 a2 => ∃ f : Int, r = some (.int (iI f)) ∧ fr [] [] v a v2 a2 ∧ BX v2 a2 ∧ (True)) := by
  refine Mm.mk (by decide) (Nat.le_of_ble_eq_true rfl) ?_
  intro p e s m args below meth c A C
  have fp0 : fr [] [] v a v a := fr.refl
  refine m_iload_n (j := 1) C dX12_finds_0 rfl ?_
  refine m_iconst C dX12_finds_1 ?_
  refine m_iconst C dX12_finds_2 ?_
  refine m_callS (As := [.int (iI k), .int (iI 0), .int (iI 4)]) (rest := []) C (fun L E => s_isIn (iI k) (iI 0) (iI 4)) dX12_finds_3 kS_X12_174 rfl rfl (Nat.le_of_ble_eq_true rfl) ⟨Nat.le_of_ble_eq_true rfl, Nat.le_of_ble_eq_true rfl⟩ ⟨Nat.le_of_ble_eq_true rfl, Nat.le_of_ble_eq_true rfl⟩ ?_
  rcases inn_c (x := k) (lo := 0) (hi := 4) ⟨by omega, by omega⟩ ⟨by decide, by decide⟩ ⟨by decide, by decide⟩ with ⟨h1a, h1b, h1e⟩ | ⟨h1a, h1e⟩
  · refine m_st (st2 := [.int (iI 1)]) (by rw [h1e]) ?_
    refine m_if_eq (tgt := 18) C ⟨by decide, by decide⟩ dX12_finds_6 (by decide) (fun z => absurd z (by omega)) (fun _ => ?_)
    refine m_aload_n (j := 0) C dX12_finds_9 rfl ?_
    refine m_geta (k := 27) C dX12_finds_10 w6_86 (by decide) rfl ?_
    refine m_iload_n (j := 1) C dX12_finds_13 rfl ?_
    refine m_ald (k := 27) C dX12_finds_14 rfl rfl (by decide) (by omega) (by show _ < ((_ : Nat) : Int); simp only [mlen]; omega) (by decide) ?_
    have ra1 : (-2147483648) ≤ a 27 k.toNat ∧ a 27 k.toNat ≤ 2147483647 := hB.2 27 (k.toNat)
    refine m_goto (tgt := 19) C dX12_finds_15 (by decide) ?_
    exact m_iret C dX12_finds_19 rfl (Nat.le_of_ble_eq_true rfl) (Nat.le_of_ble_eq_true rfl) ⟨(a 27 k.toNat), rfl, fp0, hB, trivial⟩
  · refine m_st (st2 := [.int (iI 0)]) (by rw [h1e]) ?_
    refine m_if_eq (tgt := 18) C ⟨by decide, by decide⟩ dX12_finds_6 (by decide) (fun _ => ?_) (fun z => absurd z (by omega))
    refine m_iconst C dX12_finds_18 ?_
    exact m_iret C dX12_finds_19 rfl (Nat.le_of_ble_eq_true rfl) (Nat.le_of_ble_eq_true rfl) ⟨0, rfl, fp0, hB, trivial⟩
set_option maxHeartbeats 4000000 in
set_option maxRecDepth 100000 in
theorem M_digest {l : Launch} {G : GT} {h0 : Nat} {ad ln : Nat → Nat} {v : Nat → Int} {a : Nat → Nat → Int}  (hB : BX v a)  : Mm l G yX12_digest cX12_digest 4 (some .int) 0 [] h0 ad ln v a 0 0 (fun r v2 a2 => ∃ f : Int, r = some (.int (iI f)) ∧ fr [] [] v a v2 a2 ∧ BX v2 a2 ∧ (True)) := by
  refine Mm.mk (by decide) (Nat.le_of_ble_eq_true rfl) ?_
  intro p e s m args below meth c A C
  have fp0 : fr [] [] v a v a := fr.refl
  refine m_sipush (z := 527) C dX12_digest_0 (by decide) ?_
  refine m_aload_n (j := 0) C dX12_digest_3 rfl ?_
  have rv1 : 0 ≤ v 36 ∧ v 36 ≤ 200 := hB.1 36
  refine m_get (k := 36) C dX12_digest_4 w6_95 (by decide) rfl ?_
  refine m_iadd C dX12_digest_7 ?_
  obtain ⟨zz1, hzz1, ezz1⟩ := iI_of (iI (527 + (v 36)))
  refine m_st (st2 := [.int (iI zz1)]) (by rw [ezz1]) ?_
  refine m_istore_n (lv2 := [(1, .int (iI zz1)), (0, .ref h0)]) C dX12_digest_8 (by decide) rfl ?_
  refine m_iconst C dX12_digest_9 ?_
  refine m_istore_n (lv2 := [(2, .int (iI 0)), (1, .int (iI zz1)), (0, .ref h0)]) C dX12_digest_10 (by decide) rfl ?_
  have Lp1 : ∀ (nn : Nat) (s1 x : Int) (vb1 : Nat → Int) (ab1 : Nat → Nat → Int), 201 - x < (nn : Int) → BX vb1 ab1 → fr [] [] v a vb1 ab1 → (-2147483648 ≤ s1 ∧ s1 ≤ 2147483647) → (0 ≤ x ∧ x ≤ 200) → mw p l e (rmq 0 0 0) s m args below meth c G A 4 (MQ below (Qm G A (fun rq Lq Eq => ∃ (vq : Nat → Int) (aq : Nat → Nat → Int), mI G h0 ad ln vq aq Lq Eq ∧ (fun r v2 a2 => ∃ f : Int, r = some (.int (iI f)) ∧ fr [] [] v a v2 a2 ∧ BX v2 a2 ∧ (True)) rq vq aq)) args s 0 0 A) h0 ad ln vb1 ab1 0 0 11 [(2, .int (iI x)), (1, .int (iI s1)), (0, .ref h0)] [] := by
    intro nn
    induction nn with
    | zero =>
      intro s1 x vb1 ab1 hm bxb1 fpb1 hs hx
      exact absurd hm (by omega)
    | succ nn ih1 =>
      intro s1 x vb1 ab1 hm bxb1 fpb1 hs hx
      refine m_iload_n (j := 0) C dX12_digest_11 rfl ?_
      refine m_aload_n (j := 2) C dX12_digest_12 rfl ?_
      refine hv2 (show 0 ≤ vb1 36 ∧ vb1 36 ≤ 200 from bxb1.1 36) (show vb1 36 = v 36 from fpb1.1 36 rfl) (fun rv2 ve1 => ?_)
      refine m_get (k := 36) C dX12_digest_13 w6_95 (by decide) rfl ?_
      refine m_st (st2 := [.int (iI (v 36)), .int (iI x)]) (congrArg (fun z => Value.int (iI z) :: [.int (iI x)]) (fpb1.1 36 rfl)) ?_
      refine m_icmp_ge (tgt := 73) C (r32_c (lo := 0) (hi := 200) hx.1 hx.2 (by decide) (by decide)) (r32_c (lo := 0) (hi := 200) rv1.1 rv1.2 (by decide) (by decide)) dX12_digest_16 (by decide) (fun c1 => ?_) (fun c1 => ?_)
      · refine m_iload_n (j := 1) C dX12_digest_73 rfl ?_
        refine m_bipush (z := 31) C dX12_digest_74 (by decide) ?_
        refine m_imul C dX12_digest_76 ?_
        refine m_aload_n (j := 2) C dX12_digest_77 rfl ?_
        refine hv2 (show 0 ≤ vb1 52 ∧ vb1 52 ≤ 4000 from bxb1.1 52) (show vb1 52 = v 52 from fpb1.1 52 rfl) (fun rv3 ve2 => ?_)
        refine m_get (k := 52) C dX12_digest_78 w6_111 (by decide) rfl ?_
        refine m_st (st2 := [.int (iI (v 52)), .int (iI (s1 * 31))]) (congrArg (fun z => Value.int (iI z) :: [.int (iI (s1 * 31))]) (fpb1.1 52 rfl)) ?_
        refine m_iadd C dX12_digest_81 ?_
        obtain ⟨zz2, hzz2, ezz2⟩ := iI_of (iI ((s1 * 31) + (v 52)))
        refine m_st (st2 := [.int (iI zz2)]) (by rw [ezz2]) ?_
        refine m_istore_n (lv2 := [(1, .int (iI zz2)), (2, .int (iI x)), (0, .ref h0)]) C dX12_digest_82 (by decide) rfl ?_
        refine m_iconst C dX12_digest_83 ?_
        refine m_istore_n (lv2 := [(2, .int (iI 0)), (1, .int (iI zz2)), (0, .ref h0)]) C dX12_digest_84 (by decide) rfl ?_
        have Lp2 : ∀ (nn : Nat) (s3 z9 : Int) (vb2 : Nat → Int) (ab2 : Nat → Nat → Int), 4001 - z9 < (nn : Int) → BX vb2 ab2 → fr [] [] v a vb2 ab2 → (-2147483648 ≤ s3 ∧ s3 ≤ 2147483647) → (0 ≤ z9 ∧ z9 ≤ 4000) → mw p l e (rmq 0 0 0) s m args below meth c G A 4 (MQ below (Qm G A (fun rq Lq Eq => ∃ (vq : Nat → Int) (aq : Nat → Nat → Int), mI G h0 ad ln vq aq Lq Eq ∧ (fun r v2 a2 => ∃ f : Int, r = some (.int (iI f)) ∧ fr [] [] v a v2 a2 ∧ BX v2 a2 ∧ (True)) rq vq aq)) args s 0 0 A) h0 ad ln vb2 ab2 0 0 85 [(2, .int (iI z9)), (1, .int (iI s3)), (0, .ref h0)] [] := by
          intro nn
          induction nn with
          | zero =>
            intro s3 z9 vb2 ab2 hm bxb2 fpb2 hs3 hz
            exact absurd hm (by omega)
          | succ nn ih2 =>
            intro s3 z9 vb2 ab2 hm bxb2 fpb2 hs3 hz
            refine m_iload_n (j := 0) C dX12_digest_85 rfl ?_
            refine m_aload_n (j := 2) C dX12_digest_86 rfl ?_
            refine hv2 (show 0 ≤ vb2 52 ∧ vb2 52 ≤ 4000 from bxb2.1 52) (show vb2 52 = v 52 from fpb2.1 52 rfl) (fun rv4 ve3 => ?_)
            refine m_get (k := 52) C dX12_digest_87 w6_111 (by decide) rfl ?_
            refine m_st (st2 := [.int (iI (v 52)), .int (iI z9)]) (congrArg (fun z => Value.int (iI z) :: [.int (iI z9)]) (fpb2.1 52 rfl)) ?_
            refine m_icmp_ge (tgt := 111) C (r32_c (lo := 0) (hi := 4000) hz.1 hz.2 (by decide) (by decide)) (r32_c (lo := 0) (hi := 4000) (Int.le_trans rv3.1 (Int.le_of_eq ve2)) (Int.le_trans (Int.le_of_eq ve2.symm) rv3.2) (by decide) (by decide)) dX12_digest_90 (by decide) (fun c2 => ?_) (fun c2 => ?_)
            · refine m_iconst C dX12_digest_111 ?_
              refine m_istore_n (lv2 := [(2, .int (iI 0)), (1, .int (iI s3)), (0, .ref h0)]) C dX12_digest_112 (by decide) rfl ?_
              have Lp3 : ∀ (nn : Nat) (s4 k : Int) (vb3 : Nat → Int) (ab3 : Nat → Nat → Int), 6 - k < (nn : Int) → BX vb3 ab3 → fr [] [] v a vb3 ab3 → (-2147483648 ≤ s4 ∧ s4 ≤ 2147483647) → (0 ≤ k ∧ k ≤ 5) → mw p l e (rmq 0 0 0) s m args below meth c G A 4 (MQ below (Qm G A (fun rq Lq Eq => ∃ (vq : Nat → Int) (aq : Nat → Nat → Int), mI G h0 ad ln vq aq Lq Eq ∧ (fun r v2 a2 => ∃ f : Int, r = some (.int (iI f)) ∧ fr [] [] v a v2 a2 ∧ BX v2 a2 ∧ (True)) rq vq aq)) args s 0 0 A) h0 ad ln vb3 ab3 0 0 113 [(2, .int (iI k)), (1, .int (iI s4)), (0, .ref h0)] [] := by
                intro nn
                induction nn with
                | zero =>
                  intro s4 k vb3 ab3 hm bxb3 fpb3 hs4 hk
                  exact absurd hm (by omega)
                | succ nn ih3 =>
                  intro s4 k vb3 ab3 hm bxb3 fpb3 hs4 hk
                  refine m_iload_n (j := 0) C dX12_digest_113 rfl ?_
                  refine m_iconst C dX12_digest_114 ?_
                  refine m_icmp_ge (tgt := 136) C (r32_c (lo := 0) (hi := 5) hk.1 hk.2 (by decide) (by decide)) ⟨by decide, by decide⟩ dX12_digest_115 (by decide) (fun c3 => ?_) (fun c3 => ?_)
                  · refine m_iload_n (j := 1) C dX12_digest_136 rfl ?_
                    refine m_bipush (z := 31) C dX12_digest_137 (by decide) ?_
                    refine m_imul C dX12_digest_139 ?_
                    refine m_aload_n (j := 2) C dX12_digest_140 rfl ?_
                    refine hv2 (show (-2147483648) ≤ vb3 42 ∧ vb3 42 ≤ 2147483647 from bxb3.1 42) (show vb3 42 = v 42 from fpb3.1 42 rfl) (fun rv5 ve4 => ?_)
                    refine m_get (k := 42) C dX12_digest_141 w6_101 (by decide) rfl ?_
                    refine m_st (st2 := [.int (iI (v 42)), .int (iI (s4 * 31))]) (congrArg (fun z => Value.int (iI z) :: [.int (iI (s4 * 31))]) (fpb3.1 42 rfl)) ?_
                    refine m_iadd C dX12_digest_144 ?_
                    refine m_bipush (z := 31) C dX12_digest_145 (by decide) ?_
                    refine m_imul C dX12_digest_147 ?_
                    refine m_aload_n (j := 2) C dX12_digest_148 rfl ?_
                    refine hv2 (show (-2147483648) ≤ vb3 43 ∧ vb3 43 ≤ 2147483647 from bxb3.1 43) (show vb3 43 = v 43 from fpb3.1 43 rfl) (fun rv6 ve5 => ?_)
                    refine m_get (k := 43) C dX12_digest_149 w6_102 (by decide) rfl ?_
                    refine m_st (st2 := [.int (iI (v 43)), .int (iI (((s4 * 31) + (v 42)) * 31))]) (congrArg (fun z => Value.int (iI z) :: [.int (iI (((s4 * 31) + (v 42)) * 31))]) (fpb3.1 43 rfl)) ?_
                    refine m_iadd C dX12_digest_152 ?_
                    obtain ⟨zz3, hzz3, ezz3⟩ := iI_of (iI ((((s4 * 31) + (v 42)) * 31) + (v 43)))
                    refine m_st (st2 := [.int (iI zz3)]) (by rw [ezz3]) ?_
                    exact m_iret C dX12_digest_153 rfl (Nat.le_of_ble_eq_true rfl) (Nat.le_of_ble_eq_true rfl) ⟨zz3, rfl, fpb3, bxb3, trivial⟩
                  · refine m_iload_n (j := 1) C dX12_digest_118 rfl ?_
                    refine m_bipush (z := 31) C dX12_digest_119 (by decide) ?_
                    refine m_imul C dX12_digest_121 ?_
                    refine m_aload_n (j := 2) C dX12_digest_122 rfl ?_
                    refine m_geta (k := 27) C dX12_digest_123 w6_86 (by decide) rfl ?_
                    refine m_iload_n (j := 0) C dX12_digest_126 rfl ?_
                    refine m_ald (k := 27) C dX12_digest_127 rfl rfl (by decide) (by omega) (by show _ < ((_ : Nat) : Int); simp only [mlen]; omega) (by decide) ?_
                    refine hv2 (show (-2147483648) ≤ ab3 27 k.toNat ∧ ab3 27 k.toNat ≤ 2147483647 from bxb3.2 27 (k.toNat)) (show ab3 27 (k.toNat) = a 27 (k.toNat) from congrFun (fpb3.2 27 rfl) (k.toNat)) (fun ra1 ae1 => ?_)
                    refine m_st (st2 := [.int (iI (a 27 k.toNat)), .int (iI (s4 * 31))]) (congrArg (fun z => Value.int (iI z) :: [.int (iI (s4 * 31))]) (congrFun (fpb3.2 27 rfl) (k.toNat))) ?_
                    refine m_iadd C dX12_digest_128 ?_
                    obtain ⟨zz4, hzz4, ezz4⟩ := iI_of (iI ((s4 * 31) + (a 27 k.toNat)))
                    refine m_st (st2 := [.int (iI zz4)]) (by rw [ezz4]) ?_
                    refine m_istore_n (lv2 := [(1, .int (iI zz4)), (2, .int (iI k)), (0, .ref h0)]) C dX12_digest_129 (by decide) rfl ?_
                    refine m_iinc (z := k) (j := 1) (lv2 := [(2, .int (iI (k + 1))), (1, .int (iI zz4)), (0, .ref h0)]) C dX12_digest_130 rfl (by decide) rfl ?_
                    refine m_goto (tgt := 113) C dX12_digest_133 (by decide) ?_
                    refine m_lv (lv2 := [(2, .int (iI (k + 1))), (1, .int (iI zz4)), (0, .ref h0)]) [0, 1, 2] rfl ?_
                    exact ih3  zz4 (k + 1) _ _ (by omega) bxb3 fpb3 (by omega) (by omega)
              refine m_lv (lv2 := [(2, .int (iI 0)), (1, .int (iI s3)), (0, .ref h0)]) [0, 1, 2] rfl ?_
              exact Lp3 7 s3 0 _ _ (by omega) bxb2 fpb2 (by omega) (by omega)
            · refine m_iload_n (j := 1) C dX12_digest_93 rfl ?_
              refine m_bipush (z := 31) C dX12_digest_94 (by decide) ?_
              refine m_imul C dX12_digest_96 ?_
              refine m_aload_n (j := 2) C dX12_digest_97 rfl ?_
              refine m_geta (k := 51) C dX12_digest_98 w6_110 (by decide) rfl ?_
              refine m_iload_n (j := 0) C dX12_digest_101 rfl ?_
              refine m_ald (k := 51) C dX12_digest_102 rfl rfl (by decide) (by omega) (by show _ < ((_ : Nat) : Int); simp only [mlen]; omega) (by decide) ?_
              refine hv2 (show (-2147483648) ≤ ab2 51 z9.toNat ∧ ab2 51 z9.toNat ≤ 2147483647 from bxb2.2 51 (z9.toNat)) (show ab2 51 (z9.toNat) = a 51 (z9.toNat) from congrFun (fpb2.2 51 rfl) (z9.toNat)) (fun ra2 ae2 => ?_)
              refine m_st (st2 := [.int (iI (a 51 z9.toNat)), .int (iI (s3 * 31))]) (congrArg (fun z => Value.int (iI z) :: [.int (iI (s3 * 31))]) (congrFun (fpb2.2 51 rfl) (z9.toNat))) ?_
              refine m_iadd C dX12_digest_103 ?_
              obtain ⟨zz5, hzz5, ezz5⟩ := iI_of (iI ((s3 * 31) + (a 51 z9.toNat)))
              refine m_st (st2 := [.int (iI zz5)]) (by rw [ezz5]) ?_
              refine m_istore_n (lv2 := [(1, .int (iI zz5)), (2, .int (iI z9)), (0, .ref h0)]) C dX12_digest_104 (by decide) rfl ?_
              refine m_iinc (z := z9) (j := 1) (lv2 := [(2, .int (iI (z9 + 1))), (1, .int (iI zz5)), (0, .ref h0)]) C dX12_digest_105 rfl (by decide) rfl ?_
              refine m_goto (tgt := 85) C dX12_digest_108 (by decide) ?_
              refine m_lv (lv2 := [(2, .int (iI (z9 + 1))), (1, .int (iI zz5)), (0, .ref h0)]) [0, 1, 2] rfl ?_
              exact ih2  zz5 (z9 + 1) _ _ (by omega) bxb2 fpb2 (by omega) (by omega)
        refine m_lv (lv2 := [(2, .int (iI 0)), (1, .int (iI zz2)), (0, .ref h0)]) [0, 1, 2] rfl ?_
        exact Lp2 4002 zz2 0 _ _ (by omega) bxb1 fpb1 (by omega) (by omega)
      · refine m_iload_n (j := 1) C dX12_digest_19 rfl ?_
        refine m_bipush (z := 31) C dX12_digest_20 (by decide) ?_
        refine m_imul C dX12_digest_22 ?_
        refine m_aload_n (j := 2) C dX12_digest_23 rfl ?_
        refine m_geta (k := 34) C dX12_digest_24 w6_93 (by decide) rfl ?_
        refine m_iload_n (j := 0) C dX12_digest_27 rfl ?_
        refine m_ald (k := 34) C dX12_digest_28 rfl rfl (by decide) (by omega) (by show _ < ((_ : Nat) : Int); simp only [mlen]; omega) (by decide) ?_
        refine hv2 (show (-1) ≤ ab1 34 x.toNat ∧ ab1 34 x.toNat ≤ 200 from bxb1.2 34 (x.toNat)) (show ab1 34 (x.toNat) = a 34 (x.toNat) from congrFun (fpb1.2 34 rfl) (x.toNat)) (fun ra3 ae3 => ?_)
        refine m_st (st2 := [.int (iI (a 34 x.toNat)), .int (iI (s1 * 31))]) (congrArg (fun z => Value.int (iI z) :: [.int (iI (s1 * 31))]) (congrFun (fpb1.2 34 rfl) (x.toNat))) ?_
        refine m_iadd C dX12_digest_29 ?_
        obtain ⟨zz6, hzz6, ezz6⟩ := iI_of (iI ((s1 * 31) + (a 34 x.toNat)))
        refine m_st (st2 := [.int (iI zz6)]) (by rw [ezz6]) ?_
        refine m_istore_n (lv2 := [(1, .int (iI zz6)), (2, .int (iI x)), (0, .ref h0)]) C dX12_digest_30 (by decide) rfl ?_
        refine m_iconst C dX12_digest_31 ?_
        refine m_istore_n (lv2 := [(3, .int (iI 0)), (1, .int (iI zz6)), (2, .int (iI x)), (0, .ref h0)]) C dX12_digest_32 (by decide) rfl ?_
        have Lp4 : ∀ (nn : Nat) (s2 y : Int) (vb4 : Nat → Int) (ab4 : Nat → Nat → Int), 201 - y < (nn : Int) → BX vb4 ab4 → fr [] [] v a vb4 ab4 → (-2147483648 ≤ s2 ∧ s2 ≤ 2147483647) → (0 ≤ y ∧ y ≤ 200) → mw p l e (rmq 0 0 0) s m args below meth c G A 4 (MQ below (Qm G A (fun rq Lq Eq => ∃ (vq : Nat → Int) (aq : Nat → Nat → Int), mI G h0 ad ln vq aq Lq Eq ∧ (fun r v2 a2 => ∃ f : Int, r = some (.int (iI f)) ∧ fr [] [] v a v2 a2 ∧ BX v2 a2 ∧ (True)) rq vq aq)) args s 0 0 A) h0 ad ln vb4 ab4 0 0 33 [(3, .int (iI y)), (1, .int (iI s2)), (2, .int (iI x)), (0, .ref h0)] [] := by
          intro nn
          induction nn with
          | zero =>
            intro s2 y vb4 ab4 hm bxb4 fpb4 hs2 hy
            exact absurd hm (by omega)
          | succ nn ih4 =>
            intro s2 y vb4 ab4 hm bxb4 fpb4 hs2 hy
            refine m_iload_n (j := 0) C dX12_digest_33 rfl ?_
            refine m_aload_n (j := 3) C dX12_digest_34 rfl ?_
            refine m_geta (k := 34) C dX12_digest_35 w6_93 (by decide) rfl ?_
            refine m_iload_n (j := 2) C dX12_digest_38 rfl ?_
            refine m_ald (k := 34) C dX12_digest_39 rfl rfl (by decide) (by omega) (by show _ < ((_ : Nat) : Int); simp only [mlen]; omega) (by decide) ?_
            refine hv2 (show (-1) ≤ ab4 34 x.toNat ∧ ab4 34 x.toNat ≤ 200 from bxb4.2 34 (x.toNat)) (show ab4 34 (x.toNat) = a 34 (x.toNat) from congrFun (fpb4.2 34 rfl) (x.toNat)) (fun ra4 ae4 => ?_)
            refine m_st (st2 := [.int (iI (a 34 x.toNat)), .int (iI y)]) (congrArg (fun z => Value.int (iI z) :: [.int (iI y)]) (congrFun (fpb4.2 34 rfl) (x.toNat))) ?_
            refine m_icmp_ge (tgt := 67) C (r32_c (lo := 0) (hi := 200) hy.1 hy.2 (by decide) (by decide)) ⟨by omega, by omega⟩ dX12_digest_40 (by decide) (fun c4 => ?_) (fun c4 => ?_)
            · refine m_iinc (z := x) (j := 2) (lv2 := [(2, .int (iI (x + 1))), (3, .int (iI y)), (1, .int (iI s2)), (0, .ref h0)]) C dX12_digest_67 rfl (by decide) rfl ?_
              refine m_goto (tgt := 11) C dX12_digest_70 (by decide) ?_
              refine m_lv (lv2 := [(2, .int (iI (x + 1))), (1, .int (iI s2)), (0, .ref h0)]) [0, 2, 3] rfl ?_
              exact ih1  s2 (x + 1) _ _ (by omega) bxb4 fpb4 (by omega) (by omega)
            · refine m_iload_n (j := 1) C dX12_digest_43 rfl ?_
              refine m_bipush (z := 31) C dX12_digest_44 (by decide) ?_
              refine m_imul C dX12_digest_46 ?_
              refine m_aload_n (j := 3) C dX12_digest_47 rfl ?_
              refine m_geta (k := 35) C dX12_digest_48 w6_94 (by decide) rfl ?_
              refine m_sipush (z := 200) C dX12_digest_51 (by decide) ?_
              refine m_iload_n (j := 2) C dX12_digest_54 rfl ?_
              refine m_imul C dX12_digest_55 ?_
              refine m_iload_n (j := 0) C dX12_digest_56 rfl ?_
              refine m_iadd C dX12_digest_57 ?_
              refine m_ald (k := 35) C dX12_digest_58 rfl rfl (by decide) (by omega) (by show _ < ((_ : Nat) : Int); simp only [mlen]; omega) (by decide) ?_
              refine hv2 (show (-2147483648) ≤ ab4 35 ((200 * x) + y).toNat ∧ ab4 35 ((200 * x) + y).toNat ≤ 2147483647 from bxb4.2 35 (((200 * x) + y).toNat)) (show ab4 35 (((200 * x) + y).toNat) = a 35 (((200 * x) + y).toNat) from congrFun (fpb4.2 35 rfl) (((200 * x) + y).toNat)) (fun ra5 ae5 => ?_)
              refine m_st (st2 := [.int (iI (a 35 ((200 * x) + y).toNat)), .int (iI (s2 * 31))]) (congrArg (fun z => Value.int (iI z) :: [.int (iI (s2 * 31))]) (congrFun (fpb4.2 35 rfl) (((200 * x) + y).toNat))) ?_
              refine m_iadd C dX12_digest_59 ?_
              obtain ⟨zz7, hzz7, ezz7⟩ := iI_of (iI ((s2 * 31) + (a 35 ((200 * x) + y).toNat)))
              refine m_st (st2 := [.int (iI zz7)]) (by rw [ezz7]) ?_
              refine m_istore_n (lv2 := [(1, .int (iI zz7)), (3, .int (iI y)), (2, .int (iI x)), (0, .ref h0)]) C dX12_digest_60 (by decide) rfl ?_
              refine m_iinc (z := y) (j := 1) (lv2 := [(3, .int (iI (y + 1))), (1, .int (iI zz7)), (2, .int (iI x)), (0, .ref h0)]) C dX12_digest_61 rfl (by decide) rfl ?_
              refine m_goto (tgt := 33) C dX12_digest_64 (by decide) ?_
              refine m_lv (lv2 := [(3, .int (iI (y + 1))), (1, .int (iI zz7)), (2, .int (iI x)), (0, .ref h0)]) [0, 1, 2, 3] rfl ?_
              exact ih4  zz7 (y + 1) _ _ (by omega) bxb4 fpb4 (by omega) (by omega)
        refine m_lv (lv2 := [(3, .int (iI 0)), (1, .int (iI zz6)), (2, .int (iI x)), (0, .ref h0)]) [0, 1, 2, 3] rfl ?_
        exact Lp4 202 zz6 0 _ _ (by omega) bxb1 fpb1 (by omega) (by omega)
  refine m_lv (lv2 := [(2, .int (iI 0)), (1, .int (iI zz1)), (0, .ref h0)]) [0, 1, 2] rfl ?_
  exact Lp1 202 zz1 0 _ _ (by omega) hB fp0 (by omega) (by omega)
set_option maxHeartbeats 4000000 in
set_option maxRecDepth 100000 in
theorem M_saved {l : Launch} {G : GT} {h0 : Nat} {ad ln : Nat → Nat} {v : Nat → Int} {a : Nat → Nat → Int}  {x1 y1 : Int} (hB : BX v a) (hT : TBL v a) (hx1 : -2147483648 ≤ x1 ∧ x1 ≤ 2147483647) (hy1 : -2147483648 ≤ y1 ∧ y1 ≤ 2147483647) : Mm l G yX12_saved cX12_saved 8 (some .int) 66 [.int (iI x1), .int (iI y1)] h0 ad ln v a 0 0 (fun r v2 a2 => ∃ f : Int, r = some (.int (iI f)) ∧ fr [0, 1, 23, 25, 28] [20, 21, 22, 24, 26, 27] v a v2 a2 ∧ BX v2 a2 ∧ (True)) := by
  refine Mm.mk (by decide) (Nat.le_of_ble_eq_true rfl) ?_
  intro p e s m args below meth c A C
  refine hv3 (show 0 ≤ v 4 ∧ v 4 ≤ 30 from hB.1 4) (show 0 ≤ v 30 ∧ v 30 ≤ 500 from hB.1 30) (show fr [0, 1, 23, 25, 28] [20, 21, 22, 24, 26, 27] v a v a from fr.refl) (fun h30 r30 fp0 => ?_)
  refine m_aload_n (j := 0) C dX12_saved_0 rfl ?_
  refine m_iload_n (j := 1) C dX12_saved_1 rfl ?_
  have rv1 : 0 ≤ v 4 ∧ v 4 ≤ 30 := hB.1 4
  refine m_call (mc2 := 0) (ms2 := 0) (As := [.int (iI x1)]) (rest := []) C (M_isWhole (t := x1) hB (hT.fr fp0 rfl rfl) (by show -2147483648 ≤ x1 ∧ x1 ≤ 2147483647; omega)) dX12_saved_2 kV_X12_171 rfl ck_13 rfl (Nat.le_of_ble_eq_true rfl) ⟨Nat.le_of_ble_eq_true rfl, Nat.le_of_ble_eq_true rfl⟩ ⟨Nat.le_of_ble_eq_true rfl, Nat.le_of_ble_eq_true rfl⟩ (fun rh1 vh1 ah1 h1 => ?_)
  obtain ⟨f1, rfl, fn1, bn1, ex1⟩ := h1
  obtain ⟨rfl, rfl⟩ := fn1.eq
  have gf1 : f1 = 0 ∨ (f1 = 1 ∧ 0 ≤ x1 ∧ x1 < (v 4)) := ex1
  refine m_st (st2 := [.int (iI f1)]) rfl ?_
  refine m_if_eq (tgt := 16) C (r32_0p gf1) dX12_saved_5 (by decide) (fun c1 => ?_) (fun c1 => ?_)
  · clear gf1
    refine m_aload_n (j := 0) C dX12_saved_16 rfl ?_
    refine m_iconst C dX12_saved_17 ?_
    refine m_call (mc2 := 0) (ms2 := 0) (As := [.int (iI 3)]) (rest := []) C (B_bad (x := 3) hB (by show -2147483648 ≤ (3 : Int) ∧ (3 : Int) ≤ 2147483647; omega)) dX12_saved_18 kV_X12_154 rfl ck_13 rfl (Nat.le_of_ble_eq_true rfl) ⟨Nat.le_of_ble_eq_true rfl, Nat.le_of_ble_eq_true rfl⟩ ⟨Nat.le_of_ble_eq_true rfl, Nat.le_of_ble_eq_true rfl⟩ (fun rh2 vh2 ah2 h2 => ?_)
    obtain ⟨f2, rfl, fn2, bn2, ex2⟩ := h2
    refine hv2 (fp0.call fn2 rfl rfl) (show f2 = -1 from ex2) (fun fq2 gf2 => ?_)
    refine m_st (st2 := [.int (iI f2)]) rfl ?_
    exact m_iret C dX12_saved_21 rfl (Nat.le_of_ble_eq_true rfl) (Nat.le_of_ble_eq_true rfl) ⟨f2, rfl, fq2, bn2, trivial⟩
  · replace gf1 := (gf1.resolve_left c1)
    refine m_aload_n (j := 0) C dX12_saved_8 rfl ?_
    refine m_iload_n (j := 2) C dX12_saved_9 rfl ?_
    refine m_call (mc2 := 0) (ms2 := 0) (As := [.int (iI y1)]) (rest := []) C (M_isWhole (t := y1) hB (hT.fr fp0 rfl rfl) (by show -2147483648 ≤ y1 ∧ y1 ≤ 2147483647; omega)) dX12_saved_10 kV_X12_171 rfl ck_13 rfl (Nat.le_of_ble_eq_true rfl) ⟨Nat.le_of_ble_eq_true rfl, Nat.le_of_ble_eq_true rfl⟩ ⟨Nat.le_of_ble_eq_true rfl, Nat.le_of_ble_eq_true rfl⟩ (fun rh3 vh3 ah3 h3 => ?_)
    obtain ⟨f3, rfl, fn3, bn3, ex3⟩ := h3
    obtain ⟨rfl, rfl⟩ := fn3.eq
    have gf3 : f3 = 0 ∨ (f3 = 1 ∧ 0 ≤ y1 ∧ y1 < (v 4)) := ex3
    refine m_st (st2 := [.int (iI f3)]) rfl ?_
    refine m_if_ne (tgt := 22) C (r32_0p gf3) dX12_saved_13 (by decide) (fun c2 => ?_) (fun c2 => ?_)
    · replace gf3 := (gf3.resolve_left c2)
      refine m_iconst C dX12_saved_22 ?_
      refine m_istore_n (lv2 := [(3, .int (iI 0)), (0, .ref h0), (1, .int (iI x1)), (2, .int (iI y1))]) C dX12_saved_23 (by decide) rfl ?_
      refine m_iconst C dX12_saved_24 ?_
      refine m_istore (lv2 := [(4, .int (iI 0)), (3, .int (iI 0)), (0, .ref h0), (1, .int (iI x1)), (2, .int (iI y1))]) C dX12_saved_25 (by decide) rfl ?_
      have Lp1 : ∀ (nn : Nat) (s1 k : Int) (vb1 : Nat → Int) (ab1 : Nat → Nat → Int), 3 - k < (nn : Int) → BX vb1 ab1 → fr [0, 1, 23, 25, 28] [20, 21, 22, 24, 26, 27] v a vb1 ab1 → (-2147483648 ≤ s1 ∧ s1 ≤ 2147483647) → (0 ≤ k ∧ k ≤ 2) → mw p l e (rmq 66 0 0) s m args below meth c G A 8 (MQ below (Qm G A (fun rq Lq Eq => ∃ (vq : Nat → Int) (aq : Nat → Nat → Int), mI G h0 ad ln vq aq Lq Eq ∧ (fun r v2 a2 => ∃ f : Int, r = some (.int (iI f)) ∧ fr [0, 1, 23, 25, 28] [20, 21, 22, 24, 26, 27] v a v2 a2 ∧ BX v2 a2 ∧ (True)) rq vq aq)) args s 0 0 A) h0 ad ln vb1 ab1 0 0 27 [(4, .int (iI k)), (3, .int (iI s1)), (0, .ref h0), (1, .int (iI x1)), (2, .int (iI y1))] [] := by
        intro nn
        induction nn with
        | zero =>
          intro s1 k vb1 ab1 hm bxb1 fpb1 hs hk
          exact absurd hm (by omega)
        | succ nn ih1 =>
          intro s1 k vb1 ab1 hm bxb1 fpb1 hs hk
          refine m_iload (j := 0) C dX12_saved_27 rfl ?_
          refine m_iconst C dX12_saved_29 ?_
          refine m_icmp_ge (tgt := 161) C (r32_c (lo := 0) (hi := 2) hk.1 hk.2 (by decide) (by decide)) ⟨by decide, by decide⟩ dX12_saved_30 (by decide) (fun c3 => ?_) (fun c3 => ?_)
          · refine m_aload_n (j := 2) C dX12_saved_161 rfl ?_
            refine m_iload_n (j := 1) C dX12_saved_162 rfl ?_
            refine m_call (mc2 := 0) (ms2 := 0) (As := [.int (iI s1)]) (rest := []) C (B_fine (x := s1) bxb1 (by show -2147483648 ≤ s1 ∧ s1 ≤ 2147483647; omega)) dX12_saved_163 kV_X12_158 rfl ck_13 rfl (Nat.le_of_ble_eq_true rfl) ⟨Nat.le_of_ble_eq_true rfl, Nat.le_of_ble_eq_true rfl⟩ ⟨Nat.le_of_ble_eq_true rfl, Nat.le_of_ble_eq_true rfl⟩ (fun rh4 vh4 ah4 h4 => ?_)
            obtain ⟨f4, rfl, fn4, bn4, ex4⟩ := h4
            refine hv2 (fpb1.call fn4 rfl rfl) (show f4 = s1 from ex4) (fun fq4 gf4 => ?_)
            refine m_st (st2 := [.int (iI f4)]) rfl ?_
            exact m_iret C dX12_saved_166 rfl (Nat.le_of_ble_eq_true rfl) (Nat.le_of_ble_eq_true rfl) ⟨f4, rfl, fq4, bn4, trivial⟩
          · refine m_iconst C dX12_saved_33 ?_
            refine m_istore (lv2 := [(5, .int (iI 0)), (4, .int (iI k)), (3, .int (iI s1)), (0, .ref h0), (1, .int (iI x1)), (2, .int (iI y1))]) C dX12_saved_34 (by decide) rfl ?_
            have Lp2 : ∀ (nn : Nat) (s2 x : Int) (vb2 : Nat → Int) (ab2 : Nat → Nat → Int), 502 - x < (nn : Int) → BX vb2 ab2 → fr [0, 1, 23, 25, 28] [20, 21, 22, 24, 26, 27] v a vb2 ab2 → (-2147483648 ≤ s2 ∧ s2 ≤ 2147483647) → (0 ≤ x ∧ x ≤ 501) → mw p l e (rmq 66 0 0) s m args below meth c G A 8 (MQ below (Qm G A (fun rq Lq Eq => ∃ (vq : Nat → Int) (aq : Nat → Nat → Int), mI G h0 ad ln vq aq Lq Eq ∧ (fun r v2 a2 => ∃ f : Int, r = some (.int (iI f)) ∧ fr [0, 1, 23, 25, 28] [20, 21, 22, 24, 26, 27] v a v2 a2 ∧ BX v2 a2 ∧ (True)) rq vq aq)) args s 0 0 A) h0 ad ln vb2 ab2 0 0 36 [(5, .int (iI x)), (3, .int (iI s2)), (4, .int (iI k)), (0, .ref h0), (1, .int (iI x1)), (2, .int (iI y1))] [] := by
              intro nn
              induction nn with
              | zero =>
                intro s2 x vb2 ab2 hm bxb2 fpb2 hs2 hx
                exact absurd hm (by omega)
              | succ nn ih2 =>
                intro s2 x vb2 ab2 hm bxb2 fpb2 hs2 hx
                refine m_iload (j := 0) C dX12_saved_36 rfl ?_
                refine m_aload_n (j := 3) C dX12_saved_38 rfl ?_
                refine hv2 (show 0 ≤ vb2 30 ∧ vb2 30 ≤ 500 from bxb2.1 30) (show vb2 30 = v 30 from fpb2.1 30 rfl) (fun rv2 ve1 => ?_)
                refine m_get (k := 30) C dX12_saved_39 w6_89 (by decide) rfl ?_
                refine m_st (st2 := [.int (iI (v 30)), .int (iI x)]) (congrArg (fun z => Value.int (iI z) :: [.int (iI x)]) (fpb2.1 30 rfl)) ?_
                refine m_icmp_ge (tgt := 155) C (r32_c (lo := 0) (hi := 501) hx.1 hx.2 (by decide) (by decide)) (r32_c (lo := 0) (hi := 500) (Int.le_trans rv2.1 (Int.le_of_eq ve1)) (Int.le_trans (Int.le_of_eq ve1.symm) rv2.2) (by decide) (by decide)) dX12_saved_42 (by decide) (fun c4 => ?_) (fun c4 => ?_)
                · refine m_iinc (z := k) (j := 2) (lv2 := [(4, .int (iI (k + 1))), (5, .int (iI x)), (3, .int (iI s2)), (0, .ref h0), (1, .int (iI x1)), (2, .int (iI y1))]) C dX12_saved_155 rfl (by decide) rfl ?_
                  refine m_goto (tgt := 27) C dX12_saved_158 (by decide) ?_
                  refine m_lv (lv2 := [(4, .int (iI (k + 1))), (3, .int (iI s2)), (0, .ref h0), (1, .int (iI x1)), (2, .int (iI y1))]) [0, 2, 3, 4, 5] rfl ?_
                  exact ih1  s2 (k + 1) _ _ (by omega) bxb2 fpb2 (by omega) (by omega)
                · refine m_aload_n (j := 3) C dX12_saved_45 rfl ?_
                  refine m_iload (j := 0) C dX12_saved_46 rfl ?_
                  refine m_call (mc2 := 0) (ms2 := 0) (As := [.int (iI x)]) (rest := []) C (M_lineEnd (q := x) bxb2.rg (bxb2.1 30) (by omega)) dX12_saved_48 kV_X12_261 rfl ck_13 rfl (Nat.le_of_ble_eq_true rfl) ⟨Nat.le_of_ble_eq_true rfl, Nat.le_of_ble_eq_true rfl⟩ ⟨Nat.le_of_ble_eq_true rfl, Nat.le_of_ble_eq_true rfl⟩ (fun rh5 vh5 ah5 h5 => ?_)
                  obtain ⟨f5, rfl, hf5, rfl, rfl⟩ := h5
                  have gf5 : x ≤ f5 ∧ (f5 = x ∨ f5 ≤ (vb2 30)) := hf5
                  refine m_st (st2 := [.int (iI f5)]) rfl ?_
                  refine m_istore (lv2 := [(6, .int (iI f5)), (5, .int (iI x)), (3, .int (iI s2)), (4, .int (iI k)), (0, .ref h0), (1, .int (iI x1)), (2, .int (iI y1))]) C dX12_saved_51 (by decide) rfl ?_
                  refine m_aload_n (j := 4) C dX12_saved_53 rfl ?_
                  refine m_aload_n (j := 4) C dX12_saved_54 rfl ?_
                  refine m_geta (k := 29) C dX12_saved_55 w6_88 (by decide) rfl ?_
                  refine m_iload (j := 1) C dX12_saved_58 rfl ?_
                  refine m_ald (k := 29) C dX12_saved_60 rfl rfl (by decide) (by omega) (by show _ < ((_ : Nat) : Int); simp only [mlen]; omega) (by decide) ?_
                  refine hv2 (show (-2147483648) ≤ ab2 29 x.toNat ∧ ab2 29 x.toNat ≤ 2147483647 from bxb2.2 29 (x.toNat)) (show ab2 29 (x.toNat) = a 29 (x.toNat) from congrFun (fpb2.2 29 rfl) (x.toNat)) (fun ra1 ae1 => ?_)
                  refine m_st (st2 := [.int (iI (a 29 x.toNat)), .ref h0]) (congrArg (fun z => Value.int (iI z) :: [.ref h0]) (congrFun (fpb2.2 29 rfl) (x.toNat))) ?_
                  refine m_bipush (z := 94) C dX12_saved_61 (by decide) ?_
                  have J1 : ∀ (y : Int) (vb3 : Nat → Int) (ab3 : Nat → Nat → Int), BX vb3 ab3 → fr [0, 1, 23, 25, 28] [20, 21, 22, 24, 26, 27] v a vb3 ab3 → (y = x ∨ y = x + 1) → mw p l e (rmq 66 0 0) s m args below meth c G A 8 (MQ below (Qm G A (fun rq Lq Eq => ∃ (vq : Nat → Int) (aq : Nat → Nat → Int), mI G h0 ad ln vq aq Lq Eq ∧ (fun r v2 a2 => ∃ f : Int, r = some (.int (iI f)) ∧ fr [0, 1, 23, 25, 28] [20, 21, 22, 24, 26, 27] v a v2 a2 ∧ BX v2 a2 ∧ (True)) rq vq aq)) args s 0 0 A) h0 ad ln vb3 ab3 0 0 75 [(6, .int (iI f5)), (5, .int (iI x)), (3, .int (iI s2)), (4, .int (iI k)), (0, .ref h0), (1, .int (iI x1)), (2, .int (iI y1))] [.int (iI y), .ref h0] := by
                    intro y vb3 ab3 bxb3 fpb3 hy
                    refine m_iload (j := 0) C dX12_saved_75 rfl ?_
                    refine m_call (mc2 := 0) (ms2 := 0) (As := [.int (iI y), .int (iI f5)]) (rest := []) C (M_takeWord (q := y) (u := f5) bxb3 (by show 0 ≤ y ∧ y ≤ 501; omega) (by show 0 ≤ f5 ∧ f5 ≤ 500; omega)) dX12_saved_77 kV_X12_264 rfl ck_13 rfl (Nat.le_of_ble_eq_true rfl) ⟨Nat.le_of_ble_eq_true rfl, Nat.le_of_ble_eq_true rfl⟩ ⟨Nat.le_of_ble_eq_true rfl, Nat.le_of_ble_eq_true rfl⟩ (fun rh6 vh6 ah6 h6 => ?_)
                    obtain ⟨f6, rfl, fn5, bn5, ex5⟩ := h6
                    refine hv3 (fpb3.call fn5 rfl rfl) (show 0 ≤ vh6 23 ∧ vh6 23 ≤ 500 from bn5.1 23) (show (f6 = y ∨ (y ≤ f6 ∧ f6 ≤ f5)) ∧ (vh6 23) ≤ f6 - y from ex5) (fun fq5 rv3 gf6 => ?_)
                    refine m_st (st2 := [.int (iI f6)]) rfl ?_
                    refine m_istore (lv2 := [(7, .int (iI f6)), (6, .int (iI f5)), (5, .int (iI x)), (3, .int (iI s2)), (4, .int (iI k)), (0, .ref h0), (1, .int (iI x1)), (2, .int (iI y1))]) C dX12_saved_80 (by decide) rfl ?_
                    have Lp3 : ∀ (nn : Nat) (s3 w1 : Int) (vb4 : Nat → Int) (ab4 : Nat → Nat → Int), 1005 - 2 * w1 + min 1 (vb4 23) < (nn : Int) → BX vb4 ab4 → fr [0, 1, 23, 25, 28] [20, 21, 22, 24, 26, 27] v a vb4 ab4 → (-2147483648 ≤ s3 ∧ s3 ≤ 2147483647) → (0 ≤ w1 ∧ w1 ≤ 501) → (0 ≤ vb4 23 ∧ vb4 23 ≤ 500) → mw p l e (rmq 66 0 0) s m args below meth c G A 8 (MQ below (Qm G A (fun rq Lq Eq => ∃ (vq : Nat → Int) (aq : Nat → Nat → Int), mI G h0 ad ln vq aq Lq Eq ∧ (fun r v2 a2 => ∃ f : Int, r = some (.int (iI f)) ∧ fr [0, 1, 23, 25, 28] [20, 21, 22, 24, 26, 27] v a v2 a2 ∧ BX v2 a2 ∧ (True)) rq vq aq)) args s 0 0 A) h0 ad ln vb4 ab4 0 0 82 [(7, .int (iI w1)), (3, .int (iI s3)), (6, .int (iI f5)), (5, .int (iI x)), (4, .int (iI k)), (0, .ref h0), (1, .int (iI x1)), (2, .int (iI y1))] [] := by
                      intro nn
                      induction nn with
                      | zero =>
                        intro s3 w1 vb4 ab4 hm bxb4 fpb4 hs3 hw h23
                        exact absurd hm (by omega)
                      | succ nn ih3 =>
                        intro s3 w1 vb4 ab4 hm bxb4 fpb4 hs3 hw h23
                        refine m_aload_n (j := 5) C dX12_saved_82 rfl ?_
                        have rv4 : 0 ≤ vb4 23 ∧ vb4 23 ≤ 500 := bxb4.1 23
                        refine m_get (k := 23) C dX12_saved_83 w6_82 (by decide) rfl ?_
                        refine m_if_le (tgt := 146) C (r32_c (lo := 0) (hi := 500) rv4.1 rv4.2 (by decide) (by decide)) dX12_saved_86 (by decide) (fun c5 => ?_) (fun c5 => ?_)
                        · refine m_iload (j := 2) C dX12_saved_146 rfl ?_
                          refine m_iconst C dX12_saved_148 ?_
                          refine m_iadd C dX12_saved_149 ?_
                          refine m_istore (lv2 := [(5, .int (iI (f5 + 1))), (7, .int (iI w1)), (3, .int (iI s3)), (6, .int (iI f5)), (4, .int (iI k)), (0, .ref h0), (1, .int (iI x1)), (2, .int (iI y1))]) C dX12_saved_150 (by decide) rfl ?_
                          refine m_goto (tgt := 36) C dX12_saved_152 (by decide) ?_
                          refine m_lv (lv2 := [(5, .int (iI (f5 + 1))), (3, .int (iI s3)), (4, .int (iI k)), (0, .ref h0), (1, .int (iI x1)), (2, .int (iI y1))]) [0, 2, 4, 5, 6, 7] rfl ?_
                          exact ih2  s3 (f5 + 1) _ _ (by omega) bxb4 fpb4 (by omega) (by omega)
                        · refine m_aload_n (j := 5) C dX12_saved_89 rfl ?_
                          refine m_iload (j := 4) C dX12_saved_90 rfl ?_
                          have J2 : ∀ (z1 : Int) (vb5 : Nat → Int) (ab5 : Nat → Nat → Int), BX vb5 ab5 → fr [0, 1, 23, 25, 28] [20, 21, 22, 24, 26, 27] v a vb5 ab5 → (0 ≤ z1 ∧ z1 < v 4) → mw p l e (rmq 66 0 0) s m args below meth c G A 8 (MQ below (Qm G A (fun rq Lq Eq => ∃ (vq : Nat → Int) (aq : Nat → Nat → Int), mI G h0 ad ln vq aq Lq Eq ∧ (fun r v2 a2 => ∃ f : Int, r = some (.int (iI f)) ∧ fr [0, 1, 23, 25, 28] [20, 21, 22, 24, 26, 27] v a v2 a2 ∧ BX v2 a2 ∧ (True)) rq vq aq)) args s 0 0 A) h0 ad ln vb5 ab5 0 0 100 [(7, .int (iI w1)), (3, .int (iI s3)), (6, .int (iI f5)), (5, .int (iI x)), (4, .int (iI k)), (0, .ref h0), (1, .int (iI x1)), (2, .int (iI y1))] [.int (iI z1), .ref h0] := by
                            intro z1 vb5 ab5 bxb5 fpb5 hz1
                            refine hv2 (show 0 ≤ vb5 4 ∧ vb5 4 ≤ 30 from bxb5.1 4) (show vb5 4 = v 4 from fpb5.1 4 rfl) (fun rv5 ve2 => ?_)
                            refine m_call (mc2 := 0) (ms2 := 0) (As := [.int (iI z1)]) (rest := []) C (M_setWord (t := z1) bxb5 (hT.fr fpb5 rfl rfl) (by show 0 ≤ z1 ∧ z1 < (vb5 4); omega)) dX12_saved_100 kV_X12_267 rfl ck_13 rfl (Nat.le_of_ble_eq_true rfl) ⟨Nat.le_of_ble_eq_true rfl, Nat.le_of_ble_eq_true rfl⟩ ⟨Nat.le_of_ble_eq_true rfl, Nat.le_of_ble_eq_true rfl⟩ (fun rh7 vh7 ah7 h7 => ?_)
                            obtain ⟨f7, rfl, fn6, bn6, ex6⟩ := h7
                            refine hv3 (fpb5.call fn6 rfl rfl) (show 0 ≤ vh7 25 ∧ vh7 25 ≤ 208 from bn6.1 25) (show f7 = 0 ∨ (f7 = 1 ∧ (vh7 25) ≤ 200) from ex6) (fun fq6 rv6 gf7 => ?_)
                            refine m_st (st2 := [.int (iI f7)]) rfl ?_
                            refine m_if_ne (tgt := 113) C (r32_0p gf7) dX12_saved_103 (by decide) (fun c6 => ?_) (fun c6 => ?_)
                            · replace gf7 := (gf7.resolve_left c6)
                              refine m_iload_n (j := 1) C dX12_saved_113 rfl ?_
                              refine m_iload (j := 4) C dX12_saved_114 rfl ?_
                              refine m_if_ne (tgt := 126) C (r32_c (lo := 0) (hi := 2) hk.1 hk.2 (by decide) (by decide)) dX12_saved_116 (by decide) (fun c7 => ?_) (fun c7 => ?_)
                              · refine m_aload_n (j := 5) C dX12_saved_126 rfl ?_
                                refine m_get (k := 25) C dX12_saved_127 w6_84 (by decide) rfl ?_
                                refine m_ineg C dX12_saved_130 ?_
                                refine m_iadd C dX12_saved_131 ?_
                                obtain ⟨zz1, hzz1, ezz1⟩ := iI_of (iI (s3 + (-(vh7 25))))
                                refine m_st (st2 := [.int (iI zz1)]) (by rw [ezz1]) ?_
                                refine m_istore_n (lv2 := [(3, .int (iI zz1)), (7, .int (iI w1)), (6, .int (iI f5)), (5, .int (iI x)), (4, .int (iI k)), (0, .ref h0), (1, .int (iI x1)), (2, .int (iI y1))]) C dX12_saved_132 (by decide) rfl ?_
                                refine m_aload_n (j := 5) C dX12_saved_133 rfl ?_
                                refine m_iload (j := 1) C dX12_saved_134 rfl ?_
                                refine m_iload (j := 2) C dX12_saved_136 rfl ?_
                                refine m_call (mc2 := 0) (ms2 := 0) (As := [.int (iI w1), .int (iI f5)]) (rest := []) C (M_takeWord (q := w1) (u := f5) bn6 (by show 0 ≤ w1 ∧ w1 ≤ 501; omega) (by show 0 ≤ f5 ∧ f5 ≤ 500; omega)) dX12_saved_138 kV_X12_264 rfl ck_13 rfl (Nat.le_of_ble_eq_true rfl) ⟨Nat.le_of_ble_eq_true rfl, Nat.le_of_ble_eq_true rfl⟩ ⟨Nat.le_of_ble_eq_true rfl, Nat.le_of_ble_eq_true rfl⟩ (fun rh8 vh8 ah8 h8 => ?_)
                                obtain ⟨f8, rfl, fn7, bn7, ex7⟩ := h8
                                refine hv3 (fq6.call fn7 rfl rfl) (show 0 ≤ vh8 23 ∧ vh8 23 ≤ 500 from bn7.1 23) (show (f8 = w1 ∨ (w1 ≤ f8 ∧ f8 ≤ f5)) ∧ (vh8 23) ≤ f8 - w1 from ex7) (fun fq7 rv7 gf8 => ?_)
                                refine m_st (st2 := [.int (iI f8)]) rfl ?_
                                refine m_istore (lv2 := [(7, .int (iI f8)), (3, .int (iI zz1)), (6, .int (iI f5)), (5, .int (iI x)), (4, .int (iI k)), (0, .ref h0), (1, .int (iI x1)), (2, .int (iI y1))]) C dX12_saved_141 (by decide) rfl ?_
                                refine m_goto (tgt := 82) C dX12_saved_143 (by decide) ?_
                                refine m_lv (lv2 := [(7, .int (iI f8)), (3, .int (iI zz1)), (6, .int (iI f5)), (5, .int (iI x)), (4, .int (iI k)), (0, .ref h0), (1, .int (iI x1)), (2, .int (iI y1))]) [0, 1, 2, 3, 4, 5, 6, 7] rfl ?_
                                exact ih3  zz1 f8 _ _ (by omega) bn7 fq7 (by omega) (by omega) (by show 0 ≤ (vh8 23) ∧ (vh8 23) ≤ 500; omega)
                              · refine m_aload_n (j := 5) C dX12_saved_119 rfl ?_
                                refine m_get (k := 25) C dX12_saved_120 w6_84 (by decide) rfl ?_
                                refine m_goto (tgt := 131) C dX12_saved_123 (by decide) ?_
                                refine m_iadd C dX12_saved_131 ?_
                                obtain ⟨zz2, hzz2, ezz2⟩ := iI_of (iI (s3 + (vh7 25)))
                                refine m_st (st2 := [.int (iI zz2)]) (by rw [ezz2]) ?_
                                refine m_istore_n (lv2 := [(3, .int (iI zz2)), (7, .int (iI w1)), (6, .int (iI f5)), (5, .int (iI x)), (4, .int (iI k)), (0, .ref h0), (1, .int (iI x1)), (2, .int (iI y1))]) C dX12_saved_132 (by decide) rfl ?_
                                refine m_aload_n (j := 5) C dX12_saved_133 rfl ?_
                                refine m_iload (j := 1) C dX12_saved_134 rfl ?_
                                refine m_iload (j := 2) C dX12_saved_136 rfl ?_
                                refine m_call (mc2 := 0) (ms2 := 0) (As := [.int (iI w1), .int (iI f5)]) (rest := []) C (M_takeWord (q := w1) (u := f5) bn6 (by show 0 ≤ w1 ∧ w1 ≤ 501; omega) (by show 0 ≤ f5 ∧ f5 ≤ 500; omega)) dX12_saved_138 kV_X12_264 rfl ck_13 rfl (Nat.le_of_ble_eq_true rfl) ⟨Nat.le_of_ble_eq_true rfl, Nat.le_of_ble_eq_true rfl⟩ ⟨Nat.le_of_ble_eq_true rfl, Nat.le_of_ble_eq_true rfl⟩ (fun rh9 vh9 ah9 h9 => ?_)
                                obtain ⟨f9, rfl, fn8, bn8, ex8⟩ := h9
                                refine hv3 (fq6.call fn8 rfl rfl) (show 0 ≤ vh9 23 ∧ vh9 23 ≤ 500 from bn8.1 23) (show (f9 = w1 ∨ (w1 ≤ f9 ∧ f9 ≤ f5)) ∧ (vh9 23) ≤ f9 - w1 from ex8) (fun fq8 rv8 gf9 => ?_)
                                refine m_st (st2 := [.int (iI f9)]) rfl ?_
                                refine m_istore (lv2 := [(7, .int (iI f9)), (3, .int (iI zz2)), (6, .int (iI f5)), (5, .int (iI x)), (4, .int (iI k)), (0, .ref h0), (1, .int (iI x1)), (2, .int (iI y1))]) C dX12_saved_141 (by decide) rfl ?_
                                refine m_goto (tgt := 82) C dX12_saved_143 (by decide) ?_
                                refine m_lv (lv2 := [(7, .int (iI f9)), (3, .int (iI zz2)), (6, .int (iI f5)), (5, .int (iI x)), (4, .int (iI k)), (0, .ref h0), (1, .int (iI x1)), (2, .int (iI y1))]) [0, 1, 2, 3, 4, 5, 6, 7] rfl ?_
                                exact ih3  zz2 f9 _ _ (by omega) bn8 fq8 (by omega) (by omega) (by show 0 ≤ (vh9 23) ∧ (vh9 23) ≤ 500; omega)
                            · clear gf7
                              refine m_aload_n (j := 5) C dX12_saved_106 rfl ?_
                              refine m_call (mc2 := 0) (ms2 := 0) (As := []) (rest := []) C (B_notSet  bn6 ) dX12_saved_107 kV_X12_270 rfl ck_13 rfl (Nat.le_of_ble_eq_true rfl) ⟨Nat.le_of_ble_eq_true rfl, Nat.le_of_ble_eq_true rfl⟩ ⟨Nat.le_of_ble_eq_true rfl, Nat.le_of_ble_eq_true rfl⟩ (fun rh10 vh10 ah10 h10 => ?_)
                              obtain ⟨f10, rfl, fn9, bn9, ex9⟩ := h10
                              refine hv2 (fq6.call fn9 rfl rfl) (show f10 = -1 from ex9) (fun fq9 gf10 => ?_)
                              refine m_st (st2 := [.int (iI f10)]) rfl ?_
                              refine m_iconst C dX12_saved_110 ?_
                              refine m_iadd C dX12_saved_111 ?_
                              exact m_iret C dX12_saved_112 rfl (Nat.le_of_ble_eq_true rfl) (Nat.le_of_ble_eq_true rfl) ⟨(f10 + 1), rfl, fq9, bn9, trivial⟩
                          refine m_if_ne (tgt := 99) C (r32_c (lo := 0) (hi := 2) hk.1 hk.2 (by decide) (by decide)) dX12_saved_92 (by decide) (fun c8 => ?_) (fun c8 => ?_)
                          · refine m_iload_n (j := 7) C dX12_saved_99 rfl ?_
                            refine m_lv (lv2 := [(7, .int (iI w1)), (3, .int (iI s3)), (6, .int (iI f5)), (5, .int (iI x)), (4, .int (iI k)), (0, .ref h0), (1, .int (iI x1)), (2, .int (iI y1))]) [0, 1, 2, 3, 4, 5, 6, 7] rfl ?_
                            exact J2  y1 _ _  bxb4 fpb4 (by omega)
                          · refine m_iload_n (j := 6) C dX12_saved_95 rfl ?_
                            refine m_goto (tgt := 100) C dX12_saved_96 (by decide) ?_
                            refine m_lv (lv2 := [(7, .int (iI w1)), (3, .int (iI s3)), (6, .int (iI f5)), (5, .int (iI x)), (4, .int (iI k)), (0, .ref h0), (1, .int (iI x1)), (2, .int (iI y1))]) [0, 1, 2, 3, 4, 5, 6, 7] rfl ?_
                            exact J2  x1 _ _  bxb4 fpb4 (by omega)
                    refine m_lv (lv2 := [(7, .int (iI f6)), (3, .int (iI s2)), (6, .int (iI f5)), (5, .int (iI x)), (4, .int (iI k)), (0, .ref h0), (1, .int (iI x1)), (2, .int (iI y1))]) [0, 3, 1, 2, 4, 5, 6, 7] rfl ?_
                    exact Lp3 1010 s2 f6 _ _ (by omega) bn5 fq5 (by omega) (by omega) (by show 0 ≤ (vh6 23) ∧ (vh6 23) ≤ 500; omega)
                  refine m_icmp_ne (tgt := 73) C ⟨by omega, by omega⟩ ⟨by decide, by decide⟩ dX12_saved_63 (by decide) (fun c9 => ?_) (fun c9 => ?_)
                  · refine m_iload (j := 1) C dX12_saved_73 rfl ?_
                    refine m_lv (lv2 := [(6, .int (iI f5)), (5, .int (iI x)), (3, .int (iI s2)), (4, .int (iI k)), (0, .ref h0), (1, .int (iI x1)), (2, .int (iI y1))]) [0, 1, 2, 3, 4, 5, 6] rfl ?_
                    exact J1  x _ _  bxb2 fpb2 (by omega)
                  · refine m_iload (j := 1) C dX12_saved_66 rfl ?_
                    refine m_iconst C dX12_saved_68 ?_
                    refine m_iadd C dX12_saved_69 ?_
                    refine m_goto (tgt := 75) C dX12_saved_70 (by decide) ?_
                    refine m_lv (lv2 := [(6, .int (iI f5)), (5, .int (iI x)), (3, .int (iI s2)), (4, .int (iI k)), (0, .ref h0), (1, .int (iI x1)), (2, .int (iI y1))]) [0, 1, 2, 3, 4, 5, 6] rfl ?_
                    exact J1  (x + 1) _ _  bxb2 fpb2 (by omega)
            refine m_lv (lv2 := [(5, .int (iI 0)), (3, .int (iI s1)), (4, .int (iI k)), (0, .ref h0), (1, .int (iI x1)), (2, .int (iI y1))]) [0, 2, 1, 3, 4, 5] rfl ?_
            exact Lp2 503 s1 0 _ _ (by omega) bxb1 fpb1 (by omega) (by omega)
      refine m_lv (lv2 := [(4, .int (iI 0)), (3, .int (iI 0)), (0, .ref h0), (1, .int (iI x1)), (2, .int (iI y1))]) [0, 1, 2, 3, 4] rfl ?_
      exact Lp1 4 0 0 _ _ (by omega) hB fp0 (by omega) (by omega)
    · clear gf3
      refine m_aload_n (j := 0) C dX12_saved_16 rfl ?_
      refine m_iconst C dX12_saved_17 ?_
      refine m_call (mc2 := 0) (ms2 := 0) (As := [.int (iI 3)]) (rest := []) C (B_bad (x := 3) hB (by show -2147483648 ≤ (3 : Int) ∧ (3 : Int) ≤ 2147483647; omega)) dX12_saved_18 kV_X12_154 rfl ck_13 rfl (Nat.le_of_ble_eq_true rfl) ⟨Nat.le_of_ble_eq_true rfl, Nat.le_of_ble_eq_true rfl⟩ ⟨Nat.le_of_ble_eq_true rfl, Nat.le_of_ble_eq_true rfl⟩ (fun rh11 vh11 ah11 h11 => ?_)
      obtain ⟨f11, rfl, fn10, bn10, ex10⟩ := h11
      refine hv2 (fp0.call fn10 rfl rfl) (show f11 = -1 from ex10) (fun fq10 gf11 => ?_)
      refine m_st (st2 := [.int (iI f11)]) rfl ?_
      exact m_iret C dX12_saved_21 rfl (Nat.le_of_ble_eq_true rfl) (Nat.le_of_ble_eq_true rfl) ⟨f11, rfl, fq10, bn10, trivial⟩
set_option maxHeartbeats 4000000 in
set_option maxRecDepth 100000 in
theorem M_isUnreadable {l : Launch} {G : GT} {h0 : Nat} {ad ln : Nat → Nat} {v : Nat → Int} {a : Nat → Nat → Int}  {t : Int} (hB : BX v a) (hT : TBL v a) (hW : RWS a) (ht : 0 ≤ t ∧ t < v 4) : Mm l G yX12_isUnreadable cX12_isUnreadable 3 (some .boolean) 66 [.int (iI t)] h0 ad ln v a 0 0 (fun r v2 a2 => ∃ f : Int, r = some (.int (iI f)) ∧ fr [25, 28, 50, 52, 53] [20, 24, 26, 27, 48, 49, 51] v a v2 a2 ∧ BX v2 a2 ∧ (f = 0 ∨ f = 1)) := by
  refine Mm.mk (by decide) (Nat.le_of_ble_eq_true rfl) ?_
  intro p e s m args below meth c A C
  refine hv3 (show 0 ≤ v 4 ∧ v 4 ≤ 30 from hB.1 4) (show 0 ≤ v 23 ∧ v 23 ≤ 500 from hB.1 23) (show fr [25, 28, 50, 52, 53] [20, 24, 26, 27, 48, 49, 51] v a v a from fr.refl) (fun h30 r23 fp0 => ?_)
  refine m_aload_n (j := 0) C dX12_isUnreadable_0 rfl ?_
  refine m_iload_n (j := 1) C dX12_isUnreadable_1 rfl ?_
  have rv1 : 0 ≤ v 4 ∧ v 4 ≤ 30 := hB.1 4
  refine m_call (mc2 := 0) (ms2 := 0) (As := [.int (iI t)]) (rest := []) C (M_setWord (t := t) hB (hT.fr fp0 rfl rfl) (by show 0 ≤ t ∧ t < (v 4); omega)) dX12_isUnreadable_2 kV_X12_267 rfl ck_13 rfl (Nat.le_of_ble_eq_true rfl) ⟨Nat.le_of_ble_eq_true rfl, Nat.le_of_ble_eq_true rfl⟩ ⟨Nat.le_of_ble_eq_true rfl, Nat.le_of_ble_eq_true rfl⟩ (fun rh1 vh1 ah1 h1 => ?_)
  obtain ⟨f1, rfl, fn1, bn1, ex1⟩ := h1
  refine hv3 (fp0.call fn1 rfl rfl) (show 0 ≤ vh1 25 ∧ vh1 25 ≤ 208 from bn1.1 25) (show f1 = 0 ∨ (f1 = 1 ∧ (vh1 25) ≤ 200) from ex1) (fun fq1 rv2 gf1 => ?_)
  refine m_st (st2 := [.int (iI f1)]) rfl ?_
  refine m_if_ne (tgt := 10) C (r32_0p gf1) dX12_isUnreadable_5 (by decide) (fun c1 => ?_) (fun c1 => ?_)
  · replace gf1 := (gf1.resolve_left c1)
    refine m_aload_n (j := 0) C dX12_isUnreadable_10 rfl ?_
    refine m_iconst C dX12_isUnreadable_11 ?_
    refine m_put (k := 50) (z := 0) C dX12_isUnreadable_12 w6_109 (by decide) rfl rfl rfl ?_
    refine hv2 (show BX (va_up vh1 50 0) ah1 from bn1.put (k := 50) (z := 0) ⟨by decide, by decide⟩) (fq1.put (k := 50) (z := 0) rfl) (fun bq1 fq2 => ?_)
    refine m_iconst C dX12_isUnreadable_15 ?_
    refine m_istore_n (lv2 := [(2, .int (iI 0)), (0, .ref h0), (1, .int (iI t))]) C dX12_isUnreadable_16 (by decide) rfl ?_
    have Lp1 : ∀ (nn : Nat) (k : Int) (vb1 : Nat → Int) (ab1 : Nat → Nat → Int), 201 - k < (nn : Int) → BX vb1 ab1 → fr [25, 28, 50, 52, 53] [20, 24, 26, 27, 48, 49, 51] v a vb1 ab1 → (0 ≤ k ∧ k ≤ 200) → (vb1 50 = k) → (vb1 25 ≤ 200) → mw p l e (rmq 66 0 0) s m args below meth c G A 3 (MQ below (Qm G A (fun rq Lq Eq => ∃ (vq : Nat → Int) (aq : Nat → Nat → Int), mI G h0 ad ln vq aq Lq Eq ∧ (fun r v2 a2 => ∃ f : Int, r = some (.int (iI f)) ∧ fr [25, 28, 50, 52, 53] [20, 24, 26, 27, 48, 49, 51] v a v2 a2 ∧ BX v2 a2 ∧ (f = 0 ∨ f = 1)) rq vq aq)) args s 0 0 A) h0 ad ln vb1 ab1 0 0 17 [(2, .int (iI k)), (0, .ref h0), (1, .int (iI t))] [] := by
      intro nn
      induction nn with
      | zero =>
        intro k vb1 ab1 hm bxb1 fpb1 hk h50 h25
        exact absurd hm (by omega)
      | succ nn ih1 =>
        intro k vb1 ab1 hm bxb1 fpb1 hk h50 h25
        refine m_iload_n (j := 0) C dX12_isUnreadable_17 rfl ?_
        refine m_aload_n (j := 1) C dX12_isUnreadable_18 rfl ?_
        have rv3 : 0 ≤ vb1 25 ∧ vb1 25 ≤ 208 := bxb1.1 25
        refine m_get (k := 25) C dX12_isUnreadable_19 w6_84 (by decide) rfl ?_
        refine m_icmp_ge (tgt := 42) C (r32_c (lo := 0) (hi := 200) hk.1 hk.2 (by decide) (by decide)) (r32_c (lo := 0) (hi := 208) rv3.1 rv3.2 (by decide) (by decide)) dX12_isUnreadable_22 (by decide) (fun c2 => ?_) (fun c2 => ?_)
        · refine m_aload_n (j := 1) C dX12_isUnreadable_42 rfl ?_
          refine m_call (mc2 := 0) (ms2 := 0) (As := []) (rest := []) C (M_readAll  bxb1 (RWS.fr hW fpb1 rfl)) dX12_isUnreadable_43 kV_X12_357 rfl ck_13 rfl (Nat.le_of_ble_eq_true rfl) ⟨Nat.le_of_ble_eq_true rfl, Nat.le_of_ble_eq_true rfl⟩ ⟨Nat.le_of_ble_eq_true rfl, Nat.le_of_ble_eq_true rfl⟩ (fun rh2 vh2 ah2 h2 => ?_)
          obtain ⟨f2, rfl, fn2, bn2, ex2⟩ := h2
          refine hv2 (fpb1.call fn2 rfl rfl) (show f2 = 0 ∨ f2 = 6 ∨ f2 = 9 from ex2) (fun fq3 gf2 => ?_)
          refine m_st (st2 := [.int (iI f2)]) rfl ?_
          refine m_if_ne (tgt := 60) C ⟨by omega, by omega⟩ dX12_isUnreadable_46 (by decide) (fun c3 => ?_) (fun c3 => ?_)
          · replace gf2 := (gf2.resolve_left c3)
            refine m_iconst C dX12_isUnreadable_60 ?_
            exact m_zret C dX12_isUnreadable_61 rfl (Or.inr rfl) (Nat.le_of_ble_eq_true rfl) (Nat.le_of_ble_eq_true rfl) ⟨1, rfl, fq3, bn2, (by omega)⟩
          · clear gf2
            refine m_aload_n (j := 1) C dX12_isUnreadable_49 rfl ?_
            have rv4 : 0 ≤ vh2 52 ∧ vh2 52 ≤ 4000 := bn2.1 52
            refine m_get (k := 52) C dX12_isUnreadable_50 w6_111 (by decide) rfl ?_
            refine m_aload_n (j := 1) C dX12_isUnreadable_53 rfl ?_
            refine hv3 (show 0 ≤ vh2 23 ∧ vh2 23 ≤ 500 from bn2.1 23) (show vh2 23 = vb1 23 from fn2.1 23 rfl) (show vb1 23 = v 23 from fpb1.1 23 rfl) (fun rv5 ve1 ve2 => ?_)
            refine m_get (k := 23) C dX12_isUnreadable_54 w6_82 (by decide) rfl ?_
            refine m_st (st2 := [.int (iI (v 23)), .int (iI (vh2 52))]) (congrArg (fun z => Value.int (iI z) :: [.int (iI (vh2 52))]) (fq3.1 23 rfl)) ?_
            refine m_icmp_eq (tgt := 62) C (r32_c (lo := 0) (hi := 4000) rv4.1 rv4.2 (by decide) (by decide)) (r32_c (lo := 0) (hi := 500) (Int.le_trans (Int.le_trans rv5.1 (Int.le_of_eq ve1)) (Int.le_of_eq ve2)) (Int.le_trans (Int.le_of_eq ve2.symm) (Int.le_trans (Int.le_of_eq ve1.symm) rv5.2)) (by decide) (by decide)) dX12_isUnreadable_57 (by decide) (fun c4 => ?_) (fun c4 => ?_)
            · refine m_iconst C dX12_isUnreadable_62 ?_
              refine m_istore_n (lv2 := [(2, .int (iI 0)), (0, .ref h0), (1, .int (iI t))]) C dX12_isUnreadable_63 (by decide) rfl ?_
              have Lp2 : ∀ (nn : Nat) (k1 : Int) (vb2 : Nat → Int) (ab2 : Nat → Nat → Int), 501 - k1 < (nn : Int) → BX vb2 ab2 → fr [25, 28, 50, 52, 53] [20, 24, 26, 27, 48, 49, 51] v a vb2 ab2 → (0 ≤ k1 ∧ k1 ≤ 500) → (vb2 52 = v 23) → mw p l e (rmq 66 0 0) s m args below meth c G A 3 (MQ below (Qm G A (fun rq Lq Eq => ∃ (vq : Nat → Int) (aq : Nat → Nat → Int), mI G h0 ad ln vq aq Lq Eq ∧ (fun r v2 a2 => ∃ f : Int, r = some (.int (iI f)) ∧ fr [25, 28, 50, 52, 53] [20, 24, 26, 27, 48, 49, 51] v a v2 a2 ∧ BX v2 a2 ∧ (f = 0 ∨ f = 1)) rq vq aq)) args s 0 0 A) h0 ad ln vb2 ab2 0 0 64 [(2, .int (iI k1)), (0, .ref h0), (1, .int (iI t))] [] := by
                intro nn
                induction nn with
                | zero =>
                  intro k1 vb2 ab2 hm bxb2 fpb2 hk1 h52
                  exact absurd hm (by omega)
                | succ nn ih2 =>
                  intro k1 vb2 ab2 hm bxb2 fpb2 hk1 h52
                  refine m_iload_n (j := 0) C dX12_isUnreadable_64 rfl ?_
                  refine m_aload_n (j := 1) C dX12_isUnreadable_65 rfl ?_
                  have rv6 : 0 ≤ vb2 52 ∧ vb2 52 ≤ 4000 := bxb2.1 52
                  refine m_get (k := 52) C dX12_isUnreadable_66 w6_111 (by decide) rfl ?_
                  refine m_icmp_ge (tgt := 95) C (r32_c (lo := 0) (hi := 500) hk1.1 hk1.2 (by decide) (by decide)) (r32_c (lo := 0) (hi := 4000) rv6.1 rv6.2 (by decide) (by decide)) dX12_isUnreadable_69 (by decide) (fun c5 => ?_) (fun c5 => ?_)
                  · refine m_iconst C dX12_isUnreadable_95 ?_
                    exact m_zret C dX12_isUnreadable_96 rfl (Or.inl rfl) (Nat.le_of_ble_eq_true rfl) (Nat.le_of_ble_eq_true rfl) ⟨0, rfl, fpb2, bxb2, (by omega)⟩
                  · refine m_aload_n (j := 1) C dX12_isUnreadable_72 rfl ?_
                    refine m_geta (k := 51) C dX12_isUnreadable_73 w6_110 (by decide) rfl ?_
                    refine m_iload_n (j := 0) C dX12_isUnreadable_76 rfl ?_
                    refine m_ald (k := 51) C dX12_isUnreadable_77 rfl rfl (by decide) hk1.1 (Int.lt_of_le_of_lt hk1.2 (by decide)) (by decide) ?_
                    have ra1 : (-2147483648) ≤ ab2 51 k1.toNat ∧ ab2 51 k1.toNat ≤ 2147483647 := bxb2.2 51 (k1.toNat)
                    refine m_aload_n (j := 1) C dX12_isUnreadable_78 rfl ?_
                    refine m_geta (k := 20) C dX12_isUnreadable_79 w6_79 (by decide) rfl ?_
                    refine m_iload_n (j := 0) C dX12_isUnreadable_82 rfl ?_
                    refine m_ald (k := 20) C dX12_isUnreadable_83 rfl rfl (by decide) hk1.1 (Int.lt_of_le_of_lt hk1.2 (by decide)) (by decide) ?_
                    have ra2 : (-2147483648) ≤ ab2 20 k1.toNat ∧ ab2 20 k1.toNat ≤ 2147483647 := bxb2.2 20 (k1.toNat)
                    refine m_icmp_eq (tgt := 89) C (r32_c (lo := (-2147483648)) (hi := 2147483647) ra1.1 ra1.2 (by decide) (by decide)) (r32_c (lo := (-2147483648)) (hi := 2147483647) ra2.1 ra2.2 (by decide) (by decide)) dX12_isUnreadable_84 (by decide) (fun c6 => ?_) (fun c6 => ?_)
                    · refine m_iinc (z := k1) (j := 0) (lv2 := [(2, .int (iI (k1 + 1))), (0, .ref h0), (1, .int (iI t))]) C dX12_isUnreadable_89 rfl (by decide) rfl ?_
                      refine m_goto (tgt := 64) C dX12_isUnreadable_92 (by decide) ?_
                      refine m_lv (lv2 := [(2, .int (iI (k1 + 1))), (0, .ref h0), (1, .int (iI t))]) [0, 1, 2] rfl ?_
                      exact ih2  (k1 + 1) _ _ (by omega) bxb2 fpb2 (by omega) (by show (vb2 52) = v 23; omega)
                    · refine m_iconst C dX12_isUnreadable_87 ?_
                      exact m_zret C dX12_isUnreadable_88 rfl (Or.inr rfl) (Nat.le_of_ble_eq_true rfl) (Nat.le_of_ble_eq_true rfl) ⟨1, rfl, fpb2, bxb2, (by omega)⟩
              refine m_lv (lv2 := [(2, .int (iI 0)), (0, .ref h0), (1, .int (iI t))]) [0, 1, 2] rfl ?_
              exact Lp2 502 0 _ _ (by omega) bn2 fq3 (by omega) (by show (vh2 52) = v 23; omega)
            · refine m_iconst C dX12_isUnreadable_60 ?_
              exact m_zret C dX12_isUnreadable_61 rfl (Or.inr rfl) (Nat.le_of_ble_eq_true rfl) (Nat.le_of_ble_eq_true rfl) ⟨1, rfl, fq3, bn2, (by omega)⟩
        · refine m_aload_n (j := 1) C dX12_isUnreadable_25 rfl ?_
          refine m_aload_n (j := 1) C dX12_isUnreadable_26 rfl ?_
          refine m_geta (k := 24) C dX12_isUnreadable_27 w6_83 (by decide) rfl ?_
          refine m_iload_n (j := 0) C dX12_isUnreadable_30 rfl ?_
          refine m_ald (k := 24) C dX12_isUnreadable_31 rfl rfl (by decide) hk.1 (Int.lt_of_le_of_lt hk.2 (by decide)) (by decide) ?_
          have ra3 : (-2147483648) ≤ ab1 24 k.toNat ∧ ab1 24 k.toNat ≤ 2147483647 := bxb1.2 24 (k.toNat)
          refine m_iconst C dX12_isUnreadable_32 ?_
          have rv7 : 0 ≤ vb1 50 ∧ vb1 50 ≤ 40200 := bxb1.1 50
          refine m_call (mc2 := 0) (ms2 := 0) (As := [.int (iI (ab1 24 k.toNat)), .int (iI 0)]) (rest := []) C (B_putRow (x := ab1 24 k.toNat) (y := 0) bxb1 (by show -2147483648 ≤ (ab1 24 k.toNat) ∧ (ab1 24 k.toNat) ≤ 2147483647; omega) (by show -2147483648 ≤ (0 : Int) ∧ (0 : Int) ≤ 2147483647; omega) (by show (vb1 50) < 40200; omega)) dX12_isUnreadable_33 kV_X12_351 rfl ck_13 rfl (Nat.le_of_ble_eq_true rfl) ⟨Nat.le_of_ble_eq_true rfl, Nat.le_of_ble_eq_true rfl⟩ ⟨Nat.le_of_ble_eq_true rfl, Nat.le_of_ble_eq_true rfl⟩ (fun rh3 vh3 ah3 h3 => ?_)
          obtain ⟨rfl, fn3, bn3, ex3⟩ := h3
          refine hv3 (fpb1.call fn3 rfl rfl) (show 0 ≤ vh3 50 ∧ vh3 50 ≤ 40200 from bn3.1 50) (show (vh3 50) = (vb1 50) + 1 from ex3) (fun fq4 rv8 gf3 => ?_)
          refine m_st (st2 := []) rfl ?_
          refine m_iinc (z := k) (j := 0) (lv2 := [(2, .int (iI (k + 1))), (0, .ref h0), (1, .int (iI t))]) C dX12_isUnreadable_36 rfl (by decide) rfl ?_
          refine m_goto (tgt := 17) C dX12_isUnreadable_39 (by decide) ?_
          refine hv2 (show 0 ≤ vh3 25 ∧ vh3 25 ≤ 208 from bn3.1 25) (show vh3 25 = vb1 25 from fn3.1 25 rfl) (fun rv9 ve3 => ?_)
          refine m_lv (lv2 := [(2, .int (iI (k + 1))), (0, .ref h0), (1, .int (iI t))]) [0, 1, 2] rfl ?_
          exact ih1  (k + 1) _ _ (by omega) bn3 fq4 (by omega) (by show (vh3 50) = (k + 1); omega) (by show (vh3 25) ≤ 200; omega)
    refine m_lv (lv2 := [(2, .int (iI 0)), (0, .ref h0), (1, .int (iI t))]) [0, 1, 2] rfl ?_
    exact Lp1 202 0 _ _ (by omega) bq1 fq2 (by omega) (by show 0 = 0; omega) (by show (vh1 25) ≤ 200; omega)
  · clear gf1
    refine m_iconst C dX12_isUnreadable_8 ?_
    exact m_zret C dX12_isUnreadable_9 rfl (Or.inl rfl) (Nat.le_of_ble_eq_true rfl) (Nat.le_of_ble_eq_true rfl) ⟨0, rfl, fq1, bn1, (by omega)⟩
end
section
def xar (G : GT) (n : Nat) (zb : Bool) (c : Nat → Int) : va_E := if zb = true then aZ G n (fun j => iI (c j)) else aI G n (fun j => iI (c j))
def mIx (G : GT) (h0 : Nat) (ad ln : Nat → Nat) (bb nb : Nat) (zb : Bool) (v : Nat → Int) (a : Nat → Nat → Int) (L : List Nat) (E : Nat → va_E) : Prop := mI G h0 ad ln v a L E ∧ bb ∉ L ∧ E bb = xar G nb zb (a 70)
theorem mI.congr {G : GT} {h0 : Nat} {ad ln : Nat → Nat} {v : Nat → Int} {a a2 : Nat → Nat → Int} {L : List Nat} {E E2 : Nat → va_E} (h : mI G h0 ad ln v a L E) (hE : ∀ q, q ∈ L → E2 q = E q) (ha : ∀ k, mA k = true → a2 k = a k) : mI G h0 ad ln v a2 L E2 := by
  obtain ⟨h1, h2, h3, h4, h5, h6⟩ := h
  refine ⟨h1, by rw [hE _ h1]; exact h2, fun j hj => ⟨(h3 j hj).1, ?_⟩, h4, h5, h6⟩
  rw [hE _ (h3 j hj).1, ha j hj]; exact (h3 j hj).2
theorem mI.cons {G : GT} {h0 : Nat} {ad ln : Nat → Nat} {v : Nat → Int} {a : Nat → Nat → Int} {L : List Nat} {E : Nat → va_E} (bb : Nat) (h : mI G h0 ad ln v a L E) : mI G h0 ad ln v a (bb :: L) E := by
  obtain ⟨h1, h2, h3, h4, h5, h6⟩ := h
  exact ⟨List.mem_cons_of_mem _ h1, h2, fun j hj => ⟨List.mem_cons_of_mem _ (h3 j hj).1, (h3 j hj).2⟩, h4, h5, h6⟩
theorem mIx.put {G : GT} {h0 : Nat} {ad ln : Nat → Nat} {bb nb : Nat} {zb : Bool} {v : Nat → Int} {a : Nat → Nat → Int} {L : List Nat} {E : Nat → va_E} {k : Nat} {z : Int} (h : mIx G h0 ad ln bb nb zb v a L E) (hk : mA k = false) : mIx G h0 ad ln bb nb zb (va_up v k z) a L (va_up E h0 (ob 13 67 (va_up (mfv ad v) k (.int (iI z))))) :=
  ⟨h.1.put hk, h.2.1, by rw [va_up_ne _ _ (fun q => h.2.1 (by rw [q]; exact h.1.1))]; exact h.2.2⟩
theorem mIx.set {G : GT} {h0 : Nat} {ad ln : Nat → Nat} {bb nb : Nat} {zb : Bool} {v : Nat → Int} {a : Nat → Nat → Int} {L : List Nat} {E : Nat → va_E} {k i : Nat} {z : Int} (h : mIx G h0 ad ln bb nb zb v a L E) (hk : mA k = true) {x : va_E} (hx : x = mar G (ln k) k (up2 a k i z k)) : mIx G h0 ad ln bb nb zb v (up2 a k i z) L (va_up E (ad k) x) :=
  ⟨h.1.set hk hx, h.2.1, by
    rw [va_up_ne _ _ (fun q => h.2.1 (by rw [q]; exact (h.1.2.2.1 k hk).1))]
    rw [show up2 a k i z 70 = a 70 from funext fun _ => up2_k (fun q => by subst q; exact absurd hk (by decide))]
    exact h.2.2⟩
theorem mIx.loc {G : GT} {h0 : Nat} {ad ln : Nat → Nat} {bb nb : Nat} {zb : Bool} {v : Nat → Int} {a : Nat → Nat → Int} {L : List Nat} {E : Nat → va_E} {i : Nat} {z : Int} (h : mIx G h0 ad ln bb nb zb v a L E) {x : va_E} (hx : x = xar G nb zb (up2 a 70 i z 70)) : mIx G h0 ad ln bb nb zb v (up2 a 70 i z) L (va_up E bb x) :=
  ⟨h.1.congr (fun q hq => va_up_ne _ _ (fun e => h.2.1 (by rw [← e]; exact hq))) (fun k hk => funext fun _ => up2_k (fun q => by subst q; exact absurd hk (by decide))), h.2.1, by rw [va_up_self, hx]⟩
def mx (p : Program) (l : Launch) (e : Env) (R : Room) (s : State) (m : MethodId) (args : Array Value) (below : List Frame) (meth : Method) (c : Code) (G : GT) (A : Nat → Prop) (nL : Nat) (Q : State → Prop) (bb nb : Nat) (zb : Bool) (h0 : Nat) (ad ln : Nat → Nat) (v : Nat → Int) (a : Nat → Nat → Int) (kc ks pc : Nat) (lv : List (Nat × Value)) (st : List Value) : Prop := ∀ (L : List Nat) (E : Nat → va_E), mIx G h0 ad ln bb nb zb v a L E → wq p l e R s m args below meth c G A nL Q (bb :: L) E kc ks pc lv st
section MQ3
variable {p : Program} {l : Launch} {e : Env} {R : Room} {s : State} {m : MethodId} {args : Array Value} {below : List Frame} {meth : Method} {c : Code} {cc : ByteArray} {y : MethodName} {ret : Option FieldType} {G : GT} {A : Nat → Prop} {nL mc ms : Nat} {Q : State → Prop} {Post : Option Value → (Nat → Int) → (Nat → Nat → Int) → Prop} {h0 : Nat} {ad ln : Nat → Nat} {v : Nat → Int} {a : Nat → Nat → Int} {kc ks pc : Nat} {lv : List (Nat × Value)} {st : List Value} {bb nb : Nat} {zb : Bool}
theorem x_iconst (C : Cq p s m args meth c cc y ret G A nL) {n : Int} (d : decode cc pc = .ok (.iconst n, 1))  (k : mx p l e R s m args below meth c G A nL Q bb nb zb h0 ad ln v a kc ks (pc + 1) lv (.int (iI n) :: st)) : mx p l e R s m args below meth c G A nL Q bb nb zb h0 ad ln v a kc ks pc lv st := fun L E h => q_iconst C d rfl (k L E h)
theorem x_bipush (C : Cq p s m args meth c cc y ret G A nL) {n z : Int} (d : decode cc pc = .ok (.bipush n, 2)) (hz : (Int8.ofInt n).toInt32 = iI z) (k : mx p l e R s m args below meth c G A nL Q bb nb zb h0 ad ln v a kc ks (pc + 2) lv (.int (iI z) :: st)) : mx p l e R s m args below meth c G A nL Q bb nb zb h0 ad ln v a kc ks pc lv st := fun L E h => q_bipush C d hz (k L E h)
theorem x_sipush (C : Cq p s m args meth c cc y ret G A nL) {n z : Int} (d : decode cc pc = .ok (.sipush n, 3)) (hz : (Int16.ofInt n).toInt32 = iI z) (k : mx p l e R s m args below meth c G A nL Q bb nb zb h0 ad ln v a kc ks (pc + 3) lv (.int (iI z) :: st)) : mx p l e R s m args below meth c G A nL Q bb nb zb h0 ad ln v a kc ks pc lv st := fun L E h => q_sipush C d hz (k L E h)
theorem x_iload_n (C : Cq p s m args meth c cc y ret G A nL) {i : Fin 4} {j : Nat} {x : Int32} (d : decode cc pc = .ok (.iload_n i, 1)) (hj : lv[j]? = some ((i : Nat), .int x)) (k : mx p l e R s m args below meth c G A nL Q bb nb zb h0 ad ln v a kc ks (pc + 1) lv (.int x :: st)) : mx p l e R s m args below meth c G A nL Q bb nb zb h0 ad ln v a kc ks pc lv st := fun L E h => q_iload_n C d hj (k L E h)
theorem x_iload (C : Cq p s m args meth c cc y ret G A nL) {i j : Nat} {x : Int32} (d : decode cc pc = .ok (.iload i, 2)) (hj : lv[j]? = some (i, .int x)) (k : mx p l e R s m args below meth c G A nL Q bb nb zb h0 ad ln v a kc ks (pc + 2) lv (.int x :: st)) : mx p l e R s m args below meth c G A nL Q bb nb zb h0 ad ln v a kc ks pc lv st := fun L E h => q_iload C d hj (k L E h)
theorem x_aload_n (C : Cq p s m args meth c cc y ret G A nL) {i : Fin 4} {j : Nat} {x : Nat} (d : decode cc pc = .ok (.aload_n i, 1)) (hj : lv[j]? = some ((i : Nat), .ref x)) (k : mx p l e R s m args below meth c G A nL Q bb nb zb h0 ad ln v a kc ks (pc + 1) lv (.ref x :: st)) : mx p l e R s m args below meth c G A nL Q bb nb zb h0 ad ln v a kc ks pc lv st := fun L E h => q_aload_n C d hj (k L E h)
theorem x_aload (C : Cq p s m args meth c cc y ret G A nL) {i j : Nat} {x : Nat} (d : decode cc pc = .ok (.aload i, 2)) (hj : lv[j]? = some (i, .ref x)) (k : mx p l e R s m args below meth c G A nL Q bb nb zb h0 ad ln v a kc ks (pc + 2) lv (.ref x :: st)) : mx p l e R s m args below meth c G A nL Q bb nb zb h0 ad ln v a kc ks pc lv st := fun L E h => q_aload C d hj (k L E h)
theorem x_istore_n (C : Cq p s m args meth c cc y ret G A nL) {i : Fin 4} {x : Int32} {lv2 : List (Nat × Value)} (d : decode cc pc = .ok (.istore_n i, 1)) (hn : (i : Nat) < nL) (hl : ((i : Nat), Value.int x) :: lv.filter (fun q => !(q.1 == (i : Nat)) && !(q.1 + 1 == (i : Nat) && q.2.category == 2)) = lv2) (k : mx p l e R s m args below meth c G A nL Q bb nb zb h0 ad ln v a kc ks (pc + 1) lv2 st) : mx p l e R s m args below meth c G A nL Q bb nb zb h0 ad ln v a kc ks pc lv (Value.int x :: st) := fun L E h => q_istore_n C d hn hl (k L E h)
theorem x_istore (C : Cq p s m args meth c cc y ret G A nL) {i : Nat} {x : Int32} {lv2 : List (Nat × Value)} (d : decode cc pc = .ok (.istore i, 2)) (hn : i < nL) (hl : (i, Value.int x) :: lv.filter (fun q => !(q.1 == i) && !(q.1 + 1 == i && q.2.category == 2)) = lv2) (k : mx p l e R s m args below meth c G A nL Q bb nb zb h0 ad ln v a kc ks (pc + 2) lv2 st) : mx p l e R s m args below meth c G A nL Q bb nb zb h0 ad ln v a kc ks pc lv (Value.int x :: st) := fun L E h => q_istore C d hn hl (k L E h)
theorem x_astore_n (C : Cq p s m args meth c cc y ret G A nL) {i : Fin 4} {x : Nat} {lv2 : List (Nat × Value)} (d : decode cc pc = .ok (.astore_n i, 1)) (hn : (i : Nat) < nL) (hl : ((i : Nat), Value.ref x) :: lv.filter (fun q => !(q.1 == (i : Nat)) && !(q.1 + 1 == (i : Nat) && q.2.category == 2)) = lv2) (k : mx p l e R s m args below meth c G A nL Q bb nb zb h0 ad ln v a kc ks (pc + 1) lv2 st) : mx p l e R s m args below meth c G A nL Q bb nb zb h0 ad ln v a kc ks pc lv (Value.ref x :: st) := fun L E h => q_astore_n C d hn hl (k L E h)
theorem x_astore (C : Cq p s m args meth c cc y ret G A nL) {i : Nat} {x : Nat} {lv2 : List (Nat × Value)} (d : decode cc pc = .ok (.astore i, 2)) (hn : i < nL) (hl : (i, Value.ref x) :: lv.filter (fun q => !(q.1 == i) && !(q.1 + 1 == i && q.2.category == 2)) = lv2) (k : mx p l e R s m args below meth c G A nL Q bb nb zb h0 ad ln v a kc ks (pc + 2) lv2 st) : mx p l e R s m args below meth c G A nL Q bb nb zb h0 ad ln v a kc ks pc lv (Value.ref x :: st) := fun L E h => q_astore C d hn hl (k L E h)
theorem x_iinc (C : Cq p s m args meth c cc y ret G A nL) {i j : Nat} {n z : Int} {lv2 : List (Nat × Value)} (d : decode cc pc = .ok (.iinc i n, 3)) (hj : lv[j]? = some (i, .int (iI z))) (hn : i < nL) (hl : (i, Value.int (iI (z + n))) :: lv.filter (fun q => !(q.1 == i) && !(q.1 + 1 == i && q.2.category == 2)) = lv2) (k : mx p l e R s m args below meth c G A nL Q bb nb zb h0 ad ln v a kc ks (pc + 3) lv2 st) : mx p l e R s m args below meth c G A nL Q bb nb zb h0 ad ln v a kc ks pc lv st := fun L E h => q_iinc C d hj (Int32.ofInt_add z n).symm hn hl (k L E h)
theorem x_iadd (C : Cq p s m args meth c cc y ret G A nL) {x z : Int} (d : decode cc pc = .ok (.iadd, 1))  (k : mx p l e R s m args below meth c G A nL Q bb nb zb h0 ad ln v a kc ks (pc + 1) lv (.int (iI (x + z)) :: st)) : mx p l e R s m args below meth c G A nL Q bb nb zb h0 ad ln v a kc ks pc lv (.int (iI z) :: .int (iI x) :: st) := fun L E h => q_iadd C d (Int32.ofInt_add x z).symm (k L E h)
theorem x_isub (C : Cq p s m args meth c cc y ret G A nL) {x z : Int} (d : decode cc pc = .ok (.isub, 1))  (k : mx p l e R s m args below meth c G A nL Q bb nb zb h0 ad ln v a kc ks (pc + 1) lv (.int (iI (x - z)) :: st)) : mx p l e R s m args below meth c G A nL Q bb nb zb h0 ad ln v a kc ks pc lv (.int (iI z) :: .int (iI x) :: st) := fun L E h => q_isub C d (Int32.ofInt_sub x z).symm (k L E h)
theorem x_imul (C : Cq p s m args meth c cc y ret G A nL) {x z : Int} (d : decode cc pc = .ok (.imul, 1))  (k : mx p l e R s m args below meth c G A nL Q bb nb zb h0 ad ln v a kc ks (pc + 1) lv (.int (iI (x * z)) :: st)) : mx p l e R s m args below meth c G A nL Q bb nb zb h0 ad ln v a kc ks pc lv (.int (iI z) :: .int (iI x) :: st) := fun L E h => q_imul C d (Int32.ofInt_mul x z).symm (k L E h)
theorem x_dup (C : Cq p s m args meth c cc y ret G A nL) {u : Value} (d : decode cc pc = .ok (.dup, 1)) (hu : u.category = 1) (k : mx p l e R s m args below meth c G A nL Q bb nb zb h0 ad ln v a kc ks (pc + 1) lv (u :: u :: st)) : mx p l e R s m args below meth c G A nL Q bb nb zb h0 ad ln v a kc ks pc lv (u :: st) := fun L E h => q_dup C d hu (k L E h)
theorem x_dup2 (C : Cq p s m args meth c cc y ret G A nL) {u w : Value} (d : decode cc pc = .ok (.dup2, 1)) (hu : u.category = 1) (hw : w.category = 1) (k : mx p l e R s m args below meth c G A nL Q bb nb zb h0 ad ln v a kc ks (pc + 1) lv (u :: w :: u :: w :: st)) : mx p l e R s m args below meth c G A nL Q bb nb zb h0 ad ln v a kc ks pc lv (u :: w :: st) := fun L E h => q_dup2 C d hu hw (k L E h)
theorem x_goto (C : Cq p s m args meth c cc y ret G A nL) {off : Int} {tgt : Nat} (d : decode cc pc = .ok (.goto off, 3)) (ht : (pc : Int) + off = (tgt : Int)) (k : mx p l e R s m args below meth c G A nL Q bb nb zb h0 ad ln v a kc ks tgt lv st) : mx p l e R s m args below meth c G A nL Q bb nb zb h0 ad ln v a kc ks pc lv st := fun L E h => q_goto C d ht (k L E h)
theorem x_if_eq (C : Cq p s m args meth c cc y ret G A nL) {x off : Int} {tgt : Nat} (hx : R32 x) (d : decode cc pc = .ok (.ifCond .eq off, 3)) (ht : (pc : Int) + off = (tgt : Int)) (kt : x = 0 → mx p l e R s m args below meth c G A nL Q bb nb zb h0 ad ln v a kc ks tgt lv st) (kf : ¬ x = 0 → mx p l e R s m args below meth c G A nL Q bb nb zb h0 ad ln v a kc ks (pc + 3) lv st) : mx p l e R s m args below meth c G A nL Q bb nb zb h0 ad ln v a kc ks pc lv (.int (iI x) :: st) := fun L E h => q_if_eq C d ht (fun q => kt ((iI_eq hx R32_0).mp q) L E h) (fun q => kf (fun r => q ((iI_eq hx R32_0).mpr r)) L E h)
theorem x_icmp_ne (C : Cq p s m args meth c cc y ret G A nL) {x z off : Int} {tgt : Nat} (hx : R32 x) (hz : R32 z) (d : decode cc pc = .ok (.if_icmp .ne off, 3)) (ht : (pc : Int) + off = (tgt : Int)) (kt : ¬ x = z → mx p l e R s m args below meth c G A nL Q bb nb zb h0 ad ln v a kc ks tgt lv st) (kf : x = z → mx p l e R s m args below meth c G A nL Q bb nb zb h0 ad ln v a kc ks (pc + 3) lv st) : mx p l e R s m args below meth c G A nL Q bb nb zb h0 ad ln v a kc ks pc lv (.int (iI z) :: .int (iI x) :: st) := fun L E h => q_icmp_ne C d ht (fun q => kt (fun r => q ((iI_eq hx hz).mpr r)) L E h) (fun q => kf ((iI_eq hx hz).mp q) L E h)
theorem x_if_ne (C : Cq p s m args meth c cc y ret G A nL) {x off : Int} {tgt : Nat} (hx : R32 x) (d : decode cc pc = .ok (.ifCond .ne off, 3)) (ht : (pc : Int) + off = (tgt : Int)) (kt : ¬ x = 0 → mx p l e R s m args below meth c G A nL Q bb nb zb h0 ad ln v a kc ks tgt lv st) (kf : x = 0 → mx p l e R s m args below meth c G A nL Q bb nb zb h0 ad ln v a kc ks (pc + 3) lv st) : mx p l e R s m args below meth c G A nL Q bb nb zb h0 ad ln v a kc ks pc lv (.int (iI x) :: st) := fun L E h => q_if_ne C d ht (fun q => kt (fun r => q ((iI_eq hx R32_0).mpr r)) L E h) (fun q => kf ((iI_eq hx R32_0).mp q) L E h)
theorem x_if_lt (C : Cq p s m args meth c cc y ret G A nL) {x off : Int} {tgt : Nat} (hx : R32 x) (d : decode cc pc = .ok (.ifCond .lt off, 3)) (ht : (pc : Int) + off = (tgt : Int)) (kt : x < 0 → mx p l e R s m args below meth c G A nL Q bb nb zb h0 ad ln v a kc ks tgt lv st) (kf : ¬ x < 0 → mx p l e R s m args below meth c G A nL Q bb nb zb h0 ad ln v a kc ks (pc + 3) lv st) : mx p l e R s m args below meth c G A nL Q bb nb zb h0 ad ln v a kc ks pc lv (.int (iI x) :: st) := fun L E h => q_if_lt C d ht (fun q => kt ((iI_lt hx R32_0).mp q) L E h) (fun q => kf (fun r => q ((iI_lt hx R32_0).mpr r)) L E h)
theorem x_icmp_ge (C : Cq p s m args meth c cc y ret G A nL) {x z off : Int} {tgt : Nat} (hx : R32 x) (hz : R32 z) (d : decode cc pc = .ok (.if_icmp .ge off, 3)) (ht : (pc : Int) + off = (tgt : Int)) (kt : z ≤ x → mx p l e R s m args below meth c G A nL Q bb nb zb h0 ad ln v a kc ks tgt lv st) (kf : ¬ z ≤ x → mx p l e R s m args below meth c G A nL Q bb nb zb h0 ad ln v a kc ks (pc + 3) lv st) : mx p l e R s m args below meth c G A nL Q bb nb zb h0 ad ln v a kc ks pc lv (.int (iI z) :: .int (iI x) :: st) := fun L E h => q_icmp_ge C d ht (fun q => kt ((iI_le hz hx).mp q) L E h) (fun q => kf (fun r => q ((iI_le hz hx).mpr r)) L E h)
theorem x_icmp_gt (C : Cq p s m args meth c cc y ret G A nL) {x z off : Int} {tgt : Nat} (hx : R32 x) (hz : R32 z) (d : decode cc pc = .ok (.if_icmp .gt off, 3)) (ht : (pc : Int) + off = (tgt : Int)) (kt : z < x → mx p l e R s m args below meth c G A nL Q bb nb zb h0 ad ln v a kc ks tgt lv st) (kf : ¬ z < x → mx p l e R s m args below meth c G A nL Q bb nb zb h0 ad ln v a kc ks (pc + 3) lv st) : mx p l e R s m args below meth c G A nL Q bb nb zb h0 ad ln v a kc ks pc lv (.int (iI z) :: .int (iI x) :: st) := fun L E h => q_icmp_gt C d ht (fun q => kt ((iI_lt hz hx).mp q) L E h) (fun q => kf (fun r => q ((iI_lt hz hx).mpr r)) L E h)
theorem x_if_le (C : Cq p s m args meth c cc y ret G A nL) {x off : Int} {tgt : Nat} (hx : R32 x) (d : decode cc pc = .ok (.ifCond .le off, 3)) (ht : (pc : Int) + off = (tgt : Int)) (kt : x ≤ 0 → mx p l e R s m args below meth c G A nL Q bb nb zb h0 ad ln v a kc ks tgt lv st) (kf : ¬ x ≤ 0 → mx p l e R s m args below meth c G A nL Q bb nb zb h0 ad ln v a kc ks (pc + 3) lv st) : mx p l e R s m args below meth c G A nL Q bb nb zb h0 ad ln v a kc ks pc lv (.int (iI x) :: st) := fun L E h => q_if_le C d ht (fun q => kt ((iI_le hx R32_0).mp q) L E h) (fun q => kf (fun r => q ((iI_le hx R32_0).mpr r)) L E h)
theorem x_lv {lv2 : List (Nat × Value)} (ps : List Nat) (hl : lv_pick lv ps = lv2) (k : mx p l e R s m args below meth c G A nL Q bb nb zb h0 ad ln v a kc ks pc lv2 st) : mx p l e R s m args below meth c G A nL Q bb nb zb h0 ad ln v a kc ks pc lv st := fun L E h H locs ls hP hD hS hv => k L E h H locs ls hP hD hS (lv_sub hv ps hl)
theorem x_st {st2 : List Value} (h : st = st2) (k : mx p l e R s m args below meth c G A nL Q bb nb zb h0 ad ln v a kc ks pc lv st2) : mx p l e R s m args below meth c G A nL Q bb nb zb h0 ad ln v a kc ks pc lv st := by subst h; exact k
theorem x_get (C : Cq p s m args meth c cc y ret G A nL) {k idx : Nat} (d : decode cc pc = .ok (.getfield idx, 3)) (lk : Cond.fieldLink y.cls idx (TX12 k).1 (TX12 k).2.1 (TX12 k).2.2.1 ∈ lw_g) (hk : k < 67) (hA : mA k = false) (kk : mx p l e R s m args below meth c G A nL Q bb nb zb h0 ad ln v a kc ks (pc + 3) lv (.int (iI (v k)) :: st)) : mx p l e R s m args below meth c G A nL Q bb nb zb h0 ad ln v a kc ks pc lv (.ref h0 :: st) := fun L E h => q_get (k := k) C ck_13 d lk hk (List.mem_cons_of_mem _ h.1.1) h.1.2.1 (mfv_i hA) (kk L E h)
theorem x_geta (C : Cq p s m args meth c cc y ret G A nL) {k idx : Nat} (d : decode cc pc = .ok (.getfield idx, 3)) (lk : Cond.fieldLink y.cls idx (TX12 k).1 (TX12 k).2.1 (TX12 k).2.2.1 ∈ lw_g) (hk : k < 67) (hA : mA k = true) (kk : mx p l e R s m args below meth c G A nL Q bb nb zb h0 ad ln v a kc ks (pc + 3) lv (.ref (ad k) :: st)) : mx p l e R s m args below meth c G A nL Q bb nb zb h0 ad ln v a kc ks pc lv (.ref h0 :: st) := fun L E h => q_get (k := k) C ck_13 d lk hk (List.mem_cons_of_mem _ h.1.1) h.1.2.1 (mfv_a hA) (kk L E h)
theorem x_put (C : Cq p s m args meth c cc y ret G A nL) {k idx : Nat} {z : Int} (d : decode cc pc = .ok (.putfield idx, 3)) (lk : Cond.fieldLink y.cls idx (TX12 k).1 (TX12 k).2.1 (TX12 k).2.2.1 ∈ lw_g) (hk : k < 67) (hA : mA k = false) (hf : (TX12 k).2.2.2 = false) (ht : tyX12 k = .int) (kk : mx p l e R s m args below meth c G A nL Q bb nb zb h0 ad ln (va_up v k z) a kc ks (pc + 3) lv st) : mx p l e R s m args below meth c G A nL Q bb nb zb h0 ad ln v a kc ks pc lv (.int (iI z) :: .ref h0 :: st) := fun L E h => q_put (k := k) C ck_13 d lk hk hf (List.mem_cons_of_mem _ h.1.1) h.1.2.1 (by rw [ht]; rfl) (by rw [ht]; rfl) (kk L _ (h.put hA))
theorem x_ald (C : Cq p s m args meth c cc y ret G A nL) {k : Nat} {z : Int} (d : decode cc pc = .ok (.iaload, 1)) (hA : mA k = true) (hZ : mZ k = false) (h18 : k ≠ 18) (h1 : 0 ≤ z) (h2 : z < (mlen k : Nat)) (hm : mlen k ≤ 100000) (kk : mx p l e R s m args below meth c G A nL Q bb nb zb h0 ad ln v a kc ks (pc + 1) lv (.int (iI (a k z.toNat)) :: st)) : mx p l e R s m args below meth c G A nL Q bb nb zb h0 ad ln v a kc ks pc lv (.int (iI z) :: .ref (ad k) :: st) := by
  intro L E h
  refine hv2 (show R32 z from ⟨by omega, by omega⟩) ((h.1.2.2.1 k hA).2) (fun hr hE => ?_)
  unfold mar at hE
  rw [hZ, if_neg (by decide), h.1.2.2.2.2.2.1 k h18] at hE
  exact q_iald C d (List.mem_cons_of_mem _ (h.1.2.2.1 k hA).1) hE (iI_in hr h1 h2) (by rw [iI_cl hr]) (kk L E h)
theorem x_ald18 (C : Cq p s m args meth c cc y ret G A nL) {z : Int} (d : decode cc pc = .ok (.iaload, 1)) (h1 : 0 ≤ z) (h2 : z < (ln 18 : Nat)) (hm : ln 18 ≤ 100000) (kk : mx p l e R s m args below meth c G A nL Q bb nb zb h0 ad ln v a kc ks (pc + 1) lv (.int (iI (a 18 z.toNat)) :: st)) : mx p l e R s m args below meth c G A nL Q bb nb zb h0 ad ln v a kc ks pc lv (.int (iI z) :: .ref (ad 18) :: st) := by
  intro L E h
  refine hv2 (show R32 z from ⟨by omega, by omega⟩) ((h.1.2.2.1 18 rfl).2) (fun hr hE => ?_)
  unfold mar at hE
  rw [if_neg (by decide)] at hE
  exact q_iald C d (List.mem_cons_of_mem _ (h.1.2.2.1 18 rfl).1) hE (iI_in hr h1 h2) (by rw [iI_cl hr]) (kk L E h)
theorem m_ald18 (C : Cq p s m args meth c cc y ret G A nL) {z : Int} (d : decode cc pc = .ok (.iaload, 1)) (h1 : 0 ≤ z) (h2 : z < (ln 18 : Nat)) (hm : ln 18 ≤ 100000) (kk : mw p l e R s m args below meth c G A nL Q h0 ad ln v a kc ks (pc + 1) lv (.int (iI (a 18 z.toNat)) :: st)) : mw p l e R s m args below meth c G A nL Q h0 ad ln v a kc ks pc lv (.int (iI z) :: .ref (ad 18) :: st) := by
  intro L E h
  refine hv2 (show R32 z from ⟨by omega, by omega⟩) ((h.2.2.1 18 rfl).2) (fun hr hE => ?_)
  unfold mar at hE
  rw [if_neg (by decide)] at hE
  exact q_iald C d (h.2.2.1 18 rfl).1 hE (iI_in hr h1 h2) (by rw [iI_cl hr]) (kk L E h)
theorem m_ast18 (C : Cq p s m args meth c cc y ret G A nL) {z w : Int} (d : decode cc pc = .ok (.iastore, 1)) (h1 : 0 ≤ z) (h2 : z < (ln 18 : Nat)) (hm : ln 18 ≤ 100000) (kk : mw p l e R s m args below meth c G A nL Q h0 ad ln v (up2 a 18 z.toNat w) kc ks (pc + 1) lv st) : mw p l e R s m args below meth c G A nL Q h0 ad ln v a kc ks pc lv (.int (iI w) :: .int (iI z) :: .ref (ad 18) :: st) := by
  intro L E h
  refine hv2 (show R32 z from ⟨by omega, by omega⟩) ((h.2.2.1 18 rfl).2) (fun hr hE => ?_)
  unfold mar at hE
  rw [if_neg (by decide)] at hE
  refine q_iast C d (h.2.2.1 18 rfl).1 hE (iI_in hr h1 h2) (kk L _ (h.set (k := 18) rfl ?_))
  unfold mar
  rw [if_neg (by decide), iI_cl hr]
  congr 1
  funext j
  unfold upd up2
  rw [if_pos rfl]
  split <;> rfl
theorem m_alen18 (C : Cq p s m args meth c cc y ret G A nL) (d : decode cc pc = .ok (.arraylength, 1)) (kk : mw p l e R s m args below meth c G A nL Q h0 ad ln v a kc ks (pc + 1) lv (.int (iI (ln 18 : Nat)) :: st)) : mw p l e R s m args below meth c G A nL Q h0 ad ln v a kc ks pc lv (.ref (ad 18) :: st) := by
  intro L E h
  have hE := (h.2.2.1 18 rfl).2
  unfold mar at hE
  rw [if_neg (by decide)] at hE
  exact q_alenI C d (h.2.2.1 18 rfl).1 hE Int32.ofInt_eq_ofNat.symm (kk L E h)
theorem x_ast (C : Cq p s m args meth c cc y ret G A nL) {k : Nat} {z w : Int} (d : decode cc pc = .ok (.iastore, 1)) (hA : mA k = true) (hZ : mZ k = false) (h18 : k ≠ 18) (h1 : 0 ≤ z) (h2 : z < (mlen k : Nat)) (hm : mlen k ≤ 100000) (kk : mx p l e R s m args below meth c G A nL Q bb nb zb h0 ad ln v (up2 a k z.toNat w) kc ks (pc + 1) lv st) : mx p l e R s m args below meth c G A nL Q bb nb zb h0 ad ln v a kc ks pc lv (.int (iI w) :: .int (iI z) :: .ref (ad k) :: st) := by
  intro L E h
  refine hv2 (show R32 z from ⟨by omega, by omega⟩) ((h.1.2.2.1 k hA).2) (fun hr hE => ?_)
  unfold mar at hE
  rw [hZ, if_neg (by decide)] at hE
  refine q_iast C d (List.mem_cons_of_mem _ (h.1.2.2.1 k hA).1) hE (by rw [h.1.2.2.2.2.2.1 k h18]; exact iI_in hr h1 h2) (kk L _ (h.set hA ?_))
  unfold mar
  rw [hZ, if_neg (by decide), iI_cl hr]
  congr 1
  funext j
  unfold upd up2
  rw [if_pos rfl]
  split <;> rfl
theorem x_lald (C : Cq p s m args meth c cc y ret G A nL) {z : Int} (d : decode cc pc = .ok (.iaload, 1)) (hz : zb = false) (h1 : 0 ≤ z) (h2 : z < (nb : Nat)) (hm : nb ≤ 100000) (kk : mx p l e R s m args below meth c G A nL Q bb nb zb h0 ad ln v a kc ks (pc + 1) lv (.int (iI (a 70 z.toNat)) :: st)) : mx p l e R s m args below meth c G A nL Q bb nb zb h0 ad ln v a kc ks pc lv (.int (iI z) :: .ref bb :: st) := by
  intro L E h
  refine hv2 (show R32 z from ⟨by omega, by omega⟩) (h.2.2) (fun hr hE => ?_)
  unfold xar at hE
  rw [hz, if_neg (by decide)] at hE
  exact q_iald C d List.mem_cons_self hE (iI_in hr h1 h2) (by rw [iI_cl hr]) (kk L E h)
theorem x_lzald (C : Cq p s m args meth c cc y ret G A nL) {z : Int} (d : decode cc pc = .ok (.baload, 1)) (hz : zb = true) (h1 : 0 ≤ z) (h2 : z < (nb : Nat)) (hm : nb ≤ 100000) (kk : mx p l e R s m args below meth c G A nL Q bb nb zb h0 ad ln v a kc ks (pc + 1) lv (.int (iI (a 70 z.toNat)) :: st)) : mx p l e R s m args below meth c G A nL Q bb nb zb h0 ad ln v a kc ks pc lv (.int (iI z) :: .ref bb :: st) := by
  intro L E h
  refine hv2 (show R32 z from ⟨by omega, by omega⟩) (h.2.2) (fun hr hE => ?_)
  unfold xar at hE
  rw [hz, if_pos rfl] at hE
  exact q_zald C d List.mem_cons_self hE (iI_in hr h1 h2) (by rw [iI_cl hr]) (kk L E h)
theorem x_last (C : Cq p s m args meth c cc y ret G A nL) {z w : Int} (d : decode cc pc = .ok (.iastore, 1)) (hz : zb = false) (h1 : 0 ≤ z) (h2 : z < (nb : Nat)) (hm : nb ≤ 100000) (kk : mx p l e R s m args below meth c G A nL Q bb nb zb h0 ad ln v (up2 a 70 z.toNat w) kc ks (pc + 1) lv st) : mx p l e R s m args below meth c G A nL Q bb nb zb h0 ad ln v a kc ks pc lv (.int (iI w) :: .int (iI z) :: .ref bb :: st) := by
  intro L E h
  refine hv2 (show R32 z from ⟨by omega, by omega⟩) (h.2.2) (fun hr hE => ?_)
  unfold xar at hE
  rw [hz, if_neg (by decide)] at hE
  refine q_iast C d List.mem_cons_self hE (iI_in hr h1 h2) (kk L _ (h.loc ?_))
  unfold xar
  rw [hz, if_neg (by decide), iI_cl hr]
  congr 1
  funext j
  unfold upd up2
  rw [if_pos rfl]
  split <;> rfl
theorem x_lzast (C : Cq p s m args meth c cc y ret G A nL) {z w : Int} (d : decode cc pc = .ok (.bastore, 1)) (hz : zb = true) (h1 : 0 ≤ z) (h2 : z < (nb : Nat)) (hm : nb ≤ 100000) (hw : w = 0 ∨ w = 1) (kk : mx p l e R s m args below meth c G A nL Q bb nb zb h0 ad ln v (up2 a 70 z.toNat w) kc ks (pc + 1) lv st) : mx p l e R s m args below meth c G A nL Q bb nb zb h0 ad ln v a kc ks pc lv (.int (iI w) :: .int (iI z) :: .ref bb :: st) := by
  intro L E h
  refine hv2 (show R32 z from ⟨by omega, by omega⟩) (h.2.2) (fun hr hE => ?_)
  unfold xar at hE
  rw [hz, if_pos rfl] at hE
  refine q_zast2 C d List.mem_cons_self hE (iI_in hr h1 h2) (kk L _ (h.loc ?_))
  unfold xar
  rw [hz, if_pos rfl, iI_cl hr, nar_b hw]
  congr 1
  funext j
  unfold upd up2
  rw [if_pos rfl]
  split <;> rfl
theorem x_iret (C : Cq p s m args meth c cc y ret G A nL) {z : Int} (d : decode cc pc = .ok (.ireturn, 1)) (hr : ret = some .int) (h1 : kc ≤ mc) (h2 : ks ≤ ms) (hp : Post (some (.int (iI z))) v a) : mx p l e R s m args below meth c G A nL (MQ below (Qm G A (fun r L2 E2 => ∃ (v2 : Nat → Int) (a2 : Nat → Nat → Int), mI G h0 ad ln v2 a2 L2 E2 ∧ Post r v2 a2)) args s mc ms A) bb nb zb h0 ad ln v a kc ks pc lv [.int (iI z)] := fun L E h => q_iret C d hr h1 h2 ⟨v, a, h.1.cons bb, hp⟩
theorem x_vret (C : Cq p s m args meth c cc y ret G A nL) (d : decode cc pc = .ok (.return_, 1)) (hr : ret = none) (h1 : kc ≤ mc) (h2 : ks ≤ ms) (hp : Post none v a) : mx p l e R s m args below meth c G A nL (MQ below (Qm G A (fun r L2 E2 => ∃ (v2 : Nat → Int) (a2 : Nat → Nat → Int), mI G h0 ad ln v2 a2 L2 E2 ∧ Post r v2 a2)) args s mc ms A) bb nb zb h0 ad ln v a kc ks pc lv [] := fun L E h => q_vret C d hr h1 h2 ⟨v, a, h.1.cons bb, hp⟩
theorem x_call (C : Cq p s m args meth c cc y ret G A nL) {y2 : MethodName} {cc2 : ByteArray} {n2 d2 mc2 ms2 idx k2 : Nat} {ret2 : Option FieldType} {P2 : Option Value → (Nat → Int) → (Nat → Nat → Int) → Prop} {As rest : List Value} (M : Mm l G y2 cc2 n2 ret2 d2 As h0 ad ln v a mc2 ms2 P2) (h70 : ∀ (r : Option Value) (v2 : Nat → Int) (a2 : Nat → Nat → Int), P2 r v2 a2 → a2 70 = a 70) (d : decode cc pc = .ok (.invokevirtual idx, 3)) (hw : Wv y.cls idx y2 cc2 n2 ret2 k2) (hk : As.length = k2) (ck : Ck 13 y2.cls TX12 67 tyX12) (hst : st = As.reverse ++ .ref h0 :: rest) (hcat : (rest.map fun v => v.category).sum ≤ 8) (hR : d2 + 1 ≤ R.frames ∧ 8 + (n2 + 11) + 64 * d2 ≤ R.locals) (hf : kc + mc2 ≤ R.cells ∧ ks + ms2 ≤ R.slots) (kk : ∀ (r : Option Value) (v2 : Nat → Int) (a2 : Nat → Nat → Int), P2 r v2 a2 → mx p l e R s m args below meth c G A nL Q bb nb zb h0 ad ln v2 a2 (kc + mc2) (ks + ms2) (pc + 3) lv (r.toList ++ rest)) : mx p l e R s m args below meth c G A nL Q bb nb zb h0 ad ln v a kc ks pc lv st := fun L E h => q_subV (Lm := [bb]) C (M L E h.1) d hw hk h.1.1 h.1.2.1 ck hst hcat hR hf (fun r L2 E2 E3 ⟨v2, a2, h2, hp⟩ e1 e2 e3 => kk r v2 a2 hp L2 E3 ⟨h2.congr e2 (fun _ _ => rfl), e3 bb List.mem_cons_self, by rw [e1 bb List.mem_cons_self, h70 r v2 a2 hp]; exact h.2.2⟩)
theorem x_callS (C : Cq p s m args meth c cc y ret G A nL) {y2 : MethodName} {cc2 : ByteArray} {n2 d2 idx k2 : Nat} {ret2 : Option FieldType} {r2 : Value} {As rest : List Value} (M : ∀ (L : List Nat) (E : Nat → va_E), Mq l G y2 cc2 n2 ret2 d2 As L E 0 0 (fun r L2 E2 => r = some r2 ∧ L2 = L ∧ E2 = E)) (d : decode cc pc = .ok (.invokestatic idx, 3)) (hw : Ws y.cls idx y2 cc2 n2 ret2 k2) (hk : As.length = k2) (hst : st = As.reverse ++ rest) (hcat : (rest.map fun v => v.category).sum ≤ 8) (hR : d2 + 1 ≤ R.frames ∧ 8 + (n2 + 11) + 64 * d2 ≤ R.locals) (hf : kc ≤ R.cells ∧ ks ≤ R.slots) (kk : mx p l e R s m args below meth c G A nL Q bb nb zb h0 ad ln v a kc ks (pc + 3) lv (r2 :: rest)) : mx p l e R s m args below meth c G A nL Q bb nb zb h0 ad ln v a kc ks pc lv st := fun L E h => q_callS C (M (bb :: L) E) d hw hk hst hcat hR hf (fun r L2 E2 ⟨h1, h2, h3⟩ => by subst h1; subst h2; subst h3; exact kk _ _ h)
theorem q_pool {L L2 : List Nat} {E E2 : Nat → va_E} (h : ∀ q, q ∈ L2 → q ∈ L ∧ E2 q = E q) (hn : L.Nodup → L2.Nodup) (k : wq p l e R s m args below meth c G A nL Q L2 E2 kc ks pc lv st) : wq p l e R s m args below meth c G A nL Q L E kc ks pc lv st := by
  intro H locs ls hP hD hS hl
  have hnd : L.Nodup := by
    unfold List.Nodup
    rw [List.pairwise_iff_getElem]
    intro i j hi hj hij he
    have e1 : (va_pl L E)[i]? = some (L[i], E L[i]) := by unfold va_pl; rw [List.getElem?_map, List.getElem?_eq_getElem hi]; rfl
    have e2 : (va_pl L E)[j]? = some (L[i], E L[i]) := by unfold va_pl; rw [List.getElem?_map, List.getElem?_eq_getElem hj, ← he]; rfl
    have := hD.1 i j _ _ e1 e2 rfl
    omega
  have hn2 := hn hnd
  have key : ∀ (k : Nat) (q : Nat × va_E), (va_pl L2 E2)[k]? = some q → ∃ k2 : Nat, (va_pl L E)[k2]? = some q ∧ L2[k]? = some q.1 := by
    intro k q hq
    unfold va_pl at hq
    rw [List.getElem?_map] at hq
    cases e : L2[k]? with
    | none => rw [e] at hq; cases hq
    | some b =>
      rw [e] at hq
      refine hv2 (show b ∈ L2 from List.mem_of_getElem? e) (show q = (b, E2 b) from (Option.some.inj hq).symm) (fun hb hqe => ?_)
      obtain ⟨k2, hk2⟩ := pl_at (E := E) (h b hb).1
      exact ⟨k2, by rw [hk2, hqe, (h b hb).2], by rw [hqe]⟩
  refine k H locs ls (fun k q hq => ?_) ⟨fun i j a b hi hj hab => ?_, fun k q hq => ?_⟩ hS hl
  · obtain ⟨k2, h2, _⟩ := key k q hq; exact hP k2 q h2
  · obtain ⟨_, _, h1⟩ := key i a hi
    obtain ⟨_, _, h2⟩ := key j b hj
    exact (List.getElem?_inj (List.getElem?_eq_some_iff.mp h1).1 hn2).mp (by rw [h1, h2, hab])
  · obtain ⟨k2, h2, _⟩ := key k q hq; exact hD.2 k2 q h2
theorem nod_c {L : List Nat} {q : Nat} (h : (L ++ [q]).Nodup) : (q :: L).Nodup := by
  rw [List.nodup_append] at h
  exact List.nodup_cons.mpr ⟨fun hq => h.2.2 q hq q List.mem_cons_self rfl, h.1⟩
theorem nod_m {L : List Nat} {q : Nat} : ∀ x, x ∈ q :: L → x ∈ L ++ [q] := by
  intro x hx
  rcases List.mem_cons.mp hx with e | e
  · exact List.mem_append_right _ (by rw [e]; exact List.mem_cons_self)
  · exact List.mem_append_left _ e
def zer70 (a : Nat → Nat → Int) : Nat → Nat → Int := fun k j => if k = 70 then 0 else a k j
theorem zer_fr {v : Nat → Int} {a : Nat → Nat → Int} : fr [] [70] v a v (zer70 a) := ⟨fun _ _ => rfl, fun j hj => funext fun q => by unfold zer70; rw [if_neg (fun e => by subst e; exact absurd hj (by decide))]⟩
theorem zer_bx {v : Nat → Int} {a : Nat → Nat → Int} (h : BX v a) : BX v (zer70 a) := ⟨h.1, fun k j => by unfold zer70; split; rename_i e; subst e; exact ⟨by decide, by decide⟩; exact h.2 k j⟩
theorem new_x {G : GT} {h0 : Nat} {ad ln : Nat → Nat} {v : Nat → Int} {a : Nat → Nat → Int} {L : List Nat} {E : Nat → va_E} {q n : Nat} {zb : Bool} (h : mI G h0 ad ln v a L E) (hq : q ∉ L) : mIx G h0 ad ln q n zb v (zer70 a) L (va_up E q (xar G n zb (fun _ => 0))) :=
  ⟨h.congr (fun x hx => va_up_ne _ _ (fun e => hq (by rw [← e]; exact hx))) (fun k hk => funext fun j => by unfold zer70; rw [if_neg (fun e => by subst e; exact absurd hk (by decide))]), hq, by rw [va_up_self]; rfl⟩
theorem m_newI (C : Cq p s m args meth c cc y ret G A nL) {z : Int} {nb : Nat} (d : decode cc pc = .ok (.newarray .int, 2)) (lk : Cond.arrayClass .int ∈ lw_g) (hz : 0 ≤ z ∧ z ≤ 100000) (hn : nb = z.toNat) (hf : kc + 1 ≤ R.cells ∧ ks + nb ≤ R.slots) (hB : BX v a) (kk : ∀ (bb : Nat) (v2 : Nat → Int) (a2 : Nat → Nat → Int), fr [] [70] v a v2 a2 → BX v2 a2 → (∀ j, a2 70 j = 0) → mx p l e R s m args below meth c G A nL Q bb nb false h0 ad ln v2 a2 (kc + 1) (ks + nb) (pc + 2) lv (.ref bb :: st)) : mw p l e R s m args below meth c G A nL Q h0 ad ln v a kc ks pc lv (.int (iI z) :: st) := by
  intro L E h
  have hr : R32 z := ⟨by omega, by omega⟩
  refine q_newaI (N := nb) C d lk (fun q => by have := (iI_lt hr R32_0).mp q; omega) (by rw [iI_cl hr, hn]) (by omega) hf (fun q hq => ?_)
  refine q_pool (L2 := q :: L) (fun x hx => ⟨nod_m x hx, rfl⟩) nod_c ?_
  exact kk q v (zer70 a) zer_fr (zer_bx hB) (fun j => rfl) L _ (new_x (zb := false) h hq)
theorem m_newZ (C : Cq p s m args meth c cc y ret G A nL) {z : Int} {nb : Nat} (d : decode cc pc = .ok (.newarray .boolean, 2)) (lk : Cond.arrayClass .boolean ∈ lw_g) (hz : 0 ≤ z ∧ z ≤ 100000) (hn : nb = z.toNat) (hf : kc + 1 ≤ R.cells ∧ ks + nb ≤ R.slots) (hB : BX v a) (kk : ∀ (bb : Nat) (v2 : Nat → Int) (a2 : Nat → Nat → Int), fr [] [70] v a v2 a2 → BX v2 a2 → (∀ j, a2 70 j = 0) → mx p l e R s m args below meth c G A nL Q bb nb true h0 ad ln v2 a2 (kc + 1) (ks + nb) (pc + 2) lv (.ref bb :: st)) : mw p l e R s m args below meth c G A nL Q h0 ad ln v a kc ks pc lv (.int (iI z) :: st) := by
  intro L E h
  have hr : R32 z := ⟨by omega, by omega⟩
  refine q_newaZ (N := nb) C d lk (fun q => by have := (iI_lt hr R32_0).mp q; omega) (by rw [iI_cl hr, hn]) (by omega) hf (fun q hq => ?_)
  refine q_pool (L2 := q :: L) (fun x hx => ⟨nod_m x hx, rfl⟩) nod_c ?_
  exact kk q v (zer70 a) zer_fr (zer_bx hB) (fun j => rfl) L _ (new_x (zb := true) h hq)
def sw18 (a : Nat → Nat → Int) : Nat → Nat → Int := fun k => if k = 18 then a 70 else a k
theorem mI.sw {L : List Nat} {E : Nat → va_E} (h : mIx G h0 ad ln bb nb false v a L E) (hn : 64 ≤ nb ∧ nb ≤ 8192) : mI G h0 (va_up ad 18 bb) (va_up ln 18 nb) v (sw18 a) (bb :: L) (va_up E h0 (ob 13 67 (va_up (mfv ad v) 18 (.ref bb)))) := by
  obtain ⟨⟨h1, h2, h3, h4, h5, h6, h7⟩, hb, hE⟩ := h
  have hbh : bb ≠ h0 := fun e => hb (by rw [e]; exact h1)
  refine ⟨List.mem_cons_of_mem _ h1, ?_, fun j hj => ?_, fun k hk => ?_, fun i j hi hj hij => ?_, fun k hk => ?_, ?_⟩
  · rw [va_up_self]
    congr 1
    funext j
    by_cases e : j = 18
    · subst e; rw [va_up_self]; unfold mfv; rw [if_pos (show mA 18 = true from rfl), va_up_self]
    · rw [va_up_ne _ _ e]; unfold mfv; rw [va_up_ne _ _ e]
  · by_cases e : j = 18
    · subst e
      rw [va_up_self, va_up_self, va_up_ne _ _ hbh, hE]
      exact ⟨List.mem_cons_self, rfl⟩
    · rw [va_up_ne _ _ e, va_up_ne _ _ e, va_up_ne _ _ (Ne.symm (h4 j hj)), show sw18 a j = a j from if_neg e]
      exact ⟨List.mem_cons_of_mem _ (h3 j hj).1, (h3 j hj).2⟩
  · by_cases e : k = 18
    · subst e; rw [va_up_self]; exact hbh.symm
    · rw [va_up_ne _ _ e]; exact h4 k hk
  · by_cases e1 : i = 18
    · by_cases e2 : j = 18
      · rw [e1, e2]
      · subst e1; rw [va_up_self, va_up_ne _ _ e2] at hij
        exact absurd (h3 j hj).1 (by rw [← hij]; exact hb)
    · by_cases e2 : j = 18
      · subst e2; rw [va_up_self, va_up_ne _ _ e1] at hij
        exact absurd (h3 i hi).1 (by rw [hij]; exact hb)
      · rw [va_up_ne _ _ e1, va_up_ne _ _ e2] at hij; exact h5 i j hi hj hij
  · rw [va_up_ne _ _ hk]; exact h6 k hk
  · rw [va_up_self]; exact hn
theorem x_sw (C : Cq p s m args meth c cc y ret G A nL) {idx : Nat} (d : decode cc pc = .ok (.putfield idx, 3)) (lk : Cond.fieldLink y.cls idx (TX12 18).1 (TX12 18).2.1 (TX12 18).2.2.1 ∈ lw_g) (hz : zb = false) (hn : 64 ≤ nb ∧ nb ≤ 8192) (kk : ∀ (ad2 ln2 : Nat → Nat) (a2 : Nat → Nat → Int), ln2 18 = nb → a2 18 = a 70 → (∀ k, k ≠ 18 → a2 k = a k) → mw p l e R s m args below meth c G A nL Q h0 ad2 ln2 v a2 kc ks (pc + 3) lv st) : mx p l e R s m args below meth c G A nL Q bb nb zb h0 ad ln v a kc ks pc lv (.ref bb :: .ref h0 :: st) := by
  subst hz
  intro L E h
  exact q_put (k := 18) C ck_13 d lk (by decide) rfl (List.mem_cons_of_mem _ h.1.1) h.1.2.1 rfl rfl (kk (va_up ad 18 bb) (va_up ln 18 nb) (sw18 a) (va_up_self _ _ _) rfl (fun k hk => if_neg hk) _ _ (mI.sw h hn))
end MQ3
end
section
def ATS (v : Nat → Int) (a : Nat → Nat → Int) : Prop := ∀ j : Nat, 0 ≤ a 70 j ∧ (a 70 j = 0 ∨ a 70 j < v 66)
theorem ATS.put {v : Nat → Int} {a : Nat → Nat → Int} (h : ATS v a) {k : Nat} {z : Int} (hk : k ≠ 66) : ATS (va_up v k z) a := fun j => by rw [va_up_ne _ _ (Ne.symm hk)]; exact h j
theorem ATS.set {v : Nat → Int} {a : Nat → Nat → Int} (h : ATS v a) {k i : Nat} {z : Int} (hk : k ≠ 70) : ATS v (up2 a k i z) := fun j => by rw [up2_k (Ne.symm hk)]; exact h j
theorem ATS.sto {v : Nat → Int} {a : Nat → Nat → Int} (h : ATS v a) {i : Nat} {z : Int} (hz : 0 ≤ z ∧ (z = 0 ∨ z < v 66)) : ATS v (up2 a 70 i z) := fun j => by
  by_cases e : j = i
  · subst e; rw [up2_s]; exact hz
  · rw [up2_j e]; exact h j
theorem ATS.fr {V A : List Nat} {v v2 : Nat → Int} {a a2 : Nat → Nat → Int} (h : ATS v a) (f : fr V A v a v2 a2) (h1 : V.contains 66 = false) (h2 : A.contains 70 = false) : ATS v2 a2 := fun j => by rw [f.1 66 h1, f.2 70 h2]; exact h j
set_option maxHeartbeats 4000000 in
set_option maxRecDepth 100000 in
theorem M_gatherSigns {l : Launch} {G : GT} {h0 : Nat} {ad ln : Nat → Nat} {v : Nat → Int} {a : Nat → Nat → Int} {t : Int} (hB : BX v a) (ht : 0 ≤ t ∧ t < 30) : Mm l G yX12_gatherSigns cX12_gatherSigns 8 none 1 [.int (iI t)] h0 ad ln v a 1 256 (fun r v2 a2 => r = none ∧ fr [66] [65, 70] v a v2 a2 ∧ BX v2 a2 ∧ (True)) := by
  refine Mm.mk (by decide) (Nat.le_of_ble_eq_true rfl) ?_
  intro p e s m args below meth c A C
  have fp0 : fr [66] [65, 70] v a v a := fr.refl
  refine m_sipush (z := 256) C dX12_gatherSigns_0 (by decide) ?_
  refine m_newZ (z := 256) (nb := 256) C dX12_gatherSigns_3 w1_129 ⟨by omega, by omega⟩ rfl ⟨Nat.le_of_ble_eq_true rfl, Nat.le_of_ble_eq_true rfl⟩ hB (fun bb vw1 aw1 fnw1 bnw1 znw1 => ?_)
  have fqw1 := fp0.call fnw1 rfl rfl
  refine x_astore_n (lv2 := [(2, .ref bb), (0, .ref h0), (1, .int (iI t))]) C dX12_gatherSigns_5 (by decide) rfl ?_
  refine x_iconst C dX12_gatherSigns_6 ?_
  refine x_istore_n (lv2 := [(3, .int (iI 0)), (2, .ref bb), (0, .ref h0), (1, .int (iI t))]) C dX12_gatherSigns_7 (by decide) rfl ?_
  have Lp1 : ∀ (nn : Nat) (pt : Int) (vb1 : Nat → Int) (ab1 : Nat → Nat → Int), 3 - pt < (nn : Int) → BX vb1 ab1 → fr [66] [65, 70] v a vb1 ab1 → (0 ≤ pt ∧ pt ≤ 2) → mx p l e (rmq 1 1 256) s m args below meth c G A 8 (MQ below (Qm G A (fun rq Lq Eq => ∃ (vq : Nat → Int) (aq : Nat → Nat → Int), mI G h0 ad ln vq aq Lq Eq ∧ (fun r v2 a2 => r = none ∧ fr [66] [65, 70] v a v2 a2 ∧ BX v2 a2 ∧ (True)) rq vq aq)) args s 1 256 A) bb 256 true h0 ad ln vb1 ab1 (0 + 1) (0 + 256) 8 [(3, .int (iI pt)), (2, .ref bb), (0, .ref h0), (1, .int (iI t))] [] := by
    intro nn
    induction nn with
    | zero =>
      intro pt vb1 ab1 hm bxb1 fpb1 hp
      exact absurd hm (by omega)
    | succ nn ih1 =>
      intro pt vb1 ab1 hm bxb1 fpb1 hp
      refine x_iload_n (j := 0) C dX12_gatherSigns_8 rfl ?_
      refine x_iconst C dX12_gatherSigns_9 ?_
      refine x_icmp_ge (tgt := 120) C (r32_c (lo := 0) (hi := 2) hp.1 hp.2 (by decide) (by decide)) ⟨by decide, by decide⟩ dX12_gatherSigns_10 (by decide) (fun c1 => ?_) (fun c1 => ?_)
      · refine x_aload_n (j := 2) C dX12_gatherSigns_120 rfl ?_
        refine x_geta (k := 6) C dX12_gatherSigns_121 w6_65 (by decide) rfl ?_
        refine x_iload_n (j := 3) C dX12_gatherSigns_124 rfl ?_
        refine x_ald (k := 6) C dX12_gatherSigns_125 rfl rfl (by decide) (by omega) (by show _ < ((_ : Nat) : Int); simp only [mlen]; omega) (by decide) ?_
        refine hv2 (show 0 ≤ ab1 6 t.toNat ∧ ab1 6 t.toNat ≤ 5 from bxb1.2 6 (t.toNat)) (show ab1 6 (t.toNat) = a 6 (t.toNat) from congrFun (fpb1.2 6 rfl) (t.toNat)) (fun ra1 ae1 => ?_)
        refine x_st (st2 := [.int (iI (a 6 t.toNat))]) (congrArg (fun z => Value.int (iI z) :: []) (congrFun (fpb1.2 6 rfl) (t.toNat))) ?_
        refine x_iconst C dX12_gatherSigns_126 ?_
        have J1 : ∀ (vb2 : Nat → Int) (ab2 : Nat → Nat → Int), BX vb2 ab2 → fr [66] [65, 70] v a vb2 ab2 → mx p l e (rmq 1 1 256) s m args below meth c G A 8 (MQ below (Qm G A (fun rq Lq Eq => ∃ (vq : Nat → Int) (aq : Nat → Nat → Int), mI G h0 ad ln vq aq Lq Eq ∧ (fun r v2 a2 => r = none ∧ fr [66] [65, 70] v a v2 a2 ∧ BX v2 a2 ∧ (True)) rq vq aq)) args s 1 256 A) bb 256 true h0 ad ln vb2 ab2 (0 + 1) (0 + 256) 140 [(3, .int (iI pt)), (2, .ref bb), (0, .ref h0), (1, .int (iI t))] [] := by
          intro  vb2 ab2 bxb2 fpb2 
          refine x_aload_n (j := 2) C dX12_gatherSigns_140 rfl ?_
          refine x_iconst C dX12_gatherSigns_141 ?_
          refine x_put (k := 66) (z := 0) C dX12_gatherSigns_142 w6_125 (by decide) rfl rfl rfl ?_
          refine hv2 (show BX (va_up vb2 66 0) ab2 from bxb2.put (k := 66) (z := 0) ⟨by decide, by decide⟩) (fpb2.put (k := 66) (z := 0) rfl) (fun bq1 fq1 => ?_)
          refine x_iconst C dX12_gatherSigns_145 ?_
          refine x_istore_n (lv2 := [(3, .int (iI 0)), (2, .ref bb), (0, .ref h0), (1, .int (iI t))]) C dX12_gatherSigns_146 (by decide) rfl ?_
          have Lp2 : ∀ (nn : Nat) (k1 : Int) (vb3 : Nat → Int) (ab3 : Nat → Nat → Int), 257 - k1 < (nn : Int) → BX vb3 ab3 → fr [66] [65, 70] v a vb3 ab3 → (0 ≤ k1 ∧ k1 ≤ 256) → (vb3 66 ≤ k1) → mx p l e (rmq 1 1 256) s m args below meth c G A 8 (MQ below (Qm G A (fun rq Lq Eq => ∃ (vq : Nat → Int) (aq : Nat → Nat → Int), mI G h0 ad ln vq aq Lq Eq ∧ (fun r v2 a2 => r = none ∧ fr [66] [65, 70] v a v2 a2 ∧ BX v2 a2 ∧ (True)) rq vq aq)) args s 1 256 A) bb 256 true h0 ad ln vb3 ab3 (0 + 1) (0 + 256) 147 [(3, .int (iI k1)), (2, .ref bb), (0, .ref h0), (1, .int (iI t))] [] := by
            intro nn
            induction nn with
            | zero =>
              intro k1 vb3 ab3 hm bxb3 fpb3 hk1 h66
              exact absurd hm (by omega)
            | succ nn ih2 =>
              intro k1 vb3 ab3 hm bxb3 fpb3 hk1 h66
              refine x_iload_n (j := 0) C dX12_gatherSigns_147 rfl ?_
              refine x_sipush (z := 256) C dX12_gatherSigns_148 (by decide) ?_
              refine x_icmp_ge (tgt := 189) C (r32_c (lo := 0) (hi := 256) hk1.1 hk1.2 (by decide) (by decide)) ⟨by decide, by decide⟩ dX12_gatherSigns_151 (by decide) (fun c2 => ?_) (fun c2 => ?_)
              · exact x_vret C dX12_gatherSigns_189 rfl (Nat.le_of_ble_eq_true rfl) (Nat.le_of_ble_eq_true rfl) ⟨rfl, fpb3, bxb3, trivial⟩
              · refine x_aload_n (j := 1) C dX12_gatherSigns_154 rfl ?_
                refine x_iload_n (j := 0) C dX12_gatherSigns_155 rfl ?_
                refine x_lzald C dX12_gatherSigns_156 rfl (by omega) (by omega) (by decide) ?_
                have ra2 : (-2147483648) ≤ ab3 70 k1.toNat ∧ ab3 70 k1.toNat ≤ 2147483647 := bxb3.2 70 (k1.toNat)
                refine x_if_ne (tgt := 163) C (r32_c (lo := (-2147483648)) (hi := 2147483647) ra2.1 ra2.2 (by decide) (by decide)) dX12_gatherSigns_157 (by decide) (fun c3 => ?_) (fun c3 => ?_)
                · refine x_aload_n (j := 2) C dX12_gatherSigns_163 rfl ?_
                  refine x_geta (k := 65) C dX12_gatherSigns_164 w6_124 (by decide) rfl ?_
                  refine x_aload_n (j := 2) C dX12_gatherSigns_167 rfl ?_
                  have rv1 : 0 ≤ vb3 66 ∧ vb3 66 ≤ 256 := bxb3.1 66
                  refine x_get (k := 66) C dX12_gatherSigns_168 w6_125 (by decide) rfl ?_
                  refine x_iload_n (j := 0) C dX12_gatherSigns_171 rfl ?_
                  refine x_ast (k := 65) C dX12_gatherSigns_172 rfl rfl (by decide) (by omega) (by show _ < ((_ : Nat) : Int); simp only [mlen]; omega) (by decide) ?_
                  refine hv2 (show BX vb3 (up2 ab3 65 (vb3 66).toNat k1) from bxb3.set (k := 65) (i := (vb3 66).toNat) (z := k1) (show 0 ≤ k1 ∧ k1 ≤ 255 by omega)) (fpb3.set (k := 65) (i := (vb3 66).toNat) (z := k1) rfl) (fun bq2 fq2 => ?_)
                  refine x_aload_n (j := 2) C dX12_gatherSigns_173 rfl ?_
                  refine x_dup C dX12_gatherSigns_174 rfl ?_
                  refine x_get (k := 66) C dX12_gatherSigns_175 w6_125 (by decide) rfl ?_
                  refine x_iconst C dX12_gatherSigns_178 ?_
                  refine x_iadd C dX12_gatherSigns_179 ?_
                  refine x_put (k := 66) (z := (vb3 66) + 1) C dX12_gatherSigns_180 w6_125 (by decide) rfl rfl rfl ?_
                  refine hv2 (show BX (va_up vb3 66 ((vb3 66) + 1)) (up2 ab3 65 (vb3 66).toNat k1) from bq2.put (k := 66) (z := (vb3 66) + 1) (show 0 ≤ ((vb3 66) + 1) ∧ ((vb3 66) + 1) ≤ 256 by omega)) (fq2.put (k := 66) (z := (vb3 66) + 1) rfl) (fun bq3 fq3 => ?_)
                  refine x_iinc (z := k1) (j := 0) (lv2 := [(3, .int (iI (k1 + 1))), (2, .ref bb), (0, .ref h0), (1, .int (iI t))]) C dX12_gatherSigns_183 rfl (by decide) rfl ?_
                  refine x_goto (tgt := 147) C dX12_gatherSigns_186 (by decide) ?_
                  refine x_lv (lv2 := [(3, .int (iI (k1 + 1))), (2, .ref bb), (0, .ref h0), (1, .int (iI t))]) [0, 1, 2, 3] rfl ?_
                  exact ih2  (k1 + 1) _ _ (by omega) bq3 fq3 (by omega) (by show ((vb3 66) + 1) ≤ (k1 + 1); omega)
                · refine x_goto (tgt := 183) C dX12_gatherSigns_160 (by decide) ?_
                  refine x_iinc (z := k1) (j := 0) (lv2 := [(3, .int (iI (k1 + 1))), (2, .ref bb), (0, .ref h0), (1, .int (iI t))]) C dX12_gatherSigns_183 rfl (by decide) rfl ?_
                  refine x_goto (tgt := 147) C dX12_gatherSigns_186 (by decide) ?_
                  have rv2 : 0 ≤ vb3 66 ∧ vb3 66 ≤ 256 := bxb3.1 66
                  refine x_lv (lv2 := [(3, .int (iI (k1 + 1))), (2, .ref bb), (0, .ref h0), (1, .int (iI t))]) [0, 1, 2, 3] rfl ?_
                  exact ih2  (k1 + 1) _ _ (by omega) bxb3 fpb3 (by omega) (by show (vb3 66) ≤ (k1 + 1); omega)
          refine x_lv (lv2 := [(3, .int (iI 0)), (2, .ref bb), (0, .ref h0), (1, .int (iI t))]) [0, 1, 2, 3] rfl ?_
          exact Lp2 258 0 _ _ (by omega) bq1 fq1 (by omega) (by show 0 ≤ 0; omega)
        refine x_icmp_ne (tgt := 140) C ⟨by omega, by omega⟩ ⟨by decide, by decide⟩ dX12_gatherSigns_127 (by decide) (fun c4 => ?_) (fun c4 => ?_)
        · refine x_lv (lv2 := [(3, .int (iI pt)), (2, .ref bb), (0, .ref h0), (1, .int (iI t))]) [0, 1, 2, 3] rfl ?_
          exact J1   _ _  bxb1 fpb1 
        · refine x_aload_n (j := 1) C dX12_gatherSigns_130 rfl ?_
          refine x_bipush (z := 60) C dX12_gatherSigns_131 (by decide) ?_
          refine x_iconst C dX12_gatherSigns_133 ?_
          refine x_lzast (w := 1) C dX12_gatherSigns_134 rfl (by omega) (by omega) (by decide) (by omega) ?_
          refine hv2 (show BX vb1 (up2 ab1 70 (60 : Int).toNat 1) from bxb1.set (k := 70) (i := (60 : Int).toNat) (z := 1) ⟨by decide, by decide⟩) (fpb1.set (k := 70) (i := (60 : Int).toNat) (z := 1) rfl) (fun bq4 fq4 => ?_)
          refine x_aload_n (j := 1) C dX12_gatherSigns_135 rfl ?_
          refine x_bipush (z := 62) C dX12_gatherSigns_136 (by decide) ?_
          refine x_iconst C dX12_gatherSigns_138 ?_
          refine x_lzast (w := 1) C dX12_gatherSigns_139 rfl (by omega) (by omega) (by decide) (by omega) ?_
          refine hv2 (show BX vb1 (up2 (up2 ab1 70 (60 : Int).toNat 1) 70 (62 : Int).toNat 1) from bq4.set (k := 70) (i := (62 : Int).toNat) (z := 1) ⟨by decide, by decide⟩) (fq4.set (k := 70) (i := (62 : Int).toNat) (z := 1) rfl) (fun bq5 fq5 => ?_)
          refine x_lv (lv2 := [(3, .int (iI pt)), (2, .ref bb), (0, .ref h0), (1, .int (iI t))]) [0, 1, 2, 3] rfl ?_
          exact J1   _ _  bq5 fq5 
      · refine x_sipush (z := 6008) C dX12_gatherSigns_13 (by decide) ?_
        refine x_iload_n (j := 0) C dX12_gatherSigns_16 rfl ?_
        refine x_imul C dX12_gatherSigns_17 ?_
        refine x_istore (lv2 := [(4, .int (iI (6008 * pt))), (3, .int (iI pt)), (2, .ref bb), (0, .ref h0), (1, .int (iI t))]) C dX12_gatherSigns_18 (by decide) rfl ?_
        have Lp3 : ∀ (nn : Nat) (r : Int) (vb4 : Nat → Int) (ab4 : Nat → Nat → Int), 6008 * pt + 6009 - r < (nn : Int) → BX vb4 ab4 → fr [66] [65, 70] v a vb4 ab4 → (6008 * pt ≤ r ∧ r ≤ 6008 * pt + 6008) → mx p l e (rmq 1 1 256) s m args below meth c G A 8 (MQ below (Qm G A (fun rq Lq Eq => ∃ (vq : Nat → Int) (aq : Nat → Nat → Int), mI G h0 ad ln vq aq Lq Eq ∧ (fun r v2 a2 => r = none ∧ fr [66] [65, 70] v a v2 a2 ∧ BX v2 a2 ∧ (True)) rq vq aq)) args s 1 256 A) bb 256 true h0 ad ln vb4 ab4 (0 + 1) (0 + 256) 20 [(4, .int (iI r)), (3, .int (iI pt)), (2, .ref bb), (0, .ref h0), (1, .int (iI t))] [] := by
          intro nn
          induction nn with
          | zero =>
            intro r vb4 ab4 hm bxb4 fpb4 hr
            exact absurd hm (by omega)
          | succ nn ih3 =>
            intro r vb4 ab4 hm bxb4 fpb4 hr
            refine x_iload (j := 0) C dX12_gatherSigns_20 rfl ?_
            refine x_sipush (z := 6008) C dX12_gatherSigns_22 (by decide) ?_
            refine x_iload_n (j := 1) C dX12_gatherSigns_25 rfl ?_
            refine x_imul C dX12_gatherSigns_26 ?_
            refine x_aload_n (j := 3) C dX12_gatherSigns_27 rfl ?_
            refine x_geta (k := 47) C dX12_gatherSigns_28 w6_106 (by decide) rfl ?_
            refine x_iload_n (j := 1) C dX12_gatherSigns_31 rfl ?_
            refine x_ald (k := 47) C dX12_gatherSigns_32 rfl rfl (by decide) (by omega) (by show _ < ((_ : Nat) : Int); simp only [mlen]; omega) (by decide) ?_
            refine hv2 (show 0 ≤ ab4 47 pt.toNat ∧ ab4 47 pt.toNat ≤ 6008 from bxb4.2 47 (pt.toNat)) (show ab4 47 (pt.toNat) = a 47 (pt.toNat) from congrFun (fpb4.2 47 rfl) (pt.toNat)) (fun ra3 ae2 => ?_)
            refine x_st (st2 := [.int (iI (a 47 pt.toNat)), .int (iI (6008 * pt)), .int (iI r)]) (congrArg (fun z => Value.int (iI z) :: [.int (iI (6008 * pt)), .int (iI r)]) (congrFun (fpb4.2 47 rfl) (pt.toNat))) ?_
            refine x_iadd C dX12_gatherSigns_33 ?_
            refine x_icmp_ge (tgt := 114) C ⟨by omega, by omega⟩ ⟨by omega, by omega⟩ dX12_gatherSigns_34 (by decide) (fun c5 => ?_) (fun c5 => ?_)
            · refine x_iinc (z := pt) (j := 1) (lv2 := [(3, .int (iI (pt + 1))), (4, .int (iI r)), (2, .ref bb), (0, .ref h0), (1, .int (iI t))]) C dX12_gatherSigns_114 rfl (by decide) rfl ?_
              refine x_goto (tgt := 8) C dX12_gatherSigns_117 (by decide) ?_
              refine x_lv (lv2 := [(3, .int (iI (pt + 1))), (2, .ref bb), (0, .ref h0), (1, .int (iI t))]) [0, 2, 3, 4] rfl ?_
              exact ih1  (pt + 1) _ _ (by omega) bxb4 fpb4 (by omega)
            · refine x_aload_n (j := 3) C dX12_gatherSigns_37 rfl ?_
              refine x_geta (k := 44) C dX12_gatherSigns_38 w6_103 (by decide) rfl ?_
              refine x_iload (j := 0) C dX12_gatherSigns_41 rfl ?_
              refine x_ald (k := 44) C dX12_gatherSigns_43 rfl rfl (by decide) (by omega) (by show _ < ((_ : Nat) : Int); simp only [mlen]; omega) (by decide) ?_
              refine hv2 (show (-4) ≤ ab4 44 r.toNat ∧ ab4 44 r.toNat ≤ 5999 from bxb4.2 44 (r.toNat)) (show ab4 44 (r.toNat) = a 44 (r.toNat) from congrFun (fpb4.2 44 rfl) (r.toNat)) (fun ra4 ae3 => ?_)
              refine x_st (st2 := [.int (iI (a 44 r.toNat))]) (congrArg (fun z => Value.int (iI z) :: []) (congrFun (fpb4.2 44 rfl) (r.toNat))) ?_
              refine x_istore (lv2 := [(5, .int (iI (a 44 r.toNat))), (4, .int (iI r)), (3, .int (iI pt)), (2, .ref bb), (0, .ref h0), (1, .int (iI t))]) C dX12_gatherSigns_44 (by decide) rfl ?_
              refine x_iconst C dX12_gatherSigns_46 ?_
              refine x_istore (lv2 := [(6, .int (iI 0)), (5, .int (iI (a 44 r.toNat))), (4, .int (iI r)), (3, .int (iI pt)), (2, .ref bb), (0, .ref h0), (1, .int (iI t))]) C dX12_gatherSigns_47 (by decide) rfl ?_
              have Lp4 : ∀ (nn : Nat) (k : Int) (vb5 : Nat → Int) (ab5 : Nat → Nat → Int), 9 - k < (nn : Int) → BX vb5 ab5 → fr [66] [65, 70] v a vb5 ab5 → (0 ≤ k ∧ k ≤ 8) → mx p l e (rmq 1 1 256) s m args below meth c G A 8 (MQ below (Qm G A (fun rq Lq Eq => ∃ (vq : Nat → Int) (aq : Nat → Nat → Int), mI G h0 ad ln vq aq Lq Eq ∧ (fun r v2 a2 => r = none ∧ fr [66] [65, 70] v a v2 a2 ∧ BX v2 a2 ∧ (True)) rq vq aq)) args s 1 256 A) bb 256 true h0 ad ln vb5 ab5 (0 + 1) (0 + 256) 49 [(6, .int (iI k)), (5, .int (iI (a 44 r.toNat))), (4, .int (iI r)), (3, .int (iI pt)), (2, .ref bb), (0, .ref h0), (1, .int (iI t))] [] := by
                intro nn
                induction nn with
                | zero =>
                  intro k vb5 ab5 hm bxb5 fpb5 hk
                  exact absurd hm (by omega)
                | succ nn ih4 =>
                  intro k vb5 ab5 hm bxb5 fpb5 hk
                  refine x_iload (j := 1) C dX12_gatherSigns_49 rfl ?_
                  refine x_if_lt (tgt := 108) C ⟨by omega, by omega⟩ dX12_gatherSigns_51 (by decide) (fun c6 => ?_) (fun c6 => ?_)
                  · refine x_iinc (z := r) (j := 2) (lv2 := [(4, .int (iI (r + 1))), (6, .int (iI k)), (5, .int (iI (a 44 r.toNat))), (3, .int (iI pt)), (2, .ref bb), (0, .ref h0), (1, .int (iI t))]) C dX12_gatherSigns_108 rfl (by decide) rfl ?_
                    refine x_goto (tgt := 20) C dX12_gatherSigns_111 (by decide) ?_
                    refine x_lv (lv2 := [(4, .int (iI (r + 1))), (3, .int (iI pt)), (2, .ref bb), (0, .ref h0), (1, .int (iI t))]) [0, 3, 4, 5, 6] rfl ?_
                    exact ih3  (r + 1) _ _ (by omega) bxb5 fpb5 (by omega)
                  · refine x_iload (j := 0) C dX12_gatherSigns_54 rfl ?_
                    refine x_aload_n (j := 5) C dX12_gatherSigns_56 rfl ?_
                    refine x_geta (k := 12) C dX12_gatherSigns_57 w6_71 (by decide) rfl ?_
                    refine x_iload (j := 1) C dX12_gatherSigns_60 rfl ?_
                    refine x_ald (k := 12) C dX12_gatherSigns_62 rfl rfl (by decide) (by omega) (by show _ < ((_ : Nat) : Int); simp only [mlen]; omega) (by decide) ?_
                    refine hv2 (show 0 ≤ ab5 12 (a 44 r.toNat).toNat ∧ ab5 12 (a 44 r.toNat).toNat ≤ 8 from bxb5.2 12 ((a 44 r.toNat).toNat)) (show ab5 12 ((a 44 r.toNat).toNat) = a 12 ((a 44 r.toNat).toNat) from congrFun (fpb5.2 12 rfl) ((a 44 r.toNat).toNat)) (fun ra5 ae4 => ?_)
                    refine x_st (st2 := [.int (iI (a 12 (a 44 r.toNat).toNat)), .int (iI k)]) (congrArg (fun z => Value.int (iI z) :: [.int (iI k)]) (congrFun (fpb5.2 12 rfl) ((a 44 r.toNat).toNat))) ?_
                    refine x_icmp_ge (tgt := 108) C (r32_c (lo := 0) (hi := 8) hk.1 hk.2 (by decide) (by decide)) ⟨by omega, by omega⟩ dX12_gatherSigns_63 (by decide) (fun c7 => ?_) (fun c7 => ?_)
                    · refine x_iinc (z := r) (j := 2) (lv2 := [(4, .int (iI (r + 1))), (6, .int (iI k)), (5, .int (iI (a 44 r.toNat))), (3, .int (iI pt)), (2, .ref bb), (0, .ref h0), (1, .int (iI t))]) C dX12_gatherSigns_108 rfl (by decide) rfl ?_
                      refine x_goto (tgt := 20) C dX12_gatherSigns_111 (by decide) ?_
                      refine x_lv (lv2 := [(4, .int (iI (r + 1))), (3, .int (iI pt)), (2, .ref bb), (0, .ref h0), (1, .int (iI t))]) [0, 3, 4, 5, 6] rfl ?_
                      exact ih3  (r + 1) _ _ (by omega) bxb5 fpb5 (by omega)
                    · refine x_aload_n (j := 5) C dX12_gatherSigns_66 rfl ?_
                      refine x_geta (k := 14) C dX12_gatherSigns_67 w6_73 (by decide) rfl ?_
                      refine x_bipush (z := 8) C dX12_gatherSigns_70 (by decide) ?_
                      refine x_iload (j := 1) C dX12_gatherSigns_72 rfl ?_
                      refine x_imul C dX12_gatherSigns_74 ?_
                      refine x_iload (j := 0) C dX12_gatherSigns_75 rfl ?_
                      refine x_iadd C dX12_gatherSigns_77 ?_
                      refine x_ald (k := 14) C dX12_gatherSigns_78 rfl rfl (by decide) (by omega) (by show _ < ((_ : Nat) : Int); simp only [mlen]; omega) (by decide) ?_
                      refine hv2 (show 0 ≤ ab5 14 ((8 * (a 44 r.toNat)) + k).toNat ∧ ab5 14 ((8 * (a 44 r.toNat)) + k).toNat ≤ 125 from bxb5.2 14 (((8 * (a 44 r.toNat)) + k).toNat)) (show ab5 14 (((8 * (a 44 r.toNat)) + k).toNat) = a 14 (((8 * (a 44 r.toNat)) + k).toNat) from congrFun (fpb5.2 14 rfl) (((8 * (a 44 r.toNat)) + k).toNat)) (fun ra6 ae5 => ?_)
                      refine x_st (st2 := [.int (iI (a 14 ((8 * (a 44 r.toNat)) + k).toNat))]) (congrArg (fun z => Value.int (iI z) :: []) (congrFun (fpb5.2 14 rfl) (((8 * (a 44 r.toNat)) + k).toNat))) ?_
                      refine x_istore (lv2 := [(7, .int (iI (a 14 ((8 * (a 44 r.toNat)) + k).toNat))), (6, .int (iI k)), (5, .int (iI (a 44 r.toNat))), (4, .int (iI r)), (3, .int (iI pt)), (2, .ref bb), (0, .ref h0), (1, .int (iI t))]) C dX12_gatherSigns_79 (by decide) rfl ?_
                      refine x_aload_n (j := 5) C dX12_gatherSigns_81 rfl ?_
                      refine x_iload (j := 0) C dX12_gatherSigns_82 rfl ?_
                      refine x_iconst C dX12_gatherSigns_84 ?_
                      refine x_lzast (w := 1) C dX12_gatherSigns_85 rfl (by omega) (by omega) (by decide) (by omega) ?_
                      refine hv2 (show BX vb5 (up2 ab5 70 (a 14 ((8 * (a 44 r.toNat)) + k).toNat).toNat 1) from bxb5.set (k := 70) (i := (a 14 ((8 * (a 44 r.toNat)) + k).toNat).toNat) (z := 1) ⟨by decide, by decide⟩) (fpb5.set (k := 70) (i := (a 14 ((8 * (a 44 r.toNat)) + k).toNat).toNat) (z := 1) rfl) (fun bq6 fq6 => ?_)
                      refine x_iload (j := 0) C dX12_gatherSigns_86 rfl ?_
                      refine x_callS (As := [.int (iI (a 14 ((8 * (a 44 r.toNat)) + k).toNat))]) (rest := []) C (fun L E => s_isSmall (iI (a 14 ((8 * (a 44 r.toNat)) + k).toNat))) dX12_gatherSigns_88 kS_X12_208 rfl rfl (Nat.le_of_ble_eq_true rfl) ⟨Nat.le_of_ble_eq_true rfl, Nat.le_of_ble_eq_true rfl⟩ ⟨Nat.le_of_ble_eq_true rfl, Nat.le_of_ble_eq_true rfl⟩ ?_
                      rcases inn_c (x := a 14 ((8 * (a 44 r.toNat)) + k).toNat) (lo := 97) (hi := 122) ⟨by omega, by omega⟩ ⟨by decide, by decide⟩ ⟨by decide, by decide⟩ with ⟨h1a, h1b, h1e⟩ | ⟨h1a, h1e⟩
                      · refine x_st (st2 := [.int (iI 1)]) (by rw [show inn (iI (a 14 ((8 * (a 44 r.toNat)) + k).toNat)) 97 122 = iI 1 from h1e]) ?_
                        refine x_if_eq (tgt := 102) C ⟨by decide, by decide⟩ dX12_gatherSigns_91 (by decide) (fun z => absurd z (by omega)) (fun _ => ?_)
                        refine x_aload_n (j := 5) C dX12_gatherSigns_94 rfl ?_
                        refine x_iload (j := 0) C dX12_gatherSigns_95 rfl ?_
                        refine x_bipush (z := 32) C dX12_gatherSigns_97 (by decide) ?_
                        refine x_isub C dX12_gatherSigns_99 ?_
                        refine x_iconst C dX12_gatherSigns_100 ?_
                        refine x_lzast (w := 1) C dX12_gatherSigns_101 rfl (by omega) (by omega) (by decide) (by omega) ?_
                        refine hv2 (show BX vb5 (up2 (up2 ab5 70 (a 14 ((8 * (a 44 r.toNat)) + k).toNat).toNat 1) 70 ((a 14 ((8 * (a 44 r.toNat)) + k).toNat) - 32).toNat 1) from bq6.set (k := 70) (i := ((a 14 ((8 * (a 44 r.toNat)) + k).toNat) - 32).toNat) (z := 1) ⟨by decide, by decide⟩) (fq6.set (k := 70) (i := ((a 14 ((8 * (a 44 r.toNat)) + k).toNat) - 32).toNat) (z := 1) rfl) (fun bq7 fq7 => ?_)
                        refine x_iinc (z := k) (j := 1) (lv2 := [(6, .int (iI (k + 1))), (7, .int (iI (a 14 ((8 * (a 44 r.toNat)) + k).toNat))), (5, .int (iI (a 44 r.toNat))), (4, .int (iI r)), (3, .int (iI pt)), (2, .ref bb), (0, .ref h0), (1, .int (iI t))]) C dX12_gatherSigns_102 rfl (by decide) rfl ?_
                        refine x_goto (tgt := 49) C dX12_gatherSigns_105 (by decide) ?_
                        refine x_lv (lv2 := [(6, .int (iI (k + 1))), (5, .int (iI (a 44 r.toNat))), (4, .int (iI r)), (3, .int (iI pt)), (2, .ref bb), (0, .ref h0), (1, .int (iI t))]) [0, 2, 3, 4, 5, 6, 7] rfl ?_
                        exact ih4  (k + 1) _ _ (by omega) bq7 fq7 (by omega)
                      · refine x_st (st2 := [.int (iI 0)]) (by rw [show inn (iI (a 14 ((8 * (a 44 r.toNat)) + k).toNat)) 97 122 = iI 0 from h1e]) ?_
                        refine x_if_eq (tgt := 102) C ⟨by decide, by decide⟩ dX12_gatherSigns_91 (by decide) (fun _ => ?_) (fun z => absurd z (by omega))
                        refine x_iinc (z := k) (j := 1) (lv2 := [(6, .int (iI (k + 1))), (7, .int (iI (a 14 ((8 * (a 44 r.toNat)) + k).toNat))), (5, .int (iI (a 44 r.toNat))), (4, .int (iI r)), (3, .int (iI pt)), (2, .ref bb), (0, .ref h0), (1, .int (iI t))]) C dX12_gatherSigns_102 rfl (by decide) rfl ?_
                        refine x_goto (tgt := 49) C dX12_gatherSigns_105 (by decide) ?_
                        refine x_lv (lv2 := [(6, .int (iI (k + 1))), (5, .int (iI (a 44 r.toNat))), (4, .int (iI r)), (3, .int (iI pt)), (2, .ref bb), (0, .ref h0), (1, .int (iI t))]) [0, 2, 3, 4, 5, 6, 7] rfl ?_
                        exact ih4  (k + 1) _ _ (by omega) bq6 fq6 (by omega)
              refine x_lv (lv2 := [(6, .int (iI 0)), (5, .int (iI (a 44 r.toNat))), (4, .int (iI r)), (3, .int (iI pt)), (2, .ref bb), (0, .ref h0), (1, .int (iI t))]) [0, 1, 2, 3, 4, 5, 6] rfl ?_
              exact Lp4 10 0 _ _ (by omega) bxb4 fpb4 (by omega)
        refine x_lv (lv2 := [(4, .int (iI (6008 * pt))), (3, .int (iI pt)), (2, .ref bb), (0, .ref h0), (1, .int (iI t))]) [0, 1, 2, 3, 4] rfl ?_
        exact Lp3 6010 (6008 * pt) _ _ (by omega) bxb1 fpb1 (by omega)
  refine x_lv (lv2 := [(3, .int (iI 0)), (2, .ref bb), (0, .ref h0), (1, .int (iI t))]) [0, 1, 2, 3] rfl ?_
  exact Lp1 4 0 _ _ (by omega) bnw1 fqw1 (by omega)
end
section
def Mn (l : Launch) (G : GT) (y : MethodName) (cc : ByteArray) (n : Nat) (ret : Option FieldType) (d : Nat) (As : List Value) (h0 : Nat) (ad ln : Nat → Nat) (v : Nat → Int) (a : Nat → Nat → Int) (mc ms : Nat) (Post : Option Value → (Nat → Nat) → (Nat → Int) → (Nat → Nat → Int) → Prop) : Prop := ∀ (L : List Nat) (E : Nat → va_E), mI G h0 ad ln v a L E → Mq l G y cc n ret d (.ref h0 :: As) L E mc ms (fun r L2 E2 => ∃ (ad2 ln2 : Nat → Nat) (v2 : Nat → Int) (a2 : Nat → Nat → Int), mI G h0 ad2 ln2 v2 a2 L2 E2 ∧ Post r ln2 v2 a2)
section MQ4
variable {p : Program} {l : Launch} {e : Env} {R : Room} {s : State} {m : MethodId} {args : Array Value} {below : List Frame} {meth : Method} {c : Code} {cc : ByteArray} {y : MethodName} {ret : Option FieldType} {G : GT} {A : Nat → Prop} {nL mc ms : Nat} {Q : State → Prop} {Post : Option Value → (Nat → Nat) → (Nat → Int) → (Nat → Nat → Int) → Prop} {h0 : Nat} {ad ln : Nat → Nat} {v : Nat → Int} {a : Nat → Nat → Int} {kc ks pc : Nat} {lv : List (Nat × Value)} {st : List Value}
theorem n_iret (C : Cq p s m args meth c cc y ret G A nL) {z : Int} (d : decode cc pc = .ok (.ireturn, 1)) (hr : ret = some .int) (h1 : kc ≤ mc) (h2 : ks ≤ ms) (hp : Post (some (.int (iI z))) ln v a) : mw p l e R s m args below meth c G A nL (MQ below (Qm G A (fun r L2 E2 => ∃ (ad2 ln2 : Nat → Nat) (v2 : Nat → Int) (a2 : Nat → Nat → Int), mI G h0 ad2 ln2 v2 a2 L2 E2 ∧ Post r ln2 v2 a2)) args s mc ms A) h0 ad ln v a kc ks pc lv [.int (iI z)] := fun L E h => q_iret C d hr h1 h2 ⟨ad, ln, v, a, h, hp⟩
theorem n_vret (C : Cq p s m args meth c cc y ret G A nL) (d : decode cc pc = .ok (.return_, 1)) (hr : ret = none) (h1 : kc ≤ mc) (h2 : ks ≤ ms) (hp : Post none ln v a) : mw p l e R s m args below meth c G A nL (MQ below (Qm G A (fun r L2 E2 => ∃ (ad2 ln2 : Nat → Nat) (v2 : Nat → Int) (a2 : Nat → Nat → Int), mI G h0 ad2 ln2 v2 a2 L2 E2 ∧ Post r ln2 v2 a2)) args s mc ms A) h0 ad ln v a kc ks pc lv [] := fun L E h => q_vret C d hr h1 h2 ⟨ad, ln, v, a, h, hp⟩
theorem Mn.mk {n d : Nat} {As : List Value} (hy : plainName y.cls = true) (hn : (lg_sl (.ref h0 :: As)).length ≤ n) (body : ∀ (p : Program) (e : Env) (s : State) (m : MethodId) (args : Array Value) (below : List Frame) (meth : Method) (c : Code) (A : Nat → Prop), Cq p s m args meth c cc y ret G A n → mw p l e (rmq d mc ms) s m args below meth c G A n (MQ below (Qm G A (fun r L2 E2 => ∃ (ad2 ln2 : Nat → Nat) (v2 : Nat → Int) (a2 : Nat → Nat → Int), mI G h0 ad2 ln2 v2 a2 L2 E2 ∧ Post r ln2 v2 a2)) args s mc ms A) h0 ad ln v a 0 0 0 (lv_args 0 (.ref h0 :: As)) []) : Mn l G y cc n ret d As h0 ad ln v a mc ms Post := fun L E h => Mq.mk hy hn (fun p e s m args below meth c A C => body p e s m args below meth c A C L E h)
theorem n_call (C : Cq p s m args meth c cc y ret G A nL) {y2 : MethodName} {cc2 : ByteArray} {n2 d2 mc2 ms2 idx k2 : Nat} {ret2 : Option FieldType} {P2 : Option Value → (Nat → Nat) → (Nat → Int) → (Nat → Nat → Int) → Prop} {As rest : List Value} (M : Mn l G y2 cc2 n2 ret2 d2 As h0 ad ln v a mc2 ms2 P2) (d : decode cc pc = .ok (.invokevirtual idx, 3)) (hw : Wv y.cls idx y2 cc2 n2 ret2 k2) (hk : As.length = k2) (ck : Ck 13 y2.cls TX12 67 tyX12) (hst : st = As.reverse ++ .ref h0 :: rest) (hcat : (rest.map fun v => v.category).sum ≤ 8) (hR : d2 + 1 ≤ R.frames ∧ 8 + (n2 + 11) + 64 * d2 ≤ R.locals) (hf : kc + mc2 ≤ R.cells ∧ ks + ms2 ≤ R.slots) (kk : ∀ (r : Option Value) (ad2 ln2 : Nat → Nat) (v2 : Nat → Int) (a2 : Nat → Nat → Int), P2 r ln2 v2 a2 → mw p l e R s m args below meth c G A nL Q h0 ad2 ln2 v2 a2 (kc + mc2) (ks + ms2) (pc + 3) lv (r.toList ++ rest)) : mw p l e R s m args below meth c G A nL Q h0 ad ln v a kc ks pc lv st := fun L E h => q_callV C (M L E h) d hw hk h.1 h.2.1 ck hst hcat hR hf (fun r L2 E2 ⟨ad2, ln2, v2, a2, h2, hp⟩ => kk r ad2 ln2 v2 a2 hp L2 E2 h2)
end MQ4
theorem push4 {a : Nat → Nat → Int} {n x t y z : Int} (h : 0 ≤ n) : (∀ j : Nat, (j : Int) < n → up2 (up2 (up2 (up2 a 18 n.toNat x) 18 (n + 1).toNat t) 18 (n + 2).toNat y) 18 (n + 3).toNat z 18 j = a 18 j) ∧ up2 (up2 (up2 (up2 a 18 n.toNat x) 18 (n + 1).toNat t) 18 (n + 2).toNat y) 18 (n + 3).toNat z 18 n.toNat = x ∧ up2 (up2 (up2 (up2 a 18 n.toNat x) 18 (n + 1).toNat t) 18 (n + 2).toNat y) 18 (n + 3).toNat z 18 (n + 1).toNat = t ∧ up2 (up2 (up2 (up2 a 18 n.toNat x) 18 (n + 1).toNat t) 18 (n + 2).toNat y) 18 (n + 3).toNat z 18 (n + 2).toNat = y ∧ up2 (up2 (up2 (up2 a 18 n.toNat x) 18 (n + 1).toNat t) 18 (n + 2).toNat y) 18 (n + 3).toNat z 18 (n + 3).toNat = z := by
  refine ⟨fun j hj => ?_, ?_, ?_, ?_, up2_s⟩
  · rw [up2_j (by omega), up2_j (by omega), up2_j (by omega), up2_j (by omega)]
  · rw [up2_j (by omega), up2_j (by omega), up2_j (by omega), up2_s]
  · rw [up2_j (by omega), up2_j (by omega), up2_s]
  · rw [up2_j (by omega), up2_s]
def ent (k t y T : Int) (R : Nat → Int) (T0 : Int) (R0 : Nat → Int) : Prop := (k = 0 ∧ 1 ≤ T ∧ T0 = T - 1 ∧ R0 = R) ∨ (k = 1 ∧ (0 ≤ t ∧ t < T) ∧ T0 = T ∧ R0 = R) ∨ (k = 2 ∧ (0 ≤ t ∧ t < T) ∧ 1 ≤ R t.toNat ∧ T0 = T ∧ R0 = fun j => if j = t.toNat then R j - 1 else R j) ∨ (k = 3 ∧ (0 ≤ t ∧ t < T) ∧ (0 ≤ y ∧ y < R t.toNat) ∧ T0 = T ∧ R0 = R) ∨ (k = 4 ∧ (0 ≤ t ∧ t < 4 * T) ∧ (0 ≤ y ∧ y ≤ 4) ∧ T0 = T ∧ R0 = R)
theorem ent.e0 {k t y T T0 : Int} {R R0 : Nat → Int} (h : ent k t y T R T0 R0) (hk : k = 0) : 1 ≤ T ∧ T0 = T - 1 ∧ R0 = R := by rcases h with q | q | q | q | q <;> first | exact q.2 | exact absurd q.1 (by omega)
theorem ent.e1 {k t y T T0 : Int} {R R0 : Nat → Int} (h : ent k t y T R T0 R0) (hk : k = 1) : (0 ≤ t ∧ t < T) ∧ T0 = T ∧ R0 = R := by rcases h with q | q | q | q | q <;> first | exact q.2 | exact absurd q.1 (by omega)
theorem ent.e2 {k t y T T0 : Int} {R R0 : Nat → Int} (h : ent k t y T R T0 R0) (hk : k = 2) : (0 ≤ t ∧ t < T) ∧ 1 ≤ R t.toNat ∧ T0 = T ∧ R0 = fun j => if j = t.toNat then R j - 1 else R j := by rcases h with q | q | q | q | q <;> first | exact q.2 | exact absurd q.1 (by omega)
theorem ent.e3 {k t y T T0 : Int} {R R0 : Nat → Int} (h : ent k t y T R T0 R0) (hk : k = 3) : (0 ≤ t ∧ t < T) ∧ (0 ≤ y ∧ y < R t.toNat) ∧ T0 = T ∧ R0 = R := by rcases h with q | q | q | q | q <;> first | exact q.2 | exact absurd q.1 (by omega)
theorem ent.e4 {k t y T T0 : Int} {R R0 : Nat → Int} (h : ent k t y T R T0 R0) (hk : k < 0 ∨ 3 < k) : k = 4 ∧ (0 ≤ t ∧ t < 4 * T) ∧ (0 ≤ y ∧ y ≤ 4) ∧ T0 = T ∧ R0 = R := by rcases h with q | q | q | q | q <;> first | exact absurd q.1 (by omega) | exact q
def stk (s : Nat → Int) : Nat → Int → (Nat → Int) → Prop
  | 0, T, _ => T = 0
  | n + 1, T, R => ∃ (T0 : Int) (R0 : Nat → Int), ent (s (4 * n)) (s (4 * n + 1)) (s (4 * n + 2)) T R T0 R0 ∧ stk s n T0 R0
theorem stk_R {s : Nat → Int} : ∀ (n : Nat) (T : Int) (R R2 : Nat → Int), (∀ j : Nat, (j : Int) < T → R j = R2 j) → stk s n T R → stk s n T R2 := by
  intro n
  induction n with
  | zero => intro T R R2 _ h; exact h
  | succ n ih =>
    intro T R R2 hR h
    obtain ⟨T0, R0, he, hs⟩ := h
    rcases he with ⟨q1, q2, rfl, rfl⟩ | ⟨q1, q2, rfl, rfl⟩ | ⟨q1, q2, q3, rfl, rfl⟩ | ⟨q1, q2, q3, rfl, rfl⟩ | ⟨q1, q2, q3, rfl, rfl⟩
    · exact ⟨_, R2, Or.inl ⟨q1, q2, rfl, rfl⟩, ih _ _ _ (fun j hj => hR j (by omega)) hs⟩
    · exact ⟨_, R2, Or.inr (Or.inl ⟨q1, q2, rfl, rfl⟩), ih _ _ _ hR hs⟩
    · refine ⟨_, _, Or.inr (Or.inr (Or.inl ⟨q1, q2, ?_, rfl, rfl⟩)), ih _ _ _ (fun j hj => ?_) hs⟩
      · rw [← hR _ (by omega)]; exact q3
      · show (if _ then R j - 1 else R j) = (if _ then R2 j - 1 else R2 j)
        rw [hR j hj]
    · exact ⟨_, R2, Or.inr (Or.inr (Or.inr (Or.inl ⟨q1, q2, by rw [← hR _ (by omega)]; exact q3, rfl, rfl⟩))), ih _ _ _ hR hs⟩
    · exact ⟨_, R2, Or.inr (Or.inr (Or.inr (Or.inr ⟨q1, q2, q3, rfl, rfl⟩))), ih _ _ _ hR hs⟩
theorem stk_s {s s2 : Nat → Int} : ∀ (n : Nat) (T : Int) (R : Nat → Int), (∀ j : Nat, j < 4 * n → s2 j = s j) → stk s n T R → stk s2 n T R := by
  intro n
  induction n with
  | zero => intro T R _ h; exact h
  | succ n ih =>
    intro T R hs h
    obtain ⟨T0, R0, he, hk⟩ := h
    refine ⟨T0, R0, ?_, ih _ _ (fun j hj => hs j (by omega)) hk⟩
    rw [hs (4 * n) (by omega), hs (4 * n + 1) (by omega), hs (4 * n + 2) (by omega)]
    exact he
def STK (ln : Nat → Nat) (v : Nat → Int) (a : Nat → Nat → Int) : Prop := v 19 ≤ (ln 18 : Nat) ∧ (64 ≤ ln 18 ∧ ln 18 ≤ 8192) ∧ ∃ n : Nat, v 19 = 4 * (n : Int) ∧ stk (a 18) n (v 4) (a 10)
theorem STK.of {ln : Nat → Nat} {v v2 : Nat → Int} {a a2 : Nat → Nat → Int} (h : STK ln v a) (h1 : v2 19 = v 19) (h2 : v2 4 = v 4) (h3 : a2 18 = a 18) (h4 : a2 10 = a 10) : STK ln v2 a2 := by unfold STK at h ⊢; rw [h1, h2, h3, h4]; exact h
theorem STK.put {ln : Nat → Nat} {v : Nat → Int} {a : Nat → Nat → Int} (h : STK ln v a) {k : Nat} {z : Int} (hk : ([4, 19] : List Nat).contains k = false) : STK ln (va_up v k z) a := h.of (va_up_ne _ _ (fun e => by subst e; exact absurd hk (by decide))) (va_up_ne _ _ (fun e => by subst e; exact absurd hk (by decide))) rfl rfl
theorem STK.set {ln : Nat → Nat} {v : Nat → Int} {a : Nat → Nat → Int} (h : STK ln v a) {k i : Nat} {z : Int} (hk : ([10, 18] : List Nat).contains k = false) : STK ln v (up2 a k i z) := h.of rfl rfl (funext fun _ => up2_k (fun e => by subst e; exact absurd hk (by decide))) (funext fun _ => up2_k (fun e => by subst e; exact absurd hk (by decide)))
theorem STK.fr {ln : Nat → Nat} {V A : List Nat} {v v2 : Nat → Int} {a a2 : Nat → Nat → Int} (h : STK ln v a) (f : fr V A v a v2 a2) (h1 : (!V.contains 4 && !V.contains 19) = true) (h2 : (!A.contains 10 && !A.contains 18) = true) : STK ln v2 a2 := by
  rw [Bool.and_eq_true] at h1 h2
  exact h.of (f.1 19 (by simpa using h1.2)) (f.1 4 (by simpa using h1.1)) (f.2 18 (by simpa using h2.2)) (f.2 10 (by simpa using h2.1))
theorem TBL.put {v : Nat → Int} {a : Nat → Nat → Int} (h : TBL v a) {k : Nat} {z : Int} (hk : k ≠ 4) : TBL (va_up v k z) a := by
  have e : va_up v k z 4 = v 4 := va_up_ne _ _ (Ne.symm hk)
  unfold TBL; rw [e]; exact h
theorem TBL.set {v : Nat → Int} {a : Nat → Nat → Int} (h : TBL v a) {k i : Nat} {z : Int} (hk : tbA.contains k = false) : TBL v (up2 a k i z) := by
  have g : ∀ j, tbA.contains j = true → up2 a k i z j = a j := fun j hj => funext fun q => up2_k (fun e => by rw [e, hk] at hj; cases hj)
  unfold TBL; rw [g 6 rfl, g 8 rfl, g 9 rfl, g 10 rfl, g 12 rfl, g 13 rfl]; exact h
def KS (v : Nat → Int) (a : Nat → Nat → Int) (v2 : Nat → Int) (a2 : Nat → Nat → Int) : Prop := v2 19 = v 19 ∧ a2 18 = a 18
def PSH (v : Nat → Int) (a : Nat → Nat → Int) (v2 : Nat → Int) (a2 : Nat → Nat → Int) (w t c d : Int) : Prop := v2 19 = v 19 + 4 ∧ (∀ j : Nat, (j : Int) < v 19 → a2 18 j = a 18 j) ∧ a2 18 (v 19).toNat = w ∧ a2 18 (v 19 + 1).toNat = t ∧ a2 18 (v 19 + 2).toNat = c ∧ a2 18 (v 19 + 3).toNat = d
theorem PSH.put {v v2 : Nat → Int} {a a2 : Nat → Nat → Int} {w t c d : Int} (h : PSH v a v2 a2 w t c d) {k : Nat} {z : Int} (hk : k ≠ 19) : PSH v a (va_up v2 k z) a2 w t c d := ⟨by rw [va_up_ne _ _ (Ne.symm hk)]; exact h.1, h.2⟩
theorem PSH.set {v v2 : Nat → Int} {a a2 : Nat → Nat → Int} {w t c d : Int} (h : PSH v a v2 a2 w t c d) {k i : Nat} {z : Int} (hk : k ≠ 18) : PSH v a v2 (up2 a2 k i z) w t c d := by
  have e : up2 a2 k i z 18 = a2 18 := funext fun _ => up2_k (Ne.symm hk)
  exact ⟨h.1, by rw [e]; exact h.2⟩
theorem PSH.fr {v v2 v3 : Nat → Int} {a a2 a3 : Nat → Nat → Int} {V A : List Nat} {w t c d : Int} (h : PSH v a v2 a2 w t c d) (f : fr V A v2 a2 v3 a3) (h1 : V.contains 19 = false) (h2 : A.contains 18 = false) : PSH v a v3 a3 w t c d := by
  have e := f.2 18 h2
  exact ⟨(f.1 19 h1).trans h.1, by rw [e]; exact h.2⟩
theorem up2_va {a : Nat → Nat → Int} {k i : Nat} {z : Int} : up2 a k i z k = va_up (a k) i z := by
  funext j; unfold up2 va_up; rw [if_pos rfl]
def ARS (a a2 : Nat → Nat → Int) : Prop := a2 8 = a 8 ∧ a2 9 = a 9 ∧ a2 12 = a 12 ∧ a2 13 = a 13 ∧ a2 14 = a 14 ∧ a2 15 = a 15 ∧ a2 16 = a 16 ∧ a2 17 = a 17
def FIL (x x0 : Nat → Int) (b n w : Nat) (y : Nat → Int) : Prop := (∀ k : Nat, k < n → x (b + k) = y k) ∧ ∀ j : Nat, (j < b ∨ b + w ≤ j) → x j = x0 j
theorem FIL.zero {x x0 y : Nat → Int} {b n w : Nat} (h : x = x0) (hn : n = 0) : FIL x x0 b n w y := ⟨fun k hk => absurd hk (by omega), fun j _ => by rw [h]⟩
theorem FIL.cg {x x2 x0 y : Nat → Int} {b n w : Nat} (h : FIL x x0 b n w y) (e : x2 = x) : FIL x2 x0 b n w y := by rw [e]; exact h
theorem FIL.n {x x0 y : Nat → Int} {b n m w : Nat} (h : FIL x x0 b n w y) (e : m = n) : FIL x x0 b m w y := by rw [e]; exact h
theorem FIL.b {x x0 y : Nat → Int} {b b2 n w : Nat} (h : FIL x x0 b n w y) (e : b2 = b) : FIL x x0 b2 n w y := by rw [e]; exact h
theorem FIL.step {x x0 y : Nat → Int} {b n m w i : Nat} {z : Int} (h : FIL x x0 b n w y) (hi : i = b + n) (hz : z = y n) (hn : n < w) (hm : m = n + 1) : FIL (va_up x i z) x0 b m w y := by
  subst hm
  refine ⟨fun k hk => ?_, fun j hj => ?_⟩
  · by_cases e : k = n
    · subst e; rw [← hi, va_up_self]; exact hz
    · rw [va_up_ne _ _ (by omega)]; exact h.1 k (by omega)
  · rw [va_up_ne _ _ (by omega)]; exact h.2 j hj
theorem vupS {x r : Nat → Int} {t : Nat} {z : Int} (h : ∀ j, x j = if j = t then z else r j) : x = va_up r t z := by
  funext j
  rw [h j]
  unfold va_up
  rfl
def PKB (ss : Nat → Int) (b : Nat) : Nat → Int
  | 0 => 0
  | n + 1 => ((iI (PKB ss b n) <<< (iI 8 &&& 31)) ||| iI (ss (b + n))).toInt
def UPK (d c k : Int) : Int := ((iI d >>> (iI (8 * ((c - 1) - k)) &&& 31)) &&& iI 255).toInt
theorem PKB.step {ss : Nat → Int} {b n m : Nat} {bf z1 z2 y : Int} (h : bf = PKB ss b n) (e1 : iI bf <<< (iI 8 &&& 31) = iI z1) (e2 : iI z1 ||| iI y = iI z2) (h2 : R32 z2) (hy : y = ss (b + n)) (hm : m = n + 1) : z2 = PKB ss b m := by
  subst hm
  show z2 = ((iI (PKB ss b n) <<< (iI 8 &&& 31)) ||| iI (ss (b + n))).toInt
  rw [← h, e1, ← hy, e2]
  exact (iI_int h2).symm
theorem UPK.of {d s c k z1 z2 : Int} (e1 : iI d >>> (iI s &&& 31) = iI z1) (e2 : iI z1 &&& iI 255 = iI z2) (h2 : R32 z2) (hs : s = 8 * ((c - 1) - k)) : z2 = UPK d c k := by
  unfold UPK
  rw [← hs, e1, e2]
  exact (iI_int h2).symm
theorem PSH.cg {v v2 : Nat → Int} {a a2 : Nat → Nat → Int} {w t c d c2 d2 : Int} (h : PSH v a v2 a2 w t c d) (hc : c = c2) (hd : d = d2) : PSH v a v2 a2 w t c2 d2 := by subst hc; subst hd; exact h
def TSAME (v : Nat → Int) (a : Nat → Nat → Int) (v2 : Nat → Int) (a2 : Nat → Nat → Int) : Prop := v2 4 = v 4 ∧ a2 5 = a 5 ∧ a2 6 = a 6 ∧ a2 7 = a 7 ∧ a2 10 = a 10 ∧ v2 19 = v 19 ∧ a2 18 = a 18 ∧ a2 11 = a 11 ∧ ARS a a2
def TNEW (k d b s : Int) (v : Nat → Int) (a : Nat → Nat → Int) (v2 : Nat → Int) (a2 : Nat → Nat → Int) : Prop := v2 4 = v 4 + 1 ∧ a2 5 = va_up (a 5) (v 4).toNat 1 ∧ a2 6 = va_up (a 6) (v 4).toNat k ∧ a2 7 = va_up (a 7) (v 4).toNat d ∧ a2 10 = va_up (a 10) (v 4).toNat 0 ∧ PSH v a v2 a2 0 (v 4) 0 0 ∧ a2 11 = a 11 ∧ a2 8 = va_up (a 8) (v 4).toNat b ∧ a2 9 = va_up (a 9) (v 4).toNat s ∧ a2 12 = a 12 ∧ a2 13 = a 13 ∧ a2 14 = a 14 ∧ a2 15 = a 15 ∧ a2 17 = a 17 ∧ FIL (a2 16) (a 16) (4 * v 4).toNat 4 4 (fun _ => 0)
def TDRP (t : Int) (v : Nat → Int) (a : Nat → Nat → Int) (v2 : Nat → Int) (a2 : Nat → Nat → Int) : Prop := v2 4 = v 4 ∧ a2 5 = va_up (a 5) t.toNat 0 ∧ a2 6 = a 6 ∧ a2 7 = a 7 ∧ a2 10 = a 10 ∧ PSH v a v2 a2 1 t 0 0 ∧ a2 11 = a 11 ∧ ARS a a2
def TRUL (t x n : Int) (v : Nat → Int) (a : Nat → Nat → Int) (v2 : Nat → Int) (a2 : Nat → Nat → Int) : Prop := v2 4 = v 4 ∧ a2 5 = a 5 ∧ a2 6 = a 6 ∧ a2 7 = a 7 ∧ a2 10 = va_up (a 10) t.toNat (a 10 t.toNat + 1) ∧ PSH v a v2 a2 2 t 0 0 ∧ a2 11 = va_up (a 11) (200 * t + a 10 t.toNat).toNat x ∧ a2 8 = a 8 ∧ a2 9 = a 9 ∧ a2 16 = a 16 ∧ a2 17 = a 17 ∧ a2 12 = va_up (a 12) (200 * t + a 10 t.toNat).toNat n ∧ a2 13 = va_up (a 13) (200 * t + a 10 t.toNat).toNat (v 3 - n) ∧ FIL (a2 14) (a 14) (8 * (200 * t + a 10 t.toNat)).toNat n.toNat 8 (a 2) ∧ FIL (a2 15) (a 15) (4 * (200 * t + a 10 t.toNat)).toNat (v 3 - n).toNat 4 (fun k => a 2 (n.toNat + k))
def TOTH (w t c d : Int) (v : Nat → Int) (a : Nat → Nat → Int) (v2 : Nat → Int) (a2 : Nat → Nat → Int) : Prop := v2 4 = v 4 ∧ a2 5 = a 5 ∧ a2 6 = a 6 ∧ a2 7 = a 7 ∧ a2 10 = a 10 ∧ PSH v a v2 a2 w t c d
def TCND (t r x : Int) (v : Nat → Int) (a : Nat → Nat → Int) (v2 : Nat → Int) (a2 : Nat → Nat → Int) : Prop := TOTH 3 t r (a 11 (200 * t + r).toNat) v a v2 a2 ∧ a2 11 = va_up (a 11) (200 * t + r).toNat x ∧ ARS a a2
def TIND (t x : Int) (v : Nat → Int) (a : Nat → Nat → Int) (v2 : Nat → Int) (a2 : Nat → Nat → Int) : Prop := TOTH 4 (4 * t + x) (a 16 (4 * t + x).toNat) (PKB (a 17) (4 * (4 * t + x)).toNat (a 16 (4 * t + x).toNat).toNat) v a v2 a2 ∧ a2 11 = a 11 ∧ a2 8 = a 8 ∧ a2 9 = a 9 ∧ a2 12 = a 12 ∧ a2 13 = a 13 ∧ a2 14 = a 14 ∧ a2 15 = a 15 ∧ a2 16 = va_up (a 16) (4 * t + x).toNat (v 3) ∧ FIL (a2 17) (a 17) (4 * (4 * t + x)).toNat (v 3).toNat 4 (a 2)
def TUND (v : Nat → Int) (a : Nat → Nat → Int) (v2 : Nat → Int) (a2 : Nat → Nat → Int) : Prop := v2 19 = v 19 - 4 ∧ a2 18 = a 18 ∧ a2 6 = a 6 ∧ a2 7 = a 7 ∧ (a2 8 = a 8 ∧ a2 9 = a 9 ∧ a2 12 = a 12 ∧ a2 13 = a 13 ∧ a2 14 = a 14 ∧ a2 15 = a 15) ∧ ((a 18 (v 19 - 4).toNat = 0 ∧ v2 4 = v 4 - 1 ∧ a2 5 = a 5 ∧ a2 10 = a 10 ∧ a2 11 = a 11 ∧ a2 16 = a 16 ∧ a2 17 = a 17) ∨ (a 18 (v 19 - 4).toNat = 1 ∧ v2 4 = v 4 ∧ a2 5 = va_up (a 5) (a 18 (v 19 - 4 + 1).toNat).toNat 1 ∧ a2 10 = a 10 ∧ a2 11 = a 11 ∧ a2 16 = a 16 ∧ a2 17 = a 17) ∨ (a 18 (v 19 - 4).toNat = 2 ∧ v2 4 = v 4 ∧ a2 5 = a 5 ∧ a2 10 = va_up (a 10) (a 18 (v 19 - 4 + 1).toNat).toNat (a 10 (a 18 (v 19 - 4 + 1).toNat).toNat - 1) ∧ a2 11 = a 11 ∧ a2 16 = a 16 ∧ a2 17 = a 17) ∨ (a 18 (v 19 - 4).toNat = 3 ∧ v2 4 = v 4 ∧ a2 5 = a 5 ∧ a2 10 = a 10 ∧ a2 11 = va_up (a 11) (200 * a 18 (v 19 - 4 + 1).toNat + a 18 (v 19 - 4 + 2).toNat).toNat (a 18 (v 19 - 4 + 3).toNat) ∧ a2 16 = a 16 ∧ a2 17 = a 17) ∨ (a 18 (v 19 - 4).toNat = 4 ∧ v2 4 = v 4 ∧ a2 5 = a 5 ∧ a2 10 = a 10 ∧ a2 11 = a 11 ∧ a2 16 = va_up (a 16) (a 18 (v 19 - 4 + 1).toNat).toNat (a 18 (v 19 - 4 + 2).toNat) ∧ FIL (a2 17) (a 17) (4 * a 18 (v 19 - 4 + 1).toNat).toNat (a 18 (v 19 - 4 + 2).toNat).toNat 4 (fun k => UPK (a 18 (v 19 - 4 + 3).toNat) (a 18 (v 19 - 4 + 2).toNat) (k : Int))))
def NA (a : Nat → Nat → Int) (T : Nat) (k d b s : Int) : Nat → Nat → Int := up2 (up2 (up2 (up2 (up2 (up2 a 5 T 1) 6 T k) 7 T d) 8 T b) 9 T s) 10 T 0
theorem NA_5 {a : Nat → Nat → Int} {T : Nat} {k d b s : Int} : NA a T k d b s 5 = va_up (a 5) T 1 ∧ NA a T k d b s 6 = va_up (a 6) T k ∧ NA a T k d b s 7 = va_up (a 7) T d ∧ NA a T k d b s 10 = va_up (a 10) T 0 ∧ NA a T k d b s 8 = va_up (a 8) T b ∧ NA a T k d b s 9 = va_up (a 9) T s ∧ (∀ q, 11 ≤ q → NA a T k d b s q = a q) := by
  refine ⟨?_, ?_, ?_, ?_, ?_, ?_, ?_⟩
  case refine_7 => intro q hq; funext j; unfold NA; rw [up2_k (by omega), up2_k (by omega), up2_k (by omega), up2_k (by omega), up2_k (by omega), up2_k (by omega)]
  all_goals funext j <;> simp [NA, up2, va_up]
theorem con2 {j x y : Nat} (h1 : j ≠ x) (h2 : j ≠ y) : ([x, y] : List Nat).contains j = false := by
  rw [List.contains_cons, List.contains_cons, beq_false_of_ne h1, beq_false_of_ne h2]; rfl
theorem vupR {x r : Nat → Int} {t : Nat} (h : ∀ j, x j = if j = t then r j + 1 else r j) : x = va_up r t (r t + 1) := by
  funext j
  rw [h j]
  unfold va_up
  by_cases e : j = t
  · rw [if_pos e, if_pos e, e]
  · rw [if_neg e, if_neg e]
def DC (x : Int) : Int := if x = 6 then 63 else 255
theorem dcf (x : Int) : (x = 6 ∧ DC x = 63) ∨ (x ≠ 6 ∧ DC x = 255) := by
  unfold DC
  by_cases h : x = 6
  · rw [if_pos h]; exact Or.inl ⟨h, rfl⟩
  · rw [if_neg h]; exact Or.inr ⟨h, rfl⟩
def ACL (ss : Nat → Int) (q u d : Int) : Prop := ∀ j : Nat, q ≤ (j : Int) → (j : Int) < q + u → 1 ≤ ss j ∧ ss j ≤ d
theorem ACL.zero {ss : Nat → Int} {q d : Int} : ACL ss q (q - q) d := fun j h1 h2 => absurd h2 (by omega)
theorem ACL.step {ss : Nat → Int} {q d g g2 k : Int} (h : g = 1 ↔ ACL ss q (k - q) d) (hk : 0 ≤ q ∧ q ≤ k) (e : g2 = 1 ↔ (g = 1 ∧ 1 ≤ ss k.toNat ∧ ss k.toNat ≤ d)) : g2 = 1 ↔ ACL ss q (k + 1 - q) d := by
  constructor
  · intro q2 j h1 h2
    by_cases e2 : (j : Int) < k
    · exact h.mp (e.mp q2).1 j h1 (by omega)
    · rw [show j = k.toNat by omega]; exact (e.mp q2).2
  · intro q2
    exact e.mpr ⟨h.mpr (fun j h1 h2 => q2 j h1 (by omega)), q2 k.toNat (by omega) (by omega)⟩
def LTK (ss : Nat → Int) (n : Int) : Prop := ∀ j : Nat, (j : Int) < n → 33 ≤ ss j ∧ ss j ≤ 125
theorem LTK.zero {ss : Nat → Int} : LTK ss 0 := fun j hj => absurd hj (by omega)
theorem LTK.step {ss : Nat → Int} {g g2 k : Int} (h : g = 1 ↔ LTK ss k) (hk : 0 ≤ k) (e : g2 = 1 ↔ (g = 1 ∧ 33 ≤ ss k.toNat ∧ ss k.toNat ≤ 125)) : g2 = 1 ↔ LTK ss (k + 1) := by
  constructor
  · intro q2 j h1
    by_cases e2 : (j : Int) < k
    · exact h.mp (e.mp q2).1 j e2
    · rw [show j = k.toNat by omega]; exact (e.mp q2).2
  · intro q2
    exact e.mpr ⟨h.mpr (fun j h1 => q2 j (by omega)), q2 k.toNat (by omega)⟩
theorem KS.put {v v2 : Nat → Int} {a a2 : Nat → Nat → Int} (h : KS v a v2 a2) {k : Nat} {z : Int} (hk : k ≠ 19) : KS v a (va_up v2 k z) a2 := ⟨by rw [va_up_ne _ _ (Ne.symm hk)]; exact h.1, h.2⟩
theorem KS.set {v v2 : Nat → Int} {a a2 : Nat → Nat → Int} (h : KS v a v2 a2) {k i : Nat} {z : Int} (hk : k ≠ 18) : KS v a v2 (up2 a2 k i z) := ⟨h.1, by rw [← h.2]; exact funext fun _ => up2_k (Ne.symm hk)⟩
theorem KS.fr {v v2 v3 : Nat → Int} {a a2 a3 : Nat → Nat → Int} {V A : List Nat} (h : KS v a v2 a2) (f : fr V A v2 a2 v3 a3) (h1 : V.contains 19 = false) (h2 : A.contains 18 = false) : KS v a v3 a3 := ⟨(f.1 19 h1).trans h.1, (f.2 18 h2).trans h.2⟩
theorem STK.push {ln ln2 : Nat → Nat} {v v2 : Nat → Int} {a a2 : Nat → Nat → Int} {x t y T0 : Int} {R0 : Nat → Int} (hS : STK ln v a) (h1 : v2 19 = v 19 + 4) (h2 : v2 19 ≤ (ln2 18 : Nat)) (h3 : 64 ≤ ln2 18 ∧ ln2 18 ≤ 8192) (h4 : ∀ j : Nat, (j : Int) < v 19 → a2 18 j = a 18 j) (hx : a2 18 (v 19).toNat = x) (ht : a2 18 (v 19 + 1).toNat = t) (hy : a2 18 (v 19 + 2).toNat = y) (he : ent x t y (v2 4) (a2 10) T0 R0) (hT : T0 = v 4) (hR : ∀ j : Nat, (j : Int) < v 4 → R0 j = a 10 j) : STK ln2 v2 a2 := by
  obtain ⟨_, _, n, hn, hk⟩ := hS
  refine ⟨h2, h3, n + 1, by omega, T0, R0, ?_, ?_⟩
  · rw [show 4 * n = (v 19).toNat by omega, show (v 19).toNat + 1 = (v 19 + 1).toNat by omega, show (v 19).toNat + 2 = (v 19 + 2).toNat by omega, hx, ht, hy]; exact he
  · subst hT
    exact stk_R n _ _ _ (fun j hj => (hR j hj).symm) (stk_s n _ _ (fun j hj => h4 j (by omega)) hk)
theorem STK.pop {ln : Nat → Nat} {v : Nat → Int} {a : Nat → Nat → Int} (hS : STK ln v a) (h0 : v 19 ≠ 0) : 4 ≤ v 19 ∧ ∃ (T0 : Int) (R0 : Nat → Int), ent (a 18 (v 19 - 4).toNat) (a 18 (v 19 - 4 + 1).toNat) (a 18 (v 19 - 4 + 2).toNat) (v 4) (a 10) T0 R0 ∧ ∀ (v2 : Nat → Int) (a2 : Nat → Nat → Int), v2 19 = v 19 - 4 → a2 18 = a 18 → v2 4 = T0 → (∀ j : Nat, (j : Int) < T0 → a2 10 j = R0 j) → STK ln v2 a2 := by
  obtain ⟨hl, hl2, n, hn, hk⟩ := hS
  cases n with
  | zero => exact absurd hn h0
  | succ n =>
    obtain ⟨T0, R0, he, hs⟩ := hk
    refine ⟨by omega, T0, R0, ?_, fun v2 a2 h1 h2 h3 h4 => ⟨by omega, hl2, n, by omega, ?_⟩⟩
    · rw [show (v 19 - 4).toNat = 4 * n by omega, show (v 19 - 4 + 1).toNat = 4 * n + 1 by omega, show (v 19 - 4 + 2).toNat = 4 * n + 2 by omega]; exact he
    · rw [h2, h3]; exact stk_R n _ _ _ (fun j hj => (h4 j hj).symm) hs
theorem TBL.le {v v2 : Nat → Int} {a a2 : Nat → Nat → Int} (h : TBL v a) (h4 : v2 4 ≤ v 4) (h6 : a2 6 = a 6) (h8 : a2 8 = a 8) (h9 : a2 9 = a 9) (h12 : a2 12 = a 12) (h13 : a2 13 = a 13) (h10 : ∀ j, a2 10 j ≤ a 10 j) : TBL v2 a2 := by
  unfold TBL at h ⊢
  rw [h6, h8, h9, h12, h13]
  exact ⟨fun t h1 h2 => h.1 t h1 (by omega), fun t r h1 h2 h3 h5 => h.2 t r h1 (by omega) h3 (by have := h10 t.toNat; omega)⟩
def NewT (T : Nat) (a : Nat → Nat → Int) (k b s : Int) (a2 : Nat → Nat → Int) : Prop := (∀ j, a2 6 j = if j = T then k else a 6 j) ∧ (∀ j, a2 8 j = if j = T then b else a 8 j) ∧ (∀ j, a2 9 j = if j = T then s else a 9 j) ∧ (∀ j, a2 10 j = if j = T then 0 else a 10 j)
theorem NewT.set {T : Nat} {a a2 : Nat → Nat → Int} {k1 b s1 : Int} (h : NewT T a k1 b s1 a2) {k i : Nat} {z : Int} (hk : ([6, 8, 9, 10] : List Nat).contains k = false) : NewT T a k1 b s1 (up2 a2 k i z) := by
  have g : ∀ j q, ([6, 8, 9, 10] : List Nat).contains j = true → up2 a2 k i z j q = a2 j q := fun j q hj => up2_k (fun e => by rw [e, hk] at hj; cases hj)
  exact ⟨fun j => by rw [g _ _ rfl]; exact h.1 j, fun j => by rw [g _ _ rfl]; exact h.2.1 j, fun j => by rw [g _ _ rfl]; exact h.2.2.1 j, fun j => by rw [g _ _ rfl]; exact h.2.2.2 j⟩
theorem TBL.new {v v2 : Nat → Int} {a a2 : Nat → Nat → Int} {k b s : Int} (h : TBL v a) (hN : NewT (v 4).toNat a k b s a2) (h0 : 0 ≤ v 4) (h4 : v2 4 = v 4 + 1) (h12 : a2 12 = a 12) (h13 : a2 13 = a 13) (hk : ((k = 0 ∨ k = 4) ∧ b = -1) ∨ (1 ≤ k ∧ k ≤ 3 ∧ 0 ≤ b ∧ b < v 4 ∧ a 6 b.toNat ≤ 3) ∨ (k = 5 ∧ 0 ≤ b ∧ b < v 4 ∧ a 6 b.toNat ≤ 3 ∧ 0 ≤ s ∧ s < v 4 ∧ a 6 s.toNat ≤ 3)) : TBL v2 a2 := by
  obtain ⟨n6, n8, n9, n10⟩ := hN
  refine ⟨fun t h1 h2 => ?_, fun t r h1 h2 h3 h5 => ?_⟩
  · by_cases e : t = v 4
    · subst e
      rw [n6, n8, n9, if_pos rfl, if_pos rfl, if_pos rfl]
      rcases hk with q | q | q
      · exact Or.inl q
      · refine Or.inr (Or.inl ⟨q.1, q.2.1, q.2.2.1, q.2.2.2.1, ?_⟩)
        rw [n6, if_neg (by omega)]; exact q.2.2.2.2
      · refine Or.inr (Or.inr ⟨q.1, q.2.1, q.2.2.1, ?_, q.2.2.2.2.1, q.2.2.2.2.2.1, ?_⟩)
        · rw [n6, if_neg (by omega)]; exact q.2.2.2.1
        · rw [n6, if_neg (by omega)]; exact q.2.2.2.2.2.2
    · have g := h.1 t h1 (by omega)
      have hne : ¬ t.toNat = (v 4).toNat := by omega
      rw [n6, n8, n9, if_neg hne, if_neg hne, if_neg hne]
      rcases g with q | q | q
      · exact Or.inl q
      · refine Or.inr (Or.inl ⟨q.1, q.2.1, q.2.2.1, q.2.2.2.1, ?_⟩)
        rw [n6, if_neg (by omega)]; exact q.2.2.2.2
      · refine Or.inr (Or.inr ⟨q.1, q.2.1, q.2.2.1, ?_, q.2.2.2.2.1, q.2.2.2.2.2.1, ?_⟩)
        · rw [n6, if_neg (by omega)]; exact q.2.2.2.1
        · rw [n6, if_neg (by omega)]; exact q.2.2.2.2.2.2
  · rw [h12, h13]
    rw [n10] at h5
    by_cases e : t = v 4
    · rw [if_pos (by rw [e])] at h5; omega
    · rw [if_neg (by omega)] at h5
      exact h.2 t r h1 (by omega) h3 h5
def RUL (a : Nat → Nat → Int) (r m c : Int) (a2 : Nat → Nat → Int) : Prop := (∀ j, a2 12 j = if j = r.toNat then m else a 12 j) ∧ (∀ j, a2 13 j = if j = r.toNat then c else a 13 j) ∧ a2 10 = a 10
theorem RUL.set {a a2 : Nat → Nat → Int} {r m c : Int} (h : RUL a r m c a2) {k i : Nat} {z : Int} (hk : ([10, 12, 13] : List Nat).contains k = false) : RUL a r m c (up2 a2 k i z) := by
  have g : ∀ j q, ([10, 12, 13] : List Nat).contains j = true → up2 a2 k i z j q = a2 j q := fun j q hj => up2_k (fun e => by rw [e, hk] at hj; cases hj)
  exact ⟨fun j => by rw [g _ _ rfl]; exact h.1 j, fun j => by rw [g _ _ rfl]; exact h.2.1 j, by rw [← h.2.2]; exact funext fun q => g _ _ rfl⟩
theorem TBL.rule {v v2 : Nat → Int} {a a2 : Nat → Nat → Int} {t r m c : Int} (h : TBL v a) (hB : BX v a) (ht : 0 ≤ t ∧ t < v 4) (hr : r = 200 * t + a 10 t.toNat) (h200 : a 10 t.toNat < 200) (hm : 1 ≤ m ∧ m ≤ 8) (hc : 1 ≤ c ∧ c ≤ 4) (h4 : v2 4 = v 4) (h6 : a2 6 = a 6) (h8 : a2 8 = a 8) (h9 : a2 9 = a 9) (h12 : ∀ j, a2 12 j = if j = r.toNat then m else a 12 j) (h13 : ∀ j, a2 13 j = if j = r.toNat then c else a 13 j) (h10 : ∀ j, a2 10 j = if j = t.toNat then a 10 j + 1 else a 10 j) : TBL v2 a2 := by
  unfold TBL at h ⊢
  rw [h4, h6, h8, h9]
  refine ⟨h.1, fun t2 r2 h1 h2 h3 h5 => ?_⟩
  refine hv2 (show 0 ≤ a 10 t2.toNat ∧ a 10 t2.toNat ≤ 200 from hB.2 10 _) (show 0 ≤ a 10 t.toNat from (hB.2 10 _).1) (fun b bt => ?_)
  rw [h12, h13]
  rw [h10] at h5
  by_cases e : r2 = r
  · rw [if_pos (by rw [e]), if_pos (by rw [e])]; exact ⟨hm, hc⟩
  · rw [if_neg (by omega), if_neg (by omega)]
    by_cases e2 : t2 = t
    · subst e2; rw [if_pos rfl] at h5; exact h.2 t2 r2 h1 h2 h3 (by omega)
    · rw [if_neg (by omega)] at h5; exact h.2 t2 r2 h1 h2 h3 h5
end
section
theorem up2_le {a : Nat → Nat → Int} {k i : Nat} {z : Int} (h : z ≤ a k i) : ∀ j, up2 a k i z k j ≤ a k j := by
  intro j
  by_cases e : j = i
  · subst e; rw [up2_s]; exact h
  · rw [up2_j e]; exact Int.le_refl _
theorem up2_if {a : Nat → Nat → Int} {k i : Nat} {z : Int} : ∀ j, up2 a k i z k j = if j = i then z else a k j := by
  intro j
  by_cases e : j = i
  · subst e; rw [up2_s, if_pos rfl]
  · rw [up2_j e, if_neg e]
set_option maxHeartbeats 4000000 in
set_option maxRecDepth 100000 in
theorem M_step {l : Launch} {G : GT} {h0 : Nat} {ad ln : Nat → Nat} {v : Nat → Int} {a : Nat → Nat → Int} {x t y z : Int} (hB : BX v a) (hx : -2147483648 ≤ x ∧ x ≤ 2147483647) (ht : -2147483648 ≤ t ∧ t ≤ 2147483647) (hy : -2147483648 ≤ y ∧ y ≤ 2147483647) (hz : -2147483648 ≤ z ∧ z ≤ 2147483647) (h19 : 0 ≤ v 19 ∧ v 19 ≤ 2048) (hln : v 19 ≤ (ln 18 : Nat) ∧ 64 ≤ ln 18 ∧ ln 18 ≤ 8192) : Mn l G yX12_step cX12_step 7 none 0 [.int (iI x), .int (iI t), .int (iI y), .int (iI z)] h0 ad ln v a 1 4110 (fun r ln2 v2 a2 => r = none ∧ fr [19] [18, 70] v a v2 a2 ∧ BX v2 a2 ∧ (v2 19 = v 19 + 4 ∧ v2 19 ≤ (ln2 18 : Nat) ∧ (64 ≤ ln2 18 ∧ ln2 18 ≤ 8192) ∧ (∀ j : Nat, (j : Int) < v 19 → a2 18 j = a 18 j) ∧ a2 18 (v 19).toNat = x ∧ a2 18 (v 19 + 1).toNat = t ∧ a2 18 (v 19 + 2).toNat = y ∧ a2 18 (v 19 + 3).toNat = z)) := by
  refine Mn.mk (by decide) (Nat.le_of_ble_eq_true rfl) ?_
  intro p e s m args below meth c A C
  have fp0 : fr [19] [18, 70] v a v a := fr.refl
  refine m_aload_n (j := 0) C dX12_step_0 rfl ?_
  have rv1 : (-2147483648) ≤ v 19 ∧ v 19 ≤ 2147483647 := hB.1 19
  refine m_get (k := 19) C dX12_step_1 w6_78 (by decide) rfl ?_
  refine m_bipush (z := 8) C dX12_step_4 (by decide) ?_
  refine m_iadd C dX12_step_6 ?_
  refine m_aload_n (j := 0) C dX12_step_7 rfl ?_
  refine m_geta (k := 18) C dX12_step_8 w6_77 (by decide) rfl ?_
  refine m_alen18 C dX12_step_11 ?_
  refine m_icmp_le (tgt := 62) C ⟨by omega, by omega⟩ ⟨by omega, by omega⟩ dX12_step_12 (by decide) (fun c1 => ?_) (fun c1 => ?_)
  · refine m_aload_n (j := 0) C dX12_step_62 rfl ?_
    refine m_geta (k := 18) C dX12_step_63 w6_77 (by decide) rfl ?_
    refine m_aload_n (j := 0) C dX12_step_66 rfl ?_
    refine m_get (k := 19) C dX12_step_67 w6_78 (by decide) rfl ?_
    refine m_iload_n (j := 1) C dX12_step_70 rfl ?_
    refine m_ast18 (w := x) C dX12_step_71 (by omega) (by omega) (by omega) ?_
    refine hv2 (show BX v (up2 a 18 (v 19).toNat x) from hB.set (k := 18) (i := (v 19).toNat) (z := x) (show (-2147483648) ≤ x ∧ x ≤ 2147483647 by omega)) (fp0.set (k := 18) (i := (v 19).toNat) (z := x) rfl) (fun bq1 fq1 => ?_)
    refine m_aload_n (j := 0) C dX12_step_72 rfl ?_
    refine m_geta (k := 18) C dX12_step_73 w6_77 (by decide) rfl ?_
    refine m_aload_n (j := 0) C dX12_step_76 rfl ?_
    refine m_get (k := 19) C dX12_step_77 w6_78 (by decide) rfl ?_
    refine m_iconst C dX12_step_80 ?_
    refine m_iadd C dX12_step_81 ?_
    refine m_iload_n (j := 2) C dX12_step_82 rfl ?_
    refine m_ast18 (w := t) C dX12_step_83 (by omega) (by omega) (by omega) ?_
    refine hv2 (show BX v (up2 (up2 a 18 (v 19).toNat x) 18 ((v 19) + 1).toNat t) from bq1.set (k := 18) (i := ((v 19) + 1).toNat) (z := t) (show (-2147483648) ≤ t ∧ t ≤ 2147483647 by omega)) (fq1.set (k := 18) (i := ((v 19) + 1).toNat) (z := t) rfl) (fun bq2 fq2 => ?_)
    refine m_aload_n (j := 0) C dX12_step_84 rfl ?_
    refine m_geta (k := 18) C dX12_step_85 w6_77 (by decide) rfl ?_
    refine m_aload_n (j := 0) C dX12_step_88 rfl ?_
    refine m_get (k := 19) C dX12_step_89 w6_78 (by decide) rfl ?_
    refine m_iconst C dX12_step_92 ?_
    refine m_iadd C dX12_step_93 ?_
    refine m_iload_n (j := 3) C dX12_step_94 rfl ?_
    refine m_ast18 (w := y) C dX12_step_95 (by omega) (by omega) (by omega) ?_
    refine hv2 (show BX v (up2 (up2 (up2 a 18 (v 19).toNat x) 18 ((v 19) + 1).toNat t) 18 ((v 19) + 2).toNat y) from bq2.set (k := 18) (i := ((v 19) + 2).toNat) (z := y) (show (-2147483648) ≤ y ∧ y ≤ 2147483647 by omega)) (fq2.set (k := 18) (i := ((v 19) + 2).toNat) (z := y) rfl) (fun bq3 fq3 => ?_)
    refine m_aload_n (j := 0) C dX12_step_96 rfl ?_
    refine m_geta (k := 18) C dX12_step_97 w6_77 (by decide) rfl ?_
    refine m_aload_n (j := 0) C dX12_step_100 rfl ?_
    refine m_get (k := 19) C dX12_step_101 w6_78 (by decide) rfl ?_
    refine m_iconst C dX12_step_104 ?_
    refine m_iadd C dX12_step_105 ?_
    refine m_iload (j := 4) C dX12_step_106 rfl ?_
    refine m_ast18 (w := z) C dX12_step_108 (by omega) (by omega) (by omega) ?_
    refine hv2 (show BX v (up2 (up2 (up2 (up2 a 18 (v 19).toNat x) 18 ((v 19) + 1).toNat t) 18 ((v 19) + 2).toNat y) 18 ((v 19) + 3).toNat z) from bq3.set (k := 18) (i := ((v 19) + 3).toNat) (z := z) (show (-2147483648) ≤ z ∧ z ≤ 2147483647 by omega)) (fq3.set (k := 18) (i := ((v 19) + 3).toNat) (z := z) rfl) (fun bq4 fq4 => ?_)
    refine m_aload_n (j := 0) C dX12_step_109 rfl ?_
    refine m_dup C dX12_step_110 rfl ?_
    refine m_get (k := 19) C dX12_step_111 w6_78 (by decide) rfl ?_
    refine m_iconst C dX12_step_114 ?_
    refine m_iadd C dX12_step_115 ?_
    refine m_put (k := 19) (z := (v 19) + 4) C dX12_step_116 w6_78 (by decide) rfl rfl rfl ?_
    refine hv2 (show BX (va_up v 19 ((v 19) + 4)) (up2 (up2 (up2 (up2 a 18 (v 19).toNat x) 18 ((v 19) + 1).toNat t) 18 ((v 19) + 2).toNat y) 18 ((v 19) + 3).toNat z) from bq4.put (k := 19) (z := (v 19) + 4) (show (-2147483648) ≤ ((v 19) + 4) ∧ ((v 19) + 4) ≤ 2147483647 by omega)) (fq4.put (k := 19) (z := (v 19) + 4) rfl) (fun bq5 fq5 => ?_)
    exact n_vret C dX12_step_119 rfl (by omega) (by omega) ⟨rfl, fq5, bq5, (by exact ⟨va_up_self _ _ _, (by show v 19 + 4 ≤ ((ln 18 : Nat) : Int); omega), ⟨by omega, by omega⟩, (fun j hj => ((push4 (a := a) (n := v 19) (x := x) (t := t) (y := y) (z := z) (by omega)).1 j hj).trans ((fun j _ => rfl) j hj)), (push4 (a := a) (n := v 19) (x := x) (t := t) (y := y) (z := z) (by omega)).2.1, (push4 (a := a) (n := v 19) (x := x) (t := t) (y := y) (z := z) (by omega)).2.2.1, (push4 (a := a) (n := v 19) (x := x) (t := t) (y := y) (z := z) (by omega)).2.2.2.1, (push4 (a := a) (n := v 19) (x := x) (t := t) (y := y) (z := z) (by omega)).2.2.2.2⟩)⟩
  · refine m_iconst C dX12_step_15 ?_
    refine m_aload_n (j := 0) C dX12_step_16 rfl ?_
    refine m_geta (k := 18) C dX12_step_17 w6_77 (by decide) rfl ?_
    refine m_alen18 C dX12_step_20 ?_
    refine m_imul C dX12_step_21 ?_
    refine m_newI (z := 2 * ((ln 18 : Nat) : Int)) (nb := (2 * ln 18)) C dX12_step_22 w1_57 ⟨by omega, by omega⟩ (by omega) ⟨by dsimp only [rmq]; omega, by dsimp only [rmq]; omega⟩ hB (fun bb vw1 aw1 fnw1 bnw1 znw1 => ?_)
    have fqw1 := fp0.call fnw1 rfl rfl
    refine x_astore (lv2 := [(5, .ref bb), (0, .ref h0), (1, .int (iI x)), (2, .int (iI t)), (3, .int (iI y)), (4, .int (iI z))]) C dX12_step_24 (by decide) rfl ?_
    refine x_iconst C dX12_step_26 ?_
    refine x_istore (lv2 := [(6, .int (iI 0)), (5, .ref bb), (0, .ref h0), (1, .int (iI x)), (2, .int (iI t)), (3, .int (iI y)), (4, .int (iI z))]) C dX12_step_27 (by decide) rfl ?_
    have Lp1 : ∀ (nn : Nat) (k : Int) (vb1 : Nat → Int) (ab1 : Nat → Nat → Int), v 19 + 1 - k < (nn : Int) → BX vb1 ab1 → fr [19] [18, 70] v a vb1 ab1 → (0 ≤ k ∧ k ≤ v 19) → (vb1 19 = v 19) → (∀ j : Nat, ab1 18 j = a 18 j) → (∀ j : Nat, (j : Int) < k → ab1 70 j = a 18 j) → mx p l e (rmq 0 1 4110) s m args below meth c G A 7 (MQ below (Qm G A (fun rq Lq Eq => ∃ (adq lnq : Nat → Nat) (vq : Nat → Int) (aq : Nat → Nat → Int), mI G h0 adq lnq vq aq Lq Eq ∧ (fun r ln2 v2 a2 => r = none ∧ fr [19] [18, 70] v a v2 a2 ∧ BX v2 a2 ∧ (v2 19 = v 19 + 4 ∧ v2 19 ≤ (ln2 18 : Nat) ∧ (64 ≤ ln2 18 ∧ ln2 18 ≤ 8192) ∧ (∀ j : Nat, (j : Int) < v 19 → a2 18 j = a 18 j) ∧ a2 18 (v 19).toNat = x ∧ a2 18 (v 19 + 1).toNat = t ∧ a2 18 (v 19 + 2).toNat = y ∧ a2 18 (v 19 + 3).toNat = z)) rq lnq vq aq)) args s 1 4110 A) bb (2 * ln 18) false h0 ad ln vb1 ab1 (0 + 1) (0 + (2 * ln 18)) 29 [(6, .int (iI k)), (5, .ref bb), (0, .ref h0), (1, .int (iI x)), (2, .int (iI t)), (3, .int (iI y)), (4, .int (iI z))] [] := by
      intro nn
      induction nn with
      | zero =>
        intro k vb1 ab1 hm bxb1 fpb1 hk h19k h18 hc
        exact absurd hm (by omega)
      | succ nn ih1 =>
        intro k vb1 ab1 hm bxb1 fpb1 hk h19k h18 hc
        refine x_iload (j := 0) C dX12_step_29 rfl ?_
        refine x_aload_n (j := 2) C dX12_step_31 rfl ?_
        have rv2 : (-2147483648) ≤ vb1 19 ∧ vb1 19 ≤ 2147483647 := bxb1.1 19
        refine x_get (k := 19) C dX12_step_32 w6_78 (by decide) rfl ?_
        refine x_icmp_ge (tgt := 56) C ⟨by omega, by omega⟩ (r32_c (lo := (-2147483648)) (hi := 2147483647) rv2.1 rv2.2 (by decide) (by decide)) dX12_step_35 (by decide) (fun c2 => ?_) (fun c2 => ?_)
        · refine x_aload_n (j := 2) C dX12_step_56 rfl ?_
          refine x_aload (j := 1) C dX12_step_57 rfl ?_
          refine x_sw C dX12_step_59 w6_77 rfl ⟨by omega, by omega⟩ (fun ad ln a9 hl9 h189 hk9 => ?_)
          have fq9 : fr [19] [18, 70] v a vb1 a9 := ⟨fpb1.1, fun j hj => (hk9 j (fun e => by subst e; exact absurd hj (by decide))).trans (fpb1.2 j hj)⟩
          have bx9 : BX vb1 a9 := ⟨bxb1.1, fun k j => by
              by_cases e : k = 18
              · subst e; rw [h189]; exact bxb1.2 70 j
              · rw [hk9 k e]; exact bxb1.2 k j⟩
          have hc9 : ∀ j : Nat, (j : Int) < vb1 19 → a9 18 j = a 18 j := fun j hj => by rw [h189]; exact hc j (by omega)
          refine m_aload_n (j := 2) C dX12_step_62 rfl ?_
          refine m_geta (k := 18) C dX12_step_63 w6_77 (by decide) rfl ?_
          refine m_aload_n (j := 2) C dX12_step_66 rfl ?_
          refine m_get (k := 19) C dX12_step_67 w6_78 (by decide) rfl ?_
          refine m_iload_n (j := 3) C dX12_step_70 rfl ?_
          refine m_ast18 (w := x) C dX12_step_71 (by omega) (by omega) (by omega) ?_
          refine hv2 (show BX vb1 (up2 a9 18 (vb1 19).toNat x) from bx9.set (k := 18) (i := (vb1 19).toNat) (z := x) (show (-2147483648) ≤ x ∧ x ≤ 2147483647 by omega)) (fq9.set (k := 18) (i := (vb1 19).toNat) (z := x) rfl) (fun bq6 fq6 => ?_)
          refine m_aload_n (j := 2) C dX12_step_72 rfl ?_
          refine m_geta (k := 18) C dX12_step_73 w6_77 (by decide) rfl ?_
          refine m_aload_n (j := 2) C dX12_step_76 rfl ?_
          refine m_get (k := 19) C dX12_step_77 w6_78 (by decide) rfl ?_
          refine m_iconst C dX12_step_80 ?_
          refine m_iadd C dX12_step_81 ?_
          refine m_iload_n (j := 4) C dX12_step_82 rfl ?_
          refine m_ast18 (w := t) C dX12_step_83 (by omega) (by omega) (by omega) ?_
          refine hv2 (show BX vb1 (up2 (up2 a9 18 (vb1 19).toNat x) 18 ((vb1 19) + 1).toNat t) from bq6.set (k := 18) (i := ((vb1 19) + 1).toNat) (z := t) (show (-2147483648) ≤ t ∧ t ≤ 2147483647 by omega)) (fq6.set (k := 18) (i := ((vb1 19) + 1).toNat) (z := t) rfl) (fun bq7 fq7 => ?_)
          refine m_aload_n (j := 2) C dX12_step_84 rfl ?_
          refine m_geta (k := 18) C dX12_step_85 w6_77 (by decide) rfl ?_
          refine m_aload_n (j := 2) C dX12_step_88 rfl ?_
          refine m_get (k := 19) C dX12_step_89 w6_78 (by decide) rfl ?_
          refine m_iconst C dX12_step_92 ?_
          refine m_iadd C dX12_step_93 ?_
          refine m_iload_n (j := 5) C dX12_step_94 rfl ?_
          refine m_ast18 (w := y) C dX12_step_95 (by omega) (by omega) (by omega) ?_
          refine hv2 (show BX vb1 (up2 (up2 (up2 a9 18 (vb1 19).toNat x) 18 ((vb1 19) + 1).toNat t) 18 ((vb1 19) + 2).toNat y) from bq7.set (k := 18) (i := ((vb1 19) + 2).toNat) (z := y) (show (-2147483648) ≤ y ∧ y ≤ 2147483647 by omega)) (fq7.set (k := 18) (i := ((vb1 19) + 2).toNat) (z := y) rfl) (fun bq8 fq8 => ?_)
          refine m_aload_n (j := 2) C dX12_step_96 rfl ?_
          refine m_geta (k := 18) C dX12_step_97 w6_77 (by decide) rfl ?_
          refine m_aload_n (j := 2) C dX12_step_100 rfl ?_
          refine m_get (k := 19) C dX12_step_101 w6_78 (by decide) rfl ?_
          refine m_iconst C dX12_step_104 ?_
          refine m_iadd C dX12_step_105 ?_
          refine m_iload (j := 6) C dX12_step_106 rfl ?_
          refine m_ast18 (w := z) C dX12_step_108 (by omega) (by omega) (by omega) ?_
          refine hv2 (show BX vb1 (up2 (up2 (up2 (up2 a9 18 (vb1 19).toNat x) 18 ((vb1 19) + 1).toNat t) 18 ((vb1 19) + 2).toNat y) 18 ((vb1 19) + 3).toNat z) from bq8.set (k := 18) (i := ((vb1 19) + 3).toNat) (z := z) (show (-2147483648) ≤ z ∧ z ≤ 2147483647 by omega)) (fq8.set (k := 18) (i := ((vb1 19) + 3).toNat) (z := z) rfl) (fun bq9 fq9 => ?_)
          refine m_aload_n (j := 2) C dX12_step_109 rfl ?_
          refine m_dup C dX12_step_110 rfl ?_
          refine m_get (k := 19) C dX12_step_111 w6_78 (by decide) rfl ?_
          refine m_iconst C dX12_step_114 ?_
          refine m_iadd C dX12_step_115 ?_
          refine m_put (k := 19) (z := (vb1 19) + 4) C dX12_step_116 w6_78 (by decide) rfl rfl rfl ?_
          refine hv2 (show BX (va_up vb1 19 ((vb1 19) + 4)) (up2 (up2 (up2 (up2 a9 18 (vb1 19).toNat x) 18 ((vb1 19) + 1).toNat t) 18 ((vb1 19) + 2).toNat y) 18 ((vb1 19) + 3).toNat z) from bq9.put (k := 19) (z := (vb1 19) + 4) (show (-2147483648) ≤ ((vb1 19) + 4) ∧ ((vb1 19) + 4) ≤ 2147483647 by omega)) (fq9.put (k := 19) (z := (vb1 19) + 4) rfl) (fun bq10 fq10 => ?_)
          exact n_vret C dX12_step_119 rfl (by omega) (by omega) ⟨rfl, fq10, bq10, (by rw [← h19k]; exact ⟨va_up_self _ _ _, (by show vb1 19 + 4 ≤ ((ln 18 : Nat) : Int); omega), ⟨by omega, by omega⟩, (fun j hj => ((push4 (a := a9) (n := vb1 19) (x := x) (t := t) (y := y) (z := z) (by omega)).1 j hj).trans (hc9 j hj)), (push4 (a := a9) (n := vb1 19) (x := x) (t := t) (y := y) (z := z) (by omega)).2.1, (push4 (a := a9) (n := vb1 19) (x := x) (t := t) (y := y) (z := z) (by omega)).2.2.1, (push4 (a := a9) (n := vb1 19) (x := x) (t := t) (y := y) (z := z) (by omega)).2.2.2.1, (push4 (a := a9) (n := vb1 19) (x := x) (t := t) (y := y) (z := z) (by omega)).2.2.2.2⟩)⟩
        · refine x_aload (j := 1) C dX12_step_38 rfl ?_
          refine x_iload (j := 0) C dX12_step_40 rfl ?_
          refine x_aload_n (j := 2) C dX12_step_42 rfl ?_
          refine x_geta (k := 18) C dX12_step_43 w6_77 (by decide) rfl ?_
          refine x_iload (j := 0) C dX12_step_46 rfl ?_
          refine x_ald18 C dX12_step_48 (by omega) (by omega) (by omega) ?_
          have ra1 : (-2147483648) ≤ ab1 18 k.toNat ∧ ab1 18 k.toNat ≤ 2147483647 := bxb1.2 18 (k.toNat)
          refine x_last (w := ab1 18 k.toNat) C dX12_step_49 rfl (by omega) (by omega) (by omega) ?_
          refine hv2 (show BX vb1 (up2 ab1 70 k.toNat (ab1 18 k.toNat)) from bxb1.set (k := 70) (i := k.toNat) (z := ab1 18 k.toNat) (show (-2147483648) ≤ (ab1 18 k.toNat) ∧ (ab1 18 k.toNat) ≤ 2147483647 by omega)) (fpb1.set (k := 70) (i := k.toNat) (z := ab1 18 k.toNat) rfl) (fun bq11 fq11 => ?_)
          refine x_iinc (z := k) (j := 0) (lv2 := [(6, .int (iI (k + 1))), (5, .ref bb), (0, .ref h0), (1, .int (iI x)), (2, .int (iI t)), (3, .int (iI y)), (4, .int (iI z))]) C dX12_step_50 rfl (by decide) rfl ?_
          refine x_goto (tgt := 29) C dX12_step_53 (by decide) ?_
          refine x_lv (lv2 := [(6, .int (iI (k + 1))), (5, .ref bb), (0, .ref h0), (1, .int (iI x)), (2, .int (iI t)), (3, .int (iI y)), (4, .int (iI z))]) [0, 1, 2, 3, 4, 5, 6] rfl ?_
          exact ih1  (k + 1) _ _ (by omega) bq11 fq11 (by omega) (by show (vb1 19) = v 19; omega) (fun j => by rw [up2_k (by decide)]; exact h18 j) (fun j hj => by
              by_cases e : j = k.toNat
              · subst e; rw [up2_s]; exact h18 _
              · rw [up2_j e]; exact hc j (by omega))
    refine hv2 (show (-2147483648) ≤ vw1 19 ∧ vw1 19 ≤ 2147483647 from bnw1.1 19) (show vw1 19 = v 19 from fnw1.1 19 rfl) (fun rv3 ve1 => ?_)
    refine x_lv (lv2 := [(6, .int (iI 0)), (5, .ref bb), (0, .ref h0), (1, .int (iI x)), (2, .int (iI t)), (3, .int (iI y)), (4, .int (iI z))]) [0, 1, 2, 3, 4, 5, 6] rfl ?_
    exact Lp1 2050 0 _ _ (by omega) bnw1 fqw1 (by omega) (by show (vw1 19) = v 19; omega) (fun j => congrFun (fnw1.2 18 rfl) j) (fun j hj => absurd hj (by omega))
end
