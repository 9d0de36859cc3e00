section
set_option maxHeartbeats 4000000 in
set_option maxRecDepth 100000 in
theorem M_looksLike {l : Launch} {G : GT} {h0 : Nat} {ad ln : Nat → Nat} {v : Nat → Int} {a : Nat → Nat → Int}  {x y : Int} (hB : BX v a) (hx : -2147483648 ≤ x ∧ x ≤ 2147483647) (hy : -2147483648 ≤ y ∧ y ≤ 2147483647) : Mm l G yX12_looksLike cX12_looksLike 3 (some .boolean) 0 [.int (iI x), .int (iI y)] h0 ad ln v a 0 0 (fun r v2 a2 => ∃ f : Int, r = some (.int (iI f)) ∧ fr [] [] v a v2 a2 ∧ BX v2 a2 ∧ (f = 0 ∨ f = 1)) := by
  refine Mm.mk (by decide) (Nat.le_of_ble_eq_true rfl) ?_
  intro p e s m args below meth c A C
  have fp0 : fr [] [] v a v a := fr.refl
  refine m_iload_n (j := 1) C dX12_looksLike_0 rfl ?_
  refine m_iload_n (j := 2) C dX12_looksLike_1 rfl ?_
  obtain ⟨zz1, hzz1, ezz1⟩ := iI_of (iI x ^^^ iI y)
  refine m_ixor (w := iI zz1) C dX12_looksLike_2 ezz1 ?_
  refine m_sipush (z := 255) C dX12_looksLike_3 (by decide) ?_
  obtain ⟨zz2, hzz2, ezz2⟩ := iI_of (iI zz1 &&& iI 255)
  refine m_iand (w := iI zz2) C dX12_looksLike_6 ezz2 ?_
  refine m_aload_n (j := 0) C dX12_looksLike_7 rfl ?_
  have rv1 : (-2147483648) ≤ v 56 ∧ v 56 ≤ 2147483647 := hB.1 56
  refine m_get (k := 56) C dX12_looksLike_8 w6_115 (by decide) rfl ?_
  refine m_iconst C dX12_looksLike_11 ?_
  obtain ⟨zz3, hzz3, ezz3⟩ := iI_of (iI (v 56) ^^^ iI (-1))
  refine m_ixor (w := iI zz3) C dX12_looksLike_12 ezz3 ?_
  obtain ⟨zz4, hzz4, ezz4⟩ := iI_of (iI zz2 &&& iI zz3)
  refine m_iand (w := iI zz4) C dX12_looksLike_13 ezz4 ?_
  refine m_if_ne (tgt := 21) C ⟨by omega, by omega⟩ dX12_looksLike_14 (by decide) (fun c1 => ?_) (fun c1 => ?_)
  · refine m_iconst C dX12_looksLike_21 ?_
    exact m_zret C dX12_looksLike_22 rfl (Or.inl rfl) (Nat.le_of_ble_eq_true rfl) (Nat.le_of_ble_eq_true rfl) ⟨0, rfl, fp0, hB, (by omega)⟩
  · refine m_iconst C dX12_looksLike_17 ?_
    refine m_goto (tgt := 22) C dX12_looksLike_18 (by decide) ?_
    exact m_zret C dX12_looksLike_22 rfl (Or.inr rfl) (Nat.le_of_ble_eq_true rfl) (Nat.le_of_ble_eq_true rfl) ⟨1, rfl, fp0, hB, (by omega)⟩
def stt (x y z : Int32) : Int32 := 4 * x + 2 * y + (if z = 0 then 0 else 1)
theorem stt_c {x y z : Int} (hz : z = 0 ∨ z = 1) : stt (iI x) (iI y) (iI z) = iI (4 * x + 2 * y + z) := by
  unfold stt
  refine hv2 (show (4 : Int32) = iI 4 from rfl) (show (2 : Int32) = iI 2 from rfl) (fun e e2 => ?_)
  rcases hz with rfl | rfl
  · rw [if_pos (show iI 0 = 0 from rfl), e, e2, show (0 : Int32) = iI 0 from rfl, ← Int32.ofInt_mul, ← Int32.ofInt_mul, ← Int32.ofInt_add, ← Int32.ofInt_add]
  · rw [if_neg (by decide), e, e2, show (1 : Int32) = iI 1 from rfl, ← Int32.ofInt_mul, ← Int32.ofInt_mul, ← Int32.ofInt_add, ← Int32.ofInt_add]
set_option maxHeartbeats 4000000 in
set_option maxRecDepth 100000 in
theorem s_state {l : Launch} {G : GT} {L : List Nat} {E : Nat → va_E} (x y z : Int32) : Mq l G yX12_state cX12_state 3 (some .int) 0 [.int x, .int y, .int z] L E 0 0 (fun v L2 E2 => v = some (.int (stt x y z)) ∧ L2 = L ∧ E2 = E) := by
  refine Mq.mk (by decide) (Nat.le_of_ble_eq_true rfl) ?_
  intro p e s m args below meth c A C
  refine q_iconst (v := 4) C dX12_state_0 (by decide) ?_
  refine q_iload_n (j := 0) C dX12_state_1 rfl ?_
  refine q_imul (v := ((4 : Int32) * x)) C dX12_state_2 rfl ?_
  refine q_iconst (v := 2) C dX12_state_3 (by decide) ?_
  refine q_iload_n (j := 1) C dX12_state_4 rfl ?_
  refine q_imul (v := ((2 : Int32) * y)) C dX12_state_5 rfl ?_
  refine q_iadd (v := (((4 : Int32) * x) + ((2 : Int32) * y))) C dX12_state_6 rfl ?_
  refine q_iload_n (j := 2) C dX12_state_7 rfl ?_
  refine q_if_eq (tgt := 15) C dX12_state_8 (by decide) (fun c1 => ?_) (fun c1 => ?_)
  · refine q_iconst (v := 0) C dX12_state_15 (by decide) ?_
    refine q_iadd (v := ((((4 : Int32) * x) + ((2 : Int32) * y)) + (0 : Int32))) C dX12_state_16 rfl ?_
    exact q_iret C dX12_state_17 rfl (Nat.le_of_ble_eq_true rfl) (Nat.le_of_ble_eq_true rfl) ⟨(by refine congrArg (fun z => some (Value.int z)) ?_; unfold stt; first | rw [if_pos c1] | rw [if_neg c1]), rfl, rfl⟩
  · refine q_iconst (v := 1) C dX12_state_11 (by decide) ?_
    refine q_goto (tgt := 16) C dX12_state_12 (by decide) ?_
    refine q_iadd (v := ((((4 : Int32) * x) + ((2 : Int32) * y)) + (1 : Int32))) C dX12_state_16 rfl ?_
    exact q_iret C dX12_state_17 rfl (Nat.le_of_ble_eq_true rfl) (Nat.le_of_ble_eq_true rfl) ⟨(by refine congrArg (fun z => some (Value.int z)) ?_; unfold stt; first | rw [if_pos c1] | rw [if_neg c1]), rfl, rfl⟩
set_option maxHeartbeats 4000000 in
set_option maxRecDepth 100000 in
theorem M_may {l : Launch} {G : GT} {h0 : Nat} {ad ln : Nat → Nat} {v : Nat → Int} {a : Nat → Nat → Int}  {r1 x pt g : Int} (hB : BX v a) (hr : 0 ≤ r1 ∧ r1 < 12016) (ho : -4 ≤ a 44 r1.toNat ∧ a 44 r1.toNat < 6000) (ho2 : 1 ≤ a 46 r1.toNat ∧ a 46 r1.toNat ≤ 4) (ho3 : 0 ≤ a 45 r1.toNat ∧ (0 ≤ a 44 r1.toNat → a 45 r1.toNat + a 46 r1.toNat ≤ 24000) ∧ (a 44 r1.toNat < 0 → a 45 r1.toNat + a 46 r1.toNat ≤ 480)) (hx : 0 ≤ x ∧ x ≤ 100) (h50 : v 50 ≤ 100) (hp : pt = 0 ∨ pt = 1) (hg : g = 0 ∨ g = 1) : Mm l G yX12_may cX12_may 6 (some .boolean) 2 [.int (iI r1), .int (iI x), .int (iI pt), .int (iI g)] h0 ad ln v a 0 0 (fun r v2 a2 => ∃ f : Int, r = some (.int (iI f)) ∧ fr [] [] v a v2 a2 ∧ BX v2 a2 ∧ (f = 0 ∨ (f = 1 ∧ x + a 46 r1.toNat ≤ v 50))) := by
  refine Mm.mk (by decide) (Nat.le_of_ble_eq_true rfl) ?_
  intro p e s m args below meth c A C
  refine hv2 (show 0 ≤ v 50 ∧ v 50 ≤ 40200 from hB.1 50) (show fr [] [] v a v a from fr.refl) (fun r50 fp0 => ?_)
  refine m_iload_n (j := 2) C dX12_may_0 rfl ?_
  refine m_aload_n (j := 0) C dX12_may_1 rfl ?_
  refine m_geta (k := 46) C dX12_may_2 w6_105 (by decide) rfl ?_
  refine m_iload_n (j := 1) C dX12_may_5 rfl ?_
  refine m_ald (k := 46) C dX12_may_6 rfl rfl (by decide) (by omega) (by show _ < ((_ : Nat) : Int); simp only [mlen]; omega) (by decide) ?_
  have ra1 : 0 ≤ a 46 r1.toNat ∧ a 46 r1.toNat ≤ 4 := hB.2 46 (r1.toNat)
  refine m_iadd C dX12_may_7 ?_
  refine m_aload_n (j := 0) C dX12_may_8 rfl ?_
  have rv1 : 0 ≤ v 50 ∧ v 50 ≤ 40200 := hB.1 50
  refine m_get (k := 50) C dX12_may_9 w6_109 (by decide) rfl ?_
  refine m_icmp_gt (tgt := 28) C ⟨by omega, by omega⟩ (r32_c (lo := 0) (hi := 40200) rv1.1 rv1.2 (by decide) (by decide)) dX12_may_12 (by decide) (fun c1 => ?_) (fun c1 => ?_)
  · refine m_iconst C dX12_may_28 ?_
    exact m_zret C dX12_may_29 rfl (Or.inl rfl) (Nat.le_of_ble_eq_true rfl) (Nat.le_of_ble_eq_true rfl) ⟨0, rfl, fp0, hB, (by omega)⟩
  · refine m_iload (j := 4) C dX12_may_15 rfl ?_
    refine m_if_eq (tgt := 30) C ⟨by omega, by omega⟩ dX12_may_17 (by decide) (fun c2 => ?_) (fun c2 => ?_)
    · refine m_iconst C dX12_may_30 ?_
      refine m_istore (lv2 := [(5, .int (iI 0)), (0, .ref h0), (1, .int (iI r1)), (2, .int (iI x)), (3, .int (iI pt)), (4, .int (iI g))]) C dX12_may_31 (by decide) rfl ?_
      have Lp1 : ∀ (nn : Nat) (k : Int) (vb1 : Nat → Int) (ab1 : Nat → Nat → Int), 5 - k < (nn : Int) → BX vb1 ab1 → fr [] [] v a vb1 ab1 → (0 ≤ k ∧ k ≤ 4) → mw p l e (rmq 2 0 0) s m args below meth c G A 6 (MQ below (Qm G A (fun rq Lq Eq => ∃ (vq : Nat → Int) (aq : Nat → Nat → Int), mI G h0 ad ln vq aq Lq Eq ∧ (fun r v2 a2 => ∃ f : Int, r = some (.int (iI f)) ∧ fr [] [] v a v2 a2 ∧ BX v2 a2 ∧ (f = 0 ∨ (f = 1 ∧ x + a 46 r1.toNat ≤ v 50))) rq vq aq)) args s 0 0 A) h0 ad ln vb1 ab1 0 0 33 [(5, .int (iI k)), (0, .ref h0), (1, .int (iI r1)), (2, .int (iI x)), (3, .int (iI pt)), (4, .int (iI g))] [] := by
        intro nn
        induction nn with
        | zero =>
          intro k vb1 ab1 hm bxb1 fpb1 hk
          exact absurd hm (by omega)
        | succ nn ih1 =>
          intro k vb1 ab1 hm bxb1 fpb1 hk
          refine m_iload (j := 0) C dX12_may_33 rfl ?_
          refine m_aload_n (j := 1) C dX12_may_35 rfl ?_
          refine m_geta (k := 46) C dX12_may_36 w6_105 (by decide) rfl ?_
          refine m_iload_n (j := 2) C dX12_may_39 rfl ?_
          refine m_ald (k := 46) C dX12_may_40 rfl rfl (by decide) (by omega) (by show _ < ((_ : Nat) : Int); simp only [mlen]; omega) (by decide) ?_
          refine hv2 (show 0 ≤ ab1 46 r1.toNat ∧ ab1 46 r1.toNat ≤ 4 from bxb1.2 46 (r1.toNat)) (show ab1 46 (r1.toNat) = a 46 (r1.toNat) from congrFun (fpb1.2 46 rfl) (r1.toNat)) (fun ra2 ae1 => ?_)
          refine m_st (st2 := [.int (iI (a 46 r1.toNat)), .int (iI k)]) (congrArg (fun z => Value.int (iI z) :: [.int (iI k)]) (congrFun (fpb1.2 46 rfl) (r1.toNat))) ?_
          refine m_icmp_ge (tgt := 75) C (r32_c (lo := 0) (hi := 4) hk.1 hk.2 (by decide) (by decide)) (r32_c (lo := 0) (hi := 4) ra1.1 ra1.2 (by decide) (by decide)) dX12_may_41 (by decide) (fun c3 => ?_) (fun c3 => ?_)
          · refine m_aload_n (j := 1) C dX12_may_75 rfl ?_
            refine m_geta (k := 57) C dX12_may_76 w6_116 (by decide) rfl ?_
            refine m_iload_n (j := 3) C dX12_may_79 rfl ?_
            refine m_aload_n (j := 1) C dX12_may_80 rfl ?_
            refine m_geta (k := 46) C dX12_may_81 w6_105 (by decide) rfl ?_
            refine m_iload_n (j := 2) C dX12_may_84 rfl ?_
            refine m_ald (k := 46) C dX12_may_85 rfl rfl (by decide) (by omega) (by show _ < ((_ : Nat) : Int); simp only [mlen]; omega) (by decide) ?_
            refine m_st (st2 := [.int (iI (a 46 r1.toNat)), .int (iI x), .ref (ad 57)]) (congrArg (fun z => Value.int (iI z) :: [.int (iI x), .ref (ad 57)]) (congrFun (fpb1.2 46 rfl) (r1.toNat))) ?_
            refine m_iadd C dX12_may_86 ?_
            refine m_aload_n (j := 1) C dX12_may_87 rfl ?_
            refine m_iload_n (j := 2) C dX12_may_88 rfl ?_
            refine m_iload_n (j := 4) C dX12_may_89 rfl ?_
            refine m_call (mc2 := 0) (ms2 := 0) (As := [.int (iI r1), .int (iI pt)]) (rest := [.int (iI (x + (a 46 r1.toNat))), .ref (ad 57)]) C (M_next (r := r1) (q := pt) bxb1.rg (by omega) (by omega)) dX12_may_90 kV_X12_367 rfl ck_13 rfl (Nat.le_of_ble_eq_true rfl) ⟨Nat.le_of_ble_eq_true rfl, Nat.le_of_ble_eq_true rfl⟩ ⟨Nat.le_of_ble_eq_true rfl, Nat.le_of_ble_eq_true rfl⟩ (fun rh1 vh1 ah1 h1 => ?_)
            obtain ⟨f1, rfl, hf1, rfl, rfl⟩ := h1
            have gf1 : f1 = 0 ∨ f1 = 1 := hf1
            refine m_st (st2 := [.int (iI f1), .int (iI (x + (a 46 r1.toNat))), .ref (ad 57)]) rfl ?_
            refine m_aload_n (j := 1) C dX12_may_93 rfl ?_
            refine m_geta (k := 44) C dX12_may_94 w6_103 (by decide) rfl ?_
            refine m_iload_n (j := 2) C dX12_may_97 rfl ?_
            refine m_ald (k := 44) C dX12_may_98 rfl rfl (by decide) (by omega) (by show _ < ((_ : Nat) : Int); simp only [mlen]; omega) (by decide) ?_
            refine hv2 (show (-4) ≤ ab1 44 r1.toNat ∧ ab1 44 r1.toNat ≤ 5999 from bxb1.2 44 (r1.toNat)) (show ab1 44 (r1.toNat) = a 44 (r1.toNat) from congrFun (fpb1.2 44 rfl) (r1.toNat)) (fun ra3 ae2 => ?_)
            refine m_st (st2 := [.int (iI (a 44 r1.toNat)), .int (iI f1), .int (iI (x + (a 46 r1.toNat))), .ref (ad 57)]) (congrArg (fun z => Value.int (iI z) :: [.int (iI f1), .int (iI (x + (a 46 r1.toNat))), .ref (ad 57)]) (congrFun (fpb1.2 44 rfl) (r1.toNat))) ?_
            refine m_iconst C dX12_may_99 ?_
            refine m_icmp_ne (tgt := 107) C ⟨by omega, by omega⟩ ⟨by decide, by decide⟩ dX12_may_100 (by decide) (fun c4 => ?_) (fun c4 => ?_)
            · refine m_iconst C dX12_may_107 ?_
              refine m_callS (As := [.int (iI (x + (a 46 r1.toNat))), .int (iI f1), .int (iI 0)]) (rest := [.ref (ad 57)]) C (fun L E => s_state (iI (x + (a 46 r1.toNat))) (iI f1) (iI 0)) dX12_may_108 kS_X12_370 rfl rfl (Nat.le_of_ble_eq_true rfl) ⟨Nat.le_of_ble_eq_true rfl, Nat.le_of_ble_eq_true rfl⟩ ⟨Nat.le_of_ble_eq_true rfl, Nat.le_of_ble_eq_true rfl⟩ ?_
              obtain ⟨sx1, hsx1⟩ : ∃ w : Int, w = 4 * (x + (a 46 r1.toNat)) + 2 * f1 + 0 := ⟨_, rfl⟩
              · refine m_st (st2 := [.int (iI sx1), .ref (ad 57)]) (by rw [stt_c (by omega), ← hsx1]) ?_
                refine m_zald (k := 57) C dX12_may_111 rfl rfl (by decide) (by omega) (by show _ < ((_ : Nat) : Int); simp only [mlen]; omega) (by decide) ?_
                refine hv2 (show 0 ≤ ab1 57 sx1.toNat ∧ ab1 57 sx1.toNat ≤ 1 from bxb1.2 57 (sx1.toNat)) (show ab1 57 (sx1.toNat) = a 57 (sx1.toNat) from congrFun (fpb1.2 57 rfl) (sx1.toNat)) (fun ra4 ae3 => ?_)
                refine m_st (st2 := [.int (iI (a 57 sx1.toNat))]) (congrArg (fun z => Value.int (iI z) :: []) (congrFun (fpb1.2 57 rfl) (sx1.toNat))) ?_
                exact m_zret C dX12_may_112 rfl (by omega) (Nat.le_of_ble_eq_true rfl) (Nat.le_of_ble_eq_true rfl) ⟨(a 57 sx1.toNat), rfl, fpb1, bxb1, (by omega)⟩
            · refine m_iconst C dX12_may_103 ?_
              refine m_goto (tgt := 108) C dX12_may_104 (by decide) ?_
              refine m_callS (As := [.int (iI (x + (a 46 r1.toNat))), .int (iI f1), .int (iI 1)]) (rest := [.ref (ad 57)]) C (fun L E => s_state (iI (x + (a 46 r1.toNat))) (iI f1) (iI 1)) dX12_may_108 kS_X12_370 rfl rfl (Nat.le_of_ble_eq_true rfl) ⟨Nat.le_of_ble_eq_true rfl, Nat.le_of_ble_eq_true rfl⟩ ⟨Nat.le_of_ble_eq_true rfl, Nat.le_of_ble_eq_true rfl⟩ ?_
              obtain ⟨sx2, hsx2⟩ : ∃ w : Int, w = 4 * (x + (a 46 r1.toNat)) + 2 * f1 + 1 := ⟨_, rfl⟩
              · refine m_st (st2 := [.int (iI sx2), .ref (ad 57)]) (by rw [stt_c (by omega), ← hsx2]) ?_
                refine m_zald (k := 57) C dX12_may_111 rfl rfl (by decide) (by omega) (by show _ < ((_ : Nat) : Int); simp only [mlen]; omega) (by decide) ?_
                refine hv2 (show 0 ≤ ab1 57 sx2.toNat ∧ ab1 57 sx2.toNat ≤ 1 from bxb1.2 57 (sx2.toNat)) (show ab1 57 (sx2.toNat) = a 57 (sx2.toNat) from congrFun (fpb1.2 57 rfl) (sx2.toNat)) (fun ra5 ae4 => ?_)
                refine m_st (st2 := [.int (iI (a 57 sx2.toNat))]) (congrArg (fun z => Value.int (iI z) :: []) (congrFun (fpb1.2 57 rfl) (sx2.toNat))) ?_
                exact m_zret C dX12_may_112 rfl (by omega) (Nat.le_of_ble_eq_true rfl) (Nat.le_of_ble_eq_true rfl) ⟨(a 57 sx2.toNat), rfl, fpb1, bxb1, (by omega)⟩
          · refine m_aload_n (j := 1) C dX12_may_44 rfl ?_
            refine m_aload_n (j := 1) C dX12_may_45 rfl ?_
            refine m_iload_n (j := 2) C dX12_may_46 rfl ?_
            refine m_iload (j := 0) C dX12_may_47 rfl ?_
            refine hv4 (show (-4) ≤ ab1 44 r1.toNat ∧ ab1 44 r1.toNat ≤ 5999 from bxb1.2 44 (r1.toNat)) (show ab1 44 (r1.toNat) = a 44 (r1.toNat) from congrFun (fpb1.2 44 rfl) (r1.toNat)) (show 0 ≤ ab1 45 r1.toNat ∧ ab1 45 r1.toNat ≤ 23999 from bxb1.2 45 (r1.toNat)) (show ab1 45 (r1.toNat) = a 45 (r1.toNat) from congrFun (fpb1.2 45 rfl) (r1.toNat)) (fun ra6 ae5 ra7 ae6 => ?_)
            refine m_call (mc2 := 0) (ms2 := 0) (As := [.int (iI r1), .int (iI k)]) (rest := [.ref h0]) C (M_rowCell (r := r1) (k := k) bxb1.rg (by omega) (by omega)) dX12_may_49 kV_X12_324 rfl ck_13 rfl (Nat.le_of_ble_eq_true rfl) ⟨Nat.le_of_ble_eq_true rfl, Nat.le_of_ble_eq_true rfl⟩ ⟨Nat.le_of_ble_eq_true rfl, Nat.le_of_ble_eq_true rfl⟩ (fun rh4 vh4 ah4 h4 => ?_)
            obtain ⟨f2, rfl, hf2, rfl, rfl⟩ := h4
            have gf2 : -2147483648 ≤ f2 ∧ f2 < 2147483648 := hf2
            refine m_st (st2 := [.int (iI f2), .ref h0]) rfl ?_
            refine m_aload_n (j := 1) C dX12_may_52 rfl ?_
            refine m_geta (k := 48) C dX12_may_53 w6_107 (by decide) rfl ?_
            refine m_iload_n (j := 3) C dX12_may_56 rfl ?_
            refine m_iload (j := 0) C dX12_may_57 rfl ?_
            refine m_iadd C dX12_may_59 ?_
            refine m_ald (k := 48) C dX12_may_60 rfl rfl (by decide) (by omega) (by show _ < ((_ : Nat) : Int); simp only [mlen]; omega) (by decide) ?_
            refine hv2 (show (-2147483648) ≤ ab1 48 (x + k).toNat ∧ ab1 48 (x + k).toNat ≤ 2147483647 from bxb1.2 48 ((x + k).toNat)) (show ab1 48 ((x + k).toNat) = a 48 ((x + k).toNat) from congrFun (fpb1.2 48 rfl) ((x + k).toNat)) (fun ra8 ae7 => ?_)
            refine m_st (st2 := [.int (iI (a 48 (x + k).toNat)), .int (iI f2), .ref h0]) (congrArg (fun z => Value.int (iI z) :: [.int (iI f2), .ref h0]) (congrFun (fpb1.2 48 rfl) ((x + k).toNat))) ?_
            refine m_call (mc2 := 0) (ms2 := 0) (As := [.int (iI f2), .int (iI (a 48 (x + k).toNat))]) (rest := []) C (M_looksLike (x := f2) (y := a 48 (x + k).toNat) bxb1 (by show -2147483648 ≤ f2 ∧ f2 ≤ 2147483647; omega) (by show -2147483648 ≤ (a 48 (x + k).toNat) ∧ (a 48 (x + k).toNat) ≤ 2147483647; omega)) dX12_may_61 kV_X12_363 rfl ck_13 rfl (Nat.le_of_ble_eq_true rfl) ⟨Nat.le_of_ble_eq_true rfl, Nat.le_of_ble_eq_true rfl⟩ ⟨Nat.le_of_ble_eq_true rfl, Nat.le_of_ble_eq_true rfl⟩ (fun rh5 vh5 ah5 h5 => ?_)
            obtain ⟨f3, rfl, fn1, bn1, ex1⟩ := h5
            obtain ⟨rfl, rfl⟩ := fn1.eq
            have gf3 : f3 = 0 ∨ f3 = 1 := ex1
            refine m_st (st2 := [.int (iI f3)]) rfl ?_
            refine m_if_ne (tgt := 69) C (r32_01 gf3) dX12_may_64 (by decide) (fun c5 => ?_) (fun c5 => ?_)
            · replace gf3 := (gf3.resolve_left c5)
              refine m_iinc (z := k) (j := 0) (lv2 := [(5, .int (iI (k + 1))), (0, .ref h0), (1, .int (iI r1)), (2, .int (iI x)), (3, .int (iI pt)), (4, .int (iI g))]) C dX12_may_69 rfl (by decide) rfl ?_
              refine m_goto (tgt := 33) C dX12_may_72 (by decide) ?_
              refine m_lv (lv2 := [(5, .int (iI (k + 1))), (0, .ref h0), (1, .int (iI r1)), (2, .int (iI x)), (3, .int (iI pt)), (4, .int (iI g))]) [0, 1, 2, 3, 4, 5] rfl ?_
              exact ih1  (k + 1) _ _ (by omega) bxb1 fpb1 (by omega)
            · clear gf3
              refine m_iconst C dX12_may_67 ?_
              exact m_zret C dX12_may_68 rfl (Or.inl rfl) (Nat.le_of_ble_eq_true rfl) (Nat.le_of_ble_eq_true rfl) ⟨0, rfl, fpb1, bxb1, (by omega)⟩
      refine m_lv (lv2 := [(5, .int (iI 0)), (0, .ref h0), (1, .int (iI r1)), (2, .int (iI x)), (3, .int (iI pt)), (4, .int (iI g))]) [0, 1, 2, 3, 4, 5] rfl ?_
      exact Lp1 6 0 _ _ (by omega) hB fp0 (by omega)
    · refine m_aload_n (j := 0) C dX12_may_20 rfl ?_
      refine m_iload_n (j := 1) C dX12_may_21 rfl ?_
      have ra9 : (-4) ≤ a 44 r1.toNat ∧ a 44 r1.toNat ≤ 5999 := hB.2 44 (r1.toNat)
      refine m_call (mc2 := 0) (ms2 := 0) (As := [.int (iI r1)]) (rest := []) C (M_isSmallRule (r := r1) hB.rg (by omega) (by show a 44 r1.toNat < 6000; omega)) dX12_may_22 kV_X12_348 rfl ck_13 rfl (Nat.le_of_ble_eq_true rfl) ⟨Nat.le_of_ble_eq_true rfl, Nat.le_of_ble_eq_true rfl⟩ ⟨Nat.le_of_ble_eq_true rfl, Nat.le_of_ble_eq_true rfl⟩ (fun rh6 vh6 ah6 h6 => ?_)
      obtain ⟨f4, rfl, hf4, rfl, rfl⟩ := h6
      have gf4 : f4 = 0 ∨ f4 = 1 := hf4
      refine m_st (st2 := [.int (iI f4)]) rfl ?_
      refine m_if_ne (tgt := 30) C (r32_01 gf4) dX12_may_25 (by decide) (fun c6 => ?_) (fun c6 => ?_)
      · replace gf4 := (gf4.resolve_left c6)
        refine m_iconst C dX12_may_30 ?_
        refine m_istore (lv2 := [(5, .int (iI 0)), (0, .ref h0), (1, .int (iI r1)), (2, .int (iI x)), (3, .int (iI pt)), (4, .int (iI g))]) C dX12_may_31 (by decide) rfl ?_
        have Lp2 : ∀ (nn : Nat) (k : Int) (vb2 : Nat → Int) (ab2 : Nat → Nat → Int), 5 - k < (nn : Int) → BX vb2 ab2 → fr [] [] v a vb2 ab2 → (0 ≤ k ∧ k ≤ 4) → mw p l e (rmq 2 0 0) s m args below meth c G A 6 (MQ below (Qm G A (fun rq Lq Eq => ∃ (vq : Nat → Int) (aq : Nat → Nat → Int), mI G h0 ad ln vq aq Lq Eq ∧ (fun r v2 a2 => ∃ f : Int, r = some (.int (iI f)) ∧ fr [] [] v a v2 a2 ∧ BX v2 a2 ∧ (f = 0 ∨ (f = 1 ∧ x + a 46 r1.toNat ≤ v 50))) rq vq aq)) args s 0 0 A) h0 ad ln vb2 ab2 0 0 33 [(5, .int (iI k)), (0, .ref h0), (1, .int (iI r1)), (2, .int (iI x)), (3, .int (iI pt)), (4, .int (iI g))] [] := by
          intro nn
          induction nn with
          | zero =>
            intro k vb2 ab2 hm bxb2 fpb2 hk
            exact absurd hm (by omega)
          | succ nn ih2 =>
            intro k vb2 ab2 hm bxb2 fpb2 hk
            refine m_iload (j := 0) C dX12_may_33 rfl ?_
            refine m_aload_n (j := 1) C dX12_may_35 rfl ?_
            refine m_geta (k := 46) C dX12_may_36 w6_105 (by decide) rfl ?_
            refine m_iload_n (j := 2) C dX12_may_39 rfl ?_
            refine m_ald (k := 46) C dX12_may_40 rfl rfl (by decide) (by omega) (by show _ < ((_ : Nat) : Int); simp only [mlen]; omega) (by decide) ?_
            refine hv2 (show 0 ≤ ab2 46 r1.toNat ∧ ab2 46 r1.toNat ≤ 4 from bxb2.2 46 (r1.toNat)) (show ab2 46 (r1.toNat) = a 46 (r1.toNat) from congrFun (fpb2.2 46 rfl) (r1.toNat)) (fun ra10 ae8 => ?_)
            refine m_st (st2 := [.int (iI (a 46 r1.toNat)), .int (iI k)]) (congrArg (fun z => Value.int (iI z) :: [.int (iI k)]) (congrFun (fpb2.2 46 rfl) (r1.toNat))) ?_
            refine m_icmp_ge (tgt := 75) C (r32_c (lo := 0) (hi := 4) hk.1 hk.2 (by decide) (by decide)) (r32_c (lo := 0) (hi := 4) ra1.1 ra1.2 (by decide) (by decide)) dX12_may_41 (by decide) (fun c7 => ?_) (fun c7 => ?_)
            · refine m_aload_n (j := 1) C dX12_may_75 rfl ?_
              refine m_geta (k := 57) C dX12_may_76 w6_116 (by decide) rfl ?_
              refine m_iload_n (j := 3) C dX12_may_79 rfl ?_
              refine m_aload_n (j := 1) C dX12_may_80 rfl ?_
              refine m_geta (k := 46) C dX12_may_81 w6_105 (by decide) rfl ?_
              refine m_iload_n (j := 2) C dX12_may_84 rfl ?_
              refine m_ald (k := 46) C dX12_may_85 rfl rfl (by decide) (by omega) (by show _ < ((_ : Nat) : Int); simp only [mlen]; omega) (by decide) ?_
              refine m_st (st2 := [.int (iI (a 46 r1.toNat)), .int (iI x), .ref (ad 57)]) (congrArg (fun z => Value.int (iI z) :: [.int (iI x), .ref (ad 57)]) (congrFun (fpb2.2 46 rfl) (r1.toNat))) ?_
              refine m_iadd C dX12_may_86 ?_
              refine m_aload_n (j := 1) C dX12_may_87 rfl ?_
              refine m_iload_n (j := 2) C dX12_may_88 rfl ?_
              refine m_iload_n (j := 4) C dX12_may_89 rfl ?_
              refine m_call (mc2 := 0) (ms2 := 0) (As := [.int (iI r1), .int (iI pt)]) (rest := [.int (iI (x + (a 46 r1.toNat))), .ref (ad 57)]) C (M_next (r := r1) (q := pt) bxb2.rg (by omega) (by omega)) dX12_may_90 kV_X12_367 rfl ck_13 rfl (Nat.le_of_ble_eq_true rfl) ⟨Nat.le_of_ble_eq_true rfl, Nat.le_of_ble_eq_true rfl⟩ ⟨Nat.le_of_ble_eq_true rfl, Nat.le_of_ble_eq_true rfl⟩ (fun rh7 vh7 ah7 h7 => ?_)
              obtain ⟨f5, rfl, hf5, rfl, rfl⟩ := h7
              have gf5 : f5 = 0 ∨ f5 = 1 := hf5
              refine m_st (st2 := [.int (iI f5), .int (iI (x + (a 46 r1.toNat))), .ref (ad 57)]) rfl ?_
              refine m_aload_n (j := 1) C dX12_may_93 rfl ?_
              refine m_geta (k := 44) C dX12_may_94 w6_103 (by decide) rfl ?_
              refine m_iload_n (j := 2) C dX12_may_97 rfl ?_
              refine m_ald (k := 44) C dX12_may_98 rfl rfl (by decide) (by omega) (by show _ < ((_ : Nat) : Int); simp only [mlen]; omega) (by decide) ?_
              refine hv2 (show (-4) ≤ ab2 44 r1.toNat ∧ ab2 44 r1.toNat ≤ 5999 from bxb2.2 44 (r1.toNat)) (show ab2 44 (r1.toNat) = a 44 (r1.toNat) from congrFun (fpb2.2 44 rfl) (r1.toNat)) (fun ra11 ae9 => ?_)
              refine m_st (st2 := [.int (iI (a 44 r1.toNat)), .int (iI f5), .int (iI (x + (a 46 r1.toNat))), .ref (ad 57)]) (congrArg (fun z => Value.int (iI z) :: [.int (iI f5), .int (iI (x + (a 46 r1.toNat))), .ref (ad 57)]) (congrFun (fpb2.2 44 rfl) (r1.toNat))) ?_
              refine m_iconst C dX12_may_99 ?_
              refine m_icmp_ne (tgt := 107) C (r32_c (lo := (-4)) (hi := 5999) ra9.1 ra9.2 (by decide) (by decide)) ⟨by decide, by decide⟩ dX12_may_100 (by decide) (fun c8 => ?_) (fun c8 => ?_)
              · refine m_iconst C dX12_may_107 ?_
                refine m_callS (As := [.int (iI (x + (a 46 r1.toNat))), .int (iI f5), .int (iI 0)]) (rest := [.ref (ad 57)]) C (fun L E => s_state (iI (x + (a 46 r1.toNat))) (iI f5) (iI 0)) dX12_may_108 kS_X12_370 rfl rfl (Nat.le_of_ble_eq_true rfl) ⟨Nat.le_of_ble_eq_true rfl, Nat.le_of_ble_eq_true rfl⟩ ⟨Nat.le_of_ble_eq_true rfl, Nat.le_of_ble_eq_true rfl⟩ ?_
                obtain ⟨sx3, hsx3⟩ : ∃ w : Int, w = 4 * (x + (a 46 r1.toNat)) + 2 * f5 + 0 := ⟨_, rfl⟩
                · refine m_st (st2 := [.int (iI sx3), .ref (ad 57)]) (by rw [stt_c (by omega), ← hsx3]) ?_
                  refine m_zald (k := 57) C dX12_may_111 rfl rfl (by decide) (by omega) (by show _ < ((_ : Nat) : Int); simp only [mlen]; omega) (by decide) ?_
                  refine hv2 (show 0 ≤ ab2 57 sx3.toNat ∧ ab2 57 sx3.toNat ≤ 1 from bxb2.2 57 (sx3.toNat)) (show ab2 57 (sx3.toNat) = a 57 (sx3.toNat) from congrFun (fpb2.2 57 rfl) (sx3.toNat)) (fun ra12 ae10 => ?_)
                  refine m_st (st2 := [.int (iI (a 57 sx3.toNat))]) (congrArg (fun z => Value.int (iI z) :: []) (congrFun (fpb2.2 57 rfl) (sx3.toNat))) ?_
                  exact m_zret C dX12_may_112 rfl (by omega) (Nat.le_of_ble_eq_true rfl) (Nat.le_of_ble_eq_true rfl) ⟨(a 57 sx3.toNat), rfl, fpb2, bxb2, (by omega)⟩
              · refine m_iconst C dX12_may_103 ?_
                refine m_goto (tgt := 108) C dX12_may_104 (by decide) ?_
                refine m_callS (As := [.int (iI (x + (a 46 r1.toNat))), .int (iI f5), .int (iI 1)]) (rest := [.ref (ad 57)]) C (fun L E => s_state (iI (x + (a 46 r1.toNat))) (iI f5) (iI 1)) dX12_may_108 kS_X12_370 rfl rfl (Nat.le_of_ble_eq_true rfl) ⟨Nat.le_of_ble_eq_true rfl, Nat.le_of_ble_eq_true rfl⟩ ⟨Nat.le_of_ble_eq_true rfl, Nat.le_of_ble_eq_true rfl⟩ ?_
                obtain ⟨sx4, hsx4⟩ : ∃ w : Int, w = 4 * (x + (a 46 r1.toNat)) + 2 * f5 + 1 := ⟨_, rfl⟩
                · refine m_st (st2 := [.int (iI sx4), .ref (ad 57)]) (by rw [stt_c (by omega), ← hsx4]) ?_
                  refine m_zald (k := 57) C dX12_may_111 rfl rfl (by decide) (by omega) (by show _ < ((_ : Nat) : Int); simp only [mlen]; omega) (by decide) ?_
                  refine hv2 (show 0 ≤ ab2 57 sx4.toNat ∧ ab2 57 sx4.toNat ≤ 1 from bxb2.2 57 (sx4.toNat)) (show ab2 57 (sx4.toNat) = a 57 (sx4.toNat) from congrFun (fpb2.2 57 rfl) (sx4.toNat)) (fun ra13 ae11 => ?_)
                  refine m_st (st2 := [.int (iI (a 57 sx4.toNat))]) (congrArg (fun z => Value.int (iI z) :: []) (congrFun (fpb2.2 57 rfl) (sx4.toNat))) ?_
                  exact m_zret C dX12_may_112 rfl (by omega) (Nat.le_of_ble_eq_true rfl) (Nat.le_of_ble_eq_true rfl) ⟨(a 57 sx4.toNat), rfl, fpb2, bxb2, (by omega)⟩
            · refine m_aload_n (j := 1) C dX12_may_44 rfl ?_
              refine m_aload_n (j := 1) C dX12_may_45 rfl ?_
              refine m_iload_n (j := 2) C dX12_may_46 rfl ?_
              refine m_iload (j := 0) C dX12_may_47 rfl ?_
              refine hv4 (show (-4) ≤ ab2 44 r1.toNat ∧ ab2 44 r1.toNat ≤ 5999 from bxb2.2 44 (r1.toNat)) (show ab2 44 (r1.toNat) = a 44 (r1.toNat) from congrFun (fpb2.2 44 rfl) (r1.toNat)) (show 0 ≤ ab2 45 r1.toNat ∧ ab2 45 r1.toNat ≤ 23999 from bxb2.2 45 (r1.toNat)) (show ab2 45 (r1.toNat) = a 45 (r1.toNat) from congrFun (fpb2.2 45 rfl) (r1.toNat)) (fun ra14 ae12 ra15 ae13 => ?_)
              refine m_call (mc2 := 0) (ms2 := 0) (As := [.int (iI r1), .int (iI k)]) (rest := [.ref h0]) C (M_rowCell (r := r1) (k := k) bxb2.rg (by omega) (by omega)) dX12_may_49 kV_X12_324 rfl ck_13 rfl (Nat.le_of_ble_eq_true rfl) ⟨Nat.le_of_ble_eq_true rfl, Nat.le_of_ble_eq_true rfl⟩ ⟨Nat.le_of_ble_eq_true rfl, Nat.le_of_ble_eq_true rfl⟩ (fun rh10 vh10 ah10 h10 => ?_)
              obtain ⟨f6, rfl, hf6, rfl, rfl⟩ := h10
              have gf6 : -2147483648 ≤ f6 ∧ f6 < 2147483648 := hf6
              refine m_st (st2 := [.int (iI f6), .ref h0]) rfl ?_
              refine m_aload_n (j := 1) C dX12_may_52 rfl ?_
              refine m_geta (k := 48) C dX12_may_53 w6_107 (by decide) rfl ?_
              refine m_iload_n (j := 3) C dX12_may_56 rfl ?_
              refine m_iload (j := 0) C dX12_may_57 rfl ?_
              refine m_iadd C dX12_may_59 ?_
              refine m_ald (k := 48) C dX12_may_60 rfl rfl (by decide) (by omega) (by show _ < ((_ : Nat) : Int); simp only [mlen]; omega) (by decide) ?_
              refine hv2 (show (-2147483648) ≤ ab2 48 (x + k).toNat ∧ ab2 48 (x + k).toNat ≤ 2147483647 from bxb2.2 48 ((x + k).toNat)) (show ab2 48 ((x + k).toNat) = a 48 ((x + k).toNat) from congrFun (fpb2.2 48 rfl) ((x + k).toNat)) (fun ra16 ae14 => ?_)
              refine m_st (st2 := [.int (iI (a 48 (x + k).toNat)), .int (iI f6), .ref h0]) (congrArg (fun z => Value.int (iI z) :: [.int (iI f6), .ref h0]) (congrFun (fpb2.2 48 rfl) ((x + k).toNat))) ?_
              refine m_call (mc2 := 0) (ms2 := 0) (As := [.int (iI f6), .int (iI (a 48 (x + k).toNat))]) (rest := []) C (M_looksLike (x := f6) (y := a 48 (x + k).toNat) bxb2 (by show -2147483648 ≤ f6 ∧ f6 ≤ 2147483647; omega) (by show -2147483648 ≤ (a 48 (x + k).toNat) ∧ (a 48 (x + k).toNat) ≤ 2147483647; omega)) dX12_may_61 kV_X12_363 rfl ck_13 rfl (Nat.le_of_ble_eq_true rfl) ⟨Nat.le_of_ble_eq_true rfl, Nat.le_of_ble_eq_true rfl⟩ ⟨Nat.le_of_ble_eq_true rfl, Nat.le_of_ble_eq_true rfl⟩ (fun rh11 vh11 ah11 h11 => ?_)
              obtain ⟨f7, rfl, fn2, bn2, ex2⟩ := h11
              obtain ⟨rfl, rfl⟩ := fn2.eq
              have gf7 : f7 = 0 ∨ f7 = 1 := ex2
              refine m_st (st2 := [.int (iI f7)]) rfl ?_
              refine m_if_ne (tgt := 69) C (r32_01 gf7) dX12_may_64 (by decide) (fun c9 => ?_) (fun c9 => ?_)
              · replace gf7 := (gf7.resolve_left c9)
                refine m_iinc (z := k) (j := 0) (lv2 := [(5, .int (iI (k + 1))), (0, .ref h0), (1, .int (iI r1)), (2, .int (iI x)), (3, .int (iI pt)), (4, .int (iI g))]) C dX12_may_69 rfl (by decide) rfl ?_
                refine m_goto (tgt := 33) C dX12_may_72 (by decide) ?_
                refine m_lv (lv2 := [(5, .int (iI (k + 1))), (0, .ref h0), (1, .int (iI r1)), (2, .int (iI x)), (3, .int (iI pt)), (4, .int (iI g))]) [0, 1, 2, 3, 4, 5] rfl ?_
                exact ih2  (k + 1) _ _ (by omega) bxb2 fpb2 (by omega)
              · clear gf7
                refine m_iconst C dX12_may_67 ?_
                exact m_zret C dX12_may_68 rfl (Or.inl rfl) (Nat.le_of_ble_eq_true rfl) (Nat.le_of_ble_eq_true rfl) ⟨0, rfl, fpb2, bxb2, (by omega)⟩
        refine m_lv (lv2 := [(5, .int (iI 0)), (0, .ref h0), (1, .int (iI r1)), (2, .int (iI x)), (3, .int (iI pt)), (4, .int (iI g))]) [0, 1, 2, 3, 4, 5] rfl ?_
        exact Lp2 6 0 _ _ (by omega) hB fp0 (by omega)
      · clear gf4
        refine m_iconst C dX12_may_28 ?_
        exact m_zret C dX12_may_29 rfl (Or.inl rfl) (Nat.le_of_ble_eq_true rfl) (Nat.le_of_ble_eq_true rfl) ⟨0, rfl, fp0, hB, (by omega)⟩
set_option maxHeartbeats 4000000 in
set_option maxRecDepth 100000 in
theorem M_mayBlank {l : Launch} {G : GT} {h0 : Nat} {ad ln : Nat → Nat} {v : Nat → Int} {a : Nat → Nat → Int}  {x g : Int} (hB : BX v a) (hx : 0 ≤ x ∧ x < v 50) (h50 : v 50 ≤ 100) (hg : g = 0 ∨ g = 1) : Mm l G yX12_mayBlank cX12_mayBlank 3 (some .boolean) 1 [.int (iI x), .int (iI g)] h0 ad ln v a 0 0 (fun r v2 a2 => ∃ f : Int, r = some (.int (iI f)) ∧ fr [] [] v a v2 a2 ∧ BX v2 a2 ∧ (f = 0 ∨ f = 1)) := by
  refine Mm.mk (by decide) (Nat.le_of_ble_eq_true rfl) ?_
  intro p e s m args below meth c A C
  have fp0 : fr [] [] v a v a := fr.refl
  refine m_iload_n (j := 2) C dX12_mayBlank_0 rfl ?_
  refine m_if_ne (tgt := 38) C ⟨by omega, by omega⟩ dX12_mayBlank_1 (by decide) (fun c1 => ?_) (fun c1 => ?_)
  · refine m_iconst C dX12_mayBlank_38 ?_
    exact m_zret C dX12_mayBlank_39 rfl (Or.inl rfl) (Nat.le_of_ble_eq_true rfl) (Nat.le_of_ble_eq_true rfl) ⟨0, rfl, fp0, hB, (by omega)⟩
  · refine m_aload_n (j := 0) C dX12_mayBlank_4 rfl ?_
    refine m_iconst C dX12_mayBlank_5 ?_
    refine m_aload_n (j := 0) C dX12_mayBlank_6 rfl ?_
    refine m_geta (k := 48) C dX12_mayBlank_7 w6_107 (by decide) rfl ?_
    refine m_iload_n (j := 1) C dX12_mayBlank_10 rfl ?_
    refine m_ald (k := 48) C dX12_mayBlank_11 rfl rfl (by decide) (by omega) (by show _ < ((_ : Nat) : Int); simp only [mlen]; omega) (by decide) ?_
    have ra1 : (-2147483648) ≤ a 48 x.toNat ∧ a 48 x.toNat ≤ 2147483647 := hB.2 48 (x.toNat)
    refine m_call (mc2 := 0) (ms2 := 0) (As := [.int (iI 0), .int (iI (a 48 x.toNat))]) (rest := []) C (M_looksLike (x := 0) (y := a 48 x.toNat) hB (by show -2147483648 ≤ (0 : Int) ∧ (0 : Int) ≤ 2147483647; omega) (by show -2147483648 ≤ (a 48 x.toNat) ∧ (a 48 x.toNat) ≤ 2147483647; omega)) dX12_mayBlank_12 kV_X12_363 rfl ck_13 rfl (Nat.le_of_ble_eq_true rfl) ⟨Nat.le_of_ble_eq_true rfl, Nat.le_of_ble_eq_true rfl⟩ ⟨Nat.le_of_ble_eq_true rfl, Nat.le_of_ble_eq_true rfl⟩ (fun rh1 vh1 ah1 h1 => ?_)
    obtain ⟨f1, rfl, fn1, bn1, ex1⟩ := h1
    obtain ⟨rfl, rfl⟩ := fn1.eq
    have gf1 : f1 = 0 ∨ f1 = 1 := ex1
    refine m_st (st2 := [.int (iI f1)]) rfl ?_
    refine m_if_eq (tgt := 38) C (r32_01 gf1) dX12_mayBlank_15 (by decide) (fun c2 => ?_) (fun c2 => ?_)
    · clear gf1
      refine m_iconst C dX12_mayBlank_38 ?_
      exact m_zret C dX12_mayBlank_39 rfl (Or.inl rfl) (Nat.le_of_ble_eq_true rfl) (Nat.le_of_ble_eq_true rfl) ⟨0, rfl, fp0, hB, (by omega)⟩
    · replace gf1 := (gf1.resolve_left c2)
      refine m_aload_n (j := 0) C dX12_mayBlank_18 rfl ?_
      refine m_geta (k := 57) C dX12_mayBlank_19 w6_116 (by decide) rfl ?_
      refine m_iload_n (j := 1) C dX12_mayBlank_22 rfl ?_
      refine m_iconst C dX12_mayBlank_23 ?_
      refine m_iadd C dX12_mayBlank_24 ?_
      refine m_iconst C dX12_mayBlank_25 ?_
      refine m_iconst C dX12_mayBlank_26 ?_
      refine m_callS (As := [.int (iI (x + 1)), .int (iI 0), .int (iI 0)]) (rest := [.ref (ad 57)]) C (fun L E => s_state (iI (x + 1)) (iI 0) (iI 0)) dX12_mayBlank_27 kS_X12_370 rfl rfl (Nat.le_of_ble_eq_true rfl) ⟨Nat.le_of_ble_eq_true rfl, Nat.le_of_ble_eq_true rfl⟩ ⟨Nat.le_of_ble_eq_true rfl, Nat.le_of_ble_eq_true rfl⟩ ?_
      obtain ⟨sx1, hsx1⟩ : ∃ w : Int, w = 4 * (x + 1) + 2 * 0 + 0 := ⟨_, rfl⟩
      · refine m_st (st2 := [.int (iI sx1), .ref (ad 57)]) (by rw [stt_c (by omega), ← hsx1]) ?_
        refine m_zald (k := 57) C dX12_mayBlank_30 rfl rfl (by decide) (by omega) (by show _ < ((_ : Nat) : Int); simp only [mlen]; omega) (by decide) ?_
        have ra2 : 0 ≤ a 57 sx1.toNat ∧ a 57 sx1.toNat ≤ 1 := hB.2 57 (sx1.toNat)
        refine m_if_eq (tgt := 38) C (r32_c (lo := 0) (hi := 1) ra2.1 ra2.2 (by decide) (by decide)) dX12_mayBlank_31 (by decide) (fun c3 => ?_) (fun c3 => ?_)
        · refine m_iconst C dX12_mayBlank_38 ?_
          exact m_zret C dX12_mayBlank_39 rfl (Or.inl rfl) (Nat.le_of_ble_eq_true rfl) (Nat.le_of_ble_eq_true rfl) ⟨0, rfl, fp0, hB, (by omega)⟩
        · refine m_iconst C dX12_mayBlank_34 ?_
          refine m_goto (tgt := 39) C dX12_mayBlank_35 (by decide) ?_
          exact m_zret C dX12_mayBlank_39 rfl (Or.inr rfl) (Nat.le_of_ble_eq_true rfl) (Nat.le_of_ble_eq_true rfl) ⟨1, rfl, fp0, hB, (by omega)⟩
set_option maxHeartbeats 4000000 in
set_option maxRecDepth 100000 in
theorem M_findCan {l : Launch} {G : GT} {h0 : Nat} {ad ln : Nat → Nat} {v : Nat → Int} {a : Nat → Nat → Int}  (hB : BX v a) (hW : RWS a) (h50 : v 50 ≤ 100) : Mm l G yX12_findCan cX12_findCan 7 none 3 [] h0 ad ln v a 0 0 (fun r v2 a2 => r = none ∧ fr [] [57] v a v2 a2 ∧ BX v2 a2 ∧ (True)) := by
  refine Mm.mk (by decide) (Nat.le_of_ble_eq_true rfl) ?_
  intro p e s m args below meth c A C
  refine hv4 (show 0 ≤ v 50 ∧ v 50 ≤ 40200 from hB.1 50) ((hW 0 (Or.inl rfl)).1) ((hW 1 (Or.inr rfl)).1) (show fr [] [57] v a v a from fr.refl) (fun r50 r470 r471 fp0 => ?_)
  refine m_aload_n (j := 0) C dX12_findCan_0 rfl ?_
  have rv1 : 0 ≤ v 50 ∧ v 50 ≤ 40200 := hB.1 50
  refine m_get (k := 50) C dX12_findCan_1 w6_109 (by decide) rfl ?_
  refine m_istore_n (lv2 := [(1, .int (iI (v 50))), (0, .ref h0)]) C dX12_findCan_4 (by decide) rfl ?_
  have Lp1 : ∀ (nn : Nat) (x : Int) (vb1 : Nat → Int) (ab1 : Nat → Nat → Int), x + 1 < (nn : Int) → BX vb1 ab1 → fr [] [57] v a vb1 ab1 → (-1 ≤ x ∧ x ≤ v 50) → mw p l e (rmq 3 0 0) s m args below meth c G A 7 (MQ below (Qm G A (fun rq Lq Eq => ∃ (vq : Nat → Int) (aq : Nat → Nat → Int), mI G h0 ad ln vq aq Lq Eq ∧ (fun r v2 a2 => r = none ∧ fr [] [57] v a v2 a2 ∧ BX v2 a2 ∧ (True)) rq vq aq)) args s 0 0 A) h0 ad ln vb1 ab1 0 0 5 [(1, .int (iI x)), (0, .ref h0)] [] := by
    intro nn
    induction nn with
    | zero =>
      intro x vb1 ab1 hm bxb1 fpb1 hx
      exact absurd hm (by omega)
    | succ nn ih1 =>
      intro x vb1 ab1 hm bxb1 fpb1 hx
      refine m_iload_n (j := 0) C dX12_findCan_5 rfl ?_
      refine m_if_lt (tgt := 151) C ⟨by omega, by omega⟩ dX12_findCan_6 (by decide) (fun c1 => ?_) (fun c1 => ?_)
      · exact m_vret C dX12_findCan_151 rfl (Nat.le_of_ble_eq_true rfl) (Nat.le_of_ble_eq_true rfl) ⟨rfl, fpb1, bxb1, trivial⟩
      · refine m_iconst C dX12_findCan_9 ?_
        refine m_istore_n (lv2 := [(2, .int (iI 0)), (1, .int (iI x)), (0, .ref h0)]) C dX12_findCan_10 (by decide) rfl ?_
        have Lp2 : ∀ (nn : Nat) (y : Int) (vb2 : Nat → Int) (ab2 : Nat → Nat → Int), 5 - y < (nn : Int) → BX vb2 ab2 → fr [] [57] v a vb2 ab2 → (0 ≤ y ∧ y ≤ 4) → mw p l e (rmq 3 0 0) s m args below meth c G A 7 (MQ below (Qm G A (fun rq Lq Eq => ∃ (vq : Nat → Int) (aq : Nat → Nat → Int), mI G h0 ad ln vq aq Lq Eq ∧ (fun r v2 a2 => r = none ∧ fr [] [57] v a v2 a2 ∧ BX v2 a2 ∧ (True)) rq vq aq)) args s 0 0 A) h0 ad ln vb2 ab2 0 0 11 [(2, .int (iI y)), (1, .int (iI x)), (0, .ref h0)] [] := by
          intro nn
          induction nn with
          | zero =>
            intro y vb2 ab2 hm bxb2 fpb2 hy
            exact absurd hm (by omega)
          | succ nn ih2 =>
            intro y vb2 ab2 hm bxb2 fpb2 hy
            refine m_iload_n (j := 0) C dX12_findCan_11 rfl ?_
            refine m_iconst C dX12_findCan_12 ?_
            refine m_icmp_ge (tgt := 145) C (r32_c (lo := 0) (hi := 4) hy.1 hy.2 (by decide) (by decide)) ⟨by decide, by decide⟩ dX12_findCan_13 (by decide) (fun c2 => ?_) (fun c2 => ?_)
            · refine m_iinc (z := x) (j := 1) (lv2 := [(1, .int (iI (x + (-1)))), (2, .int (iI y)), (0, .ref h0)]) C dX12_findCan_145 rfl (by decide) rfl ?_
              refine m_goto (tgt := 5) C dX12_findCan_148 (by decide) ?_
              refine m_lv (lv2 := [(1, .int (iI (x + (-1)))), (0, .ref h0)]) [0, 2] rfl ?_
              exact ih1  (x + (-1)) _ _ (by omega) bxb2 fpb2 (by omega)
            · refine m_iload_n (j := 0) C dX12_findCan_16 rfl ?_
              refine m_iconst C dX12_findCan_17 ?_
              obtain ⟨dq1, hdq1⟩ : ∃ q : Int, q = y / 2 := ⟨_, rfl⟩
              refine m_idiv (w := iI dq1) C dX12_findCan_18 (iI_ne0 ⟨by omega, by omega⟩) (by rw [hdq1]; exact iI_div ⟨by omega, by omega⟩ ⟨by omega, by omega⟩) ?_
              refine m_istore_n (lv2 := [(3, .int (iI dq1)), (2, .int (iI y)), (1, .int (iI x)), (0, .ref h0)]) C dX12_findCan_19 (by decide) rfl ?_
              refine m_iload_n (j := 1) C dX12_findCan_20 rfl ?_
              refine m_iconst C dX12_findCan_21 ?_
              obtain ⟨dq2, hdq2⟩ : ∃ q : Int, q = y % 2 := ⟨_, rfl⟩
              refine m_irem (w := iI dq2) C dX12_findCan_22 (iI_ne0 ⟨by omega, by omega⟩) (by rw [hdq2]; exact iI_mod ⟨by omega, by omega⟩ ⟨by omega, by omega⟩) ?_
              refine m_iconst C dX12_findCan_23 ?_
              have J1 : ∀ (g : Int) (vb3 : Nat → Int) (ab3 : Nat → Nat → Int), BX vb3 ab3 → fr [] [57] v a vb3 ab3 → (g = 0 ∨ g = 1) → mw p l e (rmq 3 0 0) s m args below meth c G A 7 (MQ below (Qm G A (fun rq Lq Eq => ∃ (vq : Nat → Int) (aq : Nat → Nat → Int), mI G h0 ad ln vq aq Lq Eq ∧ (fun r v2 a2 => r = none ∧ fr [] [57] v a v2 a2 ∧ BX v2 a2 ∧ (True)) rq vq aq)) args s 0 0 A) h0 ad ln vb3 ab3 0 0 32 [(3, .int (iI dq1)), (2, .int (iI y)), (1, .int (iI x)), (0, .ref h0)] [.int (iI g)] := by
                intro g vb3 ab3 bxb3 fpb3 hg
                refine m_istore (lv2 := [(4, .int (iI g)), (3, .int (iI dq1)), (2, .int (iI y)), (1, .int (iI x)), (0, .ref h0)]) C dX12_findCan_32 (by decide) rfl ?_
                refine m_iload_n (j := 3) C dX12_findCan_34 rfl ?_
                refine m_aload_n (j := 4) C dX12_findCan_35 rfl ?_
                refine hv2 (show 0 ≤ vb3 50 ∧ vb3 50 ≤ 40200 from bxb3.1 50) (show vb3 50 = v 50 from fpb3.1 50 rfl) (fun rv2 ve1 => ?_)
                refine m_get (k := 50) C dX12_findCan_36 w6_109 (by decide) rfl ?_
                refine m_st (st2 := [.int (iI (v 50)), .int (iI x)]) (congrArg (fun z => Value.int (iI z) :: [.int (iI x)]) (fpb3.1 50 rfl)) ?_
                have J2 : ∀ (g1 : Int) (vb4 : Nat → Int) (ab4 : Nat → Nat → Int), BX vb4 ab4 → fr [] [57] v a vb4 ab4 → (g1 = 0 ∨ g1 = 1) → mw p l e (rmq 3 0 0) s m args below meth c G A 7 (MQ below (Qm G A (fun rq Lq Eq => ∃ (vq : Nat → Int) (aq : Nat → Nat → Int), mI G h0 ad ln vq aq Lq Eq ∧ (fun r v2 a2 => r = none ∧ fr [] [57] v a v2 a2 ∧ BX v2 a2 ∧ (True)) rq vq aq)) args s 0 0 A) h0 ad ln vb4 ab4 0 0 70 [(4, .int (iI g)), (3, .int (iI dq1)), (2, .int (iI y)), (1, .int (iI x)), (0, .ref h0)] [.int (iI g1)] := by
                  intro g1 vb4 ab4 bxb4 fpb4 hg1
                  refine m_istore (lv2 := [(5, .int (iI g1)), (4, .int (iI g)), (3, .int (iI dq1)), (2, .int (iI y)), (1, .int (iI x)), (0, .ref h0)]) C dX12_findCan_70 (by decide) rfl ?_
                  refine m_sipush (z := 6008) C dX12_findCan_72 (by decide) ?_
                  refine m_iload_n (j := 2) C dX12_findCan_75 rfl ?_
                  refine m_imul C dX12_findCan_76 ?_
                  refine m_istore (lv2 := [(6, .int (iI (6008 * dq1))), (5, .int (iI g1)), (4, .int (iI g)), (3, .int (iI dq1)), (2, .int (iI y)), (1, .int (iI x)), (0, .ref h0)]) C dX12_findCan_77 (by decide) rfl ?_
                  have Lp3 : ∀ (nn : Nat) (g2 r : Int) (vb5 : Nat → Int) (ab5 : Nat → Nat → Int), 6008 * dq1 + 6009 - r < (nn : Int) → BX vb5 ab5 → fr [] [57] v a vb5 ab5 → (g2 = 0 ∨ g2 = 1) → (6008 * dq1 ≤ r ∧ r ≤ 6008 * dq1 + 6008) → mw p l e (rmq 3 0 0) s m args below meth c G A 7 (MQ below (Qm G A (fun rq Lq Eq => ∃ (vq : Nat → Int) (aq : Nat → Nat → Int), mI G h0 ad ln vq aq Lq Eq ∧ (fun r v2 a2 => r = none ∧ fr [] [57] v a v2 a2 ∧ BX v2 a2 ∧ (True)) rq vq aq)) args s 0 0 A) h0 ad ln vb5 ab5 0 0 79 [(6, .int (iI r)), (5, .int (iI g2)), (4, .int (iI g)), (3, .int (iI dq1)), (2, .int (iI y)), (1, .int (iI x)), (0, .ref h0)] [] := by
                    intro nn
                    induction nn with
                    | zero =>
                      intro g2 r vb5 ab5 hm bxb5 fpb5 hg2 hr
                      exact absurd hm (by omega)
                    | succ nn ih3 =>
                      intro g2 r vb5 ab5 hm bxb5 fpb5 hg2 hr
                      refine m_iload (j := 0) C dX12_findCan_79 rfl ?_
                      refine m_sipush (z := 6008) C dX12_findCan_81 (by decide) ?_
                      refine m_iload_n (j := 3) C dX12_findCan_84 rfl ?_
                      refine m_imul C dX12_findCan_85 ?_
                      refine m_aload_n (j := 6) C dX12_findCan_86 rfl ?_
                      refine m_geta (k := 47) C dX12_findCan_87 w6_106 (by decide) rfl ?_
                      refine m_iload_n (j := 3) C dX12_findCan_90 rfl ?_
                      refine m_ald (k := 47) C dX12_findCan_91 rfl rfl (by decide) (by omega) (by show _ < ((_ : Nat) : Int); simp only [mlen]; omega) (by decide) ?_
                      refine hv2 (show 0 ≤ ab5 47 dq1.toNat ∧ ab5 47 dq1.toNat ≤ 6008 from bxb5.2 47 (dq1.toNat)) (show ab5 47 (dq1.toNat) = a 47 (dq1.toNat) from congrFun (fpb5.2 47 rfl) (dq1.toNat)) (fun ra1 ae1 => ?_)
                      refine m_st (st2 := [.int (iI (a 47 dq1.toNat)), .int (iI (6008 * dq1)), .int (iI r)]) (congrArg (fun z => Value.int (iI z) :: [.int (iI (6008 * dq1)), .int (iI r)]) (congrFun (fpb5.2 47 rfl) (dq1.toNat))) ?_
                      refine m_iadd C dX12_findCan_92 ?_
                      refine m_icmp_ge (tgt := 127) C ⟨by omega, by omega⟩ ⟨by omega, by omega⟩ dX12_findCan_93 (by decide) (fun c3 => ?_) (fun c3 => ?_)
                      · refine m_aload_n (j := 6) C dX12_findCan_127 rfl ?_
                        refine m_geta (k := 57) C dX12_findCan_128 w6_116 (by decide) rfl ?_
                        refine m_iconst C dX12_findCan_131 ?_
                        refine m_iload_n (j := 5) C dX12_findCan_132 rfl ?_
                        refine m_imul C dX12_findCan_133 ?_
                        refine m_iload_n (j := 4) C dX12_findCan_134 rfl ?_
                        refine m_iadd C dX12_findCan_135 ?_
                        refine m_iload (j := 1) C dX12_findCan_136 rfl ?_
                        refine m_zast (k := 57) (w := g2) C dX12_findCan_138 rfl rfl (by decide) (by omega) (by show _ < ((_ : Nat) : Int); simp only [mlen]; omega) (by decide) (by omega) ?_
                        refine hv2 (show BX vb5 (up2 ab5 57 ((4 * x) + y).toNat g2) from bxb5.set (k := 57) (i := ((4 * x) + y).toNat) (z := g2) (show 0 ≤ g2 ∧ g2 ≤ 1 by omega)) (fpb5.set (k := 57) (i := ((4 * x) + y).toNat) (z := g2) rfl) (fun bq1 fq1 => ?_)
                        refine m_iinc (z := y) (j := 4) (lv2 := [(2, .int (iI (y + 1))), (6, .int (iI r)), (5, .int (iI g2)), (4, .int (iI g)), (3, .int (iI dq1)), (1, .int (iI x)), (0, .ref h0)]) C dX12_findCan_139 rfl (by decide) rfl ?_
                        refine m_goto (tgt := 11) C dX12_findCan_142 (by decide) ?_
                        refine m_lv (lv2 := [(2, .int (iI (y + 1))), (1, .int (iI x)), (0, .ref h0)]) [0, 5, 6] rfl ?_
                        exact ih2  (y + 1) _ _ (by omega) bq1 fq1 (by omega)
                      · refine m_iload (j := 1) C dX12_findCan_96 rfl ?_
                        refine m_if_ne (tgt := 127) C (r32_01 hg2) dX12_findCan_98 (by decide) (fun c4 => ?_) (fun c4 => ?_)
                        · replace hg2 := (hg2.resolve_left c4)
                          refine m_aload_n (j := 6) C dX12_findCan_127 rfl ?_
                          refine m_geta (k := 57) C dX12_findCan_128 w6_116 (by decide) rfl ?_
                          refine m_iconst C dX12_findCan_131 ?_
                          refine m_iload_n (j := 5) C dX12_findCan_132 rfl ?_
                          refine m_imul C dX12_findCan_133 ?_
                          refine m_iload_n (j := 4) C dX12_findCan_134 rfl ?_
                          refine m_iadd C dX12_findCan_135 ?_
                          refine m_iload (j := 1) C dX12_findCan_136 rfl ?_
                          refine m_zast (k := 57) (w := g2) C dX12_findCan_138 rfl rfl (by decide) (by omega) (by show _ < ((_ : Nat) : Int); simp only [mlen]; omega) (by decide) (by omega) ?_
                          refine hv2 (show BX vb5 (up2 ab5 57 ((4 * x) + y).toNat g2) from bxb5.set (k := 57) (i := ((4 * x) + y).toNat) (z := g2) (show 0 ≤ g2 ∧ g2 ≤ 1 by omega)) (fpb5.set (k := 57) (i := ((4 * x) + y).toNat) (z := g2) rfl) (fun bq2 fq2 => ?_)
                          refine m_iinc (z := y) (j := 4) (lv2 := [(2, .int (iI (y + 1))), (6, .int (iI r)), (5, .int (iI g2)), (4, .int (iI g)), (3, .int (iI dq1)), (1, .int (iI x)), (0, .ref h0)]) C dX12_findCan_139 rfl (by decide) rfl ?_
                          refine m_goto (tgt := 11) C dX12_findCan_142 (by decide) ?_
                          refine m_lv (lv2 := [(2, .int (iI (y + 1))), (1, .int (iI x)), (0, .ref h0)]) [0, 5, 6] rfl ?_
                          exact ih2  (y + 1) _ _ (by omega) bq2 fq2 (by omega)
                        · clear hg2
                          refine m_iload_n (j := 5) C dX12_findCan_101 rfl ?_
                          refine m_aload_n (j := 6) C dX12_findCan_102 rfl ?_
                          refine hv2 (show 0 ≤ vb5 50 ∧ vb5 50 ≤ 40200 from bxb5.1 50) (show vb5 50 = v 50 from fpb5.1 50 rfl) (fun rv3 ve2 => ?_)
                          refine m_get (k := 50) C dX12_findCan_103 w6_109 (by decide) rfl ?_
                          refine m_st (st2 := [.int (iI (v 50)), .int (iI x)]) (congrArg (fun z => Value.int (iI z) :: [.int (iI x)]) (fpb5.1 50 rfl)) ?_
                          refine m_icmp_ge (tgt := 127) C ⟨by omega, by omega⟩ (r32_c (lo := 0) (hi := 40200) rv1.1 rv1.2 (by decide) (by decide)) dX12_findCan_106 (by decide) (fun c5 => ?_) (fun c5 => ?_)
                          · refine m_aload_n (j := 6) C dX12_findCan_127 rfl ?_
                            refine m_geta (k := 57) C dX12_findCan_128 w6_116 (by decide) rfl ?_
                            refine m_iconst C dX12_findCan_131 ?_
                            refine m_iload_n (j := 5) C dX12_findCan_132 rfl ?_
                            refine m_imul C dX12_findCan_133 ?_
                            refine m_iload_n (j := 4) C dX12_findCan_134 rfl ?_
                            refine m_iadd C dX12_findCan_135 ?_
                            refine m_iload (j := 1) C dX12_findCan_136 rfl ?_
                            refine m_zast (k := 57) (w := g2) C dX12_findCan_138 rfl rfl (by decide) (by omega) (by show _ < ((_ : Nat) : Int); simp only [mlen]; omega) (by decide) (by omega) ?_
                            refine hv2 (show BX vb5 (up2 ab5 57 ((4 * x) + y).toNat g2) from bxb5.set (k := 57) (i := ((4 * x) + y).toNat) (z := g2) (show 0 ≤ g2 ∧ g2 ≤ 1 by omega)) (fpb5.set (k := 57) (i := ((4 * x) + y).toNat) (z := g2) rfl) (fun bq3 fq3 => ?_)
                            refine m_iinc (z := y) (j := 4) (lv2 := [(2, .int (iI (y + 1))), (6, .int (iI r)), (5, .int (iI g2)), (4, .int (iI g)), (3, .int (iI dq1)), (1, .int (iI x)), (0, .ref h0)]) C dX12_findCan_139 rfl (by decide) rfl ?_
                            refine m_goto (tgt := 11) C dX12_findCan_142 (by decide) ?_
                            refine m_lv (lv2 := [(2, .int (iI (y + 1))), (1, .int (iI x)), (0, .ref h0)]) [0, 5, 6] rfl ?_
                            exact ih2  (y + 1) _ _ (by omega) bq3 fq3 (by omega)
                          · refine m_aload_n (j := 6) C dX12_findCan_109 rfl ?_
                            refine m_iload (j := 0) C dX12_findCan_110 rfl ?_
                            refine m_iload_n (j := 5) C dX12_findCan_112 rfl ?_
                            refine m_iload_n (j := 3) C dX12_findCan_113 rfl ?_
                            refine m_iload (j := 2) C dX12_findCan_114 rfl ?_
                            refine hv7 (show RowOK a r from (hW (dq1) (by omega)).2 r (by omega) (by omega)) (show (-4) ≤ ab5 44 r.toNat ∧ ab5 44 r.toNat ≤ 5999 from bxb5.2 44 (r.toNat)) (show ab5 44 (r.toNat) = a 44 (r.toNat) from congrFun (fpb5.2 44 rfl) (r.toNat)) (show 0 ≤ ab5 46 r.toNat ∧ ab5 46 r.toNat ≤ 4 from bxb5.2 46 (r.toNat)) (show ab5 46 (r.toNat) = a 46 (r.toNat) from congrFun (fpb5.2 46 rfl) (r.toNat)) (show 0 ≤ ab5 45 r.toNat ∧ ab5 45 r.toNat ≤ 23999 from bxb5.2 45 (r.toNat)) (show ab5 45 (r.toNat) = a 45 (r.toNat) from congrFun (fpb5.2 45 rfl) (r.toNat)) (fun ro ra2 ae2 ra3 ae3 ra4 ae4 => ?_)
                            refine hv4 (ro.1) (ro.2.1) (ro.2.2.1) (ro.2.2.2) (fun ro1 ro2 ro3 ro4 => ?_)
                            refine m_call (mc2 := 0) (ms2 := 0) (As := [.int (iI r), .int (iI x), .int (iI dq1), .int (iI g)]) (rest := []) C (M_may (r1 := r) (x := x) (pt := dq1) (g := g) bxb5 (by show 0 ≤ r ∧ r < 12016; omega) (by show -4 ≤ ab5 44 r.toNat ∧ ab5 44 r.toNat < 6000; omega) (by show 1 ≤ ab5 46 r.toNat ∧ ab5 46 r.toNat ≤ 4; omega) (by show 0 ≤ ab5 45 r.toNat ∧ (0 ≤ ab5 44 r.toNat → ab5 45 r.toNat + ab5 46 r.toNat ≤ 24000) ∧ (ab5 44 r.toNat < 0 → ab5 45 r.toNat + ab5 46 r.toNat ≤ 480); omega) (by show 0 ≤ x ∧ x ≤ 100; omega) (by show (vb5 50) ≤ 100; omega) (by show dq1 = 0 ∨ dq1 = 1; omega) (by show g = 0 ∨ g = 1; omega)) dX12_findCan_116 kV_X12_378 rfl ck_13 rfl (Nat.le_of_ble_eq_true rfl) ⟨Nat.le_of_ble_eq_true rfl, Nat.le_of_ble_eq_true rfl⟩ ⟨Nat.le_of_ble_eq_true rfl, Nat.le_of_ble_eq_true rfl⟩ (fun rh1 vh1 ah1 h1 => ?_)
                            obtain ⟨f1, rfl, fn1, bn1, ex1⟩ := h1
                            obtain ⟨rfl, rfl⟩ := fn1.eq
                            have gf1 : f1 = 0 ∨ (f1 = 1 ∧ x + ab5 46 r.toNat ≤ (vb5 50)) := ex1
                            refine m_st (st2 := [.int (iI f1)]) rfl ?_
                            refine m_istore (lv2 := [(5, .int (iI f1)), (6, .int (iI r)), (4, .int (iI g)), (3, .int (iI dq1)), (2, .int (iI y)), (1, .int (iI x)), (0, .ref h0)]) C dX12_findCan_119 (by decide) rfl ?_
                            refine m_iinc (z := r) (j := 1) (lv2 := [(6, .int (iI (r + 1))), (5, .int (iI f1)), (4, .int (iI g)), (3, .int (iI dq1)), (2, .int (iI y)), (1, .int (iI x)), (0, .ref h0)]) C dX12_findCan_121 rfl (by decide) rfl ?_
                            refine m_goto (tgt := 79) C dX12_findCan_124 (by decide) ?_
                            refine m_lv (lv2 := [(6, .int (iI (r + 1))), (5, .int (iI f1)), (4, .int (iI g)), (3, .int (iI dq1)), (2, .int (iI y)), (1, .int (iI x)), (0, .ref h0)]) [0, 1, 2, 3, 4, 5, 6] rfl ?_
                            exact ih3  f1 (r + 1) _ _ (by omega) bxb5 fpb5 (by omega) (by omega)
                  refine m_lv (lv2 := [(6, .int (iI (6008 * dq1))), (5, .int (iI g1)), (4, .int (iI g)), (3, .int (iI dq1)), (2, .int (iI y)), (1, .int (iI x)), (0, .ref h0)]) [0, 1, 2, 3, 4, 5, 6] rfl ?_
                  exact Lp3 6010 g1 (6008 * dq1) _ _ (by omega) bxb4 fpb4 (by omega) (by omega)
                refine m_icmp_ne (tgt := 47) C ⟨by omega, by omega⟩ (r32_c (lo := 0) (hi := 40200) rv1.1 rv1.2 (by decide) (by decide)) dX12_findCan_39 (by decide) (fun c6 => ?_) (fun c6 => ?_)
                · refine m_iload_n (j := 3) C dX12_findCan_47 rfl ?_
                  refine m_aload_n (j := 4) C dX12_findCan_48 rfl ?_
                  refine m_get (k := 50) C dX12_findCan_49 w6_109 (by decide) rfl ?_
                  refine m_st (st2 := [.int (iI (v 50)), .int (iI x)]) (congrArg (fun z => Value.int (iI z) :: [.int (iI x)]) (fpb3.1 50 rfl)) ?_
                  refine m_icmp_ge (tgt := 69) C ⟨by omega, by omega⟩ (r32_c (lo := 0) (hi := 40200) rv1.1 rv1.2 (by decide) (by decide)) dX12_findCan_52 (by decide) (fun c7 => ?_) (fun c7 => ?_)
                  · refine m_iconst C dX12_findCan_69 ?_
                    refine m_lv (lv2 := [(4, .int (iI g)), (3, .int (iI dq1)), (2, .int (iI y)), (1, .int (iI x)), (0, .ref h0)]) [0, 1, 2, 3, 4] rfl ?_
                    exact J2  0 _ _  bxb3 fpb3 (by omega)
                  · refine m_aload_n (j := 4) C dX12_findCan_55 rfl ?_
                    refine m_iload_n (j := 3) C dX12_findCan_56 rfl ?_
                    refine m_iload (j := 0) C dX12_findCan_57 rfl ?_
                    refine m_call (mc2 := 0) (ms2 := 0) (As := [.int (iI x), .int (iI g)]) (rest := []) C (M_mayBlank (x := x) (g := g) bxb3 (by show 0 ≤ x ∧ x < (vb3 50); omega) (by show (vb3 50) ≤ 100; omega) (by show g = 0 ∨ g = 1; omega)) dX12_findCan_59 kV_X12_374 rfl ck_13 rfl (Nat.le_of_ble_eq_true rfl) ⟨Nat.le_of_ble_eq_true rfl, Nat.le_of_ble_eq_true rfl⟩ ⟨Nat.le_of_ble_eq_true rfl, Nat.le_of_ble_eq_true rfl⟩ (fun rh2 vh2 ah2 h2 => ?_)
                    obtain ⟨f2, rfl, fn2, bn2, ex2⟩ := h2
                    obtain ⟨rfl, rfl⟩ := fn2.eq
                    have gf2 : f2 = 0 ∨ f2 = 1 := ex2
                    refine m_st (st2 := [.int (iI f2)]) rfl ?_
                    refine m_if_eq (tgt := 69) C (r32_01 gf2) dX12_findCan_62 (by decide) (fun c8 => ?_) (fun c8 => ?_)
                    · clear gf2
                      refine m_iconst C dX12_findCan_69 ?_
                      refine m_lv (lv2 := [(4, .int (iI g)), (3, .int (iI dq1)), (2, .int (iI y)), (1, .int (iI x)), (0, .ref h0)]) [0, 1, 2, 3, 4] rfl ?_
                      exact J2  0 _ _  bxb3 fpb3 (by omega)
                    · replace gf2 := (gf2.resolve_left c8)
                      refine m_iconst C dX12_findCan_65 ?_
                      refine m_goto (tgt := 70) C dX12_findCan_66 (by decide) ?_
                      refine m_lv (lv2 := [(4, .int (iI g)), (3, .int (iI dq1)), (2, .int (iI y)), (1, .int (iI x)), (0, .ref h0)]) [0, 1, 2, 3, 4] rfl ?_
                      exact J2  1 _ _  bxb3 fpb3 (by omega)
                · refine m_iload (j := 0) C dX12_findCan_42 rfl ?_
                  refine m_if_eq (tgt := 65) C (r32_01 hg) dX12_findCan_44 (by decide) (fun c9 => ?_) (fun c9 => ?_)
                  · clear hg
                    refine m_iconst C dX12_findCan_65 ?_
                    refine m_goto (tgt := 70) C dX12_findCan_66 (by decide) ?_
                    refine m_lv (lv2 := [(4, .int (iI g)), (3, .int (iI dq1)), (2, .int (iI y)), (1, .int (iI x)), (0, .ref h0)]) [0, 1, 2, 3, 4] rfl ?_
                    exact J2  1 _ _  bxb3 fpb3 (by omega)
                  · replace hg := (hg.resolve_left c9)
                    refine m_iload_n (j := 3) C dX12_findCan_47 rfl ?_
                    refine m_aload_n (j := 4) C dX12_findCan_48 rfl ?_
                    refine m_get (k := 50) C dX12_findCan_49 w6_109 (by decide) rfl ?_
                    refine m_st (st2 := [.int (iI (v 50)), .int (iI x)]) (congrArg (fun z => Value.int (iI z) :: [.int (iI x)]) (fpb3.1 50 rfl)) ?_
                    refine m_icmp_ge (tgt := 69) C ⟨by omega, by omega⟩ (r32_c (lo := 0) (hi := 40200) rv1.1 rv1.2 (by decide) (by decide)) dX12_findCan_52 (by decide) (fun _ => ?_) (fun z => absurd z (by omega))
                    refine m_iconst C dX12_findCan_69 ?_
                    refine m_lv (lv2 := [(4, .int (iI g)), (3, .int (iI dq1)), (2, .int (iI y)), (1, .int (iI x)), (0, .ref h0)]) [0, 1, 2, 3, 4] rfl ?_
                    exact J2  0 _ _  bxb3 fpb3 (by omega)
              refine m_icmp_ne (tgt := 31) C ⟨by omega, by omega⟩ ⟨by decide, by decide⟩ dX12_findCan_24 (by decide) (fun c10 => ?_) (fun c10 => ?_)
              · refine m_iconst C dX12_findCan_31 ?_
                refine m_lv (lv2 := [(3, .int (iI dq1)), (2, .int (iI y)), (1, .int (iI x)), (0, .ref h0)]) [0, 1, 2, 3] rfl ?_
                exact J1  0 _ _  bxb2 fpb2 (by omega)
              · refine m_iconst C dX12_findCan_27 ?_
                refine m_goto (tgt := 32) C dX12_findCan_28 (by decide) ?_
                refine m_lv (lv2 := [(3, .int (iI dq1)), (2, .int (iI y)), (1, .int (iI x)), (0, .ref h0)]) [0, 1, 2, 3] rfl ?_
                exact J1  1 _ _  bxb2 fpb2 (by omega)
        refine m_lv (lv2 := [(2, .int (iI 0)), (1, .int (iI x)), (0, .ref h0)]) [0, 1, 2] rfl ?_
        exact Lp2 6 0 _ _ (by omega) bxb1 fpb1 (by omega)
  refine m_lv (lv2 := [(1, .int (iI (v 50))), (0, .ref h0)]) [0, 1] rfl ?_
  exact Lp1 102 (v 50) _ _ (by omega) hB fp0 (by omega)
set_option maxHeartbeats 4000000 in
set_option maxRecDepth 100000 in
theorem B_keep {l : Launch} {G : GT} {h0 : Nat} {ad ln : Nat → Nat} {v : Nat → Int} {a : Nat → Nat → Int}  (hB : BX v a) (h60 : v 60 ≤ v 64) : Mm l G yX12_keep cX12_keep 2 none 0 [] h0 ad ln v a 0 0 (fun r v2 a2 => r = none ∧ fr [60, 61] [58, 59] v a v2 a2 ∧ BX v2 a2 ∧ (v2 60 ≤ v 64)) := by
  refine Mm.mk (by decide) (Nat.le_of_ble_eq_true rfl) ?_
  intro p e s m args below meth c A C
  refine hv3 (show 0 ≤ v 64 ∧ v 64 ≤ 50 from hB.1 64) (show 0 ≤ v 60 ∧ v 60 ≤ 50 from hB.1 60) (show fr [60, 61] [58, 59] v a v a from fr.refl) (fun r64 r60 fp0 => ?_)
  refine m_aload_n (j := 0) C dX12_keep_0 rfl ?_
  have rv1 : 0 ≤ v 60 ∧ v 60 ≤ 50 := hB.1 60
  refine m_get (k := 60) C dX12_keep_1 w6_119 (by decide) rfl ?_
  refine m_aload_n (j := 0) C dX12_keep_4 rfl ?_
  have rv2 : 0 ≤ v 64 ∧ v 64 ≤ 50 := hB.1 64
  refine m_get (k := 64) C dX12_keep_5 w6_123 (by decide) rfl ?_
  refine m_icmp_ne (tgt := 17) C (r32_c (lo := 0) (hi := 50) rv1.1 rv1.2 (by decide) (by decide)) (r32_c (lo := 0) (hi := 50) rv2.1 rv2.2 (by decide) (by decide)) dX12_keep_8 (by decide) (fun c1 => ?_) (fun c1 => ?_)
  · refine m_iconst C dX12_keep_17 ?_
    refine m_istore_n (lv2 := [(1, .int (iI 0)), (0, .ref h0)]) C dX12_keep_18 (by decide) rfl ?_
    have Lp1 : ∀ (nn : Nat) (k : Int) (vb1 : Nat → Int) (ab1 : Nat → Nat → Int), 809 - k < (nn : Int) → BX vb1 ab1 → fr [60, 61] [58, 59] v a vb1 ab1 → (0 ≤ k ∧ k ≤ 808) → (vb1 60 = v 60) → mw p l e (rmq 0 0 0) s m args below meth c G A 2 (MQ below (Qm G A (fun rq Lq Eq => ∃ (vq : Nat → Int) (aq : Nat → Nat → Int), mI G h0 ad ln vq aq Lq Eq ∧ (fun r v2 a2 => r = none ∧ fr [60, 61] [58, 59] v a v2 a2 ∧ BX v2 a2 ∧ (v2 60 ≤ v 64)) rq vq aq)) args s 0 0 A) h0 ad ln vb1 ab1 0 0 19 [(1, .int (iI k)), (0, .ref h0)] [] := by
      intro nn
      induction nn with
      | zero =>
        intro k vb1 ab1 hm bxb1 fpb1 hk h602
        exact absurd hm (by omega)
      | succ nn ih1 =>
        intro k vb1 ab1 hm bxb1 fpb1 hk h602
        refine m_iload_n (j := 0) C dX12_keep_19 rfl ?_
        refine m_aload_n (j := 1) C dX12_keep_20 rfl ?_
        refine hv2 (show 0 ≤ vb1 63 ∧ vb1 63 ≤ 808 from bxb1.1 63) (show vb1 63 = v 63 from fpb1.1 63 rfl) (fun rv3 ve1 => ?_)
        refine m_get (k := 63) C dX12_keep_21 w6_122 (by decide) rfl ?_
        refine m_st (st2 := [.int (iI (v 63)), .int (iI k)]) (congrArg (fun z => Value.int (iI z) :: [.int (iI k)]) (fpb1.1 63 rfl)) ?_
        refine m_icmp_ge (tgt := 54) C (r32_c (lo := 0) (hi := 808) hk.1 hk.2 (by decide) (by decide)) (r32_c (lo := 0) (hi := 808) (Int.le_trans rv3.1 (Int.le_of_eq ve1)) (Int.le_trans (Int.le_of_eq ve1.symm) rv3.2) (by decide) (by decide)) dX12_keep_24 (by decide) (fun c2 => ?_) (fun c2 => ?_)
        · refine m_aload_n (j := 1) C dX12_keep_54 rfl ?_
          refine m_geta (k := 59) C dX12_keep_55 w6_118 (by decide) rfl ?_
          refine m_aload_n (j := 1) C dX12_keep_58 rfl ?_
          have rv4 : 0 ≤ vb1 60 ∧ vb1 60 ≤ 50 := bxb1.1 60
          refine m_get (k := 60) C dX12_keep_59 w6_119 (by decide) rfl ?_
          refine m_aload_n (j := 1) C dX12_keep_62 rfl ?_
          refine m_get (k := 63) C dX12_keep_63 w6_122 (by decide) rfl ?_
          refine m_st (st2 := [.int (iI (v 63)), .int (iI (vb1 60)), .ref (ad 59)]) (congrArg (fun z => Value.int (iI z) :: [.int (iI (vb1 60)), .ref (ad 59)]) (fpb1.1 63 rfl)) ?_
          refine m_ast (k := 59) C dX12_keep_66 rfl rfl (by decide) (by omega) (by show _ < ((_ : Nat) : Int); simp only [mlen]; omega) (by decide) ?_
          refine hv2 (show BX vb1 (up2 ab1 59 (vb1 60).toNat (v 63)) from bxb1.set (k := 59) (i := (vb1 60).toNat) (z := v 63) (show 0 ≤ (v 63) ∧ (v 63) ≤ 808 by omega)) (fpb1.set (k := 59) (i := (vb1 60).toNat) (z := v 63) rfl) (fun bq1 fq1 => ?_)
          refine m_aload_n (j := 1) C dX12_keep_67 rfl ?_
          refine m_dup C dX12_keep_68 rfl ?_
          refine m_get (k := 60) C dX12_keep_69 w6_119 (by decide) rfl ?_
          refine m_iconst C dX12_keep_72 ?_
          refine m_iadd C dX12_keep_73 ?_
          refine m_put (k := 60) (z := (vb1 60) + 1) C dX12_keep_74 w6_119 (by decide) rfl rfl rfl ?_
          refine hv2 (show BX (va_up vb1 60 ((vb1 60) + 1)) (up2 ab1 59 (vb1 60).toNat (v 63)) from bq1.put (k := 60) (z := (vb1 60) + 1) (show 0 ≤ ((vb1 60) + 1) ∧ ((vb1 60) + 1) ≤ 50 by omega)) (fq1.put (k := 60) (z := (vb1 60) + 1) rfl) (fun bq2 fq2 => ?_)
          exact m_vret C dX12_keep_77 rfl (Nat.le_of_ble_eq_true rfl) (Nat.le_of_ble_eq_true rfl) ⟨rfl, fq2, bq2, (by show ((vb1 60) + 1) ≤ (v 64); omega)⟩
        · refine m_aload_n (j := 1) C dX12_keep_27 rfl ?_
          refine m_geta (k := 58) C dX12_keep_28 w6_117 (by decide) rfl ?_
          refine m_sipush (z := 808) C dX12_keep_31 (by decide) ?_
          refine m_aload_n (j := 1) C dX12_keep_34 rfl ?_
          have rv5 : 0 ≤ vb1 60 ∧ vb1 60 ≤ 50 := bxb1.1 60
          refine m_get (k := 60) C dX12_keep_35 w6_119 (by decide) rfl ?_
          refine m_imul C dX12_keep_38 ?_
          refine m_iload_n (j := 0) C dX12_keep_39 rfl ?_
          refine m_iadd C dX12_keep_40 ?_
          refine m_aload_n (j := 1) C dX12_keep_41 rfl ?_
          refine m_geta (k := 62) C dX12_keep_42 w6_121 (by decide) rfl ?_
          refine m_iload_n (j := 0) C dX12_keep_45 rfl ?_
          refine m_ald (k := 62) C dX12_keep_46 rfl rfl (by decide) hk.1 (Int.lt_of_le_of_lt hk.2 (by decide)) (by decide) ?_
          refine hv2 (show (-2147483648) ≤ ab1 62 k.toNat ∧ ab1 62 k.toNat ≤ 2147483647 from bxb1.2 62 (k.toNat)) (show ab1 62 (k.toNat) = a 62 (k.toNat) from congrFun (fpb1.2 62 rfl) (k.toNat)) (fun ra1 ae1 => ?_)
          refine m_st (st2 := [.int (iI (a 62 k.toNat)), .int (iI ((808 * (vb1 60)) + k)), .ref (ad 58)]) (congrArg (fun z => Value.int (iI z) :: [.int (iI ((808 * (vb1 60)) + k)), .ref (ad 58)]) (congrFun (fpb1.2 62 rfl) (k.toNat))) ?_
          refine m_ast (k := 58) C dX12_keep_47 rfl rfl (by decide) (by omega) (by show _ < ((_ : Nat) : Int); simp only [mlen]; omega) (by decide) ?_
          refine hv2 (show BX vb1 (up2 ab1 58 ((808 * (vb1 60)) + k).toNat (a 62 k.toNat)) from bxb1.set (k := 58) (i := ((808 * (vb1 60)) + k).toNat) (z := a 62 k.toNat) (show (-2147483648) ≤ (a 62 k.toNat) ∧ (a 62 k.toNat) ≤ 2147483647 by omega)) (fpb1.set (k := 58) (i := ((808 * (vb1 60)) + k).toNat) (z := a 62 k.toNat) rfl) (fun bq3 fq3 => ?_)
          refine m_iinc (z := k) (j := 0) (lv2 := [(1, .int (iI (k + 1))), (0, .ref h0)]) C dX12_keep_48 rfl (by decide) rfl ?_
          refine m_goto (tgt := 19) C dX12_keep_51 (by decide) ?_
          refine m_lv (lv2 := [(1, .int (iI (k + 1))), (0, .ref h0)]) [0, 1] rfl ?_
          exact ih1  (k + 1) _ _ (by omega) bq3 fq3 (by omega) (by show (vb1 60) = v 60; omega)
    refine m_lv (lv2 := [(1, .int (iI 0)), (0, .ref h0)]) [0, 1] rfl ?_
    exact Lp1 810 0 _ _ (by omega) hB fp0 (by omega) (by show (v 60) = v 60; omega)
  · refine m_aload_n (j := 0) C dX12_keep_11 rfl ?_
    refine m_iconst C dX12_keep_12 ?_
    refine m_put (k := 61) (z := 1) C dX12_keep_13 w6_120 (by decide) rfl rfl rfl ?_
    refine hv2 (show BX (va_up v 61 1) a from hB.put (k := 61) (z := 1) ⟨by decide, by decide⟩) (fp0.put (k := 61) (z := 1) rfl) (fun bq4 fq4 => ?_)
    exact m_vret C dX12_keep_16 rfl (Nat.le_of_ble_eq_true rfl) (Nat.le_of_ble_eq_true rfl) ⟨rfl, fq4, bq4, (by show (v 60) ≤ (v 64); omega)⟩
def GoC (l : Launch) (G : GT) (h0 : Nat) (ad ln : Nat → Nat) (d : Nat) (x : Int) : Prop := ∀ (v : Nat → Int) (a : Nat → Nat → Int) (pt g : Int), BX v a → RWS a → v 50 ≤ 100 → (0 ≤ x ∧ x ≤ v 50) → (pt = 0 ∨ pt = 1) → (g = 0 ∨ g = 1) → v 60 ≤ v 64 → v 63 ≤ 8 * x → Mm l G yX12_go cX12_go 8 none d [.int (iI x), .int (iI pt), .int (iI g)] h0 ad ln v a 0 0 (fun r v2 a2 => r = none ∧ fr [60, 61, 63] [58, 59, 62] v a v2 a2 ∧ BX v2 a2 ∧ (v2 60 ≤ v 64 ∧ v2 63 = v 63))
set_option maxHeartbeats 4000000 in
set_option maxRecDepth 100000 in
theorem M_go1 {l : Launch} {G : GT} {h0 : Nat} {ad ln : Nat → Nat} {v : Nat → Int} {a : Nat → Nat → Int} {d : Nat} {x pt g : Int} (hB : BX v a) (hW : RWS a) (h50 : v 50 ≤ 100) (hx : 0 ≤ x ∧ x ≤ v 50) (hp : pt = 0 ∨ pt = 1) (hg : g = 0 ∨ g = 1) (h60 : v 60 ≤ v 64) (h63 : v 63 ≤ 8 * x) (hd : 3 ≤ d) (hf : ∀ b : Int, x < b → GoC l G h0 ad ln d b) : Mm l G yX12_go cX12_go 8 none (d + 1) [.int (iI x), .int (iI pt), .int (iI g)] h0 ad ln v a 0 0 (fun r v2 a2 => r = none ∧ fr [60, 61, 63] [58, 59, 62] v a v2 a2 ∧ BX v2 a2 ∧ (v2 60 ≤ v 64 ∧ v2 63 = v 63)) := by
  refine Mm.mk (by decide) (Nat.le_of_ble_eq_true rfl) ?_
  intro p e s m args below meth c A C
  refine hv6 (show 0 ≤ v 64 ∧ v 64 ≤ 50 from hB.1 64) (show 0 ≤ v 60 ∧ v 60 ≤ 50 from hB.1 60) (show 0 ≤ v 63 ∧ v 63 ≤ 808 from hB.1 63) ((hW 0 (Or.inl rfl)).1) ((hW 1 (Or.inr rfl)).1) (show fr [60, 61, 63] [58, 59, 62] v a v a from fr.refl) (fun r64 r60 r63 r470 r471 fp0 => ?_)
  refine m_aload_n (j := 0) C dX12_go_0 rfl ?_
  have rv1 : 0 ≤ v 61 ∧ v 61 ≤ 1 := hB.1 61
  refine m_get (k := 61) C dX12_go_1 w6_120 (by decide) rfl ?_
  refine m_iconst C dX12_go_4 ?_
  refine m_icmp_ne (tgt := 9) C (r32_c (lo := 0) (hi := 1) rv1.1 rv1.2 (by decide) (by decide)) ⟨by decide, by decide⟩ dX12_go_5 (by decide) (fun c1 => ?_) (fun c1 => ?_)
  · refine m_iload_n (j := 1) C dX12_go_9 rfl ?_
    refine m_aload_n (j := 0) C dX12_go_10 rfl ?_
    have rv2 : 0 ≤ v 50 ∧ v 50 ≤ 40200 := hB.1 50
    refine m_get (k := 50) C dX12_go_11 w6_109 (by decide) rfl ?_
    refine m_icmp_ne (tgt := 22) C ⟨by omega, by omega⟩ (r32_c (lo := 0) (hi := 40200) rv2.1 rv2.2 (by decide) (by decide)) dX12_go_14 (by decide) (fun c2 => ?_) (fun c2 => ?_)
    · refine m_aload_n (j := 0) C dX12_go_22 rfl ?_
      have rv3 : 0 ≤ v 63 ∧ v 63 ≤ 808 := hB.1 63
      refine m_get (k := 63) C dX12_go_23 w6_122 (by decide) rfl ?_
      refine m_istore (lv2 := [(4, .int (iI (v 63))), (0, .ref h0), (1, .int (iI x)), (2, .int (iI pt)), (3, .int (iI g))]) C dX12_go_26 (by decide) rfl ?_
      refine m_aload_n (j := 1) C dX12_go_28 rfl ?_
      refine m_iload_n (j := 2) C dX12_go_29 rfl ?_
      refine m_iload_n (j := 4) C dX12_go_30 rfl ?_
      refine m_call (mc2 := 0) (ms2 := 0) (As := [.int (iI x), .int (iI g)]) (rest := []) C (M_mayBlank (x := x) (g := g) hB (by show 0 ≤ x ∧ x < (v 50); omega) (by show (v 50) ≤ 100; omega) (by show g = 0 ∨ g = 1; omega)) dX12_go_31 kV_X12_374 rfl ck_13 rfl (Nat.le_of_ble_eq_true rfl) ⟨by dsimp only [rmq]; omega, by dsimp only [rmq]; omega⟩ ⟨Nat.le_of_ble_eq_true rfl, Nat.le_of_ble_eq_true rfl⟩ (fun rh1 vh1 ah1 h1 => ?_)
      obtain ⟨f1, rfl, fn1, bn1, ex1⟩ := h1
      obtain ⟨rfl, rfl⟩ := fn1.eq
      have gf1 : f1 = 0 ∨ f1 = 1 := ex1
      refine m_st (st2 := [.int (iI f1)]) rfl ?_
      have J1 : ∀ (vb1 : Nat → Int) (ab1 : Nat → Nat → Int), BX vb1 ab1 → fr [60, 61, 63] [58, 59, 62] v a vb1 ab1 → (vb1 63 = v 63) → (vb1 60 ≤ v 64) → mw p l e (rmq (d + 1) 0 0) s m args below meth c G A 8 (MQ below (Qm G A (fun rq Lq Eq => ∃ (vq : Nat → Int) (aq : Nat → Nat → Int), mI G h0 ad ln vq aq Lq Eq ∧ (fun r v2 a2 => r = none ∧ fr [60, 61, 63] [58, 59, 62] v a v2 a2 ∧ BX v2 a2 ∧ (v2 60 ≤ v 64 ∧ v2 63 = v 63)) rq vq aq)) args s 0 0 A) h0 ad ln vb1 ab1 0 0 73 [(4, .int (iI (v 63))), (0, .ref h0), (1, .int (iI x)), (2, .int (iI pt)), (3, .int (iI g))] [] := by
        intro  vb1 ab1 bxb1 fpb1 h63a h60a
        refine m_sipush (z := 6008) C dX12_go_73 (by decide) ?_
        refine m_iload_n (j := 3) C dX12_go_76 rfl ?_
        refine m_imul C dX12_go_77 ?_
        refine m_istore (lv2 := [(5, .int (iI (6008 * pt))), (4, .int (iI (v 63))), (0, .ref h0), (1, .int (iI x)), (2, .int (iI pt)), (3, .int (iI g))]) C dX12_go_78 (by decide) rfl ?_
        have Lp1 : ∀ (nn : Nat) (r : Int) (vb2 : Nat → Int) (ab2 : Nat → Nat → Int), 6008 * pt + 6009 - r < (nn : Int) → BX vb2 ab2 → fr [60, 61, 63] [58, 59, 62] v a vb2 ab2 → (6008 * pt ≤ r ∧ r ≤ 6008 * pt + 6008) → (vb2 63 = v 63) → (vb2 60 ≤ v 64) → mw p l e (rmq (d + 1) 0 0) s m args below meth c G A 8 (MQ below (Qm G A (fun rq Lq Eq => ∃ (vq : Nat → Int) (aq : Nat → Nat → Int), mI G h0 ad ln vq aq Lq Eq ∧ (fun r v2 a2 => r = none ∧ fr [60, 61, 63] [58, 59, 62] v a v2 a2 ∧ BX v2 a2 ∧ (v2 60 ≤ v 64 ∧ v2 63 = v 63)) rq vq aq)) args s 0 0 A) h0 ad ln vb2 ab2 0 0 80 [(5, .int (iI r)), (4, .int (iI (v 63))), (0, .ref h0), (1, .int (iI x)), (2, .int (iI pt)), (3, .int (iI g))] [] := by
          intro nn
          induction nn with
          | zero =>
            intro r vb2 ab2 hm bxb2 fpb2 hr h63b h60b
            exact absurd hm (by omega)
          | succ nn ih1 =>
            intro r vb2 ab2 hm bxb2 fpb2 hr h63b h60b
            refine m_iload (j := 0) C dX12_go_80 rfl ?_
            refine m_sipush (z := 6008) C dX12_go_82 (by decide) ?_
            refine m_iload_n (j := 4) C dX12_go_85 rfl ?_
            refine m_imul C dX12_go_86 ?_
            refine m_aload_n (j := 2) C dX12_go_87 rfl ?_
            refine m_geta (k := 47) C dX12_go_88 w6_106 (by decide) rfl ?_
            refine m_iload_n (j := 4) C dX12_go_91 rfl ?_
            refine m_ald (k := 47) C dX12_go_92 rfl rfl (by decide) (by omega) (by show _ < ((_ : Nat) : Int); simp only [mlen]; omega) (by decide) ?_
            refine hv2 (show 0 ≤ ab2 47 pt.toNat ∧ ab2 47 pt.toNat ≤ 6008 from bxb2.2 47 (pt.toNat)) (show ab2 47 (pt.toNat) = a 47 (pt.toNat) from congrFun (fpb2.2 47 rfl) (pt.toNat)) (fun ra1 ae1 => ?_)
            refine m_st (st2 := [.int (iI (a 47 pt.toNat)), .int (iI (6008 * pt)), .int (iI r)]) (congrArg (fun z => Value.int (iI z) :: [.int (iI (6008 * pt)), .int (iI r)]) (congrFun (fpb2.2 47 rfl) (pt.toNat))) ?_
            refine m_iadd C dX12_go_93 ?_
            refine m_icmp_ge (tgt := 310) C ⟨by omega, by omega⟩ ⟨by omega, by omega⟩ dX12_go_94 (by decide) (fun c3 => ?_) (fun c3 => ?_)
            · have rv4 : 0 ≤ vb2 60 ∧ vb2 60 ≤ 50 := bxb2.1 60
              have rv5 : 0 ≤ vb2 63 ∧ vb2 63 ≤ 808 := bxb2.1 63
              exact m_vret C dX12_go_310 rfl (Nat.le_of_ble_eq_true rfl) (Nat.le_of_ble_eq_true rfl) ⟨rfl, fpb2, bxb2, (by show (vb2 60) ≤ (v 64) ∧ (vb2 63) = (v 63); omega)⟩
            · refine m_aload_n (j := 2) C dX12_go_97 rfl ?_
              have rv6 : 0 ≤ vb2 61 ∧ vb2 61 ≤ 1 := bxb2.1 61
              refine m_get (k := 61) C dX12_go_98 w6_120 (by decide) rfl ?_
              refine m_if_ne (tgt := 310) C (r32_c (lo := 0) (hi := 1) rv6.1 rv6.2 (by decide) (by decide)) dX12_go_101 (by decide) (fun c4 => ?_) (fun c4 => ?_)
              · have rv7 : 0 ≤ vb2 60 ∧ vb2 60 ≤ 50 := bxb2.1 60
                have rv8 : 0 ≤ vb2 63 ∧ vb2 63 ≤ 808 := bxb2.1 63
                exact m_vret C dX12_go_310 rfl (Nat.le_of_ble_eq_true rfl) (Nat.le_of_ble_eq_true rfl) ⟨rfl, fpb2, bxb2, (by show (vb2 60) ≤ (v 64) ∧ (vb2 63) = (v 63); omega)⟩
              · refine m_aload_n (j := 2) C dX12_go_104 rfl ?_
                refine m_iload (j := 0) C dX12_go_105 rfl ?_
                refine m_iload_n (j := 3) C dX12_go_107 rfl ?_
                refine m_iload_n (j := 4) C dX12_go_108 rfl ?_
                refine m_iload_n (j := 5) C dX12_go_109 rfl ?_
                refine hv9 (show RowOK a r from (hW (pt) (by omega)).2 r (by omega) (by omega)) (show (-4) ≤ ab2 44 r.toNat ∧ ab2 44 r.toNat ≤ 5999 from bxb2.2 44 (r.toNat)) (show ab2 44 (r.toNat) = a 44 (r.toNat) from congrFun (fpb2.2 44 rfl) (r.toNat)) (show 0 ≤ ab2 46 r.toNat ∧ ab2 46 r.toNat ≤ 4 from bxb2.2 46 (r.toNat)) (show ab2 46 (r.toNat) = a 46 (r.toNat) from congrFun (fpb2.2 46 rfl) (r.toNat)) (show 0 ≤ ab2 45 r.toNat ∧ ab2 45 r.toNat ≤ 23999 from bxb2.2 45 (r.toNat)) (show ab2 45 (r.toNat) = a 45 (r.toNat) from congrFun (fpb2.2 45 rfl) (r.toNat)) (show 0 ≤ vb2 50 ∧ vb2 50 ≤ 40200 from bxb2.1 50) (show vb2 50 = v 50 from fpb2.1 50 rfl) (fun ro ra2 ae2 ra3 ae3 ra4 ae4 rv9 ve1 => ?_)
                refine hv4 (ro.1) (ro.2.1) (ro.2.2.1) (ro.2.2.2) (fun ro1 ro2 ro3 ro4 => ?_)
                refine m_call (mc2 := 0) (ms2 := 0) (As := [.int (iI r), .int (iI x), .int (iI pt), .int (iI g)]) (rest := []) C (M_may (r1 := r) (x := x) (pt := pt) (g := g) bxb2 (by show 0 ≤ r ∧ r < 12016; omega) (by show -4 ≤ ab2 44 r.toNat ∧ ab2 44 r.toNat < 6000; omega) (by show 1 ≤ ab2 46 r.toNat ∧ ab2 46 r.toNat ≤ 4; omega) (by show 0 ≤ ab2 45 r.toNat ∧ (0 ≤ ab2 44 r.toNat → ab2 45 r.toNat + ab2 46 r.toNat ≤ 24000) ∧ (ab2 44 r.toNat < 0 → ab2 45 r.toNat + ab2 46 r.toNat ≤ 480); omega) (by show 0 ≤ x ∧ x ≤ 100; omega) (by show (vb2 50) ≤ 100; omega) (by show pt = 0 ∨ pt = 1; omega) (by show g = 0 ∨ g = 1; omega)) dX12_go_110 kV_X12_378 rfl ck_13 rfl (Nat.le_of_ble_eq_true rfl) ⟨by dsimp only [rmq]; omega, by dsimp only [rmq]; omega⟩ ⟨Nat.le_of_ble_eq_true rfl, Nat.le_of_ble_eq_true rfl⟩ (fun rh2 vh2 ah2 h2 => ?_)
                obtain ⟨f2, rfl, fn2, bn2, ex2⟩ := h2
                obtain ⟨rfl, rfl⟩ := fn2.eq
                have gf2 : f2 = 0 ∨ (f2 = 1 ∧ x + ab2 46 r.toNat ≤ (vb2 50)) := ex2
                refine m_st (st2 := [.int (iI f2)]) rfl ?_
                refine m_if_ne (tgt := 119) C (r32_0p gf2) dX12_go_113 (by decide) (fun c5 => ?_) (fun c5 => ?_)
                · replace gf2 := (gf2.resolve_left c5)
                  refine m_aload_n (j := 2) C dX12_go_119 rfl ?_
                  refine m_geta (k := 44) C dX12_go_120 w6_103 (by decide) rfl ?_
                  refine m_iload (j := 0) C dX12_go_123 rfl ?_
                  refine m_ald (k := 44) C dX12_go_125 rfl rfl (by decide) (by omega) (by show _ < ((_ : Nat) : Int); simp only [mlen]; omega) (by decide) ?_
                  refine m_st (st2 := [.int (iI (a 44 r.toNat))]) (congrArg (fun z => Value.int (iI z) :: []) (congrFun (fpb2.2 44 rfl) (r.toNat))) ?_
                  refine m_istore (lv2 := [(6, .int (iI (a 44 r.toNat))), (5, .int (iI r)), (4, .int (iI (v 63))), (0, .ref h0), (1, .int (iI x)), (2, .int (iI pt)), (3, .int (iI g))]) C dX12_go_126 (by decide) rfl ?_
                  refine m_iconst C dX12_go_128 ?_
                  refine m_istore (lv2 := [(7, .int (iI 0)), (6, .int (iI (a 44 r.toNat))), (5, .int (iI r)), (4, .int (iI (v 63))), (0, .ref h0), (1, .int (iI x)), (2, .int (iI pt)), (3, .int (iI g))]) C dX12_go_129 (by decide) rfl ?_
                  have Lp2 : ∀ (nn : Nat) (k : Int) (vb3 : Nat → Int) (ab3 : Nat → Nat → Int), 9 - k < (nn : Int) → BX vb3 ab3 → fr [60, 61, 63] [58, 59, 62] v a vb3 ab3 → (0 ≤ k ∧ k ≤ 8) → (vb3 63 = v 63) → (vb3 60 ≤ v 64) → mw p l e (rmq (d + 1) 0 0) s m args below meth c G A 8 (MQ below (Qm G A (fun rq Lq Eq => ∃ (vq : Nat → Int) (aq : Nat → Nat → Int), mI G h0 ad ln vq aq Lq Eq ∧ (fun r v2 a2 => r = none ∧ fr [60, 61, 63] [58, 59, 62] v a v2 a2 ∧ BX v2 a2 ∧ (v2 60 ≤ v 64 ∧ v2 63 = v 63)) rq vq aq)) args s 0 0 A) h0 ad ln vb3 ab3 0 0 131 [(7, .int (iI k)), (6, .int (iI (a 44 r.toNat))), (5, .int (iI r)), (4, .int (iI (v 63))), (0, .ref h0), (1, .int (iI x)), (2, .int (iI pt)), (3, .int (iI g))] [] := by
                    intro nn
                    induction nn with
                    | zero =>
                      intro k vb3 ab3 hm bxb3 fpb3 hk h63c h60c
                      exact absurd hm (by omega)
                    | succ nn ih2 =>
                      intro k vb3 ab3 hm bxb3 fpb3 hk h63c h60c
                      have J2 : ∀ (vb4 : Nat → Int) (ab4 : Nat → Nat → Int), BX vb4 ab4 → fr [60, 61, 63] [58, 59, 62] v a vb4 ab4 → (vb4 63 = v 63) → (vb4 60 ≤ v 64) → mw p l e (rmq (d + 1) 0 0) s m args below meth c G A 8 (MQ below (Qm G A (fun rq Lq Eq => ∃ (vq : Nat → Int) (aq : Nat → Nat → Int), mI G h0 ad ln vq aq Lq Eq ∧ (fun r v2 a2 => r = none ∧ fr [60, 61, 63] [58, 59, 62] v a v2 a2 ∧ BX v2 a2 ∧ (v2 60 ≤ v 64 ∧ v2 63 = v 63)) rq vq aq)) args s 0 0 A) h0 ad ln vb4 ab4 0 0 195 [(6, .int (iI (a 44 r.toNat))), (5, .int (iI r)), (4, .int (iI (v 63))), (0, .ref h0), (1, .int (iI x)), (2, .int (iI pt)), (3, .int (iI g))] [] := by
                        intro  vb4 ab4 bxb4 fpb4 h63d h60d
                        have J3 : ∀ (vb5 : Nat → Int) (ab5 : Nat → Nat → Int), BX vb5 ab5 → fr [60, 61, 63] [58, 59, 62] v a vb5 ab5 → (0 ≤ vb5 63 ∧ vb5 63 ≤ 8 * x + 8 ∧ (a 44 r.toNat < 0 → vb5 63 ≤ 8 * x)) → (vb5 60 ≤ v 64) → mw p l e (rmq (d + 1) 0 0) s m args below meth c G A 8 (MQ below (Qm G A (fun rq Lq Eq => ∃ (vq : Nat → Int) (aq : Nat → Nat → Int), mI G h0 ad ln vq aq Lq Eq ∧ (fun r v2 a2 => r = none ∧ fr [60, 61, 63] [58, 59, 62] v a v2 a2 ∧ BX v2 a2 ∧ (v2 60 ≤ v 64 ∧ v2 63 = v 63)) rq vq aq)) args s 0 0 A) h0 ad ln vb5 ab5 0 0 220 [(6, .int (iI (a 44 r.toNat))), (5, .int (iI r)), (4, .int (iI (v 63))), (0, .ref h0), (1, .int (iI x)), (2, .int (iI pt)), (3, .int (iI g))] [] := by
                          intro  vb5 ab5 bxb5 fpb5 h63e h60e
                          have J4 : ∀ (vb6 : Nat → Int) (ab6 : Nat → Nat → Int), BX vb6 ab6 → fr [60, 61, 63] [58, 59, 62] v a vb6 ab6 → (0 ≤ vb6 63 ∧ vb6 63 ≤ 8 * x + 8) → (vb6 60 ≤ v 64) → mw p l e (rmq (d + 1) 0 0) s m args below meth c G A 8 (MQ below (Qm G A (fun rq Lq Eq => ∃ (vq : Nat → Int) (aq : Nat → Nat → Int), mI G h0 ad ln vq aq Lq Eq ∧ (fun r v2 a2 => r = none ∧ fr [60, 61, 63] [58, 59, 62] v a v2 a2 ∧ BX v2 a2 ∧ (v2 60 ≤ v 64 ∧ v2 63 = v 63)) rq vq aq)) args s 0 0 A) h0 ad ln vb6 ab6 0 0 267 [(6, .int (iI (a 44 r.toNat))), (5, .int (iI r)), (4, .int (iI (v 63))), (0, .ref h0), (1, .int (iI x)), (2, .int (iI pt)), (3, .int (iI g))] [] := by
                            intro  vb6 ab6 bxb6 fpb6 h63f h60f
                            refine m_aload_n (j := 3) C dX12_go_267 rfl ?_
                            refine m_iload_n (j := 4) C dX12_go_268 rfl ?_
                            refine m_aload_n (j := 3) C dX12_go_269 rfl ?_
                            refine m_geta (k := 46) C dX12_go_270 w6_105 (by decide) rfl ?_
                            refine m_iload (j := 1) C dX12_go_273 rfl ?_
                            refine m_ald (k := 46) C dX12_go_275 rfl rfl (by decide) (by omega) (by show _ < ((_ : Nat) : Int); simp only [mlen]; omega) (by decide) ?_
                            refine hv2 (show 0 ≤ ab6 46 r.toNat ∧ ab6 46 r.toNat ≤ 4 from bxb6.2 46 (r.toNat)) (show ab6 46 (r.toNat) = a 46 (r.toNat) from congrFun (fpb6.2 46 rfl) (r.toNat)) (fun ra5 ae5 => ?_)
                            refine m_st (st2 := [.int (iI (a 46 r.toNat)), .int (iI x), .ref h0]) (congrArg (fun z => Value.int (iI z) :: [.int (iI x), .ref h0]) (congrFun (fpb6.2 46 rfl) (r.toNat))) ?_
                            refine m_iadd C dX12_go_276 ?_
                            refine m_aload_n (j := 3) C dX12_go_277 rfl ?_
                            refine m_iload (j := 1) C dX12_go_278 rfl ?_
                            refine m_iload_n (j := 5) C dX12_go_280 rfl ?_
                            refine m_call (mc2 := 0) (ms2 := 0) (As := [.int (iI r), .int (iI pt)]) (rest := [.int (iI (x + (a 46 r.toNat))), .ref h0]) C (M_next (r := r) (q := pt) bxb6.rg (by omega) (by omega)) dX12_go_281 kV_X12_367 rfl ck_13 rfl (Nat.le_of_ble_eq_true rfl) ⟨by dsimp only [rmq]; omega, by dsimp only [rmq]; omega⟩ ⟨Nat.le_of_ble_eq_true rfl, Nat.le_of_ble_eq_true rfl⟩ (fun rh3 vh3 ah3 h3 => ?_)
                            obtain ⟨f3, rfl, hf3, rfl, rfl⟩ := h3
                            have gf3 : f3 = 0 ∨ f3 = 1 := hf3
                            refine m_st (st2 := [.int (iI f3), .int (iI (x + (a 46 r.toNat))), .ref h0]) rfl ?_
                            refine m_iload (j := 0) C dX12_go_284 rfl ?_
                            refine m_iconst C dX12_go_286 ?_
                            refine m_icmp_ne (tgt := 294) C ⟨by omega, by omega⟩ ⟨by decide, by decide⟩ dX12_go_287 (by decide) (fun c6 => ?_) (fun c6 => ?_)
                            · refine m_iconst C dX12_go_294 ?_
                              refine hv6 (show 0 ≤ vb6 50 ∧ vb6 50 ≤ 40200 from bxb6.1 50) (show vb6 50 = v 50 from fpb6.1 50 rfl) (show 0 ≤ vb6 60 ∧ vb6 60 ≤ 50 from bxb6.1 60) (show 0 ≤ vb6 63 ∧ vb6 63 ≤ 808 from bxb6.1 63) (show 0 ≤ vb6 64 ∧ vb6 64 ≤ 50 from bxb6.1 64) (show vb6 64 = v 64 from fpb6.1 64 rfl) (fun rv10 ve2 rv11 rv12 rv13 ve3 => ?_)
                              refine m_call (mc2 := 0) (ms2 := 0) (As := [.int (iI (x + (a 46 r.toNat))), .int (iI f3), .int (iI 0)]) (rest := []) C (hf (x + (a 46 r.toNat)) (by omega) _ _ (f3) (0) bxb6 (RWS.fr hW fpb6 rfl) (by show (vb6 50) ≤ 100; omega) (by show 0 ≤ (x + (a 46 r.toNat)) ∧ (x + (a 46 r.toNat)) ≤ (vb6 50); omega) (by omega) (by omega) (by show (vb6 60) ≤ (vb6 64); omega) (by show (vb6 63) ≤ 8 * (x + (a 46 r.toNat)); omega)) dX12_go_295 kV_X12_391 rfl ck_13 rfl (Nat.le_of_ble_eq_true rfl) ⟨by dsimp only [rmq]; omega, by dsimp only [rmq]; omega⟩ ⟨Nat.le_of_ble_eq_true rfl, Nat.le_of_ble_eq_true rfl⟩ (fun rh4 vh4 ah4 h4 => ?_)
                              obtain ⟨rfl, fn3, bn3, ex3⟩ := h4
                              refine hv4 (fpb6.call fn3 rfl rfl) (show 0 ≤ vh4 60 ∧ vh4 60 ≤ 50 from bn3.1 60) (show 0 ≤ vh4 63 ∧ vh4 63 ≤ 808 from bn3.1 63) (show (vh4 60) ≤ (vb6 64) ∧ (vh4 63) = (vb6 63) from ex3) (fun fq3 rv14 rv15 gex3 => ?_)
                              refine m_st (st2 := []) rfl ?_
                              refine m_aload_n (j := 3) C dX12_go_298 rfl ?_
                              refine m_iload (j := 2) C dX12_go_299 rfl ?_
                              refine m_put (k := 63) (z := v 63) C dX12_go_301 w6_122 (by decide) rfl rfl rfl ?_
                              refine hv2 (show BX (va_up vh4 63 (v 63)) ah4 from bn3.put (k := 63) (z := v 63) (show 0 ≤ (v 63) ∧ (v 63) ≤ 808 by omega)) (fq3.put (k := 63) (z := v 63) rfl) (fun bq1 fq4 => ?_)
                              refine m_iinc (z := r) (j := 1) (lv2 := [(5, .int (iI (r + 1))), (6, .int (iI (a 44 r.toNat))), (4, .int (iI (v 63))), (0, .ref h0), (1, .int (iI x)), (2, .int (iI pt)), (3, .int (iI g))]) C dX12_go_304 rfl (by decide) rfl ?_
                              refine m_goto (tgt := 80) C dX12_go_307 (by decide) ?_
                              refine m_lv (lv2 := [(5, .int (iI (r + 1))), (4, .int (iI (v 63))), (0, .ref h0), (1, .int (iI x)), (2, .int (iI pt)), (3, .int (iI g))]) [0, 2, 3, 4, 5, 6] rfl ?_
                              exact ih1  (r + 1) _ _ (by omega) bq1 fq4 (by omega) (by show (v 63) = v 63; omega) (by show (vh4 60) ≤ v 64; omega)
                            · refine m_iconst C dX12_go_290 ?_
                              refine m_goto (tgt := 295) C dX12_go_291 (by decide) ?_
                              refine hv6 (show 0 ≤ vb6 50 ∧ vb6 50 ≤ 40200 from bxb6.1 50) (show vb6 50 = v 50 from fpb6.1 50 rfl) (show 0 ≤ vb6 60 ∧ vb6 60 ≤ 50 from bxb6.1 60) (show 0 ≤ vb6 63 ∧ vb6 63 ≤ 808 from bxb6.1 63) (show 0 ≤ vb6 64 ∧ vb6 64 ≤ 50 from bxb6.1 64) (show vb6 64 = v 64 from fpb6.1 64 rfl) (fun rv16 ve4 rv17 rv18 rv19 ve5 => ?_)
                              refine m_call (mc2 := 0) (ms2 := 0) (As := [.int (iI (x + (a 46 r.toNat))), .int (iI f3), .int (iI 1)]) (rest := []) C (hf (x + (a 46 r.toNat)) (by omega) _ _ (f3) (1) bxb6 (RWS.fr hW fpb6 rfl) (by show (vb6 50) ≤ 100; omega) (by show 0 ≤ (x + (a 46 r.toNat)) ∧ (x + (a 46 r.toNat)) ≤ (vb6 50); omega) (by omega) (by omega) (by show (vb6 60) ≤ (vb6 64); omega) (by show (vb6 63) ≤ 8 * (x + (a 46 r.toNat)); omega)) dX12_go_295 kV_X12_391 rfl ck_13 rfl (Nat.le_of_ble_eq_true rfl) ⟨by dsimp only [rmq]; omega, by dsimp only [rmq]; omega⟩ ⟨Nat.le_of_ble_eq_true rfl, Nat.le_of_ble_eq_true rfl⟩ (fun rh5 vh5 ah5 h5 => ?_)
                              obtain ⟨rfl, fn4, bn4, ex4⟩ := h5
                              refine hv4 (fpb6.call fn4 rfl rfl) (show 0 ≤ vh5 60 ∧ vh5 60 ≤ 50 from bn4.1 60) (show 0 ≤ vh5 63 ∧ vh5 63 ≤ 808 from bn4.1 63) (show (vh5 60) ≤ (vb6 64) ∧ (vh5 63) = (vb6 63) from ex4) (fun fq5 rv20 rv21 gex4 => ?_)
                              refine m_st (st2 := []) rfl ?_
                              refine m_aload_n (j := 3) C dX12_go_298 rfl ?_
                              refine m_iload (j := 2) C dX12_go_299 rfl ?_
                              refine m_put (k := 63) (z := v 63) C dX12_go_301 w6_122 (by decide) rfl rfl rfl ?_
                              refine hv2 (show BX (va_up vh5 63 (v 63)) ah5 from bn4.put (k := 63) (z := v 63) (show 0 ≤ (v 63) ∧ (v 63) ≤ 808 by omega)) (fq5.put (k := 63) (z := v 63) rfl) (fun bq2 fq6 => ?_)
                              refine m_iinc (z := r) (j := 1) (lv2 := [(5, .int (iI (r + 1))), (6, .int (iI (a 44 r.toNat))), (4, .int (iI (v 63))), (0, .ref h0), (1, .int (iI x)), (2, .int (iI pt)), (3, .int (iI g))]) C dX12_go_304 rfl (by decide) rfl ?_
                              refine m_goto (tgt := 80) C dX12_go_307 (by decide) ?_
                              refine m_lv (lv2 := [(5, .int (iI (r + 1))), (4, .int (iI (v 63))), (0, .ref h0), (1, .int (iI x)), (2, .int (iI pt)), (3, .int (iI g))]) [0, 2, 3, 4, 5, 6] rfl ?_
                              exact ih1  (r + 1) _ _ (by omega) bq2 fq6 (by omega) (by show (v 63) = v 63; omega) (by show (vh5 60) ≤ v 64; omega)
                          refine m_iload (j := 0) C dX12_go_220 rfl ?_
                          refine m_bipush (z := (-3)) C dX12_go_222 (by decide) ?_
                          refine m_icmp_eq (tgt := 234) C ⟨by omega, by omega⟩ ⟨by decide, by decide⟩ dX12_go_224 (by decide) (fun c7 => ?_) (fun c7 => ?_)
                          · refine m_aload_n (j := 3) C dX12_go_234 rfl ?_
                            refine m_geta (k := 62) C dX12_go_235 w6_121 (by decide) rfl ?_
                            refine m_aload_n (j := 3) C dX12_go_238 rfl ?_
                            have rv22 : 0 ≤ vb5 63 ∧ vb5 63 ≤ 808 := bxb5.1 63
                            refine m_get (k := 63) C dX12_go_239 w6_122 (by decide) rfl ?_
                            refine m_iload (j := 0) C dX12_go_242 rfl ?_
                            refine m_bipush (z := (-3)) C dX12_go_244 (by decide) ?_
                            refine m_icmp_ne (tgt := 254) C ⟨by omega, by omega⟩ ⟨by decide, by decide⟩ dX12_go_246 (by decide) (fun z => absurd z (by omega)) (fun _ => ?_)
                            refine m_bipush (z := 60) C dX12_go_249 (by decide) ?_
                            refine m_goto (tgt := 256) C dX12_go_251 (by decide) ?_
                            refine m_ast (k := 62) C dX12_go_256 rfl rfl (by decide) rv22.1 (Int.lt_of_le_of_lt rv22.2 (by decide)) (by decide) ?_
                            refine hv2 (show BX vb5 (up2 ab5 62 (vb5 63).toNat 60) from bxb5.set (k := 62) (i := (vb5 63).toNat) (z := 60) ⟨by decide, by decide⟩) (fpb5.set (k := 62) (i := (vb5 63).toNat) (z := 60) rfl) (fun bq3 fq7 => ?_)
                            refine m_aload_n (j := 3) C dX12_go_257 rfl ?_
                            refine m_dup C dX12_go_258 rfl ?_
                            refine m_get (k := 63) C dX12_go_259 w6_122 (by decide) rfl ?_
                            refine m_iconst C dX12_go_262 ?_
                            refine m_iadd C dX12_go_263 ?_
                            refine m_put (k := 63) (z := (vb5 63) + 1) C dX12_go_264 w6_122 (by decide) rfl rfl rfl ?_
                            refine hv2 (show BX (va_up vb5 63 ((vb5 63) + 1)) (up2 ab5 62 (vb5 63).toNat 60) from bq3.put (k := 63) (z := (vb5 63) + 1) (show 0 ≤ ((vb5 63) + 1) ∧ ((vb5 63) + 1) ≤ 808 by omega)) (fq7.put (k := 63) (z := (vb5 63) + 1) rfl) (fun bq4 fq8 => ?_)
                            have rv23 : 0 ≤ vb5 60 ∧ vb5 60 ≤ 50 := bq4.1 60
                            refine m_lv (lv2 := [(6, .int (iI (a 44 r.toNat))), (5, .int (iI r)), (4, .int (iI (v 63))), (0, .ref h0), (1, .int (iI x)), (2, .int (iI pt)), (3, .int (iI g))]) [0, 1, 2, 3, 4, 5, 6] rfl ?_
                            exact J4   _ _  bq4 fq8 (by show 0 ≤ ((vb5 63) + 1) ∧ ((vb5 63) + 1) ≤ 8 * x + 8; omega) (by show (vb5 60) ≤ v 64; omega)
                          · refine m_iload (j := 0) C dX12_go_227 rfl ?_
                            refine m_bipush (z := (-4)) C dX12_go_229 (by decide) ?_
                            refine m_icmp_ne (tgt := 267) C ⟨by omega, by omega⟩ ⟨by decide, by decide⟩ dX12_go_231 (by decide) (fun c8 => ?_) (fun c8 => ?_)
                            · have rv24 : 0 ≤ vb5 63 ∧ vb5 63 ≤ 808 := bxb5.1 63
                              have rv25 : 0 ≤ vb5 60 ∧ vb5 60 ≤ 50 := bxb5.1 60
                              refine m_lv (lv2 := [(6, .int (iI (a 44 r.toNat))), (5, .int (iI r)), (4, .int (iI (v 63))), (0, .ref h0), (1, .int (iI x)), (2, .int (iI pt)), (3, .int (iI g))]) [0, 1, 2, 3, 4, 5, 6] rfl ?_
                              exact J4   _ _  bxb5 fpb5 (by show 0 ≤ (vb5 63) ∧ (vb5 63) ≤ 8 * x + 8; omega) (by show (vb5 60) ≤ v 64; omega)
                            · refine m_aload_n (j := 3) C dX12_go_234 rfl ?_
                              refine m_geta (k := 62) C dX12_go_235 w6_121 (by decide) rfl ?_
                              refine m_aload_n (j := 3) C dX12_go_238 rfl ?_
                              have rv26 : 0 ≤ vb5 63 ∧ vb5 63 ≤ 808 := bxb5.1 63
                              refine m_get (k := 63) C dX12_go_239 w6_122 (by decide) rfl ?_
                              refine m_iload (j := 0) C dX12_go_242 rfl ?_
                              refine m_bipush (z := (-3)) C dX12_go_244 (by decide) ?_
                              refine m_icmp_ne (tgt := 254) C ⟨by omega, by omega⟩ ⟨by decide, by decide⟩ dX12_go_246 (by decide) (fun _ => ?_) (fun z => absurd z (by omega))
                              refine m_bipush (z := 62) C dX12_go_254 (by decide) ?_
                              refine m_ast (k := 62) C dX12_go_256 rfl rfl (by decide) rv26.1 (Int.lt_of_le_of_lt rv26.2 (by decide)) (by decide) ?_
                              refine hv2 (show BX vb5 (up2 ab5 62 (vb5 63).toNat 62) from bxb5.set (k := 62) (i := (vb5 63).toNat) (z := 62) ⟨by decide, by decide⟩) (fpb5.set (k := 62) (i := (vb5 63).toNat) (z := 62) rfl) (fun bq5 fq9 => ?_)
                              refine m_aload_n (j := 3) C dX12_go_257 rfl ?_
                              refine m_dup C dX12_go_258 rfl ?_
                              refine m_get (k := 63) C dX12_go_259 w6_122 (by decide) rfl ?_
                              refine m_iconst C dX12_go_262 ?_
                              refine m_iadd C dX12_go_263 ?_
                              refine m_put (k := 63) (z := (vb5 63) + 1) C dX12_go_264 w6_122 (by decide) rfl rfl rfl ?_
                              refine hv2 (show BX (va_up vb5 63 ((vb5 63) + 1)) (up2 ab5 62 (vb5 63).toNat 62) from bq5.put (k := 63) (z := (vb5 63) + 1) (show 0 ≤ ((vb5 63) + 1) ∧ ((vb5 63) + 1) ≤ 808 by omega)) (fq9.put (k := 63) (z := (vb5 63) + 1) rfl) (fun bq6 fq10 => ?_)
                              have rv27 : 0 ≤ vb5 60 ∧ vb5 60 ≤ 50 := bq6.1 60
                              refine m_lv (lv2 := [(6, .int (iI (a 44 r.toNat))), (5, .int (iI r)), (4, .int (iI (v 63))), (0, .ref h0), (1, .int (iI x)), (2, .int (iI pt)), (3, .int (iI g))]) [0, 1, 2, 3, 4, 5, 6] rfl ?_
                              exact J4   _ _  bq6 fq10 (by show 0 ≤ ((vb5 63) + 1) ∧ ((vb5 63) + 1) ≤ 8 * x + 8; omega) (by show (vb5 60) ≤ v 64; omega)
                        refine m_aload_n (j := 3) C dX12_go_195 rfl ?_
                        refine m_dup C dX12_go_196 rfl ?_
                        have rv28 : 0 ≤ vb4 63 ∧ vb4 63 ≤ 808 := bxb4.1 63
                        refine m_get (k := 63) C dX12_go_197 w6_122 (by decide) rfl ?_
                        refine m_iload (j := 0) C dX12_go_200 rfl ?_
                        refine m_if_lt (tgt := 215) C ⟨by omega, by omega⟩ dX12_go_202 (by decide) (fun c9 => ?_) (fun c9 => ?_)
                        · refine m_iconst C dX12_go_215 ?_
                          refine m_iadd C dX12_go_216 ?_
                          refine m_put (k := 63) (z := (vb4 63) + 0) C dX12_go_217 w6_122 (by decide) rfl rfl rfl ?_
                          refine hv2 (show BX (va_up vb4 63 ((vb4 63) + 0)) ab4 from bxb4.put (k := 63) (z := (vb4 63) + 0) (show 0 ≤ ((vb4 63) + 0) ∧ ((vb4 63) + 0) ≤ 808 by omega)) (fpb4.put (k := 63) (z := (vb4 63) + 0) rfl) (fun bq7 fq11 => ?_)
                          have rv29 : 0 ≤ vb4 60 ∧ vb4 60 ≤ 50 := bq7.1 60
                          refine m_lv (lv2 := [(6, .int (iI (a 44 r.toNat))), (5, .int (iI r)), (4, .int (iI (v 63))), (0, .ref h0), (1, .int (iI x)), (2, .int (iI pt)), (3, .int (iI g))]) [0, 1, 2, 3, 4, 5, 6] rfl ?_
                          exact J3   _ _  bq7 fq11 (by show 0 ≤ ((vb4 63) + 0) ∧ ((vb4 63) + 0) ≤ 8 * x + 8 ∧ (a 44 r.toNat < 0 → ((vb4 63) + 0) ≤ 8 * x); omega) (by show (vb4 60) ≤ v 64; omega)
                        · refine m_aload_n (j := 3) C dX12_go_205 rfl ?_
                          refine m_geta (k := 12) C dX12_go_206 w6_71 (by decide) rfl ?_
                          refine m_iload (j := 0) C dX12_go_209 rfl ?_
                          refine m_ald (k := 12) C dX12_go_211 rfl rfl (by decide) (by omega) (by show _ < ((_ : Nat) : Int); simp only [mlen]; omega) (by decide) ?_
                          refine hv2 (show 0 ≤ ab4 12 (a 44 r.toNat).toNat ∧ ab4 12 (a 44 r.toNat).toNat ≤ 8 from bxb4.2 12 ((a 44 r.toNat).toNat)) (show ab4 12 ((a 44 r.toNat).toNat) = a 12 ((a 44 r.toNat).toNat) from congrFun (fpb4.2 12 rfl) ((a 44 r.toNat).toNat)) (fun ra6 ae6 => ?_)
                          refine m_st (st2 := [.int (iI (a 12 (a 44 r.toNat).toNat)), .int (iI (vb4 63)), .ref h0]) (congrArg (fun z => Value.int (iI z) :: [.int (iI (vb4 63)), .ref h0]) (congrFun (fpb4.2 12 rfl) ((a 44 r.toNat).toNat))) ?_
                          refine m_goto (tgt := 216) C dX12_go_212 (by decide) ?_
                          refine m_iadd C dX12_go_216 ?_
                          refine m_put (k := 63) (z := (vb4 63) + (a 12 (a 44 r.toNat).toNat)) C dX12_go_217 w6_122 (by decide) rfl rfl rfl ?_
                          refine hv2 (show BX (va_up vb4 63 ((vb4 63) + (a 12 (a 44 r.toNat).toNat))) ab4 from bxb4.put (k := 63) (z := (vb4 63) + (a 12 (a 44 r.toNat).toNat)) (show 0 ≤ ((vb4 63) + (a 12 (a 44 r.toNat).toNat)) ∧ ((vb4 63) + (a 12 (a 44 r.toNat).toNat)) ≤ 808 by omega)) (fpb4.put (k := 63) (z := (vb4 63) + (a 12 (a 44 r.toNat).toNat)) rfl) (fun bq8 fq12 => ?_)
                          have rv30 : 0 ≤ vb4 60 ∧ vb4 60 ≤ 50 := bq8.1 60
                          refine m_lv (lv2 := [(6, .int (iI (a 44 r.toNat))), (5, .int (iI r)), (4, .int (iI (v 63))), (0, .ref h0), (1, .int (iI x)), (2, .int (iI pt)), (3, .int (iI g))]) [0, 1, 2, 3, 4, 5, 6] rfl ?_
                          exact J3   _ _  bq8 fq12 (by show 0 ≤ ((vb4 63) + (a 12 (a 44 r.toNat).toNat)) ∧ ((vb4 63) + (a 12 (a 44 r.toNat).toNat)) ≤ 8 * x + 8 ∧ (a 44 r.toNat < 0 → ((vb4 63) + (a 12 (a 44 r.toNat).toNat)) ≤ 8 * x); omega) (by show (vb4 60) ≤ v 64; omega)
                      refine m_iload (j := 1) C dX12_go_131 rfl ?_
                      refine m_if_lt (tgt := 195) C ⟨by omega, by omega⟩ dX12_go_133 (by decide) (fun c10 => ?_) (fun c10 => ?_)
                      · have rv31 : 0 ≤ vb3 63 ∧ vb3 63 ≤ 808 := bxb3.1 63
                        have rv32 : 0 ≤ vb3 60 ∧ vb3 60 ≤ 50 := bxb3.1 60
                        refine m_lv (lv2 := [(6, .int (iI (a 44 r.toNat))), (5, .int (iI r)), (4, .int (iI (v 63))), (0, .ref h0), (1, .int (iI x)), (2, .int (iI pt)), (3, .int (iI g))]) [1, 2, 3, 4, 5, 6, 7] rfl ?_
                        exact J2   _ _  bxb3 fpb3 (by show (vb3 63) = v 63; omega) (by show (vb3 60) ≤ v 64; omega)
                      · refine m_iload (j := 0) C dX12_go_136 rfl ?_
                        refine m_aload_n (j := 4) C dX12_go_138 rfl ?_
                        refine m_geta (k := 12) C dX12_go_139 w6_71 (by decide) rfl ?_
                        refine m_iload (j := 1) C dX12_go_142 rfl ?_
                        refine m_ald (k := 12) C dX12_go_144 rfl rfl (by decide) (by omega) (by show _ < ((_ : Nat) : Int); simp only [mlen]; omega) (by decide) ?_
                        refine hv2 (show 0 ≤ ab3 12 (a 44 r.toNat).toNat ∧ ab3 12 (a 44 r.toNat).toNat ≤ 8 from bxb3.2 12 ((a 44 r.toNat).toNat)) (show ab3 12 ((a 44 r.toNat).toNat) = a 12 ((a 44 r.toNat).toNat) from congrFun (fpb3.2 12 rfl) ((a 44 r.toNat).toNat)) (fun ra7 ae7 => ?_)
                        refine m_st (st2 := [.int (iI (a 12 (a 44 r.toNat).toNat)), .int (iI k)]) (congrArg (fun z => Value.int (iI z) :: [.int (iI k)]) (congrFun (fpb3.2 12 rfl) ((a 44 r.toNat).toNat))) ?_
                        refine m_icmp_ge (tgt := 195) C (r32_c (lo := 0) (hi := 8) hk.1 hk.2 (by decide) (by decide)) ⟨by omega, by omega⟩ dX12_go_145 (by decide) (fun c11 => ?_) (fun c11 => ?_)
                        · have rv33 : 0 ≤ vb3 63 ∧ vb3 63 ≤ 808 := bxb3.1 63
                          have rv34 : 0 ≤ vb3 60 ∧ vb3 60 ≤ 50 := bxb3.1 60
                          refine m_lv (lv2 := [(6, .int (iI (a 44 r.toNat))), (5, .int (iI r)), (4, .int (iI (v 63))), (0, .ref h0), (1, .int (iI x)), (2, .int (iI pt)), (3, .int (iI g))]) [1, 2, 3, 4, 5, 6, 7] rfl ?_
                          exact J2   _ _  bxb3 fpb3 (by show (vb3 63) = v 63; omega) (by show (vb3 60) ≤ v 64; omega)
                        · refine m_aload_n (j := 4) C dX12_go_148 rfl ?_
                          refine m_geta (k := 62) C dX12_go_149 w6_121 (by decide) rfl ?_
                          refine m_aload_n (j := 4) C dX12_go_152 rfl ?_
                          have rv35 : 0 ≤ vb3 63 ∧ vb3 63 ≤ 808 := bxb3.1 63
                          refine m_get (k := 63) C dX12_go_153 w6_122 (by decide) rfl ?_
                          refine m_iload (j := 0) C dX12_go_156 rfl ?_
                          refine m_iadd C dX12_go_158 ?_
                          refine m_aload_n (j := 4) C dX12_go_159 rfl ?_
                          refine m_geta (k := 14) C dX12_go_160 w6_73 (by decide) rfl ?_
                          refine m_bipush (z := 8) C dX12_go_163 (by decide) ?_
                          refine m_iload (j := 1) C dX12_go_165 rfl ?_
                          refine m_imul C dX12_go_167 ?_
                          refine m_iload (j := 0) C dX12_go_168 rfl ?_
                          refine m_iadd C dX12_go_170 ?_
                          refine m_ald (k := 14) C dX12_go_171 rfl rfl (by decide) (by omega) (by show _ < ((_ : Nat) : Int); simp only [mlen]; omega) (by decide) ?_
                          refine hv2 (show 0 ≤ ab3 14 ((8 * (a 44 r.toNat)) + k).toNat ∧ ab3 14 ((8 * (a 44 r.toNat)) + k).toNat ≤ 125 from bxb3.2 14 (((8 * (a 44 r.toNat)) + k).toNat)) (show ab3 14 (((8 * (a 44 r.toNat)) + k).toNat) = a 14 (((8 * (a 44 r.toNat)) + k).toNat) from congrFun (fpb3.2 14 rfl) (((8 * (a 44 r.toNat)) + k).toNat)) (fun ra8 ae8 => ?_)
                          refine m_st (st2 := [.int (iI (a 14 ((8 * (a 44 r.toNat)) + k).toNat)), .int (iI ((vb3 63) + k)), .ref (ad 62)]) (congrArg (fun z => Value.int (iI z) :: [.int (iI ((vb3 63) + k)), .ref (ad 62)]) (congrFun (fpb3.2 14 rfl) (((8 * (a 44 r.toNat)) + k).toNat))) ?_
                          refine m_iload_n (j := 7) C dX12_go_172 rfl ?_
                          refine m_if_eq (tgt := 186) C ⟨by omega, by omega⟩ dX12_go_173 (by decide) (fun c12 => ?_) (fun c12 => ?_)
                          · refine m_iconst C dX12_go_186 ?_
                            refine m_isub C dX12_go_187 ?_
                            refine m_ast (k := 62) C dX12_go_188 rfl rfl (by decide) (by omega) (by show _ < ((_ : Nat) : Int); simp only [mlen]; omega) (by decide) ?_
                            refine hv2 (show BX vb3 (up2 ab3 62 ((vb3 63) + k).toNat ((a 14 ((8 * (a 44 r.toNat)) + k).toNat) - 0)) from bxb3.set (k := 62) (i := ((vb3 63) + k).toNat) (z := (a 14 ((8 * (a 44 r.toNat)) + k).toNat) - 0) (show (-2147483648) ≤ ((a 14 ((8 * (a 44 r.toNat)) + k).toNat) - 0) ∧ ((a 14 ((8 * (a 44 r.toNat)) + k).toNat) - 0) ≤ 2147483647 by omega)) (fpb3.set (k := 62) (i := ((vb3 63) + k).toNat) (z := (a 14 ((8 * (a 44 r.toNat)) + k).toNat) - 0) rfl) (fun bq9 fq13 => ?_)
                            refine m_iinc (z := k) (j := 0) (lv2 := [(7, .int (iI (k + 1))), (6, .int (iI (a 44 r.toNat))), (5, .int (iI r)), (4, .int (iI (v 63))), (0, .ref h0), (1, .int (iI x)), (2, .int (iI pt)), (3, .int (iI g))]) C dX12_go_189 rfl (by decide) rfl ?_
                            refine m_goto (tgt := 131) C dX12_go_192 (by decide) ?_
                            have rv36 : 0 ≤ vb3 60 ∧ vb3 60 ≤ 50 := bq9.1 60
                            refine m_lv (lv2 := [(7, .int (iI (k + 1))), (6, .int (iI (a 44 r.toNat))), (5, .int (iI r)), (4, .int (iI (v 63))), (0, .ref h0), (1, .int (iI x)), (2, .int (iI pt)), (3, .int (iI g))]) [0, 1, 2, 3, 4, 5, 6, 7] rfl ?_
                            exact ih2  (k + 1) _ _ (by omega) bq9 fq13 (by omega) (by show (vb3 63) = v 63; omega) (by show (vb3 60) ≤ v 64; omega)
                          · refine m_iload (j := 0) C dX12_go_176 rfl ?_
                            refine m_if_ne (tgt := 186) C (r32_c (lo := 0) (hi := 8) hk.1 hk.2 (by decide) (by decide)) dX12_go_178 (by decide) (fun c13 => ?_) (fun c13 => ?_)
                            · refine m_iconst C dX12_go_186 ?_
                              refine m_isub C dX12_go_187 ?_
                              refine m_ast (k := 62) C dX12_go_188 rfl rfl (by decide) (by omega) (by show _ < ((_ : Nat) : Int); simp only [mlen]; omega) (by decide) ?_
                              refine hv2 (show BX vb3 (up2 ab3 62 ((vb3 63) + k).toNat ((a 14 ((8 * (a 44 r.toNat)) + k).toNat) - 0)) from bxb3.set (k := 62) (i := ((vb3 63) + k).toNat) (z := (a 14 ((8 * (a 44 r.toNat)) + k).toNat) - 0) (show (-2147483648) ≤ ((a 14 ((8 * (a 44 r.toNat)) + k).toNat) - 0) ∧ ((a 14 ((8 * (a 44 r.toNat)) + k).toNat) - 0) ≤ 2147483647 by omega)) (fpb3.set (k := 62) (i := ((vb3 63) + k).toNat) (z := (a 14 ((8 * (a 44 r.toNat)) + k).toNat) - 0) rfl) (fun bq10 fq14 => ?_)
                              refine m_iinc (z := k) (j := 0) (lv2 := [(7, .int (iI (k + 1))), (6, .int (iI (a 44 r.toNat))), (5, .int (iI r)), (4, .int (iI (v 63))), (0, .ref h0), (1, .int (iI x)), (2, .int (iI pt)), (3, .int (iI g))]) C dX12_go_189 rfl (by decide) rfl ?_
                              refine m_goto (tgt := 131) C dX12_go_192 (by decide) ?_
                              have rv37 : 0 ≤ vb3 60 ∧ vb3 60 ≤ 50 := bq10.1 60
                              refine m_lv (lv2 := [(7, .int (iI (k + 1))), (6, .int (iI (a 44 r.toNat))), (5, .int (iI r)), (4, .int (iI (v 63))), (0, .ref h0), (1, .int (iI x)), (2, .int (iI pt)), (3, .int (iI g))]) [0, 1, 2, 3, 4, 5, 6, 7] rfl ?_
                              exact ih2  (k + 1) _ _ (by omega) bq10 fq14 (by omega) (by show (vb3 63) = v 63; omega) (by show (vb3 60) ≤ v 64; omega)
                            · refine m_bipush (z := 32) C dX12_go_181 (by decide) ?_
                              refine m_goto (tgt := 187) C dX12_go_183 (by decide) ?_
                              refine m_isub C dX12_go_187 ?_
                              refine m_ast (k := 62) C dX12_go_188 rfl rfl (by decide) (by omega) (by show _ < ((_ : Nat) : Int); simp only [mlen]; omega) (by decide) ?_
                              refine hv2 (show BX vb3 (up2 ab3 62 ((vb3 63) + k).toNat ((a 14 ((8 * (a 44 r.toNat)) + k).toNat) - 32)) from bxb3.set (k := 62) (i := ((vb3 63) + k).toNat) (z := (a 14 ((8 * (a 44 r.toNat)) + k).toNat) - 32) (show (-2147483648) ≤ ((a 14 ((8 * (a 44 r.toNat)) + k).toNat) - 32) ∧ ((a 14 ((8 * (a 44 r.toNat)) + k).toNat) - 32) ≤ 2147483647 by omega)) (fpb3.set (k := 62) (i := ((vb3 63) + k).toNat) (z := (a 14 ((8 * (a 44 r.toNat)) + k).toNat) - 32) rfl) (fun bq11 fq15 => ?_)
                              refine m_iinc (z := k) (j := 0) (lv2 := [(7, .int (iI (k + 1))), (6, .int (iI (a 44 r.toNat))), (5, .int (iI r)), (4, .int (iI (v 63))), (0, .ref h0), (1, .int (iI x)), (2, .int (iI pt)), (3, .int (iI g))]) C dX12_go_189 rfl (by decide) rfl ?_
                              refine m_goto (tgt := 131) C dX12_go_192 (by decide) ?_
                              have rv38 : 0 ≤ vb3 60 ∧ vb3 60 ≤ 50 := bq11.1 60
                              refine m_lv (lv2 := [(7, .int (iI (k + 1))), (6, .int (iI (a 44 r.toNat))), (5, .int (iI r)), (4, .int (iI (v 63))), (0, .ref h0), (1, .int (iI x)), (2, .int (iI pt)), (3, .int (iI g))]) [0, 1, 2, 3, 4, 5, 6, 7] rfl ?_
                              exact ih2  (k + 1) _ _ (by omega) bq11 fq15 (by omega) (by show (vb3 63) = v 63; omega) (by show (vb3 60) ≤ v 64; omega)
                  refine hv2 (show 0 ≤ vb2 63 ∧ vb2 63 ≤ 808 from bxb2.1 63) (show 0 ≤ vb2 60 ∧ vb2 60 ≤ 50 from bxb2.1 60) (fun rv39 rv40 => ?_)
                  refine m_lv (lv2 := [(7, .int (iI 0)), (6, .int (iI (a 44 r.toNat))), (5, .int (iI r)), (4, .int (iI (v 63))), (0, .ref h0), (1, .int (iI x)), (2, .int (iI pt)), (3, .int (iI g))]) [0, 1, 2, 3, 4, 5, 6, 7] rfl ?_
                  exact Lp2 10 0 _ _ (by omega) bxb2 fpb2 (by omega) (by show (vb2 63) = v 63; omega) (by show (vb2 60) ≤ v 64; omega)
                · clear gf2
                  refine m_goto (tgt := 304) C dX12_go_116 (by decide) ?_
                  refine m_iinc (z := r) (j := 0) (lv2 := [(5, .int (iI (r + 1))), (4, .int (iI (v 63))), (0, .ref h0), (1, .int (iI x)), (2, .int (iI pt)), (3, .int (iI g))]) C dX12_go_304 rfl (by decide) rfl ?_
                  refine m_goto (tgt := 80) C dX12_go_307 (by decide) ?_
                  refine hv2 (show 0 ≤ vb2 63 ∧ vb2 63 ≤ 808 from bxb2.1 63) (show 0 ≤ vb2 60 ∧ vb2 60 ≤ 50 from bxb2.1 60) (fun rv41 rv42 => ?_)
                  refine m_lv (lv2 := [(5, .int (iI (r + 1))), (4, .int (iI (v 63))), (0, .ref h0), (1, .int (iI x)), (2, .int (iI pt)), (3, .int (iI g))]) [0, 1, 2, 3, 4, 5] rfl ?_
                  exact ih1  (r + 1) _ _ (by omega) bxb2 fpb2 (by omega) (by show (vb2 63) = v 63; omega) (by show (vb2 60) ≤ v 64; omega)
        refine hv2 (show 0 ≤ vb1 63 ∧ vb1 63 ≤ 808 from bxb1.1 63) (show 0 ≤ vb1 60 ∧ vb1 60 ≤ 50 from bxb1.1 60) (fun rv43 rv44 => ?_)
        refine m_lv (lv2 := [(5, .int (iI (6008 * pt))), (4, .int (iI (v 63))), (0, .ref h0), (1, .int (iI x)), (2, .int (iI pt)), (3, .int (iI g))]) [0, 1, 2, 3, 4, 5] rfl ?_
        exact Lp1 6010 (6008 * pt) _ _ (by omega) bxb1 fpb1 (by omega) (by show (vb1 63) = v 63; omega) (by show (vb1 60) ≤ v 64; omega)
      refine m_if_eq (tgt := 73) C (r32_01 gf1) dX12_go_34 (by decide) (fun c14 => ?_) (fun c14 => ?_)
      · clear gf1
        have rv45 : 0 ≤ v 60 ∧ v 60 ≤ 50 := hB.1 60
        refine m_lv (lv2 := [(4, .int (iI (v 63))), (0, .ref h0), (1, .int (iI x)), (2, .int (iI pt)), (3, .int (iI g))]) [0, 1, 2, 3, 4] rfl ?_
        exact J1   _ _  hB fp0 (by show (v 63) = v 63; omega) (by show (v 60) ≤ v 64; omega)
      · replace gf1 := (gf1.resolve_left c14)
        refine m_aload_n (j := 1) C dX12_go_37 rfl ?_
        refine m_geta (k := 62) C dX12_go_38 w6_121 (by decide) rfl ?_
        refine m_aload_n (j := 1) C dX12_go_41 rfl ?_
        refine m_get (k := 63) C dX12_go_42 w6_122 (by decide) rfl ?_
        refine m_bipush (z := 32) C dX12_go_45 (by decide) ?_
        refine m_ast (k := 62) C dX12_go_47 rfl rfl (by decide) rv3.1 (Int.lt_of_le_of_lt rv3.2 (by decide)) (by decide) ?_
        refine hv2 (show BX v (up2 a 62 (v 63).toNat 32) from hB.set (k := 62) (i := (v 63).toNat) (z := 32) ⟨by decide, by decide⟩) (fp0.set (k := 62) (i := (v 63).toNat) (z := 32) rfl) (fun bq12 fq16 => ?_)
        refine m_aload_n (j := 1) C dX12_go_48 rfl ?_
        refine m_dup C dX12_go_49 rfl ?_
        refine m_get (k := 63) C dX12_go_50 w6_122 (by decide) rfl ?_
        refine m_iconst C dX12_go_53 ?_
        refine m_iadd C dX12_go_54 ?_
        refine m_put (k := 63) (z := (v 63) + 1) C dX12_go_55 w6_122 (by decide) rfl rfl rfl ?_
        refine hv2 (show BX (va_up v 63 ((v 63) + 1)) (up2 a 62 (v 63).toNat 32) from bq12.put (k := 63) (z := (v 63) + 1) (show 0 ≤ ((v 63) + 1) ∧ ((v 63) + 1) ≤ 808 by omega)) (fq16.put (k := 63) (z := (v 63) + 1) rfl) (fun bq13 fq17 => ?_)
        refine m_aload_n (j := 1) C dX12_go_58 rfl ?_
        refine m_iload_n (j := 2) C dX12_go_59 rfl ?_
        refine m_iconst C dX12_go_60 ?_
        refine m_iadd C dX12_go_61 ?_
        refine m_iconst C dX12_go_62 ?_
        refine m_iconst C dX12_go_63 ?_
        refine hv2 (show 0 ≤ v 60 ∧ v 60 ≤ 50 from bq13.1 60) (show 0 ≤ v 64 ∧ v 64 ≤ 50 from bq13.1 64) (fun rv46 rv47 => ?_)
        refine m_call (mc2 := 0) (ms2 := 0) (As := [.int (iI (x + 1)), .int (iI 0), .int (iI 0)]) (rest := []) C (hf (x + 1) (by omega) _ _ (0) (0) bq13 (RWS.fr hW fq17 rfl) (by show (v 50) ≤ 100; omega) (by show 0 ≤ (x + 1) ∧ (x + 1) ≤ (v 50); omega) (by omega) (by omega) (by show (v 60) ≤ (v 64); omega) (by show ((v 63) + 1) ≤ 8 * (x + 1); omega)) dX12_go_64 kV_X12_391 rfl ck_13 rfl (Nat.le_of_ble_eq_true rfl) ⟨by dsimp only [rmq]; omega, by dsimp only [rmq]; omega⟩ ⟨Nat.le_of_ble_eq_true rfl, Nat.le_of_ble_eq_true rfl⟩ (fun rh6 vh6 ah6 h6 => ?_)
        obtain ⟨rfl, fn5, bn5, ex5⟩ := h6
        refine hv4 (fq17.call fn5 rfl rfl) (show 0 ≤ vh6 60 ∧ vh6 60 ≤ 50 from bn5.1 60) (show 0 ≤ vh6 63 ∧ vh6 63 ≤ 808 from bn5.1 63) (show (vh6 60) ≤ (v 64) ∧ (vh6 63) = ((v 63) + 1) from ex5) (fun fq18 rv48 rv49 gex5 => ?_)
        refine m_st (st2 := []) rfl ?_
        refine m_aload_n (j := 1) C dX12_go_67 rfl ?_
        refine m_iload (j := 0) C dX12_go_68 rfl ?_
        refine m_put (k := 63) (z := v 63) C dX12_go_70 w6_122 (by decide) rfl rfl rfl ?_
        refine hv2 (show BX (va_up vh6 63 (v 63)) ah6 from bn5.put (k := 63) (z := v 63) (show 0 ≤ (v 63) ∧ (v 63) ≤ 808 by omega)) (fq18.put (k := 63) (z := v 63) rfl) (fun bq14 fq19 => ?_)
        refine m_lv (lv2 := [(4, .int (iI (v 63))), (0, .ref h0), (1, .int (iI x)), (2, .int (iI pt)), (3, .int (iI g))]) [0, 1, 2, 3, 4] rfl ?_
        exact J1   _ _  bq14 fq19 (by show (v 63) = v 63; omega) (by show (vh6 60) ≤ v 64; omega)
    · refine m_aload_n (j := 0) C dX12_go_17 rfl ?_
      refine hv2 (show 0 ≤ v 60 ∧ v 60 ≤ 50 from hB.1 60) (show 0 ≤ v 64 ∧ v 64 ≤ 50 from hB.1 64) (fun rv50 rv51 => ?_)
      refine m_call (mc2 := 0) (ms2 := 0) (As := []) (rest := []) C (B_keep  hB (by show (v 60) ≤ (v 64); omega)) dX12_go_18 kV_X12_385 rfl ck_13 rfl (Nat.le_of_ble_eq_true rfl) ⟨by dsimp only [rmq]; omega, by dsimp only [rmq]; omega⟩ ⟨Nat.le_of_ble_eq_true rfl, Nat.le_of_ble_eq_true rfl⟩ (fun rh7 vh7 ah7 h7 => ?_)
      obtain ⟨rfl, fn6, bn6, ex6⟩ := h7
      refine hv3 (fp0.call fn6 rfl rfl) (show 0 ≤ vh7 60 ∧ vh7 60 ≤ 50 from bn6.1 60) (show (vh7 60) ≤ (v 64) from ex6) (fun fq20 rv52 gf4 => ?_)
      refine m_st (st2 := []) rfl ?_
      refine hv2 (show 0 ≤ vh7 63 ∧ vh7 63 ≤ 808 from bn6.1 63) (show vh7 63 = v 63 from fn6.1 63 rfl) (fun rv53 ve6 => ?_)
      exact m_vret C dX12_go_21 rfl (Nat.le_of_ble_eq_true rfl) (Nat.le_of_ble_eq_true rfl) ⟨rfl, fq20, bn6, (by show (vh7 60) ≤ (v 64) ∧ (vh7 63) = (v 63); omega)⟩
  · have rv54 : 0 ≤ v 60 ∧ v 60 ≤ 50 := hB.1 60
    have rv55 : 0 ≤ v 63 ∧ v 63 ≤ 808 := hB.1 63
    exact m_vret C dX12_go_8 rfl (Nat.le_of_ble_eq_true rfl) (Nat.le_of_ble_eq_true rfl) ⟨rfl, fp0, hB, (by show (v 60) ≤ (v 64) ∧ (v 63) = (v 63); omega)⟩
theorem M_goN {l : Launch} {G : GT} {h0 : Nat} {ad ln : Nat → Nat} : ∀ (n : Nat) (x : Int), 100 < x + n → GoC l G h0 ad ln (n + 3) x := by
  intro n
  induction n with
  | zero => intro x h1 v a pt g hB hW h50 hx; omega
  | succ n ih =>
    intro x h1 v a pt g hB hW h50 hx hp hg h60 h63
    exact M_go1 (d := n + 3) hB hW h50 hx hp hg h60 h63 (by omega) (fun b hb => ih b (by omega))
theorem M_go {l : Launch} {G : GT} {h0 : Nat} {ad ln : Nat → Nat} {v : Nat → Int} {a : Nat → Nat → Int} {x pt g : Int} (hB : BX v a) (hW : RWS a) (h50 : v 50 ≤ 100) (hx : 0 ≤ x ∧ x ≤ v 50) (hp : pt = 0 ∨ pt = 1) (hg : g = 0 ∨ g = 1) (h60 : v 60 ≤ v 64) (h63 : v 63 ≤ 8 * x) : Mm l G yX12_go cX12_go 8 none 104 [.int (iI x), .int (iI pt), .int (iI g)] h0 ad ln v a 0 0 (fun r v2 a2 => r = none ∧ fr [60, 61, 63] [58, 59, 62] v a v2 a2 ∧ BX v2 a2 ∧ (v2 60 ≤ v 64 ∧ v2 63 = v 63)) := M_goN 101 x (by omega) v a pt g hB hW h50 hx hp hg h60 h63
theorem TBL.b {v : Nat → Int} {a : Nat → Nat → Int} (h : TBL v a) : ∀ t : Int, 0 ≤ t → t < v 4 → a 8 t.toNat = -1 ∨ (0 ≤ a 8 t.toNat ∧ a 8 t.toNat < t) := by
  intro t h1 h2
  have := h.1 t h1 h2
  omega
end
section
set_option maxHeartbeats 4000000 in
set_option maxRecDepth 100000 in
theorem B_lines {l : Launch} {G : GT} {h0 : Nat} {ad ln : Nat → Nat} {v : Nat → Int} {a : Nat → Nat → Int}  (hB : BX v a)  : Mm l G yX12_lines cX12_lines 1 (some .int) 0 [] h0 ad ln v a 0 0 (fun r v2 a2 => ∃ f : Int, r = some (.int (iI f)) ∧ fr [] [] v a v2 a2 ∧ BX v2 a2 ∧ (True)) := by
  refine Mm.mk (by decide) (Nat.le_of_ble_eq_true rfl) ?_
  intro p e s m args below meth c A C
  have fp0 : fr [] [] v a v a := fr.refl
  refine m_aload_n (j := 0) C dX12_lines_0 rfl ?_
  have rv1 : 0 ≤ v 36 ∧ v 36 ≤ 200 := hB.1 36
  refine m_get (k := 36) C dX12_lines_1 w6_95 (by decide) rfl ?_
  exact m_iret C dX12_lines_4 rfl (Nat.le_of_ble_eq_true rfl) (Nat.le_of_ble_eq_true rfl) ⟨(v 36), rfl, fp0, hB, trivial⟩
set_option maxHeartbeats 4000000 in
set_option maxRecDepth 100000 in
theorem B_closed {l : Launch} {G : GT} {h0 : Nat} {ad ln : Nat → Nat} {v : Nat → Int} {a : Nat → Nat → Int}  (hB : BX v a)  : Mm l G yX12_closed cX12_closed 1 (some .int) 0 [] h0 ad ln v a 0 0 (fun r v2 a2 => ∃ f : Int, r = some (.int (iI f)) ∧ fr [] [] v a v2 a2 ∧ BX v2 a2 ∧ (True)) := by
  refine Mm.mk (by decide) (Nat.le_of_ble_eq_true rfl) ?_
  intro p e s m args below meth c A C
  have fp0 : fr [] [] v a v a := fr.refl
  refine m_aload_n (j := 0) C dX12_closed_0 rfl ?_
  have rv1 : (-2147483648) ≤ v 43 ∧ v 43 ≤ 2147483647 := hB.1 43
  refine m_get (k := 43) C dX12_closed_1 w6_102 (by decide) rfl ?_
  exact m_iret C dX12_closed_4 rfl (Nat.le_of_ble_eq_true rfl) (Nat.le_of_ble_eq_true rfl) ⟨(v 43), rfl, fp0, hB, trivial⟩
set_option maxHeartbeats 4000000 in
set_option maxRecDepth 100000 in
theorem B_more {l : Launch} {G : GT} {h0 : Nat} {ad ln : Nat → Nat} {v : Nat → Int} {a : Nat → Nat → Int}  (hB : BX v a)  : Mm l G yX12_more cX12_more 1 (some .int) 0 [] h0 ad ln v a 0 0 (fun r v2 a2 => ∃ f : Int, r = some (.int (iI f)) ∧ fr [] [] v a v2 a2 ∧ BX v2 a2 ∧ (True)) := by
  refine Mm.mk (by decide) (Nat.le_of_ble_eq_true rfl) ?_
  intro p e s m args below meth c A C
  have fp0 : fr [] [] v a v a := fr.refl
  refine m_aload_n (j := 0) C dX12_more_0 rfl ?_
  have rv1 : 0 ≤ v 61 ∧ v 61 ≤ 1 := hB.1 61
  refine m_get (k := 61) C dX12_more_1 w6_120 (by decide) rfl ?_
  exact m_iret C dX12_more_4 rfl (Nat.le_of_ble_eq_true rfl) (Nat.le_of_ble_eq_true rfl) ⟨(v 61), rfl, fp0, hB, trivial⟩
set_option maxHeartbeats 4000000 in
set_option maxRecDepth 100000 in
theorem B_place {l : Launch} {G : GT} {h0 : Nat} {ad ln : Nat → Nat} {v : Nat → Int} {a : Nat → Nat → Int}  (hB : BX v a)  : Mm l G yX12_place cX12_place 1 (some .int) 0 [] h0 ad ln v a 0 0 (fun r v2 a2 => ∃ f : Int, r = some (.int (iI f)) ∧ fr [] [] v a v2 a2 ∧ BX v2 a2 ∧ (True)) := by
  refine Mm.mk (by decide) (Nat.le_of_ble_eq_true rfl) ?_
  intro p e s m args below meth c A C
  have fp0 : fr [] [] v a v a := fr.refl
  refine m_aload_n (j := 0) C dX12_place_0 rfl ?_
  have rv1 : (-2147483648) ≤ v 1 ∧ v 1 ≤ 2147483647 := hB.1 1
  refine m_get (k := 1) C dX12_place_1 w6_60 (by decide) rfl ?_
  exact m_iret C dX12_place_4 rfl (Nat.le_of_ble_eq_true rfl) (Nat.le_of_ble_eq_true rfl) ⟨(v 1), rfl, fp0, hB, trivial⟩
set_option maxHeartbeats 4000000 in
set_option maxRecDepth 100000 in
theorem B_status {l : Launch} {G : GT} {h0 : Nat} {ad ln : Nat → Nat} {v : Nat → Int} {a : Nat → Nat → Int}  (hB : BX v a)  : Mm l G yX12_status cX12_status 1 (some .int) 0 [] h0 ad ln v a 0 0 (fun r v2 a2 => ∃ f : Int, r = some (.int (iI f)) ∧ fr [] [] v a v2 a2 ∧ BX v2 a2 ∧ (True)) := by
  refine Mm.mk (by decide) (Nat.le_of_ble_eq_true rfl) ?_
  intro p e s m args below meth c A C
  have fp0 : fr [] [] v a v a := fr.refl
  refine m_aload_n (j := 0) C dX12_status_0 rfl ?_
  have rv1 : (-2147483648) ≤ v 0 ∧ v 0 ≤ 2147483647 := hB.1 0
  refine m_get (k := 0) C dX12_status_1 w6_59 (by decide) rfl ?_
  exact m_iret C dX12_status_4 rfl (Nat.le_of_ble_eq_true rfl) (Nat.le_of_ble_eq_true rfl) ⟨(v 0), rfl, fp0, hB, trivial⟩
set_option maxHeartbeats 4000000 in
set_option maxRecDepth 100000 in
theorem B_end {l : Launch} {G : GT} {h0 : Nat} {ad ln : Nat → Nat} {v : Nat → Int} {a : Nat → Nat → Int}  {n1 : Int} (hB : BX v a) (hn1 : -2147483648 ≤ n1 ∧ n1 ≤ 2147483647) : Mm l G yX12_end cX12_end 2 (some .int) 1 [.int (iI n1)] h0 ad ln v a 0 0 (fun r v2 a2 => ∃ f : Int, r = some (.int (iI f)) ∧ fr [0, 1, 3] [] v a v2 a2 ∧ BX v2 a2 ∧ ((f = -1 ∧ v2 3 = v 3 ∧ (n1 < 0 ∨ v 3 < n1)) ∨ (f = n1 ∧ v2 3 = n1 ∧ 0 ≤ n1 ∧ n1 ≤ v 3))) := by
  refine Mm.mk (by decide) (Nat.le_of_ble_eq_true rfl) ?_
  intro p e s m args below meth c A C
  refine hv2 (show 0 ≤ v 3 ∧ v 3 ≤ 3000 from hB.1 3) (show fr [0, 1, 3] [] v a v a from fr.refl) (fun r3 fp0 => ?_)
  refine m_iload_n (j := 1) C dX12_end_0 rfl ?_
  refine m_if_ge (tgt := 10) C ⟨by omega, by omega⟩ dX12_end_1 (by decide) (fun c1 => ?_) (fun c1 => ?_)
  · refine m_iload_n (j := 1) C dX12_end_10 rfl ?_
    refine m_aload_n (j := 0) C dX12_end_11 rfl ?_
    have rv1 : 0 ≤ v 3 ∧ v 3 ≤ 3000 := hB.1 3
    refine m_get (k := 3) C dX12_end_12 w6_62 (by decide) rfl ?_
    refine m_icmp_le (tgt := 25) C ⟨by omega, by omega⟩ (r32_c (lo := 0) (hi := 3000) rv1.1 rv1.2 (by decide) (by decide)) dX12_end_15 (by decide) (fun c2 => ?_) (fun c2 => ?_)
    · refine m_aload_n (j := 0) C dX12_end_25 rfl ?_
      refine m_iload_n (j := 1) C dX12_end_26 rfl ?_
      refine m_put (k := 3) (z := n1) C dX12_end_27 w6_62 (by decide) rfl rfl rfl ?_
      refine hv2 (show BX (va_up v 3 n1) a from hB.put (k := 3) (z := n1) (show 0 ≤ n1 ∧ n1 ≤ 3000 by omega)) (fp0.put (k := 3) (z := n1) rfl) (fun bq1 fq1 => ?_)
      refine m_aload_n (j := 0) C dX12_end_30 rfl ?_
      refine m_iload_n (j := 1) C dX12_end_31 rfl ?_
      refine m_call (mc2 := 0) (ms2 := 0) (As := [.int (iI n1)]) (rest := []) C (B_fine (x := n1) bq1 (by show -2147483648 ≤ n1 ∧ n1 ≤ 2147483647; omega)) dX12_end_32 kV_X12_158 rfl ck_13 rfl (Nat.le_of_ble_eq_true rfl) ⟨Nat.le_of_ble_eq_true rfl, Nat.le_of_ble_eq_true rfl⟩ ⟨Nat.le_of_ble_eq_true rfl, Nat.le_of_ble_eq_true rfl⟩ (fun rh1 vh1 ah1 h1 => ?_)
      obtain ⟨f1, rfl, fn1, bn1, ex1⟩ := h1
      refine hv2 (fq1.call fn1 rfl rfl) (show f1 = n1 from ex1) (fun fq2 gf1 => ?_)
      refine m_st (st2 := [.int (iI f1)]) rfl ?_
      refine hv2 (show 0 ≤ vh1 3 ∧ vh1 3 ≤ 3000 from bn1.1 3) (show vh1 3 = n1 from fn1.1 3 rfl) (fun rv2 ve1 => ?_)
      exact m_iret C dX12_end_35 rfl (Nat.le_of_ble_eq_true rfl) (Nat.le_of_ble_eq_true rfl) ⟨f1, rfl, fq2, bn1, (by show (f1 = -1 ∧ (vh1 3) = (v 3) ∧ (n1 < 0 ∨ (v 3) < n1)) ∨ (f1 = n1 ∧ (vh1 3) = n1 ∧ 0 ≤ n1 ∧ n1 ≤ (v 3)); omega)⟩
    · refine m_aload_n (j := 0) C dX12_end_18 rfl ?_
      refine m_bipush (z := 6) C dX12_end_19 (by decide) ?_
      refine m_call (mc2 := 0) (ms2 := 0) (As := [.int (iI 6)]) (rest := []) C (B_bad (x := 6) hB (by show -2147483648 ≤ (6 : Int) ∧ (6 : Int) ≤ 2147483647; omega)) dX12_end_21 kV_X12_154 rfl ck_13 rfl (Nat.le_of_ble_eq_true rfl) ⟨Nat.le_of_ble_eq_true rfl, Nat.le_of_ble_eq_true rfl⟩ ⟨Nat.le_of_ble_eq_true rfl, Nat.le_of_ble_eq_true rfl⟩ (fun rh2 vh2 ah2 h2 => ?_)
      obtain ⟨f2, rfl, fn2, bn2, ex2⟩ := h2
      refine hv2 (fp0.call fn2 rfl rfl) (show f2 = -1 from ex2) (fun fq3 gf2 => ?_)
      refine m_st (st2 := [.int (iI f2)]) rfl ?_
      refine hv2 (show 0 ≤ vh2 3 ∧ vh2 3 ≤ 3000 from bn2.1 3) (show vh2 3 = v 3 from fn2.1 3 rfl) (fun rv3 ve2 => ?_)
      exact m_iret C dX12_end_24 rfl (Nat.le_of_ble_eq_true rfl) (Nat.le_of_ble_eq_true rfl) ⟨f2, rfl, fq3, bn2, (by show (f2 = -1 ∧ (vh2 3) = (v 3) ∧ (n1 < 0 ∨ (v 3) < n1)) ∨ (f2 = n1 ∧ (vh2 3) = n1 ∧ 0 ≤ n1 ∧ n1 ≤ (v 3)); omega)⟩
  · refine m_aload_n (j := 0) C dX12_end_4 rfl ?_
    refine m_iconst C dX12_end_5 ?_
    refine m_call (mc2 := 0) (ms2 := 0) (As := [.int (iI 5)]) (rest := []) C (B_bad (x := 5) hB (by show -2147483648 ≤ (5 : Int) ∧ (5 : Int) ≤ 2147483647; omega)) dX12_end_6 kV_X12_154 rfl ck_13 rfl (Nat.le_of_ble_eq_true rfl) ⟨Nat.le_of_ble_eq_true rfl, Nat.le_of_ble_eq_true rfl⟩ ⟨Nat.le_of_ble_eq_true rfl, Nat.le_of_ble_eq_true rfl⟩ (fun rh3 vh3 ah3 h3 => ?_)
    obtain ⟨f3, rfl, fn3, bn3, ex3⟩ := h3
    refine hv2 (fp0.call fn3 rfl rfl) (show f3 = -1 from ex3) (fun fq4 gf3 => ?_)
    refine m_st (st2 := [.int (iI f3)]) rfl ?_
    refine hv2 (show 0 ≤ vh3 3 ∧ vh3 3 ≤ 3000 from bn3.1 3) (show vh3 3 = v 3 from fn3.1 3 rfl) (fun rv4 ve3 => ?_)
    exact m_iret C dX12_end_9 rfl (Nat.le_of_ble_eq_true rfl) (Nat.le_of_ble_eq_true rfl) ⟨f3, rfl, fq4, bn3, (by show (f3 = -1 ∧ (vh3 3) = (v 3) ∧ (n1 < 0 ∨ (v 3) < n1)) ∨ (f3 = n1 ∧ (vh3 3) = n1 ∧ 0 ≤ n1 ∧ n1 ≤ (v 3)); omega)⟩
def bsel (k x1 x2 x3 x4 x5 : Int) : Int := if k < 4 then x1 else if k < 8 then x2 else if k < 12 then x3 else if k < 16 then x4 else x5
def rby (y k : Int) : Int := ((iI y >>> ((iI 24 - iI 8 * (iI k &&& iI 3)) &&& 31)) &&& iI 255).toInt
def rfd (ss : Nat → Int) (n : Nat) (x1 x2 x3 x4 x5 : Int) : Nat → (Nat → Int)
  | 0 => ss
  | i + 1 => va_up (rfd ss n x1 x2 x3 x4 x5 i) (n + i) (rby (bsel (i : Int) x1 x2 x3 x4 x5) (i : Int))
theorem rby_of {y k z1 z2 z3 z4 : Int} (e1 : iI k &&& iI 3 = iI z1) (e2 : iI (24 - (8 * z1)) = iI z2) (e3 : iI y >>> (iI z2 &&& 31) = iI z3) (e4 : iI z3 &&& iI 255 = iI z4) (h4 : R32 z4) : z4 = rby y k := by
  unfold rby
  have q : iI 24 - iI 8 * iI z1 = iI z2 := by rw [← e2]; exact ((Int32.ofInt_sub ..).trans (congrArg (fun w => iI 24 - w) (Int32.ofInt_mul ..))).symm
  rw [e1, q, e3, e4, iI_int h4]
theorem rfd_step {a2 : Nat → Nat → Int} {ss : Nat → Int} {n i : Nat} {x1 x2 x3 x4 x5 k z : Int} (h : a2 2 = rfd ss n x1 x2 x3 x4 x5 k.toNat) (hk : 0 ≤ k) (hi : i = n + k.toNat) (hz : z = rby (bsel k x1 x2 x3 x4 x5) k) : up2 a2 2 i z 2 = rfd ss n x1 x2 x3 x4 x5 (k + 1).toNat := by
  refine hv2 (show (k + 1).toNat = k.toNat + 1 from by omega) (show ((k.toNat : Nat) : Int) = k from Int.toNat_of_nonneg hk) (fun e e2 => ?_)
  rw [e]
  show _ = va_up (rfd ss n x1 x2 x3 x4 x5 k.toNat) (n + k.toNat) (rby (bsel ((k.toNat : Nat) : Int) x1 x2 x3 x4 x5) ((k.toNat : Nat) : Int))
  rw [e2, ← h, ← hi, ← hz]
  funext j
  unfold up2 va_up
  rw [if_pos rfl]
def TOK (ss : Nat → Int) (n : Int) : Prop := ∀ j : Nat, (j : Int) < n → (ss j = 10 ∨ (32 ≤ ss j ∧ ss j ≤ 126))
theorem TOK.zero {ss : Nat → Int} : TOK ss 0 := fun j hj => absurd hj (by omega)
theorem TOK.snoc {ss : Nat → Int} {k : Int} (h : TOK ss k) (hk : 0 ≤ k) (hb : ss k.toNat = 10 ∨ (32 ≤ ss k.toNat ∧ ss k.toNat ≤ 126)) : TOK ss (k + 1) := fun j hj => by
  by_cases e : (j : Int) < k
  · exact h j e
  · rw [show j = k.toNat by omega]; exact hb
theorem TOK.step {ss : Nat → Int} {g g2 k : Int} (h : g = 1 ↔ TOK ss k) (hk : 0 ≤ k) (e : g2 = 1 ↔ (g = 1 ∧ (ss k.toNat = 10 ∨ (32 ≤ ss k.toNat ∧ ss k.toNat ≤ 126)))) : g2 = 1 ↔ TOK ss (k + 1) :=
  ⟨fun q => TOK.snoc (h.mp (e.mp q).1) hk (e.mp q).2, fun q => e.mpr ⟨h.mpr (fun j hj => q j (by omega)), q k.toNat (by omega)⟩⟩
set_option maxHeartbeats 4000000 in
set_option maxRecDepth 100000 in
theorem B_feed {l : Launch} {G : GT} {h0 : Nat} {ad ln : Nat → Nat} {v : Nat → Int} {a : Nat → Nat → Int}  {x1 x2 x3 x4 x5 : Int} (hB : BX v a) (hx1 : -2147483648 ≤ x1 ∧ x1 ≤ 2147483647) (hx2 : -2147483648 ≤ x2 ∧ x2 ≤ 2147483647) (hx3 : -2147483648 ≤ x3 ∧ x3 ≤ 2147483647) (hx4 : -2147483648 ≤ x4 ∧ x4 ≤ 2147483647) (hx5 : -2147483648 ≤ x5 ∧ x5 ≤ 2147483647) : Mm l G yX12_feed cX12_feed 8 (some .int) 1 [.int (iI x1), .int (iI x2), .int (iI x3), .int (iI x4), .int (iI x5)] h0 ad ln v a 0 0 (fun r v2 a2 => ∃ f : Int, r = some (.int (iI f)) ∧ fr [0, 1, 3] [2] v a v2 a2 ∧ BX v2 a2 ∧ ((f = -1 ∧ v2 3 = v 3 ∧ 2980 < v 3 ∧ a2 2 = a 2) ∨ (f = v 3 + 20 ∧ v2 3 = v 3 + 20 ∧ v 3 ≤ 2980 ∧ a2 2 = rfd (a 2) (v 3).toNat x1 x2 x3 x4 x5 20))) := by
  refine Mm.mk (by decide) (Nat.le_of_ble_eq_true rfl) ?_
  intro p e s m args below meth c A C
  refine hv2 (show 0 ≤ v 3 ∧ v 3 ≤ 3000 from hB.1 3) (show fr [0, 1, 3] [2] v a v a from fr.refl) (fun r3 fp0 => ?_)
  refine m_aload_n (j := 0) C dX12_feed_0 rfl ?_
  have rv1 : 0 ≤ v 3 ∧ v 3 ≤ 3000 := hB.1 3
  refine m_get (k := 3) C dX12_feed_1 w6_62 (by decide) rfl ?_
  refine m_bipush (z := 20) C dX12_feed_4 (by decide) ?_
  refine m_iadd C dX12_feed_6 ?_
  refine m_sipush (z := 3000) C dX12_feed_7 (by decide) ?_
  refine m_icmp_le (tgt := 20) C ⟨by omega, by omega⟩ ⟨by decide, by decide⟩ dX12_feed_10 (by decide) (fun c1 => ?_) (fun c1 => ?_)
  · refine m_iconst C dX12_feed_20 ?_
    refine m_istore (lv2 := [(6, .int (iI 0)), (0, .ref h0), (1, .int (iI x1)), (2, .int (iI x2)), (3, .int (iI x3)), (4, .int (iI x4)), (5, .int (iI x5))]) C dX12_feed_21 (by decide) rfl ?_
    have Lp1 : ∀ (nn : Nat) (k : Int) (vb1 : Nat → Int) (ab1 : Nat → Nat → Int), 21 - k < (nn : Int) → BX vb1 ab1 → fr [0, 1, 3] [2] v a vb1 ab1 → (0 ≤ k ∧ k ≤ 20) → (vb1 3 = v 3 + k) → (ab1 2 = rfd (a 2) (v 3).toNat x1 x2 x3 x4 x5 k.toNat) → mw p l e (rmq 1 0 0) s m args below meth c G A 8 (MQ below (Qm G A (fun rq Lq Eq => ∃ (vq : Nat → Int) (aq : Nat → Nat → Int), mI G h0 ad ln vq aq Lq Eq ∧ (fun r v2 a2 => ∃ f : Int, r = some (.int (iI f)) ∧ fr [0, 1, 3] [2] v a v2 a2 ∧ BX v2 a2 ∧ ((f = -1 ∧ v2 3 = v 3 ∧ 2980 < v 3 ∧ a2 2 = a 2) ∨ (f = v 3 + 20 ∧ v2 3 = v 3 + 20 ∧ v 3 ≤ 2980 ∧ a2 2 = rfd (a 2) (v 3).toNat x1 x2 x3 x4 x5 20))) rq vq aq)) args s 0 0 A) h0 ad ln vb1 ab1 0 0 23 [(6, .int (iI k)), (0, .ref h0), (1, .int (iI x1)), (2, .int (iI x2)), (3, .int (iI x3)), (4, .int (iI x4)), (5, .int (iI x5))] [] := by
      intro nn
      induction nn with
      | zero =>
        intro k vb1 ab1 hm bxb1 fpb1 hk h3 hfd
        exact absurd hm (by omega)
      | succ nn ih1 =>
        intro k vb1 ab1 hm bxb1 fpb1 hk h3 hfd
        refine m_iload (j := 0) C dX12_feed_23 rfl ?_
        refine m_bipush (z := 20) C dX12_feed_25 (by decide) ?_
        refine m_icmp_ge (tgt := 120) C (r32_c (lo := 0) (hi := 20) hk.1 hk.2 (by decide) (by decide)) ⟨by decide, by decide⟩ dX12_feed_27 (by decide) (fun c2 => ?_) (fun c2 => ?_)
        · refine m_aload_n (j := 1) C dX12_feed_120 rfl ?_
          refine m_aload_n (j := 1) C dX12_feed_121 rfl ?_
          have rv2 : 0 ≤ vb1 3 ∧ vb1 3 ≤ 3000 := bxb1.1 3
          refine m_get (k := 3) C dX12_feed_122 w6_62 (by decide) rfl ?_
          refine m_call (mc2 := 0) (ms2 := 0) (As := [.int (iI (vb1 3))]) (rest := []) C (B_fine (x := vb1 3) bxb1 (by show -2147483648 ≤ (vb1 3) ∧ (vb1 3) ≤ 2147483647; omega)) dX12_feed_125 kV_X12_158 rfl ck_13 rfl (Nat.le_of_ble_eq_true rfl) ⟨Nat.le_of_ble_eq_true rfl, Nat.le_of_ble_eq_true rfl⟩ ⟨Nat.le_of_ble_eq_true rfl, Nat.le_of_ble_eq_true rfl⟩ (fun rh1 vh1 ah1 h1 => ?_)
          obtain ⟨f1, rfl, fn1, bn1, ex1⟩ := h1
          refine hv2 (fpb1.call fn1 rfl rfl) (show f1 = (vb1 3) from ex1) (fun fq1 gf1 => ?_)
          refine m_st (st2 := [.int (iI f1)]) rfl ?_
          refine hv2 (show 0 ≤ vh1 3 ∧ vh1 3 ≤ 3000 from bn1.1 3) (show vh1 3 = vb1 3 from fn1.1 3 rfl) (fun rv3 ve1 => ?_)
          exact m_iret C dX12_feed_128 rfl (Nat.le_of_ble_eq_true rfl) (Nat.le_of_ble_eq_true rfl) ⟨f1, rfl, fq1, bn1, (Or.inr ⟨by omega, by omega, by omega, (fn1.2 2 rfl).trans (hfd.trans (by rw [show k.toNat = 20 by omega]))⟩)⟩
        · refine m_iload (j := 0) C dX12_feed_30 rfl ?_
          refine m_iconst C dX12_feed_32 ?_
          have J1 : ∀ (y : Int) (vb2 : Nat → Int) (ab2 : Nat → Nat → Int), BX vb2 ab2 → fr [0, 1, 3] [2] v a vb2 ab2 → (-2147483648 ≤ y ∧ y ≤ 2147483647) → (vb2 3 = v 3 + k) → (y = bsel k x1 x2 x3 x4 x5) → (ab2 2 = rfd (a 2) (v 3).toNat x1 x2 x3 x4 x5 k.toNat) → mw p l e (rmq 1 0 0) s m args below meth c G A 8 (MQ below (Qm G A (fun rq Lq Eq => ∃ (vq : Nat → Int) (aq : Nat → Nat → Int), mI G h0 ad ln vq aq Lq Eq ∧ (fun r v2 a2 => ∃ f : Int, r = some (.int (iI f)) ∧ fr [0, 1, 3] [2] v a v2 a2 ∧ BX v2 a2 ∧ ((f = -1 ∧ v2 3 = v 3 ∧ 2980 < v 3 ∧ a2 2 = a 2) ∨ (f = v 3 + 20 ∧ v2 3 = v 3 + 20 ∧ v 3 ≤ 2980 ∧ a2 2 = rfd (a 2) (v 3).toNat x1 x2 x3 x4 x5 20))) rq vq aq)) args s 0 0 A) h0 ad ln vb2 ab2 0 0 76 [(6, .int (iI k)), (0, .ref h0), (1, .int (iI x1)), (2, .int (iI x2)), (3, .int (iI x3)), (4, .int (iI x4)), (5, .int (iI x5))] [.int (iI y)] := by
            intro y vb2 ab2 bxb2 fpb2 hy h32 hy2 hfd2
            refine m_istore (lv2 := [(7, .int (iI y)), (6, .int (iI k)), (0, .ref h0), (1, .int (iI x1)), (2, .int (iI x2)), (3, .int (iI x3)), (4, .int (iI x4)), (5, .int (iI x5))]) C dX12_feed_76 (by decide) rfl ?_
            refine m_aload_n (j := 2) C dX12_feed_78 rfl ?_
            refine m_geta (k := 2) C dX12_feed_79 w6_61 (by decide) rfl ?_
            refine m_aload_n (j := 2) C dX12_feed_82 rfl ?_
            have rv4 : 0 ≤ vb2 3 ∧ vb2 3 ≤ 3000 := bxb2.1 3
            refine m_get (k := 3) C dX12_feed_83 w6_62 (by decide) rfl ?_
            refine m_iload (j := 0) C dX12_feed_86 rfl ?_
            refine m_bipush (z := 24) C dX12_feed_88 (by decide) ?_
            refine m_bipush (z := 8) C dX12_feed_90 (by decide) ?_
            refine m_iload (j := 1) C dX12_feed_92 rfl ?_
            refine m_iconst C dX12_feed_94 ?_
            obtain ⟨zz1, hzz1, ezz1⟩ := iI_of (iI k &&& iI 3)
            refine m_iand (w := iI zz1) C dX12_feed_95 ezz1 ?_
            refine m_imul C dX12_feed_96 ?_
            refine m_isub C dX12_feed_97 ?_
            obtain ⟨zz2, hzz2, ezz2⟩ := iI_of (iI (24 - (8 * zz1)))
            refine m_st (st2 := [.int (iI zz2), .int (iI y), .int (iI (vb2 3)), .ref (ad 2)]) (by rw [ezz2]) ?_
            obtain ⟨zz3, hzz3, ezz3⟩ := iI_of (iI y >>> (iI zz2 &&& 31))
            refine m_ishr (w := iI zz3) C dX12_feed_98 ezz3 ?_
            refine m_sipush (z := 255) C dX12_feed_99 (by decide) ?_
            obtain ⟨zz4, hzz4, ezz4⟩ := iI_of (iI zz3 &&& iI 255)
            refine m_iand (w := iI zz4) C dX12_feed_102 ezz4 ?_
            refine m_ast (k := 2) C dX12_feed_103 rfl rfl (by decide) (by omega) (by show _ < ((_ : Nat) : Int); simp only [mlen]; omega) (by decide) ?_
            refine hv2 (show BX vb2 (up2 ab2 2 (vb2 3).toNat zz4) from bxb2.set (k := 2) (i := (vb2 3).toNat) (z := zz4) (show (-2147483648) ≤ zz4 ∧ zz4 ≤ 2147483647 by omega)) (fpb2.set (k := 2) (i := (vb2 3).toNat) (z := zz4) rfl) (fun bq1 fq2 => ?_)
            refine m_aload_n (j := 2) C dX12_feed_104 rfl ?_
            refine m_dup C dX12_feed_105 rfl ?_
            refine m_get (k := 3) C dX12_feed_106 w6_62 (by decide) rfl ?_
            refine m_iconst C dX12_feed_109 ?_
            refine m_iadd C dX12_feed_110 ?_
            refine m_put (k := 3) (z := (vb2 3) + 1) C dX12_feed_111 w6_62 (by decide) rfl rfl rfl ?_
            refine hv2 (show BX (va_up vb2 3 ((vb2 3) + 1)) (up2 ab2 2 (vb2 3).toNat zz4) from bq1.put (k := 3) (z := (vb2 3) + 1) (show 0 ≤ ((vb2 3) + 1) ∧ ((vb2 3) + 1) ≤ 3000 by omega)) (fq2.put (k := 3) (z := (vb2 3) + 1) rfl) (fun bq2 fq3 => ?_)
            refine m_iinc (z := k) (j := 1) (lv2 := [(6, .int (iI (k + 1))), (7, .int (iI y)), (0, .ref h0), (1, .int (iI x1)), (2, .int (iI x2)), (3, .int (iI x3)), (4, .int (iI x4)), (5, .int (iI x5))]) C dX12_feed_114 rfl (by decide) rfl ?_
            refine m_goto (tgt := 23) C dX12_feed_117 (by decide) ?_
            refine m_lv (lv2 := [(6, .int (iI (k + 1))), (0, .ref h0), (1, .int (iI x1)), (2, .int (iI x2)), (3, .int (iI x3)), (4, .int (iI x4)), (5, .int (iI x5))]) [0, 2, 3, 4, 5, 6, 7] rfl ?_
            exact ih1  (k + 1) _ _ (by omega) bq2 fq3 (by omega) (by show ((vb2 3) + 1) = v 3 + (k + 1); omega) (rfd_step hfd2 (by omega) (by omega) (by rw [← hy2]; exact rby_of ezz1 ezz2 ezz3 ezz4 hzz4))
          refine m_icmp_ge (tgt := 40) C (r32_c (lo := 0) (hi := 20) hk.1 hk.2 (by decide) (by decide)) ⟨by decide, by decide⟩ dX12_feed_33 (by decide) (fun c3 => ?_) (fun c3 => ?_)
          · refine m_iload (j := 0) C dX12_feed_40 rfl ?_
            refine m_bipush (z := 8) C dX12_feed_42 (by decide) ?_
            refine m_icmp_ge (tgt := 51) C (r32_c (lo := 0) (hi := 20) hk.1 hk.2 (by decide) (by decide)) ⟨by decide, by decide⟩ dX12_feed_44 (by decide) (fun c4 => ?_) (fun c4 => ?_)
            · refine m_iload (j := 0) C dX12_feed_51 rfl ?_
              refine m_bipush (z := 12) C dX12_feed_53 (by decide) ?_
              refine m_icmp_ge (tgt := 62) C (r32_c (lo := 0) (hi := 20) hk.1 hk.2 (by decide) (by decide)) ⟨by decide, by decide⟩ dX12_feed_55 (by decide) (fun c5 => ?_) (fun c5 => ?_)
              · refine m_iload (j := 0) C dX12_feed_62 rfl ?_
                refine m_bipush (z := 16) C dX12_feed_64 (by decide) ?_
                refine m_icmp_ge (tgt := 74) C (r32_c (lo := 0) (hi := 20) hk.1 hk.2 (by decide) (by decide)) ⟨by decide, by decide⟩ dX12_feed_66 (by decide) (fun c6 => ?_) (fun c6 => ?_)
                · refine m_iload (j := 6) C dX12_feed_74 rfl ?_
                  have rv5 : 0 ≤ vb1 3 ∧ vb1 3 ≤ 3000 := bxb1.1 3
                  refine m_lv (lv2 := [(6, .int (iI k)), (0, .ref h0), (1, .int (iI x1)), (2, .int (iI x2)), (3, .int (iI x3)), (4, .int (iI x4)), (5, .int (iI x5))]) [0, 1, 2, 3, 4, 5, 6] rfl ?_
                  exact J1  x5 _ _  bxb1 fpb1 (by omega) (by show (vb1 3) = v 3 + k; omega) (by unfold bsel; (repeat' split) <;> omega) hfd
                · refine m_iload (j := 5) C dX12_feed_69 rfl ?_
                  refine m_goto (tgt := 76) C dX12_feed_71 (by decide) ?_
                  have rv6 : 0 ≤ vb1 3 ∧ vb1 3 ≤ 3000 := bxb1.1 3
                  refine m_lv (lv2 := [(6, .int (iI k)), (0, .ref h0), (1, .int (iI x1)), (2, .int (iI x2)), (3, .int (iI x3)), (4, .int (iI x4)), (5, .int (iI x5))]) [0, 1, 2, 3, 4, 5, 6] rfl ?_
                  exact J1  x4 _ _  bxb1 fpb1 (by omega) (by show (vb1 3) = v 3 + k; omega) (by unfold bsel; (repeat' split) <;> omega) hfd
              · refine m_iload_n (j := 4) C dX12_feed_58 rfl ?_
                refine m_goto (tgt := 76) C dX12_feed_59 (by decide) ?_
                have rv7 : 0 ≤ vb1 3 ∧ vb1 3 ≤ 3000 := bxb1.1 3
                refine m_lv (lv2 := [(6, .int (iI k)), (0, .ref h0), (1, .int (iI x1)), (2, .int (iI x2)), (3, .int (iI x3)), (4, .int (iI x4)), (5, .int (iI x5))]) [0, 1, 2, 3, 4, 5, 6] rfl ?_
                exact J1  x3 _ _  bxb1 fpb1 (by omega) (by show (vb1 3) = v 3 + k; omega) (by unfold bsel; (repeat' split) <;> omega) hfd
            · refine m_iload_n (j := 3) C dX12_feed_47 rfl ?_
              refine m_goto (tgt := 76) C dX12_feed_48 (by decide) ?_
              have rv8 : 0 ≤ vb1 3 ∧ vb1 3 ≤ 3000 := bxb1.1 3
              refine m_lv (lv2 := [(6, .int (iI k)), (0, .ref h0), (1, .int (iI x1)), (2, .int (iI x2)), (3, .int (iI x3)), (4, .int (iI x4)), (5, .int (iI x5))]) [0, 1, 2, 3, 4, 5, 6] rfl ?_
              exact J1  x2 _ _  bxb1 fpb1 (by omega) (by show (vb1 3) = v 3 + k; omega) (by unfold bsel; (repeat' split) <;> omega) hfd
          · refine m_iload_n (j := 2) C dX12_feed_36 rfl ?_
            refine m_goto (tgt := 76) C dX12_feed_37 (by decide) ?_
            have rv9 : 0 ≤ vb1 3 ∧ vb1 3 ≤ 3000 := bxb1.1 3
            refine m_lv (lv2 := [(6, .int (iI k)), (0, .ref h0), (1, .int (iI x1)), (2, .int (iI x2)), (3, .int (iI x3)), (4, .int (iI x4)), (5, .int (iI x5))]) [0, 1, 2, 3, 4, 5, 6] rfl ?_
            exact J1  x1 _ _  bxb1 fpb1 (by omega) (by show (vb1 3) = v 3 + k; omega) (by unfold bsel; (repeat' split) <;> omega) hfd
    refine m_lv (lv2 := [(6, .int (iI 0)), (0, .ref h0), (1, .int (iI x1)), (2, .int (iI x2)), (3, .int (iI x3)), (4, .int (iI x4)), (5, .int (iI x5))]) [0, 1, 2, 3, 4, 5, 6] rfl ?_
    exact Lp1 22 0 _ _ (by omega) hB fp0 (by omega) (by show (v 3) = v 3 + 0; omega) rfl
  · refine m_aload_n (j := 0) C dX12_feed_13 rfl ?_
    refine m_bipush (z := 6) C dX12_feed_14 (by decide) ?_
    refine m_call (mc2 := 0) (ms2 := 0) (As := [.int (iI 6)]) (rest := []) C (B_bad (x := 6) hB (by show -2147483648 ≤ (6 : Int) ∧ (6 : Int) ≤ 2147483647; omega)) dX12_feed_16 kV_X12_154 rfl ck_13 rfl (Nat.le_of_ble_eq_true rfl) ⟨Nat.le_of_ble_eq_true rfl, Nat.le_of_ble_eq_true rfl⟩ ⟨Nat.le_of_ble_eq_true rfl, Nat.le_of_ble_eq_true rfl⟩ (fun rh2 vh2 ah2 h2 => ?_)
    obtain ⟨f2, rfl, fn2, bn2, ex2⟩ := h2
    refine hv2 (fp0.call fn2 rfl rfl) (show f2 = -1 from ex2) (fun fq4 gf2 => ?_)
    refine m_st (st2 := [.int (iI f2)]) rfl ?_
    refine hv2 (show 0 ≤ vh2 3 ∧ vh2 3 ≤ 3000 from bn2.1 3) (show vh2 3 = v 3 from fn2.1 3 rfl) (fun rv10 ve2 => ?_)
    exact m_iret C dX12_feed_19 rfl (Nat.le_of_ble_eq_true rfl) (Nat.le_of_ble_eq_true rfl) ⟨f2, rfl, fq4, bn2, (Or.inl ⟨by omega, by omega, by omega, fn2.2 2 rfl⟩)⟩
def apd (tt : Nat → Int) (m : Nat) (ss : Nat → Int) : Nat → Int := fun j => if j < m then tt j else ss (j - m)
def TXI (v : Nat → Int) (a : Nat → Nat → Int) (A : Nat → Int) (k : Int) : Prop := ∀ j : Nat, (j : Int) < v 30 + k → A j = apd (a 29) (v 30).toNat (a 2) j
def TXR (v : Nat → Int) (a : Nat → Nat → Int) (v2 : Nat → Int) (a2 : Nat → Nat → Int) (f : Int) : Prop := (f = -1 → a2 29 = a 29) ∧ (f ≠ -1 → ∀ j : Nat, (j : Int) < v2 30 → a2 29 j = apd (a 29) (v 30).toNat (a 2) j)
theorem TXI.zero {v : Nat → Int} {a : Nat → Nat → Int} {A : Nat → Int} (h : A = a 29) : TXI v a A 0 := fun j hj => by
  rw [h]
  unfold apd
  rw [if_pos (by omega)]
theorem TXI.step {v : Nat → Int} {a ab : Nat → Nat → Int} {k z : Int} {i : Nat} (h : TXI v a (ab 29) k) (h0 : 0 ≤ k) (h30 : 0 ≤ v 30) (hi : i = (v 30 + k).toNat) (hz : z = a 2 k.toNat) : TXI v a (up2 ab 29 i z 29) (k + 1) := fun j hj => by
  by_cases e : j = i
  · subst e
    rw [up2_s, hz]
    unfold apd
    rw [if_neg (by omega)]
    exact congrArg (a 2) (by omega)
  · rw [up2_j e]
    exact h j (by omega)
set_option maxHeartbeats 4000000 in
set_option maxRecDepth 100000 in
theorem B_text {l : Launch} {G : GT} {h0 : Nat} {ad ln : Nat → Nat} {v : Nat → Int} {a : Nat → Nat → Int}  (hB : BX v a)  : Mm l G yX12_text cX12_text 4 (some .int) 1 [] h0 ad ln v a 0 0 (fun r v2 a2 => ∃ f : Int, r = some (.int (iI f)) ∧ fr [0, 1, 3, 30] [29] v a v2 a2 ∧ BX v2 a2 ∧ ((v2 3 = 0 ∧ ((f = -1 ∧ v2 30 = v 30 ∧ ¬ (TOK (a 2) (v 3) ∧ v 30 + v 3 ≤ 500)) ∨ (f = v2 30 ∧ TOK (a 2) (v 3) ∧ v 30 + v 3 ≤ 500 ∧ ((v 3 = 0 ∧ v2 30 = 0) ∨ (v 3 ≠ 0 ∧ v2 30 = v 30 + v 3))))) ∧ TXR v a v2 a2 f)) := by
  refine Mm.mk (by decide) (Nat.le_of_ble_eq_true rfl) ?_
  intro p e s m args below meth c A C
  refine hv3 (show 0 ≤ v 3 ∧ v 3 ≤ 3000 from hB.1 3) (show 0 ≤ v 30 ∧ v 30 ≤ 500 from hB.1 30) (show fr [0, 1, 3, 30] [29] v a v a from fr.refl) (fun r3 r30 fp0 => ?_)
  refine m_aload_n (j := 0) C dX12_text_0 rfl ?_
  have rv1 : 0 ≤ v 3 ∧ v 3 ≤ 3000 := hB.1 3
  refine m_call (mc2 := 0) (ms2 := 0) (As := []) (rest := []) C (B_taken  hB ) dX12_text_1 kV_X12_192 rfl ck_13 rfl (Nat.le_of_ble_eq_true rfl) ⟨Nat.le_of_ble_eq_true rfl, Nat.le_of_ble_eq_true rfl⟩ ⟨Nat.le_of_ble_eq_true rfl, Nat.le_of_ble_eq_true rfl⟩ (fun rh1 vh1 ah1 h1 => ?_)
  obtain ⟨f1, rfl, fn1, bn1, ex1⟩ := h1
  refine hv3 (fp0.call fn1 rfl rfl) (show 0 ≤ vh1 3 ∧ vh1 3 ≤ 3000 from bn1.1 3) (show f1 = (v 3) ∧ (vh1 3) = 0 from ex1) (fun fq1 rv2 gf1 => ?_)
  refine m_st (st2 := [.int (iI f1)]) rfl ?_
  refine m_istore_n (lv2 := [(1, .int (iI f1)), (0, .ref h0)]) C dX12_text_4 (by decide) rfl ?_
  refine m_iconst C dX12_text_5 ?_
  refine m_istore_n (lv2 := [(2, .int (iI 1)), (1, .int (iI f1)), (0, .ref h0)]) C dX12_text_6 (by decide) rfl ?_
  refine m_iconst C dX12_text_7 ?_
  refine m_istore_n (lv2 := [(3, .int (iI 0)), (2, .int (iI 1)), (1, .int (iI f1)), (0, .ref h0)]) C dX12_text_8 (by decide) rfl ?_
  have Lp1 : ∀ (nn : Nat) (g k : Int) (vb1 : Nat → Int) (ab1 : Nat → Nat → Int), 3001 - k < (nn : Int) → BX vb1 ab1 → fr [0, 1, 3, 30] [29] v a vb1 ab1 → (g = 0 ∨ g = 1) → (0 ≤ k ∧ k ≤ f1) → (vb1 3 = 0) → (vb1 30 = v 30) → (g = 1 ↔ TOK (a 2) k) → (ab1 29 = a 29) → mw p l e (rmq 1 0 0) s m args below meth c G A 4 (MQ below (Qm G A (fun rq Lq Eq => ∃ (vq : Nat → Int) (aq : Nat → Nat → Int), mI G h0 ad ln vq aq Lq Eq ∧ (fun r v2 a2 => ∃ f : Int, r = some (.int (iI f)) ∧ fr [0, 1, 3, 30] [29] v a v2 a2 ∧ BX v2 a2 ∧ ((v2 3 = 0 ∧ ((f = -1 ∧ v2 30 = v 30 ∧ ¬ (TOK (a 2) (v 3) ∧ v 30 + v 3 ≤ 500)) ∨ (f = v2 30 ∧ TOK (a 2) (v 3) ∧ v 30 + v 3 ≤ 500 ∧ ((v 3 = 0 ∧ v2 30 = 0) ∨ (v 3 ≠ 0 ∧ v2 30 = v 30 + v 3))))) ∧ TXR v a v2 a2 f)) rq vq aq)) args s 0 0 A) h0 ad ln vb1 ab1 0 0 9 [(3, .int (iI k)), (2, .int (iI g)), (1, .int (iI f1)), (0, .ref h0)] [] := by
    intro nn
    induction nn with
    | zero =>
      intro g k vb1 ab1 hm bxb1 fpb1 hg hk h3 h30 hg2 h29
      exact absurd hm (by omega)
    | succ nn ih1 =>
      intro g k vb1 ab1 hm bxb1 fpb1 hg hk h3 h30 hg2 h29
      refine m_iload_n (j := 0) C dX12_text_9 rfl ?_
      refine m_iload_n (j := 2) C dX12_text_10 rfl ?_
      refine m_icmp_ge (tgt := 57) C ⟨by omega, by omega⟩ ⟨by omega, by omega⟩ dX12_text_11 (by decide) (fun c1 => ?_) (fun c1 => ?_)
      · refine m_iload_n (j := 1) C dX12_text_57 rfl ?_
        refine m_if_eq (tgt := 73) C (r32_01 hg) dX12_text_58 (by decide) (fun c2 => ?_) (fun c2 => ?_)
        · clear hg
          refine m_aload_n (j := 3) C dX12_text_73 rfl ?_
          refine m_bipush (z := 6) C dX12_text_74 (by decide) ?_
          refine m_call (mc2 := 0) (ms2 := 0) (As := [.int (iI 6)]) (rest := []) C (B_bad (x := 6) bxb1 (by show -2147483648 ≤ (6 : Int) ∧ (6 : Int) ≤ 2147483647; omega)) dX12_text_76 kV_X12_154 rfl ck_13 rfl (Nat.le_of_ble_eq_true rfl) ⟨Nat.le_of_ble_eq_true rfl, Nat.le_of_ble_eq_true rfl⟩ ⟨Nat.le_of_ble_eq_true rfl, Nat.le_of_ble_eq_true rfl⟩ (fun rh2 vh2 ah2 h2 => ?_)
          obtain ⟨f2, rfl, fn2, bn2, ex2⟩ := h2
          refine hv2 (fpb1.call fn2 rfl rfl) (show f2 = -1 from ex2) (fun fq2 gf2 => ?_)
          refine m_st (st2 := [.int (iI f2)]) rfl ?_
          refine hv4 (show 0 ≤ vh2 3 ∧ vh2 3 ≤ 3000 from bn2.1 3) (show vh2 3 = vb1 3 from fn2.1 3 rfl) (show 0 ≤ vh2 30 ∧ vh2 30 ≤ 500 from bn2.1 30) (show vh2 30 = vb1 30 from fn2.1 30 rfl) (fun rv3 ve1 rv4 ve2 => ?_)
          exact m_iret C dX12_text_79 rfl (Nat.le_of_ble_eq_true rfl) (Nat.le_of_ble_eq_true rfl) ⟨f2, rfl, fq2, bn2, ⟨⟨by omega, Or.inl ⟨by omega, by omega, fun q => absurd (hg2.mpr (fun j hj => q.1 j (by omega))) (fun q2 => absurd q.2 (by omega))⟩⟩, fun _ => (fn2.2 29 rfl).trans h29, fun e => absurd (by omega) e⟩⟩
        · replace hg := (hg.resolve_left c2)
          refine m_aload_n (j := 3) C dX12_text_61 rfl ?_
          have rv5 : 0 ≤ vb1 30 ∧ vb1 30 ≤ 500 := bxb1.1 30
          refine m_get (k := 30) C dX12_text_62 w6_89 (by decide) rfl ?_
          refine m_iload_n (j := 2) C dX12_text_65 rfl ?_
          refine m_iadd C dX12_text_66 ?_
          refine m_sipush (z := 500) C dX12_text_67 (by decide) ?_
          refine m_icmp_le (tgt := 80) C ⟨by omega, by omega⟩ ⟨by decide, by decide⟩ dX12_text_70 (by decide) (fun c3 => ?_) (fun c3 => ?_)
          · refine m_iconst C dX12_text_80 ?_
            refine m_istore_n (lv2 := [(3, .int (iI 0)), (2, .int (iI g)), (1, .int (iI f1)), (0, .ref h0)]) C dX12_text_81 (by decide) rfl ?_
            have Lp2 : ∀ (nn : Nat) (k1 : Int) (vb2 : Nat → Int) (ab2 : Nat → Nat → Int), 501 - k1 < (nn : Int) → BX vb2 ab2 → fr [0, 1, 3, 30] [29] v a vb2 ab2 → (0 ≤ k1 ∧ k1 ≤ f1) → (vb2 3 = 0) → (vb2 30 = v 30) → (TXI v a (ab2 29) k1) → mw p l e (rmq 1 0 0) s m args below meth c G A 4 (MQ below (Qm G A (fun rq Lq Eq => ∃ (vq : Nat → Int) (aq : Nat → Nat → Int), mI G h0 ad ln vq aq Lq Eq ∧ (fun r v2 a2 => ∃ f : Int, r = some (.int (iI f)) ∧ fr [0, 1, 3, 30] [29] v a v2 a2 ∧ BX v2 a2 ∧ ((v2 3 = 0 ∧ ((f = -1 ∧ v2 30 = v 30 ∧ ¬ (TOK (a 2) (v 3) ∧ v 30 + v 3 ≤ 500)) ∨ (f = v2 30 ∧ TOK (a 2) (v 3) ∧ v 30 + v 3 ≤ 500 ∧ ((v 3 = 0 ∧ v2 30 = 0) ∨ (v 3 ≠ 0 ∧ v2 30 = v 30 + v 3))))) ∧ TXR v a v2 a2 f)) rq vq aq)) args s 0 0 A) h0 ad ln vb2 ab2 0 0 82 [(3, .int (iI k1)), (2, .int (iI g)), (1, .int (iI f1)), (0, .ref h0)] [] := by
              intro nn
              induction nn with
              | zero =>
                intro k1 vb2 ab2 hm bxb2 fpb2 hk1 h31 h301 h29b
                exact absurd hm (by omega)
              | succ nn ih2 =>
                intro k1 vb2 ab2 hm bxb2 fpb2 hk1 h31 h301 h29b
                refine m_iload_n (j := 0) C dX12_text_82 rfl ?_
                refine m_iload_n (j := 2) C dX12_text_83 rfl ?_
                refine m_icmp_ge (tgt := 110) C ⟨by omega, by omega⟩ ⟨by omega, by omega⟩ dX12_text_84 (by decide) (fun c4 => ?_) (fun c4 => ?_)
                · refine m_aload_n (j := 3) C dX12_text_110 rfl ?_
                  refine m_iload_n (j := 2) C dX12_text_111 rfl ?_
                  refine m_if_ne (tgt := 119) C ⟨by omega, by omega⟩ dX12_text_112 (by decide) (fun c5 => ?_) (fun c5 => ?_)
                  · refine m_aload_n (j := 3) C dX12_text_119 rfl ?_
                    have rv6 : 0 ≤ vb2 30 ∧ vb2 30 ≤ 500 := bxb2.1 30
                    refine m_get (k := 30) C dX12_text_120 w6_89 (by decide) rfl ?_
                    refine m_iload_n (j := 2) C dX12_text_123 rfl ?_
                    refine m_iadd C dX12_text_124 ?_
                    refine m_put (k := 30) (z := (vb2 30) + f1) C dX12_text_125 w6_89 (by decide) rfl rfl rfl ?_
                    refine hv2 (show BX (va_up vb2 30 ((vb2 30) + f1)) ab2 from bxb2.put (k := 30) (z := (vb2 30) + f1) (show 0 ≤ ((vb2 30) + f1) ∧ ((vb2 30) + f1) ≤ 500 by omega)) (fpb2.put (k := 30) (z := (vb2 30) + f1) rfl) (fun bq1 fq3 => ?_)
                    refine m_aload_n (j := 3) C dX12_text_128 rfl ?_
                    refine m_aload_n (j := 3) C dX12_text_129 rfl ?_
                    refine m_get (k := 30) C dX12_text_130 w6_89 (by decide) rfl ?_
                    refine m_st (st2 := [.int (iI ((vb2 30) + f1)), .ref h0]) rfl ?_
                    refine m_call (mc2 := 0) (ms2 := 0) (As := [.int (iI ((vb2 30) + f1))]) (rest := []) C (B_fine (x := (vb2 30) + f1) bq1 (by show -2147483648 ≤ ((vb2 30) + f1) ∧ ((vb2 30) + f1) ≤ 2147483647; omega)) dX12_text_133 kV_X12_158 rfl ck_13 rfl (Nat.le_of_ble_eq_true rfl) ⟨Nat.le_of_ble_eq_true rfl, Nat.le_of_ble_eq_true rfl⟩ ⟨Nat.le_of_ble_eq_true rfl, Nat.le_of_ble_eq_true rfl⟩ (fun rh4 vh4 ah4 h4 => ?_)
                    obtain ⟨f3, rfl, fn3, bn3, ex3⟩ := h4
                    refine hv2 (fq3.call fn3 rfl rfl) (show f3 = ((vb2 30) + f1) from ex3) (fun fq4 gf3 => ?_)
                    refine m_st (st2 := [.int (iI f3)]) rfl ?_
                    refine hv4 (show 0 ≤ vh4 3 ∧ vh4 3 ≤ 3000 from bn3.1 3) (show vh4 3 = vb2 3 from fn3.1 3 rfl) (show 0 ≤ vh4 30 ∧ vh4 30 ≤ 500 from bn3.1 30) (show vh4 30 = (vb2 30) + f1 from fn3.1 30 rfl) (fun rv7 ve3 rv8 ve4 => ?_)
                    exact m_iret C dX12_text_136 rfl (Nat.le_of_ble_eq_true rfl) (Nat.le_of_ble_eq_true rfl) ⟨f3, rfl, fq4, bn3, ⟨⟨by omega, Or.inr ⟨by omega, fun j hj => hg2.mp (by omega) j (by omega), by omega, by omega⟩⟩, fun e => absurd e (by omega), fun _ j hj => (congrFun (fn3.2 29 rfl) j).trans (h29b j (by omega))⟩⟩
                  · refine m_iconst C dX12_text_115 ?_
                    refine m_goto (tgt := 125) C dX12_text_116 (by decide) ?_
                    refine m_put (k := 30) (z := 0) C dX12_text_125 w6_89 (by decide) rfl rfl rfl ?_
                    refine hv2 (show BX (va_up vb2 30 0) ab2 from bxb2.put (k := 30) (z := 0) ⟨by decide, by decide⟩) (fpb2.put (k := 30) (z := 0) rfl) (fun bq2 fq5 => ?_)
                    refine m_aload_n (j := 3) C dX12_text_128 rfl ?_
                    refine m_aload_n (j := 3) C dX12_text_129 rfl ?_
                    refine m_get (k := 30) C dX12_text_130 w6_89 (by decide) rfl ?_
                    refine m_st (st2 := [.int (iI 0), .ref h0]) rfl ?_
                    refine m_call (mc2 := 0) (ms2 := 0) (As := [.int (iI 0)]) (rest := []) C (B_fine (x := 0) bq2 (by show -2147483648 ≤ (0 : Int) ∧ (0 : Int) ≤ 2147483647; omega)) dX12_text_133 kV_X12_158 rfl ck_13 rfl (Nat.le_of_ble_eq_true rfl) ⟨Nat.le_of_ble_eq_true rfl, Nat.le_of_ble_eq_true rfl⟩ ⟨Nat.le_of_ble_eq_true rfl, Nat.le_of_ble_eq_true rfl⟩ (fun rh5 vh5 ah5 h5 => ?_)
                    obtain ⟨f4, rfl, fn4, bn4, ex4⟩ := h5
                    refine hv2 (fq5.call fn4 rfl rfl) (show f4 = (0 : Int) from ex4) (fun fq6 gf4 => ?_)
                    refine m_st (st2 := [.int (iI f4)]) rfl ?_
                    refine hv4 (show 0 ≤ vh5 3 ∧ vh5 3 ≤ 3000 from bn4.1 3) (show vh5 3 = vb2 3 from fn4.1 3 rfl) (show 0 ≤ vh5 30 ∧ vh5 30 ≤ 500 from bn4.1 30) (show vh5 30 = 0 from fn4.1 30 rfl) (fun rv9 ve5 rv10 ve6 => ?_)
                    exact m_iret C dX12_text_136 rfl (Nat.le_of_ble_eq_true rfl) (Nat.le_of_ble_eq_true rfl) ⟨f4, rfl, fq6, bn4, ⟨⟨by omega, Or.inr ⟨by omega, fun j hj => hg2.mp (by omega) j (by omega), by omega, by omega⟩⟩, fun e => absurd e (by omega), fun _ j hj => (congrFun (fn4.2 29 rfl) j).trans (h29b j (by omega))⟩⟩
                · refine m_aload_n (j := 3) C dX12_text_87 rfl ?_
                  refine m_geta (k := 29) C dX12_text_88 w6_88 (by decide) rfl ?_
                  refine m_aload_n (j := 3) C dX12_text_91 rfl ?_
                  have rv11 : 0 ≤ vb2 30 ∧ vb2 30 ≤ 500 := bxb2.1 30
                  refine m_get (k := 30) C dX12_text_92 w6_89 (by decide) rfl ?_
                  refine m_iload_n (j := 0) C dX12_text_95 rfl ?_
                  refine m_iadd C dX12_text_96 ?_
                  refine m_aload_n (j := 3) C dX12_text_97 rfl ?_
                  refine m_geta (k := 2) C dX12_text_98 w6_61 (by decide) rfl ?_
                  refine m_iload_n (j := 0) C dX12_text_101 rfl ?_
                  refine m_ald (k := 2) C dX12_text_102 rfl rfl (by decide) (by omega) (by show _ < ((_ : Nat) : Int); simp only [mlen]; omega) (by decide) ?_
                  refine hv2 (show (-2147483648) ≤ ab2 2 k1.toNat ∧ ab2 2 k1.toNat ≤ 2147483647 from bxb2.2 2 (k1.toNat)) (show ab2 2 (k1.toNat) = a 2 (k1.toNat) from congrFun (fpb2.2 2 rfl) (k1.toNat)) (fun ra1 ae1 => ?_)
                  refine m_st (st2 := [.int (iI (a 2 k1.toNat)), .int (iI ((vb2 30) + k1)), .ref (ad 29)]) (congrArg (fun z => Value.int (iI z) :: [.int (iI ((vb2 30) + k1)), .ref (ad 29)]) (congrFun (fpb2.2 2 rfl) (k1.toNat))) ?_
                  refine m_ast (k := 29) C dX12_text_103 rfl rfl (by decide) (by omega) (by show _ < ((_ : Nat) : Int); simp only [mlen]; omega) (by decide) ?_
                  refine hv2 (show BX vb2 (up2 ab2 29 ((vb2 30) + k1).toNat (a 2 k1.toNat)) from bxb2.set (k := 29) (i := ((vb2 30) + k1).toNat) (z := a 2 k1.toNat) (show (-2147483648) ≤ (a 2 k1.toNat) ∧ (a 2 k1.toNat) ≤ 2147483647 by omega)) (fpb2.set (k := 29) (i := ((vb2 30) + k1).toNat) (z := a 2 k1.toNat) rfl) (fun bq3 fq7 => ?_)
                  refine m_iinc (z := k1) (j := 0) (lv2 := [(3, .int (iI (k1 + 1))), (2, .int (iI g)), (1, .int (iI f1)), (0, .ref h0)]) C dX12_text_104 rfl (by decide) rfl ?_
                  refine m_goto (tgt := 82) C dX12_text_107 (by decide) ?_
                  have rv12 : 0 ≤ vb2 3 ∧ vb2 3 ≤ 3000 := bq3.1 3
                  refine m_lv (lv2 := [(3, .int (iI (k1 + 1))), (2, .int (iI g)), (1, .int (iI f1)), (0, .ref h0)]) [0, 1, 2, 3] rfl ?_
                  exact ih2  (k1 + 1) _ _ (by omega) bq3 fq7 (by omega) (by show (vb2 3) = 0; omega) (by show (vb2 30) = v 30; omega) (h29b.step (by omega) (by omega) (by omega) rfl)
            have rv13 : 0 ≤ vb1 3 ∧ vb1 3 ≤ 3000 := bxb1.1 3
            refine m_lv (lv2 := [(3, .int (iI 0)), (2, .int (iI g)), (1, .int (iI f1)), (0, .ref h0)]) [0, 1, 2, 3] rfl ?_
            exact Lp2 502 0 _ _ (by omega) bxb1 fpb1 (by omega) (by show (vb1 3) = 0; omega) (by show (vb1 30) = v 30; omega) (TXI.zero h29)
          · refine m_aload_n (j := 3) C dX12_text_73 rfl ?_
            refine m_bipush (z := 6) C dX12_text_74 (by decide) ?_
            refine m_call (mc2 := 0) (ms2 := 0) (As := [.int (iI 6)]) (rest := []) C (B_bad (x := 6) bxb1 (by show -2147483648 ≤ (6 : Int) ∧ (6 : Int) ≤ 2147483647; omega)) dX12_text_76 kV_X12_154 rfl ck_13 rfl (Nat.le_of_ble_eq_true rfl) ⟨Nat.le_of_ble_eq_true rfl, Nat.le_of_ble_eq_true rfl⟩ ⟨Nat.le_of_ble_eq_true rfl, Nat.le_of_ble_eq_true rfl⟩ (fun rh6 vh6 ah6 h6 => ?_)
            obtain ⟨f5, rfl, fn5, bn5, ex5⟩ := h6
            refine hv2 (fpb1.call fn5 rfl rfl) (show f5 = -1 from ex5) (fun fq8 gf5 => ?_)
            refine m_st (st2 := [.int (iI f5)]) rfl ?_
            refine hv4 (show 0 ≤ vh6 3 ∧ vh6 3 ≤ 3000 from bn5.1 3) (show vh6 3 = vb1 3 from fn5.1 3 rfl) (show 0 ≤ vh6 30 ∧ vh6 30 ≤ 500 from bn5.1 30) (show vh6 30 = vb1 30 from fn5.1 30 rfl) (fun rv14 ve7 rv15 ve8 => ?_)
            exact m_iret C dX12_text_79 rfl (Nat.le_of_ble_eq_true rfl) (Nat.le_of_ble_eq_true rfl) ⟨f5, rfl, fq8, bn5, ⟨⟨by omega, Or.inl ⟨by omega, by omega, fun q => absurd (hg2.mpr (fun j hj => q.1 j (by omega))) (fun q2 => absurd q.2 (by omega))⟩⟩, fun _ => (fn5.2 29 rfl).trans h29, fun e => absurd (by omega) e⟩⟩
      · refine m_iload_n (j := 1) C dX12_text_14 rfl ?_
        refine m_if_eq (tgt := 49) C (r32_01 hg) dX12_text_15 (by decide) (fun c6 => ?_) (fun c6 => ?_)
        · clear hg
          refine m_iconst C dX12_text_49 ?_
          refine m_istore_n (lv2 := [(2, .int (iI 0)), (3, .int (iI k)), (1, .int (iI f1)), (0, .ref h0)]) C dX12_text_50 (by decide) rfl ?_
          refine m_iinc (z := k) (j := 1) (lv2 := [(3, .int (iI (k + 1))), (2, .int (iI 0)), (1, .int (iI f1)), (0, .ref h0)]) C dX12_text_51 rfl (by decide) rfl ?_
          refine m_goto (tgt := 9) C dX12_text_54 (by decide) ?_
          refine hv2 (show 0 ≤ vb1 3 ∧ vb1 3 ≤ 3000 from bxb1.1 3) (show 0 ≤ vb1 30 ∧ vb1 30 ≤ 500 from bxb1.1 30) (fun rv16 rv17 => ?_)
          refine m_lv (lv2 := [(3, .int (iI (k + 1))), (2, .int (iI 0)), (1, .int (iI f1)), (0, .ref h0)]) [0, 1, 2, 3] rfl ?_
          exact ih1  0 (k + 1) _ _ (by omega) bxb1 fpb1 (by omega) (by omega) (by show (vb1 3) = 0; omega) (by show (vb1 30) = v 30; omega) (TOK.step hg2 (by omega) (by omega)) h29
        · replace hg := (hg.resolve_left c6)
          refine m_aload_n (j := 3) C dX12_text_18 rfl ?_
          refine m_geta (k := 2) C dX12_text_19 w6_61 (by decide) rfl ?_
          refine m_iload_n (j := 0) C dX12_text_22 rfl ?_
          refine m_ald (k := 2) C dX12_text_23 rfl rfl (by decide) (by omega) (by show _ < ((_ : Nat) : Int); simp only [mlen]; omega) (by decide) ?_
          refine hv2 (show (-2147483648) ≤ ab1 2 k.toNat ∧ ab1 2 k.toNat ≤ 2147483647 from bxb1.2 2 (k.toNat)) (show ab1 2 (k.toNat) = a 2 (k.toNat) from congrFun (fpb1.2 2 rfl) (k.toNat)) (fun ra2 ae2 => ?_)
          refine m_st (st2 := [.int (iI (a 2 k.toNat))]) (congrArg (fun z => Value.int (iI z) :: []) (congrFun (fpb1.2 2 rfl) (k.toNat))) ?_
          refine m_bipush (z := 10) C dX12_text_24 (by decide) ?_
          refine m_icmp_eq (tgt := 45) C ⟨by omega, by omega⟩ ⟨by decide, by decide⟩ dX12_text_26 (by decide) (fun c7 => ?_) (fun c7 => ?_)
          · refine m_iconst C dX12_text_45 ?_
            refine m_goto (tgt := 50) C dX12_text_46 (by decide) ?_
            refine m_istore_n (lv2 := [(2, .int (iI 1)), (3, .int (iI k)), (1, .int (iI f1)), (0, .ref h0)]) C dX12_text_50 (by decide) rfl ?_
            refine m_iinc (z := k) (j := 1) (lv2 := [(3, .int (iI (k + 1))), (2, .int (iI 1)), (1, .int (iI f1)), (0, .ref h0)]) C dX12_text_51 rfl (by decide) rfl ?_
            refine m_goto (tgt := 9) C dX12_text_54 (by decide) ?_
            refine hv2 (show 0 ≤ vb1 3 ∧ vb1 3 ≤ 3000 from bxb1.1 3) (show 0 ≤ vb1 30 ∧ vb1 30 ≤ 500 from bxb1.1 30) (fun rv18 rv19 => ?_)
            refine m_lv (lv2 := [(3, .int (iI (k + 1))), (2, .int (iI 1)), (1, .int (iI f1)), (0, .ref h0)]) [0, 1, 2, 3] rfl ?_
            exact ih1  1 (k + 1) _ _ (by omega) bxb1 fpb1 (by omega) (by omega) (by show (vb1 3) = 0; omega) (by show (vb1 30) = v 30; omega) (TOK.step hg2 (by omega) (by omega)) h29
          · refine m_aload_n (j := 3) C dX12_text_29 rfl ?_
            refine m_geta (k := 2) C dX12_text_30 w6_61 (by decide) rfl ?_
            refine m_iload_n (j := 0) C dX12_text_33 rfl ?_
            refine m_ald (k := 2) C dX12_text_34 rfl rfl (by decide) (by omega) (by show _ < ((_ : Nat) : Int); simp only [mlen]; omega) (by decide) ?_
            refine m_st (st2 := [.int (iI (a 2 k.toNat))]) (congrArg (fun z => Value.int (iI z) :: []) (congrFun (fpb1.2 2 rfl) (k.toNat))) ?_
            refine m_bipush (z := 32) C dX12_text_35 (by decide) ?_
            refine m_bipush (z := 126) C dX12_text_37 (by decide) ?_
            refine m_callS (As := [.int (iI (a 2 k.toNat)), .int (iI 32), .int (iI 126)]) (rest := []) C (fun L E => s_isIn (iI (a 2 k.toNat)) (iI 32) (iI 126)) dX12_text_39 kS_X12_174 rfl rfl (Nat.le_of_ble_eq_true rfl) ⟨Nat.le_of_ble_eq_true rfl, Nat.le_of_ble_eq_true rfl⟩ ⟨Nat.le_of_ble_eq_true rfl, Nat.le_of_ble_eq_true rfl⟩ ?_
            rcases inn_c (x := a 2 k.toNat) (lo := 32) (hi := 126) ⟨by omega, by omega⟩ ⟨by decide, by decide⟩ ⟨by decide, by decide⟩ with ⟨h7a, h7b, h7e⟩ | ⟨h7a, h7e⟩
            · refine m_st (st2 := [.int (iI 1)]) (by rw [h7e]) ?_
              refine m_if_eq (tgt := 49) C ⟨by decide, by decide⟩ dX12_text_42 (by decide) (fun z => absurd z (by omega)) (fun _ => ?_)
              refine m_iconst C dX12_text_45 ?_
              refine m_goto (tgt := 50) C dX12_text_46 (by decide) ?_
              refine m_istore_n (lv2 := [(2, .int (iI 1)), (3, .int (iI k)), (1, .int (iI f1)), (0, .ref h0)]) C dX12_text_50 (by decide) rfl ?_
              refine m_iinc (z := k) (j := 1) (lv2 := [(3, .int (iI (k + 1))), (2, .int (iI 1)), (1, .int (iI f1)), (0, .ref h0)]) C dX12_text_51 rfl (by decide) rfl ?_
              refine m_goto (tgt := 9) C dX12_text_54 (by decide) ?_
              refine hv2 (show 0 ≤ vb1 3 ∧ vb1 3 ≤ 3000 from bxb1.1 3) (show 0 ≤ vb1 30 ∧ vb1 30 ≤ 500 from bxb1.1 30) (fun rv20 rv21 => ?_)
              refine m_lv (lv2 := [(3, .int (iI (k + 1))), (2, .int (iI 1)), (1, .int (iI f1)), (0, .ref h0)]) [0, 1, 2, 3] rfl ?_
              exact ih1  1 (k + 1) _ _ (by omega) bxb1 fpb1 (by omega) (by omega) (by show (vb1 3) = 0; omega) (by show (vb1 30) = v 30; omega) (TOK.step hg2 (by omega) (by omega)) h29
            · refine m_st (st2 := [.int (iI 0)]) (by rw [h7e]) ?_
              refine m_if_eq (tgt := 49) C ⟨by decide, by decide⟩ dX12_text_42 (by decide) (fun _ => ?_) (fun z => absurd z (by omega))
              refine m_iconst C dX12_text_49 ?_
              refine m_istore_n (lv2 := [(2, .int (iI 0)), (3, .int (iI k)), (1, .int (iI f1)), (0, .ref h0)]) C dX12_text_50 (by decide) rfl ?_
              refine m_iinc (z := k) (j := 1) (lv2 := [(3, .int (iI (k + 1))), (2, .int (iI 0)), (1, .int (iI f1)), (0, .ref h0)]) C dX12_text_51 rfl (by decide) rfl ?_
              refine m_goto (tgt := 9) C dX12_text_54 (by decide) ?_
              refine hv2 (show 0 ≤ vb1 3 ∧ vb1 3 ≤ 3000 from bxb1.1 3) (show 0 ≤ vb1 30 ∧ vb1 30 ≤ 500 from bxb1.1 30) (fun rv22 rv23 => ?_)
              refine m_lv (lv2 := [(3, .int (iI (k + 1))), (2, .int (iI 0)), (1, .int (iI f1)), (0, .ref h0)]) [0, 1, 2, 3] rfl ?_
              exact ih1  0 (k + 1) _ _ (by omega) bxb1 fpb1 (by omega) (by omega) (by show (vb1 3) = 0; omega) (by show (vb1 30) = v 30; omega) (TOK.step hg2 (by omega) (by omega)) h29
  refine hv2 (show 0 ≤ vh1 30 ∧ vh1 30 ≤ 500 from bn1.1 30) (show vh1 30 = v 30 from fn1.1 30 rfl) (fun rv24 ve9 => ?_)
  refine m_lv (lv2 := [(3, .int (iI 0)), (2, .int (iI 1)), (1, .int (iI f1)), (0, .ref h0)]) [0, 1, 2, 3] rfl ?_
  exact Lp1 3002 1 0 _ _ (by omega) bn1 fq1 (by omega) (by omega) (by show (vh1 3) = 0; omega) (by show (vh1 30) = v 30; omega) ⟨fun _ => TOK.zero, fun _ => rfl⟩ (fn1.2 29 rfl)
set_option maxHeartbeats 4000000 in
set_option maxRecDepth 100000 in
theorem B_length {l : Launch} {G : GT} {h0 : Nat} {ad ln : Nat → Nat} {v : Nat → Int} {a : Nat → Nat → Int}  {l0 : Int} (hB : BX v a) (hl0 : -2147483648 ≤ l0 ∧ l0 ≤ 2147483647) : Mm l G yX12_length cX12_length 2 (some .int) 2 [.int (iI l0)] h0 ad ln v a 0 0 (fun r v2 a2 => ∃ f : Int, r = some (.int (iI f)) ∧ fr [0, 1] [] v a v2 a2 ∧ BX v2 a2 ∧ (True)) := by
  refine Mm.mk (by decide) (Nat.le_of_ble_eq_true rfl) ?_
  intro p e s m args below meth c A C
  have fp0 : fr [0, 1] [] v a v a := fr.refl
  refine m_aload_n (j := 0) C dX12_length_0 rfl ?_
  refine m_iload_n (j := 1) C dX12_length_1 rfl ?_
  have rv1 : 0 ≤ v 36 ∧ v 36 ≤ 200 := hB.1 36
  refine m_call (mc2 := 0) (ms2 := 0) (As := [.int (iI l0)]) (rest := []) C (M_lineFault (l0 := l0) hB.rg ⟨by omega, by omega⟩ ⟨hB.1 36, hB.2 34⟩) dX12_length_2 kV_X12_294 rfl ck_13 rfl (Nat.le_of_ble_eq_true rfl) ⟨Nat.le_of_ble_eq_true rfl, Nat.le_of_ble_eq_true rfl⟩ ⟨Nat.le_of_ble_eq_true rfl, Nat.le_of_ble_eq_true rfl⟩ (fun rh1 vh1 ah1 h1 => ?_)
  obtain ⟨f1, rfl, hf1, rfl, rfl⟩ := h1
  refine hv2 (show (f1 = 2 ∧ ¬ (0 ≤ l0 ∧ l0 < (v 36))) ∨ (f1 = 1 ∧ 0 ≤ l0 ∧ l0 < (v 36) ∧ a 34 l0.toNat < 0) ∨ (f1 = 0 ∧ 0 ≤ l0 ∧ l0 < (v 36) ∧ 0 ≤ a 34 l0.toNat) from hf1) (show (-1) ≤ a 34 l0.toNat ∧ a 34 l0.toNat ≤ 200 from hB.2 34 (l0.toNat)) (fun gf1 ra1 => ?_)
  refine m_st (st2 := [.int (iI f1)]) rfl ?_
  refine m_if_le (tgt := 20) C ⟨by omega, by omega⟩ dX12_length_5 (by decide) (fun c1 => ?_) (fun c1 => ?_)
  · refine m_aload_n (j := 0) C dX12_length_20 rfl ?_
    refine m_aload_n (j := 0) C dX12_length_21 rfl ?_
    refine m_geta (k := 34) C dX12_length_22 w6_93 (by decide) rfl ?_
    refine m_iload_n (j := 1) C dX12_length_25 rfl ?_
    refine m_ald (k := 34) C dX12_length_26 rfl rfl (by decide) (by omega) (by show _ < ((_ : Nat) : Int); simp only [mlen]; omega) (by decide) ?_
    refine m_call (mc2 := 0) (ms2 := 0) (As := [.int (iI (a 34 l0.toNat))]) (rest := []) C (B_fine (x := a 34 l0.toNat) hB (by show -2147483648 ≤ (a 34 l0.toNat) ∧ (a 34 l0.toNat) ≤ 2147483647; omega)) dX12_length_27 kV_X12_158 rfl ck_13 rfl (Nat.le_of_ble_eq_true rfl) ⟨Nat.le_of_ble_eq_true rfl, Nat.le_of_ble_eq_true rfl⟩ ⟨Nat.le_of_ble_eq_true rfl, Nat.le_of_ble_eq_true rfl⟩ (fun rh2 vh2 ah2 h2 => ?_)
    obtain ⟨f2, rfl, fn1, bn1, ex1⟩ := h2
    refine hv2 (fp0.call fn1 rfl rfl) (show f2 = (a 34 l0.toNat) from ex1) (fun fq1 gf2 => ?_)
    refine m_st (st2 := [.int (iI f2)]) rfl ?_
    exact m_iret C dX12_length_30 rfl (Nat.le_of_ble_eq_true rfl) (Nat.le_of_ble_eq_true rfl) ⟨f2, rfl, fq1, bn1, trivial⟩
  · refine m_aload_n (j := 0) C dX12_length_8 rfl ?_
    refine m_aload_n (j := 0) C dX12_length_9 rfl ?_
    refine m_iload_n (j := 1) C dX12_length_10 rfl ?_
    refine m_call (mc2 := 0) (ms2 := 0) (As := [.int (iI l0)]) (rest := [.ref h0]) C (M_lineFault (l0 := l0) hB.rg ⟨by omega, by omega⟩ ⟨hB.1 36, hB.2 34⟩) dX12_length_11 kV_X12_294 rfl ck_13 rfl (Nat.le_of_ble_eq_true rfl) ⟨Nat.le_of_ble_eq_true rfl, Nat.le_of_ble_eq_true rfl⟩ ⟨Nat.le_of_ble_eq_true rfl, Nat.le_of_ble_eq_true rfl⟩ (fun rh3 vh3 ah3 h3 => ?_)
    obtain ⟨f3, rfl, hf3, rfl, rfl⟩ := h3
    have gf3 : (f3 = 2 ∧ ¬ (0 ≤ l0 ∧ l0 < (v 36))) ∨ (f3 = 1 ∧ 0 ≤ l0 ∧ l0 < (v 36) ∧ a 34 l0.toNat < 0) ∨ (f3 = 0 ∧ 0 ≤ l0 ∧ l0 < (v 36) ∧ 0 ≤ a 34 l0.toNat) := hf3
    refine m_st (st2 := [.int (iI f3), .ref h0]) rfl ?_
    refine m_call (mc2 := 0) (ms2 := 0) (As := [.int (iI f3)]) (rest := []) C (B_bad (x := f3) hB (by show -2147483648 ≤ f3 ∧ f3 ≤ 2147483647; omega)) dX12_length_14 kV_X12_154 rfl ck_13 rfl (Nat.le_of_ble_eq_true rfl) ⟨Nat.le_of_ble_eq_true rfl, Nat.le_of_ble_eq_true rfl⟩ ⟨Nat.le_of_ble_eq_true rfl, Nat.le_of_ble_eq_true rfl⟩ (fun rh4 vh4 ah4 h4 => ?_)
    obtain ⟨f4, rfl, fn2, bn2, ex2⟩ := h4
    refine hv2 (fp0.call fn2 rfl rfl) (show f4 = -1 from ex2) (fun fq2 gf4 => ?_)
    refine m_st (st2 := [.int (iI f4)]) rfl ?_
    refine m_goto (tgt := 30) C dX12_length_17 (by decide) ?_
    exact m_iret C dX12_length_30 rfl (Nat.le_of_ble_eq_true rfl) (Nat.le_of_ble_eq_true rfl) ⟨f4, rfl, fq2, bn2, trivial⟩
set_option maxHeartbeats 4000000 in
set_option maxRecDepth 100000 in
theorem B_letter {l : Launch} {G : GT} {h0 : Nat} {ad ln : Nat → Nat} {v : Nat → Int} {a : Nat → Nat → Int}  {i : Int} (hB : BX v a) (hi : -2147483648 ≤ i ∧ i ≤ 2147483647) : Mm l G yX12_letter cX12_letter 2 (some .int) 2 [.int (iI i)] h0 ad ln v a 0 0 (fun r v2 a2 => ∃ f : Int, r = some (.int (iI f)) ∧ fr [0, 1] [] v a v2 a2 ∧ BX v2 a2 ∧ (True)) := by
  refine Mm.mk (by decide) (Nat.le_of_ble_eq_true rfl) ?_
  intro p e s m args below meth c A C
  have fp0 : fr [0, 1] [] v a v a := fr.refl
  refine m_iload_n (j := 1) C dX12_letter_0 rfl ?_
  refine m_iconst C dX12_letter_1 ?_
  refine m_aload_n (j := 0) C dX12_letter_2 rfl ?_
  have rv1 : 0 ≤ v 52 ∧ v 52 ≤ 4000 := hB.1 52
  refine m_get (k := 52) C dX12_letter_3 w6_111 (by decide) rfl ?_
  refine m_iconst C dX12_letter_6 ?_
  refine m_isub C dX12_letter_7 ?_
  refine m_callS (As := [.int (iI i), .int (iI 0), .int (iI ((v 52) - 1))]) (rest := []) C (fun L E => s_isIn (iI i) (iI 0) (iI ((v 52) - 1))) dX12_letter_8 kS_X12_174 rfl rfl (Nat.le_of_ble_eq_true rfl) ⟨Nat.le_of_ble_eq_true rfl, Nat.le_of_ble_eq_true rfl⟩ ⟨Nat.le_of_ble_eq_true rfl, Nat.le_of_ble_eq_true rfl⟩ ?_
  rcases inn_c (x := i) (lo := 0) (hi := (v 52) - 1) ⟨by omega, by omega⟩ ⟨by decide, by decide⟩ ⟨by omega, by omega⟩ with ⟨h1a, h1b, h1e⟩ | ⟨h1a, h1e⟩
  · refine m_st (st2 := [.int (iI 1)]) (by rw [h1e]) ?_
    refine m_if_eq (tgt := 27) C ⟨by decide, by decide⟩ dX12_letter_11 (by decide) (fun z => absurd z (by omega)) (fun _ => ?_)
    refine m_aload_n (j := 0) C dX12_letter_14 rfl ?_
    refine m_aload_n (j := 0) C dX12_letter_15 rfl ?_
    refine m_geta (k := 51) C dX12_letter_16 w6_110 (by decide) rfl ?_
    refine m_iload_n (j := 1) C dX12_letter_19 rfl ?_
    refine m_ald (k := 51) C dX12_letter_20 rfl rfl (by decide) (by omega) (by show _ < ((_ : Nat) : Int); simp only [mlen]; omega) (by decide) ?_
    have ra1 : (-2147483648) ≤ a 51 i.toNat ∧ a 51 i.toNat ≤ 2147483647 := hB.2 51 (i.toNat)
    refine m_call (mc2 := 0) (ms2 := 0) (As := [.int (iI (a 51 i.toNat))]) (rest := []) C (B_fine (x := a 51 i.toNat) hB (by show -2147483648 ≤ (a 51 i.toNat) ∧ (a 51 i.toNat) ≤ 2147483647; omega)) dX12_letter_21 kV_X12_158 rfl ck_13 rfl (Nat.le_of_ble_eq_true rfl) ⟨Nat.le_of_ble_eq_true rfl, Nat.le_of_ble_eq_true rfl⟩ ⟨Nat.le_of_ble_eq_true rfl, Nat.le_of_ble_eq_true rfl⟩ (fun rh2 vh2 ah2 h2 => ?_)
    obtain ⟨f1, rfl, fn1, bn1, ex1⟩ := h2
    refine hv2 (fp0.call fn1 rfl rfl) (show f1 = (a 51 i.toNat) from ex1) (fun fq1 gf1 => ?_)
    refine m_st (st2 := [.int (iI f1)]) rfl ?_
    refine m_goto (tgt := 32) C dX12_letter_24 (by decide) ?_
    exact m_iret C dX12_letter_32 rfl (Nat.le_of_ble_eq_true rfl) (Nat.le_of_ble_eq_true rfl) ⟨f1, rfl, fq1, bn1, trivial⟩
  · refine m_st (st2 := [.int (iI 0)]) (by rw [h1e]) ?_
    refine m_if_eq (tgt := 27) C ⟨by decide, by decide⟩ dX12_letter_11 (by decide) (fun _ => ?_) (fun z => absurd z (by omega))
    refine m_aload_n (j := 0) C dX12_letter_27 rfl ?_
    refine m_iconst C dX12_letter_28 ?_
    refine m_call (mc2 := 0) (ms2 := 0) (As := [.int (iI 2)]) (rest := []) C (B_bad (x := 2) hB (by show -2147483648 ≤ (2 : Int) ∧ (2 : Int) ≤ 2147483647; omega)) dX12_letter_29 kV_X12_154 rfl ck_13 rfl (Nat.le_of_ble_eq_true rfl) ⟨Nat.le_of_ble_eq_true rfl, Nat.le_of_ble_eq_true rfl⟩ ⟨Nat.le_of_ble_eq_true rfl, Nat.le_of_ble_eq_true rfl⟩ (fun rh3 vh3 ah3 h3 => ?_)
    obtain ⟨f2, rfl, fn2, bn2, ex2⟩ := h3
    refine hv2 (fp0.call fn2 rfl rfl) (show f2 = -1 from ex2) (fun fq2 gf2 => ?_)
    refine m_st (st2 := [.int (iI f2)]) rfl ?_
    exact m_iret C dX12_letter_32 rfl (Nat.le_of_ble_eq_true rfl) (Nat.le_of_ble_eq_true rfl) ⟨f2, rfl, fq2, bn2, trivial⟩
set_option maxHeartbeats 4000000 in
set_option maxRecDepth 100000 in
theorem B_reading {l : Launch} {G : GT} {h0 : Nat} {ad ln : Nat → Nat} {v : Nat → Int} {a : Nat → Nat → Int}  {k i : Int} (hB : BX v a) (hk : -2147483648 ≤ k ∧ k ≤ 2147483647) (hi : -2147483648 ≤ i ∧ i ≤ 2147483647) : Mm l G yX12_reading cX12_reading 3 (some .int) 2 [.int (iI k), .int (iI i)] h0 ad ln v a 0 0 (fun r v2 a2 => ∃ f : Int, r = some (.int (iI f)) ∧ fr [0, 1] [] v a v2 a2 ∧ BX v2 a2 ∧ (True)) := by
  refine Mm.mk (by decide) (Nat.le_of_ble_eq_true rfl) ?_
  intro p e s m args below meth c A C
  have fp0 : fr [0, 1] [] v a v a := fr.refl
  refine m_iload_n (j := 1) C dX12_reading_0 rfl ?_
  refine m_iconst C dX12_reading_1 ?_
  refine m_aload_n (j := 0) C dX12_reading_2 rfl ?_
  have rv1 : 0 ≤ v 60 ∧ v 60 ≤ 50 := hB.1 60
  refine m_get (k := 60) C dX12_reading_3 w6_119 (by decide) rfl ?_
  refine m_iconst C dX12_reading_6 ?_
  refine m_isub C dX12_reading_7 ?_
  refine m_callS (As := [.int (iI k), .int (iI 0), .int (iI ((v 60) - 1))]) (rest := []) C (fun L E => s_isIn (iI k) (iI 0) (iI ((v 60) - 1))) dX12_reading_8 kS_X12_174 rfl rfl (Nat.le_of_ble_eq_true rfl) ⟨Nat.le_of_ble_eq_true rfl, Nat.le_of_ble_eq_true rfl⟩ ⟨Nat.le_of_ble_eq_true rfl, Nat.le_of_ble_eq_true rfl⟩ ?_
  rcases inn_c (x := k) (lo := 0) (hi := (v 60) - 1) ⟨by omega, by omega⟩ ⟨by decide, by decide⟩ ⟨by omega, by omega⟩ with ⟨h1a, h1b, h1e⟩ | ⟨h1a, h1e⟩
  · refine m_st (st2 := [.int (iI 1)]) (by rw [h1e]) ?_
    refine m_if_eq (tgt := 49) C ⟨by decide, by decide⟩ dX12_reading_11 (by decide) (fun z => absurd z (by omega)) (fun _ => ?_)
    refine m_iload_n (j := 2) C dX12_reading_14 rfl ?_
    refine m_iconst C dX12_reading_15 ?_
    refine m_aload_n (j := 0) C dX12_reading_16 rfl ?_
    refine m_geta (k := 59) C dX12_reading_17 w6_118 (by decide) rfl ?_
    refine m_iload_n (j := 1) C dX12_reading_20 rfl ?_
    refine m_ald (k := 59) C dX12_reading_21 rfl rfl (by decide) (by omega) (by show _ < ((_ : Nat) : Int); simp only [mlen]; omega) (by decide) ?_
    have ra1 : 0 ≤ a 59 k.toNat ∧ a 59 k.toNat ≤ 808 := hB.2 59 (k.toNat)
    refine m_iconst C dX12_reading_22 ?_
    refine m_isub C dX12_reading_23 ?_
    refine m_callS (As := [.int (iI i), .int (iI 0), .int (iI ((a 59 k.toNat) - 1))]) (rest := []) C (fun L E => s_isIn (iI i) (iI 0) (iI ((a 59 k.toNat) - 1))) dX12_reading_24 kS_X12_174 rfl rfl (Nat.le_of_ble_eq_true rfl) ⟨Nat.le_of_ble_eq_true rfl, Nat.le_of_ble_eq_true rfl⟩ ⟨Nat.le_of_ble_eq_true rfl, Nat.le_of_ble_eq_true rfl⟩ ?_
    rcases inn_c (x := i) (lo := 0) (hi := (a 59 k.toNat) - 1) ⟨by omega, by omega⟩ ⟨by decide, by decide⟩ ⟨by omega, by omega⟩ with ⟨h2a, h2b, h2e⟩ | ⟨h2a, h2e⟩
    · refine m_st (st2 := [.int (iI 1)]) (by rw [h2e]) ?_
      refine m_if_eq (tgt := 49) C ⟨by decide, by decide⟩ dX12_reading_27 (by decide) (fun z => absurd z (by omega)) (fun _ => ?_)
      refine m_aload_n (j := 0) C dX12_reading_30 rfl ?_
      refine m_aload_n (j := 0) C dX12_reading_31 rfl ?_
      refine m_geta (k := 58) C dX12_reading_32 w6_117 (by decide) rfl ?_
      refine m_sipush (z := 808) C dX12_reading_35 (by decide) ?_
      refine m_iload_n (j := 1) C dX12_reading_38 rfl ?_
      refine m_imul C dX12_reading_39 ?_
      refine m_iload_n (j := 2) C dX12_reading_40 rfl ?_
      refine m_iadd C dX12_reading_41 ?_
      refine m_ald (k := 58) C dX12_reading_42 rfl rfl (by decide) (by omega) (by show _ < ((_ : Nat) : Int); simp only [mlen]; omega) (by decide) ?_
      have ra2 : (-2147483648) ≤ a 58 ((808 * k) + i).toNat ∧ a 58 ((808 * k) + i).toNat ≤ 2147483647 := hB.2 58 (((808 * k) + i).toNat)
      refine m_call (mc2 := 0) (ms2 := 0) (As := [.int (iI (a 58 ((808 * k) + i).toNat))]) (rest := []) C (B_fine (x := a 58 ((808 * k) + i).toNat) hB (by show -2147483648 ≤ (a 58 ((808 * k) + i).toNat) ∧ (a 58 ((808 * k) + i).toNat) ≤ 2147483647; omega)) dX12_reading_43 kV_X12_158 rfl ck_13 rfl (Nat.le_of_ble_eq_true rfl) ⟨Nat.le_of_ble_eq_true rfl, Nat.le_of_ble_eq_true rfl⟩ ⟨Nat.le_of_ble_eq_true rfl, Nat.le_of_ble_eq_true rfl⟩ (fun rh3 vh3 ah3 h3 => ?_)
      obtain ⟨f1, rfl, fn1, bn1, ex1⟩ := h3
      refine hv2 (fp0.call fn1 rfl rfl) (show f1 = (a 58 ((808 * k) + i).toNat) from ex1) (fun fq1 gf1 => ?_)
      refine m_st (st2 := [.int (iI f1)]) rfl ?_
      refine m_goto (tgt := 54) C dX12_reading_46 (by decide) ?_
      exact m_iret C dX12_reading_54 rfl (Nat.le_of_ble_eq_true rfl) (Nat.le_of_ble_eq_true rfl) ⟨f1, rfl, fq1, bn1, trivial⟩
    · refine m_st (st2 := [.int (iI 0)]) (by rw [h2e]) ?_
      refine m_if_eq (tgt := 49) C ⟨by decide, by decide⟩ dX12_reading_27 (by decide) (fun _ => ?_) (fun z => absurd z (by omega))
      refine m_aload_n (j := 0) C dX12_reading_49 rfl ?_
      refine m_iconst C dX12_reading_50 ?_
      refine m_call (mc2 := 0) (ms2 := 0) (As := [.int (iI 2)]) (rest := []) C (B_bad (x := 2) hB (by show -2147483648 ≤ (2 : Int) ∧ (2 : Int) ≤ 2147483647; omega)) dX12_reading_51 kV_X12_154 rfl ck_13 rfl (Nat.le_of_ble_eq_true rfl) ⟨Nat.le_of_ble_eq_true rfl, Nat.le_of_ble_eq_true rfl⟩ ⟨Nat.le_of_ble_eq_true rfl, Nat.le_of_ble_eq_true rfl⟩ (fun rh4 vh4 ah4 h4 => ?_)
      obtain ⟨f2, rfl, fn2, bn2, ex2⟩ := h4
      refine hv2 (fp0.call fn2 rfl rfl) (show f2 = -1 from ex2) (fun fq2 gf2 => ?_)
      refine m_st (st2 := [.int (iI f2)]) rfl ?_
      exact m_iret C dX12_reading_54 rfl (Nat.le_of_ble_eq_true rfl) (Nat.le_of_ble_eq_true rfl) ⟨f2, rfl, fq2, bn2, trivial⟩
  · refine m_st (st2 := [.int (iI 0)]) (by rw [h1e]) ?_
    refine m_if_eq (tgt := 49) C ⟨by decide, by decide⟩ dX12_reading_11 (by decide) (fun _ => ?_) (fun z => absurd z (by omega))
    refine m_aload_n (j := 0) C dX12_reading_49 rfl ?_
    refine m_iconst C dX12_reading_50 ?_
    refine m_call (mc2 := 0) (ms2 := 0) (As := [.int (iI 2)]) (rest := []) C (B_bad (x := 2) hB (by show -2147483648 ≤ (2 : Int) ∧ (2 : Int) ≤ 2147483647; omega)) dX12_reading_51 kV_X12_154 rfl ck_13 rfl (Nat.le_of_ble_eq_true rfl) ⟨Nat.le_of_ble_eq_true rfl, Nat.le_of_ble_eq_true rfl⟩ ⟨Nat.le_of_ble_eq_true rfl, Nat.le_of_ble_eq_true rfl⟩ (fun rh5 vh5 ah5 h5 => ?_)
    obtain ⟨f3, rfl, fn3, bn3, ex3⟩ := h5
    refine hv2 (fp0.call fn3 rfl rfl) (show f3 = -1 from ex3) (fun fq3 gf3 => ?_)
    refine m_st (st2 := [.int (iI f3)]) rfl ?_
    exact m_iret C dX12_reading_54 rfl (Nat.le_of_ble_eq_true rfl) (Nat.le_of_ble_eq_true rfl) ⟨f3, rfl, fq3, bn3, trivial⟩
set_option maxHeartbeats 4000000 in
set_option maxRecDepth 100000 in
theorem B_putBack {l : Launch} {G : GT} {h0 : Nat} {ad ln : Nat → Nat} {v : Nat → Int} {a : Nat → Nat → Int}  (hB : BX v a)  : Mm l G yX12_putBack cX12_putBack 2 none 0 [] h0 ad ln v a 0 0 (fun r v2 a2 => r = none ∧ fr [52] [51] v a v2 a2 ∧ BX v2 a2 ∧ (True)) := by
  refine Mm.mk (by decide) (Nat.le_of_ble_eq_true rfl) ?_
  intro p e s m args below meth c A C
  have fp0 : fr [52] [51] v a v a := fr.refl
  refine m_aload_n (j := 0) C dX12_putBack_0 rfl ?_
  refine m_aload_n (j := 0) C dX12_putBack_1 rfl ?_
  have rv1 : 0 ≤ v 55 ∧ v 55 ≤ 4000 := hB.1 55
  refine m_get (k := 55) C dX12_putBack_2 w6_114 (by decide) rfl ?_
  refine m_put (k := 52) (z := v 55) C dX12_putBack_5 w6_111 (by decide) rfl rfl rfl ?_
  refine hv2 (show BX (va_up v 52 (v 55)) a from hB.put (k := 52) (z := v 55) (show 0 ≤ (v 55) ∧ (v 55) ≤ 4000 by omega)) (fp0.put (k := 52) (z := v 55) rfl) (fun bq1 fq1 => ?_)
  refine m_iconst C dX12_putBack_8 ?_
  refine m_istore_n (lv2 := [(1, .int (iI 0)), (0, .ref h0)]) C dX12_putBack_9 (by decide) rfl ?_
  have Lp1 : ∀ (nn : Nat) (k : Int) (vb1 : Nat → Int) (ab1 : Nat → Nat → Int), 4001 - k < (nn : Int) → BX vb1 ab1 → fr [52] [51] v a vb1 ab1 → (0 ≤ k ∧ k ≤ 4000) → mw p l e (rmq 0 0 0) s m args below meth c G A 2 (MQ below (Qm G A (fun rq Lq Eq => ∃ (vq : Nat → Int) (aq : Nat → Nat → Int), mI G h0 ad ln vq aq Lq Eq ∧ (fun r v2 a2 => r = none ∧ fr [52] [51] v a v2 a2 ∧ BX v2 a2 ∧ (True)) rq vq aq)) args s 0 0 A) h0 ad ln vb1 ab1 0 0 10 [(1, .int (iI k)), (0, .ref h0)] [] := by
    intro nn
    induction nn with
    | zero =>
      intro k vb1 ab1 hm bxb1 fpb1 hk
      exact absurd hm (by omega)
    | succ nn ih1 =>
      intro k vb1 ab1 hm bxb1 fpb1 hk
      refine m_iload_n (j := 0) C dX12_putBack_10 rfl ?_
      refine m_aload_n (j := 1) C dX12_putBack_11 rfl ?_
      have rv2 : 0 ≤ vb1 52 ∧ vb1 52 ≤ 4000 := bxb1.1 52
      refine m_get (k := 52) C dX12_putBack_12 w6_111 (by decide) rfl ?_
      refine m_icmp_ge (tgt := 36) C (r32_c (lo := 0) (hi := 4000) hk.1 hk.2 (by decide) (by decide)) (r32_c (lo := 0) (hi := 4000) rv2.1 rv2.2 (by decide) (by decide)) dX12_putBack_15 (by decide) (fun c1 => ?_) (fun c1 => ?_)
      · exact m_vret C dX12_putBack_36 rfl (Nat.le_of_ble_eq_true rfl) (Nat.le_of_ble_eq_true rfl) ⟨rfl, fpb1, bxb1, trivial⟩
      · refine m_aload_n (j := 1) C dX12_putBack_18 rfl ?_
        refine m_geta (k := 51) C dX12_putBack_19 w6_110 (by decide) rfl ?_
        refine m_iload_n (j := 0) C dX12_putBack_22 rfl ?_
        refine m_aload_n (j := 1) C dX12_putBack_23 rfl ?_
        refine m_geta (k := 54) C dX12_putBack_24 w6_113 (by decide) rfl ?_
        refine m_iload_n (j := 0) C dX12_putBack_27 rfl ?_
        refine m_ald (k := 54) C dX12_putBack_28 rfl rfl (by decide) (by omega) (by show _ < ((_ : Nat) : Int); simp only [mlen]; omega) (by decide) ?_
        refine hv2 (show (-2147483648) ≤ ab1 54 k.toNat ∧ ab1 54 k.toNat ≤ 2147483647 from bxb1.2 54 (k.toNat)) (show ab1 54 (k.toNat) = a 54 (k.toNat) from congrFun (fpb1.2 54 rfl) (k.toNat)) (fun ra1 ae1 => ?_)
        refine m_st (st2 := [.int (iI (a 54 k.toNat)), .int (iI k), .ref (ad 51)]) (congrArg (fun z => Value.int (iI z) :: [.int (iI k), .ref (ad 51)]) (congrFun (fpb1.2 54 rfl) (k.toNat))) ?_
        refine m_ast (k := 51) C dX12_putBack_29 rfl rfl (by decide) (by omega) (by show _ < ((_ : Nat) : Int); simp only [mlen]; omega) (by decide) ?_
        refine hv2 (show BX vb1 (up2 ab1 51 k.toNat (a 54 k.toNat)) from bxb1.set (k := 51) (i := k.toNat) (z := a 54 k.toNat) (show (-2147483648) ≤ (a 54 k.toNat) ∧ (a 54 k.toNat) ≤ 2147483647 by omega)) (fpb1.set (k := 51) (i := k.toNat) (z := a 54 k.toNat) rfl) (fun bq2 fq2 => ?_)
        refine m_iinc (z := k) (j := 0) (lv2 := [(1, .int (iI (k + 1))), (0, .ref h0)]) C dX12_putBack_30 rfl (by decide) rfl ?_
        refine m_goto (tgt := 10) C dX12_putBack_33 (by decide) ?_
        refine m_lv (lv2 := [(1, .int (iI (k + 1))), (0, .ref h0)]) [0, 1] rfl ?_
        exact ih1  (k + 1) _ _ (by omega) bq2 fq2 (by omega)
  refine m_lv (lv2 := [(1, .int (iI 0)), (0, .ref h0)]) [0, 1] rfl ?_
  exact Lp1 4002 0 _ _ (by omega) bq1 fq1 (by omega)
set_option maxHeartbeats 4000000 in
set_option maxRecDepth 100000 in
theorem M_finds {l : Launch} {G : GT} {h0 : Nat} {ad ln : Nat → Nat} {v : Nat → Int} {a : Nat → Nat → Int}  {k : Int} (hB : BX v a) (hk : -2147483648 ≤ k ∧ k ≤ 2147483647) : Mm l G yX12_finds cX12_finds 2 (some .int) 1 [.int (iI k)] h0 ad ln v a 0 0 (fun r v2 a2 => ∃ f : Int, r = some (.int (iI f)) ∧ fr [] [] v a v2 a2 ∧ BX v2 a2 ∧ (True)) := by
  refine Mm.mk (by decide) (Nat.le_of_ble_eq_true rfl) ?_
  intro p e s m args below meth c A C
  have fp0 : fr [] [] v a v a := fr.refl
  refine m_iload_n (j := 1) C dX12_finds_0 rfl ?_
  refine m_iconst C dX12_finds_1 ?_
  refine m_iconst C dX12_finds_2 ?_
  refine m_callS (As := [.int (iI k), .int (iI 0), .int (iI 4)]) (rest := []) C (fun L E => s_isIn (iI k) (iI 0) (iI 4)) dX12_finds_3 kS_X12_174 rfl rfl (Nat.le_of_ble_eq_true rfl) ⟨Nat.le_of_ble_eq_true rfl, Nat.le_of_ble_eq_true rfl⟩ ⟨Nat.le_of_ble_eq_true rfl, Nat.le_of_ble_eq_true rfl⟩ ?_
  rcases inn_c (x := k) (lo := 0) (hi := 4) ⟨by omega, by omega⟩ ⟨by decide, by decide⟩ ⟨by decide, by decide⟩ with ⟨h1a, h1b, h1e⟩ | ⟨h1a, h1e⟩
  · refine m_st (st2 := [.int (iI 1)]) (by rw [h1e]) ?_
    refine m_if_eq (tgt := 18) C ⟨by decide, by decide⟩ dX12_finds_6 (by decide) (fun z => absurd z (by omega)) (fun _ => ?_)
    refine m_aload_n (j := 0) C dX12_finds_9 rfl ?_
    refine m_geta (k := 27) C dX12_finds_10 w6_86 (by decide) rfl ?_
    refine m_iload_n (j := 1) C dX12_finds_13 rfl ?_
    refine m_ald (k := 27) C dX12_finds_14 rfl rfl (by decide) (by omega) (by show _ < ((_ : Nat) : Int); simp only [mlen]; omega) (by decide) ?_
    have ra1 : (-2147483648) ≤ a 27 k.toNat ∧ a 27 k.toNat ≤ 2147483647 := hB.2 27 (k.toNat)
    refine m_goto (tgt := 19) C dX12_finds_15 (by decide) ?_
    exact m_iret C dX12_finds_19 rfl (Nat.le_of_ble_eq_true rfl) (Nat.le_of_ble_eq_true rfl) ⟨(a 27 k.toNat), rfl, fp0, hB, trivial⟩
  · refine m_st (st2 := [.int (iI 0)]) (by rw [h1e]) ?_
    refine m_if_eq (tgt := 18) C ⟨by decide, by decide⟩ dX12_finds_6 (by decide) (fun _ => ?_) (fun z => absurd z (by omega))
    refine m_iconst C dX12_finds_18 ?_
    exact m_iret C dX12_finds_19 rfl (Nat.le_of_ble_eq_true rfl) (Nat.le_of_ble_eq_true rfl) ⟨0, rfl, fp0, hB, trivial⟩
set_option maxHeartbeats 4000000 in
set_option maxRecDepth 100000 in
theorem M_digest {l : Launch} {G : GT} {h0 : Nat} {ad ln : Nat → Nat} {v : Nat → Int} {a : Nat → Nat → Int}  (hB : BX v a)  : Mm l G yX12_digest cX12_digest 4 (some .int) 0 [] h0 ad ln v a 0 0 (fun r v2 a2 => ∃ f : Int, r = some (.int (iI f)) ∧ fr [] [] v a v2 a2 ∧ BX v2 a2 ∧ (True)) := by
  refine Mm.mk (by decide) (Nat.le_of_ble_eq_true rfl) ?_
  intro p e s m args below meth c A C
  have fp0 : fr [] [] v a v a := fr.refl
  refine m_sipush (z := 527) C dX12_digest_0 (by decide) ?_
  refine m_aload_n (j := 0) C dX12_digest_3 rfl ?_
  have rv1 : 0 ≤ v 36 ∧ v 36 ≤ 200 := hB.1 36
  refine m_get (k := 36) C dX12_digest_4 w6_95 (by decide) rfl ?_
  refine m_iadd C dX12_digest_7 ?_
  obtain ⟨zz1, hzz1, ezz1⟩ := iI_of (iI (527 + (v 36)))
  refine m_st (st2 := [.int (iI zz1)]) (by rw [ezz1]) ?_
  refine m_istore_n (lv2 := [(1, .int (iI zz1)), (0, .ref h0)]) C dX12_digest_8 (by decide) rfl ?_
  refine m_iconst C dX12_digest_9 ?_
  refine m_istore_n (lv2 := [(2, .int (iI 0)), (1, .int (iI zz1)), (0, .ref h0)]) C dX12_digest_10 (by decide) rfl ?_
  have Lp1 : ∀ (nn : Nat) (s1 x : Int) (vb1 : Nat → Int) (ab1 : Nat → Nat → Int), 201 - x < (nn : Int) → BX vb1 ab1 → fr [] [] v a vb1 ab1 → (-2147483648 ≤ s1 ∧ s1 ≤ 2147483647) → (0 ≤ x ∧ x ≤ 200) → mw p l e (rmq 0 0 0) s m args below meth c G A 4 (MQ below (Qm G A (fun rq Lq Eq => ∃ (vq : Nat → Int) (aq : Nat → Nat → Int), mI G h0 ad ln vq aq Lq Eq ∧ (fun r v2 a2 => ∃ f : Int, r = some (.int (iI f)) ∧ fr [] [] v a v2 a2 ∧ BX v2 a2 ∧ (True)) rq vq aq)) args s 0 0 A) h0 ad ln vb1 ab1 0 0 11 [(2, .int (iI x)), (1, .int (iI s1)), (0, .ref h0)] [] := by
    intro nn
    induction nn with
    | zero =>
      intro s1 x vb1 ab1 hm bxb1 fpb1 hs hx
      exact absurd hm (by omega)
    | succ nn ih1 =>
      intro s1 x vb1 ab1 hm bxb1 fpb1 hs hx
      refine m_iload_n (j := 0) C dX12_digest_11 rfl ?_
      refine m_aload_n (j := 2) C dX12_digest_12 rfl ?_
      refine hv2 (show 0 ≤ vb1 36 ∧ vb1 36 ≤ 200 from bxb1.1 36) (show vb1 36 = v 36 from fpb1.1 36 rfl) (fun rv2 ve1 => ?_)
      refine m_get (k := 36) C dX12_digest_13 w6_95 (by decide) rfl ?_
      refine m_st (st2 := [.int (iI (v 36)), .int (iI x)]) (congrArg (fun z => Value.int (iI z) :: [.int (iI x)]) (fpb1.1 36 rfl)) ?_
      refine m_icmp_ge (tgt := 73) C (r32_c (lo := 0) (hi := 200) hx.1 hx.2 (by decide) (by decide)) (r32_c (lo := 0) (hi := 200) rv1.1 rv1.2 (by decide) (by decide)) dX12_digest_16 (by decide) (fun c1 => ?_) (fun c1 => ?_)
      · refine m_iload_n (j := 1) C dX12_digest_73 rfl ?_
        refine m_bipush (z := 31) C dX12_digest_74 (by decide) ?_
        refine m_imul C dX12_digest_76 ?_
        refine m_aload_n (j := 2) C dX12_digest_77 rfl ?_
        refine hv2 (show 0 ≤ vb1 52 ∧ vb1 52 ≤ 4000 from bxb1.1 52) (show vb1 52 = v 52 from fpb1.1 52 rfl) (fun rv3 ve2 => ?_)
        refine m_get (k := 52) C dX12_digest_78 w6_111 (by decide) rfl ?_
        refine m_st (st2 := [.int (iI (v 52)), .int (iI (s1 * 31))]) (congrArg (fun z => Value.int (iI z) :: [.int (iI (s1 * 31))]) (fpb1.1 52 rfl)) ?_
        refine m_iadd C dX12_digest_81 ?_
        obtain ⟨zz2, hzz2, ezz2⟩ := iI_of (iI ((s1 * 31) + (v 52)))
        refine m_st (st2 := [.int (iI zz2)]) (by rw [ezz2]) ?_
        refine m_istore_n (lv2 := [(1, .int (iI zz2)), (2, .int (iI x)), (0, .ref h0)]) C dX12_digest_82 (by decide) rfl ?_
        refine m_iconst C dX12_digest_83 ?_
        refine m_istore_n (lv2 := [(2, .int (iI 0)), (1, .int (iI zz2)), (0, .ref h0)]) C dX12_digest_84 (by decide) rfl ?_
        have Lp2 : ∀ (nn : Nat) (s3 z9 : Int) (vb2 : Nat → Int) (ab2 : Nat → Nat → Int), 4001 - z9 < (nn : Int) → BX vb2 ab2 → fr [] [] v a vb2 ab2 → (-2147483648 ≤ s3 ∧ s3 ≤ 2147483647) → (0 ≤ z9 ∧ z9 ≤ 4000) → mw p l e (rmq 0 0 0) s m args below meth c G A 4 (MQ below (Qm G A (fun rq Lq Eq => ∃ (vq : Nat → Int) (aq : Nat → Nat → Int), mI G h0 ad ln vq aq Lq Eq ∧ (fun r v2 a2 => ∃ f : Int, r = some (.int (iI f)) ∧ fr [] [] v a v2 a2 ∧ BX v2 a2 ∧ (True)) rq vq aq)) args s 0 0 A) h0 ad ln vb2 ab2 0 0 85 [(2, .int (iI z9)), (1, .int (iI s3)), (0, .ref h0)] [] := by
          intro nn
          induction nn with
          | zero =>
            intro s3 z9 vb2 ab2 hm bxb2 fpb2 hs3 hz
            exact absurd hm (by omega)
          | succ nn ih2 =>
            intro s3 z9 vb2 ab2 hm bxb2 fpb2 hs3 hz
            refine m_iload_n (j := 0) C dX12_digest_85 rfl ?_
            refine m_aload_n (j := 2) C dX12_digest_86 rfl ?_
            refine hv2 (show 0 ≤ vb2 52 ∧ vb2 52 ≤ 4000 from bxb2.1 52) (show vb2 52 = v 52 from fpb2.1 52 rfl) (fun rv4 ve3 => ?_)
            refine m_get (k := 52) C dX12_digest_87 w6_111 (by decide) rfl ?_
            refine m_st (st2 := [.int (iI (v 52)), .int (iI z9)]) (congrArg (fun z => Value.int (iI z) :: [.int (iI z9)]) (fpb2.1 52 rfl)) ?_
            refine m_icmp_ge (tgt := 111) C (r32_c (lo := 0) (hi := 4000) hz.1 hz.2 (by decide) (by decide)) (r32_c (lo := 0) (hi := 4000) (Int.le_trans rv3.1 (Int.le_of_eq ve2)) (Int.le_trans (Int.le_of_eq ve2.symm) rv3.2) (by decide) (by decide)) dX12_digest_90 (by decide) (fun c2 => ?_) (fun c2 => ?_)
            · refine m_iconst C dX12_digest_111 ?_
              refine m_istore_n (lv2 := [(2, .int (iI 0)), (1, .int (iI s3)), (0, .ref h0)]) C dX12_digest_112 (by decide) rfl ?_
              have Lp3 : ∀ (nn : Nat) (s4 k : Int) (vb3 : Nat → Int) (ab3 : Nat → Nat → Int), 6 - k < (nn : Int) → BX vb3 ab3 → fr [] [] v a vb3 ab3 → (-2147483648 ≤ s4 ∧ s4 ≤ 2147483647) → (0 ≤ k ∧ k ≤ 5) → mw p l e (rmq 0 0 0) s m args below meth c G A 4 (MQ below (Qm G A (fun rq Lq Eq => ∃ (vq : Nat → Int) (aq : Nat → Nat → Int), mI G h0 ad ln vq aq Lq Eq ∧ (fun r v2 a2 => ∃ f : Int, r = some (.int (iI f)) ∧ fr [] [] v a v2 a2 ∧ BX v2 a2 ∧ (True)) rq vq aq)) args s 0 0 A) h0 ad ln vb3 ab3 0 0 113 [(2, .int (iI k)), (1, .int (iI s4)), (0, .ref h0)] [] := by
                intro nn
                induction nn with
                | zero =>
                  intro s4 k vb3 ab3 hm bxb3 fpb3 hs4 hk
                  exact absurd hm (by omega)
                | succ nn ih3 =>
                  intro s4 k vb3 ab3 hm bxb3 fpb3 hs4 hk
                  refine m_iload_n (j := 0) C dX12_digest_113 rfl ?_
                  refine m_iconst C dX12_digest_114 ?_
                  refine m_icmp_ge (tgt := 136) C (r32_c (lo := 0) (hi := 5) hk.1 hk.2 (by decide) (by decide)) ⟨by decide, by decide⟩ dX12_digest_115 (by decide) (fun c3 => ?_) (fun c3 => ?_)
                  · refine m_iload_n (j := 1) C dX12_digest_136 rfl ?_
                    refine m_bipush (z := 31) C dX12_digest_137 (by decide) ?_
                    refine m_imul C dX12_digest_139 ?_
                    refine m_aload_n (j := 2) C dX12_digest_140 rfl ?_
                    refine hv2 (show (-2147483648) ≤ vb3 42 ∧ vb3 42 ≤ 2147483647 from bxb3.1 42) (show vb3 42 = v 42 from fpb3.1 42 rfl) (fun rv5 ve4 => ?_)
                    refine m_get (k := 42) C dX12_digest_141 w6_101 (by decide) rfl ?_
                    refine m_st (st2 := [.int (iI (v 42)), .int (iI (s4 * 31))]) (congrArg (fun z => Value.int (iI z) :: [.int (iI (s4 * 31))]) (fpb3.1 42 rfl)) ?_
                    refine m_iadd C dX12_digest_144 ?_
                    refine m_bipush (z := 31) C dX12_digest_145 (by decide) ?_
                    refine m_imul C dX12_digest_147 ?_
                    refine m_aload_n (j := 2) C dX12_digest_148 rfl ?_
                    refine hv2 (show (-2147483648) ≤ vb3 43 ∧ vb3 43 ≤ 2147483647 from bxb3.1 43) (show vb3 43 = v 43 from fpb3.1 43 rfl) (fun rv6 ve5 => ?_)
                    refine m_get (k := 43) C dX12_digest_149 w6_102 (by decide) rfl ?_
                    refine m_st (st2 := [.int (iI (v 43)), .int (iI (((s4 * 31) + (v 42)) * 31))]) (congrArg (fun z => Value.int (iI z) :: [.int (iI (((s4 * 31) + (v 42)) * 31))]) (fpb3.1 43 rfl)) ?_
                    refine m_iadd C dX12_digest_152 ?_
                    obtain ⟨zz3, hzz3, ezz3⟩ := iI_of (iI ((((s4 * 31) + (v 42)) * 31) + (v 43)))
                    refine m_st (st2 := [.int (iI zz3)]) (by rw [ezz3]) ?_
                    exact m_iret C dX12_digest_153 rfl (Nat.le_of_ble_eq_true rfl) (Nat.le_of_ble_eq_true rfl) ⟨zz3, rfl, fpb3, bxb3, trivial⟩
                  · refine m_iload_n (j := 1) C dX12_digest_118 rfl ?_
                    refine m_bipush (z := 31) C dX12_digest_119 (by decide) ?_
                    refine m_imul C dX12_digest_121 ?_
                    refine m_aload_n (j := 2) C dX12_digest_122 rfl ?_
                    refine m_geta (k := 27) C dX12_digest_123 w6_86 (by decide) rfl ?_
                    refine m_iload_n (j := 0) C dX12_digest_126 rfl ?_
                    refine m_ald (k := 27) C dX12_digest_127 rfl rfl (by decide) (by omega) (by show _ < ((_ : Nat) : Int); simp only [mlen]; omega) (by decide) ?_
                    refine hv2 (show (-2147483648) ≤ ab3 27 k.toNat ∧ ab3 27 k.toNat ≤ 2147483647 from bxb3.2 27 (k.toNat)) (show ab3 27 (k.toNat) = a 27 (k.toNat) from congrFun (fpb3.2 27 rfl) (k.toNat)) (fun ra1 ae1 => ?_)
                    refine m_st (st2 := [.int (iI (a 27 k.toNat)), .int (iI (s4 * 31))]) (congrArg (fun z => Value.int (iI z) :: [.int (iI (s4 * 31))]) (congrFun (fpb3.2 27 rfl) (k.toNat))) ?_
                    refine m_iadd C dX12_digest_128 ?_
                    obtain ⟨zz4, hzz4, ezz4⟩ := iI_of (iI ((s4 * 31) + (a 27 k.toNat)))
                    refine m_st (st2 := [.int (iI zz4)]) (by rw [ezz4]) ?_
                    refine m_istore_n (lv2 := [(1, .int (iI zz4)), (2, .int (iI k)), (0, .ref h0)]) C dX12_digest_129 (by decide) rfl ?_
                    refine m_iinc (z := k) (j := 1) (lv2 := [(2, .int (iI (k + 1))), (1, .int (iI zz4)), (0, .ref h0)]) C dX12_digest_130 rfl (by decide) rfl ?_
                    refine m_goto (tgt := 113) C dX12_digest_133 (by decide) ?_
                    refine m_lv (lv2 := [(2, .int (iI (k + 1))), (1, .int (iI zz4)), (0, .ref h0)]) [0, 1, 2] rfl ?_
                    exact ih3  zz4 (k + 1) _ _ (by omega) bxb3 fpb3 (by omega) (by omega)
              refine m_lv (lv2 := [(2, .int (iI 0)), (1, .int (iI s3)), (0, .ref h0)]) [0, 1, 2] rfl ?_
              exact Lp3 7 s3 0 _ _ (by omega) bxb2 fpb2 (by omega) (by omega)
            · refine m_iload_n (j := 1) C dX12_digest_93 rfl ?_
              refine m_bipush (z := 31) C dX12_digest_94 (by decide) ?_
              refine m_imul C dX12_digest_96 ?_
              refine m_aload_n (j := 2) C dX12_digest_97 rfl ?_
              refine m_geta (k := 51) C dX12_digest_98 w6_110 (by decide) rfl ?_
              refine m_iload_n (j := 0) C dX12_digest_101 rfl ?_
              refine m_ald (k := 51) C dX12_digest_102 rfl rfl (by decide) (by omega) (by show _ < ((_ : Nat) : Int); simp only [mlen]; omega) (by decide) ?_
              refine hv2 (show (-2147483648) ≤ ab2 51 z9.toNat ∧ ab2 51 z9.toNat ≤ 2147483647 from bxb2.2 51 (z9.toNat)) (show ab2 51 (z9.toNat) = a 51 (z9.toNat) from congrFun (fpb2.2 51 rfl) (z9.toNat)) (fun ra2 ae2 => ?_)
              refine m_st (st2 := [.int (iI (a 51 z9.toNat)), .int (iI (s3 * 31))]) (congrArg (fun z => Value.int (iI z) :: [.int (iI (s3 * 31))]) (congrFun (fpb2.2 51 rfl) (z9.toNat))) ?_
              refine m_iadd C dX12_digest_103 ?_
              obtain ⟨zz5, hzz5, ezz5⟩ := iI_of (iI ((s3 * 31) + (a 51 z9.toNat)))
              refine m_st (st2 := [.int (iI zz5)]) (by rw [ezz5]) ?_
              refine m_istore_n (lv2 := [(1, .int (iI zz5)), (2, .int (iI z9)), (0, .ref h0)]) C dX12_digest_104 (by decide) rfl ?_
              refine m_iinc (z := z9) (j := 1) (lv2 := [(2, .int (iI (z9 + 1))), (1, .int (iI zz5)), (0, .ref h0)]) C dX12_digest_105 rfl (by decide) rfl ?_
              refine m_goto (tgt := 85) C dX12_digest_108 (by decide) ?_
              refine m_lv (lv2 := [(2, .int (iI (z9 + 1))), (1, .int (iI zz5)), (0, .ref h0)]) [0, 1, 2] rfl ?_
              exact ih2  zz5 (z9 + 1) _ _ (by omega) bxb2 fpb2 (by omega) (by omega)
        refine m_lv (lv2 := [(2, .int (iI 0)), (1, .int (iI zz2)), (0, .ref h0)]) [0, 1, 2] rfl ?_
        exact Lp2 4002 zz2 0 _ _ (by omega) bxb1 fpb1 (by omega) (by omega)
      · refine m_iload_n (j := 1) C dX12_digest_19 rfl ?_
        refine m_bipush (z := 31) C dX12_digest_20 (by decide) ?_
        refine m_imul C dX12_digest_22 ?_
        refine m_aload_n (j := 2) C dX12_digest_23 rfl ?_
        refine m_geta (k := 34) C dX12_digest_24 w6_93 (by decide) rfl ?_
        refine m_iload_n (j := 0) C dX12_digest_27 rfl ?_
        refine m_ald (k := 34) C dX12_digest_28 rfl rfl (by decide) (by omega) (by show _ < ((_ : Nat) : Int); simp only [mlen]; omega) (by decide) ?_
        refine hv2 (show (-1) ≤ ab1 34 x.toNat ∧ ab1 34 x.toNat ≤ 200 from bxb1.2 34 (x.toNat)) (show ab1 34 (x.toNat) = a 34 (x.toNat) from congrFun (fpb1.2 34 rfl) (x.toNat)) (fun ra3 ae3 => ?_)
        refine m_st (st2 := [.int (iI (a 34 x.toNat)), .int (iI (s1 * 31))]) (congrArg (fun z => Value.int (iI z) :: [.int (iI (s1 * 31))]) (congrFun (fpb1.2 34 rfl) (x.toNat))) ?_
        refine m_iadd C dX12_digest_29 ?_
        obtain ⟨zz6, hzz6, ezz6⟩ := iI_of (iI ((s1 * 31) + (a 34 x.toNat)))
        refine m_st (st2 := [.int (iI zz6)]) (by rw [ezz6]) ?_
        refine m_istore_n (lv2 := [(1, .int (iI zz6)), (2, .int (iI x)), (0, .ref h0)]) C dX12_digest_30 (by decide) rfl ?_
        refine m_iconst C dX12_digest_31 ?_
        refine m_istore_n (lv2 := [(3, .int (iI 0)), (1, .int (iI zz6)), (2, .int (iI x)), (0, .ref h0)]) C dX12_digest_32 (by decide) rfl ?_
        have Lp4 : ∀ (nn : Nat) (s2 y : Int) (vb4 : Nat → Int) (ab4 : Nat → Nat → Int), 201 - y < (nn : Int) → BX vb4 ab4 → fr [] [] v a vb4 ab4 → (-2147483648 ≤ s2 ∧ s2 ≤ 2147483647) → (0 ≤ y ∧ y ≤ 200) → mw p l e (rmq 0 0 0) s m args below meth c G A 4 (MQ below (Qm G A (fun rq Lq Eq => ∃ (vq : Nat → Int) (aq : Nat → Nat → Int), mI G h0 ad ln vq aq Lq Eq ∧ (fun r v2 a2 => ∃ f : Int, r = some (.int (iI f)) ∧ fr [] [] v a v2 a2 ∧ BX v2 a2 ∧ (True)) rq vq aq)) args s 0 0 A) h0 ad ln vb4 ab4 0 0 33 [(3, .int (iI y)), (1, .int (iI s2)), (2, .int (iI x)), (0, .ref h0)] [] := by
          intro nn
          induction nn with
          | zero =>
            intro s2 y vb4 ab4 hm bxb4 fpb4 hs2 hy
            exact absurd hm (by omega)
          | succ nn ih4 =>
            intro s2 y vb4 ab4 hm bxb4 fpb4 hs2 hy
            refine m_iload_n (j := 0) C dX12_digest_33 rfl ?_
            refine m_aload_n (j := 3) C dX12_digest_34 rfl ?_
            refine m_geta (k := 34) C dX12_digest_35 w6_93 (by decide) rfl ?_
            refine m_iload_n (j := 2) C dX12_digest_38 rfl ?_
            refine m_ald (k := 34) C dX12_digest_39 rfl rfl (by decide) (by omega) (by show _ < ((_ : Nat) : Int); simp only [mlen]; omega) (by decide) ?_
            refine hv2 (show (-1) ≤ ab4 34 x.toNat ∧ ab4 34 x.toNat ≤ 200 from bxb4.2 34 (x.toNat)) (show ab4 34 (x.toNat) = a 34 (x.toNat) from congrFun (fpb4.2 34 rfl) (x.toNat)) (fun ra4 ae4 => ?_)
            refine m_st (st2 := [.int (iI (a 34 x.toNat)), .int (iI y)]) (congrArg (fun z => Value.int (iI z) :: [.int (iI y)]) (congrFun (fpb4.2 34 rfl) (x.toNat))) ?_
            refine m_icmp_ge (tgt := 67) C (r32_c (lo := 0) (hi := 200) hy.1 hy.2 (by decide) (by decide)) ⟨by omega, by omega⟩ dX12_digest_40 (by decide) (fun c4 => ?_) (fun c4 => ?_)
            · refine m_iinc (z := x) (j := 2) (lv2 := [(2, .int (iI (x + 1))), (3, .int (iI y)), (1, .int (iI s2)), (0, .ref h0)]) C dX12_digest_67 rfl (by decide) rfl ?_
              refine m_goto (tgt := 11) C dX12_digest_70 (by decide) ?_
              refine m_lv (lv2 := [(2, .int (iI (x + 1))), (1, .int (iI s2)), (0, .ref h0)]) [0, 2, 3] rfl ?_
              exact ih1  s2 (x + 1) _ _ (by omega) bxb4 fpb4 (by omega) (by omega)
            · refine m_iload_n (j := 1) C dX12_digest_43 rfl ?_
              refine m_bipush (z := 31) C dX12_digest_44 (by decide) ?_
              refine m_imul C dX12_digest_46 ?_
              refine m_aload_n (j := 3) C dX12_digest_47 rfl ?_
              refine m_geta (k := 35) C dX12_digest_48 w6_94 (by decide) rfl ?_
              refine m_sipush (z := 200) C dX12_digest_51 (by decide) ?_
              refine m_iload_n (j := 2) C dX12_digest_54 rfl ?_
              refine m_imul C dX12_digest_55 ?_
              refine m_iload_n (j := 0) C dX12_digest_56 rfl ?_
              refine m_iadd C dX12_digest_57 ?_
              refine m_ald (k := 35) C dX12_digest_58 rfl rfl (by decide) (by omega) (by show _ < ((_ : Nat) : Int); simp only [mlen]; omega) (by decide) ?_
              refine hv2 (show (-2147483648) ≤ ab4 35 ((200 * x) + y).toNat ∧ ab4 35 ((200 * x) + y).toNat ≤ 2147483647 from bxb4.2 35 (((200 * x) + y).toNat)) (show ab4 35 (((200 * x) + y).toNat) = a 35 (((200 * x) + y).toNat) from congrFun (fpb4.2 35 rfl) (((200 * x) + y).toNat)) (fun ra5 ae5 => ?_)
              refine m_st (st2 := [.int (iI (a 35 ((200 * x) + y).toNat)), .int (iI (s2 * 31))]) (congrArg (fun z => Value.int (iI z) :: [.int (iI (s2 * 31))]) (congrFun (fpb4.2 35 rfl) (((200 * x) + y).toNat))) ?_
              refine m_iadd C dX12_digest_59 ?_
              obtain ⟨zz7, hzz7, ezz7⟩ := iI_of (iI ((s2 * 31) + (a 35 ((200 * x) + y).toNat)))
              refine m_st (st2 := [.int (iI zz7)]) (by rw [ezz7]) ?_
              refine m_istore_n (lv2 := [(1, .int (iI zz7)), (3, .int (iI y)), (2, .int (iI x)), (0, .ref h0)]) C dX12_digest_60 (by decide) rfl ?_
              refine m_iinc (z := y) (j := 1) (lv2 := [(3, .int (iI (y + 1))), (1, .int (iI zz7)), (2, .int (iI x)), (0, .ref h0)]) C dX12_digest_61 rfl (by decide) rfl ?_
              refine m_goto (tgt := 33) C dX12_digest_64 (by decide) ?_
              refine m_lv (lv2 := [(3, .int (iI (y + 1))), (1, .int (iI zz7)), (2, .int (iI x)), (0, .ref h0)]) [0, 1, 2, 3] rfl ?_
              exact ih4  zz7 (y + 1) _ _ (by omega) bxb4 fpb4 (by omega) (by omega)
        refine m_lv (lv2 := [(3, .int (iI 0)), (1, .int (iI zz6)), (2, .int (iI x)), (0, .ref h0)]) [0, 1, 2, 3] rfl ?_
        exact Lp4 202 zz6 0 _ _ (by omega) bxb1 fpb1 (by omega) (by omega)
  refine m_lv (lv2 := [(2, .int (iI 0)), (1, .int (iI zz1)), (0, .ref h0)]) [0, 1, 2] rfl ?_
  exact Lp1 202 zz1 0 _ _ (by omega) hB fp0 (by omega) (by omega)
set_option maxHeartbeats 4000000 in
set_option maxRecDepth 100000 in
theorem M_saved {l : Launch} {G : GT} {h0 : Nat} {ad ln : Nat → Nat} {v : Nat → Int} {a : Nat → Nat → Int}  {x1 y1 : Int} (hB : BX v a) (hT : TBL v a) (hx1 : -2147483648 ≤ x1 ∧ x1 ≤ 2147483647) (hy1 : -2147483648 ≤ y1 ∧ y1 ≤ 2147483647) : Mm l G yX12_saved cX12_saved 8 (some .int) 66 [.int (iI x1), .int (iI y1)] h0 ad ln v a 0 0 (fun r v2 a2 => ∃ f : Int, r = some (.int (iI f)) ∧ fr [0, 1, 23, 25, 28] [20, 21, 22, 24, 26, 27] v a v2 a2 ∧ BX v2 a2 ∧ (True)) := by
  refine Mm.mk (by decide) (Nat.le_of_ble_eq_true rfl) ?_
  intro p e s m args below meth c A C
  refine hv3 (show 0 ≤ v 4 ∧ v 4 ≤ 30 from hB.1 4) (show 0 ≤ v 30 ∧ v 30 ≤ 500 from hB.1 30) (show fr [0, 1, 23, 25, 28] [20, 21, 22, 24, 26, 27] v a v a from fr.refl) (fun h30 r30 fp0 => ?_)
  refine m_aload_n (j := 0) C dX12_saved_0 rfl ?_
  refine m_iload_n (j := 1) C dX12_saved_1 rfl ?_
  have rv1 : 0 ≤ v 4 ∧ v 4 ≤ 30 := hB.1 4
  refine m_call (mc2 := 0) (ms2 := 0) (As := [.int (iI x1)]) (rest := []) C (M_isWhole (t := x1) hB (hT.fr fp0 rfl rfl) (by show -2147483648 ≤ x1 ∧ x1 ≤ 2147483647; omega)) dX12_saved_2 kV_X12_171 rfl ck_13 rfl (Nat.le_of_ble_eq_true rfl) ⟨Nat.le_of_ble_eq_true rfl, Nat.le_of_ble_eq_true rfl⟩ ⟨Nat.le_of_ble_eq_true rfl, Nat.le_of_ble_eq_true rfl⟩ (fun rh1 vh1 ah1 h1 => ?_)
  obtain ⟨f1, rfl, fn1, bn1, ex1⟩ := h1
  obtain ⟨rfl, rfl⟩ := fn1.eq
  have gf1 : f1 = 0 ∨ (f1 = 1 ∧ 0 ≤ x1 ∧ x1 < (v 4)) := ex1
  refine m_st (st2 := [.int (iI f1)]) rfl ?_
  refine m_if_eq (tgt := 16) C (r32_0p gf1) dX12_saved_5 (by decide) (fun c1 => ?_) (fun c1 => ?_)
  · clear gf1
    refine m_aload_n (j := 0) C dX12_saved_16 rfl ?_
    refine m_iconst C dX12_saved_17 ?_
    refine m_call (mc2 := 0) (ms2 := 0) (As := [.int (iI 3)]) (rest := []) C (B_bad (x := 3) hB (by show -2147483648 ≤ (3 : Int) ∧ (3 : Int) ≤ 2147483647; omega)) dX12_saved_18 kV_X12_154 rfl ck_13 rfl (Nat.le_of_ble_eq_true rfl) ⟨Nat.le_of_ble_eq_true rfl, Nat.le_of_ble_eq_true rfl⟩ ⟨Nat.le_of_ble_eq_true rfl, Nat.le_of_ble_eq_true rfl⟩ (fun rh2 vh2 ah2 h2 => ?_)
    obtain ⟨f2, rfl, fn2, bn2, ex2⟩ := h2
    refine hv2 (fp0.call fn2 rfl rfl) (show f2 = -1 from ex2) (fun fq2 gf2 => ?_)
    refine m_st (st2 := [.int (iI f2)]) rfl ?_
    exact m_iret C dX12_saved_21 rfl (Nat.le_of_ble_eq_true rfl) (Nat.le_of_ble_eq_true rfl) ⟨f2, rfl, fq2, bn2, trivial⟩
  · replace gf1 := (gf1.resolve_left c1)
    refine m_aload_n (j := 0) C dX12_saved_8 rfl ?_
    refine m_iload_n (j := 2) C dX12_saved_9 rfl ?_
    refine m_call (mc2 := 0) (ms2 := 0) (As := [.int (iI y1)]) (rest := []) C (M_isWhole (t := y1) hB (hT.fr fp0 rfl rfl) (by show -2147483648 ≤ y1 ∧ y1 ≤ 2147483647; omega)) dX12_saved_10 kV_X12_171 rfl ck_13 rfl (Nat.le_of_ble_eq_true rfl) ⟨Nat.le_of_ble_eq_true rfl, Nat.le_of_ble_eq_true rfl⟩ ⟨Nat.le_of_ble_eq_true rfl, Nat.le_of_ble_eq_true rfl⟩ (fun rh3 vh3 ah3 h3 => ?_)
    obtain ⟨f3, rfl, fn3, bn3, ex3⟩ := h3
    obtain ⟨rfl, rfl⟩ := fn3.eq
    have gf3 : f3 = 0 ∨ (f3 = 1 ∧ 0 ≤ y1 ∧ y1 < (v 4)) := ex3
    refine m_st (st2 := [.int (iI f3)]) rfl ?_
    refine m_if_ne (tgt := 22) C (r32_0p gf3) dX12_saved_13 (by decide) (fun c2 => ?_) (fun c2 => ?_)
    · replace gf3 := (gf3.resolve_left c2)
      refine m_iconst C dX12_saved_22 ?_
      refine m_istore_n (lv2 := [(3, .int (iI 0)), (0, .ref h0), (1, .int (iI x1)), (2, .int (iI y1))]) C dX12_saved_23 (by decide) rfl ?_
      refine m_iconst C dX12_saved_24 ?_
      refine m_istore (lv2 := [(4, .int (iI 0)), (3, .int (iI 0)), (0, .ref h0), (1, .int (iI x1)), (2, .int (iI y1))]) C dX12_saved_25 (by decide) rfl ?_
      have Lp1 : ∀ (nn : Nat) (s1 k : Int) (vb1 : Nat → Int) (ab1 : Nat → Nat → Int), 3 - k < (nn : Int) → BX vb1 ab1 → fr [0, 1, 23, 25, 28] [20, 21, 22, 24, 26, 27] v a vb1 ab1 → (-2147483648 ≤ s1 ∧ s1 ≤ 2147483647) → (0 ≤ k ∧ k ≤ 2) → mw p l e (rmq 66 0 0) s m args below meth c G A 8 (MQ below (Qm G A (fun rq Lq Eq => ∃ (vq : Nat → Int) (aq : Nat → Nat → Int), mI G h0 ad ln vq aq Lq Eq ∧ (fun r v2 a2 => ∃ f : Int, r = some (.int (iI f)) ∧ fr [0, 1, 23, 25, 28] [20, 21, 22, 24, 26, 27] v a v2 a2 ∧ BX v2 a2 ∧ (True)) rq vq aq)) args s 0 0 A) h0 ad ln vb1 ab1 0 0 27 [(4, .int (iI k)), (3, .int (iI s1)), (0, .ref h0), (1, .int (iI x1)), (2, .int (iI y1))] [] := by
        intro nn
        induction nn with
        | zero =>
          intro s1 k vb1 ab1 hm bxb1 fpb1 hs hk
          exact absurd hm (by omega)
        | succ nn ih1 =>
          intro s1 k vb1 ab1 hm bxb1 fpb1 hs hk
          refine m_iload (j := 0) C dX12_saved_27 rfl ?_
          refine m_iconst C dX12_saved_29 ?_
          refine m_icmp_ge (tgt := 161) C (r32_c (lo := 0) (hi := 2) hk.1 hk.2 (by decide) (by decide)) ⟨by decide, by decide⟩ dX12_saved_30 (by decide) (fun c3 => ?_) (fun c3 => ?_)
          · refine m_aload_n (j := 2) C dX12_saved_161 rfl ?_
            refine m_iload_n (j := 1) C dX12_saved_162 rfl ?_
            refine m_call (mc2 := 0) (ms2 := 0) (As := [.int (iI s1)]) (rest := []) C (B_fine (x := s1) bxb1 (by show -2147483648 ≤ s1 ∧ s1 ≤ 2147483647; omega)) dX12_saved_163 kV_X12_158 rfl ck_13 rfl (Nat.le_of_ble_eq_true rfl) ⟨Nat.le_of_ble_eq_true rfl, Nat.le_of_ble_eq_true rfl⟩ ⟨Nat.le_of_ble_eq_true rfl, Nat.le_of_ble_eq_true rfl⟩ (fun rh4 vh4 ah4 h4 => ?_)
            obtain ⟨f4, rfl, fn4, bn4, ex4⟩ := h4
            refine hv2 (fpb1.call fn4 rfl rfl) (show f4 = s1 from ex4) (fun fq4 gf4 => ?_)
            refine m_st (st2 := [.int (iI f4)]) rfl ?_
            exact m_iret C dX12_saved_166 rfl (Nat.le_of_ble_eq_true rfl) (Nat.le_of_ble_eq_true rfl) ⟨f4, rfl, fq4, bn4, trivial⟩
          · refine m_iconst C dX12_saved_33 ?_
            refine m_istore (lv2 := [(5, .int (iI 0)), (4, .int (iI k)), (3, .int (iI s1)), (0, .ref h0), (1, .int (iI x1)), (2, .int (iI y1))]) C dX12_saved_34 (by decide) rfl ?_
            have Lp2 : ∀ (nn : Nat) (s2 x : Int) (vb2 : Nat → Int) (ab2 : Nat → Nat → Int), 502 - x < (nn : Int) → BX vb2 ab2 → fr [0, 1, 23, 25, 28] [20, 21, 22, 24, 26, 27] v a vb2 ab2 → (-2147483648 ≤ s2 ∧ s2 ≤ 2147483647) → (0 ≤ x ∧ x ≤ 501) → mw p l e (rmq 66 0 0) s m args below meth c G A 8 (MQ below (Qm G A (fun rq Lq Eq => ∃ (vq : Nat → Int) (aq : Nat → Nat → Int), mI G h0 ad ln vq aq Lq Eq ∧ (fun r v2 a2 => ∃ f : Int, r = some (.int (iI f)) ∧ fr [0, 1, 23, 25, 28] [20, 21, 22, 24, 26, 27] v a v2 a2 ∧ BX v2 a2 ∧ (True)) rq vq aq)) args s 0 0 A) h0 ad ln vb2 ab2 0 0 36 [(5, .int (iI x)), (3, .int (iI s2)), (4, .int (iI k)), (0, .ref h0), (1, .int (iI x1)), (2, .int (iI y1))] [] := by
              intro nn
              induction nn with
              | zero =>
                intro s2 x vb2 ab2 hm bxb2 fpb2 hs2 hx
                exact absurd hm (by omega)
              | succ nn ih2 =>
                intro s2 x vb2 ab2 hm bxb2 fpb2 hs2 hx
                refine m_iload (j := 0) C dX12_saved_36 rfl ?_
                refine m_aload_n (j := 3) C dX12_saved_38 rfl ?_
                refine hv2 (show 0 ≤ vb2 30 ∧ vb2 30 ≤ 500 from bxb2.1 30) (show vb2 30 = v 30 from fpb2.1 30 rfl) (fun rv2 ve1 => ?_)
                refine m_get (k := 30) C dX12_saved_39 w6_89 (by decide) rfl ?_
                refine m_st (st2 := [.int (iI (v 30)), .int (iI x)]) (congrArg (fun z => Value.int (iI z) :: [.int (iI x)]) (fpb2.1 30 rfl)) ?_
                refine m_icmp_ge (tgt := 155) C (r32_c (lo := 0) (hi := 501) hx.1 hx.2 (by decide) (by decide)) (r32_c (lo := 0) (hi := 500) (Int.le_trans rv2.1 (Int.le_of_eq ve1)) (Int.le_trans (Int.le_of_eq ve1.symm) rv2.2) (by decide) (by decide)) dX12_saved_42 (by decide) (fun c4 => ?_) (fun c4 => ?_)
                · refine m_iinc (z := k) (j := 2) (lv2 := [(4, .int (iI (k + 1))), (5, .int (iI x)), (3, .int (iI s2)), (0, .ref h0), (1, .int (iI x1)), (2, .int (iI y1))]) C dX12_saved_155 rfl (by decide) rfl ?_
                  refine m_goto (tgt := 27) C dX12_saved_158 (by decide) ?_
                  refine m_lv (lv2 := [(4, .int (iI (k + 1))), (3, .int (iI s2)), (0, .ref h0), (1, .int (iI x1)), (2, .int (iI y1))]) [0, 2, 3, 4, 5] rfl ?_
                  exact ih1  s2 (k + 1) _ _ (by omega) bxb2 fpb2 (by omega) (by omega)
                · refine m_aload_n (j := 3) C dX12_saved_45 rfl ?_
                  refine m_iload (j := 0) C dX12_saved_46 rfl ?_
                  refine m_call (mc2 := 0) (ms2 := 0) (As := [.int (iI x)]) (rest := []) C (M_lineEnd (q := x) bxb2.rg (bxb2.1 30) (by omega)) dX12_saved_48 kV_X12_261 rfl ck_13 rfl (Nat.le_of_ble_eq_true rfl) ⟨Nat.le_of_ble_eq_true rfl, Nat.le_of_ble_eq_true rfl⟩ ⟨Nat.le_of_ble_eq_true rfl, Nat.le_of_ble_eq_true rfl⟩ (fun rh5 vh5 ah5 h5 => ?_)
                  obtain ⟨f5, rfl, hf5, rfl, rfl⟩ := h5
                  have gf5 : x ≤ f5 ∧ (f5 = x ∨ f5 ≤ (vb2 30)) := hf5
                  refine m_st (st2 := [.int (iI f5)]) rfl ?_
                  refine m_istore (lv2 := [(6, .int (iI f5)), (5, .int (iI x)), (3, .int (iI s2)), (4, .int (iI k)), (0, .ref h0), (1, .int (iI x1)), (2, .int (iI y1))]) C dX12_saved_51 (by decide) rfl ?_
                  refine m_aload_n (j := 4) C dX12_saved_53 rfl ?_
                  refine m_aload_n (j := 4) C dX12_saved_54 rfl ?_
                  refine m_geta (k := 29) C dX12_saved_55 w6_88 (by decide) rfl ?_
                  refine m_iload (j := 1) C dX12_saved_58 rfl ?_
                  refine m_ald (k := 29) C dX12_saved_60 rfl rfl (by decide) (by omega) (by show _ < ((_ : Nat) : Int); simp only [mlen]; omega) (by decide) ?_
                  refine hv2 (show (-2147483648) ≤ ab2 29 x.toNat ∧ ab2 29 x.toNat ≤ 2147483647 from bxb2.2 29 (x.toNat)) (show ab2 29 (x.toNat) = a 29 (x.toNat) from congrFun (fpb2.2 29 rfl) (x.toNat)) (fun ra1 ae1 => ?_)
                  refine m_st (st2 := [.int (iI (a 29 x.toNat)), .ref h0]) (congrArg (fun z => Value.int (iI z) :: [.ref h0]) (congrFun (fpb2.2 29 rfl) (x.toNat))) ?_
                  refine m_bipush (z := 94) C dX12_saved_61 (by decide) ?_
                  have J1 : ∀ (y : Int) (vb3 : Nat → Int) (ab3 : Nat → Nat → Int), BX vb3 ab3 → fr [0, 1, 23, 25, 28] [20, 21, 22, 24, 26, 27] v a vb3 ab3 → (y = x ∨ y = x + 1) → mw p l e (rmq 66 0 0) s m args below meth c G A 8 (MQ below (Qm G A (fun rq Lq Eq => ∃ (vq : Nat → Int) (aq : Nat → Nat → Int), mI G h0 ad ln vq aq Lq Eq ∧ (fun r v2 a2 => ∃ f : Int, r = some (.int (iI f)) ∧ fr [0, 1, 23, 25, 28] [20, 21, 22, 24, 26, 27] v a v2 a2 ∧ BX v2 a2 ∧ (True)) rq vq aq)) args s 0 0 A) h0 ad ln vb3 ab3 0 0 75 [(6, .int (iI f5)), (5, .int (iI x)), (3, .int (iI s2)), (4, .int (iI k)), (0, .ref h0), (1, .int (iI x1)), (2, .int (iI y1))] [.int (iI y), .ref h0] := by
                    intro y vb3 ab3 bxb3 fpb3 hy
                    refine m_iload (j := 0) C dX12_saved_75 rfl ?_
                    refine m_call (mc2 := 0) (ms2 := 0) (As := [.int (iI y), .int (iI f5)]) (rest := []) C (M_takeWord (q := y) (u := f5) bxb3 (by show 0 ≤ y ∧ y ≤ 501; omega) (by show 0 ≤ f5 ∧ f5 ≤ 500; omega)) dX12_saved_77 kV_X12_264 rfl ck_13 rfl (Nat.le_of_ble_eq_true rfl) ⟨Nat.le_of_ble_eq_true rfl, Nat.le_of_ble_eq_true rfl⟩ ⟨Nat.le_of_ble_eq_true rfl, Nat.le_of_ble_eq_true rfl⟩ (fun rh6 vh6 ah6 h6 => ?_)
                    obtain ⟨f6, rfl, fn5, bn5, ex5⟩ := h6
                    refine hv3 (fpb3.call fn5 rfl rfl) (show 0 ≤ vh6 23 ∧ vh6 23 ≤ 500 from bn5.1 23) (show (f6 = y ∨ (y ≤ f6 ∧ f6 ≤ f5)) ∧ (vh6 23) ≤ f6 - y from ex5) (fun fq5 rv3 gf6 => ?_)
                    refine m_st (st2 := [.int (iI f6)]) rfl ?_
                    refine m_istore (lv2 := [(7, .int (iI f6)), (6, .int (iI f5)), (5, .int (iI x)), (3, .int (iI s2)), (4, .int (iI k)), (0, .ref h0), (1, .int (iI x1)), (2, .int (iI y1))]) C dX12_saved_80 (by decide) rfl ?_
                    have Lp3 : ∀ (nn : Nat) (s3 w1 : Int) (vb4 : Nat → Int) (ab4 : Nat → Nat → Int), 1005 - 2 * w1 + min 1 (vb4 23) < (nn : Int) → BX vb4 ab4 → fr [0, 1, 23, 25, 28] [20, 21, 22, 24, 26, 27] v a vb4 ab4 → (-2147483648 ≤ s3 ∧ s3 ≤ 2147483647) → (0 ≤ w1 ∧ w1 ≤ 501) → (0 ≤ vb4 23 ∧ vb4 23 ≤ 500) → mw p l e (rmq 66 0 0) s m args below meth c G A 8 (MQ below (Qm G A (fun rq Lq Eq => ∃ (vq : Nat → Int) (aq : Nat → Nat → Int), mI G h0 ad ln vq aq Lq Eq ∧ (fun r v2 a2 => ∃ f : Int, r = some (.int (iI f)) ∧ fr [0, 1, 23, 25, 28] [20, 21, 22, 24, 26, 27] v a v2 a2 ∧ BX v2 a2 ∧ (True)) rq vq aq)) args s 0 0 A) h0 ad ln vb4 ab4 0 0 82 [(7, .int (iI w1)), (3, .int (iI s3)), (6, .int (iI f5)), (5, .int (iI x)), (4, .int (iI k)), (0, .ref h0), (1, .int (iI x1)), (2, .int (iI y1))] [] := by
                      intro nn
                      induction nn with
                      | zero =>
                        intro s3 w1 vb4 ab4 hm bxb4 fpb4 hs3 hw h23
                        exact absurd hm (by omega)
                      | succ nn ih3 =>
                        intro s3 w1 vb4 ab4 hm bxb4 fpb4 hs3 hw h23
                        refine m_aload_n (j := 5) C dX12_saved_82 rfl ?_
                        have rv4 : 0 ≤ vb4 23 ∧ vb4 23 ≤ 500 := bxb4.1 23
                        refine m_get (k := 23) C dX12_saved_83 w6_82 (by decide) rfl ?_
                        refine m_if_le (tgt := 146) C (r32_c (lo := 0) (hi := 500) rv4.1 rv4.2 (by decide) (by decide)) dX12_saved_86 (by decide) (fun c5 => ?_) (fun c5 => ?_)
                        · refine m_iload (j := 2) C dX12_saved_146 rfl ?_
                          refine m_iconst C dX12_saved_148 ?_
                          refine m_iadd C dX12_saved_149 ?_
                          refine m_istore (lv2 := [(5, .int (iI (f5 + 1))), (7, .int (iI w1)), (3, .int (iI s3)), (6, .int (iI f5)), (4, .int (iI k)), (0, .ref h0), (1, .int (iI x1)), (2, .int (iI y1))]) C dX12_saved_150 (by decide) rfl ?_
                          refine m_goto (tgt := 36) C dX12_saved_152 (by decide) ?_
                          refine m_lv (lv2 := [(5, .int (iI (f5 + 1))), (3, .int (iI s3)), (4, .int (iI k)), (0, .ref h0), (1, .int (iI x1)), (2, .int (iI y1))]) [0, 2, 4, 5, 6, 7] rfl ?_
                          exact ih2  s3 (f5 + 1) _ _ (by omega) bxb4 fpb4 (by omega) (by omega)
                        · refine m_aload_n (j := 5) C dX12_saved_89 rfl ?_
                          refine m_iload (j := 4) C dX12_saved_90 rfl ?_
                          have J2 : ∀ (z1 : Int) (vb5 : Nat → Int) (ab5 : Nat → Nat → Int), BX vb5 ab5 → fr [0, 1, 23, 25, 28] [20, 21, 22, 24, 26, 27] v a vb5 ab5 → (0 ≤ z1 ∧ z1 < v 4) → mw p l e (rmq 66 0 0) s m args below meth c G A 8 (MQ below (Qm G A (fun rq Lq Eq => ∃ (vq : Nat → Int) (aq : Nat → Nat → Int), mI G h0 ad ln vq aq Lq Eq ∧ (fun r v2 a2 => ∃ f : Int, r = some (.int (iI f)) ∧ fr [0, 1, 23, 25, 28] [20, 21, 22, 24, 26, 27] v a v2 a2 ∧ BX v2 a2 ∧ (True)) rq vq aq)) args s 0 0 A) h0 ad ln vb5 ab5 0 0 100 [(7, .int (iI w1)), (3, .int (iI s3)), (6, .int (iI f5)), (5, .int (iI x)), (4, .int (iI k)), (0, .ref h0), (1, .int (iI x1)), (2, .int (iI y1))] [.int (iI z1), .ref h0] := by
                            intro z1 vb5 ab5 bxb5 fpb5 hz1
                            refine hv2 (show 0 ≤ vb5 4 ∧ vb5 4 ≤ 30 from bxb5.1 4) (show vb5 4 = v 4 from fpb5.1 4 rfl) (fun rv5 ve2 => ?_)
                            refine m_call (mc2 := 0) (ms2 := 0) (As := [.int (iI z1)]) (rest := []) C (M_setWord (t := z1) bxb5 (hT.fr fpb5 rfl rfl) (by show 0 ≤ z1 ∧ z1 < (vb5 4); omega)) dX12_saved_100 kV_X12_267 rfl ck_13 rfl (Nat.le_of_ble_eq_true rfl) ⟨Nat.le_of_ble_eq_true rfl, Nat.le_of_ble_eq_true rfl⟩ ⟨Nat.le_of_ble_eq_true rfl, Nat.le_of_ble_eq_true rfl⟩ (fun rh7 vh7 ah7 h7 => ?_)
                            obtain ⟨f7, rfl, fn6, bn6, ex6⟩ := h7
                            refine hv3 (fpb5.call fn6 rfl rfl) (show 0 ≤ vh7 25 ∧ vh7 25 ≤ 208 from bn6.1 25) (show f7 = 0 ∨ (f7 = 1 ∧ (vh7 25) ≤ 200) from ex6) (fun fq6 rv6 gf7 => ?_)
                            refine m_st (st2 := [.int (iI f7)]) rfl ?_
                            refine m_if_ne (tgt := 113) C (r32_0p gf7) dX12_saved_103 (by decide) (fun c6 => ?_) (fun c6 => ?_)
                            · replace gf7 := (gf7.resolve_left c6)
                              refine m_iload_n (j := 1) C dX12_saved_113 rfl ?_
                              refine m_iload (j := 4) C dX12_saved_114 rfl ?_
                              refine m_if_ne (tgt := 126) C (r32_c (lo := 0) (hi := 2) hk.1 hk.2 (by decide) (by decide)) dX12_saved_116 (by decide) (fun c7 => ?_) (fun c7 => ?_)
                              · refine m_aload_n (j := 5) C dX12_saved_126 rfl ?_
                                refine m_get (k := 25) C dX12_saved_127 w6_84 (by decide) rfl ?_
                                refine m_ineg C dX12_saved_130 ?_
                                refine m_iadd C dX12_saved_131 ?_
                                obtain ⟨zz1, hzz1, ezz1⟩ := iI_of (iI (s3 + (-(vh7 25))))
                                refine m_st (st2 := [.int (iI zz1)]) (by rw [ezz1]) ?_
                                refine m_istore_n (lv2 := [(3, .int (iI zz1)), (7, .int (iI w1)), (6, .int (iI f5)), (5, .int (iI x)), (4, .int (iI k)), (0, .ref h0), (1, .int (iI x1)), (2, .int (iI y1))]) C dX12_saved_132 (by decide) rfl ?_
                                refine m_aload_n (j := 5) C dX12_saved_133 rfl ?_
                                refine m_iload (j := 1) C dX12_saved_134 rfl ?_
                                refine m_iload (j := 2) C dX12_saved_136 rfl ?_
                                refine m_call (mc2 := 0) (ms2 := 0) (As := [.int (iI w1), .int (iI f5)]) (rest := []) C (M_takeWord (q := w1) (u := f5) bn6 (by show 0 ≤ w1 ∧ w1 ≤ 501; omega) (by show 0 ≤ f5 ∧ f5 ≤ 500; omega)) dX12_saved_138 kV_X12_264 rfl ck_13 rfl (Nat.le_of_ble_eq_true rfl) ⟨Nat.le_of_ble_eq_true rfl, Nat.le_of_ble_eq_true rfl⟩ ⟨Nat.le_of_ble_eq_true rfl, Nat.le_of_ble_eq_true rfl⟩ (fun rh8 vh8 ah8 h8 => ?_)
                                obtain ⟨f8, rfl, fn7, bn7, ex7⟩ := h8
                                refine hv3 (fq6.call fn7 rfl rfl) (show 0 ≤ vh8 23 ∧ vh8 23 ≤ 500 from bn7.1 23) (show (f8 = w1 ∨ (w1 ≤ f8 ∧ f8 ≤ f5)) ∧ (vh8 23) ≤ f8 - w1 from ex7) (fun fq7 rv7 gf8 => ?_)
                                refine m_st (st2 := [.int (iI f8)]) rfl ?_
                                refine m_istore (lv2 := [(7, .int (iI f8)), (3, .int (iI zz1)), (6, .int (iI f5)), (5, .int (iI x)), (4, .int (iI k)), (0, .ref h0), (1, .int (iI x1)), (2, .int (iI y1))]) C dX12_saved_141 (by decide) rfl ?_
                                refine m_goto (tgt := 82) C dX12_saved_143 (by decide) ?_
                                refine m_lv (lv2 := [(7, .int (iI f8)), (3, .int (iI zz1)), (6, .int (iI f5)), (5, .int (iI x)), (4, .int (iI k)), (0, .ref h0), (1, .int (iI x1)), (2, .int (iI y1))]) [0, 1, 2, 3, 4, 5, 6, 7] rfl ?_
                                exact ih3  zz1 f8 _ _ (by omega) bn7 fq7 (by omega) (by omega) (by show 0 ≤ (vh8 23) ∧ (vh8 23) ≤ 500; omega)
                              · refine m_aload_n (j := 5) C dX12_saved_119 rfl ?_
                                refine m_get (k := 25) C dX12_saved_120 w6_84 (by decide) rfl ?_
                                refine m_goto (tgt := 131) C dX12_saved_123 (by decide) ?_
                                refine m_iadd C dX12_saved_131 ?_
                                obtain ⟨zz2, hzz2, ezz2⟩ := iI_of (iI (s3 + (vh7 25)))
                                refine m_st (st2 := [.int (iI zz2)]) (by rw [ezz2]) ?_
                                refine m_istore_n (lv2 := [(3, .int (iI zz2)), (7, .int (iI w1)), (6, .int (iI f5)), (5, .int (iI x)), (4, .int (iI k)), (0, .ref h0), (1, .int (iI x1)), (2, .int (iI y1))]) C dX12_saved_132 (by decide) rfl ?_
                                refine m_aload_n (j := 5) C dX12_saved_133 rfl ?_
                                refine m_iload (j := 1) C dX12_saved_134 rfl ?_
                                refine m_iload (j := 2) C dX12_saved_136 rfl ?_
                                refine m_call (mc2 := 0) (ms2 := 0) (As := [.int (iI w1), .int (iI f5)]) (rest := []) C (M_takeWord (q := w1) (u := f5) bn6 (by show 0 ≤ w1 ∧ w1 ≤ 501; omega) (by show 0 ≤ f5 ∧ f5 ≤ 500; omega)) dX12_saved_138 kV_X12_264 rfl ck_13 rfl (Nat.le_of_ble_eq_true rfl) ⟨Nat.le_of_ble_eq_true rfl, Nat.le_of_ble_eq_true rfl⟩ ⟨Nat.le_of_ble_eq_true rfl, Nat.le_of_ble_eq_true rfl⟩ (fun rh9 vh9 ah9 h9 => ?_)
                                obtain ⟨f9, rfl, fn8, bn8, ex8⟩ := h9
                                refine hv3 (fq6.call fn8 rfl rfl) (show 0 ≤ vh9 23 ∧ vh9 23 ≤ 500 from bn8.1 23) (show (f9 = w1 ∨ (w1 ≤ f9 ∧ f9 ≤ f5)) ∧ (vh9 23) ≤ f9 - w1 from ex8) (fun fq8 rv8 gf9 => ?_)
                                refine m_st (st2 := [.int (iI f9)]) rfl ?_
                                refine m_istore (lv2 := [(7, .int (iI f9)), (3, .int (iI zz2)), (6, .int (iI f5)), (5, .int (iI x)), (4, .int (iI k)), (0, .ref h0), (1, .int (iI x1)), (2, .int (iI y1))]) C dX12_saved_141 (by decide) rfl ?_
                                refine m_goto (tgt := 82) C dX12_saved_143 (by decide) ?_
                                refine m_lv (lv2 := [(7, .int (iI f9)), (3, .int (iI zz2)), (6, .int (iI f5)), (5, .int (iI x)), (4, .int (iI k)), (0, .ref h0), (1, .int (iI x1)), (2, .int (iI y1))]) [0, 1, 2, 3, 4, 5, 6, 7] rfl ?_
                                exact ih3  zz2 f9 _ _ (by omega) bn8 fq8 (by omega) (by omega) (by show 0 ≤ (vh9 23) ∧ (vh9 23) ≤ 500; omega)
                            · clear gf7
                              refine m_aload_n (j := 5) C dX12_saved_106 rfl ?_
                              refine m_call (mc2 := 0) (ms2 := 0) (As := []) (rest := []) C (B_notSet  bn6 ) dX12_saved_107 kV_X12_270 rfl ck_13 rfl (Nat.le_of_ble_eq_true rfl) ⟨Nat.le_of_ble_eq_true rfl, Nat.le_of_ble_eq_true rfl⟩ ⟨Nat.le_of_ble_eq_true rfl, Nat.le_of_ble_eq_true rfl⟩ (fun rh10 vh10 ah10 h10 => ?_)
                              obtain ⟨f10, rfl, fn9, bn9, ex9⟩ := h10
                              refine hv2 (fq6.call fn9 rfl rfl) (show f10 = -1 from ex9) (fun fq9 gf10 => ?_)
                              refine m_st (st2 := [.int (iI f10)]) rfl ?_
                              refine m_iconst C dX12_saved_110 ?_
                              refine m_iadd C dX12_saved_111 ?_
                              exact m_iret C dX12_saved_112 rfl (Nat.le_of_ble_eq_true rfl) (Nat.le_of_ble_eq_true rfl) ⟨(f10 + 1), rfl, fq9, bn9, trivial⟩
                          refine m_if_ne (tgt := 99) C (r32_c (lo := 0) (hi := 2) hk.1 hk.2 (by decide) (by decide)) dX12_saved_92 (by decide) (fun c8 => ?_) (fun c8 => ?_)
                          · refine m_iload_n (j := 7) C dX12_saved_99 rfl ?_
                            refine m_lv (lv2 := [(7, .int (iI w1)), (3, .int (iI s3)), (6, .int (iI f5)), (5, .int (iI x)), (4, .int (iI k)), (0, .ref h0), (1, .int (iI x1)), (2, .int (iI y1))]) [0, 1, 2, 3, 4, 5, 6, 7] rfl ?_
                            exact J2  y1 _ _  bxb4 fpb4 (by omega)
                          · refine m_iload_n (j := 6) C dX12_saved_95 rfl ?_
                            refine m_goto (tgt := 100) C dX12_saved_96 (by decide) ?_
                            refine m_lv (lv2 := [(7, .int (iI w1)), (3, .int (iI s3)), (6, .int (iI f5)), (5, .int (iI x)), (4, .int (iI k)), (0, .ref h0), (1, .int (iI x1)), (2, .int (iI y1))]) [0, 1, 2, 3, 4, 5, 6, 7] rfl ?_
                            exact J2  x1 _ _  bxb4 fpb4 (by omega)
                    refine m_lv (lv2 := [(7, .int (iI f6)), (3, .int (iI s2)), (6, .int (iI f5)), (5, .int (iI x)), (4, .int (iI k)), (0, .ref h0), (1, .int (iI x1)), (2, .int (iI y1))]) [0, 3, 1, 2, 4, 5, 6, 7] rfl ?_
                    exact Lp3 1010 s2 f6 _ _ (by omega) bn5 fq5 (by omega) (by omega) (by show 0 ≤ (vh6 23) ∧ (vh6 23) ≤ 500; omega)
                  refine m_icmp_ne (tgt := 73) C ⟨by omega, by omega⟩ ⟨by decide, by decide⟩ dX12_saved_63 (by decide) (fun c9 => ?_) (fun c9 => ?_)
                  · refine m_iload (j := 1) C dX12_saved_73 rfl ?_
                    refine m_lv (lv2 := [(6, .int (iI f5)), (5, .int (iI x)), (3, .int (iI s2)), (4, .int (iI k)), (0, .ref h0), (1, .int (iI x1)), (2, .int (iI y1))]) [0, 1, 2, 3, 4, 5, 6] rfl ?_
                    exact J1  x _ _  bxb2 fpb2 (by omega)
                  · refine m_iload (j := 1) C dX12_saved_66 rfl ?_
                    refine m_iconst C dX12_saved_68 ?_
                    refine m_iadd C dX12_saved_69 ?_
                    refine m_goto (tgt := 75) C dX12_saved_70 (by decide) ?_
                    refine m_lv (lv2 := [(6, .int (iI f5)), (5, .int (iI x)), (3, .int (iI s2)), (4, .int (iI k)), (0, .ref h0), (1, .int (iI x1)), (2, .int (iI y1))]) [0, 1, 2, 3, 4, 5, 6] rfl ?_
                    exact J1  (x + 1) _ _  bxb2 fpb2 (by omega)
            refine m_lv (lv2 := [(5, .int (iI 0)), (3, .int (iI s1)), (4, .int (iI k)), (0, .ref h0), (1, .int (iI x1)), (2, .int (iI y1))]) [0, 2, 1, 3, 4, 5] rfl ?_
            exact Lp2 503 s1 0 _ _ (by omega) bxb1 fpb1 (by omega) (by omega)
      refine m_lv (lv2 := [(4, .int (iI 0)), (3, .int (iI 0)), (0, .ref h0), (1, .int (iI x1)), (2, .int (iI y1))]) [0, 1, 2, 3, 4] rfl ?_
      exact Lp1 4 0 0 _ _ (by omega) hB fp0 (by omega) (by omega)
    · clear gf3
      refine m_aload_n (j := 0) C dX12_saved_16 rfl ?_
      refine m_iconst C dX12_saved_17 ?_
      refine m_call (mc2 := 0) (ms2 := 0) (As := [.int (iI 3)]) (rest := []) C (B_bad (x := 3) hB (by show -2147483648 ≤ (3 : Int) ∧ (3 : Int) ≤ 2147483647; omega)) dX12_saved_18 kV_X12_154 rfl ck_13 rfl (Nat.le_of_ble_eq_true rfl) ⟨Nat.le_of_ble_eq_true rfl, Nat.le_of_ble_eq_true rfl⟩ ⟨Nat.le_of_ble_eq_true rfl, Nat.le_of_ble_eq_true rfl⟩ (fun rh11 vh11 ah11 h11 => ?_)
      obtain ⟨f11, rfl, fn10, bn10, ex10⟩ := h11
      refine hv2 (fp0.call fn10 rfl rfl) (show f11 = -1 from ex10) (fun fq10 gf11 => ?_)
      refine m_st (st2 := [.int (iI f11)]) rfl ?_
      exact m_iret C dX12_saved_21 rfl (Nat.le_of_ble_eq_true rfl) (Nat.le_of_ble_eq_true rfl) ⟨f11, rfl, fq10, bn10, trivial⟩
set_option maxHeartbeats 4000000 in
set_option maxRecDepth 100000 in
theorem M_isUnreadable {l : Launch} {G : GT} {h0 : Nat} {ad ln : Nat → Nat} {v : Nat → Int} {a : Nat → Nat → Int}  {t : Int} (hB : BX v a) (hT : TBL v a) (hW : RWS a) (ht : 0 ≤ t ∧ t < v 4) : Mm l G yX12_isUnreadable cX12_isUnreadable 3 (some .boolean) 66 [.int (iI t)] h0 ad ln v a 0 0 (fun r v2 a2 => ∃ f : Int, r = some (.int (iI f)) ∧ fr [25, 28, 50, 52, 53] [20, 24, 26, 27, 48, 49, 51] v a v2 a2 ∧ BX v2 a2 ∧ (f = 0 ∨ f = 1)) := by
  refine Mm.mk (by decide) (Nat.le_of_ble_eq_true rfl) ?_
  intro p e s m args below meth c A C
  refine hv3 (show 0 ≤ v 4 ∧ v 4 ≤ 30 from hB.1 4) (show 0 ≤ v 23 ∧ v 23 ≤ 500 from hB.1 23) (show fr [25, 28, 50, 52, 53] [20, 24, 26, 27, 48, 49, 51] v a v a from fr.refl) (fun h30 r23 fp0 => ?_)
  refine m_aload_n (j := 0) C dX12_isUnreadable_0 rfl ?_
  refine m_iload_n (j := 1) C dX12_isUnreadable_1 rfl ?_
  have rv1 : 0 ≤ v 4 ∧ v 4 ≤ 30 := hB.1 4
  refine m_call (mc2 := 0) (ms2 := 0) (As := [.int (iI t)]) (rest := []) C (M_setWord (t := t) hB (hT.fr fp0 rfl rfl) (by show 0 ≤ t ∧ t < (v 4); omega)) dX12_isUnreadable_2 kV_X12_267 rfl ck_13 rfl (Nat.le_of_ble_eq_true rfl) ⟨Nat.le_of_ble_eq_true rfl, Nat.le_of_ble_eq_true rfl⟩ ⟨Nat.le_of_ble_eq_true rfl, Nat.le_of_ble_eq_true rfl⟩ (fun rh1 vh1 ah1 h1 => ?_)
  obtain ⟨f1, rfl, fn1, bn1, ex1⟩ := h1
  refine hv3 (fp0.call fn1 rfl rfl) (show 0 ≤ vh1 25 ∧ vh1 25 ≤ 208 from bn1.1 25) (show f1 = 0 ∨ (f1 = 1 ∧ (vh1 25) ≤ 200) from ex1) (fun fq1 rv2 gf1 => ?_)
  refine m_st (st2 := [.int (iI f1)]) rfl ?_
  refine m_if_ne (tgt := 10) C (r32_0p gf1) dX12_isUnreadable_5 (by decide) (fun c1 => ?_) (fun c1 => ?_)
  · replace gf1 := (gf1.resolve_left c1)
    refine m_aload_n (j := 0) C dX12_isUnreadable_10 rfl ?_
    refine m_iconst C dX12_isUnreadable_11 ?_
    refine m_put (k := 50) (z := 0) C dX12_isUnreadable_12 w6_109 (by decide) rfl rfl rfl ?_
    refine hv2 (show BX (va_up vh1 50 0) ah1 from bn1.put (k := 50) (z := 0) ⟨by decide, by decide⟩) (fq1.put (k := 50) (z := 0) rfl) (fun bq1 fq2 => ?_)
    refine m_iconst C dX12_isUnreadable_15 ?_
    refine m_istore_n (lv2 := [(2, .int (iI 0)), (0, .ref h0), (1, .int (iI t))]) C dX12_isUnreadable_16 (by decide) rfl ?_
    have Lp1 : ∀ (nn : Nat) (k : Int) (vb1 : Nat → Int) (ab1 : Nat → Nat → Int), 201 - k < (nn : Int) → BX vb1 ab1 → fr [25, 28, 50, 52, 53] [20, 24, 26, 27, 48, 49, 51] v a vb1 ab1 → (0 ≤ k ∧ k ≤ 200) → (vb1 50 = k) → (vb1 25 ≤ 200) → mw p l e (rmq 66 0 0) s m args below meth c G A 3 (MQ below (Qm G A (fun rq Lq Eq => ∃ (vq : Nat → Int) (aq : Nat → Nat → Int), mI G h0 ad ln vq aq Lq Eq ∧ (fun r v2 a2 => ∃ f : Int, r = some (.int (iI f)) ∧ fr [25, 28, 50, 52, 53] [20, 24, 26, 27, 48, 49, 51] v a v2 a2 ∧ BX v2 a2 ∧ (f = 0 ∨ f = 1)) rq vq aq)) args s 0 0 A) h0 ad ln vb1 ab1 0 0 17 [(2, .int (iI k)), (0, .ref h0), (1, .int (iI t))] [] := by
      intro nn
      induction nn with
      | zero =>
        intro k vb1 ab1 hm bxb1 fpb1 hk h50 h25
        exact absurd hm (by omega)
      | succ nn ih1 =>
        intro k vb1 ab1 hm bxb1 fpb1 hk h50 h25
        refine m_iload_n (j := 0) C dX12_isUnreadable_17 rfl ?_
        refine m_aload_n (j := 1) C dX12_isUnreadable_18 rfl ?_
        have rv3 : 0 ≤ vb1 25 ∧ vb1 25 ≤ 208 := bxb1.1 25
        refine m_get (k := 25) C dX12_isUnreadable_19 w6_84 (by decide) rfl ?_
        refine m_icmp_ge (tgt := 42) C (r32_c (lo := 0) (hi := 200) hk.1 hk.2 (by decide) (by decide)) (r32_c (lo := 0) (hi := 208) rv3.1 rv3.2 (by decide) (by decide)) dX12_isUnreadable_22 (by decide) (fun c2 => ?_) (fun c2 => ?_)
        · refine m_aload_n (j := 1) C dX12_isUnreadable_42 rfl ?_
          refine m_call (mc2 := 0) (ms2 := 0) (As := []) (rest := []) C (M_readAll  bxb1 (RWS.fr hW fpb1 rfl)) dX12_isUnreadable_43 kV_X12_357 rfl ck_13 rfl (Nat.le_of_ble_eq_true rfl) ⟨Nat.le_of_ble_eq_true rfl, Nat.le_of_ble_eq_true rfl⟩ ⟨Nat.le_of_ble_eq_true rfl, Nat.le_of_ble_eq_true rfl⟩ (fun rh2 vh2 ah2 h2 => ?_)
          obtain ⟨f2, rfl, fn2, bn2, ex2⟩ := h2
          refine hv2 (fpb1.call fn2 rfl rfl) (show f2 = 0 ∨ f2 = 6 ∨ f2 = 9 from ex2) (fun fq3 gf2 => ?_)
          refine m_st (st2 := [.int (iI f2)]) rfl ?_
          refine m_if_ne (tgt := 60) C ⟨by omega, by omega⟩ dX12_isUnreadable_46 (by decide) (fun c3 => ?_) (fun c3 => ?_)
          · replace gf2 := (gf2.resolve_left c3)
            refine m_iconst C dX12_isUnreadable_60 ?_
            exact m_zret C dX12_isUnreadable_61 rfl (Or.inr rfl) (Nat.le_of_ble_eq_true rfl) (Nat.le_of_ble_eq_true rfl) ⟨1, rfl, fq3, bn2, (by omega)⟩
          · clear gf2
            refine m_aload_n (j := 1) C dX12_isUnreadable_49 rfl ?_
            have rv4 : 0 ≤ vh2 52 ∧ vh2 52 ≤ 4000 := bn2.1 52
            refine m_get (k := 52) C dX12_isUnreadable_50 w6_111 (by decide) rfl ?_
            refine m_aload_n (j := 1) C dX12_isUnreadable_53 rfl ?_
            refine hv3 (show 0 ≤ vh2 23 ∧ vh2 23 ≤ 500 from bn2.1 23) (show vh2 23 = vb1 23 from fn2.1 23 rfl) (show vb1 23 = v 23 from fpb1.1 23 rfl) (fun rv5 ve1 ve2 => ?_)
            refine m_get (k := 23) C dX12_isUnreadable_54 w6_82 (by decide) rfl ?_
            refine m_st (st2 := [.int (iI (v 23)), .int (iI (vh2 52))]) (congrArg (fun z => Value.int (iI z) :: [.int (iI (vh2 52))]) (fq3.1 23 rfl)) ?_
            refine m_icmp_eq (tgt := 62) C (r32_c (lo := 0) (hi := 4000) rv4.1 rv4.2 (by decide) (by decide)) (r32_c (lo := 0) (hi := 500) (Int.le_trans (Int.le_trans rv5.1 (Int.le_of_eq ve1)) (Int.le_of_eq ve2)) (Int.le_trans (Int.le_of_eq ve2.symm) (Int.le_trans (Int.le_of_eq ve1.symm) rv5.2)) (by decide) (by decide)) dX12_isUnreadable_57 (by decide) (fun c4 => ?_) (fun c4 => ?_)
            · refine m_iconst C dX12_isUnreadable_62 ?_
              refine m_istore_n (lv2 := [(2, .int (iI 0)), (0, .ref h0), (1, .int (iI t))]) C dX12_isUnreadable_63 (by decide) rfl ?_
              have Lp2 : ∀ (nn : Nat) (k1 : Int) (vb2 : Nat → Int) (ab2 : Nat → Nat → Int), 501 - k1 < (nn : Int) → BX vb2 ab2 → fr [25, 28, 50, 52, 53] [20, 24, 26, 27, 48, 49, 51] v a vb2 ab2 → (0 ≤ k1 ∧ k1 ≤ 500) → (vb2 52 = v 23) → mw p l e (rmq 66 0 0) s m args below meth c G A 3 (MQ below (Qm G A (fun rq Lq Eq => ∃ (vq : Nat → Int) (aq : Nat → Nat → Int), mI G h0 ad ln vq aq Lq Eq ∧ (fun r v2 a2 => ∃ f : Int, r = some (.int (iI f)) ∧ fr [25, 28, 50, 52, 53] [20, 24, 26, 27, 48, 49, 51] v a v2 a2 ∧ BX v2 a2 ∧ (f = 0 ∨ f = 1)) rq vq aq)) args s 0 0 A) h0 ad ln vb2 ab2 0 0 64 [(2, .int (iI k1)), (0, .ref h0), (1, .int (iI t))] [] := by
                intro nn
                induction nn with
                | zero =>
                  intro k1 vb2 ab2 hm bxb2 fpb2 hk1 h52
                  exact absurd hm (by omega)
                | succ nn ih2 =>
                  intro k1 vb2 ab2 hm bxb2 fpb2 hk1 h52
                  refine m_iload_n (j := 0) C dX12_isUnreadable_64 rfl ?_
                  refine m_aload_n (j := 1) C dX12_isUnreadable_65 rfl ?_
                  have rv6 : 0 ≤ vb2 52 ∧ vb2 52 ≤ 4000 := bxb2.1 52
                  refine m_get (k := 52) C dX12_isUnreadable_66 w6_111 (by decide) rfl ?_
                  refine m_icmp_ge (tgt := 95) C (r32_c (lo := 0) (hi := 500) hk1.1 hk1.2 (by decide) (by decide)) (r32_c (lo := 0) (hi := 4000) rv6.1 rv6.2 (by decide) (by decide)) dX12_isUnreadable_69 (by decide) (fun c5 => ?_) (fun c5 => ?_)
                  · refine m_iconst C dX12_isUnreadable_95 ?_
                    exact m_zret C dX12_isUnreadable_96 rfl (Or.inl rfl) (Nat.le_of_ble_eq_true rfl) (Nat.le_of_ble_eq_true rfl) ⟨0, rfl, fpb2, bxb2, (by omega)⟩
                  · refine m_aload_n (j := 1) C dX12_isUnreadable_72 rfl ?_
                    refine m_geta (k := 51) C dX12_isUnreadable_73 w6_110 (by decide) rfl ?_
                    refine m_iload_n (j := 0) C dX12_isUnreadable_76 rfl ?_
                    refine m_ald (k := 51) C dX12_isUnreadable_77 rfl rfl (by decide) hk1.1 (Int.lt_of_le_of_lt hk1.2 (by decide)) (by decide) ?_
                    have ra1 : (-2147483648) ≤ ab2 51 k1.toNat ∧ ab2 51 k1.toNat ≤ 2147483647 := bxb2.2 51 (k1.toNat)
                    refine m_aload_n (j := 1) C dX12_isUnreadable_78 rfl ?_
                    refine m_geta (k := 20) C dX12_isUnreadable_79 w6_79 (by decide) rfl ?_
                    refine m_iload_n (j := 0) C dX12_isUnreadable_82 rfl ?_
                    refine m_ald (k := 20) C dX12_isUnreadable_83 rfl rfl (by decide) hk1.1 (Int.lt_of_le_of_lt hk1.2 (by decide)) (by decide) ?_
                    have ra2 : (-2147483648) ≤ ab2 20 k1.toNat ∧ ab2 20 k1.toNat ≤ 2147483647 := bxb2.2 20 (k1.toNat)
                    refine m_icmp_eq (tgt := 89) C (r32_c (lo := (-2147483648)) (hi := 2147483647) ra1.1 ra1.2 (by decide) (by decide)) (r32_c (lo := (-2147483648)) (hi := 2147483647) ra2.1 ra2.2 (by decide) (by decide)) dX12_isUnreadable_84 (by decide) (fun c6 => ?_) (fun c6 => ?_)
                    · refine m_iinc (z := k1) (j := 0) (lv2 := [(2, .int (iI (k1 + 1))), (0, .ref h0), (1, .int (iI t))]) C dX12_isUnreadable_89 rfl (by decide) rfl ?_
                      refine m_goto (tgt := 64) C dX12_isUnreadable_92 (by decide) ?_
                      refine m_lv (lv2 := [(2, .int (iI (k1 + 1))), (0, .ref h0), (1, .int (iI t))]) [0, 1, 2] rfl ?_
                      exact ih2  (k1 + 1) _ _ (by omega) bxb2 fpb2 (by omega) (by show (vb2 52) = v 23; omega)
                    · refine m_iconst C dX12_isUnreadable_87 ?_
                      exact m_zret C dX12_isUnreadable_88 rfl (Or.inr rfl) (Nat.le_of_ble_eq_true rfl) (Nat.le_of_ble_eq_true rfl) ⟨1, rfl, fpb2, bxb2, (by omega)⟩
              refine m_lv (lv2 := [(2, .int (iI 0)), (0, .ref h0), (1, .int (iI t))]) [0, 1, 2] rfl ?_
              exact Lp2 502 0 _ _ (by omega) bn2 fq3 (by omega) (by show (vh2 52) = v 23; omega)
            · refine m_iconst C dX12_isUnreadable_60 ?_
              exact m_zret C dX12_isUnreadable_61 rfl (Or.inr rfl) (Nat.le_of_ble_eq_true rfl) (Nat.le_of_ble_eq_true rfl) ⟨1, rfl, fq3, bn2, (by omega)⟩
        · refine m_aload_n (j := 1) C dX12_isUnreadable_25 rfl ?_
          refine m_aload_n (j := 1) C dX12_isUnreadable_26 rfl ?_
          refine m_geta (k := 24) C dX12_isUnreadable_27 w6_83 (by decide) rfl ?_
          refine m_iload_n (j := 0) C dX12_isUnreadable_30 rfl ?_
          refine m_ald (k := 24) C dX12_isUnreadable_31 rfl rfl (by decide) hk.1 (Int.lt_of_le_of_lt hk.2 (by decide)) (by decide) ?_
          have ra3 : (-2147483648) ≤ ab1 24 k.toNat ∧ ab1 24 k.toNat ≤ 2147483647 := bxb1.2 24 (k.toNat)
          refine m_iconst C dX12_isUnreadable_32 ?_
          have rv7 : 0 ≤ vb1 50 ∧ vb1 50 ≤ 40200 := bxb1.1 50
          refine m_call (mc2 := 0) (ms2 := 0) (As := [.int (iI (ab1 24 k.toNat)), .int (iI 0)]) (rest := []) C (B_putRow (x := ab1 24 k.toNat) (y := 0) bxb1 (by show -2147483648 ≤ (ab1 24 k.toNat) ∧ (ab1 24 k.toNat) ≤ 2147483647; omega) (by show -2147483648 ≤ (0 : Int) ∧ (0 : Int) ≤ 2147483647; omega) (by show (vb1 50) < 40200; omega)) dX12_isUnreadable_33 kV_X12_351 rfl ck_13 rfl (Nat.le_of_ble_eq_true rfl) ⟨Nat.le_of_ble_eq_true rfl, Nat.le_of_ble_eq_true rfl⟩ ⟨Nat.le_of_ble_eq_true rfl, Nat.le_of_ble_eq_true rfl⟩ (fun rh3 vh3 ah3 h3 => ?_)
          obtain ⟨rfl, fn3, bn3, ex3⟩ := h3
          refine hv3 (fpb1.call fn3 rfl rfl) (show 0 ≤ vh3 50 ∧ vh3 50 ≤ 40200 from bn3.1 50) (show (vh3 50) = (vb1 50) + 1 from ex3) (fun fq4 rv8 gf3 => ?_)
          refine m_st (st2 := []) rfl ?_
          refine m_iinc (z := k) (j := 0) (lv2 := [(2, .int (iI (k + 1))), (0, .ref h0), (1, .int (iI t))]) C dX12_isUnreadable_36 rfl (by decide) rfl ?_
          refine m_goto (tgt := 17) C dX12_isUnreadable_39 (by decide) ?_
          refine hv2 (show 0 ≤ vh3 25 ∧ vh3 25 ≤ 208 from bn3.1 25) (show vh3 25 = vb1 25 from fn3.1 25 rfl) (fun rv9 ve3 => ?_)
          refine m_lv (lv2 := [(2, .int (iI (k + 1))), (0, .ref h0), (1, .int (iI t))]) [0, 1, 2] rfl ?_
          exact ih1  (k + 1) _ _ (by omega) bn3 fq4 (by omega) (by show (vh3 50) = (k + 1); omega) (by show (vh3 25) ≤ 200; omega)
    refine m_lv (lv2 := [(2, .int (iI 0)), (0, .ref h0), (1, .int (iI t))]) [0, 1, 2] rfl ?_
    exact Lp1 202 0 _ _ (by omega) bq1 fq2 (by omega) (by show 0 = 0; omega) (by show (vh1 25) ≤ 200; omega)
  · clear gf1
    refine m_iconst C dX12_isUnreadable_8 ?_
    exact m_zret C dX12_isUnreadable_9 rfl (Or.inl rfl) (Nat.le_of_ble_eq_true rfl) (Nat.le_of_ble_eq_true rfl) ⟨0, rfl, fq1, bn1, (by omega)⟩
end
