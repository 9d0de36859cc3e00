def mmin (x y : Int32) : Int32 := if y < x then y else x
theorem mmin_c {x y : Int} (hx : R32 x) (hy : R32 y) : ∃ w : Int, ((w = x ∧ x ≤ y) ∨ (w = y ∧ y < x)) ∧ mmin (iI x) (iI y) = iI w := by
  unfold mmin
  by_cases h : y < x
  · exact ⟨y, Or.inr ⟨rfl, h⟩, if_pos ((iI_lt hy hx).mpr h)⟩
  · exact ⟨x, Or.inl ⟨rfl, by omega⟩, if_neg (fun q => h ((iI_lt hy hx).mp q))⟩
theorem mmax_c {x y : Int} (hx : R32 x) (hy : R32 y) : ∃ w : Int, ((w = x ∧ y ≤ x) ∨ (w = y ∧ x < y)) ∧ (if iI x < iI y then iI y else iI x) = iI w := by
  by_cases h : x < y
  · exact ⟨y, Or.inr ⟨rfl, h⟩, if_pos ((iI_lt hx hy).mpr h)⟩
  · exact ⟨x, Or.inl ⟨rfl, by omega⟩, if_neg (fun q => h ((iI_lt hx hy).mp q))⟩
theorem m_mmin {p : Program} {l : Launch} {e : Env} {R : Room} {s : State} {m : MethodId} {args : Array Value} {below : List Frame} {meth : Method} {c : Code} {cc : ByteArray} {y : MethodName} {ret : Option FieldType} {G : GT} {A : Nat → Prop} {nL : Nat} {Q : State → Prop} {h0 : Nat} {ad ln : Nat → Nat} {v : Nat → Int} {a : Nat → Nat → Int} {kc ks pc : Nat} {lv : List (Nat × Value)} {st : List Value} (C : Cq p s m args meth c cc y ret G A nL) {idx : Nat} {x y2 w : Int32} (d : decode cc pc = .ok (.invokestatic idx, 3)) (lk : Cond.methodLink y.cls idx Lib.Math.min.name ∈ lw_g) (h1 : Cond.static Lib.Math.min.name ∈ lw_g) (h2 : Cond.initialized "java/lang/Math" ∈ lw_g) (h3 : Cond.code Lib.Math.min.name Lib.Math.min.code 2 (some .int) ∈ lw_g) (hR : 1 ≤ R.frames ∧ 21 ≤ R.locals) (hf : kc ≤ R.cells ∧ ks ≤ R.slots) (hst : (st.map fun v => v.category).sum ≤ 8) (hv : (if y2 < x then y2 else x) = w) (kk : mw p l e R s m args below meth c G A nL Q h0 ad ln v a kc ks (pc + 3) lv (.int w :: st)) : mw p l e R s m args below meth c G A nL Q h0 ad ln v a kc ks pc lv (.int y2 :: .int x :: st) := fun L E h => q_mmin C d lk h1 h2 h3 hR hf hst hv (kk L E h)
theorem m_mmax {p : Program} {l : Launch} {e : Env} {R : Room} {s : State} {m : MethodId} {args : Array Value} {below : List Frame} {meth : Method} {c : Code} {cc : ByteArray} {y : MethodName} {ret : Option FieldType} {G : GT} {A : Nat → Prop} {nL : Nat} {Q : State → Prop} {h0 : Nat} {ad ln : Nat → Nat} {v : Nat → Int} {a : Nat → Nat → Int} {kc ks pc : Nat} {lv : List (Nat × Value)} {st : List Value} (C : Cq p s m args meth c cc y ret G A nL) {idx : Nat} {x y2 w : Int32} (d : decode cc pc = .ok (.invokestatic idx, 3)) (lk : Cond.methodLink y.cls idx Lib.Math.max.name ∈ lw_g) (h1 : Cond.static Lib.Math.max.name ∈ lw_g) (h2 : Cond.initialized "java/lang/Math" ∈ lw_g) (h3 : Cond.code Lib.Math.max.name Lib.Math.max.code 2 (some .int) ∈ lw_g) (hR : 1 ≤ R.frames ∧ 21 ≤ R.locals) (hf : kc ≤ R.cells ∧ ks ≤ R.slots) (hst : (st.map fun v => v.category).sum ≤ 8) (hv : (if x < y2 then y2 else x) = w) (kk : mw p l e R s m args below meth c G A nL Q h0 ad ln v a kc ks (pc + 3) lv (.int w :: st)) : mw p l e R s m args below meth c G A nL Q h0 ad ln v a kc ks pc lv (.int y2 :: .int x :: st) := fun L E h => q_mmax C d lk h1 h2 h3 hR hf hst hv (kk L E h)
set_option maxHeartbeats 4000000 in
set_option maxRecDepth 100000 in
theorem s_isLetter {l : Launch} {G : GT} {L : List Nat} {E : Nat → va_E} (x : Int32) : Mq l G yX12_isLetter cX12_isLetter 1 (some .boolean) 1 [.int x] L E 0 0 (fun v L2 E2 => v = some (.int (inn x 33 125)) ∧ L2 = L ∧ E2 = E) := by
  refine Mq.mk (by decide) (Nat.le_of_ble_eq_true rfl) ?_
  intro p e s m args below meth c A C
  refine q_iload_n (j := 0) C dX12_isLetter_0 rfl ?_
  refine q_bipush (v := 33) C dX12_isLetter_1 (by decide) ?_
  refine q_bipush (v := 125) C dX12_isLetter_3 (by decide) ?_
  refine q_callS (mc2 := 0) (ms2 := 0) (As := [.int x, .int 33, .int 125]) (rest := []) C (s_isIn x 33 125) dX12_isLetter_5 kS_X12_174 rfl rfl (Nat.le_of_ble_eq_true rfl) ⟨Nat.le_of_ble_eq_true rfl, Nat.le_of_ble_eq_true rfl⟩ ⟨Nat.le_of_ble_eq_true rfl, Nat.le_of_ble_eq_true rfl⟩ (fun vh1 Lh1 Eh1 h1 => ?_)
  obtain ⟨rfl, rfl, rfl⟩ := h1
  refine q_st (st2 := [.int (inn x 33 125)]) rfl ?_
  exact q_zret C dX12_isLetter_8 rfl (by unfold inn; split <;> rfl) (Nat.le_of_ble_eq_true rfl) (Nat.le_of_ble_eq_true rfl) ⟨rfl, rfl, rfl⟩
set_option maxHeartbeats 4000000 in
set_option maxRecDepth 100000 in
theorem M_centre {l : Launch} {G : GT} {h0 : Nat} {ad ln : Nat → Nat} {v : Nat → Int} {a : Nat → Nat → Int}  {q : Int} (hB : BX v a) (hq : 0 ≤ q ∧ q ≤ 200) : Mm l G yX12_centre cX12_centre 5 none 0 [.int (iI q)] h0 ad ln v a 0 0 (fun r v2 a2 => r = none ∧ fr [] [37, 38] v a v2 a2 ∧ BX v2 a2 ∧ (True)) := by
  refine Mm.mk (by decide) (Nat.le_of_ble_eq_true rfl) ?_
  intro p e s m args below meth c A C
  have fp0 : fr [] [37, 38] v a v a := fr.refl
  refine m_iload_n (j := 1) C dX12_centre_0 rfl ?_
  refine m_istore_n (lv2 := [(2, .int (iI q)), (0, .ref h0), (1, .int (iI q))]) C dX12_centre_1 (by decide) rfl ?_
  have Lp1 : ∀ (nn : Nat) (x : Int) (vb1 : Nat → Int) (ab1 : Nat → Nat → Int), 201 - x < (nn : Int) → BX vb1 ab1 → fr [] [37, 38] v a vb1 ab1 → (0 ≤ x ∧ x ≤ 200) → mw p l e (rmq 0 0 0) s m args below meth c G A 5 (MQ below (Qm G A (fun rq Lq Eq => ∃ (vq : Nat → Int) (aq : Nat → Nat → Int), mI G h0 ad ln vq aq Lq Eq ∧ (fun r v2 a2 => r = none ∧ fr [] [37, 38] v a v2 a2 ∧ BX v2 a2 ∧ (True)) rq vq aq)) args s 0 0 A) h0 ad ln vb1 ab1 0 0 2 [(2, .int (iI x)), (0, .ref h0), (1, .int (iI q))] [] := by
    intro nn
    induction nn with
    | zero =>
      intro x vb1 ab1 hm bxb1 fpb1 hx
      exact absurd hm (by omega)
    | succ nn ih1 =>
      intro x vb1 ab1 hm bxb1 fpb1 hx
      refine m_iload_n (j := 0) C dX12_centre_2 rfl ?_
      refine m_aload_n (j := 1) C dX12_centre_3 rfl ?_
      have rv1 : 0 ≤ vb1 39 ∧ vb1 39 ≤ 200 := bxb1.1 39
      have ve1 : vb1 39 = v 39 := fpb1.1 39 rfl
      refine m_get (k := 39) C dX12_centre_4 w6_98 (by decide) rfl ?_
      refine m_st (st2 := [.int (iI (v 39)), .int (iI x)]) (congrArg (fun z => Value.int (iI z) :: [.int (iI x)]) (fpb1.1 39 rfl)) ?_
      refine m_icmp_ge (tgt := 144) C ⟨by omega, by omega⟩ ⟨by omega, by omega⟩ dX12_centre_7 (by decide) (fun c1 => ?_) (fun c1 => ?_)
      · exact m_vret C dX12_centre_144 rfl (Nat.le_of_ble_eq_true rfl) (Nat.le_of_ble_eq_true rfl) ⟨rfl, fpb1, bxb1, trivial⟩
      · refine m_aload_n (j := 1) C dX12_centre_10 rfl ?_
        refine m_geta (k := 37) C dX12_centre_11 w6_96 (by decide) rfl ?_
        refine m_iload_n (j := 0) C dX12_centre_14 rfl ?_
        refine m_ald (k := 37) C dX12_centre_15 rfl rfl (by decide) (by omega) (by show _ < ((_ : Nat) : Int); simp only [mlen]; omega) (by decide) ?_
        have ra1 : 0 ≤ ab1 37 x.toNat ∧ ab1 37 x.toNat ≤ 200 := bxb1.2 37 (x.toNat)
        have J1 : ∀ (y : Int) (vb2 : Nat → Int) (ab2 : Nat → Nat → Int), BX vb2 ab2 → fr [] [37, 38] v a vb2 ab2 → (0 ≤ y ∧ ab2 37 x.toNat + y ≤ 200) → mw p l e (rmq 0 0 0) s m args below meth c G A 5 (MQ below (Qm G A (fun rq Lq Eq => ∃ (vq : Nat → Int) (aq : Nat → Nat → Int), mI G h0 ad ln vq aq Lq Eq ∧ (fun r v2 a2 => r = none ∧ fr [] [37, 38] v a v2 a2 ∧ BX v2 a2 ∧ (True)) rq vq aq)) args s 0 0 A) h0 ad ln vb2 ab2 0 0 49 [(2, .int (iI x)), (0, .ref h0), (1, .int (iI q))] [.int (iI y)] := by
          intro y vb2 ab2 bxb2 fpb2 hy
          refine m_istore_n (lv2 := [(3, .int (iI y)), (2, .int (iI x)), (0, .ref h0), (1, .int (iI q))]) C dX12_centre_49 (by decide) rfl ?_
          refine m_aload_n (j := 2) C dX12_centre_50 rfl ?_
          refine m_geta (k := 37) C dX12_centre_51 w6_96 (by decide) rfl ?_
          refine m_iload_n (j := 1) C dX12_centre_54 rfl ?_
          refine m_ald (k := 37) C dX12_centre_55 rfl rfl (by decide) (by omega) (by show _ < ((_ : Nat) : Int); simp only [mlen]; omega) (by decide) ?_
          have ra2 : 0 ≤ ab2 37 x.toNat ∧ ab2 37 x.toNat ≤ 200 := bxb2.2 37 (x.toNat)
          refine m_iconst C dX12_centre_56 ?_
          refine m_isub C dX12_centre_57 ?_
          refine m_istore (lv2 := [(4, .int (iI ((ab2 37 x.toNat) - 1))), (3, .int (iI y)), (2, .int (iI x)), (0, .ref h0), (1, .int (iI q))]) C dX12_centre_58 (by decide) rfl ?_
          have Lp2 : ∀ (nn : Nat) (k : Int) (vb3 : Nat → Int) (ab3 : Nat → Nat → Int), k + 1 < (nn : Int) → BX vb3 ab3 → fr [] [37, 38] v a vb3 ab3 → (-1 ≤ k ∧ k < ab3 37 x.toNat ∧ ab3 37 x.toNat + y ≤ 200) → mw p l e (rmq 0 0 0) s m args below meth c G A 5 (MQ below (Qm G A (fun rq Lq Eq => ∃ (vq : Nat → Int) (aq : Nat → Nat → Int), mI G h0 ad ln vq aq Lq Eq ∧ (fun r v2 a2 => r = none ∧ fr [] [37, 38] v a v2 a2 ∧ BX v2 a2 ∧ (True)) rq vq aq)) args s 0 0 A) h0 ad ln vb3 ab3 0 0 60 [(4, .int (iI k)), (3, .int (iI y)), (2, .int (iI x)), (0, .ref h0), (1, .int (iI q))] [] := by
            intro nn
            induction nn with
            | zero =>
              intro k vb3 ab3 hm bxb3 fpb3 hk
              exact absurd hm (by omega)
            | succ nn ih2 =>
              intro k vb3 ab3 hm bxb3 fpb3 hk
              refine m_iload (j := 0) C dX12_centre_60 rfl ?_
              refine m_if_lt (tgt := 99) C ⟨by omega, by omega⟩ dX12_centre_62 (by decide) (fun c2 => ?_) (fun c2 => ?_)
              · refine m_iconst C dX12_centre_99 ?_
                refine m_istore (lv2 := [(4, .int (iI 0)), (3, .int (iI y)), (2, .int (iI x)), (0, .ref h0), (1, .int (iI q))]) C dX12_centre_100 (by decide) rfl ?_
                have Lp3 : ∀ (nn : Nat) (k1 : Int) (vb4 : Nat → Int) (ab4 : Nat → Nat → Int), 201 - k1 < (nn : Int) → BX vb4 ab4 → fr [] [37, 38] v a vb4 ab4 → (0 ≤ k1 ∧ k1 ≤ 200 ∧ ab4 37 x.toNat + y ≤ 200) → mw p l e (rmq 0 0 0) s m args below meth c G A 5 (MQ below (Qm G A (fun rq Lq Eq => ∃ (vq : Nat → Int) (aq : Nat → Nat → Int), mI G h0 ad ln vq aq Lq Eq ∧ (fun r v2 a2 => r = none ∧ fr [] [37, 38] v a v2 a2 ∧ BX v2 a2 ∧ (True)) rq vq aq)) args s 0 0 A) h0 ad ln vb4 ab4 0 0 102 [(4, .int (iI k1)), (3, .int (iI y)), (2, .int (iI x)), (0, .ref h0), (1, .int (iI q))] [] := by
                  intro nn
                  induction nn with
                  | zero =>
                    intro k1 vb4 ab4 hm bxb4 fpb4 hk1
                    exact absurd hm (by omega)
                  | succ nn ih3 =>
                    intro k1 vb4 ab4 hm bxb4 fpb4 hk1
                    refine m_iload (j := 0) C dX12_centre_102 rfl ?_
                    refine m_iload_n (j := 1) C dX12_centre_104 rfl ?_
                    refine m_icmp_ge (tgt := 128) C ⟨by omega, by omega⟩ ⟨by omega, by omega⟩ dX12_centre_105 (by decide) (fun c3 => ?_) (fun c3 => ?_)
                    · refine m_aload_n (j := 3) C dX12_centre_128 rfl ?_
                      refine m_geta (k := 37) C dX12_centre_129 w6_96 (by decide) rfl ?_
                      refine m_iload_n (j := 2) C dX12_centre_132 rfl ?_
                      refine m_dup2 C dX12_centre_133 rfl rfl ?_
                      refine m_ald (k := 37) C dX12_centre_134 rfl rfl (by decide) (by omega) (by show _ < ((_ : Nat) : Int); simp only [mlen]; omega) (by decide) ?_
                      have ra3 : 0 ≤ ab4 37 x.toNat ∧ ab4 37 x.toNat ≤ 200 := bxb4.2 37 (x.toNat)
                      refine m_iload_n (j := 1) C dX12_centre_135 rfl ?_
                      refine m_iadd C dX12_centre_136 ?_
                      refine m_ast (k := 37) C dX12_centre_137 rfl rfl (by decide) (by omega) (by show _ < ((_ : Nat) : Int); simp only [mlen]; omega) (by decide) ?_
                      have bq1 : BX vb4 (up2 ab4 37 x.toNat ((ab4 37 x.toNat) + y)) := bxb4.set (k := 37) (i := x.toNat) (z := (ab4 37 x.toNat) + y) (show 0 ≤ ((ab4 37 x.toNat) + y) ∧ ((ab4 37 x.toNat) + y) ≤ 200 by omega)
                      have fq1 := fpb4.set (k := 37) (i := x.toNat) (z := (ab4 37 x.toNat) + y) rfl
                      refine m_iinc (z := x) (j := 2) (lv2 := [(2, .int (iI (x + 1))), (4, .int (iI k1)), (3, .int (iI y)), (0, .ref h0), (1, .int (iI q))]) C dX12_centre_138 rfl (by decide) rfl ?_
                      refine m_goto (tgt := 2) C dX12_centre_141 (by decide) ?_
                      refine m_lv (lv2 := [(2, .int (iI (x + 1))), (0, .ref h0), (1, .int (iI q))]) [0, 3, 4] rfl ?_
                      exact ih1  (x + 1) _ _ (by omega) bq1 fq1 (by omega)
                    · refine m_aload_n (j := 3) C dX12_centre_108 rfl ?_
                      refine m_geta (k := 38) C dX12_centre_109 w6_97 (by decide) rfl ?_
                      refine m_sipush (z := 200) C dX12_centre_112 (by decide) ?_
                      refine m_iload_n (j := 2) C dX12_centre_115 rfl ?_
                      refine m_imul C dX12_centre_116 ?_
                      refine m_iload (j := 0) C dX12_centre_117 rfl ?_
                      refine m_iadd C dX12_centre_119 ?_
                      refine m_iconst C dX12_centre_120 ?_
                      refine m_ast (k := 38) C dX12_centre_121 rfl rfl (by decide) (by omega) (by show _ < ((_ : Nat) : Int); simp only [mlen]; omega) (by decide) ?_
                      have bq2 : BX vb4 (up2 ab4 38 ((200 * x) + k1).toNat 0) := bxb4.set (k := 38) (i := ((200 * x) + k1).toNat) (z := 0) ⟨by decide, by decide⟩
                      have fq2 := fpb4.set (k := 38) (i := ((200 * x) + k1).toNat) (z := 0) rfl
                      refine m_iinc (z := k1) (j := 0) (lv2 := [(4, .int (iI (k1 + 1))), (3, .int (iI y)), (2, .int (iI x)), (0, .ref h0), (1, .int (iI q))]) C dX12_centre_122 rfl (by decide) rfl ?_
                      refine m_goto (tgt := 102) C dX12_centre_125 (by decide) ?_
                      have ra4 : 0 ≤ ab4 37 x.toNat ∧ ab4 37 x.toNat ≤ 200 := bq2.2 37 (x.toNat)
                      refine m_lv (lv2 := [(4, .int (iI (k1 + 1))), (3, .int (iI y)), (2, .int (iI x)), (0, .ref h0), (1, .int (iI q))]) [0, 1, 2, 3, 4] rfl ?_
                      exact ih3  (k1 + 1) _ _ (by omega) bq2 fq2 (by show 0 ≤ (k1 + 1) ∧ (k1 + 1) ≤ 200 ∧ (ab4 37 x.toNat) + y ≤ 200; omega)
                have ra5 : 0 ≤ ab3 37 x.toNat ∧ ab3 37 x.toNat ≤ 200 := bxb3.2 37 (x.toNat)
                refine m_lv (lv2 := [(4, .int (iI 0)), (3, .int (iI y)), (2, .int (iI x)), (0, .ref h0), (1, .int (iI q))]) [0, 1, 2, 3, 4] rfl ?_
                exact Lp3 202 0 _ _ (by omega) bxb3 fpb3 (by show 0 ≤ 0 ∧ 0 ≤ 200 ∧ (ab3 37 x.toNat) + y ≤ 200; omega)
              · refine m_aload_n (j := 3) C dX12_centre_65 rfl ?_
                refine m_geta (k := 38) C dX12_centre_66 w6_97 (by decide) rfl ?_
                refine m_sipush (z := 200) C dX12_centre_69 (by decide) ?_
                refine m_iload_n (j := 2) C dX12_centre_72 rfl ?_
                refine m_imul C dX12_centre_73 ?_
                refine m_iload (j := 0) C dX12_centre_74 rfl ?_
                refine m_iadd C dX12_centre_76 ?_
                refine m_iload_n (j := 1) C dX12_centre_77 rfl ?_
                refine m_iadd C dX12_centre_78 ?_
                refine m_aload_n (j := 3) C dX12_centre_79 rfl ?_
                refine m_geta (k := 38) C dX12_centre_80 w6_97 (by decide) rfl ?_
                refine m_sipush (z := 200) C dX12_centre_83 (by decide) ?_
                refine m_iload_n (j := 2) C dX12_centre_86 rfl ?_
                refine m_imul C dX12_centre_87 ?_
                refine m_iload (j := 0) C dX12_centre_88 rfl ?_
                refine m_iadd C dX12_centre_90 ?_
                refine m_ald (k := 38) C dX12_centre_91 rfl rfl (by decide) (by omega) (by show _ < ((_ : Nat) : Int); simp only [mlen]; omega) (by decide) ?_
                have ra6 : (-2147483648) ≤ ab3 38 ((200 * x) + k).toNat ∧ ab3 38 ((200 * x) + k).toNat ≤ 2147483647 := bxb3.2 38 (((200 * x) + k).toNat)
                refine m_ast (k := 38) C dX12_centre_92 rfl rfl (by decide) (by omega) (by show _ < ((_ : Nat) : Int); simp only [mlen]; omega) (by decide) ?_
                have bq3 : BX vb3 (up2 ab3 38 (((200 * x) + k) + y).toNat (ab3 38 ((200 * x) + k).toNat)) := bxb3.set (k := 38) (i := (((200 * x) + k) + y).toNat) (z := ab3 38 ((200 * x) + k).toNat) (show (-2147483648) ≤ (ab3 38 ((200 * x) + k).toNat) ∧ (ab3 38 ((200 * x) + k).toNat) ≤ 2147483647 by omega)
                have fq3 := fpb3.set (k := 38) (i := (((200 * x) + k) + y).toNat) (z := ab3 38 ((200 * x) + k).toNat) rfl
                refine m_iinc (z := k) (j := 0) (lv2 := [(4, .int (iI (k + (-1)))), (3, .int (iI y)), (2, .int (iI x)), (0, .ref h0), (1, .int (iI q))]) C dX12_centre_93 rfl (by decide) rfl ?_
                refine m_goto (tgt := 60) C dX12_centre_96 (by decide) ?_
                have ra7 : 0 ≤ ab3 37 x.toNat ∧ ab3 37 x.toNat ≤ 200 := bq3.2 37 (x.toNat)
                refine m_lv (lv2 := [(4, .int (iI (k + (-1)))), (3, .int (iI y)), (2, .int (iI x)), (0, .ref h0), (1, .int (iI q))]) [0, 1, 2, 3, 4] rfl ?_
                exact ih2  (k + (-1)) _ _ (by omega) bq3 fq3 (by show -1 ≤ (k + (-1)) ∧ (k + (-1)) < (ab3 37 x.toNat) ∧ (ab3 37 x.toNat) + y ≤ 200; omega)
          refine m_lv (lv2 := [(4, .int (iI ((ab2 37 x.toNat) - 1))), (3, .int (iI y)), (2, .int (iI x)), (0, .ref h0), (1, .int (iI q))]) [0, 1, 2, 3, 4] rfl ?_
          exact Lp2 202 ((ab2 37 x.toNat) - 1) _ _ (by omega) bxb2 fpb2 (by show -1 ≤ ((ab2 37 x.toNat) - 1) ∧ ((ab2 37 x.toNat) - 1) < (ab2 37 x.toNat) ∧ (ab2 37 x.toNat) + y ≤ 200; omega)
        refine m_if_eq (tgt := 32) C ⟨by omega, by omega⟩ dX12_centre_16 (by decide) (fun c4 => ?_) (fun c4 => ?_)
        · refine m_iconst C dX12_centre_32 ?_
          refine m_goto (tgt := 49) C dX12_centre_33 (by decide) ?_
          refine m_lv (lv2 := [(2, .int (iI x)), (0, .ref h0), (1, .int (iI q))]) [0, 1, 2] rfl ?_
          exact J1  0 _ _  bxb1 fpb1 (by show 0 ≤ 0 ∧ (ab1 37 x.toNat) + 0 ≤ 200; omega)
        · refine m_aload_n (j := 1) C dX12_centre_19 rfl ?_
          refine m_geta (k := 37) C dX12_centre_20 w6_96 (by decide) rfl ?_
          refine m_iload_n (j := 0) C dX12_centre_23 rfl ?_
          refine m_ald (k := 37) C dX12_centre_24 rfl rfl (by decide) (by omega) (by show _ < ((_ : Nat) : Int); simp only [mlen]; omega) (by decide) ?_
          refine m_aload_n (j := 1) C dX12_centre_25 rfl ?_
          have rv2 : 1 ≤ vb1 31 ∧ vb1 31 ≤ 100 := bxb1.1 31
          have ve2 : vb1 31 = v 31 := fpb1.1 31 rfl
          refine m_get (k := 31) C dX12_centre_26 w6_90 (by decide) rfl ?_
          refine m_st (st2 := [.int (iI (v 31)), .int (iI (ab1 37 x.toNat))]) (congrArg (fun z => Value.int (iI z) :: [.int (iI (ab1 37 x.toNat))]) (fpb1.1 31 rfl)) ?_
          refine m_icmp_lt (tgt := 36) C ⟨by omega, by omega⟩ ⟨by omega, by omega⟩ dX12_centre_29 (by decide) (fun c5 => ?_) (fun c5 => ?_)
          · refine m_aload_n (j := 1) C dX12_centre_36 rfl ?_
            refine m_get (k := 31) C dX12_centre_37 w6_90 (by decide) rfl ?_
            refine m_st (st2 := [.int (iI (v 31))]) (congrArg (fun z => Value.int (iI z) :: []) (fpb1.1 31 rfl)) ?_
            refine m_aload_n (j := 1) C dX12_centre_40 rfl ?_
            refine m_geta (k := 37) C dX12_centre_41 w6_96 (by decide) rfl ?_
            refine m_iload_n (j := 0) C dX12_centre_44 rfl ?_
            refine m_ald (k := 37) C dX12_centre_45 rfl rfl (by decide) (by omega) (by show _ < ((_ : Nat) : Int); simp only [mlen]; omega) (by decide) ?_
            refine m_isub C dX12_centre_46 ?_
            refine m_iconst C dX12_centre_47 ?_
            obtain ⟨dq1, hdq1⟩ : ∃ q : Int, q = ((v 31) - (ab1 37 x.toNat)) / 2 := ⟨_, rfl⟩
            refine m_idiv (w := iI dq1) C dX12_centre_48 (iI_ne0 ⟨by omega, by omega⟩) (by rw [hdq1]; exact iI_div ⟨by omega, by omega⟩ ⟨by omega, by omega⟩) ?_
            refine m_lv (lv2 := [(2, .int (iI x)), (0, .ref h0), (1, .int (iI q))]) [0, 1, 2] rfl ?_
            exact J1  dq1 _ _  bxb1 fpb1 (by show 0 ≤ dq1 ∧ (ab1 37 x.toNat) + dq1 ≤ 200; omega)
          · refine m_iconst C dX12_centre_32 ?_
            refine m_goto (tgt := 49) C dX12_centre_33 (by decide) ?_
            refine m_lv (lv2 := [(2, .int (iI x)), (0, .ref h0), (1, .int (iI q))]) [0, 1, 2] rfl ?_
            exact J1  0 _ _  bxb1 fpb1 (by show 0 ≤ 0 ∧ (ab1 37 x.toNat) + 0 ≤ 200; omega)
  refine m_lv (lv2 := [(2, .int (iI q)), (0, .ref h0), (1, .int (iI q))]) [0, 1, 2] rfl ?_
  exact Lp1 202 q _ _ (by omega) hB fp0 (by omega)
set_option maxHeartbeats 4000000 in
set_option maxRecDepth 100000 in
theorem M_set {l : Launch} {G : GT} {h0 : Nat} {ad ln : Nat → Nat} {v : Nat → Int} {a : Nat → Nat → Int}  {t : Int} (hB : BX v a) (hT : TBL v a) (ht : -2147483648 ≤ t ∧ t ≤ 2147483647) : Mm l G yX12_set cX12_set 7 (some .int) 66 [.int (iI t)] h0 ad ln v a 0 0 (fun r v2 a2 => ∃ f : Int, r = some (.int (iI f)) ∧ fr [0, 1, 23, 25, 28, 36, 39] [20, 21, 22, 24, 26, 27, 34, 35, 37, 38] v a v2 a2 ∧ BX v2 a2 ∧ (True)) := by
  refine Mm.mk (by decide) (Nat.le_of_ble_eq_true rfl) ?_
  intro p e s m args below meth c A C
  have h30 : 0 ≤ v 4 ∧ v 4 ≤ 30 := hB.1 4
  have fp0 : fr [0, 1, 23, 25, 28, 36, 39] [20, 21, 22, 24, 26, 27, 34, 35, 37, 38] v a v a := fr.refl
  refine m_aload_n (j := 0) C dX12_set_0 rfl ?_
  refine m_iload_n (j := 1) C dX12_set_1 rfl ?_
  have rv1 : 0 ≤ v 4 ∧ v 4 ≤ 30 := hB.1 4
  refine m_call (mc2 := 0) (ms2 := 0) (As := [.int (iI t)]) (rest := []) C (M_isWhole (t := t) hB (hT.fr fp0 rfl rfl) (by show -2147483648 ≤ t ∧ t ≤ 2147483647; omega)) dX12_set_2 kV_X12_171 rfl ck_13 rfl (Nat.le_of_ble_eq_true rfl) ⟨Nat.le_of_ble_eq_true rfl, Nat.le_of_ble_eq_true rfl⟩ ⟨Nat.le_of_ble_eq_true rfl, Nat.le_of_ble_eq_true rfl⟩ (fun rh1 vh1 ah1 h1 => ?_)
  obtain ⟨f1, rfl, fn1, bn1, ex1⟩ := h1
  obtain ⟨rfl, rfl⟩ := fn1.eq
  have gf1 : f1 = 0 ∨ (f1 = 1 ∧ 0 ≤ t ∧ t < (v 4)) := ex1
  refine m_st (st2 := [.int (iI f1)]) rfl ?_
  refine m_if_ne (tgt := 14) C ⟨by omega, by omega⟩ dX12_set_5 (by decide) (fun c1 => ?_) (fun c1 => ?_)
  · refine m_aload_n (j := 0) C dX12_set_14 rfl ?_
    refine m_iconst C dX12_set_15 ?_
    refine m_put (k := 39) (z := 0) C dX12_set_16 w6_98 (by decide) rfl rfl rfl ?_
    have bq1 : BX (va_up v 39 0) a := hB.put (k := 39) (z := 0) ⟨by decide, by decide⟩
    have fq2 := fp0.put (k := 39) (z := 0) rfl
    refine m_iconst C dX12_set_19 ?_
    refine m_istore_n (lv2 := [(2, .int (iI 0)), (0, .ref h0), (1, .int (iI t))]) C dX12_set_20 (by decide) rfl ?_
    have Lp1 : ∀ (nn : Nat) (x : Int) (vb1 : Nat → Int) (ab1 : Nat → Nat → Int), 502 - x < (nn : Int) → BX vb1 ab1 → fr [0, 1, 23, 25, 28, 36, 39] [20, 21, 22, 24, 26, 27, 34, 35, 37, 38] v a vb1 ab1 → (0 ≤ x ∧ x ≤ 501) → mw p l e (rmq 66 0 0) s m args below meth c G A 7 (MQ below (Qm G A (fun rq Lq Eq => ∃ (vq : Nat → Int) (aq : Nat → Nat → Int), mI G h0 ad ln vq aq Lq Eq ∧ (fun r v2 a2 => ∃ f : Int, r = some (.int (iI f)) ∧ fr [0, 1, 23, 25, 28, 36, 39] [20, 21, 22, 24, 26, 27, 34, 35, 37, 38] v a v2 a2 ∧ BX v2 a2 ∧ (True)) rq vq aq)) args s 0 0 A) h0 ad ln vb1 ab1 0 0 21 [(2, .int (iI x)), (0, .ref h0), (1, .int (iI t))] [] := by
      intro nn
      induction nn with
      | zero =>
        intro x vb1 ab1 hm bxb1 fpb1 hx
        exact absurd hm (by omega)
      | succ nn ih1 =>
        intro x vb1 ab1 hm bxb1 fpb1 hx
        refine m_iload_n (j := 0) C dX12_set_21 rfl ?_
        refine m_aload_n (j := 1) C dX12_set_22 rfl ?_
        have rv2 : 0 ≤ vb1 30 ∧ vb1 30 ≤ 500 := bxb1.1 30
        have ve1 : vb1 30 = v 30 := fpb1.1 30 rfl
        refine m_get (k := 30) C dX12_set_23 w6_89 (by decide) rfl ?_
        refine m_st (st2 := [.int (iI (v 30)), .int (iI x)]) (congrArg (fun z => Value.int (iI z) :: [.int (iI x)]) (fpb1.1 30 rfl)) ?_
        refine m_icmp_ge (tgt := 157) C ⟨by omega, by omega⟩ ⟨by omega, by omega⟩ dX12_set_26 (by decide) (fun c2 => ?_) (fun c2 => ?_)
        · refine m_aload_n (j := 1) C dX12_set_157 rfl ?_
          refine m_aload_n (j := 1) C dX12_set_158 rfl ?_
          have rv3 : 0 ≤ vb1 39 ∧ vb1 39 ≤ 200 := bxb1.1 39
          refine m_get (k := 39) C dX12_set_159 w6_98 (by decide) rfl ?_
          refine m_put (k := 36) (z := vb1 39) C dX12_set_162 w6_95 (by decide) rfl rfl rfl ?_
          have bq2 : BX (va_up vb1 36 (vb1 39)) ab1 := bxb1.put (k := 36) (z := vb1 39) (show 0 ≤ (vb1 39) ∧ (vb1 39) ≤ 200 by omega)
          have fq3 := fpb1.put (k := 36) (z := vb1 39) rfl
          refine m_iconst C dX12_set_165 ?_
          refine m_istore_n (lv2 := [(3, .int (iI 0)), (2, .int (iI x)), (0, .ref h0), (1, .int (iI t))]) C dX12_set_166 (by decide) rfl ?_
          have Lp2 : ∀ (nn : Nat) (y : Int) (vb2 : Nat → Int) (ab2 : Nat → Nat → Int), 201 - y < (nn : Int) → BX vb2 ab2 → fr [0, 1, 23, 25, 28, 36, 39] [20, 21, 22, 24, 26, 27, 34, 35, 37, 38] v a vb2 ab2 → (0 ≤ y ∧ y ≤ 200) → mw p l e (rmq 66 0 0) s m args below meth c G A 7 (MQ below (Qm G A (fun rq Lq Eq => ∃ (vq : Nat → Int) (aq : Nat → Nat → Int), mI G h0 ad ln vq aq Lq Eq ∧ (fun r v2 a2 => ∃ f : Int, r = some (.int (iI f)) ∧ fr [0, 1, 23, 25, 28, 36, 39] [20, 21, 22, 24, 26, 27, 34, 35, 37, 38] v a v2 a2 ∧ BX v2 a2 ∧ (True)) rq vq aq)) args s 0 0 A) h0 ad ln vb2 ab2 0 0 167 [(3, .int (iI y)), (2, .int (iI x)), (0, .ref h0), (1, .int (iI t))] [] := by
            intro nn
            induction nn with
            | zero =>
              intro y vb2 ab2 hm bxb2 fpb2 hy
              exact absurd hm (by omega)
            | succ nn ih2 =>
              intro y vb2 ab2 hm bxb2 fpb2 hy
              refine m_iload_n (j := 0) C dX12_set_167 rfl ?_
              refine m_aload_n (j := 2) C dX12_set_168 rfl ?_
              have rv4 : 0 ≤ vb2 36 ∧ vb2 36 ≤ 200 := bxb2.1 36
              refine m_get (k := 36) C dX12_set_169 w6_95 (by decide) rfl ?_
              refine m_icmp_ge (tgt := 239) C ⟨by omega, by omega⟩ ⟨by omega, by omega⟩ dX12_set_172 (by decide) (fun c3 => ?_) (fun c3 => ?_)
              · refine m_aload_n (j := 2) C dX12_set_239 rfl ?_
                refine m_aload_n (j := 2) C dX12_set_240 rfl ?_
                refine m_get (k := 36) C dX12_set_241 w6_95 (by decide) rfl ?_
                refine m_call (mc2 := 0) (ms2 := 0) (As := [.int (iI (vb2 36))]) (rest := []) C (B_fine (x := vb2 36) bxb2 (by show -2147483648 ≤ (vb2 36) ∧ (vb2 36) ≤ 2147483647; omega)) dX12_set_244 kV_X12_158 rfl ck_13 rfl (Nat.le_of_ble_eq_true rfl) ⟨Nat.le_of_ble_eq_true rfl, Nat.le_of_ble_eq_true rfl⟩ ⟨Nat.le_of_ble_eq_true rfl, Nat.le_of_ble_eq_true rfl⟩ (fun rh2 vh2 ah2 h2 => ?_)
                obtain ⟨f2, rfl, fn2, bn2, ex2⟩ := h2
                have fq4 := fpb2.call fn2 rfl rfl
                have gf2 : f2 = (vb2 36) := ex2
                refine m_st (st2 := [.int (iI f2)]) rfl ?_
                exact m_iret C dX12_set_247 rfl (Nat.le_of_ble_eq_true rfl) (Nat.le_of_ble_eq_true rfl) ⟨f2, rfl, fq4, bn2, trivial⟩
              · refine m_aload_n (j := 2) C dX12_set_175 rfl ?_
                refine m_geta (k := 34) C dX12_set_176 w6_93 (by decide) rfl ?_
                refine m_iload_n (j := 0) C dX12_set_179 rfl ?_
                refine m_aload_n (j := 2) C dX12_set_180 rfl ?_
                refine m_geta (k := 37) C dX12_set_181 w6_96 (by decide) rfl ?_
                refine m_iload_n (j := 0) C dX12_set_184 rfl ?_
                refine m_ald (k := 37) C dX12_set_185 rfl rfl (by decide) (by omega) (by show _ < ((_ : Nat) : Int); simp only [mlen]; omega) (by decide) ?_
                have ra1 : 0 ≤ ab2 37 y.toNat ∧ ab2 37 y.toNat ≤ 200 := bxb2.2 37 (y.toNat)
                refine m_ast (k := 34) C dX12_set_186 rfl rfl (by decide) (by omega) (by show _ < ((_ : Nat) : Int); simp only [mlen]; omega) (by decide) ?_
                have bq3 : BX vb2 (up2 ab2 34 y.toNat (ab2 37 y.toNat)) := bxb2.set (k := 34) (i := y.toNat) (z := ab2 37 y.toNat) (show (-1) ≤ (ab2 37 y.toNat) ∧ (ab2 37 y.toNat) ≤ 200 by omega)
                have fq5 := fpb2.set (k := 34) (i := y.toNat) (z := ab2 37 y.toNat) rfl
                refine m_iconst C dX12_set_187 ?_
                refine m_istore (lv2 := [(4, .int (iI 0)), (3, .int (iI y)), (2, .int (iI x)), (0, .ref h0), (1, .int (iI t))]) C dX12_set_188 (by decide) rfl ?_
                have Lp3 : ∀ (nn : Nat) (z : Int) (vb3 : Nat → Int) (ab3 : Nat → Nat → Int), 201 - z < (nn : Int) → BX vb3 ab3 → fr [0, 1, 23, 25, 28, 36, 39] [20, 21, 22, 24, 26, 27, 34, 35, 37, 38] v a vb3 ab3 → (0 ≤ z ∧ z ≤ 200) → mw p l e (rmq 66 0 0) s m args below meth c G A 7 (MQ below (Qm G A (fun rq Lq Eq => ∃ (vq : Nat → Int) (aq : Nat → Nat → Int), mI G h0 ad ln vq aq Lq Eq ∧ (fun r v2 a2 => ∃ f : Int, r = some (.int (iI f)) ∧ fr [0, 1, 23, 25, 28, 36, 39] [20, 21, 22, 24, 26, 27, 34, 35, 37, 38] v a v2 a2 ∧ BX v2 a2 ∧ (True)) rq vq aq)) args s 0 0 A) h0 ad ln vb3 ab3 0 0 190 [(4, .int (iI z)), (3, .int (iI y)), (2, .int (iI x)), (0, .ref h0), (1, .int (iI t))] [] := by
                  intro nn
                  induction nn with
                  | zero =>
                    intro z vb3 ab3 hm bxb3 fpb3 hz
                    exact absurd hm (by omega)
                  | succ nn ih3 =>
                    intro z vb3 ab3 hm bxb3 fpb3 hz
                    refine m_iload (j := 0) C dX12_set_190 rfl ?_
                    refine m_aload_n (j := 3) C dX12_set_192 rfl ?_
                    refine m_geta (k := 37) C dX12_set_193 w6_96 (by decide) rfl ?_
                    refine m_iload_n (j := 1) C dX12_set_196 rfl ?_
                    refine m_ald (k := 37) C dX12_set_197 rfl rfl (by decide) (by omega) (by show _ < ((_ : Nat) : Int); simp only [mlen]; omega) (by decide) ?_
                    have ra2 : 0 ≤ ab3 37 y.toNat ∧ ab3 37 y.toNat ≤ 200 := bxb3.2 37 (y.toNat)
                    refine m_icmp_ge (tgt := 233) C ⟨by omega, by omega⟩ ⟨by omega, by omega⟩ dX12_set_198 (by decide) (fun c4 => ?_) (fun c4 => ?_)
                    · refine m_iinc (z := y) (j := 1) (lv2 := [(3, .int (iI (y + 1))), (4, .int (iI z)), (2, .int (iI x)), (0, .ref h0), (1, .int (iI t))]) C dX12_set_233 rfl (by decide) rfl ?_
                      refine m_goto (tgt := 167) C dX12_set_236 (by decide) ?_
                      refine m_lv (lv2 := [(3, .int (iI (y + 1))), (2, .int (iI x)), (0, .ref h0), (1, .int (iI t))]) [0, 2, 3, 4] rfl ?_
                      exact ih2  (y + 1) _ _ (by omega) bxb3 fpb3 (by omega)
                    · refine m_aload_n (j := 3) C dX12_set_201 rfl ?_
                      refine m_geta (k := 35) C dX12_set_202 w6_94 (by decide) rfl ?_
                      refine m_sipush (z := 200) C dX12_set_205 (by decide) ?_
                      refine m_iload_n (j := 1) C dX12_set_208 rfl ?_
                      refine m_imul C dX12_set_209 ?_
                      refine m_iload (j := 0) C dX12_set_210 rfl ?_
                      refine m_iadd C dX12_set_212 ?_
                      refine m_aload_n (j := 3) C dX12_set_213 rfl ?_
                      refine m_geta (k := 38) C dX12_set_214 w6_97 (by decide) rfl ?_
                      refine m_sipush (z := 200) C dX12_set_217 (by decide) ?_
                      refine m_iload_n (j := 1) C dX12_set_220 rfl ?_
                      refine m_imul C dX12_set_221 ?_
                      refine m_iload (j := 0) C dX12_set_222 rfl ?_
                      refine m_iadd C dX12_set_224 ?_
                      refine m_ald (k := 38) C dX12_set_225 rfl rfl (by decide) (by omega) (by show _ < ((_ : Nat) : Int); simp only [mlen]; omega) (by decide) ?_
                      have ra3 : (-2147483648) ≤ ab3 38 ((200 * y) + z).toNat ∧ ab3 38 ((200 * y) + z).toNat ≤ 2147483647 := bxb3.2 38 (((200 * y) + z).toNat)
                      refine m_ast (k := 35) C dX12_set_226 rfl rfl (by decide) (by omega) (by show _ < ((_ : Nat) : Int); simp only [mlen]; omega) (by decide) ?_
                      have bq4 : BX vb3 (up2 ab3 35 ((200 * y) + z).toNat (ab3 38 ((200 * y) + z).toNat)) := bxb3.set (k := 35) (i := ((200 * y) + z).toNat) (z := ab3 38 ((200 * y) + z).toNat) (show (-2147483648) ≤ (ab3 38 ((200 * y) + z).toNat) ∧ (ab3 38 ((200 * y) + z).toNat) ≤ 2147483647 by omega)
                      have fq6 := fpb3.set (k := 35) (i := ((200 * y) + z).toNat) (z := ab3 38 ((200 * y) + z).toNat) rfl
                      refine m_iinc (z := z) (j := 0) (lv2 := [(4, .int (iI (z + 1))), (3, .int (iI y)), (2, .int (iI x)), (0, .ref h0), (1, .int (iI t))]) C dX12_set_227 rfl (by decide) rfl ?_
                      refine m_goto (tgt := 190) C dX12_set_230 (by decide) ?_
                      refine m_lv (lv2 := [(4, .int (iI (z + 1))), (3, .int (iI y)), (2, .int (iI x)), (0, .ref h0), (1, .int (iI t))]) [0, 1, 2, 3, 4] rfl ?_
                      exact ih3  (z + 1) _ _ (by omega) bq4 fq6 (by omega)
                refine m_lv (lv2 := [(4, .int (iI 0)), (3, .int (iI y)), (2, .int (iI x)), (0, .ref h0), (1, .int (iI t))]) [0, 1, 2, 3, 4] rfl ?_
                exact Lp3 202 0 _ _ (by omega) bq3 fq5 (by omega)
          refine m_lv (lv2 := [(3, .int (iI 0)), (2, .int (iI x)), (0, .ref h0), (1, .int (iI t))]) [0, 1, 2, 3] rfl ?_
          exact Lp2 202 0 _ _ (by omega) bq2 fq3 (by omega)
        · refine m_aload_n (j := 1) C dX12_set_29 rfl ?_
          refine m_iload_n (j := 0) C dX12_set_30 rfl ?_
          refine m_call (mc2 := 0) (ms2 := 0) (As := [.int (iI x)]) (rest := []) C (M_lineEnd (q := x) bxb1.rg (bxb1.1 30) (by omega)) dX12_set_31 kV_X12_261 rfl ck_13 rfl (Nat.le_of_ble_eq_true rfl) ⟨Nat.le_of_ble_eq_true rfl, Nat.le_of_ble_eq_true rfl⟩ ⟨Nat.le_of_ble_eq_true rfl, Nat.le_of_ble_eq_true rfl⟩ (fun rh3 vh3 ah3 h3 => ?_)
          obtain ⟨f3, rfl, hf3, rfl, rfl⟩ := h3
          have gf3 : x ≤ f3 ∧ (f3 = x ∨ f3 ≤ (vb1 30)) := hf3
          refine m_st (st2 := [.int (iI f3)]) rfl ?_
          refine m_istore_n (lv2 := [(3, .int (iI f3)), (2, .int (iI x)), (0, .ref h0), (1, .int (iI t))]) C dX12_set_34 (by decide) rfl ?_
          refine m_aload_n (j := 2) C dX12_set_35 rfl ?_
          refine m_geta (k := 29) C dX12_set_36 w6_88 (by decide) rfl ?_
          refine m_iload_n (j := 1) C dX12_set_39 rfl ?_
          refine m_ald (k := 29) C dX12_set_40 rfl rfl (by decide) (by omega) (by show _ < ((_ : Nat) : Int); simp only [mlen]; omega) (by decide) ?_
          have ra4 : (-2147483648) ≤ ab1 29 x.toNat ∧ ab1 29 x.toNat ≤ 2147483647 := bxb1.2 29 (x.toNat)
          have ae1 : ab1 29 (x.toNat) = a 29 (x.toNat) := congrFun (fpb1.2 29 rfl) (x.toNat)
          refine m_st (st2 := [.int (iI (a 29 x.toNat))]) (congrArg (fun z => Value.int (iI z) :: []) (congrFun (fpb1.2 29 rfl) (x.toNat))) ?_
          refine m_bipush (z := 94) C dX12_set_41 (by decide) ?_
          have J1 : ∀ (g : Int) (vb4 : Nat → Int) (ab4 : Nat → Nat → Int), BX vb4 ab4 → fr [0, 1, 23, 25, 28, 36, 39] [20, 21, 22, 24, 26, 27, 34, 35, 37, 38] v a vb4 ab4 → (g = 0 ∨ g = 1) → mw p l e (rmq 66 0 0) s m args below meth c G A 7 (MQ below (Qm G A (fun rq Lq Eq => ∃ (vq : Nat → Int) (aq : Nat → Nat → Int), mI G h0 ad ln vq aq Lq Eq ∧ (fun r v2 a2 => ∃ f : Int, r = some (.int (iI f)) ∧ fr [0, 1, 23, 25, 28, 36, 39] [20, 21, 22, 24, 26, 27, 34, 35, 37, 38] v a v2 a2 ∧ BX v2 a2 ∧ (True)) rq vq aq)) args s 0 0 A) h0 ad ln vb4 ab4 0 0 51 [(3, .int (iI f3)), (2, .int (iI x)), (0, .ref h0), (1, .int (iI t))] [.int (iI g)] := by
            intro g vb4 ab4 bxb4 fpb4 hg
            refine m_istore (lv2 := [(4, .int (iI g)), (3, .int (iI f3)), (2, .int (iI x)), (0, .ref h0), (1, .int (iI t))]) C dX12_set_51 (by decide) rfl ?_
            refine m_aload_n (j := 3) C dX12_set_53 rfl ?_
            have rv5 : 0 ≤ vb4 39 ∧ vb4 39 ≤ 200 := bxb4.1 39
            refine m_get (k := 39) C dX12_set_54 w6_98 (by decide) rfl ?_
            refine m_istore (lv2 := [(5, .int (iI (vb4 39))), (4, .int (iI g)), (3, .int (iI f3)), (2, .int (iI x)), (0, .ref h0), (1, .int (iI t))]) C dX12_set_57 (by decide) rfl ?_
            refine m_aload_n (j := 4) C dX12_set_59 rfl ?_
            refine m_call (mc2 := 0) (ms2 := 0) (As := []) (rest := []) C (M_newLine  bxb4.rg (bxb4.1 39)) dX12_set_60 kV_X12_257 rfl ck_13 rfl (Nat.le_of_ble_eq_true rfl) ⟨Nat.le_of_ble_eq_true rfl, Nat.le_of_ble_eq_true rfl⟩ ⟨Nat.le_of_ble_eq_true rfl, Nat.le_of_ble_eq_true rfl⟩ (fun rh4 vh4 ah4 h4 => ?_)
            obtain ⟨f4, rfl, fn3, bn3, ex3⟩ := W_newLine bxb4  h4
            have fq7 := fpb4.call fn3 rfl rfl
            have gf4 : (f4 = 1 ∧ vh4 39 = vb4 39 + 1 ∧ ah4 37 (vh4 39 - 1).toNat = 0) ∨ f4 = 0 := ex3
            refine m_st (st2 := [.int (iI f4)]) rfl ?_
            refine m_if_ne (tgt := 73) C ⟨by omega, by omega⟩ dX12_set_63 (by decide) (fun c5 => ?_) (fun c5 => ?_)
            · refine m_aload_n (j := 4) C dX12_set_73 rfl ?_
              refine m_iload (j := 1) C dX12_set_74 rfl ?_
              have J2 : ∀ (y : Int) (vb5 : Nat → Int) (ab5 : Nat → Nat → Int), BX vb5 ab5 → fr [0, 1, 23, 25, 28, 36, 39] [20, 21, 22, 24, 26, 27, 34, 35, 37, 38] v a vb5 ab5 → (y = x ∨ y = x + 1) → (1 ≤ vb5 39) → mw p l e (rmq 66 0 0) s m args below meth c G A 7 (MQ below (Qm G A (fun rq Lq Eq => ∃ (vq : Nat → Int) (aq : Nat → Nat → Int), mI G h0 ad ln vq aq Lq Eq ∧ (fun r v2 a2 => ∃ f : Int, r = some (.int (iI f)) ∧ fr [0, 1, 23, 25, 28, 36, 39] [20, 21, 22, 24, 26, 27, 34, 35, 37, 38] v a v2 a2 ∧ BX v2 a2 ∧ (True)) rq vq aq)) args s 0 0 A) h0 ad ln vb5 ab5 0 0 86 [(5, .int (iI (vb4 39))), (4, .int (iI g)), (3, .int (iI f3)), (2, .int (iI x)), (0, .ref h0), (1, .int (iI t))] [.int (iI y), .ref h0] := by
                intro y vb5 ab5 bxb5 fpb5 hy hn
                refine m_iload_n (j := 2) C dX12_set_86 rfl ?_
                refine m_call (mc2 := 0) (ms2 := 0) (As := [.int (iI y), .int (iI f3)]) (rest := []) C (M_takeWord (q := y) (u := f3) bxb5 (by show 0 ≤ y ∧ y ≤ 501; omega) (by show 0 ≤ f3 ∧ f3 ≤ 500; omega)) dX12_set_87 kV_X12_264 rfl ck_13 rfl (Nat.le_of_ble_eq_true rfl) ⟨Nat.le_of_ble_eq_true rfl, Nat.le_of_ble_eq_true rfl⟩ ⟨Nat.le_of_ble_eq_true rfl, Nat.le_of_ble_eq_true rfl⟩ (fun rh5 vh5 ah5 h5 => ?_)
                obtain ⟨f5, rfl, fn4, bn4, ex4⟩ := h5
                have fq8 := fpb5.call fn4 rfl rfl
                have rv6 : 0 ≤ vh5 23 ∧ vh5 23 ≤ 500 := bn4.1 23
                have gf5 : (f5 = y ∨ (y ≤ f5 ∧ f5 ≤ f3)) ∧ (vh5 23) ≤ f5 - y := ex4
                refine m_st (st2 := [.int (iI f5)]) rfl ?_
                refine m_istore (lv2 := [(6, .int (iI f5)), (5, .int (iI (vb4 39))), (4, .int (iI g)), (3, .int (iI f3)), (2, .int (iI x)), (0, .ref h0), (1, .int (iI t))]) C dX12_set_90 (by decide) rfl ?_
                have Lp4 : ∀ (nn : Nat) (w1 : Int) (vb6 : Nat → Int) (ab6 : Nat → Nat → Int), 1005 - 2 * w1 + min 1 (vb6 23) < (nn : Int) → BX vb6 ab6 → fr [0, 1, 23, 25, 28, 36, 39] [20, 21, 22, 24, 26, 27, 34, 35, 37, 38] v a vb6 ab6 → (0 ≤ w1 ∧ w1 ≤ 501) → (1 ≤ vb6 39) → (0 ≤ vb6 23 ∧ vb6 23 ≤ 500) → mw p l e (rmq 66 0 0) s m args below meth c G A 7 (MQ below (Qm G A (fun rq Lq Eq => ∃ (vq : Nat → Int) (aq : Nat → Nat → Int), mI G h0 ad ln vq aq Lq Eq ∧ (fun r v2 a2 => ∃ f : Int, r = some (.int (iI f)) ∧ fr [0, 1, 23, 25, 28, 36, 39] [20, 21, 22, 24, 26, 27, 34, 35, 37, 38] v a v2 a2 ∧ BX v2 a2 ∧ (True)) rq vq aq)) args s 0 0 A) h0 ad ln vb6 ab6 0 0 92 [(6, .int (iI w1)), (5, .int (iI (vb4 39))), (4, .int (iI g)), (3, .int (iI f3)), (2, .int (iI x)), (0, .ref h0), (1, .int (iI t))] [] := by
                  intro nn
                  induction nn with
                  | zero =>
                    intro w1 vb6 ab6 hm bxb6 fpb6 hw hn2 h23
                    exact absurd hm (by omega)
                  | succ nn ih4 =>
                    intro w1 vb6 ab6 hm bxb6 fpb6 hw hn2 h23
                    refine m_aload_n (j := 5) C dX12_set_92 rfl ?_
                    have rv7 : 0 ≤ vb6 23 ∧ vb6 23 ≤ 500 := bxb6.1 23
                    refine m_get (k := 23) C dX12_set_93 w6_82 (by decide) rfl ?_
                    refine m_if_le (tgt := 139) C ⟨by omega, by omega⟩ dX12_set_96 (by decide) (fun c6 => ?_) (fun c6 => ?_)
                    · refine m_iload (j := 2) C dX12_set_139 rfl ?_
                      refine m_if_eq (tgt := 150) C ⟨by omega, by omega⟩ dX12_set_141 (by decide) (fun c7 => ?_) (fun c7 => ?_)
                      · refine m_iload_n (j := 3) C dX12_set_150 rfl ?_
                        refine m_iconst C dX12_set_151 ?_
                        refine m_iadd C dX12_set_152 ?_
                        refine m_istore_n (lv2 := [(2, .int (iI (f3 + 1))), (6, .int (iI w1)), (5, .int (iI (vb4 39))), (4, .int (iI g)), (3, .int (iI f3)), (0, .ref h0), (1, .int (iI t))]) C dX12_set_153 (by decide) rfl ?_
                        refine m_goto (tgt := 21) C dX12_set_154 (by decide) ?_
                        refine m_lv (lv2 := [(2, .int (iI (f3 + 1))), (0, .ref h0), (1, .int (iI t))]) [0, 5, 6] rfl ?_
                        exact ih1  (f3 + 1) _ _ (by omega) bxb6 fpb6 (by omega)
                      · refine m_aload_n (j := 5) C dX12_set_144 rfl ?_
                        refine m_iload (j := 1) C dX12_set_145 rfl ?_
                        refine m_call (mc2 := 0) (ms2 := 0) (As := [.int (iI (vb4 39))]) (rest := []) C (M_centre (q := vb4 39) bxb6 (by show 0 ≤ (vb4 39) ∧ (vb4 39) ≤ 200; omega)) dX12_set_147 kV_X12_276 rfl ck_13 rfl (Nat.le_of_ble_eq_true rfl) ⟨Nat.le_of_ble_eq_true rfl, Nat.le_of_ble_eq_true rfl⟩ ⟨Nat.le_of_ble_eq_true rfl, Nat.le_of_ble_eq_true rfl⟩ (fun rh6 vh6 ah6 h6 => ?_)
                        obtain ⟨rfl, fn5, bn5, ex5⟩ := h6
                        have fq9 := fpb6.call fn5 rfl rfl
                        refine m_st (st2 := []) rfl ?_
                        refine m_iload_n (j := 3) C dX12_set_150 rfl ?_
                        refine m_iconst C dX12_set_151 ?_
                        refine m_iadd C dX12_set_152 ?_
                        refine m_istore_n (lv2 := [(2, .int (iI (f3 + 1))), (6, .int (iI w1)), (5, .int (iI (vb4 39))), (4, .int (iI g)), (3, .int (iI f3)), (0, .ref h0), (1, .int (iI t))]) C dX12_set_153 (by decide) rfl ?_
                        refine m_goto (tgt := 21) C dX12_set_154 (by decide) ?_
                        refine m_lv (lv2 := [(2, .int (iI (f3 + 1))), (0, .ref h0), (1, .int (iI t))]) [0, 5, 6] rfl ?_
                        exact ih1  (f3 + 1) _ _ (by omega) bn5 fq9 (by omega)
                    · refine m_aload_n (j := 5) C dX12_set_99 rfl ?_
                      refine m_iload_n (j := 6) C dX12_set_100 rfl ?_
                      have rv8 : 0 ≤ vb6 4 ∧ vb6 4 ≤ 30 := bxb6.1 4
                      have ve2 : vb6 4 = v 4 := fpb6.1 4 rfl
                      refine m_call (mc2 := 0) (ms2 := 0) (As := [.int (iI t)]) (rest := []) C (M_setWord (t := t) bxb6 (hT.fr fpb6 rfl rfl) (by show 0 ≤ t ∧ t < (vb6 4); omega)) dX12_set_101 kV_X12_267 rfl ck_13 rfl (Nat.le_of_ble_eq_true rfl) ⟨Nat.le_of_ble_eq_true rfl, Nat.le_of_ble_eq_true rfl⟩ ⟨Nat.le_of_ble_eq_true rfl, Nat.le_of_ble_eq_true rfl⟩ (fun rh7 vh7 ah7 h7 => ?_)
                      obtain ⟨f7, rfl, fn6, bn6, ex6⟩ := h7
                      have fq10 := fpb6.call fn6 rfl rfl
                      have rv9 : 0 ≤ vh7 25 ∧ vh7 25 ≤ 208 := bn6.1 25
                      have gf7 : f7 = 0 ∨ (f7 = 1 ∧ (vh7 25) ≤ 200) := ex6
                      refine m_st (st2 := [.int (iI f7)]) rfl ?_
                      refine m_if_ne (tgt := 112) C ⟨by omega, by omega⟩ dX12_set_104 (by decide) (fun c8 => ?_) (fun c8 => ?_)
                      · refine m_aload_n (j := 5) C dX12_set_112 rfl ?_
                        refine m_iload_n (j := 6) C dX12_set_113 rfl ?_
                        have rv10 : 0 ≤ vh7 39 ∧ vh7 39 ≤ 200 := bn6.1 39
                        have ve3 : vh7 39 = vb6 39 := fn6.1 39 rfl
                        refine m_call (mc2 := 0) (ms2 := 0) (As := [.int (iI t)]) (rest := []) C (M_flow (t := t) bn6 (by show 0 ≤ t ∧ t < 30; omega) (by show 1 ≤ (vh7 39); omega) (by show (vh7 25) ≤ 200; omega)) dX12_set_114 kV_X12_273 rfl ck_13 rfl (Nat.le_of_ble_eq_true rfl) ⟨Nat.le_of_ble_eq_true rfl, Nat.le_of_ble_eq_true rfl⟩ ⟨Nat.le_of_ble_eq_true rfl, Nat.le_of_ble_eq_true rfl⟩ (fun rh8 vh8 ah8 h8 => ?_)
                        obtain ⟨f8, rfl, fn7, bn7, ex7⟩ := h8
                        have fq11 := fq10.call fn7 rfl rfl
                        have rv11 : 0 ≤ vh8 39 ∧ vh8 39 ≤ 200 := bn7.1 39
                        have gf8 : f8 = 0 ∨ (f8 = 1 ∧ 1 ≤ (vh8 39)) := ex7
                        refine m_st (st2 := [.int (iI f8)]) rfl ?_
                        refine m_if_ne (tgt := 127) C ⟨by omega, by omega⟩ dX12_set_117 (by decide) (fun c9 => ?_) (fun c9 => ?_)
                        · refine m_aload_n (j := 5) C dX12_set_127 rfl ?_
                          refine m_iload (j := 0) C dX12_set_128 rfl ?_
                          refine m_iload_n (j := 3) C dX12_set_130 rfl ?_
                          refine m_call (mc2 := 0) (ms2 := 0) (As := [.int (iI w1), .int (iI f3)]) (rest := []) C (M_takeWord (q := w1) (u := f3) bn7 (by show 0 ≤ w1 ∧ w1 ≤ 501; omega) (by show 0 ≤ f3 ∧ f3 ≤ 500; omega)) dX12_set_131 kV_X12_264 rfl ck_13 rfl (Nat.le_of_ble_eq_true rfl) ⟨Nat.le_of_ble_eq_true rfl, Nat.le_of_ble_eq_true rfl⟩ ⟨Nat.le_of_ble_eq_true rfl, Nat.le_of_ble_eq_true rfl⟩ (fun rh9 vh9 ah9 h9 => ?_)
                          obtain ⟨f9, rfl, fn8, bn8, ex8⟩ := h9
                          have fq12 := fq11.call fn8 rfl rfl
                          have rv12 : 0 ≤ vh9 23 ∧ vh9 23 ≤ 500 := bn8.1 23
                          have gf9 : (f9 = w1 ∨ (w1 ≤ f9 ∧ f9 ≤ f3)) ∧ (vh9 23) ≤ f9 - w1 := ex8
                          refine m_st (st2 := [.int (iI f9)]) rfl ?_
                          refine m_istore (lv2 := [(6, .int (iI f9)), (5, .int (iI (vb4 39))), (4, .int (iI g)), (3, .int (iI f3)), (2, .int (iI x)), (0, .ref h0), (1, .int (iI t))]) C dX12_set_134 (by decide) rfl ?_
                          refine m_goto (tgt := 92) C dX12_set_136 (by decide) ?_
                          have rv13 : 0 ≤ vh9 39 ∧ vh9 39 ≤ 200 := bn8.1 39
                          have ve4 : vh9 39 = vh8 39 := fn8.1 39 rfl
                          refine m_lv (lv2 := [(6, .int (iI f9)), (5, .int (iI (vb4 39))), (4, .int (iI g)), (3, .int (iI f3)), (2, .int (iI x)), (0, .ref h0), (1, .int (iI t))]) [0, 1, 2, 3, 4, 5, 6] rfl ?_
                          exact ih4  f9 _ _ (by omega) bn8 fq12 (by omega) (by show 1 ≤ (vh9 39); omega) (by show 0 ≤ (vh9 23) ∧ (vh9 23) ≤ 500; omega)
                        · refine m_aload_n (j := 5) C dX12_set_120 rfl ?_
                          refine m_bipush (z := 6) C dX12_set_121 (by decide) ?_
                          refine m_call (mc2 := 0) (ms2 := 0) (As := [.int (iI 6)]) (rest := []) C (B_bad (x := 6) bn7 (by show -2147483648 ≤ (6 : Int) ∧ (6 : Int) ≤ 2147483647; omega)) dX12_set_123 kV_X12_154 rfl ck_13 rfl (Nat.le_of_ble_eq_true rfl) ⟨Nat.le_of_ble_eq_true rfl, Nat.le_of_ble_eq_true rfl⟩ ⟨Nat.le_of_ble_eq_true rfl, Nat.le_of_ble_eq_true rfl⟩ (fun rh10 vh10 ah10 h10 => ?_)
                          obtain ⟨f10, rfl, fn9, bn9, ex9⟩ := h10
                          have fq13 := fq11.call fn9 rfl rfl
                          have gf10 : f10 = -1 := ex9
                          refine m_st (st2 := [.int (iI f10)]) rfl ?_
                          exact m_iret C dX12_set_126 rfl (Nat.le_of_ble_eq_true rfl) (Nat.le_of_ble_eq_true rfl) ⟨f10, rfl, fq13, bn9, trivial⟩
                      · refine m_aload_n (j := 5) C dX12_set_107 rfl ?_
                        refine m_call (mc2 := 0) (ms2 := 0) (As := []) (rest := []) C (B_notSet  bn6 ) dX12_set_108 kV_X12_270 rfl ck_13 rfl (Nat.le_of_ble_eq_true rfl) ⟨Nat.le_of_ble_eq_true rfl, Nat.le_of_ble_eq_true rfl⟩ ⟨Nat.le_of_ble_eq_true rfl, Nat.le_of_ble_eq_true rfl⟩ (fun rh11 vh11 ah11 h11 => ?_)
                        obtain ⟨f11, rfl, fn10, bn10, ex10⟩ := h11
                        have fq14 := fq10.call fn10 rfl rfl
                        have gf11 : f11 = -1 := ex10
                        refine m_st (st2 := [.int (iI f11)]) rfl ?_
                        exact m_iret C dX12_set_111 rfl (Nat.le_of_ble_eq_true rfl) (Nat.le_of_ble_eq_true rfl) ⟨f11, rfl, fq14, bn10, trivial⟩
                have rv14 : 0 ≤ vh5 39 ∧ vh5 39 ≤ 200 := bn4.1 39
                have ve5 : vh5 39 = vb5 39 := fn4.1 39 rfl
                refine m_lv (lv2 := [(6, .int (iI f5)), (5, .int (iI (vb4 39))), (4, .int (iI g)), (3, .int (iI f3)), (2, .int (iI x)), (0, .ref h0), (1, .int (iI t))]) [0, 1, 2, 3, 4, 5, 6] rfl ?_
                exact Lp4 1010 f5 _ _ (by omega) bn4 fq8 (by omega) (by show 1 ≤ (vh5 39); omega) (by show 0 ≤ (vh5 23) ∧ (vh5 23) ≤ 500; omega)
              refine m_if_eq (tgt := 85) C ⟨by omega, by omega⟩ dX12_set_76 (by decide) (fun c10 => ?_) (fun c10 => ?_)
              · refine m_iload_n (j := 3) C dX12_set_85 rfl ?_
                have rv15 : 0 ≤ vh4 39 ∧ vh4 39 ≤ 200 := bn3.1 39
                refine m_lv (lv2 := [(5, .int (iI (vb4 39))), (4, .int (iI g)), (3, .int (iI f3)), (2, .int (iI x)), (0, .ref h0), (1, .int (iI t))]) [0, 1, 2, 3, 4, 5] rfl ?_
                exact J2  x _ _  bn3 fq7 (by omega) (by show 1 ≤ (vh4 39); omega)
              · refine m_iload_n (j := 3) C dX12_set_79 rfl ?_
                refine m_iconst C dX12_set_80 ?_
                refine m_iadd C dX12_set_81 ?_
                refine m_goto (tgt := 86) C dX12_set_82 (by decide) ?_
                have rv16 : 0 ≤ vh4 39 ∧ vh4 39 ≤ 200 := bn3.1 39
                refine m_lv (lv2 := [(5, .int (iI (vb4 39))), (4, .int (iI g)), (3, .int (iI f3)), (2, .int (iI x)), (0, .ref h0), (1, .int (iI t))]) [0, 1, 2, 3, 4, 5] rfl ?_
                exact J2  (x + 1) _ _  bn3 fq7 (by omega) (by show 1 ≤ (vh4 39); omega)
            · refine m_aload_n (j := 4) C dX12_set_66 rfl ?_
              refine m_bipush (z := 6) C dX12_set_67 (by decide) ?_
              refine m_call (mc2 := 0) (ms2 := 0) (As := [.int (iI 6)]) (rest := []) C (B_bad (x := 6) bn3 (by show -2147483648 ≤ (6 : Int) ∧ (6 : Int) ≤ 2147483647; omega)) dX12_set_69 kV_X12_154 rfl ck_13 rfl (Nat.le_of_ble_eq_true rfl) ⟨Nat.le_of_ble_eq_true rfl, Nat.le_of_ble_eq_true rfl⟩ ⟨Nat.le_of_ble_eq_true rfl, Nat.le_of_ble_eq_true rfl⟩ (fun rh12 vh12 ah12 h12 => ?_)
              obtain ⟨f12, rfl, fn11, bn11, ex11⟩ := h12
              have fq15 := fq7.call fn11 rfl rfl
              have gf12 : f12 = -1 := ex11
              refine m_st (st2 := [.int (iI f12)]) rfl ?_
              exact m_iret C dX12_set_72 rfl (Nat.le_of_ble_eq_true rfl) (Nat.le_of_ble_eq_true rfl) ⟨f12, rfl, fq15, bn11, trivial⟩
          refine m_icmp_ne (tgt := 50) C ⟨by omega, by omega⟩ ⟨by decide, by decide⟩ dX12_set_43 (by decide) (fun c11 => ?_) (fun c11 => ?_)
          · refine m_iconst C dX12_set_50 ?_
            refine m_lv (lv2 := [(3, .int (iI f3)), (2, .int (iI x)), (0, .ref h0), (1, .int (iI t))]) [0, 1, 2, 3] rfl ?_
            exact J1  0 _ _  bxb1 fpb1 (by omega)
          · refine m_iconst C dX12_set_46 ?_
            refine m_goto (tgt := 51) C dX12_set_47 (by decide) ?_
            refine m_lv (lv2 := [(3, .int (iI f3)), (2, .int (iI x)), (0, .ref h0), (1, .int (iI t))]) [0, 1, 2, 3] rfl ?_
            exact J1  1 _ _  bxb1 fpb1 (by omega)
    refine m_lv (lv2 := [(2, .int (iI 0)), (0, .ref h0), (1, .int (iI t))]) [0, 1, 2] rfl ?_
    exact Lp1 503 0 _ _ (by omega) bq1 fq2 (by omega)
  · refine m_aload_n (j := 0) C dX12_set_8 rfl ?_
    refine m_iconst C dX12_set_9 ?_
    refine m_call (mc2 := 0) (ms2 := 0) (As := [.int (iI 3)]) (rest := []) C (B_bad (x := 3) hB (by show -2147483648 ≤ (3 : Int) ∧ (3 : Int) ≤ 2147483647; omega)) dX12_set_10 kV_X12_154 rfl ck_13 rfl (Nat.le_of_ble_eq_true rfl) ⟨Nat.le_of_ble_eq_true rfl, Nat.le_of_ble_eq_true rfl⟩ ⟨Nat.le_of_ble_eq_true rfl, Nat.le_of_ble_eq_true rfl⟩ (fun rh13 vh13 ah13 h13 => ?_)
    obtain ⟨f13, rfl, fn12, bn12, ex12⟩ := h13
    have fq16 := fp0.call fn12 rfl rfl
    have gf13 : f13 = -1 := ex12
    refine m_st (st2 := [.int (iI f13)]) rfl ?_
    exact m_iret C dX12_set_13 rfl (Nat.le_of_ble_eq_true rfl) (Nat.le_of_ble_eq_true rfl) ⟨f13, rfl, fq16, bn12, trivial⟩
set_option maxHeartbeats 4000000 in
set_option maxRecDepth 100000 in
theorem M_head {l : Launch} {G : GT} {h0 : Nat} {ad ln : Nat → Nat} {v : Nat → Int} {a : Nat → Nat → Int}  {t : Int} (hB : BX v a) (hT : TBL v a) (ht : -2147483648 ≤ t ∧ t ≤ 2147483647) : Mm l G yX12_head cX12_head 5 (some .int) 66 [.int (iI t)] h0 ad ln v a 0 0 (fun r v2 a2 => ∃ f : Int, r = some (.int (iI f)) ∧ fr [0, 1, 3, 23, 25, 28, 41] [20, 21, 24, 26, 27, 40] v a v2 a2 ∧ BX v2 a2 ∧ (v2 3 = 0)) := by
  refine Mm.mk (by decide) (Nat.le_of_ble_eq_true rfl) ?_
  intro p e s m args below meth c A C
  have h30 : 0 ≤ v 4 ∧ v 4 ≤ 30 := hB.1 4
  have fp0 : fr [0, 1, 3, 23, 25, 28, 41] [20, 21, 24, 26, 27, 40] v a v a := fr.refl
  refine m_aload_n (j := 0) C dX12_head_0 rfl ?_
  have rv1 : 0 ≤ v 3 ∧ v 3 ≤ 3000 := hB.1 3
  refine m_call (mc2 := 0) (ms2 := 0) (As := []) (rest := []) C (B_taken  hB ) dX12_head_1 kV_X12_192 rfl ck_13 rfl (Nat.le_of_ble_eq_true rfl) ⟨Nat.le_of_ble_eq_true rfl, Nat.le_of_ble_eq_true rfl⟩ ⟨Nat.le_of_ble_eq_true rfl, Nat.le_of_ble_eq_true rfl⟩ (fun rh1 vh1 ah1 h1 => ?_)
  obtain ⟨f1, rfl, fn1, bn1, ex1⟩ := h1
  have fq1 := fp0.call fn1 rfl rfl
  have rv2 : 0 ≤ vh1 3 ∧ vh1 3 ≤ 3000 := bn1.1 3
  have gf1 : f1 = (v 3) ∧ (vh1 3) = 0 := ex1
  refine m_st (st2 := [.int (iI f1)]) rfl ?_
  refine m_istore_n (lv2 := [(2, .int (iI f1)), (0, .ref h0), (1, .int (iI t))]) C dX12_head_4 (by decide) rfl ?_
  refine m_iload_n (j := 0) C dX12_head_5 rfl ?_
  refine m_bipush (z := 40) C dX12_head_6 (by decide) ?_
  have J1 : ∀ (g : Int) (vb1 : Nat → Int) (ab1 : Nat → Nat → Int), BX vb1 ab1 → fr [0, 1, 3, 23, 25, 28, 41] [20, 21, 24, 26, 27, 40] v a vb1 ab1 → (g = 0 ∨ (g = 1 ∧ f1 ≤ 40)) → (vb1 3 = 0) → mw p l e (rmq 66 0 0) s m args below meth c G A 5 (MQ below (Qm G A (fun rq Lq Eq => ∃ (vq : Nat → Int) (aq : Nat → Nat → Int), mI G h0 ad ln vq aq Lq Eq ∧ (fun r v2 a2 => ∃ f : Int, r = some (.int (iI f)) ∧ fr [0, 1, 3, 23, 25, 28, 41] [20, 21, 24, 26, 27, 40] v a v2 a2 ∧ BX v2 a2 ∧ (v2 3 = 0)) rq vq aq)) args s 0 0 A) h0 ad ln vb1 ab1 0 0 16 [(2, .int (iI f1)), (0, .ref h0), (1, .int (iI t))] [.int (iI g)] := by
    intro g vb1 ab1 bxb1 fpb1 hg hz31
    refine m_istore_n (lv2 := [(3, .int (iI g)), (2, .int (iI f1)), (0, .ref h0), (1, .int (iI t))]) C dX12_head_16 (by decide) rfl ?_
    refine m_iconst C dX12_head_17 ?_
    refine m_istore (lv2 := [(4, .int (iI 0)), (3, .int (iI g)), (2, .int (iI f1)), (0, .ref h0), (1, .int (iI t))]) C dX12_head_18 (by decide) rfl ?_
    have Lp1 : ∀ (nn : Nat) (g1 k : Int) (vb2 : Nat → Int) (ab2 : Nat → Nat → Int), 3001 - k < (nn : Int) → BX vb2 ab2 → fr [0, 1, 3, 23, 25, 28, 41] [20, 21, 24, 26, 27, 40] v a vb2 ab2 → (g1 = 0 ∨ (g1 = 1 ∧ f1 ≤ 40)) → (0 ≤ k ∧ k ≤ f1) → (vb2 3 = 0) → mw p l e (rmq 66 0 0) s m args below meth c G A 5 (MQ below (Qm G A (fun rq Lq Eq => ∃ (vq : Nat → Int) (aq : Nat → Nat → Int), mI G h0 ad ln vq aq Lq Eq ∧ (fun r v2 a2 => ∃ f : Int, r = some (.int (iI f)) ∧ fr [0, 1, 3, 23, 25, 28, 41] [20, 21, 24, 26, 27, 40] v a v2 a2 ∧ BX v2 a2 ∧ (v2 3 = 0)) rq vq aq)) args s 0 0 A) h0 ad ln vb2 ab2 0 0 20 [(4, .int (iI k)), (3, .int (iI g1)), (2, .int (iI f1)), (0, .ref h0), (1, .int (iI t))] [] := by
      intro nn
      induction nn with
      | zero =>
        intro g1 k vb2 ab2 hm bxb2 fpb2 hg1 hk hz32
        exact absurd hm (by omega)
      | succ nn ih1 =>
        intro g1 k vb2 ab2 hm bxb2 fpb2 hg1 hk hz32
        refine m_iload (j := 0) C dX12_head_20 rfl ?_
        refine m_iload_n (j := 2) C dX12_head_22 rfl ?_
        refine m_icmp_ge (tgt := 47) C ⟨by omega, by omega⟩ ⟨by omega, by omega⟩ dX12_head_23 (by decide) (fun c1 => ?_) (fun c1 => ?_)
        · refine m_iload_n (j := 1) C dX12_head_47 rfl ?_
          refine m_if_ne (tgt := 58) C ⟨by omega, by omega⟩ dX12_head_48 (by decide) (fun c2 => ?_) (fun c2 => ?_)
          · refine m_aload_n (j := 3) C dX12_head_58 rfl ?_
            refine m_iload_n (j := 4) C dX12_head_59 rfl ?_
            have rv3 : 0 ≤ vb2 4 ∧ vb2 4 ≤ 30 := bxb2.1 4
            have ve1 : vb2 4 = v 4 := fpb2.1 4 rfl
            refine m_call (mc2 := 0) (ms2 := 0) (As := [.int (iI t)]) (rest := []) C (M_isWhole (t := t) bxb2 (hT.fr fpb2 rfl rfl) (by show -2147483648 ≤ t ∧ t ≤ 2147483647; omega)) dX12_head_60 kV_X12_171 rfl ck_13 rfl (Nat.le_of_ble_eq_true rfl) ⟨Nat.le_of_ble_eq_true rfl, Nat.le_of_ble_eq_true rfl⟩ ⟨Nat.le_of_ble_eq_true rfl, Nat.le_of_ble_eq_true rfl⟩ (fun rh2 vh2 ah2 h2 => ?_)
            obtain ⟨f2, rfl, fn2, bn2, ex2⟩ := h2
            obtain ⟨rfl, rfl⟩ := fn2.eq
            have gf2 : f2 = 0 ∨ (f2 = 1 ∧ 0 ≤ t ∧ t < (vb2 4)) := ex2
            refine m_st (st2 := [.int (iI f2)]) rfl ?_
            refine m_if_ne (tgt := 72) C ⟨by omega, by omega⟩ dX12_head_63 (by decide) (fun c3 => ?_) (fun c3 => ?_)
            · refine m_aload_n (j := 3) C dX12_head_72 rfl ?_
              refine m_iload_n (j := 2) C dX12_head_73 rfl ?_
              refine m_put (k := 23) (z := f1) C dX12_head_74 w6_82 (by decide) rfl rfl rfl ?_
              have bq1 : BX (va_up vb2 23 f1) ab2 := bxb2.put (k := 23) (z := f1) (show 0 ≤ f1 ∧ f1 ≤ 500 by omega)
              have fq3 := fpb2.put (k := 23) (z := f1) rfl
              refine m_iconst C dX12_head_77 ?_
              refine m_istore (lv2 := [(4, .int (iI 0)), (3, .int (iI g1)), (2, .int (iI f1)), (0, .ref h0), (1, .int (iI t))]) C dX12_head_78 (by decide) rfl ?_
              have Lp2 : ∀ (nn : Nat) (k1 : Int) (vb3 : Nat → Int) (ab3 : Nat → Nat → Int), 41 - k1 < (nn : Int) → BX vb3 ab3 → fr [0, 1, 3, 23, 25, 28, 41] [20, 21, 24, 26, 27, 40] v a vb3 ab3 → (0 ≤ k1 ∧ k1 ≤ f1) → (vb3 3 = 0) → mw p l e (rmq 66 0 0) s m args below meth c G A 5 (MQ below (Qm G A (fun rq Lq Eq => ∃ (vq : Nat → Int) (aq : Nat → Nat → Int), mI G h0 ad ln vq aq Lq Eq ∧ (fun r v2 a2 => ∃ f : Int, r = some (.int (iI f)) ∧ fr [0, 1, 3, 23, 25, 28, 41] [20, 21, 24, 26, 27, 40] v a v2 a2 ∧ BX v2 a2 ∧ (v2 3 = 0)) rq vq aq)) args s 0 0 A) h0 ad ln vb3 ab3 0 0 80 [(4, .int (iI k1)), (3, .int (iI g1)), (2, .int (iI f1)), (0, .ref h0), (1, .int (iI t))] [] := by
                intro nn
                induction nn with
                | zero =>
                  intro k1 vb3 ab3 hm bxb3 fpb3 hk1 hz33
                  exact absurd hm (by omega)
                | succ nn ih2 =>
                  intro k1 vb3 ab3 hm bxb3 fpb3 hk1 hz33
                  refine m_iload (j := 0) C dX12_head_80 rfl ?_
                  refine m_iload_n (j := 2) C dX12_head_82 rfl ?_
                  refine m_icmp_ge (tgt := 115) C ⟨by omega, by omega⟩ ⟨by omega, by omega⟩ dX12_head_83 (by decide) (fun c4 => ?_) (fun c4 => ?_)
                  · refine m_iload_n (j := 2) C dX12_head_115 rfl ?_
                    have J2 : ∀ (vb4 : Nat → Int) (ab4 : Nat → Nat → Int), BX vb4 ab4 → fr [0, 1, 3, 23, 25, 28, 41] [20, 21, 24, 26, 27, 40] v a vb4 ab4 → (vb4 25 ≤ 200) → (vb4 3 = 0) → mw p l e (rmq 66 0 0) s m args below meth c G A 5 (MQ below (Qm G A (fun rq Lq Eq => ∃ (vq : Nat → Int) (aq : Nat → Nat → Int), mI G h0 ad ln vq aq Lq Eq ∧ (fun r v2 a2 => ∃ f : Int, r = some (.int (iI f)) ∧ fr [0, 1, 3, 23, 25, 28, 41] [20, 21, 24, 26, 27, 40] v a v2 a2 ∧ BX v2 a2 ∧ (v2 3 = 0)) rq vq aq)) args s 0 0 A) h0 ad ln vb4 ab4 0 0 140 [(4, .int (iI k1)), (3, .int (iI g1)), (2, .int (iI f1)), (0, .ref h0), (1, .int (iI t))] [] := by
                      intro  vb4 ab4 bxb4 fpb4 hm hz34
                      refine m_aload_n (j := 3) C dX12_head_140 rfl ?_
                      refine m_aload_n (j := 3) C dX12_head_141 rfl ?_
                      have rv4 : 0 ≤ vb4 25 ∧ vb4 25 ≤ 208 := bxb4.1 25
                      refine m_get (k := 25) C dX12_head_142 w6_84 (by decide) rfl ?_
                      refine m_aload_n (j := 3) C dX12_head_145 rfl ?_
                      have rv5 : 1 ≤ vb4 31 ∧ vb4 31 ≤ 100 := bxb4.1 31
                      have ve2 : vb4 31 = v 31 := fpb4.1 31 rfl
                      refine m_get (k := 31) C dX12_head_146 w6_90 (by decide) rfl ?_
                      refine m_st (st2 := [.int (iI (v 31)), .int (iI (vb4 25)), .ref h0]) (congrArg (fun z => Value.int (iI z) :: [.int (iI (vb4 25)), .ref h0]) (fpb4.1 31 rfl)) ?_
                      obtain ⟨mn1, hmn1, emn1⟩ := mmin_c (x := vb4 25) (y := v 31) ⟨by omega, by omega⟩ ⟨by omega, by omega⟩
                      refine m_mmin (w := iI mn1) C dX12_head_149 w7_189 w2_129 w1_14 w2_130 ⟨Nat.le_of_ble_eq_true rfl, Nat.le_of_ble_eq_true rfl⟩ ⟨Nat.le_of_ble_eq_true rfl, Nat.le_of_ble_eq_true rfl⟩ (Nat.le_of_ble_eq_true rfl) emn1 ?_
                      refine m_put (k := 41) (z := mn1) C dX12_head_152 w6_100 (by decide) rfl rfl rfl ?_
                      have bq2 : BX (va_up vb4 41 mn1) ab4 := bxb4.put (k := 41) (z := mn1) (show 0 ≤ mn1 ∧ mn1 ≤ 200 by omega)
                      have fq4 := fpb4.put (k := 41) (z := mn1) rfl
                      refine m_iconst C dX12_head_155 ?_
                      refine m_istore (lv2 := [(4, .int (iI 0)), (3, .int (iI g1)), (2, .int (iI f1)), (0, .ref h0), (1, .int (iI t))]) C dX12_head_156 (by decide) rfl ?_
                      have Lp3 : ∀ (nn : Nat) (k2 : Int) (vb5 : Nat → Int) (ab5 : Nat → Nat → Int), 201 - k2 < (nn : Int) → BX vb5 ab5 → fr [0, 1, 3, 23, 25, 28, 41] [20, 21, 24, 26, 27, 40] v a vb5 ab5 → (0 ≤ k2 ∧ k2 ≤ 200) → (vb5 3 = 0) → mw p l e (rmq 66 0 0) s m args below meth c G A 5 (MQ below (Qm G A (fun rq Lq Eq => ∃ (vq : Nat → Int) (aq : Nat → Nat → Int), mI G h0 ad ln vq aq Lq Eq ∧ (fun r v2 a2 => ∃ f : Int, r = some (.int (iI f)) ∧ fr [0, 1, 3, 23, 25, 28, 41] [20, 21, 24, 26, 27, 40] v a v2 a2 ∧ BX v2 a2 ∧ (v2 3 = 0)) rq vq aq)) args s 0 0 A) h0 ad ln vb5 ab5 0 0 158 [(4, .int (iI k2)), (3, .int (iI g1)), (2, .int (iI f1)), (0, .ref h0), (1, .int (iI t))] [] := by
                        intro nn
                        induction nn with
                        | zero =>
                          intro k2 vb5 ab5 hm bxb5 fpb5 hk2 hz35
                          exact absurd hm (by omega)
                        | succ nn ih3 =>
                          intro k2 vb5 ab5 hm bxb5 fpb5 hk2 hz35
                          refine m_iload (j := 0) C dX12_head_158 rfl ?_
                          refine m_aload_n (j := 3) C dX12_head_160 rfl ?_
                          have rv6 : 0 ≤ vb5 41 ∧ vb5 41 ≤ 200 := bxb5.1 41
                          refine m_get (k := 41) C dX12_head_161 w6_100 (by decide) rfl ?_
                          refine m_icmp_ge (tgt := 187) C ⟨by omega, by omega⟩ ⟨by omega, by omega⟩ dX12_head_164 (by decide) (fun c5 => ?_) (fun c5 => ?_)
                          · refine m_aload_n (j := 3) C dX12_head_187 rfl ?_
                            refine m_aload_n (j := 3) C dX12_head_188 rfl ?_
                            refine m_get (k := 41) C dX12_head_189 w6_100 (by decide) rfl ?_
                            refine m_call (mc2 := 0) (ms2 := 0) (As := [.int (iI (vb5 41))]) (rest := []) C (B_fine (x := vb5 41) bxb5 (by show -2147483648 ≤ (vb5 41) ∧ (vb5 41) ≤ 2147483647; omega)) dX12_head_192 kV_X12_158 rfl ck_13 rfl (Nat.le_of_ble_eq_true rfl) ⟨Nat.le_of_ble_eq_true rfl, Nat.le_of_ble_eq_true rfl⟩ ⟨Nat.le_of_ble_eq_true rfl, Nat.le_of_ble_eq_true rfl⟩ (fun rh3 vh3 ah3 h3 => ?_)
                            obtain ⟨f3, rfl, fn3, bn3, ex3⟩ := h3
                            have fq5 := fpb5.call fn3 rfl rfl
                            have gf3 : f3 = (vb5 41) := ex3
                            refine m_st (st2 := [.int (iI f3)]) rfl ?_
                            have rv7 : 0 ≤ vh3 3 ∧ vh3 3 ≤ 3000 := bn3.1 3
                            have ve3 : vh3 3 = vb5 3 := fn3.1 3 rfl
                            exact m_iret C dX12_head_195 rfl (Nat.le_of_ble_eq_true rfl) (Nat.le_of_ble_eq_true rfl) ⟨f3, rfl, fq5, bn3, (by show (vh3 3) = 0; omega)⟩
                          · refine m_aload_n (j := 3) C dX12_head_167 rfl ?_
                            refine m_geta (k := 40) C dX12_head_168 w6_99 (by decide) rfl ?_
                            refine m_iload (j := 0) C dX12_head_171 rfl ?_
                            refine m_aload_n (j := 3) C dX12_head_173 rfl ?_
                            refine m_geta (k := 24) C dX12_head_174 w6_83 (by decide) rfl ?_
                            refine m_iload (j := 0) C dX12_head_177 rfl ?_
                            refine m_ald (k := 24) C dX12_head_179 rfl rfl (by decide) (by omega) (by show _ < ((_ : Nat) : Int); simp only [mlen]; omega) (by decide) ?_
                            have ra1 : (-2147483648) ≤ ab5 24 k2.toNat ∧ ab5 24 k2.toNat ≤ 2147483647 := bxb5.2 24 (k2.toNat)
                            refine m_ast (k := 40) C dX12_head_180 rfl rfl (by decide) (by omega) (by show _ < ((_ : Nat) : Int); simp only [mlen]; omega) (by decide) ?_
                            have bq3 : BX vb5 (up2 ab5 40 k2.toNat (ab5 24 k2.toNat)) := bxb5.set (k := 40) (i := k2.toNat) (z := ab5 24 k2.toNat) (show (-2147483648) ≤ (ab5 24 k2.toNat) ∧ (ab5 24 k2.toNat) ≤ 2147483647 by omega)
                            have fq6 := fpb5.set (k := 40) (i := k2.toNat) (z := ab5 24 k2.toNat) rfl
                            refine m_iinc (z := k2) (j := 0) (lv2 := [(4, .int (iI (k2 + 1))), (3, .int (iI g1)), (2, .int (iI f1)), (0, .ref h0), (1, .int (iI t))]) C dX12_head_181 rfl (by decide) rfl ?_
                            refine m_goto (tgt := 158) C dX12_head_184 (by decide) ?_
                            have rv8 : 0 ≤ vb5 3 ∧ vb5 3 ≤ 3000 := bq3.1 3
                            refine m_lv (lv2 := [(4, .int (iI (k2 + 1))), (3, .int (iI g1)), (2, .int (iI f1)), (0, .ref h0), (1, .int (iI t))]) [0, 1, 2, 3, 4] rfl ?_
                            exact ih3  (k2 + 1) _ _ (by omega) bq3 fq6 (by omega) (by show (vb5 3) = 0; omega)
                      have rv9 : 0 ≤ vb4 3 ∧ vb4 3 ≤ 3000 := bq2.1 3
                      refine m_lv (lv2 := [(4, .int (iI 0)), (3, .int (iI g1)), (2, .int (iI f1)), (0, .ref h0), (1, .int (iI t))]) [0, 1, 2, 3, 4] rfl ?_
                      exact Lp3 202 0 _ _ (by omega) bq2 fq4 (by omega) (by show (vb4 3) = 0; omega)
                    refine m_if_ne (tgt := 127) C ⟨by omega, by omega⟩ dX12_head_116 (by decide) (fun c6 => ?_) (fun c6 => ?_)
                    · refine m_aload_n (j := 3) C dX12_head_127 rfl ?_
                      refine m_iload_n (j := 4) C dX12_head_128 rfl ?_
                      have rv10 : 0 ≤ vb3 4 ∧ vb3 4 ≤ 30 := bxb3.1 4
                      have ve4 : vb3 4 = v 4 := fpb3.1 4 rfl
                      refine m_call (mc2 := 0) (ms2 := 0) (As := [.int (iI t)]) (rest := []) C (M_setWord (t := t) bxb3 (hT.fr fpb3 rfl rfl) (by show 0 ≤ t ∧ t < (vb3 4); omega)) dX12_head_129 kV_X12_267 rfl ck_13 rfl (Nat.le_of_ble_eq_true rfl) ⟨Nat.le_of_ble_eq_true rfl, Nat.le_of_ble_eq_true rfl⟩ ⟨Nat.le_of_ble_eq_true rfl, Nat.le_of_ble_eq_true rfl⟩ (fun rh4 vh4 ah4 h4 => ?_)
                      obtain ⟨f4, rfl, fn4, bn4, ex4⟩ := h4
                      have fq7 := fpb3.call fn4 rfl rfl
                      have rv11 : 0 ≤ vh4 25 ∧ vh4 25 ≤ 208 := bn4.1 25
                      have gf4 : f4 = 0 ∨ (f4 = 1 ∧ (vh4 25) ≤ 200) := ex4
                      refine m_st (st2 := [.int (iI f4)]) rfl ?_
                      refine m_if_ne (tgt := 140) C ⟨by omega, by omega⟩ dX12_head_132 (by decide) (fun c7 => ?_) (fun c7 => ?_)
                      · have rv12 : 0 ≤ vh4 3 ∧ vh4 3 ≤ 3000 := bn4.1 3
                        have ve5 : vh4 3 = vb3 3 := fn4.1 3 rfl
                        refine m_lv (lv2 := [(4, .int (iI k1)), (3, .int (iI g1)), (2, .int (iI f1)), (0, .ref h0), (1, .int (iI t))]) [0, 1, 2, 3, 4] rfl ?_
                        exact J2   _ _  bn4 fq7 (by show (vh4 25) ≤ 200; omega) (by show (vh4 3) = 0; omega)
                      · refine m_aload_n (j := 3) C dX12_head_135 rfl ?_
                        refine m_call (mc2 := 0) (ms2 := 0) (As := []) (rest := []) C (B_notSet  bn4 ) dX12_head_136 kV_X12_270 rfl ck_13 rfl (Nat.le_of_ble_eq_true rfl) ⟨Nat.le_of_ble_eq_true rfl, Nat.le_of_ble_eq_true rfl⟩ ⟨Nat.le_of_ble_eq_true rfl, Nat.le_of_ble_eq_true rfl⟩ (fun rh5 vh5 ah5 h5 => ?_)
                        obtain ⟨f5, rfl, fn5, bn5, ex5⟩ := h5
                        have fq8 := fq7.call fn5 rfl rfl
                        have gf5 : f5 = -1 := ex5
                        refine m_st (st2 := [.int (iI f5)]) rfl ?_
                        have rv13 : 0 ≤ vh5 3 ∧ vh5 3 ≤ 3000 := bn5.1 3
                        have ve6 : vh5 3 = vh4 3 := fn5.1 3 rfl
                        have ve7 : vh4 3 = vb3 3 := fn4.1 3 rfl
                        exact m_iret C dX12_head_139 rfl (Nat.le_of_ble_eq_true rfl) (Nat.le_of_ble_eq_true rfl) ⟨f5, rfl, fq8, bn5, (by show (vh5 3) = 0; omega)⟩
                    · refine m_aload_n (j := 3) C dX12_head_119 rfl ?_
                      refine m_iconst C dX12_head_120 ?_
                      refine m_put (k := 25) (z := 0) C dX12_head_121 w6_84 (by decide) rfl rfl rfl ?_
                      have bq4 : BX (va_up vb3 25 0) ab3 := bxb3.put (k := 25) (z := 0) ⟨by decide, by decide⟩
                      have fq9 := fpb3.put (k := 25) (z := 0) rfl
                      refine m_goto (tgt := 140) C dX12_head_124 (by decide) ?_
                      have rv14 : 0 ≤ vb3 3 ∧ vb3 3 ≤ 3000 := bq4.1 3
                      refine m_lv (lv2 := [(4, .int (iI k1)), (3, .int (iI g1)), (2, .int (iI f1)), (0, .ref h0), (1, .int (iI t))]) [0, 1, 2, 3, 4] rfl ?_
                      exact J2   _ _  bq4 fq9 (by show 0 ≤ 200; omega) (by show (vb3 3) = 0; omega)
                  · refine m_aload_n (j := 3) C dX12_head_86 rfl ?_
                    refine m_geta (k := 20) C dX12_head_87 w6_79 (by decide) rfl ?_
                    refine m_iload (j := 0) C dX12_head_90 rfl ?_
                    refine m_aload_n (j := 3) C dX12_head_92 rfl ?_
                    refine m_geta (k := 2) C dX12_head_93 w6_61 (by decide) rfl ?_
                    refine m_iload (j := 0) C dX12_head_96 rfl ?_
                    refine m_ald (k := 2) C dX12_head_98 rfl rfl (by decide) (by omega) (by show _ < ((_ : Nat) : Int); simp only [mlen]; omega) (by decide) ?_
                    have ra2 : (-2147483648) ≤ ab3 2 k1.toNat ∧ ab3 2 k1.toNat ≤ 2147483647 := bxb3.2 2 (k1.toNat)
                    have ae1 : ab3 2 (k1.toNat) = a 2 (k1.toNat) := congrFun (fpb3.2 2 rfl) (k1.toNat)
                    refine m_st (st2 := [.int (iI (a 2 k1.toNat)), .int (iI k1), .ref (ad 20)]) (congrArg (fun z => Value.int (iI z) :: [.int (iI k1), .ref (ad 20)]) (congrFun (fpb3.2 2 rfl) (k1.toNat))) ?_
                    refine m_ast (k := 20) C dX12_head_99 rfl rfl (by decide) (by omega) (by show _ < ((_ : Nat) : Int); simp only [mlen]; omega) (by decide) ?_
                    have bq5 : BX vb3 (up2 ab3 20 k1.toNat (a 2 k1.toNat)) := bxb3.set (k := 20) (i := k1.toNat) (z := a 2 k1.toNat) (show (-2147483648) ≤ (a 2 k1.toNat) ∧ (a 2 k1.toNat) ≤ 2147483647 by omega)
                    have fq10 := fpb3.set (k := 20) (i := k1.toNat) (z := a 2 k1.toNat) rfl
                    refine m_aload_n (j := 3) C dX12_head_100 rfl ?_
                    refine m_geta (k := 21) C dX12_head_101 w6_80 (by decide) rfl ?_
                    refine m_iload (j := 0) C dX12_head_104 rfl ?_
                    refine m_iload (j := 0) C dX12_head_106 rfl ?_
                    refine m_ast (k := 21) C dX12_head_108 rfl rfl (by decide) (by omega) (by show _ < ((_ : Nat) : Int); simp only [mlen]; omega) (by decide) ?_
                    have bq6 : BX vb3 (up2 (up2 ab3 20 k1.toNat (a 2 k1.toNat)) 21 k1.toNat k1) := bq5.set (k := 21) (i := k1.toNat) (z := k1) (show (-2147483648) ≤ k1 ∧ k1 ≤ 2147483647 by omega)
                    have fq11 := fq10.set (k := 21) (i := k1.toNat) (z := k1) rfl
                    refine m_iinc (z := k1) (j := 0) (lv2 := [(4, .int (iI (k1 + 1))), (3, .int (iI g1)), (2, .int (iI f1)), (0, .ref h0), (1, .int (iI t))]) C dX12_head_109 rfl (by decide) rfl ?_
                    refine m_goto (tgt := 80) C dX12_head_112 (by decide) ?_
                    have rv15 : 0 ≤ vb3 3 ∧ vb3 3 ≤ 3000 := bq6.1 3
                    refine m_lv (lv2 := [(4, .int (iI (k1 + 1))), (3, .int (iI g1)), (2, .int (iI f1)), (0, .ref h0), (1, .int (iI t))]) [0, 1, 2, 3, 4] rfl ?_
                    exact ih2  (k1 + 1) _ _ (by omega) bq6 fq11 (by omega) (by show (vb3 3) = 0; omega)
              have rv16 : 0 ≤ vb2 3 ∧ vb2 3 ≤ 3000 := bq1.1 3
              refine m_lv (lv2 := [(4, .int (iI 0)), (3, .int (iI g1)), (2, .int (iI f1)), (0, .ref h0), (1, .int (iI t))]) [0, 1, 2, 3, 4] rfl ?_
              exact Lp2 42 0 _ _ (by omega) bq1 fq3 (by omega) (by show (vb2 3) = 0; omega)
            · refine m_aload_n (j := 3) C dX12_head_66 rfl ?_
              refine m_iconst C dX12_head_67 ?_
              refine m_call (mc2 := 0) (ms2 := 0) (As := [.int (iI 3)]) (rest := []) C (B_bad (x := 3) bxb2 (by show -2147483648 ≤ (3 : Int) ∧ (3 : Int) ≤ 2147483647; omega)) dX12_head_68 kV_X12_154 rfl ck_13 rfl (Nat.le_of_ble_eq_true rfl) ⟨Nat.le_of_ble_eq_true rfl, Nat.le_of_ble_eq_true rfl⟩ ⟨Nat.le_of_ble_eq_true rfl, Nat.le_of_ble_eq_true rfl⟩ (fun rh6 vh6 ah6 h6 => ?_)
              obtain ⟨f6, rfl, fn6, bn6, ex6⟩ := h6
              have fq12 := fpb2.call fn6 rfl rfl
              have gf6 : f6 = -1 := ex6
              refine m_st (st2 := [.int (iI f6)]) rfl ?_
              have rv17 : 0 ≤ vh6 3 ∧ vh6 3 ≤ 3000 := bn6.1 3
              have ve8 : vh6 3 = vb2 3 := fn6.1 3 rfl
              exact m_iret C dX12_head_71 rfl (Nat.le_of_ble_eq_true rfl) (Nat.le_of_ble_eq_true rfl) ⟨f6, rfl, fq12, bn6, (by show (vh6 3) = 0; omega)⟩
          · refine m_aload_n (j := 3) C dX12_head_51 rfl ?_
            refine m_bipush (z := 6) C dX12_head_52 (by decide) ?_
            refine m_call (mc2 := 0) (ms2 := 0) (As := [.int (iI 6)]) (rest := []) C (B_bad (x := 6) bxb2 (by show -2147483648 ≤ (6 : Int) ∧ (6 : Int) ≤ 2147483647; omega)) dX12_head_54 kV_X12_154 rfl ck_13 rfl (Nat.le_of_ble_eq_true rfl) ⟨Nat.le_of_ble_eq_true rfl, Nat.le_of_ble_eq_true rfl⟩ ⟨Nat.le_of_ble_eq_true rfl, Nat.le_of_ble_eq_true rfl⟩ (fun rh7 vh7 ah7 h7 => ?_)
            obtain ⟨f7, rfl, fn7, bn7, ex7⟩ := h7
            have fq13 := fpb2.call fn7 rfl rfl
            have gf7 : f7 = -1 := ex7
            refine m_st (st2 := [.int (iI f7)]) rfl ?_
            have rv18 : 0 ≤ vh7 3 ∧ vh7 3 ≤ 3000 := bn7.1 3
            have ve9 : vh7 3 = vb2 3 := fn7.1 3 rfl
            exact m_iret C dX12_head_57 rfl (Nat.le_of_ble_eq_true rfl) (Nat.le_of_ble_eq_true rfl) ⟨f7, rfl, fq13, bn7, (by show (vh7 3) = 0; omega)⟩
        · refine m_iload_n (j := 1) C dX12_head_26 rfl ?_
          refine m_if_eq (tgt := 47) C ⟨by omega, by omega⟩ dX12_head_27 (by decide) (fun c8 => ?_) (fun c8 => ?_)
          · refine m_iload_n (j := 1) C dX12_head_47 rfl ?_
            refine m_if_ne (tgt := 58) C ⟨by omega, by omega⟩ dX12_head_48 (by decide) (fun c9 => ?_) (fun c9 => ?_)
            · refine m_aload_n (j := 3) C dX12_head_58 rfl ?_
              refine m_iload_n (j := 4) C dX12_head_59 rfl ?_
              have rv19 : 0 ≤ vb2 4 ∧ vb2 4 ≤ 30 := bxb2.1 4
              have ve10 : vb2 4 = v 4 := fpb2.1 4 rfl
              refine m_call (mc2 := 0) (ms2 := 0) (As := [.int (iI t)]) (rest := []) C (M_isWhole (t := t) bxb2 (hT.fr fpb2 rfl rfl) (by show -2147483648 ≤ t ∧ t ≤ 2147483647; omega)) dX12_head_60 kV_X12_171 rfl ck_13 rfl (Nat.le_of_ble_eq_true rfl) ⟨Nat.le_of_ble_eq_true rfl, Nat.le_of_ble_eq_true rfl⟩ ⟨Nat.le_of_ble_eq_true rfl, Nat.le_of_ble_eq_true rfl⟩ (fun rh8 vh8 ah8 h8 => ?_)
              obtain ⟨f8, rfl, fn8, bn8, ex8⟩ := h8
              obtain ⟨rfl, rfl⟩ := fn8.eq
              have gf8 : f8 = 0 ∨ (f8 = 1 ∧ 0 ≤ t ∧ t < (vb2 4)) := ex8
              refine m_st (st2 := [.int (iI f8)]) rfl ?_
              refine m_if_ne (tgt := 72) C ⟨by omega, by omega⟩ dX12_head_63 (by decide) (fun c10 => ?_) (fun c10 => ?_)
              · refine m_aload_n (j := 3) C dX12_head_72 rfl ?_
                refine m_iload_n (j := 2) C dX12_head_73 rfl ?_
                refine m_put (k := 23) (z := f1) C dX12_head_74 w6_82 (by decide) rfl rfl rfl ?_
                have bq7 : BX (va_up vb2 23 f1) ab2 := bxb2.put (k := 23) (z := f1) (show 0 ≤ f1 ∧ f1 ≤ 500 by omega)
                have fq15 := fpb2.put (k := 23) (z := f1) rfl
                refine m_iconst C dX12_head_77 ?_
                refine m_istore (lv2 := [(4, .int (iI 0)), (3, .int (iI g1)), (2, .int (iI f1)), (0, .ref h0), (1, .int (iI t))]) C dX12_head_78 (by decide) rfl ?_
                have Lp4 : ∀ (nn : Nat) (k1 : Int) (vb6 : Nat → Int) (ab6 : Nat → Nat → Int), 41 - k1 < (nn : Int) → BX vb6 ab6 → fr [0, 1, 3, 23, 25, 28, 41] [20, 21, 24, 26, 27, 40] v a vb6 ab6 → (0 ≤ k1 ∧ k1 ≤ f1) → (vb6 3 = 0) → mw p l e (rmq 66 0 0) s m args below meth c G A 5 (MQ below (Qm G A (fun rq Lq Eq => ∃ (vq : Nat → Int) (aq : Nat → Nat → Int), mI G h0 ad ln vq aq Lq Eq ∧ (fun r v2 a2 => ∃ f : Int, r = some (.int (iI f)) ∧ fr [0, 1, 3, 23, 25, 28, 41] [20, 21, 24, 26, 27, 40] v a v2 a2 ∧ BX v2 a2 ∧ (v2 3 = 0)) rq vq aq)) args s 0 0 A) h0 ad ln vb6 ab6 0 0 80 [(4, .int (iI k1)), (3, .int (iI g1)), (2, .int (iI f1)), (0, .ref h0), (1, .int (iI t))] [] := by
                  intro nn
                  induction nn with
                  | zero =>
                    intro k1 vb6 ab6 hm bxb6 fpb6 hk1 hz33
                    exact absurd hm (by omega)
                  | succ nn ih4 =>
                    intro k1 vb6 ab6 hm bxb6 fpb6 hk1 hz33
                    refine m_iload (j := 0) C dX12_head_80 rfl ?_
                    refine m_iload_n (j := 2) C dX12_head_82 rfl ?_
                    refine m_icmp_ge (tgt := 115) C ⟨by omega, by omega⟩ ⟨by omega, by omega⟩ dX12_head_83 (by decide) (fun c11 => ?_) (fun c11 => ?_)
                    · refine m_iload_n (j := 2) C dX12_head_115 rfl ?_
                      have J3 : ∀ (vb7 : Nat → Int) (ab7 : Nat → Nat → Int), BX vb7 ab7 → fr [0, 1, 3, 23, 25, 28, 41] [20, 21, 24, 26, 27, 40] v a vb7 ab7 → (vb7 25 ≤ 200) → (vb7 3 = 0) → mw p l e (rmq 66 0 0) s m args below meth c G A 5 (MQ below (Qm G A (fun rq Lq Eq => ∃ (vq : Nat → Int) (aq : Nat → Nat → Int), mI G h0 ad ln vq aq Lq Eq ∧ (fun r v2 a2 => ∃ f : Int, r = some (.int (iI f)) ∧ fr [0, 1, 3, 23, 25, 28, 41] [20, 21, 24, 26, 27, 40] v a v2 a2 ∧ BX v2 a2 ∧ (v2 3 = 0)) rq vq aq)) args s 0 0 A) h0 ad ln vb7 ab7 0 0 140 [(4, .int (iI k1)), (3, .int (iI g1)), (2, .int (iI f1)), (0, .ref h0), (1, .int (iI t))] [] := by
                        intro  vb7 ab7 bxb7 fpb7 hm hz34
                        refine m_aload_n (j := 3) C dX12_head_140 rfl ?_
                        refine m_aload_n (j := 3) C dX12_head_141 rfl ?_
                        have rv20 : 0 ≤ vb7 25 ∧ vb7 25 ≤ 208 := bxb7.1 25
                        refine m_get (k := 25) C dX12_head_142 w6_84 (by decide) rfl ?_
                        refine m_aload_n (j := 3) C dX12_head_145 rfl ?_
                        have rv21 : 1 ≤ vb7 31 ∧ vb7 31 ≤ 100 := bxb7.1 31
                        have ve11 : vb7 31 = v 31 := fpb7.1 31 rfl
                        refine m_get (k := 31) C dX12_head_146 w6_90 (by decide) rfl ?_
                        refine m_st (st2 := [.int (iI (v 31)), .int (iI (vb7 25)), .ref h0]) (congrArg (fun z => Value.int (iI z) :: [.int (iI (vb7 25)), .ref h0]) (fpb7.1 31 rfl)) ?_
                        obtain ⟨mn2, hmn2, emn2⟩ := mmin_c (x := vb7 25) (y := v 31) ⟨by omega, by omega⟩ ⟨by omega, by omega⟩
                        refine m_mmin (w := iI mn2) C dX12_head_149 w7_189 w2_129 w1_14 w2_130 ⟨Nat.le_of_ble_eq_true rfl, Nat.le_of_ble_eq_true rfl⟩ ⟨Nat.le_of_ble_eq_true rfl, Nat.le_of_ble_eq_true rfl⟩ (Nat.le_of_ble_eq_true rfl) emn2 ?_
                        refine m_put (k := 41) (z := mn2) C dX12_head_152 w6_100 (by decide) rfl rfl rfl ?_
                        have bq8 : BX (va_up vb7 41 mn2) ab7 := bxb7.put (k := 41) (z := mn2) (show 0 ≤ mn2 ∧ mn2 ≤ 200 by omega)
                        have fq16 := fpb7.put (k := 41) (z := mn2) rfl
                        refine m_iconst C dX12_head_155 ?_
                        refine m_istore (lv2 := [(4, .int (iI 0)), (3, .int (iI g1)), (2, .int (iI f1)), (0, .ref h0), (1, .int (iI t))]) C dX12_head_156 (by decide) rfl ?_
                        have Lp5 : ∀ (nn : Nat) (k2 : Int) (vb8 : Nat → Int) (ab8 : Nat → Nat → Int), 201 - k2 < (nn : Int) → BX vb8 ab8 → fr [0, 1, 3, 23, 25, 28, 41] [20, 21, 24, 26, 27, 40] v a vb8 ab8 → (0 ≤ k2 ∧ k2 ≤ 200) → (vb8 3 = 0) → mw p l e (rmq 66 0 0) s m args below meth c G A 5 (MQ below (Qm G A (fun rq Lq Eq => ∃ (vq : Nat → Int) (aq : Nat → Nat → Int), mI G h0 ad ln vq aq Lq Eq ∧ (fun r v2 a2 => ∃ f : Int, r = some (.int (iI f)) ∧ fr [0, 1, 3, 23, 25, 28, 41] [20, 21, 24, 26, 27, 40] v a v2 a2 ∧ BX v2 a2 ∧ (v2 3 = 0)) rq vq aq)) args s 0 0 A) h0 ad ln vb8 ab8 0 0 158 [(4, .int (iI k2)), (3, .int (iI g1)), (2, .int (iI f1)), (0, .ref h0), (1, .int (iI t))] [] := by
                          intro nn
                          induction nn with
                          | zero =>
                            intro k2 vb8 ab8 hm bxb8 fpb8 hk2 hz35
                            exact absurd hm (by omega)
                          | succ nn ih5 =>
                            intro k2 vb8 ab8 hm bxb8 fpb8 hk2 hz35
                            refine m_iload (j := 0) C dX12_head_158 rfl ?_
                            refine m_aload_n (j := 3) C dX12_head_160 rfl ?_
                            have rv22 : 0 ≤ vb8 41 ∧ vb8 41 ≤ 200 := bxb8.1 41
                            refine m_get (k := 41) C dX12_head_161 w6_100 (by decide) rfl ?_
                            refine m_icmp_ge (tgt := 187) C ⟨by omega, by omega⟩ ⟨by omega, by omega⟩ dX12_head_164 (by decide) (fun c12 => ?_) (fun c12 => ?_)
                            · refine m_aload_n (j := 3) C dX12_head_187 rfl ?_
                              refine m_aload_n (j := 3) C dX12_head_188 rfl ?_
                              refine m_get (k := 41) C dX12_head_189 w6_100 (by decide) rfl ?_
                              refine m_call (mc2 := 0) (ms2 := 0) (As := [.int (iI (vb8 41))]) (rest := []) C (B_fine (x := vb8 41) bxb8 (by show -2147483648 ≤ (vb8 41) ∧ (vb8 41) ≤ 2147483647; omega)) dX12_head_192 kV_X12_158 rfl ck_13 rfl (Nat.le_of_ble_eq_true rfl) ⟨Nat.le_of_ble_eq_true rfl, Nat.le_of_ble_eq_true rfl⟩ ⟨Nat.le_of_ble_eq_true rfl, Nat.le_of_ble_eq_true rfl⟩ (fun rh9 vh9 ah9 h9 => ?_)
                              obtain ⟨f9, rfl, fn9, bn9, ex9⟩ := h9
                              have fq17 := fpb8.call fn9 rfl rfl
                              have gf9 : f9 = (vb8 41) := ex9
                              refine m_st (st2 := [.int (iI f9)]) rfl ?_
                              have rv23 : 0 ≤ vh9 3 ∧ vh9 3 ≤ 3000 := bn9.1 3
                              have ve12 : vh9 3 = vb8 3 := fn9.1 3 rfl
                              exact m_iret C dX12_head_195 rfl (Nat.le_of_ble_eq_true rfl) (Nat.le_of_ble_eq_true rfl) ⟨f9, rfl, fq17, bn9, (by show (vh9 3) = 0; omega)⟩
                            · refine m_aload_n (j := 3) C dX12_head_167 rfl ?_
                              refine m_geta (k := 40) C dX12_head_168 w6_99 (by decide) rfl ?_
                              refine m_iload (j := 0) C dX12_head_171 rfl ?_
                              refine m_aload_n (j := 3) C dX12_head_173 rfl ?_
                              refine m_geta (k := 24) C dX12_head_174 w6_83 (by decide) rfl ?_
                              refine m_iload (j := 0) C dX12_head_177 rfl ?_
                              refine m_ald (k := 24) C dX12_head_179 rfl rfl (by decide) (by omega) (by show _ < ((_ : Nat) : Int); simp only [mlen]; omega) (by decide) ?_
                              have ra3 : (-2147483648) ≤ ab8 24 k2.toNat ∧ ab8 24 k2.toNat ≤ 2147483647 := bxb8.2 24 (k2.toNat)
                              refine m_ast (k := 40) C dX12_head_180 rfl rfl (by decide) (by omega) (by show _ < ((_ : Nat) : Int); simp only [mlen]; omega) (by decide) ?_
                              have bq9 : BX vb8 (up2 ab8 40 k2.toNat (ab8 24 k2.toNat)) := bxb8.set (k := 40) (i := k2.toNat) (z := ab8 24 k2.toNat) (show (-2147483648) ≤ (ab8 24 k2.toNat) ∧ (ab8 24 k2.toNat) ≤ 2147483647 by omega)
                              have fq18 := fpb8.set (k := 40) (i := k2.toNat) (z := ab8 24 k2.toNat) rfl
                              refine m_iinc (z := k2) (j := 0) (lv2 := [(4, .int (iI (k2 + 1))), (3, .int (iI g1)), (2, .int (iI f1)), (0, .ref h0), (1, .int (iI t))]) C dX12_head_181 rfl (by decide) rfl ?_
                              refine m_goto (tgt := 158) C dX12_head_184 (by decide) ?_
                              have rv24 : 0 ≤ vb8 3 ∧ vb8 3 ≤ 3000 := bq9.1 3
                              refine m_lv (lv2 := [(4, .int (iI (k2 + 1))), (3, .int (iI g1)), (2, .int (iI f1)), (0, .ref h0), (1, .int (iI t))]) [0, 1, 2, 3, 4] rfl ?_
                              exact ih5  (k2 + 1) _ _ (by omega) bq9 fq18 (by omega) (by show (vb8 3) = 0; omega)
                        have rv25 : 0 ≤ vb7 3 ∧ vb7 3 ≤ 3000 := bq8.1 3
                        refine m_lv (lv2 := [(4, .int (iI 0)), (3, .int (iI g1)), (2, .int (iI f1)), (0, .ref h0), (1, .int (iI t))]) [0, 1, 2, 3, 4] rfl ?_
                        exact Lp5 202 0 _ _ (by omega) bq8 fq16 (by omega) (by show (vb7 3) = 0; omega)
                      refine m_if_ne (tgt := 127) C ⟨by omega, by omega⟩ dX12_head_116 (by decide) (fun c13 => ?_) (fun c13 => ?_)
                      · refine m_aload_n (j := 3) C dX12_head_127 rfl ?_
                        refine m_iload_n (j := 4) C dX12_head_128 rfl ?_
                        have rv26 : 0 ≤ vb6 4 ∧ vb6 4 ≤ 30 := bxb6.1 4
                        have ve13 : vb6 4 = v 4 := fpb6.1 4 rfl
                        refine m_call (mc2 := 0) (ms2 := 0) (As := [.int (iI t)]) (rest := []) C (M_setWord (t := t) bxb6 (hT.fr fpb6 rfl rfl) (by show 0 ≤ t ∧ t < (vb6 4); omega)) dX12_head_129 kV_X12_267 rfl ck_13 rfl (Nat.le_of_ble_eq_true rfl) ⟨Nat.le_of_ble_eq_true rfl, Nat.le_of_ble_eq_true rfl⟩ ⟨Nat.le_of_ble_eq_true rfl, Nat.le_of_ble_eq_true rfl⟩ (fun rh10 vh10 ah10 h10 => ?_)
                        obtain ⟨f10, rfl, fn10, bn10, ex10⟩ := h10
                        have fq19 := fpb6.call fn10 rfl rfl
                        have rv27 : 0 ≤ vh10 25 ∧ vh10 25 ≤ 208 := bn10.1 25
                        have gf10 : f10 = 0 ∨ (f10 = 1 ∧ (vh10 25) ≤ 200) := ex10
                        refine m_st (st2 := [.int (iI f10)]) rfl ?_
                        refine m_if_ne (tgt := 140) C ⟨by omega, by omega⟩ dX12_head_132 (by decide) (fun c14 => ?_) (fun c14 => ?_)
                        · have rv28 : 0 ≤ vh10 3 ∧ vh10 3 ≤ 3000 := bn10.1 3
                          have ve14 : vh10 3 = vb6 3 := fn10.1 3 rfl
                          refine m_lv (lv2 := [(4, .int (iI k1)), (3, .int (iI g1)), (2, .int (iI f1)), (0, .ref h0), (1, .int (iI t))]) [0, 1, 2, 3, 4] rfl ?_
                          exact J3   _ _  bn10 fq19 (by show (vh10 25) ≤ 200; omega) (by show (vh10 3) = 0; omega)
                        · refine m_aload_n (j := 3) C dX12_head_135 rfl ?_
                          refine m_call (mc2 := 0) (ms2 := 0) (As := []) (rest := []) C (B_notSet  bn10 ) dX12_head_136 kV_X12_270 rfl ck_13 rfl (Nat.le_of_ble_eq_true rfl) ⟨Nat.le_of_ble_eq_true rfl, Nat.le_of_ble_eq_true rfl⟩ ⟨Nat.le_of_ble_eq_true rfl, Nat.le_of_ble_eq_true rfl⟩ (fun rh11 vh11 ah11 h11 => ?_)
                          obtain ⟨f11, rfl, fn11, bn11, ex11⟩ := h11
                          have fq20 := fq19.call fn11 rfl rfl
                          have gf11 : f11 = -1 := ex11
                          refine m_st (st2 := [.int (iI f11)]) rfl ?_
                          have rv29 : 0 ≤ vh11 3 ∧ vh11 3 ≤ 3000 := bn11.1 3
                          have ve15 : vh11 3 = vh10 3 := fn11.1 3 rfl
                          have ve16 : vh10 3 = vb6 3 := fn10.1 3 rfl
                          exact m_iret C dX12_head_139 rfl (Nat.le_of_ble_eq_true rfl) (Nat.le_of_ble_eq_true rfl) ⟨f11, rfl, fq20, bn11, (by show (vh11 3) = 0; omega)⟩
                      · refine m_aload_n (j := 3) C dX12_head_119 rfl ?_
                        refine m_iconst C dX12_head_120 ?_
                        refine m_put (k := 25) (z := 0) C dX12_head_121 w6_84 (by decide) rfl rfl rfl ?_
                        have bq10 : BX (va_up vb6 25 0) ab6 := bxb6.put (k := 25) (z := 0) ⟨by decide, by decide⟩
                        have fq21 := fpb6.put (k := 25) (z := 0) rfl
                        refine m_goto (tgt := 140) C dX12_head_124 (by decide) ?_
                        have rv30 : 0 ≤ vb6 3 ∧ vb6 3 ≤ 3000 := bq10.1 3
                        refine m_lv (lv2 := [(4, .int (iI k1)), (3, .int (iI g1)), (2, .int (iI f1)), (0, .ref h0), (1, .int (iI t))]) [0, 1, 2, 3, 4] rfl ?_
                        exact J3   _ _  bq10 fq21 (by show 0 ≤ 200; omega) (by show (vb6 3) = 0; omega)
                    · refine m_aload_n (j := 3) C dX12_head_86 rfl ?_
                      refine m_geta (k := 20) C dX12_head_87 w6_79 (by decide) rfl ?_
                      refine m_iload (j := 0) C dX12_head_90 rfl ?_
                      refine m_aload_n (j := 3) C dX12_head_92 rfl ?_
                      refine m_geta (k := 2) C dX12_head_93 w6_61 (by decide) rfl ?_
                      refine m_iload (j := 0) C dX12_head_96 rfl ?_
                      refine m_ald (k := 2) C dX12_head_98 rfl rfl (by decide) (by omega) (by show _ < ((_ : Nat) : Int); simp only [mlen]; omega) (by decide) ?_
                      have ra4 : (-2147483648) ≤ ab6 2 k1.toNat ∧ ab6 2 k1.toNat ≤ 2147483647 := bxb6.2 2 (k1.toNat)
                      have ae2 : ab6 2 (k1.toNat) = a 2 (k1.toNat) := congrFun (fpb6.2 2 rfl) (k1.toNat)
                      refine m_st (st2 := [.int (iI (a 2 k1.toNat)), .int (iI k1), .ref (ad 20)]) (congrArg (fun z => Value.int (iI z) :: [.int (iI k1), .ref (ad 20)]) (congrFun (fpb6.2 2 rfl) (k1.toNat))) ?_
                      refine m_ast (k := 20) C dX12_head_99 rfl rfl (by decide) (by omega) (by show _ < ((_ : Nat) : Int); simp only [mlen]; omega) (by decide) ?_
                      have bq11 : BX vb6 (up2 ab6 20 k1.toNat (a 2 k1.toNat)) := bxb6.set (k := 20) (i := k1.toNat) (z := a 2 k1.toNat) (show (-2147483648) ≤ (a 2 k1.toNat) ∧ (a 2 k1.toNat) ≤ 2147483647 by omega)
                      have fq22 := fpb6.set (k := 20) (i := k1.toNat) (z := a 2 k1.toNat) rfl
                      refine m_aload_n (j := 3) C dX12_head_100 rfl ?_
                      refine m_geta (k := 21) C dX12_head_101 w6_80 (by decide) rfl ?_
                      refine m_iload (j := 0) C dX12_head_104 rfl ?_
                      refine m_iload (j := 0) C dX12_head_106 rfl ?_
                      refine m_ast (k := 21) C dX12_head_108 rfl rfl (by decide) (by omega) (by show _ < ((_ : Nat) : Int); simp only [mlen]; omega) (by decide) ?_
                      have bq12 : BX vb6 (up2 (up2 ab6 20 k1.toNat (a 2 k1.toNat)) 21 k1.toNat k1) := bq11.set (k := 21) (i := k1.toNat) (z := k1) (show (-2147483648) ≤ k1 ∧ k1 ≤ 2147483647 by omega)
                      have fq23 := fq22.set (k := 21) (i := k1.toNat) (z := k1) rfl
                      refine m_iinc (z := k1) (j := 0) (lv2 := [(4, .int (iI (k1 + 1))), (3, .int (iI g1)), (2, .int (iI f1)), (0, .ref h0), (1, .int (iI t))]) C dX12_head_109 rfl (by decide) rfl ?_
                      refine m_goto (tgt := 80) C dX12_head_112 (by decide) ?_
                      have rv31 : 0 ≤ vb6 3 ∧ vb6 3 ≤ 3000 := bq12.1 3
                      refine m_lv (lv2 := [(4, .int (iI (k1 + 1))), (3, .int (iI g1)), (2, .int (iI f1)), (0, .ref h0), (1, .int (iI t))]) [0, 1, 2, 3, 4] rfl ?_
                      exact ih4  (k1 + 1) _ _ (by omega) bq12 fq23 (by omega) (by show (vb6 3) = 0; omega)
                have rv32 : 0 ≤ vb2 3 ∧ vb2 3 ≤ 3000 := bq7.1 3
                refine m_lv (lv2 := [(4, .int (iI 0)), (3, .int (iI g1)), (2, .int (iI f1)), (0, .ref h0), (1, .int (iI t))]) [0, 1, 2, 3, 4] rfl ?_
                exact Lp4 42 0 _ _ (by omega) bq7 fq15 (by omega) (by show (vb2 3) = 0; omega)
              · refine m_aload_n (j := 3) C dX12_head_66 rfl ?_
                refine m_iconst C dX12_head_67 ?_
                refine m_call (mc2 := 0) (ms2 := 0) (As := [.int (iI 3)]) (rest := []) C (B_bad (x := 3) bxb2 (by show -2147483648 ≤ (3 : Int) ∧ (3 : Int) ≤ 2147483647; omega)) dX12_head_68 kV_X12_154 rfl ck_13 rfl (Nat.le_of_ble_eq_true rfl) ⟨Nat.le_of_ble_eq_true rfl, Nat.le_of_ble_eq_true rfl⟩ ⟨Nat.le_of_ble_eq_true rfl, Nat.le_of_ble_eq_true rfl⟩ (fun rh12 vh12 ah12 h12 => ?_)
                obtain ⟨f12, rfl, fn12, bn12, ex12⟩ := h12
                have fq24 := fpb2.call fn12 rfl rfl
                have gf12 : f12 = -1 := ex12
                refine m_st (st2 := [.int (iI f12)]) rfl ?_
                have rv33 : 0 ≤ vh12 3 ∧ vh12 3 ≤ 3000 := bn12.1 3
                have ve17 : vh12 3 = vb2 3 := fn12.1 3 rfl
                exact m_iret C dX12_head_71 rfl (Nat.le_of_ble_eq_true rfl) (Nat.le_of_ble_eq_true rfl) ⟨f12, rfl, fq24, bn12, (by show (vh12 3) = 0; omega)⟩
            · refine m_aload_n (j := 3) C dX12_head_51 rfl ?_
              refine m_bipush (z := 6) C dX12_head_52 (by decide) ?_
              refine m_call (mc2 := 0) (ms2 := 0) (As := [.int (iI 6)]) (rest := []) C (B_bad (x := 6) bxb2 (by show -2147483648 ≤ (6 : Int) ∧ (6 : Int) ≤ 2147483647; omega)) dX12_head_54 kV_X12_154 rfl ck_13 rfl (Nat.le_of_ble_eq_true rfl) ⟨Nat.le_of_ble_eq_true rfl, Nat.le_of_ble_eq_true rfl⟩ ⟨Nat.le_of_ble_eq_true rfl, Nat.le_of_ble_eq_true rfl⟩ (fun rh13 vh13 ah13 h13 => ?_)
              obtain ⟨f13, rfl, fn13, bn13, ex13⟩ := h13
              have fq25 := fpb2.call fn13 rfl rfl
              have gf13 : f13 = -1 := ex13
              refine m_st (st2 := [.int (iI f13)]) rfl ?_
              have rv34 : 0 ≤ vh13 3 ∧ vh13 3 ≤ 3000 := bn13.1 3
              have ve18 : vh13 3 = vb2 3 := fn13.1 3 rfl
              exact m_iret C dX12_head_57 rfl (Nat.le_of_ble_eq_true rfl) (Nat.le_of_ble_eq_true rfl) ⟨f13, rfl, fq25, bn13, (by show (vh13 3) = 0; omega)⟩
          · refine m_aload_n (j := 3) C dX12_head_30 rfl ?_
            refine m_geta (k := 2) C dX12_head_31 w6_61 (by decide) rfl ?_
            refine m_iload (j := 0) C dX12_head_34 rfl ?_
            refine m_ald (k := 2) C dX12_head_36 rfl rfl (by decide) (by omega) (by show _ < ((_ : Nat) : Int); simp only [mlen]; omega) (by decide) ?_
            have ra5 : (-2147483648) ≤ ab2 2 k.toNat ∧ ab2 2 k.toNat ≤ 2147483647 := bxb2.2 2 (k.toNat)
            have ae3 : ab2 2 (k.toNat) = a 2 (k.toNat) := congrFun (fpb2.2 2 rfl) (k.toNat)
            refine m_st (st2 := [.int (iI (a 2 k.toNat))]) (congrArg (fun z => Value.int (iI z) :: []) (congrFun (fpb2.2 2 rfl) (k.toNat))) ?_
            refine m_callS (As := [.int (iI (a 2 k.toNat))]) (rest := []) C (fun L E => s_isLetter (iI (a 2 k.toNat))) dX12_head_37 kS_X12_199 rfl rfl (Nat.le_of_ble_eq_true rfl) ⟨Nat.le_of_ble_eq_true rfl, Nat.le_of_ble_eq_true rfl⟩ ⟨Nat.le_of_ble_eq_true rfl, Nat.le_of_ble_eq_true rfl⟩ ?_
            rcases inn_c (x := a 2 k.toNat) (lo := 33) (hi := 125) ⟨by omega, by omega⟩ ⟨by decide, by decide⟩ ⟨by decide, by decide⟩ with ⟨h14a, h14b, h14e⟩ | ⟨h14a, h14e⟩
            · refine m_st (st2 := [.int (iI 1)]) (by rw [show inn (iI (a 2 k.toNat)) 33 125 = iI 1 from h14e]) ?_
              refine m_istore_n (lv2 := [(3, .int (iI 1)), (4, .int (iI k)), (2, .int (iI f1)), (0, .ref h0), (1, .int (iI t))]) C dX12_head_40 (by decide) rfl ?_
              refine m_iinc (z := k) (j := 1) (lv2 := [(4, .int (iI (k + 1))), (3, .int (iI 1)), (2, .int (iI f1)), (0, .ref h0), (1, .int (iI t))]) C dX12_head_41 rfl (by decide) rfl ?_
              refine m_goto (tgt := 20) C dX12_head_44 (by decide) ?_
              have rv35 : 0 ≤ vb2 3 ∧ vb2 3 ≤ 3000 := bxb2.1 3
              refine m_lv (lv2 := [(4, .int (iI (k + 1))), (3, .int (iI 1)), (2, .int (iI f1)), (0, .ref h0), (1, .int (iI t))]) [0, 1, 2, 3, 4] rfl ?_
              exact ih1  1 (k + 1) _ _ (by omega) bxb2 fpb2 (by omega) (by omega) (by show (vb2 3) = 0; omega)
            · refine m_st (st2 := [.int (iI 0)]) (by rw [show inn (iI (a 2 k.toNat)) 33 125 = iI 0 from h14e]) ?_
              refine m_istore_n (lv2 := [(3, .int (iI 0)), (4, .int (iI k)), (2, .int (iI f1)), (0, .ref h0), (1, .int (iI t))]) C dX12_head_40 (by decide) rfl ?_
              refine m_iinc (z := k) (j := 1) (lv2 := [(4, .int (iI (k + 1))), (3, .int (iI 0)), (2, .int (iI f1)), (0, .ref h0), (1, .int (iI t))]) C dX12_head_41 rfl (by decide) rfl ?_
              refine m_goto (tgt := 20) C dX12_head_44 (by decide) ?_
              have rv36 : 0 ≤ vb2 3 ∧ vb2 3 ≤ 3000 := bxb2.1 3
              refine m_lv (lv2 := [(4, .int (iI (k + 1))), (3, .int (iI 0)), (2, .int (iI f1)), (0, .ref h0), (1, .int (iI t))]) [0, 1, 2, 3, 4] rfl ?_
              exact ih1  0 (k + 1) _ _ (by omega) bxb2 fpb2 (by omega) (by omega) (by show (vb2 3) = 0; omega)
    have rv37 : 0 ≤ vb1 3 ∧ vb1 3 ≤ 3000 := bxb1.1 3
    refine m_lv (lv2 := [(4, .int (iI 0)), (3, .int (iI g)), (2, .int (iI f1)), (0, .ref h0), (1, .int (iI t))]) [0, 1, 2, 3, 4] rfl ?_
    exact Lp1 3002 g 0 _ _ (by omega) bxb1 fpb1 (by omega) (by omega) (by show (vb1 3) = 0; omega)
  refine m_icmp_gt (tgt := 15) C ⟨by omega, by omega⟩ ⟨by decide, by decide⟩ dX12_head_8 (by decide) (fun c15 => ?_) (fun c15 => ?_)
  · refine m_iconst C dX12_head_15 ?_
    refine m_lv (lv2 := [(2, .int (iI f1)), (0, .ref h0), (1, .int (iI t))]) [0, 1, 2] rfl ?_
    exact J1  0 _ _  bn1 fq1 (by omega) (by show (vh1 3) = 0; omega)
  · refine m_iconst C dX12_head_11 ?_
    refine m_goto (tgt := 16) C dX12_head_12 (by decide) ?_
    refine m_lv (lv2 := [(2, .int (iI f1)), (0, .ref h0), (1, .int (iI t))]) [0, 1, 2] rfl ?_
    exact J1  1 _ _  bn1 fq1 (by omega) (by show (vh1 3) = 0; omega)
