def mmin (x y : Int32) : Int32 := if y < x then y else x
theorem mmin_c {x y : Int} (hx : R32 x) (hy : R32 y) : ∃ w : Int, ((w = x ∧ x ≤ y) ∨ (w = y ∧ y < x)) ∧ mmin (iI x) (iI y) = iI w := by
  unfold mmin
  by_cases h : y < x
  · exact ⟨y, Or.inr ⟨rfl, h⟩, if_pos ((iI_lt hy hx).mpr h)⟩
  · exact ⟨x, Or.inl ⟨rfl, by omega⟩, if_neg (fun q => h ((iI_lt hy hx).mp q))⟩
theorem mmax_c {x y : Int} (hx : R32 x) (hy : R32 y) : ∃ w : Int, ((w = x ∧ y ≤ x) ∨ (w = y ∧ x < y)) ∧ (if iI x < iI y then iI y else iI x) = iI w := by
  by_cases h : x < y
  · exact ⟨y, Or.inr ⟨rfl, h⟩, if_pos ((iI_lt hx hy).mpr h)⟩
  · exact ⟨x, Or.inl ⟨rfl, by omega⟩, if_neg (fun q => h ((iI_lt hx hy).mp q))⟩
theorem m_mmin {p : Program} {l : Launch} {e : Env} {R : Room} {s : State} {m : MethodId} {args : Array Value} {below : List Frame} {meth : Method} {c : Code} {cc : ByteArray} {y : MethodName} {ret : Option FieldType} {G : GT} {A : Nat → Prop} {nL : Nat} {Q : State → Prop} {h0 : Nat} {ad ln : Nat → Nat} {v : Nat → Int} {a : Nat → Nat → Int} {kc ks pc : Nat} {lv : List (Nat × Value)} {st : List Value} (C : Cq p s m args meth c cc y ret G A nL) {idx : Nat} {x y2 w : Int32} (d : decode cc pc = .ok (.invokestatic idx, 3)) (lk : Cond.methodLink y.cls idx Lib.Math.min.name ∈ lw_g) (h1 : Cond.static Lib.Math.min.name ∈ lw_g) (h2 : Cond.initialized "java/lang/Math" ∈ lw_g) (h3 : Cond.code Lib.Math.min.name Lib.Math.min.code 2 (some .int) ∈ lw_g) (hR : 1 ≤ R.frames ∧ 21 ≤ R.locals) (hf : kc ≤ R.cells ∧ ks ≤ R.slots) (hst : (st.map fun v => v.category).sum ≤ 8) (hv : (if y2 < x then y2 else x) = w) (kk : mw p l e R s m args below meth c G A nL Q h0 ad ln v a kc ks (pc + 3) lv (.int w :: st)) : mw p l e R s m args below meth c G A nL Q h0 ad ln v a kc ks pc lv (.int y2 :: .int x :: st) := fun L E h => q_mmin C d lk h1 h2 h3 hR hf hst hv (kk L E h)
theorem m_mmax {p : Program} {l : Launch} {e : Env} {R : Room} {s : State} {m : MethodId} {args : Array Value} {below : List Frame} {meth : Method} {c : Code} {cc : ByteArray} {y : MethodName} {ret : Option FieldType} {G : GT} {A : Nat → Prop} {nL : Nat} {Q : State → Prop} {h0 : Nat} {ad ln : Nat → Nat} {v : Nat → Int} {a : Nat → Nat → Int} {kc ks pc : Nat} {lv : List (Nat × Value)} {st : List Value} (C : Cq p s m args meth c cc y ret G A nL) {idx : Nat} {x y2 w : Int32} (d : decode cc pc = .ok (.invokestatic idx, 3)) (lk : Cond.methodLink y.cls idx Lib.Math.max.name ∈ lw_g) (h1 : Cond.static Lib.Math.max.name ∈ lw_g) (h2 : Cond.initialized "java/lang/Math" ∈ lw_g) (h3 : Cond.code Lib.Math.max.name Lib.Math.max.code 2 (some .int) ∈ lw_g) (hR : 1 ≤ R.frames ∧ 21 ≤ R.locals) (hf : kc ≤ R.cells ∧ ks ≤ R.slots) (hst : (st.map fun v => v.category).sum ≤ 8) (hv : (if x < y2 then y2 else x) = w) (kk : mw p l e R s m args below meth c G A nL Q h0 ad ln v a kc ks (pc + 3) lv (.int w :: st)) : mw p l e R s m args below meth c G A nL Q h0 ad ln v a kc ks pc lv (.int y2 :: .int x :: st) := fun L E h => q_mmax C d lk h1 h2 h3 hR hf hst hv (kk L E h)
set_option maxHeartbeats 4000000 in
set_option maxRecDepth 100000 in
theorem s_isLetter {l : Launch} {G : GT} {L : List Nat} {E : Nat → va_E} (x : Int32) : Mq l G yX12_isLetter cX12_isLetter 1 (some .boolean) 1 [.int x] L E 0 0 (fun v L2 E2 => v = some (.int (inn x 33 125)) ∧ L2 = L ∧ E2 = E) := by
  refine Mq.mk (by decide) (Nat.le_of_ble_eq_true rfl) ?_
  intro p e s m args below meth c A C
  refine q_iload_n (j := 0) C dX12_isLetter_0 rfl ?_
  refine q_bipush (v := 33) C dX12_isLetter_1 (by decide) ?_
  refine q_bipush (v := 125) C dX12_isLetter_3 (by decide) ?_
  refine q_callS (mc2 := 0) (ms2 := 0) (As := [.int x, .int 33, .int 125]) (rest := []) C (s_isIn x 33 125) dX12_isLetter_5 kS_X12_174 rfl rfl (Nat.le_of_ble_eq_true rfl) ⟨Nat.le_of_ble_eq_true rfl, Nat.le_of_ble_eq_true rfl⟩ ⟨Nat.le_of_ble_eq_true rfl, Nat.le_of_ble_eq_true rfl⟩ (fun vh1 Lh1 Eh1 h1 => ?_)
  obtain ⟨rfl, rfl, rfl⟩ := h1
  refine q_st (st2 := [.int (inn x 33 125)]) rfl ?_
  exact q_zret C dX12_isLetter_8 rfl (by unfold inn; split <;> rfl) (Nat.le_of_ble_eq_true rfl) (Nat.le_of_ble_eq_true rfl) ⟨rfl, rfl, rfl⟩
set_option maxHeartbeats 4000000 in
set_option maxRecDepth 100000 in
theorem M_head {l : Launch} {G : GT} {h0 : Nat} {ad ln : Nat → Nat} {v : Nat → Int} {a : Nat → Nat → Int}  {t : Int} (hB : BX v a) (hT : TBL v a) (ht : -2147483648 ≤ t ∧ t ≤ 2147483647) : Mm l G yX12_head cX12_head 5 (some .int) 66 [.int (iI t)] h0 ad ln v a 0 0 (fun r v2 a2 => ∃ f : Int, r = some (.int (iI f)) ∧ fr [0, 1, 3, 23, 25, 28, 41] [20, 21, 24, 26, 27, 40] v a v2 a2 ∧ BX v2 a2 ∧ (v2 3 = 0)) := by
  refine Mm.mk (by decide) (Nat.le_of_ble_eq_true rfl) ?_
  intro p e s m args below meth c A C
  refine hv2 (show 0 ≤ v 4 ∧ v 4 ≤ 30 from hB.1 4) (show fr [0, 1, 3, 23, 25, 28, 41] [20, 21, 24, 26, 27, 40] v a v a from fr.refl) (fun h30 fp0 => ?_)
  refine m_aload_n (j := 0) C dX12_head_0 rfl ?_
  have rv1 : 0 ≤ v 3 ∧ v 3 ≤ 3000 := hB.1 3
  refine m_call (mc2 := 0) (ms2 := 0) (As := []) (rest := []) C (B_taken  hB ) dX12_head_1 kV_X12_192 rfl ck_13 rfl (Nat.le_of_ble_eq_true rfl) ⟨Nat.le_of_ble_eq_true rfl, Nat.le_of_ble_eq_true rfl⟩ ⟨Nat.le_of_ble_eq_true rfl, Nat.le_of_ble_eq_true rfl⟩ (fun rh1 vh1 ah1 h1 => ?_)
  obtain ⟨f1, rfl, fn1, bn1, ex1⟩ := h1
  refine hv3 (fp0.call fn1 rfl rfl) (show 0 ≤ vh1 3 ∧ vh1 3 ≤ 3000 from bn1.1 3) (show f1 = (v 3) ∧ (vh1 3) = 0 from ex1) (fun fq1 rv2 gf1 => ?_)
  refine m_st (st2 := [.int (iI f1)]) rfl ?_
  refine m_istore_n (lv2 := [(2, .int (iI f1)), (0, .ref h0), (1, .int (iI t))]) C dX12_head_4 (by decide) rfl ?_
  refine m_iload_n (j := 0) C dX12_head_5 rfl ?_
  refine m_bipush (z := 40) C dX12_head_6 (by decide) ?_
  have J1 : ∀ (g : Int) (vb1 : Nat → Int) (ab1 : Nat → Nat → Int), BX vb1 ab1 → fr [0, 1, 3, 23, 25, 28, 41] [20, 21, 24, 26, 27, 40] v a vb1 ab1 → (g = 0 ∨ (g = 1 ∧ f1 ≤ 40)) → (vb1 3 = 0) → mw p l e (rmq 66 0 0) s m args below meth c G A 5 (MQ below (Qm G A (fun rq Lq Eq => ∃ (vq : Nat → Int) (aq : Nat → Nat → Int), mI G h0 ad ln vq aq Lq Eq ∧ (fun r v2 a2 => ∃ f : Int, r = some (.int (iI f)) ∧ fr [0, 1, 3, 23, 25, 28, 41] [20, 21, 24, 26, 27, 40] v a v2 a2 ∧ BX v2 a2 ∧ (v2 3 = 0)) rq vq aq)) args s 0 0 A) h0 ad ln vb1 ab1 0 0 16 [(2, .int (iI f1)), (0, .ref h0), (1, .int (iI t))] [.int (iI g)] := by
    intro g vb1 ab1 bxb1 fpb1 hg hz31
    refine m_istore_n (lv2 := [(3, .int (iI g)), (2, .int (iI f1)), (0, .ref h0), (1, .int (iI t))]) C dX12_head_16 (by decide) rfl ?_
    refine m_iconst C dX12_head_17 ?_
    refine m_istore (lv2 := [(4, .int (iI 0)), (3, .int (iI g)), (2, .int (iI f1)), (0, .ref h0), (1, .int (iI t))]) C dX12_head_18 (by decide) rfl ?_
    have Lp1 : ∀ (nn : Nat) (g1 k : Int) (vb2 : Nat → Int) (ab2 : Nat → Nat → Int), 3001 - k < (nn : Int) → BX vb2 ab2 → fr [0, 1, 3, 23, 25, 28, 41] [20, 21, 24, 26, 27, 40] v a vb2 ab2 → (g1 = 0 ∨ (g1 = 1 ∧ f1 ≤ 40)) → (0 ≤ k ∧ k ≤ f1) → (vb2 3 = 0) → mw p l e (rmq 66 0 0) s m args below meth c G A 5 (MQ below (Qm G A (fun rq Lq Eq => ∃ (vq : Nat → Int) (aq : Nat → Nat → Int), mI G h0 ad ln vq aq Lq Eq ∧ (fun r v2 a2 => ∃ f : Int, r = some (.int (iI f)) ∧ fr [0, 1, 3, 23, 25, 28, 41] [20, 21, 24, 26, 27, 40] v a v2 a2 ∧ BX v2 a2 ∧ (v2 3 = 0)) rq vq aq)) args s 0 0 A) h0 ad ln vb2 ab2 0 0 20 [(4, .int (iI k)), (3, .int (iI g1)), (2, .int (iI f1)), (0, .ref h0), (1, .int (iI t))] [] := by
      intro nn
      induction nn with
      | zero =>
        intro g1 k vb2 ab2 hm bxb2 fpb2 hg1 hk hz32
        exact absurd hm (by omega)
      | succ nn ih1 =>
        intro g1 k vb2 ab2 hm bxb2 fpb2 hg1 hk hz32
        refine m_iload (j := 0) C dX12_head_20 rfl ?_
        refine m_iload_n (j := 2) C dX12_head_22 rfl ?_
        refine m_icmp_ge (tgt := 47) C ⟨by omega, by omega⟩ ⟨by omega, by omega⟩ dX12_head_23 (by decide) (fun c1 => ?_) (fun c1 => ?_)
        · refine m_iload_n (j := 1) C dX12_head_47 rfl ?_
          refine m_if_ne (tgt := 58) C ⟨by omega, by omega⟩ dX12_head_48 (by decide) (fun c2 => ?_) (fun c2 => ?_)
          · refine m_aload_n (j := 3) C dX12_head_58 rfl ?_
            refine m_iload_n (j := 4) C dX12_head_59 rfl ?_
            refine hv2 (show 0 ≤ vb2 4 ∧ vb2 4 ≤ 30 from bxb2.1 4) (show vb2 4 = v 4 from fpb2.1 4 rfl) (fun rv3 ve1 => ?_)
            refine m_call (mc2 := 0) (ms2 := 0) (As := [.int (iI t)]) (rest := []) C (M_isWhole (t := t) bxb2 (hT.fr fpb2 rfl rfl) (by show -2147483648 ≤ t ∧ t ≤ 2147483647; omega)) dX12_head_60 kV_X12_171 rfl ck_13 rfl (Nat.le_of_ble_eq_true rfl) ⟨Nat.le_of_ble_eq_true rfl, Nat.le_of_ble_eq_true rfl⟩ ⟨Nat.le_of_ble_eq_true rfl, Nat.le_of_ble_eq_true rfl⟩ (fun rh2 vh2 ah2 h2 => ?_)
            obtain ⟨f2, rfl, fn2, bn2, ex2⟩ := h2
            obtain ⟨rfl, rfl⟩ := fn2.eq
            have gf2 : f2 = 0 ∨ (f2 = 1 ∧ 0 ≤ t ∧ t < (vb2 4)) := ex2
            refine m_st (st2 := [.int (iI f2)]) rfl ?_
            refine m_if_ne (tgt := 72) C ⟨by omega, by omega⟩ dX12_head_63 (by decide) (fun c3 => ?_) (fun c3 => ?_)
            · replace gf2 := gf2.resolve_left c3
              refine m_aload_n (j := 3) C dX12_head_72 rfl ?_
              refine m_iload_n (j := 2) C dX12_head_73 rfl ?_
              refine m_put (k := 23) (z := f1) C dX12_head_74 w6_82 (by decide) rfl rfl rfl ?_
              refine hv2 (show BX (va_up vb2 23 f1) ab2 from bxb2.put (k := 23) (z := f1) (show 0 ≤ f1 ∧ f1 ≤ 500 by omega)) (fpb2.put (k := 23) (z := f1) rfl) (fun bq1 fq3 => ?_)
              refine m_iconst C dX12_head_77 ?_
              refine m_istore (lv2 := [(4, .int (iI 0)), (3, .int (iI g1)), (2, .int (iI f1)), (0, .ref h0), (1, .int (iI t))]) C dX12_head_78 (by decide) rfl ?_
              have Lp2 : ∀ (nn : Nat) (k1 : Int) (vb3 : Nat → Int) (ab3 : Nat → Nat → Int), 41 - k1 < (nn : Int) → BX vb3 ab3 → fr [0, 1, 3, 23, 25, 28, 41] [20, 21, 24, 26, 27, 40] v a vb3 ab3 → (0 ≤ k1 ∧ k1 ≤ f1) → (vb3 3 = 0) → mw p l e (rmq 66 0 0) s m args below meth c G A 5 (MQ below (Qm G A (fun rq Lq Eq => ∃ (vq : Nat → Int) (aq : Nat → Nat → Int), mI G h0 ad ln vq aq Lq Eq ∧ (fun r v2 a2 => ∃ f : Int, r = some (.int (iI f)) ∧ fr [0, 1, 3, 23, 25, 28, 41] [20, 21, 24, 26, 27, 40] v a v2 a2 ∧ BX v2 a2 ∧ (v2 3 = 0)) rq vq aq)) args s 0 0 A) h0 ad ln vb3 ab3 0 0 80 [(4, .int (iI k1)), (3, .int (iI g1)), (2, .int (iI f1)), (0, .ref h0), (1, .int (iI t))] [] := by
                intro nn
                induction nn with
                | zero =>
                  intro k1 vb3 ab3 hm bxb3 fpb3 hk1 hz33
                  exact absurd hm (by omega)
                | succ nn ih2 =>
                  intro k1 vb3 ab3 hm bxb3 fpb3 hk1 hz33
                  refine m_iload (j := 0) C dX12_head_80 rfl ?_
                  refine m_iload_n (j := 2) C dX12_head_82 rfl ?_
                  refine m_icmp_ge (tgt := 115) C ⟨by omega, by omega⟩ ⟨by omega, by omega⟩ dX12_head_83 (by decide) (fun c4 => ?_) (fun c4 => ?_)
                  · refine m_iload_n (j := 2) C dX12_head_115 rfl ?_
                    have J2 : ∀ (vb4 : Nat → Int) (ab4 : Nat → Nat → Int), BX vb4 ab4 → fr [0, 1, 3, 23, 25, 28, 41] [20, 21, 24, 26, 27, 40] v a vb4 ab4 → (vb4 25 ≤ 200) → (vb4 3 = 0) → mw p l e (rmq 66 0 0) s m args below meth c G A 5 (MQ below (Qm G A (fun rq Lq Eq => ∃ (vq : Nat → Int) (aq : Nat → Nat → Int), mI G h0 ad ln vq aq Lq Eq ∧ (fun r v2 a2 => ∃ f : Int, r = some (.int (iI f)) ∧ fr [0, 1, 3, 23, 25, 28, 41] [20, 21, 24, 26, 27, 40] v a v2 a2 ∧ BX v2 a2 ∧ (v2 3 = 0)) rq vq aq)) args s 0 0 A) h0 ad ln vb4 ab4 0 0 140 [(4, .int (iI k1)), (3, .int (iI g1)), (2, .int (iI f1)), (0, .ref h0), (1, .int (iI t))] [] := by
                      intro  vb4 ab4 bxb4 fpb4 hm hz34
                      refine m_aload_n (j := 3) C dX12_head_140 rfl ?_
                      refine m_aload_n (j := 3) C dX12_head_141 rfl ?_
                      have rv4 : 0 ≤ vb4 25 ∧ vb4 25 ≤ 208 := bxb4.1 25
                      refine m_get (k := 25) C dX12_head_142 w6_84 (by decide) rfl ?_
                      refine m_aload_n (j := 3) C dX12_head_145 rfl ?_
                      refine hv2 (show 1 ≤ vb4 31 ∧ vb4 31 ≤ 100 from bxb4.1 31) (show vb4 31 = v 31 from fpb4.1 31 rfl) (fun rv5 ve2 => ?_)
                      refine m_get (k := 31) C dX12_head_146 w6_90 (by decide) rfl ?_
                      refine m_st (st2 := [.int (iI (v 31)), .int (iI (vb4 25)), .ref h0]) (congrArg (fun z => Value.int (iI z) :: [.int (iI (vb4 25)), .ref h0]) (fpb4.1 31 rfl)) ?_
                      obtain ⟨mn1, hmn1, emn1⟩ := mmin_c (x := vb4 25) (y := v 31) ⟨by omega, by omega⟩ ⟨by omega, by omega⟩
                      refine m_mmin (w := iI mn1) C dX12_head_149 w7_189 w2_129 w1_14 w2_130 ⟨Nat.le_of_ble_eq_true rfl, Nat.le_of_ble_eq_true rfl⟩ ⟨Nat.le_of_ble_eq_true rfl, Nat.le_of_ble_eq_true rfl⟩ (Nat.le_of_ble_eq_true rfl) emn1 ?_
                      refine m_put (k := 41) (z := mn1) C dX12_head_152 w6_100 (by decide) rfl rfl rfl ?_
                      refine hv2 (show BX (va_up vb4 41 mn1) ab4 from bxb4.put (k := 41) (z := mn1) (show 0 ≤ mn1 ∧ mn1 ≤ 200 by omega)) (fpb4.put (k := 41) (z := mn1) rfl) (fun bq2 fq4 => ?_)
                      refine m_iconst C dX12_head_155 ?_
                      refine m_istore (lv2 := [(4, .int (iI 0)), (3, .int (iI g1)), (2, .int (iI f1)), (0, .ref h0), (1, .int (iI t))]) C dX12_head_156 (by decide) rfl ?_
                      have Lp3 : ∀ (nn : Nat) (k2 : Int) (vb5 : Nat → Int) (ab5 : Nat → Nat → Int), 201 - k2 < (nn : Int) → BX vb5 ab5 → fr [0, 1, 3, 23, 25, 28, 41] [20, 21, 24, 26, 27, 40] v a vb5 ab5 → (0 ≤ k2 ∧ k2 ≤ 200) → (vb5 3 = 0) → mw p l e (rmq 66 0 0) s m args below meth c G A 5 (MQ below (Qm G A (fun rq Lq Eq => ∃ (vq : Nat → Int) (aq : Nat → Nat → Int), mI G h0 ad ln vq aq Lq Eq ∧ (fun r v2 a2 => ∃ f : Int, r = some (.int (iI f)) ∧ fr [0, 1, 3, 23, 25, 28, 41] [20, 21, 24, 26, 27, 40] v a v2 a2 ∧ BX v2 a2 ∧ (v2 3 = 0)) rq vq aq)) args s 0 0 A) h0 ad ln vb5 ab5 0 0 158 [(4, .int (iI k2)), (3, .int (iI g1)), (2, .int (iI f1)), (0, .ref h0), (1, .int (iI t))] [] := by
                        intro nn
                        induction nn with
                        | zero =>
                          intro k2 vb5 ab5 hm bxb5 fpb5 hk2 hz35
                          exact absurd hm (by omega)
                        | succ nn ih3 =>
                          intro k2 vb5 ab5 hm bxb5 fpb5 hk2 hz35
                          refine m_iload (j := 0) C dX12_head_158 rfl ?_
                          refine m_aload_n (j := 3) C dX12_head_160 rfl ?_
                          have rv6 : 0 ≤ vb5 41 ∧ vb5 41 ≤ 200 := bxb5.1 41
                          refine m_get (k := 41) C dX12_head_161 w6_100 (by decide) rfl ?_
                          refine m_icmp_ge (tgt := 187) C ⟨by omega, by omega⟩ ⟨by omega, by omega⟩ dX12_head_164 (by decide) (fun c5 => ?_) (fun c5 => ?_)
                          · refine m_aload_n (j := 3) C dX12_head_187 rfl ?_
                            refine m_aload_n (j := 3) C dX12_head_188 rfl ?_
                            refine m_get (k := 41) C dX12_head_189 w6_100 (by decide) rfl ?_
                            refine m_call (mc2 := 0) (ms2 := 0) (As := [.int (iI (vb5 41))]) (rest := []) C (B_fine (x := vb5 41) bxb5 (by show -2147483648 ≤ (vb5 41) ∧ (vb5 41) ≤ 2147483647; omega)) dX12_head_192 kV_X12_158 rfl ck_13 rfl (Nat.le_of_ble_eq_true rfl) ⟨Nat.le_of_ble_eq_true rfl, Nat.le_of_ble_eq_true rfl⟩ ⟨Nat.le_of_ble_eq_true rfl, Nat.le_of_ble_eq_true rfl⟩ (fun rh3 vh3 ah3 h3 => ?_)
                            obtain ⟨f3, rfl, fn3, bn3, ex3⟩ := h3
                            refine hv2 (fpb5.call fn3 rfl rfl) (show f3 = (vb5 41) from ex3) (fun fq5 gf3 => ?_)
                            refine m_st (st2 := [.int (iI f3)]) rfl ?_
                            refine hv2 (show 0 ≤ vh3 3 ∧ vh3 3 ≤ 3000 from bn3.1 3) (show vh3 3 = vb5 3 from fn3.1 3 rfl) (fun rv7 ve3 => ?_)
                            exact m_iret C dX12_head_195 rfl (Nat.le_of_ble_eq_true rfl) (Nat.le_of_ble_eq_true rfl) ⟨f3, rfl, fq5, bn3, (by show (vh3 3) = 0; omega)⟩
                          · refine m_aload_n (j := 3) C dX12_head_167 rfl ?_
                            refine m_geta (k := 40) C dX12_head_168 w6_99 (by decide) rfl ?_
                            refine m_iload (j := 0) C dX12_head_171 rfl ?_
                            refine m_aload_n (j := 3) C dX12_head_173 rfl ?_
                            refine m_geta (k := 24) C dX12_head_174 w6_83 (by decide) rfl ?_
                            refine m_iload (j := 0) C dX12_head_177 rfl ?_
                            refine m_ald (k := 24) C dX12_head_179 rfl rfl (by decide) (by omega) (by show _ < ((_ : Nat) : Int); simp only [mlen]; omega) (by decide) ?_
                            have ra1 : (-2147483648) ≤ ab5 24 k2.toNat ∧ ab5 24 k2.toNat ≤ 2147483647 := bxb5.2 24 (k2.toNat)
                            refine m_ast (k := 40) C dX12_head_180 rfl rfl (by decide) (by omega) (by show _ < ((_ : Nat) : Int); simp only [mlen]; omega) (by decide) ?_
                            refine hv2 (show BX vb5 (up2 ab5 40 k2.toNat (ab5 24 k2.toNat)) from bxb5.set (k := 40) (i := k2.toNat) (z := ab5 24 k2.toNat) (show (-2147483648) ≤ (ab5 24 k2.toNat) ∧ (ab5 24 k2.toNat) ≤ 2147483647 by omega)) (fpb5.set (k := 40) (i := k2.toNat) (z := ab5 24 k2.toNat) rfl) (fun bq3 fq6 => ?_)
                            refine m_iinc (z := k2) (j := 0) (lv2 := [(4, .int (iI (k2 + 1))), (3, .int (iI g1)), (2, .int (iI f1)), (0, .ref h0), (1, .int (iI t))]) C dX12_head_181 rfl (by decide) rfl ?_
                            refine m_goto (tgt := 158) C dX12_head_184 (by decide) ?_
                            have rv8 : 0 ≤ vb5 3 ∧ vb5 3 ≤ 3000 := bq3.1 3
                            refine m_lv (lv2 := [(4, .int (iI (k2 + 1))), (3, .int (iI g1)), (2, .int (iI f1)), (0, .ref h0), (1, .int (iI t))]) [0, 1, 2, 3, 4] rfl ?_
                            exact ih3  (k2 + 1) _ _ (by omega) bq3 fq6 (by omega) (by show (vb5 3) = 0; omega)
                      have rv9 : 0 ≤ vb4 3 ∧ vb4 3 ≤ 3000 := bq2.1 3
                      refine m_lv (lv2 := [(4, .int (iI 0)), (3, .int (iI g1)), (2, .int (iI f1)), (0, .ref h0), (1, .int (iI t))]) [0, 1, 2, 3, 4] rfl ?_
                      exact Lp3 202 0 _ _ (by omega) bq2 fq4 (by omega) (by show (vb4 3) = 0; omega)
                    refine m_if_ne (tgt := 127) C ⟨by omega, by omega⟩ dX12_head_116 (by decide) (fun c6 => ?_) (fun c6 => ?_)
                    · refine m_aload_n (j := 3) C dX12_head_127 rfl ?_
                      refine m_iload_n (j := 4) C dX12_head_128 rfl ?_
                      refine hv2 (show 0 ≤ vb3 4 ∧ vb3 4 ≤ 30 from bxb3.1 4) (show vb3 4 = v 4 from fpb3.1 4 rfl) (fun rv10 ve4 => ?_)
                      refine m_call (mc2 := 0) (ms2 := 0) (As := [.int (iI t)]) (rest := []) C (M_setWord (t := t) bxb3 (hT.fr fpb3 rfl rfl) (by show 0 ≤ t ∧ t < (vb3 4); omega)) dX12_head_129 kV_X12_267 rfl ck_13 rfl (Nat.le_of_ble_eq_true rfl) ⟨Nat.le_of_ble_eq_true rfl, Nat.le_of_ble_eq_true rfl⟩ ⟨Nat.le_of_ble_eq_true rfl, Nat.le_of_ble_eq_true rfl⟩ (fun rh4 vh4 ah4 h4 => ?_)
                      obtain ⟨f4, rfl, fn4, bn4, ex4⟩ := h4
                      refine hv3 (fpb3.call fn4 rfl rfl) (show 0 ≤ vh4 25 ∧ vh4 25 ≤ 208 from bn4.1 25) (show f4 = 0 ∨ (f4 = 1 ∧ (vh4 25) ≤ 200) from ex4) (fun fq7 rv11 gf4 => ?_)
                      refine m_st (st2 := [.int (iI f4)]) rfl ?_
                      refine m_if_ne (tgt := 140) C ⟨by omega, by omega⟩ dX12_head_132 (by decide) (fun c7 => ?_) (fun c7 => ?_)
                      · replace gf4 := gf4.resolve_left c7
                        refine hv2 (show 0 ≤ vh4 3 ∧ vh4 3 ≤ 3000 from bn4.1 3) (show vh4 3 = vb3 3 from fn4.1 3 rfl) (fun rv12 ve5 => ?_)
                        refine m_lv (lv2 := [(4, .int (iI k1)), (3, .int (iI g1)), (2, .int (iI f1)), (0, .ref h0), (1, .int (iI t))]) [0, 1, 2, 3, 4] rfl ?_
                        exact J2   _ _  bn4 fq7 (by show (vh4 25) ≤ 200; omega) (by show (vh4 3) = 0; omega)
                      · clear gf4
                        refine m_aload_n (j := 3) C dX12_head_135 rfl ?_
                        refine m_call (mc2 := 0) (ms2 := 0) (As := []) (rest := []) C (B_notSet  bn4 ) dX12_head_136 kV_X12_270 rfl ck_13 rfl (Nat.le_of_ble_eq_true rfl) ⟨Nat.le_of_ble_eq_true rfl, Nat.le_of_ble_eq_true rfl⟩ ⟨Nat.le_of_ble_eq_true rfl, Nat.le_of_ble_eq_true rfl⟩ (fun rh5 vh5 ah5 h5 => ?_)
                        obtain ⟨f5, rfl, fn5, bn5, ex5⟩ := h5
                        refine hv2 (fq7.call fn5 rfl rfl) (show f5 = -1 from ex5) (fun fq8 gf5 => ?_)
                        refine m_st (st2 := [.int (iI f5)]) rfl ?_
                        refine hv3 (show 0 ≤ vh5 3 ∧ vh5 3 ≤ 3000 from bn5.1 3) (show vh5 3 = vh4 3 from fn5.1 3 rfl) (show vh4 3 = vb3 3 from fn4.1 3 rfl) (fun rv13 ve6 ve7 => ?_)
                        exact m_iret C dX12_head_139 rfl (Nat.le_of_ble_eq_true rfl) (Nat.le_of_ble_eq_true rfl) ⟨f5, rfl, fq8, bn5, (by show (vh5 3) = 0; omega)⟩
                    · refine m_aload_n (j := 3) C dX12_head_119 rfl ?_
                      refine m_iconst C dX12_head_120 ?_
                      refine m_put (k := 25) (z := 0) C dX12_head_121 w6_84 (by decide) rfl rfl rfl ?_
                      refine hv2 (show BX (va_up vb3 25 0) ab3 from bxb3.put (k := 25) (z := 0) ⟨by decide, by decide⟩) (fpb3.put (k := 25) (z := 0) rfl) (fun bq4 fq9 => ?_)
                      refine m_goto (tgt := 140) C dX12_head_124 (by decide) ?_
                      have rv14 : 0 ≤ vb3 3 ∧ vb3 3 ≤ 3000 := bq4.1 3
                      refine m_lv (lv2 := [(4, .int (iI k1)), (3, .int (iI g1)), (2, .int (iI f1)), (0, .ref h0), (1, .int (iI t))]) [0, 1, 2, 3, 4] rfl ?_
                      exact J2   _ _  bq4 fq9 (by show 0 ≤ 200; omega) (by show (vb3 3) = 0; omega)
                  · refine m_aload_n (j := 3) C dX12_head_86 rfl ?_
                    refine m_geta (k := 20) C dX12_head_87 w6_79 (by decide) rfl ?_
                    refine m_iload (j := 0) C dX12_head_90 rfl ?_
                    refine m_aload_n (j := 3) C dX12_head_92 rfl ?_
                    refine m_geta (k := 2) C dX12_head_93 w6_61 (by decide) rfl ?_
                    refine m_iload (j := 0) C dX12_head_96 rfl ?_
                    refine m_ald (k := 2) C dX12_head_98 rfl rfl (by decide) (by omega) (by show _ < ((_ : Nat) : Int); simp only [mlen]; omega) (by decide) ?_
                    refine hv2 (show (-2147483648) ≤ ab3 2 k1.toNat ∧ ab3 2 k1.toNat ≤ 2147483647 from bxb3.2 2 (k1.toNat)) (show ab3 2 (k1.toNat) = a 2 (k1.toNat) from congrFun (fpb3.2 2 rfl) (k1.toNat)) (fun ra2 ae1 => ?_)
                    refine m_st (st2 := [.int (iI (a 2 k1.toNat)), .int (iI k1), .ref (ad 20)]) (congrArg (fun z => Value.int (iI z) :: [.int (iI k1), .ref (ad 20)]) (congrFun (fpb3.2 2 rfl) (k1.toNat))) ?_
                    refine m_ast (k := 20) C dX12_head_99 rfl rfl (by decide) (by omega) (by show _ < ((_ : Nat) : Int); simp only [mlen]; omega) (by decide) ?_
                    refine hv2 (show BX vb3 (up2 ab3 20 k1.toNat (a 2 k1.toNat)) from bxb3.set (k := 20) (i := k1.toNat) (z := a 2 k1.toNat) (show (-2147483648) ≤ (a 2 k1.toNat) ∧ (a 2 k1.toNat) ≤ 2147483647 by omega)) (fpb3.set (k := 20) (i := k1.toNat) (z := a 2 k1.toNat) rfl) (fun bq5 fq10 => ?_)
                    refine m_aload_n (j := 3) C dX12_head_100 rfl ?_
                    refine m_geta (k := 21) C dX12_head_101 w6_80 (by decide) rfl ?_
                    refine m_iload (j := 0) C dX12_head_104 rfl ?_
                    refine m_iload (j := 0) C dX12_head_106 rfl ?_
                    refine m_ast (k := 21) C dX12_head_108 rfl rfl (by decide) (by omega) (by show _ < ((_ : Nat) : Int); simp only [mlen]; omega) (by decide) ?_
                    refine hv2 (show BX vb3 (up2 (up2 ab3 20 k1.toNat (a 2 k1.toNat)) 21 k1.toNat k1) from bq5.set (k := 21) (i := k1.toNat) (z := k1) (show (-2147483648) ≤ k1 ∧ k1 ≤ 2147483647 by omega)) (fq10.set (k := 21) (i := k1.toNat) (z := k1) rfl) (fun bq6 fq11 => ?_)
                    refine m_iinc (z := k1) (j := 0) (lv2 := [(4, .int (iI (k1 + 1))), (3, .int (iI g1)), (2, .int (iI f1)), (0, .ref h0), (1, .int (iI t))]) C dX12_head_109 rfl (by decide) rfl ?_
                    refine m_goto (tgt := 80) C dX12_head_112 (by decide) ?_
                    have rv15 : 0 ≤ vb3 3 ∧ vb3 3 ≤ 3000 := bq6.1 3
                    refine m_lv (lv2 := [(4, .int (iI (k1 + 1))), (3, .int (iI g1)), (2, .int (iI f1)), (0, .ref h0), (1, .int (iI t))]) [0, 1, 2, 3, 4] rfl ?_
                    exact ih2  (k1 + 1) _ _ (by omega) bq6 fq11 (by omega) (by show (vb3 3) = 0; omega)
              have rv16 : 0 ≤ vb2 3 ∧ vb2 3 ≤ 3000 := bq1.1 3
              refine m_lv (lv2 := [(4, .int (iI 0)), (3, .int (iI g1)), (2, .int (iI f1)), (0, .ref h0), (1, .int (iI t))]) [0, 1, 2, 3, 4] rfl ?_
              exact Lp2 42 0 _ _ (by omega) bq1 fq3 (by omega) (by show (vb2 3) = 0; omega)
            · clear gf2
              refine m_aload_n (j := 3) C dX12_head_66 rfl ?_
              refine m_iconst C dX12_head_67 ?_
              refine m_call (mc2 := 0) (ms2 := 0) (As := [.int (iI 3)]) (rest := []) C (B_bad (x := 3) bxb2 (by show -2147483648 ≤ (3 : Int) ∧ (3 : Int) ≤ 2147483647; omega)) dX12_head_68 kV_X12_154 rfl ck_13 rfl (Nat.le_of_ble_eq_true rfl) ⟨Nat.le_of_ble_eq_true rfl, Nat.le_of_ble_eq_true rfl⟩ ⟨Nat.le_of_ble_eq_true rfl, Nat.le_of_ble_eq_true rfl⟩ (fun rh6 vh6 ah6 h6 => ?_)
              obtain ⟨f6, rfl, fn6, bn6, ex6⟩ := h6
              refine hv2 (fpb2.call fn6 rfl rfl) (show f6 = -1 from ex6) (fun fq12 gf6 => ?_)
              refine m_st (st2 := [.int (iI f6)]) rfl ?_
              refine hv2 (show 0 ≤ vh6 3 ∧ vh6 3 ≤ 3000 from bn6.1 3) (show vh6 3 = vb2 3 from fn6.1 3 rfl) (fun rv17 ve8 => ?_)
              exact m_iret C dX12_head_71 rfl (Nat.le_of_ble_eq_true rfl) (Nat.le_of_ble_eq_true rfl) ⟨f6, rfl, fq12, bn6, (by show (vh6 3) = 0; omega)⟩
          · refine m_aload_n (j := 3) C dX12_head_51 rfl ?_
            refine m_bipush (z := 6) C dX12_head_52 (by decide) ?_
            refine m_call (mc2 := 0) (ms2 := 0) (As := [.int (iI 6)]) (rest := []) C (B_bad (x := 6) bxb2 (by show -2147483648 ≤ (6 : Int) ∧ (6 : Int) ≤ 2147483647; omega)) dX12_head_54 kV_X12_154 rfl ck_13 rfl (Nat.le_of_ble_eq_true rfl) ⟨Nat.le_of_ble_eq_true rfl, Nat.le_of_ble_eq_true rfl⟩ ⟨Nat.le_of_ble_eq_true rfl, Nat.le_of_ble_eq_true rfl⟩ (fun rh7 vh7 ah7 h7 => ?_)
            obtain ⟨f7, rfl, fn7, bn7, ex7⟩ := h7
            refine hv2 (fpb2.call fn7 rfl rfl) (show f7 = -1 from ex7) (fun fq13 gf7 => ?_)
            refine m_st (st2 := [.int (iI f7)]) rfl ?_
            refine hv2 (show 0 ≤ vh7 3 ∧ vh7 3 ≤ 3000 from bn7.1 3) (show vh7 3 = vb2 3 from fn7.1 3 rfl) (fun rv18 ve9 => ?_)
            exact m_iret C dX12_head_57 rfl (Nat.le_of_ble_eq_true rfl) (Nat.le_of_ble_eq_true rfl) ⟨f7, rfl, fq13, bn7, (by show (vh7 3) = 0; omega)⟩
        · refine m_iload_n (j := 1) C dX12_head_26 rfl ?_
          refine m_if_eq (tgt := 47) C ⟨by omega, by omega⟩ dX12_head_27 (by decide) (fun c8 => ?_) (fun c8 => ?_)
          · refine m_iload_n (j := 1) C dX12_head_47 rfl ?_
            refine m_if_ne (tgt := 58) C ⟨by omega, by omega⟩ dX12_head_48 (by decide) (fun z => absurd z (by omega)) (fun _ => ?_)
            refine m_aload_n (j := 3) C dX12_head_51 rfl ?_
            refine m_bipush (z := 6) C dX12_head_52 (by decide) ?_
            refine m_call (mc2 := 0) (ms2 := 0) (As := [.int (iI 6)]) (rest := []) C (B_bad (x := 6) bxb2 (by show -2147483648 ≤ (6 : Int) ∧ (6 : Int) ≤ 2147483647; omega)) dX12_head_54 kV_X12_154 rfl ck_13 rfl (Nat.le_of_ble_eq_true rfl) ⟨Nat.le_of_ble_eq_true rfl, Nat.le_of_ble_eq_true rfl⟩ ⟨Nat.le_of_ble_eq_true rfl, Nat.le_of_ble_eq_true rfl⟩ (fun rh8 vh8 ah8 h8 => ?_)
            obtain ⟨f8, rfl, fn8, bn8, ex8⟩ := h8
            refine hv2 (fpb2.call fn8 rfl rfl) (show f8 = -1 from ex8) (fun fq14 gf8 => ?_)
            refine m_st (st2 := [.int (iI f8)]) rfl ?_
            refine hv2 (show 0 ≤ vh8 3 ∧ vh8 3 ≤ 3000 from bn8.1 3) (show vh8 3 = vb2 3 from fn8.1 3 rfl) (fun rv19 ve10 => ?_)
            exact m_iret C dX12_head_57 rfl (Nat.le_of_ble_eq_true rfl) (Nat.le_of_ble_eq_true rfl) ⟨f8, rfl, fq14, bn8, (by show (vh8 3) = 0; omega)⟩
          · refine m_aload_n (j := 3) C dX12_head_30 rfl ?_
            refine m_geta (k := 2) C dX12_head_31 w6_61 (by decide) rfl ?_
            refine m_iload (j := 0) C dX12_head_34 rfl ?_
            refine m_ald (k := 2) C dX12_head_36 rfl rfl (by decide) (by omega) (by show _ < ((_ : Nat) : Int); simp only [mlen]; omega) (by decide) ?_
            refine hv2 (show (-2147483648) ≤ ab2 2 k.toNat ∧ ab2 2 k.toNat ≤ 2147483647 from bxb2.2 2 (k.toNat)) (show ab2 2 (k.toNat) = a 2 (k.toNat) from congrFun (fpb2.2 2 rfl) (k.toNat)) (fun ra3 ae2 => ?_)
            refine m_st (st2 := [.int (iI (a 2 k.toNat))]) (congrArg (fun z => Value.int (iI z) :: []) (congrFun (fpb2.2 2 rfl) (k.toNat))) ?_
            refine m_callS (As := [.int (iI (a 2 k.toNat))]) (rest := []) C (fun L E => s_isLetter (iI (a 2 k.toNat))) dX12_head_37 kS_X12_199 rfl rfl (Nat.le_of_ble_eq_true rfl) ⟨Nat.le_of_ble_eq_true rfl, Nat.le_of_ble_eq_true rfl⟩ ⟨Nat.le_of_ble_eq_true rfl, Nat.le_of_ble_eq_true rfl⟩ ?_
            rcases inn_c (x := a 2 k.toNat) (lo := 33) (hi := 125) ⟨by omega, by omega⟩ ⟨by decide, by decide⟩ ⟨by decide, by decide⟩ with ⟨h9a, h9b, h9e⟩ | ⟨h9a, h9e⟩
            · refine m_st (st2 := [.int (iI 1)]) (by rw [show inn (iI (a 2 k.toNat)) 33 125 = iI 1 from h9e]) ?_
              refine m_istore_n (lv2 := [(3, .int (iI 1)), (4, .int (iI k)), (2, .int (iI f1)), (0, .ref h0), (1, .int (iI t))]) C dX12_head_40 (by decide) rfl ?_
              refine m_iinc (z := k) (j := 1) (lv2 := [(4, .int (iI (k + 1))), (3, .int (iI 1)), (2, .int (iI f1)), (0, .ref h0), (1, .int (iI t))]) C dX12_head_41 rfl (by decide) rfl ?_
              refine m_goto (tgt := 20) C dX12_head_44 (by decide) ?_
              have rv20 : 0 ≤ vb2 3 ∧ vb2 3 ≤ 3000 := bxb2.1 3
              refine m_lv (lv2 := [(4, .int (iI (k + 1))), (3, .int (iI 1)), (2, .int (iI f1)), (0, .ref h0), (1, .int (iI t))]) [0, 1, 2, 3, 4] rfl ?_
              exact ih1  1 (k + 1) _ _ (by omega) bxb2 fpb2 (by omega) (by omega) (by show (vb2 3) = 0; omega)
            · refine m_st (st2 := [.int (iI 0)]) (by rw [show inn (iI (a 2 k.toNat)) 33 125 = iI 0 from h9e]) ?_
              refine m_istore_n (lv2 := [(3, .int (iI 0)), (4, .int (iI k)), (2, .int (iI f1)), (0, .ref h0), (1, .int (iI t))]) C dX12_head_40 (by decide) rfl ?_
              refine m_iinc (z := k) (j := 1) (lv2 := [(4, .int (iI (k + 1))), (3, .int (iI 0)), (2, .int (iI f1)), (0, .ref h0), (1, .int (iI t))]) C dX12_head_41 rfl (by decide) rfl ?_
              refine m_goto (tgt := 20) C dX12_head_44 (by decide) ?_
              have rv21 : 0 ≤ vb2 3 ∧ vb2 3 ≤ 3000 := bxb2.1 3
              refine m_lv (lv2 := [(4, .int (iI (k + 1))), (3, .int (iI 0)), (2, .int (iI f1)), (0, .ref h0), (1, .int (iI t))]) [0, 1, 2, 3, 4] rfl ?_
              exact ih1  0 (k + 1) _ _ (by omega) bxb2 fpb2 (by omega) (by omega) (by show (vb2 3) = 0; omega)
    have rv22 : 0 ≤ vb1 3 ∧ vb1 3 ≤ 3000 := bxb1.1 3
    refine m_lv (lv2 := [(4, .int (iI 0)), (3, .int (iI g)), (2, .int (iI f1)), (0, .ref h0), (1, .int (iI t))]) [0, 1, 2, 3, 4] rfl ?_
    exact Lp1 3002 g 0 _ _ (by omega) bxb1 fpb1 (by omega) (by omega) (by show (vb1 3) = 0; omega)
  refine m_icmp_gt (tgt := 15) C ⟨by omega, by omega⟩ ⟨by decide, by decide⟩ dX12_head_8 (by decide) (fun c9 => ?_) (fun c9 => ?_)
  · refine m_iconst C dX12_head_15 ?_
    refine m_lv (lv2 := [(2, .int (iI f1)), (0, .ref h0), (1, .int (iI t))]) [0, 1, 2] rfl ?_
    exact J1  0 _ _  bn1 fq1 (by omega) (by show (vh1 3) = 0; omega)
  · refine m_iconst C dX12_head_11 ?_
    refine m_goto (tgt := 16) C dX12_head_12 (by decide) ?_
    refine m_lv (lv2 := [(2, .int (iI f1)), (0, .ref h0), (1, .int (iI t))]) [0, 1, 2] rfl ?_
    exact J1  1 _ _  bn1 fq1 (by omega) (by show (vh1 3) = 0; omega)
