section
set_option maxHeartbeats 4000000 in
set_option maxRecDepth 100000 in
theorem N_read {l : Launch} {G : GT} {h0 : Nat} {ad ln : Nat → Nat} {v : Nat → Int} {a : Nat → Nat → Int}  {t q n1 : Int} (hB : BX v a) (hT : TBL v a) (hW : RWS a) (ht : -2147483648 ≤ t ∧ t ≤ 2147483647) (hq : -2147483648 ≤ q ∧ q ≤ 2147483647) (hn1 : -2147483648 ≤ n1 ∧ n1 ≤ 2147483647) : Mm l G yX12_read cX12_read 11 (some .int) 36 [.int (iI t), .int (iI q), .int (iI n1)] h0 ad ln v a 0 0 (fun r v2 a2 => ∃ f : Int, r = some (.int (iI f)) ∧ fr [0, 1, 50, 52, 53] [44, 45, 46, 47, 48, 49, 51] v a v2 a2 ∧ BX v2 a2 ∧ (RWS a2)) := by
  refine Mm.mk (by decide) (Nat.le_of_ble_eq_true rfl) ?_
  intro p e s m args below meth c A C
  refine hv3 (show 0 ≤ v 4 ∧ v 4 ≤ 30 from hB.1 4) (show 0 ≤ v 36 ∧ v 36 ≤ 200 from hB.1 36) (show fr [0, 1, 50, 52, 53] [44, 45, 46, 47, 48, 49, 51] v a v a from fr.refl) (fun h30 r36 fp0 => ?_)
  refine m_aload_n (j := 0) C dX12_read_0 rfl ?_
  refine m_iload_n (j := 1) C dX12_read_1 rfl ?_
  have rv1 : 0 ≤ v 4 ∧ v 4 ≤ 30 := hB.1 4
  refine m_call (mc2 := 0) (ms2 := 0) (As := [.int (iI t)]) (rest := []) C (M_isWhole (t := t) hB (hT.fr fp0 rfl rfl) (by show -2147483648 ≤ t ∧ t ≤ 2147483647; omega)) dX12_read_2 kV_X12_171 rfl ck_13 rfl (Nat.le_of_ble_eq_true rfl) ⟨Nat.le_of_ble_eq_true rfl, Nat.le_of_ble_eq_true rfl⟩ ⟨Nat.le_of_ble_eq_true rfl, Nat.le_of_ble_eq_true rfl⟩ (fun rh1 vh1 ah1 h1 => ?_)
  obtain ⟨f1, rfl, fn1, bn1, ex1⟩ := h1
  obtain ⟨rfl, rfl⟩ := fn1.eq
  have gf1 : f1 = 0 ∨ (f1 = 1 ∧ 0 ≤ t ∧ t < (v 4)) := ex1
  refine m_st (st2 := [.int (iI f1)]) rfl ?_
  refine m_if_ne (tgt := 14) C (r32_0p gf1) dX12_read_5 (by decide) (fun c1 => ?_) (fun c1 => ?_)
  · replace gf1 := (gf1.resolve_left c1)
    refine m_iload_n (j := 3) C dX12_read_14 rfl ?_
    refine m_if_ge (tgt := 24) C ⟨by omega, by omega⟩ dX12_read_15 (by decide) (fun c2 => ?_) (fun c2 => ?_)
    · refine m_aload_n (j := 0) C dX12_read_24 rfl ?_
      refine m_iconst C dX12_read_25 ?_
      refine m_put (k := 50) (z := 0) C dX12_read_26 w6_109 (by decide) rfl rfl rfl ?_
      refine hv2 (show BX (va_up v 50 0) a from hB.put (k := 50) (z := 0) ⟨by decide, by decide⟩) (fp0.put (k := 50) (z := 0) rfl) (fun bq1 fq2 => ?_)
      refine m_iconst C dX12_read_29 ?_
      refine m_istore (lv2 := [(4, .int (iI 0)), (0, .ref h0), (1, .int (iI t)), (2, .int (iI q)), (3, .int (iI n1))]) C dX12_read_30 (by decide) rfl ?_
      have Lp1 : ∀ (nn : Nat) (k : Int) (vb1 : Nat → Int) (ab1 : Nat → Nat → Int), 201 - k < (nn : Int) → BX vb1 ab1 → fr [0, 1, 50, 52, 53] [44, 45, 46, 47, 48, 49, 51] v a vb1 ab1 → (0 ≤ k ∧ k ≤ n1) → (k = 0 ∨ (0 ≤ q ∧ q + k ≤ v 36)) → (vb1 50 ≤ 201 * k) → (RWS ab1) → mw p l e (rmq 36 0 0) s m args below meth c G A 11 (MQ below (Qm G A (fun rq Lq Eq => ∃ (vq : Nat → Int) (aq : Nat → Nat → Int), mI G h0 ad ln vq aq Lq Eq ∧ (fun r v2 a2 => ∃ f : Int, r = some (.int (iI f)) ∧ fr [0, 1, 50, 52, 53] [44, 45, 46, 47, 48, 49, 51] v a v2 a2 ∧ BX v2 a2 ∧ (RWS a2)) rq vq aq)) args s 0 0 A) h0 ad ln vb1 ab1 0 0 32 [(4, .int (iI k)), (0, .ref h0), (1, .int (iI t)), (2, .int (iI q)), (3, .int (iI n1))] [] := by
        intro nn
        induction nn with
        | zero =>
          intro k vb1 ab1 hm bxb1 fpb1 hk hk2 h50 hW1
          exact absurd hm (by omega)
        | succ nn ih1 =>
          intro k vb1 ab1 hm bxb1 fpb1 hk hk2 h50 hW1
          refine m_iload (j := 0) C dX12_read_32 rfl ?_
          refine m_iload_n (j := 4) C dX12_read_34 rfl ?_
          refine m_icmp_ge (tgt := 209) C ⟨by omega, by omega⟩ ⟨by omega, by omega⟩ dX12_read_35 (by decide) (fun c3 => ?_) (fun c3 => ?_)
          · refine m_aload_n (j := 1) C dX12_read_209 rfl ?_
            refine m_iload_n (j := 2) C dX12_read_210 rfl ?_
            refine hv2 (show 0 ≤ vb1 4 ∧ vb1 4 ≤ 30 from bxb1.1 4) (show vb1 4 = v 4 from fpb1.1 4 rfl) (fun rv2 ve1 => ?_)
            refine m_call (mc2 := 0) (ms2 := 0) (As := [.int (iI t)]) (rest := []) C (M_gather (t := t) bxb1 hW1 (hT.fr fpb1 rfl rfl) (by show 0 ≤ t ∧ t < (vb1 4); omega)) dX12_read_211 kV_X12_354 rfl ck_13 rfl (Nat.le_of_ble_eq_true rfl) ⟨Nat.le_of_ble_eq_true rfl, Nat.le_of_ble_eq_true rfl⟩ ⟨Nat.le_of_ble_eq_true rfl, Nat.le_of_ble_eq_true rfl⟩ (fun rh2 vh2 ah2 h2 => ?_)
            obtain ⟨rfl, fn2, bn2, ex2⟩ := h2
            refine hv2 (fpb1.call fn2 rfl rfl) (ex2) (fun fq3 pw1 => ?_)
            refine m_st (st2 := []) rfl ?_
            refine m_aload_n (j := 1) C dX12_read_214 rfl ?_
            refine m_call (mc2 := 0) (ms2 := 0) (As := []) (rest := []) C (M_readAll  bn2 pw1) dX12_read_215 kV_X12_357 rfl ck_13 rfl (Nat.le_of_ble_eq_true rfl) ⟨Nat.le_of_ble_eq_true rfl, Nat.le_of_ble_eq_true rfl⟩ ⟨Nat.le_of_ble_eq_true rfl, Nat.le_of_ble_eq_true rfl⟩ (fun rh3 vh3 ah3 h3 => ?_)
            obtain ⟨f3, rfl, fn3, bn3, ex3⟩ := h3
            refine hv3 (fq3.call fn3 rfl rfl) (show RWS ah3 from RWS.fr pw1 fn3 rfl) (show f3 = 0 ∨ f3 = 6 ∨ f3 = 9 from ex3) (fun fq4 pw2 gf3 => ?_)
            refine m_st (st2 := [.int (iI f3)]) rfl ?_
            refine m_istore (lv2 := [(4, .int (iI f3)), (0, .ref h0), (1, .int (iI t)), (2, .int (iI q)), (3, .int (iI n1))]) C dX12_read_218 (by decide) rfl ?_
            refine m_iload (j := 0) C dX12_read_220 rfl ?_
            refine m_if_ne (tgt := 234) C ⟨by omega, by omega⟩ dX12_read_222 (by decide) (fun c4 => ?_) (fun c4 => ?_)
            · replace gf3 := (gf3.resolve_left c4)
              refine m_aload_n (j := 1) C dX12_read_234 rfl ?_
              refine m_iconst C dX12_read_235 ?_
              refine m_put (k := 52) (z := 0) C dX12_read_236 w6_111 (by decide) rfl rfl rfl ?_
              refine hv2 (show BX (va_up vh3 52 0) ah3 from bn3.put (k := 52) (z := 0) ⟨by decide, by decide⟩) (fq4.put (k := 52) (z := 0) rfl) (fun bq2 fq5 => ?_)
              refine m_aload_n (j := 1) C dX12_read_239 rfl ?_
              have rv3 : 0 ≤ vh3 53 ∧ vh3 53 ≤ 40200 := bq2.1 53
              refine m_get (k := 53) C dX12_read_240 w6_112 (by decide) rfl ?_
              refine m_st (st2 := [.int (iI (vh3 53))]) rfl ?_
              refine m_aload_n (j := 1) C dX12_read_243 rfl ?_
              refine hv3 (show 0 ≤ vh3 50 ∧ vh3 50 ≤ 40200 from bq2.1 50) (show vh3 50 = vh2 50 from fn3.1 50 rfl) (show vh2 50 = vb1 50 from fn2.1 50 rfl) (fun rv4 ve2 ve3 => ?_)
              refine m_get (k := 50) C dX12_read_244 w6_109 (by decide) rfl ?_
              refine m_st (st2 := [.int (iI (vh3 50)), .int (iI (vh3 53))]) rfl ?_
              refine m_icmp_ge (tgt := 274) C (r32_c (lo := 0) (hi := 40200) rv3.1 rv3.2 (by decide) (by decide)) (r32_c (lo := 0) (hi := 40200) rv4.1 rv4.2 (by decide) (by decide)) dX12_read_247 (by decide) (fun c5 => ?_) (fun c5 => ?_)
              · refine m_aload_n (j := 1) C dX12_read_274 rfl ?_
                refine m_get (k := 53) C dX12_read_275 w6_112 (by decide) rfl ?_
                refine m_st (st2 := [.int (iI (vh3 53))]) rfl ?_
                refine m_if_le (tgt := 297) C (r32_c (lo := 0) (hi := 40200) rv3.1 rv3.2 (by decide) (by decide)) dX12_read_278 (by decide) (fun c6 => ?_) (fun c6 => ?_)
                · refine m_iconst C dX12_read_297 ?_
                  obtain ⟨zz1, hzz1, ezz1⟩ := iI_of (iI 0)
                  refine m_st (st2 := [.int (iI zz1)]) (by rw [ezz1]) ?_
                  refine m_istore (lv2 := [(5, .int (iI zz1)), (4, .int (iI f3)), (0, .ref h0), (1, .int (iI t)), (2, .int (iI q)), (3, .int (iI n1))]) C dX12_read_298 (by decide) rfl ?_
                  refine m_aload_n (j := 2) C dX12_read_300 rfl ?_
                  refine m_iload (j := 1) C dX12_read_301 rfl ?_
                  refine m_iload (j := 0) C dX12_read_303 rfl ?_
                  refine m_call (mc2 := 0) (ms2 := 0) (As := [.int (iI f3), .int (iI zz1)]) (rest := []) C (B_badAt (x := f3) (y := zz1) bq2 (by show -2147483648 ≤ f3 ∧ f3 ≤ 2147483647; omega) (by show -2147483648 ≤ zz1 ∧ zz1 ≤ 2147483647; omega)) dX12_read_305 kV_X12_240 rfl ck_13 rfl (Nat.le_of_ble_eq_true rfl) ⟨Nat.le_of_ble_eq_true rfl, Nat.le_of_ble_eq_true rfl⟩ ⟨Nat.le_of_ble_eq_true rfl, Nat.le_of_ble_eq_true rfl⟩ (fun rh4 vh4 ah4 h4 => ?_)
                  obtain ⟨f4, rfl, fn4, bn4, ex4⟩ := h4
                  refine hv3 (fq5.call fn4 rfl rfl) (show RWS ah4 from RWS.fr pw2 fn4 rfl) (show f4 = -1 from ex4) (fun fq6 pw3 gf4 => ?_)
                  refine m_st (st2 := [.int (iI f4)]) rfl ?_
                  exact m_iret C dX12_read_308 rfl (Nat.le_of_ble_eq_true rfl) (Nat.le_of_ble_eq_true rfl) ⟨f4, rfl, fq6, bn4, pw3⟩
                · refine m_aload_n (j := 1) C dX12_read_281 rfl ?_
                  refine m_geta (k := 49) C dX12_read_282 w6_108 (by decide) rfl ?_
                  refine m_aload_n (j := 1) C dX12_read_285 rfl ?_
                  refine m_get (k := 53) C dX12_read_286 w6_112 (by decide) rfl ?_
                  refine m_st (st2 := [.int (iI (vh3 53)), .ref (ad 49)]) rfl ?_
                  refine m_iconst C dX12_read_289 ?_
                  refine m_isub C dX12_read_290 ?_
                  refine m_ald (k := 49) C dX12_read_291 rfl rfl (by decide) (by omega) (by show _ < ((_ : Nat) : Int); simp only [mlen]; omega) (by decide) ?_
                  refine hv3 (show (-2147483648) ≤ ah3 49 ((vh3 53) - 1).toNat ∧ ah3 49 ((vh3 53) - 1).toNat ≤ 2147483647 from bq2.2 49 (((vh3 53) - 1).toNat)) (show ah3 49 (((vh3 53) - 1).toNat) = ah2 49 (((vh3 53) - 1).toNat) from congrFun (fn3.2 49 rfl) (((vh3 53) - 1).toNat)) (show ah2 49 (((vh3 53) - 1).toNat) = ab1 49 (((vh3 53) - 1).toNat) from congrFun (fn2.2 49 rfl) (((vh3 53) - 1).toNat)) (fun ra1 ae1 ae2 => ?_)
                  refine m_iconst C dX12_read_292 ?_
                  refine m_iadd C dX12_read_293 ?_
                  refine m_goto (tgt := 298) C dX12_read_294 (by decide) ?_
                  obtain ⟨zz2, hzz2, ezz2⟩ := iI_of (iI ((ah3 49 ((vh3 53) - 1).toNat) + 1))
                  refine m_st (st2 := [.int (iI zz2)]) (by rw [ezz2]) ?_
                  refine m_istore (lv2 := [(5, .int (iI zz2)), (4, .int (iI f3)), (0, .ref h0), (1, .int (iI t)), (2, .int (iI q)), (3, .int (iI n1))]) C dX12_read_298 (by decide) rfl ?_
                  refine m_aload_n (j := 2) C dX12_read_300 rfl ?_
                  refine m_iload (j := 1) C dX12_read_301 rfl ?_
                  refine m_iload (j := 0) C dX12_read_303 rfl ?_
                  refine m_call (mc2 := 0) (ms2 := 0) (As := [.int (iI f3), .int (iI zz2)]) (rest := []) C (B_badAt (x := f3) (y := zz2) bq2 (by show -2147483648 ≤ f3 ∧ f3 ≤ 2147483647; omega) (by show -2147483648 ≤ zz2 ∧ zz2 ≤ 2147483647; omega)) dX12_read_305 kV_X12_240 rfl ck_13 rfl (Nat.le_of_ble_eq_true rfl) ⟨Nat.le_of_ble_eq_true rfl, Nat.le_of_ble_eq_true rfl⟩ ⟨Nat.le_of_ble_eq_true rfl, Nat.le_of_ble_eq_true rfl⟩ (fun rh5 vh5 ah5 h5 => ?_)
                  obtain ⟨f5, rfl, fn5, bn5, ex5⟩ := h5
                  refine hv3 (fq5.call fn5 rfl rfl) (show RWS ah5 from RWS.fr pw2 fn5 rfl) (show f5 = -1 from ex5) (fun fq7 pw4 gf5 => ?_)
                  refine m_st (st2 := [.int (iI f5)]) rfl ?_
                  exact m_iret C dX12_read_308 rfl (Nat.le_of_ble_eq_true rfl) (Nat.le_of_ble_eq_true rfl) ⟨f5, rfl, fq7, bn5, pw4⟩
              · refine m_aload_n (j := 1) C dX12_read_250 rfl ?_
                refine m_geta (k := 48) C dX12_read_251 w6_107 (by decide) rfl ?_
                refine m_aload_n (j := 1) C dX12_read_254 rfl ?_
                refine m_get (k := 53) C dX12_read_255 w6_112 (by decide) rfl ?_
                refine m_st (st2 := [.int (iI (vh3 53)), .ref (ad 48)]) rfl ?_
                refine m_ald (k := 48) C dX12_read_258 rfl rfl (by decide) (by omega) (by show _ < ((_ : Nat) : Int); simp only [mlen]; omega) (by decide) ?_
                refine hv3 (show (-2147483648) ≤ ah3 48 (vh3 53).toNat ∧ ah3 48 (vh3 53).toNat ≤ 2147483647 from bq2.2 48 ((vh3 53).toNat)) (show ah3 48 ((vh3 53).toNat) = ah2 48 ((vh3 53).toNat) from congrFun (fn3.2 48 rfl) ((vh3 53).toNat)) (show ah2 48 ((vh3 53).toNat) = ab1 48 ((vh3 53).toNat) from congrFun (fn2.2 48 rfl) ((vh3 53).toNat)) (fun ra2 ae3 ae4 => ?_)
                refine m_if_eq (tgt := 274) C (r32_c (lo := (-2147483648)) (hi := 2147483647) ra2.1 ra2.2 (by decide) (by decide)) dX12_read_259 (by decide) (fun c7 => ?_) (fun c7 => ?_)
                · refine m_aload_n (j := 1) C dX12_read_274 rfl ?_
                  refine m_get (k := 53) C dX12_read_275 w6_112 (by decide) rfl ?_
                  refine m_st (st2 := [.int (iI (vh3 53))]) rfl ?_
                  refine m_if_le (tgt := 297) C (r32_c (lo := 0) (hi := 40200) rv3.1 rv3.2 (by decide) (by decide)) dX12_read_278 (by decide) (fun c8 => ?_) (fun c8 => ?_)
                  · refine m_iconst C dX12_read_297 ?_
                    obtain ⟨zz3, hzz3, ezz3⟩ := iI_of (iI 0)
                    refine m_st (st2 := [.int (iI zz3)]) (by rw [ezz3]) ?_
                    refine m_istore (lv2 := [(5, .int (iI zz3)), (4, .int (iI f3)), (0, .ref h0), (1, .int (iI t)), (2, .int (iI q)), (3, .int (iI n1))]) C dX12_read_298 (by decide) rfl ?_
                    refine m_aload_n (j := 2) C dX12_read_300 rfl ?_
                    refine m_iload (j := 1) C dX12_read_301 rfl ?_
                    refine m_iload (j := 0) C dX12_read_303 rfl ?_
                    refine m_call (mc2 := 0) (ms2 := 0) (As := [.int (iI f3), .int (iI zz3)]) (rest := []) C (B_badAt (x := f3) (y := zz3) bq2 (by show -2147483648 ≤ f3 ∧ f3 ≤ 2147483647; omega) (by show -2147483648 ≤ zz3 ∧ zz3 ≤ 2147483647; omega)) dX12_read_305 kV_X12_240 rfl ck_13 rfl (Nat.le_of_ble_eq_true rfl) ⟨Nat.le_of_ble_eq_true rfl, Nat.le_of_ble_eq_true rfl⟩ ⟨Nat.le_of_ble_eq_true rfl, Nat.le_of_ble_eq_true rfl⟩ (fun rh6 vh6 ah6 h6 => ?_)
                    obtain ⟨f6, rfl, fn6, bn6, ex6⟩ := h6
                    refine hv3 (fq5.call fn6 rfl rfl) (show RWS ah6 from RWS.fr pw2 fn6 rfl) (show f6 = -1 from ex6) (fun fq8 pw5 gf6 => ?_)
                    refine m_st (st2 := [.int (iI f6)]) rfl ?_
                    exact m_iret C dX12_read_308 rfl (Nat.le_of_ble_eq_true rfl) (Nat.le_of_ble_eq_true rfl) ⟨f6, rfl, fq8, bn6, pw5⟩
                  · refine m_aload_n (j := 1) C dX12_read_281 rfl ?_
                    refine m_geta (k := 49) C dX12_read_282 w6_108 (by decide) rfl ?_
                    refine m_aload_n (j := 1) C dX12_read_285 rfl ?_
                    refine m_get (k := 53) C dX12_read_286 w6_112 (by decide) rfl ?_
                    refine m_st (st2 := [.int (iI (vh3 53)), .ref (ad 49)]) rfl ?_
                    refine m_iconst C dX12_read_289 ?_
                    refine m_isub C dX12_read_290 ?_
                    refine m_ald (k := 49) C dX12_read_291 rfl rfl (by decide) (by omega) (by show _ < ((_ : Nat) : Int); simp only [mlen]; omega) (by decide) ?_
                    refine hv3 (show (-2147483648) ≤ ah3 49 ((vh3 53) - 1).toNat ∧ ah3 49 ((vh3 53) - 1).toNat ≤ 2147483647 from bq2.2 49 (((vh3 53) - 1).toNat)) (show ah3 49 (((vh3 53) - 1).toNat) = ah2 49 (((vh3 53) - 1).toNat) from congrFun (fn3.2 49 rfl) (((vh3 53) - 1).toNat)) (show ah2 49 (((vh3 53) - 1).toNat) = ab1 49 (((vh3 53) - 1).toNat) from congrFun (fn2.2 49 rfl) (((vh3 53) - 1).toNat)) (fun ra3 ae5 ae6 => ?_)
                    refine m_iconst C dX12_read_292 ?_
                    refine m_iadd C dX12_read_293 ?_
                    refine m_goto (tgt := 298) C dX12_read_294 (by decide) ?_
                    obtain ⟨zz4, hzz4, ezz4⟩ := iI_of (iI ((ah3 49 ((vh3 53) - 1).toNat) + 1))
                    refine m_st (st2 := [.int (iI zz4)]) (by rw [ezz4]) ?_
                    refine m_istore (lv2 := [(5, .int (iI zz4)), (4, .int (iI f3)), (0, .ref h0), (1, .int (iI t)), (2, .int (iI q)), (3, .int (iI n1))]) C dX12_read_298 (by decide) rfl ?_
                    refine m_aload_n (j := 2) C dX12_read_300 rfl ?_
                    refine m_iload (j := 1) C dX12_read_301 rfl ?_
                    refine m_iload (j := 0) C dX12_read_303 rfl ?_
                    refine m_call (mc2 := 0) (ms2 := 0) (As := [.int (iI f3), .int (iI zz4)]) (rest := []) C (B_badAt (x := f3) (y := zz4) bq2 (by show -2147483648 ≤ f3 ∧ f3 ≤ 2147483647; omega) (by show -2147483648 ≤ zz4 ∧ zz4 ≤ 2147483647; omega)) dX12_read_305 kV_X12_240 rfl ck_13 rfl (Nat.le_of_ble_eq_true rfl) ⟨Nat.le_of_ble_eq_true rfl, Nat.le_of_ble_eq_true rfl⟩ ⟨Nat.le_of_ble_eq_true rfl, Nat.le_of_ble_eq_true rfl⟩ (fun rh7 vh7 ah7 h7 => ?_)
                    obtain ⟨f7, rfl, fn7, bn7, ex7⟩ := h7
                    refine hv3 (fq5.call fn7 rfl rfl) (show RWS ah7 from RWS.fr pw2 fn7 rfl) (show f7 = -1 from ex7) (fun fq9 pw6 gf7 => ?_)
                    refine m_st (st2 := [.int (iI f7)]) rfl ?_
                    exact m_iret C dX12_read_308 rfl (Nat.le_of_ble_eq_true rfl) (Nat.le_of_ble_eq_true rfl) ⟨f7, rfl, fq9, bn7, pw6⟩
                · refine m_aload_n (j := 1) C dX12_read_262 rfl ?_
                  refine m_geta (k := 49) C dX12_read_263 w6_108 (by decide) rfl ?_
                  refine m_aload_n (j := 1) C dX12_read_266 rfl ?_
                  refine m_get (k := 53) C dX12_read_267 w6_112 (by decide) rfl ?_
                  refine m_st (st2 := [.int (iI (vh3 53)), .ref (ad 49)]) rfl ?_
                  refine m_ald (k := 49) C dX12_read_270 rfl rfl (by decide) (by omega) (by show _ < ((_ : Nat) : Int); simp only [mlen]; omega) (by decide) ?_
                  refine hv3 (show (-2147483648) ≤ ah3 49 (vh3 53).toNat ∧ ah3 49 (vh3 53).toNat ≤ 2147483647 from bq2.2 49 ((vh3 53).toNat)) (show ah3 49 ((vh3 53).toNat) = ah2 49 ((vh3 53).toNat) from congrFun (fn3.2 49 rfl) ((vh3 53).toNat)) (show ah2 49 ((vh3 53).toNat) = ab1 49 ((vh3 53).toNat) from congrFun (fn2.2 49 rfl) ((vh3 53).toNat)) (fun ra4 ae7 ae8 => ?_)
                  refine m_goto (tgt := 298) C dX12_read_271 (by decide) ?_
                  obtain ⟨zz5, hzz5, ezz5⟩ := iI_of (iI (ah3 49 (vh3 53).toNat))
                  refine m_st (st2 := [.int (iI zz5)]) (by rw [ezz5]) ?_
                  refine m_istore (lv2 := [(5, .int (iI zz5)), (4, .int (iI f3)), (0, .ref h0), (1, .int (iI t)), (2, .int (iI q)), (3, .int (iI n1))]) C dX12_read_298 (by decide) rfl ?_
                  refine m_aload_n (j := 2) C dX12_read_300 rfl ?_
                  refine m_iload (j := 1) C dX12_read_301 rfl ?_
                  refine m_iload (j := 0) C dX12_read_303 rfl ?_
                  refine m_call (mc2 := 0) (ms2 := 0) (As := [.int (iI f3), .int (iI zz5)]) (rest := []) C (B_badAt (x := f3) (y := zz5) bq2 (by show -2147483648 ≤ f3 ∧ f3 ≤ 2147483647; omega) (by show -2147483648 ≤ zz5 ∧ zz5 ≤ 2147483647; omega)) dX12_read_305 kV_X12_240 rfl ck_13 rfl (Nat.le_of_ble_eq_true rfl) ⟨Nat.le_of_ble_eq_true rfl, Nat.le_of_ble_eq_true rfl⟩ ⟨Nat.le_of_ble_eq_true rfl, Nat.le_of_ble_eq_true rfl⟩ (fun rh8 vh8 ah8 h8 => ?_)
                  obtain ⟨f8, rfl, fn8, bn8, ex8⟩ := h8
                  refine hv3 (fq5.call fn8 rfl rfl) (show RWS ah8 from RWS.fr pw2 fn8 rfl) (show f8 = -1 from ex8) (fun fq10 pw7 gf8 => ?_)
                  refine m_st (st2 := [.int (iI f8)]) rfl ?_
                  exact m_iret C dX12_read_308 rfl (Nat.le_of_ble_eq_true rfl) (Nat.le_of_ble_eq_true rfl) ⟨f8, rfl, fq10, bn8, pw7⟩
            · clear gf3
              refine m_aload_n (j := 1) C dX12_read_225 rfl ?_
              refine m_aload_n (j := 1) C dX12_read_226 rfl ?_
              have rv5 : 0 ≤ vh3 52 ∧ vh3 52 ≤ 4000 := bn3.1 52
              refine m_get (k := 52) C dX12_read_227 w6_111 (by decide) rfl ?_
              refine m_call (mc2 := 0) (ms2 := 0) (As := [.int (iI (vh3 52))]) (rest := []) C (B_fine (x := vh3 52) bn3 (by show -2147483648 ≤ (vh3 52) ∧ (vh3 52) ≤ 2147483647; omega)) dX12_read_230 kV_X12_158 rfl ck_13 rfl (Nat.le_of_ble_eq_true rfl) ⟨Nat.le_of_ble_eq_true rfl, Nat.le_of_ble_eq_true rfl⟩ ⟨Nat.le_of_ble_eq_true rfl, Nat.le_of_ble_eq_true rfl⟩ (fun rh9 vh9 ah9 h9 => ?_)
              obtain ⟨f9, rfl, fn9, bn9, ex9⟩ := h9
              refine hv3 (fq4.call fn9 rfl rfl) (show RWS ah9 from RWS.fr pw2 fn9 rfl) (show f9 = (vh3 52) from ex9) (fun fq11 pw8 gf9 => ?_)
              refine m_st (st2 := [.int (iI f9)]) rfl ?_
              exact m_iret C dX12_read_233 rfl (Nat.le_of_ble_eq_true rfl) (Nat.le_of_ble_eq_true rfl) ⟨f9, rfl, fq11, bn9, pw8⟩
          · refine m_iload_n (j := 3) C dX12_read_38 rfl ?_
            refine m_i2l (w := lI q) C dX12_read_39 (lI_of ⟨by omega, by omega⟩) ?_
            refine m_iload (j := 0) C dX12_read_40 rfl ?_
            refine m_i2l (w := lI k) C dX12_read_42 (lI_of ⟨by omega, by omega⟩) ?_
            refine m_ladd (w := lI (q + k)) C dX12_read_43 (lI_add _ _) ?_
            refine m_lstore (lv2 := [(5, .long (lI (q + k))), (4, .int (iI k)), (0, .ref h0), (1, .int (iI t)), (2, .int (iI q)), (3, .int (iI n1))]) C dX12_read_44 (by decide) rfl ?_
            refine m_lload (j := 0) C dX12_read_46 rfl ?_
            refine m_lconst (w := lI 0) C dX12_read_48 rfl ?_
            obtain ⟨lc1, hlc1, elc1⟩ := lcmp_c (x := (q + k)) (y := 0) ⟨by omega, by omega⟩ ⟨by omega, by omega⟩
            refine m_lcmp (w := iI lc1) C dX12_read_49 elc1 ?_
            have J1 : ∀ (y : Int) (vb2 : Nat → Int) (ab2 : Nat → Nat → Int), BX vb2 ab2 → fr [0, 1, 50, 52, 53] [44, 45, 46, 47, 48, 49, 51] v a vb2 ab2 → (y = -1 ∨ (y = q + k ∧ 0 ≤ y ∧ y < v 36)) → (vb2 50 ≤ 201 * k) → (RWS ab2) → mw p l e (rmq 36 0 0) s m args below meth c G A 11 (MQ below (Qm G A (fun rq Lq Eq => ∃ (vq : Nat → Int) (aq : Nat → Nat → Int), mI G h0 ad ln vq aq Lq Eq ∧ (fun r v2 a2 => ∃ f : Int, r = some (.int (iI f)) ∧ fr [0, 1, 50, 52, 53] [44, 45, 46, 47, 48, 49, 51] v a v2 a2 ∧ BX v2 a2 ∧ (RWS a2)) rq vq aq)) args s 0 0 A) h0 ad ln vb2 ab2 0 0 71 [(5, .long (lI (q + k))), (4, .int (iI k)), (0, .ref h0), (1, .int (iI t)), (2, .int (iI q)), (3, .int (iI n1))] [.int (iI y)] := by
              intro y vb2 ab2 bxb2 fpb2 hy h501 hW2
              refine m_istore (lv2 := [(7, .int (iI y)), (5, .long (lI (q + k))), (4, .int (iI k)), (0, .ref h0), (1, .int (iI t)), (2, .int (iI q)), (3, .int (iI n1))]) C dX12_read_71 (by decide) rfl ?_
              refine m_aload_n (j := 3) C dX12_read_73 rfl ?_
              refine m_iload (j := 0) C dX12_read_74 rfl ?_
              refine hv2 (show 0 ≤ vb2 36 ∧ vb2 36 ≤ 200 from bxb2.1 36) (show vb2 36 = v 36 from fpb2.1 36 rfl) (fun rv6 ve4 => ?_)
              refine m_call (mc2 := 0) (ms2 := 0) (As := [.int (iI y)]) (rest := []) C (M_lineFault (l0 := y) bxb2.rg ⟨by omega, by omega⟩ ⟨bxb2.1 36, bxb2.2 34⟩) dX12_read_76 kV_X12_294 rfl ck_13 rfl (Nat.le_of_ble_eq_true rfl) ⟨Nat.le_of_ble_eq_true rfl, Nat.le_of_ble_eq_true rfl⟩ ⟨Nat.le_of_ble_eq_true rfl, Nat.le_of_ble_eq_true rfl⟩ (fun rh10 vh10 ah10 h10 => ?_)
              obtain ⟨f10, rfl, hf10, rfl, rfl⟩ := h10
              refine hv3 (show (f10 = 2 ∧ ¬ (0 ≤ y ∧ y < (vb2 36))) ∨ (f10 = 1 ∧ 0 ≤ y ∧ y < (vb2 36) ∧ ab2 34 y.toNat < 0) ∨ (f10 = 0 ∧ 0 ≤ y ∧ y < (vb2 36) ∧ 0 ≤ ab2 34 y.toNat) from hf10) (show (-1) ≤ ab2 34 y.toNat ∧ ab2 34 y.toNat ≤ 200 from bxb2.2 34 (y.toNat)) (show ab2 34 (y.toNat) = a 34 (y.toNat) from congrFun (fpb2.2 34 rfl) (y.toNat)) (fun gf10 ra5 ae9 => ?_)
              refine m_st (st2 := [.int (iI f10)]) rfl ?_
              refine m_if_le (tgt := 93) C ⟨by omega, by omega⟩ dX12_read_79 (by decide) (fun c9 => ?_) (fun c9 => ?_)
              · refine m_aload_n (j := 3) C dX12_read_93 rfl ?_
                refine m_geta (k := 34) C dX12_read_94 w6_93 (by decide) rfl ?_
                refine m_iload (j := 0) C dX12_read_97 rfl ?_
                refine m_ald (k := 34) C dX12_read_99 rfl rfl (by decide) (by omega) (by show _ < ((_ : Nat) : Int); simp only [mlen]; omega) (by decide) ?_
                refine m_st (st2 := [.int (iI (a 34 y.toNat))]) (congrArg (fun z => Value.int (iI z) :: []) (congrFun (fpb2.2 34 rfl) (y.toNat))) ?_
                refine m_istore (lv2 := [(8, .int (iI (a 34 y.toNat))), (7, .int (iI y)), (5, .long (lI (q + k))), (4, .int (iI k)), (0, .ref h0), (1, .int (iI t)), (2, .int (iI q)), (3, .int (iI n1))]) C dX12_read_100 (by decide) rfl ?_
                refine m_iload (j := 0) C dX12_read_102 rfl ?_
                have J2 : ∀ (g : Int) (vb3 : Nat → Int) (ab3 : Nat → Nat → Int), BX vb3 ab3 → fr [0, 1, 50, 52, 53] [44, 45, 46, 47, 48, 49, 51] v a vb3 ab3 → (g = 0 ∨ (g = 1 ∧ 0 < a 34 y.toNat)) → (vb3 50 ≤ 201 * k) → (RWS ab3) → mw p l e (rmq 36 0 0) s m args below meth c G A 11 (MQ below (Qm G A (fun rq Lq Eq => ∃ (vq : Nat → Int) (aq : Nat → Nat → Int), mI G h0 ad ln vq aq Lq Eq ∧ (fun r v2 a2 => ∃ f : Int, r = some (.int (iI f)) ∧ fr [0, 1, 50, 52, 53] [44, 45, 46, 47, 48, 49, 51] v a v2 a2 ∧ BX v2 a2 ∧ (RWS a2)) rq vq aq)) args s 0 0 A) h0 ad ln vb3 ab3 0 0 135 [(8, .int (iI (a 34 y.toNat))), (7, .int (iI y)), (5, .long (lI (q + k))), (4, .int (iI k)), (0, .ref h0), (1, .int (iI t)), (2, .int (iI q)), (3, .int (iI n1))] [.int (iI g)] := by
                  intro g vb3 ab3 bxb3 fpb3 hg h502 hW3
                  refine m_istore (lv2 := [(9, .int (iI g)), (8, .int (iI (a 34 y.toNat))), (7, .int (iI y)), (5, .long (lI (q + k))), (4, .int (iI k)), (0, .ref h0), (1, .int (iI t)), (2, .int (iI q)), (3, .int (iI n1))]) C dX12_read_135 (by decide) rfl ?_
                  refine m_iconst C dX12_read_137 ?_
                  refine m_istore (lv2 := [(10, .int (iI 0)), (9, .int (iI g)), (8, .int (iI (a 34 y.toNat))), (7, .int (iI y)), (5, .long (lI (q + k))), (4, .int (iI k)), (0, .ref h0), (1, .int (iI t)), (2, .int (iI q)), (3, .int (iI n1))]) C dX12_read_138 (by decide) rfl ?_
                  have Lp2 : ∀ (nn : Nat) (i1 : Int) (vb4 : Nat → Int) (ab4 : Nat → Nat → Int), 201 - i1 < (nn : Int) → BX vb4 ab4 → fr [0, 1, 50, 52, 53] [44, 45, 46, 47, 48, 49, 51] v a vb4 ab4 → (0 ≤ i1 ∧ i1 ≤ a 34 y.toNat) → (vb4 50 ≤ 201 * k + i1) → (RWS ab4) → mw p l e (rmq 36 0 0) s m args below meth c G A 11 (MQ below (Qm G A (fun rq Lq Eq => ∃ (vq : Nat → Int) (aq : Nat → Nat → Int), mI G h0 ad ln vq aq Lq Eq ∧ (fun r v2 a2 => ∃ f : Int, r = some (.int (iI f)) ∧ fr [0, 1, 50, 52, 53] [44, 45, 46, 47, 48, 49, 51] v a v2 a2 ∧ BX v2 a2 ∧ (RWS a2)) rq vq aq)) args s 0 0 A) h0 ad ln vb4 ab4 0 0 140 [(10, .int (iI i1)), (9, .int (iI g)), (8, .int (iI (a 34 y.toNat))), (7, .int (iI y)), (5, .long (lI (q + k))), (4, .int (iI k)), (0, .ref h0), (1, .int (iI t)), (2, .int (iI q)), (3, .int (iI n1))] [] := by
                    intro nn
                    induction nn with
                    | zero =>
                      intro i1 vb4 ab4 hm bxb4 fpb4 hi h503 hW4
                      exact absurd hm (by omega)
                    | succ nn ih2 =>
                      intro i1 vb4 ab4 hm bxb4 fpb4 hi h503 hW4
                      refine m_iload (j := 0) C dX12_read_140 rfl ?_
                      refine m_iload (j := 1) C dX12_read_142 rfl ?_
                      refine m_if_eq (tgt := 154) C ⟨by omega, by omega⟩ dX12_read_144 (by decide) (fun c10 => ?_) (fun c10 => ?_)
                      · clear hg
                        refine m_iload (j := 2) C dX12_read_154 rfl ?_
                        refine m_icmp_ge (tgt := 192) C ⟨by omega, by omega⟩ ⟨by omega, by omega⟩ dX12_read_156 (by decide) (fun c11 => ?_) (fun c11 => ?_)
                        · refine m_iload (j := 1) C dX12_read_192 rfl ?_
                          refine m_if_ne (tgt := 203) C ⟨by omega, by omega⟩ dX12_read_194 (by decide) (fun z => absurd z (by omega)) (fun _ => ?_)
                          refine m_aload_n (j := 6) C dX12_read_197 rfl ?_
                          refine m_iconst C dX12_read_198 ?_
                          refine m_iconst C dX12_read_199 ?_
                          have rv7 : 0 ≤ vb4 50 ∧ vb4 50 ≤ 40200 := bxb4.1 50
                          refine m_call (mc2 := 0) (ms2 := 0) (As := [.int (iI 0), .int (iI 0)]) (rest := []) C (B_putRow (x := 0) (y := 0) bxb4 (by show -2147483648 ≤ (0 : Int) ∧ (0 : Int) ≤ 2147483647; omega) (by show -2147483648 ≤ (0 : Int) ∧ (0 : Int) ≤ 2147483647; omega) (by show (vb4 50) < 40200; omega)) dX12_read_200 kV_X12_351 rfl ck_13 rfl (Nat.le_of_ble_eq_true rfl) ⟨Nat.le_of_ble_eq_true rfl, Nat.le_of_ble_eq_true rfl⟩ ⟨Nat.le_of_ble_eq_true rfl, Nat.le_of_ble_eq_true rfl⟩ (fun rh11 vh11 ah11 h11 => ?_)
                          obtain ⟨rfl, fn10, bn10, ex10⟩ := h11
                          refine hv4 (fpb4.call fn10 rfl rfl) (show RWS ah11 from RWS.fr hW4 fn10 rfl) (show 0 ≤ vh11 50 ∧ vh11 50 ≤ 40200 from bn10.1 50) (show (vh11 50) = (vb4 50) + 1 from ex10) (fun fq12 pw9 rv8 gf11 => ?_)
                          refine m_st (st2 := []) rfl ?_
                          refine m_iinc (z := k) (j := 5) (lv2 := [(4, .int (iI (k + 1))), (10, .int (iI i1)), (9, .int (iI g)), (8, .int (iI (a 34 y.toNat))), (7, .int (iI y)), (5, .long (lI (q + k))), (0, .ref h0), (1, .int (iI t)), (2, .int (iI q)), (3, .int (iI n1))]) C dX12_read_203 rfl (by decide) rfl ?_
                          refine m_goto (tgt := 32) C dX12_read_206 (by decide) ?_
                          refine m_lv (lv2 := [(4, .int (iI (k + 1))), (0, .ref h0), (1, .int (iI t)), (2, .int (iI q)), (3, .int (iI n1))]) [0, 6, 7, 8, 9] rfl ?_
                          exact ih1  (k + 1) _ _ (by omega) bn10 fq12 (by omega) (by omega) (by show (vh11 50) ≤ 201 * (k + 1); omega) pw9
                        · refine m_aload_n (j := 6) C dX12_read_159 rfl ?_
                          refine m_aload_n (j := 6) C dX12_read_160 rfl ?_
                          refine m_geta (k := 35) C dX12_read_161 w6_94 (by decide) rfl ?_
                          refine m_sipush (z := 200) C dX12_read_164 (by decide) ?_
                          refine m_iload (j := 3) C dX12_read_167 rfl ?_
                          refine m_imul C dX12_read_169 ?_
                          refine m_iload (j := 0) C dX12_read_170 rfl ?_
                          refine m_iadd C dX12_read_172 ?_
                          refine m_ald (k := 35) C dX12_read_173 rfl rfl (by decide) (by omega) (by show _ < ((_ : Nat) : Int); simp only [mlen]; omega) (by decide) ?_
                          refine hv2 (show (-2147483648) ≤ ab4 35 ((200 * y) + i1).toNat ∧ ab4 35 ((200 * y) + i1).toNat ≤ 2147483647 from bxb4.2 35 (((200 * y) + i1).toNat)) (show ab4 35 (((200 * y) + i1).toNat) = a 35 (((200 * y) + i1).toNat) from congrFun (fpb4.2 35 rfl) (((200 * y) + i1).toNat)) (fun ra6 ae10 => ?_)
                          refine m_st (st2 := [.int (iI (a 35 ((200 * y) + i1).toNat)), .ref h0]) (congrArg (fun z => Value.int (iI z) :: [.ref h0]) (congrFun (fpb4.2 35 rfl) (((200 * y) + i1).toNat))) ?_
                          refine m_sipush (z := 1000) C dX12_read_174 (by decide) ?_
                          refine m_iload (j := 3) C dX12_read_177 rfl ?_
                          refine m_imul C dX12_read_179 ?_
                          refine m_iload (j := 0) C dX12_read_180 rfl ?_
                          refine m_iadd C dX12_read_182 ?_
                          have rv9 : 0 ≤ vb4 50 ∧ vb4 50 ≤ 40200 := bxb4.1 50
                          refine m_call (mc2 := 0) (ms2 := 0) (As := [.int (iI (a 35 ((200 * y) + i1).toNat)), .int (iI ((1000 * y) + i1))]) (rest := []) C (B_putRow (x := a 35 ((200 * y) + i1).toNat) (y := (1000 * y) + i1) bxb4 (by show -2147483648 ≤ (a 35 ((200 * y) + i1).toNat) ∧ (a 35 ((200 * y) + i1).toNat) ≤ 2147483647; omega) (by show -2147483648 ≤ ((1000 * y) + i1) ∧ ((1000 * y) + i1) ≤ 2147483647; omega) (by show (vb4 50) < 40200; omega)) dX12_read_183 kV_X12_351 rfl ck_13 rfl (Nat.le_of_ble_eq_true rfl) ⟨Nat.le_of_ble_eq_true rfl, Nat.le_of_ble_eq_true rfl⟩ ⟨Nat.le_of_ble_eq_true rfl, Nat.le_of_ble_eq_true rfl⟩ (fun rh12 vh12 ah12 h12 => ?_)
                          obtain ⟨rfl, fn11, bn11, ex11⟩ := h12
                          refine hv4 (fpb4.call fn11 rfl rfl) (show RWS ah12 from RWS.fr hW4 fn11 rfl) (show 0 ≤ vh12 50 ∧ vh12 50 ≤ 40200 from bn11.1 50) (show (vh12 50) = (vb4 50) + 1 from ex11) (fun fq13 pw10 rv10 gf12 => ?_)
                          refine m_st (st2 := []) rfl ?_
                          refine m_iinc (z := i1) (j := 0) (lv2 := [(10, .int (iI (i1 + 1))), (9, .int (iI g)), (8, .int (iI (a 34 y.toNat))), (7, .int (iI y)), (5, .long (lI (q + k))), (4, .int (iI k)), (0, .ref h0), (1, .int (iI t)), (2, .int (iI q)), (3, .int (iI n1))]) C dX12_read_186 rfl (by decide) rfl ?_
                          refine m_goto (tgt := 140) C dX12_read_189 (by decide) ?_
                          refine m_lv (lv2 := [(10, .int (iI (i1 + 1))), (9, .int (iI g)), (8, .int (iI (a 34 y.toNat))), (7, .int (iI y)), (5, .long (lI (q + k))), (4, .int (iI k)), (0, .ref h0), (1, .int (iI t)), (2, .int (iI q)), (3, .int (iI n1))]) [0, 1, 2, 3, 4, 5, 6, 7, 8, 9] rfl ?_
                          exact ih2  (i1 + 1) _ _ (by omega) bn11 fq13 (by omega) (by show (vh12 50) ≤ 201 * k + (i1 + 1); omega) pw10
                      · replace hg := (hg.resolve_left c10)
                        refine m_iload (j := 2) C dX12_read_147 rfl ?_
                        refine m_iconst C dX12_read_149 ?_
                        refine m_isub C dX12_read_150 ?_
                        refine m_goto (tgt := 156) C dX12_read_151 (by decide) ?_
                        refine m_icmp_ge (tgt := 192) C ⟨by omega, by omega⟩ ⟨by omega, by omega⟩ dX12_read_156 (by decide) (fun c12 => ?_) (fun c12 => ?_)
                        · refine m_iload (j := 1) C dX12_read_192 rfl ?_
                          refine m_if_ne (tgt := 203) C ⟨by omega, by omega⟩ dX12_read_194 (by decide) (fun _ => ?_) (fun z => absurd z (by omega))
                          refine m_iinc (z := k) (j := 5) (lv2 := [(4, .int (iI (k + 1))), (10, .int (iI i1)), (9, .int (iI g)), (8, .int (iI (a 34 y.toNat))), (7, .int (iI y)), (5, .long (lI (q + k))), (0, .ref h0), (1, .int (iI t)), (2, .int (iI q)), (3, .int (iI n1))]) C dX12_read_203 rfl (by decide) rfl ?_
                          refine m_goto (tgt := 32) C dX12_read_206 (by decide) ?_
                          have rv11 : 0 ≤ vb4 50 ∧ vb4 50 ≤ 40200 := bxb4.1 50
                          refine m_lv (lv2 := [(4, .int (iI (k + 1))), (0, .ref h0), (1, .int (iI t)), (2, .int (iI q)), (3, .int (iI n1))]) [0, 6, 7, 8, 9] rfl ?_
                          exact ih1  (k + 1) _ _ (by omega) bxb4 fpb4 (by omega) (by omega) (by show (vb4 50) ≤ 201 * (k + 1); omega) hW4
                        · refine m_aload_n (j := 6) C dX12_read_159 rfl ?_
                          refine m_aload_n (j := 6) C dX12_read_160 rfl ?_
                          refine m_geta (k := 35) C dX12_read_161 w6_94 (by decide) rfl ?_
                          refine m_sipush (z := 200) C dX12_read_164 (by decide) ?_
                          refine m_iload (j := 3) C dX12_read_167 rfl ?_
                          refine m_imul C dX12_read_169 ?_
                          refine m_iload (j := 0) C dX12_read_170 rfl ?_
                          refine m_iadd C dX12_read_172 ?_
                          refine m_ald (k := 35) C dX12_read_173 rfl rfl (by decide) (by omega) (by show _ < ((_ : Nat) : Int); simp only [mlen]; omega) (by decide) ?_
                          refine hv2 (show (-2147483648) ≤ ab4 35 ((200 * y) + i1).toNat ∧ ab4 35 ((200 * y) + i1).toNat ≤ 2147483647 from bxb4.2 35 (((200 * y) + i1).toNat)) (show ab4 35 (((200 * y) + i1).toNat) = a 35 (((200 * y) + i1).toNat) from congrFun (fpb4.2 35 rfl) (((200 * y) + i1).toNat)) (fun ra7 ae11 => ?_)
                          refine m_st (st2 := [.int (iI (a 35 ((200 * y) + i1).toNat)), .ref h0]) (congrArg (fun z => Value.int (iI z) :: [.ref h0]) (congrFun (fpb4.2 35 rfl) (((200 * y) + i1).toNat))) ?_
                          refine m_sipush (z := 1000) C dX12_read_174 (by decide) ?_
                          refine m_iload (j := 3) C dX12_read_177 rfl ?_
                          refine m_imul C dX12_read_179 ?_
                          refine m_iload (j := 0) C dX12_read_180 rfl ?_
                          refine m_iadd C dX12_read_182 ?_
                          have rv12 : 0 ≤ vb4 50 ∧ vb4 50 ≤ 40200 := bxb4.1 50
                          refine m_call (mc2 := 0) (ms2 := 0) (As := [.int (iI (a 35 ((200 * y) + i1).toNat)), .int (iI ((1000 * y) + i1))]) (rest := []) C (B_putRow (x := a 35 ((200 * y) + i1).toNat) (y := (1000 * y) + i1) bxb4 (by show -2147483648 ≤ (a 35 ((200 * y) + i1).toNat) ∧ (a 35 ((200 * y) + i1).toNat) ≤ 2147483647; omega) (by show -2147483648 ≤ ((1000 * y) + i1) ∧ ((1000 * y) + i1) ≤ 2147483647; omega) (by show (vb4 50) < 40200; omega)) dX12_read_183 kV_X12_351 rfl ck_13 rfl (Nat.le_of_ble_eq_true rfl) ⟨Nat.le_of_ble_eq_true rfl, Nat.le_of_ble_eq_true rfl⟩ ⟨Nat.le_of_ble_eq_true rfl, Nat.le_of_ble_eq_true rfl⟩ (fun rh13 vh13 ah13 h13 => ?_)
                          obtain ⟨rfl, fn12, bn12, ex12⟩ := h13
                          refine hv4 (fpb4.call fn12 rfl rfl) (show RWS ah13 from RWS.fr hW4 fn12 rfl) (show 0 ≤ vh13 50 ∧ vh13 50 ≤ 40200 from bn12.1 50) (show (vh13 50) = (vb4 50) + 1 from ex12) (fun fq14 pw11 rv13 gf13 => ?_)
                          refine m_st (st2 := []) rfl ?_
                          refine m_iinc (z := i1) (j := 0) (lv2 := [(10, .int (iI (i1 + 1))), (9, .int (iI g)), (8, .int (iI (a 34 y.toNat))), (7, .int (iI y)), (5, .long (lI (q + k))), (4, .int (iI k)), (0, .ref h0), (1, .int (iI t)), (2, .int (iI q)), (3, .int (iI n1))]) C dX12_read_186 rfl (by decide) rfl ?_
                          refine m_goto (tgt := 140) C dX12_read_189 (by decide) ?_
                          refine m_lv (lv2 := [(10, .int (iI (i1 + 1))), (9, .int (iI g)), (8, .int (iI (a 34 y.toNat))), (7, .int (iI y)), (5, .long (lI (q + k))), (4, .int (iI k)), (0, .ref h0), (1, .int (iI t)), (2, .int (iI q)), (3, .int (iI n1))]) [0, 1, 2, 3, 4, 5, 6, 7, 8, 9] rfl ?_
                          exact ih2  (i1 + 1) _ _ (by omega) bn12 fq14 (by omega) (by show (vh13 50) ≤ 201 * k + (i1 + 1); omega) pw11
                  have rv14 : 0 ≤ vb3 50 ∧ vb3 50 ≤ 40200 := bxb3.1 50
                  refine m_lv (lv2 := [(10, .int (iI 0)), (9, .int (iI g)), (8, .int (iI (a 34 y.toNat))), (7, .int (iI y)), (5, .long (lI (q + k))), (4, .int (iI k)), (0, .ref h0), (1, .int (iI t)), (2, .int (iI q)), (3, .int (iI n1))]) [0, 1, 2, 3, 4, 5, 6, 7, 8, 9] rfl ?_
                  exact Lp2 202 0 _ _ (by omega) bxb3 fpb3 (by omega) (by show (vb3 50) ≤ 201 * k + 0; omega) hW3
                refine m_if_le (tgt := 134) C ⟨by omega, by omega⟩ dX12_read_104 (by decide) (fun c13 => ?_) (fun c13 => ?_)
                · refine m_iconst C dX12_read_134 ?_
                  have rv15 : 0 ≤ vb2 50 ∧ vb2 50 ≤ 40200 := bxb2.1 50
                  refine m_lv (lv2 := [(8, .int (iI (a 34 y.toNat))), (7, .int (iI y)), (5, .long (lI (q + k))), (4, .int (iI k)), (0, .ref h0), (1, .int (iI t)), (2, .int (iI q)), (3, .int (iI n1))]) [0, 1, 2, 3, 4, 5, 6, 7] rfl ?_
                  exact J2  0 _ _  bxb2 fpb2 (by omega) (by show (vb2 50) ≤ 201 * k; omega) hW2
                · refine m_aload_n (j := 4) C dX12_read_107 rfl ?_
                  refine m_geta (k := 35) C dX12_read_108 w6_94 (by decide) rfl ?_
                  refine m_sipush (z := 200) C dX12_read_111 (by decide) ?_
                  refine m_iload (j := 1) C dX12_read_114 rfl ?_
                  refine m_imul C dX12_read_116 ?_
                  refine m_iload (j := 0) C dX12_read_117 rfl ?_
                  refine m_iadd C dX12_read_119 ?_
                  refine m_iconst C dX12_read_120 ?_
                  refine m_isub C dX12_read_121 ?_
                  refine m_ald (k := 35) C dX12_read_122 rfl rfl (by decide) (by omega) (by show _ < ((_ : Nat) : Int); simp only [mlen]; omega) (by decide) ?_
                  refine hv2 (show (-2147483648) ≤ ab2 35 (((200 * y) + (a 34 y.toNat)) - 1).toNat ∧ ab2 35 (((200 * y) + (a 34 y.toNat)) - 1).toNat ≤ 2147483647 from bxb2.2 35 ((((200 * y) + (a 34 y.toNat)) - 1).toNat)) (show ab2 35 ((((200 * y) + (a 34 y.toNat)) - 1).toNat) = a 35 ((((200 * y) + (a 34 y.toNat)) - 1).toNat) from congrFun (fpb2.2 35 rfl) ((((200 * y) + (a 34 y.toNat)) - 1).toNat)) (fun ra8 ae12 => ?_)
                  refine m_st (st2 := [.int (iI (a 35 (((200 * y) + (a 34 y.toNat)) - 1).toNat))]) (congrArg (fun z => Value.int (iI z) :: []) (congrFun (fpb2.2 35 rfl) ((((200 * y) + (a 34 y.toNat)) - 1).toNat))) ?_
                  refine m_aload_n (j := 4) C dX12_read_123 rfl ?_
                  refine hv2 (show (-2147483648) ≤ vb2 33 ∧ vb2 33 ≤ 2147483647 from bxb2.1 33) (show vb2 33 = v 33 from fpb2.1 33 rfl) (fun rv16 ve5 => ?_)
                  refine m_get (k := 33) C dX12_read_124 w6_92 (by decide) rfl ?_
                  refine m_st (st2 := [.int (iI (v 33)), .int (iI (a 35 (((200 * y) + (a 34 y.toNat)) - 1).toNat))]) (congrArg (fun z => Value.int (iI z) :: [.int (iI (a 35 (((200 * y) + (a 34 y.toNat)) - 1).toNat))]) (fpb2.1 33 rfl)) ?_
                  refine m_icmp_ne (tgt := 134) C ⟨by omega, by omega⟩ (r32_c (lo := (-2147483648)) (hi := 2147483647) (Int.le_trans rv16.1 (Int.le_of_eq ve5)) (Int.le_trans (Int.le_of_eq ve5.symm) rv16.2) (by decide) (by decide)) dX12_read_127 (by decide) (fun c14 => ?_) (fun c14 => ?_)
                  · refine m_iconst C dX12_read_134 ?_
                    have rv17 : 0 ≤ vb2 50 ∧ vb2 50 ≤ 40200 := bxb2.1 50
                    refine m_lv (lv2 := [(8, .int (iI (a 34 y.toNat))), (7, .int (iI y)), (5, .long (lI (q + k))), (4, .int (iI k)), (0, .ref h0), (1, .int (iI t)), (2, .int (iI q)), (3, .int (iI n1))]) [0, 1, 2, 3, 4, 5, 6, 7] rfl ?_
                    exact J2  0 _ _  bxb2 fpb2 (by omega) (by show (vb2 50) ≤ 201 * k; omega) hW2
                  · refine m_iconst C dX12_read_130 ?_
                    refine m_goto (tgt := 135) C dX12_read_131 (by decide) ?_
                    have rv18 : 0 ≤ vb2 50 ∧ vb2 50 ≤ 40200 := bxb2.1 50
                    refine m_lv (lv2 := [(8, .int (iI (a 34 y.toNat))), (7, .int (iI y)), (5, .long (lI (q + k))), (4, .int (iI k)), (0, .ref h0), (1, .int (iI t)), (2, .int (iI q)), (3, .int (iI n1))]) [0, 1, 2, 3, 4, 5, 6, 7] rfl ?_
                    exact J2  1 _ _  bxb2 fpb2 (by omega) (by show (vb2 50) ≤ 201 * k; omega) hW2
              · refine m_aload_n (j := 3) C dX12_read_82 rfl ?_
                refine m_aload_n (j := 3) C dX12_read_83 rfl ?_
                refine m_iload (j := 0) C dX12_read_84 rfl ?_
                refine m_call (mc2 := 0) (ms2 := 0) (As := [.int (iI y)]) (rest := [.ref h0]) C (M_lineFault (l0 := y) bxb2.rg ⟨by omega, by omega⟩ ⟨bxb2.1 36, bxb2.2 34⟩) dX12_read_86 kV_X12_294 rfl ck_13 rfl (Nat.le_of_ble_eq_true rfl) ⟨Nat.le_of_ble_eq_true rfl, Nat.le_of_ble_eq_true rfl⟩ ⟨Nat.le_of_ble_eq_true rfl, Nat.le_of_ble_eq_true rfl⟩ (fun rh14 vh14 ah14 h14 => ?_)
                obtain ⟨f14, rfl, hf14, rfl, rfl⟩ := h14
                have gf14 : (f14 = 2 ∧ ¬ (0 ≤ y ∧ y < (vb2 36))) ∨ (f14 = 1 ∧ 0 ≤ y ∧ y < (vb2 36) ∧ ab2 34 y.toNat < 0) ∨ (f14 = 0 ∧ 0 ≤ y ∧ y < (vb2 36) ∧ 0 ≤ ab2 34 y.toNat) := hf14
                refine m_st (st2 := [.int (iI f14), .ref h0]) rfl ?_
                refine m_call (mc2 := 0) (ms2 := 0) (As := [.int (iI f14)]) (rest := []) C (B_bad (x := f14) bxb2 (by show -2147483648 ≤ f14 ∧ f14 ≤ 2147483647; omega)) dX12_read_89 kV_X12_154 rfl ck_13 rfl (Nat.le_of_ble_eq_true rfl) ⟨Nat.le_of_ble_eq_true rfl, Nat.le_of_ble_eq_true rfl⟩ ⟨Nat.le_of_ble_eq_true rfl, Nat.le_of_ble_eq_true rfl⟩ (fun rh15 vh15 ah15 h15 => ?_)
                obtain ⟨f15, rfl, fn13, bn13, ex13⟩ := h15
                refine hv3 (fpb2.call fn13 rfl rfl) (show RWS ah15 from RWS.fr hW2 fn13 rfl) (show f15 = -1 from ex13) (fun fq15 pw12 gf15 => ?_)
                refine m_st (st2 := [.int (iI f15)]) rfl ?_
                exact m_iret C dX12_read_92 rfl (Nat.le_of_ble_eq_true rfl) (Nat.le_of_ble_eq_true rfl) ⟨f15, rfl, fq15, bn13, pw12⟩
            refine m_if_lt (tgt := 64) C ⟨by omega, by omega⟩ dX12_read_50 (by decide) (fun c15 => ?_) (fun c15 => ?_)
            · refine m_iconst C dX12_read_64 ?_
              refine m_goto (tgt := 71) C dX12_read_65 (by decide) ?_
              have rv19 : 0 ≤ vb1 50 ∧ vb1 50 ≤ 40200 := bxb1.1 50
              refine m_lv (lv2 := [(5, .long (lI (q + k))), (4, .int (iI k)), (0, .ref h0), (1, .int (iI t)), (2, .int (iI q)), (3, .int (iI n1))]) [0, 1, 2, 3, 4, 5] rfl ?_
              exact J1  (-1) _ _  bxb1 fpb1 (by omega) (by show (vb1 50) ≤ 201 * k; omega) hW1
            · refine m_lload (j := 0) C dX12_read_53 rfl ?_
              refine m_aload_n (j := 2) C dX12_read_55 rfl ?_
              refine hv2 (show 0 ≤ vb1 36 ∧ vb1 36 ≤ 200 from bxb1.1 36) (show vb1 36 = v 36 from fpb1.1 36 rfl) (fun rv20 ve6 => ?_)
              refine m_get (k := 36) C dX12_read_56 w6_95 (by decide) rfl ?_
              refine m_st (st2 := [.int (iI (v 36)), .long (lI (q + k))]) (congrArg (fun z => Value.int (iI z) :: [.long (lI (q + k))]) (fpb1.1 36 rfl)) ?_
              refine m_i2l (w := lI (v 36)) C dX12_read_59 (lI_of ⟨by omega, by omega⟩) ?_
              obtain ⟨lc2, hlc2, elc2⟩ := lcmp_c (x := (q + k)) (y := (v 36)) ⟨by omega, by omega⟩ ⟨by omega, by omega⟩
              refine m_lcmp (w := iI lc2) C dX12_read_60 elc2 ?_
              refine m_if_lt (tgt := 68) C ⟨by omega, by omega⟩ dX12_read_61 (by decide) (fun c16 => ?_) (fun c16 => ?_)
              · refine m_lload (j := 0) C dX12_read_68 rfl ?_
                refine m_l2i (w := iI (q + k)) C dX12_read_70 (lI_i _) ?_
                have rv21 : 0 ≤ vb1 50 ∧ vb1 50 ≤ 40200 := bxb1.1 50
                refine m_lv (lv2 := [(5, .long (lI (q + k))), (4, .int (iI k)), (0, .ref h0), (1, .int (iI t)), (2, .int (iI q)), (3, .int (iI n1))]) [0, 1, 2, 3, 4, 5] rfl ?_
                exact J1  (q + k) _ _  bxb1 fpb1 (by omega) (by show (vb1 50) ≤ 201 * k; omega) hW1
              · refine m_iconst C dX12_read_64 ?_
                refine m_goto (tgt := 71) C dX12_read_65 (by decide) ?_
                have rv22 : 0 ≤ vb1 50 ∧ vb1 50 ≤ 40200 := bxb1.1 50
                refine m_lv (lv2 := [(5, .long (lI (q + k))), (4, .int (iI k)), (0, .ref h0), (1, .int (iI t)), (2, .int (iI q)), (3, .int (iI n1))]) [0, 1, 2, 3, 4, 5] rfl ?_
                exact J1  (-1) _ _  bxb1 fpb1 (by omega) (by show (vb1 50) ≤ 201 * k; omega) hW1
      refine m_lv (lv2 := [(4, .int (iI 0)), (0, .ref h0), (1, .int (iI t)), (2, .int (iI q)), (3, .int (iI n1))]) [0, 1, 2, 3, 4] rfl ?_
      exact Lp1 202 0 _ _ (by omega) bq1 fq2 (by omega) (by omega) (by show 0 ≤ 201 * 0; omega) hW
    · refine m_aload_n (j := 0) C dX12_read_18 rfl ?_
      refine m_iconst C dX12_read_19 ?_
      refine m_call (mc2 := 0) (ms2 := 0) (As := [.int (iI 5)]) (rest := []) C (B_bad (x := 5) hB (by show -2147483648 ≤ (5 : Int) ∧ (5 : Int) ≤ 2147483647; omega)) dX12_read_20 kV_X12_154 rfl ck_13 rfl (Nat.le_of_ble_eq_true rfl) ⟨Nat.le_of_ble_eq_true rfl, Nat.le_of_ble_eq_true rfl⟩ ⟨Nat.le_of_ble_eq_true rfl, Nat.le_of_ble_eq_true rfl⟩ (fun rh16 vh16 ah16 h16 => ?_)
      obtain ⟨f16, rfl, fn14, bn14, ex14⟩ := h16
      refine hv3 (fp0.call fn14 rfl rfl) (show RWS ah16 from RWS.fr hW fn14 rfl) (show f16 = -1 from ex14) (fun fq16 pw13 gf16 => ?_)
      refine m_st (st2 := [.int (iI f16)]) rfl ?_
      exact m_iret C dX12_read_23 rfl (Nat.le_of_ble_eq_true rfl) (Nat.le_of_ble_eq_true rfl) ⟨f16, rfl, fq16, bn14, pw13⟩
  · clear gf1
    refine m_aload_n (j := 0) C dX12_read_8 rfl ?_
    refine m_iconst C dX12_read_9 ?_
    refine m_call (mc2 := 0) (ms2 := 0) (As := [.int (iI 3)]) (rest := []) C (B_bad (x := 3) hB (by show -2147483648 ≤ (3 : Int) ∧ (3 : Int) ≤ 2147483647; omega)) dX12_read_10 kV_X12_154 rfl ck_13 rfl (Nat.le_of_ble_eq_true rfl) ⟨Nat.le_of_ble_eq_true rfl, Nat.le_of_ble_eq_true rfl⟩ ⟨Nat.le_of_ble_eq_true rfl, Nat.le_of_ble_eq_true rfl⟩ (fun rh17 vh17 ah17 h17 => ?_)
    obtain ⟨f17, rfl, fn15, bn15, ex15⟩ := h17
    refine hv3 (fp0.call fn15 rfl rfl) (show RWS ah17 from RWS.fr hW fn15 rfl) (show f17 = -1 from ex15) (fun fq17 pw14 gf17 => ?_)
    refine m_st (st2 := [.int (iI f17)]) rfl ?_
    exact m_iret C dX12_read_13 rfl (Nat.le_of_ble_eq_true rfl) (Nat.le_of_ble_eq_true rfl) ⟨f17, rfl, fq17, bn15, pw14⟩
set_option maxHeartbeats 4000000 in
set_option maxRecDepth 100000 in
theorem N_readings {l : Launch} {G : GT} {h0 : Nat} {ad ln : Nat → Nat} {v : Nat → Int} {a : Nat → Nat → Int}  {t l0 n1 : Int} (hB : BX v a) (hT : TBL v a) (hW : RWS a) (ht : -2147483648 ≤ t ∧ t ≤ 2147483647) (hl0 : -2147483648 ≤ l0 ∧ l0 ≤ 2147483647) (hn1 : -2147483648 ≤ n1 ∧ n1 ≤ 2147483647) : Mm l G yX12_readings cX12_readings 5 (some .int) 105 [.int (iI t), .int (iI l0), .int (iI n1)] h0 ad ln v a 0 0 (fun r v2 a2 => ∃ f : Int, r = some (.int (iI f)) ∧ fr [0, 1, 50, 60, 61, 63, 64] [44, 45, 46, 47, 48, 49, 57, 58, 59, 62] v a v2 a2 ∧ BX v2 a2 ∧ (RWS a2)) := by
  refine Mm.mk (by decide) (Nat.le_of_ble_eq_true rfl) ?_
  intro p e s m args below meth c A C
  refine hv2 (show 0 ≤ v 4 ∧ v 4 ≤ 30 from hB.1 4) (show fr [0, 1, 50, 60, 61, 63, 64] [44, 45, 46, 47, 48, 49, 57, 58, 59, 62] v a v a from fr.refl) (fun h30 fp0 => ?_)
  refine m_iload_n (j := 3) C dX12_readings_0 rfl ?_
  refine m_iconst C dX12_readings_1 ?_
  refine m_bipush (z := 50) C dX12_readings_2 (by decide) ?_
  refine m_callS (As := [.int (iI n1), .int (iI 1), .int (iI 50)]) (rest := []) C (fun L E => s_isIn (iI n1) (iI 1) (iI 50)) dX12_readings_4 kS_X12_174 rfl rfl (Nat.le_of_ble_eq_true rfl) ⟨Nat.le_of_ble_eq_true rfl, Nat.le_of_ble_eq_true rfl⟩ ⟨Nat.le_of_ble_eq_true rfl, Nat.le_of_ble_eq_true rfl⟩ ?_
  rcases inn_c (x := n1) (lo := 1) (hi := 50) ⟨by omega, by omega⟩ ⟨by decide, by decide⟩ ⟨by decide, by decide⟩ with ⟨h1a, h1b, h1e⟩ | ⟨h1a, h1e⟩
  · refine m_st (st2 := [.int (iI 1)]) (by rw [h1e]) ?_
    refine m_if_ne (tgt := 17) C ⟨by decide, by decide⟩ dX12_readings_7 (by decide) (fun _ => ?_) (fun z => absurd z (by omega))
    refine m_aload_n (j := 0) C dX12_readings_17 rfl ?_
    refine m_iload_n (j := 1) C dX12_readings_18 rfl ?_
    have rv1 : 0 ≤ v 4 ∧ v 4 ≤ 30 := hB.1 4
    refine m_call (mc2 := 0) (ms2 := 0) (As := [.int (iI t)]) (rest := []) C (M_isWhole (t := t) hB (hT.fr fp0 rfl rfl) (by show -2147483648 ≤ t ∧ t ≤ 2147483647; omega)) dX12_readings_19 kV_X12_171 rfl ck_13 rfl (Nat.le_of_ble_eq_true rfl) ⟨Nat.le_of_ble_eq_true rfl, Nat.le_of_ble_eq_true rfl⟩ ⟨Nat.le_of_ble_eq_true rfl, Nat.le_of_ble_eq_true rfl⟩ (fun rh2 vh2 ah2 h2 => ?_)
    obtain ⟨f1, rfl, fn1, bn1, ex1⟩ := h2
    obtain ⟨rfl, rfl⟩ := fn1.eq
    have gf1 : f1 = 0 ∨ (f1 = 1 ∧ 0 ≤ t ∧ t < (v 4)) := ex1
    refine m_st (st2 := [.int (iI f1)]) rfl ?_
    refine m_if_ne (tgt := 31) C (r32_0p gf1) dX12_readings_22 (by decide) (fun c1 => ?_) (fun c1 => ?_)
    · replace gf1 := (gf1.resolve_left c1)
      refine m_aload_n (j := 0) C dX12_readings_31 rfl ?_
      refine m_iload_n (j := 2) C dX12_readings_32 rfl ?_
      have rv2 : 0 ≤ v 36 ∧ v 36 ≤ 200 := hB.1 36
      refine m_call (mc2 := 0) (ms2 := 0) (As := [.int (iI l0)]) (rest := []) C (M_lineFault (l0 := l0) hB.rg ⟨by omega, by omega⟩ ⟨hB.1 36, hB.2 34⟩) dX12_readings_33 kV_X12_294 rfl ck_13 rfl (Nat.le_of_ble_eq_true rfl) ⟨Nat.le_of_ble_eq_true rfl, Nat.le_of_ble_eq_true rfl⟩ ⟨Nat.le_of_ble_eq_true rfl, Nat.le_of_ble_eq_true rfl⟩ (fun rh3 vh3 ah3 h3 => ?_)
      obtain ⟨f2, rfl, hf2, rfl, rfl⟩ := h3
      refine hv2 (show (f2 = 2 ∧ ¬ (0 ≤ l0 ∧ l0 < (v 36))) ∨ (f2 = 1 ∧ 0 ≤ l0 ∧ l0 < (v 36) ∧ a 34 l0.toNat < 0) ∨ (f2 = 0 ∧ 0 ≤ l0 ∧ l0 < (v 36) ∧ 0 ≤ a 34 l0.toNat) from hf2) (show (-1) ≤ a 34 l0.toNat ∧ a 34 l0.toNat ≤ 200 from hB.2 34 (l0.toNat)) (fun gf2 ra1 => ?_)
      refine m_st (st2 := [.int (iI f2)]) rfl ?_
      refine m_if_le (tgt := 49) C ⟨by omega, by omega⟩ dX12_readings_36 (by decide) (fun c2 => ?_) (fun c2 => ?_)
      · refine m_aload_n (j := 0) C dX12_readings_49 rfl ?_
        refine m_geta (k := 34) C dX12_readings_50 w6_93 (by decide) rfl ?_
        refine m_iload_n (j := 2) C dX12_readings_53 rfl ?_
        refine m_ald (k := 34) C dX12_readings_54 rfl rfl (by decide) (by omega) (by show _ < ((_ : Nat) : Int); simp only [mlen]; omega) (by decide) ?_
        refine m_bipush (z := 100) C dX12_readings_55 (by decide) ?_
        refine m_icmp_le (tgt := 67) C (r32_c (lo := (-1)) (hi := 200) ra1.1 ra1.2 (by decide) (by decide)) ⟨by decide, by decide⟩ dX12_readings_57 (by decide) (fun c3 => ?_) (fun c3 => ?_)
        · refine m_aload_n (j := 0) C dX12_readings_67 rfl ?_
          refine m_iconst C dX12_readings_68 ?_
          refine m_put (k := 50) (z := 0) C dX12_readings_69 w6_109 (by decide) rfl rfl rfl ?_
          refine hv2 (show BX (va_up v 50 0) a from hB.put (k := 50) (z := 0) ⟨by decide, by decide⟩) (fp0.put (k := 50) (z := 0) rfl) (fun bq1 fq2 => ?_)
          refine m_iconst C dX12_readings_72 ?_
          refine m_istore (lv2 := [(4, .int (iI 0)), (0, .ref h0), (1, .int (iI t)), (2, .int (iI l0)), (3, .int (iI n1))]) C dX12_readings_73 (by decide) rfl ?_
          have Lp1 : ∀ (nn : Nat) (i1 : Int) (vb1 : Nat → Int) (ab1 : Nat → Nat → Int), 201 - i1 < (nn : Int) → BX vb1 ab1 → fr [0, 1, 50, 60, 61, 63, 64] [44, 45, 46, 47, 48, 49, 57, 58, 59, 62] v a vb1 ab1 → (0 ≤ i1 ∧ i1 ≤ a 34 l0.toNat) → (vb1 50 = i1) → (RWS ab1) → mw p l e (rmq 105 0 0) s m args below meth c G A 5 (MQ below (Qm G A (fun rq Lq Eq => ∃ (vq : Nat → Int) (aq : Nat → Nat → Int), mI G h0 ad ln vq aq Lq Eq ∧ (fun r v2 a2 => ∃ f : Int, r = some (.int (iI f)) ∧ fr [0, 1, 50, 60, 61, 63, 64] [44, 45, 46, 47, 48, 49, 57, 58, 59, 62] v a v2 a2 ∧ BX v2 a2 ∧ (RWS a2)) rq vq aq)) args s 0 0 A) h0 ad ln vb1 ab1 0 0 75 [(4, .int (iI i1)), (0, .ref h0), (1, .int (iI t)), (2, .int (iI l0)), (3, .int (iI n1))] [] := by
            intro nn
            induction nn with
            | zero =>
              intro i1 vb1 ab1 hm bxb1 fpb1 hi h501 hW1
              exact absurd hm (by omega)
            | succ nn ih1 =>
              intro i1 vb1 ab1 hm bxb1 fpb1 hi h501 hW1
              refine m_iload (j := 0) C dX12_readings_75 rfl ?_
              refine m_aload_n (j := 1) C dX12_readings_77 rfl ?_
              refine m_geta (k := 34) C dX12_readings_78 w6_93 (by decide) rfl ?_
              refine m_iload_n (j := 3) C dX12_readings_81 rfl ?_
              refine m_ald (k := 34) C dX12_readings_82 rfl rfl (by decide) (by omega) (by show _ < ((_ : Nat) : Int); simp only [mlen]; omega) (by decide) ?_
              refine hv2 (show (-1) ≤ ab1 34 l0.toNat ∧ ab1 34 l0.toNat ≤ 200 from bxb1.2 34 (l0.toNat)) (show ab1 34 (l0.toNat) = a 34 (l0.toNat) from congrFun (fpb1.2 34 rfl) (l0.toNat)) (fun ra2 ae1 => ?_)
              refine m_st (st2 := [.int (iI (a 34 l0.toNat)), .int (iI i1)]) (congrArg (fun z => Value.int (iI z) :: [.int (iI i1)]) (congrFun (fpb1.2 34 rfl) (l0.toNat))) ?_
              refine m_icmp_ge (tgt := 110) C ⟨by omega, by omega⟩ (r32_c (lo := (-1)) (hi := 200) ra1.1 ra1.2 (by decide) (by decide)) dX12_readings_83 (by decide) (fun c4 => ?_) (fun c4 => ?_)
              · refine m_aload_n (j := 1) C dX12_readings_110 rfl ?_
                refine m_iload_n (j := 2) C dX12_readings_111 rfl ?_
                refine hv2 (show 0 ≤ vb1 4 ∧ vb1 4 ≤ 30 from bxb1.1 4) (show vb1 4 = v 4 from fpb1.1 4 rfl) (fun rv3 ve1 => ?_)
                refine m_call (mc2 := 0) (ms2 := 0) (As := [.int (iI t)]) (rest := []) C (M_gather (t := t) bxb1 hW1 (hT.fr fpb1 rfl rfl) (by show 0 ≤ t ∧ t < (vb1 4); omega)) dX12_readings_112 kV_X12_354 rfl ck_13 rfl (Nat.le_of_ble_eq_true rfl) ⟨Nat.le_of_ble_eq_true rfl, Nat.le_of_ble_eq_true rfl⟩ ⟨Nat.le_of_ble_eq_true rfl, Nat.le_of_ble_eq_true rfl⟩ (fun rh4 vh4 ah4 h4 => ?_)
                obtain ⟨rfl, fn2, bn2, ex2⟩ := h4
                refine hv2 (fpb1.call fn2 rfl rfl) (ex2) (fun fq3 pw1 => ?_)
                refine m_st (st2 := []) rfl ?_
                refine m_aload_n (j := 1) C dX12_readings_115 rfl ?_
                refine hv2 (show 0 ≤ vh4 50 ∧ vh4 50 ≤ 40200 from bn2.1 50) (show vh4 50 = vb1 50 from fn2.1 50 rfl) (fun rv4 ve2 => ?_)
                refine m_call (mc2 := 0) (ms2 := 0) (As := []) (rest := []) C (M_findCan  bn2 pw1 (by show (vh4 50) ≤ 100; omega)) dX12_readings_116 kV_X12_401 rfl ck_13 rfl (Nat.le_of_ble_eq_true rfl) ⟨Nat.le_of_ble_eq_true rfl, Nat.le_of_ble_eq_true rfl⟩ ⟨Nat.le_of_ble_eq_true rfl, Nat.le_of_ble_eq_true rfl⟩ (fun rh5 vh5 ah5 h5 => ?_)
                obtain ⟨rfl, fn3, bn3, ex3⟩ := h5
                refine hv2 (fq3.call fn3 rfl rfl) (show RWS ah5 from RWS.fr pw1 fn3 rfl) (fun fq4 pw2 => ?_)
                refine m_st (st2 := []) rfl ?_
                refine m_aload_n (j := 1) C dX12_readings_119 rfl ?_
                refine m_iconst C dX12_readings_120 ?_
                refine m_put (k := 60) (z := 0) C dX12_readings_121 w6_119 (by decide) rfl rfl rfl ?_
                refine hv2 (show BX (va_up vh5 60 0) ah5 from bn3.put (k := 60) (z := 0) ⟨by decide, by decide⟩) (fq4.put (k := 60) (z := 0) rfl) (fun bq2 fq5 => ?_)
                refine m_aload_n (j := 1) C dX12_readings_124 rfl ?_
                refine m_iconst C dX12_readings_125 ?_
                refine m_put (k := 61) (z := 0) C dX12_readings_126 w6_120 (by decide) rfl rfl rfl ?_
                refine hv2 (show BX (va_up (va_up vh5 60 0) 61 0) ah5 from bq2.put (k := 61) (z := 0) ⟨by decide, by decide⟩) (fq5.put (k := 61) (z := 0) rfl) (fun bq3 fq6 => ?_)
                refine m_aload_n (j := 1) C dX12_readings_129 rfl ?_
                refine m_iconst C dX12_readings_130 ?_
                refine m_put (k := 63) (z := 0) C dX12_readings_131 w6_122 (by decide) rfl rfl rfl ?_
                refine hv2 (show BX (va_up (va_up (va_up vh5 60 0) 61 0) 63 0) ah5 from bq3.put (k := 63) (z := 0) ⟨by decide, by decide⟩) (fq6.put (k := 63) (z := 0) rfl) (fun bq4 fq7 => ?_)
                refine m_aload_n (j := 1) C dX12_readings_134 rfl ?_
                refine m_iload_n (j := 4) C dX12_readings_135 rfl ?_
                refine m_put (k := 64) (z := n1) C dX12_readings_136 w6_123 (by decide) rfl rfl rfl ?_
                refine hv2 (show BX (va_up (va_up (va_up (va_up vh5 60 0) 61 0) 63 0) 64 n1) ah5 from bq4.put (k := 64) (z := n1) (show 0 ≤ n1 ∧ n1 ≤ 50 by omega)) (fq7.put (k := 64) (z := n1) rfl) (fun bq5 fq8 => ?_)
                refine m_aload_n (j := 1) C dX12_readings_139 rfl ?_
                refine m_geta (k := 57) C dX12_readings_140 w6_116 (by decide) rfl ?_
                refine m_iconst C dX12_readings_143 ?_
                refine m_zald (k := 57) C dX12_readings_144 rfl rfl (by decide) (by decide) (by decide) (by decide) ?_
                have ra3 : 0 ≤ ah5 57 0 ∧ ah5 57 0 ≤ 1 := bq5.2 57 (0)
                refine m_st (st2 := [.int (iI (ah5 57 0))]) rfl ?_
                refine m_if_eq (tgt := 155) C (r32_c (lo := 0) (hi := 1) ra3.1 ra3.2 (by decide) (by decide)) dX12_readings_145 (by decide) (fun c5 => ?_) (fun c5 => ?_)
                · refine m_aload_n (j := 1) C dX12_readings_155 rfl ?_
                  refine m_aload_n (j := 1) C dX12_readings_156 rfl ?_
                  refine m_get (k := 60) C dX12_readings_157 w6_119 (by decide) rfl ?_
                  refine m_st (st2 := [.int (iI 0), .ref h0]) rfl ?_
                  refine m_call (mc2 := 0) (ms2 := 0) (As := [.int (iI 0)]) (rest := []) C (B_fine (x := 0) bq5 (by show -2147483648 ≤ (0 : Int) ∧ (0 : Int) ≤ 2147483647; omega)) dX12_readings_160 kV_X12_158 rfl ck_13 rfl (Nat.le_of_ble_eq_true rfl) ⟨Nat.le_of_ble_eq_true rfl, Nat.le_of_ble_eq_true rfl⟩ ⟨Nat.le_of_ble_eq_true rfl, Nat.le_of_ble_eq_true rfl⟩ (fun rh6 vh6 ah6 h6 => ?_)
                  obtain ⟨f5, rfl, fn4, bn4, ex4⟩ := h6
                  refine hv3 (fq8.call fn4 rfl rfl) (show RWS ah6 from RWS.fr pw2 fn4 rfl) (show f5 = (0 : Int) from ex4) (fun fq9 pw3 gf5 => ?_)
                  refine m_st (st2 := [.int (iI f5)]) rfl ?_
                  exact m_iret C dX12_readings_163 rfl (Nat.le_of_ble_eq_true rfl) (Nat.le_of_ble_eq_true rfl) ⟨f5, rfl, fq9, bn4, pw3⟩
                · refine m_aload_n (j := 1) C dX12_readings_148 rfl ?_
                  refine m_iconst C dX12_readings_149 ?_
                  refine m_iconst C dX12_readings_150 ?_
                  refine m_iconst C dX12_readings_151 ?_
                  refine hv2 (show 0 ≤ vh5 50 ∧ vh5 50 ≤ 40200 from bq5.1 50) (show vh5 50 = vh4 50 from fn3.1 50 rfl) (fun rv5 ve3 => ?_)
                  refine m_call (mc2 := 0) (ms2 := 0) (As := [.int (iI 0), .int (iI 0), .int (iI 0)]) (rest := []) C (M_go (x := 0) (pt := 0) (g := 0) bq5 pw2 (by show (vh5 50) ≤ 100; omega) (by show 0 ≤ (0 : Int) ∧ (0 : Int) ≤ (vh5 50); omega) (by show (0 : Int) = 0 ∨ (0 : Int) = 1; omega) (by show (0 : Int) = 0 ∨ (0 : Int) = 1; omega) (by show 0 ≤ n1; omega) (by show 0 ≤ 8 * (0 : Int); omega)) dX12_readings_152 kV_X12_391 rfl ck_13 rfl (Nat.le_of_ble_eq_true rfl) ⟨Nat.le_of_ble_eq_true rfl, Nat.le_of_ble_eq_true rfl⟩ ⟨Nat.le_of_ble_eq_true rfl, Nat.le_of_ble_eq_true rfl⟩ (fun rh7 vh7 ah7 h7 => ?_)
                  obtain ⟨rfl, fn5, bn5, ex5⟩ := h7
                  refine hv5 (fq8.call fn5 rfl rfl) (show RWS ah7 from RWS.fr pw2 fn5 rfl) (show 0 ≤ vh7 60 ∧ vh7 60 ≤ 50 from bn5.1 60) (show 0 ≤ vh7 63 ∧ vh7 63 ≤ 808 from bn5.1 63) (show (vh7 60) ≤ n1 ∧ (vh7 63) = 0 from ex5) (fun fq10 pw4 rv6 rv7 gf6 => ?_)
                  refine m_st (st2 := []) rfl ?_
                  refine m_aload_n (j := 1) C dX12_readings_155 rfl ?_
                  refine m_aload_n (j := 1) C dX12_readings_156 rfl ?_
                  refine m_get (k := 60) C dX12_readings_157 w6_119 (by decide) rfl ?_
                  refine m_call (mc2 := 0) (ms2 := 0) (As := [.int (iI (vh7 60))]) (rest := []) C (B_fine (x := vh7 60) bn5 (by show -2147483648 ≤ (vh7 60) ∧ (vh7 60) ≤ 2147483647; omega)) dX12_readings_160 kV_X12_158 rfl ck_13 rfl (Nat.le_of_ble_eq_true rfl) ⟨Nat.le_of_ble_eq_true rfl, Nat.le_of_ble_eq_true rfl⟩ ⟨Nat.le_of_ble_eq_true rfl, Nat.le_of_ble_eq_true rfl⟩ (fun rh8 vh8 ah8 h8 => ?_)
                  obtain ⟨f7, rfl, fn6, bn6, ex6⟩ := h8
                  refine hv3 (fq10.call fn6 rfl rfl) (show RWS ah8 from RWS.fr pw4 fn6 rfl) (show f7 = (vh7 60) from ex6) (fun fq11 pw5 gf7 => ?_)
                  refine m_st (st2 := [.int (iI f7)]) rfl ?_
                  exact m_iret C dX12_readings_163 rfl (Nat.le_of_ble_eq_true rfl) (Nat.le_of_ble_eq_true rfl) ⟨f7, rfl, fq11, bn6, pw5⟩
              · refine m_aload_n (j := 1) C dX12_readings_86 rfl ?_
                refine m_aload_n (j := 1) C dX12_readings_87 rfl ?_
                refine m_geta (k := 35) C dX12_readings_88 w6_94 (by decide) rfl ?_
                refine m_sipush (z := 200) C dX12_readings_91 (by decide) ?_
                refine m_iload_n (j := 3) C dX12_readings_94 rfl ?_
                refine m_imul C dX12_readings_95 ?_
                refine m_iload (j := 0) C dX12_readings_96 rfl ?_
                refine m_iadd C dX12_readings_98 ?_
                refine m_ald (k := 35) C dX12_readings_99 rfl rfl (by decide) (by omega) (by show _ < ((_ : Nat) : Int); simp only [mlen]; omega) (by decide) ?_
                refine hv2 (show (-2147483648) ≤ ab1 35 ((200 * l0) + i1).toNat ∧ ab1 35 ((200 * l0) + i1).toNat ≤ 2147483647 from bxb1.2 35 (((200 * l0) + i1).toNat)) (show ab1 35 (((200 * l0) + i1).toNat) = a 35 (((200 * l0) + i1).toNat) from congrFun (fpb1.2 35 rfl) (((200 * l0) + i1).toNat)) (fun ra4 ae2 => ?_)
                refine m_st (st2 := [.int (iI (a 35 ((200 * l0) + i1).toNat)), .ref h0]) (congrArg (fun z => Value.int (iI z) :: [.ref h0]) (congrFun (fpb1.2 35 rfl) (((200 * l0) + i1).toNat))) ?_
                refine m_iconst C dX12_readings_100 ?_
                have rv8 : 0 ≤ vb1 50 ∧ vb1 50 ≤ 40200 := bxb1.1 50
                refine m_call (mc2 := 0) (ms2 := 0) (As := [.int (iI (a 35 ((200 * l0) + i1).toNat)), .int (iI 0)]) (rest := []) C (B_putRow (x := a 35 ((200 * l0) + i1).toNat) (y := 0) bxb1 (by show -2147483648 ≤ (a 35 ((200 * l0) + i1).toNat) ∧ (a 35 ((200 * l0) + i1).toNat) ≤ 2147483647; omega) (by show -2147483648 ≤ (0 : Int) ∧ (0 : Int) ≤ 2147483647; omega) (by show (vb1 50) < 40200; omega)) dX12_readings_101 kV_X12_351 rfl ck_13 rfl (Nat.le_of_ble_eq_true rfl) ⟨Nat.le_of_ble_eq_true rfl, Nat.le_of_ble_eq_true rfl⟩ ⟨Nat.le_of_ble_eq_true rfl, Nat.le_of_ble_eq_true rfl⟩ (fun rh9 vh9 ah9 h9 => ?_)
                obtain ⟨rfl, fn7, bn7, ex7⟩ := h9
                refine hv4 (fpb1.call fn7 rfl rfl) (show RWS ah9 from RWS.fr hW1 fn7 rfl) (show 0 ≤ vh9 50 ∧ vh9 50 ≤ 40200 from bn7.1 50) (show (vh9 50) = (vb1 50) + 1 from ex7) (fun fq12 pw6 rv9 gf8 => ?_)
                refine m_st (st2 := []) rfl ?_
                refine m_iinc (z := i1) (j := 0) (lv2 := [(4, .int (iI (i1 + 1))), (0, .ref h0), (1, .int (iI t)), (2, .int (iI l0)), (3, .int (iI n1))]) C dX12_readings_104 rfl (by decide) rfl ?_
                refine m_goto (tgt := 75) C dX12_readings_107 (by decide) ?_
                refine m_lv (lv2 := [(4, .int (iI (i1 + 1))), (0, .ref h0), (1, .int (iI t)), (2, .int (iI l0)), (3, .int (iI n1))]) [0, 1, 2, 3, 4] rfl ?_
                exact ih1  (i1 + 1) _ _ (by omega) bn7 fq12 (by omega) (by show (vh9 50) = (i1 + 1); omega) pw6
          refine m_lv (lv2 := [(4, .int (iI 0)), (0, .ref h0), (1, .int (iI t)), (2, .int (iI l0)), (3, .int (iI n1))]) [0, 1, 2, 3, 4] rfl ?_
          exact Lp1 202 0 _ _ (by omega) bq1 fq2 (by omega) (by show 0 = 0; omega) hW
        · refine m_aload_n (j := 0) C dX12_readings_60 rfl ?_
          refine m_bipush (z := 6) C dX12_readings_61 (by decide) ?_
          refine m_call (mc2 := 0) (ms2 := 0) (As := [.int (iI 6)]) (rest := []) C (B_bad (x := 6) hB (by show -2147483648 ≤ (6 : Int) ∧ (6 : Int) ≤ 2147483647; omega)) dX12_readings_63 kV_X12_154 rfl ck_13 rfl (Nat.le_of_ble_eq_true rfl) ⟨Nat.le_of_ble_eq_true rfl, Nat.le_of_ble_eq_true rfl⟩ ⟨Nat.le_of_ble_eq_true rfl, Nat.le_of_ble_eq_true rfl⟩ (fun rh10 vh10 ah10 h10 => ?_)
          obtain ⟨f9, rfl, fn8, bn8, ex8⟩ := h10
          refine hv3 (fp0.call fn8 rfl rfl) (show RWS ah10 from RWS.fr hW fn8 rfl) (show f9 = -1 from ex8) (fun fq13 pw7 gf9 => ?_)
          refine m_st (st2 := [.int (iI f9)]) rfl ?_
          exact m_iret C dX12_readings_66 rfl (Nat.le_of_ble_eq_true rfl) (Nat.le_of_ble_eq_true rfl) ⟨f9, rfl, fq13, bn8, pw7⟩
      · refine m_aload_n (j := 0) C dX12_readings_39 rfl ?_
        refine m_aload_n (j := 0) C dX12_readings_40 rfl ?_
        refine m_iload_n (j := 2) C dX12_readings_41 rfl ?_
        refine m_call (mc2 := 0) (ms2 := 0) (As := [.int (iI l0)]) (rest := [.ref h0]) C (M_lineFault (l0 := l0) hB.rg ⟨by omega, by omega⟩ ⟨hB.1 36, hB.2 34⟩) dX12_readings_42 kV_X12_294 rfl ck_13 rfl (Nat.le_of_ble_eq_true rfl) ⟨Nat.le_of_ble_eq_true rfl, Nat.le_of_ble_eq_true rfl⟩ ⟨Nat.le_of_ble_eq_true rfl, Nat.le_of_ble_eq_true rfl⟩ (fun rh11 vh11 ah11 h11 => ?_)
        obtain ⟨f10, rfl, hf10, rfl, rfl⟩ := h11
        have gf10 : (f10 = 2 ∧ ¬ (0 ≤ l0 ∧ l0 < (v 36))) ∨ (f10 = 1 ∧ 0 ≤ l0 ∧ l0 < (v 36) ∧ a 34 l0.toNat < 0) ∨ (f10 = 0 ∧ 0 ≤ l0 ∧ l0 < (v 36) ∧ 0 ≤ a 34 l0.toNat) := hf10
        refine m_st (st2 := [.int (iI f10), .ref h0]) rfl ?_
        refine m_call (mc2 := 0) (ms2 := 0) (As := [.int (iI f10)]) (rest := []) C (B_bad (x := f10) hB (by show -2147483648 ≤ f10 ∧ f10 ≤ 2147483647; omega)) dX12_readings_45 kV_X12_154 rfl ck_13 rfl (Nat.le_of_ble_eq_true rfl) ⟨Nat.le_of_ble_eq_true rfl, Nat.le_of_ble_eq_true rfl⟩ ⟨Nat.le_of_ble_eq_true rfl, Nat.le_of_ble_eq_true rfl⟩ (fun rh12 vh12 ah12 h12 => ?_)
        obtain ⟨f11, rfl, fn9, bn9, ex9⟩ := h12
        refine hv3 (fp0.call fn9 rfl rfl) (show RWS ah12 from RWS.fr hW fn9 rfl) (show f11 = -1 from ex9) (fun fq14 pw8 gf11 => ?_)
        refine m_st (st2 := [.int (iI f11)]) rfl ?_
        exact m_iret C dX12_readings_48 rfl (Nat.le_of_ble_eq_true rfl) (Nat.le_of_ble_eq_true rfl) ⟨f11, rfl, fq14, bn9, pw8⟩
    · clear gf1
      refine m_aload_n (j := 0) C dX12_readings_25 rfl ?_
      refine m_iconst C dX12_readings_26 ?_
      refine m_call (mc2 := 0) (ms2 := 0) (As := [.int (iI 3)]) (rest := []) C (B_bad (x := 3) hB (by show -2147483648 ≤ (3 : Int) ∧ (3 : Int) ≤ 2147483647; omega)) dX12_readings_27 kV_X12_154 rfl ck_13 rfl (Nat.le_of_ble_eq_true rfl) ⟨Nat.le_of_ble_eq_true rfl, Nat.le_of_ble_eq_true rfl⟩ ⟨Nat.le_of_ble_eq_true rfl, Nat.le_of_ble_eq_true rfl⟩ (fun rh13 vh13 ah13 h13 => ?_)
      obtain ⟨f12, rfl, fn10, bn10, ex10⟩ := h13
      refine hv3 (fp0.call fn10 rfl rfl) (show RWS ah13 from RWS.fr hW fn10 rfl) (show f12 = -1 from ex10) (fun fq15 pw9 gf12 => ?_)
      refine m_st (st2 := [.int (iI f12)]) rfl ?_
      exact m_iret C dX12_readings_30 rfl (Nat.le_of_ble_eq_true rfl) (Nat.le_of_ble_eq_true rfl) ⟨f12, rfl, fq15, bn10, pw9⟩
  · refine m_st (st2 := [.int (iI 0)]) (by rw [h1e]) ?_
    refine m_if_ne (tgt := 17) C ⟨by decide, by decide⟩ dX12_readings_7 (by decide) (fun z => absurd z (by omega)) (fun _ => ?_)
    refine m_aload_n (j := 0) C dX12_readings_10 rfl ?_
    refine m_bipush (z := 6) C dX12_readings_11 (by decide) ?_
    refine m_call (mc2 := 0) (ms2 := 0) (As := [.int (iI 6)]) (rest := []) C (B_bad (x := 6) hB (by show -2147483648 ≤ (6 : Int) ∧ (6 : Int) ≤ 2147483647; omega)) dX12_readings_13 kV_X12_154 rfl ck_13 rfl (Nat.le_of_ble_eq_true rfl) ⟨Nat.le_of_ble_eq_true rfl, Nat.le_of_ble_eq_true rfl⟩ ⟨Nat.le_of_ble_eq_true rfl, Nat.le_of_ble_eq_true rfl⟩ (fun rh14 vh14 ah14 h14 => ?_)
    obtain ⟨f13, rfl, fn11, bn11, ex11⟩ := h14
    refine hv3 (fp0.call fn11 rfl rfl) (show RWS ah14 from RWS.fr hW fn11 rfl) (show f13 = -1 from ex11) (fun fq16 pw10 gf13 => ?_)
    refine m_st (st2 := [.int (iI f13)]) rfl ?_
    exact m_iret C dX12_readings_16 rfl (Nat.le_of_ble_eq_true rfl) (Nat.le_of_ble_eq_true rfl) ⟨f13, rfl, fq16, bn11, pw10⟩
set_option maxHeartbeats 4000000 in
set_option maxRecDepth 100000 in
theorem N_judge {l : Launch} {G : GT} {h0 : Nat} {ad ln : Nat → Nat} {v : Nat → Int} {a : Nat → Nat → Int}  {t : Int} (hB : BX v a) (hT : TBL v a) (hW : RWS a) (ht : -2147483648 ≤ t ∧ t ≤ 2147483647) : Mm l G yX12_judge cX12_judge 3 (some .int) 36 [.int (iI t)] h0 ad ln v a 0 0 (fun r v2 a2 => ∃ f : Int, r = some (.int (iI f)) ∧ fr [0, 1] [44, 45, 46, 47] v a v2 a2 ∧ BX v2 a2 ∧ (RWS a2)) := by
  refine Mm.mk (by decide) (Nat.le_of_ble_eq_true rfl) ?_
  intro p e s m args below meth c A C
  refine hv2 (show 0 ≤ v 4 ∧ v 4 ≤ 30 from hB.1 4) (show fr [0, 1] [44, 45, 46, 47] v a v a from fr.refl) (fun h30 fp0 => ?_)
  refine m_aload_n (j := 0) C dX12_judge_0 rfl ?_
  refine m_iload_n (j := 1) C dX12_judge_1 rfl ?_
  have rv1 : 0 ≤ v 4 ∧ v 4 ≤ 30 := hB.1 4
  refine m_call (mc2 := 0) (ms2 := 0) (As := [.int (iI t)]) (rest := []) C (B_isTable (t := t) hB (by show -2147483648 ≤ t ∧ t ≤ 2147483647; omega)) dX12_judge_2 kV_X12_167 rfl ck_13 rfl (Nat.le_of_ble_eq_true rfl) ⟨Nat.le_of_ble_eq_true rfl, Nat.le_of_ble_eq_true rfl⟩ ⟨Nat.le_of_ble_eq_true rfl, Nat.le_of_ble_eq_true rfl⟩ (fun rh1 vh1 ah1 h1 => ?_)
  obtain ⟨f1, rfl, fn1, bn1, ex1⟩ := h1
  obtain ⟨rfl, rfl⟩ := fn1.eq
  refine hv2 (show (f1 = 0 ∧ (t < 0 ∨ (v 4) ≤ t ∨ a 5 t.toNat = 0)) ∨ (f1 = 1 ∧ 0 ≤ t ∧ t < (v 4) ∧ a 5 t.toNat = 1) from ex1) (show 0 ≤ a 5 t.toNat ∧ a 5 t.toNat ≤ 1 from hB.2 5 (t.toNat)) (fun gf1 ra1 => ?_)
  refine m_st (st2 := [.int (iI f1)]) rfl ?_
  refine m_if_ne (tgt := 14) C (r32_pq gf1) dX12_judge_5 (by decide) (fun c1 => ?_) (fun c1 => ?_)
  · replace gf1 := (gf1.resolve_left (fun q => c1 q.1))
    have ht0 := hT.1 t (by omega) (by omega)
    refine m_aload_n (j := 0) C dX12_judge_14 rfl ?_
    refine m_geta (k := 6) C dX12_judge_15 w6_65 (by decide) rfl ?_
    refine m_iload_n (j := 1) C dX12_judge_18 rfl ?_
    refine m_ald (k := 6) C dX12_judge_19 rfl rfl (by decide) (by omega) (by show _ < ((_ : Nat) : Int); simp only [mlen]; omega) (by decide) ?_
    have ra2 : 0 ≤ a 6 t.toNat ∧ a 6 t.toNat ≤ 5 := hB.2 6 (t.toNat)
    refine m_iconst C dX12_judge_20 ?_
    refine m_icmp_ne (tgt := 30) C (r32_c (lo := 0) (hi := 5) ra2.1 ra2.2 (by decide) (by decide)) ⟨by decide, by decide⟩ dX12_judge_21 (by decide) (fun c2 => ?_) (fun c2 => ?_)
    · refine m_aload_n (j := 0) C dX12_judge_30 rfl ?_
      refine m_iload_n (j := 1) C dX12_judge_31 rfl ?_
      refine m_call (mc2 := 0) (ms2 := 0) (As := [.int (iI t)]) (rest := []) C (M_isWhole (t := t) hB (hT.fr fp0 rfl rfl) (by show -2147483648 ≤ t ∧ t ≤ 2147483647; omega)) dX12_judge_32 kV_X12_171 rfl ck_13 rfl (Nat.le_of_ble_eq_true rfl) ⟨Nat.le_of_ble_eq_true rfl, Nat.le_of_ble_eq_true rfl⟩ ⟨Nat.le_of_ble_eq_true rfl, Nat.le_of_ble_eq_true rfl⟩ (fun rh2 vh2 ah2 h2 => ?_)
      obtain ⟨f2, rfl, fn2, bn2, ex2⟩ := h2
      obtain ⟨rfl, rfl⟩ := fn2.eq
      have gf2 : f2 = 0 ∨ (f2 = 1 ∧ 0 ≤ t ∧ t < (v 4)) := ex2
      refine m_st (st2 := [.int (iI f2)]) rfl ?_
      refine m_if_ne (tgt := 44) C (r32_0p gf2) dX12_judge_35 (by decide) (fun c3 => ?_) (fun c3 => ?_)
      · replace gf2 := (gf2.resolve_left c3)
        refine m_aload_n (j := 0) C dX12_judge_44 rfl ?_
        refine m_geta (k := 6) C dX12_judge_45 w6_65 (by decide) rfl ?_
        refine m_iload_n (j := 1) C dX12_judge_48 rfl ?_
        refine m_ald (k := 6) C dX12_judge_49 rfl rfl (by decide) (by omega) (by show _ < ((_ : Nat) : Int); simp only [mlen]; omega) (by decide) ?_
        refine m_iconst C dX12_judge_50 ?_
        have J1 : ∀ (g : Int) (vb1 : Nat → Int) (ab1 : Nat → Nat → Int), BX vb1 ab1 → fr [0, 1] [44, 45, 46, 47] v a vb1 ab1 → (g = 0 ∨ g = 1) → (RWS ab1) → mw p l e (rmq 36 0 0) s m args below meth c G A 3 (MQ below (Qm G A (fun rq Lq Eq => ∃ (vq : Nat → Int) (aq : Nat → Nat → Int), mI G h0 ad ln vq aq Lq Eq ∧ (fun r v2 a2 => ∃ f : Int, r = some (.int (iI f)) ∧ fr [0, 1] [44, 45, 46, 47] v a v2 a2 ∧ BX v2 a2 ∧ (RWS a2)) rq vq aq)) args s 0 0 A) h0 ad ln vb1 ab1 0 0 93 [(0, .ref h0), (1, .int (iI t))] [.int (iI g)] := by
          intro g vb1 ab1 bxb1 fpb1 hg hW1
          refine m_istore_n (lv2 := [(2, .int (iI g)), (0, .ref h0), (1, .int (iI t))]) C dX12_judge_93 (by decide) rfl ?_
          refine m_aload_n (j := 1) C dX12_judge_94 rfl ?_
          refine m_iload_n (j := 2) C dX12_judge_95 rfl ?_
          refine hv2 (show 0 ≤ vb1 4 ∧ vb1 4 ≤ 30 from bxb1.1 4) (show vb1 4 = v 4 from fpb1.1 4 rfl) (fun rv2 ve1 => ?_)
          refine m_call (mc2 := 0) (ms2 := 0) (As := [.int (iI t)]) (rest := []) C (M_gather (t := t) bxb1 hW1 (hT.fr fpb1 rfl rfl) (by show 0 ≤ t ∧ t < (vb1 4); omega)) dX12_judge_96 kV_X12_354 rfl ck_13 rfl (Nat.le_of_ble_eq_true rfl) ⟨Nat.le_of_ble_eq_true rfl, Nat.le_of_ble_eq_true rfl⟩ ⟨Nat.le_of_ble_eq_true rfl, Nat.le_of_ble_eq_true rfl⟩ (fun rh3 vh3 ah3 h3 => ?_)
          obtain ⟨rfl, fn3, bn3, ex3⟩ := h3
          refine hv2 (fpb1.call fn3 rfl rfl) (ex3) (fun fq3 pw1 => ?_)
          refine m_st (st2 := []) rfl ?_
          refine m_aload_n (j := 1) C dX12_judge_99 rfl ?_
          refine m_iload_n (j := 0) C dX12_judge_100 rfl ?_
          refine m_if_ne (tgt := 124) C (r32_01 hg) dX12_judge_101 (by decide) (fun c4 => ?_) (fun c4 => ?_)
          · replace hg := (hg.resolve_left c4)
            refine m_iconst C dX12_judge_124 ?_
            refine m_call (mc2 := 0) (ms2 := 0) (As := [.int (iI 0)]) (rest := []) C (B_fine (x := 0) bn3 (by show -2147483648 ≤ (0 : Int) ∧ (0 : Int) ≤ 2147483647; omega)) dX12_judge_125 kV_X12_158 rfl ck_13 rfl (Nat.le_of_ble_eq_true rfl) ⟨Nat.le_of_ble_eq_true rfl, Nat.le_of_ble_eq_true rfl⟩ ⟨Nat.le_of_ble_eq_true rfl, Nat.le_of_ble_eq_true rfl⟩ (fun rh4 vh4 ah4 h4 => ?_)
            obtain ⟨f4, rfl, fn4, bn4, ex4⟩ := h4
            refine hv3 (fq3.call fn4 rfl rfl) (show RWS ah4 from RWS.fr pw1 fn4 rfl) (show f4 = (0 : Int) from ex4) (fun fq4 pw2 gf4 => ?_)
            refine m_st (st2 := [.int (iI f4)]) rfl ?_
            exact m_iret C dX12_judge_128 rfl (Nat.le_of_ble_eq_true rfl) (Nat.le_of_ble_eq_true rfl) ⟨f4, rfl, fq4, bn4, pw2⟩
          · clear hg
            refine m_aload_n (j := 1) C dX12_judge_104 rfl ?_
            refine m_iconst C dX12_judge_105 ?_
            refine m_call (mc2 := 0) (ms2 := 0) (As := [.int (iI 0)]) (rest := [.ref h0]) C (M_isReadable (q := 0) bn3.rg (by omega) (pw1 (0) (by omega)).1 (pw1 (0) (by omega)).2) dX12_judge_106 kV_X12_410 rfl ck_13 rfl (Nat.le_of_ble_eq_true rfl) ⟨Nat.le_of_ble_eq_true rfl, Nat.le_of_ble_eq_true rfl⟩ ⟨Nat.le_of_ble_eq_true rfl, Nat.le_of_ble_eq_true rfl⟩ (fun rh5 vh5 ah5 h5 => ?_)
            obtain ⟨f5, rfl, hf5, rfl, rfl⟩ := h5
            have gf5 : f5 = 0 ∨ f5 = 1 := hf5
            refine m_st (st2 := [.int (iI f5), .ref h0]) rfl ?_
            refine m_if_eq (tgt := 124) C (r32_01 gf5) dX12_judge_109 (by decide) (fun c5 => ?_) (fun c5 => ?_)
            · clear gf5
              refine m_iconst C dX12_judge_124 ?_
              refine m_call (mc2 := 0) (ms2 := 0) (As := [.int (iI 0)]) (rest := []) C (B_fine (x := 0) bn3 (by show -2147483648 ≤ (0 : Int) ∧ (0 : Int) ≤ 2147483647; omega)) dX12_judge_125 kV_X12_158 rfl ck_13 rfl (Nat.le_of_ble_eq_true rfl) ⟨Nat.le_of_ble_eq_true rfl, Nat.le_of_ble_eq_true rfl⟩ ⟨Nat.le_of_ble_eq_true rfl, Nat.le_of_ble_eq_true rfl⟩ (fun rh6 vh6 ah6 h6 => ?_)
              obtain ⟨f6, rfl, fn5, bn5, ex5⟩ := h6
              refine hv3 (fq3.call fn5 rfl rfl) (show RWS ah6 from RWS.fr pw1 fn5 rfl) (show f6 = (0 : Int) from ex5) (fun fq5 pw3 gf6 => ?_)
              refine m_st (st2 := [.int (iI f6)]) rfl ?_
              exact m_iret C dX12_judge_128 rfl (Nat.le_of_ble_eq_true rfl) (Nat.le_of_ble_eq_true rfl) ⟨f6, rfl, fq5, bn5, pw3⟩
            · replace gf5 := (gf5.resolve_left c5)
              refine m_aload_n (j := 1) C dX12_judge_112 rfl ?_
              refine m_iconst C dX12_judge_113 ?_
              refine m_call (mc2 := 0) (ms2 := 0) (As := [.int (iI 1)]) (rest := [.ref h0]) C (M_isReadable (q := 1) bn3.rg (by omega) (pw1 (1) (by omega)).1 (pw1 (1) (by omega)).2) dX12_judge_114 kV_X12_410 rfl ck_13 rfl (Nat.le_of_ble_eq_true rfl) ⟨Nat.le_of_ble_eq_true rfl, Nat.le_of_ble_eq_true rfl⟩ ⟨Nat.le_of_ble_eq_true rfl, Nat.le_of_ble_eq_true rfl⟩ (fun rh7 vh7 ah7 h7 => ?_)
              obtain ⟨f7, rfl, hf7, rfl, rfl⟩ := h7
              have gf7 : f7 = 0 ∨ f7 = 1 := hf7
              refine m_st (st2 := [.int (iI f7), .ref h0]) rfl ?_
              refine m_if_eq (tgt := 124) C (r32_01 gf7) dX12_judge_117 (by decide) (fun c6 => ?_) (fun c6 => ?_)
              · clear gf7
                refine m_iconst C dX12_judge_124 ?_
                refine m_call (mc2 := 0) (ms2 := 0) (As := [.int (iI 0)]) (rest := []) C (B_fine (x := 0) bn3 (by show -2147483648 ≤ (0 : Int) ∧ (0 : Int) ≤ 2147483647; omega)) dX12_judge_125 kV_X12_158 rfl ck_13 rfl (Nat.le_of_ble_eq_true rfl) ⟨Nat.le_of_ble_eq_true rfl, Nat.le_of_ble_eq_true rfl⟩ ⟨Nat.le_of_ble_eq_true rfl, Nat.le_of_ble_eq_true rfl⟩ (fun rh8 vh8 ah8 h8 => ?_)
                obtain ⟨f8, rfl, fn6, bn6, ex6⟩ := h8
                refine hv3 (fq3.call fn6 rfl rfl) (show RWS ah8 from RWS.fr pw1 fn6 rfl) (show f8 = (0 : Int) from ex6) (fun fq6 pw4 gf8 => ?_)
                refine m_st (st2 := [.int (iI f8)]) rfl ?_
                exact m_iret C dX12_judge_128 rfl (Nat.le_of_ble_eq_true rfl) (Nat.le_of_ble_eq_true rfl) ⟨f8, rfl, fq6, bn6, pw4⟩
              · replace gf7 := (gf7.resolve_left c6)
                refine m_iconst C dX12_judge_120 ?_
                refine m_goto (tgt := 125) C dX12_judge_121 (by decide) ?_
                refine m_call (mc2 := 0) (ms2 := 0) (As := [.int (iI 1)]) (rest := []) C (B_fine (x := 1) bn3 (by show -2147483648 ≤ (1 : Int) ∧ (1 : Int) ≤ 2147483647; omega)) dX12_judge_125 kV_X12_158 rfl ck_13 rfl (Nat.le_of_ble_eq_true rfl) ⟨Nat.le_of_ble_eq_true rfl, Nat.le_of_ble_eq_true rfl⟩ ⟨Nat.le_of_ble_eq_true rfl, Nat.le_of_ble_eq_true rfl⟩ (fun rh9 vh9 ah9 h9 => ?_)
                obtain ⟨f9, rfl, fn7, bn7, ex7⟩ := h9
                refine hv3 (fq3.call fn7 rfl rfl) (show RWS ah9 from RWS.fr pw1 fn7 rfl) (show f9 = (1 : Int) from ex7) (fun fq7 pw5 gf9 => ?_)
                refine m_st (st2 := [.int (iI f9)]) rfl ?_
                exact m_iret C dX12_judge_128 rfl (Nat.le_of_ble_eq_true rfl) (Nat.le_of_ble_eq_true rfl) ⟨f9, rfl, fq7, bn7, pw5⟩
        refine m_icmp_ne (tgt := 88) C (r32_c (lo := 0) (hi := 5) ra2.1 ra2.2 (by decide) (by decide)) ⟨by decide, by decide⟩ dX12_judge_51 (by decide) (fun c7 => ?_) (fun c7 => ?_)
        · refine m_aload_n (j := 0) C dX12_judge_88 rfl ?_
          refine m_iload_n (j := 1) C dX12_judge_89 rfl ?_
          refine m_call (mc2 := 0) (ms2 := 0) (As := [.int (iI t)]) (rest := []) C (M_isShort (t := t) hB.rg (hB.1 4) (hT.fr fp0 rfl rfl).b (by show -1 ≤ t ∧ t < v 4; omega)) dX12_judge_90 kV_X12_407 rfl ck_13 rfl (Nat.le_of_ble_eq_true rfl) ⟨Nat.le_of_ble_eq_true rfl, Nat.le_of_ble_eq_true rfl⟩ ⟨Nat.le_of_ble_eq_true rfl, Nat.le_of_ble_eq_true rfl⟩ (fun rh10 vh10 ah10 h10 => ?_)
          obtain ⟨f10, rfl, hf10, rfl, rfl⟩ := h10
          have gf10 : f10 = 0 ∨ f10 = 1 := hf10
          refine m_st (st2 := [.int (iI f10)]) rfl ?_
          refine m_lv (lv2 := [(0, .ref h0), (1, .int (iI t))]) [0, 1] rfl ?_
          exact J1  f10 _ _  hB fp0 (by omega) hW
        · refine m_aload_n (j := 0) C dX12_judge_54 rfl ?_
          refine m_aload_n (j := 0) C dX12_judge_55 rfl ?_
          refine m_geta (k := 8) C dX12_judge_56 w6_67 (by decide) rfl ?_
          refine m_iload_n (j := 1) C dX12_judge_59 rfl ?_
          refine m_ald (k := 8) C dX12_judge_60 rfl rfl (by decide) (by omega) (by show _ < ((_ : Nat) : Int); simp only [mlen]; omega) (by decide) ?_
          have ra3 : (-1) ≤ a 8 t.toNat ∧ a 8 t.toNat ≤ 29 := hB.2 8 (t.toNat)
          refine m_call (mc2 := 0) (ms2 := 0) (As := [.int (iI (a 8 t.toNat))]) (rest := []) C (M_isShort (t := a 8 t.toNat) hB.rg (hB.1 4) (hT.fr fp0 rfl rfl).b (by show -1 ≤ (a 8 t.toNat) ∧ (a 8 t.toNat) < v 4; omega)) dX12_judge_61 kV_X12_407 rfl ck_13 rfl (Nat.le_of_ble_eq_true rfl) ⟨Nat.le_of_ble_eq_true rfl, Nat.le_of_ble_eq_true rfl⟩ ⟨Nat.le_of_ble_eq_true rfl, Nat.le_of_ble_eq_true rfl⟩ (fun rh11 vh11 ah11 h11 => ?_)
          obtain ⟨f11, rfl, hf11, rfl, rfl⟩ := h11
          have gf11 : f11 = 0 ∨ f11 = 1 := hf11
          refine m_st (st2 := [.int (iI f11)]) rfl ?_
          refine m_if_ne (tgt := 80) C (r32_01 gf11) dX12_judge_64 (by decide) (fun c8 => ?_) (fun c8 => ?_)
          · replace gf11 := (gf11.resolve_left c8)
            refine m_iconst C dX12_judge_80 ?_
            refine m_goto (tgt := 93) C dX12_judge_81 (by decide) ?_
            refine m_lv (lv2 := [(0, .ref h0), (1, .int (iI t))]) [0, 1] rfl ?_
            exact J1  1 _ _  hB fp0 (by omega) hW
          · clear gf11
            refine m_aload_n (j := 0) C dX12_judge_67 rfl ?_
            refine m_aload_n (j := 0) C dX12_judge_68 rfl ?_
            refine m_geta (k := 9) C dX12_judge_69 w6_68 (by decide) rfl ?_
            refine m_iload_n (j := 1) C dX12_judge_72 rfl ?_
            refine m_ald (k := 9) C dX12_judge_73 rfl rfl (by decide) (by omega) (by show _ < ((_ : Nat) : Int); simp only [mlen]; omega) (by decide) ?_
            have ra4 : (-1) ≤ a 9 t.toNat ∧ a 9 t.toNat ≤ 29 := hB.2 9 (t.toNat)
            refine m_call (mc2 := 0) (ms2 := 0) (As := [.int (iI (a 9 t.toNat))]) (rest := []) C (M_isShort (t := a 9 t.toNat) hB.rg (hB.1 4) (hT.fr fp0 rfl rfl).b (by show -1 ≤ (a 9 t.toNat) ∧ (a 9 t.toNat) < v 4; omega)) dX12_judge_74 kV_X12_407 rfl ck_13 rfl (Nat.le_of_ble_eq_true rfl) ⟨Nat.le_of_ble_eq_true rfl, Nat.le_of_ble_eq_true rfl⟩ ⟨Nat.le_of_ble_eq_true rfl, Nat.le_of_ble_eq_true rfl⟩ (fun rh12 vh12 ah12 h12 => ?_)
            obtain ⟨f12, rfl, hf12, rfl, rfl⟩ := h12
            have gf12 : f12 = 0 ∨ f12 = 1 := hf12
            refine m_st (st2 := [.int (iI f12)]) rfl ?_
            refine m_if_eq (tgt := 84) C (r32_01 gf12) dX12_judge_77 (by decide) (fun c9 => ?_) (fun c9 => ?_)
            · clear gf12
              refine m_iconst C dX12_judge_84 ?_
              refine m_goto (tgt := 93) C dX12_judge_85 (by decide) ?_
              refine m_lv (lv2 := [(0, .ref h0), (1, .int (iI t))]) [0, 1] rfl ?_
              exact J1  0 _ _  hB fp0 (by omega) hW
            · replace gf12 := (gf12.resolve_left c9)
              refine m_iconst C dX12_judge_80 ?_
              refine m_goto (tgt := 93) C dX12_judge_81 (by decide) ?_
              refine m_lv (lv2 := [(0, .ref h0), (1, .int (iI t))]) [0, 1] rfl ?_
              exact J1  1 _ _  hB fp0 (by omega) hW
      · clear gf2
        refine m_aload_n (j := 0) C dX12_judge_38 rfl ?_
        refine m_iconst C dX12_judge_39 ?_
        refine m_call (mc2 := 0) (ms2 := 0) (As := [.int (iI 3)]) (rest := []) C (B_bad (x := 3) hB (by show -2147483648 ≤ (3 : Int) ∧ (3 : Int) ≤ 2147483647; omega)) dX12_judge_40 kV_X12_154 rfl ck_13 rfl (Nat.le_of_ble_eq_true rfl) ⟨Nat.le_of_ble_eq_true rfl, Nat.le_of_ble_eq_true rfl⟩ ⟨Nat.le_of_ble_eq_true rfl, Nat.le_of_ble_eq_true rfl⟩ (fun rh13 vh13 ah13 h13 => ?_)
        obtain ⟨f13, rfl, fn8, bn8, ex8⟩ := h13
        refine hv3 (fp0.call fn8 rfl rfl) (show RWS ah13 from RWS.fr hW fn8 rfl) (show f13 = -1 from ex8) (fun fq8 pw6 gf13 => ?_)
        refine m_st (st2 := [.int (iI f13)]) rfl ?_
        exact m_iret C dX12_judge_43 rfl (Nat.le_of_ble_eq_true rfl) (Nat.le_of_ble_eq_true rfl) ⟨f13, rfl, fq8, bn8, pw6⟩
    · refine m_aload_n (j := 0) C dX12_judge_24 rfl ?_
      refine m_iconst C dX12_judge_25 ?_
      refine m_call (mc2 := 0) (ms2 := 0) (As := [.int (iI 4)]) (rest := []) C (B_bad (x := 4) hB (by show -2147483648 ≤ (4 : Int) ∧ (4 : Int) ≤ 2147483647; omega)) dX12_judge_26 kV_X12_154 rfl ck_13 rfl (Nat.le_of_ble_eq_true rfl) ⟨Nat.le_of_ble_eq_true rfl, Nat.le_of_ble_eq_true rfl⟩ ⟨Nat.le_of_ble_eq_true rfl, Nat.le_of_ble_eq_true rfl⟩ (fun rh14 vh14 ah14 h14 => ?_)
      obtain ⟨f14, rfl, fn9, bn9, ex9⟩ := h14
      refine hv3 (fp0.call fn9 rfl rfl) (show RWS ah14 from RWS.fr hW fn9 rfl) (show f14 = -1 from ex9) (fun fq9 pw7 gf14 => ?_)
      refine m_st (st2 := [.int (iI f14)]) rfl ?_
      exact m_iret C dX12_judge_29 rfl (Nat.le_of_ble_eq_true rfl) (Nat.le_of_ble_eq_true rfl) ⟨f14, rfl, fq9, bn9, pw7⟩
  · replace gf1 := (gf1.resolve_right (fun q => absurd (q.1.symm.trans c1) (by decide)))
    refine m_aload_n (j := 0) C dX12_judge_8 rfl ?_
    refine m_iconst C dX12_judge_9 ?_
    refine m_call (mc2 := 0) (ms2 := 0) (As := [.int (iI 3)]) (rest := []) C (B_bad (x := 3) hB (by show -2147483648 ≤ (3 : Int) ∧ (3 : Int) ≤ 2147483647; omega)) dX12_judge_10 kV_X12_154 rfl ck_13 rfl (Nat.le_of_ble_eq_true rfl) ⟨Nat.le_of_ble_eq_true rfl, Nat.le_of_ble_eq_true rfl⟩ ⟨Nat.le_of_ble_eq_true rfl, Nat.le_of_ble_eq_true rfl⟩ (fun rh15 vh15 ah15 h15 => ?_)
    obtain ⟨f15, rfl, fn10, bn10, ex10⟩ := h15
    refine hv3 (fp0.call fn10 rfl rfl) (show RWS ah15 from RWS.fr hW fn10 rfl) (show f15 = -1 from ex10) (fun fq10 pw8 gf15 => ?_)
    refine m_st (st2 := [.int (iI f15)]) rfl ?_
    exact m_iret C dX12_judge_13 rfl (Nat.le_of_ble_eq_true rfl) (Nat.le_of_ble_eq_true rfl) ⟨f15, rfl, fq10, bn10, pw8⟩
set_option maxHeartbeats 4000000 in
set_option maxRecDepth 100000 in
theorem N_parts {l : Launch} {G : GT} {h0 : Nat} {ad ln : Nat → Nat} {v : Nat → Int} {a : Nat → Nat → Int}  {t x y : Int} (hB : BX v a) (hT : TBL v a) (hW : RWS a) (ht : -2147483648 ≤ t ∧ t ≤ 2147483647) (hx : -2147483648 ≤ x ∧ x ≤ 2147483647) (hy : -2147483648 ≤ y ∧ y ≤ 2147483647) : Mm l G yX12_parts cX12_parts 5 (some .int) 36 [.int (iI t), .int (iI x), .int (iI y)] h0 ad ln v a 0 0 (fun r v2 a2 => ∃ f : Int, r = some (.int (iI f)) ∧ fr [0, 1] [44, 45, 46, 47] v a v2 a2 ∧ BX v2 a2 ∧ (RWS a2)) := by
  refine Mm.mk (by decide) (Nat.le_of_ble_eq_true rfl) ?_
  intro p e s m args below meth c A C
  refine hv2 (show 0 ≤ v 4 ∧ v 4 ≤ 30 from hB.1 4) (show fr [0, 1] [44, 45, 46, 47] v a v a from fr.refl) (fun h30 fp0 => ?_)
  refine m_aload_n (j := 0) C dX12_parts_0 rfl ?_
  refine m_iload_n (j := 1) C dX12_parts_1 rfl ?_
  have rv1 : 0 ≤ v 4 ∧ v 4 ≤ 30 := hB.1 4
  refine m_call (mc2 := 0) (ms2 := 0) (As := [.int (iI t)]) (rest := []) C (M_isWhole (t := t) hB (hT.fr fp0 rfl rfl) (by show -2147483648 ≤ t ∧ t ≤ 2147483647; omega)) dX12_parts_2 kV_X12_171 rfl ck_13 rfl (Nat.le_of_ble_eq_true rfl) ⟨Nat.le_of_ble_eq_true rfl, Nat.le_of_ble_eq_true rfl⟩ ⟨Nat.le_of_ble_eq_true rfl, Nat.le_of_ble_eq_true rfl⟩ (fun rh1 vh1 ah1 h1 => ?_)
  obtain ⟨f1, rfl, fn1, bn1, ex1⟩ := h1
  obtain ⟨rfl, rfl⟩ := fn1.eq
  have gf1 : f1 = 0 ∨ (f1 = 1 ∧ 0 ≤ t ∧ t < (v 4)) := ex1
  refine m_st (st2 := [.int (iI f1)]) rfl ?_
  refine m_if_ne (tgt := 14) C (r32_0p gf1) dX12_parts_5 (by decide) (fun c1 => ?_) (fun c1 => ?_)
  · replace gf1 := (gf1.resolve_left c1)
    refine m_aload_n (j := 0) C dX12_parts_14 rfl ?_
    refine m_iload_n (j := 1) C dX12_parts_15 rfl ?_
    refine m_call (mc2 := 0) (ms2 := 0) (As := [.int (iI t)]) (rest := []) C (M_gather (t := t) hB hW (hT.fr fp0 rfl rfl) (by show 0 ≤ t ∧ t < (v 4); omega)) dX12_parts_16 kV_X12_354 rfl ck_13 rfl (Nat.le_of_ble_eq_true rfl) ⟨Nat.le_of_ble_eq_true rfl, Nat.le_of_ble_eq_true rfl⟩ ⟨Nat.le_of_ble_eq_true rfl, Nat.le_of_ble_eq_true rfl⟩ (fun rh2 vh2 ah2 h2 => ?_)
    obtain ⟨rfl, fn2, bn2, ex2⟩ := h2
    refine hv2 (fp0.call fn2 rfl rfl) (ex2) (fun fq2 pw1 => ?_)
    refine m_st (st2 := []) rfl ?_
    refine m_iload_n (j := 2) C dX12_parts_19 rfl ?_
    refine m_iconst C dX12_parts_20 ?_
    refine m_aload_n (j := 0) C dX12_parts_21 rfl ?_
    refine m_geta (k := 47) C dX12_parts_22 w6_106 (by decide) rfl ?_
    refine m_iconst C dX12_parts_25 ?_
    refine m_ald (k := 47) C dX12_parts_26 rfl rfl (by decide) (by decide) (by decide) (by decide) ?_
    have ra1 : 0 ≤ ah2 47 0 ∧ ah2 47 0 ≤ 6008 := bn2.2 47 (0)
    refine m_st (st2 := [.int (iI (ah2 47 0)), .int (iI 0), .int (iI x)]) rfl ?_
    refine m_iconst C dX12_parts_27 ?_
    refine m_isub C dX12_parts_28 ?_
    refine m_callS (As := [.int (iI x), .int (iI 0), .int (iI ((ah2 47 0) - 1))]) (rest := []) C (fun L E => s_isIn (iI x) (iI 0) (iI ((ah2 47 0) - 1))) dX12_parts_29 kS_X12_174 rfl rfl (Nat.le_of_ble_eq_true rfl) ⟨Nat.le_of_ble_eq_true rfl, Nat.le_of_ble_eq_true rfl⟩ ⟨Nat.le_of_ble_eq_true rfl, Nat.le_of_ble_eq_true rfl⟩ ?_
    rcases inn_c (x := x) (lo := 0) (hi := (ah2 47 0) - 1) ⟨by omega, by omega⟩ ⟨by decide, by decide⟩ ⟨by omega, by omega⟩ with ⟨h3a, h3b, h3e⟩ | ⟨h3a, h3e⟩
    · refine m_st (st2 := [.int (iI 1)]) (by rw [h3e]) ?_
      refine m_if_eq (tgt := 51) C ⟨by decide, by decide⟩ dX12_parts_32 (by decide) (fun z => absurd z (by omega)) (fun _ => ?_)
      refine m_iload_n (j := 3) C dX12_parts_35 rfl ?_
      refine m_iconst C dX12_parts_36 ?_
      refine m_aload_n (j := 0) C dX12_parts_37 rfl ?_
      refine m_geta (k := 47) C dX12_parts_38 w6_106 (by decide) rfl ?_
      refine m_iconst C dX12_parts_41 ?_
      refine m_ald (k := 47) C dX12_parts_42 rfl rfl (by decide) (by decide) (by decide) (by decide) ?_
      refine m_st (st2 := [.int (iI (ah2 47 0)), .int (iI 0), .int (iI y)]) rfl ?_
      refine m_iconst C dX12_parts_43 ?_
      refine m_isub C dX12_parts_44 ?_
      refine m_callS (As := [.int (iI y), .int (iI 0), .int (iI ((ah2 47 0) - 1))]) (rest := []) C (fun L E => s_isIn (iI y) (iI 0) (iI ((ah2 47 0) - 1))) dX12_parts_45 kS_X12_174 rfl rfl (Nat.le_of_ble_eq_true rfl) ⟨Nat.le_of_ble_eq_true rfl, Nat.le_of_ble_eq_true rfl⟩ ⟨Nat.le_of_ble_eq_true rfl, Nat.le_of_ble_eq_true rfl⟩ ?_
      rcases inn_c (x := y) (lo := 0) (hi := (ah2 47 0) - 1) ⟨by omega, by omega⟩ ⟨by decide, by decide⟩ ⟨by omega, by omega⟩ with ⟨h4a, h4b, h4e⟩ | ⟨h4a, h4e⟩
      · refine m_st (st2 := [.int (iI 1)]) (by rw [h4e]) ?_
        refine m_if_ne (tgt := 57) C ⟨by decide, by decide⟩ dX12_parts_48 (by decide) (fun _ => ?_) (fun z => absurd z (by omega))
        refine m_aload_n (j := 0) C dX12_parts_57 rfl ?_
        refine m_iload_n (j := 2) C dX12_parts_58 rfl ?_
        refine m_iload_n (j := 3) C dX12_parts_59 rfl ?_
        refine m_call (mc2 := 0) (ms2 := 0) (As := [.int (iI x), .int (iI y)]) (rest := []) C (M_alike (x := x) (y := y) bn2.rg ((pw1 0 (Or.inl rfl)).2 (x) (by omega) (by show x < 6008 * 0 + ah2 47 0; omega)) ((pw1 0 (Or.inl rfl)).2 (y) (by omega) (by show y < 6008 * 0 + ah2 47 0; omega))) dX12_parts_60 kV_X12_404 rfl ck_13 rfl (Nat.le_of_ble_eq_true rfl) ⟨Nat.le_of_ble_eq_true rfl, Nat.le_of_ble_eq_true rfl⟩ ⟨Nat.le_of_ble_eq_true rfl, Nat.le_of_ble_eq_true rfl⟩ (fun rh5 vh5 ah5 h5 => ?_)
        obtain ⟨f3, rfl, hf3, rfl, rfl⟩ := h5
        refine hv3 (show 0 ≤ f3 ∧ f3 ≤ ah2 46 x.toNat ∧ f3 ≤ ah2 46 y.toNat from hf3) (show 0 ≤ ah2 46 x.toNat ∧ ah2 46 x.toNat ≤ 4 from bn2.2 46 (x.toNat)) (show 0 ≤ ah2 46 y.toNat ∧ ah2 46 y.toNat ≤ 4 from bn2.2 46 (y.toNat)) (fun gf3 ra2 ra3 => ?_)
        refine m_st (st2 := [.int (iI f3)]) rfl ?_
        refine m_istore (lv2 := [(4, .int (iI f3)), (0, .ref h0), (1, .int (iI t)), (2, .int (iI x)), (3, .int (iI y))]) C dX12_parts_63 (by decide) rfl ?_
        refine m_aload_n (j := 1) C dX12_parts_65 rfl ?_
        refine m_iload (j := 0) C dX12_parts_66 rfl ?_
        refine m_aload_n (j := 1) C dX12_parts_68 rfl ?_
        refine m_geta (k := 46) C dX12_parts_69 w6_105 (by decide) rfl ?_
        refine m_iload_n (j := 3) C dX12_parts_72 rfl ?_
        refine m_ald (k := 46) C dX12_parts_73 rfl rfl (by decide) (by omega) (by show _ < ((_ : Nat) : Int); simp only [mlen]; omega) (by decide) ?_
        refine m_icmp_eq (tgt := 88) C ⟨by omega, by omega⟩ (r32_c (lo := 0) (hi := 4) ra2.1 ra2.2 (by decide) (by decide)) dX12_parts_74 (by decide) (fun c2 => ?_) (fun c2 => ?_)
        · refine m_iconst C dX12_parts_88 ?_
          refine m_iload (j := 0) C dX12_parts_89 rfl ?_
          refine m_isub C dX12_parts_91 ?_
          refine m_goto (tgt := 97) C dX12_parts_92 (by decide) ?_
          refine m_call (mc2 := 0) (ms2 := 0) (As := [.int (iI ((-1) - f3))]) (rest := []) C (B_fine (x := (-1) - f3) bn2 (by show -2147483648 ≤ ((-1) - f3) ∧ ((-1) - f3) ≤ 2147483647; omega)) dX12_parts_97 kV_X12_158 rfl ck_13 rfl (Nat.le_of_ble_eq_true rfl) ⟨Nat.le_of_ble_eq_true rfl, Nat.le_of_ble_eq_true rfl⟩ ⟨Nat.le_of_ble_eq_true rfl, Nat.le_of_ble_eq_true rfl⟩ (fun rh6 vh6 ah6 h6 => ?_)
          obtain ⟨f4, rfl, fn3, bn3, ex3⟩ := h6
          refine hv3 (fq2.call fn3 rfl rfl) (show RWS ah6 from RWS.fr pw1 fn3 rfl) (show f4 = ((-1) - f3) from ex3) (fun fq3 pw2 gf4 => ?_)
          refine m_st (st2 := [.int (iI f4)]) rfl ?_
          exact m_iret C dX12_parts_100 rfl (Nat.le_of_ble_eq_true rfl) (Nat.le_of_ble_eq_true rfl) ⟨f4, rfl, fq3, bn3, pw2⟩
        · refine m_iload (j := 0) C dX12_parts_77 rfl ?_
          refine m_aload_n (j := 1) C dX12_parts_79 rfl ?_
          refine m_geta (k := 46) C dX12_parts_80 w6_105 (by decide) rfl ?_
          refine m_iload_n (j := 4) C dX12_parts_83 rfl ?_
          refine m_ald (k := 46) C dX12_parts_84 rfl rfl (by decide) (by omega) (by show _ < ((_ : Nat) : Int); simp only [mlen]; omega) (by decide) ?_
          refine m_icmp_ne (tgt := 95) C ⟨by omega, by omega⟩ (r32_c (lo := 0) (hi := 4) ra3.1 ra3.2 (by decide) (by decide)) dX12_parts_85 (by decide) (fun c3 => ?_) (fun c3 => ?_)
          · refine m_iload (j := 0) C dX12_parts_95 rfl ?_
            refine m_call (mc2 := 0) (ms2 := 0) (As := [.int (iI f3)]) (rest := []) C (B_fine (x := f3) bn2 (by show -2147483648 ≤ f3 ∧ f3 ≤ 2147483647; omega)) dX12_parts_97 kV_X12_158 rfl ck_13 rfl (Nat.le_of_ble_eq_true rfl) ⟨Nat.le_of_ble_eq_true rfl, Nat.le_of_ble_eq_true rfl⟩ ⟨Nat.le_of_ble_eq_true rfl, Nat.le_of_ble_eq_true rfl⟩ (fun rh7 vh7 ah7 h7 => ?_)
            obtain ⟨f5, rfl, fn4, bn4, ex4⟩ := h7
            refine hv3 (fq2.call fn4 rfl rfl) (show RWS ah7 from RWS.fr pw1 fn4 rfl) (show f5 = f3 from ex4) (fun fq4 pw3 gf5 => ?_)
            refine m_st (st2 := [.int (iI f5)]) rfl ?_
            exact m_iret C dX12_parts_100 rfl (Nat.le_of_ble_eq_true rfl) (Nat.le_of_ble_eq_true rfl) ⟨f5, rfl, fq4, bn4, pw3⟩
          · refine m_iconst C dX12_parts_88 ?_
            refine m_iload (j := 0) C dX12_parts_89 rfl ?_
            refine m_isub C dX12_parts_91 ?_
            refine m_goto (tgt := 97) C dX12_parts_92 (by decide) ?_
            refine m_call (mc2 := 0) (ms2 := 0) (As := [.int (iI ((-1) - f3))]) (rest := []) C (B_fine (x := (-1) - f3) bn2 (by show -2147483648 ≤ ((-1) - f3) ∧ ((-1) - f3) ≤ 2147483647; omega)) dX12_parts_97 kV_X12_158 rfl ck_13 rfl (Nat.le_of_ble_eq_true rfl) ⟨Nat.le_of_ble_eq_true rfl, Nat.le_of_ble_eq_true rfl⟩ ⟨Nat.le_of_ble_eq_true rfl, Nat.le_of_ble_eq_true rfl⟩ (fun rh8 vh8 ah8 h8 => ?_)
            obtain ⟨f6, rfl, fn5, bn5, ex5⟩ := h8
            refine hv3 (fq2.call fn5 rfl rfl) (show RWS ah8 from RWS.fr pw1 fn5 rfl) (show f6 = ((-1) - f3) from ex5) (fun fq5 pw4 gf6 => ?_)
            refine m_st (st2 := [.int (iI f6)]) rfl ?_
            exact m_iret C dX12_parts_100 rfl (Nat.le_of_ble_eq_true rfl) (Nat.le_of_ble_eq_true rfl) ⟨f6, rfl, fq5, bn5, pw4⟩
      · refine m_st (st2 := [.int (iI 0)]) (by rw [h4e]) ?_
        refine m_if_ne (tgt := 57) C ⟨by decide, by decide⟩ dX12_parts_48 (by decide) (fun z => absurd z (by omega)) (fun _ => ?_)
        refine m_aload_n (j := 0) C dX12_parts_51 rfl ?_
        refine m_iconst C dX12_parts_52 ?_
        refine m_call (mc2 := 0) (ms2 := 0) (As := [.int (iI 2)]) (rest := []) C (B_bad (x := 2) bn2 (by show -2147483648 ≤ (2 : Int) ∧ (2 : Int) ≤ 2147483647; omega)) dX12_parts_53 kV_X12_154 rfl ck_13 rfl (Nat.le_of_ble_eq_true rfl) ⟨Nat.le_of_ble_eq_true rfl, Nat.le_of_ble_eq_true rfl⟩ ⟨Nat.le_of_ble_eq_true rfl, Nat.le_of_ble_eq_true rfl⟩ (fun rh9 vh9 ah9 h9 => ?_)
        obtain ⟨f7, rfl, fn6, bn6, ex6⟩ := h9
        refine hv3 (fq2.call fn6 rfl rfl) (show RWS ah9 from RWS.fr pw1 fn6 rfl) (show f7 = -1 from ex6) (fun fq6 pw5 gf7 => ?_)
        refine m_st (st2 := [.int (iI f7)]) rfl ?_
        exact m_iret C dX12_parts_56 rfl (Nat.le_of_ble_eq_true rfl) (Nat.le_of_ble_eq_true rfl) ⟨f7, rfl, fq6, bn6, pw5⟩
    · refine m_st (st2 := [.int (iI 0)]) (by rw [h3e]) ?_
      refine m_if_eq (tgt := 51) C ⟨by decide, by decide⟩ dX12_parts_32 (by decide) (fun _ => ?_) (fun z => absurd z (by omega))
      refine m_aload_n (j := 0) C dX12_parts_51 rfl ?_
      refine m_iconst C dX12_parts_52 ?_
      refine m_call (mc2 := 0) (ms2 := 0) (As := [.int (iI 2)]) (rest := []) C (B_bad (x := 2) bn2 (by show -2147483648 ≤ (2 : Int) ∧ (2 : Int) ≤ 2147483647; omega)) dX12_parts_53 kV_X12_154 rfl ck_13 rfl (Nat.le_of_ble_eq_true rfl) ⟨Nat.le_of_ble_eq_true rfl, Nat.le_of_ble_eq_true rfl⟩ ⟨Nat.le_of_ble_eq_true rfl, Nat.le_of_ble_eq_true rfl⟩ (fun rh10 vh10 ah10 h10 => ?_)
      obtain ⟨f8, rfl, fn7, bn7, ex7⟩ := h10
      refine hv3 (fq2.call fn7 rfl rfl) (show RWS ah10 from RWS.fr pw1 fn7 rfl) (show f8 = -1 from ex7) (fun fq7 pw6 gf8 => ?_)
      refine m_st (st2 := [.int (iI f8)]) rfl ?_
      exact m_iret C dX12_parts_56 rfl (Nat.le_of_ble_eq_true rfl) (Nat.le_of_ble_eq_true rfl) ⟨f8, rfl, fq7, bn7, pw6⟩
  · clear gf1
    refine m_aload_n (j := 0) C dX12_parts_8 rfl ?_
    refine m_iconst C dX12_parts_9 ?_
    refine m_call (mc2 := 0) (ms2 := 0) (As := [.int (iI 3)]) (rest := []) C (B_bad (x := 3) hB (by show -2147483648 ≤ (3 : Int) ∧ (3 : Int) ≤ 2147483647; omega)) dX12_parts_10 kV_X12_154 rfl ck_13 rfl (Nat.le_of_ble_eq_true rfl) ⟨Nat.le_of_ble_eq_true rfl, Nat.le_of_ble_eq_true rfl⟩ ⟨Nat.le_of_ble_eq_true rfl, Nat.le_of_ble_eq_true rfl⟩ (fun rh11 vh11 ah11 h11 => ?_)
    obtain ⟨f9, rfl, fn8, bn8, ex8⟩ := h11
    refine hv3 (fp0.call fn8 rfl rfl) (show RWS ah11 from RWS.fr hW fn8 rfl) (show f9 = -1 from ex8) (fun fq8 pw7 gf9 => ?_)
    refine m_st (st2 := [.int (iI f9)]) rfl ?_
    exact m_iret C dX12_parts_13 rfl (Nat.le_of_ble_eq_true rfl) (Nat.le_of_ble_eq_true rfl) ⟨f9, rfl, fq8, bn8, pw7⟩
set_option maxHeartbeats 4000000 in
set_option maxRecDepth 100000 in
theorem N_unreadable {l : Launch} {G : GT} {h0 : Nat} {ad ln : Nat → Nat} {v : Nat → Int} {a : Nat → Nat → Int} {t n1 m1 : Int} (hB : BX v a) (hT : TBL v a) (hW : RWS a) (ht : -2147483648 ≤ t ∧ t ≤ 2147483647) (hn1 : -2147483648 ≤ n1 ∧ n1 ≤ 2147483647) (hm1 : -2147483648 ≤ m1 ∧ m1 ≤ 2147483647) : Mm l G yX12_unreadable cX12_unreadable 9 (some .int) 67 [.int (iI t), .int (iI n1), .int (iI m1)] h0 ad ln v a 2 262 (fun r v2 a2 => ∃ f : Int, r = some (.int (iI f)) ∧ fr [0, 1, 23, 25, 28, 50, 52, 53, 55, 66] [20, 24, 26, 27, 44, 45, 46, 47, 48, 49, 51, 54, 65, 70] v a v2 a2 ∧ BX v2 a2 ∧ (RWS a2)) := by
  refine Mm.mk (by decide) (Nat.le_of_ble_eq_true rfl) ?_
  intro p e s m args below meth c A C
  refine hv2 (show 0 ≤ v 4 ∧ v 4 ≤ 30 from hB.1 4) (show fr [0, 1, 23, 25, 28, 50, 52, 53, 55, 66] [20, 24, 26, 27, 44, 45, 46, 47, 48, 49, 51, 54, 65, 70] v a v a from fr.refl) (fun h30 fp0 => ?_)
  refine m_iload_n (j := 2) C dX12_unreadable_0 rfl ?_
  refine m_iconst C dX12_unreadable_1 ?_
  refine m_bipush (z := 6) C dX12_unreadable_2 (by decide) ?_
  refine m_callS (As := [.int (iI n1), .int (iI 1), .int (iI 6)]) (rest := []) C (fun L E => s_isIn (iI n1) (iI 1) (iI 6)) dX12_unreadable_4 kS_X12_174 rfl rfl (Nat.le_of_ble_eq_true rfl) ⟨Nat.le_of_ble_eq_true rfl, Nat.le_of_ble_eq_true rfl⟩ ⟨Nat.le_of_ble_eq_true rfl, Nat.le_of_ble_eq_true rfl⟩ ?_
  rcases inn_c (x := n1) (lo := 1) (hi := 6) ⟨by omega, by omega⟩ ⟨by decide, by decide⟩ ⟨by decide, by decide⟩ with ⟨h1a, h1b, h1e⟩ | ⟨h1a, h1e⟩
  · refine m_st (st2 := [.int (iI 1)]) (by rw [h1e]) ?_
    refine m_if_eq (tgt := 21) C ⟨by decide, by decide⟩ dX12_unreadable_7 (by decide) (fun z => absurd z (by omega)) (fun _ => ?_)
    refine m_iload_n (j := 3) C dX12_unreadable_10 rfl ?_
    refine m_iconst C dX12_unreadable_11 ?_
    refine m_sipush (z := 5000) C dX12_unreadable_12 (by decide) ?_
    refine m_callS (As := [.int (iI m1), .int (iI 1), .int (iI 5000)]) (rest := []) C (fun L E => s_isIn (iI m1) (iI 1) (iI 5000)) dX12_unreadable_15 kS_X12_174 rfl rfl (Nat.le_of_ble_eq_true rfl) ⟨Nat.le_of_ble_eq_true rfl, Nat.le_of_ble_eq_true rfl⟩ ⟨Nat.le_of_ble_eq_true rfl, Nat.le_of_ble_eq_true rfl⟩ ?_
    rcases inn_c (x := m1) (lo := 1) (hi := 5000) ⟨by omega, by omega⟩ ⟨by decide, by decide⟩ ⟨by decide, by decide⟩ with ⟨h2a, h2b, h2e⟩ | ⟨h2a, h2e⟩
    · refine m_st (st2 := [.int (iI 1)]) (by rw [h2e]) ?_
      refine m_if_ne (tgt := 28) C ⟨by decide, by decide⟩ dX12_unreadable_18 (by decide) (fun _ => ?_) (fun z => absurd z (by omega))
      refine m_aload_n (j := 0) C dX12_unreadable_28 rfl ?_
      refine m_iload_n (j := 1) C dX12_unreadable_29 rfl ?_
      have rv1 : 0 ≤ v 4 ∧ v 4 ≤ 30 := hB.1 4
      refine m_call (mc2 := 0) (ms2 := 0) (As := [.int (iI t)]) (rest := []) C (M_isWhole (t := t) hB (hT.fr fp0 rfl rfl) (by show -2147483648 ≤ t ∧ t ≤ 2147483647; omega)) dX12_unreadable_30 kV_X12_171 rfl ck_13 rfl (Nat.le_of_ble_eq_true rfl) ⟨Nat.le_of_ble_eq_true rfl, Nat.le_of_ble_eq_true rfl⟩ ⟨Nat.le_of_ble_eq_true rfl, Nat.le_of_ble_eq_true rfl⟩ (fun rh3 vh3 ah3 h3 => ?_)
      obtain ⟨f1, rfl, fn1, bn1, ex1⟩ := h3
      obtain ⟨rfl, rfl⟩ := fn1.eq
      have gf1 : f1 = 0 ∨ (f1 = 1 ∧ 0 ≤ t ∧ t < (v 4)) := ex1
      refine m_st (st2 := [.int (iI f1)]) rfl ?_
      refine m_if_ne (tgt := 42) C (r32_0p gf1) dX12_unreadable_33 (by decide) (fun c1 => ?_) (fun c1 => ?_)
      · replace gf1 := (gf1.resolve_left c1)
        refine m_aload_n (j := 0) C dX12_unreadable_42 rfl ?_
        refine m_iload_n (j := 1) C dX12_unreadable_43 rfl ?_
        refine m_call (mc2 := 0) (ms2 := 0) (As := [.int (iI t)]) (rest := []) C (M_gather (t := t) hB hW (hT.fr fp0 rfl rfl) (by show 0 ≤ t ∧ t < (v 4); omega)) dX12_unreadable_44 kV_X12_354 rfl ck_13 rfl (Nat.le_of_ble_eq_true rfl) ⟨Nat.le_of_ble_eq_true rfl, Nat.le_of_ble_eq_true rfl⟩ ⟨Nat.le_of_ble_eq_true rfl, Nat.le_of_ble_eq_true rfl⟩ (fun rh4 vh4 ah4 h4 => ?_)
        obtain ⟨rfl, fn2, bn2, ex2⟩ := h4
        refine hv2 (fp0.call fn2 rfl rfl) (ex2) (fun fq2 pw1 => ?_)
        refine m_st (st2 := []) rfl ?_
        refine m_aload_n (j := 0) C dX12_unreadable_47 rfl ?_
        refine m_iload_n (j := 1) C dX12_unreadable_48 rfl ?_
        refine m_call (mc2 := 1) (ms2 := 256) (As := [.int (iI t)]) (rest := []) C (M_gatherSigns (t := t) bn2 (by show 0 ≤ t ∧ t < 30; omega)) dX12_unreadable_49 kV_X12_416 rfl ck_13 rfl (Nat.le_of_ble_eq_true rfl) ⟨Nat.le_of_ble_eq_true rfl, Nat.le_of_ble_eq_true rfl⟩ ⟨Nat.le_of_ble_eq_true rfl, Nat.le_of_ble_eq_true rfl⟩ (fun rh5 vh5 ah5 h5 => ?_)
        obtain ⟨rfl, fn3, bn3, ex3⟩ := h5
        refine hv2 (fq2.call fn3 rfl rfl) (show RWS ah5 from RWS.fr pw1 fn3 rfl) (fun fq3 pw2 => ?_)
        refine m_st (st2 := []) rfl ?_
        refine m_aload_n (j := 0) C dX12_unreadable_52 rfl ?_
        refine m_aload_n (j := 0) C dX12_unreadable_53 rfl ?_
        refine hv3 (show 0 ≤ vh5 52 ∧ vh5 52 ≤ 4000 from bn3.1 52) (show vh5 52 = vh4 52 from fn3.1 52 rfl) (show vh4 52 = v 52 from fn2.1 52 rfl) (fun rv2 ve1 ve2 => ?_)
        refine m_get (k := 52) C dX12_unreadable_54 w6_111 (by decide) rfl ?_
        refine m_put (k := 55) (z := vh5 52) C dX12_unreadable_57 w6_114 (by decide) rfl rfl rfl ?_
        refine hv2 (show BX (va_up vh5 55 (vh5 52)) ah5 from bn3.put (k := 55) (z := vh5 52) (show 0 ≤ (vh5 52) ∧ (vh5 52) ≤ 4000 by omega)) (fq3.put (k := 55) (z := vh5 52) rfl) (fun bq1 fq4 => ?_)
        refine m_iconst C dX12_unreadable_60 ?_
        refine m_istore (lv2 := [(4, .int (iI 0)), (0, .ref h0), (1, .int (iI t)), (2, .int (iI n1)), (3, .int (iI m1))]) C dX12_unreadable_61 (by decide) rfl ?_
        have Lp1 : ∀ (nn : Nat) (k : Int) (vb1 : Nat → Int) (ab1 : Nat → Nat → Int), 4001 - k < (nn : Int) → BX vb1 ab1 → fr [0, 1, 23, 25, 28, 50, 52, 53, 55, 66] [20, 24, 26, 27, 44, 45, 46, 47, 48, 49, 51, 54, 65, 70] v a vb1 ab1 → (0 ≤ k ∧ k ≤ 4000) → (RWS ab1) → mw p l e (rmq 67 2 262) s m args below meth c G A 9 (MQ below (Qm G A (fun rq Lq Eq => ∃ (vq : Nat → Int) (aq : Nat → Nat → Int), mI G h0 ad ln vq aq Lq Eq ∧ (fun r v2 a2 => ∃ f : Int, r = some (.int (iI f)) ∧ fr [0, 1, 23, 25, 28, 50, 52, 53, 55, 66] [20, 24, 26, 27, 44, 45, 46, 47, 48, 49, 51, 54, 65, 70] v a v2 a2 ∧ BX v2 a2 ∧ (RWS a2)) rq vq aq)) args s 2 262 A) h0 ad ln vb1 ab1 (0 + 1) (0 + 256) 63 [(4, .int (iI k)), (0, .ref h0), (1, .int (iI t)), (2, .int (iI n1)), (3, .int (iI m1))] [] := by
          intro nn
          induction nn with
          | zero =>
            intro k vb1 ab1 hm bxb1 fpb1 hk hRa
            exact absurd hm (by omega)
          | succ nn ih1 =>
            intro k vb1 ab1 hm bxb1 fpb1 hk hRa
            refine m_iload (j := 0) C dX12_unreadable_63 rfl ?_
            refine m_aload_n (j := 1) C dX12_unreadable_65 rfl ?_
            have rv3 : 0 ≤ vb1 52 ∧ vb1 52 ≤ 4000 := bxb1.1 52
            refine m_get (k := 52) C dX12_unreadable_66 w6_111 (by decide) rfl ?_
            refine m_icmp_ge (tgt := 92) C (r32_c (lo := 0) (hi := 4000) hk.1 hk.2 (by decide) (by decide)) (r32_c (lo := 0) (hi := 4000) rv3.1 rv3.2 (by decide) (by decide)) dX12_unreadable_69 (by decide) (fun c2 => ?_) (fun c2 => ?_)
            · refine m_iconst C dX12_unreadable_92 ?_
              refine m_istore (lv2 := [(4, .int (iI 0)), (0, .ref h0), (1, .int (iI t)), (2, .int (iI n1)), (3, .int (iI m1))]) C dX12_unreadable_93 (by decide) rfl ?_
              refine m_bipush (z := 6) C dX12_unreadable_95 (by decide) ?_
              refine m_newI (z := 6) (nb := 6) C dX12_unreadable_97 w1_57 ⟨by omega, by omega⟩ rfl ⟨Nat.le_of_ble_eq_true rfl, Nat.le_of_ble_eq_true rfl⟩ bxb1 (fun bb vw1 aw1 fnw1 bnw1 znw1 => ?_)
              refine hv3 (fpb1.call fnw1 rfl rfl) (show RWS aw1 from RWS.fr hRa fnw1 rfl) (show ATS vw1 aw1 from fun j => ⟨Int.le_of_eq (znw1 j).symm, Or.inl (znw1 j)⟩) (fun fqw1 pw3 pw4 => ?_)
              refine x_astore (lv2 := [(5, .ref bb), (4, .int (iI 0)), (0, .ref h0), (1, .int (iI t)), (2, .int (iI n1)), (3, .int (iI m1))]) C dX12_unreadable_99 (by decide) rfl ?_
              refine x_iconst C dX12_unreadable_101 ?_
              refine x_istore (lv2 := [(6, .int (iI 1)), (5, .ref bb), (4, .int (iI 0)), (0, .ref h0), (1, .int (iI t)), (2, .int (iI n1)), (3, .int (iI m1))]) C dX12_unreadable_102 (by decide) rfl ?_
              have Lp2 : ∀ (nn : Nat) (tr m2 : Int) (vb2 : Nat → Int) (ab2 : Nat → Nat → Int), n1 + 2 - m2 < (nn : Int) → BX vb2 ab2 → fr [0, 1, 23, 25, 28, 50, 52, 53, 55, 66] [20, 24, 26, 27, 44, 45, 46, 47, 48, 49, 51, 54, 65, 70] v a vb2 ab2 → (0 ≤ tr ∧ tr ≤ m1) → (1 ≤ m2 ∧ m2 ≤ n1 + 1) → (RWS ab2) → (ATS vb2 ab2) → mx p l e (rmq 67 2 262) s m args below meth c G A 9 (MQ below (Qm G A (fun rq Lq Eq => ∃ (vq : Nat → Int) (aq : Nat → Nat → Int), mI G h0 ad ln vq aq Lq Eq ∧ (fun r v2 a2 => ∃ f : Int, r = some (.int (iI f)) ∧ fr [0, 1, 23, 25, 28, 50, 52, 53, 55, 66] [20, 24, 26, 27, 44, 45, 46, 47, 48, 49, 51, 54, 65, 70] v a v2 a2 ∧ BX v2 a2 ∧ (RWS a2)) rq vq aq)) args s 2 262 A) bb 6 false h0 ad ln vb2 ab2 ((0 + 1) + 1) ((0 + 256) + 6) 104 [(6, .int (iI m2)), (4, .int (iI tr)), (5, .ref bb), (0, .ref h0), (1, .int (iI t)), (2, .int (iI n1)), (3, .int (iI m1))] [] := by
                intro nn
                induction nn with
                | zero =>
                  intro tr m2 vb2 ab2 hm bxb2 fpb2 htr hm2 hRb hAb
                  exact absurd hm (by omega)
                | succ nn ih2 =>
                  intro tr m2 vb2 ab2 hm bxb2 fpb2 htr hm2 hRb hAb
                  refine x_iload (j := 0) C dX12_unreadable_104 rfl ?_
                  refine x_iload_n (j := 5) C dX12_unreadable_106 rfl ?_
                  refine x_icmp_gt (tgt := 329) C ⟨by omega, by omega⟩ ⟨by omega, by omega⟩ dX12_unreadable_107 (by decide) (fun c3 => ?_) (fun c3 => ?_)
                  · refine x_aload_n (j := 3) C dX12_unreadable_329 rfl ?_
                    refine x_call (mc2 := 0) (ms2 := 0) (As := []) (rest := []) C (B_putBack  bxb2 ) (fun _ _ _ q => by first | exact q.2.1.2 70 rfl | (obtain ⟨_, _, q2, _⟩ := q; exact q2.2 70 rfl)) dX12_unreadable_330 kV_X12_422 rfl ck_13 rfl (Nat.le_of_ble_eq_true rfl) ⟨Nat.le_of_ble_eq_true rfl, Nat.le_of_ble_eq_true rfl⟩ ⟨Nat.le_of_ble_eq_true rfl, Nat.le_of_ble_eq_true rfl⟩ (fun rh6 vh6 ah6 h6 => ?_)
                    obtain ⟨rfl, fn4, bn4, ex4⟩ := h6
                    refine hv3 (fpb2.call fn4 rfl rfl) (show RWS ah6 from RWS.fr hRb fn4 rfl) (show ATS vh6 ah6 from ATS.fr hAb fn4 rfl rfl) (fun fq5 pw5 pw6 => ?_)
                    refine x_st (st2 := []) rfl ?_
                    refine x_aload_n (j := 3) C dX12_unreadable_333 rfl ?_
                    refine x_iconst C dX12_unreadable_334 ?_
                    refine x_call (mc2 := 0) (ms2 := 0) (As := [.int (iI 0)]) (rest := []) C (B_fine (x := 0) bn4 (by show -2147483648 ≤ (0 : Int) ∧ (0 : Int) ≤ 2147483647; omega)) (fun _ _ _ q => by first | exact q.2.1.2 70 rfl | (obtain ⟨_, _, q2, _⟩ := q; exact q2.2 70 rfl)) dX12_unreadable_335 kV_X12_158 rfl ck_13 rfl (Nat.le_of_ble_eq_true rfl) ⟨Nat.le_of_ble_eq_true rfl, Nat.le_of_ble_eq_true rfl⟩ ⟨Nat.le_of_ble_eq_true rfl, Nat.le_of_ble_eq_true rfl⟩ (fun rh7 vh7 ah7 h7 => ?_)
                    obtain ⟨f5, rfl, fn5, bn5, ex5⟩ := h7
                    refine hv4 (fq5.call fn5 rfl rfl) (show RWS ah7 from RWS.fr pw5 fn5 rfl) (show ATS vh7 ah7 from ATS.fr pw6 fn5 rfl rfl) (show f5 = (0 : Int) from ex5) (fun fq6 pw7 pw8 gf5 => ?_)
                    refine x_st (st2 := [.int (iI f5)]) rfl ?_
                    exact x_iret C dX12_unreadable_338 rfl (Nat.le_of_ble_eq_true rfl) (Nat.le_of_ble_eq_true rfl) ⟨f5, rfl, fq6, bn5, pw7⟩
                  · refine x_aload_n (j := 3) C dX12_unreadable_110 rfl ?_
                    have rv4 : 0 ≤ vb2 66 ∧ vb2 66 ≤ 256 := bxb2.1 66
                    refine x_get (k := 66) C dX12_unreadable_111 w6_125 (by decide) rfl ?_
                    refine x_if_le (tgt := 329) C (r32_c (lo := 0) (hi := 256) rv4.1 rv4.2 (by decide) (by decide)) dX12_unreadable_114 (by decide) (fun c4 => ?_) (fun c4 => ?_)
                    · refine x_aload_n (j := 3) C dX12_unreadable_329 rfl ?_
                      refine x_call (mc2 := 0) (ms2 := 0) (As := []) (rest := []) C (B_putBack  bxb2 ) (fun _ _ _ q => by first | exact q.2.1.2 70 rfl | (obtain ⟨_, _, q2, _⟩ := q; exact q2.2 70 rfl)) dX12_unreadable_330 kV_X12_422 rfl ck_13 rfl (Nat.le_of_ble_eq_true rfl) ⟨Nat.le_of_ble_eq_true rfl, Nat.le_of_ble_eq_true rfl⟩ ⟨Nat.le_of_ble_eq_true rfl, Nat.le_of_ble_eq_true rfl⟩ (fun rh8 vh8 ah8 h8 => ?_)
                      obtain ⟨rfl, fn6, bn6, ex6⟩ := h8
                      refine hv3 (fpb2.call fn6 rfl rfl) (show RWS ah8 from RWS.fr hRb fn6 rfl) (show ATS vh8 ah8 from ATS.fr hAb fn6 rfl rfl) (fun fq7 pw9 pw10 => ?_)
                      refine x_st (st2 := []) rfl ?_
                      refine x_aload_n (j := 3) C dX12_unreadable_333 rfl ?_
                      refine x_iconst C dX12_unreadable_334 ?_
                      refine x_call (mc2 := 0) (ms2 := 0) (As := [.int (iI 0)]) (rest := []) C (B_fine (x := 0) bn6 (by show -2147483648 ≤ (0 : Int) ∧ (0 : Int) ≤ 2147483647; omega)) (fun _ _ _ q => by first | exact q.2.1.2 70 rfl | (obtain ⟨_, _, q2, _⟩ := q; exact q2.2 70 rfl)) dX12_unreadable_335 kV_X12_158 rfl ck_13 rfl (Nat.le_of_ble_eq_true rfl) ⟨Nat.le_of_ble_eq_true rfl, Nat.le_of_ble_eq_true rfl⟩ ⟨Nat.le_of_ble_eq_true rfl, Nat.le_of_ble_eq_true rfl⟩ (fun rh9 vh9 ah9 h9 => ?_)
                      obtain ⟨f7, rfl, fn7, bn7, ex7⟩ := h9
                      refine hv4 (fq7.call fn7 rfl rfl) (show RWS ah9 from RWS.fr pw9 fn7 rfl) (show ATS vh9 ah9 from ATS.fr pw10 fn7 rfl rfl) (show f7 = (0 : Int) from ex7) (fun fq8 pw11 pw12 gf7 => ?_)
                      refine x_st (st2 := [.int (iI f7)]) rfl ?_
                      exact x_iret C dX12_unreadable_338 rfl (Nat.le_of_ble_eq_true rfl) (Nat.le_of_ble_eq_true rfl) ⟨f7, rfl, fq8, bn7, pw11⟩
                    · refine x_iconst C dX12_unreadable_117 ?_
                      refine x_istore (lv2 := [(7, .int (iI 0)), (6, .int (iI m2)), (4, .int (iI tr)), (5, .ref bb), (0, .ref h0), (1, .int (iI t)), (2, .int (iI n1)), (3, .int (iI m1))]) C dX12_unreadable_118 (by decide) rfl ?_
                      have Lp3 : ∀ (nn : Nat) (k1 : Int) (vb3 : Nat → Int) (ab3 : Nat → Nat → Int), 7 - k1 < (nn : Int) → BX vb3 ab3 → fr [0, 1, 23, 25, 28, 50, 52, 53, 55, 66] [20, 24, 26, 27, 44, 45, 46, 47, 48, 49, 51, 54, 65, 70] v a vb3 ab3 → (0 ≤ k1 ∧ k1 ≤ m2) → (RWS ab3) → (ATS vb3 ab3) → (0 < vb3 66) → mx p l e (rmq 67 2 262) s m args below meth c G A 9 (MQ below (Qm G A (fun rq Lq Eq => ∃ (vq : Nat → Int) (aq : Nat → Nat → Int), mI G h0 ad ln vq aq Lq Eq ∧ (fun r v2 a2 => ∃ f : Int, r = some (.int (iI f)) ∧ fr [0, 1, 23, 25, 28, 50, 52, 53, 55, 66] [20, 24, 26, 27, 44, 45, 46, 47, 48, 49, 51, 54, 65, 70] v a v2 a2 ∧ BX v2 a2 ∧ (RWS a2)) rq vq aq)) args s 2 262 A) bb 6 false h0 ad ln vb3 ab3 ((0 + 1) + 1) ((0 + 256) + 6) 120 [(7, .int (iI k1)), (6, .int (iI m2)), (4, .int (iI tr)), (5, .ref bb), (0, .ref h0), (1, .int (iI t)), (2, .int (iI n1)), (3, .int (iI m1))] [] := by
                        intro nn
                        induction nn with
                        | zero =>
                          intro k1 vb3 ab3 hm bxb3 fpb3 hk1 hRc hAc h66c
                          exact absurd hm (by omega)
                        | succ nn ih3 =>
                          intro k1 vb3 ab3 hm bxb3 fpb3 hk1 hRc hAc h66c
                          refine x_iload (j := 0) C dX12_unreadable_120 rfl ?_
                          refine x_iload (j := 1) C dX12_unreadable_122 rfl ?_
                          refine x_icmp_ge (tgt := 139) C ⟨by omega, by omega⟩ ⟨by omega, by omega⟩ dX12_unreadable_124 (by decide) (fun c5 => ?_) (fun c5 => ?_)
                          · refine x_iconst C dX12_unreadable_139 ?_
                            refine x_istore (lv2 := [(7, .int (iI 1)), (6, .int (iI m2)), (4, .int (iI tr)), (5, .ref bb), (0, .ref h0), (1, .int (iI t)), (2, .int (iI n1)), (3, .int (iI m1))]) C dX12_unreadable_140 (by decide) rfl ?_
                            have Lp4 : ∀ (nn : Nat) (g tr2 : Int) (vb4 : Nat → Int) (ab4 : Nat → Nat → Int), m1 + 1 - tr2 < (nn : Int) → BX vb4 ab4 → fr [0, 1, 23, 25, 28, 50, 52, 53, 55, 66] [20, 24, 26, 27, 44, 45, 46, 47, 48, 49, 51, 54, 65, 70] v a vb4 ab4 → (g = 0 ∨ g = 1) → (0 ≤ tr2 ∧ tr2 ≤ m1) → (RWS ab4) → (ATS vb4 ab4) → (0 < vb4 66) → mx p l e (rmq 67 2 262) s m args below meth c G A 9 (MQ below (Qm G A (fun rq Lq Eq => ∃ (vq : Nat → Int) (aq : Nat → Nat → Int), mI G h0 ad ln vq aq Lq Eq ∧ (fun r v2 a2 => ∃ f : Int, r = some (.int (iI f)) ∧ fr [0, 1, 23, 25, 28, 50, 52, 53, 55, 66] [20, 24, 26, 27, 44, 45, 46, 47, 48, 49, 51, 54, 65, 70] v a v2 a2 ∧ BX v2 a2 ∧ (RWS a2)) rq vq aq)) args s 2 262 A) bb 6 false h0 ad ln vb4 ab4 ((0 + 1) + 1) ((0 + 256) + 6) 142 [(7, .int (iI g)), (4, .int (iI tr2)), (6, .int (iI m2)), (5, .ref bb), (0, .ref h0), (1, .int (iI t)), (2, .int (iI n1)), (3, .int (iI m1))] [] := by
                              intro nn
                              induction nn with
                              | zero =>
                                intro g tr2 vb4 ab4 hm bxb4 fpb4 hg htr2 hRd hAd h66d
                                exact absurd hm (by omega)
                              | succ nn ih4 =>
                                intro g tr2 vb4 ab4 hm bxb4 fpb4 hg htr2 hRd hAd h66d
                                refine x_iload (j := 0) C dX12_unreadable_142 rfl ?_
                                refine x_if_eq (tgt := 323) C (r32_01 hg) dX12_unreadable_144 (by decide) (fun c6 => ?_) (fun c6 => ?_)
                                · clear hg
                                  refine x_iinc (z := m2) (j := 2) (lv2 := [(6, .int (iI (m2 + 1))), (7, .int (iI g)), (4, .int (iI tr2)), (5, .ref bb), (0, .ref h0), (1, .int (iI t)), (2, .int (iI n1)), (3, .int (iI m1))]) C dX12_unreadable_323 rfl (by decide) rfl ?_
                                  refine x_goto (tgt := 104) C dX12_unreadable_326 (by decide) ?_
                                  refine x_lv (lv2 := [(6, .int (iI (m2 + 1))), (4, .int (iI tr2)), (5, .ref bb), (0, .ref h0), (1, .int (iI t)), (2, .int (iI n1)), (3, .int (iI m1))]) [0, 2, 3, 4, 5, 6, 7] rfl ?_
                                  exact ih2  tr2 (m2 + 1) _ _ (by omega) bxb4 fpb4 (by omega) (by omega) hRd hAd
                                · replace hg := (hg.resolve_left c6)
                                  refine x_iload (j := 1) C dX12_unreadable_147 rfl ?_
                                  refine x_iload_n (j := 7) C dX12_unreadable_149 rfl ?_
                                  refine x_icmp_ne (tgt := 164) C ⟨by omega, by omega⟩ ⟨by omega, by omega⟩ dX12_unreadable_150 (by decide) (fun c7 => ?_) (fun c7 => ?_)
                                  · refine x_iinc (z := tr2) (j := 1) (lv2 := [(4, .int (iI (tr2 + 1))), (7, .int (iI g)), (6, .int (iI m2)), (5, .ref bb), (0, .ref h0), (1, .int (iI t)), (2, .int (iI n1)), (3, .int (iI m1))]) C dX12_unreadable_164 rfl (by decide) rfl ?_
                                    refine x_aload_n (j := 4) C dX12_unreadable_167 rfl ?_
                                    refine x_iload (j := 2) C dX12_unreadable_168 rfl ?_
                                    refine x_put (k := 23) (z := m2) C dX12_unreadable_170 w6_82 (by decide) rfl rfl rfl ?_
                                    refine hv3 (show BX (va_up vb4 23 m2) ab4 from bxb4.put (k := 23) (z := m2) (show 0 ≤ m2 ∧ m2 ≤ 500 by omega)) (fpb4.put (k := 23) (z := m2) rfl) (show ATS (va_up vb4 23 m2) ab4 from ATS.put hAd (k := 23) (z := m2) (by decide)) (fun bq2 fq9 pw13 => ?_)
                                    refine x_iconst C dX12_unreadable_173 ?_
                                    refine x_istore (lv2 := [(8, .int (iI 0)), (4, .int (iI (tr2 + 1))), (7, .int (iI g)), (6, .int (iI m2)), (5, .ref bb), (0, .ref h0), (1, .int (iI t)), (2, .int (iI n1)), (3, .int (iI m1))]) C dX12_unreadable_174 (by decide) rfl ?_
                                    have Lp5 : ∀ (nn : Nat) (k2 : Int) (vb5 : Nat → Int) (ab5 : Nat → Nat → Int), 7 - k2 < (nn : Int) → BX vb5 ab5 → fr [0, 1, 23, 25, 28, 50, 52, 53, 55, 66] [20, 24, 26, 27, 44, 45, 46, 47, 48, 49, 51, 54, 65, 70] v a vb5 ab5 → (0 ≤ k2 ∧ k2 ≤ m2) → (RWS ab5) → (ATS vb5 ab5) → (0 < vb5 66) → mx p l e (rmq 67 2 262) s m args below meth c G A 9 (MQ below (Qm G A (fun rq Lq Eq => ∃ (vq : Nat → Int) (aq : Nat → Nat → Int), mI G h0 ad ln vq aq Lq Eq ∧ (fun r v2 a2 => ∃ f : Int, r = some (.int (iI f)) ∧ fr [0, 1, 23, 25, 28, 50, 52, 53, 55, 66] [20, 24, 26, 27, 44, 45, 46, 47, 48, 49, 51, 54, 65, 70] v a v2 a2 ∧ BX v2 a2 ∧ (RWS a2)) rq vq aq)) args s 2 262 A) bb 6 false h0 ad ln vb5 ab5 ((0 + 1) + 1) ((0 + 256) + 6) 176 [(8, .int (iI k2)), (4, .int (iI (tr2 + 1))), (7, .int (iI g)), (6, .int (iI m2)), (5, .ref bb), (0, .ref h0), (1, .int (iI t)), (2, .int (iI n1)), (3, .int (iI m1))] [] := by
                                      intro nn
                                      induction nn with
                                      | zero =>
                                        intro k2 vb5 ab5 hm bxb5 fpb5 hk2 hRe hAe h66e
                                        exact absurd hm (by omega)
                                      | succ nn ih5 =>
                                        intro k2 vb5 ab5 hm bxb5 fpb5 hk2 hRe hAe h66e
                                        refine x_iload (j := 0) C dX12_unreadable_176 rfl ?_
                                        refine x_iload (j := 3) C dX12_unreadable_178 rfl ?_
                                        refine x_icmp_ge (tgt := 206) C ⟨by omega, by omega⟩ ⟨by omega, by omega⟩ dX12_unreadable_180 (by decide) (fun c8 => ?_) (fun c8 => ?_)
                                        · refine x_aload_n (j := 5) C dX12_unreadable_206 rfl ?_
                                          refine x_iload_n (j := 6) C dX12_unreadable_207 rfl ?_
                                          refine hv2 (show 0 ≤ vb5 4 ∧ vb5 4 ≤ 30 from bxb5.1 4) (show vb5 4 = v 4 from fpb5.1 4 rfl) (fun rv5 ve3 => ?_)
                                          refine x_call (mc2 := 0) (ms2 := 0) (As := [.int (iI t)]) (rest := []) C (M_isUnreadable (t := t) bxb5 (hT.fr fpb5 rfl rfl) hRe (by show 0 ≤ t ∧ t < (vb5 4); omega)) (fun _ _ _ q => by first | exact q.2.1.2 70 rfl | (obtain ⟨_, _, q2, _⟩ := q; exact q2.2 70 rfl)) dX12_unreadable_208 kV_X12_425 rfl ck_13 rfl (Nat.le_of_ble_eq_true rfl) ⟨Nat.le_of_ble_eq_true rfl, Nat.le_of_ble_eq_true rfl⟩ ⟨Nat.le_of_ble_eq_true rfl, Nat.le_of_ble_eq_true rfl⟩ (fun rh10 vh10 ah10 h10 => ?_)
                                          obtain ⟨f8, rfl, fn8, bn8, ex8⟩ := h10
                                          refine hv4 (fpb5.call fn8 rfl rfl) (show RWS ah10 from RWS.fr hRe fn8 rfl) (show ATS vh10 ah10 from ATS.fr hAe fn8 rfl rfl) (show f8 = 0 ∨ f8 = 1 from ex8) (fun fq10 pw14 pw15 gf8 => ?_)
                                          refine x_st (st2 := [.int (iI f8)]) rfl ?_
                                          refine x_if_eq (tgt := 257) C (r32_01 gf8) dX12_unreadable_211 (by decide) (fun c9 => ?_) (fun c9 => ?_)
                                          · clear gf8
                                            refine x_iload (j := 3) C dX12_unreadable_257 rfl ?_
                                            refine x_iconst C dX12_unreadable_259 ?_
                                            refine x_isub C dX12_unreadable_260 ?_
                                            refine x_istore (lv2 := [(8, .int (iI (m2 - 1))), (4, .int (iI (tr2 + 1))), (7, .int (iI g)), (6, .int (iI m2)), (5, .ref bb), (0, .ref h0), (1, .int (iI t)), (2, .int (iI n1)), (3, .int (iI m1))]) C dX12_unreadable_261 (by decide) rfl ?_
                                            have Lp6 : ∀ (nn : Nat) (k4 : Int) (vb6 : Nat → Int) (ab6 : Nat → Nat → Int), k4 + 1 < (nn : Int) → BX vb6 ab6 → fr [0, 1, 23, 25, 28, 50, 52, 53, 55, 66] [20, 24, 26, 27, 44, 45, 46, 47, 48, 49, 51, 54, 65, 70] v a vb6 ab6 → (-1 ≤ k4 ∧ k4 ≤ m2 - 1) → (RWS ab6) → (ATS vb6 ab6) → (0 < vb6 66) → mx p l e (rmq 67 2 262) s m args below meth c G A 9 (MQ below (Qm G A (fun rq Lq Eq => ∃ (vq : Nat → Int) (aq : Nat → Nat → Int), mI G h0 ad ln vq aq Lq Eq ∧ (fun r v2 a2 => ∃ f : Int, r = some (.int (iI f)) ∧ fr [0, 1, 23, 25, 28, 50, 52, 53, 55, 66] [20, 24, 26, 27, 44, 45, 46, 47, 48, 49, 51, 54, 65, 70] v a v2 a2 ∧ BX v2 a2 ∧ (RWS a2)) rq vq aq)) args s 2 262 A) bb 6 false h0 ad ln vb6 ab6 ((0 + 1) + 1) ((0 + 256) + 6) 263 [(8, .int (iI k4)), (4, .int (iI (tr2 + 1))), (7, .int (iI g)), (6, .int (iI m2)), (5, .ref bb), (0, .ref h0), (1, .int (iI t)), (2, .int (iI n1)), (3, .int (iI m1))] [] := by
                                              intro nn
                                              induction nn with
                                              | zero =>
                                                intro k4 vb6 ab6 hm bxb6 fpb6 hk4 hRf hAf h66f
                                                exact absurd hm (by omega)
                                              | succ nn ih6 =>
                                                intro k4 vb6 ab6 hm bxb6 fpb6 hk4 hRf hAf h66f
                                                refine x_iload (j := 0) C dX12_unreadable_263 rfl ?_
                                                refine x_if_lt (tgt := 294) C ⟨by omega, by omega⟩ dX12_unreadable_265 (by decide) (fun c10 => ?_) (fun c10 => ?_)
                                                · refine x_iload (j := 0) C dX12_unreadable_294 rfl ?_
                                                  refine x_if_lt (tgt := 303) C ⟨by omega, by omega⟩ dX12_unreadable_296 (by decide) (fun _ => ?_) (fun z => absurd z (by omega))
                                                  refine x_iconst C dX12_unreadable_303 ?_
                                                  refine x_istore (lv2 := [(7, .int (iI 0)), (8, .int (iI k4)), (4, .int (iI (tr2 + 1))), (6, .int (iI m2)), (5, .ref bb), (0, .ref h0), (1, .int (iI t)), (2, .int (iI n1)), (3, .int (iI m1))]) C dX12_unreadable_304 (by decide) rfl ?_
                                                  refine x_iload (j := 0) C dX12_unreadable_306 rfl ?_
                                                  refine x_if_eq (tgt := 320) C ⟨by decide, by decide⟩ dX12_unreadable_308 (by decide) (fun _ => ?_) (fun z => absurd z (by omega))
                                                  refine x_goto (tgt := 142) C dX12_unreadable_320 (by decide) ?_
                                                  have rv6 : 0 ≤ vb6 66 ∧ vb6 66 ≤ 256 := bxb6.1 66
                                                  refine x_lv (lv2 := [(7, .int (iI 0)), (4, .int (iI (tr2 + 1))), (6, .int (iI m2)), (5, .ref bb), (0, .ref h0), (1, .int (iI t)), (2, .int (iI n1)), (3, .int (iI m1))]) [0, 2, 3, 4, 5, 6, 7, 8] rfl ?_
                                                  exact ih4  0 (tr2 + 1) _ _ (by omega) bxb6 fpb6 (by omega) (by omega) hRf hAf (by show 0 < (vb6 66); omega)
                                                · refine x_aload (j := 4) C dX12_unreadable_268 rfl ?_
                                                  refine x_iload (j := 0) C dX12_unreadable_270 rfl ?_
                                                  refine x_lald C dX12_unreadable_272 rfl (by omega) (by omega) (by decide) ?_
                                                  refine hv3 (show (-2147483648) ≤ ab6 70 k4.toNat ∧ ab6 70 k4.toNat ≤ 2147483647 from bxb6.2 70 (k4.toNat)) (show 0 ≤ vb6 66 ∧ vb6 66 ≤ 256 from bxb6.1 66) (show 0 ≤ ab6 70 k4.toNat ∧ (ab6 70 k4.toNat = 0 ∨ ab6 70 k4.toNat < vb6 66) from hAf (k4.toNat)) (fun ra1 rv7 at272 => ?_)
                                                  refine x_aload_n (j := 5) C dX12_unreadable_273 rfl ?_
                                                  refine x_get (k := 66) C dX12_unreadable_274 w6_125 (by decide) rfl ?_
                                                  refine x_iconst C dX12_unreadable_277 ?_
                                                  refine x_isub C dX12_unreadable_278 ?_
                                                  refine x_icmp_ne (tgt := 294) C (r32_c (lo := 0) (hi := 2147483647) at272.1 ra1.2 (by decide) (by decide)) ⟨by omega, by omega⟩ dX12_unreadable_279 (by decide) (fun c11 => ?_) (fun c11 => ?_)
                                                  · refine x_iload (j := 0) C dX12_unreadable_294 rfl ?_
                                                    refine x_if_lt (tgt := 303) C ⟨by omega, by omega⟩ dX12_unreadable_296 (by decide) (fun z => absurd z (by omega)) (fun _ => ?_)
                                                    refine x_iconst C dX12_unreadable_299 ?_
                                                    refine x_goto (tgt := 304) C dX12_unreadable_300 (by decide) ?_
                                                    refine x_istore (lv2 := [(7, .int (iI 1)), (8, .int (iI k4)), (4, .int (iI (tr2 + 1))), (6, .int (iI m2)), (5, .ref bb), (0, .ref h0), (1, .int (iI t)), (2, .int (iI n1)), (3, .int (iI m1))]) C dX12_unreadable_304 (by decide) rfl ?_
                                                    refine x_iload (j := 0) C dX12_unreadable_306 rfl ?_
                                                    refine x_if_eq (tgt := 320) C ⟨by decide, by decide⟩ dX12_unreadable_308 (by decide) (fun z => absurd z (by omega)) (fun _ => ?_)
                                                    refine x_aload (j := 4) C dX12_unreadable_311 rfl ?_
                                                    refine x_iload (j := 1) C dX12_unreadable_313 rfl ?_
                                                    refine x_dup2 C dX12_unreadable_315 rfl rfl ?_
                                                    refine x_lald C dX12_unreadable_316 rfl (by omega) (by omega) (by decide) ?_
                                                    have at316 : 0 ≤ ab6 70 k4.toNat ∧ (ab6 70 k4.toNat = 0 ∨ ab6 70 k4.toNat < vb6 66) := hAf (k4.toNat)
                                                    refine x_iconst C dX12_unreadable_317 ?_
                                                    refine x_iadd C dX12_unreadable_318 ?_
                                                    refine x_last (w := (ab6 70 k4.toNat) + 1) C dX12_unreadable_319 rfl (by omega) (by omega) (by decide) ?_
                                                    refine hv3 (show BX vb6 (up2 ab6 70 k4.toNat ((ab6 70 k4.toNat) + 1)) from bxb6.set (k := 70) (i := k4.toNat) (z := (ab6 70 k4.toNat) + 1) (show (-2147483648) ≤ ((ab6 70 k4.toNat) + 1) ∧ ((ab6 70 k4.toNat) + 1) ≤ 2147483647 by omega)) (fpb6.set (k := 70) (i := k4.toNat) (z := (ab6 70 k4.toNat) + 1) rfl) (show RWS (up2 ab6 70 k4.toNat ((ab6 70 k4.toNat) + 1)) from RWS.set hRf (k := 70) (i := k4.toNat) (z := (ab6 70 k4.toNat) + 1) rfl) (fun bq3 fq11 pw16 => ?_)
                                                    have pw17 : ATS vb6 (up2 ab6 70 k4.toNat ((ab6 70 k4.toNat) + 1)) := ATS.sto (i := k4.toNat) (z := (ab6 70 k4.toNat) + 1) hAf (by show 0 ≤ ((ab6 70 k4.toNat) + 1) ∧ (((ab6 70 k4.toNat) + 1) = 0 ∨ ((ab6 70 k4.toNat) + 1) < vb6 66); omega)
                                                    refine x_goto (tgt := 142) C dX12_unreadable_320 (by decide) ?_
                                                    refine x_lv (lv2 := [(7, .int (iI 1)), (4, .int (iI (tr2 + 1))), (6, .int (iI m2)), (5, .ref bb), (0, .ref h0), (1, .int (iI t)), (2, .int (iI n1)), (3, .int (iI m1))]) [0, 2, 3, 4, 5, 6, 7, 8] rfl ?_
                                                    exact ih4  1 (tr2 + 1) _ _ (by omega) bq3 fq11 (by omega) (by omega) pw16 pw17 (by show 0 < (vb6 66); omega)
                                                  · refine x_aload (j := 4) C dX12_unreadable_282 rfl ?_
                                                    refine x_iload (j := 0) C dX12_unreadable_284 rfl ?_
                                                    refine x_iconst C dX12_unreadable_286 ?_
                                                    refine x_last (w := 0) C dX12_unreadable_287 rfl (by omega) (by omega) (by decide) ?_
                                                    refine hv3 (show BX vb6 (up2 ab6 70 k4.toNat 0) from bxb6.set (k := 70) (i := k4.toNat) (z := 0) ⟨by decide, by decide⟩) (fpb6.set (k := 70) (i := k4.toNat) (z := 0) rfl) (show RWS (up2 ab6 70 k4.toNat 0) from RWS.set hRf (k := 70) (i := k4.toNat) (z := 0) rfl) (fun bq4 fq12 pw18 => ?_)
                                                    have pw19 : ATS vb6 (up2 ab6 70 k4.toNat 0) := ATS.sto (i := k4.toNat) (z := 0) hAf (by show 0 ≤ 0 ∧ (0 = 0 ∨ 0 < vb6 66); omega)
                                                    refine x_iinc (z := k4) (j := 0) (lv2 := [(8, .int (iI (k4 + (-1)))), (4, .int (iI (tr2 + 1))), (7, .int (iI g)), (6, .int (iI m2)), (5, .ref bb), (0, .ref h0), (1, .int (iI t)), (2, .int (iI n1)), (3, .int (iI m1))]) C dX12_unreadable_288 rfl (by decide) rfl ?_
                                                    refine x_goto (tgt := 263) C dX12_unreadable_291 (by decide) ?_
                                                    refine x_lv (lv2 := [(8, .int (iI (k4 + (-1)))), (4, .int (iI (tr2 + 1))), (7, .int (iI g)), (6, .int (iI m2)), (5, .ref bb), (0, .ref h0), (1, .int (iI t)), (2, .int (iI n1)), (3, .int (iI m1))]) [0, 1, 2, 3, 4, 5, 6, 7, 8] rfl ?_
                                                    exact ih6  (k4 + (-1)) _ _ (by omega) bq4 fq12 (by omega) pw18 pw19 (by show 0 < (vb6 66); omega)
                                            refine hv2 (show 0 ≤ vh10 66 ∧ vh10 66 ≤ 256 from bn8.1 66) (show vh10 66 = vb5 66 from fn8.1 66 rfl) (fun rv8 ve4 => ?_)
                                            refine x_lv (lv2 := [(8, .int (iI (m2 - 1))), (4, .int (iI (tr2 + 1))), (7, .int (iI g)), (6, .int (iI m2)), (5, .ref bb), (0, .ref h0), (1, .int (iI t)), (2, .int (iI n1)), (3, .int (iI m1))]) [0, 1, 2, 3, 4, 5, 6, 7, 8] rfl ?_
                                            exact Lp6 8 (m2 - 1) _ _ (by omega) bn8 fq10 (by omega) pw14 pw15 (by show 0 < (vh10 66); omega)
                                          · replace gf8 := (gf8.resolve_left c9)
                                            refine x_aload_n (j := 5) C dX12_unreadable_214 rfl ?_
                                            refine x_iload (j := 3) C dX12_unreadable_215 rfl ?_
                                            refine x_put (k := 52) (z := m2) C dX12_unreadable_217 w6_111 (by decide) rfl rfl rfl ?_
                                            refine hv3 (show BX (va_up vh10 52 m2) ah10 from bn8.put (k := 52) (z := m2) (show 0 ≤ m2 ∧ m2 ≤ 4000 by omega)) (fq10.put (k := 52) (z := m2) rfl) (show ATS (va_up vh10 52 m2) ah10 from ATS.put pw15 (k := 52) (z := m2) (by decide)) (fun bq5 fq13 pw20 => ?_)
                                            refine x_iconst C dX12_unreadable_220 ?_
                                            refine x_istore (lv2 := [(8, .int (iI 0)), (4, .int (iI (tr2 + 1))), (7, .int (iI g)), (6, .int (iI m2)), (5, .ref bb), (0, .ref h0), (1, .int (iI t)), (2, .int (iI n1)), (3, .int (iI m1))]) C dX12_unreadable_221 (by decide) rfl ?_
                                            have Lp7 : ∀ (nn : Nat) (k3 : Int) (vb7 : Nat → Int) (ab7 : Nat → Nat → Int), 7 - k3 < (nn : Int) → BX vb7 ab7 → fr [0, 1, 23, 25, 28, 50, 52, 53, 55, 66] [20, 24, 26, 27, 44, 45, 46, 47, 48, 49, 51, 54, 65, 70] v a vb7 ab7 → (0 ≤ k3 ∧ k3 ≤ m2) → (RWS ab7) → mx p l e (rmq 67 2 262) s m args below meth c G A 9 (MQ below (Qm G A (fun rq Lq Eq => ∃ (vq : Nat → Int) (aq : Nat → Nat → Int), mI G h0 ad ln vq aq Lq Eq ∧ (fun r v2 a2 => ∃ f : Int, r = some (.int (iI f)) ∧ fr [0, 1, 23, 25, 28, 50, 52, 53, 55, 66] [20, 24, 26, 27, 44, 45, 46, 47, 48, 49, 51, 54, 65, 70] v a v2 a2 ∧ BX v2 a2 ∧ (RWS a2)) rq vq aq)) args s 2 262 A) bb 6 false h0 ad ln vb7 ab7 ((0 + 1) + 1) ((0 + 256) + 6) 223 [(8, .int (iI k3)), (4, .int (iI (tr2 + 1))), (7, .int (iI g)), (6, .int (iI m2)), (5, .ref bb), (0, .ref h0), (1, .int (iI t)), (2, .int (iI n1)), (3, .int (iI m1))] [] := by
                                              intro nn
                                              induction nn with
                                              | zero =>
                                                intro k3 vb7 ab7 hm bxb7 fpb7 hk3 hRg
                                                exact absurd hm (by omega)
                                              | succ nn ih7 =>
                                                intro k3 vb7 ab7 hm bxb7 fpb7 hk3 hRg
                                                refine x_iload (j := 0) C dX12_unreadable_223 rfl ?_
                                                refine x_iload (j := 3) C dX12_unreadable_225 rfl ?_
                                                refine x_icmp_ge (tgt := 250) C ⟨by omega, by omega⟩ ⟨by omega, by omega⟩ dX12_unreadable_227 (by decide) (fun c12 => ?_) (fun c12 => ?_)
                                                · refine x_aload_n (j := 5) C dX12_unreadable_250 rfl ?_
                                                  refine x_iload (j := 3) C dX12_unreadable_251 rfl ?_
                                                  refine x_call (mc2 := 0) (ms2 := 0) (As := [.int (iI m2)]) (rest := []) C (B_fine (x := m2) bxb7 (by show -2147483648 ≤ m2 ∧ m2 ≤ 2147483647; omega)) (fun _ _ _ q => by first | exact q.2.1.2 70 rfl | (obtain ⟨_, _, q2, _⟩ := q; exact q2.2 70 rfl)) dX12_unreadable_253 kV_X12_158 rfl ck_13 rfl (Nat.le_of_ble_eq_true rfl) ⟨Nat.le_of_ble_eq_true rfl, Nat.le_of_ble_eq_true rfl⟩ ⟨Nat.le_of_ble_eq_true rfl, Nat.le_of_ble_eq_true rfl⟩ (fun rh11 vh11 ah11 h11 => ?_)
                                                  obtain ⟨f9, rfl, fn9, bn9, ex9⟩ := h11
                                                  refine hv3 (fpb7.call fn9 rfl rfl) (show RWS ah11 from RWS.fr hRg fn9 rfl) (show f9 = m2 from ex9) (fun fq14 pw21 gf9 => ?_)
                                                  refine x_st (st2 := [.int (iI f9)]) rfl ?_
                                                  exact x_iret C dX12_unreadable_256 rfl (Nat.le_of_ble_eq_true rfl) (Nat.le_of_ble_eq_true rfl) ⟨f9, rfl, fq14, bn9, pw21⟩
                                                · refine x_aload_n (j := 5) C dX12_unreadable_230 rfl ?_
                                                  refine x_geta (k := 51) C dX12_unreadable_231 w6_110 (by decide) rfl ?_
                                                  refine x_iload (j := 0) C dX12_unreadable_234 rfl ?_
                                                  refine x_aload_n (j := 5) C dX12_unreadable_236 rfl ?_
                                                  refine x_geta (k := 20) C dX12_unreadable_237 w6_79 (by decide) rfl ?_
                                                  refine x_iload (j := 0) C dX12_unreadable_240 rfl ?_
                                                  refine x_ald (k := 20) C dX12_unreadable_242 rfl rfl (by decide) (by omega) (by show _ < ((_ : Nat) : Int); simp only [mlen]; omega) (by decide) ?_
                                                  have ra2 : (-2147483648) ≤ ab7 20 k3.toNat ∧ ab7 20 k3.toNat ≤ 2147483647 := bxb7.2 20 (k3.toNat)
                                                  refine x_ast (k := 51) C dX12_unreadable_243 rfl rfl (by decide) (by omega) (by show _ < ((_ : Nat) : Int); simp only [mlen]; omega) (by decide) ?_
                                                  refine hv3 (show BX vb7 (up2 ab7 51 k3.toNat (ab7 20 k3.toNat)) from bxb7.set (k := 51) (i := k3.toNat) (z := ab7 20 k3.toNat) (show (-2147483648) ≤ (ab7 20 k3.toNat) ∧ (ab7 20 k3.toNat) ≤ 2147483647 by omega)) (fpb7.set (k := 51) (i := k3.toNat) (z := ab7 20 k3.toNat) rfl) (show RWS (up2 ab7 51 k3.toNat (ab7 20 k3.toNat)) from RWS.set hRg (k := 51) (i := k3.toNat) (z := ab7 20 k3.toNat) rfl) (fun bq6 fq15 pw22 => ?_)
                                                  refine x_iinc (z := k3) (j := 0) (lv2 := [(8, .int (iI (k3 + 1))), (4, .int (iI (tr2 + 1))), (7, .int (iI g)), (6, .int (iI m2)), (5, .ref bb), (0, .ref h0), (1, .int (iI t)), (2, .int (iI n1)), (3, .int (iI m1))]) C dX12_unreadable_244 rfl (by decide) rfl ?_
                                                  refine x_goto (tgt := 223) C dX12_unreadable_247 (by decide) ?_
                                                  refine x_lv (lv2 := [(8, .int (iI (k3 + 1))), (4, .int (iI (tr2 + 1))), (7, .int (iI g)), (6, .int (iI m2)), (5, .ref bb), (0, .ref h0), (1, .int (iI t)), (2, .int (iI n1)), (3, .int (iI m1))]) [0, 1, 2, 3, 4, 5, 6, 7, 8] rfl ?_
                                                  exact ih7  (k3 + 1) _ _ (by omega) bq6 fq15 (by omega) pw22
                                            refine x_lv (lv2 := [(8, .int (iI 0)), (4, .int (iI (tr2 + 1))), (7, .int (iI g)), (6, .int (iI m2)), (5, .ref bb), (0, .ref h0), (1, .int (iI t)), (2, .int (iI n1)), (3, .int (iI m1))]) [0, 1, 2, 3, 4, 5, 6, 7, 8] rfl ?_
                                            exact Lp7 8 0 _ _ (by omega) bq5 fq13 (by omega) pw14
                                        · refine x_aload_n (j := 5) C dX12_unreadable_183 rfl ?_
                                          refine x_geta (k := 20) C dX12_unreadable_184 w6_79 (by decide) rfl ?_
                                          refine x_iload (j := 0) C dX12_unreadable_187 rfl ?_
                                          refine x_aload_n (j := 5) C dX12_unreadable_189 rfl ?_
                                          refine x_geta (k := 65) C dX12_unreadable_190 w6_124 (by decide) rfl ?_
                                          refine x_aload (j := 4) C dX12_unreadable_193 rfl ?_
                                          refine x_iload (j := 0) C dX12_unreadable_195 rfl ?_
                                          refine x_lald C dX12_unreadable_197 rfl (by omega) (by omega) (by decide) ?_
                                          refine hv3 (show (-2147483648) ≤ ab5 70 k2.toNat ∧ ab5 70 k2.toNat ≤ 2147483647 from bxb5.2 70 (k2.toNat)) (show 0 ≤ vb5 66 ∧ vb5 66 ≤ 256 from bxb5.1 66) (show 0 ≤ ab5 70 k2.toNat ∧ (ab5 70 k2.toNat = 0 ∨ ab5 70 k2.toNat < vb5 66) from hAe (k2.toNat)) (fun ra3 rv9 at197 => ?_)
                                          refine x_ald (k := 65) C dX12_unreadable_198 rfl rfl (by decide) (by omega) (by show _ < ((_ : Nat) : Int); simp only [mlen]; omega) (by decide) ?_
                                          have ra4 : 0 ≤ ab5 65 (ab5 70 k2.toNat).toNat ∧ ab5 65 (ab5 70 k2.toNat).toNat ≤ 255 := bxb5.2 65 ((ab5 70 k2.toNat).toNat)
                                          refine x_ast (k := 20) C dX12_unreadable_199 rfl rfl (by decide) (by omega) (by show _ < ((_ : Nat) : Int); simp only [mlen]; omega) (by decide) ?_
                                          refine hv4 (show BX vb5 (up2 ab5 20 k2.toNat (ab5 65 (ab5 70 k2.toNat).toNat)) from bxb5.set (k := 20) (i := k2.toNat) (z := ab5 65 (ab5 70 k2.toNat).toNat) (show (-2147483648) ≤ (ab5 65 (ab5 70 k2.toNat).toNat) ∧ (ab5 65 (ab5 70 k2.toNat).toNat) ≤ 2147483647 by omega)) (fpb5.set (k := 20) (i := k2.toNat) (z := ab5 65 (ab5 70 k2.toNat).toNat) rfl) (show RWS (up2 ab5 20 k2.toNat (ab5 65 (ab5 70 k2.toNat).toNat)) from RWS.set hRe (k := 20) (i := k2.toNat) (z := ab5 65 (ab5 70 k2.toNat).toNat) rfl) (show ATS vb5 (up2 ab5 20 k2.toNat (ab5 65 (ab5 70 k2.toNat).toNat)) from ATS.set hAe (k := 20) (i := k2.toNat) (z := ab5 65 (ab5 70 k2.toNat).toNat) (by decide)) (fun bq7 fq16 pw23 pw24 => ?_)
                                          refine x_iinc (z := k2) (j := 0) (lv2 := [(8, .int (iI (k2 + 1))), (4, .int (iI (tr2 + 1))), (7, .int (iI g)), (6, .int (iI m2)), (5, .ref bb), (0, .ref h0), (1, .int (iI t)), (2, .int (iI n1)), (3, .int (iI m1))]) C dX12_unreadable_200 rfl (by decide) rfl ?_
                                          refine x_goto (tgt := 176) C dX12_unreadable_203 (by decide) ?_
                                          refine x_lv (lv2 := [(8, .int (iI (k2 + 1))), (4, .int (iI (tr2 + 1))), (7, .int (iI g)), (6, .int (iI m2)), (5, .ref bb), (0, .ref h0), (1, .int (iI t)), (2, .int (iI n1)), (3, .int (iI m1))]) [0, 1, 2, 3, 4, 5, 6, 7, 8] rfl ?_
                                          exact ih5  (k2 + 1) _ _ (by omega) bq7 fq16 (by omega) pw23 pw24 (by show 0 < (vb5 66); omega)
                                    have rv10 : 0 ≤ vb4 66 ∧ vb4 66 ≤ 256 := bq2.1 66
                                    refine x_lv (lv2 := [(8, .int (iI 0)), (4, .int (iI (tr2 + 1))), (7, .int (iI g)), (6, .int (iI m2)), (5, .ref bb), (0, .ref h0), (1, .int (iI t)), (2, .int (iI n1)), (3, .int (iI m1))]) [0, 1, 2, 3, 4, 5, 6, 7, 8] rfl ?_
                                    exact Lp5 8 0 _ _ (by omega) bq2 fq9 (by omega) hRd pw13 (by show 0 < (vb4 66); omega)
                                  · refine x_aload_n (j := 4) C dX12_unreadable_153 rfl ?_
                                    refine x_call (mc2 := 0) (ms2 := 0) (As := []) (rest := []) C (B_putBack  bxb4 ) (fun _ _ _ q => by first | exact q.2.1.2 70 rfl | (obtain ⟨_, _, q2, _⟩ := q; exact q2.2 70 rfl)) dX12_unreadable_154 kV_X12_422 rfl ck_13 rfl (Nat.le_of_ble_eq_true rfl) ⟨Nat.le_of_ble_eq_true rfl, Nat.le_of_ble_eq_true rfl⟩ ⟨Nat.le_of_ble_eq_true rfl, Nat.le_of_ble_eq_true rfl⟩ (fun rh12 vh12 ah12 h12 => ?_)
                                    obtain ⟨rfl, fn10, bn10, ex10⟩ := h12
                                    refine hv3 (fpb4.call fn10 rfl rfl) (show RWS ah12 from RWS.fr hRd fn10 rfl) (show ATS vh12 ah12 from ATS.fr hAd fn10 rfl rfl) (fun fq17 pw25 pw26 => ?_)
                                    refine x_st (st2 := []) rfl ?_
                                    refine x_aload_n (j := 4) C dX12_unreadable_157 rfl ?_
                                    refine x_bipush (z := 8) C dX12_unreadable_158 (by decide) ?_
                                    refine x_call (mc2 := 0) (ms2 := 0) (As := [.int (iI 8)]) (rest := []) C (B_bad (x := 8) bn10 (by show -2147483648 ≤ (8 : Int) ∧ (8 : Int) ≤ 2147483647; omega)) (fun _ _ _ q => by first | exact q.2.1.2 70 rfl | (obtain ⟨_, _, q2, _⟩ := q; exact q2.2 70 rfl)) dX12_unreadable_160 kV_X12_154 rfl ck_13 rfl (Nat.le_of_ble_eq_true rfl) ⟨Nat.le_of_ble_eq_true rfl, Nat.le_of_ble_eq_true rfl⟩ ⟨Nat.le_of_ble_eq_true rfl, Nat.le_of_ble_eq_true rfl⟩ (fun rh13 vh13 ah13 h13 => ?_)
                                    obtain ⟨f11, rfl, fn11, bn11, ex11⟩ := h13
                                    refine hv4 (fq17.call fn11 rfl rfl) (show RWS ah13 from RWS.fr pw25 fn11 rfl) (show ATS vh13 ah13 from ATS.fr pw26 fn11 rfl rfl) (show f11 = -1 from ex11) (fun fq18 pw27 pw28 gf11 => ?_)
                                    refine x_st (st2 := [.int (iI f11)]) rfl ?_
                                    exact x_iret C dX12_unreadable_163 rfl (Nat.le_of_ble_eq_true rfl) (Nat.le_of_ble_eq_true rfl) ⟨f11, rfl, fq18, bn11, pw27⟩
                            have rv11 : 0 ≤ vb3 66 ∧ vb3 66 ≤ 256 := bxb3.1 66
                            refine x_lv (lv2 := [(7, .int (iI 1)), (4, .int (iI tr)), (6, .int (iI m2)), (5, .ref bb), (0, .ref h0), (1, .int (iI t)), (2, .int (iI n1)), (3, .int (iI m1))]) [0, 2, 1, 3, 4, 5, 6, 7] rfl ?_
                            exact Lp4 5002 1 tr _ _ (by omega) bxb3 fpb3 (by omega) (by omega) hRc hAc (by show 0 < (vb3 66); omega)
                          · refine x_aload (j := 3) C dX12_unreadable_127 rfl ?_
                            refine x_iload (j := 0) C dX12_unreadable_129 rfl ?_
                            refine x_iconst C dX12_unreadable_131 ?_
                            refine x_last (w := 0) C dX12_unreadable_132 rfl (by omega) (by omega) (by decide) ?_
                            refine hv3 (show BX vb3 (up2 ab3 70 k1.toNat 0) from bxb3.set (k := 70) (i := k1.toNat) (z := 0) ⟨by decide, by decide⟩) (fpb3.set (k := 70) (i := k1.toNat) (z := 0) rfl) (show RWS (up2 ab3 70 k1.toNat 0) from RWS.set hRc (k := 70) (i := k1.toNat) (z := 0) rfl) (fun bq8 fq19 pw29 => ?_)
                            have rv12 : 0 ≤ vb3 66 ∧ vb3 66 ≤ 256 := bq8.1 66
                            have pw30 : ATS vb3 (up2 ab3 70 k1.toNat 0) := ATS.sto (i := k1.toNat) (z := 0) hAc (by show 0 ≤ 0 ∧ (0 = 0 ∨ 0 < vb3 66); omega)
                            refine x_iinc (z := k1) (j := 0) (lv2 := [(7, .int (iI (k1 + 1))), (6, .int (iI m2)), (4, .int (iI tr)), (5, .ref bb), (0, .ref h0), (1, .int (iI t)), (2, .int (iI n1)), (3, .int (iI m1))]) C dX12_unreadable_133 rfl (by decide) rfl ?_
                            refine x_goto (tgt := 120) C dX12_unreadable_136 (by decide) ?_
                            refine x_lv (lv2 := [(7, .int (iI (k1 + 1))), (6, .int (iI m2)), (4, .int (iI tr)), (5, .ref bb), (0, .ref h0), (1, .int (iI t)), (2, .int (iI n1)), (3, .int (iI m1))]) [0, 1, 2, 3, 4, 5, 6, 7] rfl ?_
                            exact ih3  (k1 + 1) _ _ (by omega) bq8 fq19 (by omega) pw29 pw30 (by show 0 < (vb3 66); omega)
                      refine x_lv (lv2 := [(7, .int (iI 0)), (6, .int (iI m2)), (4, .int (iI tr)), (5, .ref bb), (0, .ref h0), (1, .int (iI t)), (2, .int (iI n1)), (3, .int (iI m1))]) [0, 1, 2, 3, 4, 5, 6, 7] rfl ?_
                      exact Lp3 8 0 _ _ (by omega) bxb2 fpb2 (by omega) hRb hAb (by show 0 < (vb2 66); omega)
              refine x_lv (lv2 := [(6, .int (iI 1)), (4, .int (iI 0)), (5, .ref bb), (0, .ref h0), (1, .int (iI t)), (2, .int (iI n1)), (3, .int (iI m1))]) [0, 2, 1, 3, 4, 5, 6] rfl ?_
              exact Lp2 9 0 1 _ _ (by omega) bnw1 fqw1 (by omega) (by omega) pw3 pw4
            · refine m_aload_n (j := 1) C dX12_unreadable_72 rfl ?_
              refine m_geta (k := 54) C dX12_unreadable_73 w6_113 (by decide) rfl ?_
              refine m_iload (j := 0) C dX12_unreadable_76 rfl ?_
              refine m_aload_n (j := 1) C dX12_unreadable_78 rfl ?_
              refine m_geta (k := 51) C dX12_unreadable_79 w6_110 (by decide) rfl ?_
              refine m_iload (j := 0) C dX12_unreadable_82 rfl ?_
              refine m_ald (k := 51) C dX12_unreadable_84 rfl rfl (by decide) (by omega) (by show _ < ((_ : Nat) : Int); simp only [mlen]; omega) (by decide) ?_
              have ra5 : (-2147483648) ≤ ab1 51 k.toNat ∧ ab1 51 k.toNat ≤ 2147483647 := bxb1.2 51 (k.toNat)
              refine m_ast (k := 54) C dX12_unreadable_85 rfl rfl (by decide) (by omega) (by show _ < ((_ : Nat) : Int); simp only [mlen]; omega) (by decide) ?_
              refine hv3 (show BX vb1 (up2 ab1 54 k.toNat (ab1 51 k.toNat)) from bxb1.set (k := 54) (i := k.toNat) (z := ab1 51 k.toNat) (show (-2147483648) ≤ (ab1 51 k.toNat) ∧ (ab1 51 k.toNat) ≤ 2147483647 by omega)) (fpb1.set (k := 54) (i := k.toNat) (z := ab1 51 k.toNat) rfl) (show RWS (up2 ab1 54 k.toNat (ab1 51 k.toNat)) from RWS.set hRa (k := 54) (i := k.toNat) (z := ab1 51 k.toNat) rfl) (fun bq9 fq20 pw31 => ?_)
              refine m_iinc (z := k) (j := 0) (lv2 := [(4, .int (iI (k + 1))), (0, .ref h0), (1, .int (iI t)), (2, .int (iI n1)), (3, .int (iI m1))]) C dX12_unreadable_86 rfl (by decide) rfl ?_
              refine m_goto (tgt := 63) C dX12_unreadable_89 (by decide) ?_
              refine m_lv (lv2 := [(4, .int (iI (k + 1))), (0, .ref h0), (1, .int (iI t)), (2, .int (iI n1)), (3, .int (iI m1))]) [0, 1, 2, 3, 4] rfl ?_
              exact ih1  (k + 1) _ _ (by omega) bq9 fq20 (by omega) pw31
        refine m_lv (lv2 := [(4, .int (iI 0)), (0, .ref h0), (1, .int (iI t)), (2, .int (iI n1)), (3, .int (iI m1))]) [0, 1, 2, 3, 4] rfl ?_
        exact Lp1 4002 0 _ _ (by omega) bq1 fq4 (by omega) pw2
      · clear gf1
        refine m_aload_n (j := 0) C dX12_unreadable_36 rfl ?_
        refine m_iconst C dX12_unreadable_37 ?_
        refine m_call (mc2 := 0) (ms2 := 0) (As := [.int (iI 3)]) (rest := []) C (B_bad (x := 3) hB (by show -2147483648 ≤ (3 : Int) ∧ (3 : Int) ≤ 2147483647; omega)) dX12_unreadable_38 kV_X12_154 rfl ck_13 rfl (Nat.le_of_ble_eq_true rfl) ⟨Nat.le_of_ble_eq_true rfl, Nat.le_of_ble_eq_true rfl⟩ ⟨Nat.le_of_ble_eq_true rfl, Nat.le_of_ble_eq_true rfl⟩ (fun rh14 vh14 ah14 h14 => ?_)
        obtain ⟨f12, rfl, fn12, bn12, ex12⟩ := h14
        refine hv3 (fp0.call fn12 rfl rfl) (show RWS ah14 from RWS.fr hW fn12 rfl) (show f12 = -1 from ex12) (fun fq21 pw32 gf12 => ?_)
        refine m_st (st2 := [.int (iI f12)]) rfl ?_
        exact m_iret C dX12_unreadable_41 rfl (Nat.le_of_ble_eq_true rfl) (Nat.le_of_ble_eq_true rfl) ⟨f12, rfl, fq21, bn12, pw32⟩
    · refine m_st (st2 := [.int (iI 0)]) (by rw [h2e]) ?_
      refine m_if_ne (tgt := 28) C ⟨by decide, by decide⟩ dX12_unreadable_18 (by decide) (fun z => absurd z (by omega)) (fun _ => ?_)
      refine m_aload_n (j := 0) C dX12_unreadable_21 rfl ?_
      refine m_bipush (z := 6) C dX12_unreadable_22 (by decide) ?_
      refine m_call (mc2 := 0) (ms2 := 0) (As := [.int (iI 6)]) (rest := []) C (B_bad (x := 6) hB (by show -2147483648 ≤ (6 : Int) ∧ (6 : Int) ≤ 2147483647; omega)) dX12_unreadable_24 kV_X12_154 rfl ck_13 rfl (Nat.le_of_ble_eq_true rfl) ⟨Nat.le_of_ble_eq_true rfl, Nat.le_of_ble_eq_true rfl⟩ ⟨Nat.le_of_ble_eq_true rfl, Nat.le_of_ble_eq_true rfl⟩ (fun rh15 vh15 ah15 h15 => ?_)
      obtain ⟨f13, rfl, fn13, bn13, ex13⟩ := h15
      refine hv3 (fp0.call fn13 rfl rfl) (show RWS ah15 from RWS.fr hW fn13 rfl) (show f13 = -1 from ex13) (fun fq22 pw33 gf13 => ?_)
      refine m_st (st2 := [.int (iI f13)]) rfl ?_
      exact m_iret C dX12_unreadable_27 rfl (Nat.le_of_ble_eq_true rfl) (Nat.le_of_ble_eq_true rfl) ⟨f13, rfl, fq22, bn13, pw33⟩
  · refine m_st (st2 := [.int (iI 0)]) (by rw [h1e]) ?_
    refine m_if_eq (tgt := 21) C ⟨by decide, by decide⟩ dX12_unreadable_7 (by decide) (fun _ => ?_) (fun z => absurd z (by omega))
    refine m_aload_n (j := 0) C dX12_unreadable_21 rfl ?_
    refine m_bipush (z := 6) C dX12_unreadable_22 (by decide) ?_
    refine m_call (mc2 := 0) (ms2 := 0) (As := [.int (iI 6)]) (rest := []) C (B_bad (x := 6) hB (by show -2147483648 ≤ (6 : Int) ∧ (6 : Int) ≤ 2147483647; omega)) dX12_unreadable_24 kV_X12_154 rfl ck_13 rfl (Nat.le_of_ble_eq_true rfl) ⟨Nat.le_of_ble_eq_true rfl, Nat.le_of_ble_eq_true rfl⟩ ⟨Nat.le_of_ble_eq_true rfl, Nat.le_of_ble_eq_true rfl⟩ (fun rh16 vh16 ah16 h16 => ?_)
    obtain ⟨f14, rfl, fn14, bn14, ex14⟩ := h16
    refine hv3 (fp0.call fn14 rfl rfl) (show RWS ah16 from RWS.fr hW fn14 rfl) (show f14 = -1 from ex14) (fun fq23 pw34 gf14 => ?_)
    refine m_st (st2 := [.int (iI f14)]) rfl ?_
    exact m_iret C dX12_unreadable_27 rfl (Nat.le_of_ble_eq_true rfl) (Nat.le_of_ble_eq_true rfl) ⟨f14, rfl, fq23, bn14, pw34⟩
end
section
def fdv (m : Int32) (d x : Int) : Int32 := if x = 0 then m &&& ((iI 1 <<< (iI d &&& 31)) ^^^ iI (-1)) else m ||| (iI 1 <<< (iI d &&& 31))
set_option maxHeartbeats 4000000 in
set_option maxRecDepth 100000 in
theorem N_failed {l : Launch} {G : GT} {h0 : Nat} {ad ln : Nat → Nat} {v : Nat → Int} {a : Nat → Nat → Int}  {x g : Int} (hB : BX v a) (hx : -2147483648 ≤ x ∧ x ≤ 2147483647) (hg : g = 0 ∨ g = 1) : Mm l G yX12_failed cX12_failed 3 (some .int) 1 [.int (iI x), .int (iI g)] h0 ad ln v a 0 0 (fun r v2 a2 => ∃ f : Int, r = some (.int (iI f)) ∧ fr [0, 1, 56] [] v a v2 a2 ∧ BX v2 a2 ∧ (((x < 0 ∨ 7 < x) ∧ f = -1 ∧ v2 56 = v 56) ∨ (0 ≤ x ∧ x ≤ 7 ∧ iI (v2 56) = fdv (iI (v 56)) x g ∧ iI f = bcn (iI (v2 56))))) := by
  refine Mm.mk (by decide) (Nat.le_of_ble_eq_true rfl) ?_
  intro p e s m args below meth c A C
  have fp0 : fr [0, 1, 56] [] v a v a := fr.refl
  refine m_iload_n (j := 1) C dX12_failed_0 rfl ?_
  refine m_iconst C dX12_failed_1 ?_
  refine m_bipush (z := 7) C dX12_failed_2 (by decide) ?_
  refine m_callS (As := [.int (iI x), .int (iI 0), .int (iI 7)]) (rest := []) C (fun L E => s_isIn (iI x) (iI 0) (iI 7)) dX12_failed_4 kS_X12_174 rfl rfl (Nat.le_of_ble_eq_true rfl) ⟨Nat.le_of_ble_eq_true rfl, Nat.le_of_ble_eq_true rfl⟩ ⟨Nat.le_of_ble_eq_true rfl, Nat.le_of_ble_eq_true rfl⟩ ?_
  rcases inn_c (x := x) (lo := 0) (hi := 7) ⟨by omega, by omega⟩ ⟨by decide, by decide⟩ ⟨by decide, by decide⟩ with ⟨h1a, h1b, h1e⟩ | ⟨h1a, h1e⟩
  · refine m_st (st2 := [.int (iI 1)]) (by rw [h1e]) ?_
    refine m_if_ne (tgt := 17) C ⟨by decide, by decide⟩ dX12_failed_7 (by decide) (fun _ => ?_) (fun z => absurd z (by omega))
    refine m_aload_n (j := 0) C dX12_failed_17 rfl ?_
    refine m_iload_n (j := 2) C dX12_failed_18 rfl ?_
    refine m_if_eq (tgt := 33) C ⟨by omega, by omega⟩ dX12_failed_19 (by decide) (fun c1 => ?_) (fun c1 => ?_)
    · refine m_aload_n (j := 0) C dX12_failed_33 rfl ?_
      have rv1 : (-2147483648) ≤ v 56 ∧ v 56 ≤ 2147483647 := hB.1 56
      refine m_get (k := 56) C dX12_failed_34 w6_115 (by decide) rfl ?_
      refine m_iconst C dX12_failed_37 ?_
      refine m_iload_n (j := 1) C dX12_failed_38 rfl ?_
      obtain ⟨zz1, hzz1, ezz1⟩ := iI_of (iI 1 <<< (iI x &&& 31))
      refine m_ishl (w := iI zz1) C dX12_failed_39 ezz1 ?_
      refine m_iconst C dX12_failed_40 ?_
      obtain ⟨zz2, hzz2, ezz2⟩ := iI_of (iI zz1 ^^^ iI (-1))
      refine m_ixor (w := iI zz2) C dX12_failed_41 ezz2 ?_
      obtain ⟨zz3, hzz3, ezz3⟩ := iI_of (iI (v 56) &&& iI zz2)
      refine m_iand (w := iI zz3) C dX12_failed_42 ezz3 ?_
      refine m_put (k := 56) (z := zz3) C dX12_failed_43 w6_115 (by decide) rfl rfl rfl ?_
      refine hv2 (show BX (va_up v 56 zz3) a from hB.put (k := 56) (z := zz3) (show (-2147483648) ≤ zz3 ∧ zz3 ≤ 2147483647 by omega)) (fp0.put (k := 56) (z := zz3) rfl) (fun bq1 fq1 => ?_)
      refine m_aload_n (j := 0) C dX12_failed_46 rfl ?_
      refine m_aload_n (j := 0) C dX12_failed_47 rfl ?_
      refine m_get (k := 56) C dX12_failed_48 w6_115 (by decide) rfl ?_
      refine m_st (st2 := [.int (iI zz3), .ref h0]) rfl ?_
      refine m_callS (As := [.int (iI zz3)]) (rest := [.ref h0]) C (fun L E => s_bitCount (iI zz3)) dX12_failed_51 kS_X12_309 rfl rfl (Nat.le_of_ble_eq_true rfl) ⟨Nat.le_of_ble_eq_true rfl, Nat.le_of_ble_eq_true rfl⟩ ⟨Nat.le_of_ble_eq_true rfl, Nat.le_of_ble_eq_true rfl⟩ ?_
      obtain ⟨zz4, hzz4, ezz4⟩ := iI_of (bcn (iI zz3))
      · refine m_st (st2 := [.int (iI zz4), .ref h0]) (by rw [ezz4]) ?_
        refine m_call (mc2 := 0) (ms2 := 0) (As := [.int (iI zz4)]) (rest := []) C (B_fine (x := zz4) bq1 (by show -2147483648 ≤ zz4 ∧ zz4 ≤ 2147483647; omega)) dX12_failed_54 kV_X12_158 rfl ck_13 rfl (Nat.le_of_ble_eq_true rfl) ⟨Nat.le_of_ble_eq_true rfl, Nat.le_of_ble_eq_true rfl⟩ ⟨Nat.le_of_ble_eq_true rfl, Nat.le_of_ble_eq_true rfl⟩ (fun rh3 vh3 ah3 h3 => ?_)
        obtain ⟨f1, rfl, fn1, bn1, ex1⟩ := h3
        refine hv2 (fq1.call fn1 rfl rfl) (show f1 = zz4 from ex1) (fun fq2 gf1 => ?_)
        refine m_st (st2 := [.int (iI f1)]) rfl ?_
        refine hv2 (show (-2147483648) ≤ vh3 56 ∧ vh3 56 ≤ 2147483647 from bn1.1 56) (show vh3 56 = zz3 from fn1.1 56 rfl) (fun rv2 ve1 => ?_)
        exact m_iret C dX12_failed_57 rfl (Nat.le_of_ble_eq_true rfl) (Nat.le_of_ble_eq_true rfl) ⟨f1, rfl, fq2, bn1, (Or.inr ⟨by omega, by omega, by rw [show vh3 56 = zz3 by omega]; unfold fdv; rw [if_pos (show g = 0 by omega), ← ezz3, ← ezz2, ← ezz1], by rw [show f1 = zz4 by omega, ← ezz4]; exact congrArg (fun q => bcn (iI q)) (by omega)⟩)⟩
    · refine m_aload_n (j := 0) C dX12_failed_22 rfl ?_
      have rv3 : (-2147483648) ≤ v 56 ∧ v 56 ≤ 2147483647 := hB.1 56
      refine m_get (k := 56) C dX12_failed_23 w6_115 (by decide) rfl ?_
      refine m_iconst C dX12_failed_26 ?_
      refine m_iload_n (j := 1) C dX12_failed_27 rfl ?_
      obtain ⟨zz5, hzz5, ezz5⟩ := iI_of (iI 1 <<< (iI x &&& 31))
      refine m_ishl (w := iI zz5) C dX12_failed_28 ezz5 ?_
      obtain ⟨zz6, hzz6, ezz6⟩ := iI_of (iI (v 56) ||| iI zz5)
      refine m_ior (w := iI zz6) C dX12_failed_29 ezz6 ?_
      refine m_goto (tgt := 43) C dX12_failed_30 (by decide) ?_
      refine m_put (k := 56) (z := zz6) C dX12_failed_43 w6_115 (by decide) rfl rfl rfl ?_
      refine hv2 (show BX (va_up v 56 zz6) a from hB.put (k := 56) (z := zz6) (show (-2147483648) ≤ zz6 ∧ zz6 ≤ 2147483647 by omega)) (fp0.put (k := 56) (z := zz6) rfl) (fun bq2 fq3 => ?_)
      refine m_aload_n (j := 0) C dX12_failed_46 rfl ?_
      refine m_aload_n (j := 0) C dX12_failed_47 rfl ?_
      refine m_get (k := 56) C dX12_failed_48 w6_115 (by decide) rfl ?_
      refine m_st (st2 := [.int (iI zz6), .ref h0]) rfl ?_
      refine m_callS (As := [.int (iI zz6)]) (rest := [.ref h0]) C (fun L E => s_bitCount (iI zz6)) dX12_failed_51 kS_X12_309 rfl rfl (Nat.le_of_ble_eq_true rfl) ⟨Nat.le_of_ble_eq_true rfl, Nat.le_of_ble_eq_true rfl⟩ ⟨Nat.le_of_ble_eq_true rfl, Nat.le_of_ble_eq_true rfl⟩ ?_
      obtain ⟨zz7, hzz7, ezz7⟩ := iI_of (bcn (iI zz6))
      · refine m_st (st2 := [.int (iI zz7), .ref h0]) (by rw [ezz7]) ?_
        refine m_call (mc2 := 0) (ms2 := 0) (As := [.int (iI zz7)]) (rest := []) C (B_fine (x := zz7) bq2 (by show -2147483648 ≤ zz7 ∧ zz7 ≤ 2147483647; omega)) dX12_failed_54 kV_X12_158 rfl ck_13 rfl (Nat.le_of_ble_eq_true rfl) ⟨Nat.le_of_ble_eq_true rfl, Nat.le_of_ble_eq_true rfl⟩ ⟨Nat.le_of_ble_eq_true rfl, Nat.le_of_ble_eq_true rfl⟩ (fun rh5 vh5 ah5 h5 => ?_)
        obtain ⟨f2, rfl, fn2, bn2, ex2⟩ := h5
        refine hv2 (fq3.call fn2 rfl rfl) (show f2 = zz7 from ex2) (fun fq4 gf2 => ?_)
        refine m_st (st2 := [.int (iI f2)]) rfl ?_
        refine hv2 (show (-2147483648) ≤ vh5 56 ∧ vh5 56 ≤ 2147483647 from bn2.1 56) (show vh5 56 = zz6 from fn2.1 56 rfl) (fun rv4 ve2 => ?_)
        exact m_iret C dX12_failed_57 rfl (Nat.le_of_ble_eq_true rfl) (Nat.le_of_ble_eq_true rfl) ⟨f2, rfl, fq4, bn2, (Or.inr ⟨by omega, by omega, by rw [show vh5 56 = zz6 by omega]; unfold fdv; rw [if_neg (show ¬ g = 0 by omega), ← ezz6, ← ezz5], by rw [show f2 = zz7 by omega, ← ezz7]; exact congrArg (fun q => bcn (iI q)) (by omega)⟩)⟩
  · refine m_st (st2 := [.int (iI 0)]) (by rw [h1e]) ?_
    refine m_if_ne (tgt := 17) C ⟨by decide, by decide⟩ dX12_failed_7 (by decide) (fun z => absurd z (by omega)) (fun _ => ?_)
    refine m_aload_n (j := 0) C dX12_failed_10 rfl ?_
    refine m_bipush (z := 6) C dX12_failed_11 (by decide) ?_
    refine m_call (mc2 := 0) (ms2 := 0) (As := [.int (iI 6)]) (rest := []) C (B_bad (x := 6) hB (by show -2147483648 ≤ (6 : Int) ∧ (6 : Int) ≤ 2147483647; omega)) dX12_failed_13 kV_X12_154 rfl ck_13 rfl (Nat.le_of_ble_eq_true rfl) ⟨Nat.le_of_ble_eq_true rfl, Nat.le_of_ble_eq_true rfl⟩ ⟨Nat.le_of_ble_eq_true rfl, Nat.le_of_ble_eq_true rfl⟩ (fun rh6 vh6 ah6 h6 => ?_)
    obtain ⟨f3, rfl, fn3, bn3, ex3⟩ := h6
    refine hv2 (fp0.call fn3 rfl rfl) (show f3 = -1 from ex3) (fun fq5 gf3 => ?_)
    refine m_st (st2 := [.int (iI f3)]) rfl ?_
    refine hv2 (show (-2147483648) ≤ vh6 56 ∧ vh6 56 ≤ 2147483647 from bn3.1 56) (show vh6 56 = v 56 from fn3.1 56 rfl) (fun rv5 ve3 => ?_)
    exact m_iret C dX12_failed_16 rfl (Nat.le_of_ble_eq_true rfl) (Nat.le_of_ble_eq_true rfl) ⟨f3, rfl, fq5, bn3, (Or.inl ⟨by omega, by omega, by omega⟩)⟩
end
section
def upc (r b : Nat → Int) : Nat → Int → Prop
  | 0, _ => True
  | n + 1, t => 0 ≤ t → r t.toNat = 1 ∧ upc r b n (b t.toNat)
def whl (v : Nat → Int) (a : Nat → Nat → Int) : Nat → Int → Prop
  | 0, _ => False
  | n + 1, t => (0 ≤ t ∧ t < v 4 ∧ a 5 t.toNat = 1) ∧ (a 6 t.toNat = 5 → whl v a n (a 8 t.toNat) ∧ whl v a n (a 9 t.toNat)) ∧ (1 ≤ a 6 t.toNat → a 6 t.toNat ≤ 3 → whl v a n (a 8 t.toNat))
def UPC (a : Nat → Nat → Int) (t : Int) : Prop := upc (a 5) (a 8) 31 t
def WHL (v : Nat → Int) (a : Nat → Nat → Int) (t : Int) : Prop := whl v a 31 t
def WHE (f : Int) (v : Nat → Int) (a : Nat → Nat → Int) (n : Nat) (t : Int) : Prop := f = 1 ↔ whl v a n t
section GATS
variable {v v2 : Nat → Int} {a a1 a2 a3 a4 : Nat → Nat → Int} {q x y z t b r d e w f f1 f2 k : Int} {n : Nat} {l : List Int}
theorem upc_s {r b : Nat → Int} (n : Nat) (t : Int) : upc r b (n + 1) t = (0 ≤ t → r t.toNat = 1 ∧ upc r b n (b t.toNat)) := rfl
theorem upc_fuel {r b : Nat → Int} {V : Int} (hb : ∀ t : Int, 0 ≤ t → t < V → b t.toNat < t) : ∀ (n m : Nat) (t : Int), t < V → t < (n : Int) → t < (m : Int) → (upc r b n t ↔ upc r b m t) := by
  intro n
  induction n with
  | zero =>
    intro m t h1 h2 h3
    cases m with
    | zero => exact Iff.rfl
    | succ m => rw [upc_s]; exact ⟨fun _ h => absurd h (by omega), fun _ => trivial⟩
  | succ n ih =>
    intro m t h1 h2 h3
    cases m with
    | zero => rw [upc_s]; exact ⟨fun _ => trivial, fun _ h => absurd h (by omega)⟩
    | succ m =>
      rw [upc_s, upc_s]
      refine ⟨fun h h0 => ?_, fun h h0 => ?_⟩
      · have h4 := hb t h0 h1
        exact ⟨(h h0).1, (ih m (b t.toNat) (by omega) (by omega) (by omega)).mp (h h0).2⟩
      · have h4 := hb t h0 h1
        exact ⟨(h h0).1, (ih m (b t.toNat) (by omega) (by omega) (by omega)).mpr (h h0).2⟩
theorem TBL.b8 (h : TBL v a) : ∀ t : Int, 0 ≤ t → t < v 4 → a 8 t.toNat < t := fun t h1 h2 => by
  have := h.1 t h1 h2
  omega
theorem UPC.s (h : TBL v a) (h30 : v 4 ≤ 30) (h0 : 0 ≤ t) (h4 : t < v 4) : UPC a t ↔ (a 5 t.toNat = 1 ∧ UPC a (a 8 t.toNat)) := by
  have h8 := h.b8 t h0 h4
  have e := upc_fuel (r := a 5) h.b8 30 31 (a 8 t.toNat) (by omega) (by omega) (by omega)
  show upc (a 5) (a 8) (30 + 1) t ↔ (a 5 t.toNat = 1 ∧ upc (a 5) (a 8) 31 (a 8 t.toNat))
  rw [← e, upc_s]
  exact ⟨fun h => h h0, fun h _ => h⟩
theorem UPC.neg0 (h0 : t < 0) : UPC a t := fun h => absurd h (by omega)
theorem whl_up (h : TBL v a) (h30 : v 4 ≤ 30) : ∀ (n : Nat) (t : Int), 0 ≤ t → t < v 4 → t < (n : Int) → a 6 t.toNat ≤ 4 → (whl v a n t ↔ UPC a t) := by
  intro n
  induction n with
  | zero => intro t h0 h4 hn; omega
  | succ n ih =>
    intro t h0 h4 hn h6
    have ht := h.1 t h0 h4
    rw [UPC.s h h30 h0 h4]
    show ((0 ≤ t ∧ t < v 4 ∧ a 5 t.toNat = 1) ∧ (a 6 t.toNat = 5 → whl v a n (a 8 t.toNat) ∧ whl v a n (a 9 t.toNat)) ∧ (1 ≤ a 6 t.toNat → a 6 t.toNat ≤ 3 → whl v a n (a 8 t.toNat))) ↔ _
    rcases ht with ⟨k1, k2⟩ | ⟨k1, k2, k3, k4, k5⟩ | ⟨k1, k2⟩
    · refine ⟨fun g => ⟨g.1.2.2, UPC.neg0 (by omega)⟩, fun g => ⟨⟨h0, h4, g.1⟩, fun e => absurd e (by omega), fun e1 e2 => absurd e1 (by omega)⟩⟩
    · have g1 := ih (a 8 t.toNat) k3 (by omega) (by omega) (by omega)
      exact ⟨fun g => ⟨g.1.2.2, g1.mp (g.2.2 k1 k2)⟩, fun g => ⟨⟨h0, h4, g.1⟩, fun e => absurd e (by omega), fun _ _ => g1.mpr g.2⟩⟩
    · exfalso; omega
theorem WHL.p (h : TBL v a) (h30 : v 4 ≤ 30) (h0 : 0 ≤ t) (h4 : t < v 4) (h6 : a 6 t.toNat ≠ 5) : WHL v a t ↔ UPC a t := by
  have ht := h.1 t h0 h4
  exact whl_up h h30 31 t h0 h4 (by omega) (by omega)
theorem WHL.j (h : TBL v a) (h30 : v 4 ≤ 30) (h0 : 0 ≤ t) (h4 : t < v 4) (h6 : a 6 t.toNat = 5) : WHL v a t ↔ (UPC a t ∧ UPC a (a 9 t.toNat)) := by
  have ht := h.1 t h0 h4
  rcases ht with ⟨k1, k2⟩ | ⟨k1, k2, k3, k4, k5⟩ | ⟨k1, k2, k3, k4, k5, k6, k7⟩
  · exfalso; omega
  · exfalso; omega
  · have g1 := whl_up h h30 30 (a 8 t.toNat) k2 (by omega) (by omega) (by omega)
    have g2 := whl_up h h30 30 (a 9 t.toNat) k5 (by omega) (by omega) (by omega)
    rw [UPC.s h h30 h0 h4]
    show ((0 ≤ t ∧ t < v 4 ∧ a 5 t.toNat = 1) ∧ (a 6 t.toNat = 5 → whl v a 30 (a 8 t.toNat) ∧ whl v a 30 (a 9 t.toNat)) ∧ (1 ≤ a 6 t.toNat → a 6 t.toNat ≤ 3 → whl v a 30 (a 8 t.toNat))) ↔ _
    exact ⟨fun g => ⟨⟨g.1.2.2, g1.mp (g.2.1 h6).1⟩, g2.mp (g.2.1 h6).2⟩, fun g => ⟨⟨h0, h4, g.1.1⟩, fun _ => ⟨g1.mpr g.1.2, g2.mpr g.2⟩, fun _ e => absurd e (by omega)⟩⟩
theorem WHL.tr (h : WHL v a t) : 0 ≤ t ∧ t < v 4 ∧ a 5 t.toNat = 1 := h.1
theorem WHE.no0 (h : ¬ (0 ≤ t ∧ t < v 4 ∧ a 5 t.toNat = 1)) : WHE 0 v a (n + 1) t := ⟨fun q => absurd q (by decide), fun q => absurd q.1 h⟩
theorem WHE.j11 (ht : 0 ≤ t ∧ t < v 4 ∧ a 5 t.toNat = 1) (h6 : a 6 t.toNat = 5) (h1 : WHE f1 v a n (a 8 t.toNat)) (h2 : WHE f2 v a n (a 9 t.toNat)) (e1 : f1 = 1) (e2 : f2 = 1) : WHE 1 v a (n + 1) t := ⟨fun _ => ⟨ht, fun _ => ⟨h1.mp e1, h2.mp e2⟩, fun _ q => absurd q (by omega)⟩, fun _ => rfl⟩
theorem WHE.j0 (h6 : a 6 t.toNat = 5) (h1 : WHE f1 v a n (a 8 t.toNat)) (e1 : f1 ≠ 1) : WHE 0 v a (n + 1) t := ⟨fun q => absurd q (by decide), fun q => absurd (h1.mpr (q.2.1 h6).1) e1⟩
theorem WHE.j10 (h6 : a 6 t.toNat = 5) (h2 : WHE f2 v a n (a 9 t.toNat)) (e2 : f2 ≠ 1) : WHE 0 v a (n + 1) t := ⟨fun q => absurd q (by decide), fun q => absurd (h2.mpr (q.2.1 h6).2) e2⟩
theorem WHE.p (ht : 0 ≤ t ∧ t < v 4 ∧ a 5 t.toNat = 1) (h6 : a 6 t.toNat < 1 ∨ a 6 t.toNat = 4) : WHE 1 v a (n + 1) t := ⟨fun _ => ⟨ht, fun q => absurd q (by omega), fun q1 q2 => absurd q1 (by omega)⟩, fun _ => rfl⟩
theorem WHE.b1 (ht : 0 ≤ t ∧ t < v 4 ∧ a 5 t.toNat = 1) (h6 : 1 ≤ a 6 t.toNat ∧ a 6 t.toNat ≤ 3) (h1 : WHE f1 v a n (a 8 t.toNat)) (e1 : f1 = 1) : WHE 1 v a (n + 1) t := ⟨fun _ => ⟨ht, fun q => absurd q (by omega), fun _ _ => h1.mp e1⟩, fun _ => rfl⟩
theorem WHE.b0 (h6 : 1 ≤ a 6 t.toNat ∧ a 6 t.toNat ≤ 3) (h1 : WHE f1 v a n (a 8 t.toNat)) (e1 : f1 ≠ 1) : WHE 0 v a (n + 1) t := ⟨fun q => absurd q (by decide), fun q => absurd (h1.mpr (q.2.2 h6.1 h6.2)) e1⟩
theorem gl_lt {r : Nat} (h : l[r]? = some d) : r < l.length := by
  by_cases e : r < l.length
  · exact e
  · rw [List.getElem?_eq_none (by omega)] at h; cases h
end GATS
def WholeE (l : Launch) (G : GT) (h0 : Nat) (ad ln : Nat → Nat) (d n : Nat) (t : Int) : Prop := ∀ (v : Nat → Int) (a : Nat → Nat → Int), BX v a → TBL v a → Mm l G yX12_isWhole cX12_isWhole 2 (some .boolean) d [.int (iI t)] h0 ad ln v a 0 0 (fun r v2 a2 => ∃ f : Int, r = some (.int (iI f)) ∧ fr [] [] v a v2 a2 ∧ BX v2 a2 ∧ ((f = 0 ∨ (f = 1 ∧ 0 ≤ t ∧ t < v 4)) ∧ WHE f v a n t))
set_option maxHeartbeats 4000000 in
set_option maxRecDepth 100000 in
theorem E_isWhole1 {l : Launch} {G : GT} {h0 : Nat} {ad ln : Nat → Nat} {v : Nat → Int} {a : Nat → Nat → Int} {d n : Nat} {t : Int} (hB : BX v a) (hT : TBL v a) (ht : -2147483648 ≤ t ∧ t ≤ 2147483647) (hd : 3 ≤ d) (hf : ∀ b : Int, 0 ≤ b → b < t → WholeE l G h0 ad ln d n b) : Mm l G yX12_isWhole cX12_isWhole 2 (some .boolean) (d + 1) [.int (iI t)] h0 ad ln v a 0 0 (fun r v2 a2 => ∃ f : Int, r = some (.int (iI f)) ∧ fr [] [] v a v2 a2 ∧ BX v2 a2 ∧ ((f = 0 ∨ (f = 1 ∧ 0 ≤ t ∧ t < v 4)) ∧ WHE f v a (n + 1) t)) := by
  refine Mm.mk (by decide) (Nat.le_of_ble_eq_true rfl) ?_
  intro p e s m args below meth c A C
  refine hv2 (show 0 ≤ v 4 ∧ v 4 ≤ 30 from hB.1 4) (show fr [] [] v a v a from fr.refl) (fun h30 fp0 => ?_)
  refine m_aload_n (j := 0) C dX12_isWhole_0 rfl ?_
  refine m_iload_n (j := 1) C dX12_isWhole_1 rfl ?_
  have rv1 : 0 ≤ v 4 ∧ v 4 ≤ 30 := hB.1 4
  refine m_call (mc2 := 0) (ms2 := 0) (As := [.int (iI t)]) (rest := []) C (B_isTable (t := t) hB (by show -2147483648 ≤ t ∧ t ≤ 2147483647; omega)) dX12_isWhole_2 kV_X12_167 rfl ck_13 rfl (Nat.le_of_ble_eq_true rfl) ⟨by dsimp only [rmq]; omega, by dsimp only [rmq]; omega⟩ ⟨Nat.le_of_ble_eq_true rfl, Nat.le_of_ble_eq_true rfl⟩ (fun rh1 vh1 ah1 h1 => ?_)
  obtain ⟨f1, rfl, fn1, bn1, ex1⟩ := h1
  obtain ⟨rfl, rfl⟩ := fn1.eq
  refine hv2 (show (f1 = 0 ∧ (t < 0 ∨ (v 4) ≤ t ∨ a 5 t.toNat = 0)) ∨ (f1 = 1 ∧ 0 ≤ t ∧ t < (v 4) ∧ a 5 t.toNat = 1) from ex1) (show 0 ≤ a 5 t.toNat ∧ a 5 t.toNat ≤ 1 from hB.2 5 (t.toNat)) (fun gf1 ra1 => ?_)
  refine m_st (st2 := [.int (iI f1)]) rfl ?_
  refine m_if_ne (tgt := 10) C (r32_pq gf1) dX12_isWhole_5 (by decide) (fun c1 => ?_) (fun c1 => ?_)
  · replace gf1 := (gf1.resolve_left (fun q => c1 q.1))
    have ht0 := hT.1 t (by omega) (by omega)
    refine m_aload_n (j := 0) C dX12_isWhole_10 rfl ?_
    refine m_geta (k := 6) C dX12_isWhole_11 w6_65 (by decide) rfl ?_
    refine m_iload_n (j := 1) C dX12_isWhole_14 rfl ?_
    refine m_ald (k := 6) C dX12_isWhole_15 rfl rfl (by decide) (by omega) (by show _ < ((_ : Nat) : Int); simp only [mlen]; omega) (by decide) ?_
    have ra2 : 0 ≤ a 6 t.toNat ∧ a 6 t.toNat ≤ 5 := hB.2 6 (t.toNat)
    refine m_iconst C dX12_isWhole_16 ?_
    refine m_icmp_ne (tgt := 52) C (r32_c (lo := 0) (hi := 5) ra2.1 ra2.2 (by decide) (by decide)) ⟨by decide, by decide⟩ dX12_isWhole_17 (by decide) (fun c2 => ?_) (fun c2 => ?_)
    · refine m_aload_n (j := 0) C dX12_isWhole_52 rfl ?_
      refine m_geta (k := 6) C dX12_isWhole_53 w6_65 (by decide) rfl ?_
      refine m_iload_n (j := 1) C dX12_isWhole_56 rfl ?_
      refine m_ald (k := 6) C dX12_isWhole_57 rfl rfl (by decide) (by omega) (by show _ < ((_ : Nat) : Int); simp only [mlen]; omega) (by decide) ?_
      refine m_iconst C dX12_isWhole_58 ?_
      refine m_icmp_lt (tgt := 85) C (r32_c (lo := 0) (hi := 5) ra2.1 ra2.2 (by decide) (by decide)) ⟨by decide, by decide⟩ dX12_isWhole_59 (by decide) (fun c3 => ?_) (fun c3 => ?_)
      · refine m_iconst C dX12_isWhole_85 ?_
        refine m_goto (tgt := 90) C dX12_isWhole_86 (by decide) ?_
        exact m_zret C dX12_isWhole_90 rfl (Or.inr rfl) (Nat.le_of_ble_eq_true rfl) (Nat.le_of_ble_eq_true rfl) ⟨1, rfl, fp0, hB, ⟨by omega, WHE.p (by omega) (by omega)⟩⟩
      · refine m_aload_n (j := 0) C dX12_isWhole_62 rfl ?_
        refine m_geta (k := 6) C dX12_isWhole_63 w6_65 (by decide) rfl ?_
        refine m_iload_n (j := 1) C dX12_isWhole_66 rfl ?_
        refine m_ald (k := 6) C dX12_isWhole_67 rfl rfl (by decide) (by omega) (by show _ < ((_ : Nat) : Int); simp only [mlen]; omega) (by decide) ?_
        refine m_iconst C dX12_isWhole_68 ?_
        refine m_icmp_gt (tgt := 85) C (r32_c (lo := 0) (hi := 5) ra2.1 ra2.2 (by decide) (by decide)) ⟨by decide, by decide⟩ dX12_isWhole_69 (by decide) (fun c4 => ?_) (fun c4 => ?_)
        · refine m_iconst C dX12_isWhole_85 ?_
          refine m_goto (tgt := 90) C dX12_isWhole_86 (by decide) ?_
          exact m_zret C dX12_isWhole_90 rfl (Or.inr rfl) (Nat.le_of_ble_eq_true rfl) (Nat.le_of_ble_eq_true rfl) ⟨1, rfl, fp0, hB, ⟨by omega, WHE.p (by omega) (by omega)⟩⟩
        · refine m_aload_n (j := 0) C dX12_isWhole_72 rfl ?_
          refine m_aload_n (j := 0) C dX12_isWhole_73 rfl ?_
          refine m_geta (k := 8) C dX12_isWhole_74 w6_67 (by decide) rfl ?_
          refine m_iload_n (j := 1) C dX12_isWhole_77 rfl ?_
          refine m_ald (k := 8) C dX12_isWhole_78 rfl rfl (by decide) (by omega) (by show _ < ((_ : Nat) : Int); simp only [mlen]; omega) (by decide) ?_
          have ra3 : (-1) ≤ a 8 t.toNat ∧ a 8 t.toNat ≤ 29 := hB.2 8 (t.toNat)
          refine m_call (mc2 := 0) (ms2 := 0) (As := [.int (iI (a 8 t.toNat))]) (rest := []) C (hf (a 8 t.toNat) (by omega) (by omega) _ _ hB hT) dX12_isWhole_79 kV_X12_171 rfl ck_13 rfl (Nat.le_of_ble_eq_true rfl) ⟨by dsimp only [rmq]; omega, by dsimp only [rmq]; omega⟩ ⟨Nat.le_of_ble_eq_true rfl, Nat.le_of_ble_eq_true rfl⟩ (fun rh2 vh2 ah2 h2 => ?_)
          obtain ⟨f2, rfl, fn2, _, ef2, we1⟩ := h2
          obtain ⟨rfl, rfl⟩ := fn2.eq
          refine m_st (st2 := [.int (iI f2)]) rfl ?_
          refine m_if_eq (tgt := 89) C ⟨by omega, by omega⟩ dX12_isWhole_82 (by decide) (fun c5 => ?_) (fun c5 => ?_)
          · refine m_iconst C dX12_isWhole_89 ?_
            exact m_zret C dX12_isWhole_90 rfl (Or.inl rfl) (Nat.le_of_ble_eq_true rfl) (Nat.le_of_ble_eq_true rfl) ⟨0, rfl, fp0, hB, ⟨by omega, WHE.b0 (by omega) we1 (by omega)⟩⟩
          · refine m_iconst C dX12_isWhole_85 ?_
            refine m_goto (tgt := 90) C dX12_isWhole_86 (by decide) ?_
            exact m_zret C dX12_isWhole_90 rfl (Or.inr rfl) (Nat.le_of_ble_eq_true rfl) (Nat.le_of_ble_eq_true rfl) ⟨1, rfl, fp0, hB, ⟨by omega, WHE.b1 (by omega) (by omega) we1 (by omega)⟩⟩
    · refine m_aload_n (j := 0) C dX12_isWhole_20 rfl ?_
      refine m_aload_n (j := 0) C dX12_isWhole_21 rfl ?_
      refine m_geta (k := 8) C dX12_isWhole_22 w6_67 (by decide) rfl ?_
      refine m_iload_n (j := 1) C dX12_isWhole_25 rfl ?_
      refine m_ald (k := 8) C dX12_isWhole_26 rfl rfl (by decide) (by omega) (by show _ < ((_ : Nat) : Int); simp only [mlen]; omega) (by decide) ?_
      have ra4 : (-1) ≤ a 8 t.toNat ∧ a 8 t.toNat ≤ 29 := hB.2 8 (t.toNat)
      refine m_call (mc2 := 0) (ms2 := 0) (As := [.int (iI (a 8 t.toNat))]) (rest := []) C (hf (a 8 t.toNat) (by omega) (by omega) _ _ hB hT) dX12_isWhole_27 kV_X12_171 rfl ck_13 rfl (Nat.le_of_ble_eq_true rfl) ⟨by dsimp only [rmq]; omega, by dsimp only [rmq]; omega⟩ ⟨Nat.le_of_ble_eq_true rfl, Nat.le_of_ble_eq_true rfl⟩ (fun rh3 vh3 ah3 h3 => ?_)
      obtain ⟨f3, rfl, fn3, _, ef3, we2⟩ := h3
      obtain ⟨rfl, rfl⟩ := fn3.eq
      refine m_st (st2 := [.int (iI f3)]) rfl ?_
      refine m_if_eq (tgt := 50) C ⟨by omega, by omega⟩ dX12_isWhole_30 (by decide) (fun c6 => ?_) (fun c6 => ?_)
      · refine m_iconst C dX12_isWhole_50 ?_
        exact m_zret C dX12_isWhole_51 rfl (Or.inl rfl) (Nat.le_of_ble_eq_true rfl) (Nat.le_of_ble_eq_true rfl) ⟨0, rfl, fp0, hB, ⟨by omega, WHE.j0 (by omega) we2 (by omega)⟩⟩
      · refine m_aload_n (j := 0) C dX12_isWhole_33 rfl ?_
        refine m_aload_n (j := 0) C dX12_isWhole_34 rfl ?_
        refine m_geta (k := 9) C dX12_isWhole_35 w6_68 (by decide) rfl ?_
        refine m_iload_n (j := 1) C dX12_isWhole_38 rfl ?_
        refine m_ald (k := 9) C dX12_isWhole_39 rfl rfl (by decide) (by omega) (by show _ < ((_ : Nat) : Int); simp only [mlen]; omega) (by decide) ?_
        have ra5 : (-1) ≤ a 9 t.toNat ∧ a 9 t.toNat ≤ 29 := hB.2 9 (t.toNat)
        refine m_call (mc2 := 0) (ms2 := 0) (As := [.int (iI (a 9 t.toNat))]) (rest := []) C (hf (a 9 t.toNat) (by omega) (by omega) _ _ hB hT) dX12_isWhole_40 kV_X12_171 rfl ck_13 rfl (Nat.le_of_ble_eq_true rfl) ⟨by dsimp only [rmq]; omega, by dsimp only [rmq]; omega⟩ ⟨Nat.le_of_ble_eq_true rfl, Nat.le_of_ble_eq_true rfl⟩ (fun rh4 vh4 ah4 h4 => ?_)
        obtain ⟨f4, rfl, fn4, _, ef4, we3⟩ := h4
        obtain ⟨rfl, rfl⟩ := fn4.eq
        refine m_st (st2 := [.int (iI f4)]) rfl ?_
        refine m_if_eq (tgt := 50) C ⟨by omega, by omega⟩ dX12_isWhole_43 (by decide) (fun c7 => ?_) (fun c7 => ?_)
        · refine m_iconst C dX12_isWhole_50 ?_
          exact m_zret C dX12_isWhole_51 rfl (Or.inl rfl) (Nat.le_of_ble_eq_true rfl) (Nat.le_of_ble_eq_true rfl) ⟨0, rfl, fp0, hB, ⟨by omega, WHE.j10 (by omega) we3 (by omega)⟩⟩
        · refine m_iconst C dX12_isWhole_46 ?_
          refine m_goto (tgt := 51) C dX12_isWhole_47 (by decide) ?_
          exact m_zret C dX12_isWhole_51 rfl (Or.inr rfl) (Nat.le_of_ble_eq_true rfl) (Nat.le_of_ble_eq_true rfl) ⟨1, rfl, fp0, hB, ⟨by omega, WHE.j11 (by omega) (by omega) we2 we3 (by omega) (by omega)⟩⟩
  · replace gf1 := (gf1.resolve_right (fun q => absurd (q.1.symm.trans c1) (by decide)))
    refine m_iconst C dX12_isWhole_8 ?_
    exact m_zret C dX12_isWhole_9 rfl (Or.inl rfl) (Nat.le_of_ble_eq_true rfl) (Nat.le_of_ble_eq_true rfl) ⟨0, rfl, fp0, hB, ⟨by omega, WHE.no0 (by omega)⟩⟩
theorem E_isWholeN {l : Launch} {G : GT} {h0 : Nat} {ad ln : Nat → Nat} : ∀ (n : Nat) (t : Int), 0 ≤ t → t < (n : Int) → n ≤ 30 → WholeE l G h0 ad ln (n + 3) n t := by
  intro n
  induction n with
  | zero => intro t h1 h2; omega
  | succ n ih =>
    intro t h1 h2 h3 v a hB hT
    exact E_isWhole1 (d := n + 3) (n := n) hB hT ⟨by omega, by omega⟩ (by omega) (fun b hb hb2 => ih b hb (by omega) (by omega))
set_option maxHeartbeats 4000000 in
set_option maxRecDepth 100000 in
theorem E_isWhole {l : Launch} {G : GT} {h0 : Nat} {ad ln : Nat → Nat} {v : Nat → Int} {a : Nat → Nat → Int}  {t : Int} (hB : BX v a) (hT : TBL v a) (ht : -2147483648 ≤ t ∧ t ≤ 2147483647) : Mm l G yX12_isWhole cX12_isWhole 2 (some .boolean) 34 [.int (iI t)] h0 ad ln v a 0 0 (fun r v2 a2 => ∃ f : Int, r = some (.int (iI f)) ∧ fr [] [] v a v2 a2 ∧ BX v2 a2 ∧ ((f = 0 ∨ (f = 1 ∧ 0 ≤ t ∧ t < v 4)) ∧ WHE f v a 31 t)) := by
  refine Mm.mk (by decide) (Nat.le_of_ble_eq_true rfl) ?_
  intro p e s m args below meth c A C
  refine hv2 (show 0 ≤ v 4 ∧ v 4 ≤ 30 from hB.1 4) (show fr [] [] v a v a from fr.refl) (fun h30 fp0 => ?_)
  refine m_aload_n (j := 0) C dX12_isWhole_0 rfl ?_
  refine m_iload_n (j := 1) C dX12_isWhole_1 rfl ?_
  have rv1 : 0 ≤ v 4 ∧ v 4 ≤ 30 := hB.1 4
  refine m_call (mc2 := 0) (ms2 := 0) (As := [.int (iI t)]) (rest := []) C (B_isTable (t := t) hB (by show -2147483648 ≤ t ∧ t ≤ 2147483647; omega)) dX12_isWhole_2 kV_X12_167 rfl ck_13 rfl (Nat.le_of_ble_eq_true rfl) ⟨Nat.le_of_ble_eq_true rfl, Nat.le_of_ble_eq_true rfl⟩ ⟨Nat.le_of_ble_eq_true rfl, Nat.le_of_ble_eq_true rfl⟩ (fun rh1 vh1 ah1 h1 => ?_)
  obtain ⟨f1, rfl, fn1, bn1, ex1⟩ := h1
  obtain ⟨rfl, rfl⟩ := fn1.eq
  refine hv2 (show (f1 = 0 ∧ (t < 0 ∨ (v 4) ≤ t ∨ a 5 t.toNat = 0)) ∨ (f1 = 1 ∧ 0 ≤ t ∧ t < (v 4) ∧ a 5 t.toNat = 1) from ex1) (show 0 ≤ a 5 t.toNat ∧ a 5 t.toNat ≤ 1 from hB.2 5 (t.toNat)) (fun gf1 ra1 => ?_)
  refine m_st (st2 := [.int (iI f1)]) rfl ?_
  refine m_if_ne (tgt := 10) C (r32_pq gf1) dX12_isWhole_5 (by decide) (fun c1 => ?_) (fun c1 => ?_)
  · replace gf1 := (gf1.resolve_left (fun q => c1 q.1))
    have ht0 := hT.1 t (by omega) (by omega)
    refine m_aload_n (j := 0) C dX12_isWhole_10 rfl ?_
    refine m_geta (k := 6) C dX12_isWhole_11 w6_65 (by decide) rfl ?_
    refine m_iload_n (j := 1) C dX12_isWhole_14 rfl ?_
    refine m_ald (k := 6) C dX12_isWhole_15 rfl rfl (by decide) (by omega) (by show _ < ((_ : Nat) : Int); simp only [mlen]; omega) (by decide) ?_
    have ra2 : 0 ≤ a 6 t.toNat ∧ a 6 t.toNat ≤ 5 := hB.2 6 (t.toNat)
    refine m_iconst C dX12_isWhole_16 ?_
    refine m_icmp_ne (tgt := 52) C (r32_c (lo := 0) (hi := 5) ra2.1 ra2.2 (by decide) (by decide)) ⟨by decide, by decide⟩ dX12_isWhole_17 (by decide) (fun c2 => ?_) (fun c2 => ?_)
    · refine m_aload_n (j := 0) C dX12_isWhole_52 rfl ?_
      refine m_geta (k := 6) C dX12_isWhole_53 w6_65 (by decide) rfl ?_
      refine m_iload_n (j := 1) C dX12_isWhole_56 rfl ?_
      refine m_ald (k := 6) C dX12_isWhole_57 rfl rfl (by decide) (by omega) (by show _ < ((_ : Nat) : Int); simp only [mlen]; omega) (by decide) ?_
      refine m_iconst C dX12_isWhole_58 ?_
      refine m_icmp_lt (tgt := 85) C (r32_c (lo := 0) (hi := 5) ra2.1 ra2.2 (by decide) (by decide)) ⟨by decide, by decide⟩ dX12_isWhole_59 (by decide) (fun c3 => ?_) (fun c3 => ?_)
      · refine m_iconst C dX12_isWhole_85 ?_
        refine m_goto (tgt := 90) C dX12_isWhole_86 (by decide) ?_
        exact m_zret C dX12_isWhole_90 rfl (Or.inr rfl) (Nat.le_of_ble_eq_true rfl) (Nat.le_of_ble_eq_true rfl) ⟨1, rfl, fp0, hB, ⟨by omega, WHE.p (by omega) (by omega)⟩⟩
      · refine m_aload_n (j := 0) C dX12_isWhole_62 rfl ?_
        refine m_geta (k := 6) C dX12_isWhole_63 w6_65 (by decide) rfl ?_
        refine m_iload_n (j := 1) C dX12_isWhole_66 rfl ?_
        refine m_ald (k := 6) C dX12_isWhole_67 rfl rfl (by decide) (by omega) (by show _ < ((_ : Nat) : Int); simp only [mlen]; omega) (by decide) ?_
        refine m_iconst C dX12_isWhole_68 ?_
        refine m_icmp_gt (tgt := 85) C (r32_c (lo := 0) (hi := 5) ra2.1 ra2.2 (by decide) (by decide)) ⟨by decide, by decide⟩ dX12_isWhole_69 (by decide) (fun c4 => ?_) (fun c4 => ?_)
        · refine m_iconst C dX12_isWhole_85 ?_
          refine m_goto (tgt := 90) C dX12_isWhole_86 (by decide) ?_
          exact m_zret C dX12_isWhole_90 rfl (Or.inr rfl) (Nat.le_of_ble_eq_true rfl) (Nat.le_of_ble_eq_true rfl) ⟨1, rfl, fp0, hB, ⟨by omega, WHE.p (by omega) (by omega)⟩⟩
        · refine m_aload_n (j := 0) C dX12_isWhole_72 rfl ?_
          refine m_aload_n (j := 0) C dX12_isWhole_73 rfl ?_
          refine m_geta (k := 8) C dX12_isWhole_74 w6_67 (by decide) rfl ?_
          refine m_iload_n (j := 1) C dX12_isWhole_77 rfl ?_
          refine m_ald (k := 8) C dX12_isWhole_78 rfl rfl (by decide) (by omega) (by show _ < ((_ : Nat) : Int); simp only [mlen]; omega) (by decide) ?_
          have ra3 : (-1) ≤ a 8 t.toNat ∧ a 8 t.toNat ≤ 29 := hB.2 8 (t.toNat)
          refine m_call (mc2 := 0) (ms2 := 0) (As := [.int (iI (a 8 t.toNat))]) (rest := []) C ((E_isWholeN 30 (a 8 t.toNat) (by omega) (by omega) (Nat.le_refl _)) _ _ hB hT) dX12_isWhole_79 kV_X12_171 rfl ck_13 rfl (Nat.le_of_ble_eq_true rfl) ⟨Nat.le_of_ble_eq_true rfl, Nat.le_of_ble_eq_true rfl⟩ ⟨Nat.le_of_ble_eq_true rfl, Nat.le_of_ble_eq_true rfl⟩ (fun rh2 vh2 ah2 h2 => ?_)
          obtain ⟨f2, rfl, fn2, _, ef2, we1⟩ := h2
          obtain ⟨rfl, rfl⟩ := fn2.eq
          refine m_st (st2 := [.int (iI f2)]) rfl ?_
          refine m_if_eq (tgt := 89) C ⟨by omega, by omega⟩ dX12_isWhole_82 (by decide) (fun c5 => ?_) (fun c5 => ?_)
          · refine m_iconst C dX12_isWhole_89 ?_
            exact m_zret C dX12_isWhole_90 rfl (Or.inl rfl) (Nat.le_of_ble_eq_true rfl) (Nat.le_of_ble_eq_true rfl) ⟨0, rfl, fp0, hB, ⟨by omega, WHE.b0 (by omega) we1 (by omega)⟩⟩
          · refine m_iconst C dX12_isWhole_85 ?_
            refine m_goto (tgt := 90) C dX12_isWhole_86 (by decide) ?_
            exact m_zret C dX12_isWhole_90 rfl (Or.inr rfl) (Nat.le_of_ble_eq_true rfl) (Nat.le_of_ble_eq_true rfl) ⟨1, rfl, fp0, hB, ⟨by omega, WHE.b1 (by omega) (by omega) we1 (by omega)⟩⟩
    · refine m_aload_n (j := 0) C dX12_isWhole_20 rfl ?_
      refine m_aload_n (j := 0) C dX12_isWhole_21 rfl ?_
      refine m_geta (k := 8) C dX12_isWhole_22 w6_67 (by decide) rfl ?_
      refine m_iload_n (j := 1) C dX12_isWhole_25 rfl ?_
      refine m_ald (k := 8) C dX12_isWhole_26 rfl rfl (by decide) (by omega) (by show _ < ((_ : Nat) : Int); simp only [mlen]; omega) (by decide) ?_
      have ra4 : (-1) ≤ a 8 t.toNat ∧ a 8 t.toNat ≤ 29 := hB.2 8 (t.toNat)
      refine m_call (mc2 := 0) (ms2 := 0) (As := [.int (iI (a 8 t.toNat))]) (rest := []) C ((E_isWholeN 30 (a 8 t.toNat) (by omega) (by omega) (Nat.le_refl _)) _ _ hB hT) dX12_isWhole_27 kV_X12_171 rfl ck_13 rfl (Nat.le_of_ble_eq_true rfl) ⟨Nat.le_of_ble_eq_true rfl, Nat.le_of_ble_eq_true rfl⟩ ⟨Nat.le_of_ble_eq_true rfl, Nat.le_of_ble_eq_true rfl⟩ (fun rh3 vh3 ah3 h3 => ?_)
      obtain ⟨f3, rfl, fn3, _, ef3, we2⟩ := h3
      obtain ⟨rfl, rfl⟩ := fn3.eq
      refine m_st (st2 := [.int (iI f3)]) rfl ?_
      refine m_if_eq (tgt := 50) C ⟨by omega, by omega⟩ dX12_isWhole_30 (by decide) (fun c6 => ?_) (fun c6 => ?_)
      · refine m_iconst C dX12_isWhole_50 ?_
        exact m_zret C dX12_isWhole_51 rfl (Or.inl rfl) (Nat.le_of_ble_eq_true rfl) (Nat.le_of_ble_eq_true rfl) ⟨0, rfl, fp0, hB, ⟨by omega, WHE.j0 (by omega) we2 (by omega)⟩⟩
      · refine m_aload_n (j := 0) C dX12_isWhole_33 rfl ?_
        refine m_aload_n (j := 0) C dX12_isWhole_34 rfl ?_
        refine m_geta (k := 9) C dX12_isWhole_35 w6_68 (by decide) rfl ?_
        refine m_iload_n (j := 1) C dX12_isWhole_38 rfl ?_
        refine m_ald (k := 9) C dX12_isWhole_39 rfl rfl (by decide) (by omega) (by show _ < ((_ : Nat) : Int); simp only [mlen]; omega) (by decide) ?_
        have ra5 : (-1) ≤ a 9 t.toNat ∧ a 9 t.toNat ≤ 29 := hB.2 9 (t.toNat)
        refine m_call (mc2 := 0) (ms2 := 0) (As := [.int (iI (a 9 t.toNat))]) (rest := []) C ((E_isWholeN 30 (a 9 t.toNat) (by omega) (by omega) (Nat.le_refl _)) _ _ hB hT) dX12_isWhole_40 kV_X12_171 rfl ck_13 rfl (Nat.le_of_ble_eq_true rfl) ⟨Nat.le_of_ble_eq_true rfl, Nat.le_of_ble_eq_true rfl⟩ ⟨Nat.le_of_ble_eq_true rfl, Nat.le_of_ble_eq_true rfl⟩ (fun rh4 vh4 ah4 h4 => ?_)
        obtain ⟨f4, rfl, fn4, _, ef4, we3⟩ := h4
        obtain ⟨rfl, rfl⟩ := fn4.eq
        refine m_st (st2 := [.int (iI f4)]) rfl ?_
        refine m_if_eq (tgt := 50) C ⟨by omega, by omega⟩ dX12_isWhole_43 (by decide) (fun c7 => ?_) (fun c7 => ?_)
        · refine m_iconst C dX12_isWhole_50 ?_
          exact m_zret C dX12_isWhole_51 rfl (Or.inl rfl) (Nat.le_of_ble_eq_true rfl) (Nat.le_of_ble_eq_true rfl) ⟨0, rfl, fp0, hB, ⟨by omega, WHE.j10 (by omega) we3 (by omega)⟩⟩
        · refine m_iconst C dX12_isWhole_46 ?_
          refine m_goto (tgt := 51) C dX12_isWhole_47 (by decide) ?_
          exact m_zret C dX12_isWhole_51 rfl (Or.inr rfl) (Nat.le_of_ble_eq_true rfl) (Nat.le_of_ble_eq_true rfl) ⟨1, rfl, fp0, hB, ⟨by omega, WHE.j11 (by omega) (by omega) we2 we3 (by omega) (by omega)⟩⟩
  · replace gf1 := (gf1.resolve_right (fun q => absurd (q.1.symm.trans c1) (by decide)))
    refine m_iconst C dX12_isWhole_8 ?_
    exact m_zret C dX12_isWhole_9 rfl (Or.inl rfl) (Nat.le_of_ble_eq_true rfl) (Nat.le_of_ble_eq_true rfl) ⟨0, rfl, fp0, hB, ⟨by omega, WHE.no0 (by omega)⟩⟩
end
section
section JUDS
variable {v v2 : Nat → Int} {a a1 a2 : Nat → Nat → Int} {q x y z t b d e f f1 f2 g k h : Int} {n : Nat} {l : List Int}
end JUDS
set_option maxHeartbeats 4000000 in
set_option maxRecDepth 100000 in
theorem N_measure {l : Launch} {G : GT} {h0 : Nat} {ad ln : Nat → Nat} {v : Nat → Int} {a : Nat → Nat → Int}  {w1 h1 y1 : Int} (hB : BX v a) (hw1 : -2147483648 ≤ w1 ∧ w1 ≤ 2147483647) (hh1 : -2147483648 ≤ h1 ∧ h1 ≤ 2147483647) (hy1 : -2147483648 ≤ y1 ∧ y1 ≤ 2147483647) : Mm l G yX12_measure cX12_measure 4 (some .int) 1 [.int (iI w1), .int (iI h1), .int (iI y1)] h0 ad ln v a 0 0 (fun r v2 a2 => ∃ f : Int, r = some (.int (iI f)) ∧ fr [0, 1, 31, 32, 33] [] v a v2 a2 ∧ BX v2 a2 ∧ (((f = 1 ∧ 1 ≤ w1 ∧ w1 ≤ 100 ∧ 1 ≤ h1 ∧ h1 ≤ 50 ∧ 1 ≤ y1 ∧ y1 ≤ 255) ∨ (f = -1 ∧ ¬ (1 ≤ w1 ∧ w1 ≤ 100 ∧ 1 ≤ h1 ∧ h1 ≤ 50 ∧ 1 ≤ y1 ∧ y1 ≤ 255))) ∧ ((f = 1 ∧ v2 31 = w1 ∧ v2 32 = h1 ∧ v2 33 = y1) ∨ (f = -1 ∧ v2 31 = v 31 ∧ v2 32 = v 32 ∧ v2 33 = v 33)))) := by
  refine Mm.mk (by decide) (Nat.le_of_ble_eq_true rfl) ?_
  intro p e s m args below meth c A C
  have fp0 : fr [0, 1, 31, 32, 33] [] v a v a := fr.refl
  refine m_iload_n (j := 1) C dX12_measure_0 rfl ?_
  refine m_iconst C dX12_measure_1 ?_
  refine m_bipush (z := 100) C dX12_measure_2 (by decide) ?_
  refine m_callS (As := [.int (iI w1), .int (iI 1), .int (iI 100)]) (rest := []) C (fun L E => s_isIn (iI w1) (iI 1) (iI 100)) dX12_measure_4 kS_X12_174 rfl rfl (Nat.le_of_ble_eq_true rfl) ⟨Nat.le_of_ble_eq_true rfl, Nat.le_of_ble_eq_true rfl⟩ ⟨Nat.le_of_ble_eq_true rfl, Nat.le_of_ble_eq_true rfl⟩ ?_
  rcases inn_c (x := w1) (lo := 1) (hi := 100) ⟨by omega, by omega⟩ ⟨by decide, by decide⟩ ⟨by decide, by decide⟩ with ⟨h1a, h1b, h1e⟩ | ⟨h1a, h1e⟩
  · refine m_st (st2 := [.int (iI 1)]) (by rw [h1e]) ?_
    refine m_if_eq (tgt := 31) C ⟨by decide, by decide⟩ dX12_measure_7 (by decide) (fun z => absurd z (by omega)) (fun _ => ?_)
    refine m_iload_n (j := 2) C dX12_measure_10 rfl ?_
    refine m_iconst C dX12_measure_11 ?_
    refine m_bipush (z := 50) C dX12_measure_12 (by decide) ?_
    refine m_callS (As := [.int (iI h1), .int (iI 1), .int (iI 50)]) (rest := []) C (fun L E => s_isIn (iI h1) (iI 1) (iI 50)) dX12_measure_14 kS_X12_174 rfl rfl (Nat.le_of_ble_eq_true rfl) ⟨Nat.le_of_ble_eq_true rfl, Nat.le_of_ble_eq_true rfl⟩ ⟨Nat.le_of_ble_eq_true rfl, Nat.le_of_ble_eq_true rfl⟩ ?_
    rcases inn_c (x := h1) (lo := 1) (hi := 50) ⟨by omega, by omega⟩ ⟨by decide, by decide⟩ ⟨by decide, by decide⟩ with ⟨h2a, h2b, h2e⟩ | ⟨h2a, h2e⟩
    · refine m_st (st2 := [.int (iI 1)]) (by rw [h2e]) ?_
      refine m_if_eq (tgt := 31) C ⟨by decide, by decide⟩ dX12_measure_17 (by decide) (fun z => absurd z (by omega)) (fun _ => ?_)
      refine m_iload_n (j := 3) C dX12_measure_20 rfl ?_
      refine m_iconst C dX12_measure_21 ?_
      refine m_sipush (z := 255) C dX12_measure_22 (by decide) ?_
      refine m_callS (As := [.int (iI y1), .int (iI 1), .int (iI 255)]) (rest := []) C (fun L E => s_isIn (iI y1) (iI 1) (iI 255)) dX12_measure_25 kS_X12_174 rfl rfl (Nat.le_of_ble_eq_true rfl) ⟨Nat.le_of_ble_eq_true rfl, Nat.le_of_ble_eq_true rfl⟩ ⟨Nat.le_of_ble_eq_true rfl, Nat.le_of_ble_eq_true rfl⟩ ?_
      rcases inn_c (x := y1) (lo := 1) (hi := 255) ⟨by omega, by omega⟩ ⟨by decide, by decide⟩ ⟨by decide, by decide⟩ with ⟨h3a, h3b, h3e⟩ | ⟨h3a, h3e⟩
      · refine m_st (st2 := [.int (iI 1)]) (by rw [h3e]) ?_
        refine m_if_ne (tgt := 38) C ⟨by decide, by decide⟩ dX12_measure_28 (by decide) (fun _ => ?_) (fun z => absurd z (by omega))
        refine m_aload_n (j := 0) C dX12_measure_38 rfl ?_
        refine m_iload_n (j := 1) C dX12_measure_39 rfl ?_
        refine m_put (k := 31) (z := w1) C dX12_measure_40 w6_90 (by decide) rfl rfl rfl ?_
        refine hv2 (show BX (va_up v 31 w1) a from hB.put (k := 31) (z := w1) (show 1 ≤ w1 ∧ w1 ≤ 100 by omega)) (fp0.put (k := 31) (z := w1) rfl) (fun bq1 fq1 => ?_)
        refine m_aload_n (j := 0) C dX12_measure_43 rfl ?_
        refine m_iload_n (j := 2) C dX12_measure_44 rfl ?_
        refine m_put (k := 32) (z := h1) C dX12_measure_45 w6_91 (by decide) rfl rfl rfl ?_
        refine hv2 (show BX (va_up (va_up v 31 w1) 32 h1) a from bq1.put (k := 32) (z := h1) (show 1 ≤ h1 ∧ h1 ≤ 50 by omega)) (fq1.put (k := 32) (z := h1) rfl) (fun bq2 fq2 => ?_)
        refine m_aload_n (j := 0) C dX12_measure_48 rfl ?_
        refine m_iload_n (j := 3) C dX12_measure_49 rfl ?_
        refine m_put (k := 33) (z := y1) C dX12_measure_50 w6_92 (by decide) rfl rfl rfl ?_
        refine hv2 (show BX (va_up (va_up (va_up v 31 w1) 32 h1) 33 y1) a from bq2.put (k := 33) (z := y1) (show (-2147483648) ≤ y1 ∧ y1 ≤ 2147483647 by omega)) (fq2.put (k := 33) (z := y1) rfl) (fun bq3 fq3 => ?_)
        refine m_aload_n (j := 0) C dX12_measure_53 rfl ?_
        refine m_iconst C dX12_measure_54 ?_
        refine m_call (mc2 := 0) (ms2 := 0) (As := [.int (iI 1)]) (rest := []) C (B_fine (x := 1) bq3 (by show -2147483648 ≤ (1 : Int) ∧ (1 : Int) ≤ 2147483647; omega)) dX12_measure_55 kV_X12_158 rfl ck_13 rfl (Nat.le_of_ble_eq_true rfl) ⟨Nat.le_of_ble_eq_true rfl, Nat.le_of_ble_eq_true rfl⟩ ⟨Nat.le_of_ble_eq_true rfl, Nat.le_of_ble_eq_true rfl⟩ (fun rh4 vh4 ah4 h4 => ?_)
        obtain ⟨f1, rfl, fn1, bn1, ex1⟩ := h4
        refine hv2 (fq3.call fn1 rfl rfl) (show f1 = (1 : Int) from ex1) (fun fq4 gf1 => ?_)
        refine m_st (st2 := [.int (iI f1)]) rfl ?_
        refine hv6 (show 1 ≤ vh4 31 ∧ vh4 31 ≤ 100 from bn1.1 31) (show vh4 31 = w1 from fn1.1 31 rfl) (show 1 ≤ vh4 32 ∧ vh4 32 ≤ 50 from bn1.1 32) (show vh4 32 = h1 from fn1.1 32 rfl) (show (-2147483648) ≤ vh4 33 ∧ vh4 33 ≤ 2147483647 from bn1.1 33) (show vh4 33 = y1 from fn1.1 33 rfl) (fun rv1 ve1 rv2 ve2 rv3 ve3 => ?_)
        exact m_iret C dX12_measure_58 rfl (Nat.le_of_ble_eq_true rfl) (Nat.le_of_ble_eq_true rfl) ⟨f1, rfl, fq4, bn1, ⟨by omega, by show (f1 = 1 ∧ (vh4 31) = w1 ∧ (vh4 32) = h1 ∧ (vh4 33) = y1) ∨ (f1 = -1 ∧ (vh4 31) = (v 31) ∧ (vh4 32) = (v 32) ∧ (vh4 33) = (v 33)); omega⟩⟩
      · refine m_st (st2 := [.int (iI 0)]) (by rw [h3e]) ?_
        refine m_if_ne (tgt := 38) C ⟨by decide, by decide⟩ dX12_measure_28 (by decide) (fun z => absurd z (by omega)) (fun _ => ?_)
        refine m_aload_n (j := 0) C dX12_measure_31 rfl ?_
        refine m_bipush (z := 6) C dX12_measure_32 (by decide) ?_
        refine m_call (mc2 := 0) (ms2 := 0) (As := [.int (iI 6)]) (rest := []) C (B_bad (x := 6) hB (by show -2147483648 ≤ (6 : Int) ∧ (6 : Int) ≤ 2147483647; omega)) dX12_measure_34 kV_X12_154 rfl ck_13 rfl (Nat.le_of_ble_eq_true rfl) ⟨Nat.le_of_ble_eq_true rfl, Nat.le_of_ble_eq_true rfl⟩ ⟨Nat.le_of_ble_eq_true rfl, Nat.le_of_ble_eq_true rfl⟩ (fun rh5 vh5 ah5 h5 => ?_)
        obtain ⟨f2, rfl, fn2, bn2, ex2⟩ := h5
        refine hv2 (fp0.call fn2 rfl rfl) (show f2 = -1 from ex2) (fun fq5 gf2 => ?_)
        refine m_st (st2 := [.int (iI f2)]) rfl ?_
        refine hv6 (show 1 ≤ vh5 31 ∧ vh5 31 ≤ 100 from bn2.1 31) (show vh5 31 = v 31 from fn2.1 31 rfl) (show 1 ≤ vh5 32 ∧ vh5 32 ≤ 50 from bn2.1 32) (show vh5 32 = v 32 from fn2.1 32 rfl) (show (-2147483648) ≤ vh5 33 ∧ vh5 33 ≤ 2147483647 from bn2.1 33) (show vh5 33 = v 33 from fn2.1 33 rfl) (fun rv4 ve4 rv5 ve5 rv6 ve6 => ?_)
        exact m_iret C dX12_measure_37 rfl (Nat.le_of_ble_eq_true rfl) (Nat.le_of_ble_eq_true rfl) ⟨f2, rfl, fq5, bn2, ⟨by omega, by show (f2 = 1 ∧ (vh5 31) = w1 ∧ (vh5 32) = h1 ∧ (vh5 33) = y1) ∨ (f2 = -1 ∧ (vh5 31) = (v 31) ∧ (vh5 32) = (v 32) ∧ (vh5 33) = (v 33)); omega⟩⟩
    · refine m_st (st2 := [.int (iI 0)]) (by rw [h2e]) ?_
      refine m_if_eq (tgt := 31) C ⟨by decide, by decide⟩ dX12_measure_17 (by decide) (fun _ => ?_) (fun z => absurd z (by omega))
      refine m_aload_n (j := 0) C dX12_measure_31 rfl ?_
      refine m_bipush (z := 6) C dX12_measure_32 (by decide) ?_
      refine m_call (mc2 := 0) (ms2 := 0) (As := [.int (iI 6)]) (rest := []) C (B_bad (x := 6) hB (by show -2147483648 ≤ (6 : Int) ∧ (6 : Int) ≤ 2147483647; omega)) dX12_measure_34 kV_X12_154 rfl ck_13 rfl (Nat.le_of_ble_eq_true rfl) ⟨Nat.le_of_ble_eq_true rfl, Nat.le_of_ble_eq_true rfl⟩ ⟨Nat.le_of_ble_eq_true rfl, Nat.le_of_ble_eq_true rfl⟩ (fun rh6 vh6 ah6 h6 => ?_)
      obtain ⟨f3, rfl, fn3, bn3, ex3⟩ := h6
      refine hv2 (fp0.call fn3 rfl rfl) (show f3 = -1 from ex3) (fun fq6 gf3 => ?_)
      refine m_st (st2 := [.int (iI f3)]) rfl ?_
      refine hv6 (show 1 ≤ vh6 31 ∧ vh6 31 ≤ 100 from bn3.1 31) (show vh6 31 = v 31 from fn3.1 31 rfl) (show 1 ≤ vh6 32 ∧ vh6 32 ≤ 50 from bn3.1 32) (show vh6 32 = v 32 from fn3.1 32 rfl) (show (-2147483648) ≤ vh6 33 ∧ vh6 33 ≤ 2147483647 from bn3.1 33) (show vh6 33 = v 33 from fn3.1 33 rfl) (fun rv7 ve7 rv8 ve8 rv9 ve9 => ?_)
      exact m_iret C dX12_measure_37 rfl (Nat.le_of_ble_eq_true rfl) (Nat.le_of_ble_eq_true rfl) ⟨f3, rfl, fq6, bn3, ⟨by omega, by show (f3 = 1 ∧ (vh6 31) = w1 ∧ (vh6 32) = h1 ∧ (vh6 33) = y1) ∨ (f3 = -1 ∧ (vh6 31) = (v 31) ∧ (vh6 32) = (v 32) ∧ (vh6 33) = (v 33)); omega⟩⟩
  · refine m_st (st2 := [.int (iI 0)]) (by rw [h1e]) ?_
    refine m_if_eq (tgt := 31) C ⟨by decide, by decide⟩ dX12_measure_7 (by decide) (fun _ => ?_) (fun z => absurd z (by omega))
    refine m_aload_n (j := 0) C dX12_measure_31 rfl ?_
    refine m_bipush (z := 6) C dX12_measure_32 (by decide) ?_
    refine m_call (mc2 := 0) (ms2 := 0) (As := [.int (iI 6)]) (rest := []) C (B_bad (x := 6) hB (by show -2147483648 ≤ (6 : Int) ∧ (6 : Int) ≤ 2147483647; omega)) dX12_measure_34 kV_X12_154 rfl ck_13 rfl (Nat.le_of_ble_eq_true rfl) ⟨Nat.le_of_ble_eq_true rfl, Nat.le_of_ble_eq_true rfl⟩ ⟨Nat.le_of_ble_eq_true rfl, Nat.le_of_ble_eq_true rfl⟩ (fun rh7 vh7 ah7 h7 => ?_)
    obtain ⟨f4, rfl, fn4, bn4, ex4⟩ := h7
    refine hv2 (fp0.call fn4 rfl rfl) (show f4 = -1 from ex4) (fun fq7 gf4 => ?_)
    refine m_st (st2 := [.int (iI f4)]) rfl ?_
    refine hv6 (show 1 ≤ vh7 31 ∧ vh7 31 ≤ 100 from bn4.1 31) (show vh7 31 = v 31 from fn4.1 31 rfl) (show 1 ≤ vh7 32 ∧ vh7 32 ≤ 50 from bn4.1 32) (show vh7 32 = v 32 from fn4.1 32 rfl) (show (-2147483648) ≤ vh7 33 ∧ vh7 33 ≤ 2147483647 from bn4.1 33) (show vh7 33 = v 33 from fn4.1 33 rfl) (fun rv10 ve10 rv11 ve11 rv12 ve12 => ?_)
    exact m_iret C dX12_measure_37 rfl (Nat.le_of_ble_eq_true rfl) (Nat.le_of_ble_eq_true rfl) ⟨f4, rfl, fq7, bn4, ⟨by omega, by show (f4 = 1 ∧ (vh7 31) = w1 ∧ (vh7 32) = h1 ∧ (vh7 33) = y1) ∨ (f4 = -1 ∧ (vh7 31) = (v 31) ∧ (vh7 32) = (v 32) ∧ (vh7 33) = (v 33)); omega⟩⟩
end
