set_option maxHeartbeats 4000000 in
set_option maxRecDepth 100000 in
theorem C_goOver {l : Launch} {G : GT} {mi : Nat} {sk : Nat → Nat} {L : List Nat} {cl ln : Nat → Nat} {iv : Nat → Nat → Int} {rv : Nat → Nat → Option Nat}  {a0 : Nat} {x : Int} (hW : WT (g0 G) sk L cl ln iv rv) (hS : SKL sk L cl) (t_a0 : ty L cl a0 18) (h_x : -2147483648 ≤ x ∧ x ≤ 2147483647)  : Mc l G mi (Phi (g0 G) sk) PHM yX7_goOver cX7_goOver 6 (some .int) 2 [.ref a0, .int (iI x)] L cl ln iv rv 0 (fun v L2 cl2 ln2 iv2 rv2 => ∃ f : Int, v = some (.int (iI f)) ∧ L = L2 ∧ cl = cl2 ∧ ln = ln2 ∧ iv = iv2 ∧ rv = rv2 ∧ (-2147483648 ≤ f ∧ f ≤ 2147483647) ∧ (True)) := by
  refine Mc.mk (by decide) (Nat.le_of_ble_eq_true rfl) ?_
  intro p e s m args below meth c A C hM
  refine hv3 (Phi.le hW hS) (show XT L cl ln L cl ln from XT.refl) (show fT [] L cl iv rv iv rv from fT.refl) (fun hph hX0 hF0 => ?_)
  refine c_iload_n (j := 1) C dX7_goOver_0 rfl ?_
  refine c_istore_n (lv2 := [(2, .int (iI x)), (0, .ref a0), (1, .int (iI x))]) C dX7_goOver_1 (by decide) rfl ?_
  refine c_iconst C dX7_goOver_2 ?_
  refine c_istore_n (lv2 := [(3, .int (iI 0)), (2, .int (iI x)), (0, .ref a0), (1, .int (iI x))]) C dX7_goOver_3 (by decide) rfl ?_
  have Lp1 : ∀ (nn : Nat) (d1 k : Int) , 201 - k < (nn : Int) → (-2147483648 ≤ d1 ∧ d1 ≤ 2147483647) → (0 ≤ k ∧ k ≤ 200) → cw p l e 2 ((PHM) + 0 - ((Phi (g0 G) sk) ln rv)) s m args below meth c G A 6 (MQ below (Qu G A (Qp G (Phi (g0 G) sk) ((Phi (g0 G) sk) ln rv) 0 (fun v L2 cl2 ln2 iv2 rv2 => ∃ f : Int, v = some (.int (iI f)) ∧ L = L2 ∧ cl = cl2 ∧ ln = ln2 ∧ iv = iv2 ∧ rv = rv2 ∧ (-2147483648 ≤ f ∧ f ≤ 2147483647) ∧ (True)))) args s (((PHM) + 0 - ((Phi (g0 G) sk) ln rv)) / 16) ((PHM) + 0 - ((Phi (g0 G) sk) ln rv)) A) (Phi (g0 G) sk) ((Phi (g0 G) sk) ln rv) L cl ln iv rv 0 4 [(2, .int (iI d1)), (3, .int (iI k)), (0, .ref a0), (1, .int (iI x))] [] := by
    intro nn
    induction nn with
    | zero =>
      intro  d1 k  hm   hd1 hk
      exact absurd hm (by omega)
    | succ nn ih1 =>
      intro  d1 k  hm   hd1 hk
      refine c_iload_n (j := 1) C dX7_goOver_4 rfl ?_
      refine c_aload_n (j := 2) (x := a0) C dX7_goOver_5 rfl ?_
      have ri1 : 0 ≤ iv a0 1 ∧ iv a0 1 ≤ 200 := hW.int t_a0 1
      refine c_get (k := 1) C ck_8 dX7_goOver_6 w2_34 (by decide) t_a0 rfl rfl (by decide) rfl ?_
      refine c_icmp_ge (tgt := 83) C (r32_c (lo := 0) (hi := 200) hk.1 hk.2 (by decide) (by decide)) (r32_c (lo := 0) (hi := 200) ri1.1 ri1.2 (by decide) (by decide)) dX7_goOver_9 (by decide) (fun c1 => ?_) (fun c1 => ?_)
      · refine c_iload_n (j := 0) C dX7_goOver_83 rfl ?_
        exact c_iret C dX7_goOver_84 rfl (by decide) (rom0 hph hph (by decide)) ⟨d1, rfl, rfl, rfl, rfl, rfl, rfl, ⟨by omega, by omega⟩, trivial⟩
      · refine c_aload_n (j := 2) (x := a0) C dX7_goOver_12 rfl ?_
        refine c_iload_n (j := 1) C dX7_goOver_13 rfl ?_
        refine d_callV (As := [.int (iI k)]) (rest := []) C hM (C_present (a0 := a0) (i := k) hW hS t_a0 (by omega) ) dX7_goOver_14 kV_X7_61 rfl t_a0 rfl rfl (by decide) ck_8 rfl (Nat.le_of_ble_eq_true rfl) ⟨(Nat.le_of_ble_eq_true rfl), (Nat.le_of_ble_eq_true rfl)⟩ hph hph (show 0 + 0 = 0 from rfl) (by decide) (fun rh1 Lh1 clh1 lnh1 ivh1 rvh1 h1 => ?_)
        obtain ⟨f1, rfl, rfl, rfl, rfl, rfl, rfl, rgf1, exf1⟩ := h1
        refine c_st (st2 := [(va_rf f1)]) rfl ?_
        have gf1 : f1 = none ∨ (0 ≤ k ∧ k < iv a0 1) := exf1
        refine c_astorer (r := f1) (lv2 := [(4, (va_rf f1)), (2, .int (iI d1)), (3, .int (iI k)), (0, .ref a0), (1, .int (iI x))]) C dX7_goOver_17 (by decide) rfl ?_
        refine c_iload_n (j := 1) C dX7_goOver_19 rfl ?_
        refine c_bipush (z := 31) C dX7_goOver_20 (by decide) ?_
        refine c_imul C dX7_goOver_22 ?_
        obtain ⟨zz1, hzz1, ezz1⟩ := iI_of (iI (d1 * 31))
        refine c_st (st2 := [.int (iI zz1)]) (by rw [ezz1]) ?_
        refine c_aloadr (j := 0) (r := f1) C dX7_goOver_23 rfl ?_
        refine c_ifnonnull (r := f1) (tgt := 32) C dX7_goOver_25 (by decide) (fun ob1 oq1 => ?_) (fun oq1 => ?_)
        · subst oq1
          have tob1 := rgf1 ob1 rfl
          refine c_lv (lv2 := [(4, .ref ob1), (2, .int (iI d1)), (3, .int (iI k)), (0, .ref a0), (1, .int (iI x))]) [0, 1, 2, 3, 4] rfl ?_
          refine c_st (st2 := [.int (iI zz1)]) rfl ?_
          refine c_aload (j := 0) (x := ob1) C dX7_goOver_32 rfl ?_
          have ri2 : 0 ≤ iv ob1 1 ∧ iv ob1 1 ≤ 200 := hW.int tob1 1
          refine c_get (k := 1) C ck_3 dX7_goOver_34 w4_51 (by decide) tob1 rfl rfl (by decide) rfl ?_
          refine c_iadd C dX7_goOver_37 ?_
          obtain ⟨zz2, hzz2, ezz2⟩ := iI_of (iI (zz1 + (iv ob1 1)))
          refine c_st (st2 := [.int (iI zz2)]) (by rw [ezz2]) ?_
          refine c_istore_n (lv2 := [(2, .int (iI zz2)), (4, .ref ob1), (3, .int (iI k)), (0, .ref a0), (1, .int (iI x))]) C dX7_goOver_38 (by decide) rfl ?_
          refine c_iconst C dX7_goOver_39 ?_
          refine c_istore (lv2 := [(5, .int (iI 0)), (2, .int (iI zz2)), (4, .ref ob1), (3, .int (iI k)), (0, .ref a0), (1, .int (iI x))]) C dX7_goOver_40 (by decide) rfl ?_
          have Lp2 : ∀ (nn : Nat) (d2 k2 : Int) , 201 - k2 < (nn : Int) → (-2147483648 ≤ d2 ∧ d2 ≤ 2147483647) → (0 ≤ k2 ∧ k2 ≤ 200) → cw p l e 2 ((PHM) + 0 - ((Phi (g0 G) sk) ln rv)) s m args below meth c G A 6 (MQ below (Qu G A (Qp G (Phi (g0 G) sk) ((Phi (g0 G) sk) ln rv) 0 (fun v L2 cl2 ln2 iv2 rv2 => ∃ f : Int, v = some (.int (iI f)) ∧ L = L2 ∧ cl = cl2 ∧ ln = ln2 ∧ iv = iv2 ∧ rv = rv2 ∧ (-2147483648 ≤ f ∧ f ≤ 2147483647) ∧ (True)))) args s (((PHM) + 0 - ((Phi (g0 G) sk) ln rv)) / 16) ((PHM) + 0 - ((Phi (g0 G) sk) ln rv)) A) (Phi (g0 G) sk) ((Phi (g0 G) sk) ln rv) L cl ln iv rv 0 42 [(2, .int (iI d2)), (5, .int (iI k2)), (4, .ref ob1), (3, .int (iI k)), (0, .ref a0), (1, .int (iI x))] [] := by
            intro nn
            induction nn with
            | zero =>
              intro  d2 k2  hm   hd2 hk2
              exact absurd hm (by omega)
            | succ nn ih2 =>
              intro  d2 k2  hm   hd2 hk2
              refine c_aload (j := 2) (x := ob1) C dX7_goOver_42 rfl ?_
              refine c_ifnull (r := (some ob1)) (tgt := 77) C dX7_goOver_44 (by decide) (fun q => by cases q) (fun _ _ => ?_)
              refine c_iload (j := 1) C dX7_goOver_47 rfl ?_
              refine c_aload (j := 2) (x := ob1) C dX7_goOver_49 rfl ?_
              refine c_get (k := 1) C ck_3 dX7_goOver_51 w4_51 (by decide) tob1 rfl rfl (by decide) rfl ?_
              refine c_icmp_ge (tgt := 77) C (r32_c (lo := 0) (hi := 200) hk2.1 hk2.2 (by decide) (by decide)) (r32_c (lo := 0) (hi := 200) ri2.1 ri2.2 (by decide) (by decide)) dX7_goOver_54 (by decide) (fun c2 => ?_) (fun c2 => ?_)
              · refine c_iinc (z := k) (j := 3) (lv2 := [(3, .int (iI (k + 1))), (2, .int (iI d2)), (5, .int (iI k2)), (4, .ref ob1), (0, .ref a0), (1, .int (iI x))]) C dX7_goOver_77 rfl (by decide) rfl ?_
                refine c_goto (tgt := 4) C dX7_goOver_80 (by decide) ?_
                refine c_lv (lv2 := [(2, .int (iI d2)), (3, .int (iI (k + 1))), (0, .ref a0), (1, .int (iI x))]) [1, 0, 4, 5] rfl ?_
                exact ih1  d2 (k + 1)  (by omega)   (by omega) (by omega)
              · refine c_iload_n (j := 0) C dX7_goOver_57 rfl ?_
                refine c_bipush (z := 31) C dX7_goOver_58 (by decide) ?_
                refine c_imul C dX7_goOver_60 ?_
                obtain ⟨zz3, hzz3, ezz3⟩ := iI_of (iI (d2 * 31))
                refine c_st (st2 := [.int (iI zz3)]) (by rw [ezz3]) ?_
                refine c_aload (j := 2) (x := ob1) C dX7_goOver_61 rfl ?_
                obtain ⟨rb1, rq1, trb1⟩ := hW.ref tob1 0 rfl rfl rfl
                have lnrb1 : 200 ≤ ln rb1 ∧ ln rb1 ≤ 200 := hW.len trb1 rfl
                refine c_getr (k := 0) C ck_3 dX7_goOver_63 w4_47 (by decide) tob1 rfl rfl (by decide) rfl rq1 ?_
                refine c_st (st2 := [.ref rb1, .int (iI zz3)]) rfl ?_
                refine c_iload (j := 1) C dX7_goOver_66 rfl ?_
                have ll1 : 200 ≤ ln rb1 ∧ ln rb1 ≤ 200 := hW.len trb1 rfl
                refine c_iald C dX7_goOver_68 trb1 rfl (by omega) (by omega) (by omega) ?_
                have ri3 : (-2147483648) ≤ iv rb1 k2.toNat ∧ iv rb1 k2.toNat ≤ 2147483647 := hW.int trb1 k2.toNat
                refine c_iadd C dX7_goOver_69 ?_
                obtain ⟨zz4, hzz4, ezz4⟩ := iI_of (iI (zz3 + (iv rb1 k2.toNat)))
                refine c_st (st2 := [.int (iI zz4)]) (by rw [ezz4]) ?_
                refine c_istore_n (lv2 := [(2, .int (iI zz4)), (5, .int (iI k2)), (4, .ref ob1), (3, .int (iI k)), (0, .ref a0), (1, .int (iI x))]) C dX7_goOver_70 (by decide) rfl ?_
                refine c_iinc (z := k2) (j := 1) (lv2 := [(5, .int (iI (k2 + 1))), (2, .int (iI zz4)), (4, .ref ob1), (3, .int (iI k)), (0, .ref a0), (1, .int (iI x))]) C dX7_goOver_71 rfl (by decide) rfl ?_
                refine c_goto (tgt := 42) C dX7_goOver_74 (by decide) ?_
                refine c_lv (lv2 := [(2, .int (iI zz4)), (5, .int (iI (k2 + 1))), (4, .ref ob1), (3, .int (iI k)), (0, .ref a0), (1, .int (iI x))]) [1, 0, 2, 3, 4, 5] rfl ?_
                exact ih2  zz4 (k2 + 1)  (by omega)   (by omega) (by omega)
          refine c_lv (lv2 := [(2, .int (iI zz2)), (5, .int (iI 0)), (4, .ref ob1), (3, .int (iI k)), (0, .ref a0), (1, .int (iI x))]) [1, 0, 2, 3, 4, 5] rfl ?_
          exact Lp2 203 zz2 0  (by omega)   (by omega) (by omega)
        · subst oq1
          refine c_lv (lv2 := [(4, .null), (2, .int (iI d1)), (3, .int (iI k)), (0, .ref a0), (1, .int (iI x))]) [0, 1, 2, 3, 4] rfl ?_
          refine c_st (st2 := [.int (iI zz1)]) rfl ?_
          refine c_iconst C dX7_goOver_28 ?_
          refine c_goto (tgt := 37) C dX7_goOver_29 (by decide) ?_
          refine c_iadd C dX7_goOver_37 ?_
          obtain ⟨zz5, hzz5, ezz5⟩ := iI_of (iI (zz1 + (-1)))
          refine c_st (st2 := [.int (iI zz5)]) (by rw [ezz5]) ?_
          refine c_istore_n (lv2 := [(2, .int (iI zz5)), (4, .null), (3, .int (iI k)), (0, .ref a0), (1, .int (iI x))]) C dX7_goOver_38 (by decide) rfl ?_
          refine c_iconst C dX7_goOver_39 ?_
          refine c_istore (lv2 := [(5, .int (iI 0)), (2, .int (iI zz5)), (4, .null), (3, .int (iI k)), (0, .ref a0), (1, .int (iI x))]) C dX7_goOver_40 (by decide) rfl ?_
          have Lp3 : ∀ (nn : Nat) (d2 k2 : Int) , 201 - k2 < (nn : Int) → (-2147483648 ≤ d2 ∧ d2 ≤ 2147483647) → (0 ≤ k2 ∧ k2 ≤ 200) → cw p l e 2 ((PHM) + 0 - ((Phi (g0 G) sk) ln rv)) s m args below meth c G A 6 (MQ below (Qu G A (Qp G (Phi (g0 G) sk) ((Phi (g0 G) sk) ln rv) 0 (fun v L2 cl2 ln2 iv2 rv2 => ∃ f : Int, v = some (.int (iI f)) ∧ L = L2 ∧ cl = cl2 ∧ ln = ln2 ∧ iv = iv2 ∧ rv = rv2 ∧ (-2147483648 ≤ f ∧ f ≤ 2147483647) ∧ (True)))) args s (((PHM) + 0 - ((Phi (g0 G) sk) ln rv)) / 16) ((PHM) + 0 - ((Phi (g0 G) sk) ln rv)) A) (Phi (g0 G) sk) ((Phi (g0 G) sk) ln rv) L cl ln iv rv 0 42 [(2, .int (iI d2)), (5, .int (iI k2)), (4, .null), (3, .int (iI k)), (0, .ref a0), (1, .int (iI x))] [] := by
            intro nn
            induction nn with
            | zero =>
              intro  d2 k2  hm   hd2 hk2
              exact absurd hm (by omega)
            | succ nn ih3 =>
              intro  d2 k2  hm   hd2 hk2
              refine c_aloadr (j := 2) (r := none) C dX7_goOver_42 rfl ?_
              refine c_st (st2 := [.null]) rfl ?_
              refine c_ifnull (r := none) (tgt := 77) C dX7_goOver_44 (by decide) (fun _ => ?_) (fun _ q => by cases q)
              refine c_iinc (z := k) (j := 3) (lv2 := [(3, .int (iI (k + 1))), (2, .int (iI d2)), (5, .int (iI k2)), (4, .null), (0, .ref a0), (1, .int (iI x))]) C dX7_goOver_77 rfl (by decide) rfl ?_
              refine c_goto (tgt := 4) C dX7_goOver_80 (by decide) ?_
              refine c_lv (lv2 := [(2, .int (iI d2)), (3, .int (iI (k + 1))), (0, .ref a0), (1, .int (iI x))]) [1, 0, 4, 5] rfl ?_
              exact ih1  d2 (k + 1)  (by omega)   (by omega) (by omega)
          refine c_lv (lv2 := [(2, .int (iI zz5)), (5, .int (iI 0)), (4, .null), (3, .int (iI k)), (0, .ref a0), (1, .int (iI x))]) [1, 0, 2, 3, 4, 5] rfl ?_
          exact Lp3 203 zz5 0  (by omega)   (by omega) (by omega)
  refine c_lv (lv2 := [(2, .int (iI x)), (3, .int (iI 0)), (0, .ref a0), (1, .int (iI x))]) [1, 0, 2, 3] rfl ?_
  exact Lp1 203 x 0  (by omega)   (by omega) (by omega)
