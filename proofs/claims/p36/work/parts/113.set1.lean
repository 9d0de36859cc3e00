theorem bt_100 {x : Nat} (h : bt x = 100) : 100 ≤ x ∧ x < 130 := by
  unfold bt at h
  split at h
  · split at h
    · omega
    · split at h <;> omega
  · split at h
    · omega
    · split at h <;> omega
set_option maxHeartbeats 4000000 in
set_option maxRecDepth 100000 in
theorem C_countFind {l : Launch} {G : GT} {mi : Nat} {sk : Nat → Nat} {L : List Nat} {cl ln : Nat → Nat} {iv : Nat → Nat → Int} {rv : Nat → Nat → Option Nat}  {a0 : Nat} {i : Int} (hW : WT (g0 G) sk L cl ln iv rv) (hS : SKL sk L cl) (t_a0 : ty L cl a0 15) (h_i : -2147483648 ≤ i ∧ i ≤ 2147483647)  : Mc l G mi (Phi (g0 G) sk) PHM yX6_countFind cX6_countFind 2 none 0 [.ref a0, .int (iI i)] L cl ln iv rv 0 (fun v L2 cl2 ln2 iv2 rv2 => v = none ∧ L = L2 ∧ cl = cl2 ∧ ln = ln2 ∧ rv = rv2 ∧ fT [55] L cl iv rv iv2 rv2 ∧ WT (g0 G) sk L2 cl2 ln2 iv2 rv2 ∧ (True)) := by
  refine Mc.mk (by decide) (Nat.le_of_ble_eq_true rfl) ?_
  intro p e s m args below meth c A C hM
  have hph := Phi.le hW hS
  have hX0 : XT L cl ln L cl ln := XT.refl
  have hF0 : fT [55] L cl iv rv iv rv := fT.refl
  refine c_iload_n (j := 1) C dX6_countFind_0 rfl ?_
  refine c_if_lt (tgt := 23) C ⟨by omega, by omega⟩ dX6_countFind_1 (by decide) (fun c1 => ?_) (fun c1 => ?_)
  · exact c_vret C dX6_countFind_23 rfl (by decide) (rom0 hph hph (by decide)) ⟨rfl, rfl, rfl, rfl, rfl, hF0, hW, trivial⟩
  · refine c_iload_n (j := 1) C dX6_countFind_4 rfl ?_
    refine c_aload_n (j := 0) (x := a0) C dX6_countFind_5 rfl ?_
    obtain ⟨rb1, rq1, trb1⟩ := hW.ref t_a0 8 rfl rfl rfl
    have lnrb1 : 5 ≤ ln rb1 ∧ ln rb1 ≤ 5 := hW.len trb1 rfl
    refine c_getr (k := 8) C ck_7 dX6_countFind_6 w1_150 (by decide) t_a0 rfl rfl (by decide) rfl rq1 ?_
    refine c_st (st2 := [.ref rb1, .int (iI i)]) rfl ?_
    have ll1 : 5 ≤ ln rb1 ∧ ln rb1 ≤ 5 := hW.len trb1 rfl
    refine c_alenI C dX6_countFind_9 trb1 rfl ?_
    refine c_icmp_ge (tgt := 23) C ⟨by omega, by omega⟩ ⟨by omega, by omega⟩ dX6_countFind_10 (by decide) (fun c2 => ?_) (fun c2 => ?_)
    · exact c_vret C dX6_countFind_23 rfl (by decide) (rom0 hph hph (by decide)) ⟨rfl, rfl, rfl, rfl, rfl, hF0, hW, trivial⟩
    · refine c_aload_n (j := 0) (x := a0) C dX6_countFind_13 rfl ?_
      refine c_getr (k := 8) C ck_7 dX6_countFind_14 w1_150 (by decide) t_a0 rfl rfl (by decide) rfl rq1 ?_
      refine c_st (st2 := [.ref rb1]) rfl ?_
      refine c_iload_n (j := 1) C dX6_countFind_17 rfl ?_
      refine c_dup2 C dX6_countFind_18 rfl rfl ?_
      refine c_iald C dX6_countFind_19 trb1 rfl (by omega) (by omega) (by omega) ?_
      have ri1 : (-2147483648) ≤ iv rb1 i.toNat ∧ iv rb1 i.toNat ≤ 2147483647 := hW.int trb1 i.toNat
      refine c_iconst C dX6_countFind_20 ?_
      refine c_iadd C dX6_countFind_21 ?_
      obtain ⟨zz1, hzz1, ezz1⟩ := iI_of (iI ((iv rb1 i.toNat) + 1))
      refine c_st (st2 := [.int (iI zz1), .int (iI i), .ref rb1]) (by rw [ezz1]) ?_
      refine c_iast (x := zz1) C dX6_countFind_22 trb1 rfl (by omega) (by omega) (by omega) (fun iv1 pq1 => ?_)
      have W1 := hW.puti pq1 trb1 (show (-2147483648) ≤ zz1 ∧ zz1 ≤ 2147483647 by omega) rfl
      have F1 := hF0.puti hX0 pq1 trb1 rfl
      exact c_vret C dX6_countFind_23 rfl (by decide) (rom0 hph hph (by decide)) ⟨rfl, rfl, rfl, rfl, rfl, F1, W1, trivial⟩
set_option maxHeartbeats 4000000 in
set_option maxRecDepth 100000 in
theorem C_markStart {l : Launch} {G : GT} {mi : Nat} {sk : Nat → Nat} {L : List Nat} {cl ln : Nat → Nat} {iv : Nat → Nat → Int} {rv : Nat → Nat → Option Nat}  {a0 : Nat} {i : Int} {n : Int} (hW : WT (g0 G) sk L cl ln iv rv) (hS : SKL sk L cl) (t_a0 : ty L cl a0 15) (h_i : -2147483648 ≤ i ∧ i ≤ 2147483647) (h_n : -2147483648 ≤ n ∧ n ≤ 2147483647) (hi : 0 ≤ i ∧ i ≤ 500 ∧ 0 ≤ n ∧ n ≤ 8) : Mc l G mi (Phi (g0 G) sk) PHM yX6_markStart cX6_markStart 4 none 0 [.ref a0, .int (iI i), .int (iI n)] L cl ln iv rv 0 (fun v L2 cl2 ln2 iv2 rv2 => v = none ∧ L = L2 ∧ cl = cl2 ∧ ln = ln2 ∧ rv = rv2 ∧ fT [53] L cl iv rv iv2 rv2 ∧ WT (g0 G) sk L2 cl2 ln2 iv2 rv2 ∧ (True)) := by
  refine Mc.mk (by decide) (Nat.le_of_ble_eq_true rfl) ?_
  intro p e s m args below meth c A C hM
  have hph := Phi.le hW hS
  have hX0 : XT L cl ln L cl ln := XT.refl
  have hF0 : fT [53] L cl iv rv iv rv := fT.refl
  refine c_iload_n (j := 1) C dX6_markStart_0 rfl ?_
  refine c_istore_n (lv2 := [(3, .int (iI i)), (0, .ref a0), (1, .int (iI i)), (2, .int (iI n))]) C dX6_markStart_1 (by decide) rfl ?_
  have Lp1 : ∀ (nn : Nat) (k : Int) (ivb1 : Nat → Nat → Int) , i + 9 - k < (nn : Int) → WT (g0 G) sk L cl ln ivb1 rv → fT [53] L cl iv rv ivb1 rv → (i ≤ k ∧ k ≤ i + 8) → cw p l e 0 ((PHM) + 0 - ((Phi (g0 G) sk) ln rv)) s m args below meth c G A 4 (MQ below (Qu G A (Qp G (Phi (g0 G) sk) ((Phi (g0 G) sk) ln rv) 0 (fun v L2 cl2 ln2 iv2 rv2 => v = none ∧ L = L2 ∧ cl = cl2 ∧ ln = ln2 ∧ rv = rv2 ∧ fT [53] L cl iv rv iv2 rv2 ∧ WT (g0 G) sk L2 cl2 ln2 iv2 rv2 ∧ (True)))) args s (((PHM) + 0 - ((Phi (g0 G) sk) ln rv)) / 16) ((PHM) + 0 - ((Phi (g0 G) sk) ln rv)) A) (Phi (g0 G) sk) ((Phi (g0 G) sk) ln rv) L cl ln ivb1 rv 0 2 [(3, .int (iI k)), (0, .ref a0), (1, .int (iI i)), (2, .int (iI n))] [] := by
    intro nn
    induction nn with
    | zero =>
      intro  k ivb1 hm Wb1 Fb1  hk
      exact absurd hm (by omega)
    | succ nn ih1 =>
      intro  k ivb1 hm Wb1 Fb1  hk
      refine c_iload_n (j := 0) C dX6_markStart_2 rfl ?_
      refine c_iload_n (j := 2) C dX6_markStart_3 rfl ?_
      refine c_iload_n (j := 3) C dX6_markStart_4 rfl ?_
      refine c_iadd C dX6_markStart_5 ?_
      refine c_icmp_ge (tgt := 41) C ⟨by omega, by omega⟩ ⟨by omega, by omega⟩ dX6_markStart_6 (by decide) (fun c1 => ?_) (fun c1 => ?_)
      · exact c_vret C dX6_markStart_41 rfl (by decide) (rom0 hph hph (by decide)) ⟨rfl, rfl, rfl, rfl, rfl, Fb1, Wb1, trivial⟩
      · refine c_iload_n (j := 0) C dX6_markStart_9 rfl ?_
        refine c_sipush (z := 500) C dX6_markStart_10 (by decide) ?_
        refine c_icmp_ge (tgt := 41) C ⟨by omega, by omega⟩ ⟨by decide, by decide⟩ dX6_markStart_13 (by decide) (fun c2 => ?_) (fun c2 => ?_)
        · exact c_vret C dX6_markStart_41 rfl (by decide) (rom0 hph hph (by decide)) ⟨rfl, rfl, rfl, rfl, rfl, Fb1, Wb1, trivial⟩
        · refine c_aload_n (j := 1) (x := a0) C dX6_markStart_16 rfl ?_
          obtain ⟨rb1, rq1, trb1⟩ := Wb1.ref t_a0 3 rfl rfl rfl
          have lnrb1 : 500 ≤ ln rb1 ∧ ln rb1 ≤ 500 := Wb1.len trb1 rfl
          refine c_getr (k := 3) C ck_7 dX6_markStart_17 w1_139 (by decide) t_a0 rfl rfl (by decide) rfl rq1 ?_
          refine c_st (st2 := [.ref rb1]) rfl ?_
          refine c_iload_n (j := 0) C dX6_markStart_20 rfl ?_
          refine c_iload_n (j := 0) C dX6_markStart_21 rfl ?_
          refine c_iload_n (j := 2) C dX6_markStart_22 rfl ?_
          refine c_icmp_ne (tgt := 33) C ⟨by omega, by omega⟩ ⟨by omega, by omega⟩ dX6_markStart_23 (by decide) (fun c3 => ?_) (fun c3 => ?_)
          · refine c_iconst C dX6_markStart_33 ?_
            have ll1 : 500 ≤ ln rb1 ∧ ln rb1 ≤ 500 := Wb1.len trb1 rfl
            refine c_iast (x := (-1)) C dX6_markStart_34 trb1 rfl (by omega) (by omega) (by omega) (fun iv1 pq1 => ?_)
            have W1 := Wb1.puti pq1 trb1 (show (-2147483648) ≤ (-1) ∧ (-1) ≤ 2147483647 by omega) rfl
            have F1 := Fb1.puti hX0 pq1 trb1 rfl
            refine c_iinc (z := k) (j := 0) (lv2 := [(3, .int (iI (k + 1))), (0, .ref a0), (1, .int (iI i)), (2, .int (iI n))]) C dX6_markStart_35 rfl (by decide) rfl ?_
            refine c_goto (tgt := 2) C dX6_markStart_38 (by decide) ?_
            refine c_lv (lv2 := [(3, .int (iI (k + 1))), (0, .ref a0), (1, .int (iI i)), (2, .int (iI n))]) [0, 1, 2, 3] rfl ?_
            exact ih1  (k + 1) _ (by omega) W1 F1  (by omega)
          · refine c_aload_n (j := 1) (x := a0) C dX6_markStart_26 rfl ?_
            have ri1 : 0 ≤ ivb1 a0 7 ∧ ivb1 a0 7 ≤ 100000 := Wb1.int t_a0 7
            have ie1 : ivb1 a0 7 = iv a0 7 := Fb1.i t_a0 rfl 7
            refine c_get (k := 7) C ck_7 dX6_markStart_27 w1_147 (by decide) t_a0 rfl rfl (by decide) rfl ?_
            refine c_goto (tgt := 34) C dX6_markStart_30 (by decide) ?_
            have ll2 : 500 ≤ ln rb1 ∧ ln rb1 ≤ 500 := Wb1.len trb1 rfl
            refine c_iast (x := ivb1 a0 7) C dX6_markStart_34 trb1 rfl (by omega) (by omega) (by omega) (fun iv2 pq2 => ?_)
            have W2 := Wb1.puti pq2 trb1 (show (-2147483648) ≤ (ivb1 a0 7) ∧ (ivb1 a0 7) ≤ 2147483647 by omega) rfl
            have F2 := Fb1.puti hX0 pq2 trb1 rfl
            refine c_iinc (z := k) (j := 0) (lv2 := [(3, .int (iI (k + 1))), (0, .ref a0), (1, .int (iI i)), (2, .int (iI n))]) C dX6_markStart_35 rfl (by decide) rfl ?_
            refine c_goto (tgt := 2) C dX6_markStart_38 (by decide) ?_
            refine c_lv (lv2 := [(3, .int (iI (k + 1))), (0, .ref a0), (1, .int (iI i)), (2, .int (iI n))]) [0, 1, 2, 3] rfl ?_
            exact ih1  (k + 1) _ (by omega) W2 F2  (by omega)
  refine c_lv (lv2 := [(3, .int (iI i)), (0, .ref a0), (1, .int (iI i)), (2, .int (iI n))]) [0, 1, 2, 3] rfl ?_
  exact Lp1 510 i _ (by omega) hW hF0  (by omega)
