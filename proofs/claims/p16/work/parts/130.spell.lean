theorem up2_up {a : Nat → Nat → Int} {k i : Nat} {z z2 : Int} : up2 (up2 a k i z) k i z2 = up2 a k i z2 := by
  funext x y
  unfold up2
  by_cases h : x = k
  · by_cases h2 : y = i
    · simp only [h, h2, if_true]
    · simp only [h, h2, if_true, if_false]
  · simp only [h, if_false]
set_option maxHeartbeats 4000000 in
set_option maxRecDepth 100000 in
theorem C_spellNext {l : Launch} {G : GT} {mi : Nat} {sk : Nat → Nat} {L : List Nat} {cl ln : Nat → Nat} {iv : Nat → Nat → Int} {rv : Nat → Nat → Option Nat}  {a0 : Nat} {n : Int} (hW : WT (g0 G) sk L cl ln iv rv) (hS : SKL sk L cl) (t_a0 : ty L cl a0 14) (h_n : -2147483648 ≤ n ∧ n ≤ 2147483647)  : Mc l G mi (Phi (g0 G) sk) PHM yX8_spellNext cX8_spellNext 3 (some .boolean) 3 [.ref a0, .int (iI n)] L cl ln iv rv 0 (fun v L2 cl2 ln2 iv2 rv2 => ∃ f : Int, v = some (.int (iI f)) ∧ L = L2 ∧ cl = cl2 ∧ ln = ln2 ∧ rv = rv2 ∧ fT [14, 58] L cl iv rv iv2 rv2 ∧ WT (g0 G) sk L2 cl2 ln2 iv2 rv2 ∧ (f = 0 ∨ f = 1) ∧ (True)) := by
  refine Mc.mk (by decide) (Nat.le_of_ble_eq_true rfl) ?_
  intro p e s m args below meth c A C hM
  refine hv3 (Phi.le hW hS) (show XT L cl ln L cl ln from XT.refl) (show fT [14, 58] L cl iv rv iv rv from fT.refl) (fun hph hX0 hF0 => ?_)
  refine c_aload_n (j := 0) (x := a0) C dX8_spellNext_0 rfl ?_
  have ri1 : 0 ≤ iv a0 7 ∧ iv a0 7 ≤ 6 := hW.int t_a0 7
  refine c_get (k := 7) C ck_9 dX8_spellNext_1 w1_111 (by decide) t_a0 rfl rfl (by decide) rfl ?_
  refine c_iconst C dX8_spellNext_4 ?_
  refine c_isub C dX8_spellNext_5 ?_
  refine c_istore_n (lv2 := [(2, .int (iI ((iv a0 7) - 1))), (0, .ref a0), (1, .int (iI n))]) C dX8_spellNext_6 (by decide) rfl ?_
  have Lp1 : ∀ (nn : Nat) (k : Int) (ivb1 : Nat → Nat → Int) , k + 2 < (nn : Int) → WT (g0 G) sk L cl ln ivb1 rv → fT [14, 58] L cl iv rv ivb1 rv → (-1 ≤ k ∧ k ≤ 5) → cw p l e 3 ((PHM) + 0 - ((Phi (g0 G) sk) ln rv)) s m args below meth c G A 3 (MQ below (Qu G A (Qp G (Phi (g0 G) sk) ((Phi (g0 G) sk) ln rv) 0 (fun v L2 cl2 ln2 iv2 rv2 => ∃ f : Int, v = some (.int (iI f)) ∧ L = L2 ∧ cl = cl2 ∧ ln = ln2 ∧ rv = rv2 ∧ fT [14, 58] L cl iv rv iv2 rv2 ∧ WT (g0 G) sk L2 cl2 ln2 iv2 rv2 ∧ (f = 0 ∨ f = 1) ∧ (True)))) args s (((PHM) + 0 - ((Phi (g0 G) sk) ln rv)) / 16) ((PHM) + 0 - ((Phi (g0 G) sk) ln rv)) A) (Phi (g0 G) sk) ((Phi (g0 G) sk) ln rv) L cl ln ivb1 rv 0 7 [(2, .int (iI k)), (0, .ref a0), (1, .int (iI n))] [] := by
    intro nn
    induction nn with
    | zero =>
      intro  k ivb1 hm Wb1 Fb1  hk
      exact absurd hm (by omega)
    | succ nn ih1 =>
      intro  k ivb1 hm Wb1 Fb1  hk
      refine c_iload_n (j := 0) C dX8_spellNext_7 rfl ?_
      refine c_if_lt (tgt := 49) C (r32_c (lo := (-1)) (hi := 5) hk.1 hk.2 (by decide) (by decide)) dX8_spellNext_8 (by decide) (fun c1 => ?_) (fun c1 => ?_)
      · refine c_aload_n (j := 1) (x := a0) C dX8_spellNext_49 rfl ?_
        refine c_iload_n (j := 2) C dX8_spellNext_50 rfl ?_
        have ri2 : 0 ≤ ivb1 a0 5 ∧ ivb1 a0 5 ≤ 126 := Wb1.int t_a0 5
        refine d_callV (As := [.int (iI n)]) (rest := []) C hM (C_lengthen (a0 := a0) (n := n) Wb1 hS t_a0 (by omega) ) dX8_spellNext_51 kV_X8_91 rfl t_a0 rfl rfl (by decide) ck_9 rfl (Nat.le_of_ble_eq_true rfl) ⟨(Nat.le_of_ble_eq_true rfl), (Nat.le_of_ble_eq_true rfl)⟩ hph hph (show 0 + 0 = 0 from rfl) (by decide) (fun rh1 Lh1 clh1 lnh1 ivh1 rvh1 h1 => ?_)
        obtain ⟨f1, rfl, rfl, rfl, rfl, rfl, fl1, W1, rgf1, exf1⟩ := h1
        have F1 := Fb1.call hX0 fl1 rfl
        refine c_st (st2 := [.int (iI f1)]) rfl ?_
        refine hv2 (show 0 ≤ ivh1 a0 5 ∧ ivh1 a0 5 ≤ 126 from W1.int t_a0 5) (show ivh1 a0 5 = ivb1 a0 5 from exf1) (fun ri3 gf1 => ?_)
        exact c_zret C dX8_spellNext_54 rfl (by omega) (by decide) (rom0 hph hph (by decide)) ⟨f1, rfl, rfl, rfl, rfl, rfl, F1, W1, (by omega), trivial⟩
      · refine c_aload_n (j := 1) (x := a0) C dX8_spellNext_11 rfl ?_
        obtain ⟨rb1, rq1, trb1⟩ := Wb1.ref t_a0 6 rfl rfl rfl
        have lnrb1 : 6 ≤ ln rb1 ∧ ln rb1 ≤ 6 := Wb1.len trb1 rfl
        refine c_getr (k := 6) C ck_9 dX8_spellNext_12 w1_110 (by decide) t_a0 rfl rfl (by decide) rfl rq1 ?_
        refine c_st (st2 := [.ref rb1]) rfl ?_
        refine c_iload_n (j := 0) C dX8_spellNext_15 rfl ?_
        refine c_dup2 C dX8_spellNext_16 rfl rfl ?_
        have ll1 : 6 ≤ ln rb1 ∧ ln rb1 ≤ 6 := Wb1.len trb1 rfl
        refine c_iald C dX8_spellNext_17 trb1 rfl (by omega) (by omega) (by omega) ?_
        have ri4 : 0 ≤ ivb1 rb1 k.toNat ∧ ivb1 rb1 k.toNat ≤ 125 := Wb1.int trb1 k.toNat
        refine c_iconst C dX8_spellNext_18 ?_
        refine c_iadd C dX8_spellNext_19 ?_
        have ri5 : 0 ≤ ivb1 a0 5 ∧ ivb1 a0 5 ≤ 126 := Wb1.int t_a0 5
        by_cases hsp : (ivb1 rb1 k.toNat) + 1 ≤ 125
        · refine c_iast (x := (ivb1 rb1 k.toNat) + 1) C dX8_spellNext_20 trb1 rfl (by omega) (by omega) (by omega) (fun iv1 pq1 => ?_)
          refine hv2 (Wb1.puti pq1 trb1 (show 0 ≤ ((ivb1 rb1 k.toNat) + 1) ∧ ((ivb1 rb1 k.toNat) + 1) ≤ 125 by omega) rfl) (Fb1.puti hX0 pq1 trb1 rfl) (fun W2 F2 => ?_)
          refine c_aload_n (j := 1) (x := a0) C dX8_spellNext_21 rfl ?_
          refine c_getr (k := 6) C ck_9 dX8_spellNext_22 w1_110 (by decide) t_a0 rfl rfl (by decide) rfl rq1 ?_
          refine c_st (st2 := [.ref rb1]) rfl ?_
          refine c_iload_n (j := 0) C dX8_spellNext_25 rfl ?_
          refine c_iald C dX8_spellNext_26 trb1 rfl (by omega) (by omega) (by omega) ?_
          refine hv2 (show 0 ≤ iv1 rb1 k.toNat ∧ iv1 rb1 k.toNat ≤ 125 from W2.int trb1 k.toNat) (show iv1 rb1 k.toNat = (ivb1 rb1 k.toNat) + 1 from by rw [pq1]; exact up2_s) (fun ri6 ie5 => ?_)
          refine c_aload_n (j := 1) (x := a0) C dX8_spellNext_27 rfl ?_
          refine hv2 (show 0 ≤ iv1 a0 5 ∧ iv1 a0 5 ≤ 126 from W2.int t_a0 5) (show iv1 a0 5 = ivb1 a0 5 from by rw [pq1]; exact up2_k (ne_ty t_a0 trb1 (by decide))) (fun ri7 ie6 => ?_)
          refine c_get (k := 5) C ck_9 dX8_spellNext_28 w1_109 (by decide) t_a0 rfl rfl (by decide) rfl ?_
          refine c_icmp_ge (tgt := 36) C (r32_c (lo := 0) (hi := 125) ri6.1 ri6.2 (by decide) (by decide)) (r32_c (lo := 0) (hi := 126) ri7.1 ri7.2 (by decide) (by decide)) dX8_spellNext_31 (by decide) (fun c2 => ?_) (fun c2 => ?_)
          · refine c_aload_n (j := 1) (x := a0) C dX8_spellNext_36 rfl ?_
            refine c_getr (k := 6) C ck_9 dX8_spellNext_37 w1_110 (by decide) t_a0 rfl rfl (by decide) rfl rq1 ?_
            refine c_st (st2 := [.ref rb1]) rfl ?_
            refine c_iload_n (j := 0) C dX8_spellNext_40 rfl ?_
            refine c_iconst C dX8_spellNext_41 ?_
            refine c_iast (x := 0) C dX8_spellNext_42 trb1 rfl (by omega) (by omega) (by omega) (fun iv2 pq2 => ?_)
            refine hv2 (W2.puti pq2 trb1 (show 0 ≤ 0 ∧ 0 ≤ 125 by omega) rfl) (F2.puti hX0 pq2 trb1 rfl) (fun W3 F3 => ?_)
            refine c_iinc (z := k) (j := 0) (lv2 := [(2, .int (iI (k + (-1)))), (0, .ref a0), (1, .int (iI n))]) C dX8_spellNext_43 rfl (by decide) rfl ?_
            refine c_goto (tgt := 7) C dX8_spellNext_46 (by decide) ?_
            refine c_lv (lv2 := [(2, .int (iI (k + (-1)))), (0, .ref a0), (1, .int (iI n))]) [0, 1, 2] rfl ?_
            exact ih1  (k + (-1)) _ (by omega) W3 F3  (by omega)
          · refine c_iconst C dX8_spellNext_34 ?_
            exact c_zret C dX8_spellNext_35 rfl (Or.inr rfl) (by decide) (rom0 hph hph (by decide)) ⟨1, rfl, rfl, rfl, rfl, rfl, F2, W2, (Or.inr rfl), trivial⟩
        · refine c_iast (x := (ivb1 rb1 k.toNat) + 1) C dX8_spellNext_20 trb1 rfl (by omega) (by omega) (by omega) (fun iv3 pq3 => ?_)
          refine hv2 (show iv3 rb1 k.toNat = (ivb1 rb1 k.toNat) + 1 from by rw [pq3]; exact up2_s) (show iv3 a0 5 = ivb1 a0 5 from by rw [pq3]; exact up2_k (ne_ty t_a0 trb1 (by decide))) (fun sb1 sb2 => ?_)
          refine c_aload_n (j := 1) (x := a0) C dX8_spellNext_21 rfl ?_
          refine c_getr (k := 6) C ck_9 dX8_spellNext_22 w1_110 (by decide) t_a0 rfl rfl (by decide) rfl rq1 ?_
          refine c_st (st2 := [.ref rb1]) rfl ?_
          refine c_iload_n (j := 0) C dX8_spellNext_25 rfl ?_
          refine c_iald C dX8_spellNext_26 trb1 rfl (by omega) (by omega) (by omega) ?_
          refine c_aload_n (j := 1) (x := a0) C dX8_spellNext_27 rfl ?_
          refine c_get (k := 5) C ck_9 dX8_spellNext_28 w1_109 (by decide) t_a0 rfl rfl (by decide) rfl ?_
          refine c_icmp_ge (tgt := 36) C ⟨by omega, by omega⟩ ⟨by omega, by omega⟩ dX8_spellNext_31 (by decide) (fun _ => ?_) (fun z => absurd z (by omega))
          refine c_aload_n (j := 1) (x := a0) C dX8_spellNext_36 rfl ?_
          refine c_getr (k := 6) C ck_9 dX8_spellNext_37 w1_110 (by decide) t_a0 rfl rfl (by decide) rfl rq1 ?_
          refine c_st (st2 := [.ref rb1]) rfl ?_
          refine c_iload_n (j := 0) C dX8_spellNext_40 rfl ?_
          refine c_iconst C dX8_spellNext_41 ?_
          refine c_iast (x := 0) C dX8_spellNext_42 trb1 rfl (by omega) (by omega) (by omega) (fun iv4 pq4 => ?_)
          have sb3 : iv4 = up2 ivb1 rb1 k.toNat 0 := by rw [pq4, pq3]; exact up2_up
          refine hv2 (Wb1.puti sb3 trb1 (show 0 ≤ 0 ∧ 0 ≤ 125 by omega) rfl) (Fb1.puti hX0 sb3 trb1 rfl) (fun W4 F4 => ?_)
          refine c_iinc (z := k) (j := 0) (lv2 := [(2, .int (iI (k + (-1)))), (0, .ref a0), (1, .int (iI n))]) C dX8_spellNext_43 rfl (by decide) rfl ?_
          refine c_goto (tgt := 7) C dX8_spellNext_46 (by decide) ?_
          refine c_lv (lv2 := [(2, .int (iI (k + (-1)))), (0, .ref a0), (1, .int (iI n))]) [0, 1, 2] rfl ?_
          exact ih1  (k + (-1)) _ (by omega) W4 F4  (by omega)
  refine c_lv (lv2 := [(2, .int (iI ((iv a0 7) - 1))), (0, .ref a0), (1, .int (iI n))]) [0, 1, 2] rfl ?_
  exact Lp1 10 ((iv a0 7) - 1) _ (by omega) hW hF0  (by omega)
