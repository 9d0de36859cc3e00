set_option maxHeartbeats 4000000 in
set_option maxRecDepth 100000 in
theorem G_lclear {l : Launch} {G : GT} {mi : Nat} {sk : Nat → Nat} {L : List Nat} {cl ln : Nat → Nat} {iv : Nat → Nat → Int} {rv : Nat → Nat → Option Nat}  {a0 : Nat} (hW : WT (g0 G) sk L cl ln iv rv) (hS : SKL sk L cl) (t_a0 : ty L cl a0 19)  : Mc l G mi (Phi (g0 G) sk) PHM yX2_clear cX2_clear 1 none 0 [.ref a0] L cl ln iv rv 0 (fun v L2 cl2 ln2 iv2 rv2 => v = none ∧ L = L2 ∧ cl = cl2 ∧ ln = ln2 ∧ rv = rv2 ∧ fT [19] L cl iv rv iv2 rv2 ∧ WT (g0 G) sk L2 cl2 ln2 iv2 rv2 ∧ (iv2 a0 1 = 0 ∧ iv2 a0 2 = 0 ∧ LFR L cl iv rv iv2 a0)) := by
  refine Mc.mk (by decide) (Nat.le_of_ble_eq_true rfl) ?_
  intro p e s m args below meth c A C hM
  refine hv3 (Phi.le hW hS) (show XT L cl ln L cl ln from XT.refl) (show fT [19] L cl iv rv iv rv from fT.refl) (fun hph hX0 hF0 => ?_)
  refine c_aload_n (j := 0) (x := a0) C dX2_clear_0 rfl ?_
  refine c_iconst C dX2_clear_1 ?_
  refine c_put (z := 0) (k := 1) C ck_3 dX2_clear_2 w4_49 (by decide) rfl t_a0 rfl rfl (by decide) rfl (by rfl) (by rfl) (fun iv1 pq1 => ?_)
  refine hv2 (hW.puti pq1 t_a0 ⟨by decide, by decide⟩ rfl) (hF0.puti hX0 pq1 t_a0 rfl) (fun W1 F1 => ?_)
  refine c_aload_n (j := 0) (x := a0) C dX2_clear_5 rfl ?_
  refine c_iconst C dX2_clear_6 ?_
  refine c_put (z := 0) (k := 2) C ck_3 dX2_clear_7 w4_54 (by decide) rfl t_a0 rfl rfl (by decide) rfl (by decide) (by decide) (fun iv2 pq2 => ?_)
  refine hv5 (W1.puti pq2 t_a0 ⟨by decide, by decide⟩ rfl) (F1.puti hX0 pq2 t_a0 rfl) (show iv2 a0 1 = iv1 a0 1 from by rw [pq2]; exact up2_j (by decide)) (show iv1 a0 1 = 0 from by rw [pq1]; exact up2_s) (show iv2 a0 2 = 0 from by rw [pq2]; exact up2_s) (fun W2 F2 ie1 ie2 ie3 => ?_)
  refine hv2 (show 0 ≤ iv2 a0 1 ∧ iv2 a0 1 ≤ 200 from W2.int t_a0 1) (show 0 ≤ iv2 a0 2 ∧ iv2 a0 2 ≤ 1 from W2.int t_a0 2) (fun ri1 ri2 => ?_)
  exact c_vret C dX2_clear_10 rfl (by decide) (rom0 hph hph (by decide)) ⟨rfl, rfl, rfl, rfl, rfl, F2, W2, ⟨by omega, by omega, (LFR.refl.self t_a0 pq1).self t_a0 pq2⟩⟩
set_option maxHeartbeats 4000000 in
set_option maxRecDepth 100000 in
theorem G_ladd {l : Launch} {G : GT} {mi : Nat} {sk : Nat → Nat} {L : List Nat} {cl ln : Nat → Nat} {iv : Nat → Nat → Int} {rv : Nat → Nat → Option Nat}  {a0 : Nat} {x : Int} (hW : WT (g0 G) sk L cl ln iv rv) (hS : SKL sk L cl) (t_a0 : ty L cl a0 19) (h_x : -2147483648 ≤ x ∧ x ≤ 2147483647)  : Mc l G mi (Phi (g0 G) sk) PHM yX2_add cX2_add 2 none 0 [.ref a0, .int (iI x)] L cl ln iv rv 0 (fun v L2 cl2 ln2 iv2 rv2 => v = none ∧ L = L2 ∧ cl = cl2 ∧ ln = ln2 ∧ rv = rv2 ∧ fT [19, 64] L cl iv rv iv2 rv2 ∧ WT (g0 G) sk L2 cl2 ln2 iv2 rv2 ∧ (((iv2 a0 1 = iv a0 1 ∧ iv a0 1 = 200) ∨ iv2 a0 1 = iv a0 1 + 1) ∧ (LFR L cl iv rv iv2 a0 ∧ iv2 a0 2 = iv a0 2) ∧ LAX iv rv iv2 a0 x)) := by
  refine Mc.mk (by decide) (Nat.le_of_ble_eq_true rfl) ?_
  intro p e s m args below meth c A C hM
  refine hv3 (Phi.le hW hS) (show XT L cl ln L cl ln from XT.refl) (show fT [19, 64] L cl iv rv iv rv from fT.refl) (fun hph hX0 hF0 => ?_)
  refine c_aload_n (j := 0) (x := a0) C dX2_add_0 rfl ?_
  have ri1 : 0 ≤ iv a0 1 ∧ iv a0 1 ≤ 200 := hW.int t_a0 1
  refine c_get (k := 1) C ck_3 dX2_add_1 w4_49 (by decide) t_a0 rfl rfl (by decide) rfl ?_
  refine c_sipush (z := 200) C dX2_add_4 (by decide) ?_
  refine c_icmp_ge (tgt := 30) C (r32_c (lo := 0) (hi := 200) ri1.1 ri1.2 (by decide) (by decide)) ⟨by decide, by decide⟩ dX2_add_7 (by decide) (fun c1 => ?_) (fun c1 => ?_)
  · have ri2 : 0 ≤ iv a0 2 ∧ iv a0 2 ≤ 1 := hW.int t_a0 2
    exact c_vret C dX2_add_30 rfl (by decide) (rom0 hph hph (by decide)) ⟨rfl, rfl, rfl, rfl, rfl, hF0, hW, ⟨by omega, ⟨LFR.refl, rfl⟩, LAX.full (by omega)⟩⟩
  · refine c_aload_n (j := 0) (x := a0) C dX2_add_10 rfl ?_
    obtain ⟨rb1, rq1, trb1⟩ := hW.ref t_a0 0 rfl rfl rfl
    have lnrb1 : 200 ≤ ln rb1 ∧ ln rb1 ≤ 200 := hW.len trb1 rfl
    refine c_getr (k := 0) C ck_3 dX2_add_11 w4_44 (by decide) t_a0 rfl rfl (by decide) rfl rq1 ?_
    refine c_st (st2 := [.ref rb1]) rfl ?_
    refine c_aload_n (j := 0) (x := a0) C dX2_add_14 rfl ?_
    refine c_get (k := 1) C ck_3 dX2_add_15 w4_49 (by decide) t_a0 rfl rfl (by decide) rfl ?_
    refine c_iload_n (j := 1) C dX2_add_18 rfl ?_
    have ll1 : 200 ≤ ln rb1 ∧ ln rb1 ≤ 200 := hW.len trb1 rfl
    refine c_iast (x := x) C dX2_add_19 trb1 rfl (by omega) (by omega) (by omega) (fun iv1 pq1 => ?_)
    refine hv2 (hW.puti pq1 trb1 (show (-2147483648) ≤ x ∧ x ≤ 2147483647 by omega) rfl) (hF0.puti hX0 pq1 trb1 rfl) (fun W1 F1 => ?_)
    refine c_aload_n (j := 0) (x := a0) C dX2_add_20 rfl ?_
    refine c_dup C dX2_add_21 rfl ?_
    refine hv2 (show 0 ≤ iv1 a0 1 ∧ iv1 a0 1 ≤ 200 from W1.int t_a0 1) (show iv1 a0 1 = iv a0 1 from by rw [pq1]; exact up2_k (ne_ty t_a0 trb1 (by decide))) (fun ri3 ie1 => ?_)
    refine c_get (k := 1) C ck_3 dX2_add_22 w4_49 (by decide) t_a0 rfl rfl (by decide) rfl ?_
    refine c_iconst C dX2_add_25 ?_
    refine c_iadd C dX2_add_26 ?_
    refine c_put (z := (iv1 a0 1) + 1) (k := 1) C ck_3 dX2_add_27 w4_49 (by decide) rfl t_a0 rfl rfl (by decide) rfl (by rfl) (by rfl) (fun iv2 pq2 => ?_)
    refine hv5 (W1.puti pq2 t_a0 (show 0 ≤ ((iv1 a0 1) + 1) ∧ ((iv1 a0 1) + 1) ≤ 200 by omega) rfl) (F1.puti hX0 pq2 t_a0 rfl) (show iv2 a0 1 = (iv1 a0 1) + 1 from by rw [pq2]; exact up2_s) (show iv2 a0 2 = iv1 a0 2 from by rw [pq2]; exact up2_j (by decide)) (show iv1 a0 2 = iv a0 2 from by rw [pq1]; exact up2_k (ne_ty t_a0 trb1 (by decide))) (fun W2 F2 ie2 ie3 ie4 => ?_)
    refine hv2 (show 0 ≤ iv2 a0 1 ∧ iv2 a0 1 ≤ 200 from W2.int t_a0 1) (show 0 ≤ iv2 a0 2 ∧ iv2 a0 2 ≤ 1 from W2.int t_a0 2) (fun ri4 ri5 => ?_)
    exact c_vret C dX2_add_30 rfl (by decide) (rom0 hph hph (by decide)) ⟨rfl, rfl, rfl, rfl, rfl, F2, W2, ⟨by omega, ⟨(LFR.refl.cell rq1 trb1 pq1).self t_a0 pq2, by omega⟩, LAX.mk rq1 pq1 pq2 rfl (by omega) (ne_ty trb1 t_a0 (by decide))⟩⟩
set_option maxHeartbeats 4000000 in
set_option maxRecDepth 100000 in
theorem G_addPart {l : Launch} {G : GT} {mi : Nat} {sk : Nat → Nat} {L : List Nat} {cl ln : Nat → Nat} {iv : Nat → Nat → Int} {rv : Nat → Nat → Option Nat}  {a0 : Nat} {a1 : Nat} {i : Int} {j : Int} (hW : WT (g0 G) sk L cl ln iv rv) (hS : SKL sk L cl) (t_a0 : ty L cl a0 19) (t_a1 : ty L cl a1 15) (h_i : -2147483648 ≤ i ∧ i ≤ 2147483647) (h_j : -2147483648 ≤ j ∧ j ≤ 2147483647) (hi : 0 ≤ i) : Mc l G mi (Phi (g0 G) sk) PHM yX2_addPart cX2_addPart 5 none 1 [.ref a0, .ref a1, .int (iI i), .int (iI j)] L cl ln iv rv 0 (fun v L2 cl2 ln2 iv2 rv2 => v = none ∧ L = L2 ∧ cl = cl2 ∧ ln = ln2 ∧ rv = rv2 ∧ fT [19, 64] L cl iv rv iv2 rv2 ∧ WT (g0 G) sk L2 cl2 ln2 iv2 rv2 ∧ ((LFR L cl iv rv iv2 a0 ∧ iv2 a0 2 = iv a0 2) ∧ APX iv rv iv2 a0 a1 i j)) := by
  refine Mc.mk (by decide) (Nat.le_of_ble_eq_true rfl) ?_
  intro p e s m args below meth c A C hM
  refine hv5 (Phi.le hW hS) (show XT L cl ln L cl ln from XT.refl) (show fT [19, 64] L cl iv rv iv rv from fT.refl) (show 0 ≤ iv a0 1 ∧ iv a0 1 ≤ 200 from hW.int t_a0 1) (show 0 ≤ iv a0 2 ∧ iv a0 2 ≤ 1 from hW.int t_a0 2) (fun hph hX0 hF0 ri1 ri2 => ?_)
  refine c_aload_n (j := 0) (x := a0) C dX2_addPart_0 rfl ?_
  refine c_get (k := 1) C ck_3 dX2_addPart_1 w4_49 (by decide) t_a0 rfl rfl (by decide) rfl ?_
  refine c_if_le (tgt := 12) C (r32_c (lo := 0) (hi := 200) ri1.1 ri1.2 (by decide) (by decide)) dX2_addPart_4 (by decide) (fun c1 => ?_) (fun c1 => ?_)
  · refine c_iload_n (j := 2) C dX2_addPart_12 rfl ?_
    refine c_istore (lv2 := [(4, .int (iI i)), (0, .ref a0), (1, .ref a1), (2, .int (iI i)), (3, .int (iI j))]) C dX2_addPart_13 (by decide) rfl ?_
    have Lp1 : ∀ (nn : Nat) (k : Int) (ivb1 : Nat → Nat → Int) , max 0 (201 - k) < (nn : Int) → WT (g0 G) sk L cl ln ivb1 rv → fT [19, 64] L cl iv rv ivb1 rv → (0 ≤ k ∧ k ≤ 2147483647 ∧ i ≤ k) → (k = i ∨ k ≤ j) → (LFR L cl iv rv ivb1 a0) → (ivb1 a0 2 = iv a0 2) → (APK iv rv ivb1 a0 a1 i k) → cw p l e 1 ((PHM) + 0 - ((Phi (g0 G) sk) ln rv)) s m args below meth c G A 5 (MQ below (Qu G A (Qp G (Phi (g0 G) sk) ((Phi (g0 G) sk) ln rv) 0 (fun v L2 cl2 ln2 iv2 rv2 => v = none ∧ L = L2 ∧ cl = cl2 ∧ ln = ln2 ∧ rv = rv2 ∧ fT [19, 64] L cl iv rv iv2 rv2 ∧ WT (g0 G) sk L2 cl2 ln2 iv2 rv2 ∧ ((LFR L cl iv rv iv2 a0 ∧ iv2 a0 2 = iv a0 2) ∧ APX iv rv iv2 a0 a1 i j)))) args s (((PHM) + 0 - ((Phi (g0 G) sk) ln rv)) / 16) ((PHM) + 0 - ((Phi (g0 G) sk) ln rv)) A) (Phi (g0 G) sk) ((Phi (g0 G) sk) ln rv) L cl ln ivb1 rv 0 15 [(4, .int (iI k)), (0, .ref a0), (1, .ref a1), (2, .int (iI i)), (3, .int (iI j))] [] := by
      intro nn
      induction nn with
      | zero =>
        intro  k ivb1 hm Wb1 Fb1  hk hki hLF h2e hAP
        exact absurd hm (by omega)
      | succ nn ih1 =>
        intro  k ivb1 hm Wb1 Fb1  hk hki hLF h2e hAP
        refine c_iload (j := 0) C dX2_addPart_15 rfl ?_
        refine c_iload_n (j := 4) C dX2_addPart_17 rfl ?_
        refine c_icmp_ge (tgt := 46) C (r32_c (lo := 0) (hi := 2147483647) hk.1 hk.2.1 (by decide) (by decide)) ⟨by omega, by omega⟩ dX2_addPart_18 (by decide) (fun c2 => ?_) (fun c2 => ?_)
        · have ri3 : 0 ≤ ivb1 a0 1 ∧ ivb1 a0 1 ≤ 200 := Wb1.int t_a0 1
          have ri4 : 0 ≤ ivb1 a0 2 ∧ ivb1 a0 2 ≤ 1 := Wb1.int t_a0 2
          exact c_vret C dX2_addPart_46 rfl (by decide) (rom0 hph hph (by decide)) ⟨rfl, rfl, rfl, rfl, rfl, Fb1, Wb1, ⟨⟨hLF, by omega⟩, APX.fin hAP (by omega) (by omega)⟩⟩
        · refine c_iload (j := 0) C dX2_addPart_21 rfl ?_
          refine c_sipush (z := 200) C dX2_addPart_23 (by decide) ?_
          refine c_icmp_ge (tgt := 46) C (r32_c (lo := 0) (hi := 2147483647) hk.1 hk.2.1 (by decide) (by decide)) ⟨by decide, by decide⟩ dX2_addPart_26 (by decide) (fun c3 => ?_) (fun c3 => ?_)
          · have ri5 : 0 ≤ ivb1 a0 1 ∧ ivb1 a0 1 ≤ 200 := Wb1.int t_a0 1
            have ri6 : 0 ≤ ivb1 a0 2 ∧ ivb1 a0 2 ≤ 1 := Wb1.int t_a0 2
            exact c_vret C dX2_addPart_46 rfl (by decide) (rom0 hph hph (by decide)) ⟨rfl, rfl, rfl, rfl, rfl, Fb1, Wb1, ⟨⟨hLF, by omega⟩, APX.fin hAP (by omega) (by omega)⟩⟩
          · refine c_aload_n (j := 1) (x := a0) C dX2_addPart_29 rfl ?_
            refine c_aload_n (j := 2) (x := a1) C dX2_addPart_30 rfl ?_
            obtain ⟨rb1, rq1, trb1⟩ := Wb1.ref t_a1 6 rfl rfl rfl
            have lnrb1 : 200 ≤ ln rb1 ∧ ln rb1 ≤ 200 := Wb1.len trb1 rfl
            refine c_getr (k := 6) C ck_7 dX2_addPart_31 w1_145 (by decide) t_a1 rfl rfl (by decide) rfl rq1 ?_
            refine c_st (st2 := [.ref rb1, .ref a0]) rfl ?_
            refine c_iload (j := 0) C dX2_addPart_34 rfl ?_
            have ll1 : 200 ≤ ln rb1 ∧ ln rb1 ≤ 200 := Wb1.len trb1 rfl
            refine c_iald C dX2_addPart_36 trb1 rfl (by omega) (by omega) (by omega) ?_
            refine hv4 (show (-2147483648) ≤ ivb1 rb1 k.toNat ∧ ivb1 rb1 k.toNat ≤ 2147483647 from Wb1.int trb1 k.toNat) (show ivb1 rb1 k.toNat = iv rb1 k.toNat from Fb1.i trb1 rfl k.toNat) (show 0 ≤ ivb1 a0 1 ∧ ivb1 a0 1 ≤ 200 from Wb1.int t_a0 1) (show 0 ≤ ivb1 a0 2 ∧ ivb1 a0 2 ≤ 1 from Wb1.int t_a0 2) (fun ri7 ie5 ri8 ri9 => ?_)
            refine d_callV (As := [.int (iI (ivb1 rb1 k.toNat))]) (rest := []) C hM (G_ladd (a0 := a0) (x := ivb1 rb1 k.toNat) Wb1 hS t_a0 (by omega) ) dX2_addPart_37 kV_X2_23 rfl t_a0 rfl rfl (by decide) ck_3 rfl (Nat.le_of_ble_eq_true rfl) ⟨(Nat.le_of_ble_eq_true rfl), (Nat.le_of_ble_eq_true rfl)⟩ hph hph (show 0 + 0 = 0 from rfl) (by decide) (fun rh1 Lh1 clh1 lnh1 ivh1 rvh1 h1 => ?_)
            obtain ⟨rfl, rfl, rfl, rfl, rfl, fl1, W1, exf1⟩ := h1
            have F1 := Fb1.call hX0 fl1 rfl
            refine c_st (st2 := []) rfl ?_
            refine hv3 (show 0 ≤ ivh1 a0 1 ∧ ivh1 a0 1 ≤ 200 from W1.int t_a0 1) (show 0 ≤ ivh1 a0 2 ∧ ivh1 a0 2 ≤ 1 from W1.int t_a0 2) (show ((ivh1 a0 1 = ivb1 a0 1 ∧ ivb1 a0 1 = 200) ∨ ivh1 a0 1 = ivb1 a0 1 + 1) ∧ (LFR L cl ivb1 rv ivh1 a0 ∧ ivh1 a0 2 = ivb1 a0 2) ∧ LAX ivb1 rv ivh1 a0 (ivb1 rb1 k.toNat) from exf1) (fun ri10 ri11 gf1 => ?_)
            refine c_iinc (z := k) (j := 0) (lv2 := [(4, .int (iI (k + 1))), (0, .ref a0), (1, .ref a1), (2, .int (iI i)), (3, .int (iI j))]) C dX2_addPart_40 rfl (by decide) rfl ?_
            refine c_goto (tgt := 15) C dX2_addPart_43 (by decide) ?_
            refine c_lv (lv2 := [(4, .int (iI (k + 1))), (0, .ref a0), (1, .ref a1), (2, .int (iI i)), (3, .int (iI j))]) [0, 1, 2, 3, 4] rfl ?_
            exact ih1  (k + 1) _ (by omega) W1 F1  (by omega) (by omega) (hLF.trans gf1.2.1.1) (by show ivh1 a0 2 = iv a0 2; omega) (hAP.step gf1.2.2 rq1 rfl (Fb1.i trb1 rfl _) ⟨by omega, by omega, by omega⟩)
    refine c_lv (lv2 := [(4, .int (iI i)), (0, .ref a0), (1, .ref a1), (2, .int (iI i)), (3, .int (iI j))]) [0, 1, 2, 3, 4] rfl ?_
    exact Lp1 203 i _ (by omega) hW hF0  (by omega) (by omega) LFR.refl rfl (APK.init0 (by omega))
  · refine c_aload_n (j := 0) (x := a0) C dX2_addPart_7 rfl ?_
    refine c_iconst C dX2_addPart_8 ?_
    refine d_callV (As := [.int (iI 0)]) (rest := []) C hM (G_ladd (a0 := a0) (x := 0) hW hS t_a0 ⟨by decide, by decide⟩ ) dX2_addPart_9 kV_X2_23 rfl t_a0 rfl rfl (by decide) ck_3 rfl (Nat.le_of_ble_eq_true rfl) ⟨(Nat.le_of_ble_eq_true rfl), (Nat.le_of_ble_eq_true rfl)⟩ hph hph (show 0 + 0 = 0 from rfl) (by decide) (fun rh2 Lh2 clh2 lnh2 ivh2 rvh2 h2 => ?_)
    obtain ⟨rfl, rfl, rfl, rfl, rfl, fl2, W2, exf2⟩ := h2
    have F2 := hF0.call hX0 fl2 rfl
    refine c_st (st2 := []) rfl ?_
    refine hv3 (show 0 ≤ ivh2 a0 1 ∧ ivh2 a0 1 ≤ 200 from W2.int t_a0 1) (show 0 ≤ ivh2 a0 2 ∧ ivh2 a0 2 ≤ 1 from W2.int t_a0 2) (show ((ivh2 a0 1 = iv a0 1 ∧ iv a0 1 = 200) ∨ ivh2 a0 1 = iv a0 1 + 1) ∧ (LFR L cl iv rv ivh2 a0 ∧ ivh2 a0 2 = iv a0 2) ∧ LAX iv rv ivh2 a0 (0 : Int) from exf2) (fun ri12 ri13 gf2 => ?_)
    refine c_iload_n (j := 2) C dX2_addPart_12 rfl ?_
    refine c_istore (lv2 := [(4, .int (iI i)), (0, .ref a0), (1, .ref a1), (2, .int (iI i)), (3, .int (iI j))]) C dX2_addPart_13 (by decide) rfl ?_
    have Lp2 : ∀ (nn : Nat) (k : Int) (ivb2 : Nat → Nat → Int) , max 0 (201 - k) < (nn : Int) → WT (g0 G) sk L cl ln ivb2 rv → fT [19, 64] L cl iv rv ivb2 rv → (0 ≤ k ∧ k ≤ 2147483647 ∧ i ≤ k) → (k = i ∨ k ≤ j) → (LFR L cl iv rv ivb2 a0) → (ivb2 a0 2 = iv a0 2) → (APK iv rv ivb2 a0 a1 i k) → cw p l e 1 ((PHM) + 0 - ((Phi (g0 G) sk) ln rv)) s m args below meth c G A 5 (MQ below (Qu G A (Qp G (Phi (g0 G) sk) ((Phi (g0 G) sk) ln rv) 0 (fun v L2 cl2 ln2 iv2 rv2 => v = none ∧ L = L2 ∧ cl = cl2 ∧ ln = ln2 ∧ rv = rv2 ∧ fT [19, 64] L cl iv rv iv2 rv2 ∧ WT (g0 G) sk L2 cl2 ln2 iv2 rv2 ∧ ((LFR L cl iv rv iv2 a0 ∧ iv2 a0 2 = iv a0 2) ∧ APX iv rv iv2 a0 a1 i j)))) args s (((PHM) + 0 - ((Phi (g0 G) sk) ln rv)) / 16) ((PHM) + 0 - ((Phi (g0 G) sk) ln rv)) A) (Phi (g0 G) sk) ((Phi (g0 G) sk) ln rv) L cl ln ivb2 rv 0 15 [(4, .int (iI k)), (0, .ref a0), (1, .ref a1), (2, .int (iI i)), (3, .int (iI j))] [] := by
      intro nn
      induction nn with
      | zero =>
        intro  k ivb2 hm Wb2 Fb2  hk hki hLF h2e hAP
        exact absurd hm (by omega)
      | succ nn ih2 =>
        intro  k ivb2 hm Wb2 Fb2  hk hki hLF h2e hAP
        refine c_iload (j := 0) C dX2_addPart_15 rfl ?_
        refine c_iload_n (j := 4) C dX2_addPart_17 rfl ?_
        refine c_icmp_ge (tgt := 46) C (r32_c (lo := 0) (hi := 2147483647) hk.1 hk.2.1 (by decide) (by decide)) ⟨by omega, by omega⟩ dX2_addPart_18 (by decide) (fun c4 => ?_) (fun c4 => ?_)
        · have ri14 : 0 ≤ ivb2 a0 1 ∧ ivb2 a0 1 ≤ 200 := Wb2.int t_a0 1
          have ri15 : 0 ≤ ivb2 a0 2 ∧ ivb2 a0 2 ≤ 1 := Wb2.int t_a0 2
          exact c_vret C dX2_addPart_46 rfl (by decide) (rom0 hph hph (by decide)) ⟨rfl, rfl, rfl, rfl, rfl, Fb2, Wb2, ⟨⟨hLF, by omega⟩, APX.fin hAP (by omega) (by omega)⟩⟩
        · refine c_iload (j := 0) C dX2_addPart_21 rfl ?_
          refine c_sipush (z := 200) C dX2_addPart_23 (by decide) ?_
          refine c_icmp_ge (tgt := 46) C (r32_c (lo := 0) (hi := 2147483647) hk.1 hk.2.1 (by decide) (by decide)) ⟨by decide, by decide⟩ dX2_addPart_26 (by decide) (fun c5 => ?_) (fun c5 => ?_)
          · have ri16 : 0 ≤ ivb2 a0 1 ∧ ivb2 a0 1 ≤ 200 := Wb2.int t_a0 1
            have ri17 : 0 ≤ ivb2 a0 2 ∧ ivb2 a0 2 ≤ 1 := Wb2.int t_a0 2
            exact c_vret C dX2_addPart_46 rfl (by decide) (rom0 hph hph (by decide)) ⟨rfl, rfl, rfl, rfl, rfl, Fb2, Wb2, ⟨⟨hLF, by omega⟩, APX.fin hAP (by omega) (by omega)⟩⟩
          · refine c_aload_n (j := 1) (x := a0) C dX2_addPart_29 rfl ?_
            refine c_aload_n (j := 2) (x := a1) C dX2_addPart_30 rfl ?_
            obtain ⟨rb2, rq2, trb2⟩ := Wb2.ref t_a1 6 rfl rfl rfl
            have lnrb2 : 200 ≤ ln rb2 ∧ ln rb2 ≤ 200 := Wb2.len trb2 rfl
            refine c_getr (k := 6) C ck_7 dX2_addPart_31 w1_145 (by decide) t_a1 rfl rfl (by decide) rfl rq2 ?_
            refine c_st (st2 := [.ref rb2, .ref a0]) rfl ?_
            refine c_iload (j := 0) C dX2_addPart_34 rfl ?_
            have ll2 : 200 ≤ ln rb2 ∧ ln rb2 ≤ 200 := Wb2.len trb2 rfl
            refine c_iald C dX2_addPart_36 trb2 rfl (by omega) (by omega) (by omega) ?_
            refine hv4 (show (-2147483648) ≤ ivb2 rb2 k.toNat ∧ ivb2 rb2 k.toNat ≤ 2147483647 from Wb2.int trb2 k.toNat) (show ivb2 rb2 k.toNat = iv rb2 k.toNat from Fb2.i trb2 rfl k.toNat) (show 0 ≤ ivb2 a0 1 ∧ ivb2 a0 1 ≤ 200 from Wb2.int t_a0 1) (show 0 ≤ ivb2 a0 2 ∧ ivb2 a0 2 ≤ 1 from Wb2.int t_a0 2) (fun ri18 ie16 ri19 ri20 => ?_)
            refine d_callV (As := [.int (iI (ivb2 rb2 k.toNat))]) (rest := []) C hM (G_ladd (a0 := a0) (x := ivb2 rb2 k.toNat) Wb2 hS t_a0 (by omega) ) dX2_addPart_37 kV_X2_23 rfl t_a0 rfl rfl (by decide) ck_3 rfl (Nat.le_of_ble_eq_true rfl) ⟨(Nat.le_of_ble_eq_true rfl), (Nat.le_of_ble_eq_true rfl)⟩ hph hph (show 0 + 0 = 0 from rfl) (by decide) (fun rh3 Lh3 clh3 lnh3 ivh3 rvh3 h3 => ?_)
            obtain ⟨rfl, rfl, rfl, rfl, rfl, fl3, W3, exf3⟩ := h3
            have F3 := Fb2.call hX0 fl3 rfl
            refine c_st (st2 := []) rfl ?_
            refine hv3 (show 0 ≤ ivh3 a0 1 ∧ ivh3 a0 1 ≤ 200 from W3.int t_a0 1) (show 0 ≤ ivh3 a0 2 ∧ ivh3 a0 2 ≤ 1 from W3.int t_a0 2) (show ((ivh3 a0 1 = ivb2 a0 1 ∧ ivb2 a0 1 = 200) ∨ ivh3 a0 1 = ivb2 a0 1 + 1) ∧ (LFR L cl ivb2 rv ivh3 a0 ∧ ivh3 a0 2 = ivb2 a0 2) ∧ LAX ivb2 rv ivh3 a0 (ivb2 rb2 k.toNat) from exf3) (fun ri21 ri22 gf3 => ?_)
            refine c_iinc (z := k) (j := 0) (lv2 := [(4, .int (iI (k + 1))), (0, .ref a0), (1, .ref a1), (2, .int (iI i)), (3, .int (iI j))]) C dX2_addPart_40 rfl (by decide) rfl ?_
            refine c_goto (tgt := 15) C dX2_addPart_43 (by decide) ?_
            refine c_lv (lv2 := [(4, .int (iI (k + 1))), (0, .ref a0), (1, .ref a1), (2, .int (iI i)), (3, .int (iI j))]) [0, 1, 2, 3, 4] rfl ?_
            exact ih2  (k + 1) _ (by omega) W3 F3  (by omega) (by omega) (hLF.trans gf3.2.1.1) (by show ivh3 a0 2 = iv a0 2; omega) (hAP.step gf3.2.2 rq2 rfl (Fb2.i trb2 rfl _) ⟨by omega, by omega, by omega⟩)
    refine c_lv (lv2 := [(4, .int (iI i)), (0, .ref a0), (1, .ref a1), (2, .int (iI i)), (3, .int (iI j))]) [0, 1, 2, 3, 4] rfl ?_
    exact Lp2 203 i _ (by omega) W2 F2  (by omega) (by omega) gf2.2.1.1 (by show ivh2 a0 2 = iv a0 2; omega) (APK.init1 gf2.2.2 (by omega))
set_option maxHeartbeats 4000000 in
set_option maxRecDepth 100000 in
theorem G_indent {l : Launch} {G : GT} {mi : Nat} {sk : Nat → Nat} {L : List Nat} {cl ln : Nat → Nat} {iv : Nat → Nat → Int} {rv : Nat → Nat → Option Nat}  {a0 : Nat} {n : Int} (hW : WT (g0 G) sk L cl ln iv rv) (hS : SKL sk L cl) (t_a0 : ty L cl a0 19) (h_n : -2147483648 ≤ n ∧ n ≤ 2147483647)  : Mc l G mi (Phi (g0 G) sk) PHM yX2_indent cX2_indent 3 none 1 [.ref a0, .int (iI n)] L cl ln iv rv 0 (fun v L2 cl2 ln2 iv2 rv2 => v = none ∧ L = L2 ∧ cl = cl2 ∧ ln = ln2 ∧ rv = rv2 ∧ fT [19, 64] L cl iv rv iv2 rv2 ∧ WT (g0 G) sk L2 cl2 ln2 iv2 rv2 ∧ ((LFR L cl iv rv iv2 a0 ∧ iv2 a0 2 = iv a0 2) ∧ INX iv rv iv2 a0 n)) := by
  refine Mc.mk (by decide) (Nat.le_of_ble_eq_true rfl) ?_
  intro p e s m args below meth c A C hM
  refine hv5 (Phi.le hW hS) (show XT L cl ln L cl ln from XT.refl) (show fT [19, 64] L cl iv rv iv rv from fT.refl) (show 0 ≤ iv a0 1 ∧ iv a0 1 ≤ 200 from hW.int t_a0 1) (show 0 ≤ iv a0 2 ∧ iv a0 2 ≤ 1 from hW.int t_a0 2) (fun hph hX0 hF0 ri1 ri2 => ?_)
  refine c_iload_n (j := 1) C dX2_indent_0 rfl ?_
  refine c_if_le (tgt := 23) C ⟨by omega, by omega⟩ dX2_indent_1 (by decide) (fun c1 => ?_) (fun c1 => ?_)
  · exact c_vret C dX2_indent_23 rfl (by decide) (rom0 hph hph (by decide)) ⟨rfl, rfl, rfl, rfl, rfl, hF0, hW, ⟨⟨LFR.refl, rfl⟩, INX.no (by omega)⟩⟩
  · refine c_aload_n (j := 0) (x := a0) C dX2_indent_4 rfl ?_
    refine c_get (k := 1) C ck_3 dX2_indent_5 w4_49 (by decide) t_a0 rfl rfl (by decide) rfl ?_
    refine c_if_eq (tgt := 23) C (r32_c (lo := 0) (hi := 200) ri1.1 ri1.2 (by decide) (by decide)) dX2_indent_8 (by decide) (fun c2 => ?_) (fun c2 => ?_)
    · exact c_vret C dX2_indent_23 rfl (by decide) (rom0 hph hph (by decide)) ⟨rfl, rfl, rfl, rfl, rfl, hF0, hW, ⟨⟨LFR.refl, rfl⟩, INX.no (by omega)⟩⟩
    · refine c_iload_n (j := 1) C dX2_indent_11 rfl ?_
      refine c_sipush (z := 200) C dX2_indent_12 (by decide) ?_
      refine c_aload_n (j := 0) (x := a0) C dX2_indent_15 rfl ?_
      refine c_get (k := 1) C ck_3 dX2_indent_16 w4_49 (by decide) t_a0 rfl rfl (by decide) rfl ?_
      refine c_isub C dX2_indent_19 ?_
      refine c_icmp_le (tgt := 24) C ⟨by omega, by omega⟩ ⟨by omega, by omega⟩ dX2_indent_20 (by decide) (fun c3 => ?_) (fun c3 => ?_)
      · refine c_aload_n (j := 0) (x := a0) C dX2_indent_24 rfl ?_
        obtain ⟨rb1, rq1, trb1⟩ := hW.ref t_a0 0 rfl rfl rfl
        have lnrb1 : 200 ≤ ln rb1 ∧ ln rb1 ≤ 200 := hW.len trb1 rfl
        refine c_getr (k := 0) C ck_3 dX2_indent_25 w4_44 (by decide) t_a0 rfl rfl (by decide) rfl rq1 ?_
        refine c_st (st2 := [.ref rb1]) rfl ?_
        refine c_iconst C dX2_indent_28 ?_
        refine c_aload_n (j := 0) (x := a0) C dX2_indent_29 rfl ?_
        refine c_getr (k := 0) C ck_3 dX2_indent_30 w4_44 (by decide) t_a0 rfl rfl (by decide) rfl rq1 ?_
        refine c_st (st2 := [.ref rb1, .int (iI 0), .ref rb1]) rfl ?_
        refine c_iload_n (j := 1) C dX2_indent_33 rfl ?_
        refine c_aload_n (j := 0) (x := a0) C dX2_indent_34 rfl ?_
        refine c_get (k := 1) C ck_3 dX2_indent_35 w4_49 (by decide) t_a0 rfl rfl (by decide) rfl ?_
        have ll1 : 200 ≤ ln rb1 ∧ ln rb1 ≤ 200 := hW.len trb1 rfl
        refine c_copyi (sp := 0) (dp := n) (n := iv a0 1) C dX2_indent_38 w4_80 w2_133 w2_132 w1_15 trb1 rfl trb1 rfl (by omega) (by omega) (by omega) (by omega) (by omega) (by omega) (by omega) (by decide) (Nat.le_of_ble_eq_true rfl) (fun iv1 pq1 => ?_)
        refine hv2 (hW.copy pq1 trb1 trb1 (fun _ => rfl) (fun _ => rfl) (fun _ => rfl) (fun _ => rfl) rfl) (hF0.copy hX0 pq1 trb1 rfl) (fun W1 F1 => ?_)
        refine c_iconst C dX2_indent_41 ?_
        refine c_istore_n (lv2 := [(2, .int (iI 0)), (0, .ref a0), (1, .int (iI n))]) C dX2_indent_42 (by decide) rfl ?_
        have Lp1 : ∀ (nn : Nat) (k : Int) (ivb1 : Nat → Nat → Int) , 201 - k < (nn : Int) → WT (g0 G) sk L cl ln ivb1 rv → fT [19, 64] L cl iv rv ivb1 rv → (0 ≤ k ∧ k ≤ n ∧ 0 < n) → (0 ≤ n ∧ n + ivb1 a0 1 ≤ 200) → (LFR L cl iv rv ivb1 a0) → (ivb1 a0 1 = iv a0 1 ∧ iv a0 1 ≠ 0) → (ivb1 a0 2 = iv a0 2) → (INK iv rv ivb1 a0 n k) → cw p l e 1 ((PHM) + 0 - ((Phi (g0 G) sk) ln rv)) s m args below meth c G A 3 (MQ below (Qu G A (Qp G (Phi (g0 G) sk) ((Phi (g0 G) sk) ln rv) 0 (fun v L2 cl2 ln2 iv2 rv2 => v = none ∧ L = L2 ∧ cl = cl2 ∧ ln = ln2 ∧ rv = rv2 ∧ fT [19, 64] L cl iv rv iv2 rv2 ∧ WT (g0 G) sk L2 cl2 ln2 iv2 rv2 ∧ ((LFR L cl iv rv iv2 a0 ∧ iv2 a0 2 = iv a0 2) ∧ INX iv rv iv2 a0 n)))) args s (((PHM) + 0 - ((Phi (g0 G) sk) ln rv)) / 16) ((PHM) + 0 - ((Phi (g0 G) sk) ln rv)) A) (Phi (g0 G) sk) ((Phi (g0 G) sk) ln rv) L cl ln ivb1 rv 0 43 [(2, .int (iI k)), (0, .ref a0), (1, .int (iI n))] [] := by
          intro nn
          induction nn with
          | zero =>
            intro  k ivb1 hm Wb1 Fb1  hk hn hLF h1e h2e hIN
            exact absurd hm (by omega)
          | succ nn ih1 =>
            intro  k ivb1 hm Wb1 Fb1  hk hn hLF h1e h2e hIN
            refine c_iload_n (j := 0) C dX2_indent_43 rfl ?_
            refine c_iload_n (j := 2) C dX2_indent_44 rfl ?_
            refine c_icmp_ge (tgt := 61) C ⟨by omega, by omega⟩ ⟨by omega, by omega⟩ dX2_indent_45 (by decide) (fun c4 => ?_) (fun c4 => ?_)
            · refine c_aload_n (j := 1) (x := a0) C dX2_indent_61 rfl ?_
              refine c_dup C dX2_indent_62 rfl ?_
              have ri3 : 0 ≤ ivb1 a0 1 ∧ ivb1 a0 1 ≤ 200 := Wb1.int t_a0 1
              refine c_get (k := 1) C ck_3 dX2_indent_63 w4_49 (by decide) t_a0 rfl rfl (by decide) rfl ?_
              refine c_iload_n (j := 2) C dX2_indent_66 rfl ?_
              refine c_iadd C dX2_indent_67 ?_
              refine c_put (z := (ivb1 a0 1) + n) (k := 1) C ck_3 dX2_indent_68 w4_49 (by decide) rfl t_a0 rfl rfl (by decide) rfl (by rfl) (by rfl) (fun iv2 pq2 => ?_)
              refine hv4 (Wb1.puti pq2 t_a0 (show 0 ≤ ((ivb1 a0 1) + n) ∧ ((ivb1 a0 1) + n) ≤ 200 by omega) rfl) (Fb1.puti hX0 pq2 t_a0 rfl) (show iv2 a0 1 = (ivb1 a0 1) + n from by rw [pq2]; exact up2_s) (show iv2 a0 2 = ivb1 a0 2 from by rw [pq2]; exact up2_j (by decide)) (fun W2 F2 ie2 ie3 => ?_)
              refine hv2 (show 0 ≤ iv2 a0 1 ∧ iv2 a0 1 ≤ 200 from W2.int t_a0 1) (show 0 ≤ iv2 a0 2 ∧ iv2 a0 2 ≤ 1 from W2.int t_a0 2) (fun ri4 ri5 => ?_)
              exact c_vret C dX2_indent_71 rfl (by decide) (rom0 hph hph (by decide)) ⟨rfl, rfl, rfl, rfl, rfl, F2, W2, ⟨⟨hLF.self t_a0 pq2, by omega⟩, INX.mk (by have q := hIN; rw [show k = n by omega] at q; exact q) rq1 pq2 (by omega) (ne_ty trb1 t_a0 (by decide)) (by omega) ⟨by omega, by omega⟩⟩⟩
            · refine c_aload_n (j := 1) (x := a0) C dX2_indent_48 rfl ?_
              refine c_getr (k := 0) C ck_3 dX2_indent_49 w4_44 (by decide) t_a0 rfl rfl (by decide) rfl rq1 ?_
              refine c_st (st2 := [.ref rb1]) rfl ?_
              refine c_iload_n (j := 0) C dX2_indent_52 rfl ?_
              refine c_iconst C dX2_indent_53 ?_
              refine c_iast (x := 0) C dX2_indent_54 trb1 rfl (by omega) (by omega) (by omega) (fun iv3 pq3 => ?_)
              refine hv2 (Wb1.puti pq3 trb1 (show (-2147483648) ≤ 0 ∧ 0 ≤ 2147483647 by omega) rfl) (Fb1.puti hX0 pq3 trb1 rfl) (fun W3 F3 => ?_)
              refine c_iinc (z := k) (j := 0) (lv2 := [(2, .int (iI (k + 1))), (0, .ref a0), (1, .int (iI n))]) C dX2_indent_55 rfl (by decide) rfl ?_
              refine c_goto (tgt := 43) C dX2_indent_58 (by decide) ?_
              refine hv4 (show 0 ≤ iv3 a0 1 ∧ iv3 a0 1 ≤ 200 from W3.int t_a0 1) (show iv3 a0 1 = ivb1 a0 1 from by rw [pq3]; exact up2_k (ne_ty t_a0 trb1 (by decide))) (show 0 ≤ iv3 a0 2 ∧ iv3 a0 2 ≤ 1 from W3.int t_a0 2) (show iv3 a0 2 = ivb1 a0 2 from by rw [pq3]; exact up2_k (ne_ty t_a0 trb1 (by decide))) (fun ri6 ie5 ri7 ie7 => ?_)
              refine c_lv (lv2 := [(2, .int (iI (k + 1))), (0, .ref a0), (1, .int (iI n))]) [0, 1, 2] rfl ?_
              exact ih1  (k + 1) _ (by omega) W3 F3  (by omega) (by show 0 ≤ n ∧ n + iv3 a0 1 ≤ 200; omega) (hLF.cell rq1 trb1 pq3) (by show iv3 a0 1 = iv a0 1 ∧ iv a0 1 ≠ 0; omega) (by show iv3 a0 2 = iv a0 2; omega) (hIN.step rq1 pq3 ⟨by omega, by omega⟩)
        refine hv4 (show 0 ≤ iv1 a0 1 ∧ iv1 a0 1 ≤ 200 from W1.int t_a0 1) (show iv1 a0 1 = iv a0 1 from by rw [pq1]; exact if_neg (ne_ty t_a0 trb1 (by decide))) (show 0 ≤ iv1 a0 2 ∧ iv1 a0 2 ≤ 1 from W1.int t_a0 2) (show iv1 a0 2 = iv a0 2 from by rw [pq1]; exact if_neg (ne_ty t_a0 trb1 (by decide))) (fun ri8 ie9 ri9 ie10 => ?_)
        refine c_lv (lv2 := [(2, .int (iI 0)), (0, .ref a0), (1, .int (iI n))]) [0, 1, 2] rfl ?_
        exact Lp1 203 0 _ (by omega) W1 F1  (by omega) (by show 0 ≤ n ∧ n + iv1 a0 1 ≤ 200; omega) (LFR.refl.copy rq1 trb1 pq1) (by show iv1 a0 1 = iv a0 1 ∧ iv a0 1 ≠ 0; omega) (by show iv1 a0 2 = iv a0 2; omega) (INK.init rq1 pq1 rfl (by omega) (by omega))
      · exact c_vret C dX2_indent_23 rfl (by decide) (rom0 hph hph (by decide)) ⟨rfl, rfl, rfl, rfl, rfl, hF0, hW, ⟨⟨LFR.refl, rfl⟩, INX.no (by omega)⟩⟩
set_option maxHeartbeats 4000000 in
set_option maxRecDepth 100000 in
theorem G_lastBreak {l : Launch} {G : GT} {mi : Nat} {sk : Nat → Nat} {L : List Nat} {cl ln : Nat → Nat} {iv : Nat → Nat → Int} {rv : Nat → Nat → Option Nat}  {a0 : Nat} {x : Int} {i : Int} {n : Int} (hW : WT (g0 G) sk L cl ln iv rv) (hS : SKL sk L cl) (t_a0 : ty L cl a0 15) (h_x : -2147483648 ≤ x ∧ x ≤ 2147483647) (h_i : -2147483648 ≤ i ∧ i ≤ 2147483647) (h_n : -2147483648 ≤ n ∧ n ≤ 2147483647) (hi : 0 ≤ i) : Mc l G mi (Phi (g0 G) sk) PHM yX6_lastBreak cX6_lastBreak 7 (some .int) 1 [.ref a0, .int (iI x), .int (iI i), .int (iI n)] L cl ln iv rv 0 (fun v L2 cl2 ln2 iv2 rv2 => ∃ f : Int, v = some (.int (iI f)) ∧ L = L2 ∧ cl = cl2 ∧ ln = ln2 ∧ iv = iv2 ∧ rv = rv2 ∧ (-2147483648 ≤ f ∧ f ≤ 2147483647) ∧ (i ≤ f ∧ LBX iv rv a0 x i n f)) := by
  refine Mc.mk (by decide) (Nat.le_of_ble_eq_true rfl) ?_
  intro p e s m args below meth c A C hM
  refine hv4 (Phi.le hW hS) (show XT L cl ln L cl ln from XT.refl) (show fT [] L cl iv rv iv rv from fT.refl) (show 0 ≤ iv a0 4 ∧ iv a0 4 ≤ 500 from hW.int t_a0 4) (fun hph hX0 hF0 ri1 => ?_)
  refine c_iload_n (j := 2) C dX6_lastBreak_0 rfl ?_
  refine c_istore (lv2 := [(4, .int (iI i)), (0, .ref a0), (1, .int (iI x)), (2, .int (iI i)), (3, .int (iI n))]) C dX6_lastBreak_1 (by decide) rfl ?_
  refine c_iload_n (j := 2) C dX6_lastBreak_3 rfl ?_
  refine c_iconst C dX6_lastBreak_4 ?_
  refine c_icmp_gt (tgt := 22) C ⟨by omega, by omega⟩ ⟨by decide, by decide⟩ dX6_lastBreak_5 (by decide) (fun c1 => ?_) (fun c1 => ?_)
  · refine c_iload (j := 0) C dX6_lastBreak_22 rfl ?_
    exact c_iret C dX6_lastBreak_24 rfl (by decide) (rom0 hph hph (by decide)) ⟨i, rfl, rfl, rfl, rfl, rfl, rfl, ⟨by omega, by omega⟩, ⟨by omega, LBX.no (by omega)⟩⟩
  · refine c_iload_n (j := 2) C dX6_lastBreak_8 rfl ?_
    refine c_iconst C dX6_lastBreak_9 ?_
    refine c_icmp_ne (tgt := 25) C ⟨by omega, by omega⟩ ⟨by decide, by decide⟩ dX6_lastBreak_10 (by decide) (fun c2 => ?_) (fun c2 => ?_)
    · refine c_iconst C dX6_lastBreak_25 ?_
      refine c_istore (lv2 := [(5, .int (iI 1)), (4, .int (iI i)), (0, .ref a0), (1, .int (iI x)), (2, .int (iI i)), (3, .int (iI n))]) C dX6_lastBreak_26 (by decide) rfl ?_
      have Lp1 : ∀ (nn : Nat) (la k : Int) , 502 - k < (nn : Int) → (i ≤ la ∧ la ≤ 2147483647) → (1 ≤ k ∧ k ≤ 501 ∧ (k = 1 ∨ k ≤ iv a0 4)) → (x ≤ 3 ∧ (x = 3 → 6 ≤ iv a0 4)) → (LBI iv rv a0 x i n k la) → cw p l e 1 ((PHM) + 0 - ((Phi (g0 G) sk) ln rv)) s m args below meth c G A 7 (MQ below (Qu G A (Qp G (Phi (g0 G) sk) ((Phi (g0 G) sk) ln rv) 0 (fun v L2 cl2 ln2 iv2 rv2 => ∃ f : Int, v = some (.int (iI f)) ∧ L = L2 ∧ cl = cl2 ∧ ln = ln2 ∧ iv = iv2 ∧ rv = rv2 ∧ (-2147483648 ≤ f ∧ f ≤ 2147483647) ∧ (i ≤ f ∧ LBX iv rv a0 x i n f)))) args s (((PHM) + 0 - ((Phi (g0 G) sk) ln rv)) / 16) ((PHM) + 0 - ((Phi (g0 G) sk) ln rv)) A) (Phi (g0 G) sk) ((Phi (g0 G) sk) ln rv) L cl ln iv rv 0 28 [(4, .int (iI la)), (5, .int (iI k)), (0, .ref a0), (1, .int (iI x)), (2, .int (iI i)), (3, .int (iI n))] [] := by
        intro nn
        induction nn with
        | zero =>
          intro  la k  hm   hla hk hx3 hLB
          exact absurd hm (by omega)
        | succ nn ih1 =>
          intro  la k  hm   hla hk hx3 hLB
          refine c_iload (j := 1) C dX6_lastBreak_28 rfl ?_
          refine c_aload_n (j := 2) (x := a0) C dX6_lastBreak_30 rfl ?_
          refine c_get (k := 4) C ck_7 dX6_lastBreak_31 w1_140 (by decide) t_a0 rfl rfl (by decide) rfl ?_
          refine c_icmp_ge (tgt := 132) C (r32_c (lo := 1) (hi := 501) hk.1 hk.2.1 (by decide) (by decide)) (r32_c (lo := 0) (hi := 500) ri1.1 ri1.2 (by decide) (by decide)) dX6_lastBreak_34 (by decide) (fun c3 => ?_) (fun c3 => ?_)
          · refine c_iload (j := 0) C dX6_lastBreak_132 rfl ?_
            exact c_iret C dX6_lastBreak_134 rfl (by decide) (rom0 hph hph (by decide)) ⟨la, rfl, rfl, rfl, rfl, rfl, rfl, ⟨by omega, by omega⟩, ⟨by omega, LBI.fin hLB (by omega)⟩⟩
          · refine c_aload_n (j := 2) (x := a0) C dX6_lastBreak_37 rfl ?_
            obtain ⟨rb1, rq1, trb1⟩ := hW.ref t_a0 2 rfl rfl rfl
            have lnrb1 : 500 ≤ ln rb1 ∧ ln rb1 ≤ 500 := hW.len trb1 rfl
            refine c_getr (k := 2) C ck_7 dX6_lastBreak_38 w1_138 (by decide) t_a0 rfl rfl (by decide) rfl rq1 ?_
            refine c_st (st2 := [.ref rb1]) rfl ?_
            refine c_iload (j := 1) C dX6_lastBreak_41 rfl ?_
            have ll1 : 500 ≤ ln rb1 ∧ ln rb1 ≤ 500 := hW.len trb1 rfl
            refine c_zald C dX6_lastBreak_43 trb1 rfl (by omega) (by omega) (by omega) ?_
            have ri2 : 0 ≤ iv rb1 k.toNat ∧ iv rb1 k.toNat ≤ 1 := hW.int trb1 k.toNat
            refine c_if_eq (tgt := 76) C (r32_c (lo := 0) (hi := 1) ri2.1 ri2.2 (by decide) (by decide)) dX6_lastBreak_44 (by decide) (fun c4 => ?_) (fun c4 => ?_)
            · refine c_iconst C dX6_lastBreak_76 ?_
              refine c_istore (lv2 := [(6, .int (iI 0)), (4, .int (iI la)), (5, .int (iI k)), (0, .ref a0), (1, .int (iI x)), (2, .int (iI i)), (3, .int (iI n))]) C dX6_lastBreak_77 (by decide) rfl ?_
              refine c_iload (j := 0) C dX6_lastBreak_79 rfl ?_
              refine c_if_eq (tgt := 126) C ⟨by decide, by decide⟩ dX6_lastBreak_81 (by decide) (fun _ => ?_) (fun z => absurd z (by omega))
              refine c_iinc (z := k) (j := 2) (lv2 := [(5, .int (iI (k + 1))), (6, .int (iI 0)), (4, .int (iI la)), (0, .ref a0), (1, .int (iI x)), (2, .int (iI i)), (3, .int (iI n))]) C dX6_lastBreak_126 rfl (by decide) rfl ?_
              refine c_goto (tgt := 28) C dX6_lastBreak_129 (by decide) ?_
              refine c_lv (lv2 := [(4, .int (iI la)), (5, .int (iI (k + 1))), (0, .ref a0), (1, .int (iI x)), (2, .int (iI i)), (3, .int (iI n))]) [2, 0, 3, 4, 5, 6] rfl ?_
              exact ih1  la (k + 1)  (by omega)   (by omega) (by omega) (by omega) (hLB.nof ⟨by omega, by omega⟩ (by omega) (LBO.b0 (o := 0) hW t_a0 rq1 ⟨by omega, by omega⟩ (by decide) (by omega)) (by decide) ⟨by omega, by omega⟩)
            · refine c_aload_n (j := 2) (x := a0) C dX6_lastBreak_47 rfl ?_
              obtain ⟨rb2, rq2, trb2⟩ := hW.ref t_a0 3 rfl rfl rfl
              have lnrb2 : 500 ≤ ln rb2 ∧ ln rb2 ≤ 500 := hW.len trb2 rfl
              refine c_getr (k := 3) C ck_7 dX6_lastBreak_48 w1_139 (by decide) t_a0 rfl rfl (by decide) rfl rq2 ?_
              refine c_st (st2 := [.ref rb2]) rfl ?_
              refine c_iload (j := 1) C dX6_lastBreak_51 rfl ?_
              have ll2 : 500 ≤ ln rb2 ∧ ln rb2 ≤ 500 := hW.len trb2 rfl
              refine c_iald C dX6_lastBreak_53 trb2 rfl (by omega) (by omega) (by omega) ?_
              have ri3 : (-2147483648) ≤ iv rb2 k.toNat ∧ iv rb2 k.toNat ≤ 2147483647 := hW.int trb2 k.toNat
              refine c_iload (j := 0) C dX6_lastBreak_54 rfl ?_
              refine c_icmp_le (tgt := 76) C (r32_c (lo := (-2147483648)) (hi := 2147483647) ri3.1 ri3.2 (by decide) (by decide)) ⟨by omega, by omega⟩ dX6_lastBreak_56 (by decide) (fun c5 => ?_) (fun c5 => ?_)
              · refine c_iconst C dX6_lastBreak_76 ?_
                refine c_istore (lv2 := [(6, .int (iI 0)), (4, .int (iI la)), (5, .int (iI k)), (0, .ref a0), (1, .int (iI x)), (2, .int (iI i)), (3, .int (iI n))]) C dX6_lastBreak_77 (by decide) rfl ?_
                refine c_iload (j := 0) C dX6_lastBreak_79 rfl ?_
                refine c_if_eq (tgt := 126) C ⟨by decide, by decide⟩ dX6_lastBreak_81 (by decide) (fun _ => ?_) (fun z => absurd z (by omega))
                refine c_iinc (z := k) (j := 2) (lv2 := [(5, .int (iI (k + 1))), (6, .int (iI 0)), (4, .int (iI la)), (0, .ref a0), (1, .int (iI x)), (2, .int (iI i)), (3, .int (iI n))]) C dX6_lastBreak_126 rfl (by decide) rfl ?_
                refine c_goto (tgt := 28) C dX6_lastBreak_129 (by decide) ?_
                refine c_lv (lv2 := [(4, .int (iI la)), (5, .int (iI (k + 1))), (0, .ref a0), (1, .int (iI x)), (2, .int (iI i)), (3, .int (iI n))]) [2, 0, 3, 4, 5, 6] rfl ?_
                exact ih1  la (k + 1)  (by omega)   (by omega) (by omega) (by omega) (hLB.nof ⟨by omega, by omega⟩ (by omega) (LBO.mk (o := 0) hW t_a0 rq1 rq2 ⟨by omega, by omega⟩ (by omega)) (by decide) ⟨by omega, by omega⟩)
              · refine c_aload_n (j := 2) (x := a0) C dX6_lastBreak_59 rfl ?_
                refine c_getr (k := 3) C ck_7 dX6_lastBreak_60 w1_139 (by decide) t_a0 rfl rfl (by decide) rfl rq2 ?_
                refine c_st (st2 := [.ref rb2]) rfl ?_
                refine c_iload (j := 1) C dX6_lastBreak_63 rfl ?_
                refine c_iald C dX6_lastBreak_65 trb2 rfl (by omega) (by omega) (by omega) ?_
                refine c_iload_n (j := 4) C dX6_lastBreak_66 rfl ?_
                refine c_isub C dX6_lastBreak_67 ?_
                refine c_iload_n (j := 5) C dX6_lastBreak_68 rfl ?_
                refine c_icmp_gt (tgt := 76) C ⟨by omega, by omega⟩ ⟨by omega, by omega⟩ dX6_lastBreak_69 (by decide) (fun c6 => ?_) (fun c6 => ?_)
                · refine c_iconst C dX6_lastBreak_76 ?_
                  refine c_istore (lv2 := [(6, .int (iI 0)), (4, .int (iI la)), (5, .int (iI k)), (0, .ref a0), (1, .int (iI x)), (2, .int (iI i)), (3, .int (iI n))]) C dX6_lastBreak_77 (by decide) rfl ?_
                  refine c_iload (j := 0) C dX6_lastBreak_79 rfl ?_
                  refine c_if_eq (tgt := 126) C ⟨by decide, by decide⟩ dX6_lastBreak_81 (by decide) (fun _ => ?_) (fun z => absurd z (by omega))
                  refine c_iinc (z := k) (j := 2) (lv2 := [(5, .int (iI (k + 1))), (6, .int (iI 0)), (4, .int (iI la)), (0, .ref a0), (1, .int (iI x)), (2, .int (iI i)), (3, .int (iI n))]) C dX6_lastBreak_126 rfl (by decide) rfl ?_
                  refine c_goto (tgt := 28) C dX6_lastBreak_129 (by decide) ?_
                  refine c_lv (lv2 := [(4, .int (iI la)), (5, .int (iI (k + 1))), (0, .ref a0), (1, .int (iI x)), (2, .int (iI i)), (3, .int (iI n))]) [2, 0, 3, 4, 5, 6] rfl ?_
                  exact ih1  la (k + 1)  (by omega)   (by omega) (by omega) (by omega) (hLB.nof ⟨by omega, by omega⟩ (by omega) (LBO.mk (o := 0) hW t_a0 rq1 rq2 ⟨by omega, by omega⟩ (by omega)) (by decide) ⟨by omega, by omega⟩)
                · refine c_iconst C dX6_lastBreak_72 ?_
                  refine c_goto (tgt := 77) C dX6_lastBreak_73 (by decide) ?_
                  refine c_istore (lv2 := [(6, .int (iI 1)), (4, .int (iI la)), (5, .int (iI k)), (0, .ref a0), (1, .int (iI x)), (2, .int (iI i)), (3, .int (iI n))]) C dX6_lastBreak_77 (by decide) rfl ?_
                  refine c_iload (j := 0) C dX6_lastBreak_79 rfl ?_
                  refine c_if_eq (tgt := 126) C ⟨by decide, by decide⟩ dX6_lastBreak_81 (by decide) (fun z => absurd z (by omega)) (fun _ => ?_)
                  refine c_iload_n (j := 4) C dX6_lastBreak_84 rfl ?_
                  refine c_iconst C dX6_lastBreak_85 ?_
                  refine c_icmp_ne (tgt := 117) C ⟨by omega, by omega⟩ ⟨by decide, by decide⟩ dX6_lastBreak_86 (by decide) (fun c7 => ?_) (fun c7 => ?_)
                  · refine c_aload_n (j := 3) (x := a0) C dX6_lastBreak_117 rfl ?_
                    refine c_getr (k := 3) C ck_7 dX6_lastBreak_118 w1_139 (by decide) t_a0 rfl rfl (by decide) rfl rq2 ?_
                    refine c_st (st2 := [.ref rb2]) rfl ?_
                    refine c_iload (j := 2) C dX6_lastBreak_121 rfl ?_
                    refine c_iald C dX6_lastBreak_123 trb2 rfl (by omega) (by omega) (by omega) ?_
                    refine c_istore (lv2 := [(4, .int (iI (iv rb2 k.toNat))), (6, .int (iI 1)), (5, .int (iI k)), (0, .ref a0), (1, .int (iI x)), (2, .int (iI i)), (3, .int (iI n))]) C dX6_lastBreak_124 (by decide) rfl ?_
                    refine c_iinc (z := k) (j := 2) (lv2 := [(5, .int (iI (k + 1))), (4, .int (iI (iv rb2 k.toNat))), (6, .int (iI 1)), (0, .ref a0), (1, .int (iI x)), (2, .int (iI i)), (3, .int (iI n))]) C dX6_lastBreak_126 rfl (by decide) rfl ?_
                    refine c_goto (tgt := 28) C dX6_lastBreak_129 (by decide) ?_
                    refine c_lv (lv2 := [(4, .int (iI (iv rb2 k.toNat))), (5, .int (iI (k + 1))), (0, .ref a0), (1, .int (iI x)), (2, .int (iI i)), (3, .int (iI n))]) [1, 0, 3, 4, 5, 6] rfl ?_
                    exact ih1  (iv rb2 k.toNat) (k + 1)  (by omega)   (by omega) (by omega) (by omega) (hLB.take ⟨by omega, by omega⟩ ⟨by omega, by omega⟩ (LBO.mk (o := 1) hW t_a0 rq1 rq2 ⟨by omega, by omega⟩ (by omega)) rfl hW t_a0 rq2 (fun q => absurd q (by omega)) ⟨by omega, by omega⟩)
                  · refine c_aload_n (j := 3) (x := a0) C dX6_lastBreak_89 rfl ?_
                    obtain ⟨rb3, rq3, trb3⟩ := hW.ref t_a0 0 rfl rfl rfl
                    have lnrb3 : 500 ≤ ln rb3 ∧ ln rb3 ≤ 500 := hW.len trb3 rfl
                    refine c_getr (k := 0) C ck_7 dX6_lastBreak_90 w1_136 (by decide) t_a0 rfl rfl (by decide) rfl rq3 ?_
                    refine c_st (st2 := [.ref rb3]) rfl ?_
                    refine c_iload (j := 2) C dX6_lastBreak_93 rfl ?_
                    refine c_iconst C dX6_lastBreak_95 ?_
                    refine c_isub C dX6_lastBreak_96 ?_
                    have ll3 : 500 ≤ ln rb3 ∧ ln rb3 ≤ 500 := hW.len trb3 rfl
                    refine c_iald C dX6_lastBreak_97 trb3 rfl (by omega) (by omega) (by omega) ?_
                    have ri4 : (-2147483648) ≤ iv rb3 ((k - 1).toNat) ∧ iv rb3 ((k - 1).toNat) ≤ 2147483647 := hW.int trb3 ((k - 1).toNat)
                    refine c_callSN0 (As := [.int (iI (iv rb3 (k - 1).toNat))]) (rest := []) C (fun L E => s11_isDigit (iI (iv rb3 (k - 1).toNat))) dX6_lastBreak_98 kSN_X6_115 rfl rfl (Nat.le_of_ble_eq_true rfl) ⟨(Nat.le_of_ble_eq_true rfl), (Nat.le_of_ble_eq_true rfl)⟩ (rom0 hph hph (by decide)) ?_
                    rcases inn_c (x := iv rb3 (k - 1).toNat) (lo := 48) (hi := 57) ⟨by omega, by omega⟩ ⟨by decide, by decide⟩ ⟨by decide, by decide⟩ with ⟨hs1a, hs1b, hs1e⟩ | ⟨hs1a, hs1e⟩
                    · refine c_st (st2 := [.int (iI 1)]) (by rw [show inn (iI (iv rb3 (k - 1).toNat)) 48 57 = iI 1 from hs1e]) ?_
                      refine c_if_ne (tgt := 126) C ⟨by decide, by decide⟩ dX6_lastBreak_101 (by decide) (fun _ => ?_) (fun z => absurd z (by omega))
                      refine c_iinc (z := k) (j := 2) (lv2 := [(5, .int (iI (k + 1))), (6, .int (iI 1)), (4, .int (iI la)), (0, .ref a0), (1, .int (iI x)), (2, .int (iI i)), (3, .int (iI n))]) C dX6_lastBreak_126 rfl (by decide) rfl ?_
                      refine c_goto (tgt := 28) C dX6_lastBreak_129 (by decide) ?_
                      refine c_lv (lv2 := [(4, .int (iI la)), (5, .int (iI (k + 1))), (0, .ref a0), (1, .int (iI x)), (2, .int (iI i)), (3, .int (iI n))]) [2, 0, 3, 4, 5, 6] rfl ?_
                      exact ih1  la (k + 1)  (by omega)   (by omega) (by omega) (by omega) (hLB.dig ⟨by omega, by omega⟩ (by omega) hW t_a0 rq3 (Or.inl (by unfold isD; omega)))
                    · refine c_st (st2 := [.int (iI 0)]) (by rw [show inn (iI (iv rb3 (k - 1).toNat)) 48 57 = iI 0 from hs1e]) ?_
                      refine c_if_ne (tgt := 126) C ⟨by decide, by decide⟩ dX6_lastBreak_101 (by decide) (fun z => absurd z (by omega)) (fun _ => ?_)
                      refine c_aload_n (j := 3) (x := a0) C dX6_lastBreak_104 rfl ?_
                      refine c_getr (k := 0) C ck_7 dX6_lastBreak_105 w1_136 (by decide) t_a0 rfl rfl (by decide) rfl rq3 ?_
                      refine c_st (st2 := [.ref rb3]) rfl ?_
                      refine c_iload (j := 2) C dX6_lastBreak_108 rfl ?_
                      refine c_iald C dX6_lastBreak_110 trb3 rfl (by omega) (by omega) (by omega) ?_
                      have ri5 : (-2147483648) ≤ iv rb3 k.toNat ∧ iv rb3 k.toNat ≤ 2147483647 := hW.int trb3 k.toNat
                      refine c_callSN0 (As := [.int (iI (iv rb3 k.toNat))]) (rest := []) C (fun L E => s11_isDigit (iI (iv rb3 k.toNat))) dX6_lastBreak_111 kSN_X6_115 rfl rfl (Nat.le_of_ble_eq_true rfl) ⟨(Nat.le_of_ble_eq_true rfl), (Nat.le_of_ble_eq_true rfl)⟩ (rom0 hph hph (by decide)) ?_
                      rcases inn_c (x := iv rb3 k.toNat) (lo := 48) (hi := 57) (r32_c (lo := (-2147483648)) (hi := 2147483647) ri5.1 ri5.2 (by decide) (by decide)) ⟨by decide, by decide⟩ ⟨by decide, by decide⟩ with ⟨hs2a, hs2b, hs2e⟩ | ⟨hs2a, hs2e⟩
                      · refine c_st (st2 := [.int (iI 1)]) (by rw [show inn (iI (iv rb3 k.toNat)) 48 57 = iI 1 from hs2e]) ?_
                        refine c_if_ne (tgt := 126) C ⟨by decide, by decide⟩ dX6_lastBreak_114 (by decide) (fun _ => ?_) (fun z => absurd z (by omega))
                        refine c_iinc (z := k) (j := 2) (lv2 := [(5, .int (iI (k + 1))), (6, .int (iI 1)), (4, .int (iI la)), (0, .ref a0), (1, .int (iI x)), (2, .int (iI i)), (3, .int (iI n))]) C dX6_lastBreak_126 rfl (by decide) rfl ?_
                        refine c_goto (tgt := 28) C dX6_lastBreak_129 (by decide) ?_
                        refine c_lv (lv2 := [(4, .int (iI la)), (5, .int (iI (k + 1))), (0, .ref a0), (1, .int (iI x)), (2, .int (iI i)), (3, .int (iI n))]) [2, 0, 3, 4, 5, 6] rfl ?_
                        exact ih1  la (k + 1)  (by omega)   (by omega) (by omega) (by omega) (hLB.dig ⟨by omega, by omega⟩ (by omega) hW t_a0 rq3 (Or.inr (by unfold isD; omega)))
                      · refine c_st (st2 := [.int (iI 0)]) (by rw [show inn (iI (iv rb3 k.toNat)) 48 57 = iI 0 from hs2e]) ?_
                        refine c_if_ne (tgt := 126) C ⟨by decide, by decide⟩ dX6_lastBreak_114 (by decide) (fun z => absurd z (by omega)) (fun _ => ?_)
                        refine c_aload_n (j := 3) (x := a0) C dX6_lastBreak_117 rfl ?_
                        refine c_getr (k := 3) C ck_7 dX6_lastBreak_118 w1_139 (by decide) t_a0 rfl rfl (by decide) rfl rq2 ?_
                        refine c_st (st2 := [.ref rb2]) rfl ?_
                        refine c_iload (j := 2) C dX6_lastBreak_121 rfl ?_
                        refine c_iald C dX6_lastBreak_123 trb2 rfl (by omega) (by omega) (by omega) ?_
                        refine c_istore (lv2 := [(4, .int (iI (iv rb2 k.toNat))), (6, .int (iI 1)), (5, .int (iI k)), (0, .ref a0), (1, .int (iI x)), (2, .int (iI i)), (3, .int (iI n))]) C dX6_lastBreak_124 (by decide) rfl ?_
                        refine c_iinc (z := k) (j := 2) (lv2 := [(5, .int (iI (k + 1))), (4, .int (iI (iv rb2 k.toNat))), (6, .int (iI 1)), (0, .ref a0), (1, .int (iI x)), (2, .int (iI i)), (3, .int (iI n))]) C dX6_lastBreak_126 rfl (by decide) rfl ?_
                        refine c_goto (tgt := 28) C dX6_lastBreak_129 (by decide) ?_
                        refine c_lv (lv2 := [(4, .int (iI (iv rb2 k.toNat))), (5, .int (iI (k + 1))), (0, .ref a0), (1, .int (iI x)), (2, .int (iI i)), (3, .int (iI n))]) [1, 0, 3, 4, 5, 6] rfl ?_
                        exact ih1  (iv rb2 k.toNat) (k + 1)  (by omega)   (by omega) (by omega) (by omega) (hLB.take ⟨by omega, by omega⟩ ⟨by omega, by omega⟩ (LBO.mk (o := 1) hW t_a0 rq1 rq2 ⟨by omega, by omega⟩ (by omega)) rfl hW t_a0 rq2 (fun _ => ⟨_, rq3, (by unfold isD; omega), (by unfold isD; omega)⟩) ⟨by omega, by omega⟩)
      refine c_lv (lv2 := [(4, .int (iI i)), (5, .int (iI 1)), (0, .ref a0), (1, .int (iI x)), (2, .int (iI i)), (3, .int (iI n))]) [1, 0, 2, 3, 4, 5] rfl ?_
      exact Lp1 503 i 1  (by omega)   (by omega) (by omega) (by omega) LBI.init
    · refine c_aload_n (j := 1) (x := a0) C dX6_lastBreak_13 rfl ?_
      refine c_get (k := 4) C ck_7 dX6_lastBreak_14 w1_140 (by decide) t_a0 rfl rfl (by decide) rfl ?_
      refine c_bipush (z := 6) C dX6_lastBreak_17 (by decide) ?_
      refine c_icmp_ge (tgt := 25) C (r32_c (lo := 0) (hi := 500) ri1.1 ri1.2 (by decide) (by decide)) ⟨by decide, by decide⟩ dX6_lastBreak_19 (by decide) (fun c8 => ?_) (fun c8 => ?_)
      · refine c_iconst C dX6_lastBreak_25 ?_
        refine c_istore (lv2 := [(5, .int (iI 1)), (4, .int (iI i)), (0, .ref a0), (1, .int (iI x)), (2, .int (iI i)), (3, .int (iI n))]) C dX6_lastBreak_26 (by decide) rfl ?_
        have Lp2 : ∀ (nn : Nat) (la k : Int) , 502 - k < (nn : Int) → (i ≤ la ∧ la ≤ 2147483647) → (1 ≤ k ∧ k ≤ 501 ∧ (k = 1 ∨ k ≤ iv a0 4)) → (x ≤ 3 ∧ (x = 3 → 6 ≤ iv a0 4)) → (LBI iv rv a0 x i n k la) → cw p l e 1 ((PHM) + 0 - ((Phi (g0 G) sk) ln rv)) s m args below meth c G A 7 (MQ below (Qu G A (Qp G (Phi (g0 G) sk) ((Phi (g0 G) sk) ln rv) 0 (fun v L2 cl2 ln2 iv2 rv2 => ∃ f : Int, v = some (.int (iI f)) ∧ L = L2 ∧ cl = cl2 ∧ ln = ln2 ∧ iv = iv2 ∧ rv = rv2 ∧ (-2147483648 ≤ f ∧ f ≤ 2147483647) ∧ (i ≤ f ∧ LBX iv rv a0 x i n f)))) args s (((PHM) + 0 - ((Phi (g0 G) sk) ln rv)) / 16) ((PHM) + 0 - ((Phi (g0 G) sk) ln rv)) A) (Phi (g0 G) sk) ((Phi (g0 G) sk) ln rv) L cl ln iv rv 0 28 [(4, .int (iI la)), (5, .int (iI k)), (0, .ref a0), (1, .int (iI x)), (2, .int (iI i)), (3, .int (iI n))] [] := by
          intro nn
          induction nn with
          | zero =>
            intro  la k  hm   hla hk hx3 hLB
            exact absurd hm (by omega)
          | succ nn ih2 =>
            intro  la k  hm   hla hk hx3 hLB
            refine c_iload (j := 1) C dX6_lastBreak_28 rfl ?_
            refine c_aload_n (j := 2) (x := a0) C dX6_lastBreak_30 rfl ?_
            refine c_get (k := 4) C ck_7 dX6_lastBreak_31 w1_140 (by decide) t_a0 rfl rfl (by decide) rfl ?_
            refine c_icmp_ge (tgt := 132) C (r32_c (lo := 1) (hi := 501) hk.1 hk.2.1 (by decide) (by decide)) (r32_c (lo := 0) (hi := 500) ri1.1 ri1.2 (by decide) (by decide)) dX6_lastBreak_34 (by decide) (fun c9 => ?_) (fun c9 => ?_)
            · refine c_iload (j := 0) C dX6_lastBreak_132 rfl ?_
              exact c_iret C dX6_lastBreak_134 rfl (by decide) (rom0 hph hph (by decide)) ⟨la, rfl, rfl, rfl, rfl, rfl, rfl, ⟨by omega, by omega⟩, ⟨by omega, LBI.fin hLB (by omega)⟩⟩
            · refine c_aload_n (j := 2) (x := a0) C dX6_lastBreak_37 rfl ?_
              obtain ⟨rb4, rq4, trb4⟩ := hW.ref t_a0 2 rfl rfl rfl
              have lnrb4 : 500 ≤ ln rb4 ∧ ln rb4 ≤ 500 := hW.len trb4 rfl
              refine c_getr (k := 2) C ck_7 dX6_lastBreak_38 w1_138 (by decide) t_a0 rfl rfl (by decide) rfl rq4 ?_
              refine c_st (st2 := [.ref rb4]) rfl ?_
              refine c_iload (j := 1) C dX6_lastBreak_41 rfl ?_
              have ll4 : 500 ≤ ln rb4 ∧ ln rb4 ≤ 500 := hW.len trb4 rfl
              refine c_zald C dX6_lastBreak_43 trb4 rfl (by omega) (by omega) (by omega) ?_
              have ri6 : 0 ≤ iv rb4 k.toNat ∧ iv rb4 k.toNat ≤ 1 := hW.int trb4 k.toNat
              refine c_if_eq (tgt := 76) C (r32_c (lo := 0) (hi := 1) ri6.1 ri6.2 (by decide) (by decide)) dX6_lastBreak_44 (by decide) (fun c10 => ?_) (fun c10 => ?_)
              · refine c_iconst C dX6_lastBreak_76 ?_
                refine c_istore (lv2 := [(6, .int (iI 0)), (4, .int (iI la)), (5, .int (iI k)), (0, .ref a0), (1, .int (iI x)), (2, .int (iI i)), (3, .int (iI n))]) C dX6_lastBreak_77 (by decide) rfl ?_
                refine c_iload (j := 0) C dX6_lastBreak_79 rfl ?_
                refine c_if_eq (tgt := 126) C ⟨by decide, by decide⟩ dX6_lastBreak_81 (by decide) (fun _ => ?_) (fun z => absurd z (by omega))
                refine c_iinc (z := k) (j := 2) (lv2 := [(5, .int (iI (k + 1))), (6, .int (iI 0)), (4, .int (iI la)), (0, .ref a0), (1, .int (iI x)), (2, .int (iI i)), (3, .int (iI n))]) C dX6_lastBreak_126 rfl (by decide) rfl ?_
                refine c_goto (tgt := 28) C dX6_lastBreak_129 (by decide) ?_
                refine c_lv (lv2 := [(4, .int (iI la)), (5, .int (iI (k + 1))), (0, .ref a0), (1, .int (iI x)), (2, .int (iI i)), (3, .int (iI n))]) [2, 0, 3, 4, 5, 6] rfl ?_
                exact ih2  la (k + 1)  (by omega)   (by omega) (by omega) (by omega) (hLB.nof ⟨by omega, by omega⟩ (by omega) (LBO.b0 (o := 0) hW t_a0 rq4 ⟨by omega, by omega⟩ (by decide) (by omega)) (by decide) ⟨by omega, by omega⟩)
              · refine c_aload_n (j := 2) (x := a0) C dX6_lastBreak_47 rfl ?_
                obtain ⟨rb5, rq5, trb5⟩ := hW.ref t_a0 3 rfl rfl rfl
                have lnrb5 : 500 ≤ ln rb5 ∧ ln rb5 ≤ 500 := hW.len trb5 rfl
                refine c_getr (k := 3) C ck_7 dX6_lastBreak_48 w1_139 (by decide) t_a0 rfl rfl (by decide) rfl rq5 ?_
                refine c_st (st2 := [.ref rb5]) rfl ?_
                refine c_iload (j := 1) C dX6_lastBreak_51 rfl ?_
                have ll5 : 500 ≤ ln rb5 ∧ ln rb5 ≤ 500 := hW.len trb5 rfl
                refine c_iald C dX6_lastBreak_53 trb5 rfl (by omega) (by omega) (by omega) ?_
                have ri7 : (-2147483648) ≤ iv rb5 k.toNat ∧ iv rb5 k.toNat ≤ 2147483647 := hW.int trb5 k.toNat
                refine c_iload (j := 0) C dX6_lastBreak_54 rfl ?_
                refine c_icmp_le (tgt := 76) C (r32_c (lo := (-2147483648)) (hi := 2147483647) ri7.1 ri7.2 (by decide) (by decide)) ⟨by omega, by omega⟩ dX6_lastBreak_56 (by decide) (fun c11 => ?_) (fun c11 => ?_)
                · refine c_iconst C dX6_lastBreak_76 ?_
                  refine c_istore (lv2 := [(6, .int (iI 0)), (4, .int (iI la)), (5, .int (iI k)), (0, .ref a0), (1, .int (iI x)), (2, .int (iI i)), (3, .int (iI n))]) C dX6_lastBreak_77 (by decide) rfl ?_
                  refine c_iload (j := 0) C dX6_lastBreak_79 rfl ?_
                  refine c_if_eq (tgt := 126) C ⟨by decide, by decide⟩ dX6_lastBreak_81 (by decide) (fun _ => ?_) (fun z => absurd z (by omega))
                  refine c_iinc (z := k) (j := 2) (lv2 := [(5, .int (iI (k + 1))), (6, .int (iI 0)), (4, .int (iI la)), (0, .ref a0), (1, .int (iI x)), (2, .int (iI i)), (3, .int (iI n))]) C dX6_lastBreak_126 rfl (by decide) rfl ?_
                  refine c_goto (tgt := 28) C dX6_lastBreak_129 (by decide) ?_
                  refine c_lv (lv2 := [(4, .int (iI la)), (5, .int (iI (k + 1))), (0, .ref a0), (1, .int (iI x)), (2, .int (iI i)), (3, .int (iI n))]) [2, 0, 3, 4, 5, 6] rfl ?_
                  exact ih2  la (k + 1)  (by omega)   (by omega) (by omega) (by omega) (hLB.nof ⟨by omega, by omega⟩ (by omega) (LBO.mk (o := 0) hW t_a0 rq4 rq5 ⟨by omega, by omega⟩ (by omega)) (by decide) ⟨by omega, by omega⟩)
                · refine c_aload_n (j := 2) (x := a0) C dX6_lastBreak_59 rfl ?_
                  refine c_getr (k := 3) C ck_7 dX6_lastBreak_60 w1_139 (by decide) t_a0 rfl rfl (by decide) rfl rq5 ?_
                  refine c_st (st2 := [.ref rb5]) rfl ?_
                  refine c_iload (j := 1) C dX6_lastBreak_63 rfl ?_
                  refine c_iald C dX6_lastBreak_65 trb5 rfl (by omega) (by omega) (by omega) ?_
                  refine c_iload_n (j := 4) C dX6_lastBreak_66 rfl ?_
                  refine c_isub C dX6_lastBreak_67 ?_
                  refine c_iload_n (j := 5) C dX6_lastBreak_68 rfl ?_
                  refine c_icmp_gt (tgt := 76) C ⟨by omega, by omega⟩ ⟨by omega, by omega⟩ dX6_lastBreak_69 (by decide) (fun c12 => ?_) (fun c12 => ?_)
                  · refine c_iconst C dX6_lastBreak_76 ?_
                    refine c_istore (lv2 := [(6, .int (iI 0)), (4, .int (iI la)), (5, .int (iI k)), (0, .ref a0), (1, .int (iI x)), (2, .int (iI i)), (3, .int (iI n))]) C dX6_lastBreak_77 (by decide) rfl ?_
                    refine c_iload (j := 0) C dX6_lastBreak_79 rfl ?_
                    refine c_if_eq (tgt := 126) C ⟨by decide, by decide⟩ dX6_lastBreak_81 (by decide) (fun _ => ?_) (fun z => absurd z (by omega))
                    refine c_iinc (z := k) (j := 2) (lv2 := [(5, .int (iI (k + 1))), (6, .int (iI 0)), (4, .int (iI la)), (0, .ref a0), (1, .int (iI x)), (2, .int (iI i)), (3, .int (iI n))]) C dX6_lastBreak_126 rfl (by decide) rfl ?_
                    refine c_goto (tgt := 28) C dX6_lastBreak_129 (by decide) ?_
                    refine c_lv (lv2 := [(4, .int (iI la)), (5, .int (iI (k + 1))), (0, .ref a0), (1, .int (iI x)), (2, .int (iI i)), (3, .int (iI n))]) [2, 0, 3, 4, 5, 6] rfl ?_
                    exact ih2  la (k + 1)  (by omega)   (by omega) (by omega) (by omega) (hLB.nof ⟨by omega, by omega⟩ (by omega) (LBO.mk (o := 0) hW t_a0 rq4 rq5 ⟨by omega, by omega⟩ (by omega)) (by decide) ⟨by omega, by omega⟩)
                  · refine c_iconst C dX6_lastBreak_72 ?_
                    refine c_goto (tgt := 77) C dX6_lastBreak_73 (by decide) ?_
                    refine c_istore (lv2 := [(6, .int (iI 1)), (4, .int (iI la)), (5, .int (iI k)), (0, .ref a0), (1, .int (iI x)), (2, .int (iI i)), (3, .int (iI n))]) C dX6_lastBreak_77 (by decide) rfl ?_
                    refine c_iload (j := 0) C dX6_lastBreak_79 rfl ?_
                    refine c_if_eq (tgt := 126) C ⟨by decide, by decide⟩ dX6_lastBreak_81 (by decide) (fun z => absurd z (by omega)) (fun _ => ?_)
                    refine c_iload_n (j := 4) C dX6_lastBreak_84 rfl ?_
                    refine c_iconst C dX6_lastBreak_85 ?_
                    refine c_icmp_ne (tgt := 117) C ⟨by omega, by omega⟩ ⟨by decide, by decide⟩ dX6_lastBreak_86 (by decide) (fun c13 => ?_) (fun c13 => ?_)
                    · refine c_aload_n (j := 3) (x := a0) C dX6_lastBreak_117 rfl ?_
                      refine c_getr (k := 3) C ck_7 dX6_lastBreak_118 w1_139 (by decide) t_a0 rfl rfl (by decide) rfl rq5 ?_
                      refine c_st (st2 := [.ref rb5]) rfl ?_
                      refine c_iload (j := 2) C dX6_lastBreak_121 rfl ?_
                      refine c_iald C dX6_lastBreak_123 trb5 rfl (by omega) (by omega) (by omega) ?_
                      refine c_istore (lv2 := [(4, .int (iI (iv rb5 k.toNat))), (6, .int (iI 1)), (5, .int (iI k)), (0, .ref a0), (1, .int (iI x)), (2, .int (iI i)), (3, .int (iI n))]) C dX6_lastBreak_124 (by decide) rfl ?_
                      refine c_iinc (z := k) (j := 2) (lv2 := [(5, .int (iI (k + 1))), (4, .int (iI (iv rb5 k.toNat))), (6, .int (iI 1)), (0, .ref a0), (1, .int (iI x)), (2, .int (iI i)), (3, .int (iI n))]) C dX6_lastBreak_126 rfl (by decide) rfl ?_
                      refine c_goto (tgt := 28) C dX6_lastBreak_129 (by decide) ?_
                      refine c_lv (lv2 := [(4, .int (iI (iv rb5 k.toNat))), (5, .int (iI (k + 1))), (0, .ref a0), (1, .int (iI x)), (2, .int (iI i)), (3, .int (iI n))]) [1, 0, 3, 4, 5, 6] rfl ?_
                      exact ih2  (iv rb5 k.toNat) (k + 1)  (by omega)   (by omega) (by omega) (by omega) (hLB.take ⟨by omega, by omega⟩ ⟨by omega, by omega⟩ (LBO.mk (o := 1) hW t_a0 rq4 rq5 ⟨by omega, by omega⟩ (by omega)) rfl hW t_a0 rq5 (fun q => absurd q (by omega)) ⟨by omega, by omega⟩)
                    · refine c_aload_n (j := 3) (x := a0) C dX6_lastBreak_89 rfl ?_
                      obtain ⟨rb6, rq6, trb6⟩ := hW.ref t_a0 0 rfl rfl rfl
                      have lnrb6 : 500 ≤ ln rb6 ∧ ln rb6 ≤ 500 := hW.len trb6 rfl
                      refine c_getr (k := 0) C ck_7 dX6_lastBreak_90 w1_136 (by decide) t_a0 rfl rfl (by decide) rfl rq6 ?_
                      refine c_st (st2 := [.ref rb6]) rfl ?_
                      refine c_iload (j := 2) C dX6_lastBreak_93 rfl ?_
                      refine c_iconst C dX6_lastBreak_95 ?_
                      refine c_isub C dX6_lastBreak_96 ?_
                      have ll6 : 500 ≤ ln rb6 ∧ ln rb6 ≤ 500 := hW.len trb6 rfl
                      refine c_iald C dX6_lastBreak_97 trb6 rfl (by omega) (by omega) (by omega) ?_
                      have ri8 : (-2147483648) ≤ iv rb6 ((k - 1).toNat) ∧ iv rb6 ((k - 1).toNat) ≤ 2147483647 := hW.int trb6 ((k - 1).toNat)
                      refine c_callSN0 (As := [.int (iI (iv rb6 (k - 1).toNat))]) (rest := []) C (fun L E => s11_isDigit (iI (iv rb6 (k - 1).toNat))) dX6_lastBreak_98 kSN_X6_115 rfl rfl (Nat.le_of_ble_eq_true rfl) ⟨(Nat.le_of_ble_eq_true rfl), (Nat.le_of_ble_eq_true rfl)⟩ (rom0 hph hph (by decide)) ?_
                      rcases inn_c (x := iv rb6 (k - 1).toNat) (lo := 48) (hi := 57) ⟨by omega, by omega⟩ ⟨by decide, by decide⟩ ⟨by decide, by decide⟩ with ⟨hs3a, hs3b, hs3e⟩ | ⟨hs3a, hs3e⟩
                      · refine c_st (st2 := [.int (iI 1)]) (by rw [show inn (iI (iv rb6 (k - 1).toNat)) 48 57 = iI 1 from hs3e]) ?_
                        refine c_if_ne (tgt := 126) C ⟨by decide, by decide⟩ dX6_lastBreak_101 (by decide) (fun _ => ?_) (fun z => absurd z (by omega))
                        refine c_iinc (z := k) (j := 2) (lv2 := [(5, .int (iI (k + 1))), (6, .int (iI 1)), (4, .int (iI la)), (0, .ref a0), (1, .int (iI x)), (2, .int (iI i)), (3, .int (iI n))]) C dX6_lastBreak_126 rfl (by decide) rfl ?_
                        refine c_goto (tgt := 28) C dX6_lastBreak_129 (by decide) ?_
                        refine c_lv (lv2 := [(4, .int (iI la)), (5, .int (iI (k + 1))), (0, .ref a0), (1, .int (iI x)), (2, .int (iI i)), (3, .int (iI n))]) [2, 0, 3, 4, 5, 6] rfl ?_
                        exact ih2  la (k + 1)  (by omega)   (by omega) (by omega) (by omega) (hLB.dig ⟨by omega, by omega⟩ (by omega) hW t_a0 rq6 (Or.inl (by unfold isD; omega)))
                      · refine c_st (st2 := [.int (iI 0)]) (by rw [show inn (iI (iv rb6 (k - 1).toNat)) 48 57 = iI 0 from hs3e]) ?_
                        refine c_if_ne (tgt := 126) C ⟨by decide, by decide⟩ dX6_lastBreak_101 (by decide) (fun z => absurd z (by omega)) (fun _ => ?_)
                        refine c_aload_n (j := 3) (x := a0) C dX6_lastBreak_104 rfl ?_
                        refine c_getr (k := 0) C ck_7 dX6_lastBreak_105 w1_136 (by decide) t_a0 rfl rfl (by decide) rfl rq6 ?_
                        refine c_st (st2 := [.ref rb6]) rfl ?_
                        refine c_iload (j := 2) C dX6_lastBreak_108 rfl ?_
                        refine c_iald C dX6_lastBreak_110 trb6 rfl (by omega) (by omega) (by omega) ?_
                        have ri9 : (-2147483648) ≤ iv rb6 k.toNat ∧ iv rb6 k.toNat ≤ 2147483647 := hW.int trb6 k.toNat
                        refine c_callSN0 (As := [.int (iI (iv rb6 k.toNat))]) (rest := []) C (fun L E => s11_isDigit (iI (iv rb6 k.toNat))) dX6_lastBreak_111 kSN_X6_115 rfl rfl (Nat.le_of_ble_eq_true rfl) ⟨(Nat.le_of_ble_eq_true rfl), (Nat.le_of_ble_eq_true rfl)⟩ (rom0 hph hph (by decide)) ?_
                        rcases inn_c (x := iv rb6 k.toNat) (lo := 48) (hi := 57) (r32_c (lo := (-2147483648)) (hi := 2147483647) ri9.1 ri9.2 (by decide) (by decide)) ⟨by decide, by decide⟩ ⟨by decide, by decide⟩ with ⟨hs4a, hs4b, hs4e⟩ | ⟨hs4a, hs4e⟩
                        · refine c_st (st2 := [.int (iI 1)]) (by rw [show inn (iI (iv rb6 k.toNat)) 48 57 = iI 1 from hs4e]) ?_
                          refine c_if_ne (tgt := 126) C ⟨by decide, by decide⟩ dX6_lastBreak_114 (by decide) (fun _ => ?_) (fun z => absurd z (by omega))
                          refine c_iinc (z := k) (j := 2) (lv2 := [(5, .int (iI (k + 1))), (6, .int (iI 1)), (4, .int (iI la)), (0, .ref a0), (1, .int (iI x)), (2, .int (iI i)), (3, .int (iI n))]) C dX6_lastBreak_126 rfl (by decide) rfl ?_
                          refine c_goto (tgt := 28) C dX6_lastBreak_129 (by decide) ?_
                          refine c_lv (lv2 := [(4, .int (iI la)), (5, .int (iI (k + 1))), (0, .ref a0), (1, .int (iI x)), (2, .int (iI i)), (3, .int (iI n))]) [2, 0, 3, 4, 5, 6] rfl ?_
                          exact ih2  la (k + 1)  (by omega)   (by omega) (by omega) (by omega) (hLB.dig ⟨by omega, by omega⟩ (by omega) hW t_a0 rq6 (Or.inr (by unfold isD; omega)))
                        · refine c_st (st2 := [.int (iI 0)]) (by rw [show inn (iI (iv rb6 k.toNat)) 48 57 = iI 0 from hs4e]) ?_
                          refine c_if_ne (tgt := 126) C ⟨by decide, by decide⟩ dX6_lastBreak_114 (by decide) (fun z => absurd z (by omega)) (fun _ => ?_)
                          refine c_aload_n (j := 3) (x := a0) C dX6_lastBreak_117 rfl ?_
                          refine c_getr (k := 3) C ck_7 dX6_lastBreak_118 w1_139 (by decide) t_a0 rfl rfl (by decide) rfl rq5 ?_
                          refine c_st (st2 := [.ref rb5]) rfl ?_
                          refine c_iload (j := 2) C dX6_lastBreak_121 rfl ?_
                          refine c_iald C dX6_lastBreak_123 trb5 rfl (by omega) (by omega) (by omega) ?_
                          refine c_istore (lv2 := [(4, .int (iI (iv rb5 k.toNat))), (6, .int (iI 1)), (5, .int (iI k)), (0, .ref a0), (1, .int (iI x)), (2, .int (iI i)), (3, .int (iI n))]) C dX6_lastBreak_124 (by decide) rfl ?_
                          refine c_iinc (z := k) (j := 2) (lv2 := [(5, .int (iI (k + 1))), (4, .int (iI (iv rb5 k.toNat))), (6, .int (iI 1)), (0, .ref a0), (1, .int (iI x)), (2, .int (iI i)), (3, .int (iI n))]) C dX6_lastBreak_126 rfl (by decide) rfl ?_
                          refine c_goto (tgt := 28) C dX6_lastBreak_129 (by decide) ?_
                          refine c_lv (lv2 := [(4, .int (iI (iv rb5 k.toNat))), (5, .int (iI (k + 1))), (0, .ref a0), (1, .int (iI x)), (2, .int (iI i)), (3, .int (iI n))]) [1, 0, 3, 4, 5, 6] rfl ?_
                          exact ih2  (iv rb5 k.toNat) (k + 1)  (by omega)   (by omega) (by omega) (by omega) (hLB.take ⟨by omega, by omega⟩ ⟨by omega, by omega⟩ (LBO.mk (o := 1) hW t_a0 rq4 rq5 ⟨by omega, by omega⟩ (by omega)) rfl hW t_a0 rq5 (fun _ => ⟨_, rq6, (by unfold isD; omega), (by unfold isD; omega)⟩) ⟨by omega, by omega⟩)
        refine c_lv (lv2 := [(4, .int (iI i)), (5, .int (iI 1)), (0, .ref a0), (1, .int (iI x)), (2, .int (iI i)), (3, .int (iI n))]) [1, 0, 2, 3, 4, 5] rfl ?_
        exact Lp2 503 i 1  (by omega)   (by omega) (by omega) (by omega) LBI.init
      · refine c_iload (j := 0) C dX6_lastBreak_22 rfl ?_
        exact c_iret C dX6_lastBreak_24 rfl (by decide) (rom0 hph hph (by decide)) ⟨i, rfl, rfl, rfl, rfl, rfl, rfl, ⟨by omega, by omega⟩, ⟨by omega, LBX.no (by omega)⟩⟩
