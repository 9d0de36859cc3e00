section
set_option maxHeartbeats 4000000 in
set_option maxRecDepth 100000 in
theorem G_lclear {l : Launch} {G : GT} {mi : Nat} {sk : Nat → Nat} {L : List Nat} {cl ln : Nat → Nat} {iv : Nat → Nat → Int} {rv : Nat → Nat → Option Nat}  {a0 : Nat} (hW : WT (g0 G) sk L cl ln iv rv) (hS : SKL sk L cl) (t_a0 : ty L cl a0 19)  : Mc l G mi (Phi (g0 G) sk) PHM yX2_clear cX2_clear 1 none 0 [.ref a0] L cl ln iv rv 0 (fun v L2 cl2 ln2 iv2 rv2 => v = none ∧ L = L2 ∧ cl = cl2 ∧ ln = ln2 ∧ rv = rv2 ∧ fT [19] L cl iv rv iv2 rv2 ∧ WT (g0 G) sk L2 cl2 ln2 iv2 rv2 ∧ (iv2 a0 1 = 0 ∧ iv2 a0 2 = 0 ∧ LFR L cl iv rv iv2 a0)) := by
  refine Mc.mk (by decide) (Nat.le_of_ble_eq_true rfl) ?_
  intro p e s m args below meth c A C hM
  refine hv3 (Phi.le hW hS) (show XT L cl ln L cl ln from XT.refl) (show fT [19] L cl iv rv iv rv from fT.refl) (fun hph hX0 hF0 => ?_)
  refine c_aload_n (j := 0) (x := a0) C dX2_clear_0 rfl ?_
  refine c_iconst C dX2_clear_1 ?_
  refine c_put (z := 0) (k := 1) C ck_3 dX2_clear_2 w4_49 (by decide) rfl t_a0 rfl rfl (by decide) rfl (by rfl) (by rfl) (fun iv1 pq1 => ?_)
  refine hv2 (hW.puti pq1 t_a0 ⟨by decide, by decide⟩ rfl) (hF0.puti hX0 pq1 t_a0 rfl) (fun W1 F1 => ?_)
  refine c_aload_n (j := 0) (x := a0) C dX2_clear_5 rfl ?_
  refine c_iconst C dX2_clear_6 ?_
  refine c_put (z := 0) (k := 2) C ck_3 dX2_clear_7 w4_54 (by decide) rfl t_a0 rfl rfl (by decide) rfl (by decide) (by decide) (fun iv2 pq2 => ?_)
  refine hv5 (W1.puti pq2 t_a0 ⟨by decide, by decide⟩ rfl) (F1.puti hX0 pq2 t_a0 rfl) (show iv2 a0 1 = iv1 a0 1 from by rw [pq2]; exact up2_j (by decide)) (show iv1 a0 1 = 0 from by rw [pq1]; exact up2_s) (show iv2 a0 2 = 0 from by rw [pq2]; exact up2_s) (fun W2 F2 ie1 ie2 ie3 => ?_)
  refine hv2 (show 0 ≤ iv2 a0 1 ∧ iv2 a0 1 ≤ 200 from W2.int t_a0 1) (show 0 ≤ iv2 a0 2 ∧ iv2 a0 2 ≤ 1 from W2.int t_a0 2) (fun ri1 ri2 => ?_)
  exact c_vret C dX2_clear_10 rfl (by decide) (rom0 hph hph (by decide)) ⟨rfl, rfl, rfl, rfl, rfl, F2, W2, ⟨by omega, by omega, (LFR.refl.self t_a0 pq1).self t_a0 pq2⟩⟩
set_option maxHeartbeats 4000000 in
set_option maxRecDepth 100000 in
theorem G_ladd {l : Launch} {G : GT} {mi : Nat} {sk : Nat → Nat} {L : List Nat} {cl ln : Nat → Nat} {iv : Nat → Nat → Int} {rv : Nat → Nat → Option Nat}  {a0 : Nat} {x : Int} (hW : WT (g0 G) sk L cl ln iv rv) (hS : SKL sk L cl) (t_a0 : ty L cl a0 19) (h_x : -2147483648 ≤ x ∧ x ≤ 2147483647)  : Mc l G mi (Phi (g0 G) sk) PHM yX2_add cX2_add 2 none 0 [.ref a0, .int (iI x)] L cl ln iv rv 0 (fun v L2 cl2 ln2 iv2 rv2 => v = none ∧ L = L2 ∧ cl = cl2 ∧ ln = ln2 ∧ rv = rv2 ∧ fT [19, 64] L cl iv rv iv2 rv2 ∧ WT (g0 G) sk L2 cl2 ln2 iv2 rv2 ∧ (((iv2 a0 1 = iv a0 1 ∧ iv a0 1 = 200) ∨ iv2 a0 1 = iv a0 1 + 1) ∧ (LFR L cl iv rv iv2 a0 ∧ iv2 a0 2 = iv a0 2) ∧ LAX iv rv iv2 a0 x)) := by
  refine Mc.mk (by decide) (Nat.le_of_ble_eq_true rfl) ?_
  intro p e s m args below meth c A C hM
  refine hv3 (Phi.le hW hS) (show XT L cl ln L cl ln from XT.refl) (show fT [19, 64] L cl iv rv iv rv from fT.refl) (fun hph hX0 hF0 => ?_)
  refine c_aload_n (j := 0) (x := a0) C dX2_add_0 rfl ?_
  have ri1 : 0 ≤ iv a0 1 ∧ iv a0 1 ≤ 200 := hW.int t_a0 1
  refine c_get (k := 1) C ck_3 dX2_add_1 w4_49 (by decide) t_a0 rfl rfl (by decide) rfl ?_
  refine c_sipush (z := 200) C dX2_add_4 (by decide) ?_
  refine c_icmp_ge (tgt := 30) C (r32_c (lo := 0) (hi := 200) ri1.1 ri1.2 (by decide) (by decide)) ⟨by decide, by decide⟩ dX2_add_7 (by decide) (fun c1 => ?_) (fun c1 => ?_)
  · have ri2 : 0 ≤ iv a0 2 ∧ iv a0 2 ≤ 1 := hW.int t_a0 2
    exact c_vret C dX2_add_30 rfl (by decide) (rom0 hph hph (by decide)) ⟨rfl, rfl, rfl, rfl, rfl, hF0, hW, ⟨by omega, ⟨LFR.refl, rfl⟩, LAX.full (by omega)⟩⟩
  · refine c_aload_n (j := 0) (x := a0) C dX2_add_10 rfl ?_
    obtain ⟨rb1, rq1, trb1⟩ := hW.ref t_a0 0 rfl rfl rfl
    have lnrb1 : 200 ≤ ln rb1 ∧ ln rb1 ≤ 200 := hW.len trb1 rfl
    refine c_getr (k := 0) C ck_3 dX2_add_11 w4_44 (by decide) t_a0 rfl rfl (by decide) rfl rq1 ?_
    refine c_st (st2 := [.ref rb1]) rfl ?_
    refine c_aload_n (j := 0) (x := a0) C dX2_add_14 rfl ?_
    refine c_get (k := 1) C ck_3 dX2_add_15 w4_49 (by decide) t_a0 rfl rfl (by decide) rfl ?_
    refine c_iload_n (j := 1) C dX2_add_18 rfl ?_
    have ll1 : 200 ≤ ln rb1 ∧ ln rb1 ≤ 200 := hW.len trb1 rfl
    refine c_iast (x := x) C dX2_add_19 trb1 rfl (by omega) (by omega) (by omega) (fun iv1 pq1 => ?_)
    refine hv2 (hW.puti pq1 trb1 (show (-2147483648) ≤ x ∧ x ≤ 2147483647 by omega) rfl) (hF0.puti hX0 pq1 trb1 rfl) (fun W1 F1 => ?_)
    refine c_aload_n (j := 0) (x := a0) C dX2_add_20 rfl ?_
    refine c_dup C dX2_add_21 rfl ?_
    refine hv2 (show 0 ≤ iv1 a0 1 ∧ iv1 a0 1 ≤ 200 from W1.int t_a0 1) (show iv1 a0 1 = iv a0 1 from by rw [pq1]; exact up2_k (ne_ty t_a0 trb1 (by decide))) (fun ri3 ie1 => ?_)
    refine c_get (k := 1) C ck_3 dX2_add_22 w4_49 (by decide) t_a0 rfl rfl (by decide) rfl ?_
    refine c_iconst C dX2_add_25 ?_
    refine c_iadd C dX2_add_26 ?_
    refine c_put (z := (iv1 a0 1) + 1) (k := 1) C ck_3 dX2_add_27 w4_49 (by decide) rfl t_a0 rfl rfl (by decide) rfl (by rfl) (by rfl) (fun iv2 pq2 => ?_)
    refine hv5 (W1.puti pq2 t_a0 (show 0 ≤ ((iv1 a0 1) + 1) ∧ ((iv1 a0 1) + 1) ≤ 200 by omega) rfl) (F1.puti hX0 pq2 t_a0 rfl) (show iv2 a0 1 = (iv1 a0 1) + 1 from by rw [pq2]; exact up2_s) (show iv2 a0 2 = iv1 a0 2 from by rw [pq2]; exact up2_j (by decide)) (show iv1 a0 2 = iv a0 2 from by rw [pq1]; exact up2_k (ne_ty t_a0 trb1 (by decide))) (fun W2 F2 ie2 ie3 ie4 => ?_)
    refine hv2 (show 0 ≤ iv2 a0 1 ∧ iv2 a0 1 ≤ 200 from W2.int t_a0 1) (show 0 ≤ iv2 a0 2 ∧ iv2 a0 2 ≤ 1 from W2.int t_a0 2) (fun ri4 ri5 => ?_)
    exact c_vret C dX2_add_30 rfl (by decide) (rom0 hph hph (by decide)) ⟨rfl, rfl, rfl, rfl, rfl, F2, W2, ⟨by omega, ⟨(LFR.refl.cell rq1 trb1 pq1).self t_a0 pq2, by omega⟩, LAX.mk rq1 pq1 pq2 rfl (by omega) (ne_ty trb1 t_a0 (by decide))⟩⟩
set_option maxHeartbeats 4000000 in
set_option maxRecDepth 100000 in
theorem G_addPart {l : Launch} {G : GT} {mi : Nat} {sk : Nat → Nat} {L : List Nat} {cl ln : Nat → Nat} {iv : Nat → Nat → Int} {rv : Nat → Nat → Option Nat}  {a0 : Nat} {a1 : Nat} {i : Int} {j : Int} (hW : WT (g0 G) sk L cl ln iv rv) (hS : SKL sk L cl) (t_a0 : ty L cl a0 19) (t_a1 : ty L cl a1 15) (h_i : -2147483648 ≤ i ∧ i ≤ 2147483647) (h_j : -2147483648 ≤ j ∧ j ≤ 2147483647) (hi : 0 ≤ i) : Mc l G mi (Phi (g0 G) sk) PHM yX2_addPart cX2_addPart 5 none 1 [.ref a0, .ref a1, .int (iI i), .int (iI j)] L cl ln iv rv 0 (fun v L2 cl2 ln2 iv2 rv2 => v = none ∧ L = L2 ∧ cl = cl2 ∧ ln = ln2 ∧ rv = rv2 ∧ fT [19, 64] L cl iv rv iv2 rv2 ∧ WT (g0 G) sk L2 cl2 ln2 iv2 rv2 ∧ ((LFR L cl iv rv iv2 a0 ∧ iv2 a0 2 = iv a0 2) ∧ APX iv rv iv2 a0 a1 i j)) := by
  refine Mc.mk (by decide) (Nat.le_of_ble_eq_true rfl) ?_
  intro p e s m args below meth c A C hM
  refine hv5 (Phi.le hW hS) (show XT L cl ln L cl ln from XT.refl) (show fT [19, 64] L cl iv rv iv rv from fT.refl) (show 0 ≤ iv a0 1 ∧ iv a0 1 ≤ 200 from hW.int t_a0 1) (show 0 ≤ iv a0 2 ∧ iv a0 2 ≤ 1 from hW.int t_a0 2) (fun hph hX0 hF0 ri1 ri2 => ?_)
  refine c_aload_n (j := 0) (x := a0) C dX2_addPart_0 rfl ?_
  refine c_get (k := 1) C ck_3 dX2_addPart_1 w4_49 (by decide) t_a0 rfl rfl (by decide) rfl ?_
  refine c_if_le (tgt := 12) C (r32_c (lo := 0) (hi := 200) ri1.1 ri1.2 (by decide) (by decide)) dX2_addPart_4 (by decide) (fun c1 => ?_) (fun c1 => ?_)
  · refine c_iload_n (j := 2) C dX2_addPart_12 rfl ?_
    refine c_istore (lv2 := [(4, .int (iI i)), (0, .ref a0), (1, .ref a1), (2, .int (iI i)), (3, .int (iI j))]) C dX2_addPart_13 (by decide) rfl ?_
    have Lp1 : ∀ (nn : Nat) (k : Int) (ivb1 : Nat → Nat → Int) , max 0 (201 - k) < (nn : Int) → WT (g0 G) sk L cl ln ivb1 rv → fT [19, 64] L cl iv rv ivb1 rv → (0 ≤ k ∧ k ≤ 2147483647 ∧ i ≤ k) → (k = i ∨ k ≤ j) → (LFR L cl iv rv ivb1 a0) → (ivb1 a0 2 = iv a0 2) → (APK iv rv ivb1 a0 a1 i k) → cw p l e 1 ((PHM) + 0 - ((Phi (g0 G) sk) ln rv)) s m args below meth c G A 5 (MQ below (Qu G A (Qp G (Phi (g0 G) sk) ((Phi (g0 G) sk) ln rv) 0 (fun v L2 cl2 ln2 iv2 rv2 => v = none ∧ L = L2 ∧ cl = cl2 ∧ ln = ln2 ∧ rv = rv2 ∧ fT [19, 64] L cl iv rv iv2 rv2 ∧ WT (g0 G) sk L2 cl2 ln2 iv2 rv2 ∧ ((LFR L cl iv rv iv2 a0 ∧ iv2 a0 2 = iv a0 2) ∧ APX iv rv iv2 a0 a1 i j)))) args s (((PHM) + 0 - ((Phi (g0 G) sk) ln rv)) / 16) ((PHM) + 0 - ((Phi (g0 G) sk) ln rv)) A) (Phi (g0 G) sk) ((Phi (g0 G) sk) ln rv) L cl ln ivb1 rv 0 15 [(4, .int (iI k)), (0, .ref a0), (1, .ref a1), (2, .int (iI i)), (3, .int (iI j))] [] := by
      intro nn
      induction nn with
      | zero =>
        intro  k ivb1 hm Wb1 Fb1  hk hki hLF h2e hAP
        exact absurd hm (by omega)
      | succ nn ih1 =>
        intro  k ivb1 hm Wb1 Fb1  hk hki hLF h2e hAP
        refine c_iload (j := 0) C dX2_addPart_15 rfl ?_
        refine c_iload_n (j := 4) C dX2_addPart_17 rfl ?_
        refine c_icmp_ge (tgt := 46) C (r32_c (lo := 0) (hi := 2147483647) hk.1 hk.2.1 (by decide) (by decide)) ⟨by omega, by omega⟩ dX2_addPart_18 (by decide) (fun c2 => ?_) (fun c2 => ?_)
        · have ri3 : 0 ≤ ivb1 a0 1 ∧ ivb1 a0 1 ≤ 200 := Wb1.int t_a0 1
          have ri4 : 0 ≤ ivb1 a0 2 ∧ ivb1 a0 2 ≤ 1 := Wb1.int t_a0 2
          exact c_vret C dX2_addPart_46 rfl (by decide) (rom0 hph hph (by decide)) ⟨rfl, rfl, rfl, rfl, rfl, Fb1, Wb1, ⟨⟨hLF, by omega⟩, APX.fin hAP (by omega) (by omega)⟩⟩
        · refine c_iload (j := 0) C dX2_addPart_21 rfl ?_
          refine c_sipush (z := 200) C dX2_addPart_23 (by decide) ?_
          refine c_icmp_ge (tgt := 46) C (r32_c (lo := 0) (hi := 2147483647) hk.1 hk.2.1 (by decide) (by decide)) ⟨by decide, by decide⟩ dX2_addPart_26 (by decide) (fun c3 => ?_) (fun c3 => ?_)
          · have ri5 : 0 ≤ ivb1 a0 1 ∧ ivb1 a0 1 ≤ 200 := Wb1.int t_a0 1
            have ri6 : 0 ≤ ivb1 a0 2 ∧ ivb1 a0 2 ≤ 1 := Wb1.int t_a0 2
            exact c_vret C dX2_addPart_46 rfl (by decide) (rom0 hph hph (by decide)) ⟨rfl, rfl, rfl, rfl, rfl, Fb1, Wb1, ⟨⟨hLF, by omega⟩, APX.fin hAP (by omega) (by omega)⟩⟩
          · refine c_aload_n (j := 1) (x := a0) C dX2_addPart_29 rfl ?_
            refine c_aload_n (j := 2) (x := a1) C dX2_addPart_30 rfl ?_
            obtain ⟨rb1, rq1, trb1⟩ := Wb1.ref t_a1 6 rfl rfl rfl
            have lnrb1 : 200 ≤ ln rb1 ∧ ln rb1 ≤ 200 := Wb1.len trb1 rfl
            refine c_getr (k := 6) C ck_7 dX2_addPart_31 w1_145 (by decide) t_a1 rfl rfl (by decide) rfl rq1 ?_
            refine c_st (st2 := [.ref rb1, .ref a0]) rfl ?_
            refine c_iload (j := 0) C dX2_addPart_34 rfl ?_
            have ll1 : 200 ≤ ln rb1 ∧ ln rb1 ≤ 200 := Wb1.len trb1 rfl
            refine c_iald C dX2_addPart_36 trb1 rfl (by omega) (by omega) (by omega) ?_
            refine hv4 (show (-2147483648) ≤ ivb1 rb1 k.toNat ∧ ivb1 rb1 k.toNat ≤ 2147483647 from Wb1.int trb1 k.toNat) (show ivb1 rb1 k.toNat = iv rb1 k.toNat from Fb1.i trb1 rfl k.toNat) (show 0 ≤ ivb1 a0 1 ∧ ivb1 a0 1 ≤ 200 from Wb1.int t_a0 1) (show 0 ≤ ivb1 a0 2 ∧ ivb1 a0 2 ≤ 1 from Wb1.int t_a0 2) (fun ri7 ie5 ri8 ri9 => ?_)
            refine d_callV (As := [.int (iI (ivb1 rb1 k.toNat))]) (rest := []) C hM (G_ladd (a0 := a0) (x := ivb1 rb1 k.toNat) Wb1 hS t_a0 (by omega) ) dX2_addPart_37 kV_X2_23 rfl t_a0 rfl rfl (by decide) ck_3 rfl (Nat.le_of_ble_eq_true rfl) ⟨(Nat.le_of_ble_eq_true rfl), (Nat.le_of_ble_eq_true rfl)⟩ hph hph (show 0 + 0 = 0 from rfl) (by decide) (fun rh1 Lh1 clh1 lnh1 ivh1 rvh1 h1 => ?_)
            obtain ⟨rfl, rfl, rfl, rfl, rfl, fl1, W1, exf1⟩ := h1
            have F1 := Fb1.call hX0 fl1 rfl
            refine c_st (st2 := []) rfl ?_
            refine hv3 (show 0 ≤ ivh1 a0 1 ∧ ivh1 a0 1 ≤ 200 from W1.int t_a0 1) (show 0 ≤ ivh1 a0 2 ∧ ivh1 a0 2 ≤ 1 from W1.int t_a0 2) (show ((ivh1 a0 1 = ivb1 a0 1 ∧ ivb1 a0 1 = 200) ∨ ivh1 a0 1 = ivb1 a0 1 + 1) ∧ (LFR L cl ivb1 rv ivh1 a0 ∧ ivh1 a0 2 = ivb1 a0 2) ∧ LAX ivb1 rv ivh1 a0 (ivb1 rb1 k.toNat) from exf1) (fun ri10 ri11 gf1 => ?_)
            refine c_iinc (z := k) (j := 0) (lv2 := [(4, .int (iI (k + 1))), (0, .ref a0), (1, .ref a1), (2, .int (iI i)), (3, .int (iI j))]) C dX2_addPart_40 rfl (by decide) rfl ?_
            refine c_goto (tgt := 15) C dX2_addPart_43 (by decide) ?_
            refine c_lv (lv2 := [(4, .int (iI (k + 1))), (0, .ref a0), (1, .ref a1), (2, .int (iI i)), (3, .int (iI j))]) [0, 1, 2, 3, 4] rfl ?_
            exact ih1  (k + 1) _ (by omega) W1 F1  (by omega) (by omega) (hLF.trans gf1.2.1.1) (gf1.2.1.2.trans h2e) (hAP.step gf1.2.2 rq1 rfl (Fb1.i trb1 rfl _) ⟨by omega, by omega, by omega⟩)
    refine c_lv (lv2 := [(4, .int (iI i)), (0, .ref a0), (1, .ref a1), (2, .int (iI i)), (3, .int (iI j))]) [0, 1, 2, 3, 4] rfl ?_
    exact Lp1 203 i _ (by omega) hW hF0  (by omega) (by omega) LFR.refl rfl (APK.init0 (by omega))
  · refine c_aload_n (j := 0) (x := a0) C dX2_addPart_7 rfl ?_
    refine c_iconst C dX2_addPart_8 ?_
    refine d_callV (As := [.int (iI 0)]) (rest := []) C hM (G_ladd (a0 := a0) (x := 0) hW hS t_a0 ⟨by decide, by decide⟩ ) dX2_addPart_9 kV_X2_23 rfl t_a0 rfl rfl (by decide) ck_3 rfl (Nat.le_of_ble_eq_true rfl) ⟨(Nat.le_of_ble_eq_true rfl), (Nat.le_of_ble_eq_true rfl)⟩ hph hph (show 0 + 0 = 0 from rfl) (by decide) (fun rh2 Lh2 clh2 lnh2 ivh2 rvh2 h2 => ?_)
    obtain ⟨rfl, rfl, rfl, rfl, rfl, fl2, W2, exf2⟩ := h2
    have F2 := hF0.call hX0 fl2 rfl
    refine c_st (st2 := []) rfl ?_
    refine hv3 (show 0 ≤ ivh2 a0 1 ∧ ivh2 a0 1 ≤ 200 from W2.int t_a0 1) (show 0 ≤ ivh2 a0 2 ∧ ivh2 a0 2 ≤ 1 from W2.int t_a0 2) (show ((ivh2 a0 1 = iv a0 1 ∧ iv a0 1 = 200) ∨ ivh2 a0 1 = iv a0 1 + 1) ∧ (LFR L cl iv rv ivh2 a0 ∧ ivh2 a0 2 = iv a0 2) ∧ LAX iv rv ivh2 a0 (0 : Int) from exf2) (fun ri12 ri13 gf2 => ?_)
    refine c_iload_n (j := 2) C dX2_addPart_12 rfl ?_
    refine c_istore (lv2 := [(4, .int (iI i)), (0, .ref a0), (1, .ref a1), (2, .int (iI i)), (3, .int (iI j))]) C dX2_addPart_13 (by decide) rfl ?_
    have Lp2 : ∀ (nn : Nat) (k : Int) (ivb2 : Nat → Nat → Int) , max 0 (201 - k) < (nn : Int) → WT (g0 G) sk L cl ln ivb2 rv → fT [19, 64] L cl iv rv ivb2 rv → (0 ≤ k ∧ k ≤ 2147483647 ∧ i ≤ k) → (k = i ∨ k ≤ j) → (LFR L cl iv rv ivb2 a0) → (ivb2 a0 2 = iv a0 2) → (APK iv rv ivb2 a0 a1 i k) → cw p l e 1 ((PHM) + 0 - ((Phi (g0 G) sk) ln rv)) s m args below meth c G A 5 (MQ below (Qu G A (Qp G (Phi (g0 G) sk) ((Phi (g0 G) sk) ln rv) 0 (fun v L2 cl2 ln2 iv2 rv2 => v = none ∧ L = L2 ∧ cl = cl2 ∧ ln = ln2 ∧ rv = rv2 ∧ fT [19, 64] L cl iv rv iv2 rv2 ∧ WT (g0 G) sk L2 cl2 ln2 iv2 rv2 ∧ ((LFR L cl iv rv iv2 a0 ∧ iv2 a0 2 = iv a0 2) ∧ APX iv rv iv2 a0 a1 i j)))) args s (((PHM) + 0 - ((Phi (g0 G) sk) ln rv)) / 16) ((PHM) + 0 - ((Phi (g0 G) sk) ln rv)) A) (Phi (g0 G) sk) ((Phi (g0 G) sk) ln rv) L cl ln ivb2 rv 0 15 [(4, .int (iI k)), (0, .ref a0), (1, .ref a1), (2, .int (iI i)), (3, .int (iI j))] [] := by
      intro nn
      induction nn with
      | zero =>
        intro  k ivb2 hm Wb2 Fb2  hk hki hLF h2e hAP
        exact absurd hm (by omega)
      | succ nn ih2 =>
        intro  k ivb2 hm Wb2 Fb2  hk hki hLF h2e hAP
        refine c_iload (j := 0) C dX2_addPart_15 rfl ?_
        refine c_iload_n (j := 4) C dX2_addPart_17 rfl ?_
        refine c_icmp_ge (tgt := 46) C (r32_c (lo := 0) (hi := 2147483647) hk.1 hk.2.1 (by decide) (by decide)) ⟨by omega, by omega⟩ dX2_addPart_18 (by decide) (fun c4 => ?_) (fun c4 => ?_)
        · have ri14 : 0 ≤ ivb2 a0 1 ∧ ivb2 a0 1 ≤ 200 := Wb2.int t_a0 1
          have ri15 : 0 ≤ ivb2 a0 2 ∧ ivb2 a0 2 ≤ 1 := Wb2.int t_a0 2
          exact c_vret C dX2_addPart_46 rfl (by decide) (rom0 hph hph (by decide)) ⟨rfl, rfl, rfl, rfl, rfl, Fb2, Wb2, ⟨⟨hLF, by omega⟩, APX.fin hAP (by omega) (by omega)⟩⟩
        · refine c_iload (j := 0) C dX2_addPart_21 rfl ?_
          refine c_sipush (z := 200) C dX2_addPart_23 (by decide) ?_
          refine c_icmp_ge (tgt := 46) C (r32_c (lo := 0) (hi := 2147483647) hk.1 hk.2.1 (by decide) (by decide)) ⟨by decide, by decide⟩ dX2_addPart_26 (by decide) (fun c5 => ?_) (fun c5 => ?_)
          · have ri16 : 0 ≤ ivb2 a0 1 ∧ ivb2 a0 1 ≤ 200 := Wb2.int t_a0 1
            have ri17 : 0 ≤ ivb2 a0 2 ∧ ivb2 a0 2 ≤ 1 := Wb2.int t_a0 2
            exact c_vret C dX2_addPart_46 rfl (by decide) (rom0 hph hph (by decide)) ⟨rfl, rfl, rfl, rfl, rfl, Fb2, Wb2, ⟨⟨hLF, by omega⟩, APX.fin hAP (by omega) (by omega)⟩⟩
          · refine c_aload_n (j := 1) (x := a0) C dX2_addPart_29 rfl ?_
            refine c_aload_n (j := 2) (x := a1) C dX2_addPart_30 rfl ?_
            obtain ⟨rb2, rq2, trb2⟩ := Wb2.ref t_a1 6 rfl rfl rfl
            have lnrb2 : 200 ≤ ln rb2 ∧ ln rb2 ≤ 200 := Wb2.len trb2 rfl
            refine c_getr (k := 6) C ck_7 dX2_addPart_31 w1_145 (by decide) t_a1 rfl rfl (by decide) rfl rq2 ?_
            refine c_st (st2 := [.ref rb2, .ref a0]) rfl ?_
            refine c_iload (j := 0) C dX2_addPart_34 rfl ?_
            have ll2 : 200 ≤ ln rb2 ∧ ln rb2 ≤ 200 := Wb2.len trb2 rfl
            refine c_iald C dX2_addPart_36 trb2 rfl (by omega) (by omega) (by omega) ?_
            refine hv4 (show (-2147483648) ≤ ivb2 rb2 k.toNat ∧ ivb2 rb2 k.toNat ≤ 2147483647 from Wb2.int trb2 k.toNat) (show ivb2 rb2 k.toNat = iv rb2 k.toNat from Fb2.i trb2 rfl k.toNat) (show 0 ≤ ivb2 a0 1 ∧ ivb2 a0 1 ≤ 200 from Wb2.int t_a0 1) (show 0 ≤ ivb2 a0 2 ∧ ivb2 a0 2 ≤ 1 from Wb2.int t_a0 2) (fun ri18 ie16 ri19 ri20 => ?_)
            refine d_callV (As := [.int (iI (ivb2 rb2 k.toNat))]) (rest := []) C hM (G_ladd (a0 := a0) (x := ivb2 rb2 k.toNat) Wb2 hS t_a0 (by omega) ) dX2_addPart_37 kV_X2_23 rfl t_a0 rfl rfl (by decide) ck_3 rfl (Nat.le_of_ble_eq_true rfl) ⟨(Nat.le_of_ble_eq_true rfl), (Nat.le_of_ble_eq_true rfl)⟩ hph hph (show 0 + 0 = 0 from rfl) (by decide) (fun rh3 Lh3 clh3 lnh3 ivh3 rvh3 h3 => ?_)
            obtain ⟨rfl, rfl, rfl, rfl, rfl, fl3, W3, exf3⟩ := h3
            have F3 := Fb2.call hX0 fl3 rfl
            refine c_st (st2 := []) rfl ?_
            refine hv3 (show 0 ≤ ivh3 a0 1 ∧ ivh3 a0 1 ≤ 200 from W3.int t_a0 1) (show 0 ≤ ivh3 a0 2 ∧ ivh3 a0 2 ≤ 1 from W3.int t_a0 2) (show ((ivh3 a0 1 = ivb2 a0 1 ∧ ivb2 a0 1 = 200) ∨ ivh3 a0 1 = ivb2 a0 1 + 1) ∧ (LFR L cl ivb2 rv ivh3 a0 ∧ ivh3 a0 2 = ivb2 a0 2) ∧ LAX ivb2 rv ivh3 a0 (ivb2 rb2 k.toNat) from exf3) (fun ri21 ri22 gf3 => ?_)
            refine c_iinc (z := k) (j := 0) (lv2 := [(4, .int (iI (k + 1))), (0, .ref a0), (1, .ref a1), (2, .int (iI i)), (3, .int (iI j))]) C dX2_addPart_40 rfl (by decide) rfl ?_
            refine c_goto (tgt := 15) C dX2_addPart_43 (by decide) ?_
            refine c_lv (lv2 := [(4, .int (iI (k + 1))), (0, .ref a0), (1, .ref a1), (2, .int (iI i)), (3, .int (iI j))]) [0, 1, 2, 3, 4] rfl ?_
            exact ih2  (k + 1) _ (by omega) W3 F3  (by omega) (by omega) (hLF.trans gf3.2.1.1) (gf3.2.1.2.trans h2e) (hAP.step gf3.2.2 rq2 rfl (Fb2.i trb2 rfl _) ⟨by omega, by omega, by omega⟩)
    refine c_lv (lv2 := [(4, .int (iI i)), (0, .ref a0), (1, .ref a1), (2, .int (iI i)), (3, .int (iI j))]) [0, 1, 2, 3, 4] rfl ?_
    exact Lp2 203 i _ (by omega) W2 F2  (by omega) (by omega) gf2.2.1.1 gf2.2.1.2 (APK.init1 gf2.2.2 (by omega))
set_option maxHeartbeats 4000000 in
set_option maxRecDepth 100000 in
theorem G_indent {l : Launch} {G : GT} {mi : Nat} {sk : Nat → Nat} {L : List Nat} {cl ln : Nat → Nat} {iv : Nat → Nat → Int} {rv : Nat → Nat → Option Nat}  {a0 : Nat} {n : Int} (hW : WT (g0 G) sk L cl ln iv rv) (hS : SKL sk L cl) (t_a0 : ty L cl a0 19) (h_n : -2147483648 ≤ n ∧ n ≤ 2147483647)  : Mc l G mi (Phi (g0 G) sk) PHM yX2_indent cX2_indent 3 none 1 [.ref a0, .int (iI n)] L cl ln iv rv 0 (fun v L2 cl2 ln2 iv2 rv2 => v = none ∧ L = L2 ∧ cl = cl2 ∧ ln = ln2 ∧ rv = rv2 ∧ fT [19, 64] L cl iv rv iv2 rv2 ∧ WT (g0 G) sk L2 cl2 ln2 iv2 rv2 ∧ ((LFR L cl iv rv iv2 a0 ∧ iv2 a0 2 = iv a0 2) ∧ INX iv rv iv2 a0 n)) := by
  refine Mc.mk (by decide) (Nat.le_of_ble_eq_true rfl) ?_
  intro p e s m args below meth c A C hM
  refine hv5 (Phi.le hW hS) (show XT L cl ln L cl ln from XT.refl) (show fT [19, 64] L cl iv rv iv rv from fT.refl) (show 0 ≤ iv a0 1 ∧ iv a0 1 ≤ 200 from hW.int t_a0 1) (show 0 ≤ iv a0 2 ∧ iv a0 2 ≤ 1 from hW.int t_a0 2) (fun hph hX0 hF0 ri1 ri2 => ?_)
  refine c_iload_n (j := 1) C dX2_indent_0 rfl ?_
  refine c_if_le (tgt := 23) C ⟨by omega, by omega⟩ dX2_indent_1 (by decide) (fun c1 => ?_) (fun c1 => ?_)
  · exact c_vret C dX2_indent_23 rfl (by decide) (rom0 hph hph (by decide)) ⟨rfl, rfl, rfl, rfl, rfl, hF0, hW, ⟨⟨LFR.refl, rfl⟩, INX.no (by omega)⟩⟩
  · refine c_aload_n (j := 0) (x := a0) C dX2_indent_4 rfl ?_
    refine c_get (k := 1) C ck_3 dX2_indent_5 w4_49 (by decide) t_a0 rfl rfl (by decide) rfl ?_
    refine c_if_eq (tgt := 23) C (r32_c (lo := 0) (hi := 200) ri1.1 ri1.2 (by decide) (by decide)) dX2_indent_8 (by decide) (fun c2 => ?_) (fun c2 => ?_)
    · exact c_vret C dX2_indent_23 rfl (by decide) (rom0 hph hph (by decide)) ⟨rfl, rfl, rfl, rfl, rfl, hF0, hW, ⟨⟨LFR.refl, rfl⟩, INX.no (by omega)⟩⟩
    · refine c_iload_n (j := 1) C dX2_indent_11 rfl ?_
      refine c_sipush (z := 200) C dX2_indent_12 (by decide) ?_
      refine c_aload_n (j := 0) (x := a0) C dX2_indent_15 rfl ?_
      refine c_get (k := 1) C ck_3 dX2_indent_16 w4_49 (by decide) t_a0 rfl rfl (by decide) rfl ?_
      refine c_isub C dX2_indent_19 ?_
      refine c_icmp_le (tgt := 24) C ⟨by omega, by omega⟩ ⟨by omega, by omega⟩ dX2_indent_20 (by decide) (fun c3 => ?_) (fun c3 => ?_)
      · refine c_aload_n (j := 0) (x := a0) C dX2_indent_24 rfl ?_
        obtain ⟨rb1, rq1, trb1⟩ := hW.ref t_a0 0 rfl rfl rfl
        have lnrb1 : 200 ≤ ln rb1 ∧ ln rb1 ≤ 200 := hW.len trb1 rfl
        refine c_getr (k := 0) C ck_3 dX2_indent_25 w4_44 (by decide) t_a0 rfl rfl (by decide) rfl rq1 ?_
        refine c_st (st2 := [.ref rb1]) rfl ?_
        refine c_iconst C dX2_indent_28 ?_
        refine c_aload_n (j := 0) (x := a0) C dX2_indent_29 rfl ?_
        refine c_getr (k := 0) C ck_3 dX2_indent_30 w4_44 (by decide) t_a0 rfl rfl (by decide) rfl rq1 ?_
        refine c_st (st2 := [.ref rb1, .int (iI 0), .ref rb1]) rfl ?_
        refine c_iload_n (j := 1) C dX2_indent_33 rfl ?_
        refine c_aload_n (j := 0) (x := a0) C dX2_indent_34 rfl ?_
        refine c_get (k := 1) C ck_3 dX2_indent_35 w4_49 (by decide) t_a0 rfl rfl (by decide) rfl ?_
        have ll1 : 200 ≤ ln rb1 ∧ ln rb1 ≤ 200 := hW.len trb1 rfl
        refine c_copyi (sp := 0) (dp := n) (n := iv a0 1) C dX2_indent_38 w4_80 w2_133 w2_132 w1_15 trb1 rfl trb1 rfl (by omega) (by omega) (by omega) (by omega) (by omega) (by omega) (by omega) (by decide) (Nat.le_of_ble_eq_true rfl) (fun iv1 pq1 => ?_)
        refine hv2 (hW.copy pq1 trb1 trb1 (fun _ => rfl) (fun _ => rfl) (fun _ => rfl) (fun _ => rfl) rfl) (hF0.copy hX0 pq1 trb1 rfl) (fun W1 F1 => ?_)
        refine c_iconst C dX2_indent_41 ?_
        refine c_istore_n (lv2 := [(2, .int (iI 0)), (0, .ref a0), (1, .int (iI n))]) C dX2_indent_42 (by decide) rfl ?_
        have Lp1 : ∀ (nn : Nat) (k : Int) (ivb1 : Nat → Nat → Int) , 201 - k < (nn : Int) → WT (g0 G) sk L cl ln ivb1 rv → fT [19, 64] L cl iv rv ivb1 rv → (0 ≤ k ∧ k ≤ n ∧ 0 < n) → (0 ≤ n ∧ n + ivb1 a0 1 ≤ 200) → (LFR L cl iv rv ivb1 a0) → (ivb1 a0 1 = iv a0 1 ∧ iv a0 1 ≠ 0) → (ivb1 a0 2 = iv a0 2) → (INK iv rv ivb1 a0 n k) → cw p l e 1 ((PHM) + 0 - ((Phi (g0 G) sk) ln rv)) s m args below meth c G A 3 (MQ below (Qu G A (Qp G (Phi (g0 G) sk) ((Phi (g0 G) sk) ln rv) 0 (fun v L2 cl2 ln2 iv2 rv2 => v = none ∧ L = L2 ∧ cl = cl2 ∧ ln = ln2 ∧ rv = rv2 ∧ fT [19, 64] L cl iv rv iv2 rv2 ∧ WT (g0 G) sk L2 cl2 ln2 iv2 rv2 ∧ ((LFR L cl iv rv iv2 a0 ∧ iv2 a0 2 = iv a0 2) ∧ INX iv rv iv2 a0 n)))) args s (((PHM) + 0 - ((Phi (g0 G) sk) ln rv)) / 16) ((PHM) + 0 - ((Phi (g0 G) sk) ln rv)) A) (Phi (g0 G) sk) ((Phi (g0 G) sk) ln rv) L cl ln ivb1 rv 0 43 [(2, .int (iI k)), (0, .ref a0), (1, .int (iI n))] [] := by
          intro nn
          induction nn with
          | zero =>
            intro  k ivb1 hm Wb1 Fb1  hk hn hLF h1e h2e hIN
            exact absurd hm (by omega)
          | succ nn ih1 =>
            intro  k ivb1 hm Wb1 Fb1  hk hn hLF h1e h2e hIN
            refine c_iload_n (j := 0) C dX2_indent_43 rfl ?_
            refine c_iload_n (j := 2) C dX2_indent_44 rfl ?_
            refine c_icmp_ge (tgt := 61) C ⟨by omega, by omega⟩ ⟨by omega, by omega⟩ dX2_indent_45 (by decide) (fun c4 => ?_) (fun c4 => ?_)
            · refine c_aload_n (j := 1) (x := a0) C dX2_indent_61 rfl ?_
              refine c_dup C dX2_indent_62 rfl ?_
              have ri3 : 0 ≤ ivb1 a0 1 ∧ ivb1 a0 1 ≤ 200 := Wb1.int t_a0 1
              refine c_get (k := 1) C ck_3 dX2_indent_63 w4_49 (by decide) t_a0 rfl rfl (by decide) rfl ?_
              refine c_iload_n (j := 2) C dX2_indent_66 rfl ?_
              refine c_iadd C dX2_indent_67 ?_
              refine c_put (z := (ivb1 a0 1) + n) (k := 1) C ck_3 dX2_indent_68 w4_49 (by decide) rfl t_a0 rfl rfl (by decide) rfl (by rfl) (by rfl) (fun iv2 pq2 => ?_)
              refine hv4 (Wb1.puti pq2 t_a0 (show 0 ≤ ((ivb1 a0 1) + n) ∧ ((ivb1 a0 1) + n) ≤ 200 by omega) rfl) (Fb1.puti hX0 pq2 t_a0 rfl) (show iv2 a0 1 = (ivb1 a0 1) + n from by rw [pq2]; exact up2_s) (show iv2 a0 2 = ivb1 a0 2 from by rw [pq2]; exact up2_j (by decide)) (fun W2 F2 ie2 ie3 => ?_)
              refine hv2 (show 0 ≤ iv2 a0 1 ∧ iv2 a0 1 ≤ 200 from W2.int t_a0 1) (show 0 ≤ iv2 a0 2 ∧ iv2 a0 2 ≤ 1 from W2.int t_a0 2) (fun ri4 ri5 => ?_)
              exact c_vret C dX2_indent_71 rfl (by decide) (rom0 hph hph (by decide)) ⟨rfl, rfl, rfl, rfl, rfl, F2, W2, ⟨⟨hLF.self t_a0 pq2, by omega⟩, INX.mk (by have q := hIN; rw [show k = n by omega] at q; exact q) rq1 pq2 (by omega) (ne_ty trb1 t_a0 (by decide)) (by omega) ⟨by omega, by omega⟩⟩⟩
            · refine c_aload_n (j := 1) (x := a0) C dX2_indent_48 rfl ?_
              refine c_getr (k := 0) C ck_3 dX2_indent_49 w4_44 (by decide) t_a0 rfl rfl (by decide) rfl rq1 ?_
              refine c_st (st2 := [.ref rb1]) rfl ?_
              refine c_iload_n (j := 0) C dX2_indent_52 rfl ?_
              refine c_iconst C dX2_indent_53 ?_
              refine c_iast (x := 0) C dX2_indent_54 trb1 rfl (by omega) (by omega) (by omega) (fun iv3 pq3 => ?_)
              refine hv2 (Wb1.puti pq3 trb1 (show (-2147483648) ≤ 0 ∧ 0 ≤ 2147483647 by omega) rfl) (Fb1.puti hX0 pq3 trb1 rfl) (fun W3 F3 => ?_)
              refine c_iinc (z := k) (j := 0) (lv2 := [(2, .int (iI (k + 1))), (0, .ref a0), (1, .int (iI n))]) C dX2_indent_55 rfl (by decide) rfl ?_
              refine c_goto (tgt := 43) C dX2_indent_58 (by decide) ?_
              refine hv4 (show 0 ≤ iv3 a0 1 ∧ iv3 a0 1 ≤ 200 from W3.int t_a0 1) (show iv3 a0 1 = ivb1 a0 1 from by rw [pq3]; exact up2_k (ne_ty t_a0 trb1 (by decide))) (show 0 ≤ iv3 a0 2 ∧ iv3 a0 2 ≤ 1 from W3.int t_a0 2) (show iv3 a0 2 = ivb1 a0 2 from by rw [pq3]; exact up2_k (ne_ty t_a0 trb1 (by decide))) (fun ri6 ie5 ri7 ie7 => ?_)
              refine c_lv (lv2 := [(2, .int (iI (k + 1))), (0, .ref a0), (1, .int (iI n))]) [0, 1, 2] rfl ?_
              exact ih1  (k + 1) _ (by omega) W3 F3  (by omega) (by show 0 ≤ n ∧ n + iv3 a0 1 ≤ 200; omega) (hLF.cell rq1 trb1 pq3) (by show iv3 a0 1 = iv a0 1 ∧ iv a0 1 ≠ 0; omega) (ie7.trans h2e) (hIN.step rq1 pq3 ⟨by omega, by omega⟩)
        refine hv4 (show 0 ≤ iv1 a0 1 ∧ iv1 a0 1 ≤ 200 from W1.int t_a0 1) (show iv1 a0 1 = iv a0 1 from by rw [pq1]; exact if_neg (ne_ty t_a0 trb1 (by decide))) (show 0 ≤ iv1 a0 2 ∧ iv1 a0 2 ≤ 1 from W1.int t_a0 2) (show iv1 a0 2 = iv a0 2 from by rw [pq1]; exact if_neg (ne_ty t_a0 trb1 (by decide))) (fun ri8 ie9 ri9 ie10 => ?_)
        refine c_lv (lv2 := [(2, .int (iI 0)), (0, .ref a0), (1, .int (iI n))]) [0, 1, 2] rfl ?_
        exact Lp1 203 0 _ (by omega) W1 F1  (by omega) (by show 0 ≤ n ∧ n + iv1 a0 1 ≤ 200; omega) (LFR.refl.copy rq1 trb1 pq1) (by show iv1 a0 1 = iv a0 1 ∧ iv a0 1 ≠ 0; omega) ie10 (INK.init rq1 pq1 rfl (by omega) (by omega))
      · exact c_vret C dX2_indent_23 rfl (by decide) (rom0 hph hph (by decide)) ⟨rfl, rfl, rfl, rfl, rfl, hF0, hW, ⟨⟨LFR.refl, rfl⟩, INX.no (by omega)⟩⟩
set_option maxHeartbeats 4000000 in
set_option maxRecDepth 100000 in
theorem G_lastBreak {l : Launch} {G : GT} {mi : Nat} {sk : Nat → Nat} {L : List Nat} {cl ln : Nat → Nat} {iv : Nat → Nat → Int} {rv : Nat → Nat → Option Nat}  {a0 : Nat} {x : Int} {i : Int} {n : Int} (hW : WT (g0 G) sk L cl ln iv rv) (hS : SKL sk L cl) (t_a0 : ty L cl a0 15) (h_x : -2147483648 ≤ x ∧ x ≤ 2147483647) (h_i : -2147483648 ≤ i ∧ i ≤ 2147483647) (h_n : -2147483648 ≤ n ∧ n ≤ 2147483647) (hi : 0 ≤ i) : Mc l G mi (Phi (g0 G) sk) PHM yX6_lastBreak cX6_lastBreak 7 (some .int) 1 [.ref a0, .int (iI x), .int (iI i), .int (iI n)] L cl ln iv rv 0 (fun v L2 cl2 ln2 iv2 rv2 => ∃ f : Int, v = some (.int (iI f)) ∧ L = L2 ∧ cl = cl2 ∧ ln = ln2 ∧ iv = iv2 ∧ rv = rv2 ∧ (-2147483648 ≤ f ∧ f ≤ 2147483647) ∧ (i ≤ f ∧ LBX iv rv a0 x i n f)) := by
  refine Mc.mk (by decide) (Nat.le_of_ble_eq_true rfl) ?_
  intro p e s m args below meth c A C hM
  refine hv4 (Phi.le hW hS) (show XT L cl ln L cl ln from XT.refl) (show fT [] L cl iv rv iv rv from fT.refl) (show 0 ≤ iv a0 4 ∧ iv a0 4 ≤ 500 from hW.int t_a0 4) (fun hph hX0 hF0 ri1 => ?_)
  refine c_iload_n (j := 2) C dX6_lastBreak_0 rfl ?_
  refine c_istore (lv2 := [(4, .int (iI i)), (0, .ref a0), (1, .int (iI x)), (2, .int (iI i)), (3, .int (iI n))]) C dX6_lastBreak_1 (by decide) rfl ?_
  refine c_iload_n (j := 2) C dX6_lastBreak_3 rfl ?_
  refine c_iconst C dX6_lastBreak_4 ?_
  refine c_icmp_gt (tgt := 22) C ⟨by omega, by omega⟩ ⟨by decide, by decide⟩ dX6_lastBreak_5 (by decide) (fun c1 => ?_) (fun c1 => ?_)
  · refine c_iload (j := 0) C dX6_lastBreak_22 rfl ?_
    exact c_iret C dX6_lastBreak_24 rfl (by decide) (rom0 hph hph (by decide)) ⟨i, rfl, rfl, rfl, rfl, rfl, rfl, ⟨by omega, by omega⟩, ⟨by omega, LBX.no (by omega)⟩⟩
  · refine c_iload_n (j := 2) C dX6_lastBreak_8 rfl ?_
    refine c_iconst C dX6_lastBreak_9 ?_
    refine c_icmp_ne (tgt := 25) C ⟨by omega, by omega⟩ ⟨by decide, by decide⟩ dX6_lastBreak_10 (by decide) (fun c2 => ?_) (fun c2 => ?_)
    · refine c_iconst C dX6_lastBreak_25 ?_
      refine c_istore (lv2 := [(5, .int (iI 1)), (4, .int (iI i)), (0, .ref a0), (1, .int (iI x)), (2, .int (iI i)), (3, .int (iI n))]) C dX6_lastBreak_26 (by decide) rfl ?_
      have Lp1 : ∀ (nn : Nat) (la k : Int) , 502 - k < (nn : Int) → (i ≤ la ∧ la ≤ 2147483647) → (1 ≤ k ∧ k ≤ 501 ∧ (k = 1 ∨ k ≤ iv a0 4)) → (x ≤ 3 ∧ (x = 3 → 6 ≤ iv a0 4)) → (LBI iv rv a0 x i n k la) → cw p l e 1 ((PHM) + 0 - ((Phi (g0 G) sk) ln rv)) s m args below meth c G A 7 (MQ below (Qu G A (Qp G (Phi (g0 G) sk) ((Phi (g0 G) sk) ln rv) 0 (fun v L2 cl2 ln2 iv2 rv2 => ∃ f : Int, v = some (.int (iI f)) ∧ L = L2 ∧ cl = cl2 ∧ ln = ln2 ∧ iv = iv2 ∧ rv = rv2 ∧ (-2147483648 ≤ f ∧ f ≤ 2147483647) ∧ (i ≤ f ∧ LBX iv rv a0 x i n f)))) args s (((PHM) + 0 - ((Phi (g0 G) sk) ln rv)) / 16) ((PHM) + 0 - ((Phi (g0 G) sk) ln rv)) A) (Phi (g0 G) sk) ((Phi (g0 G) sk) ln rv) L cl ln iv rv 0 28 [(4, .int (iI la)), (5, .int (iI k)), (0, .ref a0), (1, .int (iI x)), (2, .int (iI i)), (3, .int (iI n))] [] := by
        intro nn
        induction nn with
        | zero =>
          intro  la k  hm   hla hk hx3 hLB
          exact absurd hm (by omega)
        | succ nn ih1 =>
          intro  la k  hm   hla hk hx3 hLB
          refine c_iload (j := 1) C dX6_lastBreak_28 rfl ?_
          refine c_aload_n (j := 2) (x := a0) C dX6_lastBreak_30 rfl ?_
          refine c_get (k := 4) C ck_7 dX6_lastBreak_31 w1_140 (by decide) t_a0 rfl rfl (by decide) rfl ?_
          refine c_icmp_ge (tgt := 132) C (r32_c (lo := 1) (hi := 501) hk.1 hk.2.1 (by decide) (by decide)) (r32_c (lo := 0) (hi := 500) ri1.1 ri1.2 (by decide) (by decide)) dX6_lastBreak_34 (by decide) (fun c3 => ?_) (fun c3 => ?_)
          · refine c_iload (j := 0) C dX6_lastBreak_132 rfl ?_
            exact c_iret C dX6_lastBreak_134 rfl (by decide) (rom0 hph hph (by decide)) ⟨la, rfl, rfl, rfl, rfl, rfl, rfl, ⟨by omega, by omega⟩, ⟨by omega, LBI.fin hLB (by omega)⟩⟩
          · refine c_aload_n (j := 2) (x := a0) C dX6_lastBreak_37 rfl ?_
            obtain ⟨rb1, rq1, trb1⟩ := hW.ref t_a0 2 rfl rfl rfl
            have lnrb1 : 500 ≤ ln rb1 ∧ ln rb1 ≤ 500 := hW.len trb1 rfl
            refine c_getr (k := 2) C ck_7 dX6_lastBreak_38 w1_138 (by decide) t_a0 rfl rfl (by decide) rfl rq1 ?_
            refine c_st (st2 := [.ref rb1]) rfl ?_
            refine c_iload (j := 1) C dX6_lastBreak_41 rfl ?_
            have ll1 : 500 ≤ ln rb1 ∧ ln rb1 ≤ 500 := hW.len trb1 rfl
            refine c_zald C dX6_lastBreak_43 trb1 rfl (by omega) (by omega) (by omega) ?_
            have ri2 : 0 ≤ iv rb1 k.toNat ∧ iv rb1 k.toNat ≤ 1 := hW.int trb1 k.toNat
            refine c_if_eq (tgt := 76) C (r32_c (lo := 0) (hi := 1) ri2.1 ri2.2 (by decide) (by decide)) dX6_lastBreak_44 (by decide) (fun c4 => ?_) (fun c4 => ?_)
            · refine c_iconst C dX6_lastBreak_76 ?_
              refine c_istore (lv2 := [(6, .int (iI 0)), (4, .int (iI la)), (5, .int (iI k)), (0, .ref a0), (1, .int (iI x)), (2, .int (iI i)), (3, .int (iI n))]) C dX6_lastBreak_77 (by decide) rfl ?_
              refine c_iload (j := 0) C dX6_lastBreak_79 rfl ?_
              refine c_if_eq (tgt := 126) C ⟨by decide, by decide⟩ dX6_lastBreak_81 (by decide) (fun _ => ?_) (fun z => absurd z (by omega))
              refine c_iinc (z := k) (j := 2) (lv2 := [(5, .int (iI (k + 1))), (6, .int (iI 0)), (4, .int (iI la)), (0, .ref a0), (1, .int (iI x)), (2, .int (iI i)), (3, .int (iI n))]) C dX6_lastBreak_126 rfl (by decide) rfl ?_
              refine c_goto (tgt := 28) C dX6_lastBreak_129 (by decide) ?_
              refine c_lv (lv2 := [(4, .int (iI la)), (5, .int (iI (k + 1))), (0, .ref a0), (1, .int (iI x)), (2, .int (iI i)), (3, .int (iI n))]) [2, 0, 3, 4, 5, 6] rfl ?_
              exact ih1  la (k + 1)  (by omega)   (by omega) (by omega) (by omega) (hLB.nof ⟨by omega, by omega⟩ (by omega) (LBO.b0 (o := 0) hW t_a0 rq1 ⟨by omega, by omega⟩ (by decide) (by omega)) (by decide) ⟨by omega, by omega⟩)
            · refine c_aload_n (j := 2) (x := a0) C dX6_lastBreak_47 rfl ?_
              obtain ⟨rb2, rq2, trb2⟩ := hW.ref t_a0 3 rfl rfl rfl
              have lnrb2 : 500 ≤ ln rb2 ∧ ln rb2 ≤ 500 := hW.len trb2 rfl
              refine c_getr (k := 3) C ck_7 dX6_lastBreak_48 w1_139 (by decide) t_a0 rfl rfl (by decide) rfl rq2 ?_
              refine c_st (st2 := [.ref rb2]) rfl ?_
              refine c_iload (j := 1) C dX6_lastBreak_51 rfl ?_
              have ll2 : 500 ≤ ln rb2 ∧ ln rb2 ≤ 500 := hW.len trb2 rfl
              refine c_iald C dX6_lastBreak_53 trb2 rfl (by omega) (by omega) (by omega) ?_
              have ri3 : (-2147483648) ≤ iv rb2 k.toNat ∧ iv rb2 k.toNat ≤ 2147483647 := hW.int trb2 k.toNat
              refine c_iload (j := 0) C dX6_lastBreak_54 rfl ?_
              refine c_icmp_le (tgt := 76) C (r32_c (lo := (-2147483648)) (hi := 2147483647) ri3.1 ri3.2 (by decide) (by decide)) ⟨by omega, by omega⟩ dX6_lastBreak_56 (by decide) (fun c5 => ?_) (fun c5 => ?_)
              · refine c_iconst C dX6_lastBreak_76 ?_
                refine c_istore (lv2 := [(6, .int (iI 0)), (4, .int (iI la)), (5, .int (iI k)), (0, .ref a0), (1, .int (iI x)), (2, .int (iI i)), (3, .int (iI n))]) C dX6_lastBreak_77 (by decide) rfl ?_
                refine c_iload (j := 0) C dX6_lastBreak_79 rfl ?_
                refine c_if_eq (tgt := 126) C ⟨by decide, by decide⟩ dX6_lastBreak_81 (by decide) (fun _ => ?_) (fun z => absurd z (by omega))
                refine c_iinc (z := k) (j := 2) (lv2 := [(5, .int (iI (k + 1))), (6, .int (iI 0)), (4, .int (iI la)), (0, .ref a0), (1, .int (iI x)), (2, .int (iI i)), (3, .int (iI n))]) C dX6_lastBreak_126 rfl (by decide) rfl ?_
                refine c_goto (tgt := 28) C dX6_lastBreak_129 (by decide) ?_
                refine c_lv (lv2 := [(4, .int (iI la)), (5, .int (iI (k + 1))), (0, .ref a0), (1, .int (iI x)), (2, .int (iI i)), (3, .int (iI n))]) [2, 0, 3, 4, 5, 6] rfl ?_
                exact ih1  la (k + 1)  (by omega)   (by omega) (by omega) (by omega) (hLB.nof ⟨by omega, by omega⟩ (by omega) (LBO.mk (o := 0) hW t_a0 rq1 rq2 ⟨by omega, by omega⟩ (by omega)) (by decide) ⟨by omega, by omega⟩)
              · refine c_aload_n (j := 2) (x := a0) C dX6_lastBreak_59 rfl ?_
                refine c_getr (k := 3) C ck_7 dX6_lastBreak_60 w1_139 (by decide) t_a0 rfl rfl (by decide) rfl rq2 ?_
                refine c_st (st2 := [.ref rb2]) rfl ?_
                refine c_iload (j := 1) C dX6_lastBreak_63 rfl ?_
                refine c_iald C dX6_lastBreak_65 trb2 rfl (by omega) (by omega) (by omega) ?_
                refine c_iload_n (j := 4) C dX6_lastBreak_66 rfl ?_
                refine c_isub C dX6_lastBreak_67 ?_
                refine c_iload_n (j := 5) C dX6_lastBreak_68 rfl ?_
                refine c_icmp_gt (tgt := 76) C ⟨by omega, by omega⟩ ⟨by omega, by omega⟩ dX6_lastBreak_69 (by decide) (fun c6 => ?_) (fun c6 => ?_)
                · refine c_iconst C dX6_lastBreak_76 ?_
                  refine c_istore (lv2 := [(6, .int (iI 0)), (4, .int (iI la)), (5, .int (iI k)), (0, .ref a0), (1, .int (iI x)), (2, .int (iI i)), (3, .int (iI n))]) C dX6_lastBreak_77 (by decide) rfl ?_
                  refine c_iload (j := 0) C dX6_lastBreak_79 rfl ?_
                  refine c_if_eq (tgt := 126) C ⟨by decide, by decide⟩ dX6_lastBreak_81 (by decide) (fun _ => ?_) (fun z => absurd z (by omega))
                  refine c_iinc (z := k) (j := 2) (lv2 := [(5, .int (iI (k + 1))), (6, .int (iI 0)), (4, .int (iI la)), (0, .ref a0), (1, .int (iI x)), (2, .int (iI i)), (3, .int (iI n))]) C dX6_lastBreak_126 rfl (by decide) rfl ?_
                  refine c_goto (tgt := 28) C dX6_lastBreak_129 (by decide) ?_
                  refine c_lv (lv2 := [(4, .int (iI la)), (5, .int (iI (k + 1))), (0, .ref a0), (1, .int (iI x)), (2, .int (iI i)), (3, .int (iI n))]) [2, 0, 3, 4, 5, 6] rfl ?_
                  exact ih1  la (k + 1)  (by omega)   (by omega) (by omega) (by omega) (hLB.nof ⟨by omega, by omega⟩ (by omega) (LBO.mk (o := 0) hW t_a0 rq1 rq2 ⟨by omega, by omega⟩ (by omega)) (by decide) ⟨by omega, by omega⟩)
                · refine c_iconst C dX6_lastBreak_72 ?_
                  refine c_goto (tgt := 77) C dX6_lastBreak_73 (by decide) ?_
                  refine c_istore (lv2 := [(6, .int (iI 1)), (4, .int (iI la)), (5, .int (iI k)), (0, .ref a0), (1, .int (iI x)), (2, .int (iI i)), (3, .int (iI n))]) C dX6_lastBreak_77 (by decide) rfl ?_
                  refine c_iload (j := 0) C dX6_lastBreak_79 rfl ?_
                  refine c_if_eq (tgt := 126) C ⟨by decide, by decide⟩ dX6_lastBreak_81 (by decide) (fun z => absurd z (by omega)) (fun _ => ?_)
                  refine c_iload_n (j := 4) C dX6_lastBreak_84 rfl ?_
                  refine c_iconst C dX6_lastBreak_85 ?_
                  refine c_icmp_ne (tgt := 117) C ⟨by omega, by omega⟩ ⟨by decide, by decide⟩ dX6_lastBreak_86 (by decide) (fun c7 => ?_) (fun c7 => ?_)
                  · refine c_aload_n (j := 3) (x := a0) C dX6_lastBreak_117 rfl ?_
                    refine c_getr (k := 3) C ck_7 dX6_lastBreak_118 w1_139 (by decide) t_a0 rfl rfl (by decide) rfl rq2 ?_
                    refine c_st (st2 := [.ref rb2]) rfl ?_
                    refine c_iload (j := 2) C dX6_lastBreak_121 rfl ?_
                    refine c_iald C dX6_lastBreak_123 trb2 rfl (by omega) (by omega) (by omega) ?_
                    refine c_istore (lv2 := [(4, .int (iI (iv rb2 k.toNat))), (6, .int (iI 1)), (5, .int (iI k)), (0, .ref a0), (1, .int (iI x)), (2, .int (iI i)), (3, .int (iI n))]) C dX6_lastBreak_124 (by decide) rfl ?_
                    refine c_iinc (z := k) (j := 2) (lv2 := [(5, .int (iI (k + 1))), (4, .int (iI (iv rb2 k.toNat))), (6, .int (iI 1)), (0, .ref a0), (1, .int (iI x)), (2, .int (iI i)), (3, .int (iI n))]) C dX6_lastBreak_126 rfl (by decide) rfl ?_
                    refine c_goto (tgt := 28) C dX6_lastBreak_129 (by decide) ?_
                    refine c_lv (lv2 := [(4, .int (iI (iv rb2 k.toNat))), (5, .int (iI (k + 1))), (0, .ref a0), (1, .int (iI x)), (2, .int (iI i)), (3, .int (iI n))]) [1, 0, 3, 4, 5, 6] rfl ?_
                    exact ih1  (iv rb2 k.toNat) (k + 1)  (by omega)   (by omega) (by omega) (by omega) (hLB.take ⟨by omega, by omega⟩ ⟨by omega, by omega⟩ (LBO.mk (o := 1) hW t_a0 rq1 rq2 ⟨by omega, by omega⟩ (by omega)) rfl hW t_a0 rq2 (fun q => absurd q (by omega)) ⟨by omega, by omega⟩)
                  · refine c_aload_n (j := 3) (x := a0) C dX6_lastBreak_89 rfl ?_
                    obtain ⟨rb3, rq3, trb3⟩ := hW.ref t_a0 0 rfl rfl rfl
                    have lnrb3 : 500 ≤ ln rb3 ∧ ln rb3 ≤ 500 := hW.len trb3 rfl
                    refine c_getr (k := 0) C ck_7 dX6_lastBreak_90 w1_136 (by decide) t_a0 rfl rfl (by decide) rfl rq3 ?_
                    refine c_st (st2 := [.ref rb3]) rfl ?_
                    refine c_iload (j := 2) C dX6_lastBreak_93 rfl ?_
                    refine c_iconst C dX6_lastBreak_95 ?_
                    refine c_isub C dX6_lastBreak_96 ?_
                    have ll3 : 500 ≤ ln rb3 ∧ ln rb3 ≤ 500 := hW.len trb3 rfl
                    refine c_iald C dX6_lastBreak_97 trb3 rfl (by omega) (by omega) (by omega) ?_
                    have ri4 : (-2147483648) ≤ iv rb3 ((k - 1).toNat) ∧ iv rb3 ((k - 1).toNat) ≤ 2147483647 := hW.int trb3 ((k - 1).toNat)
                    refine c_callSN0 (As := [.int (iI (iv rb3 (k - 1).toNat))]) (rest := []) C (fun L E => s11_isDigit (iI (iv rb3 (k - 1).toNat))) dX6_lastBreak_98 kSN_X6_115 rfl rfl (Nat.le_of_ble_eq_true rfl) ⟨(Nat.le_of_ble_eq_true rfl), (Nat.le_of_ble_eq_true rfl)⟩ (rom0 hph hph (by decide)) ?_
                    rcases inn_c (x := iv rb3 (k - 1).toNat) (lo := 48) (hi := 57) ⟨by omega, by omega⟩ ⟨by decide, by decide⟩ ⟨by decide, by decide⟩ with ⟨hs1a, hs1b, hs1e⟩ | ⟨hs1a, hs1e⟩
                    · refine c_st (st2 := [.int (iI 1)]) (by rw [show inn (iI (iv rb3 (k - 1).toNat)) 48 57 = iI 1 from hs1e]) ?_
                      refine c_if_ne (tgt := 126) C ⟨by decide, by decide⟩ dX6_lastBreak_101 (by decide) (fun _ => ?_) (fun z => absurd z (by omega))
                      refine c_iinc (z := k) (j := 2) (lv2 := [(5, .int (iI (k + 1))), (6, .int (iI 1)), (4, .int (iI la)), (0, .ref a0), (1, .int (iI x)), (2, .int (iI i)), (3, .int (iI n))]) C dX6_lastBreak_126 rfl (by decide) rfl ?_
                      refine c_goto (tgt := 28) C dX6_lastBreak_129 (by decide) ?_
                      refine c_lv (lv2 := [(4, .int (iI la)), (5, .int (iI (k + 1))), (0, .ref a0), (1, .int (iI x)), (2, .int (iI i)), (3, .int (iI n))]) [2, 0, 3, 4, 5, 6] rfl ?_
                      exact ih1  la (k + 1)  (by omega)   (by omega) (by omega) (by omega) (hLB.dig ⟨by omega, by omega⟩ (by omega) hW t_a0 rq3 (Or.inl (by unfold isD; omega)))
                    · refine c_st (st2 := [.int (iI 0)]) (by rw [show inn (iI (iv rb3 (k - 1).toNat)) 48 57 = iI 0 from hs1e]) ?_
                      refine c_if_ne (tgt := 126) C ⟨by decide, by decide⟩ dX6_lastBreak_101 (by decide) (fun z => absurd z (by omega)) (fun _ => ?_)
                      refine c_aload_n (j := 3) (x := a0) C dX6_lastBreak_104 rfl ?_
                      refine c_getr (k := 0) C ck_7 dX6_lastBreak_105 w1_136 (by decide) t_a0 rfl rfl (by decide) rfl rq3 ?_
                      refine c_st (st2 := [.ref rb3]) rfl ?_
                      refine c_iload (j := 2) C dX6_lastBreak_108 rfl ?_
                      refine c_iald C dX6_lastBreak_110 trb3 rfl (by omega) (by omega) (by omega) ?_
                      have ri5 : (-2147483648) ≤ iv rb3 k.toNat ∧ iv rb3 k.toNat ≤ 2147483647 := hW.int trb3 k.toNat
                      refine c_callSN0 (As := [.int (iI (iv rb3 k.toNat))]) (rest := []) C (fun L E => s11_isDigit (iI (iv rb3 k.toNat))) dX6_lastBreak_111 kSN_X6_115 rfl rfl (Nat.le_of_ble_eq_true rfl) ⟨(Nat.le_of_ble_eq_true rfl), (Nat.le_of_ble_eq_true rfl)⟩ (rom0 hph hph (by decide)) ?_
                      rcases inn_c (x := iv rb3 k.toNat) (lo := 48) (hi := 57) (r32_c (lo := (-2147483648)) (hi := 2147483647) ri5.1 ri5.2 (by decide) (by decide)) ⟨by decide, by decide⟩ ⟨by decide, by decide⟩ with ⟨hs2a, hs2b, hs2e⟩ | ⟨hs2a, hs2e⟩
                      · refine c_st (st2 := [.int (iI 1)]) (by rw [show inn (iI (iv rb3 k.toNat)) 48 57 = iI 1 from hs2e]) ?_
                        refine c_if_ne (tgt := 126) C ⟨by decide, by decide⟩ dX6_lastBreak_114 (by decide) (fun _ => ?_) (fun z => absurd z (by omega))
                        refine c_iinc (z := k) (j := 2) (lv2 := [(5, .int (iI (k + 1))), (6, .int (iI 1)), (4, .int (iI la)), (0, .ref a0), (1, .int (iI x)), (2, .int (iI i)), (3, .int (iI n))]) C dX6_lastBreak_126 rfl (by decide) rfl ?_
                        refine c_goto (tgt := 28) C dX6_lastBreak_129 (by decide) ?_
                        refine c_lv (lv2 := [(4, .int (iI la)), (5, .int (iI (k + 1))), (0, .ref a0), (1, .int (iI x)), (2, .int (iI i)), (3, .int (iI n))]) [2, 0, 3, 4, 5, 6] rfl ?_
                        exact ih1  la (k + 1)  (by omega)   (by omega) (by omega) (by omega) (hLB.dig ⟨by omega, by omega⟩ (by omega) hW t_a0 rq3 (Or.inr (by unfold isD; omega)))
                      · refine c_st (st2 := [.int (iI 0)]) (by rw [show inn (iI (iv rb3 k.toNat)) 48 57 = iI 0 from hs2e]) ?_
                        refine c_if_ne (tgt := 126) C ⟨by decide, by decide⟩ dX6_lastBreak_114 (by decide) (fun z => absurd z (by omega)) (fun _ => ?_)
                        refine c_aload_n (j := 3) (x := a0) C dX6_lastBreak_117 rfl ?_
                        refine c_getr (k := 3) C ck_7 dX6_lastBreak_118 w1_139 (by decide) t_a0 rfl rfl (by decide) rfl rq2 ?_
                        refine c_st (st2 := [.ref rb2]) rfl ?_
                        refine c_iload (j := 2) C dX6_lastBreak_121 rfl ?_
                        refine c_iald C dX6_lastBreak_123 trb2 rfl (by omega) (by omega) (by omega) ?_
                        refine c_istore (lv2 := [(4, .int (iI (iv rb2 k.toNat))), (6, .int (iI 1)), (5, .int (iI k)), (0, .ref a0), (1, .int (iI x)), (2, .int (iI i)), (3, .int (iI n))]) C dX6_lastBreak_124 (by decide) rfl ?_
                        refine c_iinc (z := k) (j := 2) (lv2 := [(5, .int (iI (k + 1))), (4, .int (iI (iv rb2 k.toNat))), (6, .int (iI 1)), (0, .ref a0), (1, .int (iI x)), (2, .int (iI i)), (3, .int (iI n))]) C dX6_lastBreak_126 rfl (by decide) rfl ?_
                        refine c_goto (tgt := 28) C dX6_lastBreak_129 (by decide) ?_
                        refine c_lv (lv2 := [(4, .int (iI (iv rb2 k.toNat))), (5, .int (iI (k + 1))), (0, .ref a0), (1, .int (iI x)), (2, .int (iI i)), (3, .int (iI n))]) [1, 0, 3, 4, 5, 6] rfl ?_
                        exact ih1  (iv rb2 k.toNat) (k + 1)  (by omega)   (by omega) (by omega) (by omega) (hLB.take ⟨by omega, by omega⟩ ⟨by omega, by omega⟩ (LBO.mk (o := 1) hW t_a0 rq1 rq2 ⟨by omega, by omega⟩ (by omega)) rfl hW t_a0 rq2 (fun _ => ⟨_, rq3, (by unfold isD; omega), (by unfold isD; omega)⟩) ⟨by omega, by omega⟩)
      refine c_lv (lv2 := [(4, .int (iI i)), (5, .int (iI 1)), (0, .ref a0), (1, .int (iI x)), (2, .int (iI i)), (3, .int (iI n))]) [1, 0, 2, 3, 4, 5] rfl ?_
      exact Lp1 503 i 1  (by omega)   (by omega) (by omega) (by omega) LBI.init
    · refine c_aload_n (j := 1) (x := a0) C dX6_lastBreak_13 rfl ?_
      refine c_get (k := 4) C ck_7 dX6_lastBreak_14 w1_140 (by decide) t_a0 rfl rfl (by decide) rfl ?_
      refine c_bipush (z := 6) C dX6_lastBreak_17 (by decide) ?_
      refine c_icmp_ge (tgt := 25) C (r32_c (lo := 0) (hi := 500) ri1.1 ri1.2 (by decide) (by decide)) ⟨by decide, by decide⟩ dX6_lastBreak_19 (by decide) (fun c8 => ?_) (fun c8 => ?_)
      · refine c_iconst C dX6_lastBreak_25 ?_
        refine c_istore (lv2 := [(5, .int (iI 1)), (4, .int (iI i)), (0, .ref a0), (1, .int (iI x)), (2, .int (iI i)), (3, .int (iI n))]) C dX6_lastBreak_26 (by decide) rfl ?_
        have Lp2 : ∀ (nn : Nat) (la k : Int) , 502 - k < (nn : Int) → (i ≤ la ∧ la ≤ 2147483647) → (1 ≤ k ∧ k ≤ 501 ∧ (k = 1 ∨ k ≤ iv a0 4)) → (x ≤ 3 ∧ (x = 3 → 6 ≤ iv a0 4)) → (LBI iv rv a0 x i n k la) → cw p l e 1 ((PHM) + 0 - ((Phi (g0 G) sk) ln rv)) s m args below meth c G A 7 (MQ below (Qu G A (Qp G (Phi (g0 G) sk) ((Phi (g0 G) sk) ln rv) 0 (fun v L2 cl2 ln2 iv2 rv2 => ∃ f : Int, v = some (.int (iI f)) ∧ L = L2 ∧ cl = cl2 ∧ ln = ln2 ∧ iv = iv2 ∧ rv = rv2 ∧ (-2147483648 ≤ f ∧ f ≤ 2147483647) ∧ (i ≤ f ∧ LBX iv rv a0 x i n f)))) args s (((PHM) + 0 - ((Phi (g0 G) sk) ln rv)) / 16) ((PHM) + 0 - ((Phi (g0 G) sk) ln rv)) A) (Phi (g0 G) sk) ((Phi (g0 G) sk) ln rv) L cl ln iv rv 0 28 [(4, .int (iI la)), (5, .int (iI k)), (0, .ref a0), (1, .int (iI x)), (2, .int (iI i)), (3, .int (iI n))] [] := by
          intro nn
          induction nn with
          | zero =>
            intro  la k  hm   hla hk hx3 hLB
            exact absurd hm (by omega)
          | succ nn ih2 =>
            intro  la k  hm   hla hk hx3 hLB
            refine c_iload (j := 1) C dX6_lastBreak_28 rfl ?_
            refine c_aload_n (j := 2) (x := a0) C dX6_lastBreak_30 rfl ?_
            refine c_get (k := 4) C ck_7 dX6_lastBreak_31 w1_140 (by decide) t_a0 rfl rfl (by decide) rfl ?_
            refine c_icmp_ge (tgt := 132) C (r32_c (lo := 1) (hi := 501) hk.1 hk.2.1 (by decide) (by decide)) (r32_c (lo := 0) (hi := 500) ri1.1 ri1.2 (by decide) (by decide)) dX6_lastBreak_34 (by decide) (fun c9 => ?_) (fun c9 => ?_)
            · refine c_iload (j := 0) C dX6_lastBreak_132 rfl ?_
              exact c_iret C dX6_lastBreak_134 rfl (by decide) (rom0 hph hph (by decide)) ⟨la, rfl, rfl, rfl, rfl, rfl, rfl, ⟨by omega, by omega⟩, ⟨by omega, LBI.fin hLB (by omega)⟩⟩
            · refine c_aload_n (j := 2) (x := a0) C dX6_lastBreak_37 rfl ?_
              obtain ⟨rb4, rq4, trb4⟩ := hW.ref t_a0 2 rfl rfl rfl
              have lnrb4 : 500 ≤ ln rb4 ∧ ln rb4 ≤ 500 := hW.len trb4 rfl
              refine c_getr (k := 2) C ck_7 dX6_lastBreak_38 w1_138 (by decide) t_a0 rfl rfl (by decide) rfl rq4 ?_
              refine c_st (st2 := [.ref rb4]) rfl ?_
              refine c_iload (j := 1) C dX6_lastBreak_41 rfl ?_
              have ll4 : 500 ≤ ln rb4 ∧ ln rb4 ≤ 500 := hW.len trb4 rfl
              refine c_zald C dX6_lastBreak_43 trb4 rfl (by omega) (by omega) (by omega) ?_
              have ri6 : 0 ≤ iv rb4 k.toNat ∧ iv rb4 k.toNat ≤ 1 := hW.int trb4 k.toNat
              refine c_if_eq (tgt := 76) C (r32_c (lo := 0) (hi := 1) ri6.1 ri6.2 (by decide) (by decide)) dX6_lastBreak_44 (by decide) (fun c10 => ?_) (fun c10 => ?_)
              · refine c_iconst C dX6_lastBreak_76 ?_
                refine c_istore (lv2 := [(6, .int (iI 0)), (4, .int (iI la)), (5, .int (iI k)), (0, .ref a0), (1, .int (iI x)), (2, .int (iI i)), (3, .int (iI n))]) C dX6_lastBreak_77 (by decide) rfl ?_
                refine c_iload (j := 0) C dX6_lastBreak_79 rfl ?_
                refine c_if_eq (tgt := 126) C ⟨by decide, by decide⟩ dX6_lastBreak_81 (by decide) (fun _ => ?_) (fun z => absurd z (by omega))
                refine c_iinc (z := k) (j := 2) (lv2 := [(5, .int (iI (k + 1))), (6, .int (iI 0)), (4, .int (iI la)), (0, .ref a0), (1, .int (iI x)), (2, .int (iI i)), (3, .int (iI n))]) C dX6_lastBreak_126 rfl (by decide) rfl ?_
                refine c_goto (tgt := 28) C dX6_lastBreak_129 (by decide) ?_
                refine c_lv (lv2 := [(4, .int (iI la)), (5, .int (iI (k + 1))), (0, .ref a0), (1, .int (iI x)), (2, .int (iI i)), (3, .int (iI n))]) [2, 0, 3, 4, 5, 6] rfl ?_
                exact ih2  la (k + 1)  (by omega)   (by omega) (by omega) (by omega) (hLB.nof ⟨by omega, by omega⟩ (by omega) (LBO.b0 (o := 0) hW t_a0 rq4 ⟨by omega, by omega⟩ (by decide) (by omega)) (by decide) ⟨by omega, by omega⟩)
              · refine c_aload_n (j := 2) (x := a0) C dX6_lastBreak_47 rfl ?_
                obtain ⟨rb5, rq5, trb5⟩ := hW.ref t_a0 3 rfl rfl rfl
                have lnrb5 : 500 ≤ ln rb5 ∧ ln rb5 ≤ 500 := hW.len trb5 rfl
                refine c_getr (k := 3) C ck_7 dX6_lastBreak_48 w1_139 (by decide) t_a0 rfl rfl (by decide) rfl rq5 ?_
                refine c_st (st2 := [.ref rb5]) rfl ?_
                refine c_iload (j := 1) C dX6_lastBreak_51 rfl ?_
                have ll5 : 500 ≤ ln rb5 ∧ ln rb5 ≤ 500 := hW.len trb5 rfl
                refine c_iald C dX6_lastBreak_53 trb5 rfl (by omega) (by omega) (by omega) ?_
                have ri7 : (-2147483648) ≤ iv rb5 k.toNat ∧ iv rb5 k.toNat ≤ 2147483647 := hW.int trb5 k.toNat
                refine c_iload (j := 0) C dX6_lastBreak_54 rfl ?_
                refine c_icmp_le (tgt := 76) C (r32_c (lo := (-2147483648)) (hi := 2147483647) ri7.1 ri7.2 (by decide) (by decide)) ⟨by omega, by omega⟩ dX6_lastBreak_56 (by decide) (fun c11 => ?_) (fun c11 => ?_)
                · refine c_iconst C dX6_lastBreak_76 ?_
                  refine c_istore (lv2 := [(6, .int (iI 0)), (4, .int (iI la)), (5, .int (iI k)), (0, .ref a0), (1, .int (iI x)), (2, .int (iI i)), (3, .int (iI n))]) C dX6_lastBreak_77 (by decide) rfl ?_
                  refine c_iload (j := 0) C dX6_lastBreak_79 rfl ?_
                  refine c_if_eq (tgt := 126) C ⟨by decide, by decide⟩ dX6_lastBreak_81 (by decide) (fun _ => ?_) (fun z => absurd z (by omega))
                  refine c_iinc (z := k) (j := 2) (lv2 := [(5, .int (iI (k + 1))), (6, .int (iI 0)), (4, .int (iI la)), (0, .ref a0), (1, .int (iI x)), (2, .int (iI i)), (3, .int (iI n))]) C dX6_lastBreak_126 rfl (by decide) rfl ?_
                  refine c_goto (tgt := 28) C dX6_lastBreak_129 (by decide) ?_
                  refine c_lv (lv2 := [(4, .int (iI la)), (5, .int (iI (k + 1))), (0, .ref a0), (1, .int (iI x)), (2, .int (iI i)), (3, .int (iI n))]) [2, 0, 3, 4, 5, 6] rfl ?_
                  exact ih2  la (k + 1)  (by omega)   (by omega) (by omega) (by omega) (hLB.nof ⟨by omega, by omega⟩ (by omega) (LBO.mk (o := 0) hW t_a0 rq4 rq5 ⟨by omega, by omega⟩ (by omega)) (by decide) ⟨by omega, by omega⟩)
                · refine c_aload_n (j := 2) (x := a0) C dX6_lastBreak_59 rfl ?_
                  refine c_getr (k := 3) C ck_7 dX6_lastBreak_60 w1_139 (by decide) t_a0 rfl rfl (by decide) rfl rq5 ?_
                  refine c_st (st2 := [.ref rb5]) rfl ?_
                  refine c_iload (j := 1) C dX6_lastBreak_63 rfl ?_
                  refine c_iald C dX6_lastBreak_65 trb5 rfl (by omega) (by omega) (by omega) ?_
                  refine c_iload_n (j := 4) C dX6_lastBreak_66 rfl ?_
                  refine c_isub C dX6_lastBreak_67 ?_
                  refine c_iload_n (j := 5) C dX6_lastBreak_68 rfl ?_
                  refine c_icmp_gt (tgt := 76) C ⟨by omega, by omega⟩ ⟨by omega, by omega⟩ dX6_lastBreak_69 (by decide) (fun c12 => ?_) (fun c12 => ?_)
                  · refine c_iconst C dX6_lastBreak_76 ?_
                    refine c_istore (lv2 := [(6, .int (iI 0)), (4, .int (iI la)), (5, .int (iI k)), (0, .ref a0), (1, .int (iI x)), (2, .int (iI i)), (3, .int (iI n))]) C dX6_lastBreak_77 (by decide) rfl ?_
                    refine c_iload (j := 0) C dX6_lastBreak_79 rfl ?_
                    refine c_if_eq (tgt := 126) C ⟨by decide, by decide⟩ dX6_lastBreak_81 (by decide) (fun _ => ?_) (fun z => absurd z (by omega))
                    refine c_iinc (z := k) (j := 2) (lv2 := [(5, .int (iI (k + 1))), (6, .int (iI 0)), (4, .int (iI la)), (0, .ref a0), (1, .int (iI x)), (2, .int (iI i)), (3, .int (iI n))]) C dX6_lastBreak_126 rfl (by decide) rfl ?_
                    refine c_goto (tgt := 28) C dX6_lastBreak_129 (by decide) ?_
                    refine c_lv (lv2 := [(4, .int (iI la)), (5, .int (iI (k + 1))), (0, .ref a0), (1, .int (iI x)), (2, .int (iI i)), (3, .int (iI n))]) [2, 0, 3, 4, 5, 6] rfl ?_
                    exact ih2  la (k + 1)  (by omega)   (by omega) (by omega) (by omega) (hLB.nof ⟨by omega, by omega⟩ (by omega) (LBO.mk (o := 0) hW t_a0 rq4 rq5 ⟨by omega, by omega⟩ (by omega)) (by decide) ⟨by omega, by omega⟩)
                  · refine c_iconst C dX6_lastBreak_72 ?_
                    refine c_goto (tgt := 77) C dX6_lastBreak_73 (by decide) ?_
                    refine c_istore (lv2 := [(6, .int (iI 1)), (4, .int (iI la)), (5, .int (iI k)), (0, .ref a0), (1, .int (iI x)), (2, .int (iI i)), (3, .int (iI n))]) C dX6_lastBreak_77 (by decide) rfl ?_
                    refine c_iload (j := 0) C dX6_lastBreak_79 rfl ?_
                    refine c_if_eq (tgt := 126) C ⟨by decide, by decide⟩ dX6_lastBreak_81 (by decide) (fun z => absurd z (by omega)) (fun _ => ?_)
                    refine c_iload_n (j := 4) C dX6_lastBreak_84 rfl ?_
                    refine c_iconst C dX6_lastBreak_85 ?_
                    refine c_icmp_ne (tgt := 117) C ⟨by omega, by omega⟩ ⟨by decide, by decide⟩ dX6_lastBreak_86 (by decide) (fun c13 => ?_) (fun c13 => ?_)
                    · refine c_aload_n (j := 3) (x := a0) C dX6_lastBreak_117 rfl ?_
                      refine c_getr (k := 3) C ck_7 dX6_lastBreak_118 w1_139 (by decide) t_a0 rfl rfl (by decide) rfl rq5 ?_
                      refine c_st (st2 := [.ref rb5]) rfl ?_
                      refine c_iload (j := 2) C dX6_lastBreak_121 rfl ?_
                      refine c_iald C dX6_lastBreak_123 trb5 rfl (by omega) (by omega) (by omega) ?_
                      refine c_istore (lv2 := [(4, .int (iI (iv rb5 k.toNat))), (6, .int (iI 1)), (5, .int (iI k)), (0, .ref a0), (1, .int (iI x)), (2, .int (iI i)), (3, .int (iI n))]) C dX6_lastBreak_124 (by decide) rfl ?_
                      refine c_iinc (z := k) (j := 2) (lv2 := [(5, .int (iI (k + 1))), (4, .int (iI (iv rb5 k.toNat))), (6, .int (iI 1)), (0, .ref a0), (1, .int (iI x)), (2, .int (iI i)), (3, .int (iI n))]) C dX6_lastBreak_126 rfl (by decide) rfl ?_
                      refine c_goto (tgt := 28) C dX6_lastBreak_129 (by decide) ?_
                      refine c_lv (lv2 := [(4, .int (iI (iv rb5 k.toNat))), (5, .int (iI (k + 1))), (0, .ref a0), (1, .int (iI x)), (2, .int (iI i)), (3, .int (iI n))]) [1, 0, 3, 4, 5, 6] rfl ?_
                      exact ih2  (iv rb5 k.toNat) (k + 1)  (by omega)   (by omega) (by omega) (by omega) (hLB.take ⟨by omega, by omega⟩ ⟨by omega, by omega⟩ (LBO.mk (o := 1) hW t_a0 rq4 rq5 ⟨by omega, by omega⟩ (by omega)) rfl hW t_a0 rq5 (fun q => absurd q (by omega)) ⟨by omega, by omega⟩)
                    · refine c_aload_n (j := 3) (x := a0) C dX6_lastBreak_89 rfl ?_
                      obtain ⟨rb6, rq6, trb6⟩ := hW.ref t_a0 0 rfl rfl rfl
                      have lnrb6 : 500 ≤ ln rb6 ∧ ln rb6 ≤ 500 := hW.len trb6 rfl
                      refine c_getr (k := 0) C ck_7 dX6_lastBreak_90 w1_136 (by decide) t_a0 rfl rfl (by decide) rfl rq6 ?_
                      refine c_st (st2 := [.ref rb6]) rfl ?_
                      refine c_iload (j := 2) C dX6_lastBreak_93 rfl ?_
                      refine c_iconst C dX6_lastBreak_95 ?_
                      refine c_isub C dX6_lastBreak_96 ?_
                      have ll6 : 500 ≤ ln rb6 ∧ ln rb6 ≤ 500 := hW.len trb6 rfl
                      refine c_iald C dX6_lastBreak_97 trb6 rfl (by omega) (by omega) (by omega) ?_
                      have ri8 : (-2147483648) ≤ iv rb6 ((k - 1).toNat) ∧ iv rb6 ((k - 1).toNat) ≤ 2147483647 := hW.int trb6 ((k - 1).toNat)
                      refine c_callSN0 (As := [.int (iI (iv rb6 (k - 1).toNat))]) (rest := []) C (fun L E => s11_isDigit (iI (iv rb6 (k - 1).toNat))) dX6_lastBreak_98 kSN_X6_115 rfl rfl (Nat.le_of_ble_eq_true rfl) ⟨(Nat.le_of_ble_eq_true rfl), (Nat.le_of_ble_eq_true rfl)⟩ (rom0 hph hph (by decide)) ?_
                      rcases inn_c (x := iv rb6 (k - 1).toNat) (lo := 48) (hi := 57) ⟨by omega, by omega⟩ ⟨by decide, by decide⟩ ⟨by decide, by decide⟩ with ⟨hs3a, hs3b, hs3e⟩ | ⟨hs3a, hs3e⟩
                      · refine c_st (st2 := [.int (iI 1)]) (by rw [show inn (iI (iv rb6 (k - 1).toNat)) 48 57 = iI 1 from hs3e]) ?_
                        refine c_if_ne (tgt := 126) C ⟨by decide, by decide⟩ dX6_lastBreak_101 (by decide) (fun _ => ?_) (fun z => absurd z (by omega))
                        refine c_iinc (z := k) (j := 2) (lv2 := [(5, .int (iI (k + 1))), (6, .int (iI 1)), (4, .int (iI la)), (0, .ref a0), (1, .int (iI x)), (2, .int (iI i)), (3, .int (iI n))]) C dX6_lastBreak_126 rfl (by decide) rfl ?_
                        refine c_goto (tgt := 28) C dX6_lastBreak_129 (by decide) ?_
                        refine c_lv (lv2 := [(4, .int (iI la)), (5, .int (iI (k + 1))), (0, .ref a0), (1, .int (iI x)), (2, .int (iI i)), (3, .int (iI n))]) [2, 0, 3, 4, 5, 6] rfl ?_
                        exact ih2  la (k + 1)  (by omega)   (by omega) (by omega) (by omega) (hLB.dig ⟨by omega, by omega⟩ (by omega) hW t_a0 rq6 (Or.inl (by unfold isD; omega)))
                      · refine c_st (st2 := [.int (iI 0)]) (by rw [show inn (iI (iv rb6 (k - 1).toNat)) 48 57 = iI 0 from hs3e]) ?_
                        refine c_if_ne (tgt := 126) C ⟨by decide, by decide⟩ dX6_lastBreak_101 (by decide) (fun z => absurd z (by omega)) (fun _ => ?_)
                        refine c_aload_n (j := 3) (x := a0) C dX6_lastBreak_104 rfl ?_
                        refine c_getr (k := 0) C ck_7 dX6_lastBreak_105 w1_136 (by decide) t_a0 rfl rfl (by decide) rfl rq6 ?_
                        refine c_st (st2 := [.ref rb6]) rfl ?_
                        refine c_iload (j := 2) C dX6_lastBreak_108 rfl ?_
                        refine c_iald C dX6_lastBreak_110 trb6 rfl (by omega) (by omega) (by omega) ?_
                        have ri9 : (-2147483648) ≤ iv rb6 k.toNat ∧ iv rb6 k.toNat ≤ 2147483647 := hW.int trb6 k.toNat
                        refine c_callSN0 (As := [.int (iI (iv rb6 k.toNat))]) (rest := []) C (fun L E => s11_isDigit (iI (iv rb6 k.toNat))) dX6_lastBreak_111 kSN_X6_115 rfl rfl (Nat.le_of_ble_eq_true rfl) ⟨(Nat.le_of_ble_eq_true rfl), (Nat.le_of_ble_eq_true rfl)⟩ (rom0 hph hph (by decide)) ?_
                        rcases inn_c (x := iv rb6 k.toNat) (lo := 48) (hi := 57) (r32_c (lo := (-2147483648)) (hi := 2147483647) ri9.1 ri9.2 (by decide) (by decide)) ⟨by decide, by decide⟩ ⟨by decide, by decide⟩ with ⟨hs4a, hs4b, hs4e⟩ | ⟨hs4a, hs4e⟩
                        · refine c_st (st2 := [.int (iI 1)]) (by rw [show inn (iI (iv rb6 k.toNat)) 48 57 = iI 1 from hs4e]) ?_
                          refine c_if_ne (tgt := 126) C ⟨by decide, by decide⟩ dX6_lastBreak_114 (by decide) (fun _ => ?_) (fun z => absurd z (by omega))
                          refine c_iinc (z := k) (j := 2) (lv2 := [(5, .int (iI (k + 1))), (6, .int (iI 1)), (4, .int (iI la)), (0, .ref a0), (1, .int (iI x)), (2, .int (iI i)), (3, .int (iI n))]) C dX6_lastBreak_126 rfl (by decide) rfl ?_
                          refine c_goto (tgt := 28) C dX6_lastBreak_129 (by decide) ?_
                          refine c_lv (lv2 := [(4, .int (iI la)), (5, .int (iI (k + 1))), (0, .ref a0), (1, .int (iI x)), (2, .int (iI i)), (3, .int (iI n))]) [2, 0, 3, 4, 5, 6] rfl ?_
                          exact ih2  la (k + 1)  (by omega)   (by omega) (by omega) (by omega) (hLB.dig ⟨by omega, by omega⟩ (by omega) hW t_a0 rq6 (Or.inr (by unfold isD; omega)))
                        · refine c_st (st2 := [.int (iI 0)]) (by rw [show inn (iI (iv rb6 k.toNat)) 48 57 = iI 0 from hs4e]) ?_
                          refine c_if_ne (tgt := 126) C ⟨by decide, by decide⟩ dX6_lastBreak_114 (by decide) (fun z => absurd z (by omega)) (fun _ => ?_)
                          refine c_aload_n (j := 3) (x := a0) C dX6_lastBreak_117 rfl ?_
                          refine c_getr (k := 3) C ck_7 dX6_lastBreak_118 w1_139 (by decide) t_a0 rfl rfl (by decide) rfl rq5 ?_
                          refine c_st (st2 := [.ref rb5]) rfl ?_
                          refine c_iload (j := 2) C dX6_lastBreak_121 rfl ?_
                          refine c_iald C dX6_lastBreak_123 trb5 rfl (by omega) (by omega) (by omega) ?_
                          refine c_istore (lv2 := [(4, .int (iI (iv rb5 k.toNat))), (6, .int (iI 1)), (5, .int (iI k)), (0, .ref a0), (1, .int (iI x)), (2, .int (iI i)), (3, .int (iI n))]) C dX6_lastBreak_124 (by decide) rfl ?_
                          refine c_iinc (z := k) (j := 2) (lv2 := [(5, .int (iI (k + 1))), (4, .int (iI (iv rb5 k.toNat))), (6, .int (iI 1)), (0, .ref a0), (1, .int (iI x)), (2, .int (iI i)), (3, .int (iI n))]) C dX6_lastBreak_126 rfl (by decide) rfl ?_
                          refine c_goto (tgt := 28) C dX6_lastBreak_129 (by decide) ?_
                          refine c_lv (lv2 := [(4, .int (iI (iv rb5 k.toNat))), (5, .int (iI (k + 1))), (0, .ref a0), (1, .int (iI x)), (2, .int (iI i)), (3, .int (iI n))]) [1, 0, 3, 4, 5, 6] rfl ?_
                          exact ih2  (iv rb5 k.toNat) (k + 1)  (by omega)   (by omega) (by omega) (by omega) (hLB.take ⟨by omega, by omega⟩ ⟨by omega, by omega⟩ (LBO.mk (o := 1) hW t_a0 rq4 rq5 ⟨by omega, by omega⟩ (by omega)) rfl hW t_a0 rq5 (fun _ => ⟨_, rq6, (by unfold isD; omega), (by unfold isD; omega)⟩) ⟨by omega, by omega⟩)
        refine c_lv (lv2 := [(4, .int (iI i)), (5, .int (iI 1)), (0, .ref a0), (1, .int (iI x)), (2, .int (iI i)), (3, .int (iI n))]) [1, 0, 2, 3, 4, 5] rfl ?_
        exact Lp2 503 i 1  (by omega)   (by omega) (by omega) (by omega) LBI.init
      · refine c_iload (j := 0) C dX6_lastBreak_22 rfl ?_
        exact c_iret C dX6_lastBreak_24 rfl (by decide) (rom0 hph hph (by decide)) ⟨i, rfl, rfl, rfl, rfl, rfl, rfl, ⟨by omega, by omega⟩, ⟨by omega, LBX.no (by omega)⟩⟩
end
section
def ROW (iv : Nat → Nat → Int) (rv : Nat → Nat → Option Nat) (s l : Nat) (xs : List Int) : Prop := ∃ rb r, rv s 0 = some rb ∧ rv rb l = some r ∧ iv r 2 = 0 ∧ LNE iv rv r xs
def DRP (iv : Nat → Nat → Int) (rv : Nat → Nat → Option Nat) (s : Nat) (D : List (List Int)) : Prop := iv s 1 = ((D.length : Nat) : Int) ∧ ∀ (l : Nat) (xs : List Int), D[l]? = some xs → ROW iv rv s l xs
def SHK (iv : Nat → Nat → Int) (rv : Nat → Nat → Option Nat) (iv2 : Nat → Nat → Int) (rv2 : Nat → Nat → Option Nat) (s s2 : Nat) : Prop := LNK rv2 s s2 ∧ SAM iv rv iv2 rv2 s2 ∧ rv2 s = rv s
def SATX (iv : Nat → Nat → Int) (rv : Nat → Nat → Option Nat) (s : Nat) (i : Int) (f : Option Nat) : Prop := ((0 ≤ i ∧ i < iv s 1) ∧ ∃ rb, rv s 0 = some rb ∧ f = rv rb i.toNat) ∨ (¬ (0 ≤ i ∧ i < iv s 1) ∧ f = none)
def BEX (L : List Nat) (cl : Nat → Nat) (iv : Nat → Nat → Int) (rv : Nat → Nat → Option Nat) (iv2 : Nat → Nat → Int) (rv2 : Nat → Nat → Option Nat) (s : Nat) (f : Int) : Prop := ∀ s2, ty L cl s2 18 → LNK rv s s2 → SHK iv rv iv2 rv2 s s2 ∧ ∀ D, DRP iv rv s D → (f = 1 → D.length < 200 ∧ DRP iv2 rv2 s (D ++ [[]])) ∧ (f ≠ 1 → D.length = 200)
def BTX (L : List Nat) (cl : Nat → Nat) (iv : Nat → Nat → Int) (rv : Nat → Nat → Option Nat) (iv2 : Nat → Nat → Int) (rv2 : Nat → Nat → Option Nat) (s : Nat) (f : Int) : Prop := ∀ s2, ty L cl s2 18 → LNK rv s s2 → SHK iv rv iv2 rv2 s s2 ∧ ∀ D, DRP iv rv s D → (f = 1 → D.length < 200 ∧ DRP iv2 rv2 s (D ++ [[]]) ∧ iv2 s 2 = ((D.length : Nat) : Int)) ∧ (f ≠ 1 → D.length = 200)
def TKC (iv : Nat → Nat → Int) (rv : Nat → Nat → Option Nat) (s : Nat) (kd : Int) (w : List (Int × Nat × Int)) (cs : List Int) (st : Nat → Int) : Prop := PWH iv rv s w ∧ PDH iv rv s cs ∧ cs.length ≤ 200 ∧ (kd ≤ 3 → SBG iv rv s w.length st ∧ MNO st) ∧ ∀ j, st j < ((cs.length : Nat) : Int)
def TKV (kd wd hy : Int) (w : List (Int × Nat × Int)) (cs : List Int) (st : Nat → Int) (n d : Nat) (D : List (List Int)) (xs : List Int) : Option (List (List Int)) := flw (fun d r => lbk w kd st d r w.length) wd hy cs n d D xs
def TKJ (L : List Nat) (cl : Nat → Nat) (iv : Nat → Nat → Int) (rv : Nat → Nat → Option Nat) (iv2 : Nat → Nat → Int) (rv2 : Nat → Nat → Option Nat) (s u : Nat) (kd wd hy d tn : Int) : Prop := ∀ s2, ty L cl s2 18 → LNK rv s s2 → SHK iv rv iv2 rv2 s s2 ∧ ∀ D1 x1 cs w st, DRP iv rv s (D1 ++ [x1]) → TKC iv rv u kd w cs st → d ≤ ((cs.length : Nat) : Int) ∧ ∃ D3 x3, TKV kd wd hy w cs st 201 0 D1 x1 = TKV kd wd hy w cs st (201 - tn).toNat d.toNat D3 x3 ∧ DRP iv2 rv2 s (D3 ++ [x3])
def TKM (L : List Nat) (cl : Nat → Nat) (iv : Nat → Nat → Int) (rv : Nat → Nat → Option Nat) (iv2 : Nat → Nat → Int) (rv2 : Nat → Nat → Option Nat) (s u : Nat) (kd wd hy d tn : Int) : Prop := ∀ s2, ty L cl s2 18 → LNK rv s s2 → SHK iv rv iv2 rv2 s s2 ∧ ∀ D1 x1 cs w st, DRP iv rv s (D1 ++ [x1]) → TKC iv rv u kd w cs st → d ≤ ((cs.length : Nat) : Int) ∧ ∃ D4, TKV kd wd hy w cs st 201 0 D1 x1 = (if D4.length < 200 then TKV kd wd hy w cs st (200 - tn).toNat d.toNat D4 [] else none) ∧ DRP iv2 rv2 s D4
def TKE (L : List Nat) (cl : Nat → Nat) (iv : Nat → Nat → Int) (rv : Nat → Nat → Option Nat) (iv2 : Nat → Nat → Int) (rv2 : Nat → Nat → Option Nat) (s u : Nat) (kd wd hy f : Int) : Prop := ∀ s2, ty L cl s2 18 → LNK rv s s2 → SHK iv rv iv2 rv2 s s2 ∧ ∀ D1 x1 cs w st, DRP iv rv s (D1 ++ [x1]) → TKC iv rv u kd w cs st → (f = 1 → ∃ D2, TKV kd wd hy w cs st 201 0 D1 x1 = some D2 ∧ DRP iv2 rv2 s D2) ∧ (f ≠ 1 → TKV kd wd hy w cs st 201 0 D1 x1 = none)
def ENI (L : List Nat) (cl : Nat → Nat) (iv : Nat → Nat → Int) (rv : Nat → Nat → Option Nat) (iv1 : Nat → Nat → Int) (s : Nat) (wd k : Int) : Prop := ∀ s2, ty L cl s2 18 → LNK rv s s2 → SHK iv rv iv1 rv s s2 ∧ ∀ D, DRP iv rv s D → iv1 s 1 = ((D.length : Nat) : Int) ∧ ∀ (l : Nat) (xs : List Int), D[l]? = some xs → ROW iv1 rv s l (if iv s 2 ≤ ((l : Nat) : Int) ∧ ((l : Nat) : Int) < k then cen wd xs else xs)
def ENX (L : List Nat) (cl : Nat → Nat) (iv : Nat → Nat → Int) (rv : Nat → Nat → Option Nat) (iv2 : Nat → Nat → Int) (s : Nat) (g wd : Int) : Prop := ∀ s2, ty L cl s2 18 → LNK rv s s2 → SHK iv rv iv2 rv s s2 ∧ ∀ D, DRP iv rv s D → (g = 0 → DRP iv2 rv s D) ∧ (g ≠ 0 → 0 ≤ iv s 2 → DRP iv2 rv s (cnl wd (iv s 2).toNat D))
section TROW
variable {h : Nat} {sk : Nat → Nat} {L L1 L2 : List Nat} {cl ln cl1 ln1 cl2 ln2 : Nat → Nat} {iv iv1 iv2 iv3 : Nat → Nat → Int} {rv rv1 rv2 rv3 : Nat → Nat → Option Nat} {r s s2 u rb cb l q b : Nat} {x z i k j n d f tn kd wd hy m : Int} {xs ys cs x1 x2 : List Int} {w : List (Int × Nat × Int)} {st : Nat → Int} {ls : List Nat} {D D1 : List (List Int)} {fo : Option Nat}
theorem LNK.ne {s3 s4 rb2 l2 r2 : Nat} (hK : LNK rv s s2) (hW : WT h sk L cl ln iv rv) (h3 : s3 = s ∨ s3 = s2) (h4 : s4 = s ∨ s4 = s2) (tr : ty L cl r 19) (h0 : rv s3 0 = some rb) (hr : rv rb l = some r) (h02 : rv s4 0 = some rb2) (hr2 : rv rb2 l2 = some r2) (hn : ¬ (s3 = s4 ∧ l = l2)) : r2 ≠ r ∧ ∀ cb, rv r2 0 = some cb → rv r 0 ≠ some cb := by
  have k : ∀ cb, rv r2 0 = some cb → rv r 0 ≠ some cb := fun cb e1 e2 => hn (hK.2.2 s3 s4 h3 h4 rb rb2 l l2 r r2 cb h0 h02 hr hr2 e2 e1)
  refine ⟨fun e => ?_, k⟩
  obtain ⟨c, hc, _⟩ := hW.ref tr 0 rfl rfl rfl
  exact k c (by rw [e]; exact hc) hc
theorem SAM.lfr (hK : LNK rv s s2) (hW : WT h sk L cl ln iv rv) (ts : ty L cl s 18) (ts2 : ty L cl s2 18) (h0 : rv s 0 = some rb) (hr : rv rb l = some r) (hL : LFR L cl iv rv iv2 r) (hF : fT ls L cl iv rv iv2 rv) (h18 : ls.contains 18 = false) : SAM iv rv iv2 rv s2 := by
  have tr := ro19 hW (sh67 hW ts h0) hr
  refine ⟨funext fun j => hF.i ts2 h18 j, rfl, fun rb2 hb2 => ⟨rfl, fun l2 r2 hr2 => ?_⟩⟩
  have t2 := ro19 hW (sh67 hW ts2 hb2) hr2
  obtain ⟨n1, n2⟩ := hK.ne hW (Or.inl rfl) (Or.inr rfl) tr h0 hr hb2 hr2 (fun e => hK.1 e.1)
  exact ⟨hL.1 r2 t2 n1, rfl, fun cb hc => hL.2 cb (li64 hW t2 hc) (n2 cb hc)⟩
theorem SHK.refl (hK : LNK rv s s2) : SHK iv rv iv rv s s2 := ⟨hK, SAM.refl, rfl⟩
theorem SHK.trans (h1 : SHK iv rv iv1 rv1 s s2) (h2 : SHK iv1 rv1 iv2 rv2 s s2) : SHK iv rv iv2 rv2 s s2 := ⟨h2.1, h1.2.1.trans h2.2.1, h2.2.2.trans h1.2.2⟩
theorem SHK.lfr (h1 : SHK iv rv iv1 rv1 s s2) (hW : WT h sk L1 cl1 ln1 iv1 rv1) (ts : ty L1 cl1 s 18) (ts2 : ty L1 cl1 s2 18) (h0 : rv1 s 0 = some rb) (hr : rv1 rb l = some r) (hL : LFR L1 cl1 iv1 rv1 iv2 r) (hF : fT ls L1 cl1 iv1 rv1 iv2 rv1) (h18 : ls.contains 18 = false) : SHK iv rv iv2 rv1 s s2 := h1.trans ⟨h1.1, SAM.lfr h1.1 hW ts ts2 h0 hr hL hF h18, rfl⟩
theorem LNE.fr (hx : LNE iv rv r xs) (h1 : iv2 r = iv r) (h2 : rv2 r = rv r) (h3 : ∀ cb, rv r 0 = some cb → iv2 cb = iv cb) : LNE iv2 rv2 r xs := by
  refine ⟨by rw [h1]; exact hx.1, fun cb hc j x e => ?_⟩
  rw [h2] at hc
  rw [h3 cb hc]
  exact hx.2 cb hc j x e
theorem ROW.fr (hx : ROW iv rv s l xs) (h0 : rv2 s = rv s) (h1 : ∀ rb r, rv s 0 = some rb → rv rb l = some r → rv2 rb l = some r ∧ iv2 r = iv r ∧ rv2 r = rv r ∧ ∀ cb, rv r 0 = some cb → iv2 cb = iv cb) : ROW iv2 rv2 s l xs := by
  obtain ⟨rb, r, q0, q1, q2, q3⟩ := hx
  obtain ⟨p1, p2, p3, p4⟩ := h1 rb r q0 q1
  exact ⟨rb, r, by rw [h0]; exact q0, p1, by rw [p2]; exact q2, q3.fr p2 p3 p4⟩
theorem DRP.sam (hD : DRP iv rv s D) (hS : SAM iv rv iv2 rv2 s) : DRP iv2 rv2 s D := by
  obtain ⟨s1, s2, s3⟩ := hS
  refine ⟨by rw [s1]; exact hD.1, fun l xs e => (hD.2 l xs e).fr s2 (fun rb r h0 h1 => ?_)⟩
  obtain ⟨p1, p2⟩ := s3 rb h0
  obtain ⟨q1, q2, q3⟩ := p2 l r h1
  exact ⟨by rw [p1]; exact h1, q1, q2, q3⟩
theorem ROW.lfr {l0 : Nat} (hK : LNK rv s s2) (hW : WT h sk L cl ln iv rv) (ts : ty L cl s 18) (h0 : rv s 0 = some rb) (hr : rv rb l0 = some r) (hL : LFR L cl iv rv iv2 r) (hl : l ≠ l0) (hx : ROW iv rv s l xs) : ROW iv2 rv s l xs := by
  have tb := sh67 hW ts h0
  have tr := ro19 hW tb hr
  refine hx.fr rfl (fun rb2 r2 h02 hr2 => ?_)
  obtain ⟨n1, n2⟩ := hK.ne hW (Or.inl rfl) (Or.inl rfl) tr h0 hr h02 hr2 (fun e => hl e.2.symm)
  have t2 := ro19 hW (sh67 hW ts h02) hr2
  exact ⟨hr2, hL.1 r2 t2 n1, rfl, fun cb hc => hL.2 cb (li64 hW t2 hc) (n2 cb hc)⟩
theorem SATX.row (hx : SATX iv rv s i (some r)) : ∃ rb, rv s 0 = some rb ∧ rv rb i.toNat = some r := by
  rcases hx with ⟨_, rb, h0, e⟩ | ⟨_, e⟩
  · exact ⟨rb, h0, e.symm⟩
  · cases e
theorem DRP.no (hD : DRP iv rv s D) (hx : SATX iv rv s i none) (h0 : 0 ≤ i) (hi : i < ((D.length : Nat) : Int)) : False := by
  obtain ⟨d1, d2⟩ := hD
  rcases hx with ⟨_, rb, h0', e⟩ | ⟨e, _⟩
  · have lt : i.toNat < D.length := by omega
    obtain ⟨rb2, r, q0, q1, _⟩ := d2 i.toNat _ (List.getElem?_eq_getElem lt)
    rw [h0'] at q0; cases q0
    rw [← e] at q1
    cases q1
  · omega
theorem DRP.row (hD : DRP iv rv s (D ++ [x1])) (hx : SATX iv rv s (iv s 1 - 1) (some r)) : ∃ rb, rv s 0 = some rb ∧ rv rb D.length = some r ∧ iv r 2 = 0 ∧ LNE iv rv r x1 := by
  obtain ⟨d1, d2⟩ := hD
  obtain ⟨rb, h0, hr⟩ := hx.row
  rw [len1] at d1
  rw [show (iv s 1 - 1).toNat = D.length by omega] at hr
  obtain ⟨rb2, r2, q0, q1, q2, q3⟩ := d2 D.length x1 ap2
  rw [h0] at q0; cases q0
  rw [hr] at q1; cases q1
  exact ⟨rb, h0, hr, q2, q3⟩
theorem DRP.last (hD : DRP iv rv s (D ++ [x1])) (hK : LNK rv s s2) (hW : WT h sk L cl ln iv rv) (ts : ty L cl s 18) (h0 : rv s 0 = some rb) (hr : rv rb D.length = some r) (hL : LFR L cl iv rv iv2 r) (h1 : iv2 s 1 = iv s 1) (h2 : iv2 r 2 = 0) (hx : LNE iv2 rv r x2) : DRP iv2 rv s (D ++ [x2]) := by
  obtain ⟨d1, d2⟩ := hD
  refine ⟨by rw [h1, d1, len1, len1], fun l xs e => ?_⟩
  rcases ap1 e with ⟨c, e3⟩ | ⟨c, e3⟩
  · exact ROW.lfr hK hW ts h0 hr hL (by omega) (d2 l xs (ap3 e3))
  · rw [c, ← e3]
    exact ⟨rb, r, h0, hr, h2, hx⟩
theorem TKC.al (hc : TKC iv rv u kd w cs st) (hW : WT h sk L cl ln iv rv) (hF : fT ls L cl iv rv iv2 rv2) (tu : ty L cl u 15) (a15 : ls.contains 15 = false) (a50 : ls.contains 50 = false) (a51 : ls.contains 51 = false) (a52 : ls.contains 52 = false) (a53 : ls.contains 53 = false) (a54 : ls.contains 54 = false) : TKC iv2 rv2 u kd w cs st := by
  obtain ⟨p1, p2, p3, p4, p5⟩ := hc
  have r_ : ∀ m, rv2 u m = rv u m := fun m => hF.r tu a15 m
  have k0 : ∀ b, rv u 0 = some b → iv2 b = iv b := fun b hb => by
    obtain ⟨b', q1, t3⟩ := hW.ref tu 0 rfl rfl rfl
    rw [hb] at q1; cases q1
    exact funext fun j => hF.i (show ty L cl b 50 from t3) a50 j
  have k1 : ∀ b, rv u 1 = some b → iv2 b = iv b := fun b hb => by
    obtain ⟨b', q1, t3⟩ := hW.ref tu 1 rfl rfl rfl
    rw [hb] at q1; cases q1
    exact funext fun j => hF.i (show ty L cl b 51 from t3) a51 j
  have k2 : ∀ b, rv u 2 = some b → iv2 b = iv b := fun b hb => by
    obtain ⟨b', q1, t3⟩ := hW.ref tu 2 rfl rfl rfl
    rw [hb] at q1; cases q1
    exact funext fun j => hF.i (show ty L cl b 52 from t3) a52 j
  have k3 : ∀ b, rv u 3 = some b → iv2 b = iv b := fun b hb => by
    obtain ⟨b', q1, t3⟩ := hW.ref tu 3 rfl rfl rfl
    rw [hb] at q1; cases q1
    exact funext fun j => hF.i (show ty L cl b 53 from t3) a53 j
  have k6 : ∀ b, rv u 6 = some b → iv2 b = iv b := fun b hb => by
    obtain ⟨b', q1, t3⟩ := hW.ref tu 6 rfl rfl rfl
    rw [hb] at q1; cases q1
    exact funext fun j => hF.i (show ty L cl b 54 from t3) a54 j
  refine ⟨⟨(hF.i tu a15 4).trans p1.1, fun lb pb bb g0 g1 g2 j y e => ?_⟩, ⟨(hF.i tu a15 7).trans p2.1, fun cb hb j y hj e => ?_⟩, p3, fun c => ⟨fun sb hb j hj => ?_, (p4 c).2⟩, p5⟩
  · rw [r_] at g0 g1 g2
    rw [k0 lb g0, k1 pb g1, k2 bb g2]
    exact p1.2 lb pb bb g0 g1 g2 j y e
  · rw [r_] at hb
    rw [k6 cb hb]
    exact p2.2 cb hb j y hj e
  · rw [r_] at hb
    rw [k3 sb hb]
    exact (p4 c).1 sb hb j hj
theorem TKV_s {n d : Nat} : TKV kd wd hy w cs st (n + 1) d D xs = if ((cs.length : Nat) : Int) - ((d : Nat) : Int) ≤ rom wd xs then some (D ++ [pql xs ++ sgm cs d (cs.length - d)]) else if 0 ≤ lbk w kd st ((d : Nat) : Int) (rom wd xs) w.length then (if D.length + 1 < 200 then TKV kd wd hy w cs st n (lbk w kd st ((d : Nat) : Int) (rom wd xs) w.length).toNat (D ++ [(pql xs ++ sgm cs d ((lbk w kd st ((d : Nat) : Int) (rom wd xs) w.length).toNat - d)) ++ [hy]]) [] else none) else if xs.length = 0 then some (D ++ [pql xs ++ sgm cs d (cs.length - d)]) else if D.length + 1 < 200 then TKV kd wd hy w cs st n d (D ++ [xs]) [] else none := rfl
theorem rom_z (hx : LNE iv rv r xs) (hz : (0 < iv r 1 ∧ z = wd - (iv r 1 + 1)) ∨ (iv r 1 ≤ 0 ∧ z = wd)) : rom wd xs = z ∧ (((pql xs).length : Nat) : Int) = wd - z := by
  refine hv2 (hx.1) (pql_len (xs := xs)) (fun e p => ?_)
  unfold rom
  by_cases c : xs.length = 0
  · rw [if_pos c] at p ⊢
    omega
  · rw [if_neg c] at p ⊢
    omega
theorem TKJ.zero (hd : d = 0) (ht : tn = 0) : TKJ L cl iv rv iv rv s u kd wd hy d tn := fun s2 _ hK => ⟨SHK.refl hK, fun D1 x1 cs w st h1 h2 => ⟨by omega, D1, x1, by rw [hd, ht, show ((201 : Int) - 0).toNat = 201 from rfl, show (0 : Int).toNat = 0 from rfl], h1⟩⟩
theorem TKJ.out (hT : TKJ L cl iv rv iv1 rv1 s u kd wd hy d tn) (ht : 200 < tn) (hf : f = 0) : TKE L cl iv rv iv1 rv1 s u kd wd hy f := fun s2 t2 hK => by
  obtain ⟨g1, g2⟩ := hT s2 t2 hK
  refine ⟨g1, fun D1 x1 cs w st h1 h2 => ⟨fun e => absurd e (by omega), fun _ => ?_⟩⟩
  obtain ⟨_, D3, x3, e, _⟩ := g2 D1 x1 cs w st h1 h2
  rw [e, show (201 - tn).toNat = 0 by omega]
  rfl
theorem TKJ.nul (hT : TKJ L cl iv rv iv1 rv1 s u kd wd hy d tn) (hx : SATX iv1 rv1 s (iv1 s 1 - 1) none) (hf : f = 0) : TKE L cl iv rv iv1 rv1 s u kd wd hy f := fun s2 t2 hK => by
  obtain ⟨g1, g2⟩ := hT s2 t2 hK
  refine ⟨g1, fun D1 x1 cs w st h1 h2 => ?_⟩
  obtain ⟨_, D3, x3, _, hD⟩ := g2 D1 x1 cs w st h1 h2
  refine hv2 (hD.1) (show (D3 ++ [x3]).length = D3.length + 1 from len1) (fun e e2 => ?_)
  exact (hD.no hx (by omega) (by omega)).elim
theorem TKJ.add (hT : TKJ L cl iv rv iv1 rv1 s u kd wd hy d tn) (hX : XT L cl ln L1 cl1 ln1) (hW : WT h sk L cl ln iv rv) (hW1 : WT h sk L1 cl1 ln1 iv1 rv1) (hF : fT [18, 19, 64, 67, 203] L cl iv rv iv1 rv1) (ts : ty L cl s 18) (tu : ty L cl u 15) (hx : SATX iv1 rv1 s (iv1 s 1 - 1) (some r)) (hL : LFR L1 cl1 iv1 rv1 iv2 r) (hF2 : fT [19, 64] L1 cl1 iv1 rv1 iv2 rv1) (h2 : iv2 r 2 = iv1 r 2) (hA : APX iv1 rv1 iv2 r u d m) (hm : m = iv1 u 7) (hd : 0 ≤ d) (ht : 0 ≤ tn ∧ tn ≤ 200) (hw : wd ≤ 100) (hz : (0 < iv1 r 1 ∧ z = wd - (iv1 r 1 + 1)) ∨ (iv1 r 1 ≤ 0 ∧ z = wd)) (hc : m - d ≤ z ∨ (iv1 r 1 = 0 ∧ LBX iv1 rv1 u kd d (z - 1) x ∧ x ≤ d)) (hf : f = 1) : TKE L cl iv rv iv2 rv1 s u kd wd hy f := fun s2 t2 hK => by
  obtain ⟨g1, g2⟩ := hT s2 t2 hK
  obtain ⟨rb, r0, r1⟩ := hx.row
  refine ⟨g1.lfr hW1 (hX.ty ts) (hX.ty t2) r0 r1 hL hF2 rfl, fun D1 x1 cs w st h1 hC => ⟨fun _ => ?_, fun e => absurd hf e⟩⟩
  obtain ⟨k1, D3, x3, k2, k3⟩ := g2 D1 x1 cs w st h1 hC
  obtain ⟨rb2, q0, q1, q2, q3⟩ := k3.row hx
  have hC1 := hC.al hW hF tu rfl rfl rfl rfl rfl rfl
  obtain ⟨z1, z2⟩ := rom_z q3 hz
  refine hv3 (hC1.2.1.1) (hC1.2.2.1) (q3.1) (fun em l200 ex => ?_)
  have lx := hA x3 cs q3 hC1.2.1 l200 (by omega) (by omega) (by omega)
  refine ⟨D3 ++ [pql x3 ++ sgm cs d.toNat (cs.length - d.toNat)], ?_, ?_⟩
  · rw [k2, show (201 - tn).toNat = (200 - tn).toNat + 1 by omega, TKV_s, z1, Int.toNat_of_nonneg hd]
    rcases hc with hc | ⟨c1, c2, c3⟩
    · rw [if_pos (by omega)]
    · by_cases c4 : ((cs.length : Nat) : Int) - d ≤ z
      · rw [if_pos c4]
      · have b := c2 w st hC1.1 hC1.2.2.2.1
        rw [show z - 1 + 1 = z by omega] at b
        unfold LBV at b
        rw [if_neg c4, if_neg, if_pos (by omega)]
        intro c5
        rw [if_pos c5] at b
        obtain ⟨_, _, b2, b3⟩ := lbk_at _ c5
        omega
  · rw [show cs.length - d.toNat = (m - d).toNat by omega]
    exact k3.last g1.1 hW1 (hX.ty ts) q0 q1 hL (hF2.i (hX.ty ts) rfl 1) (h2.trans q2) lx
theorem TKJ.part (hT : TKJ L cl iv rv iv1 rv1 s u kd wd hy d tn) (hX : XT L cl ln L1 cl1 ln1) (hW : WT h sk L cl ln iv rv) (hW1 : WT h sk L1 cl1 ln1 iv1 rv1) (hF : fT [18, 19, 64, 67, 203] L cl iv rv iv1 rv1) (ts : ty L cl s 18) (tu : ty L cl u 15) (hx : SATX iv1 rv1 s (iv1 s 1 - 1) (some r)) (hL : LFR L1 cl1 iv1 rv1 iv2 r) (hF2 : fT [19, 64] L1 cl1 iv1 rv1 iv2 rv1) (h2 : iv2 r 2 = iv1 r 2) (hA : APX iv1 rv1 iv2 r u d x) (hL3 : LFR L1 cl1 iv2 rv1 iv3 r) (hF3 : fT [19, 64] L1 cl1 iv2 rv1 iv3 rv1) (h3 : iv3 r 2 = iv2 r 2) (hA3 : LAX iv2 rv1 iv3 r hy) (hm : m = iv1 u 7) (hd : 0 ≤ d) (ht : 0 ≤ tn ∧ tn ≤ 200) (hw : wd ≤ 100) (hz : (0 < iv1 r 1 ∧ z = wd - (iv1 r 1 + 1)) ∨ (iv1 r 1 ≤ 0 ∧ z = wd)) (hc : z < m - d) (hb : LBX iv1 rv1 u kd d (z - 1) x) (hxd : d < x) : TKM L cl iv rv iv3 rv1 s u kd wd hy x tn := fun s2 t2 hK => by
  obtain ⟨g1, g2⟩ := hT s2 t2 hK
  obtain ⟨rb, r0, r1⟩ := hx.row
  refine hv2 (hL.trans hL3) (show fT [19, 64] L1 cl1 iv1 rv1 iv3 rv1 from hF2.call (ln := ln1) (ln2 := ln1) XT.refl hF3 rfl) (fun hL13 hF13 => ?_)
  refine ⟨g1.lfr hW1 (hX.ty ts) (hX.ty t2) r0 r1 hL13 hF13 rfl, fun D1 x1 cs w st h1 hC => ?_⟩
  obtain ⟨k1, D3, x3, k2, k3⟩ := g2 D1 x1 cs w st h1 hC
  obtain ⟨rb2, q0, q1, q2, q3⟩ := k3.row hx
  have hC1 := hC.al hW hF tu rfl rfl rfl rfl rfl rfl
  obtain ⟨z1, z2⟩ := rom_z q3 hz
  refine hv3 (hC1.2.1.1) (hC1.2.2.1) (hb w st hC1.1 hC1.2.2.2.1) (fun em l200 b => ?_)
  rw [show z - 1 + 1 = z by omega] at b
  unfold LBV at b
  have c5 : 0 ≤ lbk w kd st d z w.length := by
    by_cases c5 : 0 ≤ lbk w kd st d z w.length
    · exact c5
    · rw [if_neg c5] at b
      omega
  rw [if_pos c5] at b
  obtain ⟨qq, _, ⟨b2, b4⟩, b3⟩ := lbk_at _ c5
  refine hv2 (hC1.2.2.2.2 qq) (show (pql x3 ++ sgm cs d.toNat (x - d).toNat).length = (pql x3).length + (x - d).toNat from by rw [List.length_append, sgm_len]) (fun b5 ll => ?_)
  have lx := hA x3 cs q3 hC1.2.1 l200 (by omega) (by omega) (by omega)
  have ly := hA3 _ lx (by omega)
  refine ⟨by omega, D3 ++ [(pql x3 ++ sgm cs d.toNat (x - d).toNat) ++ [hy]], ?_, ?_⟩
  · rw [k2, show (201 - tn).toNat = (200 - tn).toNat + 1 by omega, TKV_s, z1, Int.toNat_of_nonneg hd, if_neg (by omega), if_pos c5, ← b, len1, show x.toNat - d.toNat = (x - d).toNat by omega]
  · exact k3.last g1.1 hW1 (hX.ty ts) q0 q1 hL13 (hF13.i (hX.ty ts) rfl 1) (h3.trans (h2.trans q2)) ly
theorem TKJ.next (hT : TKJ L cl iv rv iv1 rv1 s u kd wd hy d tn) (hX : XT L cl ln L1 cl1 ln1) (hW : WT h sk L cl ln iv rv) (hF : fT [18, 19, 64, 67, 203] L cl iv rv iv1 rv1) (tu : ty L cl u 15) (hx : SATX iv1 rv1 s (iv1 s 1 - 1) (some r)) (hm : m = iv1 u 7) (hd : 0 ≤ d) (ht : 0 ≤ tn ∧ tn ≤ 200) (hz : (0 < iv1 r 1 ∧ z = wd - (iv1 r 1 + 1)) ∨ (iv1 r 1 ≤ 0 ∧ z = wd)) (hc : z < m - d) (hb : LBX iv1 rv1 u kd d (z - 1) x) (hxd : x ≤ d) (h0 : iv1 r 1 ≠ 0) : TKM L cl iv rv iv1 rv1 s u kd wd hy d tn := fun s2 t2 hK => by
  obtain ⟨g1, g2⟩ := hT s2 t2 hK
  refine ⟨g1, fun D1 x1 cs w st h1 hC => ?_⟩
  obtain ⟨k1, D3, x3, k2, k3⟩ := g2 D1 x1 cs w st h1 hC
  obtain ⟨rb2, q0, q1, q2, q3⟩ := k3.row hx
  have hC1 := hC.al hW hF tu rfl rfl rfl rfl rfl rfl
  obtain ⟨z1, z2⟩ := rom_z q3 hz
  refine hv3 (hC1.2.1.1) (q3.1) (hb w st hC1.1 hC1.2.2.2.1) (fun em ex b => ?_)
  rw [show z - 1 + 1 = z by omega] at b
  unfold LBV at b
  refine ⟨k1, D3 ++ [x3], ?_, k3⟩
  rw [k2, show (201 - tn).toNat = (200 - tn).toNat + 1 by omega, TKV_s, z1, Int.toNat_of_nonneg hd, if_neg (by omega), if_neg, if_neg (by omega), len1]
  intro c5
  rw [if_pos c5] at b
  obtain ⟨_, _, b2, b3⟩ := lbk_at _ c5
  omega
theorem TKM.full (hT : TKM L cl iv rv iv1 rv1 s u kd wd hy d tn) (hX : XT L cl ln L1 cl1 ln1) (hB : BEX L1 cl1 iv1 rv1 iv2 rv2 s x) (hx : x ≠ 1) (hf : f = 0) : TKE L cl iv rv iv2 rv2 s u kd wd hy f := fun s2 t2 hK => by
  obtain ⟨g1, g2⟩ := hT s2 t2 hK
  obtain ⟨b1, b2⟩ := hB s2 (hX.ty t2) g1.1
  refine ⟨g1.trans b1, fun D1 x1 cs w st h1 hC => ⟨fun e => absurd e (by omega), fun _ => ?_⟩⟩
  obtain ⟨k1, D4, k2, k3⟩ := g2 D1 x1 cs w st h1 hC
  have e := (b2 D4 k3).2 hx
  rw [k2, if_neg (by omega)]
theorem TKM.go (hT : TKM L cl iv rv iv1 rv1 s u kd wd hy d tn) (hX : XT L cl ln L1 cl1 ln1) (hB : BEX L1 cl1 iv1 rv1 iv2 rv2 s x) (hx : x = 1) : TKJ L cl iv rv iv2 rv2 s u kd wd hy d (tn + 1) := fun s2 t2 hK => by
  obtain ⟨g1, g2⟩ := hT s2 t2 hK
  obtain ⟨b1, b2⟩ := hB s2 (hX.ty t2) g1.1
  refine ⟨g1.trans b1, fun D1 x1 cs w st h1 hC => ?_⟩
  obtain ⟨k1, D4, k2, k3⟩ := g2 D1 x1 cs w st h1 hC
  obtain ⟨e1, e2⟩ := (b2 D4 k3).1 hx
  exact ⟨k1, D4, [], by rw [k2, if_pos e1, show (201 - (tn + 1)).toNat = (200 - tn).toNat by omega], e2⟩
theorem ENI.zero (hk : k = iv s 2) : ENI L cl iv rv iv s wd k := fun s2 _ hK => ⟨SHK.refl hK, fun D hD => ⟨hD.1, fun l xs e => by
  rw [if_neg (by omega)]
  exact hD.2 l xs e⟩⟩
theorem ENI.skip (hE : ENI L cl iv rv iv1 s wd k) (hx : SATX iv1 rv s k none) (hk : k < iv1 s 1) : ENI L cl iv rv iv1 s wd (k + 1) := fun s2 t2 hK => by
  obtain ⟨g1, g2⟩ := hE s2 t2 hK
  refine ⟨g1, fun D hD => ?_⟩
  obtain ⟨e1, e2⟩ := g2 D hD
  rcases hx with ⟨⟨e3, _⟩, rb, h0, e⟩ | ⟨e, _⟩
  · have lt : k.toNat < D.length := by omega
    obtain ⟨rb2, r2, q0, q1, _⟩ := e2 k.toNat _ (List.getElem?_eq_getElem lt)
    rw [h0] at q0; cases q0
    rw [← e] at q1
    cases q1
  · refine ⟨e1, fun l xs el => ?_⟩
    have g := e2 l xs el
    rw [if_neg (by omega)] at g ⊢
    exact g
theorem ENI.non (hE : ENI L cl iv rv iv1 s wd k) (hk : k = iv s 2) (hg : x = 0) : ENX L cl iv rv iv1 s x wd := fun s2 t2 hK => by
  obtain ⟨g1, g2⟩ := hE s2 t2 hK
  refine ⟨g1, fun D hD => ⟨fun _ => ?_, fun e => absurd hg e⟩⟩
  obtain ⟨e1, e2⟩ := g2 D hD
  refine ⟨e1, fun l xs el => ?_⟩
  have g := e2 l xs el
  rw [if_neg (by omega)] at g
  exact g
theorem ENI.step (hE : ENI L cl iv rv iv1 s wd k) (hW1 : WT h sk L cl ln iv1 rv) (ts : ty L cl s 18) (hx : SATX iv1 rv s k (some r)) (hk : iv s 2 ≤ k) (hL : LFR L cl iv1 rv iv2 r) (hF2 : fT [19, 64] L cl iv1 rv iv2 rv) (h2 : iv2 r 2 = iv1 r 2) (hI : INX iv1 rv iv2 r n) (hn : (0 ≤ wd - iv1 r 1 → n = (wd - iv1 r 1) / 2) ∧ (wd - iv1 r 1 < 0 → n ≤ 0)) (hw : wd ≤ 100) : ENI L cl iv rv iv2 s wd (k + 1) := fun s2 t2 hK => by
  obtain ⟨g1, g2⟩ := hE s2 t2 hK
  obtain ⟨rb, r0, r1⟩ := hx.row
  have hk0 : 0 ≤ k := by
    rcases hx with ⟨e, _⟩ | ⟨_, e⟩
    · exact e.1
    · cases e
  refine ⟨g1.lfr hW1 ts t2 r0 r1 hL hF2 rfl, fun D hD => ?_⟩
  obtain ⟨e1, e2⟩ := g2 D hD
  refine ⟨(hF2.i ts rfl 1).trans e1, fun l xs e => ?_⟩
  have g := e2 l xs e
  by_cases c : l = k.toNat
  · rw [if_neg (by omega)] at g
    rw [if_pos (by omega)]
    obtain ⟨rb2, r2, q0, q1, q2, q3⟩ := g
    rw [r0] at q0; cases q0
    rw [c, r1] at q1; cases q1
    have q4 := hI xs q3
    rw [q3.1] at hn
    rw [ind_cen hn hw] at q4
    exact ⟨rb, r, r0, by rw [c]; exact r1, h2.trans q2, q4⟩
  · have g3 := ROW.lfr g1.1 hW1 ts r0 r1 hL c g
    by_cases c2 : iv s 2 ≤ ((l : Nat) : Int) ∧ ((l : Nat) : Int) < k
    · rw [if_pos c2] at g3
      rw [if_pos (by omega)]
      exact g3
    · rw [if_neg c2] at g3
      rw [if_neg (by omega)]
      exact g3
theorem ENX.no (hg : x = 0) : ENX L cl iv rv iv s x wd := fun s2 _ hK => ⟨SHK.refl hK, fun D hD => ⟨fun _ => hD, fun e => absurd hg e⟩⟩
theorem ENI.fin (hE : ENI L cl iv rv iv1 s wd k) (hk : iv1 s 1 ≤ k) (hg : x ≠ 0) : ENX L cl iv rv iv1 s x wd := fun s2 t2 hK => by
  obtain ⟨g1, g2⟩ := hE s2 t2 hK
  refine ⟨g1, fun D hD => ⟨fun e => absurd e hg, fun _ h0 => ?_⟩⟩
  obtain ⟨e1, e2⟩ := g2 D hD
  refine ⟨by rw [cnl_len]; exact e1, fun l xs e => ?_⟩
  rw [cnl_get] at e
  have lt : l < D.length := by
    by_cases c : l < D.length
    · exact c
    · rw [List.getElem?_eq_none (by omega)] at e
      split at e <;> cases e
  have e3 := List.getElem?_eq_getElem lt
  have g := e2 l _ e3
  by_cases c : (iv s 2).toNat ≤ l
  · rw [if_pos c, e3] at e
    cases e
    rw [if_pos (by omega)] at g
    exact g
  · rw [if_neg c, e3] at e
    cases e
    rw [if_neg (by omega)] at g
    exact g
theorem SAM.up {m : Nat} (ts : ty L cl s 18) (ts2 : ty L cl s2 18) (hn : s2 ≠ s) (hW : WT h sk L cl ln iv rv) (e : iv1 = up2 iv s m z) : SAM iv rv iv1 rv s2 := by
  refine ⟨by funext q; rw [e, up2_k hn], rfl, fun rb h0 => ⟨rfl, fun l r hr => ?_⟩⟩
  have tr := ro19 hW (sh67 hW ts2 h0) hr
  refine ⟨by funext q; rw [e, up2_k (ne_ty tr ts (by decide))], rfl, fun cb hc => ?_⟩
  funext q
  rw [e, up2_k (ne_ty (li64 hW tr hc) ts (by decide))]
theorem ROW.up {m : Nat} (ts : ty L cl s 18) (hW : WT h sk L cl ln iv rv) (e : iv1 = up2 iv s m z) (hx : ROW iv rv s l xs) : ROW iv1 rv s l xs := hx.fr rfl (fun rb r h0 hr => by
  have tr := ro19 hW (sh67 hW ts h0) hr
  refine ⟨hr, by funext q; rw [e, up2_k (ne_ty tr ts (by decide))], rfl, fun cb hc => ?_⟩
  funext q
  rw [e, up2_k (ne_ty (li64 hW tr hc) ts (by decide))])
theorem SHK.up {m : Nat} (h1 : SHK iv rv iv1 rv1 s s2) (ts : ty L1 cl1 s 18) (ts2 : ty L1 cl1 s2 18) (hW : WT h sk L1 cl1 ln1 iv1 rv1) (e : iv2 = up2 iv1 s m z) : SHK iv rv iv2 rv1 s s2 := h1.trans ⟨h1.1, SAM.up ts ts2 (fun q => h1.1.1 q.symm) hW e, rfl⟩
theorem BTX.mk (ts : ty L cl s 18) (hW : WT h sk L cl ln iv rv) (e : iv1 = up2 iv s 2 z) (hz : z = iv s 1) (hB : BEX L cl iv1 rv iv2 rv2 s f) (h2 : iv2 s 2 = iv1 s 2) : BTX L cl iv rv iv2 rv2 s f := fun s2 t2 hK => by
  have g0 : SHK iv rv iv1 rv s s2 := (SHK.refl hK).up ts t2 hW e
  obtain ⟨b1, b2⟩ := hB s2 t2 g0.1
  refine ⟨g0.trans b1, fun D hD => ?_⟩
  have hD1 : DRP iv1 rv s D := ⟨by rw [e, up2_j (by decide)]; exact hD.1, fun l xs q => (hD.2 l xs q).up ts hW e⟩
  obtain ⟨k1, k2⟩ := b2 D hD1
  have e2 : iv1 s 2 = z := by rw [e, up2_s]
  refine ⟨fun c => ⟨(k1 c).1, (k1 c).2, ?_⟩, k2⟩
  rw [h2, e2, hz]
  exact hD.1
theorem BEX.no (hf : f ≠ 1) (h1 : 200 ≤ iv s 1) (h2 : iv s 1 ≤ 200) : BEX L cl iv rv iv rv s f := fun s2 _ hK => ⟨SHK.refl hK, fun D hD => ⟨fun e => absurd e hf, fun _ => by
  have e := hD.1
  omega⟩⟩
theorem BEX.old (ts : ty L cl s 18) (hW : WT h sk L cl ln iv rv) (hW1 : WT h sk L cl ln iv1 rv) (h0 : rv s 0 = some rb) (hr : rv rb (iv s 1).toNat = some r) (hL : LFR L cl iv rv iv1 r) (hF : fT [19] L cl iv rv iv1 rv) (e1 : iv1 r 1 = 0) (e2 : iv1 r 2 = 0) (e : iv2 = up2 iv1 s 1 z) (hz : z = iv s 1 + 1) (hl : iv s 1 < 200) (hf : f = 1) : BEX L cl iv rv iv2 rv s f := fun s2 t2 hK => by
  have g1 : SHK iv rv iv1 rv s s2 := (SHK.refl hK).lfr hW ts t2 h0 hr hL hF rfl
  refine ⟨g1.up ts t2 hW1 e, fun D hD => ⟨fun _ => ?_, fun c => absurd hf c⟩⟩
  obtain ⟨d1, d2⟩ := hD
  refine ⟨by omega, by rw [e, up2_s, len1]; omega, fun l xs q => ?_⟩
  rcases ap1 q with ⟨c, q3⟩ | ⟨c, q3⟩
  · exact (ROW.lfr hK hW ts h0 hr hL (by omega) (d2 l xs q3)).up ts hW1 e
  · subst q3
    have rw1 : ROW iv1 rv s l [] := ⟨rb, r, h0, by rw [c, show D.length = (iv s 1).toNat by omega]; exact hr, e2, LNE.nil e1⟩
    exact rw1.up ts hW1 e
theorem BEX.fresh (ts : ty L cl s 18) (hW : WT h sk L cl ln iv rv) (h0 : rv s 0 = some rb) (hl : iv s 1 < 200) (hl0 : 0 ≤ iv s 1) (qL : q ∉ L) (bL : b ∉ L) (i18 : ∀ c, ty L cl c 18 → c ≠ s → ∀ j, iv2 c j = iv c j) (i19 : ∀ c, ty L cl c 19 → ∀ j, iv2 c j = iv c j) (i64 : ∀ c, ty L cl c 64 → ∀ j, iv2 c j = iv c j) (r18 : ∀ c, ty L cl c 18 → ∀ j, rv2 c j = rv c j) (r19 : ∀ c, ty L cl c 19 → ∀ j, rv2 c j = rv c j) (r67 : ∀ c, ty L cl c 67 → c ≠ rb → ∀ j, rv2 c j = rv c j) (rrb : ∀ j, j ≠ (iv s 1).toNat → rv2 rb j = rv rb j) (rn : rv2 rb (iv s 1).toNat = some q) (rq : rv2 q 0 = some b) (q1 : iv2 q 1 = 0) (q2 : iv2 q 2 = 0) (hz : iv2 s 1 = iv s 1 + 1) (hf : f = 1) : BEX L cl iv rv iv2 rv2 s f := fun s2 t2 hK => by
  refine hv3 (sh67 hW ts h0) (show rv2 s = rv s from funext fun j => r18 s ts j) (show rv2 s2 = rv s2 from funext fun j => r18 s2 t2 j) (fun tb es es2 => ?_)
  have old : ∀ x y, (x = s ∨ x = s2) → rv2 x 0 = some y → ∀ l r, rv2 y l = some r → (rv x 0 = some y ∧ rv y l = some r ∧ rv2 r 0 = rv r 0 ∧ ty L cl r 19) ∨ (x = s ∧ l = (iv s 1).toNat ∧ r = q) := fun x y hx hy l r hr => by
    have tx : ty L cl x 18 := by
      rcases hx with e | e
      · rw [e]; exact ts
      · rw [e]; exact t2
    have hy' : rv x 0 = some y := by rw [← r18 x tx 0]; exact hy
    have ty' := sh67 hW tx hy'
    by_cases c : y = rb
    · rw [c] at hr hy' ty' ⊢
      have xs_ : x = s := by
        rcases hx with e | e
        · exact e
        · rw [e] at hy'
          exact absurd hy' (hK.2.1 rb h0)
      by_cases c2 : l = (iv s 1).toNat
      · rw [c2, rn] at hr
        cases hr
        exact Or.inr ⟨xs_, c2, rfl⟩
      · rw [rrb l c2] at hr
        have tr := ro19 hW ty' hr
        exact Or.inl ⟨hy', hr, r19 r tr 0, tr⟩
    · rw [r67 y ty' c l] at hr
      have tr := ro19 hW ty' hr
      exact Or.inl ⟨hy', hr, r19 r tr 0, tr⟩
  have K2 : LNK rv2 s s2 := by
    refine ⟨hK.1, fun c h1 h2 => hK.2.1 c (by rw [← es]; exact h1) (by rw [← es2]; exact h2), fun x y hx hy rb1 rb2 l l' r r' c a1 a2 a3 a4 a5 a6 => ?_⟩
    rcases old x rb1 hx a1 l r a3 with ⟨o1, o2, o3, o4⟩ | ⟨o1, o2, o3⟩
    · rcases old y rb2 hy a2 l' r' a4 with ⟨p1, p2, p3, p4⟩ | ⟨p1, p2, p3⟩
      · rw [o3] at a5
        rw [p3] at a6
        exact hK.2.2 x y hx hy rb1 rb2 l l' r r' c o1 p1 o2 p2 a5 a6
      · rw [p3, rq] at a6
        rw [o3] at a5
        cases a6
        exact absurd (li64 hW o4 a5).1 bL
    · rcases old y rb2 hy a2 l' r' a4 with ⟨p1, p2, p3, p4⟩ | ⟨p1, p2, p3⟩
      · rw [o3, rq] at a5
        rw [p3] at a6
        cases a5
        exact absurd (li64 hW p4 a6).1 bL
      · exact ⟨o1.trans p1.symm, o2.trans p2.symm⟩
  have kp : ∀ r, ty L cl r 19 → iv2 r = iv r ∧ rv2 r = rv r ∧ ∀ cb, rv r 0 = some cb → iv2 cb = iv cb := fun r tr => ⟨funext fun j => i19 r tr j, funext fun j => r19 r tr j, fun cb hc => funext fun j => i64 cb (li64 hW tr hc) j⟩
  refine ⟨⟨K2, ⟨funext fun j => i18 s2 t2 (fun e => hK.1 e.symm) j, es2, fun rb2 hb2 => ?_⟩, es⟩, fun D hD => ⟨fun _ => ?_, fun c => absurd hf c⟩⟩
  · have tb2 := sh67 hW t2 hb2
    refine ⟨funext fun j => r67 rb2 tb2 (fun e => hK.2.1 rb h0 (by rw [← e]; exact hb2)) j, fun l r hr => kp r (ro19 hW tb2 hr)⟩
  · obtain ⟨d1, d2⟩ := hD
    refine ⟨by omega, by rw [hz, len1]; omega, fun l xs g => ?_⟩
    rcases ap1 g with ⟨c, q3⟩ | ⟨c, q3⟩
    · refine (d2 l xs q3).fr es (fun rb2 r h02 hr => ?_)
      rw [h0] at h02; cases h02
      obtain ⟨k1, k2, k3⟩ := kp r (ro19 hW tb hr)
      exact ⟨by rw [rrb l (by omega)]; exact hr, k1, k2, k3⟩
    · subst q3
      exact ⟨rb, q, by rw [es]; exact h0, by rw [c, show D.length = (iv s 1).toNat by omega]; exact rn, q2, LNE.nil q1⟩
end TROW
end
section
set_option maxHeartbeats 4000000 in
set_option maxRecDepth 100000 in
theorem G_zline {l : Launch} {G : GT} {mi : Nat} {sk : Nat → Nat} {L : List Nat} {cl ln : Nat → Nat} {iv : Nat → Nat → Int} {rv : Nat → Nat → Option Nat}  {a0 : Nat} (hW : WT (g0 G) sk L cl ln iv rv) (hS : SKL sk L cl) (t_a0 : ty L cl a0 203)  : Mc l G mi zPf 0 yX2_init cX2_init 1 none 1 [.ref a0] L cl ln iv rv 216 (fun v L2 cl2 ln2 iv2 rv2 => v = none ∧ XT L cl ln L2 cl2 ln2 ∧ fT [203] L cl iv rv iv2 rv2 ∧ WT (g0 G) sk L2 cl2 ln2 iv2 rv2 ∧ (∃ b, (∀ k, ([0] : List Nat).contains k = false → rv2 a0 k = rv a0 k) ∧ rv2 a0 0 = some b ∧ ty L2 cl2 b 64 ∧ iv2 a0 1 = 0 ∧ iv2 a0 2 = 0 ∧ b ∉ L)) := by
  refine Mc.mk (by decide) (Nat.le_of_ble_eq_true rfl) ?_
  intro p e s m args below meth c A C hM
  refine hv3 ((show zPf ln rv ≤ 0 from Nat.le_refl 0)) (show XT L cl ln L cl ln from XT.refl) (show fT [203] L cl iv rv iv rv from fT.refl) (fun hph hX0 hF0 => ?_)
  refine c_aload_n (j := 0) (x := a0) C dX2_init_0 rfl ?_
  refine c_objInit C dX2_init_1 w4_43 w1_30 w1_31 (by decide) (Nat.le_of_ble_eq_true rfl) ?_
  refine c_aload_n (j := 0) (x := a0) C dX2_init_4 rfl ?_
  refine c_sipush (z := 200) C dX2_init_5 (by decide) ?_
  refine c_newaI (z := 200) (N := 200) C 64 dX2_init_8 w1_57 rfl (by omega) (by omega) (rom2 hph hph (by decide)) (fun qn1 cln1 lnn1 ivn1 rvn1 hqn1 hcn1 hln1 hin1 hrn1 => ⟨216, (z_in (by omega)), ?_⟩)
  refine c_g0 C (fun hg1 => ?_)
  refine hv5 (show ∀ b, b ≠ qn1 → lnn1 b = ln b from (fun b hb => by rw [hln1]; exact va_up_ne _ _ hb)) (show lnn1 qn1 = 200 from by rw [hln1]; exact va_up_self _ _ _) (hF0.new hX0 hqn1 hin1 hrn1) (show ty (L ++ [qn1]) cln1 qn1 64 from ty_new hcn1) (show qn1 ∉ L from fun h => hqn1 ((hX0 qn1 h).1)) (fun hxn1 lqn1 F1 tqn1 h0qn1 => ?_)
  refine hv2 (hW.new (ln2 := lnn1) hqn1 (hg1 qn1 (List.mem_append_right _ List.mem_cons_self)) hcn1 hxn1 hin1 hrn1 (fun _ => ⟨(show (-2147483648 : Int) ≤ 0 by decide), (show (0 : Int) ≤ 2147483647 by decide)⟩) (Or.inr (fun _ => rfl)) (fun _ => by show 200 ≤ lnn1 qn1 ∧ lnn1 qn1 ≤ 200; omega) rfl rfl) (XT.new hqn1 hcn1 hxn1) (fun W1 xl1 => ?_)
  refine hv3 (hX0.trans xl1) (xl1.skl hS) (xl1.ty t_a0) (fun X1 sk1 ty1 => ?_)
  refine c_putrF (x := (some qn1)) (k := 0) C ck_3 dX2_init_10 w4_44 (by decide) rfl rfl rfl ty1 rfl rfl (by decide) rfl (by rfl) (by rfl) (fun rv1 pq1 => ⟨216, (zp2 (Nat.le_refl _)), ?_⟩)
  refine hv2 (W1.putr pq1 ty1 (fun qr => by rw [ty1.2] at qr; cases qr) rfl (by decide)) (F1.putr X1 pq1 ty1 rfl) (fun W2 F2 => ?_)
  refine c_aload_n (j := 0) (x := a0) C dX2_init_13 rfl ?_
  refine c_iconst C dX2_init_14 ?_
  refine c_put (z := 0) (k := 1) C ck_3 dX2_init_15 w4_49 (by decide) rfl ty1 rfl rfl (by decide) rfl (by rfl) (by rfl) (fun iv1 pq2 => ?_)
  refine hv2 (W2.puti pq2 ty1 ⟨by decide, by decide⟩ rfl) (F2.puti X1 pq2 ty1 rfl) (fun W3 F3 => ?_)
  refine c_aload_n (j := 0) (x := a0) C dX2_init_18 rfl ?_
  refine c_iconst C dX2_init_19 ?_
  refine c_put (z := 0) (k := 2) C ck_3 dX2_init_20 w4_54 (by decide) rfl ty1 rfl rfl (by decide) rfl (by decide) (by decide) (fun iv2 pq3 => ?_)
  refine hv7 (W3.puti pq3 ty1 ⟨by decide, by decide⟩ rfl) (F3.puti X1 pq3 ty1 rfl) (show rv1 a0 0 = (some qn1) from by rw [pq1]; exact upr_s) (show ∀ k, ([0] : List Nat).contains k = false → rv1 a0 k = rv a0 k from fun k hk => (Eq.trans (show rv1 a0 k = rvn1 a0 k from (by rw [pq1]; exact upr_j (fun e => by subst e; exact absurd hk (by decide)))) (show rvn1 a0 k = rv a0 k from (by rw [hrn1]; exact congrFun (up0_a (ne_in t_a0.1 hqn1)) _)))) (show iv2 a0 1 = iv1 a0 1 from by rw [pq3]; exact up2_j (by decide)) (show iv1 a0 1 = 0 from by rw [pq2]; exact up2_s) (show iv2 a0 2 = 0 from by rw [pq3]; exact up2_s) (fun W4 F4 rp1 rn1 ie1 ie2 ie3 => ?_)
  refine hv2 (show (-2147483648) ≤ iv2 a0 1 ∧ iv2 a0 1 ≤ 2147483647 from W4.int ty1 1) (show (-2147483648) ≤ iv2 a0 2 ∧ iv2 a0 2 ≤ 2147483647 from W4.int ty1 2) (fun ri1 ri2 => ?_)
  exact c_vret C dX2_init_23 rfl (by decide) (rom0 hph (Nat.le_refl 0) (by decide)) ⟨rfl, X1, F4, W4, ⟨qn1, rn1, rp1, tqn1, (by omega), (by omega), h0qn1⟩⟩
set_option maxHeartbeats 4000000 in
set_option maxRecDepth 100000 in
theorem G_sat {l : Launch} {G : GT} {mi : Nat} {sk : Nat → Nat} {L : List Nat} {cl ln : Nat → Nat} {iv : Nat → Nat → Int} {rv : Nat → Nat → Option Nat}  {a0 : Nat} {i : Int} (hW : WT (g0 G) sk L cl ln iv rv) (hS : SKL sk L cl) (t_a0 : ty L cl a0 18) (h_i : -2147483648 ≤ i ∧ i ≤ 2147483647)  : Mc l G mi (Phi (g0 G) sk) PHM yX7_at cX7_at 2 (some (.object "DotPress$Line")) 0 [.ref a0, .int (iI i)] L cl ln iv rv 0 (fun v L2 cl2 ln2 iv2 rv2 => ∃ f : Option Nat, v = some ((va_rf f)) ∧ L = L2 ∧ cl = cl2 ∧ ln = ln2 ∧ iv = iv2 ∧ rv = rv2 ∧ (∀ b, f = some b → ty L2 cl2 b 19) ∧ (SATX iv rv a0 i f)) := by
  refine Mc.mk (by decide) (Nat.le_of_ble_eq_true rfl) ?_
  intro p e s m args below meth c A C hM
  refine hv4 (Phi.le hW hS) (show XT L cl ln L cl ln from XT.refl) (show fT [] L cl iv rv iv rv from fT.refl) (show 0 ≤ iv a0 1 ∧ iv a0 1 ≤ 200 from hW.int t_a0 1) (fun hph hX0 hF0 ri1 => ?_)
  refine c_iload_n (j := 1) C dX7_at_0 rfl ?_
  refine c_if_lt (tgt := 21) C ⟨by omega, by omega⟩ dX7_at_1 (by decide) (fun c1 => ?_) (fun c1 => ?_)
  · refine c_null C dX7_at_21 ?_
    exact c_aret (x := none) C dX7_at_22 rfl (Or.inl ⟨_, rfl⟩) (by decide) (rom0 hph hph (by decide)) ⟨none, rfl, rfl, rfl, rfl, rfl, rfl, (fun _ q => by cases q), (Or.inr ⟨by omega, rfl⟩)⟩
  · refine c_iload_n (j := 1) C dX7_at_4 rfl ?_
    refine c_aload_n (j := 0) (x := a0) C dX7_at_5 rfl ?_
    refine c_get (k := 1) C ck_8 dX7_at_6 w2_34 (by decide) t_a0 rfl rfl (by decide) rfl ?_
    refine c_icmp_ge (tgt := 21) C ⟨by omega, by omega⟩ (r32_c (lo := 0) (hi := 200) ri1.1 ri1.2 (by decide) (by decide)) dX7_at_9 (by decide) (fun c2 => ?_) (fun c2 => ?_)
    · refine c_null C dX7_at_21 ?_
      exact c_aret (x := none) C dX7_at_22 rfl (Or.inl ⟨_, rfl⟩) (by decide) (rom0 hph hph (by decide)) ⟨none, rfl, rfl, rfl, rfl, rfl, rfl, (fun _ q => by cases q), (Or.inr ⟨by omega, rfl⟩)⟩
    · refine c_aload_n (j := 0) (x := a0) C dX7_at_12 rfl ?_
      obtain ⟨rb1, rq1, trb1⟩ := hW.ref t_a0 0 rfl rfl rfl
      have lnrb1 : 200 ≤ ln rb1 ∧ ln rb1 ≤ 200 := hW.len trb1 rfl
      refine c_getr (k := 0) C ck_8 dX7_at_13 w2_33 (by decide) t_a0 rfl rfl (by decide) rfl rq1 ?_
      refine c_st (st2 := [.ref rb1]) rfl ?_
      refine c_iload_n (j := 1) C dX7_at_16 rfl ?_
      have ll1 : 200 ≤ ln rb1 ∧ ln rb1 ≤ 200 := hW.len trb1 rfl
      rcases hW.opt trb1 (i.toNat) rfl rfl with ⟨nq1, _⟩ | ⟨nb1, nq1, tnb1⟩
      · refine c_aaldL C dX7_at_17 trb1 rfl (by omega) (by omega) (by omega) nq1 ?_
        refine c_st (st2 := [.null]) rfl ?_
        refine c_goto (tgt := 22) C dX7_at_18 (by decide) ?_
        exact c_aret (x := none) C dX7_at_22 rfl (Or.inl ⟨_, rfl⟩) (by decide) (rom0 hph hph (by decide)) ⟨none, rfl, rfl, rfl, rfl, rfl, rfl, (fun _ q => by cases q), (Or.inl ⟨⟨by omega, by omega⟩, _, rq1, nq1.symm⟩)⟩
      · have tnb1 : ty L cl nb1 19 := tnb1
        refine c_aaldL C dX7_at_17 trb1 rfl (by omega) (by omega) (by omega) nq1 ?_
        refine c_st (st2 := [.ref nb1]) rfl ?_
        refine c_goto (tgt := 22) C dX7_at_18 (by decide) ?_
        exact c_aret (x := some nb1) C dX7_at_22 rfl (Or.inl ⟨_, rfl⟩) (by decide) (rom0 hph hph (by decide)) ⟨(some nb1), rfl, rfl, rfl, rfl, rfl, rfl, (fun _ q => by cases q; exact tnb1), (Or.inl ⟨⟨by omega, by omega⟩, _, rq1, nq1.symm⟩)⟩
set_option maxHeartbeats 4000000 in
set_option maxRecDepth 100000 in
theorem G_begin {l : Launch} {G : GT} {mi : Nat} {sk : Nat → Nat} {L : List Nat} {cl ln : Nat → Nat} {iv : Nat → Nat → Int} {rv : Nat → Nat → Option Nat}  {a0 : Nat} (hW : WT (g0 G) sk L cl ln iv rv) (hS : SKL sk L cl) (t_a0 : ty L cl a0 18)  : Mc l G mi (Phi (g0 G) sk) PHM yX7_begin cX7_begin 1 (some .boolean) 2 [.ref a0] L cl ln iv rv 0 (fun v L2 cl2 ln2 iv2 rv2 => ∃ f : Int, v = some (.int (iI f)) ∧ XT L cl ln L2 cl2 ln2 ∧ fT [18, 19, 64, 67, 203] L cl iv rv iv2 rv2 ∧ WT (g0 G) sk L2 cl2 ln2 iv2 rv2 ∧ (f = 0 ∨ f = 1) ∧ (((f = 0 ∧ iv2 a0 1 = iv a0 1) ∨ (f = 1 ∧ iv2 a0 1 = iv a0 1 + 1)) ∧ iv2 a0 2 = iv a0 2 ∧ BEX L cl iv rv iv2 rv2 a0 f)) := by
  refine Mc.mk (by decide) (Nat.le_of_ble_eq_true rfl) ?_
  intro p e s m args below meth c A C hM
  refine hv3 (Phi.le hW hS) (show XT L cl ln L cl ln from XT.refl) (show fT [18, 19, 64, 67, 203] L cl iv rv iv rv from fT.refl) (fun hph hX0 hF0 => ?_)
  refine c_aload_n (j := 0) (x := a0) C dX7_begin_0 rfl ?_
  have ri1 : 0 ≤ iv a0 1 ∧ iv a0 1 ≤ 200 := hW.int t_a0 1
  refine c_get (k := 1) C ck_8 dX7_begin_1 w2_34 (by decide) t_a0 rfl rfl (by decide) rfl ?_
  refine c_sipush (z := 200) C dX7_begin_4 (by decide) ?_
  refine c_icmp_lt (tgt := 12) C (r32_c (lo := 0) (hi := 200) ri1.1 ri1.2 (by decide) (by decide)) ⟨by decide, by decide⟩ dX7_begin_7 (by decide) (fun c1 => ?_) (fun c1 => ?_)
  · refine c_aload_n (j := 0) (x := a0) C dX7_begin_12 rfl ?_
    obtain ⟨rb1, rq1, trb1⟩ := hW.ref t_a0 0 rfl rfl rfl
    have lnrb1 : 200 ≤ ln rb1 ∧ ln rb1 ≤ 200 := hW.len trb1 rfl
    refine c_getr (k := 0) C ck_8 dX7_begin_13 w2_33 (by decide) t_a0 rfl rfl (by decide) rfl rq1 ?_
    refine c_st (st2 := [.ref rb1]) rfl ?_
    refine c_aload_n (j := 0) (x := a0) C dX7_begin_16 rfl ?_
    refine c_get (k := 1) C ck_8 dX7_begin_17 w2_34 (by decide) t_a0 rfl rfl (by decide) rfl ?_
    have ll1 : 200 ≤ ln rb1 ∧ ln rb1 ≤ 200 := hW.len trb1 rfl
    rcases hW.opt trb1 ((iv a0 1).toNat) rfl rfl with ⟨nq1, _⟩ | ⟨nb1, nq1, tnb1⟩
    · refine c_aaldL C dX7_begin_20 trb1 rfl (by omega) (by omega) (by omega) nq1 ?_
      refine c_st (st2 := [.null]) rfl ?_
      refine c_ifnonnull (r := none) (tgt := 40) C dX7_begin_21 (by decide) (fun _ q => by cases q) (fun _ => ?_)
      refine c_aload_n (j := 0) (x := a0) C dX7_begin_24 rfl ?_
      refine c_getr (k := 0) C ck_8 dX7_begin_25 w2_33 (by decide) t_a0 rfl rfl (by decide) rfl rq1 ?_
      refine c_st (st2 := [.ref rb1]) rfl ?_
      refine c_aload_n (j := 0) (x := a0) C dX7_begin_28 rfl ?_
      refine c_get (k := 1) C ck_8 dX7_begin_29 w2_34 (by decide) t_a0 rfl rfl (by decide) rfl ?_
      refine c_new C ck_3 dv_3 ⟨rfl, rfl⟩ rfl (by decide) dX7_begin_32 w2_31 w4_39 w1_22 (rom3 hph (Phi.le3 hW hS).1 (by omega)) (fun qn1 cln1 lnn1 ivn1 rvn1 hqn1 hcn1 hln1 hin1 hrn1 => ⟨19, (p_in (Phi.new hW hS hqn1 (fun b _ => by rw [hln1]) hrn1) (by omega)), ?_⟩)
      refine c_g0 C (fun hg1 => ?_)
      refine hv4 (show ∀ b, b ≠ qn1 → lnn1 b = ln b from (fun b _ => by rw [hln1])) (hF0.new hX0 hqn1 hin1 hrn1) (show ty (L ++ [qn1]) cln1 qn1 203 from ty_new hcn1) (show qn1 ∉ L from fun h => hqn1 ((hX0 qn1 h).1)) (fun hxn1 F1 tqn1 h0qn1 => ?_)
      refine hv2 (hW.new (ln2 := lnn1) hqn1 (hg1 qn1 (List.mem_append_right _ List.mem_cons_self)) hcn1 hxn1 hin1 hrn1 (fun _ => ⟨(show (-2147483648 : Int) ≤ 0 by decide), (show (0 : Int) ≤ 2147483647 by decide)⟩) (Or.inl rfl) (fun q => by cases q) rfl rfl) (XT.new hqn1 hcn1 hxn1) (fun W1 xl1 => ?_)
      refine hv2 (hX0.trans xl1) (xl1.skl hS) (fun X1 sk1 => ?_)
      refine c_dup C dX7_begin_35 rfl ?_
      have pl1 := Phi.le W1 sk1
      refine c_callIN (As := []) (rest := [.ref qn1, .int (iI (iv a0 1)), .ref rb1]) C hM (G_zline (a0 := qn1) W1 sk1 tqn1  ) dX7_begin_36 kN_X7_32 rfl rfl (Nat.le_of_ble_eq_true rfl) ⟨(Nat.le_of_ble_eq_true rfl), (Nat.le_of_ble_eq_true rfl)⟩ (rz3 hph (Phi.le3 W1 sk1).1 (by omega)) (fun rh1 Lh1 clh1 lnh1 ivh1 rvh1 h1 => ⟨235, (zk1 (by obtain ⟨_, xlh1x, flh1x, Wh1x, _⟩ := h1; exact Phi.fr W1 sk1 xlh1x flh1x rfl)), ?_⟩)
      obtain ⟨rfl, xl2, fl1, W2, exf1⟩ := h1
      refine hv5 (F1.call X1 fl1 rfl) (xl1.ty t_a0) (xl1.ty trb1) (X1.trans xl2) (xl2.skl sk1) (fun F2 ty1 ty2 X2 sk2 => ?_)
      refine c_st (st2 := [.ref qn1, .int (iI (iv a0 1)), .ref rb1]) rfl ?_
      obtain ⟨bexf1, exf1x, exf1r, exf1t, exf1i, exf1j, exf1n⟩ := exf1
      refine hv2 (show ∀ k, ([0] : List Nat).contains k = false → rvh1 qn1 k = none from fun k hk => (Eq.trans (show rvh1 qn1 k = rvn1 qn1 k from (exf1x k hk)) (show rvn1 qn1 k = none from (by rw [hrn1]; exact up0_s)))) (xl2.ty tqn1) (fun rn1 ty3 => ?_)
      refine c_retag (q := qn1) (t := 19) (by rw [ty3.2]; rfl) (fun clr1 hcr1 => ?_)
      refine hv4 (xl2.ty ty1) (xl2.ty ty2) (ty_rt exf1t hcr1 (ne_ty exf1t ty3 (by decide))) (show ty Lh1 clr1 qn1 19 from ⟨ty3.1, by rw [hcr1, va_up_self]; rfl⟩) (fun ty4 ty6 ty8 tqr1 => ?_)
      refine hv2 (ty_rt ty4 hcr1 (ne_ty ty4 ty3 (by decide))) (ty_rt ty6 hcr1 (ne_ty ty6 ty3 (by decide))) (fun ty5 ty7 => ?_)
      have W3 := W2.retag ty3.1 (by rw [ty3.2]; rfl) hcr1 (fun k => by
            rcases k with _ | _ | _ | k
            · exact W2.int ty3 0
            · exact ⟨(by show 0 ≤ ivh1 qn1 1; first | exact bx_lo ‹ivh1 qn1 1 = _› (by decide) | omega), (by show ivh1 qn1 1 ≤ 200; first | exact bx_hi ‹ivh1 qn1 1 = _› (by decide) | omega)⟩
            · exact ⟨(by show 0 ≤ ivh1 qn1 2; first | exact bx_lo ‹ivh1 qn1 2 = _› (by decide) | omega), (by show ivh1 qn1 2 ≤ 1; first | exact bx_hi ‹ivh1 qn1 2 = _› (by decide) | omega)⟩
            · exact W2.int ty3 (k + 3)) (fun k => by
            rcases k with _ | _ | _ | k
            · rw [exf1r]; exact rok_some tqr1 ty8 rfl (by decide) rfl
            · rw [rn1 1 (by decide)]; exact rok_none tqr1 rfl
            · rw [rn1 2 (by decide)]; exact rok_none tqr1 rfl
            · rw [rn1 (k + 3) (by simp)]; exact rok_none tqr1 rfl) rfl (fun z => by cases z) (fun z => by cases z) rfl
      refine hv4 (X2.rt hcr1 h0qn1) (sk2.rt hcr1 (by rw [ty3.2]; rfl)) (show 200 ≤ lnh1 rb1 ∧ lnh1 rb1 ≤ 200 from W3.len ty7 rfl) (show rvn1 rb1 ((iv a0 1).toNat) = rv rb1 ((iv a0 1).toNat) from (by rw [hrn1]; exact congrFun (up0_a (ne_in trb1.1 hqn1)) _)) (fun X3 sk3 ll2 re1 => ?_)
      rw [nq1] at re1
      have re2 : rvh1 rb1 ((iv a0 1).toNat) = rvn1 rb1 ((iv a0 1).toNat) := (fl1.r ty2 rfl (iv a0 1).toNat)
      rw [re1] at re2
      have ixe : (iv a0 1).toNat = (iv a0 1).toNat := by omega
      refine c_aastL (z := iv a0 1) C ck_3 dX7_begin_39 ty7 rfl tqr1 rfl rfl (by decide) (by omega) (by omega) (by omega) (fun rv1 pq1 => ⟨0, (by rw [Phi.line (iv := ivh1) W3 sk3 ty7 pq1 (by omega) (by rw [ixe]; exact re2)]; omega), ?_⟩)
      refine hv2 (W3.putr pq1 ty7 (rok_some ty7 tqr1 rfl (by decide) rfl) rfl (by decide)) (F2.putr X3 pq1 ty7 rfl) (fun W4 F3 => ?_)
      refine c_aload_n (j := 0) (x := a0) C dX7_begin_40 rfl ?_
      have re3 : rvn1 a0 0 = rv a0 0 := (by rw [hrn1]; exact congrFun (up0_a (ne_in t_a0.1 hqn1)) _)
      rw [rq1] at re3
      have re4 : rvh1 a0 0 = rvn1 a0 0 := (fl1.r ty1 rfl 0)
      rw [re3] at re4
      have re5 : rv1 a0 0 = rvh1 a0 0 := (by rw [pq1]; exact congrFun (upr_a (ne_ty ty5 ty7 (by decide))) _)
      rw [re4] at re5
      refine c_getr (k := 0) C ck_8 dX7_begin_41 w2_33 (by decide) ty5 rfl rfl (by decide) rfl re5 ?_
      refine c_st (st2 := [.ref rb1]) rfl ?_
      refine c_aload_n (j := 0) (x := a0) C dX7_begin_44 rfl ?_
      refine hv3 (show 0 ≤ ivh1 a0 1 ∧ ivh1 a0 1 ≤ 200 from W4.int ty5 1) (show ivh1 a0 1 = ivn1 a0 1 from fl1.i ty1 rfl 1) (show ivn1 a0 1 = iv a0 1 from by rw [hin1]; exact congrFun (up0_a (ne_in t_a0.1 hqn1)) _) (fun ri2 ie1 ie2 => ?_)
      refine c_get (k := 1) C ck_8 dX7_begin_45 w2_34 (by decide) ty5 rfl rfl (by decide) rfl ?_
      have re6 : rv1 rb1 (ivh1 a0 1).toNat = (some qn1) := by rw [show (ivh1 a0 1).toNat = (iv a0 1).toNat by omega, pq1]; exact upr_s
      refine c_aaldL C dX7_begin_48 ty7 rfl (by omega) (by omega) (by omega) re6 ?_
      refine c_st (st2 := [.ref qn1]) rfl ?_
      have pl2 := Phi.le W4 sk3
      refine d_callV (As := []) (rest := []) C hM (G_lclear (a0 := qn1) W4 sk3 tqr1  ) dX7_begin_49 kV_X7_33 rfl tqr1 rfl rfl (by decide) ck_3 rfl (Nat.le_of_ble_eq_true rfl) ⟨(Nat.le_of_ble_eq_true rfl), (Nat.le_of_ble_eq_true rfl)⟩ hph pl2 (show 0 + 0 = 0 from rfl) (by decide) (fun rh2 Lh2 clh2 lnh2 ivh2 rvh2 h2 => ?_)
      obtain ⟨rfl, rfl, rfl, rfl, rfl, fl2, W5, exf2⟩ := h2
      have F4 := F3.call X3 fl2 rfl
      refine c_st (st2 := []) rfl ?_
      refine hv3 (show 0 ≤ ivh2 qn1 1 ∧ ivh2 qn1 1 ≤ 200 from W5.int tqr1 1) (show 0 ≤ ivh2 qn1 2 ∧ ivh2 qn1 2 ≤ 1 from W5.int tqr1 2) (show ivh2 qn1 1 = 0 ∧ ivh2 qn1 2 = 0 ∧ LFR Lh1 clr1 ivh1 rv1 ivh2 qn1 from exf2) (fun ri3 ri4 gf2 => ?_)
      refine c_aload_n (j := 0) (x := a0) C dX7_begin_52 rfl ?_
      refine c_dup C dX7_begin_53 rfl ?_
      refine hv2 (show 0 ≤ ivh2 a0 1 ∧ ivh2 a0 1 ≤ 200 from W5.int ty5 1) (show ivh2 a0 1 = ivh1 a0 1 from fl2.i ty5 rfl 1) (fun ri5 ie5 => ?_)
      refine c_get (k := 1) C ck_8 dX7_begin_54 w2_34 (by decide) ty5 rfl rfl (by decide) rfl ?_
      refine c_iconst C dX7_begin_57 ?_
      refine c_iadd C dX7_begin_58 ?_
      refine c_put (z := (ivh2 a0 1) + 1) (k := 1) C ck_8 dX7_begin_59 w2_34 (by decide) rfl ty5 rfl rfl (by decide) rfl (by rfl) (by rfl) (fun iv1 pq2 => ?_)
      refine hv2 (W5.puti pq2 ty5 (show 0 ≤ ((ivh2 a0 1) + 1) ∧ ((ivh2 a0 1) + 1) ≤ 200 by omega) rfl) (F4.puti X3 pq2 ty5 rfl) (fun W6 F5 => ?_)
      refine c_iconst C dX7_begin_62 ?_
      refine hv13 (show 0 ≤ iv1 a0 1 ∧ iv1 a0 1 ≤ 200 from W6.int ty5 1) (show iv1 a0 1 = (ivh2 a0 1) + 1 from by rw [pq2]; exact up2_s) (show (-2147483648) ≤ iv1 a0 2 ∧ iv1 a0 2 ≤ 2147483647 from W6.int ty5 2) (show iv1 a0 2 = ivh2 a0 2 from by rw [pq2]; exact up2_j (by decide)) (show ivh2 a0 2 = ivh1 a0 2 from fl2.i ty5 rfl 2) (show ivh1 a0 2 = ivn1 a0 2 from fl1.i ty1 rfl 2) (show ivn1 a0 2 = iv a0 2 from by rw [hin1]; exact congrFun (up0_a (ne_in t_a0.1 hqn1)) _) (show 0 ≤ iv1 qn1 1 ∧ iv1 qn1 1 ≤ 200 from W6.int tqr1 1) (show iv1 qn1 1 = ivh2 qn1 1 from by rw [pq2]; exact up2_k (ne_ty tqr1 ty5 (by decide))) (show 0 ≤ iv1 qn1 2 ∧ iv1 qn1 2 ≤ 1 from W6.int tqr1 2) (show iv1 qn1 2 = ivh2 qn1 2 from by rw [pq2]; exact up2_k (ne_ty tqr1 ty5 (by decide))) (show rv1 rb1 ((iv a0 1).toNat) = (some qn1) from by rw [pq1]; exact upr_s) (show rv1 qn1 0 = rvh1 qn1 0 from (by rw [pq1]; exact congrFun (upr_a (ne_ty tqr1 ty7 (by decide))) _)) (fun ri6 ie6 ri7 ie7 ie8 ie9 ie10 ri8 ie11 ri9 ie12 rp1 re7 => ?_)
      have rn2 : rv1 rb1 (iv a0 1).toNat = some qn1 := by rw [show (iv a0 1).toNat = (iv a0 1).toNat by omega]; exact rp1
      have rr1 : ∀ j, j ≠ (iv a0 1).toNat → rv1 rb1 j = rv rb1 j := fun j hj => (Eq.trans (show rv1 rb1 j = rvh1 rb1 j from (by rw [pq1]; exact upr_j (by omega))) (Eq.trans (show rvh1 rb1 j = rvn1 rb1 j from (fl1.r ty2 rfl j)) (show rvn1 rb1 j = rv rb1 j from (by rw [hrn1]; exact congrFun (up0_a (ne_in trb1.1 hqn1)) _))))
      rw [exf1r] at re7
      exact c_zret C dX7_begin_63 rfl (Or.inr rfl) (by decide) (rom0 hph pl2 (by decide)) ⟨1, rfl, X3, F5, W6, (Or.inr rfl), ⟨by omega, by omega, BEX.fresh t_a0 hW rq1 (by omega) (by omega) h0qn1 (fun z => exf1n (X1 bexf1 z).1) (fun bb tbb hne j => by have tb1 := xl1.ty tbb; have tb2 := xl2.ty tb1; have tb3 := ty_rt tb2 hcr1 (ne_ty tb2 ty3 (by decide)); exact (Eq.trans (show iv1 bb j = ivh2 bb j from (by rw [pq2]; exact up2_k hne)) (Eq.trans (show ivh2 bb j = ivh1 bb j from (fl2.i tb3 rfl j)) (Eq.trans (show ivh1 bb j = ivn1 bb j from (fl1.i tb1 rfl j)) (show ivn1 bb j = iv bb j from (by rw [hin1]; exact congrFun (up0_a (ne_in tbb.1 hqn1)) _)))))) (fun bb tbb j => by have tb1 := xl1.ty tbb; have tb2 := xl2.ty tb1; have tb3 := ty_rt tb2 hcr1 (ne_ty tb2 ty3 (by decide)); exact (Eq.trans (show iv1 bb j = ivh2 bb j from (by rw [pq2]; exact up2_k (ne_ty tb3 ty5 (by decide)))) (Eq.trans (show ivh2 bb j = ivh1 bb j from (congrFun (exf2.2.2.1 _ tb3 (ne_in tbb.1 h0qn1)) j)) (Eq.trans (show ivh1 bb j = ivn1 bb j from (fl1.i tb1 rfl j)) (show ivn1 bb j = iv bb j from (by rw [hin1]; exact congrFun (up0_a (ne_in tbb.1 hqn1)) _)))))) (fun bb tbb j => by have tb1 := xl1.ty tbb; have tb2 := xl2.ty tb1; have tb3 := ty_rt tb2 hcr1 (ne_ty tb2 ty3 (by decide)); exact (Eq.trans (show iv1 bb j = ivh2 bb j from (by rw [pq2]; exact up2_k (ne_ty tb3 ty5 (by decide)))) (Eq.trans (show ivh2 bb j = ivh1 bb j from (fl2.i tb3 rfl j)) (Eq.trans (show ivh1 bb j = ivn1 bb j from (fl1.i tb1 rfl j)) (show ivn1 bb j = iv bb j from (by rw [hin1]; exact congrFun (up0_a (ne_in tbb.1 hqn1)) _)))))) (fun bb tbb j => by have tb1 := xl1.ty tbb; have tb2 := xl2.ty tb1; have tb3 := ty_rt tb2 hcr1 (ne_ty tb2 ty3 (by decide)); exact (Eq.trans (show rv1 bb j = rvh1 bb j from (by rw [pq1]; exact congrFun (upr_a (ne_ty tb3 ty7 (by decide))) _)) (Eq.trans (show rvh1 bb j = rvn1 bb j from (fl1.r tb1 rfl j)) (show rvn1 bb j = rv bb j from (by rw [hrn1]; exact congrFun (up0_a (ne_in tbb.1 hqn1)) _))))) (fun bb tbb j => by have tb1 := xl1.ty tbb; have tb2 := xl2.ty tb1; have tb3 := ty_rt tb2 hcr1 (ne_ty tb2 ty3 (by decide)); exact (Eq.trans (show rv1 bb j = rvh1 bb j from (by rw [pq1]; exact congrFun (upr_a (ne_ty tb3 ty7 (by decide))) _)) (Eq.trans (show rvh1 bb j = rvn1 bb j from (fl1.r tb1 rfl j)) (show rvn1 bb j = rv bb j from (by rw [hrn1]; exact congrFun (up0_a (ne_in tbb.1 hqn1)) _))))) (fun bb tbb hne j => by have tb1 := xl1.ty tbb; have tb2 := xl2.ty tb1; have tb3 := ty_rt tb2 hcr1 (ne_ty tb2 ty3 (by decide)); exact (Eq.trans (show rv1 bb j = rvh1 bb j from (by rw [pq1]; exact congrFun (upr_a hne) _)) (Eq.trans (show rvh1 bb j = rvn1 bb j from (fl1.r tb1 rfl j)) (show rvn1 bb j = rv bb j from (by rw [hrn1]; exact congrFun (up0_a (ne_in tbb.1 hqn1)) _))))) rr1 rn2 re7 (by omega) (by omega) (by omega) rfl⟩⟩
    · have tnb1 : ty L cl nb1 19 := tnb1
      refine c_aaldL C dX7_begin_20 trb1 rfl (by omega) (by omega) (by omega) nq1 ?_
      refine c_st (st2 := [.ref nb1]) rfl ?_
      refine c_ifnonnull (r := (some nb1)) (tgt := 40) C dX7_begin_21 (by decide) (fun _ _ => ?_) (fun q => by cases q)
      refine c_aload_n (j := 0) (x := a0) C dX7_begin_40 rfl ?_
      refine c_getr (k := 0) C ck_8 dX7_begin_41 w2_33 (by decide) t_a0 rfl rfl (by decide) rfl rq1 ?_
      refine c_st (st2 := [.ref rb1]) rfl ?_
      refine c_aload_n (j := 0) (x := a0) C dX7_begin_44 rfl ?_
      refine c_get (k := 1) C ck_8 dX7_begin_45 w2_34 (by decide) t_a0 rfl rfl (by decide) rfl ?_
      refine c_aaldL C dX7_begin_48 trb1 rfl (by omega) (by omega) (by omega) nq1 ?_
      refine c_st (st2 := [.ref nb1]) rfl ?_
      refine d_callV (As := []) (rest := []) C hM (G_lclear (a0 := nb1) hW hS tnb1  ) dX7_begin_49 kV_X7_33 rfl tnb1 rfl rfl (by decide) ck_3 rfl (Nat.le_of_ble_eq_true rfl) ⟨(Nat.le_of_ble_eq_true rfl), (Nat.le_of_ble_eq_true rfl)⟩ hph hph (show 0 + 0 = 0 from rfl) (by decide) (fun rh3 Lh3 clh3 lnh3 ivh3 rvh3 h3 => ?_)
      obtain ⟨rfl, rfl, rfl, rfl, rfl, fl3, W7, exf3⟩ := h3
      have F6 := hF0.call hX0 fl3 rfl
      refine c_st (st2 := []) rfl ?_
      refine hv3 (show 0 ≤ ivh3 nb1 1 ∧ ivh3 nb1 1 ≤ 200 from W7.int tnb1 1) (show 0 ≤ ivh3 nb1 2 ∧ ivh3 nb1 2 ≤ 1 from W7.int tnb1 2) (show ivh3 nb1 1 = 0 ∧ ivh3 nb1 2 = 0 ∧ LFR L cl iv rv ivh3 nb1 from exf3) (fun ri10 ri11 gf3 => ?_)
      refine c_aload_n (j := 0) (x := a0) C dX7_begin_52 rfl ?_
      refine c_dup C dX7_begin_53 rfl ?_
      refine hv2 (show 0 ≤ ivh3 a0 1 ∧ ivh3 a0 1 ≤ 200 from W7.int t_a0 1) (show ivh3 a0 1 = iv a0 1 from fl3.i t_a0 rfl 1) (fun ri12 ie15 => ?_)
      refine c_get (k := 1) C ck_8 dX7_begin_54 w2_34 (by decide) t_a0 rfl rfl (by decide) rfl ?_
      refine c_iconst C dX7_begin_57 ?_
      refine c_iadd C dX7_begin_58 ?_
      refine c_put (z := (ivh3 a0 1) + 1) (k := 1) C ck_8 dX7_begin_59 w2_34 (by decide) rfl t_a0 rfl rfl (by decide) rfl (by rfl) (by rfl) (fun iv2 pq3 => ?_)
      refine hv2 (W7.puti pq3 t_a0 (show 0 ≤ ((ivh3 a0 1) + 1) ∧ ((ivh3 a0 1) + 1) ≤ 200 by omega) rfl) (F6.puti hX0 pq3 t_a0 rfl) (fun W8 F7 => ?_)
      refine c_iconst C dX7_begin_62 ?_
      refine hv5 (show 0 ≤ iv2 a0 1 ∧ iv2 a0 1 ≤ 200 from W8.int t_a0 1) (show iv2 a0 1 = (ivh3 a0 1) + 1 from by rw [pq3]; exact up2_s) (show (-2147483648) ≤ iv2 a0 2 ∧ iv2 a0 2 ≤ 2147483647 from W8.int t_a0 2) (show iv2 a0 2 = ivh3 a0 2 from by rw [pq3]; exact up2_j (by decide)) (show ivh3 a0 2 = iv a0 2 from fl3.i t_a0 rfl 2) (fun ri13 ie16 ri14 ie17 ie18 => ?_)
      exact c_zret C dX7_begin_63 rfl (Or.inr rfl) (by decide) (rom0 hph hph (by decide)) ⟨1, rfl, hX0, F7, W8, (Or.inr rfl), ⟨by omega, by omega, BEX.old t_a0 hW W7 rq1 nq1 exf3.2.2 fl3 exf3.1 exf3.2.1 pq3 (by omega) (by omega) rfl⟩⟩
  · refine c_iconst C dX7_begin_10 ?_
    have ri15 : (-2147483648) ≤ iv a0 2 ∧ iv a0 2 ≤ 2147483647 := hW.int t_a0 2
    exact c_zret C dX7_begin_11 rfl (Or.inl rfl) (by decide) (rom0 hph hph (by decide)) ⟨0, rfl, hX0, hF0, hW, (Or.inl rfl), ⟨by omega, by omega, BEX.no (by decide) (by omega) (by omega)⟩⟩
set_option maxHeartbeats 4000000 in
set_option maxRecDepth 100000 in
theorem G_beginText {l : Launch} {G : GT} {mi : Nat} {sk : Nat → Nat} {L : List Nat} {cl ln : Nat → Nat} {iv : Nat → Nat → Int} {rv : Nat → Nat → Option Nat}  {a0 : Nat} (hW : WT (g0 G) sk L cl ln iv rv) (hS : SKL sk L cl) (t_a0 : ty L cl a0 18)  : Mc l G mi (Phi (g0 G) sk) PHM yX7_beginText cX7_beginText 1 (some .boolean) 3 [.ref a0] L cl ln iv rv 0 (fun v L2 cl2 ln2 iv2 rv2 => ∃ f : Int, v = some (.int (iI f)) ∧ XT L cl ln L2 cl2 ln2 ∧ fT [18, 19, 64, 67, 203] L cl iv rv iv2 rv2 ∧ WT (g0 G) sk L2 cl2 ln2 iv2 rv2 ∧ (f = 0 ∨ f = 1) ∧ (BTX L cl iv rv iv2 rv2 a0 f)) := by
  refine Mc.mk (by decide) (Nat.le_of_ble_eq_true rfl) ?_
  intro p e s m args below meth c A C hM
  refine hv3 (Phi.le hW hS) (show XT L cl ln L cl ln from XT.refl) (show fT [18, 19, 64, 67, 203] L cl iv rv iv rv from fT.refl) (fun hph hX0 hF0 => ?_)
  refine c_aload_n (j := 0) (x := a0) C dX7_beginText_0 rfl ?_
  refine c_aload_n (j := 0) (x := a0) C dX7_beginText_1 rfl ?_
  have ri1 : 0 ≤ iv a0 1 ∧ iv a0 1 ≤ 200 := hW.int t_a0 1
  refine c_get (k := 1) C ck_8 dX7_beginText_2 w2_34 (by decide) t_a0 rfl rfl (by decide) rfl ?_
  refine c_put (z := iv a0 1) (k := 2) C ck_8 dX7_beginText_5 w2_36 (by decide) rfl t_a0 rfl rfl (by decide) rfl (by rfl) (by rfl) (fun iv1 pq1 => ?_)
  refine hv2 (hW.puti pq1 t_a0 (show (-2147483648) ≤ (iv a0 1) ∧ (iv a0 1) ≤ 2147483647 by omega) rfl) (hF0.puti hX0 pq1 t_a0 rfl) (fun W1 F1 => ?_)
  refine c_aload_n (j := 0) (x := a0) C dX7_beginText_8 rfl ?_
  refine hv4 (show 0 ≤ iv1 a0 1 ∧ iv1 a0 1 ≤ 200 from W1.int t_a0 1) (show iv1 a0 1 = iv a0 1 from by rw [pq1]; exact up2_j (by decide)) (show (-2147483648) ≤ iv1 a0 2 ∧ iv1 a0 2 ≤ 2147483647 from W1.int t_a0 2) (show iv1 a0 2 = iv a0 1 from by rw [pq1]; exact up2_s) (fun ri2 ie1 ri3 ie2 => ?_)
  refine d_callV (As := []) (rest := []) C hM (G_begin (a0 := a0) W1 hS t_a0  ) dX7_beginText_9 kV_X7_54 rfl t_a0 rfl rfl (by decide) ck_8 rfl (Nat.le_of_ble_eq_true rfl) ⟨(Nat.le_of_ble_eq_true rfl), (Nat.le_of_ble_eq_true rfl)⟩ hph hph (show 0 + 0 = 0 from rfl) (by decide) (fun rh1 Lh1 clh1 lnh1 ivh1 rvh1 h1 => ?_)
  obtain ⟨f1, rfl, xl1, fl1, W2, rgf1, exf1⟩ := h1
  refine hv3 (F1.call hX0 fl1 rfl) (hX0.trans xl1) (xl1.skl hS) (fun F2 X1 sk1 => ?_)
  refine c_st (st2 := [.int (iI f1)]) rfl ?_
  refine hv3 (xl1.ty t_a0) (show ((f1 = 0 ∧ ivh1 a0 1 = iv1 a0 1) ∨ (f1 = 1 ∧ ivh1 a0 1 = iv1 a0 1 + 1)) ∧ ivh1 a0 2 = iv1 a0 2 ∧ BEX L cl iv1 rv ivh1 rvh1 a0 f1 from exf1) (Phi.le W2 sk1) (fun ty1 gf1 pl1 => ?_)
  refine hv2 (show 0 ≤ ivh1 a0 1 ∧ ivh1 a0 1 ≤ 200 from W2.int ty1 1) (show (-2147483648) ≤ ivh1 a0 2 ∧ ivh1 a0 2 ≤ 2147483647 from W2.int ty1 2) (fun ri4 ri5 => ?_)
  exact c_zret C dX7_beginText_12 rfl (by omega) (by decide) (rom0 hph pl1 (by decide)) ⟨f1, rfl, X1, F2, W2, (by omega), (BTX.mk t_a0 hW pq1 rfl gf1.2.2 gf1.2.1)⟩
set_option maxHeartbeats 4000000 in
set_option maxRecDepth 100000 in
theorem G_take {l : Launch} {G : GT} {mi : Nat} {sk : Nat → Nat} {L : List Nat} {cl ln : Nat → Nat} {iv : Nat → Nat → Int} {rv : Nat → Nat → Option Nat}  {a0 : Nat} {a1 : Nat} {x : Int} {w1 : Int} {h1 : Int} (hW : WT (g0 G) sk L cl ln iv rv) (hS : SKL sk L cl) (t_a0 : ty L cl a0 18) (t_a1 : ty L cl a1 15) (h_x : -2147483648 ≤ x ∧ x ≤ 2147483647) (h_w1 : -2147483648 ≤ w1 ∧ w1 ≤ 2147483647) (h_h1 : -2147483648 ≤ h1 ∧ h1 ≤ 2147483647) (hw : 1 ≤ w1 ∧ w1 ≤ 100) : Mc l G mi (Phi (g0 G) sk) PHM yX7_take cX7_take 10 (some .boolean) 4 [.ref a0, .ref a1, .int (iI x), .int (iI w1), .int (iI h1)] L cl ln iv rv 0 (fun v L2 cl2 ln2 iv2 rv2 => ∃ f : Int, v = some (.int (iI f)) ∧ XT L cl ln L2 cl2 ln2 ∧ fT [18, 19, 64, 67, 203] L cl iv rv iv2 rv2 ∧ WT (g0 G) sk L2 cl2 ln2 iv2 rv2 ∧ (f = 0 ∨ f = 1) ∧ (iv2 a0 2 = iv a0 2 ∧ TKE L cl iv rv iv2 rv2 a0 a1 x w1 h1 f)) := by
  refine Mc.mk (by decide) (Nat.le_of_ble_eq_true rfl) ?_
  intro p e s m args below meth c A C hM
  refine hv4 (Phi.le hW hS) (show XT L cl ln L cl ln from XT.refl) (show fT [18, 19, 64, 67, 203] L cl iv rv iv rv from fT.refl) (show (-2147483648) ≤ iv a0 2 ∧ iv a0 2 ≤ 2147483647 from hW.int t_a0 2) (fun hph hX0 hF0 ri1 => ?_)
  refine c_iconst C dX7_take_0 ?_
  refine c_istore (lv2 := [(5, .int (iI 0)), (0, .ref a0), (1, .ref a1), (2, .int (iI x)), (3, .int (iI w1)), (4, .int (iI h1))]) C dX7_take_1 (by decide) rfl ?_
  refine c_iconst C dX7_take_3 ?_
  refine c_istore (lv2 := [(6, .int (iI 0)), (5, .int (iI 0)), (0, .ref a0), (1, .ref a1), (2, .int (iI x)), (3, .int (iI w1)), (4, .int (iI h1))]) C dX7_take_4 (by decide) rfl ?_
  have Lp1 : ∀ (nn : Nat) (fr tn : Int) (Lb1 : List Nat) (clb1 lnb1 : Nat → Nat) (ivb1 : Nat → Nat → Int) (rvb1 : Nat → Nat → Option Nat) , 202 - tn < (nn : Int) → XT L cl ln Lb1 clb1 lnb1 → WT (g0 G) sk Lb1 clb1 lnb1 ivb1 rvb1 → fT [18, 19, 64, 67, 203] L cl iv rv ivb1 rvb1 → (0 ≤ fr ∧ fr ≤ 2147483647) → (0 ≤ tn ∧ tn ≤ 201) → (ivb1 a0 2 = iv a0 2) → (TKJ L cl iv rv ivb1 rvb1 a0 a1 x w1 h1 fr tn) → cw p l e 4 ((PHM) + 0 - ((Phi (g0 G) sk) ln rv)) s m args below meth c G A 10 (MQ below (Qu G A (Qp G (Phi (g0 G) sk) ((Phi (g0 G) sk) ln rv) 0 (fun v L2 cl2 ln2 iv2 rv2 => ∃ f : Int, v = some (.int (iI f)) ∧ XT L cl ln L2 cl2 ln2 ∧ fT [18, 19, 64, 67, 203] L cl iv rv iv2 rv2 ∧ WT (g0 G) sk L2 cl2 ln2 iv2 rv2 ∧ (f = 0 ∨ f = 1) ∧ (iv2 a0 2 = iv a0 2 ∧ TKE L cl iv rv iv2 rv2 a0 a1 x w1 h1 f)))) args s (((PHM) + 0 - ((Phi (g0 G) sk) ln rv)) / 16) ((PHM) + 0 - ((Phi (g0 G) sk) ln rv)) A) (Phi (g0 G) sk) ((Phi (g0 G) sk) ln rv) Lb1 clb1 lnb1 ivb1 rvb1 0 6 [(5, .int (iI fr)), (6, .int (iI tn)), (0, .ref a0), (1, .ref a1), (2, .int (iI x)), (3, .int (iI w1)), (4, .int (iI h1))] [] := by
    intro nn
    induction nn with
    | zero =>
      intro  fr tn Lb1 clb1 lnb1 ivb1 rvb1 hm Xb1 Wb1 Fb1  hfr htn hb2 hT
      have skb1 := Xb1.skl hS
      exact absurd hm (by omega)
    | succ nn ih1 =>
      intro  fr tn Lb1 clb1 lnb1 ivb1 rvb1 hm Xb1 Wb1 Fb1  hfr htn hb2 hT
      have skb1 := Xb1.skl hS
      refine c_iload (j := 1) C dX7_take_6 rfl ?_
      refine c_sipush (z := 200) C dX7_take_8 (by decide) ?_
      refine c_icmp_gt (tgt := 163) C (r32_c (lo := 0) (hi := 201) htn.1 htn.2 (by decide) (by decide)) ⟨by decide, by decide⟩ dX7_take_11 (by decide) (fun c1 => ?_) (fun c1 => ?_)
      · refine c_iconst C dX7_take_163 ?_
        refine hv2 (Xb1.ty t_a0) (Phi.le Wb1 skb1) (fun ty1 pl1 => ?_)
        have ri2 : (-2147483648) ≤ ivb1 a0 2 ∧ ivb1 a0 2 ≤ 2147483647 := Wb1.int ty1 2
        exact c_zret C dX7_take_164 rfl (Or.inl rfl) (by decide) (rom0 hph pl1 (by decide)) ⟨0, rfl, Xb1, Fb1, Wb1, (Or.inl rfl), ⟨by omega, hT.out (by omega) rfl⟩⟩
      · refine c_aload_n (j := 2) (x := a0) C dX7_take_14 rfl ?_
        refine c_aload_n (j := 2) (x := a0) C dX7_take_15 rfl ?_
        have ty2 := Xb1.ty t_a0
        have ri3 : 0 ≤ ivb1 a0 1 ∧ ivb1 a0 1 ≤ 200 := Wb1.int ty2 1
        refine c_get (k := 1) C ck_8 dX7_take_16 w2_34 (by decide) ty2 rfl rfl (by decide) rfl ?_
        refine c_iconst C dX7_take_19 ?_
        refine c_isub C dX7_take_20 ?_
        have pl2 := Phi.le Wb1 skb1
        refine d_callV (As := [.int (iI ((ivb1 a0 1) - 1))]) (rest := []) C hM (G_sat (a0 := a0) (i := (ivb1 a0 1) - 1) Wb1 skb1 ty2 (by omega) ) dX7_take_21 kV_X7_24 rfl ty2 rfl rfl (by decide) ck_8 rfl (Nat.le_of_ble_eq_true rfl) ⟨(Nat.le_of_ble_eq_true rfl), (Nat.le_of_ble_eq_true rfl)⟩ hph pl2 (show 0 + 0 = 0 from rfl) (by decide) (fun rh1 Lh1 clh1 lnh1 ivh1 rvh1 h1 => ?_)
        obtain ⟨f1, rfl, rfl, rfl, rfl, rfl, rfl, rgf1, exf1⟩ := h1
        refine c_st (st2 := [(va_rf f1)]) rfl ?_
        have gf1 : SATX ivb1 rvb1 a0 ((ivb1 a0 1) - 1) f1 := exf1
        refine c_astorer (r := f1) (lv2 := [(7, (va_rf f1)), (5, .int (iI fr)), (6, .int (iI tn)), (0, .ref a0), (1, .ref a1), (2, .int (iI x)), (3, .int (iI w1)), (4, .int (iI h1))]) C dX7_take_24 (by decide) rfl ?_
        refine c_aloadr (j := 0) (r := f1) C dX7_take_26 rfl ?_
        refine c_ifnonnull (r := f1) (tgt := 33) C dX7_take_28 (by decide) (fun ob1 oq1 => ?_) (fun oq1 => ?_)
        · subst oq1
          have tob1 := rgf1 ob1 rfl
          refine c_lv (lv2 := [(7, .ref ob1), (5, .int (iI fr)), (6, .int (iI tn)), (0, .ref a0), (1, .ref a1), (2, .int (iI x)), (3, .int (iI w1)), (4, .int (iI h1))]) [0, 1, 2, 3, 4, 5, 6, 7] rfl ?_
          refine c_st (st2 := []) rfl ?_
          refine c_iload_n (j := 6) C dX7_take_33 rfl ?_
          refine c_aload (j := 0) (x := ob1) C dX7_take_34 rfl ?_
          have ri4 : 0 ≤ ivb1 ob1 1 ∧ ivb1 ob1 1 ≤ 200 := Wb1.int tob1 1
          refine c_get (k := 1) C ck_3 dX7_take_36 w4_51 (by decide) tob1 rfl rfl (by decide) rfl ?_
          refine c_if_le (tgt := 52) C (r32_c (lo := 0) (hi := 200) ri4.1 ri4.2 (by decide) (by decide)) dX7_take_39 (by decide) (fun c2 => ?_) (fun c2 => ?_)
          · refine c_iconst C dX7_take_52 ?_
            refine c_isub C dX7_take_53 ?_
            refine c_istore (lv2 := [(8, .int (iI (w1 - 0))), (7, .ref ob1), (5, .int (iI fr)), (6, .int (iI tn)), (0, .ref a0), (1, .ref a1), (2, .int (iI x)), (3, .int (iI w1)), (4, .int (iI h1))]) C dX7_take_54 (by decide) rfl ?_
            refine c_aload_n (j := 5) (x := a1) C dX7_take_56 rfl ?_
            refine hv2 (Xb1.ty t_a1) (show ivb1 a1 7 = iv a1 7 from Fb1.i t_a1 rfl 7) (fun ty3 ie4 => ?_)
            have ri5 : 0 ≤ ivb1 a1 7 ∧ ivb1 a1 7 ≤ 100000 := Wb1.int ty3 7
            refine c_get (k := 7) C ck_7 dX7_take_57 w1_148 (by decide) ty3 rfl rfl (by decide) rfl ?_
            refine c_iload (j := 2) C dX7_take_60 rfl ?_
            refine c_isub C dX7_take_62 ?_
            refine c_iload (j := 0) C dX7_take_63 rfl ?_
            refine c_icmp_gt (tgt := 82) C ⟨by omega, by omega⟩ ⟨by omega, by omega⟩ dX7_take_65 (by decide) (fun c3 => ?_) (fun c3 => ?_)
            · refine c_aload_n (j := 5) (x := a1) C dX7_take_82 rfl ?_
              refine c_iload_n (j := 6) C dX7_take_83 rfl ?_
              refine c_iload (j := 2) C dX7_take_84 rfl ?_
              refine c_iload (j := 0) C dX7_take_86 rfl ?_
              refine c_iconst C dX7_take_88 ?_
              refine c_isub C dX7_take_89 ?_
              refine d_callV (As := [.int (iI x), .int (iI fr), .int (iI ((w1 - 0) - 1))]) (rest := []) C hM (G_lastBreak (a0 := a1) (x := x) (i := fr) (n := (w1 - 0) - 1) Wb1 skb1 ty3 (by omega) (by omega) (by omega) (by show 0 ≤ fr; omega)) dX7_take_90 kV_X7_46 rfl ty3 rfl rfl (by decide) ck_7 rfl (Nat.le_of_ble_eq_true rfl) ⟨(Nat.le_of_ble_eq_true rfl), (Nat.le_of_ble_eq_true rfl)⟩ hph pl2 (show 0 + 0 = 0 from rfl) (by decide) (fun rh2 Lh2 clh2 lnh2 ivh2 rvh2 h2 => ?_)
              obtain ⟨f2, rfl, rfl, rfl, rfl, rfl, rfl, rgf2, exf2⟩ := h2
              refine c_st (st2 := [.int (iI f2)]) rfl ?_
              have gf2 : fr ≤ f2 ∧ LBX ivb1 rvb1 a1 x fr ((w1 - 0) - 1) f2 := exf2
              refine c_istore (lv2 := [(9, .int (iI f2)), (8, .int (iI (w1 - 0))), (7, .ref ob1), (5, .int (iI fr)), (6, .int (iI tn)), (0, .ref a0), (1, .ref a1), (2, .int (iI x)), (3, .int (iI w1)), (4, .int (iI h1))]) C dX7_take_93 (by decide) rfl ?_
              refine c_iload (j := 0) C dX7_take_95 rfl ?_
              refine c_iload (j := 3) C dX7_take_97 rfl ?_
              refine c_icmp_le (tgt := 126) C ⟨by omega, by omega⟩ (r32_c (lo := 0) (hi := 2147483647) hfr.1 hfr.2 (by decide) (by decide)) dX7_take_99 (by decide) (fun c4 => ?_) (fun c4 => ?_)
              · refine c_aload (j := 2) (x := ob1) C dX7_take_126 rfl ?_
                refine c_get (k := 1) C ck_3 dX7_take_128 w4_51 (by decide) tob1 rfl rfl (by decide) rfl ?_
                refine c_if_ne (tgt := 148) C (r32_c (lo := 0) (hi := 200) ri4.1 ri4.2 (by decide) (by decide)) dX7_take_131 (by decide) (fun c5 => ?_) (fun c5 => ?_)
                · have tm : TKM L cl iv rv ivb1 rvb1 a0 a1 x w1 h1 fr tn := TKJ.next (m := ivb1 a1 7) (z := w1 - 0) hT Xb1 hW Fb1 t_a1 gf1 rfl (by omega) ⟨by omega, by omega⟩ (by omega) (by omega) gf2.2 (by omega) (by omega)
                  refine c_aload_n (j := 5) (x := a0) C dX7_take_148 rfl ?_
                  have ri6 : (-2147483648) ≤ ivb1 a0 2 ∧ ivb1 a0 2 ≤ 2147483647 := Wb1.int ty2 2
                  refine d_callV (As := []) (rest := []) C hM (G_begin (a0 := a0) Wb1 skb1 ty2  ) dX7_take_149 kV_X7_54 rfl ty2 rfl rfl (by decide) ck_8 rfl (Nat.le_of_ble_eq_true rfl) ⟨(Nat.le_of_ble_eq_true rfl), (Nat.le_of_ble_eq_true rfl)⟩ hph pl2 (show 0 + 0 = 0 from rfl) (by decide) (fun rh3 Lh3 clh3 lnh3 ivh3 rvh3 h3 => ?_)
                  obtain ⟨f3, rfl, xl3, fl3, W3, rgf3, exf3⟩ := h3
                  refine hv3 (Fb1.call Xb1 fl3 rfl) (Xb1.trans xl3) (xl3.skl skb1) (fun F1 X1 sk1 => ?_)
                  refine c_st (st2 := [.int (iI f3)]) rfl ?_
                  refine hv2 (xl3.ty ty2) (show ((f3 = 0 ∧ ivh3 a0 1 = ivb1 a0 1) ∨ (f3 = 1 ∧ ivh3 a0 1 = ivb1 a0 1 + 1)) ∧ ivh3 a0 2 = ivb1 a0 2 ∧ BEX Lb1 clb1 ivb1 rvb1 ivh3 rvh3 a0 f3 from exf3) (fun ty4 gf3 => ?_)
                  refine hv2 (show 0 ≤ ivh3 a0 1 ∧ ivh3 a0 1 ≤ 200 from W3.int ty4 1) (show (-2147483648) ≤ ivh3 a0 2 ∧ ivh3 a0 2 ≤ 2147483647 from W3.int ty4 2) (fun ri7 ri8 => ?_)
                  refine c_if_ne (tgt := 157) C (r32_pq gf3.1) dX7_take_152 (by decide) (fun c6 => ?_) (fun c6 => ?_)
                  · replace gf3 := (And.intro (gf3.1.resolve_left (fun q => c6 q.1)) gf3.2)
                    refine c_iinc (z := tn) (j := 4) (lv2 := [(6, .int (iI (tn + 1))), (9, .int (iI f2)), (8, .int (iI (w1 - 0))), (7, .ref ob1), (5, .int (iI fr)), (0, .ref a0), (1, .ref a1), (2, .int (iI x)), (3, .int (iI w1)), (4, .int (iI h1))]) C dX7_take_157 rfl (by decide) rfl ?_
                    refine c_goto (tgt := 6) C dX7_take_160 (by decide) ?_
                    refine c_lv (lv2 := [(5, .int (iI fr)), (6, .int (iI (tn + 1))), (0, .ref a0), (1, .ref a1), (2, .int (iI x)), (3, .int (iI w1)), (4, .int (iI h1))]) [4, 0, 5, 6, 7, 8, 9] rfl ?_
                    exact ih1  fr (tn + 1) _ _ _ _ _ (by omega) X1 W3 F1  (by omega) (by omega) (gf3.2.1.trans hb2) (tm.go Xb1 gf3.2.2 (by omega))
                  · replace gf3 := (And.intro (gf3.1.resolve_right (fun q => absurd (q.1.symm.trans c6) (by decide))) gf3.2)
                    refine c_iconst C dX7_take_155 ?_
                    have pl3 := Phi.le W3 sk1
                    exact c_zret C dX7_take_156 rfl (Or.inl rfl) (by decide) (rom0 hph pl3 (by decide)) ⟨0, rfl, X1, F1, W3, (Or.inl rfl), ⟨by omega, tm.full Xb1 gf3.2.2 (by omega) rfl⟩⟩
                · refine c_aload (j := 2) (x := ob1) C dX7_take_134 rfl ?_
                  refine c_aload_n (j := 6) (x := a1) C dX7_take_136 rfl ?_
                  refine c_iload (j := 3) C dX7_take_137 rfl ?_
                  refine c_aload_n (j := 6) (x := a1) C dX7_take_139 rfl ?_
                  refine c_get (k := 7) C ck_7 dX7_take_140 w1_148 (by decide) ty3 rfl rfl (by decide) rfl ?_
                  have ri9 : 0 ≤ ivb1 ob1 2 ∧ ivb1 ob1 2 ≤ 1 := Wb1.int tob1 2
                  refine d_callV (As := [.ref a1, .int (iI fr), .int (iI (ivb1 a1 7))]) (rest := []) C hM (G_addPart (a0 := ob1) (a1 := a1) (i := fr) (j := ivb1 a1 7) Wb1 skb1 tob1 ty3 (by omega) (by omega) (by show 0 ≤ fr; omega)) dX7_take_143 kV_X7_42 rfl tob1 rfl rfl (by decide) ck_3 rfl (Nat.le_of_ble_eq_true rfl) ⟨(Nat.le_of_ble_eq_true rfl), (Nat.le_of_ble_eq_true rfl)⟩ hph pl2 (show 0 + 0 = 0 from rfl) (by decide) (fun rh4 Lh4 clh4 lnh4 ivh4 rvh4 h4 => ?_)
                  obtain ⟨rfl, rfl, rfl, rfl, rfl, fl4, W4, exf4⟩ := h4
                  have F2 := Fb1.call Xb1 fl4 rfl
                  refine c_st (st2 := []) rfl ?_
                  refine hv2 (show 0 ≤ ivh4 ob1 2 ∧ ivh4 ob1 2 ≤ 1 from W4.int tob1 2) (show (LFR Lb1 clb1 ivb1 rvb1 ivh4 ob1 ∧ ivh4 ob1 2 = ivb1 ob1 2) ∧ APX ivb1 rvb1 ivh4 ob1 a1 fr (ivb1 a1 7) from exf4) (fun ri10 gf4 => ?_)
                  refine c_iconst C dX7_take_146 ?_
                  refine hv2 (show (-2147483648) ≤ ivh4 a0 2 ∧ ivh4 a0 2 ≤ 2147483647 from W4.int ty2 2) (show ivh4 a0 2 = ivb1 a0 2 from fl4.i ty2 rfl 2) (fun ri11 ie10 => ?_)
                  exact c_zret C dX7_take_147 rfl (Or.inr rfl) (by decide) (rom0 hph pl2 (by decide)) ⟨1, rfl, Xb1, F2, W4, (Or.inr rfl), ⟨by omega, TKJ.add (z := w1 - 0) hT Xb1 hW Wb1 Fb1 t_a0 t_a1 gf1 gf4.1.1 fl4 gf4.1.2 gf4.2 rfl (by omega) ⟨by omega, by omega⟩ (by omega) (by omega) (Or.inr ⟨by omega, gf2.2, by omega⟩) rfl⟩⟩
              · refine c_aload (j := 2) (x := ob1) C dX7_take_102 rfl ?_
                refine c_aload_n (j := 6) (x := a1) C dX7_take_104 rfl ?_
                refine c_iload (j := 3) C dX7_take_105 rfl ?_
                refine c_iload (j := 0) C dX7_take_107 rfl ?_
                have ri12 : 0 ≤ ivb1 ob1 2 ∧ ivb1 ob1 2 ≤ 1 := Wb1.int tob1 2
                refine d_callV (As := [.ref a1, .int (iI fr), .int (iI f2)]) (rest := []) C hM (G_addPart (a0 := ob1) (a1 := a1) (i := fr) (j := f2) Wb1 skb1 tob1 ty3 (by omega) (by omega) (by show 0 ≤ fr; omega)) dX7_take_109 kV_X7_42 rfl tob1 rfl rfl (by decide) ck_3 rfl (Nat.le_of_ble_eq_true rfl) ⟨(Nat.le_of_ble_eq_true rfl), (Nat.le_of_ble_eq_true rfl)⟩ hph pl2 (show 0 + 0 = 0 from rfl) (by decide) (fun rh5 Lh5 clh5 lnh5 ivh5 rvh5 h5 => ?_)
                obtain ⟨rfl, rfl, rfl, rfl, rfl, fl5, W5, exf5⟩ := h5
                have F3 := Fb1.call Xb1 fl5 rfl
                refine c_st (st2 := []) rfl ?_
                refine hv2 (show 0 ≤ ivh5 ob1 2 ∧ ivh5 ob1 2 ≤ 1 from W5.int tob1 2) (show (LFR Lb1 clb1 ivb1 rvb1 ivh5 ob1 ∧ ivh5 ob1 2 = ivb1 ob1 2) ∧ APX ivb1 rvb1 ivh5 ob1 a1 fr f2 from exf5) (fun ri13 gf5 => ?_)
                refine c_aload (j := 2) (x := ob1) C dX7_take_112 rfl ?_
                refine c_iload (j := 9) C dX7_take_114 rfl ?_
                have ri14 : 0 ≤ ivh5 ob1 1 ∧ ivh5 ob1 1 ≤ 200 := W5.int tob1 1
                refine d_callV (As := [.int (iI h1)]) (rest := []) C hM (G_ladd (a0 := ob1) (x := h1) W5 skb1 tob1 (by omega) ) dX7_take_116 kV_X7_50 rfl tob1 rfl rfl (by decide) ck_3 rfl (Nat.le_of_ble_eq_true rfl) ⟨(Nat.le_of_ble_eq_true rfl), (Nat.le_of_ble_eq_true rfl)⟩ hph pl2 (show 0 + 0 = 0 from rfl) (by decide) (fun rh6 Lh6 clh6 lnh6 ivh6 rvh6 h6 => ?_)
                obtain ⟨rfl, rfl, rfl, rfl, rfl, fl6, W6, exf6⟩ := h6
                have F4 := F3.call Xb1 fl6 rfl
                refine c_st (st2 := []) rfl ?_
                refine hv3 (show 0 ≤ ivh6 ob1 1 ∧ ivh6 ob1 1 ≤ 200 from W6.int tob1 1) (show 0 ≤ ivh6 ob1 2 ∧ ivh6 ob1 2 ≤ 1 from W6.int tob1 2) (show ((ivh6 ob1 1 = ivh5 ob1 1 ∧ ivh5 ob1 1 = 200) ∨ ivh6 ob1 1 = ivh5 ob1 1 + 1) ∧ (LFR Lb1 clb1 ivh5 rvb1 ivh6 ob1 ∧ ivh6 ob1 2 = ivh5 ob1 2) ∧ LAX ivh5 rvb1 ivh6 ob1 h1 from exf6) (fun ri15 ri16 gf6 => ?_)
                refine c_iload (j := 0) C dX7_take_119 rfl ?_
                refine c_istore (lv2 := [(5, .int (iI f2)), (9, .int (iI f2)), (8, .int (iI (w1 - 0))), (7, .ref ob1), (6, .int (iI tn)), (0, .ref a0), (1, .ref a1), (2, .int (iI x)), (3, .int (iI w1)), (4, .int (iI h1))]) C dX7_take_121 (by decide) rfl ?_
                refine c_goto (tgt := 148) C dX7_take_123 (by decide) ?_
                have tm : TKM L cl iv rv ivh6 rvb1 a0 a1 x w1 h1 f2 tn := TKJ.part (m := ivb1 a1 7) (z := w1 - 0) hT Xb1 hW Wb1 Fb1 t_a0 t_a1 gf1 gf5.1.1 fl5 gf5.1.2 gf5.2 gf6.2.1.1 fl6 gf6.2.1.2 gf6.2.2 rfl (by omega) ⟨by omega, by omega⟩ (by omega) (by omega) (by omega) gf2.2 (by omega)
                refine c_aload_n (j := 5) (x := a0) C dX7_take_148 rfl ?_
                refine hv6 (show 0 ≤ ivh6 a0 1 ∧ ivh6 a0 1 ≤ 200 from W6.int ty2 1) (show ivh6 a0 1 = ivh5 a0 1 from fl6.i ty2 rfl 1) (show ivh5 a0 1 = ivb1 a0 1 from fl5.i ty2 rfl 1) (show (-2147483648) ≤ ivh6 a0 2 ∧ ivh6 a0 2 ≤ 2147483647 from W6.int ty2 2) (show ivh6 a0 2 = ivh5 a0 2 from fl6.i ty2 rfl 2) (show ivh5 a0 2 = ivb1 a0 2 from fl5.i ty2 rfl 2) (fun ri17 ie17 ie18 ri18 ie19 ie20 => ?_)
                refine d_callV (As := []) (rest := []) C hM (G_begin (a0 := a0) W6 skb1 ty2  ) dX7_take_149 kV_X7_54 rfl ty2 rfl rfl (by decide) ck_8 rfl (Nat.le_of_ble_eq_true rfl) ⟨(Nat.le_of_ble_eq_true rfl), (Nat.le_of_ble_eq_true rfl)⟩ hph pl2 (show 0 + 0 = 0 from rfl) (by decide) (fun rh7 Lh7 clh7 lnh7 ivh7 rvh7 h7 => ?_)
                obtain ⟨f7, rfl, xl7, fl7, W7, rgf7, exf7⟩ := h7
                refine hv3 (F4.call Xb1 fl7 rfl) (Xb1.trans xl7) (xl7.skl skb1) (fun F5 X2 sk2 => ?_)
                refine c_st (st2 := [.int (iI f7)]) rfl ?_
                refine hv2 (xl7.ty ty2) (show ((f7 = 0 ∧ ivh7 a0 1 = ivh6 a0 1) ∨ (f7 = 1 ∧ ivh7 a0 1 = ivh6 a0 1 + 1)) ∧ ivh7 a0 2 = ivh6 a0 2 ∧ BEX Lb1 clb1 ivh6 rvb1 ivh7 rvh7 a0 f7 from exf7) (fun ty5 gf7 => ?_)
                refine hv2 (show 0 ≤ ivh7 a0 1 ∧ ivh7 a0 1 ≤ 200 from W7.int ty5 1) (show (-2147483648) ≤ ivh7 a0 2 ∧ ivh7 a0 2 ≤ 2147483647 from W7.int ty5 2) (fun ri19 ri20 => ?_)
                refine c_if_ne (tgt := 157) C (r32_pq gf7.1) dX7_take_152 (by decide) (fun c7 => ?_) (fun c7 => ?_)
                · replace gf7 := (And.intro (gf7.1.resolve_left (fun q => c7 q.1)) gf7.2)
                  refine c_iinc (z := tn) (j := 4) (lv2 := [(6, .int (iI (tn + 1))), (5, .int (iI f2)), (9, .int (iI f2)), (8, .int (iI (w1 - 0))), (7, .ref ob1), (0, .ref a0), (1, .ref a1), (2, .int (iI x)), (3, .int (iI w1)), (4, .int (iI h1))]) C dX7_take_157 rfl (by decide) rfl ?_
                  refine c_goto (tgt := 6) C dX7_take_160 (by decide) ?_
                  refine c_lv (lv2 := [(5, .int (iI f2)), (6, .int (iI (tn + 1))), (0, .ref a0), (1, .ref a1), (2, .int (iI x)), (3, .int (iI w1)), (4, .int (iI h1))]) [1, 0, 5, 6, 7, 8, 9] rfl ?_
                  exact ih1  f2 (tn + 1) _ _ _ _ _ (by omega) X2 W7 F5  (by omega) (by omega) (gf7.2.1.trans (ie19.trans (ie20.trans hb2))) (tm.go Xb1 gf7.2.2 (by omega))
                · replace gf7 := (And.intro (gf7.1.resolve_right (fun q => absurd (q.1.symm.trans c7) (by decide))) gf7.2)
                  refine c_iconst C dX7_take_155 ?_
                  have pl4 := Phi.le W7 sk2
                  exact c_zret C dX7_take_156 rfl (Or.inl rfl) (by decide) (rom0 hph pl4 (by decide)) ⟨0, rfl, X2, F5, W7, (Or.inl rfl), ⟨by omega, tm.full Xb1 gf7.2.2 (by omega) rfl⟩⟩
            · refine c_aload (j := 1) (x := ob1) C dX7_take_68 rfl ?_
              refine c_aload_n (j := 5) (x := a1) C dX7_take_70 rfl ?_
              refine c_iload (j := 2) C dX7_take_71 rfl ?_
              refine c_aload_n (j := 5) (x := a1) C dX7_take_73 rfl ?_
              refine c_get (k := 7) C ck_7 dX7_take_74 w1_148 (by decide) ty3 rfl rfl (by decide) rfl ?_
              have ri21 : 0 ≤ ivb1 ob1 2 ∧ ivb1 ob1 2 ≤ 1 := Wb1.int tob1 2
              refine d_callV (As := [.ref a1, .int (iI fr), .int (iI (ivb1 a1 7))]) (rest := []) C hM (G_addPart (a0 := ob1) (a1 := a1) (i := fr) (j := ivb1 a1 7) Wb1 skb1 tob1 ty3 (by omega) (by omega) (by show 0 ≤ fr; omega)) dX7_take_77 kV_X7_42 rfl tob1 rfl rfl (by decide) ck_3 rfl (Nat.le_of_ble_eq_true rfl) ⟨(Nat.le_of_ble_eq_true rfl), (Nat.le_of_ble_eq_true rfl)⟩ hph pl2 (show 0 + 0 = 0 from rfl) (by decide) (fun rh8 Lh8 clh8 lnh8 ivh8 rvh8 h8 => ?_)
              obtain ⟨rfl, rfl, rfl, rfl, rfl, fl8, W8, exf8⟩ := h8
              have F6 := Fb1.call Xb1 fl8 rfl
              refine c_st (st2 := []) rfl ?_
              refine hv2 (show 0 ≤ ivh8 ob1 2 ∧ ivh8 ob1 2 ≤ 1 from W8.int tob1 2) (show (LFR Lb1 clb1 ivb1 rvb1 ivh8 ob1 ∧ ivh8 ob1 2 = ivb1 ob1 2) ∧ APX ivb1 rvb1 ivh8 ob1 a1 fr (ivb1 a1 7) from exf8) (fun ri22 gf8 => ?_)
              refine c_iconst C dX7_take_80 ?_
              refine hv2 (show (-2147483648) ≤ ivh8 a0 2 ∧ ivh8 a0 2 ≤ 2147483647 from W8.int ty2 2) (show ivh8 a0 2 = ivb1 a0 2 from fl8.i ty2 rfl 2) (fun ri23 ie26 => ?_)
              exact c_zret C dX7_take_81 rfl (Or.inr rfl) (by decide) (rom0 hph pl2 (by decide)) ⟨1, rfl, Xb1, F6, W8, (Or.inr rfl), ⟨by omega, TKJ.add (x := 0) (z := w1 - 0) hT Xb1 hW Wb1 Fb1 t_a0 t_a1 gf1 gf8.1.1 fl8 gf8.1.2 gf8.2 rfl (by omega) ⟨by omega, by omega⟩ (by omega) (by omega) (Or.inl (by omega)) rfl⟩⟩
          · refine c_aload (j := 0) (x := ob1) C dX7_take_42 rfl ?_
            refine c_get (k := 1) C ck_3 dX7_take_44 w4_51 (by decide) tob1 rfl rfl (by decide) rfl ?_
            refine c_iconst C dX7_take_47 ?_
            refine c_iadd C dX7_take_48 ?_
            refine c_goto (tgt := 53) C dX7_take_49 (by decide) ?_
            refine c_isub C dX7_take_53 ?_
            refine c_istore (lv2 := [(8, .int (iI (w1 - ((ivb1 ob1 1) + 1)))), (7, .ref ob1), (5, .int (iI fr)), (6, .int (iI tn)), (0, .ref a0), (1, .ref a1), (2, .int (iI x)), (3, .int (iI w1)), (4, .int (iI h1))]) C dX7_take_54 (by decide) rfl ?_
            refine c_aload_n (j := 5) (x := a1) C dX7_take_56 rfl ?_
            refine hv2 (Xb1.ty t_a1) (show ivb1 a1 7 = iv a1 7 from Fb1.i t_a1 rfl 7) (fun ty6 ie28 => ?_)
            have ri24 : 0 ≤ ivb1 a1 7 ∧ ivb1 a1 7 ≤ 100000 := Wb1.int ty6 7
            refine c_get (k := 7) C ck_7 dX7_take_57 w1_148 (by decide) ty6 rfl rfl (by decide) rfl ?_
            refine c_iload (j := 2) C dX7_take_60 rfl ?_
            refine c_isub C dX7_take_62 ?_
            refine c_iload (j := 0) C dX7_take_63 rfl ?_
            refine c_icmp_gt (tgt := 82) C ⟨by omega, by omega⟩ ⟨by omega, by omega⟩ dX7_take_65 (by decide) (fun c8 => ?_) (fun c8 => ?_)
            · refine c_aload_n (j := 5) (x := a1) C dX7_take_82 rfl ?_
              refine c_iload_n (j := 6) C dX7_take_83 rfl ?_
              refine c_iload (j := 2) C dX7_take_84 rfl ?_
              refine c_iload (j := 0) C dX7_take_86 rfl ?_
              refine c_iconst C dX7_take_88 ?_
              refine c_isub C dX7_take_89 ?_
              refine d_callV (As := [.int (iI x), .int (iI fr), .int (iI ((w1 - ((ivb1 ob1 1) + 1)) - 1))]) (rest := []) C hM (G_lastBreak (a0 := a1) (x := x) (i := fr) (n := (w1 - ((ivb1 ob1 1) + 1)) - 1) Wb1 skb1 ty6 (by omega) (by omega) (by omega) (by show 0 ≤ fr; omega)) dX7_take_90 kV_X7_46 rfl ty6 rfl rfl (by decide) ck_7 rfl (Nat.le_of_ble_eq_true rfl) ⟨(Nat.le_of_ble_eq_true rfl), (Nat.le_of_ble_eq_true rfl)⟩ hph pl2 (show 0 + 0 = 0 from rfl) (by decide) (fun rh9 Lh9 clh9 lnh9 ivh9 rvh9 h9 => ?_)
              obtain ⟨f9, rfl, rfl, rfl, rfl, rfl, rfl, rgf9, exf9⟩ := h9
              refine c_st (st2 := [.int (iI f9)]) rfl ?_
              have gf9 : fr ≤ f9 ∧ LBX ivb1 rvb1 a1 x fr ((w1 - ((ivb1 ob1 1) + 1)) - 1) f9 := exf9
              refine c_istore (lv2 := [(9, .int (iI f9)), (8, .int (iI (w1 - ((ivb1 ob1 1) + 1)))), (7, .ref ob1), (5, .int (iI fr)), (6, .int (iI tn)), (0, .ref a0), (1, .ref a1), (2, .int (iI x)), (3, .int (iI w1)), (4, .int (iI h1))]) C dX7_take_93 (by decide) rfl ?_
              refine c_iload (j := 0) C dX7_take_95 rfl ?_
              refine c_iload (j := 3) C dX7_take_97 rfl ?_
              refine c_icmp_le (tgt := 126) C ⟨by omega, by omega⟩ (r32_c (lo := 0) (hi := 2147483647) hfr.1 hfr.2 (by decide) (by decide)) dX7_take_99 (by decide) (fun c9 => ?_) (fun c9 => ?_)
              · refine c_aload (j := 2) (x := ob1) C dX7_take_126 rfl ?_
                refine c_get (k := 1) C ck_3 dX7_take_128 w4_51 (by decide) tob1 rfl rfl (by decide) rfl ?_
                refine c_if_ne (tgt := 148) C (r32_c (lo := 0) (hi := 200) ri4.1 ri4.2 (by decide) (by decide)) dX7_take_131 (by decide) (fun _ => ?_) (fun z => absurd z (by omega))
                have tm : TKM L cl iv rv ivb1 rvb1 a0 a1 x w1 h1 fr tn := TKJ.next (m := ivb1 a1 7) (z := w1 - ((ivb1 ob1 1) + 1)) hT Xb1 hW Fb1 t_a1 gf1 rfl (by omega) ⟨by omega, by omega⟩ (by omega) (by omega) gf9.2 (by omega) (by omega)
                refine c_aload_n (j := 5) (x := a0) C dX7_take_148 rfl ?_
                have ri25 : (-2147483648) ≤ ivb1 a0 2 ∧ ivb1 a0 2 ≤ 2147483647 := Wb1.int ty2 2
                refine d_callV (As := []) (rest := []) C hM (G_begin (a0 := a0) Wb1 skb1 ty2  ) dX7_take_149 kV_X7_54 rfl ty2 rfl rfl (by decide) ck_8 rfl (Nat.le_of_ble_eq_true rfl) ⟨(Nat.le_of_ble_eq_true rfl), (Nat.le_of_ble_eq_true rfl)⟩ hph pl2 (show 0 + 0 = 0 from rfl) (by decide) (fun rh10 Lh10 clh10 lnh10 ivh10 rvh10 h10 => ?_)
                obtain ⟨f10, rfl, xl10, fl10, W10, rgf10, exf10⟩ := h10
                refine hv3 (Fb1.call Xb1 fl10 rfl) (Xb1.trans xl10) (xl10.skl skb1) (fun F7 X3 sk3 => ?_)
                refine c_st (st2 := [.int (iI f10)]) rfl ?_
                refine hv2 (xl10.ty ty2) (show ((f10 = 0 ∧ ivh10 a0 1 = ivb1 a0 1) ∨ (f10 = 1 ∧ ivh10 a0 1 = ivb1 a0 1 + 1)) ∧ ivh10 a0 2 = ivb1 a0 2 ∧ BEX Lb1 clb1 ivb1 rvb1 ivh10 rvh10 a0 f10 from exf10) (fun ty7 gf10 => ?_)
                refine hv2 (show 0 ≤ ivh10 a0 1 ∧ ivh10 a0 1 ≤ 200 from W10.int ty7 1) (show (-2147483648) ≤ ivh10 a0 2 ∧ ivh10 a0 2 ≤ 2147483647 from W10.int ty7 2) (fun ri26 ri27 => ?_)
                refine c_if_ne (tgt := 157) C (r32_pq gf10.1) dX7_take_152 (by decide) (fun c10 => ?_) (fun c10 => ?_)
                · replace gf10 := (And.intro (gf10.1.resolve_left (fun q => c10 q.1)) gf10.2)
                  refine c_iinc (z := tn) (j := 4) (lv2 := [(6, .int (iI (tn + 1))), (9, .int (iI f9)), (8, .int (iI (w1 - ((ivb1 ob1 1) + 1)))), (7, .ref ob1), (5, .int (iI fr)), (0, .ref a0), (1, .ref a1), (2, .int (iI x)), (3, .int (iI w1)), (4, .int (iI h1))]) C dX7_take_157 rfl (by decide) rfl ?_
                  refine c_goto (tgt := 6) C dX7_take_160 (by decide) ?_
                  refine c_lv (lv2 := [(5, .int (iI fr)), (6, .int (iI (tn + 1))), (0, .ref a0), (1, .ref a1), (2, .int (iI x)), (3, .int (iI w1)), (4, .int (iI h1))]) [4, 0, 5, 6, 7, 8, 9] rfl ?_
                  exact ih1  fr (tn + 1) _ _ _ _ _ (by omega) X3 W10 F7  (by omega) (by omega) (gf10.2.1.trans hb2) (tm.go Xb1 gf10.2.2 (by omega))
                · replace gf10 := (And.intro (gf10.1.resolve_right (fun q => absurd (q.1.symm.trans c10) (by decide))) gf10.2)
                  refine c_iconst C dX7_take_155 ?_
                  have pl5 := Phi.le W10 sk3
                  exact c_zret C dX7_take_156 rfl (Or.inl rfl) (by decide) (rom0 hph pl5 (by decide)) ⟨0, rfl, X3, F7, W10, (Or.inl rfl), ⟨by omega, tm.full Xb1 gf10.2.2 (by omega) rfl⟩⟩
              · refine c_aload (j := 2) (x := ob1) C dX7_take_102 rfl ?_
                refine c_aload_n (j := 6) (x := a1) C dX7_take_104 rfl ?_
                refine c_iload (j := 3) C dX7_take_105 rfl ?_
                refine c_iload (j := 0) C dX7_take_107 rfl ?_
                have ri28 : 0 ≤ ivb1 ob1 2 ∧ ivb1 ob1 2 ≤ 1 := Wb1.int tob1 2
                refine d_callV (As := [.ref a1, .int (iI fr), .int (iI f9)]) (rest := []) C hM (G_addPart (a0 := ob1) (a1 := a1) (i := fr) (j := f9) Wb1 skb1 tob1 ty6 (by omega) (by omega) (by show 0 ≤ fr; omega)) dX7_take_109 kV_X7_42 rfl tob1 rfl rfl (by decide) ck_3 rfl (Nat.le_of_ble_eq_true rfl) ⟨(Nat.le_of_ble_eq_true rfl), (Nat.le_of_ble_eq_true rfl)⟩ hph pl2 (show 0 + 0 = 0 from rfl) (by decide) (fun rh11 Lh11 clh11 lnh11 ivh11 rvh11 h11 => ?_)
                obtain ⟨rfl, rfl, rfl, rfl, rfl, fl11, W11, exf11⟩ := h11
                have F8 := Fb1.call Xb1 fl11 rfl
                refine c_st (st2 := []) rfl ?_
                refine hv2 (show 0 ≤ ivh11 ob1 2 ∧ ivh11 ob1 2 ≤ 1 from W11.int tob1 2) (show (LFR Lb1 clb1 ivb1 rvb1 ivh11 ob1 ∧ ivh11 ob1 2 = ivb1 ob1 2) ∧ APX ivb1 rvb1 ivh11 ob1 a1 fr f9 from exf11) (fun ri29 gf11 => ?_)
                refine c_aload (j := 2) (x := ob1) C dX7_take_112 rfl ?_
                refine c_iload (j := 9) C dX7_take_114 rfl ?_
                have ri30 : 0 ≤ ivh11 ob1 1 ∧ ivh11 ob1 1 ≤ 200 := W11.int tob1 1
                refine d_callV (As := [.int (iI h1)]) (rest := []) C hM (G_ladd (a0 := ob1) (x := h1) W11 skb1 tob1 (by omega) ) dX7_take_116 kV_X7_50 rfl tob1 rfl rfl (by decide) ck_3 rfl (Nat.le_of_ble_eq_true rfl) ⟨(Nat.le_of_ble_eq_true rfl), (Nat.le_of_ble_eq_true rfl)⟩ hph pl2 (show 0 + 0 = 0 from rfl) (by decide) (fun rh12 Lh12 clh12 lnh12 ivh12 rvh12 h12 => ?_)
                obtain ⟨rfl, rfl, rfl, rfl, rfl, fl12, W12, exf12⟩ := h12
                have F9 := F8.call Xb1 fl12 rfl
                refine c_st (st2 := []) rfl ?_
                refine hv3 (show 0 ≤ ivh12 ob1 1 ∧ ivh12 ob1 1 ≤ 200 from W12.int tob1 1) (show 0 ≤ ivh12 ob1 2 ∧ ivh12 ob1 2 ≤ 1 from W12.int tob1 2) (show ((ivh12 ob1 1 = ivh11 ob1 1 ∧ ivh11 ob1 1 = 200) ∨ ivh12 ob1 1 = ivh11 ob1 1 + 1) ∧ (LFR Lb1 clb1 ivh11 rvb1 ivh12 ob1 ∧ ivh12 ob1 2 = ivh11 ob1 2) ∧ LAX ivh11 rvb1 ivh12 ob1 h1 from exf12) (fun ri31 ri32 gf12 => ?_)
                refine c_iload (j := 0) C dX7_take_119 rfl ?_
                refine c_istore (lv2 := [(5, .int (iI f9)), (9, .int (iI f9)), (8, .int (iI (w1 - ((ivb1 ob1 1) + 1)))), (7, .ref ob1), (6, .int (iI tn)), (0, .ref a0), (1, .ref a1), (2, .int (iI x)), (3, .int (iI w1)), (4, .int (iI h1))]) C dX7_take_121 (by decide) rfl ?_
                refine c_goto (tgt := 148) C dX7_take_123 (by decide) ?_
                have tm : TKM L cl iv rv ivh12 rvb1 a0 a1 x w1 h1 f9 tn := TKJ.part (m := ivb1 a1 7) (z := w1 - ((ivb1 ob1 1) + 1)) hT Xb1 hW Wb1 Fb1 t_a0 t_a1 gf1 gf11.1.1 fl11 gf11.1.2 gf11.2 gf12.2.1.1 fl12 gf12.2.1.2 gf12.2.2 rfl (by omega) ⟨by omega, by omega⟩ (by omega) (by omega) (by omega) gf9.2 (by omega)
                refine c_aload_n (j := 5) (x := a0) C dX7_take_148 rfl ?_
                refine hv6 (show 0 ≤ ivh12 a0 1 ∧ ivh12 a0 1 ≤ 200 from W12.int ty2 1) (show ivh12 a0 1 = ivh11 a0 1 from fl12.i ty2 rfl 1) (show ivh11 a0 1 = ivb1 a0 1 from fl11.i ty2 rfl 1) (show (-2147483648) ≤ ivh12 a0 2 ∧ ivh12 a0 2 ≤ 2147483647 from W12.int ty2 2) (show ivh12 a0 2 = ivh11 a0 2 from fl12.i ty2 rfl 2) (show ivh11 a0 2 = ivb1 a0 2 from fl11.i ty2 rfl 2) (fun ri33 ie37 ie38 ri34 ie39 ie40 => ?_)
                refine d_callV (As := []) (rest := []) C hM (G_begin (a0 := a0) W12 skb1 ty2  ) dX7_take_149 kV_X7_54 rfl ty2 rfl rfl (by decide) ck_8 rfl (Nat.le_of_ble_eq_true rfl) ⟨(Nat.le_of_ble_eq_true rfl), (Nat.le_of_ble_eq_true rfl)⟩ hph pl2 (show 0 + 0 = 0 from rfl) (by decide) (fun rh13 Lh13 clh13 lnh13 ivh13 rvh13 h13 => ?_)
                obtain ⟨f13, rfl, xl13, fl13, W13, rgf13, exf13⟩ := h13
                refine hv3 (F9.call Xb1 fl13 rfl) (Xb1.trans xl13) (xl13.skl skb1) (fun F10 X4 sk4 => ?_)
                refine c_st (st2 := [.int (iI f13)]) rfl ?_
                refine hv2 (xl13.ty ty2) (show ((f13 = 0 ∧ ivh13 a0 1 = ivh12 a0 1) ∨ (f13 = 1 ∧ ivh13 a0 1 = ivh12 a0 1 + 1)) ∧ ivh13 a0 2 = ivh12 a0 2 ∧ BEX Lb1 clb1 ivh12 rvb1 ivh13 rvh13 a0 f13 from exf13) (fun ty8 gf13 => ?_)
                refine hv2 (show 0 ≤ ivh13 a0 1 ∧ ivh13 a0 1 ≤ 200 from W13.int ty8 1) (show (-2147483648) ≤ ivh13 a0 2 ∧ ivh13 a0 2 ≤ 2147483647 from W13.int ty8 2) (fun ri35 ri36 => ?_)
                refine c_if_ne (tgt := 157) C (r32_pq gf13.1) dX7_take_152 (by decide) (fun c11 => ?_) (fun c11 => ?_)
                · replace gf13 := (And.intro (gf13.1.resolve_left (fun q => c11 q.1)) gf13.2)
                  refine c_iinc (z := tn) (j := 4) (lv2 := [(6, .int (iI (tn + 1))), (5, .int (iI f9)), (9, .int (iI f9)), (8, .int (iI (w1 - ((ivb1 ob1 1) + 1)))), (7, .ref ob1), (0, .ref a0), (1, .ref a1), (2, .int (iI x)), (3, .int (iI w1)), (4, .int (iI h1))]) C dX7_take_157 rfl (by decide) rfl ?_
                  refine c_goto (tgt := 6) C dX7_take_160 (by decide) ?_
                  refine c_lv (lv2 := [(5, .int (iI f9)), (6, .int (iI (tn + 1))), (0, .ref a0), (1, .ref a1), (2, .int (iI x)), (3, .int (iI w1)), (4, .int (iI h1))]) [1, 0, 5, 6, 7, 8, 9] rfl ?_
                  exact ih1  f9 (tn + 1) _ _ _ _ _ (by omega) X4 W13 F10  (by omega) (by omega) (gf13.2.1.trans (ie39.trans (ie40.trans hb2))) (tm.go Xb1 gf13.2.2 (by omega))
                · replace gf13 := (And.intro (gf13.1.resolve_right (fun q => absurd (q.1.symm.trans c11) (by decide))) gf13.2)
                  refine c_iconst C dX7_take_155 ?_
                  have pl6 := Phi.le W13 sk4
                  exact c_zret C dX7_take_156 rfl (Or.inl rfl) (by decide) (rom0 hph pl6 (by decide)) ⟨0, rfl, X4, F10, W13, (Or.inl rfl), ⟨by omega, tm.full Xb1 gf13.2.2 (by omega) rfl⟩⟩
            · refine c_aload (j := 1) (x := ob1) C dX7_take_68 rfl ?_
              refine c_aload_n (j := 5) (x := a1) C dX7_take_70 rfl ?_
              refine c_iload (j := 2) C dX7_take_71 rfl ?_
              refine c_aload_n (j := 5) (x := a1) C dX7_take_73 rfl ?_
              refine c_get (k := 7) C ck_7 dX7_take_74 w1_148 (by decide) ty6 rfl rfl (by decide) rfl ?_
              have ri37 : 0 ≤ ivb1 ob1 2 ∧ ivb1 ob1 2 ≤ 1 := Wb1.int tob1 2
              refine d_callV (As := [.ref a1, .int (iI fr), .int (iI (ivb1 a1 7))]) (rest := []) C hM (G_addPart (a0 := ob1) (a1 := a1) (i := fr) (j := ivb1 a1 7) Wb1 skb1 tob1 ty6 (by omega) (by omega) (by show 0 ≤ fr; omega)) dX7_take_77 kV_X7_42 rfl tob1 rfl rfl (by decide) ck_3 rfl (Nat.le_of_ble_eq_true rfl) ⟨(Nat.le_of_ble_eq_true rfl), (Nat.le_of_ble_eq_true rfl)⟩ hph pl2 (show 0 + 0 = 0 from rfl) (by decide) (fun rh14 Lh14 clh14 lnh14 ivh14 rvh14 h14 => ?_)
              obtain ⟨rfl, rfl, rfl, rfl, rfl, fl14, W14, exf14⟩ := h14
              have F11 := Fb1.call Xb1 fl14 rfl
              refine c_st (st2 := []) rfl ?_
              refine hv2 (show 0 ≤ ivh14 ob1 2 ∧ ivh14 ob1 2 ≤ 1 from W14.int tob1 2) (show (LFR Lb1 clb1 ivb1 rvb1 ivh14 ob1 ∧ ivh14 ob1 2 = ivb1 ob1 2) ∧ APX ivb1 rvb1 ivh14 ob1 a1 fr (ivb1 a1 7) from exf14) (fun ri38 gf14 => ?_)
              refine c_iconst C dX7_take_80 ?_
              refine hv2 (show (-2147483648) ≤ ivh14 a0 2 ∧ ivh14 a0 2 ≤ 2147483647 from W14.int ty2 2) (show ivh14 a0 2 = ivb1 a0 2 from fl14.i ty2 rfl 2) (fun ri39 ie46 => ?_)
              exact c_zret C dX7_take_81 rfl (Or.inr rfl) (by decide) (rom0 hph pl2 (by decide)) ⟨1, rfl, Xb1, F11, W14, (Or.inr rfl), ⟨by omega, TKJ.add (x := 0) (z := w1 - ((ivb1 ob1 1) + 1)) hT Xb1 hW Wb1 Fb1 t_a0 t_a1 gf1 gf14.1.1 fl14 gf14.1.2 gf14.2 rfl (by omega) ⟨by omega, by omega⟩ (by omega) (by omega) (Or.inl (by omega)) rfl⟩⟩
        · subst oq1
          refine c_lv (lv2 := [(7, .null), (5, .int (iI fr)), (6, .int (iI tn)), (0, .ref a0), (1, .ref a1), (2, .int (iI x)), (3, .int (iI w1)), (4, .int (iI h1))]) [0, 1, 2, 3, 4, 5, 6, 7] rfl ?_
          refine c_st (st2 := []) rfl ?_
          refine c_iconst C dX7_take_31 ?_
          have ri40 : (-2147483648) ≤ ivb1 a0 2 ∧ ivb1 a0 2 ≤ 2147483647 := Wb1.int ty2 2
          exact c_zret C dX7_take_32 rfl (Or.inl rfl) (by decide) (rom0 hph pl2 (by decide)) ⟨0, rfl, Xb1, Fb1, Wb1, (Or.inl rfl), ⟨by omega, hT.nul gf1 rfl⟩⟩
  refine c_lv (lv2 := [(5, .int (iI 0)), (6, .int (iI 0)), (0, .ref a0), (1, .ref a1), (2, .int (iI x)), (3, .int (iI w1)), (4, .int (iI h1))]) [1, 0, 2, 3, 4, 5, 6] rfl ?_
  exact Lp1 204 0 0 _ _ _ _ _ (by omega) hX0 hW hF0  (by omega) (by omega) rfl (TKJ.zero rfl rfl)
set_option maxHeartbeats 4000000 in
set_option maxRecDepth 100000 in
theorem G_endText {l : Launch} {G : GT} {mi : Nat} {sk : Nat → Nat} {L : List Nat} {cl ln : Nat → Nat} {iv : Nat → Nat → Int} {rv : Nat → Nat → Option Nat}  {a0 : Nat} {g : Int} {w1 : Int} (hW : WT (g0 G) sk L cl ln iv rv) (hS : SKL sk L cl) (t_a0 : ty L cl a0 18) (h_g : -2147483648 ≤ g ∧ g ≤ 2147483647) (h_w1 : -2147483648 ≤ w1 ∧ w1 ≤ 2147483647) (hw : 1 ≤ w1 ∧ w1 ≤ 100) : Mc l G mi (Phi (g0 G) sk) PHM yX7_endText cX7_endText 5 none 2 [.ref a0, .int (iI g), .int (iI w1)] L cl ln iv rv 0 (fun v L2 cl2 ln2 iv2 rv2 => v = none ∧ L = L2 ∧ cl = cl2 ∧ ln = ln2 ∧ rv = rv2 ∧ fT [19, 64] L cl iv rv iv2 rv2 ∧ WT (g0 G) sk L2 cl2 ln2 iv2 rv2 ∧ (ENX L cl iv rv iv2 a0 g w1)) := by
  refine Mc.mk (by decide) (Nat.le_of_ble_eq_true rfl) ?_
  intro p e s m args below meth c A C hM
  refine hv5 (Phi.le hW hS) (show XT L cl ln L cl ln from XT.refl) (show fT [19, 64] L cl iv rv iv rv from fT.refl) (show 0 ≤ iv a0 1 ∧ iv a0 1 ≤ 200 from hW.int t_a0 1) (show (-2147483648) ≤ iv a0 2 ∧ iv a0 2 ≤ 2147483647 from hW.int t_a0 2) (fun hph hX0 hF0 ri1 ri2 => ?_)
  refine c_aload_n (j := 0) (x := a0) C dX7_endText_0 rfl ?_
  refine c_get (k := 2) C ck_8 dX7_endText_1 w2_36 (by decide) t_a0 rfl rfl (by decide) rfl ?_
  refine c_istore_n (lv2 := [(3, .int (iI (iv a0 2))), (0, .ref a0), (1, .int (iI g)), (2, .int (iI w1))]) C dX7_endText_4 (by decide) rfl ?_
  have Lp1 : ∀ (nn : Nat) (k : Int) (ivb1 : Nat → Nat → Int) , max 0 (201 - k) < (nn : Int) → WT (g0 G) sk L cl ln ivb1 rv → fT [19, 64] L cl iv rv ivb1 rv → (-2147483648 ≤ k ∧ k ≤ 2147483647) → (iv a0 2 ≤ k) → (g ≠ 0 ∨ k = iv a0 2) → (ENI L cl iv rv ivb1 a0 w1 k) → cw p l e 2 ((PHM) + 0 - ((Phi (g0 G) sk) ln rv)) s m args below meth c G A 5 (MQ below (Qu G A (Qp G (Phi (g0 G) sk) ((Phi (g0 G) sk) ln rv) 0 (fun v L2 cl2 ln2 iv2 rv2 => v = none ∧ L = L2 ∧ cl = cl2 ∧ ln = ln2 ∧ rv = rv2 ∧ fT [19, 64] L cl iv rv iv2 rv2 ∧ WT (g0 G) sk L2 cl2 ln2 iv2 rv2 ∧ (ENX L cl iv rv iv2 a0 g w1)))) args s (((PHM) + 0 - ((Phi (g0 G) sk) ln rv)) / 16) ((PHM) + 0 - ((Phi (g0 G) sk) ln rv)) A) (Phi (g0 G) sk) ((Phi (g0 G) sk) ln rv) L cl ln ivb1 rv 0 5 [(3, .int (iI k)), (0, .ref a0), (1, .int (iI g)), (2, .int (iI w1))] [] := by
    intro nn
    induction nn with
    | zero =>
      intro  k ivb1 hm Wb1 Fb1  hk hkb hgk hE
      exact absurd hm (by omega)
    | succ nn ih1 =>
      intro  k ivb1 hm Wb1 Fb1  hk hkb hgk hE
      refine c_iload_n (j := 2) C dX7_endText_5 rfl ?_
      refine c_if_eq (tgt := 49) C ⟨by omega, by omega⟩ dX7_endText_6 (by decide) (fun c1 => ?_) (fun c1 => ?_)
      · have ri3 : 0 ≤ ivb1 a0 1 ∧ ivb1 a0 1 ≤ 200 := Wb1.int t_a0 1
        refine hv3 (show ivb1 a0 1 = iv a0 1 from Fb1.i t_a0 rfl 1) (show (-2147483648) ≤ ivb1 a0 2 ∧ ivb1 a0 2 ≤ 2147483647 from Wb1.int t_a0 2) (show ivb1 a0 2 = iv a0 2 from Fb1.i t_a0 rfl 2) (fun ie1 ri4 ie2 => ?_)
        exact c_vret C dX7_endText_49 rfl (by decide) (rom0 hph hph (by decide)) ⟨rfl, rfl, rfl, rfl, rfl, Fb1, Wb1, (hE.non (by omega) (by omega))⟩
      · refine c_iload_n (j := 0) C dX7_endText_9 rfl ?_
        refine c_aload_n (j := 1) (x := a0) C dX7_endText_10 rfl ?_
        refine hv2 (show 0 ≤ ivb1 a0 1 ∧ ivb1 a0 1 ≤ 200 from Wb1.int t_a0 1) (show ivb1 a0 1 = iv a0 1 from Fb1.i t_a0 rfl 1) (fun ri5 ie3 => ?_)
        refine c_get (k := 1) C ck_8 dX7_endText_11 w2_34 (by decide) t_a0 rfl rfl (by decide) rfl ?_
        refine c_icmp_ge (tgt := 49) C (r32_c (lo := (-2147483648)) (hi := 2147483647) hk.1 hk.2 (by decide) (by decide)) (r32_c (lo := 0) (hi := 200) ri5.1 ri5.2 (by decide) (by decide)) dX7_endText_14 (by decide) (fun c2 => ?_) (fun c2 => ?_)
        · have ri6 : (-2147483648) ≤ ivb1 a0 2 ∧ ivb1 a0 2 ≤ 2147483647 := Wb1.int t_a0 2
          have ie4 : ivb1 a0 2 = iv a0 2 := Fb1.i t_a0 rfl 2
          exact c_vret C dX7_endText_49 rfl (by decide) (rom0 hph hph (by decide)) ⟨rfl, rfl, rfl, rfl, rfl, Fb1, Wb1, (hE.fin (by omega) (by omega))⟩
        · refine c_aload_n (j := 1) (x := a0) C dX7_endText_17 rfl ?_
          refine c_iload_n (j := 0) C dX7_endText_18 rfl ?_
          refine d_callV (As := [.int (iI k)]) (rest := []) C hM (G_sat (a0 := a0) (i := k) Wb1 hS t_a0 (by omega) ) dX7_endText_19 kV_X7_24 rfl t_a0 rfl rfl (by decide) ck_8 rfl (Nat.le_of_ble_eq_true rfl) ⟨(Nat.le_of_ble_eq_true rfl), (Nat.le_of_ble_eq_true rfl)⟩ hph hph (show 0 + 0 = 0 from rfl) (by decide) (fun rh1 Lh1 clh1 lnh1 ivh1 rvh1 h1 => ?_)
          obtain ⟨f1, rfl, rfl, rfl, rfl, rfl, rfl, rgf1, exf1⟩ := h1
          refine c_st (st2 := [(va_rf f1)]) rfl ?_
          have gf1 : SATX ivb1 rv a0 k f1 := exf1
          refine c_astorer (r := f1) (lv2 := [(4, (va_rf f1)), (3, .int (iI k)), (0, .ref a0), (1, .int (iI g)), (2, .int (iI w1))]) C dX7_endText_22 (by decide) rfl ?_
          refine c_aloadr (j := 0) (r := f1) C dX7_endText_24 rfl ?_
          refine c_ifnull (r := f1) (tgt := 43) C dX7_endText_26 (by decide) (fun oq1 => ?_) (fun ob1 oq1 => ?_)
          · subst oq1
            refine c_lv (lv2 := [(4, .null), (3, .int (iI k)), (0, .ref a0), (1, .int (iI g)), (2, .int (iI w1))]) [0, 1, 2, 3, 4] rfl ?_
            refine c_st (st2 := []) rfl ?_
            refine c_iinc (z := k) (j := 1) (lv2 := [(3, .int (iI (k + 1))), (4, .null), (0, .ref a0), (1, .int (iI g)), (2, .int (iI w1))]) C dX7_endText_43 rfl (by decide) rfl ?_
            refine c_goto (tgt := 5) C dX7_endText_46 (by decide) ?_
            refine hv2 (show (-2147483648) ≤ ivb1 a0 2 ∧ ivb1 a0 2 ≤ 2147483647 from Wb1.int t_a0 2) (show ivb1 a0 2 = iv a0 2 from Fb1.i t_a0 rfl 2) (fun ri7 ie5 => ?_)
            refine c_lv (lv2 := [(3, .int (iI (k + 1))), (0, .ref a0), (1, .int (iI g)), (2, .int (iI w1))]) [0, 2, 3, 4] rfl ?_
            exact ih1  (k + 1) _ (by omega) Wb1 Fb1  (by omega) (by omega) (by omega) (hE.skip gf1 (by omega))
          · subst oq1
            have tob1 := rgf1 ob1 rfl
            refine c_lv (lv2 := [(4, .ref ob1), (3, .int (iI k)), (0, .ref a0), (1, .int (iI g)), (2, .int (iI w1))]) [0, 1, 2, 3, 4] rfl ?_
            refine c_st (st2 := []) rfl ?_
            refine c_aload (j := 0) (x := ob1) C dX7_endText_29 rfl ?_
            refine c_iload_n (j := 4) C dX7_endText_31 rfl ?_
            refine c_aload (j := 0) (x := ob1) C dX7_endText_32 rfl ?_
            have ri8 : 0 ≤ ivb1 ob1 1 ∧ ivb1 ob1 1 ≤ 200 := Wb1.int tob1 1
            refine c_get (k := 1) C ck_3 dX7_endText_34 w4_51 (by decide) tob1 rfl rfl (by decide) rfl ?_
            refine c_isub C dX7_endText_37 ?_
            refine c_iconst C dX7_endText_38 ?_
            obtain ⟨zz1, rzz1, hzz1, ezz1⟩ := dv2 (x := w1 - (ivb1 ob1 1)) ⟨by omega, by omega⟩
            refine c_idiv (w := iI zz1) C dX7_endText_39 (by decide) ezz1 ?_
            have ri9 : 0 ≤ ivb1 ob1 2 ∧ ivb1 ob1 2 ≤ 1 := Wb1.int tob1 2
            refine d_callV (As := [.int (iI zz1)]) (rest := []) C hM (G_indent (a0 := ob1) (n := zz1) Wb1 hS tob1 (by omega) ) dX7_endText_40 kV_X7_58 rfl tob1 rfl rfl (by decide) ck_3 rfl (Nat.le_of_ble_eq_true rfl) ⟨(Nat.le_of_ble_eq_true rfl), (Nat.le_of_ble_eq_true rfl)⟩ hph hph (show 0 + 0 = 0 from rfl) (by decide) (fun rh2 Lh2 clh2 lnh2 ivh2 rvh2 h2 => ?_)
            obtain ⟨rfl, rfl, rfl, rfl, rfl, fl2, W2, exf2⟩ := h2
            have F1 := Fb1.call hX0 fl2 rfl
            refine c_st (st2 := []) rfl ?_
            refine hv2 (show 0 ≤ ivh2 ob1 2 ∧ ivh2 ob1 2 ≤ 1 from W2.int tob1 2) (show (LFR L cl ivb1 rv ivh2 ob1 ∧ ivh2 ob1 2 = ivb1 ob1 2) ∧ INX ivb1 rv ivh2 ob1 zz1 from exf2) (fun ri10 gf2 => ?_)
            refine c_iinc (z := k) (j := 1) (lv2 := [(3, .int (iI (k + 1))), (4, .ref ob1), (0, .ref a0), (1, .int (iI g)), (2, .int (iI w1))]) C dX7_endText_43 rfl (by decide) rfl ?_
            refine c_goto (tgt := 5) C dX7_endText_46 (by decide) ?_
            refine hv5 (show 0 ≤ ivh2 a0 1 ∧ ivh2 a0 1 ≤ 200 from W2.int t_a0 1) (show ivh2 a0 1 = ivb1 a0 1 from fl2.i t_a0 rfl 1) (show (-2147483648) ≤ ivh2 a0 2 ∧ ivh2 a0 2 ≤ 2147483647 from W2.int t_a0 2) (show ivh2 a0 2 = ivb1 a0 2 from fl2.i t_a0 rfl 2) (show ivb1 a0 2 = iv a0 2 from Fb1.i t_a0 rfl 2) (fun ri11 ie9 ri12 ie10 ie11 => ?_)
            refine c_lv (lv2 := [(3, .int (iI (k + 1))), (0, .ref a0), (1, .int (iI g)), (2, .int (iI w1))]) [0, 2, 3, 4] rfl ?_
            exact ih1  (k + 1) _ (by omega) W2 F1  (by omega) (by omega) (by omega) (hE.step Wb1 t_a0 gf1 (by omega) gf2.1.1 fl2 gf2.1.2 gf2.2 hzz1 (by omega))
  refine c_lv (lv2 := [(3, .int (iI (iv a0 2))), (0, .ref a0), (1, .int (iI g)), (2, .int (iI w1))]) [0, 1, 2, 3] rfl ?_
  exact Lp1 2147483900 (iv a0 2) _ (by omega) hW hF0  (by omega) (by omega) (by omega) (ENI.zero rfl)
end
section
def PSR (T : Nat → Int) (N : Int) (a : Nat → Nat → Int) (t wd hy : Int) (iv : Nat → Nat → Int) (rv : Nat → Nat → Option Nat) (s c : Nat) : Prop := ∃ m es D b, RNE T N m (iv c 0) es ∧ drs a t wd hy es D b ∧ DRP iv rv s D ∧ ((m = 0 ∧ iv c 1 = 0) ∨ ((m = 1 ∨ m = 2) ∧ iv c 1 ≠ 0 ∧ iv c 2 = m - 1 ∧ iv s 2 = ((b : Nat) : Int) ∧ b < D.length))
def PSV (T : Nat → Int) (N : Int) (a : Nat → Nat → Int) (t wd hy : Int) (iv : Nat → Nat → Int) (rv : Nat → Nat → Option Nat) (s c u : Nat) (cm : Int) : Prop := ∃ m es D b, drs a t wd hy es D b ∧ DRP iv rv s D ∧ ((cm = 0 ∧ RNE T N 0 (iv c 0) es ∧ N ≤ iv c 0) ∨ (cm = 1 ∧ RNE T N m (iv c 0) ((1, []) :: es) ∧ (m = 1 ∨ m = 2) ∧ iv c 1 ≠ 0 ∧ iv c 2 = m - 1) ∨ (cm = 2 ∧ (∃ w, RNE T N m (iv c 0) ((2, w) :: es) ∧ PWH iv rv u w) ∧ (m = 1 ∨ m = 2) ∧ iv c 1 ≠ 0 ∧ iv c 2 = m - 1 ∧ iv s 2 = ((b : Nat) : Int) ∧ b < D.length) ∨ (cm = 3 ∧ RNE T N 0 (iv c 0) ((if m = 2 then 4 else 3, []) :: es) ∧ (m = 1 ∨ m = 2) ∧ iv c 1 = 0 ∧ iv c 2 = m - 1 ∧ iv s 2 = ((b : Nat) : Int)))
def PHY (sk ln : Nat → Nat) (iv : Nat → Nat → Int) (rv : Nat → Nat → Option Nat) (sA sB : Nat) (wd hy : Int) (v : Nat → Int) (a : Nat → Nat → Int) : Prop := TRL sk ln iv rv v a ∧ (∀ i, a 10 i ≤ 200) ∧ (iv (sk 3) 2 = v 30 ∧ CT iv rv (sk 3) (a 29)) ∧ (wd = v 31 ∧ hy = v 33) ∧ LNK rv sB sA
def PSL (sk ln : Nat → Nat) (iv : Nat → Nat → Int) (rv : Nat → Nat → Option Nat) (iv1 : Nat → Nat → Int) (rv1 : Nat → Nat → Option Nat) (sA sB : Nat) (wd hy t wy cm : Int) : Prop := ∀ v a, PHY sk ln iv rv sA sB wd hy v a → SHK iv rv iv1 rv1 sB sA ∧ (wy = 0 → PSV (a 29) (v 30) a t wd hy iv1 rv1 sB (sk 14) (sk 15) cm) ∧ (wy ≠ 0 → BADV (a 29) (v 30) a t wd hy)
def PSQ (sk ln : Nat → Nat) (iv : Nat → Nat → Int) (rv : Nat → Nat → Option Nat) (iv1 : Nat → Nat → Int) (rv1 : Nat → Nat → Option Nat) (sA sB : Nat) (wd hy t wy ok : Int) : Prop := ∀ v a, PHY sk ln iv rv sA sB wd hy v a → SHK iv rv iv1 rv1 sB sA ∧ (wy = 0 → ok ≠ 0 → PSR (a 29) (v 30) a t wd hy iv1 rv1 sB (sk 14)) ∧ (wy ≠ 0 ∨ ok = 0 → BADV (a 29) (v 30) a t wd hy)
def PBX (iv : Nat → Nat → Int) (rv rv2 : Nat → Nat → Option Nat) (h0 : Nat) (f : Int) : Prop := ∀ sA sB, rv h0 9 = some sA → rv h0 10 = some sB → rv2 h0 9 = some sB ∧ rv2 h0 10 = some sA ∧ f = iv sB 1
def PSX (sk ln : Nat → Nat) (iv : Nat → Nat → Int) (rv : Nat → Nat → Option Nat) (iv2 : Nat → Nat → Int) (rv2 : Nat → Nat → Option Nat) (h0 : Nat) (wd hy t f : Int) : Prop := ∀ sA sB, rv h0 9 = some sA → rv h0 10 = some sB → ∀ v a, PHY sk ln iv rv sA sB wd hy v a → (SETN v a t f ∧ rv2 h0 9 = some sA ∧ rv2 h0 10 = some sB ∧ SHK iv rv iv2 rv2 sB sA) ∨ ∃ D, SETD v a t f D ∧ rv2 h0 9 = some sB ∧ rv2 h0 10 = some sA ∧ LNK rv2 sA sB ∧ DRP iv2 rv2 sB D
section EROW
variable {h : Nat} {sk : Nat → Nat} {L L1 L2 : List Nat} {cl ln cl1 ln1 cl2 ln2 : Nat → Nat} {iv iv0 iv1 iv2 iv3 : Nat → Nat → Int} {rv rv0 rv1 rv2 rv3 : Nat → Nat → Option Nat} {s s2 c u q tb sA sB h0 : Nat} {v : Nat → Int} {a : Nat → Nat → Int} {T : Nat → Int} {N t wd hy cm f f2 wy ok x kd : Int} {ls : List Nat}
theorem SHK.frm (hK : SHK iv rv iv1 rv1 s s2) (hW : WT h sk L1 cl1 ln1 iv1 rv1) (ts : ty L1 cl1 s 18) (ts2 : ty L1 cl1 s2 18) (hF : fT ls L1 cl1 iv1 rv1 iv2 rv2) (a18 : ls.contains 18 = false) (a19 : ls.contains 19 = false) (a64 : ls.contains 64 = false) (a67 : ls.contains 67 = false) : SHK iv rv iv2 rv2 s s2 := hK.trans ⟨hK.1.frm hW ts ts2 hF a18 a19 a67, SAM.frm hW ts2 hF a18 a19 a64 a67, funext fun j => hF.r ts a18 j⟩
theorem DRP.frm {D : List (List Int)} (hD : DRP iv rv s D) (hW : WT h sk L cl ln iv rv) (ts : ty L cl s 18) (hF : fT ls L cl iv rv iv2 rv2) (a18 : ls.contains 18 = false) (a19 : ls.contains 19 = false) (a64 : ls.contains 64 = false) (a67 : ls.contains 67 = false) : DRP iv2 rv2 s D := hD.sam (SAM.frm hW ts hF a18 a19 a64 a67)
theorem PSR.init (h1 : iv s 1 = 0) (c0 : iv c 0 = 0) (c1 : iv c 1 = 0) : PSR T N a t wd hy iv rv s c := ⟨0, [], [], 0, by rw [c0]; exact RNE.zero, ⟨rfl, rfl⟩, ⟨h1, fun l xs e => by simp at e⟩, Or.inl ⟨rfl, c1⟩⟩
theorem PSR.step (hR : PSR T N a t wd hy iv rv s c) (hW : WT h sk L cl ln iv rv) (ts : ty L cl s 18) (hF : fT [14, 15, 50, 51, 52] L cl iv rv iv2 rv) (st : STP iv rv iv2 q c u f) (hc : CT iv rv q T) (hN : iv q 2 = N) : PSV T N a t wd hy iv2 rv s c u f := by
  obtain ⟨m, es, D, b, h1, h2, h3, h4⟩ := hR
  refine hv2 (h3.frm hW ts hF rfl rfl rfl rfl) (show iv2 s 2 = iv s 2 from hF.i ts rfl 2) (fun h5 s2 => ?_)
  obtain ⟨g1, g2⟩ := st T hc
  rw [hN] at g1 g2
  rcases h4 with ⟨e0, e1⟩ | ⟨e0, e1, e2, e3, e4⟩
  · subst e0
    rcases g1 e1 with ⟨k1, k2, k3, k4⟩ | ⟨k1, k2, k3, k4⟩
    · exact ⟨0, es, D, b, h2, h5, Or.inl ⟨k2, by rw [k3]; exact h1, by rw [k3]; exact k1⟩⟩
    · rcases k4 with ⟨j1, j2, j3⟩ | ⟨j1, j2, j3⟩
      · exact ⟨2, es, D, b, h2, h5, Or.inr (Or.inl ⟨k2, h1.enter k1 (Or.inl ⟨j1, j2, rfl⟩), Or.inr rfl, by omega, by omega⟩)⟩
      · exact ⟨1, es, D, b, h2, h5, Or.inr (Or.inl ⟨k2, h1.enter k1 (Or.inr ⟨j1, j2, rfl⟩), Or.inl rfl, by omega, by omega⟩)⟩
  · obtain ⟨P, w, p0, p1, p2, p3⟩ := g2 e1
    rcases p3 with ⟨k1, k2, k3, k4, k5⟩ | ⟨k1, k2, k3, k4⟩
    · exact ⟨m, es, D, b, h2, h5, Or.inr (Or.inr (Or.inl ⟨k2, ⟨w, by rw [k3]; exact h1.word (by omega) p1 p0 k1, k5⟩, e0, by omega, by omega, by omega, e4⟩))⟩
    · exact ⟨m, es, D, b, h2, h5, Or.inr (Or.inr (Or.inr ⟨k2, by rw [k3]; exact h1.line (by omega) p1 p0 k1, e0, k4, by omega, by omega⟩))⟩
theorem PSV.begin (hV : PSV T N a t wd hy iv rv s c u cm) (hcm : cm = 1) (hT : TBL v a) (ht : 0 ≤ t ∧ t < v 4) (ts2 : ty L cl s2 18) (hK : LNK rv s s2) (hB : BTX L cl iv rv iv2 rv2 s f) (c0 : iv2 c 0 = iv c 0) (c1 : iv2 c 1 = iv c 1) (c2 : iv2 c 2 = iv c 2) : (f = 1 → PSR T N a t wd hy iv2 rv2 s c) ∧ (f ≠ 1 → BADV T N a t wd hy) := by
  obtain ⟨m, es, D, b, h2, h3, h4⟩ := hV
  rcases h4 with ⟨e, _⟩ | ⟨_, e1, e2, e3, e4⟩ | ⟨e, _⟩ | ⟨e, _⟩
  · omega
  · obtain ⟨k1, k2⟩ := (hB s2 ts2 hK).2 D h3
    refine ⟨fun e => ?_, fun e => ?_⟩
    · obtain ⟨j1, j2, j3⟩ := k1 e
      exact ⟨m, (1, []) :: es, D ++ [[]], D.length, by rw [c0]; exact e1, ⟨D, b, h2, Or.inl ⟨rfl, j1, rfl, rfl⟩⟩, j2, Or.inr ⟨e2, by omega, by omega, j3, by rw [len1]; omega⟩⟩
    · have j := k2 e
      refine ⟨m, _, _, e1, fun ⟨D2, b2, D0, b0, g1, g2⟩ => ?_⟩
      obtain ⟨q1, _⟩ := drs.uni hT ht es D0 D b0 b g1 h2
      subst q1
      rcases g2 with ⟨_, q2, _⟩ | ⟨q1, _⟩ | ⟨q1, _⟩ | ⟨q1, _⟩
      · omega
      · exact absurd q1 (by decide)
      · exact absurd q1 (by decide)
      · exact absurd q1 (by decide)
  · omega
  · omega
theorem PSV.ends (hV : PSV T N a t wd hy iv rv s c u cm) (hcm : cm = 3) (ts2 : ty L cl s2 18) (hK : LNK rv s s2) (hE : ENX L cl iv rv iv2 s x wd) (hx : x = iv c 2) (c0 : iv2 c 0 = iv c 0) (c1 : iv2 c 1 = iv c 1) : PSR T N a t wd hy iv2 rv s c := by
  obtain ⟨m, es, D, b, h2, h3, h4⟩ := hV
  rcases h4 with ⟨e, _⟩ | ⟨e, _⟩ | ⟨e, _⟩ | ⟨_, e1, e2, e3, e4, e5⟩
  · omega
  · omega
  · omega
  · obtain ⟨k1, k2⟩ := (hE s2 ts2 hK).2 D h3
    by_cases c3 : m = 2
    · rw [if_pos c3] at e1
      have j := k2 (by omega) (by omega)
      rw [show (iv s 2).toNat = b by omega] at j
      exact ⟨0, (4, []) :: es, cnl wd b D, b, by rw [c0]; exact e1, ⟨D, b, h2, Or.inr (Or.inr (Or.inr ⟨rfl, rfl, rfl⟩))⟩, j, Or.inl ⟨rfl, by omega⟩⟩
    · rw [if_neg c3] at e1
      exact ⟨0, (3, []) :: es, D, b, by rw [c0]; exact e1, ⟨D, b, h2, Or.inr (Or.inr (Or.inl ⟨rfl, rfl, rfl⟩))⟩, k1 (by omega), Or.inl ⟨rfl, by omega⟩⟩
theorem WSS.mk {w : List (Int × Nat × Int)} {cs : List Int} (hS : SW0 a (lts w) ((w.length : Nat) : Int) t cs) (hl : cs.length ≤ 200) (hF : STF iv rv u a (lts w) ((w.length : Nat) : Int) t cs) : ∃ st, WSS a t w cs st ∧ (a 6 t.toNat ≠ 5 → w.length ≤ 500 → SBG iv rv u w.length st) := by
  have ws : WST a t w cs := SWC.iff0.mpr ⟨hS, hl⟩
  by_cases c5 : a 6 t.toNat = 5
  · exact ⟨fun _ => -1, ⟨ws, fun e => absurd c5 e, fun _ => rfl⟩, fun e => absurd c5 e⟩
  · obtain ⟨ps, ⟨y, k1, k2⟩, k3, k4⟩ := hF c5
    refine ⟨fun j => bgn ps 0 j (-1), ⟨ws, fun _ => ⟨ps, ⟨⟨y, k1, k2⟩, by rw [k3] at hl; omega⟩, k3, rfl⟩, fun e => absurd e c5⟩, fun _ hw sb hb j hj => ?_⟩
    exact k4 sb hb j (by omega) (by omega) (by omega)
theorem PSV.bad (hV : PSV T N a t wd hy iv rv s c u cm) (hcm : cm = 2) (hR : TRL sk ln iv rv v a) (hW : WT h sk L cl ln iv rv) (tu : ty L cl u 15) (ht : 0 ≤ t ∧ t < v 4) (he : el rv (sk 22) t.toNat = some tb) (sb : SBX sk ln iv rv iv2 u tb f) (hf : f ≠ 0) : BADV T N a t wd hy := by
  obtain ⟨m, es, D, b, h2, h3, h4⟩ := hV
  rcases h4 with ⟨e, _⟩ | ⟨e, _⟩ | ⟨_, ⟨w, e1, e2⟩, e3, e4, e5, e6, e7⟩ | ⟨e, _⟩
  · omega
  · omega
  · have et : ((t.toNat : Nat) : Int) = t := Int.toNat_of_nonneg ht.1
    have cb : CTB sk ln iv rv u tb v a (lts w) t.toNat := ⟨hR, by omega, he, e2.ltw hW tu⟩
    have s2 := (sb v a (lts w) t.toNat cb).2 hf
    rw [et, e2.1] at s2
    refine ⟨m, _, _, e1, fun ⟨D2, b2, D0, b0, _, g2⟩ => ?_⟩
    rcases g2 with ⟨q1, _⟩ | ⟨_, ⟨D1, x1, cs, st, _, j4, _⟩, _⟩ | ⟨q1, _⟩ | ⟨q1, _⟩
    · exact absurd (show (2 : Int) = 1 from q1) (by decide)
    · exact s2 ⟨cs, (SWC.iff0.mp j4.1).1, (SWC.iff0.mp j4.1).2⟩
    · exact absurd (show (2 : Int) = 3 from q1) (by decide)
    · exact absurd (show (2 : Int) = 4 from q1) (by decide)
  · omega
theorem PSV.word (hV : PSV T N a t wd hy iv rv s c u cm) (hcm : cm = 2) (hR : TRL sk ln iv rv v a) (h10 : ∀ i, a 10 i ≤ 200) (hW : WT h sk L cl ln iv rv) (hW2 : WT h sk L cl ln iv2 rv) (tu : ty L cl u 15) (ts : ty L cl s 18) (ts2 : ty L cl s2 18) (hK : LNK rv s s2) (ht : 0 ≤ t ∧ t < v 4) (he : el rv (sk 22) t.toNat = some tb) (sb : SBX sk ln iv rv iv2 u tb f) (hf : f = 0) (hF : fT [15, 53, 54, 55] L cl iv rv iv2 rv) (h4u : iv2 u 4 = iv u 4) (hkd : kd = iv tb 0) (tk : TKE L cl iv2 rv iv3 rv3 s u kd wd hy f2) (s32 : iv3 s 2 = iv2 s 2) (c0 : iv3 c 0 = iv c 0) (c1 : iv3 c 1 = iv c 1) (c2 : iv3 c 2 = iv c 2) : (f2 = 1 → PSR T N a t wd hy iv3 rv3 s c) ∧ (f2 ≠ 1 → BADV T N a t wd hy) := by
  obtain ⟨m, es, D, b, h2, h3, h4⟩ := hV
  rcases h4 with ⟨e, _⟩ | ⟨e, _⟩ | ⟨_, ⟨w, e1, e2⟩, e3, e4, e5, e6, e7⟩ | ⟨e, _⟩
  · omega
  · omega
  · have et : ((t.toNat : Nat) : Int) = t := Int.toNat_of_nonneg ht.1
    have cb : CTB sk ln iv rv u tb v a (lts w) t.toNat := ⟨hR, by omega, he, e2.ltw hW tu⟩
    have s1 := (sb v a (lts w) t.toNat cb).1 hf
    rw [et, e2.1] at s1
    obtain ⟨cs, q1, q2, q3, q4⟩ := s1
    obtain ⟨st, w1, w2⟩ := WSS.mk q1 q2 q4
    refine hv4 (hR.2.2.1) (show kd = a 6 t.toNat from hkd.trans cb.kind) (show iv u 4 ≤ 500 from (hW.int tu 4).2) (e2.1) (fun hT ek u500 ew => ?_)
    have lt : ∀ j, st j < ((cs.length : Nat) : Int) := fun j => by
      by_cases c5 : a 6 t.toNat = 5
      · rw [w1.2.2 c5]
        show (-1 : Int) < _
        omega
      · exact w1.lt hT hR.v30 h10 ht c5 j
    have tc : TKC iv2 rv u kd w cs st := ⟨e2.ni hW hF tu h4u rfl rfl rfl, q3, q2, fun ck => ⟨w2 (by omega) (by omega), fun i j hij g1 g2 => w1.mono hT hR.v30 h10 ht (by omega) hij g1 g2⟩, lt⟩
    obtain ⟨D1, x1, eD⟩ := snocx D (by omega)
    have h3' : DRP iv2 rv s (D1 ++ [x1]) := by
      rw [← eD]
      exact h3.frm hW ts hF rfl rfl rfl rfl
    obtain ⟨F1, F2⟩ := (tk s2 ts2 hK).2 D1 x1 cs w st h3' tc
    have eV : TKV kd wd hy w cs st 201 0 D1 x1 = flw (brk a t w st) wd hy cs 201 0 D1 x1 := by
      unfold TKV brk
      rw [ek]
    rw [eV] at F1 F2
    have es2 : iv2 s 2 = iv s 2 := hF.i ts rfl 2
    refine ⟨fun k => ?_, fun k => ?_⟩
    · obtain ⟨D2, g1, g2⟩ := F1 k
      refine hv2 (flw_len _ _ _ _ _ g1) (congrArg List.length eD) (fun gl el_ => ?_)
      rw [len1] at el_
      exact ⟨m, (2, w) :: es, D2, b, by rw [c0]; exact e1, ⟨D, b, h2, Or.inr (Or.inl ⟨rfl, ⟨D1, x1, cs, st, eD, w1, g1⟩, rfl⟩)⟩, g2, Or.inr ⟨e3, by omega, by omega, by omega, by omega⟩⟩
    · have g1 := F2 k
      refine ⟨m, _, _, e1, fun ⟨D2, b2, D0, b0, j1, j2⟩ => ?_⟩
      obtain ⟨i1, _⟩ := drs.uni hT ht es D0 D b0 b j1 h2
      subst i1
      rcases j2 with ⟨k1, _⟩ | ⟨_, ⟨D3, x3, ds, s3, j3, j4, j5⟩, _⟩ | ⟨k1, _⟩ | ⟨k1, _⟩
      · exact absurd (show (2 : Int) = 1 from k1) (by decide)
      · obtain ⟨i1, i2⟩ := app_inj (eD.symm.trans j3)
        obtain ⟨i3, i4⟩ := WSS.uni hT ht w1 j4
        subst i1
        subst i2
        subst i3
        subst i4
        rw [g1] at j5
        cases j5
      · exact absurd (show (2 : Int) = 3 from k1) (by decide)
      · exact absurd (show (2 : Int) = 4 from k1) (by decide)
  · omega
theorem WOX.mv (wo : WOX sk ln iv rv t (some tb)) (hR : TRL sk ln iv rv v a) (hQ : QT h sk L cl ln iv rv L1 cl1 ln1 iv1 rv1) : (0 ≤ t ∧ t < v 4) ∧ el rv1 (sk 22) t.toNat = some tb := by
  obtain ⟨o1, o2, _⟩ := wo.smt hR
  have e := hQ.2.2.2.1.2.2.1.1 t.toNat (by have q := hR.1.1; omega)
  exact ⟨o1, by rw [e]; exact o2⟩
theorem WOX.whl (wo : WOX sk ln iv rv t (some tb)) (hR : TRL sk ln iv rv v a) : (0 ≤ t ∧ t < v 4) ∧ WHL v a t := ⟨(wo.smt hR).1, (wo.smt hR).2.2⟩
theorem PSL.init (hW : WT h sk L cl ln iv rv) (tB : ty L cl sB 18) (tA : ty L cl sA 18) (e1 : iv1 = up2 iv sB 1 0) (hW1 : WT h sk L cl ln iv1 rv) (hF1 : fT [14] L cl iv1 rv iv2 rv) (hW2 : WT h sk L cl ln iv2 rv) (z0 : iv2 (sk 14) 0 = 0) (z1 : iv2 (sk 14) 1 = 0) (hF2 : fT [14, 15, 50, 51, 52] L cl iv2 rv iv3 rv) (hFF : fT ls L cl iv rv iv2 rv) (a3 : ls.contains 3 = false) (a33 : ls.contains 33 = false) (t3 : ty L cl (sk 3) 3) (st : STP iv2 rv iv3 (sk 3) (sk 14) (sk 15) f) (hw : wy = 0) : PSL sk ln iv rv iv3 rv sA sB wd hy t wy f := fun v a hP => by
  obtain ⟨p1, p2, ⟨p3, p4⟩, p5, p6⟩ := hP
  refine hv2 (show SHK iv rv iv1 rv sB sA from (SHK.refl p6).up tB tA hW e1) (show PSR (a 29) (v 30) a t wd hy iv2 rv sB (sk 14) from PSR.init (by rw [hF1.i tB rfl 1, e1, up2_s]) z0 z1) (fun k1 r0 => ?_)
  have k2 := k1.frm hW1 tB tA hF1 rfl rfl rfl rfl
  refine ⟨k2.frm hW2 tB tA hF2 rfl rfl rfl rfl, fun _ => r0.step hW2 tB hF2 st (CT.frn p4 hW2 t3 hFF a3 a33 rfl rfl rfl) ((hFF.i t3 a3 2).trans p3), fun e => absurd hw e⟩
theorem PSL.beg (hL : PSL sk ln iv rv iv1 rv1 sA sB wd hy t wy cm) (hw : wy = 0) (hcm : cm = 1) (wo : WOX sk ln iv rv t (some tb)) (tA : ty L1 cl1 sA 18) (hB : BTX L1 cl1 iv1 rv1 iv2 rv2 sB f) (c0 : iv2 (sk 14) 0 = iv1 (sk 14) 0) (c1 : iv2 (sk 14) 1 = iv1 (sk 14) 1) (c2 : iv2 (sk 14) 2 = iv1 (sk 14) 2) (hf : f = 0 ∨ f = 1) : PSQ sk ln iv rv iv2 rv2 sA sB wd hy t wy f := fun v a hP => by
  obtain ⟨g1, g2, _⟩ := hL v a hP
  obtain ⟨o1, _⟩ := wo.whl hP.1
  obtain ⟨k1, k2⟩ := (g2 hw).begin hcm hP.1.2.2.1 o1 tA g1.1 hB c0 c1 c2
  exact ⟨g1.trans (hB sA tA g1.1).1, fun _ e => k1 (by omega), fun e => k2 (by omega)⟩
theorem PSL.end_ (hL : PSL sk ln iv rv iv1 rv1 sA sB wd hy t wy cm) (hw : wy = 0) (hcm : cm = 3) (tA : ty L1 cl1 sA 18) (hE : ENX L1 cl1 iv1 rv1 iv2 sB x wd) (hx : x = iv1 (sk 14) 2) (c0 : iv2 (sk 14) 0 = iv1 (sk 14) 0) (c1 : iv2 (sk 14) 1 = iv1 (sk 14) 1) (hk : ok = 1) : PSQ sk ln iv rv iv2 rv1 sA sB wd hy t wy ok := fun v a hP => by
  obtain ⟨g1, g2, _⟩ := hL v a hP
  exact ⟨g1.trans (hE sA tA g1.1).1, fun _ _ => (g2 hw).ends hcm tA g1.1 hE hx c0 c1, fun e => absurd e (by omega)⟩
theorem PSL.bad (hL : PSL sk ln iv rv iv1 rv1 sA sB wd hy t wy cm) (hw : wy = 0) (hcm : cm = 2) (hQ : QT h sk L cl ln iv rv L1 cl1 ln1 iv1 rv1) (wo : WOX sk ln iv rv t (some tb)) (hW1 : WT h sk L1 cl1 ln1 iv1 rv1) (tu : ty L1 cl1 (sk 15) 15) (tB : ty L1 cl1 sB 18) (tA : ty L1 cl1 sA 18) (sb : SBX sk ln1 iv1 rv1 iv2 (sk 15) tb f) (hf : f ≠ 0) (hF : fT [15, 53, 54, 55] L1 cl1 iv1 rv1 iv2 rv1) : PSQ sk ln iv rv iv2 rv1 sA sB wd hy t f ok := fun v a hP => by
  obtain ⟨g1, g2, _⟩ := hL v a hP
  have hR := hP.1.qq hQ
  obtain ⟨o1, o2⟩ := wo.mv hP.1 hQ
  have k := (g2 hw).bad hcm hR hW1 tu o1 o2 sb hf
  exact ⟨g1.frm hW1 tB tA hF rfl rfl rfl rfl, fun e => absurd e hf, fun _ => k⟩
theorem PSL.word (hL : PSL sk ln iv rv iv1 rv1 sA sB wd hy t wy cm) (hw : wy = 0) (hcm : cm = 2) (hQ : QT h sk L cl ln iv rv L1 cl1 ln1 iv1 rv1) (wo : WOX sk ln iv rv t (some tb)) (hW1 : WT h sk L1 cl1 ln1 iv1 rv1) (hW2 : WT h sk L1 cl1 ln1 iv2 rv1) (tu : ty L1 cl1 (sk 15) 15) (tB : ty L1 cl1 sB 18) (tA : ty L1 cl1 sA 18) (sb : SBX sk ln1 iv1 rv1 iv2 (sk 15) tb f) (hf : f = 0) (hF : fT [15, 53, 54, 55] L1 cl1 iv1 rv1 iv2 rv1) (h4u : iv2 (sk 15) 4 = iv1 (sk 15) 4) (hkd : kd = iv1 tb 0) (tk : TKE L1 cl1 iv2 rv1 iv3 rv3 sB (sk 15) kd wd hy f2) (s32 : iv3 sB 2 = iv2 sB 2) (c0 : iv3 (sk 14) 0 = iv1 (sk 14) 0) (c1 : iv3 (sk 14) 1 = iv1 (sk 14) 1) (c2 : iv3 (sk 14) 2 = iv1 (sk 14) 2) (hk : (f2 = 0 ∧ ok = 0) ∨ (f2 = 1 ∧ ok = 1)) : PSQ sk ln iv rv iv3 rv3 sA sB wd hy t f ok := fun v a hP => by
  obtain ⟨g1, g2, _⟩ := hL v a hP
  have hR := hP.1.qq hQ
  obtain ⟨o1, o2⟩ := wo.mv hP.1 hQ
  have g3 := g1.frm hW1 tB tA hF rfl rfl rfl rfl
  obtain ⟨k1, k2⟩ := (g2 hw).word hcm hR hP.2.1 hW1 hW2 tu tB tA g1.1 o1 o2 sb hf hF h4u hkd tk s32 c0 c1 c2
  exact ⟨g3.trans (tk sA tA g3.1).1, fun _ e => k1 (by omega), fun e => k2 (by omega)⟩
theorem PSQ.nor (hL : PSQ sk ln iv rv iv1 rv1 sA sB wd hy t wy ok) (hk : ok = 0) (hw : x ≠ 0) : PSL sk ln iv rv iv1 rv1 sA sB wd hy t x cm := fun v a hP => by
  obtain ⟨g1, _, g3⟩ := hL v a hP
  exact ⟨g1, fun e => absurd e hw, fun _ => g3 (Or.inr hk)⟩
theorem PSQ.stop (hL : PSQ sk ln iv rv iv1 rv1 sA sB wd hy t wy ok) (hw : wy ≠ 0) : PSL sk ln iv rv iv1 rv1 sA sB wd hy t wy cm := fun v a hP => by
  obtain ⟨g1, _, g3⟩ := hL v a hP
  exact ⟨g1, fun e => absurd e hw, fun _ => g3 (Or.inl hw)⟩
theorem PSQ.next (hL : PSQ sk ln iv rv iv1 rv1 sA sB wd hy t wy ok) (hw : wy = 0) (hk : ok ≠ 0) (hW : WT h sk L cl ln iv rv) (hX : XT L cl ln L1 cl1 ln1) (hFF : fT ls L cl iv rv iv1 rv1) (a3 : ls.contains 3 = false) (a33 : ls.contains 33 = false) (t3 : ty L cl (sk 3) 3) (hW1 : WT h sk L1 cl1 ln1 iv1 rv1) (tB : ty L1 cl1 sB 18) (tA : ty L1 cl1 sA 18) (hF : fT [14, 15, 50, 51, 52] L1 cl1 iv1 rv1 iv2 rv1) (st : STP iv1 rv1 iv2 (sk 3) (sk 14) (sk 15) f) : PSL sk ln iv rv iv2 rv1 sA sB wd hy t wy f := fun v a hP => by
  obtain ⟨g1, g2, _⟩ := hL v a hP
  obtain ⟨_, _, ⟨p3, p4⟩, _⟩ := hP
  exact ⟨g1.frm hW1 tB tA hF rfl rfl rfl rfl, fun _ => (g2 hw hk).step hW1 tB hF st (CT.fr p4 hW t3 hFF a3 a33 rfl rfl rfl) ((hFF.i t3 a3 2).trans p3), fun e => absurd hw e⟩
theorem PSX.n1 (wo : WOX sk ln iv rv t none) (hW : WT h sk L cl ln iv rv) (tB : ty L cl sB 18) (tA : ty L cl sA 18) (hA : rv h0 9 = some sA) (hB : rv h0 10 = some sB) (hF : fT ls L cl iv rv iv2 rv) (a18 : ls.contains 18 = false) (a19 : ls.contains 19 = false) (a64 : ls.contains 64 = false) (a67 : ls.contains 67 = false) (hf : f = -1) : PSX sk ln iv rv iv2 rv h0 wd hy t f := fun sA' sB' e1 e2 v a hP => by
  rw [hA] at e1; cases e1
  rw [hB] at e2; cases e2
  refine Or.inl ⟨⟨hf, Or.inl (fun g => ?_)⟩, hA, hB, (SHK.refl hP.2.2.2.2).frm hW tB tA hF a18 a19 a64 a67⟩
  rcases wo v a hP.1 with ⟨_, k⟩ | ⟨b, k, _⟩
  · exact k g
  · cases k
theorem PSX.n2 (hL : PSL sk ln iv rv iv1 rv1 sA sB wd hy t wy cm) (hw : wy ≠ 0) (wo : WOX sk ln iv rv t (some tb)) (hA : rv h0 9 = some sA) (hB : rv h0 10 = some sB) (hA2 : rv1 h0 9 = some sA) (hB2 : rv1 h0 10 = some sB) (hW1 : WT h sk L1 cl1 ln1 iv1 rv1) (tB : ty L1 cl1 sB 18) (tA : ty L1 cl1 sA 18) (hF : fT ls L1 cl1 iv1 rv1 iv2 rv1) (a18 : ls.contains 18 = false) (a19 : ls.contains 19 = false) (a64 : ls.contains 64 = false) (a67 : ls.contains 67 = false) (hf : f = -1) : PSX sk ln iv rv iv2 rv1 h0 wd hy t f := fun sA' sB' e1 e2 v a hP => by
  rw [hA] at e1; cases e1
  rw [hB] at e2; cases e2
  obtain ⟨g1, _, g3⟩ := hL v a hP
  have b := g3 hw
  rw [hP.2.2.2.1.1, hP.2.2.2.1.2] at b
  exact Or.inl ⟨⟨hf, Or.inr ⟨(wo.whl hP.1).2, b⟩⟩, hA2, hB2, g1.frm hW1 tB tA hF a18 a19 a64 a67⟩
theorem PSX.yes (hL : PSL sk ln iv rv iv1 rv1 sA sB wd hy t wy cm) (hw : wy = 0) (hcm : cm = 0) (wo : WOX sk ln iv rv t (some tb)) (hA : rv h0 9 = some sA) (hB : rv h0 10 = some sB) (hA2 : rv2 h0 9 = some sB) (hB2 : rv2 h0 10 = some sA) (hW1 : WT h sk L1 cl1 ln1 iv1 rv1) (tB : ty L1 cl1 sB 18) (tA : ty L1 cl1 sA 18) (hF : fT ls L1 cl1 iv1 rv1 iv2 rv2) (a18 : ls.contains 18 = false) (a19 : ls.contains 19 = false) (a64 : ls.contains 64 = false) (a67 : ls.contains 67 = false) (hf : f = iv1 sB 1) : PSX sk ln iv rv iv2 rv2 h0 wd hy t f := fun sA' sB' e1 e2 v a hP => by
  rw [hA] at e1; cases e1
  rw [hB] at e2; cases e2
  obtain ⟨g1, g2, _⟩ := hL v a hP
  obtain ⟨m, es, D, b, k1, k2, k3⟩ := g2 hw
  rcases k3 with ⟨_, k4, k5⟩ | ⟨e, _⟩ | ⟨e, _⟩ | ⟨e, _⟩
  · rw [hP.2.2.2.1.1, hP.2.2.2.1.2] at k1
    refine Or.inr ⟨D, ⟨(wo.whl hP.1).2, es, b, ⟨_, k4, k5⟩, k1, ?_⟩, hA2, hB2, (g1.1.frm hW1 tB tA hF a18 a19 a67).sym, k2.frm hW1 tB hF a18 a19 a64 a67⟩
    rw [hf]
    exact k2.1
  · omega
  · omega
  · omega
end EROW
end
section
set_option maxHeartbeats 4000000 in
set_option maxRecDepth 100000 in
theorem G_sclear {l : Launch} {G : GT} {mi : Nat} {sk : Nat → Nat} {L : List Nat} {cl ln : Nat → Nat} {iv : Nat → Nat → Int} {rv : Nat → Nat → Option Nat}  {a0 : Nat} (hW : WT (g0 G) sk L cl ln iv rv) (hS : SKL sk L cl) (t_a0 : ty L cl a0 18)  : Mc l G mi (Phi (g0 G) sk) PHM yX7_clear cX7_clear 1 none 0 [.ref a0] L cl ln iv rv 0 (fun v L2 cl2 ln2 iv2 rv2 => v = none ∧ L = L2 ∧ cl = cl2 ∧ ln = ln2 ∧ rv = rv2 ∧ fT [18] L cl iv rv iv2 rv2 ∧ WT (g0 G) sk L2 cl2 ln2 iv2 rv2 ∧ (iv2 = up2 iv a0 1 0)) := by
  refine Mc.mk (by decide) (Nat.le_of_ble_eq_true rfl) ?_
  intro p e s m args below meth c A C hM
  refine hv3 (Phi.le hW hS) (show XT L cl ln L cl ln from XT.refl) (show fT [18] L cl iv rv iv rv from fT.refl) (fun hph hX0 hF0 => ?_)
  refine c_aload_n (j := 0) (x := a0) C dX7_clear_0 rfl ?_
  refine c_iconst C dX7_clear_1 ?_
  refine c_put (z := 0) (k := 1) C ck_8 dX7_clear_2 w2_34 (by decide) rfl t_a0 rfl rfl (by decide) rfl (by rfl) (by rfl) (fun iv1 pq1 => ?_)
  refine hv2 (hW.puti pq1 t_a0 ⟨by decide, by decide⟩ rfl) (hF0.puti hX0 pq1 t_a0 rfl) (fun W1 F1 => ?_)
  exact c_vret C dX7_clear_5 rfl (by decide) (rom0 hph hph (by decide)) ⟨rfl, rfl, rfl, rfl, rfl, F1, W1, pq1⟩
set_option maxHeartbeats 4000000 in
set_option maxRecDepth 100000 in
theorem G_publish {l : Launch} {G : GT} {mi : Nat} {sk : Nat → Nat} {L : List Nat} {cl ln : Nat → Nat} {iv : Nat → Nat → Int} {rv : Nat → Nat → Option Nat}  {a0 : Nat} (hW : WT (g0 G) sk L cl ln iv rv) (hS : SKL sk L cl) (t_a0 : ty L cl a0 1)  : Mc l G mi (Phi (g0 G) sk) PHM yX11_publish cX11_publish 2 (some .int) 1 [.ref a0] L cl ln iv rv 0 (fun v L2 cl2 ln2 iv2 rv2 => ∃ f : Int, v = some (.int (iI f)) ∧ L = L2 ∧ cl = cl2 ∧ ln = ln2 ∧ fT [1] L cl iv rv iv2 rv2 ∧ WT (g0 G) sk L2 cl2 ln2 iv2 rv2 ∧ (-2147483648 ≤ f ∧ f ≤ 2147483647) ∧ (PBX iv rv rv2 a0 f) ∧ iv2 a0 11 = iv a0 11 ∧ iv2 a0 12 = iv a0 12 ∧ iv2 a0 13 = iv a0 13 ∧ iv2 a0 14 = iv a0 14 ∧ iv2 a0 15 = iv a0 15 ∧ iv2 a0 16 = iv a0 16) := by
  refine Mc.mk (by decide) (Nat.le_of_ble_eq_true rfl) ?_
  intro p e s m args below meth c A C hM
  refine hv3 (Phi.le hW hS) (show XT L cl ln L cl ln from XT.refl) (show fT [1] L cl iv rv iv rv from fT.refl) (fun hph hX0 hF0 => ?_)
  obtain ⟨sA, hsA, tsA⟩ := hW.ref t_a0 9 rfl rfl rfl
  obtain ⟨sB, hsB, tsB⟩ := hW.ref t_a0 10 rfl rfl rfl
  refine c_aload_n (j := 0) (x := a0) C dX11_publish_0 rfl ?_
  refine c_getr (k := 9) C ck_12 dX11_publish_1 w2_53 (by decide) t_a0 rfl rfl (by decide) rfl hsA ?_
  refine c_st (st2 := [.ref sA]) rfl ?_
  refine c_astore_n (lv2 := [(1, .ref sA), (0, .ref a0)]) C dX11_publish_4 (by decide) rfl ?_
  refine c_aload_n (j := 1) (x := a0) C dX11_publish_5 rfl ?_
  refine c_aload_n (j := 1) (x := a0) C dX11_publish_6 rfl ?_
  refine c_getr (k := 10) C ck_12 dX11_publish_7 w2_54 (by decide) t_a0 rfl rfl (by decide) rfl hsB ?_
  refine c_st (st2 := [.ref sB, .ref a0]) rfl ?_
  refine c_putr (x := (some sB)) (k := 9) C ck_12 dX11_publish_10 w2_53 (by decide) rfl t_a0 rfl rfl (by decide) rfl (by rfl) (by rfl) (fun rv1 pq1 => ⟨0, (by rw [Phi.putr hS pq1 t_a0 rfl]; exact Nat.le_refl _), ?_⟩)
  refine hv2 (hW.putr pq1 t_a0 (rok_some t_a0 tsB rfl (by decide) rfl) rfl (by decide)) (hF0.putr hX0 pq1 t_a0 rfl) (fun W1 F1 => ?_)
  refine c_aload_n (j := 1) (x := a0) C dX11_publish_13 rfl ?_
  refine c_aload_n (j := 0) (x := sA) C dX11_publish_14 rfl ?_
  refine c_putr (x := (some sA)) (k := 10) C ck_12 dX11_publish_15 w2_54 (by decide) rfl t_a0 rfl rfl (by decide) rfl (by rfl) (by rfl) (fun rv2 pq2 => ⟨0, (by rw [Phi.putr hS pq2 t_a0 rfl]; exact Nat.le_refl _), ?_⟩)
  refine hv2 (W1.putr pq2 t_a0 (rok_some t_a0 tsA rfl (by decide) rfl) rfl (by decide)) (F1.putr hX0 pq2 t_a0 rfl) (fun W2 F2 => ?_)
  refine c_aload_n (j := 1) (x := a0) C dX11_publish_18 rfl ?_
  refine c_aload_n (j := 1) (x := a0) C dX11_publish_19 rfl ?_
  refine hv2 (show rv1 a0 9 = (some sB) from by rw [pq1]; exact upr_s) (show rv2 a0 9 = rv1 a0 9 from (by rw [pq2]; exact upr_j (by decide))) (fun rp1 re1 => ?_)
  rw [rp1] at re1
  refine c_getr (k := 9) C ck_12 dX11_publish_20 w2_53 (by decide) t_a0 rfl rfl (by decide) rfl re1 ?_
  refine c_st (st2 := [.ref sB, .ref a0]) rfl ?_
  have ri1 : 0 ≤ iv sB 1 ∧ iv sB 1 ≤ 200 := W2.int tsB 1
  refine c_get (k := 1) C ck_8 dX11_publish_23 w2_35 (by decide) tsB rfl rfl (by decide) rfl ?_
  have pl1 := Phi.le W2 hS
  refine d_callV (As := [.int (iI (iv sB 1))]) (rest := []) C hM (C_done (a0 := a0) (x := iv sB 1) W2 hS t_a0 (by omega) ) dX11_publish_26 kV_X11_109 rfl t_a0 rfl rfl (by decide) ck_12 rfl (Nat.le_of_ble_eq_true rfl) ⟨(Nat.le_of_ble_eq_true rfl), (Nat.le_of_ble_eq_true rfl)⟩ hph pl1 (show 0 + 0 = 0 from rfl) (by decide) (fun rh1 Lh1 clh1 lnh1 ivh1 rvh1 h1 => ?_)
  obtain ⟨f1, rfl, rfl, rfl, rfl, rfl, fl1, W3, rgf1, exf1, kp11f1, kp12f1, kp13f1, kp14f1, kp15f1, kp16f1⟩ := h1
  refine hv7 (show 1 ≤ iv a0 11 ∧ iv a0 11 ≤ 100 from W2.int t_a0 11) (show 1 ≤ iv a0 12 ∧ iv a0 12 ≤ 50 from W2.int t_a0 12) (show (-2147483648) ≤ iv a0 13 ∧ iv a0 13 ≤ 2147483647 from W2.int t_a0 13) (show (-2147483648) ≤ iv a0 14 ∧ iv a0 14 ≤ 2147483647 from W2.int t_a0 14) (show (-2147483648) ≤ iv a0 15 ∧ iv a0 15 ≤ 2147483647 from W2.int t_a0 15) (show (-2147483648) ≤ iv a0 16 ∧ iv a0 16 ≤ 2147483647 from W2.int t_a0 16) (F2.call hX0 fl1 rfl) (fun ri2 ri3 ri4 ri5 ri6 ri7 F3 => ?_)
  refine c_st (st2 := [.int (iI f1)]) rfl ?_
  refine hv16 (show ivh1 a0 11 = iv a0 11 from kp11f1) (show ivh1 a0 12 = iv a0 12 from kp12f1) (show ivh1 a0 13 = iv a0 13 from kp13f1) (show ivh1 a0 14 = iv a0 14 from kp14f1) (show ivh1 a0 15 = iv a0 15 from kp15f1) (show ivh1 a0 16 = iv a0 16 from kp16f1) (show f1 = (iv sB 1) from exf1) (show 1 ≤ ivh1 a0 11 ∧ ivh1 a0 11 ≤ 100 from W3.int t_a0 11) (show 1 ≤ ivh1 a0 12 ∧ ivh1 a0 12 ≤ 50 from W3.int t_a0 12) (show (-2147483648) ≤ ivh1 a0 13 ∧ ivh1 a0 13 ≤ 2147483647 from W3.int t_a0 13) (show (-2147483648) ≤ ivh1 a0 14 ∧ ivh1 a0 14 ≤ 2147483647 from W3.int t_a0 14) (show (-2147483648) ≤ ivh1 a0 15 ∧ ivh1 a0 15 ≤ 2147483647 from W3.int t_a0 15) (show (-2147483648) ≤ ivh1 a0 16 ∧ ivh1 a0 16 ≤ 2147483647 from W3.int t_a0 16) (show 0 ≤ ivh1 sB 1 ∧ ivh1 sB 1 ≤ 200 from W3.int tsB 1) (show ivh1 sB 1 = iv sB 1 from fl1.i tsB rfl 1) (show rv2 a0 10 = (some sA) from by rw [pq2]; exact upr_s) (fun gk11f1 gk12f1 gk13f1 gk14f1 gk15f1 gk16f1 gf1 ri8 ri9 ri10 ri11 ri12 ri13 ri14 ie7 rp2 => ?_)
  exact c_iret C dX11_publish_29 rfl (by decide) (rom0 hph pl1 (by decide)) ⟨f1, rfl, rfl, rfl, rfl, F3, W3, ⟨by omega, by omega⟩, (fun sA' sB' e1 e2 => by
      rw [hsA] at e1; cases e1
      rw [hsB] at e2; cases e2
      exact ⟨re1, rp2, (by omega)⟩), gk11f1, gk12f1, gk13f1, gk14f1, gk15f1, gk16f1⟩
set_option maxHeartbeats 4000000 in
set_option maxRecDepth 100000 in
theorem G_set {l : Launch} {G : GT} {mi : Nat} {sk : Nat → Nat} {L : List Nat} {cl ln : Nat → Nat} {iv : Nat → Nat → Int} {rv : Nat → Nat → Option Nat}  {a0 : Nat} {i : Int} (hW : WT (g0 G) sk L cl ln iv rv) (hS : SKL sk L cl) (t_a0 : ty L cl a0 1) (h_i : -2147483648 ≤ i ∧ i ≤ 2147483647) (hmr : MRK sk cl iv rv) : Mc l G mi (Phi (g0 G) sk) PHM yX11_set cX11_set 7 (some .int) 8 [.ref a0, .int (iI i)] L cl ln iv rv 0 (fun v L2 cl2 ln2 iv2 rv2 => ∃ f : Int, v = some (.int (iI f)) ∧ XT L cl ln L2 cl2 ln2 ∧ fT [1, 14, 15, 50, 51, 52, 53, 54, 55, 18, 19, 64, 67, 203] L cl iv rv iv2 rv2 ∧ WT (g0 G) sk L2 cl2 ln2 iv2 rv2 ∧ (-2147483648 ≤ f ∧ f ≤ 2147483647) ∧ (True) ∧ iv2 a0 11 = iv a0 11 ∧ iv2 a0 12 = iv a0 12 ∧ iv2 a0 13 = iv a0 13 ∧ iv2 a0 14 = iv a0 14 ∧ iv2 a0 15 = iv a0 15 ∧ iv2 a0 16 = iv a0 16 ∧ (PSX sk ln iv rv iv2 rv2 a0 (iv a0 11) (iv a0 13) i f)) := by
  refine Mc.mk (by decide) (Nat.le_of_ble_eq_true rfl) ?_
  intro p e s m args below meth c A C hM
  refine hv14 (Phi.le hW hS) (show ty L cl (sk 2) 2 from ⟨(hS 2 rfl).1, by rw [(hS 2 rfl).2]; rfl⟩) (show ty L cl (sk 3) 3 from ⟨(hS 3 rfl).1, by rw [(hS 3 rfl).2]; rfl⟩) (show ty L cl (sk 4) 4 from ⟨(hS 4 rfl).1, by rw [(hS 4 rfl).2]; rfl⟩) (show ty L cl (sk 5) 5 from ⟨(hS 5 rfl).1, by rw [(hS 5 rfl).2]; rfl⟩) (show ty L cl (sk 13) 13 from ⟨(hS 13 rfl).1, by rw [(hS 13 rfl).2]; rfl⟩) (show ty L cl (sk 14) 14 from ⟨(hS 14 rfl).1, by rw [(hS 14 rfl).2]; rfl⟩) (show ty L cl (sk 15) 15 from ⟨(hS 15 rfl).1, by rw [(hS 15 rfl).2]; rfl⟩) (show ty L cl (sk 16) 16 from ⟨(hS 16 rfl).1, by rw [(hS 16 rfl).2]; rfl⟩) (show ty L cl (sk 17) 17 from ⟨(hS 17 rfl).1, by rw [(hS 17 rfl).2]; rfl⟩) (show ty L cl (sk 22) 22 from ⟨(hS 22 rfl).1, by rw [(hS 22 rfl).2]; rfl⟩) (show ty L cl (sk 23) 23 from ⟨(hS 23 rfl).1, by rw [(hS 23 rfl).2]; rfl⟩) (show XT L cl ln L cl ln from XT.refl) (show fT [1, 14, 15, 50, 51, 52, 53, 54, 55, 18, 19, 64, 67, 203] L cl iv rv iv rv from fT.refl) (fun hph tsk2 tsk3 tsk4 tsk5 tsk13 tsk14 tsk15 tsk16 tsk17 tsk22 tsk23 hX0 hF0 => ?_)
  obtain ⟨sA, hsA, tsA⟩ := hW.ref t_a0 9 rfl rfl rfl
  obtain ⟨sB, hsB, tsB⟩ := hW.ref t_a0 10 rfl rfl rfl
  refine hv5 (show (-2147483648) ≤ iv (sk 14) 0 ∧ iv (sk 14) 0 ≤ 2147483647 from hW.int tsk14 0) (show 0 ≤ iv (sk 14) 1 ∧ iv (sk 14) 1 ≤ 1 from hW.int tsk14 1) (show 0 ≤ iv (sk 14) 2 ∧ iv (sk 14) 2 ≤ 1 from hW.int tsk14 2) (show 1 ≤ iv a0 11 ∧ iv a0 11 ≤ 100 from hW.int t_a0 11) (show (-2147483648) ≤ iv a0 13 ∧ iv a0 13 ≤ 2147483647 from hW.int t_a0 13) (fun ri1 ri2 ri3 ri4 ri5 => ?_)
  refine c_aload_n (j := 0) (x := a0) C dX11_set_0 rfl ?_
  obtain ⟨rb1, rq1, trb1⟩ := hW.ref t_a0 4 rfl rfl rfl
  have erb1 := hW.sk trb1 (by decide) rfl
  subst erb1
  refine c_getr (k := 4) C ck_12 dX11_set_1 w2_48 (by decide) t_a0 rfl rfl (by decide) rfl rq1 ?_
  refine c_st (st2 := [.ref (sk 13)]) rfl ?_
  refine c_iload_n (j := 1) C dX11_set_4 rfl ?_
  refine d_callV (As := [.int (iI i)]) (rest := []) C hM (G_whole (a0 := (sk 13)) (i := i) hW hS tsk13 (by omega) hmr) dX11_set_5 kV_X11_231 rfl tsk13 rfl rfl (by decide) ck_11 rfl (Nat.le_of_ble_eq_true rfl) ⟨(Nat.le_of_ble_eq_true rfl), (Nat.le_of_ble_eq_true rfl)⟩ hph hph (show 0 + 0 = 0 from rfl) (by decide) (fun rh1 Lh1 clh1 lnh1 ivh1 rvh1 h1 => ?_)
  obtain ⟨f1, rfl, rfl, rfl, rfl, rfl, rfl, rgf1, exf1⟩ := h1
  refine c_st (st2 := [(va_rf f1)]) rfl ?_
  have gf1 : WOX sk ln iv rv i f1 := exf1
  refine c_astorer_n (r := f1) (lv2 := [(2, (va_rf f1)), (0, .ref a0), (1, .int (iI i))]) C dX11_set_8 (by decide) rfl ?_
  refine c_aloadr_n (j := 0) (r := f1) C dX11_set_9 rfl ?_
  refine c_ifnonnull (r := f1) (tgt := 19) C dX11_set_10 (by decide) (fun ob1 oq1 => ?_) (fun oq1 => ?_)
  · subst oq1
    refine hv2 (rgf1 ob1 rfl) (gf1) (fun tob1 wkob1 => ?_)
    refine c_lv (lv2 := [(2, .ref ob1), (0, .ref a0), (1, .int (iI i))]) [0, 1, 2] rfl ?_
    refine c_st (st2 := []) rfl ?_
    refine c_aload_n (j := 1) (x := a0) C dX11_set_19 rfl ?_
    refine c_getr (k := 10) C ck_12 dX11_set_20 w2_54 (by decide) t_a0 rfl rfl (by decide) rfl hsB ?_
    refine c_st (st2 := [.ref sB]) rfl ?_
    have ri6 : 0 ≤ iv sB 1 ∧ iv sB 1 ≤ 200 := hW.int tsB 1
    refine d_callV (As := []) (rest := []) C hM (G_sclear (a0 := sB) hW hS tsB  ) dX11_set_23 kV_X11_234 rfl tsB rfl rfl (by decide) ck_8 rfl (Nat.le_of_ble_eq_true rfl) ⟨(Nat.le_of_ble_eq_true rfl), (Nat.le_of_ble_eq_true rfl)⟩ hph hph (show 0 + 0 = 0 from rfl) (by decide) (fun rh2 Lh2 clh2 lnh2 ivh2 rvh2 h2 => ?_)
    obtain ⟨rfl, rfl, rfl, rfl, rfl, fl2, W2, exf2⟩ := h2
    refine hv2 (hF0.call hX0 fl2 rfl) (MRK.call hmr hW hS XT.refl fl2 rfl rfl) (fun F1 mr1 => ?_)
    refine c_st (st2 := []) rfl ?_
    refine c_aload_n (j := 1) (x := a0) C dX11_set_26 rfl ?_
    obtain ⟨rb2, rq2, trb2⟩ := W2.ref t_a0 5 rfl rfl rfl
    have erb2 := W2.sk trb2 (by decide) rfl
    subst erb2
    refine c_getr (k := 5) C ck_12 dX11_set_27 w2_49 (by decide) t_a0 rfl rfl (by decide) rfl rq2 ?_
    refine c_st (st2 := [.ref (sk 14)]) rfl ?_
    refine d_callV (As := []) (rest := []) C hM (C_restart (a0 := (sk 14)) W2 hS tsk14  ) dX11_set_30 kV_X11_235 rfl tsk14 rfl rfl (by decide) ck_9 rfl (Nat.le_of_ble_eq_true rfl) ⟨(Nat.le_of_ble_eq_true rfl), (Nat.le_of_ble_eq_true rfl)⟩ hph hph (show 0 + 0 = 0 from rfl) (by decide) (fun rh3 Lh3 clh3 lnh3 ivh3 rvh3 h3 => ?_)
    obtain ⟨rfl, rfl, rfl, rfl, rfl, fl3, W3, exf3⟩ := h3
    refine hv2 (F1.call hX0 fl3 rfl) (MRK.call mr1 W2 hS XT.refl fl3 rfl rfl) (fun F2 mr2 => ?_)
    refine c_st (st2 := []) rfl ?_
    refine hv4 (show (-2147483648) ≤ ivh3 (sk 14) 0 ∧ ivh3 (sk 14) 0 ≤ 2147483647 from W3.int tsk14 0) (show 0 ≤ ivh3 (sk 14) 1 ∧ ivh3 (sk 14) 1 ≤ 1 from W3.int tsk14 1) (show ivh3 (sk 14) 0 = 0 ∧ ivh3 (sk 14) 1 = 0 from exf3) (show 0 ≤ ivh3 (sk 14) 2 ∧ ivh3 (sk 14) 2 ≤ 1 from W3.int tsk14 2) (fun ri7 ri8 gf3 ri9 => ?_)
    refine c_iconst C dX11_set_33 ?_
    refine c_istore_n (lv2 := [(3, .int (iI 0)), (2, .ref ob1), (0, .ref a0), (1, .int (iI i))]) C dX11_set_34 (by decide) rfl ?_
    refine c_aload_n (j := 2) (x := a0) C dX11_set_35 rfl ?_
    refine c_getr (k := 5) C ck_12 dX11_set_36 w2_49 (by decide) t_a0 rfl rfl (by decide) rfl rq2 ?_
    refine c_st (st2 := [.ref (sk 14)]) rfl ?_
    refine c_aload_n (j := 2) (x := a0) C dX11_set_39 rfl ?_
    obtain ⟨rb3, rq3, trb3⟩ := W3.ref t_a0 1 rfl rfl rfl
    have erb3 := W3.sk trb3 (by decide) rfl
    subst erb3
    refine c_getr (k := 1) C ck_12 dX11_set_40 w2_45 (by decide) t_a0 rfl rfl (by decide) rfl rq3 ?_
    refine c_st (st2 := [.ref (sk 3), .ref (sk 14)]) rfl ?_
    refine c_aload_n (j := 2) (x := a0) C dX11_set_43 rfl ?_
    obtain ⟨rb4, rq4, trb4⟩ := W3.ref t_a0 6 rfl rfl rfl
    have erb4 := W3.sk trb4 (by decide) rfl
    subst erb4
    refine c_getr (k := 6) C ck_12 dX11_set_44 w2_50 (by decide) t_a0 rfl rfl (by decide) rfl rq4 ?_
    refine c_st (st2 := [.ref (sk 15), .ref (sk 3), .ref (sk 14)]) rfl ?_
    refine d_callV (As := [.ref (sk 3), .ref (sk 15)]) (rest := []) C hM (G_step (a0 := (sk 14)) (a1 := (sk 3)) (a2 := (sk 15)) W3 hS tsk14 tsk3 tsk15  (by show 0 ≤ ivh3 (sk 14) 0 ∧ ivh3 (sk 14) 0 ≤ 501 ∧ (ivh3 (sk 14) 1 = 0 ∨ ivh3 (sk 14) 0 ≤ 500); omega)) dX11_set_47 kV_X11_238 rfl tsk14 rfl rfl (by decide) ck_9 rfl (Nat.le_of_ble_eq_true rfl) ⟨(Nat.le_of_ble_eq_true rfl), (Nat.le_of_ble_eq_true rfl)⟩ hph hph (show 0 + 0 = 0 from rfl) (by decide) (fun rh4 Lh4 clh4 lnh4 ivh4 rvh4 h4 => ?_)
    obtain ⟨f4, rfl, rfl, rfl, rfl, rfl, fl4, W4, rgf4, exf4⟩ := h4
    refine hv2 (F2.call hX0 fl4 rfl) (MRK.call mr2 W3 hS XT.refl fl4 rfl rfl) (fun F3 mr3 => ?_)
    refine c_st (st2 := [.int (iI f4)]) rfl ?_
    refine hv4 (show (-2147483648) ≤ ivh4 (sk 14) 0 ∧ ivh4 (sk 14) 0 ≤ 2147483647 from W4.int tsk14 0) (show 0 ≤ ivh4 (sk 14) 1 ∧ ivh4 (sk 14) 1 ≤ 1 from W4.int tsk14 1) (show ((0 ≤ f4 ∧ f4 ≤ 3) ∧ 0 ≤ ivh4 (sk 14) 0 ∧ ivh4 (sk 14) 0 ≤ 501 ∧ (ivh4 (sk 14) 1 = 0 ∨ ivh4 (sk 14) 0 ≤ 500) ∧ (f4 = 0 ∨ 2 * ivh3 (sk 14) 0 + ivh3 (sk 14) 1 < 2 * ivh4 (sk 14) 0 + ivh4 (sk 14) 1)) ∧ STP ivh3 rv ivh4 (sk 3) (sk 14) (sk 15) f4 from exf4) (show 0 ≤ ivh4 (sk 14) 2 ∧ ivh4 (sk 14) 2 ≤ 1 from W4.int tsk14 2) (fun ri10 ri11 gf4 ri12 => ?_)
    refine c_istore (lv2 := [(4, .int (iI f4)), (3, .int (iI 0)), (2, .ref ob1), (0, .ref a0), (1, .int (iI i))]) C dX11_set_50 (by decide) rfl ?_
    refine c_iconst C dX11_set_52 ?_
    refine c_istore (lv2 := [(5, .int (iI 0)), (4, .int (iI f4)), (3, .int (iI 0)), (2, .ref ob1), (0, .ref a0), (1, .int (iI i))]) C dX11_set_53 (by decide) rfl ?_
    have Lp1 : ∀ (nn : Nat) (wy cm k : Int) (Lb1 : List Nat) (clb1 lnb1 : Nat → Nat) (ivb1 : Nat → Nat → Int) (rvb1 : Nat → Nat → Option Nat) , 1101 - k < (nn : Int) → XT L cl ln Lb1 clb1 lnb1 → WT (g0 G) sk Lb1 clb1 lnb1 ivb1 rvb1 → fT [1, 14, 15, 50, 51, 52, 53, 54, 55, 18, 19, 64, 67, 203] L cl iv rv ivb1 rvb1 → (0 ≤ wy ∧ wy ≤ 9) → (0 ≤ cm ∧ cm ≤ 3) → (0 ≤ k ∧ k ≤ 1100) → (0 ≤ ivb1 (sk 14) 0 ∧ ivb1 (sk 14) 0 ≤ 501 ∧ (ivb1 (sk 14) 1 = 0 ∨ ivb1 (sk 14) 0 ≤ 500)) → (cm = 0 ∨ wy ≠ 0 ∨ k < 2 * ivb1 (sk 14) 0 + ivb1 (sk 14) 1) → (rvb1 a0 9 = some sA) → (rvb1 a0 10 = some sB) → (PSL sk ln iv rv ivb1 rvb1 sA sB (iv a0 11) (iv a0 13) i wy cm) → (ivb1 a0 11 = iv a0 11) → (ivb1 a0 12 = iv a0 12) → (ivb1 a0 13 = iv a0 13) → (ivb1 a0 14 = iv a0 14) → (ivb1 a0 15 = iv a0 15) → (ivb1 a0 16 = iv a0 16) → cw p l e 8 ((PHM) + 0 - ((Phi (g0 G) sk) ln rv)) s m args below meth c G A 7 (MQ below (Qu G A (Qp G (Phi (g0 G) sk) ((Phi (g0 G) sk) ln rv) 0 (fun v L2 cl2 ln2 iv2 rv2 => ∃ f : Int, v = some (.int (iI f)) ∧ XT L cl ln L2 cl2 ln2 ∧ fT [1, 14, 15, 50, 51, 52, 53, 54, 55, 18, 19, 64, 67, 203] L cl iv rv iv2 rv2 ∧ WT (g0 G) sk L2 cl2 ln2 iv2 rv2 ∧ (-2147483648 ≤ f ∧ f ≤ 2147483647) ∧ (True) ∧ iv2 a0 11 = iv a0 11 ∧ iv2 a0 12 = iv a0 12 ∧ iv2 a0 13 = iv a0 13 ∧ iv2 a0 14 = iv a0 14 ∧ iv2 a0 15 = iv a0 15 ∧ iv2 a0 16 = iv a0 16 ∧ (PSX sk ln iv rv iv2 rv2 a0 (iv a0 11) (iv a0 13) i f)))) args s (((PHM) + 0 - ((Phi (g0 G) sk) ln rv)) / 16) ((PHM) + 0 - ((Phi (g0 G) sk) ln rv)) A) (Phi (g0 G) sk) ((Phi (g0 G) sk) ln rv) Lb1 clb1 lnb1 ivb1 rvb1 0 55 [(3, .int (iI wy)), (4, .int (iI cm)), (5, .int (iI k)), (2, .ref ob1), (0, .ref a0), (1, .int (iI i))] [] := by
      intro nn
      induction nn with
      | zero =>
        intro  wy cm k Lb1 clb1 lnb1 ivb1 rvb1 hm Xb1 Wb1 Fb1  hwy hcm hk hsr hkn h9 h10 hP hkp11 hkp12 hkp13 hkp14 hkp15 hkp16
        have skb1 := Xb1.skl hS
        exact absurd hm (by omega)
      | succ nn ih1 =>
        intro  wy cm k Lb1 clb1 lnb1 ivb1 rvb1 hm Xb1 Wb1 Fb1  hwy hcm hk hsr hkn h9 h10 hP hkp11 hkp12 hkp13 hkp14 hkp15 hkp16
        refine hv2 (Xb1.skl hS) (MRK.call hmr hW hS Xb1 Fb1 rfl rfl) (fun skb1 mrb1 => ?_)
        refine c_iload_n (j := 0) C dX11_set_55 rfl ?_
        refine c_if_ne (tgt := 203) C (r32_c (lo := 0) (hi := 9) hwy.1 hwy.2 (by decide) (by decide)) dX11_set_56 (by decide) (fun c1 => ?_) (fun c1 => ?_)
        · refine c_iload_n (j := 0) C dX11_set_203 rfl ?_
          refine c_if_ne (tgt := 214) C (r32_c (lo := 0) (hi := 9) hwy.1 hwy.2 (by decide) (by decide)) dX11_set_204 (by decide) (fun _ => ?_) (fun z => absurd z (by omega))
          refine c_aload_n (j := 4) (x := a0) C dX11_set_214 rfl ?_
          refine c_iload_n (j := 0) C dX11_set_215 rfl ?_
          refine c_aload_n (j := 4) (x := a0) C dX11_set_216 rfl ?_
          have ty1 := Xb1.ty t_a0
          obtain ⟨rb5, rq5, trb5⟩ := Wb1.ref ty1 6 rfl rfl rfl
          have erb5 := Wb1.sk trb5 (by decide) rfl
          subst erb5
          refine c_getr (k := 6) C ck_12 dX11_set_217 w2_50 (by decide) ty1 rfl rfl (by decide) rfl rq5 ?_
          refine c_st (st2 := [.ref (sk 15), .int (iI wy), .ref a0]) rfl ?_
          refine hv2 (Xb1.ty tsk15) (Phi.le Wb1 skb1) (fun ty2 pl1 => ?_)
          refine d_callV (As := []) (rest := [.int (iI wy), .ref a0]) C hM (C_placeOfUnknown (a0 := (sk 15)) Wb1 skb1 ty2  ) dX11_set_220 kV_X11_263 rfl ty2 rfl rfl (by decide) ck_7 rfl (Nat.le_of_ble_eq_true rfl) ⟨(Nat.le_of_ble_eq_true rfl), (Nat.le_of_ble_eq_true rfl)⟩ hph pl1 (show 0 + 0 = 0 from rfl) (by decide) (fun rh5 Lh5 clh5 lnh5 ivh5 rvh5 h5 => ?_)
          obtain ⟨f5, rfl, rfl, rfl, rfl, rfl, rfl, rgf5, exf5⟩ := h5
          refine c_st (st2 := [.int (iI f5), .int (iI wy), .ref a0]) rfl ?_
          refine hv2 (Xb1.ty tsB) (Xb1.ty tsA) (fun ty3 ty4 => ?_)
          refine d_callV (As := [.int (iI wy), .int (iI f5)]) (rest := []) C hM (C_refuseAt (a0 := a0) (x := wy) (y := f5) Wb1 skb1 ty1 (by omega) (by omega) ) dX11_set_223 kV_X11_266 rfl ty1 rfl rfl (by decide) ck_12 rfl (Nat.le_of_ble_eq_true rfl) ⟨(Nat.le_of_ble_eq_true rfl), (Nat.le_of_ble_eq_true rfl)⟩ hph pl1 (show 0 + 0 = 0 from rfl) (by decide) (fun rh6 Lh6 clh6 lnh6 ivh6 rvh6 h6 => ?_)
          obtain ⟨f6, rfl, rfl, rfl, rfl, rfl, fl6, W6, rgf6, exf6, kp11f6, kp12f6, kp13f6, kp14f6, kp15f6, kp16f6⟩ := h6
          refine hv8 (show 1 ≤ ivb1 a0 11 ∧ ivb1 a0 11 ≤ 100 from Wb1.int ty1 11) (show 1 ≤ ivb1 a0 12 ∧ ivb1 a0 12 ≤ 50 from Wb1.int ty1 12) (show (-2147483648) ≤ ivb1 a0 13 ∧ ivb1 a0 13 ≤ 2147483647 from Wb1.int ty1 13) (show (-2147483648) ≤ ivb1 a0 14 ∧ ivb1 a0 14 ≤ 2147483647 from Wb1.int ty1 14) (show (-2147483648) ≤ ivb1 a0 15 ∧ ivb1 a0 15 ≤ 2147483647 from Wb1.int ty1 15) (show (-2147483648) ≤ ivb1 a0 16 ∧ ivb1 a0 16 ≤ 2147483647 from Wb1.int ty1 16) (Fb1.call Xb1 fl6 rfl) (MRK.call mrb1 Wb1 skb1 XT.refl fl6 rfl rfl) (fun ri13 ri14 ri15 ri16 ri17 ri18 F4 mr4 => ?_)
          refine c_st (st2 := [.int (iI f6)]) rfl ?_
          refine hv13 (show ivh6 a0 11 = ivb1 a0 11 from kp11f6) (show ivh6 a0 12 = ivb1 a0 12 from kp12f6) (show ivh6 a0 13 = ivb1 a0 13 from kp13f6) (show ivh6 a0 14 = ivb1 a0 14 from kp14f6) (show ivh6 a0 15 = ivb1 a0 15 from kp15f6) (show ivh6 a0 16 = ivb1 a0 16 from kp16f6) (show f6 = -1 from exf6) (show 1 ≤ ivh6 a0 11 ∧ ivh6 a0 11 ≤ 100 from W6.int ty1 11) (show 1 ≤ ivh6 a0 12 ∧ ivh6 a0 12 ≤ 50 from W6.int ty1 12) (show (-2147483648) ≤ ivh6 a0 13 ∧ ivh6 a0 13 ≤ 2147483647 from W6.int ty1 13) (show (-2147483648) ≤ ivh6 a0 14 ∧ ivh6 a0 14 ≤ 2147483647 from W6.int ty1 14) (show (-2147483648) ≤ ivh6 a0 15 ∧ ivh6 a0 15 ≤ 2147483647 from W6.int ty1 15) (show (-2147483648) ≤ ivh6 a0 16 ∧ ivh6 a0 16 ≤ 2147483647 from W6.int ty1 16) (fun gk11f6 gk12f6 gk13f6 gk14f6 gk15f6 gk16f6 gf6 ri19 ri20 ri21 ri22 ri23 ri24 => ?_)
          exact c_iret C dX11_set_226 rfl (by decide) (rom0 hph pl1 (by decide)) ⟨f6, rfl, Xb1, F4, W6, ⟨by omega, by omega⟩, trivial, (gk11f6.trans hkp11), (gk12f6.trans hkp12), (gk13f6.trans hkp13), (gk14f6.trans hkp14), (gk15f6.trans hkp15), (gk16f6.trans hkp16), (PSX.n2 hP (by omega) wkob1 hsA hsB h9 h10 Wb1 ty3 ty4 fl6 rfl rfl rfl rfl (by omega))⟩
        · refine c_iload (j := 1) C dX11_set_59 rfl ?_
          refine c_if_eq (tgt := 203) C (r32_c (lo := 0) (hi := 3) hcm.1 hcm.2 (by decide) (by decide)) dX11_set_61 (by decide) (fun c2 => ?_) (fun c2 => ?_)
          · clear hkn
            refine c_iload_n (j := 0) C dX11_set_203 rfl ?_
            refine c_if_ne (tgt := 214) C (r32_c (lo := 0) (hi := 9) hwy.1 hwy.2 (by decide) (by decide)) dX11_set_204 (by decide) (fun z => absurd z (by omega)) (fun _ => ?_)
            refine c_aload_n (j := 4) (x := a0) C dX11_set_207 rfl ?_
            refine hv4 (Xb1.ty tsB) (Xb1.ty tsA) (Xb1.ty t_a0) (Phi.le Wb1 skb1) (fun ty5 ty6 ty7 pl2 => ?_)
            refine d_callV (As := []) (rest := []) C hM (G_publish (a0 := a0) Wb1 skb1 ty7  ) dX11_set_208 kV_X11_260 rfl ty7 rfl rfl (by decide) ck_12 rfl (Nat.le_of_ble_eq_true rfl) ⟨(Nat.le_of_ble_eq_true rfl), (Nat.le_of_ble_eq_true rfl)⟩ hph pl2 (show 0 + 0 = 0 from rfl) (by decide) (fun rh7 Lh7 clh7 lnh7 ivh7 rvh7 h7 => ?_)
            obtain ⟨f7, rfl, rfl, rfl, rfl, fl7, W7, rgf7, exf7, kp11f7, kp12f7, kp13f7, kp14f7, kp15f7, kp16f7⟩ := h7
            refine hv8 (show 1 ≤ ivb1 a0 11 ∧ ivb1 a0 11 ≤ 100 from Wb1.int ty7 11) (show 1 ≤ ivb1 a0 12 ∧ ivb1 a0 12 ≤ 50 from Wb1.int ty7 12) (show (-2147483648) ≤ ivb1 a0 13 ∧ ivb1 a0 13 ≤ 2147483647 from Wb1.int ty7 13) (show (-2147483648) ≤ ivb1 a0 14 ∧ ivb1 a0 14 ≤ 2147483647 from Wb1.int ty7 14) (show (-2147483648) ≤ ivb1 a0 15 ∧ ivb1 a0 15 ≤ 2147483647 from Wb1.int ty7 15) (show (-2147483648) ≤ ivb1 a0 16 ∧ ivb1 a0 16 ≤ 2147483647 from Wb1.int ty7 16) (Fb1.call Xb1 fl7 rfl) (MRK.call mrb1 Wb1 skb1 XT.refl fl7 rfl rfl) (fun ri25 ri26 ri27 ri28 ri29 ri30 F5 mr5 => ?_)
            refine c_st (st2 := [.int (iI f7)]) rfl ?_
            refine hv7 (show ivh7 a0 11 = ivb1 a0 11 from kp11f7) (show ivh7 a0 12 = ivb1 a0 12 from kp12f7) (show ivh7 a0 13 = ivb1 a0 13 from kp13f7) (show ivh7 a0 14 = ivb1 a0 14 from kp14f7) (show ivh7 a0 15 = ivb1 a0 15 from kp15f7) (show ivh7 a0 16 = ivb1 a0 16 from kp16f7) (show PBX ivb1 rvb1 rvh7 a0 f7 from exf7) (fun gk11f7 gk12f7 gk13f7 gk14f7 gk15f7 gk16f7 gf7 => ?_)
            refine c_goto (tgt := 226) C dX11_set_211 (by decide) ?_
            refine hv7 (show 1 ≤ ivh7 a0 11 ∧ ivh7 a0 11 ≤ 100 from W7.int ty7 11) (show 1 ≤ ivh7 a0 12 ∧ ivh7 a0 12 ≤ 50 from W7.int ty7 12) (show (-2147483648) ≤ ivh7 a0 13 ∧ ivh7 a0 13 ≤ 2147483647 from W7.int ty7 13) (show (-2147483648) ≤ ivh7 a0 14 ∧ ivh7 a0 14 ≤ 2147483647 from W7.int ty7 14) (show (-2147483648) ≤ ivh7 a0 15 ∧ ivh7 a0 15 ≤ 2147483647 from W7.int ty7 15) (show (-2147483648) ≤ ivh7 a0 16 ∧ ivh7 a0 16 ≤ 2147483647 from W7.int ty7 16) (Phi.le W7 skb1) (fun ri31 ri32 ri33 ri34 ri35 ri36 pl3 => ?_)
            exact c_iret C dX11_set_226 rfl (by decide) (rom0 hph pl3 (by decide)) ⟨f7, rfl, Xb1, F5, W7, ⟨by omega, by omega⟩, trivial, (gk11f7.trans hkp11), (gk12f7.trans hkp12), (gk13f7.trans hkp13), (gk14f7.trans hkp14), (gk15f7.trans hkp15), (gk16f7.trans hkp16), (PSX.yes hP (by omega) (by omega) wkob1 hsA hsB (gf7 sA sB h9 h10).1 (gf7 sA sB h9 h10).2.1 Wb1 ty5 ty6 fl7 rfl rfl rfl rfl (gf7 sA sB h9 h10).2.2)⟩
          · replace hkn := (hkn.resolve_left c2)
            refine c_iload (j := 2) C dX11_set_64 rfl ?_
            refine c_ldc (z := 1000000) C dX11_set_66 w4_30 rfl ?_
            refine c_icmp_ge (tgt := 203) C (r32_c (lo := 0) (hi := 1100) hk.1 hk.2 (by decide) (by decide)) ⟨by decide, by decide⟩ dX11_set_68 (by decide) (fun c3 => ?_) (fun c3 => ?_)
            · refine c_iload_n (j := 0) C dX11_set_203 rfl ?_
              refine c_if_ne (tgt := 214) C (r32_c (lo := 0) (hi := 9) hwy.1 hwy.2 (by decide) (by decide)) dX11_set_204 (by decide) (fun z => absurd z (by omega)) (fun _ => ?_)
              refine c_aload_n (j := 4) (x := a0) C dX11_set_207 rfl ?_
              refine hv4 (Xb1.ty tsB) (Xb1.ty tsA) (Xb1.ty t_a0) (Phi.le Wb1 skb1) (fun ty8 ty9 ty10 pl4 => ?_)
              refine d_callV (As := []) (rest := []) C hM (G_publish (a0 := a0) Wb1 skb1 ty10  ) dX11_set_208 kV_X11_260 rfl ty10 rfl rfl (by decide) ck_12 rfl (Nat.le_of_ble_eq_true rfl) ⟨(Nat.le_of_ble_eq_true rfl), (Nat.le_of_ble_eq_true rfl)⟩ hph pl4 (show 0 + 0 = 0 from rfl) (by decide) (fun rh8 Lh8 clh8 lnh8 ivh8 rvh8 h8 => ?_)
              obtain ⟨f8, rfl, rfl, rfl, rfl, fl8, W8, rgf8, exf8, kp11f8, kp12f8, kp13f8, kp14f8, kp15f8, kp16f8⟩ := h8
              refine hv8 (show 1 ≤ ivb1 a0 11 ∧ ivb1 a0 11 ≤ 100 from Wb1.int ty10 11) (show 1 ≤ ivb1 a0 12 ∧ ivb1 a0 12 ≤ 50 from Wb1.int ty10 12) (show (-2147483648) ≤ ivb1 a0 13 ∧ ivb1 a0 13 ≤ 2147483647 from Wb1.int ty10 13) (show (-2147483648) ≤ ivb1 a0 14 ∧ ivb1 a0 14 ≤ 2147483647 from Wb1.int ty10 14) (show (-2147483648) ≤ ivb1 a0 15 ∧ ivb1 a0 15 ≤ 2147483647 from Wb1.int ty10 15) (show (-2147483648) ≤ ivb1 a0 16 ∧ ivb1 a0 16 ≤ 2147483647 from Wb1.int ty10 16) (Fb1.call Xb1 fl8 rfl) (MRK.call mrb1 Wb1 skb1 XT.refl fl8 rfl rfl) (fun ri37 ri38 ri39 ri40 ri41 ri42 F6 mr6 => ?_)
              refine c_st (st2 := [.int (iI f8)]) rfl ?_
              refine hv7 (show ivh8 a0 11 = ivb1 a0 11 from kp11f8) (show ivh8 a0 12 = ivb1 a0 12 from kp12f8) (show ivh8 a0 13 = ivb1 a0 13 from kp13f8) (show ivh8 a0 14 = ivb1 a0 14 from kp14f8) (show ivh8 a0 15 = ivb1 a0 15 from kp15f8) (show ivh8 a0 16 = ivb1 a0 16 from kp16f8) (show PBX ivb1 rvb1 rvh8 a0 f8 from exf8) (fun gk11f8 gk12f8 gk13f8 gk14f8 gk15f8 gk16f8 gf8 => ?_)
              refine c_goto (tgt := 226) C dX11_set_211 (by decide) ?_
              refine hv7 (show 1 ≤ ivh8 a0 11 ∧ ivh8 a0 11 ≤ 100 from W8.int ty10 11) (show 1 ≤ ivh8 a0 12 ∧ ivh8 a0 12 ≤ 50 from W8.int ty10 12) (show (-2147483648) ≤ ivh8 a0 13 ∧ ivh8 a0 13 ≤ 2147483647 from W8.int ty10 13) (show (-2147483648) ≤ ivh8 a0 14 ∧ ivh8 a0 14 ≤ 2147483647 from W8.int ty10 14) (show (-2147483648) ≤ ivh8 a0 15 ∧ ivh8 a0 15 ≤ 2147483647 from W8.int ty10 15) (show (-2147483648) ≤ ivh8 a0 16 ∧ ivh8 a0 16 ≤ 2147483647 from W8.int ty10 16) (Phi.le W8 skb1) (fun ri43 ri44 ri45 ri46 ri47 ri48 pl5 => ?_)
              exact c_iret C dX11_set_226 rfl (by decide) (rom0 hph pl5 (by decide)) ⟨f8, rfl, Xb1, F6, W8, ⟨by omega, by omega⟩, trivial, (gk11f8.trans hkp11), (gk12f8.trans hkp12), (gk13f8.trans hkp13), (gk14f8.trans hkp14), (gk15f8.trans hkp15), (gk16f8.trans hkp16), (PSX.yes hP (by omega) (by omega) wkob1 hsA hsB (gf8 sA sB h9 h10).1 (gf8 sA sB h9 h10).2.1 Wb1 ty8 ty9 fl8 rfl rfl rfl rfl (gf8 sA sB h9 h10).2.2)⟩
            · have J1 : ∀ (wy2 ok : Int) (Lb2 : List Nat) (clb2 lnb2 : Nat → Nat) (ivb2 : Nat → Nat → Int) (rvb2 : Nat → Nat → Option Nat) , XT L cl ln Lb2 clb2 lnb2 → WT (g0 G) sk Lb2 clb2 lnb2 ivb2 rvb2 → fT [1, 14, 15, 50, 51, 52, 53, 54, 55, 18, 19, 64, 67, 203] L cl iv rv ivb2 rvb2 → (0 ≤ wy2 ∧ wy2 ≤ 9) → (ok = 0 ∨ ok = 1) → (0 ≤ ivb2 (sk 14) 0 ∧ ivb2 (sk 14) 0 ≤ 501 ∧ (ivb2 (sk 14) 1 = 0 ∨ ivb2 (sk 14) 0 ≤ 500)) → (k < 2 * ivb2 (sk 14) 0 + ivb2 (sk 14) 1) → (rvb2 a0 9 = some sA) → (rvb2 a0 10 = some sB) → (PSQ sk ln iv rv ivb2 rvb2 sA sB (iv a0 11) (iv a0 13) i wy2 ok) → (ivb2 a0 11 = iv a0 11) → (ivb2 a0 12 = iv a0 12) → (ivb2 a0 13 = iv a0 13) → (ivb2 a0 14 = iv a0 14) → (ivb2 a0 15 = iv a0 15) → (ivb2 a0 16 = iv a0 16) → cw p l e 8 ((PHM) + 0 - ((Phi (g0 G) sk) ln rv)) s m args below meth c G A 7 (MQ below (Qu G A (Qp G (Phi (g0 G) sk) ((Phi (g0 G) sk) ln rv) 0 (fun v L2 cl2 ln2 iv2 rv2 => ∃ f : Int, v = some (.int (iI f)) ∧ XT L cl ln L2 cl2 ln2 ∧ fT [1, 14, 15, 50, 51, 52, 53, 54, 55, 18, 19, 64, 67, 203] L cl iv rv iv2 rv2 ∧ WT (g0 G) sk L2 cl2 ln2 iv2 rv2 ∧ (-2147483648 ≤ f ∧ f ≤ 2147483647) ∧ (True) ∧ iv2 a0 11 = iv a0 11 ∧ iv2 a0 12 = iv a0 12 ∧ iv2 a0 13 = iv a0 13 ∧ iv2 a0 14 = iv a0 14 ∧ iv2 a0 15 = iv a0 15 ∧ iv2 a0 16 = iv a0 16 ∧ (PSX sk ln iv rv iv2 rv2 a0 (iv a0 11) (iv a0 13) i f)))) args s (((PHM) + 0 - ((Phi (g0 G) sk) ln rv)) / 16) ((PHM) + 0 - ((Phi (g0 G) sk) ln rv)) A) (Phi (g0 G) sk) ((Phi (g0 G) sk) ln rv) Lb2 clb2 lnb2 ivb2 rvb2 0 165 [(3, .int (iI wy2)), (6, .int (iI ok)), (4, .int (iI cm)), (5, .int (iI k)), (2, .ref ob1), (0, .ref a0), (1, .int (iI i))] [] := by
                intro  wy2 ok Lb2 clb2 lnb2 ivb2 rvb2 Xb2 Wb2 Fb2  hwy2 hok hsr2 hkn2 h9b h10b hQ hkp11 hkp12 hkp13 hkp14 hkp15 hkp16
                refine hv2 (Xb2.skl hS) (MRK.call hmr hW hS Xb2 Fb2 rfl rfl) (fun skb2 mrb2 => ?_)
                refine c_iload (j := 1) C dX11_set_165 rfl ?_
                refine c_if_ne (tgt := 176) C (r32_01 hok) dX11_set_167 (by decide) (fun c4 => ?_) (fun c4 => ?_)
                · replace hok := (hok.resolve_left c4)
                  refine c_iload_n (j := 0) C dX11_set_176 rfl ?_
                  refine c_if_ne (tgt := 197) C (r32_c (lo := 0) (hi := 9) hwy2.1 hwy2.2 (by decide) (by decide)) dX11_set_177 (by decide) (fun c5 => ?_) (fun c5 => ?_)
                  · refine c_iinc (z := k) (j := 3) (lv2 := [(5, .int (iI (k + 1))), (3, .int (iI wy2)), (6, .int (iI ok)), (4, .int (iI cm)), (2, .ref ob1), (0, .ref a0), (1, .int (iI i))]) C dX11_set_197 rfl (by decide) rfl ?_
                    refine c_goto (tgt := 55) C dX11_set_200 (by decide) ?_
                    refine hv2 (Xb2.ty tsk14) (Xb2.ty t_a0) (fun ty11 ty12 => ?_)
                    refine hv9 (show (-2147483648) ≤ ivb2 (sk 14) 0 ∧ ivb2 (sk 14) 0 ≤ 2147483647 from Wb2.int ty11 0) (show 0 ≤ ivb2 (sk 14) 1 ∧ ivb2 (sk 14) 1 ≤ 1 from Wb2.int ty11 1) (show 1 ≤ ivb2 a0 11 ∧ ivb2 a0 11 ≤ 100 from Wb2.int ty12 11) (show 1 ≤ ivb2 a0 12 ∧ ivb2 a0 12 ≤ 50 from Wb2.int ty12 12) (show (-2147483648) ≤ ivb2 a0 13 ∧ ivb2 a0 13 ≤ 2147483647 from Wb2.int ty12 13) (show (-2147483648) ≤ ivb2 a0 14 ∧ ivb2 a0 14 ≤ 2147483647 from Wb2.int ty12 14) (show (-2147483648) ≤ ivb2 a0 15 ∧ ivb2 a0 15 ≤ 2147483647 from Wb2.int ty12 15) (show (-2147483648) ≤ ivb2 a0 16 ∧ ivb2 a0 16 ≤ 2147483647 from Wb2.int ty12 16) (show 0 ≤ ivb2 (sk 14) 2 ∧ ivb2 (sk 14) 2 ≤ 1 from Wb2.int ty11 2) (fun ri49 ri50 ri51 ri52 ri53 ri54 ri55 ri56 ri57 => ?_)
                    refine c_lv (lv2 := [(3, .int (iI wy2)), (4, .int (iI cm)), (5, .int (iI (k + 1))), (2, .ref ob1), (0, .ref a0), (1, .int (iI i))]) [1, 3, 0, 4, 5, 6] rfl ?_
                    exact ih1  wy2 cm (k + 1) _ _ _ _ _ (by omega) Xb2 Wb2 Fb2  (by omega) (by omega) (by omega) (by show 0 ≤ ivb2 (sk 14) 0 ∧ ivb2 (sk 14) 0 ≤ 501 ∧ (ivb2 (sk 14) 1 = 0 ∨ ivb2 (sk 14) 0 ≤ 500); omega) (by omega) h9b h10b (hQ.stop (by omega)) hkp11 hkp12 hkp13 hkp14 hkp15 hkp16
                  · refine c_aload_n (j := 5) (x := a0) C dX11_set_180 rfl ?_
                    have ty13 := Xb2.ty t_a0
                    obtain ⟨rb6, rq6, trb6⟩ := Wb2.ref ty13 5 rfl rfl rfl
                    have erb6 := Wb2.sk trb6 (by decide) rfl
                    subst erb6
                    refine c_getr (k := 5) C ck_12 dX11_set_181 w2_49 (by decide) ty13 rfl rfl (by decide) rfl rq6 ?_
                    refine c_st (st2 := [.ref (sk 14)]) rfl ?_
                    refine c_aload_n (j := 5) (x := a0) C dX11_set_184 rfl ?_
                    obtain ⟨rb7, rq7, trb7⟩ := Wb2.ref ty13 1 rfl rfl rfl
                    have erb7 := Wb2.sk trb7 (by decide) rfl
                    subst erb7
                    refine c_getr (k := 1) C ck_12 dX11_set_185 w2_45 (by decide) ty13 rfl rfl (by decide) rfl rq7 ?_
                    refine c_st (st2 := [.ref (sk 3), .ref (sk 14)]) rfl ?_
                    refine c_aload_n (j := 5) (x := a0) C dX11_set_188 rfl ?_
                    obtain ⟨rb8, rq8, trb8⟩ := Wb2.ref ty13 6 rfl rfl rfl
                    have erb8 := Wb2.sk trb8 (by decide) rfl
                    subst erb8
                    refine c_getr (k := 6) C ck_12 dX11_set_189 w2_50 (by decide) ty13 rfl rfl (by decide) rfl rq8 ?_
                    refine c_st (st2 := [.ref (sk 15), .ref (sk 3), .ref (sk 14)]) rfl ?_
                    refine hv6 (Xb2.ty tsB) (Xb2.ty tsA) (Xb2.ty tsk14) (Xb2.ty tsk3) (Xb2.ty tsk15) (Phi.le Wb2 skb2) (fun ty14 ty15 ty16 ty17 ty18 pl6 => ?_)
                    refine hv3 (show (-2147483648) ≤ ivb2 (sk 14) 0 ∧ ivb2 (sk 14) 0 ≤ 2147483647 from Wb2.int ty16 0) (show 0 ≤ ivb2 (sk 14) 1 ∧ ivb2 (sk 14) 1 ≤ 1 from Wb2.int ty16 1) (show 0 ≤ ivb2 (sk 14) 2 ∧ ivb2 (sk 14) 2 ≤ 1 from Wb2.int ty16 2) (fun ri58 ri59 ri60 => ?_)
                    refine d_callV (As := [.ref (sk 3), .ref (sk 15)]) (rest := []) C hM (G_step (a0 := (sk 14)) (a1 := (sk 3)) (a2 := (sk 15)) Wb2 skb2 ty16 ty17 ty18  (by show 0 ≤ ivb2 (sk 14) 0 ∧ ivb2 (sk 14) 0 ≤ 501 ∧ (ivb2 (sk 14) 1 = 0 ∨ ivb2 (sk 14) 0 ≤ 500); omega)) dX11_set_192 kV_X11_238 rfl ty16 rfl rfl (by decide) ck_9 rfl (Nat.le_of_ble_eq_true rfl) ⟨(Nat.le_of_ble_eq_true rfl), (Nat.le_of_ble_eq_true rfl)⟩ hph pl6 (show 0 + 0 = 0 from rfl) (by decide) (fun rh11 Lh11 clh11 lnh11 ivh11 rvh11 h11 => ?_)
                    obtain ⟨f9, rfl, rfl, rfl, rfl, rfl, fl9, W9, rgf9, exf9⟩ := h11
                    refine hv2 (Fb2.call Xb2 fl9 rfl) (MRK.call mrb2 Wb2 skb2 XT.refl fl9 rfl rfl) (fun F7 mr7 => ?_)
                    refine c_st (st2 := [.int (iI f9)]) rfl ?_
                    refine hv4 (show (-2147483648) ≤ ivh11 (sk 14) 0 ∧ ivh11 (sk 14) 0 ≤ 2147483647 from W9.int ty16 0) (show 0 ≤ ivh11 (sk 14) 1 ∧ ivh11 (sk 14) 1 ≤ 1 from W9.int ty16 1) (show ((0 ≤ f9 ∧ f9 ≤ 3) ∧ 0 ≤ ivh11 (sk 14) 0 ∧ ivh11 (sk 14) 0 ≤ 501 ∧ (ivh11 (sk 14) 1 = 0 ∨ ivh11 (sk 14) 0 ≤ 500) ∧ (f9 = 0 ∨ 2 * ivb2 (sk 14) 0 + ivb2 (sk 14) 1 < 2 * ivh11 (sk 14) 0 + ivh11 (sk 14) 1)) ∧ STP ivb2 rvb2 ivh11 (sk 3) (sk 14) (sk 15) f9 from exf9) (show 0 ≤ ivh11 (sk 14) 2 ∧ ivh11 (sk 14) 2 ≤ 1 from W9.int ty16 2) (fun ri61 ri62 gf9 ri63 => ?_)
                    refine c_istore (lv2 := [(4, .int (iI f9)), (3, .int (iI wy2)), (6, .int (iI ok)), (5, .int (iI k)), (2, .ref ob1), (0, .ref a0), (1, .int (iI i))]) C dX11_set_195 (by decide) rfl ?_
                    refine c_iinc (z := k) (j := 3) (lv2 := [(5, .int (iI (k + 1))), (4, .int (iI f9)), (3, .int (iI wy2)), (6, .int (iI ok)), (2, .ref ob1), (0, .ref a0), (1, .int (iI i))]) C dX11_set_197 rfl (by decide) rfl ?_
                    refine c_goto (tgt := 55) C dX11_set_200 (by decide) ?_
                    refine hv12 (show 1 ≤ ivh11 a0 11 ∧ ivh11 a0 11 ≤ 100 from W9.int ty13 11) (show ivh11 a0 11 = ivb2 a0 11 from fl9.i ty13 rfl 11) (show 1 ≤ ivh11 a0 12 ∧ ivh11 a0 12 ≤ 50 from W9.int ty13 12) (show ivh11 a0 12 = ivb2 a0 12 from fl9.i ty13 rfl 12) (show (-2147483648) ≤ ivh11 a0 13 ∧ ivh11 a0 13 ≤ 2147483647 from W9.int ty13 13) (show ivh11 a0 13 = ivb2 a0 13 from fl9.i ty13 rfl 13) (show (-2147483648) ≤ ivh11 a0 14 ∧ ivh11 a0 14 ≤ 2147483647 from W9.int ty13 14) (show ivh11 a0 14 = ivb2 a0 14 from fl9.i ty13 rfl 14) (show (-2147483648) ≤ ivh11 a0 15 ∧ ivh11 a0 15 ≤ 2147483647 from W9.int ty13 15) (show ivh11 a0 15 = ivb2 a0 15 from fl9.i ty13 rfl 15) (show (-2147483648) ≤ ivh11 a0 16 ∧ ivh11 a0 16 ≤ 2147483647 from W9.int ty13 16) (show ivh11 a0 16 = ivb2 a0 16 from fl9.i ty13 rfl 16) (fun ri64 ie58 ri65 ie60 ri66 ie62 ri67 ie64 ri68 ie66 ri69 ie68 => ?_)
                    refine c_lv (lv2 := [(3, .int (iI wy2)), (4, .int (iI f9)), (5, .int (iI (k + 1))), (2, .ref ob1), (0, .ref a0), (1, .int (iI i))]) [2, 1, 0, 4, 5, 6] rfl ?_
                    exact ih1  wy2 f9 (k + 1) _ _ _ _ _ (by omega) Xb2 W9 F7  (by omega) (by omega) (by omega) (by show 0 ≤ ivh11 (sk 14) 0 ∧ ivh11 (sk 14) 0 ≤ 501 ∧ (ivh11 (sk 14) 1 = 0 ∨ ivh11 (sk 14) 0 ≤ 500); omega) (by omega) h9b h10b (hQ.next (by omega) (by omega) hW Xb2 Fb2 rfl rfl tsk3 Wb2 ty14 ty15 fl9 gf9.2) (ie58.trans hkp11) (ie60.trans hkp12) (ie62.trans hkp13) (ie64.trans hkp14) (ie66.trans hkp15) (ie68.trans hkp16)
                · clear hok
                  refine c_bipush (z := 6) C dX11_set_170 (by decide) ?_
                  refine c_istore_n (lv2 := [(3, .int (iI 6)), (6, .int (iI ok)), (4, .int (iI cm)), (5, .int (iI k)), (2, .ref ob1), (0, .ref a0), (1, .int (iI i))]) C dX11_set_172 (by decide) rfl ?_
                  refine c_goto (tgt := 197) C dX11_set_173 (by decide) ?_
                  refine c_iinc (z := k) (j := 3) (lv2 := [(5, .int (iI (k + 1))), (3, .int (iI 6)), (6, .int (iI ok)), (4, .int (iI cm)), (2, .ref ob1), (0, .ref a0), (1, .int (iI i))]) C dX11_set_197 rfl (by decide) rfl ?_
                  refine c_goto (tgt := 55) C dX11_set_200 (by decide) ?_
                  refine hv2 (Xb2.ty tsk14) (Xb2.ty t_a0) (fun ty19 ty20 => ?_)
                  refine hv9 (show (-2147483648) ≤ ivb2 (sk 14) 0 ∧ ivb2 (sk 14) 0 ≤ 2147483647 from Wb2.int ty19 0) (show 0 ≤ ivb2 (sk 14) 1 ∧ ivb2 (sk 14) 1 ≤ 1 from Wb2.int ty19 1) (show 1 ≤ ivb2 a0 11 ∧ ivb2 a0 11 ≤ 100 from Wb2.int ty20 11) (show 1 ≤ ivb2 a0 12 ∧ ivb2 a0 12 ≤ 50 from Wb2.int ty20 12) (show (-2147483648) ≤ ivb2 a0 13 ∧ ivb2 a0 13 ≤ 2147483647 from Wb2.int ty20 13) (show (-2147483648) ≤ ivb2 a0 14 ∧ ivb2 a0 14 ≤ 2147483647 from Wb2.int ty20 14) (show (-2147483648) ≤ ivb2 a0 15 ∧ ivb2 a0 15 ≤ 2147483647 from Wb2.int ty20 15) (show (-2147483648) ≤ ivb2 a0 16 ∧ ivb2 a0 16 ≤ 2147483647 from Wb2.int ty20 16) (show 0 ≤ ivb2 (sk 14) 2 ∧ ivb2 (sk 14) 2 ≤ 1 from Wb2.int ty19 2) (fun ri70 ri71 ri72 ri73 ri74 ri75 ri76 ri77 ri78 => ?_)
                  refine c_lv (lv2 := [(3, .int (iI 6)), (4, .int (iI cm)), (5, .int (iI (k + 1))), (2, .ref ob1), (0, .ref a0), (1, .int (iI i))]) [1, 3, 0, 4, 5, 6] rfl ?_
                  exact ih1  6 cm (k + 1) _ _ _ _ _ (by omega) Xb2 Wb2 Fb2  (by omega) (by omega) (by omega) (by show 0 ≤ ivb2 (sk 14) 0 ∧ ivb2 (sk 14) 0 ≤ 501 ∧ (ivb2 (sk 14) 1 = 0 ∨ ivb2 (sk 14) 0 ≤ 500); omega) (by omega) h9b h10b (hQ.nor (by omega) (by decide)) hkp11 hkp12 hkp13 hkp14 hkp15 hkp16
              refine c_iconst C dX11_set_71 ?_
              refine c_istore (lv2 := [(6, .int (iI 1)), (3, .int (iI wy)), (4, .int (iI cm)), (5, .int (iI k)), (2, .ref ob1), (0, .ref a0), (1, .int (iI i))]) C dX11_set_72 (by decide) rfl ?_
              refine c_iload (j := 2) C dX11_set_74 rfl ?_
              refine c_iconst C dX11_set_76 ?_
              refine c_icmp_ne (tgt := 92) C (r32_c (lo := 0) (hi := 3) hcm.1 hcm.2 (by decide) (by decide)) ⟨by decide, by decide⟩ dX11_set_77 (by decide) (fun c6 => ?_) (fun c6 => ?_)
              · refine c_iload (j := 2) C dX11_set_92 rfl ?_
                refine c_iconst C dX11_set_94 ?_
                refine c_icmp_ne (tgt := 119) C (r32_c (lo := 0) (hi := 3) hcm.1 hcm.2 (by decide) (by decide)) ⟨by decide, by decide⟩ dX11_set_95 (by decide) (fun c7 => ?_) (fun c7 => ?_)
                · refine c_aload_n (j := 5) (x := a0) C dX11_set_119 rfl ?_
                  have ty21 := Xb1.ty t_a0
                  obtain ⟨rb9, rq9, trb9⟩ := Wb1.ref ty21 6 rfl rfl rfl
                  have erb9 := Wb1.sk trb9 (by decide) rfl
                  subst erb9
                  refine c_getr (k := 6) C ck_12 dX11_set_120 w2_50 (by decide) ty21 rfl rfl (by decide) rfl rq9 ?_
                  refine c_st (st2 := [.ref (sk 15)]) rfl ?_
                  refine c_aload_n (j := 4) (x := ob1) C dX11_set_123 rfl ?_
                  refine hv7 (Xb1.ty tsk15) (Xb1.ty tsB) (Xb1.ty tsA) (Xb1.ty tsk14) (Xb1.ty tob1) (show ivb1 ob1 0 = iv ob1 0 from Fb1.i tob1 rfl 0) (Phi.le Wb1 skb1) (fun ty22 ty23 ty24 ty25 ty26 ie83 pl7 => ?_)
                  refine hv5 (show (-2147483648) ≤ ivb1 (sk 14) 0 ∧ ivb1 (sk 14) 0 ≤ 2147483647 from Wb1.int ty25 0) (show 0 ≤ ivb1 (sk 14) 1 ∧ ivb1 (sk 14) 1 ≤ 1 from Wb1.int ty25 1) (show 0 ≤ ivb1 (sk 14) 2 ∧ ivb1 (sk 14) 2 ≤ 1 from Wb1.int ty25 2) (show 0 ≤ ivb1 (sk 15) 4 ∧ ivb1 (sk 15) 4 ≤ 500 from Wb1.int ty22 4) (show (-2147483648) ≤ ivb1 ob1 0 ∧ ivb1 ob1 0 ≤ 2147483647 from Wb1.int ty26 0) (fun ri79 ri80 ri81 ri82 ri83 => ?_)
                  refine d_callV (As := [.ref ob1]) (rest := []) C hM (G_setBy (a0 := (sk 15)) (a1 := ob1) Wb1 skb1 ty22 ty26  ) dX11_set_124 kV_X11_253 rfl ty22 rfl rfl (by decide) ck_7 rfl (Nat.le_of_ble_eq_true rfl) ⟨(Nat.le_of_ble_eq_true rfl), (Nat.le_of_ble_eq_true rfl)⟩ hph pl7 (show 0 + 0 = 0 from rfl) (by decide) (fun rh12 Lh12 clh12 lnh12 ivh12 rvh12 h12 => ?_)
                  obtain ⟨f10, rfl, rfl, rfl, rfl, rfl, fl10, W10, rgf10, exf10⟩ := h12
                  refine hv2 (Fb1.call Xb1 fl10 rfl) (MRK.call mrb1 Wb1 skb1 XT.refl fl10 rfl rfl) (fun F8 mr8 => ?_)
                  refine c_st (st2 := [.int (iI f10)]) rfl ?_
                  refine hv11 (show 0 ≤ ivh12 (sk 15) 4 ∧ ivh12 (sk 15) 4 ≤ 500 from W10.int ty22 4) (show 0 ≤ ivh12 (sk 15) 7 ∧ ivh12 (sk 15) 7 ≤ 100000 from W10.int ty22 7) (show ((f10 = 0 ∨ f10 = 6 ∨ f10 = 7) ∧ ivh12 (sk 15) 4 = ivb1 (sk 15) 4 ∧ (f10 = 0 → ivh12 (sk 15) 7 ≤ 200)) ∧ SBX sk lnb1 ivb1 rvb1 ivh12 (sk 15) ob1 f10 from exf10) (show (-2147483648) ≤ ivh12 (sk 14) 0 ∧ ivh12 (sk 14) 0 ≤ 2147483647 from W10.int ty25 0) (show ivh12 (sk 14) 0 = ivb1 (sk 14) 0 from fl10.i ty25 rfl 0) (show 0 ≤ ivh12 (sk 14) 1 ∧ ivh12 (sk 14) 1 ≤ 1 from W10.int ty25 1) (show ivh12 (sk 14) 1 = ivb1 (sk 14) 1 from fl10.i ty25 rfl 1) (show 0 ≤ ivh12 (sk 14) 2 ∧ ivh12 (sk 14) 2 ≤ 1 from W10.int ty25 2) (show ivh12 (sk 14) 2 = ivb1 (sk 14) 2 from fl10.i ty25 rfl 2) (show (-2147483648) ≤ ivh12 ob1 0 ∧ ivh12 ob1 0 ≤ 2147483647 from W10.int ty26 0) (show ivh12 ob1 0 = ivb1 ob1 0 from fl10.i ty26 rfl 0) (fun ri84 ri85 gf10 ri86 ie86 ri87 ie87 ri88 ie88 ri89 ie89 => ?_)
                  refine c_istore_n (lv2 := [(3, .int (iI f10)), (6, .int (iI 1)), (4, .int (iI cm)), (5, .int (iI k)), (2, .ref ob1), (0, .ref a0), (1, .int (iI i))]) C dX11_set_127 (by decide) rfl ?_
                  refine c_iload_n (j := 0) C dX11_set_128 rfl ?_
                  refine c_if_ne (tgt := 158) C (r32_067 gf10.1.1) dX11_set_129 (by decide) (fun c8 => ?_) (fun c8 => ?_)
                  · replace gf10 := (And.intro (And.intro (gf10.1.1.resolve_left c8) (And.intro gf10.1.2.1 trivial)) gf10.2)
                    refine c_iconst C dX11_set_158 ?_
                    refine c_goto (tgt := 163) C dX11_set_159 (by decide) ?_
                    refine c_istore (lv2 := [(6, .int (iI 1)), (3, .int (iI f10)), (4, .int (iI cm)), (5, .int (iI k)), (2, .ref ob1), (0, .ref a0), (1, .int (iI i))]) C dX11_set_163 (by decide) rfl ?_
                    refine hv12 (show 1 ≤ ivh12 a0 11 ∧ ivh12 a0 11 ≤ 100 from W10.int ty21 11) (show ivh12 a0 11 = ivb1 a0 11 from fl10.i ty21 rfl 11) (show 1 ≤ ivh12 a0 12 ∧ ivh12 a0 12 ≤ 50 from W10.int ty21 12) (show ivh12 a0 12 = ivb1 a0 12 from fl10.i ty21 rfl 12) (show (-2147483648) ≤ ivh12 a0 13 ∧ ivh12 a0 13 ≤ 2147483647 from W10.int ty21 13) (show ivh12 a0 13 = ivb1 a0 13 from fl10.i ty21 rfl 13) (show (-2147483648) ≤ ivh12 a0 14 ∧ ivh12 a0 14 ≤ 2147483647 from W10.int ty21 14) (show ivh12 a0 14 = ivb1 a0 14 from fl10.i ty21 rfl 14) (show (-2147483648) ≤ ivh12 a0 15 ∧ ivh12 a0 15 ≤ 2147483647 from W10.int ty21 15) (show ivh12 a0 15 = ivb1 a0 15 from fl10.i ty21 rfl 15) (show (-2147483648) ≤ ivh12 a0 16 ∧ ivh12 a0 16 ≤ 2147483647 from W10.int ty21 16) (show ivh12 a0 16 = ivb1 a0 16 from fl10.i ty21 rfl 16) (fun ri90 ie90 ri91 ie92 ri92 ie94 ri93 ie96 ri94 ie98 ri95 ie100 => ?_)
                    refine c_lv (lv2 := [(3, .int (iI f10)), (6, .int (iI 1)), (4, .int (iI cm)), (5, .int (iI k)), (2, .ref ob1), (0, .ref a0), (1, .int (iI i))]) [1, 0, 2, 3, 4, 5, 6] rfl ?_
                    exact J1  f10 1 _ _ _ _ _  Xb1 W10 F8  (by omega) (by omega) (by show 0 ≤ ivh12 (sk 14) 0 ∧ ivh12 (sk 14) 0 ≤ 501 ∧ (ivh12 (sk 14) 1 = 0 ∨ ivh12 (sk 14) 0 ≤ 500); omega) (by show k < 2 * ivh12 (sk 14) 0 + ivh12 (sk 14) 1; omega) h9 h10 (hP.bad (by omega) (by omega) (QT.of hW hS Xb1 Fb1 rfl rfl rfl rfl rfl) wkob1 Wb1 ty22 ty23 ty24 gf10.2 (by omega) fl10) (ie90.trans hkp11) (ie92.trans hkp12) (ie94.trans hkp13) (ie96.trans hkp14) (ie98.trans hkp15) (ie100.trans hkp16)
                  · replace gf10 := (And.intro (And.intro c8 (And.intro gf10.1.2.1 (gf10.1.2.2 c8))) gf10.2)
                    refine c_aload_n (j := 5) (x := a0) C dX11_set_132 rfl ?_
                    refine c_getr (k := 10) C ck_12 dX11_set_133 w2_54 (by decide) ty21 rfl rfl (by decide) rfl h10 ?_
                    refine c_st (st2 := [.ref sB]) rfl ?_
                    refine c_aload_n (j := 5) (x := a0) C dX11_set_136 rfl ?_
                    refine c_getr (k := 6) C ck_12 dX11_set_137 w2_50 (by decide) ty21 rfl rfl (by decide) rfl rq9 ?_
                    refine c_st (st2 := [.ref (sk 15), .ref sB]) rfl ?_
                    refine c_aload_n (j := 4) (x := ob1) C dX11_set_140 rfl ?_
                    refine c_get (k := 0) C ck_10 dX11_set_141 w2_176 (by decide) ty26 rfl rfl (by decide) rfl ?_
                    refine c_aload_n (j := 5) (x := a0) C dX11_set_144 rfl ?_
                    refine hv2 (show 1 ≤ ivh12 a0 11 ∧ ivh12 a0 11 ≤ 100 from W10.int ty21 11) (show ivh12 a0 11 = ivb1 a0 11 from fl10.i ty21 rfl 11) (fun ri96 ie102 => ?_)
                    refine c_get (k := 11) C ck_12 dX11_set_145 w2_55 (by decide) ty21 rfl rfl (by decide) rfl ?_
                    refine c_aload_n (j := 5) (x := a0) C dX11_set_148 rfl ?_
                    refine hv2 (show (-2147483648) ≤ ivh12 a0 13 ∧ ivh12 a0 13 ≤ 2147483647 from W10.int ty21 13) (show ivh12 a0 13 = ivb1 a0 13 from fl10.i ty21 rfl 13) (fun ri97 ie104 => ?_)
                    refine c_get (k := 13) C ck_12 dX11_set_149 w2_57 (by decide) ty21 rfl rfl (by decide) rfl ?_
                    refine hv2 (show (-2147483648) ≤ ivh12 sB 2 ∧ ivh12 sB 2 ≤ 2147483647 from W10.int ty23 2) (show ivh12 sB 2 = ivb1 sB 2 from fl10.i ty23 rfl 2) (fun ri98 ie106 => ?_)
                    refine d_callV (As := [.ref (sk 15), .int (iI (ivh12 ob1 0)), .int (iI (ivh12 a0 11)), .int (iI (ivh12 a0 13))]) (rest := []) C hM (G_take (a0 := sB) (a1 := (sk 15)) (x := ivh12 ob1 0) (w1 := ivh12 a0 11) (h1 := ivh12 a0 13) W10 skb1 ty23 ty22 (by omega) (by omega) (by omega) (by show 1 ≤ (ivh12 a0 11) ∧ (ivh12 a0 11) ≤ 100; omega)) dX11_set_152 kV_X11_256 rfl ty23 rfl rfl (by decide) ck_8 rfl (Nat.le_of_ble_eq_true rfl) ⟨(Nat.le_of_ble_eq_true rfl), (Nat.le_of_ble_eq_true rfl)⟩ hph pl7 (show 0 + 0 = 0 from rfl) (by decide) (fun rh13 Lh13 clh13 lnh13 ivh13 rvh13 h13 => ?_)
                    obtain ⟨f11, rfl, xl11, fl11, W11, rgf11, exf11⟩ := h13
                    refine hv13 (F8.call Xb1 fl11 rfl) (MRK.call mr8 W10 skb1 xl11 fl11 rfl rfl) (Xb1.ty tsk2) (Xb1.ty tsk3) (Xb1.ty tsk4) (Xb1.ty tsk5) (Xb1.ty tsk13) (Xb1.ty tsk16) (Xb1.ty tsk17) (Xb1.ty tsk22) (Xb1.ty tsk23) (Xb1.trans xl11) (xl11.skl skb1) (fun F9 mr9 ty27 ty28 ty29 ty30 ty31 ty32 ty33 ty34 ty35 X1 sk1 => ?_)
                    refine c_st (st2 := [.int (iI f11)]) rfl ?_
                    refine hv6 (xl11.ty ty23) (show ivh13 sB 2 = ivh12 sB 2 ∧ TKE Lb1 clb1 ivh12 rvb1 ivh13 rvh13 sB (sk 15) (ivh12 ob1 0) (ivh12 a0 11) (ivh12 a0 13) f11 from exf11) (xl11.ty ty25) (show ivh13 (sk 14) 0 = ivh12 (sk 14) 0 from fl11.i ty25 rfl 0) (show ivh13 (sk 14) 1 = ivh12 (sk 14) 1 from fl11.i ty25 rfl 1) (show ivh13 (sk 14) 2 = ivh12 (sk 14) 2 from fl11.i ty25 rfl 2) (fun ty36 gf11 ty37 ie109 ie110 ie111 => ?_)
                    refine hv4 (show (-2147483648) ≤ ivh13 sB 2 ∧ ivh13 sB 2 ≤ 2147483647 from W11.int ty36 2) (show (-2147483648) ≤ ivh13 (sk 14) 0 ∧ ivh13 (sk 14) 0 ≤ 2147483647 from W11.int ty37 0) (show 0 ≤ ivh13 (sk 14) 1 ∧ ivh13 (sk 14) 1 ≤ 1 from W11.int ty37 1) (show 0 ≤ ivh13 (sk 14) 2 ∧ ivh13 (sk 14) 2 ≤ 1 from W11.int ty37 2) (fun ri99 ri100 ri101 ri102 => ?_)
                    refine c_if_eq (tgt := 162) C ⟨by omega, by omega⟩ dX11_set_155 (by decide) (fun c9 => ?_) (fun c9 => ?_)
                    · refine c_iconst C dX11_set_162 ?_
                      refine c_istore (lv2 := [(6, .int (iI 0)), (3, .int (iI f10)), (4, .int (iI cm)), (5, .int (iI k)), (2, .ref ob1), (0, .ref a0), (1, .int (iI i))]) C dX11_set_163 (by decide) rfl ?_
                      refine hv12 (xl11.ty ty21) (show ivh13 a0 11 = ivh12 a0 11 from fl11.i ty21 rfl 11) (show ivh13 a0 12 = ivh12 a0 12 from fl11.i ty21 rfl 12) (show ivh12 a0 12 = ivb1 a0 12 from fl10.i ty21 rfl 12) (show ivh13 a0 13 = ivh12 a0 13 from fl11.i ty21 rfl 13) (show ivh13 a0 14 = ivh12 a0 14 from fl11.i ty21 rfl 14) (show ivh12 a0 14 = ivb1 a0 14 from fl10.i ty21 rfl 14) (show ivh13 a0 15 = ivh12 a0 15 from fl11.i ty21 rfl 15) (show ivh12 a0 15 = ivb1 a0 15 from fl10.i ty21 rfl 15) (show ivh13 a0 16 = ivh12 a0 16 from fl11.i ty21 rfl 16) (show ivh12 a0 16 = ivb1 a0 16 from fl10.i ty21 rfl 16) (show rvh13 a0 9 = rvb1 a0 9 from (fl11.r ty21 rfl 9)) (fun ty38 ie112 ie113 ie114 ie116 ie117 ie118 ie120 ie121 ie123 ie124 re1 => ?_)
                      refine hv6 (show 1 ≤ ivh13 a0 11 ∧ ivh13 a0 11 ≤ 100 from W11.int ty38 11) (show 1 ≤ ivh13 a0 12 ∧ ivh13 a0 12 ≤ 50 from W11.int ty38 12) (show (-2147483648) ≤ ivh13 a0 13 ∧ ivh13 a0 13 ≤ 2147483647 from W11.int ty38 13) (show (-2147483648) ≤ ivh13 a0 14 ∧ ivh13 a0 14 ≤ 2147483647 from W11.int ty38 14) (show (-2147483648) ≤ ivh13 a0 15 ∧ ivh13 a0 15 ≤ 2147483647 from W11.int ty38 15) (show (-2147483648) ≤ ivh13 a0 16 ∧ ivh13 a0 16 ≤ 2147483647 from W11.int ty38 16) (fun ri103 ri104 ri105 ri106 ri107 ri108 => ?_)
                      rw [h9] at re1
                      have re2 : rvh13 a0 10 = rvb1 a0 10 := (fl11.r ty21 rfl 10)
                      rw [h10] at re2
                      refine c_lv (lv2 := [(3, .int (iI f10)), (6, .int (iI 0)), (4, .int (iI cm)), (5, .int (iI k)), (2, .ref ob1), (0, .ref a0), (1, .int (iI i))]) [1, 0, 2, 3, 4, 5, 6] rfl ?_
                      exact J1  f10 0 _ _ _ _ _  X1 W11 F9  (by omega) (by omega) (by show 0 ≤ ivh13 (sk 14) 0 ∧ ivh13 (sk 14) 0 ≤ 501 ∧ (ivh13 (sk 14) 1 = 0 ∨ ivh13 (sk 14) 0 ≤ 500); omega) (by show k < 2 * ivh13 (sk 14) 0 + ivh13 (sk 14) 1; omega) re1 re2 (hP.word (by omega) (by omega) (QT.of hW hS Xb1 Fb1 rfl rfl rfl rfl rfl) wkob1 Wb1 W10 ty22 ty23 ty24 gf10.2 (by omega) fl10 (by omega) (by omega) (by have q := gf11.2; rw [show ivh12 a0 11 = iv a0 11 by omega, show ivh12 a0 13 = iv a0 13 by omega] at q; exact q) gf11.1 (by omega) (by omega) (by omega) (by omega)) (ie112.trans (ie102.trans hkp11)) (ie113.trans (ie114.trans hkp12)) (ie116.trans (ie104.trans hkp13)) (ie117.trans (ie118.trans hkp14)) (ie120.trans (ie121.trans hkp15)) (ie123.trans (ie124.trans hkp16))
                    · refine c_iconst C dX11_set_158 ?_
                      refine c_goto (tgt := 163) C dX11_set_159 (by decide) ?_
                      refine c_istore (lv2 := [(6, .int (iI 1)), (3, .int (iI f10)), (4, .int (iI cm)), (5, .int (iI k)), (2, .ref ob1), (0, .ref a0), (1, .int (iI i))]) C dX11_set_163 (by decide) rfl ?_
                      refine hv12 (xl11.ty ty21) (show ivh13 a0 11 = ivh12 a0 11 from fl11.i ty21 rfl 11) (show ivh13 a0 12 = ivh12 a0 12 from fl11.i ty21 rfl 12) (show ivh12 a0 12 = ivb1 a0 12 from fl10.i ty21 rfl 12) (show ivh13 a0 13 = ivh12 a0 13 from fl11.i ty21 rfl 13) (show ivh13 a0 14 = ivh12 a0 14 from fl11.i ty21 rfl 14) (show ivh12 a0 14 = ivb1 a0 14 from fl10.i ty21 rfl 14) (show ivh13 a0 15 = ivh12 a0 15 from fl11.i ty21 rfl 15) (show ivh12 a0 15 = ivb1 a0 15 from fl10.i ty21 rfl 15) (show ivh13 a0 16 = ivh12 a0 16 from fl11.i ty21 rfl 16) (show ivh12 a0 16 = ivb1 a0 16 from fl10.i ty21 rfl 16) (show rvh13 a0 9 = rvb1 a0 9 from (fl11.r ty21 rfl 9)) (fun ty39 ie126 ie127 ie128 ie130 ie131 ie132 ie134 ie135 ie137 ie138 re3 => ?_)
                      refine hv6 (show 1 ≤ ivh13 a0 11 ∧ ivh13 a0 11 ≤ 100 from W11.int ty39 11) (show 1 ≤ ivh13 a0 12 ∧ ivh13 a0 12 ≤ 50 from W11.int ty39 12) (show (-2147483648) ≤ ivh13 a0 13 ∧ ivh13 a0 13 ≤ 2147483647 from W11.int ty39 13) (show (-2147483648) ≤ ivh13 a0 14 ∧ ivh13 a0 14 ≤ 2147483647 from W11.int ty39 14) (show (-2147483648) ≤ ivh13 a0 15 ∧ ivh13 a0 15 ≤ 2147483647 from W11.int ty39 15) (show (-2147483648) ≤ ivh13 a0 16 ∧ ivh13 a0 16 ≤ 2147483647 from W11.int ty39 16) (fun ri109 ri110 ri111 ri112 ri113 ri114 => ?_)
                      rw [h9] at re3
                      have re4 : rvh13 a0 10 = rvb1 a0 10 := (fl11.r ty21 rfl 10)
                      rw [h10] at re4
                      refine c_lv (lv2 := [(3, .int (iI f10)), (6, .int (iI 1)), (4, .int (iI cm)), (5, .int (iI k)), (2, .ref ob1), (0, .ref a0), (1, .int (iI i))]) [1, 0, 2, 3, 4, 5, 6] rfl ?_
                      exact J1  f10 1 _ _ _ _ _  X1 W11 F9  (by omega) (by omega) (by show 0 ≤ ivh13 (sk 14) 0 ∧ ivh13 (sk 14) 0 ≤ 501 ∧ (ivh13 (sk 14) 1 = 0 ∨ ivh13 (sk 14) 0 ≤ 500); omega) (by show k < 2 * ivh13 (sk 14) 0 + ivh13 (sk 14) 1; omega) re3 re4 (hP.word (by omega) (by omega) (QT.of hW hS Xb1 Fb1 rfl rfl rfl rfl rfl) wkob1 Wb1 W10 ty22 ty23 ty24 gf10.2 (by omega) fl10 (by omega) (by omega) (by have q := gf11.2; rw [show ivh12 a0 11 = iv a0 11 by omega, show ivh12 a0 13 = iv a0 13 by omega] at q; exact q) gf11.1 (by omega) (by omega) (by omega) (by omega)) (ie126.trans (ie102.trans hkp11)) (ie127.trans (ie128.trans hkp12)) (ie130.trans (ie104.trans hkp13)) (ie131.trans (ie132.trans hkp14)) (ie134.trans (ie135.trans hkp15)) (ie137.trans (ie138.trans hkp16))
                · refine c_aload_n (j := 5) (x := a0) C dX11_set_98 rfl ?_
                  have ty40 := Xb1.ty t_a0
                  refine c_getr (k := 10) C ck_12 dX11_set_99 w2_54 (by decide) ty40 rfl rfl (by decide) rfl h10 ?_
                  refine c_st (st2 := [.ref sB]) rfl ?_
                  refine c_aload_n (j := 5) (x := a0) C dX11_set_102 rfl ?_
                  obtain ⟨rb10, rq10, trb10⟩ := Wb1.ref ty40 5 rfl rfl rfl
                  have erb10 := Wb1.sk trb10 (by decide) rfl
                  subst erb10
                  refine c_getr (k := 5) C ck_12 dX11_set_103 w2_49 (by decide) ty40 rfl rfl (by decide) rfl rq10 ?_
                  refine c_st (st2 := [.ref (sk 14), .ref sB]) rfl ?_
                  have ty41 := Xb1.ty tsk14
                  have ri115 : 0 ≤ ivb1 (sk 14) 2 ∧ ivb1 (sk 14) 2 ≤ 1 := Wb1.int ty41 2
                  refine c_get (k := 2) C ck_9 dX11_set_106 w1_106 (by decide) ty41 rfl rfl (by decide) rfl ?_
                  refine c_aload_n (j := 5) (x := a0) C dX11_set_109 rfl ?_
                  have ri116 : 1 ≤ ivb1 a0 11 ∧ ivb1 a0 11 ≤ 100 := Wb1.int ty40 11
                  refine c_get (k := 11) C ck_12 dX11_set_110 w2_55 (by decide) ty40 rfl rfl (by decide) rfl ?_
                  refine hv5 (Xb1.ty tsA) (show (-2147483648) ≤ ivb1 (sk 14) 0 ∧ ivb1 (sk 14) 0 ≤ 2147483647 from Wb1.int ty41 0) (show 0 ≤ ivb1 (sk 14) 1 ∧ ivb1 (sk 14) 1 ≤ 1 from Wb1.int ty41 1) (Xb1.ty tsB) (Phi.le Wb1 skb1) (fun ty42 ri117 ri118 ty43 pl8 => ?_)
                  refine d_callV (As := [.int (iI (ivb1 (sk 14) 2)), .int (iI (ivb1 a0 11))]) (rest := []) C hM (G_endText (a0 := sB) (g := ivb1 (sk 14) 2) (w1 := ivb1 a0 11) Wb1 skb1 ty43 (by omega) (by omega) (by show 1 ≤ (ivb1 a0 11) ∧ (ivb1 a0 11) ≤ 100; omega)) dX11_set_113 kV_X11_249 rfl ty43 rfl rfl (by decide) ck_8 rfl (Nat.le_of_ble_eq_true rfl) ⟨(Nat.le_of_ble_eq_true rfl), (Nat.le_of_ble_eq_true rfl)⟩ hph pl8 (show 0 + 0 = 0 from rfl) (by decide) (fun rh14 Lh14 clh14 lnh14 ivh14 rvh14 h14 => ?_)
                  obtain ⟨rfl, rfl, rfl, rfl, rfl, fl12, W12, exf12⟩ := h14
                  refine hv2 (Fb1.call Xb1 fl12 rfl) (MRK.call mrb1 Wb1 skb1 XT.refl fl12 rfl rfl) (fun F10 mr10 => ?_)
                  refine c_st (st2 := []) rfl ?_
                  refine hv7 (show ENX Lb1 clb1 ivb1 rvb1 ivh14 sB (ivb1 (sk 14) 2) (ivb1 a0 11) from exf12) (show (-2147483648) ≤ ivh14 (sk 14) 0 ∧ ivh14 (sk 14) 0 ≤ 2147483647 from W12.int ty41 0) (show ivh14 (sk 14) 0 = ivb1 (sk 14) 0 from fl12.i ty41 rfl 0) (show 0 ≤ ivh14 (sk 14) 1 ∧ ivh14 (sk 14) 1 ≤ 1 from W12.int ty41 1) (show ivh14 (sk 14) 1 = ivb1 (sk 14) 1 from fl12.i ty41 rfl 1) (show 0 ≤ ivh14 (sk 14) 2 ∧ ivh14 (sk 14) 2 ≤ 1 from W12.int ty41 2) (show ivh14 (sk 14) 2 = ivb1 (sk 14) 2 from fl12.i ty41 rfl 2) (fun gf12 ri119 ie144 ri120 ie145 ri121 ie146 => ?_)
                  refine c_goto (tgt := 165) C dX11_set_116 (by decide) ?_
                  refine hv12 (show 1 ≤ ivh14 a0 11 ∧ ivh14 a0 11 ≤ 100 from W12.int ty40 11) (show ivh14 a0 11 = ivb1 a0 11 from fl12.i ty40 rfl 11) (show 1 ≤ ivh14 a0 12 ∧ ivh14 a0 12 ≤ 50 from W12.int ty40 12) (show ivh14 a0 12 = ivb1 a0 12 from fl12.i ty40 rfl 12) (show (-2147483648) ≤ ivh14 a0 13 ∧ ivh14 a0 13 ≤ 2147483647 from W12.int ty40 13) (show ivh14 a0 13 = ivb1 a0 13 from fl12.i ty40 rfl 13) (show (-2147483648) ≤ ivh14 a0 14 ∧ ivh14 a0 14 ≤ 2147483647 from W12.int ty40 14) (show ivh14 a0 14 = ivb1 a0 14 from fl12.i ty40 rfl 14) (show (-2147483648) ≤ ivh14 a0 15 ∧ ivh14 a0 15 ≤ 2147483647 from W12.int ty40 15) (show ivh14 a0 15 = ivb1 a0 15 from fl12.i ty40 rfl 15) (show (-2147483648) ≤ ivh14 a0 16 ∧ ivh14 a0 16 ≤ 2147483647 from W12.int ty40 16) (show ivh14 a0 16 = ivb1 a0 16 from fl12.i ty40 rfl 16) (fun ri122 ie147 ri123 ie148 ri124 ie150 ri125 ie152 ri126 ie154 ri127 ie156 => ?_)
                  refine c_lv (lv2 := [(3, .int (iI wy)), (6, .int (iI 1)), (4, .int (iI cm)), (5, .int (iI k)), (2, .ref ob1), (0, .ref a0), (1, .int (iI i))]) [1, 0, 2, 3, 4, 5, 6] rfl ?_
                  exact J1  wy 1 _ _ _ _ _  Xb1 W12 F10  (by omega) (by omega) (by show 0 ≤ ivh14 (sk 14) 0 ∧ ivh14 (sk 14) 0 ≤ 501 ∧ (ivh14 (sk 14) 1 = 0 ∨ ivh14 (sk 14) 0 ≤ 500); omega) (by show k < 2 * ivh14 (sk 14) 0 + ivh14 (sk 14) 1; omega) h9 h10 (hP.end_ (x := ivb1 (sk 14) 2) (by omega) (by omega) ty42 (by have q := gf12; rw [show ivb1 a0 11 = iv a0 11 by omega] at q; exact q) rfl (by omega) (by omega) rfl) (ie147.trans hkp11) (ie148.trans hkp12) (ie150.trans hkp13) (ie152.trans hkp14) (ie154.trans hkp15) (ie156.trans hkp16)
              · refine c_aload_n (j := 5) (x := a0) C dX11_set_80 rfl ?_
                have ty44 := Xb1.ty t_a0
                refine c_getr (k := 10) C ck_12 dX11_set_81 w2_54 (by decide) ty44 rfl rfl (by decide) rfl h10 ?_
                refine c_st (st2 := [.ref sB]) rfl ?_
                refine hv4 (Xb1.ty tsA) (Xb1.ty tsk14) (Xb1.ty tsB) (Phi.le Wb1 skb1) (fun ty45 ty46 ty47 pl9 => ?_)
                refine hv3 (show (-2147483648) ≤ ivb1 (sk 14) 0 ∧ ivb1 (sk 14) 0 ≤ 2147483647 from Wb1.int ty46 0) (show 0 ≤ ivb1 (sk 14) 1 ∧ ivb1 (sk 14) 1 ≤ 1 from Wb1.int ty46 1) (show 0 ≤ ivb1 (sk 14) 2 ∧ ivb1 (sk 14) 2 ≤ 1 from Wb1.int ty46 2) (fun ri128 ri129 ri130 => ?_)
                refine d_callV (As := []) (rest := []) C hM (G_beginText (a0 := sB) Wb1 skb1 ty47  ) dX11_set_84 kV_X11_243 rfl ty47 rfl rfl (by decide) ck_8 rfl (Nat.le_of_ble_eq_true rfl) ⟨(Nat.le_of_ble_eq_true rfl), (Nat.le_of_ble_eq_true rfl)⟩ hph pl9 (show 0 + 0 = 0 from rfl) (by decide) (fun rh15 Lh15 clh15 lnh15 ivh15 rvh15 h15 => ?_)
                obtain ⟨f13, rfl, xl13, fl13, W13, rgf13, exf13⟩ := h15
                refine hv15 (Fb1.call Xb1 fl13 rfl) (MRK.call mrb1 Wb1 skb1 xl13 fl13 rfl rfl) (Xb1.ty tsk2) (Xb1.ty tsk3) (Xb1.ty tsk4) (Xb1.ty tsk5) (Xb1.ty tsk13) (Xb1.ty tsk15) (Xb1.ty tsk16) (Xb1.ty tsk17) (Xb1.ty tsk22) (Xb1.ty tsk23) (Xb1.ty tob1) (Xb1.trans xl13) (xl13.skl skb1) (fun F11 mr11 ty48 ty49 ty50 ty51 ty52 ty53 ty54 ty55 ty56 ty57 ty58 X2 sk2 => ?_)
                refine c_st (st2 := [.int (iI f13)]) rfl ?_
                refine hv5 (show BTX Lb1 clb1 ivb1 rvb1 ivh15 rvh15 sB f13 from exf13) (xl13.ty ty46) (show ivh15 (sk 14) 0 = ivb1 (sk 14) 0 from fl13.i ty46 rfl 0) (show ivh15 (sk 14) 1 = ivb1 (sk 14) 1 from fl13.i ty46 rfl 1) (show ivh15 (sk 14) 2 = ivb1 (sk 14) 2 from fl13.i ty46 rfl 2) (fun gf13 ty59 ie161 ie162 ie163 => ?_)
                refine hv3 (show (-2147483648) ≤ ivh15 (sk 14) 0 ∧ ivh15 (sk 14) 0 ≤ 2147483647 from W13.int ty59 0) (show 0 ≤ ivh15 (sk 14) 1 ∧ ivh15 (sk 14) 1 ≤ 1 from W13.int ty59 1) (show 0 ≤ ivh15 (sk 14) 2 ∧ ivh15 (sk 14) 2 ≤ 1 from W13.int ty59 2) (fun ri131 ri132 ri133 => ?_)
                refine c_istore (lv2 := [(6, .int (iI f13)), (3, .int (iI wy)), (4, .int (iI cm)), (5, .int (iI k)), (2, .ref ob1), (0, .ref a0), (1, .int (iI i))]) C dX11_set_87 (by decide) rfl ?_
                refine c_goto (tgt := 165) C dX11_set_89 (by decide) ?_
                refine hv8 (xl13.ty ty44) (show ivh15 a0 11 = ivb1 a0 11 from fl13.i ty44 rfl 11) (show ivh15 a0 12 = ivb1 a0 12 from fl13.i ty44 rfl 12) (show ivh15 a0 13 = ivb1 a0 13 from fl13.i ty44 rfl 13) (show ivh15 a0 14 = ivb1 a0 14 from fl13.i ty44 rfl 14) (show ivh15 a0 15 = ivb1 a0 15 from fl13.i ty44 rfl 15) (show ivh15 a0 16 = ivb1 a0 16 from fl13.i ty44 rfl 16) (show rvh15 a0 9 = rvb1 a0 9 from (fl13.r ty44 rfl 9)) (fun ty60 ie164 ie166 ie168 ie170 ie172 ie174 re5 => ?_)
                refine hv6 (show 1 ≤ ivh15 a0 11 ∧ ivh15 a0 11 ≤ 100 from W13.int ty60 11) (show 1 ≤ ivh15 a0 12 ∧ ivh15 a0 12 ≤ 50 from W13.int ty60 12) (show (-2147483648) ≤ ivh15 a0 13 ∧ ivh15 a0 13 ≤ 2147483647 from W13.int ty60 13) (show (-2147483648) ≤ ivh15 a0 14 ∧ ivh15 a0 14 ≤ 2147483647 from W13.int ty60 14) (show (-2147483648) ≤ ivh15 a0 15 ∧ ivh15 a0 15 ≤ 2147483647 from W13.int ty60 15) (show (-2147483648) ≤ ivh15 a0 16 ∧ ivh15 a0 16 ≤ 2147483647 from W13.int ty60 16) (fun ri134 ri135 ri136 ri137 ri138 ri139 => ?_)
                rw [h9] at re5
                have re6 : rvh15 a0 10 = rvb1 a0 10 := (fl13.r ty44 rfl 10)
                rw [h10] at re6
                refine c_lv (lv2 := [(3, .int (iI wy)), (6, .int (iI f13)), (4, .int (iI cm)), (5, .int (iI k)), (2, .ref ob1), (0, .ref a0), (1, .int (iI i))]) [1, 0, 2, 3, 4, 5, 6] rfl ?_
                exact J1  wy f13 _ _ _ _ _  X2 W13 F11  (by omega) (by omega) (by show 0 ≤ ivh15 (sk 14) 0 ∧ ivh15 (sk 14) 0 ≤ 501 ∧ (ivh15 (sk 14) 1 = 0 ∨ ivh15 (sk 14) 0 ≤ 500); omega) (by show k < 2 * ivh15 (sk 14) 0 + ivh15 (sk 14) 1; omega) re5 re6 (hP.beg (by omega) (by omega) wkob1 ty45 gf13 (by omega) (by omega) (by omega) (by omega)) (ie164.trans hkp11) (ie166.trans hkp12) (ie168.trans hkp13) (ie170.trans hkp14) (ie172.trans hkp15) (ie174.trans hkp16)
    refine hv24 (show 1 ≤ ivh4 a0 11 ∧ ivh4 a0 11 ≤ 100 from W4.int t_a0 11) (show ivh4 a0 11 = ivh3 a0 11 from fl4.i t_a0 rfl 11) (show ivh3 a0 11 = ivh2 a0 11 from fl3.i t_a0 rfl 11) (show ivh2 a0 11 = iv a0 11 from fl2.i t_a0 rfl 11) (show 1 ≤ ivh4 a0 12 ∧ ivh4 a0 12 ≤ 50 from W4.int t_a0 12) (show ivh4 a0 12 = ivh3 a0 12 from fl4.i t_a0 rfl 12) (show ivh3 a0 12 = ivh2 a0 12 from fl3.i t_a0 rfl 12) (show ivh2 a0 12 = iv a0 12 from fl2.i t_a0 rfl 12) (show (-2147483648) ≤ ivh4 a0 13 ∧ ivh4 a0 13 ≤ 2147483647 from W4.int t_a0 13) (show ivh4 a0 13 = ivh3 a0 13 from fl4.i t_a0 rfl 13) (show ivh3 a0 13 = ivh2 a0 13 from fl3.i t_a0 rfl 13) (show ivh2 a0 13 = iv a0 13 from fl2.i t_a0 rfl 13) (show (-2147483648) ≤ ivh4 a0 14 ∧ ivh4 a0 14 ≤ 2147483647 from W4.int t_a0 14) (show ivh4 a0 14 = ivh3 a0 14 from fl4.i t_a0 rfl 14) (show ivh3 a0 14 = ivh2 a0 14 from fl3.i t_a0 rfl 14) (show ivh2 a0 14 = iv a0 14 from fl2.i t_a0 rfl 14) (show (-2147483648) ≤ ivh4 a0 15 ∧ ivh4 a0 15 ≤ 2147483647 from W4.int t_a0 15) (show ivh4 a0 15 = ivh3 a0 15 from fl4.i t_a0 rfl 15) (show ivh3 a0 15 = ivh2 a0 15 from fl3.i t_a0 rfl 15) (show ivh2 a0 15 = iv a0 15 from fl2.i t_a0 rfl 15) (show (-2147483648) ≤ ivh4 a0 16 ∧ ivh4 a0 16 ≤ 2147483647 from W4.int t_a0 16) (show ivh4 a0 16 = ivh3 a0 16 from fl4.i t_a0 rfl 16) (show ivh3 a0 16 = ivh2 a0 16 from fl3.i t_a0 rfl 16) (show ivh2 a0 16 = iv a0 16 from fl2.i t_a0 rfl 16) (fun ri140 ie176 ie177 ie178 ri141 ie179 ie180 ie181 ri142 ie182 ie183 ie184 ri143 ie185 ie186 ie187 ri144 ie188 ie189 ie190 ri145 ie191 ie192 ie193 => ?_)
    refine c_lv (lv2 := [(3, .int (iI 0)), (4, .int (iI f4)), (5, .int (iI 0)), (2, .ref ob1), (0, .ref a0), (1, .int (iI i))]) [2, 1, 0, 3, 4, 5] rfl ?_
    exact Lp1 1103 0 f4 0 _ _ _ _ _ (by omega) hX0 W4 F3  (by omega) (by omega) (by omega) (by show 0 ≤ ivh4 (sk 14) 0 ∧ ivh4 (sk 14) 0 ≤ 501 ∧ (ivh4 (sk 14) 1 = 0 ∨ ivh4 (sk 14) 0 ≤ 500); omega) (by omega) hsA hsB (PSL.init hW tsB tsA exf2 W2 fl3 W3 (by omega) (by omega) fl4 F2 rfl rfl tsk3 gf4.2 rfl) (ie176.trans (ie177.trans ie178)) (ie179.trans (ie180.trans ie181)) (ie182.trans (ie183.trans ie184)) (ie185.trans (ie186.trans ie187)) (ie188.trans (ie189.trans ie190)) (ie191.trans (ie192.trans ie193))
  · subst oq1
    refine c_lv (lv2 := [(2, .null), (0, .ref a0), (1, .int (iI i))]) [0, 1, 2] rfl ?_
    refine c_st (st2 := []) rfl ?_
    refine c_aload_n (j := 1) (x := a0) C dX11_set_13 rfl ?_
    refine c_iconst C dX11_set_14 ?_
    refine d_callV (As := [.int (iI 3)]) (rest := []) C hM (C_refuse (a0 := a0) (x := 3) hW hS t_a0 ⟨by decide, by decide⟩ ) dX11_set_15 kV_X11_102 rfl t_a0 rfl rfl (by decide) ck_12 rfl (Nat.le_of_ble_eq_true rfl) ⟨(Nat.le_of_ble_eq_true rfl), (Nat.le_of_ble_eq_true rfl)⟩ hph hph (show 0 + 0 = 0 from rfl) (by decide) (fun rh16 Lh16 clh16 lnh16 ivh16 rvh16 h16 => ?_)
    obtain ⟨f14, rfl, rfl, rfl, rfl, rfl, fl14, W14, rgf14, exf14, kp11f14, kp12f14, kp13f14, kp14f14, kp15f14, kp16f14⟩ := h16
    refine hv6 (show 1 ≤ iv a0 12 ∧ iv a0 12 ≤ 50 from hW.int t_a0 12) (show (-2147483648) ≤ iv a0 14 ∧ iv a0 14 ≤ 2147483647 from hW.int t_a0 14) (show (-2147483648) ≤ iv a0 15 ∧ iv a0 15 ≤ 2147483647 from hW.int t_a0 15) (show (-2147483648) ≤ iv a0 16 ∧ iv a0 16 ≤ 2147483647 from hW.int t_a0 16) (hF0.call hX0 fl14 rfl) (MRK.call hmr hW hS XT.refl fl14 rfl rfl) (fun ri146 ri147 ri148 ri149 F12 mr12 => ?_)
    refine c_st (st2 := [.int (iI f14)]) rfl ?_
    refine hv13 (show ivh16 a0 11 = iv a0 11 from kp11f14) (show ivh16 a0 12 = iv a0 12 from kp12f14) (show ivh16 a0 13 = iv a0 13 from kp13f14) (show ivh16 a0 14 = iv a0 14 from kp14f14) (show ivh16 a0 15 = iv a0 15 from kp15f14) (show ivh16 a0 16 = iv a0 16 from kp16f14) (show f14 = -1 from exf14) (show 1 ≤ ivh16 a0 11 ∧ ivh16 a0 11 ≤ 100 from W14.int t_a0 11) (show 1 ≤ ivh16 a0 12 ∧ ivh16 a0 12 ≤ 50 from W14.int t_a0 12) (show (-2147483648) ≤ ivh16 a0 13 ∧ ivh16 a0 13 ≤ 2147483647 from W14.int t_a0 13) (show (-2147483648) ≤ ivh16 a0 14 ∧ ivh16 a0 14 ≤ 2147483647 from W14.int t_a0 14) (show (-2147483648) ≤ ivh16 a0 15 ∧ ivh16 a0 15 ≤ 2147483647 from W14.int t_a0 15) (show (-2147483648) ≤ ivh16 a0 16 ∧ ivh16 a0 16 ≤ 2147483647 from W14.int t_a0 16) (fun gk11f14 gk12f14 gk13f14 gk14f14 gk15f14 gk16f14 gf14 ri150 ri151 ri152 ri153 ri154 ri155 => ?_)
    exact c_iret C dX11_set_18 rfl (by decide) (rom0 hph hph (by decide)) ⟨f14, rfl, hX0, F12, W14, ⟨by omega, by omega⟩, trivial, gk11f14, gk12f14, gk13f14, gk14f14, gk15f14, gk16f14, (PSX.n1 gf1 hW tsB tsA hsA hsB fl14 rfl rfl rfl rfl (by omega))⟩
end
section
theorem PO2_set {l : Launch} {G : GT} {mi h0 : Nat} {i : Int} (h_i : -2147483648 ≤ i ∧ i ≤ 2147483647) : PressOp l G mi yX11_set cX11_set 7 (some .int) 8 [.int (iI i)] h0 (fun sk L cl ln iv rv L2 cl2 ln2 iv2 rv2 f => ((PSX sk ln iv rv iv2 rv2 h0 (iv h0 11) (iv h0 13) i f) ∧ (True ∧ True ∧ iv2 h0 15 = iv h0 15 ∧ iv2 h0 16 = iv h0 16 ∧ (iv2 (sk 5) 2 = iv (sk 5) 2 ∧ ∀ ss, CT iv rv (sk 5) ss → CT iv2 rv2 (sk 5) ss) ∧ (iv2 (sk 4) 2 = iv (sk 4) 2 ∧ ∀ ss, CT iv rv (sk 4) ss → CT iv2 rv2 (sk 4) ss) ∧ FKP sk iv rv iv2 rv2)) ∧ (iv2 h0 14 = iv h0 14 ∧ iv2 h0 11 = iv h0 11 ∧ iv2 h0 12 = iv h0 12 ∧ iv2 h0 13 = iv h0 13) ∧ (iv2 (sk 2) 2 = iv (sk 2) 2 ∧ (∀ ss, CT iv rv (sk 2) ss → CT iv2 rv2 (sk 2) ss)) ∧ (iv2 (sk 3) 2 = iv (sk 3) 2 ∧ (∀ tt, CT iv rv (sk 3) tt → CT iv2 rv2 (sk 3) tt)) ∧ PSAME sk iv rv iv2 rv2 ∧ (∃ g, WT g sk L cl ln iv rv ∧ WT g sk L2 cl2 ln2 iv2 rv2) ∧ SKL sk L cl ∧ XT L cl ln L2 cl2 ln2 ∧ (KP L cl (fun _ => False) (fun _ => False) (fun _ => False) (fun _ => False) (fun _ _ => False) iv rv iv2 rv2)) := by
  intro n L cl ln iv rv sk hn hp
  obtain ⟨hW, hS, hm, h23, ht⟩ := hp
  refine hv3 (show ty L cl (sk 23) 23 from ⟨(hS 23 rfl).1, by rw [(hS 23 rfl).2]; rfl⟩) (show ty L cl (sk 2) 2 from ⟨(hS 2 rfl).1, by rw [(hS 2 rfl).2]; rfl⟩) (show ty L cl (sk 3) 3 from ⟨(hS 3 rfl).1, by rw [(hS 3 rfl).2]; rfl⟩) (fun t23 t2 t3 => ?_)
  refine ⟨0, _, by decide, G_set hW hS ht h_i hm, fun v L2 cl2 ln2 iv2 rv2 h => ?_⟩
  obtain ⟨f, rfl, hX, hF, hW2, rg, ex, kp11, kp12, kp13, kp14, kp15, kp16, psx⟩ := h
  exact ⟨f, rfl, by omega, hX, hW2, (MRK.call hm hW hS hX hF rfl rfl), (by have q := hF.i t23 rfl 2; omega), ⟨⟨psx, ⟨trivial, trivial, kp15, kp16, ⟨hF.i (tysq (t := 5) hS rfl rfl) rfl 2, fun ss hs => CT.fr hs hW (tysq (t := 5) hS rfl rfl) hF rfl rfl rfl rfl rfl⟩, ⟨hF.i (tysq (t := 4) hS rfl rfl) rfl 2, fun ss hs => CT.fr hs hW (tysq (t := 4) hS rfl rfl) hF rfl rfl rfl rfl rfl⟩, (FKP.fr hW hS hF rfl rfl rfl rfl)⟩⟩, ⟨kp14, kp11, kp12, kp13⟩, ⟨hF.i t2 rfl 2, fun ss hs => CT.fr hs hW t2 hF rfl rfl rfl rfl rfl⟩, ⟨hF.i t3 rfl 2, fun tt ht => CT.fr ht hW t3 hF rfl rfl rfl rfl rfl⟩, (PSAME.fr hW hS hF rfl rfl rfl rfl rfl rfl rfl), ⟨⟨_, hW, hW2⟩, hS, hX, (KP.fr hW hF rfl)⟩⟩⟩
theorem MO2_set {l : Launch} {G : GT} {mm : Nat} {x1 : Int} (h_x1 : -2147483648 ≤ x1 ∧ x1 ≤ 2147483647) : ModelOp l G yX12_set cX12_set 7 (some .int) 66 [.int (iI x1)] mm 0 0 (fun v a v2 a2 f => ((SETX v a v2 a2 x1 f ∧ TBL v a ∧ ∀ j, a 10 j ≤ 200) ∧ (True ∧ True ∧ v2 42 = v 42 ∧ v2 43 = v 43 ∧ (v2 41 = v 41 ∧ a2 40 = a 40) ∧ (v2 52 = v 52 ∧ a2 51 = a 51) ∧ (v2 60 = v 60 ∧ v2 61 = v 61 ∧ a2 58 = a 58 ∧ a2 59 = a 59))) ∧ (v2 56 = v 56 ∧ v2 31 = v 31 ∧ v2 32 = v 32 ∧ v2 33 = v 33) ∧ (v2 3 = v 3 ∧ a2 2 = a 2) ∧ (v2 30 = v 30 ∧ a2 29 = a 29) ∧ TSAME v a v2 a2) := by
  intro n ad ln v a L E hn hV hI
  obtain ⟨hB, hT, hS, hR, h19⟩ := hV
  refine ⟨_, N2_set (t := x1) hB hT h_x1 L E hI, fun r L2 E2 h => ?_⟩
  obtain ⟨v2, a2, hI2, f, rfl, hf, hB2, hx⟩ := h
  exact ⟨f, ad, ln, v2, a2, rfl, hI2, ⟨hB2, (hT.fr hf rfl rfl), (hS.fr hf rfl rfl), (hR.fr hf rfl), (by have q := hf.1 19 rfl; push_cast; omega)⟩, ⟨⟨⟨hx, hT, fun j => (hB.2 10 j).2⟩, ⟨trivial, trivial, hf.1 42 rfl, hf.1 43 rfl, ⟨hf.1 41 rfl, hf.2 40 rfl⟩, ⟨hf.1 52 rfl, hf.2 51 rfl⟩, ⟨hf.1 60 rfl, hf.1 61 rfl, hf.2 58 rfl, hf.2 59 rfl⟩⟩⟩, ⟨hf.1 56 rfl, hf.1 31 rfl, hf.1 32 rfl, hf.1 33 rfl⟩, ⟨hf.1 3 rfl, hf.2 2 rfl⟩, ⟨hf.1 30 rfl, hf.2 29 rfl⟩, ⟨hf.1 4 rfl, hf.2 5 rfl, hf.2 6 rfl, hf.2 7 rfl, hf.2 10 rfl, hf.1 19 rfl, hf.2 18 rfl, hf.2 11 rfl, hf.2 8 rfl, hf.2 9 rfl, hf.2 12 rfl, hf.2 13 rfl, hf.2 14 rfl, hf.2 15 rfl, hf.2 16 rfl, hf.2 17 rfl⟩⟩⟩
end
section
def LNO (iv : Nat → Nat → Int) (rv : Nat → Nat → Option Nat) (r : Nat) (x : Option (List Int)) : Prop := (x = none ∧ iv r 2 ≠ 0) ∨ ∃ xs, x = some xs ∧ iv r 2 = 0 ∧ LNE iv rv r xs
def SHT (iv : Nat → Nat → Int) (rv : Nat → Nat → Option Nat) (s : Nat) (E : List (Option (List Int))) : Prop := iv s 1 = ((E.length : Nat) : Int) ∧ ∀ (l : Nat) (x : Option (List Int)), E[l]? = some x → ∃ rb r, rv s 0 = some rb ∧ rv rb l = some r ∧ LNO iv rv r x
def PRX (iv : Nat → Nat → Int) (rv : Nat → Nat → Option Nat) (s : Nat) (i : Int) (f : Option Nat) : Prop := (∃ r, f = some r ∧ SATX iv rv s i (some r) ∧ iv r 2 = 0) ∨ (f = none ∧ (SATX iv rv s i none ∨ ∃ r, SATX iv rv s i (some r) ∧ iv r 2 ≠ 0))
def CLP (iv : Nat → Nat → Int) (rv : Nat → Nat → Option Nat) (h0 : Nat) (l i f : Int) : Prop := ∀ sA, rv h0 9 = some sA → ∀ E, SHT iv rv sA E → CELX E l i f
def TCH (iv : Nat → Nat → Int) (rv : Nat → Nat → Option Nat) (iv2 : Nat → Nat → Int) (h0 : Nat) (P : List (Option (List Int)) → List (Option (List Int)) → Prop) : Prop := ∀ sA sB, rv h0 9 = some sA → rv h0 10 = some sB → LNK rv sB sA → ∀ E, SHT iv rv sA E → ∃ E2, P E E2 ∧ SHT iv2 rv sA E2
def RSK (iv : Nat → Nat → Int) (rv : Nat → Nat → Option Nat) (iv1 : Nat → Nat → Int) (r : Nat) (k : Int) : Prop := ∀ xs, LNE iv rv r xs → LNE iv1 rv r (mpr k.toNat (gd0 xs))
def BCX (iv : Nat → Nat → Int) (rv : Nat → Nat → Option Nat) (iv2 : Nat → Nat → Int) (r r2 : Nat) : Prop := iv2 r 2 = iv r2 2 ∧ ∀ xs, LNE iv rv r2 xs → LNE iv2 rv r xs
def DTK (iv : Nat → Nat → Int) (rv : Nat → Nat → Option Nat) (r : Nat) (k z : Int) : Prop := ∀ xs, LNE iv rv r xs → k ≤ ((xs.length : Nat) : Int) → iI z = bcs 0 (mpr k.toNat (gd0 xs))
def DTX (iv : Nat → Nat → Int) (rv : Nat → Nat → Option Nat) (r : Nat) (z : Int) : Prop := ∀ xs, LNE iv rv r xs → iI z = bcs 0 xs
def EP1 (iv : Nat → Nat → Int) (rv : Nat → Nat → Option Nat) (h0 : Nat) (q w k z : Int) : Prop := ∀ sA, rv h0 9 = some sA → ∀ E, SHT iv rv sA E → emb E q w k.toNat (iI z)
def EPX (iv : Nat → Nat → Int) (rv : Nat → Nat → Option Nat) (iv2 : Nat → Nat → Int) (h0 : Nat) (q n w f : Int) : Prop := ∀ sA, rv h0 9 = some sA → ∀ E, SHT iv rv sA E → EMBX E q n w (iI (iv h0 16)) f (iI (iv2 h0 16))
section CROW
variable {h : Nat} {sk : Nat → Nat} {L : List Nat} {cl ln : Nat → Nat} {iv iv1 iv2 iv3 iv4 : Nat → Nat → Int} {rv rv2 : Nat → Nat → Option Nat} {s s2 r r2 rb cb ca h0 sA : Nat} {l i n f k w x q u z : Int} {E E2 : List (Option (List Int))} {y : Option (List Int)} {xs ys : List Int} {ls : List Nat} {P : List (Option (List Int)) → List (Option (List Int)) → Prop}
theorem mpr_s {n : Nat} {F : Nat → Int} : mpr (n + 1) F = mpr n F ++ [F n] := by
  unfold mpr
  rw [List.range_succ, List.map_append]
  rfl
theorem LNE.gd (hx : LNE iv rv r xs) (h0 : rv r 0 = some cb) {j : Nat} (hj : j < xs.length) : iv cb j = gd0 xs j := hx.2 cb h0 j _ (gd0_lt hj)
theorem LNO.fr (hx : LNO iv rv r y) (h1 : iv2 r = iv r) (h2 : rv2 r = rv r) (h3 : ∀ cb, rv r 0 = some cb → iv2 cb = iv cb) : LNO iv2 rv2 r y := by
  rcases hx with ⟨e1, e2⟩ | ⟨xs, e1, e2, e3⟩
  · exact Or.inl ⟨e1, by rw [h1]; exact e2⟩
  · exact Or.inr ⟨xs, e1, by rw [h1]; exact e2, e3.fr h1 h2 h3⟩
theorem SHT.sam (hE : SHT iv rv s E) (hS : SAM iv rv iv2 rv2 s) : SHT iv2 rv2 s E := by
  obtain ⟨s1, s2, s3⟩ := hS
  refine ⟨by rw [s1]; exact hE.1, fun l x e => ?_⟩
  obtain ⟨rb, r, q0, q1, q2⟩ := hE.2 l x e
  obtain ⟨p1, p2⟩ := s3 rb q0
  obtain ⟨k1, k2, k3⟩ := p2 l r q1
  exact ⟨rb, r, by rw [s2]; exact q0, by rw [p1]; exact q1, q2.fr k1 k2 k3⟩
theorem SHT.nul (hE : SHT iv rv s E) (hx : SATX iv rv s i none) : rwe E i = none := by
  rcases hx with ⟨⟨c1, c2⟩, rb, h0, e⟩ | ⟨c, _⟩
  · obtain ⟨y, _, y2⟩ := rwl_in (E := E) c1 (by have q := hE.1; omega)
    obtain ⟨rb2, r, q0, q1, _⟩ := hE.2 _ _ y2
    rw [h0] at q0; cases q0
    rw [← e] at q1
    cases q1
  · exact rwl_out (by have q := hE.1; omega)
theorem SHT.smt (hE : SHT iv rv s E) (hx : SATX iv rv s i (some r)) : ∃ y, rwe E i = some y ∧ LNO iv rv r y := by
  rcases hx with ⟨⟨c1, c2⟩, rb, h0, e⟩ | ⟨_, e⟩
  · obtain ⟨y, y1, y2⟩ := rwl_in (E := E) c1 (by have q := hE.1; omega)
    obtain ⟨rb2, r2, q0, q1, q2⟩ := hE.2 _ _ y2
    rw [h0] at q0; cases q0
    rw [← e] at q1
    cases q1
    exact ⟨y, y1, q2⟩
  · cases e
theorem SHT.lck (hE : SHT iv rv s E) (hx : SATX iv rv s i (some r)) (hn : iv r 2 ≠ 0) : rwe E i = some none := by
  obtain ⟨y, y1, y2⟩ := hE.smt hx
  rcases y2 with ⟨e, _⟩ | ⟨xs, _, e, _⟩
  · rw [y1, e]
  · exact absurd e hn
theorem SHT.prs (hE : SHT iv rv s E) (hx : SATX iv rv s i (some r)) (hn : iv r 2 = 0) : ∃ xs, rwe E i = some (some xs) ∧ LNE iv rv r xs := by
  obtain ⟨y, y1, y2⟩ := hE.smt hx
  rcases y2 with ⟨_, e⟩ | ⟨xs, e1, _, e2⟩
  · exact absurd hn e
  · exact ⟨xs, by rw [y1, e1], e2⟩
theorem PRX.non (hx : PRX iv rv s i none) (hE : SHT iv rv s E) : ¬ ∃ xs, rwe E i = some (some xs) := fun g => by
  obtain ⟨xs, g⟩ := g
  rcases hx with ⟨r, e, _⟩ | ⟨_, e | ⟨r, e1, e2⟩⟩
  · cases e
  · rw [hE.nul e] at g
    cases g
  · rw [hE.lck e1 e2] at g
    cases g
theorem PRX.smt (hx : PRX iv rv s i (some r)) : SATX iv rv s i (some r) ∧ iv r 2 = 0 := by
  rcases hx with ⟨r2, e, e1, e2⟩ | ⟨e, _⟩
  · cases e
    exact ⟨e1, e2⟩
  · cases e
theorem SHT.set (hE : SHT iv rv s E) (hK : LNK rv s2 s) (hW : WT h sk L cl ln iv rv) (ts : ty L cl s 18) (hx : SATX iv rv s i (some r)) (hL : LFR L cl iv rv iv2 r) (h1 : iv2 s 1 = iv s 1) (hn : LNO iv2 rv r y) : SHT iv2 rv s (E.set i.toNat y) := by
  obtain ⟨rb, r0, r1⟩ := hx.row
  have tr := ro19 hW (sh67 hW ts r0) r1
  refine ⟨by rw [List.length_set, h1]; exact hE.1, fun j x e => ?_⟩
  rw [List.getElem?_set] at e
  by_cases c : i.toNat = j
  · rw [if_pos c] at e
    split at e
    · cases e
      exact ⟨rb, r, r0, by rw [← c]; exact r1, hn⟩
    · cases e
  · rw [if_neg c] at e
    obtain ⟨rb2, r2, q0, q1, q2⟩ := hE.2 j x e
    obtain ⟨n1, n2⟩ := hK.sym.ne hW (Or.inl rfl) (Or.inl rfl) tr r0 r1 q0 q1 (fun g => c g.2)
    have t2 := ro19 hW (sh67 hW ts q0) q1
    exact ⟨rb2, r2, q0, q1, q2.fr (hL.1 r2 t2 n1) rfl (fun cb hc => hL.2 cb (li64 hW t2 hc) (n2 cb hc))⟩
theorem CLP.bad (hx : PRX iv rv sA l none) (hA : rv h0 9 = some sA) (hf : f = -1) : CLP iv rv h0 l i f := fun sA' e E hE => by
  rw [hA] at e; cases e
  exact Or.inr ⟨fun ⟨xs, g, _⟩ => hx.non hE ⟨xs, g⟩, hf⟩
theorem CLP.out (hx : PRX iv rv sA l (some r)) (hA : rv h0 9 = some sA) (hi : ¬ (0 ≤ i ∧ i < iv r 1)) (hf : f = -1) : CLP iv rv h0 l i f := fun sA' e E hE => by
  rw [hA] at e; cases e
  obtain ⟨x1, x2⟩ := hx.smt
  obtain ⟨xs, e1, e2⟩ := hE.prs x1 x2
  refine Or.inr ⟨fun ⟨ys, d1, d2⟩ => ?_, hf⟩
  rw [e1] at d1
  cases d1
  have q := e2.1
  omega
theorem CLP.ok (hx : PRX iv rv sA l (some r)) (hA : rv h0 9 = some sA) (hi : 0 ≤ i ∧ i < iv r 1) (hc : rv r 0 = some cb) (hf : f = iv cb i.toNat) : CLP iv rv h0 l i f := fun sA' e E hE => by
  rw [hA] at e; cases e
  obtain ⟨x1, x2⟩ := hx.smt
  obtain ⟨xs, e1, e2⟩ := hE.prs x1 x2
  have q := e2.1
  exact Or.inl ⟨xs, e1, by omega, hf.trans (e2.gd hc (by omega))⟩
theorem TCH.same (hA : rv h0 9 = some sA) (hW : WT h sk L cl ln iv rv) (tA : ty L cl sA 18) (hF : fT ls L cl iv rv iv2 rv) (a18 : ls.contains 18 = false) (a19 : ls.contains 19 = false) (a64 : ls.contains 64 = false) (a67 : ls.contains 67 = false) (hP : ∀ E, SHT iv rv sA E → P E E) : TCH iv rv iv2 h0 P := fun sA' sB e _ _ E hE => by
  rw [hA] at e; cases e
  exact ⟨E, hP E hE, hE.sam (SAM.frm hW tA hF a18 a19 a64 a67)⟩
theorem TCH.row (hA : rv h0 9 = some sA) (hW : WT h sk L cl ln iv rv) (tA : ty L cl sA 18) (hx : SATX iv rv sA i (some r)) (hL : LFR L cl iv rv iv1 r) (h1 : iv1 sA 1 = iv sA 1) (hW1 : WT h sk L cl ln iv1 rv) (hF : fT ls L cl iv1 rv iv2 rv) (a18 : ls.contains 18 = false) (a19 : ls.contains 19 = false) (a64 : ls.contains 64 = false) (a67 : ls.contains 67 = false) (hP : ∀ E, SHT iv rv sA E → ∃ y, LNO iv1 rv r y ∧ P E (E.set i.toNat y)) : TCH iv rv iv2 h0 P := fun sA' sB e _ hK E hE => by
  rw [hA] at e; cases e
  obtain ⟨y, y1, y2⟩ := hP E hE
  exact ⟨_, y2, (hE.set hK hW tA hx hL h1 y1).sam (SAM.frm hW1 tA hF a18 a19 a64 a67)⟩
theorem LSP.no (hx : SATX iv rv s l none) (hf : f = -1) (hE : SHT iv rv s E) : LOSX E l f E := Or.inr ⟨hE.nul hx, rfl, hf⟩
theorem LSP.ok (hx : SATX iv rv s l (some r)) (e : iv1 = up2 iv r 2 1) (hf : f = 1) (hE : SHT iv rv s E) : ∃ y, LNO iv1 rv r y ∧ LOSX E l f (E.set l.toNat y) := by
  obtain ⟨y, y1, _⟩ := hE.smt hx
  exact ⟨none, Or.inl ⟨rfl, by rw [e, up2_s]; decide⟩, Or.inl ⟨⟨y, y1⟩, rfl, hf⟩⟩
theorem CTP.no (hx : (n < 0 ∨ 200 < n) ∨ PRX iv rv s l none) (hf : f = -1) (hE : SHT iv rv s E) : CUTX E l n f E := by
  refine Or.inr ⟨fun ⟨c, g⟩ => ?_, rfl, hf⟩
  rcases hx with e | e
  · omega
  · exact e.non hE g
theorem CTP.ok (hx : PRX iv rv s l (some r)) (hn : 0 ≤ n ∧ n ≤ 200) (hr : RSK iv rv iv1 r n) (h2 : iv1 r 2 = iv r 2) (hf : f = n) (hE : SHT iv rv s E) : ∃ y, LNO iv1 rv r y ∧ CUTX E l n f (E.set l.toNat y) := by
  obtain ⟨x1, x2⟩ := hx.smt
  obtain ⟨xs, e1, e2⟩ := hE.prs x1 x2
  exact ⟨some (mpr n.toNat (gd0 xs)), Or.inr ⟨_, rfl, h2.trans x2, hr xs e2⟩, Or.inl ⟨hn, xs, e1, rfl, hf⟩⟩
theorem RSK.init (e : iv1 = up2 iv r 1 k) (hk : 0 ≤ k ∧ k ≤ iv r 1) (hne : ∀ cb, rv r 0 = some cb → cb ≠ r) : RSK iv rv iv1 r k := fun xs hx => by
  refine ⟨by rw [e, up2_s, mpr_len]; omega, fun cb hc j y ey => ?_⟩
  obtain ⟨m1, m2⟩ := mpr_at ey
  have q := hx.1
  rw [e, up2_k (hne cb hc), m2]
  exact hx.gd hc (by omega)
theorem RSK.step (hr : RSK iv rv iv1 r k) (hx : LAX iv1 rv iv2 r 0) (hk : 0 ≤ k ∧ iv r 1 ≤ k ∧ k < 200) : RSK iv rv iv2 r (k + 1) := fun xs hl => by
  have q := hl.1
  have g := hx _ (hr xs hl) (by rw [mpr_len]; omega)
  rw [show (k + 1).toNat = k.toNat + 1 by omega, mpr_s, gd0_out (by omega)]
  exact g
theorem CRP.no (hx : SATX iv rv s q none ∨ SATX iv rv s u none) (hf : f = -1) (hE : SHT iv rv s E) : CPRX E q w u x n f E := by
  refine Or.inr ⟨fun ⟨xs, ys, g⟩ => ?_, rfl, hf⟩
  rcases hx with e | e
  · have g1 := g.1
    rw [hE.nul e] at g1
    cases g1
  · have g1 := g.2.1
    rw [hE.nul e] at g1
    cases g1
theorem CRP.lck (hq : SATX iv rv s q (some r)) (hu : SATX iv rv s u (some r2)) (hx : iv r 2 ≠ 0 ∨ iv r2 2 ≠ 0) (hf : f = -1) (hE : SHT iv rv s E) : CPRX E q w u x n f E := by
  refine Or.inr ⟨fun ⟨xs, ys, g⟩ => ?_, rfl, hf⟩
  rcases hx with e | e
  · have g1 := g.1
    rw [hE.lck hq e] at g1
    cases g1
  · have g1 := g.2.1
    rw [hE.lck hu e] at g1
    cases g1
theorem CRP.out (hq : SATX iv rv s q (some r)) (hu : SATX iv rv s u (some r2)) (h1 : iv r 2 = 0) (h2 : iv r2 2 = 0) (hx : ¬ (0 ≤ n ∧ 0 ≤ w ∧ 0 ≤ x ∧ w + n ≤ iv r 1 ∧ x + n ≤ iv r2 1)) (hf : f = -1) (hE : SHT iv rv s E) : CPRX E q w u x n f E := by
  obtain ⟨xs, e1, e2⟩ := hE.prs hq h1
  obtain ⟨ys, d1, d2⟩ := hE.prs hu h2
  refine Or.inr ⟨fun ⟨zs, us, g1, g2, g3, g4, g5, g6, g7⟩ => hx ?_, rfl, hf⟩
  rw [e1] at g1
  rw [d1] at g2
  cases g1
  cases g2
  refine hv2 (e2.1) (d2.1) (fun a1 a2 => ?_)
  exact ⟨g3, g4, g5, by omega, by omega⟩
theorem CRP.ok (hq : SATX iv rv s q (some r)) (hu : SATX iv rv s u (some r2)) (h1 : iv r 2 = 0) (h2 : iv r2 2 = 0) (hx : 0 ≤ n ∧ 0 ≤ w ∧ 0 ≤ x ∧ w + n ≤ iv r 1 ∧ x + n ≤ iv r2 1) (ha : rv r 0 = some ca) (hb : rv r2 0 = some cb) (e : iv1 = fun a b => if a = cb then (if x.toNat ≤ b ∧ b < x.toNat + n.toNat then iv ca (w.toNat + (b - x.toNat)) else iv cb b) else iv a b) (hne : r2 ≠ cb) (hf : f = n) (hE : SHT iv rv s E) : ∃ y, LNO iv1 rv r2 y ∧ CPRX E q w u x n f (E.set u.toNat y) := by
  obtain ⟨xs, e1, e2⟩ := hE.prs hq h1
  obtain ⟨ys, d1, d2⟩ := hE.prs hu h2
  refine hv2 (e2.1) (d2.1) (fun a1 a2 => ?_)
  have er : ∀ m, iv1 r2 m = iv r2 m := fun m => by
    rw [e]
    show (if r2 = cb then _ else iv r2 m) = iv r2 m
    rw [if_neg hne]
  refine ⟨some (cpx xs ys w.toNat x.toNat n.toNat), Or.inr ⟨_, rfl, (er 2).trans h2, ?_, fun c hc j y ey => ?_⟩, Or.inl ⟨xs, ys, ⟨e1, d1, hx.1, hx.2.1, hx.2.2.1, by omega, by omega⟩, rfl, hf⟩⟩
  · unfold cpx
    rw [er, mpr_len]
    exact a2
  · unfold cpx at ey
    obtain ⟨m1, m2⟩ := mpr_at ey
    rw [hb] at hc; cases hc
    have ec : iv1 cb j = if x.toNat ≤ j ∧ j < x.toNat + n.toNat then iv ca (w.toNat + (j - x.toNat)) else iv cb j := by
      rw [e]
      show (if cb = cb then _ else _) = _
      rw [if_pos rfl]
    rw [ec, m2]
    by_cases c0 : x.toNat ≤ j ∧ j < x.toNat + n.toNat
    · rw [if_pos c0, if_pos c0]
      exact e2.gd ha (by omega)
    · rw [if_neg c0, if_neg c0]
      exact d2.gd hb m1
theorem BCX.mk {m : Int} (ha : rv r2 0 = some ca) (hb : rv r 0 = some cb) (e1 : iv1 = fun a b => if a = cb then (if (0 : Int).toNat ≤ b ∧ b < (0 : Int).toNat + m.toNat then iv ca ((0 : Int).toNat + (b - (0 : Int).toNat)) else iv cb b) else iv a b) (hm : m = iv r2 1) (e2 : iv2 = up2 iv1 r 1 k) (hk : k = iv r2 1) (e3 : iv3 = up2 iv2 r 2 z) (hz : z = iv2 r2 2) (hne : cb ≠ r) (hne2 : r2 ≠ cb) : BCX iv rv iv3 r r2 := by
  have z2 : iv2 r2 2 = iv r2 2 := by
    rw [e2, up2_j (by decide), e1]
    show (if r2 = cb then _ else iv r2 2) = iv r2 2
    rw [if_neg hne2]
  refine ⟨by rw [e3, up2_s]; exact hz.trans z2, fun xs hx => ⟨by rw [e3, up2_j (by decide), e2, up2_s]; exact hk.trans hx.1, fun c hc j y ey => ?_⟩⟩
  rw [hb] at hc; cases hc
  refine hv2 (hx.1) (gl3 ey) (fun q lt => ?_)
  have ec : iv1 cb j = if (0 : Int).toNat ≤ j ∧ j < (0 : Int).toNat + m.toNat then iv ca ((0 : Int).toNat + (j - (0 : Int).toNat)) else iv cb j := by
    rw [e1]
    show (if cb = cb then _ else _) = _
    rw [if_pos rfl]
  rw [e3, up2_k hne, e2, up2_k hne, ec, if_pos (by omega), show (0 : Int).toNat + (j - (0 : Int).toNat) = j by omega]
  exact hx.2 ca ha j y ey
theorem wr_add {x z : Int} (hz : R32 z) (hx : -2147483648 ≤ x ∧ x ≤ 2147484000) (e : iI x = iI z) : (x < 2147483648 ∧ z = x) ∨ (2147483648 ≤ x ∧ z < 0) := by
  have g := congrArg Int32.toInt e
  rw [iI_int hz] at g
  by_cases c : x < 2147483648
  · rw [iI_int ⟨hx.1, c⟩] at g
    exact Or.inl ⟨c, g.symm⟩
  · have h2 : (iI x).toInt = x.bmod 4294967296 := Int32.toInt_ofInt
    rw [h2, Int.bmod_def] at g
    refine Or.inr ⟨by omega, ?_⟩
    split at g <;> omega
theorem SATX.wr {fo : Option Nat} (hx : SATX iv rv s z fo) (hw : (x < 2147483648 ∧ z = x) ∨ (2147483648 ≤ x ∧ z < 0)) (hc : iv s 1 ≤ 200) : SATX iv rv s x fo := by
  rcases hw with ⟨_, e⟩ | ⟨e1, e2⟩
  · rw [← e]
    exact hx
  · rcases hx with ⟨c, _⟩ | ⟨_, c⟩
    · omega
    · exact Or.inr ⟨by omega, c⟩
theorem CPP.zero (hA : rv h0 9 = some sA) (hW : WT h sk L cl ln iv rv) (tA : ty L cl sA 18) (th : ty L cl h0 1) (e : iv1 = up2 iv h0 15 z) (hk : k = 0) : TCH iv rv iv1 h0 (fun E E1 => cpn E q u k.toNat E1) := by
  have hF : fT [1] L cl iv rv iv1 rv := fT.refl.puti (ln := ln) (ln2 := ln) XT.refl e th rfl
  refine TCH.same hA hW tA hF rfl rfl rfl rfl (fun E hE => ?_)
  rw [hk]
  exact rfl
theorem CPP.step (hT : TCH iv rv iv1 h0 (fun E E1 => cpn E q u k.toNat E1)) (hA : rv h0 9 = some sA) (hW1 : WT h sk L cl ln iv1 rv) (tA : ty L cl sA 18) (th : ty L cl h0 1) (g1 : SATX iv1 rv sA (q + k) (some r)) (g2 : SATX iv1 rv sA (u + k) (some r2)) (hl : iv1 r 2 = 0) (hL : LFR L cl iv1 rv iv2 r2) (hB : BCX iv1 rv iv2 r2 r) (h1 : iv2 sA 1 = iv1 sA 1) (hW2 : WT h sk L cl ln iv2 rv) (e : iv3 = up2 iv2 h0 15 z) (hk : 0 ≤ k) : TCH iv rv iv3 h0 (fun E E1 => cpn E q u (k + 1).toNat E1) := fun sA' sB e1 e2 hK E hE => by
  rw [hA] at e1; cases e1
  have hF : fT [1] L cl iv2 rv iv3 rv := fT.refl.puti (ln := ln) (ln2 := ln) XT.refl e th rfl
  obtain ⟨E1, p1, p2⟩ := hT sA sB hA e2 hK E hE
  obtain ⟨xs, d1, d2⟩ := p2.prs g1 hl
  obtain ⟨y, y1, _⟩ := p2.smt g2
  refine ⟨E1.set (u + k).toNat (some xs), ?_, (p2.set hK hW1 tA g2 hL h1 (Or.inr ⟨xs, rfl, hB.1.trans hl, hB.2 xs d2⟩)).sam (SAM.frm hW2 tA hF rfl rfl rfl rfl)⟩
  show cpn E q u (k + 1).toNat (E1.set (u + k).toNat (some xs))
  rw [show (k + 1).toNat = k.toNat + 1 by omega]
  refine ⟨E1, p1, xs, y, ?_, ?_, ?_⟩
  · rw [show q + ((k.toNat : Nat) : Int) = q + k by omega]
    exact d1
  · rw [show u + ((k.toNat : Nat) : Int) = u + k by omega]
    exact y1
  · rw [show u + ((k.toNat : Nat) : Int) = u + k by omega]
theorem CPP.bad (hA : rv h0 9 = some sA) (hW : WT h sk L cl ln iv rv) (tA : ty L cl sA 18) (hF : fT [1] L cl iv rv iv2 rv) {c c2 : Int} (hn : n < 0 ∨ 10 < n) (hf : f = -1) (hc : c2 = c) : TCH iv rv iv2 h0 (fun E E2 => CPLX E q u n c f E2 c2) := TCH.same hA hW tA hF rfl rfl rfl rfl (fun E hE => Or.inl ⟨hn, rfl, hf, hc⟩)
theorem CPP.ok (hT : TCH iv rv iv1 h0 (fun E E1 => cpn E q u k.toNat E1)) (hA : rv h0 9 = some sA) (hW1 : WT h sk L cl ln iv1 rv) (tA : ty L cl sA 18) (hF : fT [1] L cl iv1 rv iv2 rv) {c c2 : Int} (hk : k = n) (hn : 0 ≤ n ∧ n ≤ 10) (hf : f = n) (hc : c2 = n) : TCH iv rv iv2 h0 (fun E E2 => CPLX E q u n c f E2 c2) := fun sA' sB e1 e2 hK E hE => by
  rw [hA] at e1; cases e1
  obtain ⟨E1, p1, p2⟩ := hT sA sB hA e2 hK E hE
  have p3 : cpn E q u k.toNat E1 := p1
  rw [hk] at p3
  exact ⟨E1, Or.inr ⟨hn, Or.inl ⟨p3, hf, hc⟩⟩, p2.sam (SAM.frm hW1 tA hF rfl rfl rfl rfl)⟩
theorem CPP.stop (hT : TCH iv rv iv1 h0 (fun E E1 => cpn E q u k.toNat E1)) (hA : rv h0 9 = some sA) (hW1 : WT h sk L cl ln iv1 rv) (tA : ty L cl sA 18) (hF : fT [1] L cl iv1 rv iv2 rv) {c c2 : Int} (hk : 0 ≤ k ∧ k < n) (hn : n ≤ 10) (hf : f = -1) (hc : c2 = k) (hx : SATX iv1 rv sA (q + k) none ∨ SATX iv1 rv sA (u + k) none ∨ ∃ r, SATX iv1 rv sA (q + k) (some r) ∧ iv1 r 2 ≠ 0) : TCH iv rv iv2 h0 (fun E E2 => CPLX E q u n c f E2 c2) := fun sA' sB e1 e2 hK E hE => by
  rw [hA] at e1; cases e1
  obtain ⟨E1, p1, p2⟩ := hT sA sB hA e2 hK E hE
  refine ⟨E1, Or.inr ⟨⟨by omega, hn⟩, Or.inr ⟨k.toNat, by omega, p1, fun ⟨E3, xs, y, d1, d2, _⟩ => ?_, hf, by omega⟩⟩, p2.sam (SAM.frm hW1 tA hF rfl rfl rfl rfl)⟩
  rw [show q + ((k.toNat : Nat) : Int) = q + k by omega] at d1
  rw [show u + ((k.toNat : Nat) : Int) = u + k by omega] at d2
  rcases hx with e | e | ⟨r, e1, e3⟩
  · rw [p2.nul e] at d1
    cases d1
  · rw [p2.nul e] at d2
    cases d2
  · rw [p2.lck e1 e3] at d1
    cases d1
theorem DTK.zero (hk : k = 0) (hz : z = 0) : DTK iv rv r k z := fun xs hx hl => by
  rw [hk, hz]
  rfl
theorem DTK.step (hd : DTK iv rv r k z) (hc : rv r 0 = some cb) (hk : 0 ≤ k) (e1 : bcn (iI (iv cb k.toNat)) = iI w) (e2 : iI (z + w) = iI x) : DTK iv rv r (k + 1) x := fun xs hx hl => by
  refine hv2 (hd xs hx (by omega)) (show iI (z + w) = iI z + iI w from Int32.ofInt_add z w) (fun g ea => ?_)
  have ec := hx.gd hc (j := k.toNat) (by omega)
  rw [show (k + 1).toNat = k.toNat + 1 by omega, mpr_s, bcs_snoc, ← g, ← e2, ea, ← e1, ec]
theorem mpr_all {n : Nat} (hn : n = xs.length) : mpr n (gd0 xs) = xs := by
  refine List.ext_getElem? (fun j => ?_)
  by_cases cj : j < xs.length
  · have lt : j < (mpr n (gd0 xs)).length := by rw [mpr_len]; omega
    have g := List.getElem?_eq_getElem lt
    rw [gd0_lt cj, g]
    obtain ⟨_, m2⟩ := mpr_at g
    rw [m2]
  · have l1 : (mpr n (gd0 xs)).length ≤ j := by
      rw [mpr_len]
      omega
    rw [List.getElem?_eq_none l1, List.getElem?_eq_none (show xs.length ≤ j by omega)]
theorem DTX.fin (hd : DTK iv rv r k z) (hk : k = iv r 1) : DTX iv rv r z := fun xs hx => by
  have e := hx.1
  have g := hd xs hx (by omega)
  rw [mpr_all (by omega)] at g
  exact g
theorem SATX.up {fo : Option Nat} (hx : SATX iv1 rv s x fo) (h1 : iv1 s 1 = iv s 1) : SATX iv rv s x fo := by
  unfold SATX at hx ⊢
  rw [h1] at hx
  exact hx
theorem EP1.zero (hk : k = 0) (hz : z = 0) : EP1 iv rv h0 q w k z := fun sA _ E _ => by
  rw [hk, hz]
  rfl
theorem EP1.lck (hp : EP1 iv rv h0 q w k z) (hA : rv h0 9 = some sA) (hx : SATX iv rv sA (q + k) (some r)) (hn : iv r 2 ≠ 0) (hk : 0 ≤ k) (hz : iI x = iI z) : EP1 iv rv h0 q w (k + 1) x := fun sA' e E hE => by
  have g := hp sA' e E hE
  rw [hA] at e; cases e
  rw [show (k + 1).toNat = k.toNat + 1 by omega]
  refine ⟨_, g, Or.inl ⟨?_, hz⟩⟩
  rw [show q + ((k.toNat : Nat) : Int) = q + k by omega]
  exact hE.lck hx hn
theorem EP1.dts (hp : EP1 iv rv h0 q w k z) (hA : rv h0 9 = some sA) (hx : SATX iv rv sA (q + k) (some r)) (hn : iv r 2 = 0) (hw : iv r 1 ≤ w) (hk : 0 ≤ k) (hd : DTX iv rv r u) (hz : iI (z + u) = iI x) : EP1 iv rv h0 q w (k + 1) x := fun sA' e E hE => by
  have g := hp sA' e E hE
  rw [hA] at e; cases e
  obtain ⟨xs, e1, e2⟩ := hE.prs hx hn
  refine hv2 (e2.1) (show iI (z + u) = iI z + iI u from Int32.ofInt_add z u) (fun l1 ea => ?_)
  rw [show (k + 1).toNat = k.toNat + 1 by omega]
  refine ⟨_, g, Or.inr ⟨xs, ?_, by omega, ?_⟩⟩
  · rw [show q + ((k.toNat : Nat) : Int) = q + k by omega]
    exact e1
  · rw [← hz, ea, hd xs e2, bcs_add xs (iI z)]
theorem EPX.bad (hn : n < 0 ∨ 200 < n) (hf : f = -1) (h16 : iv2 h0 16 = iv h0 16) : EPX iv rv iv2 h0 q n w f := fun sA _ E _ => Or.inl ⟨hn, hf, by rw [h16]⟩
theorem EPX.ok (hp : EP1 iv rv h0 q w k z) (hk : k = n) (hn : 0 ≤ n ∧ n ≤ 200) (hf : f = z) (hc : iI (iv2 h0 16) = iI (iv h0 16) + iI k) : EPX iv rv iv2 h0 q n w f := fun sA e E hE => by
  have g := hp sA e E hE
  rw [hk, ← hf] at g
  rw [hk] at hc
  exact Or.inr ⟨hn, Or.inl ⟨g, hc⟩⟩
theorem EPX.nul (hp : EP1 iv rv h0 q w k z) (hA : rv h0 9 = some sA) (hk : 0 ≤ k ∧ k < n) (hn : n ≤ 200) (hc : iI (iv2 h0 16) = iI (iv h0 16) + iI (k + 1)) (hx : SATX iv rv sA (q + k) none) (hf : f = -1) : EPX iv rv iv2 h0 q n w f := fun sA' e E hE => by
  have g := hp sA' e E hE
  rw [hA] at e; cases e
  refine Or.inr ⟨⟨by omega, hn⟩, Or.inr ⟨k.toNat, iI z, by omega, g, Or.inl ⟨?_, hf⟩, by rw [hc, show ((k.toNat : Nat) : Int) = k by omega]⟩⟩
  rw [show q + ((k.toNat : Nat) : Int) = q + k by omega]
  exact hE.nul hx
theorem EPX.big (hp : EP1 iv rv h0 q w k z) (hA : rv h0 9 = some sA) (hk : 0 ≤ k ∧ k < n) (hn : n ≤ 200) (hc : iI (iv2 h0 16) = iI (iv h0 16) + iI (k + 1)) (hx : SATX iv rv sA (q + k) (some r)) (hl : iv r 2 = 0) (hw : w < iv r 1) (hf : f = z) : EPX iv rv iv2 h0 q n w f := fun sA' e E hE => by
  have g := hp sA' e E hE
  rw [hA] at e; cases e
  obtain ⟨xs, e1, e2⟩ := hE.prs hx hl
  have l1 := e2.1
  refine Or.inr ⟨⟨by omega, hn⟩, Or.inr ⟨k.toNat, iI z, by omega, g, Or.inr ⟨xs, ?_, by omega, by rw [hf]⟩, by rw [hc, show ((k.toNat : Nat) : Int) = k by omega]⟩⟩
  rw [show q + ((k.toNat : Nat) : Int) = q + k by omega]
  exact e1
end CROW
end
section
set_option maxHeartbeats 4000000 in
set_option maxRecDepth 100000 in
theorem G_present {l : Launch} {G : GT} {mi : Nat} {sk : Nat → Nat} {L : List Nat} {cl ln : Nat → Nat} {iv : Nat → Nat → Int} {rv : Nat → Nat → Option Nat}  {a0 : Nat} {i : Int} (hW : WT (g0 G) sk L cl ln iv rv) (hS : SKL sk L cl) (t_a0 : ty L cl a0 18) (h_i : -2147483648 ≤ i ∧ i ≤ 2147483647)  : Mc l G mi (Phi (g0 G) sk) PHM yX7_present cX7_present 3 (some (.object "DotPress$Line")) 1 [.ref a0, .int (iI i)] L cl ln iv rv 0 (fun v L2 cl2 ln2 iv2 rv2 => ∃ f : Option Nat, v = some ((va_rf f)) ∧ L = L2 ∧ cl = cl2 ∧ ln = ln2 ∧ iv = iv2 ∧ rv = rv2 ∧ (∀ b, f = some b → ty L2 cl2 b 19) ∧ (PRX iv rv a0 i f)) := by
  refine Mc.mk (by decide) (Nat.le_of_ble_eq_true rfl) ?_
  intro p e s m args below meth c A C hM
  refine hv3 (Phi.le hW hS) (show XT L cl ln L cl ln from XT.refl) (show fT [] L cl iv rv iv rv from fT.refl) (fun hph hX0 hF0 => ?_)
  refine c_aload_n (j := 0) (x := a0) C dX7_present_0 rfl ?_
  refine c_iload_n (j := 1) C dX7_present_1 rfl ?_
  refine d_callV (As := [.int (iI i)]) (rest := []) C hM (G_sat (a0 := a0) (i := i) hW hS t_a0 (by omega) ) dX7_present_2 kV_X7_24 rfl t_a0 rfl rfl (by decide) ck_8 rfl (Nat.le_of_ble_eq_true rfl) ⟨(Nat.le_of_ble_eq_true rfl), (Nat.le_of_ble_eq_true rfl)⟩ hph hph (show 0 + 0 = 0 from rfl) (by decide) (fun rh1 Lh1 clh1 lnh1 ivh1 rvh1 h1 => ?_)
  obtain ⟨f1, rfl, rfl, rfl, rfl, rfl, rfl, rgf1, exf1⟩ := h1
  refine c_st (st2 := [(va_rf f1)]) rfl ?_
  have gf1 : SATX iv rv a0 i f1 := exf1
  refine c_astorer_n (r := f1) (lv2 := [(2, (va_rf f1)), (0, .ref a0), (1, .int (iI i))]) C dX7_present_5 (by decide) rfl ?_
  refine c_aloadr_n (j := 0) (r := f1) C dX7_present_6 rfl ?_
  refine c_ifnull (r := f1) (tgt := 17) C dX7_present_7 (by decide) (fun oq1 => ?_) (fun ob1 oq1 => ?_)
  · subst oq1
    refine c_lv (lv2 := [(2, .null), (0, .ref a0), (1, .int (iI i))]) [0, 1, 2] rfl ?_
    refine c_st (st2 := []) rfl ?_
    refine c_null C dX7_present_17 ?_
    refine c_goto (tgt := 22) C dX7_present_18 (by decide) ?_
    exact c_aret (x := none) C dX7_present_22 rfl (Or.inl ⟨_, rfl⟩) (by decide) (rom0 hph hph (by decide)) ⟨none, rfl, rfl, rfl, rfl, rfl, rfl, (fun _ q => by cases q), (Or.inr ⟨rfl, Or.inl gf1⟩)⟩
  · subst oq1
    have tob1 := rgf1 ob1 rfl
    refine c_lv (lv2 := [(2, .ref ob1), (0, .ref a0), (1, .int (iI i))]) [0, 1, 2] rfl ?_
    refine c_st (st2 := []) rfl ?_
    refine c_aload_n (j := 0) (x := ob1) C dX7_present_10 rfl ?_
    have ri1 : 0 ≤ iv ob1 2 ∧ iv ob1 2 ≤ 1 := hW.int tob1 2
    refine c_get (k := 2) C ck_3 dX7_present_11 w4_55 (by decide) tob1 rfl rfl (by decide) rfl ?_
    refine c_if_eq (tgt := 21) C (r32_c (lo := 0) (hi := 1) ri1.1 ri1.2 (by decide) (by decide)) dX7_present_14 (by decide) (fun c1 => ?_) (fun c1 => ?_)
    · refine c_aload_n (j := 0) (x := ob1) C dX7_present_21 rfl ?_
      exact c_aret (x := some ob1) C dX7_present_22 rfl (Or.inl ⟨_, rfl⟩) (by decide) (rom0 hph hph (by decide)) ⟨(some ob1), rfl, rfl, rfl, rfl, rfl, rfl, (fun _ q => by cases q; exact tob1), (Or.inl ⟨_, rfl, gf1, by omega⟩)⟩
    · refine c_null C dX7_present_17 ?_
      refine c_goto (tgt := 22) C dX7_present_18 (by decide) ?_
      exact c_aret (x := none) C dX7_present_22 rfl (Or.inl ⟨_, rfl⟩) (by decide) (rom0 hph hph (by decide)) ⟨none, rfl, rfl, rfl, rfl, rfl, rfl, (fun _ q => by cases q), (Or.inr ⟨rfl, Or.inr ⟨_, gf1, by omega⟩⟩)⟩
set_option maxHeartbeats 4000000 in
set_option maxRecDepth 100000 in
theorem G_cellOfLine {l : Launch} {G : GT} {mi : Nat} {sk : Nat → Nat} {L : List Nat} {cl ln : Nat → Nat} {iv : Nat → Nat → Int} {rv : Nat → Nat → Option Nat}  {a0 : Nat} {i : Int} {j : Int} (hW : WT (g0 G) sk L cl ln iv rv) (hS : SKL sk L cl) (t_a0 : ty L cl a0 1) (h_i : -2147483648 ≤ i ∧ i ≤ 2147483647) (h_j : -2147483648 ≤ j ∧ j ≤ 2147483647)  : Mc l G mi (Phi (g0 G) sk) PHM yX11_cellOfLine cX11_cellOfLine 4 (some .int) 2 [.ref a0, .int (iI i), .int (iI j)] L cl ln iv rv 0 (fun v L2 cl2 ln2 iv2 rv2 => ∃ f : Int, v = some (.int (iI f)) ∧ L = L2 ∧ cl = cl2 ∧ ln = ln2 ∧ rv = rv2 ∧ fT [1] L cl iv rv iv2 rv2 ∧ WT (g0 G) sk L2 cl2 ln2 iv2 rv2 ∧ (-2147483648 ≤ f ∧ f ≤ 2147483647) ∧ (True) ∧ iv2 a0 11 = iv a0 11 ∧ iv2 a0 12 = iv a0 12 ∧ iv2 a0 13 = iv a0 13 ∧ iv2 a0 14 = iv a0 14 ∧ iv2 a0 15 = iv a0 15 ∧ iv2 a0 16 = iv a0 16 ∧ (CLP iv rv a0 i j f)) := by
  refine Mc.mk (by decide) (Nat.le_of_ble_eq_true rfl) ?_
  intro p e s m args below meth c A C hM
  refine hv3 (Phi.le hW hS) (show XT L cl ln L cl ln from XT.refl) (show fT [1] L cl iv rv iv rv from fT.refl) (fun hph hX0 hF0 => ?_)
  obtain ⟨sA, hsA, tsA⟩ := hW.ref t_a0 9 rfl rfl rfl
  refine c_aload_n (j := 0) (x := a0) C dX11_cellOfLine_0 rfl ?_
  refine c_getr (k := 9) C ck_12 dX11_cellOfLine_1 w2_53 (by decide) t_a0 rfl rfl (by decide) rfl hsA ?_
  refine c_st (st2 := [.ref sA]) rfl ?_
  refine c_iload_n (j := 1) C dX11_cellOfLine_4 rfl ?_
  refine d_callV (As := [.int (iI i)]) (rest := []) C hM (G_present (a0 := sA) (i := i) hW hS tsA (by omega) ) dX11_cellOfLine_5 kV_X11_288 rfl tsA rfl rfl (by decide) ck_8 rfl (Nat.le_of_ble_eq_true rfl) ⟨(Nat.le_of_ble_eq_true rfl), (Nat.le_of_ble_eq_true rfl)⟩ hph hph (show 0 + 0 = 0 from rfl) (by decide) (fun rh1 Lh1 clh1 lnh1 ivh1 rvh1 h1 => ?_)
  obtain ⟨f1, rfl, rfl, rfl, rfl, rfl, rfl, rgf1, exf1⟩ := h1
  refine c_st (st2 := [(va_rf f1)]) rfl ?_
  have gf1 : PRX iv rv sA i f1 := exf1
  refine c_astorer_n (r := f1) (lv2 := [(3, (va_rf f1)), (0, .ref a0), (1, .int (iI i)), (2, .int (iI j))]) C dX11_cellOfLine_8 (by decide) rfl ?_
  refine c_aloadr_n (j := 0) (r := f1) C dX11_cellOfLine_9 rfl ?_
  refine c_ifnonnull (r := f1) (tgt := 26) C dX11_cellOfLine_10 (by decide) (fun ob1 oq1 => ?_) (fun oq1 => ?_)
  · subst oq1
    have tob1 := rgf1 ob1 rfl
    refine c_lv (lv2 := [(3, .ref ob1), (0, .ref a0), (1, .int (iI i)), (2, .int (iI j))]) [0, 1, 2, 3] rfl ?_
    refine c_st (st2 := []) rfl ?_
    have ri1 : 0 ≤ iv ob1 1 ∧ iv ob1 1 ≤ 200 := hW.int tob1 1
    refine c_iload_n (j := 3) C dX11_cellOfLine_26 rfl ?_
    refine c_if_lt (tgt := 38) C ⟨by omega, by omega⟩ dX11_cellOfLine_27 (by decide) (fun c1 => ?_) (fun c1 => ?_)
    · refine c_aload_n (j := 1) (x := a0) C dX11_cellOfLine_38 rfl ?_
      refine c_iconst C dX11_cellOfLine_39 ?_
      refine d_callV (As := [.int (iI 2)]) (rest := []) C hM (C_refuse (a0 := a0) (x := 2) hW hS t_a0 ⟨by decide, by decide⟩ ) dX11_cellOfLine_40 kV_X11_102 rfl t_a0 rfl rfl (by decide) ck_12 rfl (Nat.le_of_ble_eq_true rfl) ⟨(Nat.le_of_ble_eq_true rfl), (Nat.le_of_ble_eq_true rfl)⟩ hph hph (show 0 + 0 = 0 from rfl) (by decide) (fun rh2 Lh2 clh2 lnh2 ivh2 rvh2 h2 => ?_)
      obtain ⟨f2, rfl, rfl, rfl, rfl, rfl, fl2, W2, rgf2, exf2, kp11f2, kp12f2, kp13f2, kp14f2, kp15f2, kp16f2⟩ := h2
      refine hv7 (show 1 ≤ iv a0 11 ∧ iv a0 11 ≤ 100 from hW.int t_a0 11) (show 1 ≤ iv a0 12 ∧ iv a0 12 ≤ 50 from hW.int t_a0 12) (show (-2147483648) ≤ iv a0 13 ∧ iv a0 13 ≤ 2147483647 from hW.int t_a0 13) (show (-2147483648) ≤ iv a0 14 ∧ iv a0 14 ≤ 2147483647 from hW.int t_a0 14) (show (-2147483648) ≤ iv a0 15 ∧ iv a0 15 ≤ 2147483647 from hW.int t_a0 15) (show (-2147483648) ≤ iv a0 16 ∧ iv a0 16 ≤ 2147483647 from hW.int t_a0 16) (hF0.call hX0 fl2 rfl) (fun ri2 ri3 ri4 ri5 ri6 ri7 F1 => ?_)
      refine c_st (st2 := [.int (iI f2)]) rfl ?_
      refine hv7 (show ivh2 a0 11 = iv a0 11 from kp11f2) (show ivh2 a0 12 = iv a0 12 from kp12f2) (show ivh2 a0 13 = iv a0 13 from kp13f2) (show ivh2 a0 14 = iv a0 14 from kp14f2) (show ivh2 a0 15 = iv a0 15 from kp15f2) (show ivh2 a0 16 = iv a0 16 from kp16f2) (show f2 = -1 from exf2) (fun gk11f2 gk12f2 gk13f2 gk14f2 gk15f2 gk16f2 gf2 => ?_)
      refine c_goto (tgt := 56) C dX11_cellOfLine_43 (by decide) ?_
      refine hv6 (show 1 ≤ ivh2 a0 11 ∧ ivh2 a0 11 ≤ 100 from W2.int t_a0 11) (show 1 ≤ ivh2 a0 12 ∧ ivh2 a0 12 ≤ 50 from W2.int t_a0 12) (show (-2147483648) ≤ ivh2 a0 13 ∧ ivh2 a0 13 ≤ 2147483647 from W2.int t_a0 13) (show (-2147483648) ≤ ivh2 a0 14 ∧ ivh2 a0 14 ≤ 2147483647 from W2.int t_a0 14) (show (-2147483648) ≤ ivh2 a0 15 ∧ ivh2 a0 15 ≤ 2147483647 from W2.int t_a0 15) (show (-2147483648) ≤ ivh2 a0 16 ∧ ivh2 a0 16 ≤ 2147483647 from W2.int t_a0 16) (fun ri8 ri9 ri10 ri11 ri12 ri13 => ?_)
      exact c_iret C dX11_cellOfLine_56 rfl (by decide) (rom0 hph hph (by decide)) ⟨f2, rfl, rfl, rfl, rfl, rfl, F1, W2, ⟨by omega, by omega⟩, trivial, gk11f2, gk12f2, gk13f2, gk14f2, gk15f2, gk16f2, (CLP.out gf1 hsA (by omega) (by omega))⟩
    · refine c_iload_n (j := 3) C dX11_cellOfLine_30 rfl ?_
      refine c_aload_n (j := 0) (x := ob1) C dX11_cellOfLine_31 rfl ?_
      refine c_get (k := 1) C ck_3 dX11_cellOfLine_32 w4_53 (by decide) tob1 rfl rfl (by decide) rfl ?_
      refine c_icmp_lt (tgt := 46) C ⟨by omega, by omega⟩ (r32_c (lo := 0) (hi := 200) ri1.1 ri1.2 (by decide) (by decide)) dX11_cellOfLine_35 (by decide) (fun c2 => ?_) (fun c2 => ?_)
      · refine c_aload_n (j := 1) (x := a0) C dX11_cellOfLine_46 rfl ?_
        refine c_aload_n (j := 0) (x := ob1) C dX11_cellOfLine_47 rfl ?_
        obtain ⟨rb1, rq1, trb1⟩ := hW.ref tob1 0 rfl rfl rfl
        have lnrb1 : 200 ≤ ln rb1 ∧ ln rb1 ≤ 200 := hW.len trb1 rfl
        refine c_getr (k := 0) C ck_3 dX11_cellOfLine_48 w4_48 (by decide) tob1 rfl rfl (by decide) rfl rq1 ?_
        refine c_st (st2 := [.ref rb1, .ref a0]) rfl ?_
        refine c_iload_n (j := 3) C dX11_cellOfLine_51 rfl ?_
        have ll1 : 200 ≤ ln rb1 ∧ ln rb1 ≤ 200 := hW.len trb1 rfl
        refine c_iald C dX11_cellOfLine_52 trb1 rfl (by omega) (by omega) (by omega) ?_
        have ri14 : (-2147483648) ≤ iv rb1 j.toNat ∧ iv rb1 j.toNat ≤ 2147483647 := hW.int trb1 j.toNat
        refine d_callV (As := [.int (iI (iv rb1 j.toNat))]) (rest := []) C hM (C_done (a0 := a0) (x := iv rb1 j.toNat) hW hS t_a0 (by omega) ) dX11_cellOfLine_53 kV_X11_109 rfl t_a0 rfl rfl (by decide) ck_12 rfl (Nat.le_of_ble_eq_true rfl) ⟨(Nat.le_of_ble_eq_true rfl), (Nat.le_of_ble_eq_true rfl)⟩ hph hph (show 0 + 0 = 0 from rfl) (by decide) (fun rh3 Lh3 clh3 lnh3 ivh3 rvh3 h3 => ?_)
        obtain ⟨f3, rfl, rfl, rfl, rfl, rfl, fl3, W3, rgf3, exf3, kp11f3, kp12f3, kp13f3, kp14f3, kp15f3, kp16f3⟩ := h3
        refine hv7 (show 1 ≤ iv a0 11 ∧ iv a0 11 ≤ 100 from hW.int t_a0 11) (show 1 ≤ iv a0 12 ∧ iv a0 12 ≤ 50 from hW.int t_a0 12) (show (-2147483648) ≤ iv a0 13 ∧ iv a0 13 ≤ 2147483647 from hW.int t_a0 13) (show (-2147483648) ≤ iv a0 14 ∧ iv a0 14 ≤ 2147483647 from hW.int t_a0 14) (show (-2147483648) ≤ iv a0 15 ∧ iv a0 15 ≤ 2147483647 from hW.int t_a0 15) (show (-2147483648) ≤ iv a0 16 ∧ iv a0 16 ≤ 2147483647 from hW.int t_a0 16) (hF0.call hX0 fl3 rfl) (fun ri15 ri16 ri17 ri18 ri19 ri20 F2 => ?_)
        refine c_st (st2 := [.int (iI f3)]) rfl ?_
        refine hv13 (show ivh3 a0 11 = iv a0 11 from kp11f3) (show ivh3 a0 12 = iv a0 12 from kp12f3) (show ivh3 a0 13 = iv a0 13 from kp13f3) (show ivh3 a0 14 = iv a0 14 from kp14f3) (show ivh3 a0 15 = iv a0 15 from kp15f3) (show ivh3 a0 16 = iv a0 16 from kp16f3) (show f3 = (iv rb1 j.toNat) from exf3) (show 1 ≤ ivh3 a0 11 ∧ ivh3 a0 11 ≤ 100 from W3.int t_a0 11) (show 1 ≤ ivh3 a0 12 ∧ ivh3 a0 12 ≤ 50 from W3.int t_a0 12) (show (-2147483648) ≤ ivh3 a0 13 ∧ ivh3 a0 13 ≤ 2147483647 from W3.int t_a0 13) (show (-2147483648) ≤ ivh3 a0 14 ∧ ivh3 a0 14 ≤ 2147483647 from W3.int t_a0 14) (show (-2147483648) ≤ ivh3 a0 15 ∧ ivh3 a0 15 ≤ 2147483647 from W3.int t_a0 15) (show (-2147483648) ≤ ivh3 a0 16 ∧ ivh3 a0 16 ≤ 2147483647 from W3.int t_a0 16) (fun gk11f3 gk12f3 gk13f3 gk14f3 gk15f3 gk16f3 gf3 ri21 ri22 ri23 ri24 ri25 ri26 => ?_)
        exact c_iret C dX11_cellOfLine_56 rfl (by decide) (rom0 hph hph (by decide)) ⟨f3, rfl, rfl, rfl, rfl, rfl, F2, W3, ⟨by omega, by omega⟩, trivial, gk11f3, gk12f3, gk13f3, gk14f3, gk15f3, gk16f3, (CLP.ok gf1 hsA ⟨by omega, by omega⟩ rq1 (by omega))⟩
      · refine c_aload_n (j := 1) (x := a0) C dX11_cellOfLine_38 rfl ?_
        refine c_iconst C dX11_cellOfLine_39 ?_
        refine d_callV (As := [.int (iI 2)]) (rest := []) C hM (C_refuse (a0 := a0) (x := 2) hW hS t_a0 ⟨by decide, by decide⟩ ) dX11_cellOfLine_40 kV_X11_102 rfl t_a0 rfl rfl (by decide) ck_12 rfl (Nat.le_of_ble_eq_true rfl) ⟨(Nat.le_of_ble_eq_true rfl), (Nat.le_of_ble_eq_true rfl)⟩ hph hph (show 0 + 0 = 0 from rfl) (by decide) (fun rh4 Lh4 clh4 lnh4 ivh4 rvh4 h4 => ?_)
        obtain ⟨f4, rfl, rfl, rfl, rfl, rfl, fl4, W4, rgf4, exf4, kp11f4, kp12f4, kp13f4, kp14f4, kp15f4, kp16f4⟩ := h4
        refine hv7 (show 1 ≤ iv a0 11 ∧ iv a0 11 ≤ 100 from hW.int t_a0 11) (show 1 ≤ iv a0 12 ∧ iv a0 12 ≤ 50 from hW.int t_a0 12) (show (-2147483648) ≤ iv a0 13 ∧ iv a0 13 ≤ 2147483647 from hW.int t_a0 13) (show (-2147483648) ≤ iv a0 14 ∧ iv a0 14 ≤ 2147483647 from hW.int t_a0 14) (show (-2147483648) ≤ iv a0 15 ∧ iv a0 15 ≤ 2147483647 from hW.int t_a0 15) (show (-2147483648) ≤ iv a0 16 ∧ iv a0 16 ≤ 2147483647 from hW.int t_a0 16) (hF0.call hX0 fl4 rfl) (fun ri27 ri28 ri29 ri30 ri31 ri32 F3 => ?_)
        refine c_st (st2 := [.int (iI f4)]) rfl ?_
        refine hv7 (show ivh4 a0 11 = iv a0 11 from kp11f4) (show ivh4 a0 12 = iv a0 12 from kp12f4) (show ivh4 a0 13 = iv a0 13 from kp13f4) (show ivh4 a0 14 = iv a0 14 from kp14f4) (show ivh4 a0 15 = iv a0 15 from kp15f4) (show ivh4 a0 16 = iv a0 16 from kp16f4) (show f4 = -1 from exf4) (fun gk11f4 gk12f4 gk13f4 gk14f4 gk15f4 gk16f4 gf4 => ?_)
        refine c_goto (tgt := 56) C dX11_cellOfLine_43 (by decide) ?_
        refine hv6 (show 1 ≤ ivh4 a0 11 ∧ ivh4 a0 11 ≤ 100 from W4.int t_a0 11) (show 1 ≤ ivh4 a0 12 ∧ ivh4 a0 12 ≤ 50 from W4.int t_a0 12) (show (-2147483648) ≤ ivh4 a0 13 ∧ ivh4 a0 13 ≤ 2147483647 from W4.int t_a0 13) (show (-2147483648) ≤ ivh4 a0 14 ∧ ivh4 a0 14 ≤ 2147483647 from W4.int t_a0 14) (show (-2147483648) ≤ ivh4 a0 15 ∧ ivh4 a0 15 ≤ 2147483647 from W4.int t_a0 15) (show (-2147483648) ≤ ivh4 a0 16 ∧ ivh4 a0 16 ≤ 2147483647 from W4.int t_a0 16) (fun ri33 ri34 ri35 ri36 ri37 ri38 => ?_)
        exact c_iret C dX11_cellOfLine_56 rfl (by decide) (rom0 hph hph (by decide)) ⟨f4, rfl, rfl, rfl, rfl, rfl, F3, W4, ⟨by omega, by omega⟩, trivial, gk11f4, gk12f4, gk13f4, gk14f4, gk15f4, gk16f4, (CLP.out gf1 hsA (by omega) (by omega))⟩
  · subst oq1
    refine c_lv (lv2 := [(3, .null), (0, .ref a0), (1, .int (iI i)), (2, .int (iI j))]) [0, 1, 2, 3] rfl ?_
    refine c_st (st2 := []) rfl ?_
    refine c_aload_n (j := 1) (x := a0) C dX11_cellOfLine_13 rfl ?_
    refine c_aload_n (j := 1) (x := a0) C dX11_cellOfLine_14 rfl ?_
    refine c_getr (k := 9) C ck_12 dX11_cellOfLine_15 w2_53 (by decide) t_a0 rfl rfl (by decide) rfl hsA ?_
    refine c_st (st2 := [.ref sA, .ref a0]) rfl ?_
    refine c_iload_n (j := 2) C dX11_cellOfLine_18 rfl ?_
    refine d_callV (As := [.int (iI i)]) (rest := [.ref a0]) C hM (C_whyNone (a0 := sA) (i := i) hW hS tsA (by omega) ) dX11_cellOfLine_19 kV_X11_292 rfl tsA rfl rfl (by decide) ck_8 rfl (Nat.le_of_ble_eq_true rfl) ⟨(Nat.le_of_ble_eq_true rfl), (Nat.le_of_ble_eq_true rfl)⟩ hph hph (show 0 + 0 = 0 from rfl) (by decide) (fun rh5 Lh5 clh5 lnh5 ivh5 rvh5 h5 => ?_)
    obtain ⟨f5, rfl, rfl, rfl, rfl, rfl, rfl, rgf5, exf5⟩ := h5
    refine c_st (st2 := [.int (iI f5), .ref a0]) rfl ?_
    have gf5 : f5 = 1 ∨ f5 = 2 := exf5
    refine d_callV (As := [.int (iI f5)]) (rest := []) C hM (C_refuse (a0 := a0) (x := f5) hW hS t_a0 (by omega) ) dX11_cellOfLine_22 kV_X11_102 rfl t_a0 rfl rfl (by decide) ck_12 rfl (Nat.le_of_ble_eq_true rfl) ⟨(Nat.le_of_ble_eq_true rfl), (Nat.le_of_ble_eq_true rfl)⟩ hph hph (show 0 + 0 = 0 from rfl) (by decide) (fun rh6 Lh6 clh6 lnh6 ivh6 rvh6 h6 => ?_)
    obtain ⟨f6, rfl, rfl, rfl, rfl, rfl, fl6, W6, rgf6, exf6, kp11f6, kp12f6, kp13f6, kp14f6, kp15f6, kp16f6⟩ := h6
    refine hv7 (show 1 ≤ iv a0 11 ∧ iv a0 11 ≤ 100 from hW.int t_a0 11) (show 1 ≤ iv a0 12 ∧ iv a0 12 ≤ 50 from hW.int t_a0 12) (show (-2147483648) ≤ iv a0 13 ∧ iv a0 13 ≤ 2147483647 from hW.int t_a0 13) (show (-2147483648) ≤ iv a0 14 ∧ iv a0 14 ≤ 2147483647 from hW.int t_a0 14) (show (-2147483648) ≤ iv a0 15 ∧ iv a0 15 ≤ 2147483647 from hW.int t_a0 15) (show (-2147483648) ≤ iv a0 16 ∧ iv a0 16 ≤ 2147483647 from hW.int t_a0 16) (hF0.call hX0 fl6 rfl) (fun ri39 ri40 ri41 ri42 ri43 ri44 F4 => ?_)
    refine c_st (st2 := [.int (iI f6)]) rfl ?_
    refine hv13 (show ivh6 a0 11 = iv a0 11 from kp11f6) (show ivh6 a0 12 = iv a0 12 from kp12f6) (show ivh6 a0 13 = iv a0 13 from kp13f6) (show ivh6 a0 14 = iv a0 14 from kp14f6) (show ivh6 a0 15 = iv a0 15 from kp15f6) (show ivh6 a0 16 = iv a0 16 from kp16f6) (show f6 = -1 from exf6) (show 1 ≤ ivh6 a0 11 ∧ ivh6 a0 11 ≤ 100 from W6.int t_a0 11) (show 1 ≤ ivh6 a0 12 ∧ ivh6 a0 12 ≤ 50 from W6.int t_a0 12) (show (-2147483648) ≤ ivh6 a0 13 ∧ ivh6 a0 13 ≤ 2147483647 from W6.int t_a0 13) (show (-2147483648) ≤ ivh6 a0 14 ∧ ivh6 a0 14 ≤ 2147483647 from W6.int t_a0 14) (show (-2147483648) ≤ ivh6 a0 15 ∧ ivh6 a0 15 ≤ 2147483647 from W6.int t_a0 15) (show (-2147483648) ≤ ivh6 a0 16 ∧ ivh6 a0 16 ≤ 2147483647 from W6.int t_a0 16) (fun gk11f6 gk12f6 gk13f6 gk14f6 gk15f6 gk16f6 gf6 ri45 ri46 ri47 ri48 ri49 ri50 => ?_)
    exact c_iret C dX11_cellOfLine_25 rfl (by decide) (rom0 hph hph (by decide)) ⟨f6, rfl, rfl, rfl, rfl, rfl, F4, W6, ⟨by omega, by omega⟩, trivial, gk11f6, gk12f6, gk13f6, gk14f6, gk15f6, gk16f6, (CLP.bad gf1 hsA (by omega))⟩
set_option maxHeartbeats 4000000 in
set_option maxRecDepth 100000 in
theorem G_lose {l : Launch} {G : GT} {mi : Nat} {sk : Nat → Nat} {L : List Nat} {cl ln : Nat → Nat} {iv : Nat → Nat → Int} {rv : Nat → Nat → Option Nat}  {a0 : Nat} {i : Int} (hW : WT (g0 G) sk L cl ln iv rv) (hS : SKL sk L cl) (t_a0 : ty L cl a0 1) (h_i : -2147483648 ≤ i ∧ i ≤ 2147483647)  : Mc l G mi (Phi (g0 G) sk) PHM yX11_lose cX11_lose 3 (some .int) 1 [.ref a0, .int (iI i)] L cl ln iv rv 0 (fun v L2 cl2 ln2 iv2 rv2 => ∃ f : Int, v = some (.int (iI f)) ∧ L = L2 ∧ cl = cl2 ∧ ln = ln2 ∧ rv = rv2 ∧ fT [1, 19] L cl iv rv iv2 rv2 ∧ WT (g0 G) sk L2 cl2 ln2 iv2 rv2 ∧ (-2147483648 ≤ f ∧ f ≤ 2147483647) ∧ (True) ∧ iv2 a0 11 = iv a0 11 ∧ iv2 a0 12 = iv a0 12 ∧ iv2 a0 13 = iv a0 13 ∧ iv2 a0 14 = iv a0 14 ∧ iv2 a0 15 = iv a0 15 ∧ iv2 a0 16 = iv a0 16 ∧ (TCH iv rv iv2 a0 (fun E E2 => LOSX E i f E2))) := by
  refine Mc.mk (by decide) (Nat.le_of_ble_eq_true rfl) ?_
  intro p e s m args below meth c A C hM
  refine hv3 (Phi.le hW hS) (show XT L cl ln L cl ln from XT.refl) (show fT [1, 19] L cl iv rv iv rv from fT.refl) (fun hph hX0 hF0 => ?_)
  obtain ⟨sA, hsA, tsA⟩ := hW.ref t_a0 9 rfl rfl rfl
  have ri1 : 0 ≤ iv sA 1 ∧ iv sA 1 ≤ 200 := hW.int tsA 1
  refine c_aload_n (j := 0) (x := a0) C dX11_lose_0 rfl ?_
  refine c_getr (k := 9) C ck_12 dX11_lose_1 w2_53 (by decide) t_a0 rfl rfl (by decide) rfl hsA ?_
  refine c_st (st2 := [.ref sA]) rfl ?_
  refine c_iload_n (j := 1) C dX11_lose_4 rfl ?_
  refine d_callV (As := [.int (iI i)]) (rest := []) C hM (G_sat (a0 := sA) (i := i) hW hS tsA (by omega) ) dX11_lose_5 kV_X11_308 rfl tsA rfl rfl (by decide) ck_8 rfl (Nat.le_of_ble_eq_true rfl) ⟨(Nat.le_of_ble_eq_true rfl), (Nat.le_of_ble_eq_true rfl)⟩ hph hph (show 0 + 0 = 0 from rfl) (by decide) (fun rh1 Lh1 clh1 lnh1 ivh1 rvh1 h1 => ?_)
  obtain ⟨f1, rfl, rfl, rfl, rfl, rfl, rfl, rgf1, exf1⟩ := h1
  refine c_st (st2 := [(va_rf f1)]) rfl ?_
  have gf1 : SATX iv rv sA i f1 := exf1
  refine c_astorer_n (r := f1) (lv2 := [(2, (va_rf f1)), (0, .ref a0), (1, .int (iI i))]) C dX11_lose_8 (by decide) rfl ?_
  refine c_aloadr_n (j := 0) (r := f1) C dX11_lose_9 rfl ?_
  refine c_ifnonnull (r := f1) (tgt := 19) C dX11_lose_10 (by decide) (fun ob1 oq1 => ?_) (fun oq1 => ?_)
  · subst oq1
    have tob1 := rgf1 ob1 rfl
    refine c_lv (lv2 := [(2, .ref ob1), (0, .ref a0), (1, .int (iI i))]) [0, 1, 2] rfl ?_
    refine c_st (st2 := []) rfl ?_
    refine c_aload_n (j := 0) (x := ob1) C dX11_lose_19 rfl ?_
    refine c_iconst C dX11_lose_20 ?_
    refine c_put (z := 1) (k := 2) C ck_3 dX11_lose_21 w4_56 (by decide) rfl tob1 rfl rfl (by decide) rfl (by decide) (by decide) (fun iv1 pq1 => ?_)
    refine hv3 (hW.puti pq1 tob1 ⟨by decide, by decide⟩ rfl) (hF0.puti hX0 pq1 tob1 rfl) (show iv1 sA 1 = iv sA 1 from by rw [pq1]; exact up2_k (ne_ty tsA tob1 (by decide))) (fun W2 F1 ie1 => ?_)
    have ri2 : 0 ≤ iv1 sA 1 ∧ iv1 sA 1 ≤ 200 := W2.int tsA 1
    refine c_aload_n (j := 1) (x := a0) C dX11_lose_24 rfl ?_
    refine c_iconst C dX11_lose_25 ?_
    refine d_callV (As := [.int (iI 1)]) (rest := []) C hM (C_done (a0 := a0) (x := 1) W2 hS t_a0 ⟨by decide, by decide⟩ ) dX11_lose_26 kV_X11_109 rfl t_a0 rfl rfl (by decide) ck_12 rfl (Nat.le_of_ble_eq_true rfl) ⟨(Nat.le_of_ble_eq_true rfl), (Nat.le_of_ble_eq_true rfl)⟩ hph hph (show 0 + 0 = 0 from rfl) (by decide) (fun rh2 Lh2 clh2 lnh2 ivh2 rvh2 h2 => ?_)
    obtain ⟨f2, rfl, rfl, rfl, rfl, rfl, fl2, W3, rgf2, exf2, kp11f2, kp12f2, kp13f2, kp14f2, kp15f2, kp16f2⟩ := h2
    refine hv13 (show 1 ≤ iv1 a0 11 ∧ iv1 a0 11 ≤ 100 from W2.int t_a0 11) (show iv1 a0 11 = iv a0 11 from by rw [pq1]; exact up2_k (ne_ty t_a0 tob1 (by decide))) (show 1 ≤ iv1 a0 12 ∧ iv1 a0 12 ≤ 50 from W2.int t_a0 12) (show iv1 a0 12 = iv a0 12 from by rw [pq1]; exact up2_k (ne_ty t_a0 tob1 (by decide))) (show (-2147483648) ≤ iv1 a0 13 ∧ iv1 a0 13 ≤ 2147483647 from W2.int t_a0 13) (show iv1 a0 13 = iv a0 13 from by rw [pq1]; exact up2_k (ne_ty t_a0 tob1 (by decide))) (show (-2147483648) ≤ iv1 a0 14 ∧ iv1 a0 14 ≤ 2147483647 from W2.int t_a0 14) (show iv1 a0 14 = iv a0 14 from by rw [pq1]; exact up2_k (ne_ty t_a0 tob1 (by decide))) (show (-2147483648) ≤ iv1 a0 15 ∧ iv1 a0 15 ≤ 2147483647 from W2.int t_a0 15) (show iv1 a0 15 = iv a0 15 from by rw [pq1]; exact up2_k (ne_ty t_a0 tob1 (by decide))) (show (-2147483648) ≤ iv1 a0 16 ∧ iv1 a0 16 ≤ 2147483647 from W2.int t_a0 16) (show iv1 a0 16 = iv a0 16 from by rw [pq1]; exact up2_k (ne_ty t_a0 tob1 (by decide))) (F1.call hX0 fl2 rfl) (fun ri3 ie2 ri4 ie3 ri5 ie4 ri6 ie5 ri7 ie6 ri8 ie7 F2 => ?_)
    refine c_st (st2 := [.int (iI f2)]) rfl ?_
    refine hv15 (show ivh2 a0 11 = iv1 a0 11 from kp11f2) (show ivh2 a0 12 = iv1 a0 12 from kp12f2) (show ivh2 a0 13 = iv1 a0 13 from kp13f2) (show ivh2 a0 14 = iv1 a0 14 from kp14f2) (show ivh2 a0 15 = iv1 a0 15 from kp15f2) (show ivh2 a0 16 = iv1 a0 16 from kp16f2) (show f2 = (1 : Int) from exf2) (show 1 ≤ ivh2 a0 11 ∧ ivh2 a0 11 ≤ 100 from W3.int t_a0 11) (show 1 ≤ ivh2 a0 12 ∧ ivh2 a0 12 ≤ 50 from W3.int t_a0 12) (show (-2147483648) ≤ ivh2 a0 13 ∧ ivh2 a0 13 ≤ 2147483647 from W3.int t_a0 13) (show (-2147483648) ≤ ivh2 a0 14 ∧ ivh2 a0 14 ≤ 2147483647 from W3.int t_a0 14) (show (-2147483648) ≤ ivh2 a0 15 ∧ ivh2 a0 15 ≤ 2147483647 from W3.int t_a0 15) (show (-2147483648) ≤ ivh2 a0 16 ∧ ivh2 a0 16 ≤ 2147483647 from W3.int t_a0 16) (show 0 ≤ ivh2 sA 1 ∧ ivh2 sA 1 ≤ 200 from W3.int tsA 1) (show ivh2 sA 1 = iv1 sA 1 from fl2.i tsA rfl 1) (fun gk11f2 gk12f2 gk13f2 gk14f2 gk15f2 gk16f2 gf2 ri9 ri10 ri11 ri12 ri13 ri14 ri15 ie14 => ?_)
    exact c_iret C dX11_lose_29 rfl (by decide) (rom0 hph hph (by decide)) ⟨f2, rfl, rfl, rfl, rfl, rfl, F2, W3, ⟨by omega, by omega⟩, trivial, (gk11f2.trans ie2), (gk12f2.trans ie3), (gk13f2.trans ie4), (gk14f2.trans ie5), (gk15f2.trans ie6), (gk16f2.trans ie7), (TCH.row hsA hW tsA gf1 (LFR.refl.self tob1 pq1) (by omega) W2 fl2 rfl rfl rfl rfl (fun E hE => LSP.ok gf1 pq1 (by omega) hE))⟩
  · subst oq1
    refine c_lv (lv2 := [(2, .null), (0, .ref a0), (1, .int (iI i))]) [0, 1, 2] rfl ?_
    refine c_st (st2 := []) rfl ?_
    refine c_aload_n (j := 1) (x := a0) C dX11_lose_13 rfl ?_
    refine c_iconst C dX11_lose_14 ?_
    refine d_callV (As := [.int (iI 2)]) (rest := []) C hM (C_refuse (a0 := a0) (x := 2) hW hS t_a0 ⟨by decide, by decide⟩ ) dX11_lose_15 kV_X11_102 rfl t_a0 rfl rfl (by decide) ck_12 rfl (Nat.le_of_ble_eq_true rfl) ⟨(Nat.le_of_ble_eq_true rfl), (Nat.le_of_ble_eq_true rfl)⟩ hph hph (show 0 + 0 = 0 from rfl) (by decide) (fun rh3 Lh3 clh3 lnh3 ivh3 rvh3 h3 => ?_)
    obtain ⟨f3, rfl, rfl, rfl, rfl, rfl, fl3, W4, rgf3, exf3, kp11f3, kp12f3, kp13f3, kp14f3, kp15f3, kp16f3⟩ := h3
    refine hv7 (show 1 ≤ iv a0 11 ∧ iv a0 11 ≤ 100 from hW.int t_a0 11) (show 1 ≤ iv a0 12 ∧ iv a0 12 ≤ 50 from hW.int t_a0 12) (show (-2147483648) ≤ iv a0 13 ∧ iv a0 13 ≤ 2147483647 from hW.int t_a0 13) (show (-2147483648) ≤ iv a0 14 ∧ iv a0 14 ≤ 2147483647 from hW.int t_a0 14) (show (-2147483648) ≤ iv a0 15 ∧ iv a0 15 ≤ 2147483647 from hW.int t_a0 15) (show (-2147483648) ≤ iv a0 16 ∧ iv a0 16 ≤ 2147483647 from hW.int t_a0 16) (hF0.call hX0 fl3 rfl) (fun ri16 ri17 ri18 ri19 ri20 ri21 F3 => ?_)
    refine c_st (st2 := [.int (iI f3)]) rfl ?_
    refine hv13 (show ivh3 a0 11 = iv a0 11 from kp11f3) (show ivh3 a0 12 = iv a0 12 from kp12f3) (show ivh3 a0 13 = iv a0 13 from kp13f3) (show ivh3 a0 14 = iv a0 14 from kp14f3) (show ivh3 a0 15 = iv a0 15 from kp15f3) (show ivh3 a0 16 = iv a0 16 from kp16f3) (show f3 = -1 from exf3) (show 1 ≤ ivh3 a0 11 ∧ ivh3 a0 11 ≤ 100 from W4.int t_a0 11) (show 1 ≤ ivh3 a0 12 ∧ ivh3 a0 12 ≤ 50 from W4.int t_a0 12) (show (-2147483648) ≤ ivh3 a0 13 ∧ ivh3 a0 13 ≤ 2147483647 from W4.int t_a0 13) (show (-2147483648) ≤ ivh3 a0 14 ∧ ivh3 a0 14 ≤ 2147483647 from W4.int t_a0 14) (show (-2147483648) ≤ ivh3 a0 15 ∧ ivh3 a0 15 ≤ 2147483647 from W4.int t_a0 15) (show (-2147483648) ≤ ivh3 a0 16 ∧ ivh3 a0 16 ≤ 2147483647 from W4.int t_a0 16) (fun gk11f3 gk12f3 gk13f3 gk14f3 gk15f3 gk16f3 gf3 ri22 ri23 ri24 ri25 ri26 ri27 => ?_)
    exact c_iret C dX11_lose_18 rfl (by decide) (rom0 hph hph (by decide)) ⟨f3, rfl, rfl, rfl, rfl, rfl, F3, W4, ⟨by omega, by omega⟩, trivial, gk11f3, gk12f3, gk13f3, gk14f3, gk15f3, gk16f3, (TCH.same hsA hW tsA fl3 rfl rfl rfl rfl (fun E hE => LSP.no gf1 (by omega) hE))⟩
set_option maxHeartbeats 4000000 in
set_option maxRecDepth 100000 in
theorem G_resize {l : Launch} {G : GT} {mi : Nat} {sk : Nat → Nat} {L : List Nat} {cl ln : Nat → Nat} {iv : Nat → Nat → Int} {rv : Nat → Nat → Option Nat}  {a0 : Nat} {n : Int} (hW : WT (g0 G) sk L cl ln iv rv) (hS : SKL sk L cl) (t_a0 : ty L cl a0 19) (h_n : -2147483648 ≤ n ∧ n ≤ 2147483647) (hn : 0 ≤ n ∧ n ≤ 200) : Mc l G mi (Phi (g0 G) sk) PHM yX2_resize cX2_resize 3 none 1 [.ref a0, .int (iI n)] L cl ln iv rv 0 (fun v L2 cl2 ln2 iv2 rv2 => v = none ∧ L = L2 ∧ cl = cl2 ∧ ln = ln2 ∧ rv = rv2 ∧ fT [19, 64] L cl iv rv iv2 rv2 ∧ WT (g0 G) sk L2 cl2 ln2 iv2 rv2 ∧ ((LFR L cl iv rv iv2 a0 ∧ iv2 a0 2 = iv a0 2) ∧ RSK iv rv iv2 a0 n)) := by
  refine Mc.mk (by decide) (Nat.le_of_ble_eq_true rfl) ?_
  intro p e s m args below meth c A C hM
  refine hv5 (Phi.le hW hS) (show XT L cl ln L cl ln from XT.refl) (show fT [19, 64] L cl iv rv iv rv from fT.refl) (show 0 ≤ iv a0 1 ∧ iv a0 1 ≤ 200 from hW.int t_a0 1) (show 0 ≤ iv a0 2 ∧ iv a0 2 ≤ 1 from hW.int t_a0 2) (fun hph hX0 hF0 ri1 ri2 => ?_)
  refine c_aload_n (j := 0) (x := a0) C dX2_resize_0 rfl ?_
  refine c_aload_n (j := 0) (x := a0) C dX2_resize_1 rfl ?_
  refine c_get (k := 1) C ck_3 dX2_resize_2 w4_49 (by decide) t_a0 rfl rfl (by decide) rfl ?_
  refine c_iload_n (j := 1) C dX2_resize_5 rfl ?_
  obtain ⟨mn1, hmn1, emn1⟩ := mmin_c (x := iv a0 1) (y := n) (r32_c (lo := 0) (hi := 200) ri1.1 ri1.2 (by decide) (by decide)) ⟨by omega, by omega⟩
  refine c_mmin (w := iI mn1) C dX2_resize_6 w4_219 w2_129 w1_14 w2_130 (by decide) (rom0 hph hph (by decide)) (Nat.le_of_ble_eq_true rfl) emn1 ?_
  refine c_put (z := mn1) (k := 1) C ck_3 dX2_resize_9 w4_49 (by decide) rfl t_a0 rfl rfl (by decide) rfl (by rfl) (by rfl) (fun iv1 pq1 => ?_)
  refine hv2 (hW.puti pq1 t_a0 (show 0 ≤ mn1 ∧ mn1 ≤ 200 by omega) rfl) (hF0.puti hX0 pq1 t_a0 rfl) (fun W1 F1 => ?_)
  refine c_aload_n (j := 0) (x := a0) C dX2_resize_12 rfl ?_
  refine hv2 (show 0 ≤ iv1 a0 1 ∧ iv1 a0 1 ≤ 200 from W1.int t_a0 1) (show iv1 a0 1 = mn1 from by rw [pq1]; exact up2_s) (fun ri3 ie1 => ?_)
  refine c_get (k := 1) C ck_3 dX2_resize_13 w4_49 (by decide) t_a0 rfl rfl (by decide) rfl ?_
  refine c_istore_n (lv2 := [(2, .int (iI (iv1 a0 1))), (0, .ref a0), (1, .int (iI n))]) C dX2_resize_16 (by decide) rfl ?_
  have Lp1 : ∀ (nn : Nat) (k : Int) (ivb1 : Nat → Nat → Int) , 201 - k < (nn : Int) → WT (g0 G) sk L cl ln ivb1 rv → fT [19, 64] L cl iv rv ivb1 rv → (0 ≤ k ∧ k ≤ 200) → (k ≤ n ∧ (iv a0 1 ≤ k ∨ k = n)) → (LFR L cl iv rv ivb1 a0) → (ivb1 a0 2 = iv a0 2) → (RSK iv rv ivb1 a0 k) → cw p l e 1 ((PHM) + 0 - ((Phi (g0 G) sk) ln rv)) s m args below meth c G A 3 (MQ below (Qu G A (Qp G (Phi (g0 G) sk) ((Phi (g0 G) sk) ln rv) 0 (fun v L2 cl2 ln2 iv2 rv2 => v = none ∧ L = L2 ∧ cl = cl2 ∧ ln = ln2 ∧ rv = rv2 ∧ fT [19, 64] L cl iv rv iv2 rv2 ∧ WT (g0 G) sk L2 cl2 ln2 iv2 rv2 ∧ ((LFR L cl iv rv iv2 a0 ∧ iv2 a0 2 = iv a0 2) ∧ RSK iv rv iv2 a0 n)))) args s (((PHM) + 0 - ((Phi (g0 G) sk) ln rv)) / 16) ((PHM) + 0 - ((Phi (g0 G) sk) ln rv)) A) (Phi (g0 G) sk) ((Phi (g0 G) sk) ln rv) L cl ln ivb1 rv 0 17 [(2, .int (iI k)), (0, .ref a0), (1, .int (iI n))] [] := by
    intro nn
    induction nn with
    | zero =>
      intro  k ivb1 hm Wb1 Fb1  hk hkn hLF h2e hRS
      exact absurd hm (by omega)
    | succ nn ih1 =>
      intro  k ivb1 hm Wb1 Fb1  hk hkn hLF h2e hRS
      refine c_iload_n (j := 0) C dX2_resize_17 rfl ?_
      refine c_iload_n (j := 2) C dX2_resize_18 rfl ?_
      refine c_icmp_ge (tgt := 33) C (r32_c (lo := 0) (hi := 200) hk.1 hk.2 (by decide) (by decide)) ⟨by omega, by omega⟩ dX2_resize_19 (by decide) (fun c1 => ?_) (fun c1 => ?_)
      · have ri4 : 0 ≤ ivb1 a0 1 ∧ ivb1 a0 1 ≤ 200 := Wb1.int t_a0 1
        have ri5 : 0 ≤ ivb1 a0 2 ∧ ivb1 a0 2 ≤ 1 := Wb1.int t_a0 2
        exact c_vret C dX2_resize_33 rfl (by decide) (rom0 hph hph (by decide)) ⟨rfl, rfl, rfl, rfl, rfl, Fb1, Wb1, ⟨⟨hLF, by omega⟩, (by rw [show n = k by omega]; exact hRS)⟩⟩
      · refine c_aload_n (j := 1) (x := a0) C dX2_resize_22 rfl ?_
        refine c_iconst C dX2_resize_23 ?_
        refine hv2 (show 0 ≤ ivb1 a0 1 ∧ ivb1 a0 1 ≤ 200 from Wb1.int t_a0 1) (show 0 ≤ ivb1 a0 2 ∧ ivb1 a0 2 ≤ 1 from Wb1.int t_a0 2) (fun ri6 ri7 => ?_)
        refine d_callV (As := [.int (iI 0)]) (rest := []) C hM (G_ladd (a0 := a0) (x := 0) Wb1 hS t_a0 ⟨by decide, by decide⟩ ) dX2_resize_24 kV_X2_23 rfl t_a0 rfl rfl (by decide) ck_3 rfl (Nat.le_of_ble_eq_true rfl) ⟨(Nat.le_of_ble_eq_true rfl), (Nat.le_of_ble_eq_true rfl)⟩ hph hph (show 0 + 0 = 0 from rfl) (by decide) (fun rh1 Lh1 clh1 lnh1 ivh1 rvh1 h1 => ?_)
        obtain ⟨rfl, rfl, rfl, rfl, rfl, fl1, W2, exf1⟩ := h1
        have F2 := Fb1.call hX0 fl1 rfl
        refine c_st (st2 := []) rfl ?_
        refine hv3 (show 0 ≤ ivh1 a0 1 ∧ ivh1 a0 1 ≤ 200 from W2.int t_a0 1) (show 0 ≤ ivh1 a0 2 ∧ ivh1 a0 2 ≤ 1 from W2.int t_a0 2) (show ((ivh1 a0 1 = ivb1 a0 1 ∧ ivb1 a0 1 = 200) ∨ ivh1 a0 1 = ivb1 a0 1 + 1) ∧ (LFR L cl ivb1 rv ivh1 a0 ∧ ivh1 a0 2 = ivb1 a0 2) ∧ LAX ivb1 rv ivh1 a0 (0 : Int) from exf1) (fun ri8 ri9 gf1 => ?_)
        refine c_iinc (z := k) (j := 0) (lv2 := [(2, .int (iI (k + 1))), (0, .ref a0), (1, .int (iI n))]) C dX2_resize_27 rfl (by decide) rfl ?_
        refine c_goto (tgt := 17) C dX2_resize_30 (by decide) ?_
        refine c_lv (lv2 := [(2, .int (iI (k + 1))), (0, .ref a0), (1, .int (iI n))]) [0, 1, 2] rfl ?_
        exact ih1  (k + 1) _ (by omega) W2 F2  (by omega) (by omega) (hLF.trans gf1.2.1.1) (gf1.2.1.2.trans h2e) (hRS.step gf1.2.2 ⟨by omega, by omega, by omega⟩)
  refine hv2 (show 0 ≤ iv1 a0 2 ∧ iv1 a0 2 ≤ 1 from W1.int t_a0 2) (show iv1 a0 2 = iv a0 2 from by rw [pq1]; exact up2_j (by decide)) (fun ri10 ie8 => ?_)
  refine c_lv (lv2 := [(2, .int (iI (iv1 a0 1))), (0, .ref a0), (1, .int (iI n))]) [0, 1, 2] rfl ?_
  exact Lp1 203 (iv1 a0 1) _ (by omega) W1 F1  (by omega) (by omega) (LFR.refl.self t_a0 pq1) ie8 (by rw [show iv1 a0 1 = mn1 by omega]; exact RSK.init pq1 ⟨by omega, by omega⟩ (fun cb hc => ne_ty (li64 hW t_a0 hc) t_a0 (by decide)))
set_option maxHeartbeats 4000000 in
set_option maxRecDepth 100000 in
theorem G_cut {l : Launch} {G : GT} {mi : Nat} {sk : Nat → Nat} {L : List Nat} {cl ln : Nat → Nat} {iv : Nat → Nat → Int} {rv : Nat → Nat → Option Nat}  {a0 : Nat} {i : Int} {n : Int} (hW : WT (g0 G) sk L cl ln iv rv) (hS : SKL sk L cl) (t_a0 : ty L cl a0 1) (h_i : -2147483648 ≤ i ∧ i ≤ 2147483647) (h_n : -2147483648 ≤ n ∧ n ≤ 2147483647)  : Mc l G mi (Phi (g0 G) sk) PHM yX11_cut cX11_cut 4 (some .int) 2 [.ref a0, .int (iI i), .int (iI n)] L cl ln iv rv 0 (fun v L2 cl2 ln2 iv2 rv2 => ∃ f : Int, v = some (.int (iI f)) ∧ L = L2 ∧ cl = cl2 ∧ ln = ln2 ∧ rv = rv2 ∧ fT [1, 19, 64] L cl iv rv iv2 rv2 ∧ WT (g0 G) sk L2 cl2 ln2 iv2 rv2 ∧ (-2147483648 ≤ f ∧ f ≤ 2147483647) ∧ (True) ∧ iv2 a0 11 = iv a0 11 ∧ iv2 a0 12 = iv a0 12 ∧ iv2 a0 13 = iv a0 13 ∧ iv2 a0 14 = iv a0 14 ∧ iv2 a0 15 = iv a0 15 ∧ iv2 a0 16 = iv a0 16 ∧ (TCH iv rv iv2 a0 (fun E E2 => CUTX E i n f E2))) := by
  refine Mc.mk (by decide) (Nat.le_of_ble_eq_true rfl) ?_
  intro p e s m args below meth c A C hM
  refine hv3 (Phi.le hW hS) (show XT L cl ln L cl ln from XT.refl) (show fT [1, 19, 64] L cl iv rv iv rv from fT.refl) (fun hph hX0 hF0 => ?_)
  obtain ⟨sA, hsA, tsA⟩ := hW.ref t_a0 9 rfl rfl rfl
  have ri1 : 0 ≤ iv sA 1 ∧ iv sA 1 ≤ 200 := hW.int tsA 1
  refine c_iload_n (j := 2) C dX11_cut_0 rfl ?_
  refine c_sipush (z := 200) C dX11_cut_1 (by decide) ?_
  refine c_icmp_le (tgt := 14) C ⟨by omega, by omega⟩ ⟨by decide, by decide⟩ dX11_cut_4 (by decide) (fun c1 => ?_) (fun c1 => ?_)
  · refine c_iload_n (j := 2) C dX11_cut_14 rfl ?_
    refine c_if_ge (tgt := 24) C ⟨by omega, by omega⟩ dX11_cut_15 (by decide) (fun c2 => ?_) (fun c2 => ?_)
    · refine c_aload_n (j := 0) (x := a0) C dX11_cut_24 rfl ?_
      refine c_getr (k := 9) C ck_12 dX11_cut_25 w2_53 (by decide) t_a0 rfl rfl (by decide) rfl hsA ?_
      refine c_st (st2 := [.ref sA]) rfl ?_
      refine c_iload_n (j := 1) C dX11_cut_28 rfl ?_
      refine d_callV (As := [.int (iI i)]) (rest := []) C hM (G_present (a0 := sA) (i := i) hW hS tsA (by omega) ) dX11_cut_29 kV_X11_288 rfl tsA rfl rfl (by decide) ck_8 rfl (Nat.le_of_ble_eq_true rfl) ⟨(Nat.le_of_ble_eq_true rfl), (Nat.le_of_ble_eq_true rfl)⟩ hph hph (show 0 + 0 = 0 from rfl) (by decide) (fun rh1 Lh1 clh1 lnh1 ivh1 rvh1 h1 => ?_)
      obtain ⟨f1, rfl, rfl, rfl, rfl, rfl, rfl, rgf1, exf1⟩ := h1
      refine c_st (st2 := [(va_rf f1)]) rfl ?_
      have gf1 : PRX iv rv sA i f1 := exf1
      refine c_astorer_n (r := f1) (lv2 := [(3, (va_rf f1)), (0, .ref a0), (1, .int (iI i)), (2, .int (iI n))]) C dX11_cut_32 (by decide) rfl ?_
      refine c_aloadr_n (j := 0) (r := f1) C dX11_cut_33 rfl ?_
      refine c_ifnonnull (r := f1) (tgt := 50) C dX11_cut_34 (by decide) (fun ob1 oq1 => ?_) (fun oq1 => ?_)
      · subst oq1
        have tob1 := rgf1 ob1 rfl
        refine c_lv (lv2 := [(3, .ref ob1), (0, .ref a0), (1, .int (iI i)), (2, .int (iI n))]) [0, 1, 2, 3] rfl ?_
        refine c_st (st2 := []) rfl ?_
        refine c_aload_n (j := 0) (x := ob1) C dX11_cut_50 rfl ?_
        refine c_iload_n (j := 3) C dX11_cut_51 rfl ?_
        have ri2 : 0 ≤ iv ob1 2 ∧ iv ob1 2 ≤ 1 := hW.int tob1 2
        refine d_callV (As := [.int (iI n)]) (rest := []) C hM (G_resize (a0 := ob1) (n := n) hW hS tob1 (by omega) (by show 0 ≤ n ∧ n ≤ 200; omega)) dX11_cut_52 kV_X11_305 rfl tob1 rfl rfl (by decide) ck_3 rfl (Nat.le_of_ble_eq_true rfl) ⟨(Nat.le_of_ble_eq_true rfl), (Nat.le_of_ble_eq_true rfl)⟩ hph hph (show 0 + 0 = 0 from rfl) (by decide) (fun rh2 Lh2 clh2 lnh2 ivh2 rvh2 h2 => ?_)
        obtain ⟨rfl, rfl, rfl, rfl, rfl, fl2, W2, exf2⟩ := h2
        have F1 := hF0.call hX0 fl2 rfl
        refine c_st (st2 := []) rfl ?_
        refine hv4 (show 0 ≤ ivh2 ob1 2 ∧ ivh2 ob1 2 ≤ 1 from W2.int tob1 2) (show (LFR L cl iv rv ivh2 ob1 ∧ ivh2 ob1 2 = iv ob1 2) ∧ RSK iv rv ivh2 ob1 n from exf2) (show 0 ≤ ivh2 sA 1 ∧ ivh2 sA 1 ≤ 200 from W2.int tsA 1) (show ivh2 sA 1 = iv sA 1 from fl2.i tsA rfl 1) (fun ri3 gf2 ri4 ie2 => ?_)
        refine c_aload_n (j := 1) (x := a0) C dX11_cut_55 rfl ?_
        refine c_iload_n (j := 3) C dX11_cut_56 rfl ?_
        refine d_callV (As := [.int (iI n)]) (rest := []) C hM (C_done (a0 := a0) (x := n) W2 hS t_a0 (by omega) ) dX11_cut_57 kV_X11_109 rfl t_a0 rfl rfl (by decide) ck_12 rfl (Nat.le_of_ble_eq_true rfl) ⟨(Nat.le_of_ble_eq_true rfl), (Nat.le_of_ble_eq_true rfl)⟩ hph hph (show 0 + 0 = 0 from rfl) (by decide) (fun rh3 Lh3 clh3 lnh3 ivh3 rvh3 h3 => ?_)
        obtain ⟨f3, rfl, rfl, rfl, rfl, rfl, fl3, W3, rgf3, exf3, kp11f3, kp12f3, kp13f3, kp14f3, kp15f3, kp16f3⟩ := h3
        refine hv13 (show 1 ≤ ivh2 a0 11 ∧ ivh2 a0 11 ≤ 100 from W2.int t_a0 11) (show ivh2 a0 11 = iv a0 11 from fl2.i t_a0 rfl 11) (show 1 ≤ ivh2 a0 12 ∧ ivh2 a0 12 ≤ 50 from W2.int t_a0 12) (show ivh2 a0 12 = iv a0 12 from fl2.i t_a0 rfl 12) (show (-2147483648) ≤ ivh2 a0 13 ∧ ivh2 a0 13 ≤ 2147483647 from W2.int t_a0 13) (show ivh2 a0 13 = iv a0 13 from fl2.i t_a0 rfl 13) (show (-2147483648) ≤ ivh2 a0 14 ∧ ivh2 a0 14 ≤ 2147483647 from W2.int t_a0 14) (show ivh2 a0 14 = iv a0 14 from fl2.i t_a0 rfl 14) (show (-2147483648) ≤ ivh2 a0 15 ∧ ivh2 a0 15 ≤ 2147483647 from W2.int t_a0 15) (show ivh2 a0 15 = iv a0 15 from fl2.i t_a0 rfl 15) (show (-2147483648) ≤ ivh2 a0 16 ∧ ivh2 a0 16 ≤ 2147483647 from W2.int t_a0 16) (show ivh2 a0 16 = iv a0 16 from fl2.i t_a0 rfl 16) (F1.call hX0 fl3 rfl) (fun ri5 ie3 ri6 ie4 ri7 ie5 ri8 ie6 ri9 ie7 ri10 ie8 F2 => ?_)
        refine c_st (st2 := [.int (iI f3)]) rfl ?_
        refine hv13 (show ivh3 a0 11 = ivh2 a0 11 from kp11f3) (show ivh3 a0 12 = ivh2 a0 12 from kp12f3) (show ivh3 a0 13 = ivh2 a0 13 from kp13f3) (show ivh3 a0 14 = ivh2 a0 14 from kp14f3) (show ivh3 a0 15 = ivh2 a0 15 from kp15f3) (show ivh3 a0 16 = ivh2 a0 16 from kp16f3) (show f3 = n from exf3) (show 1 ≤ ivh3 a0 11 ∧ ivh3 a0 11 ≤ 100 from W3.int t_a0 11) (show 1 ≤ ivh3 a0 12 ∧ ivh3 a0 12 ≤ 50 from W3.int t_a0 12) (show (-2147483648) ≤ ivh3 a0 13 ∧ ivh3 a0 13 ≤ 2147483647 from W3.int t_a0 13) (show (-2147483648) ≤ ivh3 a0 14 ∧ ivh3 a0 14 ≤ 2147483647 from W3.int t_a0 14) (show (-2147483648) ≤ ivh3 a0 15 ∧ ivh3 a0 15 ≤ 2147483647 from W3.int t_a0 15) (show (-2147483648) ≤ ivh3 a0 16 ∧ ivh3 a0 16 ≤ 2147483647 from W3.int t_a0 16) (fun gk11f3 gk12f3 gk13f3 gk14f3 gk15f3 gk16f3 gf3 ri11 ri12 ri13 ri14 ri15 ri16 => ?_)
        exact c_iret C dX11_cut_60 rfl (by decide) (rom0 hph hph (by decide)) ⟨f3, rfl, rfl, rfl, rfl, rfl, F2, W3, ⟨by omega, by omega⟩, trivial, (gk11f3.trans ie3), (gk12f3.trans ie4), (gk13f3.trans ie5), (gk14f3.trans ie6), (gk15f3.trans ie7), (gk16f3.trans ie8), (TCH.row hsA hW tsA (PRX.smt gf1).1 gf2.1.1 (by omega) W2 fl3 rfl rfl rfl rfl (fun E hE => CTP.ok gf1 ⟨by omega, by omega⟩ gf2.2 gf2.1.2 (by omega) hE))⟩
      · subst oq1
        refine c_lv (lv2 := [(3, .null), (0, .ref a0), (1, .int (iI i)), (2, .int (iI n))]) [0, 1, 2, 3] rfl ?_
        refine c_st (st2 := []) rfl ?_
        refine c_aload_n (j := 1) (x := a0) C dX11_cut_37 rfl ?_
        refine c_aload_n (j := 1) (x := a0) C dX11_cut_38 rfl ?_
        refine c_getr (k := 9) C ck_12 dX11_cut_39 w2_53 (by decide) t_a0 rfl rfl (by decide) rfl hsA ?_
        refine c_st (st2 := [.ref sA, .ref a0]) rfl ?_
        refine c_iload_n (j := 2) C dX11_cut_42 rfl ?_
        refine d_callV (As := [.int (iI i)]) (rest := [.ref a0]) C hM (C_whyNone (a0 := sA) (i := i) hW hS tsA (by omega) ) dX11_cut_43 kV_X11_292 rfl tsA rfl rfl (by decide) ck_8 rfl (Nat.le_of_ble_eq_true rfl) ⟨(Nat.le_of_ble_eq_true rfl), (Nat.le_of_ble_eq_true rfl)⟩ hph hph (show 0 + 0 = 0 from rfl) (by decide) (fun rh4 Lh4 clh4 lnh4 ivh4 rvh4 h4 => ?_)
        obtain ⟨f4, rfl, rfl, rfl, rfl, rfl, rfl, rgf4, exf4⟩ := h4
        refine c_st (st2 := [.int (iI f4), .ref a0]) rfl ?_
        have gf4 : f4 = 1 ∨ f4 = 2 := exf4
        refine d_callV (As := [.int (iI f4)]) (rest := []) C hM (C_refuse (a0 := a0) (x := f4) hW hS t_a0 (by omega) ) dX11_cut_46 kV_X11_102 rfl t_a0 rfl rfl (by decide) ck_12 rfl (Nat.le_of_ble_eq_true rfl) ⟨(Nat.le_of_ble_eq_true rfl), (Nat.le_of_ble_eq_true rfl)⟩ hph hph (show 0 + 0 = 0 from rfl) (by decide) (fun rh5 Lh5 clh5 lnh5 ivh5 rvh5 h5 => ?_)
        obtain ⟨f5, rfl, rfl, rfl, rfl, rfl, fl5, W5, rgf5, exf5, kp11f5, kp12f5, kp13f5, kp14f5, kp15f5, kp16f5⟩ := h5
        refine hv7 (show 1 ≤ iv a0 11 ∧ iv a0 11 ≤ 100 from hW.int t_a0 11) (show 1 ≤ iv a0 12 ∧ iv a0 12 ≤ 50 from hW.int t_a0 12) (show (-2147483648) ≤ iv a0 13 ∧ iv a0 13 ≤ 2147483647 from hW.int t_a0 13) (show (-2147483648) ≤ iv a0 14 ∧ iv a0 14 ≤ 2147483647 from hW.int t_a0 14) (show (-2147483648) ≤ iv a0 15 ∧ iv a0 15 ≤ 2147483647 from hW.int t_a0 15) (show (-2147483648) ≤ iv a0 16 ∧ iv a0 16 ≤ 2147483647 from hW.int t_a0 16) (hF0.call hX0 fl5 rfl) (fun ri17 ri18 ri19 ri20 ri21 ri22 F3 => ?_)
        refine c_st (st2 := [.int (iI f5)]) rfl ?_
        refine hv13 (show ivh5 a0 11 = iv a0 11 from kp11f5) (show ivh5 a0 12 = iv a0 12 from kp12f5) (show ivh5 a0 13 = iv a0 13 from kp13f5) (show ivh5 a0 14 = iv a0 14 from kp14f5) (show ivh5 a0 15 = iv a0 15 from kp15f5) (show ivh5 a0 16 = iv a0 16 from kp16f5) (show f5 = -1 from exf5) (show 1 ≤ ivh5 a0 11 ∧ ivh5 a0 11 ≤ 100 from W5.int t_a0 11) (show 1 ≤ ivh5 a0 12 ∧ ivh5 a0 12 ≤ 50 from W5.int t_a0 12) (show (-2147483648) ≤ ivh5 a0 13 ∧ ivh5 a0 13 ≤ 2147483647 from W5.int t_a0 13) (show (-2147483648) ≤ ivh5 a0 14 ∧ ivh5 a0 14 ≤ 2147483647 from W5.int t_a0 14) (show (-2147483648) ≤ ivh5 a0 15 ∧ ivh5 a0 15 ≤ 2147483647 from W5.int t_a0 15) (show (-2147483648) ≤ ivh5 a0 16 ∧ ivh5 a0 16 ≤ 2147483647 from W5.int t_a0 16) (fun gk11f5 gk12f5 gk13f5 gk14f5 gk15f5 gk16f5 gf5 ri23 ri24 ri25 ri26 ri27 ri28 => ?_)
        exact c_iret C dX11_cut_49 rfl (by decide) (rom0 hph hph (by decide)) ⟨f5, rfl, rfl, rfl, rfl, rfl, F3, W5, ⟨by omega, by omega⟩, trivial, gk11f5, gk12f5, gk13f5, gk14f5, gk15f5, gk16f5, (TCH.same hsA hW tsA fl5 rfl rfl rfl rfl (fun E hE => CTP.no (Or.inr gf1) (by omega) hE))⟩
    · refine c_aload_n (j := 0) (x := a0) C dX11_cut_18 rfl ?_
      refine c_iconst C dX11_cut_19 ?_
      refine d_callV (As := [.int (iI 5)]) (rest := []) C hM (C_refuse (a0 := a0) (x := 5) hW hS t_a0 ⟨by decide, by decide⟩ ) dX11_cut_20 kV_X11_102 rfl t_a0 rfl rfl (by decide) ck_12 rfl (Nat.le_of_ble_eq_true rfl) ⟨(Nat.le_of_ble_eq_true rfl), (Nat.le_of_ble_eq_true rfl)⟩ hph hph (show 0 + 0 = 0 from rfl) (by decide) (fun rh6 Lh6 clh6 lnh6 ivh6 rvh6 h6 => ?_)
      obtain ⟨f6, rfl, rfl, rfl, rfl, rfl, fl6, W6, rgf6, exf6, kp11f6, kp12f6, kp13f6, kp14f6, kp15f6, kp16f6⟩ := h6
      refine hv7 (show 1 ≤ iv a0 11 ∧ iv a0 11 ≤ 100 from hW.int t_a0 11) (show 1 ≤ iv a0 12 ∧ iv a0 12 ≤ 50 from hW.int t_a0 12) (show (-2147483648) ≤ iv a0 13 ∧ iv a0 13 ≤ 2147483647 from hW.int t_a0 13) (show (-2147483648) ≤ iv a0 14 ∧ iv a0 14 ≤ 2147483647 from hW.int t_a0 14) (show (-2147483648) ≤ iv a0 15 ∧ iv a0 15 ≤ 2147483647 from hW.int t_a0 15) (show (-2147483648) ≤ iv a0 16 ∧ iv a0 16 ≤ 2147483647 from hW.int t_a0 16) (hF0.call hX0 fl6 rfl) (fun ri29 ri30 ri31 ri32 ri33 ri34 F4 => ?_)
      refine c_st (st2 := [.int (iI f6)]) rfl ?_
      refine hv13 (show ivh6 a0 11 = iv a0 11 from kp11f6) (show ivh6 a0 12 = iv a0 12 from kp12f6) (show ivh6 a0 13 = iv a0 13 from kp13f6) (show ivh6 a0 14 = iv a0 14 from kp14f6) (show ivh6 a0 15 = iv a0 15 from kp15f6) (show ivh6 a0 16 = iv a0 16 from kp16f6) (show f6 = -1 from exf6) (show 1 ≤ ivh6 a0 11 ∧ ivh6 a0 11 ≤ 100 from W6.int t_a0 11) (show 1 ≤ ivh6 a0 12 ∧ ivh6 a0 12 ≤ 50 from W6.int t_a0 12) (show (-2147483648) ≤ ivh6 a0 13 ∧ ivh6 a0 13 ≤ 2147483647 from W6.int t_a0 13) (show (-2147483648) ≤ ivh6 a0 14 ∧ ivh6 a0 14 ≤ 2147483647 from W6.int t_a0 14) (show (-2147483648) ≤ ivh6 a0 15 ∧ ivh6 a0 15 ≤ 2147483647 from W6.int t_a0 15) (show (-2147483648) ≤ ivh6 a0 16 ∧ ivh6 a0 16 ≤ 2147483647 from W6.int t_a0 16) (fun gk11f6 gk12f6 gk13f6 gk14f6 gk15f6 gk16f6 gf6 ri35 ri36 ri37 ri38 ri39 ri40 => ?_)
      exact c_iret C dX11_cut_23 rfl (by decide) (rom0 hph hph (by decide)) ⟨f6, rfl, rfl, rfl, rfl, rfl, F4, W6, ⟨by omega, by omega⟩, trivial, gk11f6, gk12f6, gk13f6, gk14f6, gk15f6, gk16f6, (TCH.same hsA hW tsA fl6 rfl rfl rfl rfl (fun E hE => CTP.no (Or.inl (by omega)) (by omega) hE))⟩
  · refine c_aload_n (j := 0) (x := a0) C dX11_cut_7 rfl ?_
    refine c_bipush (z := 6) C dX11_cut_8 (by decide) ?_
    refine d_callV (As := [.int (iI 6)]) (rest := []) C hM (C_refuse (a0 := a0) (x := 6) hW hS t_a0 ⟨by decide, by decide⟩ ) dX11_cut_10 kV_X11_102 rfl t_a0 rfl rfl (by decide) ck_12 rfl (Nat.le_of_ble_eq_true rfl) ⟨(Nat.le_of_ble_eq_true rfl), (Nat.le_of_ble_eq_true rfl)⟩ hph hph (show 0 + 0 = 0 from rfl) (by decide) (fun rh7 Lh7 clh7 lnh7 ivh7 rvh7 h7 => ?_)
    obtain ⟨f7, rfl, rfl, rfl, rfl, rfl, fl7, W7, rgf7, exf7, kp11f7, kp12f7, kp13f7, kp14f7, kp15f7, kp16f7⟩ := h7
    refine hv7 (show 1 ≤ iv a0 11 ∧ iv a0 11 ≤ 100 from hW.int t_a0 11) (show 1 ≤ iv a0 12 ∧ iv a0 12 ≤ 50 from hW.int t_a0 12) (show (-2147483648) ≤ iv a0 13 ∧ iv a0 13 ≤ 2147483647 from hW.int t_a0 13) (show (-2147483648) ≤ iv a0 14 ∧ iv a0 14 ≤ 2147483647 from hW.int t_a0 14) (show (-2147483648) ≤ iv a0 15 ∧ iv a0 15 ≤ 2147483647 from hW.int t_a0 15) (show (-2147483648) ≤ iv a0 16 ∧ iv a0 16 ≤ 2147483647 from hW.int t_a0 16) (hF0.call hX0 fl7 rfl) (fun ri41 ri42 ri43 ri44 ri45 ri46 F5 => ?_)
    refine c_st (st2 := [.int (iI f7)]) rfl ?_
    refine hv13 (show ivh7 a0 11 = iv a0 11 from kp11f7) (show ivh7 a0 12 = iv a0 12 from kp12f7) (show ivh7 a0 13 = iv a0 13 from kp13f7) (show ivh7 a0 14 = iv a0 14 from kp14f7) (show ivh7 a0 15 = iv a0 15 from kp15f7) (show ivh7 a0 16 = iv a0 16 from kp16f7) (show f7 = -1 from exf7) (show 1 ≤ ivh7 a0 11 ∧ ivh7 a0 11 ≤ 100 from W7.int t_a0 11) (show 1 ≤ ivh7 a0 12 ∧ ivh7 a0 12 ≤ 50 from W7.int t_a0 12) (show (-2147483648) ≤ ivh7 a0 13 ∧ ivh7 a0 13 ≤ 2147483647 from W7.int t_a0 13) (show (-2147483648) ≤ ivh7 a0 14 ∧ ivh7 a0 14 ≤ 2147483647 from W7.int t_a0 14) (show (-2147483648) ≤ ivh7 a0 15 ∧ ivh7 a0 15 ≤ 2147483647 from W7.int t_a0 15) (show (-2147483648) ≤ ivh7 a0 16 ∧ ivh7 a0 16 ≤ 2147483647 from W7.int t_a0 16) (fun gk11f7 gk12f7 gk13f7 gk14f7 gk15f7 gk16f7 gf7 ri47 ri48 ri49 ri50 ri51 ri52 => ?_)
    exact c_iret C dX11_cut_13 rfl (by decide) (rom0 hph hph (by decide)) ⟨f7, rfl, rfl, rfl, rfl, rfl, F5, W7, ⟨by omega, by omega⟩, trivial, gk11f7, gk12f7, gk13f7, gk14f7, gk15f7, gk16f7, (TCH.same hsA hW tsA fl7 rfl rfl rfl rfl (fun E hE => CTP.no (Or.inl (by omega)) (by omega) hE))⟩
set_option maxHeartbeats 4000000 in
set_option maxRecDepth 100000 in
theorem G_hasCells {l : Launch} {G : GT} {mi : Nat} {sk : Nat → Nat} {L : List Nat} {cl ln : Nat → Nat} {iv : Nat → Nat → Int} {rv : Nat → Nat → Option Nat}  {a0 : Nat} {i : Int} {n : Int} (hW : WT (g0 G) sk L cl ln iv rv) (hS : SKL sk L cl) (t_a0 : ty L cl a0 19) (h_i : -2147483648 ≤ i ∧ i ≤ 2147483647) (h_n : -2147483648 ≤ n ∧ n ≤ 2147483647)  : Mc l G mi (Phi (g0 G) sk) PHM yX2_hasCells cX2_hasCells 3 (some .boolean) 0 [.ref a0, .int (iI i), .int (iI n)] L cl ln iv rv 0 (fun v L2 cl2 ln2 iv2 rv2 => ∃ f : Int, v = some (.int (iI f)) ∧ L = L2 ∧ cl = cl2 ∧ ln = ln2 ∧ iv = iv2 ∧ rv = rv2 ∧ (f = 0 ∨ f = 1) ∧ ((f = 1 ∧ 0 ≤ n ∧ 0 ≤ i ∧ i + n ≤ iv a0 1) ∨ (f = 0 ∧ ¬ (0 ≤ n ∧ 0 ≤ i ∧ i + n ≤ iv a0 1)))) := by
  refine Mc.mk (by decide) (Nat.le_of_ble_eq_true rfl) ?_
  intro p e s m args below meth c A C hM
  refine hv3 (Phi.le hW hS) (show XT L cl ln L cl ln from XT.refl) (show fT [] L cl iv rv iv rv from fT.refl) (fun hph hX0 hF0 => ?_)
  refine c_iload_n (j := 2) C dX2_hasCells_0 rfl ?_
  refine c_if_lt (tgt := 30) C ⟨by omega, by omega⟩ dX2_hasCells_1 (by decide) (fun c1 => ?_) (fun c1 => ?_)
  · refine c_iconst C dX2_hasCells_30 ?_
    have ri1 : 0 ≤ iv a0 1 ∧ iv a0 1 ≤ 200 := hW.int t_a0 1
    exact c_zret C dX2_hasCells_31 rfl (Or.inl rfl) (by decide) (rom0 hph hph (by decide)) ⟨0, rfl, rfl, rfl, rfl, rfl, rfl, (Or.inl rfl), (by omega)⟩
  · refine c_iload_n (j := 1) C dX2_hasCells_4 rfl ?_
    refine c_if_lt (tgt := 30) C ⟨by omega, by omega⟩ dX2_hasCells_5 (by decide) (fun c2 => ?_) (fun c2 => ?_)
    · refine c_iconst C dX2_hasCells_30 ?_
      have ri2 : 0 ≤ iv a0 1 ∧ iv a0 1 ≤ 200 := hW.int t_a0 1
      exact c_zret C dX2_hasCells_31 rfl (Or.inl rfl) (by decide) (rom0 hph hph (by decide)) ⟨0, rfl, rfl, rfl, rfl, rfl, rfl, (Or.inl rfl), (by omega)⟩
    · refine c_iload_n (j := 1) C dX2_hasCells_8 rfl ?_
      refine c_aload_n (j := 0) (x := a0) C dX2_hasCells_9 rfl ?_
      have ri3 : 0 ≤ iv a0 1 ∧ iv a0 1 ≤ 200 := hW.int t_a0 1
      refine c_get (k := 1) C ck_3 dX2_hasCells_10 w4_49 (by decide) t_a0 rfl rfl (by decide) rfl ?_
      refine c_icmp_gt (tgt := 30) C ⟨by omega, by omega⟩ (r32_c (lo := 0) (hi := 200) ri3.1 ri3.2 (by decide) (by decide)) dX2_hasCells_13 (by decide) (fun c3 => ?_) (fun c3 => ?_)
      · refine c_iconst C dX2_hasCells_30 ?_
        exact c_zret C dX2_hasCells_31 rfl (Or.inl rfl) (by decide) (rom0 hph hph (by decide)) ⟨0, rfl, rfl, rfl, rfl, rfl, rfl, (Or.inl rfl), (by omega)⟩
      · refine c_iload_n (j := 2) C dX2_hasCells_16 rfl ?_
        refine c_aload_n (j := 0) (x := a0) C dX2_hasCells_17 rfl ?_
        refine c_get (k := 1) C ck_3 dX2_hasCells_18 w4_49 (by decide) t_a0 rfl rfl (by decide) rfl ?_
        refine c_iload_n (j := 1) C dX2_hasCells_21 rfl ?_
        refine c_isub C dX2_hasCells_22 ?_
        refine c_icmp_gt (tgt := 30) C ⟨by omega, by omega⟩ ⟨by omega, by omega⟩ dX2_hasCells_23 (by decide) (fun c4 => ?_) (fun c4 => ?_)
        · refine c_iconst C dX2_hasCells_30 ?_
          exact c_zret C dX2_hasCells_31 rfl (Or.inl rfl) (by decide) (rom0 hph hph (by decide)) ⟨0, rfl, rfl, rfl, rfl, rfl, rfl, (Or.inl rfl), (by omega)⟩
        · refine c_iconst C dX2_hasCells_26 ?_
          refine c_goto (tgt := 31) C dX2_hasCells_27 (by decide) ?_
          exact c_zret C dX2_hasCells_31 rfl (Or.inr rfl) (by decide) (rom0 hph hph (by decide)) ⟨1, rfl, rfl, rfl, rfl, rfl, rfl, (Or.inr rfl), (by omega)⟩
set_option maxHeartbeats 4000000 in
set_option maxRecDepth 100000 in
theorem G_copyRow {l : Launch} {G : GT} {mi : Nat} {sk : Nat → Nat} {L : List Nat} {cl ln : Nat → Nat} {iv : Nat → Nat → Int} {rv : Nat → Nat → Option Nat}  {a0 : Nat} {i : Int} {i2 : Int} {j : Int} {j2 : Int} {n : Int} (hW : WT (g0 G) sk L cl ln iv rv) (hS : SKL sk L cl) (t_a0 : ty L cl a0 1) (h_i : -2147483648 ≤ i ∧ i ≤ 2147483647) (h_i2 : -2147483648 ≤ i2 ∧ i2 ≤ 2147483647) (h_j : -2147483648 ≤ j ∧ j ≤ 2147483647) (h_j2 : -2147483648 ≤ j2 ∧ j2 ≤ 2147483647) (h_n : -2147483648 ≤ n ∧ n ≤ 2147483647)  : Mc l G mi (Phi (g0 G) sk) PHM yX11_copyRow cX11_copyRow 8 (some .int) 1 [.ref a0, .int (iI i), .int (iI i2), .int (iI j), .int (iI j2), .int (iI n)] L cl ln iv rv 0 (fun v L2 cl2 ln2 iv2 rv2 => ∃ f : Int, v = some (.int (iI f)) ∧ L = L2 ∧ cl = cl2 ∧ ln = ln2 ∧ rv = rv2 ∧ fT [1, 64] L cl iv rv iv2 rv2 ∧ WT (g0 G) sk L2 cl2 ln2 iv2 rv2 ∧ (-2147483648 ≤ f ∧ f ≤ 2147483647) ∧ (True) ∧ iv2 a0 11 = iv a0 11 ∧ iv2 a0 12 = iv a0 12 ∧ iv2 a0 13 = iv a0 13 ∧ iv2 a0 14 = iv a0 14 ∧ iv2 a0 15 = iv a0 15 ∧ iv2 a0 16 = iv a0 16 ∧ (TCH iv rv iv2 a0 (fun E E2 => CPRX E i i2 j j2 n f E2))) := by
  refine Mc.mk (by decide) (Nat.le_of_ble_eq_true rfl) ?_
  intro p e s m args below meth c A C hM
  refine hv3 (Phi.le hW hS) (show XT L cl ln L cl ln from XT.refl) (show fT [1, 64] L cl iv rv iv rv from fT.refl) (fun hph hX0 hF0 => ?_)
  obtain ⟨sA, hsA, tsA⟩ := hW.ref t_a0 9 rfl rfl rfl
  have ri1 : 0 ≤ iv sA 1 ∧ iv sA 1 ≤ 200 := hW.int tsA 1
  refine c_aload_n (j := 0) (x := a0) C dX11_copyRow_0 rfl ?_
  refine c_getr (k := 9) C ck_12 dX11_copyRow_1 w2_53 (by decide) t_a0 rfl rfl (by decide) rfl hsA ?_
  refine c_st (st2 := [.ref sA]) rfl ?_
  refine c_iload_n (j := 1) C dX11_copyRow_4 rfl ?_
  refine d_callV (As := [.int (iI i)]) (rest := []) C hM (G_sat (a0 := sA) (i := i) hW hS tsA (by omega) ) dX11_copyRow_5 kV_X11_308 rfl tsA rfl rfl (by decide) ck_8 rfl (Nat.le_of_ble_eq_true rfl) ⟨(Nat.le_of_ble_eq_true rfl), (Nat.le_of_ble_eq_true rfl)⟩ hph hph (show 0 + 0 = 0 from rfl) (by decide) (fun rh1 Lh1 clh1 lnh1 ivh1 rvh1 h1 => ?_)
  obtain ⟨f1, rfl, rfl, rfl, rfl, rfl, rfl, rgf1, exf1⟩ := h1
  refine c_st (st2 := [(va_rf f1)]) rfl ?_
  have gf1 : SATX iv rv sA i f1 := exf1
  refine c_astorer (r := f1) (lv2 := [(6, (va_rf f1)), (0, .ref a0), (1, .int (iI i)), (2, .int (iI i2)), (3, .int (iI j)), (4, .int (iI j2)), (5, .int (iI n))]) C dX11_copyRow_8 (by decide) rfl ?_
  refine c_aload_n (j := 1) (x := a0) C dX11_copyRow_10 rfl ?_
  refine c_getr (k := 9) C ck_12 dX11_copyRow_11 w2_53 (by decide) t_a0 rfl rfl (by decide) rfl hsA ?_
  refine c_st (st2 := [.ref sA]) rfl ?_
  refine c_iload_n (j := 4) C dX11_copyRow_14 rfl ?_
  refine d_callV (As := [.int (iI j)]) (rest := []) C hM (G_sat (a0 := sA) (i := j) hW hS tsA (by omega) ) dX11_copyRow_15 kV_X11_308 rfl tsA rfl rfl (by decide) ck_8 rfl (Nat.le_of_ble_eq_true rfl) ⟨(Nat.le_of_ble_eq_true rfl), (Nat.le_of_ble_eq_true rfl)⟩ hph hph (show 0 + 0 = 0 from rfl) (by decide) (fun rh2 Lh2 clh2 lnh2 ivh2 rvh2 h2 => ?_)
  obtain ⟨f2, rfl, rfl, rfl, rfl, rfl, rfl, rgf2, exf2⟩ := h2
  refine c_st (st2 := [(va_rf f2)]) rfl ?_
  have gf2 : SATX iv rv sA j f2 := exf2
  refine c_astorer (r := f2) (lv2 := [(7, (va_rf f2)), (6, (va_rf f1)), (0, .ref a0), (1, .int (iI i)), (2, .int (iI i2)), (3, .int (iI j)), (4, .int (iI j2)), (5, .int (iI n))]) C dX11_copyRow_18 (by decide) (by cases f1 <;> rfl) ?_
  refine c_aloadr (j := 1) (r := f1) C dX11_copyRow_20 rfl ?_
  refine c_ifnull (r := f1) (tgt := 30) C dX11_copyRow_22 (by decide) (fun oq1 => ?_) (fun ob1 oq1 => ?_)
  · subst oq1
    refine c_lv (lv2 := [(7, (va_rf f2)), (6, .null), (0, .ref a0), (1, .int (iI i)), (2, .int (iI i2)), (3, .int (iI j)), (4, .int (iI j2)), (5, .int (iI n))]) [0, 1, 2, 3, 4, 5, 6, 7] rfl ?_
    refine c_st (st2 := []) rfl ?_
    refine c_aload_n (j := 2) (x := a0) C dX11_copyRow_30 rfl ?_
    refine c_iconst C dX11_copyRow_31 ?_
    refine d_callV (As := [.int (iI 2)]) (rest := []) C hM (C_refuse (a0 := a0) (x := 2) hW hS t_a0 ⟨by decide, by decide⟩ ) dX11_copyRow_32 kV_X11_102 rfl t_a0 rfl rfl (by decide) ck_12 rfl (Nat.le_of_ble_eq_true rfl) ⟨(Nat.le_of_ble_eq_true rfl), (Nat.le_of_ble_eq_true rfl)⟩ hph hph (show 0 + 0 = 0 from rfl) (by decide) (fun rh3 Lh3 clh3 lnh3 ivh3 rvh3 h3 => ?_)
    obtain ⟨f3, rfl, rfl, rfl, rfl, rfl, fl3, W3, rgf3, exf3, kp11f3, kp12f3, kp13f3, kp14f3, kp15f3, kp16f3⟩ := h3
    refine hv7 (show 1 ≤ iv a0 11 ∧ iv a0 11 ≤ 100 from hW.int t_a0 11) (show 1 ≤ iv a0 12 ∧ iv a0 12 ≤ 50 from hW.int t_a0 12) (show (-2147483648) ≤ iv a0 13 ∧ iv a0 13 ≤ 2147483647 from hW.int t_a0 13) (show (-2147483648) ≤ iv a0 14 ∧ iv a0 14 ≤ 2147483647 from hW.int t_a0 14) (show (-2147483648) ≤ iv a0 15 ∧ iv a0 15 ≤ 2147483647 from hW.int t_a0 15) (show (-2147483648) ≤ iv a0 16 ∧ iv a0 16 ≤ 2147483647 from hW.int t_a0 16) (hF0.call hX0 fl3 rfl) (fun ri2 ri3 ri4 ri5 ri6 ri7 F1 => ?_)
    refine c_st (st2 := [.int (iI f3)]) rfl ?_
    refine hv13 (show ivh3 a0 11 = iv a0 11 from kp11f3) (show ivh3 a0 12 = iv a0 12 from kp12f3) (show ivh3 a0 13 = iv a0 13 from kp13f3) (show ivh3 a0 14 = iv a0 14 from kp14f3) (show ivh3 a0 15 = iv a0 15 from kp15f3) (show ivh3 a0 16 = iv a0 16 from kp16f3) (show f3 = -1 from exf3) (show 1 ≤ ivh3 a0 11 ∧ ivh3 a0 11 ≤ 100 from W3.int t_a0 11) (show 1 ≤ ivh3 a0 12 ∧ ivh3 a0 12 ≤ 50 from W3.int t_a0 12) (show (-2147483648) ≤ ivh3 a0 13 ∧ ivh3 a0 13 ≤ 2147483647 from W3.int t_a0 13) (show (-2147483648) ≤ ivh3 a0 14 ∧ ivh3 a0 14 ≤ 2147483647 from W3.int t_a0 14) (show (-2147483648) ≤ ivh3 a0 15 ∧ ivh3 a0 15 ≤ 2147483647 from W3.int t_a0 15) (show (-2147483648) ≤ ivh3 a0 16 ∧ ivh3 a0 16 ≤ 2147483647 from W3.int t_a0 16) (fun gk11f3 gk12f3 gk13f3 gk14f3 gk15f3 gk16f3 gf3 ri8 ri9 ri10 ri11 ri12 ri13 => ?_)
    exact c_iret C dX11_copyRow_35 rfl (by decide) (rom0 hph hph (by decide)) ⟨f3, rfl, rfl, rfl, rfl, rfl, F1, W3, ⟨by omega, by omega⟩, trivial, gk11f3, gk12f3, gk13f3, gk14f3, gk15f3, gk16f3, (TCH.same hsA hW tsA fl3 rfl rfl rfl rfl (fun E hE => CRP.no (Or.inl gf1) (by omega) hE))⟩
  · subst oq1
    have tob1 := rgf1 ob1 rfl
    refine c_lv (lv2 := [(7, (va_rf f2)), (6, .ref ob1), (0, .ref a0), (1, .int (iI i)), (2, .int (iI i2)), (3, .int (iI j)), (4, .int (iI j2)), (5, .int (iI n))]) [0, 1, 2, 3, 4, 5, 6, 7] rfl ?_
    refine c_st (st2 := []) rfl ?_
    refine c_aloadr (j := 0) (r := f2) C dX11_copyRow_25 rfl ?_
    refine c_ifnonnull (r := f2) (tgt := 36) C dX11_copyRow_27 (by decide) (fun ob2 oq2 => ?_) (fun oq2 => ?_)
    · subst oq2
      have tob2 := rgf2 ob2 rfl
      refine c_lv (lv2 := [(7, .ref ob2), (6, .ref ob1), (0, .ref a0), (1, .int (iI i)), (2, .int (iI i2)), (3, .int (iI j)), (4, .int (iI j2)), (5, .int (iI n))]) [0, 1, 2, 3, 4, 5, 6, 7] rfl ?_
      refine c_st (st2 := []) rfl ?_
      refine hv4 (show 0 ≤ iv ob1 1 ∧ iv ob1 1 ≤ 200 from hW.int tob1 1) (show 0 ≤ iv ob1 2 ∧ iv ob1 2 ≤ 1 from hW.int tob1 2) (show 0 ≤ iv ob2 1 ∧ iv ob2 1 ≤ 200 from hW.int tob2 1) (show 0 ≤ iv ob2 2 ∧ iv ob2 2 ≤ 1 from hW.int tob2 2) (fun ri14 ri15 ri16 ri17 => ?_)
      refine c_aload (j := 1) (x := ob1) C dX11_copyRow_36 rfl ?_
      refine c_get (k := 2) C ck_3 dX11_copyRow_38 w4_56 (by decide) tob1 rfl rfl (by decide) rfl ?_
      refine c_if_ne (tgt := 52) C (r32_c (lo := 0) (hi := 1) ri15.1 ri15.2 (by decide) (by decide)) dX11_copyRow_41 (by decide) (fun c1 => ?_) (fun c1 => ?_)
      · refine c_aload_n (j := 2) (x := a0) C dX11_copyRow_52 rfl ?_
        refine c_iconst C dX11_copyRow_53 ?_
        refine d_callV (As := [.int (iI 1)]) (rest := []) C hM (C_refuse (a0 := a0) (x := 1) hW hS t_a0 ⟨by decide, by decide⟩ ) dX11_copyRow_54 kV_X11_102 rfl t_a0 rfl rfl (by decide) ck_12 rfl (Nat.le_of_ble_eq_true rfl) ⟨(Nat.le_of_ble_eq_true rfl), (Nat.le_of_ble_eq_true rfl)⟩ hph hph (show 0 + 0 = 0 from rfl) (by decide) (fun rh4 Lh4 clh4 lnh4 ivh4 rvh4 h4 => ?_)
        obtain ⟨f4, rfl, rfl, rfl, rfl, rfl, fl4, W4, rgf4, exf4, kp11f4, kp12f4, kp13f4, kp14f4, kp15f4, kp16f4⟩ := h4
        refine hv7 (show 1 ≤ iv a0 11 ∧ iv a0 11 ≤ 100 from hW.int t_a0 11) (show 1 ≤ iv a0 12 ∧ iv a0 12 ≤ 50 from hW.int t_a0 12) (show (-2147483648) ≤ iv a0 13 ∧ iv a0 13 ≤ 2147483647 from hW.int t_a0 13) (show (-2147483648) ≤ iv a0 14 ∧ iv a0 14 ≤ 2147483647 from hW.int t_a0 14) (show (-2147483648) ≤ iv a0 15 ∧ iv a0 15 ≤ 2147483647 from hW.int t_a0 15) (show (-2147483648) ≤ iv a0 16 ∧ iv a0 16 ≤ 2147483647 from hW.int t_a0 16) (hF0.call hX0 fl4 rfl) (fun ri18 ri19 ri20 ri21 ri22 ri23 F2 => ?_)
        refine c_st (st2 := [.int (iI f4)]) rfl ?_
        refine hv13 (show ivh4 a0 11 = iv a0 11 from kp11f4) (show ivh4 a0 12 = iv a0 12 from kp12f4) (show ivh4 a0 13 = iv a0 13 from kp13f4) (show ivh4 a0 14 = iv a0 14 from kp14f4) (show ivh4 a0 15 = iv a0 15 from kp15f4) (show ivh4 a0 16 = iv a0 16 from kp16f4) (show f4 = -1 from exf4) (show 1 ≤ ivh4 a0 11 ∧ ivh4 a0 11 ≤ 100 from W4.int t_a0 11) (show 1 ≤ ivh4 a0 12 ∧ ivh4 a0 12 ≤ 50 from W4.int t_a0 12) (show (-2147483648) ≤ ivh4 a0 13 ∧ ivh4 a0 13 ≤ 2147483647 from W4.int t_a0 13) (show (-2147483648) ≤ ivh4 a0 14 ∧ ivh4 a0 14 ≤ 2147483647 from W4.int t_a0 14) (show (-2147483648) ≤ ivh4 a0 15 ∧ ivh4 a0 15 ≤ 2147483647 from W4.int t_a0 15) (show (-2147483648) ≤ ivh4 a0 16 ∧ ivh4 a0 16 ≤ 2147483647 from W4.int t_a0 16) (fun gk11f4 gk12f4 gk13f4 gk14f4 gk15f4 gk16f4 gf4 ri24 ri25 ri26 ri27 ri28 ri29 => ?_)
        exact c_iret C dX11_copyRow_57 rfl (by decide) (rom0 hph hph (by decide)) ⟨f4, rfl, rfl, rfl, rfl, rfl, F2, W4, ⟨by omega, by omega⟩, trivial, gk11f4, gk12f4, gk13f4, gk14f4, gk15f4, gk16f4, (TCH.same hsA hW tsA fl4 rfl rfl rfl rfl (fun E hE => CRP.lck gf1 gf2 (by omega) (by omega) hE))⟩
      · refine c_aload (j := 0) (x := ob2) C dX11_copyRow_44 rfl ?_
        refine c_get (k := 2) C ck_3 dX11_copyRow_46 w4_56 (by decide) tob2 rfl rfl (by decide) rfl ?_
        refine c_if_eq (tgt := 58) C (r32_c (lo := 0) (hi := 1) ri17.1 ri17.2 (by decide) (by decide)) dX11_copyRow_49 (by decide) (fun c2 => ?_) (fun c2 => ?_)
        · refine c_aload (j := 1) (x := ob1) C dX11_copyRow_58 rfl ?_
          refine c_iload_n (j := 4) C dX11_copyRow_60 rfl ?_
          refine c_iload (j := 7) C dX11_copyRow_61 rfl ?_
          refine d_callV (As := [.int (iI i2), .int (iI n)]) (rest := []) C hM (G_hasCells (a0 := ob1) (i := i2) (n := n) hW hS tob1 (by omega) (by omega) ) dX11_copyRow_63 kV_X11_313 rfl tob1 rfl rfl (by decide) ck_3 rfl (Nat.le_of_ble_eq_true rfl) ⟨(Nat.le_of_ble_eq_true rfl), (Nat.le_of_ble_eq_true rfl)⟩ hph hph (show 0 + 0 = 0 from rfl) (by decide) (fun rh5 Lh5 clh5 lnh5 ivh5 rvh5 h5 => ?_)
          obtain ⟨f5, rfl, rfl, rfl, rfl, rfl, rfl, rgf5, exf5⟩ := h5
          refine c_st (st2 := [.int (iI f5)]) rfl ?_
          have gf5 : (f5 = 1 ∧ 0 ≤ n ∧ 0 ≤ i2 ∧ i2 + n ≤ iv ob1 1) ∨ (f5 = 0 ∧ ¬ (0 ≤ n ∧ 0 ≤ i2 ∧ i2 + n ≤ iv ob1 1)) := exf5
          refine c_if_eq (tgt := 81) C (r32_qp gf5) dX11_copyRow_66 (by decide) (fun c3 => ?_) (fun c3 => ?_)
          · replace gf5 := (gf5.resolve_left (fun q => absurd (q.1.symm.trans c3) (by decide)))
            refine c_aload_n (j := 2) (x := a0) C dX11_copyRow_81 rfl ?_
            refine c_iconst C dX11_copyRow_82 ?_
            refine d_callV (As := [.int (iI 2)]) (rest := []) C hM (C_refuse (a0 := a0) (x := 2) hW hS t_a0 ⟨by decide, by decide⟩ ) dX11_copyRow_83 kV_X11_102 rfl t_a0 rfl rfl (by decide) ck_12 rfl (Nat.le_of_ble_eq_true rfl) ⟨(Nat.le_of_ble_eq_true rfl), (Nat.le_of_ble_eq_true rfl)⟩ hph hph (show 0 + 0 = 0 from rfl) (by decide) (fun rh6 Lh6 clh6 lnh6 ivh6 rvh6 h6 => ?_)
            obtain ⟨f6, rfl, rfl, rfl, rfl, rfl, fl6, W6, rgf6, exf6, kp11f6, kp12f6, kp13f6, kp14f6, kp15f6, kp16f6⟩ := h6
            refine hv7 (show 1 ≤ iv a0 11 ∧ iv a0 11 ≤ 100 from hW.int t_a0 11) (show 1 ≤ iv a0 12 ∧ iv a0 12 ≤ 50 from hW.int t_a0 12) (show (-2147483648) ≤ iv a0 13 ∧ iv a0 13 ≤ 2147483647 from hW.int t_a0 13) (show (-2147483648) ≤ iv a0 14 ∧ iv a0 14 ≤ 2147483647 from hW.int t_a0 14) (show (-2147483648) ≤ iv a0 15 ∧ iv a0 15 ≤ 2147483647 from hW.int t_a0 15) (show (-2147483648) ≤ iv a0 16 ∧ iv a0 16 ≤ 2147483647 from hW.int t_a0 16) (hF0.call hX0 fl6 rfl) (fun ri30 ri31 ri32 ri33 ri34 ri35 F3 => ?_)
            refine c_st (st2 := [.int (iI f6)]) rfl ?_
            refine hv13 (show ivh6 a0 11 = iv a0 11 from kp11f6) (show ivh6 a0 12 = iv a0 12 from kp12f6) (show ivh6 a0 13 = iv a0 13 from kp13f6) (show ivh6 a0 14 = iv a0 14 from kp14f6) (show ivh6 a0 15 = iv a0 15 from kp15f6) (show ivh6 a0 16 = iv a0 16 from kp16f6) (show f6 = -1 from exf6) (show 1 ≤ ivh6 a0 11 ∧ ivh6 a0 11 ≤ 100 from W6.int t_a0 11) (show 1 ≤ ivh6 a0 12 ∧ ivh6 a0 12 ≤ 50 from W6.int t_a0 12) (show (-2147483648) ≤ ivh6 a0 13 ∧ ivh6 a0 13 ≤ 2147483647 from W6.int t_a0 13) (show (-2147483648) ≤ ivh6 a0 14 ∧ ivh6 a0 14 ≤ 2147483647 from W6.int t_a0 14) (show (-2147483648) ≤ ivh6 a0 15 ∧ ivh6 a0 15 ≤ 2147483647 from W6.int t_a0 15) (show (-2147483648) ≤ ivh6 a0 16 ∧ ivh6 a0 16 ≤ 2147483647 from W6.int t_a0 16) (fun gk11f6 gk12f6 gk13f6 gk14f6 gk15f6 gk16f6 gf6 ri36 ri37 ri38 ri39 ri40 ri41 => ?_)
            exact c_iret C dX11_copyRow_86 rfl (by decide) (rom0 hph hph (by decide)) ⟨f6, rfl, rfl, rfl, rfl, rfl, F3, W6, ⟨by omega, by omega⟩, trivial, gk11f6, gk12f6, gk13f6, gk14f6, gk15f6, gk16f6, (TCH.same hsA hW tsA fl6 rfl rfl rfl rfl (fun E hE => CRP.out gf1 gf2 (by omega) (by omega) (by omega) (by omega) hE))⟩
          · replace gf5 := (gf5.resolve_right (fun q => c3 q.1))
            refine c_aload (j := 0) (x := ob2) C dX11_copyRow_69 rfl ?_
            refine c_iload (j := 6) C dX11_copyRow_71 rfl ?_
            refine c_iload (j := 7) C dX11_copyRow_73 rfl ?_
            refine d_callV (As := [.int (iI j2), .int (iI n)]) (rest := []) C hM (G_hasCells (a0 := ob2) (i := j2) (n := n) hW hS tob2 (by omega) (by omega) ) dX11_copyRow_75 kV_X11_313 rfl tob2 rfl rfl (by decide) ck_3 rfl (Nat.le_of_ble_eq_true rfl) ⟨(Nat.le_of_ble_eq_true rfl), (Nat.le_of_ble_eq_true rfl)⟩ hph hph (show 0 + 0 = 0 from rfl) (by decide) (fun rh7 Lh7 clh7 lnh7 ivh7 rvh7 h7 => ?_)
            obtain ⟨f7, rfl, rfl, rfl, rfl, rfl, rfl, rgf7, exf7⟩ := h7
            refine c_st (st2 := [.int (iI f7)]) rfl ?_
            have gf7 : (f7 = 1 ∧ 0 ≤ n ∧ 0 ≤ j2 ∧ j2 + n ≤ iv ob2 1) ∨ (f7 = 0 ∧ ¬ (0 ≤ n ∧ 0 ≤ j2 ∧ j2 + n ≤ iv ob2 1)) := exf7
            refine c_if_ne (tgt := 87) C (r32_qp gf7) dX11_copyRow_78 (by decide) (fun c4 => ?_) (fun c4 => ?_)
            · replace gf7 := (gf7.resolve_right (fun q => c4 q.1))
              refine c_aload (j := 1) (x := ob1) C dX11_copyRow_87 rfl ?_
              obtain ⟨rb1, rq1, trb1⟩ := hW.ref tob1 0 rfl rfl rfl
              have lnrb1 : 200 ≤ ln rb1 ∧ ln rb1 ≤ 200 := hW.len trb1 rfl
              refine c_getr (k := 0) C ck_3 dX11_copyRow_89 w4_48 (by decide) tob1 rfl rfl (by decide) rfl rq1 ?_
              refine c_st (st2 := [.ref rb1]) rfl ?_
              refine c_iload_n (j := 4) C dX11_copyRow_92 rfl ?_
              refine c_aload (j := 0) (x := ob2) C dX11_copyRow_93 rfl ?_
              obtain ⟨rb2, rq2, trb2⟩ := hW.ref tob2 0 rfl rfl rfl
              have lnrb2 : 200 ≤ ln rb2 ∧ ln rb2 ≤ 200 := hW.len trb2 rfl
              refine c_getr (k := 0) C ck_3 dX11_copyRow_95 w4_48 (by decide) tob2 rfl rfl (by decide) rfl rq2 ?_
              refine c_st (st2 := [.ref rb2, .int (iI i2), .ref rb1]) rfl ?_
              refine c_iload (j := 6) C dX11_copyRow_98 rfl ?_
              refine c_iload (j := 7) C dX11_copyRow_100 rfl ?_
              refine hv2 (show 200 ≤ ln rb1 ∧ ln rb1 ≤ 200 from hW.len trb1 rfl) (show 200 ≤ ln rb2 ∧ ln rb2 ≤ 200 from hW.len trb2 rfl) (fun ll1 ll2 => ?_)
              refine c_copyi (sp := i2) (dp := j2) (n := n) C dX11_copyRow_102 w4_233 w2_133 w2_132 w1_15 trb1 rfl trb2 rfl (by omega) (by omega) (by omega) (by omega) (by omega) (by omega) (by omega) (by decide) (Nat.le_of_ble_eq_true rfl) (fun iv1 pq1 => ?_)
              refine hv3 (hW.copy pq1 trb2 trb1 (fun _ => rfl) (fun _ => rfl) (fun _ => rfl) (fun _ => rfl) rfl) (hF0.copy hX0 pq1 trb2 rfl) (show iv1 sA 1 = iv sA 1 from by rw [pq1]; exact if_neg (ne_ty tsA trb2 (by decide))) (fun W8 F4 ie19 => ?_)
              have ri42 : 0 ≤ iv1 sA 1 ∧ iv1 sA 1 ≤ 200 := W8.int tsA 1
              refine c_aload_n (j := 2) (x := a0) C dX11_copyRow_105 rfl ?_
              refine c_iload (j := 7) C dX11_copyRow_106 rfl ?_
              refine d_callV (As := [.int (iI n)]) (rest := []) C hM (C_done (a0 := a0) (x := n) W8 hS t_a0 (by omega) ) dX11_copyRow_108 kV_X11_109 rfl t_a0 rfl rfl (by decide) ck_12 rfl (Nat.le_of_ble_eq_true rfl) ⟨(Nat.le_of_ble_eq_true rfl), (Nat.le_of_ble_eq_true rfl)⟩ hph hph (show 0 + 0 = 0 from rfl) (by decide) (fun rh8 Lh8 clh8 lnh8 ivh8 rvh8 h8 => ?_)
              obtain ⟨f8, rfl, rfl, rfl, rfl, rfl, fl8, W9, rgf8, exf8, kp11f8, kp12f8, kp13f8, kp14f8, kp15f8, kp16f8⟩ := h8
              refine hv13 (show 1 ≤ iv1 a0 11 ∧ iv1 a0 11 ≤ 100 from W8.int t_a0 11) (show iv1 a0 11 = iv a0 11 from by rw [pq1]; exact if_neg (ne_ty t_a0 trb2 (by decide))) (show 1 ≤ iv1 a0 12 ∧ iv1 a0 12 ≤ 50 from W8.int t_a0 12) (show iv1 a0 12 = iv a0 12 from by rw [pq1]; exact if_neg (ne_ty t_a0 trb2 (by decide))) (show (-2147483648) ≤ iv1 a0 13 ∧ iv1 a0 13 ≤ 2147483647 from W8.int t_a0 13) (show iv1 a0 13 = iv a0 13 from by rw [pq1]; exact if_neg (ne_ty t_a0 trb2 (by decide))) (show (-2147483648) ≤ iv1 a0 14 ∧ iv1 a0 14 ≤ 2147483647 from W8.int t_a0 14) (show iv1 a0 14 = iv a0 14 from by rw [pq1]; exact if_neg (ne_ty t_a0 trb2 (by decide))) (show (-2147483648) ≤ iv1 a0 15 ∧ iv1 a0 15 ≤ 2147483647 from W8.int t_a0 15) (show iv1 a0 15 = iv a0 15 from by rw [pq1]; exact if_neg (ne_ty t_a0 trb2 (by decide))) (show (-2147483648) ≤ iv1 a0 16 ∧ iv1 a0 16 ≤ 2147483647 from W8.int t_a0 16) (show iv1 a0 16 = iv a0 16 from by rw [pq1]; exact if_neg (ne_ty t_a0 trb2 (by decide))) (F4.call hX0 fl8 rfl) (fun ri43 ie20 ri44 ie21 ri45 ie22 ri46 ie23 ri47 ie24 ri48 ie25 F5 => ?_)
              refine c_st (st2 := [.int (iI f8)]) rfl ?_
              refine hv13 (show ivh8 a0 11 = iv1 a0 11 from kp11f8) (show ivh8 a0 12 = iv1 a0 12 from kp12f8) (show ivh8 a0 13 = iv1 a0 13 from kp13f8) (show ivh8 a0 14 = iv1 a0 14 from kp14f8) (show ivh8 a0 15 = iv1 a0 15 from kp15f8) (show ivh8 a0 16 = iv1 a0 16 from kp16f8) (show f8 = n from exf8) (show 1 ≤ ivh8 a0 11 ∧ ivh8 a0 11 ≤ 100 from W9.int t_a0 11) (show 1 ≤ ivh8 a0 12 ∧ ivh8 a0 12 ≤ 50 from W9.int t_a0 12) (show (-2147483648) ≤ ivh8 a0 13 ∧ ivh8 a0 13 ≤ 2147483647 from W9.int t_a0 13) (show (-2147483648) ≤ ivh8 a0 14 ∧ ivh8 a0 14 ≤ 2147483647 from W9.int t_a0 14) (show (-2147483648) ≤ ivh8 a0 15 ∧ ivh8 a0 15 ≤ 2147483647 from W9.int t_a0 15) (show (-2147483648) ≤ ivh8 a0 16 ∧ ivh8 a0 16 ≤ 2147483647 from W9.int t_a0 16) (fun gk11f8 gk12f8 gk13f8 gk14f8 gk15f8 gk16f8 gf8 ri49 ri50 ri51 ri52 ri53 ri54 => ?_)
              exact c_iret C dX11_copyRow_111 rfl (by decide) (rom0 hph hph (by decide)) ⟨f8, rfl, rfl, rfl, rfl, rfl, F5, W9, ⟨by omega, by omega⟩, trivial, (gk11f8.trans ie20), (gk12f8.trans ie21), (gk13f8.trans ie22), (gk14f8.trans ie23), (gk15f8.trans ie24), (gk16f8.trans ie25), (TCH.row hsA hW tsA gf2 (LFR.refl.copy rq2 trb2 pq1) (by omega) W8 fl8 rfl rfl rfl rfl (fun E hE => CRP.ok gf1 gf2 (by omega) (by omega) ⟨by omega, by omega, by omega, by omega, by omega⟩ rq1 rq2 pq1 (ne_ty tob2 trb2 (by decide)) (by omega) hE))⟩
            · replace gf7 := (gf7.resolve_left (fun q => absurd (q.1.symm.trans c4) (by decide)))
              refine c_aload_n (j := 2) (x := a0) C dX11_copyRow_81 rfl ?_
              refine c_iconst C dX11_copyRow_82 ?_
              refine d_callV (As := [.int (iI 2)]) (rest := []) C hM (C_refuse (a0 := a0) (x := 2) hW hS t_a0 ⟨by decide, by decide⟩ ) dX11_copyRow_83 kV_X11_102 rfl t_a0 rfl rfl (by decide) ck_12 rfl (Nat.le_of_ble_eq_true rfl) ⟨(Nat.le_of_ble_eq_true rfl), (Nat.le_of_ble_eq_true rfl)⟩ hph hph (show 0 + 0 = 0 from rfl) (by decide) (fun rh9 Lh9 clh9 lnh9 ivh9 rvh9 h9 => ?_)
              obtain ⟨f9, rfl, rfl, rfl, rfl, rfl, fl9, W10, rgf9, exf9, kp11f9, kp12f9, kp13f9, kp14f9, kp15f9, kp16f9⟩ := h9
              refine hv7 (show 1 ≤ iv a0 11 ∧ iv a0 11 ≤ 100 from hW.int t_a0 11) (show 1 ≤ iv a0 12 ∧ iv a0 12 ≤ 50 from hW.int t_a0 12) (show (-2147483648) ≤ iv a0 13 ∧ iv a0 13 ≤ 2147483647 from hW.int t_a0 13) (show (-2147483648) ≤ iv a0 14 ∧ iv a0 14 ≤ 2147483647 from hW.int t_a0 14) (show (-2147483648) ≤ iv a0 15 ∧ iv a0 15 ≤ 2147483647 from hW.int t_a0 15) (show (-2147483648) ≤ iv a0 16 ∧ iv a0 16 ≤ 2147483647 from hW.int t_a0 16) (hF0.call hX0 fl9 rfl) (fun ri55 ri56 ri57 ri58 ri59 ri60 F6 => ?_)
              refine c_st (st2 := [.int (iI f9)]) rfl ?_
              refine hv13 (show ivh9 a0 11 = iv a0 11 from kp11f9) (show ivh9 a0 12 = iv a0 12 from kp12f9) (show ivh9 a0 13 = iv a0 13 from kp13f9) (show ivh9 a0 14 = iv a0 14 from kp14f9) (show ivh9 a0 15 = iv a0 15 from kp15f9) (show ivh9 a0 16 = iv a0 16 from kp16f9) (show f9 = -1 from exf9) (show 1 ≤ ivh9 a0 11 ∧ ivh9 a0 11 ≤ 100 from W10.int t_a0 11) (show 1 ≤ ivh9 a0 12 ∧ ivh9 a0 12 ≤ 50 from W10.int t_a0 12) (show (-2147483648) ≤ ivh9 a0 13 ∧ ivh9 a0 13 ≤ 2147483647 from W10.int t_a0 13) (show (-2147483648) ≤ ivh9 a0 14 ∧ ivh9 a0 14 ≤ 2147483647 from W10.int t_a0 14) (show (-2147483648) ≤ ivh9 a0 15 ∧ ivh9 a0 15 ≤ 2147483647 from W10.int t_a0 15) (show (-2147483648) ≤ ivh9 a0 16 ∧ ivh9 a0 16 ≤ 2147483647 from W10.int t_a0 16) (fun gk11f9 gk12f9 gk13f9 gk14f9 gk15f9 gk16f9 gf9 ri61 ri62 ri63 ri64 ri65 ri66 => ?_)
              exact c_iret C dX11_copyRow_86 rfl (by decide) (rom0 hph hph (by decide)) ⟨f9, rfl, rfl, rfl, rfl, rfl, F6, W10, ⟨by omega, by omega⟩, trivial, gk11f9, gk12f9, gk13f9, gk14f9, gk15f9, gk16f9, (TCH.same hsA hW tsA fl9 rfl rfl rfl rfl (fun E hE => CRP.out gf1 gf2 (by omega) (by omega) (by omega) (by omega) hE))⟩
        · refine c_aload_n (j := 2) (x := a0) C dX11_copyRow_52 rfl ?_
          refine c_iconst C dX11_copyRow_53 ?_
          refine d_callV (As := [.int (iI 1)]) (rest := []) C hM (C_refuse (a0 := a0) (x := 1) hW hS t_a0 ⟨by decide, by decide⟩ ) dX11_copyRow_54 kV_X11_102 rfl t_a0 rfl rfl (by decide) ck_12 rfl (Nat.le_of_ble_eq_true rfl) ⟨(Nat.le_of_ble_eq_true rfl), (Nat.le_of_ble_eq_true rfl)⟩ hph hph (show 0 + 0 = 0 from rfl) (by decide) (fun rh10 Lh10 clh10 lnh10 ivh10 rvh10 h10 => ?_)
          obtain ⟨f10, rfl, rfl, rfl, rfl, rfl, fl10, W11, rgf10, exf10, kp11f10, kp12f10, kp13f10, kp14f10, kp15f10, kp16f10⟩ := h10
          refine hv7 (show 1 ≤ iv a0 11 ∧ iv a0 11 ≤ 100 from hW.int t_a0 11) (show 1 ≤ iv a0 12 ∧ iv a0 12 ≤ 50 from hW.int t_a0 12) (show (-2147483648) ≤ iv a0 13 ∧ iv a0 13 ≤ 2147483647 from hW.int t_a0 13) (show (-2147483648) ≤ iv a0 14 ∧ iv a0 14 ≤ 2147483647 from hW.int t_a0 14) (show (-2147483648) ≤ iv a0 15 ∧ iv a0 15 ≤ 2147483647 from hW.int t_a0 15) (show (-2147483648) ≤ iv a0 16 ∧ iv a0 16 ≤ 2147483647 from hW.int t_a0 16) (hF0.call hX0 fl10 rfl) (fun ri67 ri68 ri69 ri70 ri71 ri72 F7 => ?_)
          refine c_st (st2 := [.int (iI f10)]) rfl ?_
          refine hv13 (show ivh10 a0 11 = iv a0 11 from kp11f10) (show ivh10 a0 12 = iv a0 12 from kp12f10) (show ivh10 a0 13 = iv a0 13 from kp13f10) (show ivh10 a0 14 = iv a0 14 from kp14f10) (show ivh10 a0 15 = iv a0 15 from kp15f10) (show ivh10 a0 16 = iv a0 16 from kp16f10) (show f10 = -1 from exf10) (show 1 ≤ ivh10 a0 11 ∧ ivh10 a0 11 ≤ 100 from W11.int t_a0 11) (show 1 ≤ ivh10 a0 12 ∧ ivh10 a0 12 ≤ 50 from W11.int t_a0 12) (show (-2147483648) ≤ ivh10 a0 13 ∧ ivh10 a0 13 ≤ 2147483647 from W11.int t_a0 13) (show (-2147483648) ≤ ivh10 a0 14 ∧ ivh10 a0 14 ≤ 2147483647 from W11.int t_a0 14) (show (-2147483648) ≤ ivh10 a0 15 ∧ ivh10 a0 15 ≤ 2147483647 from W11.int t_a0 15) (show (-2147483648) ≤ ivh10 a0 16 ∧ ivh10 a0 16 ≤ 2147483647 from W11.int t_a0 16) (fun gk11f10 gk12f10 gk13f10 gk14f10 gk15f10 gk16f10 gf10 ri73 ri74 ri75 ri76 ri77 ri78 => ?_)
          exact c_iret C dX11_copyRow_57 rfl (by decide) (rom0 hph hph (by decide)) ⟨f10, rfl, rfl, rfl, rfl, rfl, F7, W11, ⟨by omega, by omega⟩, trivial, gk11f10, gk12f10, gk13f10, gk14f10, gk15f10, gk16f10, (TCH.same hsA hW tsA fl10 rfl rfl rfl rfl (fun E hE => CRP.lck gf1 gf2 (by omega) (by omega) hE))⟩
    · subst oq2
      refine c_lv (lv2 := [(7, .null), (6, .ref ob1), (0, .ref a0), (1, .int (iI i)), (2, .int (iI i2)), (3, .int (iI j)), (4, .int (iI j2)), (5, .int (iI n))]) [0, 1, 2, 3, 4, 5, 6, 7] rfl ?_
      refine c_st (st2 := []) rfl ?_
      refine c_aload_n (j := 2) (x := a0) C dX11_copyRow_30 rfl ?_
      refine c_iconst C dX11_copyRow_31 ?_
      refine d_callV (As := [.int (iI 2)]) (rest := []) C hM (C_refuse (a0 := a0) (x := 2) hW hS t_a0 ⟨by decide, by decide⟩ ) dX11_copyRow_32 kV_X11_102 rfl t_a0 rfl rfl (by decide) ck_12 rfl (Nat.le_of_ble_eq_true rfl) ⟨(Nat.le_of_ble_eq_true rfl), (Nat.le_of_ble_eq_true rfl)⟩ hph hph (show 0 + 0 = 0 from rfl) (by decide) (fun rh11 Lh11 clh11 lnh11 ivh11 rvh11 h11 => ?_)
      obtain ⟨f11, rfl, rfl, rfl, rfl, rfl, fl11, W12, rgf11, exf11, kp11f11, kp12f11, kp13f11, kp14f11, kp15f11, kp16f11⟩ := h11
      refine hv7 (show 1 ≤ iv a0 11 ∧ iv a0 11 ≤ 100 from hW.int t_a0 11) (show 1 ≤ iv a0 12 ∧ iv a0 12 ≤ 50 from hW.int t_a0 12) (show (-2147483648) ≤ iv a0 13 ∧ iv a0 13 ≤ 2147483647 from hW.int t_a0 13) (show (-2147483648) ≤ iv a0 14 ∧ iv a0 14 ≤ 2147483647 from hW.int t_a0 14) (show (-2147483648) ≤ iv a0 15 ∧ iv a0 15 ≤ 2147483647 from hW.int t_a0 15) (show (-2147483648) ≤ iv a0 16 ∧ iv a0 16 ≤ 2147483647 from hW.int t_a0 16) (hF0.call hX0 fl11 rfl) (fun ri79 ri80 ri81 ri82 ri83 ri84 F8 => ?_)
      refine c_st (st2 := [.int (iI f11)]) rfl ?_
      refine hv13 (show ivh11 a0 11 = iv a0 11 from kp11f11) (show ivh11 a0 12 = iv a0 12 from kp12f11) (show ivh11 a0 13 = iv a0 13 from kp13f11) (show ivh11 a0 14 = iv a0 14 from kp14f11) (show ivh11 a0 15 = iv a0 15 from kp15f11) (show ivh11 a0 16 = iv a0 16 from kp16f11) (show f11 = -1 from exf11) (show 1 ≤ ivh11 a0 11 ∧ ivh11 a0 11 ≤ 100 from W12.int t_a0 11) (show 1 ≤ ivh11 a0 12 ∧ ivh11 a0 12 ≤ 50 from W12.int t_a0 12) (show (-2147483648) ≤ ivh11 a0 13 ∧ ivh11 a0 13 ≤ 2147483647 from W12.int t_a0 13) (show (-2147483648) ≤ ivh11 a0 14 ∧ ivh11 a0 14 ≤ 2147483647 from W12.int t_a0 14) (show (-2147483648) ≤ ivh11 a0 15 ∧ ivh11 a0 15 ≤ 2147483647 from W12.int t_a0 15) (show (-2147483648) ≤ ivh11 a0 16 ∧ ivh11 a0 16 ≤ 2147483647 from W12.int t_a0 16) (fun gk11f11 gk12f11 gk13f11 gk14f11 gk15f11 gk16f11 gf11 ri85 ri86 ri87 ri88 ri89 ri90 => ?_)
      exact c_iret C dX11_copyRow_35 rfl (by decide) (rom0 hph hph (by decide)) ⟨f11, rfl, rfl, rfl, rfl, rfl, F8, W12, ⟨by omega, by omega⟩, trivial, gk11f11, gk12f11, gk13f11, gk14f11, gk15f11, gk16f11, (TCH.same hsA hW tsA fl11 rfl rfl rfl rfl (fun E hE => CRP.no (Or.inr gf2) (by omega) hE))⟩
set_option maxHeartbeats 4000000 in
set_option maxRecDepth 100000 in
theorem G_become {l : Launch} {G : GT} {mi : Nat} {sk : Nat → Nat} {L : List Nat} {cl ln : Nat → Nat} {iv : Nat → Nat → Int} {rv : Nat → Nat → Option Nat}  {a0 : Nat} {a1 : Nat} (hW : WT (g0 G) sk L cl ln iv rv) (hS : SKL sk L cl) (t_a0 : ty L cl a0 19) (t_a1 : ty L cl a1 19)  : Mc l G mi (Phi (g0 G) sk) PHM yX2_become cX2_become 2 none 1 [.ref a0, .ref a1] L cl ln iv rv 0 (fun v L2 cl2 ln2 iv2 rv2 => v = none ∧ L = L2 ∧ cl = cl2 ∧ ln = ln2 ∧ rv = rv2 ∧ fT [19, 64] L cl iv rv iv2 rv2 ∧ WT (g0 G) sk L2 cl2 ln2 iv2 rv2 ∧ (LFR L cl iv rv iv2 a0 ∧ BCX iv rv iv2 a0 a1)) := by
  refine Mc.mk (by decide) (Nat.le_of_ble_eq_true rfl) ?_
  intro p e s m args below meth c A C hM
  refine hv5 (Phi.le hW hS) (show XT L cl ln L cl ln from XT.refl) (show fT [19, 64] L cl iv rv iv rv from fT.refl) (show 0 ≤ iv a1 1 ∧ iv a1 1 ≤ 200 from hW.int t_a1 1) (show 0 ≤ iv a1 2 ∧ iv a1 2 ≤ 1 from hW.int t_a1 2) (fun hph hX0 hF0 ri1 ri2 => ?_)
  refine c_aload_n (j := 1) (x := a1) C dX2_become_0 rfl ?_
  obtain ⟨rb1, rq1, trb1⟩ := hW.ref t_a1 0 rfl rfl rfl
  have lnrb1 : 200 ≤ ln rb1 ∧ ln rb1 ≤ 200 := hW.len trb1 rfl
  refine c_getr (k := 0) C ck_3 dX2_become_1 w4_44 (by decide) t_a1 rfl rfl (by decide) rfl rq1 ?_
  refine c_st (st2 := [.ref rb1]) rfl ?_
  refine c_iconst C dX2_become_4 ?_
  refine c_aload_n (j := 0) (x := a0) C dX2_become_5 rfl ?_
  obtain ⟨rb2, rq2, trb2⟩ := hW.ref t_a0 0 rfl rfl rfl
  have lnrb2 : 200 ≤ ln rb2 ∧ ln rb2 ≤ 200 := hW.len trb2 rfl
  refine c_getr (k := 0) C ck_3 dX2_become_6 w4_44 (by decide) t_a0 rfl rfl (by decide) rfl rq2 ?_
  refine c_st (st2 := [.ref rb2, .int (iI 0), .ref rb1]) rfl ?_
  refine c_iconst C dX2_become_9 ?_
  refine c_aload_n (j := 1) (x := a1) C dX2_become_10 rfl ?_
  refine c_get (k := 1) C ck_3 dX2_become_11 w4_49 (by decide) t_a1 rfl rfl (by decide) rfl ?_
  refine hv2 (show 200 ≤ ln rb1 ∧ ln rb1 ≤ 200 from hW.len trb1 rfl) (show 200 ≤ ln rb2 ∧ ln rb2 ≤ 200 from hW.len trb2 rfl) (fun ll1 ll2 => ?_)
  refine c_copyi (sp := 0) (dp := 0) (n := iv a1 1) C dX2_become_14 w4_80 w2_133 w2_132 w1_15 trb1 rfl trb2 rfl (by omega) (by omega) (by omega) (by omega) (by omega) (by omega) (by omega) (by decide) (Nat.le_of_ble_eq_true rfl) (fun iv1 pq1 => ?_)
  refine hv2 (hW.copy pq1 trb2 trb1 (fun _ => rfl) (fun _ => rfl) (fun _ => rfl) (fun _ => rfl) rfl) (hF0.copy hX0 pq1 trb2 rfl) (fun W1 F1 => ?_)
  refine c_aload_n (j := 0) (x := a0) C dX2_become_17 rfl ?_
  refine c_aload_n (j := 1) (x := a1) C dX2_become_18 rfl ?_
  refine hv2 (show 0 ≤ iv1 a1 1 ∧ iv1 a1 1 ≤ 200 from W1.int t_a1 1) (show iv1 a1 1 = iv a1 1 from by rw [pq1]; exact if_neg (ne_ty t_a1 trb2 (by decide))) (fun ri3 ie1 => ?_)
  refine c_get (k := 1) C ck_3 dX2_become_19 w4_49 (by decide) t_a1 rfl rfl (by decide) rfl ?_
  refine c_put (z := iv1 a1 1) (k := 1) C ck_3 dX2_become_22 w4_49 (by decide) rfl t_a0 rfl rfl (by decide) rfl (by rfl) (by rfl) (fun iv2 pq2 => ?_)
  refine hv2 (W1.puti pq2 t_a0 (show 0 ≤ (iv1 a1 1) ∧ (iv1 a1 1) ≤ 200 by omega) rfl) (F1.puti hX0 pq2 t_a0 rfl) (fun W2 F2 => ?_)
  refine c_aload_n (j := 0) (x := a0) C dX2_become_25 rfl ?_
  refine c_aload_n (j := 1) (x := a1) C dX2_become_26 rfl ?_
  have ri4 : 0 ≤ iv2 a1 2 ∧ iv2 a1 2 ≤ 1 := W2.int t_a1 2
  refine c_get (k := 2) C ck_3 dX2_become_27 w4_54 (by decide) t_a1 rfl rfl (by decide) rfl ?_
  refine c_put (z := iv2 a1 2) (k := 2) C ck_3 dX2_become_30 w4_54 (by decide) rfl t_a0 rfl rfl (by decide) rfl (nar2 (z := iv2 a1 2) (by omega)).1 (nar2 (z := iv2 a1 2) (by omega)).2 (fun iv3 pq3 => ?_)
  refine hv5 (W2.puti pq3 t_a0 (show 0 ≤ (iv2 a1 2) ∧ (iv2 a1 2) ≤ 1 by omega) rfl) (F2.puti hX0 pq3 t_a0 rfl) (show iv3 a0 1 = iv2 a0 1 from by rw [pq3]; exact up2_j (by decide)) (show iv2 a0 1 = iv1 a1 1 from by rw [pq2]; exact up2_s) (show iv3 a0 2 = iv2 a1 2 from by rw [pq3]; exact up2_s) (fun W3 F3 ie3 ie4 ie5 => ?_)
  refine hv2 (show 0 ≤ iv3 a0 1 ∧ iv3 a0 1 ≤ 200 from W3.int t_a0 1) (show 0 ≤ iv3 a0 2 ∧ iv3 a0 2 ≤ 1 from W3.int t_a0 2) (fun ri5 ri6 => ?_)
  exact c_vret C dX2_become_33 rfl (by decide) (rom0 hph hph (by decide)) ⟨rfl, rfl, rfl, rfl, rfl, F3, W3, ⟨((LFR.refl.copy rq2 trb2 pq1).self t_a0 pq2).self t_a0 pq3, BCX.mk rq1 rq2 pq1 rfl pq2 (by omega) pq3 rfl (ne_ty trb2 t_a0 (by decide)) (ne_ty t_a1 trb2 (by decide))⟩⟩
set_option maxHeartbeats 4000000 in
set_option maxRecDepth 100000 in
theorem G_copyLines {l : Launch} {G : GT} {mi : Nat} {sk : Nat → Nat} {L : List Nat} {cl ln : Nat → Nat} {iv : Nat → Nat → Int} {rv : Nat → Nat → Option Nat}  {a0 : Nat} {i : Int} {j : Int} {n : Int} (hW : WT (g0 G) sk L cl ln iv rv) (hS : SKL sk L cl) (t_a0 : ty L cl a0 1) (h_i : -2147483648 ≤ i ∧ i ≤ 2147483647) (h_j : -2147483648 ≤ j ∧ j ≤ 2147483647) (h_n : -2147483648 ≤ n ∧ n ≤ 2147483647)  : Mc l G mi (Phi (g0 G) sk) PHM yX11_copyLines cX11_copyLines 7 (some .int) 2 [.ref a0, .int (iI i), .int (iI j), .int (iI n)] L cl ln iv rv 0 (fun v L2 cl2 ln2 iv2 rv2 => ∃ f : Int, v = some (.int (iI f)) ∧ L = L2 ∧ cl = cl2 ∧ ln = ln2 ∧ rv = rv2 ∧ fT [1, 19, 64] L cl iv rv iv2 rv2 ∧ WT (g0 G) sk L2 cl2 ln2 iv2 rv2 ∧ (-2147483648 ≤ f ∧ f ≤ 2147483647) ∧ (True) ∧ iv2 a0 11 = iv a0 11 ∧ iv2 a0 12 = iv a0 12 ∧ iv2 a0 13 = iv a0 13 ∧ iv2 a0 14 = iv a0 14 ∧ iv2 a0 16 = iv a0 16 ∧ (TCH iv rv iv2 a0 (fun E E2 => CPLX E i j n (iv a0 15) f E2 (iv2 a0 15)))) := by
  refine Mc.mk (by decide) (Nat.le_of_ble_eq_true rfl) ?_
  intro p e s m args below meth c A C hM
  refine hv3 (Phi.le hW hS) (show XT L cl ln L cl ln from XT.refl) (show fT [1, 19, 64] L cl iv rv iv rv from fT.refl) (fun hph hX0 hF0 => ?_)
  obtain ⟨sA, hsA, tsA⟩ := hW.ref t_a0 9 rfl rfl rfl
  refine hv2 (show 0 ≤ iv sA 1 ∧ iv sA 1 ≤ 200 from hW.int tsA 1) (show (-2147483648) ≤ iv a0 15 ∧ iv a0 15 ≤ 2147483647 from hW.int t_a0 15) (fun ri1 ri2 => ?_)
  refine c_iload_n (j := 3) C dX11_copyLines_0 rfl ?_
  refine c_bipush (z := 10) C dX11_copyLines_1 (by decide) ?_
  refine c_icmp_le (tgt := 13) C ⟨by omega, by omega⟩ ⟨by decide, by decide⟩ dX11_copyLines_3 (by decide) (fun c1 => ?_) (fun c1 => ?_)
  · refine c_iload_n (j := 3) C dX11_copyLines_13 rfl ?_
    refine c_if_ge (tgt := 23) C ⟨by omega, by omega⟩ dX11_copyLines_14 (by decide) (fun c2 => ?_) (fun c2 => ?_)
    · refine c_aload_n (j := 0) (x := a0) C dX11_copyLines_23 rfl ?_
      refine c_iconst C dX11_copyLines_24 ?_
      refine c_put (z := 0) (k := 15) C ck_12 dX11_copyLines_25 w2_59 (by decide) rfl t_a0 rfl rfl (by decide) rfl (by rfl) (by rfl) (fun iv1 pq1 => ?_)
      refine hv2 (hW.puti pq1 t_a0 ⟨by decide, by decide⟩ rfl) (hF0.puti hX0 pq1 t_a0 rfl) (fun W1 F1 => ?_)
      refine c_iconst C dX11_copyLines_28 ?_
      refine c_istore (lv2 := [(4, .int (iI 0)), (0, .ref a0), (1, .int (iI i)), (2, .int (iI j)), (3, .int (iI n))]) C dX11_copyLines_29 (by decide) rfl ?_
      have Lp1 : ∀ (nn : Nat) (k : Int) (ivb1 : Nat → Nat → Int) , 201 - k < (nn : Int) → WT (g0 G) sk L cl ln ivb1 rv → fT [1, 19, 64] L cl iv rv ivb1 rv → (0 ≤ k ∧ k ≤ n ∧ n ≤ 10) → (ivb1 a0 15 = k) → (TCH iv rv ivb1 a0 (fun E E1 => cpn E i j k.toNat E1)) → (ivb1 a0 11 = iv a0 11) → (ivb1 a0 12 = iv a0 12) → (ivb1 a0 13 = iv a0 13) → (ivb1 a0 14 = iv a0 14) → (ivb1 a0 16 = iv a0 16) → cw p l e 2 ((PHM) + 0 - ((Phi (g0 G) sk) ln rv)) s m args below meth c G A 7 (MQ below (Qu G A (Qp G (Phi (g0 G) sk) ((Phi (g0 G) sk) ln rv) 0 (fun v L2 cl2 ln2 iv2 rv2 => ∃ f : Int, v = some (.int (iI f)) ∧ L = L2 ∧ cl = cl2 ∧ ln = ln2 ∧ rv = rv2 ∧ fT [1, 19, 64] L cl iv rv iv2 rv2 ∧ WT (g0 G) sk L2 cl2 ln2 iv2 rv2 ∧ (-2147483648 ≤ f ∧ f ≤ 2147483647) ∧ (True) ∧ iv2 a0 11 = iv a0 11 ∧ iv2 a0 12 = iv a0 12 ∧ iv2 a0 13 = iv a0 13 ∧ iv2 a0 14 = iv a0 14 ∧ iv2 a0 16 = iv a0 16 ∧ (TCH iv rv iv2 a0 (fun E E2 => CPLX E i j n (iv a0 15) f E2 (iv2 a0 15)))))) args s (((PHM) + 0 - ((Phi (g0 G) sk) ln rv)) / 16) ((PHM) + 0 - ((Phi (g0 G) sk) ln rv)) A) (Phi (g0 G) sk) ((Phi (g0 G) sk) ln rv) L cl ln ivb1 rv 0 31 [(4, .int (iI k)), (0, .ref a0), (1, .int (iI i)), (2, .int (iI j)), (3, .int (iI n))] [] := by
        intro nn
        induction nn with
        | zero =>
          intro  k ivb1 hm Wb1 Fb1  hk h15 hT hkp11 hkp12 hkp13 hkp14 hkp16
          exact absurd hm (by omega)
        | succ nn ih1 =>
          intro  k ivb1 hm Wb1 Fb1  hk h15 hT hkp11 hkp12 hkp13 hkp14 hkp16
          refine c_iload (j := 0) C dX11_copyLines_31 rfl ?_
          refine c_iload_n (j := 4) C dX11_copyLines_33 rfl ?_
          refine c_icmp_ge (tgt := 116) C ⟨by omega, by omega⟩ ⟨by omega, by omega⟩ dX11_copyLines_34 (by decide) (fun c3 => ?_) (fun c3 => ?_)
          · refine c_aload_n (j := 1) (x := a0) C dX11_copyLines_116 rfl ?_
            refine c_iload_n (j := 4) C dX11_copyLines_117 rfl ?_
            refine d_callV (As := [.int (iI n)]) (rest := []) C hM (C_done (a0 := a0) (x := n) Wb1 hS t_a0 (by omega) ) dX11_copyLines_118 kV_X11_109 rfl t_a0 rfl rfl (by decide) ck_12 rfl (Nat.le_of_ble_eq_true rfl) ⟨(Nat.le_of_ble_eq_true rfl), (Nat.le_of_ble_eq_true rfl)⟩ hph hph (show 0 + 0 = 0 from rfl) (by decide) (fun rh1 Lh1 clh1 lnh1 ivh1 rvh1 h1 => ?_)
            obtain ⟨f1, rfl, rfl, rfl, rfl, rfl, fl1, W2, rgf1, exf1, kp11f1, kp12f1, kp13f1, kp14f1, kp15f1, kp16f1⟩ := h1
            refine hv7 (show 1 ≤ ivb1 a0 11 ∧ ivb1 a0 11 ≤ 100 from Wb1.int t_a0 11) (show 1 ≤ ivb1 a0 12 ∧ ivb1 a0 12 ≤ 50 from Wb1.int t_a0 12) (show (-2147483648) ≤ ivb1 a0 13 ∧ ivb1 a0 13 ≤ 2147483647 from Wb1.int t_a0 13) (show (-2147483648) ≤ ivb1 a0 14 ∧ ivb1 a0 14 ≤ 2147483647 from Wb1.int t_a0 14) (show (-2147483648) ≤ ivb1 a0 15 ∧ ivb1 a0 15 ≤ 2147483647 from Wb1.int t_a0 15) (show (-2147483648) ≤ ivb1 a0 16 ∧ ivb1 a0 16 ≤ 2147483647 from Wb1.int t_a0 16) (Fb1.call hX0 fl1 rfl) (fun ri3 ri4 ri5 ri6 ri7 ri8 F2 => ?_)
            refine c_st (st2 := [.int (iI f1)]) rfl ?_
            refine hv13 (show ivh1 a0 11 = ivb1 a0 11 from kp11f1) (show ivh1 a0 12 = ivb1 a0 12 from kp12f1) (show ivh1 a0 13 = ivb1 a0 13 from kp13f1) (show ivh1 a0 14 = ivb1 a0 14 from kp14f1) (show ivh1 a0 15 = ivb1 a0 15 from kp15f1) (show ivh1 a0 16 = ivb1 a0 16 from kp16f1) (show f1 = n from exf1) (show 1 ≤ ivh1 a0 11 ∧ ivh1 a0 11 ≤ 100 from W2.int t_a0 11) (show 1 ≤ ivh1 a0 12 ∧ ivh1 a0 12 ≤ 50 from W2.int t_a0 12) (show (-2147483648) ≤ ivh1 a0 13 ∧ ivh1 a0 13 ≤ 2147483647 from W2.int t_a0 13) (show (-2147483648) ≤ ivh1 a0 14 ∧ ivh1 a0 14 ≤ 2147483647 from W2.int t_a0 14) (show (-2147483648) ≤ ivh1 a0 16 ∧ ivh1 a0 16 ≤ 2147483647 from W2.int t_a0 16) (show (-2147483648) ≤ ivh1 a0 15 ∧ ivh1 a0 15 ≤ 2147483647 from W2.int t_a0 15) (fun gk11f1 gk12f1 gk13f1 gk14f1 gk15f1 gk16f1 gf1 ri9 ri10 ri11 ri12 ri13 ri14 => ?_)
            exact c_iret C dX11_copyLines_121 rfl (by decide) (rom0 hph hph (by decide)) ⟨f1, rfl, rfl, rfl, rfl, rfl, F2, W2, ⟨by omega, by omega⟩, trivial, (gk11f1.trans hkp11), (gk12f1.trans hkp12), (gk13f1.trans hkp13), (gk14f1.trans hkp14), (gk16f1.trans hkp16), (CPP.ok hT hsA Wb1 tsA fl1 (by omega) ⟨by omega, by omega⟩ (by omega) (by omega))⟩
          · refine c_aload_n (j := 1) (x := a0) C dX11_copyLines_37 rfl ?_
            refine c_getr (k := 9) C ck_12 dX11_copyLines_38 w2_53 (by decide) t_a0 rfl rfl (by decide) rfl hsA ?_
            refine c_st (st2 := [.ref sA]) rfl ?_
            refine c_iload_n (j := 2) C dX11_copyLines_41 rfl ?_
            refine c_iload (j := 0) C dX11_copyLines_42 rfl ?_
            refine c_iadd C dX11_copyLines_44 ?_
            obtain ⟨zz1, hzz1, ezz1⟩ := iI_of (iI (i + k))
            refine c_st (st2 := [.int (iI zz1), .ref sA]) (by rw [ezz1]) ?_
            refine hv2 (show 0 ≤ ivb1 sA 1 ∧ ivb1 sA 1 ≤ 200 from Wb1.int tsA 1) (show ivb1 sA 1 = iv sA 1 from Fb1.i tsA rfl 1) (fun ri15 ie13 => ?_)
            refine d_callV (As := [.int (iI zz1)]) (rest := []) C hM (G_sat (a0 := sA) (i := zz1) Wb1 hS tsA (by omega) ) dX11_copyLines_45 kV_X11_308 rfl tsA rfl rfl (by decide) ck_8 rfl (Nat.le_of_ble_eq_true rfl) ⟨(Nat.le_of_ble_eq_true rfl), (Nat.le_of_ble_eq_true rfl)⟩ hph hph (show 0 + 0 = 0 from rfl) (by decide) (fun rh2 Lh2 clh2 lnh2 ivh2 rvh2 h2 => ?_)
            obtain ⟨f2, rfl, rfl, rfl, rfl, rfl, rfl, rgf2, exf2⟩ := h2
            refine c_st (st2 := [(va_rf f2)]) rfl ?_
            have gf2 : SATX ivb1 rv sA zz1 f2 := exf2
            have gaf2 := SATX.wr gf2 (wr_add (x := i + k) hzz1 ⟨by omega, by omega⟩ ezz1) (by omega)
            refine c_astorer (r := f2) (lv2 := [(5, (va_rf f2)), (4, .int (iI k)), (0, .ref a0), (1, .int (iI i)), (2, .int (iI j)), (3, .int (iI n))]) C dX11_copyLines_48 (by decide) rfl ?_
            refine c_aload_n (j := 2) (x := a0) C dX11_copyLines_50 rfl ?_
            refine c_getr (k := 9) C ck_12 dX11_copyLines_51 w2_53 (by decide) t_a0 rfl rfl (by decide) rfl hsA ?_
            refine c_st (st2 := [.ref sA]) rfl ?_
            refine c_iload_n (j := 4) C dX11_copyLines_54 rfl ?_
            refine c_iload (j := 1) C dX11_copyLines_55 rfl ?_
            refine c_iadd C dX11_copyLines_57 ?_
            obtain ⟨zz2, hzz2, ezz2⟩ := iI_of (iI (j + k))
            refine c_st (st2 := [.int (iI zz2), .ref sA]) (by rw [ezz2]) ?_
            refine d_callV (As := [.int (iI zz2)]) (rest := []) C hM (G_sat (a0 := sA) (i := zz2) Wb1 hS tsA (by omega) ) dX11_copyLines_58 kV_X11_308 rfl tsA rfl rfl (by decide) ck_8 rfl (Nat.le_of_ble_eq_true rfl) ⟨(Nat.le_of_ble_eq_true rfl), (Nat.le_of_ble_eq_true rfl)⟩ hph hph (show 0 + 0 = 0 from rfl) (by decide) (fun rh3 Lh3 clh3 lnh3 ivh3 rvh3 h3 => ?_)
            obtain ⟨f3, rfl, rfl, rfl, rfl, rfl, rfl, rgf3, exf3⟩ := h3
            refine c_st (st2 := [(va_rf f3)]) rfl ?_
            have gf3 : SATX ivb1 rv sA zz2 f3 := exf3
            have gaf3 := SATX.wr gf3 (wr_add (x := j + k) hzz2 ⟨by omega, by omega⟩ ezz2) (by omega)
            refine c_astorer (r := f3) (lv2 := [(6, (va_rf f3)), (5, (va_rf f2)), (4, .int (iI k)), (0, .ref a0), (1, .int (iI i)), (2, .int (iI j)), (3, .int (iI n))]) C dX11_copyLines_61 (by decide) (by cases f2 <;> rfl) ?_
            refine c_aloadr (j := 1) (r := f2) C dX11_copyLines_63 rfl ?_
            refine c_ifnull (r := f2) (tgt := 73) C dX11_copyLines_65 (by decide) (fun oq1 => ?_) (fun ob1 oq1 => ?_)
            · subst oq1
              refine c_lv (lv2 := [(6, (va_rf f3)), (5, .null), (4, .int (iI k)), (0, .ref a0), (1, .int (iI i)), (2, .int (iI j)), (3, .int (iI n))]) [0, 1, 2, 3, 4, 5, 6] rfl ?_
              refine c_st (st2 := []) rfl ?_
              refine c_aload_n (j := 3) (x := a0) C dX11_copyLines_73 rfl ?_
              refine c_iconst C dX11_copyLines_74 ?_
              refine d_callV (As := [.int (iI 2)]) (rest := []) C hM (C_refuse (a0 := a0) (x := 2) Wb1 hS t_a0 ⟨by decide, by decide⟩ ) dX11_copyLines_75 kV_X11_102 rfl t_a0 rfl rfl (by decide) ck_12 rfl (Nat.le_of_ble_eq_true rfl) ⟨(Nat.le_of_ble_eq_true rfl), (Nat.le_of_ble_eq_true rfl)⟩ hph hph (show 0 + 0 = 0 from rfl) (by decide) (fun rh4 Lh4 clh4 lnh4 ivh4 rvh4 h4 => ?_)
              obtain ⟨f4, rfl, rfl, rfl, rfl, rfl, fl4, W5, rgf4, exf4, kp11f4, kp12f4, kp13f4, kp14f4, kp15f4, kp16f4⟩ := h4
              refine hv7 (show 1 ≤ ivb1 a0 11 ∧ ivb1 a0 11 ≤ 100 from Wb1.int t_a0 11) (show 1 ≤ ivb1 a0 12 ∧ ivb1 a0 12 ≤ 50 from Wb1.int t_a0 12) (show (-2147483648) ≤ ivb1 a0 13 ∧ ivb1 a0 13 ≤ 2147483647 from Wb1.int t_a0 13) (show (-2147483648) ≤ ivb1 a0 14 ∧ ivb1 a0 14 ≤ 2147483647 from Wb1.int t_a0 14) (show (-2147483648) ≤ ivb1 a0 15 ∧ ivb1 a0 15 ≤ 2147483647 from Wb1.int t_a0 15) (show (-2147483648) ≤ ivb1 a0 16 ∧ ivb1 a0 16 ≤ 2147483647 from Wb1.int t_a0 16) (Fb1.call hX0 fl4 rfl) (fun ri16 ri17 ri18 ri19 ri20 ri21 F3 => ?_)
              refine c_st (st2 := [.int (iI f4)]) rfl ?_
              refine hv13 (show ivh4 a0 11 = ivb1 a0 11 from kp11f4) (show ivh4 a0 12 = ivb1 a0 12 from kp12f4) (show ivh4 a0 13 = ivb1 a0 13 from kp13f4) (show ivh4 a0 14 = ivb1 a0 14 from kp14f4) (show ivh4 a0 15 = ivb1 a0 15 from kp15f4) (show ivh4 a0 16 = ivb1 a0 16 from kp16f4) (show f4 = -1 from exf4) (show 1 ≤ ivh4 a0 11 ∧ ivh4 a0 11 ≤ 100 from W5.int t_a0 11) (show 1 ≤ ivh4 a0 12 ∧ ivh4 a0 12 ≤ 50 from W5.int t_a0 12) (show (-2147483648) ≤ ivh4 a0 13 ∧ ivh4 a0 13 ≤ 2147483647 from W5.int t_a0 13) (show (-2147483648) ≤ ivh4 a0 14 ∧ ivh4 a0 14 ≤ 2147483647 from W5.int t_a0 14) (show (-2147483648) ≤ ivh4 a0 16 ∧ ivh4 a0 16 ≤ 2147483647 from W5.int t_a0 16) (show (-2147483648) ≤ ivh4 a0 15 ∧ ivh4 a0 15 ≤ 2147483647 from W5.int t_a0 15) (fun gk11f4 gk12f4 gk13f4 gk14f4 gk15f4 gk16f4 gf4 ri22 ri23 ri24 ri25 ri26 ri27 => ?_)
              exact c_iret C dX11_copyLines_78 rfl (by decide) (rom0 hph hph (by decide)) ⟨f4, rfl, rfl, rfl, rfl, rfl, F3, W5, ⟨by omega, by omega⟩, trivial, (gk11f4.trans hkp11), (gk12f4.trans hkp12), (gk13f4.trans hkp13), (gk14f4.trans hkp14), (gk16f4.trans hkp16), (CPP.stop hT hsA Wb1 tsA fl4 ⟨by omega, by omega⟩ (by omega) (by omega) (by omega) (Or.inl gaf2))⟩
            · subst oq1
              have tob1 := rgf2 ob1 rfl
              refine c_lv (lv2 := [(6, (va_rf f3)), (5, .ref ob1), (4, .int (iI k)), (0, .ref a0), (1, .int (iI i)), (2, .int (iI j)), (3, .int (iI n))]) [0, 1, 2, 3, 4, 5, 6] rfl ?_
              refine c_st (st2 := []) rfl ?_
              refine c_aloadr (j := 0) (r := f3) C dX11_copyLines_68 rfl ?_
              refine c_ifnonnull (r := f3) (tgt := 79) C dX11_copyLines_70 (by decide) (fun ob2 oq2 => ?_) (fun oq2 => ?_)
              · subst oq2
                have tob2 := rgf3 ob2 rfl
                refine c_lv (lv2 := [(6, .ref ob2), (5, .ref ob1), (4, .int (iI k)), (0, .ref a0), (1, .int (iI i)), (2, .int (iI j)), (3, .int (iI n))]) [0, 1, 2, 3, 4, 5, 6] rfl ?_
                refine c_st (st2 := []) rfl ?_
                have ri28 : 0 ≤ ivb1 ob1 2 ∧ ivb1 ob1 2 ≤ 1 := Wb1.int tob1 2
                refine c_aload (j := 1) (x := ob1) C dX11_copyLines_79 rfl ?_
                refine c_get (k := 2) C ck_3 dX11_copyLines_81 w4_56 (by decide) tob1 rfl rfl (by decide) rfl ?_
                refine c_if_eq (tgt := 93) C (r32_c (lo := 0) (hi := 1) ri28.1 ri28.2 (by decide) (by decide)) dX11_copyLines_84 (by decide) (fun c4 => ?_) (fun c4 => ?_)
                · refine c_aload (j := 0) (x := ob2) C dX11_copyLines_93 rfl ?_
                  refine c_aload (j := 1) (x := ob1) C dX11_copyLines_95 rfl ?_
                  refine d_callV (As := [.ref ob1]) (rest := []) C hM (G_become (a0 := ob2) (a1 := ob1) Wb1 hS tob2 tob1  ) dX11_copyLines_97 kV_X11_322 rfl tob2 rfl rfl (by decide) ck_3 rfl (Nat.le_of_ble_eq_true rfl) ⟨(Nat.le_of_ble_eq_true rfl), (Nat.le_of_ble_eq_true rfl)⟩ hph hph (show 0 + 0 = 0 from rfl) (by decide) (fun rh5 Lh5 clh5 lnh5 ivh5 rvh5 h5 => ?_)
                  obtain ⟨rfl, rfl, rfl, rfl, rfl, fl5, W6, exf5⟩ := h5
                  have F4 := Fb1.call hX0 fl5 rfl
                  refine c_st (st2 := []) rfl ?_
                  refine hv3 (show LFR L cl ivb1 rv ivh5 ob2 ∧ BCX ivb1 rv ivh5 ob2 ob1 from exf5) (show 0 ≤ ivh5 sA 1 ∧ ivh5 sA 1 ≤ 200 from W6.int tsA 1) (show ivh5 sA 1 = ivb1 sA 1 from fl5.i tsA rfl 1) (fun gf5 ri29 ie27 => ?_)
                  refine c_aload_n (j := 3) (x := a0) C dX11_copyLines_100 rfl ?_
                  refine c_dup C dX11_copyLines_101 rfl ?_
                  refine hv2 (show (-2147483648) ≤ ivh5 a0 15 ∧ ivh5 a0 15 ≤ 2147483647 from W6.int t_a0 15) (show ivh5 a0 15 = ivb1 a0 15 from fl5.i t_a0 rfl 15) (fun ri30 ie28 => ?_)
                  refine c_get (k := 15) C ck_12 dX11_copyLines_102 w2_59 (by decide) t_a0 rfl rfl (by decide) rfl ?_
                  refine c_iconst C dX11_copyLines_105 ?_
                  refine c_iadd C dX11_copyLines_106 ?_
                  refine c_put (z := (ivh5 a0 15) + 1) (k := 15) C ck_12 dX11_copyLines_107 w2_59 (by decide) rfl t_a0 rfl rfl (by decide) rfl (by rfl) (by rfl) (fun iv2 pq2 => ?_)
                  refine hv2 (W6.puti pq2 t_a0 (show (-2147483648) ≤ ((ivh5 a0 15) + 1) ∧ ((ivh5 a0 15) + 1) ≤ 2147483647 by omega) rfl) (F4.puti hX0 pq2 t_a0 rfl) (fun W7 F5 => ?_)
                  refine c_iinc (z := k) (j := 2) (lv2 := [(4, .int (iI (k + 1))), (6, .ref ob2), (5, .ref ob1), (0, .ref a0), (1, .int (iI i)), (2, .int (iI j)), (3, .int (iI n))]) C dX11_copyLines_110 rfl (by decide) rfl ?_
                  refine c_goto (tgt := 31) C dX11_copyLines_113 (by decide) ?_
                  refine hv19 (show (-2147483648) ≤ iv2 a0 15 ∧ iv2 a0 15 ≤ 2147483647 from W7.int t_a0 15) (show iv2 a0 15 = (ivh5 a0 15) + 1 from by rw [pq2]; exact up2_s) (show 1 ≤ iv2 a0 11 ∧ iv2 a0 11 ≤ 100 from W7.int t_a0 11) (show iv2 a0 11 = ivh5 a0 11 from by rw [pq2]; exact up2_j (by decide)) (show ivh5 a0 11 = ivb1 a0 11 from fl5.i t_a0 rfl 11) (show 1 ≤ iv2 a0 12 ∧ iv2 a0 12 ≤ 50 from W7.int t_a0 12) (show iv2 a0 12 = ivh5 a0 12 from by rw [pq2]; exact up2_j (by decide)) (show ivh5 a0 12 = ivb1 a0 12 from fl5.i t_a0 rfl 12) (show (-2147483648) ≤ iv2 a0 13 ∧ iv2 a0 13 ≤ 2147483647 from W7.int t_a0 13) (show iv2 a0 13 = ivh5 a0 13 from by rw [pq2]; exact up2_j (by decide)) (show ivh5 a0 13 = ivb1 a0 13 from fl5.i t_a0 rfl 13) (show (-2147483648) ≤ iv2 a0 14 ∧ iv2 a0 14 ≤ 2147483647 from W7.int t_a0 14) (show iv2 a0 14 = ivh5 a0 14 from by rw [pq2]; exact up2_j (by decide)) (show ivh5 a0 14 = ivb1 a0 14 from fl5.i t_a0 rfl 14) (show (-2147483648) ≤ iv2 a0 16 ∧ iv2 a0 16 ≤ 2147483647 from W7.int t_a0 16) (show iv2 a0 16 = ivh5 a0 16 from by rw [pq2]; exact up2_j (by decide)) (show ivh5 a0 16 = ivb1 a0 16 from fl5.i t_a0 rfl 16) (show 0 ≤ iv2 ob1 2 ∧ iv2 ob1 2 ≤ 1 from W7.int tob1 2) (show iv2 ob1 2 = ivh5 ob1 2 from by rw [pq2]; exact up2_k (ne_ty tob1 t_a0 (by decide))) (fun ri31 ie30 ri32 ie31 ie32 ri33 ie34 ie35 ri34 ie37 ie38 ri35 ie40 ie41 ri36 ie43 ie44 ri37 ie46 => ?_)
                  refine c_lv (lv2 := [(4, .int (iI (k + 1))), (0, .ref a0), (1, .int (iI i)), (2, .int (iI j)), (3, .int (iI n))]) [0, 3, 4, 5, 6] rfl ?_
                  exact ih1  (k + 1) _ (by omega) W7 F5  (by omega) (by show iv2 a0 15 = (k + 1); omega) (CPP.step hT hsA Wb1 tsA t_a0 gaf2 gaf3 (by omega) gf5.1 gf5.2 (by omega) W6 pq2 (by omega)) (ie31.trans (ie32.trans hkp11)) (ie34.trans (ie35.trans hkp12)) (ie37.trans (ie38.trans hkp13)) (ie40.trans (ie41.trans hkp14)) (ie43.trans (ie44.trans hkp16))
                · refine c_aload_n (j := 3) (x := a0) C dX11_copyLines_87 rfl ?_
                  refine c_iconst C dX11_copyLines_88 ?_
                  refine d_callV (As := [.int (iI 1)]) (rest := []) C hM (C_refuse (a0 := a0) (x := 1) Wb1 hS t_a0 ⟨by decide, by decide⟩ ) dX11_copyLines_89 kV_X11_102 rfl t_a0 rfl rfl (by decide) ck_12 rfl (Nat.le_of_ble_eq_true rfl) ⟨(Nat.le_of_ble_eq_true rfl), (Nat.le_of_ble_eq_true rfl)⟩ hph hph (show 0 + 0 = 0 from rfl) (by decide) (fun rh6 Lh6 clh6 lnh6 ivh6 rvh6 h6 => ?_)
                  obtain ⟨f6, rfl, rfl, rfl, rfl, rfl, fl6, W8, rgf6, exf6, kp11f6, kp12f6, kp13f6, kp14f6, kp15f6, kp16f6⟩ := h6
                  refine hv7 (show 1 ≤ ivb1 a0 11 ∧ ivb1 a0 11 ≤ 100 from Wb1.int t_a0 11) (show 1 ≤ ivb1 a0 12 ∧ ivb1 a0 12 ≤ 50 from Wb1.int t_a0 12) (show (-2147483648) ≤ ivb1 a0 13 ∧ ivb1 a0 13 ≤ 2147483647 from Wb1.int t_a0 13) (show (-2147483648) ≤ ivb1 a0 14 ∧ ivb1 a0 14 ≤ 2147483647 from Wb1.int t_a0 14) (show (-2147483648) ≤ ivb1 a0 15 ∧ ivb1 a0 15 ≤ 2147483647 from Wb1.int t_a0 15) (show (-2147483648) ≤ ivb1 a0 16 ∧ ivb1 a0 16 ≤ 2147483647 from Wb1.int t_a0 16) (Fb1.call hX0 fl6 rfl) (fun ri38 ri39 ri40 ri41 ri42 ri43 F6 => ?_)
                  refine c_st (st2 := [.int (iI f6)]) rfl ?_
                  refine hv13 (show ivh6 a0 11 = ivb1 a0 11 from kp11f6) (show ivh6 a0 12 = ivb1 a0 12 from kp12f6) (show ivh6 a0 13 = ivb1 a0 13 from kp13f6) (show ivh6 a0 14 = ivb1 a0 14 from kp14f6) (show ivh6 a0 15 = ivb1 a0 15 from kp15f6) (show ivh6 a0 16 = ivb1 a0 16 from kp16f6) (show f6 = -1 from exf6) (show 1 ≤ ivh6 a0 11 ∧ ivh6 a0 11 ≤ 100 from W8.int t_a0 11) (show 1 ≤ ivh6 a0 12 ∧ ivh6 a0 12 ≤ 50 from W8.int t_a0 12) (show (-2147483648) ≤ ivh6 a0 13 ∧ ivh6 a0 13 ≤ 2147483647 from W8.int t_a0 13) (show (-2147483648) ≤ ivh6 a0 14 ∧ ivh6 a0 14 ≤ 2147483647 from W8.int t_a0 14) (show (-2147483648) ≤ ivh6 a0 16 ∧ ivh6 a0 16 ≤ 2147483647 from W8.int t_a0 16) (show (-2147483648) ≤ ivh6 a0 15 ∧ ivh6 a0 15 ≤ 2147483647 from W8.int t_a0 15) (fun gk11f6 gk12f6 gk13f6 gk14f6 gk15f6 gk16f6 gf6 ri44 ri45 ri46 ri47 ri48 ri49 => ?_)
                  exact c_iret C dX11_copyLines_92 rfl (by decide) (rom0 hph hph (by decide)) ⟨f6, rfl, rfl, rfl, rfl, rfl, F6, W8, ⟨by omega, by omega⟩, trivial, (gk11f6.trans hkp11), (gk12f6.trans hkp12), (gk13f6.trans hkp13), (gk14f6.trans hkp14), (gk16f6.trans hkp16), (CPP.stop hT hsA Wb1 tsA fl6 ⟨by omega, by omega⟩ (by omega) (by omega) (by omega) (Or.inr (Or.inr ⟨_, gaf2, by omega⟩)))⟩
              · subst oq2
                refine c_lv (lv2 := [(6, .null), (5, .ref ob1), (4, .int (iI k)), (0, .ref a0), (1, .int (iI i)), (2, .int (iI j)), (3, .int (iI n))]) [0, 1, 2, 3, 4, 5, 6] rfl ?_
                refine c_st (st2 := []) rfl ?_
                refine c_aload_n (j := 3) (x := a0) C dX11_copyLines_73 rfl ?_
                refine c_iconst C dX11_copyLines_74 ?_
                refine d_callV (As := [.int (iI 2)]) (rest := []) C hM (C_refuse (a0 := a0) (x := 2) Wb1 hS t_a0 ⟨by decide, by decide⟩ ) dX11_copyLines_75 kV_X11_102 rfl t_a0 rfl rfl (by decide) ck_12 rfl (Nat.le_of_ble_eq_true rfl) ⟨(Nat.le_of_ble_eq_true rfl), (Nat.le_of_ble_eq_true rfl)⟩ hph hph (show 0 + 0 = 0 from rfl) (by decide) (fun rh7 Lh7 clh7 lnh7 ivh7 rvh7 h7 => ?_)
                obtain ⟨f7, rfl, rfl, rfl, rfl, rfl, fl7, W9, rgf7, exf7, kp11f7, kp12f7, kp13f7, kp14f7, kp15f7, kp16f7⟩ := h7
                refine hv7 (show 1 ≤ ivb1 a0 11 ∧ ivb1 a0 11 ≤ 100 from Wb1.int t_a0 11) (show 1 ≤ ivb1 a0 12 ∧ ivb1 a0 12 ≤ 50 from Wb1.int t_a0 12) (show (-2147483648) ≤ ivb1 a0 13 ∧ ivb1 a0 13 ≤ 2147483647 from Wb1.int t_a0 13) (show (-2147483648) ≤ ivb1 a0 14 ∧ ivb1 a0 14 ≤ 2147483647 from Wb1.int t_a0 14) (show (-2147483648) ≤ ivb1 a0 15 ∧ ivb1 a0 15 ≤ 2147483647 from Wb1.int t_a0 15) (show (-2147483648) ≤ ivb1 a0 16 ∧ ivb1 a0 16 ≤ 2147483647 from Wb1.int t_a0 16) (Fb1.call hX0 fl7 rfl) (fun ri50 ri51 ri52 ri53 ri54 ri55 F7 => ?_)
                refine c_st (st2 := [.int (iI f7)]) rfl ?_
                refine hv13 (show ivh7 a0 11 = ivb1 a0 11 from kp11f7) (show ivh7 a0 12 = ivb1 a0 12 from kp12f7) (show ivh7 a0 13 = ivb1 a0 13 from kp13f7) (show ivh7 a0 14 = ivb1 a0 14 from kp14f7) (show ivh7 a0 15 = ivb1 a0 15 from kp15f7) (show ivh7 a0 16 = ivb1 a0 16 from kp16f7) (show f7 = -1 from exf7) (show 1 ≤ ivh7 a0 11 ∧ ivh7 a0 11 ≤ 100 from W9.int t_a0 11) (show 1 ≤ ivh7 a0 12 ∧ ivh7 a0 12 ≤ 50 from W9.int t_a0 12) (show (-2147483648) ≤ ivh7 a0 13 ∧ ivh7 a0 13 ≤ 2147483647 from W9.int t_a0 13) (show (-2147483648) ≤ ivh7 a0 14 ∧ ivh7 a0 14 ≤ 2147483647 from W9.int t_a0 14) (show (-2147483648) ≤ ivh7 a0 16 ∧ ivh7 a0 16 ≤ 2147483647 from W9.int t_a0 16) (show (-2147483648) ≤ ivh7 a0 15 ∧ ivh7 a0 15 ≤ 2147483647 from W9.int t_a0 15) (fun gk11f7 gk12f7 gk13f7 gk14f7 gk15f7 gk16f7 gf7 ri56 ri57 ri58 ri59 ri60 ri61 => ?_)
                exact c_iret C dX11_copyLines_78 rfl (by decide) (rom0 hph hph (by decide)) ⟨f7, rfl, rfl, rfl, rfl, rfl, F7, W9, ⟨by omega, by omega⟩, trivial, (gk11f7.trans hkp11), (gk12f7.trans hkp12), (gk13f7.trans hkp13), (gk14f7.trans hkp14), (gk16f7.trans hkp16), (CPP.stop hT hsA Wb1 tsA fl7 ⟨by omega, by omega⟩ (by omega) (by omega) (by omega) (Or.inr (Or.inl gaf3)))⟩
      refine hv12 (show (-2147483648) ≤ iv1 a0 15 ∧ iv1 a0 15 ≤ 2147483647 from W1.int t_a0 15) (show iv1 a0 15 = 0 from by rw [pq1]; exact up2_s) (show 1 ≤ iv1 a0 11 ∧ iv1 a0 11 ≤ 100 from W1.int t_a0 11) (show iv1 a0 11 = iv a0 11 from by rw [pq1]; exact up2_j (by decide)) (show 1 ≤ iv1 a0 12 ∧ iv1 a0 12 ≤ 50 from W1.int t_a0 12) (show iv1 a0 12 = iv a0 12 from by rw [pq1]; exact up2_j (by decide)) (show (-2147483648) ≤ iv1 a0 13 ∧ iv1 a0 13 ≤ 2147483647 from W1.int t_a0 13) (show iv1 a0 13 = iv a0 13 from by rw [pq1]; exact up2_j (by decide)) (show (-2147483648) ≤ iv1 a0 14 ∧ iv1 a0 14 ≤ 2147483647 from W1.int t_a0 14) (show iv1 a0 14 = iv a0 14 from by rw [pq1]; exact up2_j (by decide)) (show (-2147483648) ≤ iv1 a0 16 ∧ iv1 a0 16 ≤ 2147483647 from W1.int t_a0 16) (show iv1 a0 16 = iv a0 16 from by rw [pq1]; exact up2_j (by decide)) (fun ri62 ie72 ri63 ie73 ri64 ie74 ri65 ie75 ri66 ie76 ri67 ie77 => ?_)
      refine c_lv (lv2 := [(4, .int (iI 0)), (0, .ref a0), (1, .int (iI i)), (2, .int (iI j)), (3, .int (iI n))]) [0, 1, 2, 3, 4] rfl ?_
      exact Lp1 203 0 _ (by omega) W1 F1  (by omega) ie72 (CPP.zero hsA hW tsA t_a0 pq1 rfl) ie73 ie74 ie75 ie76 ie77
    · refine c_aload_n (j := 0) (x := a0) C dX11_copyLines_17 rfl ?_
      refine c_iconst C dX11_copyLines_18 ?_
      refine d_callV (As := [.int (iI 5)]) (rest := []) C hM (C_refuse (a0 := a0) (x := 5) hW hS t_a0 ⟨by decide, by decide⟩ ) dX11_copyLines_19 kV_X11_102 rfl t_a0 rfl rfl (by decide) ck_12 rfl (Nat.le_of_ble_eq_true rfl) ⟨(Nat.le_of_ble_eq_true rfl), (Nat.le_of_ble_eq_true rfl)⟩ hph hph (show 0 + 0 = 0 from rfl) (by decide) (fun rh8 Lh8 clh8 lnh8 ivh8 rvh8 h8 => ?_)
      obtain ⟨f8, rfl, rfl, rfl, rfl, rfl, fl8, W10, rgf8, exf8, kp11f8, kp12f8, kp13f8, kp14f8, kp15f8, kp16f8⟩ := h8
      refine hv6 (show 1 ≤ iv a0 11 ∧ iv a0 11 ≤ 100 from hW.int t_a0 11) (show 1 ≤ iv a0 12 ∧ iv a0 12 ≤ 50 from hW.int t_a0 12) (show (-2147483648) ≤ iv a0 13 ∧ iv a0 13 ≤ 2147483647 from hW.int t_a0 13) (show (-2147483648) ≤ iv a0 14 ∧ iv a0 14 ≤ 2147483647 from hW.int t_a0 14) (show (-2147483648) ≤ iv a0 16 ∧ iv a0 16 ≤ 2147483647 from hW.int t_a0 16) (hF0.call hX0 fl8 rfl) (fun ri68 ri69 ri70 ri71 ri72 F8 => ?_)
      refine c_st (st2 := [.int (iI f8)]) rfl ?_
      refine hv13 (show ivh8 a0 11 = iv a0 11 from kp11f8) (show ivh8 a0 12 = iv a0 12 from kp12f8) (show ivh8 a0 13 = iv a0 13 from kp13f8) (show ivh8 a0 14 = iv a0 14 from kp14f8) (show ivh8 a0 15 = iv a0 15 from kp15f8) (show ivh8 a0 16 = iv a0 16 from kp16f8) (show f8 = -1 from exf8) (show 1 ≤ ivh8 a0 11 ∧ ivh8 a0 11 ≤ 100 from W10.int t_a0 11) (show 1 ≤ ivh8 a0 12 ∧ ivh8 a0 12 ≤ 50 from W10.int t_a0 12) (show (-2147483648) ≤ ivh8 a0 13 ∧ ivh8 a0 13 ≤ 2147483647 from W10.int t_a0 13) (show (-2147483648) ≤ ivh8 a0 14 ∧ ivh8 a0 14 ≤ 2147483647 from W10.int t_a0 14) (show (-2147483648) ≤ ivh8 a0 16 ∧ ivh8 a0 16 ≤ 2147483647 from W10.int t_a0 16) (show (-2147483648) ≤ ivh8 a0 15 ∧ ivh8 a0 15 ≤ 2147483647 from W10.int t_a0 15) (fun gk11f8 gk12f8 gk13f8 gk14f8 gk15f8 gk16f8 gf8 ri73 ri74 ri75 ri76 ri77 ri78 => ?_)
      exact c_iret C dX11_copyLines_22 rfl (by decide) (rom0 hph hph (by decide)) ⟨f8, rfl, rfl, rfl, rfl, rfl, F8, W10, ⟨by omega, by omega⟩, trivial, gk11f8, gk12f8, gk13f8, gk14f8, gk16f8, (CPP.bad hsA hW tsA fl8 (by omega) (by omega) (by omega))⟩
  · refine c_aload_n (j := 0) (x := a0) C dX11_copyLines_6 rfl ?_
    refine c_bipush (z := 6) C dX11_copyLines_7 (by decide) ?_
    refine d_callV (As := [.int (iI 6)]) (rest := []) C hM (C_refuse (a0 := a0) (x := 6) hW hS t_a0 ⟨by decide, by decide⟩ ) dX11_copyLines_9 kV_X11_102 rfl t_a0 rfl rfl (by decide) ck_12 rfl (Nat.le_of_ble_eq_true rfl) ⟨(Nat.le_of_ble_eq_true rfl), (Nat.le_of_ble_eq_true rfl)⟩ hph hph (show 0 + 0 = 0 from rfl) (by decide) (fun rh9 Lh9 clh9 lnh9 ivh9 rvh9 h9 => ?_)
    obtain ⟨f9, rfl, rfl, rfl, rfl, rfl, fl9, W11, rgf9, exf9, kp11f9, kp12f9, kp13f9, kp14f9, kp15f9, kp16f9⟩ := h9
    refine hv6 (show 1 ≤ iv a0 11 ∧ iv a0 11 ≤ 100 from hW.int t_a0 11) (show 1 ≤ iv a0 12 ∧ iv a0 12 ≤ 50 from hW.int t_a0 12) (show (-2147483648) ≤ iv a0 13 ∧ iv a0 13 ≤ 2147483647 from hW.int t_a0 13) (show (-2147483648) ≤ iv a0 14 ∧ iv a0 14 ≤ 2147483647 from hW.int t_a0 14) (show (-2147483648) ≤ iv a0 16 ∧ iv a0 16 ≤ 2147483647 from hW.int t_a0 16) (hF0.call hX0 fl9 rfl) (fun ri79 ri80 ri81 ri82 ri83 F9 => ?_)
    refine c_st (st2 := [.int (iI f9)]) rfl ?_
    refine hv13 (show ivh9 a0 11 = iv a0 11 from kp11f9) (show ivh9 a0 12 = iv a0 12 from kp12f9) (show ivh9 a0 13 = iv a0 13 from kp13f9) (show ivh9 a0 14 = iv a0 14 from kp14f9) (show ivh9 a0 15 = iv a0 15 from kp15f9) (show ivh9 a0 16 = iv a0 16 from kp16f9) (show f9 = -1 from exf9) (show 1 ≤ ivh9 a0 11 ∧ ivh9 a0 11 ≤ 100 from W11.int t_a0 11) (show 1 ≤ ivh9 a0 12 ∧ ivh9 a0 12 ≤ 50 from W11.int t_a0 12) (show (-2147483648) ≤ ivh9 a0 13 ∧ ivh9 a0 13 ≤ 2147483647 from W11.int t_a0 13) (show (-2147483648) ≤ ivh9 a0 14 ∧ ivh9 a0 14 ≤ 2147483647 from W11.int t_a0 14) (show (-2147483648) ≤ ivh9 a0 16 ∧ ivh9 a0 16 ≤ 2147483647 from W11.int t_a0 16) (show (-2147483648) ≤ ivh9 a0 15 ∧ ivh9 a0 15 ≤ 2147483647 from W11.int t_a0 15) (fun gk11f9 gk12f9 gk13f9 gk14f9 gk15f9 gk16f9 gf9 ri84 ri85 ri86 ri87 ri88 ri89 => ?_)
    exact c_iret C dX11_copyLines_12 rfl (by decide) (rom0 hph hph (by decide)) ⟨f9, rfl, rfl, rfl, rfl, rfl, F9, W11, ⟨by omega, by omega⟩, trivial, gk11f9, gk12f9, gk13f9, gk14f9, gk16f9, (CPP.bad hsA hW tsA fl9 (by omega) (by omega) (by omega))⟩
set_option maxHeartbeats 4000000 in
set_option maxRecDepth 100000 in
theorem G_dots {l : Launch} {G : GT} {mi : Nat} {sk : Nat → Nat} {L : List Nat} {cl ln : Nat → Nat} {iv : Nat → Nat → Int} {rv : Nat → Nat → Option Nat}  {a0 : Nat} (hW : WT (g0 G) sk L cl ln iv rv) (hS : SKL sk L cl) (t_a0 : ty L cl a0 19)  : Mc l G mi (Phi (g0 G) sk) PHM yX2_dots cX2_dots 3 (some .int) 1 [.ref a0] L cl ln iv rv 0 (fun v L2 cl2 ln2 iv2 rv2 => ∃ f : Int, v = some (.int (iI f)) ∧ L = L2 ∧ cl = cl2 ∧ ln = ln2 ∧ iv = iv2 ∧ rv = rv2 ∧ (-2147483648 ≤ f ∧ f ≤ 2147483647) ∧ (DTX iv rv a0 f)) := by
  refine Mc.mk (by decide) (Nat.le_of_ble_eq_true rfl) ?_
  intro p e s m args below meth c A C hM
  refine hv4 (Phi.le hW hS) (show XT L cl ln L cl ln from XT.refl) (show fT [] L cl iv rv iv rv from fT.refl) (show 0 ≤ iv a0 1 ∧ iv a0 1 ≤ 200 from hW.int t_a0 1) (fun hph hX0 hF0 ri1 => ?_)
  refine c_iconst C dX2_dots_0 ?_
  refine c_istore_n (lv2 := [(1, .int (iI 0)), (0, .ref a0)]) C dX2_dots_1 (by decide) rfl ?_
  refine c_iconst C dX2_dots_2 ?_
  refine c_istore_n (lv2 := [(2, .int (iI 0)), (1, .int (iI 0)), (0, .ref a0)]) C dX2_dots_3 (by decide) rfl ?_
  have Lp1 : ∀ (nn : Nat) (s1 k : Int) , 201 - k < (nn : Int) → (-2147483648 ≤ s1 ∧ s1 ≤ 2147483647) → (0 ≤ k ∧ k ≤ iv a0 1) → (DTK iv rv a0 k s1) → cw p l e 1 ((PHM) + 0 - ((Phi (g0 G) sk) ln rv)) s m args below meth c G A 3 (MQ below (Qu G A (Qp G (Phi (g0 G) sk) ((Phi (g0 G) sk) ln rv) 0 (fun v L2 cl2 ln2 iv2 rv2 => ∃ f : Int, v = some (.int (iI f)) ∧ L = L2 ∧ cl = cl2 ∧ ln = ln2 ∧ iv = iv2 ∧ rv = rv2 ∧ (-2147483648 ≤ f ∧ f ≤ 2147483647) ∧ (DTX iv rv a0 f)))) args s (((PHM) + 0 - ((Phi (g0 G) sk) ln rv)) / 16) ((PHM) + 0 - ((Phi (g0 G) sk) ln rv)) A) (Phi (g0 G) sk) ((Phi (g0 G) sk) ln rv) L cl ln iv rv 0 4 [(2, .int (iI k)), (1, .int (iI s1)), (0, .ref a0)] [] := by
    intro nn
    induction nn with
    | zero =>
      intro  s1 k  hm   hs hk hD
      exact absurd hm (by omega)
    | succ nn ih1 =>
      intro  s1 k  hm   hs hk hD
      refine c_iload_n (j := 0) C dX2_dots_4 rfl ?_
      refine c_aload_n (j := 2) (x := a0) C dX2_dots_5 rfl ?_
      refine c_get (k := 1) C ck_3 dX2_dots_6 w4_49 (by decide) t_a0 rfl rfl (by decide) rfl ?_
      refine c_icmp_ge (tgt := 30) C ⟨by omega, by omega⟩ (r32_c (lo := 0) (hi := 200) ri1.1 ri1.2 (by decide) (by decide)) dX2_dots_9 (by decide) (fun c1 => ?_) (fun c1 => ?_)
      · refine c_iload_n (j := 1) C dX2_dots_30 rfl ?_
        exact c_iret C dX2_dots_31 rfl (by decide) (rom0 hph hph (by decide)) ⟨s1, rfl, rfl, rfl, rfl, rfl, rfl, ⟨by omega, by omega⟩, (DTX.fin hD (by omega))⟩
      · refine c_iload_n (j := 1) C dX2_dots_12 rfl ?_
        refine c_aload_n (j := 2) (x := a0) C dX2_dots_13 rfl ?_
        obtain ⟨rb1, rq1, trb1⟩ := hW.ref t_a0 0 rfl rfl rfl
        have lnrb1 : 200 ≤ ln rb1 ∧ ln rb1 ≤ 200 := hW.len trb1 rfl
        refine c_getr (k := 0) C ck_3 dX2_dots_14 w4_44 (by decide) t_a0 rfl rfl (by decide) rfl rq1 ?_
        refine c_st (st2 := [.ref rb1, .int (iI s1)]) rfl ?_
        refine c_iload_n (j := 0) C dX2_dots_17 rfl ?_
        have ll1 : 200 ≤ ln rb1 ∧ ln rb1 ≤ 200 := hW.len trb1 rfl
        refine c_iald C dX2_dots_18 trb1 rfl (by omega) (by omega) (by omega) ?_
        have ri2 : (-2147483648) ≤ iv rb1 k.toNat ∧ iv rb1 k.toNat ≤ 2147483647 := hW.int trb1 k.toNat
        refine c_callS0 (As := [.int (iI (iv rb1 k.toNat))]) (rest := [.int (iI s1)]) C (fun L E => s_bitCount (iI (iv rb1 k.toNat))) dX2_dots_19 kS_X2_42 rfl rfl (Nat.le_of_ble_eq_true rfl) ⟨(Nat.le_of_ble_eq_true rfl), (Nat.le_of_ble_eq_true rfl)⟩ (rom0 hph hph (by decide)) ?_
        obtain ⟨zz1, hzz1, ezz1⟩ := iI_of (bcn (iI (iv rb1 k.toNat)))
        refine c_st (st2 := [.int (iI zz1), .int (iI s1)]) (by rw [ezz1]) ?_
        refine c_iadd C dX2_dots_22 ?_
        obtain ⟨zz2, hzz2, ezz2⟩ := iI_of (iI (s1 + zz1))
        refine c_st (st2 := [.int (iI zz2)]) (by rw [ezz2]) ?_
        refine c_istore_n (lv2 := [(1, .int (iI zz2)), (2, .int (iI k)), (0, .ref a0)]) C dX2_dots_23 (by decide) rfl ?_
        refine c_iinc (z := k) (j := 1) (lv2 := [(2, .int (iI (k + 1))), (1, .int (iI zz2)), (0, .ref a0)]) C dX2_dots_24 rfl (by decide) rfl ?_
        refine c_goto (tgt := 4) C dX2_dots_27 (by decide) ?_
        refine c_lv (lv2 := [(2, .int (iI (k + 1))), (1, .int (iI zz2)), (0, .ref a0)]) [0, 1, 2] rfl ?_
        exact ih1  zz2 (k + 1)  (by omega)   (by omega) (by omega) (hD.step rq1 (by omega) ezz1 ezz2)
  refine c_lv (lv2 := [(2, .int (iI 0)), (1, .int (iI 0)), (0, .ref a0)]) [0, 1, 2] rfl ?_
  exact Lp1 203 0 0  (by omega)   (by omega) (by omega) (DTK.zero rfl rfl)
set_option maxHeartbeats 4000000 in
set_option maxRecDepth 100000 in
theorem G_emboss {l : Launch} {G : GT} {mi : Nat} {sk : Nat → Nat} {L : List Nat} {cl ln : Nat → Nat} {iv : Nat → Nat → Int} {rv : Nat → Nat → Option Nat}  {a0 : Nat} {i : Int} {n : Int} (hW : WT (g0 G) sk L cl ln iv rv) (hS : SKL sk L cl) (t_a0 : ty L cl a0 1) (h_i : -2147483648 ≤ i ∧ i ≤ 2147483647) (h_n : -2147483648 ≤ n ∧ n ≤ 2147483647)  : Mc l G mi (Phi (g0 G) sk) PHM yX11_emboss cX11_emboss 6 (some .int) 2 [.ref a0, .int (iI i), .int (iI n)] L cl ln iv rv 0 (fun v L2 cl2 ln2 iv2 rv2 => ∃ f : Int, v = some (.int (iI f)) ∧ L = L2 ∧ cl = cl2 ∧ ln = ln2 ∧ rv = rv2 ∧ fT [1] L cl iv rv iv2 rv2 ∧ WT (g0 G) sk L2 cl2 ln2 iv2 rv2 ∧ (-2147483648 ≤ f ∧ f ≤ 2147483647) ∧ (True) ∧ iv2 a0 11 = iv a0 11 ∧ iv2 a0 12 = iv a0 12 ∧ iv2 a0 13 = iv a0 13 ∧ iv2 a0 14 = iv a0 14 ∧ iv2 a0 15 = iv a0 15 ∧ (EPX iv rv iv2 a0 i n (iv a0 11) f)) := by
  refine Mc.mk (by decide) (Nat.le_of_ble_eq_true rfl) ?_
  intro p e s m args below meth c A C hM
  refine hv3 (Phi.le hW hS) (show XT L cl ln L cl ln from XT.refl) (show fT [1] L cl iv rv iv rv from fT.refl) (fun hph hX0 hF0 => ?_)
  obtain ⟨sA, hsA, tsA⟩ := hW.ref t_a0 9 rfl rfl rfl
  refine hv3 (show 0 ≤ iv sA 1 ∧ iv sA 1 ≤ 200 from hW.int tsA 1) (show (-2147483648) ≤ iv a0 16 ∧ iv a0 16 ≤ 2147483647 from hW.int t_a0 16) (show 1 ≤ iv a0 11 ∧ iv a0 11 ≤ 100 from hW.int t_a0 11) (fun ri1 ri2 ri3 => ?_)
  refine c_iload_n (j := 2) C dX11_emboss_0 rfl ?_
  refine c_sipush (z := 200) C dX11_emboss_1 (by decide) ?_
  refine c_icmp_le (tgt := 14) C ⟨by omega, by omega⟩ ⟨by decide, by decide⟩ dX11_emboss_4 (by decide) (fun c1 => ?_) (fun c1 => ?_)
  · refine c_iload_n (j := 2) C dX11_emboss_14 rfl ?_
    refine c_if_ge (tgt := 24) C ⟨by omega, by omega⟩ dX11_emboss_15 (by decide) (fun c2 => ?_) (fun c2 => ?_)
    · refine c_iconst C dX11_emboss_24 ?_
      refine c_istore_n (lv2 := [(3, .int (iI 0)), (0, .ref a0), (1, .int (iI i)), (2, .int (iI n))]) C dX11_emboss_25 (by decide) rfl ?_
      refine c_iconst C dX11_emboss_26 ?_
      refine c_istore (lv2 := [(4, .int (iI 0)), (3, .int (iI 0)), (0, .ref a0), (1, .int (iI i)), (2, .int (iI n))]) C dX11_emboss_27 (by decide) rfl ?_
      have Lp1 : ∀ (nn : Nat) (s1 k : Int) (ivb1 : Nat → Nat → Int) , 201 - k < (nn : Int) → WT (g0 G) sk L cl ln ivb1 rv → fT [1] L cl iv rv ivb1 rv → (-2147483648 ≤ s1 ∧ s1 ≤ 2147483647) → (0 ≤ k ∧ k ≤ n ∧ n ≤ 200) → (iI (ivb1 a0 16) = iI (iv a0 16) + iI k) → (EP1 iv rv a0 i (iv a0 11) k s1) → (ivb1 a0 11 = iv a0 11) → (ivb1 a0 12 = iv a0 12) → (ivb1 a0 13 = iv a0 13) → (ivb1 a0 14 = iv a0 14) → (ivb1 a0 15 = iv a0 15) → cw p l e 2 ((PHM) + 0 - ((Phi (g0 G) sk) ln rv)) s m args below meth c G A 6 (MQ below (Qu G A (Qp G (Phi (g0 G) sk) ((Phi (g0 G) sk) ln rv) 0 (fun v L2 cl2 ln2 iv2 rv2 => ∃ f : Int, v = some (.int (iI f)) ∧ L = L2 ∧ cl = cl2 ∧ ln = ln2 ∧ rv = rv2 ∧ fT [1] L cl iv rv iv2 rv2 ∧ WT (g0 G) sk L2 cl2 ln2 iv2 rv2 ∧ (-2147483648 ≤ f ∧ f ≤ 2147483647) ∧ (True) ∧ iv2 a0 11 = iv a0 11 ∧ iv2 a0 12 = iv a0 12 ∧ iv2 a0 13 = iv a0 13 ∧ iv2 a0 14 = iv a0 14 ∧ iv2 a0 15 = iv a0 15 ∧ (EPX iv rv iv2 a0 i n (iv a0 11) f)))) args s (((PHM) + 0 - ((Phi (g0 G) sk) ln rv)) / 16) ((PHM) + 0 - ((Phi (g0 G) sk) ln rv)) A) (Phi (g0 G) sk) ((Phi (g0 G) sk) ln rv) L cl ln ivb1 rv 0 29 [(3, .int (iI s1)), (4, .int (iI k)), (0, .ref a0), (1, .int (iI i)), (2, .int (iI n))] [] := by
        intro nn
        induction nn with
        | zero =>
          intro  s1 k ivb1 hm Wb1 Fb1  hs hk h16 hE hkp11 hkp12 hkp13 hkp14 hkp15
          exact absurd hm (by omega)
        | succ nn ih1 =>
          intro  s1 k ivb1 hm Wb1 Fb1  hs hk h16 hE hkp11 hkp12 hkp13 hkp14 hkp15
          refine hv2 (show (-2147483648) ≤ ivb1 a0 16 ∧ ivb1 a0 16 ≤ 2147483647 from Wb1.int t_a0 16) (show 1 ≤ ivb1 a0 11 ∧ ivb1 a0 11 ≤ 100 from Wb1.int t_a0 11) (fun ri4 ri5 => ?_)
          refine c_iload (j := 1) C dX11_emboss_29 rfl ?_
          refine c_iload_n (j := 4) C dX11_emboss_31 rfl ?_
          refine c_icmp_ge (tgt := 121) C ⟨by omega, by omega⟩ ⟨by omega, by omega⟩ dX11_emboss_32 (by decide) (fun c3 => ?_) (fun c3 => ?_)
          · refine c_aload_n (j := 2) (x := a0) C dX11_emboss_121 rfl ?_
            refine c_iload_n (j := 0) C dX11_emboss_122 rfl ?_
            refine d_callV (As := [.int (iI s1)]) (rest := []) C hM (C_done (a0 := a0) (x := s1) Wb1 hS t_a0 (by omega) ) dX11_emboss_123 kV_X11_109 rfl t_a0 rfl rfl (by decide) ck_12 rfl (Nat.le_of_ble_eq_true rfl) ⟨(Nat.le_of_ble_eq_true rfl), (Nat.le_of_ble_eq_true rfl)⟩ hph hph (show 0 + 0 = 0 from rfl) (by decide) (fun rh1 Lh1 clh1 lnh1 ivh1 rvh1 h1 => ?_)
            obtain ⟨f1, rfl, rfl, rfl, rfl, rfl, fl1, W1, rgf1, exf1, kp11f1, kp12f1, kp13f1, kp14f1, kp15f1, kp16f1⟩ := h1
            refine hv5 (show 1 ≤ ivb1 a0 12 ∧ ivb1 a0 12 ≤ 50 from Wb1.int t_a0 12) (show (-2147483648) ≤ ivb1 a0 13 ∧ ivb1 a0 13 ≤ 2147483647 from Wb1.int t_a0 13) (show (-2147483648) ≤ ivb1 a0 14 ∧ ivb1 a0 14 ≤ 2147483647 from Wb1.int t_a0 14) (show (-2147483648) ≤ ivb1 a0 15 ∧ ivb1 a0 15 ≤ 2147483647 from Wb1.int t_a0 15) (Fb1.call hX0 fl1 rfl) (fun ri6 ri7 ri8 ri9 F1 => ?_)
            refine c_st (st2 := [.int (iI f1)]) rfl ?_
            refine hv13 (show ivh1 a0 11 = ivb1 a0 11 from kp11f1) (show ivh1 a0 12 = ivb1 a0 12 from kp12f1) (show ivh1 a0 13 = ivb1 a0 13 from kp13f1) (show ivh1 a0 14 = ivb1 a0 14 from kp14f1) (show ivh1 a0 15 = ivb1 a0 15 from kp15f1) (show ivh1 a0 16 = ivb1 a0 16 from kp16f1) (show f1 = s1 from exf1) (show 1 ≤ ivh1 a0 11 ∧ ivh1 a0 11 ≤ 100 from W1.int t_a0 11) (show 1 ≤ ivh1 a0 12 ∧ ivh1 a0 12 ≤ 50 from W1.int t_a0 12) (show (-2147483648) ≤ ivh1 a0 13 ∧ ivh1 a0 13 ≤ 2147483647 from W1.int t_a0 13) (show (-2147483648) ≤ ivh1 a0 14 ∧ ivh1 a0 14 ≤ 2147483647 from W1.int t_a0 14) (show (-2147483648) ≤ ivh1 a0 15 ∧ ivh1 a0 15 ≤ 2147483647 from W1.int t_a0 15) (show (-2147483648) ≤ ivh1 a0 16 ∧ ivh1 a0 16 ≤ 2147483647 from W1.int t_a0 16) (fun gk11f1 gk12f1 gk13f1 gk14f1 gk15f1 gk16f1 gf1 ri10 ri11 ri12 ri13 ri14 ri15 => ?_)
            exact c_iret C dX11_emboss_126 rfl (by decide) (rom0 hph hph (by decide)) ⟨f1, rfl, rfl, rfl, rfl, rfl, F1, W1, ⟨by omega, by omega⟩, trivial, (gk11f1.trans hkp11), (gk12f1.trans hkp12), (gk13f1.trans hkp13), (gk14f1.trans hkp14), (gk15f1.trans hkp15), (EPX.ok hE (by omega) ⟨by omega, by omega⟩ (by omega) (by rw [show ivh1 a0 16 = ivb1 a0 16 by omega]; exact h16))⟩
          · refine c_aload_n (j := 2) (x := a0) C dX11_emboss_35 rfl ?_
            refine c_dup C dX11_emboss_36 rfl ?_
            refine c_get (k := 16) C ck_12 dX11_emboss_37 w2_60 (by decide) t_a0 rfl rfl (by decide) rfl ?_
            refine c_iconst C dX11_emboss_40 ?_
            refine c_iadd C dX11_emboss_41 ?_
            obtain ⟨zz1, hzz1, ezz1⟩ := iI_of (iI ((ivb1 a0 16) + 1))
            refine c_st (st2 := [.int (iI zz1), .ref a0]) (by rw [ezz1]) ?_
            refine c_put (z := zz1) (k := 16) C ck_12 dX11_emboss_42 w2_60 (by decide) rfl t_a0 rfl rfl (by decide) rfl (by rfl) (by rfl) (fun iv1 pq1 => ?_)
            refine hv2 (Wb1.puti pq1 t_a0 (show (-2147483648) ≤ zz1 ∧ zz1 ≤ 2147483647 by omega) rfl) (Fb1.puti hX0 pq1 t_a0 rfl) (fun W2 F2 => ?_)
            refine c_aload_n (j := 2) (x := a0) C dX11_emboss_45 rfl ?_
            refine c_getr (k := 9) C ck_12 dX11_emboss_46 w2_53 (by decide) t_a0 rfl rfl (by decide) rfl hsA ?_
            refine c_st (st2 := [.ref sA]) rfl ?_
            refine c_iload_n (j := 3) C dX11_emboss_49 rfl ?_
            refine c_iload (j := 1) C dX11_emboss_50 rfl ?_
            refine c_iadd C dX11_emboss_52 ?_
            obtain ⟨zz2, hzz2, ezz2⟩ := iI_of (iI (i + k))
            refine c_st (st2 := [.int (iI zz2), .ref sA]) (by rw [ezz2]) ?_
            refine hv3 (show 0 ≤ iv1 sA 1 ∧ iv1 sA 1 ≤ 200 from W2.int tsA 1) (show iv1 sA 1 = ivb1 sA 1 from by rw [pq1]; exact up2_k (ne_ty tsA t_a0 (by decide))) (show ivb1 sA 1 = iv sA 1 from Fb1.i tsA rfl 1) (fun ri16 ie13 ie14 => ?_)
            refine d_callV (As := [.int (iI zz2)]) (rest := []) C hM (G_sat (a0 := sA) (i := zz2) W2 hS tsA (by omega) ) dX11_emboss_53 kV_X11_308 rfl tsA rfl rfl (by decide) ck_8 rfl (Nat.le_of_ble_eq_true rfl) ⟨(Nat.le_of_ble_eq_true rfl), (Nat.le_of_ble_eq_true rfl)⟩ hph hph (show 0 + 0 = 0 from rfl) (by decide) (fun rh2 Lh2 clh2 lnh2 ivh2 rvh2 h2 => ?_)
            obtain ⟨f2, rfl, rfl, rfl, rfl, rfl, rfl, rgf2, exf2⟩ := h2
            refine c_st (st2 := [(va_rf f2)]) rfl ?_
            have gf2 : SATX iv1 rv sA zz2 f2 := exf2
            have gaf2 := SATX.up (iv := iv) (SATX.wr gf2 (wr_add (x := i + k) hzz2 ⟨by omega, by omega⟩ ezz2) (by omega)) (by omega)
            refine c_astorer (r := f2) (lv2 := [(5, (va_rf f2)), (3, .int (iI s1)), (4, .int (iI k)), (0, .ref a0), (1, .int (iI i)), (2, .int (iI n))]) C dX11_emboss_56 (by decide) rfl ?_
            refine c_aloadr (j := 0) (r := f2) C dX11_emboss_58 rfl ?_
            refine c_ifnonnull (r := f2) (tgt := 69) C dX11_emboss_60 (by decide) (fun ob1 oq1 => ?_) (fun oq1 => ?_)
            · subst oq1
              have tob1 := rgf2 ob1 rfl
              refine c_lv (lv2 := [(5, .ref ob1), (3, .int (iI s1)), (4, .int (iI k)), (0, .ref a0), (1, .int (iI i)), (2, .int (iI n))]) [0, 1, 2, 3, 4, 5] rfl ?_
              refine c_st (st2 := []) rfl ?_
              refine hv8 (show 0 ≤ iv1 ob1 1 ∧ iv1 ob1 1 ≤ 200 from W2.int tob1 1) (show iv1 ob1 1 = ivb1 ob1 1 from by rw [pq1]; exact up2_k (ne_ty tob1 t_a0 (by decide))) (show ivb1 ob1 1 = iv ob1 1 from Fb1.i tob1 rfl 1) (show 0 ≤ iv1 ob1 2 ∧ iv1 ob1 2 ≤ 1 from W2.int tob1 2) (show iv1 ob1 2 = ivb1 ob1 2 from by rw [pq1]; exact up2_k (ne_ty tob1 t_a0 (by decide))) (show ivb1 ob1 2 = iv ob1 2 from Fb1.i tob1 rfl 2) (show 1 ≤ iv1 a0 11 ∧ iv1 a0 11 ≤ 100 from W2.int t_a0 11) (show iv1 a0 11 = ivb1 a0 11 from by rw [pq1]; exact up2_j (by decide)) (fun ri17 ie15 ie16 ri18 ie17 ie18 ri19 ie19 => ?_)
              refine c_aload (j := 0) (x := ob1) C dX11_emboss_69 rfl ?_
              refine c_get (k := 2) C ck_3 dX11_emboss_71 w4_56 (by decide) tob1 rfl rfl (by decide) rfl ?_
              refine c_if_ne (tgt := 95) C (r32_c (lo := 0) (hi := 1) ri18.1 ri18.2 (by decide) (by decide)) dX11_emboss_74 (by decide) (fun c4 => ?_) (fun c4 => ?_)
              · refine c_iload_n (j := 1) C dX11_emboss_95 rfl ?_
                refine c_aload (j := 0) (x := ob1) C dX11_emboss_96 rfl ?_
                refine c_get (k := 2) C ck_3 dX11_emboss_98 w4_56 (by decide) tob1 rfl rfl (by decide) rfl ?_
                refine c_if_eq (tgt := 108) C (r32_c (lo := 0) (hi := 1) ri18.1 ri18.2 (by decide) (by decide)) dX11_emboss_101 (by decide) (fun z => absurd z (by omega)) (fun _ => ?_)
                refine c_iconst C dX11_emboss_104 ?_
                refine c_goto (tgt := 113) C dX11_emboss_105 (by decide) ?_
                refine c_iadd C dX11_emboss_113 ?_
                obtain ⟨zz3, hzz3, ezz3⟩ := iI_of (iI (s1 + 0))
                refine c_st (st2 := [.int (iI zz3)]) (by rw [ezz3]) ?_
                refine c_istore_n (lv2 := [(3, .int (iI zz3)), (5, .ref ob1), (4, .int (iI k)), (0, .ref a0), (1, .int (iI i)), (2, .int (iI n))]) C dX11_emboss_114 (by decide) rfl ?_
                refine c_iinc (z := k) (j := 2) (lv2 := [(4, .int (iI (k + 1))), (3, .int (iI zz3)), (5, .ref ob1), (0, .ref a0), (1, .int (iI i)), (2, .int (iI n))]) C dX11_emboss_115 rfl (by decide) rfl ?_
                refine c_goto (tgt := 29) C dX11_emboss_118 (by decide) ?_
                refine hv10 (show (-2147483648) ≤ iv1 a0 16 ∧ iv1 a0 16 ≤ 2147483647 from W2.int t_a0 16) (show iv1 a0 16 = zz1 from by rw [pq1]; exact up2_s) (show 1 ≤ iv1 a0 12 ∧ iv1 a0 12 ≤ 50 from W2.int t_a0 12) (show iv1 a0 12 = ivb1 a0 12 from by rw [pq1]; exact up2_j (by decide)) (show (-2147483648) ≤ iv1 a0 13 ∧ iv1 a0 13 ≤ 2147483647 from W2.int t_a0 13) (show iv1 a0 13 = ivb1 a0 13 from by rw [pq1]; exact up2_j (by decide)) (show (-2147483648) ≤ iv1 a0 14 ∧ iv1 a0 14 ≤ 2147483647 from W2.int t_a0 14) (show iv1 a0 14 = ivb1 a0 14 from by rw [pq1]; exact up2_j (by decide)) (show (-2147483648) ≤ iv1 a0 15 ∧ iv1 a0 15 ≤ 2147483647 from W2.int t_a0 15) (show iv1 a0 15 = ivb1 a0 15 from by rw [pq1]; exact up2_j (by decide)) (fun ri20 ie20 ri21 ie21 ri22 ie23 ri23 ie25 ri24 ie27 => ?_)
                refine c_lv (lv2 := [(3, .int (iI zz3)), (4, .int (iI (k + 1))), (0, .ref a0), (1, .int (iI i)), (2, .int (iI n))]) [1, 0, 3, 4, 5] rfl ?_
                exact ih1  zz3 (k + 1) _ (by omega) W2 F2  (by omega) (by omega) (cnt_s h16 ezz1 (by omega)) (EP1.lck hE hsA gaf2 (by omega) (by omega) (by rw [← ezz3, Int.add_zero])) (ie19.trans hkp11) (ie21.trans hkp12) (ie23.trans hkp13) (ie25.trans hkp14) (ie27.trans hkp15)
              · refine c_aload (j := 0) (x := ob1) C dX11_emboss_77 rfl ?_
                refine c_get (k := 1) C ck_3 dX11_emboss_79 w4_53 (by decide) tob1 rfl rfl (by decide) rfl ?_
                refine c_aload_n (j := 3) (x := a0) C dX11_emboss_82 rfl ?_
                refine c_get (k := 11) C ck_12 dX11_emboss_83 w2_55 (by decide) t_a0 rfl rfl (by decide) rfl ?_
                refine c_icmp_le (tgt := 95) C (r32_c (lo := 0) (hi := 200) ri17.1 ri17.2 (by decide) (by decide)) (r32_c (lo := 1) (hi := 100) ri19.1 ri19.2 (by decide) (by decide)) dX11_emboss_86 (by decide) (fun c5 => ?_) (fun c5 => ?_)
                · refine c_iload_n (j := 1) C dX11_emboss_95 rfl ?_
                  refine c_aload (j := 0) (x := ob1) C dX11_emboss_96 rfl ?_
                  refine c_get (k := 2) C ck_3 dX11_emboss_98 w4_56 (by decide) tob1 rfl rfl (by decide) rfl ?_
                  refine c_if_eq (tgt := 108) C (r32_c (lo := 0) (hi := 1) ri18.1 ri18.2 (by decide) (by decide)) dX11_emboss_101 (by decide) (fun _ => ?_) (fun z => absurd z (by omega))
                  refine c_aload (j := 0) (x := ob1) C dX11_emboss_108 rfl ?_
                  refine d_callV (As := []) (rest := [.int (iI s1)]) C hM (G_dots (a0 := ob1) W2 hS tob1  ) dX11_emboss_110 kV_X11_326 rfl tob1 rfl rfl (by decide) ck_3 rfl (Nat.le_of_ble_eq_true rfl) ⟨(Nat.le_of_ble_eq_true rfl), (Nat.le_of_ble_eq_true rfl)⟩ hph hph (show 0 + 0 = 0 from rfl) (by decide) (fun rh3 Lh3 clh3 lnh3 ivh3 rvh3 h3 => ?_)
                  obtain ⟨f3, rfl, rfl, rfl, rfl, rfl, rfl, rgf3, exf3⟩ := h3
                  refine c_st (st2 := [.int (iI f3), .int (iI s1)]) rfl ?_
                  have gf3 : DTX iv1 rv ob1 f3 := exf3
                  refine c_iadd C dX11_emboss_113 ?_
                  obtain ⟨zz4, hzz4, ezz4⟩ := iI_of (iI (s1 + f3))
                  refine c_st (st2 := [.int (iI zz4)]) (by rw [ezz4]) ?_
                  refine c_istore_n (lv2 := [(3, .int (iI zz4)), (5, .ref ob1), (4, .int (iI k)), (0, .ref a0), (1, .int (iI i)), (2, .int (iI n))]) C dX11_emboss_114 (by decide) rfl ?_
                  refine c_iinc (z := k) (j := 2) (lv2 := [(4, .int (iI (k + 1))), (3, .int (iI zz4)), (5, .ref ob1), (0, .ref a0), (1, .int (iI i)), (2, .int (iI n))]) C dX11_emboss_115 rfl (by decide) rfl ?_
                  refine c_goto (tgt := 29) C dX11_emboss_118 (by decide) ?_
                  refine hv10 (show (-2147483648) ≤ iv1 a0 16 ∧ iv1 a0 16 ≤ 2147483647 from W2.int t_a0 16) (show iv1 a0 16 = zz1 from by rw [pq1]; exact up2_s) (show 1 ≤ iv1 a0 12 ∧ iv1 a0 12 ≤ 50 from W2.int t_a0 12) (show iv1 a0 12 = ivb1 a0 12 from by rw [pq1]; exact up2_j (by decide)) (show (-2147483648) ≤ iv1 a0 13 ∧ iv1 a0 13 ≤ 2147483647 from W2.int t_a0 13) (show iv1 a0 13 = ivb1 a0 13 from by rw [pq1]; exact up2_j (by decide)) (show (-2147483648) ≤ iv1 a0 14 ∧ iv1 a0 14 ≤ 2147483647 from W2.int t_a0 14) (show iv1 a0 14 = ivb1 a0 14 from by rw [pq1]; exact up2_j (by decide)) (show (-2147483648) ≤ iv1 a0 15 ∧ iv1 a0 15 ≤ 2147483647 from W2.int t_a0 15) (show iv1 a0 15 = ivb1 a0 15 from by rw [pq1]; exact up2_j (by decide)) (fun ri25 ie29 ri26 ie30 ri27 ie32 ri28 ie34 ri29 ie36 => ?_)
                  refine c_lv (lv2 := [(3, .int (iI zz4)), (4, .int (iI (k + 1))), (0, .ref a0), (1, .int (iI i)), (2, .int (iI n))]) [1, 0, 3, 4, 5] rfl ?_
                  exact ih1  zz4 (k + 1) _ (by omega) W2 F2  (by omega) (by omega) (cnt_s h16 ezz1 (by omega)) (EP1.dts hE hsA gaf2 (by omega) (by omega) (by omega) (fun xs hx => gf3 xs (LNE.fr hx (funext fun j => F2.i tob1 rfl j) rfl (fun cb hc => funext fun j => F2.i (li64 hW tob1 hc) rfl j))) ezz4) (ie19.trans hkp11) (ie30.trans hkp12) (ie32.trans hkp13) (ie34.trans hkp14) (ie36.trans hkp15)
                · refine c_aload_n (j := 3) (x := a0) C dX11_emboss_89 rfl ?_
                  refine c_iload_n (j := 1) C dX11_emboss_90 rfl ?_
                  refine d_callV (As := [.int (iI s1)]) (rest := []) C hM (C_done (a0 := a0) (x := s1) W2 hS t_a0 (by omega) ) dX11_emboss_91 kV_X11_109 rfl t_a0 rfl rfl (by decide) ck_12 rfl (Nat.le_of_ble_eq_true rfl) ⟨(Nat.le_of_ble_eq_true rfl), (Nat.le_of_ble_eq_true rfl)⟩ hph hph (show 0 + 0 = 0 from rfl) (by decide) (fun rh4 Lh4 clh4 lnh4 ivh4 rvh4 h4 => ?_)
                  obtain ⟨f4, rfl, rfl, rfl, rfl, rfl, fl4, W5, rgf4, exf4, kp11f4, kp12f4, kp13f4, kp14f4, kp15f4, kp16f4⟩ := h4
                  refine hv11 (show 1 ≤ iv1 a0 12 ∧ iv1 a0 12 ≤ 50 from W2.int t_a0 12) (show iv1 a0 12 = ivb1 a0 12 from by rw [pq1]; exact up2_j (by decide)) (show (-2147483648) ≤ iv1 a0 13 ∧ iv1 a0 13 ≤ 2147483647 from W2.int t_a0 13) (show iv1 a0 13 = ivb1 a0 13 from by rw [pq1]; exact up2_j (by decide)) (show (-2147483648) ≤ iv1 a0 14 ∧ iv1 a0 14 ≤ 2147483647 from W2.int t_a0 14) (show iv1 a0 14 = ivb1 a0 14 from by rw [pq1]; exact up2_j (by decide)) (show (-2147483648) ≤ iv1 a0 15 ∧ iv1 a0 15 ≤ 2147483647 from W2.int t_a0 15) (show iv1 a0 15 = ivb1 a0 15 from by rw [pq1]; exact up2_j (by decide)) (show (-2147483648) ≤ iv1 a0 16 ∧ iv1 a0 16 ≤ 2147483647 from W2.int t_a0 16) (show iv1 a0 16 = zz1 from by rw [pq1]; exact up2_s) (F2.call hX0 fl4 rfl) (fun ri30 ie38 ri31 ie40 ri32 ie42 ri33 ie44 ri34 ie46 F3 => ?_)
                  refine c_st (st2 := [.int (iI f4)]) rfl ?_
                  refine hv17 (show ivh4 a0 11 = iv1 a0 11 from kp11f4) (show ivh4 a0 12 = iv1 a0 12 from kp12f4) (show ivh4 a0 13 = iv1 a0 13 from kp13f4) (show ivh4 a0 14 = iv1 a0 14 from kp14f4) (show ivh4 a0 15 = iv1 a0 15 from kp15f4) (show ivh4 a0 16 = iv1 a0 16 from kp16f4) (show f4 = s1 from exf4) (show 1 ≤ ivh4 a0 11 ∧ ivh4 a0 11 ≤ 100 from W5.int t_a0 11) (show 1 ≤ ivh4 a0 12 ∧ ivh4 a0 12 ≤ 50 from W5.int t_a0 12) (show (-2147483648) ≤ ivh4 a0 13 ∧ ivh4 a0 13 ≤ 2147483647 from W5.int t_a0 13) (show (-2147483648) ≤ ivh4 a0 14 ∧ ivh4 a0 14 ≤ 2147483647 from W5.int t_a0 14) (show (-2147483648) ≤ ivh4 a0 15 ∧ ivh4 a0 15 ≤ 2147483647 from W5.int t_a0 15) (show (-2147483648) ≤ ivh4 a0 16 ∧ ivh4 a0 16 ≤ 2147483647 from W5.int t_a0 16) (show 0 ≤ ivh4 ob1 1 ∧ ivh4 ob1 1 ≤ 200 from W5.int tob1 1) (show ivh4 ob1 1 = iv1 ob1 1 from fl4.i tob1 rfl 1) (show 0 ≤ ivh4 ob1 2 ∧ ivh4 ob1 2 ≤ 1 from W5.int tob1 2) (show ivh4 ob1 2 = iv1 ob1 2 from fl4.i tob1 rfl 2) (fun gk11f4 gk12f4 gk13f4 gk14f4 gk15f4 gk16f4 gf4 ri35 ri36 ri37 ri38 ri39 ri40 ri41 ie53 ri42 ie54 => ?_)
                  exact c_iret C dX11_emboss_94 rfl (by decide) (rom0 hph hph (by decide)) ⟨f4, rfl, rfl, rfl, rfl, rfl, F3, W5, ⟨by omega, by omega⟩, trivial, (gk11f4.trans (ie19.trans hkp11)), (gk12f4.trans (ie38.trans hkp12)), (gk13f4.trans (ie40.trans hkp13)), (gk14f4.trans (ie42.trans hkp14)), (gk15f4.trans (ie44.trans hkp15)), (EPX.big hE hsA ⟨by omega, by omega⟩ (by omega) (cnt_s h16 ezz1 (by omega)) gaf2 (by omega) (by omega) (by omega))⟩
            · subst oq1
              refine c_lv (lv2 := [(5, .null), (3, .int (iI s1)), (4, .int (iI k)), (0, .ref a0), (1, .int (iI i)), (2, .int (iI n))]) [0, 1, 2, 3, 4, 5] rfl ?_
              refine c_st (st2 := []) rfl ?_
              refine c_aload_n (j := 3) (x := a0) C dX11_emboss_63 rfl ?_
              refine c_iconst C dX11_emboss_64 ?_
              refine d_callV (As := [.int (iI 2)]) (rest := []) C hM (C_refuse (a0 := a0) (x := 2) W2 hS t_a0 ⟨by decide, by decide⟩ ) dX11_emboss_65 kV_X11_102 rfl t_a0 rfl rfl (by decide) ck_12 rfl (Nat.le_of_ble_eq_true rfl) ⟨(Nat.le_of_ble_eq_true rfl), (Nat.le_of_ble_eq_true rfl)⟩ hph hph (show 0 + 0 = 0 from rfl) (by decide) (fun rh5 Lh5 clh5 lnh5 ivh5 rvh5 h5 => ?_)
              obtain ⟨f5, rfl, rfl, rfl, rfl, rfl, fl5, W6, rgf5, exf5, kp11f5, kp12f5, kp13f5, kp14f5, kp15f5, kp16f5⟩ := h5
              refine hv13 (show 1 ≤ iv1 a0 11 ∧ iv1 a0 11 ≤ 100 from W2.int t_a0 11) (show iv1 a0 11 = ivb1 a0 11 from by rw [pq1]; exact up2_j (by decide)) (show 1 ≤ iv1 a0 12 ∧ iv1 a0 12 ≤ 50 from W2.int t_a0 12) (show iv1 a0 12 = ivb1 a0 12 from by rw [pq1]; exact up2_j (by decide)) (show (-2147483648) ≤ iv1 a0 13 ∧ iv1 a0 13 ≤ 2147483647 from W2.int t_a0 13) (show iv1 a0 13 = ivb1 a0 13 from by rw [pq1]; exact up2_j (by decide)) (show (-2147483648) ≤ iv1 a0 14 ∧ iv1 a0 14 ≤ 2147483647 from W2.int t_a0 14) (show iv1 a0 14 = ivb1 a0 14 from by rw [pq1]; exact up2_j (by decide)) (show (-2147483648) ≤ iv1 a0 15 ∧ iv1 a0 15 ≤ 2147483647 from W2.int t_a0 15) (show iv1 a0 15 = ivb1 a0 15 from by rw [pq1]; exact up2_j (by decide)) (show (-2147483648) ≤ iv1 a0 16 ∧ iv1 a0 16 ≤ 2147483647 from W2.int t_a0 16) (show iv1 a0 16 = zz1 from by rw [pq1]; exact up2_s) (F2.call hX0 fl5 rfl) (fun ri43 ie55 ri44 ie56 ri45 ie58 ri46 ie60 ri47 ie62 ri48 ie64 F4 => ?_)
              refine c_st (st2 := [.int (iI f5)]) rfl ?_
              refine hv13 (show ivh5 a0 11 = iv1 a0 11 from kp11f5) (show ivh5 a0 12 = iv1 a0 12 from kp12f5) (show ivh5 a0 13 = iv1 a0 13 from kp13f5) (show ivh5 a0 14 = iv1 a0 14 from kp14f5) (show ivh5 a0 15 = iv1 a0 15 from kp15f5) (show ivh5 a0 16 = iv1 a0 16 from kp16f5) (show f5 = -1 from exf5) (show 1 ≤ ivh5 a0 11 ∧ ivh5 a0 11 ≤ 100 from W6.int t_a0 11) (show 1 ≤ ivh5 a0 12 ∧ ivh5 a0 12 ≤ 50 from W6.int t_a0 12) (show (-2147483648) ≤ ivh5 a0 13 ∧ ivh5 a0 13 ≤ 2147483647 from W6.int t_a0 13) (show (-2147483648) ≤ ivh5 a0 14 ∧ ivh5 a0 14 ≤ 2147483647 from W6.int t_a0 14) (show (-2147483648) ≤ ivh5 a0 15 ∧ ivh5 a0 15 ≤ 2147483647 from W6.int t_a0 15) (show (-2147483648) ≤ ivh5 a0 16 ∧ ivh5 a0 16 ≤ 2147483647 from W6.int t_a0 16) (fun gk11f5 gk12f5 gk13f5 gk14f5 gk15f5 gk16f5 gf5 ri49 ri50 ri51 ri52 ri53 ri54 => ?_)
              exact c_iret C dX11_emboss_68 rfl (by decide) (rom0 hph hph (by decide)) ⟨f5, rfl, rfl, rfl, rfl, rfl, F4, W6, ⟨by omega, by omega⟩, trivial, (gk11f5.trans (ie55.trans hkp11)), (gk12f5.trans (ie56.trans hkp12)), (gk13f5.trans (ie58.trans hkp13)), (gk14f5.trans (ie60.trans hkp14)), (gk15f5.trans (ie62.trans hkp15)), (EPX.nul hE hsA ⟨by omega, by omega⟩ (by omega) (cnt_s h16 ezz1 (by omega)) gaf2 (by omega))⟩
      refine hv4 (show 1 ≤ iv a0 12 ∧ iv a0 12 ≤ 50 from hW.int t_a0 12) (show (-2147483648) ≤ iv a0 13 ∧ iv a0 13 ≤ 2147483647 from hW.int t_a0 13) (show (-2147483648) ≤ iv a0 14 ∧ iv a0 14 ≤ 2147483647 from hW.int t_a0 14) (show (-2147483648) ≤ iv a0 15 ∧ iv a0 15 ≤ 2147483647 from hW.int t_a0 15) (fun ri55 ri56 ri57 ri58 => ?_)
      refine c_lv (lv2 := [(3, .int (iI 0)), (4, .int (iI 0)), (0, .ref a0), (1, .int (iI i)), (2, .int (iI n))]) [1, 0, 2, 3, 4] rfl ?_
      exact Lp1 203 0 0 _ (by omega) hW hF0  (by omega) (by omega) (cnt_0 rfl) (EP1.zero rfl rfl) rfl rfl rfl rfl rfl
    · refine c_aload_n (j := 0) (x := a0) C dX11_emboss_18 rfl ?_
      refine c_iconst C dX11_emboss_19 ?_
      refine d_callV (As := [.int (iI 5)]) (rest := []) C hM (C_refuse (a0 := a0) (x := 5) hW hS t_a0 ⟨by decide, by decide⟩ ) dX11_emboss_20 kV_X11_102 rfl t_a0 rfl rfl (by decide) ck_12 rfl (Nat.le_of_ble_eq_true rfl) ⟨(Nat.le_of_ble_eq_true rfl), (Nat.le_of_ble_eq_true rfl)⟩ hph hph (show 0 + 0 = 0 from rfl) (by decide) (fun rh6 Lh6 clh6 lnh6 ivh6 rvh6 h6 => ?_)
      obtain ⟨f6, rfl, rfl, rfl, rfl, rfl, fl6, W7, rgf6, exf6, kp11f6, kp12f6, kp13f6, kp14f6, kp15f6, kp16f6⟩ := h6
      refine hv5 (show 1 ≤ iv a0 12 ∧ iv a0 12 ≤ 50 from hW.int t_a0 12) (show (-2147483648) ≤ iv a0 13 ∧ iv a0 13 ≤ 2147483647 from hW.int t_a0 13) (show (-2147483648) ≤ iv a0 14 ∧ iv a0 14 ≤ 2147483647 from hW.int t_a0 14) (show (-2147483648) ≤ iv a0 15 ∧ iv a0 15 ≤ 2147483647 from hW.int t_a0 15) (hF0.call hX0 fl6 rfl) (fun ri59 ri60 ri61 ri62 F5 => ?_)
      refine c_st (st2 := [.int (iI f6)]) rfl ?_
      refine hv13 (show ivh6 a0 11 = iv a0 11 from kp11f6) (show ivh6 a0 12 = iv a0 12 from kp12f6) (show ivh6 a0 13 = iv a0 13 from kp13f6) (show ivh6 a0 14 = iv a0 14 from kp14f6) (show ivh6 a0 15 = iv a0 15 from kp15f6) (show ivh6 a0 16 = iv a0 16 from kp16f6) (show f6 = -1 from exf6) (show 1 ≤ ivh6 a0 11 ∧ ivh6 a0 11 ≤ 100 from W7.int t_a0 11) (show 1 ≤ ivh6 a0 12 ∧ ivh6 a0 12 ≤ 50 from W7.int t_a0 12) (show (-2147483648) ≤ ivh6 a0 13 ∧ ivh6 a0 13 ≤ 2147483647 from W7.int t_a0 13) (show (-2147483648) ≤ ivh6 a0 14 ∧ ivh6 a0 14 ≤ 2147483647 from W7.int t_a0 14) (show (-2147483648) ≤ ivh6 a0 15 ∧ ivh6 a0 15 ≤ 2147483647 from W7.int t_a0 15) (show (-2147483648) ≤ ivh6 a0 16 ∧ ivh6 a0 16 ≤ 2147483647 from W7.int t_a0 16) (fun gk11f6 gk12f6 gk13f6 gk14f6 gk15f6 gk16f6 gf6 ri63 ri64 ri65 ri66 ri67 ri68 => ?_)
      exact c_iret C dX11_emboss_23 rfl (by decide) (rom0 hph hph (by decide)) ⟨f6, rfl, rfl, rfl, rfl, rfl, F5, W7, ⟨by omega, by omega⟩, trivial, gk11f6, gk12f6, gk13f6, gk14f6, gk15f6, (EPX.bad (by omega) (by omega) (by omega))⟩
  · refine c_aload_n (j := 0) (x := a0) C dX11_emboss_7 rfl ?_
    refine c_bipush (z := 6) C dX11_emboss_8 (by decide) ?_
    refine d_callV (As := [.int (iI 6)]) (rest := []) C hM (C_refuse (a0 := a0) (x := 6) hW hS t_a0 ⟨by decide, by decide⟩ ) dX11_emboss_10 kV_X11_102 rfl t_a0 rfl rfl (by decide) ck_12 rfl (Nat.le_of_ble_eq_true rfl) ⟨(Nat.le_of_ble_eq_true rfl), (Nat.le_of_ble_eq_true rfl)⟩ hph hph (show 0 + 0 = 0 from rfl) (by decide) (fun rh7 Lh7 clh7 lnh7 ivh7 rvh7 h7 => ?_)
    obtain ⟨f7, rfl, rfl, rfl, rfl, rfl, fl7, W8, rgf7, exf7, kp11f7, kp12f7, kp13f7, kp14f7, kp15f7, kp16f7⟩ := h7
    refine hv5 (show 1 ≤ iv a0 12 ∧ iv a0 12 ≤ 50 from hW.int t_a0 12) (show (-2147483648) ≤ iv a0 13 ∧ iv a0 13 ≤ 2147483647 from hW.int t_a0 13) (show (-2147483648) ≤ iv a0 14 ∧ iv a0 14 ≤ 2147483647 from hW.int t_a0 14) (show (-2147483648) ≤ iv a0 15 ∧ iv a0 15 ≤ 2147483647 from hW.int t_a0 15) (hF0.call hX0 fl7 rfl) (fun ri69 ri70 ri71 ri72 F6 => ?_)
    refine c_st (st2 := [.int (iI f7)]) rfl ?_
    refine hv13 (show ivh7 a0 11 = iv a0 11 from kp11f7) (show ivh7 a0 12 = iv a0 12 from kp12f7) (show ivh7 a0 13 = iv a0 13 from kp13f7) (show ivh7 a0 14 = iv a0 14 from kp14f7) (show ivh7 a0 15 = iv a0 15 from kp15f7) (show ivh7 a0 16 = iv a0 16 from kp16f7) (show f7 = -1 from exf7) (show 1 ≤ ivh7 a0 11 ∧ ivh7 a0 11 ≤ 100 from W8.int t_a0 11) (show 1 ≤ ivh7 a0 12 ∧ ivh7 a0 12 ≤ 50 from W8.int t_a0 12) (show (-2147483648) ≤ ivh7 a0 13 ∧ ivh7 a0 13 ≤ 2147483647 from W8.int t_a0 13) (show (-2147483648) ≤ ivh7 a0 14 ∧ ivh7 a0 14 ≤ 2147483647 from W8.int t_a0 14) (show (-2147483648) ≤ ivh7 a0 15 ∧ ivh7 a0 15 ≤ 2147483647 from W8.int t_a0 15) (show (-2147483648) ≤ ivh7 a0 16 ∧ ivh7 a0 16 ≤ 2147483647 from W8.int t_a0 16) (fun gk11f7 gk12f7 gk13f7 gk14f7 gk15f7 gk16f7 gf7 ri73 ri74 ri75 ri76 ri77 ri78 => ?_)
    exact c_iret C dX11_emboss_13 rfl (by decide) (rom0 hph hph (by decide)) ⟨f7, rfl, rfl, rfl, rfl, rfl, F6, W8, ⟨by omega, by omega⟩, trivial, gk11f7, gk12f7, gk13f7, gk14f7, gk15f7, (EPX.bad (by omega) (by omega) (by omega))⟩
end
section
theorem PO2_lose {l : Launch} {G : GT} {mi h0 : Nat} {i : Int} (h_i : -2147483648 ≤ i ∧ i ≤ 2147483647) : PressOp l G mi yX11_lose cX11_lose 3 (some .int) 1 [.int (iI i)] h0 (fun sk L cl ln iv rv L2 cl2 ln2 iv2 rv2 f => ((TCH iv rv iv2 h0 (fun E E2 => LOSX E i f E2) ∧ rv2 = rv) ∧ (KSQ h0 iv rv iv2 rv2 ∧ True ∧ iv2 h0 15 = iv h0 15 ∧ iv2 h0 16 = iv h0 16 ∧ (iv2 (sk 5) 2 = iv (sk 5) 2 ∧ ∀ ss, CT iv rv (sk 5) ss → CT iv2 rv2 (sk 5) ss) ∧ (iv2 (sk 4) 2 = iv (sk 4) 2 ∧ ∀ ss, CT iv rv (sk 4) ss → CT iv2 rv2 (sk 4) ss) ∧ FKP sk iv rv iv2 rv2)) ∧ (iv2 h0 14 = iv h0 14 ∧ iv2 h0 11 = iv h0 11 ∧ iv2 h0 12 = iv h0 12 ∧ iv2 h0 13 = iv h0 13) ∧ (iv2 (sk 2) 2 = iv (sk 2) 2 ∧ (∀ ss, CT iv rv (sk 2) ss → CT iv2 rv2 (sk 2) ss)) ∧ (iv2 (sk 3) 2 = iv (sk 3) 2 ∧ (∀ tt, CT iv rv (sk 3) tt → CT iv2 rv2 (sk 3) tt)) ∧ PSAME sk iv rv iv2 rv2 ∧ (∃ g, WT g sk L cl ln iv rv ∧ WT g sk L2 cl2 ln2 iv2 rv2) ∧ SKL sk L cl ∧ XT L cl ln L2 cl2 ln2 ∧ (KP L cl (fun _ => False) (fun _ => False) (fun _ => False) (fun _ => False) (fun _ _ => False) iv rv iv2 rv2)) := by
  intro n L cl ln iv rv sk hn hp
  obtain ⟨hW, hS, hm, h23, ht⟩ := hp
  refine hv3 (show ty L cl (sk 23) 23 from ⟨(hS 23 rfl).1, by rw [(hS 23 rfl).2]; rfl⟩) (show ty L cl (sk 2) 2 from ⟨(hS 2 rfl).1, by rw [(hS 2 rfl).2]; rfl⟩) (show ty L cl (sk 3) 3 from ⟨(hS 3 rfl).1, by rw [(hS 3 rfl).2]; rfl⟩) (fun t23 t2 t3 => ?_)
  refine ⟨0, _, by decide, G_lose hW hS ht h_i , fun v L2 cl2 ln2 iv2 rv2 h => ?_⟩
  obtain ⟨f, rfl, rfl, rfl, rfl, rfl, hF, hW2, rg, ex, kp11, kp12, kp13, kp14, kp15, kp16, lsp⟩ := h
  exact ⟨f, rfl, by omega, XT.refl, hW2, (MRK.call hm hW hS XT.refl hF rfl rfl), (by have q := hF.i t23 rfl 2; omega), ⟨⟨⟨lsp, rfl⟩, ⟨(KSQ.ni hW ht hF rfl), trivial, kp15, kp16, ⟨hF.i (tysq (t := 5) hS rfl rfl) rfl 2, fun ss hs => CT.fr hs hW (tysq (t := 5) hS rfl rfl) hF rfl rfl rfl rfl rfl⟩, ⟨hF.i (tysq (t := 4) hS rfl rfl) rfl 2, fun ss hs => CT.fr hs hW (tysq (t := 4) hS rfl rfl) hF rfl rfl rfl rfl rfl⟩, (FKP.fr hW hS hF rfl rfl rfl rfl)⟩⟩, ⟨kp14, kp11, kp12, kp13⟩, ⟨hF.i t2 rfl 2, fun ss hs => CT.fr hs hW t2 hF rfl rfl rfl rfl rfl⟩, ⟨hF.i t3 rfl 2, fun tt ht => CT.fr ht hW t3 hF rfl rfl rfl rfl rfl⟩, (PSAME.fr hW hS hF rfl rfl rfl rfl rfl rfl rfl), ⟨⟨_, hW, hW2⟩, hS, XT.refl, (KP.fr hW hF rfl)⟩⟩⟩
theorem PO2_cut {l : Launch} {G : GT} {mi h0 : Nat} {i : Int} {n : Int} (h_i : -2147483648 ≤ i ∧ i ≤ 2147483647) (h_n : -2147483648 ≤ n ∧ n ≤ 2147483647) : PressOp l G mi yX11_cut cX11_cut 4 (some .int) 2 [.int (iI i), .int (iI n)] h0 (fun sk L cl ln iv rv L2 cl2 ln2 iv2 rv2 f => ((TCH iv rv iv2 h0 (fun E E2 => CUTX E i n f E2) ∧ rv2 = rv) ∧ (KSQ h0 iv rv iv2 rv2 ∧ True ∧ iv2 h0 15 = iv h0 15 ∧ iv2 h0 16 = iv h0 16 ∧ (iv2 (sk 5) 2 = iv (sk 5) 2 ∧ ∀ ss, CT iv rv (sk 5) ss → CT iv2 rv2 (sk 5) ss) ∧ (iv2 (sk 4) 2 = iv (sk 4) 2 ∧ ∀ ss, CT iv rv (sk 4) ss → CT iv2 rv2 (sk 4) ss) ∧ FKP sk iv rv iv2 rv2)) ∧ (iv2 h0 14 = iv h0 14 ∧ iv2 h0 11 = iv h0 11 ∧ iv2 h0 12 = iv h0 12 ∧ iv2 h0 13 = iv h0 13) ∧ (iv2 (sk 2) 2 = iv (sk 2) 2 ∧ (∀ ss, CT iv rv (sk 2) ss → CT iv2 rv2 (sk 2) ss)) ∧ (iv2 (sk 3) 2 = iv (sk 3) 2 ∧ (∀ tt, CT iv rv (sk 3) tt → CT iv2 rv2 (sk 3) tt)) ∧ PSAME sk iv rv iv2 rv2 ∧ (∃ g, WT g sk L cl ln iv rv ∧ WT g sk L2 cl2 ln2 iv2 rv2) ∧ SKL sk L cl ∧ XT L cl ln L2 cl2 ln2 ∧ (KP L cl (fun _ => False) (fun _ => False) (fun _ => False) (fun _ => False) (fun _ _ => False) iv rv iv2 rv2)) := by
  intro n L cl ln iv rv sk hn hp
  obtain ⟨hW, hS, hm, h23, ht⟩ := hp
  refine hv3 (show ty L cl (sk 23) 23 from ⟨(hS 23 rfl).1, by rw [(hS 23 rfl).2]; rfl⟩) (show ty L cl (sk 2) 2 from ⟨(hS 2 rfl).1, by rw [(hS 2 rfl).2]; rfl⟩) (show ty L cl (sk 3) 3 from ⟨(hS 3 rfl).1, by rw [(hS 3 rfl).2]; rfl⟩) (fun t23 t2 t3 => ?_)
  refine ⟨0, _, by decide, G_cut hW hS ht h_i h_n , fun v L2 cl2 ln2 iv2 rv2 h => ?_⟩
  obtain ⟨f, rfl, rfl, rfl, rfl, rfl, hF, hW2, rg, ex, kp11, kp12, kp13, kp14, kp15, kp16, ctp⟩ := h
  exact ⟨f, rfl, by omega, XT.refl, hW2, (MRK.call hm hW hS XT.refl hF rfl rfl), (by have q := hF.i t23 rfl 2; omega), ⟨⟨⟨ctp, rfl⟩, ⟨(KSQ.ni hW ht hF rfl), trivial, kp15, kp16, ⟨hF.i (tysq (t := 5) hS rfl rfl) rfl 2, fun ss hs => CT.fr hs hW (tysq (t := 5) hS rfl rfl) hF rfl rfl rfl rfl rfl⟩, ⟨hF.i (tysq (t := 4) hS rfl rfl) rfl 2, fun ss hs => CT.fr hs hW (tysq (t := 4) hS rfl rfl) hF rfl rfl rfl rfl rfl⟩, (FKP.fr hW hS hF rfl rfl rfl rfl)⟩⟩, ⟨kp14, kp11, kp12, kp13⟩, ⟨hF.i t2 rfl 2, fun ss hs => CT.fr hs hW t2 hF rfl rfl rfl rfl rfl⟩, ⟨hF.i t3 rfl 2, fun tt ht => CT.fr ht hW t3 hF rfl rfl rfl rfl rfl⟩, (PSAME.fr hW hS hF rfl rfl rfl rfl rfl rfl rfl), ⟨⟨_, hW, hW2⟩, hS, XT.refl, (KP.fr hW hF rfl)⟩⟩⟩
theorem PO2_copyRow {l : Launch} {G : GT} {mi h0 : Nat} {i : Int} {i2 : Int} {j : Int} {j2 : Int} {n : Int} (h_i : -2147483648 ≤ i ∧ i ≤ 2147483647) (h_i2 : -2147483648 ≤ i2 ∧ i2 ≤ 2147483647) (h_j : -2147483648 ≤ j ∧ j ≤ 2147483647) (h_j2 : -2147483648 ≤ j2 ∧ j2 ≤ 2147483647) (h_n : -2147483648 ≤ n ∧ n ≤ 2147483647) : PressOp l G mi yX11_copyRow cX11_copyRow 8 (some .int) 1 [.int (iI i), .int (iI i2), .int (iI j), .int (iI j2), .int (iI n)] h0 (fun sk L cl ln iv rv L2 cl2 ln2 iv2 rv2 f => ((TCH iv rv iv2 h0 (fun E E2 => CPRX E i i2 j j2 n f E2) ∧ rv2 = rv) ∧ (KSQ h0 iv rv iv2 rv2 ∧ True ∧ iv2 h0 15 = iv h0 15 ∧ iv2 h0 16 = iv h0 16 ∧ (iv2 (sk 5) 2 = iv (sk 5) 2 ∧ ∀ ss, CT iv rv (sk 5) ss → CT iv2 rv2 (sk 5) ss) ∧ (iv2 (sk 4) 2 = iv (sk 4) 2 ∧ ∀ ss, CT iv rv (sk 4) ss → CT iv2 rv2 (sk 4) ss) ∧ FKP sk iv rv iv2 rv2)) ∧ (iv2 h0 14 = iv h0 14 ∧ iv2 h0 11 = iv h0 11 ∧ iv2 h0 12 = iv h0 12 ∧ iv2 h0 13 = iv h0 13) ∧ (iv2 (sk 2) 2 = iv (sk 2) 2 ∧ (∀ ss, CT iv rv (sk 2) ss → CT iv2 rv2 (sk 2) ss)) ∧ (iv2 (sk 3) 2 = iv (sk 3) 2 ∧ (∀ tt, CT iv rv (sk 3) tt → CT iv2 rv2 (sk 3) tt)) ∧ PSAME sk iv rv iv2 rv2 ∧ (∃ g, WT g sk L cl ln iv rv ∧ WT g sk L2 cl2 ln2 iv2 rv2) ∧ SKL sk L cl ∧ XT L cl ln L2 cl2 ln2 ∧ (KP L cl (fun _ => False) (fun _ => False) (fun _ => False) (fun _ => False) (fun _ _ => False) iv rv iv2 rv2)) := by
  intro n L cl ln iv rv sk hn hp
  obtain ⟨hW, hS, hm, h23, ht⟩ := hp
  refine hv3 (show ty L cl (sk 23) 23 from ⟨(hS 23 rfl).1, by rw [(hS 23 rfl).2]; rfl⟩) (show ty L cl (sk 2) 2 from ⟨(hS 2 rfl).1, by rw [(hS 2 rfl).2]; rfl⟩) (show ty L cl (sk 3) 3 from ⟨(hS 3 rfl).1, by rw [(hS 3 rfl).2]; rfl⟩) (fun t23 t2 t3 => ?_)
  refine ⟨0, _, by decide, G_copyRow hW hS ht h_i h_i2 h_j h_j2 h_n , fun v L2 cl2 ln2 iv2 rv2 h => ?_⟩
  obtain ⟨f, rfl, rfl, rfl, rfl, rfl, hF, hW2, rg, ex, kp11, kp12, kp13, kp14, kp15, kp16, crp⟩ := h
  exact ⟨f, rfl, by omega, XT.refl, hW2, (MRK.call hm hW hS XT.refl hF rfl rfl), (by have q := hF.i t23 rfl 2; omega), ⟨⟨⟨crp, rfl⟩, ⟨(KSQ.ni hW ht hF rfl), trivial, kp15, kp16, ⟨hF.i (tysq (t := 5) hS rfl rfl) rfl 2, fun ss hs => CT.fr hs hW (tysq (t := 5) hS rfl rfl) hF rfl rfl rfl rfl rfl⟩, ⟨hF.i (tysq (t := 4) hS rfl rfl) rfl 2, fun ss hs => CT.fr hs hW (tysq (t := 4) hS rfl rfl) hF rfl rfl rfl rfl rfl⟩, (FKP.fr hW hS hF rfl rfl rfl rfl)⟩⟩, ⟨kp14, kp11, kp12, kp13⟩, ⟨hF.i t2 rfl 2, fun ss hs => CT.fr hs hW t2 hF rfl rfl rfl rfl rfl⟩, ⟨hF.i t3 rfl 2, fun tt ht => CT.fr ht hW t3 hF rfl rfl rfl rfl rfl⟩, (PSAME.fr hW hS hF rfl rfl rfl rfl rfl rfl rfl), ⟨⟨_, hW, hW2⟩, hS, XT.refl, (KP.fr hW hF rfl)⟩⟩⟩
theorem PO2_copyLines {l : Launch} {G : GT} {mi h0 : Nat} {i : Int} {j : Int} {n : Int} (h_i : -2147483648 ≤ i ∧ i ≤ 2147483647) (h_j : -2147483648 ≤ j ∧ j ≤ 2147483647) (h_n : -2147483648 ≤ n ∧ n ≤ 2147483647) : PressOp l G mi yX11_copyLines cX11_copyLines 7 (some .int) 2 [.int (iI i), .int (iI j), .int (iI n)] h0 (fun sk L cl ln iv rv L2 cl2 ln2 iv2 rv2 f => ((TCH iv rv iv2 h0 (fun E E2 => CPLX E i j n (iv h0 15) f E2 (iv2 h0 15)) ∧ rv2 = rv) ∧ (KSQ h0 iv rv iv2 rv2 ∧ True ∧ True ∧ iv2 h0 16 = iv h0 16 ∧ (iv2 (sk 5) 2 = iv (sk 5) 2 ∧ ∀ ss, CT iv rv (sk 5) ss → CT iv2 rv2 (sk 5) ss) ∧ (iv2 (sk 4) 2 = iv (sk 4) 2 ∧ ∀ ss, CT iv rv (sk 4) ss → CT iv2 rv2 (sk 4) ss) ∧ FKP sk iv rv iv2 rv2)) ∧ (iv2 h0 14 = iv h0 14 ∧ iv2 h0 11 = iv h0 11 ∧ iv2 h0 12 = iv h0 12 ∧ iv2 h0 13 = iv h0 13) ∧ (iv2 (sk 2) 2 = iv (sk 2) 2 ∧ (∀ ss, CT iv rv (sk 2) ss → CT iv2 rv2 (sk 2) ss)) ∧ (iv2 (sk 3) 2 = iv (sk 3) 2 ∧ (∀ tt, CT iv rv (sk 3) tt → CT iv2 rv2 (sk 3) tt)) ∧ PSAME sk iv rv iv2 rv2 ∧ (∃ g, WT g sk L cl ln iv rv ∧ WT g sk L2 cl2 ln2 iv2 rv2) ∧ SKL sk L cl ∧ XT L cl ln L2 cl2 ln2 ∧ (KP L cl (fun _ => False) (fun _ => False) (fun _ => False) (fun _ => False) (fun _ _ => False) iv rv iv2 rv2)) := by
  intro n L cl ln iv rv sk hn hp
  obtain ⟨hW, hS, hm, h23, ht⟩ := hp
  refine hv3 (show ty L cl (sk 23) 23 from ⟨(hS 23 rfl).1, by rw [(hS 23 rfl).2]; rfl⟩) (show ty L cl (sk 2) 2 from ⟨(hS 2 rfl).1, by rw [(hS 2 rfl).2]; rfl⟩) (show ty L cl (sk 3) 3 from ⟨(hS 3 rfl).1, by rw [(hS 3 rfl).2]; rfl⟩) (fun t23 t2 t3 => ?_)
  refine ⟨0, _, by decide, G_copyLines hW hS ht h_i h_j h_n , fun v L2 cl2 ln2 iv2 rv2 h => ?_⟩
  obtain ⟨f, rfl, rfl, rfl, rfl, rfl, hF, hW2, rg, ex, kp11, kp12, kp13, kp14, kp16, cpl⟩ := h
  exact ⟨f, rfl, by omega, XT.refl, hW2, (MRK.call hm hW hS XT.refl hF rfl rfl), (by have q := hF.i t23 rfl 2; omega), ⟨⟨⟨cpl, rfl⟩, ⟨(KSQ.ni hW ht hF rfl), trivial, trivial, kp16, ⟨hF.i (tysq (t := 5) hS rfl rfl) rfl 2, fun ss hs => CT.fr hs hW (tysq (t := 5) hS rfl rfl) hF rfl rfl rfl rfl rfl⟩, ⟨hF.i (tysq (t := 4) hS rfl rfl) rfl 2, fun ss hs => CT.fr hs hW (tysq (t := 4) hS rfl rfl) hF rfl rfl rfl rfl rfl⟩, (FKP.fr hW hS hF rfl rfl rfl rfl)⟩⟩, ⟨kp14, kp11, kp12, kp13⟩, ⟨hF.i t2 rfl 2, fun ss hs => CT.fr hs hW t2 hF rfl rfl rfl rfl rfl⟩, ⟨hF.i t3 rfl 2, fun tt ht => CT.fr ht hW t3 hF rfl rfl rfl rfl rfl⟩, (PSAME.fr hW hS hF rfl rfl rfl rfl rfl rfl rfl), ⟨⟨_, hW, hW2⟩, hS, XT.refl, (KP.fr hW hF rfl)⟩⟩⟩
theorem PO2_emboss {l : Launch} {G : GT} {mi h0 : Nat} {i : Int} {n : Int} (h_i : -2147483648 ≤ i ∧ i ≤ 2147483647) (h_n : -2147483648 ≤ n ∧ n ≤ 2147483647) : PressOp l G mi yX11_emboss cX11_emboss 6 (some .int) 2 [.int (iI i), .int (iI n)] h0 (fun sk L cl ln iv rv L2 cl2 ln2 iv2 rv2 f => ((EPX iv rv iv2 h0 i n (iv h0 11) f) ∧ (KSQ h0 iv rv iv2 rv2 ∧ KSC h0 iv rv iv2 rv2 ∧ iv2 h0 15 = iv h0 15 ∧ True ∧ (iv2 (sk 5) 2 = iv (sk 5) 2 ∧ ∀ ss, CT iv rv (sk 5) ss → CT iv2 rv2 (sk 5) ss) ∧ (iv2 (sk 4) 2 = iv (sk 4) 2 ∧ ∀ ss, CT iv rv (sk 4) ss → CT iv2 rv2 (sk 4) ss) ∧ FKP sk iv rv iv2 rv2)) ∧ (iv2 h0 14 = iv h0 14 ∧ iv2 h0 11 = iv h0 11 ∧ iv2 h0 12 = iv h0 12 ∧ iv2 h0 13 = iv h0 13) ∧ (iv2 (sk 2) 2 = iv (sk 2) 2 ∧ (∀ ss, CT iv rv (sk 2) ss → CT iv2 rv2 (sk 2) ss)) ∧ (iv2 (sk 3) 2 = iv (sk 3) 2 ∧ (∀ tt, CT iv rv (sk 3) tt → CT iv2 rv2 (sk 3) tt)) ∧ PSAME sk iv rv iv2 rv2 ∧ (∃ g, WT g sk L cl ln iv rv ∧ WT g sk L2 cl2 ln2 iv2 rv2) ∧ SKL sk L cl ∧ XT L cl ln L2 cl2 ln2 ∧ (KP L cl (fun _ => False) (fun _ => False) (fun _ => False) (fun _ => False) (fun _ _ => False) iv rv iv2 rv2)) := by
  intro n L cl ln iv rv sk hn hp
  obtain ⟨hW, hS, hm, h23, ht⟩ := hp
  refine hv3 (show ty L cl (sk 23) 23 from ⟨(hS 23 rfl).1, by rw [(hS 23 rfl).2]; rfl⟩) (show ty L cl (sk 2) 2 from ⟨(hS 2 rfl).1, by rw [(hS 2 rfl).2]; rfl⟩) (show ty L cl (sk 3) 3 from ⟨(hS 3 rfl).1, by rw [(hS 3 rfl).2]; rfl⟩) (fun t23 t2 t3 => ?_)
  refine ⟨0, _, by decide, G_emboss hW hS ht h_i h_n , fun v L2 cl2 ln2 iv2 rv2 h => ?_⟩
  obtain ⟨f, rfl, rfl, rfl, rfl, rfl, hF, hW2, rg, ex, kp11, kp12, kp13, kp14, kp15, epx⟩ := h
  exact ⟨f, rfl, by omega, XT.refl, hW2, (MRK.call hm hW hS XT.refl hF rfl rfl), (by have q := hF.i t23 rfl 2; omega), ⟨⟨epx, ⟨(KSQ.ni hW ht hF rfl), (KSC.fr hW ht hF rfl rfl rfl rfl rfl rfl), kp15, trivial, ⟨hF.i (tysq (t := 5) hS rfl rfl) rfl 2, fun ss hs => CT.fr hs hW (tysq (t := 5) hS rfl rfl) hF rfl rfl rfl rfl rfl⟩, ⟨hF.i (tysq (t := 4) hS rfl rfl) rfl 2, fun ss hs => CT.fr hs hW (tysq (t := 4) hS rfl rfl) hF rfl rfl rfl rfl rfl⟩, (FKP.fr hW hS hF rfl rfl rfl rfl)⟩⟩, ⟨kp14, kp11, kp12, kp13⟩, ⟨hF.i t2 rfl 2, fun ss hs => CT.fr hs hW t2 hF rfl rfl rfl rfl rfl⟩, ⟨hF.i t3 rfl 2, fun tt ht => CT.fr ht hW t3 hF rfl rfl rfl rfl rfl⟩, (PSAME.fr hW hS hF rfl rfl rfl rfl rfl rfl rfl), ⟨⟨_, hW, hW2⟩, hS, XT.refl, (KP.fr hW hF rfl)⟩⟩⟩
theorem MO2_lose {l : Launch} {G : GT} {mm : Nat} {x1 : Int} (h_x1 : -2147483648 ≤ x1 ∧ x1 ≤ 2147483647) : ModelOp l G yX12_lose cX12_lose 2 (some .int) 2 [.int (iI x1)] mm 0 0 (fun v a v2 a2 f => ((LSA v a v2 a2 x1 f) ∧ (v2 36 = v 36 ∧ True ∧ v2 42 = v 42 ∧ v2 43 = v 43 ∧ (v2 41 = v 41 ∧ a2 40 = a 40) ∧ (v2 52 = v 52 ∧ a2 51 = a 51) ∧ (v2 60 = v 60 ∧ v2 61 = v 61 ∧ a2 58 = a 58 ∧ a2 59 = a 59))) ∧ (v2 56 = v 56 ∧ v2 31 = v 31 ∧ v2 32 = v 32 ∧ v2 33 = v 33) ∧ (v2 3 = v 3 ∧ a2 2 = a 2) ∧ (v2 30 = v 30 ∧ a2 29 = a 29) ∧ TSAME v a v2 a2) := by
  intro n ad ln v a L E hn hV hI
  obtain ⟨hB, hT, hS, hR, h19⟩ := hV
  refine ⟨_, N2_lose (l0 := x1) hB h_x1 L E hI, fun r L2 E2 h => ?_⟩
  obtain ⟨v2, a2, hI2, f, rfl, hf, hB2, hx⟩ := h
  exact ⟨f, ad, ln, v2, a2, rfl, hI2, ⟨hB2, (hT.fr hf rfl rfl), (hS.fr hf rfl rfl), (hR.fr hf rfl), (by have q := hf.1 19 rfl; push_cast; omega)⟩, ⟨⟨hx, ⟨hf.1 36 rfl, trivial, hf.1 42 rfl, hf.1 43 rfl, ⟨hf.1 41 rfl, hf.2 40 rfl⟩, ⟨hf.1 52 rfl, hf.2 51 rfl⟩, ⟨hf.1 60 rfl, hf.1 61 rfl, hf.2 58 rfl, hf.2 59 rfl⟩⟩⟩, ⟨hf.1 56 rfl, hf.1 31 rfl, hf.1 32 rfl, hf.1 33 rfl⟩, ⟨hf.1 3 rfl, hf.2 2 rfl⟩, ⟨hf.1 30 rfl, hf.2 29 rfl⟩, ⟨hf.1 4 rfl, hf.2 5 rfl, hf.2 6 rfl, hf.2 7 rfl, hf.2 10 rfl, hf.1 19 rfl, hf.2 18 rfl, hf.2 11 rfl, hf.2 8 rfl, hf.2 9 rfl, hf.2 12 rfl, hf.2 13 rfl, hf.2 14 rfl, hf.2 15 rfl, hf.2 16 rfl, hf.2 17 rfl⟩⟩⟩
theorem MO2_cut {l : Launch} {G : GT} {mm : Nat} {x1 x2 : Int} (h_x1 : -2147483648 ≤ x1 ∧ x1 ≤ 2147483647) (h_x2 : -2147483648 ≤ x2 ∧ x2 ≤ 2147483647) : ModelOp l G yX12_cut cX12_cut 4 (some .int) 2 [.int (iI x1), .int (iI x2)] mm 0 0 (fun v a v2 a2 f => ((CTA v a v2 a2 x1 x2 f) ∧ (v2 36 = v 36 ∧ True ∧ v2 42 = v 42 ∧ v2 43 = v 43 ∧ (v2 41 = v 41 ∧ a2 40 = a 40) ∧ (v2 52 = v 52 ∧ a2 51 = a 51) ∧ (v2 60 = v 60 ∧ v2 61 = v 61 ∧ a2 58 = a 58 ∧ a2 59 = a 59))) ∧ (v2 56 = v 56 ∧ v2 31 = v 31 ∧ v2 32 = v 32 ∧ v2 33 = v 33) ∧ (v2 3 = v 3 ∧ a2 2 = a 2) ∧ (v2 30 = v 30 ∧ a2 29 = a 29) ∧ TSAME v a v2 a2) := by
  intro n ad ln v a L E hn hV hI
  obtain ⟨hB, hT, hS, hR, h19⟩ := hV
  refine ⟨_, N2_cut (l0 := x1) (n1 := x2) hB h_x1 h_x2 L E hI, fun r L2 E2 h => ?_⟩
  obtain ⟨v2, a2, hI2, f, rfl, hf, hB2, hx⟩ := h
  exact ⟨f, ad, ln, v2, a2, rfl, hI2, ⟨hB2, (hT.fr hf rfl rfl), (hS.fr hf rfl rfl), (hR.fr hf rfl), (by have q := hf.1 19 rfl; push_cast; omega)⟩, ⟨⟨hx, ⟨hf.1 36 rfl, trivial, hf.1 42 rfl, hf.1 43 rfl, ⟨hf.1 41 rfl, hf.2 40 rfl⟩, ⟨hf.1 52 rfl, hf.2 51 rfl⟩, ⟨hf.1 60 rfl, hf.1 61 rfl, hf.2 58 rfl, hf.2 59 rfl⟩⟩⟩, ⟨hf.1 56 rfl, hf.1 31 rfl, hf.1 32 rfl, hf.1 33 rfl⟩, ⟨hf.1 3 rfl, hf.2 2 rfl⟩, ⟨hf.1 30 rfl, hf.2 29 rfl⟩, ⟨hf.1 4 rfl, hf.2 5 rfl, hf.2 6 rfl, hf.2 7 rfl, hf.2 10 rfl, hf.1 19 rfl, hf.2 18 rfl, hf.2 11 rfl, hf.2 8 rfl, hf.2 9 rfl, hf.2 12 rfl, hf.2 13 rfl, hf.2 14 rfl, hf.2 15 rfl, hf.2 16 rfl, hf.2 17 rfl⟩⟩⟩
theorem MO2_copyRow {l : Launch} {G : GT} {mm : Nat} {x1 x2 x3 x4 x5 : Int} (h_x1 : -2147483648 ≤ x1 ∧ x1 ≤ 2147483647) (h_x2 : -2147483648 ≤ x2 ∧ x2 ≤ 2147483647) (h_x3 : -2147483648 ≤ x3 ∧ x3 ≤ 2147483647) (h_x4 : -2147483648 ≤ x4 ∧ x4 ≤ 2147483647) (h_x5 : -2147483648 ≤ x5 ∧ x5 ≤ 2147483647) : ModelOp l G yX12_copyRow cX12_copyRow 11 (some .int) 1 [.int (iI x1), .int (iI x2), .int (iI x3), .int (iI x4), .int (iI x5)] mm 0 0 (fun v a v2 a2 f => ((CRA v a v2 a2 x1 x2 x3 x4 x5 f) ∧ (v2 36 = v 36 ∧ True ∧ v2 42 = v 42 ∧ v2 43 = v 43 ∧ (v2 41 = v 41 ∧ a2 40 = a 40) ∧ (v2 52 = v 52 ∧ a2 51 = a 51) ∧ (v2 60 = v 60 ∧ v2 61 = v 61 ∧ a2 58 = a 58 ∧ a2 59 = a 59))) ∧ (v2 56 = v 56 ∧ v2 31 = v 31 ∧ v2 32 = v 32 ∧ v2 33 = v 33) ∧ (v2 3 = v 3 ∧ a2 2 = a 2) ∧ (v2 30 = v 30 ∧ a2 29 = a 29) ∧ TSAME v a v2 a2) := by
  intro n ad ln v a L E hn hV hI
  obtain ⟨hB, hT, hS, hR, h19⟩ := hV
  refine ⟨_, N2_copyRow (q := x1) (w1 := x2) (u := x3) (x := x4) (n1 := x5) hB h_x1 h_x2 h_x3 h_x4 h_x5 L E hI, fun r L2 E2 h => ?_⟩
  obtain ⟨v2, a2, hI2, f, rfl, hf, hB2, hx⟩ := h
  exact ⟨f, ad, ln, v2, a2, rfl, hI2, ⟨hB2, (hT.fr hf rfl rfl), (hS.fr hf rfl rfl), (hR.fr hf rfl), (by have q := hf.1 19 rfl; push_cast; omega)⟩, ⟨⟨hx, ⟨hf.1 36 rfl, trivial, hf.1 42 rfl, hf.1 43 rfl, ⟨hf.1 41 rfl, hf.2 40 rfl⟩, ⟨hf.1 52 rfl, hf.2 51 rfl⟩, ⟨hf.1 60 rfl, hf.1 61 rfl, hf.2 58 rfl, hf.2 59 rfl⟩⟩⟩, ⟨hf.1 56 rfl, hf.1 31 rfl, hf.1 32 rfl, hf.1 33 rfl⟩, ⟨hf.1 3 rfl, hf.2 2 rfl⟩, ⟨hf.1 30 rfl, hf.2 29 rfl⟩, ⟨hf.1 4 rfl, hf.2 5 rfl, hf.2 6 rfl, hf.2 7 rfl, hf.2 10 rfl, hf.1 19 rfl, hf.2 18 rfl, hf.2 11 rfl, hf.2 8 rfl, hf.2 9 rfl, hf.2 12 rfl, hf.2 13 rfl, hf.2 14 rfl, hf.2 15 rfl, hf.2 16 rfl, hf.2 17 rfl⟩⟩⟩
theorem MO2_copyLines {l : Launch} {G : GT} {mm : Nat} {x1 x2 x3 : Int} (h_x1 : -2147483648 ≤ x1 ∧ x1 ≤ 2147483647) (h_x2 : -2147483648 ≤ x2 ∧ x2 ≤ 2147483647) (h_x3 : -2147483648 ≤ x3 ∧ x3 ≤ 2147483647) : ModelOp l G yX12_copyLines cX12_copyLines 10 (some .int) 1 [.int (iI x1), .int (iI x2), .int (iI x3)] mm 0 0 (fun v a v2 a2 f => ((CPA v a v2 a2 x1 x2 x3 f) ∧ (v2 36 = v 36 ∧ True ∧ True ∧ v2 43 = v 43 ∧ (v2 41 = v 41 ∧ a2 40 = a 40) ∧ (v2 52 = v 52 ∧ a2 51 = a 51) ∧ (v2 60 = v 60 ∧ v2 61 = v 61 ∧ a2 58 = a 58 ∧ a2 59 = a 59))) ∧ (v2 56 = v 56 ∧ v2 31 = v 31 ∧ v2 32 = v 32 ∧ v2 33 = v 33) ∧ (v2 3 = v 3 ∧ a2 2 = a 2) ∧ (v2 30 = v 30 ∧ a2 29 = a 29) ∧ TSAME v a v2 a2) := by
  intro n ad ln v a L E hn hV hI
  obtain ⟨hB, hT, hS, hR, h19⟩ := hV
  refine ⟨_, N2_copyLines (q := x1) (u := x2) (n1 := x3) hB h_x1 h_x2 h_x3 L E hI, fun r L2 E2 h => ?_⟩
  obtain ⟨v2, a2, hI2, f, rfl, hf, hB2, hx⟩ := h
  exact ⟨f, ad, ln, v2, a2, rfl, hI2, ⟨hB2, (hT.fr hf rfl rfl), (hS.fr hf rfl rfl), (hR.fr hf rfl), (by have q := hf.1 19 rfl; push_cast; omega)⟩, ⟨⟨hx, ⟨hf.1 36 rfl, trivial, trivial, hf.1 43 rfl, ⟨hf.1 41 rfl, hf.2 40 rfl⟩, ⟨hf.1 52 rfl, hf.2 51 rfl⟩, ⟨hf.1 60 rfl, hf.1 61 rfl, hf.2 58 rfl, hf.2 59 rfl⟩⟩⟩, ⟨hf.1 56 rfl, hf.1 31 rfl, hf.1 32 rfl, hf.1 33 rfl⟩, ⟨hf.1 3 rfl, hf.2 2 rfl⟩, ⟨hf.1 30 rfl, hf.2 29 rfl⟩, ⟨hf.1 4 rfl, hf.2 5 rfl, hf.2 6 rfl, hf.2 7 rfl, hf.2 10 rfl, hf.1 19 rfl, hf.2 18 rfl, hf.2 11 rfl, hf.2 8 rfl, hf.2 9 rfl, hf.2 12 rfl, hf.2 13 rfl, hf.2 14 rfl, hf.2 15 rfl, hf.2 16 rfl, hf.2 17 rfl⟩⟩⟩
theorem MO2_emboss {l : Launch} {G : GT} {mm : Nat} {x1 x2 : Int} (h_x1 : -2147483648 ≤ x1 ∧ x1 ≤ 2147483647) (h_x2 : -2147483648 ≤ x2 ∧ x2 ≤ 2147483647) : ModelOp l G yX12_emboss cX12_emboss 9 (some .int) 1 [.int (iI x1), .int (iI x2)] mm 0 0 (fun v a v2 a2 f => ((EMA v a v2 x1 x2 f) ∧ (v2 36 = v 36 ∧ KSA v a v2 a2 ∧ v2 42 = v 42 ∧ True ∧ (v2 41 = v 41 ∧ a2 40 = a 40) ∧ (v2 52 = v 52 ∧ a2 51 = a 51) ∧ (v2 60 = v 60 ∧ v2 61 = v 61 ∧ a2 58 = a 58 ∧ a2 59 = a 59))) ∧ (v2 56 = v 56 ∧ v2 31 = v 31 ∧ v2 32 = v 32 ∧ v2 33 = v 33) ∧ (v2 3 = v 3 ∧ a2 2 = a 2) ∧ (v2 30 = v 30 ∧ a2 29 = a 29) ∧ TSAME v a v2 a2) := by
  intro n ad ln v a L E hn hV hI
  obtain ⟨hB, hT, hS, hR, h19⟩ := hV
  refine ⟨_, N2_emboss (q := x1) (n1 := x2) hB h_x1 h_x2 L E hI, fun r L2 E2 h => ?_⟩
  obtain ⟨v2, a2, hI2, f, rfl, hf, hB2, hx⟩ := h
  exact ⟨f, ad, ln, v2, a2, rfl, hI2, ⟨hB2, (hT.fr hf rfl rfl), (hS.fr hf rfl rfl), (hR.fr hf rfl), (by have q := hf.1 19 rfl; push_cast; omega)⟩, ⟨⟨hx, ⟨hf.1 36 rfl, ⟨hf.1 36 rfl, hf.2 34 rfl, hf.2 35 rfl⟩, hf.1 42 rfl, trivial, ⟨hf.1 41 rfl, hf.2 40 rfl⟩, ⟨hf.1 52 rfl, hf.2 51 rfl⟩, ⟨hf.1 60 rfl, hf.1 61 rfl, hf.2 58 rfl, hf.2 59 rfl⟩⟩⟩, ⟨hf.1 56 rfl, hf.1 31 rfl, hf.1 32 rfl, hf.1 33 rfl⟩, ⟨hf.1 3 rfl, hf.2 2 rfl⟩, ⟨hf.1 30 rfl, hf.2 29 rfl⟩, ⟨hf.1 4 rfl, hf.2 5 rfl, hf.2 6 rfl, hf.2 7 rfl, hf.2 10 rfl, hf.1 19 rfl, hf.2 18 rfl, hf.2 11 rfl, hf.2 8 rfl, hf.2 9 rfl, hf.2 12 rfl, hf.2 13 rfl, hf.2 14 rfl, hf.2 15 rfl, hf.2 16 rfl, hf.2 17 rfl⟩⟩⟩
end
section
set_option maxHeartbeats 4000000 in
set_option maxRecDepth 100000 in
theorem G_copyOf_5 {l : Launch} {G : GT} {mi : Nat} {sk : Nat → Nat} {L : List Nat} {cl ln : Nat → Nat} {iv : Nat → Nat → Int} {rv : Nat → Nat → Option Nat}  {a0 : Nat} {n : Int} (hW : WT (g0 G) sk L cl ln iv rv) (hS : SKL sk L cl) (t_a0 : ty L cl a0 35) (h_n : -2147483648 ≤ n ∧ n ≤ 2147483647) (hn : ((ln a0 : Nat) : Int) < n ∧ 16 ≤ n ∧ n ≤ 400) : Mc l G mi zPf 0 yJ7_copyOf_59c91 cJ7_copyOf_59c91 3 (some (.array .int)) 1 [.ref a0, .int (iI n)] L cl ln iv rv (16 + n.toNat) (fun v L2 cl2 ln2 iv2 rv2 => ∃ f : Nat, v = some (.ref f) ∧ XT L cl ln L2 cl2 ln2 ∧ fT [35] L cl iv rv iv2 rv2 ∧ WT (g0 G) sk L2 cl2 ln2 iv2 rv2 ∧ ty L2 cl2 f 35 ∧ (ln2 f = n.toNat ∧ ∀ j : Nat, j < ln a0 → iv2 f j = iv a0 j)) := by
  refine Mc.mk (by decide) (Nat.le_of_ble_eq_true rfl) ?_
  intro p e s m args below meth c A C hM
  refine hv3 ((show zPf ln rv ≤ 0 from Nat.le_refl 0)) (show XT L cl ln L cl ln from XT.refl) (show fT [35] L cl iv rv iv rv from fT.refl) (fun hph hX0 hF0 => ?_)
  refine c_iload_n (j := 1) C dJ7_copyOf_59c91_0 rfl ?_
  refine c_aload_n (j := 0) (x := a0) C dJ7_copyOf_59c91_1 rfl ?_
  have ll1 : 16 ≤ ln a0 ∧ ln a0 ≤ 400 := hW.len t_a0 rfl
  refine c_alenI C dJ7_copyOf_59c91_2 t_a0 rfl ?_
  refine c_icmp_ne (tgt := 14) C ⟨by omega, by omega⟩ ⟨by omega, by omega⟩ dJ7_copyOf_59c91_3 (by decide) (fun _ => ?_) (fun z => absurd z (by omega))
  refine c_iload_n (j := 1) C dJ7_copyOf_59c91_14 rfl ?_
  refine c_newaI (z := n) (N := n.toNat) C 35 dJ7_copyOf_59c91_15 w1_57 rfl (by omega) (by omega) (rom2 hph hph (by omega)) (fun qn1 cln1 lnn1 ivn1 rvn1 hqn1 hcn1 hln1 hin1 hrn1 => ⟨(0 + (16 + n.toNat)), (z_in (by omega)), ?_⟩)
  refine c_g0 C (fun hg1 => ?_)
  refine hv5 (show ∀ b, b ≠ qn1 → lnn1 b = ln b from (fun b hb => by rw [hln1]; exact va_up_ne _ _ hb)) (show lnn1 qn1 = n.toNat from by rw [hln1]; exact va_up_self _ _ _) (hF0.new hX0 hqn1 hin1 hrn1) (show ty (L ++ [qn1]) cln1 qn1 35 from ty_new hcn1) (show qn1 ∉ L from fun h => hqn1 ((hX0 qn1 h).1)) (fun hxn1 lqn1 F1 tqn1 h0qn1 => ?_)
  refine hv2 (hW.new (ln2 := lnn1) hqn1 (hg1 qn1 (List.mem_append_right _ List.mem_cons_self)) hcn1 hxn1 hin1 hrn1 (fun _ => ⟨(show (-2147483648 : Int) ≤ 0 by decide), (show (0 : Int) ≤ 2147483647 by decide)⟩) (Or.inr (fun _ => rfl)) (fun _ => by show 16 ≤ lnn1 qn1 ∧ lnn1 qn1 ≤ 400; omega) rfl rfl) (XT.new hqn1 hcn1 hxn1) (fun W1 xl1 => ?_)
  refine hv2 (hX0.trans xl1) (xl1.skl hS) (fun X1 sk1 => ?_)
  refine c_astore_n (lv2 := [(2, .ref qn1), (0, .ref a0), (1, .int (iI n))]) C dJ7_copyOf_59c91_17 (by decide) rfl ?_
  refine c_aload_n (j := 1) (x := a0) C dJ7_copyOf_59c91_18 rfl ?_
  refine c_iconst C dJ7_copyOf_59c91_19 ?_
  refine c_aload_n (j := 0) (x := qn1) C dJ7_copyOf_59c91_20 rfl ?_
  refine c_iconst C dJ7_copyOf_59c91_21 ?_
  refine c_aload_n (j := 1) (x := a0) C dJ7_copyOf_59c91_22 rfl ?_
  have ty1 := xl1.ty t_a0
  have ll2 : 16 ≤ lnn1 a0 ∧ lnn1 a0 ≤ 400 := W1.len ty1 rfl
  refine c_alenI C dJ7_copyOf_59c91_23 ty1 rfl ?_
  refine c_iload_n (j := 2) C dJ7_copyOf_59c91_24 rfl ?_
  obtain ⟨mn1, hmn1, emn1⟩ := mmin_c (x := ((lnn1 a0 : Nat) : Int)) (y := n) ⟨by omega, by omega⟩ ⟨by omega, by omega⟩
  refine c_mmin (w := iI mn1) C dJ7_copyOf_59c91_25 w2_128 w2_129 w1_14 w2_130 (by decide) (rom0 hph (Nat.le_refl 0) (by omega)) (Nat.le_of_ble_eq_true rfl) emn1 ?_
  have ll3 : 16 ≤ lnn1 qn1 ∧ lnn1 qn1 ≤ 400 := W1.len tqn1 rfl
  refine c_copyi (sp := 0) (dp := 0) (n := mn1) C dJ7_copyOf_59c91_28 w2_131 w2_133 w2_132 w1_15 ty1 rfl tqn1 rfl (by omega) (by omega) (by omega) (by omega) (by omega) (by omega) (by omega) (by decide) (Nat.le_of_ble_eq_true rfl) (fun iv1 pq1 => ?_)
  refine hv2 (W1.copy pq1 tqn1 ty1 (fun _ => rfl) (fun _ => rfl) (fun _ => rfl) (fun _ => rfl) rfl) (F1.copy X1 pq1 tqn1 rfl) (fun W2 F2 => ?_)
  refine c_aload_n (j := 0) (x := qn1) C dJ7_copyOf_59c91_31 rfl ?_
  have le1 : lnn1 a0 = ln a0 := (xl1 a0 t_a0.1).2.2
  exact c_aret (x := some qn1) C dJ7_copyOf_59c91_32 rfl (Or.inr ⟨_, rfl⟩) (by omega) (rom0 hph (Nat.le_refl 0) (by omega)) ⟨qn1, rfl, X1, F2, W2, tqn1, ⟨lqn1, fun j hj => by
      rw [pq1]
      show (if qn1 = qn1 then (if (0 : Int).toNat ≤ j ∧ j < (0 : Int).toNat + mn1.toNat then ivn1 a0 ((0 : Int).toNat + (j - (0 : Int).toNat)) else ivn1 qn1 j) else ivn1 qn1 j) = _
      rw [if_pos rfl, if_pos ⟨by omega, by omega⟩, hin1, congrFun (up0_a (ne_in t_a0.1 hqn1)) _]
      exact congrArg (iv a0) (by omega)⟩⟩
set_option maxHeartbeats 4000000 in
set_option maxRecDepth 100000 in
theorem G_add_5 {l : Launch} {G : GT} {mi : Nat} {sk : Nat → Nat} {L : List Nat} {cl ln : Nat → Nat} {iv : Nat → Nat → Int} {rv : Nat → Nat → Option Nat}  {a0 : Nat} {x : Int} (hW : WT (g0 G) sk L cl ln iv rv) (hS : SKL sk L cl) (t_a0 : ty L cl a0 5) (h_x : -2147483648 ≤ x ∧ x ≤ 2147483647)  : Mc l G mi (Phi (g0 G) sk) PHM yX1_add cX1_add 2 none 2 [.ref a0, .int (iI x)] L cl ln iv rv 0 (fun v L2 cl2 ln2 iv2 rv2 => v = none ∧ XT L cl ln L2 cl2 ln2 ∧ fT [5, 35] L cl iv rv iv2 rv2 ∧ WT (g0 G) sk L2 cl2 ln2 iv2 rv2 ∧ (((iv2 a0 2 = iv a0 2 ∧ iv a0 2 = 200) ∨ (iv2 a0 2 = iv a0 2 + 1 ∧ iv a0 2 < 200)) ∧ (∀ ss, CT iv rv a0 ss → iv a0 2 < 200 → CT iv2 rv2 a0 (va_up ss (iv a0 2).toNat x)) ∧ (iv a0 2 = 200 → ∀ ss, CT iv rv a0 ss → CT iv2 rv2 a0 ss))) := by
  refine Mc.mk (by decide) (Nat.le_of_ble_eq_true rfl) ?_
  intro p e s m args below meth c A C hM
  refine hv3 (Phi.le hW hS) (show XT L cl ln L cl ln from XT.refl) (show fT [5, 35] L cl iv rv iv rv from fT.refl) (fun hph hX0 hF0 => ?_)
  refine c_aload_n (j := 0) (x := a0) C dX1_add_0 rfl ?_
  have ri1 : 0 ≤ iv a0 2 ∧ iv a0 2 ≤ 200 := hW.int t_a0 2
  refine c_get (k := 2) C ck_2 dX1_add_1 w1_43 (by decide) t_a0 rfl rfl (by decide) rfl ?_
  refine c_aload_n (j := 0) (x := a0) C dX1_add_4 rfl ?_
  have ri2 : 200 ≤ iv a0 0 ∧ iv a0 0 ≤ 200 := hW.int t_a0 0
  refine c_get (k := 0) C ck_2 dX1_add_5 w1_38 (by decide) t_a0 rfl rfl (by decide) rfl ?_
  refine c_icmp_lt (tgt := 12) C (r32_c (lo := 0) (hi := 200) ri1.1 ri1.2 (by decide) (by decide)) (r32_c (lo := 200) (hi := 200) ri2.1 ri2.2 (by decide) (by decide)) dX1_add_8 (by decide) (fun c1 => ?_) (fun c1 => ?_)
  · refine c_aload_n (j := 0) (x := a0) C dX1_add_12 rfl ?_
    refine c_get (k := 2) C ck_2 dX1_add_13 w1_43 (by decide) t_a0 rfl rfl (by decide) rfl ?_
    refine c_aload_n (j := 0) (x := a0) C dX1_add_16 rfl ?_
    obtain ⟨rb1, rq1, trb1⟩ := hW.ref t_a0 1 rfl rfl rfl
    refine hv2 (show 16 ≤ ln rb1 ∧ ln rb1 ≤ 400 from hW.len trb1 rfl) (hW.isz t_a0 rfl rfl rq1) (fun lnrb1 szrb1 => ?_)
    refine c_getr (k := 1) C ck_2 dX1_add_17 w1_39 (by decide) t_a0 rfl rfl (by decide) rfl rq1 ?_
    refine c_st (st2 := [.ref rb1, .int (iI (iv a0 2))]) rfl ?_
    have ll1 : 16 ≤ ln rb1 ∧ ln rb1 ≤ 400 := hW.len trb1 rfl
    refine c_alenI C dX1_add_20 trb1 rfl ?_
    refine c_icmp_lt (tgt := 42) C (r32_c (lo := 0) (hi := 200) ri1.1 ri1.2 (by decide) (by decide)) ⟨by omega, by omega⟩ dX1_add_21 (by decide) (fun c2 => ?_) (fun c2 => ?_)
    · refine c_aload_n (j := 0) (x := a0) C dX1_add_42 rfl ?_
      refine c_getr (k := 1) C ck_2 dX1_add_43 w1_39 (by decide) t_a0 rfl rfl (by decide) rfl rq1 ?_
      refine c_st (st2 := [.ref rb1]) rfl ?_
      refine c_aload_n (j := 0) (x := a0) C dX1_add_46 rfl ?_
      refine c_get (k := 2) C ck_2 dX1_add_47 w1_43 (by decide) t_a0 rfl rfl (by decide) rfl ?_
      refine c_iload_n (j := 1) C dX1_add_50 rfl ?_
      refine c_iast (x := x) C dX1_add_51 trb1 rfl (by omega) (by omega) (by omega) (fun iv1 pq1 => ?_)
      refine hv2 (hW.puti pq1 trb1 (show (-2147483648) ≤ x ∧ x ≤ 2147483647 by omega) rfl) (hF0.puti hX0 pq1 trb1 rfl) (fun W1 F1 => ?_)
      refine c_aload_n (j := 0) (x := a0) C dX1_add_52 rfl ?_
      refine c_dup C dX1_add_53 rfl ?_
      refine hv2 (show 0 ≤ iv1 a0 2 ∧ iv1 a0 2 ≤ 200 from W1.int t_a0 2) (show iv1 a0 2 = iv a0 2 from by rw [pq1]; exact up2_k (ne_ty t_a0 trb1 (by decide))) (fun ri3 ie1 => ?_)
      refine c_get (k := 2) C ck_2 dX1_add_54 w1_43 (by decide) t_a0 rfl rfl (by decide) rfl ?_
      refine c_iconst C dX1_add_57 ?_
      refine c_iadd C dX1_add_58 ?_
      refine c_put (z := (iv1 a0 2) + 1) (k := 2) C ck_2 dX1_add_59 w1_43 (by decide) rfl t_a0 rfl rfl (by decide) rfl (by rfl) (by rfl) (fun iv2 pq2 => ?_)
      refine hv3 (W1.isz_put pq2 t_a0 (show 0 ≤ ((iv1 a0 2) + 1) ∧ ((iv1 a0 2) + 1) ≤ 200 by omega) rfl rfl rq1 (show ((iv1 a0 2) + 1) ≤ ((ln rb1 : Nat) : Int) by omega)) (F1.puti hX0 pq2 t_a0 rfl) (show iv2 a0 2 = (iv1 a0 2) + 1 from by rw [pq2]; exact up2_s) (fun W2 F2 ie2 => ?_)
      have ri4 : 0 ≤ iv2 a0 2 ∧ iv2 a0 2 ≤ 200 := W2.int t_a0 2
      exact c_vret C dX1_add_62 rfl (by decide) (rom0 hph hph (by decide)) ⟨rfl, hX0, F2, W2, ⟨by omega, (fun ss hs hq b2 hb j hj => by
          rw [rq1] at hb
          cases hb
          rw [pq2, up2_k (ne_ty trb1 t_a0 (by decide)), pq1]
          by_cases e : j = (iv a0 2).toNat
          · subst e; rw [up2_s, va_up_self]
          · rw [up2_j e, va_up_ne _ _ e]; exact hs _ rq1 j (by omega)), (fun e => absurd e (by omega))⟩⟩
    · refine c_aload_n (j := 0) (x := a0) C dX1_add_24 rfl ?_
      refine c_aload_n (j := 0) (x := a0) C dX1_add_25 rfl ?_
      refine c_getr (k := 1) C ck_2 dX1_add_26 w1_39 (by decide) t_a0 rfl rfl (by decide) rfl rq1 ?_
      refine c_st (st2 := [.ref rb1, .ref a0]) rfl ?_
      refine c_aload_n (j := 0) (x := a0) C dX1_add_29 rfl ?_
      refine c_getr (k := 1) C ck_2 dX1_add_30 w1_39 (by decide) t_a0 rfl rfl (by decide) rfl rq1 ?_
      refine c_st (st2 := [.ref rb1, .ref rb1, .ref a0]) rfl ?_
      refine c_alenI C dX1_add_33 trb1 rfl ?_
      refine c_iconst C dX1_add_34 ?_
      refine c_imul C dX1_add_35 ?_
      refine c_g0 C (fun hg0 => ?_)
      refine hv2 (hW.sk t_a0 (by decide) rfl) (cap_of (ln := ln) rq1 (hg0 rb1 trb1.1)) (fun ask0 cp0 => ?_)
      have sl0 := Phi.slack (t := 5) (n := ln rb1) hW hS ⟨by decide, by decide⟩ (by rw [← ask0]; exact cp0) (by show ln rb1 ≤ 200; omega)
      refine c_callS (As := [.ref rb1, .int (iI (((ln rb1 : Nat) : Int) * 2))]) (rest := [.ref a0]) C hM (G_copyOf_5 (a0 := rb1) (n := ((ln rb1 : Nat) : Int) * 2) hW hS trb1 (by omega) (by show ((ln rb1 : Nat) : Int) < (((ln rb1 : Nat) : Int) * 2) ∧ 16 ≤ (((ln rb1 : Nat) : Int) * 2) ∧ (((ln rb1 : Nat) : Int) * 2) ≤ 400; omega)) dX1_add_36 kS_X1_20 rfl rfl (Nat.le_of_ble_eq_true rfl) ⟨(Nat.le_of_ble_eq_true rfl), (Nat.le_of_ble_eq_true rfl)⟩ (by unfold zPf; omega) (fun rh1 Lh1 clh1 lnh1 ivh1 rvh1 h1 => ⟨(0 + (16 + (((ln rb1 : Nat) : Int) * 2).toNat)), (zk1 (by obtain ⟨_, _, xlh1x, flh1x, Wh1x, _⟩ := h1; exact Phi.fr hW hS xlh1x flh1x rfl)), ?_⟩)
      obtain ⟨f1, rfl, xl1, fl1, W3, rgf1, exf1⟩ := h1
      refine hv3 (hF0.call hX0 fl1 rfl) (hX0.trans xl1) (xl1.skl hS) (fun F3 X1 sk1 => ?_)
      refine c_st (st2 := [.ref f1, .ref a0]) rfl ?_
      refine hv3 (show lnh1 f1 = (((ln rb1 : Nat) : Int) * 2).toNat ∧ ∀ j : Nat, j < ln rb1 → ivh1 f1 j = iv rb1 j from exf1) (xl1.ty t_a0) (show rvh1 a0 1 = rv a0 1 from (fl1.r t_a0 rfl 1)) (fun gf1 ty1 re1 => ?_)
      rw [rq1] at re1
      refine hv4 (show 0 ≤ ivh1 a0 2 ∧ ivh1 a0 2 ≤ 200 from W3.int ty1 2) (show ivh1 a0 2 = iv a0 2 from fl1.i t_a0 rfl 2) (xl1.ty trb1) (show lnh1 rb1 = ln rb1 from (xl1 rb1 trb1.1).2.2) (fun ri5 ie3 ty2 le1 => ?_)
      refine c_g0 C (fun hg1 => ?_)
      refine hv2 (W3.sk ty1 (by decide) rfl) (cap_of (ln := lnh1) re1 (hg1 rb1 ty2.1)) (fun ask cpo => ?_)
      refine c_putr (x := (some f1)) (k := 1) C ck_2 dX1_add_39 w1_39 (by decide) rfl ty1 rfl rfl (by decide) rfl (by rfl) (by rfl) (fun rv1 pq3 => ⟨0, (by have gr := Phi.grow (g := g0 G) (rv2 := rv1) (rv := rvh1) (b := f1) (ln := lnh1) (t := 5) sk1 (by rw [← ask]; exact pq3) (hg1 f1 rgf1.1) (Or.inl ⟨by decide, by decide⟩); rw [← ask] at gr; have gr2 : Phi (g0 G) sk lnh1 rv1 + 3 * cap (g0 G) lnh1 rvh1 a0 = Phi (g0 G) sk lnh1 rvh1 + 3 * lnh1 f1 := gr; omega), ?_⟩)
      refine hv2 (W3.putit pq3 ty1 rfl rfl rgf1 (by omega)) (F3.putr X1 pq3 ty1 rfl) (fun W4 F4 => ?_)
      refine c_aload_n (j := 0) (x := a0) C dX1_add_42 rfl ?_
      have rp1 : rv1 a0 1 = (some f1) := by rw [pq3]; exact upr_s
      refine c_getr (k := 1) C ck_2 dX1_add_43 w1_39 (by decide) ty1 rfl rfl (by decide) rfl rp1 ?_
      refine c_st (st2 := [.ref f1]) rfl ?_
      refine c_aload_n (j := 0) (x := a0) C dX1_add_46 rfl ?_
      refine c_get (k := 2) C ck_2 dX1_add_47 w1_43 (by decide) ty1 rfl rfl (by decide) rfl ?_
      refine c_iload_n (j := 1) C dX1_add_50 rfl ?_
      have ll2 : 16 ≤ lnh1 f1 ∧ lnh1 f1 ≤ 400 := W4.len rgf1 rfl
      refine c_iast (x := x) C dX1_add_51 rgf1 rfl (by omega) (by omega) (by omega) (fun iv3 pq4 => ?_)
      refine hv2 (W4.puti pq4 rgf1 (show (-2147483648) ≤ x ∧ x ≤ 2147483647 by omega) rfl) (F4.puti X1 pq4 rgf1 rfl) (fun W5 F5 => ?_)
      refine c_aload_n (j := 0) (x := a0) C dX1_add_52 rfl ?_
      refine c_dup C dX1_add_53 rfl ?_
      refine hv2 (show 0 ≤ iv3 a0 2 ∧ iv3 a0 2 ≤ 200 from W5.int ty1 2) (show iv3 a0 2 = ivh1 a0 2 from by rw [pq4]; exact up2_k (ne_ty ty1 rgf1 (by decide))) (fun ri6 ie4 => ?_)
      refine c_get (k := 2) C ck_2 dX1_add_54 w1_43 (by decide) ty1 rfl rfl (by decide) rfl ?_
      refine c_iconst C dX1_add_57 ?_
      refine c_iadd C dX1_add_58 ?_
      refine c_put (z := (iv3 a0 2) + 1) (k := 2) C ck_2 dX1_add_59 w1_43 (by decide) rfl ty1 rfl rfl (by decide) rfl (by rfl) (by rfl) (fun iv4 pq5 => ?_)
      refine hv3 (W5.isz_put pq5 ty1 (show 0 ≤ ((iv3 a0 2) + 1) ∧ ((iv3 a0 2) + 1) ≤ 200 by omega) rfl rfl rp1 (show ((iv3 a0 2) + 1) ≤ ((lnh1 f1 : Nat) : Int) by omega)) (F5.puti X1 pq5 ty1 rfl) (show iv4 a0 2 = (iv3 a0 2) + 1 from by rw [pq5]; exact up2_s) (fun W6 F6 ie5 => ?_)
      refine hv2 (show 0 ≤ iv4 a0 2 ∧ iv4 a0 2 ≤ 200 from W6.int ty1 2) (Phi.le W6 sk1) (fun ri7 pl1 => ?_)
      exact c_vret C dX1_add_62 rfl (by decide) (rom0 hph pl1 (by decide)) ⟨rfl, X1, F6, W6, ⟨by omega, (fun ss hs hq b2 hb j hj => by
          rw [rp1] at hb
          cases hb
          rw [pq5, up2_k (ne_ty rgf1 ty1 (by decide)), pq4]
          by_cases e : j = (iv a0 2).toNat
          · subst e; rw [show (iv a0 2).toNat = (ivh1 a0 2).toNat from congrArg Int.toNat (by omega), up2_s, va_up_self]
          · rw [up2_j (fun e2 => e (e2.trans (congrArg Int.toNat (by omega)))), va_up_ne _ _ e, gf1.2 j (by omega)]; exact hs _ rq1 j (by omega)), (fun e => absurd e (by omega))⟩⟩
  · exact c_vret C dX1_add_11 rfl (by decide) (rom0 hph hph (by decide)) ⟨rfl, hX0, hF0, hW, ⟨by omega, (fun ss hs hq => absurd hq (by omega)), fun _ ss hs => hs⟩⟩
end
section
def HDB (sk ln : Nat → Nat) (iv : Nat → Nat → Int) (rv : Nat → Nat → Option Nat) (iv1 : Nat → Nat → Int) (rv1 : Nat → Nat → Option Nat) (i : Int) : Prop := ∀ v a, TRL sk ln iv rv v a → iv (sk 2) 2 = v 3 → CT iv rv (sk 2) (a 2) → ∃ cs, SWC a (a 2) (v 3) i cs ∧ PDH iv1 rv1 (sk 15) cs ∧ CT iv1 rv1 (sk 5) (fun j => (cs[j]?).getD 0)
def HDY (sk ln : Nat → Nat) (iv : Nat → Nat → Int) (rv : Nat → Nat → Option Nat) (iv2 : Nat → Nat → Int) (rv2 : Nat → Nat → Option Nat) (i f : Int) : Prop := (f = -1 ∧ iv2 (sk 5) 2 = iv (sk 5) 2 ∧ ∀ ss, CT iv rv (sk 5) ss → CT iv2 rv2 (sk 5) ss) ∨ (0 ≤ f ∧ iv2 (sk 5) 2 = f ∧ HDB sk ln iv rv iv2 rv2 i)
section HRO2
variable {h : Nat} {sk : Nat → Nat} {L L1 : List Nat} {cl ln cl1 ln1 : Nat → Nat} {iv iv1 iv2 iv3 : Nat → Nat → Int} {rv rv1 rv2 : Nat → Nat → Option Nat} {s b cb : Nat} {l : List Int} {x k f fl f2 i : Int} {ls : List Nat}
theorem PDH.frr (hW : WT h sk L cl ln iv1 rv1) (hF : fT ls L cl iv1 rv1 iv2 rv2) (ts : ty L cl s 15) (h15 : ls.contains 15 = false) (h54 : ls.contains 54 = false) (hp : PDH iv1 rv1 s l) : PDH iv2 rv2 s l := by
  refine ⟨(hF.i ts h15 7).trans hp.1, fun cb hb j d hj e => ?_⟩
  rw [hF.r ts h15 6] at hb
  obtain ⟨b', q1, t3⟩ := hW.ref ts 6 rfl rfl rfl
  rw [hb] at q1; cases q1
  rw [hF.i t3 h54 j]
  exact hp.2 cb hb j d hj e
theorem HDB.mk (w : WOX sk ln1 iv1 rv1 i (some b)) (hq : QT h sk L cl ln iv rv L1 cl1 ln1 iv1 rv1) (hl : LTA sk ln iv rv iv1 rv1 k) (h4 : iv1 (sk 15) 4 = k) (hk : k = iv (sk 2) 2) (sb : SBX sk ln1 iv1 rv1 iv2 (sk 15) b f2) (hf2 : f2 = 0) (hW : WT h sk L1 cl1 ln1 iv2 rv1) (hF : fT ls L1 cl1 iv2 rv1 iv3 rv1) (ts : ty L1 cl1 (sk 15) 15) (h15 : ls.contains 15 = false) (h54 : ls.contains 54 = false) (h5 : iv3 (sk 5) 2 = 0) : HDB sk ln iv rv iv3 rv1 i := fun v a hR h3 hc => by
  obtain ⟨c1, c2, c3, c4⟩ := HDX.cb w hq hl h4 hk hR h3 hc
  obtain ⟨cs, s1, s2, s3⟩ := (sb v a _ _ c1).1 hf2
  rw [c2, c3] at s1
  exact ⟨cs, SWC.iff0.mpr ⟨s1, s2⟩, PDH.frr hW hF ts h15 h54 s3.1, CT.zero h5⟩
theorem HDB.step (hb : HDB sk ln iv rv iv1 rv1 i) (hW : WT h sk L1 cl1 ln1 iv1 rv1) (hF : fT ls L1 cl1 iv1 rv1 iv2 rv2) (ts : ty L1 cl1 (sk 15) 15) (h15 : ls.contains 15 = false) (h54 : ls.contains 54 = false) (g : ∀ ss, CT iv1 rv1 (sk 5) ss → iv1 (sk 5) 2 < 200 → CT iv2 rv2 (sk 5) (va_up ss (iv1 (sk 5) 2).toNat x)) (h6 : rv1 (sk 15) 6 = some cb) (hx : x = iv1 cb (iv1 (sk 5) 2).toNat) (hk : 0 ≤ iv1 (sk 5) 2 ∧ iv1 (sk 5) 2 < iv1 (sk 15) 7 ∧ iv1 (sk 5) 2 < 200) : HDB sk ln iv rv iv2 rv2 i := fun v a hR h3 hc => by
  obtain ⟨cs, s1, s2, s3⟩ := hb v a hR h3 hc
  have e := s2.1
  refine ⟨cs, s1, PDH.frr hW hF ts h15 h54 s2, ?_⟩
  have w := g _ s3 hk.2.2
  have ex : x = (cs[(iv1 (sk 5) 2).toNat]?).getD 0 := by
    have lt : (iv1 (sk 5) 2).toNat < cs.length := by omega
    have e1 := List.getElem?_eq_getElem lt
    rw [hx, e1, s2.2 cb h6 _ _ (by omega) e1]
    rfl
  have ee : va_up (fun j => (cs[j]?).getD 0) (iv1 (sk 5) 2).toNat x = fun j => (cs[j]?).getD 0 := by
    funext j
    unfold va_up
    split
    · rename_i e2
      rw [e2, ex]
    · rfl
  rw [ee] at w
  exact w
theorem HDB.fr (hb : HDB sk ln iv rv iv1 rv1 i) (hW : WT h sk L1 cl1 ln1 iv1 rv1) (hF : fT ls L1 cl1 iv1 rv1 iv2 rv2) (ts : ty L1 cl1 (sk 15) 15) (t5 : ty L1 cl1 (sk 5) 5) (h15 : ls.contains 15 = false) (h54 : ls.contains 54 = false) (h5 : ls.contains 5 = false) (h35 : ls.contains 35 = false) : HDB sk ln iv rv iv2 rv2 i := fun v a hR h3 hc => by
  obtain ⟨cs, s1, s2, s3⟩ := hb v a hR h3 hc
  exact ⟨cs, s1, PDH.frr hW hF ts h15 h54 s2, CT.fr s3 hW t5 hF h5 h35 rfl rfl rfl⟩
end HRO2
end
