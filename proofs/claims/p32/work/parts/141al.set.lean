section
set_option maxHeartbeats 4000000 in
set_option maxRecDepth 100000 in
theorem G_push {l : Launch} {G : GT} {mi : Nat} {sk : Nat → Nat} {L : List Nat} {cl ln : Nat → Nat} {iv : Nat → Nat → Int} {rv : Nat → Nat → Option Nat}  {a0 : Nat} {r : Option Nat} (hW : WT (g0 G) sk L cl ln iv rv) (hS : SKL sk L cl) (t_a0 : ty L cl a0 15) (t_r : ∀ b, r = some b → ty L cl b 20) (hc : iv a0 7 ≤ 90000) : Mc l G mi (Phi (g0 G) sk) PHM yX6_push cX6_push 3 none 0 [.ref a0, va_rf r] L cl ln iv rv 0 (fun v L2 cl2 ln2 iv2 rv2 => v = none ∧ L = L2 ∧ cl = cl2 ∧ ln = ln2 ∧ rv = rv2 ∧ fT [15, 54] L cl iv rv iv2 rv2 ∧ WT (g0 G) sk L2 cl2 ln2 iv2 rv2 ∧ ((iv2 a0 4 = iv a0 4 ∧ iv a0 7 ≤ iv2 a0 7 ∧ iv2 a0 7 ≤ iv a0 7 + 4 ∧ iv2 a0 10 = iv a0 10 ∧ iv2 a0 11 = iv a0 11) ∧ PUX ln iv rv iv2 a0 r)) := by
  refine Mc.mk (by decide) (by cases r <;> exact Nat.le_of_ble_eq_true rfl) ?_
  intro p e s m args below meth c A C hM
  have hph := Phi.le hW hS
  refine c_lveq (show lv_args 0 [.ref a0, va_rf r] = [(0, .ref a0), (1, (va_rf r))] from by cases r <;> rfl) ?_
  refine hv3 ((hW.int t_a0 7).1) (show XT L cl ln L cl ln from XT.refl) (show fT [15, 54] L cl iv rv iv rv from fT.refl) (fun hc0 hX0 hF0 => ?_)
  have hc00 : 0 ≤ iv a0 7 := hc0
  refine c_aloadr_n (j := 1) (r := r) C dX6_push_0 rfl ?_
  refine c_ifnonnull (r := r) (tgt := 5) C dX6_push_1 (by decide) (fun ob1 oq1 => ?_) (fun oq1 => ?_)
  · subst oq1
    have tob1 := t_r ob1 rfl
    refine c_lv (lv2 := [(0, .ref a0), (1, .ref ob1)]) [0, 1] rfl ?_
    refine c_st (st2 := []) rfl ?_
    refine c_iconst C dX6_push_5 ?_
    refine c_istore_n (lv2 := [(2, .int (iI 0)), (0, .ref a0), (1, .ref ob1)]) C dX6_push_6 (by decide) rfl ?_
    have Lp1 : ∀ (nn : Nat) (k : Int) (ivb1 : Nat → Nat → Int) , 5 - k < (nn : Int) → WT (g0 G) sk L cl ln ivb1 rv → fT [15, 54] L cl iv rv ivb1 rv → (0 ≤ k ∧ k ≤ 4) → (ivb1 a0 7 = iv a0 7 + k) → (ivb1 a0 4 = iv a0 4) → (0 ≤ iv a0 7) → (ivb1 a0 10 = iv a0 10 ∧ ivb1 a0 11 = iv a0 11) → (PUK ln iv rv ivb1 a0 (some ob1) k) → cw p l e 0 ((PHM) + 0 - ((Phi (g0 G) sk) ln rv)) s m args below meth c G A 3 (MQ below (Qu G A (Qp G (Phi (g0 G) sk) ((Phi (g0 G) sk) ln rv) 0 (fun v L2 cl2 ln2 iv2 rv2 => v = none ∧ L = L2 ∧ cl = cl2 ∧ ln = ln2 ∧ rv = rv2 ∧ fT [15, 54] L cl iv rv iv2 rv2 ∧ WT (g0 G) sk L2 cl2 ln2 iv2 rv2 ∧ ((iv2 a0 4 = iv a0 4 ∧ iv a0 7 ≤ iv2 a0 7 ∧ iv2 a0 7 ≤ iv a0 7 + 4 ∧ iv2 a0 10 = iv a0 10 ∧ iv2 a0 11 = iv a0 11) ∧ PUX ln iv rv iv2 a0 (some ob1))))) args s (((PHM) + 0 - ((Phi (g0 G) sk) ln rv)) / 16) ((PHM) + 0 - ((Phi (g0 G) sk) ln rv)) A) (Phi (g0 G) sk) ((Phi (g0 G) sk) ln rv) L cl ln ivb1 rv 0 7 [(2, .int (iI k)), (0, .ref a0), (1, .ref ob1)] [] := by
      intro nn
      induction nn with
      | zero =>
        intro  k ivb1 hm Wb1 Fb1  hk hc1 hc4 hc0 hc11 hK
        exact absurd hm (by omega)
      | succ nn ih1 =>
        intro  k ivb1 hm Wb1 Fb1  hk hc1 hc4 hc0 hc11 hK
        refine c_iload_n (j := 0) C dX6_push_7 rfl ?_
        refine c_aload_n (j := 2) (x := ob1) C dX6_push_8 rfl ?_
        obtain ⟨rb1, rq1, trb1⟩ := Wb1.ref tob1 2 rfl rfl rfl
        have lnrb1 : 1 ≤ ln rb1 ∧ ln rb1 ≤ 4 := Wb1.len trb1 rfl
        refine c_getr (k := 2) C ck_6 dX6_push_9 w3_145 (by decide) tob1 rfl rfl (by decide) rfl rq1 ?_
        refine c_st (st2 := [.ref rb1, .int (iI k)]) rfl ?_
        have ll1 : 1 ≤ ln rb1 ∧ ln rb1 ≤ 4 := Wb1.len trb1 rfl
        refine c_alenI C dX6_push_12 trb1 rfl ?_
        refine c_icmp_ge (tgt := 57) C (r32_c (lo := 0) (hi := 4) hk.1 hk.2 (by decide) (by decide)) ⟨by omega, by omega⟩ dX6_push_13 (by decide) (fun c1 => ?_) (fun c1 => ?_)
        · have ri1 : 0 ≤ ivb1 a0 4 ∧ ivb1 a0 4 ≤ 500 := Wb1.int t_a0 4
          refine hv3 (show 0 ≤ ivb1 a0 7 ∧ ivb1 a0 7 ≤ 100000 from Wb1.int t_a0 7) (show 0 ≤ ivb1 a0 10 ∧ ivb1 a0 10 ≤ 500 from Wb1.int t_a0 10) (show 0 ≤ ivb1 a0 11 ∧ ivb1 a0 11 ≤ 500 from Wb1.int t_a0 11) (fun ri2 ri3 ri4 => ?_)
          exact c_vret C dX6_push_57 rfl (by decide) (rom0 hph hph (by decide)) ⟨rfl, rfl, rfl, rfl, rfl, Fb1, Wb1, ⟨by omega, PUX.fin hK rq1 (by omega)⟩⟩
        · refine c_aload_n (j := 1) (x := a0) C dX6_push_16 rfl ?_
          have ri5 : 0 ≤ ivb1 a0 7 ∧ ivb1 a0 7 ≤ 100000 := Wb1.int t_a0 7
          refine c_get (k := 7) C ck_7 dX6_push_17 w1_147 (by decide) t_a0 rfl rfl (by decide) rfl ?_
          refine c_sipush (z := 200) C dX6_push_20 (by decide) ?_
          refine c_icmp_ge (tgt := 41) C (r32_c (lo := 0) (hi := 100000) ri5.1 ri5.2 (by decide) (by decide)) ⟨by decide, by decide⟩ dX6_push_23 (by decide) (fun c2 => ?_) (fun c2 => ?_)
          · refine c_aload_n (j := 1) (x := a0) C dX6_push_41 rfl ?_
            refine c_dup C dX6_push_42 rfl ?_
            refine c_get (k := 7) C ck_7 dX6_push_43 w1_147 (by decide) t_a0 rfl rfl (by decide) rfl ?_
            refine c_iconst C dX6_push_46 ?_
            refine c_iadd C dX6_push_47 ?_
            refine c_put (z := (ivb1 a0 7) + 1) (k := 7) C ck_7 dX6_push_48 w1_147 (by decide) rfl t_a0 rfl rfl (by decide) rfl (by rfl) (by rfl) (fun iv1 pq1 => ?_)
            refine hv2 (Wb1.puti pq1 t_a0 (show 0 ≤ ((ivb1 a0 7) + 1) ∧ ((ivb1 a0 7) + 1) ≤ 100000 by omega) rfl) (Fb1.puti hX0 pq1 t_a0 rfl) (fun W1 F1 => ?_)
            refine c_iinc (z := k) (j := 0) (lv2 := [(2, .int (iI (k + 1))), (0, .ref a0), (1, .ref ob1)]) C dX6_push_51 rfl (by decide) rfl ?_
            refine c_goto (tgt := 7) C dX6_push_54 (by decide) ?_
            refine hv8 (show 0 ≤ iv1 a0 7 ∧ iv1 a0 7 ≤ 100000 from W1.int t_a0 7) (show iv1 a0 7 = (ivb1 a0 7) + 1 from by rw [pq1]; exact up2_s) (show 0 ≤ iv1 a0 4 ∧ iv1 a0 4 ≤ 500 from W1.int t_a0 4) (show iv1 a0 4 = ivb1 a0 4 from by rw [pq1]; exact up2_j (by decide)) (show 0 ≤ iv1 a0 10 ∧ iv1 a0 10 ≤ 500 from W1.int t_a0 10) (show iv1 a0 10 = ivb1 a0 10 from by rw [pq1]; exact up2_j (by decide)) (show 0 ≤ iv1 a0 11 ∧ iv1 a0 11 ≤ 500 from W1.int t_a0 11) (show iv1 a0 11 = ivb1 a0 11 from by rw [pq1]; exact up2_j (by decide)) (fun ri6 ie6 ri7 ie7 ri8 ie9 ri9 ie11 => ?_)
            refine c_lv (lv2 := [(2, .int (iI (k + 1))), (0, .ref a0), (1, .ref ob1)]) [0, 1, 2] rfl ?_
            exact ih1  (k + 1) _ (by omega) W1 F1  (by omega) (by show iv1 a0 7 = iv a0 7 + (k + 1); omega) (ie7.trans hc4) (by omega) ⟨(ie9.trans hc11.1), (ie11.trans hc11.2)⟩ (hK.inc (by omega) rq1 (by omega) pq1 (by omega) (by omega) (s6ne hW t_a0))
          · refine c_aload_n (j := 1) (x := a0) C dX6_push_26 rfl ?_
            obtain ⟨rb2, rq2, trb2⟩ := Wb1.ref t_a0 6 rfl rfl rfl
            have lnrb2 : 200 ≤ ln rb2 ∧ ln rb2 ≤ 200 := Wb1.len trb2 rfl
            refine c_getr (k := 6) C ck_7 dX6_push_27 w1_144 (by decide) t_a0 rfl rfl (by decide) rfl rq2 ?_
            refine c_st (st2 := [.ref rb2]) rfl ?_
            refine c_aload_n (j := 1) (x := a0) C dX6_push_30 rfl ?_
            refine c_get (k := 7) C ck_7 dX6_push_31 w1_147 (by decide) t_a0 rfl rfl (by decide) rfl ?_
            refine c_aload_n (j := 2) (x := ob1) C dX6_push_34 rfl ?_
            refine c_getr (k := 2) C ck_6 dX6_push_35 w3_145 (by decide) tob1 rfl rfl (by decide) rfl rq1 ?_
            refine c_st (st2 := [.ref rb1, .int (iI (ivb1 a0 7)), .ref rb2]) rfl ?_
            refine c_iload_n (j := 0) C dX6_push_38 rfl ?_
            refine c_iald C dX6_push_39 trb1 rfl (by omega) (by omega) (by omega) ?_
            refine hv3 (show (-2147483648) ≤ ivb1 rb1 k.toNat ∧ ivb1 rb1 k.toNat ≤ 2147483647 from Wb1.int trb1 k.toNat) (show ivb1 rb1 k.toNat = iv rb1 k.toNat from Fb1.i trb1 rfl k.toNat) (show 200 ≤ ln rb2 ∧ ln rb2 ≤ 200 from Wb1.len trb2 rfl) (fun ri10 ie13 ll2 => ?_)
            refine c_iast (x := ivb1 rb1 k.toNat) C dX6_push_40 trb2 rfl (by omega) (by omega) (by omega) (fun iv2 pq2 => ?_)
            refine hv2 (Wb1.puti pq2 trb2 (show (-2147483648) ≤ (ivb1 rb1 k.toNat) ∧ (ivb1 rb1 k.toNat) ≤ 2147483647 by omega) rfl) (Fb1.puti hX0 pq2 trb2 rfl) (fun W2 F2 => ?_)
            refine c_aload_n (j := 1) (x := a0) C dX6_push_41 rfl ?_
            refine c_dup C dX6_push_42 rfl ?_
            refine hv2 (show 0 ≤ iv2 a0 7 ∧ iv2 a0 7 ≤ 100000 from W2.int t_a0 7) (show iv2 a0 7 = ivb1 a0 7 from by rw [pq2]; exact up2_k (ne_ty t_a0 trb2 (by decide))) (fun ri11 ie14 => ?_)
            refine c_get (k := 7) C ck_7 dX6_push_43 w1_147 (by decide) t_a0 rfl rfl (by decide) rfl ?_
            refine c_iconst C dX6_push_46 ?_
            refine c_iadd C dX6_push_47 ?_
            refine c_put (z := (iv2 a0 7) + 1) (k := 7) C ck_7 dX6_push_48 w1_147 (by decide) rfl t_a0 rfl rfl (by decide) rfl (by rfl) (by rfl) (fun iv3 pq3 => ?_)
            refine hv2 (W2.puti pq3 t_a0 (show 0 ≤ ((iv2 a0 7) + 1) ∧ ((iv2 a0 7) + 1) ≤ 100000 by omega) rfl) (F2.puti hX0 pq3 t_a0 rfl) (fun W3 F3 => ?_)
            refine c_iinc (z := k) (j := 0) (lv2 := [(2, .int (iI (k + 1))), (0, .ref a0), (1, .ref ob1)]) C dX6_push_51 rfl (by decide) rfl ?_
            refine c_goto (tgt := 7) C dX6_push_54 (by decide) ?_
            refine hv11 (show 0 ≤ iv3 a0 7 ∧ iv3 a0 7 ≤ 100000 from W3.int t_a0 7) (show iv3 a0 7 = (iv2 a0 7) + 1 from by rw [pq3]; exact up2_s) (show 0 ≤ iv3 a0 4 ∧ iv3 a0 4 ≤ 500 from W3.int t_a0 4) (show iv3 a0 4 = iv2 a0 4 from by rw [pq3]; exact up2_j (by decide)) (show iv2 a0 4 = ivb1 a0 4 from by rw [pq2]; exact up2_k (ne_ty t_a0 trb2 (by decide))) (show 0 ≤ iv3 a0 10 ∧ iv3 a0 10 ≤ 500 from W3.int t_a0 10) (show iv3 a0 10 = iv2 a0 10 from by rw [pq3]; exact up2_j (by decide)) (show iv2 a0 10 = ivb1 a0 10 from by rw [pq2]; exact up2_k (ne_ty t_a0 trb2 (by decide))) (show 0 ≤ iv3 a0 11 ∧ iv3 a0 11 ≤ 500 from W3.int t_a0 11) (show iv3 a0 11 = iv2 a0 11 from by rw [pq3]; exact up2_j (by decide)) (show iv2 a0 11 = ivb1 a0 11 from by rw [pq2]; exact up2_k (ne_ty t_a0 trb2 (by decide))) (fun ri12 ie15 ri13 ie16 ie17 ri14 ie19 ie20 ri15 ie22 ie23 => ?_)
            refine c_lv (lv2 := [(2, .int (iI (k + 1))), (0, .ref a0), (1, .ref ob1)]) [0, 1, 2] rfl ?_
            exact ih1  (k + 1) _ (by omega) W3 F3  (by omega) (by show iv3 a0 7 = iv a0 7 + (k + 1); omega) (ie16.trans (ie17.trans hc4)) (by omega) ⟨(ie19.trans (ie20.trans hc11.1)), (ie22.trans (ie23.trans hc11.2))⟩ (hK.put (by omega) rq1 (by omega) rq2 pq2 rfl (by omega) pq3 (by omega) (by omega) (s6ne hW t_a0))
    refine hv4 (show 0 ≤ iv a0 7 ∧ iv a0 7 ≤ 100000 from hW.int t_a0 7) (show 0 ≤ iv a0 4 ∧ iv a0 4 ≤ 500 from hW.int t_a0 4) (show 0 ≤ iv a0 10 ∧ iv a0 10 ≤ 500 from hW.int t_a0 10) (show 0 ≤ iv a0 11 ∧ iv a0 11 ≤ 500 from hW.int t_a0 11) (fun ri16 ri17 ri18 ri19 => ?_)
    refine c_lv (lv2 := [(2, .int (iI 0)), (0, .ref a0), (1, .ref ob1)]) [0, 1, 2] rfl ?_
    exact Lp1 6 0 _ (by omega) hW hF0  (by omega) (by show iv a0 7 = iv a0 7 + 0; omega) rfl (by omega) ⟨rfl, rfl⟩ PUK.zero
  · subst oq1
    refine c_lv (lv2 := [(0, .ref a0), (1, .null)]) [0, 1] rfl ?_
    refine c_st (st2 := []) rfl ?_
    refine hv4 (show 0 ≤ iv a0 4 ∧ iv a0 4 ≤ 500 from hW.int t_a0 4) (show 0 ≤ iv a0 7 ∧ iv a0 7 ≤ 100000 from hW.int t_a0 7) (show 0 ≤ iv a0 10 ∧ iv a0 10 ≤ 500 from hW.int t_a0 10) (show 0 ≤ iv a0 11 ∧ iv a0 11 ≤ 500 from hW.int t_a0 11) (fun ri20 ri21 ri22 ri23 => ?_)
    exact c_vret C dX6_push_4 rfl (by decide) (rom0 hph hph (by decide)) ⟨rfl, rfl, rfl, rfl, rfl, hF0, hW, ⟨by omega, PUX.no⟩⟩
set_option maxHeartbeats 4000000 in
set_option maxRecDepth 100000 in
theorem G_setTurn {l : Launch} {G : GT} {mi : Nat} {sk : Nat → Nat} {L : List Nat} {cl ln : Nat → Nat} {iv : Nat → Nat → Int} {rv : Nat → Nat → Option Nat}  {a0 : Nat} {r : Option Nat} {i : Int} (hW : WT (g0 G) sk L cl ln iv rv) (hS : SKL sk L cl) (t_a0 : ty L cl a0 15) (t_r : ∀ b, r = some b → ty L cl b 20) (h_i : -2147483648 ≤ i ∧ i ≤ 2147483647) (hc : iv a0 7 ≤ 90000) : Mc l G mi (Phi (g0 G) sk) PHM yX6_setTurn cX6_setTurn 3 (some .int) 1 [.ref a0, va_rf r, .int (iI i)] L cl ln iv rv 0 (fun v L2 cl2 ln2 iv2 rv2 => ∃ f : Int, v = some (.int (iI f)) ∧ L = L2 ∧ cl = cl2 ∧ ln = ln2 ∧ rv = rv2 ∧ fT [15, 54] L cl iv rv iv2 rv2 ∧ WT (g0 G) sk L2 cl2 ln2 iv2 rv2 ∧ (-2147483648 ≤ f ∧ f ≤ 2147483647) ∧ (((f = 0 ∨ f = 7) ∧ iv2 a0 4 = iv a0 4 ∧ iv a0 7 ≤ iv2 a0 7 ∧ iv2 a0 7 ≤ iv a0 7 + 4 ∧ iv2 a0 10 = iv a0 10 ∧ iv2 a0 11 = iv a0 11) ∧ STX ln iv rv iv2 a0 r f)) := by
  refine Mc.mk (by decide) (by cases r <;> exact Nat.le_of_ble_eq_true rfl) ?_
  intro p e s m args below meth c A C hM
  have hph := Phi.le hW hS
  refine c_lveq (show lv_args 0 [.ref a0, va_rf r, .int (iI i)] = [(0, .ref a0), (1, (va_rf r)), (2, .int (iI i))] from by cases r <;> rfl) ?_
  refine hv2 (show XT L cl ln L cl ln from XT.refl) (show fT [15, 54] L cl iv rv iv rv from fT.refl) (fun hX0 hF0 => ?_)
  refine c_aloadr_n (j := 1) (r := r) C dX6_setTurn_0 rfl ?_
  refine c_ifnonnull (r := r) (tgt := 12) C dX6_setTurn_1 (by decide) (fun ob1 oq1 => ?_) (fun oq1 => ?_)
  · subst oq1
    have tob1 := t_r ob1 rfl
    refine c_lv (lv2 := [(0, .ref a0), (1, .ref ob1), (2, .int (iI i))]) [0, 1, 2] rfl ?_
    refine c_st (st2 := []) rfl ?_
    refine c_aload_n (j := 0) (x := a0) C dX6_setTurn_12 rfl ?_
    refine c_aload_n (j := 1) (x := ob1) C dX6_setTurn_13 rfl ?_
    refine hv4 (show 0 ≤ iv a0 7 ∧ iv a0 7 ≤ 100000 from hW.int t_a0 7) (show 0 ≤ iv a0 4 ∧ iv a0 4 ≤ 500 from hW.int t_a0 4) (show 0 ≤ iv a0 10 ∧ iv a0 10 ≤ 500 from hW.int t_a0 10) (show 0 ≤ iv a0 11 ∧ iv a0 11 ≤ 500 from hW.int t_a0 11) (fun ri1 ri2 ri3 ri4 => ?_)
    refine d_callV (As := [.ref ob1]) (rest := []) C hM (G_push (a0 := a0) (r := (some ob1)) hW hS t_a0 (fun _ q => by cases q; exact tob1)  (by show iv a0 7 ≤ 90000; omega)) dX6_setTurn_14 kV_X6_86 rfl t_a0 rfl rfl (by decide) ck_7 rfl (Nat.le_of_ble_eq_true rfl) ⟨(Nat.le_of_ble_eq_true rfl), (Nat.le_of_ble_eq_true rfl)⟩ hph hph (show 0 + 0 = 0 from rfl) (by decide) (fun rh1 Lh1 clh1 lnh1 ivh1 rvh1 h1 => ?_)
    obtain ⟨rfl, rfl, rfl, rfl, rfl, fl1, W1, exf1⟩ := h1
    have F1 := hF0.call hX0 fl1 rfl
    refine c_st (st2 := []) rfl ?_
    refine hv5 (show 0 ≤ ivh1 a0 4 ∧ ivh1 a0 4 ≤ 500 from W1.int t_a0 4) (show 0 ≤ ivh1 a0 7 ∧ ivh1 a0 7 ≤ 100000 from W1.int t_a0 7) (show 0 ≤ ivh1 a0 10 ∧ ivh1 a0 10 ≤ 500 from W1.int t_a0 10) (show 0 ≤ ivh1 a0 11 ∧ ivh1 a0 11 ≤ 500 from W1.int t_a0 11) (show (ivh1 a0 4 = iv a0 4 ∧ iv a0 7 ≤ ivh1 a0 7 ∧ ivh1 a0 7 ≤ iv a0 7 + 4 ∧ ivh1 a0 10 = iv a0 10 ∧ ivh1 a0 11 = iv a0 11) ∧ PUX ln iv rv ivh1 a0 (some ob1) from exf1) (fun ri5 ri6 ri7 ri8 gf1 => ?_)
    refine c_iconst C dX6_setTurn_17 ?_
    exact c_iret C dX6_setTurn_18 rfl (by decide) (rom0 hph hph (by decide)) ⟨0, rfl, rfl, rfl, rfl, rfl, F1, W1, ⟨by decide, by decide⟩, ⟨by omega, Or.inr ⟨rfl, ⟨_, rfl⟩, gf1.2⟩⟩⟩
  · subst oq1
    refine c_lv (lv2 := [(0, .ref a0), (1, .null), (2, .int (iI i))]) [0, 1, 2] rfl ?_
    refine c_st (st2 := []) rfl ?_
    refine c_aload_n (j := 0) (x := a0) C dX6_setTurn_4 rfl ?_
    refine c_iload_n (j := 2) C dX6_setTurn_5 rfl ?_
    refine c_put (z := i) (k := 9) C ck_7 dX6_setTurn_6 w1_151 (by decide) rfl t_a0 rfl rfl (by decide) rfl (by rfl) (by rfl) (fun iv1 pq1 => ?_)
    refine hv2 (hW.puti pq1 t_a0 (show (-2147483648) ≤ i ∧ i ≤ 2147483647 by omega) rfl) (hF0.puti hX0 pq1 t_a0 rfl) (fun W2 F2 => ?_)
    refine c_bipush (z := 7) C dX6_setTurn_9 (by decide) ?_
    refine hv8 (show 0 ≤ iv1 a0 4 ∧ iv1 a0 4 ≤ 500 from W2.int t_a0 4) (show iv1 a0 4 = iv a0 4 from by rw [pq1]; exact up2_j (by decide)) (show 0 ≤ iv1 a0 7 ∧ iv1 a0 7 ≤ 100000 from W2.int t_a0 7) (show iv1 a0 7 = iv a0 7 from by rw [pq1]; exact up2_j (by decide)) (show 0 ≤ iv1 a0 10 ∧ iv1 a0 10 ≤ 500 from W2.int t_a0 10) (show iv1 a0 10 = iv a0 10 from by rw [pq1]; exact up2_j (by decide)) (show 0 ≤ iv1 a0 11 ∧ iv1 a0 11 ≤ 500 from W2.int t_a0 11) (show iv1 a0 11 = iv a0 11 from by rw [pq1]; exact up2_j (by decide)) (fun ri9 ie5 ri10 ie6 ri11 ie7 ri12 ie8 => ?_)
    exact c_iret C dX6_setTurn_11 rfl (by decide) (rom0 hph hph (by decide)) ⟨7, rfl, rfl, rfl, rfl, rfl, F2, W2, ⟨by decide, by decide⟩, ⟨by omega, Or.inl ⟨rfl, rfl⟩⟩⟩
set_option maxHeartbeats 4000000 in
set_option maxRecDepth 100000 in
theorem G_numberAhead {l : Launch} {G : GT} {mi : Nat} {sk : Nat → Nat} {L : List Nat} {cl ln : Nat → Nat} {iv : Nat → Nat → Int} {rv : Nat → Nat → Option Nat}  {a0 : Nat} {a1 : Nat} {i : Int} (hW : WT (g0 G) sk L cl ln iv rv) (hS : SKL sk L cl) (t_a0 : ty L cl a0 15) (t_a1 : ty L cl a1 100) (h_i : -2147483648 ≤ i ∧ i ≤ 2147483647) (hi : 0 ≤ i ∧ i < 500) : Mc l G mi (Phi (g0 G) sk) PHM yX6_numberAhead cX6_numberAhead 4 (some (.object "DotPress$Row")) 1 [.ref a0, .ref a1, .int (iI i)] L cl ln iv rv 0 (fun v L2 cl2 ln2 iv2 rv2 => ∃ f : Option Nat, v = some ((va_rf f)) ∧ L = L2 ∧ cl = cl2 ∧ ln = ln2 ∧ iv = iv2 ∧ rv = rv2 ∧ (∀ b, f = some b → ty L2 cl2 b 20) ∧ (NAX sk ln iv rv a0 a1 i f)) := by
  refine Mc.mk (by decide) (Nat.le_of_ble_eq_true rfl) ?_
  intro p e s m args below meth c A C hM
  refine hv3 (Phi.le hW hS) (show XT L cl ln L cl ln from XT.refl) (show fT [] L cl iv rv iv rv from fT.refl) (fun hph hX0 hF0 => ?_)
  refine c_aload_n (j := 0) (x := a0) C dX6_numberAhead_0 rfl ?_
  obtain ⟨rb1, rq1, trb1⟩ := hW.ref t_a0 0 rfl rfl rfl
  have lnrb1 : 500 ≤ ln rb1 ∧ ln rb1 ≤ 500 := hW.len trb1 rfl
  refine c_getr (k := 0) C ck_7 dX6_numberAhead_1 w1_136 (by decide) t_a0 rfl rfl (by decide) rfl rq1 ?_
  refine c_st (st2 := [.ref rb1]) rfl ?_
  refine c_iload_n (j := 2) C dX6_numberAhead_4 rfl ?_
  have ll1 : 500 ≤ ln rb1 ∧ ln rb1 ≤ 500 := hW.len trb1 rfl
  refine c_iald C dX6_numberAhead_5 trb1 rfl (by omega) (by omega) (by omega) ?_
  have ri1 : (-2147483648) ≤ iv rb1 i.toNat ∧ iv rb1 i.toNat ≤ 2147483647 := hW.int trb1 i.toNat
  refine c_callSN0 (As := [.int (iI (iv rb1 i.toNat))]) (rest := []) C (fun L E => s11_isDigit (iI (iv rb1 i.toNat))) dX6_numberAhead_6 kSN_X6_115 rfl rfl (Nat.le_of_ble_eq_true rfl) ⟨(Nat.le_of_ble_eq_true rfl), (Nat.le_of_ble_eq_true rfl)⟩ (rom0 hph hph (by decide)) ?_
  rcases inn_c (x := iv rb1 i.toNat) (lo := 48) (hi := 57) (r32_c (lo := (-2147483648)) (hi := 2147483647) ri1.1 ri1.2 (by decide) (by decide)) ⟨by decide, by decide⟩ ⟨by decide, by decide⟩ with ⟨hs1a, hs1b, hs1e⟩ | ⟨hs1a, hs1e⟩
  · refine c_st (st2 := [.int (iI 1)]) (by rw [show inn (iI (iv rb1 i.toNat)) 48 57 = iI 1 from hs1e]) ?_
    refine c_if_eq (tgt := 38) C ⟨by decide, by decide⟩ dX6_numberAhead_9 (by decide) (fun z => absurd z (by omega)) (fun _ => ?_)
    refine c_iload_n (j := 2) C dX6_numberAhead_12 rfl ?_
    refine c_aload_n (j := 0) (x := a0) C dX6_numberAhead_13 rfl ?_
    have ri2 : 0 ≤ iv a0 10 ∧ iv a0 10 ≤ 500 := hW.int t_a0 10
    refine c_get (k := 10) C ck_7 dX6_numberAhead_14 w1_152 (by decide) t_a0 rfl rfl (by decide) rfl ?_
    refine c_icmp_le (tgt := 34) C ⟨by omega, by omega⟩ (r32_c (lo := 0) (hi := 500) ri2.1 ri2.2 (by decide) (by decide)) dX6_numberAhead_17 (by decide) (fun c1 => ?_) (fun c1 => ?_)
    · refine c_iconst C dX6_numberAhead_34 ?_
      refine c_goto (tgt := 39) C dX6_numberAhead_35 (by decide) ?_
      refine c_istore_n (lv2 := [(3, .int (iI 1)), (0, .ref a0), (1, .ref a1), (2, .int (iI i))]) C dX6_numberAhead_39 (by decide) rfl ?_
      refine c_aload_n (j := 2) (x := a1) C dX6_numberAhead_40 rfl ?_
      have ri3 : (-2147483648) ≤ iv a1 0 ∧ iv a1 0 ≤ 2147483647 := hW.int t_a1 0
      refine c_get (k := 0) C ck_10 dX6_numberAhead_41 w2_177 (by decide) t_a1 rfl rfl (by decide) rfl ?_
      refine c_iconst C dX6_numberAhead_44 ?_
      refine c_icmp_ne (tgt := 61) C (r32_c (lo := (-2147483648)) (hi := 2147483647) ri3.1 ri3.2 (by decide) (by decide)) ⟨by decide, by decide⟩ dX6_numberAhead_45 (by decide) (fun c2 => ?_) (fun c2 => ?_)
      · refine c_null C dX6_numberAhead_61 ?_
        exact c_aret (x := none) C dX6_numberAhead_62 rfl (Or.inl ⟨_, rfl⟩) (by decide) (rom0 hph hph (by decide)) ⟨none, rfl, rfl, rfl, rfl, rfl, rfl, (fun _ q => by cases q), (NAX.no rq1 (by unfold isD; omega))⟩
      · refine c_iload_n (j := 0) C dX6_numberAhead_48 rfl ?_
        refine c_if_eq (tgt := 61) C ⟨by decide, by decide⟩ dX6_numberAhead_49 (by decide) (fun z => absurd z (by omega)) (fun _ => ?_)
        refine c_aload_n (j := 2) (x := a1) C dX6_numberAhead_52 rfl ?_
        obtain ⟨rb2, rq2, trb2⟩ := hW.ref t_a1 6 rfl rfl rfl
        have lnrb2 : 4 ≤ ln rb2 ∧ ln rb2 ≤ 4 := hW.len trb2 rfl
        refine c_getr (k := 6) C ck_10 dX6_numberAhead_53 w2_195 (by decide) t_a1 rfl rfl (by decide) rfl rq2 ?_
        refine c_st (st2 := [.ref rb2]) rfl ?_
        refine c_iconst C dX6_numberAhead_56 ?_
        have ll2 : 4 ≤ ln rb2 ∧ ln rb2 ≤ 4 := hW.len trb2 rfl
        rcases hW.opt trb2 ((1 : Int).toNat) rfl rfl with ⟨nq1, _⟩ | ⟨nb1, nq1, tnb1⟩
        · refine c_aaldR C dX6_numberAhead_57 trb2 rfl (by omega) (by omega) (by omega) nq1 ?_
          refine c_st (st2 := [.null]) rfl ?_
          refine c_goto (tgt := 62) C dX6_numberAhead_58 (by decide) ?_
          exact c_aret (x := none) C dX6_numberAhead_62 rfl (Or.inl ⟨_, rfl⟩) (by decide) (rom0 hph hph (by decide)) ⟨none, rfl, rfl, rfl, rfl, rfl, rfl, (fun _ q => by cases q), (NAX.yes rq1 (by unfold isD; omega) rq2 nq1)⟩
        · have tnb1 : ty L cl nb1 20 := tnb1
          refine c_aaldR C dX6_numberAhead_57 trb2 rfl (by omega) (by omega) (by omega) nq1 ?_
          refine c_st (st2 := [.ref nb1]) rfl ?_
          refine c_goto (tgt := 62) C dX6_numberAhead_58 (by decide) ?_
          exact c_aret (x := some nb1) C dX6_numberAhead_62 rfl (Or.inl ⟨_, rfl⟩) (by decide) (rom0 hph hph (by decide)) ⟨(some nb1), rfl, rfl, rfl, rfl, rfl, rfl, (fun _ q => by cases q; exact tnb1), (NAX.yes rq1 (by unfold isD; omega) rq2 nq1)⟩
    · refine c_aload_n (j := 0) (x := a0) C dX6_numberAhead_20 rfl ?_
      refine c_getr (k := 0) C ck_7 dX6_numberAhead_21 w1_136 (by decide) t_a0 rfl rfl (by decide) rfl rq1 ?_
      refine c_st (st2 := [.ref rb1]) rfl ?_
      refine c_iload_n (j := 2) C dX6_numberAhead_24 rfl ?_
      refine c_iconst C dX6_numberAhead_25 ?_
      refine c_isub C dX6_numberAhead_26 ?_
      refine c_iald C dX6_numberAhead_27 trb1 rfl (by omega) (by omega) (by omega) ?_
      have ri4 : (-2147483648) ≤ iv rb1 ((i - 1).toNat) ∧ iv rb1 ((i - 1).toNat) ≤ 2147483647 := hW.int trb1 ((i - 1).toNat)
      refine c_callSN0 (As := [.int (iI (iv rb1 (i - 1).toNat))]) (rest := []) C (fun L E => s11_isDigit (iI (iv rb1 (i - 1).toNat))) dX6_numberAhead_28 kSN_X6_115 rfl rfl (Nat.le_of_ble_eq_true rfl) ⟨(Nat.le_of_ble_eq_true rfl), (Nat.le_of_ble_eq_true rfl)⟩ (rom0 hph hph (by decide)) ?_
      rcases inn_c (x := iv rb1 (i - 1).toNat) (lo := 48) (hi := 57) ⟨by omega, by omega⟩ ⟨by decide, by decide⟩ ⟨by decide, by decide⟩ with ⟨hs2a, hs2b, hs2e⟩ | ⟨hs2a, hs2e⟩
      · refine c_st (st2 := [.int (iI 1)]) (by rw [show inn (iI (iv rb1 (i - 1).toNat)) 48 57 = iI 1 from hs2e]) ?_
        refine c_if_ne (tgt := 38) C ⟨by decide, by decide⟩ dX6_numberAhead_31 (by decide) (fun _ => ?_) (fun z => absurd z (by omega))
        refine c_iconst C dX6_numberAhead_38 ?_
        refine c_istore_n (lv2 := [(3, .int (iI 0)), (0, .ref a0), (1, .ref a1), (2, .int (iI i))]) C dX6_numberAhead_39 (by decide) rfl ?_
        refine c_aload_n (j := 2) (x := a1) C dX6_numberAhead_40 rfl ?_
        have ri5 : (-2147483648) ≤ iv a1 0 ∧ iv a1 0 ≤ 2147483647 := hW.int t_a1 0
        refine c_get (k := 0) C ck_10 dX6_numberAhead_41 w2_177 (by decide) t_a1 rfl rfl (by decide) rfl ?_
        refine c_iconst C dX6_numberAhead_44 ?_
        refine c_icmp_ne (tgt := 61) C (r32_c (lo := (-2147483648)) (hi := 2147483647) ri5.1 ri5.2 (by decide) (by decide)) ⟨by decide, by decide⟩ dX6_numberAhead_45 (by decide) (fun c3 => ?_) (fun c3 => ?_)
        · refine c_null C dX6_numberAhead_61 ?_
          exact c_aret (x := none) C dX6_numberAhead_62 rfl (Or.inl ⟨_, rfl⟩) (by decide) (rom0 hph hph (by decide)) ⟨none, rfl, rfl, rfl, rfl, rfl, rfl, (fun _ q => by cases q), (NAX.no rq1 (by unfold isD; omega))⟩
        · refine c_iload_n (j := 0) C dX6_numberAhead_48 rfl ?_
          refine c_if_eq (tgt := 61) C ⟨by decide, by decide⟩ dX6_numberAhead_49 (by decide) (fun _ => ?_) (fun z => absurd z (by omega))
          refine c_null C dX6_numberAhead_61 ?_
          exact c_aret (x := none) C dX6_numberAhead_62 rfl (Or.inl ⟨_, rfl⟩) (by decide) (rom0 hph hph (by decide)) ⟨none, rfl, rfl, rfl, rfl, rfl, rfl, (fun _ q => by cases q), (NAX.no rq1 (by unfold isD; omega))⟩
      · refine c_st (st2 := [.int (iI 0)]) (by rw [show inn (iI (iv rb1 (i - 1).toNat)) 48 57 = iI 0 from hs2e]) ?_
        refine c_if_ne (tgt := 38) C ⟨by decide, by decide⟩ dX6_numberAhead_31 (by decide) (fun z => absurd z (by omega)) (fun _ => ?_)
        refine c_iconst C dX6_numberAhead_34 ?_
        refine c_goto (tgt := 39) C dX6_numberAhead_35 (by decide) ?_
        refine c_istore_n (lv2 := [(3, .int (iI 1)), (0, .ref a0), (1, .ref a1), (2, .int (iI i))]) C dX6_numberAhead_39 (by decide) rfl ?_
        refine c_aload_n (j := 2) (x := a1) C dX6_numberAhead_40 rfl ?_
        have ri6 : (-2147483648) ≤ iv a1 0 ∧ iv a1 0 ≤ 2147483647 := hW.int t_a1 0
        refine c_get (k := 0) C ck_10 dX6_numberAhead_41 w2_177 (by decide) t_a1 rfl rfl (by decide) rfl ?_
        refine c_iconst C dX6_numberAhead_44 ?_
        refine c_icmp_ne (tgt := 61) C (r32_c (lo := (-2147483648)) (hi := 2147483647) ri6.1 ri6.2 (by decide) (by decide)) ⟨by decide, by decide⟩ dX6_numberAhead_45 (by decide) (fun c4 => ?_) (fun c4 => ?_)
        · refine c_null C dX6_numberAhead_61 ?_
          exact c_aret (x := none) C dX6_numberAhead_62 rfl (Or.inl ⟨_, rfl⟩) (by decide) (rom0 hph hph (by decide)) ⟨none, rfl, rfl, rfl, rfl, rfl, rfl, (fun _ q => by cases q), (NAX.no rq1 (by unfold isD; omega))⟩
        · refine c_iload_n (j := 0) C dX6_numberAhead_48 rfl ?_
          refine c_if_eq (tgt := 61) C ⟨by decide, by decide⟩ dX6_numberAhead_49 (by decide) (fun z => absurd z (by omega)) (fun _ => ?_)
          refine c_aload_n (j := 2) (x := a1) C dX6_numberAhead_52 rfl ?_
          obtain ⟨rb3, rq3, trb3⟩ := hW.ref t_a1 6 rfl rfl rfl
          have lnrb3 : 4 ≤ ln rb3 ∧ ln rb3 ≤ 4 := hW.len trb3 rfl
          refine c_getr (k := 6) C ck_10 dX6_numberAhead_53 w2_195 (by decide) t_a1 rfl rfl (by decide) rfl rq3 ?_
          refine c_st (st2 := [.ref rb3]) rfl ?_
          refine c_iconst C dX6_numberAhead_56 ?_
          have ll3 : 4 ≤ ln rb3 ∧ ln rb3 ≤ 4 := hW.len trb3 rfl
          rcases hW.opt trb3 ((1 : Int).toNat) rfl rfl with ⟨nq2, _⟩ | ⟨nb2, nq2, tnb2⟩
          · refine c_aaldR C dX6_numberAhead_57 trb3 rfl (by omega) (by omega) (by omega) nq2 ?_
            refine c_st (st2 := [.null]) rfl ?_
            refine c_goto (tgt := 62) C dX6_numberAhead_58 (by decide) ?_
            exact c_aret (x := none) C dX6_numberAhead_62 rfl (Or.inl ⟨_, rfl⟩) (by decide) (rom0 hph hph (by decide)) ⟨none, rfl, rfl, rfl, rfl, rfl, rfl, (fun _ q => by cases q), (NAX.yes rq1 (by unfold isD; omega) rq3 nq2)⟩
          · have tnb2 : ty L cl nb2 20 := tnb2
            refine c_aaldR C dX6_numberAhead_57 trb3 rfl (by omega) (by omega) (by omega) nq2 ?_
            refine c_st (st2 := [.ref nb2]) rfl ?_
            refine c_goto (tgt := 62) C dX6_numberAhead_58 (by decide) ?_
            exact c_aret (x := some nb2) C dX6_numberAhead_62 rfl (Or.inl ⟨_, rfl⟩) (by decide) (rom0 hph hph (by decide)) ⟨(some nb2), rfl, rfl, rfl, rfl, rfl, rfl, (fun _ q => by cases q; exact tnb2), (NAX.yes rq1 (by unfold isD; omega) rq3 nq2)⟩
  · refine c_st (st2 := [.int (iI 0)]) (by rw [show inn (iI (iv rb1 i.toNat)) 48 57 = iI 0 from hs1e]) ?_
    refine c_if_eq (tgt := 38) C ⟨by decide, by decide⟩ dX6_numberAhead_9 (by decide) (fun _ => ?_) (fun z => absurd z (by omega))
    refine c_iconst C dX6_numberAhead_38 ?_
    refine c_istore_n (lv2 := [(3, .int (iI 0)), (0, .ref a0), (1, .ref a1), (2, .int (iI i))]) C dX6_numberAhead_39 (by decide) rfl ?_
    refine c_aload_n (j := 2) (x := a1) C dX6_numberAhead_40 rfl ?_
    have ri7 : (-2147483648) ≤ iv a1 0 ∧ iv a1 0 ≤ 2147483647 := hW.int t_a1 0
    refine c_get (k := 0) C ck_10 dX6_numberAhead_41 w2_177 (by decide) t_a1 rfl rfl (by decide) rfl ?_
    refine c_iconst C dX6_numberAhead_44 ?_
    refine c_icmp_ne (tgt := 61) C (r32_c (lo := (-2147483648)) (hi := 2147483647) ri7.1 ri7.2 (by decide) (by decide)) ⟨by decide, by decide⟩ dX6_numberAhead_45 (by decide) (fun c5 => ?_) (fun c5 => ?_)
    · refine c_null C dX6_numberAhead_61 ?_
      have ri8 : 0 ≤ iv a0 10 ∧ iv a0 10 ≤ 500 := hW.int t_a0 10
      exact c_aret (x := none) C dX6_numberAhead_62 rfl (Or.inl ⟨_, rfl⟩) (by decide) (rom0 hph hph (by decide)) ⟨none, rfl, rfl, rfl, rfl, rfl, rfl, (fun _ q => by cases q), (NAX.no rq1 (by unfold isD; omega))⟩
    · refine c_iload_n (j := 0) C dX6_numberAhead_48 rfl ?_
      refine c_if_eq (tgt := 61) C ⟨by decide, by decide⟩ dX6_numberAhead_49 (by decide) (fun _ => ?_) (fun z => absurd z (by omega))
      refine c_null C dX6_numberAhead_61 ?_
      have ri9 : 0 ≤ iv a0 10 ∧ iv a0 10 ≤ 500 := hW.int t_a0 10
      exact c_aret (x := none) C dX6_numberAhead_62 rfl (Or.inl ⟨_, rfl⟩) (by decide) (rom0 hph hph (by decide)) ⟨none, rfl, rfl, rfl, rfl, rfl, rfl, (fun _ q => by cases q), (NAX.no rq1 (by unfold isD; omega))⟩
set_option maxHeartbeats 4000000 in
set_option maxRecDepth 100000 in
theorem G_markStart {l : Launch} {G : GT} {mi : Nat} {sk : Nat → Nat} {L : List Nat} {cl ln : Nat → Nat} {iv : Nat → Nat → Int} {rv : Nat → Nat → Option Nat}  {a0 : Nat} {i : Int} {n : Int} (hW : WT (g0 G) sk L cl ln iv rv) (hS : SKL sk L cl) (t_a0 : ty L cl a0 15) (h_i : -2147483648 ≤ i ∧ i ≤ 2147483647) (h_n : -2147483648 ≤ n ∧ n ≤ 2147483647) (hi : 0 ≤ i ∧ i ≤ 500 ∧ 0 ≤ n ∧ n ≤ 8) : Mc l G mi (Phi (g0 G) sk) PHM yX6_markStart cX6_markStart 4 none 0 [.ref a0, .int (iI i), .int (iI n)] L cl ln iv rv 0 (fun v L2 cl2 ln2 iv2 rv2 => v = none ∧ L = L2 ∧ cl = cl2 ∧ ln = ln2 ∧ rv = rv2 ∧ fT [53] L cl iv rv iv2 rv2 ∧ WT (g0 G) sk L2 cl2 ln2 iv2 rv2 ∧ (MSX iv rv iv2 a0 i n)) := by
  refine Mc.mk (by decide) (Nat.le_of_ble_eq_true rfl) ?_
  intro p e s m args below meth c A C hM
  refine hv3 (Phi.le hW hS) (show XT L cl ln L cl ln from XT.refl) (show fT [53] L cl iv rv iv rv from fT.refl) (fun hph hX0 hF0 => ?_)
  refine c_iload_n (j := 1) C dX6_markStart_0 rfl ?_
  refine c_istore_n (lv2 := [(3, .int (iI i)), (0, .ref a0), (1, .int (iI i)), (2, .int (iI n))]) C dX6_markStart_1 (by decide) rfl ?_
  have Lp1 : ∀ (nn : Nat) (k : Int) (ivb1 : Nat → Nat → Int) , i + 9 - k < (nn : Int) → WT (g0 G) sk L cl ln ivb1 rv → fT [53] L cl iv rv ivb1 rv → (i ≤ k ∧ k ≤ i + n) → (MSK iv rv ivb1 a0 i k) → cw p l e 0 ((PHM) + 0 - ((Phi (g0 G) sk) ln rv)) s m args below meth c G A 4 (MQ below (Qu G A (Qp G (Phi (g0 G) sk) ((Phi (g0 G) sk) ln rv) 0 (fun v L2 cl2 ln2 iv2 rv2 => v = none ∧ L = L2 ∧ cl = cl2 ∧ ln = ln2 ∧ rv = rv2 ∧ fT [53] L cl iv rv iv2 rv2 ∧ WT (g0 G) sk L2 cl2 ln2 iv2 rv2 ∧ (MSX iv rv iv2 a0 i n)))) args s (((PHM) + 0 - ((Phi (g0 G) sk) ln rv)) / 16) ((PHM) + 0 - ((Phi (g0 G) sk) ln rv)) A) (Phi (g0 G) sk) ((Phi (g0 G) sk) ln rv) L cl ln ivb1 rv 0 2 [(3, .int (iI k)), (0, .ref a0), (1, .int (iI i)), (2, .int (iI n))] [] := by
    intro nn
    induction nn with
    | zero =>
      intro  k ivb1 hm Wb1 Fb1  hk hM
      exact absurd hm (by omega)
    | succ nn ih1 =>
      intro  k ivb1 hm Wb1 Fb1  hk hM
      refine c_iload_n (j := 0) C dX6_markStart_2 rfl ?_
      refine c_iload_n (j := 2) C dX6_markStart_3 rfl ?_
      refine c_iload_n (j := 3) C dX6_markStart_4 rfl ?_
      refine c_iadd C dX6_markStart_5 ?_
      refine c_icmp_ge (tgt := 41) C ⟨by omega, by omega⟩ ⟨by omega, by omega⟩ dX6_markStart_6 (by decide) (fun c1 => ?_) (fun c1 => ?_)
      · exact c_vret C dX6_markStart_41 rfl (by decide) (rom0 hph hph (by decide)) ⟨rfl, rfl, rfl, rfl, rfl, Fb1, Wb1, (hM.fin ⟨by omega, by omega⟩)⟩
      · refine c_iload_n (j := 0) C dX6_markStart_9 rfl ?_
        refine c_sipush (z := 500) C dX6_markStart_10 (by decide) ?_
        refine c_icmp_ge (tgt := 41) C ⟨by omega, by omega⟩ ⟨by decide, by decide⟩ dX6_markStart_13 (by decide) (fun c2 => ?_) (fun c2 => ?_)
        · exact c_vret C dX6_markStart_41 rfl (by decide) (rom0 hph hph (by decide)) ⟨rfl, rfl, rfl, rfl, rfl, Fb1, Wb1, (hM.fin ⟨by omega, by omega⟩)⟩
        · refine c_aload_n (j := 1) (x := a0) C dX6_markStart_16 rfl ?_
          obtain ⟨rb1, rq1, trb1⟩ := Wb1.ref t_a0 3 rfl rfl rfl
          have lnrb1 : 500 ≤ ln rb1 ∧ ln rb1 ≤ 500 := Wb1.len trb1 rfl
          refine c_getr (k := 3) C ck_7 dX6_markStart_17 w1_139 (by decide) t_a0 rfl rfl (by decide) rfl rq1 ?_
          refine c_st (st2 := [.ref rb1]) rfl ?_
          refine c_iload_n (j := 0) C dX6_markStart_20 rfl ?_
          refine c_iload_n (j := 0) C dX6_markStart_21 rfl ?_
          refine c_iload_n (j := 2) C dX6_markStart_22 rfl ?_
          refine c_icmp_ne (tgt := 33) C ⟨by omega, by omega⟩ ⟨by omega, by omega⟩ dX6_markStart_23 (by decide) (fun c3 => ?_) (fun c3 => ?_)
          · refine c_iconst C dX6_markStart_33 ?_
            have ll1 : 500 ≤ ln rb1 ∧ ln rb1 ≤ 500 := Wb1.len trb1 rfl
            refine c_iast (x := (-1)) C dX6_markStart_34 trb1 rfl (by omega) (by omega) (by omega) (fun iv1 pq1 => ?_)
            refine hv2 (Wb1.puti pq1 trb1 (show (-2147483648) ≤ (-1) ∧ (-1) ≤ 2147483647 by omega) rfl) (Fb1.puti hX0 pq1 trb1 rfl) (fun W1 F1 => ?_)
            refine c_iinc (z := k) (j := 0) (lv2 := [(3, .int (iI (k + 1))), (0, .ref a0), (1, .int (iI i)), (2, .int (iI n))]) C dX6_markStart_35 rfl (by decide) rfl ?_
            refine c_goto (tgt := 2) C dX6_markStart_38 (by decide) ?_
            refine hv3 (show 0 ≤ iv1 a0 7 ∧ iv1 a0 7 ≤ 100000 from W1.int t_a0 7) (show iv1 a0 7 = ivb1 a0 7 from by rw [pq1]; exact up2_k (ne_ty t_a0 trb1 (by decide))) (show ivb1 a0 7 = iv a0 7 from Fb1.i t_a0 rfl 7) (fun ri1 ie1 ie2 => ?_)
            refine c_lv (lv2 := [(3, .int (iI (k + 1))), (0, .ref a0), (1, .int (iI i)), (2, .int (iI n))]) [0, 1, 2, 3] rfl ?_
            exact ih1  (k + 1) _ (by omega) W1 F1  (by omega) (hM.step rq1 pq1 ⟨by omega, by omega⟩ (by omega))
          · refine c_aload_n (j := 1) (x := a0) C dX6_markStart_26 rfl ?_
            refine hv2 (show 0 ≤ ivb1 a0 7 ∧ ivb1 a0 7 ≤ 100000 from Wb1.int t_a0 7) (show ivb1 a0 7 = iv a0 7 from Fb1.i t_a0 rfl 7) (fun ri2 ie3 => ?_)
            refine c_get (k := 7) C ck_7 dX6_markStart_27 w1_147 (by decide) t_a0 rfl rfl (by decide) rfl ?_
            refine c_goto (tgt := 34) C dX6_markStart_30 (by decide) ?_
            have ll2 : 500 ≤ ln rb1 ∧ ln rb1 ≤ 500 := Wb1.len trb1 rfl
            refine c_iast (x := ivb1 a0 7) C dX6_markStart_34 trb1 rfl (by omega) (by omega) (by omega) (fun iv2 pq2 => ?_)
            refine hv2 (Wb1.puti pq2 trb1 (show (-2147483648) ≤ (ivb1 a0 7) ∧ (ivb1 a0 7) ≤ 2147483647 by omega) rfl) (Fb1.puti hX0 pq2 trb1 rfl) (fun W2 F2 => ?_)
            refine c_iinc (z := k) (j := 0) (lv2 := [(3, .int (iI (k + 1))), (0, .ref a0), (1, .int (iI i)), (2, .int (iI n))]) C dX6_markStart_35 rfl (by decide) rfl ?_
            refine c_goto (tgt := 2) C dX6_markStart_38 (by decide) ?_
            refine hv2 (show 0 ≤ iv2 a0 7 ∧ iv2 a0 7 ≤ 100000 from W2.int t_a0 7) (show iv2 a0 7 = ivb1 a0 7 from by rw [pq2]; exact up2_k (ne_ty t_a0 trb1 (by decide))) (fun ri3 ie4 => ?_)
            refine c_lv (lv2 := [(3, .int (iI (k + 1))), (0, .ref a0), (1, .int (iI i)), (2, .int (iI n))]) [0, 1, 2, 3] rfl ?_
            exact ih1  (k + 1) _ (by omega) W2 F2  (by omega) (hM.step rq1 pq2 ⟨by omega, by omega⟩ (by omega))
  refine c_lv (lv2 := [(3, .int (iI i)), (0, .ref a0), (1, .int (iI i)), (2, .int (iI n))]) [0, 1, 2, 3] rfl ?_
  exact Lp1 510 i _ (by omega) hW hF0  (by omega) MSK.zero
set_option maxHeartbeats 4000000 in
set_option maxRecDepth 100000 in
theorem G_setPart {l : Launch} {G : GT} {mi : Nat} {sk : Nat → Nat} {L : List Nat} {cl ln : Nat → Nat} {iv : Nat → Nat → Int} {rv : Nat → Nat → Option Nat}  {a0 : Nat} {r : Option Nat} {i : Int} {n : Int} (hW : WT (g0 G) sk L cl ln iv rv) (hS : SKL sk L cl) (t_a0 : ty L cl a0 15) (t_r : ∀ b, r = some b → ty L cl b 100) (h_i : -2147483648 ≤ i ∧ i ≤ 2147483647) (h_n : -2147483648 ≤ n ∧ n ≤ 2147483647) (hi : 0 ≤ i ∧ i ≤ 500 ∧ 0 ≤ n ∧ n ≤ 500 ∧ iv a0 7 ≤ 50000) : Mc l G mi (Phi (g0 G) sk) PHM yX6_setPart cX6_setPart 9 (some .int) 5 [.ref a0, va_rf r, .int (iI i), .int (iI n)] L cl ln iv rv 0 (fun v L2 cl2 ln2 iv2 rv2 => ∃ f : Int, v = some (.int (iI f)) ∧ L = L2 ∧ cl = cl2 ∧ ln = ln2 ∧ rv = rv2 ∧ fT [15, 53, 54, 55] L cl iv rv iv2 rv2 ∧ WT (g0 G) sk L2 cl2 ln2 iv2 rv2 ∧ (-2147483648 ≤ f ∧ f ≤ 2147483647) ∧ (((f = 0 ∨ f = 6 ∨ f = 7) ∧ iv2 a0 4 = iv a0 4 ∧ iv2 a0 7 ≤ iv a0 7 + 208 ∧ (f = 0 → (iv2 a0 7 ≤ iv a0 7 ∨ iv2 a0 7 ≤ 200))) ∧ SPX sk ln iv rv iv2 a0 r i n f)) := by
  refine Mc.mk (by decide) (by cases r <;> exact Nat.le_of_ble_eq_true rfl) ?_
  intro p e s m args below meth c A C hM
  have hph := Phi.le hW hS
  refine c_lveq (show lv_args 0 [.ref a0, va_rf r, .int (iI i), .int (iI n)] = [(0, .ref a0), (1, (va_rf r)), (2, .int (iI i)), (3, .int (iI n))] from by cases r <;> rfl) ?_
  refine hv3 (show 0 ≤ iv a0 7 from (hW.int t_a0 7).1) (show XT L cl ln L cl ln from XT.refl) (show fT [15, 53, 54, 55] L cl iv rv iv rv from fT.refl) (fun hc00 hX0 hF0 => ?_)
  refine c_aloadr_n (j := 1) (r := r) C dX6_setPart_0 rfl ?_
  refine c_ifnonnull (r := r) (tgt := 6) C dX6_setPart_1 (by decide) (fun ob1 oq1 => ?_) (fun oq1 => ?_)
  · subst oq1
    have tob1 := t_r ob1 rfl
    refine c_lv (lv2 := [(0, .ref a0), (1, .ref ob1), (2, .int (iI i)), (3, .int (iI n))]) [0, 1, 2, 3] rfl ?_
    refine c_st (st2 := []) rfl ?_
    refine c_aload_n (j := 0) (x := a0) C dX6_setPart_6 rfl ?_
    refine c_iload_n (j := 2) C dX6_setPart_7 rfl ?_
    refine c_put (z := i) (k := 10) C ck_7 dX6_setPart_8 w1_152 (by decide) rfl t_a0 rfl rfl (by decide) rfl (by rfl) (by rfl) (fun iv1 pq1 => ?_)
    refine hv2 (hW.puti pq1 t_a0 (show 0 ≤ i ∧ i ≤ 500 by omega) rfl) (hF0.puti hX0 pq1 t_a0 rfl) (fun W1 F1 => ?_)
    refine c_aload_n (j := 0) (x := a0) C dX6_setPart_11 rfl ?_
    refine c_iload_n (j := 3) C dX6_setPart_12 rfl ?_
    refine c_put (z := n) (k := 11) C ck_7 dX6_setPart_13 w1_153 (by decide) rfl t_a0 rfl rfl (by decide) rfl (by rfl) (by rfl) (fun iv2 pq2 => ?_)
    refine hv2 (W1.puti pq2 t_a0 (show 0 ≤ n ∧ n ≤ 500 by omega) rfl) (F1.puti hX0 pq2 t_a0 rfl) (fun W2 F2 => ?_)
    have Lp1 : ∀ (nn : Nat) (cp : Option Nat) (aq : Int) (ivb1 : Nat → Nat → Int) , 509 - aq < (nn : Int) → WT (g0 G) sk L cl ln ivb1 rv → fT [15, 53, 54, 55] L cl iv rv ivb1 rv → (∀ b, cp = some b → ty L cl b 20) → (i ≤ aq ∧ aq ≤ 508) → (ivb1 a0 7 ≤ iv a0 7 ∨ ivb1 a0 7 ≤ 200) → (ivb1 a0 4 = iv a0 4) → (ivb1 a0 10 = i ∧ ivb1 a0 11 = n) → (SPI sk ln iv rv ivb1 a0 ob1 i n aq) → (CPX iv rv ob1 cp) → cw p l e 5 ((PHM) + 0 - ((Phi (g0 G) sk) ln rv)) s m args below meth c G A 9 (MQ below (Qu G A (Qp G (Phi (g0 G) sk) ((Phi (g0 G) sk) ln rv) 0 (fun v L2 cl2 ln2 iv2 rv2 => ∃ f : Int, v = some (.int (iI f)) ∧ L = L2 ∧ cl = cl2 ∧ ln = ln2 ∧ rv = rv2 ∧ fT [15, 53, 54, 55] L cl iv rv iv2 rv2 ∧ WT (g0 G) sk L2 cl2 ln2 iv2 rv2 ∧ (-2147483648 ≤ f ∧ f ≤ 2147483647) ∧ (((f = 0 ∨ f = 6 ∨ f = 7) ∧ iv2 a0 4 = iv a0 4 ∧ iv2 a0 7 ≤ iv a0 7 + 208 ∧ (f = 0 → (iv2 a0 7 ≤ iv a0 7 ∨ iv2 a0 7 ≤ 200))) ∧ SPX sk ln iv rv iv2 a0 (some ob1) i n f)))) args s (((PHM) + 0 - ((Phi (g0 G) sk) ln rv)) / 16) ((PHM) + 0 - ((Phi (g0 G) sk) ln rv)) A) (Phi (g0 G) sk) ((Phi (g0 G) sk) ln rv) L cl ln ivb1 rv 0 39 [(4, (va_rf cp)), (5, .int (iI aq)), (0, .ref a0), (1, .ref ob1), (2, .int (iI i)), (3, .int (iI n))] [] := by
      intro nn
      induction nn with
      | zero =>
        intro cp aq ivb1 hm Wb1 Fb1 ty_cp hat hc7 hc4 hc11 hI hCP
        exact absurd hm (by omega)
      | succ nn ih1 =>
        intro cp aq ivb1 hm Wb1 Fb1 ty_cp hat hc7 hc4 hc11 hI hCP
        refine c_iload (j := 1) C dX6_setPart_39 rfl ?_
        refine c_iload_n (j := 5) C dX6_setPart_41 rfl ?_
        refine c_icmp_ge (tgt := 179) C ⟨by omega, by omega⟩ ⟨by omega, by omega⟩ dX6_setPart_42 (by decide) (fun c1 => ?_) (fun c1 => ?_)
        · refine c_iconst C dX6_setPart_179 ?_
          refine hv4 (show 0 ≤ ivb1 a0 4 ∧ ivb1 a0 4 ≤ 500 from Wb1.int t_a0 4) (show 0 ≤ ivb1 a0 7 ∧ ivb1 a0 7 ≤ 100000 from Wb1.int t_a0 7) (show 0 ≤ ivb1 a0 10 ∧ ivb1 a0 10 ≤ 500 from Wb1.int t_a0 10) (show 0 ≤ ivb1 a0 11 ∧ ivb1 a0 11 ≤ 500 from Wb1.int t_a0 11) (fun ri1 ri2 ri3 ri4 => ?_)
          exact c_iret C dX6_setPart_180 rfl (by decide) (rom0 hph hph (by decide)) ⟨0, rfl, rfl, rfl, rfl, rfl, Fb1, Wb1, ⟨by decide, by decide⟩, ⟨by omega, hI.done (by omega)⟩⟩
        · refine c_aload_n (j := 2) (x := a0) C dX6_setPart_45 rfl ?_
          obtain ⟨rb1, rq1, trb1⟩ := Wb1.ref t_a0 0 rfl rfl rfl
          have lnrb1 : 500 ≤ ln rb1 ∧ ln rb1 ≤ 500 := Wb1.len trb1 rfl
          refine c_getr (k := 0) C ck_7 dX6_setPart_46 w1_136 (by decide) t_a0 rfl rfl (by decide) rfl rq1 ?_
          refine c_st (st2 := [.ref rb1]) rfl ?_
          refine c_iload (j := 1) C dX6_setPart_49 rfl ?_
          have ll1 : 500 ≤ ln rb1 ∧ ln rb1 ≤ 500 := Wb1.len trb1 rfl
          refine c_iald C dX6_setPart_51 trb1 rfl (by omega) (by omega) (by omega) ?_
          refine hv2 (show (-2147483648) ≤ ivb1 rb1 aq.toNat ∧ ivb1 rb1 aq.toNat ≤ 2147483647 from Wb1.int trb1 aq.toNat) (show ivb1 rb1 aq.toNat = iv rb1 aq.toNat from Fb1.i trb1 rfl aq.toNat) (fun ri5 ie5 => ?_)
          refine c_istore (lv2 := [(6, .int (iI (ivb1 rb1 aq.toNat))), (4, (va_rf cp)), (5, .int (iI aq)), (0, .ref a0), (1, .ref ob1), (2, .int (iI i)), (3, .int (iI n))]) C dX6_setPart_52 (by decide) rfl ?_
          refine c_aload_n (j := 3) (x := a0) C dX6_setPart_54 rfl ?_
          refine c_aload_n (j := 4) (x := ob1) C dX6_setPart_55 rfl ?_
          refine c_iload (j := 2) C dX6_setPart_56 rfl ?_
          refine d_callV (As := [.ref ob1, .int (iI aq)]) (rest := []) C hM (G_numberAhead (a0 := a0) (a1 := ob1) (i := aq) Wb1 hS t_a0 tob1 (by omega) (by show 0 ≤ aq ∧ aq < 500; omega)) dX6_setPart_58 kV_X6_90 rfl t_a0 rfl rfl (by decide) ck_7 rfl (Nat.le_of_ble_eq_true rfl) ⟨(Nat.le_of_ble_eq_true rfl), (Nat.le_of_ble_eq_true rfl)⟩ hph hph (show 0 + 0 = 0 from rfl) (by decide) (fun rh1 Lh1 clh1 lnh1 ivh1 rvh1 h1 => ?_)
          obtain ⟨f1, rfl, rfl, rfl, rfl, rfl, rfl, rgf1, exf1⟩ := h1
          refine c_st (st2 := [(va_rf f1)]) rfl ?_
          refine hv5 (show NAX sk ln ivb1 rv a0 ob1 aq f1 from exf1) (show 0 ≤ ivb1 a0 4 ∧ ivb1 a0 4 ≤ 500 from Wb1.int t_a0 4) (show 0 ≤ ivb1 a0 7 ∧ ivb1 a0 7 ≤ 100000 from Wb1.int t_a0 7) (show 0 ≤ ivb1 a0 10 ∧ ivb1 a0 10 ≤ 500 from Wb1.int t_a0 10) (show 0 ≤ ivb1 a0 11 ∧ ivb1 a0 11 ≤ 500 from Wb1.int t_a0 11) (fun gf1 ri6 ri7 ri8 ri9 => ?_)
          have naf1 : NA0 sk ln iv rv a0 ob1 i n aq f1 := NAX.mv gf1 hW hS Wb1 Fb1 t_a0 rgf1 (by omega) (by omega) ⟨by omega, by omega⟩
          refine c_astorer (r := f1) (lv2 := [(7, (va_rf f1)), (6, .int (iI (ivb1 rb1 aq.toNat))), (4, (va_rf cp)), (5, .int (iI aq)), (0, .ref a0), (1, .ref ob1), (2, .int (iI i)), (3, .int (iI n))]) C dX6_setPart_61 (by decide) rfl ?_
          refine c_aload_n (j := 4) (x := a0) C dX6_setPart_63 rfl ?_
          refine c_aload_n (j := 5) (x := ob1) C dX6_setPart_64 rfl ?_
          refine c_iload (j := 3) C dX6_setPart_65 rfl ?_
          refine c_iload (j := 1) C dX6_setPart_67 rfl ?_
          refine d_callV (As := [.ref ob1, .int (iI aq), .int (iI (ivb1 rb1 aq.toNat))]) (rest := []) C hM (G_find (a0 := a0) (a1 := ob1) (i := aq) (x := ivb1 rb1 aq.toNat) Wb1 hS t_a0 tob1 (by omega) (by omega) (by show 0 ≤ aq ∧ aq ≤ 500; omega)) dX6_setPart_69 kV_X6_94 rfl t_a0 rfl rfl (by decide) ck_7 rfl (Nat.le_of_ble_eq_true rfl) ⟨(Nat.le_of_ble_eq_true rfl), (Nat.le_of_ble_eq_true rfl)⟩ hph hph (show 0 + 0 = 0 from rfl) (by decide) (fun rh2 Lh2 clh2 lnh2 ivh2 rvh2 h2 => ?_)
          obtain ⟨f2, rfl, rfl, rfl, rfl, rfl, fl2, W4, rgf2, exf2⟩ := h2
          have F3 := Fb1.call hX0 fl2 rfl
          refine c_st (st2 := [(va_rf f2)]) rfl ?_
          refine hv2 (show FDX sk ln ivb1 rv a0 ob1 aq (ivb1 rb1 aq.toNat) f2 from exf2) (hI.ni Wb1 fl2 t_a0 rfl rfl rfl) (fun gf2 sif2 => ?_)
          have fdf2 : FD0 sk ln iv rv a0 ob1 i n aq (ivb1 rb1 aq.toNat) f2 := FDX.mv gf2 hW hS Wb1 Fb1 t_a0 rgf2 (by omega) (by omega) ⟨by omega, by omega⟩
          refine c_astorer (r := f2) (lv2 := [(8, (va_rf f2)), (7, (va_rf f1)), (6, .int (iI (ivb1 rb1 aq.toNat))), (4, (va_rf cp)), (5, .int (iI aq)), (0, .ref a0), (1, .ref ob1), (2, .int (iI i)), (3, .int (iI n))]) C dX6_setPart_72 (by decide) (by cases f1 <;> rfl) ?_
          refine c_aloadr (j := 0) (r := f2) C dX6_setPart_74 rfl ?_
          refine c_ifnonnull (r := f2) (tgt := 110) C dX6_setPart_76 (by decide) (fun ob2 oq2 => ?_) (fun oq2 => ?_)
          · subst oq2
            have tob2 := rgf2 ob2 rfl
            refine c_lv (lv2 := [(8, .ref ob2), (7, (va_rf f1)), (6, .int (iI (ivb1 rb1 aq.toNat))), (4, (va_rf cp)), (5, .int (iI aq)), (0, .ref a0), (1, .ref ob1), (2, .int (iI i)), (3, .int (iI n))]) [0, 1, 2, 3, 4, 5, 6, 7, 8] rfl ?_
            refine c_st (st2 := []) rfl ?_
            refine c_aload (j := 0) (x := ob2) C dX6_setPart_110 rfl ?_
            refine c_ifnonnull (r := (some ob2)) (tgt := 124) C dX6_setPart_112 (by decide) (fun _ _ => ?_) (fun q => by cases q)
            refine c_aload_n (j := 5) (x := a0) C dX6_setPart_124 rfl ?_
            refine c_iload (j := 4) C dX6_setPart_125 rfl ?_
            refine c_aload (j := 0) (x := ob2) C dX6_setPart_127 rfl ?_
            obtain ⟨rb2, rq2, trb2⟩ := W4.ref tob2 1 rfl rfl rfl
            have lnrb2 : 0 ≤ ln rb2 ∧ ln rb2 ≤ 8 := W4.len trb2 rfl
            refine c_getr (k := 1) C ck_6 dX6_setPart_129 w3_141 (by decide) tob2 rfl rfl (by decide) rfl rq2 ?_
            refine c_st (st2 := [.ref rb2, .int (iI aq), .ref a0]) rfl ?_
            have ll2 : 0 ≤ ln rb2 ∧ ln rb2 ≤ 8 := W4.len trb2 rfl
            refine c_alenI C dX6_setPart_132 trb2 rfl ?_
            refine d_callV (As := [.int (iI aq), .int (iI ((ln rb2 : Nat) : Int))]) (rest := []) C hM (G_markStart (a0 := a0) (i := aq) (n := ((ln rb2 : Nat) : Int)) W4 hS t_a0 (by omega) (by omega) (by show 0 ≤ aq ∧ aq ≤ 500 ∧ 0 ≤ ((ln rb2 : Nat) : Int) ∧ ((ln rb2 : Nat) : Int) ≤ 8; omega)) dX6_setPart_133 kV_X6_105 rfl t_a0 rfl rfl (by decide) ck_7 rfl (Nat.le_of_ble_eq_true rfl) ⟨(Nat.le_of_ble_eq_true rfl), (Nat.le_of_ble_eq_true rfl)⟩ hph hph (show 0 + 0 = 0 from rfl) (by decide) (fun rh3 Lh3 clh3 lnh3 ivh3 rvh3 h3 => ?_)
            obtain ⟨rfl, rfl, rfl, rfl, rfl, fl3, W5, exf3⟩ := h3
            have F4 := F3.call hX0 fl3 rfl
            refine c_st (st2 := []) rfl ?_
            have gf3 : MSX ivh2 rv ivh3 a0 aq ((ln rb2 : Nat) : Int) := exf3
            have sif3 := SPI.mark sif2 W4 fl3 t_a0 rfl rfl ⟨by omega, by omega⟩ gf3
            refine c_aload_n (j := 5) (x := a0) C dX6_setPart_136 rfl ?_
            refine c_aloadr (j := 1) (r := f1) C dX6_setPart_137 rfl ?_
            refine hv12 (show 0 ≤ ivh3 a0 7 ∧ ivh3 a0 7 ≤ 100000 from W5.int t_a0 7) (show ivh3 a0 7 = ivh2 a0 7 from fl3.i t_a0 rfl 7) (show ivh2 a0 7 = ivb1 a0 7 from fl2.i t_a0 rfl 7) (show 0 ≤ ivh3 a0 4 ∧ ivh3 a0 4 ≤ 500 from W5.int t_a0 4) (show ivh3 a0 4 = ivh2 a0 4 from fl3.i t_a0 rfl 4) (show ivh2 a0 4 = ivb1 a0 4 from fl2.i t_a0 rfl 4) (show 0 ≤ ivh3 a0 10 ∧ ivh3 a0 10 ≤ 500 from W5.int t_a0 10) (show ivh3 a0 10 = ivh2 a0 10 from fl3.i t_a0 rfl 10) (show ivh2 a0 10 = ivb1 a0 10 from fl2.i t_a0 rfl 10) (show 0 ≤ ivh3 a0 11 ∧ ivh3 a0 11 ≤ 500 from W5.int t_a0 11) (show ivh3 a0 11 = ivh2 a0 11 from fl3.i t_a0 rfl 11) (show ivh2 a0 11 = ivb1 a0 11 from fl2.i t_a0 rfl 11) (fun ri10 ie10 ie11 ri11 ie12 ie13 ri12 ie14 ie15 ri13 ie16 ie17 => ?_)
            refine d_callV (As := [(va_rf f1)]) (rest := []) C hM (G_push (a0 := a0) (r := f1) W5 hS t_a0 rgf1  (by show ivh3 a0 7 ≤ 90000; omega)) dX6_setPart_139 kV_X6_86 rfl t_a0 rfl rfl (by decide) ck_7 rfl (Nat.le_of_ble_eq_true rfl) ⟨(Nat.le_of_ble_eq_true rfl), (Nat.le_of_ble_eq_true rfl)⟩ hph hph (show 0 + 0 = 0 from rfl) (by decide) (fun rh4 Lh4 clh4 lnh4 ivh4 rvh4 h4 => ?_)
            obtain ⟨rfl, rfl, rfl, rfl, rfl, fl4, W6, exf4⟩ := h4
            have F5 := F4.call hX0 fl4 rfl
            refine c_st (st2 := []) rfl ?_
            refine hv5 (show 0 ≤ ivh4 a0 4 ∧ ivh4 a0 4 ≤ 500 from W6.int t_a0 4) (show 0 ≤ ivh4 a0 7 ∧ ivh4 a0 7 ≤ 100000 from W6.int t_a0 7) (show 0 ≤ ivh4 a0 10 ∧ ivh4 a0 10 ≤ 500 from W6.int t_a0 10) (show 0 ≤ ivh4 a0 11 ∧ ivh4 a0 11 ≤ 500 from W6.int t_a0 11) (show (ivh4 a0 4 = ivh3 a0 4 ∧ ivh3 a0 7 ≤ ivh4 a0 7 ∧ ivh4 a0 7 ≤ ivh3 a0 7 + 4 ∧ ivh4 a0 10 = ivh3 a0 10 ∧ ivh4 a0 11 = ivh3 a0 11) ∧ PUX ln ivh3 rv ivh4 a0 f1 from exf4) (fun ri14 ri15 ri16 ri17 gf4 => ?_)
            refine c_aload_n (j := 5) (x := a0) C dX6_setPart_142 rfl ?_
            refine c_aload (j := 0) (x := ob2) C dX6_setPart_143 rfl ?_
            refine d_callV (As := [.ref ob2]) (rest := []) C hM (G_push (a0 := a0) (r := (some ob2)) W6 hS t_a0 (fun _ q => by cases q; exact tob2)  (by show ivh4 a0 7 ≤ 90000; omega)) dX6_setPart_145 kV_X6_86 rfl t_a0 rfl rfl (by decide) ck_7 rfl (Nat.le_of_ble_eq_true rfl) ⟨(Nat.le_of_ble_eq_true rfl), (Nat.le_of_ble_eq_true rfl)⟩ hph hph (show 0 + 0 = 0 from rfl) (by decide) (fun rh5 Lh5 clh5 lnh5 ivh5 rvh5 h5 => ?_)
            obtain ⟨rfl, rfl, rfl, rfl, rfl, fl5, W7, exf5⟩ := h5
            have F6 := F5.call hX0 fl5 rfl
            refine c_st (st2 := []) rfl ?_
            refine hv11 (show 0 ≤ ivh5 a0 4 ∧ ivh5 a0 4 ≤ 500 from W7.int t_a0 4) (show 0 ≤ ivh5 a0 7 ∧ ivh5 a0 7 ≤ 100000 from W7.int t_a0 7) (show 0 ≤ ivh5 a0 10 ∧ ivh5 a0 10 ≤ 500 from W7.int t_a0 10) (show 0 ≤ ivh5 a0 11 ∧ ivh5 a0 11 ≤ 500 from W7.int t_a0 11) (show (ivh5 a0 4 = ivh4 a0 4 ∧ ivh4 a0 7 ≤ ivh5 a0 7 ∧ ivh5 a0 7 ≤ ivh4 a0 7 + 4 ∧ ivh5 a0 10 = ivh4 a0 10 ∧ ivh5 a0 11 = ivh4 a0 11) ∧ PUX ln ivh4 rv ivh5 a0 (some ob2) from exf5) (show (-2147483648) ≤ ivh5 ob1 0 ∧ ivh5 ob1 0 ≤ 2147483647 from W7.int tob1 0) (show ivh5 ob1 0 = ivh4 ob1 0 from fl5.i tob1 rfl 0) (show ivh4 ob1 0 = ivh3 ob1 0 from fl4.i tob1 rfl 0) (show ivh3 ob1 0 = ivh2 ob1 0 from fl3.i tob1 rfl 0) (show ivh2 ob1 0 = ivb1 ob1 0 from fl2.i tob1 rfl 0) (show ivb1 ob1 0 = iv ob1 0 from Fb1.i tob1 rfl 0) (fun ri18 ri19 ri20 ri21 gf5 ri22 ie26 ie27 ie28 ie29 ie30 => ?_)
            have s2f5 : SP2 sk ln iv rv ivh5 a0 ob1 i n aq ob2 := SPM.two sif3 rq2 rfl W5 W6 t_a0 fl4 fl5 rfl rfl hW F4 F5 rgf1 tob2 (PCX.plain naf1 fdf2 rq1 (by omega) ⟨by omega, by omega⟩) gf4.2 gf5.2
            refine c_aload_n (j := 5) (x := a0) C dX6_setPart_148 rfl ?_
            refine c_get (k := 7) C ck_7 dX6_setPart_149 w1_147 (by decide) t_a0 rfl rfl (by decide) rfl ?_
            refine c_sipush (z := 200) C dX6_setPart_152 (by decide) ?_
            refine c_icmp_le (tgt := 161) C (r32_c (lo := 0) (hi := 100000) ri19.1 ri19.2 (by decide) (by decide)) ⟨by decide, by decide⟩ dX6_setPart_155 (by decide) (fun c2 => ?_) (fun c2 => ?_)
            · refine c_iload (j := 4) C dX6_setPart_161 rfl ?_
              refine c_iconst C dX6_setPart_163 ?_
              refine c_aload (j := 0) (x := ob2) C dX6_setPart_164 rfl ?_
              refine c_getr (k := 1) C ck_6 dX6_setPart_166 w3_141 (by decide) tob2 rfl rfl (by decide) rfl rq2 ?_
              refine c_st (st2 := [.ref rb2, .int (iI 1), .int (iI aq)]) rfl ?_
              refine c_alenI C dX6_setPart_169 trb2 rfl ?_
              obtain ⟨mn1, hmn1, emn1⟩ := mmax_c (x := 1) (y := ((ln rb2 : Nat) : Int)) ⟨by decide, by decide⟩ ⟨by omega, by omega⟩
              refine c_mmax (w := iI mn1) C dX6_setPart_170 w4_130 w2_148 w1_14 w2_149 (by decide) (rom0 hph hph (by decide)) (Nat.le_of_ble_eq_true rfl) emn1 ?_
              refine c_iadd C dX6_setPart_173 ?_
              refine c_istore (lv2 := [(5, .int (iI (aq + mn1))), (8, .ref ob2), (7, (va_rf f1)), (6, .int (iI (ivb1 rb1 aq.toNat))), (4, (va_rf cp)), (0, .ref a0), (1, .ref ob1), (2, .int (iI i)), (3, .int (iI n))]) C dX6_setPart_174 (by decide) (by cases cp <;> rfl) ?_
              refine c_goto (tgt := 39) C dX6_setPart_176 (by decide) ?_
              refine c_lv (lv2 := [(4, (va_rf cp)), (5, .int (iI (aq + mn1))), (0, .ref a0), (1, .ref ob1), (2, .int (iI i)), (3, .int (iI n))]) [4, 0, 5, 6, 7, 8] rfl ?_
              exact ih1  cp (aq + mn1) _ (by omega) W7 F6 ty_cp (by omega) (by show ivh5 a0 7 ≤ iv a0 7 ∨ ivh5 a0 7 ≤ 200; omega) (by show ivh5 a0 4 = iv a0 4; omega) (by show ivh5 a0 10 = i ∧ ivh5 a0 11 = n; omega) (s2f5.next (by omega) (by omega) rq2 (by omega)) hCP
            · refine c_bipush (z := 6) C dX6_setPart_158 (by decide) ?_
              exact c_iret C dX6_setPart_160 rfl (by decide) (rom0 hph hph (by decide)) ⟨6, rfl, rfl, rfl, rfl, rfl, F6, W7, ⟨by decide, by decide⟩, ⟨by omega, s2f5.many (by omega) (by omega) (by decide)⟩⟩
          · subst oq2
            refine c_lv (lv2 := [(8, .null), (7, (va_rf f1)), (6, .int (iI (ivb1 rb1 aq.toNat))), (4, (va_rf cp)), (5, .int (iI aq)), (0, .ref a0), (1, .ref ob1), (2, .int (iI i)), (3, .int (iI n))]) [0, 1, 2, 3, 4, 5, 6, 7, 8] rfl ?_
            refine c_st (st2 := []) rfl ?_
            refine c_aloadr (j := 3) (r := cp) C dX6_setPart_79 rfl ?_
            refine c_ifnull (r := cp) (tgt := 110) C dX6_setPart_81 (by decide) (fun oq3 => ?_) (fun ob3 oq3 => ?_)
            · subst oq3
              refine c_lv (lv2 := [(8, .null), (7, (va_rf f1)), (6, .int (iI (ivb1 rb1 aq.toNat))), (4, .null), (5, .int (iI aq)), (0, .ref a0), (1, .ref ob1), (2, .int (iI i)), (3, .int (iI n))]) [0, 1, 2, 3, 4, 5, 6, 7, 8] rfl ?_
              refine c_st (st2 := []) rfl ?_
              refine c_aloadr (j := 0) (r := none) C dX6_setPart_110 rfl ?_
              refine c_st (st2 := [.null]) rfl ?_
              refine c_ifnonnull (r := none) (tgt := 124) C dX6_setPart_112 (by decide) (fun _ q => by cases q) (fun _ => ?_)
              refine c_aload_n (j := 5) (x := a0) C dX6_setPart_115 rfl ?_
              refine c_iload (j := 4) C dX6_setPart_116 rfl ?_
              refine c_put (z := aq) (k := 9) C ck_7 dX6_setPart_118 w1_151 (by decide) rfl t_a0 rfl rfl (by decide) rfl (by rfl) (by rfl) (fun iv3 pq3 => ?_)
              refine hv2 (W4.puti pq3 t_a0 (show (-2147483648) ≤ aq ∧ aq ≤ 2147483647 by omega) rfl) (F3.puti hX0 pq3 t_a0 rfl) (fun W8 F7 => ?_)
              refine c_bipush (z := 7) C dX6_setPart_121 (by decide) ?_
              refine hv16 (show 0 ≤ iv3 a0 4 ∧ iv3 a0 4 ≤ 500 from W8.int t_a0 4) (show iv3 a0 4 = ivh2 a0 4 from by rw [pq3]; exact up2_j (by decide)) (show ivh2 a0 4 = ivb1 a0 4 from fl2.i t_a0 rfl 4) (show 0 ≤ iv3 a0 7 ∧ iv3 a0 7 ≤ 100000 from W8.int t_a0 7) (show iv3 a0 7 = ivh2 a0 7 from by rw [pq3]; exact up2_j (by decide)) (show ivh2 a0 7 = ivb1 a0 7 from fl2.i t_a0 rfl 7) (show 0 ≤ iv3 a0 10 ∧ iv3 a0 10 ≤ 500 from W8.int t_a0 10) (show iv3 a0 10 = ivh2 a0 10 from by rw [pq3]; exact up2_j (by decide)) (show ivh2 a0 10 = ivb1 a0 10 from fl2.i t_a0 rfl 10) (show 0 ≤ iv3 a0 11 ∧ iv3 a0 11 ≤ 500 from W8.int t_a0 11) (show iv3 a0 11 = ivh2 a0 11 from by rw [pq3]; exact up2_j (by decide)) (show ivh2 a0 11 = ivb1 a0 11 from fl2.i t_a0 rfl 11) (show (-2147483648) ≤ iv3 ob1 0 ∧ iv3 ob1 0 ≤ 2147483647 from W8.int tob1 0) (show iv3 ob1 0 = ivh2 ob1 0 from by rw [pq3]; exact up2_k (ne_ty tob1 t_a0 (by decide))) (show ivh2 ob1 0 = ivb1 ob1 0 from fl2.i tob1 rfl 0) (show ivb1 ob1 0 = iv ob1 0 from Fb1.i tob1 rfl 0) (fun ri23 ie31 ie32 ri24 ie33 ie34 ri25 ie35 ie36 ri26 ie37 ie38 ri27 ie39 ie40 ie41 => ?_)
              exact c_iret C dX6_setPart_123 rfl (by decide) (rom0 hph hph (by decide)) ⟨7, rfl, rfl, rfl, rfl, rfl, F7, W8, ⟨by decide, by decide⟩, ⟨by omega, SPI.unk sif2 (NPX.no fdf2 rq1 (by omega) ⟨by omega, by omega⟩ (CPX.no hCP)) (by omega) (by decide)⟩⟩
            · subst oq3
              have tob3 := ty_cp ob3 rfl
              refine c_lv (lv2 := [(8, .null), (7, (va_rf f1)), (6, .int (iI (ivb1 rb1 aq.toNat))), (4, .ref ob3), (5, .int (iI aq)), (0, .ref a0), (1, .ref ob1), (2, .int (iI i)), (3, .int (iI n))]) [0, 1, 2, 3, 4, 5, 6, 7, 8] rfl ?_
              refine c_st (st2 := []) rfl ?_
              refine c_iload (j := 2) C dX6_setPart_84 rfl ?_
              refine c_callSN0 (As := [.int (iI (ivb1 rb1 aq.toNat))]) (rest := []) C (fun L E => s11_isGreat (iI (ivb1 rb1 aq.toNat))) dX6_setPart_86 kSN_X6_98 rfl rfl (Nat.le_of_ble_eq_true rfl) ⟨(Nat.le_of_ble_eq_true rfl), (Nat.le_of_ble_eq_true rfl)⟩ (rom0 hph hph (by decide)) ?_
              rcases inn_c (x := ivb1 rb1 aq.toNat) (lo := 65) (hi := 90) (r32_c (lo := (-2147483648)) (hi := 2147483647) ri5.1 ri5.2 (by decide) (by decide)) ⟨by decide, by decide⟩ ⟨by decide, by decide⟩ with ⟨hs1a, hs1b, hs1e⟩ | ⟨hs1a, hs1e⟩
              · refine c_st (st2 := [.int (iI 1)]) (by rw [show inn (iI (ivb1 rb1 aq.toNat)) 65 90 = iI 1 from hs1e]) ?_
                refine c_if_eq (tgt := 110) C ⟨by decide, by decide⟩ dX6_setPart_89 (by decide) (fun z => absurd z (by omega)) (fun _ => ?_)
                refine c_aload (j := 3) (x := ob3) C dX6_setPart_92 rfl ?_
                refine c_astore (lv2 := [(7, .ref ob3), (8, .null), (6, .int (iI (ivb1 rb1 aq.toNat))), (4, .ref ob3), (5, .int (iI aq)), (0, .ref a0), (1, .ref ob1), (2, .int (iI i)), (3, .int (iI n))]) C dX6_setPart_94 (by decide) rfl ?_
                refine c_aload_n (j := 5) (x := a0) C dX6_setPart_96 rfl ?_
                refine c_aload_n (j := 6) (x := ob1) C dX6_setPart_97 rfl ?_
                refine c_iload (j := 4) C dX6_setPart_98 rfl ?_
                refine c_iload (j := 2) C dX6_setPart_100 rfl ?_
                refine c_bipush (z := 32) C dX6_setPart_102 (by decide) ?_
                refine c_iadd C dX6_setPart_104 ?_
                refine hv8 (show 0 ≤ ivh2 a0 4 ∧ ivh2 a0 4 ≤ 500 from W4.int t_a0 4) (show ivh2 a0 4 = ivb1 a0 4 from fl2.i t_a0 rfl 4) (show 0 ≤ ivh2 a0 7 ∧ ivh2 a0 7 ≤ 100000 from W4.int t_a0 7) (show ivh2 a0 7 = ivb1 a0 7 from fl2.i t_a0 rfl 7) (show 0 ≤ ivh2 a0 10 ∧ ivh2 a0 10 ≤ 500 from W4.int t_a0 10) (show ivh2 a0 10 = ivb1 a0 10 from fl2.i t_a0 rfl 10) (show 0 ≤ ivh2 a0 11 ∧ ivh2 a0 11 ≤ 500 from W4.int t_a0 11) (show ivh2 a0 11 = ivb1 a0 11 from fl2.i t_a0 rfl 11) (fun ri28 ie42 ri29 ie43 ri30 ie44 ri31 ie45 => ?_)
                refine d_callV (As := [.ref ob1, .int (iI aq), .int (iI ((ivb1 rb1 aq.toNat) + 32))]) (rest := []) C hM (G_find (a0 := a0) (a1 := ob1) (i := aq) (x := (ivb1 rb1 aq.toNat) + 32) W4 hS t_a0 tob1 (by omega) (by omega) (by show 0 ≤ aq ∧ aq ≤ 500; omega)) dX6_setPart_105 kV_X6_94 rfl t_a0 rfl rfl (by decide) ck_7 rfl (Nat.le_of_ble_eq_true rfl) ⟨(Nat.le_of_ble_eq_true rfl), (Nat.le_of_ble_eq_true rfl)⟩ hph hph (show 0 + 0 = 0 from rfl) (by decide) (fun rh6 Lh6 clh6 lnh6 ivh6 rvh6 h6 => ?_)
                obtain ⟨f6, rfl, rfl, rfl, rfl, rfl, fl6, W9, rgf6, exf6⟩ := h6
                have F8 := F3.call hX0 fl6 rfl
                refine c_st (st2 := [(va_rf f6)]) rfl ?_
                refine hv2 (show FDX sk ln ivh2 rv a0 ob1 aq ((ivb1 rb1 aq.toNat) + 32) f6 from exf6) (sif2.ni W4 fl6 t_a0 rfl rfl rfl) (fun gf6 sif6 => ?_)
                have fdf6 : FD0 sk ln iv rv a0 ob1 i n aq ((ivb1 rb1 aq.toNat) + 32) f6 := FDX.mv gf6 hW hS W4 F3 t_a0 rgf6 (by omega) (by omega) ⟨by omega, by omega⟩
                refine c_astorer (r := f6) (lv2 := [(8, (va_rf f6)), (7, .ref ob3), (6, .int (iI (ivb1 rb1 aq.toNat))), (4, .ref ob3), (5, .int (iI aq)), (0, .ref a0), (1, .ref ob1), (2, .int (iI i)), (3, .int (iI n))]) C dX6_setPart_108 (by decide) rfl ?_
                refine c_aloadr (j := 0) (r := f6) C dX6_setPart_110 rfl ?_
                refine c_ifnonnull (r := f6) (tgt := 124) C dX6_setPart_112 (by decide) (fun ob4 oq4 => ?_) (fun oq4 => ?_)
                · subst oq4
                  have tob4 := rgf6 ob4 rfl
                  refine c_lv (lv2 := [(8, .ref ob4), (7, .ref ob3), (6, .int (iI (ivb1 rb1 aq.toNat))), (4, .ref ob3), (5, .int (iI aq)), (0, .ref a0), (1, .ref ob1), (2, .int (iI i)), (3, .int (iI n))]) [0, 1, 2, 3, 4, 5, 6, 7, 8] rfl ?_
                  refine c_st (st2 := []) rfl ?_
                  refine c_aload_n (j := 5) (x := a0) C dX6_setPart_124 rfl ?_
                  refine c_iload (j := 4) C dX6_setPart_125 rfl ?_
                  refine c_aload (j := 0) (x := ob4) C dX6_setPart_127 rfl ?_
                  obtain ⟨rb3, rq3, trb3⟩ := W9.ref tob4 1 rfl rfl rfl
                  have lnrb3 : 0 ≤ ln rb3 ∧ ln rb3 ≤ 8 := W9.len trb3 rfl
                  refine c_getr (k := 1) C ck_6 dX6_setPart_129 w3_141 (by decide) tob4 rfl rfl (by decide) rfl rq3 ?_
                  refine c_st (st2 := [.ref rb3, .int (iI aq), .ref a0]) rfl ?_
                  have ll3 : 0 ≤ ln rb3 ∧ ln rb3 ≤ 8 := W9.len trb3 rfl
                  refine c_alenI C dX6_setPart_132 trb3 rfl ?_
                  refine d_callV (As := [.int (iI aq), .int (iI ((ln rb3 : Nat) : Int))]) (rest := []) C hM (G_markStart (a0 := a0) (i := aq) (n := ((ln rb3 : Nat) : Int)) W9 hS t_a0 (by omega) (by omega) (by show 0 ≤ aq ∧ aq ≤ 500 ∧ 0 ≤ ((ln rb3 : Nat) : Int) ∧ ((ln rb3 : Nat) : Int) ≤ 8; omega)) dX6_setPart_133 kV_X6_105 rfl t_a0 rfl rfl (by decide) ck_7 rfl (Nat.le_of_ble_eq_true rfl) ⟨(Nat.le_of_ble_eq_true rfl), (Nat.le_of_ble_eq_true rfl)⟩ hph hph (show 0 + 0 = 0 from rfl) (by decide) (fun rh7 Lh7 clh7 lnh7 ivh7 rvh7 h7 => ?_)
                  obtain ⟨rfl, rfl, rfl, rfl, rfl, fl7, W10, exf7⟩ := h7
                  have F9 := F8.call hX0 fl7 rfl
                  refine c_st (st2 := []) rfl ?_
                  have gf7 : MSX ivh6 rv ivh7 a0 aq ((ln rb3 : Nat) : Int) := exf7
                  have sif7 := SPI.mark sif6 W9 fl7 t_a0 rfl rfl ⟨by omega, by omega⟩ gf7
                  refine c_aload_n (j := 5) (x := a0) C dX6_setPart_136 rfl ?_
                  refine c_aload (j := 1) (x := ob3) C dX6_setPart_137 rfl ?_
                  refine hv12 (show 0 ≤ ivh7 a0 7 ∧ ivh7 a0 7 ≤ 100000 from W10.int t_a0 7) (show ivh7 a0 7 = ivh6 a0 7 from fl7.i t_a0 rfl 7) (show ivh6 a0 7 = ivh2 a0 7 from fl6.i t_a0 rfl 7) (show 0 ≤ ivh7 a0 4 ∧ ivh7 a0 4 ≤ 500 from W10.int t_a0 4) (show ivh7 a0 4 = ivh6 a0 4 from fl7.i t_a0 rfl 4) (show ivh6 a0 4 = ivh2 a0 4 from fl6.i t_a0 rfl 4) (show 0 ≤ ivh7 a0 10 ∧ ivh7 a0 10 ≤ 500 from W10.int t_a0 10) (show ivh7 a0 10 = ivh6 a0 10 from fl7.i t_a0 rfl 10) (show ivh6 a0 10 = ivh2 a0 10 from fl6.i t_a0 rfl 10) (show 0 ≤ ivh7 a0 11 ∧ ivh7 a0 11 ≤ 500 from W10.int t_a0 11) (show ivh7 a0 11 = ivh6 a0 11 from fl7.i t_a0 rfl 11) (show ivh6 a0 11 = ivh2 a0 11 from fl6.i t_a0 rfl 11) (fun ri32 ie46 ie47 ri33 ie48 ie49 ri34 ie50 ie51 ri35 ie52 ie53 => ?_)
                  refine d_callV (As := [.ref ob3]) (rest := []) C hM (G_push (a0 := a0) (r := (some ob3)) W10 hS t_a0 (fun _ q => by cases q; exact tob3)  (by show ivh7 a0 7 ≤ 90000; omega)) dX6_setPart_139 kV_X6_86 rfl t_a0 rfl rfl (by decide) ck_7 rfl (Nat.le_of_ble_eq_true rfl) ⟨(Nat.le_of_ble_eq_true rfl), (Nat.le_of_ble_eq_true rfl)⟩ hph hph (show 0 + 0 = 0 from rfl) (by decide) (fun rh8 Lh8 clh8 lnh8 ivh8 rvh8 h8 => ?_)
                  obtain ⟨rfl, rfl, rfl, rfl, rfl, fl8, W11, exf8⟩ := h8
                  have F10 := F9.call hX0 fl8 rfl
                  refine c_st (st2 := []) rfl ?_
                  refine hv5 (show 0 ≤ ivh8 a0 4 ∧ ivh8 a0 4 ≤ 500 from W11.int t_a0 4) (show 0 ≤ ivh8 a0 7 ∧ ivh8 a0 7 ≤ 100000 from W11.int t_a0 7) (show 0 ≤ ivh8 a0 10 ∧ ivh8 a0 10 ≤ 500 from W11.int t_a0 10) (show 0 ≤ ivh8 a0 11 ∧ ivh8 a0 11 ≤ 500 from W11.int t_a0 11) (show (ivh8 a0 4 = ivh7 a0 4 ∧ ivh7 a0 7 ≤ ivh8 a0 7 ∧ ivh8 a0 7 ≤ ivh7 a0 7 + 4 ∧ ivh8 a0 10 = ivh7 a0 10 ∧ ivh8 a0 11 = ivh7 a0 11) ∧ PUX ln ivh7 rv ivh8 a0 (some ob3) from exf8) (fun ri36 ri37 ri38 ri39 gf8 => ?_)
                  refine c_aload_n (j := 5) (x := a0) C dX6_setPart_142 rfl ?_
                  refine c_aload (j := 0) (x := ob4) C dX6_setPart_143 rfl ?_
                  refine d_callV (As := [.ref ob4]) (rest := []) C hM (G_push (a0 := a0) (r := (some ob4)) W11 hS t_a0 (fun _ q => by cases q; exact tob4)  (by show ivh8 a0 7 ≤ 90000; omega)) dX6_setPart_145 kV_X6_86 rfl t_a0 rfl rfl (by decide) ck_7 rfl (Nat.le_of_ble_eq_true rfl) ⟨(Nat.le_of_ble_eq_true rfl), (Nat.le_of_ble_eq_true rfl)⟩ hph hph (show 0 + 0 = 0 from rfl) (by decide) (fun rh9 Lh9 clh9 lnh9 ivh9 rvh9 h9 => ?_)
                  obtain ⟨rfl, rfl, rfl, rfl, rfl, fl9, W12, exf9⟩ := h9
                  have F11 := F10.call hX0 fl9 rfl
                  refine c_st (st2 := []) rfl ?_
                  refine hv12 (show 0 ≤ ivh9 a0 4 ∧ ivh9 a0 4 ≤ 500 from W12.int t_a0 4) (show 0 ≤ ivh9 a0 7 ∧ ivh9 a0 7 ≤ 100000 from W12.int t_a0 7) (show 0 ≤ ivh9 a0 10 ∧ ivh9 a0 10 ≤ 500 from W12.int t_a0 10) (show 0 ≤ ivh9 a0 11 ∧ ivh9 a0 11 ≤ 500 from W12.int t_a0 11) (show (ivh9 a0 4 = ivh8 a0 4 ∧ ivh8 a0 7 ≤ ivh9 a0 7 ∧ ivh9 a0 7 ≤ ivh8 a0 7 + 4 ∧ ivh9 a0 10 = ivh8 a0 10 ∧ ivh9 a0 11 = ivh8 a0 11) ∧ PUX ln ivh8 rv ivh9 a0 (some ob4) from exf9) (show (-2147483648) ≤ ivh9 ob1 0 ∧ ivh9 ob1 0 ≤ 2147483647 from W12.int tob1 0) (show ivh9 ob1 0 = ivh8 ob1 0 from fl9.i tob1 rfl 0) (show ivh8 ob1 0 = ivh7 ob1 0 from fl8.i tob1 rfl 0) (show ivh7 ob1 0 = ivh6 ob1 0 from fl7.i tob1 rfl 0) (show ivh6 ob1 0 = ivh2 ob1 0 from fl6.i tob1 rfl 0) (show ivh2 ob1 0 = ivb1 ob1 0 from fl2.i tob1 rfl 0) (show ivb1 ob1 0 = iv ob1 0 from Fb1.i tob1 rfl 0) (fun ri40 ri41 ri42 ri43 gf9 ri44 ie62 ie63 ie64 ie65 ie66 ie67 => ?_)
                  have s2f9 : SP2 sk ln iv rv ivh9 a0 ob1 i n aq ob4 := SPM.two sif7 rq3 rfl W10 W11 t_a0 fl8 fl9 rfl rfl hW F9 F10 (fun _ q => by cases q; exact tob3) tob4 (PCX.cap2 fdf2 fdf6 rq1 (by omega) rfl (by unfold isG; omega) hCP ⟨by omega, by omega⟩) gf8.2 gf9.2
                  refine c_aload_n (j := 5) (x := a0) C dX6_setPart_148 rfl ?_
                  refine c_get (k := 7) C ck_7 dX6_setPart_149 w1_147 (by decide) t_a0 rfl rfl (by decide) rfl ?_
                  refine c_sipush (z := 200) C dX6_setPart_152 (by decide) ?_
                  refine c_icmp_le (tgt := 161) C (r32_c (lo := 0) (hi := 100000) ri41.1 ri41.2 (by decide) (by decide)) ⟨by decide, by decide⟩ dX6_setPart_155 (by decide) (fun c3 => ?_) (fun c3 => ?_)
                  · refine c_iload (j := 4) C dX6_setPart_161 rfl ?_
                    refine c_iconst C dX6_setPart_163 ?_
                    refine c_aload (j := 0) (x := ob4) C dX6_setPart_164 rfl ?_
                    refine c_getr (k := 1) C ck_6 dX6_setPart_166 w3_141 (by decide) tob4 rfl rfl (by decide) rfl rq3 ?_
                    refine c_st (st2 := [.ref rb3, .int (iI 1), .int (iI aq)]) rfl ?_
                    refine c_alenI C dX6_setPart_169 trb3 rfl ?_
                    obtain ⟨mn2, hmn2, emn2⟩ := mmax_c (x := 1) (y := ((ln rb3 : Nat) : Int)) ⟨by decide, by decide⟩ ⟨by omega, by omega⟩
                    refine c_mmax (w := iI mn2) C dX6_setPart_170 w4_130 w2_148 w1_14 w2_149 (by decide) (rom0 hph hph (by decide)) (Nat.le_of_ble_eq_true rfl) emn2 ?_
                    refine c_iadd C dX6_setPart_173 ?_
                    refine c_istore (lv2 := [(5, .int (iI (aq + mn2))), (8, .ref ob4), (7, .ref ob3), (6, .int (iI (ivb1 rb1 aq.toNat))), (4, .ref ob3), (0, .ref a0), (1, .ref ob1), (2, .int (iI i)), (3, .int (iI n))]) C dX6_setPart_174 (by decide) rfl ?_
                    refine c_goto (tgt := 39) C dX6_setPart_176 (by decide) ?_
                    refine c_lv (lv2 := [(4, .ref ob3), (5, .int (iI (aq + mn2))), (0, .ref a0), (1, .ref ob1), (2, .int (iI i)), (3, .int (iI n))]) [4, 0, 5, 6, 7, 8] rfl ?_
                    exact ih1  (some ob3) (aq + mn2) _ (by omega) W12 F11 (fun _ q => by cases q; exact tob3) (by omega) (by show ivh9 a0 7 ≤ iv a0 7 ∨ ivh9 a0 7 ≤ 200; omega) (by show ivh9 a0 4 = iv a0 4; omega) (by show ivh9 a0 10 = i ∧ ivh9 a0 11 = n; omega) (s2f9.next (by omega) (by omega) rq3 (by omega)) hCP
                  · refine c_bipush (z := 6) C dX6_setPart_158 (by decide) ?_
                    exact c_iret C dX6_setPart_160 rfl (by decide) (rom0 hph hph (by decide)) ⟨6, rfl, rfl, rfl, rfl, rfl, F11, W12, ⟨by decide, by decide⟩, ⟨by omega, s2f9.many (by omega) (by omega) (by decide)⟩⟩
                · subst oq4
                  refine c_lv (lv2 := [(8, .null), (7, .ref ob3), (6, .int (iI (ivb1 rb1 aq.toNat))), (4, .ref ob3), (5, .int (iI aq)), (0, .ref a0), (1, .ref ob1), (2, .int (iI i)), (3, .int (iI n))]) [0, 1, 2, 3, 4, 5, 6, 7, 8] rfl ?_
                  refine c_st (st2 := []) rfl ?_
                  refine c_aload_n (j := 5) (x := a0) C dX6_setPart_115 rfl ?_
                  refine c_iload (j := 4) C dX6_setPart_116 rfl ?_
                  refine c_put (z := aq) (k := 9) C ck_7 dX6_setPart_118 w1_151 (by decide) rfl t_a0 rfl rfl (by decide) rfl (by rfl) (by rfl) (fun iv4 pq4 => ?_)
                  refine hv2 (W9.puti pq4 t_a0 (show (-2147483648) ≤ aq ∧ aq ≤ 2147483647 by omega) rfl) (F8.puti hX0 pq4 t_a0 rfl) (fun W13 F12 => ?_)
                  refine c_bipush (z := 7) C dX6_setPart_121 (by decide) ?_
                  refine hv17 (show 0 ≤ iv4 a0 4 ∧ iv4 a0 4 ≤ 500 from W13.int t_a0 4) (show iv4 a0 4 = ivh6 a0 4 from by rw [pq4]; exact up2_j (by decide)) (show ivh6 a0 4 = ivh2 a0 4 from fl6.i t_a0 rfl 4) (show 0 ≤ iv4 a0 7 ∧ iv4 a0 7 ≤ 100000 from W13.int t_a0 7) (show iv4 a0 7 = ivh6 a0 7 from by rw [pq4]; exact up2_j (by decide)) (show ivh6 a0 7 = ivh2 a0 7 from fl6.i t_a0 rfl 7) (show 0 ≤ iv4 a0 10 ∧ iv4 a0 10 ≤ 500 from W13.int t_a0 10) (show iv4 a0 10 = ivh6 a0 10 from by rw [pq4]; exact up2_j (by decide)) (show ivh6 a0 10 = ivh2 a0 10 from fl6.i t_a0 rfl 10) (show 0 ≤ iv4 a0 11 ∧ iv4 a0 11 ≤ 500 from W13.int t_a0 11) (show iv4 a0 11 = ivh6 a0 11 from by rw [pq4]; exact up2_j (by decide)) (show ivh6 a0 11 = ivh2 a0 11 from fl6.i t_a0 rfl 11) (show (-2147483648) ≤ iv4 ob1 0 ∧ iv4 ob1 0 ≤ 2147483647 from W13.int tob1 0) (show iv4 ob1 0 = ivh6 ob1 0 from by rw [pq4]; exact up2_k (ne_ty tob1 t_a0 (by decide))) (show ivh6 ob1 0 = ivh2 ob1 0 from fl6.i tob1 rfl 0) (show ivh2 ob1 0 = ivb1 ob1 0 from fl2.i tob1 rfl 0) (show ivb1 ob1 0 = iv ob1 0 from Fb1.i tob1 rfl 0) (fun ri45 ie68 ie69 ri46 ie70 ie71 ri47 ie72 ie73 ri48 ie74 ie75 ri49 ie76 ie77 ie78 ie79 => ?_)
                  exact c_iret C dX6_setPart_123 rfl (by decide) (rom0 hph hph (by decide)) ⟨7, rfl, rfl, rfl, rfl, rfl, F12, W13, ⟨by decide, by decide⟩, ⟨by omega, SPI.unk sif6 (NPX.cap fdf2 fdf6 rq1 (by omega) rfl ⟨by omega, by omega⟩) (by omega) (by decide)⟩⟩
              · refine c_st (st2 := [.int (iI 0)]) (by rw [show inn (iI (ivb1 rb1 aq.toNat)) 65 90 = iI 0 from hs1e]) ?_
                refine c_if_eq (tgt := 110) C ⟨by decide, by decide⟩ dX6_setPart_89 (by decide) (fun _ => ?_) (fun z => absurd z (by omega))
                refine c_aloadr (j := 0) (r := none) C dX6_setPart_110 rfl ?_
                refine c_st (st2 := [.null]) rfl ?_
                refine c_ifnonnull (r := none) (tgt := 124) C dX6_setPart_112 (by decide) (fun _ q => by cases q) (fun _ => ?_)
                refine c_aload_n (j := 5) (x := a0) C dX6_setPart_115 rfl ?_
                refine c_iload (j := 4) C dX6_setPart_116 rfl ?_
                refine c_put (z := aq) (k := 9) C ck_7 dX6_setPart_118 w1_151 (by decide) rfl t_a0 rfl rfl (by decide) rfl (by rfl) (by rfl) (fun iv5 pq5 => ?_)
                refine hv2 (W4.puti pq5 t_a0 (show (-2147483648) ≤ aq ∧ aq ≤ 2147483647 by omega) rfl) (F3.puti hX0 pq5 t_a0 rfl) (fun W14 F13 => ?_)
                refine c_bipush (z := 7) C dX6_setPart_121 (by decide) ?_
                refine hv16 (show 0 ≤ iv5 a0 4 ∧ iv5 a0 4 ≤ 500 from W14.int t_a0 4) (show iv5 a0 4 = ivh2 a0 4 from by rw [pq5]; exact up2_j (by decide)) (show ivh2 a0 4 = ivb1 a0 4 from fl2.i t_a0 rfl 4) (show 0 ≤ iv5 a0 7 ∧ iv5 a0 7 ≤ 100000 from W14.int t_a0 7) (show iv5 a0 7 = ivh2 a0 7 from by rw [pq5]; exact up2_j (by decide)) (show ivh2 a0 7 = ivb1 a0 7 from fl2.i t_a0 rfl 7) (show 0 ≤ iv5 a0 10 ∧ iv5 a0 10 ≤ 500 from W14.int t_a0 10) (show iv5 a0 10 = ivh2 a0 10 from by rw [pq5]; exact up2_j (by decide)) (show ivh2 a0 10 = ivb1 a0 10 from fl2.i t_a0 rfl 10) (show 0 ≤ iv5 a0 11 ∧ iv5 a0 11 ≤ 500 from W14.int t_a0 11) (show iv5 a0 11 = ivh2 a0 11 from by rw [pq5]; exact up2_j (by decide)) (show ivh2 a0 11 = ivb1 a0 11 from fl2.i t_a0 rfl 11) (show (-2147483648) ≤ iv5 ob1 0 ∧ iv5 ob1 0 ≤ 2147483647 from W14.int tob1 0) (show iv5 ob1 0 = ivh2 ob1 0 from by rw [pq5]; exact up2_k (ne_ty tob1 t_a0 (by decide))) (show ivh2 ob1 0 = ivb1 ob1 0 from fl2.i tob1 rfl 0) (show ivb1 ob1 0 = iv ob1 0 from Fb1.i tob1 rfl 0) (fun ri50 ie80 ie81 ri51 ie82 ie83 ri52 ie84 ie85 ri53 ie86 ie87 ri54 ie88 ie89 ie90 => ?_)
                exact c_iret C dX6_setPart_123 rfl (by decide) (rom0 hph hph (by decide)) ⟨7, rfl, rfl, rfl, rfl, rfl, F13, W14, ⟨by decide, by decide⟩, ⟨by omega, SPI.unk sif2 (NPX.no fdf2 rq1 (by omega) ⟨by omega, by omega⟩ (Or.inl (by unfold isG; omega))) (by omega) (by decide)⟩⟩
    refine c_aload_n (j := 1) (x := ob1) C dX6_setPart_16 rfl ?_
    refine hv3 (show (-2147483648) ≤ iv2 ob1 0 ∧ iv2 ob1 0 ≤ 2147483647 from W2.int tob1 0) (show iv2 ob1 0 = iv1 ob1 0 from by rw [pq2]; exact up2_k (ne_ty tob1 t_a0 (by decide))) (show iv1 ob1 0 = iv ob1 0 from by rw [pq1]; exact up2_k (ne_ty tob1 t_a0 (by decide))) (fun ri55 ie91 ie92 => ?_)
    refine c_get (k := 0) C ck_10 dX6_setPart_17 w2_177 (by decide) tob1 rfl rfl (by decide) rfl ?_
    refine c_iconst C dX6_setPart_20 ?_
    refine c_icmp_gt (tgt := 33) C (r32_c (lo := (-2147483648)) (hi := 2147483647) ri55.1 ri55.2 (by decide) (by decide)) ⟨by decide, by decide⟩ dX6_setPart_21 (by decide) (fun c4 => ?_) (fun c4 => ?_)
    · refine c_null C dX6_setPart_33 ?_
      refine c_astorer (r := none) (lv2 := [(4, .null), (0, .ref a0), (1, .ref ob1), (2, .int (iI i)), (3, .int (iI n))]) C dX6_setPart_34 (by decide) rfl ?_
      refine c_iload_n (j := 3) C dX6_setPart_36 rfl ?_
      refine c_istore (lv2 := [(5, .int (iI i)), (4, .null), (0, .ref a0), (1, .ref ob1), (2, .int (iI i)), (3, .int (iI n))]) C dX6_setPart_37 (by decide) rfl ?_
      refine hv11 (show 0 ≤ iv2 a0 7 ∧ iv2 a0 7 ≤ 100000 from W2.int t_a0 7) (show iv2 a0 7 = iv1 a0 7 from by rw [pq2]; exact up2_j (by decide)) (show iv1 a0 7 = iv a0 7 from by rw [pq1]; exact up2_j (by decide)) (show 0 ≤ iv2 a0 4 ∧ iv2 a0 4 ≤ 500 from W2.int t_a0 4) (show iv2 a0 4 = iv1 a0 4 from by rw [pq2]; exact up2_j (by decide)) (show iv1 a0 4 = iv a0 4 from by rw [pq1]; exact up2_j (by decide)) (show 0 ≤ iv2 a0 10 ∧ iv2 a0 10 ≤ 500 from W2.int t_a0 10) (show iv2 a0 10 = iv1 a0 10 from by rw [pq2]; exact up2_j (by decide)) (show iv1 a0 10 = i from by rw [pq1]; exact up2_s) (show 0 ≤ iv2 a0 11 ∧ iv2 a0 11 ≤ 500 from W2.int t_a0 11) (show iv2 a0 11 = n from by rw [pq2]; exact up2_s) (fun ri56 ie93 ie94 ri57 ie95 ie96 ri58 ie97 ie98 ri59 ie99 => ?_)
      refine c_lv (lv2 := [(4, .null), (5, .int (iI i)), (0, .ref a0), (1, .ref ob1), (2, .int (iI i)), (3, .int (iI n))]) [1, 0, 2, 3, 4, 5] rfl ?_
      exact Lp1 511 none i _ (by omega) W2 F2 (fun _ q => by cases q) (by omega) (by show iv2 a0 7 ≤ iv a0 7 ∨ iv2 a0 7 ≤ 200; omega) (ie95.trans ie96) ⟨(ie97.trans ie98), ie99⟩ (SPI.init pq1 pq2 (s6ne hW t_a0)) (Or.inl ⟨by omega, rfl⟩)
    · refine c_aload_n (j := 1) (x := ob1) C dX6_setPart_24 rfl ?_
      obtain ⟨rb4, rq4, trb4⟩ := W2.ref tob1 6 rfl rfl rfl
      have lnrb4 : 4 ≤ ln rb4 ∧ ln rb4 ≤ 4 := W2.len trb4 rfl
      refine c_getr (k := 6) C ck_10 dX6_setPart_25 w2_195 (by decide) tob1 rfl rfl (by decide) rfl rq4 ?_
      refine c_st (st2 := [.ref rb4]) rfl ?_
      refine c_iconst C dX6_setPart_28 ?_
      have ll4 : 4 ≤ ln rb4 ∧ ln rb4 ≤ 4 := W2.len trb4 rfl
      obtain ⟨nb1, nq1, tnb1⟩ := opt_n (W2.opt trb4 ((0 : Int).toNat) rfl rfl)
      have tnb1 : ∀ b, nb1 = some b → ty L cl b 20 := tnb1
      refine c_aaldR C dX6_setPart_29 trb4 rfl (by omega) (by omega) (by omega) nq1 ?_
      refine c_st (st2 := [(va_rf nb1)]) rfl ?_
      refine c_goto (tgt := 34) C dX6_setPart_30 (by decide) ?_
      refine c_astorer (r := nb1) (lv2 := [(4, (va_rf nb1)), (0, .ref a0), (1, .ref ob1), (2, .int (iI i)), (3, .int (iI n))]) C dX6_setPart_34 (by decide) rfl ?_
      refine c_iload_n (j := 3) C dX6_setPart_36 rfl ?_
      refine c_istore (lv2 := [(5, .int (iI i)), (4, (va_rf nb1)), (0, .ref a0), (1, .ref ob1), (2, .int (iI i)), (3, .int (iI n))]) C dX6_setPart_37 (by decide) (by cases nb1 <;> rfl) ?_
      refine hv11 (show 0 ≤ iv2 a0 7 ∧ iv2 a0 7 ≤ 100000 from W2.int t_a0 7) (show iv2 a0 7 = iv1 a0 7 from by rw [pq2]; exact up2_j (by decide)) (show iv1 a0 7 = iv a0 7 from by rw [pq1]; exact up2_j (by decide)) (show 0 ≤ iv2 a0 4 ∧ iv2 a0 4 ≤ 500 from W2.int t_a0 4) (show iv2 a0 4 = iv1 a0 4 from by rw [pq2]; exact up2_j (by decide)) (show iv1 a0 4 = iv a0 4 from by rw [pq1]; exact up2_j (by decide)) (show 0 ≤ iv2 a0 10 ∧ iv2 a0 10 ≤ 500 from W2.int t_a0 10) (show iv2 a0 10 = iv1 a0 10 from by rw [pq2]; exact up2_j (by decide)) (show iv1 a0 10 = i from by rw [pq1]; exact up2_s) (show 0 ≤ iv2 a0 11 ∧ iv2 a0 11 ≤ 500 from W2.int t_a0 11) (show iv2 a0 11 = n from by rw [pq2]; exact up2_s) (fun ri60 ie100 ie101 ri61 ie102 ie103 ri62 ie104 ie105 ri63 ie106 => ?_)
      refine c_lv (lv2 := [(4, (va_rf nb1)), (5, .int (iI i)), (0, .ref a0), (1, .ref ob1), (2, .int (iI i)), (3, .int (iI n))]) [1, 0, 2, 3, 4, 5] rfl ?_
      exact Lp1 511 nb1 i _ (by omega) W2 F2 tnb1 (by omega) (by show iv2 a0 7 ≤ iv a0 7 ∨ iv2 a0 7 ≤ 200; omega) (ie102.trans ie103) ⟨(ie104.trans ie105), ie106⟩ (SPI.init pq1 pq2 (s6ne hW t_a0)) (Or.inr ⟨by omega, _, rq4, nq1⟩)
  · subst oq1
    refine c_lv (lv2 := [(0, .ref a0), (1, .null), (2, .int (iI i)), (3, .int (iI n))]) [0, 1, 2, 3] rfl ?_
    refine c_st (st2 := []) rfl ?_
    refine c_iconst C dX6_setPart_4 ?_
    refine hv4 (show 0 ≤ iv a0 4 ∧ iv a0 4 ≤ 500 from hW.int t_a0 4) (show 0 ≤ iv a0 7 ∧ iv a0 7 ≤ 100000 from hW.int t_a0 7) (show 0 ≤ iv a0 10 ∧ iv a0 10 ≤ 500 from hW.int t_a0 10) (show 0 ≤ iv a0 11 ∧ iv a0 11 ≤ 500 from hW.int t_a0 11) (fun ri64 ri65 ri66 ri67 => ?_)
    exact c_iret C dX6_setPart_5 rfl (by decide) (rom0 hph hph (by decide)) ⟨0, rfl, rfl, rfl, rfl, rfl, hF0, hW, ⟨by decide, by decide⟩, ⟨by omega, SPX.no⟩⟩
set_option maxHeartbeats 4000000 in
set_option maxRecDepth 100000 in
theorem G_setBy {l : Launch} {G : GT} {mi : Nat} {sk : Nat → Nat} {L : List Nat} {cl ln : Nat → Nat} {iv : Nat → Nat → Int} {rv : Nat → Nat → Option Nat}  {a0 : Nat} {a1 : Nat} (hW : WT (g0 G) sk L cl ln iv rv) (hS : SKL sk L cl) (t_a0 : ty L cl a0 15) (t_a1 : ty L cl a1 100)  : Mc l G mi (Phi (g0 G) sk) PHM yX6_setBy cX6_setBy 9 (some .int) 6 [.ref a0, .ref a1] L cl ln iv rv 0 (fun v L2 cl2 ln2 iv2 rv2 => ∃ f : Int, v = some (.int (iI f)) ∧ L = L2 ∧ cl = cl2 ∧ ln = ln2 ∧ rv = rv2 ∧ fT [15, 53, 54, 55] L cl iv rv iv2 rv2 ∧ WT (g0 G) sk L2 cl2 ln2 iv2 rv2 ∧ (-2147483648 ≤ f ∧ f ≤ 2147483647) ∧ (((f = 0 ∨ f = 6 ∨ f = 7) ∧ iv2 a0 4 = iv a0 4 ∧ (f = 0 → iv2 a0 7 ≤ 200)) ∧ SBX sk ln iv rv iv2 a0 a1 f)) := by
  refine Mc.mk (by decide) (Nat.le_of_ble_eq_true rfl) ?_
  intro p e s m args below meth c A C hM
  refine hv4 (Phi.le hW hS) (show XT L cl ln L cl ln from XT.refl) (show fT [15, 53, 54, 55] L cl iv rv iv rv from fT.refl) (show 0 ≤ iv a0 4 ∧ iv a0 4 ≤ 500 from hW.int t_a0 4) (fun hph hX0 hF0 ri1 => ?_)
  refine c_aload_n (j := 0) (x := a0) C dX6_setBy_0 rfl ?_
  refine c_iconst C dX6_setBy_1 ?_
  refine c_put (z := 0) (k := 7) C ck_7 dX6_setBy_2 w1_147 (by decide) rfl t_a0 rfl rfl (by decide) rfl (by rfl) (by rfl) (fun iv1 pq1 => ?_)
  refine hv2 (hW.puti pq1 t_a0 ⟨by decide, by decide⟩ rfl) (hF0.puti hX0 pq1 t_a0 rfl) (fun W1 F1 => ?_)
  refine c_aload_n (j := 1) (x := a1) C dX6_setBy_5 rfl ?_
  refine hv2 (show (-2147483648) ≤ iv1 a1 0 ∧ iv1 a1 0 ≤ 2147483647 from W1.int t_a1 0) (show iv1 a1 0 = iv a1 0 from by rw [pq1]; exact up2_k (ne_ty t_a1 t_a0 (by decide))) (fun ri2 ie1 => ?_)
  refine c_get (k := 0) C ck_10 dX6_setBy_6 w2_177 (by decide) t_a1 rfl rfl (by decide) rfl ?_
  refine c_iconst C dX6_setBy_9 ?_
  refine c_icmp_ne (tgt := 17) C (r32_c (lo := (-2147483648)) (hi := 2147483647) ri2.1 ri2.2 (by decide) (by decide)) ⟨by decide, by decide⟩ dX6_setBy_10 (by decide) (fun c1 => ?_) (fun c1 => ?_)
  · refine c_iconst C dX6_setBy_17 ?_
    refine c_istore_n (lv2 := [(2, .int (iI 0)), (0, .ref a0), (1, .ref a1)]) C dX6_setBy_18 (by decide) rfl ?_
    refine c_iconst C dX6_setBy_19 ?_
    refine c_istore_n (lv2 := [(3, .int (iI 0)), (2, .int (iI 0)), (0, .ref a0), (1, .ref a1)]) C dX6_setBy_20 (by decide) rfl ?_
    refine c_iconst C dX6_setBy_21 ?_
    refine c_istore (lv2 := [(4, .int (iI 0)), (3, .int (iI 0)), (2, .int (iI 0)), (0, .ref a0), (1, .ref a1)]) C dX6_setBy_22 (by decide) rfl ?_
    refine c_iconst C dX6_setBy_24 ?_
    refine c_istore (lv2 := [(5, .int (iI 0)), (4, .int (iI 0)), (3, .int (iI 0)), (2, .int (iI 0)), (0, .ref a0), (1, .ref a1)]) C dX6_setBy_25 (by decide) rfl ?_
    have Lp1 : ∀ (nn : Nat) (sc fr k : Int) (ivb1 : Nat → Nat → Int) , iv a0 4 + 2 - k < (nn : Int) → WT (g0 G) sk L cl ln ivb1 rv → fT [15, 53, 54, 55] L cl iv rv ivb1 rv → (sc = 0 ∨ sc = 1) → (0 ≤ fr ∧ fr ≤ k) → (0 ≤ k ∧ k ≤ iv a0 4 + 1) → (ivb1 a0 7 ≤ 200 + 4 * k) → (ivb1 a0 4 = iv a0 4) → (SBI sk ln iv rv ivb1 a0 a1 sc fr k) → cw p l e 6 ((PHM) + 0 - ((Phi (g0 G) sk) ln rv)) s m args below meth c G A 9 (MQ below (Qu G A (Qp G (Phi (g0 G) sk) ((Phi (g0 G) sk) ln rv) 0 (fun v L2 cl2 ln2 iv2 rv2 => ∃ f : Int, v = some (.int (iI f)) ∧ L = L2 ∧ cl = cl2 ∧ ln = ln2 ∧ rv = rv2 ∧ fT [15, 53, 54, 55] L cl iv rv iv2 rv2 ∧ WT (g0 G) sk L2 cl2 ln2 iv2 rv2 ∧ (-2147483648 ≤ f ∧ f ≤ 2147483647) ∧ (((f = 0 ∨ f = 6 ∨ f = 7) ∧ iv2 a0 4 = iv a0 4 ∧ (f = 0 → iv2 a0 7 ≤ 200)) ∧ SBX sk ln iv rv iv2 a0 a1 f)))) args s (((PHM) + 0 - ((Phi (g0 G) sk) ln rv)) / 16) ((PHM) + 0 - ((Phi (g0 G) sk) ln rv)) A) (Phi (g0 G) sk) ((Phi (g0 G) sk) ln rv) L cl ln ivb1 rv 0 27 [(3, .int (iI sc)), (4, .int (iI fr)), (5, .int (iI k)), (2, .int (iI 0)), (0, .ref a0), (1, .ref a1)] [] := by
      intro nn
      induction nn with
      | zero =>
        intro  sc fr k ivb1 hm Wb1 Fb1  hsc hfr hk hc7 hc4 hB
        exact absurd hm (by omega)
      | succ nn ih1 =>
        intro  sc fr k ivb1 hm Wb1 Fb1  hsc hfr hk hc7 hc4 hB
        refine c_iload (j := 2) C dX6_setBy_27 rfl ?_
        refine c_aload_n (j := 4) (x := a0) C dX6_setBy_29 rfl ?_
        have ri3 : 0 ≤ ivb1 a0 4 ∧ ivb1 a0 4 ≤ 500 := Wb1.int t_a0 4
        refine c_get (k := 4) C ck_7 dX6_setBy_30 w1_140 (by decide) t_a0 rfl rfl (by decide) rfl ?_
        refine c_icmp_gt (tgt := 193) C ⟨by omega, by omega⟩ (r32_c (lo := 0) (hi := 500) ri3.1 ri3.2 (by decide) (by decide)) dX6_setBy_33 (by decide) (fun c2 => ?_) (fun c2 => ?_)
        · refine c_aload_n (j := 4) (x := a0) C dX6_setBy_193 rfl ?_
          have ri4 : 0 ≤ ivb1 a0 7 ∧ ivb1 a0 7 ≤ 100000 := Wb1.int t_a0 7
          refine c_get (k := 7) C ck_7 dX6_setBy_194 w1_147 (by decide) t_a0 rfl rfl (by decide) rfl ?_
          refine c_sipush (z := 200) C dX6_setBy_197 (by decide) ?_
          refine c_icmp_le (tgt := 208) C (r32_c (lo := 0) (hi := 100000) ri4.1 ri4.2 (by decide) (by decide)) ⟨by decide, by decide⟩ dX6_setBy_200 (by decide) (fun c3 => ?_) (fun c3 => ?_)
          · refine c_iconst C dX6_setBy_208 ?_
            exact c_iret C dX6_setBy_209 rfl (by decide) (rom0 hph hph (by decide)) ⟨0, rfl, rfl, rfl, rfl, rfl, Fb1, Wb1, ⟨by decide, by decide⟩, ⟨by omega, hB.fin (by omega) (by omega)⟩⟩
          · refine c_bipush (z := 6) C dX6_setBy_203 (by decide) ?_
            refine c_goto (tgt := 209) C dX6_setBy_205 (by decide) ?_
            exact c_iret C dX6_setBy_209 rfl (by decide) (rom0 hph hph (by decide)) ⟨6, rfl, rfl, rfl, rfl, rfl, Fb1, Wb1, ⟨by decide, by decide⟩, ⟨by omega, hB.fin (by omega) (by omega)⟩⟩
        · have J1 : ∀ (fs : Option Nat) (tn : Int) (ivb2 : Nat → Nat → Int) , WT (g0 G) sk L cl ln ivb2 rv → fT [15, 53, 54, 55] L cl iv rv ivb2 rv → (∀ b, fs = some b → ty L cl b 100) → (tn = 0 ∨ tn = 1) → (k ≤ iv a0 4) → (tn = 1 → k < iv a0 4) → (ivb2 a0 7 ≤ 200 + 4 * k) → (ivb2 a0 4 = iv a0 4) → (TRN iv rv a0 a1 sc k tn fs) → (SBI sk ln iv rv ivb2 a0 a1 sc fr k) → cw p l e 6 ((PHM) + 0 - ((Phi (g0 G) sk) ln rv)) s m args below meth c G A 9 (MQ below (Qu G A (Qp G (Phi (g0 G) sk) ((Phi (g0 G) sk) ln rv) 0 (fun v L2 cl2 ln2 iv2 rv2 => ∃ f : Int, v = some (.int (iI f)) ∧ L = L2 ∧ cl = cl2 ∧ ln = ln2 ∧ rv = rv2 ∧ fT [15, 53, 54, 55] L cl iv rv iv2 rv2 ∧ WT (g0 G) sk L2 cl2 ln2 iv2 rv2 ∧ (-2147483648 ≤ f ∧ f ≤ 2147483647) ∧ (((f = 0 ∨ f = 6 ∨ f = 7) ∧ iv2 a0 4 = iv a0 4 ∧ (f = 0 → iv2 a0 7 ≤ 200)) ∧ SBX sk ln iv rv iv2 a0 a1 f)))) args s (((PHM) + 0 - ((Phi (g0 G) sk) ln rv)) / 16) ((PHM) + 0 - ((Phi (g0 G) sk) ln rv)) A) (Phi (g0 G) sk) ((Phi (g0 G) sk) ln rv) L cl ln ivb2 rv 0 108 [(6, .int (iI tn)), (7, (va_rf fs)), (3, .int (iI sc)), (4, .int (iI fr)), (5, .int (iI k)), (2, .int (iI 0)), (0, .ref a0), (1, .ref a1)] [] := by
            intro fs tn ivb2 Wb2 Fb2 ty_fs htn hki htk hd7 hd4 hTN hB2
            have J2 : ∀ (wy : Int) (ivb3 : Nat → Nat → Int) , WT (g0 G) sk L cl ln ivb3 rv → fT [15, 53, 54, 55] L cl iv rv ivb3 rv → (wy = 0 ∨ wy = 6 ∨ wy = 7) → (wy = 0 → ivb3 a0 7 ≤ 204 + 4 * k) → (ivb3 a0 4 = iv a0 4) → (SBN sk ln iv rv ivb3 a0 a1 sc k wy) → cw p l e 6 ((PHM) + 0 - ((Phi (g0 G) sk) ln rv)) s m args below meth c G A 9 (MQ below (Qu G A (Qp G (Phi (g0 G) sk) ((Phi (g0 G) sk) ln rv) 0 (fun v L2 cl2 ln2 iv2 rv2 => ∃ f : Int, v = some (.int (iI f)) ∧ L = L2 ∧ cl = cl2 ∧ ln = ln2 ∧ rv = rv2 ∧ fT [15, 53, 54, 55] L cl iv rv iv2 rv2 ∧ WT (g0 G) sk L2 cl2 ln2 iv2 rv2 ∧ (-2147483648 ≤ f ∧ f ≤ 2147483647) ∧ (((f = 0 ∨ f = 6 ∨ f = 7) ∧ iv2 a0 4 = iv a0 4 ∧ (f = 0 → iv2 a0 7 ≤ 200)) ∧ SBX sk ln iv rv iv2 a0 a1 f)))) args s (((PHM) + 0 - ((Phi (g0 G) sk) ln rv)) / 16) ((PHM) + 0 - ((Phi (g0 G) sk) ln rv)) A) (Phi (g0 G) sk) ((Phi (g0 G) sk) ln rv) L cl ln ivb3 rv 0 163 [(8, .int (iI wy)), (6, .int (iI tn)), (7, (va_rf fs)), (3, .int (iI sc)), (4, .int (iI fr)), (5, .int (iI k)), (2, .int (iI 0)), (0, .ref a0), (1, .ref a1)] [] := by
              intro  wy ivb3 Wb3 Fb3  hwy he7 he4 hP
              refine c_iload (j := 0) C dX6_setBy_163 rfl ?_
              refine c_if_eq (tgt := 171) C (r32_067 hwy) dX6_setBy_165 (by decide) (fun c4 => ?_) (fun c4 => ?_)
              · clear hwy
                replace he7 := (he7 c4)
                refine c_iload_n (j := 3) C dX6_setBy_171 rfl ?_
                refine c_if_ne (tgt := 179) C (r32_01 hsc) dX6_setBy_172 (by decide) (fun c5 => ?_) (fun c5 => ?_)
                · replace hsc := (hsc.resolve_left c5)
                  refine c_iconst C dX6_setBy_179 ?_
                  refine c_istore_n (lv2 := [(3, .int (iI 0)), (8, .int (iI wy)), (6, .int (iI tn)), (7, (va_rf fs)), (4, .int (iI fr)), (5, .int (iI k)), (2, .int (iI 0)), (0, .ref a0), (1, .ref a1)]) C dX6_setBy_180 (by decide) rfl ?_
                  refine c_iload (j := 5) C dX6_setBy_181 rfl ?_
                  refine c_iconst C dX6_setBy_183 ?_
                  refine c_iadd C dX6_setBy_184 ?_
                  refine c_istore (lv2 := [(4, .int (iI (k + 1))), (3, .int (iI 0)), (8, .int (iI wy)), (6, .int (iI tn)), (7, (va_rf fs)), (5, .int (iI k)), (2, .int (iI 0)), (0, .ref a0), (1, .ref a1)]) C dX6_setBy_185 (by decide) rfl ?_
                  refine c_iinc (z := k) (j := 5) (lv2 := [(5, .int (iI (k + 1))), (4, .int (iI (k + 1))), (3, .int (iI 0)), (8, .int (iI wy)), (6, .int (iI tn)), (7, (va_rf fs)), (2, .int (iI 0)), (0, .ref a0), (1, .ref a1)]) C dX6_setBy_187 rfl (by decide) rfl ?_
                  refine c_goto (tgt := 27) C dX6_setBy_190 (by decide) ?_
                  refine hv4 (show 0 ≤ ivb3 a0 7 ∧ ivb3 a0 7 ≤ 100000 from Wb3.int t_a0 7) (show 0 ≤ ivb3 a0 4 ∧ ivb3 a0 4 ≤ 500 from Wb3.int t_a0 4) (show (-2147483648) ≤ ivb3 a1 0 ∧ ivb3 a1 0 ≤ 2147483647 from Wb3.int t_a1 0) (show ivb3 a1 0 = iv a1 0 from Fb3.i t_a1 rfl 0) (fun ri5 ri6 ri7 ie6 => ?_)
                  refine c_lv (lv2 := [(3, .int (iI 0)), (4, .int (iI (k + 1))), (5, .int (iI (k + 1))), (2, .int (iI 0)), (0, .ref a0), (1, .ref a1)]) [2, 1, 0, 6, 7, 8] rfl ?_
                  exact ih1  0 (k + 1) (k + 1) _ (by omega) Wb3 Fb3  (by omega) (by omega) (by omega) (by show ivb3 a0 7 ≤ 200 + 4 * (k + 1); omega) he4 ((hP.1 (by omega)).re (by omega))
                · clear hsc
                  refine c_iconst C dX6_setBy_175 ?_
                  refine c_goto (tgt := 180) C dX6_setBy_176 (by decide) ?_
                  refine c_istore_n (lv2 := [(3, .int (iI 1)), (8, .int (iI wy)), (6, .int (iI tn)), (7, (va_rf fs)), (4, .int (iI fr)), (5, .int (iI k)), (2, .int (iI 0)), (0, .ref a0), (1, .ref a1)]) C dX6_setBy_180 (by decide) rfl ?_
                  refine c_iload (j := 5) C dX6_setBy_181 rfl ?_
                  refine c_iconst C dX6_setBy_183 ?_
                  refine c_iadd C dX6_setBy_184 ?_
                  refine c_istore (lv2 := [(4, .int (iI (k + 1))), (3, .int (iI 1)), (8, .int (iI wy)), (6, .int (iI tn)), (7, (va_rf fs)), (5, .int (iI k)), (2, .int (iI 0)), (0, .ref a0), (1, .ref a1)]) C dX6_setBy_185 (by decide) rfl ?_
                  refine c_iinc (z := k) (j := 5) (lv2 := [(5, .int (iI (k + 1))), (4, .int (iI (k + 1))), (3, .int (iI 1)), (8, .int (iI wy)), (6, .int (iI tn)), (7, (va_rf fs)), (2, .int (iI 0)), (0, .ref a0), (1, .ref a1)]) C dX6_setBy_187 rfl (by decide) rfl ?_
                  refine c_goto (tgt := 27) C dX6_setBy_190 (by decide) ?_
                  refine hv4 (show 0 ≤ ivb3 a0 7 ∧ ivb3 a0 7 ≤ 100000 from Wb3.int t_a0 7) (show 0 ≤ ivb3 a0 4 ∧ ivb3 a0 4 ≤ 500 from Wb3.int t_a0 4) (show (-2147483648) ≤ ivb3 a1 0 ∧ ivb3 a1 0 ≤ 2147483647 from Wb3.int t_a1 0) (show ivb3 a1 0 = iv a1 0 from Fb3.i t_a1 rfl 0) (fun ri8 ri9 ri10 ie9 => ?_)
                  refine c_lv (lv2 := [(3, .int (iI 1)), (4, .int (iI (k + 1))), (5, .int (iI (k + 1))), (2, .int (iI 0)), (0, .ref a0), (1, .ref a1)]) [2, 1, 0, 6, 7, 8] rfl ?_
                  exact ih1  1 (k + 1) (k + 1) _ (by omega) Wb3 Fb3  (by omega) (by omega) (by omega) (by show ivb3 a0 7 ≤ 200 + 4 * (k + 1); omega) he4 ((hP.1 (by omega)).re (by omega))
              · replace hwy := (hwy.resolve_left c4)
                clear he7
                refine c_iload (j := 0) C dX6_setBy_168 rfl ?_
                refine hv2 (show 0 ≤ ivb3 a0 4 ∧ ivb3 a0 4 ≤ 500 from Wb3.int t_a0 4) (show 0 ≤ ivb3 a0 7 ∧ ivb3 a0 7 ≤ 100000 from Wb3.int t_a0 7) (fun ri11 ri12 => ?_)
                exact c_iret C dX6_setBy_170 rfl (by decide) (rom0 hph hph (by decide)) ⟨wy, rfl, rfl, rfl, rfl, rfl, Fb3, Wb3, ⟨by omega, by omega⟩, ⟨by omega, SBX.fail (hP.2 (by omega)) (by omega)⟩⟩
            refine c_aload_n (j := 6) (x := a0) C dX6_setBy_108 rfl ?_
            refine c_iload_n (j := 2) C dX6_setBy_109 rfl ?_
            refine c_if_eq (tgt := 120) C (r32_01 hsc) dX6_setBy_110 (by decide) (fun c6 => ?_) (fun c6 => ?_)
            · clear hsc
              refine c_aloadr (j := 1) (r := fs) C dX6_setBy_120 rfl ?_
              refine c_iload (j := 3) C dX6_setBy_122 rfl ?_
              refine c_iload (j := 4) C dX6_setBy_124 rfl ?_
              refine hv4 (show (-2147483648) ≤ ivb2 a1 0 ∧ ivb2 a1 0 ≤ 2147483647 from Wb2.int t_a1 0) (show ivb2 a1 0 = iv a1 0 from Fb2.i t_a1 rfl 0) (show 0 ≤ ivb2 a0 7 ∧ ivb2 a0 7 ≤ 100000 from Wb2.int t_a0 7) (show 0 ≤ ivb2 a0 4 ∧ ivb2 a0 4 ≤ 500 from Wb2.int t_a0 4) (fun ri13 ie12 ri14 ri15 => ?_)
              refine d_callV (As := [(va_rf fs), .int (iI fr), .int (iI k)]) (rest := []) C hM (G_setPart (a0 := a0) (r := fs) (i := fr) (n := k) Wb2 hS t_a0 ty_fs (by omega) (by omega) (by show 0 ≤ fr ∧ fr ≤ 500 ∧ 0 ≤ k ∧ k ≤ 500 ∧ ivb2 a0 7 ≤ 50000; omega)) dX6_setBy_126 kV_X6_74 rfl t_a0 rfl rfl (by decide) ck_7 rfl (Nat.le_of_ble_eq_true rfl) ⟨(Nat.le_of_ble_eq_true rfl), (Nat.le_of_ble_eq_true rfl)⟩ hph hph (show 0 + 0 = 0 from rfl) (by decide) (fun rh1 Lh1 clh1 lnh1 ivh1 rvh1 h1 => ?_)
              obtain ⟨f1, rfl, rfl, rfl, rfl, rfl, fl1, W2, rgf1, exf1⟩ := h1
              have F2 := Fb2.call hX0 fl1 rfl
              refine c_st (st2 := [.int (iI f1)]) rfl ?_
              refine hv3 (show 0 ≤ ivh1 a0 4 ∧ ivh1 a0 4 ≤ 500 from W2.int t_a0 4) (show 0 ≤ ivh1 a0 7 ∧ ivh1 a0 7 ≤ 100000 from W2.int t_a0 7) (show ((f1 = 0 ∨ f1 = 6 ∨ f1 = 7) ∧ ivh1 a0 4 = ivb2 a0 4 ∧ ivh1 a0 7 ≤ ivb2 a0 7 + 208 ∧ (f1 = 0 → (ivh1 a0 7 ≤ ivb2 a0 7 ∨ ivh1 a0 7 ≤ 200))) ∧ SPX sk ln ivb2 rv ivh1 a0 fs fr k f1 from exf1) (fun ri16 ri17 gf1 => ?_)
              refine c_istore (lv2 := [(8, .int (iI f1)), (6, .int (iI tn)), (7, (va_rf fs)), (3, .int (iI sc)), (4, .int (iI fr)), (5, .int (iI k)), (2, .int (iI 0)), (0, .ref a0), (1, .ref a1)]) C dX6_setBy_129 (by decide) (by cases fs <;> rfl) ?_
              refine c_iload (j := 0) C dX6_setBy_131 rfl ?_
              refine c_if_ne (tgt := 163) C (r32_067 gf1.1.1) dX6_setBy_133 (by decide) (fun c7 => ?_) (fun c7 => ?_)
              · replace gf1 := (And.intro (And.intro (gf1.1.1.resolve_left c7) (And.intro gf1.1.2.1 (And.intro gf1.1.2.2.1 trivial))) gf1.2)
                refine hv2 (show (-2147483648) ≤ ivh1 a1 0 ∧ ivh1 a1 0 ≤ 2147483647 from W2.int t_a1 0) (show ivh1 a1 0 = ivb2 a1 0 from fl1.i t_a1 rfl 0) (fun ri18 ie17 => ?_)
                refine c_lv (lv2 := [(8, .int (iI f1)), (6, .int (iI tn)), (7, (va_rf fs)), (3, .int (iI sc)), (4, .int (iI fr)), (5, .int (iI k)), (2, .int (iI 0)), (0, .ref a0), (1, .ref a1)]) [0, 1, 2, 3, 4, 5, 6, 7, 8] rfl ?_
                exact J2  f1 _  W2 F2  (by omega) (by show f1 = 0 → ivh1 a0 7 ≤ 204 + 4 * k; omega) (by show ivh1 a0 4 = iv a0 4; omega) (SBN.plain hB2 hW hS Fb2 t_a0 (by omega) (hTN.2.1 (by have q := hTN.1; have q3 : tn ≠ 1 := fun e => absurd (q e).1 (by omega); exact q3)) (hTN.2.2.2 (by omega)) gf1.2)
              · replace gf1 := (And.intro (And.intro c7 (And.intro gf1.1.2.1 (And.intro gf1.1.2.2.1 (gf1.1.2.2.2 c7)))) gf1.2)
                refine c_iload (j := 1) C dX6_setBy_136 rfl ?_
                refine c_if_eq (tgt := 163) C (r32_01 htn) dX6_setBy_138 (by decide) (fun c8 => ?_) (fun c8 => ?_)
                · clear htn
                  clear htk
                  refine hv2 (show (-2147483648) ≤ ivh1 a1 0 ∧ ivh1 a1 0 ≤ 2147483647 from W2.int t_a1 0) (show ivh1 a1 0 = ivb2 a1 0 from fl1.i t_a1 rfl 0) (fun ri19 ie18 => ?_)
                  refine c_lv (lv2 := [(8, .int (iI f1)), (6, .int (iI tn)), (7, (va_rf fs)), (3, .int (iI sc)), (4, .int (iI fr)), (5, .int (iI k)), (2, .int (iI 0)), (0, .ref a0), (1, .ref a1)]) [0, 1, 2, 3, 4, 5, 6, 7, 8] rfl ?_
                  exact J2  f1 _  W2 F2  (by omega) (by show f1 = 0 → ivh1 a0 7 ≤ 204 + 4 * k; omega) (by show ivh1 a0 4 = iv a0 4; omega) (SBN.plain hB2 hW hS Fb2 t_a0 (by omega) (hTN.2.1 (by have q := hTN.1; have q3 : tn ≠ 1 := fun e => absurd (q e).1 (by omega); exact q3)) (hTN.2.2.2 (by omega)) gf1.2)
                · replace htn := (htn.resolve_left c8)
                  refine c_aload_n (j := 7) (x := a0) C dX6_setBy_141 rfl ?_
                  refine c_aload_n (j := 8) (x := a1) C dX6_setBy_142 rfl ?_
                  obtain ⟨rb1, rq1, trb1⟩ := W2.ref t_a1 6 rfl rfl rfl
                  have lnrb1 : 4 ≤ ln rb1 ∧ ln rb1 ≤ 4 := W2.len trb1 rfl
                  refine c_getr (k := 6) C ck_10 dX6_setBy_143 w2_195 (by decide) t_a1 rfl rfl (by decide) rfl rq1 ?_
                  refine c_st (st2 := [.ref rb1, .ref a0]) rfl ?_
                  refine c_iload_n (j := 3) C dX6_setBy_146 rfl ?_
                  refine c_if_eq (tgt := 154) C ⟨by omega, by omega⟩ dX6_setBy_147 (by decide) (fun _ => ?_) (fun z => absurd z (by omega))
                  refine c_iconst C dX6_setBy_154 ?_
                  have ll1 : 4 ≤ ln rb1 ∧ ln rb1 ≤ 4 := W2.len trb1 rfl
                  obtain ⟨nb1, nq1, tnb1⟩ := opt_n (W2.opt trb1 ((2 : Int).toNat) rfl rfl)
                  have tnb1 : ∀ b, nb1 = some b → ty L cl b 20 := tnb1
                  refine c_aaldR C dX6_setBy_155 trb1 rfl (by omega) (by omega) (by omega) nq1 ?_
                  refine c_st (st2 := [(va_rf nb1), .ref a0]) rfl ?_
                  refine c_iload (j := 5) C dX6_setBy_156 rfl ?_
                  refine hv2 (show 0 ≤ ivh1 a0 10 ∧ ivh1 a0 10 ≤ 500 from W2.int t_a0 10) (show 0 ≤ ivh1 a0 11 ∧ ivh1 a0 11 ≤ 500 from W2.int t_a0 11) (fun ri20 ri21 => ?_)
                  refine d_callV (As := [(va_rf nb1), .int (iI k)]) (rest := []) C hM (G_setTurn (a0 := a0) (r := nb1) (i := k) W2 hS t_a0 tnb1 (by omega) (by show ivh1 a0 7 ≤ 90000; omega)) dX6_setBy_158 kV_X6_82 rfl t_a0 rfl rfl (by decide) ck_7 rfl (Nat.le_of_ble_eq_true rfl) ⟨(Nat.le_of_ble_eq_true rfl), (Nat.le_of_ble_eq_true rfl)⟩ hph hph (show 0 + 0 = 0 from rfl) (by decide) (fun rh2 Lh2 clh2 lnh2 ivh2 rvh2 h2 => ?_)
                  obtain ⟨f2, rfl, rfl, rfl, rfl, rfl, fl2, W3, rgf2, exf2⟩ := h2
                  have F3 := F2.call hX0 fl2 rfl
                  refine c_st (st2 := [.int (iI f2)]) rfl ?_
                  refine hv5 (show 0 ≤ ivh2 a0 4 ∧ ivh2 a0 4 ≤ 500 from W3.int t_a0 4) (show 0 ≤ ivh2 a0 7 ∧ ivh2 a0 7 ≤ 100000 from W3.int t_a0 7) (show 0 ≤ ivh2 a0 10 ∧ ivh2 a0 10 ≤ 500 from W3.int t_a0 10) (show 0 ≤ ivh2 a0 11 ∧ ivh2 a0 11 ≤ 500 from W3.int t_a0 11) (show ((f2 = 0 ∨ f2 = 7) ∧ ivh2 a0 4 = ivh1 a0 4 ∧ ivh1 a0 7 ≤ ivh2 a0 7 ∧ ivh2 a0 7 ≤ ivh1 a0 7 + 4 ∧ ivh2 a0 10 = ivh1 a0 10 ∧ ivh2 a0 11 = ivh1 a0 11) ∧ STX ln ivh1 rv ivh2 a0 nb1 f2 from exf2) (fun ri22 ri23 ri24 ri25 gf2 => ?_)
                  refine c_istore (lv2 := [(8, .int (iI f2)), (6, .int (iI tn)), (7, (va_rf fs)), (3, .int (iI sc)), (4, .int (iI fr)), (5, .int (iI k)), (2, .int (iI 0)), (0, .ref a0), (1, .ref a1)]) C dX6_setBy_161 (by decide) (by cases fs <;> rfl) ?_
                  refine hv3 (show (-2147483648) ≤ ivh2 a1 0 ∧ ivh2 a1 0 ≤ 2147483647 from W3.int t_a1 0) (show ivh2 a1 0 = ivh1 a1 0 from fl2.i t_a1 rfl 0) (show ivh1 a1 0 = ivb2 a1 0 from fl1.i t_a1 rfl 0) (fun ri26 ie25 ie26 => ?_)
                  refine c_lv (lv2 := [(8, .int (iI f2)), (6, .int (iI tn)), (7, (va_rf fs)), (3, .int (iI sc)), (4, .int (iI fr)), (5, .int (iI k)), (2, .int (iI 0)), (0, .ref a0), (1, .ref a1)]) [0, 1, 2, 3, 4, 5, 6, 7, 8] rfl ?_
                  exact J2  f2 _  W3 F3  (by omega) (by show f2 = 0 → ivh2 a0 7 ≤ 204 + 4 * k; omega) (by show ivh2 a0 4 = iv a0 4; omega) (by exfalso; have q := (hTN.1 (by omega)).1; omega)
            · replace hsc := (hsc.resolve_left c6)
              refine c_aload_n (j := 7) (x := a1) C dX6_setBy_113 rfl ?_
              obtain ⟨nb2, nq2, tnb2⟩ := opt_n (Wb2.opt t_a1 3 rfl rfl)
              have tnb2 : ∀ b, nb2 = some b → ty L cl b 100 := tnb2
              refine c_getr (k := 3) C ck_10 dX6_setBy_114 w2_185 (by decide) t_a1 rfl rfl (by decide) rfl nq2 ?_
              refine c_st (st2 := [(va_rf nb2), .ref a0]) rfl ?_
              refine c_goto (tgt := 122) C dX6_setBy_117 (by decide) ?_
              refine c_iload (j := 3) C dX6_setBy_122 rfl ?_
              refine c_iload (j := 4) C dX6_setBy_124 rfl ?_
              refine hv4 (show (-2147483648) ≤ ivb2 a1 0 ∧ ivb2 a1 0 ≤ 2147483647 from Wb2.int t_a1 0) (show ivb2 a1 0 = iv a1 0 from Fb2.i t_a1 rfl 0) (show 0 ≤ ivb2 a0 7 ∧ ivb2 a0 7 ≤ 100000 from Wb2.int t_a0 7) (show 0 ≤ ivb2 a0 4 ∧ ivb2 a0 4 ≤ 500 from Wb2.int t_a0 4) (fun ri27 ie27 ri28 ri29 => ?_)
              refine d_callV (As := [(va_rf nb2), .int (iI fr), .int (iI k)]) (rest := []) C hM (G_setPart (a0 := a0) (r := nb2) (i := fr) (n := k) Wb2 hS t_a0 tnb2 (by omega) (by omega) (by show 0 ≤ fr ∧ fr ≤ 500 ∧ 0 ≤ k ∧ k ≤ 500 ∧ ivb2 a0 7 ≤ 50000; omega)) dX6_setBy_126 kV_X6_74 rfl t_a0 rfl rfl (by decide) ck_7 rfl (Nat.le_of_ble_eq_true rfl) ⟨(Nat.le_of_ble_eq_true rfl), (Nat.le_of_ble_eq_true rfl)⟩ hph hph (show 0 + 0 = 0 from rfl) (by decide) (fun rh3 Lh3 clh3 lnh3 ivh3 rvh3 h3 => ?_)
              obtain ⟨f3, rfl, rfl, rfl, rfl, rfl, fl3, W4, rgf3, exf3⟩ := h3
              have F4 := Fb2.call hX0 fl3 rfl
              refine c_st (st2 := [.int (iI f3)]) rfl ?_
              refine hv3 (show 0 ≤ ivh3 a0 4 ∧ ivh3 a0 4 ≤ 500 from W4.int t_a0 4) (show 0 ≤ ivh3 a0 7 ∧ ivh3 a0 7 ≤ 100000 from W4.int t_a0 7) (show ((f3 = 0 ∨ f3 = 6 ∨ f3 = 7) ∧ ivh3 a0 4 = ivb2 a0 4 ∧ ivh3 a0 7 ≤ ivb2 a0 7 + 208 ∧ (f3 = 0 → (ivh3 a0 7 ≤ ivb2 a0 7 ∨ ivh3 a0 7 ≤ 200))) ∧ SPX sk ln ivb2 rv ivh3 a0 nb2 fr k f3 from exf3) (fun ri30 ri31 gf3 => ?_)
              refine c_istore (lv2 := [(8, .int (iI f3)), (6, .int (iI tn)), (7, (va_rf fs)), (3, .int (iI sc)), (4, .int (iI fr)), (5, .int (iI k)), (2, .int (iI 0)), (0, .ref a0), (1, .ref a1)]) C dX6_setBy_129 (by decide) (by cases fs <;> rfl) ?_
              refine c_iload (j := 0) C dX6_setBy_131 rfl ?_
              refine c_if_ne (tgt := 163) C (r32_067 gf3.1.1) dX6_setBy_133 (by decide) (fun c9 => ?_) (fun c9 => ?_)
              · replace gf3 := (And.intro (And.intro (gf3.1.1.resolve_left c9) (And.intro gf3.1.2.1 (And.intro gf3.1.2.2.1 trivial))) gf3.2)
                refine hv2 (show (-2147483648) ≤ ivh3 a1 0 ∧ ivh3 a1 0 ≤ 2147483647 from W4.int t_a1 0) (show ivh3 a1 0 = ivb2 a1 0 from fl3.i t_a1 rfl 0) (fun ri32 ie32 => ?_)
                refine c_lv (lv2 := [(8, .int (iI f3)), (6, .int (iI tn)), (7, (va_rf fs)), (3, .int (iI sc)), (4, .int (iI fr)), (5, .int (iI k)), (2, .int (iI 0)), (0, .ref a0), (1, .ref a1)]) [0, 1, 2, 3, 4, 5, 6, 7, 8] rfl ?_
                exact J2  f3 _  W4 F4  (by omega) (by show f3 = 0 → ivh3 a0 7 ≤ 204 + 4 * k; omega) (by show ivh3 a0 4 = iv a0 4; omega) (SBN.bad hB2 (by omega) (by omega) (by omega))
              · replace gf3 := (And.intro (And.intro c9 (And.intro gf3.1.2.1 (And.intro gf3.1.2.2.1 (gf3.1.2.2.2 c9)))) gf3.2)
                refine c_iload (j := 1) C dX6_setBy_136 rfl ?_
                refine c_if_eq (tgt := 163) C (r32_01 htn) dX6_setBy_138 (by decide) (fun c10 => ?_) (fun c10 => ?_)
                · clear htn
                  clear htk
                  refine hv2 (show (-2147483648) ≤ ivh3 a1 0 ∧ ivh3 a1 0 ≤ 2147483647 from W4.int t_a1 0) (show ivh3 a1 0 = ivb2 a1 0 from fl3.i t_a1 rfl 0) (fun ri33 ie33 => ?_)
                  refine c_lv (lv2 := [(8, .int (iI f3)), (6, .int (iI tn)), (7, (va_rf fs)), (3, .int (iI sc)), (4, .int (iI fr)), (5, .int (iI k)), (2, .int (iI 0)), (0, .ref a0), (1, .ref a1)]) [0, 1, 2, 3, 4, 5, 6, 7, 8] rfl ?_
                  exact J2  f3 _  W4 F4  (by omega) (by show f3 = 0 → ivh3 a0 7 ≤ 204 + 4 * k; omega) (by show ivh3 a0 4 = iv a0 4; omega) (SBN.bad hB2 (by omega) (by omega) (by omega))
                · replace htn := (htn.resolve_left c10)
                  refine c_aload_n (j := 7) (x := a0) C dX6_setBy_141 rfl ?_
                  refine c_aload_n (j := 8) (x := a1) C dX6_setBy_142 rfl ?_
                  obtain ⟨rb2, rq2, trb2⟩ := W4.ref t_a1 6 rfl rfl rfl
                  have lnrb2 : 4 ≤ ln rb2 ∧ ln rb2 ≤ 4 := W4.len trb2 rfl
                  refine c_getr (k := 6) C ck_10 dX6_setBy_143 w2_195 (by decide) t_a1 rfl rfl (by decide) rfl rq2 ?_
                  refine c_st (st2 := [.ref rb2, .ref a0]) rfl ?_
                  refine c_iload_n (j := 3) C dX6_setBy_146 rfl ?_
                  refine c_if_eq (tgt := 154) C ⟨by omega, by omega⟩ dX6_setBy_147 (by decide) (fun z => absurd z (by omega)) (fun _ => ?_)
                  refine c_iconst C dX6_setBy_150 ?_
                  refine c_goto (tgt := 155) C dX6_setBy_151 (by decide) ?_
                  have ll2 : 4 ≤ ln rb2 ∧ ln rb2 ≤ 4 := W4.len trb2 rfl
                  obtain ⟨nb3, nq3, tnb3⟩ := opt_n (W4.opt trb2 ((3 : Int).toNat) rfl rfl)
                  have tnb3 : ∀ b, nb3 = some b → ty L cl b 20 := tnb3
                  refine c_aaldR C dX6_setBy_155 trb2 rfl (by omega) (by omega) (by omega) nq3 ?_
                  refine c_st (st2 := [(va_rf nb3), .ref a0]) rfl ?_
                  refine c_iload (j := 5) C dX6_setBy_156 rfl ?_
                  refine hv2 (show 0 ≤ ivh3 a0 10 ∧ ivh3 a0 10 ≤ 500 from W4.int t_a0 10) (show 0 ≤ ivh3 a0 11 ∧ ivh3 a0 11 ≤ 500 from W4.int t_a0 11) (fun ri34 ri35 => ?_)
                  refine d_callV (As := [(va_rf nb3), .int (iI k)]) (rest := []) C hM (G_setTurn (a0 := a0) (r := nb3) (i := k) W4 hS t_a0 tnb3 (by omega) (by show ivh3 a0 7 ≤ 90000; omega)) dX6_setBy_158 kV_X6_82 rfl t_a0 rfl rfl (by decide) ck_7 rfl (Nat.le_of_ble_eq_true rfl) ⟨(Nat.le_of_ble_eq_true rfl), (Nat.le_of_ble_eq_true rfl)⟩ hph hph (show 0 + 0 = 0 from rfl) (by decide) (fun rh4 Lh4 clh4 lnh4 ivh4 rvh4 h4 => ?_)
                  obtain ⟨f4, rfl, rfl, rfl, rfl, rfl, fl4, W5, rgf4, exf4⟩ := h4
                  have F5 := F4.call hX0 fl4 rfl
                  refine c_st (st2 := [.int (iI f4)]) rfl ?_
                  refine hv5 (show 0 ≤ ivh4 a0 4 ∧ ivh4 a0 4 ≤ 500 from W5.int t_a0 4) (show 0 ≤ ivh4 a0 7 ∧ ivh4 a0 7 ≤ 100000 from W5.int t_a0 7) (show 0 ≤ ivh4 a0 10 ∧ ivh4 a0 10 ≤ 500 from W5.int t_a0 10) (show 0 ≤ ivh4 a0 11 ∧ ivh4 a0 11 ≤ 500 from W5.int t_a0 11) (show ((f4 = 0 ∨ f4 = 7) ∧ ivh4 a0 4 = ivh3 a0 4 ∧ ivh3 a0 7 ≤ ivh4 a0 7 ∧ ivh4 a0 7 ≤ ivh3 a0 7 + 4 ∧ ivh4 a0 10 = ivh3 a0 10 ∧ ivh4 a0 11 = ivh3 a0 11) ∧ STX ln ivh3 rv ivh4 a0 nb3 f4 from exf4) (fun ri36 ri37 ri38 ri39 gf4 => ?_)
                  refine c_istore (lv2 := [(8, .int (iI f4)), (6, .int (iI tn)), (7, (va_rf fs)), (3, .int (iI sc)), (4, .int (iI fr)), (5, .int (iI k)), (2, .int (iI 0)), (0, .ref a0), (1, .ref a1)]) C dX6_setBy_161 (by decide) (by cases fs <;> rfl) ?_
                  refine hv3 (show (-2147483648) ≤ ivh4 a1 0 ∧ ivh4 a1 0 ≤ 2147483647 from W5.int t_a1 0) (show ivh4 a1 0 = ivh3 a1 0 from fl4.i t_a1 rfl 0) (show ivh3 a1 0 = ivb2 a1 0 from fl3.i t_a1 rfl 0) (fun ri40 ie40 ie41 => ?_)
                  refine c_lv (lv2 := [(8, .int (iI f4)), (6, .int (iI tn)), (7, (va_rf fs)), (3, .int (iI sc)), (4, .int (iI fr)), (5, .int (iI k)), (2, .int (iI 0)), (0, .ref a0), (1, .ref a1)]) [0, 1, 2, 3, 4, 5, 6, 7, 8] rfl ?_
                  exact J2  f4 _  W5 F5  (by omega) (by show f4 = 0 → ivh4 a0 7 ≤ 204 + 4 * k; omega) (by show ivh4 a0 4 = iv a0 4; omega) (by exfalso; have q := (hTN.1 (by omega)).1; omega)
          refine c_iload_n (j := 3) C dX6_setBy_36 rfl ?_
          refine c_if_eq (tgt := 74) C ⟨by decide, by decide⟩ dX6_setBy_37 (by decide) (fun _ => ?_) (fun z => absurd z (by omega))
          refine c_iconst C dX6_setBy_74 ?_
          refine c_istore (lv2 := [(6, .int (iI 0)), (3, .int (iI sc)), (4, .int (iI fr)), (5, .int (iI k)), (2, .int (iI 0)), (0, .ref a0), (1, .ref a1)]) C dX6_setBy_75 (by decide) rfl ?_
          refine c_iload (j := 3) C dX6_setBy_77 rfl ?_
          refine c_aload_n (j := 5) (x := a0) C dX6_setBy_79 rfl ?_
          refine c_get (k := 4) C ck_7 dX6_setBy_80 w1_140 (by decide) t_a0 rfl rfl (by decide) rfl ?_
          refine c_icmp_ge (tgt := 94) C ⟨by omega, by omega⟩ (r32_c (lo := 0) (hi := 500) ri3.1 ri3.2 (by decide) (by decide)) dX6_setBy_83 (by decide) (fun c11 => ?_) (fun c11 => ?_)
          · refine c_iload_n (j := 4) C dX6_setBy_94 rfl ?_
            refine c_if_eq (tgt := 105) C ⟨by decide, by decide⟩ dX6_setBy_95 (by decide) (fun _ => ?_) (fun z => absurd z (by omega))
            refine c_aload_n (j := 6) (x := a1) C dX6_setBy_105 rfl ?_
            refine c_astore (lv2 := [(7, .ref a1), (6, .int (iI 0)), (3, .int (iI sc)), (4, .int (iI fr)), (5, .int (iI k)), (2, .int (iI 0)), (0, .ref a0), (1, .ref a1)]) C dX6_setBy_106 (by decide) rfl ?_
            refine hv3 (show 0 ≤ ivb1 a0 7 ∧ ivb1 a0 7 ≤ 100000 from Wb1.int t_a0 7) (show (-2147483648) ≤ ivb1 a1 0 ∧ ivb1 a1 0 ≤ 2147483647 from Wb1.int t_a1 0) (show ivb1 a1 0 = iv a1 0 from Fb1.i t_a1 rfl 0) (fun ri41 ri42 ie43 => ?_)
            refine c_lv (lv2 := [(6, .int (iI 0)), (7, .ref a1), (3, .int (iI sc)), (4, .int (iI fr)), (5, .int (iI k)), (2, .int (iI 0)), (0, .ref a0), (1, .ref a1)]) [1, 0, 2, 3, 4, 5, 6, 7] rfl ?_
            exact J1  (some a1) 0 _  Wb1 Fb1 (fun _ q => by cases q; exact t_a1) (by omega) (by omega) (fun q => absurd q (by omega)) (by show ivb1 a0 7 ≤ 200 + 4 * k; omega) hc4 ⟨(fun q => absurd q (by decide)), (fun _ => by omega), (fun q => by exfalso; omega), (fun _ => rfl)⟩ hB
          · refine c_iload (j := 0) C dX6_setBy_86 rfl ?_
            refine c_if_ne (tgt := 94) C ⟨by decide, by decide⟩ dX6_setBy_88 (by decide) (fun z => absurd z (by omega)) (fun _ => ?_)
            refine c_goto (tgt := 187) C dX6_setBy_91 (by decide) ?_
            refine c_iinc (z := k) (j := 3) (lv2 := [(5, .int (iI (k + 1))), (6, .int (iI 0)), (3, .int (iI sc)), (4, .int (iI fr)), (2, .int (iI 0)), (0, .ref a0), (1, .ref a1)]) C dX6_setBy_187 rfl (by decide) rfl ?_
            refine c_goto (tgt := 27) C dX6_setBy_190 (by decide) ?_
            refine hv3 (show 0 ≤ ivb1 a0 7 ∧ ivb1 a0 7 ≤ 100000 from Wb1.int t_a0 7) (show (-2147483648) ≤ ivb1 a1 0 ∧ ivb1 a1 0 ≤ 2147483647 from Wb1.int t_a1 0) (show ivb1 a1 0 = iv a1 0 from Fb1.i t_a1 rfl 0) (fun ri43 ri44 ie45 => ?_)
            refine c_lv (lv2 := [(3, .int (iI sc)), (4, .int (iI fr)), (5, .int (iI (k + 1))), (2, .int (iI 0)), (0, .ref a0), (1, .ref a1)]) [2, 3, 0, 4, 5, 6] rfl ?_
            exact ih1  sc fr (k + 1) _ (by omega) Wb1 Fb1  (by omega) (by omega) (by omega) (by show ivb1 a0 7 ≤ 200 + 4 * (k + 1); omega) hc4 (hB.skip (by omega) (by omega) (Or.inl (by omega)))
    refine hv4 (show 0 ≤ iv1 a0 7 ∧ iv1 a0 7 ≤ 100000 from W1.int t_a0 7) (show iv1 a0 7 = 0 from by rw [pq1]; exact up2_s) (show 0 ≤ iv1 a0 4 ∧ iv1 a0 4 ≤ 500 from W1.int t_a0 4) (show iv1 a0 4 = iv a0 4 from by rw [pq1]; exact up2_j (by decide)) (fun ri45 ie46 ri46 ie47 => ?_)
    refine c_lv (lv2 := [(3, .int (iI 0)), (4, .int (iI 0)), (5, .int (iI 0)), (2, .int (iI 0)), (0, .ref a0), (1, .ref a1)]) [2, 1, 0, 3, 4, 5] rfl ?_
    exact Lp1 503 0 0 0 _ (by omega) W1 F1  (by omega) (by omega) (by omega) (by show iv1 a0 7 ≤ 200 + 4 * 0; omega) ie47 (SBI.init pq1 (by omega))
  · refine c_iconst C dX6_setBy_13 ?_
    refine c_goto (tgt := 18) C dX6_setBy_14 (by decide) ?_
    refine c_istore_n (lv2 := [(2, .int (iI 1)), (0, .ref a0), (1, .ref a1)]) C dX6_setBy_18 (by decide) rfl ?_
    refine c_iconst C dX6_setBy_19 ?_
    refine c_istore_n (lv2 := [(3, .int (iI 0)), (2, .int (iI 1)), (0, .ref a0), (1, .ref a1)]) C dX6_setBy_20 (by decide) rfl ?_
    refine c_iconst C dX6_setBy_21 ?_
    refine c_istore (lv2 := [(4, .int (iI 0)), (3, .int (iI 0)), (2, .int (iI 1)), (0, .ref a0), (1, .ref a1)]) C dX6_setBy_22 (by decide) rfl ?_
    refine c_iconst C dX6_setBy_24 ?_
    refine c_istore (lv2 := [(5, .int (iI 0)), (4, .int (iI 0)), (3, .int (iI 0)), (2, .int (iI 1)), (0, .ref a0), (1, .ref a1)]) C dX6_setBy_25 (by decide) rfl ?_
    have Lp2 : ∀ (nn : Nat) (sc fr k : Int) (ivb4 : Nat → Nat → Int) , iv a0 4 + 2 - k < (nn : Int) → WT (g0 G) sk L cl ln ivb4 rv → fT [15, 53, 54, 55] L cl iv rv ivb4 rv → (sc = 0 ∨ sc = 1) → (0 ≤ fr ∧ fr ≤ k) → (0 ≤ k ∧ k ≤ iv a0 4 + 1) → (ivb4 a0 7 ≤ 200 + 4 * k) → (ivb4 a0 4 = iv a0 4) → (SBI sk ln iv rv ivb4 a0 a1 sc fr k) → cw p l e 6 ((PHM) + 0 - ((Phi (g0 G) sk) ln rv)) s m args below meth c G A 9 (MQ below (Qu G A (Qp G (Phi (g0 G) sk) ((Phi (g0 G) sk) ln rv) 0 (fun v L2 cl2 ln2 iv2 rv2 => ∃ f : Int, v = some (.int (iI f)) ∧ L = L2 ∧ cl = cl2 ∧ ln = ln2 ∧ rv = rv2 ∧ fT [15, 53, 54, 55] L cl iv rv iv2 rv2 ∧ WT (g0 G) sk L2 cl2 ln2 iv2 rv2 ∧ (-2147483648 ≤ f ∧ f ≤ 2147483647) ∧ (((f = 0 ∨ f = 6 ∨ f = 7) ∧ iv2 a0 4 = iv a0 4 ∧ (f = 0 → iv2 a0 7 ≤ 200)) ∧ SBX sk ln iv rv iv2 a0 a1 f)))) args s (((PHM) + 0 - ((Phi (g0 G) sk) ln rv)) / 16) ((PHM) + 0 - ((Phi (g0 G) sk) ln rv)) A) (Phi (g0 G) sk) ((Phi (g0 G) sk) ln rv) L cl ln ivb4 rv 0 27 [(3, .int (iI sc)), (4, .int (iI fr)), (5, .int (iI k)), (2, .int (iI 1)), (0, .ref a0), (1, .ref a1)] [] := by
      intro nn
      induction nn with
      | zero =>
        intro  sc fr k ivb4 hm Wb4 Fb4  hsc hfr hk hc7 hc4 hB
        exact absurd hm (by omega)
      | succ nn ih2 =>
        intro  sc fr k ivb4 hm Wb4 Fb4  hsc hfr hk hc7 hc4 hB
        refine c_iload (j := 2) C dX6_setBy_27 rfl ?_
        refine c_aload_n (j := 4) (x := a0) C dX6_setBy_29 rfl ?_
        have ri47 : 0 ≤ ivb4 a0 4 ∧ ivb4 a0 4 ≤ 500 := Wb4.int t_a0 4
        refine c_get (k := 4) C ck_7 dX6_setBy_30 w1_140 (by decide) t_a0 rfl rfl (by decide) rfl ?_
        refine c_icmp_gt (tgt := 193) C ⟨by omega, by omega⟩ (r32_c (lo := 0) (hi := 500) ri47.1 ri47.2 (by decide) (by decide)) dX6_setBy_33 (by decide) (fun c12 => ?_) (fun c12 => ?_)
        · refine c_aload_n (j := 4) (x := a0) C dX6_setBy_193 rfl ?_
          have ri48 : 0 ≤ ivb4 a0 7 ∧ ivb4 a0 7 ≤ 100000 := Wb4.int t_a0 7
          refine c_get (k := 7) C ck_7 dX6_setBy_194 w1_147 (by decide) t_a0 rfl rfl (by decide) rfl ?_
          refine c_sipush (z := 200) C dX6_setBy_197 (by decide) ?_
          refine c_icmp_le (tgt := 208) C (r32_c (lo := 0) (hi := 100000) ri48.1 ri48.2 (by decide) (by decide)) ⟨by decide, by decide⟩ dX6_setBy_200 (by decide) (fun c13 => ?_) (fun c13 => ?_)
          · refine c_iconst C dX6_setBy_208 ?_
            exact c_iret C dX6_setBy_209 rfl (by decide) (rom0 hph hph (by decide)) ⟨0, rfl, rfl, rfl, rfl, rfl, Fb4, Wb4, ⟨by decide, by decide⟩, ⟨by omega, hB.fin (by omega) (by omega)⟩⟩
          · refine c_bipush (z := 6) C dX6_setBy_203 (by decide) ?_
            refine c_goto (tgt := 209) C dX6_setBy_205 (by decide) ?_
            exact c_iret C dX6_setBy_209 rfl (by decide) (rom0 hph hph (by decide)) ⟨6, rfl, rfl, rfl, rfl, rfl, Fb4, Wb4, ⟨by decide, by decide⟩, ⟨by omega, hB.fin (by omega) (by omega)⟩⟩
        · have J3 : ∀ (fs : Option Nat) (tn : Int) (ivb5 : Nat → Nat → Int) , WT (g0 G) sk L cl ln ivb5 rv → fT [15, 53, 54, 55] L cl iv rv ivb5 rv → (∀ b, fs = some b → ty L cl b 100) → (tn = 0 ∨ tn = 1) → (k ≤ iv a0 4) → (tn = 1 → k < iv a0 4) → (ivb5 a0 7 ≤ 200 + 4 * k) → (ivb5 a0 4 = iv a0 4) → (TRN iv rv a0 a1 sc k tn fs) → (SBI sk ln iv rv ivb5 a0 a1 sc fr k) → cw p l e 6 ((PHM) + 0 - ((Phi (g0 G) sk) ln rv)) s m args below meth c G A 9 (MQ below (Qu G A (Qp G (Phi (g0 G) sk) ((Phi (g0 G) sk) ln rv) 0 (fun v L2 cl2 ln2 iv2 rv2 => ∃ f : Int, v = some (.int (iI f)) ∧ L = L2 ∧ cl = cl2 ∧ ln = ln2 ∧ rv = rv2 ∧ fT [15, 53, 54, 55] L cl iv rv iv2 rv2 ∧ WT (g0 G) sk L2 cl2 ln2 iv2 rv2 ∧ (-2147483648 ≤ f ∧ f ≤ 2147483647) ∧ (((f = 0 ∨ f = 6 ∨ f = 7) ∧ iv2 a0 4 = iv a0 4 ∧ (f = 0 → iv2 a0 7 ≤ 200)) ∧ SBX sk ln iv rv iv2 a0 a1 f)))) args s (((PHM) + 0 - ((Phi (g0 G) sk) ln rv)) / 16) ((PHM) + 0 - ((Phi (g0 G) sk) ln rv)) A) (Phi (g0 G) sk) ((Phi (g0 G) sk) ln rv) L cl ln ivb5 rv 0 108 [(6, .int (iI tn)), (7, (va_rf fs)), (3, .int (iI sc)), (4, .int (iI fr)), (5, .int (iI k)), (2, .int (iI 1)), (0, .ref a0), (1, .ref a1)] [] := by
            intro fs tn ivb5 Wb5 Fb5 ty_fs htn hki htk hd7 hd4 hTN hB2
            have J4 : ∀ (wy : Int) (ivb6 : Nat → Nat → Int) , WT (g0 G) sk L cl ln ivb6 rv → fT [15, 53, 54, 55] L cl iv rv ivb6 rv → (wy = 0 ∨ wy = 6 ∨ wy = 7) → (wy = 0 → ivb6 a0 7 ≤ 204 + 4 * k) → (ivb6 a0 4 = iv a0 4) → (SBN sk ln iv rv ivb6 a0 a1 sc k wy) → cw p l e 6 ((PHM) + 0 - ((Phi (g0 G) sk) ln rv)) s m args below meth c G A 9 (MQ below (Qu G A (Qp G (Phi (g0 G) sk) ((Phi (g0 G) sk) ln rv) 0 (fun v L2 cl2 ln2 iv2 rv2 => ∃ f : Int, v = some (.int (iI f)) ∧ L = L2 ∧ cl = cl2 ∧ ln = ln2 ∧ rv = rv2 ∧ fT [15, 53, 54, 55] L cl iv rv iv2 rv2 ∧ WT (g0 G) sk L2 cl2 ln2 iv2 rv2 ∧ (-2147483648 ≤ f ∧ f ≤ 2147483647) ∧ (((f = 0 ∨ f = 6 ∨ f = 7) ∧ iv2 a0 4 = iv a0 4 ∧ (f = 0 → iv2 a0 7 ≤ 200)) ∧ SBX sk ln iv rv iv2 a0 a1 f)))) args s (((PHM) + 0 - ((Phi (g0 G) sk) ln rv)) / 16) ((PHM) + 0 - ((Phi (g0 G) sk) ln rv)) A) (Phi (g0 G) sk) ((Phi (g0 G) sk) ln rv) L cl ln ivb6 rv 0 163 [(8, .int (iI wy)), (6, .int (iI tn)), (7, (va_rf fs)), (3, .int (iI sc)), (4, .int (iI fr)), (5, .int (iI k)), (2, .int (iI 1)), (0, .ref a0), (1, .ref a1)] [] := by
              intro  wy ivb6 Wb6 Fb6  hwy he7 he4 hP
              refine c_iload (j := 0) C dX6_setBy_163 rfl ?_
              refine c_if_eq (tgt := 171) C (r32_067 hwy) dX6_setBy_165 (by decide) (fun c14 => ?_) (fun c14 => ?_)
              · clear hwy
                replace he7 := (he7 c14)
                refine c_iload_n (j := 3) C dX6_setBy_171 rfl ?_
                refine c_if_ne (tgt := 179) C (r32_01 hsc) dX6_setBy_172 (by decide) (fun c15 => ?_) (fun c15 => ?_)
                · replace hsc := (hsc.resolve_left c15)
                  refine c_iconst C dX6_setBy_179 ?_
                  refine c_istore_n (lv2 := [(3, .int (iI 0)), (8, .int (iI wy)), (6, .int (iI tn)), (7, (va_rf fs)), (4, .int (iI fr)), (5, .int (iI k)), (2, .int (iI 1)), (0, .ref a0), (1, .ref a1)]) C dX6_setBy_180 (by decide) rfl ?_
                  refine c_iload (j := 5) C dX6_setBy_181 rfl ?_
                  refine c_iconst C dX6_setBy_183 ?_
                  refine c_iadd C dX6_setBy_184 ?_
                  refine c_istore (lv2 := [(4, .int (iI (k + 1))), (3, .int (iI 0)), (8, .int (iI wy)), (6, .int (iI tn)), (7, (va_rf fs)), (5, .int (iI k)), (2, .int (iI 1)), (0, .ref a0), (1, .ref a1)]) C dX6_setBy_185 (by decide) rfl ?_
                  refine c_iinc (z := k) (j := 5) (lv2 := [(5, .int (iI (k + 1))), (4, .int (iI (k + 1))), (3, .int (iI 0)), (8, .int (iI wy)), (6, .int (iI tn)), (7, (va_rf fs)), (2, .int (iI 1)), (0, .ref a0), (1, .ref a1)]) C dX6_setBy_187 rfl (by decide) rfl ?_
                  refine c_goto (tgt := 27) C dX6_setBy_190 (by decide) ?_
                  refine hv4 (show 0 ≤ ivb6 a0 7 ∧ ivb6 a0 7 ≤ 100000 from Wb6.int t_a0 7) (show 0 ≤ ivb6 a0 4 ∧ ivb6 a0 4 ≤ 500 from Wb6.int t_a0 4) (show (-2147483648) ≤ ivb6 a1 0 ∧ ivb6 a1 0 ≤ 2147483647 from Wb6.int t_a1 0) (show ivb6 a1 0 = iv a1 0 from Fb6.i t_a1 rfl 0) (fun ri49 ri50 ri51 ie52 => ?_)
                  refine c_lv (lv2 := [(3, .int (iI 0)), (4, .int (iI (k + 1))), (5, .int (iI (k + 1))), (2, .int (iI 1)), (0, .ref a0), (1, .ref a1)]) [2, 1, 0, 6, 7, 8] rfl ?_
                  exact ih2  0 (k + 1) (k + 1) _ (by omega) Wb6 Fb6  (by omega) (by omega) (by omega) (by show ivb6 a0 7 ≤ 200 + 4 * (k + 1); omega) he4 ((hP.1 (by omega)).re (by omega))
                · clear hsc
                  refine c_iconst C dX6_setBy_175 ?_
                  refine c_goto (tgt := 180) C dX6_setBy_176 (by decide) ?_
                  refine c_istore_n (lv2 := [(3, .int (iI 1)), (8, .int (iI wy)), (6, .int (iI tn)), (7, (va_rf fs)), (4, .int (iI fr)), (5, .int (iI k)), (2, .int (iI 1)), (0, .ref a0), (1, .ref a1)]) C dX6_setBy_180 (by decide) rfl ?_
                  refine c_iload (j := 5) C dX6_setBy_181 rfl ?_
                  refine c_iconst C dX6_setBy_183 ?_
                  refine c_iadd C dX6_setBy_184 ?_
                  refine c_istore (lv2 := [(4, .int (iI (k + 1))), (3, .int (iI 1)), (8, .int (iI wy)), (6, .int (iI tn)), (7, (va_rf fs)), (5, .int (iI k)), (2, .int (iI 1)), (0, .ref a0), (1, .ref a1)]) C dX6_setBy_185 (by decide) rfl ?_
                  refine c_iinc (z := k) (j := 5) (lv2 := [(5, .int (iI (k + 1))), (4, .int (iI (k + 1))), (3, .int (iI 1)), (8, .int (iI wy)), (6, .int (iI tn)), (7, (va_rf fs)), (2, .int (iI 1)), (0, .ref a0), (1, .ref a1)]) C dX6_setBy_187 rfl (by decide) rfl ?_
                  refine c_goto (tgt := 27) C dX6_setBy_190 (by decide) ?_
                  refine hv4 (show 0 ≤ ivb6 a0 7 ∧ ivb6 a0 7 ≤ 100000 from Wb6.int t_a0 7) (show 0 ≤ ivb6 a0 4 ∧ ivb6 a0 4 ≤ 500 from Wb6.int t_a0 4) (show (-2147483648) ≤ ivb6 a1 0 ∧ ivb6 a1 0 ≤ 2147483647 from Wb6.int t_a1 0) (show ivb6 a1 0 = iv a1 0 from Fb6.i t_a1 rfl 0) (fun ri52 ri53 ri54 ie55 => ?_)
                  refine c_lv (lv2 := [(3, .int (iI 1)), (4, .int (iI (k + 1))), (5, .int (iI (k + 1))), (2, .int (iI 1)), (0, .ref a0), (1, .ref a1)]) [2, 1, 0, 6, 7, 8] rfl ?_
                  exact ih2  1 (k + 1) (k + 1) _ (by omega) Wb6 Fb6  (by omega) (by omega) (by omega) (by show ivb6 a0 7 ≤ 200 + 4 * (k + 1); omega) he4 ((hP.1 (by omega)).re (by omega))
              · replace hwy := (hwy.resolve_left c14)
                clear he7
                refine c_iload (j := 0) C dX6_setBy_168 rfl ?_
                refine hv2 (show 0 ≤ ivb6 a0 4 ∧ ivb6 a0 4 ≤ 500 from Wb6.int t_a0 4) (show 0 ≤ ivb6 a0 7 ∧ ivb6 a0 7 ≤ 100000 from Wb6.int t_a0 7) (fun ri55 ri56 => ?_)
                exact c_iret C dX6_setBy_170 rfl (by decide) (rom0 hph hph (by decide)) ⟨wy, rfl, rfl, rfl, rfl, rfl, Fb6, Wb6, ⟨by omega, by omega⟩, ⟨by omega, SBX.fail (hP.2 (by omega)) (by omega)⟩⟩
            refine c_aload_n (j := 6) (x := a0) C dX6_setBy_108 rfl ?_
            refine c_iload_n (j := 2) C dX6_setBy_109 rfl ?_
            refine c_if_eq (tgt := 120) C (r32_01 hsc) dX6_setBy_110 (by decide) (fun c16 => ?_) (fun c16 => ?_)
            · clear hsc
              refine c_aloadr (j := 1) (r := fs) C dX6_setBy_120 rfl ?_
              refine c_iload (j := 3) C dX6_setBy_122 rfl ?_
              refine c_iload (j := 4) C dX6_setBy_124 rfl ?_
              refine hv4 (show (-2147483648) ≤ ivb5 a1 0 ∧ ivb5 a1 0 ≤ 2147483647 from Wb5.int t_a1 0) (show ivb5 a1 0 = iv a1 0 from Fb5.i t_a1 rfl 0) (show 0 ≤ ivb5 a0 7 ∧ ivb5 a0 7 ≤ 100000 from Wb5.int t_a0 7) (show 0 ≤ ivb5 a0 4 ∧ ivb5 a0 4 ≤ 500 from Wb5.int t_a0 4) (fun ri57 ie58 ri58 ri59 => ?_)
              refine d_callV (As := [(va_rf fs), .int (iI fr), .int (iI k)]) (rest := []) C hM (G_setPart (a0 := a0) (r := fs) (i := fr) (n := k) Wb5 hS t_a0 ty_fs (by omega) (by omega) (by show 0 ≤ fr ∧ fr ≤ 500 ∧ 0 ≤ k ∧ k ≤ 500 ∧ ivb5 a0 7 ≤ 50000; omega)) dX6_setBy_126 kV_X6_74 rfl t_a0 rfl rfl (by decide) ck_7 rfl (Nat.le_of_ble_eq_true rfl) ⟨(Nat.le_of_ble_eq_true rfl), (Nat.le_of_ble_eq_true rfl)⟩ hph hph (show 0 + 0 = 0 from rfl) (by decide) (fun rh5 Lh5 clh5 lnh5 ivh5 rvh5 h5 => ?_)
              obtain ⟨f5, rfl, rfl, rfl, rfl, rfl, fl5, W6, rgf5, exf5⟩ := h5
              have F6 := Fb5.call hX0 fl5 rfl
              refine c_st (st2 := [.int (iI f5)]) rfl ?_
              refine hv3 (show 0 ≤ ivh5 a0 4 ∧ ivh5 a0 4 ≤ 500 from W6.int t_a0 4) (show 0 ≤ ivh5 a0 7 ∧ ivh5 a0 7 ≤ 100000 from W6.int t_a0 7) (show ((f5 = 0 ∨ f5 = 6 ∨ f5 = 7) ∧ ivh5 a0 4 = ivb5 a0 4 ∧ ivh5 a0 7 ≤ ivb5 a0 7 + 208 ∧ (f5 = 0 → (ivh5 a0 7 ≤ ivb5 a0 7 ∨ ivh5 a0 7 ≤ 200))) ∧ SPX sk ln ivb5 rv ivh5 a0 fs fr k f5 from exf5) (fun ri60 ri61 gf5 => ?_)
              refine c_istore (lv2 := [(8, .int (iI f5)), (6, .int (iI tn)), (7, (va_rf fs)), (3, .int (iI sc)), (4, .int (iI fr)), (5, .int (iI k)), (2, .int (iI 1)), (0, .ref a0), (1, .ref a1)]) C dX6_setBy_129 (by decide) (by cases fs <;> rfl) ?_
              refine c_iload (j := 0) C dX6_setBy_131 rfl ?_
              refine c_if_ne (tgt := 163) C (r32_067 gf5.1.1) dX6_setBy_133 (by decide) (fun c17 => ?_) (fun c17 => ?_)
              · replace gf5 := (And.intro (And.intro (gf5.1.1.resolve_left c17) (And.intro gf5.1.2.1 (And.intro gf5.1.2.2.1 trivial))) gf5.2)
                refine hv2 (show (-2147483648) ≤ ivh5 a1 0 ∧ ivh5 a1 0 ≤ 2147483647 from W6.int t_a1 0) (show ivh5 a1 0 = ivb5 a1 0 from fl5.i t_a1 rfl 0) (fun ri62 ie63 => ?_)
                refine c_lv (lv2 := [(8, .int (iI f5)), (6, .int (iI tn)), (7, (va_rf fs)), (3, .int (iI sc)), (4, .int (iI fr)), (5, .int (iI k)), (2, .int (iI 1)), (0, .ref a0), (1, .ref a1)]) [0, 1, 2, 3, 4, 5, 6, 7, 8] rfl ?_
                exact J4  f5 _  W6 F6  (by omega) (by show f5 = 0 → ivh5 a0 7 ≤ 204 + 4 * k; omega) (by show ivh5 a0 4 = iv a0 4; omega) (SBN.jfail hB2 hW hS Fb5 t_a0 (by omega) (Or.inl ⟨by omega, hTN.2.2.1 (by omega)⟩) ⟨by omega, by omega⟩ gf5.2 (by by_cases q : tn = 1; exact Or.inr (hTN.1 q).2.2; exact Or.inl (hTN.2.1 q)) (by omega))
              · replace gf5 := (And.intro (And.intro c17 (And.intro gf5.1.2.1 (And.intro gf5.1.2.2.1 (gf5.1.2.2.2 c17)))) gf5.2)
                refine c_iload (j := 1) C dX6_setBy_136 rfl ?_
                refine c_if_eq (tgt := 163) C (r32_01 htn) dX6_setBy_138 (by decide) (fun c18 => ?_) (fun c18 => ?_)
                · clear htn
                  clear htk
                  refine hv2 (show (-2147483648) ≤ ivh5 a1 0 ∧ ivh5 a1 0 ≤ 2147483647 from W6.int t_a1 0) (show ivh5 a1 0 = ivb5 a1 0 from fl5.i t_a1 rfl 0) (fun ri63 ie64 => ?_)
                  refine c_lv (lv2 := [(8, .int (iI f5)), (6, .int (iI tn)), (7, (va_rf fs)), (3, .int (iI sc)), (4, .int (iI fr)), (5, .int (iI k)), (2, .int (iI 1)), (0, .ref a0), (1, .ref a1)]) [0, 1, 2, 3, 4, 5, 6, 7, 8] rfl ?_
                  exact J4  f5 _  W6 F6  (by omega) (by show f5 = 0 → ivh5 a0 7 ≤ 204 + 4 * k; omega) (by show ivh5 a0 4 = iv a0 4; omega) (SBN.jlast hB2 hW hS Fb5 t_a0 (by omega) (Or.inl ⟨by omega, hTN.2.2.1 (by omega)⟩) (hTN.2.1 (by omega)) gf5.2 (by omega))
                · replace htn := (htn.resolve_left c18)
                  refine c_aload_n (j := 7) (x := a0) C dX6_setBy_141 rfl ?_
                  refine c_aload_n (j := 8) (x := a1) C dX6_setBy_142 rfl ?_
                  obtain ⟨rb3, rq3, trb3⟩ := W6.ref t_a1 6 rfl rfl rfl
                  have lnrb3 : 4 ≤ ln rb3 ∧ ln rb3 ≤ 4 := W6.len trb3 rfl
                  refine c_getr (k := 6) C ck_10 dX6_setBy_143 w2_195 (by decide) t_a1 rfl rfl (by decide) rfl rq3 ?_
                  refine c_st (st2 := [.ref rb3, .ref a0]) rfl ?_
                  refine c_iload_n (j := 3) C dX6_setBy_146 rfl ?_
                  refine c_if_eq (tgt := 154) C ⟨by omega, by omega⟩ dX6_setBy_147 (by decide) (fun _ => ?_) (fun z => absurd z (by omega))
                  refine c_iconst C dX6_setBy_154 ?_
                  have ll3 : 4 ≤ ln rb3 ∧ ln rb3 ≤ 4 := W6.len trb3 rfl
                  obtain ⟨nb4, nq4, tnb4⟩ := opt_n (W6.opt trb3 ((2 : Int).toNat) rfl rfl)
                  have tnb4 : ∀ b, nb4 = some b → ty L cl b 20 := tnb4
                  refine c_aaldR C dX6_setBy_155 trb3 rfl (by omega) (by omega) (by omega) nq4 ?_
                  refine c_st (st2 := [(va_rf nb4), .ref a0]) rfl ?_
                  refine c_iload (j := 5) C dX6_setBy_156 rfl ?_
                  refine hv2 (show 0 ≤ ivh5 a0 10 ∧ ivh5 a0 10 ≤ 500 from W6.int t_a0 10) (show 0 ≤ ivh5 a0 11 ∧ ivh5 a0 11 ≤ 500 from W6.int t_a0 11) (fun ri64 ri65 => ?_)
                  refine d_callV (As := [(va_rf nb4), .int (iI k)]) (rest := []) C hM (G_setTurn (a0 := a0) (r := nb4) (i := k) W6 hS t_a0 tnb4 (by omega) (by show ivh5 a0 7 ≤ 90000; omega)) dX6_setBy_158 kV_X6_82 rfl t_a0 rfl rfl (by decide) ck_7 rfl (Nat.le_of_ble_eq_true rfl) ⟨(Nat.le_of_ble_eq_true rfl), (Nat.le_of_ble_eq_true rfl)⟩ hph hph (show 0 + 0 = 0 from rfl) (by decide) (fun rh6 Lh6 clh6 lnh6 ivh6 rvh6 h6 => ?_)
                  obtain ⟨f6, rfl, rfl, rfl, rfl, rfl, fl6, W7, rgf6, exf6⟩ := h6
                  have F7 := F6.call hX0 fl6 rfl
                  refine c_st (st2 := [.int (iI f6)]) rfl ?_
                  refine hv5 (show 0 ≤ ivh6 a0 4 ∧ ivh6 a0 4 ≤ 500 from W7.int t_a0 4) (show 0 ≤ ivh6 a0 7 ∧ ivh6 a0 7 ≤ 100000 from W7.int t_a0 7) (show 0 ≤ ivh6 a0 10 ∧ ivh6 a0 10 ≤ 500 from W7.int t_a0 10) (show 0 ≤ ivh6 a0 11 ∧ ivh6 a0 11 ≤ 500 from W7.int t_a0 11) (show ((f6 = 0 ∨ f6 = 7) ∧ ivh6 a0 4 = ivh5 a0 4 ∧ ivh5 a0 7 ≤ ivh6 a0 7 ∧ ivh6 a0 7 ≤ ivh5 a0 7 + 4 ∧ ivh6 a0 10 = ivh5 a0 10 ∧ ivh6 a0 11 = ivh5 a0 11) ∧ STX ln ivh5 rv ivh6 a0 nb4 f6 from exf6) (fun ri66 ri67 ri68 ri69 gf6 => ?_)
                  refine c_istore (lv2 := [(8, .int (iI f6)), (6, .int (iI tn)), (7, (va_rf fs)), (3, .int (iI sc)), (4, .int (iI fr)), (5, .int (iI k)), (2, .int (iI 1)), (0, .ref a0), (1, .ref a1)]) C dX6_setBy_161 (by decide) (by cases fs <;> rfl) ?_
                  refine hv3 (show (-2147483648) ≤ ivh6 a1 0 ∧ ivh6 a1 0 ≤ 2147483647 from W7.int t_a1 0) (show ivh6 a1 0 = ivh5 a1 0 from fl6.i t_a1 rfl 0) (show ivh5 a1 0 = ivb5 a1 0 from fl5.i t_a1 rfl 0) (fun ri70 ie71 ie72 => ?_)
                  refine c_lv (lv2 := [(8, .int (iI f6)), (6, .int (iI tn)), (7, (va_rf fs)), (3, .int (iI sc)), (4, .int (iI fr)), (5, .int (iI k)), (2, .int (iI 1)), (0, .ref a0), (1, .ref a1)]) [0, 1, 2, 3, 4, 5, 6, 7, 8] rfl ?_
                  exact J4  f6 _  W7 F7  (by omega) (by show f6 = 0 → ivh6 a0 7 ≤ 204 + 4 * k; omega) (by show ivh6 a0 4 = iv a0 4; omega) (SBN.jturn hB2 hW hS Fb5 t_a0 (by omega) (Or.inl ⟨by omega, hTN.2.2.1 (by omega)⟩) ⟨by omega, by omega⟩ gf5.2 (hTN.1 (by omega)).2.2 (by omega) F6 rq3 (Or.inl ⟨by omega, nq4⟩) tnb4 gf6.2)
            · replace hsc := (hsc.resolve_left c16)
              refine c_aload_n (j := 7) (x := a1) C dX6_setBy_113 rfl ?_
              obtain ⟨nb5, nq5, tnb5⟩ := opt_n (Wb5.opt t_a1 3 rfl rfl)
              have tnb5 : ∀ b, nb5 = some b → ty L cl b 100 := tnb5
              refine c_getr (k := 3) C ck_10 dX6_setBy_114 w2_185 (by decide) t_a1 rfl rfl (by decide) rfl nq5 ?_
              refine c_st (st2 := [(va_rf nb5), .ref a0]) rfl ?_
              refine c_goto (tgt := 122) C dX6_setBy_117 (by decide) ?_
              refine c_iload (j := 3) C dX6_setBy_122 rfl ?_
              refine c_iload (j := 4) C dX6_setBy_124 rfl ?_
              refine hv4 (show (-2147483648) ≤ ivb5 a1 0 ∧ ivb5 a1 0 ≤ 2147483647 from Wb5.int t_a1 0) (show ivb5 a1 0 = iv a1 0 from Fb5.i t_a1 rfl 0) (show 0 ≤ ivb5 a0 7 ∧ ivb5 a0 7 ≤ 100000 from Wb5.int t_a0 7) (show 0 ≤ ivb5 a0 4 ∧ ivb5 a0 4 ≤ 500 from Wb5.int t_a0 4) (fun ri71 ie73 ri72 ri73 => ?_)
              refine d_callV (As := [(va_rf nb5), .int (iI fr), .int (iI k)]) (rest := []) C hM (G_setPart (a0 := a0) (r := nb5) (i := fr) (n := k) Wb5 hS t_a0 tnb5 (by omega) (by omega) (by show 0 ≤ fr ∧ fr ≤ 500 ∧ 0 ≤ k ∧ k ≤ 500 ∧ ivb5 a0 7 ≤ 50000; omega)) dX6_setBy_126 kV_X6_74 rfl t_a0 rfl rfl (by decide) ck_7 rfl (Nat.le_of_ble_eq_true rfl) ⟨(Nat.le_of_ble_eq_true rfl), (Nat.le_of_ble_eq_true rfl)⟩ hph hph (show 0 + 0 = 0 from rfl) (by decide) (fun rh7 Lh7 clh7 lnh7 ivh7 rvh7 h7 => ?_)
              obtain ⟨f7, rfl, rfl, rfl, rfl, rfl, fl7, W8, rgf7, exf7⟩ := h7
              have F8 := Fb5.call hX0 fl7 rfl
              refine c_st (st2 := [.int (iI f7)]) rfl ?_
              refine hv3 (show 0 ≤ ivh7 a0 4 ∧ ivh7 a0 4 ≤ 500 from W8.int t_a0 4) (show 0 ≤ ivh7 a0 7 ∧ ivh7 a0 7 ≤ 100000 from W8.int t_a0 7) (show ((f7 = 0 ∨ f7 = 6 ∨ f7 = 7) ∧ ivh7 a0 4 = ivb5 a0 4 ∧ ivh7 a0 7 ≤ ivb5 a0 7 + 208 ∧ (f7 = 0 → (ivh7 a0 7 ≤ ivb5 a0 7 ∨ ivh7 a0 7 ≤ 200))) ∧ SPX sk ln ivb5 rv ivh7 a0 nb5 fr k f7 from exf7) (fun ri74 ri75 gf7 => ?_)
              refine c_istore (lv2 := [(8, .int (iI f7)), (6, .int (iI tn)), (7, (va_rf fs)), (3, .int (iI sc)), (4, .int (iI fr)), (5, .int (iI k)), (2, .int (iI 1)), (0, .ref a0), (1, .ref a1)]) C dX6_setBy_129 (by decide) (by cases fs <;> rfl) ?_
              refine c_iload (j := 0) C dX6_setBy_131 rfl ?_
              refine c_if_ne (tgt := 163) C (r32_067 gf7.1.1) dX6_setBy_133 (by decide) (fun c19 => ?_) (fun c19 => ?_)
              · replace gf7 := (And.intro (And.intro (gf7.1.1.resolve_left c19) (And.intro gf7.1.2.1 (And.intro gf7.1.2.2.1 trivial))) gf7.2)
                refine hv2 (show (-2147483648) ≤ ivh7 a1 0 ∧ ivh7 a1 0 ≤ 2147483647 from W8.int t_a1 0) (show ivh7 a1 0 = ivb5 a1 0 from fl7.i t_a1 rfl 0) (fun ri76 ie78 => ?_)
                refine c_lv (lv2 := [(8, .int (iI f7)), (6, .int (iI tn)), (7, (va_rf fs)), (3, .int (iI sc)), (4, .int (iI fr)), (5, .int (iI k)), (2, .int (iI 1)), (0, .ref a0), (1, .ref a1)]) [0, 1, 2, 3, 4, 5, 6, 7, 8] rfl ?_
                exact J4  f7 _  W8 F8  (by omega) (by show f7 = 0 → ivh7 a0 7 ≤ 204 + 4 * k; omega) (by show ivh7 a0 4 = iv a0 4; omega) (SBN.jfail hB2 hW hS Fb5 t_a0 (by omega) (Or.inr ⟨by omega, nq5.symm⟩) ⟨by omega, by omega⟩ gf7.2 (by by_cases q : tn = 1; exact Or.inr (hTN.1 q).2.2; exact Or.inl (hTN.2.1 q)) (by omega))
              · replace gf7 := (And.intro (And.intro c19 (And.intro gf7.1.2.1 (And.intro gf7.1.2.2.1 (gf7.1.2.2.2 c19)))) gf7.2)
                refine c_iload (j := 1) C dX6_setBy_136 rfl ?_
                refine c_if_eq (tgt := 163) C (r32_01 htn) dX6_setBy_138 (by decide) (fun c20 => ?_) (fun c20 => ?_)
                · clear htn
                  clear htk
                  refine hv2 (show (-2147483648) ≤ ivh7 a1 0 ∧ ivh7 a1 0 ≤ 2147483647 from W8.int t_a1 0) (show ivh7 a1 0 = ivb5 a1 0 from fl7.i t_a1 rfl 0) (fun ri77 ie79 => ?_)
                  refine c_lv (lv2 := [(8, .int (iI f7)), (6, .int (iI tn)), (7, (va_rf fs)), (3, .int (iI sc)), (4, .int (iI fr)), (5, .int (iI k)), (2, .int (iI 1)), (0, .ref a0), (1, .ref a1)]) [0, 1, 2, 3, 4, 5, 6, 7, 8] rfl ?_
                  exact J4  f7 _  W8 F8  (by omega) (by show f7 = 0 → ivh7 a0 7 ≤ 204 + 4 * k; omega) (by show ivh7 a0 4 = iv a0 4; omega) (SBN.jlast hB2 hW hS Fb5 t_a0 (by omega) (Or.inr ⟨by omega, nq5.symm⟩) (hTN.2.1 (by omega)) gf7.2 (by omega))
                · replace htn := (htn.resolve_left c20)
                  refine c_aload_n (j := 7) (x := a0) C dX6_setBy_141 rfl ?_
                  refine c_aload_n (j := 8) (x := a1) C dX6_setBy_142 rfl ?_
                  obtain ⟨rb4, rq4, trb4⟩ := W8.ref t_a1 6 rfl rfl rfl
                  have lnrb4 : 4 ≤ ln rb4 ∧ ln rb4 ≤ 4 := W8.len trb4 rfl
                  refine c_getr (k := 6) C ck_10 dX6_setBy_143 w2_195 (by decide) t_a1 rfl rfl (by decide) rfl rq4 ?_
                  refine c_st (st2 := [.ref rb4, .ref a0]) rfl ?_
                  refine c_iload_n (j := 3) C dX6_setBy_146 rfl ?_
                  refine c_if_eq (tgt := 154) C ⟨by omega, by omega⟩ dX6_setBy_147 (by decide) (fun z => absurd z (by omega)) (fun _ => ?_)
                  refine c_iconst C dX6_setBy_150 ?_
                  refine c_goto (tgt := 155) C dX6_setBy_151 (by decide) ?_
                  have ll4 : 4 ≤ ln rb4 ∧ ln rb4 ≤ 4 := W8.len trb4 rfl
                  obtain ⟨nb6, nq6, tnb6⟩ := opt_n (W8.opt trb4 ((3 : Int).toNat) rfl rfl)
                  have tnb6 : ∀ b, nb6 = some b → ty L cl b 20 := tnb6
                  refine c_aaldR C dX6_setBy_155 trb4 rfl (by omega) (by omega) (by omega) nq6 ?_
                  refine c_st (st2 := [(va_rf nb6), .ref a0]) rfl ?_
                  refine c_iload (j := 5) C dX6_setBy_156 rfl ?_
                  refine hv2 (show 0 ≤ ivh7 a0 10 ∧ ivh7 a0 10 ≤ 500 from W8.int t_a0 10) (show 0 ≤ ivh7 a0 11 ∧ ivh7 a0 11 ≤ 500 from W8.int t_a0 11) (fun ri78 ri79 => ?_)
                  refine d_callV (As := [(va_rf nb6), .int (iI k)]) (rest := []) C hM (G_setTurn (a0 := a0) (r := nb6) (i := k) W8 hS t_a0 tnb6 (by omega) (by show ivh7 a0 7 ≤ 90000; omega)) dX6_setBy_158 kV_X6_82 rfl t_a0 rfl rfl (by decide) ck_7 rfl (Nat.le_of_ble_eq_true rfl) ⟨(Nat.le_of_ble_eq_true rfl), (Nat.le_of_ble_eq_true rfl)⟩ hph hph (show 0 + 0 = 0 from rfl) (by decide) (fun rh8 Lh8 clh8 lnh8 ivh8 rvh8 h8 => ?_)
                  obtain ⟨f8, rfl, rfl, rfl, rfl, rfl, fl8, W9, rgf8, exf8⟩ := h8
                  have F9 := F8.call hX0 fl8 rfl
                  refine c_st (st2 := [.int (iI f8)]) rfl ?_
                  refine hv5 (show 0 ≤ ivh8 a0 4 ∧ ivh8 a0 4 ≤ 500 from W9.int t_a0 4) (show 0 ≤ ivh8 a0 7 ∧ ivh8 a0 7 ≤ 100000 from W9.int t_a0 7) (show 0 ≤ ivh8 a0 10 ∧ ivh8 a0 10 ≤ 500 from W9.int t_a0 10) (show 0 ≤ ivh8 a0 11 ∧ ivh8 a0 11 ≤ 500 from W9.int t_a0 11) (show ((f8 = 0 ∨ f8 = 7) ∧ ivh8 a0 4 = ivh7 a0 4 ∧ ivh7 a0 7 ≤ ivh8 a0 7 ∧ ivh8 a0 7 ≤ ivh7 a0 7 + 4 ∧ ivh8 a0 10 = ivh7 a0 10 ∧ ivh8 a0 11 = ivh7 a0 11) ∧ STX ln ivh7 rv ivh8 a0 nb6 f8 from exf8) (fun ri80 ri81 ri82 ri83 gf8 => ?_)
                  refine c_istore (lv2 := [(8, .int (iI f8)), (6, .int (iI tn)), (7, (va_rf fs)), (3, .int (iI sc)), (4, .int (iI fr)), (5, .int (iI k)), (2, .int (iI 1)), (0, .ref a0), (1, .ref a1)]) C dX6_setBy_161 (by decide) (by cases fs <;> rfl) ?_
                  refine hv3 (show (-2147483648) ≤ ivh8 a1 0 ∧ ivh8 a1 0 ≤ 2147483647 from W9.int t_a1 0) (show ivh8 a1 0 = ivh7 a1 0 from fl8.i t_a1 rfl 0) (show ivh7 a1 0 = ivb5 a1 0 from fl7.i t_a1 rfl 0) (fun ri84 ie86 ie87 => ?_)
                  refine c_lv (lv2 := [(8, .int (iI f8)), (6, .int (iI tn)), (7, (va_rf fs)), (3, .int (iI sc)), (4, .int (iI fr)), (5, .int (iI k)), (2, .int (iI 1)), (0, .ref a0), (1, .ref a1)]) [0, 1, 2, 3, 4, 5, 6, 7, 8] rfl ?_
                  exact J4  f8 _  W9 F9  (by omega) (by show f8 = 0 → ivh8 a0 7 ≤ 204 + 4 * k; omega) (by show ivh8 a0 4 = iv a0 4; omega) (SBN.jturn hB2 hW hS Fb5 t_a0 (by omega) (Or.inr ⟨by omega, nq5.symm⟩) ⟨by omega, by omega⟩ gf7.2 (hTN.1 (by omega)).2.2 (by omega) F8 rq4 (Or.inr ⟨by omega, nq6⟩) tnb6 gf8.2)
          refine c_iload_n (j := 3) C dX6_setBy_36 rfl ?_
          refine c_if_eq (tgt := 74) C ⟨by decide, by decide⟩ dX6_setBy_37 (by decide) (fun z => absurd z (by omega)) (fun _ => ?_)
          refine c_iload (j := 2) C dX6_setBy_40 rfl ?_
          refine c_aload_n (j := 4) (x := a0) C dX6_setBy_42 rfl ?_
          refine c_get (k := 4) C ck_7 dX6_setBy_43 w1_140 (by decide) t_a0 rfl rfl (by decide) rfl ?_
          refine c_icmp_ge (tgt := 74) C ⟨by omega, by omega⟩ (r32_c (lo := 0) (hi := 500) ri47.1 ri47.2 (by decide) (by decide)) dX6_setBy_46 (by decide) (fun c21 => ?_) (fun c21 => ?_)
          · refine c_iconst C dX6_setBy_74 ?_
            refine c_istore (lv2 := [(6, .int (iI 0)), (3, .int (iI sc)), (4, .int (iI fr)), (5, .int (iI k)), (2, .int (iI 1)), (0, .ref a0), (1, .ref a1)]) C dX6_setBy_75 (by decide) rfl ?_
            refine c_iload (j := 3) C dX6_setBy_77 rfl ?_
            refine c_aload_n (j := 5) (x := a0) C dX6_setBy_79 rfl ?_
            refine c_get (k := 4) C ck_7 dX6_setBy_80 w1_140 (by decide) t_a0 rfl rfl (by decide) rfl ?_
            refine c_icmp_ge (tgt := 94) C ⟨by omega, by omega⟩ (r32_c (lo := 0) (hi := 500) ri47.1 ri47.2 (by decide) (by decide)) dX6_setBy_83 (by decide) (fun _ => ?_) (fun z => absurd z (by omega))
            refine c_iload_n (j := 4) C dX6_setBy_94 rfl ?_
            refine c_if_eq (tgt := 105) C ⟨by decide, by decide⟩ dX6_setBy_95 (by decide) (fun z => absurd z (by omega)) (fun _ => ?_)
            refine c_aload_n (j := 6) (x := a1) C dX6_setBy_98 rfl ?_
            obtain ⟨nb7, nq7, tnb7⟩ := opt_n (Wb4.opt t_a1 2 rfl rfl)
            have tnb7 : ∀ b, nb7 = some b → ty L cl b 100 := tnb7
            refine c_getr (k := 2) C ck_10 dX6_setBy_99 w2_182 (by decide) t_a1 rfl rfl (by decide) rfl nq7 ?_
            refine c_st (st2 := [(va_rf nb7)]) rfl ?_
            refine c_goto (tgt := 106) C dX6_setBy_102 (by decide) ?_
            refine c_astorer (r := nb7) (lv2 := [(7, (va_rf nb7)), (6, .int (iI 0)), (3, .int (iI sc)), (4, .int (iI fr)), (5, .int (iI k)), (2, .int (iI 1)), (0, .ref a0), (1, .ref a1)]) C dX6_setBy_106 (by decide) rfl ?_
            refine hv3 (show 0 ≤ ivb4 a0 7 ∧ ivb4 a0 7 ≤ 100000 from Wb4.int t_a0 7) (show (-2147483648) ≤ ivb4 a1 0 ∧ ivb4 a1 0 ≤ 2147483647 from Wb4.int t_a1 0) (show ivb4 a1 0 = iv a1 0 from Fb4.i t_a1 rfl 0) (fun ri85 ri86 ie89 => ?_)
            refine c_lv (lv2 := [(6, .int (iI 0)), (7, (va_rf nb7)), (3, .int (iI sc)), (4, .int (iI fr)), (5, .int (iI k)), (2, .int (iI 1)), (0, .ref a0), (1, .ref a1)]) [1, 0, 2, 3, 4, 5, 6, 7] rfl ?_
            exact J3  nb7 0 _  Wb4 Fb4 tnb7 (by omega) (by omega) (fun q => absurd q (by omega)) (by show ivb4 a0 7 ≤ 200 + 4 * k; omega) hc4 ⟨(fun q => absurd q (by decide)), (fun _ => by omega), (fun _ => nq7.symm), (fun q => by exfalso; omega)⟩ hB
          · refine c_aload_n (j := 4) (x := a0) C dX6_setBy_49 rfl ?_
            obtain ⟨rb5, rq5, trb5⟩ := Wb4.ref t_a0 0 rfl rfl rfl
            have lnrb5 : 500 ≤ ln rb5 ∧ ln rb5 ≤ 500 := Wb4.len trb5 rfl
            refine c_getr (k := 0) C ck_7 dX6_setBy_50 w1_136 (by decide) t_a0 rfl rfl (by decide) rfl rq5 ?_
            refine c_st (st2 := [.ref rb5]) rfl ?_
            refine c_iload (j := 2) C dX6_setBy_53 rfl ?_
            have ll5 : 500 ≤ ln rb5 ∧ ln rb5 ≤ 500 := Wb4.len trb5 rfl
            refine c_iald C dX6_setBy_55 trb5 rfl (by omega) (by omega) (by omega) ?_
            refine hv2 (show (-2147483648) ≤ ivb4 rb5 k.toNat ∧ ivb4 rb5 k.toNat ≤ 2147483647 from Wb4.int trb5 k.toNat) (show ivb4 rb5 k.toNat = iv rb5 k.toNat from Fb4.i trb5 rfl k.toNat) (fun ri87 ie90 => ?_)
            refine c_iload_n (j := 0) C dX6_setBy_56 rfl ?_
            refine c_if_eq (tgt := 65) C (r32_01 hsc) dX6_setBy_57 (by decide) (fun c22 => ?_) (fun c22 => ?_)
            · clear hsc
              refine c_bipush (z := 60) C dX6_setBy_65 (by decide) ?_
              refine c_icmp_ne (tgt := 74) C (r32_c (lo := (-2147483648)) (hi := 2147483647) ri87.1 ri87.2 (by decide) (by decide)) ⟨by decide, by decide⟩ dX6_setBy_67 (by decide) (fun c23 => ?_) (fun c23 => ?_)
              · refine c_iconst C dX6_setBy_74 ?_
                refine c_istore (lv2 := [(6, .int (iI 0)), (3, .int (iI sc)), (4, .int (iI fr)), (5, .int (iI k)), (2, .int (iI 1)), (0, .ref a0), (1, .ref a1)]) C dX6_setBy_75 (by decide) rfl ?_
                refine c_iload (j := 3) C dX6_setBy_77 rfl ?_
                refine c_aload_n (j := 5) (x := a0) C dX6_setBy_79 rfl ?_
                refine c_get (k := 4) C ck_7 dX6_setBy_80 w1_140 (by decide) t_a0 rfl rfl (by decide) rfl ?_
                refine c_icmp_ge (tgt := 94) C ⟨by omega, by omega⟩ (r32_c (lo := 0) (hi := 500) ri47.1 ri47.2 (by decide) (by decide)) dX6_setBy_83 (by decide) (fun z => absurd z (by omega)) (fun _ => ?_)
                refine c_iload (j := 0) C dX6_setBy_86 rfl ?_
                refine c_if_ne (tgt := 94) C ⟨by decide, by decide⟩ dX6_setBy_88 (by decide) (fun z => absurd z (by omega)) (fun _ => ?_)
                refine c_goto (tgt := 187) C dX6_setBy_91 (by decide) ?_
                refine c_iinc (z := k) (j := 3) (lv2 := [(5, .int (iI (k + 1))), (6, .int (iI 0)), (3, .int (iI sc)), (4, .int (iI fr)), (2, .int (iI 1)), (0, .ref a0), (1, .ref a1)]) C dX6_setBy_187 rfl (by decide) rfl ?_
                refine c_goto (tgt := 27) C dX6_setBy_190 (by decide) ?_
                refine hv3 (show 0 ≤ ivb4 a0 7 ∧ ivb4 a0 7 ≤ 100000 from Wb4.int t_a0 7) (show (-2147483648) ≤ ivb4 a1 0 ∧ ivb4 a1 0 ≤ 2147483647 from Wb4.int t_a1 0) (show ivb4 a1 0 = iv a1 0 from Fb4.i t_a1 rfl 0) (fun ri88 ri89 ie92 => ?_)
                refine c_lv (lv2 := [(3, .int (iI sc)), (4, .int (iI fr)), (5, .int (iI (k + 1))), (2, .int (iI 1)), (0, .ref a0), (1, .ref a1)]) [2, 3, 0, 4, 5, 6] rfl ?_
                exact ih2  sc fr (k + 1) _ (by omega) Wb4 Fb4  (by omega) (by omega) (by omega) (by show ivb4 a0 7 ≤ 200 + 4 * (k + 1); omega) hc4 (hB.skip (by omega) (by omega) (Or.inr ⟨_, rq5, (by unfold sgj; split <;> omega)⟩))
              · refine c_iconst C dX6_setBy_70 ?_
                refine c_goto (tgt := 75) C dX6_setBy_71 (by decide) ?_
                refine c_istore (lv2 := [(6, .int (iI 1)), (3, .int (iI sc)), (4, .int (iI fr)), (5, .int (iI k)), (2, .int (iI 1)), (0, .ref a0), (1, .ref a1)]) C dX6_setBy_75 (by decide) rfl ?_
                refine c_iload (j := 3) C dX6_setBy_77 rfl ?_
                refine c_aload_n (j := 5) (x := a0) C dX6_setBy_79 rfl ?_
                refine c_get (k := 4) C ck_7 dX6_setBy_80 w1_140 (by decide) t_a0 rfl rfl (by decide) rfl ?_
                refine c_icmp_ge (tgt := 94) C ⟨by omega, by omega⟩ (r32_c (lo := 0) (hi := 500) ri47.1 ri47.2 (by decide) (by decide)) dX6_setBy_83 (by decide) (fun z => absurd z (by omega)) (fun _ => ?_)
                refine c_iload (j := 0) C dX6_setBy_86 rfl ?_
                refine c_if_ne (tgt := 94) C ⟨by decide, by decide⟩ dX6_setBy_88 (by decide) (fun _ => ?_) (fun z => absurd z (by omega))
                refine c_iload_n (j := 4) C dX6_setBy_94 rfl ?_
                refine c_if_eq (tgt := 105) C ⟨by decide, by decide⟩ dX6_setBy_95 (by decide) (fun z => absurd z (by omega)) (fun _ => ?_)
                refine c_aload_n (j := 6) (x := a1) C dX6_setBy_98 rfl ?_
                obtain ⟨nb8, nq8, tnb8⟩ := opt_n (Wb4.opt t_a1 2 rfl rfl)
                have tnb8 : ∀ b, nb8 = some b → ty L cl b 100 := tnb8
                refine c_getr (k := 2) C ck_10 dX6_setBy_99 w2_182 (by decide) t_a1 rfl rfl (by decide) rfl nq8 ?_
                refine c_st (st2 := [(va_rf nb8)]) rfl ?_
                refine c_goto (tgt := 106) C dX6_setBy_102 (by decide) ?_
                refine c_astorer (r := nb8) (lv2 := [(7, (va_rf nb8)), (6, .int (iI 1)), (3, .int (iI sc)), (4, .int (iI fr)), (5, .int (iI k)), (2, .int (iI 1)), (0, .ref a0), (1, .ref a1)]) C dX6_setBy_106 (by decide) rfl ?_
                refine hv3 (show 0 ≤ ivb4 a0 7 ∧ ivb4 a0 7 ≤ 100000 from Wb4.int t_a0 7) (show (-2147483648) ≤ ivb4 a1 0 ∧ ivb4 a1 0 ≤ 2147483647 from Wb4.int t_a1 0) (show ivb4 a1 0 = iv a1 0 from Fb4.i t_a1 rfl 0) (fun ri90 ri91 ie94 => ?_)
                refine c_lv (lv2 := [(6, .int (iI 1)), (7, (va_rf nb8)), (3, .int (iI sc)), (4, .int (iI fr)), (5, .int (iI k)), (2, .int (iI 1)), (0, .ref a0), (1, .ref a1)]) [1, 0, 2, 3, 4, 5, 6, 7] rfl ?_
                exact J3  nb8 1 _  Wb4 Fb4 tnb8 (by omega) (by omega) (fun _ => by omega) (by show ivb4 a0 7 ≤ 200 + 4 * k; omega) hc4 ⟨(fun _ => ⟨by omega, by omega, _, rq5, (by unfold sgj; split <;> omega)⟩), (fun q => absurd rfl q), (fun _ => nq8.symm), (fun q => by exfalso; omega)⟩ hB
            · replace hsc := (hsc.resolve_left c22)
              refine c_bipush (z := 62) C dX6_setBy_60 (by decide) ?_
              refine c_goto (tgt := 67) C dX6_setBy_62 (by decide) ?_
              refine c_icmp_ne (tgt := 74) C (r32_c (lo := (-2147483648)) (hi := 2147483647) ri87.1 ri87.2 (by decide) (by decide)) ⟨by decide, by decide⟩ dX6_setBy_67 (by decide) (fun c24 => ?_) (fun c24 => ?_)
              · refine c_iconst C dX6_setBy_74 ?_
                refine c_istore (lv2 := [(6, .int (iI 0)), (3, .int (iI sc)), (4, .int (iI fr)), (5, .int (iI k)), (2, .int (iI 1)), (0, .ref a0), (1, .ref a1)]) C dX6_setBy_75 (by decide) rfl ?_
                refine c_iload (j := 3) C dX6_setBy_77 rfl ?_
                refine c_aload_n (j := 5) (x := a0) C dX6_setBy_79 rfl ?_
                refine c_get (k := 4) C ck_7 dX6_setBy_80 w1_140 (by decide) t_a0 rfl rfl (by decide) rfl ?_
                refine c_icmp_ge (tgt := 94) C ⟨by omega, by omega⟩ (r32_c (lo := 0) (hi := 500) ri47.1 ri47.2 (by decide) (by decide)) dX6_setBy_83 (by decide) (fun z => absurd z (by omega)) (fun _ => ?_)
                refine c_iload (j := 0) C dX6_setBy_86 rfl ?_
                refine c_if_ne (tgt := 94) C ⟨by decide, by decide⟩ dX6_setBy_88 (by decide) (fun z => absurd z (by omega)) (fun _ => ?_)
                refine c_goto (tgt := 187) C dX6_setBy_91 (by decide) ?_
                refine c_iinc (z := k) (j := 3) (lv2 := [(5, .int (iI (k + 1))), (6, .int (iI 0)), (3, .int (iI sc)), (4, .int (iI fr)), (2, .int (iI 1)), (0, .ref a0), (1, .ref a1)]) C dX6_setBy_187 rfl (by decide) rfl ?_
                refine c_goto (tgt := 27) C dX6_setBy_190 (by decide) ?_
                refine hv3 (show 0 ≤ ivb4 a0 7 ∧ ivb4 a0 7 ≤ 100000 from Wb4.int t_a0 7) (show (-2147483648) ≤ ivb4 a1 0 ∧ ivb4 a1 0 ≤ 2147483647 from Wb4.int t_a1 0) (show ivb4 a1 0 = iv a1 0 from Fb4.i t_a1 rfl 0) (fun ri92 ri93 ie96 => ?_)
                refine c_lv (lv2 := [(3, .int (iI sc)), (4, .int (iI fr)), (5, .int (iI (k + 1))), (2, .int (iI 1)), (0, .ref a0), (1, .ref a1)]) [2, 3, 0, 4, 5, 6] rfl ?_
                exact ih2  sc fr (k + 1) _ (by omega) Wb4 Fb4  (by omega) (by omega) (by omega) (by show ivb4 a0 7 ≤ 200 + 4 * (k + 1); omega) hc4 (hB.skip (by omega) (by omega) (Or.inr ⟨_, rq5, (by unfold sgj; split <;> omega)⟩))
              · refine c_iconst C dX6_setBy_70 ?_
                refine c_goto (tgt := 75) C dX6_setBy_71 (by decide) ?_
                refine c_istore (lv2 := [(6, .int (iI 1)), (3, .int (iI sc)), (4, .int (iI fr)), (5, .int (iI k)), (2, .int (iI 1)), (0, .ref a0), (1, .ref a1)]) C dX6_setBy_75 (by decide) rfl ?_
                refine c_iload (j := 3) C dX6_setBy_77 rfl ?_
                refine c_aload_n (j := 5) (x := a0) C dX6_setBy_79 rfl ?_
                refine c_get (k := 4) C ck_7 dX6_setBy_80 w1_140 (by decide) t_a0 rfl rfl (by decide) rfl ?_
                refine c_icmp_ge (tgt := 94) C ⟨by omega, by omega⟩ (r32_c (lo := 0) (hi := 500) ri47.1 ri47.2 (by decide) (by decide)) dX6_setBy_83 (by decide) (fun z => absurd z (by omega)) (fun _ => ?_)
                refine c_iload (j := 0) C dX6_setBy_86 rfl ?_
                refine c_if_ne (tgt := 94) C ⟨by decide, by decide⟩ dX6_setBy_88 (by decide) (fun _ => ?_) (fun z => absurd z (by omega))
                refine c_iload_n (j := 4) C dX6_setBy_94 rfl ?_
                refine c_if_eq (tgt := 105) C ⟨by decide, by decide⟩ dX6_setBy_95 (by decide) (fun z => absurd z (by omega)) (fun _ => ?_)
                refine c_aload_n (j := 6) (x := a1) C dX6_setBy_98 rfl ?_
                obtain ⟨nb9, nq9, tnb9⟩ := opt_n (Wb4.opt t_a1 2 rfl rfl)
                have tnb9 : ∀ b, nb9 = some b → ty L cl b 100 := tnb9
                refine c_getr (k := 2) C ck_10 dX6_setBy_99 w2_182 (by decide) t_a1 rfl rfl (by decide) rfl nq9 ?_
                refine c_st (st2 := [(va_rf nb9)]) rfl ?_
                refine c_goto (tgt := 106) C dX6_setBy_102 (by decide) ?_
                refine c_astorer (r := nb9) (lv2 := [(7, (va_rf nb9)), (6, .int (iI 1)), (3, .int (iI sc)), (4, .int (iI fr)), (5, .int (iI k)), (2, .int (iI 1)), (0, .ref a0), (1, .ref a1)]) C dX6_setBy_106 (by decide) rfl ?_
                refine hv3 (show 0 ≤ ivb4 a0 7 ∧ ivb4 a0 7 ≤ 100000 from Wb4.int t_a0 7) (show (-2147483648) ≤ ivb4 a1 0 ∧ ivb4 a1 0 ≤ 2147483647 from Wb4.int t_a1 0) (show ivb4 a1 0 = iv a1 0 from Fb4.i t_a1 rfl 0) (fun ri94 ri95 ie98 => ?_)
                refine c_lv (lv2 := [(6, .int (iI 1)), (7, (va_rf nb9)), (3, .int (iI sc)), (4, .int (iI fr)), (5, .int (iI k)), (2, .int (iI 1)), (0, .ref a0), (1, .ref a1)]) [1, 0, 2, 3, 4, 5, 6, 7] rfl ?_
                exact J3  nb9 1 _  Wb4 Fb4 tnb9 (by omega) (by omega) (fun _ => by omega) (by show ivb4 a0 7 ≤ 200 + 4 * k; omega) hc4 ⟨(fun _ => ⟨by omega, by omega, _, rq5, (by unfold sgj; split <;> omega)⟩), (fun q => absurd rfl q), (fun _ => nq9.symm), (fun q => by exfalso; omega)⟩ hB
    refine hv4 (show 0 ≤ iv1 a0 7 ∧ iv1 a0 7 ≤ 100000 from W1.int t_a0 7) (show iv1 a0 7 = 0 from by rw [pq1]; exact up2_s) (show 0 ≤ iv1 a0 4 ∧ iv1 a0 4 ≤ 500 from W1.int t_a0 4) (show iv1 a0 4 = iv a0 4 from by rw [pq1]; exact up2_j (by decide)) (fun ri96 ie99 ri97 ie100 => ?_)
    refine c_lv (lv2 := [(3, .int (iI 0)), (4, .int (iI 0)), (5, .int (iI 0)), (2, .int (iI 1)), (0, .ref a0), (1, .ref a1)]) [2, 1, 0, 3, 4, 5] rfl ?_
    exact Lp2 503 0 0 0 _ (by omega) W1 F1  (by omega) (by omega) (by omega) (by show iv1 a0 7 ≤ 200 + 4 * 0; omega) ie100 (SBI.init pq1 (by omega))
end
section
def PTL (iv : Nat → Nat → Int) (rv : Nat → Nat → Option Nat) (iv2 : Nat → Nat → Int) (s : Nat) (x : Int) : Prop := iv s 4 < 500 → iv2 s 4 = iv s 4 + 1 ∧ ∀ lb, rv s 0 = some lb → iv2 lb (iv s 4).toNat = x ∧ ∀ j : Nat, (j : Int) < iv s 4 → iv2 lb j = iv lb j
section HROW
variable {h : Nat} {sk : Nat → Nat} {L L1 : List Nat} {cl ln cl1 ln1 : Nat → Nat} {iv iv1 iv2 iv3 iv4 iv5 : Nat → Nat → Int} {rv rv1 : Nat → Nat → Option Nat} {W : Nat → Int} {s lb pb bb i2 i3 b : Nat} {x y p k f fl f2 i wd m z2 z3 z4 : Int} {ls : List Nat}
theorem PTL.mk (h0 : rv s 0 = some lb) (e1 : iv1 = up2 iv lb p.toNat x) (e2 : iv2 = up2 iv1 pb i2 z2) (e3 : iv3 = up2 iv2 bb i3 z3) (e4 : iv4 = up2 iv3 s 5 z4) (e5 : iv5 = up2 iv4 s 4 y) (hp : p = iv s 4) (hy : y = iv s 4 + 1) (h4 : 0 ≤ iv s 4) (n1 : lb ≠ pb) (n2 : lb ≠ bb) (n3 : lb ≠ s) : PTL iv rv iv5 s x := fun _ => by
  refine ⟨by rw [e5, up2_s]; exact hy, fun lb' hb => ?_⟩
  rw [h0] at hb; cases hb
  subst hp
  refine ⟨?_, fun j hj => ?_⟩
  · rw [e5, up2_k n3, e4, up2_k n3, e3, up2_k n2, e2, up2_k n1, e1, up2_s]
  · rw [e5, up2_k n3, e4, up2_k n3, e3, up2_k n2, e2, up2_k n1, e1, up2_j (by omega)]
theorem PTL.full (h4 : 500 ≤ iv s 4) : PTL iv rv iv1 s x := fun e => absurd e (by omega)
theorem LTW.put (hl : LTW iv rv s W 0 k) (p : PTL iv rv iv2 s x) (h4 : iv s 4 = k) (hk : 0 ≤ k ∧ k < 500) (hx : x = W k.toNat) : LTW iv2 rv s W 0 (k + 1) := fun lb hb j h1 h2 => by
  obtain ⟨q1, q2⟩ := (p (by omega)).2 lb hb
  by_cases c : j < k
  · rw [q2 j.toNat (by omega)]; exact hl lb hb j h1 c
  · have e : iv2 lb k.toNat = x := by
      rw [← h4]; exact q1
    rw [show j = k by omega, e]; exact hx
end HROW
end
section
def PWH (iv : Nat → Nat → Int) (rv : Nat → Nat → Option Nat) (s : Nat) (w : List (Int × Nat × Int)) : Prop := iv s 4 = ((w.length : Nat) : Int) ∧ ∀ lb pb bb, rv s 0 = some lb → rv s 1 = some pb → rv s 2 = some bb → ∀ (j : Nat) (x : Int × Nat × Int), w[j]? = some x → iv lb j = x.1 ∧ iv pb j = ((x.2.1 : Nat) : Int) ∧ (1 ≤ j → iv bb j = x.2.2)
def PT2 (iv : Nat → Nat → Int) (rv : Nat → Nat → Option Nat) (iv2 : Nat → Nat → Int) (s : Nat) (x y : Int) : Prop := iv s 4 < 500 → iv2 s 4 = iv s 4 + 1 ∧ iv2 s 5 = 0 ∧ ∀ lb pb bb, rv s 0 = some lb → rv s 1 = some pb → rv s 2 = some bb → (iv2 lb (iv s 4).toNat = x ∧ iv2 pb (iv s 4).toNat = y ∧ iv2 bb (iv s 4).toNat = iv s 5) ∧ ∀ j : Nat, (j : Int) < iv s 4 → iv2 lb j = iv lb j ∧ iv2 pb j = iv pb j ∧ iv2 bb j = iv bb j
def PTK (iv : Nat → Nat → Int) (rv : Nat → Nat → Option Nat) (iv1 : Nat → Nat → Int) (q c s : Nat) : Prop := ∀ tt, CT iv rv q tt → ∃ w, TKI tt (iv q 2) (iv c 0) (iv1 c 0) (iv1 s 5) w ∧ PWH iv1 rv s w
def PTN (iv : Nat → Nat → Int) (rv : Nat → Nat → Option Nat) (iv1 : Nat → Nat → Int) (q c s : Nat) : Prop := ∀ tt, CT iv rv q tt → ∃ w, TKI tt (iv q 2) (iv c 0) (iv1 c 0 + 1) (iv1 s 5) w ∧ PWH iv1 rv s w
def STP (iv : Nat → Nat → Int) (rv : Nat → Nat → Option Nat) (iv2 : Nat → Nat → Int) (q c s : Nat) (f : Int) : Prop := ∀ tt, CT iv rv q tt → (iv c 1 = 0 → (iv q 2 ≤ iv c 0 ∧ f = 0 ∧ iv2 c 0 = iv c 0 ∧ iv2 c 1 = 0) ∨ (iv c 0 < iv q 2 ∧ f = 1 ∧ iv2 c 1 = 1 ∧ ((tt (iv c 0).toNat = 94 ∧ iv2 c 0 = iv c 0 + 1 ∧ iv2 c 2 = 1) ∨ (tt (iv c 0).toNat ≠ 94 ∧ iv2 c 0 = iv c 0 ∧ iv2 c 2 = 0)))) ∧ (iv c 1 ≠ 0 → ∃ (P : Int) (w : List (Int × Nat × Int)), 0 ≤ P ∧ TWF tt (iv q 2) (iv c 0) = (P.toNat, w) ∧ iv2 c 2 = iv c 2 ∧ ((w.length ≠ 0 ∧ f = 2 ∧ iv2 c 0 = P ∧ iv2 c 1 = iv c 1 ∧ PWH iv2 rv s w) ∨ (w.length = 0 ∧ f = 3 ∧ iv2 c 0 = P + 1 ∧ iv2 c 1 = 0)))
section WROW
variable {h : Nat} {sk : Nat → Nat} {L : List Nat} {cl ln : Nat → Nat} {iv iv1 iv2 iv3 iv4 iv5 : Nat → Nat → Int} {rv : Nat → Nat → Option Nat} {s q c lb pb bb : Nat} {x y p b f z5 z4 p2 p3 : Int} {ls : List Nat} {w : List (Int × Nat × Int)} {tt : Nat → Int}
theorem PT2.mk (h0 : rv s 0 = some lb) (h1 : rv s 1 = some pb) (h2 : rv s 2 = some bb) (e1 : iv1 = up2 iv lb p.toNat x) (e2 : iv2 = up2 iv1 pb p2.toNat y) (e3 : iv3 = up2 iv2 bb p3.toNat b) (e4 : iv4 = up2 iv3 s 5 0) (e5 : iv5 = up2 iv4 s 4 z4) (hp : p = iv s 4) (hp2 : p2 = iv s 4) (hp3 : p3 = iv s 4) (hb : b = iv s 5) (hy : z4 = iv s 4 + 1) (h4 : 0 ≤ iv s 4) (n1 : lb ≠ pb) (n2 : lb ≠ bb) (n3 : lb ≠ s) (n4 : pb ≠ bb) (n5 : pb ≠ s) (n6 : bb ≠ s) : PT2 iv rv iv5 s x y := fun _ => by
  refine ⟨by rw [e5, up2_s]; exact hy, by rw [e5, up2_j (by decide), e4, up2_s], fun lb' pb' bb' g0 g1 g2 => ?_⟩
  rw [h0] at g0; cases g0
  rw [h1] at g1; cases g1
  rw [h2] at g2; cases g2
  subst hp
  subst hp2
  subst hp3
  refine hv3 (show ∀ j, iv5 lb j = up2 iv lb (iv s 4).toNat x lb j from fun j => by rw [e5, up2_k n3, e4, up2_k n3, e3, up2_k n2, e2, up2_k n1, e1]) (show ∀ j, iv5 pb j = up2 iv1 pb (iv s 4).toNat y pb j from fun j => by rw [e5, up2_k n5, e4, up2_k n5, e3, up2_k n4, e2]) (show ∀ j, iv5 bb j = up2 iv2 bb (iv s 4).toNat b bb j from fun j => by rw [e5, up2_k n6, e4, up2_k n6, e3]) (fun kl kp kb => ?_)
  refine ⟨⟨by rw [kl, up2_s], by rw [kp, up2_s], by rw [kb, up2_s]; exact hb⟩, fun j hj => ⟨by rw [kl, up2_j (by omega)], ?_, ?_⟩⟩
  · rw [kp, up2_j (by omega), e1, up2_k (fun e => n1 e.symm)]
  · rw [kb, up2_j (by omega), e2, up2_k (fun e => n4 e.symm), e1, up2_k (fun e => n2 e.symm)]
theorem PT2.full (h4 : 500 ≤ iv s 4) : PT2 iv rv iv1 s x y := fun e => absurd e (by omega)
theorem PWH.nil (h4 : iv s 4 = 0) : PWH iv rv s [] := ⟨h4, fun _ _ _ _ _ _ j x e => by simp at e⟩
theorem PWH.put (hw : PWH iv rv s w) (p : PT2 iv rv iv2 s x y) (hl : iv s 4 < 500) {pp : Nat} (hy : y = ((pp : Nat) : Int)) : PWH iv2 rv s (w ++ [(x, pp, iv s 5)]) := by
  obtain ⟨h1, h2⟩ := hw
  obtain ⟨p1, _, p3⟩ := p hl
  have e0 : (w ++ [(x, pp, iv s 5)]).length = w.length + 1 := by rw [List.length_append]; rfl
  refine ⟨by omega, fun lb pb bb g0 g1 g2 j z e => ?_⟩
  obtain ⟨⟨q1, q2, q3⟩, q4⟩ := p3 lb pb bb g0 g1 g2
  have lt := gl3 e
  by_cases c : j < w.length
  · rw [List.getElem?_append_left c] at e
    obtain ⟨k1, k2, k3⟩ := q4 j (by omega)
    rw [k1, k2, k3]
    exact h2 lb pb bb g0 g1 g2 j z e
  · rw [List.getElem?_append_right (by omega), show j - w.length = 0 by omega] at e
    cases e
    rw [show j = (iv s 4).toNat by omega]
    exact ⟨q1, q2.trans hy, fun _ => q3⟩
theorem PWH.ni (hW : WT h sk L cl ln iv1 rv) (hF : fT ls L cl iv1 rv iv2 rv) (ts : ty L cl s 15) (h5 : iv2 s 4 = iv1 s 4) (a0 : ls.contains 50 = false) (a1 : ls.contains 51 = false) (a2 : ls.contains 52 = false) (hw : PWH iv1 rv s w) : PWH iv2 rv s w := by
  obtain ⟨h1, h2⟩ := hw
  refine ⟨h5.trans h1, fun lb pb bb g0 g1 g2 j z e => ?_⟩
  obtain ⟨b0, q0, t0⟩ := hW.ref ts 0 rfl rfl rfl
  rw [g0] at q0; cases q0
  obtain ⟨b1, q1, t1⟩ := hW.ref ts 1 rfl rfl rfl
  rw [g1] at q1; cases q1
  obtain ⟨b2, q2, t2⟩ := hW.ref ts 2 rfl rfl rfl
  rw [g2] at q2; cases q2
  refine hv3 (show ty L cl lb 50 from t0) (show ty L cl pb 51 from t1) (show ty L cl bb 52 from t2) (fun t50 t51 t52 => ?_)
  rw [hF.i t50 a0 j, hF.i t51 a1 j, hF.i t52 a2 j]
  exact h2 lb pb bb g0 g1 g2 j z e
theorem PTK.init (hc : iv1 c 0 = iv c 0) (h4 : iv1 s 4 = 0) (h5 : iv1 s 5 = 0) : PTK iv rv iv1 q c s := fun tt _ => ⟨[], by rw [hc, h5]; exact TKI.init, PWH.nil h4⟩
theorem PTK.sp (hk : PTK iv rv iv1 q c s) (hT : ∀ tt, CT iv rv q tt → f = tt (iv1 c 0).toNat) (e : f = 32) (hp : 0 ≤ iv1 c 0 ∧ iv1 c 0 < iv q 2) (h4 : iv1 s 4 = 0) : PTN iv rv iv1 q c s := fun tt ht => by
  obtain ⟨w, k1, k2⟩ := hk tt ht
  have g := k2.1
  exact ⟨w, k1.sp hp ((hT tt ht).symm.trans e) (by omega), k2⟩
theorem PTK.til (hk : PTK iv rv iv1 q c s) (hT : ∀ tt, CT iv rv q tt → f = tt (iv1 c 0).toNat) (e : f = 126) (hp : 0 ≤ iv1 c 0 ∧ iv1 c 0 < iv q 2) (c0 : iv2 c 0 = iv1 c 0) (h5 : iv2 s 5 = 1) (hw : ∀ w, PWH iv1 rv s w → PWH iv2 rv s w) : PTN iv rv iv2 q c s := fun tt ht => by
  obtain ⟨w, k1, k2⟩ := hk tt ht
  refine ⟨w, ?_, hw w k2⟩
  rw [c0, h5]
  exact k1.til hp ((hT tt ht).symm.trans e)
theorem PTK.ltr {f0 : Int} (hk : PTK iv rv iv1 q c s) (hT0 : ∀ tt, CT iv rv q tt → f0 = tt (iv1 c 0).toNat) (hT : ∀ tt, CT iv rv q tt → f = tt (iv1 c 0).toNat) (e0 : f0 ≠ 10) (e1 : f ≠ 32) (e2 : f ≠ 126) (hp : 0 ≤ iv1 c 0 ∧ iv1 c 0 < iv q 2) (p : PT2 iv1 rv iv2 s f y) (hl : iv1 s 4 < 500) (hy : y = iv1 c 0) (c0 : iv2 c 0 = iv1 c 0) : PTN iv rv iv2 q c s := fun tt ht => by
  obtain ⟨w, k1, k2⟩ := hk tt ht
  have ef := hT tt ht
  have g := k1.ltr hp (by rw [← hT0 tt ht]; exact e0) (by rw [← ef]; exact e1) (by rw [← ef]; exact e2)
  have g2 := k2.put p hl (pp := (iv1 c 0).toNat) (by omega)
  rw [← ef] at g
  refine ⟨_, ?_, g2⟩
  rw [c0, (p hl).2.1]
  exact g
theorem PWH.upc {k : Nat} (hW : WT h sk L cl ln iv1 rv) (e : iv2 = up2 iv1 c k x) (tc : ty L cl c 14) (ts : ty L cl s 15) (hw : PWH iv1 rv s w) : PWH iv2 rv s w := by
  obtain ⟨h1, h2⟩ := hw
  have n0 : s ≠ c := ne_ty ts tc (by decide)
  refine ⟨by rw [e, up2_k n0]; exact h1, fun lb pb bb g0 g1 g2 j z e2 => ?_⟩
  obtain ⟨b0, q0, t0⟩ := hW.ref ts 0 rfl rfl rfl
  rw [g0] at q0; cases q0
  obtain ⟨b1, q1, t1⟩ := hW.ref ts 1 rfl rfl rfl
  rw [g1] at q1; cases q1
  obtain ⟨b2, q2, t2⟩ := hW.ref ts 2 rfl rfl rfl
  rw [g2] at q2; cases q2
  rw [e, up2_k (ne_ty t0 tc (by decide)), up2_k (ne_ty t1 tc (by decide)), up2_k (ne_ty t2 tc (by decide))]
  exact h2 lb pb bb g0 g1 g2 j z e2
theorem PTN.next (hk : PTN iv rv iv1 q c s) (hW : WT h sk L cl ln iv1 rv) (e : iv2 = up2 iv1 c 0 x) (hx : x = iv1 c 0 + 1) (tc : ty L cl c 14) (ts : ty L cl s 15) : PTK iv rv iv2 q c s := fun tt ht => by
  obtain ⟨w, k1, k2⟩ := hk tt ht
  refine ⟨w, ?_, k2.upc hW e tc ts⟩
  refine hv2 (show iv2 c 0 = iv1 c 0 + 1 from by rw [e, up2_s]; exact hx) (show iv2 s 5 = iv1 s 5 from by rw [e, up2_k (ne_ty ts tc (by decide))]) (fun e1 e2 => ?_)
  rw [e1, e2]
  exact k1
theorem STP.no (h1 : iv c 1 = 0) (hs : ∀ tt, CT iv rv q tt → (iv q 2 ≤ iv c 0 ∧ f = 0 ∧ iv2 c 0 = iv c 0 ∧ iv2 c 1 = 0) ∨ (iv c 0 < iv q 2 ∧ f = 1 ∧ iv2 c 1 = 1 ∧ ((tt (iv c 0).toNat = 94 ∧ iv2 c 0 = iv c 0 + 1 ∧ iv2 c 2 = 1) ∨ (tt (iv c 0).toNat ≠ 94 ∧ iv2 c 0 = iv c 0 ∧ iv2 c 2 = 0)))) : STP iv rv iv2 q c s f := fun tt ht => ⟨fun _ => hs tt ht, fun e => absurd h1 e⟩
theorem STP.sp (h1 : iv c 1 ≠ 0) (hk : PTK iv rv iv1 q c s) (hT : ∀ tt, CT iv rv q tt → x = tt (iv1 c 0).toNat) (e : x = 32) (hp : 0 ≤ iv1 c 0 ∧ iv1 c 0 < iv q 2) (h4 : 0 < iv1 s 4) (hf : f = 2) (hc1 : iv1 c 1 = iv c 1) (hc2 : iv1 c 2 = iv c 2) : STP iv rv iv1 q c s f := fun tt ht => ⟨fun e => absurd e h1, fun _ => by
  obtain ⟨w, k1, k2⟩ := hk tt ht
  have g := k2.1
  exact ⟨iv1 c 0, w, hp.1, k1.end2 hp ((hT tt ht).symm.trans e) (by omega), hc2, Or.inl ⟨by omega, hf, rfl, hc1, k2⟩⟩⟩
theorem STP.fin2 (h1 : iv c 1 ≠ 0) (hk : PTK iv rv iv1 q c s) (he : ∀ tt, CT iv rv q tt → iv q 2 ≤ iv1 c 0 ∨ tt (iv1 c 0).toNat = 10) (hp : 0 ≤ iv1 c 0) (h4 : 0 < iv1 s 4) (hf : f = 2) (hc1 : iv1 c 1 = iv c 1) (hc2 : iv1 c 2 = iv c 2) : STP iv rv iv1 q c s f := fun tt ht => ⟨fun e => absurd e h1, fun _ => by
  obtain ⟨w, k1, k2⟩ := hk tt ht
  have g := k2.1
  exact ⟨iv1 c 0, w, hp, k1.end1 hp (he tt ht), hc2, Or.inl ⟨by omega, hf, rfl, hc1, k2⟩⟩⟩
theorem STP.fin3 (h1 : iv c 1 ≠ 0) (hk : PTK iv rv iv1 q c s) (he : ∀ tt, CT iv rv q tt → iv q 2 ≤ iv1 c 0 ∨ tt (iv1 c 0).toNat = 10) (hp : 0 ≤ iv1 c 0) (h4 : iv1 s 4 ≤ 0) (hf : f = 3) (c0 : iv2 c 0 = iv1 c 0 + 1) (c1 : iv2 c 1 = 0) (hc2 : iv2 c 2 = iv c 2) : STP iv rv iv2 q c s f := fun tt ht => ⟨fun e => absurd e h1, fun _ => by
  obtain ⟨w, k1, k2⟩ := hk tt ht
  have g := k2.1
  exact ⟨iv1 c 0, w, hp, k1.end1 hp (he tt ht), hc2, Or.inr ⟨by omega, hf, c0, c1⟩⟩⟩
end WROW
end
section
set_option maxHeartbeats 4000000 in
set_option maxRecDepth 100000 in
theorem G_putBreak {l : Launch} {G : GT} {mi : Nat} {sk : Nat → Nat} {L : List Nat} {cl ln : Nat → Nat} {iv : Nat → Nat → Int} {rv : Nat → Nat → Option Nat}  {a0 : Nat} (hW : WT (g0 G) sk L cl ln iv rv) (hS : SKL sk L cl) (t_a0 : ty L cl a0 15)  : Mc l G mi (Phi (g0 G) sk) PHM yX6_putBreak cX6_putBreak 1 none 0 [.ref a0] L cl ln iv rv 0 (fun v L2 cl2 ln2 iv2 rv2 => v = none ∧ L = L2 ∧ cl = cl2 ∧ ln = ln2 ∧ rv = rv2 ∧ fT [15] L cl iv rv iv2 rv2 ∧ WT (g0 G) sk L2 cl2 ln2 iv2 rv2 ∧ (iv2 a0 4 = iv a0 4 ∧ iv2 a0 5 = 1)) := by
  refine Mc.mk (by decide) (Nat.le_of_ble_eq_true rfl) ?_
  intro p e s m args below meth c A C hM
  refine hv3 (Phi.le hW hS) (show XT L cl ln L cl ln from XT.refl) (show fT [15] L cl iv rv iv rv from fT.refl) (fun hph hX0 hF0 => ?_)
  refine c_aload_n (j := 0) (x := a0) C dX6_putBreak_0 rfl ?_
  refine c_iconst C dX6_putBreak_1 ?_
  refine c_put (z := 1) (k := 5) C ck_7 dX6_putBreak_2 w1_143 (by decide) rfl t_a0 rfl rfl (by decide) rfl (by decide) (by decide) (fun iv1 pq1 => ?_)
  refine hv4 (hW.puti pq1 t_a0 ⟨by decide, by decide⟩ rfl) (hF0.puti hX0 pq1 t_a0 rfl) (show iv1 a0 4 = iv a0 4 from by rw [pq1]; exact up2_j (by decide)) (show iv1 a0 5 = 1 from by rw [pq1]; exact up2_s) (fun W1 F1 ie1 ie2 => ?_)
  refine hv2 (show 0 ≤ iv1 a0 4 ∧ iv1 a0 4 ≤ 500 from W1.int t_a0 4) (show 0 ≤ iv1 a0 5 ∧ iv1 a0 5 ≤ 1 from W1.int t_a0 5) (fun ri1 ri2 => ?_)
  exact c_vret C dX6_putBreak_5 rfl (by decide) (rom0 hph hph (by decide)) ⟨rfl, rfl, rfl, rfl, rfl, F1, W1, (by omega)⟩
set_option maxHeartbeats 4000000 in
set_option maxRecDepth 100000 in
theorem G_wclear2 {l : Launch} {G : GT} {mi : Nat} {sk : Nat → Nat} {L : List Nat} {cl ln : Nat → Nat} {iv : Nat → Nat → Int} {rv : Nat → Nat → Option Nat}  {a0 : Nat} (hW : WT (g0 G) sk L cl ln iv rv) (hS : SKL sk L cl) (t_a0 : ty L cl a0 15)  : Mc l G mi (Phi (g0 G) sk) PHM yX6_clear cX6_clear 1 none 0 [.ref a0] L cl ln iv rv 0 (fun v L2 cl2 ln2 iv2 rv2 => v = none ∧ L = L2 ∧ cl = cl2 ∧ ln = ln2 ∧ rv = rv2 ∧ fT [15] L cl iv rv iv2 rv2 ∧ WT (g0 G) sk L2 cl2 ln2 iv2 rv2 ∧ (iv2 a0 4 = 0 ∧ iv2 a0 5 = 0)) := by
  refine Mc.mk (by decide) (Nat.le_of_ble_eq_true rfl) ?_
  intro p e s m args below meth c A C hM
  refine hv3 (Phi.le hW hS) (show XT L cl ln L cl ln from XT.refl) (show fT [15] L cl iv rv iv rv from fT.refl) (fun hph hX0 hF0 => ?_)
  refine c_aload_n (j := 0) (x := a0) C dX6_clear_0 rfl ?_
  refine c_iconst C dX6_clear_1 ?_
  refine c_put (z := 0) (k := 4) C ck_7 dX6_clear_2 w1_140 (by decide) rfl t_a0 rfl rfl (by decide) rfl (by rfl) (by rfl) (fun iv1 pq1 => ?_)
  refine hv2 (hW.puti pq1 t_a0 ⟨by decide, by decide⟩ rfl) (hF0.puti hX0 pq1 t_a0 rfl) (fun W1 F1 => ?_)
  refine c_aload_n (j := 0) (x := a0) C dX6_clear_5 rfl ?_
  refine c_iconst C dX6_clear_6 ?_
  refine c_put (z := 0) (k := 5) C ck_7 dX6_clear_7 w1_143 (by decide) rfl t_a0 rfl rfl (by decide) rfl (by decide) (by decide) (fun iv2 pq2 => ?_)
  refine hv5 (W1.puti pq2 t_a0 ⟨by decide, by decide⟩ rfl) (F1.puti hX0 pq2 t_a0 rfl) (show iv2 a0 4 = iv1 a0 4 from by rw [pq2]; exact up2_j (by decide)) (show iv1 a0 4 = 0 from by rw [pq1]; exact up2_s) (show iv2 a0 5 = 0 from by rw [pq2]; exact up2_s) (fun W2 F2 ie1 ie2 ie3 => ?_)
  refine hv2 (show 0 ≤ iv2 a0 4 ∧ iv2 a0 4 ≤ 500 from W2.int t_a0 4) (show 0 ≤ iv2 a0 5 ∧ iv2 a0 5 ≤ 1 from W2.int t_a0 5) (fun ri1 ri2 => ?_)
  exact c_vret C dX6_clear_10 rfl (by decide) (rom0 hph hph (by decide)) ⟨rfl, rfl, rfl, rfl, rfl, F2, W2, (by omega)⟩
set_option maxHeartbeats 4000000 in
set_option maxRecDepth 100000 in
theorem G_put2 {l : Launch} {G : GT} {mi : Nat} {sk : Nat → Nat} {L : List Nat} {cl ln : Nat → Nat} {iv : Nat → Nat → Int} {rv : Nat → Nat → Option Nat}  {a0 : Nat} {x : Int} {y : Int} (hW : WT (g0 G) sk L cl ln iv rv) (hS : SKL sk L cl) (t_a0 : ty L cl a0 15) (h_x : -2147483648 ≤ x ∧ x ≤ 2147483647) (h_y : -2147483648 ≤ y ∧ y ≤ 2147483647)  : Mc l G mi (Phi (g0 G) sk) PHM yX6_put cX6_put 3 none 0 [.ref a0, .int (iI x), .int (iI y)] L cl ln iv rv 0 (fun v L2 cl2 ln2 iv2 rv2 => v = none ∧ L = L2 ∧ cl = cl2 ∧ ln = ln2 ∧ rv = rv2 ∧ fT [15, 50, 51, 52] L cl iv rv iv2 rv2 ∧ WT (g0 G) sk L2 cl2 ln2 iv2 rv2 ∧ ((iv2 a0 4 ≤ iv a0 4 + 1) ∧ PT2 iv rv iv2 a0 x y)) := by
  refine Mc.mk (by decide) (Nat.le_of_ble_eq_true rfl) ?_
  intro p e s m args below meth c A C hM
  refine hv3 (Phi.le hW hS) (show XT L cl ln L cl ln from XT.refl) (show fT [15, 50, 51, 52] L cl iv rv iv rv from fT.refl) (fun hph hX0 hF0 => ?_)
  refine c_aload_n (j := 0) (x := a0) C dX6_put_0 rfl ?_
  have ri1 : 0 ≤ iv a0 4 ∧ iv a0 4 ≤ 500 := hW.int t_a0 4
  refine c_get (k := 4) C ck_7 dX6_put_1 w1_140 (by decide) t_a0 rfl rfl (by decide) rfl ?_
  refine c_sipush (z := 500) C dX6_put_4 (by decide) ?_
  refine c_icmp_lt (tgt := 11) C (r32_c (lo := 0) (hi := 500) ri1.1 ri1.2 (by decide) (by decide)) ⟨by decide, by decide⟩ dX6_put_7 (by decide) (fun c1 => ?_) (fun c1 => ?_)
  · refine c_aload_n (j := 0) (x := a0) C dX6_put_11 rfl ?_
    obtain ⟨rb1, rq1, trb1⟩ := hW.ref t_a0 0 rfl rfl rfl
    have lnrb1 : 500 ≤ ln rb1 ∧ ln rb1 ≤ 500 := hW.len trb1 rfl
    refine c_getr (k := 0) C ck_7 dX6_put_12 w1_136 (by decide) t_a0 rfl rfl (by decide) rfl rq1 ?_
    refine c_st (st2 := [.ref rb1]) rfl ?_
    refine c_aload_n (j := 0) (x := a0) C dX6_put_15 rfl ?_
    refine c_get (k := 4) C ck_7 dX6_put_16 w1_140 (by decide) t_a0 rfl rfl (by decide) rfl ?_
    refine c_iload_n (j := 1) C dX6_put_19 rfl ?_
    have ll1 : 500 ≤ ln rb1 ∧ ln rb1 ≤ 500 := hW.len trb1 rfl
    refine c_iast (x := x) C dX6_put_20 trb1 rfl (by omega) (by omega) (by omega) (fun iv1 pq1 => ?_)
    refine hv2 (hW.puti pq1 trb1 (show (-2147483648) ≤ x ∧ x ≤ 2147483647 by omega) rfl) (hF0.puti hX0 pq1 trb1 rfl) (fun W1 F1 => ?_)
    refine c_aload_n (j := 0) (x := a0) C dX6_put_21 rfl ?_
    obtain ⟨rb2, rq2, trb2⟩ := W1.ref t_a0 1 rfl rfl rfl
    have lnrb2 : 500 ≤ ln rb2 ∧ ln rb2 ≤ 500 := W1.len trb2 rfl
    refine c_getr (k := 1) C ck_7 dX6_put_22 w1_137 (by decide) t_a0 rfl rfl (by decide) rfl rq2 ?_
    refine c_st (st2 := [.ref rb2]) rfl ?_
    refine c_aload_n (j := 0) (x := a0) C dX6_put_25 rfl ?_
    refine hv2 (show 0 ≤ iv1 a0 4 ∧ iv1 a0 4 ≤ 500 from W1.int t_a0 4) (show iv1 a0 4 = iv a0 4 from by rw [pq1]; exact up2_k (ne_ty t_a0 trb1 (by decide))) (fun ri2 ie1 => ?_)
    refine c_get (k := 4) C ck_7 dX6_put_26 w1_140 (by decide) t_a0 rfl rfl (by decide) rfl ?_
    refine c_iload_n (j := 2) C dX6_put_29 rfl ?_
    have ll2 : 500 ≤ ln rb2 ∧ ln rb2 ≤ 500 := W1.len trb2 rfl
    refine c_iast (x := y) C dX6_put_30 trb2 rfl (by omega) (by omega) (by omega) (fun iv2 pq2 => ?_)
    refine hv2 (W1.puti pq2 trb2 (show (-2147483648) ≤ y ∧ y ≤ 2147483647 by omega) rfl) (F1.puti hX0 pq2 trb2 rfl) (fun W2 F2 => ?_)
    refine c_aload_n (j := 0) (x := a0) C dX6_put_31 rfl ?_
    obtain ⟨rb3, rq3, trb3⟩ := W2.ref t_a0 2 rfl rfl rfl
    have lnrb3 : 500 ≤ ln rb3 ∧ ln rb3 ≤ 500 := W2.len trb3 rfl
    refine c_getr (k := 2) C ck_7 dX6_put_32 w1_138 (by decide) t_a0 rfl rfl (by decide) rfl rq3 ?_
    refine c_st (st2 := [.ref rb3]) rfl ?_
    refine c_aload_n (j := 0) (x := a0) C dX6_put_35 rfl ?_
    refine hv2 (show 0 ≤ iv2 a0 4 ∧ iv2 a0 4 ≤ 500 from W2.int t_a0 4) (show iv2 a0 4 = iv1 a0 4 from by rw [pq2]; exact up2_k (ne_ty t_a0 trb2 (by decide))) (fun ri3 ie2 => ?_)
    refine c_get (k := 4) C ck_7 dX6_put_36 w1_140 (by decide) t_a0 rfl rfl (by decide) rfl ?_
    refine c_aload_n (j := 0) (x := a0) C dX6_put_39 rfl ?_
    refine hv3 (show 0 ≤ iv2 a0 5 ∧ iv2 a0 5 ≤ 1 from W2.int t_a0 5) (show iv2 a0 5 = iv1 a0 5 from by rw [pq2]; exact up2_k (ne_ty t_a0 trb2 (by decide))) (show iv1 a0 5 = iv a0 5 from by rw [pq1]; exact up2_k (ne_ty t_a0 trb1 (by decide))) (fun ri4 ie3 ie4 => ?_)
    refine c_get (k := 5) C ck_7 dX6_put_40 w1_143 (by decide) t_a0 rfl rfl (by decide) rfl ?_
    have ll3 : 500 ≤ ln rb3 ∧ ln rb3 ≤ 500 := W2.len trb3 rfl
    refine c_zast (x := iv2 a0 5) C dX6_put_43 trb3 rfl (by omega) (by omega) (by omega) (by omega) (fun iv3 pq3 => ?_)
    refine hv2 (W2.puti pq3 trb3 (show 0 ≤ (iv2 a0 5) ∧ (iv2 a0 5) ≤ 1 by omega) rfl) (F2.puti hX0 pq3 trb3 rfl) (fun W3 F3 => ?_)
    refine c_aload_n (j := 0) (x := a0) C dX6_put_44 rfl ?_
    refine c_iconst C dX6_put_45 ?_
    refine c_put (z := 0) (k := 5) C ck_7 dX6_put_46 w1_143 (by decide) rfl t_a0 rfl rfl (by decide) rfl (by decide) (by decide) (fun iv4 pq4 => ?_)
    refine hv2 (W3.puti pq4 t_a0 ⟨by decide, by decide⟩ rfl) (F3.puti hX0 pq4 t_a0 rfl) (fun W4 F4 => ?_)
    refine c_aload_n (j := 0) (x := a0) C dX6_put_49 rfl ?_
    refine c_dup C dX6_put_50 rfl ?_
    refine hv3 (show 0 ≤ iv4 a0 4 ∧ iv4 a0 4 ≤ 500 from W4.int t_a0 4) (show iv4 a0 4 = iv3 a0 4 from by rw [pq4]; exact up2_j (by decide)) (show iv3 a0 4 = iv2 a0 4 from by rw [pq3]; exact up2_k (ne_ty t_a0 trb3 (by decide))) (fun ri5 ie5 ie6 => ?_)
    refine c_get (k := 4) C ck_7 dX6_put_51 w1_140 (by decide) t_a0 rfl rfl (by decide) rfl ?_
    refine c_iconst C dX6_put_54 ?_
    refine c_iadd C dX6_put_55 ?_
    refine c_put (z := (iv4 a0 4) + 1) (k := 4) C ck_7 dX6_put_56 w1_140 (by decide) rfl t_a0 rfl rfl (by decide) rfl (by rfl) (by rfl) (fun iv5 pq5 => ?_)
    refine hv5 (W4.puti pq5 t_a0 (show 0 ≤ ((iv4 a0 4) + 1) ∧ ((iv4 a0 4) + 1) ≤ 500 by omega) rfl) (F4.puti hX0 pq5 t_a0 rfl) (show iv5 a0 4 = (iv4 a0 4) + 1 from by rw [pq5]; exact up2_s) (show iv5 a0 5 = iv4 a0 5 from by rw [pq5]; exact up2_j (by decide)) (show iv4 a0 5 = 0 from by rw [pq4]; exact up2_s) (fun W5 F5 ie7 ie8 ie9 => ?_)
    refine hv2 (show 0 ≤ iv5 a0 4 ∧ iv5 a0 4 ≤ 500 from W5.int t_a0 4) (show 0 ≤ iv5 a0 5 ∧ iv5 a0 5 ≤ 1 from W5.int t_a0 5) (fun ri6 ri7 => ?_)
    exact c_vret C dX6_put_59 rfl (by decide) (rom0 hph hph (by decide)) ⟨rfl, rfl, rfl, rfl, rfl, F5, W5, ⟨by omega, PT2.mk rq1 rq2 rq3 pq1 pq2 pq3 pq4 pq5 (by omega) (by omega) (by omega) (by omega) (by omega) (by omega) (ne_ty trb1 trb2 (by decide)) (ne_ty trb1 trb3 (by decide)) (ne_ty trb1 t_a0 (by decide)) (ne_ty trb2 trb3 (by decide)) (ne_ty trb2 t_a0 (by decide)) (ne_ty trb3 t_a0 (by decide))⟩⟩
  · have ri8 : 0 ≤ iv a0 5 ∧ iv a0 5 ≤ 1 := hW.int t_a0 5
    exact c_vret C dX6_put_10 rfl (by decide) (rom0 hph hph (by decide)) ⟨rfl, rfl, rfl, rfl, rfl, hF0, hW, ⟨by omega, PT2.full (by omega)⟩⟩
set_option maxHeartbeats 4000000 in
set_option maxRecDepth 100000 in
theorem G_enterLine {l : Launch} {G : GT} {mi : Nat} {sk : Nat → Nat} {L : List Nat} {cl ln : Nat → Nat} {iv : Nat → Nat → Int} {rv : Nat → Nat → Option Nat}  {a0 : Nat} {a1 : Nat} (hW : WT (g0 G) sk L cl ln iv rv) (hS : SKL sk L cl) (t_a0 : ty L cl a0 14) (t_a1 : ty L cl a1 3) (hs : 0 ≤ iv a0 0 ∧ iv a0 0 ≤ 501 ∧ (iv a0 1 = 0 ∨ iv a0 0 ≤ 500)) : Mc l G mi (Phi (g0 G) sk) PHM yX8_enterLine cX8_enterLine 2 (some .int) 1 [.ref a0, .ref a1] L cl ln iv rv 0 (fun v L2 cl2 ln2 iv2 rv2 => ∃ f : Int, v = some (.int (iI f)) ∧ L = L2 ∧ cl = cl2 ∧ ln = ln2 ∧ rv = rv2 ∧ fT [14] L cl iv rv iv2 rv2 ∧ WT (g0 G) sk L2 cl2 ln2 iv2 rv2 ∧ (-2147483648 ≤ f ∧ f ≤ 2147483647) ∧ (((f = 0 ∨ f = 1) ∧ 0 ≤ iv2 a0 0 ∧ iv2 a0 0 ≤ 501 ∧ (iv2 a0 1 = 0 ∨ iv2 a0 0 ≤ 500) ∧ (f = 0 ∨ (iv2 a0 1 = 1 ∧ iv a0 0 ≤ iv2 a0 0))) ∧ ∀ tt, CT iv rv a1 tt → (iv a1 2 ≤ iv a0 0 ∧ f = 0 ∧ iv2 a0 0 = iv a0 0 ∧ iv2 a0 1 = iv a0 1) ∨ (iv a0 0 < iv a1 2 ∧ f = 1 ∧ iv2 a0 1 = 1 ∧ ((tt (iv a0 0).toNat = 94 ∧ iv2 a0 0 = iv a0 0 + 1 ∧ iv2 a0 2 = 1) ∨ (tt (iv a0 0).toNat ≠ 94 ∧ iv2 a0 0 = iv a0 0 ∧ iv2 a0 2 = 0))))) := by
  refine Mc.mk (by decide) (Nat.le_of_ble_eq_true rfl) ?_
  intro p e s m args below meth c A C hM
  refine hv3 (Phi.le hW hS) (show XT L cl ln L cl ln from XT.refl) (show fT [14] L cl iv rv iv rv from fT.refl) (fun hph hX0 hF0 => ?_)
  refine c_aload_n (j := 0) (x := a0) C dX8_enterLine_0 rfl ?_
  have ri1 : (-2147483648) ≤ iv a0 0 ∧ iv a0 0 ≤ 2147483647 := hW.int t_a0 0
  refine c_get (k := 0) C ck_9 dX8_enterLine_1 w1_103 (by decide) t_a0 rfl rfl (by decide) rfl ?_
  refine c_aload_n (j := 1) (x := a1) C dX8_enterLine_4 rfl ?_
  have ri2 : 0 ≤ iv a1 2 ∧ iv a1 2 ≤ 500 := hW.int t_a1 2
  refine c_get (k := 2) C ck_2 dX8_enterLine_5 w1_45 (by decide) t_a1 rfl rfl (by decide) rfl ?_
  refine c_icmp_lt (tgt := 13) C (r32_c (lo := (-2147483648)) (hi := 2147483647) ri1.1 ri1.2 (by decide) (by decide)) (r32_c (lo := 0) (hi := 500) ri2.1 ri2.2 (by decide) (by decide)) dX8_enterLine_8 (by decide) (fun c1 => ?_) (fun c1 => ?_)
  · refine c_aload_n (j := 0) (x := a0) C dX8_enterLine_13 rfl ?_
    refine c_iconst C dX8_enterLine_14 ?_
    refine c_put (z := 1) (k := 1) C ck_9 dX8_enterLine_15 w1_104 (by decide) rfl t_a0 rfl rfl (by decide) rfl (by decide) (by decide) (fun iv1 pq1 => ?_)
    refine hv2 (hW.puti pq1 t_a0 ⟨by decide, by decide⟩ rfl) (hF0.puti hX0 pq1 t_a0 rfl) (fun W1 F1 => ?_)
    refine c_aload_n (j := 0) (x := a0) C dX8_enterLine_18 rfl ?_
    refine c_aload_n (j := 1) (x := a1) C dX8_enterLine_19 rfl ?_
    refine c_aload_n (j := 0) (x := a0) C dX8_enterLine_20 rfl ?_
    refine hv2 (show (-2147483648) ≤ iv1 a0 0 ∧ iv1 a0 0 ≤ 2147483647 from W1.int t_a0 0) (show iv1 a0 0 = iv a0 0 from by rw [pq1]; exact up2_j (by decide)) (fun ri3 ie1 => ?_)
    refine c_get (k := 0) C ck_9 dX8_enterLine_21 w1_103 (by decide) t_a0 rfl rfl (by decide) rfl ?_
    refine hv2 (show 0 ≤ iv1 a1 2 ∧ iv1 a1 2 ≤ 500 from W1.int t_a1 2) (show iv1 a1 2 = iv a1 2 from by rw [pq1]; exact up2_k (ne_ty t_a1 t_a0 (by decide))) (fun ri4 ie2 => ?_)
    refine d_callV (As := [.int (iI (iv1 a0 0))]) (rest := [.ref a0]) C hM (C_at_3 (a0 := a1) (i := iv1 a0 0) W1 hS t_a1 (by omega) ) dX8_enterLine_24 kV_X8_53 rfl t_a1 rfl rfl (by decide) ck_2 rfl (Nat.le_of_ble_eq_true rfl) ⟨(Nat.le_of_ble_eq_true rfl), (Nat.le_of_ble_eq_true rfl)⟩ hph hph (show 0 + 0 = 0 from rfl) (by decide) (fun rh1 Lh1 clh1 lnh1 ivh1 rvh1 h1 => ?_)
    obtain ⟨f1, rfl, rfl, rfl, rfl, rfl, rfl, rgf1, exf1⟩ := h1
    refine c_st (st2 := [.int (iI f1), .ref a0]) rfl ?_
    have gf1 : ((0 ≤ (iv1 a0 0) ∧ (iv1 a0 0) < iv1 a1 2) ∨ f1 = 0) ∧ ∀ ss, CT iv1 rv a1 ss → 0 ≤ (iv1 a0 0) → (iv1 a0 0) < iv1 a1 2 → f1 = ss (iv1 a0 0).toNat := exf1
    refine c_bipush (z := 94) C dX8_enterLine_27 (by decide) ?_
    refine c_icmp_ne (tgt := 36) C ⟨by omega, by omega⟩ ⟨by decide, by decide⟩ dX8_enterLine_29 (by decide) (fun c2 => ?_) (fun c2 => ?_)
    · refine c_iconst C dX8_enterLine_36 ?_
      refine c_put (z := 0) (k := 2) C ck_9 dX8_enterLine_37 w1_105 (by decide) rfl t_a0 rfl rfl (by decide) rfl (by decide) (by decide) (fun iv2 pq2 => ?_)
      refine hv2 (W1.puti pq2 t_a0 ⟨by decide, by decide⟩ rfl) (F1.puti hX0 pq2 t_a0 rfl) (fun W3 F2 => ?_)
      refine c_aload_n (j := 0) (x := a0) C dX8_enterLine_40 rfl ?_
      refine c_dup C dX8_enterLine_41 rfl ?_
      refine hv2 (show (-2147483648) ≤ iv2 a0 0 ∧ iv2 a0 0 ≤ 2147483647 from W3.int t_a0 0) (show iv2 a0 0 = iv1 a0 0 from by rw [pq2]; exact up2_j (by decide)) (fun ri5 ie3 => ?_)
      refine c_get (k := 0) C ck_9 dX8_enterLine_42 w1_103 (by decide) t_a0 rfl rfl (by decide) rfl ?_
      refine c_aload_n (j := 0) (x := a0) C dX8_enterLine_45 rfl ?_
      refine hv2 (show 0 ≤ iv2 a0 2 ∧ iv2 a0 2 ≤ 1 from W3.int t_a0 2) (show iv2 a0 2 = 0 from by rw [pq2]; exact up2_s) (fun ri6 ie4 => ?_)
      refine c_get (k := 2) C ck_9 dX8_enterLine_46 w1_105 (by decide) t_a0 rfl rfl (by decide) rfl ?_
      refine c_if_eq (tgt := 56) C (r32_c (lo := 0) (hi := 1) ri6.1 ri6.2 (by decide) (by decide)) dX8_enterLine_49 (by decide) (fun c3 => ?_) (fun c3 => ?_)
      · refine c_iconst C dX8_enterLine_56 ?_
        refine c_iadd C dX8_enterLine_57 ?_
        refine c_put (z := (iv2 a0 0) + 0) (k := 0) C ck_9 dX8_enterLine_58 w1_103 (by decide) rfl t_a0 rfl rfl (by decide) rfl (by rfl) (by rfl) (fun iv3 pq3 => ?_)
        refine hv2 (W3.puti pq3 t_a0 (show (-2147483648) ≤ ((iv2 a0 0) + 0) ∧ ((iv2 a0 0) + 0) ≤ 2147483647 by omega) rfl) (F2.puti hX0 pq3 t_a0 rfl) (fun W4 F3 => ?_)
        refine c_iconst C dX8_enterLine_61 ?_
        refine hv11 (show (-2147483648) ≤ iv3 a0 0 ∧ iv3 a0 0 ≤ 2147483647 from W4.int t_a0 0) (show iv3 a0 0 = (iv2 a0 0) + 0 from by rw [pq3]; exact up2_s) (show 0 ≤ iv3 a0 1 ∧ iv3 a0 1 ≤ 1 from W4.int t_a0 1) (show iv3 a0 1 = iv2 a0 1 from by rw [pq3]; exact up2_j (by decide)) (show iv2 a0 1 = iv1 a0 1 from by rw [pq2]; exact up2_j (by decide)) (show iv1 a0 1 = 1 from by rw [pq1]; exact up2_s) (show 0 ≤ iv3 a0 2 ∧ iv3 a0 2 ≤ 1 from W4.int t_a0 2) (show iv3 a0 2 = iv2 a0 2 from by rw [pq3]; exact up2_j (by decide)) (show 0 ≤ iv3 a1 2 ∧ iv3 a1 2 ≤ 500 from W4.int t_a1 2) (show iv3 a1 2 = iv2 a1 2 from by rw [pq3]; exact up2_k (ne_ty t_a1 t_a0 (by decide))) (show iv2 a1 2 = iv1 a1 2 from by rw [pq2]; exact up2_k (ne_ty t_a1 t_a0 (by decide))) (fun ri7 ie5 ri8 ie6 ie7 ie8 ri9 ie9 ri10 ie10 ie11 => ?_)
        exact c_iret C dX8_enterLine_62 rfl (by decide) (rom0 hph hph (by decide)) ⟨1, rfl, rfl, rfl, rfl, rfl, F3, W4, ⟨by decide, by decide⟩, ⟨by omega, fun tt ht => Or.inr ⟨by omega, by omega, by omega, by
            have e := gf1.2 tt (CT.frn ht W1 t_a1 F1 rfl rfl rfl rfl rfl) (by omega) (by omega)
            rw [show iv1 a0 0 = iv a0 0 by omega] at e
            rw [← e]
            omega⟩⟩⟩
      · refine c_iconst C dX8_enterLine_52 ?_
        refine c_goto (tgt := 57) C dX8_enterLine_53 (by decide) ?_
        refine c_iadd C dX8_enterLine_57 ?_
        refine c_put (z := (iv2 a0 0) + 1) (k := 0) C ck_9 dX8_enterLine_58 w1_103 (by decide) rfl t_a0 rfl rfl (by decide) rfl (by rfl) (by rfl) (fun iv4 pq4 => ?_)
        refine hv2 (W3.puti pq4 t_a0 (show (-2147483648) ≤ ((iv2 a0 0) + 1) ∧ ((iv2 a0 0) + 1) ≤ 2147483647 by omega) rfl) (F2.puti hX0 pq4 t_a0 rfl) (fun W5 F4 => ?_)
        refine c_iconst C dX8_enterLine_61 ?_
        refine hv11 (show (-2147483648) ≤ iv4 a0 0 ∧ iv4 a0 0 ≤ 2147483647 from W5.int t_a0 0) (show iv4 a0 0 = (iv2 a0 0) + 1 from by rw [pq4]; exact up2_s) (show 0 ≤ iv4 a0 1 ∧ iv4 a0 1 ≤ 1 from W5.int t_a0 1) (show iv4 a0 1 = iv2 a0 1 from by rw [pq4]; exact up2_j (by decide)) (show iv2 a0 1 = iv1 a0 1 from by rw [pq2]; exact up2_j (by decide)) (show iv1 a0 1 = 1 from by rw [pq1]; exact up2_s) (show 0 ≤ iv4 a0 2 ∧ iv4 a0 2 ≤ 1 from W5.int t_a0 2) (show iv4 a0 2 = iv2 a0 2 from by rw [pq4]; exact up2_j (by decide)) (show 0 ≤ iv4 a1 2 ∧ iv4 a1 2 ≤ 500 from W5.int t_a1 2) (show iv4 a1 2 = iv2 a1 2 from by rw [pq4]; exact up2_k (ne_ty t_a1 t_a0 (by decide))) (show iv2 a1 2 = iv1 a1 2 from by rw [pq2]; exact up2_k (ne_ty t_a1 t_a0 (by decide))) (fun ri11 ie12 ri12 ie13 ie14 ie15 ri13 ie16 ri14 ie17 ie18 => ?_)
        exact c_iret C dX8_enterLine_62 rfl (by decide) (rom0 hph hph (by decide)) ⟨1, rfl, rfl, rfl, rfl, rfl, F4, W5, ⟨by decide, by decide⟩, ⟨by omega, fun tt ht => Or.inr ⟨by omega, by omega, by omega, by
            have e := gf1.2 tt (CT.frn ht W1 t_a1 F1 rfl rfl rfl rfl rfl) (by omega) (by omega)
            rw [show iv1 a0 0 = iv a0 0 by omega] at e
            rw [← e]
            omega⟩⟩⟩
    · refine c_iconst C dX8_enterLine_32 ?_
      refine c_goto (tgt := 37) C dX8_enterLine_33 (by decide) ?_
      refine c_put (z := 1) (k := 2) C ck_9 dX8_enterLine_37 w1_105 (by decide) rfl t_a0 rfl rfl (by decide) rfl (by decide) (by decide) (fun iv5 pq5 => ?_)
      refine hv2 (W1.puti pq5 t_a0 ⟨by decide, by decide⟩ rfl) (F1.puti hX0 pq5 t_a0 rfl) (fun W6 F5 => ?_)
      refine c_aload_n (j := 0) (x := a0) C dX8_enterLine_40 rfl ?_
      refine c_dup C dX8_enterLine_41 rfl ?_
      refine hv2 (show (-2147483648) ≤ iv5 a0 0 ∧ iv5 a0 0 ≤ 2147483647 from W6.int t_a0 0) (show iv5 a0 0 = iv1 a0 0 from by rw [pq5]; exact up2_j (by decide)) (fun ri15 ie19 => ?_)
      refine c_get (k := 0) C ck_9 dX8_enterLine_42 w1_103 (by decide) t_a0 rfl rfl (by decide) rfl ?_
      refine c_aload_n (j := 0) (x := a0) C dX8_enterLine_45 rfl ?_
      refine hv2 (show 0 ≤ iv5 a0 2 ∧ iv5 a0 2 ≤ 1 from W6.int t_a0 2) (show iv5 a0 2 = 1 from by rw [pq5]; exact up2_s) (fun ri16 ie20 => ?_)
      refine c_get (k := 2) C ck_9 dX8_enterLine_46 w1_105 (by decide) t_a0 rfl rfl (by decide) rfl ?_
      refine c_if_eq (tgt := 56) C (r32_c (lo := 0) (hi := 1) ri16.1 ri16.2 (by decide) (by decide)) dX8_enterLine_49 (by decide) (fun c4 => ?_) (fun c4 => ?_)
      · refine c_iconst C dX8_enterLine_56 ?_
        refine c_iadd C dX8_enterLine_57 ?_
        refine c_put (z := (iv5 a0 0) + 0) (k := 0) C ck_9 dX8_enterLine_58 w1_103 (by decide) rfl t_a0 rfl rfl (by decide) rfl (by rfl) (by rfl) (fun iv6 pq6 => ?_)
        refine hv2 (W6.puti pq6 t_a0 (show (-2147483648) ≤ ((iv5 a0 0) + 0) ∧ ((iv5 a0 0) + 0) ≤ 2147483647 by omega) rfl) (F5.puti hX0 pq6 t_a0 rfl) (fun W7 F6 => ?_)
        refine c_iconst C dX8_enterLine_61 ?_
        refine hv11 (show (-2147483648) ≤ iv6 a0 0 ∧ iv6 a0 0 ≤ 2147483647 from W7.int t_a0 0) (show iv6 a0 0 = (iv5 a0 0) + 0 from by rw [pq6]; exact up2_s) (show 0 ≤ iv6 a0 1 ∧ iv6 a0 1 ≤ 1 from W7.int t_a0 1) (show iv6 a0 1 = iv5 a0 1 from by rw [pq6]; exact up2_j (by decide)) (show iv5 a0 1 = iv1 a0 1 from by rw [pq5]; exact up2_j (by decide)) (show iv1 a0 1 = 1 from by rw [pq1]; exact up2_s) (show 0 ≤ iv6 a0 2 ∧ iv6 a0 2 ≤ 1 from W7.int t_a0 2) (show iv6 a0 2 = iv5 a0 2 from by rw [pq6]; exact up2_j (by decide)) (show 0 ≤ iv6 a1 2 ∧ iv6 a1 2 ≤ 500 from W7.int t_a1 2) (show iv6 a1 2 = iv5 a1 2 from by rw [pq6]; exact up2_k (ne_ty t_a1 t_a0 (by decide))) (show iv5 a1 2 = iv1 a1 2 from by rw [pq5]; exact up2_k (ne_ty t_a1 t_a0 (by decide))) (fun ri17 ie21 ri18 ie22 ie23 ie24 ri19 ie25 ri20 ie26 ie27 => ?_)
        exact c_iret C dX8_enterLine_62 rfl (by decide) (rom0 hph hph (by decide)) ⟨1, rfl, rfl, rfl, rfl, rfl, F6, W7, ⟨by decide, by decide⟩, ⟨by omega, fun tt ht => Or.inr ⟨by omega, by omega, by omega, by
            have e := gf1.2 tt (CT.frn ht W1 t_a1 F1 rfl rfl rfl rfl rfl) (by omega) (by omega)
            rw [show iv1 a0 0 = iv a0 0 by omega] at e
            rw [← e]
            omega⟩⟩⟩
      · refine c_iconst C dX8_enterLine_52 ?_
        refine c_goto (tgt := 57) C dX8_enterLine_53 (by decide) ?_
        refine c_iadd C dX8_enterLine_57 ?_
        refine c_put (z := (iv5 a0 0) + 1) (k := 0) C ck_9 dX8_enterLine_58 w1_103 (by decide) rfl t_a0 rfl rfl (by decide) rfl (by rfl) (by rfl) (fun iv7 pq7 => ?_)
        refine hv2 (W6.puti pq7 t_a0 (show (-2147483648) ≤ ((iv5 a0 0) + 1) ∧ ((iv5 a0 0) + 1) ≤ 2147483647 by omega) rfl) (F5.puti hX0 pq7 t_a0 rfl) (fun W8 F7 => ?_)
        refine c_iconst C dX8_enterLine_61 ?_
        refine hv11 (show (-2147483648) ≤ iv7 a0 0 ∧ iv7 a0 0 ≤ 2147483647 from W8.int t_a0 0) (show iv7 a0 0 = (iv5 a0 0) + 1 from by rw [pq7]; exact up2_s) (show 0 ≤ iv7 a0 1 ∧ iv7 a0 1 ≤ 1 from W8.int t_a0 1) (show iv7 a0 1 = iv5 a0 1 from by rw [pq7]; exact up2_j (by decide)) (show iv5 a0 1 = iv1 a0 1 from by rw [pq5]; exact up2_j (by decide)) (show iv1 a0 1 = 1 from by rw [pq1]; exact up2_s) (show 0 ≤ iv7 a0 2 ∧ iv7 a0 2 ≤ 1 from W8.int t_a0 2) (show iv7 a0 2 = iv5 a0 2 from by rw [pq7]; exact up2_j (by decide)) (show 0 ≤ iv7 a1 2 ∧ iv7 a1 2 ≤ 500 from W8.int t_a1 2) (show iv7 a1 2 = iv5 a1 2 from by rw [pq7]; exact up2_k (ne_ty t_a1 t_a0 (by decide))) (show iv5 a1 2 = iv1 a1 2 from by rw [pq5]; exact up2_k (ne_ty t_a1 t_a0 (by decide))) (fun ri21 ie28 ri22 ie29 ie30 ie31 ri23 ie32 ri24 ie33 ie34 => ?_)
        exact c_iret C dX8_enterLine_62 rfl (by decide) (rom0 hph hph (by decide)) ⟨1, rfl, rfl, rfl, rfl, rfl, F7, W8, ⟨by decide, by decide⟩, ⟨by omega, fun tt ht => Or.inr ⟨by omega, by omega, by omega, by
            have e := gf1.2 tt (CT.frn ht W1 t_a1 F1 rfl rfl rfl rfl rfl) (by omega) (by omega)
            rw [show iv1 a0 0 = iv a0 0 by omega] at e
            rw [← e]
            omega⟩⟩⟩
  · refine c_iconst C dX8_enterLine_11 ?_
    refine hv2 (show 0 ≤ iv a0 1 ∧ iv a0 1 ≤ 1 from hW.int t_a0 1) (show 0 ≤ iv a0 2 ∧ iv a0 2 ≤ 1 from hW.int t_a0 2) (fun ri25 ri26 => ?_)
    exact c_iret C dX8_enterLine_12 rfl (by decide) (rom0 hph hph (by decide)) ⟨0, rfl, rfl, rfl, rfl, rfl, hF0, hW, ⟨by decide, by decide⟩, ⟨by omega, fun tt ht => Or.inl ⟨by omega, by omega, by omega, by omega⟩⟩⟩
set_option maxHeartbeats 4000000 in
set_option maxRecDepth 100000 in
theorem G_step {l : Launch} {G : GT} {mi : Nat} {sk : Nat → Nat} {L : List Nat} {cl ln : Nat → Nat} {iv : Nat → Nat → Int} {rv : Nat → Nat → Option Nat}  {a0 : Nat} {a1 : Nat} {a2 : Nat} (hW : WT (g0 G) sk L cl ln iv rv) (hS : SKL sk L cl) (t_a0 : ty L cl a0 14) (t_a1 : ty L cl a1 3) (t_a2 : ty L cl a2 15) (hs : 0 ≤ iv a0 0 ∧ iv a0 0 ≤ 501 ∧ (iv a0 1 = 0 ∨ iv a0 0 ≤ 500)) : Mc l G mi (Phi (g0 G) sk) PHM yX8_step cX8_step 4 (some .int) 2 [.ref a0, .ref a1, .ref a2] L cl ln iv rv 0 (fun v L2 cl2 ln2 iv2 rv2 => ∃ f : Int, v = some (.int (iI f)) ∧ L = L2 ∧ cl = cl2 ∧ ln = ln2 ∧ rv = rv2 ∧ fT [14, 15, 50, 51, 52] L cl iv rv iv2 rv2 ∧ WT (g0 G) sk L2 cl2 ln2 iv2 rv2 ∧ (-2147483648 ≤ f ∧ f ≤ 2147483647) ∧ (((0 ≤ f ∧ f ≤ 3) ∧ 0 ≤ iv2 a0 0 ∧ iv2 a0 0 ≤ 501 ∧ (iv2 a0 1 = 0 ∨ iv2 a0 0 ≤ 500) ∧ (f = 0 ∨ 2 * iv a0 0 + iv a0 1 < 2 * iv2 a0 0 + iv2 a0 1)) ∧ STP iv rv iv2 a1 a0 a2 f)) := by
  refine Mc.mk (by decide) (Nat.le_of_ble_eq_true rfl) ?_
  intro p e s m args below meth c A C hM
  refine hv9 (Phi.le hW hS) (show XT L cl ln L cl ln from XT.refl) (show fT [14, 15, 50, 51, 52] L cl iv rv iv rv from fT.refl) (show (-2147483648) ≤ iv a0 0 ∧ iv a0 0 ≤ 2147483647 from hW.int t_a0 0) (show 0 ≤ iv a0 1 ∧ iv a0 1 ≤ 1 from hW.int t_a0 1) (show 0 ≤ iv a0 2 ∧ iv a0 2 ≤ 1 from hW.int t_a0 2) (show 0 ≤ iv a2 4 ∧ iv a2 4 ≤ 500 from hW.int t_a2 4) (show 0 ≤ iv a2 5 ∧ iv a2 5 ≤ 1 from hW.int t_a2 5) (show 0 ≤ iv a1 2 ∧ iv a1 2 ≤ 500 from hW.int t_a1 2) (fun hph hX0 hF0 ri1 ri2 ri3 ri4 ri5 ri6 => ?_)
  refine c_aload_n (j := 0) (x := a0) C dX8_step_0 rfl ?_
  refine c_get (k := 1) C ck_9 dX8_step_1 w1_104 (by decide) t_a0 rfl rfl (by decide) rfl ?_
  refine c_if_ne (tgt := 13) C (r32_c (lo := 0) (hi := 1) ri2.1 ri2.2 (by decide) (by decide)) dX8_step_4 (by decide) (fun c1 => ?_) (fun c1 => ?_)
  · refine c_aload_n (j := 2) (x := a2) C dX8_step_13 rfl ?_
    refine d_callV (As := []) (rest := []) C hM (G_wclear2 (a0 := a2) hW hS t_a2  ) dX8_step_14 kV_X8_43 rfl t_a2 rfl rfl (by decide) ck_7 rfl (Nat.le_of_ble_eq_true rfl) ⟨(Nat.le_of_ble_eq_true rfl), (Nat.le_of_ble_eq_true rfl)⟩ hph hph (show 0 + 0 = 0 from rfl) (by decide) (fun rh1 Lh1 clh1 lnh1 ivh1 rvh1 h1 => ?_)
    obtain ⟨rfl, rfl, rfl, rfl, rfl, fl1, W1, exf1⟩ := h1
    have F1 := hF0.call hX0 fl1 rfl
    refine c_st (st2 := []) rfl ?_
    refine hv3 (show 0 ≤ ivh1 a2 4 ∧ ivh1 a2 4 ≤ 500 from W1.int t_a2 4) (show 0 ≤ ivh1 a2 5 ∧ ivh1 a2 5 ≤ 1 from W1.int t_a2 5) (show ivh1 a2 4 = 0 ∧ ivh1 a2 5 = 0 from exf1) (fun ri7 ri8 gf1 => ?_)
    have Lp1 : ∀ (nn : Nat) (ivb1 : Nat → Nat → Int) , 501 - ivb1 a0 0 < (nn : Int) → WT (g0 G) sk L cl ln ivb1 rv → fT [14, 15, 50, 51, 52] L cl iv rv ivb1 rv → (0 ≤ ivb1 a0 0 ∧ ivb1 a0 0 ≤ 500) → (ivb1 a0 1 = iv a0 1) → (ivb1 a2 4 ≤ ivb1 a0 0 - iv a0 0) → (ivb1 a0 2 = iv a0 2) → (PTK iv rv ivb1 a1 a0 a2) → cw p l e 2 ((PHM) + 0 - ((Phi (g0 G) sk) ln rv)) s m args below meth c G A 4 (MQ below (Qu G A (Qp G (Phi (g0 G) sk) ((Phi (g0 G) sk) ln rv) 0 (fun v L2 cl2 ln2 iv2 rv2 => ∃ f : Int, v = some (.int (iI f)) ∧ L = L2 ∧ cl = cl2 ∧ ln = ln2 ∧ rv = rv2 ∧ fT [14, 15, 50, 51, 52] L cl iv rv iv2 rv2 ∧ WT (g0 G) sk L2 cl2 ln2 iv2 rv2 ∧ (-2147483648 ≤ f ∧ f ≤ 2147483647) ∧ (((0 ≤ f ∧ f ≤ 3) ∧ 0 ≤ iv2 a0 0 ∧ iv2 a0 0 ≤ 501 ∧ (iv2 a0 1 = 0 ∨ iv2 a0 0 ≤ 500) ∧ (f = 0 ∨ 2 * iv a0 0 + iv a0 1 < 2 * iv2 a0 0 + iv2 a0 1)) ∧ STP iv rv iv2 a1 a0 a2 f)))) args s (((PHM) + 0 - ((Phi (g0 G) sk) ln rv)) / 16) ((PHM) + 0 - ((Phi (g0 G) sk) ln rv)) A) (Phi (g0 G) sk) ((Phi (g0 G) sk) ln rv) L cl ln ivb1 rv 0 17 [(0, .ref a0), (1, .ref a1), (2, .ref a2)] [] := by
      intro nn
      induction nn with
      | zero =>
        intro   ivb1 hm Wb1 Fb1  hat hin hst hc2 hK
        exact absurd hm (by omega)
      | succ nn ih1 =>
        intro   ivb1 hm Wb1 Fb1  hat hin hst hc2 hK
        refine c_aload_n (j := 0) (x := a0) C dX8_step_17 rfl ?_
        have ri9 : (-2147483648) ≤ ivb1 a0 0 ∧ ivb1 a0 0 ≤ 2147483647 := Wb1.int t_a0 0
        refine c_get (k := 0) C ck_9 dX8_step_18 w1_103 (by decide) t_a0 rfl rfl (by decide) rfl ?_
        refine c_aload_n (j := 1) (x := a1) C dX8_step_21 rfl ?_
        refine hv2 (show 0 ≤ ivb1 a1 2 ∧ ivb1 a1 2 ≤ 500 from Wb1.int t_a1 2) (show ivb1 a1 2 = iv a1 2 from Fb1.i t_a1 rfl 2) (fun ri10 ie4 => ?_)
        refine c_get (k := 2) C ck_2 dX8_step_22 w1_45 (by decide) t_a1 rfl rfl (by decide) rfl ?_
        refine c_icmp_ge (tgt := 106) C (r32_c (lo := (-2147483648)) (hi := 2147483647) ri9.1 ri9.2 (by decide) (by decide)) (r32_c (lo := 0) (hi := 500) ri10.1 ri10.2 (by decide) (by decide)) dX8_step_25 (by decide) (fun c2 => ?_) (fun c2 => ?_)
        · refine c_aload_n (j := 2) (x := a2) C dX8_step_106 rfl ?_
          have ri11 : 0 ≤ ivb1 a2 4 ∧ ivb1 a2 4 ≤ 500 := Wb1.int t_a2 4
          refine c_get (k := 4) C ck_7 dX8_step_107 w1_141 (by decide) t_a2 rfl rfl (by decide) rfl ?_
          refine c_if_le (tgt := 115) C (r32_c (lo := 0) (hi := 500) ri11.1 ri11.2 (by decide) (by decide)) dX8_step_110 (by decide) (fun c3 => ?_) (fun c3 => ?_)
          · refine c_aload_n (j := 0) (x := a0) C dX8_step_115 rfl ?_
            refine c_iconst C dX8_step_116 ?_
            refine c_put (z := 0) (k := 1) C ck_9 dX8_step_117 w1_104 (by decide) rfl t_a0 rfl rfl (by decide) rfl (by decide) (by decide) (fun iv1 pq1 => ?_)
            refine hv2 (Wb1.puti pq1 t_a0 ⟨by decide, by decide⟩ rfl) (Fb1.puti hX0 pq1 t_a0 rfl) (fun W2 F2 => ?_)
            refine c_aload_n (j := 0) (x := a0) C dX8_step_120 rfl ?_
            refine c_dup C dX8_step_121 rfl ?_
            refine hv2 (show (-2147483648) ≤ iv1 a0 0 ∧ iv1 a0 0 ≤ 2147483647 from W2.int t_a0 0) (show iv1 a0 0 = ivb1 a0 0 from by rw [pq1]; exact up2_j (by decide)) (fun ri12 ie6 => ?_)
            refine c_get (k := 0) C ck_9 dX8_step_122 w1_103 (by decide) t_a0 rfl rfl (by decide) rfl ?_
            refine c_iconst C dX8_step_125 ?_
            refine c_iadd C dX8_step_126 ?_
            refine c_put (z := (iv1 a0 0) + 1) (k := 0) C ck_9 dX8_step_127 w1_103 (by decide) rfl t_a0 rfl rfl (by decide) rfl (by rfl) (by rfl) (fun iv2 pq2 => ?_)
            refine hv2 (W2.puti pq2 t_a0 (show (-2147483648) ≤ ((iv1 a0 0) + 1) ∧ ((iv1 a0 0) + 1) ≤ 2147483647 by omega) rfl) (F2.puti hX0 pq2 t_a0 rfl) (fun W3 F3 => ?_)
            refine c_iconst C dX8_step_130 ?_
            refine hv17 (show (-2147483648) ≤ iv2 a0 0 ∧ iv2 a0 0 ≤ 2147483647 from W3.int t_a0 0) (show iv2 a0 0 = (iv1 a0 0) + 1 from by rw [pq2]; exact up2_s) (show 0 ≤ iv2 a0 1 ∧ iv2 a0 1 ≤ 1 from W3.int t_a0 1) (show iv2 a0 1 = iv1 a0 1 from by rw [pq2]; exact up2_j (by decide)) (show iv1 a0 1 = 0 from by rw [pq1]; exact up2_s) (show 0 ≤ iv2 a0 2 ∧ iv2 a0 2 ≤ 1 from W3.int t_a0 2) (show iv2 a0 2 = iv1 a0 2 from by rw [pq2]; exact up2_j (by decide)) (show iv1 a0 2 = ivb1 a0 2 from by rw [pq1]; exact up2_j (by decide)) (show 0 ≤ iv2 a2 4 ∧ iv2 a2 4 ≤ 500 from W3.int t_a2 4) (show iv2 a2 4 = iv1 a2 4 from by rw [pq2]; exact up2_k (ne_ty t_a2 t_a0 (by decide))) (show iv1 a2 4 = ivb1 a2 4 from by rw [pq1]; exact up2_k (ne_ty t_a2 t_a0 (by decide))) (show 0 ≤ iv2 a2 5 ∧ iv2 a2 5 ≤ 1 from W3.int t_a2 5) (show iv2 a2 5 = iv1 a2 5 from by rw [pq2]; exact up2_k (ne_ty t_a2 t_a0 (by decide))) (show iv1 a2 5 = ivb1 a2 5 from by rw [pq1]; exact up2_k (ne_ty t_a2 t_a0 (by decide))) (show 0 ≤ iv2 a1 2 ∧ iv2 a1 2 ≤ 500 from W3.int t_a1 2) (show iv2 a1 2 = iv1 a1 2 from by rw [pq2]; exact up2_k (ne_ty t_a1 t_a0 (by decide))) (show iv1 a1 2 = ivb1 a1 2 from by rw [pq1]; exact up2_k (ne_ty t_a1 t_a0 (by decide))) (fun ri13 ie7 ri14 ie8 ie9 ri15 ie10 ie11 ri16 ie13 ie14 ri17 ie15 ie16 ri18 ie18 ie19 => ?_)
            exact c_iret C dX8_step_131 rfl (by decide) (rom0 hph hph (by decide)) ⟨3, rfl, rfl, rfl, rfl, rfl, F3, W3, ⟨by decide, by decide⟩, ⟨by omega, STP.fin3 (by omega) hK (fun tt ht => Or.inl (by omega)) (by omega) (by omega) rfl (by omega) (by omega) (by omega)⟩⟩
          · refine c_iconst C dX8_step_113 ?_
            refine hv3 (show 0 ≤ ivb1 a0 1 ∧ ivb1 a0 1 ≤ 1 from Wb1.int t_a0 1) (show 0 ≤ ivb1 a0 2 ∧ ivb1 a0 2 ≤ 1 from Wb1.int t_a0 2) (show 0 ≤ ivb1 a2 5 ∧ ivb1 a2 5 ≤ 1 from Wb1.int t_a2 5) (fun ri19 ri20 ri21 => ?_)
            exact c_iret C dX8_step_114 rfl (by decide) (rom0 hph hph (by decide)) ⟨2, rfl, rfl, rfl, rfl, rfl, Fb1, Wb1, ⟨by decide, by decide⟩, ⟨by omega, STP.fin2 (by omega) hK (fun tt ht => Or.inl (by omega)) (by omega) (by omega) rfl (by omega) (by omega)⟩⟩
        · have J1 : ∀ (ivb2 : Nat → Nat → Int) , WT (g0 G) sk L cl ln ivb2 rv → fT [14, 15, 50, 51, 52] L cl iv rv ivb2 rv → (0 ≤ ivb2 a0 0 ∧ ivb2 a0 0 < iv a1 2) → (ivb2 a0 1 = iv a0 1) → (500 - ivb2 a0 0 < (nn : Int)) → (ivb2 a2 4 ≤ ivb2 a0 0 + 1 - iv a0 0) → (ivb2 a0 2 = iv a0 2) → (PTN iv rv ivb2 a1 a0 a2) → cw p l e 2 ((PHM) + 0 - ((Phi (g0 G) sk) ln rv)) s m args below meth c G A 4 (MQ below (Qu G A (Qp G (Phi (g0 G) sk) ((Phi (g0 G) sk) ln rv) 0 (fun v L2 cl2 ln2 iv2 rv2 => ∃ f : Int, v = some (.int (iI f)) ∧ L = L2 ∧ cl = cl2 ∧ ln = ln2 ∧ rv = rv2 ∧ fT [14, 15, 50, 51, 52] L cl iv rv iv2 rv2 ∧ WT (g0 G) sk L2 cl2 ln2 iv2 rv2 ∧ (-2147483648 ≤ f ∧ f ≤ 2147483647) ∧ (((0 ≤ f ∧ f ≤ 3) ∧ 0 ≤ iv2 a0 0 ∧ iv2 a0 0 ≤ 501 ∧ (iv2 a0 1 = 0 ∨ iv2 a0 0 ≤ 500) ∧ (f = 0 ∨ 2 * iv a0 0 + iv a0 1 < 2 * iv2 a0 0 + iv2 a0 1)) ∧ STP iv rv iv2 a1 a0 a2 f)))) args s (((PHM) + 0 - ((Phi (g0 G) sk) ln rv)) / 16) ((PHM) + 0 - ((Phi (g0 G) sk) ln rv)) A) (Phi (g0 G) sk) ((Phi (g0 G) sk) ln rv) L cl ln ivb2 rv 0 93 [(0, .ref a0), (1, .ref a1), (2, .ref a2)] [] := by
            intro   ivb2 Wb2 Fb2  hb hbi hbm hst2 hc3 hN
            refine c_aload_n (j := 0) (x := a0) C dX8_step_93 rfl ?_
            refine c_dup C dX8_step_94 rfl ?_
            have ri22 : (-2147483648) ≤ ivb2 a0 0 ∧ ivb2 a0 0 ≤ 2147483647 := Wb2.int t_a0 0
            refine c_get (k := 0) C ck_9 dX8_step_95 w1_103 (by decide) t_a0 rfl rfl (by decide) rfl ?_
            refine c_iconst C dX8_step_98 ?_
            refine c_iadd C dX8_step_99 ?_
            refine c_put (z := (ivb2 a0 0) + 1) (k := 0) C ck_9 dX8_step_100 w1_103 (by decide) rfl t_a0 rfl rfl (by decide) rfl (by rfl) (by rfl) (fun iv3 pq3 => ?_)
            refine hv2 (Wb2.puti pq3 t_a0 (show (-2147483648) ≤ ((ivb2 a0 0) + 1) ∧ ((ivb2 a0 0) + 1) ≤ 2147483647 by omega) rfl) (Fb2.puti hX0 pq3 t_a0 rfl) (fun W4 F4 => ?_)
            refine c_goto (tgt := 17) C dX8_step_103 (by decide) ?_
            refine hv13 (show (-2147483648) ≤ iv3 a0 0 ∧ iv3 a0 0 ≤ 2147483647 from W4.int t_a0 0) (show iv3 a0 0 = (ivb2 a0 0) + 1 from by rw [pq3]; exact up2_s) (show 0 ≤ iv3 a0 1 ∧ iv3 a0 1 ≤ 1 from W4.int t_a0 1) (show iv3 a0 1 = ivb2 a0 1 from by rw [pq3]; exact up2_j (by decide)) (show 0 ≤ iv3 a2 4 ∧ iv3 a2 4 ≤ 500 from W4.int t_a2 4) (show iv3 a2 4 = ivb2 a2 4 from by rw [pq3]; exact up2_k (ne_ty t_a2 t_a0 (by decide))) (show 0 ≤ iv3 a0 2 ∧ iv3 a0 2 ≤ 1 from W4.int t_a0 2) (show iv3 a0 2 = ivb2 a0 2 from by rw [pq3]; exact up2_j (by decide)) (show 0 ≤ iv3 a2 5 ∧ iv3 a2 5 ≤ 1 from W4.int t_a2 5) (show iv3 a2 5 = ivb2 a2 5 from by rw [pq3]; exact up2_k (ne_ty t_a2 t_a0 (by decide))) (show 0 ≤ iv3 a1 2 ∧ iv3 a1 2 ≤ 500 from W4.int t_a1 2) (show iv3 a1 2 = ivb2 a1 2 from by rw [pq3]; exact up2_k (ne_ty t_a1 t_a0 (by decide))) (show ivb2 a1 2 = iv a1 2 from Fb2.i t_a1 rfl 2) (fun ri23 ie24 ri24 ie25 ri25 ie27 ri26 ie29 ri27 ie31 ri28 ie33 ie34 => ?_)
            refine c_lv (lv2 := [(0, .ref a0), (1, .ref a1), (2, .ref a2)]) [0, 1, 2] rfl ?_
            exact ih1   _ (by omega) W4 F4  (by show 0 ≤ iv3 a0 0 ∧ iv3 a0 0 ≤ 500; omega) (ie25.trans hbi) (by show iv3 a2 4 ≤ iv3 a0 0 - iv a0 0; omega) (ie29.trans hc3) (hN.next Wb2 pq3 (by omega) t_a0 t_a2)
          refine c_aload_n (j := 1) (x := a1) C dX8_step_28 rfl ?_
          refine c_aload_n (j := 0) (x := a0) C dX8_step_29 rfl ?_
          refine c_get (k := 0) C ck_9 dX8_step_30 w1_103 (by decide) t_a0 rfl rfl (by decide) rfl ?_
          refine d_callV (As := [.int (iI (ivb1 a0 0))]) (rest := []) C hM (C_at_3 (a0 := a1) (i := ivb1 a0 0) Wb1 hS t_a1 (by omega) ) dX8_step_33 kV_X8_53 rfl t_a1 rfl rfl (by decide) ck_2 rfl (Nat.le_of_ble_eq_true rfl) ⟨(Nat.le_of_ble_eq_true rfl), (Nat.le_of_ble_eq_true rfl)⟩ hph hph (show 0 + 0 = 0 from rfl) (by decide) (fun rh2 Lh2 clh2 lnh2 ivh2 rvh2 h2 => ?_)
          obtain ⟨f2, rfl, rfl, rfl, rfl, rfl, rfl, rgf2, exf2⟩ := h2
          refine c_st (st2 := [.int (iI f2)]) rfl ?_
          have gf2 : ((0 ≤ (ivb1 a0 0) ∧ (ivb1 a0 0) < ivb1 a1 2) ∨ f2 = 0) ∧ ∀ ss, CT ivb1 rv a1 ss → 0 ≤ (ivb1 a0 0) → (ivb1 a0 0) < ivb1 a1 2 → f2 = ss (ivb1 a0 0).toNat := exf2
          refine c_bipush (z := 10) C dX8_step_36 (by decide) ?_
          refine c_icmp_eq (tgt := 106) C ⟨by omega, by omega⟩ ⟨by decide, by decide⟩ dX8_step_38 (by decide) (fun c4 => ?_) (fun c4 => ?_)
          · refine c_aload_n (j := 2) (x := a2) C dX8_step_106 rfl ?_
            have ri29 : 0 ≤ ivb1 a2 4 ∧ ivb1 a2 4 ≤ 500 := Wb1.int t_a2 4
            refine c_get (k := 4) C ck_7 dX8_step_107 w1_141 (by decide) t_a2 rfl rfl (by decide) rfl ?_
            refine c_if_le (tgt := 115) C (r32_c (lo := 0) (hi := 500) ri29.1 ri29.2 (by decide) (by decide)) dX8_step_110 (by decide) (fun c5 => ?_) (fun c5 => ?_)
            · refine c_aload_n (j := 0) (x := a0) C dX8_step_115 rfl ?_
              refine c_iconst C dX8_step_116 ?_
              refine c_put (z := 0) (k := 1) C ck_9 dX8_step_117 w1_104 (by decide) rfl t_a0 rfl rfl (by decide) rfl (by decide) (by decide) (fun iv4 pq4 => ?_)
              refine hv2 (Wb1.puti pq4 t_a0 ⟨by decide, by decide⟩ rfl) (Fb1.puti hX0 pq4 t_a0 rfl) (fun W6 F5 => ?_)
              refine c_aload_n (j := 0) (x := a0) C dX8_step_120 rfl ?_
              refine c_dup C dX8_step_121 rfl ?_
              refine hv2 (show (-2147483648) ≤ iv4 a0 0 ∧ iv4 a0 0 ≤ 2147483647 from W6.int t_a0 0) (show iv4 a0 0 = ivb1 a0 0 from by rw [pq4]; exact up2_j (by decide)) (fun ri30 ie36 => ?_)
              refine c_get (k := 0) C ck_9 dX8_step_122 w1_103 (by decide) t_a0 rfl rfl (by decide) rfl ?_
              refine c_iconst C dX8_step_125 ?_
              refine c_iadd C dX8_step_126 ?_
              refine c_put (z := (iv4 a0 0) + 1) (k := 0) C ck_9 dX8_step_127 w1_103 (by decide) rfl t_a0 rfl rfl (by decide) rfl (by rfl) (by rfl) (fun iv5 pq5 => ?_)
              refine hv2 (W6.puti pq5 t_a0 (show (-2147483648) ≤ ((iv4 a0 0) + 1) ∧ ((iv4 a0 0) + 1) ≤ 2147483647 by omega) rfl) (F5.puti hX0 pq5 t_a0 rfl) (fun W7 F6 => ?_)
              refine c_iconst C dX8_step_130 ?_
              refine hv17 (show (-2147483648) ≤ iv5 a0 0 ∧ iv5 a0 0 ≤ 2147483647 from W7.int t_a0 0) (show iv5 a0 0 = (iv4 a0 0) + 1 from by rw [pq5]; exact up2_s) (show 0 ≤ iv5 a0 1 ∧ iv5 a0 1 ≤ 1 from W7.int t_a0 1) (show iv5 a0 1 = iv4 a0 1 from by rw [pq5]; exact up2_j (by decide)) (show iv4 a0 1 = 0 from by rw [pq4]; exact up2_s) (show 0 ≤ iv5 a0 2 ∧ iv5 a0 2 ≤ 1 from W7.int t_a0 2) (show iv5 a0 2 = iv4 a0 2 from by rw [pq5]; exact up2_j (by decide)) (show iv4 a0 2 = ivb1 a0 2 from by rw [pq4]; exact up2_j (by decide)) (show 0 ≤ iv5 a2 4 ∧ iv5 a2 4 ≤ 500 from W7.int t_a2 4) (show iv5 a2 4 = iv4 a2 4 from by rw [pq5]; exact up2_k (ne_ty t_a2 t_a0 (by decide))) (show iv4 a2 4 = ivb1 a2 4 from by rw [pq4]; exact up2_k (ne_ty t_a2 t_a0 (by decide))) (show 0 ≤ iv5 a2 5 ∧ iv5 a2 5 ≤ 1 from W7.int t_a2 5) (show iv5 a2 5 = iv4 a2 5 from by rw [pq5]; exact up2_k (ne_ty t_a2 t_a0 (by decide))) (show iv4 a2 5 = ivb1 a2 5 from by rw [pq4]; exact up2_k (ne_ty t_a2 t_a0 (by decide))) (show 0 ≤ iv5 a1 2 ∧ iv5 a1 2 ≤ 500 from W7.int t_a1 2) (show iv5 a1 2 = iv4 a1 2 from by rw [pq5]; exact up2_k (ne_ty t_a1 t_a0 (by decide))) (show iv4 a1 2 = ivb1 a1 2 from by rw [pq4]; exact up2_k (ne_ty t_a1 t_a0 (by decide))) (fun ri31 ie37 ri32 ie38 ie39 ri33 ie40 ie41 ri34 ie43 ie44 ri35 ie45 ie46 ri36 ie48 ie49 => ?_)
              exact c_iret C dX8_step_131 rfl (by decide) (rom0 hph hph (by decide)) ⟨3, rfl, rfl, rfl, rfl, rfl, F6, W7, ⟨by decide, by decide⟩, ⟨by omega, STP.fin3 (by omega) hK (fun tt ht => Or.inr (by have e := gf2.2 tt (CT.frn ht Wb1 t_a1 Fb1 rfl rfl rfl rfl rfl) (by omega) (by omega); rw [← e]; omega)) (by omega) (by omega) rfl (by omega) (by omega) (by omega)⟩⟩
            · refine c_iconst C dX8_step_113 ?_
              refine hv3 (show 0 ≤ ivb1 a0 1 ∧ ivb1 a0 1 ≤ 1 from Wb1.int t_a0 1) (show 0 ≤ ivb1 a0 2 ∧ ivb1 a0 2 ≤ 1 from Wb1.int t_a0 2) (show 0 ≤ ivb1 a2 5 ∧ ivb1 a2 5 ≤ 1 from Wb1.int t_a2 5) (fun ri37 ri38 ri39 => ?_)
              exact c_iret C dX8_step_114 rfl (by decide) (rom0 hph hph (by decide)) ⟨2, rfl, rfl, rfl, rfl, rfl, Fb1, Wb1, ⟨by decide, by decide⟩, ⟨by omega, STP.fin2 (by omega) hK (fun tt ht => Or.inr (by have e := gf2.2 tt (CT.frn ht Wb1 t_a1 Fb1 rfl rfl rfl rfl rfl) (by omega) (by omega); rw [← e]; omega)) (by omega) (by omega) rfl (by omega) (by omega)⟩⟩
          · refine c_aload_n (j := 1) (x := a1) C dX8_step_41 rfl ?_
            refine c_aload_n (j := 0) (x := a0) C dX8_step_42 rfl ?_
            refine c_get (k := 0) C ck_9 dX8_step_43 w1_103 (by decide) t_a0 rfl rfl (by decide) rfl ?_
            refine d_callV (As := [.int (iI (ivb1 a0 0))]) (rest := []) C hM (C_at_3 (a0 := a1) (i := ivb1 a0 0) Wb1 hS t_a1 (by omega) ) dX8_step_46 kV_X8_53 rfl t_a1 rfl rfl (by decide) ck_2 rfl (Nat.le_of_ble_eq_true rfl) ⟨(Nat.le_of_ble_eq_true rfl), (Nat.le_of_ble_eq_true rfl)⟩ hph hph (show 0 + 0 = 0 from rfl) (by decide) (fun rh3 Lh3 clh3 lnh3 ivh3 rvh3 h3 => ?_)
            obtain ⟨f3, rfl, rfl, rfl, rfl, rfl, rfl, rgf3, exf3⟩ := h3
            refine c_st (st2 := [.int (iI f3)]) rfl ?_
            have gf3 : ((0 ≤ (ivb1 a0 0) ∧ (ivb1 a0 0) < ivb1 a1 2) ∨ f3 = 0) ∧ ∀ ss, CT ivb1 rv a1 ss → 0 ≤ (ivb1 a0 0) → (ivb1 a0 0) < ivb1 a1 2 → f3 = ss (ivb1 a0 0).toNat := exf3
            refine c_istore_n (lv2 := [(3, .int (iI f3)), (0, .ref a0), (1, .ref a1), (2, .ref a2)]) C dX8_step_49 (by decide) rfl ?_
            refine c_iload_n (j := 0) C dX8_step_50 rfl ?_
            refine c_bipush (z := 32) C dX8_step_51 (by decide) ?_
            refine c_icmp_ne (tgt := 65) C ⟨by omega, by omega⟩ ⟨by decide, by decide⟩ dX8_step_53 (by decide) (fun c6 => ?_) (fun c6 => ?_)
            · refine c_iload_n (j := 0) C dX8_step_65 rfl ?_
              refine c_bipush (z := 126) C dX8_step_66 (by decide) ?_
              refine c_icmp_ne (tgt := 78) C ⟨by omega, by omega⟩ ⟨by decide, by decide⟩ dX8_step_68 (by decide) (fun c7 => ?_) (fun c7 => ?_)
              · refine c_iload_n (j := 0) C dX8_step_78 rfl ?_
                refine c_bipush (z := 32) C dX8_step_79 (by decide) ?_
                refine c_icmp_eq (tgt := 93) C ⟨by omega, by omega⟩ ⟨by decide, by decide⟩ dX8_step_81 (by decide) (fun z => absurd z (by omega)) (fun _ => ?_)
                refine c_aload_n (j := 3) (x := a2) C dX8_step_84 rfl ?_
                refine c_iload_n (j := 0) C dX8_step_85 rfl ?_
                refine c_aload_n (j := 1) (x := a0) C dX8_step_86 rfl ?_
                refine c_get (k := 0) C ck_9 dX8_step_87 w1_103 (by decide) t_a0 rfl rfl (by decide) rfl ?_
                have ri40 : 0 ≤ ivb1 a2 4 ∧ ivb1 a2 4 ≤ 500 := Wb1.int t_a2 4
                refine d_callV (As := [.int (iI f3), .int (iI (ivb1 a0 0))]) (rest := []) C hM (G_put2 (a0 := a2) (x := f3) (y := ivb1 a0 0) Wb1 hS t_a2 (by omega) (by omega) ) dX8_step_90 kV_X8_60 rfl t_a2 rfl rfl (by decide) ck_7 rfl (Nat.le_of_ble_eq_true rfl) ⟨(Nat.le_of_ble_eq_true rfl), (Nat.le_of_ble_eq_true rfl)⟩ hph hph (show 0 + 0 = 0 from rfl) (by decide) (fun rh4 Lh4 clh4 lnh4 ivh4 rvh4 h4 => ?_)
                obtain ⟨rfl, rfl, rfl, rfl, rfl, fl4, W9, exf4⟩ := h4
                have F7 := Fb1.call hX0 fl4 rfl
                refine c_st (st2 := []) rfl ?_
                refine hv11 (show 0 ≤ ivh4 a2 4 ∧ ivh4 a2 4 ≤ 500 from W9.int t_a2 4) (show (ivh4 a2 4 ≤ ivb1 a2 4 + 1) ∧ PT2 ivb1 rv ivh4 a2 f3 (ivb1 a0 0) from exf4) (show (-2147483648) ≤ ivh4 a0 0 ∧ ivh4 a0 0 ≤ 2147483647 from W9.int t_a0 0) (show ivh4 a0 0 = ivb1 a0 0 from fl4.i t_a0 rfl 0) (show 0 ≤ ivh4 a0 1 ∧ ivh4 a0 1 ≤ 1 from W9.int t_a0 1) (show ivh4 a0 1 = ivb1 a0 1 from fl4.i t_a0 rfl 1) (show 0 ≤ ivh4 a0 2 ∧ ivh4 a0 2 ≤ 1 from W9.int t_a0 2) (show ivh4 a0 2 = ivb1 a0 2 from fl4.i t_a0 rfl 2) (show 0 ≤ ivh4 a2 5 ∧ ivh4 a2 5 ≤ 1 from W9.int t_a2 5) (show 0 ≤ ivh4 a1 2 ∧ ivh4 a1 2 ≤ 500 from W9.int t_a1 2) (show ivh4 a1 2 = ivb1 a1 2 from fl4.i t_a1 rfl 2) (fun ri41 gf4 ri42 ie55 ri43 ie56 ri44 ie58 ri45 ri46 ie61 => ?_)
                refine c_lv (lv2 := [(0, .ref a0), (1, .ref a1), (2, .ref a2)]) [1, 2, 3] rfl ?_
                exact J1   _  W9 F7  (by show 0 ≤ ivh4 a0 0 ∧ ivh4 a0 0 < iv a1 2; omega) (ie56.trans hin) (by show 500 - ivh4 a0 0 < (nn : Int); omega) (by show ivh4 a2 4 ≤ ivh4 a0 0 + 1 - iv a0 0; omega) (ie58.trans hc2) (hK.ltr (fun tt ht => gf2.2 tt (CT.frn ht Wb1 t_a1 Fb1 rfl rfl rfl rfl rfl) (by omega) (by omega)) (fun tt ht => gf3.2 tt (CT.frn ht Wb1 t_a1 Fb1 rfl rfl rfl rfl rfl) (by omega) (by omega)) (by omega) (by omega) (by omega) ⟨by omega, by omega⟩ gf4.2 (by omega) rfl (by omega))
              · refine c_aload_n (j := 3) (x := a2) C dX8_step_71 rfl ?_
                have ri47 : 0 ≤ ivb1 a2 4 ∧ ivb1 a2 4 ≤ 500 := Wb1.int t_a2 4
                refine d_callV (As := []) (rest := []) C hM (G_putBreak (a0 := a2) Wb1 hS t_a2  ) dX8_step_72 kV_X8_57 rfl t_a2 rfl rfl (by decide) ck_7 rfl (Nat.le_of_ble_eq_true rfl) ⟨(Nat.le_of_ble_eq_true rfl), (Nat.le_of_ble_eq_true rfl)⟩ hph hph (show 0 + 0 = 0 from rfl) (by decide) (fun rh5 Lh5 clh5 lnh5 ivh5 rvh5 h5 => ?_)
                obtain ⟨rfl, rfl, rfl, rfl, rfl, fl5, W10, exf5⟩ := h5
                have F8 := Fb1.call hX0 fl5 rfl
                refine c_st (st2 := []) rfl ?_
                refine hv3 (show 0 ≤ ivh5 a2 4 ∧ ivh5 a2 4 ≤ 500 from W10.int t_a2 4) (show 0 ≤ ivh5 a2 5 ∧ ivh5 a2 5 ≤ 1 from W10.int t_a2 5) (show ivh5 a2 4 = ivb1 a2 4 ∧ ivh5 a2 5 = 1 from exf5) (fun ri48 ri49 gf5 => ?_)
                refine c_goto (tgt := 93) C dX8_step_75 (by decide) ?_
                refine hv8 (show (-2147483648) ≤ ivh5 a0 0 ∧ ivh5 a0 0 ≤ 2147483647 from W10.int t_a0 0) (show ivh5 a0 0 = ivb1 a0 0 from fl5.i t_a0 rfl 0) (show 0 ≤ ivh5 a0 1 ∧ ivh5 a0 1 ≤ 1 from W10.int t_a0 1) (show ivh5 a0 1 = ivb1 a0 1 from fl5.i t_a0 rfl 1) (show 0 ≤ ivh5 a0 2 ∧ ivh5 a0 2 ≤ 1 from W10.int t_a0 2) (show ivh5 a0 2 = ivb1 a0 2 from fl5.i t_a0 rfl 2) (show 0 ≤ ivh5 a1 2 ∧ ivh5 a1 2 ≤ 500 from W10.int t_a1 2) (show ivh5 a1 2 = ivb1 a1 2 from fl5.i t_a1 rfl 2) (fun ri50 ie65 ri51 ie66 ri52 ie68 ri53 ie70 => ?_)
                refine c_lv (lv2 := [(0, .ref a0), (1, .ref a1), (2, .ref a2)]) [1, 2, 3] rfl ?_
                exact J1   _  W10 F8  (by show 0 ≤ ivh5 a0 0 ∧ ivh5 a0 0 < iv a1 2; omega) (ie66.trans hin) (by show 500 - ivh5 a0 0 < (nn : Int); omega) (by show ivh5 a2 4 ≤ ivh5 a0 0 + 1 - iv a0 0; omega) (ie68.trans hc2) (hK.til (fun tt ht => gf3.2 tt (CT.frn ht Wb1 t_a1 Fb1 rfl rfl rfl rfl rfl) (by omega) (by omega)) (by omega) ⟨by omega, by omega⟩ (by omega) (by omega) (fun w hw => hw.ni Wb1 fl5 t_a2 (by omega) rfl rfl rfl))
            · refine c_aload_n (j := 3) (x := a2) C dX8_step_56 rfl ?_
              have ri54 : 0 ≤ ivb1 a2 4 ∧ ivb1 a2 4 ≤ 500 := Wb1.int t_a2 4
              refine c_get (k := 4) C ck_7 dX8_step_57 w1_141 (by decide) t_a2 rfl rfl (by decide) rfl ?_
              refine c_if_le (tgt := 65) C (r32_c (lo := 0) (hi := 500) ri54.1 ri54.2 (by decide) (by decide)) dX8_step_60 (by decide) (fun c8 => ?_) (fun c8 => ?_)
              · refine c_iload_n (j := 0) C dX8_step_65 rfl ?_
                refine c_bipush (z := 126) C dX8_step_66 (by decide) ?_
                refine c_icmp_ne (tgt := 78) C ⟨by omega, by omega⟩ ⟨by decide, by decide⟩ dX8_step_68 (by decide) (fun c9 => ?_) (fun c9 => ?_)
                · refine c_iload_n (j := 0) C dX8_step_78 rfl ?_
                  refine c_bipush (z := 32) C dX8_step_79 (by decide) ?_
                  refine c_icmp_eq (tgt := 93) C ⟨by omega, by omega⟩ ⟨by decide, by decide⟩ dX8_step_81 (by decide) (fun _ => ?_) (fun z => absurd z (by omega))
                  refine hv3 (show 0 ≤ ivb1 a0 1 ∧ ivb1 a0 1 ≤ 1 from Wb1.int t_a0 1) (show 0 ≤ ivb1 a0 2 ∧ ivb1 a0 2 ≤ 1 from Wb1.int t_a0 2) (show 0 ≤ ivb1 a2 5 ∧ ivb1 a2 5 ≤ 1 from Wb1.int t_a2 5) (fun ri55 ri56 ri57 => ?_)
                  refine c_lv (lv2 := [(0, .ref a0), (1, .ref a1), (2, .ref a2)]) [1, 2, 3] rfl ?_
                  exact J1   _  Wb1 Fb1  (by show 0 ≤ ivb1 a0 0 ∧ ivb1 a0 0 < iv a1 2; omega) hin (by show 500 - ivb1 a0 0 < (nn : Int); omega) (by show ivb1 a2 4 ≤ ivb1 a0 0 + 1 - iv a0 0; omega) hc2 (hK.sp (fun tt ht => gf3.2 tt (CT.frn ht Wb1 t_a1 Fb1 rfl rfl rfl rfl rfl) (by omega) (by omega)) (by omega) ⟨by omega, by omega⟩ (by omega))
                · refine c_aload_n (j := 3) (x := a2) C dX8_step_71 rfl ?_
                  refine d_callV (As := []) (rest := []) C hM (G_putBreak (a0 := a2) Wb1 hS t_a2  ) dX8_step_72 kV_X8_57 rfl t_a2 rfl rfl (by decide) ck_7 rfl (Nat.le_of_ble_eq_true rfl) ⟨(Nat.le_of_ble_eq_true rfl), (Nat.le_of_ble_eq_true rfl)⟩ hph hph (show 0 + 0 = 0 from rfl) (by decide) (fun rh6 Lh6 clh6 lnh6 ivh6 rvh6 h6 => ?_)
                  obtain ⟨rfl, rfl, rfl, rfl, rfl, fl6, W11, exf6⟩ := h6
                  have F9 := Fb1.call hX0 fl6 rfl
                  refine c_st (st2 := []) rfl ?_
                  refine hv3 (show 0 ≤ ivh6 a2 4 ∧ ivh6 a2 4 ≤ 500 from W11.int t_a2 4) (show 0 ≤ ivh6 a2 5 ∧ ivh6 a2 5 ≤ 1 from W11.int t_a2 5) (show ivh6 a2 4 = ivb1 a2 4 ∧ ivh6 a2 5 = 1 from exf6) (fun ri58 ri59 gf6 => ?_)
                  refine c_goto (tgt := 93) C dX8_step_75 (by decide) ?_
                  refine hv8 (show (-2147483648) ≤ ivh6 a0 0 ∧ ivh6 a0 0 ≤ 2147483647 from W11.int t_a0 0) (show ivh6 a0 0 = ivb1 a0 0 from fl6.i t_a0 rfl 0) (show 0 ≤ ivh6 a0 1 ∧ ivh6 a0 1 ≤ 1 from W11.int t_a0 1) (show ivh6 a0 1 = ivb1 a0 1 from fl6.i t_a0 rfl 1) (show 0 ≤ ivh6 a0 2 ∧ ivh6 a0 2 ≤ 1 from W11.int t_a0 2) (show ivh6 a0 2 = ivb1 a0 2 from fl6.i t_a0 rfl 2) (show 0 ≤ ivh6 a1 2 ∧ ivh6 a1 2 ≤ 500 from W11.int t_a1 2) (show ivh6 a1 2 = ivb1 a1 2 from fl6.i t_a1 rfl 2) (fun ri60 ie77 ri61 ie78 ri62 ie80 ri63 ie82 => ?_)
                  refine c_lv (lv2 := [(0, .ref a0), (1, .ref a1), (2, .ref a2)]) [1, 2, 3] rfl ?_
                  exact J1   _  W11 F9  (by show 0 ≤ ivh6 a0 0 ∧ ivh6 a0 0 < iv a1 2; omega) (ie78.trans hin) (by show 500 - ivh6 a0 0 < (nn : Int); omega) (by show ivh6 a2 4 ≤ ivh6 a0 0 + 1 - iv a0 0; omega) (ie80.trans hc2) (hK.til (fun tt ht => gf3.2 tt (CT.frn ht Wb1 t_a1 Fb1 rfl rfl rfl rfl rfl) (by omega) (by omega)) (by omega) ⟨by omega, by omega⟩ (by omega) (by omega) (fun w hw => hw.ni Wb1 fl6 t_a2 (by omega) rfl rfl rfl))
              · refine c_iconst C dX8_step_63 ?_
                refine hv3 (show 0 ≤ ivb1 a0 1 ∧ ivb1 a0 1 ≤ 1 from Wb1.int t_a0 1) (show 0 ≤ ivb1 a0 2 ∧ ivb1 a0 2 ≤ 1 from Wb1.int t_a0 2) (show 0 ≤ ivb1 a2 5 ∧ ivb1 a2 5 ≤ 1 from Wb1.int t_a2 5) (fun ri64 ri65 ri66 => ?_)
                exact c_iret C dX8_step_64 rfl (by decide) (rom0 hph hph (by decide)) ⟨2, rfl, rfl, rfl, rfl, rfl, Fb1, Wb1, ⟨by decide, by decide⟩, ⟨by omega, STP.sp (by omega) hK (fun tt ht => gf3.2 tt (CT.frn ht Wb1 t_a1 Fb1 rfl rfl rfl rfl rfl) (by omega) (by omega)) (by omega) ⟨by omega, by omega⟩ (by omega) rfl (by omega) (by omega)⟩⟩
    refine hv8 (show (-2147483648) ≤ ivh1 a0 0 ∧ ivh1 a0 0 ≤ 2147483647 from W1.int t_a0 0) (show ivh1 a0 0 = iv a0 0 from fl1.i t_a0 rfl 0) (show 0 ≤ ivh1 a0 1 ∧ ivh1 a0 1 ≤ 1 from W1.int t_a0 1) (show ivh1 a0 1 = iv a0 1 from fl1.i t_a0 rfl 1) (show 0 ≤ ivh1 a0 2 ∧ ivh1 a0 2 ≤ 1 from W1.int t_a0 2) (show ivh1 a0 2 = iv a0 2 from fl1.i t_a0 rfl 2) (show 0 ≤ ivh1 a1 2 ∧ ivh1 a1 2 ≤ 500 from W1.int t_a1 2) (show ivh1 a1 2 = iv a1 2 from fl1.i t_a1 rfl 2) (fun ri67 ie86 ri68 ie87 ri69 ie88 ri70 ie89 => ?_)
    refine c_lv (lv2 := [(0, .ref a0), (1, .ref a1), (2, .ref a2)]) [0, 1, 2] rfl ?_
    exact Lp1 503  _ (by omega) W1 F1  (by show 0 ≤ ivh1 a0 0 ∧ ivh1 a0 0 ≤ 500; omega) ie87 (by show ivh1 a2 4 ≤ ivh1 a0 0 - iv a0 0; omega) ie88 (PTK.init (by omega) (by omega) (by omega))
  · refine c_aload_n (j := 0) (x := a0) C dX8_step_7 rfl ?_
    refine c_aload_n (j := 1) (x := a1) C dX8_step_8 rfl ?_
    refine d_callV (As := [.ref a1]) (rest := []) C hM (G_enterLine (a0 := a0) (a1 := a1) hW hS t_a0 t_a1  (by show 0 ≤ iv a0 0 ∧ iv a0 0 ≤ 501 ∧ (iv a0 1 = 0 ∨ iv a0 0 ≤ 500); omega)) dX8_step_9 kV_X8_39 rfl t_a0 rfl rfl (by decide) ck_9 rfl (Nat.le_of_ble_eq_true rfl) ⟨(Nat.le_of_ble_eq_true rfl), (Nat.le_of_ble_eq_true rfl)⟩ hph hph (show 0 + 0 = 0 from rfl) (by decide) (fun rh7 Lh7 clh7 lnh7 ivh7 rvh7 h7 => ?_)
    obtain ⟨f7, rfl, rfl, rfl, rfl, rfl, fl7, W12, rgf7, exf7⟩ := h7
    have F10 := hF0.call hX0 fl7 rfl
    refine c_st (st2 := [.int (iI f7)]) rfl ?_
    refine hv10 (show (-2147483648) ≤ ivh7 a0 0 ∧ ivh7 a0 0 ≤ 2147483647 from W12.int t_a0 0) (show 0 ≤ ivh7 a0 1 ∧ ivh7 a0 1 ≤ 1 from W12.int t_a0 1) (show 0 ≤ ivh7 a0 2 ∧ ivh7 a0 2 ≤ 1 from W12.int t_a0 2) (show ((f7 = 0 ∨ f7 = 1) ∧ 0 ≤ ivh7 a0 0 ∧ ivh7 a0 0 ≤ 501 ∧ (ivh7 a0 1 = 0 ∨ ivh7 a0 0 ≤ 500) ∧ (f7 = 0 ∨ (ivh7 a0 1 = 1 ∧ iv a0 0 ≤ ivh7 a0 0))) ∧ ∀ tt, CT iv rv a1 tt → (iv a1 2 ≤ iv a0 0 ∧ f7 = 0 ∧ ivh7 a0 0 = iv a0 0 ∧ ivh7 a0 1 = iv a0 1) ∨ (iv a0 0 < iv a1 2 ∧ f7 = 1 ∧ ivh7 a0 1 = 1 ∧ ((tt (iv a0 0).toNat = 94 ∧ ivh7 a0 0 = iv a0 0 + 1 ∧ ivh7 a0 2 = 1) ∨ (tt (iv a0 0).toNat ≠ 94 ∧ ivh7 a0 0 = iv a0 0 ∧ ivh7 a0 2 = 0))) from exf7) (show 0 ≤ ivh7 a2 4 ∧ ivh7 a2 4 ≤ 500 from W12.int t_a2 4) (show ivh7 a2 4 = iv a2 4 from fl7.i t_a2 rfl 4) (show 0 ≤ ivh7 a2 5 ∧ ivh7 a2 5 ≤ 1 from W12.int t_a2 5) (show ivh7 a2 5 = iv a2 5 from fl7.i t_a2 rfl 5) (show 0 ≤ ivh7 a1 2 ∧ ivh7 a1 2 ≤ 500 from W12.int t_a1 2) (show ivh7 a1 2 = iv a1 2 from fl7.i t_a1 rfl 2) (fun ri71 ri72 ri73 gf7 ri74 ie93 ri75 ie94 ri76 ie95 => ?_)
    exact c_iret C dX8_step_12 rfl (by decide) (rom0 hph hph (by decide)) ⟨f7, rfl, rfl, rfl, rfl, rfl, F10, W12, ⟨by omega, by omega⟩, ⟨by omega, STP.no (by omega) (fun tt ht => by
        rcases gf7.2 tt ht with ⟨q1, q2, q3, q4⟩ | q
        · exact Or.inl ⟨q1, q2, q3, by omega⟩
        · exact Or.inr q)⟩⟩
end
section
section VROW
variable {h : Nat} {sk : Nat → Nat} {L : List Nat} {cl ln : Nat → Nat} {iv iv1 iv2 iv3 : Nat → Nat → Int} {rv : Nat → Nat → Option Nat} {s c q b b2 : Nat} {T : Nat → Int} {N : Int} {a : Nat → Nat → Int} {v : Nat → Int} {x y k n n2 m p f cm cm2 i j wy wy2 t : Int} {ls : List Nat} {w : List (Int × Nat × Int)}
theorem PWH.ltw (hw : PWH iv rv s w) (hW : WT h sk L cl ln iv rv) (ts : ty L cl s 15) : LTW iv rv s (lts w) 0 (iv s 4) := fun lb hb j h1 h2 => by
  obtain ⟨g1, g2⟩ := hw
  obtain ⟨b1, q1, _⟩ := hW.ref ts 1 rfl rfl rfl
  obtain ⟨b2, q2, _⟩ := hW.ref ts 2 rfl rfl rfl
  have lt : j.toNat < w.length := by omega
  have g := (g2 lb b1 b2 hb q1 q2 j.toNat _ (List.getElem?_eq_getElem lt)).1
  rw [g]
  show _ = ((w[j.toNat]?).map (fun x => x.1)).getD 0
  (rw [List.getElem?_eq_getElem lt]) <;> rfl
end VROW
end
section
def LNE (iv : Nat → Nat → Int) (rv : Nat → Nat → Option Nat) (r : Nat) (xs : List Int) : Prop := iv r 1 = ((xs.length : Nat) : Int) ∧ ∀ cb, rv r 0 = some cb → ∀ (j : Nat) (x : Int), xs[j]? = some x → iv cb j = x
def LFR (L : List Nat) (cl : Nat → Nat) (iv : Nat → Nat → Int) (rv : Nat → Nat → Option Nat) (iv2 : Nat → Nat → Int) (r : Nat) : Prop := (∀ b, ty L cl b 19 → b ≠ r → iv2 b = iv b) ∧ ∀ b, ty L cl b 64 → rv r 0 ≠ some b → iv2 b = iv b
def LAX (iv : Nat → Nat → Int) (rv : Nat → Nat → Option Nat) (iv2 : Nat → Nat → Int) (r : Nat) (x : Int) : Prop := ∀ xs, LNE iv rv r xs → xs.length < 200 → LNE iv2 rv r (xs ++ [x])
def APK (iv : Nat → Nat → Int) (rv : Nat → Nat → Option Nat) (iv1 : Nat → Nat → Int) (r s : Nat) (i k : Int) : Prop := ∀ xs cs, LNE iv rv r xs → PDH iv rv s cs → cs.length ≤ 200 → k ≤ ((cs.length : Nat) : Int) → (((pql xs).length : Nat) : Int) + (k - i) ≤ 200 → LNE iv1 rv r (pql xs ++ sgm cs i.toNat (k - i).toNat)
def APX (iv : Nat → Nat → Int) (rv : Nat → Nat → Option Nat) (iv2 : Nat → Nat → Int) (r s : Nat) (i j : Int) : Prop := ∀ xs cs, LNE iv rv r xs → PDH iv rv s cs → cs.length ≤ 200 → i ≤ j → j ≤ ((cs.length : Nat) : Int) → (((pql xs).length : Nat) : Int) + (j - i) ≤ 200 → LNE iv2 rv r (pql xs ++ sgm cs i.toNat (j - i).toNat)
def ind (n : Int) (xs : List Int) : List Int := if n ≤ 0 ∨ xs.length = 0 ∨ 200 - ((xs.length : Nat) : Int) < n then xs else List.replicate n.toNat 0 ++ xs
def INX (iv : Nat → Nat → Int) (rv : Nat → Nat → Option Nat) (iv2 : Nat → Nat → Int) (r : Nat) (n : Int) : Prop := ∀ xs, LNE iv rv r xs → LNE iv2 rv r (ind n xs)
def INK (iv : Nat → Nat → Int) (rv : Nat → Nat → Option Nat) (iv1 : Nat → Nat → Int) (r : Nat) (n k : Int) : Prop := ∀ cb, rv r 0 = some cb → ∀ j : Nat, (((j : Nat) : Int) < k → iv1 cb j = 0) ∧ (n ≤ ((j : Nat) : Int) → ((j : Nat) : Int) < n + iv r 1 → iv1 cb j = iv cb (j - n.toNat))
def SBG (iv : Nat → Nat → Int) (rv : Nat → Nat → Option Nat) (s : Nat) (n : Nat) (st : Nat → Int) : Prop := ∀ sb, rv s 3 = some sb → ∀ j : Nat, j < n → iv sb j = st j
def MNO (st : Nat → Int) : Prop := ∀ i j : Nat, i < j → 0 ≤ st i → 0 ≤ st j → st i ≤ st j
def LBV (w : List (Int × Nat × Int)) (k : Int) (st : Nat → Int) (d r : Int) (n : Nat) : Int := if 0 ≤ lbk w k st d r n then lbk w k st d r n else d
def LBX (iv : Nat → Nat → Int) (rv : Nat → Nat → Option Nat) (s : Nat) (x i n f : Int) : Prop := ∀ w st, PWH iv rv s w → (x ≤ 3 → SBG iv rv s w.length st ∧ MNO st) → f = LBV w x st i (n + 1) w.length
def LBI (iv : Nat → Nat → Int) (rv : Nat → Nat → Option Nat) (s : Nat) (x i n k f : Int) : Prop := ∀ w st, PWH iv rv s w → (x ≤ 3 → SBG iv rv s w.length st ∧ MNO st) → f = LBV w x st i (n + 1) k.toNat
def LBO (iv : Nat → Nat → Int) (rv : Nat → Nat → Option Nat) (s : Nat) (i la n k o : Int) : Prop := ∀ w st, PWH iv rv s w → SBG iv rv s w.length st → (o = 1 ↔ (bks w k.toNat ≠ 0 ∧ la < st k.toNat ∧ st k.toNat - i ≤ n))
section LROW
variable {h : Nat} {sk : Nat → Nat} {L : List Nat} {cl ln : Nat → Nat} {iv iv1 iv2 iv3 : Nat → Nat → Int} {rv : Nat → Nat → Option Nat} {r s cb lb bb sb : Nat} {x y z p i k j n d f la o : Int} {xs ys cs : List Int} {w : List (Int × Nat × Int)} {st : Nat → Int} {ls : List Nat}
theorem LFR.refl : LFR L cl iv rv iv r := ⟨fun _ _ _ => rfl, fun _ _ _ => rfl⟩
theorem LFR.self {m : Nat} (h : LFR L cl iv rv iv1 r) (tr : ty L cl r 19) (e : iv2 = up2 iv1 r m z) : LFR L cl iv rv iv2 r := ⟨fun b tb hb => by
  funext q
  rw [e, up2_k hb, h.1 b tb hb], fun b tb hb => by
  funext q
  rw [e, up2_k (ne_ty tb tr (by decide)), h.2 b tb hb]⟩
theorem LFR.cell {m : Nat} (h : LFR L cl iv rv iv1 r) (h0 : rv r 0 = some cb) (tc : ty L cl cb 64) (e : iv2 = up2 iv1 cb m z) : LFR L cl iv rv iv2 r := ⟨fun b tb hb => by
  funext q
  rw [e, up2_k (ne_ty tb tc (by decide)), h.1 b tb hb], fun b tb hb => by
  funext q
  rw [e, up2_k (fun g => hb (by rw [g]; exact h0)), h.2 b tb hb]⟩
theorem LFR.copy {X : Nat → Int} (h : LFR L cl iv rv iv1 r) (h0 : rv r 0 = some cb) (tc : ty L cl cb 64) (e : iv2 = fun u m => if u = cb then X m else iv1 u m) : LFR L cl iv rv iv2 r := ⟨fun b tb hb => by
  funext q
  rw [e]
  show (if b = cb then X q else iv1 b q) = iv b q
  rw [if_neg (ne_ty tb tc (by decide)), h.1 b tb hb], fun b tb hb => by
  funext q
  rw [e]
  show (if b = cb then X q else iv1 b q) = iv b q
  rw [if_neg (fun g => hb (by rw [g]; exact h0)), h.2 b tb hb]⟩
theorem LFR.trans (h : LFR L cl iv rv iv1 r) (h2 : LFR L cl iv1 rv iv2 r) : LFR L cl iv rv iv2 r := ⟨fun b tb hb => (h2.1 b tb hb).trans (h.1 b tb hb), fun b tb hb => (h2.2 b tb hb).trans (h.2 b tb hb)⟩
theorem LNE.nil (h1 : iv r 1 = 0) : LNE iv rv r [] := ⟨h1, fun cb hb j x e => by simp at e⟩
theorem LAX.full (h1 : 200 ≤ iv r 1) : LAX iv rv iv1 r x := fun xs hl hx => by
  have e := hl.1
  omega
theorem LAX.mk (h0 : rv r 0 = some cb) (e1 : iv1 = up2 iv cb p.toNat x) (e2 : iv2 = up2 iv1 r 1 y) (hp : p = iv r 1) (hy : y = iv r 1 + 1) (hne : cb ≠ r) : LAX iv rv iv2 r x := fun xs hl hx => by
  obtain ⟨h1, h2⟩ := hl
  refine ⟨by rw [e2, up2_s, len1]; omega, fun cb' hb j z e => ?_⟩
  rw [h0] at hb; cases hb
  rcases ap1 e with ⟨c, e3⟩ | ⟨c, e3⟩
  · rw [e2, up2_k hne, e1, up2_j (by omega)]
    exact h2 cb h0 j z e3
  · rw [e2, up2_k hne, e1, show j = p.toNat by omega, up2_s]
    exact e3
theorem sgm_len {d : Nat} : ∀ m : Nat, (sgm cs d m).length = m := by
  intro m
  induction m with
  | zero => rfl
  | succ m ih => rw [sgm_s, len1, ih]
theorem pql_len : (pql xs).length = if xs.length = 0 then 0 else xs.length + 1 := by
  unfold pql
  split
  · rfl
  · exact len1
theorem APK.init0 (h1 : iv r 1 ≤ 0) : APK iv rv iv r s i i := fun xs cs hl hp h2 h3 h4 => by
  have e := hl.1
  have e0 : xs = [] := List.length_eq_zero_iff.mp (by omega)
  rw [e0] at hl ⊢
  rw [show (i - i).toNat = 0 by omega]
  exact hl
theorem APK.init1 (hx : LAX iv rv iv1 r 0) (h1 : 0 < iv r 1) : APK iv rv iv1 r s i i := fun xs cs hl hp h2 h3 h4 => by
  have e := hl.1
  have ep : pql xs = xs ++ [0] := by
    unfold pql
    rw [if_neg (by omega)]
  rw [show (i - i).toNat = 0 by omega]
  rw [ep, len1] at h4
  rw [ep]
  show LNE iv1 rv r ((xs ++ [0]) ++ [])
  rw [List.append_nil]
  exact hx xs hl (by omega)
theorem APK.step (h : APK iv rv iv1 r s i k) (hx : LAX iv1 rv iv2 r z) (h6 : rv s 6 = some cb) (hz : z = iv1 cb k.toNat) (he : iv1 cb k.toNat = iv cb k.toNat) (hk : 0 ≤ i ∧ i ≤ k ∧ k < 200) : APK iv rv iv2 r s i (k + 1) := fun xs cs hl hp h2 h3 h4 => by
  refine hv2 (h xs cs hl hp h2 (by omega) (by omega)) (show (pql xs ++ sgm cs i.toNat (k - i).toNat).length = (pql xs).length + (k - i).toNat from by rw [List.length_append, sgm_len]) (fun g ll => ?_)
  have g2 := hx _ g (by omega)
  rw [show (k + 1 - i).toNat = (k - i).toNat + 1 by omega, sgm_s, show i.toNat + (k - i).toNat = k.toNat by omega, ← List.append_assoc]
  have lt : k.toNat < cs.length := by omega
  have ec : (cs[k.toNat]?).getD 0 = z := by
    have e1 : cs[k.toNat]? = some (cs[k.toNat]'lt) := List.getElem?_eq_getElem lt
    have e2 := hp.2 cb h6 k.toNat _ (by omega) e1
    rw [e1, hz, he, e2]
    rfl
  rw [ec]
  exact g2
theorem APX.fin (h : APK iv rv iv1 r s i k) (hk : k = i ∨ k ≤ j) (hx : j ≤ k ∨ 200 ≤ k) : APX iv rv iv1 r s i j := fun xs cs hl hp h2 h3 h4 h5 => by
  have e : k = j := by omega
  subst e
  exact h xs cs hl hp h2 h4 h5
theorem INX.no (h1 : n ≤ 0 ∨ iv r 1 = 0 ∨ 200 - iv r 1 < n) : INX iv rv iv r n := fun xs hl => by
  have e := hl.1
  unfold ind
  rw [if_pos (by omega)]
  exact hl
theorem INK.init {q : Int} (h0 : rv r 0 = some cb) (e : iv1 = fun u m => if u = cb then (if n.toNat ≤ m ∧ m < n.toNat + q.toNat then iv cb ((0 : Int).toNat + (m - n.toNat)) else iv cb m) else iv u m) (hq : q = iv r 1) (h1 : 0 ≤ iv r 1) (hn : 0 ≤ n) : INK iv rv iv1 r n 0 := fun cb' hb j => by
  rw [h0] at hb; cases hb
  refine ⟨fun c => absurd c (by omega), fun c1 c2 => ?_⟩
  rw [e]
  show (if cb = cb then (if n.toNat ≤ j ∧ j < n.toNat + q.toNat then iv cb ((0 : Int).toNat + (j - n.toNat)) else iv cb j) else iv cb j) = _
  rw [if_pos rfl, if_pos (by omega), show (0 : Int).toNat + (j - n.toNat) = j - n.toNat by omega]
theorem INK.step (h : INK iv rv iv1 r n k) (h0 : rv r 0 = some cb) (e : iv2 = up2 iv1 cb k.toNat 0) (hk : 0 ≤ k ∧ k < n) : INK iv rv iv2 r n (k + 1) := fun cb' hb j => by
  have g := h cb' hb j
  rw [h0] at hb; cases hb
  refine ⟨fun c => ?_, fun c1 c2 => ?_⟩
  · by_cases c3 : ((j : Nat) : Int) = k
    · rw [e, show j = k.toNat by omega, up2_s]
    · rw [e, up2_j (by omega)]
      exact g.1 (by omega)
  · rw [e, up2_j (by omega)]
    exact g.2 c1 c2
theorem rep_get (m : Nat) : ∀ (j : Nat) (x : Int), (List.replicate m (0 : Int) ++ xs)[j]? = some x → (j < m ∧ x = 0) ∨ (m ≤ j ∧ xs[j - m]? = some x) := fun j x e => by
  by_cases c : j < m
  · rw [List.getElem?_append_left (by rw [List.length_replicate]; exact c)] at e
    have e2 : (List.replicate m (0 : Int))[j]? = some 0 := by
      rw [List.getElem?_replicate, if_pos c]
    rw [e2] at e
    cases e
    exact Or.inl ⟨c, rfl⟩
  · rw [List.getElem?_append_right (by rw [List.length_replicate]; omega), List.length_replicate] at e
    exact Or.inr ⟨by omega, e⟩
theorem INX.mk (h : INK iv rv iv1 r n n) (h0 : rv r 0 = some cb) (e : iv2 = up2 iv1 r 1 y) (hy : y = iv r 1 + n) (hne : cb ≠ r) (hn : 0 < n) (h1 : iv r 1 ≠ 0 ∧ n ≤ 200 - iv r 1) : INX iv rv iv2 r n := fun xs hl => by
  obtain ⟨l1, l2⟩ := hl
  unfold ind
  rw [if_neg (by omega)]
  refine ⟨by rw [e, up2_s, List.length_append, List.length_replicate]; omega, fun cb' hb j x ej => ?_⟩
  rw [h0] at hb; cases hb
  have g := h cb h0 j
  rw [e, up2_k hne]
  rcases rep_get n.toNat j x ej with ⟨c, e3⟩ | ⟨c, e3⟩
  · rw [g.1 (by omega), e3]
  · have lt := gl3 e3
    rw [g.2 (by omega) (by omega)]
    exact l2 cb h0 _ x e3
theorem ind_cen {wd : Int} (hl : (0 ≤ wd - ((xs.length : Nat) : Int) → n = (wd - ((xs.length : Nat) : Int)) / 2) ∧ (wd - ((xs.length : Nat) : Int) < 0 → n ≤ 0)) (hx : wd ≤ 100) : ind n xs = cen wd xs := by
  unfold ind cen
  by_cases c : xs.length = 0 ∨ wd ≤ ((xs.length : Nat) : Int)
  · rw [if_pos c, if_pos (by omega)]
  · rw [if_neg c]
    have e := hl.1 (by omega)
    by_cases c2 : n ≤ 0
    · rw [if_pos (Or.inl c2)]
      rw [show ((wd - ((xs.length : Nat) : Int)) / 2).toNat = 0 by omega]
      rfl
    · rw [if_neg (by omega), ← e]
theorem tdv_r : (0 ≤ x → x.tdiv 2 = x / 2) ∧ (x < 0 → x.tdiv 2 = -((-x) / 2)) := ⟨fun q => Int.tdiv_eq_ediv_of_nonneg q, fun q => by
  have e : x.tdiv 2 = -((-x).tdiv 2) := by rw [Int.neg_tdiv, Int.neg_neg]
  rw [e, Int.tdiv_eq_ediv_of_nonneg (by omega)]⟩
theorem dv2 (hx : -100000 ≤ x ∧ x ≤ 100000) : ∃ q : Int, (-100000 ≤ q ∧ q ≤ 100000) ∧ ((0 ≤ x → q = x / 2) ∧ (x < 0 → q ≤ 0)) ∧ iI x / iI 2 = iI q := by
  obtain ⟨t1, t2⟩ := tdv_r (x := x)
  have rg : -100000 ≤ x.tdiv 2 ∧ x.tdiv 2 ≤ 100000 := by
    by_cases c : 0 ≤ x
    · rw [t1 c]; omega
    · rw [t2 (by omega)]; omega
  refine ⟨x.tdiv 2, rg, ⟨t1, fun c => by rw [t2 c]; omega⟩, ?_⟩
  apply Int32.toInt_inj.mp
  rw [Int32.toInt_div, iI_int ⟨by omega, by omega⟩, iI_int ⟨by omega, by omega⟩, iI_int ⟨by omega, by omega⟩]
  exact Int.bmod_eq_of_le (by omega) (by omega)
theorem bks_at {m : Nat} {q : Int × Nat × Int} (e : w[m]? = some q) : bks w m = q.2.2 := by
  unfold bks
  rw [e]
  rfl
theorem PWH.at1 (hw : PWH iv rv s w) (h0 : rv s 0 = some lb) (hW : WT h sk L cl ln iv rv) (ts : ty L cl s 15) (hk : 0 ≤ k ∧ k < iv s 4) : iv lb k.toNat = lts w k.toNat := hw.ltw hW ts lb h0 k hk.1 hk.2
theorem PWH.bk (hw : PWH iv rv s w) (h2 : rv s 2 = some bb) (hW : WT h sk L cl ln iv rv) (ts : ty L cl s 15) (hk : 1 ≤ k ∧ k < iv s 4) : iv bb k.toNat = bks w k.toNat := by
  obtain ⟨b0, q0, _⟩ := hW.ref ts 0 rfl rfl rfl
  obtain ⟨b1, q1, _⟩ := hW.ref ts 1 rfl rfl rfl
  have e4 := hw.1
  have lt : k.toNat < w.length := by omega
  have e := List.getElem?_eq_getElem lt
  rw [bks_at e]
  exact (hw.2 b0 b1 bb q0 q1 h2 k.toNat _ e).2.2 (by omega)
theorem lbk_at {k : Int} {st : Nat → Int} {d r : Int} : ∀ m : Nat, 0 ≤ lbk w k st d r m → ∃ q, q < m ∧ (d < st q ∧ st q - d + 1 ≤ r) ∧ lbk w k st d r m = st q := by
  intro m
  induction m with
  | zero => intro c; exact absurd (show (0 : Int) ≤ -1 from c) (by decide)
  | succ m ih =>
    rw [lbk_s]
    split
    · rename_i c
      intro _
      exact ⟨m, by omega, ⟨c.2.2.1, c.2.2.2.1⟩, rfl⟩
    · intro c
      obtain ⟨q, q1, q2, q3⟩ := ih c
      exact ⟨q, by omega, q2, q3⟩
theorem lbk_no {k : Int} {st : Nat → Int} {d r : Int} (hk : ¬ (k ≤ 3 ∧ (k = 3 → 6 ≤ ((w.length : Nat) : Int)))) : ∀ m : Nat, lbk w k st d r m = -1 := by
  intro m
  induction m with
  | zero => rfl
  | succ m ih =>
    rw [lbk_s, if_neg, ih]
    intro c
    exact hk ⟨c.2.2.2.2.1, c.2.2.2.2.2.2⟩
theorem LBX.no (h1 : 3 < x ∨ (x = 3 ∧ iv s 4 < 6)) : LBX iv rv s x i n i := fun w st hw _ => by
  have e4 := hw.1
  unfold LBV
  rw [lbk_no (by omega), if_neg (by decide)]
theorem LBI.init : LBI iv rv s x i n 1 i := fun w st hw _ => by
  unfold LBV
  have e : lbk w x st i (n + 1) (1 : Int).toNat = -1 := by
    show lbk w x st i (n + 1) (0 + 1) = -1
    rw [lbk_s, if_neg (by omega)]
    rfl
  rw [e, if_neg (by decide)]
theorem LBI.fin (h : LBI iv rv s x i n k f) (hk : k = iv s 4 ∨ (k = 1 ∧ iv s 4 ≤ 1)) : LBX iv rv s x i n f := fun w st hw hs => by
  refine hv2 (hw.1) (h w st hw hs) (fun e4 g => ?_)
  by_cases c : k = iv s 4
  · rw [show k.toNat = w.length by omega] at g
    exact g
  · rw [g]
    have e1 : lbk w x st i (n + 1) k.toNat = -1 := by
      rw [show k.toNat = 0 + 1 by omega, lbk_s, if_neg (by omega)]
      rfl
    have e2 : lbk w x st i (n + 1) w.length = -1 := by
      rw [show w.length = 0 by omega]
      rfl
    unfold LBV
    rw [e1, e2]
theorem LBI.pass (h : LBI iv rv s x i n k la) (hk : 1 ≤ k ∧ k < iv s 4) (hno : ∀ w st, PWH iv rv s w → (x ≤ 3 → SBG iv rv s w.length st ∧ MNO st) → la = LBV w x st i (n + 1) k.toNat → ¬ (bks w k.toNat ≠ 0 ∧ i < st k.toNat ∧ st k.toNat - i + 1 ≤ n + 1 ∧ kok x ((w.length : Nat) : Int) (lts w (k.toNat - 1)) (lts w k.toNat)) ∨ la = st k.toNat) (hx : x ≤ 3) : LBI iv rv s x i n (k + 1) la := fun w st hw hs => by
  have g := h w st hw hs
  rcases hno w st hw hs g with c | c
  · have c9 : ¬ (1 ≤ k.toNat ∧ bks w k.toNat ≠ 0 ∧ i < st k.toNat ∧ st k.toNat - i + 1 ≤ n + 1 ∧ kok x ((w.length : Nat) : Int) (lts w (k.toNat - 1)) (lts w k.toNat)) := fun q => c q.2
    rw [g]
    unfold LBV
    rw [show (k + 1).toNat = k.toNat + 1 by omega, lbk_s, if_neg c9]
  · by_cases c2 : 1 ≤ k.toNat ∧ bks w k.toNat ≠ 0 ∧ i < st k.toNat ∧ st k.toNat - i + 1 ≤ n + 1 ∧ kok x ((w.length : Nat) : Int) (lts w (k.toNat - 1)) (lts w k.toNat)
    · unfold LBV
      rw [show (k + 1).toNat = k.toNat + 1 by omega, lbk_s, if_pos c2]
      by_cases c3 : 0 ≤ st k.toNat
      · rw [if_pos c3]
        exact c
      · rw [if_neg c3]
        unfold LBV at g
        split at g
        · omega
        · exact g
    · rw [g]
      unfold LBV
      rw [show (k + 1).toNat = k.toNat + 1 by omega, lbk_s, if_neg c2]
theorem LBI.nof (h : LBI iv rv s x i n k la) (hk : 1 ≤ k ∧ k < iv s 4) (hx : x ≤ 3) (ho : LBO iv rv s i la n k o) (hf : o ≠ 1) (hi : 0 ≤ i ∧ i ≤ la) : LBI iv rv s x i n (k + 1) la := by
  refine h.pass hk (fun w st hw hs g => ?_) hx
  have q := ho w st hw (hs hx).1
  by_cases c : bks w k.toNat ≠ 0 ∧ i < st k.toNat ∧ st k.toNat - i + 1 ≤ n + 1
  · refine Or.inr ?_
    have c2 : ¬ la < st k.toNat := fun c2 => hf (q.mpr ⟨c.1, c2, by omega⟩)
    have c3 : la ≤ st k.toNat := by
      rw [g]
      unfold LBV
      split
      · rename_i c4
        obtain ⟨q0, q1, q2, q3⟩ := lbk_at _ c4
        rw [q3]
        exact (hs hx).2 q0 k.toNat q1 (by omega) (by omega)
      · omega
    omega
  · exact Or.inl (fun q2 => c ⟨q2.1, q2.2.1, q2.2.2.1⟩)
theorem LBI.dig (hl : LBI iv rv s x i n k la) (hk : 1 ≤ k ∧ k < iv s 4) (hx : x = 2) (hW : WT h sk L cl ln iv rv) (ts : ty L cl s 15) (h0 : rv s 0 = some lb) (hd : isD (iv lb (k - 1).toNat) ∨ isD (iv lb k.toNat)) : LBI iv rv s x i n (k + 1) la := by
  refine hl.pass hk (fun w st hw hs g => Or.inl (fun q => ?_)) (by omega)
  refine hv2 (hw.at1 h0 hW ts (k := k) ⟨by omega, hk.2⟩) (q.2.2.2.2.1 hx) (fun e1 q2 => ?_)
  have e2 := hw.at1 h0 hW ts (k := k - 1) ⟨by omega, by omega⟩
  rw [show k.toNat - 1 = (k - 1).toNat by omega, ← e1, ← e2] at q2
  rcases hd with c | c
  · exact q2.1 c
  · exact q2.2 c
theorem LBI.take (hl : LBI iv rv s x i n k la) (hk : 1 ≤ k ∧ k < iv s 4) (hx : x ≤ 3 ∧ (x = 3 → 6 ≤ iv s 4)) (ho : LBO iv rv s i la n k o) (hf : o = 1) (hW : WT h sk L cl ln iv rv) (ts : ty L cl s 15) (h3 : rv s 3 = some sb) (hd : x = 2 → ∃ lb, rv s 0 = some lb ∧ ¬ isD (iv lb (k - 1).toNat) ∧ ¬ isD (iv lb k.toNat)) (hi : 0 ≤ i ∧ i ≤ la) : LBI iv rv s x i n (k + 1) (iv sb k.toNat) := fun w st hw hs => by
  refine hv2 ((ho w st hw (hs hx.1).1).mp hf) (hw.1) (fun q e4 => ?_)
  have es : iv sb k.toNat = st k.toNat := (hs hx.1).1 sb h3 k.toNat (by omega)
  have e9 : lbk w x st i (n + 1) (k + 1).toNat = st k.toNat := by
    rw [show (k + 1).toNat = k.toNat + 1 by omega, lbk_s, if_pos]
    refine ⟨by omega, q.1, by omega, by omega, hx.1, fun c => ?_, fun c => ?_⟩
    · obtain ⟨lb, h0, d1⟩ := hd c
      have e1 := hw.at1 h0 hW ts (k := k) ⟨by omega, hk.2⟩
      have e2 := hw.at1 h0 hW ts (k := k - 1) ⟨by omega, by omega⟩
      rw [show k.toNat - 1 = (k - 1).toNat by omega, ← e1, ← e2]
      exact d1
    · have := hx.2 c
      omega
  unfold LBV
  rw [e9, if_pos (by omega)]
  exact es
theorem LBO.mk (hW : WT h sk L cl ln iv rv) (ts : ty L cl s 15) (h2 : rv s 2 = some bb) (h3 : rv s 3 = some sb) (hk : 1 ≤ k ∧ k < iv s 4) (ho : (o = 1 ∧ iv bb k.toNat ≠ 0 ∧ la < iv sb k.toNat ∧ iv sb k.toNat - i ≤ n) ∨ (o ≠ 1 ∧ (iv bb k.toNat = 0 ∨ iv sb k.toNat ≤ la ∨ n < iv sb k.toNat - i))) : LBO iv rv s i la n k o := fun w st hw hs => by
  refine hv2 (hw.1) (hw.bk h2 hW ts hk) (fun e4 e1 => ?_)
  have e2 := hs sb h3 k.toNat (by omega)
  rw [← e1, ← e2]
  omega
theorem LBO.b0 (hW : WT h sk L cl ln iv rv) (ts : ty L cl s 15) (h2 : rv s 2 = some bb) (hk : 1 ≤ k ∧ k < iv s 4) (ho : o ≠ 1) (hb : iv bb k.toNat = 0) : LBO iv rv s i la n k o := fun w st hw hs => by
  have e1 := hw.bk h2 hW ts hk
  rw [← e1]
  omega
end LROW
end
section
set_option maxHeartbeats 4000000 in
set_option maxRecDepth 100000 in
theorem G_lclear {l : Launch} {G : GT} {mi : Nat} {sk : Nat → Nat} {L : List Nat} {cl ln : Nat → Nat} {iv : Nat → Nat → Int} {rv : Nat → Nat → Option Nat}  {a0 : Nat} (hW : WT (g0 G) sk L cl ln iv rv) (hS : SKL sk L cl) (t_a0 : ty L cl a0 19)  : Mc l G mi (Phi (g0 G) sk) PHM yX2_clear cX2_clear 1 none 0 [.ref a0] L cl ln iv rv 0 (fun v L2 cl2 ln2 iv2 rv2 => v = none ∧ L = L2 ∧ cl = cl2 ∧ ln = ln2 ∧ rv = rv2 ∧ fT [19] L cl iv rv iv2 rv2 ∧ WT (g0 G) sk L2 cl2 ln2 iv2 rv2 ∧ (iv2 a0 1 = 0 ∧ iv2 a0 2 = 0 ∧ LFR L cl iv rv iv2 a0)) := by
  refine Mc.mk (by decide) (Nat.le_of_ble_eq_true rfl) ?_
  intro p e s m args below meth c A C hM
  refine hv3 (Phi.le hW hS) (show XT L cl ln L cl ln from XT.refl) (show fT [19] L cl iv rv iv rv from fT.refl) (fun hph hX0 hF0 => ?_)
  refine c_aload_n (j := 0) (x := a0) C dX2_clear_0 rfl ?_
  refine c_iconst C dX2_clear_1 ?_
  refine c_put (z := 0) (k := 1) C ck_3 dX2_clear_2 w4_49 (by decide) rfl t_a0 rfl rfl (by decide) rfl (by rfl) (by rfl) (fun iv1 pq1 => ?_)
  refine hv2 (hW.puti pq1 t_a0 ⟨by decide, by decide⟩ rfl) (hF0.puti hX0 pq1 t_a0 rfl) (fun W1 F1 => ?_)
  refine c_aload_n (j := 0) (x := a0) C dX2_clear_5 rfl ?_
  refine c_iconst C dX2_clear_6 ?_
  refine c_put (z := 0) (k := 2) C ck_3 dX2_clear_7 w4_54 (by decide) rfl t_a0 rfl rfl (by decide) rfl (by decide) (by decide) (fun iv2 pq2 => ?_)
  refine hv5 (W1.puti pq2 t_a0 ⟨by decide, by decide⟩ rfl) (F1.puti hX0 pq2 t_a0 rfl) (show iv2 a0 1 = iv1 a0 1 from by rw [pq2]; exact up2_j (by decide)) (show iv1 a0 1 = 0 from by rw [pq1]; exact up2_s) (show iv2 a0 2 = 0 from by rw [pq2]; exact up2_s) (fun W2 F2 ie1 ie2 ie3 => ?_)
  refine hv2 (show 0 ≤ iv2 a0 1 ∧ iv2 a0 1 ≤ 200 from W2.int t_a0 1) (show 0 ≤ iv2 a0 2 ∧ iv2 a0 2 ≤ 1 from W2.int t_a0 2) (fun ri1 ri2 => ?_)
  exact c_vret C dX2_clear_10 rfl (by decide) (rom0 hph hph (by decide)) ⟨rfl, rfl, rfl, rfl, rfl, F2, W2, ⟨by omega, by omega, (LFR.refl.self t_a0 pq1).self t_a0 pq2⟩⟩
set_option maxHeartbeats 4000000 in
set_option maxRecDepth 100000 in
theorem G_ladd {l : Launch} {G : GT} {mi : Nat} {sk : Nat → Nat} {L : List Nat} {cl ln : Nat → Nat} {iv : Nat → Nat → Int} {rv : Nat → Nat → Option Nat}  {a0 : Nat} {x : Int} (hW : WT (g0 G) sk L cl ln iv rv) (hS : SKL sk L cl) (t_a0 : ty L cl a0 19) (h_x : -2147483648 ≤ x ∧ x ≤ 2147483647)  : Mc l G mi (Phi (g0 G) sk) PHM yX2_add cX2_add 2 none 0 [.ref a0, .int (iI x)] L cl ln iv rv 0 (fun v L2 cl2 ln2 iv2 rv2 => v = none ∧ L = L2 ∧ cl = cl2 ∧ ln = ln2 ∧ rv = rv2 ∧ fT [19, 64] L cl iv rv iv2 rv2 ∧ WT (g0 G) sk L2 cl2 ln2 iv2 rv2 ∧ (((iv2 a0 1 = iv a0 1 ∧ iv a0 1 = 200) ∨ iv2 a0 1 = iv a0 1 + 1) ∧ (LFR L cl iv rv iv2 a0 ∧ iv2 a0 2 = iv a0 2) ∧ LAX iv rv iv2 a0 x)) := by
  refine Mc.mk (by decide) (Nat.le_of_ble_eq_true rfl) ?_
  intro p e s m args below meth c A C hM
  refine hv3 (Phi.le hW hS) (show XT L cl ln L cl ln from XT.refl) (show fT [19, 64] L cl iv rv iv rv from fT.refl) (fun hph hX0 hF0 => ?_)
  refine c_aload_n (j := 0) (x := a0) C dX2_add_0 rfl ?_
  have ri1 : 0 ≤ iv a0 1 ∧ iv a0 1 ≤ 200 := hW.int t_a0 1
  refine c_get (k := 1) C ck_3 dX2_add_1 w4_49 (by decide) t_a0 rfl rfl (by decide) rfl ?_
  refine c_sipush (z := 200) C dX2_add_4 (by decide) ?_
  refine c_icmp_ge (tgt := 30) C (r32_c (lo := 0) (hi := 200) ri1.1 ri1.2 (by decide) (by decide)) ⟨by decide, by decide⟩ dX2_add_7 (by decide) (fun c1 => ?_) (fun c1 => ?_)
  · have ri2 : 0 ≤ iv a0 2 ∧ iv a0 2 ≤ 1 := hW.int t_a0 2
    exact c_vret C dX2_add_30 rfl (by decide) (rom0 hph hph (by decide)) ⟨rfl, rfl, rfl, rfl, rfl, hF0, hW, ⟨by omega, ⟨LFR.refl, rfl⟩, LAX.full (by omega)⟩⟩
  · refine c_aload_n (j := 0) (x := a0) C dX2_add_10 rfl ?_
    obtain ⟨rb1, rq1, trb1⟩ := hW.ref t_a0 0 rfl rfl rfl
    have lnrb1 : 200 ≤ ln rb1 ∧ ln rb1 ≤ 200 := hW.len trb1 rfl
    refine c_getr (k := 0) C ck_3 dX2_add_11 w4_44 (by decide) t_a0 rfl rfl (by decide) rfl rq1 ?_
    refine c_st (st2 := [.ref rb1]) rfl ?_
    refine c_aload_n (j := 0) (x := a0) C dX2_add_14 rfl ?_
    refine c_get (k := 1) C ck_3 dX2_add_15 w4_49 (by decide) t_a0 rfl rfl (by decide) rfl ?_
    refine c_iload_n (j := 1) C dX2_add_18 rfl ?_
    have ll1 : 200 ≤ ln rb1 ∧ ln rb1 ≤ 200 := hW.len trb1 rfl
    refine c_iast (x := x) C dX2_add_19 trb1 rfl (by omega) (by omega) (by omega) (fun iv1 pq1 => ?_)
    refine hv2 (hW.puti pq1 trb1 (show (-2147483648) ≤ x ∧ x ≤ 2147483647 by omega) rfl) (hF0.puti hX0 pq1 trb1 rfl) (fun W1 F1 => ?_)
    refine c_aload_n (j := 0) (x := a0) C dX2_add_20 rfl ?_
    refine c_dup C dX2_add_21 rfl ?_
    refine hv2 (show 0 ≤ iv1 a0 1 ∧ iv1 a0 1 ≤ 200 from W1.int t_a0 1) (show iv1 a0 1 = iv a0 1 from by rw [pq1]; exact up2_k (ne_ty t_a0 trb1 (by decide))) (fun ri3 ie1 => ?_)
    refine c_get (k := 1) C ck_3 dX2_add_22 w4_49 (by decide) t_a0 rfl rfl (by decide) rfl ?_
    refine c_iconst C dX2_add_25 ?_
    refine c_iadd C dX2_add_26 ?_
    refine c_put (z := (iv1 a0 1) + 1) (k := 1) C ck_3 dX2_add_27 w4_49 (by decide) rfl t_a0 rfl rfl (by decide) rfl (by rfl) (by rfl) (fun iv2 pq2 => ?_)
    refine hv5 (W1.puti pq2 t_a0 (show 0 ≤ ((iv1 a0 1) + 1) ∧ ((iv1 a0 1) + 1) ≤ 200 by omega) rfl) (F1.puti hX0 pq2 t_a0 rfl) (show iv2 a0 1 = (iv1 a0 1) + 1 from by rw [pq2]; exact up2_s) (show iv2 a0 2 = iv1 a0 2 from by rw [pq2]; exact up2_j (by decide)) (show iv1 a0 2 = iv a0 2 from by rw [pq1]; exact up2_k (ne_ty t_a0 trb1 (by decide))) (fun W2 F2 ie2 ie3 ie4 => ?_)
    refine hv2 (show 0 ≤ iv2 a0 1 ∧ iv2 a0 1 ≤ 200 from W2.int t_a0 1) (show 0 ≤ iv2 a0 2 ∧ iv2 a0 2 ≤ 1 from W2.int t_a0 2) (fun ri4 ri5 => ?_)
    exact c_vret C dX2_add_30 rfl (by decide) (rom0 hph hph (by decide)) ⟨rfl, rfl, rfl, rfl, rfl, F2, W2, ⟨by omega, ⟨(LFR.refl.cell rq1 trb1 pq1).self t_a0 pq2, by omega⟩, LAX.mk rq1 pq1 pq2 rfl (by omega) (ne_ty trb1 t_a0 (by decide))⟩⟩
set_option maxHeartbeats 4000000 in
set_option maxRecDepth 100000 in
theorem G_addPart {l : Launch} {G : GT} {mi : Nat} {sk : Nat → Nat} {L : List Nat} {cl ln : Nat → Nat} {iv : Nat → Nat → Int} {rv : Nat → Nat → Option Nat}  {a0 : Nat} {a1 : Nat} {i : Int} {j : Int} (hW : WT (g0 G) sk L cl ln iv rv) (hS : SKL sk L cl) (t_a0 : ty L cl a0 19) (t_a1 : ty L cl a1 15) (h_i : -2147483648 ≤ i ∧ i ≤ 2147483647) (h_j : -2147483648 ≤ j ∧ j ≤ 2147483647) (hi : 0 ≤ i) : Mc l G mi (Phi (g0 G) sk) PHM yX2_addPart cX2_addPart 5 none 1 [.ref a0, .ref a1, .int (iI i), .int (iI j)] L cl ln iv rv 0 (fun v L2 cl2 ln2 iv2 rv2 => v = none ∧ L = L2 ∧ cl = cl2 ∧ ln = ln2 ∧ rv = rv2 ∧ fT [19, 64] L cl iv rv iv2 rv2 ∧ WT (g0 G) sk L2 cl2 ln2 iv2 rv2 ∧ ((LFR L cl iv rv iv2 a0 ∧ iv2 a0 2 = iv a0 2) ∧ APX iv rv iv2 a0 a1 i j)) := by
  refine Mc.mk (by decide) (Nat.le_of_ble_eq_true rfl) ?_
  intro p e s m args below meth c A C hM
  refine hv5 (Phi.le hW hS) (show XT L cl ln L cl ln from XT.refl) (show fT [19, 64] L cl iv rv iv rv from fT.refl) (show 0 ≤ iv a0 1 ∧ iv a0 1 ≤ 200 from hW.int t_a0 1) (show 0 ≤ iv a0 2 ∧ iv a0 2 ≤ 1 from hW.int t_a0 2) (fun hph hX0 hF0 ri1 ri2 => ?_)
  refine c_aload_n (j := 0) (x := a0) C dX2_addPart_0 rfl ?_
  refine c_get (k := 1) C ck_3 dX2_addPart_1 w4_49 (by decide) t_a0 rfl rfl (by decide) rfl ?_
  refine c_if_le (tgt := 12) C (r32_c (lo := 0) (hi := 200) ri1.1 ri1.2 (by decide) (by decide)) dX2_addPart_4 (by decide) (fun c1 => ?_) (fun c1 => ?_)
  · refine c_iload_n (j := 2) C dX2_addPart_12 rfl ?_
    refine c_istore (lv2 := [(4, .int (iI i)), (0, .ref a0), (1, .ref a1), (2, .int (iI i)), (3, .int (iI j))]) C dX2_addPart_13 (by decide) rfl ?_
    have Lp1 : ∀ (nn : Nat) (k : Int) (ivb1 : Nat → Nat → Int) , max 0 (201 - k) < (nn : Int) → WT (g0 G) sk L cl ln ivb1 rv → fT [19, 64] L cl iv rv ivb1 rv → (0 ≤ k ∧ k ≤ 2147483647 ∧ i ≤ k) → (k = i ∨ k ≤ j) → (LFR L cl iv rv ivb1 a0) → (ivb1 a0 2 = iv a0 2) → (APK iv rv ivb1 a0 a1 i k) → cw p l e 1 ((PHM) + 0 - ((Phi (g0 G) sk) ln rv)) s m args below meth c G A 5 (MQ below (Qu G A (Qp G (Phi (g0 G) sk) ((Phi (g0 G) sk) ln rv) 0 (fun v L2 cl2 ln2 iv2 rv2 => v = none ∧ L = L2 ∧ cl = cl2 ∧ ln = ln2 ∧ rv = rv2 ∧ fT [19, 64] L cl iv rv iv2 rv2 ∧ WT (g0 G) sk L2 cl2 ln2 iv2 rv2 ∧ ((LFR L cl iv rv iv2 a0 ∧ iv2 a0 2 = iv a0 2) ∧ APX iv rv iv2 a0 a1 i j)))) args s (((PHM) + 0 - ((Phi (g0 G) sk) ln rv)) / 16) ((PHM) + 0 - ((Phi (g0 G) sk) ln rv)) A) (Phi (g0 G) sk) ((Phi (g0 G) sk) ln rv) L cl ln ivb1 rv 0 15 [(4, .int (iI k)), (0, .ref a0), (1, .ref a1), (2, .int (iI i)), (3, .int (iI j))] [] := by
      intro nn
      induction nn with
      | zero =>
        intro  k ivb1 hm Wb1 Fb1  hk hki hLF h2e hAP
        exact absurd hm (by omega)
      | succ nn ih1 =>
        intro  k ivb1 hm Wb1 Fb1  hk hki hLF h2e hAP
        refine c_iload (j := 0) C dX2_addPart_15 rfl ?_
        refine c_iload_n (j := 4) C dX2_addPart_17 rfl ?_
        refine c_icmp_ge (tgt := 46) C (r32_c (lo := 0) (hi := 2147483647) hk.1 hk.2.1 (by decide) (by decide)) ⟨by omega, by omega⟩ dX2_addPart_18 (by decide) (fun c2 => ?_) (fun c2 => ?_)
        · have ri3 : 0 ≤ ivb1 a0 1 ∧ ivb1 a0 1 ≤ 200 := Wb1.int t_a0 1
          have ri4 : 0 ≤ ivb1 a0 2 ∧ ivb1 a0 2 ≤ 1 := Wb1.int t_a0 2
          exact c_vret C dX2_addPart_46 rfl (by decide) (rom0 hph hph (by decide)) ⟨rfl, rfl, rfl, rfl, rfl, Fb1, Wb1, ⟨⟨hLF, by omega⟩, APX.fin hAP (by omega) (by omega)⟩⟩
        · refine c_iload (j := 0) C dX2_addPart_21 rfl ?_
          refine c_sipush (z := 200) C dX2_addPart_23 (by decide) ?_
          refine c_icmp_ge (tgt := 46) C (r32_c (lo := 0) (hi := 2147483647) hk.1 hk.2.1 (by decide) (by decide)) ⟨by decide, by decide⟩ dX2_addPart_26 (by decide) (fun c3 => ?_) (fun c3 => ?_)
          · have ri5 : 0 ≤ ivb1 a0 1 ∧ ivb1 a0 1 ≤ 200 := Wb1.int t_a0 1
            have ri6 : 0 ≤ ivb1 a0 2 ∧ ivb1 a0 2 ≤ 1 := Wb1.int t_a0 2
            exact c_vret C dX2_addPart_46 rfl (by decide) (rom0 hph hph (by decide)) ⟨rfl, rfl, rfl, rfl, rfl, Fb1, Wb1, ⟨⟨hLF, by omega⟩, APX.fin hAP (by omega) (by omega)⟩⟩
          · refine c_aload_n (j := 1) (x := a0) C dX2_addPart_29 rfl ?_
            refine c_aload_n (j := 2) (x := a1) C dX2_addPart_30 rfl ?_
            obtain ⟨rb1, rq1, trb1⟩ := Wb1.ref t_a1 6 rfl rfl rfl
            have lnrb1 : 200 ≤ ln rb1 ∧ ln rb1 ≤ 200 := Wb1.len trb1 rfl
            refine c_getr (k := 6) C ck_7 dX2_addPart_31 w1_145 (by decide) t_a1 rfl rfl (by decide) rfl rq1 ?_
            refine c_st (st2 := [.ref rb1, .ref a0]) rfl ?_
            refine c_iload (j := 0) C dX2_addPart_34 rfl ?_
            have ll1 : 200 ≤ ln rb1 ∧ ln rb1 ≤ 200 := Wb1.len trb1 rfl
            refine c_iald C dX2_addPart_36 trb1 rfl (by omega) (by omega) (by omega) ?_
            refine hv4 (show (-2147483648) ≤ ivb1 rb1 k.toNat ∧ ivb1 rb1 k.toNat ≤ 2147483647 from Wb1.int trb1 k.toNat) (show ivb1 rb1 k.toNat = iv rb1 k.toNat from Fb1.i trb1 rfl k.toNat) (show 0 ≤ ivb1 a0 1 ∧ ivb1 a0 1 ≤ 200 from Wb1.int t_a0 1) (show 0 ≤ ivb1 a0 2 ∧ ivb1 a0 2 ≤ 1 from Wb1.int t_a0 2) (fun ri7 ie5 ri8 ri9 => ?_)
            refine d_callV (As := [.int (iI (ivb1 rb1 k.toNat))]) (rest := []) C hM (G_ladd (a0 := a0) (x := ivb1 rb1 k.toNat) Wb1 hS t_a0 (by omega) ) dX2_addPart_37 kV_X2_23 rfl t_a0 rfl rfl (by decide) ck_3 rfl (Nat.le_of_ble_eq_true rfl) ⟨(Nat.le_of_ble_eq_true rfl), (Nat.le_of_ble_eq_true rfl)⟩ hph hph (show 0 + 0 = 0 from rfl) (by decide) (fun rh1 Lh1 clh1 lnh1 ivh1 rvh1 h1 => ?_)
            obtain ⟨rfl, rfl, rfl, rfl, rfl, fl1, W1, exf1⟩ := h1
            have F1 := Fb1.call hX0 fl1 rfl
            refine c_st (st2 := []) rfl ?_
            refine hv3 (show 0 ≤ ivh1 a0 1 ∧ ivh1 a0 1 ≤ 200 from W1.int t_a0 1) (show 0 ≤ ivh1 a0 2 ∧ ivh1 a0 2 ≤ 1 from W1.int t_a0 2) (show ((ivh1 a0 1 = ivb1 a0 1 ∧ ivb1 a0 1 = 200) ∨ ivh1 a0 1 = ivb1 a0 1 + 1) ∧ (LFR L cl ivb1 rv ivh1 a0 ∧ ivh1 a0 2 = ivb1 a0 2) ∧ LAX ivb1 rv ivh1 a0 (ivb1 rb1 k.toNat) from exf1) (fun ri10 ri11 gf1 => ?_)
            refine c_iinc (z := k) (j := 0) (lv2 := [(4, .int (iI (k + 1))), (0, .ref a0), (1, .ref a1), (2, .int (iI i)), (3, .int (iI j))]) C dX2_addPart_40 rfl (by decide) rfl ?_
            refine c_goto (tgt := 15) C dX2_addPart_43 (by decide) ?_
            refine c_lv (lv2 := [(4, .int (iI (k + 1))), (0, .ref a0), (1, .ref a1), (2, .int (iI i)), (3, .int (iI j))]) [0, 1, 2, 3, 4] rfl ?_
            exact ih1  (k + 1) _ (by omega) W1 F1  (by omega) (by omega) (hLF.trans gf1.2.1.1) (gf1.2.1.2.trans h2e) (hAP.step gf1.2.2 rq1 rfl (Fb1.i trb1 rfl _) ⟨by omega, by omega, by omega⟩)
    refine c_lv (lv2 := [(4, .int (iI i)), (0, .ref a0), (1, .ref a1), (2, .int (iI i)), (3, .int (iI j))]) [0, 1, 2, 3, 4] rfl ?_
    exact Lp1 203 i _ (by omega) hW hF0  (by omega) (by omega) LFR.refl rfl (APK.init0 (by omega))
  · refine c_aload_n (j := 0) (x := a0) C dX2_addPart_7 rfl ?_
    refine c_iconst C dX2_addPart_8 ?_
    refine d_callV (As := [.int (iI 0)]) (rest := []) C hM (G_ladd (a0 := a0) (x := 0) hW hS t_a0 ⟨by decide, by decide⟩ ) dX2_addPart_9 kV_X2_23 rfl t_a0 rfl rfl (by decide) ck_3 rfl (Nat.le_of_ble_eq_true rfl) ⟨(Nat.le_of_ble_eq_true rfl), (Nat.le_of_ble_eq_true rfl)⟩ hph hph (show 0 + 0 = 0 from rfl) (by decide) (fun rh2 Lh2 clh2 lnh2 ivh2 rvh2 h2 => ?_)
    obtain ⟨rfl, rfl, rfl, rfl, rfl, fl2, W2, exf2⟩ := h2
    have F2 := hF0.call hX0 fl2 rfl
    refine c_st (st2 := []) rfl ?_
    refine hv3 (show 0 ≤ ivh2 a0 1 ∧ ivh2 a0 1 ≤ 200 from W2.int t_a0 1) (show 0 ≤ ivh2 a0 2 ∧ ivh2 a0 2 ≤ 1 from W2.int t_a0 2) (show ((ivh2 a0 1 = iv a0 1 ∧ iv a0 1 = 200) ∨ ivh2 a0 1 = iv a0 1 + 1) ∧ (LFR L cl iv rv ivh2 a0 ∧ ivh2 a0 2 = iv a0 2) ∧ LAX iv rv ivh2 a0 (0 : Int) from exf2) (fun ri12 ri13 gf2 => ?_)
    refine c_iload_n (j := 2) C dX2_addPart_12 rfl ?_
    refine c_istore (lv2 := [(4, .int (iI i)), (0, .ref a0), (1, .ref a1), (2, .int (iI i)), (3, .int (iI j))]) C dX2_addPart_13 (by decide) rfl ?_
    have Lp2 : ∀ (nn : Nat) (k : Int) (ivb2 : Nat → Nat → Int) , max 0 (201 - k) < (nn : Int) → WT (g0 G) sk L cl ln ivb2 rv → fT [19, 64] L cl iv rv ivb2 rv → (0 ≤ k ∧ k ≤ 2147483647 ∧ i ≤ k) → (k = i ∨ k ≤ j) → (LFR L cl iv rv ivb2 a0) → (ivb2 a0 2 = iv a0 2) → (APK iv rv ivb2 a0 a1 i k) → cw p l e 1 ((PHM) + 0 - ((Phi (g0 G) sk) ln rv)) s m args below meth c G A 5 (MQ below (Qu G A (Qp G (Phi (g0 G) sk) ((Phi (g0 G) sk) ln rv) 0 (fun v L2 cl2 ln2 iv2 rv2 => v = none ∧ L = L2 ∧ cl = cl2 ∧ ln = ln2 ∧ rv = rv2 ∧ fT [19, 64] L cl iv rv iv2 rv2 ∧ WT (g0 G) sk L2 cl2 ln2 iv2 rv2 ∧ ((LFR L cl iv rv iv2 a0 ∧ iv2 a0 2 = iv a0 2) ∧ APX iv rv iv2 a0 a1 i j)))) args s (((PHM) + 0 - ((Phi (g0 G) sk) ln rv)) / 16) ((PHM) + 0 - ((Phi (g0 G) sk) ln rv)) A) (Phi (g0 G) sk) ((Phi (g0 G) sk) ln rv) L cl ln ivb2 rv 0 15 [(4, .int (iI k)), (0, .ref a0), (1, .ref a1), (2, .int (iI i)), (3, .int (iI j))] [] := by
      intro nn
      induction nn with
      | zero =>
        intro  k ivb2 hm Wb2 Fb2  hk hki hLF h2e hAP
        exact absurd hm (by omega)
      | succ nn ih2 =>
        intro  k ivb2 hm Wb2 Fb2  hk hki hLF h2e hAP
        refine c_iload (j := 0) C dX2_addPart_15 rfl ?_
        refine c_iload_n (j := 4) C dX2_addPart_17 rfl ?_
        refine c_icmp_ge (tgt := 46) C (r32_c (lo := 0) (hi := 2147483647) hk.1 hk.2.1 (by decide) (by decide)) ⟨by omega, by omega⟩ dX2_addPart_18 (by decide) (fun c4 => ?_) (fun c4 => ?_)
        · have ri14 : 0 ≤ ivb2 a0 1 ∧ ivb2 a0 1 ≤ 200 := Wb2.int t_a0 1
          have ri15 : 0 ≤ ivb2 a0 2 ∧ ivb2 a0 2 ≤ 1 := Wb2.int t_a0 2
          exact c_vret C dX2_addPart_46 rfl (by decide) (rom0 hph hph (by decide)) ⟨rfl, rfl, rfl, rfl, rfl, Fb2, Wb2, ⟨⟨hLF, by omega⟩, APX.fin hAP (by omega) (by omega)⟩⟩
        · refine c_iload (j := 0) C dX2_addPart_21 rfl ?_
          refine c_sipush (z := 200) C dX2_addPart_23 (by decide) ?_
          refine c_icmp_ge (tgt := 46) C (r32_c (lo := 0) (hi := 2147483647) hk.1 hk.2.1 (by decide) (by decide)) ⟨by decide, by decide⟩ dX2_addPart_26 (by decide) (fun c5 => ?_) (fun c5 => ?_)
          · have ri16 : 0 ≤ ivb2 a0 1 ∧ ivb2 a0 1 ≤ 200 := Wb2.int t_a0 1
            have ri17 : 0 ≤ ivb2 a0 2 ∧ ivb2 a0 2 ≤ 1 := Wb2.int t_a0 2
            exact c_vret C dX2_addPart_46 rfl (by decide) (rom0 hph hph (by decide)) ⟨rfl, rfl, rfl, rfl, rfl, Fb2, Wb2, ⟨⟨hLF, by omega⟩, APX.fin hAP (by omega) (by omega)⟩⟩
          · refine c_aload_n (j := 1) (x := a0) C dX2_addPart_29 rfl ?_
            refine c_aload_n (j := 2) (x := a1) C dX2_addPart_30 rfl ?_
            obtain ⟨rb2, rq2, trb2⟩ := Wb2.ref t_a1 6 rfl rfl rfl
            have lnrb2 : 200 ≤ ln rb2 ∧ ln rb2 ≤ 200 := Wb2.len trb2 rfl
            refine c_getr (k := 6) C ck_7 dX2_addPart_31 w1_145 (by decide) t_a1 rfl rfl (by decide) rfl rq2 ?_
            refine c_st (st2 := [.ref rb2, .ref a0]) rfl ?_
            refine c_iload (j := 0) C dX2_addPart_34 rfl ?_
            have ll2 : 200 ≤ ln rb2 ∧ ln rb2 ≤ 200 := Wb2.len trb2 rfl
            refine c_iald C dX2_addPart_36 trb2 rfl (by omega) (by omega) (by omega) ?_
            refine hv4 (show (-2147483648) ≤ ivb2 rb2 k.toNat ∧ ivb2 rb2 k.toNat ≤ 2147483647 from Wb2.int trb2 k.toNat) (show ivb2 rb2 k.toNat = iv rb2 k.toNat from Fb2.i trb2 rfl k.toNat) (show 0 ≤ ivb2 a0 1 ∧ ivb2 a0 1 ≤ 200 from Wb2.int t_a0 1) (show 0 ≤ ivb2 a0 2 ∧ ivb2 a0 2 ≤ 1 from Wb2.int t_a0 2) (fun ri18 ie16 ri19 ri20 => ?_)
            refine d_callV (As := [.int (iI (ivb2 rb2 k.toNat))]) (rest := []) C hM (G_ladd (a0 := a0) (x := ivb2 rb2 k.toNat) Wb2 hS t_a0 (by omega) ) dX2_addPart_37 kV_X2_23 rfl t_a0 rfl rfl (by decide) ck_3 rfl (Nat.le_of_ble_eq_true rfl) ⟨(Nat.le_of_ble_eq_true rfl), (Nat.le_of_ble_eq_true rfl)⟩ hph hph (show 0 + 0 = 0 from rfl) (by decide) (fun rh3 Lh3 clh3 lnh3 ivh3 rvh3 h3 => ?_)
            obtain ⟨rfl, rfl, rfl, rfl, rfl, fl3, W3, exf3⟩ := h3
            have F3 := Fb2.call hX0 fl3 rfl
            refine c_st (st2 := []) rfl ?_
            refine hv3 (show 0 ≤ ivh3 a0 1 ∧ ivh3 a0 1 ≤ 200 from W3.int t_a0 1) (show 0 ≤ ivh3 a0 2 ∧ ivh3 a0 2 ≤ 1 from W3.int t_a0 2) (show ((ivh3 a0 1 = ivb2 a0 1 ∧ ivb2 a0 1 = 200) ∨ ivh3 a0 1 = ivb2 a0 1 + 1) ∧ (LFR L cl ivb2 rv ivh3 a0 ∧ ivh3 a0 2 = ivb2 a0 2) ∧ LAX ivb2 rv ivh3 a0 (ivb2 rb2 k.toNat) from exf3) (fun ri21 ri22 gf3 => ?_)
            refine c_iinc (z := k) (j := 0) (lv2 := [(4, .int (iI (k + 1))), (0, .ref a0), (1, .ref a1), (2, .int (iI i)), (3, .int (iI j))]) C dX2_addPart_40 rfl (by decide) rfl ?_
            refine c_goto (tgt := 15) C dX2_addPart_43 (by decide) ?_
            refine c_lv (lv2 := [(4, .int (iI (k + 1))), (0, .ref a0), (1, .ref a1), (2, .int (iI i)), (3, .int (iI j))]) [0, 1, 2, 3, 4] rfl ?_
            exact ih2  (k + 1) _ (by omega) W3 F3  (by omega) (by omega) (hLF.trans gf3.2.1.1) (gf3.2.1.2.trans h2e) (hAP.step gf3.2.2 rq2 rfl (Fb2.i trb2 rfl _) ⟨by omega, by omega, by omega⟩)
    refine c_lv (lv2 := [(4, .int (iI i)), (0, .ref a0), (1, .ref a1), (2, .int (iI i)), (3, .int (iI j))]) [0, 1, 2, 3, 4] rfl ?_
    exact Lp2 203 i _ (by omega) W2 F2  (by omega) (by omega) gf2.2.1.1 gf2.2.1.2 (APK.init1 gf2.2.2 (by omega))
set_option maxHeartbeats 4000000 in
set_option maxRecDepth 100000 in
theorem G_indent {l : Launch} {G : GT} {mi : Nat} {sk : Nat → Nat} {L : List Nat} {cl ln : Nat → Nat} {iv : Nat → Nat → Int} {rv : Nat → Nat → Option Nat}  {a0 : Nat} {n : Int} (hW : WT (g0 G) sk L cl ln iv rv) (hS : SKL sk L cl) (t_a0 : ty L cl a0 19) (h_n : -2147483648 ≤ n ∧ n ≤ 2147483647)  : Mc l G mi (Phi (g0 G) sk) PHM yX2_indent cX2_indent 3 none 1 [.ref a0, .int (iI n)] L cl ln iv rv 0 (fun v L2 cl2 ln2 iv2 rv2 => v = none ∧ L = L2 ∧ cl = cl2 ∧ ln = ln2 ∧ rv = rv2 ∧ fT [19, 64] L cl iv rv iv2 rv2 ∧ WT (g0 G) sk L2 cl2 ln2 iv2 rv2 ∧ ((LFR L cl iv rv iv2 a0 ∧ iv2 a0 2 = iv a0 2) ∧ INX iv rv iv2 a0 n)) := by
  refine Mc.mk (by decide) (Nat.le_of_ble_eq_true rfl) ?_
  intro p e s m args below meth c A C hM
  refine hv5 (Phi.le hW hS) (show XT L cl ln L cl ln from XT.refl) (show fT [19, 64] L cl iv rv iv rv from fT.refl) (show 0 ≤ iv a0 1 ∧ iv a0 1 ≤ 200 from hW.int t_a0 1) (show 0 ≤ iv a0 2 ∧ iv a0 2 ≤ 1 from hW.int t_a0 2) (fun hph hX0 hF0 ri1 ri2 => ?_)
  refine c_iload_n (j := 1) C dX2_indent_0 rfl ?_
  refine c_if_le (tgt := 23) C ⟨by omega, by omega⟩ dX2_indent_1 (by decide) (fun c1 => ?_) (fun c1 => ?_)
  · exact c_vret C dX2_indent_23 rfl (by decide) (rom0 hph hph (by decide)) ⟨rfl, rfl, rfl, rfl, rfl, hF0, hW, ⟨⟨LFR.refl, rfl⟩, INX.no (by omega)⟩⟩
  · refine c_aload_n (j := 0) (x := a0) C dX2_indent_4 rfl ?_
    refine c_get (k := 1) C ck_3 dX2_indent_5 w4_49 (by decide) t_a0 rfl rfl (by decide) rfl ?_
    refine c_if_eq (tgt := 23) C (r32_c (lo := 0) (hi := 200) ri1.1 ri1.2 (by decide) (by decide)) dX2_indent_8 (by decide) (fun c2 => ?_) (fun c2 => ?_)
    · exact c_vret C dX2_indent_23 rfl (by decide) (rom0 hph hph (by decide)) ⟨rfl, rfl, rfl, rfl, rfl, hF0, hW, ⟨⟨LFR.refl, rfl⟩, INX.no (by omega)⟩⟩
    · refine c_iload_n (j := 1) C dX2_indent_11 rfl ?_
      refine c_sipush (z := 200) C dX2_indent_12 (by decide) ?_
      refine c_aload_n (j := 0) (x := a0) C dX2_indent_15 rfl ?_
      refine c_get (k := 1) C ck_3 dX2_indent_16 w4_49 (by decide) t_a0 rfl rfl (by decide) rfl ?_
      refine c_isub C dX2_indent_19 ?_
      refine c_icmp_le (tgt := 24) C ⟨by omega, by omega⟩ ⟨by omega, by omega⟩ dX2_indent_20 (by decide) (fun c3 => ?_) (fun c3 => ?_)
      · refine c_aload_n (j := 0) (x := a0) C dX2_indent_24 rfl ?_
        obtain ⟨rb1, rq1, trb1⟩ := hW.ref t_a0 0 rfl rfl rfl
        have lnrb1 : 200 ≤ ln rb1 ∧ ln rb1 ≤ 200 := hW.len trb1 rfl
        refine c_getr (k := 0) C ck_3 dX2_indent_25 w4_44 (by decide) t_a0 rfl rfl (by decide) rfl rq1 ?_
        refine c_st (st2 := [.ref rb1]) rfl ?_
        refine c_iconst C dX2_indent_28 ?_
        refine c_aload_n (j := 0) (x := a0) C dX2_indent_29 rfl ?_
        refine c_getr (k := 0) C ck_3 dX2_indent_30 w4_44 (by decide) t_a0 rfl rfl (by decide) rfl rq1 ?_
        refine c_st (st2 := [.ref rb1, .int (iI 0), .ref rb1]) rfl ?_
        refine c_iload_n (j := 1) C dX2_indent_33 rfl ?_
        refine c_aload_n (j := 0) (x := a0) C dX2_indent_34 rfl ?_
        refine c_get (k := 1) C ck_3 dX2_indent_35 w4_49 (by decide) t_a0 rfl rfl (by decide) rfl ?_
        have ll1 : 200 ≤ ln rb1 ∧ ln rb1 ≤ 200 := hW.len trb1 rfl
        refine c_copyi (sp := 0) (dp := n) (n := iv a0 1) C dX2_indent_38 w4_80 w2_133 w2_132 w1_15 trb1 rfl trb1 rfl (by omega) (by omega) (by omega) (by omega) (by omega) (by omega) (by omega) (by decide) (Nat.le_of_ble_eq_true rfl) (fun iv1 pq1 => ?_)
        refine hv2 (hW.copy pq1 trb1 trb1 (fun _ => rfl) (fun _ => rfl) (fun _ => rfl) (fun _ => rfl) rfl) (hF0.copy hX0 pq1 trb1 rfl) (fun W1 F1 => ?_)
        refine c_iconst C dX2_indent_41 ?_
        refine c_istore_n (lv2 := [(2, .int (iI 0)), (0, .ref a0), (1, .int (iI n))]) C dX2_indent_42 (by decide) rfl ?_
        have Lp1 : ∀ (nn : Nat) (k : Int) (ivb1 : Nat → Nat → Int) , 201 - k < (nn : Int) → WT (g0 G) sk L cl ln ivb1 rv → fT [19, 64] L cl iv rv ivb1 rv → (0 ≤ k ∧ k ≤ n ∧ 0 < n) → (0 ≤ n ∧ n + ivb1 a0 1 ≤ 200) → (LFR L cl iv rv ivb1 a0) → (ivb1 a0 1 = iv a0 1 ∧ iv a0 1 ≠ 0) → (ivb1 a0 2 = iv a0 2) → (INK iv rv ivb1 a0 n k) → cw p l e 1 ((PHM) + 0 - ((Phi (g0 G) sk) ln rv)) s m args below meth c G A 3 (MQ below (Qu G A (Qp G (Phi (g0 G) sk) ((Phi (g0 G) sk) ln rv) 0 (fun v L2 cl2 ln2 iv2 rv2 => v = none ∧ L = L2 ∧ cl = cl2 ∧ ln = ln2 ∧ rv = rv2 ∧ fT [19, 64] L cl iv rv iv2 rv2 ∧ WT (g0 G) sk L2 cl2 ln2 iv2 rv2 ∧ ((LFR L cl iv rv iv2 a0 ∧ iv2 a0 2 = iv a0 2) ∧ INX iv rv iv2 a0 n)))) args s (((PHM) + 0 - ((Phi (g0 G) sk) ln rv)) / 16) ((PHM) + 0 - ((Phi (g0 G) sk) ln rv)) A) (Phi (g0 G) sk) ((Phi (g0 G) sk) ln rv) L cl ln ivb1 rv 0 43 [(2, .int (iI k)), (0, .ref a0), (1, .int (iI n))] [] := by
          intro nn
          induction nn with
          | zero =>
            intro  k ivb1 hm Wb1 Fb1  hk hn hLF h1e h2e hIN
            exact absurd hm (by omega)
          | succ nn ih1 =>
            intro  k ivb1 hm Wb1 Fb1  hk hn hLF h1e h2e hIN
            refine c_iload_n (j := 0) C dX2_indent_43 rfl ?_
            refine c_iload_n (j := 2) C dX2_indent_44 rfl ?_
            refine c_icmp_ge (tgt := 61) C ⟨by omega, by omega⟩ ⟨by omega, by omega⟩ dX2_indent_45 (by decide) (fun c4 => ?_) (fun c4 => ?_)
            · refine c_aload_n (j := 1) (x := a0) C dX2_indent_61 rfl ?_
              refine c_dup C dX2_indent_62 rfl ?_
              have ri3 : 0 ≤ ivb1 a0 1 ∧ ivb1 a0 1 ≤ 200 := Wb1.int t_a0 1
              refine c_get (k := 1) C ck_3 dX2_indent_63 w4_49 (by decide) t_a0 rfl rfl (by decide) rfl ?_
              refine c_iload_n (j := 2) C dX2_indent_66 rfl ?_
              refine c_iadd C dX2_indent_67 ?_
              refine c_put (z := (ivb1 a0 1) + n) (k := 1) C ck_3 dX2_indent_68 w4_49 (by decide) rfl t_a0 rfl rfl (by decide) rfl (by rfl) (by rfl) (fun iv2 pq2 => ?_)
              refine hv4 (Wb1.puti pq2 t_a0 (show 0 ≤ ((ivb1 a0 1) + n) ∧ ((ivb1 a0 1) + n) ≤ 200 by omega) rfl) (Fb1.puti hX0 pq2 t_a0 rfl) (show iv2 a0 1 = (ivb1 a0 1) + n from by rw [pq2]; exact up2_s) (show iv2 a0 2 = ivb1 a0 2 from by rw [pq2]; exact up2_j (by decide)) (fun W2 F2 ie2 ie3 => ?_)
              refine hv2 (show 0 ≤ iv2 a0 1 ∧ iv2 a0 1 ≤ 200 from W2.int t_a0 1) (show 0 ≤ iv2 a0 2 ∧ iv2 a0 2 ≤ 1 from W2.int t_a0 2) (fun ri4 ri5 => ?_)
              exact c_vret C dX2_indent_71 rfl (by decide) (rom0 hph hph (by decide)) ⟨rfl, rfl, rfl, rfl, rfl, F2, W2, ⟨⟨hLF.self t_a0 pq2, by omega⟩, INX.mk (by have q := hIN; rw [show k = n by omega] at q; exact q) rq1 pq2 (by omega) (ne_ty trb1 t_a0 (by decide)) (by omega) ⟨by omega, by omega⟩⟩⟩
            · refine c_aload_n (j := 1) (x := a0) C dX2_indent_48 rfl ?_
              refine c_getr (k := 0) C ck_3 dX2_indent_49 w4_44 (by decide) t_a0 rfl rfl (by decide) rfl rq1 ?_
              refine c_st (st2 := [.ref rb1]) rfl ?_
              refine c_iload_n (j := 0) C dX2_indent_52 rfl ?_
              refine c_iconst C dX2_indent_53 ?_
              refine c_iast (x := 0) C dX2_indent_54 trb1 rfl (by omega) (by omega) (by omega) (fun iv3 pq3 => ?_)
              refine hv2 (Wb1.puti pq3 trb1 (show (-2147483648) ≤ 0 ∧ 0 ≤ 2147483647 by omega) rfl) (Fb1.puti hX0 pq3 trb1 rfl) (fun W3 F3 => ?_)
              refine c_iinc (z := k) (j := 0) (lv2 := [(2, .int (iI (k + 1))), (0, .ref a0), (1, .int (iI n))]) C dX2_indent_55 rfl (by decide) rfl ?_
              refine c_goto (tgt := 43) C dX2_indent_58 (by decide) ?_
              refine hv4 (show 0 ≤ iv3 a0 1 ∧ iv3 a0 1 ≤ 200 from W3.int t_a0 1) (show iv3 a0 1 = ivb1 a0 1 from by rw [pq3]; exact up2_k (ne_ty t_a0 trb1 (by decide))) (show 0 ≤ iv3 a0 2 ∧ iv3 a0 2 ≤ 1 from W3.int t_a0 2) (show iv3 a0 2 = ivb1 a0 2 from by rw [pq3]; exact up2_k (ne_ty t_a0 trb1 (by decide))) (fun ri6 ie5 ri7 ie7 => ?_)
              refine c_lv (lv2 := [(2, .int (iI (k + 1))), (0, .ref a0), (1, .int (iI n))]) [0, 1, 2] rfl ?_
              exact ih1  (k + 1) _ (by omega) W3 F3  (by omega) (by show 0 ≤ n ∧ n + iv3 a0 1 ≤ 200; omega) (hLF.cell rq1 trb1 pq3) (by show iv3 a0 1 = iv a0 1 ∧ iv a0 1 ≠ 0; omega) (ie7.trans h2e) (hIN.step rq1 pq3 ⟨by omega, by omega⟩)
        refine hv4 (show 0 ≤ iv1 a0 1 ∧ iv1 a0 1 ≤ 200 from W1.int t_a0 1) (show iv1 a0 1 = iv a0 1 from by rw [pq1]; exact if_neg (ne_ty t_a0 trb1 (by decide))) (show 0 ≤ iv1 a0 2 ∧ iv1 a0 2 ≤ 1 from W1.int t_a0 2) (show iv1 a0 2 = iv a0 2 from by rw [pq1]; exact if_neg (ne_ty t_a0 trb1 (by decide))) (fun ri8 ie9 ri9 ie10 => ?_)
        refine c_lv (lv2 := [(2, .int (iI 0)), (0, .ref a0), (1, .int (iI n))]) [0, 1, 2] rfl ?_
        exact Lp1 203 0 _ (by omega) W1 F1  (by omega) (by show 0 ≤ n ∧ n + iv1 a0 1 ≤ 200; omega) (LFR.refl.copy rq1 trb1 pq1) (by show iv1 a0 1 = iv a0 1 ∧ iv a0 1 ≠ 0; omega) ie10 (INK.init rq1 pq1 rfl (by omega) (by omega))
      · exact c_vret C dX2_indent_23 rfl (by decide) (rom0 hph hph (by decide)) ⟨rfl, rfl, rfl, rfl, rfl, hF0, hW, ⟨⟨LFR.refl, rfl⟩, INX.no (by omega)⟩⟩
set_option maxHeartbeats 4000000 in
set_option maxRecDepth 100000 in
theorem G_lastBreak {l : Launch} {G : GT} {mi : Nat} {sk : Nat → Nat} {L : List Nat} {cl ln : Nat → Nat} {iv : Nat → Nat → Int} {rv : Nat → Nat → Option Nat}  {a0 : Nat} {x : Int} {i : Int} {n : Int} (hW : WT (g0 G) sk L cl ln iv rv) (hS : SKL sk L cl) (t_a0 : ty L cl a0 15) (h_x : -2147483648 ≤ x ∧ x ≤ 2147483647) (h_i : -2147483648 ≤ i ∧ i ≤ 2147483647) (h_n : -2147483648 ≤ n ∧ n ≤ 2147483647) (hi : 0 ≤ i) : Mc l G mi (Phi (g0 G) sk) PHM yX6_lastBreak cX6_lastBreak 7 (some .int) 1 [.ref a0, .int (iI x), .int (iI i), .int (iI n)] L cl ln iv rv 0 (fun v L2 cl2 ln2 iv2 rv2 => ∃ f : Int, v = some (.int (iI f)) ∧ L = L2 ∧ cl = cl2 ∧ ln = ln2 ∧ iv = iv2 ∧ rv = rv2 ∧ (-2147483648 ≤ f ∧ f ≤ 2147483647) ∧ (i ≤ f ∧ LBX iv rv a0 x i n f)) := by
  refine Mc.mk (by decide) (Nat.le_of_ble_eq_true rfl) ?_
  intro p e s m args below meth c A C hM
  refine hv4 (Phi.le hW hS) (show XT L cl ln L cl ln from XT.refl) (show fT [] L cl iv rv iv rv from fT.refl) (show 0 ≤ iv a0 4 ∧ iv a0 4 ≤ 500 from hW.int t_a0 4) (fun hph hX0 hF0 ri1 => ?_)
  refine c_iload_n (j := 2) C dX6_lastBreak_0 rfl ?_
  refine c_istore (lv2 := [(4, .int (iI i)), (0, .ref a0), (1, .int (iI x)), (2, .int (iI i)), (3, .int (iI n))]) C dX6_lastBreak_1 (by decide) rfl ?_
  refine c_iload_n (j := 2) C dX6_lastBreak_3 rfl ?_
  refine c_iconst C dX6_lastBreak_4 ?_
  refine c_icmp_gt (tgt := 22) C ⟨by omega, by omega⟩ ⟨by decide, by decide⟩ dX6_lastBreak_5 (by decide) (fun c1 => ?_) (fun c1 => ?_)
  · refine c_iload (j := 0) C dX6_lastBreak_22 rfl ?_
    exact c_iret C dX6_lastBreak_24 rfl (by decide) (rom0 hph hph (by decide)) ⟨i, rfl, rfl, rfl, rfl, rfl, rfl, ⟨by omega, by omega⟩, ⟨by omega, LBX.no (by omega)⟩⟩
  · refine c_iload_n (j := 2) C dX6_lastBreak_8 rfl ?_
    refine c_iconst C dX6_lastBreak_9 ?_
    refine c_icmp_ne (tgt := 25) C ⟨by omega, by omega⟩ ⟨by decide, by decide⟩ dX6_lastBreak_10 (by decide) (fun c2 => ?_) (fun c2 => ?_)
    · refine c_iconst C dX6_lastBreak_25 ?_
      refine c_istore (lv2 := [(5, .int (iI 1)), (4, .int (iI i)), (0, .ref a0), (1, .int (iI x)), (2, .int (iI i)), (3, .int (iI n))]) C dX6_lastBreak_26 (by decide) rfl ?_
      have Lp1 : ∀ (nn : Nat) (la k : Int) , 502 - k < (nn : Int) → (i ≤ la ∧ la ≤ 2147483647) → (1 ≤ k ∧ k ≤ 501 ∧ (k = 1 ∨ k ≤ iv a0 4)) → (x ≤ 3 ∧ (x = 3 → 6 ≤ iv a0 4)) → (LBI iv rv a0 x i n k la) → cw p l e 1 ((PHM) + 0 - ((Phi (g0 G) sk) ln rv)) s m args below meth c G A 7 (MQ below (Qu G A (Qp G (Phi (g0 G) sk) ((Phi (g0 G) sk) ln rv) 0 (fun v L2 cl2 ln2 iv2 rv2 => ∃ f : Int, v = some (.int (iI f)) ∧ L = L2 ∧ cl = cl2 ∧ ln = ln2 ∧ iv = iv2 ∧ rv = rv2 ∧ (-2147483648 ≤ f ∧ f ≤ 2147483647) ∧ (i ≤ f ∧ LBX iv rv a0 x i n f)))) args s (((PHM) + 0 - ((Phi (g0 G) sk) ln rv)) / 16) ((PHM) + 0 - ((Phi (g0 G) sk) ln rv)) A) (Phi (g0 G) sk) ((Phi (g0 G) sk) ln rv) L cl ln iv rv 0 28 [(4, .int (iI la)), (5, .int (iI k)), (0, .ref a0), (1, .int (iI x)), (2, .int (iI i)), (3, .int (iI n))] [] := by
        intro nn
        induction nn with
        | zero =>
          intro  la k  hm   hla hk hx3 hLB
          exact absurd hm (by omega)
        | succ nn ih1 =>
          intro  la k  hm   hla hk hx3 hLB
          refine c_iload (j := 1) C dX6_lastBreak_28 rfl ?_
          refine c_aload_n (j := 2) (x := a0) C dX6_lastBreak_30 rfl ?_
          refine c_get (k := 4) C ck_7 dX6_lastBreak_31 w1_140 (by decide) t_a0 rfl rfl (by decide) rfl ?_
          refine c_icmp_ge (tgt := 132) C (r32_c (lo := 1) (hi := 501) hk.1 hk.2.1 (by decide) (by decide)) (r32_c (lo := 0) (hi := 500) ri1.1 ri1.2 (by decide) (by decide)) dX6_lastBreak_34 (by decide) (fun c3 => ?_) (fun c3 => ?_)
          · refine c_iload (j := 0) C dX6_lastBreak_132 rfl ?_
            exact c_iret C dX6_lastBreak_134 rfl (by decide) (rom0 hph hph (by decide)) ⟨la, rfl, rfl, rfl, rfl, rfl, rfl, ⟨by omega, by omega⟩, ⟨by omega, LBI.fin hLB (by omega)⟩⟩
          · refine c_aload_n (j := 2) (x := a0) C dX6_lastBreak_37 rfl ?_
            obtain ⟨rb1, rq1, trb1⟩ := hW.ref t_a0 2 rfl rfl rfl
            have lnrb1 : 500 ≤ ln rb1 ∧ ln rb1 ≤ 500 := hW.len trb1 rfl
            refine c_getr (k := 2) C ck_7 dX6_lastBreak_38 w1_138 (by decide) t_a0 rfl rfl (by decide) rfl rq1 ?_
            refine c_st (st2 := [.ref rb1]) rfl ?_
            refine c_iload (j := 1) C dX6_lastBreak_41 rfl ?_
            have ll1 : 500 ≤ ln rb1 ∧ ln rb1 ≤ 500 := hW.len trb1 rfl
            refine c_zald C dX6_lastBreak_43 trb1 rfl (by omega) (by omega) (by omega) ?_
            have ri2 : 0 ≤ iv rb1 k.toNat ∧ iv rb1 k.toNat ≤ 1 := hW.int trb1 k.toNat
            refine c_if_eq (tgt := 76) C (r32_c (lo := 0) (hi := 1) ri2.1 ri2.2 (by decide) (by decide)) dX6_lastBreak_44 (by decide) (fun c4 => ?_) (fun c4 => ?_)
            · refine c_iconst C dX6_lastBreak_76 ?_
              refine c_istore (lv2 := [(6, .int (iI 0)), (4, .int (iI la)), (5, .int (iI k)), (0, .ref a0), (1, .int (iI x)), (2, .int (iI i)), (3, .int (iI n))]) C dX6_lastBreak_77 (by decide) rfl ?_
              refine c_iload (j := 0) C dX6_lastBreak_79 rfl ?_
              refine c_if_eq (tgt := 126) C ⟨by decide, by decide⟩ dX6_lastBreak_81 (by decide) (fun _ => ?_) (fun z => absurd z (by omega))
              refine c_iinc (z := k) (j := 2) (lv2 := [(5, .int (iI (k + 1))), (6, .int (iI 0)), (4, .int (iI la)), (0, .ref a0), (1, .int (iI x)), (2, .int (iI i)), (3, .int (iI n))]) C dX6_lastBreak_126 rfl (by decide) rfl ?_
              refine c_goto (tgt := 28) C dX6_lastBreak_129 (by decide) ?_
              refine c_lv (lv2 := [(4, .int (iI la)), (5, .int (iI (k + 1))), (0, .ref a0), (1, .int (iI x)), (2, .int (iI i)), (3, .int (iI n))]) [2, 0, 3, 4, 5, 6] rfl ?_
              exact ih1  la (k + 1)  (by omega)   (by omega) (by omega) (by omega) (hLB.nof ⟨by omega, by omega⟩ (by omega) (LBO.b0 (o := 0) hW t_a0 rq1 ⟨by omega, by omega⟩ (by decide) (by omega)) (by decide) ⟨by omega, by omega⟩)
            · refine c_aload_n (j := 2) (x := a0) C dX6_lastBreak_47 rfl ?_
              obtain ⟨rb2, rq2, trb2⟩ := hW.ref t_a0 3 rfl rfl rfl
              have lnrb2 : 500 ≤ ln rb2 ∧ ln rb2 ≤ 500 := hW.len trb2 rfl
              refine c_getr (k := 3) C ck_7 dX6_lastBreak_48 w1_139 (by decide) t_a0 rfl rfl (by decide) rfl rq2 ?_
              refine c_st (st2 := [.ref rb2]) rfl ?_
              refine c_iload (j := 1) C dX6_lastBreak_51 rfl ?_
              have ll2 : 500 ≤ ln rb2 ∧ ln rb2 ≤ 500 := hW.len trb2 rfl
              refine c_iald C dX6_lastBreak_53 trb2 rfl (by omega) (by omega) (by omega) ?_
              have ri3 : (-2147483648) ≤ iv rb2 k.toNat ∧ iv rb2 k.toNat ≤ 2147483647 := hW.int trb2 k.toNat
              refine c_iload (j := 0) C dX6_lastBreak_54 rfl ?_
              refine c_icmp_le (tgt := 76) C (r32_c (lo := (-2147483648)) (hi := 2147483647) ri3.1 ri3.2 (by decide) (by decide)) ⟨by omega, by omega⟩ dX6_lastBreak_56 (by decide) (fun c5 => ?_) (fun c5 => ?_)
              · refine c_iconst C dX6_lastBreak_76 ?_
                refine c_istore (lv2 := [(6, .int (iI 0)), (4, .int (iI la)), (5, .int (iI k)), (0, .ref a0), (1, .int (iI x)), (2, .int (iI i)), (3, .int (iI n))]) C dX6_lastBreak_77 (by decide) rfl ?_
                refine c_iload (j := 0) C dX6_lastBreak_79 rfl ?_
                refine c_if_eq (tgt := 126) C ⟨by decide, by decide⟩ dX6_lastBreak_81 (by decide) (fun _ => ?_) (fun z => absurd z (by omega))
                refine c_iinc (z := k) (j := 2) (lv2 := [(5, .int (iI (k + 1))), (6, .int (iI 0)), (4, .int (iI la)), (0, .ref a0), (1, .int (iI x)), (2, .int (iI i)), (3, .int (iI n))]) C dX6_lastBreak_126 rfl (by decide) rfl ?_
                refine c_goto (tgt := 28) C dX6_lastBreak_129 (by decide) ?_
                refine c_lv (lv2 := [(4, .int (iI la)), (5, .int (iI (k + 1))), (0, .ref a0), (1, .int (iI x)), (2, .int (iI i)), (3, .int (iI n))]) [2, 0, 3, 4, 5, 6] rfl ?_
                exact ih1  la (k + 1)  (by omega)   (by omega) (by omega) (by omega) (hLB.nof ⟨by omega, by omega⟩ (by omega) (LBO.mk (o := 0) hW t_a0 rq1 rq2 ⟨by omega, by omega⟩ (by omega)) (by decide) ⟨by omega, by omega⟩)
              · refine c_aload_n (j := 2) (x := a0) C dX6_lastBreak_59 rfl ?_
                refine c_getr (k := 3) C ck_7 dX6_lastBreak_60 w1_139 (by decide) t_a0 rfl rfl (by decide) rfl rq2 ?_
                refine c_st (st2 := [.ref rb2]) rfl ?_
                refine c_iload (j := 1) C dX6_lastBreak_63 rfl ?_
                refine c_iald C dX6_lastBreak_65 trb2 rfl (by omega) (by omega) (by omega) ?_
                refine c_iload_n (j := 4) C dX6_lastBreak_66 rfl ?_
                refine c_isub C dX6_lastBreak_67 ?_
                refine c_iload_n (j := 5) C dX6_lastBreak_68 rfl ?_
                refine c_icmp_gt (tgt := 76) C ⟨by omega, by omega⟩ ⟨by omega, by omega⟩ dX6_lastBreak_69 (by decide) (fun c6 => ?_) (fun c6 => ?_)
                · refine c_iconst C dX6_lastBreak_76 ?_
                  refine c_istore (lv2 := [(6, .int (iI 0)), (4, .int (iI la)), (5, .int (iI k)), (0, .ref a0), (1, .int (iI x)), (2, .int (iI i)), (3, .int (iI n))]) C dX6_lastBreak_77 (by decide) rfl ?_
                  refine c_iload (j := 0) C dX6_lastBreak_79 rfl ?_
                  refine c_if_eq (tgt := 126) C ⟨by decide, by decide⟩ dX6_lastBreak_81 (by decide) (fun _ => ?_) (fun z => absurd z (by omega))
                  refine c_iinc (z := k) (j := 2) (lv2 := [(5, .int (iI (k + 1))), (6, .int (iI 0)), (4, .int (iI la)), (0, .ref a0), (1, .int (iI x)), (2, .int (iI i)), (3, .int (iI n))]) C dX6_lastBreak_126 rfl (by decide) rfl ?_
                  refine c_goto (tgt := 28) C dX6_lastBreak_129 (by decide) ?_
                  refine c_lv (lv2 := [(4, .int (iI la)), (5, .int (iI (k + 1))), (0, .ref a0), (1, .int (iI x)), (2, .int (iI i)), (3, .int (iI n))]) [2, 0, 3, 4, 5, 6] rfl ?_
                  exact ih1  la (k + 1)  (by omega)   (by omega) (by omega) (by omega) (hLB.nof ⟨by omega, by omega⟩ (by omega) (LBO.mk (o := 0) hW t_a0 rq1 rq2 ⟨by omega, by omega⟩ (by omega)) (by decide) ⟨by omega, by omega⟩)
                · refine c_iconst C dX6_lastBreak_72 ?_
                  refine c_goto (tgt := 77) C dX6_lastBreak_73 (by decide) ?_
                  refine c_istore (lv2 := [(6, .int (iI 1)), (4, .int (iI la)), (5, .int (iI k)), (0, .ref a0), (1, .int (iI x)), (2, .int (iI i)), (3, .int (iI n))]) C dX6_lastBreak_77 (by decide) rfl ?_
                  refine c_iload (j := 0) C dX6_lastBreak_79 rfl ?_
                  refine c_if_eq (tgt := 126) C ⟨by decide, by decide⟩ dX6_lastBreak_81 (by decide) (fun z => absurd z (by omega)) (fun _ => ?_)
                  refine c_iload_n (j := 4) C dX6_lastBreak_84 rfl ?_
                  refine c_iconst C dX6_lastBreak_85 ?_
                  refine c_icmp_ne (tgt := 117) C ⟨by omega, by omega⟩ ⟨by decide, by decide⟩ dX6_lastBreak_86 (by decide) (fun c7 => ?_) (fun c7 => ?_)
                  · refine c_aload_n (j := 3) (x := a0) C dX6_lastBreak_117 rfl ?_
                    refine c_getr (k := 3) C ck_7 dX6_lastBreak_118 w1_139 (by decide) t_a0 rfl rfl (by decide) rfl rq2 ?_
                    refine c_st (st2 := [.ref rb2]) rfl ?_
                    refine c_iload (j := 2) C dX6_lastBreak_121 rfl ?_
                    refine c_iald C dX6_lastBreak_123 trb2 rfl (by omega) (by omega) (by omega) ?_
                    refine c_istore (lv2 := [(4, .int (iI (iv rb2 k.toNat))), (6, .int (iI 1)), (5, .int (iI k)), (0, .ref a0), (1, .int (iI x)), (2, .int (iI i)), (3, .int (iI n))]) C dX6_lastBreak_124 (by decide) rfl ?_
                    refine c_iinc (z := k) (j := 2) (lv2 := [(5, .int (iI (k + 1))), (4, .int (iI (iv rb2 k.toNat))), (6, .int (iI 1)), (0, .ref a0), (1, .int (iI x)), (2, .int (iI i)), (3, .int (iI n))]) C dX6_lastBreak_126 rfl (by decide) rfl ?_
                    refine c_goto (tgt := 28) C dX6_lastBreak_129 (by decide) ?_
                    refine c_lv (lv2 := [(4, .int (iI (iv rb2 k.toNat))), (5, .int (iI (k + 1))), (0, .ref a0), (1, .int (iI x)), (2, .int (iI i)), (3, .int (iI n))]) [1, 0, 3, 4, 5, 6] rfl ?_
                    exact ih1  (iv rb2 k.toNat) (k + 1)  (by omega)   (by omega) (by omega) (by omega) (hLB.take ⟨by omega, by omega⟩ ⟨by omega, by omega⟩ (LBO.mk (o := 1) hW t_a0 rq1 rq2 ⟨by omega, by omega⟩ (by omega)) rfl hW t_a0 rq2 (fun q => absurd q (by omega)) ⟨by omega, by omega⟩)
                  · refine c_aload_n (j := 3) (x := a0) C dX6_lastBreak_89 rfl ?_
                    obtain ⟨rb3, rq3, trb3⟩ := hW.ref t_a0 0 rfl rfl rfl
                    have lnrb3 : 500 ≤ ln rb3 ∧ ln rb3 ≤ 500 := hW.len trb3 rfl
                    refine c_getr (k := 0) C ck_7 dX6_lastBreak_90 w1_136 (by decide) t_a0 rfl rfl (by decide) rfl rq3 ?_
                    refine c_st (st2 := [.ref rb3]) rfl ?_
                    refine c_iload (j := 2) C dX6_lastBreak_93 rfl ?_
                    refine c_iconst C dX6_lastBreak_95 ?_
                    refine c_isub C dX6_lastBreak_96 ?_
                    have ll3 : 500 ≤ ln rb3 ∧ ln rb3 ≤ 500 := hW.len trb3 rfl
                    refine c_iald C dX6_lastBreak_97 trb3 rfl (by omega) (by omega) (by omega) ?_
                    have ri4 : (-2147483648) ≤ iv rb3 ((k - 1).toNat) ∧ iv rb3 ((k - 1).toNat) ≤ 2147483647 := hW.int trb3 ((k - 1).toNat)
                    refine c_callSN0 (As := [.int (iI (iv rb3 (k - 1).toNat))]) (rest := []) C (fun L E => s11_isDigit (iI (iv rb3 (k - 1).toNat))) dX6_lastBreak_98 kSN_X6_115 rfl rfl (Nat.le_of_ble_eq_true rfl) ⟨(Nat.le_of_ble_eq_true rfl), (Nat.le_of_ble_eq_true rfl)⟩ (rom0 hph hph (by decide)) ?_
                    rcases inn_c (x := iv rb3 (k - 1).toNat) (lo := 48) (hi := 57) ⟨by omega, by omega⟩ ⟨by decide, by decide⟩ ⟨by decide, by decide⟩ with ⟨hs1a, hs1b, hs1e⟩ | ⟨hs1a, hs1e⟩
                    · refine c_st (st2 := [.int (iI 1)]) (by rw [show inn (iI (iv rb3 (k - 1).toNat)) 48 57 = iI 1 from hs1e]) ?_
                      refine c_if_ne (tgt := 126) C ⟨by decide, by decide⟩ dX6_lastBreak_101 (by decide) (fun _ => ?_) (fun z => absurd z (by omega))
                      refine c_iinc (z := k) (j := 2) (lv2 := [(5, .int (iI (k + 1))), (6, .int (iI 1)), (4, .int (iI la)), (0, .ref a0), (1, .int (iI x)), (2, .int (iI i)), (3, .int (iI n))]) C dX6_lastBreak_126 rfl (by decide) rfl ?_
                      refine c_goto (tgt := 28) C dX6_lastBreak_129 (by decide) ?_
                      refine c_lv (lv2 := [(4, .int (iI la)), (5, .int (iI (k + 1))), (0, .ref a0), (1, .int (iI x)), (2, .int (iI i)), (3, .int (iI n))]) [2, 0, 3, 4, 5, 6] rfl ?_
                      exact ih1  la (k + 1)  (by omega)   (by omega) (by omega) (by omega) (hLB.dig ⟨by omega, by omega⟩ (by omega) hW t_a0 rq3 (Or.inl (by unfold isD; omega)))
                    · refine c_st (st2 := [.int (iI 0)]) (by rw [show inn (iI (iv rb3 (k - 1).toNat)) 48 57 = iI 0 from hs1e]) ?_
                      refine c_if_ne (tgt := 126) C ⟨by decide, by decide⟩ dX6_lastBreak_101 (by decide) (fun z => absurd z (by omega)) (fun _ => ?_)
                      refine c_aload_n (j := 3) (x := a0) C dX6_lastBreak_104 rfl ?_
                      refine c_getr (k := 0) C ck_7 dX6_lastBreak_105 w1_136 (by decide) t_a0 rfl rfl (by decide) rfl rq3 ?_
                      refine c_st (st2 := [.ref rb3]) rfl ?_
                      refine c_iload (j := 2) C dX6_lastBreak_108 rfl ?_
                      refine c_iald C dX6_lastBreak_110 trb3 rfl (by omega) (by omega) (by omega) ?_
                      have ri5 : (-2147483648) ≤ iv rb3 k.toNat ∧ iv rb3 k.toNat ≤ 2147483647 := hW.int trb3 k.toNat
                      refine c_callSN0 (As := [.int (iI (iv rb3 k.toNat))]) (rest := []) C (fun L E => s11_isDigit (iI (iv rb3 k.toNat))) dX6_lastBreak_111 kSN_X6_115 rfl rfl (Nat.le_of_ble_eq_true rfl) ⟨(Nat.le_of_ble_eq_true rfl), (Nat.le_of_ble_eq_true rfl)⟩ (rom0 hph hph (by decide)) ?_
                      rcases inn_c (x := iv rb3 k.toNat) (lo := 48) (hi := 57) (r32_c (lo := (-2147483648)) (hi := 2147483647) ri5.1 ri5.2 (by decide) (by decide)) ⟨by decide, by decide⟩ ⟨by decide, by decide⟩ with ⟨hs2a, hs2b, hs2e⟩ | ⟨hs2a, hs2e⟩
                      · refine c_st (st2 := [.int (iI 1)]) (by rw [show inn (iI (iv rb3 k.toNat)) 48 57 = iI 1 from hs2e]) ?_
                        refine c_if_ne (tgt := 126) C ⟨by decide, by decide⟩ dX6_lastBreak_114 (by decide) (fun _ => ?_) (fun z => absurd z (by omega))
                        refine c_iinc (z := k) (j := 2) (lv2 := [(5, .int (iI (k + 1))), (6, .int (iI 1)), (4, .int (iI la)), (0, .ref a0), (1, .int (iI x)), (2, .int (iI i)), (3, .int (iI n))]) C dX6_lastBreak_126 rfl (by decide) rfl ?_
                        refine c_goto (tgt := 28) C dX6_lastBreak_129 (by decide) ?_
                        refine c_lv (lv2 := [(4, .int (iI la)), (5, .int (iI (k + 1))), (0, .ref a0), (1, .int (iI x)), (2, .int (iI i)), (3, .int (iI n))]) [2, 0, 3, 4, 5, 6] rfl ?_
                        exact ih1  la (k + 1)  (by omega)   (by omega) (by omega) (by omega) (hLB.dig ⟨by omega, by omega⟩ (by omega) hW t_a0 rq3 (Or.inr (by unfold isD; omega)))
                      · refine c_st (st2 := [.int (iI 0)]) (by rw [show inn (iI (iv rb3 k.toNat)) 48 57 = iI 0 from hs2e]) ?_
                        refine c_if_ne (tgt := 126) C ⟨by decide, by decide⟩ dX6_lastBreak_114 (by decide) (fun z => absurd z (by omega)) (fun _ => ?_)
                        refine c_aload_n (j := 3) (x := a0) C dX6_lastBreak_117 rfl ?_
                        refine c_getr (k := 3) C ck_7 dX6_lastBreak_118 w1_139 (by decide) t_a0 rfl rfl (by decide) rfl rq2 ?_
                        refine c_st (st2 := [.ref rb2]) rfl ?_
                        refine c_iload (j := 2) C dX6_lastBreak_121 rfl ?_
                        refine c_iald C dX6_lastBreak_123 trb2 rfl (by omega) (by omega) (by omega) ?_
                        refine c_istore (lv2 := [(4, .int (iI (iv rb2 k.toNat))), (6, .int (iI 1)), (5, .int (iI k)), (0, .ref a0), (1, .int (iI x)), (2, .int (iI i)), (3, .int (iI n))]) C dX6_lastBreak_124 (by decide) rfl ?_
                        refine c_iinc (z := k) (j := 2) (lv2 := [(5, .int (iI (k + 1))), (4, .int (iI (iv rb2 k.toNat))), (6, .int (iI 1)), (0, .ref a0), (1, .int (iI x)), (2, .int (iI i)), (3, .int (iI n))]) C dX6_lastBreak_126 rfl (by decide) rfl ?_
                        refine c_goto (tgt := 28) C dX6_lastBreak_129 (by decide) ?_
                        refine c_lv (lv2 := [(4, .int (iI (iv rb2 k.toNat))), (5, .int (iI (k + 1))), (0, .ref a0), (1, .int (iI x)), (2, .int (iI i)), (3, .int (iI n))]) [1, 0, 3, 4, 5, 6] rfl ?_
                        exact ih1  (iv rb2 k.toNat) (k + 1)  (by omega)   (by omega) (by omega) (by omega) (hLB.take ⟨by omega, by omega⟩ ⟨by omega, by omega⟩ (LBO.mk (o := 1) hW t_a0 rq1 rq2 ⟨by omega, by omega⟩ (by omega)) rfl hW t_a0 rq2 (fun _ => ⟨_, rq3, (by unfold isD; omega), (by unfold isD; omega)⟩) ⟨by omega, by omega⟩)
      refine c_lv (lv2 := [(4, .int (iI i)), (5, .int (iI 1)), (0, .ref a0), (1, .int (iI x)), (2, .int (iI i)), (3, .int (iI n))]) [1, 0, 2, 3, 4, 5] rfl ?_
      exact Lp1 503 i 1  (by omega)   (by omega) (by omega) (by omega) LBI.init
    · refine c_aload_n (j := 1) (x := a0) C dX6_lastBreak_13 rfl ?_
      refine c_get (k := 4) C ck_7 dX6_lastBreak_14 w1_140 (by decide) t_a0 rfl rfl (by decide) rfl ?_
      refine c_bipush (z := 6) C dX6_lastBreak_17 (by decide) ?_
      refine c_icmp_ge (tgt := 25) C (r32_c (lo := 0) (hi := 500) ri1.1 ri1.2 (by decide) (by decide)) ⟨by decide, by decide⟩ dX6_lastBreak_19 (by decide) (fun c8 => ?_) (fun c8 => ?_)
      · refine c_iconst C dX6_lastBreak_25 ?_
        refine c_istore (lv2 := [(5, .int (iI 1)), (4, .int (iI i)), (0, .ref a0), (1, .int (iI x)), (2, .int (iI i)), (3, .int (iI n))]) C dX6_lastBreak_26 (by decide) rfl ?_
        have Lp2 : ∀ (nn : Nat) (la k : Int) , 502 - k < (nn : Int) → (i ≤ la ∧ la ≤ 2147483647) → (1 ≤ k ∧ k ≤ 501 ∧ (k = 1 ∨ k ≤ iv a0 4)) → (x ≤ 3 ∧ (x = 3 → 6 ≤ iv a0 4)) → (LBI iv rv a0 x i n k la) → cw p l e 1 ((PHM) + 0 - ((Phi (g0 G) sk) ln rv)) s m args below meth c G A 7 (MQ below (Qu G A (Qp G (Phi (g0 G) sk) ((Phi (g0 G) sk) ln rv) 0 (fun v L2 cl2 ln2 iv2 rv2 => ∃ f : Int, v = some (.int (iI f)) ∧ L = L2 ∧ cl = cl2 ∧ ln = ln2 ∧ iv = iv2 ∧ rv = rv2 ∧ (-2147483648 ≤ f ∧ f ≤ 2147483647) ∧ (i ≤ f ∧ LBX iv rv a0 x i n f)))) args s (((PHM) + 0 - ((Phi (g0 G) sk) ln rv)) / 16) ((PHM) + 0 - ((Phi (g0 G) sk) ln rv)) A) (Phi (g0 G) sk) ((Phi (g0 G) sk) ln rv) L cl ln iv rv 0 28 [(4, .int (iI la)), (5, .int (iI k)), (0, .ref a0), (1, .int (iI x)), (2, .int (iI i)), (3, .int (iI n))] [] := by
          intro nn
          induction nn with
          | zero =>
            intro  la k  hm   hla hk hx3 hLB
            exact absurd hm (by omega)
          | succ nn ih2 =>
            intro  la k  hm   hla hk hx3 hLB
            refine c_iload (j := 1) C dX6_lastBreak_28 rfl ?_
            refine c_aload_n (j := 2) (x := a0) C dX6_lastBreak_30 rfl ?_
            refine c_get (k := 4) C ck_7 dX6_lastBreak_31 w1_140 (by decide) t_a0 rfl rfl (by decide) rfl ?_
            refine c_icmp_ge (tgt := 132) C (r32_c (lo := 1) (hi := 501) hk.1 hk.2.1 (by decide) (by decide)) (r32_c (lo := 0) (hi := 500) ri1.1 ri1.2 (by decide) (by decide)) dX6_lastBreak_34 (by decide) (fun c9 => ?_) (fun c9 => ?_)
            · refine c_iload (j := 0) C dX6_lastBreak_132 rfl ?_
              exact c_iret C dX6_lastBreak_134 rfl (by decide) (rom0 hph hph (by decide)) ⟨la, rfl, rfl, rfl, rfl, rfl, rfl, ⟨by omega, by omega⟩, ⟨by omega, LBI.fin hLB (by omega)⟩⟩
            · refine c_aload_n (j := 2) (x := a0) C dX6_lastBreak_37 rfl ?_
              obtain ⟨rb4, rq4, trb4⟩ := hW.ref t_a0 2 rfl rfl rfl
              have lnrb4 : 500 ≤ ln rb4 ∧ ln rb4 ≤ 500 := hW.len trb4 rfl
              refine c_getr (k := 2) C ck_7 dX6_lastBreak_38 w1_138 (by decide) t_a0 rfl rfl (by decide) rfl rq4 ?_
              refine c_st (st2 := [.ref rb4]) rfl ?_
              refine c_iload (j := 1) C dX6_lastBreak_41 rfl ?_
              have ll4 : 500 ≤ ln rb4 ∧ ln rb4 ≤ 500 := hW.len trb4 rfl
              refine c_zald C dX6_lastBreak_43 trb4 rfl (by omega) (by omega) (by omega) ?_
              have ri6 : 0 ≤ iv rb4 k.toNat ∧ iv rb4 k.toNat ≤ 1 := hW.int trb4 k.toNat
              refine c_if_eq (tgt := 76) C (r32_c (lo := 0) (hi := 1) ri6.1 ri6.2 (by decide) (by decide)) dX6_lastBreak_44 (by decide) (fun c10 => ?_) (fun c10 => ?_)
              · refine c_iconst C dX6_lastBreak_76 ?_
                refine c_istore (lv2 := [(6, .int (iI 0)), (4, .int (iI la)), (5, .int (iI k)), (0, .ref a0), (1, .int (iI x)), (2, .int (iI i)), (3, .int (iI n))]) C dX6_lastBreak_77 (by decide) rfl ?_
                refine c_iload (j := 0) C dX6_lastBreak_79 rfl ?_
                refine c_if_eq (tgt := 126) C ⟨by decide, by decide⟩ dX6_lastBreak_81 (by decide) (fun _ => ?_) (fun z => absurd z (by omega))
                refine c_iinc (z := k) (j := 2) (lv2 := [(5, .int (iI (k + 1))), (6, .int (iI 0)), (4, .int (iI la)), (0, .ref a0), (1, .int (iI x)), (2, .int (iI i)), (3, .int (iI n))]) C dX6_lastBreak_126 rfl (by decide) rfl ?_
                refine c_goto (tgt := 28) C dX6_lastBreak_129 (by decide) ?_
                refine c_lv (lv2 := [(4, .int (iI la)), (5, .int (iI (k + 1))), (0, .ref a0), (1, .int (iI x)), (2, .int (iI i)), (3, .int (iI n))]) [2, 0, 3, 4, 5, 6] rfl ?_
                exact ih2  la (k + 1)  (by omega)   (by omega) (by omega) (by omega) (hLB.nof ⟨by omega, by omega⟩ (by omega) (LBO.b0 (o := 0) hW t_a0 rq4 ⟨by omega, by omega⟩ (by decide) (by omega)) (by decide) ⟨by omega, by omega⟩)
              · refine c_aload_n (j := 2) (x := a0) C dX6_lastBreak_47 rfl ?_
                obtain ⟨rb5, rq5, trb5⟩ := hW.ref t_a0 3 rfl rfl rfl
                have lnrb5 : 500 ≤ ln rb5 ∧ ln rb5 ≤ 500 := hW.len trb5 rfl
                refine c_getr (k := 3) C ck_7 dX6_lastBreak_48 w1_139 (by decide) t_a0 rfl rfl (by decide) rfl rq5 ?_
                refine c_st (st2 := [.ref rb5]) rfl ?_
                refine c_iload (j := 1) C dX6_lastBreak_51 rfl ?_
                have ll5 : 500 ≤ ln rb5 ∧ ln rb5 ≤ 500 := hW.len trb5 rfl
                refine c_iald C dX6_lastBreak_53 trb5 rfl (by omega) (by omega) (by omega) ?_
                have ri7 : (-2147483648) ≤ iv rb5 k.toNat ∧ iv rb5 k.toNat ≤ 2147483647 := hW.int trb5 k.toNat
                refine c_iload (j := 0) C dX6_lastBreak_54 rfl ?_
                refine c_icmp_le (tgt := 76) C (r32_c (lo := (-2147483648)) (hi := 2147483647) ri7.1 ri7.2 (by decide) (by decide)) ⟨by omega, by omega⟩ dX6_lastBreak_56 (by decide) (fun c11 => ?_) (fun c11 => ?_)
                · refine c_iconst C dX6_lastBreak_76 ?_
                  refine c_istore (lv2 := [(6, .int (iI 0)), (4, .int (iI la)), (5, .int (iI k)), (0, .ref a0), (1, .int (iI x)), (2, .int (iI i)), (3, .int (iI n))]) C dX6_lastBreak_77 (by decide) rfl ?_
                  refine c_iload (j := 0) C dX6_lastBreak_79 rfl ?_
                  refine c_if_eq (tgt := 126) C ⟨by decide, by decide⟩ dX6_lastBreak_81 (by decide) (fun _ => ?_) (fun z => absurd z (by omega))
                  refine c_iinc (z := k) (j := 2) (lv2 := [(5, .int (iI (k + 1))), (6, .int (iI 0)), (4, .int (iI la)), (0, .ref a0), (1, .int (iI x)), (2, .int (iI i)), (3, .int (iI n))]) C dX6_lastBreak_126 rfl (by decide) rfl ?_
                  refine c_goto (tgt := 28) C dX6_lastBreak_129 (by decide) ?_
                  refine c_lv (lv2 := [(4, .int (iI la)), (5, .int (iI (k + 1))), (0, .ref a0), (1, .int (iI x)), (2, .int (iI i)), (3, .int (iI n))]) [2, 0, 3, 4, 5, 6] rfl ?_
                  exact ih2  la (k + 1)  (by omega)   (by omega) (by omega) (by omega) (hLB.nof ⟨by omega, by omega⟩ (by omega) (LBO.mk (o := 0) hW t_a0 rq4 rq5 ⟨by omega, by omega⟩ (by omega)) (by decide) ⟨by omega, by omega⟩)
                · refine c_aload_n (j := 2) (x := a0) C dX6_lastBreak_59 rfl ?_
                  refine c_getr (k := 3) C ck_7 dX6_lastBreak_60 w1_139 (by decide) t_a0 rfl rfl (by decide) rfl rq5 ?_
                  refine c_st (st2 := [.ref rb5]) rfl ?_
                  refine c_iload (j := 1) C dX6_lastBreak_63 rfl ?_
                  refine c_iald C dX6_lastBreak_65 trb5 rfl (by omega) (by omega) (by omega) ?_
                  refine c_iload_n (j := 4) C dX6_lastBreak_66 rfl ?_
                  refine c_isub C dX6_lastBreak_67 ?_
                  refine c_iload_n (j := 5) C dX6_lastBreak_68 rfl ?_
                  refine c_icmp_gt (tgt := 76) C ⟨by omega, by omega⟩ ⟨by omega, by omega⟩ dX6_lastBreak_69 (by decide) (fun c12 => ?_) (fun c12 => ?_)
                  · refine c_iconst C dX6_lastBreak_76 ?_
                    refine c_istore (lv2 := [(6, .int (iI 0)), (4, .int (iI la)), (5, .int (iI k)), (0, .ref a0), (1, .int (iI x)), (2, .int (iI i)), (3, .int (iI n))]) C dX6_lastBreak_77 (by decide) rfl ?_
                    refine c_iload (j := 0) C dX6_lastBreak_79 rfl ?_
                    refine c_if_eq (tgt := 126) C ⟨by decide, by decide⟩ dX6_lastBreak_81 (by decide) (fun _ => ?_) (fun z => absurd z (by omega))
                    refine c_iinc (z := k) (j := 2) (lv2 := [(5, .int (iI (k + 1))), (6, .int (iI 0)), (4, .int (iI la)), (0, .ref a0), (1, .int (iI x)), (2, .int (iI i)), (3, .int (iI n))]) C dX6_lastBreak_126 rfl (by decide) rfl ?_
                    refine c_goto (tgt := 28) C dX6_lastBreak_129 (by decide) ?_
                    refine c_lv (lv2 := [(4, .int (iI la)), (5, .int (iI (k + 1))), (0, .ref a0), (1, .int (iI x)), (2, .int (iI i)), (3, .int (iI n))]) [2, 0, 3, 4, 5, 6] rfl ?_
                    exact ih2  la (k + 1)  (by omega)   (by omega) (by omega) (by omega) (hLB.nof ⟨by omega, by omega⟩ (by omega) (LBO.mk (o := 0) hW t_a0 rq4 rq5 ⟨by omega, by omega⟩ (by omega)) (by decide) ⟨by omega, by omega⟩)
                  · refine c_iconst C dX6_lastBreak_72 ?_
                    refine c_goto (tgt := 77) C dX6_lastBreak_73 (by decide) ?_
                    refine c_istore (lv2 := [(6, .int (iI 1)), (4, .int (iI la)), (5, .int (iI k)), (0, .ref a0), (1, .int (iI x)), (2, .int (iI i)), (3, .int (iI n))]) C dX6_lastBreak_77 (by decide) rfl ?_
                    refine c_iload (j := 0) C dX6_lastBreak_79 rfl ?_
                    refine c_if_eq (tgt := 126) C ⟨by decide, by decide⟩ dX6_lastBreak_81 (by decide) (fun z => absurd z (by omega)) (fun _ => ?_)
                    refine c_iload_n (j := 4) C dX6_lastBreak_84 rfl ?_
                    refine c_iconst C dX6_lastBreak_85 ?_
                    refine c_icmp_ne (tgt := 117) C ⟨by omega, by omega⟩ ⟨by decide, by decide⟩ dX6_lastBreak_86 (by decide) (fun c13 => ?_) (fun c13 => ?_)
                    · refine c_aload_n (j := 3) (x := a0) C dX6_lastBreak_117 rfl ?_
                      refine c_getr (k := 3) C ck_7 dX6_lastBreak_118 w1_139 (by decide) t_a0 rfl rfl (by decide) rfl rq5 ?_
                      refine c_st (st2 := [.ref rb5]) rfl ?_
                      refine c_iload (j := 2) C dX6_lastBreak_121 rfl ?_
                      refine c_iald C dX6_lastBreak_123 trb5 rfl (by omega) (by omega) (by omega) ?_
                      refine c_istore (lv2 := [(4, .int (iI (iv rb5 k.toNat))), (6, .int (iI 1)), (5, .int (iI k)), (0, .ref a0), (1, .int (iI x)), (2, .int (iI i)), (3, .int (iI n))]) C dX6_lastBreak_124 (by decide) rfl ?_
                      refine c_iinc (z := k) (j := 2) (lv2 := [(5, .int (iI (k + 1))), (4, .int (iI (iv rb5 k.toNat))), (6, .int (iI 1)), (0, .ref a0), (1, .int (iI x)), (2, .int (iI i)), (3, .int (iI n))]) C dX6_lastBreak_126 rfl (by decide) rfl ?_
                      refine c_goto (tgt := 28) C dX6_lastBreak_129 (by decide) ?_
                      refine c_lv (lv2 := [(4, .int (iI (iv rb5 k.toNat))), (5, .int (iI (k + 1))), (0, .ref a0), (1, .int (iI x)), (2, .int (iI i)), (3, .int (iI n))]) [1, 0, 3, 4, 5, 6] rfl ?_
                      exact ih2  (iv rb5 k.toNat) (k + 1)  (by omega)   (by omega) (by omega) (by omega) (hLB.take ⟨by omega, by omega⟩ ⟨by omega, by omega⟩ (LBO.mk (o := 1) hW t_a0 rq4 rq5 ⟨by omega, by omega⟩ (by omega)) rfl hW t_a0 rq5 (fun q => absurd q (by omega)) ⟨by omega, by omega⟩)
                    · refine c_aload_n (j := 3) (x := a0) C dX6_lastBreak_89 rfl ?_
                      obtain ⟨rb6, rq6, trb6⟩ := hW.ref t_a0 0 rfl rfl rfl
                      have lnrb6 : 500 ≤ ln rb6 ∧ ln rb6 ≤ 500 := hW.len trb6 rfl
                      refine c_getr (k := 0) C ck_7 dX6_lastBreak_90 w1_136 (by decide) t_a0 rfl rfl (by decide) rfl rq6 ?_
                      refine c_st (st2 := [.ref rb6]) rfl ?_
                      refine c_iload (j := 2) C dX6_lastBreak_93 rfl ?_
                      refine c_iconst C dX6_lastBreak_95 ?_
                      refine c_isub C dX6_lastBreak_96 ?_
                      have ll6 : 500 ≤ ln rb6 ∧ ln rb6 ≤ 500 := hW.len trb6 rfl
                      refine c_iald C dX6_lastBreak_97 trb6 rfl (by omega) (by omega) (by omega) ?_
                      have ri8 : (-2147483648) ≤ iv rb6 ((k - 1).toNat) ∧ iv rb6 ((k - 1).toNat) ≤ 2147483647 := hW.int trb6 ((k - 1).toNat)
                      refine c_callSN0 (As := [.int (iI (iv rb6 (k - 1).toNat))]) (rest := []) C (fun L E => s11_isDigit (iI (iv rb6 (k - 1).toNat))) dX6_lastBreak_98 kSN_X6_115 rfl rfl (Nat.le_of_ble_eq_true rfl) ⟨(Nat.le_of_ble_eq_true rfl), (Nat.le_of_ble_eq_true rfl)⟩ (rom0 hph hph (by decide)) ?_
                      rcases inn_c (x := iv rb6 (k - 1).toNat) (lo := 48) (hi := 57) ⟨by omega, by omega⟩ ⟨by decide, by decide⟩ ⟨by decide, by decide⟩ with ⟨hs3a, hs3b, hs3e⟩ | ⟨hs3a, hs3e⟩
                      · refine c_st (st2 := [.int (iI 1)]) (by rw [show inn (iI (iv rb6 (k - 1).toNat)) 48 57 = iI 1 from hs3e]) ?_
                        refine c_if_ne (tgt := 126) C ⟨by decide, by decide⟩ dX6_lastBreak_101 (by decide) (fun _ => ?_) (fun z => absurd z (by omega))
                        refine c_iinc (z := k) (j := 2) (lv2 := [(5, .int (iI (k + 1))), (6, .int (iI 1)), (4, .int (iI la)), (0, .ref a0), (1, .int (iI x)), (2, .int (iI i)), (3, .int (iI n))]) C dX6_lastBreak_126 rfl (by decide) rfl ?_
                        refine c_goto (tgt := 28) C dX6_lastBreak_129 (by decide) ?_
                        refine c_lv (lv2 := [(4, .int (iI la)), (5, .int (iI (k + 1))), (0, .ref a0), (1, .int (iI x)), (2, .int (iI i)), (3, .int (iI n))]) [2, 0, 3, 4, 5, 6] rfl ?_
                        exact ih2  la (k + 1)  (by omega)   (by omega) (by omega) (by omega) (hLB.dig ⟨by omega, by omega⟩ (by omega) hW t_a0 rq6 (Or.inl (by unfold isD; omega)))
                      · refine c_st (st2 := [.int (iI 0)]) (by rw [show inn (iI (iv rb6 (k - 1).toNat)) 48 57 = iI 0 from hs3e]) ?_
                        refine c_if_ne (tgt := 126) C ⟨by decide, by decide⟩ dX6_lastBreak_101 (by decide) (fun z => absurd z (by omega)) (fun _ => ?_)
                        refine c_aload_n (j := 3) (x := a0) C dX6_lastBreak_104 rfl ?_
                        refine c_getr (k := 0) C ck_7 dX6_lastBreak_105 w1_136 (by decide) t_a0 rfl rfl (by decide) rfl rq6 ?_
                        refine c_st (st2 := [.ref rb6]) rfl ?_
                        refine c_iload (j := 2) C dX6_lastBreak_108 rfl ?_
                        refine c_iald C dX6_lastBreak_110 trb6 rfl (by omega) (by omega) (by omega) ?_
                        have ri9 : (-2147483648) ≤ iv rb6 k.toNat ∧ iv rb6 k.toNat ≤ 2147483647 := hW.int trb6 k.toNat
                        refine c_callSN0 (As := [.int (iI (iv rb6 k.toNat))]) (rest := []) C (fun L E => s11_isDigit (iI (iv rb6 k.toNat))) dX6_lastBreak_111 kSN_X6_115 rfl rfl (Nat.le_of_ble_eq_true rfl) ⟨(Nat.le_of_ble_eq_true rfl), (Nat.le_of_ble_eq_true rfl)⟩ (rom0 hph hph (by decide)) ?_
                        rcases inn_c (x := iv rb6 k.toNat) (lo := 48) (hi := 57) (r32_c (lo := (-2147483648)) (hi := 2147483647) ri9.1 ri9.2 (by decide) (by decide)) ⟨by decide, by decide⟩ ⟨by decide, by decide⟩ with ⟨hs4a, hs4b, hs4e⟩ | ⟨hs4a, hs4e⟩
                        · refine c_st (st2 := [.int (iI 1)]) (by rw [show inn (iI (iv rb6 k.toNat)) 48 57 = iI 1 from hs4e]) ?_
                          refine c_if_ne (tgt := 126) C ⟨by decide, by decide⟩ dX6_lastBreak_114 (by decide) (fun _ => ?_) (fun z => absurd z (by omega))
                          refine c_iinc (z := k) (j := 2) (lv2 := [(5, .int (iI (k + 1))), (6, .int (iI 1)), (4, .int (iI la)), (0, .ref a0), (1, .int (iI x)), (2, .int (iI i)), (3, .int (iI n))]) C dX6_lastBreak_126 rfl (by decide) rfl ?_
                          refine c_goto (tgt := 28) C dX6_lastBreak_129 (by decide) ?_
                          refine c_lv (lv2 := [(4, .int (iI la)), (5, .int (iI (k + 1))), (0, .ref a0), (1, .int (iI x)), (2, .int (iI i)), (3, .int (iI n))]) [2, 0, 3, 4, 5, 6] rfl ?_
                          exact ih2  la (k + 1)  (by omega)   (by omega) (by omega) (by omega) (hLB.dig ⟨by omega, by omega⟩ (by omega) hW t_a0 rq6 (Or.inr (by unfold isD; omega)))
                        · refine c_st (st2 := [.int (iI 0)]) (by rw [show inn (iI (iv rb6 k.toNat)) 48 57 = iI 0 from hs4e]) ?_
                          refine c_if_ne (tgt := 126) C ⟨by decide, by decide⟩ dX6_lastBreak_114 (by decide) (fun z => absurd z (by omega)) (fun _ => ?_)
                          refine c_aload_n (j := 3) (x := a0) C dX6_lastBreak_117 rfl ?_
                          refine c_getr (k := 3) C ck_7 dX6_lastBreak_118 w1_139 (by decide) t_a0 rfl rfl (by decide) rfl rq5 ?_
                          refine c_st (st2 := [.ref rb5]) rfl ?_
                          refine c_iload (j := 2) C dX6_lastBreak_121 rfl ?_
                          refine c_iald C dX6_lastBreak_123 trb5 rfl (by omega) (by omega) (by omega) ?_
                          refine c_istore (lv2 := [(4, .int (iI (iv rb5 k.toNat))), (6, .int (iI 1)), (5, .int (iI k)), (0, .ref a0), (1, .int (iI x)), (2, .int (iI i)), (3, .int (iI n))]) C dX6_lastBreak_124 (by decide) rfl ?_
                          refine c_iinc (z := k) (j := 2) (lv2 := [(5, .int (iI (k + 1))), (4, .int (iI (iv rb5 k.toNat))), (6, .int (iI 1)), (0, .ref a0), (1, .int (iI x)), (2, .int (iI i)), (3, .int (iI n))]) C dX6_lastBreak_126 rfl (by decide) rfl ?_
                          refine c_goto (tgt := 28) C dX6_lastBreak_129 (by decide) ?_
                          refine c_lv (lv2 := [(4, .int (iI (iv rb5 k.toNat))), (5, .int (iI (k + 1))), (0, .ref a0), (1, .int (iI x)), (2, .int (iI i)), (3, .int (iI n))]) [1, 0, 3, 4, 5, 6] rfl ?_
                          exact ih2  (iv rb5 k.toNat) (k + 1)  (by omega)   (by omega) (by omega) (by omega) (hLB.take ⟨by omega, by omega⟩ ⟨by omega, by omega⟩ (LBO.mk (o := 1) hW t_a0 rq4 rq5 ⟨by omega, by omega⟩ (by omega)) rfl hW t_a0 rq5 (fun _ => ⟨_, rq6, (by unfold isD; omega), (by unfold isD; omega)⟩) ⟨by omega, by omega⟩)
        refine c_lv (lv2 := [(4, .int (iI i)), (5, .int (iI 1)), (0, .ref a0), (1, .int (iI x)), (2, .int (iI i)), (3, .int (iI n))]) [1, 0, 2, 3, 4, 5] rfl ?_
        exact Lp2 503 i 1  (by omega)   (by omega) (by omega) (by omega) LBI.init
      · refine c_iload (j := 0) C dX6_lastBreak_22 rfl ?_
        exact c_iret C dX6_lastBreak_24 rfl (by decide) (rom0 hph hph (by decide)) ⟨i, rfl, rfl, rfl, rfl, rfl, rfl, ⟨by omega, by omega⟩, ⟨by omega, LBX.no (by omega)⟩⟩
end
section
def ROW (iv : Nat → Nat → Int) (rv : Nat → Nat → Option Nat) (s l : Nat) (xs : List Int) : Prop := ∃ rb r, rv s 0 = some rb ∧ rv rb l = some r ∧ iv r 2 = 0 ∧ LNE iv rv r xs
def DRP (iv : Nat → Nat → Int) (rv : Nat → Nat → Option Nat) (s : Nat) (D : List (List Int)) : Prop := iv s 1 = ((D.length : Nat) : Int) ∧ ∀ (l : Nat) (xs : List Int), D[l]? = some xs → ROW iv rv s l xs
def SHK (iv : Nat → Nat → Int) (rv : Nat → Nat → Option Nat) (iv2 : Nat → Nat → Int) (rv2 : Nat → Nat → Option Nat) (s s2 : Nat) : Prop := LNK rv2 s s2 ∧ SAM iv rv iv2 rv2 s2 ∧ rv2 s = rv s
def SATX (iv : Nat → Nat → Int) (rv : Nat → Nat → Option Nat) (s : Nat) (i : Int) (f : Option Nat) : Prop := ((0 ≤ i ∧ i < iv s 1) ∧ ∃ rb, rv s 0 = some rb ∧ f = rv rb i.toNat) ∨ (¬ (0 ≤ i ∧ i < iv s 1) ∧ f = none)
def BEX (L : List Nat) (cl : Nat → Nat) (iv : Nat → Nat → Int) (rv : Nat → Nat → Option Nat) (iv2 : Nat → Nat → Int) (rv2 : Nat → Nat → Option Nat) (s : Nat) (f : Int) : Prop := ∀ s2, ty L cl s2 18 → LNK rv s s2 → SHK iv rv iv2 rv2 s s2 ∧ ∀ D, DRP iv rv s D → (f = 1 → D.length < 200 ∧ DRP iv2 rv2 s (D ++ [[]])) ∧ (f ≠ 1 → D.length = 200)
def BTX (L : List Nat) (cl : Nat → Nat) (iv : Nat → Nat → Int) (rv : Nat → Nat → Option Nat) (iv2 : Nat → Nat → Int) (rv2 : Nat → Nat → Option Nat) (s : Nat) (f : Int) : Prop := ∀ s2, ty L cl s2 18 → LNK rv s s2 → SHK iv rv iv2 rv2 s s2 ∧ ∀ D, DRP iv rv s D → (f = 1 → D.length < 200 ∧ DRP iv2 rv2 s (D ++ [[]]) ∧ iv2 s 2 = ((D.length : Nat) : Int)) ∧ (f ≠ 1 → D.length = 200)
def TKC (iv : Nat → Nat → Int) (rv : Nat → Nat → Option Nat) (s : Nat) (kd : Int) (w : List (Int × Nat × Int)) (cs : List Int) (st : Nat → Int) : Prop := PWH iv rv s w ∧ PDH iv rv s cs ∧ cs.length ≤ 200 ∧ (kd ≤ 3 → SBG iv rv s w.length st ∧ MNO st) ∧ ∀ j, st j < ((cs.length : Nat) : Int)
def TKV (kd wd hy : Int) (w : List (Int × Nat × Int)) (cs : List Int) (st : Nat → Int) (n d : Nat) (D : List (List Int)) (xs : List Int) : Option (List (List Int)) := flw (fun d r => lbk w kd st d r w.length) wd hy cs n d D xs
def TKJ (L : List Nat) (cl : Nat → Nat) (iv : Nat → Nat → Int) (rv : Nat → Nat → Option Nat) (iv2 : Nat → Nat → Int) (rv2 : Nat → Nat → Option Nat) (s u : Nat) (kd wd hy d tn : Int) : Prop := ∀ s2, ty L cl s2 18 → LNK rv s s2 → SHK iv rv iv2 rv2 s s2 ∧ ∀ D1 x1 cs w st, DRP iv rv s (D1 ++ [x1]) → TKC iv rv u kd w cs st → d ≤ ((cs.length : Nat) : Int) ∧ ∃ D3 x3, TKV kd wd hy w cs st 201 0 D1 x1 = TKV kd wd hy w cs st (201 - tn).toNat d.toNat D3 x3 ∧ DRP iv2 rv2 s (D3 ++ [x3])
def TKM (L : List Nat) (cl : Nat → Nat) (iv : Nat → Nat → Int) (rv : Nat → Nat → Option Nat) (iv2 : Nat → Nat → Int) (rv2 : Nat → Nat → Option Nat) (s u : Nat) (kd wd hy d tn : Int) : Prop := ∀ s2, ty L cl s2 18 → LNK rv s s2 → SHK iv rv iv2 rv2 s s2 ∧ ∀ D1 x1 cs w st, DRP iv rv s (D1 ++ [x1]) → TKC iv rv u kd w cs st → d ≤ ((cs.length : Nat) : Int) ∧ ∃ D4, TKV kd wd hy w cs st 201 0 D1 x1 = (if D4.length < 200 then TKV kd wd hy w cs st (200 - tn).toNat d.toNat D4 [] else none) ∧ DRP iv2 rv2 s D4
def TKE (L : List Nat) (cl : Nat → Nat) (iv : Nat → Nat → Int) (rv : Nat → Nat → Option Nat) (iv2 : Nat → Nat → Int) (rv2 : Nat → Nat → Option Nat) (s u : Nat) (kd wd hy f : Int) : Prop := ∀ s2, ty L cl s2 18 → LNK rv s s2 → SHK iv rv iv2 rv2 s s2 ∧ ∀ D1 x1 cs w st, DRP iv rv s (D1 ++ [x1]) → TKC iv rv u kd w cs st → (f = 1 → ∃ D2, TKV kd wd hy w cs st 201 0 D1 x1 = some D2 ∧ DRP iv2 rv2 s D2) ∧ (f ≠ 1 → TKV kd wd hy w cs st 201 0 D1 x1 = none)
def ENI (L : List Nat) (cl : Nat → Nat) (iv : Nat → Nat → Int) (rv : Nat → Nat → Option Nat) (iv1 : Nat → Nat → Int) (s : Nat) (wd k : Int) : Prop := ∀ s2, ty L cl s2 18 → LNK rv s s2 → SHK iv rv iv1 rv s s2 ∧ ∀ D, DRP iv rv s D → iv1 s 1 = ((D.length : Nat) : Int) ∧ ∀ (l : Nat) (xs : List Int), D[l]? = some xs → ROW iv1 rv s l (if iv s 2 ≤ ((l : Nat) : Int) ∧ ((l : Nat) : Int) < k then cen wd xs else xs)
def ENX (L : List Nat) (cl : Nat → Nat) (iv : Nat → Nat → Int) (rv : Nat → Nat → Option Nat) (iv2 : Nat → Nat → Int) (s : Nat) (g wd : Int) : Prop := ∀ s2, ty L cl s2 18 → LNK rv s s2 → SHK iv rv iv2 rv s s2 ∧ ∀ D, DRP iv rv s D → (g = 0 → DRP iv2 rv s D) ∧ (g ≠ 0 → 0 ≤ iv s 2 → DRP iv2 rv s (cnl wd (iv s 2).toNat D))
section TROW
variable {h : Nat} {sk : Nat → Nat} {L L1 L2 : List Nat} {cl ln cl1 ln1 cl2 ln2 : Nat → Nat} {iv iv1 iv2 iv3 : Nat → Nat → Int} {rv rv1 rv2 rv3 : Nat → Nat → Option Nat} {r s s2 u rb cb l q b : Nat} {x z i k j n d f tn kd wd hy m : Int} {xs ys cs x1 x2 : List Int} {w : List (Int × Nat × Int)} {st : Nat → Int} {ls : List Nat} {D D1 : List (List Int)} {fo : Option Nat}
theorem LNK.ne {s3 s4 rb2 l2 r2 : Nat} (hK : LNK rv s s2) (hW : WT h sk L cl ln iv rv) (h3 : s3 = s ∨ s3 = s2) (h4 : s4 = s ∨ s4 = s2) (tr : ty L cl r 19) (h0 : rv s3 0 = some rb) (hr : rv rb l = some r) (h02 : rv s4 0 = some rb2) (hr2 : rv rb2 l2 = some r2) (hn : ¬ (s3 = s4 ∧ l = l2)) : r2 ≠ r ∧ ∀ cb, rv r2 0 = some cb → rv r 0 ≠ some cb := by
  have k : ∀ cb, rv r2 0 = some cb → rv r 0 ≠ some cb := fun cb e1 e2 => hn (hK.2.2 s3 s4 h3 h4 rb rb2 l l2 r r2 cb h0 h02 hr hr2 e2 e1)
  refine ⟨fun e => ?_, k⟩
  obtain ⟨c, hc, _⟩ := hW.ref tr 0 rfl rfl rfl
  exact k c (by rw [e]; exact hc) hc
theorem SAM.lfr (hK : LNK rv s s2) (hW : WT h sk L cl ln iv rv) (ts : ty L cl s 18) (ts2 : ty L cl s2 18) (h0 : rv s 0 = some rb) (hr : rv rb l = some r) (hL : LFR L cl iv rv iv2 r) (hF : fT ls L cl iv rv iv2 rv) (h18 : ls.contains 18 = false) : SAM iv rv iv2 rv s2 := by
  have tr := ro19 hW (sh67 hW ts h0) hr
  refine ⟨funext fun j => hF.i ts2 h18 j, rfl, fun rb2 hb2 => ⟨rfl, fun l2 r2 hr2 => ?_⟩⟩
  have t2 := ro19 hW (sh67 hW ts2 hb2) hr2
  obtain ⟨n1, n2⟩ := hK.ne hW (Or.inl rfl) (Or.inr rfl) tr h0 hr hb2 hr2 (fun e => hK.1 e.1)
  exact ⟨hL.1 r2 t2 n1, rfl, fun cb hc => hL.2 cb (li64 hW t2 hc) (n2 cb hc)⟩
theorem SHK.refl (hK : LNK rv s s2) : SHK iv rv iv rv s s2 := ⟨hK, SAM.refl, rfl⟩
theorem SHK.trans (h1 : SHK iv rv iv1 rv1 s s2) (h2 : SHK iv1 rv1 iv2 rv2 s s2) : SHK iv rv iv2 rv2 s s2 := ⟨h2.1, h1.2.1.trans h2.2.1, h2.2.2.trans h1.2.2⟩
theorem SHK.lfr (h1 : SHK iv rv iv1 rv1 s s2) (hW : WT h sk L1 cl1 ln1 iv1 rv1) (ts : ty L1 cl1 s 18) (ts2 : ty L1 cl1 s2 18) (h0 : rv1 s 0 = some rb) (hr : rv1 rb l = some r) (hL : LFR L1 cl1 iv1 rv1 iv2 r) (hF : fT ls L1 cl1 iv1 rv1 iv2 rv1) (h18 : ls.contains 18 = false) : SHK iv rv iv2 rv1 s s2 := h1.trans ⟨h1.1, SAM.lfr h1.1 hW ts ts2 h0 hr hL hF h18, rfl⟩
theorem LNE.fr (hx : LNE iv rv r xs) (h1 : iv2 r = iv r) (h2 : rv2 r = rv r) (h3 : ∀ cb, rv r 0 = some cb → iv2 cb = iv cb) : LNE iv2 rv2 r xs := by
  refine ⟨by rw [h1]; exact hx.1, fun cb hc j x e => ?_⟩
  rw [h2] at hc
  rw [h3 cb hc]
  exact hx.2 cb hc j x e
theorem ROW.fr (hx : ROW iv rv s l xs) (h0 : rv2 s = rv s) (h1 : ∀ rb r, rv s 0 = some rb → rv rb l = some r → rv2 rb l = some r ∧ iv2 r = iv r ∧ rv2 r = rv r ∧ ∀ cb, rv r 0 = some cb → iv2 cb = iv cb) : ROW iv2 rv2 s l xs := by
  obtain ⟨rb, r, q0, q1, q2, q3⟩ := hx
  obtain ⟨p1, p2, p3, p4⟩ := h1 rb r q0 q1
  exact ⟨rb, r, by rw [h0]; exact q0, p1, by rw [p2]; exact q2, q3.fr p2 p3 p4⟩
theorem DRP.sam (hD : DRP iv rv s D) (hS : SAM iv rv iv2 rv2 s) : DRP iv2 rv2 s D := by
  obtain ⟨s1, s2, s3⟩ := hS
  refine ⟨by rw [s1]; exact hD.1, fun l xs e => (hD.2 l xs e).fr s2 (fun rb r h0 h1 => ?_)⟩
  obtain ⟨p1, p2⟩ := s3 rb h0
  obtain ⟨q1, q2, q3⟩ := p2 l r h1
  exact ⟨by rw [p1]; exact h1, q1, q2, q3⟩
theorem ROW.lfr {l0 : Nat} (hK : LNK rv s s2) (hW : WT h sk L cl ln iv rv) (ts : ty L cl s 18) (h0 : rv s 0 = some rb) (hr : rv rb l0 = some r) (hL : LFR L cl iv rv iv2 r) (hl : l ≠ l0) (hx : ROW iv rv s l xs) : ROW iv2 rv s l xs := by
  have tb := sh67 hW ts h0
  have tr := ro19 hW tb hr
  refine hx.fr rfl (fun rb2 r2 h02 hr2 => ?_)
  obtain ⟨n1, n2⟩ := hK.ne hW (Or.inl rfl) (Or.inl rfl) tr h0 hr h02 hr2 (fun e => hl e.2.symm)
  have t2 := ro19 hW (sh67 hW ts h02) hr2
  exact ⟨hr2, hL.1 r2 t2 n1, rfl, fun cb hc => hL.2 cb (li64 hW t2 hc) (n2 cb hc)⟩
theorem SATX.row (hx : SATX iv rv s i (some r)) : ∃ rb, rv s 0 = some rb ∧ rv rb i.toNat = some r := by
  rcases hx with ⟨_, rb, h0, e⟩ | ⟨_, e⟩
  · exact ⟨rb, h0, e.symm⟩
  · cases e
theorem DRP.no (hD : DRP iv rv s D) (hx : SATX iv rv s i none) (h0 : 0 ≤ i) (hi : i < ((D.length : Nat) : Int)) : False := by
  obtain ⟨d1, d2⟩ := hD
  rcases hx with ⟨_, rb, h0', e⟩ | ⟨e, _⟩
  · have lt : i.toNat < D.length := by omega
    obtain ⟨rb2, r, q0, q1, _⟩ := d2 i.toNat _ (List.getElem?_eq_getElem lt)
    rw [h0'] at q0; cases q0
    rw [← e] at q1
    cases q1
  · omega
theorem DRP.row (hD : DRP iv rv s (D ++ [x1])) (hx : SATX iv rv s (iv s 1 - 1) (some r)) : ∃ rb, rv s 0 = some rb ∧ rv rb D.length = some r ∧ iv r 2 = 0 ∧ LNE iv rv r x1 := by
  obtain ⟨d1, d2⟩ := hD
  obtain ⟨rb, h0, hr⟩ := hx.row
  rw [len1] at d1
  rw [show (iv s 1 - 1).toNat = D.length by omega] at hr
  obtain ⟨rb2, r2, q0, q1, q2, q3⟩ := d2 D.length x1 ap2
  rw [h0] at q0; cases q0
  rw [hr] at q1; cases q1
  exact ⟨rb, h0, hr, q2, q3⟩
theorem DRP.last (hD : DRP iv rv s (D ++ [x1])) (hK : LNK rv s s2) (hW : WT h sk L cl ln iv rv) (ts : ty L cl s 18) (h0 : rv s 0 = some rb) (hr : rv rb D.length = some r) (hL : LFR L cl iv rv iv2 r) (h1 : iv2 s 1 = iv s 1) (h2 : iv2 r 2 = 0) (hx : LNE iv2 rv r x2) : DRP iv2 rv s (D ++ [x2]) := by
  obtain ⟨d1, d2⟩ := hD
  refine ⟨by rw [h1, d1, len1, len1], fun l xs e => ?_⟩
  rcases ap1 e with ⟨c, e3⟩ | ⟨c, e3⟩
  · exact ROW.lfr hK hW ts h0 hr hL (by omega) (d2 l xs (ap3 e3))
  · rw [c, ← e3]
    exact ⟨rb, r, h0, hr, h2, hx⟩
theorem TKC.al (hc : TKC iv rv u kd w cs st) (hW : WT h sk L cl ln iv rv) (hF : fT ls L cl iv rv iv2 rv2) (tu : ty L cl u 15) (a15 : ls.contains 15 = false) (a50 : ls.contains 50 = false) (a51 : ls.contains 51 = false) (a52 : ls.contains 52 = false) (a53 : ls.contains 53 = false) (a54 : ls.contains 54 = false) : TKC iv2 rv2 u kd w cs st := by
  obtain ⟨p1, p2, p3, p4, p5⟩ := hc
  have r_ : ∀ m, rv2 u m = rv u m := fun m => hF.r tu a15 m
  have k0 : ∀ b, rv u 0 = some b → iv2 b = iv b := fun b hb => by
    obtain ⟨b', q1, t3⟩ := hW.ref tu 0 rfl rfl rfl
    rw [hb] at q1; cases q1
    exact funext fun j => hF.i (show ty L cl b 50 from t3) a50 j
  have k1 : ∀ b, rv u 1 = some b → iv2 b = iv b := fun b hb => by
    obtain ⟨b', q1, t3⟩ := hW.ref tu 1 rfl rfl rfl
    rw [hb] at q1; cases q1
    exact funext fun j => hF.i (show ty L cl b 51 from t3) a51 j
  have k2 : ∀ b, rv u 2 = some b → iv2 b = iv b := fun b hb => by
    obtain ⟨b', q1, t3⟩ := hW.ref tu 2 rfl rfl rfl
    rw [hb] at q1; cases q1
    exact funext fun j => hF.i (show ty L cl b 52 from t3) a52 j
  have k3 : ∀ b, rv u 3 = some b → iv2 b = iv b := fun b hb => by
    obtain ⟨b', q1, t3⟩ := hW.ref tu 3 rfl rfl rfl
    rw [hb] at q1; cases q1
    exact funext fun j => hF.i (show ty L cl b 53 from t3) a53 j
  have k6 : ∀ b, rv u 6 = some b → iv2 b = iv b := fun b hb => by
    obtain ⟨b', q1, t3⟩ := hW.ref tu 6 rfl rfl rfl
    rw [hb] at q1; cases q1
    exact funext fun j => hF.i (show ty L cl b 54 from t3) a54 j
  refine ⟨⟨(hF.i tu a15 4).trans p1.1, fun lb pb bb g0 g1 g2 j y e => ?_⟩, ⟨(hF.i tu a15 7).trans p2.1, fun cb hb j y hj e => ?_⟩, p3, fun c => ⟨fun sb hb j hj => ?_, (p4 c).2⟩, p5⟩
  · rw [r_] at g0 g1 g2
    rw [k0 lb g0, k1 pb g1, k2 bb g2]
    exact p1.2 lb pb bb g0 g1 g2 j y e
  · rw [r_] at hb
    rw [k6 cb hb]
    exact p2.2 cb hb j y hj e
  · rw [r_] at hb
    rw [k3 sb hb]
    exact (p4 c).1 sb hb j hj
theorem TKV_s {n d : Nat} : TKV kd wd hy w cs st (n + 1) d D xs = if ((cs.length : Nat) : Int) - ((d : Nat) : Int) ≤ rom wd xs then some (D ++ [pql xs ++ sgm cs d (cs.length - d)]) else if 0 ≤ lbk w kd st ((d : Nat) : Int) (rom wd xs) w.length then (if D.length + 1 < 200 then TKV kd wd hy w cs st n (lbk w kd st ((d : Nat) : Int) (rom wd xs) w.length).toNat (D ++ [(pql xs ++ sgm cs d ((lbk w kd st ((d : Nat) : Int) (rom wd xs) w.length).toNat - d)) ++ [hy]]) [] else none) else if xs.length = 0 then some (D ++ [pql xs ++ sgm cs d (cs.length - d)]) else if D.length + 1 < 200 then TKV kd wd hy w cs st n d (D ++ [xs]) [] else none := rfl
theorem rom_z (hx : LNE iv rv r xs) (hz : (0 < iv r 1 ∧ z = wd - (iv r 1 + 1)) ∨ (iv r 1 ≤ 0 ∧ z = wd)) : rom wd xs = z ∧ (((pql xs).length : Nat) : Int) = wd - z := by
  refine hv2 (hx.1) (pql_len (xs := xs)) (fun e p => ?_)
  unfold rom
  by_cases c : xs.length = 0
  · rw [if_pos c] at p ⊢
    omega
  · rw [if_neg c] at p ⊢
    omega
theorem TKJ.zero (hd : d = 0) (ht : tn = 0) : TKJ L cl iv rv iv rv s u kd wd hy d tn := fun s2 _ hK => ⟨SHK.refl hK, fun D1 x1 cs w st h1 h2 => ⟨by omega, D1, x1, by rw [hd, ht, show ((201 : Int) - 0).toNat = 201 from rfl, show (0 : Int).toNat = 0 from rfl], h1⟩⟩
theorem TKJ.out (hT : TKJ L cl iv rv iv1 rv1 s u kd wd hy d tn) (ht : 200 < tn) (hf : f = 0) : TKE L cl iv rv iv1 rv1 s u kd wd hy f := fun s2 t2 hK => by
  obtain ⟨g1, g2⟩ := hT s2 t2 hK
  refine ⟨g1, fun D1 x1 cs w st h1 h2 => ⟨fun e => absurd e (by omega), fun _ => ?_⟩⟩
  obtain ⟨_, D3, x3, e, _⟩ := g2 D1 x1 cs w st h1 h2
  rw [e, show (201 - tn).toNat = 0 by omega]
  rfl
theorem TKJ.nul (hT : TKJ L cl iv rv iv1 rv1 s u kd wd hy d tn) (hx : SATX iv1 rv1 s (iv1 s 1 - 1) none) (hf : f = 0) : TKE L cl iv rv iv1 rv1 s u kd wd hy f := fun s2 t2 hK => by
  obtain ⟨g1, g2⟩ := hT s2 t2 hK
  refine ⟨g1, fun D1 x1 cs w st h1 h2 => ?_⟩
  obtain ⟨_, D3, x3, _, hD⟩ := g2 D1 x1 cs w st h1 h2
  refine hv2 (hD.1) (show (D3 ++ [x3]).length = D3.length + 1 from len1) (fun e e2 => ?_)
  exact (hD.no hx (by omega) (by omega)).elim
theorem TKJ.add (hT : TKJ L cl iv rv iv1 rv1 s u kd wd hy d tn) (hX : XT L cl ln L1 cl1 ln1) (hW : WT h sk L cl ln iv rv) (hW1 : WT h sk L1 cl1 ln1 iv1 rv1) (hF : fT [18, 19, 64, 67, 203] L cl iv rv iv1 rv1) (ts : ty L cl s 18) (tu : ty L cl u 15) (hx : SATX iv1 rv1 s (iv1 s 1 - 1) (some r)) (hL : LFR L1 cl1 iv1 rv1 iv2 r) (hF2 : fT [19, 64] L1 cl1 iv1 rv1 iv2 rv1) (h2 : iv2 r 2 = iv1 r 2) (hA : APX iv1 rv1 iv2 r u d m) (hm : m = iv1 u 7) (hd : 0 ≤ d) (ht : 0 ≤ tn ∧ tn ≤ 200) (hw : wd ≤ 100) (hz : (0 < iv1 r 1 ∧ z = wd - (iv1 r 1 + 1)) ∨ (iv1 r 1 ≤ 0 ∧ z = wd)) (hc : m - d ≤ z ∨ (iv1 r 1 = 0 ∧ LBX iv1 rv1 u kd d (z - 1) x ∧ x ≤ d)) (hf : f = 1) : TKE L cl iv rv iv2 rv1 s u kd wd hy f := fun s2 t2 hK => by
  obtain ⟨g1, g2⟩ := hT s2 t2 hK
  obtain ⟨rb, r0, r1⟩ := hx.row
  refine ⟨g1.lfr hW1 (hX.ty ts) (hX.ty t2) r0 r1 hL hF2 rfl, fun D1 x1 cs w st h1 hC => ⟨fun _ => ?_, fun e => absurd hf e⟩⟩
  obtain ⟨k1, D3, x3, k2, k3⟩ := g2 D1 x1 cs w st h1 hC
  obtain ⟨rb2, q0, q1, q2, q3⟩ := k3.row hx
  have hC1 := hC.al hW hF tu rfl rfl rfl rfl rfl rfl
  obtain ⟨z1, z2⟩ := rom_z q3 hz
  refine hv3 (hC1.2.1.1) (hC1.2.2.1) (q3.1) (fun em l200 ex => ?_)
  have lx := hA x3 cs q3 hC1.2.1 l200 (by omega) (by omega) (by omega)
  refine ⟨D3 ++ [pql x3 ++ sgm cs d.toNat (cs.length - d.toNat)], ?_, ?_⟩
  · rw [k2, show (201 - tn).toNat = (200 - tn).toNat + 1 by omega, TKV_s, z1, Int.toNat_of_nonneg hd]
    rcases hc with hc | ⟨c1, c2, c3⟩
    · rw [if_pos (by omega)]
    · by_cases c4 : ((cs.length : Nat) : Int) - d ≤ z
      · rw [if_pos c4]
      · have b := c2 w st hC1.1 hC1.2.2.2.1
        rw [show z - 1 + 1 = z by omega] at b
        unfold LBV at b
        rw [if_neg c4, if_neg, if_pos (by omega)]
        intro c5
        rw [if_pos c5] at b
        obtain ⟨_, _, b2, b3⟩ := lbk_at _ c5
        omega
  · rw [show cs.length - d.toNat = (m - d).toNat by omega]
    exact k3.last g1.1 hW1 (hX.ty ts) q0 q1 hL (hF2.i (hX.ty ts) rfl 1) (h2.trans q2) lx
theorem TKJ.part (hT : TKJ L cl iv rv iv1 rv1 s u kd wd hy d tn) (hX : XT L cl ln L1 cl1 ln1) (hW : WT h sk L cl ln iv rv) (hW1 : WT h sk L1 cl1 ln1 iv1 rv1) (hF : fT [18, 19, 64, 67, 203] L cl iv rv iv1 rv1) (ts : ty L cl s 18) (tu : ty L cl u 15) (hx : SATX iv1 rv1 s (iv1 s 1 - 1) (some r)) (hL : LFR L1 cl1 iv1 rv1 iv2 r) (hF2 : fT [19, 64] L1 cl1 iv1 rv1 iv2 rv1) (h2 : iv2 r 2 = iv1 r 2) (hA : APX iv1 rv1 iv2 r u d x) (hL3 : LFR L1 cl1 iv2 rv1 iv3 r) (hF3 : fT [19, 64] L1 cl1 iv2 rv1 iv3 rv1) (h3 : iv3 r 2 = iv2 r 2) (hA3 : LAX iv2 rv1 iv3 r hy) (hm : m = iv1 u 7) (hd : 0 ≤ d) (ht : 0 ≤ tn ∧ tn ≤ 200) (hw : wd ≤ 100) (hz : (0 < iv1 r 1 ∧ z = wd - (iv1 r 1 + 1)) ∨ (iv1 r 1 ≤ 0 ∧ z = wd)) (hc : z < m - d) (hb : LBX iv1 rv1 u kd d (z - 1) x) (hxd : d < x) : TKM L cl iv rv iv3 rv1 s u kd wd hy x tn := fun s2 t2 hK => by
  obtain ⟨g1, g2⟩ := hT s2 t2 hK
  obtain ⟨rb, r0, r1⟩ := hx.row
  refine hv2 (hL.trans hL3) (show fT [19, 64] L1 cl1 iv1 rv1 iv3 rv1 from hF2.call (ln := ln1) (ln2 := ln1) XT.refl hF3 rfl) (fun hL13 hF13 => ?_)
  refine ⟨g1.lfr hW1 (hX.ty ts) (hX.ty t2) r0 r1 hL13 hF13 rfl, fun D1 x1 cs w st h1 hC => ?_⟩
  obtain ⟨k1, D3, x3, k2, k3⟩ := g2 D1 x1 cs w st h1 hC
  obtain ⟨rb2, q0, q1, q2, q3⟩ := k3.row hx
  have hC1 := hC.al hW hF tu rfl rfl rfl rfl rfl rfl
  obtain ⟨z1, z2⟩ := rom_z q3 hz
  refine hv3 (hC1.2.1.1) (hC1.2.2.1) (hb w st hC1.1 hC1.2.2.2.1) (fun em l200 b => ?_)
  rw [show z - 1 + 1 = z by omega] at b
  unfold LBV at b
  have c5 : 0 ≤ lbk w kd st d z w.length := by
    by_cases c5 : 0 ≤ lbk w kd st d z w.length
    · exact c5
    · rw [if_neg c5] at b
      omega
  rw [if_pos c5] at b
  obtain ⟨qq, _, ⟨b2, b4⟩, b3⟩ := lbk_at _ c5
  refine hv2 (hC1.2.2.2.2 qq) (show (pql x3 ++ sgm cs d.toNat (x - d).toNat).length = (pql x3).length + (x - d).toNat from by rw [List.length_append, sgm_len]) (fun b5 ll => ?_)
  have lx := hA x3 cs q3 hC1.2.1 l200 (by omega) (by omega) (by omega)
  have ly := hA3 _ lx (by omega)
  refine ⟨by omega, D3 ++ [(pql x3 ++ sgm cs d.toNat (x - d).toNat) ++ [hy]], ?_, ?_⟩
  · rw [k2, show (201 - tn).toNat = (200 - tn).toNat + 1 by omega, TKV_s, z1, Int.toNat_of_nonneg hd, if_neg (by omega), if_pos c5, ← b, len1, show x.toNat - d.toNat = (x - d).toNat by omega]
  · exact k3.last g1.1 hW1 (hX.ty ts) q0 q1 hL13 (hF13.i (hX.ty ts) rfl 1) (h3.trans (h2.trans q2)) ly
theorem TKJ.next (hT : TKJ L cl iv rv iv1 rv1 s u kd wd hy d tn) (hX : XT L cl ln L1 cl1 ln1) (hW : WT h sk L cl ln iv rv) (hF : fT [18, 19, 64, 67, 203] L cl iv rv iv1 rv1) (tu : ty L cl u 15) (hx : SATX iv1 rv1 s (iv1 s 1 - 1) (some r)) (hm : m = iv1 u 7) (hd : 0 ≤ d) (ht : 0 ≤ tn ∧ tn ≤ 200) (hz : (0 < iv1 r 1 ∧ z = wd - (iv1 r 1 + 1)) ∨ (iv1 r 1 ≤ 0 ∧ z = wd)) (hc : z < m - d) (hb : LBX iv1 rv1 u kd d (z - 1) x) (hxd : x ≤ d) (h0 : iv1 r 1 ≠ 0) : TKM L cl iv rv iv1 rv1 s u kd wd hy d tn := fun s2 t2 hK => by
  obtain ⟨g1, g2⟩ := hT s2 t2 hK
  refine ⟨g1, fun D1 x1 cs w st h1 hC => ?_⟩
  obtain ⟨k1, D3, x3, k2, k3⟩ := g2 D1 x1 cs w st h1 hC
  obtain ⟨rb2, q0, q1, q2, q3⟩ := k3.row hx
  have hC1 := hC.al hW hF tu rfl rfl rfl rfl rfl rfl
  obtain ⟨z1, z2⟩ := rom_z q3 hz
  refine hv3 (hC1.2.1.1) (q3.1) (hb w st hC1.1 hC1.2.2.2.1) (fun em ex b => ?_)
  rw [show z - 1 + 1 = z by omega] at b
  unfold LBV at b
  refine ⟨k1, D3 ++ [x3], ?_, k3⟩
  rw [k2, show (201 - tn).toNat = (200 - tn).toNat + 1 by omega, TKV_s, z1, Int.toNat_of_nonneg hd, if_neg (by omega), if_neg, if_neg (by omega), len1]
  intro c5
  rw [if_pos c5] at b
  obtain ⟨_, _, b2, b3⟩ := lbk_at _ c5
  omega
theorem TKM.full (hT : TKM L cl iv rv iv1 rv1 s u kd wd hy d tn) (hX : XT L cl ln L1 cl1 ln1) (hB : BEX L1 cl1 iv1 rv1 iv2 rv2 s x) (hx : x ≠ 1) (hf : f = 0) : TKE L cl iv rv iv2 rv2 s u kd wd hy f := fun s2 t2 hK => by
  obtain ⟨g1, g2⟩ := hT s2 t2 hK
  obtain ⟨b1, b2⟩ := hB s2 (hX.ty t2) g1.1
  refine ⟨g1.trans b1, fun D1 x1 cs w st h1 hC => ⟨fun e => absurd e (by omega), fun _ => ?_⟩⟩
  obtain ⟨k1, D4, k2, k3⟩ := g2 D1 x1 cs w st h1 hC
  have e := (b2 D4 k3).2 hx
  rw [k2, if_neg (by omega)]
theorem TKM.go (hT : TKM L cl iv rv iv1 rv1 s u kd wd hy d tn) (hX : XT L cl ln L1 cl1 ln1) (hB : BEX L1 cl1 iv1 rv1 iv2 rv2 s x) (hx : x = 1) : TKJ L cl iv rv iv2 rv2 s u kd wd hy d (tn + 1) := fun s2 t2 hK => by
  obtain ⟨g1, g2⟩ := hT s2 t2 hK
  obtain ⟨b1, b2⟩ := hB s2 (hX.ty t2) g1.1
  refine ⟨g1.trans b1, fun D1 x1 cs w st h1 hC => ?_⟩
  obtain ⟨k1, D4, k2, k3⟩ := g2 D1 x1 cs w st h1 hC
  obtain ⟨e1, e2⟩ := (b2 D4 k3).1 hx
  exact ⟨k1, D4, [], by rw [k2, if_pos e1, show (201 - (tn + 1)).toNat = (200 - tn).toNat by omega], e2⟩
theorem ENI.zero (hk : k = iv s 2) : ENI L cl iv rv iv s wd k := fun s2 _ hK => ⟨SHK.refl hK, fun D hD => ⟨hD.1, fun l xs e => by
  rw [if_neg (by omega)]
  exact hD.2 l xs e⟩⟩
theorem ENI.skip (hE : ENI L cl iv rv iv1 s wd k) (hx : SATX iv1 rv s k none) (hk : k < iv1 s 1) : ENI L cl iv rv iv1 s wd (k + 1) := fun s2 t2 hK => by
  obtain ⟨g1, g2⟩ := hE s2 t2 hK
  refine ⟨g1, fun D hD => ?_⟩
  obtain ⟨e1, e2⟩ := g2 D hD
  rcases hx with ⟨⟨e3, _⟩, rb, h0, e⟩ | ⟨e, _⟩
  · have lt : k.toNat < D.length := by omega
    obtain ⟨rb2, r2, q0, q1, _⟩ := e2 k.toNat _ (List.getElem?_eq_getElem lt)
    rw [h0] at q0; cases q0
    rw [← e] at q1
    cases q1
  · refine ⟨e1, fun l xs el => ?_⟩
    have g := e2 l xs el
    rw [if_neg (by omega)] at g ⊢
    exact g
theorem ENI.non (hE : ENI L cl iv rv iv1 s wd k) (hk : k = iv s 2) (hg : x = 0) : ENX L cl iv rv iv1 s x wd := fun s2 t2 hK => by
  obtain ⟨g1, g2⟩ := hE s2 t2 hK
  refine ⟨g1, fun D hD => ⟨fun _ => ?_, fun e => absurd hg e⟩⟩
  obtain ⟨e1, e2⟩ := g2 D hD
  refine ⟨e1, fun l xs el => ?_⟩
  have g := e2 l xs el
  rw [if_neg (by omega)] at g
  exact g
theorem ENI.step (hE : ENI L cl iv rv iv1 s wd k) (hW1 : WT h sk L cl ln iv1 rv) (ts : ty L cl s 18) (hx : SATX iv1 rv s k (some r)) (hk : iv s 2 ≤ k) (hL : LFR L cl iv1 rv iv2 r) (hF2 : fT [19, 64] L cl iv1 rv iv2 rv) (h2 : iv2 r 2 = iv1 r 2) (hI : INX iv1 rv iv2 r n) (hn : (0 ≤ wd - iv1 r 1 → n = (wd - iv1 r 1) / 2) ∧ (wd - iv1 r 1 < 0 → n ≤ 0)) (hw : wd ≤ 100) : ENI L cl iv rv iv2 s wd (k + 1) := fun s2 t2 hK => by
  obtain ⟨g1, g2⟩ := hE s2 t2 hK
  obtain ⟨rb, r0, r1⟩ := hx.row
  have hk0 : 0 ≤ k := by
    rcases hx with ⟨e, _⟩ | ⟨_, e⟩
    · exact e.1
    · cases e
  refine ⟨g1.lfr hW1 ts t2 r0 r1 hL hF2 rfl, fun D hD => ?_⟩
  obtain ⟨e1, e2⟩ := g2 D hD
  refine ⟨(hF2.i ts rfl 1).trans e1, fun l xs e => ?_⟩
  have g := e2 l xs e
  by_cases c : l = k.toNat
  · rw [if_neg (by omega)] at g
    rw [if_pos (by omega)]
    obtain ⟨rb2, r2, q0, q1, q2, q3⟩ := g
    rw [r0] at q0; cases q0
    rw [c, r1] at q1; cases q1
    have q4 := hI xs q3
    rw [q3.1] at hn
    rw [ind_cen hn hw] at q4
    exact ⟨rb, r, r0, by rw [c]; exact r1, h2.trans q2, q4⟩
  · have g3 := ROW.lfr g1.1 hW1 ts r0 r1 hL c g
    by_cases c2 : iv s 2 ≤ ((l : Nat) : Int) ∧ ((l : Nat) : Int) < k
    · rw [if_pos c2] at g3
      rw [if_pos (by omega)]
      exact g3
    · rw [if_neg c2] at g3
      rw [if_neg (by omega)]
      exact g3
theorem ENX.no (hg : x = 0) : ENX L cl iv rv iv s x wd := fun s2 _ hK => ⟨SHK.refl hK, fun D hD => ⟨fun _ => hD, fun e => absurd hg e⟩⟩
theorem ENI.fin (hE : ENI L cl iv rv iv1 s wd k) (hk : iv1 s 1 ≤ k) (hg : x ≠ 0) : ENX L cl iv rv iv1 s x wd := fun s2 t2 hK => by
  obtain ⟨g1, g2⟩ := hE s2 t2 hK
  refine ⟨g1, fun D hD => ⟨fun e => absurd e hg, fun _ h0 => ?_⟩⟩
  obtain ⟨e1, e2⟩ := g2 D hD
  refine ⟨by rw [cnl_len]; exact e1, fun l xs e => ?_⟩
  rw [cnl_get] at e
  have lt : l < D.length := by
    by_cases c : l < D.length
    · exact c
    · rw [List.getElem?_eq_none (by omega)] at e
      split at e <;> cases e
  have e3 := List.getElem?_eq_getElem lt
  have g := e2 l _ e3
  by_cases c : (iv s 2).toNat ≤ l
  · rw [if_pos c, e3] at e
    cases e
    rw [if_pos (by omega)] at g
    exact g
  · rw [if_neg c, e3] at e
    cases e
    rw [if_neg (by omega)] at g
    exact g
theorem SAM.up {m : Nat} (ts : ty L cl s 18) (ts2 : ty L cl s2 18) (hn : s2 ≠ s) (hW : WT h sk L cl ln iv rv) (e : iv1 = up2 iv s m z) : SAM iv rv iv1 rv s2 := by
  refine ⟨by funext q; rw [e, up2_k hn], rfl, fun rb h0 => ⟨rfl, fun l r hr => ?_⟩⟩
  have tr := ro19 hW (sh67 hW ts2 h0) hr
  refine ⟨by funext q; rw [e, up2_k (ne_ty tr ts (by decide))], rfl, fun cb hc => ?_⟩
  funext q
  rw [e, up2_k (ne_ty (li64 hW tr hc) ts (by decide))]
theorem ROW.up {m : Nat} (ts : ty L cl s 18) (hW : WT h sk L cl ln iv rv) (e : iv1 = up2 iv s m z) (hx : ROW iv rv s l xs) : ROW iv1 rv s l xs := hx.fr rfl (fun rb r h0 hr => by
  have tr := ro19 hW (sh67 hW ts h0) hr
  refine ⟨hr, by funext q; rw [e, up2_k (ne_ty tr ts (by decide))], rfl, fun cb hc => ?_⟩
  funext q
  rw [e, up2_k (ne_ty (li64 hW tr hc) ts (by decide))])
theorem SHK.up {m : Nat} (h1 : SHK iv rv iv1 rv1 s s2) (ts : ty L1 cl1 s 18) (ts2 : ty L1 cl1 s2 18) (hW : WT h sk L1 cl1 ln1 iv1 rv1) (e : iv2 = up2 iv1 s m z) : SHK iv rv iv2 rv1 s s2 := h1.trans ⟨h1.1, SAM.up ts ts2 (fun q => h1.1.1 q.symm) hW e, rfl⟩
theorem BTX.mk (ts : ty L cl s 18) (hW : WT h sk L cl ln iv rv) (e : iv1 = up2 iv s 2 z) (hz : z = iv s 1) (hB : BEX L cl iv1 rv iv2 rv2 s f) (h2 : iv2 s 2 = iv1 s 2) : BTX L cl iv rv iv2 rv2 s f := fun s2 t2 hK => by
  have g0 : SHK iv rv iv1 rv s s2 := (SHK.refl hK).up ts t2 hW e
  obtain ⟨b1, b2⟩ := hB s2 t2 g0.1
  refine ⟨g0.trans b1, fun D hD => ?_⟩
  have hD1 : DRP iv1 rv s D := ⟨by rw [e, up2_j (by decide)]; exact hD.1, fun l xs q => (hD.2 l xs q).up ts hW e⟩
  obtain ⟨k1, k2⟩ := b2 D hD1
  have e2 : iv1 s 2 = z := by rw [e, up2_s]
  refine ⟨fun c => ⟨(k1 c).1, (k1 c).2, ?_⟩, k2⟩
  rw [h2, e2, hz]
  exact hD.1
theorem BEX.no (hf : f ≠ 1) (h1 : 200 ≤ iv s 1) (h2 : iv s 1 ≤ 200) : BEX L cl iv rv iv rv s f := fun s2 _ hK => ⟨SHK.refl hK, fun D hD => ⟨fun e => absurd e hf, fun _ => by
  have e := hD.1
  omega⟩⟩
theorem BEX.old (ts : ty L cl s 18) (hW : WT h sk L cl ln iv rv) (hW1 : WT h sk L cl ln iv1 rv) (h0 : rv s 0 = some rb) (hr : rv rb (iv s 1).toNat = some r) (hL : LFR L cl iv rv iv1 r) (hF : fT [19] L cl iv rv iv1 rv) (e1 : iv1 r 1 = 0) (e2 : iv1 r 2 = 0) (e : iv2 = up2 iv1 s 1 z) (hz : z = iv s 1 + 1) (hl : iv s 1 < 200) (hf : f = 1) : BEX L cl iv rv iv2 rv s f := fun s2 t2 hK => by
  have g1 : SHK iv rv iv1 rv s s2 := (SHK.refl hK).lfr hW ts t2 h0 hr hL hF rfl
  refine ⟨g1.up ts t2 hW1 e, fun D hD => ⟨fun _ => ?_, fun c => absurd hf c⟩⟩
  obtain ⟨d1, d2⟩ := hD
  refine ⟨by omega, by rw [e, up2_s, len1]; omega, fun l xs q => ?_⟩
  rcases ap1 q with ⟨c, q3⟩ | ⟨c, q3⟩
  · exact (ROW.lfr hK hW ts h0 hr hL (by omega) (d2 l xs q3)).up ts hW1 e
  · subst q3
    have rw1 : ROW iv1 rv s l [] := ⟨rb, r, h0, by rw [c, show D.length = (iv s 1).toNat by omega]; exact hr, e2, LNE.nil e1⟩
    exact rw1.up ts hW1 e
theorem BEX.fresh (ts : ty L cl s 18) (hW : WT h sk L cl ln iv rv) (h0 : rv s 0 = some rb) (hl : iv s 1 < 200) (hl0 : 0 ≤ iv s 1) (qL : q ∉ L) (bL : b ∉ L) (i18 : ∀ c, ty L cl c 18 → c ≠ s → ∀ j, iv2 c j = iv c j) (i19 : ∀ c, ty L cl c 19 → ∀ j, iv2 c j = iv c j) (i64 : ∀ c, ty L cl c 64 → ∀ j, iv2 c j = iv c j) (r18 : ∀ c, ty L cl c 18 → ∀ j, rv2 c j = rv c j) (r19 : ∀ c, ty L cl c 19 → ∀ j, rv2 c j = rv c j) (r67 : ∀ c, ty L cl c 67 → c ≠ rb → ∀ j, rv2 c j = rv c j) (rrb : ∀ j, j ≠ (iv s 1).toNat → rv2 rb j = rv rb j) (rn : rv2 rb (iv s 1).toNat = some q) (rq : rv2 q 0 = some b) (q1 : iv2 q 1 = 0) (q2 : iv2 q 2 = 0) (hz : iv2 s 1 = iv s 1 + 1) (hf : f = 1) : BEX L cl iv rv iv2 rv2 s f := fun s2 t2 hK => by
  refine hv3 (sh67 hW ts h0) (show rv2 s = rv s from funext fun j => r18 s ts j) (show rv2 s2 = rv s2 from funext fun j => r18 s2 t2 j) (fun tb es es2 => ?_)
  have old : ∀ x y, (x = s ∨ x = s2) → rv2 x 0 = some y → ∀ l r, rv2 y l = some r → (rv x 0 = some y ∧ rv y l = some r ∧ rv2 r 0 = rv r 0 ∧ ty L cl r 19) ∨ (x = s ∧ l = (iv s 1).toNat ∧ r = q) := fun x y hx hy l r hr => by
    have tx : ty L cl x 18 := by
      rcases hx with e | e
      · rw [e]; exact ts
      · rw [e]; exact t2
    have hy' : rv x 0 = some y := by rw [← r18 x tx 0]; exact hy
    have ty' := sh67 hW tx hy'
    by_cases c : y = rb
    · rw [c] at hr hy' ty' ⊢
      have xs_ : x = s := by
        rcases hx with e | e
        · exact e
        · rw [e] at hy'
          exact absurd hy' (hK.2.1 rb h0)
      by_cases c2 : l = (iv s 1).toNat
      · rw [c2, rn] at hr
        cases hr
        exact Or.inr ⟨xs_, c2, rfl⟩
      · rw [rrb l c2] at hr
        have tr := ro19 hW ty' hr
        exact Or.inl ⟨hy', hr, r19 r tr 0, tr⟩
    · rw [r67 y ty' c l] at hr
      have tr := ro19 hW ty' hr
      exact Or.inl ⟨hy', hr, r19 r tr 0, tr⟩
  have K2 : LNK rv2 s s2 := by
    refine ⟨hK.1, fun c h1 h2 => hK.2.1 c (by rw [← es]; exact h1) (by rw [← es2]; exact h2), fun x y hx hy rb1 rb2 l l' r r' c a1 a2 a3 a4 a5 a6 => ?_⟩
    rcases old x rb1 hx a1 l r a3 with ⟨o1, o2, o3, o4⟩ | ⟨o1, o2, o3⟩
    · rcases old y rb2 hy a2 l' r' a4 with ⟨p1, p2, p3, p4⟩ | ⟨p1, p2, p3⟩
      · rw [o3] at a5
        rw [p3] at a6
        exact hK.2.2 x y hx hy rb1 rb2 l l' r r' c o1 p1 o2 p2 a5 a6
      · rw [p3, rq] at a6
        rw [o3] at a5
        cases a6
        exact absurd (li64 hW o4 a5).1 bL
    · rcases old y rb2 hy a2 l' r' a4 with ⟨p1, p2, p3, p4⟩ | ⟨p1, p2, p3⟩
      · rw [o3, rq] at a5
        rw [p3] at a6
        cases a5
        exact absurd (li64 hW p4 a6).1 bL
      · exact ⟨o1.trans p1.symm, o2.trans p2.symm⟩
  have kp : ∀ r, ty L cl r 19 → iv2 r = iv r ∧ rv2 r = rv r ∧ ∀ cb, rv r 0 = some cb → iv2 cb = iv cb := fun r tr => ⟨funext fun j => i19 r tr j, funext fun j => r19 r tr j, fun cb hc => funext fun j => i64 cb (li64 hW tr hc) j⟩
  refine ⟨⟨K2, ⟨funext fun j => i18 s2 t2 (fun e => hK.1 e.symm) j, es2, fun rb2 hb2 => ?_⟩, es⟩, fun D hD => ⟨fun _ => ?_, fun c => absurd hf c⟩⟩
  · have tb2 := sh67 hW t2 hb2
    refine ⟨funext fun j => r67 rb2 tb2 (fun e => hK.2.1 rb h0 (by rw [← e]; exact hb2)) j, fun l r hr => kp r (ro19 hW tb2 hr)⟩
  · obtain ⟨d1, d2⟩ := hD
    refine ⟨by omega, by rw [hz, len1]; omega, fun l xs g => ?_⟩
    rcases ap1 g with ⟨c, q3⟩ | ⟨c, q3⟩
    · refine (d2 l xs q3).fr es (fun rb2 r h02 hr => ?_)
      rw [h0] at h02; cases h02
      obtain ⟨k1, k2, k3⟩ := kp r (ro19 hW tb hr)
      exact ⟨by rw [rrb l (by omega)]; exact hr, k1, k2, k3⟩
    · subst q3
      exact ⟨rb, q, by rw [es]; exact h0, by rw [c, show D.length = (iv s 1).toNat by omega]; exact rn, q2, LNE.nil q1⟩
end TROW
end
section
set_option maxHeartbeats 4000000 in
set_option maxRecDepth 100000 in
theorem G_zline {l : Launch} {G : GT} {mi : Nat} {sk : Nat → Nat} {L : List Nat} {cl ln : Nat → Nat} {iv : Nat → Nat → Int} {rv : Nat → Nat → Option Nat}  {a0 : Nat} (hW : WT (g0 G) sk L cl ln iv rv) (hS : SKL sk L cl) (t_a0 : ty L cl a0 203)  : Mc l G mi zPf 0 yX2_init cX2_init 1 none 1 [.ref a0] L cl ln iv rv 216 (fun v L2 cl2 ln2 iv2 rv2 => v = none ∧ XT L cl ln L2 cl2 ln2 ∧ fT [203] L cl iv rv iv2 rv2 ∧ WT (g0 G) sk L2 cl2 ln2 iv2 rv2 ∧ (∃ b, (∀ k, ([0] : List Nat).contains k = false → rv2 a0 k = rv a0 k) ∧ rv2 a0 0 = some b ∧ ty L2 cl2 b 64 ∧ iv2 a0 1 = 0 ∧ iv2 a0 2 = 0 ∧ b ∉ L)) := by
  refine Mc.mk (by decide) (Nat.le_of_ble_eq_true rfl) ?_
  intro p e s m args below meth c A C hM
  refine hv3 ((show zPf ln rv ≤ 0 from Nat.le_refl 0)) (show XT L cl ln L cl ln from XT.refl) (show fT [203] L cl iv rv iv rv from fT.refl) (fun hph hX0 hF0 => ?_)
  refine c_aload_n (j := 0) (x := a0) C dX2_init_0 rfl ?_
  refine c_objInit C dX2_init_1 w4_43 w1_30 w1_31 (by decide) (Nat.le_of_ble_eq_true rfl) ?_
  refine c_aload_n (j := 0) (x := a0) C dX2_init_4 rfl ?_
  refine c_sipush (z := 200) C dX2_init_5 (by decide) ?_
  refine c_newaI (z := 200) (N := 200) C 64 dX2_init_8 w1_57 rfl (by omega) (by omega) (rom2 hph hph (by decide)) (fun qn1 cln1 lnn1 ivn1 rvn1 hqn1 hcn1 hln1 hin1 hrn1 => ⟨216, (z_in (by omega)), ?_⟩)
  refine c_g0 C (fun hg1 => ?_)
  refine hv5 (show ∀ b, b ≠ qn1 → lnn1 b = ln b from (fun b hb => by rw [hln1]; exact va_up_ne _ _ hb)) (show lnn1 qn1 = 200 from by rw [hln1]; exact va_up_self _ _ _) (hF0.new hX0 hqn1 hin1 hrn1) (show ty (L ++ [qn1]) cln1 qn1 64 from ty_new hcn1) (show qn1 ∉ L from fun h => hqn1 ((hX0 qn1 h).1)) (fun hxn1 lqn1 F1 tqn1 h0qn1 => ?_)
  refine hv2 (hW.new (ln2 := lnn1) hqn1 (hg1 qn1 (List.mem_append_right _ List.mem_cons_self)) hcn1 hxn1 hin1 hrn1 (fun _ => ⟨(show (-2147483648 : Int) ≤ 0 by decide), (show (0 : Int) ≤ 2147483647 by decide)⟩) (Or.inr (fun _ => rfl)) (fun _ => by show 200 ≤ lnn1 qn1 ∧ lnn1 qn1 ≤ 200; omega) rfl rfl) (XT.new hqn1 hcn1 hxn1) (fun W1 xl1 => ?_)
  refine hv3 (hX0.trans xl1) (xl1.skl hS) (xl1.ty t_a0) (fun X1 sk1 ty1 => ?_)
  refine c_putrF (x := (some qn1)) (k := 0) C ck_3 dX2_init_10 w4_44 (by decide) rfl rfl rfl ty1 rfl rfl (by decide) rfl (by rfl) (by rfl) (fun rv1 pq1 => ⟨216, (zp2 (Nat.le_refl _)), ?_⟩)
  refine hv2 (W1.putr pq1 ty1 (fun qr => by rw [ty1.2] at qr; cases qr) rfl (by decide)) (F1.putr X1 pq1 ty1 rfl) (fun W2 F2 => ?_)
  refine c_aload_n (j := 0) (x := a0) C dX2_init_13 rfl ?_
  refine c_iconst C dX2_init_14 ?_
  refine c_put (z := 0) (k := 1) C ck_3 dX2_init_15 w4_49 (by decide) rfl ty1 rfl rfl (by decide) rfl (by rfl) (by rfl) (fun iv1 pq2 => ?_)
  refine hv2 (W2.puti pq2 ty1 ⟨by decide, by decide⟩ rfl) (F2.puti X1 pq2 ty1 rfl) (fun W3 F3 => ?_)
  refine c_aload_n (j := 0) (x := a0) C dX2_init_18 rfl ?_
  refine c_iconst C dX2_init_19 ?_
  refine c_put (z := 0) (k := 2) C ck_3 dX2_init_20 w4_54 (by decide) rfl ty1 rfl rfl (by decide) rfl (by decide) (by decide) (fun iv2 pq3 => ?_)
  refine hv7 (W3.puti pq3 ty1 ⟨by decide, by decide⟩ rfl) (F3.puti X1 pq3 ty1 rfl) (show rv1 a0 0 = (some qn1) from by rw [pq1]; exact upr_s) (show ∀ k, ([0] : List Nat).contains k = false → rv1 a0 k = rv a0 k from fun k hk => (Eq.trans (show rv1 a0 k = rvn1 a0 k from (by rw [pq1]; exact upr_j (fun e => by subst e; exact absurd hk (by decide)))) (show rvn1 a0 k = rv a0 k from (by rw [hrn1]; exact congrFun (up0_a (ne_in t_a0.1 hqn1)) _)))) (show iv2 a0 1 = iv1 a0 1 from by rw [pq3]; exact up2_j (by decide)) (show iv1 a0 1 = 0 from by rw [pq2]; exact up2_s) (show iv2 a0 2 = 0 from by rw [pq3]; exact up2_s) (fun W4 F4 rp1 rn1 ie1 ie2 ie3 => ?_)
  refine hv2 (show (-2147483648) ≤ iv2 a0 1 ∧ iv2 a0 1 ≤ 2147483647 from W4.int ty1 1) (show (-2147483648) ≤ iv2 a0 2 ∧ iv2 a0 2 ≤ 2147483647 from W4.int ty1 2) (fun ri1 ri2 => ?_)
  exact c_vret C dX2_init_23 rfl (by decide) (rom0 hph (Nat.le_refl 0) (by decide)) ⟨rfl, X1, F4, W4, ⟨qn1, rn1, rp1, tqn1, (by omega), (by omega), h0qn1⟩⟩
set_option maxHeartbeats 4000000 in
set_option maxRecDepth 100000 in
theorem G_sat {l : Launch} {G : GT} {mi : Nat} {sk : Nat → Nat} {L : List Nat} {cl ln : Nat → Nat} {iv : Nat → Nat → Int} {rv : Nat → Nat → Option Nat}  {a0 : Nat} {i : Int} (hW : WT (g0 G) sk L cl ln iv rv) (hS : SKL sk L cl) (t_a0 : ty L cl a0 18) (h_i : -2147483648 ≤ i ∧ i ≤ 2147483647)  : Mc l G mi (Phi (g0 G) sk) PHM yX7_at cX7_at 2 (some (.object "DotPress$Line")) 0 [.ref a0, .int (iI i)] L cl ln iv rv 0 (fun v L2 cl2 ln2 iv2 rv2 => ∃ f : Option Nat, v = some ((va_rf f)) ∧ L = L2 ∧ cl = cl2 ∧ ln = ln2 ∧ iv = iv2 ∧ rv = rv2 ∧ (∀ b, f = some b → ty L2 cl2 b 19) ∧ (SATX iv rv a0 i f)) := by
  refine Mc.mk (by decide) (Nat.le_of_ble_eq_true rfl) ?_
  intro p e s m args below meth c A C hM
  refine hv4 (Phi.le hW hS) (show XT L cl ln L cl ln from XT.refl) (show fT [] L cl iv rv iv rv from fT.refl) (show 0 ≤ iv a0 1 ∧ iv a0 1 ≤ 200 from hW.int t_a0 1) (fun hph hX0 hF0 ri1 => ?_)
  refine c_iload_n (j := 1) C dX7_at_0 rfl ?_
  refine c_if_lt (tgt := 21) C ⟨by omega, by omega⟩ dX7_at_1 (by decide) (fun c1 => ?_) (fun c1 => ?_)
  · refine c_null C dX7_at_21 ?_
    exact c_aret (x := none) C dX7_at_22 rfl (Or.inl ⟨_, rfl⟩) (by decide) (rom0 hph hph (by decide)) ⟨none, rfl, rfl, rfl, rfl, rfl, rfl, (fun _ q => by cases q), (Or.inr ⟨by omega, rfl⟩)⟩
  · refine c_iload_n (j := 1) C dX7_at_4 rfl ?_
    refine c_aload_n (j := 0) (x := a0) C dX7_at_5 rfl ?_
    refine c_get (k := 1) C ck_8 dX7_at_6 w2_34 (by decide) t_a0 rfl rfl (by decide) rfl ?_
    refine c_icmp_ge (tgt := 21) C ⟨by omega, by omega⟩ (r32_c (lo := 0) (hi := 200) ri1.1 ri1.2 (by decide) (by decide)) dX7_at_9 (by decide) (fun c2 => ?_) (fun c2 => ?_)
    · refine c_null C dX7_at_21 ?_
      exact c_aret (x := none) C dX7_at_22 rfl (Or.inl ⟨_, rfl⟩) (by decide) (rom0 hph hph (by decide)) ⟨none, rfl, rfl, rfl, rfl, rfl, rfl, (fun _ q => by cases q), (Or.inr ⟨by omega, rfl⟩)⟩
    · refine c_aload_n (j := 0) (x := a0) C dX7_at_12 rfl ?_
      obtain ⟨rb1, rq1, trb1⟩ := hW.ref t_a0 0 rfl rfl rfl
      have lnrb1 : 200 ≤ ln rb1 ∧ ln rb1 ≤ 200 := hW.len trb1 rfl
      refine c_getr (k := 0) C ck_8 dX7_at_13 w2_33 (by decide) t_a0 rfl rfl (by decide) rfl rq1 ?_
      refine c_st (st2 := [.ref rb1]) rfl ?_
      refine c_iload_n (j := 1) C dX7_at_16 rfl ?_
      have ll1 : 200 ≤ ln rb1 ∧ ln rb1 ≤ 200 := hW.len trb1 rfl
      rcases hW.opt trb1 (i.toNat) rfl rfl with ⟨nq1, _⟩ | ⟨nb1, nq1, tnb1⟩
      · refine c_aaldL C dX7_at_17 trb1 rfl (by omega) (by omega) (by omega) nq1 ?_
        refine c_st (st2 := [.null]) rfl ?_
        refine c_goto (tgt := 22) C dX7_at_18 (by decide) ?_
        exact c_aret (x := none) C dX7_at_22 rfl (Or.inl ⟨_, rfl⟩) (by decide) (rom0 hph hph (by decide)) ⟨none, rfl, rfl, rfl, rfl, rfl, rfl, (fun _ q => by cases q), (Or.inl ⟨⟨by omega, by omega⟩, _, rq1, nq1.symm⟩)⟩
      · have tnb1 : ty L cl nb1 19 := tnb1
        refine c_aaldL C dX7_at_17 trb1 rfl (by omega) (by omega) (by omega) nq1 ?_
        refine c_st (st2 := [.ref nb1]) rfl ?_
        refine c_goto (tgt := 22) C dX7_at_18 (by decide) ?_
        exact c_aret (x := some nb1) C dX7_at_22 rfl (Or.inl ⟨_, rfl⟩) (by decide) (rom0 hph hph (by decide)) ⟨(some nb1), rfl, rfl, rfl, rfl, rfl, rfl, (fun _ q => by cases q; exact tnb1), (Or.inl ⟨⟨by omega, by omega⟩, _, rq1, nq1.symm⟩)⟩
set_option maxHeartbeats 4000000 in
set_option maxRecDepth 100000 in
theorem G_begin {l : Launch} {G : GT} {mi : Nat} {sk : Nat → Nat} {L : List Nat} {cl ln : Nat → Nat} {iv : Nat → Nat → Int} {rv : Nat → Nat → Option Nat}  {a0 : Nat} (hW : WT (g0 G) sk L cl ln iv rv) (hS : SKL sk L cl) (t_a0 : ty L cl a0 18)  : Mc l G mi (Phi (g0 G) sk) PHM yX7_begin cX7_begin 1 (some .boolean) 2 [.ref a0] L cl ln iv rv 0 (fun v L2 cl2 ln2 iv2 rv2 => ∃ f : Int, v = some (.int (iI f)) ∧ XT L cl ln L2 cl2 ln2 ∧ fT [18, 19, 64, 67, 203] L cl iv rv iv2 rv2 ∧ WT (g0 G) sk L2 cl2 ln2 iv2 rv2 ∧ (f = 0 ∨ f = 1) ∧ (((f = 0 ∧ iv2 a0 1 = iv a0 1) ∨ (f = 1 ∧ iv2 a0 1 = iv a0 1 + 1)) ∧ iv2 a0 2 = iv a0 2 ∧ BEX L cl iv rv iv2 rv2 a0 f)) := by
  refine Mc.mk (by decide) (Nat.le_of_ble_eq_true rfl) ?_
  intro p e s m args below meth c A C hM
  refine hv3 (Phi.le hW hS) (show XT L cl ln L cl ln from XT.refl) (show fT [18, 19, 64, 67, 203] L cl iv rv iv rv from fT.refl) (fun hph hX0 hF0 => ?_)
  refine c_aload_n (j := 0) (x := a0) C dX7_begin_0 rfl ?_
  have ri1 : 0 ≤ iv a0 1 ∧ iv a0 1 ≤ 200 := hW.int t_a0 1
  refine c_get (k := 1) C ck_8 dX7_begin_1 w2_34 (by decide) t_a0 rfl rfl (by decide) rfl ?_
  refine c_sipush (z := 200) C dX7_begin_4 (by decide) ?_
  refine c_icmp_lt (tgt := 12) C (r32_c (lo := 0) (hi := 200) ri1.1 ri1.2 (by decide) (by decide)) ⟨by decide, by decide⟩ dX7_begin_7 (by decide) (fun c1 => ?_) (fun c1 => ?_)
  · refine c_aload_n (j := 0) (x := a0) C dX7_begin_12 rfl ?_
    obtain ⟨rb1, rq1, trb1⟩ := hW.ref t_a0 0 rfl rfl rfl
    have lnrb1 : 200 ≤ ln rb1 ∧ ln rb1 ≤ 200 := hW.len trb1 rfl
    refine c_getr (k := 0) C ck_8 dX7_begin_13 w2_33 (by decide) t_a0 rfl rfl (by decide) rfl rq1 ?_
    refine c_st (st2 := [.ref rb1]) rfl ?_
    refine c_aload_n (j := 0) (x := a0) C dX7_begin_16 rfl ?_
    refine c_get (k := 1) C ck_8 dX7_begin_17 w2_34 (by decide) t_a0 rfl rfl (by decide) rfl ?_
    have ll1 : 200 ≤ ln rb1 ∧ ln rb1 ≤ 200 := hW.len trb1 rfl
    rcases hW.opt trb1 ((iv a0 1).toNat) rfl rfl with ⟨nq1, _⟩ | ⟨nb1, nq1, tnb1⟩
    · refine c_aaldL C dX7_begin_20 trb1 rfl (by omega) (by omega) (by omega) nq1 ?_
      refine c_st (st2 := [.null]) rfl ?_
      refine c_ifnonnull (r := none) (tgt := 40) C dX7_begin_21 (by decide) (fun _ q => by cases q) (fun _ => ?_)
      refine c_aload_n (j := 0) (x := a0) C dX7_begin_24 rfl ?_
      refine c_getr (k := 0) C ck_8 dX7_begin_25 w2_33 (by decide) t_a0 rfl rfl (by decide) rfl rq1 ?_
      refine c_st (st2 := [.ref rb1]) rfl ?_
      refine c_aload_n (j := 0) (x := a0) C dX7_begin_28 rfl ?_
      refine c_get (k := 1) C ck_8 dX7_begin_29 w2_34 (by decide) t_a0 rfl rfl (by decide) rfl ?_
      refine c_new C ck_3 dv_3 ⟨rfl, rfl⟩ rfl (by decide) dX7_begin_32 w2_31 w4_39 w1_22 (rom3 hph (Phi.le3 hW hS).1 (by omega)) (fun qn1 cln1 lnn1 ivn1 rvn1 hqn1 hcn1 hln1 hin1 hrn1 => ⟨19, (p_in (Phi.new hW hS hqn1 (fun b _ => by rw [hln1]) hrn1) (by omega)), ?_⟩)
      refine c_g0 C (fun hg1 => ?_)
      refine hv4 (show ∀ b, b ≠ qn1 → lnn1 b = ln b from (fun b _ => by rw [hln1])) (hF0.new hX0 hqn1 hin1 hrn1) (show ty (L ++ [qn1]) cln1 qn1 203 from ty_new hcn1) (show qn1 ∉ L from fun h => hqn1 ((hX0 qn1 h).1)) (fun hxn1 F1 tqn1 h0qn1 => ?_)
      refine hv2 (hW.new (ln2 := lnn1) hqn1 (hg1 qn1 (List.mem_append_right _ List.mem_cons_self)) hcn1 hxn1 hin1 hrn1 (fun _ => ⟨(show (-2147483648 : Int) ≤ 0 by decide), (show (0 : Int) ≤ 2147483647 by decide)⟩) (Or.inl rfl) (fun q => by cases q) rfl rfl) (XT.new hqn1 hcn1 hxn1) (fun W1 xl1 => ?_)
      refine hv2 (hX0.trans xl1) (xl1.skl hS) (fun X1 sk1 => ?_)
      refine c_dup C dX7_begin_35 rfl ?_
      have pl1 := Phi.le W1 sk1
      refine c_callIN (As := []) (rest := [.ref qn1, .int (iI (iv a0 1)), .ref rb1]) C hM (G_zline (a0 := qn1) W1 sk1 tqn1  ) dX7_begin_36 kN_X7_32 rfl rfl (Nat.le_of_ble_eq_true rfl) ⟨(Nat.le_of_ble_eq_true rfl), (Nat.le_of_ble_eq_true rfl)⟩ (rz3 hph (Phi.le3 W1 sk1).1 (by omega)) (fun rh1 Lh1 clh1 lnh1 ivh1 rvh1 h1 => ⟨235, (zk1 (by obtain ⟨_, xlh1x, flh1x, Wh1x, _⟩ := h1; exact Phi.fr W1 sk1 xlh1x flh1x rfl)), ?_⟩)
      obtain ⟨rfl, xl2, fl1, W2, exf1⟩ := h1
      refine hv5 (F1.call X1 fl1 rfl) (xl1.ty t_a0) (xl1.ty trb1) (X1.trans xl2) (xl2.skl sk1) (fun F2 ty1 ty2 X2 sk2 => ?_)
      refine c_st (st2 := [.ref qn1, .int (iI (iv a0 1)), .ref rb1]) rfl ?_
      obtain ⟨bexf1, exf1x, exf1r, exf1t, exf1i, exf1j, exf1n⟩ := exf1
      refine hv2 (show ∀ k, ([0] : List Nat).contains k = false → rvh1 qn1 k = none from fun k hk => (Eq.trans (show rvh1 qn1 k = rvn1 qn1 k from (exf1x k hk)) (show rvn1 qn1 k = none from (by rw [hrn1]; exact up0_s)))) (xl2.ty tqn1) (fun rn1 ty3 => ?_)
      refine c_retag (q := qn1) (t := 19) (by rw [ty3.2]; rfl) (fun clr1 hcr1 => ?_)
      refine hv4 (xl2.ty ty1) (xl2.ty ty2) (ty_rt exf1t hcr1 (ne_ty exf1t ty3 (by decide))) (show ty Lh1 clr1 qn1 19 from ⟨ty3.1, by rw [hcr1, va_up_self]; rfl⟩) (fun ty4 ty6 ty8 tqr1 => ?_)
      refine hv2 (ty_rt ty4 hcr1 (ne_ty ty4 ty3 (by decide))) (ty_rt ty6 hcr1 (ne_ty ty6 ty3 (by decide))) (fun ty5 ty7 => ?_)
      have W3 := W2.retag ty3.1 (by rw [ty3.2]; rfl) hcr1 (fun k => by
            rcases k with _ | _ | _ | k
            · exact W2.int ty3 0
            · exact ⟨(by show 0 ≤ ivh1 qn1 1; first | exact bx_lo ‹ivh1 qn1 1 = _› (by decide) | omega), (by show ivh1 qn1 1 ≤ 200; first | exact bx_hi ‹ivh1 qn1 1 = _› (by decide) | omega)⟩
            · exact ⟨(by show 0 ≤ ivh1 qn1 2; first | exact bx_lo ‹ivh1 qn1 2 = _› (by decide) | omega), (by show ivh1 qn1 2 ≤ 1; first | exact bx_hi ‹ivh1 qn1 2 = _› (by decide) | omega)⟩
            · exact W2.int ty3 (k + 3)) (fun k => by
            rcases k with _ | _ | _ | k
            · rw [exf1r]; exact rok_some tqr1 ty8 rfl (by decide) rfl
            · rw [rn1 1 (by decide)]; exact rok_none tqr1 rfl
            · rw [rn1 2 (by decide)]; exact rok_none tqr1 rfl
            · rw [rn1 (k + 3) (by simp)]; exact rok_none tqr1 rfl) rfl (fun z => by cases z) (fun z => by cases z) rfl
      refine hv4 (X2.rt hcr1 h0qn1) (sk2.rt hcr1 (by rw [ty3.2]; rfl)) (show 200 ≤ lnh1 rb1 ∧ lnh1 rb1 ≤ 200 from W3.len ty7 rfl) (show rvn1 rb1 ((iv a0 1).toNat) = rv rb1 ((iv a0 1).toNat) from (by rw [hrn1]; exact congrFun (up0_a (ne_in trb1.1 hqn1)) _)) (fun X3 sk3 ll2 re1 => ?_)
      rw [nq1] at re1
      have re2 : rvh1 rb1 ((iv a0 1).toNat) = rvn1 rb1 ((iv a0 1).toNat) := (fl1.r ty2 rfl (iv a0 1).toNat)
      rw [re1] at re2
      have ixe : (iv a0 1).toNat = (iv a0 1).toNat := by omega
      refine c_aastL (z := iv a0 1) C ck_3 dX7_begin_39 ty7 rfl tqr1 rfl rfl (by decide) (by omega) (by omega) (by omega) (fun rv1 pq1 => ⟨0, (by rw [Phi.line (iv := ivh1) W3 sk3 ty7 pq1 (by omega) (by rw [ixe]; exact re2)]; omega), ?_⟩)
      refine hv2 (W3.putr pq1 ty7 (rok_some ty7 tqr1 rfl (by decide) rfl) rfl (by decide)) (F2.putr X3 pq1 ty7 rfl) (fun W4 F3 => ?_)
      refine c_aload_n (j := 0) (x := a0) C dX7_begin_40 rfl ?_
      have re3 : rvn1 a0 0 = rv a0 0 := (by rw [hrn1]; exact congrFun (up0_a (ne_in t_a0.1 hqn1)) _)
      rw [rq1] at re3
      have re4 : rvh1 a0 0 = rvn1 a0 0 := (fl1.r ty1 rfl 0)
      rw [re3] at re4
      have re5 : rv1 a0 0 = rvh1 a0 0 := (by rw [pq1]; exact congrFun (upr_a (ne_ty ty5 ty7 (by decide))) _)
      rw [re4] at re5
      refine c_getr (k := 0) C ck_8 dX7_begin_41 w2_33 (by decide) ty5 rfl rfl (by decide) rfl re5 ?_
      refine c_st (st2 := [.ref rb1]) rfl ?_
      refine c_aload_n (j := 0) (x := a0) C dX7_begin_44 rfl ?_
      refine hv3 (show 0 ≤ ivh1 a0 1 ∧ ivh1 a0 1 ≤ 200 from W4.int ty5 1) (show ivh1 a0 1 = ivn1 a0 1 from fl1.i ty1 rfl 1) (show ivn1 a0 1 = iv a0 1 from by rw [hin1]; exact congrFun (up0_a (ne_in t_a0.1 hqn1)) _) (fun ri2 ie1 ie2 => ?_)
      refine c_get (k := 1) C ck_8 dX7_begin_45 w2_34 (by decide) ty5 rfl rfl (by decide) rfl ?_
      have re6 : rv1 rb1 (ivh1 a0 1).toNat = (some qn1) := by rw [show (ivh1 a0 1).toNat = (iv a0 1).toNat by omega, pq1]; exact upr_s
      refine c_aaldL C dX7_begin_48 ty7 rfl (by omega) (by omega) (by omega) re6 ?_
      refine c_st (st2 := [.ref qn1]) rfl ?_
      have pl2 := Phi.le W4 sk3
      refine d_callV (As := []) (rest := []) C hM (G_lclear (a0 := qn1) W4 sk3 tqr1  ) dX7_begin_49 kV_X7_33 rfl tqr1 rfl rfl (by decide) ck_3 rfl (Nat.le_of_ble_eq_true rfl) ⟨(Nat.le_of_ble_eq_true rfl), (Nat.le_of_ble_eq_true rfl)⟩ hph pl2 (show 0 + 0 = 0 from rfl) (by decide) (fun rh2 Lh2 clh2 lnh2 ivh2 rvh2 h2 => ?_)
      obtain ⟨rfl, rfl, rfl, rfl, rfl, fl2, W5, exf2⟩ := h2
      have F4 := F3.call X3 fl2 rfl
      refine c_st (st2 := []) rfl ?_
      refine hv3 (show 0 ≤ ivh2 qn1 1 ∧ ivh2 qn1 1 ≤ 200 from W5.int tqr1 1) (show 0 ≤ ivh2 qn1 2 ∧ ivh2 qn1 2 ≤ 1 from W5.int tqr1 2) (show ivh2 qn1 1 = 0 ∧ ivh2 qn1 2 = 0 ∧ LFR Lh1 clr1 ivh1 rv1 ivh2 qn1 from exf2) (fun ri3 ri4 gf2 => ?_)
      refine c_aload_n (j := 0) (x := a0) C dX7_begin_52 rfl ?_
      refine c_dup C dX7_begin_53 rfl ?_
      refine hv2 (show 0 ≤ ivh2 a0 1 ∧ ivh2 a0 1 ≤ 200 from W5.int ty5 1) (show ivh2 a0 1 = ivh1 a0 1 from fl2.i ty5 rfl 1) (fun ri5 ie5 => ?_)
      refine c_get (k := 1) C ck_8 dX7_begin_54 w2_34 (by decide) ty5 rfl rfl (by decide) rfl ?_
      refine c_iconst C dX7_begin_57 ?_
      refine c_iadd C dX7_begin_58 ?_
      refine c_put (z := (ivh2 a0 1) + 1) (k := 1) C ck_8 dX7_begin_59 w2_34 (by decide) rfl ty5 rfl rfl (by decide) rfl (by rfl) (by rfl) (fun iv1 pq2 => ?_)
      refine hv2 (W5.puti pq2 ty5 (show 0 ≤ ((ivh2 a0 1) + 1) ∧ ((ivh2 a0 1) + 1) ≤ 200 by omega) rfl) (F4.puti X3 pq2 ty5 rfl) (fun W6 F5 => ?_)
      refine c_iconst C dX7_begin_62 ?_
      refine hv13 (show 0 ≤ iv1 a0 1 ∧ iv1 a0 1 ≤ 200 from W6.int ty5 1) (show iv1 a0 1 = (ivh2 a0 1) + 1 from by rw [pq2]; exact up2_s) (show (-2147483648) ≤ iv1 a0 2 ∧ iv1 a0 2 ≤ 2147483647 from W6.int ty5 2) (show iv1 a0 2 = ivh2 a0 2 from by rw [pq2]; exact up2_j (by decide)) (show ivh2 a0 2 = ivh1 a0 2 from fl2.i ty5 rfl 2) (show ivh1 a0 2 = ivn1 a0 2 from fl1.i ty1 rfl 2) (show ivn1 a0 2 = iv a0 2 from by rw [hin1]; exact congrFun (up0_a (ne_in t_a0.1 hqn1)) _) (show 0 ≤ iv1 qn1 1 ∧ iv1 qn1 1 ≤ 200 from W6.int tqr1 1) (show iv1 qn1 1 = ivh2 qn1 1 from by rw [pq2]; exact up2_k (ne_ty tqr1 ty5 (by decide))) (show 0 ≤ iv1 qn1 2 ∧ iv1 qn1 2 ≤ 1 from W6.int tqr1 2) (show iv1 qn1 2 = ivh2 qn1 2 from by rw [pq2]; exact up2_k (ne_ty tqr1 ty5 (by decide))) (show rv1 rb1 ((iv a0 1).toNat) = (some qn1) from by rw [pq1]; exact upr_s) (show rv1 qn1 0 = rvh1 qn1 0 from (by rw [pq1]; exact congrFun (upr_a (ne_ty tqr1 ty7 (by decide))) _)) (fun ri6 ie6 ri7 ie7 ie8 ie9 ie10 ri8 ie11 ri9 ie12 rp1 re7 => ?_)
      have rn2 : rv1 rb1 (iv a0 1).toNat = some qn1 := by rw [show (iv a0 1).toNat = (iv a0 1).toNat by omega]; exact rp1
      have rr1 : ∀ j, j ≠ (iv a0 1).toNat → rv1 rb1 j = rv rb1 j := fun j hj => (Eq.trans (show rv1 rb1 j = rvh1 rb1 j from (by rw [pq1]; exact upr_j (by omega))) (Eq.trans (show rvh1 rb1 j = rvn1 rb1 j from (fl1.r ty2 rfl j)) (show rvn1 rb1 j = rv rb1 j from (by rw [hrn1]; exact congrFun (up0_a (ne_in trb1.1 hqn1)) _))))
      rw [exf1r] at re7
      exact c_zret C dX7_begin_63 rfl (Or.inr rfl) (by decide) (rom0 hph pl2 (by decide)) ⟨1, rfl, X3, F5, W6, (Or.inr rfl), ⟨by omega, by omega, BEX.fresh t_a0 hW rq1 (by omega) (by omega) h0qn1 (fun z => exf1n (X1 bexf1 z).1) (fun bb tbb hne j => by have tb1 := xl1.ty tbb; have tb2 := xl2.ty tb1; have tb3 := ty_rt tb2 hcr1 (ne_ty tb2 ty3 (by decide)); exact (Eq.trans (show iv1 bb j = ivh2 bb j from (by rw [pq2]; exact up2_k hne)) (Eq.trans (show ivh2 bb j = ivh1 bb j from (fl2.i tb3 rfl j)) (Eq.trans (show ivh1 bb j = ivn1 bb j from (fl1.i tb1 rfl j)) (show ivn1 bb j = iv bb j from (by rw [hin1]; exact congrFun (up0_a (ne_in tbb.1 hqn1)) _)))))) (fun bb tbb j => by have tb1 := xl1.ty tbb; have tb2 := xl2.ty tb1; have tb3 := ty_rt tb2 hcr1 (ne_ty tb2 ty3 (by decide)); exact (Eq.trans (show iv1 bb j = ivh2 bb j from (by rw [pq2]; exact up2_k (ne_ty tb3 ty5 (by decide)))) (Eq.trans (show ivh2 bb j = ivh1 bb j from (congrFun (exf2.2.2.1 _ tb3 (ne_in tbb.1 h0qn1)) j)) (Eq.trans (show ivh1 bb j = ivn1 bb j from (fl1.i tb1 rfl j)) (show ivn1 bb j = iv bb j from (by rw [hin1]; exact congrFun (up0_a (ne_in tbb.1 hqn1)) _)))))) (fun bb tbb j => by have tb1 := xl1.ty tbb; have tb2 := xl2.ty tb1; have tb3 := ty_rt tb2 hcr1 (ne_ty tb2 ty3 (by decide)); exact (Eq.trans (show iv1 bb j = ivh2 bb j from (by rw [pq2]; exact up2_k (ne_ty tb3 ty5 (by decide)))) (Eq.trans (show ivh2 bb j = ivh1 bb j from (fl2.i tb3 rfl j)) (Eq.trans (show ivh1 bb j = ivn1 bb j from (fl1.i tb1 rfl j)) (show ivn1 bb j = iv bb j from (by rw [hin1]; exact congrFun (up0_a (ne_in tbb.1 hqn1)) _)))))) (fun bb tbb j => by have tb1 := xl1.ty tbb; have tb2 := xl2.ty tb1; have tb3 := ty_rt tb2 hcr1 (ne_ty tb2 ty3 (by decide)); exact (Eq.trans (show rv1 bb j = rvh1 bb j from (by rw [pq1]; exact congrFun (upr_a (ne_ty tb3 ty7 (by decide))) _)) (Eq.trans (show rvh1 bb j = rvn1 bb j from (fl1.r tb1 rfl j)) (show rvn1 bb j = rv bb j from (by rw [hrn1]; exact congrFun (up0_a (ne_in tbb.1 hqn1)) _))))) (fun bb tbb j => by have tb1 := xl1.ty tbb; have tb2 := xl2.ty tb1; have tb3 := ty_rt tb2 hcr1 (ne_ty tb2 ty3 (by decide)); exact (Eq.trans (show rv1 bb j = rvh1 bb j from (by rw [pq1]; exact congrFun (upr_a (ne_ty tb3 ty7 (by decide))) _)) (Eq.trans (show rvh1 bb j = rvn1 bb j from (fl1.r tb1 rfl j)) (show rvn1 bb j = rv bb j from (by rw [hrn1]; exact congrFun (up0_a (ne_in tbb.1 hqn1)) _))))) (fun bb tbb hne j => by have tb1 := xl1.ty tbb; have tb2 := xl2.ty tb1; have tb3 := ty_rt tb2 hcr1 (ne_ty tb2 ty3 (by decide)); exact (Eq.trans (show rv1 bb j = rvh1 bb j from (by rw [pq1]; exact congrFun (upr_a hne) _)) (Eq.trans (show rvh1 bb j = rvn1 bb j from (fl1.r tb1 rfl j)) (show rvn1 bb j = rv bb j from (by rw [hrn1]; exact congrFun (up0_a (ne_in tbb.1 hqn1)) _))))) rr1 rn2 re7 (by omega) (by omega) (by omega) rfl⟩⟩
    · have tnb1 : ty L cl nb1 19 := tnb1
      refine c_aaldL C dX7_begin_20 trb1 rfl (by omega) (by omega) (by omega) nq1 ?_
      refine c_st (st2 := [.ref nb1]) rfl ?_
      refine c_ifnonnull (r := (some nb1)) (tgt := 40) C dX7_begin_21 (by decide) (fun _ _ => ?_) (fun q => by cases q)
      refine c_aload_n (j := 0) (x := a0) C dX7_begin_40 rfl ?_
      refine c_getr (k := 0) C ck_8 dX7_begin_41 w2_33 (by decide) t_a0 rfl rfl (by decide) rfl rq1 ?_
      refine c_st (st2 := [.ref rb1]) rfl ?_
      refine c_aload_n (j := 0) (x := a0) C dX7_begin_44 rfl ?_
      refine c_get (k := 1) C ck_8 dX7_begin_45 w2_34 (by decide) t_a0 rfl rfl (by decide) rfl ?_
      refine c_aaldL C dX7_begin_48 trb1 rfl (by omega) (by omega) (by omega) nq1 ?_
      refine c_st (st2 := [.ref nb1]) rfl ?_
      refine d_callV (As := []) (rest := []) C hM (G_lclear (a0 := nb1) hW hS tnb1  ) dX7_begin_49 kV_X7_33 rfl tnb1 rfl rfl (by decide) ck_3 rfl (Nat.le_of_ble_eq_true rfl) ⟨(Nat.le_of_ble_eq_true rfl), (Nat.le_of_ble_eq_true rfl)⟩ hph hph (show 0 + 0 = 0 from rfl) (by decide) (fun rh3 Lh3 clh3 lnh3 ivh3 rvh3 h3 => ?_)
      obtain ⟨rfl, rfl, rfl, rfl, rfl, fl3, W7, exf3⟩ := h3
      have F6 := hF0.call hX0 fl3 rfl
      refine c_st (st2 := []) rfl ?_
      refine hv3 (show 0 ≤ ivh3 nb1 1 ∧ ivh3 nb1 1 ≤ 200 from W7.int tnb1 1) (show 0 ≤ ivh3 nb1 2 ∧ ivh3 nb1 2 ≤ 1 from W7.int tnb1 2) (show ivh3 nb1 1 = 0 ∧ ivh3 nb1 2 = 0 ∧ LFR L cl iv rv ivh3 nb1 from exf3) (fun ri10 ri11 gf3 => ?_)
      refine c_aload_n (j := 0) (x := a0) C dX7_begin_52 rfl ?_
      refine c_dup C dX7_begin_53 rfl ?_
      refine hv2 (show 0 ≤ ivh3 a0 1 ∧ ivh3 a0 1 ≤ 200 from W7.int t_a0 1) (show ivh3 a0 1 = iv a0 1 from fl3.i t_a0 rfl 1) (fun ri12 ie15 => ?_)
      refine c_get (k := 1) C ck_8 dX7_begin_54 w2_34 (by decide) t_a0 rfl rfl (by decide) rfl ?_
      refine c_iconst C dX7_begin_57 ?_
      refine c_iadd C dX7_begin_58 ?_
      refine c_put (z := (ivh3 a0 1) + 1) (k := 1) C ck_8 dX7_begin_59 w2_34 (by decide) rfl t_a0 rfl rfl (by decide) rfl (by rfl) (by rfl) (fun iv2 pq3 => ?_)
      refine hv2 (W7.puti pq3 t_a0 (show 0 ≤ ((ivh3 a0 1) + 1) ∧ ((ivh3 a0 1) + 1) ≤ 200 by omega) rfl) (F6.puti hX0 pq3 t_a0 rfl) (fun W8 F7 => ?_)
      refine c_iconst C dX7_begin_62 ?_
      refine hv5 (show 0 ≤ iv2 a0 1 ∧ iv2 a0 1 ≤ 200 from W8.int t_a0 1) (show iv2 a0 1 = (ivh3 a0 1) + 1 from by rw [pq3]; exact up2_s) (show (-2147483648) ≤ iv2 a0 2 ∧ iv2 a0 2 ≤ 2147483647 from W8.int t_a0 2) (show iv2 a0 2 = ivh3 a0 2 from by rw [pq3]; exact up2_j (by decide)) (show ivh3 a0 2 = iv a0 2 from fl3.i t_a0 rfl 2) (fun ri13 ie16 ri14 ie17 ie18 => ?_)
      exact c_zret C dX7_begin_63 rfl (Or.inr rfl) (by decide) (rom0 hph hph (by decide)) ⟨1, rfl, hX0, F7, W8, (Or.inr rfl), ⟨by omega, by omega, BEX.old t_a0 hW W7 rq1 nq1 exf3.2.2 fl3 exf3.1 exf3.2.1 pq3 (by omega) (by omega) rfl⟩⟩
  · refine c_iconst C dX7_begin_10 ?_
    have ri15 : (-2147483648) ≤ iv a0 2 ∧ iv a0 2 ≤ 2147483647 := hW.int t_a0 2
    exact c_zret C dX7_begin_11 rfl (Or.inl rfl) (by decide) (rom0 hph hph (by decide)) ⟨0, rfl, hX0, hF0, hW, (Or.inl rfl), ⟨by omega, by omega, BEX.no (by decide) (by omega) (by omega)⟩⟩
set_option maxHeartbeats 4000000 in
set_option maxRecDepth 100000 in
theorem G_beginText {l : Launch} {G : GT} {mi : Nat} {sk : Nat → Nat} {L : List Nat} {cl ln : Nat → Nat} {iv : Nat → Nat → Int} {rv : Nat → Nat → Option Nat}  {a0 : Nat} (hW : WT (g0 G) sk L cl ln iv rv) (hS : SKL sk L cl) (t_a0 : ty L cl a0 18)  : Mc l G mi (Phi (g0 G) sk) PHM yX7_beginText cX7_beginText 1 (some .boolean) 3 [.ref a0] L cl ln iv rv 0 (fun v L2 cl2 ln2 iv2 rv2 => ∃ f : Int, v = some (.int (iI f)) ∧ XT L cl ln L2 cl2 ln2 ∧ fT [18, 19, 64, 67, 203] L cl iv rv iv2 rv2 ∧ WT (g0 G) sk L2 cl2 ln2 iv2 rv2 ∧ (f = 0 ∨ f = 1) ∧ (BTX L cl iv rv iv2 rv2 a0 f)) := by
  refine Mc.mk (by decide) (Nat.le_of_ble_eq_true rfl) ?_
  intro p e s m args below meth c A C hM
  refine hv3 (Phi.le hW hS) (show XT L cl ln L cl ln from XT.refl) (show fT [18, 19, 64, 67, 203] L cl iv rv iv rv from fT.refl) (fun hph hX0 hF0 => ?_)
  refine c_aload_n (j := 0) (x := a0) C dX7_beginText_0 rfl ?_
  refine c_aload_n (j := 0) (x := a0) C dX7_beginText_1 rfl ?_
  have ri1 : 0 ≤ iv a0 1 ∧ iv a0 1 ≤ 200 := hW.int t_a0 1
  refine c_get (k := 1) C ck_8 dX7_beginText_2 w2_34 (by decide) t_a0 rfl rfl (by decide) rfl ?_
  refine c_put (z := iv a0 1) (k := 2) C ck_8 dX7_beginText_5 w2_36 (by decide) rfl t_a0 rfl rfl (by decide) rfl (by rfl) (by rfl) (fun iv1 pq1 => ?_)
  refine hv2 (hW.puti pq1 t_a0 (show (-2147483648) ≤ (iv a0 1) ∧ (iv a0 1) ≤ 2147483647 by omega) rfl) (hF0.puti hX0 pq1 t_a0 rfl) (fun W1 F1 => ?_)
  refine c_aload_n (j := 0) (x := a0) C dX7_beginText_8 rfl ?_
  refine hv4 (show 0 ≤ iv1 a0 1 ∧ iv1 a0 1 ≤ 200 from W1.int t_a0 1) (show iv1 a0 1 = iv a0 1 from by rw [pq1]; exact up2_j (by decide)) (show (-2147483648) ≤ iv1 a0 2 ∧ iv1 a0 2 ≤ 2147483647 from W1.int t_a0 2) (show iv1 a0 2 = iv a0 1 from by rw [pq1]; exact up2_s) (fun ri2 ie1 ri3 ie2 => ?_)
  refine d_callV (As := []) (rest := []) C hM (G_begin (a0 := a0) W1 hS t_a0  ) dX7_beginText_9 kV_X7_54 rfl t_a0 rfl rfl (by decide) ck_8 rfl (Nat.le_of_ble_eq_true rfl) ⟨(Nat.le_of_ble_eq_true rfl), (Nat.le_of_ble_eq_true rfl)⟩ hph hph (show 0 + 0 = 0 from rfl) (by decide) (fun rh1 Lh1 clh1 lnh1 ivh1 rvh1 h1 => ?_)
  obtain ⟨f1, rfl, xl1, fl1, W2, rgf1, exf1⟩ := h1
  refine hv3 (F1.call hX0 fl1 rfl) (hX0.trans xl1) (xl1.skl hS) (fun F2 X1 sk1 => ?_)
  refine c_st (st2 := [.int (iI f1)]) rfl ?_
  refine hv3 (xl1.ty t_a0) (show ((f1 = 0 ∧ ivh1 a0 1 = iv1 a0 1) ∨ (f1 = 1 ∧ ivh1 a0 1 = iv1 a0 1 + 1)) ∧ ivh1 a0 2 = iv1 a0 2 ∧ BEX L cl iv1 rv ivh1 rvh1 a0 f1 from exf1) (Phi.le W2 sk1) (fun ty1 gf1 pl1 => ?_)
  refine hv2 (show 0 ≤ ivh1 a0 1 ∧ ivh1 a0 1 ≤ 200 from W2.int ty1 1) (show (-2147483648) ≤ ivh1 a0 2 ∧ ivh1 a0 2 ≤ 2147483647 from W2.int ty1 2) (fun ri4 ri5 => ?_)
  exact c_zret C dX7_beginText_12 rfl (by omega) (by decide) (rom0 hph pl1 (by decide)) ⟨f1, rfl, X1, F2, W2, (by omega), (BTX.mk t_a0 hW pq1 rfl gf1.2.2 gf1.2.1)⟩
set_option maxHeartbeats 4000000 in
set_option maxRecDepth 100000 in
theorem G_take {l : Launch} {G : GT} {mi : Nat} {sk : Nat → Nat} {L : List Nat} {cl ln : Nat → Nat} {iv : Nat → Nat → Int} {rv : Nat → Nat → Option Nat}  {a0 : Nat} {a1 : Nat} {x : Int} {w1 : Int} {h1 : Int} (hW : WT (g0 G) sk L cl ln iv rv) (hS : SKL sk L cl) (t_a0 : ty L cl a0 18) (t_a1 : ty L cl a1 15) (h_x : -2147483648 ≤ x ∧ x ≤ 2147483647) (h_w1 : -2147483648 ≤ w1 ∧ w1 ≤ 2147483647) (h_h1 : -2147483648 ≤ h1 ∧ h1 ≤ 2147483647) (hw : 1 ≤ w1 ∧ w1 ≤ 100) : Mc l G mi (Phi (g0 G) sk) PHM yX7_take cX7_take 10 (some .boolean) 4 [.ref a0, .ref a1, .int (iI x), .int (iI w1), .int (iI h1)] L cl ln iv rv 0 (fun v L2 cl2 ln2 iv2 rv2 => ∃ f : Int, v = some (.int (iI f)) ∧ XT L cl ln L2 cl2 ln2 ∧ fT [18, 19, 64, 67, 203] L cl iv rv iv2 rv2 ∧ WT (g0 G) sk L2 cl2 ln2 iv2 rv2 ∧ (f = 0 ∨ f = 1) ∧ (iv2 a0 2 = iv a0 2 ∧ TKE L cl iv rv iv2 rv2 a0 a1 x w1 h1 f)) := by
  refine Mc.mk (by decide) (Nat.le_of_ble_eq_true rfl) ?_
  intro p e s m args below meth c A C hM
  refine hv4 (Phi.le hW hS) (show XT L cl ln L cl ln from XT.refl) (show fT [18, 19, 64, 67, 203] L cl iv rv iv rv from fT.refl) (show (-2147483648) ≤ iv a0 2 ∧ iv a0 2 ≤ 2147483647 from hW.int t_a0 2) (fun hph hX0 hF0 ri1 => ?_)
  refine c_iconst C dX7_take_0 ?_
  refine c_istore (lv2 := [(5, .int (iI 0)), (0, .ref a0), (1, .ref a1), (2, .int (iI x)), (3, .int (iI w1)), (4, .int (iI h1))]) C dX7_take_1 (by decide) rfl ?_
  refine c_iconst C dX7_take_3 ?_
  refine c_istore (lv2 := [(6, .int (iI 0)), (5, .int (iI 0)), (0, .ref a0), (1, .ref a1), (2, .int (iI x)), (3, .int (iI w1)), (4, .int (iI h1))]) C dX7_take_4 (by decide) rfl ?_
  have Lp1 : ∀ (nn : Nat) (fr tn : Int) (Lb1 : List Nat) (clb1 lnb1 : Nat → Nat) (ivb1 : Nat → Nat → Int) (rvb1 : Nat → Nat → Option Nat) , 202 - tn < (nn : Int) → XT L cl ln Lb1 clb1 lnb1 → WT (g0 G) sk Lb1 clb1 lnb1 ivb1 rvb1 → fT [18, 19, 64, 67, 203] L cl iv rv ivb1 rvb1 → (0 ≤ fr ∧ fr ≤ 2147483647) → (0 ≤ tn ∧ tn ≤ 201) → (ivb1 a0 2 = iv a0 2) → (TKJ L cl iv rv ivb1 rvb1 a0 a1 x w1 h1 fr tn) → cw p l e 4 ((PHM) + 0 - ((Phi (g0 G) sk) ln rv)) s m args below meth c G A 10 (MQ below (Qu G A (Qp G (Phi (g0 G) sk) ((Phi (g0 G) sk) ln rv) 0 (fun v L2 cl2 ln2 iv2 rv2 => ∃ f : Int, v = some (.int (iI f)) ∧ XT L cl ln L2 cl2 ln2 ∧ fT [18, 19, 64, 67, 203] L cl iv rv iv2 rv2 ∧ WT (g0 G) sk L2 cl2 ln2 iv2 rv2 ∧ (f = 0 ∨ f = 1) ∧ (iv2 a0 2 = iv a0 2 ∧ TKE L cl iv rv iv2 rv2 a0 a1 x w1 h1 f)))) args s (((PHM) + 0 - ((Phi (g0 G) sk) ln rv)) / 16) ((PHM) + 0 - ((Phi (g0 G) sk) ln rv)) A) (Phi (g0 G) sk) ((Phi (g0 G) sk) ln rv) Lb1 clb1 lnb1 ivb1 rvb1 0 6 [(5, .int (iI fr)), (6, .int (iI tn)), (0, .ref a0), (1, .ref a1), (2, .int (iI x)), (3, .int (iI w1)), (4, .int (iI h1))] [] := by
    intro nn
    induction nn with
    | zero =>
      intro  fr tn Lb1 clb1 lnb1 ivb1 rvb1 hm Xb1 Wb1 Fb1  hfr htn hb2 hT
      have skb1 := Xb1.skl hS
      exact absurd hm (by omega)
    | succ nn ih1 =>
      intro  fr tn Lb1 clb1 lnb1 ivb1 rvb1 hm Xb1 Wb1 Fb1  hfr htn hb2 hT
      have skb1 := Xb1.skl hS
      refine c_iload (j := 1) C dX7_take_6 rfl ?_
      refine c_sipush (z := 200) C dX7_take_8 (by decide) ?_
      refine c_icmp_gt (tgt := 163) C (r32_c (lo := 0) (hi := 201) htn.1 htn.2 (by decide) (by decide)) ⟨by decide, by decide⟩ dX7_take_11 (by decide) (fun c1 => ?_) (fun c1 => ?_)
      · refine c_iconst C dX7_take_163 ?_
        refine hv2 (Xb1.ty t_a0) (Phi.le Wb1 skb1) (fun ty1 pl1 => ?_)
        have ri2 : (-2147483648) ≤ ivb1 a0 2 ∧ ivb1 a0 2 ≤ 2147483647 := Wb1.int ty1 2
        exact c_zret C dX7_take_164 rfl (Or.inl rfl) (by decide) (rom0 hph pl1 (by decide)) ⟨0, rfl, Xb1, Fb1, Wb1, (Or.inl rfl), ⟨by omega, hT.out (by omega) rfl⟩⟩
      · refine c_aload_n (j := 2) (x := a0) C dX7_take_14 rfl ?_
        refine c_aload_n (j := 2) (x := a0) C dX7_take_15 rfl ?_
        have ty2 := Xb1.ty t_a0
        have ri3 : 0 ≤ ivb1 a0 1 ∧ ivb1 a0 1 ≤ 200 := Wb1.int ty2 1
        refine c_get (k := 1) C ck_8 dX7_take_16 w2_34 (by decide) ty2 rfl rfl (by decide) rfl ?_
        refine c_iconst C dX7_take_19 ?_
        refine c_isub C dX7_take_20 ?_
        have pl2 := Phi.le Wb1 skb1
        refine d_callV (As := [.int (iI ((ivb1 a0 1) - 1))]) (rest := []) C hM (G_sat (a0 := a0) (i := (ivb1 a0 1) - 1) Wb1 skb1 ty2 (by omega) ) dX7_take_21 kV_X7_24 rfl ty2 rfl rfl (by decide) ck_8 rfl (Nat.le_of_ble_eq_true rfl) ⟨(Nat.le_of_ble_eq_true rfl), (Nat.le_of_ble_eq_true rfl)⟩ hph pl2 (show 0 + 0 = 0 from rfl) (by decide) (fun rh1 Lh1 clh1 lnh1 ivh1 rvh1 h1 => ?_)
        obtain ⟨f1, rfl, rfl, rfl, rfl, rfl, rfl, rgf1, exf1⟩ := h1
        refine c_st (st2 := [(va_rf f1)]) rfl ?_
        have gf1 : SATX ivb1 rvb1 a0 ((ivb1 a0 1) - 1) f1 := exf1
        refine c_astorer (r := f1) (lv2 := [(7, (va_rf f1)), (5, .int (iI fr)), (6, .int (iI tn)), (0, .ref a0), (1, .ref a1), (2, .int (iI x)), (3, .int (iI w1)), (4, .int (iI h1))]) C dX7_take_24 (by decide) rfl ?_
        refine c_aloadr (j := 0) (r := f1) C dX7_take_26 rfl ?_
        refine c_ifnonnull (r := f1) (tgt := 33) C dX7_take_28 (by decide) (fun ob1 oq1 => ?_) (fun oq1 => ?_)
        · subst oq1
          have tob1 := rgf1 ob1 rfl
          refine c_lv (lv2 := [(7, .ref ob1), (5, .int (iI fr)), (6, .int (iI tn)), (0, .ref a0), (1, .ref a1), (2, .int (iI x)), (3, .int (iI w1)), (4, .int (iI h1))]) [0, 1, 2, 3, 4, 5, 6, 7] rfl ?_
          refine c_st (st2 := []) rfl ?_
          refine c_iload_n (j := 6) C dX7_take_33 rfl ?_
          refine c_aload (j := 0) (x := ob1) C dX7_take_34 rfl ?_
          have ri4 : 0 ≤ ivb1 ob1 1 ∧ ivb1 ob1 1 ≤ 200 := Wb1.int tob1 1
          refine c_get (k := 1) C ck_3 dX7_take_36 w4_51 (by decide) tob1 rfl rfl (by decide) rfl ?_
          refine c_if_le (tgt := 52) C (r32_c (lo := 0) (hi := 200) ri4.1 ri4.2 (by decide) (by decide)) dX7_take_39 (by decide) (fun c2 => ?_) (fun c2 => ?_)
          · refine c_iconst C dX7_take_52 ?_
            refine c_isub C dX7_take_53 ?_
            refine c_istore (lv2 := [(8, .int (iI (w1 - 0))), (7, .ref ob1), (5, .int (iI fr)), (6, .int (iI tn)), (0, .ref a0), (1, .ref a1), (2, .int (iI x)), (3, .int (iI w1)), (4, .int (iI h1))]) C dX7_take_54 (by decide) rfl ?_
            refine c_aload_n (j := 5) (x := a1) C dX7_take_56 rfl ?_
            refine hv2 (Xb1.ty t_a1) (show ivb1 a1 7 = iv a1 7 from Fb1.i t_a1 rfl 7) (fun ty3 ie4 => ?_)
            have ri5 : 0 ≤ ivb1 a1 7 ∧ ivb1 a1 7 ≤ 100000 := Wb1.int ty3 7
            refine c_get (k := 7) C ck_7 dX7_take_57 w1_148 (by decide) ty3 rfl rfl (by decide) rfl ?_
            refine c_iload (j := 2) C dX7_take_60 rfl ?_
            refine c_isub C dX7_take_62 ?_
            refine c_iload (j := 0) C dX7_take_63 rfl ?_
            refine c_icmp_gt (tgt := 82) C ⟨by omega, by omega⟩ ⟨by omega, by omega⟩ dX7_take_65 (by decide) (fun c3 => ?_) (fun c3 => ?_)
            · refine c_aload_n (j := 5) (x := a1) C dX7_take_82 rfl ?_
              refine c_iload_n (j := 6) C dX7_take_83 rfl ?_
              refine c_iload (j := 2) C dX7_take_84 rfl ?_
              refine c_iload (j := 0) C dX7_take_86 rfl ?_
              refine c_iconst C dX7_take_88 ?_
              refine c_isub C dX7_take_89 ?_
              refine d_callV (As := [.int (iI x), .int (iI fr), .int (iI ((w1 - 0) - 1))]) (rest := []) C hM (G_lastBreak (a0 := a1) (x := x) (i := fr) (n := (w1 - 0) - 1) Wb1 skb1 ty3 (by omega) (by omega) (by omega) (by show 0 ≤ fr; omega)) dX7_take_90 kV_X7_46 rfl ty3 rfl rfl (by decide) ck_7 rfl (Nat.le_of_ble_eq_true rfl) ⟨(Nat.le_of_ble_eq_true rfl), (Nat.le_of_ble_eq_true rfl)⟩ hph pl2 (show 0 + 0 = 0 from rfl) (by decide) (fun rh2 Lh2 clh2 lnh2 ivh2 rvh2 h2 => ?_)
              obtain ⟨f2, rfl, rfl, rfl, rfl, rfl, rfl, rgf2, exf2⟩ := h2
              refine c_st (st2 := [.int (iI f2)]) rfl ?_
              have gf2 : fr ≤ f2 ∧ LBX ivb1 rvb1 a1 x fr ((w1 - 0) - 1) f2 := exf2
              refine c_istore (lv2 := [(9, .int (iI f2)), (8, .int (iI (w1 - 0))), (7, .ref ob1), (5, .int (iI fr)), (6, .int (iI tn)), (0, .ref a0), (1, .ref a1), (2, .int (iI x)), (3, .int (iI w1)), (4, .int (iI h1))]) C dX7_take_93 (by decide) rfl ?_
              refine c_iload (j := 0) C dX7_take_95 rfl ?_
              refine c_iload (j := 3) C dX7_take_97 rfl ?_
              refine c_icmp_le (tgt := 126) C ⟨by omega, by omega⟩ (r32_c (lo := 0) (hi := 2147483647) hfr.1 hfr.2 (by decide) (by decide)) dX7_take_99 (by decide) (fun c4 => ?_) (fun c4 => ?_)
              · refine c_aload (j := 2) (x := ob1) C dX7_take_126 rfl ?_
                refine c_get (k := 1) C ck_3 dX7_take_128 w4_51 (by decide) tob1 rfl rfl (by decide) rfl ?_
                refine c_if_ne (tgt := 148) C (r32_c (lo := 0) (hi := 200) ri4.1 ri4.2 (by decide) (by decide)) dX7_take_131 (by decide) (fun c5 => ?_) (fun c5 => ?_)
                · have tm : TKM L cl iv rv ivb1 rvb1 a0 a1 x w1 h1 fr tn := TKJ.next (m := ivb1 a1 7) (z := w1 - 0) hT Xb1 hW Fb1 t_a1 gf1 rfl (by omega) ⟨by omega, by omega⟩ (by omega) (by omega) gf2.2 (by omega) (by omega)
                  refine c_aload_n (j := 5) (x := a0) C dX7_take_148 rfl ?_
                  have ri6 : (-2147483648) ≤ ivb1 a0 2 ∧ ivb1 a0 2 ≤ 2147483647 := Wb1.int ty2 2
                  refine d_callV (As := []) (rest := []) C hM (G_begin (a0 := a0) Wb1 skb1 ty2  ) dX7_take_149 kV_X7_54 rfl ty2 rfl rfl (by decide) ck_8 rfl (Nat.le_of_ble_eq_true rfl) ⟨(Nat.le_of_ble_eq_true rfl), (Nat.le_of_ble_eq_true rfl)⟩ hph pl2 (show 0 + 0 = 0 from rfl) (by decide) (fun rh3 Lh3 clh3 lnh3 ivh3 rvh3 h3 => ?_)
                  obtain ⟨f3, rfl, xl3, fl3, W3, rgf3, exf3⟩ := h3
                  refine hv3 (Fb1.call Xb1 fl3 rfl) (Xb1.trans xl3) (xl3.skl skb1) (fun F1 X1 sk1 => ?_)
                  refine c_st (st2 := [.int (iI f3)]) rfl ?_
                  refine hv2 (xl3.ty ty2) (show ((f3 = 0 ∧ ivh3 a0 1 = ivb1 a0 1) ∨ (f3 = 1 ∧ ivh3 a0 1 = ivb1 a0 1 + 1)) ∧ ivh3 a0 2 = ivb1 a0 2 ∧ BEX Lb1 clb1 ivb1 rvb1 ivh3 rvh3 a0 f3 from exf3) (fun ty4 gf3 => ?_)
                  refine hv2 (show 0 ≤ ivh3 a0 1 ∧ ivh3 a0 1 ≤ 200 from W3.int ty4 1) (show (-2147483648) ≤ ivh3 a0 2 ∧ ivh3 a0 2 ≤ 2147483647 from W3.int ty4 2) (fun ri7 ri8 => ?_)
                  refine c_if_ne (tgt := 157) C (r32_pq gf3.1) dX7_take_152 (by decide) (fun c6 => ?_) (fun c6 => ?_)
                  · replace gf3 := (And.intro (gf3.1.resolve_left (fun q => c6 q.1)) gf3.2)
                    refine c_iinc (z := tn) (j := 4) (lv2 := [(6, .int (iI (tn + 1))), (9, .int (iI f2)), (8, .int (iI (w1 - 0))), (7, .ref ob1), (5, .int (iI fr)), (0, .ref a0), (1, .ref a1), (2, .int (iI x)), (3, .int (iI w1)), (4, .int (iI h1))]) C dX7_take_157 rfl (by decide) rfl ?_
                    refine c_goto (tgt := 6) C dX7_take_160 (by decide) ?_
                    refine c_lv (lv2 := [(5, .int (iI fr)), (6, .int (iI (tn + 1))), (0, .ref a0), (1, .ref a1), (2, .int (iI x)), (3, .int (iI w1)), (4, .int (iI h1))]) [4, 0, 5, 6, 7, 8, 9] rfl ?_
                    exact ih1  fr (tn + 1) _ _ _ _ _ (by omega) X1 W3 F1  (by omega) (by omega) (gf3.2.1.trans hb2) (tm.go Xb1 gf3.2.2 (by omega))
                  · replace gf3 := (And.intro (gf3.1.resolve_right (fun q => absurd (q.1.symm.trans c6) (by decide))) gf3.2)
                    refine c_iconst C dX7_take_155 ?_
                    have pl3 := Phi.le W3 sk1
                    exact c_zret C dX7_take_156 rfl (Or.inl rfl) (by decide) (rom0 hph pl3 (by decide)) ⟨0, rfl, X1, F1, W3, (Or.inl rfl), ⟨by omega, tm.full Xb1 gf3.2.2 (by omega) rfl⟩⟩
                · refine c_aload (j := 2) (x := ob1) C dX7_take_134 rfl ?_
                  refine c_aload_n (j := 6) (x := a1) C dX7_take_136 rfl ?_
                  refine c_iload (j := 3) C dX7_take_137 rfl ?_
                  refine c_aload_n (j := 6) (x := a1) C dX7_take_139 rfl ?_
                  refine c_get (k := 7) C ck_7 dX7_take_140 w1_148 (by decide) ty3 rfl rfl (by decide) rfl ?_
                  have ri9 : 0 ≤ ivb1 ob1 2 ∧ ivb1 ob1 2 ≤ 1 := Wb1.int tob1 2
                  refine d_callV (As := [.ref a1, .int (iI fr), .int (iI (ivb1 a1 7))]) (rest := []) C hM (G_addPart (a0 := ob1) (a1 := a1) (i := fr) (j := ivb1 a1 7) Wb1 skb1 tob1 ty3 (by omega) (by omega) (by show 0 ≤ fr; omega)) dX7_take_143 kV_X7_42 rfl tob1 rfl rfl (by decide) ck_3 rfl (Nat.le_of_ble_eq_true rfl) ⟨(Nat.le_of_ble_eq_true rfl), (Nat.le_of_ble_eq_true rfl)⟩ hph pl2 (show 0 + 0 = 0 from rfl) (by decide) (fun rh4 Lh4 clh4 lnh4 ivh4 rvh4 h4 => ?_)
                  obtain ⟨rfl, rfl, rfl, rfl, rfl, fl4, W4, exf4⟩ := h4
                  have F2 := Fb1.call Xb1 fl4 rfl
                  refine c_st (st2 := []) rfl ?_
                  refine hv2 (show 0 ≤ ivh4 ob1 2 ∧ ivh4 ob1 2 ≤ 1 from W4.int tob1 2) (show (LFR Lb1 clb1 ivb1 rvb1 ivh4 ob1 ∧ ivh4 ob1 2 = ivb1 ob1 2) ∧ APX ivb1 rvb1 ivh4 ob1 a1 fr (ivb1 a1 7) from exf4) (fun ri10 gf4 => ?_)
                  refine c_iconst C dX7_take_146 ?_
                  refine hv2 (show (-2147483648) ≤ ivh4 a0 2 ∧ ivh4 a0 2 ≤ 2147483647 from W4.int ty2 2) (show ivh4 a0 2 = ivb1 a0 2 from fl4.i ty2 rfl 2) (fun ri11 ie10 => ?_)
                  exact c_zret C dX7_take_147 rfl (Or.inr rfl) (by decide) (rom0 hph pl2 (by decide)) ⟨1, rfl, Xb1, F2, W4, (Or.inr rfl), ⟨by omega, TKJ.add (z := w1 - 0) hT Xb1 hW Wb1 Fb1 t_a0 t_a1 gf1 gf4.1.1 fl4 gf4.1.2 gf4.2 rfl (by omega) ⟨by omega, by omega⟩ (by omega) (by omega) (Or.inr ⟨by omega, gf2.2, by omega⟩) rfl⟩⟩
              · refine c_aload (j := 2) (x := ob1) C dX7_take_102 rfl ?_
                refine c_aload_n (j := 6) (x := a1) C dX7_take_104 rfl ?_
                refine c_iload (j := 3) C dX7_take_105 rfl ?_
                refine c_iload (j := 0) C dX7_take_107 rfl ?_
                have ri12 : 0 ≤ ivb1 ob1 2 ∧ ivb1 ob1 2 ≤ 1 := Wb1.int tob1 2
                refine d_callV (As := [.ref a1, .int (iI fr), .int (iI f2)]) (rest := []) C hM (G_addPart (a0 := ob1) (a1 := a1) (i := fr) (j := f2) Wb1 skb1 tob1 ty3 (by omega) (by omega) (by show 0 ≤ fr; omega)) dX7_take_109 kV_X7_42 rfl tob1 rfl rfl (by decide) ck_3 rfl (Nat.le_of_ble_eq_true rfl) ⟨(Nat.le_of_ble_eq_true rfl), (Nat.le_of_ble_eq_true rfl)⟩ hph pl2 (show 0 + 0 = 0 from rfl) (by decide) (fun rh5 Lh5 clh5 lnh5 ivh5 rvh5 h5 => ?_)
                obtain ⟨rfl, rfl, rfl, rfl, rfl, fl5, W5, exf5⟩ := h5
                have F3 := Fb1.call Xb1 fl5 rfl
                refine c_st (st2 := []) rfl ?_
                refine hv2 (show 0 ≤ ivh5 ob1 2 ∧ ivh5 ob1 2 ≤ 1 from W5.int tob1 2) (show (LFR Lb1 clb1 ivb1 rvb1 ivh5 ob1 ∧ ivh5 ob1 2 = ivb1 ob1 2) ∧ APX ivb1 rvb1 ivh5 ob1 a1 fr f2 from exf5) (fun ri13 gf5 => ?_)
                refine c_aload (j := 2) (x := ob1) C dX7_take_112 rfl ?_
                refine c_iload (j := 9) C dX7_take_114 rfl ?_
                have ri14 : 0 ≤ ivh5 ob1 1 ∧ ivh5 ob1 1 ≤ 200 := W5.int tob1 1
                refine d_callV (As := [.int (iI h1)]) (rest := []) C hM (G_ladd (a0 := ob1) (x := h1) W5 skb1 tob1 (by omega) ) dX7_take_116 kV_X7_50 rfl tob1 rfl rfl (by decide) ck_3 rfl (Nat.le_of_ble_eq_true rfl) ⟨(Nat.le_of_ble_eq_true rfl), (Nat.le_of_ble_eq_true rfl)⟩ hph pl2 (show 0 + 0 = 0 from rfl) (by decide) (fun rh6 Lh6 clh6 lnh6 ivh6 rvh6 h6 => ?_)
                obtain ⟨rfl, rfl, rfl, rfl, rfl, fl6, W6, exf6⟩ := h6
                have F4 := F3.call Xb1 fl6 rfl
                refine c_st (st2 := []) rfl ?_
                refine hv3 (show 0 ≤ ivh6 ob1 1 ∧ ivh6 ob1 1 ≤ 200 from W6.int tob1 1) (show 0 ≤ ivh6 ob1 2 ∧ ivh6 ob1 2 ≤ 1 from W6.int tob1 2) (show ((ivh6 ob1 1 = ivh5 ob1 1 ∧ ivh5 ob1 1 = 200) ∨ ivh6 ob1 1 = ivh5 ob1 1 + 1) ∧ (LFR Lb1 clb1 ivh5 rvb1 ivh6 ob1 ∧ ivh6 ob1 2 = ivh5 ob1 2) ∧ LAX ivh5 rvb1 ivh6 ob1 h1 from exf6) (fun ri15 ri16 gf6 => ?_)
                refine c_iload (j := 0) C dX7_take_119 rfl ?_
                refine c_istore (lv2 := [(5, .int (iI f2)), (9, .int (iI f2)), (8, .int (iI (w1 - 0))), (7, .ref ob1), (6, .int (iI tn)), (0, .ref a0), (1, .ref a1), (2, .int (iI x)), (3, .int (iI w1)), (4, .int (iI h1))]) C dX7_take_121 (by decide) rfl ?_
                refine c_goto (tgt := 148) C dX7_take_123 (by decide) ?_
                have tm : TKM L cl iv rv ivh6 rvb1 a0 a1 x w1 h1 f2 tn := TKJ.part (m := ivb1 a1 7) (z := w1 - 0) hT Xb1 hW Wb1 Fb1 t_a0 t_a1 gf1 gf5.1.1 fl5 gf5.1.2 gf5.2 gf6.2.1.1 fl6 gf6.2.1.2 gf6.2.2 rfl (by omega) ⟨by omega, by omega⟩ (by omega) (by omega) (by omega) gf2.2 (by omega)
                refine c_aload_n (j := 5) (x := a0) C dX7_take_148 rfl ?_
                refine hv6 (show 0 ≤ ivh6 a0 1 ∧ ivh6 a0 1 ≤ 200 from W6.int ty2 1) (show ivh6 a0 1 = ivh5 a0 1 from fl6.i ty2 rfl 1) (show ivh5 a0 1 = ivb1 a0 1 from fl5.i ty2 rfl 1) (show (-2147483648) ≤ ivh6 a0 2 ∧ ivh6 a0 2 ≤ 2147483647 from W6.int ty2 2) (show ivh6 a0 2 = ivh5 a0 2 from fl6.i ty2 rfl 2) (show ivh5 a0 2 = ivb1 a0 2 from fl5.i ty2 rfl 2) (fun ri17 ie17 ie18 ri18 ie19 ie20 => ?_)
                refine d_callV (As := []) (rest := []) C hM (G_begin (a0 := a0) W6 skb1 ty2  ) dX7_take_149 kV_X7_54 rfl ty2 rfl rfl (by decide) ck_8 rfl (Nat.le_of_ble_eq_true rfl) ⟨(Nat.le_of_ble_eq_true rfl), (Nat.le_of_ble_eq_true rfl)⟩ hph pl2 (show 0 + 0 = 0 from rfl) (by decide) (fun rh7 Lh7 clh7 lnh7 ivh7 rvh7 h7 => ?_)
                obtain ⟨f7, rfl, xl7, fl7, W7, rgf7, exf7⟩ := h7
                refine hv3 (F4.call Xb1 fl7 rfl) (Xb1.trans xl7) (xl7.skl skb1) (fun F5 X2 sk2 => ?_)
                refine c_st (st2 := [.int (iI f7)]) rfl ?_
                refine hv2 (xl7.ty ty2) (show ((f7 = 0 ∧ ivh7 a0 1 = ivh6 a0 1) ∨ (f7 = 1 ∧ ivh7 a0 1 = ivh6 a0 1 + 1)) ∧ ivh7 a0 2 = ivh6 a0 2 ∧ BEX Lb1 clb1 ivh6 rvb1 ivh7 rvh7 a0 f7 from exf7) (fun ty5 gf7 => ?_)
                refine hv2 (show 0 ≤ ivh7 a0 1 ∧ ivh7 a0 1 ≤ 200 from W7.int ty5 1) (show (-2147483648) ≤ ivh7 a0 2 ∧ ivh7 a0 2 ≤ 2147483647 from W7.int ty5 2) (fun ri19 ri20 => ?_)
                refine c_if_ne (tgt := 157) C (r32_pq gf7.1) dX7_take_152 (by decide) (fun c7 => ?_) (fun c7 => ?_)
                · replace gf7 := (And.intro (gf7.1.resolve_left (fun q => c7 q.1)) gf7.2)
                  refine c_iinc (z := tn) (j := 4) (lv2 := [(6, .int (iI (tn + 1))), (5, .int (iI f2)), (9, .int (iI f2)), (8, .int (iI (w1 - 0))), (7, .ref ob1), (0, .ref a0), (1, .ref a1), (2, .int (iI x)), (3, .int (iI w1)), (4, .int (iI h1))]) C dX7_take_157 rfl (by decide) rfl ?_
                  refine c_goto (tgt := 6) C dX7_take_160 (by decide) ?_
                  refine c_lv (lv2 := [(5, .int (iI f2)), (6, .int (iI (tn + 1))), (0, .ref a0), (1, .ref a1), (2, .int (iI x)), (3, .int (iI w1)), (4, .int (iI h1))]) [1, 0, 5, 6, 7, 8, 9] rfl ?_
                  exact ih1  f2 (tn + 1) _ _ _ _ _ (by omega) X2 W7 F5  (by omega) (by omega) (gf7.2.1.trans (ie19.trans (ie20.trans hb2))) (tm.go Xb1 gf7.2.2 (by omega))
                · replace gf7 := (And.intro (gf7.1.resolve_right (fun q => absurd (q.1.symm.trans c7) (by decide))) gf7.2)
                  refine c_iconst C dX7_take_155 ?_
                  have pl4 := Phi.le W7 sk2
                  exact c_zret C dX7_take_156 rfl (Or.inl rfl) (by decide) (rom0 hph pl4 (by decide)) ⟨0, rfl, X2, F5, W7, (Or.inl rfl), ⟨by omega, tm.full Xb1 gf7.2.2 (by omega) rfl⟩⟩
            · refine c_aload (j := 1) (x := ob1) C dX7_take_68 rfl ?_
              refine c_aload_n (j := 5) (x := a1) C dX7_take_70 rfl ?_
              refine c_iload (j := 2) C dX7_take_71 rfl ?_
              refine c_aload_n (j := 5) (x := a1) C dX7_take_73 rfl ?_
              refine c_get (k := 7) C ck_7 dX7_take_74 w1_148 (by decide) ty3 rfl rfl (by decide) rfl ?_
              have ri21 : 0 ≤ ivb1 ob1 2 ∧ ivb1 ob1 2 ≤ 1 := Wb1.int tob1 2
              refine d_callV (As := [.ref a1, .int (iI fr), .int (iI (ivb1 a1 7))]) (rest := []) C hM (G_addPart (a0 := ob1) (a1 := a1) (i := fr) (j := ivb1 a1 7) Wb1 skb1 tob1 ty3 (by omega) (by omega) (by show 0 ≤ fr; omega)) dX7_take_77 kV_X7_42 rfl tob1 rfl rfl (by decide) ck_3 rfl (Nat.le_of_ble_eq_true rfl) ⟨(Nat.le_of_ble_eq_true rfl), (Nat.le_of_ble_eq_true rfl)⟩ hph pl2 (show 0 + 0 = 0 from rfl) (by decide) (fun rh8 Lh8 clh8 lnh8 ivh8 rvh8 h8 => ?_)
              obtain ⟨rfl, rfl, rfl, rfl, rfl, fl8, W8, exf8⟩ := h8
              have F6 := Fb1.call Xb1 fl8 rfl
              refine c_st (st2 := []) rfl ?_
              refine hv2 (show 0 ≤ ivh8 ob1 2 ∧ ivh8 ob1 2 ≤ 1 from W8.int tob1 2) (show (LFR Lb1 clb1 ivb1 rvb1 ivh8 ob1 ∧ ivh8 ob1 2 = ivb1 ob1 2) ∧ APX ivb1 rvb1 ivh8 ob1 a1 fr (ivb1 a1 7) from exf8) (fun ri22 gf8 => ?_)
              refine c_iconst C dX7_take_80 ?_
              refine hv2 (show (-2147483648) ≤ ivh8 a0 2 ∧ ivh8 a0 2 ≤ 2147483647 from W8.int ty2 2) (show ivh8 a0 2 = ivb1 a0 2 from fl8.i ty2 rfl 2) (fun ri23 ie26 => ?_)
              exact c_zret C dX7_take_81 rfl (Or.inr rfl) (by decide) (rom0 hph pl2 (by decide)) ⟨1, rfl, Xb1, F6, W8, (Or.inr rfl), ⟨by omega, TKJ.add (x := 0) (z := w1 - 0) hT Xb1 hW Wb1 Fb1 t_a0 t_a1 gf1 gf8.1.1 fl8 gf8.1.2 gf8.2 rfl (by omega) ⟨by omega, by omega⟩ (by omega) (by omega) (Or.inl (by omega)) rfl⟩⟩
          · refine c_aload (j := 0) (x := ob1) C dX7_take_42 rfl ?_
            refine c_get (k := 1) C ck_3 dX7_take_44 w4_51 (by decide) tob1 rfl rfl (by decide) rfl ?_
            refine c_iconst C dX7_take_47 ?_
            refine c_iadd C dX7_take_48 ?_
            refine c_goto (tgt := 53) C dX7_take_49 (by decide) ?_
            refine c_isub C dX7_take_53 ?_
            refine c_istore (lv2 := [(8, .int (iI (w1 - ((ivb1 ob1 1) + 1)))), (7, .ref ob1), (5, .int (iI fr)), (6, .int (iI tn)), (0, .ref a0), (1, .ref a1), (2, .int (iI x)), (3, .int (iI w1)), (4, .int (iI h1))]) C dX7_take_54 (by decide) rfl ?_
            refine c_aload_n (j := 5) (x := a1) C dX7_take_56 rfl ?_
            refine hv2 (Xb1.ty t_a1) (show ivb1 a1 7 = iv a1 7 from Fb1.i t_a1 rfl 7) (fun ty6 ie28 => ?_)
            have ri24 : 0 ≤ ivb1 a1 7 ∧ ivb1 a1 7 ≤ 100000 := Wb1.int ty6 7
            refine c_get (k := 7) C ck_7 dX7_take_57 w1_148 (by decide) ty6 rfl rfl (by decide) rfl ?_
            refine c_iload (j := 2) C dX7_take_60 rfl ?_
            refine c_isub C dX7_take_62 ?_
            refine c_iload (j := 0) C dX7_take_63 rfl ?_
            refine c_icmp_gt (tgt := 82) C ⟨by omega, by omega⟩ ⟨by omega, by omega⟩ dX7_take_65 (by decide) (fun c8 => ?_) (fun c8 => ?_)
            · refine c_aload_n (j := 5) (x := a1) C dX7_take_82 rfl ?_
              refine c_iload_n (j := 6) C dX7_take_83 rfl ?_
              refine c_iload (j := 2) C dX7_take_84 rfl ?_
              refine c_iload (j := 0) C dX7_take_86 rfl ?_
              refine c_iconst C dX7_take_88 ?_
              refine c_isub C dX7_take_89 ?_
              refine d_callV (As := [.int (iI x), .int (iI fr), .int (iI ((w1 - ((ivb1 ob1 1) + 1)) - 1))]) (rest := []) C hM (G_lastBreak (a0 := a1) (x := x) (i := fr) (n := (w1 - ((ivb1 ob1 1) + 1)) - 1) Wb1 skb1 ty6 (by omega) (by omega) (by omega) (by show 0 ≤ fr; omega)) dX7_take_90 kV_X7_46 rfl ty6 rfl rfl (by decide) ck_7 rfl (Nat.le_of_ble_eq_true rfl) ⟨(Nat.le_of_ble_eq_true rfl), (Nat.le_of_ble_eq_true rfl)⟩ hph pl2 (show 0 + 0 = 0 from rfl) (by decide) (fun rh9 Lh9 clh9 lnh9 ivh9 rvh9 h9 => ?_)
              obtain ⟨f9, rfl, rfl, rfl, rfl, rfl, rfl, rgf9, exf9⟩ := h9
              refine c_st (st2 := [.int (iI f9)]) rfl ?_
              have gf9 : fr ≤ f9 ∧ LBX ivb1 rvb1 a1 x fr ((w1 - ((ivb1 ob1 1) + 1)) - 1) f9 := exf9
              refine c_istore (lv2 := [(9, .int (iI f9)), (8, .int (iI (w1 - ((ivb1 ob1 1) + 1)))), (7, .ref ob1), (5, .int (iI fr)), (6, .int (iI tn)), (0, .ref a0), (1, .ref a1), (2, .int (iI x)), (3, .int (iI w1)), (4, .int (iI h1))]) C dX7_take_93 (by decide) rfl ?_
              refine c_iload (j := 0) C dX7_take_95 rfl ?_
              refine c_iload (j := 3) C dX7_take_97 rfl ?_
              refine c_icmp_le (tgt := 126) C ⟨by omega, by omega⟩ (r32_c (lo := 0) (hi := 2147483647) hfr.1 hfr.2 (by decide) (by decide)) dX7_take_99 (by decide) (fun c9 => ?_) (fun c9 => ?_)
              · refine c_aload (j := 2) (x := ob1) C dX7_take_126 rfl ?_
                refine c_get (k := 1) C ck_3 dX7_take_128 w4_51 (by decide) tob1 rfl rfl (by decide) rfl ?_
                refine c_if_ne (tgt := 148) C (r32_c (lo := 0) (hi := 200) ri4.1 ri4.2 (by decide) (by decide)) dX7_take_131 (by decide) (fun _ => ?_) (fun z => absurd z (by omega))
                have tm : TKM L cl iv rv ivb1 rvb1 a0 a1 x w1 h1 fr tn := TKJ.next (m := ivb1 a1 7) (z := w1 - ((ivb1 ob1 1) + 1)) hT Xb1 hW Fb1 t_a1 gf1 rfl (by omega) ⟨by omega, by omega⟩ (by omega) (by omega) gf9.2 (by omega) (by omega)
                refine c_aload_n (j := 5) (x := a0) C dX7_take_148 rfl ?_
                have ri25 : (-2147483648) ≤ ivb1 a0 2 ∧ ivb1 a0 2 ≤ 2147483647 := Wb1.int ty2 2
                refine d_callV (As := []) (rest := []) C hM (G_begin (a0 := a0) Wb1 skb1 ty2  ) dX7_take_149 kV_X7_54 rfl ty2 rfl rfl (by decide) ck_8 rfl (Nat.le_of_ble_eq_true rfl) ⟨(Nat.le_of_ble_eq_true rfl), (Nat.le_of_ble_eq_true rfl)⟩ hph pl2 (show 0 + 0 = 0 from rfl) (by decide) (fun rh10 Lh10 clh10 lnh10 ivh10 rvh10 h10 => ?_)
                obtain ⟨f10, rfl, xl10, fl10, W10, rgf10, exf10⟩ := h10
                refine hv3 (Fb1.call Xb1 fl10 rfl) (Xb1.trans xl10) (xl10.skl skb1) (fun F7 X3 sk3 => ?_)
                refine c_st (st2 := [.int (iI f10)]) rfl ?_
                refine hv2 (xl10.ty ty2) (show ((f10 = 0 ∧ ivh10 a0 1 = ivb1 a0 1) ∨ (f10 = 1 ∧ ivh10 a0 1 = ivb1 a0 1 + 1)) ∧ ivh10 a0 2 = ivb1 a0 2 ∧ BEX Lb1 clb1 ivb1 rvb1 ivh10 rvh10 a0 f10 from exf10) (fun ty7 gf10 => ?_)
                refine hv2 (show 0 ≤ ivh10 a0 1 ∧ ivh10 a0 1 ≤ 200 from W10.int ty7 1) (show (-2147483648) ≤ ivh10 a0 2 ∧ ivh10 a0 2 ≤ 2147483647 from W10.int ty7 2) (fun ri26 ri27 => ?_)
                refine c_if_ne (tgt := 157) C (r32_pq gf10.1) dX7_take_152 (by decide) (fun c10 => ?_) (fun c10 => ?_)
                · replace gf10 := (And.intro (gf10.1.resolve_left (fun q => c10 q.1)) gf10.2)
                  refine c_iinc (z := tn) (j := 4) (lv2 := [(6, .int (iI (tn + 1))), (9, .int (iI f9)), (8, .int (iI (w1 - ((ivb1 ob1 1) + 1)))), (7, .ref ob1), (5, .int (iI fr)), (0, .ref a0), (1, .ref a1), (2, .int (iI x)), (3, .int (iI w1)), (4, .int (iI h1))]) C dX7_take_157 rfl (by decide) rfl ?_
                  refine c_goto (tgt := 6) C dX7_take_160 (by decide) ?_
                  refine c_lv (lv2 := [(5, .int (iI fr)), (6, .int (iI (tn + 1))), (0, .ref a0), (1, .ref a1), (2, .int (iI x)), (3, .int (iI w1)), (4, .int (iI h1))]) [4, 0, 5, 6, 7, 8, 9] rfl ?_
                  exact ih1  fr (tn + 1) _ _ _ _ _ (by omega) X3 W10 F7  (by omega) (by omega) (gf10.2.1.trans hb2) (tm.go Xb1 gf10.2.2 (by omega))
                · replace gf10 := (And.intro (gf10.1.resolve_right (fun q => absurd (q.1.symm.trans c10) (by decide))) gf10.2)
                  refine c_iconst C dX7_take_155 ?_
                  have pl5 := Phi.le W10 sk3
                  exact c_zret C dX7_take_156 rfl (Or.inl rfl) (by decide) (rom0 hph pl5 (by decide)) ⟨0, rfl, X3, F7, W10, (Or.inl rfl), ⟨by omega, tm.full Xb1 gf10.2.2 (by omega) rfl⟩⟩
              · refine c_aload (j := 2) (x := ob1) C dX7_take_102 rfl ?_
                refine c_aload_n (j := 6) (x := a1) C dX7_take_104 rfl ?_
                refine c_iload (j := 3) C dX7_take_105 rfl ?_
                refine c_iload (j := 0) C dX7_take_107 rfl ?_
                have ri28 : 0 ≤ ivb1 ob1 2 ∧ ivb1 ob1 2 ≤ 1 := Wb1.int tob1 2
                refine d_callV (As := [.ref a1, .int (iI fr), .int (iI f9)]) (rest := []) C hM (G_addPart (a0 := ob1) (a1 := a1) (i := fr) (j := f9) Wb1 skb1 tob1 ty6 (by omega) (by omega) (by show 0 ≤ fr; omega)) dX7_take_109 kV_X7_42 rfl tob1 rfl rfl (by decide) ck_3 rfl (Nat.le_of_ble_eq_true rfl) ⟨(Nat.le_of_ble_eq_true rfl), (Nat.le_of_ble_eq_true rfl)⟩ hph pl2 (show 0 + 0 = 0 from rfl) (by decide) (fun rh11 Lh11 clh11 lnh11 ivh11 rvh11 h11 => ?_)
                obtain ⟨rfl, rfl, rfl, rfl, rfl, fl11, W11, exf11⟩ := h11
                have F8 := Fb1.call Xb1 fl11 rfl
                refine c_st (st2 := []) rfl ?_
                refine hv2 (show 0 ≤ ivh11 ob1 2 ∧ ivh11 ob1 2 ≤ 1 from W11.int tob1 2) (show (LFR Lb1 clb1 ivb1 rvb1 ivh11 ob1 ∧ ivh11 ob1 2 = ivb1 ob1 2) ∧ APX ivb1 rvb1 ivh11 ob1 a1 fr f9 from exf11) (fun ri29 gf11 => ?_)
                refine c_aload (j := 2) (x := ob1) C dX7_take_112 rfl ?_
                refine c_iload (j := 9) C dX7_take_114 rfl ?_
                have ri30 : 0 ≤ ivh11 ob1 1 ∧ ivh11 ob1 1 ≤ 200 := W11.int tob1 1
                refine d_callV (As := [.int (iI h1)]) (rest := []) C hM (G_ladd (a0 := ob1) (x := h1) W11 skb1 tob1 (by omega) ) dX7_take_116 kV_X7_50 rfl tob1 rfl rfl (by decide) ck_3 rfl (Nat.le_of_ble_eq_true rfl) ⟨(Nat.le_of_ble_eq_true rfl), (Nat.le_of_ble_eq_true rfl)⟩ hph pl2 (show 0 + 0 = 0 from rfl) (by decide) (fun rh12 Lh12 clh12 lnh12 ivh12 rvh12 h12 => ?_)
                obtain ⟨rfl, rfl, rfl, rfl, rfl, fl12, W12, exf12⟩ := h12
                have F9 := F8.call Xb1 fl12 rfl
                refine c_st (st2 := []) rfl ?_
                refine hv3 (show 0 ≤ ivh12 ob1 1 ∧ ivh12 ob1 1 ≤ 200 from W12.int tob1 1) (show 0 ≤ ivh12 ob1 2 ∧ ivh12 ob1 2 ≤ 1 from W12.int tob1 2) (show ((ivh12 ob1 1 = ivh11 ob1 1 ∧ ivh11 ob1 1 = 200) ∨ ivh12 ob1 1 = ivh11 ob1 1 + 1) ∧ (LFR Lb1 clb1 ivh11 rvb1 ivh12 ob1 ∧ ivh12 ob1 2 = ivh11 ob1 2) ∧ LAX ivh11 rvb1 ivh12 ob1 h1 from exf12) (fun ri31 ri32 gf12 => ?_)
                refine c_iload (j := 0) C dX7_take_119 rfl ?_
                refine c_istore (lv2 := [(5, .int (iI f9)), (9, .int (iI f9)), (8, .int (iI (w1 - ((ivb1 ob1 1) + 1)))), (7, .ref ob1), (6, .int (iI tn)), (0, .ref a0), (1, .ref a1), (2, .int (iI x)), (3, .int (iI w1)), (4, .int (iI h1))]) C dX7_take_121 (by decide) rfl ?_
                refine c_goto (tgt := 148) C dX7_take_123 (by decide) ?_
                have tm : TKM L cl iv rv ivh12 rvb1 a0 a1 x w1 h1 f9 tn := TKJ.part (m := ivb1 a1 7) (z := w1 - ((ivb1 ob1 1) + 1)) hT Xb1 hW Wb1 Fb1 t_a0 t_a1 gf1 gf11.1.1 fl11 gf11.1.2 gf11.2 gf12.2.1.1 fl12 gf12.2.1.2 gf12.2.2 rfl (by omega) ⟨by omega, by omega⟩ (by omega) (by omega) (by omega) gf9.2 (by omega)
                refine c_aload_n (j := 5) (x := a0) C dX7_take_148 rfl ?_
                refine hv6 (show 0 ≤ ivh12 a0 1 ∧ ivh12 a0 1 ≤ 200 from W12.int ty2 1) (show ivh12 a0 1 = ivh11 a0 1 from fl12.i ty2 rfl 1) (show ivh11 a0 1 = ivb1 a0 1 from fl11.i ty2 rfl 1) (show (-2147483648) ≤ ivh12 a0 2 ∧ ivh12 a0 2 ≤ 2147483647 from W12.int ty2 2) (show ivh12 a0 2 = ivh11 a0 2 from fl12.i ty2 rfl 2) (show ivh11 a0 2 = ivb1 a0 2 from fl11.i ty2 rfl 2) (fun ri33 ie37 ie38 ri34 ie39 ie40 => ?_)
                refine d_callV (As := []) (rest := []) C hM (G_begin (a0 := a0) W12 skb1 ty2  ) dX7_take_149 kV_X7_54 rfl ty2 rfl rfl (by decide) ck_8 rfl (Nat.le_of_ble_eq_true rfl) ⟨(Nat.le_of_ble_eq_true rfl), (Nat.le_of_ble_eq_true rfl)⟩ hph pl2 (show 0 + 0 = 0 from rfl) (by decide) (fun rh13 Lh13 clh13 lnh13 ivh13 rvh13 h13 => ?_)
                obtain ⟨f13, rfl, xl13, fl13, W13, rgf13, exf13⟩ := h13
                refine hv3 (F9.call Xb1 fl13 rfl) (Xb1.trans xl13) (xl13.skl skb1) (fun F10 X4 sk4 => ?_)
                refine c_st (st2 := [.int (iI f13)]) rfl ?_
                refine hv2 (xl13.ty ty2) (show ((f13 = 0 ∧ ivh13 a0 1 = ivh12 a0 1) ∨ (f13 = 1 ∧ ivh13 a0 1 = ivh12 a0 1 + 1)) ∧ ivh13 a0 2 = ivh12 a0 2 ∧ BEX Lb1 clb1 ivh12 rvb1 ivh13 rvh13 a0 f13 from exf13) (fun ty8 gf13 => ?_)
                refine hv2 (show 0 ≤ ivh13 a0 1 ∧ ivh13 a0 1 ≤ 200 from W13.int ty8 1) (show (-2147483648) ≤ ivh13 a0 2 ∧ ivh13 a0 2 ≤ 2147483647 from W13.int ty8 2) (fun ri35 ri36 => ?_)
                refine c_if_ne (tgt := 157) C (r32_pq gf13.1) dX7_take_152 (by decide) (fun c11 => ?_) (fun c11 => ?_)
                · replace gf13 := (And.intro (gf13.1.resolve_left (fun q => c11 q.1)) gf13.2)
                  refine c_iinc (z := tn) (j := 4) (lv2 := [(6, .int (iI (tn + 1))), (5, .int (iI f9)), (9, .int (iI f9)), (8, .int (iI (w1 - ((ivb1 ob1 1) + 1)))), (7, .ref ob1), (0, .ref a0), (1, .ref a1), (2, .int (iI x)), (3, .int (iI w1)), (4, .int (iI h1))]) C dX7_take_157 rfl (by decide) rfl ?_
                  refine c_goto (tgt := 6) C dX7_take_160 (by decide) ?_
                  refine c_lv (lv2 := [(5, .int (iI f9)), (6, .int (iI (tn + 1))), (0, .ref a0), (1, .ref a1), (2, .int (iI x)), (3, .int (iI w1)), (4, .int (iI h1))]) [1, 0, 5, 6, 7, 8, 9] rfl ?_
                  exact ih1  f9 (tn + 1) _ _ _ _ _ (by omega) X4 W13 F10  (by omega) (by omega) (gf13.2.1.trans (ie39.trans (ie40.trans hb2))) (tm.go Xb1 gf13.2.2 (by omega))
                · replace gf13 := (And.intro (gf13.1.resolve_right (fun q => absurd (q.1.symm.trans c11) (by decide))) gf13.2)
                  refine c_iconst C dX7_take_155 ?_
                  have pl6 := Phi.le W13 sk4
                  exact c_zret C dX7_take_156 rfl (Or.inl rfl) (by decide) (rom0 hph pl6 (by decide)) ⟨0, rfl, X4, F10, W13, (Or.inl rfl), ⟨by omega, tm.full Xb1 gf13.2.2 (by omega) rfl⟩⟩
            · refine c_aload (j := 1) (x := ob1) C dX7_take_68 rfl ?_
              refine c_aload_n (j := 5) (x := a1) C dX7_take_70 rfl ?_
              refine c_iload (j := 2) C dX7_take_71 rfl ?_
              refine c_aload_n (j := 5) (x := a1) C dX7_take_73 rfl ?_
              refine c_get (k := 7) C ck_7 dX7_take_74 w1_148 (by decide) ty6 rfl rfl (by decide) rfl ?_
              have ri37 : 0 ≤ ivb1 ob1 2 ∧ ivb1 ob1 2 ≤ 1 := Wb1.int tob1 2
              refine d_callV (As := [.ref a1, .int (iI fr), .int (iI (ivb1 a1 7))]) (rest := []) C hM (G_addPart (a0 := ob1) (a1 := a1) (i := fr) (j := ivb1 a1 7) Wb1 skb1 tob1 ty6 (by omega) (by omega) (by show 0 ≤ fr; omega)) dX7_take_77 kV_X7_42 rfl tob1 rfl rfl (by decide) ck_3 rfl (Nat.le_of_ble_eq_true rfl) ⟨(Nat.le_of_ble_eq_true rfl), (Nat.le_of_ble_eq_true rfl)⟩ hph pl2 (show 0 + 0 = 0 from rfl) (by decide) (fun rh14 Lh14 clh14 lnh14 ivh14 rvh14 h14 => ?_)
              obtain ⟨rfl, rfl, rfl, rfl, rfl, fl14, W14, exf14⟩ := h14
              have F11 := Fb1.call Xb1 fl14 rfl
              refine c_st (st2 := []) rfl ?_
              refine hv2 (show 0 ≤ ivh14 ob1 2 ∧ ivh14 ob1 2 ≤ 1 from W14.int tob1 2) (show (LFR Lb1 clb1 ivb1 rvb1 ivh14 ob1 ∧ ivh14 ob1 2 = ivb1 ob1 2) ∧ APX ivb1 rvb1 ivh14 ob1 a1 fr (ivb1 a1 7) from exf14) (fun ri38 gf14 => ?_)
              refine c_iconst C dX7_take_80 ?_
              refine hv2 (show (-2147483648) ≤ ivh14 a0 2 ∧ ivh14 a0 2 ≤ 2147483647 from W14.int ty2 2) (show ivh14 a0 2 = ivb1 a0 2 from fl14.i ty2 rfl 2) (fun ri39 ie46 => ?_)
              exact c_zret C dX7_take_81 rfl (Or.inr rfl) (by decide) (rom0 hph pl2 (by decide)) ⟨1, rfl, Xb1, F11, W14, (Or.inr rfl), ⟨by omega, TKJ.add (x := 0) (z := w1 - ((ivb1 ob1 1) + 1)) hT Xb1 hW Wb1 Fb1 t_a0 t_a1 gf1 gf14.1.1 fl14 gf14.1.2 gf14.2 rfl (by omega) ⟨by omega, by omega⟩ (by omega) (by omega) (Or.inl (by omega)) rfl⟩⟩
        · subst oq1
          refine c_lv (lv2 := [(7, .null), (5, .int (iI fr)), (6, .int (iI tn)), (0, .ref a0), (1, .ref a1), (2, .int (iI x)), (3, .int (iI w1)), (4, .int (iI h1))]) [0, 1, 2, 3, 4, 5, 6, 7] rfl ?_
          refine c_st (st2 := []) rfl ?_
          refine c_iconst C dX7_take_31 ?_
          have ri40 : (-2147483648) ≤ ivb1 a0 2 ∧ ivb1 a0 2 ≤ 2147483647 := Wb1.int ty2 2
          exact c_zret C dX7_take_32 rfl (Or.inl rfl) (by decide) (rom0 hph pl2 (by decide)) ⟨0, rfl, Xb1, Fb1, Wb1, (Or.inl rfl), ⟨by omega, hT.nul gf1 rfl⟩⟩
  refine c_lv (lv2 := [(5, .int (iI 0)), (6, .int (iI 0)), (0, .ref a0), (1, .ref a1), (2, .int (iI x)), (3, .int (iI w1)), (4, .int (iI h1))]) [1, 0, 2, 3, 4, 5, 6] rfl ?_
  exact Lp1 204 0 0 _ _ _ _ _ (by omega) hX0 hW hF0  (by omega) (by omega) rfl (TKJ.zero rfl rfl)
set_option maxHeartbeats 4000000 in
set_option maxRecDepth 100000 in
theorem G_endText {l : Launch} {G : GT} {mi : Nat} {sk : Nat → Nat} {L : List Nat} {cl ln : Nat → Nat} {iv : Nat → Nat → Int} {rv : Nat → Nat → Option Nat}  {a0 : Nat} {g : Int} {w1 : Int} (hW : WT (g0 G) sk L cl ln iv rv) (hS : SKL sk L cl) (t_a0 : ty L cl a0 18) (h_g : -2147483648 ≤ g ∧ g ≤ 2147483647) (h_w1 : -2147483648 ≤ w1 ∧ w1 ≤ 2147483647) (hw : 1 ≤ w1 ∧ w1 ≤ 100) : Mc l G mi (Phi (g0 G) sk) PHM yX7_endText cX7_endText 5 none 2 [.ref a0, .int (iI g), .int (iI w1)] L cl ln iv rv 0 (fun v L2 cl2 ln2 iv2 rv2 => v = none ∧ L = L2 ∧ cl = cl2 ∧ ln = ln2 ∧ rv = rv2 ∧ fT [19, 64] L cl iv rv iv2 rv2 ∧ WT (g0 G) sk L2 cl2 ln2 iv2 rv2 ∧ (ENX L cl iv rv iv2 a0 g w1)) := by
  refine Mc.mk (by decide) (Nat.le_of_ble_eq_true rfl) ?_
  intro p e s m args below meth c A C hM
  refine hv5 (Phi.le hW hS) (show XT L cl ln L cl ln from XT.refl) (show fT [19, 64] L cl iv rv iv rv from fT.refl) (show 0 ≤ iv a0 1 ∧ iv a0 1 ≤ 200 from hW.int t_a0 1) (show (-2147483648) ≤ iv a0 2 ∧ iv a0 2 ≤ 2147483647 from hW.int t_a0 2) (fun hph hX0 hF0 ri1 ri2 => ?_)
  refine c_aload_n (j := 0) (x := a0) C dX7_endText_0 rfl ?_
  refine c_get (k := 2) C ck_8 dX7_endText_1 w2_36 (by decide) t_a0 rfl rfl (by decide) rfl ?_
  refine c_istore_n (lv2 := [(3, .int (iI (iv a0 2))), (0, .ref a0), (1, .int (iI g)), (2, .int (iI w1))]) C dX7_endText_4 (by decide) rfl ?_
  have Lp1 : ∀ (nn : Nat) (k : Int) (ivb1 : Nat → Nat → Int) , max 0 (201 - k) < (nn : Int) → WT (g0 G) sk L cl ln ivb1 rv → fT [19, 64] L cl iv rv ivb1 rv → (-2147483648 ≤ k ∧ k ≤ 2147483647) → (iv a0 2 ≤ k) → (g ≠ 0 ∨ k = iv a0 2) → (ENI L cl iv rv ivb1 a0 w1 k) → cw p l e 2 ((PHM) + 0 - ((Phi (g0 G) sk) ln rv)) s m args below meth c G A 5 (MQ below (Qu G A (Qp G (Phi (g0 G) sk) ((Phi (g0 G) sk) ln rv) 0 (fun v L2 cl2 ln2 iv2 rv2 => v = none ∧ L = L2 ∧ cl = cl2 ∧ ln = ln2 ∧ rv = rv2 ∧ fT [19, 64] L cl iv rv iv2 rv2 ∧ WT (g0 G) sk L2 cl2 ln2 iv2 rv2 ∧ (ENX L cl iv rv iv2 a0 g w1)))) args s (((PHM) + 0 - ((Phi (g0 G) sk) ln rv)) / 16) ((PHM) + 0 - ((Phi (g0 G) sk) ln rv)) A) (Phi (g0 G) sk) ((Phi (g0 G) sk) ln rv) L cl ln ivb1 rv 0 5 [(3, .int (iI k)), (0, .ref a0), (1, .int (iI g)), (2, .int (iI w1))] [] := by
    intro nn
    induction nn with
    | zero =>
      intro  k ivb1 hm Wb1 Fb1  hk hkb hgk hE
      exact absurd hm (by omega)
    | succ nn ih1 =>
      intro  k ivb1 hm Wb1 Fb1  hk hkb hgk hE
      refine c_iload_n (j := 2) C dX7_endText_5 rfl ?_
      refine c_if_eq (tgt := 49) C ⟨by omega, by omega⟩ dX7_endText_6 (by decide) (fun c1 => ?_) (fun c1 => ?_)
      · have ri3 : 0 ≤ ivb1 a0 1 ∧ ivb1 a0 1 ≤ 200 := Wb1.int t_a0 1
        refine hv3 (show ivb1 a0 1 = iv a0 1 from Fb1.i t_a0 rfl 1) (show (-2147483648) ≤ ivb1 a0 2 ∧ ivb1 a0 2 ≤ 2147483647 from Wb1.int t_a0 2) (show ivb1 a0 2 = iv a0 2 from Fb1.i t_a0 rfl 2) (fun ie1 ri4 ie2 => ?_)
        exact c_vret C dX7_endText_49 rfl (by decide) (rom0 hph hph (by decide)) ⟨rfl, rfl, rfl, rfl, rfl, Fb1, Wb1, (hE.non (by omega) (by omega))⟩
      · refine c_iload_n (j := 0) C dX7_endText_9 rfl ?_
        refine c_aload_n (j := 1) (x := a0) C dX7_endText_10 rfl ?_
        refine hv2 (show 0 ≤ ivb1 a0 1 ∧ ivb1 a0 1 ≤ 200 from Wb1.int t_a0 1) (show ivb1 a0 1 = iv a0 1 from Fb1.i t_a0 rfl 1) (fun ri5 ie3 => ?_)
        refine c_get (k := 1) C ck_8 dX7_endText_11 w2_34 (by decide) t_a0 rfl rfl (by decide) rfl ?_
        refine c_icmp_ge (tgt := 49) C (r32_c (lo := (-2147483648)) (hi := 2147483647) hk.1 hk.2 (by decide) (by decide)) (r32_c (lo := 0) (hi := 200) ri5.1 ri5.2 (by decide) (by decide)) dX7_endText_14 (by decide) (fun c2 => ?_) (fun c2 => ?_)
        · have ri6 : (-2147483648) ≤ ivb1 a0 2 ∧ ivb1 a0 2 ≤ 2147483647 := Wb1.int t_a0 2
          have ie4 : ivb1 a0 2 = iv a0 2 := Fb1.i t_a0 rfl 2
          exact c_vret C dX7_endText_49 rfl (by decide) (rom0 hph hph (by decide)) ⟨rfl, rfl, rfl, rfl, rfl, Fb1, Wb1, (hE.fin (by omega) (by omega))⟩
        · refine c_aload_n (j := 1) (x := a0) C dX7_endText_17 rfl ?_
          refine c_iload_n (j := 0) C dX7_endText_18 rfl ?_
          refine d_callV (As := [.int (iI k)]) (rest := []) C hM (G_sat (a0 := a0) (i := k) Wb1 hS t_a0 (by omega) ) dX7_endText_19 kV_X7_24 rfl t_a0 rfl rfl (by decide) ck_8 rfl (Nat.le_of_ble_eq_true rfl) ⟨(Nat.le_of_ble_eq_true rfl), (Nat.le_of_ble_eq_true rfl)⟩ hph hph (show 0 + 0 = 0 from rfl) (by decide) (fun rh1 Lh1 clh1 lnh1 ivh1 rvh1 h1 => ?_)
          obtain ⟨f1, rfl, rfl, rfl, rfl, rfl, rfl, rgf1, exf1⟩ := h1
          refine c_st (st2 := [(va_rf f1)]) rfl ?_
          have gf1 : SATX ivb1 rv a0 k f1 := exf1
          refine c_astorer (r := f1) (lv2 := [(4, (va_rf f1)), (3, .int (iI k)), (0, .ref a0), (1, .int (iI g)), (2, .int (iI w1))]) C dX7_endText_22 (by decide) rfl ?_
          refine c_aloadr (j := 0) (r := f1) C dX7_endText_24 rfl ?_
          refine c_ifnull (r := f1) (tgt := 43) C dX7_endText_26 (by decide) (fun oq1 => ?_) (fun ob1 oq1 => ?_)
          · subst oq1
            refine c_lv (lv2 := [(4, .null), (3, .int (iI k)), (0, .ref a0), (1, .int (iI g)), (2, .int (iI w1))]) [0, 1, 2, 3, 4] rfl ?_
            refine c_st (st2 := []) rfl ?_
            refine c_iinc (z := k) (j := 1) (lv2 := [(3, .int (iI (k + 1))), (4, .null), (0, .ref a0), (1, .int (iI g)), (2, .int (iI w1))]) C dX7_endText_43 rfl (by decide) rfl ?_
            refine c_goto (tgt := 5) C dX7_endText_46 (by decide) ?_
            refine hv2 (show (-2147483648) ≤ ivb1 a0 2 ∧ ivb1 a0 2 ≤ 2147483647 from Wb1.int t_a0 2) (show ivb1 a0 2 = iv a0 2 from Fb1.i t_a0 rfl 2) (fun ri7 ie5 => ?_)
            refine c_lv (lv2 := [(3, .int (iI (k + 1))), (0, .ref a0), (1, .int (iI g)), (2, .int (iI w1))]) [0, 2, 3, 4] rfl ?_
            exact ih1  (k + 1) _ (by omega) Wb1 Fb1  (by omega) (by omega) (by omega) (hE.skip gf1 (by omega))
          · subst oq1
            have tob1 := rgf1 ob1 rfl
            refine c_lv (lv2 := [(4, .ref ob1), (3, .int (iI k)), (0, .ref a0), (1, .int (iI g)), (2, .int (iI w1))]) [0, 1, 2, 3, 4] rfl ?_
            refine c_st (st2 := []) rfl ?_
            refine c_aload (j := 0) (x := ob1) C dX7_endText_29 rfl ?_
            refine c_iload_n (j := 4) C dX7_endText_31 rfl ?_
            refine c_aload (j := 0) (x := ob1) C dX7_endText_32 rfl ?_
            have ri8 : 0 ≤ ivb1 ob1 1 ∧ ivb1 ob1 1 ≤ 200 := Wb1.int tob1 1
            refine c_get (k := 1) C ck_3 dX7_endText_34 w4_51 (by decide) tob1 rfl rfl (by decide) rfl ?_
            refine c_isub C dX7_endText_37 ?_
            refine c_iconst C dX7_endText_38 ?_
            obtain ⟨zz1, rzz1, hzz1, ezz1⟩ := dv2 (x := w1 - (ivb1 ob1 1)) ⟨by omega, by omega⟩
            refine c_idiv (w := iI zz1) C dX7_endText_39 (by decide) ezz1 ?_
            have ri9 : 0 ≤ ivb1 ob1 2 ∧ ivb1 ob1 2 ≤ 1 := Wb1.int tob1 2
            refine d_callV (As := [.int (iI zz1)]) (rest := []) C hM (G_indent (a0 := ob1) (n := zz1) Wb1 hS tob1 (by omega) ) dX7_endText_40 kV_X7_58 rfl tob1 rfl rfl (by decide) ck_3 rfl (Nat.le_of_ble_eq_true rfl) ⟨(Nat.le_of_ble_eq_true rfl), (Nat.le_of_ble_eq_true rfl)⟩ hph hph (show 0 + 0 = 0 from rfl) (by decide) (fun rh2 Lh2 clh2 lnh2 ivh2 rvh2 h2 => ?_)
            obtain ⟨rfl, rfl, rfl, rfl, rfl, fl2, W2, exf2⟩ := h2
            have F1 := Fb1.call hX0 fl2 rfl
            refine c_st (st2 := []) rfl ?_
            refine hv2 (show 0 ≤ ivh2 ob1 2 ∧ ivh2 ob1 2 ≤ 1 from W2.int tob1 2) (show (LFR L cl ivb1 rv ivh2 ob1 ∧ ivh2 ob1 2 = ivb1 ob1 2) ∧ INX ivb1 rv ivh2 ob1 zz1 from exf2) (fun ri10 gf2 => ?_)
            refine c_iinc (z := k) (j := 1) (lv2 := [(3, .int (iI (k + 1))), (4, .ref ob1), (0, .ref a0), (1, .int (iI g)), (2, .int (iI w1))]) C dX7_endText_43 rfl (by decide) rfl ?_
            refine c_goto (tgt := 5) C dX7_endText_46 (by decide) ?_
            refine hv5 (show 0 ≤ ivh2 a0 1 ∧ ivh2 a0 1 ≤ 200 from W2.int t_a0 1) (show ivh2 a0 1 = ivb1 a0 1 from fl2.i t_a0 rfl 1) (show (-2147483648) ≤ ivh2 a0 2 ∧ ivh2 a0 2 ≤ 2147483647 from W2.int t_a0 2) (show ivh2 a0 2 = ivb1 a0 2 from fl2.i t_a0 rfl 2) (show ivb1 a0 2 = iv a0 2 from Fb1.i t_a0 rfl 2) (fun ri11 ie9 ri12 ie10 ie11 => ?_)
            refine c_lv (lv2 := [(3, .int (iI (k + 1))), (0, .ref a0), (1, .int (iI g)), (2, .int (iI w1))]) [0, 2, 3, 4] rfl ?_
            exact ih1  (k + 1) _ (by omega) W2 F1  (by omega) (by omega) (by omega) (hE.step Wb1 t_a0 gf1 (by omega) gf2.1.1 fl2 gf2.1.2 gf2.2 hzz1 (by omega))
  refine c_lv (lv2 := [(3, .int (iI (iv a0 2))), (0, .ref a0), (1, .int (iI g)), (2, .int (iI w1))]) [0, 1, 2, 3] rfl ?_
  exact Lp1 2147483900 (iv a0 2) _ (by omega) hW hF0  (by omega) (by omega) (by omega) (ENI.zero rfl)
end
section
def PSR (T : Nat → Int) (N : Int) (a : Nat → Nat → Int) (t wd hy : Int) (iv : Nat → Nat → Int) (rv : Nat → Nat → Option Nat) (s c : Nat) : Prop := ∃ m es D b, RNE T N m (iv c 0) es ∧ drs a t wd hy es D b ∧ DRP iv rv s D ∧ ((m = 0 ∧ iv c 1 = 0) ∨ ((m = 1 ∨ m = 2) ∧ iv c 1 ≠ 0 ∧ iv c 2 = m - 1 ∧ iv s 2 = ((b : Nat) : Int) ∧ b < D.length))
def PSV (T : Nat → Int) (N : Int) (a : Nat → Nat → Int) (t wd hy : Int) (iv : Nat → Nat → Int) (rv : Nat → Nat → Option Nat) (s c u : Nat) (cm : Int) : Prop := ∃ m es D b, drs a t wd hy es D b ∧ DRP iv rv s D ∧ ((cm = 0 ∧ RNE T N 0 (iv c 0) es ∧ N ≤ iv c 0) ∨ (cm = 1 ∧ RNE T N m (iv c 0) ((1, []) :: es) ∧ (m = 1 ∨ m = 2) ∧ iv c 1 ≠ 0 ∧ iv c 2 = m - 1) ∨ (cm = 2 ∧ (∃ w, RNE T N m (iv c 0) ((2, w) :: es) ∧ PWH iv rv u w) ∧ (m = 1 ∨ m = 2) ∧ iv c 1 ≠ 0 ∧ iv c 2 = m - 1 ∧ iv s 2 = ((b : Nat) : Int) ∧ b < D.length) ∨ (cm = 3 ∧ RNE T N 0 (iv c 0) ((if m = 2 then 4 else 3, []) :: es) ∧ (m = 1 ∨ m = 2) ∧ iv c 1 = 0 ∧ iv c 2 = m - 1 ∧ iv s 2 = ((b : Nat) : Int)))
def PHY (sk ln : Nat → Nat) (iv : Nat → Nat → Int) (rv : Nat → Nat → Option Nat) (sA sB : Nat) (wd hy : Int) (v : Nat → Int) (a : Nat → Nat → Int) : Prop := TRL sk ln iv rv v a ∧ (∀ i, a 10 i ≤ 200) ∧ (iv (sk 3) 2 = v 30 ∧ CT iv rv (sk 3) (a 29)) ∧ (wd = v 31 ∧ hy = v 33) ∧ LNK rv sB sA
def PSL (sk ln : Nat → Nat) (iv : Nat → Nat → Int) (rv : Nat → Nat → Option Nat) (iv1 : Nat → Nat → Int) (rv1 : Nat → Nat → Option Nat) (sA sB : Nat) (wd hy t wy cm : Int) : Prop := ∀ v a, PHY sk ln iv rv sA sB wd hy v a → SHK iv rv iv1 rv1 sB sA ∧ (wy = 0 → PSV (a 29) (v 30) a t wd hy iv1 rv1 sB (sk 14) (sk 15) cm) ∧ (wy ≠ 0 → BADV (a 29) (v 30) a t wd hy)
def PSQ (sk ln : Nat → Nat) (iv : Nat → Nat → Int) (rv : Nat → Nat → Option Nat) (iv1 : Nat → Nat → Int) (rv1 : Nat → Nat → Option Nat) (sA sB : Nat) (wd hy t wy ok : Int) : Prop := ∀ v a, PHY sk ln iv rv sA sB wd hy v a → SHK iv rv iv1 rv1 sB sA ∧ (wy = 0 → ok ≠ 0 → PSR (a 29) (v 30) a t wd hy iv1 rv1 sB (sk 14)) ∧ (wy ≠ 0 ∨ ok = 0 → BADV (a 29) (v 30) a t wd hy)
def PBX (iv : Nat → Nat → Int) (rv rv2 : Nat → Nat → Option Nat) (h0 : Nat) (f : Int) : Prop := ∀ sA sB, rv h0 9 = some sA → rv h0 10 = some sB → rv2 h0 9 = some sB ∧ rv2 h0 10 = some sA ∧ f = iv sB 1
def PSX (sk ln : Nat → Nat) (iv : Nat → Nat → Int) (rv : Nat → Nat → Option Nat) (iv2 : Nat → Nat → Int) (rv2 : Nat → Nat → Option Nat) (h0 : Nat) (wd hy t f : Int) : Prop := ∀ sA sB, rv h0 9 = some sA → rv h0 10 = some sB → ∀ v a, PHY sk ln iv rv sA sB wd hy v a → (SETN v a t f ∧ rv2 h0 9 = some sA ∧ rv2 h0 10 = some sB ∧ SHK iv rv iv2 rv2 sB sA) ∨ ∃ D, SETD v a t f D ∧ rv2 h0 9 = some sB ∧ rv2 h0 10 = some sA ∧ LNK rv2 sA sB ∧ DRP iv2 rv2 sB D
section EROW
variable {h : Nat} {sk : Nat → Nat} {L L1 L2 : List Nat} {cl ln cl1 ln1 cl2 ln2 : Nat → Nat} {iv iv0 iv1 iv2 iv3 : Nat → Nat → Int} {rv rv0 rv1 rv2 rv3 : Nat → Nat → Option Nat} {s s2 c u q tb sA sB h0 : Nat} {v : Nat → Int} {a : Nat → Nat → Int} {T : Nat → Int} {N t wd hy cm f f2 wy ok x kd : Int} {ls : List Nat}
theorem SHK.frm (hK : SHK iv rv iv1 rv1 s s2) (hW : WT h sk L1 cl1 ln1 iv1 rv1) (ts : ty L1 cl1 s 18) (ts2 : ty L1 cl1 s2 18) (hF : fT ls L1 cl1 iv1 rv1 iv2 rv2) (a18 : ls.contains 18 = false) (a19 : ls.contains 19 = false) (a64 : ls.contains 64 = false) (a67 : ls.contains 67 = false) : SHK iv rv iv2 rv2 s s2 := hK.trans ⟨hK.1.frm hW ts ts2 hF a18 a19 a67, SAM.frm hW ts2 hF a18 a19 a64 a67, funext fun j => hF.r ts a18 j⟩
theorem DRP.frm {D : List (List Int)} (hD : DRP iv rv s D) (hW : WT h sk L cl ln iv rv) (ts : ty L cl s 18) (hF : fT ls L cl iv rv iv2 rv2) (a18 : ls.contains 18 = false) (a19 : ls.contains 19 = false) (a64 : ls.contains 64 = false) (a67 : ls.contains 67 = false) : DRP iv2 rv2 s D := hD.sam (SAM.frm hW ts hF a18 a19 a64 a67)
theorem PSR.init (h1 : iv s 1 = 0) (c0 : iv c 0 = 0) (c1 : iv c 1 = 0) : PSR T N a t wd hy iv rv s c := ⟨0, [], [], 0, by rw [c0]; exact RNE.zero, ⟨rfl, rfl⟩, ⟨h1, fun l xs e => by simp at e⟩, Or.inl ⟨rfl, c1⟩⟩
theorem PSR.step (hR : PSR T N a t wd hy iv rv s c) (hW : WT h sk L cl ln iv rv) (ts : ty L cl s 18) (hF : fT [14, 15, 50, 51, 52] L cl iv rv iv2 rv) (st : STP iv rv iv2 q c u f) (hc : CT iv rv q T) (hN : iv q 2 = N) : PSV T N a t wd hy iv2 rv s c u f := by
  obtain ⟨m, es, D, b, h1, h2, h3, h4⟩ := hR
  refine hv2 (h3.frm hW ts hF rfl rfl rfl rfl) (show iv2 s 2 = iv s 2 from hF.i ts rfl 2) (fun h5 s2 => ?_)
  obtain ⟨g1, g2⟩ := st T hc
  rw [hN] at g1 g2
  rcases h4 with ⟨e0, e1⟩ | ⟨e0, e1, e2, e3, e4⟩
  · subst e0
    rcases g1 e1 with ⟨k1, k2, k3, k4⟩ | ⟨k1, k2, k3, k4⟩
    · exact ⟨0, es, D, b, h2, h5, Or.inl ⟨k2, by rw [k3]; exact h1, by rw [k3]; exact k1⟩⟩
    · rcases k4 with ⟨j1, j2, j3⟩ | ⟨j1, j2, j3⟩
      · exact ⟨2, es, D, b, h2, h5, Or.inr (Or.inl ⟨k2, h1.enter k1 (Or.inl ⟨j1, j2, rfl⟩), Or.inr rfl, by omega, by omega⟩)⟩
      · exact ⟨1, es, D, b, h2, h5, Or.inr (Or.inl ⟨k2, h1.enter k1 (Or.inr ⟨j1, j2, rfl⟩), Or.inl rfl, by omega, by omega⟩)⟩
  · obtain ⟨P, w, p0, p1, p2, p3⟩ := g2 e1
    rcases p3 with ⟨k1, k2, k3, k4, k5⟩ | ⟨k1, k2, k3, k4⟩
    · exact ⟨m, es, D, b, h2, h5, Or.inr (Or.inr (Or.inl ⟨k2, ⟨w, by rw [k3]; exact h1.word (by omega) p1 p0 k1, k5⟩, e0, by omega, by omega, by omega, e4⟩))⟩
    · exact ⟨m, es, D, b, h2, h5, Or.inr (Or.inr (Or.inr ⟨k2, by rw [k3]; exact h1.line (by omega) p1 p0 k1, e0, k4, by omega, by omega⟩))⟩
theorem PSV.begin (hV : PSV T N a t wd hy iv rv s c u cm) (hcm : cm = 1) (hT : TBL v a) (ht : 0 ≤ t ∧ t < v 4) (ts2 : ty L cl s2 18) (hK : LNK rv s s2) (hB : BTX L cl iv rv iv2 rv2 s f) (c0 : iv2 c 0 = iv c 0) (c1 : iv2 c 1 = iv c 1) (c2 : iv2 c 2 = iv c 2) : (f = 1 → PSR T N a t wd hy iv2 rv2 s c) ∧ (f ≠ 1 → BADV T N a t wd hy) := by
  obtain ⟨m, es, D, b, h2, h3, h4⟩ := hV
  rcases h4 with ⟨e, _⟩ | ⟨_, e1, e2, e3, e4⟩ | ⟨e, _⟩ | ⟨e, _⟩
  · omega
  · obtain ⟨k1, k2⟩ := (hB s2 ts2 hK).2 D h3
    refine ⟨fun e => ?_, fun e => ?_⟩
    · obtain ⟨j1, j2, j3⟩ := k1 e
      exact ⟨m, (1, []) :: es, D ++ [[]], D.length, by rw [c0]; exact e1, ⟨D, b, h2, Or.inl ⟨rfl, j1, rfl, rfl⟩⟩, j2, Or.inr ⟨e2, by omega, by omega, j3, by rw [len1]; omega⟩⟩
    · have j := k2 e
      refine ⟨m, _, _, e1, fun ⟨D2, b2, D0, b0, g1, g2⟩ => ?_⟩
      obtain ⟨q1, _⟩ := drs.uni hT ht es D0 D b0 b g1 h2
      subst q1
      rcases g2 with ⟨_, q2, _⟩ | ⟨q1, _⟩ | ⟨q1, _⟩ | ⟨q1, _⟩
      · omega
      · exact absurd q1 (by decide)
      · exact absurd q1 (by decide)
      · exact absurd q1 (by decide)
  · omega
  · omega
theorem PSV.ends (hV : PSV T N a t wd hy iv rv s c u cm) (hcm : cm = 3) (ts2 : ty L cl s2 18) (hK : LNK rv s s2) (hE : ENX L cl iv rv iv2 s x wd) (hx : x = iv c 2) (c0 : iv2 c 0 = iv c 0) (c1 : iv2 c 1 = iv c 1) : PSR T N a t wd hy iv2 rv s c := by
  obtain ⟨m, es, D, b, h2, h3, h4⟩ := hV
  rcases h4 with ⟨e, _⟩ | ⟨e, _⟩ | ⟨e, _⟩ | ⟨_, e1, e2, e3, e4, e5⟩
  · omega
  · omega
  · omega
  · obtain ⟨k1, k2⟩ := (hE s2 ts2 hK).2 D h3
    by_cases c3 : m = 2
    · rw [if_pos c3] at e1
      have j := k2 (by omega) (by omega)
      rw [show (iv s 2).toNat = b by omega] at j
      exact ⟨0, (4, []) :: es, cnl wd b D, b, by rw [c0]; exact e1, ⟨D, b, h2, Or.inr (Or.inr (Or.inr ⟨rfl, rfl, rfl⟩))⟩, j, Or.inl ⟨rfl, by omega⟩⟩
    · rw [if_neg c3] at e1
      exact ⟨0, (3, []) :: es, D, b, by rw [c0]; exact e1, ⟨D, b, h2, Or.inr (Or.inr (Or.inl ⟨rfl, rfl, rfl⟩))⟩, k1 (by omega), Or.inl ⟨rfl, by omega⟩⟩
theorem WSS.mk {w : List (Int × Nat × Int)} {cs : List Int} (hS : SW0 a (lts w) ((w.length : Nat) : Int) t cs) (hl : cs.length ≤ 200) (hF : STF iv rv u a (lts w) ((w.length : Nat) : Int) t cs) : ∃ st, WSS a t w cs st ∧ (a 6 t.toNat ≠ 5 → w.length ≤ 500 → SBG iv rv u w.length st) := by
  have ws : WST a t w cs := SWC.iff0.mpr ⟨hS, hl⟩
  by_cases c5 : a 6 t.toNat = 5
  · exact ⟨fun _ => -1, ⟨ws, fun e => absurd c5 e, fun _ => rfl⟩, fun e => absurd c5 e⟩
  · obtain ⟨ps, ⟨y, k1, k2⟩, k3, k4⟩ := hF c5
    refine ⟨fun j => bgn ps 0 j (-1), ⟨ws, fun _ => ⟨ps, ⟨⟨y, k1, k2⟩, by rw [k3] at hl; omega⟩, k3, rfl⟩, fun e => absurd e c5⟩, fun _ hw sb hb j hj => ?_⟩
    exact k4 sb hb j (by omega) (by omega) (by omega)
theorem PSV.bad (hV : PSV T N a t wd hy iv rv s c u cm) (hcm : cm = 2) (hR : TRL sk ln iv rv v a) (hW : WT h sk L cl ln iv rv) (tu : ty L cl u 15) (ht : 0 ≤ t ∧ t < v 4) (he : el rv (sk 22) t.toNat = some tb) (sb : SBX sk ln iv rv iv2 u tb f) (hf : f ≠ 0) : BADV T N a t wd hy := by
  obtain ⟨m, es, D, b, h2, h3, h4⟩ := hV
  rcases h4 with ⟨e, _⟩ | ⟨e, _⟩ | ⟨_, ⟨w, e1, e2⟩, e3, e4, e5, e6, e7⟩ | ⟨e, _⟩
  · omega
  · omega
  · have et : ((t.toNat : Nat) : Int) = t := Int.toNat_of_nonneg ht.1
    have cb : CTB sk ln iv rv u tb v a (lts w) t.toNat := ⟨hR, by omega, he, e2.ltw hW tu⟩
    have s2 := (sb v a (lts w) t.toNat cb).2 hf
    rw [et, e2.1] at s2
    refine ⟨m, _, _, e1, fun ⟨D2, b2, D0, b0, _, g2⟩ => ?_⟩
    rcases g2 with ⟨q1, _⟩ | ⟨_, ⟨D1, x1, cs, st, _, j4, _⟩, _⟩ | ⟨q1, _⟩ | ⟨q1, _⟩
    · exact absurd (show (2 : Int) = 1 from q1) (by decide)
    · exact s2 ⟨cs, (SWC.iff0.mp j4.1).1, (SWC.iff0.mp j4.1).2⟩
    · exact absurd (show (2 : Int) = 3 from q1) (by decide)
    · exact absurd (show (2 : Int) = 4 from q1) (by decide)
  · omega
theorem PSV.word (hV : PSV T N a t wd hy iv rv s c u cm) (hcm : cm = 2) (hR : TRL sk ln iv rv v a) (h10 : ∀ i, a 10 i ≤ 200) (hW : WT h sk L cl ln iv rv) (hW2 : WT h sk L cl ln iv2 rv) (tu : ty L cl u 15) (ts : ty L cl s 18) (ts2 : ty L cl s2 18) (hK : LNK rv s s2) (ht : 0 ≤ t ∧ t < v 4) (he : el rv (sk 22) t.toNat = some tb) (sb : SBX sk ln iv rv iv2 u tb f) (hf : f = 0) (hF : fT [15, 53, 54, 55] L cl iv rv iv2 rv) (h4u : iv2 u 4 = iv u 4) (hkd : kd = iv tb 0) (tk : TKE L cl iv2 rv iv3 rv3 s u kd wd hy f2) (s32 : iv3 s 2 = iv2 s 2) (c0 : iv3 c 0 = iv c 0) (c1 : iv3 c 1 = iv c 1) (c2 : iv3 c 2 = iv c 2) : (f2 = 1 → PSR T N a t wd hy iv3 rv3 s c) ∧ (f2 ≠ 1 → BADV T N a t wd hy) := by
  obtain ⟨m, es, D, b, h2, h3, h4⟩ := hV
  rcases h4 with ⟨e, _⟩ | ⟨e, _⟩ | ⟨_, ⟨w, e1, e2⟩, e3, e4, e5, e6, e7⟩ | ⟨e, _⟩
  · omega
  · omega
  · have et : ((t.toNat : Nat) : Int) = t := Int.toNat_of_nonneg ht.1
    have cb : CTB sk ln iv rv u tb v a (lts w) t.toNat := ⟨hR, by omega, he, e2.ltw hW tu⟩
    have s1 := (sb v a (lts w) t.toNat cb).1 hf
    rw [et, e2.1] at s1
    obtain ⟨cs, q1, q2, q3, q4⟩ := s1
    obtain ⟨st, w1, w2⟩ := WSS.mk q1 q2 q4
    refine hv4 (hR.2.2.1) (show kd = a 6 t.toNat from hkd.trans cb.kind) (show iv u 4 ≤ 500 from (hW.int tu 4).2) (e2.1) (fun hT ek u500 ew => ?_)
    have lt : ∀ j, st j < ((cs.length : Nat) : Int) := fun j => by
      by_cases c5 : a 6 t.toNat = 5
      · rw [w1.2.2 c5]
        show (-1 : Int) < _
        omega
      · exact w1.lt hT hR.v30 h10 ht c5 j
    have tc : TKC iv2 rv u kd w cs st := ⟨e2.ni hW hF tu h4u rfl rfl rfl, q3, q2, fun ck => ⟨w2 (by omega) (by omega), fun i j hij g1 g2 => w1.mono hT hR.v30 h10 ht (by omega) hij g1 g2⟩, lt⟩
    obtain ⟨D1, x1, eD⟩ := snocx D (by omega)
    have h3' : DRP iv2 rv s (D1 ++ [x1]) := by
      rw [← eD]
      exact h3.frm hW ts hF rfl rfl rfl rfl
    obtain ⟨F1, F2⟩ := (tk s2 ts2 hK).2 D1 x1 cs w st h3' tc
    have eV : TKV kd wd hy w cs st 201 0 D1 x1 = flw (brk a t w st) wd hy cs 201 0 D1 x1 := by
      unfold TKV brk
      rw [ek]
    rw [eV] at F1 F2
    have es2 : iv2 s 2 = iv s 2 := hF.i ts rfl 2
    refine ⟨fun k => ?_, fun k => ?_⟩
    · obtain ⟨D2, g1, g2⟩ := F1 k
      refine hv2 (flw_len _ _ _ _ _ g1) (congrArg List.length eD) (fun gl el_ => ?_)
      rw [len1] at el_
      exact ⟨m, (2, w) :: es, D2, b, by rw [c0]; exact e1, ⟨D, b, h2, Or.inr (Or.inl ⟨rfl, ⟨D1, x1, cs, st, eD, w1, g1⟩, rfl⟩)⟩, g2, Or.inr ⟨e3, by omega, by omega, by omega, by omega⟩⟩
    · have g1 := F2 k
      refine ⟨m, _, _, e1, fun ⟨D2, b2, D0, b0, j1, j2⟩ => ?_⟩
      obtain ⟨i1, _⟩ := drs.uni hT ht es D0 D b0 b j1 h2
      subst i1
      rcases j2 with ⟨k1, _⟩ | ⟨_, ⟨D3, x3, ds, s3, j3, j4, j5⟩, _⟩ | ⟨k1, _⟩ | ⟨k1, _⟩
      · exact absurd (show (2 : Int) = 1 from k1) (by decide)
      · obtain ⟨i1, i2⟩ := app_inj (eD.symm.trans j3)
        obtain ⟨i3, i4⟩ := WSS.uni hT ht w1 j4
        subst i1
        subst i2
        subst i3
        subst i4
        rw [g1] at j5
        cases j5
      · exact absurd (show (2 : Int) = 3 from k1) (by decide)
      · exact absurd (show (2 : Int) = 4 from k1) (by decide)
  · omega
theorem WOX.mv (wo : WOX sk ln iv rv t (some tb)) (hR : TRL sk ln iv rv v a) (hQ : QT h sk L cl ln iv rv L1 cl1 ln1 iv1 rv1) : (0 ≤ t ∧ t < v 4) ∧ el rv1 (sk 22) t.toNat = some tb := by
  obtain ⟨o1, o2, _⟩ := wo.smt hR
  have e := hQ.2.2.2.1.2.2.1.1 t.toNat (by have q := hR.1.1; omega)
  exact ⟨o1, by rw [e]; exact o2⟩
theorem WOX.whl (wo : WOX sk ln iv rv t (some tb)) (hR : TRL sk ln iv rv v a) : (0 ≤ t ∧ t < v 4) ∧ WHL v a t := ⟨(wo.smt hR).1, (wo.smt hR).2.2⟩
theorem PSL.init (hW : WT h sk L cl ln iv rv) (tB : ty L cl sB 18) (tA : ty L cl sA 18) (e1 : iv1 = up2 iv sB 1 0) (hW1 : WT h sk L cl ln iv1 rv) (hF1 : fT [14] L cl iv1 rv iv2 rv) (hW2 : WT h sk L cl ln iv2 rv) (z0 : iv2 (sk 14) 0 = 0) (z1 : iv2 (sk 14) 1 = 0) (hF2 : fT [14, 15, 50, 51, 52] L cl iv2 rv iv3 rv) (hFF : fT ls L cl iv rv iv2 rv) (a3 : ls.contains 3 = false) (a33 : ls.contains 33 = false) (t3 : ty L cl (sk 3) 3) (st : STP iv2 rv iv3 (sk 3) (sk 14) (sk 15) f) (hw : wy = 0) : PSL sk ln iv rv iv3 rv sA sB wd hy t wy f := fun v a hP => by
  obtain ⟨p1, p2, ⟨p3, p4⟩, p5, p6⟩ := hP
  refine hv2 (show SHK iv rv iv1 rv sB sA from (SHK.refl p6).up tB tA hW e1) (show PSR (a 29) (v 30) a t wd hy iv2 rv sB (sk 14) from PSR.init (by rw [hF1.i tB rfl 1, e1, up2_s]) z0 z1) (fun k1 r0 => ?_)
  have k2 := k1.frm hW1 tB tA hF1 rfl rfl rfl rfl
  refine ⟨k2.frm hW2 tB tA hF2 rfl rfl rfl rfl, fun _ => r0.step hW2 tB hF2 st (CT.frn p4 hW2 t3 hFF a3 a33 rfl rfl rfl) ((hFF.i t3 a3 2).trans p3), fun e => absurd hw e⟩
theorem PSL.beg (hL : PSL sk ln iv rv iv1 rv1 sA sB wd hy t wy cm) (hw : wy = 0) (hcm : cm = 1) (wo : WOX sk ln iv rv t (some tb)) (tA : ty L1 cl1 sA 18) (hB : BTX L1 cl1 iv1 rv1 iv2 rv2 sB f) (c0 : iv2 (sk 14) 0 = iv1 (sk 14) 0) (c1 : iv2 (sk 14) 1 = iv1 (sk 14) 1) (c2 : iv2 (sk 14) 2 = iv1 (sk 14) 2) (hf : f = 0 ∨ f = 1) : PSQ sk ln iv rv iv2 rv2 sA sB wd hy t wy f := fun v a hP => by
  obtain ⟨g1, g2, _⟩ := hL v a hP
  obtain ⟨o1, _⟩ := wo.whl hP.1
  obtain ⟨k1, k2⟩ := (g2 hw).begin hcm hP.1.2.2.1 o1 tA g1.1 hB c0 c1 c2
  exact ⟨g1.trans (hB sA tA g1.1).1, fun _ e => k1 (by omega), fun e => k2 (by omega)⟩
theorem PSL.end_ (hL : PSL sk ln iv rv iv1 rv1 sA sB wd hy t wy cm) (hw : wy = 0) (hcm : cm = 3) (tA : ty L1 cl1 sA 18) (hE : ENX L1 cl1 iv1 rv1 iv2 sB x wd) (hx : x = iv1 (sk 14) 2) (c0 : iv2 (sk 14) 0 = iv1 (sk 14) 0) (c1 : iv2 (sk 14) 1 = iv1 (sk 14) 1) (hk : ok = 1) : PSQ sk ln iv rv iv2 rv1 sA sB wd hy t wy ok := fun v a hP => by
  obtain ⟨g1, g2, _⟩ := hL v a hP
  exact ⟨g1.trans (hE sA tA g1.1).1, fun _ _ => (g2 hw).ends hcm tA g1.1 hE hx c0 c1, fun e => absurd e (by omega)⟩
theorem PSL.bad (hL : PSL sk ln iv rv iv1 rv1 sA sB wd hy t wy cm) (hw : wy = 0) (hcm : cm = 2) (hQ : QT h sk L cl ln iv rv L1 cl1 ln1 iv1 rv1) (wo : WOX sk ln iv rv t (some tb)) (hW1 : WT h sk L1 cl1 ln1 iv1 rv1) (tu : ty L1 cl1 (sk 15) 15) (tB : ty L1 cl1 sB 18) (tA : ty L1 cl1 sA 18) (sb : SBX sk ln1 iv1 rv1 iv2 (sk 15) tb f) (hf : f ≠ 0) (hF : fT [15, 53, 54, 55] L1 cl1 iv1 rv1 iv2 rv1) : PSQ sk ln iv rv iv2 rv1 sA sB wd hy t f ok := fun v a hP => by
  obtain ⟨g1, g2, _⟩ := hL v a hP
  have hR := hP.1.qq hQ
  obtain ⟨o1, o2⟩ := wo.mv hP.1 hQ
  have k := (g2 hw).bad hcm hR hW1 tu o1 o2 sb hf
  exact ⟨g1.frm hW1 tB tA hF rfl rfl rfl rfl, fun e => absurd e hf, fun _ => k⟩
theorem PSL.word (hL : PSL sk ln iv rv iv1 rv1 sA sB wd hy t wy cm) (hw : wy = 0) (hcm : cm = 2) (hQ : QT h sk L cl ln iv rv L1 cl1 ln1 iv1 rv1) (wo : WOX sk ln iv rv t (some tb)) (hW1 : WT h sk L1 cl1 ln1 iv1 rv1) (hW2 : WT h sk L1 cl1 ln1 iv2 rv1) (tu : ty L1 cl1 (sk 15) 15) (tB : ty L1 cl1 sB 18) (tA : ty L1 cl1 sA 18) (sb : SBX sk ln1 iv1 rv1 iv2 (sk 15) tb f) (hf : f = 0) (hF : fT [15, 53, 54, 55] L1 cl1 iv1 rv1 iv2 rv1) (h4u : iv2 (sk 15) 4 = iv1 (sk 15) 4) (hkd : kd = iv1 tb 0) (tk : TKE L1 cl1 iv2 rv1 iv3 rv3 sB (sk 15) kd wd hy f2) (s32 : iv3 sB 2 = iv2 sB 2) (c0 : iv3 (sk 14) 0 = iv1 (sk 14) 0) (c1 : iv3 (sk 14) 1 = iv1 (sk 14) 1) (c2 : iv3 (sk 14) 2 = iv1 (sk 14) 2) (hk : (f2 = 0 ∧ ok = 0) ∨ (f2 = 1 ∧ ok = 1)) : PSQ sk ln iv rv iv3 rv3 sA sB wd hy t f ok := fun v a hP => by
  obtain ⟨g1, g2, _⟩ := hL v a hP
  have hR := hP.1.qq hQ
  obtain ⟨o1, o2⟩ := wo.mv hP.1 hQ
  have g3 := g1.frm hW1 tB tA hF rfl rfl rfl rfl
  obtain ⟨k1, k2⟩ := (g2 hw).word hcm hR hP.2.1 hW1 hW2 tu tB tA g1.1 o1 o2 sb hf hF h4u hkd tk s32 c0 c1 c2
  exact ⟨g3.trans (tk sA tA g3.1).1, fun _ e => k1 (by omega), fun e => k2 (by omega)⟩
theorem PSQ.nor (hL : PSQ sk ln iv rv iv1 rv1 sA sB wd hy t wy ok) (hk : ok = 0) (hw : x ≠ 0) : PSL sk ln iv rv iv1 rv1 sA sB wd hy t x cm := fun v a hP => by
  obtain ⟨g1, _, g3⟩ := hL v a hP
  exact ⟨g1, fun e => absurd e hw, fun _ => g3 (Or.inr hk)⟩
theorem PSQ.stop (hL : PSQ sk ln iv rv iv1 rv1 sA sB wd hy t wy ok) (hw : wy ≠ 0) : PSL sk ln iv rv iv1 rv1 sA sB wd hy t wy cm := fun v a hP => by
  obtain ⟨g1, _, g3⟩ := hL v a hP
  exact ⟨g1, fun e => absurd e hw, fun _ => g3 (Or.inl hw)⟩
theorem PSQ.next (hL : PSQ sk ln iv rv iv1 rv1 sA sB wd hy t wy ok) (hw : wy = 0) (hk : ok ≠ 0) (hW : WT h sk L cl ln iv rv) (hX : XT L cl ln L1 cl1 ln1) (hFF : fT ls L cl iv rv iv1 rv1) (a3 : ls.contains 3 = false) (a33 : ls.contains 33 = false) (t3 : ty L cl (sk 3) 3) (hW1 : WT h sk L1 cl1 ln1 iv1 rv1) (tB : ty L1 cl1 sB 18) (tA : ty L1 cl1 sA 18) (hF : fT [14, 15, 50, 51, 52] L1 cl1 iv1 rv1 iv2 rv1) (st : STP iv1 rv1 iv2 (sk 3) (sk 14) (sk 15) f) : PSL sk ln iv rv iv2 rv1 sA sB wd hy t wy f := fun v a hP => by
  obtain ⟨g1, g2, _⟩ := hL v a hP
  obtain ⟨_, _, ⟨p3, p4⟩, _⟩ := hP
  exact ⟨g1.frm hW1 tB tA hF rfl rfl rfl rfl, fun _ => (g2 hw hk).step hW1 tB hF st (CT.fr p4 hW t3 hFF a3 a33 rfl rfl rfl) ((hFF.i t3 a3 2).trans p3), fun e => absurd hw e⟩
theorem PSX.n1 (wo : WOX sk ln iv rv t none) (hW : WT h sk L cl ln iv rv) (tB : ty L cl sB 18) (tA : ty L cl sA 18) (hA : rv h0 9 = some sA) (hB : rv h0 10 = some sB) (hF : fT ls L cl iv rv iv2 rv) (a18 : ls.contains 18 = false) (a19 : ls.contains 19 = false) (a64 : ls.contains 64 = false) (a67 : ls.contains 67 = false) (hf : f = -1) : PSX sk ln iv rv iv2 rv h0 wd hy t f := fun sA' sB' e1 e2 v a hP => by
  rw [hA] at e1; cases e1
  rw [hB] at e2; cases e2
  refine Or.inl ⟨⟨hf, Or.inl (fun g => ?_)⟩, hA, hB, (SHK.refl hP.2.2.2.2).frm hW tB tA hF a18 a19 a64 a67⟩
  rcases wo v a hP.1 with ⟨_, k⟩ | ⟨b, k, _⟩
  · exact k g
  · cases k
theorem PSX.n2 (hL : PSL sk ln iv rv iv1 rv1 sA sB wd hy t wy cm) (hw : wy ≠ 0) (wo : WOX sk ln iv rv t (some tb)) (hA : rv h0 9 = some sA) (hB : rv h0 10 = some sB) (hA2 : rv1 h0 9 = some sA) (hB2 : rv1 h0 10 = some sB) (hW1 : WT h sk L1 cl1 ln1 iv1 rv1) (tB : ty L1 cl1 sB 18) (tA : ty L1 cl1 sA 18) (hF : fT ls L1 cl1 iv1 rv1 iv2 rv1) (a18 : ls.contains 18 = false) (a19 : ls.contains 19 = false) (a64 : ls.contains 64 = false) (a67 : ls.contains 67 = false) (hf : f = -1) : PSX sk ln iv rv iv2 rv1 h0 wd hy t f := fun sA' sB' e1 e2 v a hP => by
  rw [hA] at e1; cases e1
  rw [hB] at e2; cases e2
  obtain ⟨g1, _, g3⟩ := hL v a hP
  have b := g3 hw
  rw [hP.2.2.2.1.1, hP.2.2.2.1.2] at b
  exact Or.inl ⟨⟨hf, Or.inr ⟨(wo.whl hP.1).2, b⟩⟩, hA2, hB2, g1.frm hW1 tB tA hF a18 a19 a64 a67⟩
theorem PSX.yes (hL : PSL sk ln iv rv iv1 rv1 sA sB wd hy t wy cm) (hw : wy = 0) (hcm : cm = 0) (wo : WOX sk ln iv rv t (some tb)) (hA : rv h0 9 = some sA) (hB : rv h0 10 = some sB) (hA2 : rv2 h0 9 = some sB) (hB2 : rv2 h0 10 = some sA) (hW1 : WT h sk L1 cl1 ln1 iv1 rv1) (tB : ty L1 cl1 sB 18) (tA : ty L1 cl1 sA 18) (hF : fT ls L1 cl1 iv1 rv1 iv2 rv2) (a18 : ls.contains 18 = false) (a19 : ls.contains 19 = false) (a64 : ls.contains 64 = false) (a67 : ls.contains 67 = false) (hf : f = iv1 sB 1) : PSX sk ln iv rv iv2 rv2 h0 wd hy t f := fun sA' sB' e1 e2 v a hP => by
  rw [hA] at e1; cases e1
  rw [hB] at e2; cases e2
  obtain ⟨g1, g2, _⟩ := hL v a hP
  obtain ⟨m, es, D, b, k1, k2, k3⟩ := g2 hw
  rcases k3 with ⟨_, k4, k5⟩ | ⟨e, _⟩ | ⟨e, _⟩ | ⟨e, _⟩
  · rw [hP.2.2.2.1.1, hP.2.2.2.1.2] at k1
    refine Or.inr ⟨D, ⟨(wo.whl hP.1).2, es, b, ⟨_, k4, k5⟩, k1, ?_⟩, hA2, hB2, (g1.1.frm hW1 tB tA hF a18 a19 a67).sym, k2.frm hW1 tB hF a18 a19 a64 a67⟩
    rw [hf]
    exact k2.1
  · omega
  · omega
  · omega
end EROW
end
