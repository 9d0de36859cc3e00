set_option maxHeartbeats 4000000 in
set_option maxRecDepth 100000 in
theorem G_push {l : Launch} {G : GT} {mi : Nat} {sk : Nat → Nat} {L : List Nat} {cl ln : Nat → Nat} {iv : Nat → Nat → Int} {rv : Nat → Nat → Option Nat}  {a0 : Nat} {r : Option Nat} (hW : WT (g0 G) sk L cl ln iv rv) (hS : SKL sk L cl) (t_a0 : ty L cl a0 15) (t_r : ∀ b, r = some b → ty L cl b 20) (hc : iv a0 7 ≤ 90000) : Mc l G mi (Phi (g0 G) sk) PHM yX6_push cX6_push 3 none 0 [.ref a0, va_rf r] L cl ln iv rv 0 (fun v L2 cl2 ln2 iv2 rv2 => v = none ∧ L = L2 ∧ cl = cl2 ∧ ln = ln2 ∧ rv = rv2 ∧ fT [15, 54] L cl iv rv iv2 rv2 ∧ WT (g0 G) sk L2 cl2 ln2 iv2 rv2 ∧ ((iv2 a0 4 = iv a0 4 ∧ iv a0 7 ≤ iv2 a0 7 ∧ iv2 a0 7 ≤ iv a0 7 + 4 ∧ iv2 a0 10 = iv a0 10 ∧ iv2 a0 11 = iv a0 11) ∧ PUX ln iv rv iv2 a0 r)) := by
  refine Mc.mk (by decide) (by cases r <;> exact Nat.le_of_ble_eq_true rfl) ?_
  intro p e s m args below meth c A C hM
  have hph := Phi.le hW hS
  refine c_lveq (show lv_args 0 [.ref a0, va_rf r] = [(0, .ref a0), (1, (va_rf r))] from by cases r <;> rfl) ?_
  refine hv3 ((hW.int t_a0 7).1) (show XT L cl ln L cl ln from XT.refl) (show fT [15, 54] L cl iv rv iv rv from fT.refl) (fun hc0 hX0 hF0 => ?_)
  have hc00 : 0 ≤ iv a0 7 := hc0
  refine c_aloadr_n (j := 1) (r := r) C dX6_push_0 rfl ?_
  refine c_ifnonnull (r := r) (tgt := 5) C dX6_push_1 (by decide) (fun ob1 oq1 => ?_) (fun oq1 => ?_)
  · subst oq1
    have tob1 := t_r ob1 rfl
    refine c_lv (lv2 := [(0, .ref a0), (1, .ref ob1)]) [0, 1] rfl ?_
    refine c_st (st2 := []) rfl ?_
    refine c_iconst C dX6_push_5 ?_
    refine c_istore_n (lv2 := [(2, .int (iI 0)), (0, .ref a0), (1, .ref ob1)]) C dX6_push_6 (by decide) rfl ?_
    have Lp1 : ∀ (nn : Nat) (k : Int) (ivb1 : Nat → Nat → Int) , 5 - k < (nn : Int) → WT (g0 G) sk L cl ln ivb1 rv → fT [15, 54] L cl iv rv ivb1 rv → (0 ≤ k ∧ k ≤ 4) → (ivb1 a0 7 = iv a0 7 + k) → (ivb1 a0 4 = iv a0 4) → (0 ≤ iv a0 7) → (ivb1 a0 10 = iv a0 10 ∧ ivb1 a0 11 = iv a0 11) → (PUK ln iv rv ivb1 a0 (some ob1) k) → cw p l e 0 ((PHM) + 0 - ((Phi (g0 G) sk) ln rv)) s m args below meth c G A 3 (MQ below (Qu G A (Qp G (Phi (g0 G) sk) ((Phi (g0 G) sk) ln rv) 0 (fun v L2 cl2 ln2 iv2 rv2 => v = none ∧ L = L2 ∧ cl = cl2 ∧ ln = ln2 ∧ rv = rv2 ∧ fT [15, 54] L cl iv rv iv2 rv2 ∧ WT (g0 G) sk L2 cl2 ln2 iv2 rv2 ∧ ((iv2 a0 4 = iv a0 4 ∧ iv a0 7 ≤ iv2 a0 7 ∧ iv2 a0 7 ≤ iv a0 7 + 4 ∧ iv2 a0 10 = iv a0 10 ∧ iv2 a0 11 = iv a0 11) ∧ PUX ln iv rv iv2 a0 (some ob1))))) args s (((PHM) + 0 - ((Phi (g0 G) sk) ln rv)) / 16) ((PHM) + 0 - ((Phi (g0 G) sk) ln rv)) A) (Phi (g0 G) sk) ((Phi (g0 G) sk) ln rv) L cl ln ivb1 rv 0 7 [(2, .int (iI k)), (0, .ref a0), (1, .ref ob1)] [] := by
      intro nn
      induction nn with
      | zero =>
        intro  k ivb1 hm Wb1 Fb1  hk hc1 hc4 hc0 hc11 hK
        exact absurd hm (by omega)
      | succ nn ih1 =>
        intro  k ivb1 hm Wb1 Fb1  hk hc1 hc4 hc0 hc11 hK
        refine c_iload_n (j := 0) C dX6_push_7 rfl ?_
        refine c_aload_n (j := 2) (x := ob1) C dX6_push_8 rfl ?_
        obtain ⟨rb1, rq1, trb1⟩ := Wb1.ref tob1 2 rfl rfl rfl
        have lnrb1 : 1 ≤ ln rb1 ∧ ln rb1 ≤ 4 := Wb1.len trb1 rfl
        refine c_getr (k := 2) C ck_6 dX6_push_9 w3_145 (by decide) tob1 rfl rfl (by decide) rfl rq1 ?_
        refine c_st (st2 := [.ref rb1, .int (iI k)]) rfl ?_
        have ll1 : 1 ≤ ln rb1 ∧ ln rb1 ≤ 4 := Wb1.len trb1 rfl
        refine c_alenI C dX6_push_12 trb1 rfl ?_
        refine c_icmp_ge (tgt := 57) C (r32_c (lo := 0) (hi := 4) hk.1 hk.2 (by decide) (by decide)) ⟨by omega, by omega⟩ dX6_push_13 (by decide) (fun c1 => ?_) (fun c1 => ?_)
        · have ri1 : 0 ≤ ivb1 a0 4 ∧ ivb1 a0 4 ≤ 500 := Wb1.int t_a0 4
          refine hv3 (show 0 ≤ ivb1 a0 7 ∧ ivb1 a0 7 ≤ 100000 from Wb1.int t_a0 7) (show 0 ≤ ivb1 a0 10 ∧ ivb1 a0 10 ≤ 500 from Wb1.int t_a0 10) (show 0 ≤ ivb1 a0 11 ∧ ivb1 a0 11 ≤ 500 from Wb1.int t_a0 11) (fun ri2 ri3 ri4 => ?_)
          exact c_vret C dX6_push_57 rfl (by decide) (rom0 hph hph (by decide)) ⟨rfl, rfl, rfl, rfl, rfl, Fb1, Wb1, ⟨by omega, PUX.fin hK rq1 (by omega)⟩⟩
        · refine c_aload_n (j := 1) (x := a0) C dX6_push_16 rfl ?_
          have ri5 : 0 ≤ ivb1 a0 7 ∧ ivb1 a0 7 ≤ 100000 := Wb1.int t_a0 7
          refine c_get (k := 7) C ck_7 dX6_push_17 w1_147 (by decide) t_a0 rfl rfl (by decide) rfl ?_
          refine c_sipush (z := 200) C dX6_push_20 (by decide) ?_
          refine c_icmp_ge (tgt := 41) C (r32_c (lo := 0) (hi := 100000) ri5.1 ri5.2 (by decide) (by decide)) ⟨by decide, by decide⟩ dX6_push_23 (by decide) (fun c2 => ?_) (fun c2 => ?_)
          · refine c_aload_n (j := 1) (x := a0) C dX6_push_41 rfl ?_
            refine c_dup C dX6_push_42 rfl ?_
            refine c_get (k := 7) C ck_7 dX6_push_43 w1_147 (by decide) t_a0 rfl rfl (by decide) rfl ?_
            refine c_iconst C dX6_push_46 ?_
            refine c_iadd C dX6_push_47 ?_
            refine c_put (z := (ivb1 a0 7) + 1) (k := 7) C ck_7 dX6_push_48 w1_147 (by decide) rfl t_a0 rfl rfl (by decide) rfl (by rfl) (by rfl) (fun iv1 pq1 => ?_)
            refine hv2 (Wb1.puti pq1 t_a0 (show 0 ≤ ((ivb1 a0 7) + 1) ∧ ((ivb1 a0 7) + 1) ≤ 100000 by omega) rfl) (Fb1.puti hX0 pq1 t_a0 rfl) (fun W1 F1 => ?_)
            refine c_iinc (z := k) (j := 0) (lv2 := [(2, .int (iI (k + 1))), (0, .ref a0), (1, .ref ob1)]) C dX6_push_51 rfl (by decide) rfl ?_
            refine c_goto (tgt := 7) C dX6_push_54 (by decide) ?_
            refine hv8 (show 0 ≤ iv1 a0 7 ∧ iv1 a0 7 ≤ 100000 from W1.int t_a0 7) (show iv1 a0 7 = (ivb1 a0 7) + 1 from by rw [pq1]; exact up2_s) (show 0 ≤ iv1 a0 4 ∧ iv1 a0 4 ≤ 500 from W1.int t_a0 4) (show iv1 a0 4 = ivb1 a0 4 from by rw [pq1]; exact up2_j (by decide)) (show 0 ≤ iv1 a0 10 ∧ iv1 a0 10 ≤ 500 from W1.int t_a0 10) (show iv1 a0 10 = ivb1 a0 10 from by rw [pq1]; exact up2_j (by decide)) (show 0 ≤ iv1 a0 11 ∧ iv1 a0 11 ≤ 500 from W1.int t_a0 11) (show iv1 a0 11 = ivb1 a0 11 from by rw [pq1]; exact up2_j (by decide)) (fun ri6 ie6 ri7 ie7 ri8 ie9 ri9 ie11 => ?_)
            refine c_lv (lv2 := [(2, .int (iI (k + 1))), (0, .ref a0), (1, .ref ob1)]) [0, 1, 2] rfl ?_
            exact ih1  (k + 1) _ (by omega) W1 F1  (by omega) (by show iv1 a0 7 = iv a0 7 + (k + 1); omega) (by show iv1 a0 4 = iv a0 4; omega) (by omega) (by show iv1 a0 10 = iv a0 10 ∧ iv1 a0 11 = iv a0 11; omega) (hK.inc (by omega) rq1 (by omega) pq1 (by omega) (by omega) (s6ne hW t_a0))
          · refine c_aload_n (j := 1) (x := a0) C dX6_push_26 rfl ?_
            obtain ⟨rb2, rq2, trb2⟩ := Wb1.ref t_a0 6 rfl rfl rfl
            have lnrb2 : 200 ≤ ln rb2 ∧ ln rb2 ≤ 200 := Wb1.len trb2 rfl
            refine c_getr (k := 6) C ck_7 dX6_push_27 w1_144 (by decide) t_a0 rfl rfl (by decide) rfl rq2 ?_
            refine c_st (st2 := [.ref rb2]) rfl ?_
            refine c_aload_n (j := 1) (x := a0) C dX6_push_30 rfl ?_
            refine c_get (k := 7) C ck_7 dX6_push_31 w1_147 (by decide) t_a0 rfl rfl (by decide) rfl ?_
            refine c_aload_n (j := 2) (x := ob1) C dX6_push_34 rfl ?_
            refine c_getr (k := 2) C ck_6 dX6_push_35 w3_145 (by decide) tob1 rfl rfl (by decide) rfl rq1 ?_
            refine c_st (st2 := [.ref rb1, .int (iI (ivb1 a0 7)), .ref rb2]) rfl ?_
            refine c_iload_n (j := 0) C dX6_push_38 rfl ?_
            refine c_iald C dX6_push_39 trb1 rfl (by omega) (by omega) (by omega) ?_
            refine hv3 (show (-2147483648) ≤ ivb1 rb1 k.toNat ∧ ivb1 rb1 k.toNat ≤ 2147483647 from Wb1.int trb1 k.toNat) (show ivb1 rb1 k.toNat = iv rb1 k.toNat from Fb1.i trb1 rfl k.toNat) (show 200 ≤ ln rb2 ∧ ln rb2 ≤ 200 from Wb1.len trb2 rfl) (fun ri10 ie13 ll2 => ?_)
            refine c_iast (x := ivb1 rb1 k.toNat) C dX6_push_40 trb2 rfl (by omega) (by omega) (by omega) (fun iv2 pq2 => ?_)
            refine hv2 (Wb1.puti pq2 trb2 (show (-2147483648) ≤ (ivb1 rb1 k.toNat) ∧ (ivb1 rb1 k.toNat) ≤ 2147483647 by omega) rfl) (Fb1.puti hX0 pq2 trb2 rfl) (fun W2 F2 => ?_)
            refine c_aload_n (j := 1) (x := a0) C dX6_push_41 rfl ?_
            refine c_dup C dX6_push_42 rfl ?_
            refine hv2 (show 0 ≤ iv2 a0 7 ∧ iv2 a0 7 ≤ 100000 from W2.int t_a0 7) (show iv2 a0 7 = ivb1 a0 7 from by rw [pq2]; exact up2_k (ne_ty t_a0 trb2 (by decide))) (fun ri11 ie14 => ?_)
            refine c_get (k := 7) C ck_7 dX6_push_43 w1_147 (by decide) t_a0 rfl rfl (by decide) rfl ?_
            refine c_iconst C dX6_push_46 ?_
            refine c_iadd C dX6_push_47 ?_
            refine c_put (z := (iv2 a0 7) + 1) (k := 7) C ck_7 dX6_push_48 w1_147 (by decide) rfl t_a0 rfl rfl (by decide) rfl (by rfl) (by rfl) (fun iv3 pq3 => ?_)
            refine hv2 (W2.puti pq3 t_a0 (show 0 ≤ ((iv2 a0 7) + 1) ∧ ((iv2 a0 7) + 1) ≤ 100000 by omega) rfl) (F2.puti hX0 pq3 t_a0 rfl) (fun W3 F3 => ?_)
            refine c_iinc (z := k) (j := 0) (lv2 := [(2, .int (iI (k + 1))), (0, .ref a0), (1, .ref ob1)]) C dX6_push_51 rfl (by decide) rfl ?_
            refine c_goto (tgt := 7) C dX6_push_54 (by decide) ?_
            refine hv11 (show 0 ≤ iv3 a0 7 ∧ iv3 a0 7 ≤ 100000 from W3.int t_a0 7) (show iv3 a0 7 = (iv2 a0 7) + 1 from by rw [pq3]; exact up2_s) (show 0 ≤ iv3 a0 4 ∧ iv3 a0 4 ≤ 500 from W3.int t_a0 4) (show iv3 a0 4 = iv2 a0 4 from by rw [pq3]; exact up2_j (by decide)) (show iv2 a0 4 = ivb1 a0 4 from by rw [pq2]; exact up2_k (ne_ty t_a0 trb2 (by decide))) (show 0 ≤ iv3 a0 10 ∧ iv3 a0 10 ≤ 500 from W3.int t_a0 10) (show iv3 a0 10 = iv2 a0 10 from by rw [pq3]; exact up2_j (by decide)) (show iv2 a0 10 = ivb1 a0 10 from by rw [pq2]; exact up2_k (ne_ty t_a0 trb2 (by decide))) (show 0 ≤ iv3 a0 11 ∧ iv3 a0 11 ≤ 500 from W3.int t_a0 11) (show iv3 a0 11 = iv2 a0 11 from by rw [pq3]; exact up2_j (by decide)) (show iv2 a0 11 = ivb1 a0 11 from by rw [pq2]; exact up2_k (ne_ty t_a0 trb2 (by decide))) (fun ri12 ie15 ri13 ie16 ie17 ri14 ie19 ie20 ri15 ie22 ie23 => ?_)
            refine c_lv (lv2 := [(2, .int (iI (k + 1))), (0, .ref a0), (1, .ref ob1)]) [0, 1, 2] rfl ?_
            exact ih1  (k + 1) _ (by omega) W3 F3  (by omega) (by show iv3 a0 7 = iv a0 7 + (k + 1); omega) (by show iv3 a0 4 = iv a0 4; omega) (by omega) (by show iv3 a0 10 = iv a0 10 ∧ iv3 a0 11 = iv a0 11; omega) (hK.put (by omega) rq1 (by omega) rq2 pq2 rfl (by omega) pq3 (by omega) (by omega) (s6ne hW t_a0))
    refine hv4 (show 0 ≤ iv a0 7 ∧ iv a0 7 ≤ 100000 from hW.int t_a0 7) (show 0 ≤ iv a0 4 ∧ iv a0 4 ≤ 500 from hW.int t_a0 4) (show 0 ≤ iv a0 10 ∧ iv a0 10 ≤ 500 from hW.int t_a0 10) (show 0 ≤ iv a0 11 ∧ iv a0 11 ≤ 500 from hW.int t_a0 11) (fun ri16 ri17 ri18 ri19 => ?_)
    refine c_lv (lv2 := [(2, .int (iI 0)), (0, .ref a0), (1, .ref ob1)]) [0, 1, 2] rfl ?_
    exact Lp1 6 0 _ (by omega) hW hF0  (by omega) (by show iv a0 7 = iv a0 7 + 0; omega) (by show iv a0 4 = iv a0 4; omega) (by omega) (by show iv a0 10 = iv a0 10 ∧ iv a0 11 = iv a0 11; omega) PUK.zero
  · subst oq1
    refine c_lv (lv2 := [(0, .ref a0), (1, .null)]) [0, 1] rfl ?_
    refine c_st (st2 := []) rfl ?_
    refine hv4 (show 0 ≤ iv a0 4 ∧ iv a0 4 ≤ 500 from hW.int t_a0 4) (show 0 ≤ iv a0 7 ∧ iv a0 7 ≤ 100000 from hW.int t_a0 7) (show 0 ≤ iv a0 10 ∧ iv a0 10 ≤ 500 from hW.int t_a0 10) (show 0 ≤ iv a0 11 ∧ iv a0 11 ≤ 500 from hW.int t_a0 11) (fun ri20 ri21 ri22 ri23 => ?_)
    exact c_vret C dX6_push_4 rfl (by decide) (rom0 hph hph (by decide)) ⟨rfl, rfl, rfl, rfl, rfl, hF0, hW, ⟨by omega, PUX.no⟩⟩
set_option maxHeartbeats 4000000 in
set_option maxRecDepth 100000 in
theorem G_setTurn {l : Launch} {G : GT} {mi : Nat} {sk : Nat → Nat} {L : List Nat} {cl ln : Nat → Nat} {iv : Nat → Nat → Int} {rv : Nat → Nat → Option Nat}  {a0 : Nat} {r : Option Nat} {i : Int} (hW : WT (g0 G) sk L cl ln iv rv) (hS : SKL sk L cl) (t_a0 : ty L cl a0 15) (t_r : ∀ b, r = some b → ty L cl b 20) (h_i : -2147483648 ≤ i ∧ i ≤ 2147483647) (hc : iv a0 7 ≤ 90000) : Mc l G mi (Phi (g0 G) sk) PHM yX6_setTurn cX6_setTurn 3 (some .int) 1 [.ref a0, va_rf r, .int (iI i)] L cl ln iv rv 0 (fun v L2 cl2 ln2 iv2 rv2 => ∃ f : Int, v = some (.int (iI f)) ∧ L = L2 ∧ cl = cl2 ∧ ln = ln2 ∧ rv = rv2 ∧ fT [15, 54] L cl iv rv iv2 rv2 ∧ WT (g0 G) sk L2 cl2 ln2 iv2 rv2 ∧ (-2147483648 ≤ f ∧ f ≤ 2147483647) ∧ (((f = 0 ∨ f = 7) ∧ iv2 a0 4 = iv a0 4 ∧ iv a0 7 ≤ iv2 a0 7 ∧ iv2 a0 7 ≤ iv a0 7 + 4 ∧ iv2 a0 10 = iv a0 10 ∧ iv2 a0 11 = iv a0 11) ∧ STX ln iv rv iv2 a0 r f)) := by
  refine Mc.mk (by decide) (by cases r <;> exact Nat.le_of_ble_eq_true rfl) ?_
  intro p e s m args below meth c A C hM
  have hph := Phi.le hW hS
  refine c_lveq (show lv_args 0 [.ref a0, va_rf r, .int (iI i)] = [(0, .ref a0), (1, (va_rf r)), (2, .int (iI i))] from by cases r <;> rfl) ?_
  refine hv2 (show XT L cl ln L cl ln from XT.refl) (show fT [15, 54] L cl iv rv iv rv from fT.refl) (fun hX0 hF0 => ?_)
  refine c_aloadr_n (j := 1) (r := r) C dX6_setTurn_0 rfl ?_
  refine c_ifnonnull (r := r) (tgt := 12) C dX6_setTurn_1 (by decide) (fun ob1 oq1 => ?_) (fun oq1 => ?_)
  · subst oq1
    have tob1 := t_r ob1 rfl
    refine c_lv (lv2 := [(0, .ref a0), (1, .ref ob1), (2, .int (iI i))]) [0, 1, 2] rfl ?_
    refine c_st (st2 := []) rfl ?_
    refine c_aload_n (j := 0) (x := a0) C dX6_setTurn_12 rfl ?_
    refine c_aload_n (j := 1) (x := ob1) C dX6_setTurn_13 rfl ?_
    refine hv4 (show 0 ≤ iv a0 7 ∧ iv a0 7 ≤ 100000 from hW.int t_a0 7) (show 0 ≤ iv a0 4 ∧ iv a0 4 ≤ 500 from hW.int t_a0 4) (show 0 ≤ iv a0 10 ∧ iv a0 10 ≤ 500 from hW.int t_a0 10) (show 0 ≤ iv a0 11 ∧ iv a0 11 ≤ 500 from hW.int t_a0 11) (fun ri1 ri2 ri3 ri4 => ?_)
    refine d_callV (As := [.ref ob1]) (rest := []) C hM (G_push (a0 := a0) (r := (some ob1)) hW hS t_a0 (fun _ q => by cases q; exact tob1)  (by show iv a0 7 ≤ 90000; omega)) dX6_setTurn_14 kV_X6_86 rfl t_a0 rfl rfl (by decide) ck_7 rfl (Nat.le_of_ble_eq_true rfl) ⟨(Nat.le_of_ble_eq_true rfl), (Nat.le_of_ble_eq_true rfl)⟩ hph hph (show 0 + 0 = 0 from rfl) (by decide) (fun rh1 Lh1 clh1 lnh1 ivh1 rvh1 h1 => ?_)
    obtain ⟨rfl, rfl, rfl, rfl, rfl, fl1, W1, exf1⟩ := h1
    have F1 := hF0.call hX0 fl1 rfl
    refine c_st (st2 := []) rfl ?_
    refine hv5 (show 0 ≤ ivh1 a0 4 ∧ ivh1 a0 4 ≤ 500 from W1.int t_a0 4) (show 0 ≤ ivh1 a0 7 ∧ ivh1 a0 7 ≤ 100000 from W1.int t_a0 7) (show 0 ≤ ivh1 a0 10 ∧ ivh1 a0 10 ≤ 500 from W1.int t_a0 10) (show 0 ≤ ivh1 a0 11 ∧ ivh1 a0 11 ≤ 500 from W1.int t_a0 11) (show (ivh1 a0 4 = iv a0 4 ∧ iv a0 7 ≤ ivh1 a0 7 ∧ ivh1 a0 7 ≤ iv a0 7 + 4 ∧ ivh1 a0 10 = iv a0 10 ∧ ivh1 a0 11 = iv a0 11) ∧ PUX ln iv rv ivh1 a0 (some ob1) from exf1) (fun ri5 ri6 ri7 ri8 gf1 => ?_)
    refine c_iconst C dX6_setTurn_17 ?_
    exact c_iret C dX6_setTurn_18 rfl (by decide) (rom0 hph hph (by decide)) ⟨0, rfl, rfl, rfl, rfl, rfl, F1, W1, ⟨by decide, by decide⟩, ⟨by omega, Or.inr ⟨rfl, ⟨_, rfl⟩, gf1.2⟩⟩⟩
  · subst oq1
    refine c_lv (lv2 := [(0, .ref a0), (1, .null), (2, .int (iI i))]) [0, 1, 2] rfl ?_
    refine c_st (st2 := []) rfl ?_
    refine c_aload_n (j := 0) (x := a0) C dX6_setTurn_4 rfl ?_
    refine c_iload_n (j := 2) C dX6_setTurn_5 rfl ?_
    refine c_put (z := i) (k := 9) C ck_7 dX6_setTurn_6 w1_151 (by decide) rfl t_a0 rfl rfl (by decide) rfl (by rfl) (by rfl) (fun iv1 pq1 => ?_)
    refine hv2 (hW.puti pq1 t_a0 (show (-2147483648) ≤ i ∧ i ≤ 2147483647 by omega) rfl) (hF0.puti hX0 pq1 t_a0 rfl) (fun W2 F2 => ?_)
    refine c_bipush (z := 7) C dX6_setTurn_9 (by decide) ?_
    refine hv8 (show 0 ≤ iv1 a0 4 ∧ iv1 a0 4 ≤ 500 from W2.int t_a0 4) (show iv1 a0 4 = iv a0 4 from by rw [pq1]; exact up2_j (by decide)) (show 0 ≤ iv1 a0 7 ∧ iv1 a0 7 ≤ 100000 from W2.int t_a0 7) (show iv1 a0 7 = iv a0 7 from by rw [pq1]; exact up2_j (by decide)) (show 0 ≤ iv1 a0 10 ∧ iv1 a0 10 ≤ 500 from W2.int t_a0 10) (show iv1 a0 10 = iv a0 10 from by rw [pq1]; exact up2_j (by decide)) (show 0 ≤ iv1 a0 11 ∧ iv1 a0 11 ≤ 500 from W2.int t_a0 11) (show iv1 a0 11 = iv a0 11 from by rw [pq1]; exact up2_j (by decide)) (fun ri9 ie5 ri10 ie6 ri11 ie7 ri12 ie8 => ?_)
    exact c_iret C dX6_setTurn_11 rfl (by decide) (rom0 hph hph (by decide)) ⟨7, rfl, rfl, rfl, rfl, rfl, F2, W2, ⟨by decide, by decide⟩, ⟨by omega, Or.inl ⟨rfl, rfl⟩⟩⟩
set_option maxHeartbeats 4000000 in
set_option maxRecDepth 100000 in
theorem G_numberAhead {l : Launch} {G : GT} {mi : Nat} {sk : Nat → Nat} {L : List Nat} {cl ln : Nat → Nat} {iv : Nat → Nat → Int} {rv : Nat → Nat → Option Nat}  {a0 : Nat} {a1 : Nat} {i : Int} (hW : WT (g0 G) sk L cl ln iv rv) (hS : SKL sk L cl) (t_a0 : ty L cl a0 15) (t_a1 : ty L cl a1 100) (h_i : -2147483648 ≤ i ∧ i ≤ 2147483647) (hi : 0 ≤ i ∧ i < 500) : Mc l G mi (Phi (g0 G) sk) PHM yX6_numberAhead cX6_numberAhead 4 (some (.object "DotPress$Row")) 1 [.ref a0, .ref a1, .int (iI i)] L cl ln iv rv 0 (fun v L2 cl2 ln2 iv2 rv2 => ∃ f : Option Nat, v = some ((va_rf f)) ∧ L = L2 ∧ cl = cl2 ∧ ln = ln2 ∧ iv = iv2 ∧ rv = rv2 ∧ (∀ b, f = some b → ty L2 cl2 b 20) ∧ (NAX sk ln iv rv a0 a1 i f)) := by
  refine Mc.mk (by decide) (Nat.le_of_ble_eq_true rfl) ?_
  intro p e s m args below meth c A C hM
  refine hv3 (Phi.le hW hS) (show XT L cl ln L cl ln from XT.refl) (show fT [] L cl iv rv iv rv from fT.refl) (fun hph hX0 hF0 => ?_)
  refine c_aload_n (j := 0) (x := a0) C dX6_numberAhead_0 rfl ?_
  obtain ⟨rb1, rq1, trb1⟩ := hW.ref t_a0 0 rfl rfl rfl
  have lnrb1 : 500 ≤ ln rb1 ∧ ln rb1 ≤ 500 := hW.len trb1 rfl
  refine c_getr (k := 0) C ck_7 dX6_numberAhead_1 w1_136 (by decide) t_a0 rfl rfl (by decide) rfl rq1 ?_
  refine c_st (st2 := [.ref rb1]) rfl ?_
  refine c_iload_n (j := 2) C dX6_numberAhead_4 rfl ?_
  have ll1 : 500 ≤ ln rb1 ∧ ln rb1 ≤ 500 := hW.len trb1 rfl
  refine c_iald C dX6_numberAhead_5 trb1 rfl (by omega) (by omega) (by omega) ?_
  have ri1 : (-2147483648) ≤ iv rb1 i.toNat ∧ iv rb1 i.toNat ≤ 2147483647 := hW.int trb1 i.toNat
  refine c_callSN0 (As := [.int (iI (iv rb1 i.toNat))]) (rest := []) C (fun L E => s11_isDigit (iI (iv rb1 i.toNat))) dX6_numberAhead_6 kSN_X6_115 rfl rfl (Nat.le_of_ble_eq_true rfl) ⟨(Nat.le_of_ble_eq_true rfl), (Nat.le_of_ble_eq_true rfl)⟩ (rom0 hph hph (by decide)) ?_
  rcases inn_c (x := iv rb1 i.toNat) (lo := 48) (hi := 57) (r32_c (lo := (-2147483648)) (hi := 2147483647) ri1.1 ri1.2 (by decide) (by decide)) ⟨by decide, by decide⟩ ⟨by decide, by decide⟩ with ⟨hs1a, hs1b, hs1e⟩ | ⟨hs1a, hs1e⟩
  · refine c_st (st2 := [.int (iI 1)]) (by rw [show inn (iI (iv rb1 i.toNat)) 48 57 = iI 1 from hs1e]) ?_
    refine c_if_eq (tgt := 38) C ⟨by decide, by decide⟩ dX6_numberAhead_9 (by decide) (fun z => absurd z (by omega)) (fun _ => ?_)
    refine c_iload_n (j := 2) C dX6_numberAhead_12 rfl ?_
    refine c_aload_n (j := 0) (x := a0) C dX6_numberAhead_13 rfl ?_
    have ri2 : 0 ≤ iv a0 10 ∧ iv a0 10 ≤ 500 := hW.int t_a0 10
    refine c_get (k := 10) C ck_7 dX6_numberAhead_14 w1_152 (by decide) t_a0 rfl rfl (by decide) rfl ?_
    refine c_icmp_le (tgt := 34) C ⟨by omega, by omega⟩ (r32_c (lo := 0) (hi := 500) ri2.1 ri2.2 (by decide) (by decide)) dX6_numberAhead_17 (by decide) (fun c1 => ?_) (fun c1 => ?_)
    · refine c_iconst C dX6_numberAhead_34 ?_
      refine c_goto (tgt := 39) C dX6_numberAhead_35 (by decide) ?_
      refine c_istore_n (lv2 := [(3, .int (iI 1)), (0, .ref a0), (1, .ref a1), (2, .int (iI i))]) C dX6_numberAhead_39 (by decide) rfl ?_
      refine c_aload_n (j := 2) (x := a1) C dX6_numberAhead_40 rfl ?_
      have ri3 : (-2147483648) ≤ iv a1 0 ∧ iv a1 0 ≤ 2147483647 := hW.int t_a1 0
      refine c_get (k := 0) C ck_10 dX6_numberAhead_41 w2_177 (by decide) t_a1 rfl rfl (by decide) rfl ?_
      refine c_iconst C dX6_numberAhead_44 ?_
      refine c_icmp_ne (tgt := 61) C (r32_c (lo := (-2147483648)) (hi := 2147483647) ri3.1 ri3.2 (by decide) (by decide)) ⟨by decide, by decide⟩ dX6_numberAhead_45 (by decide) (fun c2 => ?_) (fun c2 => ?_)
      · refine c_null C dX6_numberAhead_61 ?_
        exact c_aret (x := none) C dX6_numberAhead_62 rfl (Or.inl ⟨_, rfl⟩) (by decide) (rom0 hph hph (by decide)) ⟨none, rfl, rfl, rfl, rfl, rfl, rfl, (fun _ q => by cases q), (NAX.no rq1 (by unfold isD; omega))⟩
      · refine c_iload_n (j := 0) C dX6_numberAhead_48 rfl ?_
        refine c_if_eq (tgt := 61) C ⟨by decide, by decide⟩ dX6_numberAhead_49 (by decide) (fun z => absurd z (by omega)) (fun _ => ?_)
        refine c_aload_n (j := 2) (x := a1) C dX6_numberAhead_52 rfl ?_
        obtain ⟨rb2, rq2, trb2⟩ := hW.ref t_a1 6 rfl rfl rfl
        have lnrb2 : 4 ≤ ln rb2 ∧ ln rb2 ≤ 4 := hW.len trb2 rfl
        refine c_getr (k := 6) C ck_10 dX6_numberAhead_53 w2_195 (by decide) t_a1 rfl rfl (by decide) rfl rq2 ?_
        refine c_st (st2 := [.ref rb2]) rfl ?_
        refine c_iconst C dX6_numberAhead_56 ?_
        have ll2 : 4 ≤ ln rb2 ∧ ln rb2 ≤ 4 := hW.len trb2 rfl
        rcases hW.opt trb2 ((1 : Int).toNat) rfl rfl with ⟨nq1, _⟩ | ⟨nb1, nq1, tnb1⟩
        · refine c_aaldR C dX6_numberAhead_57 trb2 rfl (by omega) (by omega) (by omega) nq1 ?_
          refine c_st (st2 := [.null]) rfl ?_
          refine c_goto (tgt := 62) C dX6_numberAhead_58 (by decide) ?_
          exact c_aret (x := none) C dX6_numberAhead_62 rfl (Or.inl ⟨_, rfl⟩) (by decide) (rom0 hph hph (by decide)) ⟨none, rfl, rfl, rfl, rfl, rfl, rfl, (fun _ q => by cases q), (NAX.yes rq1 (by unfold isD; omega) rq2 nq1)⟩
        · have tnb1 : ty L cl nb1 20 := tnb1
          refine c_aaldR C dX6_numberAhead_57 trb2 rfl (by omega) (by omega) (by omega) nq1 ?_
          refine c_st (st2 := [.ref nb1]) rfl ?_
          refine c_goto (tgt := 62) C dX6_numberAhead_58 (by decide) ?_
          exact c_aret (x := some nb1) C dX6_numberAhead_62 rfl (Or.inl ⟨_, rfl⟩) (by decide) (rom0 hph hph (by decide)) ⟨(some nb1), rfl, rfl, rfl, rfl, rfl, rfl, (fun _ q => by cases q; exact tnb1), (NAX.yes rq1 (by unfold isD; omega) rq2 nq1)⟩
    · refine c_aload_n (j := 0) (x := a0) C dX6_numberAhead_20 rfl ?_
      refine c_getr (k := 0) C ck_7 dX6_numberAhead_21 w1_136 (by decide) t_a0 rfl rfl (by decide) rfl rq1 ?_
      refine c_st (st2 := [.ref rb1]) rfl ?_
      refine c_iload_n (j := 2) C dX6_numberAhead_24 rfl ?_
      refine c_iconst C dX6_numberAhead_25 ?_
      refine c_isub C dX6_numberAhead_26 ?_
      refine c_iald C dX6_numberAhead_27 trb1 rfl (by omega) (by omega) (by omega) ?_
      have ri4 : (-2147483648) ≤ iv rb1 ((i - 1).toNat) ∧ iv rb1 ((i - 1).toNat) ≤ 2147483647 := hW.int trb1 ((i - 1).toNat)
      refine c_callSN0 (As := [.int (iI (iv rb1 (i - 1).toNat))]) (rest := []) C (fun L E => s11_isDigit (iI (iv rb1 (i - 1).toNat))) dX6_numberAhead_28 kSN_X6_115 rfl rfl (Nat.le_of_ble_eq_true rfl) ⟨(Nat.le_of_ble_eq_true rfl), (Nat.le_of_ble_eq_true rfl)⟩ (rom0 hph hph (by decide)) ?_
      rcases inn_c (x := iv rb1 (i - 1).toNat) (lo := 48) (hi := 57) ⟨by omega, by omega⟩ ⟨by decide, by decide⟩ ⟨by decide, by decide⟩ with ⟨hs2a, hs2b, hs2e⟩ | ⟨hs2a, hs2e⟩
      · refine c_st (st2 := [.int (iI 1)]) (by rw [show inn (iI (iv rb1 (i - 1).toNat)) 48 57 = iI 1 from hs2e]) ?_
        refine c_if_ne (tgt := 38) C ⟨by decide, by decide⟩ dX6_numberAhead_31 (by decide) (fun _ => ?_) (fun z => absurd z (by omega))
        refine c_iconst C dX6_numberAhead_38 ?_
        refine c_istore_n (lv2 := [(3, .int (iI 0)), (0, .ref a0), (1, .ref a1), (2, .int (iI i))]) C dX6_numberAhead_39 (by decide) rfl ?_
        refine c_aload_n (j := 2) (x := a1) C dX6_numberAhead_40 rfl ?_
        have ri5 : (-2147483648) ≤ iv a1 0 ∧ iv a1 0 ≤ 2147483647 := hW.int t_a1 0
        refine c_get (k := 0) C ck_10 dX6_numberAhead_41 w2_177 (by decide) t_a1 rfl rfl (by decide) rfl ?_
        refine c_iconst C dX6_numberAhead_44 ?_
        refine c_icmp_ne (tgt := 61) C (r32_c (lo := (-2147483648)) (hi := 2147483647) ri5.1 ri5.2 (by decide) (by decide)) ⟨by decide, by decide⟩ dX6_numberAhead_45 (by decide) (fun c3 => ?_) (fun c3 => ?_)
        · refine c_null C dX6_numberAhead_61 ?_
          exact c_aret (x := none) C dX6_numberAhead_62 rfl (Or.inl ⟨_, rfl⟩) (by decide) (rom0 hph hph (by decide)) ⟨none, rfl, rfl, rfl, rfl, rfl, rfl, (fun _ q => by cases q), (NAX.no rq1 (by unfold isD; omega))⟩
        · refine c_iload_n (j := 0) C dX6_numberAhead_48 rfl ?_
          refine c_if_eq (tgt := 61) C ⟨by decide, by decide⟩ dX6_numberAhead_49 (by decide) (fun _ => ?_) (fun z => absurd z (by omega))
          refine c_null C dX6_numberAhead_61 ?_
          exact c_aret (x := none) C dX6_numberAhead_62 rfl (Or.inl ⟨_, rfl⟩) (by decide) (rom0 hph hph (by decide)) ⟨none, rfl, rfl, rfl, rfl, rfl, rfl, (fun _ q => by cases q), (NAX.no rq1 (by unfold isD; omega))⟩
      · refine c_st (st2 := [.int (iI 0)]) (by rw [show inn (iI (iv rb1 (i - 1).toNat)) 48 57 = iI 0 from hs2e]) ?_
        refine c_if_ne (tgt := 38) C ⟨by decide, by decide⟩ dX6_numberAhead_31 (by decide) (fun z => absurd z (by omega)) (fun _ => ?_)
        refine c_iconst C dX6_numberAhead_34 ?_
        refine c_goto (tgt := 39) C dX6_numberAhead_35 (by decide) ?_
        refine c_istore_n (lv2 := [(3, .int (iI 1)), (0, .ref a0), (1, .ref a1), (2, .int (iI i))]) C dX6_numberAhead_39 (by decide) rfl ?_
        refine c_aload_n (j := 2) (x := a1) C dX6_numberAhead_40 rfl ?_
        have ri6 : (-2147483648) ≤ iv a1 0 ∧ iv a1 0 ≤ 2147483647 := hW.int t_a1 0
        refine c_get (k := 0) C ck_10 dX6_numberAhead_41 w2_177 (by decide) t_a1 rfl rfl (by decide) rfl ?_
        refine c_iconst C dX6_numberAhead_44 ?_
        refine c_icmp_ne (tgt := 61) C (r32_c (lo := (-2147483648)) (hi := 2147483647) ri6.1 ri6.2 (by decide) (by decide)) ⟨by decide, by decide⟩ dX6_numberAhead_45 (by decide) (fun c4 => ?_) (fun c4 => ?_)
        · refine c_null C dX6_numberAhead_61 ?_
          exact c_aret (x := none) C dX6_numberAhead_62 rfl (Or.inl ⟨_, rfl⟩) (by decide) (rom0 hph hph (by decide)) ⟨none, rfl, rfl, rfl, rfl, rfl, rfl, (fun _ q => by cases q), (NAX.no rq1 (by unfold isD; omega))⟩
        · refine c_iload_n (j := 0) C dX6_numberAhead_48 rfl ?_
          refine c_if_eq (tgt := 61) C ⟨by decide, by decide⟩ dX6_numberAhead_49 (by decide) (fun z => absurd z (by omega)) (fun _ => ?_)
          refine c_aload_n (j := 2) (x := a1) C dX6_numberAhead_52 rfl ?_
          obtain ⟨rb3, rq3, trb3⟩ := hW.ref t_a1 6 rfl rfl rfl
          have lnrb3 : 4 ≤ ln rb3 ∧ ln rb3 ≤ 4 := hW.len trb3 rfl
          refine c_getr (k := 6) C ck_10 dX6_numberAhead_53 w2_195 (by decide) t_a1 rfl rfl (by decide) rfl rq3 ?_
          refine c_st (st2 := [.ref rb3]) rfl ?_
          refine c_iconst C dX6_numberAhead_56 ?_
          have ll3 : 4 ≤ ln rb3 ∧ ln rb3 ≤ 4 := hW.len trb3 rfl
          rcases hW.opt trb3 ((1 : Int).toNat) rfl rfl with ⟨nq2, _⟩ | ⟨nb2, nq2, tnb2⟩
          · refine c_aaldR C dX6_numberAhead_57 trb3 rfl (by omega) (by omega) (by omega) nq2 ?_
            refine c_st (st2 := [.null]) rfl ?_
            refine c_goto (tgt := 62) C dX6_numberAhead_58 (by decide) ?_
            exact c_aret (x := none) C dX6_numberAhead_62 rfl (Or.inl ⟨_, rfl⟩) (by decide) (rom0 hph hph (by decide)) ⟨none, rfl, rfl, rfl, rfl, rfl, rfl, (fun _ q => by cases q), (NAX.yes rq1 (by unfold isD; omega) rq3 nq2)⟩
          · have tnb2 : ty L cl nb2 20 := tnb2
            refine c_aaldR C dX6_numberAhead_57 trb3 rfl (by omega) (by omega) (by omega) nq2 ?_
            refine c_st (st2 := [.ref nb2]) rfl ?_
            refine c_goto (tgt := 62) C dX6_numberAhead_58 (by decide) ?_
            exact c_aret (x := some nb2) C dX6_numberAhead_62 rfl (Or.inl ⟨_, rfl⟩) (by decide) (rom0 hph hph (by decide)) ⟨(some nb2), rfl, rfl, rfl, rfl, rfl, rfl, (fun _ q => by cases q; exact tnb2), (NAX.yes rq1 (by unfold isD; omega) rq3 nq2)⟩
  · refine c_st (st2 := [.int (iI 0)]) (by rw [show inn (iI (iv rb1 i.toNat)) 48 57 = iI 0 from hs1e]) ?_
    refine c_if_eq (tgt := 38) C ⟨by decide, by decide⟩ dX6_numberAhead_9 (by decide) (fun _ => ?_) (fun z => absurd z (by omega))
    refine c_iconst C dX6_numberAhead_38 ?_
    refine c_istore_n (lv2 := [(3, .int (iI 0)), (0, .ref a0), (1, .ref a1), (2, .int (iI i))]) C dX6_numberAhead_39 (by decide) rfl ?_
    refine c_aload_n (j := 2) (x := a1) C dX6_numberAhead_40 rfl ?_
    have ri7 : (-2147483648) ≤ iv a1 0 ∧ iv a1 0 ≤ 2147483647 := hW.int t_a1 0
    refine c_get (k := 0) C ck_10 dX6_numberAhead_41 w2_177 (by decide) t_a1 rfl rfl (by decide) rfl ?_
    refine c_iconst C dX6_numberAhead_44 ?_
    refine c_icmp_ne (tgt := 61) C (r32_c (lo := (-2147483648)) (hi := 2147483647) ri7.1 ri7.2 (by decide) (by decide)) ⟨by decide, by decide⟩ dX6_numberAhead_45 (by decide) (fun c5 => ?_) (fun c5 => ?_)
    · refine c_null C dX6_numberAhead_61 ?_
      have ri8 : 0 ≤ iv a0 10 ∧ iv a0 10 ≤ 500 := hW.int t_a0 10
      exact c_aret (x := none) C dX6_numberAhead_62 rfl (Or.inl ⟨_, rfl⟩) (by decide) (rom0 hph hph (by decide)) ⟨none, rfl, rfl, rfl, rfl, rfl, rfl, (fun _ q => by cases q), (NAX.no rq1 (by unfold isD; omega))⟩
    · refine c_iload_n (j := 0) C dX6_numberAhead_48 rfl ?_
      refine c_if_eq (tgt := 61) C ⟨by decide, by decide⟩ dX6_numberAhead_49 (by decide) (fun _ => ?_) (fun z => absurd z (by omega))
      refine c_null C dX6_numberAhead_61 ?_
      have ri9 : 0 ≤ iv a0 10 ∧ iv a0 10 ≤ 500 := hW.int t_a0 10
      exact c_aret (x := none) C dX6_numberAhead_62 rfl (Or.inl ⟨_, rfl⟩) (by decide) (rom0 hph hph (by decide)) ⟨none, rfl, rfl, rfl, rfl, rfl, rfl, (fun _ q => by cases q), (NAX.no rq1 (by unfold isD; omega))⟩
set_option maxHeartbeats 4000000 in
set_option maxRecDepth 100000 in
theorem G_markStart {l : Launch} {G : GT} {mi : Nat} {sk : Nat → Nat} {L : List Nat} {cl ln : Nat → Nat} {iv : Nat → Nat → Int} {rv : Nat → Nat → Option Nat}  {a0 : Nat} {i : Int} {n : Int} (hW : WT (g0 G) sk L cl ln iv rv) (hS : SKL sk L cl) (t_a0 : ty L cl a0 15) (h_i : -2147483648 ≤ i ∧ i ≤ 2147483647) (h_n : -2147483648 ≤ n ∧ n ≤ 2147483647) (hi : 0 ≤ i ∧ i ≤ 500 ∧ 0 ≤ n ∧ n ≤ 8) : Mc l G mi (Phi (g0 G) sk) PHM yX6_markStart cX6_markStart 4 none 0 [.ref a0, .int (iI i), .int (iI n)] L cl ln iv rv 0 (fun v L2 cl2 ln2 iv2 rv2 => v = none ∧ L = L2 ∧ cl = cl2 ∧ ln = ln2 ∧ rv = rv2 ∧ fT [53] L cl iv rv iv2 rv2 ∧ WT (g0 G) sk L2 cl2 ln2 iv2 rv2 ∧ (MSX iv rv iv2 a0 i n)) := by
  refine Mc.mk (by decide) (Nat.le_of_ble_eq_true rfl) ?_
  intro p e s m args below meth c A C hM
  refine hv3 (Phi.le hW hS) (show XT L cl ln L cl ln from XT.refl) (show fT [53] L cl iv rv iv rv from fT.refl) (fun hph hX0 hF0 => ?_)
  refine c_iload_n (j := 1) C dX6_markStart_0 rfl ?_
  refine c_istore_n (lv2 := [(3, .int (iI i)), (0, .ref a0), (1, .int (iI i)), (2, .int (iI n))]) C dX6_markStart_1 (by decide) rfl ?_
  have Lp1 : ∀ (nn : Nat) (k : Int) (ivb1 : Nat → Nat → Int) , i + 9 - k < (nn : Int) → WT (g0 G) sk L cl ln ivb1 rv → fT [53] L cl iv rv ivb1 rv → (i ≤ k ∧ k ≤ i + n) → (MSK iv rv ivb1 a0 i k) → cw p l e 0 ((PHM) + 0 - ((Phi (g0 G) sk) ln rv)) s m args below meth c G A 4 (MQ below (Qu G A (Qp G (Phi (g0 G) sk) ((Phi (g0 G) sk) ln rv) 0 (fun v L2 cl2 ln2 iv2 rv2 => v = none ∧ L = L2 ∧ cl = cl2 ∧ ln = ln2 ∧ rv = rv2 ∧ fT [53] L cl iv rv iv2 rv2 ∧ WT (g0 G) sk L2 cl2 ln2 iv2 rv2 ∧ (MSX iv rv iv2 a0 i n)))) args s (((PHM) + 0 - ((Phi (g0 G) sk) ln rv)) / 16) ((PHM) + 0 - ((Phi (g0 G) sk) ln rv)) A) (Phi (g0 G) sk) ((Phi (g0 G) sk) ln rv) L cl ln ivb1 rv 0 2 [(3, .int (iI k)), (0, .ref a0), (1, .int (iI i)), (2, .int (iI n))] [] := by
    intro nn
    induction nn with
    | zero =>
      intro  k ivb1 hm Wb1 Fb1  hk hM
      exact absurd hm (by omega)
    | succ nn ih1 =>
      intro  k ivb1 hm Wb1 Fb1  hk hM
      refine c_iload_n (j := 0) C dX6_markStart_2 rfl ?_
      refine c_iload_n (j := 2) C dX6_markStart_3 rfl ?_
      refine c_iload_n (j := 3) C dX6_markStart_4 rfl ?_
      refine c_iadd C dX6_markStart_5 ?_
      refine c_icmp_ge (tgt := 41) C ⟨by omega, by omega⟩ ⟨by omega, by omega⟩ dX6_markStart_6 (by decide) (fun c1 => ?_) (fun c1 => ?_)
      · exact c_vret C dX6_markStart_41 rfl (by decide) (rom0 hph hph (by decide)) ⟨rfl, rfl, rfl, rfl, rfl, Fb1, Wb1, (hM.fin ⟨by omega, by omega⟩)⟩
      · refine c_iload_n (j := 0) C dX6_markStart_9 rfl ?_
        refine c_sipush (z := 500) C dX6_markStart_10 (by decide) ?_
        refine c_icmp_ge (tgt := 41) C ⟨by omega, by omega⟩ ⟨by decide, by decide⟩ dX6_markStart_13 (by decide) (fun c2 => ?_) (fun c2 => ?_)
        · exact c_vret C dX6_markStart_41 rfl (by decide) (rom0 hph hph (by decide)) ⟨rfl, rfl, rfl, rfl, rfl, Fb1, Wb1, (hM.fin ⟨by omega, by omega⟩)⟩
        · refine c_aload_n (j := 1) (x := a0) C dX6_markStart_16 rfl ?_
          obtain ⟨rb1, rq1, trb1⟩ := Wb1.ref t_a0 3 rfl rfl rfl
          have lnrb1 : 500 ≤ ln rb1 ∧ ln rb1 ≤ 500 := Wb1.len trb1 rfl
          refine c_getr (k := 3) C ck_7 dX6_markStart_17 w1_139 (by decide) t_a0 rfl rfl (by decide) rfl rq1 ?_
          refine c_st (st2 := [.ref rb1]) rfl ?_
          refine c_iload_n (j := 0) C dX6_markStart_20 rfl ?_
          refine c_iload_n (j := 0) C dX6_markStart_21 rfl ?_
          refine c_iload_n (j := 2) C dX6_markStart_22 rfl ?_
          refine c_icmp_ne (tgt := 33) C ⟨by omega, by omega⟩ ⟨by omega, by omega⟩ dX6_markStart_23 (by decide) (fun c3 => ?_) (fun c3 => ?_)
          · refine c_iconst C dX6_markStart_33 ?_
            have ll1 : 500 ≤ ln rb1 ∧ ln rb1 ≤ 500 := Wb1.len trb1 rfl
            refine c_iast (x := (-1)) C dX6_markStart_34 trb1 rfl (by omega) (by omega) (by omega) (fun iv1 pq1 => ?_)
            refine hv2 (Wb1.puti pq1 trb1 (show (-2147483648) ≤ (-1) ∧ (-1) ≤ 2147483647 by omega) rfl) (Fb1.puti hX0 pq1 trb1 rfl) (fun W1 F1 => ?_)
            refine c_iinc (z := k) (j := 0) (lv2 := [(3, .int (iI (k + 1))), (0, .ref a0), (1, .int (iI i)), (2, .int (iI n))]) C dX6_markStart_35 rfl (by decide) rfl ?_
            refine c_goto (tgt := 2) C dX6_markStart_38 (by decide) ?_
            refine hv3 (show 0 ≤ iv1 a0 7 ∧ iv1 a0 7 ≤ 100000 from W1.int t_a0 7) (show iv1 a0 7 = ivb1 a0 7 from by rw [pq1]; exact up2_k (ne_ty t_a0 trb1 (by decide))) (show ivb1 a0 7 = iv a0 7 from Fb1.i t_a0 rfl 7) (fun ri1 ie1 ie2 => ?_)
            refine c_lv (lv2 := [(3, .int (iI (k + 1))), (0, .ref a0), (1, .int (iI i)), (2, .int (iI n))]) [0, 1, 2, 3] rfl ?_
            exact ih1  (k + 1) _ (by omega) W1 F1  (by omega) (hM.step rq1 pq1 ⟨by omega, by omega⟩ (by omega))
          · refine c_aload_n (j := 1) (x := a0) C dX6_markStart_26 rfl ?_
            refine hv2 (show 0 ≤ ivb1 a0 7 ∧ ivb1 a0 7 ≤ 100000 from Wb1.int t_a0 7) (show ivb1 a0 7 = iv a0 7 from Fb1.i t_a0 rfl 7) (fun ri2 ie3 => ?_)
            refine c_get (k := 7) C ck_7 dX6_markStart_27 w1_147 (by decide) t_a0 rfl rfl (by decide) rfl ?_
            refine c_goto (tgt := 34) C dX6_markStart_30 (by decide) ?_
            have ll2 : 500 ≤ ln rb1 ∧ ln rb1 ≤ 500 := Wb1.len trb1 rfl
            refine c_iast (x := ivb1 a0 7) C dX6_markStart_34 trb1 rfl (by omega) (by omega) (by omega) (fun iv2 pq2 => ?_)
            refine hv2 (Wb1.puti pq2 trb1 (show (-2147483648) ≤ (ivb1 a0 7) ∧ (ivb1 a0 7) ≤ 2147483647 by omega) rfl) (Fb1.puti hX0 pq2 trb1 rfl) (fun W2 F2 => ?_)
            refine c_iinc (z := k) (j := 0) (lv2 := [(3, .int (iI (k + 1))), (0, .ref a0), (1, .int (iI i)), (2, .int (iI n))]) C dX6_markStart_35 rfl (by decide) rfl ?_
            refine c_goto (tgt := 2) C dX6_markStart_38 (by decide) ?_
            refine hv2 (show 0 ≤ iv2 a0 7 ∧ iv2 a0 7 ≤ 100000 from W2.int t_a0 7) (show iv2 a0 7 = ivb1 a0 7 from by rw [pq2]; exact up2_k (ne_ty t_a0 trb1 (by decide))) (fun ri3 ie4 => ?_)
            refine c_lv (lv2 := [(3, .int (iI (k + 1))), (0, .ref a0), (1, .int (iI i)), (2, .int (iI n))]) [0, 1, 2, 3] rfl ?_
            exact ih1  (k + 1) _ (by omega) W2 F2  (by omega) (hM.step rq1 pq2 ⟨by omega, by omega⟩ (by omega))
  refine c_lv (lv2 := [(3, .int (iI i)), (0, .ref a0), (1, .int (iI i)), (2, .int (iI n))]) [0, 1, 2, 3] rfl ?_
  exact Lp1 510 i _ (by omega) hW hF0  (by omega) MSK.zero
set_option maxHeartbeats 4000000 in
set_option maxRecDepth 100000 in
theorem G_setPart {l : Launch} {G : GT} {mi : Nat} {sk : Nat → Nat} {L : List Nat} {cl ln : Nat → Nat} {iv : Nat → Nat → Int} {rv : Nat → Nat → Option Nat}  {a0 : Nat} {r : Option Nat} {i : Int} {n : Int} (hW : WT (g0 G) sk L cl ln iv rv) (hS : SKL sk L cl) (t_a0 : ty L cl a0 15) (t_r : ∀ b, r = some b → ty L cl b 100) (h_i : -2147483648 ≤ i ∧ i ≤ 2147483647) (h_n : -2147483648 ≤ n ∧ n ≤ 2147483647) (hi : 0 ≤ i ∧ i ≤ 500 ∧ 0 ≤ n ∧ n ≤ 500 ∧ iv a0 7 ≤ 50000) : Mc l G mi (Phi (g0 G) sk) PHM yX6_setPart cX6_setPart 9 (some .int) 5 [.ref a0, va_rf r, .int (iI i), .int (iI n)] L cl ln iv rv 0 (fun v L2 cl2 ln2 iv2 rv2 => ∃ f : Int, v = some (.int (iI f)) ∧ L = L2 ∧ cl = cl2 ∧ ln = ln2 ∧ rv = rv2 ∧ fT [15, 53, 54, 55] L cl iv rv iv2 rv2 ∧ WT (g0 G) sk L2 cl2 ln2 iv2 rv2 ∧ (-2147483648 ≤ f ∧ f ≤ 2147483647) ∧ (((f = 0 ∨ f = 6 ∨ f = 7) ∧ iv2 a0 4 = iv a0 4 ∧ iv2 a0 7 ≤ iv a0 7 + 208 ∧ (f = 0 → (iv2 a0 7 ≤ iv a0 7 ∨ iv2 a0 7 ≤ 200))) ∧ SPX sk ln iv rv iv2 a0 r i n f)) := by
  refine Mc.mk (by decide) (by cases r <;> exact Nat.le_of_ble_eq_true rfl) ?_
  intro p e s m args below meth c A C hM
  have hph := Phi.le hW hS
  refine c_lveq (show lv_args 0 [.ref a0, va_rf r, .int (iI i), .int (iI n)] = [(0, .ref a0), (1, (va_rf r)), (2, .int (iI i)), (3, .int (iI n))] from by cases r <;> rfl) ?_
  refine hv3 (show 0 ≤ iv a0 7 from (hW.int t_a0 7).1) (show XT L cl ln L cl ln from XT.refl) (show fT [15, 53, 54, 55] L cl iv rv iv rv from fT.refl) (fun hc00 hX0 hF0 => ?_)
  refine c_aloadr_n (j := 1) (r := r) C dX6_setPart_0 rfl ?_
  refine c_ifnonnull (r := r) (tgt := 6) C dX6_setPart_1 (by decide) (fun ob1 oq1 => ?_) (fun oq1 => ?_)
  · subst oq1
    have tob1 := t_r ob1 rfl
    refine c_lv (lv2 := [(0, .ref a0), (1, .ref ob1), (2, .int (iI i)), (3, .int (iI n))]) [0, 1, 2, 3] rfl ?_
    refine c_st (st2 := []) rfl ?_
    refine c_aload_n (j := 0) (x := a0) C dX6_setPart_6 rfl ?_
    refine c_iload_n (j := 2) C dX6_setPart_7 rfl ?_
    refine c_put (z := i) (k := 10) C ck_7 dX6_setPart_8 w1_152 (by decide) rfl t_a0 rfl rfl (by decide) rfl (by rfl) (by rfl) (fun iv1 pq1 => ?_)
    refine hv2 (hW.puti pq1 t_a0 (show 0 ≤ i ∧ i ≤ 500 by omega) rfl) (hF0.puti hX0 pq1 t_a0 rfl) (fun W1 F1 => ?_)
    refine c_aload_n (j := 0) (x := a0) C dX6_setPart_11 rfl ?_
    refine c_iload_n (j := 3) C dX6_setPart_12 rfl ?_
    refine c_put (z := n) (k := 11) C ck_7 dX6_setPart_13 w1_153 (by decide) rfl t_a0 rfl rfl (by decide) rfl (by rfl) (by rfl) (fun iv2 pq2 => ?_)
    refine hv2 (W1.puti pq2 t_a0 (show 0 ≤ n ∧ n ≤ 500 by omega) rfl) (F1.puti hX0 pq2 t_a0 rfl) (fun W2 F2 => ?_)
    have Lp1 : ∀ (nn : Nat) (cp : Option Nat) (aq : Int) (ivb1 : Nat → Nat → Int) , 509 - aq < (nn : Int) → WT (g0 G) sk L cl ln ivb1 rv → fT [15, 53, 54, 55] L cl iv rv ivb1 rv → (∀ b, cp = some b → ty L cl b 20) → (i ≤ aq ∧ aq ≤ 508) → (ivb1 a0 7 ≤ iv a0 7 ∨ ivb1 a0 7 ≤ 200) → (ivb1 a0 4 = iv a0 4) → (ivb1 a0 10 = i ∧ ivb1 a0 11 = n) → (SPI sk ln iv rv ivb1 a0 ob1 i n aq) → (CPX iv rv ob1 cp) → cw p l e 5 ((PHM) + 0 - ((Phi (g0 G) sk) ln rv)) s m args below meth c G A 9 (MQ below (Qu G A (Qp G (Phi (g0 G) sk) ((Phi (g0 G) sk) ln rv) 0 (fun v L2 cl2 ln2 iv2 rv2 => ∃ f : Int, v = some (.int (iI f)) ∧ L = L2 ∧ cl = cl2 ∧ ln = ln2 ∧ rv = rv2 ∧ fT [15, 53, 54, 55] L cl iv rv iv2 rv2 ∧ WT (g0 G) sk L2 cl2 ln2 iv2 rv2 ∧ (-2147483648 ≤ f ∧ f ≤ 2147483647) ∧ (((f = 0 ∨ f = 6 ∨ f = 7) ∧ iv2 a0 4 = iv a0 4 ∧ iv2 a0 7 ≤ iv a0 7 + 208 ∧ (f = 0 → (iv2 a0 7 ≤ iv a0 7 ∨ iv2 a0 7 ≤ 200))) ∧ SPX sk ln iv rv iv2 a0 (some ob1) i n f)))) args s (((PHM) + 0 - ((Phi (g0 G) sk) ln rv)) / 16) ((PHM) + 0 - ((Phi (g0 G) sk) ln rv)) A) (Phi (g0 G) sk) ((Phi (g0 G) sk) ln rv) L cl ln ivb1 rv 0 39 [(4, (va_rf cp)), (5, .int (iI aq)), (0, .ref a0), (1, .ref ob1), (2, .int (iI i)), (3, .int (iI n))] [] := by
      intro nn
      induction nn with
      | zero =>
        intro cp aq ivb1 hm Wb1 Fb1 ty_cp hat hc7 hc4 hc11 hI hCP
        exact absurd hm (by omega)
      | succ nn ih1 =>
        intro cp aq ivb1 hm Wb1 Fb1 ty_cp hat hc7 hc4 hc11 hI hCP
        refine c_iload (j := 1) C dX6_setPart_39 rfl ?_
        refine c_iload_n (j := 5) C dX6_setPart_41 rfl ?_
        refine c_icmp_ge (tgt := 179) C ⟨by omega, by omega⟩ ⟨by omega, by omega⟩ dX6_setPart_42 (by decide) (fun c1 => ?_) (fun c1 => ?_)
        · refine c_iconst C dX6_setPart_179 ?_
          refine hv4 (show 0 ≤ ivb1 a0 4 ∧ ivb1 a0 4 ≤ 500 from Wb1.int t_a0 4) (show 0 ≤ ivb1 a0 7 ∧ ivb1 a0 7 ≤ 100000 from Wb1.int t_a0 7) (show 0 ≤ ivb1 a0 10 ∧ ivb1 a0 10 ≤ 500 from Wb1.int t_a0 10) (show 0 ≤ ivb1 a0 11 ∧ ivb1 a0 11 ≤ 500 from Wb1.int t_a0 11) (fun ri1 ri2 ri3 ri4 => ?_)
          exact c_iret C dX6_setPart_180 rfl (by decide) (rom0 hph hph (by decide)) ⟨0, rfl, rfl, rfl, rfl, rfl, Fb1, Wb1, ⟨by decide, by decide⟩, ⟨by omega, hI.done (by omega)⟩⟩
        · refine c_aload_n (j := 2) (x := a0) C dX6_setPart_45 rfl ?_
          obtain ⟨rb1, rq1, trb1⟩ := Wb1.ref t_a0 0 rfl rfl rfl
          have lnrb1 : 500 ≤ ln rb1 ∧ ln rb1 ≤ 500 := Wb1.len trb1 rfl
          refine c_getr (k := 0) C ck_7 dX6_setPart_46 w1_136 (by decide) t_a0 rfl rfl (by decide) rfl rq1 ?_
          refine c_st (st2 := [.ref rb1]) rfl ?_
          refine c_iload (j := 1) C dX6_setPart_49 rfl ?_
          have ll1 : 500 ≤ ln rb1 ∧ ln rb1 ≤ 500 := Wb1.len trb1 rfl
          refine c_iald C dX6_setPart_51 trb1 rfl (by omega) (by omega) (by omega) ?_
          refine hv2 (show (-2147483648) ≤ ivb1 rb1 aq.toNat ∧ ivb1 rb1 aq.toNat ≤ 2147483647 from Wb1.int trb1 aq.toNat) (show ivb1 rb1 aq.toNat = iv rb1 aq.toNat from Fb1.i trb1 rfl aq.toNat) (fun ri5 ie5 => ?_)
          refine c_istore (lv2 := [(6, .int (iI (ivb1 rb1 aq.toNat))), (4, (va_rf cp)), (5, .int (iI aq)), (0, .ref a0), (1, .ref ob1), (2, .int (iI i)), (3, .int (iI n))]) C dX6_setPart_52 (by decide) rfl ?_
          refine c_aload_n (j := 3) (x := a0) C dX6_setPart_54 rfl ?_
          refine c_aload_n (j := 4) (x := ob1) C dX6_setPart_55 rfl ?_
          refine c_iload (j := 2) C dX6_setPart_56 rfl ?_
          refine d_callV (As := [.ref ob1, .int (iI aq)]) (rest := []) C hM (G_numberAhead (a0 := a0) (a1 := ob1) (i := aq) Wb1 hS t_a0 tob1 (by omega) (by show 0 ≤ aq ∧ aq < 500; omega)) dX6_setPart_58 kV_X6_90 rfl t_a0 rfl rfl (by decide) ck_7 rfl (Nat.le_of_ble_eq_true rfl) ⟨(Nat.le_of_ble_eq_true rfl), (Nat.le_of_ble_eq_true rfl)⟩ hph hph (show 0 + 0 = 0 from rfl) (by decide) (fun rh1 Lh1 clh1 lnh1 ivh1 rvh1 h1 => ?_)
          obtain ⟨f1, rfl, rfl, rfl, rfl, rfl, rfl, rgf1, exf1⟩ := h1
          refine c_st (st2 := [(va_rf f1)]) rfl ?_
          refine hv5 (show NAX sk ln ivb1 rv a0 ob1 aq f1 from exf1) (show 0 ≤ ivb1 a0 4 ∧ ivb1 a0 4 ≤ 500 from Wb1.int t_a0 4) (show 0 ≤ ivb1 a0 7 ∧ ivb1 a0 7 ≤ 100000 from Wb1.int t_a0 7) (show 0 ≤ ivb1 a0 10 ∧ ivb1 a0 10 ≤ 500 from Wb1.int t_a0 10) (show 0 ≤ ivb1 a0 11 ∧ ivb1 a0 11 ≤ 500 from Wb1.int t_a0 11) (fun gf1 ri6 ri7 ri8 ri9 => ?_)
          have naf1 : NA0 sk ln iv rv a0 ob1 i n aq f1 := NAX.mv gf1 hW hS Wb1 Fb1 t_a0 rgf1 (by omega) (by omega) ⟨by omega, by omega⟩
          refine c_astorer (r := f1) (lv2 := [(7, (va_rf f1)), (6, .int (iI (ivb1 rb1 aq.toNat))), (4, (va_rf cp)), (5, .int (iI aq)), (0, .ref a0), (1, .ref ob1), (2, .int (iI i)), (3, .int (iI n))]) C dX6_setPart_61 (by decide) rfl ?_
          refine c_aload_n (j := 4) (x := a0) C dX6_setPart_63 rfl ?_
          refine c_aload_n (j := 5) (x := ob1) C dX6_setPart_64 rfl ?_
          refine c_iload (j := 3) C dX6_setPart_65 rfl ?_
          refine c_iload (j := 1) C dX6_setPart_67 rfl ?_
          refine d_callV (As := [.ref ob1, .int (iI aq), .int (iI (ivb1 rb1 aq.toNat))]) (rest := []) C hM (G_find (a0 := a0) (a1 := ob1) (i := aq) (x := ivb1 rb1 aq.toNat) Wb1 hS t_a0 tob1 (by omega) (by omega) (by show 0 ≤ aq ∧ aq ≤ 500; omega)) dX6_setPart_69 kV_X6_94 rfl t_a0 rfl rfl (by decide) ck_7 rfl (Nat.le_of_ble_eq_true rfl) ⟨(Nat.le_of_ble_eq_true rfl), (Nat.le_of_ble_eq_true rfl)⟩ hph hph (show 0 + 0 = 0 from rfl) (by decide) (fun rh2 Lh2 clh2 lnh2 ivh2 rvh2 h2 => ?_)
          obtain ⟨f2, rfl, rfl, rfl, rfl, rfl, fl2, W4, rgf2, exf2⟩ := h2
          have F3 := Fb1.call hX0 fl2 rfl
          refine c_st (st2 := [(va_rf f2)]) rfl ?_
          refine hv2 (show FDX sk ln ivb1 rv a0 ob1 aq (ivb1 rb1 aq.toNat) f2 from exf2) (hI.ni Wb1 fl2 t_a0 rfl rfl rfl) (fun gf2 sif2 => ?_)
          have fdf2 : FD0 sk ln iv rv a0 ob1 i n aq (ivb1 rb1 aq.toNat) f2 := FDX.mv gf2 hW hS Wb1 Fb1 t_a0 rgf2 (by omega) (by omega) ⟨by omega, by omega⟩
          refine c_astorer (r := f2) (lv2 := [(8, (va_rf f2)), (7, (va_rf f1)), (6, .int (iI (ivb1 rb1 aq.toNat))), (4, (va_rf cp)), (5, .int (iI aq)), (0, .ref a0), (1, .ref ob1), (2, .int (iI i)), (3, .int (iI n))]) C dX6_setPart_72 (by decide) (by cases f1 <;> rfl) ?_
          refine c_aloadr (j := 0) (r := f2) C dX6_setPart_74 rfl ?_
          refine c_ifnonnull (r := f2) (tgt := 110) C dX6_setPart_76 (by decide) (fun ob2 oq2 => ?_) (fun oq2 => ?_)
          · subst oq2
            have tob2 := rgf2 ob2 rfl
            refine c_lv (lv2 := [(8, .ref ob2), (7, (va_rf f1)), (6, .int (iI (ivb1 rb1 aq.toNat))), (4, (va_rf cp)), (5, .int (iI aq)), (0, .ref a0), (1, .ref ob1), (2, .int (iI i)), (3, .int (iI n))]) [0, 1, 2, 3, 4, 5, 6, 7, 8] rfl ?_
            refine c_st (st2 := []) rfl ?_
            refine c_aload (j := 0) (x := ob2) C dX6_setPart_110 rfl ?_
            refine c_ifnonnull (r := (some ob2)) (tgt := 124) C dX6_setPart_112 (by decide) (fun _ _ => ?_) (fun q => by cases q)
            refine c_aload_n (j := 5) (x := a0) C dX6_setPart_124 rfl ?_
            refine c_iload (j := 4) C dX6_setPart_125 rfl ?_
            refine c_aload (j := 0) (x := ob2) C dX6_setPart_127 rfl ?_
            obtain ⟨rb2, rq2, trb2⟩ := W4.ref tob2 1 rfl rfl rfl
            have lnrb2 : 0 ≤ ln rb2 ∧ ln rb2 ≤ 8 := W4.len trb2 rfl
            refine c_getr (k := 1) C ck_6 dX6_setPart_129 w3_141 (by decide) tob2 rfl rfl (by decide) rfl rq2 ?_
            refine c_st (st2 := [.ref rb2, .int (iI aq), .ref a0]) rfl ?_
            have ll2 : 0 ≤ ln rb2 ∧ ln rb2 ≤ 8 := W4.len trb2 rfl
            refine c_alenI C dX6_setPart_132 trb2 rfl ?_
            refine d_callV (As := [.int (iI aq), .int (iI ((ln rb2 : Nat) : Int))]) (rest := []) C hM (G_markStart (a0 := a0) (i := aq) (n := ((ln rb2 : Nat) : Int)) W4 hS t_a0 (by omega) (by omega) (by show 0 ≤ aq ∧ aq ≤ 500 ∧ 0 ≤ ((ln rb2 : Nat) : Int) ∧ ((ln rb2 : Nat) : Int) ≤ 8; omega)) dX6_setPart_133 kV_X6_105 rfl t_a0 rfl rfl (by decide) ck_7 rfl (Nat.le_of_ble_eq_true rfl) ⟨(Nat.le_of_ble_eq_true rfl), (Nat.le_of_ble_eq_true rfl)⟩ hph hph (show 0 + 0 = 0 from rfl) (by decide) (fun rh3 Lh3 clh3 lnh3 ivh3 rvh3 h3 => ?_)
            obtain ⟨rfl, rfl, rfl, rfl, rfl, fl3, W5, exf3⟩ := h3
            have F4 := F3.call hX0 fl3 rfl
            refine c_st (st2 := []) rfl ?_
            have gf3 : MSX ivh2 rv ivh3 a0 aq ((ln rb2 : Nat) : Int) := exf3
            have sif3 := SPI.mark sif2 W4 fl3 t_a0 rfl rfl ⟨by omega, by omega⟩ gf3
            refine c_aload_n (j := 5) (x := a0) C dX6_setPart_136 rfl ?_
            refine c_aloadr (j := 1) (r := f1) C dX6_setPart_137 rfl ?_
            refine hv12 (show 0 ≤ ivh3 a0 7 ∧ ivh3 a0 7 ≤ 100000 from W5.int t_a0 7) (show ivh3 a0 7 = ivh2 a0 7 from fl3.i t_a0 rfl 7) (show ivh2 a0 7 = ivb1 a0 7 from fl2.i t_a0 rfl 7) (show 0 ≤ ivh3 a0 4 ∧ ivh3 a0 4 ≤ 500 from W5.int t_a0 4) (show ivh3 a0 4 = ivh2 a0 4 from fl3.i t_a0 rfl 4) (show ivh2 a0 4 = ivb1 a0 4 from fl2.i t_a0 rfl 4) (show 0 ≤ ivh3 a0 10 ∧ ivh3 a0 10 ≤ 500 from W5.int t_a0 10) (show ivh3 a0 10 = ivh2 a0 10 from fl3.i t_a0 rfl 10) (show ivh2 a0 10 = ivb1 a0 10 from fl2.i t_a0 rfl 10) (show 0 ≤ ivh3 a0 11 ∧ ivh3 a0 11 ≤ 500 from W5.int t_a0 11) (show ivh3 a0 11 = ivh2 a0 11 from fl3.i t_a0 rfl 11) (show ivh2 a0 11 = ivb1 a0 11 from fl2.i t_a0 rfl 11) (fun ri10 ie10 ie11 ri11 ie12 ie13 ri12 ie14 ie15 ri13 ie16 ie17 => ?_)
            refine d_callV (As := [(va_rf f1)]) (rest := []) C hM (G_push (a0 := a0) (r := f1) W5 hS t_a0 rgf1  (by show ivh3 a0 7 ≤ 90000; omega)) dX6_setPart_139 kV_X6_86 rfl t_a0 rfl rfl (by decide) ck_7 rfl (Nat.le_of_ble_eq_true rfl) ⟨(Nat.le_of_ble_eq_true rfl), (Nat.le_of_ble_eq_true rfl)⟩ hph hph (show 0 + 0 = 0 from rfl) (by decide) (fun rh4 Lh4 clh4 lnh4 ivh4 rvh4 h4 => ?_)
            obtain ⟨rfl, rfl, rfl, rfl, rfl, fl4, W6, exf4⟩ := h4
            have F5 := F4.call hX0 fl4 rfl
            refine c_st (st2 := []) rfl ?_
            refine hv5 (show 0 ≤ ivh4 a0 4 ∧ ivh4 a0 4 ≤ 500 from W6.int t_a0 4) (show 0 ≤ ivh4 a0 7 ∧ ivh4 a0 7 ≤ 100000 from W6.int t_a0 7) (show 0 ≤ ivh4 a0 10 ∧ ivh4 a0 10 ≤ 500 from W6.int t_a0 10) (show 0 ≤ ivh4 a0 11 ∧ ivh4 a0 11 ≤ 500 from W6.int t_a0 11) (show (ivh4 a0 4 = ivh3 a0 4 ∧ ivh3 a0 7 ≤ ivh4 a0 7 ∧ ivh4 a0 7 ≤ ivh3 a0 7 + 4 ∧ ivh4 a0 10 = ivh3 a0 10 ∧ ivh4 a0 11 = ivh3 a0 11) ∧ PUX ln ivh3 rv ivh4 a0 f1 from exf4) (fun ri14 ri15 ri16 ri17 gf4 => ?_)
            refine c_aload_n (j := 5) (x := a0) C dX6_setPart_142 rfl ?_
            refine c_aload (j := 0) (x := ob2) C dX6_setPart_143 rfl ?_
            refine d_callV (As := [.ref ob2]) (rest := []) C hM (G_push (a0 := a0) (r := (some ob2)) W6 hS t_a0 (fun _ q => by cases q; exact tob2)  (by show ivh4 a0 7 ≤ 90000; omega)) dX6_setPart_145 kV_X6_86 rfl t_a0 rfl rfl (by decide) ck_7 rfl (Nat.le_of_ble_eq_true rfl) ⟨(Nat.le_of_ble_eq_true rfl), (Nat.le_of_ble_eq_true rfl)⟩ hph hph (show 0 + 0 = 0 from rfl) (by decide) (fun rh5 Lh5 clh5 lnh5 ivh5 rvh5 h5 => ?_)
            obtain ⟨rfl, rfl, rfl, rfl, rfl, fl5, W7, exf5⟩ := h5
            have F6 := F5.call hX0 fl5 rfl
            refine c_st (st2 := []) rfl ?_
            refine hv11 (show 0 ≤ ivh5 a0 4 ∧ ivh5 a0 4 ≤ 500 from W7.int t_a0 4) (show 0 ≤ ivh5 a0 7 ∧ ivh5 a0 7 ≤ 100000 from W7.int t_a0 7) (show 0 ≤ ivh5 a0 10 ∧ ivh5 a0 10 ≤ 500 from W7.int t_a0 10) (show 0 ≤ ivh5 a0 11 ∧ ivh5 a0 11 ≤ 500 from W7.int t_a0 11) (show (ivh5 a0 4 = ivh4 a0 4 ∧ ivh4 a0 7 ≤ ivh5 a0 7 ∧ ivh5 a0 7 ≤ ivh4 a0 7 + 4 ∧ ivh5 a0 10 = ivh4 a0 10 ∧ ivh5 a0 11 = ivh4 a0 11) ∧ PUX ln ivh4 rv ivh5 a0 (some ob2) from exf5) (show (-2147483648) ≤ ivh5 ob1 0 ∧ ivh5 ob1 0 ≤ 2147483647 from W7.int tob1 0) (show ivh5 ob1 0 = ivh4 ob1 0 from fl5.i tob1 rfl 0) (show ivh4 ob1 0 = ivh3 ob1 0 from fl4.i tob1 rfl 0) (show ivh3 ob1 0 = ivh2 ob1 0 from fl3.i tob1 rfl 0) (show ivh2 ob1 0 = ivb1 ob1 0 from fl2.i tob1 rfl 0) (show ivb1 ob1 0 = iv ob1 0 from Fb1.i tob1 rfl 0) (fun ri18 ri19 ri20 ri21 gf5 ri22 ie26 ie27 ie28 ie29 ie30 => ?_)
            have s2f5 : SP2 sk ln iv rv ivh5 a0 ob1 i n aq ob2 := SPM.two sif3 rq2 rfl W5 W6 t_a0 fl4 fl5 rfl rfl hW F4 F5 rgf1 tob2 (PCX.plain naf1 fdf2 rq1 (by omega) ⟨by omega, by omega⟩) gf4.2 gf5.2
            refine c_aload_n (j := 5) (x := a0) C dX6_setPart_148 rfl ?_
            refine c_get (k := 7) C ck_7 dX6_setPart_149 w1_147 (by decide) t_a0 rfl rfl (by decide) rfl ?_
            refine c_sipush (z := 200) C dX6_setPart_152 (by decide) ?_
            refine c_icmp_le (tgt := 161) C (r32_c (lo := 0) (hi := 100000) ri19.1 ri19.2 (by decide) (by decide)) ⟨by decide, by decide⟩ dX6_setPart_155 (by decide) (fun c2 => ?_) (fun c2 => ?_)
            · refine c_iload (j := 4) C dX6_setPart_161 rfl ?_
              refine c_iconst C dX6_setPart_163 ?_
              refine c_aload (j := 0) (x := ob2) C dX6_setPart_164 rfl ?_
              refine c_getr (k := 1) C ck_6 dX6_setPart_166 w3_141 (by decide) tob2 rfl rfl (by decide) rfl rq2 ?_
              refine c_st (st2 := [.ref rb2, .int (iI 1), .int (iI aq)]) rfl ?_
              refine c_alenI C dX6_setPart_169 trb2 rfl ?_
              obtain ⟨mn1, hmn1, emn1⟩ := mmax_c (x := 1) (y := ((ln rb2 : Nat) : Int)) ⟨by decide, by decide⟩ ⟨by omega, by omega⟩
              refine c_mmax (w := iI mn1) C dX6_setPart_170 w4_130 w2_148 w1_14 w2_149 (by decide) (rom0 hph hph (by decide)) (Nat.le_of_ble_eq_true rfl) emn1 ?_
              refine c_iadd C dX6_setPart_173 ?_
              refine c_istore (lv2 := [(5, .int (iI (aq + mn1))), (8, .ref ob2), (7, (va_rf f1)), (6, .int (iI (ivb1 rb1 aq.toNat))), (4, (va_rf cp)), (0, .ref a0), (1, .ref ob1), (2, .int (iI i)), (3, .int (iI n))]) C dX6_setPart_174 (by decide) (by cases cp <;> rfl) ?_
              refine c_goto (tgt := 39) C dX6_setPart_176 (by decide) ?_
              refine c_lv (lv2 := [(4, (va_rf cp)), (5, .int (iI (aq + mn1))), (0, .ref a0), (1, .ref ob1), (2, .int (iI i)), (3, .int (iI n))]) [4, 0, 5, 6, 7, 8] rfl ?_
              exact ih1  cp (aq + mn1) _ (by omega) W7 F6 ty_cp (by omega) (by show ivh5 a0 7 ≤ iv a0 7 ∨ ivh5 a0 7 ≤ 200; omega) (by show ivh5 a0 4 = iv a0 4; omega) (by show ivh5 a0 10 = i ∧ ivh5 a0 11 = n; omega) (s2f5.next (by omega) (by omega) rq2 (by omega)) hCP
            · refine c_bipush (z := 6) C dX6_setPart_158 (by decide) ?_
              exact c_iret C dX6_setPart_160 rfl (by decide) (rom0 hph hph (by decide)) ⟨6, rfl, rfl, rfl, rfl, rfl, F6, W7, ⟨by decide, by decide⟩, ⟨by omega, s2f5.many (by omega) (by omega) (by decide)⟩⟩
          · subst oq2
            refine c_lv (lv2 := [(8, .null), (7, (va_rf f1)), (6, .int (iI (ivb1 rb1 aq.toNat))), (4, (va_rf cp)), (5, .int (iI aq)), (0, .ref a0), (1, .ref ob1), (2, .int (iI i)), (3, .int (iI n))]) [0, 1, 2, 3, 4, 5, 6, 7, 8] rfl ?_
            refine c_st (st2 := []) rfl ?_
            refine c_aloadr (j := 3) (r := cp) C dX6_setPart_79 rfl ?_
            refine c_ifnull (r := cp) (tgt := 110) C dX6_setPart_81 (by decide) (fun oq3 => ?_) (fun ob3 oq3 => ?_)
            · subst oq3
              refine c_lv (lv2 := [(8, .null), (7, (va_rf f1)), (6, .int (iI (ivb1 rb1 aq.toNat))), (4, .null), (5, .int (iI aq)), (0, .ref a0), (1, .ref ob1), (2, .int (iI i)), (3, .int (iI n))]) [0, 1, 2, 3, 4, 5, 6, 7, 8] rfl ?_
              refine c_st (st2 := []) rfl ?_
              refine c_aloadr (j := 0) (r := none) C dX6_setPart_110 rfl ?_
              refine c_st (st2 := [.null]) rfl ?_
              refine c_ifnonnull (r := none) (tgt := 124) C dX6_setPart_112 (by decide) (fun _ q => by cases q) (fun _ => ?_)
              refine c_aload_n (j := 5) (x := a0) C dX6_setPart_115 rfl ?_
              refine c_iload (j := 4) C dX6_setPart_116 rfl ?_
              refine c_put (z := aq) (k := 9) C ck_7 dX6_setPart_118 w1_151 (by decide) rfl t_a0 rfl rfl (by decide) rfl (by rfl) (by rfl) (fun iv3 pq3 => ?_)
              refine hv2 (W4.puti pq3 t_a0 (show (-2147483648) ≤ aq ∧ aq ≤ 2147483647 by omega) rfl) (F3.puti hX0 pq3 t_a0 rfl) (fun W8 F7 => ?_)
              refine c_bipush (z := 7) C dX6_setPart_121 (by decide) ?_
              refine hv16 (show 0 ≤ iv3 a0 4 ∧ iv3 a0 4 ≤ 500 from W8.int t_a0 4) (show iv3 a0 4 = ivh2 a0 4 from by rw [pq3]; exact up2_j (by decide)) (show ivh2 a0 4 = ivb1 a0 4 from fl2.i t_a0 rfl 4) (show 0 ≤ iv3 a0 7 ∧ iv3 a0 7 ≤ 100000 from W8.int t_a0 7) (show iv3 a0 7 = ivh2 a0 7 from by rw [pq3]; exact up2_j (by decide)) (show ivh2 a0 7 = ivb1 a0 7 from fl2.i t_a0 rfl 7) (show 0 ≤ iv3 a0 10 ∧ iv3 a0 10 ≤ 500 from W8.int t_a0 10) (show iv3 a0 10 = ivh2 a0 10 from by rw [pq3]; exact up2_j (by decide)) (show ivh2 a0 10 = ivb1 a0 10 from fl2.i t_a0 rfl 10) (show 0 ≤ iv3 a0 11 ∧ iv3 a0 11 ≤ 500 from W8.int t_a0 11) (show iv3 a0 11 = ivh2 a0 11 from by rw [pq3]; exact up2_j (by decide)) (show ivh2 a0 11 = ivb1 a0 11 from fl2.i t_a0 rfl 11) (show (-2147483648) ≤ iv3 ob1 0 ∧ iv3 ob1 0 ≤ 2147483647 from W8.int tob1 0) (show iv3 ob1 0 = ivh2 ob1 0 from by rw [pq3]; exact up2_k (ne_ty tob1 t_a0 (by decide))) (show ivh2 ob1 0 = ivb1 ob1 0 from fl2.i tob1 rfl 0) (show ivb1 ob1 0 = iv ob1 0 from Fb1.i tob1 rfl 0) (fun ri23 ie31 ie32 ri24 ie33 ie34 ri25 ie35 ie36 ri26 ie37 ie38 ri27 ie39 ie40 ie41 => ?_)
              exact c_iret C dX6_setPart_123 rfl (by decide) (rom0 hph hph (by decide)) ⟨7, rfl, rfl, rfl, rfl, rfl, F7, W8, ⟨by decide, by decide⟩, ⟨by omega, SPI.unk sif2 (NPX.no fdf2 rq1 (by omega) ⟨by omega, by omega⟩ (CPX.no hCP)) (by omega) (by decide)⟩⟩
            · subst oq3
              have tob3 := ty_cp ob3 rfl
              refine c_lv (lv2 := [(8, .null), (7, (va_rf f1)), (6, .int (iI (ivb1 rb1 aq.toNat))), (4, .ref ob3), (5, .int (iI aq)), (0, .ref a0), (1, .ref ob1), (2, .int (iI i)), (3, .int (iI n))]) [0, 1, 2, 3, 4, 5, 6, 7, 8] rfl ?_
              refine c_st (st2 := []) rfl ?_
              refine c_iload (j := 2) C dX6_setPart_84 rfl ?_
              refine c_callSN0 (As := [.int (iI (ivb1 rb1 aq.toNat))]) (rest := []) C (fun L E => s11_isGreat (iI (ivb1 rb1 aq.toNat))) dX6_setPart_86 kSN_X6_98 rfl rfl (Nat.le_of_ble_eq_true rfl) ⟨(Nat.le_of_ble_eq_true rfl), (Nat.le_of_ble_eq_true rfl)⟩ (rom0 hph hph (by decide)) ?_
              rcases inn_c (x := ivb1 rb1 aq.toNat) (lo := 65) (hi := 90) (r32_c (lo := (-2147483648)) (hi := 2147483647) ri5.1 ri5.2 (by decide) (by decide)) ⟨by decide, by decide⟩ ⟨by decide, by decide⟩ with ⟨hs1a, hs1b, hs1e⟩ | ⟨hs1a, hs1e⟩
              · refine c_st (st2 := [.int (iI 1)]) (by rw [show inn (iI (ivb1 rb1 aq.toNat)) 65 90 = iI 1 from hs1e]) ?_
                refine c_if_eq (tgt := 110) C ⟨by decide, by decide⟩ dX6_setPart_89 (by decide) (fun z => absurd z (by omega)) (fun _ => ?_)
                refine c_aload (j := 3) (x := ob3) C dX6_setPart_92 rfl ?_
                refine c_astore (lv2 := [(7, .ref ob3), (8, .null), (6, .int (iI (ivb1 rb1 aq.toNat))), (4, .ref ob3), (5, .int (iI aq)), (0, .ref a0), (1, .ref ob1), (2, .int (iI i)), (3, .int (iI n))]) C dX6_setPart_94 (by decide) rfl ?_
                refine c_aload_n (j := 5) (x := a0) C dX6_setPart_96 rfl ?_
                refine c_aload_n (j := 6) (x := ob1) C dX6_setPart_97 rfl ?_
                refine c_iload (j := 4) C dX6_setPart_98 rfl ?_
                refine c_iload (j := 2) C dX6_setPart_100 rfl ?_
                refine c_bipush (z := 32) C dX6_setPart_102 (by decide) ?_
                refine c_iadd C dX6_setPart_104 ?_
                refine hv8 (show 0 ≤ ivh2 a0 4 ∧ ivh2 a0 4 ≤ 500 from W4.int t_a0 4) (show ivh2 a0 4 = ivb1 a0 4 from fl2.i t_a0 rfl 4) (show 0 ≤ ivh2 a0 7 ∧ ivh2 a0 7 ≤ 100000 from W4.int t_a0 7) (show ivh2 a0 7 = ivb1 a0 7 from fl2.i t_a0 rfl 7) (show 0 ≤ ivh2 a0 10 ∧ ivh2 a0 10 ≤ 500 from W4.int t_a0 10) (show ivh2 a0 10 = ivb1 a0 10 from fl2.i t_a0 rfl 10) (show 0 ≤ ivh2 a0 11 ∧ ivh2 a0 11 ≤ 500 from W4.int t_a0 11) (show ivh2 a0 11 = ivb1 a0 11 from fl2.i t_a0 rfl 11) (fun ri28 ie42 ri29 ie43 ri30 ie44 ri31 ie45 => ?_)
                refine d_callV (As := [.ref ob1, .int (iI aq), .int (iI ((ivb1 rb1 aq.toNat) + 32))]) (rest := []) C hM (G_find (a0 := a0) (a1 := ob1) (i := aq) (x := (ivb1 rb1 aq.toNat) + 32) W4 hS t_a0 tob1 (by omega) (by omega) (by show 0 ≤ aq ∧ aq ≤ 500; omega)) dX6_setPart_105 kV_X6_94 rfl t_a0 rfl rfl (by decide) ck_7 rfl (Nat.le_of_ble_eq_true rfl) ⟨(Nat.le_of_ble_eq_true rfl), (Nat.le_of_ble_eq_true rfl)⟩ hph hph (show 0 + 0 = 0 from rfl) (by decide) (fun rh6 Lh6 clh6 lnh6 ivh6 rvh6 h6 => ?_)
                obtain ⟨f6, rfl, rfl, rfl, rfl, rfl, fl6, W9, rgf6, exf6⟩ := h6
                have F8 := F3.call hX0 fl6 rfl
                refine c_st (st2 := [(va_rf f6)]) rfl ?_
                refine hv2 (show FDX sk ln ivh2 rv a0 ob1 aq ((ivb1 rb1 aq.toNat) + 32) f6 from exf6) (sif2.ni W4 fl6 t_a0 rfl rfl rfl) (fun gf6 sif6 => ?_)
                have fdf6 : FD0 sk ln iv rv a0 ob1 i n aq ((ivb1 rb1 aq.toNat) + 32) f6 := FDX.mv gf6 hW hS W4 F3 t_a0 rgf6 (by omega) (by omega) ⟨by omega, by omega⟩
                refine c_astorer (r := f6) (lv2 := [(8, (va_rf f6)), (7, .ref ob3), (6, .int (iI (ivb1 rb1 aq.toNat))), (4, .ref ob3), (5, .int (iI aq)), (0, .ref a0), (1, .ref ob1), (2, .int (iI i)), (3, .int (iI n))]) C dX6_setPart_108 (by decide) rfl ?_
                refine c_aloadr (j := 0) (r := f6) C dX6_setPart_110 rfl ?_
                refine c_ifnonnull (r := f6) (tgt := 124) C dX6_setPart_112 (by decide) (fun ob4 oq4 => ?_) (fun oq4 => ?_)
                · subst oq4
                  have tob4 := rgf6 ob4 rfl
                  refine c_lv (lv2 := [(8, .ref ob4), (7, .ref ob3), (6, .int (iI (ivb1 rb1 aq.toNat))), (4, .ref ob3), (5, .int (iI aq)), (0, .ref a0), (1, .ref ob1), (2, .int (iI i)), (3, .int (iI n))]) [0, 1, 2, 3, 4, 5, 6, 7, 8] rfl ?_
                  refine c_st (st2 := []) rfl ?_
                  refine c_aload_n (j := 5) (x := a0) C dX6_setPart_124 rfl ?_
                  refine c_iload (j := 4) C dX6_setPart_125 rfl ?_
                  refine c_aload (j := 0) (x := ob4) C dX6_setPart_127 rfl ?_
                  obtain ⟨rb3, rq3, trb3⟩ := W9.ref tob4 1 rfl rfl rfl
                  have lnrb3 : 0 ≤ ln rb3 ∧ ln rb3 ≤ 8 := W9.len trb3 rfl
                  refine c_getr (k := 1) C ck_6 dX6_setPart_129 w3_141 (by decide) tob4 rfl rfl (by decide) rfl rq3 ?_
                  refine c_st (st2 := [.ref rb3, .int (iI aq), .ref a0]) rfl ?_
                  have ll3 : 0 ≤ ln rb3 ∧ ln rb3 ≤ 8 := W9.len trb3 rfl
                  refine c_alenI C dX6_setPart_132 trb3 rfl ?_
                  refine d_callV (As := [.int (iI aq), .int (iI ((ln rb3 : Nat) : Int))]) (rest := []) C hM (G_markStart (a0 := a0) (i := aq) (n := ((ln rb3 : Nat) : Int)) W9 hS t_a0 (by omega) (by omega) (by show 0 ≤ aq ∧ aq ≤ 500 ∧ 0 ≤ ((ln rb3 : Nat) : Int) ∧ ((ln rb3 : Nat) : Int) ≤ 8; omega)) dX6_setPart_133 kV_X6_105 rfl t_a0 rfl rfl (by decide) ck_7 rfl (Nat.le_of_ble_eq_true rfl) ⟨(Nat.le_of_ble_eq_true rfl), (Nat.le_of_ble_eq_true rfl)⟩ hph hph (show 0 + 0 = 0 from rfl) (by decide) (fun rh7 Lh7 clh7 lnh7 ivh7 rvh7 h7 => ?_)
                  obtain ⟨rfl, rfl, rfl, rfl, rfl, fl7, W10, exf7⟩ := h7
                  have F9 := F8.call hX0 fl7 rfl
                  refine c_st (st2 := []) rfl ?_
                  have gf7 : MSX ivh6 rv ivh7 a0 aq ((ln rb3 : Nat) : Int) := exf7
                  have sif7 := SPI.mark sif6 W9 fl7 t_a0 rfl rfl ⟨by omega, by omega⟩ gf7
                  refine c_aload_n (j := 5) (x := a0) C dX6_setPart_136 rfl ?_
                  refine c_aload (j := 1) (x := ob3) C dX6_setPart_137 rfl ?_
                  refine hv12 (show 0 ≤ ivh7 a0 7 ∧ ivh7 a0 7 ≤ 100000 from W10.int t_a0 7) (show ivh7 a0 7 = ivh6 a0 7 from fl7.i t_a0 rfl 7) (show ivh6 a0 7 = ivh2 a0 7 from fl6.i t_a0 rfl 7) (show 0 ≤ ivh7 a0 4 ∧ ivh7 a0 4 ≤ 500 from W10.int t_a0 4) (show ivh7 a0 4 = ivh6 a0 4 from fl7.i t_a0 rfl 4) (show ivh6 a0 4 = ivh2 a0 4 from fl6.i t_a0 rfl 4) (show 0 ≤ ivh7 a0 10 ∧ ivh7 a0 10 ≤ 500 from W10.int t_a0 10) (show ivh7 a0 10 = ivh6 a0 10 from fl7.i t_a0 rfl 10) (show ivh6 a0 10 = ivh2 a0 10 from fl6.i t_a0 rfl 10) (show 0 ≤ ivh7 a0 11 ∧ ivh7 a0 11 ≤ 500 from W10.int t_a0 11) (show ivh7 a0 11 = ivh6 a0 11 from fl7.i t_a0 rfl 11) (show ivh6 a0 11 = ivh2 a0 11 from fl6.i t_a0 rfl 11) (fun ri32 ie46 ie47 ri33 ie48 ie49 ri34 ie50 ie51 ri35 ie52 ie53 => ?_)
                  refine d_callV (As := [.ref ob3]) (rest := []) C hM (G_push (a0 := a0) (r := (some ob3)) W10 hS t_a0 (fun _ q => by cases q; exact tob3)  (by show ivh7 a0 7 ≤ 90000; omega)) dX6_setPart_139 kV_X6_86 rfl t_a0 rfl rfl (by decide) ck_7 rfl (Nat.le_of_ble_eq_true rfl) ⟨(Nat.le_of_ble_eq_true rfl), (Nat.le_of_ble_eq_true rfl)⟩ hph hph (show 0 + 0 = 0 from rfl) (by decide) (fun rh8 Lh8 clh8 lnh8 ivh8 rvh8 h8 => ?_)
                  obtain ⟨rfl, rfl, rfl, rfl, rfl, fl8, W11, exf8⟩ := h8
                  have F10 := F9.call hX0 fl8 rfl
                  refine c_st (st2 := []) rfl ?_
                  refine hv5 (show 0 ≤ ivh8 a0 4 ∧ ivh8 a0 4 ≤ 500 from W11.int t_a0 4) (show 0 ≤ ivh8 a0 7 ∧ ivh8 a0 7 ≤ 100000 from W11.int t_a0 7) (show 0 ≤ ivh8 a0 10 ∧ ivh8 a0 10 ≤ 500 from W11.int t_a0 10) (show 0 ≤ ivh8 a0 11 ∧ ivh8 a0 11 ≤ 500 from W11.int t_a0 11) (show (ivh8 a0 4 = ivh7 a0 4 ∧ ivh7 a0 7 ≤ ivh8 a0 7 ∧ ivh8 a0 7 ≤ ivh7 a0 7 + 4 ∧ ivh8 a0 10 = ivh7 a0 10 ∧ ivh8 a0 11 = ivh7 a0 11) ∧ PUX ln ivh7 rv ivh8 a0 (some ob3) from exf8) (fun ri36 ri37 ri38 ri39 gf8 => ?_)
                  refine c_aload_n (j := 5) (x := a0) C dX6_setPart_142 rfl ?_
                  refine c_aload (j := 0) (x := ob4) C dX6_setPart_143 rfl ?_
                  refine d_callV (As := [.ref ob4]) (rest := []) C hM (G_push (a0 := a0) (r := (some ob4)) W11 hS t_a0 (fun _ q => by cases q; exact tob4)  (by show ivh8 a0 7 ≤ 90000; omega)) dX6_setPart_145 kV_X6_86 rfl t_a0 rfl rfl (by decide) ck_7 rfl (Nat.le_of_ble_eq_true rfl) ⟨(Nat.le_of_ble_eq_true rfl), (Nat.le_of_ble_eq_true rfl)⟩ hph hph (show 0 + 0 = 0 from rfl) (by decide) (fun rh9 Lh9 clh9 lnh9 ivh9 rvh9 h9 => ?_)
                  obtain ⟨rfl, rfl, rfl, rfl, rfl, fl9, W12, exf9⟩ := h9
                  have F11 := F10.call hX0 fl9 rfl
                  refine c_st (st2 := []) rfl ?_
                  refine hv12 (show 0 ≤ ivh9 a0 4 ∧ ivh9 a0 4 ≤ 500 from W12.int t_a0 4) (show 0 ≤ ivh9 a0 7 ∧ ivh9 a0 7 ≤ 100000 from W12.int t_a0 7) (show 0 ≤ ivh9 a0 10 ∧ ivh9 a0 10 ≤ 500 from W12.int t_a0 10) (show 0 ≤ ivh9 a0 11 ∧ ivh9 a0 11 ≤ 500 from W12.int t_a0 11) (show (ivh9 a0 4 = ivh8 a0 4 ∧ ivh8 a0 7 ≤ ivh9 a0 7 ∧ ivh9 a0 7 ≤ ivh8 a0 7 + 4 ∧ ivh9 a0 10 = ivh8 a0 10 ∧ ivh9 a0 11 = ivh8 a0 11) ∧ PUX ln ivh8 rv ivh9 a0 (some ob4) from exf9) (show (-2147483648) ≤ ivh9 ob1 0 ∧ ivh9 ob1 0 ≤ 2147483647 from W12.int tob1 0) (show ivh9 ob1 0 = ivh8 ob1 0 from fl9.i tob1 rfl 0) (show ivh8 ob1 0 = ivh7 ob1 0 from fl8.i tob1 rfl 0) (show ivh7 ob1 0 = ivh6 ob1 0 from fl7.i tob1 rfl 0) (show ivh6 ob1 0 = ivh2 ob1 0 from fl6.i tob1 rfl 0) (show ivh2 ob1 0 = ivb1 ob1 0 from fl2.i tob1 rfl 0) (show ivb1 ob1 0 = iv ob1 0 from Fb1.i tob1 rfl 0) (fun ri40 ri41 ri42 ri43 gf9 ri44 ie62 ie63 ie64 ie65 ie66 ie67 => ?_)
                  have s2f9 : SP2 sk ln iv rv ivh9 a0 ob1 i n aq ob4 := SPM.two sif7 rq3 rfl W10 W11 t_a0 fl8 fl9 rfl rfl hW F9 F10 (fun _ q => by cases q; exact tob3) tob4 (PCX.cap2 fdf2 fdf6 rq1 (by omega) rfl (by unfold isG; omega) hCP ⟨by omega, by omega⟩) gf8.2 gf9.2
                  refine c_aload_n (j := 5) (x := a0) C dX6_setPart_148 rfl ?_
                  refine c_get (k := 7) C ck_7 dX6_setPart_149 w1_147 (by decide) t_a0 rfl rfl (by decide) rfl ?_
                  refine c_sipush (z := 200) C dX6_setPart_152 (by decide) ?_
                  refine c_icmp_le (tgt := 161) C (r32_c (lo := 0) (hi := 100000) ri41.1 ri41.2 (by decide) (by decide)) ⟨by decide, by decide⟩ dX6_setPart_155 (by decide) (fun c3 => ?_) (fun c3 => ?_)
                  · refine c_iload (j := 4) C dX6_setPart_161 rfl ?_
                    refine c_iconst C dX6_setPart_163 ?_
                    refine c_aload (j := 0) (x := ob4) C dX6_setPart_164 rfl ?_
                    refine c_getr (k := 1) C ck_6 dX6_setPart_166 w3_141 (by decide) tob4 rfl rfl (by decide) rfl rq3 ?_
                    refine c_st (st2 := [.ref rb3, .int (iI 1), .int (iI aq)]) rfl ?_
                    refine c_alenI C dX6_setPart_169 trb3 rfl ?_
                    obtain ⟨mn2, hmn2, emn2⟩ := mmax_c (x := 1) (y := ((ln rb3 : Nat) : Int)) ⟨by decide, by decide⟩ ⟨by omega, by omega⟩
                    refine c_mmax (w := iI mn2) C dX6_setPart_170 w4_130 w2_148 w1_14 w2_149 (by decide) (rom0 hph hph (by decide)) (Nat.le_of_ble_eq_true rfl) emn2 ?_
                    refine c_iadd C dX6_setPart_173 ?_
                    refine c_istore (lv2 := [(5, .int (iI (aq + mn2))), (8, .ref ob4), (7, .ref ob3), (6, .int (iI (ivb1 rb1 aq.toNat))), (4, .ref ob3), (0, .ref a0), (1, .ref ob1), (2, .int (iI i)), (3, .int (iI n))]) C dX6_setPart_174 (by decide) rfl ?_
                    refine c_goto (tgt := 39) C dX6_setPart_176 (by decide) ?_
                    refine c_lv (lv2 := [(4, .ref ob3), (5, .int (iI (aq + mn2))), (0, .ref a0), (1, .ref ob1), (2, .int (iI i)), (3, .int (iI n))]) [4, 0, 5, 6, 7, 8] rfl ?_
                    exact ih1  (some ob3) (aq + mn2) _ (by omega) W12 F11 (fun _ q => by cases q; exact tob3) (by omega) (by show ivh9 a0 7 ≤ iv a0 7 ∨ ivh9 a0 7 ≤ 200; omega) (by show ivh9 a0 4 = iv a0 4; omega) (by show ivh9 a0 10 = i ∧ ivh9 a0 11 = n; omega) (s2f9.next (by omega) (by omega) rq3 (by omega)) hCP
                  · refine c_bipush (z := 6) C dX6_setPart_158 (by decide) ?_
                    exact c_iret C dX6_setPart_160 rfl (by decide) (rom0 hph hph (by decide)) ⟨6, rfl, rfl, rfl, rfl, rfl, F11, W12, ⟨by decide, by decide⟩, ⟨by omega, s2f9.many (by omega) (by omega) (by decide)⟩⟩
                · subst oq4
                  refine c_lv (lv2 := [(8, .null), (7, .ref ob3), (6, .int (iI (ivb1 rb1 aq.toNat))), (4, .ref ob3), (5, .int (iI aq)), (0, .ref a0), (1, .ref ob1), (2, .int (iI i)), (3, .int (iI n))]) [0, 1, 2, 3, 4, 5, 6, 7, 8] rfl ?_
                  refine c_st (st2 := []) rfl ?_
                  refine c_aload_n (j := 5) (x := a0) C dX6_setPart_115 rfl ?_
                  refine c_iload (j := 4) C dX6_setPart_116 rfl ?_
                  refine c_put (z := aq) (k := 9) C ck_7 dX6_setPart_118 w1_151 (by decide) rfl t_a0 rfl rfl (by decide) rfl (by rfl) (by rfl) (fun iv4 pq4 => ?_)
                  refine hv2 (W9.puti pq4 t_a0 (show (-2147483648) ≤ aq ∧ aq ≤ 2147483647 by omega) rfl) (F8.puti hX0 pq4 t_a0 rfl) (fun W13 F12 => ?_)
                  refine c_bipush (z := 7) C dX6_setPart_121 (by decide) ?_
                  refine hv17 (show 0 ≤ iv4 a0 4 ∧ iv4 a0 4 ≤ 500 from W13.int t_a0 4) (show iv4 a0 4 = ivh6 a0 4 from by rw [pq4]; exact up2_j (by decide)) (show ivh6 a0 4 = ivh2 a0 4 from fl6.i t_a0 rfl 4) (show 0 ≤ iv4 a0 7 ∧ iv4 a0 7 ≤ 100000 from W13.int t_a0 7) (show iv4 a0 7 = ivh6 a0 7 from by rw [pq4]; exact up2_j (by decide)) (show ivh6 a0 7 = ivh2 a0 7 from fl6.i t_a0 rfl 7) (show 0 ≤ iv4 a0 10 ∧ iv4 a0 10 ≤ 500 from W13.int t_a0 10) (show iv4 a0 10 = ivh6 a0 10 from by rw [pq4]; exact up2_j (by decide)) (show ivh6 a0 10 = ivh2 a0 10 from fl6.i t_a0 rfl 10) (show 0 ≤ iv4 a0 11 ∧ iv4 a0 11 ≤ 500 from W13.int t_a0 11) (show iv4 a0 11 = ivh6 a0 11 from by rw [pq4]; exact up2_j (by decide)) (show ivh6 a0 11 = ivh2 a0 11 from fl6.i t_a0 rfl 11) (show (-2147483648) ≤ iv4 ob1 0 ∧ iv4 ob1 0 ≤ 2147483647 from W13.int tob1 0) (show iv4 ob1 0 = ivh6 ob1 0 from by rw [pq4]; exact up2_k (ne_ty tob1 t_a0 (by decide))) (show ivh6 ob1 0 = ivh2 ob1 0 from fl6.i tob1 rfl 0) (show ivh2 ob1 0 = ivb1 ob1 0 from fl2.i tob1 rfl 0) (show ivb1 ob1 0 = iv ob1 0 from Fb1.i tob1 rfl 0) (fun ri45 ie68 ie69 ri46 ie70 ie71 ri47 ie72 ie73 ri48 ie74 ie75 ri49 ie76 ie77 ie78 ie79 => ?_)
                  exact c_iret C dX6_setPart_123 rfl (by decide) (rom0 hph hph (by decide)) ⟨7, rfl, rfl, rfl, rfl, rfl, F12, W13, ⟨by decide, by decide⟩, ⟨by omega, SPI.unk sif6 (NPX.cap fdf2 fdf6 rq1 (by omega) rfl ⟨by omega, by omega⟩) (by omega) (by decide)⟩⟩
              · refine c_st (st2 := [.int (iI 0)]) (by rw [show inn (iI (ivb1 rb1 aq.toNat)) 65 90 = iI 0 from hs1e]) ?_
                refine c_if_eq (tgt := 110) C ⟨by decide, by decide⟩ dX6_setPart_89 (by decide) (fun _ => ?_) (fun z => absurd z (by omega))
                refine c_aloadr (j := 0) (r := none) C dX6_setPart_110 rfl ?_
                refine c_st (st2 := [.null]) rfl ?_
                refine c_ifnonnull (r := none) (tgt := 124) C dX6_setPart_112 (by decide) (fun _ q => by cases q) (fun _ => ?_)
                refine c_aload_n (j := 5) (x := a0) C dX6_setPart_115 rfl ?_
                refine c_iload (j := 4) C dX6_setPart_116 rfl ?_
                refine c_put (z := aq) (k := 9) C ck_7 dX6_setPart_118 w1_151 (by decide) rfl t_a0 rfl rfl (by decide) rfl (by rfl) (by rfl) (fun iv5 pq5 => ?_)
                refine hv2 (W4.puti pq5 t_a0 (show (-2147483648) ≤ aq ∧ aq ≤ 2147483647 by omega) rfl) (F3.puti hX0 pq5 t_a0 rfl) (fun W14 F13 => ?_)
                refine c_bipush (z := 7) C dX6_setPart_121 (by decide) ?_
                refine hv16 (show 0 ≤ iv5 a0 4 ∧ iv5 a0 4 ≤ 500 from W14.int t_a0 4) (show iv5 a0 4 = ivh2 a0 4 from by rw [pq5]; exact up2_j (by decide)) (show ivh2 a0 4 = ivb1 a0 4 from fl2.i t_a0 rfl 4) (show 0 ≤ iv5 a0 7 ∧ iv5 a0 7 ≤ 100000 from W14.int t_a0 7) (show iv5 a0 7 = ivh2 a0 7 from by rw [pq5]; exact up2_j (by decide)) (show ivh2 a0 7 = ivb1 a0 7 from fl2.i t_a0 rfl 7) (show 0 ≤ iv5 a0 10 ∧ iv5 a0 10 ≤ 500 from W14.int t_a0 10) (show iv5 a0 10 = ivh2 a0 10 from by rw [pq5]; exact up2_j (by decide)) (show ivh2 a0 10 = ivb1 a0 10 from fl2.i t_a0 rfl 10) (show 0 ≤ iv5 a0 11 ∧ iv5 a0 11 ≤ 500 from W14.int t_a0 11) (show iv5 a0 11 = ivh2 a0 11 from by rw [pq5]; exact up2_j (by decide)) (show ivh2 a0 11 = ivb1 a0 11 from fl2.i t_a0 rfl 11) (show (-2147483648) ≤ iv5 ob1 0 ∧ iv5 ob1 0 ≤ 2147483647 from W14.int tob1 0) (show iv5 ob1 0 = ivh2 ob1 0 from by rw [pq5]; exact up2_k (ne_ty tob1 t_a0 (by decide))) (show ivh2 ob1 0 = ivb1 ob1 0 from fl2.i tob1 rfl 0) (show ivb1 ob1 0 = iv ob1 0 from Fb1.i tob1 rfl 0) (fun ri50 ie80 ie81 ri51 ie82 ie83 ri52 ie84 ie85 ri53 ie86 ie87 ri54 ie88 ie89 ie90 => ?_)
                exact c_iret C dX6_setPart_123 rfl (by decide) (rom0 hph hph (by decide)) ⟨7, rfl, rfl, rfl, rfl, rfl, F13, W14, ⟨by decide, by decide⟩, ⟨by omega, SPI.unk sif2 (NPX.no fdf2 rq1 (by omega) ⟨by omega, by omega⟩ (Or.inl (by unfold isG; omega))) (by omega) (by decide)⟩⟩
    refine c_aload_n (j := 1) (x := ob1) C dX6_setPart_16 rfl ?_
    refine hv3 (show (-2147483648) ≤ iv2 ob1 0 ∧ iv2 ob1 0 ≤ 2147483647 from W2.int tob1 0) (show iv2 ob1 0 = iv1 ob1 0 from by rw [pq2]; exact up2_k (ne_ty tob1 t_a0 (by decide))) (show iv1 ob1 0 = iv ob1 0 from by rw [pq1]; exact up2_k (ne_ty tob1 t_a0 (by decide))) (fun ri55 ie91 ie92 => ?_)
    refine c_get (k := 0) C ck_10 dX6_setPart_17 w2_177 (by decide) tob1 rfl rfl (by decide) rfl ?_
    refine c_iconst C dX6_setPart_20 ?_
    refine c_icmp_gt (tgt := 33) C (r32_c (lo := (-2147483648)) (hi := 2147483647) ri55.1 ri55.2 (by decide) (by decide)) ⟨by decide, by decide⟩ dX6_setPart_21 (by decide) (fun c4 => ?_) (fun c4 => ?_)
    · refine c_null C dX6_setPart_33 ?_
      refine c_astorer (r := none) (lv2 := [(4, .null), (0, .ref a0), (1, .ref ob1), (2, .int (iI i)), (3, .int (iI n))]) C dX6_setPart_34 (by decide) rfl ?_
      refine c_iload_n (j := 3) C dX6_setPart_36 rfl ?_
      refine c_istore (lv2 := [(5, .int (iI i)), (4, .null), (0, .ref a0), (1, .ref ob1), (2, .int (iI i)), (3, .int (iI n))]) C dX6_setPart_37 (by decide) rfl ?_
      refine hv11 (show 0 ≤ iv2 a0 7 ∧ iv2 a0 7 ≤ 100000 from W2.int t_a0 7) (show iv2 a0 7 = iv1 a0 7 from by rw [pq2]; exact up2_j (by decide)) (show iv1 a0 7 = iv a0 7 from by rw [pq1]; exact up2_j (by decide)) (show 0 ≤ iv2 a0 4 ∧ iv2 a0 4 ≤ 500 from W2.int t_a0 4) (show iv2 a0 4 = iv1 a0 4 from by rw [pq2]; exact up2_j (by decide)) (show iv1 a0 4 = iv a0 4 from by rw [pq1]; exact up2_j (by decide)) (show 0 ≤ iv2 a0 10 ∧ iv2 a0 10 ≤ 500 from W2.int t_a0 10) (show iv2 a0 10 = iv1 a0 10 from by rw [pq2]; exact up2_j (by decide)) (show iv1 a0 10 = i from by rw [pq1]; exact up2_s) (show 0 ≤ iv2 a0 11 ∧ iv2 a0 11 ≤ 500 from W2.int t_a0 11) (show iv2 a0 11 = n from by rw [pq2]; exact up2_s) (fun ri56 ie93 ie94 ri57 ie95 ie96 ri58 ie97 ie98 ri59 ie99 => ?_)
      refine c_lv (lv2 := [(4, .null), (5, .int (iI i)), (0, .ref a0), (1, .ref ob1), (2, .int (iI i)), (3, .int (iI n))]) [1, 0, 2, 3, 4, 5] rfl ?_
      exact Lp1 511 none i _ (by omega) W2 F2 (fun _ q => by cases q) (by omega) (by show iv2 a0 7 ≤ iv a0 7 ∨ iv2 a0 7 ≤ 200; omega) (by show iv2 a0 4 = iv a0 4; omega) (by show iv2 a0 10 = i ∧ iv2 a0 11 = n; omega) (SPI.init pq1 pq2 (s6ne hW t_a0)) (Or.inl ⟨by omega, rfl⟩)
    · refine c_aload_n (j := 1) (x := ob1) C dX6_setPart_24 rfl ?_
      obtain ⟨rb4, rq4, trb4⟩ := W2.ref tob1 6 rfl rfl rfl
      have lnrb4 : 4 ≤ ln rb4 ∧ ln rb4 ≤ 4 := W2.len trb4 rfl
      refine c_getr (k := 6) C ck_10 dX6_setPart_25 w2_195 (by decide) tob1 rfl rfl (by decide) rfl rq4 ?_
      refine c_st (st2 := [.ref rb4]) rfl ?_
      refine c_iconst C dX6_setPart_28 ?_
      have ll4 : 4 ≤ ln rb4 ∧ ln rb4 ≤ 4 := W2.len trb4 rfl
      obtain ⟨nb1, nq1, tnb1⟩ := opt_n (W2.opt trb4 ((0 : Int).toNat) rfl rfl)
      have tnb1 : ∀ b, nb1 = some b → ty L cl b 20 := tnb1
      refine c_aaldR C dX6_setPart_29 trb4 rfl (by omega) (by omega) (by omega) nq1 ?_
      refine c_st (st2 := [(va_rf nb1)]) rfl ?_
      refine c_goto (tgt := 34) C dX6_setPart_30 (by decide) ?_
      refine c_astorer (r := nb1) (lv2 := [(4, (va_rf nb1)), (0, .ref a0), (1, .ref ob1), (2, .int (iI i)), (3, .int (iI n))]) C dX6_setPart_34 (by decide) rfl ?_
      refine c_iload_n (j := 3) C dX6_setPart_36 rfl ?_
      refine c_istore (lv2 := [(5, .int (iI i)), (4, (va_rf nb1)), (0, .ref a0), (1, .ref ob1), (2, .int (iI i)), (3, .int (iI n))]) C dX6_setPart_37 (by decide) (by cases nb1 <;> rfl) ?_
      refine hv11 (show 0 ≤ iv2 a0 7 ∧ iv2 a0 7 ≤ 100000 from W2.int t_a0 7) (show iv2 a0 7 = iv1 a0 7 from by rw [pq2]; exact up2_j (by decide)) (show iv1 a0 7 = iv a0 7 from by rw [pq1]; exact up2_j (by decide)) (show 0 ≤ iv2 a0 4 ∧ iv2 a0 4 ≤ 500 from W2.int t_a0 4) (show iv2 a0 4 = iv1 a0 4 from by rw [pq2]; exact up2_j (by decide)) (show iv1 a0 4 = iv a0 4 from by rw [pq1]; exact up2_j (by decide)) (show 0 ≤ iv2 a0 10 ∧ iv2 a0 10 ≤ 500 from W2.int t_a0 10) (show iv2 a0 10 = iv1 a0 10 from by rw [pq2]; exact up2_j (by decide)) (show iv1 a0 10 = i from by rw [pq1]; exact up2_s) (show 0 ≤ iv2 a0 11 ∧ iv2 a0 11 ≤ 500 from W2.int t_a0 11) (show iv2 a0 11 = n from by rw [pq2]; exact up2_s) (fun ri60 ie100 ie101 ri61 ie102 ie103 ri62 ie104 ie105 ri63 ie106 => ?_)
      refine c_lv (lv2 := [(4, (va_rf nb1)), (5, .int (iI i)), (0, .ref a0), (1, .ref ob1), (2, .int (iI i)), (3, .int (iI n))]) [1, 0, 2, 3, 4, 5] rfl ?_
      exact Lp1 511 nb1 i _ (by omega) W2 F2 tnb1 (by omega) (by show iv2 a0 7 ≤ iv a0 7 ∨ iv2 a0 7 ≤ 200; omega) (by show iv2 a0 4 = iv a0 4; omega) (by show iv2 a0 10 = i ∧ iv2 a0 11 = n; omega) (SPI.init pq1 pq2 (s6ne hW t_a0)) (Or.inr ⟨by omega, _, rq4, nq1⟩)
  · subst oq1
    refine c_lv (lv2 := [(0, .ref a0), (1, .null), (2, .int (iI i)), (3, .int (iI n))]) [0, 1, 2, 3] rfl ?_
    refine c_st (st2 := []) rfl ?_
    refine c_iconst C dX6_setPart_4 ?_
    refine hv4 (show 0 ≤ iv a0 4 ∧ iv a0 4 ≤ 500 from hW.int t_a0 4) (show 0 ≤ iv a0 7 ∧ iv a0 7 ≤ 100000 from hW.int t_a0 7) (show 0 ≤ iv a0 10 ∧ iv a0 10 ≤ 500 from hW.int t_a0 10) (show 0 ≤ iv a0 11 ∧ iv a0 11 ≤ 500 from hW.int t_a0 11) (fun ri64 ri65 ri66 ri67 => ?_)
    exact c_iret C dX6_setPart_5 rfl (by decide) (rom0 hph hph (by decide)) ⟨0, rfl, rfl, rfl, rfl, rfl, hF0, hW, ⟨by decide, by decide⟩, ⟨by omega, SPX.no⟩⟩
set_option maxHeartbeats 4000000 in
set_option maxRecDepth 100000 in
theorem G_setBy {l : Launch} {G : GT} {mi : Nat} {sk : Nat → Nat} {L : List Nat} {cl ln : Nat → Nat} {iv : Nat → Nat → Int} {rv : Nat → Nat → Option Nat}  {a0 : Nat} {a1 : Nat} (hW : WT (g0 G) sk L cl ln iv rv) (hS : SKL sk L cl) (t_a0 : ty L cl a0 15) (t_a1 : ty L cl a1 100)  : Mc l G mi (Phi (g0 G) sk) PHM yX6_setBy cX6_setBy 9 (some .int) 6 [.ref a0, .ref a1] L cl ln iv rv 0 (fun v L2 cl2 ln2 iv2 rv2 => ∃ f : Int, v = some (.int (iI f)) ∧ L = L2 ∧ cl = cl2 ∧ ln = ln2 ∧ rv = rv2 ∧ fT [15, 53, 54, 55] L cl iv rv iv2 rv2 ∧ WT (g0 G) sk L2 cl2 ln2 iv2 rv2 ∧ (-2147483648 ≤ f ∧ f ≤ 2147483647) ∧ (((f = 0 ∨ f = 6 ∨ f = 7) ∧ iv2 a0 4 = iv a0 4 ∧ (f = 0 → iv2 a0 7 ≤ 200)) ∧ SBX sk ln iv rv iv2 a0 a1 f)) := by
  refine Mc.mk (by decide) (Nat.le_of_ble_eq_true rfl) ?_
  intro p e s m args below meth c A C hM
  refine hv4 (Phi.le hW hS) (show XT L cl ln L cl ln from XT.refl) (show fT [15, 53, 54, 55] L cl iv rv iv rv from fT.refl) (show 0 ≤ iv a0 4 ∧ iv a0 4 ≤ 500 from hW.int t_a0 4) (fun hph hX0 hF0 ri1 => ?_)
  refine c_aload_n (j := 0) (x := a0) C dX6_setBy_0 rfl ?_
  refine c_iconst C dX6_setBy_1 ?_
  refine c_put (z := 0) (k := 7) C ck_7 dX6_setBy_2 w1_147 (by decide) rfl t_a0 rfl rfl (by decide) rfl (by rfl) (by rfl) (fun iv1 pq1 => ?_)
  refine hv2 (hW.puti pq1 t_a0 ⟨by decide, by decide⟩ rfl) (hF0.puti hX0 pq1 t_a0 rfl) (fun W1 F1 => ?_)
  refine c_aload_n (j := 1) (x := a1) C dX6_setBy_5 rfl ?_
  refine hv2 (show (-2147483648) ≤ iv1 a1 0 ∧ iv1 a1 0 ≤ 2147483647 from W1.int t_a1 0) (show iv1 a1 0 = iv a1 0 from by rw [pq1]; exact up2_k (ne_ty t_a1 t_a0 (by decide))) (fun ri2 ie1 => ?_)
  refine c_get (k := 0) C ck_10 dX6_setBy_6 w2_177 (by decide) t_a1 rfl rfl (by decide) rfl ?_
  refine c_iconst C dX6_setBy_9 ?_
  refine c_icmp_ne (tgt := 17) C (r32_c (lo := (-2147483648)) (hi := 2147483647) ri2.1 ri2.2 (by decide) (by decide)) ⟨by decide, by decide⟩ dX6_setBy_10 (by decide) (fun c1 => ?_) (fun c1 => ?_)
  · refine c_iconst C dX6_setBy_17 ?_
    refine c_istore_n (lv2 := [(2, .int (iI 0)), (0, .ref a0), (1, .ref a1)]) C dX6_setBy_18 (by decide) rfl ?_
    refine c_iconst C dX6_setBy_19 ?_
    refine c_istore_n (lv2 := [(3, .int (iI 0)), (2, .int (iI 0)), (0, .ref a0), (1, .ref a1)]) C dX6_setBy_20 (by decide) rfl ?_
    refine c_iconst C dX6_setBy_21 ?_
    refine c_istore (lv2 := [(4, .int (iI 0)), (3, .int (iI 0)), (2, .int (iI 0)), (0, .ref a0), (1, .ref a1)]) C dX6_setBy_22 (by decide) rfl ?_
    refine c_iconst C dX6_setBy_24 ?_
    refine c_istore (lv2 := [(5, .int (iI 0)), (4, .int (iI 0)), (3, .int (iI 0)), (2, .int (iI 0)), (0, .ref a0), (1, .ref a1)]) C dX6_setBy_25 (by decide) rfl ?_
    have Lp1 : ∀ (nn : Nat) (sc fr k : Int) (ivb1 : Nat → Nat → Int) , iv a0 4 + 2 - k < (nn : Int) → WT (g0 G) sk L cl ln ivb1 rv → fT [15, 53, 54, 55] L cl iv rv ivb1 rv → (sc = 0 ∨ sc = 1) → (0 ≤ fr ∧ fr ≤ k) → (0 ≤ k ∧ k ≤ iv a0 4 + 1) → (ivb1 a0 7 ≤ 200 + 4 * k) → (ivb1 a0 4 = iv a0 4) → (SBI sk ln iv rv ivb1 a0 a1 sc fr k) → cw p l e 6 ((PHM) + 0 - ((Phi (g0 G) sk) ln rv)) s m args below meth c G A 9 (MQ below (Qu G A (Qp G (Phi (g0 G) sk) ((Phi (g0 G) sk) ln rv) 0 (fun v L2 cl2 ln2 iv2 rv2 => ∃ f : Int, v = some (.int (iI f)) ∧ L = L2 ∧ cl = cl2 ∧ ln = ln2 ∧ rv = rv2 ∧ fT [15, 53, 54, 55] L cl iv rv iv2 rv2 ∧ WT (g0 G) sk L2 cl2 ln2 iv2 rv2 ∧ (-2147483648 ≤ f ∧ f ≤ 2147483647) ∧ (((f = 0 ∨ f = 6 ∨ f = 7) ∧ iv2 a0 4 = iv a0 4 ∧ (f = 0 → iv2 a0 7 ≤ 200)) ∧ SBX sk ln iv rv iv2 a0 a1 f)))) args s (((PHM) + 0 - ((Phi (g0 G) sk) ln rv)) / 16) ((PHM) + 0 - ((Phi (g0 G) sk) ln rv)) A) (Phi (g0 G) sk) ((Phi (g0 G) sk) ln rv) L cl ln ivb1 rv 0 27 [(3, .int (iI sc)), (4, .int (iI fr)), (5, .int (iI k)), (2, .int (iI 0)), (0, .ref a0), (1, .ref a1)] [] := by
      intro nn
      induction nn with
      | zero =>
        intro  sc fr k ivb1 hm Wb1 Fb1  hsc hfr hk hc7 hc4 hB
        exact absurd hm (by omega)
      | succ nn ih1 =>
        intro  sc fr k ivb1 hm Wb1 Fb1  hsc hfr hk hc7 hc4 hB
        refine c_iload (j := 2) C dX6_setBy_27 rfl ?_
        refine c_aload_n (j := 4) (x := a0) C dX6_setBy_29 rfl ?_
        have ri3 : 0 ≤ ivb1 a0 4 ∧ ivb1 a0 4 ≤ 500 := Wb1.int t_a0 4
        refine c_get (k := 4) C ck_7 dX6_setBy_30 w1_140 (by decide) t_a0 rfl rfl (by decide) rfl ?_
        refine c_icmp_gt (tgt := 193) C ⟨by omega, by omega⟩ (r32_c (lo := 0) (hi := 500) ri3.1 ri3.2 (by decide) (by decide)) dX6_setBy_33 (by decide) (fun c2 => ?_) (fun c2 => ?_)
        · refine c_aload_n (j := 4) (x := a0) C dX6_setBy_193 rfl ?_
          have ri4 : 0 ≤ ivb1 a0 7 ∧ ivb1 a0 7 ≤ 100000 := Wb1.int t_a0 7
          refine c_get (k := 7) C ck_7 dX6_setBy_194 w1_147 (by decide) t_a0 rfl rfl (by decide) rfl ?_
          refine c_sipush (z := 200) C dX6_setBy_197 (by decide) ?_
          refine c_icmp_le (tgt := 208) C (r32_c (lo := 0) (hi := 100000) ri4.1 ri4.2 (by decide) (by decide)) ⟨by decide, by decide⟩ dX6_setBy_200 (by decide) (fun c3 => ?_) (fun c3 => ?_)
          · refine c_iconst C dX6_setBy_208 ?_
            exact c_iret C dX6_setBy_209 rfl (by decide) (rom0 hph hph (by decide)) ⟨0, rfl, rfl, rfl, rfl, rfl, Fb1, Wb1, ⟨by decide, by decide⟩, ⟨by omega, hB.fin (by omega) (by omega)⟩⟩
          · refine c_bipush (z := 6) C dX6_setBy_203 (by decide) ?_
            refine c_goto (tgt := 209) C dX6_setBy_205 (by decide) ?_
            exact c_iret C dX6_setBy_209 rfl (by decide) (rom0 hph hph (by decide)) ⟨6, rfl, rfl, rfl, rfl, rfl, Fb1, Wb1, ⟨by decide, by decide⟩, ⟨by omega, hB.fin (by omega) (by omega)⟩⟩
        · have J1 : ∀ (fs : Option Nat) (tn : Int) (ivb2 : Nat → Nat → Int) , WT (g0 G) sk L cl ln ivb2 rv → fT [15, 53, 54, 55] L cl iv rv ivb2 rv → (∀ b, fs = some b → ty L cl b 100) → (tn = 0 ∨ tn = 1) → (k ≤ iv a0 4) → (tn = 1 → k < iv a0 4) → (ivb2 a0 7 ≤ 200 + 4 * k) → (ivb2 a0 4 = iv a0 4) → (TRN iv rv a0 a1 sc k tn fs) → (SBI sk ln iv rv ivb2 a0 a1 sc fr k) → cw p l e 6 ((PHM) + 0 - ((Phi (g0 G) sk) ln rv)) s m args below meth c G A 9 (MQ below (Qu G A (Qp G (Phi (g0 G) sk) ((Phi (g0 G) sk) ln rv) 0 (fun v L2 cl2 ln2 iv2 rv2 => ∃ f : Int, v = some (.int (iI f)) ∧ L = L2 ∧ cl = cl2 ∧ ln = ln2 ∧ rv = rv2 ∧ fT [15, 53, 54, 55] L cl iv rv iv2 rv2 ∧ WT (g0 G) sk L2 cl2 ln2 iv2 rv2 ∧ (-2147483648 ≤ f ∧ f ≤ 2147483647) ∧ (((f = 0 ∨ f = 6 ∨ f = 7) ∧ iv2 a0 4 = iv a0 4 ∧ (f = 0 → iv2 a0 7 ≤ 200)) ∧ SBX sk ln iv rv iv2 a0 a1 f)))) args s (((PHM) + 0 - ((Phi (g0 G) sk) ln rv)) / 16) ((PHM) + 0 - ((Phi (g0 G) sk) ln rv)) A) (Phi (g0 G) sk) ((Phi (g0 G) sk) ln rv) L cl ln ivb2 rv 0 108 [(6, .int (iI tn)), (7, (va_rf fs)), (3, .int (iI sc)), (4, .int (iI fr)), (5, .int (iI k)), (2, .int (iI 0)), (0, .ref a0), (1, .ref a1)] [] := by
            intro fs tn ivb2 Wb2 Fb2 ty_fs htn hki htk hd7 hd4 hTN hB2
            have J2 : ∀ (wy : Int) (ivb3 : Nat → Nat → Int) , WT (g0 G) sk L cl ln ivb3 rv → fT [15, 53, 54, 55] L cl iv rv ivb3 rv → (wy = 0 ∨ wy = 6 ∨ wy = 7) → (wy = 0 → ivb3 a0 7 ≤ 204 + 4 * k) → (ivb3 a0 4 = iv a0 4) → (SBN sk ln iv rv ivb3 a0 a1 sc k wy) → cw p l e 6 ((PHM) + 0 - ((Phi (g0 G) sk) ln rv)) s m args below meth c G A 9 (MQ below (Qu G A (Qp G (Phi (g0 G) sk) ((Phi (g0 G) sk) ln rv) 0 (fun v L2 cl2 ln2 iv2 rv2 => ∃ f : Int, v = some (.int (iI f)) ∧ L = L2 ∧ cl = cl2 ∧ ln = ln2 ∧ rv = rv2 ∧ fT [15, 53, 54, 55] L cl iv rv iv2 rv2 ∧ WT (g0 G) sk L2 cl2 ln2 iv2 rv2 ∧ (-2147483648 ≤ f ∧ f ≤ 2147483647) ∧ (((f = 0 ∨ f = 6 ∨ f = 7) ∧ iv2 a0 4 = iv a0 4 ∧ (f = 0 → iv2 a0 7 ≤ 200)) ∧ SBX sk ln iv rv iv2 a0 a1 f)))) args s (((PHM) + 0 - ((Phi (g0 G) sk) ln rv)) / 16) ((PHM) + 0 - ((Phi (g0 G) sk) ln rv)) A) (Phi (g0 G) sk) ((Phi (g0 G) sk) ln rv) L cl ln ivb3 rv 0 163 [(8, .int (iI wy)), (6, .int (iI tn)), (7, (va_rf fs)), (3, .int (iI sc)), (4, .int (iI fr)), (5, .int (iI k)), (2, .int (iI 0)), (0, .ref a0), (1, .ref a1)] [] := by
              intro  wy ivb3 Wb3 Fb3  hwy he7 he4 hP
              refine c_iload (j := 0) C dX6_setBy_163 rfl ?_
              refine c_if_eq (tgt := 171) C (r32_067 hwy) dX6_setBy_165 (by decide) (fun c4 => ?_) (fun c4 => ?_)
              · clear hwy
                replace he7 := (he7 c4)
                refine c_iload_n (j := 3) C dX6_setBy_171 rfl ?_
                refine c_if_ne (tgt := 179) C (r32_01 hsc) dX6_setBy_172 (by decide) (fun c5 => ?_) (fun c5 => ?_)
                · replace hsc := (hsc.resolve_left c5)
                  refine c_iconst C dX6_setBy_179 ?_
                  refine c_istore_n (lv2 := [(3, .int (iI 0)), (8, .int (iI wy)), (6, .int (iI tn)), (7, (va_rf fs)), (4, .int (iI fr)), (5, .int (iI k)), (2, .int (iI 0)), (0, .ref a0), (1, .ref a1)]) C dX6_setBy_180 (by decide) rfl ?_
                  refine c_iload (j := 5) C dX6_setBy_181 rfl ?_
                  refine c_iconst C dX6_setBy_183 ?_
                  refine c_iadd C dX6_setBy_184 ?_
                  refine c_istore (lv2 := [(4, .int (iI (k + 1))), (3, .int (iI 0)), (8, .int (iI wy)), (6, .int (iI tn)), (7, (va_rf fs)), (5, .int (iI k)), (2, .int (iI 0)), (0, .ref a0), (1, .ref a1)]) C dX6_setBy_185 (by decide) rfl ?_
                  refine c_iinc (z := k) (j := 5) (lv2 := [(5, .int (iI (k + 1))), (4, .int (iI (k + 1))), (3, .int (iI 0)), (8, .int (iI wy)), (6, .int (iI tn)), (7, (va_rf fs)), (2, .int (iI 0)), (0, .ref a0), (1, .ref a1)]) C dX6_setBy_187 rfl (by decide) rfl ?_
                  refine c_goto (tgt := 27) C dX6_setBy_190 (by decide) ?_
                  refine hv4 (show 0 ≤ ivb3 a0 7 ∧ ivb3 a0 7 ≤ 100000 from Wb3.int t_a0 7) (show 0 ≤ ivb3 a0 4 ∧ ivb3 a0 4 ≤ 500 from Wb3.int t_a0 4) (show (-2147483648) ≤ ivb3 a1 0 ∧ ivb3 a1 0 ≤ 2147483647 from Wb3.int t_a1 0) (show ivb3 a1 0 = iv a1 0 from Fb3.i t_a1 rfl 0) (fun ri5 ri6 ri7 ie6 => ?_)
                  refine c_lv (lv2 := [(3, .int (iI 0)), (4, .int (iI (k + 1))), (5, .int (iI (k + 1))), (2, .int (iI 0)), (0, .ref a0), (1, .ref a1)]) [2, 1, 0, 6, 7, 8] rfl ?_
                  exact ih1  0 (k + 1) (k + 1) _ (by omega) Wb3 Fb3  (by omega) (by omega) (by omega) (by show ivb3 a0 7 ≤ 200 + 4 * (k + 1); omega) (by show ivb3 a0 4 = iv a0 4; omega) ((hP.1 (by omega)).re (by omega))
                · clear hsc
                  refine c_iconst C dX6_setBy_175 ?_
                  refine c_goto (tgt := 180) C dX6_setBy_176 (by decide) ?_
                  refine c_istore_n (lv2 := [(3, .int (iI 1)), (8, .int (iI wy)), (6, .int (iI tn)), (7, (va_rf fs)), (4, .int (iI fr)), (5, .int (iI k)), (2, .int (iI 0)), (0, .ref a0), (1, .ref a1)]) C dX6_setBy_180 (by decide) rfl ?_
                  refine c_iload (j := 5) C dX6_setBy_181 rfl ?_
                  refine c_iconst C dX6_setBy_183 ?_
                  refine c_iadd C dX6_setBy_184 ?_
                  refine c_istore (lv2 := [(4, .int (iI (k + 1))), (3, .int (iI 1)), (8, .int (iI wy)), (6, .int (iI tn)), (7, (va_rf fs)), (5, .int (iI k)), (2, .int (iI 0)), (0, .ref a0), (1, .ref a1)]) C dX6_setBy_185 (by decide) rfl ?_
                  refine c_iinc (z := k) (j := 5) (lv2 := [(5, .int (iI (k + 1))), (4, .int (iI (k + 1))), (3, .int (iI 1)), (8, .int (iI wy)), (6, .int (iI tn)), (7, (va_rf fs)), (2, .int (iI 0)), (0, .ref a0), (1, .ref a1)]) C dX6_setBy_187 rfl (by decide) rfl ?_
                  refine c_goto (tgt := 27) C dX6_setBy_190 (by decide) ?_
                  refine hv4 (show 0 ≤ ivb3 a0 7 ∧ ivb3 a0 7 ≤ 100000 from Wb3.int t_a0 7) (show 0 ≤ ivb3 a0 4 ∧ ivb3 a0 4 ≤ 500 from Wb3.int t_a0 4) (show (-2147483648) ≤ ivb3 a1 0 ∧ ivb3 a1 0 ≤ 2147483647 from Wb3.int t_a1 0) (show ivb3 a1 0 = iv a1 0 from Fb3.i t_a1 rfl 0) (fun ri8 ri9 ri10 ie9 => ?_)
                  refine c_lv (lv2 := [(3, .int (iI 1)), (4, .int (iI (k + 1))), (5, .int (iI (k + 1))), (2, .int (iI 0)), (0, .ref a0), (1, .ref a1)]) [2, 1, 0, 6, 7, 8] rfl ?_
                  exact ih1  1 (k + 1) (k + 1) _ (by omega) Wb3 Fb3  (by omega) (by omega) (by omega) (by show ivb3 a0 7 ≤ 200 + 4 * (k + 1); omega) (by show ivb3 a0 4 = iv a0 4; omega) ((hP.1 (by omega)).re (by omega))
              · replace hwy := (hwy.resolve_left c4)
                clear he7
                refine c_iload (j := 0) C dX6_setBy_168 rfl ?_
                refine hv2 (show 0 ≤ ivb3 a0 4 ∧ ivb3 a0 4 ≤ 500 from Wb3.int t_a0 4) (show 0 ≤ ivb3 a0 7 ∧ ivb3 a0 7 ≤ 100000 from Wb3.int t_a0 7) (fun ri11 ri12 => ?_)
                exact c_iret C dX6_setBy_170 rfl (by decide) (rom0 hph hph (by decide)) ⟨wy, rfl, rfl, rfl, rfl, rfl, Fb3, Wb3, ⟨by omega, by omega⟩, ⟨by omega, SBX.fail (hP.2 (by omega)) (by omega)⟩⟩
            refine c_aload_n (j := 6) (x := a0) C dX6_setBy_108 rfl ?_
            refine c_iload_n (j := 2) C dX6_setBy_109 rfl ?_
            refine c_if_eq (tgt := 120) C (r32_01 hsc) dX6_setBy_110 (by decide) (fun c6 => ?_) (fun c6 => ?_)
            · clear hsc
              refine c_aloadr (j := 1) (r := fs) C dX6_setBy_120 rfl ?_
              refine c_iload (j := 3) C dX6_setBy_122 rfl ?_
              refine c_iload (j := 4) C dX6_setBy_124 rfl ?_
              refine hv4 (show (-2147483648) ≤ ivb2 a1 0 ∧ ivb2 a1 0 ≤ 2147483647 from Wb2.int t_a1 0) (show ivb2 a1 0 = iv a1 0 from Fb2.i t_a1 rfl 0) (show 0 ≤ ivb2 a0 7 ∧ ivb2 a0 7 ≤ 100000 from Wb2.int t_a0 7) (show 0 ≤ ivb2 a0 4 ∧ ivb2 a0 4 ≤ 500 from Wb2.int t_a0 4) (fun ri13 ie12 ri14 ri15 => ?_)
              refine d_callV (As := [(va_rf fs), .int (iI fr), .int (iI k)]) (rest := []) C hM (G_setPart (a0 := a0) (r := fs) (i := fr) (n := k) Wb2 hS t_a0 ty_fs (by omega) (by omega) (by show 0 ≤ fr ∧ fr ≤ 500 ∧ 0 ≤ k ∧ k ≤ 500 ∧ ivb2 a0 7 ≤ 50000; omega)) dX6_setBy_126 kV_X6_74 rfl t_a0 rfl rfl (by decide) ck_7 rfl (Nat.le_of_ble_eq_true rfl) ⟨(Nat.le_of_ble_eq_true rfl), (Nat.le_of_ble_eq_true rfl)⟩ hph hph (show 0 + 0 = 0 from rfl) (by decide) (fun rh1 Lh1 clh1 lnh1 ivh1 rvh1 h1 => ?_)
              obtain ⟨f1, rfl, rfl, rfl, rfl, rfl, fl1, W2, rgf1, exf1⟩ := h1
              have F2 := Fb2.call hX0 fl1 rfl
              refine c_st (st2 := [.int (iI f1)]) rfl ?_
              refine hv3 (show 0 ≤ ivh1 a0 4 ∧ ivh1 a0 4 ≤ 500 from W2.int t_a0 4) (show 0 ≤ ivh1 a0 7 ∧ ivh1 a0 7 ≤ 100000 from W2.int t_a0 7) (show ((f1 = 0 ∨ f1 = 6 ∨ f1 = 7) ∧ ivh1 a0 4 = ivb2 a0 4 ∧ ivh1 a0 7 ≤ ivb2 a0 7 + 208 ∧ (f1 = 0 → (ivh1 a0 7 ≤ ivb2 a0 7 ∨ ivh1 a0 7 ≤ 200))) ∧ SPX sk ln ivb2 rv ivh1 a0 fs fr k f1 from exf1) (fun ri16 ri17 gf1 => ?_)
              refine c_istore (lv2 := [(8, .int (iI f1)), (6, .int (iI tn)), (7, (va_rf fs)), (3, .int (iI sc)), (4, .int (iI fr)), (5, .int (iI k)), (2, .int (iI 0)), (0, .ref a0), (1, .ref a1)]) C dX6_setBy_129 (by decide) (by cases fs <;> rfl) ?_
              refine c_iload (j := 0) C dX6_setBy_131 rfl ?_
              refine c_if_ne (tgt := 163) C (r32_067 gf1.1.1) dX6_setBy_133 (by decide) (fun c7 => ?_) (fun c7 => ?_)
              · replace gf1 := (And.intro (And.intro (gf1.1.1.resolve_left c7) (And.intro gf1.1.2.1 (And.intro gf1.1.2.2.1 trivial))) gf1.2)
                refine hv2 (show (-2147483648) ≤ ivh1 a1 0 ∧ ivh1 a1 0 ≤ 2147483647 from W2.int t_a1 0) (show ivh1 a1 0 = ivb2 a1 0 from fl1.i t_a1 rfl 0) (fun ri18 ie17 => ?_)
                refine c_lv (lv2 := [(8, .int (iI f1)), (6, .int (iI tn)), (7, (va_rf fs)), (3, .int (iI sc)), (4, .int (iI fr)), (5, .int (iI k)), (2, .int (iI 0)), (0, .ref a0), (1, .ref a1)]) [0, 1, 2, 3, 4, 5, 6, 7, 8] rfl ?_
                exact J2  f1 _  W2 F2  (by omega) (by show f1 = 0 → ivh1 a0 7 ≤ 204 + 4 * k; omega) (by show ivh1 a0 4 = iv a0 4; omega) (SBN.plain hB2 hW hS Fb2 t_a0 (by omega) (hTN.2.1 (by have q := hTN.1; have q3 : tn ≠ 1 := fun e => absurd (q e).1 (by omega); exact q3)) (hTN.2.2.2 (by omega)) gf1.2)
              · replace gf1 := (And.intro (And.intro c7 (And.intro gf1.1.2.1 (And.intro gf1.1.2.2.1 (gf1.1.2.2.2 c7)))) gf1.2)
                refine c_iload (j := 1) C dX6_setBy_136 rfl ?_
                refine c_if_eq (tgt := 163) C (r32_01 htn) dX6_setBy_138 (by decide) (fun c8 => ?_) (fun c8 => ?_)
                · clear htn
                  clear htk
                  refine hv2 (show (-2147483648) ≤ ivh1 a1 0 ∧ ivh1 a1 0 ≤ 2147483647 from W2.int t_a1 0) (show ivh1 a1 0 = ivb2 a1 0 from fl1.i t_a1 rfl 0) (fun ri19 ie18 => ?_)
                  refine c_lv (lv2 := [(8, .int (iI f1)), (6, .int (iI tn)), (7, (va_rf fs)), (3, .int (iI sc)), (4, .int (iI fr)), (5, .int (iI k)), (2, .int (iI 0)), (0, .ref a0), (1, .ref a1)]) [0, 1, 2, 3, 4, 5, 6, 7, 8] rfl ?_
                  exact J2  f1 _  W2 F2  (by omega) (by show f1 = 0 → ivh1 a0 7 ≤ 204 + 4 * k; omega) (by show ivh1 a0 4 = iv a0 4; omega) (SBN.plain hB2 hW hS Fb2 t_a0 (by omega) (hTN.2.1 (by have q := hTN.1; have q3 : tn ≠ 1 := fun e => absurd (q e).1 (by omega); exact q3)) (hTN.2.2.2 (by omega)) gf1.2)
                · replace htn := (htn.resolve_left c8)
                  refine c_aload_n (j := 7) (x := a0) C dX6_setBy_141 rfl ?_
                  refine c_aload_n (j := 8) (x := a1) C dX6_setBy_142 rfl ?_
                  obtain ⟨rb1, rq1, trb1⟩ := W2.ref t_a1 6 rfl rfl rfl
                  have lnrb1 : 4 ≤ ln rb1 ∧ ln rb1 ≤ 4 := W2.len trb1 rfl
                  refine c_getr (k := 6) C ck_10 dX6_setBy_143 w2_195 (by decide) t_a1 rfl rfl (by decide) rfl rq1 ?_
                  refine c_st (st2 := [.ref rb1, .ref a0]) rfl ?_
                  refine c_iload_n (j := 3) C dX6_setBy_146 rfl ?_
                  refine c_if_eq (tgt := 154) C ⟨by omega, by omega⟩ dX6_setBy_147 (by decide) (fun _ => ?_) (fun z => absurd z (by omega))
                  refine c_iconst C dX6_setBy_154 ?_
                  have ll1 : 4 ≤ ln rb1 ∧ ln rb1 ≤ 4 := W2.len trb1 rfl
                  obtain ⟨nb1, nq1, tnb1⟩ := opt_n (W2.opt trb1 ((2 : Int).toNat) rfl rfl)
                  have tnb1 : ∀ b, nb1 = some b → ty L cl b 20 := tnb1
                  refine c_aaldR C dX6_setBy_155 trb1 rfl (by omega) (by omega) (by omega) nq1 ?_
                  refine c_st (st2 := [(va_rf nb1), .ref a0]) rfl ?_
                  refine c_iload (j := 5) C dX6_setBy_156 rfl ?_
                  refine hv2 (show 0 ≤ ivh1 a0 10 ∧ ivh1 a0 10 ≤ 500 from W2.int t_a0 10) (show 0 ≤ ivh1 a0 11 ∧ ivh1 a0 11 ≤ 500 from W2.int t_a0 11) (fun ri20 ri21 => ?_)
                  refine d_callV (As := [(va_rf nb1), .int (iI k)]) (rest := []) C hM (G_setTurn (a0 := a0) (r := nb1) (i := k) W2 hS t_a0 tnb1 (by omega) (by show ivh1 a0 7 ≤ 90000; omega)) dX6_setBy_158 kV_X6_82 rfl t_a0 rfl rfl (by decide) ck_7 rfl (Nat.le_of_ble_eq_true rfl) ⟨(Nat.le_of_ble_eq_true rfl), (Nat.le_of_ble_eq_true rfl)⟩ hph hph (show 0 + 0 = 0 from rfl) (by decide) (fun rh2 Lh2 clh2 lnh2 ivh2 rvh2 h2 => ?_)
                  obtain ⟨f2, rfl, rfl, rfl, rfl, rfl, fl2, W3, rgf2, exf2⟩ := h2
                  have F3 := F2.call hX0 fl2 rfl
                  refine c_st (st2 := [.int (iI f2)]) rfl ?_
                  refine hv5 (show 0 ≤ ivh2 a0 4 ∧ ivh2 a0 4 ≤ 500 from W3.int t_a0 4) (show 0 ≤ ivh2 a0 7 ∧ ivh2 a0 7 ≤ 100000 from W3.int t_a0 7) (show 0 ≤ ivh2 a0 10 ∧ ivh2 a0 10 ≤ 500 from W3.int t_a0 10) (show 0 ≤ ivh2 a0 11 ∧ ivh2 a0 11 ≤ 500 from W3.int t_a0 11) (show ((f2 = 0 ∨ f2 = 7) ∧ ivh2 a0 4 = ivh1 a0 4 ∧ ivh1 a0 7 ≤ ivh2 a0 7 ∧ ivh2 a0 7 ≤ ivh1 a0 7 + 4 ∧ ivh2 a0 10 = ivh1 a0 10 ∧ ivh2 a0 11 = ivh1 a0 11) ∧ STX ln ivh1 rv ivh2 a0 nb1 f2 from exf2) (fun ri22 ri23 ri24 ri25 gf2 => ?_)
                  refine c_istore (lv2 := [(8, .int (iI f2)), (6, .int (iI tn)), (7, (va_rf fs)), (3, .int (iI sc)), (4, .int (iI fr)), (5, .int (iI k)), (2, .int (iI 0)), (0, .ref a0), (1, .ref a1)]) C dX6_setBy_161 (by decide) (by cases fs <;> rfl) ?_
                  refine hv3 (show (-2147483648) ≤ ivh2 a1 0 ∧ ivh2 a1 0 ≤ 2147483647 from W3.int t_a1 0) (show ivh2 a1 0 = ivh1 a1 0 from fl2.i t_a1 rfl 0) (show ivh1 a1 0 = ivb2 a1 0 from fl1.i t_a1 rfl 0) (fun ri26 ie25 ie26 => ?_)
                  refine c_lv (lv2 := [(8, .int (iI f2)), (6, .int (iI tn)), (7, (va_rf fs)), (3, .int (iI sc)), (4, .int (iI fr)), (5, .int (iI k)), (2, .int (iI 0)), (0, .ref a0), (1, .ref a1)]) [0, 1, 2, 3, 4, 5, 6, 7, 8] rfl ?_
                  exact J2  f2 _  W3 F3  (by omega) (by show f2 = 0 → ivh2 a0 7 ≤ 204 + 4 * k; omega) (by show ivh2 a0 4 = iv a0 4; omega) (by exfalso; have q := (hTN.1 (by omega)).1; omega)
            · replace hsc := (hsc.resolve_left c6)
              refine c_aload_n (j := 7) (x := a1) C dX6_setBy_113 rfl ?_
              obtain ⟨nb2, nq2, tnb2⟩ := opt_n (Wb2.opt t_a1 3 rfl rfl)
              have tnb2 : ∀ b, nb2 = some b → ty L cl b 100 := tnb2
              refine c_getr (k := 3) C ck_10 dX6_setBy_114 w2_185 (by decide) t_a1 rfl rfl (by decide) rfl nq2 ?_
              refine c_st (st2 := [(va_rf nb2), .ref a0]) rfl ?_
              refine c_goto (tgt := 122) C dX6_setBy_117 (by decide) ?_
              refine c_iload (j := 3) C dX6_setBy_122 rfl ?_
              refine c_iload (j := 4) C dX6_setBy_124 rfl ?_
              refine hv4 (show (-2147483648) ≤ ivb2 a1 0 ∧ ivb2 a1 0 ≤ 2147483647 from Wb2.int t_a1 0) (show ivb2 a1 0 = iv a1 0 from Fb2.i t_a1 rfl 0) (show 0 ≤ ivb2 a0 7 ∧ ivb2 a0 7 ≤ 100000 from Wb2.int t_a0 7) (show 0 ≤ ivb2 a0 4 ∧ ivb2 a0 4 ≤ 500 from Wb2.int t_a0 4) (fun ri27 ie27 ri28 ri29 => ?_)
              refine d_callV (As := [(va_rf nb2), .int (iI fr), .int (iI k)]) (rest := []) C hM (G_setPart (a0 := a0) (r := nb2) (i := fr) (n := k) Wb2 hS t_a0 tnb2 (by omega) (by omega) (by show 0 ≤ fr ∧ fr ≤ 500 ∧ 0 ≤ k ∧ k ≤ 500 ∧ ivb2 a0 7 ≤ 50000; omega)) dX6_setBy_126 kV_X6_74 rfl t_a0 rfl rfl (by decide) ck_7 rfl (Nat.le_of_ble_eq_true rfl) ⟨(Nat.le_of_ble_eq_true rfl), (Nat.le_of_ble_eq_true rfl)⟩ hph hph (show 0 + 0 = 0 from rfl) (by decide) (fun rh3 Lh3 clh3 lnh3 ivh3 rvh3 h3 => ?_)
              obtain ⟨f3, rfl, rfl, rfl, rfl, rfl, fl3, W4, rgf3, exf3⟩ := h3
              have F4 := Fb2.call hX0 fl3 rfl
              refine c_st (st2 := [.int (iI f3)]) rfl ?_
              refine hv3 (show 0 ≤ ivh3 a0 4 ∧ ivh3 a0 4 ≤ 500 from W4.int t_a0 4) (show 0 ≤ ivh3 a0 7 ∧ ivh3 a0 7 ≤ 100000 from W4.int t_a0 7) (show ((f3 = 0 ∨ f3 = 6 ∨ f3 = 7) ∧ ivh3 a0 4 = ivb2 a0 4 ∧ ivh3 a0 7 ≤ ivb2 a0 7 + 208 ∧ (f3 = 0 → (ivh3 a0 7 ≤ ivb2 a0 7 ∨ ivh3 a0 7 ≤ 200))) ∧ SPX sk ln ivb2 rv ivh3 a0 nb2 fr k f3 from exf3) (fun ri30 ri31 gf3 => ?_)
              refine c_istore (lv2 := [(8, .int (iI f3)), (6, .int (iI tn)), (7, (va_rf fs)), (3, .int (iI sc)), (4, .int (iI fr)), (5, .int (iI k)), (2, .int (iI 0)), (0, .ref a0), (1, .ref a1)]) C dX6_setBy_129 (by decide) (by cases fs <;> rfl) ?_
              refine c_iload (j := 0) C dX6_setBy_131 rfl ?_
              refine c_if_ne (tgt := 163) C (r32_067 gf3.1.1) dX6_setBy_133 (by decide) (fun c9 => ?_) (fun c9 => ?_)
              · replace gf3 := (And.intro (And.intro (gf3.1.1.resolve_left c9) (And.intro gf3.1.2.1 (And.intro gf3.1.2.2.1 trivial))) gf3.2)
                refine hv2 (show (-2147483648) ≤ ivh3 a1 0 ∧ ivh3 a1 0 ≤ 2147483647 from W4.int t_a1 0) (show ivh3 a1 0 = ivb2 a1 0 from fl3.i t_a1 rfl 0) (fun ri32 ie32 => ?_)
                refine c_lv (lv2 := [(8, .int (iI f3)), (6, .int (iI tn)), (7, (va_rf fs)), (3, .int (iI sc)), (4, .int (iI fr)), (5, .int (iI k)), (2, .int (iI 0)), (0, .ref a0), (1, .ref a1)]) [0, 1, 2, 3, 4, 5, 6, 7, 8] rfl ?_
                exact J2  f3 _  W4 F4  (by omega) (by show f3 = 0 → ivh3 a0 7 ≤ 204 + 4 * k; omega) (by show ivh3 a0 4 = iv a0 4; omega) (SBN.bad hB2 (by omega) (by omega) (by omega))
              · replace gf3 := (And.intro (And.intro c9 (And.intro gf3.1.2.1 (And.intro gf3.1.2.2.1 (gf3.1.2.2.2 c9)))) gf3.2)
                refine c_iload (j := 1) C dX6_setBy_136 rfl ?_
                refine c_if_eq (tgt := 163) C (r32_01 htn) dX6_setBy_138 (by decide) (fun c10 => ?_) (fun c10 => ?_)
                · clear htn
                  clear htk
                  refine hv2 (show (-2147483648) ≤ ivh3 a1 0 ∧ ivh3 a1 0 ≤ 2147483647 from W4.int t_a1 0) (show ivh3 a1 0 = ivb2 a1 0 from fl3.i t_a1 rfl 0) (fun ri33 ie33 => ?_)
                  refine c_lv (lv2 := [(8, .int (iI f3)), (6, .int (iI tn)), (7, (va_rf fs)), (3, .int (iI sc)), (4, .int (iI fr)), (5, .int (iI k)), (2, .int (iI 0)), (0, .ref a0), (1, .ref a1)]) [0, 1, 2, 3, 4, 5, 6, 7, 8] rfl ?_
                  exact J2  f3 _  W4 F4  (by omega) (by show f3 = 0 → ivh3 a0 7 ≤ 204 + 4 * k; omega) (by show ivh3 a0 4 = iv a0 4; omega) (SBN.bad hB2 (by omega) (by omega) (by omega))
                · replace htn := (htn.resolve_left c10)
                  refine c_aload_n (j := 7) (x := a0) C dX6_setBy_141 rfl ?_
                  refine c_aload_n (j := 8) (x := a1) C dX6_setBy_142 rfl ?_
                  obtain ⟨rb2, rq2, trb2⟩ := W4.ref t_a1 6 rfl rfl rfl
                  have lnrb2 : 4 ≤ ln rb2 ∧ ln rb2 ≤ 4 := W4.len trb2 rfl
                  refine c_getr (k := 6) C ck_10 dX6_setBy_143 w2_195 (by decide) t_a1 rfl rfl (by decide) rfl rq2 ?_
                  refine c_st (st2 := [.ref rb2, .ref a0]) rfl ?_
                  refine c_iload_n (j := 3) C dX6_setBy_146 rfl ?_
                  refine c_if_eq (tgt := 154) C ⟨by omega, by omega⟩ dX6_setBy_147 (by decide) (fun z => absurd z (by omega)) (fun _ => ?_)
                  refine c_iconst C dX6_setBy_150 ?_
                  refine c_goto (tgt := 155) C dX6_setBy_151 (by decide) ?_
                  have ll2 : 4 ≤ ln rb2 ∧ ln rb2 ≤ 4 := W4.len trb2 rfl
                  obtain ⟨nb3, nq3, tnb3⟩ := opt_n (W4.opt trb2 ((3 : Int).toNat) rfl rfl)
                  have tnb3 : ∀ b, nb3 = some b → ty L cl b 20 := tnb3
                  refine c_aaldR C dX6_setBy_155 trb2 rfl (by omega) (by omega) (by omega) nq3 ?_
                  refine c_st (st2 := [(va_rf nb3), .ref a0]) rfl ?_
                  refine c_iload (j := 5) C dX6_setBy_156 rfl ?_
                  refine hv2 (show 0 ≤ ivh3 a0 10 ∧ ivh3 a0 10 ≤ 500 from W4.int t_a0 10) (show 0 ≤ ivh3 a0 11 ∧ ivh3 a0 11 ≤ 500 from W4.int t_a0 11) (fun ri34 ri35 => ?_)
                  refine d_callV (As := [(va_rf nb3), .int (iI k)]) (rest := []) C hM (G_setTurn (a0 := a0) (r := nb3) (i := k) W4 hS t_a0 tnb3 (by omega) (by show ivh3 a0 7 ≤ 90000; omega)) dX6_setBy_158 kV_X6_82 rfl t_a0 rfl rfl (by decide) ck_7 rfl (Nat.le_of_ble_eq_true rfl) ⟨(Nat.le_of_ble_eq_true rfl), (Nat.le_of_ble_eq_true rfl)⟩ hph hph (show 0 + 0 = 0 from rfl) (by decide) (fun rh4 Lh4 clh4 lnh4 ivh4 rvh4 h4 => ?_)
                  obtain ⟨f4, rfl, rfl, rfl, rfl, rfl, fl4, W5, rgf4, exf4⟩ := h4
                  have F5 := F4.call hX0 fl4 rfl
                  refine c_st (st2 := [.int (iI f4)]) rfl ?_
                  refine hv5 (show 0 ≤ ivh4 a0 4 ∧ ivh4 a0 4 ≤ 500 from W5.int t_a0 4) (show 0 ≤ ivh4 a0 7 ∧ ivh4 a0 7 ≤ 100000 from W5.int t_a0 7) (show 0 ≤ ivh4 a0 10 ∧ ivh4 a0 10 ≤ 500 from W5.int t_a0 10) (show 0 ≤ ivh4 a0 11 ∧ ivh4 a0 11 ≤ 500 from W5.int t_a0 11) (show ((f4 = 0 ∨ f4 = 7) ∧ ivh4 a0 4 = ivh3 a0 4 ∧ ivh3 a0 7 ≤ ivh4 a0 7 ∧ ivh4 a0 7 ≤ ivh3 a0 7 + 4 ∧ ivh4 a0 10 = ivh3 a0 10 ∧ ivh4 a0 11 = ivh3 a0 11) ∧ STX ln ivh3 rv ivh4 a0 nb3 f4 from exf4) (fun ri36 ri37 ri38 ri39 gf4 => ?_)
                  refine c_istore (lv2 := [(8, .int (iI f4)), (6, .int (iI tn)), (7, (va_rf fs)), (3, .int (iI sc)), (4, .int (iI fr)), (5, .int (iI k)), (2, .int (iI 0)), (0, .ref a0), (1, .ref a1)]) C dX6_setBy_161 (by decide) (by cases fs <;> rfl) ?_
                  refine hv3 (show (-2147483648) ≤ ivh4 a1 0 ∧ ivh4 a1 0 ≤ 2147483647 from W5.int t_a1 0) (show ivh4 a1 0 = ivh3 a1 0 from fl4.i t_a1 rfl 0) (show ivh3 a1 0 = ivb2 a1 0 from fl3.i t_a1 rfl 0) (fun ri40 ie40 ie41 => ?_)
                  refine c_lv (lv2 := [(8, .int (iI f4)), (6, .int (iI tn)), (7, (va_rf fs)), (3, .int (iI sc)), (4, .int (iI fr)), (5, .int (iI k)), (2, .int (iI 0)), (0, .ref a0), (1, .ref a1)]) [0, 1, 2, 3, 4, 5, 6, 7, 8] rfl ?_
                  exact J2  f4 _  W5 F5  (by omega) (by show f4 = 0 → ivh4 a0 7 ≤ 204 + 4 * k; omega) (by show ivh4 a0 4 = iv a0 4; omega) (by exfalso; have q := (hTN.1 (by omega)).1; omega)
          refine c_iload_n (j := 3) C dX6_setBy_36 rfl ?_
          refine c_if_eq (tgt := 74) C ⟨by decide, by decide⟩ dX6_setBy_37 (by decide) (fun _ => ?_) (fun z => absurd z (by omega))
          refine c_iconst C dX6_setBy_74 ?_
          refine c_istore (lv2 := [(6, .int (iI 0)), (3, .int (iI sc)), (4, .int (iI fr)), (5, .int (iI k)), (2, .int (iI 0)), (0, .ref a0), (1, .ref a1)]) C dX6_setBy_75 (by decide) rfl ?_
          refine c_iload (j := 3) C dX6_setBy_77 rfl ?_
          refine c_aload_n (j := 5) (x := a0) C dX6_setBy_79 rfl ?_
          refine c_get (k := 4) C ck_7 dX6_setBy_80 w1_140 (by decide) t_a0 rfl rfl (by decide) rfl ?_
          refine c_icmp_ge (tgt := 94) C ⟨by omega, by omega⟩ (r32_c (lo := 0) (hi := 500) ri3.1 ri3.2 (by decide) (by decide)) dX6_setBy_83 (by decide) (fun c11 => ?_) (fun c11 => ?_)
          · refine c_iload_n (j := 4) C dX6_setBy_94 rfl ?_
            refine c_if_eq (tgt := 105) C ⟨by decide, by decide⟩ dX6_setBy_95 (by decide) (fun _ => ?_) (fun z => absurd z (by omega))
            refine c_aload_n (j := 6) (x := a1) C dX6_setBy_105 rfl ?_
            refine c_astore (lv2 := [(7, .ref a1), (6, .int (iI 0)), (3, .int (iI sc)), (4, .int (iI fr)), (5, .int (iI k)), (2, .int (iI 0)), (0, .ref a0), (1, .ref a1)]) C dX6_setBy_106 (by decide) rfl ?_
            refine hv3 (show 0 ≤ ivb1 a0 7 ∧ ivb1 a0 7 ≤ 100000 from Wb1.int t_a0 7) (show (-2147483648) ≤ ivb1 a1 0 ∧ ivb1 a1 0 ≤ 2147483647 from Wb1.int t_a1 0) (show ivb1 a1 0 = iv a1 0 from Fb1.i t_a1 rfl 0) (fun ri41 ri42 ie43 => ?_)
            refine c_lv (lv2 := [(6, .int (iI 0)), (7, .ref a1), (3, .int (iI sc)), (4, .int (iI fr)), (5, .int (iI k)), (2, .int (iI 0)), (0, .ref a0), (1, .ref a1)]) [1, 0, 2, 3, 4, 5, 6, 7] rfl ?_
            exact J1  (some a1) 0 _  Wb1 Fb1 (fun _ q => by cases q; exact t_a1) (by omega) (by omega) (fun q => absurd q (by omega)) (by show ivb1 a0 7 ≤ 200 + 4 * k; omega) (by show ivb1 a0 4 = iv a0 4; omega) ⟨(fun q => absurd q (by decide)), (fun _ => by omega), (fun q => by exfalso; omega), (fun _ => rfl)⟩ hB
          · refine c_iload (j := 0) C dX6_setBy_86 rfl ?_
            refine c_if_ne (tgt := 94) C ⟨by decide, by decide⟩ dX6_setBy_88 (by decide) (fun z => absurd z (by omega)) (fun _ => ?_)
            refine c_goto (tgt := 187) C dX6_setBy_91 (by decide) ?_
            refine c_iinc (z := k) (j := 3) (lv2 := [(5, .int (iI (k + 1))), (6, .int (iI 0)), (3, .int (iI sc)), (4, .int (iI fr)), (2, .int (iI 0)), (0, .ref a0), (1, .ref a1)]) C dX6_setBy_187 rfl (by decide) rfl ?_
            refine c_goto (tgt := 27) C dX6_setBy_190 (by decide) ?_
            refine hv3 (show 0 ≤ ivb1 a0 7 ∧ ivb1 a0 7 ≤ 100000 from Wb1.int t_a0 7) (show (-2147483648) ≤ ivb1 a1 0 ∧ ivb1 a1 0 ≤ 2147483647 from Wb1.int t_a1 0) (show ivb1 a1 0 = iv a1 0 from Fb1.i t_a1 rfl 0) (fun ri43 ri44 ie45 => ?_)
            refine c_lv (lv2 := [(3, .int (iI sc)), (4, .int (iI fr)), (5, .int (iI (k + 1))), (2, .int (iI 0)), (0, .ref a0), (1, .ref a1)]) [2, 3, 0, 4, 5, 6] rfl ?_
            exact ih1  sc fr (k + 1) _ (by omega) Wb1 Fb1  (by omega) (by omega) (by omega) (by show ivb1 a0 7 ≤ 200 + 4 * (k + 1); omega) (by show ivb1 a0 4 = iv a0 4; omega) (hB.skip (by omega) (by omega) (Or.inl (by omega)))
    refine hv4 (show 0 ≤ iv1 a0 7 ∧ iv1 a0 7 ≤ 100000 from W1.int t_a0 7) (show iv1 a0 7 = 0 from by rw [pq1]; exact up2_s) (show 0 ≤ iv1 a0 4 ∧ iv1 a0 4 ≤ 500 from W1.int t_a0 4) (show iv1 a0 4 = iv a0 4 from by rw [pq1]; exact up2_j (by decide)) (fun ri45 ie46 ri46 ie47 => ?_)
    refine c_lv (lv2 := [(3, .int (iI 0)), (4, .int (iI 0)), (5, .int (iI 0)), (2, .int (iI 0)), (0, .ref a0), (1, .ref a1)]) [2, 1, 0, 3, 4, 5] rfl ?_
    exact Lp1 503 0 0 0 _ (by omega) W1 F1  (by omega) (by omega) (by omega) (by show iv1 a0 7 ≤ 200 + 4 * 0; omega) (by show iv1 a0 4 = iv a0 4; omega) (SBI.init pq1 (by omega))
  · refine c_iconst C dX6_setBy_13 ?_
    refine c_goto (tgt := 18) C dX6_setBy_14 (by decide) ?_
    refine c_istore_n (lv2 := [(2, .int (iI 1)), (0, .ref a0), (1, .ref a1)]) C dX6_setBy_18 (by decide) rfl ?_
    refine c_iconst C dX6_setBy_19 ?_
    refine c_istore_n (lv2 := [(3, .int (iI 0)), (2, .int (iI 1)), (0, .ref a0), (1, .ref a1)]) C dX6_setBy_20 (by decide) rfl ?_
    refine c_iconst C dX6_setBy_21 ?_
    refine c_istore (lv2 := [(4, .int (iI 0)), (3, .int (iI 0)), (2, .int (iI 1)), (0, .ref a0), (1, .ref a1)]) C dX6_setBy_22 (by decide) rfl ?_
    refine c_iconst C dX6_setBy_24 ?_
    refine c_istore (lv2 := [(5, .int (iI 0)), (4, .int (iI 0)), (3, .int (iI 0)), (2, .int (iI 1)), (0, .ref a0), (1, .ref a1)]) C dX6_setBy_25 (by decide) rfl ?_
    have Lp2 : ∀ (nn : Nat) (sc fr k : Int) (ivb4 : Nat → Nat → Int) , iv a0 4 + 2 - k < (nn : Int) → WT (g0 G) sk L cl ln ivb4 rv → fT [15, 53, 54, 55] L cl iv rv ivb4 rv → (sc = 0 ∨ sc = 1) → (0 ≤ fr ∧ fr ≤ k) → (0 ≤ k ∧ k ≤ iv a0 4 + 1) → (ivb4 a0 7 ≤ 200 + 4 * k) → (ivb4 a0 4 = iv a0 4) → (SBI sk ln iv rv ivb4 a0 a1 sc fr k) → cw p l e 6 ((PHM) + 0 - ((Phi (g0 G) sk) ln rv)) s m args below meth c G A 9 (MQ below (Qu G A (Qp G (Phi (g0 G) sk) ((Phi (g0 G) sk) ln rv) 0 (fun v L2 cl2 ln2 iv2 rv2 => ∃ f : Int, v = some (.int (iI f)) ∧ L = L2 ∧ cl = cl2 ∧ ln = ln2 ∧ rv = rv2 ∧ fT [15, 53, 54, 55] L cl iv rv iv2 rv2 ∧ WT (g0 G) sk L2 cl2 ln2 iv2 rv2 ∧ (-2147483648 ≤ f ∧ f ≤ 2147483647) ∧ (((f = 0 ∨ f = 6 ∨ f = 7) ∧ iv2 a0 4 = iv a0 4 ∧ (f = 0 → iv2 a0 7 ≤ 200)) ∧ SBX sk ln iv rv iv2 a0 a1 f)))) args s (((PHM) + 0 - ((Phi (g0 G) sk) ln rv)) / 16) ((PHM) + 0 - ((Phi (g0 G) sk) ln rv)) A) (Phi (g0 G) sk) ((Phi (g0 G) sk) ln rv) L cl ln ivb4 rv 0 27 [(3, .int (iI sc)), (4, .int (iI fr)), (5, .int (iI k)), (2, .int (iI 1)), (0, .ref a0), (1, .ref a1)] [] := by
      intro nn
      induction nn with
      | zero =>
        intro  sc fr k ivb4 hm Wb4 Fb4  hsc hfr hk hc7 hc4 hB
        exact absurd hm (by omega)
      | succ nn ih2 =>
        intro  sc fr k ivb4 hm Wb4 Fb4  hsc hfr hk hc7 hc4 hB
        refine c_iload (j := 2) C dX6_setBy_27 rfl ?_
        refine c_aload_n (j := 4) (x := a0) C dX6_setBy_29 rfl ?_
        have ri47 : 0 ≤ ivb4 a0 4 ∧ ivb4 a0 4 ≤ 500 := Wb4.int t_a0 4
        refine c_get (k := 4) C ck_7 dX6_setBy_30 w1_140 (by decide) t_a0 rfl rfl (by decide) rfl ?_
        refine c_icmp_gt (tgt := 193) C ⟨by omega, by omega⟩ (r32_c (lo := 0) (hi := 500) ri47.1 ri47.2 (by decide) (by decide)) dX6_setBy_33 (by decide) (fun c12 => ?_) (fun c12 => ?_)
        · refine c_aload_n (j := 4) (x := a0) C dX6_setBy_193 rfl ?_
          have ri48 : 0 ≤ ivb4 a0 7 ∧ ivb4 a0 7 ≤ 100000 := Wb4.int t_a0 7
          refine c_get (k := 7) C ck_7 dX6_setBy_194 w1_147 (by decide) t_a0 rfl rfl (by decide) rfl ?_
          refine c_sipush (z := 200) C dX6_setBy_197 (by decide) ?_
          refine c_icmp_le (tgt := 208) C (r32_c (lo := 0) (hi := 100000) ri48.1 ri48.2 (by decide) (by decide)) ⟨by decide, by decide⟩ dX6_setBy_200 (by decide) (fun c13 => ?_) (fun c13 => ?_)
          · refine c_iconst C dX6_setBy_208 ?_
            exact c_iret C dX6_setBy_209 rfl (by decide) (rom0 hph hph (by decide)) ⟨0, rfl, rfl, rfl, rfl, rfl, Fb4, Wb4, ⟨by decide, by decide⟩, ⟨by omega, hB.fin (by omega) (by omega)⟩⟩
          · refine c_bipush (z := 6) C dX6_setBy_203 (by decide) ?_
            refine c_goto (tgt := 209) C dX6_setBy_205 (by decide) ?_
            exact c_iret C dX6_setBy_209 rfl (by decide) (rom0 hph hph (by decide)) ⟨6, rfl, rfl, rfl, rfl, rfl, Fb4, Wb4, ⟨by decide, by decide⟩, ⟨by omega, hB.fin (by omega) (by omega)⟩⟩
        · have J3 : ∀ (fs : Option Nat) (tn : Int) (ivb5 : Nat → Nat → Int) , WT (g0 G) sk L cl ln ivb5 rv → fT [15, 53, 54, 55] L cl iv rv ivb5 rv → (∀ b, fs = some b → ty L cl b 100) → (tn = 0 ∨ tn = 1) → (k ≤ iv a0 4) → (tn = 1 → k < iv a0 4) → (ivb5 a0 7 ≤ 200 + 4 * k) → (ivb5 a0 4 = iv a0 4) → (TRN iv rv a0 a1 sc k tn fs) → (SBI sk ln iv rv ivb5 a0 a1 sc fr k) → cw p l e 6 ((PHM) + 0 - ((Phi (g0 G) sk) ln rv)) s m args below meth c G A 9 (MQ below (Qu G A (Qp G (Phi (g0 G) sk) ((Phi (g0 G) sk) ln rv) 0 (fun v L2 cl2 ln2 iv2 rv2 => ∃ f : Int, v = some (.int (iI f)) ∧ L = L2 ∧ cl = cl2 ∧ ln = ln2 ∧ rv = rv2 ∧ fT [15, 53, 54, 55] L cl iv rv iv2 rv2 ∧ WT (g0 G) sk L2 cl2 ln2 iv2 rv2 ∧ (-2147483648 ≤ f ∧ f ≤ 2147483647) ∧ (((f = 0 ∨ f = 6 ∨ f = 7) ∧ iv2 a0 4 = iv a0 4 ∧ (f = 0 → iv2 a0 7 ≤ 200)) ∧ SBX sk ln iv rv iv2 a0 a1 f)))) args s (((PHM) + 0 - ((Phi (g0 G) sk) ln rv)) / 16) ((PHM) + 0 - ((Phi (g0 G) sk) ln rv)) A) (Phi (g0 G) sk) ((Phi (g0 G) sk) ln rv) L cl ln ivb5 rv 0 108 [(6, .int (iI tn)), (7, (va_rf fs)), (3, .int (iI sc)), (4, .int (iI fr)), (5, .int (iI k)), (2, .int (iI 1)), (0, .ref a0), (1, .ref a1)] [] := by
            intro fs tn ivb5 Wb5 Fb5 ty_fs htn hki htk hd7 hd4 hTN hB2
            have J4 : ∀ (wy : Int) (ivb6 : Nat → Nat → Int) , WT (g0 G) sk L cl ln ivb6 rv → fT [15, 53, 54, 55] L cl iv rv ivb6 rv → (wy = 0 ∨ wy = 6 ∨ wy = 7) → (wy = 0 → ivb6 a0 7 ≤ 204 + 4 * k) → (ivb6 a0 4 = iv a0 4) → (SBN sk ln iv rv ivb6 a0 a1 sc k wy) → cw p l e 6 ((PHM) + 0 - ((Phi (g0 G) sk) ln rv)) s m args below meth c G A 9 (MQ below (Qu G A (Qp G (Phi (g0 G) sk) ((Phi (g0 G) sk) ln rv) 0 (fun v L2 cl2 ln2 iv2 rv2 => ∃ f : Int, v = some (.int (iI f)) ∧ L = L2 ∧ cl = cl2 ∧ ln = ln2 ∧ rv = rv2 ∧ fT [15, 53, 54, 55] L cl iv rv iv2 rv2 ∧ WT (g0 G) sk L2 cl2 ln2 iv2 rv2 ∧ (-2147483648 ≤ f ∧ f ≤ 2147483647) ∧ (((f = 0 ∨ f = 6 ∨ f = 7) ∧ iv2 a0 4 = iv a0 4 ∧ (f = 0 → iv2 a0 7 ≤ 200)) ∧ SBX sk ln iv rv iv2 a0 a1 f)))) args s (((PHM) + 0 - ((Phi (g0 G) sk) ln rv)) / 16) ((PHM) + 0 - ((Phi (g0 G) sk) ln rv)) A) (Phi (g0 G) sk) ((Phi (g0 G) sk) ln rv) L cl ln ivb6 rv 0 163 [(8, .int (iI wy)), (6, .int (iI tn)), (7, (va_rf fs)), (3, .int (iI sc)), (4, .int (iI fr)), (5, .int (iI k)), (2, .int (iI 1)), (0, .ref a0), (1, .ref a1)] [] := by
              intro  wy ivb6 Wb6 Fb6  hwy he7 he4 hP
              refine c_iload (j := 0) C dX6_setBy_163 rfl ?_
              refine c_if_eq (tgt := 171) C (r32_067 hwy) dX6_setBy_165 (by decide) (fun c14 => ?_) (fun c14 => ?_)
              · clear hwy
                replace he7 := (he7 c14)
                refine c_iload_n (j := 3) C dX6_setBy_171 rfl ?_
                refine c_if_ne (tgt := 179) C (r32_01 hsc) dX6_setBy_172 (by decide) (fun c15 => ?_) (fun c15 => ?_)
                · replace hsc := (hsc.resolve_left c15)
                  refine c_iconst C dX6_setBy_179 ?_
                  refine c_istore_n (lv2 := [(3, .int (iI 0)), (8, .int (iI wy)), (6, .int (iI tn)), (7, (va_rf fs)), (4, .int (iI fr)), (5, .int (iI k)), (2, .int (iI 1)), (0, .ref a0), (1, .ref a1)]) C dX6_setBy_180 (by decide) rfl ?_
                  refine c_iload (j := 5) C dX6_setBy_181 rfl ?_
                  refine c_iconst C dX6_setBy_183 ?_
                  refine c_iadd C dX6_setBy_184 ?_
                  refine c_istore (lv2 := [(4, .int (iI (k + 1))), (3, .int (iI 0)), (8, .int (iI wy)), (6, .int (iI tn)), (7, (va_rf fs)), (5, .int (iI k)), (2, .int (iI 1)), (0, .ref a0), (1, .ref a1)]) C dX6_setBy_185 (by decide) rfl ?_
                  refine c_iinc (z := k) (j := 5) (lv2 := [(5, .int (iI (k + 1))), (4, .int (iI (k + 1))), (3, .int (iI 0)), (8, .int (iI wy)), (6, .int (iI tn)), (7, (va_rf fs)), (2, .int (iI 1)), (0, .ref a0), (1, .ref a1)]) C dX6_setBy_187 rfl (by decide) rfl ?_
                  refine c_goto (tgt := 27) C dX6_setBy_190 (by decide) ?_
                  refine hv4 (show 0 ≤ ivb6 a0 7 ∧ ivb6 a0 7 ≤ 100000 from Wb6.int t_a0 7) (show 0 ≤ ivb6 a0 4 ∧ ivb6 a0 4 ≤ 500 from Wb6.int t_a0 4) (show (-2147483648) ≤ ivb6 a1 0 ∧ ivb6 a1 0 ≤ 2147483647 from Wb6.int t_a1 0) (show ivb6 a1 0 = iv a1 0 from Fb6.i t_a1 rfl 0) (fun ri49 ri50 ri51 ie52 => ?_)
                  refine c_lv (lv2 := [(3, .int (iI 0)), (4, .int (iI (k + 1))), (5, .int (iI (k + 1))), (2, .int (iI 1)), (0, .ref a0), (1, .ref a1)]) [2, 1, 0, 6, 7, 8] rfl ?_
                  exact ih2  0 (k + 1) (k + 1) _ (by omega) Wb6 Fb6  (by omega) (by omega) (by omega) (by show ivb6 a0 7 ≤ 200 + 4 * (k + 1); omega) (by show ivb6 a0 4 = iv a0 4; omega) ((hP.1 (by omega)).re (by omega))
                · clear hsc
                  refine c_iconst C dX6_setBy_175 ?_
                  refine c_goto (tgt := 180) C dX6_setBy_176 (by decide) ?_
                  refine c_istore_n (lv2 := [(3, .int (iI 1)), (8, .int (iI wy)), (6, .int (iI tn)), (7, (va_rf fs)), (4, .int (iI fr)), (5, .int (iI k)), (2, .int (iI 1)), (0, .ref a0), (1, .ref a1)]) C dX6_setBy_180 (by decide) rfl ?_
                  refine c_iload (j := 5) C dX6_setBy_181 rfl ?_
                  refine c_iconst C dX6_setBy_183 ?_
                  refine c_iadd C dX6_setBy_184 ?_
                  refine c_istore (lv2 := [(4, .int (iI (k + 1))), (3, .int (iI 1)), (8, .int (iI wy)), (6, .int (iI tn)), (7, (va_rf fs)), (5, .int (iI k)), (2, .int (iI 1)), (0, .ref a0), (1, .ref a1)]) C dX6_setBy_185 (by decide) rfl ?_
                  refine c_iinc (z := k) (j := 5) (lv2 := [(5, .int (iI (k + 1))), (4, .int (iI (k + 1))), (3, .int (iI 1)), (8, .int (iI wy)), (6, .int (iI tn)), (7, (va_rf fs)), (2, .int (iI 1)), (0, .ref a0), (1, .ref a1)]) C dX6_setBy_187 rfl (by decide) rfl ?_
                  refine c_goto (tgt := 27) C dX6_setBy_190 (by decide) ?_
                  refine hv4 (show 0 ≤ ivb6 a0 7 ∧ ivb6 a0 7 ≤ 100000 from Wb6.int t_a0 7) (show 0 ≤ ivb6 a0 4 ∧ ivb6 a0 4 ≤ 500 from Wb6.int t_a0 4) (show (-2147483648) ≤ ivb6 a1 0 ∧ ivb6 a1 0 ≤ 2147483647 from Wb6.int t_a1 0) (show ivb6 a1 0 = iv a1 0 from Fb6.i t_a1 rfl 0) (fun ri52 ri53 ri54 ie55 => ?_)
                  refine c_lv (lv2 := [(3, .int (iI 1)), (4, .int (iI (k + 1))), (5, .int (iI (k + 1))), (2, .int (iI 1)), (0, .ref a0), (1, .ref a1)]) [2, 1, 0, 6, 7, 8] rfl ?_
                  exact ih2  1 (k + 1) (k + 1) _ (by omega) Wb6 Fb6  (by omega) (by omega) (by omega) (by show ivb6 a0 7 ≤ 200 + 4 * (k + 1); omega) (by show ivb6 a0 4 = iv a0 4; omega) ((hP.1 (by omega)).re (by omega))
              · replace hwy := (hwy.resolve_left c14)
                clear he7
                refine c_iload (j := 0) C dX6_setBy_168 rfl ?_
                refine hv2 (show 0 ≤ ivb6 a0 4 ∧ ivb6 a0 4 ≤ 500 from Wb6.int t_a0 4) (show 0 ≤ ivb6 a0 7 ∧ ivb6 a0 7 ≤ 100000 from Wb6.int t_a0 7) (fun ri55 ri56 => ?_)
                exact c_iret C dX6_setBy_170 rfl (by decide) (rom0 hph hph (by decide)) ⟨wy, rfl, rfl, rfl, rfl, rfl, Fb6, Wb6, ⟨by omega, by omega⟩, ⟨by omega, SBX.fail (hP.2 (by omega)) (by omega)⟩⟩
            refine c_aload_n (j := 6) (x := a0) C dX6_setBy_108 rfl ?_
            refine c_iload_n (j := 2) C dX6_setBy_109 rfl ?_
            refine c_if_eq (tgt := 120) C (r32_01 hsc) dX6_setBy_110 (by decide) (fun c16 => ?_) (fun c16 => ?_)
            · clear hsc
              refine c_aloadr (j := 1) (r := fs) C dX6_setBy_120 rfl ?_
              refine c_iload (j := 3) C dX6_setBy_122 rfl ?_
              refine c_iload (j := 4) C dX6_setBy_124 rfl ?_
              refine hv4 (show (-2147483648) ≤ ivb5 a1 0 ∧ ivb5 a1 0 ≤ 2147483647 from Wb5.int t_a1 0) (show ivb5 a1 0 = iv a1 0 from Fb5.i t_a1 rfl 0) (show 0 ≤ ivb5 a0 7 ∧ ivb5 a0 7 ≤ 100000 from Wb5.int t_a0 7) (show 0 ≤ ivb5 a0 4 ∧ ivb5 a0 4 ≤ 500 from Wb5.int t_a0 4) (fun ri57 ie58 ri58 ri59 => ?_)
              refine d_callV (As := [(va_rf fs), .int (iI fr), .int (iI k)]) (rest := []) C hM (G_setPart (a0 := a0) (r := fs) (i := fr) (n := k) Wb5 hS t_a0 ty_fs (by omega) (by omega) (by show 0 ≤ fr ∧ fr ≤ 500 ∧ 0 ≤ k ∧ k ≤ 500 ∧ ivb5 a0 7 ≤ 50000; omega)) dX6_setBy_126 kV_X6_74 rfl t_a0 rfl rfl (by decide) ck_7 rfl (Nat.le_of_ble_eq_true rfl) ⟨(Nat.le_of_ble_eq_true rfl), (Nat.le_of_ble_eq_true rfl)⟩ hph hph (show 0 + 0 = 0 from rfl) (by decide) (fun rh5 Lh5 clh5 lnh5 ivh5 rvh5 h5 => ?_)
              obtain ⟨f5, rfl, rfl, rfl, rfl, rfl, fl5, W6, rgf5, exf5⟩ := h5
              have F6 := Fb5.call hX0 fl5 rfl
              refine c_st (st2 := [.int (iI f5)]) rfl ?_
              refine hv3 (show 0 ≤ ivh5 a0 4 ∧ ivh5 a0 4 ≤ 500 from W6.int t_a0 4) (show 0 ≤ ivh5 a0 7 ∧ ivh5 a0 7 ≤ 100000 from W6.int t_a0 7) (show ((f5 = 0 ∨ f5 = 6 ∨ f5 = 7) ∧ ivh5 a0 4 = ivb5 a0 4 ∧ ivh5 a0 7 ≤ ivb5 a0 7 + 208 ∧ (f5 = 0 → (ivh5 a0 7 ≤ ivb5 a0 7 ∨ ivh5 a0 7 ≤ 200))) ∧ SPX sk ln ivb5 rv ivh5 a0 fs fr k f5 from exf5) (fun ri60 ri61 gf5 => ?_)
              refine c_istore (lv2 := [(8, .int (iI f5)), (6, .int (iI tn)), (7, (va_rf fs)), (3, .int (iI sc)), (4, .int (iI fr)), (5, .int (iI k)), (2, .int (iI 1)), (0, .ref a0), (1, .ref a1)]) C dX6_setBy_129 (by decide) (by cases fs <;> rfl) ?_
              refine c_iload (j := 0) C dX6_setBy_131 rfl ?_
              refine c_if_ne (tgt := 163) C (r32_067 gf5.1.1) dX6_setBy_133 (by decide) (fun c17 => ?_) (fun c17 => ?_)
              · replace gf5 := (And.intro (And.intro (gf5.1.1.resolve_left c17) (And.intro gf5.1.2.1 (And.intro gf5.1.2.2.1 trivial))) gf5.2)
                refine hv2 (show (-2147483648) ≤ ivh5 a1 0 ∧ ivh5 a1 0 ≤ 2147483647 from W6.int t_a1 0) (show ivh5 a1 0 = ivb5 a1 0 from fl5.i t_a1 rfl 0) (fun ri62 ie63 => ?_)
                refine c_lv (lv2 := [(8, .int (iI f5)), (6, .int (iI tn)), (7, (va_rf fs)), (3, .int (iI sc)), (4, .int (iI fr)), (5, .int (iI k)), (2, .int (iI 1)), (0, .ref a0), (1, .ref a1)]) [0, 1, 2, 3, 4, 5, 6, 7, 8] rfl ?_
                exact J4  f5 _  W6 F6  (by omega) (by show f5 = 0 → ivh5 a0 7 ≤ 204 + 4 * k; omega) (by show ivh5 a0 4 = iv a0 4; omega) (SBN.jfail hB2 hW hS Fb5 t_a0 (by omega) (Or.inl ⟨by omega, hTN.2.2.1 (by omega)⟩) ⟨by omega, by omega⟩ gf5.2 (by by_cases q : tn = 1; exact Or.inr (hTN.1 q).2.2; exact Or.inl (hTN.2.1 q)) (by omega))
              · replace gf5 := (And.intro (And.intro c17 (And.intro gf5.1.2.1 (And.intro gf5.1.2.2.1 (gf5.1.2.2.2 c17)))) gf5.2)
                refine c_iload (j := 1) C dX6_setBy_136 rfl ?_
                refine c_if_eq (tgt := 163) C (r32_01 htn) dX6_setBy_138 (by decide) (fun c18 => ?_) (fun c18 => ?_)
                · clear htn
                  clear htk
                  refine hv2 (show (-2147483648) ≤ ivh5 a1 0 ∧ ivh5 a1 0 ≤ 2147483647 from W6.int t_a1 0) (show ivh5 a1 0 = ivb5 a1 0 from fl5.i t_a1 rfl 0) (fun ri63 ie64 => ?_)
                  refine c_lv (lv2 := [(8, .int (iI f5)), (6, .int (iI tn)), (7, (va_rf fs)), (3, .int (iI sc)), (4, .int (iI fr)), (5, .int (iI k)), (2, .int (iI 1)), (0, .ref a0), (1, .ref a1)]) [0, 1, 2, 3, 4, 5, 6, 7, 8] rfl ?_
                  exact J4  f5 _  W6 F6  (by omega) (by show f5 = 0 → ivh5 a0 7 ≤ 204 + 4 * k; omega) (by show ivh5 a0 4 = iv a0 4; omega) (SBN.jlast hB2 hW hS Fb5 t_a0 (by omega) (Or.inl ⟨by omega, hTN.2.2.1 (by omega)⟩) (hTN.2.1 (by omega)) gf5.2 (by omega))
                · replace htn := (htn.resolve_left c18)
                  refine c_aload_n (j := 7) (x := a0) C dX6_setBy_141 rfl ?_
                  refine c_aload_n (j := 8) (x := a1) C dX6_setBy_142 rfl ?_
                  obtain ⟨rb3, rq3, trb3⟩ := W6.ref t_a1 6 rfl rfl rfl
                  have lnrb3 : 4 ≤ ln rb3 ∧ ln rb3 ≤ 4 := W6.len trb3 rfl
                  refine c_getr (k := 6) C ck_10 dX6_setBy_143 w2_195 (by decide) t_a1 rfl rfl (by decide) rfl rq3 ?_
                  refine c_st (st2 := [.ref rb3, .ref a0]) rfl ?_
                  refine c_iload_n (j := 3) C dX6_setBy_146 rfl ?_
                  refine c_if_eq (tgt := 154) C ⟨by omega, by omega⟩ dX6_setBy_147 (by decide) (fun _ => ?_) (fun z => absurd z (by omega))
                  refine c_iconst C dX6_setBy_154 ?_
                  have ll3 : 4 ≤ ln rb3 ∧ ln rb3 ≤ 4 := W6.len trb3 rfl
                  obtain ⟨nb4, nq4, tnb4⟩ := opt_n (W6.opt trb3 ((2 : Int).toNat) rfl rfl)
                  have tnb4 : ∀ b, nb4 = some b → ty L cl b 20 := tnb4
                  refine c_aaldR C dX6_setBy_155 trb3 rfl (by omega) (by omega) (by omega) nq4 ?_
                  refine c_st (st2 := [(va_rf nb4), .ref a0]) rfl ?_
                  refine c_iload (j := 5) C dX6_setBy_156 rfl ?_
                  refine hv2 (show 0 ≤ ivh5 a0 10 ∧ ivh5 a0 10 ≤ 500 from W6.int t_a0 10) (show 0 ≤ ivh5 a0 11 ∧ ivh5 a0 11 ≤ 500 from W6.int t_a0 11) (fun ri64 ri65 => ?_)
                  refine d_callV (As := [(va_rf nb4), .int (iI k)]) (rest := []) C hM (G_setTurn (a0 := a0) (r := nb4) (i := k) W6 hS t_a0 tnb4 (by omega) (by show ivh5 a0 7 ≤ 90000; omega)) dX6_setBy_158 kV_X6_82 rfl t_a0 rfl rfl (by decide) ck_7 rfl (Nat.le_of_ble_eq_true rfl) ⟨(Nat.le_of_ble_eq_true rfl), (Nat.le_of_ble_eq_true rfl)⟩ hph hph (show 0 + 0 = 0 from rfl) (by decide) (fun rh6 Lh6 clh6 lnh6 ivh6 rvh6 h6 => ?_)
                  obtain ⟨f6, rfl, rfl, rfl, rfl, rfl, fl6, W7, rgf6, exf6⟩ := h6
                  have F7 := F6.call hX0 fl6 rfl
                  refine c_st (st2 := [.int (iI f6)]) rfl ?_
                  refine hv5 (show 0 ≤ ivh6 a0 4 ∧ ivh6 a0 4 ≤ 500 from W7.int t_a0 4) (show 0 ≤ ivh6 a0 7 ∧ ivh6 a0 7 ≤ 100000 from W7.int t_a0 7) (show 0 ≤ ivh6 a0 10 ∧ ivh6 a0 10 ≤ 500 from W7.int t_a0 10) (show 0 ≤ ivh6 a0 11 ∧ ivh6 a0 11 ≤ 500 from W7.int t_a0 11) (show ((f6 = 0 ∨ f6 = 7) ∧ ivh6 a0 4 = ivh5 a0 4 ∧ ivh5 a0 7 ≤ ivh6 a0 7 ∧ ivh6 a0 7 ≤ ivh5 a0 7 + 4 ∧ ivh6 a0 10 = ivh5 a0 10 ∧ ivh6 a0 11 = ivh5 a0 11) ∧ STX ln ivh5 rv ivh6 a0 nb4 f6 from exf6) (fun ri66 ri67 ri68 ri69 gf6 => ?_)
                  refine c_istore (lv2 := [(8, .int (iI f6)), (6, .int (iI tn)), (7, (va_rf fs)), (3, .int (iI sc)), (4, .int (iI fr)), (5, .int (iI k)), (2, .int (iI 1)), (0, .ref a0), (1, .ref a1)]) C dX6_setBy_161 (by decide) (by cases fs <;> rfl) ?_
                  refine hv3 (show (-2147483648) ≤ ivh6 a1 0 ∧ ivh6 a1 0 ≤ 2147483647 from W7.int t_a1 0) (show ivh6 a1 0 = ivh5 a1 0 from fl6.i t_a1 rfl 0) (show ivh5 a1 0 = ivb5 a1 0 from fl5.i t_a1 rfl 0) (fun ri70 ie71 ie72 => ?_)
                  refine c_lv (lv2 := [(8, .int (iI f6)), (6, .int (iI tn)), (7, (va_rf fs)), (3, .int (iI sc)), (4, .int (iI fr)), (5, .int (iI k)), (2, .int (iI 1)), (0, .ref a0), (1, .ref a1)]) [0, 1, 2, 3, 4, 5, 6, 7, 8] rfl ?_
                  exact J4  f6 _  W7 F7  (by omega) (by show f6 = 0 → ivh6 a0 7 ≤ 204 + 4 * k; omega) (by show ivh6 a0 4 = iv a0 4; omega) (SBN.jturn hB2 hW hS Fb5 t_a0 (by omega) (Or.inl ⟨by omega, hTN.2.2.1 (by omega)⟩) ⟨by omega, by omega⟩ gf5.2 (hTN.1 (by omega)).2.2 (by omega) F6 rq3 (Or.inl ⟨by omega, nq4⟩) tnb4 gf6.2)
            · replace hsc := (hsc.resolve_left c16)
              refine c_aload_n (j := 7) (x := a1) C dX6_setBy_113 rfl ?_
              obtain ⟨nb5, nq5, tnb5⟩ := opt_n (Wb5.opt t_a1 3 rfl rfl)
              have tnb5 : ∀ b, nb5 = some b → ty L cl b 100 := tnb5
              refine c_getr (k := 3) C ck_10 dX6_setBy_114 w2_185 (by decide) t_a1 rfl rfl (by decide) rfl nq5 ?_
              refine c_st (st2 := [(va_rf nb5), .ref a0]) rfl ?_
              refine c_goto (tgt := 122) C dX6_setBy_117 (by decide) ?_
              refine c_iload (j := 3) C dX6_setBy_122 rfl ?_
              refine c_iload (j := 4) C dX6_setBy_124 rfl ?_
              refine hv4 (show (-2147483648) ≤ ivb5 a1 0 ∧ ivb5 a1 0 ≤ 2147483647 from Wb5.int t_a1 0) (show ivb5 a1 0 = iv a1 0 from Fb5.i t_a1 rfl 0) (show 0 ≤ ivb5 a0 7 ∧ ivb5 a0 7 ≤ 100000 from Wb5.int t_a0 7) (show 0 ≤ ivb5 a0 4 ∧ ivb5 a0 4 ≤ 500 from Wb5.int t_a0 4) (fun ri71 ie73 ri72 ri73 => ?_)
              refine d_callV (As := [(va_rf nb5), .int (iI fr), .int (iI k)]) (rest := []) C hM (G_setPart (a0 := a0) (r := nb5) (i := fr) (n := k) Wb5 hS t_a0 tnb5 (by omega) (by omega) (by show 0 ≤ fr ∧ fr ≤ 500 ∧ 0 ≤ k ∧ k ≤ 500 ∧ ivb5 a0 7 ≤ 50000; omega)) dX6_setBy_126 kV_X6_74 rfl t_a0 rfl rfl (by decide) ck_7 rfl (Nat.le_of_ble_eq_true rfl) ⟨(Nat.le_of_ble_eq_true rfl), (Nat.le_of_ble_eq_true rfl)⟩ hph hph (show 0 + 0 = 0 from rfl) (by decide) (fun rh7 Lh7 clh7 lnh7 ivh7 rvh7 h7 => ?_)
              obtain ⟨f7, rfl, rfl, rfl, rfl, rfl, fl7, W8, rgf7, exf7⟩ := h7
              have F8 := Fb5.call hX0 fl7 rfl
              refine c_st (st2 := [.int (iI f7)]) rfl ?_
              refine hv3 (show 0 ≤ ivh7 a0 4 ∧ ivh7 a0 4 ≤ 500 from W8.int t_a0 4) (show 0 ≤ ivh7 a0 7 ∧ ivh7 a0 7 ≤ 100000 from W8.int t_a0 7) (show ((f7 = 0 ∨ f7 = 6 ∨ f7 = 7) ∧ ivh7 a0 4 = ivb5 a0 4 ∧ ivh7 a0 7 ≤ ivb5 a0 7 + 208 ∧ (f7 = 0 → (ivh7 a0 7 ≤ ivb5 a0 7 ∨ ivh7 a0 7 ≤ 200))) ∧ SPX sk ln ivb5 rv ivh7 a0 nb5 fr k f7 from exf7) (fun ri74 ri75 gf7 => ?_)
              refine c_istore (lv2 := [(8, .int (iI f7)), (6, .int (iI tn)), (7, (va_rf fs)), (3, .int (iI sc)), (4, .int (iI fr)), (5, .int (iI k)), (2, .int (iI 1)), (0, .ref a0), (1, .ref a1)]) C dX6_setBy_129 (by decide) (by cases fs <;> rfl) ?_
              refine c_iload (j := 0) C dX6_setBy_131 rfl ?_
              refine c_if_ne (tgt := 163) C (r32_067 gf7.1.1) dX6_setBy_133 (by decide) (fun c19 => ?_) (fun c19 => ?_)
              · replace gf7 := (And.intro (And.intro (gf7.1.1.resolve_left c19) (And.intro gf7.1.2.1 (And.intro gf7.1.2.2.1 trivial))) gf7.2)
                refine hv2 (show (-2147483648) ≤ ivh7 a1 0 ∧ ivh7 a1 0 ≤ 2147483647 from W8.int t_a1 0) (show ivh7 a1 0 = ivb5 a1 0 from fl7.i t_a1 rfl 0) (fun ri76 ie78 => ?_)
                refine c_lv (lv2 := [(8, .int (iI f7)), (6, .int (iI tn)), (7, (va_rf fs)), (3, .int (iI sc)), (4, .int (iI fr)), (5, .int (iI k)), (2, .int (iI 1)), (0, .ref a0), (1, .ref a1)]) [0, 1, 2, 3, 4, 5, 6, 7, 8] rfl ?_
                exact J4  f7 _  W8 F8  (by omega) (by show f7 = 0 → ivh7 a0 7 ≤ 204 + 4 * k; omega) (by show ivh7 a0 4 = iv a0 4; omega) (SBN.jfail hB2 hW hS Fb5 t_a0 (by omega) (Or.inr ⟨by omega, nq5.symm⟩) ⟨by omega, by omega⟩ gf7.2 (by by_cases q : tn = 1; exact Or.inr (hTN.1 q).2.2; exact Or.inl (hTN.2.1 q)) (by omega))
              · replace gf7 := (And.intro (And.intro c19 (And.intro gf7.1.2.1 (And.intro gf7.1.2.2.1 (gf7.1.2.2.2 c19)))) gf7.2)
                refine c_iload (j := 1) C dX6_setBy_136 rfl ?_
                refine c_if_eq (tgt := 163) C (r32_01 htn) dX6_setBy_138 (by decide) (fun c20 => ?_) (fun c20 => ?_)
                · clear htn
                  clear htk
                  refine hv2 (show (-2147483648) ≤ ivh7 a1 0 ∧ ivh7 a1 0 ≤ 2147483647 from W8.int t_a1 0) (show ivh7 a1 0 = ivb5 a1 0 from fl7.i t_a1 rfl 0) (fun ri77 ie79 => ?_)
                  refine c_lv (lv2 := [(8, .int (iI f7)), (6, .int (iI tn)), (7, (va_rf fs)), (3, .int (iI sc)), (4, .int (iI fr)), (5, .int (iI k)), (2, .int (iI 1)), (0, .ref a0), (1, .ref a1)]) [0, 1, 2, 3, 4, 5, 6, 7, 8] rfl ?_
                  exact J4  f7 _  W8 F8  (by omega) (by show f7 = 0 → ivh7 a0 7 ≤ 204 + 4 * k; omega) (by show ivh7 a0 4 = iv a0 4; omega) (SBN.jlast hB2 hW hS Fb5 t_a0 (by omega) (Or.inr ⟨by omega, nq5.symm⟩) (hTN.2.1 (by omega)) gf7.2 (by omega))
                · replace htn := (htn.resolve_left c20)
                  refine c_aload_n (j := 7) (x := a0) C dX6_setBy_141 rfl ?_
                  refine c_aload_n (j := 8) (x := a1) C dX6_setBy_142 rfl ?_
                  obtain ⟨rb4, rq4, trb4⟩ := W8.ref t_a1 6 rfl rfl rfl
                  have lnrb4 : 4 ≤ ln rb4 ∧ ln rb4 ≤ 4 := W8.len trb4 rfl
                  refine c_getr (k := 6) C ck_10 dX6_setBy_143 w2_195 (by decide) t_a1 rfl rfl (by decide) rfl rq4 ?_
                  refine c_st (st2 := [.ref rb4, .ref a0]) rfl ?_
                  refine c_iload_n (j := 3) C dX6_setBy_146 rfl ?_
                  refine c_if_eq (tgt := 154) C ⟨by omega, by omega⟩ dX6_setBy_147 (by decide) (fun z => absurd z (by omega)) (fun _ => ?_)
                  refine c_iconst C dX6_setBy_150 ?_
                  refine c_goto (tgt := 155) C dX6_setBy_151 (by decide) ?_
                  have ll4 : 4 ≤ ln rb4 ∧ ln rb4 ≤ 4 := W8.len trb4 rfl
                  obtain ⟨nb6, nq6, tnb6⟩ := opt_n (W8.opt trb4 ((3 : Int).toNat) rfl rfl)
                  have tnb6 : ∀ b, nb6 = some b → ty L cl b 20 := tnb6
                  refine c_aaldR C dX6_setBy_155 trb4 rfl (by omega) (by omega) (by omega) nq6 ?_
                  refine c_st (st2 := [(va_rf nb6), .ref a0]) rfl ?_
                  refine c_iload (j := 5) C dX6_setBy_156 rfl ?_
                  refine hv2 (show 0 ≤ ivh7 a0 10 ∧ ivh7 a0 10 ≤ 500 from W8.int t_a0 10) (show 0 ≤ ivh7 a0 11 ∧ ivh7 a0 11 ≤ 500 from W8.int t_a0 11) (fun ri78 ri79 => ?_)
                  refine d_callV (As := [(va_rf nb6), .int (iI k)]) (rest := []) C hM (G_setTurn (a0 := a0) (r := nb6) (i := k) W8 hS t_a0 tnb6 (by omega) (by show ivh7 a0 7 ≤ 90000; omega)) dX6_setBy_158 kV_X6_82 rfl t_a0 rfl rfl (by decide) ck_7 rfl (Nat.le_of_ble_eq_true rfl) ⟨(Nat.le_of_ble_eq_true rfl), (Nat.le_of_ble_eq_true rfl)⟩ hph hph (show 0 + 0 = 0 from rfl) (by decide) (fun rh8 Lh8 clh8 lnh8 ivh8 rvh8 h8 => ?_)
                  obtain ⟨f8, rfl, rfl, rfl, rfl, rfl, fl8, W9, rgf8, exf8⟩ := h8
                  have F9 := F8.call hX0 fl8 rfl
                  refine c_st (st2 := [.int (iI f8)]) rfl ?_
                  refine hv5 (show 0 ≤ ivh8 a0 4 ∧ ivh8 a0 4 ≤ 500 from W9.int t_a0 4) (show 0 ≤ ivh8 a0 7 ∧ ivh8 a0 7 ≤ 100000 from W9.int t_a0 7) (show 0 ≤ ivh8 a0 10 ∧ ivh8 a0 10 ≤ 500 from W9.int t_a0 10) (show 0 ≤ ivh8 a0 11 ∧ ivh8 a0 11 ≤ 500 from W9.int t_a0 11) (show ((f8 = 0 ∨ f8 = 7) ∧ ivh8 a0 4 = ivh7 a0 4 ∧ ivh7 a0 7 ≤ ivh8 a0 7 ∧ ivh8 a0 7 ≤ ivh7 a0 7 + 4 ∧ ivh8 a0 10 = ivh7 a0 10 ∧ ivh8 a0 11 = ivh7 a0 11) ∧ STX ln ivh7 rv ivh8 a0 nb6 f8 from exf8) (fun ri80 ri81 ri82 ri83 gf8 => ?_)
                  refine c_istore (lv2 := [(8, .int (iI f8)), (6, .int (iI tn)), (7, (va_rf fs)), (3, .int (iI sc)), (4, .int (iI fr)), (5, .int (iI k)), (2, .int (iI 1)), (0, .ref a0), (1, .ref a1)]) C dX6_setBy_161 (by decide) (by cases fs <;> rfl) ?_
                  refine hv3 (show (-2147483648) ≤ ivh8 a1 0 ∧ ivh8 a1 0 ≤ 2147483647 from W9.int t_a1 0) (show ivh8 a1 0 = ivh7 a1 0 from fl8.i t_a1 rfl 0) (show ivh7 a1 0 = ivb5 a1 0 from fl7.i t_a1 rfl 0) (fun ri84 ie86 ie87 => ?_)
                  refine c_lv (lv2 := [(8, .int (iI f8)), (6, .int (iI tn)), (7, (va_rf fs)), (3, .int (iI sc)), (4, .int (iI fr)), (5, .int (iI k)), (2, .int (iI 1)), (0, .ref a0), (1, .ref a1)]) [0, 1, 2, 3, 4, 5, 6, 7, 8] rfl ?_
                  exact J4  f8 _  W9 F9  (by omega) (by show f8 = 0 → ivh8 a0 7 ≤ 204 + 4 * k; omega) (by show ivh8 a0 4 = iv a0 4; omega) (SBN.jturn hB2 hW hS Fb5 t_a0 (by omega) (Or.inr ⟨by omega, nq5.symm⟩) ⟨by omega, by omega⟩ gf7.2 (hTN.1 (by omega)).2.2 (by omega) F8 rq4 (Or.inr ⟨by omega, nq6⟩) tnb6 gf8.2)
          refine c_iload_n (j := 3) C dX6_setBy_36 rfl ?_
          refine c_if_eq (tgt := 74) C ⟨by decide, by decide⟩ dX6_setBy_37 (by decide) (fun z => absurd z (by omega)) (fun _ => ?_)
          refine c_iload (j := 2) C dX6_setBy_40 rfl ?_
          refine c_aload_n (j := 4) (x := a0) C dX6_setBy_42 rfl ?_
          refine c_get (k := 4) C ck_7 dX6_setBy_43 w1_140 (by decide) t_a0 rfl rfl (by decide) rfl ?_
          refine c_icmp_ge (tgt := 74) C ⟨by omega, by omega⟩ (r32_c (lo := 0) (hi := 500) ri47.1 ri47.2 (by decide) (by decide)) dX6_setBy_46 (by decide) (fun c21 => ?_) (fun c21 => ?_)
          · refine c_iconst C dX6_setBy_74 ?_
            refine c_istore (lv2 := [(6, .int (iI 0)), (3, .int (iI sc)), (4, .int (iI fr)), (5, .int (iI k)), (2, .int (iI 1)), (0, .ref a0), (1, .ref a1)]) C dX6_setBy_75 (by decide) rfl ?_
            refine c_iload (j := 3) C dX6_setBy_77 rfl ?_
            refine c_aload_n (j := 5) (x := a0) C dX6_setBy_79 rfl ?_
            refine c_get (k := 4) C ck_7 dX6_setBy_80 w1_140 (by decide) t_a0 rfl rfl (by decide) rfl ?_
            refine c_icmp_ge (tgt := 94) C ⟨by omega, by omega⟩ (r32_c (lo := 0) (hi := 500) ri47.1 ri47.2 (by decide) (by decide)) dX6_setBy_83 (by decide) (fun _ => ?_) (fun z => absurd z (by omega))
            refine c_iload_n (j := 4) C dX6_setBy_94 rfl ?_
            refine c_if_eq (tgt := 105) C ⟨by decide, by decide⟩ dX6_setBy_95 (by decide) (fun z => absurd z (by omega)) (fun _ => ?_)
            refine c_aload_n (j := 6) (x := a1) C dX6_setBy_98 rfl ?_
            obtain ⟨nb7, nq7, tnb7⟩ := opt_n (Wb4.opt t_a1 2 rfl rfl)
            have tnb7 : ∀ b, nb7 = some b → ty L cl b 100 := tnb7
            refine c_getr (k := 2) C ck_10 dX6_setBy_99 w2_182 (by decide) t_a1 rfl rfl (by decide) rfl nq7 ?_
            refine c_st (st2 := [(va_rf nb7)]) rfl ?_
            refine c_goto (tgt := 106) C dX6_setBy_102 (by decide) ?_
            refine c_astorer (r := nb7) (lv2 := [(7, (va_rf nb7)), (6, .int (iI 0)), (3, .int (iI sc)), (4, .int (iI fr)), (5, .int (iI k)), (2, .int (iI 1)), (0, .ref a0), (1, .ref a1)]) C dX6_setBy_106 (by decide) rfl ?_
            refine hv3 (show 0 ≤ ivb4 a0 7 ∧ ivb4 a0 7 ≤ 100000 from Wb4.int t_a0 7) (show (-2147483648) ≤ ivb4 a1 0 ∧ ivb4 a1 0 ≤ 2147483647 from Wb4.int t_a1 0) (show ivb4 a1 0 = iv a1 0 from Fb4.i t_a1 rfl 0) (fun ri85 ri86 ie89 => ?_)
            refine c_lv (lv2 := [(6, .int (iI 0)), (7, (va_rf nb7)), (3, .int (iI sc)), (4, .int (iI fr)), (5, .int (iI k)), (2, .int (iI 1)), (0, .ref a0), (1, .ref a1)]) [1, 0, 2, 3, 4, 5, 6, 7] rfl ?_
            exact J3  nb7 0 _  Wb4 Fb4 tnb7 (by omega) (by omega) (fun q => absurd q (by omega)) (by show ivb4 a0 7 ≤ 200 + 4 * k; omega) (by show ivb4 a0 4 = iv a0 4; omega) ⟨(fun q => absurd q (by decide)), (fun _ => by omega), (fun _ => nq7.symm), (fun q => by exfalso; omega)⟩ hB
          · refine c_aload_n (j := 4) (x := a0) C dX6_setBy_49 rfl ?_
            obtain ⟨rb5, rq5, trb5⟩ := Wb4.ref t_a0 0 rfl rfl rfl
            have lnrb5 : 500 ≤ ln rb5 ∧ ln rb5 ≤ 500 := Wb4.len trb5 rfl
            refine c_getr (k := 0) C ck_7 dX6_setBy_50 w1_136 (by decide) t_a0 rfl rfl (by decide) rfl rq5 ?_
            refine c_st (st2 := [.ref rb5]) rfl ?_
            refine c_iload (j := 2) C dX6_setBy_53 rfl ?_
            have ll5 : 500 ≤ ln rb5 ∧ ln rb5 ≤ 500 := Wb4.len trb5 rfl
            refine c_iald C dX6_setBy_55 trb5 rfl (by omega) (by omega) (by omega) ?_
            refine hv2 (show (-2147483648) ≤ ivb4 rb5 k.toNat ∧ ivb4 rb5 k.toNat ≤ 2147483647 from Wb4.int trb5 k.toNat) (show ivb4 rb5 k.toNat = iv rb5 k.toNat from Fb4.i trb5 rfl k.toNat) (fun ri87 ie90 => ?_)
            refine c_iload_n (j := 0) C dX6_setBy_56 rfl ?_
            refine c_if_eq (tgt := 65) C (r32_01 hsc) dX6_setBy_57 (by decide) (fun c22 => ?_) (fun c22 => ?_)
            · clear hsc
              refine c_bipush (z := 60) C dX6_setBy_65 (by decide) ?_
              refine c_icmp_ne (tgt := 74) C (r32_c (lo := (-2147483648)) (hi := 2147483647) ri87.1 ri87.2 (by decide) (by decide)) ⟨by decide, by decide⟩ dX6_setBy_67 (by decide) (fun c23 => ?_) (fun c23 => ?_)
              · refine c_iconst C dX6_setBy_74 ?_
                refine c_istore (lv2 := [(6, .int (iI 0)), (3, .int (iI sc)), (4, .int (iI fr)), (5, .int (iI k)), (2, .int (iI 1)), (0, .ref a0), (1, .ref a1)]) C dX6_setBy_75 (by decide) rfl ?_
                refine c_iload (j := 3) C dX6_setBy_77 rfl ?_
                refine c_aload_n (j := 5) (x := a0) C dX6_setBy_79 rfl ?_
                refine c_get (k := 4) C ck_7 dX6_setBy_80 w1_140 (by decide) t_a0 rfl rfl (by decide) rfl ?_
                refine c_icmp_ge (tgt := 94) C ⟨by omega, by omega⟩ (r32_c (lo := 0) (hi := 500) ri47.1 ri47.2 (by decide) (by decide)) dX6_setBy_83 (by decide) (fun z => absurd z (by omega)) (fun _ => ?_)
                refine c_iload (j := 0) C dX6_setBy_86 rfl ?_
                refine c_if_ne (tgt := 94) C ⟨by decide, by decide⟩ dX6_setBy_88 (by decide) (fun z => absurd z (by omega)) (fun _ => ?_)
                refine c_goto (tgt := 187) C dX6_setBy_91 (by decide) ?_
                refine c_iinc (z := k) (j := 3) (lv2 := [(5, .int (iI (k + 1))), (6, .int (iI 0)), (3, .int (iI sc)), (4, .int (iI fr)), (2, .int (iI 1)), (0, .ref a0), (1, .ref a1)]) C dX6_setBy_187 rfl (by decide) rfl ?_
                refine c_goto (tgt := 27) C dX6_setBy_190 (by decide) ?_
                refine hv3 (show 0 ≤ ivb4 a0 7 ∧ ivb4 a0 7 ≤ 100000 from Wb4.int t_a0 7) (show (-2147483648) ≤ ivb4 a1 0 ∧ ivb4 a1 0 ≤ 2147483647 from Wb4.int t_a1 0) (show ivb4 a1 0 = iv a1 0 from Fb4.i t_a1 rfl 0) (fun ri88 ri89 ie92 => ?_)
                refine c_lv (lv2 := [(3, .int (iI sc)), (4, .int (iI fr)), (5, .int (iI (k + 1))), (2, .int (iI 1)), (0, .ref a0), (1, .ref a1)]) [2, 3, 0, 4, 5, 6] rfl ?_
                exact ih2  sc fr (k + 1) _ (by omega) Wb4 Fb4  (by omega) (by omega) (by omega) (by show ivb4 a0 7 ≤ 200 + 4 * (k + 1); omega) (by show ivb4 a0 4 = iv a0 4; omega) (hB.skip (by omega) (by omega) (Or.inr ⟨_, rq5, (by unfold sgj; split <;> omega)⟩))
              · refine c_iconst C dX6_setBy_70 ?_
                refine c_goto (tgt := 75) C dX6_setBy_71 (by decide) ?_
                refine c_istore (lv2 := [(6, .int (iI 1)), (3, .int (iI sc)), (4, .int (iI fr)), (5, .int (iI k)), (2, .int (iI 1)), (0, .ref a0), (1, .ref a1)]) C dX6_setBy_75 (by decide) rfl ?_
                refine c_iload (j := 3) C dX6_setBy_77 rfl ?_
                refine c_aload_n (j := 5) (x := a0) C dX6_setBy_79 rfl ?_
                refine c_get (k := 4) C ck_7 dX6_setBy_80 w1_140 (by decide) t_a0 rfl rfl (by decide) rfl ?_
                refine c_icmp_ge (tgt := 94) C ⟨by omega, by omega⟩ (r32_c (lo := 0) (hi := 500) ri47.1 ri47.2 (by decide) (by decide)) dX6_setBy_83 (by decide) (fun z => absurd z (by omega)) (fun _ => ?_)
                refine c_iload (j := 0) C dX6_setBy_86 rfl ?_
                refine c_if_ne (tgt := 94) C ⟨by decide, by decide⟩ dX6_setBy_88 (by decide) (fun _ => ?_) (fun z => absurd z (by omega))
                refine c_iload_n (j := 4) C dX6_setBy_94 rfl ?_
                refine c_if_eq (tgt := 105) C ⟨by decide, by decide⟩ dX6_setBy_95 (by decide) (fun z => absurd z (by omega)) (fun _ => ?_)
                refine c_aload_n (j := 6) (x := a1) C dX6_setBy_98 rfl ?_
                obtain ⟨nb8, nq8, tnb8⟩ := opt_n (Wb4.opt t_a1 2 rfl rfl)
                have tnb8 : ∀ b, nb8 = some b → ty L cl b 100 := tnb8
                refine c_getr (k := 2) C ck_10 dX6_setBy_99 w2_182 (by decide) t_a1 rfl rfl (by decide) rfl nq8 ?_
                refine c_st (st2 := [(va_rf nb8)]) rfl ?_
                refine c_goto (tgt := 106) C dX6_setBy_102 (by decide) ?_
                refine c_astorer (r := nb8) (lv2 := [(7, (va_rf nb8)), (6, .int (iI 1)), (3, .int (iI sc)), (4, .int (iI fr)), (5, .int (iI k)), (2, .int (iI 1)), (0, .ref a0), (1, .ref a1)]) C dX6_setBy_106 (by decide) rfl ?_
                refine hv3 (show 0 ≤ ivb4 a0 7 ∧ ivb4 a0 7 ≤ 100000 from Wb4.int t_a0 7) (show (-2147483648) ≤ ivb4 a1 0 ∧ ivb4 a1 0 ≤ 2147483647 from Wb4.int t_a1 0) (show ivb4 a1 0 = iv a1 0 from Fb4.i t_a1 rfl 0) (fun ri90 ri91 ie94 => ?_)
                refine c_lv (lv2 := [(6, .int (iI 1)), (7, (va_rf nb8)), (3, .int (iI sc)), (4, .int (iI fr)), (5, .int (iI k)), (2, .int (iI 1)), (0, .ref a0), (1, .ref a1)]) [1, 0, 2, 3, 4, 5, 6, 7] rfl ?_
                exact J3  nb8 1 _  Wb4 Fb4 tnb8 (by omega) (by omega) (fun _ => by omega) (by show ivb4 a0 7 ≤ 200 + 4 * k; omega) (by show ivb4 a0 4 = iv a0 4; omega) ⟨(fun _ => ⟨by omega, by omega, _, rq5, (by unfold sgj; split <;> omega)⟩), (fun q => absurd rfl q), (fun _ => nq8.symm), (fun q => by exfalso; omega)⟩ hB
            · replace hsc := (hsc.resolve_left c22)
              refine c_bipush (z := 62) C dX6_setBy_60 (by decide) ?_
              refine c_goto (tgt := 67) C dX6_setBy_62 (by decide) ?_
              refine c_icmp_ne (tgt := 74) C (r32_c (lo := (-2147483648)) (hi := 2147483647) ri87.1 ri87.2 (by decide) (by decide)) ⟨by decide, by decide⟩ dX6_setBy_67 (by decide) (fun c24 => ?_) (fun c24 => ?_)
              · refine c_iconst C dX6_setBy_74 ?_
                refine c_istore (lv2 := [(6, .int (iI 0)), (3, .int (iI sc)), (4, .int (iI fr)), (5, .int (iI k)), (2, .int (iI 1)), (0, .ref a0), (1, .ref a1)]) C dX6_setBy_75 (by decide) rfl ?_
                refine c_iload (j := 3) C dX6_setBy_77 rfl ?_
                refine c_aload_n (j := 5) (x := a0) C dX6_setBy_79 rfl ?_
                refine c_get (k := 4) C ck_7 dX6_setBy_80 w1_140 (by decide) t_a0 rfl rfl (by decide) rfl ?_
                refine c_icmp_ge (tgt := 94) C ⟨by omega, by omega⟩ (r32_c (lo := 0) (hi := 500) ri47.1 ri47.2 (by decide) (by decide)) dX6_setBy_83 (by decide) (fun z => absurd z (by omega)) (fun _ => ?_)
                refine c_iload (j := 0) C dX6_setBy_86 rfl ?_
                refine c_if_ne (tgt := 94) C ⟨by decide, by decide⟩ dX6_setBy_88 (by decide) (fun z => absurd z (by omega)) (fun _ => ?_)
                refine c_goto (tgt := 187) C dX6_setBy_91 (by decide) ?_
                refine c_iinc (z := k) (j := 3) (lv2 := [(5, .int (iI (k + 1))), (6, .int (iI 0)), (3, .int (iI sc)), (4, .int (iI fr)), (2, .int (iI 1)), (0, .ref a0), (1, .ref a1)]) C dX6_setBy_187 rfl (by decide) rfl ?_
                refine c_goto (tgt := 27) C dX6_setBy_190 (by decide) ?_
                refine hv3 (show 0 ≤ ivb4 a0 7 ∧ ivb4 a0 7 ≤ 100000 from Wb4.int t_a0 7) (show (-2147483648) ≤ ivb4 a1 0 ∧ ivb4 a1 0 ≤ 2147483647 from Wb4.int t_a1 0) (show ivb4 a1 0 = iv a1 0 from Fb4.i t_a1 rfl 0) (fun ri92 ri93 ie96 => ?_)
                refine c_lv (lv2 := [(3, .int (iI sc)), (4, .int (iI fr)), (5, .int (iI (k + 1))), (2, .int (iI 1)), (0, .ref a0), (1, .ref a1)]) [2, 3, 0, 4, 5, 6] rfl ?_
                exact ih2  sc fr (k + 1) _ (by omega) Wb4 Fb4  (by omega) (by omega) (by omega) (by show ivb4 a0 7 ≤ 200 + 4 * (k + 1); omega) (by show ivb4 a0 4 = iv a0 4; omega) (hB.skip (by omega) (by omega) (Or.inr ⟨_, rq5, (by unfold sgj; split <;> omega)⟩))
              · refine c_iconst C dX6_setBy_70 ?_
                refine c_goto (tgt := 75) C dX6_setBy_71 (by decide) ?_
                refine c_istore (lv2 := [(6, .int (iI 1)), (3, .int (iI sc)), (4, .int (iI fr)), (5, .int (iI k)), (2, .int (iI 1)), (0, .ref a0), (1, .ref a1)]) C dX6_setBy_75 (by decide) rfl ?_
                refine c_iload (j := 3) C dX6_setBy_77 rfl ?_
                refine c_aload_n (j := 5) (x := a0) C dX6_setBy_79 rfl ?_
                refine c_get (k := 4) C ck_7 dX6_setBy_80 w1_140 (by decide) t_a0 rfl rfl (by decide) rfl ?_
                refine c_icmp_ge (tgt := 94) C ⟨by omega, by omega⟩ (r32_c (lo := 0) (hi := 500) ri47.1 ri47.2 (by decide) (by decide)) dX6_setBy_83 (by decide) (fun z => absurd z (by omega)) (fun _ => ?_)
                refine c_iload (j := 0) C dX6_setBy_86 rfl ?_
                refine c_if_ne (tgt := 94) C ⟨by decide, by decide⟩ dX6_setBy_88 (by decide) (fun _ => ?_) (fun z => absurd z (by omega))
                refine c_iload_n (j := 4) C dX6_setBy_94 rfl ?_
                refine c_if_eq (tgt := 105) C ⟨by decide, by decide⟩ dX6_setBy_95 (by decide) (fun z => absurd z (by omega)) (fun _ => ?_)
                refine c_aload_n (j := 6) (x := a1) C dX6_setBy_98 rfl ?_
                obtain ⟨nb9, nq9, tnb9⟩ := opt_n (Wb4.opt t_a1 2 rfl rfl)
                have tnb9 : ∀ b, nb9 = some b → ty L cl b 100 := tnb9
                refine c_getr (k := 2) C ck_10 dX6_setBy_99 w2_182 (by decide) t_a1 rfl rfl (by decide) rfl nq9 ?_
                refine c_st (st2 := [(va_rf nb9)]) rfl ?_
                refine c_goto (tgt := 106) C dX6_setBy_102 (by decide) ?_
                refine c_astorer (r := nb9) (lv2 := [(7, (va_rf nb9)), (6, .int (iI 1)), (3, .int (iI sc)), (4, .int (iI fr)), (5, .int (iI k)), (2, .int (iI 1)), (0, .ref a0), (1, .ref a1)]) C dX6_setBy_106 (by decide) rfl ?_
                refine hv3 (show 0 ≤ ivb4 a0 7 ∧ ivb4 a0 7 ≤ 100000 from Wb4.int t_a0 7) (show (-2147483648) ≤ ivb4 a1 0 ∧ ivb4 a1 0 ≤ 2147483647 from Wb4.int t_a1 0) (show ivb4 a1 0 = iv a1 0 from Fb4.i t_a1 rfl 0) (fun ri94 ri95 ie98 => ?_)
                refine c_lv (lv2 := [(6, .int (iI 1)), (7, (va_rf nb9)), (3, .int (iI sc)), (4, .int (iI fr)), (5, .int (iI k)), (2, .int (iI 1)), (0, .ref a0), (1, .ref a1)]) [1, 0, 2, 3, 4, 5, 6, 7] rfl ?_
                exact J3  nb9 1 _  Wb4 Fb4 tnb9 (by omega) (by omega) (fun _ => by omega) (by show ivb4 a0 7 ≤ 200 + 4 * k; omega) (by show ivb4 a0 4 = iv a0 4; omega) ⟨(fun _ => ⟨by omega, by omega, _, rq5, (by unfold sgj; split <;> omega)⟩), (fun q => absurd rfl q), (fun _ => nq9.symm), (fun q => by exfalso; omega)⟩ hB
    refine hv4 (show 0 ≤ iv1 a0 7 ∧ iv1 a0 7 ≤ 100000 from W1.int t_a0 7) (show iv1 a0 7 = 0 from by rw [pq1]; exact up2_s) (show 0 ≤ iv1 a0 4 ∧ iv1 a0 4 ≤ 500 from W1.int t_a0 4) (show iv1 a0 4 = iv a0 4 from by rw [pq1]; exact up2_j (by decide)) (fun ri96 ie99 ri97 ie100 => ?_)
    refine c_lv (lv2 := [(3, .int (iI 0)), (4, .int (iI 0)), (5, .int (iI 0)), (2, .int (iI 1)), (0, .ref a0), (1, .ref a1)]) [2, 1, 0, 3, 4, 5] rfl ?_
    exact Lp2 503 0 0 0 _ (by omega) W1 F1  (by omega) (by omega) (by omega) (by show iv1 a0 7 ≤ 200 + 4 * 0; omega) (by show iv1 a0 4 = iv a0 4; omega) (SBI.init pq1 (by omega))
