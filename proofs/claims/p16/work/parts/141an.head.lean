set_option maxHeartbeats 4000000 in
set_option maxRecDepth 100000 in
theorem G_wclear {l : Launch} {G : GT} {mi : Nat} {sk : Nat → Nat} {L : List Nat} {cl ln : Nat → Nat} {iv : Nat → Nat → Int} {rv : Nat → Nat → Option Nat}  {a0 : Nat} (hW : WT (g0 G) sk L cl ln iv rv) (hS : SKL sk L cl) (t_a0 : ty L cl a0 15)  : Mc l G mi (Phi (g0 G) sk) PHM yX6_clear cX6_clear 1 none 0 [.ref a0] L cl ln iv rv 0 (fun v L2 cl2 ln2 iv2 rv2 => v = none ∧ L = L2 ∧ cl = cl2 ∧ ln = ln2 ∧ rv = rv2 ∧ fT [15] L cl iv rv iv2 rv2 ∧ WT (g0 G) sk L2 cl2 ln2 iv2 rv2 ∧ (iv2 a0 4 = 0)) := by
  refine Mc.mk (by decide) (Nat.le_of_ble_eq_true rfl) ?_
  intro p e s m args below meth c A C hM
  refine hv3 (Phi.le hW hS) (show XT L cl ln L cl ln from XT.refl) (show fT [15] L cl iv rv iv rv from fT.refl) (fun hph hX0 hF0 => ?_)
  refine c_aload_n (j := 0) (x := a0) C dX6_clear_0 rfl ?_
  refine c_iconst C dX6_clear_1 ?_
  refine c_put (z := 0) (k := 4) C ck_7 dX6_clear_2 w1_140 (by decide) rfl t_a0 rfl rfl (by decide) rfl (by rfl) (by rfl) (fun iv1 pq1 => ?_)
  refine hv2 (hW.puti pq1 t_a0 ⟨by decide, by decide⟩ rfl) (hF0.puti hX0 pq1 t_a0 rfl) (fun W1 F1 => ?_)
  refine c_aload_n (j := 0) (x := a0) C dX6_clear_5 rfl ?_
  refine c_iconst C dX6_clear_6 ?_
  refine c_put (z := 0) (k := 5) C ck_7 dX6_clear_7 w1_143 (by decide) rfl t_a0 rfl rfl (by decide) rfl (by decide) (by decide) (fun iv2 pq2 => ?_)
  refine hv4 (W1.puti pq2 t_a0 ⟨by decide, by decide⟩ rfl) (F1.puti hX0 pq2 t_a0 rfl) (show iv2 a0 4 = iv1 a0 4 from by rw [pq2]; exact up2_j (by decide)) (show iv1 a0 4 = 0 from by rw [pq1]; exact up2_s) (fun W2 F2 ie1 ie2 => ?_)
  have ri1 : 0 ≤ iv2 a0 4 ∧ iv2 a0 4 ≤ 500 := W2.int t_a0 4
  exact c_vret C dX6_clear_10 rfl (by decide) (rom0 hph hph (by decide)) ⟨rfl, rfl, rfl, rfl, rfl, F2, W2, (by omega)⟩
set_option maxHeartbeats 4000000 in
set_option maxRecDepth 100000 in
theorem G_put {l : Launch} {G : GT} {mi : Nat} {sk : Nat → Nat} {L : List Nat} {cl ln : Nat → Nat} {iv : Nat → Nat → Int} {rv : Nat → Nat → Option Nat}  {a0 : Nat} {x : Int} {y : Int} (hW : WT (g0 G) sk L cl ln iv rv) (hS : SKL sk L cl) (t_a0 : ty L cl a0 15) (h_x : -2147483648 ≤ x ∧ x ≤ 2147483647) (h_y : -2147483648 ≤ y ∧ y ≤ 2147483647)  : Mc l G mi (Phi (g0 G) sk) PHM yX6_put cX6_put 3 none 0 [.ref a0, .int (iI x), .int (iI y)] L cl ln iv rv 0 (fun v L2 cl2 ln2 iv2 rv2 => v = none ∧ L = L2 ∧ cl = cl2 ∧ ln = ln2 ∧ rv = rv2 ∧ fT [15, 50, 51, 52] L cl iv rv iv2 rv2 ∧ WT (g0 G) sk L2 cl2 ln2 iv2 rv2 ∧ ((iv a0 4 < 500 → iv2 a0 4 = iv a0 4 + 1) ∧ PTL iv rv iv2 a0 x)) := by
  refine Mc.mk (by decide) (Nat.le_of_ble_eq_true rfl) ?_
  intro p e s m args below meth c A C hM
  refine hv3 (Phi.le hW hS) (show XT L cl ln L cl ln from XT.refl) (show fT [15, 50, 51, 52] L cl iv rv iv rv from fT.refl) (fun hph hX0 hF0 => ?_)
  refine c_aload_n (j := 0) (x := a0) C dX6_put_0 rfl ?_
  have ri1 : 0 ≤ iv a0 4 ∧ iv a0 4 ≤ 500 := hW.int t_a0 4
  refine c_get (k := 4) C ck_7 dX6_put_1 w1_140 (by decide) t_a0 rfl rfl (by decide) rfl ?_
  refine c_sipush (z := 500) C dX6_put_4 (by decide) ?_
  refine c_icmp_lt (tgt := 11) C (r32_c (lo := 0) (hi := 500) ri1.1 ri1.2 (by decide) (by decide)) ⟨by decide, by decide⟩ dX6_put_7 (by decide) (fun c1 => ?_) (fun c1 => ?_)
  · refine c_aload_n (j := 0) (x := a0) C dX6_put_11 rfl ?_
    obtain ⟨rb1, rq1, trb1⟩ := hW.ref t_a0 0 rfl rfl rfl
    have lnrb1 : 500 ≤ ln rb1 ∧ ln rb1 ≤ 500 := hW.len trb1 rfl
    refine c_getr (k := 0) C ck_7 dX6_put_12 w1_136 (by decide) t_a0 rfl rfl (by decide) rfl rq1 ?_
    refine c_st (st2 := [.ref rb1]) rfl ?_
    refine c_aload_n (j := 0) (x := a0) C dX6_put_15 rfl ?_
    refine c_get (k := 4) C ck_7 dX6_put_16 w1_140 (by decide) t_a0 rfl rfl (by decide) rfl ?_
    refine c_iload_n (j := 1) C dX6_put_19 rfl ?_
    have ll1 : 500 ≤ ln rb1 ∧ ln rb1 ≤ 500 := hW.len trb1 rfl
    refine c_iast (x := x) C dX6_put_20 trb1 rfl (by omega) (by omega) (by omega) (fun iv1 pq1 => ?_)
    refine hv2 (hW.puti pq1 trb1 (show (-2147483648) ≤ x ∧ x ≤ 2147483647 by omega) rfl) (hF0.puti hX0 pq1 trb1 rfl) (fun W1 F1 => ?_)
    refine c_aload_n (j := 0) (x := a0) C dX6_put_21 rfl ?_
    obtain ⟨rb2, rq2, trb2⟩ := W1.ref t_a0 1 rfl rfl rfl
    have lnrb2 : 500 ≤ ln rb2 ∧ ln rb2 ≤ 500 := W1.len trb2 rfl
    refine c_getr (k := 1) C ck_7 dX6_put_22 w1_137 (by decide) t_a0 rfl rfl (by decide) rfl rq2 ?_
    refine c_st (st2 := [.ref rb2]) rfl ?_
    refine c_aload_n (j := 0) (x := a0) C dX6_put_25 rfl ?_
    refine hv2 (show 0 ≤ iv1 a0 4 ∧ iv1 a0 4 ≤ 500 from W1.int t_a0 4) (show iv1 a0 4 = iv a0 4 from by rw [pq1]; exact up2_k (ne_ty t_a0 trb1 (by decide))) (fun ri2 ie1 => ?_)
    refine c_get (k := 4) C ck_7 dX6_put_26 w1_140 (by decide) t_a0 rfl rfl (by decide) rfl ?_
    refine c_iload_n (j := 2) C dX6_put_29 rfl ?_
    have ll2 : 500 ≤ ln rb2 ∧ ln rb2 ≤ 500 := W1.len trb2 rfl
    refine c_iast (x := y) C dX6_put_30 trb2 rfl (by omega) (by omega) (by omega) (fun iv2 pq2 => ?_)
    refine hv2 (W1.puti pq2 trb2 (show (-2147483648) ≤ y ∧ y ≤ 2147483647 by omega) rfl) (F1.puti hX0 pq2 trb2 rfl) (fun W2 F2 => ?_)
    refine c_aload_n (j := 0) (x := a0) C dX6_put_31 rfl ?_
    obtain ⟨rb3, rq3, trb3⟩ := W2.ref t_a0 2 rfl rfl rfl
    have lnrb3 : 500 ≤ ln rb3 ∧ ln rb3 ≤ 500 := W2.len trb3 rfl
    refine c_getr (k := 2) C ck_7 dX6_put_32 w1_138 (by decide) t_a0 rfl rfl (by decide) rfl rq3 ?_
    refine c_st (st2 := [.ref rb3]) rfl ?_
    refine c_aload_n (j := 0) (x := a0) C dX6_put_35 rfl ?_
    refine hv2 (show 0 ≤ iv2 a0 4 ∧ iv2 a0 4 ≤ 500 from W2.int t_a0 4) (show iv2 a0 4 = iv1 a0 4 from by rw [pq2]; exact up2_k (ne_ty t_a0 trb2 (by decide))) (fun ri3 ie2 => ?_)
    refine c_get (k := 4) C ck_7 dX6_put_36 w1_140 (by decide) t_a0 rfl rfl (by decide) rfl ?_
    refine c_aload_n (j := 0) (x := a0) C dX6_put_39 rfl ?_
    refine hv3 (show 0 ≤ iv2 a0 5 ∧ iv2 a0 5 ≤ 1 from W2.int t_a0 5) (show iv2 a0 5 = iv1 a0 5 from by rw [pq2]; exact up2_k (ne_ty t_a0 trb2 (by decide))) (show iv1 a0 5 = iv a0 5 from by rw [pq1]; exact up2_k (ne_ty t_a0 trb1 (by decide))) (fun ri4 ie3 ie4 => ?_)
    refine c_get (k := 5) C ck_7 dX6_put_40 w1_143 (by decide) t_a0 rfl rfl (by decide) rfl ?_
    have ll3 : 500 ≤ ln rb3 ∧ ln rb3 ≤ 500 := W2.len trb3 rfl
    refine c_zast (x := iv2 a0 5) C dX6_put_43 trb3 rfl (by omega) (by omega) (by omega) (by omega) (fun iv3 pq3 => ?_)
    refine hv2 (W2.puti pq3 trb3 (show 0 ≤ (iv2 a0 5) ∧ (iv2 a0 5) ≤ 1 by omega) rfl) (F2.puti hX0 pq3 trb3 rfl) (fun W3 F3 => ?_)
    refine c_aload_n (j := 0) (x := a0) C dX6_put_44 rfl ?_
    refine c_iconst C dX6_put_45 ?_
    refine c_put (z := 0) (k := 5) C ck_7 dX6_put_46 w1_143 (by decide) rfl t_a0 rfl rfl (by decide) rfl (by decide) (by decide) (fun iv4 pq4 => ?_)
    refine hv2 (W3.puti pq4 t_a0 ⟨by decide, by decide⟩ rfl) (F3.puti hX0 pq4 t_a0 rfl) (fun W4 F4 => ?_)
    refine c_aload_n (j := 0) (x := a0) C dX6_put_49 rfl ?_
    refine c_dup C dX6_put_50 rfl ?_
    refine hv3 (show 0 ≤ iv4 a0 4 ∧ iv4 a0 4 ≤ 500 from W4.int t_a0 4) (show iv4 a0 4 = iv3 a0 4 from by rw [pq4]; exact up2_j (by decide)) (show iv3 a0 4 = iv2 a0 4 from by rw [pq3]; exact up2_k (ne_ty t_a0 trb3 (by decide))) (fun ri5 ie5 ie6 => ?_)
    refine c_get (k := 4) C ck_7 dX6_put_51 w1_140 (by decide) t_a0 rfl rfl (by decide) rfl ?_
    refine c_iconst C dX6_put_54 ?_
    refine c_iadd C dX6_put_55 ?_
    refine c_put (z := (iv4 a0 4) + 1) (k := 4) C ck_7 dX6_put_56 w1_140 (by decide) rfl t_a0 rfl rfl (by decide) rfl (by rfl) (by rfl) (fun iv5 pq5 => ?_)
    refine hv3 (W4.puti pq5 t_a0 (show 0 ≤ ((iv4 a0 4) + 1) ∧ ((iv4 a0 4) + 1) ≤ 500 by omega) rfl) (F4.puti hX0 pq5 t_a0 rfl) (show iv5 a0 4 = (iv4 a0 4) + 1 from by rw [pq5]; exact up2_s) (fun W5 F5 ie7 => ?_)
    have ri6 : 0 ≤ iv5 a0 4 ∧ iv5 a0 4 ≤ 500 := W5.int t_a0 4
    exact c_vret C dX6_put_59 rfl (by decide) (rom0 hph hph (by decide)) ⟨rfl, rfl, rfl, rfl, rfl, F5, W5, ⟨by omega, PTL.mk rq1 pq1 pq2 pq3 pq4 pq5 rfl (by omega) (by omega) (ne_ty trb1 trb2 (by decide)) (ne_ty trb1 trb3 (by decide)) (ne_ty trb1 t_a0 (by decide))⟩⟩
  · exact c_vret C dX6_put_10 rfl (by decide) (rom0 hph hph (by decide)) ⟨rfl, rfl, rfl, rfl, rfl, hF0, hW, ⟨by omega, PTL.full (by omega)⟩⟩
