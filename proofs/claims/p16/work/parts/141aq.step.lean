set_option maxHeartbeats 4000000 in
set_option maxRecDepth 100000 in
theorem G_putBreak {l : Launch} {G : GT} {mi : Nat} {sk : Nat → Nat} {L : List Nat} {cl ln : Nat → Nat} {iv : Nat → Nat → Int} {rv : Nat → Nat → Option Nat}  {a0 : Nat} (hW : WT (g0 G) sk L cl ln iv rv) (hS : SKL sk L cl) (t_a0 : ty L cl a0 15)  : Mc l G mi (Phi (g0 G) sk) PHM yX6_putBreak cX6_putBreak 1 none 0 [.ref a0] L cl ln iv rv 0 (fun v L2 cl2 ln2 iv2 rv2 => v = none ∧ L = L2 ∧ cl = cl2 ∧ ln = ln2 ∧ rv = rv2 ∧ fT [15] L cl iv rv iv2 rv2 ∧ WT (g0 G) sk L2 cl2 ln2 iv2 rv2 ∧ (iv2 a0 4 = iv a0 4 ∧ iv2 a0 5 = 1)) := by
  refine Mc.mk (by decide) (Nat.le_of_ble_eq_true rfl) ?_
  intro p e s m args below meth c A C hM
  refine hv3 (Phi.le hW hS) (show XT L cl ln L cl ln from XT.refl) (show fT [15] L cl iv rv iv rv from fT.refl) (fun hph hX0 hF0 => ?_)
  refine c_aload_n (j := 0) (x := a0) C dX6_putBreak_0 rfl ?_
  refine c_iconst C dX6_putBreak_1 ?_
  refine c_put (z := 1) (k := 5) C ck_7 dX6_putBreak_2 w1_143 (by decide) rfl t_a0 rfl rfl (by decide) rfl (by decide) (by decide) (fun iv1 pq1 => ?_)
  refine hv4 (hW.puti pq1 t_a0 ⟨by decide, by decide⟩ rfl) (hF0.puti hX0 pq1 t_a0 rfl) (show iv1 a0 4 = iv a0 4 from by rw [pq1]; exact up2_j (by decide)) (show iv1 a0 5 = 1 from by rw [pq1]; exact up2_s) (fun W1 F1 ie1 ie2 => ?_)
  refine hv2 (show 0 ≤ iv1 a0 4 ∧ iv1 a0 4 ≤ 500 from W1.int t_a0 4) (show 0 ≤ iv1 a0 5 ∧ iv1 a0 5 ≤ 1 from W1.int t_a0 5) (fun ri1 ri2 => ?_)
  exact c_vret C dX6_putBreak_5 rfl (by decide) (rom0 hph hph (by decide)) ⟨rfl, rfl, rfl, rfl, rfl, F1, W1, (by omega)⟩
set_option maxHeartbeats 4000000 in
set_option maxRecDepth 100000 in
theorem G_wclear2 {l : Launch} {G : GT} {mi : Nat} {sk : Nat → Nat} {L : List Nat} {cl ln : Nat → Nat} {iv : Nat → Nat → Int} {rv : Nat → Nat → Option Nat}  {a0 : Nat} (hW : WT (g0 G) sk L cl ln iv rv) (hS : SKL sk L cl) (t_a0 : ty L cl a0 15)  : Mc l G mi (Phi (g0 G) sk) PHM yX6_clear cX6_clear 1 none 0 [.ref a0] L cl ln iv rv 0 (fun v L2 cl2 ln2 iv2 rv2 => v = none ∧ L = L2 ∧ cl = cl2 ∧ ln = ln2 ∧ rv = rv2 ∧ fT [15] L cl iv rv iv2 rv2 ∧ WT (g0 G) sk L2 cl2 ln2 iv2 rv2 ∧ (iv2 a0 4 = 0 ∧ iv2 a0 5 = 0)) := by
  refine Mc.mk (by decide) (Nat.le_of_ble_eq_true rfl) ?_
  intro p e s m args below meth c A C hM
  refine hv3 (Phi.le hW hS) (show XT L cl ln L cl ln from XT.refl) (show fT [15] L cl iv rv iv rv from fT.refl) (fun hph hX0 hF0 => ?_)
  refine c_aload_n (j := 0) (x := a0) C dX6_clear_0 rfl ?_
  refine c_iconst C dX6_clear_1 ?_
  refine c_put (z := 0) (k := 4) C ck_7 dX6_clear_2 w1_140 (by decide) rfl t_a0 rfl rfl (by decide) rfl (by rfl) (by rfl) (fun iv1 pq1 => ?_)
  refine hv2 (hW.puti pq1 t_a0 ⟨by decide, by decide⟩ rfl) (hF0.puti hX0 pq1 t_a0 rfl) (fun W1 F1 => ?_)
  refine c_aload_n (j := 0) (x := a0) C dX6_clear_5 rfl ?_
  refine c_iconst C dX6_clear_6 ?_
  refine c_put (z := 0) (k := 5) C ck_7 dX6_clear_7 w1_143 (by decide) rfl t_a0 rfl rfl (by decide) rfl (by decide) (by decide) (fun iv2 pq2 => ?_)
  refine hv5 (W1.puti pq2 t_a0 ⟨by decide, by decide⟩ rfl) (F1.puti hX0 pq2 t_a0 rfl) (show iv2 a0 4 = iv1 a0 4 from by rw [pq2]; exact up2_j (by decide)) (show iv1 a0 4 = 0 from by rw [pq1]; exact up2_s) (show iv2 a0 5 = 0 from by rw [pq2]; exact up2_s) (fun W2 F2 ie1 ie2 ie3 => ?_)
  refine hv2 (show 0 ≤ iv2 a0 4 ∧ iv2 a0 4 ≤ 500 from W2.int t_a0 4) (show 0 ≤ iv2 a0 5 ∧ iv2 a0 5 ≤ 1 from W2.int t_a0 5) (fun ri1 ri2 => ?_)
  exact c_vret C dX6_clear_10 rfl (by decide) (rom0 hph hph (by decide)) ⟨rfl, rfl, rfl, rfl, rfl, F2, W2, (by omega)⟩
set_option maxHeartbeats 4000000 in
set_option maxRecDepth 100000 in
theorem G_put2 {l : Launch} {G : GT} {mi : Nat} {sk : Nat → Nat} {L : List Nat} {cl ln : Nat → Nat} {iv : Nat → Nat → Int} {rv : Nat → Nat → Option Nat}  {a0 : Nat} {x : Int} {y : Int} (hW : WT (g0 G) sk L cl ln iv rv) (hS : SKL sk L cl) (t_a0 : ty L cl a0 15) (h_x : -2147483648 ≤ x ∧ x ≤ 2147483647) (h_y : -2147483648 ≤ y ∧ y ≤ 2147483647)  : Mc l G mi (Phi (g0 G) sk) PHM yX6_put cX6_put 3 none 0 [.ref a0, .int (iI x), .int (iI y)] L cl ln iv rv 0 (fun v L2 cl2 ln2 iv2 rv2 => v = none ∧ L = L2 ∧ cl = cl2 ∧ ln = ln2 ∧ rv = rv2 ∧ fT [15, 50, 51, 52] L cl iv rv iv2 rv2 ∧ WT (g0 G) sk L2 cl2 ln2 iv2 rv2 ∧ ((iv2 a0 4 ≤ iv a0 4 + 1) ∧ PT2 iv rv iv2 a0 x y)) := by
  refine Mc.mk (by decide) (Nat.le_of_ble_eq_true rfl) ?_
  intro p e s m args below meth c A C hM
  refine hv3 (Phi.le hW hS) (show XT L cl ln L cl ln from XT.refl) (show fT [15, 50, 51, 52] L cl iv rv iv rv from fT.refl) (fun hph hX0 hF0 => ?_)
  refine c_aload_n (j := 0) (x := a0) C dX6_put_0 rfl ?_
  have ri1 : 0 ≤ iv a0 4 ∧ iv a0 4 ≤ 500 := hW.int t_a0 4
  refine c_get (k := 4) C ck_7 dX6_put_1 w1_140 (by decide) t_a0 rfl rfl (by decide) rfl ?_
  refine c_sipush (z := 500) C dX6_put_4 (by decide) ?_
  refine c_icmp_lt (tgt := 11) C (r32_c (lo := 0) (hi := 500) ri1.1 ri1.2 (by decide) (by decide)) ⟨by decide, by decide⟩ dX6_put_7 (by decide) (fun c1 => ?_) (fun c1 => ?_)
  · refine c_aload_n (j := 0) (x := a0) C dX6_put_11 rfl ?_
    obtain ⟨rb1, rq1, trb1⟩ := hW.ref t_a0 0 rfl rfl rfl
    have lnrb1 : 500 ≤ ln rb1 ∧ ln rb1 ≤ 500 := hW.len trb1 rfl
    refine c_getr (k := 0) C ck_7 dX6_put_12 w1_136 (by decide) t_a0 rfl rfl (by decide) rfl rq1 ?_
    refine c_st (st2 := [.ref rb1]) rfl ?_
    refine c_aload_n (j := 0) (x := a0) C dX6_put_15 rfl ?_
    refine c_get (k := 4) C ck_7 dX6_put_16 w1_140 (by decide) t_a0 rfl rfl (by decide) rfl ?_
    refine c_iload_n (j := 1) C dX6_put_19 rfl ?_
    have ll1 : 500 ≤ ln rb1 ∧ ln rb1 ≤ 500 := hW.len trb1 rfl
    refine c_iast (x := x) C dX6_put_20 trb1 rfl (by omega) (by omega) (by omega) (fun iv1 pq1 => ?_)
    refine hv2 (hW.puti pq1 trb1 (show (-2147483648) ≤ x ∧ x ≤ 2147483647 by omega) rfl) (hF0.puti hX0 pq1 trb1 rfl) (fun W1 F1 => ?_)
    refine c_aload_n (j := 0) (x := a0) C dX6_put_21 rfl ?_
    obtain ⟨rb2, rq2, trb2⟩ := W1.ref t_a0 1 rfl rfl rfl
    have lnrb2 : 500 ≤ ln rb2 ∧ ln rb2 ≤ 500 := W1.len trb2 rfl
    refine c_getr (k := 1) C ck_7 dX6_put_22 w1_137 (by decide) t_a0 rfl rfl (by decide) rfl rq2 ?_
    refine c_st (st2 := [.ref rb2]) rfl ?_
    refine c_aload_n (j := 0) (x := a0) C dX6_put_25 rfl ?_
    refine hv2 (show 0 ≤ iv1 a0 4 ∧ iv1 a0 4 ≤ 500 from W1.int t_a0 4) (show iv1 a0 4 = iv a0 4 from by rw [pq1]; exact up2_k (ne_ty t_a0 trb1 (by decide))) (fun ri2 ie1 => ?_)
    refine c_get (k := 4) C ck_7 dX6_put_26 w1_140 (by decide) t_a0 rfl rfl (by decide) rfl ?_
    refine c_iload_n (j := 2) C dX6_put_29 rfl ?_
    have ll2 : 500 ≤ ln rb2 ∧ ln rb2 ≤ 500 := W1.len trb2 rfl
    refine c_iast (x := y) C dX6_put_30 trb2 rfl (by omega) (by omega) (by omega) (fun iv2 pq2 => ?_)
    refine hv2 (W1.puti pq2 trb2 (show (-2147483648) ≤ y ∧ y ≤ 2147483647 by omega) rfl) (F1.puti hX0 pq2 trb2 rfl) (fun W2 F2 => ?_)
    refine c_aload_n (j := 0) (x := a0) C dX6_put_31 rfl ?_
    obtain ⟨rb3, rq3, trb3⟩ := W2.ref t_a0 2 rfl rfl rfl
    have lnrb3 : 500 ≤ ln rb3 ∧ ln rb3 ≤ 500 := W2.len trb3 rfl
    refine c_getr (k := 2) C ck_7 dX6_put_32 w1_138 (by decide) t_a0 rfl rfl (by decide) rfl rq3 ?_
    refine c_st (st2 := [.ref rb3]) rfl ?_
    refine c_aload_n (j := 0) (x := a0) C dX6_put_35 rfl ?_
    refine hv2 (show 0 ≤ iv2 a0 4 ∧ iv2 a0 4 ≤ 500 from W2.int t_a0 4) (show iv2 a0 4 = iv1 a0 4 from by rw [pq2]; exact up2_k (ne_ty t_a0 trb2 (by decide))) (fun ri3 ie2 => ?_)
    refine c_get (k := 4) C ck_7 dX6_put_36 w1_140 (by decide) t_a0 rfl rfl (by decide) rfl ?_
    refine c_aload_n (j := 0) (x := a0) C dX6_put_39 rfl ?_
    refine hv3 (show 0 ≤ iv2 a0 5 ∧ iv2 a0 5 ≤ 1 from W2.int t_a0 5) (show iv2 a0 5 = iv1 a0 5 from by rw [pq2]; exact up2_k (ne_ty t_a0 trb2 (by decide))) (show iv1 a0 5 = iv a0 5 from by rw [pq1]; exact up2_k (ne_ty t_a0 trb1 (by decide))) (fun ri4 ie3 ie4 => ?_)
    refine c_get (k := 5) C ck_7 dX6_put_40 w1_143 (by decide) t_a0 rfl rfl (by decide) rfl ?_
    have ll3 : 500 ≤ ln rb3 ∧ ln rb3 ≤ 500 := W2.len trb3 rfl
    refine c_zast (x := iv2 a0 5) C dX6_put_43 trb3 rfl (by omega) (by omega) (by omega) (by omega) (fun iv3 pq3 => ?_)
    refine hv2 (W2.puti pq3 trb3 (show 0 ≤ (iv2 a0 5) ∧ (iv2 a0 5) ≤ 1 by omega) rfl) (F2.puti hX0 pq3 trb3 rfl) (fun W3 F3 => ?_)
    refine c_aload_n (j := 0) (x := a0) C dX6_put_44 rfl ?_
    refine c_iconst C dX6_put_45 ?_
    refine c_put (z := 0) (k := 5) C ck_7 dX6_put_46 w1_143 (by decide) rfl t_a0 rfl rfl (by decide) rfl (by decide) (by decide) (fun iv4 pq4 => ?_)
    refine hv2 (W3.puti pq4 t_a0 ⟨by decide, by decide⟩ rfl) (F3.puti hX0 pq4 t_a0 rfl) (fun W4 F4 => ?_)
    refine c_aload_n (j := 0) (x := a0) C dX6_put_49 rfl ?_
    refine c_dup C dX6_put_50 rfl ?_
    refine hv3 (show 0 ≤ iv4 a0 4 ∧ iv4 a0 4 ≤ 500 from W4.int t_a0 4) (show iv4 a0 4 = iv3 a0 4 from by rw [pq4]; exact up2_j (by decide)) (show iv3 a0 4 = iv2 a0 4 from by rw [pq3]; exact up2_k (ne_ty t_a0 trb3 (by decide))) (fun ri5 ie5 ie6 => ?_)
    refine c_get (k := 4) C ck_7 dX6_put_51 w1_140 (by decide) t_a0 rfl rfl (by decide) rfl ?_
    refine c_iconst C dX6_put_54 ?_
    refine c_iadd C dX6_put_55 ?_
    refine c_put (z := (iv4 a0 4) + 1) (k := 4) C ck_7 dX6_put_56 w1_140 (by decide) rfl t_a0 rfl rfl (by decide) rfl (by rfl) (by rfl) (fun iv5 pq5 => ?_)
    refine hv5 (W4.puti pq5 t_a0 (show 0 ≤ ((iv4 a0 4) + 1) ∧ ((iv4 a0 4) + 1) ≤ 500 by omega) rfl) (F4.puti hX0 pq5 t_a0 rfl) (show iv5 a0 4 = (iv4 a0 4) + 1 from by rw [pq5]; exact up2_s) (show iv5 a0 5 = iv4 a0 5 from by rw [pq5]; exact up2_j (by decide)) (show iv4 a0 5 = 0 from by rw [pq4]; exact up2_s) (fun W5 F5 ie7 ie8 ie9 => ?_)
    refine hv2 (show 0 ≤ iv5 a0 4 ∧ iv5 a0 4 ≤ 500 from W5.int t_a0 4) (show 0 ≤ iv5 a0 5 ∧ iv5 a0 5 ≤ 1 from W5.int t_a0 5) (fun ri6 ri7 => ?_)
    exact c_vret C dX6_put_59 rfl (by decide) (rom0 hph hph (by decide)) ⟨rfl, rfl, rfl, rfl, rfl, F5, W5, ⟨by omega, PT2.mk rq1 rq2 rq3 pq1 pq2 pq3 pq4 pq5 (by omega) (by omega) (by omega) (by omega) (by omega) (by omega) (ne_ty trb1 trb2 (by decide)) (ne_ty trb1 trb3 (by decide)) (ne_ty trb1 t_a0 (by decide)) (ne_ty trb2 trb3 (by decide)) (ne_ty trb2 t_a0 (by decide)) (ne_ty trb3 t_a0 (by decide))⟩⟩
  · have ri8 : 0 ≤ iv a0 5 ∧ iv a0 5 ≤ 1 := hW.int t_a0 5
    exact c_vret C dX6_put_10 rfl (by decide) (rom0 hph hph (by decide)) ⟨rfl, rfl, rfl, rfl, rfl, hF0, hW, ⟨by omega, PT2.full (by omega)⟩⟩
set_option maxHeartbeats 4000000 in
set_option maxRecDepth 100000 in
theorem G_enterLine {l : Launch} {G : GT} {mi : Nat} {sk : Nat → Nat} {L : List Nat} {cl ln : Nat → Nat} {iv : Nat → Nat → Int} {rv : Nat → Nat → Option Nat}  {a0 : Nat} {a1 : Nat} (hW : WT (g0 G) sk L cl ln iv rv) (hS : SKL sk L cl) (t_a0 : ty L cl a0 14) (t_a1 : ty L cl a1 3) (hs : 0 ≤ iv a0 0 ∧ iv a0 0 ≤ 501 ∧ (iv a0 1 = 0 ∨ iv a0 0 ≤ 500)) : Mc l G mi (Phi (g0 G) sk) PHM yX8_enterLine cX8_enterLine 2 (some .int) 1 [.ref a0, .ref a1] L cl ln iv rv 0 (fun v L2 cl2 ln2 iv2 rv2 => ∃ f : Int, v = some (.int (iI f)) ∧ L = L2 ∧ cl = cl2 ∧ ln = ln2 ∧ rv = rv2 ∧ fT [14] L cl iv rv iv2 rv2 ∧ WT (g0 G) sk L2 cl2 ln2 iv2 rv2 ∧ (-2147483648 ≤ f ∧ f ≤ 2147483647) ∧ (((f = 0 ∨ f = 1) ∧ 0 ≤ iv2 a0 0 ∧ iv2 a0 0 ≤ 501 ∧ (iv2 a0 1 = 0 ∨ iv2 a0 0 ≤ 500) ∧ (f = 0 ∨ (iv2 a0 1 = 1 ∧ iv a0 0 ≤ iv2 a0 0))) ∧ ∀ tt, CT iv rv a1 tt → (iv a1 2 ≤ iv a0 0 ∧ f = 0 ∧ iv2 a0 0 = iv a0 0 ∧ iv2 a0 1 = iv a0 1) ∨ (iv a0 0 < iv a1 2 ∧ f = 1 ∧ iv2 a0 1 = 1 ∧ ((tt (iv a0 0).toNat = 94 ∧ iv2 a0 0 = iv a0 0 + 1 ∧ iv2 a0 2 = 1) ∨ (tt (iv a0 0).toNat ≠ 94 ∧ iv2 a0 0 = iv a0 0 ∧ iv2 a0 2 = 0))))) := by
  refine Mc.mk (by decide) (Nat.le_of_ble_eq_true rfl) ?_
  intro p e s m args below meth c A C hM
  refine hv3 (Phi.le hW hS) (show XT L cl ln L cl ln from XT.refl) (show fT [14] L cl iv rv iv rv from fT.refl) (fun hph hX0 hF0 => ?_)
  refine c_aload_n (j := 0) (x := a0) C dX8_enterLine_0 rfl ?_
  have ri1 : (-2147483648) ≤ iv a0 0 ∧ iv a0 0 ≤ 2147483647 := hW.int t_a0 0
  refine c_get (k := 0) C ck_9 dX8_enterLine_1 w1_103 (by decide) t_a0 rfl rfl (by decide) rfl ?_
  refine c_aload_n (j := 1) (x := a1) C dX8_enterLine_4 rfl ?_
  have ri2 : 0 ≤ iv a1 2 ∧ iv a1 2 ≤ 500 := hW.int t_a1 2
  refine c_get (k := 2) C ck_2 dX8_enterLine_5 w1_45 (by decide) t_a1 rfl rfl (by decide) rfl ?_
  refine c_icmp_lt (tgt := 13) C (r32_c (lo := (-2147483648)) (hi := 2147483647) ri1.1 ri1.2 (by decide) (by decide)) (r32_c (lo := 0) (hi := 500) ri2.1 ri2.2 (by decide) (by decide)) dX8_enterLine_8 (by decide) (fun c1 => ?_) (fun c1 => ?_)
  · refine c_aload_n (j := 0) (x := a0) C dX8_enterLine_13 rfl ?_
    refine c_iconst C dX8_enterLine_14 ?_
    refine c_put (z := 1) (k := 1) C ck_9 dX8_enterLine_15 w1_104 (by decide) rfl t_a0 rfl rfl (by decide) rfl (by decide) (by decide) (fun iv1 pq1 => ?_)
    refine hv2 (hW.puti pq1 t_a0 ⟨by decide, by decide⟩ rfl) (hF0.puti hX0 pq1 t_a0 rfl) (fun W1 F1 => ?_)
    refine c_aload_n (j := 0) (x := a0) C dX8_enterLine_18 rfl ?_
    refine c_aload_n (j := 1) (x := a1) C dX8_enterLine_19 rfl ?_
    refine c_aload_n (j := 0) (x := a0) C dX8_enterLine_20 rfl ?_
    refine hv2 (show (-2147483648) ≤ iv1 a0 0 ∧ iv1 a0 0 ≤ 2147483647 from W1.int t_a0 0) (show iv1 a0 0 = iv a0 0 from by rw [pq1]; exact up2_j (by decide)) (fun ri3 ie1 => ?_)
    refine c_get (k := 0) C ck_9 dX8_enterLine_21 w1_103 (by decide) t_a0 rfl rfl (by decide) rfl ?_
    refine hv2 (show 0 ≤ iv1 a1 2 ∧ iv1 a1 2 ≤ 500 from W1.int t_a1 2) (show iv1 a1 2 = iv a1 2 from by rw [pq1]; exact up2_k (ne_ty t_a1 t_a0 (by decide))) (fun ri4 ie2 => ?_)
    refine d_callV (As := [.int (iI (iv1 a0 0))]) (rest := [.ref a0]) C hM (C_at_3 (a0 := a1) (i := iv1 a0 0) W1 hS t_a1 (by omega) ) dX8_enterLine_24 kV_X8_53 rfl t_a1 rfl rfl (by decide) ck_2 rfl (Nat.le_of_ble_eq_true rfl) ⟨(Nat.le_of_ble_eq_true rfl), (Nat.le_of_ble_eq_true rfl)⟩ hph hph (show 0 + 0 = 0 from rfl) (by decide) (fun rh1 Lh1 clh1 lnh1 ivh1 rvh1 h1 => ?_)
    obtain ⟨f1, rfl, rfl, rfl, rfl, rfl, rfl, rgf1, exf1⟩ := h1
    refine c_st (st2 := [.int (iI f1), .ref a0]) rfl ?_
    have gf1 : ((0 ≤ (iv1 a0 0) ∧ (iv1 a0 0) < iv1 a1 2) ∨ f1 = 0) ∧ ∀ ss, CT iv1 rv a1 ss → 0 ≤ (iv1 a0 0) → (iv1 a0 0) < iv1 a1 2 → f1 = ss (iv1 a0 0).toNat := exf1
    refine c_bipush (z := 94) C dX8_enterLine_27 (by decide) ?_
    refine c_icmp_ne (tgt := 36) C ⟨by omega, by omega⟩ ⟨by decide, by decide⟩ dX8_enterLine_29 (by decide) (fun c2 => ?_) (fun c2 => ?_)
    · refine c_iconst C dX8_enterLine_36 ?_
      refine c_put (z := 0) (k := 2) C ck_9 dX8_enterLine_37 w1_105 (by decide) rfl t_a0 rfl rfl (by decide) rfl (by decide) (by decide) (fun iv2 pq2 => ?_)
      refine hv2 (W1.puti pq2 t_a0 ⟨by decide, by decide⟩ rfl) (F1.puti hX0 pq2 t_a0 rfl) (fun W3 F2 => ?_)
      refine c_aload_n (j := 0) (x := a0) C dX8_enterLine_40 rfl ?_
      refine c_dup C dX8_enterLine_41 rfl ?_
      refine hv2 (show (-2147483648) ≤ iv2 a0 0 ∧ iv2 a0 0 ≤ 2147483647 from W3.int t_a0 0) (show iv2 a0 0 = iv1 a0 0 from by rw [pq2]; exact up2_j (by decide)) (fun ri5 ie3 => ?_)
      refine c_get (k := 0) C ck_9 dX8_enterLine_42 w1_103 (by decide) t_a0 rfl rfl (by decide) rfl ?_
      refine c_aload_n (j := 0) (x := a0) C dX8_enterLine_45 rfl ?_
      refine hv2 (show 0 ≤ iv2 a0 2 ∧ iv2 a0 2 ≤ 1 from W3.int t_a0 2) (show iv2 a0 2 = 0 from by rw [pq2]; exact up2_s) (fun ri6 ie4 => ?_)
      refine c_get (k := 2) C ck_9 dX8_enterLine_46 w1_105 (by decide) t_a0 rfl rfl (by decide) rfl ?_
      refine c_if_eq (tgt := 56) C (r32_c (lo := 0) (hi := 1) ri6.1 ri6.2 (by decide) (by decide)) dX8_enterLine_49 (by decide) (fun c3 => ?_) (fun c3 => ?_)
      · refine c_iconst C dX8_enterLine_56 ?_
        refine c_iadd C dX8_enterLine_57 ?_
        refine c_put (z := (iv2 a0 0) + 0) (k := 0) C ck_9 dX8_enterLine_58 w1_103 (by decide) rfl t_a0 rfl rfl (by decide) rfl (by rfl) (by rfl) (fun iv3 pq3 => ?_)
        refine hv2 (W3.puti pq3 t_a0 (show (-2147483648) ≤ ((iv2 a0 0) + 0) ∧ ((iv2 a0 0) + 0) ≤ 2147483647 by omega) rfl) (F2.puti hX0 pq3 t_a0 rfl) (fun W4 F3 => ?_)
        refine c_iconst C dX8_enterLine_61 ?_
        refine hv11 (show (-2147483648) ≤ iv3 a0 0 ∧ iv3 a0 0 ≤ 2147483647 from W4.int t_a0 0) (show iv3 a0 0 = (iv2 a0 0) + 0 from by rw [pq3]; exact up2_s) (show 0 ≤ iv3 a0 1 ∧ iv3 a0 1 ≤ 1 from W4.int t_a0 1) (show iv3 a0 1 = iv2 a0 1 from by rw [pq3]; exact up2_j (by decide)) (show iv2 a0 1 = iv1 a0 1 from by rw [pq2]; exact up2_j (by decide)) (show iv1 a0 1 = 1 from by rw [pq1]; exact up2_s) (show 0 ≤ iv3 a0 2 ∧ iv3 a0 2 ≤ 1 from W4.int t_a0 2) (show iv3 a0 2 = iv2 a0 2 from by rw [pq3]; exact up2_j (by decide)) (show 0 ≤ iv3 a1 2 ∧ iv3 a1 2 ≤ 500 from W4.int t_a1 2) (show iv3 a1 2 = iv2 a1 2 from by rw [pq3]; exact up2_k (ne_ty t_a1 t_a0 (by decide))) (show iv2 a1 2 = iv1 a1 2 from by rw [pq2]; exact up2_k (ne_ty t_a1 t_a0 (by decide))) (fun ri7 ie5 ri8 ie6 ie7 ie8 ri9 ie9 ri10 ie10 ie11 => ?_)
        exact c_iret C dX8_enterLine_62 rfl (by decide) (rom0 hph hph (by decide)) ⟨1, rfl, rfl, rfl, rfl, rfl, F3, W4, ⟨by decide, by decide⟩, ⟨by omega, fun tt ht => Or.inr ⟨by omega, by omega, by omega, by
            have e := gf1.2 tt (CT.frn ht W1 t_a1 F1 rfl rfl rfl rfl rfl) (by omega) (by omega)
            rw [show iv1 a0 0 = iv a0 0 by omega] at e
            rw [← e]
            omega⟩⟩⟩
      · refine c_iconst C dX8_enterLine_52 ?_
        refine c_goto (tgt := 57) C dX8_enterLine_53 (by decide) ?_
        refine c_iadd C dX8_enterLine_57 ?_
        refine c_put (z := (iv2 a0 0) + 1) (k := 0) C ck_9 dX8_enterLine_58 w1_103 (by decide) rfl t_a0 rfl rfl (by decide) rfl (by rfl) (by rfl) (fun iv4 pq4 => ?_)
        refine hv2 (W3.puti pq4 t_a0 (show (-2147483648) ≤ ((iv2 a0 0) + 1) ∧ ((iv2 a0 0) + 1) ≤ 2147483647 by omega) rfl) (F2.puti hX0 pq4 t_a0 rfl) (fun W5 F4 => ?_)
        refine c_iconst C dX8_enterLine_61 ?_
        refine hv11 (show (-2147483648) ≤ iv4 a0 0 ∧ iv4 a0 0 ≤ 2147483647 from W5.int t_a0 0) (show iv4 a0 0 = (iv2 a0 0) + 1 from by rw [pq4]; exact up2_s) (show 0 ≤ iv4 a0 1 ∧ iv4 a0 1 ≤ 1 from W5.int t_a0 1) (show iv4 a0 1 = iv2 a0 1 from by rw [pq4]; exact up2_j (by decide)) (show iv2 a0 1 = iv1 a0 1 from by rw [pq2]; exact up2_j (by decide)) (show iv1 a0 1 = 1 from by rw [pq1]; exact up2_s) (show 0 ≤ iv4 a0 2 ∧ iv4 a0 2 ≤ 1 from W5.int t_a0 2) (show iv4 a0 2 = iv2 a0 2 from by rw [pq4]; exact up2_j (by decide)) (show 0 ≤ iv4 a1 2 ∧ iv4 a1 2 ≤ 500 from W5.int t_a1 2) (show iv4 a1 2 = iv2 a1 2 from by rw [pq4]; exact up2_k (ne_ty t_a1 t_a0 (by decide))) (show iv2 a1 2 = iv1 a1 2 from by rw [pq2]; exact up2_k (ne_ty t_a1 t_a0 (by decide))) (fun ri11 ie12 ri12 ie13 ie14 ie15 ri13 ie16 ri14 ie17 ie18 => ?_)
        exact c_iret C dX8_enterLine_62 rfl (by decide) (rom0 hph hph (by decide)) ⟨1, rfl, rfl, rfl, rfl, rfl, F4, W5, ⟨by decide, by decide⟩, ⟨by omega, fun tt ht => Or.inr ⟨by omega, by omega, by omega, by
            have e := gf1.2 tt (CT.frn ht W1 t_a1 F1 rfl rfl rfl rfl rfl) (by omega) (by omega)
            rw [show iv1 a0 0 = iv a0 0 by omega] at e
            rw [← e]
            omega⟩⟩⟩
    · refine c_iconst C dX8_enterLine_32 ?_
      refine c_goto (tgt := 37) C dX8_enterLine_33 (by decide) ?_
      refine c_put (z := 1) (k := 2) C ck_9 dX8_enterLine_37 w1_105 (by decide) rfl t_a0 rfl rfl (by decide) rfl (by decide) (by decide) (fun iv5 pq5 => ?_)
      refine hv2 (W1.puti pq5 t_a0 ⟨by decide, by decide⟩ rfl) (F1.puti hX0 pq5 t_a0 rfl) (fun W6 F5 => ?_)
      refine c_aload_n (j := 0) (x := a0) C dX8_enterLine_40 rfl ?_
      refine c_dup C dX8_enterLine_41 rfl ?_
      refine hv2 (show (-2147483648) ≤ iv5 a0 0 ∧ iv5 a0 0 ≤ 2147483647 from W6.int t_a0 0) (show iv5 a0 0 = iv1 a0 0 from by rw [pq5]; exact up2_j (by decide)) (fun ri15 ie19 => ?_)
      refine c_get (k := 0) C ck_9 dX8_enterLine_42 w1_103 (by decide) t_a0 rfl rfl (by decide) rfl ?_
      refine c_aload_n (j := 0) (x := a0) C dX8_enterLine_45 rfl ?_
      refine hv2 (show 0 ≤ iv5 a0 2 ∧ iv5 a0 2 ≤ 1 from W6.int t_a0 2) (show iv5 a0 2 = 1 from by rw [pq5]; exact up2_s) (fun ri16 ie20 => ?_)
      refine c_get (k := 2) C ck_9 dX8_enterLine_46 w1_105 (by decide) t_a0 rfl rfl (by decide) rfl ?_
      refine c_if_eq (tgt := 56) C (r32_c (lo := 0) (hi := 1) ri16.1 ri16.2 (by decide) (by decide)) dX8_enterLine_49 (by decide) (fun c4 => ?_) (fun c4 => ?_)
      · refine c_iconst C dX8_enterLine_56 ?_
        refine c_iadd C dX8_enterLine_57 ?_
        refine c_put (z := (iv5 a0 0) + 0) (k := 0) C ck_9 dX8_enterLine_58 w1_103 (by decide) rfl t_a0 rfl rfl (by decide) rfl (by rfl) (by rfl) (fun iv6 pq6 => ?_)
        refine hv2 (W6.puti pq6 t_a0 (show (-2147483648) ≤ ((iv5 a0 0) + 0) ∧ ((iv5 a0 0) + 0) ≤ 2147483647 by omega) rfl) (F5.puti hX0 pq6 t_a0 rfl) (fun W7 F6 => ?_)
        refine c_iconst C dX8_enterLine_61 ?_
        refine hv11 (show (-2147483648) ≤ iv6 a0 0 ∧ iv6 a0 0 ≤ 2147483647 from W7.int t_a0 0) (show iv6 a0 0 = (iv5 a0 0) + 0 from by rw [pq6]; exact up2_s) (show 0 ≤ iv6 a0 1 ∧ iv6 a0 1 ≤ 1 from W7.int t_a0 1) (show iv6 a0 1 = iv5 a0 1 from by rw [pq6]; exact up2_j (by decide)) (show iv5 a0 1 = iv1 a0 1 from by rw [pq5]; exact up2_j (by decide)) (show iv1 a0 1 = 1 from by rw [pq1]; exact up2_s) (show 0 ≤ iv6 a0 2 ∧ iv6 a0 2 ≤ 1 from W7.int t_a0 2) (show iv6 a0 2 = iv5 a0 2 from by rw [pq6]; exact up2_j (by decide)) (show 0 ≤ iv6 a1 2 ∧ iv6 a1 2 ≤ 500 from W7.int t_a1 2) (show iv6 a1 2 = iv5 a1 2 from by rw [pq6]; exact up2_k (ne_ty t_a1 t_a0 (by decide))) (show iv5 a1 2 = iv1 a1 2 from by rw [pq5]; exact up2_k (ne_ty t_a1 t_a0 (by decide))) (fun ri17 ie21 ri18 ie22 ie23 ie24 ri19 ie25 ri20 ie26 ie27 => ?_)
        exact c_iret C dX8_enterLine_62 rfl (by decide) (rom0 hph hph (by decide)) ⟨1, rfl, rfl, rfl, rfl, rfl, F6, W7, ⟨by decide, by decide⟩, ⟨by omega, fun tt ht => Or.inr ⟨by omega, by omega, by omega, by
            have e := gf1.2 tt (CT.frn ht W1 t_a1 F1 rfl rfl rfl rfl rfl) (by omega) (by omega)
            rw [show iv1 a0 0 = iv a0 0 by omega] at e
            rw [← e]
            omega⟩⟩⟩
      · refine c_iconst C dX8_enterLine_52 ?_
        refine c_goto (tgt := 57) C dX8_enterLine_53 (by decide) ?_
        refine c_iadd C dX8_enterLine_57 ?_
        refine c_put (z := (iv5 a0 0) + 1) (k := 0) C ck_9 dX8_enterLine_58 w1_103 (by decide) rfl t_a0 rfl rfl (by decide) rfl (by rfl) (by rfl) (fun iv7 pq7 => ?_)
        refine hv2 (W6.puti pq7 t_a0 (show (-2147483648) ≤ ((iv5 a0 0) + 1) ∧ ((iv5 a0 0) + 1) ≤ 2147483647 by omega) rfl) (F5.puti hX0 pq7 t_a0 rfl) (fun W8 F7 => ?_)
        refine c_iconst C dX8_enterLine_61 ?_
        refine hv11 (show (-2147483648) ≤ iv7 a0 0 ∧ iv7 a0 0 ≤ 2147483647 from W8.int t_a0 0) (show iv7 a0 0 = (iv5 a0 0) + 1 from by rw [pq7]; exact up2_s) (show 0 ≤ iv7 a0 1 ∧ iv7 a0 1 ≤ 1 from W8.int t_a0 1) (show iv7 a0 1 = iv5 a0 1 from by rw [pq7]; exact up2_j (by decide)) (show iv5 a0 1 = iv1 a0 1 from by rw [pq5]; exact up2_j (by decide)) (show iv1 a0 1 = 1 from by rw [pq1]; exact up2_s) (show 0 ≤ iv7 a0 2 ∧ iv7 a0 2 ≤ 1 from W8.int t_a0 2) (show iv7 a0 2 = iv5 a0 2 from by rw [pq7]; exact up2_j (by decide)) (show 0 ≤ iv7 a1 2 ∧ iv7 a1 2 ≤ 500 from W8.int t_a1 2) (show iv7 a1 2 = iv5 a1 2 from by rw [pq7]; exact up2_k (ne_ty t_a1 t_a0 (by decide))) (show iv5 a1 2 = iv1 a1 2 from by rw [pq5]; exact up2_k (ne_ty t_a1 t_a0 (by decide))) (fun ri21 ie28 ri22 ie29 ie30 ie31 ri23 ie32 ri24 ie33 ie34 => ?_)
        exact c_iret C dX8_enterLine_62 rfl (by decide) (rom0 hph hph (by decide)) ⟨1, rfl, rfl, rfl, rfl, rfl, F7, W8, ⟨by decide, by decide⟩, ⟨by omega, fun tt ht => Or.inr ⟨by omega, by omega, by omega, by
            have e := gf1.2 tt (CT.frn ht W1 t_a1 F1 rfl rfl rfl rfl rfl) (by omega) (by omega)
            rw [show iv1 a0 0 = iv a0 0 by omega] at e
            rw [← e]
            omega⟩⟩⟩
  · refine c_iconst C dX8_enterLine_11 ?_
    refine hv2 (show 0 ≤ iv a0 1 ∧ iv a0 1 ≤ 1 from hW.int t_a0 1) (show 0 ≤ iv a0 2 ∧ iv a0 2 ≤ 1 from hW.int t_a0 2) (fun ri25 ri26 => ?_)
    exact c_iret C dX8_enterLine_12 rfl (by decide) (rom0 hph hph (by decide)) ⟨0, rfl, rfl, rfl, rfl, rfl, hF0, hW, ⟨by decide, by decide⟩, ⟨by omega, fun tt ht => Or.inl ⟨by omega, by omega, by omega, by omega⟩⟩⟩
set_option maxHeartbeats 4000000 in
set_option maxRecDepth 100000 in
theorem G_step {l : Launch} {G : GT} {mi : Nat} {sk : Nat → Nat} {L : List Nat} {cl ln : Nat → Nat} {iv : Nat → Nat → Int} {rv : Nat → Nat → Option Nat}  {a0 : Nat} {a1 : Nat} {a2 : Nat} (hW : WT (g0 G) sk L cl ln iv rv) (hS : SKL sk L cl) (t_a0 : ty L cl a0 14) (t_a1 : ty L cl a1 3) (t_a2 : ty L cl a2 15) (hs : 0 ≤ iv a0 0 ∧ iv a0 0 ≤ 501 ∧ (iv a0 1 = 0 ∨ iv a0 0 ≤ 500)) : Mc l G mi (Phi (g0 G) sk) PHM yX8_step cX8_step 4 (some .int) 2 [.ref a0, .ref a1, .ref a2] L cl ln iv rv 0 (fun v L2 cl2 ln2 iv2 rv2 => ∃ f : Int, v = some (.int (iI f)) ∧ L = L2 ∧ cl = cl2 ∧ ln = ln2 ∧ rv = rv2 ∧ fT [14, 15, 50, 51, 52] L cl iv rv iv2 rv2 ∧ WT (g0 G) sk L2 cl2 ln2 iv2 rv2 ∧ (-2147483648 ≤ f ∧ f ≤ 2147483647) ∧ (((0 ≤ f ∧ f ≤ 3) ∧ 0 ≤ iv2 a0 0 ∧ iv2 a0 0 ≤ 501 ∧ (iv2 a0 1 = 0 ∨ iv2 a0 0 ≤ 500) ∧ (f = 0 ∨ 2 * iv a0 0 + iv a0 1 < 2 * iv2 a0 0 + iv2 a0 1)) ∧ STP iv rv iv2 a1 a0 a2 f)) := by
  refine Mc.mk (by decide) (Nat.le_of_ble_eq_true rfl) ?_
  intro p e s m args below meth c A C hM
  refine hv9 (Phi.le hW hS) (show XT L cl ln L cl ln from XT.refl) (show fT [14, 15, 50, 51, 52] L cl iv rv iv rv from fT.refl) (show (-2147483648) ≤ iv a0 0 ∧ iv a0 0 ≤ 2147483647 from hW.int t_a0 0) (show 0 ≤ iv a0 1 ∧ iv a0 1 ≤ 1 from hW.int t_a0 1) (show 0 ≤ iv a0 2 ∧ iv a0 2 ≤ 1 from hW.int t_a0 2) (show 0 ≤ iv a2 4 ∧ iv a2 4 ≤ 500 from hW.int t_a2 4) (show 0 ≤ iv a2 5 ∧ iv a2 5 ≤ 1 from hW.int t_a2 5) (show 0 ≤ iv a1 2 ∧ iv a1 2 ≤ 500 from hW.int t_a1 2) (fun hph hX0 hF0 ri1 ri2 ri3 ri4 ri5 ri6 => ?_)
  refine c_aload_n (j := 0) (x := a0) C dX8_step_0 rfl ?_
  refine c_get (k := 1) C ck_9 dX8_step_1 w1_104 (by decide) t_a0 rfl rfl (by decide) rfl ?_
  refine c_if_ne (tgt := 13) C (r32_c (lo := 0) (hi := 1) ri2.1 ri2.2 (by decide) (by decide)) dX8_step_4 (by decide) (fun c1 => ?_) (fun c1 => ?_)
  · refine c_aload_n (j := 2) (x := a2) C dX8_step_13 rfl ?_
    refine d_callV (As := []) (rest := []) C hM (G_wclear2 (a0 := a2) hW hS t_a2  ) dX8_step_14 kV_X8_43 rfl t_a2 rfl rfl (by decide) ck_7 rfl (Nat.le_of_ble_eq_true rfl) ⟨(Nat.le_of_ble_eq_true rfl), (Nat.le_of_ble_eq_true rfl)⟩ hph hph (show 0 + 0 = 0 from rfl) (by decide) (fun rh1 Lh1 clh1 lnh1 ivh1 rvh1 h1 => ?_)
    obtain ⟨rfl, rfl, rfl, rfl, rfl, fl1, W1, exf1⟩ := h1
    have F1 := hF0.call hX0 fl1 rfl
    refine c_st (st2 := []) rfl ?_
    refine hv3 (show 0 ≤ ivh1 a2 4 ∧ ivh1 a2 4 ≤ 500 from W1.int t_a2 4) (show 0 ≤ ivh1 a2 5 ∧ ivh1 a2 5 ≤ 1 from W1.int t_a2 5) (show ivh1 a2 4 = 0 ∧ ivh1 a2 5 = 0 from exf1) (fun ri7 ri8 gf1 => ?_)
    have Lp1 : ∀ (nn : Nat) (ivb1 : Nat → Nat → Int) , 501 - ivb1 a0 0 < (nn : Int) → WT (g0 G) sk L cl ln ivb1 rv → fT [14, 15, 50, 51, 52] L cl iv rv ivb1 rv → (0 ≤ ivb1 a0 0 ∧ ivb1 a0 0 ≤ 500) → (ivb1 a0 1 = iv a0 1) → (ivb1 a2 4 ≤ ivb1 a0 0 - iv a0 0) → (ivb1 a0 2 = iv a0 2) → (PTK iv rv ivb1 a1 a0 a2) → cw p l e 2 ((PHM) + 0 - ((Phi (g0 G) sk) ln rv)) s m args below meth c G A 4 (MQ below (Qu G A (Qp G (Phi (g0 G) sk) ((Phi (g0 G) sk) ln rv) 0 (fun v L2 cl2 ln2 iv2 rv2 => ∃ f : Int, v = some (.int (iI f)) ∧ L = L2 ∧ cl = cl2 ∧ ln = ln2 ∧ rv = rv2 ∧ fT [14, 15, 50, 51, 52] L cl iv rv iv2 rv2 ∧ WT (g0 G) sk L2 cl2 ln2 iv2 rv2 ∧ (-2147483648 ≤ f ∧ f ≤ 2147483647) ∧ (((0 ≤ f ∧ f ≤ 3) ∧ 0 ≤ iv2 a0 0 ∧ iv2 a0 0 ≤ 501 ∧ (iv2 a0 1 = 0 ∨ iv2 a0 0 ≤ 500) ∧ (f = 0 ∨ 2 * iv a0 0 + iv a0 1 < 2 * iv2 a0 0 + iv2 a0 1)) ∧ STP iv rv iv2 a1 a0 a2 f)))) args s (((PHM) + 0 - ((Phi (g0 G) sk) ln rv)) / 16) ((PHM) + 0 - ((Phi (g0 G) sk) ln rv)) A) (Phi (g0 G) sk) ((Phi (g0 G) sk) ln rv) L cl ln ivb1 rv 0 17 [(0, .ref a0), (1, .ref a1), (2, .ref a2)] [] := by
      intro nn
      induction nn with
      | zero =>
        intro   ivb1 hm Wb1 Fb1  hat hin hst hc2 hK
        exact absurd hm (by omega)
      | succ nn ih1 =>
        intro   ivb1 hm Wb1 Fb1  hat hin hst hc2 hK
        refine c_aload_n (j := 0) (x := a0) C dX8_step_17 rfl ?_
        have ri9 : (-2147483648) ≤ ivb1 a0 0 ∧ ivb1 a0 0 ≤ 2147483647 := Wb1.int t_a0 0
        refine c_get (k := 0) C ck_9 dX8_step_18 w1_103 (by decide) t_a0 rfl rfl (by decide) rfl ?_
        refine c_aload_n (j := 1) (x := a1) C dX8_step_21 rfl ?_
        refine hv2 (show 0 ≤ ivb1 a1 2 ∧ ivb1 a1 2 ≤ 500 from Wb1.int t_a1 2) (show ivb1 a1 2 = iv a1 2 from Fb1.i t_a1 rfl 2) (fun ri10 ie4 => ?_)
        refine c_get (k := 2) C ck_2 dX8_step_22 w1_45 (by decide) t_a1 rfl rfl (by decide) rfl ?_
        refine c_icmp_ge (tgt := 106) C (r32_c (lo := (-2147483648)) (hi := 2147483647) ri9.1 ri9.2 (by decide) (by decide)) (r32_c (lo := 0) (hi := 500) ri10.1 ri10.2 (by decide) (by decide)) dX8_step_25 (by decide) (fun c2 => ?_) (fun c2 => ?_)
        · refine c_aload_n (j := 2) (x := a2) C dX8_step_106 rfl ?_
          have ri11 : 0 ≤ ivb1 a2 4 ∧ ivb1 a2 4 ≤ 500 := Wb1.int t_a2 4
          refine c_get (k := 4) C ck_7 dX8_step_107 w1_141 (by decide) t_a2 rfl rfl (by decide) rfl ?_
          refine c_if_le (tgt := 115) C (r32_c (lo := 0) (hi := 500) ri11.1 ri11.2 (by decide) (by decide)) dX8_step_110 (by decide) (fun c3 => ?_) (fun c3 => ?_)
          · refine c_aload_n (j := 0) (x := a0) C dX8_step_115 rfl ?_
            refine c_iconst C dX8_step_116 ?_
            refine c_put (z := 0) (k := 1) C ck_9 dX8_step_117 w1_104 (by decide) rfl t_a0 rfl rfl (by decide) rfl (by decide) (by decide) (fun iv1 pq1 => ?_)
            refine hv2 (Wb1.puti pq1 t_a0 ⟨by decide, by decide⟩ rfl) (Fb1.puti hX0 pq1 t_a0 rfl) (fun W2 F2 => ?_)
            refine c_aload_n (j := 0) (x := a0) C dX8_step_120 rfl ?_
            refine c_dup C dX8_step_121 rfl ?_
            refine hv2 (show (-2147483648) ≤ iv1 a0 0 ∧ iv1 a0 0 ≤ 2147483647 from W2.int t_a0 0) (show iv1 a0 0 = ivb1 a0 0 from by rw [pq1]; exact up2_j (by decide)) (fun ri12 ie6 => ?_)
            refine c_get (k := 0) C ck_9 dX8_step_122 w1_103 (by decide) t_a0 rfl rfl (by decide) rfl ?_
            refine c_iconst C dX8_step_125 ?_
            refine c_iadd C dX8_step_126 ?_
            refine c_put (z := (iv1 a0 0) + 1) (k := 0) C ck_9 dX8_step_127 w1_103 (by decide) rfl t_a0 rfl rfl (by decide) rfl (by rfl) (by rfl) (fun iv2 pq2 => ?_)
            refine hv2 (W2.puti pq2 t_a0 (show (-2147483648) ≤ ((iv1 a0 0) + 1) ∧ ((iv1 a0 0) + 1) ≤ 2147483647 by omega) rfl) (F2.puti hX0 pq2 t_a0 rfl) (fun W3 F3 => ?_)
            refine c_iconst C dX8_step_130 ?_
            refine hv17 (show (-2147483648) ≤ iv2 a0 0 ∧ iv2 a0 0 ≤ 2147483647 from W3.int t_a0 0) (show iv2 a0 0 = (iv1 a0 0) + 1 from by rw [pq2]; exact up2_s) (show 0 ≤ iv2 a0 1 ∧ iv2 a0 1 ≤ 1 from W3.int t_a0 1) (show iv2 a0 1 = iv1 a0 1 from by rw [pq2]; exact up2_j (by decide)) (show iv1 a0 1 = 0 from by rw [pq1]; exact up2_s) (show 0 ≤ iv2 a0 2 ∧ iv2 a0 2 ≤ 1 from W3.int t_a0 2) (show iv2 a0 2 = iv1 a0 2 from by rw [pq2]; exact up2_j (by decide)) (show iv1 a0 2 = ivb1 a0 2 from by rw [pq1]; exact up2_j (by decide)) (show 0 ≤ iv2 a2 4 ∧ iv2 a2 4 ≤ 500 from W3.int t_a2 4) (show iv2 a2 4 = iv1 a2 4 from by rw [pq2]; exact up2_k (ne_ty t_a2 t_a0 (by decide))) (show iv1 a2 4 = ivb1 a2 4 from by rw [pq1]; exact up2_k (ne_ty t_a2 t_a0 (by decide))) (show 0 ≤ iv2 a2 5 ∧ iv2 a2 5 ≤ 1 from W3.int t_a2 5) (show iv2 a2 5 = iv1 a2 5 from by rw [pq2]; exact up2_k (ne_ty t_a2 t_a0 (by decide))) (show iv1 a2 5 = ivb1 a2 5 from by rw [pq1]; exact up2_k (ne_ty t_a2 t_a0 (by decide))) (show 0 ≤ iv2 a1 2 ∧ iv2 a1 2 ≤ 500 from W3.int t_a1 2) (show iv2 a1 2 = iv1 a1 2 from by rw [pq2]; exact up2_k (ne_ty t_a1 t_a0 (by decide))) (show iv1 a1 2 = ivb1 a1 2 from by rw [pq1]; exact up2_k (ne_ty t_a1 t_a0 (by decide))) (fun ri13 ie7 ri14 ie8 ie9 ri15 ie10 ie11 ri16 ie13 ie14 ri17 ie15 ie16 ri18 ie18 ie19 => ?_)
            exact c_iret C dX8_step_131 rfl (by decide) (rom0 hph hph (by decide)) ⟨3, rfl, rfl, rfl, rfl, rfl, F3, W3, ⟨by decide, by decide⟩, ⟨by omega, STP.fin3 (by omega) hK (fun tt ht => Or.inl (by omega)) (by omega) (by omega) rfl (by omega) (by omega) (by omega)⟩⟩
          · refine c_iconst C dX8_step_113 ?_
            refine hv3 (show 0 ≤ ivb1 a0 1 ∧ ivb1 a0 1 ≤ 1 from Wb1.int t_a0 1) (show 0 ≤ ivb1 a0 2 ∧ ivb1 a0 2 ≤ 1 from Wb1.int t_a0 2) (show 0 ≤ ivb1 a2 5 ∧ ivb1 a2 5 ≤ 1 from Wb1.int t_a2 5) (fun ri19 ri20 ri21 => ?_)
            exact c_iret C dX8_step_114 rfl (by decide) (rom0 hph hph (by decide)) ⟨2, rfl, rfl, rfl, rfl, rfl, Fb1, Wb1, ⟨by decide, by decide⟩, ⟨by omega, STP.fin2 (by omega) hK (fun tt ht => Or.inl (by omega)) (by omega) (by omega) rfl (by omega) (by omega)⟩⟩
        · have J1 : ∀ (ivb2 : Nat → Nat → Int) , WT (g0 G) sk L cl ln ivb2 rv → fT [14, 15, 50, 51, 52] L cl iv rv ivb2 rv → (0 ≤ ivb2 a0 0 ∧ ivb2 a0 0 < iv a1 2) → (ivb2 a0 1 = iv a0 1) → (500 - ivb2 a0 0 < (nn : Int)) → (ivb2 a2 4 ≤ ivb2 a0 0 + 1 - iv a0 0) → (ivb2 a0 2 = iv a0 2) → (PTN iv rv ivb2 a1 a0 a2) → cw p l e 2 ((PHM) + 0 - ((Phi (g0 G) sk) ln rv)) s m args below meth c G A 4 (MQ below (Qu G A (Qp G (Phi (g0 G) sk) ((Phi (g0 G) sk) ln rv) 0 (fun v L2 cl2 ln2 iv2 rv2 => ∃ f : Int, v = some (.int (iI f)) ∧ L = L2 ∧ cl = cl2 ∧ ln = ln2 ∧ rv = rv2 ∧ fT [14, 15, 50, 51, 52] L cl iv rv iv2 rv2 ∧ WT (g0 G) sk L2 cl2 ln2 iv2 rv2 ∧ (-2147483648 ≤ f ∧ f ≤ 2147483647) ∧ (((0 ≤ f ∧ f ≤ 3) ∧ 0 ≤ iv2 a0 0 ∧ iv2 a0 0 ≤ 501 ∧ (iv2 a0 1 = 0 ∨ iv2 a0 0 ≤ 500) ∧ (f = 0 ∨ 2 * iv a0 0 + iv a0 1 < 2 * iv2 a0 0 + iv2 a0 1)) ∧ STP iv rv iv2 a1 a0 a2 f)))) args s (((PHM) + 0 - ((Phi (g0 G) sk) ln rv)) / 16) ((PHM) + 0 - ((Phi (g0 G) sk) ln rv)) A) (Phi (g0 G) sk) ((Phi (g0 G) sk) ln rv) L cl ln ivb2 rv 0 93 [(0, .ref a0), (1, .ref a1), (2, .ref a2)] [] := by
            intro   ivb2 Wb2 Fb2  hb hbi hbm hst2 hc3 hN
            refine c_aload_n (j := 0) (x := a0) C dX8_step_93 rfl ?_
            refine c_dup C dX8_step_94 rfl ?_
            have ri22 : (-2147483648) ≤ ivb2 a0 0 ∧ ivb2 a0 0 ≤ 2147483647 := Wb2.int t_a0 0
            refine c_get (k := 0) C ck_9 dX8_step_95 w1_103 (by decide) t_a0 rfl rfl (by decide) rfl ?_
            refine c_iconst C dX8_step_98 ?_
            refine c_iadd C dX8_step_99 ?_
            refine c_put (z := (ivb2 a0 0) + 1) (k := 0) C ck_9 dX8_step_100 w1_103 (by decide) rfl t_a0 rfl rfl (by decide) rfl (by rfl) (by rfl) (fun iv3 pq3 => ?_)
            refine hv2 (Wb2.puti pq3 t_a0 (show (-2147483648) ≤ ((ivb2 a0 0) + 1) ∧ ((ivb2 a0 0) + 1) ≤ 2147483647 by omega) rfl) (Fb2.puti hX0 pq3 t_a0 rfl) (fun W4 F4 => ?_)
            refine c_goto (tgt := 17) C dX8_step_103 (by decide) ?_
            refine hv13 (show (-2147483648) ≤ iv3 a0 0 ∧ iv3 a0 0 ≤ 2147483647 from W4.int t_a0 0) (show iv3 a0 0 = (ivb2 a0 0) + 1 from by rw [pq3]; exact up2_s) (show 0 ≤ iv3 a0 1 ∧ iv3 a0 1 ≤ 1 from W4.int t_a0 1) (show iv3 a0 1 = ivb2 a0 1 from by rw [pq3]; exact up2_j (by decide)) (show 0 ≤ iv3 a2 4 ∧ iv3 a2 4 ≤ 500 from W4.int t_a2 4) (show iv3 a2 4 = ivb2 a2 4 from by rw [pq3]; exact up2_k (ne_ty t_a2 t_a0 (by decide))) (show 0 ≤ iv3 a0 2 ∧ iv3 a0 2 ≤ 1 from W4.int t_a0 2) (show iv3 a0 2 = ivb2 a0 2 from by rw [pq3]; exact up2_j (by decide)) (show 0 ≤ iv3 a2 5 ∧ iv3 a2 5 ≤ 1 from W4.int t_a2 5) (show iv3 a2 5 = ivb2 a2 5 from by rw [pq3]; exact up2_k (ne_ty t_a2 t_a0 (by decide))) (show 0 ≤ iv3 a1 2 ∧ iv3 a1 2 ≤ 500 from W4.int t_a1 2) (show iv3 a1 2 = ivb2 a1 2 from by rw [pq3]; exact up2_k (ne_ty t_a1 t_a0 (by decide))) (show ivb2 a1 2 = iv a1 2 from Fb2.i t_a1 rfl 2) (fun ri23 ie24 ri24 ie25 ri25 ie27 ri26 ie29 ri27 ie31 ri28 ie33 ie34 => ?_)
            refine c_lv (lv2 := [(0, .ref a0), (1, .ref a1), (2, .ref a2)]) [0, 1, 2] rfl ?_
            exact ih1   _ (by omega) W4 F4  (by show 0 ≤ iv3 a0 0 ∧ iv3 a0 0 ≤ 500; omega) (by show iv3 a0 1 = iv a0 1; omega) (by show iv3 a2 4 ≤ iv3 a0 0 - iv a0 0; omega) (by show iv3 a0 2 = iv a0 2; omega) (hN.next Wb2 pq3 (by omega) t_a0 t_a2)
          refine c_aload_n (j := 1) (x := a1) C dX8_step_28 rfl ?_
          refine c_aload_n (j := 0) (x := a0) C dX8_step_29 rfl ?_
          refine c_get (k := 0) C ck_9 dX8_step_30 w1_103 (by decide) t_a0 rfl rfl (by decide) rfl ?_
          refine d_callV (As := [.int (iI (ivb1 a0 0))]) (rest := []) C hM (C_at_3 (a0 := a1) (i := ivb1 a0 0) Wb1 hS t_a1 (by omega) ) dX8_step_33 kV_X8_53 rfl t_a1 rfl rfl (by decide) ck_2 rfl (Nat.le_of_ble_eq_true rfl) ⟨(Nat.le_of_ble_eq_true rfl), (Nat.le_of_ble_eq_true rfl)⟩ hph hph (show 0 + 0 = 0 from rfl) (by decide) (fun rh2 Lh2 clh2 lnh2 ivh2 rvh2 h2 => ?_)
          obtain ⟨f2, rfl, rfl, rfl, rfl, rfl, rfl, rgf2, exf2⟩ := h2
          refine c_st (st2 := [.int (iI f2)]) rfl ?_
          have gf2 : ((0 ≤ (ivb1 a0 0) ∧ (ivb1 a0 0) < ivb1 a1 2) ∨ f2 = 0) ∧ ∀ ss, CT ivb1 rv a1 ss → 0 ≤ (ivb1 a0 0) → (ivb1 a0 0) < ivb1 a1 2 → f2 = ss (ivb1 a0 0).toNat := exf2
          refine c_bipush (z := 10) C dX8_step_36 (by decide) ?_
          refine c_icmp_eq (tgt := 106) C ⟨by omega, by omega⟩ ⟨by decide, by decide⟩ dX8_step_38 (by decide) (fun c4 => ?_) (fun c4 => ?_)
          · refine c_aload_n (j := 2) (x := a2) C dX8_step_106 rfl ?_
            have ri29 : 0 ≤ ivb1 a2 4 ∧ ivb1 a2 4 ≤ 500 := Wb1.int t_a2 4
            refine c_get (k := 4) C ck_7 dX8_step_107 w1_141 (by decide) t_a2 rfl rfl (by decide) rfl ?_
            refine c_if_le (tgt := 115) C (r32_c (lo := 0) (hi := 500) ri29.1 ri29.2 (by decide) (by decide)) dX8_step_110 (by decide) (fun c5 => ?_) (fun c5 => ?_)
            · refine c_aload_n (j := 0) (x := a0) C dX8_step_115 rfl ?_
              refine c_iconst C dX8_step_116 ?_
              refine c_put (z := 0) (k := 1) C ck_9 dX8_step_117 w1_104 (by decide) rfl t_a0 rfl rfl (by decide) rfl (by decide) (by decide) (fun iv4 pq4 => ?_)
              refine hv2 (Wb1.puti pq4 t_a0 ⟨by decide, by decide⟩ rfl) (Fb1.puti hX0 pq4 t_a0 rfl) (fun W6 F5 => ?_)
              refine c_aload_n (j := 0) (x := a0) C dX8_step_120 rfl ?_
              refine c_dup C dX8_step_121 rfl ?_
              refine hv2 (show (-2147483648) ≤ iv4 a0 0 ∧ iv4 a0 0 ≤ 2147483647 from W6.int t_a0 0) (show iv4 a0 0 = ivb1 a0 0 from by rw [pq4]; exact up2_j (by decide)) (fun ri30 ie36 => ?_)
              refine c_get (k := 0) C ck_9 dX8_step_122 w1_103 (by decide) t_a0 rfl rfl (by decide) rfl ?_
              refine c_iconst C dX8_step_125 ?_
              refine c_iadd C dX8_step_126 ?_
              refine c_put (z := (iv4 a0 0) + 1) (k := 0) C ck_9 dX8_step_127 w1_103 (by decide) rfl t_a0 rfl rfl (by decide) rfl (by rfl) (by rfl) (fun iv5 pq5 => ?_)
              refine hv2 (W6.puti pq5 t_a0 (show (-2147483648) ≤ ((iv4 a0 0) + 1) ∧ ((iv4 a0 0) + 1) ≤ 2147483647 by omega) rfl) (F5.puti hX0 pq5 t_a0 rfl) (fun W7 F6 => ?_)
              refine c_iconst C dX8_step_130 ?_
              refine hv17 (show (-2147483648) ≤ iv5 a0 0 ∧ iv5 a0 0 ≤ 2147483647 from W7.int t_a0 0) (show iv5 a0 0 = (iv4 a0 0) + 1 from by rw [pq5]; exact up2_s) (show 0 ≤ iv5 a0 1 ∧ iv5 a0 1 ≤ 1 from W7.int t_a0 1) (show iv5 a0 1 = iv4 a0 1 from by rw [pq5]; exact up2_j (by decide)) (show iv4 a0 1 = 0 from by rw [pq4]; exact up2_s) (show 0 ≤ iv5 a0 2 ∧ iv5 a0 2 ≤ 1 from W7.int t_a0 2) (show iv5 a0 2 = iv4 a0 2 from by rw [pq5]; exact up2_j (by decide)) (show iv4 a0 2 = ivb1 a0 2 from by rw [pq4]; exact up2_j (by decide)) (show 0 ≤ iv5 a2 4 ∧ iv5 a2 4 ≤ 500 from W7.int t_a2 4) (show iv5 a2 4 = iv4 a2 4 from by rw [pq5]; exact up2_k (ne_ty t_a2 t_a0 (by decide))) (show iv4 a2 4 = ivb1 a2 4 from by rw [pq4]; exact up2_k (ne_ty t_a2 t_a0 (by decide))) (show 0 ≤ iv5 a2 5 ∧ iv5 a2 5 ≤ 1 from W7.int t_a2 5) (show iv5 a2 5 = iv4 a2 5 from by rw [pq5]; exact up2_k (ne_ty t_a2 t_a0 (by decide))) (show iv4 a2 5 = ivb1 a2 5 from by rw [pq4]; exact up2_k (ne_ty t_a2 t_a0 (by decide))) (show 0 ≤ iv5 a1 2 ∧ iv5 a1 2 ≤ 500 from W7.int t_a1 2) (show iv5 a1 2 = iv4 a1 2 from by rw [pq5]; exact up2_k (ne_ty t_a1 t_a0 (by decide))) (show iv4 a1 2 = ivb1 a1 2 from by rw [pq4]; exact up2_k (ne_ty t_a1 t_a0 (by decide))) (fun ri31 ie37 ri32 ie38 ie39 ri33 ie40 ie41 ri34 ie43 ie44 ri35 ie45 ie46 ri36 ie48 ie49 => ?_)
              exact c_iret C dX8_step_131 rfl (by decide) (rom0 hph hph (by decide)) ⟨3, rfl, rfl, rfl, rfl, rfl, F6, W7, ⟨by decide, by decide⟩, ⟨by omega, STP.fin3 (by omega) hK (fun tt ht => Or.inr (by have e := gf2.2 tt (CT.frn ht Wb1 t_a1 Fb1 rfl rfl rfl rfl rfl) (by omega) (by omega); rw [← e]; omega)) (by omega) (by omega) rfl (by omega) (by omega) (by omega)⟩⟩
            · refine c_iconst C dX8_step_113 ?_
              refine hv3 (show 0 ≤ ivb1 a0 1 ∧ ivb1 a0 1 ≤ 1 from Wb1.int t_a0 1) (show 0 ≤ ivb1 a0 2 ∧ ivb1 a0 2 ≤ 1 from Wb1.int t_a0 2) (show 0 ≤ ivb1 a2 5 ∧ ivb1 a2 5 ≤ 1 from Wb1.int t_a2 5) (fun ri37 ri38 ri39 => ?_)
              exact c_iret C dX8_step_114 rfl (by decide) (rom0 hph hph (by decide)) ⟨2, rfl, rfl, rfl, rfl, rfl, Fb1, Wb1, ⟨by decide, by decide⟩, ⟨by omega, STP.fin2 (by omega) hK (fun tt ht => Or.inr (by have e := gf2.2 tt (CT.frn ht Wb1 t_a1 Fb1 rfl rfl rfl rfl rfl) (by omega) (by omega); rw [← e]; omega)) (by omega) (by omega) rfl (by omega) (by omega)⟩⟩
          · refine c_aload_n (j := 1) (x := a1) C dX8_step_41 rfl ?_
            refine c_aload_n (j := 0) (x := a0) C dX8_step_42 rfl ?_
            refine c_get (k := 0) C ck_9 dX8_step_43 w1_103 (by decide) t_a0 rfl rfl (by decide) rfl ?_
            refine d_callV (As := [.int (iI (ivb1 a0 0))]) (rest := []) C hM (C_at_3 (a0 := a1) (i := ivb1 a0 0) Wb1 hS t_a1 (by omega) ) dX8_step_46 kV_X8_53 rfl t_a1 rfl rfl (by decide) ck_2 rfl (Nat.le_of_ble_eq_true rfl) ⟨(Nat.le_of_ble_eq_true rfl), (Nat.le_of_ble_eq_true rfl)⟩ hph hph (show 0 + 0 = 0 from rfl) (by decide) (fun rh3 Lh3 clh3 lnh3 ivh3 rvh3 h3 => ?_)
            obtain ⟨f3, rfl, rfl, rfl, rfl, rfl, rfl, rgf3, exf3⟩ := h3
            refine c_st (st2 := [.int (iI f3)]) rfl ?_
            have gf3 : ((0 ≤ (ivb1 a0 0) ∧ (ivb1 a0 0) < ivb1 a1 2) ∨ f3 = 0) ∧ ∀ ss, CT ivb1 rv a1 ss → 0 ≤ (ivb1 a0 0) → (ivb1 a0 0) < ivb1 a1 2 → f3 = ss (ivb1 a0 0).toNat := exf3
            refine c_istore_n (lv2 := [(3, .int (iI f3)), (0, .ref a0), (1, .ref a1), (2, .ref a2)]) C dX8_step_49 (by decide) rfl ?_
            refine c_iload_n (j := 0) C dX8_step_50 rfl ?_
            refine c_bipush (z := 32) C dX8_step_51 (by decide) ?_
            refine c_icmp_ne (tgt := 65) C ⟨by omega, by omega⟩ ⟨by decide, by decide⟩ dX8_step_53 (by decide) (fun c6 => ?_) (fun c6 => ?_)
            · refine c_iload_n (j := 0) C dX8_step_65 rfl ?_
              refine c_bipush (z := 126) C dX8_step_66 (by decide) ?_
              refine c_icmp_ne (tgt := 78) C ⟨by omega, by omega⟩ ⟨by decide, by decide⟩ dX8_step_68 (by decide) (fun c7 => ?_) (fun c7 => ?_)
              · refine c_iload_n (j := 0) C dX8_step_78 rfl ?_
                refine c_bipush (z := 32) C dX8_step_79 (by decide) ?_
                refine c_icmp_eq (tgt := 93) C ⟨by omega, by omega⟩ ⟨by decide, by decide⟩ dX8_step_81 (by decide) (fun z => absurd z (by omega)) (fun _ => ?_)
                refine c_aload_n (j := 3) (x := a2) C dX8_step_84 rfl ?_
                refine c_iload_n (j := 0) C dX8_step_85 rfl ?_
                refine c_aload_n (j := 1) (x := a0) C dX8_step_86 rfl ?_
                refine c_get (k := 0) C ck_9 dX8_step_87 w1_103 (by decide) t_a0 rfl rfl (by decide) rfl ?_
                have ri40 : 0 ≤ ivb1 a2 4 ∧ ivb1 a2 4 ≤ 500 := Wb1.int t_a2 4
                refine d_callV (As := [.int (iI f3), .int (iI (ivb1 a0 0))]) (rest := []) C hM (G_put2 (a0 := a2) (x := f3) (y := ivb1 a0 0) Wb1 hS t_a2 (by omega) (by omega) ) dX8_step_90 kV_X8_60 rfl t_a2 rfl rfl (by decide) ck_7 rfl (Nat.le_of_ble_eq_true rfl) ⟨(Nat.le_of_ble_eq_true rfl), (Nat.le_of_ble_eq_true rfl)⟩ hph hph (show 0 + 0 = 0 from rfl) (by decide) (fun rh4 Lh4 clh4 lnh4 ivh4 rvh4 h4 => ?_)
                obtain ⟨rfl, rfl, rfl, rfl, rfl, fl4, W9, exf4⟩ := h4
                have F7 := Fb1.call hX0 fl4 rfl
                refine c_st (st2 := []) rfl ?_
                refine hv11 (show 0 ≤ ivh4 a2 4 ∧ ivh4 a2 4 ≤ 500 from W9.int t_a2 4) (show (ivh4 a2 4 ≤ ivb1 a2 4 + 1) ∧ PT2 ivb1 rv ivh4 a2 f3 (ivb1 a0 0) from exf4) (show (-2147483648) ≤ ivh4 a0 0 ∧ ivh4 a0 0 ≤ 2147483647 from W9.int t_a0 0) (show ivh4 a0 0 = ivb1 a0 0 from fl4.i t_a0 rfl 0) (show 0 ≤ ivh4 a0 1 ∧ ivh4 a0 1 ≤ 1 from W9.int t_a0 1) (show ivh4 a0 1 = ivb1 a0 1 from fl4.i t_a0 rfl 1) (show 0 ≤ ivh4 a0 2 ∧ ivh4 a0 2 ≤ 1 from W9.int t_a0 2) (show ivh4 a0 2 = ivb1 a0 2 from fl4.i t_a0 rfl 2) (show 0 ≤ ivh4 a2 5 ∧ ivh4 a2 5 ≤ 1 from W9.int t_a2 5) (show 0 ≤ ivh4 a1 2 ∧ ivh4 a1 2 ≤ 500 from W9.int t_a1 2) (show ivh4 a1 2 = ivb1 a1 2 from fl4.i t_a1 rfl 2) (fun ri41 gf4 ri42 ie55 ri43 ie56 ri44 ie58 ri45 ri46 ie61 => ?_)
                refine c_lv (lv2 := [(0, .ref a0), (1, .ref a1), (2, .ref a2)]) [1, 2, 3] rfl ?_
                exact J1   _  W9 F7  (by show 0 ≤ ivh4 a0 0 ∧ ivh4 a0 0 < iv a1 2; omega) (by show ivh4 a0 1 = iv a0 1; omega) (by show 500 - ivh4 a0 0 < (nn : Int); omega) (by show ivh4 a2 4 ≤ ivh4 a0 0 + 1 - iv a0 0; omega) (by show ivh4 a0 2 = iv a0 2; omega) (hK.ltr (fun tt ht => gf2.2 tt (CT.frn ht Wb1 t_a1 Fb1 rfl rfl rfl rfl rfl) (by omega) (by omega)) (fun tt ht => gf3.2 tt (CT.frn ht Wb1 t_a1 Fb1 rfl rfl rfl rfl rfl) (by omega) (by omega)) (by omega) (by omega) (by omega) ⟨by omega, by omega⟩ gf4.2 (by omega) rfl (by omega))
              · refine c_aload_n (j := 3) (x := a2) C dX8_step_71 rfl ?_
                have ri47 : 0 ≤ ivb1 a2 4 ∧ ivb1 a2 4 ≤ 500 := Wb1.int t_a2 4
                refine d_callV (As := []) (rest := []) C hM (G_putBreak (a0 := a2) Wb1 hS t_a2  ) dX8_step_72 kV_X8_57 rfl t_a2 rfl rfl (by decide) ck_7 rfl (Nat.le_of_ble_eq_true rfl) ⟨(Nat.le_of_ble_eq_true rfl), (Nat.le_of_ble_eq_true rfl)⟩ hph hph (show 0 + 0 = 0 from rfl) (by decide) (fun rh5 Lh5 clh5 lnh5 ivh5 rvh5 h5 => ?_)
                obtain ⟨rfl, rfl, rfl, rfl, rfl, fl5, W10, exf5⟩ := h5
                have F8 := Fb1.call hX0 fl5 rfl
                refine c_st (st2 := []) rfl ?_
                refine hv3 (show 0 ≤ ivh5 a2 4 ∧ ivh5 a2 4 ≤ 500 from W10.int t_a2 4) (show 0 ≤ ivh5 a2 5 ∧ ivh5 a2 5 ≤ 1 from W10.int t_a2 5) (show ivh5 a2 4 = ivb1 a2 4 ∧ ivh5 a2 5 = 1 from exf5) (fun ri48 ri49 gf5 => ?_)
                refine c_goto (tgt := 93) C dX8_step_75 (by decide) ?_
                refine hv8 (show (-2147483648) ≤ ivh5 a0 0 ∧ ivh5 a0 0 ≤ 2147483647 from W10.int t_a0 0) (show ivh5 a0 0 = ivb1 a0 0 from fl5.i t_a0 rfl 0) (show 0 ≤ ivh5 a0 1 ∧ ivh5 a0 1 ≤ 1 from W10.int t_a0 1) (show ivh5 a0 1 = ivb1 a0 1 from fl5.i t_a0 rfl 1) (show 0 ≤ ivh5 a0 2 ∧ ivh5 a0 2 ≤ 1 from W10.int t_a0 2) (show ivh5 a0 2 = ivb1 a0 2 from fl5.i t_a0 rfl 2) (show 0 ≤ ivh5 a1 2 ∧ ivh5 a1 2 ≤ 500 from W10.int t_a1 2) (show ivh5 a1 2 = ivb1 a1 2 from fl5.i t_a1 rfl 2) (fun ri50 ie65 ri51 ie66 ri52 ie68 ri53 ie70 => ?_)
                refine c_lv (lv2 := [(0, .ref a0), (1, .ref a1), (2, .ref a2)]) [1, 2, 3] rfl ?_
                exact J1   _  W10 F8  (by show 0 ≤ ivh5 a0 0 ∧ ivh5 a0 0 < iv a1 2; omega) (by show ivh5 a0 1 = iv a0 1; omega) (by show 500 - ivh5 a0 0 < (nn : Int); omega) (by show ivh5 a2 4 ≤ ivh5 a0 0 + 1 - iv a0 0; omega) (by show ivh5 a0 2 = iv a0 2; omega) (hK.til (fun tt ht => gf3.2 tt (CT.frn ht Wb1 t_a1 Fb1 rfl rfl rfl rfl rfl) (by omega) (by omega)) (by omega) ⟨by omega, by omega⟩ (by omega) (by omega) (fun w hw => hw.ni Wb1 fl5 t_a2 (by omega) rfl rfl rfl))
            · refine c_aload_n (j := 3) (x := a2) C dX8_step_56 rfl ?_
              have ri54 : 0 ≤ ivb1 a2 4 ∧ ivb1 a2 4 ≤ 500 := Wb1.int t_a2 4
              refine c_get (k := 4) C ck_7 dX8_step_57 w1_141 (by decide) t_a2 rfl rfl (by decide) rfl ?_
              refine c_if_le (tgt := 65) C (r32_c (lo := 0) (hi := 500) ri54.1 ri54.2 (by decide) (by decide)) dX8_step_60 (by decide) (fun c8 => ?_) (fun c8 => ?_)
              · refine c_iload_n (j := 0) C dX8_step_65 rfl ?_
                refine c_bipush (z := 126) C dX8_step_66 (by decide) ?_
                refine c_icmp_ne (tgt := 78) C ⟨by omega, by omega⟩ ⟨by decide, by decide⟩ dX8_step_68 (by decide) (fun c9 => ?_) (fun c9 => ?_)
                · refine c_iload_n (j := 0) C dX8_step_78 rfl ?_
                  refine c_bipush (z := 32) C dX8_step_79 (by decide) ?_
                  refine c_icmp_eq (tgt := 93) C ⟨by omega, by omega⟩ ⟨by decide, by decide⟩ dX8_step_81 (by decide) (fun _ => ?_) (fun z => absurd z (by omega))
                  refine hv3 (show 0 ≤ ivb1 a0 1 ∧ ivb1 a0 1 ≤ 1 from Wb1.int t_a0 1) (show 0 ≤ ivb1 a0 2 ∧ ivb1 a0 2 ≤ 1 from Wb1.int t_a0 2) (show 0 ≤ ivb1 a2 5 ∧ ivb1 a2 5 ≤ 1 from Wb1.int t_a2 5) (fun ri55 ri56 ri57 => ?_)
                  refine c_lv (lv2 := [(0, .ref a0), (1, .ref a1), (2, .ref a2)]) [1, 2, 3] rfl ?_
                  exact J1   _  Wb1 Fb1  (by show 0 ≤ ivb1 a0 0 ∧ ivb1 a0 0 < iv a1 2; omega) (by show ivb1 a0 1 = iv a0 1; omega) (by show 500 - ivb1 a0 0 < (nn : Int); omega) (by show ivb1 a2 4 ≤ ivb1 a0 0 + 1 - iv a0 0; omega) (by show ivb1 a0 2 = iv a0 2; omega) (hK.sp (fun tt ht => gf3.2 tt (CT.frn ht Wb1 t_a1 Fb1 rfl rfl rfl rfl rfl) (by omega) (by omega)) (by omega) ⟨by omega, by omega⟩ (by omega))
                · refine c_aload_n (j := 3) (x := a2) C dX8_step_71 rfl ?_
                  refine d_callV (As := []) (rest := []) C hM (G_putBreak (a0 := a2) Wb1 hS t_a2  ) dX8_step_72 kV_X8_57 rfl t_a2 rfl rfl (by decide) ck_7 rfl (Nat.le_of_ble_eq_true rfl) ⟨(Nat.le_of_ble_eq_true rfl), (Nat.le_of_ble_eq_true rfl)⟩ hph hph (show 0 + 0 = 0 from rfl) (by decide) (fun rh6 Lh6 clh6 lnh6 ivh6 rvh6 h6 => ?_)
                  obtain ⟨rfl, rfl, rfl, rfl, rfl, fl6, W11, exf6⟩ := h6
                  have F9 := Fb1.call hX0 fl6 rfl
                  refine c_st (st2 := []) rfl ?_
                  refine hv3 (show 0 ≤ ivh6 a2 4 ∧ ivh6 a2 4 ≤ 500 from W11.int t_a2 4) (show 0 ≤ ivh6 a2 5 ∧ ivh6 a2 5 ≤ 1 from W11.int t_a2 5) (show ivh6 a2 4 = ivb1 a2 4 ∧ ivh6 a2 5 = 1 from exf6) (fun ri58 ri59 gf6 => ?_)
                  refine c_goto (tgt := 93) C dX8_step_75 (by decide) ?_
                  refine hv8 (show (-2147483648) ≤ ivh6 a0 0 ∧ ivh6 a0 0 ≤ 2147483647 from W11.int t_a0 0) (show ivh6 a0 0 = ivb1 a0 0 from fl6.i t_a0 rfl 0) (show 0 ≤ ivh6 a0 1 ∧ ivh6 a0 1 ≤ 1 from W11.int t_a0 1) (show ivh6 a0 1 = ivb1 a0 1 from fl6.i t_a0 rfl 1) (show 0 ≤ ivh6 a0 2 ∧ ivh6 a0 2 ≤ 1 from W11.int t_a0 2) (show ivh6 a0 2 = ivb1 a0 2 from fl6.i t_a0 rfl 2) (show 0 ≤ ivh6 a1 2 ∧ ivh6 a1 2 ≤ 500 from W11.int t_a1 2) (show ivh6 a1 2 = ivb1 a1 2 from fl6.i t_a1 rfl 2) (fun ri60 ie77 ri61 ie78 ri62 ie80 ri63 ie82 => ?_)
                  refine c_lv (lv2 := [(0, .ref a0), (1, .ref a1), (2, .ref a2)]) [1, 2, 3] rfl ?_
                  exact J1   _  W11 F9  (by show 0 ≤ ivh6 a0 0 ∧ ivh6 a0 0 < iv a1 2; omega) (by show ivh6 a0 1 = iv a0 1; omega) (by show 500 - ivh6 a0 0 < (nn : Int); omega) (by show ivh6 a2 4 ≤ ivh6 a0 0 + 1 - iv a0 0; omega) (by show ivh6 a0 2 = iv a0 2; omega) (hK.til (fun tt ht => gf3.2 tt (CT.frn ht Wb1 t_a1 Fb1 rfl rfl rfl rfl rfl) (by omega) (by omega)) (by omega) ⟨by omega, by omega⟩ (by omega) (by omega) (fun w hw => hw.ni Wb1 fl6 t_a2 (by omega) rfl rfl rfl))
              · refine c_iconst C dX8_step_63 ?_
                refine hv3 (show 0 ≤ ivb1 a0 1 ∧ ivb1 a0 1 ≤ 1 from Wb1.int t_a0 1) (show 0 ≤ ivb1 a0 2 ∧ ivb1 a0 2 ≤ 1 from Wb1.int t_a0 2) (show 0 ≤ ivb1 a2 5 ∧ ivb1 a2 5 ≤ 1 from Wb1.int t_a2 5) (fun ri64 ri65 ri66 => ?_)
                exact c_iret C dX8_step_64 rfl (by decide) (rom0 hph hph (by decide)) ⟨2, rfl, rfl, rfl, rfl, rfl, Fb1, Wb1, ⟨by decide, by decide⟩, ⟨by omega, STP.sp (by omega) hK (fun tt ht => gf3.2 tt (CT.frn ht Wb1 t_a1 Fb1 rfl rfl rfl rfl rfl) (by omega) (by omega)) (by omega) ⟨by omega, by omega⟩ (by omega) rfl (by omega) (by omega)⟩⟩
    refine hv8 (show (-2147483648) ≤ ivh1 a0 0 ∧ ivh1 a0 0 ≤ 2147483647 from W1.int t_a0 0) (show ivh1 a0 0 = iv a0 0 from fl1.i t_a0 rfl 0) (show 0 ≤ ivh1 a0 1 ∧ ivh1 a0 1 ≤ 1 from W1.int t_a0 1) (show ivh1 a0 1 = iv a0 1 from fl1.i t_a0 rfl 1) (show 0 ≤ ivh1 a0 2 ∧ ivh1 a0 2 ≤ 1 from W1.int t_a0 2) (show ivh1 a0 2 = iv a0 2 from fl1.i t_a0 rfl 2) (show 0 ≤ ivh1 a1 2 ∧ ivh1 a1 2 ≤ 500 from W1.int t_a1 2) (show ivh1 a1 2 = iv a1 2 from fl1.i t_a1 rfl 2) (fun ri67 ie86 ri68 ie87 ri69 ie88 ri70 ie89 => ?_)
    refine c_lv (lv2 := [(0, .ref a0), (1, .ref a1), (2, .ref a2)]) [0, 1, 2] rfl ?_
    exact Lp1 503  _ (by omega) W1 F1  (by show 0 ≤ ivh1 a0 0 ∧ ivh1 a0 0 ≤ 500; omega) (by show ivh1 a0 1 = iv a0 1; omega) (by show ivh1 a2 4 ≤ ivh1 a0 0 - iv a0 0; omega) (by show ivh1 a0 2 = iv a0 2; omega) (PTK.init (by omega) (by omega) (by omega))
  · refine c_aload_n (j := 0) (x := a0) C dX8_step_7 rfl ?_
    refine c_aload_n (j := 1) (x := a1) C dX8_step_8 rfl ?_
    refine d_callV (As := [.ref a1]) (rest := []) C hM (G_enterLine (a0 := a0) (a1 := a1) hW hS t_a0 t_a1  (by show 0 ≤ iv a0 0 ∧ iv a0 0 ≤ 501 ∧ (iv a0 1 = 0 ∨ iv a0 0 ≤ 500); omega)) dX8_step_9 kV_X8_39 rfl t_a0 rfl rfl (by decide) ck_9 rfl (Nat.le_of_ble_eq_true rfl) ⟨(Nat.le_of_ble_eq_true rfl), (Nat.le_of_ble_eq_true rfl)⟩ hph hph (show 0 + 0 = 0 from rfl) (by decide) (fun rh7 Lh7 clh7 lnh7 ivh7 rvh7 h7 => ?_)
    obtain ⟨f7, rfl, rfl, rfl, rfl, rfl, fl7, W12, rgf7, exf7⟩ := h7
    have F10 := hF0.call hX0 fl7 rfl
    refine c_st (st2 := [.int (iI f7)]) rfl ?_
    refine hv10 (show (-2147483648) ≤ ivh7 a0 0 ∧ ivh7 a0 0 ≤ 2147483647 from W12.int t_a0 0) (show 0 ≤ ivh7 a0 1 ∧ ivh7 a0 1 ≤ 1 from W12.int t_a0 1) (show 0 ≤ ivh7 a0 2 ∧ ivh7 a0 2 ≤ 1 from W12.int t_a0 2) (show ((f7 = 0 ∨ f7 = 1) ∧ 0 ≤ ivh7 a0 0 ∧ ivh7 a0 0 ≤ 501 ∧ (ivh7 a0 1 = 0 ∨ ivh7 a0 0 ≤ 500) ∧ (f7 = 0 ∨ (ivh7 a0 1 = 1 ∧ iv a0 0 ≤ ivh7 a0 0))) ∧ ∀ tt, CT iv rv a1 tt → (iv a1 2 ≤ iv a0 0 ∧ f7 = 0 ∧ ivh7 a0 0 = iv a0 0 ∧ ivh7 a0 1 = iv a0 1) ∨ (iv a0 0 < iv a1 2 ∧ f7 = 1 ∧ ivh7 a0 1 = 1 ∧ ((tt (iv a0 0).toNat = 94 ∧ ivh7 a0 0 = iv a0 0 + 1 ∧ ivh7 a0 2 = 1) ∨ (tt (iv a0 0).toNat ≠ 94 ∧ ivh7 a0 0 = iv a0 0 ∧ ivh7 a0 2 = 0))) from exf7) (show 0 ≤ ivh7 a2 4 ∧ ivh7 a2 4 ≤ 500 from W12.int t_a2 4) (show ivh7 a2 4 = iv a2 4 from fl7.i t_a2 rfl 4) (show 0 ≤ ivh7 a2 5 ∧ ivh7 a2 5 ≤ 1 from W12.int t_a2 5) (show ivh7 a2 5 = iv a2 5 from fl7.i t_a2 rfl 5) (show 0 ≤ ivh7 a1 2 ∧ ivh7 a1 2 ≤ 500 from W12.int t_a1 2) (show ivh7 a1 2 = iv a1 2 from fl7.i t_a1 rfl 2) (fun ri71 ri72 ri73 gf7 ri74 ie93 ri75 ie94 ri76 ie95 => ?_)
    exact c_iret C dX8_step_12 rfl (by decide) (rom0 hph hph (by decide)) ⟨f7, rfl, rfl, rfl, rfl, rfl, F10, W12, ⟨by omega, by omega⟩, ⟨by omega, STP.no (by omega) (fun tt ht => by
        rcases gf7.2 tt ht with ⟨q1, q2, q3, q4⟩ | q
        · exact Or.inl ⟨q1, q2, q3, by omega⟩
        · exact Or.inr q)⟩⟩
