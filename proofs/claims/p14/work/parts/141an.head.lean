set_option maxHeartbeats 4000000 in
set_option maxRecDepth 100000 in
theorem G_wclear {l : Launch} {G : GT} {mi : Nat} {sk : Nat → Nat} {L : List Nat} {cl ln : Nat → Nat} {iv : Nat → Nat → Int} {rv : Nat → Nat → Option Nat}  {a0 : Nat} (hW : WT (g0 G) sk L cl ln iv rv) (hS : SKL sk L cl) (t_a0 : ty L cl a0 15)  : Mc l G mi (Phi (g0 G) sk) PHM yX6_clear cX6_clear 1 none 0 [.ref a0] L cl ln iv rv 0 (fun v L2 cl2 ln2 iv2 rv2 => v = none ∧ L = L2 ∧ cl = cl2 ∧ ln = ln2 ∧ rv = rv2 ∧ fT [15] L cl iv rv iv2 rv2 ∧ WT (g0 G) sk L2 cl2 ln2 iv2 rv2 ∧ (iv2 a0 4 = 0)) := by
  refine Mc.mk (by decide) (Nat.le_of_ble_eq_true rfl) ?_
  intro p e s m args below meth c A C hM
  have hph := Phi.le hW hS
  have hX0 : XT L cl ln L cl ln := XT.refl
  have hF0 : fT [15] L cl iv rv iv rv := fT.refl
  refine c_aload_n (j := 0) (x := a0) C dX6_clear_0 rfl ?_
  refine c_iconst C dX6_clear_1 ?_
  refine c_put (z := 0) (k := 4) C ck_7 dX6_clear_2 w1_140 (by decide) rfl t_a0 rfl rfl (by decide) rfl (by rfl) (by rfl) (fun iv1 pq1 => ?_)
  have W1 := hW.puti pq1 t_a0 ⟨by decide, by decide⟩ rfl
  have F1 := hF0.puti hX0 pq1 t_a0 rfl
  refine c_aload_n (j := 0) (x := a0) C dX6_clear_5 rfl ?_
  refine c_iconst C dX6_clear_6 ?_
  refine c_put (z := 0) (k := 5) C ck_7 dX6_clear_7 w1_143 (by decide) rfl t_a0 rfl rfl (by decide) rfl (by decide) (by decide) (fun iv2 pq2 => ?_)
  have W2 := W1.puti pq2 t_a0 ⟨by decide, by decide⟩ rfl
  have F2 := F1.puti hX0 pq2 t_a0 rfl
  have ri1 : 0 ≤ iv2 a0 4 ∧ iv2 a0 4 ≤ 500 := W2.int t_a0 4
  have ie1 : iv2 a0 4 = iv1 a0 4 := by rw [pq2]; exact up2_j (by decide)
  have ie2 : iv1 a0 4 = 0 := by rw [pq1]; exact up2_s
  exact c_vret C dX6_clear_10 rfl (by decide) (rom0 hph hph (by decide)) ⟨rfl, rfl, rfl, rfl, rfl, F2, W2, (by omega)⟩
set_option maxHeartbeats 4000000 in
set_option maxRecDepth 100000 in
theorem G_put {l : Launch} {G : GT} {mi : Nat} {sk : Nat → Nat} {L : List Nat} {cl ln : Nat → Nat} {iv : Nat → Nat → Int} {rv : Nat → Nat → Option Nat}  {a0 : Nat} {x : Int} {y : Int} (hW : WT (g0 G) sk L cl ln iv rv) (hS : SKL sk L cl) (t_a0 : ty L cl a0 15) (h_x : -2147483648 ≤ x ∧ x ≤ 2147483647) (h_y : -2147483648 ≤ y ∧ y ≤ 2147483647)  : Mc l G mi (Phi (g0 G) sk) PHM yX6_put cX6_put 3 none 0 [.ref a0, .int (iI x), .int (iI y)] L cl ln iv rv 0 (fun v L2 cl2 ln2 iv2 rv2 => v = none ∧ L = L2 ∧ cl = cl2 ∧ ln = ln2 ∧ rv = rv2 ∧ fT [15, 50, 51, 52] L cl iv rv iv2 rv2 ∧ WT (g0 G) sk L2 cl2 ln2 iv2 rv2 ∧ ((iv a0 4 < 500 → iv2 a0 4 = iv a0 4 + 1) ∧ PTL iv rv iv2 a0 x)) := by
  refine Mc.mk (by decide) (Nat.le_of_ble_eq_true rfl) ?_
  intro p e s m args below meth c A C hM
  have hph := Phi.le hW hS
  have hX0 : XT L cl ln L cl ln := XT.refl
  have hF0 : fT [15, 50, 51, 52] L cl iv rv iv rv := fT.refl
  refine c_aload_n (j := 0) (x := a0) C dX6_put_0 rfl ?_
  have ri1 : 0 ≤ iv a0 4 ∧ iv a0 4 ≤ 500 := hW.int t_a0 4
  refine c_get (k := 4) C ck_7 dX6_put_1 w1_140 (by decide) t_a0 rfl rfl (by decide) rfl ?_
  refine c_sipush (z := 500) C dX6_put_4 (by decide) ?_
  refine c_icmp_lt (tgt := 11) C ⟨by omega, by omega⟩ ⟨by decide, by decide⟩ dX6_put_7 (by decide) (fun c1 => ?_) (fun c1 => ?_)
  · refine c_aload_n (j := 0) (x := a0) C dX6_put_11 rfl ?_
    obtain ⟨rb1, rq1, trb1⟩ := hW.ref t_a0 0 rfl rfl rfl
    have lnrb1 : 500 ≤ ln rb1 ∧ ln rb1 ≤ 500 := hW.len trb1 rfl
    refine c_getr (k := 0) C ck_7 dX6_put_12 w1_136 (by decide) t_a0 rfl rfl (by decide) rfl rq1 ?_
    refine c_st (st2 := [.ref rb1]) rfl ?_
    refine c_aload_n (j := 0) (x := a0) C dX6_put_15 rfl ?_
    refine c_get (k := 4) C ck_7 dX6_put_16 w1_140 (by decide) t_a0 rfl rfl (by decide) rfl ?_
    refine c_iload_n (j := 1) C dX6_put_19 rfl ?_
    have ll1 : 500 ≤ ln rb1 ∧ ln rb1 ≤ 500 := hW.len trb1 rfl
    refine c_iast (x := x) C dX6_put_20 trb1 rfl (by omega) (by omega) (by omega) (fun iv1 pq1 => ?_)
    have W1 := hW.puti pq1 trb1 (show (-2147483648) ≤ x ∧ x ≤ 2147483647 by omega) rfl
    have F1 := hF0.puti hX0 pq1 trb1 rfl
    refine c_aload_n (j := 0) (x := a0) C dX6_put_21 rfl ?_
    obtain ⟨rb2, rq2, trb2⟩ := W1.ref t_a0 1 rfl rfl rfl
    have lnrb2 : 500 ≤ ln rb2 ∧ ln rb2 ≤ 500 := W1.len trb2 rfl
    refine c_getr (k := 1) C ck_7 dX6_put_22 w1_137 (by decide) t_a0 rfl rfl (by decide) rfl rq2 ?_
    refine c_st (st2 := [.ref rb2]) rfl ?_
    refine c_aload_n (j := 0) (x := a0) C dX6_put_25 rfl ?_
    have ri2 : 0 ≤ iv1 a0 4 ∧ iv1 a0 4 ≤ 500 := W1.int t_a0 4
    have ie1 : iv1 a0 4 = iv a0 4 := by rw [pq1]; exact up2_k (ne_ty t_a0 trb1 (by decide))
    refine c_get (k := 4) C ck_7 dX6_put_26 w1_140 (by decide) t_a0 rfl rfl (by decide) rfl ?_
    refine c_iload_n (j := 2) C dX6_put_29 rfl ?_
    have ll2 : 500 ≤ ln rb2 ∧ ln rb2 ≤ 500 := W1.len trb2 rfl
    refine c_iast (x := y) C dX6_put_30 trb2 rfl (by omega) (by omega) (by omega) (fun iv2 pq2 => ?_)
    have W2 := W1.puti pq2 trb2 (show (-2147483648) ≤ y ∧ y ≤ 2147483647 by omega) rfl
    have F2 := F1.puti hX0 pq2 trb2 rfl
    refine c_aload_n (j := 0) (x := a0) C dX6_put_31 rfl ?_
    obtain ⟨rb3, rq3, trb3⟩ := W2.ref t_a0 2 rfl rfl rfl
    have lnrb3 : 500 ≤ ln rb3 ∧ ln rb3 ≤ 500 := W2.len trb3 rfl
    refine c_getr (k := 2) C ck_7 dX6_put_32 w1_138 (by decide) t_a0 rfl rfl (by decide) rfl rq3 ?_
    refine c_st (st2 := [.ref rb3]) rfl ?_
    refine c_aload_n (j := 0) (x := a0) C dX6_put_35 rfl ?_
    have ri3 : 0 ≤ iv2 a0 4 ∧ iv2 a0 4 ≤ 500 := W2.int t_a0 4
    have ie2 : iv2 a0 4 = iv1 a0 4 := by rw [pq2]; exact up2_k (ne_ty t_a0 trb2 (by decide))
    refine c_get (k := 4) C ck_7 dX6_put_36 w1_140 (by decide) t_a0 rfl rfl (by decide) rfl ?_
    refine c_aload_n (j := 0) (x := a0) C dX6_put_39 rfl ?_
    have ri4 : 0 ≤ iv2 a0 5 ∧ iv2 a0 5 ≤ 1 := W2.int t_a0 5
    have ie3 : iv2 a0 5 = iv1 a0 5 := by rw [pq2]; exact up2_k (ne_ty t_a0 trb2 (by decide))
    have ie4 : iv1 a0 5 = iv a0 5 := by rw [pq1]; exact up2_k (ne_ty t_a0 trb1 (by decide))
    refine c_get (k := 5) C ck_7 dX6_put_40 w1_143 (by decide) t_a0 rfl rfl (by decide) rfl ?_
    have ll3 : 500 ≤ ln rb3 ∧ ln rb3 ≤ 500 := W2.len trb3 rfl
    refine c_zast (x := iv2 a0 5) C dX6_put_43 trb3 rfl (by omega) (by omega) (by omega) (by omega) (fun iv3 pq3 => ?_)
    have W3 := W2.puti pq3 trb3 (show 0 ≤ (iv2 a0 5) ∧ (iv2 a0 5) ≤ 1 by omega) rfl
    have F3 := F2.puti hX0 pq3 trb3 rfl
    refine c_aload_n (j := 0) (x := a0) C dX6_put_44 rfl ?_
    refine c_iconst C dX6_put_45 ?_
    refine c_put (z := 0) (k := 5) C ck_7 dX6_put_46 w1_143 (by decide) rfl t_a0 rfl rfl (by decide) rfl (by decide) (by decide) (fun iv4 pq4 => ?_)
    have W4 := W3.puti pq4 t_a0 ⟨by decide, by decide⟩ rfl
    have F4 := F3.puti hX0 pq4 t_a0 rfl
    refine c_aload_n (j := 0) (x := a0) C dX6_put_49 rfl ?_
    refine c_dup C dX6_put_50 rfl ?_
    have ri5 : 0 ≤ iv4 a0 4 ∧ iv4 a0 4 ≤ 500 := W4.int t_a0 4
    have ie5 : iv4 a0 4 = iv3 a0 4 := by rw [pq4]; exact up2_j (by decide)
    have ie6 : iv3 a0 4 = iv2 a0 4 := by rw [pq3]; exact up2_k (ne_ty t_a0 trb3 (by decide))
    refine c_get (k := 4) C ck_7 dX6_put_51 w1_140 (by decide) t_a0 rfl rfl (by decide) rfl ?_
    refine c_iconst C dX6_put_54 ?_
    refine c_iadd C dX6_put_55 ?_
    refine c_put (z := (iv4 a0 4) + 1) (k := 4) C ck_7 dX6_put_56 w1_140 (by decide) rfl t_a0 rfl rfl (by decide) rfl (by rfl) (by rfl) (fun iv5 pq5 => ?_)
    have W5 := W4.puti pq5 t_a0 (show 0 ≤ ((iv4 a0 4) + 1) ∧ ((iv4 a0 4) + 1) ≤ 500 by omega) rfl
    have F5 := F4.puti hX0 pq5 t_a0 rfl
    have ri6 : 0 ≤ iv5 a0 4 ∧ iv5 a0 4 ≤ 500 := W5.int t_a0 4
    have ie7 : iv5 a0 4 = (iv4 a0 4) + 1 := by rw [pq5]; exact up2_s
    exact c_vret C dX6_put_59 rfl (by decide) (rom0 hph hph (by decide)) ⟨rfl, rfl, rfl, rfl, rfl, F5, W5, ⟨by omega, PTL.mk rq1 pq1 pq2 pq3 pq4 pq5 rfl (by omega) (by omega) (ne_ty trb1 trb2 (by decide)) (ne_ty trb1 trb3 (by decide)) (ne_ty trb1 t_a0 (by decide))⟩⟩
  · exact c_vret C dX6_put_10 rfl (by decide) (rom0 hph hph (by decide)) ⟨rfl, rfl, rfl, rfl, rfl, hF0, hW, ⟨by omega, PTL.full (by omega)⟩⟩
set_option maxHeartbeats 4000000 in
set_option maxRecDepth 100000 in
theorem G_head {l : Launch} {G : GT} {mi : Nat} {sk : Nat → Nat} {L : List Nat} {cl ln : Nat → Nat} {iv : Nat → Nat → Int} {rv : Nat → Nat → Option Nat}  {a0 : Nat} {i : Int} (hW : WT (g0 G) sk L cl ln iv rv) (hS : SKL sk L cl) (t_a0 : ty L cl a0 1) (h_i : -2147483648 ≤ i ∧ i ≤ 2147483647) (hmr : MRK sk cl iv rv) : Mc l G mi (Phi (g0 G) sk) PHM yX11_head cX11_head 6 (some .int) 8 [.ref a0, .int (iI i)] L cl ln iv rv 0 (fun v L2 cl2 ln2 iv2 rv2 => ∃ f : Int, v = some (.int (iI f)) ∧ XT L cl ln L2 cl2 ln2 ∧ fT [1, 2, 5, 35, 15, 50, 51, 52, 53, 54, 55] L cl iv rv iv2 rv2 ∧ WT (g0 G) sk L2 cl2 ln2 iv2 rv2 ∧ (-2147483648 ≤ f ∧ f ≤ 2147483647) ∧ (True) ∧ iv2 a0 11 = iv a0 11 ∧ iv2 a0 12 = iv a0 12 ∧ iv2 a0 13 = iv a0 13 ∧ iv2 a0 14 = iv a0 14 ∧ iv2 a0 15 = iv a0 15 ∧ iv2 a0 16 = iv a0 16 ∧ iv2 (sk 2) 2 = 0 ∧ (HDX sk ln iv rv (iv a0 11) i f) ∧ rv2 a0 9 = rv a0 9 ∧ rv2 a0 10 = rv a0 10) := by
  refine Mc.mk (by decide) (Nat.le_of_ble_eq_true rfl) ?_
  intro p e s m args below meth c A C hM
  have hph := Phi.le hW hS
  have tsk2 : ty L cl (sk 2) 2 := ⟨(hS 2 rfl).1, by rw [(hS 2 rfl).2]; rfl⟩
  have tsk3 : ty L cl (sk 3) 3 := ⟨(hS 3 rfl).1, by rw [(hS 3 rfl).2]; rfl⟩
  have tsk4 : ty L cl (sk 4) 4 := ⟨(hS 4 rfl).1, by rw [(hS 4 rfl).2]; rfl⟩
  have tsk5 : ty L cl (sk 5) 5 := ⟨(hS 5 rfl).1, by rw [(hS 5 rfl).2]; rfl⟩
  have tsk13 : ty L cl (sk 13) 13 := ⟨(hS 13 rfl).1, by rw [(hS 13 rfl).2]; rfl⟩
  have tsk14 : ty L cl (sk 14) 14 := ⟨(hS 14 rfl).1, by rw [(hS 14 rfl).2]; rfl⟩
  have tsk15 : ty L cl (sk 15) 15 := ⟨(hS 15 rfl).1, by rw [(hS 15 rfl).2]; rfl⟩
  have tsk16 : ty L cl (sk 16) 16 := ⟨(hS 16 rfl).1, by rw [(hS 16 rfl).2]; rfl⟩
  have tsk17 : ty L cl (sk 17) 17 := ⟨(hS 17 rfl).1, by rw [(hS 17 rfl).2]; rfl⟩
  have tsk22 : ty L cl (sk 22) 22 := ⟨(hS 22 rfl).1, by rw [(hS 22 rfl).2]; rfl⟩
  have tsk23 : ty L cl (sk 23) 23 := ⟨(hS 23 rfl).1, by rw [(hS 23 rfl).2]; rfl⟩
  have hX0 : XT L cl ln L cl ln := XT.refl
  have hF0 : fT [1, 2, 5, 35, 15, 50, 51, 52, 53, 54, 55] L cl iv rv iv rv := fT.refl
  have ri1 : 0 ≤ iv (sk 2) 2 ∧ iv (sk 2) 2 ≤ 3000 := hW.int tsk2 2
  have ri2 : 1 ≤ iv a0 11 ∧ iv a0 11 ≤ 100 := hW.int t_a0 11
  refine c_aload_n (j := 0) (x := a0) C dX11_head_0 rfl ?_
  obtain ⟨rb1, rq1, trb1⟩ := hW.ref t_a0 0 rfl rfl rfl
  have erb1 := hW.sk trb1 (by decide) rfl
  subst erb1
  refine c_getr (k := 0) C ck_12 dX11_head_1 w2_44 (by decide) t_a0 rfl rfl (by decide) rfl rq1 ?_
  refine c_st (st2 := [.ref (sk 2)]) rfl ?_
  refine c_get (k := 2) C ck_2 dX11_head_4 w1_44 (by decide) tsk2 rfl rfl (by decide) rfl ?_
  refine c_bipush (z := 40) C dX11_head_7 (by decide) ?_
  refine c_icmp_gt (tgt := 38) C ⟨by omega, by omega⟩ ⟨by decide, by decide⟩ dX11_head_9 (by decide) (fun c1 => ?_) (fun c1 => ?_)
  · refine c_iconst C dX11_head_38 ?_
    refine c_istore_n (lv2 := [(2, .int (iI 0)), (0, .ref a0), (1, .int (iI i))]) C dX11_head_39 (by decide) rfl ?_
    refine c_aload_n (j := 1) (x := a0) C dX11_head_40 rfl ?_
    obtain ⟨rb2, rq2, trb2⟩ := hW.ref t_a0 6 rfl rfl rfl
    have erb2 := hW.sk trb2 (by decide) rfl
    subst erb2
    refine c_getr (k := 6) C ck_12 dX11_head_41 w2_50 (by decide) t_a0 rfl rfl (by decide) rfl rq2 ?_
    refine c_st (st2 := [.ref (sk 15)]) rfl ?_
    refine d_callV (As := []) (rest := []) C hM (G_wclear (a0 := (sk 15)) hW hS tsk15  ) dX11_head_44 kV_X11_272 rfl tsk15 rfl rfl (by decide) ck_7 rfl (Nat.le_of_ble_eq_true rfl) ⟨(Nat.le_of_ble_eq_true rfl), (Nat.le_of_ble_eq_true rfl)⟩ hph hph (show 0 + 0 = 0 from rfl) (by decide) (fun rh1 Lh1 clh1 lnh1 ivh1 rvh1 h1 => ?_)
    obtain ⟨rfl, rfl, rfl, rfl, rfl, fl1, W1, exf1⟩ := h1
    have F1 := hF0.call hX0 fl1 rfl
    have mr1 := MRK.call hmr hW hS XT.refl fl1 rfl rfl
    refine c_st (st2 := []) rfl ?_
    have ri3 : 0 ≤ ivh1 (sk 15) 4 ∧ ivh1 (sk 15) 4 ≤ 500 := W1.int tsk15 4
    have gf1 : ivh1 (sk 15) 4 = 0 := exf1
    refine c_iconst C dX11_head_47 ?_
    refine c_istore_n (lv2 := [(3, .int (iI 0)), (2, .int (iI 0)), (0, .ref a0), (1, .int (iI i))]) C dX11_head_48 (by decide) rfl ?_
    have Lp1 : ∀ (nn : Nat) (fl k : Int) (Lb1 : List Nat) (clb1 lnb1 : Nat → Nat) (ivb1 : Nat → Nat → Int) (rvb1 : Nat → Nat → Option Nat) , 3001 - k < (nn : Int) → XT L cl ln Lb1 clb1 lnb1 → WT (g0 G) sk Lb1 clb1 lnb1 ivb1 rvb1 → fT [1, 2, 5, 35, 15, 50, 51, 52, 53, 54, 55] L cl iv rv ivb1 rvb1 → (fl = 0 ∨ fl = 1) → (0 ≤ k ∧ k ≤ 3000 ∧ k ≤ iv (sk 2) 2) → (ivb1 (sk 15) 4 = k) → ((fl = 0 ∧ k = 0) ∨ fl = 1) → (ivb1 (sk 2) 2 = iv (sk 2) 2) → (fl = 1 → iv (sk 2) 2 ≤ 40) → (HWD iv rv (sk 2) fl) → (∀ ss, CT iv rv (sk 2) ss → CT ivb1 rvb1 (sk 2) ss) → (LTA sk ln iv rv ivb1 rvb1 k) → (ivb1 a0 11 = iv a0 11) → (ivb1 a0 12 = iv a0 12) → (ivb1 a0 13 = iv a0 13) → (ivb1 a0 14 = iv a0 14) → (ivb1 a0 15 = iv a0 15) → (ivb1 a0 16 = iv a0 16) → (rvb1 a0 9 = rv a0 9) → (rvb1 a0 10 = rv a0 10) → cw p l e 8 ((PHM) + 0 - ((Phi (g0 G) sk) ln rv)) s m args below meth c G A 6 (MQ below (Qu G A (Qp G (Phi (g0 G) sk) ((Phi (g0 G) sk) ln rv) 0 (fun v L2 cl2 ln2 iv2 rv2 => ∃ f : Int, v = some (.int (iI f)) ∧ XT L cl ln L2 cl2 ln2 ∧ fT [1, 2, 5, 35, 15, 50, 51, 52, 53, 54, 55] L cl iv rv iv2 rv2 ∧ WT (g0 G) sk L2 cl2 ln2 iv2 rv2 ∧ (-2147483648 ≤ f ∧ f ≤ 2147483647) ∧ (True) ∧ iv2 a0 11 = iv a0 11 ∧ iv2 a0 12 = iv a0 12 ∧ iv2 a0 13 = iv a0 13 ∧ iv2 a0 14 = iv a0 14 ∧ iv2 a0 15 = iv a0 15 ∧ iv2 a0 16 = iv a0 16 ∧ iv2 (sk 2) 2 = 0 ∧ (HDX sk ln iv rv (iv a0 11) i f) ∧ rv2 a0 9 = rv a0 9 ∧ rv2 a0 10 = rv a0 10))) args s (((PHM) + 0 - ((Phi (g0 G) sk) ln rv)) / 16) ((PHM) + 0 - ((Phi (g0 G) sk) ln rv)) A) (Phi (g0 G) sk) ((Phi (g0 G) sk) ln rv) Lb1 clb1 lnb1 ivb1 rvb1 0 49 [(2, .int (iI fl)), (3, .int (iI k)), (0, .ref a0), (1, .int (iI i))] [] := by
      intro nn
      induction nn with
      | zero =>
        intro  fl k Lb1 clb1 lnb1 ivb1 rvb1 hm Xb1 Wb1 Fb1  hfl hk h15 hnm h22 hf40 hWD hCT hLT hkp11 hkp12 hkp13 hkp14 hkp15 hkp16 hkr9 hkr10
        have skb1 := Xb1.skl hS
        exact absurd hm (by omega)
      | succ nn ih1 =>
        intro  fl k Lb1 clb1 lnb1 ivb1 rvb1 hm Xb1 Wb1 Fb1  hfl hk h15 hnm h22 hf40 hWD hCT hLT hkp11 hkp12 hkp13 hkp14 hkp15 hkp16 hkr9 hkr10
        have skb1 := Xb1.skl hS
        have mrb1 := MRK.call hmr hW hS Xb1 Fb1 rfl rfl
        refine c_iload_n (j := 0) C dX11_head_49 rfl ?_
        refine c_if_eq (tgt := 86) C ⟨by omega, by omega⟩ dX11_head_50 (by decide) (fun c2 => ?_) (fun c2 => ?_)
        · refine c_aload_n (j := 2) (x := a0) C dX11_head_86 rfl ?_
          have ty1 := Xb1.ty t_a0
          obtain ⟨rb3, rq3, trb3⟩ := Wb1.ref ty1 0 rfl rfl rfl
          have erb3 := Wb1.sk trb3 (by decide) rfl
          subst erb3
          refine c_getr (k := 0) C ck_12 dX11_head_87 w2_44 (by decide) ty1 rfl rfl (by decide) rfl rq3 ?_
          refine c_st (st2 := [.ref (sk 2)]) rfl ?_
          have ty2 := Xb1.ty tsk2
          have ty3 := Xb1.ty tsk15
          have pl1 := Phi.le Wb1 skb1
          refine d_callV (As := []) (rest := []) C hM (C_clear_2 (a0 := (sk 2)) Wb1 skb1 ty2  ) dX11_head_90 kV_X11_164 rfl ty2 rfl rfl (by decide) ck_2 rfl (Nat.le_of_ble_eq_true rfl) ⟨(Nat.le_of_ble_eq_true rfl), (Nat.le_of_ble_eq_true rfl)⟩ hph pl1 (show 0 + 0 = 0 from rfl) (by decide) (fun rh2 Lh2 clh2 lnh2 ivh2 rvh2 h2 => ?_)
          obtain ⟨rfl, rfl, rfl, rfl, rfl, fl2, W2, exf2⟩ := h2
          have F2 := Fb1.call Xb1 fl2 rfl
          have mr2 := MRK.call mrb1 Wb1 skb1 XT.refl fl2 rfl rfl
          refine c_st (st2 := []) rfl ?_
          have ri4 : 0 ≤ ivh2 (sk 2) 2 ∧ ivh2 (sk 2) 2 ≤ 3000 := W2.int ty2 2
          have gf2 : ivh2 (sk 2) 2 = 0 := exf2
          have hLC := hLT.ni Wb1 fl2 rfl ty3
          have ri5 : 0 ≤ ivh2 (sk 15) 4 ∧ ivh2 (sk 15) 4 ≤ 500 := W2.int ty3 4
          have ie3 : ivh2 (sk 15) 4 = ivb1 (sk 15) 4 := fl2.i ty3 rfl 4
          refine c_iload_n (j := 0) C dX11_head_93 rfl ?_
          refine c_if_ne (tgt := 104) C ⟨by omega, by omega⟩ dX11_head_94 (by decide) (fun c3 => ?_) (fun c3 => ?_)
          · refine c_aload_n (j := 2) (x := a0) C dX11_head_104 rfl ?_
            obtain ⟨rb4, rq4, trb4⟩ := W2.ref ty1 4 rfl rfl rfl
            have erb4 := W2.sk trb4 (by decide) rfl
            subst erb4
            refine c_getr (k := 4) C ck_12 dX11_head_105 w2_48 (by decide) ty1 rfl rfl (by decide) rfl rq4 ?_
            refine c_st (st2 := [.ref (sk 13)]) rfl ?_
            refine c_iload_n (j := 3) C dX11_head_108 rfl ?_
            have ty4 := Xb1.ty tsk13
            refine d_callV (As := [.int (iI i)]) (rest := []) C hM (G_whole (a0 := (sk 13)) (i := i) W2 skb1 ty4 (by omega) mr2) dX11_head_109 kV_X11_231 rfl ty4 rfl rfl (by decide) ck_11 rfl (Nat.le_of_ble_eq_true rfl) ⟨(Nat.le_of_ble_eq_true rfl), (Nat.le_of_ble_eq_true rfl)⟩ hph pl1 (show 0 + 0 = 0 from rfl) (by decide) (fun rh3 Lh3 clh3 lnh3 ivh3 rvh3 h3 => ?_)
            obtain ⟨f3, rfl, rfl, rfl, rfl, rfl, rfl, rgf3, exf3⟩ := h3
            refine c_st (st2 := [(va_rf f3)]) rfl ?_
            have gf3 : WOX sk lnb1 ivh2 rvb1 i f3 := exf3
            refine c_astorer_n (r := f3) (lv2 := [(3, (va_rf f3)), (2, .int (iI fl)), (0, .ref a0), (1, .int (iI i))]) C dX11_head_112 (by decide) rfl ?_
            refine c_aloadr_n (j := 0) (r := f3) C dX11_head_113 rfl ?_
            refine c_ifnonnull (r := f3) (tgt := 123) C dX11_head_114 (by decide) (fun ob1 oq1 => ?_) (fun oq1 => ?_)
            · subst oq1
              have tob1 := rgf3 ob1 rfl
              have wkob1 := gf3
              refine c_lv (lv2 := [(3, .ref ob1), (2, .int (iI fl)), (0, .ref a0), (1, .int (iI i))]) [0, 1, 2, 3] rfl ?_
              refine c_st (st2 := []) rfl ?_
              refine c_aload_n (j := 2) (x := a0) C dX11_head_123 rfl ?_
              obtain ⟨rb5, rq5, trb5⟩ := W2.ref ty1 6 rfl rfl rfl
              have erb5 := W2.sk trb5 (by decide) rfl
              subst erb5
              refine c_getr (k := 6) C ck_12 dX11_head_124 w2_50 (by decide) ty1 rfl rfl (by decide) rfl rq5 ?_
              refine c_st (st2 := [.ref (sk 15)]) rfl ?_
              refine c_aload_n (j := 0) (x := ob1) C dX11_head_127 rfl ?_
              refine d_callV (As := [.ref ob1]) (rest := []) C hM (G_setBy (a0 := (sk 15)) (a1 := ob1) W2 skb1 ty3 tob1  ) dX11_head_128 kV_X11_253 rfl ty3 rfl rfl (by decide) ck_7 rfl (Nat.le_of_ble_eq_true rfl) ⟨(Nat.le_of_ble_eq_true rfl), (Nat.le_of_ble_eq_true rfl)⟩ hph pl1 (show 0 + 0 = 0 from rfl) (by decide) (fun rh4 Lh4 clh4 lnh4 ivh4 rvh4 h4 => ?_)
              obtain ⟨f4, rfl, rfl, rfl, rfl, rfl, fl4, W4, rgf4, exf4⟩ := h4
              have F3 := F2.call Xb1 fl4 rfl
              have mr3 := MRK.call mr2 W2 skb1 XT.refl fl4 rfl rfl
              refine c_st (st2 := [.int (iI f4)]) rfl ?_
              have ri6 : 0 ≤ ivh4 (sk 15) 4 ∧ ivh4 (sk 15) 4 ≤ 500 := W4.int ty3 4
              have ri7 : 0 ≤ ivh4 (sk 15) 7 ∧ ivh4 (sk 15) 7 ≤ 100000 := W4.int ty3 7
              have gf4 : ((f4 = 0 ∨ f4 = 6 ∨ f4 = 7) ∧ ivh4 (sk 15) 4 = ivh2 (sk 15) 4 ∧ (f4 = 0 → ivh4 (sk 15) 7 ≤ 200)) ∧ SBX sk lnb1 ivh2 rvb1 ivh4 (sk 15) ob1 f4 := exf4
              refine c_istore (lv2 := [(4, .int (iI f4)), (3, .ref ob1), (2, .int (iI fl)), (0, .ref a0), (1, .int (iI i))]) C dX11_head_131 (by decide) rfl ?_
              refine c_iload (j := 0) C dX11_head_133 rfl ?_
              refine c_if_eq (tgt := 152) C ⟨by omega, by omega⟩ dX11_head_135 (by decide) (fun c4 => ?_) (fun c4 => ?_)
              · refine c_aload_n (j := 3) (x := a0) C dX11_head_152 rfl ?_
                obtain ⟨rb6, rq6, trb6⟩ := W4.ref ty1 3 rfl rfl rfl
                have erb6 := W4.sk trb6 (by decide) rfl
                subst erb6
                refine c_getr (k := 3) C ck_12 dX11_head_153 w2_47 (by decide) ty1 rfl rfl (by decide) rfl rq6 ?_
                refine c_st (st2 := [.ref (sk 5)]) rfl ?_
                have ty5 := Xb1.ty tsk5
                refine d_callV (As := []) (rest := []) C hM (C_clear_5 (a0 := (sk 5)) W4 skb1 ty5  ) dX11_head_156 kV_X11_164 rfl ty5 rfl rfl (by decide) ck_2 rfl (Nat.le_of_ble_eq_true rfl) ⟨(Nat.le_of_ble_eq_true rfl), (Nat.le_of_ble_eq_true rfl)⟩ hph pl1 (show 0 + 0 = 0 from rfl) (by decide) (fun rh5 Lh5 clh5 lnh5 ivh5 rvh5 h5 => ?_)
                obtain ⟨rfl, rfl, rfl, rfl, rfl, fl5, W5, exf5⟩ := h5
                have F4 := F3.call Xb1 fl5 rfl
                have mr4 := MRK.call mr3 W4 skb1 XT.refl fl5 rfl rfl
                refine c_st (st2 := []) rfl ?_
                have ri8 : 0 ≤ ivh5 (sk 5) 2 ∧ ivh5 (sk 5) 2 ≤ 200 := W5.int ty5 2
                have gf5 : ivh5 (sk 5) 2 = 0 := exf5
                refine c_iconst C dX11_head_159 ?_
                refine c_istore (lv2 := [(5, .int (iI 0)), (4, .int (iI f4)), (3, .ref ob1), (2, .int (iI fl)), (0, .ref a0), (1, .int (iI i))]) C dX11_head_160 (by decide) rfl ?_
                have Lp2 : ∀ (nn : Nat) (k2 : Int) (Lb2 : List Nat) (clb2 lnb2 : Nat → Nat) (ivb2 : Nat → Nat → Int) (rvb2 : Nat → Nat → Option Nat) , 101 - k2 < (nn : Int) → XT L cl ln Lb2 clb2 lnb2 → WT (g0 G) sk Lb2 clb2 lnb2 ivb2 rvb2 → fT [1, 2, 5, 35, 15, 50, 51, 52, 53, 54, 55] L cl iv rv ivb2 rvb2 → (0 ≤ k2 ∧ k2 ≤ 100) → (ivb2 (sk 15) 7 ≤ 200) → (ivb2 (sk 2) 2 = 0) → (ivb2 (sk 5) 2 = k2) → (k2 ≤ ivb2 (sk 15) 7 ∧ k2 ≤ iv a0 11) → (HDP sk ln iv rv i (ivb2 (sk 15) 7)) → (ivb2 a0 11 = iv a0 11) → (ivb2 a0 12 = iv a0 12) → (ivb2 a0 13 = iv a0 13) → (ivb2 a0 14 = iv a0 14) → (ivb2 a0 15 = iv a0 15) → (ivb2 a0 16 = iv a0 16) → (rvb2 a0 9 = rv a0 9) → (rvb2 a0 10 = rv a0 10) → cw p l e 8 ((PHM) + 0 - ((Phi (g0 G) sk) ln rv)) s m args below meth c G A 6 (MQ below (Qu G A (Qp G (Phi (g0 G) sk) ((Phi (g0 G) sk) ln rv) 0 (fun v L2 cl2 ln2 iv2 rv2 => ∃ f : Int, v = some (.int (iI f)) ∧ XT L cl ln L2 cl2 ln2 ∧ fT [1, 2, 5, 35, 15, 50, 51, 52, 53, 54, 55] L cl iv rv iv2 rv2 ∧ WT (g0 G) sk L2 cl2 ln2 iv2 rv2 ∧ (-2147483648 ≤ f ∧ f ≤ 2147483647) ∧ (True) ∧ iv2 a0 11 = iv a0 11 ∧ iv2 a0 12 = iv a0 12 ∧ iv2 a0 13 = iv a0 13 ∧ iv2 a0 14 = iv a0 14 ∧ iv2 a0 15 = iv a0 15 ∧ iv2 a0 16 = iv a0 16 ∧ iv2 (sk 2) 2 = 0 ∧ (HDX sk ln iv rv (iv a0 11) i f) ∧ rv2 a0 9 = rv a0 9 ∧ rv2 a0 10 = rv a0 10))) args s (((PHM) + 0 - ((Phi (g0 G) sk) ln rv)) / 16) ((PHM) + 0 - ((Phi (g0 G) sk) ln rv)) A) (Phi (g0 G) sk) ((Phi (g0 G) sk) ln rv) Lb2 clb2 lnb2 ivb2 rvb2 0 162 [(5, .int (iI k2)), (4, .int (iI f4)), (3, .ref ob1), (2, .int (iI fl)), (0, .ref a0), (1, .int (iI i))] [] := by
                  intro nn
                  induction nn with
                  | zero =>
                    intro  k2 Lb2 clb2 lnb2 ivb2 rvb2 hm Xb2 Wb2 Fb2  hk2 hco htz h52 hk3 hHD hkp11 hkp12 hkp13 hkp14 hkp15 hkp16 hkr9 hkr10
                    have skb2 := Xb2.skl hS
                    exact absurd hm (by omega)
                  | succ nn ih2 =>
                    intro  k2 Lb2 clb2 lnb2 ivb2 rvb2 hm Xb2 Wb2 Fb2  hk2 hco htz h52 hk3 hHD hkp11 hkp12 hkp13 hkp14 hkp15 hkp16 hkr9 hkr10
                    have skb2 := Xb2.skl hS
                    have mrb2 := MRK.call hmr hW hS Xb2 Fb2 rfl rfl
                    refine c_iload (j := 0) C dX11_head_162 rfl ?_
                    refine c_aload_n (j := 4) (x := a0) C dX11_head_164 rfl ?_
                    have ty6 := Xb2.ty t_a0
                    obtain ⟨rb7, rq7, trb7⟩ := Wb2.ref ty6 6 rfl rfl rfl
                    have erb7 := Wb2.sk trb7 (by decide) rfl
                    subst erb7
                    refine c_getr (k := 6) C ck_12 dX11_head_165 w2_50 (by decide) ty6 rfl rfl (by decide) rfl rq7 ?_
                    refine c_st (st2 := [.ref (sk 15), .int (iI k2)]) rfl ?_
                    have ty7 := Xb2.ty tsk15
                    have ri9 : 0 ≤ ivb2 (sk 15) 7 ∧ ivb2 (sk 15) 7 ≤ 100000 := Wb2.int ty7 7
                    refine c_get (k := 7) C ck_7 dX11_head_168 w1_149 (by decide) ty7 rfl rfl (by decide) rfl ?_
                    refine c_icmp_ge (tgt := 206) C ⟨by omega, by omega⟩ ⟨by omega, by omega⟩ dX11_head_171 (by decide) (fun c5 => ?_) (fun c5 => ?_)
                    · refine c_aload_n (j := 4) (x := a0) C dX11_head_206 rfl ?_
                      refine c_aload_n (j := 4) (x := a0) C dX11_head_207 rfl ?_
                      obtain ⟨rb8, rq8, trb8⟩ := Wb2.ref ty6 3 rfl rfl rfl
                      have erb8 := Wb2.sk trb8 (by decide) rfl
                      subst erb8
                      refine c_getr (k := 3) C ck_12 dX11_head_208 w2_47 (by decide) ty6 rfl rfl (by decide) rfl rq8 ?_
                      refine c_st (st2 := [.ref (sk 5), .ref a0]) rfl ?_
                      have ty8 := Xb2.ty tsk5
                      have ri10 : 0 ≤ ivb2 (sk 5) 2 ∧ ivb2 (sk 5) 2 ≤ 200 := Wb2.int ty8 2
                      refine c_get (k := 2) C ck_2 dX11_head_211 w1_44 (by decide) ty8 rfl rfl (by decide) rfl ?_
                      have pl2 := Phi.le Wb2 skb2
                      refine d_callV (As := [.int (iI (ivb2 (sk 5) 2))]) (rest := []) C hM (C_done (a0 := a0) (x := ivb2 (sk 5) 2) Wb2 skb2 ty6 (by omega) ) dX11_head_214 kV_X11_109 rfl ty6 rfl rfl (by decide) ck_12 rfl (Nat.le_of_ble_eq_true rfl) ⟨(Nat.le_of_ble_eq_true rfl), (Nat.le_of_ble_eq_true rfl)⟩ hph pl2 (show 0 + 0 = 0 from rfl) (by decide) (fun rh6 Lh6 clh6 lnh6 ivh6 rvh6 h6 => ?_)
                      obtain ⟨f6, rfl, rfl, rfl, rfl, rfl, fl6, W6, rgf6, exf6, kp11f6, kp12f6, kp13f6, kp14f6, kp15f6, kp16f6⟩ := h6
                      have ri11 : 1 ≤ ivb2 a0 11 ∧ ivb2 a0 11 ≤ 100 := Wb2.int ty6 11
                      have ri12 : 1 ≤ ivb2 a0 12 ∧ ivb2 a0 12 ≤ 50 := Wb2.int ty6 12
                      have ri13 : (-2147483648) ≤ ivb2 a0 13 ∧ ivb2 a0 13 ≤ 2147483647 := Wb2.int ty6 13
                      have ri14 : (-2147483648) ≤ ivb2 a0 14 ∧ ivb2 a0 14 ≤ 2147483647 := Wb2.int ty6 14
                      have ri15 : (-2147483648) ≤ ivb2 a0 15 ∧ ivb2 a0 15 ≤ 2147483647 := Wb2.int ty6 15
                      have ri16 : (-2147483648) ≤ ivb2 a0 16 ∧ ivb2 a0 16 ≤ 2147483647 := Wb2.int ty6 16
                      have F5 := Fb2.call Xb2 fl6 rfl
                      have mr5 := MRK.call mrb2 Wb2 skb2 XT.refl fl6 rfl rfl
                      refine c_st (st2 := [.int (iI f6)]) rfl ?_
                      have gk11f6 : ivh6 a0 11 = ivb2 a0 11 := kp11f6
                      have gk12f6 : ivh6 a0 12 = ivb2 a0 12 := kp12f6
                      have gk13f6 : ivh6 a0 13 = ivb2 a0 13 := kp13f6
                      have gk14f6 : ivh6 a0 14 = ivb2 a0 14 := kp14f6
                      have gk15f6 : ivh6 a0 15 = ivb2 a0 15 := kp15f6
                      have gk16f6 : ivh6 a0 16 = ivb2 a0 16 := kp16f6
                      have gf6 : f6 = (ivb2 (sk 5) 2) := exf6
                      have ty9 := Xb2.ty tsk2
                      have ri17 : 0 ≤ ivh6 (sk 2) 2 ∧ ivh6 (sk 2) 2 ≤ 3000 := W6.int ty9 2
                      have ie16 : ivh6 (sk 2) 2 = ivb2 (sk 2) 2 := fl6.i ty9 rfl 2
                      have ri18 : 1 ≤ ivh6 a0 11 ∧ ivh6 a0 11 ≤ 100 := W6.int ty6 11
                      have ri19 : 1 ≤ ivh6 a0 12 ∧ ivh6 a0 12 ≤ 50 := W6.int ty6 12
                      have ri20 : (-2147483648) ≤ ivh6 a0 13 ∧ ivh6 a0 13 ≤ 2147483647 := W6.int ty6 13
                      have ri21 : (-2147483648) ≤ ivh6 a0 14 ∧ ivh6 a0 14 ≤ 2147483647 := W6.int ty6 14
                      have ri22 : (-2147483648) ≤ ivh6 a0 15 ∧ ivh6 a0 15 ≤ 2147483647 := W6.int ty6 15
                      have ri23 : (-2147483648) ≤ ivh6 a0 16 ∧ ivh6 a0 16 ≤ 2147483647 := W6.int ty6 16
                      have ri24 : 0 ≤ ivh6 (sk 15) 7 ∧ ivh6 (sk 15) 7 ≤ 100000 := W6.int ty7 7
                      have ie24 : ivh6 (sk 15) 7 = ivb2 (sk 15) 7 := fl6.i ty7 rfl 7
                      have ri25 : 0 ≤ ivh6 (sk 5) 2 ∧ ivh6 (sk 5) 2 ≤ 200 := W6.int ty8 2
                      have ie25 : ivh6 (sk 5) 2 = ivb2 (sk 5) 2 := fl6.i ty8 rfl 2
                      exact c_iret C dX11_head_217 rfl (by decide) (rom0 hph pl2 (by decide)) ⟨f6, rfl, Xb2, F5, W6, ⟨by omega, by omega⟩, trivial, (by omega), (by omega), (by omega), (by omega), (by omega), (by omega), (by omega), (HDX.ok hHD (by omega)), (show rvb2 a0 9 = rv a0 9 from hkr9), (show rvb2 a0 10 = rv a0 10 from hkr10)⟩
                    · refine c_iload (j := 0) C dX11_head_174 rfl ?_
                      refine c_aload_n (j := 4) (x := a0) C dX11_head_176 rfl ?_
                      have ri26 : 1 ≤ ivb2 a0 11 ∧ ivb2 a0 11 ≤ 100 := Wb2.int ty6 11
                      refine c_get (k := 11) C ck_12 dX11_head_177 w2_55 (by decide) ty6 rfl rfl (by decide) rfl ?_
                      refine c_icmp_ge (tgt := 206) C ⟨by omega, by omega⟩ ⟨by omega, by omega⟩ dX11_head_180 (by decide) (fun c6 => ?_) (fun c6 => ?_)
                      · refine c_aload_n (j := 4) (x := a0) C dX11_head_206 rfl ?_
                        refine c_aload_n (j := 4) (x := a0) C dX11_head_207 rfl ?_
                        obtain ⟨rb9, rq9, trb9⟩ := Wb2.ref ty6 3 rfl rfl rfl
                        have erb9 := Wb2.sk trb9 (by decide) rfl
                        subst erb9
                        refine c_getr (k := 3) C ck_12 dX11_head_208 w2_47 (by decide) ty6 rfl rfl (by decide) rfl rq9 ?_
                        refine c_st (st2 := [.ref (sk 5), .ref a0]) rfl ?_
                        have ty10 := Xb2.ty tsk5
                        have ri27 : 0 ≤ ivb2 (sk 5) 2 ∧ ivb2 (sk 5) 2 ≤ 200 := Wb2.int ty10 2
                        refine c_get (k := 2) C ck_2 dX11_head_211 w1_44 (by decide) ty10 rfl rfl (by decide) rfl ?_
                        have pl3 := Phi.le Wb2 skb2
                        refine d_callV (As := [.int (iI (ivb2 (sk 5) 2))]) (rest := []) C hM (C_done (a0 := a0) (x := ivb2 (sk 5) 2) Wb2 skb2 ty6 (by omega) ) dX11_head_214 kV_X11_109 rfl ty6 rfl rfl (by decide) ck_12 rfl (Nat.le_of_ble_eq_true rfl) ⟨(Nat.le_of_ble_eq_true rfl), (Nat.le_of_ble_eq_true rfl)⟩ hph pl3 (show 0 + 0 = 0 from rfl) (by decide) (fun rh7 Lh7 clh7 lnh7 ivh7 rvh7 h7 => ?_)
                        obtain ⟨f7, rfl, rfl, rfl, rfl, rfl, fl7, W7, rgf7, exf7, kp11f7, kp12f7, kp13f7, kp14f7, kp15f7, kp16f7⟩ := h7
                        have ri28 : 1 ≤ ivb2 a0 12 ∧ ivb2 a0 12 ≤ 50 := Wb2.int ty6 12
                        have ri29 : (-2147483648) ≤ ivb2 a0 13 ∧ ivb2 a0 13 ≤ 2147483647 := Wb2.int ty6 13
                        have ri30 : (-2147483648) ≤ ivb2 a0 14 ∧ ivb2 a0 14 ≤ 2147483647 := Wb2.int ty6 14
                        have ri31 : (-2147483648) ≤ ivb2 a0 15 ∧ ivb2 a0 15 ≤ 2147483647 := Wb2.int ty6 15
                        have ri32 : (-2147483648) ≤ ivb2 a0 16 ∧ ivb2 a0 16 ≤ 2147483647 := Wb2.int ty6 16
                        have F6 := Fb2.call Xb2 fl7 rfl
                        have mr6 := MRK.call mrb2 Wb2 skb2 XT.refl fl7 rfl rfl
                        refine c_st (st2 := [.int (iI f7)]) rfl ?_
                        have gk11f7 : ivh7 a0 11 = ivb2 a0 11 := kp11f7
                        have gk12f7 : ivh7 a0 12 = ivb2 a0 12 := kp12f7
                        have gk13f7 : ivh7 a0 13 = ivb2 a0 13 := kp13f7
                        have gk14f7 : ivh7 a0 14 = ivb2 a0 14 := kp14f7
                        have gk15f7 : ivh7 a0 15 = ivb2 a0 15 := kp15f7
                        have gk16f7 : ivh7 a0 16 = ivb2 a0 16 := kp16f7
                        have gf7 : f7 = (ivb2 (sk 5) 2) := exf7
                        have ty11 := Xb2.ty tsk2
                        have ri33 : 0 ≤ ivh7 (sk 2) 2 ∧ ivh7 (sk 2) 2 ≤ 3000 := W7.int ty11 2
                        have ie33 : ivh7 (sk 2) 2 = ivb2 (sk 2) 2 := fl7.i ty11 rfl 2
                        have ri34 : 1 ≤ ivh7 a0 11 ∧ ivh7 a0 11 ≤ 100 := W7.int ty6 11
                        have ri35 : 1 ≤ ivh7 a0 12 ∧ ivh7 a0 12 ≤ 50 := W7.int ty6 12
                        have ri36 : (-2147483648) ≤ ivh7 a0 13 ∧ ivh7 a0 13 ≤ 2147483647 := W7.int ty6 13
                        have ri37 : (-2147483648) ≤ ivh7 a0 14 ∧ ivh7 a0 14 ≤ 2147483647 := W7.int ty6 14
                        have ri38 : (-2147483648) ≤ ivh7 a0 15 ∧ ivh7 a0 15 ≤ 2147483647 := W7.int ty6 15
                        have ri39 : (-2147483648) ≤ ivh7 a0 16 ∧ ivh7 a0 16 ≤ 2147483647 := W7.int ty6 16
                        have ri40 : 0 ≤ ivh7 (sk 15) 7 ∧ ivh7 (sk 15) 7 ≤ 100000 := W7.int ty7 7
                        have ie41 : ivh7 (sk 15) 7 = ivb2 (sk 15) 7 := fl7.i ty7 rfl 7
                        have ri41 : 0 ≤ ivh7 (sk 5) 2 ∧ ivh7 (sk 5) 2 ≤ 200 := W7.int ty10 2
                        have ie42 : ivh7 (sk 5) 2 = ivb2 (sk 5) 2 := fl7.i ty10 rfl 2
                        exact c_iret C dX11_head_217 rfl (by decide) (rom0 hph pl3 (by decide)) ⟨f7, rfl, Xb2, F6, W7, ⟨by omega, by omega⟩, trivial, (by omega), (by omega), (by omega), (by omega), (by omega), (by omega), (by omega), (HDX.ok hHD (by omega)), (show rvb2 a0 9 = rv a0 9 from hkr9), (show rvb2 a0 10 = rv a0 10 from hkr10)⟩
                      · refine c_aload_n (j := 4) (x := a0) C dX11_head_183 rfl ?_
                        obtain ⟨rb10, rq10, trb10⟩ := Wb2.ref ty6 3 rfl rfl rfl
                        have erb10 := Wb2.sk trb10 (by decide) rfl
                        subst erb10
                        refine c_getr (k := 3) C ck_12 dX11_head_184 w2_47 (by decide) ty6 rfl rfl (by decide) rfl rq10 ?_
                        refine c_st (st2 := [.ref (sk 5)]) rfl ?_
                        refine c_aload_n (j := 4) (x := a0) C dX11_head_187 rfl ?_
                        refine c_getr (k := 6) C ck_12 dX11_head_188 w2_50 (by decide) ty6 rfl rfl (by decide) rfl rq7 ?_
                        refine c_st (st2 := [.ref (sk 15), .ref (sk 5)]) rfl ?_
                        obtain ⟨rb11, rq11, trb11⟩ := Wb2.ref ty7 6 rfl rfl rfl
                        have lnrb11 : 200 ≤ lnb2 rb11 ∧ lnb2 rb11 ≤ 200 := Wb2.len trb11 rfl
                        refine c_getr (k := 6) C ck_7 dX11_head_191 w1_146 (by decide) ty7 rfl rfl (by decide) rfl rq11 ?_
                        refine c_st (st2 := [.ref rb11, .ref (sk 5)]) rfl ?_
                        refine c_iload (j := 0) C dX11_head_194 rfl ?_
                        have ll1 : 200 ≤ lnb2 rb11 ∧ lnb2 rb11 ≤ 200 := Wb2.len trb11 rfl
                        refine c_iald C dX11_head_196 trb11 rfl (by omega) (by omega) (by omega) ?_
                        have ri42 : (-2147483648) ≤ ivb2 rb11 k2.toNat ∧ ivb2 rb11 k2.toNat ≤ 2147483647 := Wb2.int trb11 k2.toNat
                        have ty12 := Xb2.ty tsk5
                        have ri43 : 0 ≤ ivb2 (sk 5) 2 ∧ ivb2 (sk 5) 2 ≤ 200 := Wb2.int ty12 2
                        have pl4 := Phi.le Wb2 skb2
                        refine d_callV (As := [.int (iI (ivb2 rb11 k2.toNat))]) (rest := []) C hM (C_add_5 (a0 := (sk 5)) (x := ivb2 rb11 k2.toNat) Wb2 skb2 ty12 (by omega) ) dX11_head_197 kV_X11_112 rfl ty12 rfl rfl (by decide) ck_2 rfl (Nat.le_of_ble_eq_true rfl) ⟨(Nat.le_of_ble_eq_true rfl), (Nat.le_of_ble_eq_true rfl)⟩ hph pl4 (show 0 + 0 = 0 from rfl) (by decide) (fun rh8 Lh8 clh8 lnh8 ivh8 rvh8 h8 => ?_)
                        obtain ⟨rfl, xl8, fl8, W8, exf8⟩ := h8
                        have F7 := Fb2.call Xb2 fl8 rfl
                        have mr7 := MRK.call mrb2 Wb2 skb2 xl8 fl8 rfl rfl
                        have ty13 := Xb2.ty tsk2
                        have ty14 := Xb2.ty tsk3
                        have ty15 := Xb2.ty tsk4
                        have ty16 := Xb2.ty tsk13
                        have ty17 := Xb2.ty tsk14
                        have ty18 := Xb2.ty tsk16
                        have ty19 := Xb2.ty tsk17
                        have ty20 := Xb2.ty tsk22
                        have ty21 := Xb2.ty tsk23
                        have X1 := Xb2.trans xl8
                        have sk1 := xl8.skl skb2
                        refine c_st (st2 := []) rfl ?_
                        have ty22 := xl8.ty ty12
                        have ri44 : 0 ≤ ivh8 (sk 5) 2 ∧ ivh8 (sk 5) 2 ≤ 200 := W8.int ty22 2
                        have gf8 : ((ivh8 (sk 5) 2 = ivb2 (sk 5) 2 ∧ ivb2 (sk 5) 2 = 200) ∨ (ivh8 (sk 5) 2 = ivb2 (sk 5) 2 + 1 ∧ ivb2 (sk 5) 2 < 200)) := exf8
                        refine c_iinc (z := k2) (j := 0) (lv2 := [(5, .int (iI (k2 + 1))), (4, .int (iI f4)), (3, .ref ob1), (2, .int (iI fl)), (0, .ref a0), (1, .int (iI i))]) C dX11_head_200 rfl (by decide) rfl ?_
                        refine c_goto (tgt := 162) C dX11_head_203 (by decide) ?_
                        have ty23 := xl8.ty ty7
                        have ri45 : 0 ≤ ivh8 (sk 15) 7 ∧ ivh8 (sk 15) 7 ≤ 100000 := W8.int ty23 7
                        have ie46 : ivh8 (sk 15) 7 = ivb2 (sk 15) 7 := fl8.i ty7 rfl 7
                        have ty24 := xl8.ty ty13
                        have ri46 : 0 ≤ ivh8 (sk 2) 2 ∧ ivh8 (sk 2) 2 ≤ 3000 := W8.int ty24 2
                        have ie47 : ivh8 (sk 2) 2 = ivb2 (sk 2) 2 := fl8.i ty13 rfl 2
                        have ty25 := xl8.ty ty6
                        have ri47 : 1 ≤ ivh8 a0 11 ∧ ivh8 a0 11 ≤ 100 := W8.int ty25 11
                        have ie49 : ivh8 a0 11 = ivb2 a0 11 := fl8.i ty6 rfl 11
                        have ri48 : 1 ≤ ivh8 a0 12 ∧ ivh8 a0 12 ≤ 50 := W8.int ty25 12
                        have ie50 : ivh8 a0 12 = ivb2 a0 12 := fl8.i ty6 rfl 12
                        have ri49 : (-2147483648) ≤ ivh8 a0 13 ∧ ivh8 a0 13 ≤ 2147483647 := W8.int ty25 13
                        have ie52 : ivh8 a0 13 = ivb2 a0 13 := fl8.i ty6 rfl 13
                        have ri50 : (-2147483648) ≤ ivh8 a0 14 ∧ ivh8 a0 14 ≤ 2147483647 := W8.int ty25 14
                        have ie54 : ivh8 a0 14 = ivb2 a0 14 := fl8.i ty6 rfl 14
                        have ri51 : (-2147483648) ≤ ivh8 a0 15 ∧ ivh8 a0 15 ≤ 2147483647 := W8.int ty25 15
                        have ie56 : ivh8 a0 15 = ivb2 a0 15 := fl8.i ty6 rfl 15
                        have ri52 : (-2147483648) ≤ ivh8 a0 16 ∧ ivh8 a0 16 ≤ 2147483647 := W8.int ty25 16
                        have ie58 : ivh8 a0 16 = ivb2 a0 16 := fl8.i ty6 rfl 16
                        refine c_lv (lv2 := [(5, .int (iI (k2 + 1))), (4, .int (iI f4)), (3, .ref ob1), (2, .int (iI fl)), (0, .ref a0), (1, .int (iI i))]) [0, 1, 2, 3, 4, 5] rfl ?_
                        exact ih2  (k2 + 1) _ _ _ _ _ (by omega) X1 W8 F7  (by omega) (by show ivh8 (sk 15) 7 ≤ 200; omega) (by show ivh8 (sk 2) 2 = 0; omega) (by show ivh8 (sk 5) 2 = (k2 + 1); omega) (by show (k2 + 1) ≤ ivh8 (sk 15) 7 ∧ (k2 + 1) ≤ iv a0 11; omega) (by rw [show ivh8 (sk 15) 7 = ivb2 (sk 15) 7 by omega]; exact hHD) (by show ivh8 a0 11 = iv a0 11; omega) (by show ivh8 a0 12 = iv a0 12; omega) (by show ivh8 a0 13 = iv a0 13; omega) (by show ivh8 a0 14 = iv a0 14; omega) (by show ivh8 a0 15 = iv a0 15; omega) (by show ivh8 a0 16 = iv a0 16; omega) (Eq.trans (show rvh8 a0 9 = rvb2 a0 9 from (fl8.r ty6 rfl 9)) (show rvb2 a0 9 = rv a0 9 from hkr9)) (Eq.trans (show rvh8 a0 10 = rvb2 a0 10 from (fl8.r ty6 rfl 10)) (show rvb2 a0 10 = rv a0 10 from hkr10))
                have ri53 : 0 ≤ ivh5 (sk 15) 7 ∧ ivh5 (sk 15) 7 ≤ 100000 := W5.int ty3 7
                have ie60 : ivh5 (sk 15) 7 = ivh4 (sk 15) 7 := fl5.i ty3 rfl 7
                have ri54 : 0 ≤ ivh5 (sk 2) 2 ∧ ivh5 (sk 2) 2 ≤ 3000 := W5.int ty2 2
                have ie61 : ivh5 (sk 2) 2 = ivh4 (sk 2) 2 := fl5.i ty2 rfl 2
                have ie62 : ivh4 (sk 2) 2 = ivh2 (sk 2) 2 := fl4.i ty2 rfl 2
                have ri55 : 1 ≤ ivh5 a0 11 ∧ ivh5 a0 11 ≤ 100 := W5.int ty1 11
                have ie63 : ivh5 a0 11 = ivh4 a0 11 := fl5.i ty1 rfl 11
                have ie64 : ivh4 a0 11 = ivh2 a0 11 := fl4.i ty1 rfl 11
                have ie65 : ivh2 a0 11 = ivb1 a0 11 := fl2.i ty1 rfl 11
                have ri56 : 1 ≤ ivh5 a0 12 ∧ ivh5 a0 12 ≤ 50 := W5.int ty1 12
                have ie67 : ivh5 a0 12 = ivh4 a0 12 := fl5.i ty1 rfl 12
                have ie68 : ivh4 a0 12 = ivh2 a0 12 := fl4.i ty1 rfl 12
                have ie69 : ivh2 a0 12 = ivb1 a0 12 := fl2.i ty1 rfl 12
                have ri57 : (-2147483648) ≤ ivh5 a0 13 ∧ ivh5 a0 13 ≤ 2147483647 := W5.int ty1 13
                have ie71 : ivh5 a0 13 = ivh4 a0 13 := fl5.i ty1 rfl 13
                have ie72 : ivh4 a0 13 = ivh2 a0 13 := fl4.i ty1 rfl 13
                have ie73 : ivh2 a0 13 = ivb1 a0 13 := fl2.i ty1 rfl 13
                have ri58 : (-2147483648) ≤ ivh5 a0 14 ∧ ivh5 a0 14 ≤ 2147483647 := W5.int ty1 14
                have ie75 : ivh5 a0 14 = ivh4 a0 14 := fl5.i ty1 rfl 14
                have ie76 : ivh4 a0 14 = ivh2 a0 14 := fl4.i ty1 rfl 14
                have ie77 : ivh2 a0 14 = ivb1 a0 14 := fl2.i ty1 rfl 14
                have ri59 : (-2147483648) ≤ ivh5 a0 15 ∧ ivh5 a0 15 ≤ 2147483647 := W5.int ty1 15
                have ie79 : ivh5 a0 15 = ivh4 a0 15 := fl5.i ty1 rfl 15
                have ie80 : ivh4 a0 15 = ivh2 a0 15 := fl4.i ty1 rfl 15
                have ie81 : ivh2 a0 15 = ivb1 a0 15 := fl2.i ty1 rfl 15
                have ri60 : (-2147483648) ≤ ivh5 a0 16 ∧ ivh5 a0 16 ≤ 2147483647 := W5.int ty1 16
                have ie83 : ivh5 a0 16 = ivh4 a0 16 := fl5.i ty1 rfl 16
                have ie84 : ivh4 a0 16 = ivh2 a0 16 := fl4.i ty1 rfl 16
                have ie85 : ivh2 a0 16 = ivb1 a0 16 := fl2.i ty1 rfl 16
                refine c_lv (lv2 := [(5, .int (iI 0)), (4, .int (iI f4)), (3, .ref ob1), (2, .int (iI fl)), (0, .ref a0), (1, .int (iI i))]) [0, 1, 2, 3, 4, 5] rfl ?_
                exact Lp2 103 0 _ _ _ _ _ (by omega) Xb1 W5 F4  (by omega) (by show ivh5 (sk 15) 7 ≤ 200; omega) (by show ivh5 (sk 2) 2 = 0; omega) (by show ivh5 (sk 5) 2 = 0; omega) (by show 0 ≤ ivh5 (sk 15) 7 ∧ 0 ≤ iv a0 11; omega) (HDP.mk wkob1 (QT.of hW hS Xb1 F2 rfl rfl rfl rfl rfl) hLC (by omega) (by omega) hWD (by omega) gf4.2 (by omega) (by omega)) (by show ivh5 a0 11 = iv a0 11; omega) (by show ivh5 a0 12 = iv a0 12; omega) (by show ivh5 a0 13 = iv a0 13; omega) (by show ivh5 a0 14 = iv a0 14; omega) (by show ivh5 a0 15 = iv a0 15; omega) (by show ivh5 a0 16 = iv a0 16; omega) (show rvb1 a0 9 = rv a0 9 from hkr9) (show rvb1 a0 10 = rv a0 10 from hkr10)
              · refine c_aload_n (j := 3) (x := a0) C dX11_head_138 rfl ?_
                refine c_iload (j := 0) C dX11_head_139 rfl ?_
                refine c_aload_n (j := 3) (x := a0) C dX11_head_141 rfl ?_
                refine c_getr (k := 6) C ck_12 dX11_head_142 w2_50 (by decide) ty1 rfl rfl (by decide) rfl rq5 ?_
                refine c_st (st2 := [.ref (sk 15), .int (iI f4), .ref a0]) rfl ?_
                refine d_callV (As := []) (rest := [.int (iI f4), .ref a0]) C hM (C_placeOfUnknown (a0 := (sk 15)) W4 skb1 ty3  ) dX11_head_145 kV_X11_263 rfl ty3 rfl rfl (by decide) ck_7 rfl (Nat.le_of_ble_eq_true rfl) ⟨(Nat.le_of_ble_eq_true rfl), (Nat.le_of_ble_eq_true rfl)⟩ hph pl1 (show 0 + 0 = 0 from rfl) (by decide) (fun rh9 Lh9 clh9 lnh9 ivh9 rvh9 h9 => ?_)
                obtain ⟨f9, rfl, rfl, rfl, rfl, rfl, rfl, rgf9, exf9⟩ := h9
                refine c_st (st2 := [.int (iI f9), .int (iI f4), .ref a0]) rfl ?_
                refine d_callV (As := [.int (iI f4), .int (iI f9)]) (rest := []) C hM (C_refuseAt (a0 := a0) (x := f4) (y := f9) W4 skb1 ty1 (by omega) (by omega) ) dX11_head_148 kV_X11_266 rfl ty1 rfl rfl (by decide) ck_12 rfl (Nat.le_of_ble_eq_true rfl) ⟨(Nat.le_of_ble_eq_true rfl), (Nat.le_of_ble_eq_true rfl)⟩ hph pl1 (show 0 + 0 = 0 from rfl) (by decide) (fun rh10 Lh10 clh10 lnh10 ivh10 rvh10 h10 => ?_)
                obtain ⟨f10, rfl, rfl, rfl, rfl, rfl, fl10, W10, rgf10, exf10, kp11f10, kp12f10, kp13f10, kp14f10, kp15f10, kp16f10⟩ := h10
                have ri61 : 1 ≤ ivh4 a0 11 ∧ ivh4 a0 11 ≤ 100 := W4.int ty1 11
                have ie87 : ivh4 a0 11 = ivh2 a0 11 := fl4.i ty1 rfl 11
                have ie88 : ivh2 a0 11 = ivb1 a0 11 := fl2.i ty1 rfl 11
                have ri62 : 1 ≤ ivh4 a0 12 ∧ ivh4 a0 12 ≤ 50 := W4.int ty1 12
                have ie90 : ivh4 a0 12 = ivh2 a0 12 := fl4.i ty1 rfl 12
                have ie91 : ivh2 a0 12 = ivb1 a0 12 := fl2.i ty1 rfl 12
                have ri63 : (-2147483648) ≤ ivh4 a0 13 ∧ ivh4 a0 13 ≤ 2147483647 := W4.int ty1 13
                have ie93 : ivh4 a0 13 = ivh2 a0 13 := fl4.i ty1 rfl 13
                have ie94 : ivh2 a0 13 = ivb1 a0 13 := fl2.i ty1 rfl 13
                have ri64 : (-2147483648) ≤ ivh4 a0 14 ∧ ivh4 a0 14 ≤ 2147483647 := W4.int ty1 14
                have ie96 : ivh4 a0 14 = ivh2 a0 14 := fl4.i ty1 rfl 14
                have ie97 : ivh2 a0 14 = ivb1 a0 14 := fl2.i ty1 rfl 14
                have ri65 : (-2147483648) ≤ ivh4 a0 15 ∧ ivh4 a0 15 ≤ 2147483647 := W4.int ty1 15
                have ie99 : ivh4 a0 15 = ivh2 a0 15 := fl4.i ty1 rfl 15
                have ie100 : ivh2 a0 15 = ivb1 a0 15 := fl2.i ty1 rfl 15
                have ri66 : (-2147483648) ≤ ivh4 a0 16 ∧ ivh4 a0 16 ≤ 2147483647 := W4.int ty1 16
                have ie102 : ivh4 a0 16 = ivh2 a0 16 := fl4.i ty1 rfl 16
                have ie103 : ivh2 a0 16 = ivb1 a0 16 := fl2.i ty1 rfl 16
                have F8 := F3.call Xb1 fl10 rfl
                have mr8 := MRK.call mr3 W4 skb1 XT.refl fl10 rfl rfl
                refine c_st (st2 := [.int (iI f10)]) rfl ?_
                have gk11f10 : ivh10 a0 11 = ivh4 a0 11 := kp11f10
                have gk12f10 : ivh10 a0 12 = ivh4 a0 12 := kp12f10
                have gk13f10 : ivh10 a0 13 = ivh4 a0 13 := kp13f10
                have gk14f10 : ivh10 a0 14 = ivh4 a0 14 := kp14f10
                have gk15f10 : ivh10 a0 15 = ivh4 a0 15 := kp15f10
                have gk16f10 : ivh10 a0 16 = ivh4 a0 16 := kp16f10
                have gf10 : f10 = -1 := exf10
                have ri67 : 0 ≤ ivh10 (sk 2) 2 ∧ ivh10 (sk 2) 2 ≤ 3000 := W10.int ty2 2
                have ie105 : ivh10 (sk 2) 2 = ivh4 (sk 2) 2 := fl10.i ty2 rfl 2
                have ie106 : ivh4 (sk 2) 2 = ivh2 (sk 2) 2 := fl4.i ty2 rfl 2
                have ri68 : 1 ≤ ivh10 a0 11 ∧ ivh10 a0 11 ≤ 100 := W10.int ty1 11
                have ri69 : 1 ≤ ivh10 a0 12 ∧ ivh10 a0 12 ≤ 50 := W10.int ty1 12
                have ri70 : (-2147483648) ≤ ivh10 a0 13 ∧ ivh10 a0 13 ≤ 2147483647 := W10.int ty1 13
                have ri71 : (-2147483648) ≤ ivh10 a0 14 ∧ ivh10 a0 14 ≤ 2147483647 := W10.int ty1 14
                have ri72 : (-2147483648) ≤ ivh10 a0 15 ∧ ivh10 a0 15 ≤ 2147483647 := W10.int ty1 15
                have ri73 : (-2147483648) ≤ ivh10 a0 16 ∧ ivh10 a0 16 ≤ 2147483647 := W10.int ty1 16
                exact c_iret C dX11_head_151 rfl (by decide) (rom0 hph pl1 (by decide)) ⟨f10, rfl, Xb1, F8, W10, ⟨by omega, by omega⟩, trivial, (by omega), (by omega), (by omega), (by omega), (by omega), (by omega), (by omega), (HDX.ns wkob1 (QT.of hW hS Xb1 F2 rfl rfl rfl rfl rfl) hLC (by omega) (by omega) gf4.2 (by omega) (by omega)), (show rvb1 a0 9 = rv a0 9 from hkr9), (show rvb1 a0 10 = rv a0 10 from hkr10)⟩
            · subst oq1
              refine c_lv (lv2 := [(3, .null), (2, .int (iI fl)), (0, .ref a0), (1, .int (iI i))]) [0, 1, 2, 3] rfl ?_
              refine c_st (st2 := []) rfl ?_
              refine c_aload_n (j := 2) (x := a0) C dX11_head_117 rfl ?_
              refine c_iconst C dX11_head_118 ?_
              refine d_callV (As := [.int (iI 3)]) (rest := []) C hM (C_refuse (a0 := a0) (x := 3) W2 skb1 ty1 ⟨by decide, by decide⟩ ) dX11_head_119 kV_X11_102 rfl ty1 rfl rfl (by decide) ck_12 rfl (Nat.le_of_ble_eq_true rfl) ⟨(Nat.le_of_ble_eq_true rfl), (Nat.le_of_ble_eq_true rfl)⟩ hph pl1 (show 0 + 0 = 0 from rfl) (by decide) (fun rh11 Lh11 clh11 lnh11 ivh11 rvh11 h11 => ?_)
              obtain ⟨f11, rfl, rfl, rfl, rfl, rfl, fl11, W11, rgf11, exf11, kp11f11, kp12f11, kp13f11, kp14f11, kp15f11, kp16f11⟩ := h11
              have ri74 : 1 ≤ ivh2 a0 11 ∧ ivh2 a0 11 ≤ 100 := W2.int ty1 11
              have ie113 : ivh2 a0 11 = ivb1 a0 11 := fl2.i ty1 rfl 11
              have ri75 : 1 ≤ ivh2 a0 12 ∧ ivh2 a0 12 ≤ 50 := W2.int ty1 12
              have ie115 : ivh2 a0 12 = ivb1 a0 12 := fl2.i ty1 rfl 12
              have ri76 : (-2147483648) ≤ ivh2 a0 13 ∧ ivh2 a0 13 ≤ 2147483647 := W2.int ty1 13
              have ie117 : ivh2 a0 13 = ivb1 a0 13 := fl2.i ty1 rfl 13
              have ri77 : (-2147483648) ≤ ivh2 a0 14 ∧ ivh2 a0 14 ≤ 2147483647 := W2.int ty1 14
              have ie119 : ivh2 a0 14 = ivb1 a0 14 := fl2.i ty1 rfl 14
              have ri78 : (-2147483648) ≤ ivh2 a0 15 ∧ ivh2 a0 15 ≤ 2147483647 := W2.int ty1 15
              have ie121 : ivh2 a0 15 = ivb1 a0 15 := fl2.i ty1 rfl 15
              have ri79 : (-2147483648) ≤ ivh2 a0 16 ∧ ivh2 a0 16 ≤ 2147483647 := W2.int ty1 16
              have ie123 : ivh2 a0 16 = ivb1 a0 16 := fl2.i ty1 rfl 16
              have F9 := F2.call Xb1 fl11 rfl
              have mr9 := MRK.call mr2 W2 skb1 XT.refl fl11 rfl rfl
              refine c_st (st2 := [.int (iI f11)]) rfl ?_
              have gk11f11 : ivh11 a0 11 = ivh2 a0 11 := kp11f11
              have gk12f11 : ivh11 a0 12 = ivh2 a0 12 := kp12f11
              have gk13f11 : ivh11 a0 13 = ivh2 a0 13 := kp13f11
              have gk14f11 : ivh11 a0 14 = ivh2 a0 14 := kp14f11
              have gk15f11 : ivh11 a0 15 = ivh2 a0 15 := kp15f11
              have gk16f11 : ivh11 a0 16 = ivh2 a0 16 := kp16f11
              have gf11 : f11 = -1 := exf11
              have ri80 : 0 ≤ ivh11 (sk 2) 2 ∧ ivh11 (sk 2) 2 ≤ 3000 := W11.int ty2 2
              have ie125 : ivh11 (sk 2) 2 = ivh2 (sk 2) 2 := fl11.i ty2 rfl 2
              have ri81 : 1 ≤ ivh11 a0 11 ∧ ivh11 a0 11 ≤ 100 := W11.int ty1 11
              have ri82 : 1 ≤ ivh11 a0 12 ∧ ivh11 a0 12 ≤ 50 := W11.int ty1 12
              have ri83 : (-2147483648) ≤ ivh11 a0 13 ∧ ivh11 a0 13 ≤ 2147483647 := W11.int ty1 13
              have ri84 : (-2147483648) ≤ ivh11 a0 14 ∧ ivh11 a0 14 ≤ 2147483647 := W11.int ty1 14
              have ri85 : (-2147483648) ≤ ivh11 a0 15 ∧ ivh11 a0 15 ≤ 2147483647 := W11.int ty1 15
              have ri86 : (-2147483648) ≤ ivh11 a0 16 ∧ ivh11 a0 16 ≤ 2147483647 := W11.int ty1 16
              exact c_iret C dX11_head_122 rfl (by decide) (rom0 hph pl1 (by decide)) ⟨f11, rfl, Xb1, F9, W11, ⟨by omega, by omega⟩, trivial, (by omega), (by omega), (by omega), (by omega), (by omega), (by omega), (by omega), (HDX.nw gf3 (QT.of hW hS Xb1 F2 rfl rfl rfl rfl rfl) (by omega)), (show rvb1 a0 9 = rv a0 9 from hkr9), (show rvb1 a0 10 = rv a0 10 from hkr10)⟩
          · refine c_aload_n (j := 2) (x := a0) C dX11_head_97 rfl ?_
            refine c_bipush (z := 6) C dX11_head_98 (by decide) ?_
            refine d_callV (As := [.int (iI 6)]) (rest := []) C hM (C_refuse (a0 := a0) (x := 6) W2 skb1 ty1 ⟨by decide, by decide⟩ ) dX11_head_100 kV_X11_102 rfl ty1 rfl rfl (by decide) ck_12 rfl (Nat.le_of_ble_eq_true rfl) ⟨(Nat.le_of_ble_eq_true rfl), (Nat.le_of_ble_eq_true rfl)⟩ hph pl1 (show 0 + 0 = 0 from rfl) (by decide) (fun rh12 Lh12 clh12 lnh12 ivh12 rvh12 h12 => ?_)
            obtain ⟨f12, rfl, rfl, rfl, rfl, rfl, fl12, W12, rgf12, exf12, kp11f12, kp12f12, kp13f12, kp14f12, kp15f12, kp16f12⟩ := h12
            have ri87 : 1 ≤ ivh2 a0 11 ∧ ivh2 a0 11 ≤ 100 := W2.int ty1 11
            have ie132 : ivh2 a0 11 = ivb1 a0 11 := fl2.i ty1 rfl 11
            have ri88 : 1 ≤ ivh2 a0 12 ∧ ivh2 a0 12 ≤ 50 := W2.int ty1 12
            have ie134 : ivh2 a0 12 = ivb1 a0 12 := fl2.i ty1 rfl 12
            have ri89 : (-2147483648) ≤ ivh2 a0 13 ∧ ivh2 a0 13 ≤ 2147483647 := W2.int ty1 13
            have ie136 : ivh2 a0 13 = ivb1 a0 13 := fl2.i ty1 rfl 13
            have ri90 : (-2147483648) ≤ ivh2 a0 14 ∧ ivh2 a0 14 ≤ 2147483647 := W2.int ty1 14
            have ie138 : ivh2 a0 14 = ivb1 a0 14 := fl2.i ty1 rfl 14
            have ri91 : (-2147483648) ≤ ivh2 a0 15 ∧ ivh2 a0 15 ≤ 2147483647 := W2.int ty1 15
            have ie140 : ivh2 a0 15 = ivb1 a0 15 := fl2.i ty1 rfl 15
            have ri92 : (-2147483648) ≤ ivh2 a0 16 ∧ ivh2 a0 16 ≤ 2147483647 := W2.int ty1 16
            have ie142 : ivh2 a0 16 = ivb1 a0 16 := fl2.i ty1 rfl 16
            have F10 := F2.call Xb1 fl12 rfl
            have mr10 := MRK.call mr2 W2 skb1 XT.refl fl12 rfl rfl
            refine c_st (st2 := [.int (iI f12)]) rfl ?_
            have gk11f12 : ivh12 a0 11 = ivh2 a0 11 := kp11f12
            have gk12f12 : ivh12 a0 12 = ivh2 a0 12 := kp12f12
            have gk13f12 : ivh12 a0 13 = ivh2 a0 13 := kp13f12
            have gk14f12 : ivh12 a0 14 = ivh2 a0 14 := kp14f12
            have gk15f12 : ivh12 a0 15 = ivh2 a0 15 := kp15f12
            have gk16f12 : ivh12 a0 16 = ivh2 a0 16 := kp16f12
            have gf12 : f12 = -1 := exf12
            have ri93 : 0 ≤ ivh12 (sk 2) 2 ∧ ivh12 (sk 2) 2 ≤ 3000 := W12.int ty2 2
            have ie144 : ivh12 (sk 2) 2 = ivh2 (sk 2) 2 := fl12.i ty2 rfl 2
            have ri94 : 1 ≤ ivh12 a0 11 ∧ ivh12 a0 11 ≤ 100 := W12.int ty1 11
            have ri95 : 1 ≤ ivh12 a0 12 ∧ ivh12 a0 12 ≤ 50 := W12.int ty1 12
            have ri96 : (-2147483648) ≤ ivh12 a0 13 ∧ ivh12 a0 13 ≤ 2147483647 := W12.int ty1 13
            have ri97 : (-2147483648) ≤ ivh12 a0 14 ∧ ivh12 a0 14 ≤ 2147483647 := W12.int ty1 14
            have ri98 : (-2147483648) ≤ ivh12 a0 15 ∧ ivh12 a0 15 ≤ 2147483647 := W12.int ty1 15
            have ri99 : (-2147483648) ≤ ivh12 a0 16 ∧ ivh12 a0 16 ≤ 2147483647 := W12.int ty1 16
            exact c_iret C dX11_head_103 rfl (by decide) (rom0 hph pl1 (by decide)) ⟨f12, rfl, Xb1, F10, W12, ⟨by omega, by omega⟩, trivial, (by omega), (by omega), (by omega), (by omega), (by omega), (by omega), (by omega), (HDX.bad hWD (by omega) (by omega)), (show rvb1 a0 9 = rv a0 9 from hkr9), (show rvb1 a0 10 = rv a0 10 from hkr10)⟩
        · refine c_iload_n (j := 1) C dX11_head_53 rfl ?_
          refine c_aload_n (j := 2) (x := a0) C dX11_head_54 rfl ?_
          have ty26 := Xb1.ty t_a0
          obtain ⟨rb12, rq12, trb12⟩ := Wb1.ref ty26 0 rfl rfl rfl
          have erb12 := Wb1.sk trb12 (by decide) rfl
          subst erb12
          refine c_getr (k := 0) C ck_12 dX11_head_55 w2_44 (by decide) ty26 rfl rfl (by decide) rfl rq12 ?_
          refine c_st (st2 := [.ref (sk 2), .int (iI k)]) rfl ?_
          have ty27 := Xb1.ty tsk2
          have ri100 : 0 ≤ ivb1 (sk 2) 2 ∧ ivb1 (sk 2) 2 ≤ 3000 := Wb1.int ty27 2
          refine c_get (k := 2) C ck_2 dX11_head_58 w1_44 (by decide) ty27 rfl rfl (by decide) rfl ?_
          refine c_icmp_ge (tgt := 86) C ⟨by omega, by omega⟩ ⟨by omega, by omega⟩ dX11_head_61 (by decide) (fun c7 => ?_) (fun c7 => ?_)
          · refine c_aload_n (j := 2) (x := a0) C dX11_head_86 rfl ?_
            refine c_getr (k := 0) C ck_12 dX11_head_87 w2_44 (by decide) ty26 rfl rfl (by decide) rfl rq12 ?_
            refine c_st (st2 := [.ref (sk 2)]) rfl ?_
            have ty28 := Xb1.ty tsk15
            have pl5 := Phi.le Wb1 skb1
            refine d_callV (As := []) (rest := []) C hM (C_clear_2 (a0 := (sk 2)) Wb1 skb1 ty27  ) dX11_head_90 kV_X11_164 rfl ty27 rfl rfl (by decide) ck_2 rfl (Nat.le_of_ble_eq_true rfl) ⟨(Nat.le_of_ble_eq_true rfl), (Nat.le_of_ble_eq_true rfl)⟩ hph pl5 (show 0 + 0 = 0 from rfl) (by decide) (fun rh13 Lh13 clh13 lnh13 ivh13 rvh13 h13 => ?_)
            obtain ⟨rfl, rfl, rfl, rfl, rfl, fl13, W13, exf13⟩ := h13
            have F11 := Fb1.call Xb1 fl13 rfl
            have mr11 := MRK.call mrb1 Wb1 skb1 XT.refl fl13 rfl rfl
            refine c_st (st2 := []) rfl ?_
            have ri101 : 0 ≤ ivh13 (sk 2) 2 ∧ ivh13 (sk 2) 2 ≤ 3000 := W13.int ty27 2
            have gf13 : ivh13 (sk 2) 2 = 0 := exf13
            have hLC := hLT.ni Wb1 fl13 rfl ty28
            have ri102 : 0 ≤ ivh13 (sk 15) 4 ∧ ivh13 (sk 15) 4 ≤ 500 := W13.int ty28 4
            have ie153 : ivh13 (sk 15) 4 = ivb1 (sk 15) 4 := fl13.i ty28 rfl 4
            refine c_iload_n (j := 0) C dX11_head_93 rfl ?_
            refine c_if_ne (tgt := 104) C ⟨by omega, by omega⟩ dX11_head_94 (by decide) (fun c8 => ?_) (fun c8 => ?_)
            · refine c_aload_n (j := 2) (x := a0) C dX11_head_104 rfl ?_
              obtain ⟨rb13, rq13, trb13⟩ := W13.ref ty26 4 rfl rfl rfl
              have erb13 := W13.sk trb13 (by decide) rfl
              subst erb13
              refine c_getr (k := 4) C ck_12 dX11_head_105 w2_48 (by decide) ty26 rfl rfl (by decide) rfl rq13 ?_
              refine c_st (st2 := [.ref (sk 13)]) rfl ?_
              refine c_iload_n (j := 3) C dX11_head_108 rfl ?_
              have ty29 := Xb1.ty tsk13
              refine d_callV (As := [.int (iI i)]) (rest := []) C hM (G_whole (a0 := (sk 13)) (i := i) W13 skb1 ty29 (by omega) mr11) dX11_head_109 kV_X11_231 rfl ty29 rfl rfl (by decide) ck_11 rfl (Nat.le_of_ble_eq_true rfl) ⟨(Nat.le_of_ble_eq_true rfl), (Nat.le_of_ble_eq_true rfl)⟩ hph pl5 (show 0 + 0 = 0 from rfl) (by decide) (fun rh14 Lh14 clh14 lnh14 ivh14 rvh14 h14 => ?_)
              obtain ⟨f14, rfl, rfl, rfl, rfl, rfl, rfl, rgf14, exf14⟩ := h14
              refine c_st (st2 := [(va_rf f14)]) rfl ?_
              have gf14 : WOX sk lnb1 ivh13 rvb1 i f14 := exf14
              refine c_astorer_n (r := f14) (lv2 := [(3, (va_rf f14)), (2, .int (iI fl)), (0, .ref a0), (1, .int (iI i))]) C dX11_head_112 (by decide) rfl ?_
              refine c_aloadr_n (j := 0) (r := f14) C dX11_head_113 rfl ?_
              refine c_ifnonnull (r := f14) (tgt := 123) C dX11_head_114 (by decide) (fun ob2 oq2 => ?_) (fun oq2 => ?_)
              · subst oq2
                have tob2 := rgf14 ob2 rfl
                have wkob2 := gf14
                refine c_lv (lv2 := [(3, .ref ob2), (2, .int (iI fl)), (0, .ref a0), (1, .int (iI i))]) [0, 1, 2, 3] rfl ?_
                refine c_st (st2 := []) rfl ?_
                refine c_aload_n (j := 2) (x := a0) C dX11_head_123 rfl ?_
                obtain ⟨rb14, rq14, trb14⟩ := W13.ref ty26 6 rfl rfl rfl
                have erb14 := W13.sk trb14 (by decide) rfl
                subst erb14
                refine c_getr (k := 6) C ck_12 dX11_head_124 w2_50 (by decide) ty26 rfl rfl (by decide) rfl rq14 ?_
                refine c_st (st2 := [.ref (sk 15)]) rfl ?_
                refine c_aload_n (j := 0) (x := ob2) C dX11_head_127 rfl ?_
                refine d_callV (As := [.ref ob2]) (rest := []) C hM (G_setBy (a0 := (sk 15)) (a1 := ob2) W13 skb1 ty28 tob2  ) dX11_head_128 kV_X11_253 rfl ty28 rfl rfl (by decide) ck_7 rfl (Nat.le_of_ble_eq_true rfl) ⟨(Nat.le_of_ble_eq_true rfl), (Nat.le_of_ble_eq_true rfl)⟩ hph pl5 (show 0 + 0 = 0 from rfl) (by decide) (fun rh15 Lh15 clh15 lnh15 ivh15 rvh15 h15 => ?_)
                obtain ⟨f15, rfl, rfl, rfl, rfl, rfl, fl15, W15, rgf15, exf15⟩ := h15
                have F12 := F11.call Xb1 fl15 rfl
                have mr12 := MRK.call mr11 W13 skb1 XT.refl fl15 rfl rfl
                refine c_st (st2 := [.int (iI f15)]) rfl ?_
                have ri103 : 0 ≤ ivh15 (sk 15) 4 ∧ ivh15 (sk 15) 4 ≤ 500 := W15.int ty28 4
                have ri104 : 0 ≤ ivh15 (sk 15) 7 ∧ ivh15 (sk 15) 7 ≤ 100000 := W15.int ty28 7
                have gf15 : ((f15 = 0 ∨ f15 = 6 ∨ f15 = 7) ∧ ivh15 (sk 15) 4 = ivh13 (sk 15) 4 ∧ (f15 = 0 → ivh15 (sk 15) 7 ≤ 200)) ∧ SBX sk lnb1 ivh13 rvb1 ivh15 (sk 15) ob2 f15 := exf15
                refine c_istore (lv2 := [(4, .int (iI f15)), (3, .ref ob2), (2, .int (iI fl)), (0, .ref a0), (1, .int (iI i))]) C dX11_head_131 (by decide) rfl ?_
                refine c_iload (j := 0) C dX11_head_133 rfl ?_
                refine c_if_eq (tgt := 152) C ⟨by omega, by omega⟩ dX11_head_135 (by decide) (fun c9 => ?_) (fun c9 => ?_)
                · refine c_aload_n (j := 3) (x := a0) C dX11_head_152 rfl ?_
                  obtain ⟨rb15, rq15, trb15⟩ := W15.ref ty26 3 rfl rfl rfl
                  have erb15 := W15.sk trb15 (by decide) rfl
                  subst erb15
                  refine c_getr (k := 3) C ck_12 dX11_head_153 w2_47 (by decide) ty26 rfl rfl (by decide) rfl rq15 ?_
                  refine c_st (st2 := [.ref (sk 5)]) rfl ?_
                  have ty30 := Xb1.ty tsk5
                  refine d_callV (As := []) (rest := []) C hM (C_clear_5 (a0 := (sk 5)) W15 skb1 ty30  ) dX11_head_156 kV_X11_164 rfl ty30 rfl rfl (by decide) ck_2 rfl (Nat.le_of_ble_eq_true rfl) ⟨(Nat.le_of_ble_eq_true rfl), (Nat.le_of_ble_eq_true rfl)⟩ hph pl5 (show 0 + 0 = 0 from rfl) (by decide) (fun rh16 Lh16 clh16 lnh16 ivh16 rvh16 h16 => ?_)
                  obtain ⟨rfl, rfl, rfl, rfl, rfl, fl16, W16, exf16⟩ := h16
                  have F13 := F12.call Xb1 fl16 rfl
                  have mr13 := MRK.call mr12 W15 skb1 XT.refl fl16 rfl rfl
                  refine c_st (st2 := []) rfl ?_
                  have ri105 : 0 ≤ ivh16 (sk 5) 2 ∧ ivh16 (sk 5) 2 ≤ 200 := W16.int ty30 2
                  have gf16 : ivh16 (sk 5) 2 = 0 := exf16
                  refine c_iconst C dX11_head_159 ?_
                  refine c_istore (lv2 := [(5, .int (iI 0)), (4, .int (iI f15)), (3, .ref ob2), (2, .int (iI fl)), (0, .ref a0), (1, .int (iI i))]) C dX11_head_160 (by decide) rfl ?_
                  have Lp3 : ∀ (nn : Nat) (k2 : Int) (Lb3 : List Nat) (clb3 lnb3 : Nat → Nat) (ivb3 : Nat → Nat → Int) (rvb3 : Nat → Nat → Option Nat) , 101 - k2 < (nn : Int) → XT L cl ln Lb3 clb3 lnb3 → WT (g0 G) sk Lb3 clb3 lnb3 ivb3 rvb3 → fT [1, 2, 5, 35, 15, 50, 51, 52, 53, 54, 55] L cl iv rv ivb3 rvb3 → (0 ≤ k2 ∧ k2 ≤ 100) → (ivb3 (sk 15) 7 ≤ 200) → (ivb3 (sk 2) 2 = 0) → (ivb3 (sk 5) 2 = k2) → (k2 ≤ ivb3 (sk 15) 7 ∧ k2 ≤ iv a0 11) → (HDP sk ln iv rv i (ivb3 (sk 15) 7)) → (ivb3 a0 11 = iv a0 11) → (ivb3 a0 12 = iv a0 12) → (ivb3 a0 13 = iv a0 13) → (ivb3 a0 14 = iv a0 14) → (ivb3 a0 15 = iv a0 15) → (ivb3 a0 16 = iv a0 16) → (rvb3 a0 9 = rv a0 9) → (rvb3 a0 10 = rv a0 10) → cw p l e 8 ((PHM) + 0 - ((Phi (g0 G) sk) ln rv)) s m args below meth c G A 6 (MQ below (Qu G A (Qp G (Phi (g0 G) sk) ((Phi (g0 G) sk) ln rv) 0 (fun v L2 cl2 ln2 iv2 rv2 => ∃ f : Int, v = some (.int (iI f)) ∧ XT L cl ln L2 cl2 ln2 ∧ fT [1, 2, 5, 35, 15, 50, 51, 52, 53, 54, 55] L cl iv rv iv2 rv2 ∧ WT (g0 G) sk L2 cl2 ln2 iv2 rv2 ∧ (-2147483648 ≤ f ∧ f ≤ 2147483647) ∧ (True) ∧ iv2 a0 11 = iv a0 11 ∧ iv2 a0 12 = iv a0 12 ∧ iv2 a0 13 = iv a0 13 ∧ iv2 a0 14 = iv a0 14 ∧ iv2 a0 15 = iv a0 15 ∧ iv2 a0 16 = iv a0 16 ∧ iv2 (sk 2) 2 = 0 ∧ (HDX sk ln iv rv (iv a0 11) i f) ∧ rv2 a0 9 = rv a0 9 ∧ rv2 a0 10 = rv a0 10))) args s (((PHM) + 0 - ((Phi (g0 G) sk) ln rv)) / 16) ((PHM) + 0 - ((Phi (g0 G) sk) ln rv)) A) (Phi (g0 G) sk) ((Phi (g0 G) sk) ln rv) Lb3 clb3 lnb3 ivb3 rvb3 0 162 [(5, .int (iI k2)), (4, .int (iI f15)), (3, .ref ob2), (2, .int (iI fl)), (0, .ref a0), (1, .int (iI i))] [] := by
                    intro nn
                    induction nn with
                    | zero =>
                      intro  k2 Lb3 clb3 lnb3 ivb3 rvb3 hm Xb3 Wb3 Fb3  hk2 hco htz h52 hk3 hHD hkp11 hkp12 hkp13 hkp14 hkp15 hkp16 hkr9 hkr10
                      have skb3 := Xb3.skl hS
                      exact absurd hm (by omega)
                    | succ nn ih3 =>
                      intro  k2 Lb3 clb3 lnb3 ivb3 rvb3 hm Xb3 Wb3 Fb3  hk2 hco htz h52 hk3 hHD hkp11 hkp12 hkp13 hkp14 hkp15 hkp16 hkr9 hkr10
                      have skb3 := Xb3.skl hS
                      have mrb3 := MRK.call hmr hW hS Xb3 Fb3 rfl rfl
                      refine c_iload (j := 0) C dX11_head_162 rfl ?_
                      refine c_aload_n (j := 4) (x := a0) C dX11_head_164 rfl ?_
                      have ty31 := Xb3.ty t_a0
                      obtain ⟨rb16, rq16, trb16⟩ := Wb3.ref ty31 6 rfl rfl rfl
                      have erb16 := Wb3.sk trb16 (by decide) rfl
                      subst erb16
                      refine c_getr (k := 6) C ck_12 dX11_head_165 w2_50 (by decide) ty31 rfl rfl (by decide) rfl rq16 ?_
                      refine c_st (st2 := [.ref (sk 15), .int (iI k2)]) rfl ?_
                      have ty32 := Xb3.ty tsk15
                      have ri106 : 0 ≤ ivb3 (sk 15) 7 ∧ ivb3 (sk 15) 7 ≤ 100000 := Wb3.int ty32 7
                      refine c_get (k := 7) C ck_7 dX11_head_168 w1_149 (by decide) ty32 rfl rfl (by decide) rfl ?_
                      refine c_icmp_ge (tgt := 206) C ⟨by omega, by omega⟩ ⟨by omega, by omega⟩ dX11_head_171 (by decide) (fun c10 => ?_) (fun c10 => ?_)
                      · refine c_aload_n (j := 4) (x := a0) C dX11_head_206 rfl ?_
                        refine c_aload_n (j := 4) (x := a0) C dX11_head_207 rfl ?_
                        obtain ⟨rb17, rq17, trb17⟩ := Wb3.ref ty31 3 rfl rfl rfl
                        have erb17 := Wb3.sk trb17 (by decide) rfl
                        subst erb17
                        refine c_getr (k := 3) C ck_12 dX11_head_208 w2_47 (by decide) ty31 rfl rfl (by decide) rfl rq17 ?_
                        refine c_st (st2 := [.ref (sk 5), .ref a0]) rfl ?_
                        have ty33 := Xb3.ty tsk5
                        have ri107 : 0 ≤ ivb3 (sk 5) 2 ∧ ivb3 (sk 5) 2 ≤ 200 := Wb3.int ty33 2
                        refine c_get (k := 2) C ck_2 dX11_head_211 w1_44 (by decide) ty33 rfl rfl (by decide) rfl ?_
                        have pl6 := Phi.le Wb3 skb3
                        refine d_callV (As := [.int (iI (ivb3 (sk 5) 2))]) (rest := []) C hM (C_done (a0 := a0) (x := ivb3 (sk 5) 2) Wb3 skb3 ty31 (by omega) ) dX11_head_214 kV_X11_109 rfl ty31 rfl rfl (by decide) ck_12 rfl (Nat.le_of_ble_eq_true rfl) ⟨(Nat.le_of_ble_eq_true rfl), (Nat.le_of_ble_eq_true rfl)⟩ hph pl6 (show 0 + 0 = 0 from rfl) (by decide) (fun rh17 Lh17 clh17 lnh17 ivh17 rvh17 h17 => ?_)
                        obtain ⟨f17, rfl, rfl, rfl, rfl, rfl, fl17, W17, rgf17, exf17, kp11f17, kp12f17, kp13f17, kp14f17, kp15f17, kp16f17⟩ := h17
                        have ri108 : 1 ≤ ivb3 a0 11 ∧ ivb3 a0 11 ≤ 100 := Wb3.int ty31 11
                        have ri109 : 1 ≤ ivb3 a0 12 ∧ ivb3 a0 12 ≤ 50 := Wb3.int ty31 12
                        have ri110 : (-2147483648) ≤ ivb3 a0 13 ∧ ivb3 a0 13 ≤ 2147483647 := Wb3.int ty31 13
                        have ri111 : (-2147483648) ≤ ivb3 a0 14 ∧ ivb3 a0 14 ≤ 2147483647 := Wb3.int ty31 14
                        have ri112 : (-2147483648) ≤ ivb3 a0 15 ∧ ivb3 a0 15 ≤ 2147483647 := Wb3.int ty31 15
                        have ri113 : (-2147483648) ≤ ivb3 a0 16 ∧ ivb3 a0 16 ≤ 2147483647 := Wb3.int ty31 16
                        have F14 := Fb3.call Xb3 fl17 rfl
                        have mr14 := MRK.call mrb3 Wb3 skb3 XT.refl fl17 rfl rfl
                        refine c_st (st2 := [.int (iI f17)]) rfl ?_
                        have gk11f17 : ivh17 a0 11 = ivb3 a0 11 := kp11f17
                        have gk12f17 : ivh17 a0 12 = ivb3 a0 12 := kp12f17
                        have gk13f17 : ivh17 a0 13 = ivb3 a0 13 := kp13f17
                        have gk14f17 : ivh17 a0 14 = ivb3 a0 14 := kp14f17
                        have gk15f17 : ivh17 a0 15 = ivb3 a0 15 := kp15f17
                        have gk16f17 : ivh17 a0 16 = ivb3 a0 16 := kp16f17
                        have gf17 : f17 = (ivb3 (sk 5) 2) := exf17
                        have ty34 := Xb3.ty tsk2
                        have ri114 : 0 ≤ ivh17 (sk 2) 2 ∧ ivh17 (sk 2) 2 ≤ 3000 := W17.int ty34 2
                        have ie166 : ivh17 (sk 2) 2 = ivb3 (sk 2) 2 := fl17.i ty34 rfl 2
                        have ri115 : 1 ≤ ivh17 a0 11 ∧ ivh17 a0 11 ≤ 100 := W17.int ty31 11
                        have ri116 : 1 ≤ ivh17 a0 12 ∧ ivh17 a0 12 ≤ 50 := W17.int ty31 12
                        have ri117 : (-2147483648) ≤ ivh17 a0 13 ∧ ivh17 a0 13 ≤ 2147483647 := W17.int ty31 13
                        have ri118 : (-2147483648) ≤ ivh17 a0 14 ∧ ivh17 a0 14 ≤ 2147483647 := W17.int ty31 14
                        have ri119 : (-2147483648) ≤ ivh17 a0 15 ∧ ivh17 a0 15 ≤ 2147483647 := W17.int ty31 15
                        have ri120 : (-2147483648) ≤ ivh17 a0 16 ∧ ivh17 a0 16 ≤ 2147483647 := W17.int ty31 16
                        have ri121 : 0 ≤ ivh17 (sk 15) 7 ∧ ivh17 (sk 15) 7 ≤ 100000 := W17.int ty32 7
                        have ie174 : ivh17 (sk 15) 7 = ivb3 (sk 15) 7 := fl17.i ty32 rfl 7
                        have ri122 : 0 ≤ ivh17 (sk 5) 2 ∧ ivh17 (sk 5) 2 ≤ 200 := W17.int ty33 2
                        have ie175 : ivh17 (sk 5) 2 = ivb3 (sk 5) 2 := fl17.i ty33 rfl 2
                        exact c_iret C dX11_head_217 rfl (by decide) (rom0 hph pl6 (by decide)) ⟨f17, rfl, Xb3, F14, W17, ⟨by omega, by omega⟩, trivial, (by omega), (by omega), (by omega), (by omega), (by omega), (by omega), (by omega), (HDX.ok hHD (by omega)), (show rvb3 a0 9 = rv a0 9 from hkr9), (show rvb3 a0 10 = rv a0 10 from hkr10)⟩
                      · refine c_iload (j := 0) C dX11_head_174 rfl ?_
                        refine c_aload_n (j := 4) (x := a0) C dX11_head_176 rfl ?_
                        have ri123 : 1 ≤ ivb3 a0 11 ∧ ivb3 a0 11 ≤ 100 := Wb3.int ty31 11
                        refine c_get (k := 11) C ck_12 dX11_head_177 w2_55 (by decide) ty31 rfl rfl (by decide) rfl ?_
                        refine c_icmp_ge (tgt := 206) C ⟨by omega, by omega⟩ ⟨by omega, by omega⟩ dX11_head_180 (by decide) (fun c11 => ?_) (fun c11 => ?_)
                        · refine c_aload_n (j := 4) (x := a0) C dX11_head_206 rfl ?_
                          refine c_aload_n (j := 4) (x := a0) C dX11_head_207 rfl ?_
                          obtain ⟨rb18, rq18, trb18⟩ := Wb3.ref ty31 3 rfl rfl rfl
                          have erb18 := Wb3.sk trb18 (by decide) rfl
                          subst erb18
                          refine c_getr (k := 3) C ck_12 dX11_head_208 w2_47 (by decide) ty31 rfl rfl (by decide) rfl rq18 ?_
                          refine c_st (st2 := [.ref (sk 5), .ref a0]) rfl ?_
                          have ty35 := Xb3.ty tsk5
                          have ri124 : 0 ≤ ivb3 (sk 5) 2 ∧ ivb3 (sk 5) 2 ≤ 200 := Wb3.int ty35 2
                          refine c_get (k := 2) C ck_2 dX11_head_211 w1_44 (by decide) ty35 rfl rfl (by decide) rfl ?_
                          have pl7 := Phi.le Wb3 skb3
                          refine d_callV (As := [.int (iI (ivb3 (sk 5) 2))]) (rest := []) C hM (C_done (a0 := a0) (x := ivb3 (sk 5) 2) Wb3 skb3 ty31 (by omega) ) dX11_head_214 kV_X11_109 rfl ty31 rfl rfl (by decide) ck_12 rfl (Nat.le_of_ble_eq_true rfl) ⟨(Nat.le_of_ble_eq_true rfl), (Nat.le_of_ble_eq_true rfl)⟩ hph pl7 (show 0 + 0 = 0 from rfl) (by decide) (fun rh18 Lh18 clh18 lnh18 ivh18 rvh18 h18 => ?_)
                          obtain ⟨f18, rfl, rfl, rfl, rfl, rfl, fl18, W18, rgf18, exf18, kp11f18, kp12f18, kp13f18, kp14f18, kp15f18, kp16f18⟩ := h18
                          have ri125 : 1 ≤ ivb3 a0 12 ∧ ivb3 a0 12 ≤ 50 := Wb3.int ty31 12
                          have ri126 : (-2147483648) ≤ ivb3 a0 13 ∧ ivb3 a0 13 ≤ 2147483647 := Wb3.int ty31 13
                          have ri127 : (-2147483648) ≤ ivb3 a0 14 ∧ ivb3 a0 14 ≤ 2147483647 := Wb3.int ty31 14
                          have ri128 : (-2147483648) ≤ ivb3 a0 15 ∧ ivb3 a0 15 ≤ 2147483647 := Wb3.int ty31 15
                          have ri129 : (-2147483648) ≤ ivb3 a0 16 ∧ ivb3 a0 16 ≤ 2147483647 := Wb3.int ty31 16
                          have F15 := Fb3.call Xb3 fl18 rfl
                          have mr15 := MRK.call mrb3 Wb3 skb3 XT.refl fl18 rfl rfl
                          refine c_st (st2 := [.int (iI f18)]) rfl ?_
                          have gk11f18 : ivh18 a0 11 = ivb3 a0 11 := kp11f18
                          have gk12f18 : ivh18 a0 12 = ivb3 a0 12 := kp12f18
                          have gk13f18 : ivh18 a0 13 = ivb3 a0 13 := kp13f18
                          have gk14f18 : ivh18 a0 14 = ivb3 a0 14 := kp14f18
                          have gk15f18 : ivh18 a0 15 = ivb3 a0 15 := kp15f18
                          have gk16f18 : ivh18 a0 16 = ivb3 a0 16 := kp16f18
                          have gf18 : f18 = (ivb3 (sk 5) 2) := exf18
                          have ty36 := Xb3.ty tsk2
                          have ri130 : 0 ≤ ivh18 (sk 2) 2 ∧ ivh18 (sk 2) 2 ≤ 3000 := W18.int ty36 2
                          have ie183 : ivh18 (sk 2) 2 = ivb3 (sk 2) 2 := fl18.i ty36 rfl 2
                          have ri131 : 1 ≤ ivh18 a0 11 ∧ ivh18 a0 11 ≤ 100 := W18.int ty31 11
                          have ri132 : 1 ≤ ivh18 a0 12 ∧ ivh18 a0 12 ≤ 50 := W18.int ty31 12
                          have ri133 : (-2147483648) ≤ ivh18 a0 13 ∧ ivh18 a0 13 ≤ 2147483647 := W18.int ty31 13
                          have ri134 : (-2147483648) ≤ ivh18 a0 14 ∧ ivh18 a0 14 ≤ 2147483647 := W18.int ty31 14
                          have ri135 : (-2147483648) ≤ ivh18 a0 15 ∧ ivh18 a0 15 ≤ 2147483647 := W18.int ty31 15
                          have ri136 : (-2147483648) ≤ ivh18 a0 16 ∧ ivh18 a0 16 ≤ 2147483647 := W18.int ty31 16
                          have ri137 : 0 ≤ ivh18 (sk 15) 7 ∧ ivh18 (sk 15) 7 ≤ 100000 := W18.int ty32 7
                          have ie191 : ivh18 (sk 15) 7 = ivb3 (sk 15) 7 := fl18.i ty32 rfl 7
                          have ri138 : 0 ≤ ivh18 (sk 5) 2 ∧ ivh18 (sk 5) 2 ≤ 200 := W18.int ty35 2
                          have ie192 : ivh18 (sk 5) 2 = ivb3 (sk 5) 2 := fl18.i ty35 rfl 2
                          exact c_iret C dX11_head_217 rfl (by decide) (rom0 hph pl7 (by decide)) ⟨f18, rfl, Xb3, F15, W18, ⟨by omega, by omega⟩, trivial, (by omega), (by omega), (by omega), (by omega), (by omega), (by omega), (by omega), (HDX.ok hHD (by omega)), (show rvb3 a0 9 = rv a0 9 from hkr9), (show rvb3 a0 10 = rv a0 10 from hkr10)⟩
                        · refine c_aload_n (j := 4) (x := a0) C dX11_head_183 rfl ?_
                          obtain ⟨rb19, rq19, trb19⟩ := Wb3.ref ty31 3 rfl rfl rfl
                          have erb19 := Wb3.sk trb19 (by decide) rfl
                          subst erb19
                          refine c_getr (k := 3) C ck_12 dX11_head_184 w2_47 (by decide) ty31 rfl rfl (by decide) rfl rq19 ?_
                          refine c_st (st2 := [.ref (sk 5)]) rfl ?_
                          refine c_aload_n (j := 4) (x := a0) C dX11_head_187 rfl ?_
                          refine c_getr (k := 6) C ck_12 dX11_head_188 w2_50 (by decide) ty31 rfl rfl (by decide) rfl rq16 ?_
                          refine c_st (st2 := [.ref (sk 15), .ref (sk 5)]) rfl ?_
                          obtain ⟨rb20, rq20, trb20⟩ := Wb3.ref ty32 6 rfl rfl rfl
                          have lnrb20 : 200 ≤ lnb3 rb20 ∧ lnb3 rb20 ≤ 200 := Wb3.len trb20 rfl
                          refine c_getr (k := 6) C ck_7 dX11_head_191 w1_146 (by decide) ty32 rfl rfl (by decide) rfl rq20 ?_
                          refine c_st (st2 := [.ref rb20, .ref (sk 5)]) rfl ?_
                          refine c_iload (j := 0) C dX11_head_194 rfl ?_
                          have ll2 : 200 ≤ lnb3 rb20 ∧ lnb3 rb20 ≤ 200 := Wb3.len trb20 rfl
                          refine c_iald C dX11_head_196 trb20 rfl (by omega) (by omega) (by omega) ?_
                          have ri139 : (-2147483648) ≤ ivb3 rb20 k2.toNat ∧ ivb3 rb20 k2.toNat ≤ 2147483647 := Wb3.int trb20 k2.toNat
                          have ty37 := Xb3.ty tsk5
                          have ri140 : 0 ≤ ivb3 (sk 5) 2 ∧ ivb3 (sk 5) 2 ≤ 200 := Wb3.int ty37 2
                          have pl8 := Phi.le Wb3 skb3
                          refine d_callV (As := [.int (iI (ivb3 rb20 k2.toNat))]) (rest := []) C hM (C_add_5 (a0 := (sk 5)) (x := ivb3 rb20 k2.toNat) Wb3 skb3 ty37 (by omega) ) dX11_head_197 kV_X11_112 rfl ty37 rfl rfl (by decide) ck_2 rfl (Nat.le_of_ble_eq_true rfl) ⟨(Nat.le_of_ble_eq_true rfl), (Nat.le_of_ble_eq_true rfl)⟩ hph pl8 (show 0 + 0 = 0 from rfl) (by decide) (fun rh19 Lh19 clh19 lnh19 ivh19 rvh19 h19 => ?_)
                          obtain ⟨rfl, xl19, fl19, W19, exf19⟩ := h19
                          have F16 := Fb3.call Xb3 fl19 rfl
                          have mr16 := MRK.call mrb3 Wb3 skb3 xl19 fl19 rfl rfl
                          have ty38 := Xb3.ty tsk2
                          have ty39 := Xb3.ty tsk3
                          have ty40 := Xb3.ty tsk4
                          have ty41 := Xb3.ty tsk13
                          have ty42 := Xb3.ty tsk14
                          have ty43 := Xb3.ty tsk16
                          have ty44 := Xb3.ty tsk17
                          have ty45 := Xb3.ty tsk22
                          have ty46 := Xb3.ty tsk23
                          have X2 := Xb3.trans xl19
                          have sk2 := xl19.skl skb3
                          refine c_st (st2 := []) rfl ?_
                          have ty47 := xl19.ty ty37
                          have ri141 : 0 ≤ ivh19 (sk 5) 2 ∧ ivh19 (sk 5) 2 ≤ 200 := W19.int ty47 2
                          have gf19 : ((ivh19 (sk 5) 2 = ivb3 (sk 5) 2 ∧ ivb3 (sk 5) 2 = 200) ∨ (ivh19 (sk 5) 2 = ivb3 (sk 5) 2 + 1 ∧ ivb3 (sk 5) 2 < 200)) := exf19
                          refine c_iinc (z := k2) (j := 0) (lv2 := [(5, .int (iI (k2 + 1))), (4, .int (iI f15)), (3, .ref ob2), (2, .int (iI fl)), (0, .ref a0), (1, .int (iI i))]) C dX11_head_200 rfl (by decide) rfl ?_
                          refine c_goto (tgt := 162) C dX11_head_203 (by decide) ?_
                          have ty48 := xl19.ty ty32
                          have ri142 : 0 ≤ ivh19 (sk 15) 7 ∧ ivh19 (sk 15) 7 ≤ 100000 := W19.int ty48 7
                          have ie196 : ivh19 (sk 15) 7 = ivb3 (sk 15) 7 := fl19.i ty32 rfl 7
                          have ty49 := xl19.ty ty38
                          have ri143 : 0 ≤ ivh19 (sk 2) 2 ∧ ivh19 (sk 2) 2 ≤ 3000 := W19.int ty49 2
                          have ie197 : ivh19 (sk 2) 2 = ivb3 (sk 2) 2 := fl19.i ty38 rfl 2
                          have ty50 := xl19.ty ty31
                          have ri144 : 1 ≤ ivh19 a0 11 ∧ ivh19 a0 11 ≤ 100 := W19.int ty50 11
                          have ie199 : ivh19 a0 11 = ivb3 a0 11 := fl19.i ty31 rfl 11
                          have ri145 : 1 ≤ ivh19 a0 12 ∧ ivh19 a0 12 ≤ 50 := W19.int ty50 12
                          have ie200 : ivh19 a0 12 = ivb3 a0 12 := fl19.i ty31 rfl 12
                          have ri146 : (-2147483648) ≤ ivh19 a0 13 ∧ ivh19 a0 13 ≤ 2147483647 := W19.int ty50 13
                          have ie202 : ivh19 a0 13 = ivb3 a0 13 := fl19.i ty31 rfl 13
                          have ri147 : (-2147483648) ≤ ivh19 a0 14 ∧ ivh19 a0 14 ≤ 2147483647 := W19.int ty50 14
                          have ie204 : ivh19 a0 14 = ivb3 a0 14 := fl19.i ty31 rfl 14
                          have ri148 : (-2147483648) ≤ ivh19 a0 15 ∧ ivh19 a0 15 ≤ 2147483647 := W19.int ty50 15
                          have ie206 : ivh19 a0 15 = ivb3 a0 15 := fl19.i ty31 rfl 15
                          have ri149 : (-2147483648) ≤ ivh19 a0 16 ∧ ivh19 a0 16 ≤ 2147483647 := W19.int ty50 16
                          have ie208 : ivh19 a0 16 = ivb3 a0 16 := fl19.i ty31 rfl 16
                          refine c_lv (lv2 := [(5, .int (iI (k2 + 1))), (4, .int (iI f15)), (3, .ref ob2), (2, .int (iI fl)), (0, .ref a0), (1, .int (iI i))]) [0, 1, 2, 3, 4, 5] rfl ?_
                          exact ih3  (k2 + 1) _ _ _ _ _ (by omega) X2 W19 F16  (by omega) (by show ivh19 (sk 15) 7 ≤ 200; omega) (by show ivh19 (sk 2) 2 = 0; omega) (by show ivh19 (sk 5) 2 = (k2 + 1); omega) (by show (k2 + 1) ≤ ivh19 (sk 15) 7 ∧ (k2 + 1) ≤ iv a0 11; omega) (by rw [show ivh19 (sk 15) 7 = ivb3 (sk 15) 7 by omega]; exact hHD) (by show ivh19 a0 11 = iv a0 11; omega) (by show ivh19 a0 12 = iv a0 12; omega) (by show ivh19 a0 13 = iv a0 13; omega) (by show ivh19 a0 14 = iv a0 14; omega) (by show ivh19 a0 15 = iv a0 15; omega) (by show ivh19 a0 16 = iv a0 16; omega) (Eq.trans (show rvh19 a0 9 = rvb3 a0 9 from (fl19.r ty31 rfl 9)) (show rvb3 a0 9 = rv a0 9 from hkr9)) (Eq.trans (show rvh19 a0 10 = rvb3 a0 10 from (fl19.r ty31 rfl 10)) (show rvb3 a0 10 = rv a0 10 from hkr10))
                  have ri150 : 0 ≤ ivh16 (sk 15) 7 ∧ ivh16 (sk 15) 7 ≤ 100000 := W16.int ty28 7
                  have ie210 : ivh16 (sk 15) 7 = ivh15 (sk 15) 7 := fl16.i ty28 rfl 7
                  have ri151 : 0 ≤ ivh16 (sk 2) 2 ∧ ivh16 (sk 2) 2 ≤ 3000 := W16.int ty27 2
                  have ie211 : ivh16 (sk 2) 2 = ivh15 (sk 2) 2 := fl16.i ty27 rfl 2
                  have ie212 : ivh15 (sk 2) 2 = ivh13 (sk 2) 2 := fl15.i ty27 rfl 2
                  have ri152 : 1 ≤ ivh16 a0 11 ∧ ivh16 a0 11 ≤ 100 := W16.int ty26 11
                  have ie213 : ivh16 a0 11 = ivh15 a0 11 := fl16.i ty26 rfl 11
                  have ie214 : ivh15 a0 11 = ivh13 a0 11 := fl15.i ty26 rfl 11
                  have ie215 : ivh13 a0 11 = ivb1 a0 11 := fl13.i ty26 rfl 11
                  have ri153 : 1 ≤ ivh16 a0 12 ∧ ivh16 a0 12 ≤ 50 := W16.int ty26 12
                  have ie217 : ivh16 a0 12 = ivh15 a0 12 := fl16.i ty26 rfl 12
                  have ie218 : ivh15 a0 12 = ivh13 a0 12 := fl15.i ty26 rfl 12
                  have ie219 : ivh13 a0 12 = ivb1 a0 12 := fl13.i ty26 rfl 12
                  have ri154 : (-2147483648) ≤ ivh16 a0 13 ∧ ivh16 a0 13 ≤ 2147483647 := W16.int ty26 13
                  have ie221 : ivh16 a0 13 = ivh15 a0 13 := fl16.i ty26 rfl 13
                  have ie222 : ivh15 a0 13 = ivh13 a0 13 := fl15.i ty26 rfl 13
                  have ie223 : ivh13 a0 13 = ivb1 a0 13 := fl13.i ty26 rfl 13
                  have ri155 : (-2147483648) ≤ ivh16 a0 14 ∧ ivh16 a0 14 ≤ 2147483647 := W16.int ty26 14
                  have ie225 : ivh16 a0 14 = ivh15 a0 14 := fl16.i ty26 rfl 14
                  have ie226 : ivh15 a0 14 = ivh13 a0 14 := fl15.i ty26 rfl 14
                  have ie227 : ivh13 a0 14 = ivb1 a0 14 := fl13.i ty26 rfl 14
                  have ri156 : (-2147483648) ≤ ivh16 a0 15 ∧ ivh16 a0 15 ≤ 2147483647 := W16.int ty26 15
                  have ie229 : ivh16 a0 15 = ivh15 a0 15 := fl16.i ty26 rfl 15
                  have ie230 : ivh15 a0 15 = ivh13 a0 15 := fl15.i ty26 rfl 15
                  have ie231 : ivh13 a0 15 = ivb1 a0 15 := fl13.i ty26 rfl 15
                  have ri157 : (-2147483648) ≤ ivh16 a0 16 ∧ ivh16 a0 16 ≤ 2147483647 := W16.int ty26 16
                  have ie233 : ivh16 a0 16 = ivh15 a0 16 := fl16.i ty26 rfl 16
                  have ie234 : ivh15 a0 16 = ivh13 a0 16 := fl15.i ty26 rfl 16
                  have ie235 : ivh13 a0 16 = ivb1 a0 16 := fl13.i ty26 rfl 16
                  refine c_lv (lv2 := [(5, .int (iI 0)), (4, .int (iI f15)), (3, .ref ob2), (2, .int (iI fl)), (0, .ref a0), (1, .int (iI i))]) [0, 1, 2, 3, 4, 5] rfl ?_
                  exact Lp3 103 0 _ _ _ _ _ (by omega) Xb1 W16 F13  (by omega) (by show ivh16 (sk 15) 7 ≤ 200; omega) (by show ivh16 (sk 2) 2 = 0; omega) (by show ivh16 (sk 5) 2 = 0; omega) (by show 0 ≤ ivh16 (sk 15) 7 ∧ 0 ≤ iv a0 11; omega) (HDP.mk wkob2 (QT.of hW hS Xb1 F11 rfl rfl rfl rfl rfl) hLC (by omega) (by omega) hWD (by omega) gf15.2 (by omega) (by omega)) (by show ivh16 a0 11 = iv a0 11; omega) (by show ivh16 a0 12 = iv a0 12; omega) (by show ivh16 a0 13 = iv a0 13; omega) (by show ivh16 a0 14 = iv a0 14; omega) (by show ivh16 a0 15 = iv a0 15; omega) (by show ivh16 a0 16 = iv a0 16; omega) (show rvb1 a0 9 = rv a0 9 from hkr9) (show rvb1 a0 10 = rv a0 10 from hkr10)
                · refine c_aload_n (j := 3) (x := a0) C dX11_head_138 rfl ?_
                  refine c_iload (j := 0) C dX11_head_139 rfl ?_
                  refine c_aload_n (j := 3) (x := a0) C dX11_head_141 rfl ?_
                  refine c_getr (k := 6) C ck_12 dX11_head_142 w2_50 (by decide) ty26 rfl rfl (by decide) rfl rq14 ?_
                  refine c_st (st2 := [.ref (sk 15), .int (iI f15), .ref a0]) rfl ?_
                  refine d_callV (As := []) (rest := [.int (iI f15), .ref a0]) C hM (C_placeOfUnknown (a0 := (sk 15)) W15 skb1 ty28  ) dX11_head_145 kV_X11_263 rfl ty28 rfl rfl (by decide) ck_7 rfl (Nat.le_of_ble_eq_true rfl) ⟨(Nat.le_of_ble_eq_true rfl), (Nat.le_of_ble_eq_true rfl)⟩ hph pl5 (show 0 + 0 = 0 from rfl) (by decide) (fun rh20 Lh20 clh20 lnh20 ivh20 rvh20 h20 => ?_)
                  obtain ⟨f20, rfl, rfl, rfl, rfl, rfl, rfl, rgf20, exf20⟩ := h20
                  refine c_st (st2 := [.int (iI f20), .int (iI f15), .ref a0]) rfl ?_
                  refine d_callV (As := [.int (iI f15), .int (iI f20)]) (rest := []) C hM (C_refuseAt (a0 := a0) (x := f15) (y := f20) W15 skb1 ty26 (by omega) (by omega) ) dX11_head_148 kV_X11_266 rfl ty26 rfl rfl (by decide) ck_12 rfl (Nat.le_of_ble_eq_true rfl) ⟨(Nat.le_of_ble_eq_true rfl), (Nat.le_of_ble_eq_true rfl)⟩ hph pl5 (show 0 + 0 = 0 from rfl) (by decide) (fun rh21 Lh21 clh21 lnh21 ivh21 rvh21 h21 => ?_)
                  obtain ⟨f21, rfl, rfl, rfl, rfl, rfl, fl21, W21, rgf21, exf21, kp11f21, kp12f21, kp13f21, kp14f21, kp15f21, kp16f21⟩ := h21
                  have ri158 : 1 ≤ ivh15 a0 11 ∧ ivh15 a0 11 ≤ 100 := W15.int ty26 11
                  have ie237 : ivh15 a0 11 = ivh13 a0 11 := fl15.i ty26 rfl 11
                  have ie238 : ivh13 a0 11 = ivb1 a0 11 := fl13.i ty26 rfl 11
                  have ri159 : 1 ≤ ivh15 a0 12 ∧ ivh15 a0 12 ≤ 50 := W15.int ty26 12
                  have ie240 : ivh15 a0 12 = ivh13 a0 12 := fl15.i ty26 rfl 12
                  have ie241 : ivh13 a0 12 = ivb1 a0 12 := fl13.i ty26 rfl 12
                  have ri160 : (-2147483648) ≤ ivh15 a0 13 ∧ ivh15 a0 13 ≤ 2147483647 := W15.int ty26 13
                  have ie243 : ivh15 a0 13 = ivh13 a0 13 := fl15.i ty26 rfl 13
                  have ie244 : ivh13 a0 13 = ivb1 a0 13 := fl13.i ty26 rfl 13
                  have ri161 : (-2147483648) ≤ ivh15 a0 14 ∧ ivh15 a0 14 ≤ 2147483647 := W15.int ty26 14
                  have ie246 : ivh15 a0 14 = ivh13 a0 14 := fl15.i ty26 rfl 14
                  have ie247 : ivh13 a0 14 = ivb1 a0 14 := fl13.i ty26 rfl 14
                  have ri162 : (-2147483648) ≤ ivh15 a0 15 ∧ ivh15 a0 15 ≤ 2147483647 := W15.int ty26 15
                  have ie249 : ivh15 a0 15 = ivh13 a0 15 := fl15.i ty26 rfl 15
                  have ie250 : ivh13 a0 15 = ivb1 a0 15 := fl13.i ty26 rfl 15
                  have ri163 : (-2147483648) ≤ ivh15 a0 16 ∧ ivh15 a0 16 ≤ 2147483647 := W15.int ty26 16
                  have ie252 : ivh15 a0 16 = ivh13 a0 16 := fl15.i ty26 rfl 16
                  have ie253 : ivh13 a0 16 = ivb1 a0 16 := fl13.i ty26 rfl 16
                  have F17 := F12.call Xb1 fl21 rfl
                  have mr17 := MRK.call mr12 W15 skb1 XT.refl fl21 rfl rfl
                  refine c_st (st2 := [.int (iI f21)]) rfl ?_
                  have gk11f21 : ivh21 a0 11 = ivh15 a0 11 := kp11f21
                  have gk12f21 : ivh21 a0 12 = ivh15 a0 12 := kp12f21
                  have gk13f21 : ivh21 a0 13 = ivh15 a0 13 := kp13f21
                  have gk14f21 : ivh21 a0 14 = ivh15 a0 14 := kp14f21
                  have gk15f21 : ivh21 a0 15 = ivh15 a0 15 := kp15f21
                  have gk16f21 : ivh21 a0 16 = ivh15 a0 16 := kp16f21
                  have gf21 : f21 = -1 := exf21
                  have ri164 : 0 ≤ ivh21 (sk 2) 2 ∧ ivh21 (sk 2) 2 ≤ 3000 := W21.int ty27 2
                  have ie255 : ivh21 (sk 2) 2 = ivh15 (sk 2) 2 := fl21.i ty27 rfl 2
                  have ie256 : ivh15 (sk 2) 2 = ivh13 (sk 2) 2 := fl15.i ty27 rfl 2
                  have ri165 : 1 ≤ ivh21 a0 11 ∧ ivh21 a0 11 ≤ 100 := W21.int ty26 11
                  have ri166 : 1 ≤ ivh21 a0 12 ∧ ivh21 a0 12 ≤ 50 := W21.int ty26 12
                  have ri167 : (-2147483648) ≤ ivh21 a0 13 ∧ ivh21 a0 13 ≤ 2147483647 := W21.int ty26 13
                  have ri168 : (-2147483648) ≤ ivh21 a0 14 ∧ ivh21 a0 14 ≤ 2147483647 := W21.int ty26 14
                  have ri169 : (-2147483648) ≤ ivh21 a0 15 ∧ ivh21 a0 15 ≤ 2147483647 := W21.int ty26 15
                  have ri170 : (-2147483648) ≤ ivh21 a0 16 ∧ ivh21 a0 16 ≤ 2147483647 := W21.int ty26 16
                  exact c_iret C dX11_head_151 rfl (by decide) (rom0 hph pl5 (by decide)) ⟨f21, rfl, Xb1, F17, W21, ⟨by omega, by omega⟩, trivial, (by omega), (by omega), (by omega), (by omega), (by omega), (by omega), (by omega), (HDX.ns wkob2 (QT.of hW hS Xb1 F11 rfl rfl rfl rfl rfl) hLC (by omega) (by omega) gf15.2 (by omega) (by omega)), (show rvb1 a0 9 = rv a0 9 from hkr9), (show rvb1 a0 10 = rv a0 10 from hkr10)⟩
              · subst oq2
                refine c_lv (lv2 := [(3, .null), (2, .int (iI fl)), (0, .ref a0), (1, .int (iI i))]) [0, 1, 2, 3] rfl ?_
                refine c_st (st2 := []) rfl ?_
                refine c_aload_n (j := 2) (x := a0) C dX11_head_117 rfl ?_
                refine c_iconst C dX11_head_118 ?_
                refine d_callV (As := [.int (iI 3)]) (rest := []) C hM (C_refuse (a0 := a0) (x := 3) W13 skb1 ty26 ⟨by decide, by decide⟩ ) dX11_head_119 kV_X11_102 rfl ty26 rfl rfl (by decide) ck_12 rfl (Nat.le_of_ble_eq_true rfl) ⟨(Nat.le_of_ble_eq_true rfl), (Nat.le_of_ble_eq_true rfl)⟩ hph pl5 (show 0 + 0 = 0 from rfl) (by decide) (fun rh22 Lh22 clh22 lnh22 ivh22 rvh22 h22 => ?_)
                obtain ⟨f22, rfl, rfl, rfl, rfl, rfl, fl22, W22, rgf22, exf22, kp11f22, kp12f22, kp13f22, kp14f22, kp15f22, kp16f22⟩ := h22
                have ri171 : 1 ≤ ivh13 a0 11 ∧ ivh13 a0 11 ≤ 100 := W13.int ty26 11
                have ie263 : ivh13 a0 11 = ivb1 a0 11 := fl13.i ty26 rfl 11
                have ri172 : 1 ≤ ivh13 a0 12 ∧ ivh13 a0 12 ≤ 50 := W13.int ty26 12
                have ie265 : ivh13 a0 12 = ivb1 a0 12 := fl13.i ty26 rfl 12
                have ri173 : (-2147483648) ≤ ivh13 a0 13 ∧ ivh13 a0 13 ≤ 2147483647 := W13.int ty26 13
                have ie267 : ivh13 a0 13 = ivb1 a0 13 := fl13.i ty26 rfl 13
                have ri174 : (-2147483648) ≤ ivh13 a0 14 ∧ ivh13 a0 14 ≤ 2147483647 := W13.int ty26 14
                have ie269 : ivh13 a0 14 = ivb1 a0 14 := fl13.i ty26 rfl 14
                have ri175 : (-2147483648) ≤ ivh13 a0 15 ∧ ivh13 a0 15 ≤ 2147483647 := W13.int ty26 15
                have ie271 : ivh13 a0 15 = ivb1 a0 15 := fl13.i ty26 rfl 15
                have ri176 : (-2147483648) ≤ ivh13 a0 16 ∧ ivh13 a0 16 ≤ 2147483647 := W13.int ty26 16
                have ie273 : ivh13 a0 16 = ivb1 a0 16 := fl13.i ty26 rfl 16
                have F18 := F11.call Xb1 fl22 rfl
                have mr18 := MRK.call mr11 W13 skb1 XT.refl fl22 rfl rfl
                refine c_st (st2 := [.int (iI f22)]) rfl ?_
                have gk11f22 : ivh22 a0 11 = ivh13 a0 11 := kp11f22
                have gk12f22 : ivh22 a0 12 = ivh13 a0 12 := kp12f22
                have gk13f22 : ivh22 a0 13 = ivh13 a0 13 := kp13f22
                have gk14f22 : ivh22 a0 14 = ivh13 a0 14 := kp14f22
                have gk15f22 : ivh22 a0 15 = ivh13 a0 15 := kp15f22
                have gk16f22 : ivh22 a0 16 = ivh13 a0 16 := kp16f22
                have gf22 : f22 = -1 := exf22
                have ri177 : 0 ≤ ivh22 (sk 2) 2 ∧ ivh22 (sk 2) 2 ≤ 3000 := W22.int ty27 2
                have ie275 : ivh22 (sk 2) 2 = ivh13 (sk 2) 2 := fl22.i ty27 rfl 2
                have ri178 : 1 ≤ ivh22 a0 11 ∧ ivh22 a0 11 ≤ 100 := W22.int ty26 11
                have ri179 : 1 ≤ ivh22 a0 12 ∧ ivh22 a0 12 ≤ 50 := W22.int ty26 12
                have ri180 : (-2147483648) ≤ ivh22 a0 13 ∧ ivh22 a0 13 ≤ 2147483647 := W22.int ty26 13
                have ri181 : (-2147483648) ≤ ivh22 a0 14 ∧ ivh22 a0 14 ≤ 2147483647 := W22.int ty26 14
                have ri182 : (-2147483648) ≤ ivh22 a0 15 ∧ ivh22 a0 15 ≤ 2147483647 := W22.int ty26 15
                have ri183 : (-2147483648) ≤ ivh22 a0 16 ∧ ivh22 a0 16 ≤ 2147483647 := W22.int ty26 16
                exact c_iret C dX11_head_122 rfl (by decide) (rom0 hph pl5 (by decide)) ⟨f22, rfl, Xb1, F18, W22, ⟨by omega, by omega⟩, trivial, (by omega), (by omega), (by omega), (by omega), (by omega), (by omega), (by omega), (HDX.nw gf14 (QT.of hW hS Xb1 F11 rfl rfl rfl rfl rfl) (by omega)), (show rvb1 a0 9 = rv a0 9 from hkr9), (show rvb1 a0 10 = rv a0 10 from hkr10)⟩
            · refine c_aload_n (j := 2) (x := a0) C dX11_head_97 rfl ?_
              refine c_bipush (z := 6) C dX11_head_98 (by decide) ?_
              refine d_callV (As := [.int (iI 6)]) (rest := []) C hM (C_refuse (a0 := a0) (x := 6) W13 skb1 ty26 ⟨by decide, by decide⟩ ) dX11_head_100 kV_X11_102 rfl ty26 rfl rfl (by decide) ck_12 rfl (Nat.le_of_ble_eq_true rfl) ⟨(Nat.le_of_ble_eq_true rfl), (Nat.le_of_ble_eq_true rfl)⟩ hph pl5 (show 0 + 0 = 0 from rfl) (by decide) (fun rh23 Lh23 clh23 lnh23 ivh23 rvh23 h23 => ?_)
              obtain ⟨f23, rfl, rfl, rfl, rfl, rfl, fl23, W23, rgf23, exf23, kp11f23, kp12f23, kp13f23, kp14f23, kp15f23, kp16f23⟩ := h23
              have ri184 : 1 ≤ ivh13 a0 11 ∧ ivh13 a0 11 ≤ 100 := W13.int ty26 11
              have ie282 : ivh13 a0 11 = ivb1 a0 11 := fl13.i ty26 rfl 11
              have ri185 : 1 ≤ ivh13 a0 12 ∧ ivh13 a0 12 ≤ 50 := W13.int ty26 12
              have ie284 : ivh13 a0 12 = ivb1 a0 12 := fl13.i ty26 rfl 12
              have ri186 : (-2147483648) ≤ ivh13 a0 13 ∧ ivh13 a0 13 ≤ 2147483647 := W13.int ty26 13
              have ie286 : ivh13 a0 13 = ivb1 a0 13 := fl13.i ty26 rfl 13
              have ri187 : (-2147483648) ≤ ivh13 a0 14 ∧ ivh13 a0 14 ≤ 2147483647 := W13.int ty26 14
              have ie288 : ivh13 a0 14 = ivb1 a0 14 := fl13.i ty26 rfl 14
              have ri188 : (-2147483648) ≤ ivh13 a0 15 ∧ ivh13 a0 15 ≤ 2147483647 := W13.int ty26 15
              have ie290 : ivh13 a0 15 = ivb1 a0 15 := fl13.i ty26 rfl 15
              have ri189 : (-2147483648) ≤ ivh13 a0 16 ∧ ivh13 a0 16 ≤ 2147483647 := W13.int ty26 16
              have ie292 : ivh13 a0 16 = ivb1 a0 16 := fl13.i ty26 rfl 16
              have F19 := F11.call Xb1 fl23 rfl
              have mr19 := MRK.call mr11 W13 skb1 XT.refl fl23 rfl rfl
              refine c_st (st2 := [.int (iI f23)]) rfl ?_
              have gk11f23 : ivh23 a0 11 = ivh13 a0 11 := kp11f23
              have gk12f23 : ivh23 a0 12 = ivh13 a0 12 := kp12f23
              have gk13f23 : ivh23 a0 13 = ivh13 a0 13 := kp13f23
              have gk14f23 : ivh23 a0 14 = ivh13 a0 14 := kp14f23
              have gk15f23 : ivh23 a0 15 = ivh13 a0 15 := kp15f23
              have gk16f23 : ivh23 a0 16 = ivh13 a0 16 := kp16f23
              have gf23 : f23 = -1 := exf23
              have ri190 : 0 ≤ ivh23 (sk 2) 2 ∧ ivh23 (sk 2) 2 ≤ 3000 := W23.int ty27 2
              have ie294 : ivh23 (sk 2) 2 = ivh13 (sk 2) 2 := fl23.i ty27 rfl 2
              have ri191 : 1 ≤ ivh23 a0 11 ∧ ivh23 a0 11 ≤ 100 := W23.int ty26 11
              have ri192 : 1 ≤ ivh23 a0 12 ∧ ivh23 a0 12 ≤ 50 := W23.int ty26 12
              have ri193 : (-2147483648) ≤ ivh23 a0 13 ∧ ivh23 a0 13 ≤ 2147483647 := W23.int ty26 13
              have ri194 : (-2147483648) ≤ ivh23 a0 14 ∧ ivh23 a0 14 ≤ 2147483647 := W23.int ty26 14
              have ri195 : (-2147483648) ≤ ivh23 a0 15 ∧ ivh23 a0 15 ≤ 2147483647 := W23.int ty26 15
              have ri196 : (-2147483648) ≤ ivh23 a0 16 ∧ ivh23 a0 16 ≤ 2147483647 := W23.int ty26 16
              exact c_iret C dX11_head_103 rfl (by decide) (rom0 hph pl5 (by decide)) ⟨f23, rfl, Xb1, F19, W23, ⟨by omega, by omega⟩, trivial, (by omega), (by omega), (by omega), (by omega), (by omega), (by omega), (by omega), (HDX.bad hWD (by omega) (by omega)), (show rvb1 a0 9 = rv a0 9 from hkr9), (show rvb1 a0 10 = rv a0 10 from hkr10)⟩
          · refine c_aload_n (j := 2) (x := a0) C dX11_head_64 rfl ?_
            obtain ⟨rb21, rq21, trb21⟩ := Wb1.ref ty26 6 rfl rfl rfl
            have erb21 := Wb1.sk trb21 (by decide) rfl
            subst erb21
            refine c_getr (k := 6) C ck_12 dX11_head_65 w2_50 (by decide) ty26 rfl rfl (by decide) rfl rq21 ?_
            refine c_st (st2 := [.ref (sk 15)]) rfl ?_
            refine c_aload_n (j := 2) (x := a0) C dX11_head_68 rfl ?_
            refine c_getr (k := 0) C ck_12 dX11_head_69 w2_44 (by decide) ty26 rfl rfl (by decide) rfl rq12 ?_
            refine c_st (st2 := [.ref (sk 2), .ref (sk 15)]) rfl ?_
            refine c_iload_n (j := 1) C dX11_head_72 rfl ?_
            have pl9 := Phi.le Wb1 skb1
            refine d_callV (As := [.int (iI k)]) (rest := [.ref (sk 15)]) C hM (C_at_2 (a0 := (sk 2)) (i := k) Wb1 skb1 ty27 (by omega) ) dX11_head_73 kV_X11_224 rfl ty27 rfl rfl (by decide) ck_2 rfl (Nat.le_of_ble_eq_true rfl) ⟨(Nat.le_of_ble_eq_true rfl), (Nat.le_of_ble_eq_true rfl)⟩ hph pl9 (show 0 + 0 = 0 from rfl) (by decide) (fun rh24 Lh24 clh24 lnh24 ivh24 rvh24 h24 => ?_)
            obtain ⟨f24, rfl, rfl, rfl, rfl, rfl, rfl, rgf24, exf24⟩ := h24
            refine c_st (st2 := [.int (iI f24), .ref (sk 15)]) rfl ?_
            have gf24 : ((0 ≤ k ∧ k < ivb1 (sk 2) 2) ∨ f24 = 0) ∧ ∀ ss, CT ivb1 rvb1 (sk 2) ss → 0 ≤ k → k < ivb1 (sk 2) 2 → f24 = ss k.toNat := exf24
            refine c_iload_n (j := 1) C dX11_head_76 rfl ?_
            have ty51 := Xb1.ty tsk15
            have ri197 : 0 ≤ ivb1 (sk 15) 4 ∧ ivb1 (sk 15) 4 ≤ 500 := Wb1.int ty51 4
            refine d_callV (As := [.int (iI f24), .int (iI k)]) (rest := []) C hM (G_put (a0 := (sk 15)) (x := f24) (y := k) Wb1 skb1 ty51 (by omega) (by omega) ) dX11_head_77 kV_X11_273 rfl ty51 rfl rfl (by decide) ck_7 rfl (Nat.le_of_ble_eq_true rfl) ⟨(Nat.le_of_ble_eq_true rfl), (Nat.le_of_ble_eq_true rfl)⟩ hph pl9 (show 0 + 0 = 0 from rfl) (by decide) (fun rh25 Lh25 clh25 lnh25 ivh25 rvh25 h25 => ?_)
            obtain ⟨rfl, rfl, rfl, rfl, rfl, fl25, W25, exf25⟩ := h25
            have F20 := Fb1.call Xb1 fl25 rfl
            have mr20 := MRK.call mrb1 Wb1 skb1 XT.refl fl25 rfl rfl
            refine c_st (st2 := []) rfl ?_
            have ri198 : 0 ≤ ivh25 (sk 15) 4 ∧ ivh25 (sk 15) 4 ≤ 500 := W25.int ty51 4
            have gf25 : (ivb1 (sk 15) 4 < 500 → ivh25 (sk 15) 4 = ivb1 (sk 15) 4 + 1) ∧ PTL ivb1 rvb1 ivh25 (sk 15) f24 := exf25
            refine c_iinc (z := k) (j := 1) (lv2 := [(3, .int (iI (k + 1))), (2, .int (iI fl)), (0, .ref a0), (1, .int (iI i))]) C dX11_head_80 rfl (by decide) rfl ?_
            refine c_goto (tgt := 49) C dX11_head_83 (by decide) ?_
            have ri199 : 0 ≤ ivh25 (sk 2) 2 ∧ ivh25 (sk 2) 2 ≤ 3000 := W25.int ty27 2
            have ie303 : ivh25 (sk 2) 2 = ivb1 (sk 2) 2 := fl25.i ty27 rfl 2
            have ri200 : 1 ≤ ivh25 a0 11 ∧ ivh25 a0 11 ≤ 100 := W25.int ty26 11
            have ie304 : ivh25 a0 11 = ivb1 a0 11 := fl25.i ty26 rfl 11
            have ri201 : 1 ≤ ivh25 a0 12 ∧ ivh25 a0 12 ≤ 50 := W25.int ty26 12
            have ie306 : ivh25 a0 12 = ivb1 a0 12 := fl25.i ty26 rfl 12
            have ri202 : (-2147483648) ≤ ivh25 a0 13 ∧ ivh25 a0 13 ≤ 2147483647 := W25.int ty26 13
            have ie308 : ivh25 a0 13 = ivb1 a0 13 := fl25.i ty26 rfl 13
            have ri203 : (-2147483648) ≤ ivh25 a0 14 ∧ ivh25 a0 14 ≤ 2147483647 := W25.int ty26 14
            have ie310 : ivh25 a0 14 = ivb1 a0 14 := fl25.i ty26 rfl 14
            have ri204 : (-2147483648) ≤ ivh25 a0 15 ∧ ivh25 a0 15 ≤ 2147483647 := W25.int ty26 15
            have ie312 : ivh25 a0 15 = ivb1 a0 15 := fl25.i ty26 rfl 15
            have ri205 : (-2147483648) ≤ ivh25 a0 16 ∧ ivh25 a0 16 ≤ 2147483647 := W25.int ty26 16
            have ie314 : ivh25 a0 16 = ivb1 a0 16 := fl25.i ty26 rfl 16
            refine c_lv (lv2 := [(2, .int (iI fl)), (3, .int (iI (k + 1))), (0, .ref a0), (1, .int (iI i))]) [1, 0, 2, 3] rfl ?_
            exact ih1  fl (k + 1) _ _ _ _ _ (by omega) Xb1 W25 F20  (by omega) (by omega) (by show ivh25 (sk 15) 4 = (k + 1); omega) (by omega) (by show ivh25 (sk 2) 2 = iv (sk 2) 2; omega) hf40 hWD (fun ss hs => CT.fr (hCT ss hs) Wb1 ty27 fl25 rfl rfl rfl rfl rfl) (hLT.put gf25.2 (by omega) ⟨by omega, by omega⟩ (fun ss hs => gf24.2 ss (hCT ss hs) (by omega) (by omega))) (by show ivh25 a0 11 = iv a0 11; omega) (by show ivh25 a0 12 = iv a0 12; omega) (by show ivh25 a0 13 = iv a0 13; omega) (by show ivh25 a0 14 = iv a0 14; omega) (by show ivh25 a0 15 = iv a0 15; omega) (by show ivh25 a0 16 = iv a0 16; omega) (show rvb1 a0 9 = rv a0 9 from hkr9) (show rvb1 a0 10 = rv a0 10 from hkr10)
    have ri206 : 0 ≤ ivh1 (sk 2) 2 ∧ ivh1 (sk 2) 2 ≤ 3000 := W1.int tsk2 2
    have ie316 : ivh1 (sk 2) 2 = iv (sk 2) 2 := fl1.i tsk2 rfl 2
    have ri207 : 1 ≤ ivh1 a0 11 ∧ ivh1 a0 11 ≤ 100 := W1.int t_a0 11
    have ie317 : ivh1 a0 11 = iv a0 11 := fl1.i t_a0 rfl 11
    have ri208 : 1 ≤ ivh1 a0 12 ∧ ivh1 a0 12 ≤ 50 := W1.int t_a0 12
    have ie318 : ivh1 a0 12 = iv a0 12 := fl1.i t_a0 rfl 12
    have ri209 : (-2147483648) ≤ ivh1 a0 13 ∧ ivh1 a0 13 ≤ 2147483647 := W1.int t_a0 13
    have ie319 : ivh1 a0 13 = iv a0 13 := fl1.i t_a0 rfl 13
    have ri210 : (-2147483648) ≤ ivh1 a0 14 ∧ ivh1 a0 14 ≤ 2147483647 := W1.int t_a0 14
    have ie320 : ivh1 a0 14 = iv a0 14 := fl1.i t_a0 rfl 14
    have ri211 : (-2147483648) ≤ ivh1 a0 15 ∧ ivh1 a0 15 ≤ 2147483647 := W1.int t_a0 15
    have ie321 : ivh1 a0 15 = iv a0 15 := fl1.i t_a0 rfl 15
    have ri212 : (-2147483648) ≤ ivh1 a0 16 ∧ ivh1 a0 16 ≤ 2147483647 := W1.int t_a0 16
    have ie322 : ivh1 a0 16 = iv a0 16 := fl1.i t_a0 rfl 16
    refine c_lv (lv2 := [(2, .int (iI 0)), (3, .int (iI 0)), (0, .ref a0), (1, .int (iI i))]) [1, 0, 2, 3] rfl ?_
    exact Lp1 3003 0 0 _ _ _ _ _ (by omega) hX0 W1 F1  (by omega) (by omega) (by show ivh1 (sk 15) 4 = 0; omega) (by omega) (by show ivh1 (sk 2) 2 = iv (sk 2) 2; omega) (fun q => absurd q (by decide)) (fun ss hs => ⟨fun q => absurd q (by decide), fun q => absurd q.1 (by omega)⟩) (fun ss hs => CT.fr hs hW tsk2 fl1 rfl rfl rfl rfl rfl) LTA.zero (by show ivh1 a0 11 = iv a0 11; omega) (by show ivh1 a0 12 = iv a0 12; omega) (by show ivh1 a0 13 = iv a0 13; omega) (by show ivh1 a0 14 = iv a0 14; omega) (by show ivh1 a0 15 = iv a0 15; omega) (by show ivh1 a0 16 = iv a0 16; omega) rfl rfl
  · refine c_aload_n (j := 0) (x := a0) C dX11_head_12 rfl ?_
    refine c_getr (k := 0) C ck_12 dX11_head_13 w2_44 (by decide) t_a0 rfl rfl (by decide) rfl rq1 ?_
    refine c_st (st2 := [.ref (sk 2)]) rfl ?_
    refine c_iconst C dX11_head_16 ?_
    refine c_aload_n (j := 0) (x := a0) C dX11_head_17 rfl ?_
    refine c_getr (k := 0) C ck_12 dX11_head_18 w2_44 (by decide) t_a0 rfl rfl (by decide) rfl rq1 ?_
    refine c_st (st2 := [.ref (sk 2), .int (iI 0), .ref (sk 2)]) rfl ?_
    refine c_get (k := 2) C ck_2 dX11_head_21 w1_44 (by decide) tsk2 rfl rfl (by decide) rfl ?_
    refine c_bipush (z := 33) C dX11_head_24 (by decide) ?_
    refine c_bipush (z := 125) C dX11_head_26 (by decide) ?_
    refine d_callV (As := [.int (iI 0), .int (iI (iv (sk 2) 2)), .int (iI 33), .int (iI 125)]) (rest := []) C hM (C_isWithin_2 (a0 := (sk 2)) (i := 0) (j := iv (sk 2) 2) (lo := 33) (hi := 125) hW hS tsk2 ⟨by decide, by decide⟩ (by omega) ⟨by decide, by decide⟩ ⟨by decide, by decide⟩ ) dX11_head_28 kV_X11_171 rfl tsk2 rfl rfl (by decide) ck_2 rfl (Nat.le_of_ble_eq_true rfl) ⟨(Nat.le_of_ble_eq_true rfl), (Nat.le_of_ble_eq_true rfl)⟩ hph hph (show 0 + 0 = 0 from rfl) (by decide) (fun rh26 Lh26 clh26 lnh26 ivh26 rvh26 h26 => ?_)
    obtain ⟨f26, rfl, rfl, rfl, rfl, rfl, rfl, rgf26, exf26⟩ := h26
    refine c_st (st2 := [.int (iI f26)]) rfl ?_
    have gf26 : ∀ ss, CT iv rv (sk 2) ss → 0 ≤ (0 : Int) → (iv (sk 2) 2) ≤ iv (sk 2) 2 → (f26 = 1 ↔ ∀ x : Nat, (0 : Int) ≤ (x : Int) → (x : Int) < (iv (sk 2) 2) → (33 : Int) ≤ ss x ∧ ss x ≤ (125 : Int)) := exf26
    refine c_if_eq (tgt := 38) C ⟨by omega, by omega⟩ dX11_head_31 (by decide) (fun c12 => ?_) (fun c12 => ?_)
    · refine c_iconst C dX11_head_38 ?_
      refine c_istore_n (lv2 := [(2, .int (iI 0)), (0, .ref a0), (1, .int (iI i))]) C dX11_head_39 (by decide) rfl ?_
      refine c_aload_n (j := 1) (x := a0) C dX11_head_40 rfl ?_
      obtain ⟨rb22, rq22, trb22⟩ := hW.ref t_a0 6 rfl rfl rfl
      have erb22 := hW.sk trb22 (by decide) rfl
      subst erb22
      refine c_getr (k := 6) C ck_12 dX11_head_41 w2_50 (by decide) t_a0 rfl rfl (by decide) rfl rq22 ?_
      refine c_st (st2 := [.ref (sk 15)]) rfl ?_
      refine d_callV (As := []) (rest := []) C hM (G_wclear (a0 := (sk 15)) hW hS tsk15  ) dX11_head_44 kV_X11_272 rfl tsk15 rfl rfl (by decide) ck_7 rfl (Nat.le_of_ble_eq_true rfl) ⟨(Nat.le_of_ble_eq_true rfl), (Nat.le_of_ble_eq_true rfl)⟩ hph hph (show 0 + 0 = 0 from rfl) (by decide) (fun rh27 Lh27 clh27 lnh27 ivh27 rvh27 h27 => ?_)
      obtain ⟨rfl, rfl, rfl, rfl, rfl, fl27, W27, exf27⟩ := h27
      have F21 := hF0.call hX0 fl27 rfl
      have mr21 := MRK.call hmr hW hS XT.refl fl27 rfl rfl
      refine c_st (st2 := []) rfl ?_
      have ri213 : 0 ≤ ivh27 (sk 15) 4 ∧ ivh27 (sk 15) 4 ≤ 500 := W27.int tsk15 4
      have gf27 : ivh27 (sk 15) 4 = 0 := exf27
      refine c_iconst C dX11_head_47 ?_
      refine c_istore_n (lv2 := [(3, .int (iI 0)), (2, .int (iI 0)), (0, .ref a0), (1, .int (iI i))]) C dX11_head_48 (by decide) rfl ?_
      have Lp4 : ∀ (nn : Nat) (fl k : Int) (Lb4 : List Nat) (clb4 lnb4 : Nat → Nat) (ivb4 : Nat → Nat → Int) (rvb4 : Nat → Nat → Option Nat) , 3001 - k < (nn : Int) → XT L cl ln Lb4 clb4 lnb4 → WT (g0 G) sk Lb4 clb4 lnb4 ivb4 rvb4 → fT [1, 2, 5, 35, 15, 50, 51, 52, 53, 54, 55] L cl iv rv ivb4 rvb4 → (fl = 0 ∨ fl = 1) → (0 ≤ k ∧ k ≤ 3000 ∧ k ≤ iv (sk 2) 2) → (ivb4 (sk 15) 4 = k) → ((fl = 0 ∧ k = 0) ∨ fl = 1) → (ivb4 (sk 2) 2 = iv (sk 2) 2) → (fl = 1 → iv (sk 2) 2 ≤ 40) → (HWD iv rv (sk 2) fl) → (∀ ss, CT iv rv (sk 2) ss → CT ivb4 rvb4 (sk 2) ss) → (LTA sk ln iv rv ivb4 rvb4 k) → (ivb4 a0 11 = iv a0 11) → (ivb4 a0 12 = iv a0 12) → (ivb4 a0 13 = iv a0 13) → (ivb4 a0 14 = iv a0 14) → (ivb4 a0 15 = iv a0 15) → (ivb4 a0 16 = iv a0 16) → (rvb4 a0 9 = rv a0 9) → (rvb4 a0 10 = rv a0 10) → cw p l e 8 ((PHM) + 0 - ((Phi (g0 G) sk) ln rv)) s m args below meth c G A 6 (MQ below (Qu G A (Qp G (Phi (g0 G) sk) ((Phi (g0 G) sk) ln rv) 0 (fun v L2 cl2 ln2 iv2 rv2 => ∃ f : Int, v = some (.int (iI f)) ∧ XT L cl ln L2 cl2 ln2 ∧ fT [1, 2, 5, 35, 15, 50, 51, 52, 53, 54, 55] L cl iv rv iv2 rv2 ∧ WT (g0 G) sk L2 cl2 ln2 iv2 rv2 ∧ (-2147483648 ≤ f ∧ f ≤ 2147483647) ∧ (True) ∧ iv2 a0 11 = iv a0 11 ∧ iv2 a0 12 = iv a0 12 ∧ iv2 a0 13 = iv a0 13 ∧ iv2 a0 14 = iv a0 14 ∧ iv2 a0 15 = iv a0 15 ∧ iv2 a0 16 = iv a0 16 ∧ iv2 (sk 2) 2 = 0 ∧ (HDX sk ln iv rv (iv a0 11) i f) ∧ rv2 a0 9 = rv a0 9 ∧ rv2 a0 10 = rv a0 10))) args s (((PHM) + 0 - ((Phi (g0 G) sk) ln rv)) / 16) ((PHM) + 0 - ((Phi (g0 G) sk) ln rv)) A) (Phi (g0 G) sk) ((Phi (g0 G) sk) ln rv) Lb4 clb4 lnb4 ivb4 rvb4 0 49 [(2, .int (iI fl)), (3, .int (iI k)), (0, .ref a0), (1, .int (iI i))] [] := by
        intro nn
        induction nn with
        | zero =>
          intro  fl k Lb4 clb4 lnb4 ivb4 rvb4 hm Xb4 Wb4 Fb4  hfl hk h15 hnm h22 hf40 hWD hCT hLT hkp11 hkp12 hkp13 hkp14 hkp15 hkp16 hkr9 hkr10
          have skb4 := Xb4.skl hS
          exact absurd hm (by omega)
        | succ nn ih4 =>
          intro  fl k Lb4 clb4 lnb4 ivb4 rvb4 hm Xb4 Wb4 Fb4  hfl hk h15 hnm h22 hf40 hWD hCT hLT hkp11 hkp12 hkp13 hkp14 hkp15 hkp16 hkr9 hkr10
          have skb4 := Xb4.skl hS
          have mrb4 := MRK.call hmr hW hS Xb4 Fb4 rfl rfl
          refine c_iload_n (j := 0) C dX11_head_49 rfl ?_
          refine c_if_eq (tgt := 86) C ⟨by omega, by omega⟩ dX11_head_50 (by decide) (fun c13 => ?_) (fun c13 => ?_)
          · refine c_aload_n (j := 2) (x := a0) C dX11_head_86 rfl ?_
            have ty52 := Xb4.ty t_a0
            obtain ⟨rb23, rq23, trb23⟩ := Wb4.ref ty52 0 rfl rfl rfl
            have erb23 := Wb4.sk trb23 (by decide) rfl
            subst erb23
            refine c_getr (k := 0) C ck_12 dX11_head_87 w2_44 (by decide) ty52 rfl rfl (by decide) rfl rq23 ?_
            refine c_st (st2 := [.ref (sk 2)]) rfl ?_
            have ty53 := Xb4.ty tsk2
            have ty54 := Xb4.ty tsk15
            have pl10 := Phi.le Wb4 skb4
            refine d_callV (As := []) (rest := []) C hM (C_clear_2 (a0 := (sk 2)) Wb4 skb4 ty53  ) dX11_head_90 kV_X11_164 rfl ty53 rfl rfl (by decide) ck_2 rfl (Nat.le_of_ble_eq_true rfl) ⟨(Nat.le_of_ble_eq_true rfl), (Nat.le_of_ble_eq_true rfl)⟩ hph pl10 (show 0 + 0 = 0 from rfl) (by decide) (fun rh28 Lh28 clh28 lnh28 ivh28 rvh28 h28 => ?_)
            obtain ⟨rfl, rfl, rfl, rfl, rfl, fl28, W28, exf28⟩ := h28
            have F22 := Fb4.call Xb4 fl28 rfl
            have mr22 := MRK.call mrb4 Wb4 skb4 XT.refl fl28 rfl rfl
            refine c_st (st2 := []) rfl ?_
            have ri214 : 0 ≤ ivh28 (sk 2) 2 ∧ ivh28 (sk 2) 2 ≤ 3000 := W28.int ty53 2
            have gf28 : ivh28 (sk 2) 2 = 0 := exf28
            have hLC := hLT.ni Wb4 fl28 rfl ty54
            have ri215 : 0 ≤ ivh28 (sk 15) 4 ∧ ivh28 (sk 15) 4 ≤ 500 := W28.int ty54 4
            have ie325 : ivh28 (sk 15) 4 = ivb4 (sk 15) 4 := fl28.i ty54 rfl 4
            refine c_iload_n (j := 0) C dX11_head_93 rfl ?_
            refine c_if_ne (tgt := 104) C ⟨by omega, by omega⟩ dX11_head_94 (by decide) (fun c14 => ?_) (fun c14 => ?_)
            · refine c_aload_n (j := 2) (x := a0) C dX11_head_104 rfl ?_
              obtain ⟨rb24, rq24, trb24⟩ := W28.ref ty52 4 rfl rfl rfl
              have erb24 := W28.sk trb24 (by decide) rfl
              subst erb24
              refine c_getr (k := 4) C ck_12 dX11_head_105 w2_48 (by decide) ty52 rfl rfl (by decide) rfl rq24 ?_
              refine c_st (st2 := [.ref (sk 13)]) rfl ?_
              refine c_iload_n (j := 3) C dX11_head_108 rfl ?_
              have ty55 := Xb4.ty tsk13
              refine d_callV (As := [.int (iI i)]) (rest := []) C hM (G_whole (a0 := (sk 13)) (i := i) W28 skb4 ty55 (by omega) mr22) dX11_head_109 kV_X11_231 rfl ty55 rfl rfl (by decide) ck_11 rfl (Nat.le_of_ble_eq_true rfl) ⟨(Nat.le_of_ble_eq_true rfl), (Nat.le_of_ble_eq_true rfl)⟩ hph pl10 (show 0 + 0 = 0 from rfl) (by decide) (fun rh29 Lh29 clh29 lnh29 ivh29 rvh29 h29 => ?_)
              obtain ⟨f29, rfl, rfl, rfl, rfl, rfl, rfl, rgf29, exf29⟩ := h29
              refine c_st (st2 := [(va_rf f29)]) rfl ?_
              have gf29 : WOX sk lnb4 ivh28 rvb4 i f29 := exf29
              refine c_astorer_n (r := f29) (lv2 := [(3, (va_rf f29)), (2, .int (iI fl)), (0, .ref a0), (1, .int (iI i))]) C dX11_head_112 (by decide) rfl ?_
              refine c_aloadr_n (j := 0) (r := f29) C dX11_head_113 rfl ?_
              refine c_ifnonnull (r := f29) (tgt := 123) C dX11_head_114 (by decide) (fun ob3 oq3 => ?_) (fun oq3 => ?_)
              · subst oq3
                have tob3 := rgf29 ob3 rfl
                have wkob3 := gf29
                refine c_lv (lv2 := [(3, .ref ob3), (2, .int (iI fl)), (0, .ref a0), (1, .int (iI i))]) [0, 1, 2, 3] rfl ?_
                refine c_st (st2 := []) rfl ?_
                refine c_aload_n (j := 2) (x := a0) C dX11_head_123 rfl ?_
                obtain ⟨rb25, rq25, trb25⟩ := W28.ref ty52 6 rfl rfl rfl
                have erb25 := W28.sk trb25 (by decide) rfl
                subst erb25
                refine c_getr (k := 6) C ck_12 dX11_head_124 w2_50 (by decide) ty52 rfl rfl (by decide) rfl rq25 ?_
                refine c_st (st2 := [.ref (sk 15)]) rfl ?_
                refine c_aload_n (j := 0) (x := ob3) C dX11_head_127 rfl ?_
                refine d_callV (As := [.ref ob3]) (rest := []) C hM (G_setBy (a0 := (sk 15)) (a1 := ob3) W28 skb4 ty54 tob3  ) dX11_head_128 kV_X11_253 rfl ty54 rfl rfl (by decide) ck_7 rfl (Nat.le_of_ble_eq_true rfl) ⟨(Nat.le_of_ble_eq_true rfl), (Nat.le_of_ble_eq_true rfl)⟩ hph pl10 (show 0 + 0 = 0 from rfl) (by decide) (fun rh30 Lh30 clh30 lnh30 ivh30 rvh30 h30 => ?_)
                obtain ⟨f30, rfl, rfl, rfl, rfl, rfl, fl30, W30, rgf30, exf30⟩ := h30
                have F23 := F22.call Xb4 fl30 rfl
                have mr23 := MRK.call mr22 W28 skb4 XT.refl fl30 rfl rfl
                refine c_st (st2 := [.int (iI f30)]) rfl ?_
                have ri216 : 0 ≤ ivh30 (sk 15) 4 ∧ ivh30 (sk 15) 4 ≤ 500 := W30.int ty54 4
                have ri217 : 0 ≤ ivh30 (sk 15) 7 ∧ ivh30 (sk 15) 7 ≤ 100000 := W30.int ty54 7
                have gf30 : ((f30 = 0 ∨ f30 = 6 ∨ f30 = 7) ∧ ivh30 (sk 15) 4 = ivh28 (sk 15) 4 ∧ (f30 = 0 → ivh30 (sk 15) 7 ≤ 200)) ∧ SBX sk lnb4 ivh28 rvb4 ivh30 (sk 15) ob3 f30 := exf30
                refine c_istore (lv2 := [(4, .int (iI f30)), (3, .ref ob3), (2, .int (iI fl)), (0, .ref a0), (1, .int (iI i))]) C dX11_head_131 (by decide) rfl ?_
                refine c_iload (j := 0) C dX11_head_133 rfl ?_
                refine c_if_eq (tgt := 152) C ⟨by omega, by omega⟩ dX11_head_135 (by decide) (fun c15 => ?_) (fun c15 => ?_)
                · refine c_aload_n (j := 3) (x := a0) C dX11_head_152 rfl ?_
                  obtain ⟨rb26, rq26, trb26⟩ := W30.ref ty52 3 rfl rfl rfl
                  have erb26 := W30.sk trb26 (by decide) rfl
                  subst erb26
                  refine c_getr (k := 3) C ck_12 dX11_head_153 w2_47 (by decide) ty52 rfl rfl (by decide) rfl rq26 ?_
                  refine c_st (st2 := [.ref (sk 5)]) rfl ?_
                  have ty56 := Xb4.ty tsk5
                  refine d_callV (As := []) (rest := []) C hM (C_clear_5 (a0 := (sk 5)) W30 skb4 ty56  ) dX11_head_156 kV_X11_164 rfl ty56 rfl rfl (by decide) ck_2 rfl (Nat.le_of_ble_eq_true rfl) ⟨(Nat.le_of_ble_eq_true rfl), (Nat.le_of_ble_eq_true rfl)⟩ hph pl10 (show 0 + 0 = 0 from rfl) (by decide) (fun rh31 Lh31 clh31 lnh31 ivh31 rvh31 h31 => ?_)
                  obtain ⟨rfl, rfl, rfl, rfl, rfl, fl31, W31, exf31⟩ := h31
                  have F24 := F23.call Xb4 fl31 rfl
                  have mr24 := MRK.call mr23 W30 skb4 XT.refl fl31 rfl rfl
                  refine c_st (st2 := []) rfl ?_
                  have ri218 : 0 ≤ ivh31 (sk 5) 2 ∧ ivh31 (sk 5) 2 ≤ 200 := W31.int ty56 2
                  have gf31 : ivh31 (sk 5) 2 = 0 := exf31
                  refine c_iconst C dX11_head_159 ?_
                  refine c_istore (lv2 := [(5, .int (iI 0)), (4, .int (iI f30)), (3, .ref ob3), (2, .int (iI fl)), (0, .ref a0), (1, .int (iI i))]) C dX11_head_160 (by decide) rfl ?_
                  have Lp5 : ∀ (nn : Nat) (k2 : Int) (Lb5 : List Nat) (clb5 lnb5 : Nat → Nat) (ivb5 : Nat → Nat → Int) (rvb5 : Nat → Nat → Option Nat) , 101 - k2 < (nn : Int) → XT L cl ln Lb5 clb5 lnb5 → WT (g0 G) sk Lb5 clb5 lnb5 ivb5 rvb5 → fT [1, 2, 5, 35, 15, 50, 51, 52, 53, 54, 55] L cl iv rv ivb5 rvb5 → (0 ≤ k2 ∧ k2 ≤ 100) → (ivb5 (sk 15) 7 ≤ 200) → (ivb5 (sk 2) 2 = 0) → (ivb5 (sk 5) 2 = k2) → (k2 ≤ ivb5 (sk 15) 7 ∧ k2 ≤ iv a0 11) → (HDP sk ln iv rv i (ivb5 (sk 15) 7)) → (ivb5 a0 11 = iv a0 11) → (ivb5 a0 12 = iv a0 12) → (ivb5 a0 13 = iv a0 13) → (ivb5 a0 14 = iv a0 14) → (ivb5 a0 15 = iv a0 15) → (ivb5 a0 16 = iv a0 16) → (rvb5 a0 9 = rv a0 9) → (rvb5 a0 10 = rv a0 10) → cw p l e 8 ((PHM) + 0 - ((Phi (g0 G) sk) ln rv)) s m args below meth c G A 6 (MQ below (Qu G A (Qp G (Phi (g0 G) sk) ((Phi (g0 G) sk) ln rv) 0 (fun v L2 cl2 ln2 iv2 rv2 => ∃ f : Int, v = some (.int (iI f)) ∧ XT L cl ln L2 cl2 ln2 ∧ fT [1, 2, 5, 35, 15, 50, 51, 52, 53, 54, 55] L cl iv rv iv2 rv2 ∧ WT (g0 G) sk L2 cl2 ln2 iv2 rv2 ∧ (-2147483648 ≤ f ∧ f ≤ 2147483647) ∧ (True) ∧ iv2 a0 11 = iv a0 11 ∧ iv2 a0 12 = iv a0 12 ∧ iv2 a0 13 = iv a0 13 ∧ iv2 a0 14 = iv a0 14 ∧ iv2 a0 15 = iv a0 15 ∧ iv2 a0 16 = iv a0 16 ∧ iv2 (sk 2) 2 = 0 ∧ (HDX sk ln iv rv (iv a0 11) i f) ∧ rv2 a0 9 = rv a0 9 ∧ rv2 a0 10 = rv a0 10))) args s (((PHM) + 0 - ((Phi (g0 G) sk) ln rv)) / 16) ((PHM) + 0 - ((Phi (g0 G) sk) ln rv)) A) (Phi (g0 G) sk) ((Phi (g0 G) sk) ln rv) Lb5 clb5 lnb5 ivb5 rvb5 0 162 [(5, .int (iI k2)), (4, .int (iI f30)), (3, .ref ob3), (2, .int (iI fl)), (0, .ref a0), (1, .int (iI i))] [] := by
                    intro nn
                    induction nn with
                    | zero =>
                      intro  k2 Lb5 clb5 lnb5 ivb5 rvb5 hm Xb5 Wb5 Fb5  hk2 hco htz h52 hk3 hHD hkp11 hkp12 hkp13 hkp14 hkp15 hkp16 hkr9 hkr10
                      have skb5 := Xb5.skl hS
                      exact absurd hm (by omega)
                    | succ nn ih5 =>
                      intro  k2 Lb5 clb5 lnb5 ivb5 rvb5 hm Xb5 Wb5 Fb5  hk2 hco htz h52 hk3 hHD hkp11 hkp12 hkp13 hkp14 hkp15 hkp16 hkr9 hkr10
                      have skb5 := Xb5.skl hS
                      have mrb5 := MRK.call hmr hW hS Xb5 Fb5 rfl rfl
                      refine c_iload (j := 0) C dX11_head_162 rfl ?_
                      refine c_aload_n (j := 4) (x := a0) C dX11_head_164 rfl ?_
                      have ty57 := Xb5.ty t_a0
                      obtain ⟨rb27, rq27, trb27⟩ := Wb5.ref ty57 6 rfl rfl rfl
                      have erb27 := Wb5.sk trb27 (by decide) rfl
                      subst erb27
                      refine c_getr (k := 6) C ck_12 dX11_head_165 w2_50 (by decide) ty57 rfl rfl (by decide) rfl rq27 ?_
                      refine c_st (st2 := [.ref (sk 15), .int (iI k2)]) rfl ?_
                      have ty58 := Xb5.ty tsk15
                      have ri219 : 0 ≤ ivb5 (sk 15) 7 ∧ ivb5 (sk 15) 7 ≤ 100000 := Wb5.int ty58 7
                      refine c_get (k := 7) C ck_7 dX11_head_168 w1_149 (by decide) ty58 rfl rfl (by decide) rfl ?_
                      refine c_icmp_ge (tgt := 206) C ⟨by omega, by omega⟩ ⟨by omega, by omega⟩ dX11_head_171 (by decide) (fun c16 => ?_) (fun c16 => ?_)
                      · refine c_aload_n (j := 4) (x := a0) C dX11_head_206 rfl ?_
                        refine c_aload_n (j := 4) (x := a0) C dX11_head_207 rfl ?_
                        obtain ⟨rb28, rq28, trb28⟩ := Wb5.ref ty57 3 rfl rfl rfl
                        have erb28 := Wb5.sk trb28 (by decide) rfl
                        subst erb28
                        refine c_getr (k := 3) C ck_12 dX11_head_208 w2_47 (by decide) ty57 rfl rfl (by decide) rfl rq28 ?_
                        refine c_st (st2 := [.ref (sk 5), .ref a0]) rfl ?_
                        have ty59 := Xb5.ty tsk5
                        have ri220 : 0 ≤ ivb5 (sk 5) 2 ∧ ivb5 (sk 5) 2 ≤ 200 := Wb5.int ty59 2
                        refine c_get (k := 2) C ck_2 dX11_head_211 w1_44 (by decide) ty59 rfl rfl (by decide) rfl ?_
                        have pl11 := Phi.le Wb5 skb5
                        refine d_callV (As := [.int (iI (ivb5 (sk 5) 2))]) (rest := []) C hM (C_done (a0 := a0) (x := ivb5 (sk 5) 2) Wb5 skb5 ty57 (by omega) ) dX11_head_214 kV_X11_109 rfl ty57 rfl rfl (by decide) ck_12 rfl (Nat.le_of_ble_eq_true rfl) ⟨(Nat.le_of_ble_eq_true rfl), (Nat.le_of_ble_eq_true rfl)⟩ hph pl11 (show 0 + 0 = 0 from rfl) (by decide) (fun rh32 Lh32 clh32 lnh32 ivh32 rvh32 h32 => ?_)
                        obtain ⟨f32, rfl, rfl, rfl, rfl, rfl, fl32, W32, rgf32, exf32, kp11f32, kp12f32, kp13f32, kp14f32, kp15f32, kp16f32⟩ := h32
                        have ri221 : 1 ≤ ivb5 a0 11 ∧ ivb5 a0 11 ≤ 100 := Wb5.int ty57 11
                        have ri222 : 1 ≤ ivb5 a0 12 ∧ ivb5 a0 12 ≤ 50 := Wb5.int ty57 12
                        have ri223 : (-2147483648) ≤ ivb5 a0 13 ∧ ivb5 a0 13 ≤ 2147483647 := Wb5.int ty57 13
                        have ri224 : (-2147483648) ≤ ivb5 a0 14 ∧ ivb5 a0 14 ≤ 2147483647 := Wb5.int ty57 14
                        have ri225 : (-2147483648) ≤ ivb5 a0 15 ∧ ivb5 a0 15 ≤ 2147483647 := Wb5.int ty57 15
                        have ri226 : (-2147483648) ≤ ivb5 a0 16 ∧ ivb5 a0 16 ≤ 2147483647 := Wb5.int ty57 16
                        have F25 := Fb5.call Xb5 fl32 rfl
                        have mr25 := MRK.call mrb5 Wb5 skb5 XT.refl fl32 rfl rfl
                        refine c_st (st2 := [.int (iI f32)]) rfl ?_
                        have gk11f32 : ivh32 a0 11 = ivb5 a0 11 := kp11f32
                        have gk12f32 : ivh32 a0 12 = ivb5 a0 12 := kp12f32
                        have gk13f32 : ivh32 a0 13 = ivb5 a0 13 := kp13f32
                        have gk14f32 : ivh32 a0 14 = ivb5 a0 14 := kp14f32
                        have gk15f32 : ivh32 a0 15 = ivb5 a0 15 := kp15f32
                        have gk16f32 : ivh32 a0 16 = ivb5 a0 16 := kp16f32
                        have gf32 : f32 = (ivb5 (sk 5) 2) := exf32
                        have ty60 := Xb5.ty tsk2
                        have ri227 : 0 ≤ ivh32 (sk 2) 2 ∧ ivh32 (sk 2) 2 ≤ 3000 := W32.int ty60 2
                        have ie338 : ivh32 (sk 2) 2 = ivb5 (sk 2) 2 := fl32.i ty60 rfl 2
                        have ri228 : 1 ≤ ivh32 a0 11 ∧ ivh32 a0 11 ≤ 100 := W32.int ty57 11
                        have ri229 : 1 ≤ ivh32 a0 12 ∧ ivh32 a0 12 ≤ 50 := W32.int ty57 12
                        have ri230 : (-2147483648) ≤ ivh32 a0 13 ∧ ivh32 a0 13 ≤ 2147483647 := W32.int ty57 13
                        have ri231 : (-2147483648) ≤ ivh32 a0 14 ∧ ivh32 a0 14 ≤ 2147483647 := W32.int ty57 14
                        have ri232 : (-2147483648) ≤ ivh32 a0 15 ∧ ivh32 a0 15 ≤ 2147483647 := W32.int ty57 15
                        have ri233 : (-2147483648) ≤ ivh32 a0 16 ∧ ivh32 a0 16 ≤ 2147483647 := W32.int ty57 16
                        have ri234 : 0 ≤ ivh32 (sk 15) 7 ∧ ivh32 (sk 15) 7 ≤ 100000 := W32.int ty58 7
                        have ie346 : ivh32 (sk 15) 7 = ivb5 (sk 15) 7 := fl32.i ty58 rfl 7
                        have ri235 : 0 ≤ ivh32 (sk 5) 2 ∧ ivh32 (sk 5) 2 ≤ 200 := W32.int ty59 2
                        have ie347 : ivh32 (sk 5) 2 = ivb5 (sk 5) 2 := fl32.i ty59 rfl 2
                        exact c_iret C dX11_head_217 rfl (by decide) (rom0 hph pl11 (by decide)) ⟨f32, rfl, Xb5, F25, W32, ⟨by omega, by omega⟩, trivial, (by omega), (by omega), (by omega), (by omega), (by omega), (by omega), (by omega), (HDX.ok hHD (by omega)), (show rvb5 a0 9 = rv a0 9 from hkr9), (show rvb5 a0 10 = rv a0 10 from hkr10)⟩
                      · refine c_iload (j := 0) C dX11_head_174 rfl ?_
                        refine c_aload_n (j := 4) (x := a0) C dX11_head_176 rfl ?_
                        have ri236 : 1 ≤ ivb5 a0 11 ∧ ivb5 a0 11 ≤ 100 := Wb5.int ty57 11
                        refine c_get (k := 11) C ck_12 dX11_head_177 w2_55 (by decide) ty57 rfl rfl (by decide) rfl ?_
                        refine c_icmp_ge (tgt := 206) C ⟨by omega, by omega⟩ ⟨by omega, by omega⟩ dX11_head_180 (by decide) (fun c17 => ?_) (fun c17 => ?_)
                        · refine c_aload_n (j := 4) (x := a0) C dX11_head_206 rfl ?_
                          refine c_aload_n (j := 4) (x := a0) C dX11_head_207 rfl ?_
                          obtain ⟨rb29, rq29, trb29⟩ := Wb5.ref ty57 3 rfl rfl rfl
                          have erb29 := Wb5.sk trb29 (by decide) rfl
                          subst erb29
                          refine c_getr (k := 3) C ck_12 dX11_head_208 w2_47 (by decide) ty57 rfl rfl (by decide) rfl rq29 ?_
                          refine c_st (st2 := [.ref (sk 5), .ref a0]) rfl ?_
                          have ty61 := Xb5.ty tsk5
                          have ri237 : 0 ≤ ivb5 (sk 5) 2 ∧ ivb5 (sk 5) 2 ≤ 200 := Wb5.int ty61 2
                          refine c_get (k := 2) C ck_2 dX11_head_211 w1_44 (by decide) ty61 rfl rfl (by decide) rfl ?_
                          have pl12 := Phi.le Wb5 skb5
                          refine d_callV (As := [.int (iI (ivb5 (sk 5) 2))]) (rest := []) C hM (C_done (a0 := a0) (x := ivb5 (sk 5) 2) Wb5 skb5 ty57 (by omega) ) dX11_head_214 kV_X11_109 rfl ty57 rfl rfl (by decide) ck_12 rfl (Nat.le_of_ble_eq_true rfl) ⟨(Nat.le_of_ble_eq_true rfl), (Nat.le_of_ble_eq_true rfl)⟩ hph pl12 (show 0 + 0 = 0 from rfl) (by decide) (fun rh33 Lh33 clh33 lnh33 ivh33 rvh33 h33 => ?_)
                          obtain ⟨f33, rfl, rfl, rfl, rfl, rfl, fl33, W33, rgf33, exf33, kp11f33, kp12f33, kp13f33, kp14f33, kp15f33, kp16f33⟩ := h33
                          have ri238 : 1 ≤ ivb5 a0 12 ∧ ivb5 a0 12 ≤ 50 := Wb5.int ty57 12
                          have ri239 : (-2147483648) ≤ ivb5 a0 13 ∧ ivb5 a0 13 ≤ 2147483647 := Wb5.int ty57 13
                          have ri240 : (-2147483648) ≤ ivb5 a0 14 ∧ ivb5 a0 14 ≤ 2147483647 := Wb5.int ty57 14
                          have ri241 : (-2147483648) ≤ ivb5 a0 15 ∧ ivb5 a0 15 ≤ 2147483647 := Wb5.int ty57 15
                          have ri242 : (-2147483648) ≤ ivb5 a0 16 ∧ ivb5 a0 16 ≤ 2147483647 := Wb5.int ty57 16
                          have F26 := Fb5.call Xb5 fl33 rfl
                          have mr26 := MRK.call mrb5 Wb5 skb5 XT.refl fl33 rfl rfl
                          refine c_st (st2 := [.int (iI f33)]) rfl ?_
                          have gk11f33 : ivh33 a0 11 = ivb5 a0 11 := kp11f33
                          have gk12f33 : ivh33 a0 12 = ivb5 a0 12 := kp12f33
                          have gk13f33 : ivh33 a0 13 = ivb5 a0 13 := kp13f33
                          have gk14f33 : ivh33 a0 14 = ivb5 a0 14 := kp14f33
                          have gk15f33 : ivh33 a0 15 = ivb5 a0 15 := kp15f33
                          have gk16f33 : ivh33 a0 16 = ivb5 a0 16 := kp16f33
                          have gf33 : f33 = (ivb5 (sk 5) 2) := exf33
                          have ty62 := Xb5.ty tsk2
                          have ri243 : 0 ≤ ivh33 (sk 2) 2 ∧ ivh33 (sk 2) 2 ≤ 3000 := W33.int ty62 2
                          have ie355 : ivh33 (sk 2) 2 = ivb5 (sk 2) 2 := fl33.i ty62 rfl 2
                          have ri244 : 1 ≤ ivh33 a0 11 ∧ ivh33 a0 11 ≤ 100 := W33.int ty57 11
                          have ri245 : 1 ≤ ivh33 a0 12 ∧ ivh33 a0 12 ≤ 50 := W33.int ty57 12
                          have ri246 : (-2147483648) ≤ ivh33 a0 13 ∧ ivh33 a0 13 ≤ 2147483647 := W33.int ty57 13
                          have ri247 : (-2147483648) ≤ ivh33 a0 14 ∧ ivh33 a0 14 ≤ 2147483647 := W33.int ty57 14
                          have ri248 : (-2147483648) ≤ ivh33 a0 15 ∧ ivh33 a0 15 ≤ 2147483647 := W33.int ty57 15
                          have ri249 : (-2147483648) ≤ ivh33 a0 16 ∧ ivh33 a0 16 ≤ 2147483647 := W33.int ty57 16
                          have ri250 : 0 ≤ ivh33 (sk 15) 7 ∧ ivh33 (sk 15) 7 ≤ 100000 := W33.int ty58 7
                          have ie363 : ivh33 (sk 15) 7 = ivb5 (sk 15) 7 := fl33.i ty58 rfl 7
                          have ri251 : 0 ≤ ivh33 (sk 5) 2 ∧ ivh33 (sk 5) 2 ≤ 200 := W33.int ty61 2
                          have ie364 : ivh33 (sk 5) 2 = ivb5 (sk 5) 2 := fl33.i ty61 rfl 2
                          exact c_iret C dX11_head_217 rfl (by decide) (rom0 hph pl12 (by decide)) ⟨f33, rfl, Xb5, F26, W33, ⟨by omega, by omega⟩, trivial, (by omega), (by omega), (by omega), (by omega), (by omega), (by omega), (by omega), (HDX.ok hHD (by omega)), (show rvb5 a0 9 = rv a0 9 from hkr9), (show rvb5 a0 10 = rv a0 10 from hkr10)⟩
                        · refine c_aload_n (j := 4) (x := a0) C dX11_head_183 rfl ?_
                          obtain ⟨rb30, rq30, trb30⟩ := Wb5.ref ty57 3 rfl rfl rfl
                          have erb30 := Wb5.sk trb30 (by decide) rfl
                          subst erb30
                          refine c_getr (k := 3) C ck_12 dX11_head_184 w2_47 (by decide) ty57 rfl rfl (by decide) rfl rq30 ?_
                          refine c_st (st2 := [.ref (sk 5)]) rfl ?_
                          refine c_aload_n (j := 4) (x := a0) C dX11_head_187 rfl ?_
                          refine c_getr (k := 6) C ck_12 dX11_head_188 w2_50 (by decide) ty57 rfl rfl (by decide) rfl rq27 ?_
                          refine c_st (st2 := [.ref (sk 15), .ref (sk 5)]) rfl ?_
                          obtain ⟨rb31, rq31, trb31⟩ := Wb5.ref ty58 6 rfl rfl rfl
                          have lnrb31 : 200 ≤ lnb5 rb31 ∧ lnb5 rb31 ≤ 200 := Wb5.len trb31 rfl
                          refine c_getr (k := 6) C ck_7 dX11_head_191 w1_146 (by decide) ty58 rfl rfl (by decide) rfl rq31 ?_
                          refine c_st (st2 := [.ref rb31, .ref (sk 5)]) rfl ?_
                          refine c_iload (j := 0) C dX11_head_194 rfl ?_
                          have ll3 : 200 ≤ lnb5 rb31 ∧ lnb5 rb31 ≤ 200 := Wb5.len trb31 rfl
                          refine c_iald C dX11_head_196 trb31 rfl (by omega) (by omega) (by omega) ?_
                          have ri252 : (-2147483648) ≤ ivb5 rb31 k2.toNat ∧ ivb5 rb31 k2.toNat ≤ 2147483647 := Wb5.int trb31 k2.toNat
                          have ty63 := Xb5.ty tsk5
                          have ri253 : 0 ≤ ivb5 (sk 5) 2 ∧ ivb5 (sk 5) 2 ≤ 200 := Wb5.int ty63 2
                          have pl13 := Phi.le Wb5 skb5
                          refine d_callV (As := [.int (iI (ivb5 rb31 k2.toNat))]) (rest := []) C hM (C_add_5 (a0 := (sk 5)) (x := ivb5 rb31 k2.toNat) Wb5 skb5 ty63 (by omega) ) dX11_head_197 kV_X11_112 rfl ty63 rfl rfl (by decide) ck_2 rfl (Nat.le_of_ble_eq_true rfl) ⟨(Nat.le_of_ble_eq_true rfl), (Nat.le_of_ble_eq_true rfl)⟩ hph pl13 (show 0 + 0 = 0 from rfl) (by decide) (fun rh34 Lh34 clh34 lnh34 ivh34 rvh34 h34 => ?_)
                          obtain ⟨rfl, xl34, fl34, W34, exf34⟩ := h34
                          have F27 := Fb5.call Xb5 fl34 rfl
                          have mr27 := MRK.call mrb5 Wb5 skb5 xl34 fl34 rfl rfl
                          have ty64 := Xb5.ty tsk2
                          have ty65 := Xb5.ty tsk3
                          have ty66 := Xb5.ty tsk4
                          have ty67 := Xb5.ty tsk13
                          have ty68 := Xb5.ty tsk14
                          have ty69 := Xb5.ty tsk16
                          have ty70 := Xb5.ty tsk17
                          have ty71 := Xb5.ty tsk22
                          have ty72 := Xb5.ty tsk23
                          have X3 := Xb5.trans xl34
                          have sk3 := xl34.skl skb5
                          refine c_st (st2 := []) rfl ?_
                          have ty73 := xl34.ty ty63
                          have ri254 : 0 ≤ ivh34 (sk 5) 2 ∧ ivh34 (sk 5) 2 ≤ 200 := W34.int ty73 2
                          have gf34 : ((ivh34 (sk 5) 2 = ivb5 (sk 5) 2 ∧ ivb5 (sk 5) 2 = 200) ∨ (ivh34 (sk 5) 2 = ivb5 (sk 5) 2 + 1 ∧ ivb5 (sk 5) 2 < 200)) := exf34
                          refine c_iinc (z := k2) (j := 0) (lv2 := [(5, .int (iI (k2 + 1))), (4, .int (iI f30)), (3, .ref ob3), (2, .int (iI fl)), (0, .ref a0), (1, .int (iI i))]) C dX11_head_200 rfl (by decide) rfl ?_
                          refine c_goto (tgt := 162) C dX11_head_203 (by decide) ?_
                          have ty74 := xl34.ty ty58
                          have ri255 : 0 ≤ ivh34 (sk 15) 7 ∧ ivh34 (sk 15) 7 ≤ 100000 := W34.int ty74 7
                          have ie368 : ivh34 (sk 15) 7 = ivb5 (sk 15) 7 := fl34.i ty58 rfl 7
                          have ty75 := xl34.ty ty64
                          have ri256 : 0 ≤ ivh34 (sk 2) 2 ∧ ivh34 (sk 2) 2 ≤ 3000 := W34.int ty75 2
                          have ie369 : ivh34 (sk 2) 2 = ivb5 (sk 2) 2 := fl34.i ty64 rfl 2
                          have ty76 := xl34.ty ty57
                          have ri257 : 1 ≤ ivh34 a0 11 ∧ ivh34 a0 11 ≤ 100 := W34.int ty76 11
                          have ie371 : ivh34 a0 11 = ivb5 a0 11 := fl34.i ty57 rfl 11
                          have ri258 : 1 ≤ ivh34 a0 12 ∧ ivh34 a0 12 ≤ 50 := W34.int ty76 12
                          have ie372 : ivh34 a0 12 = ivb5 a0 12 := fl34.i ty57 rfl 12
                          have ri259 : (-2147483648) ≤ ivh34 a0 13 ∧ ivh34 a0 13 ≤ 2147483647 := W34.int ty76 13
                          have ie374 : ivh34 a0 13 = ivb5 a0 13 := fl34.i ty57 rfl 13
                          have ri260 : (-2147483648) ≤ ivh34 a0 14 ∧ ivh34 a0 14 ≤ 2147483647 := W34.int ty76 14
                          have ie376 : ivh34 a0 14 = ivb5 a0 14 := fl34.i ty57 rfl 14
                          have ri261 : (-2147483648) ≤ ivh34 a0 15 ∧ ivh34 a0 15 ≤ 2147483647 := W34.int ty76 15
                          have ie378 : ivh34 a0 15 = ivb5 a0 15 := fl34.i ty57 rfl 15
                          have ri262 : (-2147483648) ≤ ivh34 a0 16 ∧ ivh34 a0 16 ≤ 2147483647 := W34.int ty76 16
                          have ie380 : ivh34 a0 16 = ivb5 a0 16 := fl34.i ty57 rfl 16
                          refine c_lv (lv2 := [(5, .int (iI (k2 + 1))), (4, .int (iI f30)), (3, .ref ob3), (2, .int (iI fl)), (0, .ref a0), (1, .int (iI i))]) [0, 1, 2, 3, 4, 5] rfl ?_
                          exact ih5  (k2 + 1) _ _ _ _ _ (by omega) X3 W34 F27  (by omega) (by show ivh34 (sk 15) 7 ≤ 200; omega) (by show ivh34 (sk 2) 2 = 0; omega) (by show ivh34 (sk 5) 2 = (k2 + 1); omega) (by show (k2 + 1) ≤ ivh34 (sk 15) 7 ∧ (k2 + 1) ≤ iv a0 11; omega) (by rw [show ivh34 (sk 15) 7 = ivb5 (sk 15) 7 by omega]; exact hHD) (by show ivh34 a0 11 = iv a0 11; omega) (by show ivh34 a0 12 = iv a0 12; omega) (by show ivh34 a0 13 = iv a0 13; omega) (by show ivh34 a0 14 = iv a0 14; omega) (by show ivh34 a0 15 = iv a0 15; omega) (by show ivh34 a0 16 = iv a0 16; omega) (Eq.trans (show rvh34 a0 9 = rvb5 a0 9 from (fl34.r ty57 rfl 9)) (show rvb5 a0 9 = rv a0 9 from hkr9)) (Eq.trans (show rvh34 a0 10 = rvb5 a0 10 from (fl34.r ty57 rfl 10)) (show rvb5 a0 10 = rv a0 10 from hkr10))
                  have ri263 : 0 ≤ ivh31 (sk 15) 7 ∧ ivh31 (sk 15) 7 ≤ 100000 := W31.int ty54 7
                  have ie382 : ivh31 (sk 15) 7 = ivh30 (sk 15) 7 := fl31.i ty54 rfl 7
                  have ri264 : 0 ≤ ivh31 (sk 2) 2 ∧ ivh31 (sk 2) 2 ≤ 3000 := W31.int ty53 2
                  have ie383 : ivh31 (sk 2) 2 = ivh30 (sk 2) 2 := fl31.i ty53 rfl 2
                  have ie384 : ivh30 (sk 2) 2 = ivh28 (sk 2) 2 := fl30.i ty53 rfl 2
                  have ri265 : 1 ≤ ivh31 a0 11 ∧ ivh31 a0 11 ≤ 100 := W31.int ty52 11
                  have ie385 : ivh31 a0 11 = ivh30 a0 11 := fl31.i ty52 rfl 11
                  have ie386 : ivh30 a0 11 = ivh28 a0 11 := fl30.i ty52 rfl 11
                  have ie387 : ivh28 a0 11 = ivb4 a0 11 := fl28.i ty52 rfl 11
                  have ri266 : 1 ≤ ivh31 a0 12 ∧ ivh31 a0 12 ≤ 50 := W31.int ty52 12
                  have ie389 : ivh31 a0 12 = ivh30 a0 12 := fl31.i ty52 rfl 12
                  have ie390 : ivh30 a0 12 = ivh28 a0 12 := fl30.i ty52 rfl 12
                  have ie391 : ivh28 a0 12 = ivb4 a0 12 := fl28.i ty52 rfl 12
                  have ri267 : (-2147483648) ≤ ivh31 a0 13 ∧ ivh31 a0 13 ≤ 2147483647 := W31.int ty52 13
                  have ie393 : ivh31 a0 13 = ivh30 a0 13 := fl31.i ty52 rfl 13
                  have ie394 : ivh30 a0 13 = ivh28 a0 13 := fl30.i ty52 rfl 13
                  have ie395 : ivh28 a0 13 = ivb4 a0 13 := fl28.i ty52 rfl 13
                  have ri268 : (-2147483648) ≤ ivh31 a0 14 ∧ ivh31 a0 14 ≤ 2147483647 := W31.int ty52 14
                  have ie397 : ivh31 a0 14 = ivh30 a0 14 := fl31.i ty52 rfl 14
                  have ie398 : ivh30 a0 14 = ivh28 a0 14 := fl30.i ty52 rfl 14
                  have ie399 : ivh28 a0 14 = ivb4 a0 14 := fl28.i ty52 rfl 14
                  have ri269 : (-2147483648) ≤ ivh31 a0 15 ∧ ivh31 a0 15 ≤ 2147483647 := W31.int ty52 15
                  have ie401 : ivh31 a0 15 = ivh30 a0 15 := fl31.i ty52 rfl 15
                  have ie402 : ivh30 a0 15 = ivh28 a0 15 := fl30.i ty52 rfl 15
                  have ie403 : ivh28 a0 15 = ivb4 a0 15 := fl28.i ty52 rfl 15
                  have ri270 : (-2147483648) ≤ ivh31 a0 16 ∧ ivh31 a0 16 ≤ 2147483647 := W31.int ty52 16
                  have ie405 : ivh31 a0 16 = ivh30 a0 16 := fl31.i ty52 rfl 16
                  have ie406 : ivh30 a0 16 = ivh28 a0 16 := fl30.i ty52 rfl 16
                  have ie407 : ivh28 a0 16 = ivb4 a0 16 := fl28.i ty52 rfl 16
                  refine c_lv (lv2 := [(5, .int (iI 0)), (4, .int (iI f30)), (3, .ref ob3), (2, .int (iI fl)), (0, .ref a0), (1, .int (iI i))]) [0, 1, 2, 3, 4, 5] rfl ?_
                  exact Lp5 103 0 _ _ _ _ _ (by omega) Xb4 W31 F24  (by omega) (by show ivh31 (sk 15) 7 ≤ 200; omega) (by show ivh31 (sk 2) 2 = 0; omega) (by show ivh31 (sk 5) 2 = 0; omega) (by show 0 ≤ ivh31 (sk 15) 7 ∧ 0 ≤ iv a0 11; omega) (HDP.mk wkob3 (QT.of hW hS Xb4 F22 rfl rfl rfl rfl rfl) hLC (by omega) (by omega) hWD (by omega) gf30.2 (by omega) (by omega)) (by show ivh31 a0 11 = iv a0 11; omega) (by show ivh31 a0 12 = iv a0 12; omega) (by show ivh31 a0 13 = iv a0 13; omega) (by show ivh31 a0 14 = iv a0 14; omega) (by show ivh31 a0 15 = iv a0 15; omega) (by show ivh31 a0 16 = iv a0 16; omega) (show rvb4 a0 9 = rv a0 9 from hkr9) (show rvb4 a0 10 = rv a0 10 from hkr10)
                · refine c_aload_n (j := 3) (x := a0) C dX11_head_138 rfl ?_
                  refine c_iload (j := 0) C dX11_head_139 rfl ?_
                  refine c_aload_n (j := 3) (x := a0) C dX11_head_141 rfl ?_
                  refine c_getr (k := 6) C ck_12 dX11_head_142 w2_50 (by decide) ty52 rfl rfl (by decide) rfl rq25 ?_
                  refine c_st (st2 := [.ref (sk 15), .int (iI f30), .ref a0]) rfl ?_
                  refine d_callV (As := []) (rest := [.int (iI f30), .ref a0]) C hM (C_placeOfUnknown (a0 := (sk 15)) W30 skb4 ty54  ) dX11_head_145 kV_X11_263 rfl ty54 rfl rfl (by decide) ck_7 rfl (Nat.le_of_ble_eq_true rfl) ⟨(Nat.le_of_ble_eq_true rfl), (Nat.le_of_ble_eq_true rfl)⟩ hph pl10 (show 0 + 0 = 0 from rfl) (by decide) (fun rh35 Lh35 clh35 lnh35 ivh35 rvh35 h35 => ?_)
                  obtain ⟨f35, rfl, rfl, rfl, rfl, rfl, rfl, rgf35, exf35⟩ := h35
                  refine c_st (st2 := [.int (iI f35), .int (iI f30), .ref a0]) rfl ?_
                  refine d_callV (As := [.int (iI f30), .int (iI f35)]) (rest := []) C hM (C_refuseAt (a0 := a0) (x := f30) (y := f35) W30 skb4 ty52 (by omega) (by omega) ) dX11_head_148 kV_X11_266 rfl ty52 rfl rfl (by decide) ck_12 rfl (Nat.le_of_ble_eq_true rfl) ⟨(Nat.le_of_ble_eq_true rfl), (Nat.le_of_ble_eq_true rfl)⟩ hph pl10 (show 0 + 0 = 0 from rfl) (by decide) (fun rh36 Lh36 clh36 lnh36 ivh36 rvh36 h36 => ?_)
                  obtain ⟨f36, rfl, rfl, rfl, rfl, rfl, fl36, W36, rgf36, exf36, kp11f36, kp12f36, kp13f36, kp14f36, kp15f36, kp16f36⟩ := h36
                  have ri271 : 1 ≤ ivh30 a0 11 ∧ ivh30 a0 11 ≤ 100 := W30.int ty52 11
                  have ie409 : ivh30 a0 11 = ivh28 a0 11 := fl30.i ty52 rfl 11
                  have ie410 : ivh28 a0 11 = ivb4 a0 11 := fl28.i ty52 rfl 11
                  have ri272 : 1 ≤ ivh30 a0 12 ∧ ivh30 a0 12 ≤ 50 := W30.int ty52 12
                  have ie412 : ivh30 a0 12 = ivh28 a0 12 := fl30.i ty52 rfl 12
                  have ie413 : ivh28 a0 12 = ivb4 a0 12 := fl28.i ty52 rfl 12
                  have ri273 : (-2147483648) ≤ ivh30 a0 13 ∧ ivh30 a0 13 ≤ 2147483647 := W30.int ty52 13
                  have ie415 : ivh30 a0 13 = ivh28 a0 13 := fl30.i ty52 rfl 13
                  have ie416 : ivh28 a0 13 = ivb4 a0 13 := fl28.i ty52 rfl 13
                  have ri274 : (-2147483648) ≤ ivh30 a0 14 ∧ ivh30 a0 14 ≤ 2147483647 := W30.int ty52 14
                  have ie418 : ivh30 a0 14 = ivh28 a0 14 := fl30.i ty52 rfl 14
                  have ie419 : ivh28 a0 14 = ivb4 a0 14 := fl28.i ty52 rfl 14
                  have ri275 : (-2147483648) ≤ ivh30 a0 15 ∧ ivh30 a0 15 ≤ 2147483647 := W30.int ty52 15
                  have ie421 : ivh30 a0 15 = ivh28 a0 15 := fl30.i ty52 rfl 15
                  have ie422 : ivh28 a0 15 = ivb4 a0 15 := fl28.i ty52 rfl 15
                  have ri276 : (-2147483648) ≤ ivh30 a0 16 ∧ ivh30 a0 16 ≤ 2147483647 := W30.int ty52 16
                  have ie424 : ivh30 a0 16 = ivh28 a0 16 := fl30.i ty52 rfl 16
                  have ie425 : ivh28 a0 16 = ivb4 a0 16 := fl28.i ty52 rfl 16
                  have F28 := F23.call Xb4 fl36 rfl
                  have mr28 := MRK.call mr23 W30 skb4 XT.refl fl36 rfl rfl
                  refine c_st (st2 := [.int (iI f36)]) rfl ?_
                  have gk11f36 : ivh36 a0 11 = ivh30 a0 11 := kp11f36
                  have gk12f36 : ivh36 a0 12 = ivh30 a0 12 := kp12f36
                  have gk13f36 : ivh36 a0 13 = ivh30 a0 13 := kp13f36
                  have gk14f36 : ivh36 a0 14 = ivh30 a0 14 := kp14f36
                  have gk15f36 : ivh36 a0 15 = ivh30 a0 15 := kp15f36
                  have gk16f36 : ivh36 a0 16 = ivh30 a0 16 := kp16f36
                  have gf36 : f36 = -1 := exf36
                  have ri277 : 0 ≤ ivh36 (sk 2) 2 ∧ ivh36 (sk 2) 2 ≤ 3000 := W36.int ty53 2
                  have ie427 : ivh36 (sk 2) 2 = ivh30 (sk 2) 2 := fl36.i ty53 rfl 2
                  have ie428 : ivh30 (sk 2) 2 = ivh28 (sk 2) 2 := fl30.i ty53 rfl 2
                  have ri278 : 1 ≤ ivh36 a0 11 ∧ ivh36 a0 11 ≤ 100 := W36.int ty52 11
                  have ri279 : 1 ≤ ivh36 a0 12 ∧ ivh36 a0 12 ≤ 50 := W36.int ty52 12
                  have ri280 : (-2147483648) ≤ ivh36 a0 13 ∧ ivh36 a0 13 ≤ 2147483647 := W36.int ty52 13
                  have ri281 : (-2147483648) ≤ ivh36 a0 14 ∧ ivh36 a0 14 ≤ 2147483647 := W36.int ty52 14
                  have ri282 : (-2147483648) ≤ ivh36 a0 15 ∧ ivh36 a0 15 ≤ 2147483647 := W36.int ty52 15
                  have ri283 : (-2147483648) ≤ ivh36 a0 16 ∧ ivh36 a0 16 ≤ 2147483647 := W36.int ty52 16
                  exact c_iret C dX11_head_151 rfl (by decide) (rom0 hph pl10 (by decide)) ⟨f36, rfl, Xb4, F28, W36, ⟨by omega, by omega⟩, trivial, (by omega), (by omega), (by omega), (by omega), (by omega), (by omega), (by omega), (HDX.ns wkob3 (QT.of hW hS Xb4 F22 rfl rfl rfl rfl rfl) hLC (by omega) (by omega) gf30.2 (by omega) (by omega)), (show rvb4 a0 9 = rv a0 9 from hkr9), (show rvb4 a0 10 = rv a0 10 from hkr10)⟩
              · subst oq3
                refine c_lv (lv2 := [(3, .null), (2, .int (iI fl)), (0, .ref a0), (1, .int (iI i))]) [0, 1, 2, 3] rfl ?_
                refine c_st (st2 := []) rfl ?_
                refine c_aload_n (j := 2) (x := a0) C dX11_head_117 rfl ?_
                refine c_iconst C dX11_head_118 ?_
                refine d_callV (As := [.int (iI 3)]) (rest := []) C hM (C_refuse (a0 := a0) (x := 3) W28 skb4 ty52 ⟨by decide, by decide⟩ ) dX11_head_119 kV_X11_102 rfl ty52 rfl rfl (by decide) ck_12 rfl (Nat.le_of_ble_eq_true rfl) ⟨(Nat.le_of_ble_eq_true rfl), (Nat.le_of_ble_eq_true rfl)⟩ hph pl10 (show 0 + 0 = 0 from rfl) (by decide) (fun rh37 Lh37 clh37 lnh37 ivh37 rvh37 h37 => ?_)
                obtain ⟨f37, rfl, rfl, rfl, rfl, rfl, fl37, W37, rgf37, exf37, kp11f37, kp12f37, kp13f37, kp14f37, kp15f37, kp16f37⟩ := h37
                have ri284 : 1 ≤ ivh28 a0 11 ∧ ivh28 a0 11 ≤ 100 := W28.int ty52 11
                have ie435 : ivh28 a0 11 = ivb4 a0 11 := fl28.i ty52 rfl 11
                have ri285 : 1 ≤ ivh28 a0 12 ∧ ivh28 a0 12 ≤ 50 := W28.int ty52 12
                have ie437 : ivh28 a0 12 = ivb4 a0 12 := fl28.i ty52 rfl 12
                have ri286 : (-2147483648) ≤ ivh28 a0 13 ∧ ivh28 a0 13 ≤ 2147483647 := W28.int ty52 13
                have ie439 : ivh28 a0 13 = ivb4 a0 13 := fl28.i ty52 rfl 13
                have ri287 : (-2147483648) ≤ ivh28 a0 14 ∧ ivh28 a0 14 ≤ 2147483647 := W28.int ty52 14
                have ie441 : ivh28 a0 14 = ivb4 a0 14 := fl28.i ty52 rfl 14
                have ri288 : (-2147483648) ≤ ivh28 a0 15 ∧ ivh28 a0 15 ≤ 2147483647 := W28.int ty52 15
                have ie443 : ivh28 a0 15 = ivb4 a0 15 := fl28.i ty52 rfl 15
                have ri289 : (-2147483648) ≤ ivh28 a0 16 ∧ ivh28 a0 16 ≤ 2147483647 := W28.int ty52 16
                have ie445 : ivh28 a0 16 = ivb4 a0 16 := fl28.i ty52 rfl 16
                have F29 := F22.call Xb4 fl37 rfl
                have mr29 := MRK.call mr22 W28 skb4 XT.refl fl37 rfl rfl
                refine c_st (st2 := [.int (iI f37)]) rfl ?_
                have gk11f37 : ivh37 a0 11 = ivh28 a0 11 := kp11f37
                have gk12f37 : ivh37 a0 12 = ivh28 a0 12 := kp12f37
                have gk13f37 : ivh37 a0 13 = ivh28 a0 13 := kp13f37
                have gk14f37 : ivh37 a0 14 = ivh28 a0 14 := kp14f37
                have gk15f37 : ivh37 a0 15 = ivh28 a0 15 := kp15f37
                have gk16f37 : ivh37 a0 16 = ivh28 a0 16 := kp16f37
                have gf37 : f37 = -1 := exf37
                have ri290 : 0 ≤ ivh37 (sk 2) 2 ∧ ivh37 (sk 2) 2 ≤ 3000 := W37.int ty53 2
                have ie447 : ivh37 (sk 2) 2 = ivh28 (sk 2) 2 := fl37.i ty53 rfl 2
                have ri291 : 1 ≤ ivh37 a0 11 ∧ ivh37 a0 11 ≤ 100 := W37.int ty52 11
                have ri292 : 1 ≤ ivh37 a0 12 ∧ ivh37 a0 12 ≤ 50 := W37.int ty52 12
                have ri293 : (-2147483648) ≤ ivh37 a0 13 ∧ ivh37 a0 13 ≤ 2147483647 := W37.int ty52 13
                have ri294 : (-2147483648) ≤ ivh37 a0 14 ∧ ivh37 a0 14 ≤ 2147483647 := W37.int ty52 14
                have ri295 : (-2147483648) ≤ ivh37 a0 15 ∧ ivh37 a0 15 ≤ 2147483647 := W37.int ty52 15
                have ri296 : (-2147483648) ≤ ivh37 a0 16 ∧ ivh37 a0 16 ≤ 2147483647 := W37.int ty52 16
                exact c_iret C dX11_head_122 rfl (by decide) (rom0 hph pl10 (by decide)) ⟨f37, rfl, Xb4, F29, W37, ⟨by omega, by omega⟩, trivial, (by omega), (by omega), (by omega), (by omega), (by omega), (by omega), (by omega), (HDX.nw gf29 (QT.of hW hS Xb4 F22 rfl rfl rfl rfl rfl) (by omega)), (show rvb4 a0 9 = rv a0 9 from hkr9), (show rvb4 a0 10 = rv a0 10 from hkr10)⟩
            · refine c_aload_n (j := 2) (x := a0) C dX11_head_97 rfl ?_
              refine c_bipush (z := 6) C dX11_head_98 (by decide) ?_
              refine d_callV (As := [.int (iI 6)]) (rest := []) C hM (C_refuse (a0 := a0) (x := 6) W28 skb4 ty52 ⟨by decide, by decide⟩ ) dX11_head_100 kV_X11_102 rfl ty52 rfl rfl (by decide) ck_12 rfl (Nat.le_of_ble_eq_true rfl) ⟨(Nat.le_of_ble_eq_true rfl), (Nat.le_of_ble_eq_true rfl)⟩ hph pl10 (show 0 + 0 = 0 from rfl) (by decide) (fun rh38 Lh38 clh38 lnh38 ivh38 rvh38 h38 => ?_)
              obtain ⟨f38, rfl, rfl, rfl, rfl, rfl, fl38, W38, rgf38, exf38, kp11f38, kp12f38, kp13f38, kp14f38, kp15f38, kp16f38⟩ := h38
              have ri297 : 1 ≤ ivh28 a0 11 ∧ ivh28 a0 11 ≤ 100 := W28.int ty52 11
              have ie454 : ivh28 a0 11 = ivb4 a0 11 := fl28.i ty52 rfl 11
              have ri298 : 1 ≤ ivh28 a0 12 ∧ ivh28 a0 12 ≤ 50 := W28.int ty52 12
              have ie456 : ivh28 a0 12 = ivb4 a0 12 := fl28.i ty52 rfl 12
              have ri299 : (-2147483648) ≤ ivh28 a0 13 ∧ ivh28 a0 13 ≤ 2147483647 := W28.int ty52 13
              have ie458 : ivh28 a0 13 = ivb4 a0 13 := fl28.i ty52 rfl 13
              have ri300 : (-2147483648) ≤ ivh28 a0 14 ∧ ivh28 a0 14 ≤ 2147483647 := W28.int ty52 14
              have ie460 : ivh28 a0 14 = ivb4 a0 14 := fl28.i ty52 rfl 14
              have ri301 : (-2147483648) ≤ ivh28 a0 15 ∧ ivh28 a0 15 ≤ 2147483647 := W28.int ty52 15
              have ie462 : ivh28 a0 15 = ivb4 a0 15 := fl28.i ty52 rfl 15
              have ri302 : (-2147483648) ≤ ivh28 a0 16 ∧ ivh28 a0 16 ≤ 2147483647 := W28.int ty52 16
              have ie464 : ivh28 a0 16 = ivb4 a0 16 := fl28.i ty52 rfl 16
              have F30 := F22.call Xb4 fl38 rfl
              have mr30 := MRK.call mr22 W28 skb4 XT.refl fl38 rfl rfl
              refine c_st (st2 := [.int (iI f38)]) rfl ?_
              have gk11f38 : ivh38 a0 11 = ivh28 a0 11 := kp11f38
              have gk12f38 : ivh38 a0 12 = ivh28 a0 12 := kp12f38
              have gk13f38 : ivh38 a0 13 = ivh28 a0 13 := kp13f38
              have gk14f38 : ivh38 a0 14 = ivh28 a0 14 := kp14f38
              have gk15f38 : ivh38 a0 15 = ivh28 a0 15 := kp15f38
              have gk16f38 : ivh38 a0 16 = ivh28 a0 16 := kp16f38
              have gf38 : f38 = -1 := exf38
              have ri303 : 0 ≤ ivh38 (sk 2) 2 ∧ ivh38 (sk 2) 2 ≤ 3000 := W38.int ty53 2
              have ie466 : ivh38 (sk 2) 2 = ivh28 (sk 2) 2 := fl38.i ty53 rfl 2
              have ri304 : 1 ≤ ivh38 a0 11 ∧ ivh38 a0 11 ≤ 100 := W38.int ty52 11
              have ri305 : 1 ≤ ivh38 a0 12 ∧ ivh38 a0 12 ≤ 50 := W38.int ty52 12
              have ri306 : (-2147483648) ≤ ivh38 a0 13 ∧ ivh38 a0 13 ≤ 2147483647 := W38.int ty52 13
              have ri307 : (-2147483648) ≤ ivh38 a0 14 ∧ ivh38 a0 14 ≤ 2147483647 := W38.int ty52 14
              have ri308 : (-2147483648) ≤ ivh38 a0 15 ∧ ivh38 a0 15 ≤ 2147483647 := W38.int ty52 15
              have ri309 : (-2147483648) ≤ ivh38 a0 16 ∧ ivh38 a0 16 ≤ 2147483647 := W38.int ty52 16
              exact c_iret C dX11_head_103 rfl (by decide) (rom0 hph pl10 (by decide)) ⟨f38, rfl, Xb4, F30, W38, ⟨by omega, by omega⟩, trivial, (by omega), (by omega), (by omega), (by omega), (by omega), (by omega), (by omega), (HDX.bad hWD (by omega) (by omega)), (show rvb4 a0 9 = rv a0 9 from hkr9), (show rvb4 a0 10 = rv a0 10 from hkr10)⟩
          · refine c_iload_n (j := 1) C dX11_head_53 rfl ?_
            refine c_aload_n (j := 2) (x := a0) C dX11_head_54 rfl ?_
            have ty77 := Xb4.ty t_a0
            obtain ⟨rb32, rq32, trb32⟩ := Wb4.ref ty77 0 rfl rfl rfl
            have erb32 := Wb4.sk trb32 (by decide) rfl
            subst erb32
            refine c_getr (k := 0) C ck_12 dX11_head_55 w2_44 (by decide) ty77 rfl rfl (by decide) rfl rq32 ?_
            refine c_st (st2 := [.ref (sk 2), .int (iI k)]) rfl ?_
            have ty78 := Xb4.ty tsk2
            have ri310 : 0 ≤ ivb4 (sk 2) 2 ∧ ivb4 (sk 2) 2 ≤ 3000 := Wb4.int ty78 2
            refine c_get (k := 2) C ck_2 dX11_head_58 w1_44 (by decide) ty78 rfl rfl (by decide) rfl ?_
            refine c_icmp_ge (tgt := 86) C ⟨by omega, by omega⟩ ⟨by omega, by omega⟩ dX11_head_61 (by decide) (fun c18 => ?_) (fun c18 => ?_)
            · refine c_aload_n (j := 2) (x := a0) C dX11_head_86 rfl ?_
              refine c_getr (k := 0) C ck_12 dX11_head_87 w2_44 (by decide) ty77 rfl rfl (by decide) rfl rq32 ?_
              refine c_st (st2 := [.ref (sk 2)]) rfl ?_
              have ty79 := Xb4.ty tsk15
              have pl14 := Phi.le Wb4 skb4
              refine d_callV (As := []) (rest := []) C hM (C_clear_2 (a0 := (sk 2)) Wb4 skb4 ty78  ) dX11_head_90 kV_X11_164 rfl ty78 rfl rfl (by decide) ck_2 rfl (Nat.le_of_ble_eq_true rfl) ⟨(Nat.le_of_ble_eq_true rfl), (Nat.le_of_ble_eq_true rfl)⟩ hph pl14 (show 0 + 0 = 0 from rfl) (by decide) (fun rh39 Lh39 clh39 lnh39 ivh39 rvh39 h39 => ?_)
              obtain ⟨rfl, rfl, rfl, rfl, rfl, fl39, W39, exf39⟩ := h39
              have F31 := Fb4.call Xb4 fl39 rfl
              have mr31 := MRK.call mrb4 Wb4 skb4 XT.refl fl39 rfl rfl
              refine c_st (st2 := []) rfl ?_
              have ri311 : 0 ≤ ivh39 (sk 2) 2 ∧ ivh39 (sk 2) 2 ≤ 3000 := W39.int ty78 2
              have gf39 : ivh39 (sk 2) 2 = 0 := exf39
              have hLC := hLT.ni Wb4 fl39 rfl ty79
              have ri312 : 0 ≤ ivh39 (sk 15) 4 ∧ ivh39 (sk 15) 4 ≤ 500 := W39.int ty79 4
              have ie475 : ivh39 (sk 15) 4 = ivb4 (sk 15) 4 := fl39.i ty79 rfl 4
              refine c_iload_n (j := 0) C dX11_head_93 rfl ?_
              refine c_if_ne (tgt := 104) C ⟨by omega, by omega⟩ dX11_head_94 (by decide) (fun c19 => ?_) (fun c19 => ?_)
              · refine c_aload_n (j := 2) (x := a0) C dX11_head_104 rfl ?_
                obtain ⟨rb33, rq33, trb33⟩ := W39.ref ty77 4 rfl rfl rfl
                have erb33 := W39.sk trb33 (by decide) rfl
                subst erb33
                refine c_getr (k := 4) C ck_12 dX11_head_105 w2_48 (by decide) ty77 rfl rfl (by decide) rfl rq33 ?_
                refine c_st (st2 := [.ref (sk 13)]) rfl ?_
                refine c_iload_n (j := 3) C dX11_head_108 rfl ?_
                have ty80 := Xb4.ty tsk13
                refine d_callV (As := [.int (iI i)]) (rest := []) C hM (G_whole (a0 := (sk 13)) (i := i) W39 skb4 ty80 (by omega) mr31) dX11_head_109 kV_X11_231 rfl ty80 rfl rfl (by decide) ck_11 rfl (Nat.le_of_ble_eq_true rfl) ⟨(Nat.le_of_ble_eq_true rfl), (Nat.le_of_ble_eq_true rfl)⟩ hph pl14 (show 0 + 0 = 0 from rfl) (by decide) (fun rh40 Lh40 clh40 lnh40 ivh40 rvh40 h40 => ?_)
                obtain ⟨f40, rfl, rfl, rfl, rfl, rfl, rfl, rgf40, exf40⟩ := h40
                refine c_st (st2 := [(va_rf f40)]) rfl ?_
                have gf40 : WOX sk lnb4 ivh39 rvb4 i f40 := exf40
                refine c_astorer_n (r := f40) (lv2 := [(3, (va_rf f40)), (2, .int (iI fl)), (0, .ref a0), (1, .int (iI i))]) C dX11_head_112 (by decide) rfl ?_
                refine c_aloadr_n (j := 0) (r := f40) C dX11_head_113 rfl ?_
                refine c_ifnonnull (r := f40) (tgt := 123) C dX11_head_114 (by decide) (fun ob4 oq4 => ?_) (fun oq4 => ?_)
                · subst oq4
                  have tob4 := rgf40 ob4 rfl
                  have wkob4 := gf40
                  refine c_lv (lv2 := [(3, .ref ob4), (2, .int (iI fl)), (0, .ref a0), (1, .int (iI i))]) [0, 1, 2, 3] rfl ?_
                  refine c_st (st2 := []) rfl ?_
                  refine c_aload_n (j := 2) (x := a0) C dX11_head_123 rfl ?_
                  obtain ⟨rb34, rq34, trb34⟩ := W39.ref ty77 6 rfl rfl rfl
                  have erb34 := W39.sk trb34 (by decide) rfl
                  subst erb34
                  refine c_getr (k := 6) C ck_12 dX11_head_124 w2_50 (by decide) ty77 rfl rfl (by decide) rfl rq34 ?_
                  refine c_st (st2 := [.ref (sk 15)]) rfl ?_
                  refine c_aload_n (j := 0) (x := ob4) C dX11_head_127 rfl ?_
                  refine d_callV (As := [.ref ob4]) (rest := []) C hM (G_setBy (a0 := (sk 15)) (a1 := ob4) W39 skb4 ty79 tob4  ) dX11_head_128 kV_X11_253 rfl ty79 rfl rfl (by decide) ck_7 rfl (Nat.le_of_ble_eq_true rfl) ⟨(Nat.le_of_ble_eq_true rfl), (Nat.le_of_ble_eq_true rfl)⟩ hph pl14 (show 0 + 0 = 0 from rfl) (by decide) (fun rh41 Lh41 clh41 lnh41 ivh41 rvh41 h41 => ?_)
                  obtain ⟨f41, rfl, rfl, rfl, rfl, rfl, fl41, W41, rgf41, exf41⟩ := h41
                  have F32 := F31.call Xb4 fl41 rfl
                  have mr32 := MRK.call mr31 W39 skb4 XT.refl fl41 rfl rfl
                  refine c_st (st2 := [.int (iI f41)]) rfl ?_
                  have ri313 : 0 ≤ ivh41 (sk 15) 4 ∧ ivh41 (sk 15) 4 ≤ 500 := W41.int ty79 4
                  have ri314 : 0 ≤ ivh41 (sk 15) 7 ∧ ivh41 (sk 15) 7 ≤ 100000 := W41.int ty79 7
                  have gf41 : ((f41 = 0 ∨ f41 = 6 ∨ f41 = 7) ∧ ivh41 (sk 15) 4 = ivh39 (sk 15) 4 ∧ (f41 = 0 → ivh41 (sk 15) 7 ≤ 200)) ∧ SBX sk lnb4 ivh39 rvb4 ivh41 (sk 15) ob4 f41 := exf41
                  refine c_istore (lv2 := [(4, .int (iI f41)), (3, .ref ob4), (2, .int (iI fl)), (0, .ref a0), (1, .int (iI i))]) C dX11_head_131 (by decide) rfl ?_
                  refine c_iload (j := 0) C dX11_head_133 rfl ?_
                  refine c_if_eq (tgt := 152) C ⟨by omega, by omega⟩ dX11_head_135 (by decide) (fun c20 => ?_) (fun c20 => ?_)
                  · refine c_aload_n (j := 3) (x := a0) C dX11_head_152 rfl ?_
                    obtain ⟨rb35, rq35, trb35⟩ := W41.ref ty77 3 rfl rfl rfl
                    have erb35 := W41.sk trb35 (by decide) rfl
                    subst erb35
                    refine c_getr (k := 3) C ck_12 dX11_head_153 w2_47 (by decide) ty77 rfl rfl (by decide) rfl rq35 ?_
                    refine c_st (st2 := [.ref (sk 5)]) rfl ?_
                    have ty81 := Xb4.ty tsk5
                    refine d_callV (As := []) (rest := []) C hM (C_clear_5 (a0 := (sk 5)) W41 skb4 ty81  ) dX11_head_156 kV_X11_164 rfl ty81 rfl rfl (by decide) ck_2 rfl (Nat.le_of_ble_eq_true rfl) ⟨(Nat.le_of_ble_eq_true rfl), (Nat.le_of_ble_eq_true rfl)⟩ hph pl14 (show 0 + 0 = 0 from rfl) (by decide) (fun rh42 Lh42 clh42 lnh42 ivh42 rvh42 h42 => ?_)
                    obtain ⟨rfl, rfl, rfl, rfl, rfl, fl42, W42, exf42⟩ := h42
                    have F33 := F32.call Xb4 fl42 rfl
                    have mr33 := MRK.call mr32 W41 skb4 XT.refl fl42 rfl rfl
                    refine c_st (st2 := []) rfl ?_
                    have ri315 : 0 ≤ ivh42 (sk 5) 2 ∧ ivh42 (sk 5) 2 ≤ 200 := W42.int ty81 2
                    have gf42 : ivh42 (sk 5) 2 = 0 := exf42
                    refine c_iconst C dX11_head_159 ?_
                    refine c_istore (lv2 := [(5, .int (iI 0)), (4, .int (iI f41)), (3, .ref ob4), (2, .int (iI fl)), (0, .ref a0), (1, .int (iI i))]) C dX11_head_160 (by decide) rfl ?_
                    have Lp6 : ∀ (nn : Nat) (k2 : Int) (Lb6 : List Nat) (clb6 lnb6 : Nat → Nat) (ivb6 : Nat → Nat → Int) (rvb6 : Nat → Nat → Option Nat) , 101 - k2 < (nn : Int) → XT L cl ln Lb6 clb6 lnb6 → WT (g0 G) sk Lb6 clb6 lnb6 ivb6 rvb6 → fT [1, 2, 5, 35, 15, 50, 51, 52, 53, 54, 55] L cl iv rv ivb6 rvb6 → (0 ≤ k2 ∧ k2 ≤ 100) → (ivb6 (sk 15) 7 ≤ 200) → (ivb6 (sk 2) 2 = 0) → (ivb6 (sk 5) 2 = k2) → (k2 ≤ ivb6 (sk 15) 7 ∧ k2 ≤ iv a0 11) → (HDP sk ln iv rv i (ivb6 (sk 15) 7)) → (ivb6 a0 11 = iv a0 11) → (ivb6 a0 12 = iv a0 12) → (ivb6 a0 13 = iv a0 13) → (ivb6 a0 14 = iv a0 14) → (ivb6 a0 15 = iv a0 15) → (ivb6 a0 16 = iv a0 16) → (rvb6 a0 9 = rv a0 9) → (rvb6 a0 10 = rv a0 10) → cw p l e 8 ((PHM) + 0 - ((Phi (g0 G) sk) ln rv)) s m args below meth c G A 6 (MQ below (Qu G A (Qp G (Phi (g0 G) sk) ((Phi (g0 G) sk) ln rv) 0 (fun v L2 cl2 ln2 iv2 rv2 => ∃ f : Int, v = some (.int (iI f)) ∧ XT L cl ln L2 cl2 ln2 ∧ fT [1, 2, 5, 35, 15, 50, 51, 52, 53, 54, 55] L cl iv rv iv2 rv2 ∧ WT (g0 G) sk L2 cl2 ln2 iv2 rv2 ∧ (-2147483648 ≤ f ∧ f ≤ 2147483647) ∧ (True) ∧ iv2 a0 11 = iv a0 11 ∧ iv2 a0 12 = iv a0 12 ∧ iv2 a0 13 = iv a0 13 ∧ iv2 a0 14 = iv a0 14 ∧ iv2 a0 15 = iv a0 15 ∧ iv2 a0 16 = iv a0 16 ∧ iv2 (sk 2) 2 = 0 ∧ (HDX sk ln iv rv (iv a0 11) i f) ∧ rv2 a0 9 = rv a0 9 ∧ rv2 a0 10 = rv a0 10))) args s (((PHM) + 0 - ((Phi (g0 G) sk) ln rv)) / 16) ((PHM) + 0 - ((Phi (g0 G) sk) ln rv)) A) (Phi (g0 G) sk) ((Phi (g0 G) sk) ln rv) Lb6 clb6 lnb6 ivb6 rvb6 0 162 [(5, .int (iI k2)), (4, .int (iI f41)), (3, .ref ob4), (2, .int (iI fl)), (0, .ref a0), (1, .int (iI i))] [] := by
                      intro nn
                      induction nn with
                      | zero =>
                        intro  k2 Lb6 clb6 lnb6 ivb6 rvb6 hm Xb6 Wb6 Fb6  hk2 hco htz h52 hk3 hHD hkp11 hkp12 hkp13 hkp14 hkp15 hkp16 hkr9 hkr10
                        have skb6 := Xb6.skl hS
                        exact absurd hm (by omega)
                      | succ nn ih6 =>
                        intro  k2 Lb6 clb6 lnb6 ivb6 rvb6 hm Xb6 Wb6 Fb6  hk2 hco htz h52 hk3 hHD hkp11 hkp12 hkp13 hkp14 hkp15 hkp16 hkr9 hkr10
                        have skb6 := Xb6.skl hS
                        have mrb6 := MRK.call hmr hW hS Xb6 Fb6 rfl rfl
                        refine c_iload (j := 0) C dX11_head_162 rfl ?_
                        refine c_aload_n (j := 4) (x := a0) C dX11_head_164 rfl ?_
                        have ty82 := Xb6.ty t_a0
                        obtain ⟨rb36, rq36, trb36⟩ := Wb6.ref ty82 6 rfl rfl rfl
                        have erb36 := Wb6.sk trb36 (by decide) rfl
                        subst erb36
                        refine c_getr (k := 6) C ck_12 dX11_head_165 w2_50 (by decide) ty82 rfl rfl (by decide) rfl rq36 ?_
                        refine c_st (st2 := [.ref (sk 15), .int (iI k2)]) rfl ?_
                        have ty83 := Xb6.ty tsk15
                        have ri316 : 0 ≤ ivb6 (sk 15) 7 ∧ ivb6 (sk 15) 7 ≤ 100000 := Wb6.int ty83 7
                        refine c_get (k := 7) C ck_7 dX11_head_168 w1_149 (by decide) ty83 rfl rfl (by decide) rfl ?_
                        refine c_icmp_ge (tgt := 206) C ⟨by omega, by omega⟩ ⟨by omega, by omega⟩ dX11_head_171 (by decide) (fun c21 => ?_) (fun c21 => ?_)
                        · refine c_aload_n (j := 4) (x := a0) C dX11_head_206 rfl ?_
                          refine c_aload_n (j := 4) (x := a0) C dX11_head_207 rfl ?_
                          obtain ⟨rb37, rq37, trb37⟩ := Wb6.ref ty82 3 rfl rfl rfl
                          have erb37 := Wb6.sk trb37 (by decide) rfl
                          subst erb37
                          refine c_getr (k := 3) C ck_12 dX11_head_208 w2_47 (by decide) ty82 rfl rfl (by decide) rfl rq37 ?_
                          refine c_st (st2 := [.ref (sk 5), .ref a0]) rfl ?_
                          have ty84 := Xb6.ty tsk5
                          have ri317 : 0 ≤ ivb6 (sk 5) 2 ∧ ivb6 (sk 5) 2 ≤ 200 := Wb6.int ty84 2
                          refine c_get (k := 2) C ck_2 dX11_head_211 w1_44 (by decide) ty84 rfl rfl (by decide) rfl ?_
                          have pl15 := Phi.le Wb6 skb6
                          refine d_callV (As := [.int (iI (ivb6 (sk 5) 2))]) (rest := []) C hM (C_done (a0 := a0) (x := ivb6 (sk 5) 2) Wb6 skb6 ty82 (by omega) ) dX11_head_214 kV_X11_109 rfl ty82 rfl rfl (by decide) ck_12 rfl (Nat.le_of_ble_eq_true rfl) ⟨(Nat.le_of_ble_eq_true rfl), (Nat.le_of_ble_eq_true rfl)⟩ hph pl15 (show 0 + 0 = 0 from rfl) (by decide) (fun rh43 Lh43 clh43 lnh43 ivh43 rvh43 h43 => ?_)
                          obtain ⟨f43, rfl, rfl, rfl, rfl, rfl, fl43, W43, rgf43, exf43, kp11f43, kp12f43, kp13f43, kp14f43, kp15f43, kp16f43⟩ := h43
                          have ri318 : 1 ≤ ivb6 a0 11 ∧ ivb6 a0 11 ≤ 100 := Wb6.int ty82 11
                          have ri319 : 1 ≤ ivb6 a0 12 ∧ ivb6 a0 12 ≤ 50 := Wb6.int ty82 12
                          have ri320 : (-2147483648) ≤ ivb6 a0 13 ∧ ivb6 a0 13 ≤ 2147483647 := Wb6.int ty82 13
                          have ri321 : (-2147483648) ≤ ivb6 a0 14 ∧ ivb6 a0 14 ≤ 2147483647 := Wb6.int ty82 14
                          have ri322 : (-2147483648) ≤ ivb6 a0 15 ∧ ivb6 a0 15 ≤ 2147483647 := Wb6.int ty82 15
                          have ri323 : (-2147483648) ≤ ivb6 a0 16 ∧ ivb6 a0 16 ≤ 2147483647 := Wb6.int ty82 16
                          have F34 := Fb6.call Xb6 fl43 rfl
                          have mr34 := MRK.call mrb6 Wb6 skb6 XT.refl fl43 rfl rfl
                          refine c_st (st2 := [.int (iI f43)]) rfl ?_
                          have gk11f43 : ivh43 a0 11 = ivb6 a0 11 := kp11f43
                          have gk12f43 : ivh43 a0 12 = ivb6 a0 12 := kp12f43
                          have gk13f43 : ivh43 a0 13 = ivb6 a0 13 := kp13f43
                          have gk14f43 : ivh43 a0 14 = ivb6 a0 14 := kp14f43
                          have gk15f43 : ivh43 a0 15 = ivb6 a0 15 := kp15f43
                          have gk16f43 : ivh43 a0 16 = ivb6 a0 16 := kp16f43
                          have gf43 : f43 = (ivb6 (sk 5) 2) := exf43
                          have ty85 := Xb6.ty tsk2
                          have ri324 : 0 ≤ ivh43 (sk 2) 2 ∧ ivh43 (sk 2) 2 ≤ 3000 := W43.int ty85 2
                          have ie488 : ivh43 (sk 2) 2 = ivb6 (sk 2) 2 := fl43.i ty85 rfl 2
                          have ri325 : 1 ≤ ivh43 a0 11 ∧ ivh43 a0 11 ≤ 100 := W43.int ty82 11
                          have ri326 : 1 ≤ ivh43 a0 12 ∧ ivh43 a0 12 ≤ 50 := W43.int ty82 12
                          have ri327 : (-2147483648) ≤ ivh43 a0 13 ∧ ivh43 a0 13 ≤ 2147483647 := W43.int ty82 13
                          have ri328 : (-2147483648) ≤ ivh43 a0 14 ∧ ivh43 a0 14 ≤ 2147483647 := W43.int ty82 14
                          have ri329 : (-2147483648) ≤ ivh43 a0 15 ∧ ivh43 a0 15 ≤ 2147483647 := W43.int ty82 15
                          have ri330 : (-2147483648) ≤ ivh43 a0 16 ∧ ivh43 a0 16 ≤ 2147483647 := W43.int ty82 16
                          have ri331 : 0 ≤ ivh43 (sk 15) 7 ∧ ivh43 (sk 15) 7 ≤ 100000 := W43.int ty83 7
                          have ie496 : ivh43 (sk 15) 7 = ivb6 (sk 15) 7 := fl43.i ty83 rfl 7
                          have ri332 : 0 ≤ ivh43 (sk 5) 2 ∧ ivh43 (sk 5) 2 ≤ 200 := W43.int ty84 2
                          have ie497 : ivh43 (sk 5) 2 = ivb6 (sk 5) 2 := fl43.i ty84 rfl 2
                          exact c_iret C dX11_head_217 rfl (by decide) (rom0 hph pl15 (by decide)) ⟨f43, rfl, Xb6, F34, W43, ⟨by omega, by omega⟩, trivial, (by omega), (by omega), (by omega), (by omega), (by omega), (by omega), (by omega), (HDX.ok hHD (by omega)), (show rvb6 a0 9 = rv a0 9 from hkr9), (show rvb6 a0 10 = rv a0 10 from hkr10)⟩
                        · refine c_iload (j := 0) C dX11_head_174 rfl ?_
                          refine c_aload_n (j := 4) (x := a0) C dX11_head_176 rfl ?_
                          have ri333 : 1 ≤ ivb6 a0 11 ∧ ivb6 a0 11 ≤ 100 := Wb6.int ty82 11
                          refine c_get (k := 11) C ck_12 dX11_head_177 w2_55 (by decide) ty82 rfl rfl (by decide) rfl ?_
                          refine c_icmp_ge (tgt := 206) C ⟨by omega, by omega⟩ ⟨by omega, by omega⟩ dX11_head_180 (by decide) (fun c22 => ?_) (fun c22 => ?_)
                          · refine c_aload_n (j := 4) (x := a0) C dX11_head_206 rfl ?_
                            refine c_aload_n (j := 4) (x := a0) C dX11_head_207 rfl ?_
                            obtain ⟨rb38, rq38, trb38⟩ := Wb6.ref ty82 3 rfl rfl rfl
                            have erb38 := Wb6.sk trb38 (by decide) rfl
                            subst erb38
                            refine c_getr (k := 3) C ck_12 dX11_head_208 w2_47 (by decide) ty82 rfl rfl (by decide) rfl rq38 ?_
                            refine c_st (st2 := [.ref (sk 5), .ref a0]) rfl ?_
                            have ty86 := Xb6.ty tsk5
                            have ri334 : 0 ≤ ivb6 (sk 5) 2 ∧ ivb6 (sk 5) 2 ≤ 200 := Wb6.int ty86 2
                            refine c_get (k := 2) C ck_2 dX11_head_211 w1_44 (by decide) ty86 rfl rfl (by decide) rfl ?_
                            have pl16 := Phi.le Wb6 skb6
                            refine d_callV (As := [.int (iI (ivb6 (sk 5) 2))]) (rest := []) C hM (C_done (a0 := a0) (x := ivb6 (sk 5) 2) Wb6 skb6 ty82 (by omega) ) dX11_head_214 kV_X11_109 rfl ty82 rfl rfl (by decide) ck_12 rfl (Nat.le_of_ble_eq_true rfl) ⟨(Nat.le_of_ble_eq_true rfl), (Nat.le_of_ble_eq_true rfl)⟩ hph pl16 (show 0 + 0 = 0 from rfl) (by decide) (fun rh44 Lh44 clh44 lnh44 ivh44 rvh44 h44 => ?_)
                            obtain ⟨f44, rfl, rfl, rfl, rfl, rfl, fl44, W44, rgf44, exf44, kp11f44, kp12f44, kp13f44, kp14f44, kp15f44, kp16f44⟩ := h44
                            have ri335 : 1 ≤ ivb6 a0 12 ∧ ivb6 a0 12 ≤ 50 := Wb6.int ty82 12
                            have ri336 : (-2147483648) ≤ ivb6 a0 13 ∧ ivb6 a0 13 ≤ 2147483647 := Wb6.int ty82 13
                            have ri337 : (-2147483648) ≤ ivb6 a0 14 ∧ ivb6 a0 14 ≤ 2147483647 := Wb6.int ty82 14
                            have ri338 : (-2147483648) ≤ ivb6 a0 15 ∧ ivb6 a0 15 ≤ 2147483647 := Wb6.int ty82 15
                            have ri339 : (-2147483648) ≤ ivb6 a0 16 ∧ ivb6 a0 16 ≤ 2147483647 := Wb6.int ty82 16
                            have F35 := Fb6.call Xb6 fl44 rfl
                            have mr35 := MRK.call mrb6 Wb6 skb6 XT.refl fl44 rfl rfl
                            refine c_st (st2 := [.int (iI f44)]) rfl ?_
                            have gk11f44 : ivh44 a0 11 = ivb6 a0 11 := kp11f44
                            have gk12f44 : ivh44 a0 12 = ivb6 a0 12 := kp12f44
                            have gk13f44 : ivh44 a0 13 = ivb6 a0 13 := kp13f44
                            have gk14f44 : ivh44 a0 14 = ivb6 a0 14 := kp14f44
                            have gk15f44 : ivh44 a0 15 = ivb6 a0 15 := kp15f44
                            have gk16f44 : ivh44 a0 16 = ivb6 a0 16 := kp16f44
                            have gf44 : f44 = (ivb6 (sk 5) 2) := exf44
                            have ty87 := Xb6.ty tsk2
                            have ri340 : 0 ≤ ivh44 (sk 2) 2 ∧ ivh44 (sk 2) 2 ≤ 3000 := W44.int ty87 2
                            have ie505 : ivh44 (sk 2) 2 = ivb6 (sk 2) 2 := fl44.i ty87 rfl 2
                            have ri341 : 1 ≤ ivh44 a0 11 ∧ ivh44 a0 11 ≤ 100 := W44.int ty82 11
                            have ri342 : 1 ≤ ivh44 a0 12 ∧ ivh44 a0 12 ≤ 50 := W44.int ty82 12
                            have ri343 : (-2147483648) ≤ ivh44 a0 13 ∧ ivh44 a0 13 ≤ 2147483647 := W44.int ty82 13
                            have ri344 : (-2147483648) ≤ ivh44 a0 14 ∧ ivh44 a0 14 ≤ 2147483647 := W44.int ty82 14
                            have ri345 : (-2147483648) ≤ ivh44 a0 15 ∧ ivh44 a0 15 ≤ 2147483647 := W44.int ty82 15
                            have ri346 : (-2147483648) ≤ ivh44 a0 16 ∧ ivh44 a0 16 ≤ 2147483647 := W44.int ty82 16
                            have ri347 : 0 ≤ ivh44 (sk 15) 7 ∧ ivh44 (sk 15) 7 ≤ 100000 := W44.int ty83 7
                            have ie513 : ivh44 (sk 15) 7 = ivb6 (sk 15) 7 := fl44.i ty83 rfl 7
                            have ri348 : 0 ≤ ivh44 (sk 5) 2 ∧ ivh44 (sk 5) 2 ≤ 200 := W44.int ty86 2
                            have ie514 : ivh44 (sk 5) 2 = ivb6 (sk 5) 2 := fl44.i ty86 rfl 2
                            exact c_iret C dX11_head_217 rfl (by decide) (rom0 hph pl16 (by decide)) ⟨f44, rfl, Xb6, F35, W44, ⟨by omega, by omega⟩, trivial, (by omega), (by omega), (by omega), (by omega), (by omega), (by omega), (by omega), (HDX.ok hHD (by omega)), (show rvb6 a0 9 = rv a0 9 from hkr9), (show rvb6 a0 10 = rv a0 10 from hkr10)⟩
                          · refine c_aload_n (j := 4) (x := a0) C dX11_head_183 rfl ?_
                            obtain ⟨rb39, rq39, trb39⟩ := Wb6.ref ty82 3 rfl rfl rfl
                            have erb39 := Wb6.sk trb39 (by decide) rfl
                            subst erb39
                            refine c_getr (k := 3) C ck_12 dX11_head_184 w2_47 (by decide) ty82 rfl rfl (by decide) rfl rq39 ?_
                            refine c_st (st2 := [.ref (sk 5)]) rfl ?_
                            refine c_aload_n (j := 4) (x := a0) C dX11_head_187 rfl ?_
                            refine c_getr (k := 6) C ck_12 dX11_head_188 w2_50 (by decide) ty82 rfl rfl (by decide) rfl rq36 ?_
                            refine c_st (st2 := [.ref (sk 15), .ref (sk 5)]) rfl ?_
                            obtain ⟨rb40, rq40, trb40⟩ := Wb6.ref ty83 6 rfl rfl rfl
                            have lnrb40 : 200 ≤ lnb6 rb40 ∧ lnb6 rb40 ≤ 200 := Wb6.len trb40 rfl
                            refine c_getr (k := 6) C ck_7 dX11_head_191 w1_146 (by decide) ty83 rfl rfl (by decide) rfl rq40 ?_
                            refine c_st (st2 := [.ref rb40, .ref (sk 5)]) rfl ?_
                            refine c_iload (j := 0) C dX11_head_194 rfl ?_
                            have ll4 : 200 ≤ lnb6 rb40 ∧ lnb6 rb40 ≤ 200 := Wb6.len trb40 rfl
                            refine c_iald C dX11_head_196 trb40 rfl (by omega) (by omega) (by omega) ?_
                            have ri349 : (-2147483648) ≤ ivb6 rb40 k2.toNat ∧ ivb6 rb40 k2.toNat ≤ 2147483647 := Wb6.int trb40 k2.toNat
                            have ty88 := Xb6.ty tsk5
                            have ri350 : 0 ≤ ivb6 (sk 5) 2 ∧ ivb6 (sk 5) 2 ≤ 200 := Wb6.int ty88 2
                            have pl17 := Phi.le Wb6 skb6
                            refine d_callV (As := [.int (iI (ivb6 rb40 k2.toNat))]) (rest := []) C hM (C_add_5 (a0 := (sk 5)) (x := ivb6 rb40 k2.toNat) Wb6 skb6 ty88 (by omega) ) dX11_head_197 kV_X11_112 rfl ty88 rfl rfl (by decide) ck_2 rfl (Nat.le_of_ble_eq_true rfl) ⟨(Nat.le_of_ble_eq_true rfl), (Nat.le_of_ble_eq_true rfl)⟩ hph pl17 (show 0 + 0 = 0 from rfl) (by decide) (fun rh45 Lh45 clh45 lnh45 ivh45 rvh45 h45 => ?_)
                            obtain ⟨rfl, xl45, fl45, W45, exf45⟩ := h45
                            have F36 := Fb6.call Xb6 fl45 rfl
                            have mr36 := MRK.call mrb6 Wb6 skb6 xl45 fl45 rfl rfl
                            have ty89 := Xb6.ty tsk2
                            have ty90 := Xb6.ty tsk3
                            have ty91 := Xb6.ty tsk4
                            have ty92 := Xb6.ty tsk13
                            have ty93 := Xb6.ty tsk14
                            have ty94 := Xb6.ty tsk16
                            have ty95 := Xb6.ty tsk17
                            have ty96 := Xb6.ty tsk22
                            have ty97 := Xb6.ty tsk23
                            have X4 := Xb6.trans xl45
                            have sk4 := xl45.skl skb6
                            refine c_st (st2 := []) rfl ?_
                            have ty98 := xl45.ty ty88
                            have ri351 : 0 ≤ ivh45 (sk 5) 2 ∧ ivh45 (sk 5) 2 ≤ 200 := W45.int ty98 2
                            have gf45 : ((ivh45 (sk 5) 2 = ivb6 (sk 5) 2 ∧ ivb6 (sk 5) 2 = 200) ∨ (ivh45 (sk 5) 2 = ivb6 (sk 5) 2 + 1 ∧ ivb6 (sk 5) 2 < 200)) := exf45
                            refine c_iinc (z := k2) (j := 0) (lv2 := [(5, .int (iI (k2 + 1))), (4, .int (iI f41)), (3, .ref ob4), (2, .int (iI fl)), (0, .ref a0), (1, .int (iI i))]) C dX11_head_200 rfl (by decide) rfl ?_
                            refine c_goto (tgt := 162) C dX11_head_203 (by decide) ?_
                            have ty99 := xl45.ty ty83
                            have ri352 : 0 ≤ ivh45 (sk 15) 7 ∧ ivh45 (sk 15) 7 ≤ 100000 := W45.int ty99 7
                            have ie518 : ivh45 (sk 15) 7 = ivb6 (sk 15) 7 := fl45.i ty83 rfl 7
                            have ty100 := xl45.ty ty89
                            have ri353 : 0 ≤ ivh45 (sk 2) 2 ∧ ivh45 (sk 2) 2 ≤ 3000 := W45.int ty100 2
                            have ie519 : ivh45 (sk 2) 2 = ivb6 (sk 2) 2 := fl45.i ty89 rfl 2
                            have ty101 := xl45.ty ty82
                            have ri354 : 1 ≤ ivh45 a0 11 ∧ ivh45 a0 11 ≤ 100 := W45.int ty101 11
                            have ie521 : ivh45 a0 11 = ivb6 a0 11 := fl45.i ty82 rfl 11
                            have ri355 : 1 ≤ ivh45 a0 12 ∧ ivh45 a0 12 ≤ 50 := W45.int ty101 12
                            have ie522 : ivh45 a0 12 = ivb6 a0 12 := fl45.i ty82 rfl 12
                            have ri356 : (-2147483648) ≤ ivh45 a0 13 ∧ ivh45 a0 13 ≤ 2147483647 := W45.int ty101 13
                            have ie524 : ivh45 a0 13 = ivb6 a0 13 := fl45.i ty82 rfl 13
                            have ri357 : (-2147483648) ≤ ivh45 a0 14 ∧ ivh45 a0 14 ≤ 2147483647 := W45.int ty101 14
                            have ie526 : ivh45 a0 14 = ivb6 a0 14 := fl45.i ty82 rfl 14
                            have ri358 : (-2147483648) ≤ ivh45 a0 15 ∧ ivh45 a0 15 ≤ 2147483647 := W45.int ty101 15
                            have ie528 : ivh45 a0 15 = ivb6 a0 15 := fl45.i ty82 rfl 15
                            have ri359 : (-2147483648) ≤ ivh45 a0 16 ∧ ivh45 a0 16 ≤ 2147483647 := W45.int ty101 16
                            have ie530 : ivh45 a0 16 = ivb6 a0 16 := fl45.i ty82 rfl 16
                            refine c_lv (lv2 := [(5, .int (iI (k2 + 1))), (4, .int (iI f41)), (3, .ref ob4), (2, .int (iI fl)), (0, .ref a0), (1, .int (iI i))]) [0, 1, 2, 3, 4, 5] rfl ?_
                            exact ih6  (k2 + 1) _ _ _ _ _ (by omega) X4 W45 F36  (by omega) (by show ivh45 (sk 15) 7 ≤ 200; omega) (by show ivh45 (sk 2) 2 = 0; omega) (by show ivh45 (sk 5) 2 = (k2 + 1); omega) (by show (k2 + 1) ≤ ivh45 (sk 15) 7 ∧ (k2 + 1) ≤ iv a0 11; omega) (by rw [show ivh45 (sk 15) 7 = ivb6 (sk 15) 7 by omega]; exact hHD) (by show ivh45 a0 11 = iv a0 11; omega) (by show ivh45 a0 12 = iv a0 12; omega) (by show ivh45 a0 13 = iv a0 13; omega) (by show ivh45 a0 14 = iv a0 14; omega) (by show ivh45 a0 15 = iv a0 15; omega) (by show ivh45 a0 16 = iv a0 16; omega) (Eq.trans (show rvh45 a0 9 = rvb6 a0 9 from (fl45.r ty82 rfl 9)) (show rvb6 a0 9 = rv a0 9 from hkr9)) (Eq.trans (show rvh45 a0 10 = rvb6 a0 10 from (fl45.r ty82 rfl 10)) (show rvb6 a0 10 = rv a0 10 from hkr10))
                    have ri360 : 0 ≤ ivh42 (sk 15) 7 ∧ ivh42 (sk 15) 7 ≤ 100000 := W42.int ty79 7
                    have ie532 : ivh42 (sk 15) 7 = ivh41 (sk 15) 7 := fl42.i ty79 rfl 7
                    have ri361 : 0 ≤ ivh42 (sk 2) 2 ∧ ivh42 (sk 2) 2 ≤ 3000 := W42.int ty78 2
                    have ie533 : ivh42 (sk 2) 2 = ivh41 (sk 2) 2 := fl42.i ty78 rfl 2
                    have ie534 : ivh41 (sk 2) 2 = ivh39 (sk 2) 2 := fl41.i ty78 rfl 2
                    have ri362 : 1 ≤ ivh42 a0 11 ∧ ivh42 a0 11 ≤ 100 := W42.int ty77 11
                    have ie535 : ivh42 a0 11 = ivh41 a0 11 := fl42.i ty77 rfl 11
                    have ie536 : ivh41 a0 11 = ivh39 a0 11 := fl41.i ty77 rfl 11
                    have ie537 : ivh39 a0 11 = ivb4 a0 11 := fl39.i ty77 rfl 11
                    have ri363 : 1 ≤ ivh42 a0 12 ∧ ivh42 a0 12 ≤ 50 := W42.int ty77 12
                    have ie539 : ivh42 a0 12 = ivh41 a0 12 := fl42.i ty77 rfl 12
                    have ie540 : ivh41 a0 12 = ivh39 a0 12 := fl41.i ty77 rfl 12
                    have ie541 : ivh39 a0 12 = ivb4 a0 12 := fl39.i ty77 rfl 12
                    have ri364 : (-2147483648) ≤ ivh42 a0 13 ∧ ivh42 a0 13 ≤ 2147483647 := W42.int ty77 13
                    have ie543 : ivh42 a0 13 = ivh41 a0 13 := fl42.i ty77 rfl 13
                    have ie544 : ivh41 a0 13 = ivh39 a0 13 := fl41.i ty77 rfl 13
                    have ie545 : ivh39 a0 13 = ivb4 a0 13 := fl39.i ty77 rfl 13
                    have ri365 : (-2147483648) ≤ ivh42 a0 14 ∧ ivh42 a0 14 ≤ 2147483647 := W42.int ty77 14
                    have ie547 : ivh42 a0 14 = ivh41 a0 14 := fl42.i ty77 rfl 14
                    have ie548 : ivh41 a0 14 = ivh39 a0 14 := fl41.i ty77 rfl 14
                    have ie549 : ivh39 a0 14 = ivb4 a0 14 := fl39.i ty77 rfl 14
                    have ri366 : (-2147483648) ≤ ivh42 a0 15 ∧ ivh42 a0 15 ≤ 2147483647 := W42.int ty77 15
                    have ie551 : ivh42 a0 15 = ivh41 a0 15 := fl42.i ty77 rfl 15
                    have ie552 : ivh41 a0 15 = ivh39 a0 15 := fl41.i ty77 rfl 15
                    have ie553 : ivh39 a0 15 = ivb4 a0 15 := fl39.i ty77 rfl 15
                    have ri367 : (-2147483648) ≤ ivh42 a0 16 ∧ ivh42 a0 16 ≤ 2147483647 := W42.int ty77 16
                    have ie555 : ivh42 a0 16 = ivh41 a0 16 := fl42.i ty77 rfl 16
                    have ie556 : ivh41 a0 16 = ivh39 a0 16 := fl41.i ty77 rfl 16
                    have ie557 : ivh39 a0 16 = ivb4 a0 16 := fl39.i ty77 rfl 16
                    refine c_lv (lv2 := [(5, .int (iI 0)), (4, .int (iI f41)), (3, .ref ob4), (2, .int (iI fl)), (0, .ref a0), (1, .int (iI i))]) [0, 1, 2, 3, 4, 5] rfl ?_
                    exact Lp6 103 0 _ _ _ _ _ (by omega) Xb4 W42 F33  (by omega) (by show ivh42 (sk 15) 7 ≤ 200; omega) (by show ivh42 (sk 2) 2 = 0; omega) (by show ivh42 (sk 5) 2 = 0; omega) (by show 0 ≤ ivh42 (sk 15) 7 ∧ 0 ≤ iv a0 11; omega) (HDP.mk wkob4 (QT.of hW hS Xb4 F31 rfl rfl rfl rfl rfl) hLC (by omega) (by omega) hWD (by omega) gf41.2 (by omega) (by omega)) (by show ivh42 a0 11 = iv a0 11; omega) (by show ivh42 a0 12 = iv a0 12; omega) (by show ivh42 a0 13 = iv a0 13; omega) (by show ivh42 a0 14 = iv a0 14; omega) (by show ivh42 a0 15 = iv a0 15; omega) (by show ivh42 a0 16 = iv a0 16; omega) (show rvb4 a0 9 = rv a0 9 from hkr9) (show rvb4 a0 10 = rv a0 10 from hkr10)
                  · refine c_aload_n (j := 3) (x := a0) C dX11_head_138 rfl ?_
                    refine c_iload (j := 0) C dX11_head_139 rfl ?_
                    refine c_aload_n (j := 3) (x := a0) C dX11_head_141 rfl ?_
                    refine c_getr (k := 6) C ck_12 dX11_head_142 w2_50 (by decide) ty77 rfl rfl (by decide) rfl rq34 ?_
                    refine c_st (st2 := [.ref (sk 15), .int (iI f41), .ref a0]) rfl ?_
                    refine d_callV (As := []) (rest := [.int (iI f41), .ref a0]) C hM (C_placeOfUnknown (a0 := (sk 15)) W41 skb4 ty79  ) dX11_head_145 kV_X11_263 rfl ty79 rfl rfl (by decide) ck_7 rfl (Nat.le_of_ble_eq_true rfl) ⟨(Nat.le_of_ble_eq_true rfl), (Nat.le_of_ble_eq_true rfl)⟩ hph pl14 (show 0 + 0 = 0 from rfl) (by decide) (fun rh46 Lh46 clh46 lnh46 ivh46 rvh46 h46 => ?_)
                    obtain ⟨f46, rfl, rfl, rfl, rfl, rfl, rfl, rgf46, exf46⟩ := h46
                    refine c_st (st2 := [.int (iI f46), .int (iI f41), .ref a0]) rfl ?_
                    refine d_callV (As := [.int (iI f41), .int (iI f46)]) (rest := []) C hM (C_refuseAt (a0 := a0) (x := f41) (y := f46) W41 skb4 ty77 (by omega) (by omega) ) dX11_head_148 kV_X11_266 rfl ty77 rfl rfl (by decide) ck_12 rfl (Nat.le_of_ble_eq_true rfl) ⟨(Nat.le_of_ble_eq_true rfl), (Nat.le_of_ble_eq_true rfl)⟩ hph pl14 (show 0 + 0 = 0 from rfl) (by decide) (fun rh47 Lh47 clh47 lnh47 ivh47 rvh47 h47 => ?_)
                    obtain ⟨f47, rfl, rfl, rfl, rfl, rfl, fl47, W47, rgf47, exf47, kp11f47, kp12f47, kp13f47, kp14f47, kp15f47, kp16f47⟩ := h47
                    have ri368 : 1 ≤ ivh41 a0 11 ∧ ivh41 a0 11 ≤ 100 := W41.int ty77 11
                    have ie559 : ivh41 a0 11 = ivh39 a0 11 := fl41.i ty77 rfl 11
                    have ie560 : ivh39 a0 11 = ivb4 a0 11 := fl39.i ty77 rfl 11
                    have ri369 : 1 ≤ ivh41 a0 12 ∧ ivh41 a0 12 ≤ 50 := W41.int ty77 12
                    have ie562 : ivh41 a0 12 = ivh39 a0 12 := fl41.i ty77 rfl 12
                    have ie563 : ivh39 a0 12 = ivb4 a0 12 := fl39.i ty77 rfl 12
                    have ri370 : (-2147483648) ≤ ivh41 a0 13 ∧ ivh41 a0 13 ≤ 2147483647 := W41.int ty77 13
                    have ie565 : ivh41 a0 13 = ivh39 a0 13 := fl41.i ty77 rfl 13
                    have ie566 : ivh39 a0 13 = ivb4 a0 13 := fl39.i ty77 rfl 13
                    have ri371 : (-2147483648) ≤ ivh41 a0 14 ∧ ivh41 a0 14 ≤ 2147483647 := W41.int ty77 14
                    have ie568 : ivh41 a0 14 = ivh39 a0 14 := fl41.i ty77 rfl 14
                    have ie569 : ivh39 a0 14 = ivb4 a0 14 := fl39.i ty77 rfl 14
                    have ri372 : (-2147483648) ≤ ivh41 a0 15 ∧ ivh41 a0 15 ≤ 2147483647 := W41.int ty77 15
                    have ie571 : ivh41 a0 15 = ivh39 a0 15 := fl41.i ty77 rfl 15
                    have ie572 : ivh39 a0 15 = ivb4 a0 15 := fl39.i ty77 rfl 15
                    have ri373 : (-2147483648) ≤ ivh41 a0 16 ∧ ivh41 a0 16 ≤ 2147483647 := W41.int ty77 16
                    have ie574 : ivh41 a0 16 = ivh39 a0 16 := fl41.i ty77 rfl 16
                    have ie575 : ivh39 a0 16 = ivb4 a0 16 := fl39.i ty77 rfl 16
                    have F37 := F32.call Xb4 fl47 rfl
                    have mr37 := MRK.call mr32 W41 skb4 XT.refl fl47 rfl rfl
                    refine c_st (st2 := [.int (iI f47)]) rfl ?_
                    have gk11f47 : ivh47 a0 11 = ivh41 a0 11 := kp11f47
                    have gk12f47 : ivh47 a0 12 = ivh41 a0 12 := kp12f47
                    have gk13f47 : ivh47 a0 13 = ivh41 a0 13 := kp13f47
                    have gk14f47 : ivh47 a0 14 = ivh41 a0 14 := kp14f47
                    have gk15f47 : ivh47 a0 15 = ivh41 a0 15 := kp15f47
                    have gk16f47 : ivh47 a0 16 = ivh41 a0 16 := kp16f47
                    have gf47 : f47 = -1 := exf47
                    have ri374 : 0 ≤ ivh47 (sk 2) 2 ∧ ivh47 (sk 2) 2 ≤ 3000 := W47.int ty78 2
                    have ie577 : ivh47 (sk 2) 2 = ivh41 (sk 2) 2 := fl47.i ty78 rfl 2
                    have ie578 : ivh41 (sk 2) 2 = ivh39 (sk 2) 2 := fl41.i ty78 rfl 2
                    have ri375 : 1 ≤ ivh47 a0 11 ∧ ivh47 a0 11 ≤ 100 := W47.int ty77 11
                    have ri376 : 1 ≤ ivh47 a0 12 ∧ ivh47 a0 12 ≤ 50 := W47.int ty77 12
                    have ri377 : (-2147483648) ≤ ivh47 a0 13 ∧ ivh47 a0 13 ≤ 2147483647 := W47.int ty77 13
                    have ri378 : (-2147483648) ≤ ivh47 a0 14 ∧ ivh47 a0 14 ≤ 2147483647 := W47.int ty77 14
                    have ri379 : (-2147483648) ≤ ivh47 a0 15 ∧ ivh47 a0 15 ≤ 2147483647 := W47.int ty77 15
                    have ri380 : (-2147483648) ≤ ivh47 a0 16 ∧ ivh47 a0 16 ≤ 2147483647 := W47.int ty77 16
                    exact c_iret C dX11_head_151 rfl (by decide) (rom0 hph pl14 (by decide)) ⟨f47, rfl, Xb4, F37, W47, ⟨by omega, by omega⟩, trivial, (by omega), (by omega), (by omega), (by omega), (by omega), (by omega), (by omega), (HDX.ns wkob4 (QT.of hW hS Xb4 F31 rfl rfl rfl rfl rfl) hLC (by omega) (by omega) gf41.2 (by omega) (by omega)), (show rvb4 a0 9 = rv a0 9 from hkr9), (show rvb4 a0 10 = rv a0 10 from hkr10)⟩
                · subst oq4
                  refine c_lv (lv2 := [(3, .null), (2, .int (iI fl)), (0, .ref a0), (1, .int (iI i))]) [0, 1, 2, 3] rfl ?_
                  refine c_st (st2 := []) rfl ?_
                  refine c_aload_n (j := 2) (x := a0) C dX11_head_117 rfl ?_
                  refine c_iconst C dX11_head_118 ?_
                  refine d_callV (As := [.int (iI 3)]) (rest := []) C hM (C_refuse (a0 := a0) (x := 3) W39 skb4 ty77 ⟨by decide, by decide⟩ ) dX11_head_119 kV_X11_102 rfl ty77 rfl rfl (by decide) ck_12 rfl (Nat.le_of_ble_eq_true rfl) ⟨(Nat.le_of_ble_eq_true rfl), (Nat.le_of_ble_eq_true rfl)⟩ hph pl14 (show 0 + 0 = 0 from rfl) (by decide) (fun rh48 Lh48 clh48 lnh48 ivh48 rvh48 h48 => ?_)
                  obtain ⟨f48, rfl, rfl, rfl, rfl, rfl, fl48, W48, rgf48, exf48, kp11f48, kp12f48, kp13f48, kp14f48, kp15f48, kp16f48⟩ := h48
                  have ri381 : 1 ≤ ivh39 a0 11 ∧ ivh39 a0 11 ≤ 100 := W39.int ty77 11
                  have ie585 : ivh39 a0 11 = ivb4 a0 11 := fl39.i ty77 rfl 11
                  have ri382 : 1 ≤ ivh39 a0 12 ∧ ivh39 a0 12 ≤ 50 := W39.int ty77 12
                  have ie587 : ivh39 a0 12 = ivb4 a0 12 := fl39.i ty77 rfl 12
                  have ri383 : (-2147483648) ≤ ivh39 a0 13 ∧ ivh39 a0 13 ≤ 2147483647 := W39.int ty77 13
                  have ie589 : ivh39 a0 13 = ivb4 a0 13 := fl39.i ty77 rfl 13
                  have ri384 : (-2147483648) ≤ ivh39 a0 14 ∧ ivh39 a0 14 ≤ 2147483647 := W39.int ty77 14
                  have ie591 : ivh39 a0 14 = ivb4 a0 14 := fl39.i ty77 rfl 14
                  have ri385 : (-2147483648) ≤ ivh39 a0 15 ∧ ivh39 a0 15 ≤ 2147483647 := W39.int ty77 15
                  have ie593 : ivh39 a0 15 = ivb4 a0 15 := fl39.i ty77 rfl 15
                  have ri386 : (-2147483648) ≤ ivh39 a0 16 ∧ ivh39 a0 16 ≤ 2147483647 := W39.int ty77 16
                  have ie595 : ivh39 a0 16 = ivb4 a0 16 := fl39.i ty77 rfl 16
                  have F38 := F31.call Xb4 fl48 rfl
                  have mr38 := MRK.call mr31 W39 skb4 XT.refl fl48 rfl rfl
                  refine c_st (st2 := [.int (iI f48)]) rfl ?_
                  have gk11f48 : ivh48 a0 11 = ivh39 a0 11 := kp11f48
                  have gk12f48 : ivh48 a0 12 = ivh39 a0 12 := kp12f48
                  have gk13f48 : ivh48 a0 13 = ivh39 a0 13 := kp13f48
                  have gk14f48 : ivh48 a0 14 = ivh39 a0 14 := kp14f48
                  have gk15f48 : ivh48 a0 15 = ivh39 a0 15 := kp15f48
                  have gk16f48 : ivh48 a0 16 = ivh39 a0 16 := kp16f48
                  have gf48 : f48 = -1 := exf48
                  have ri387 : 0 ≤ ivh48 (sk 2) 2 ∧ ivh48 (sk 2) 2 ≤ 3000 := W48.int ty78 2
                  have ie597 : ivh48 (sk 2) 2 = ivh39 (sk 2) 2 := fl48.i ty78 rfl 2
                  have ri388 : 1 ≤ ivh48 a0 11 ∧ ivh48 a0 11 ≤ 100 := W48.int ty77 11
                  have ri389 : 1 ≤ ivh48 a0 12 ∧ ivh48 a0 12 ≤ 50 := W48.int ty77 12
                  have ri390 : (-2147483648) ≤ ivh48 a0 13 ∧ ivh48 a0 13 ≤ 2147483647 := W48.int ty77 13
                  have ri391 : (-2147483648) ≤ ivh48 a0 14 ∧ ivh48 a0 14 ≤ 2147483647 := W48.int ty77 14
                  have ri392 : (-2147483648) ≤ ivh48 a0 15 ∧ ivh48 a0 15 ≤ 2147483647 := W48.int ty77 15
                  have ri393 : (-2147483648) ≤ ivh48 a0 16 ∧ ivh48 a0 16 ≤ 2147483647 := W48.int ty77 16
                  exact c_iret C dX11_head_122 rfl (by decide) (rom0 hph pl14 (by decide)) ⟨f48, rfl, Xb4, F38, W48, ⟨by omega, by omega⟩, trivial, (by omega), (by omega), (by omega), (by omega), (by omega), (by omega), (by omega), (HDX.nw gf40 (QT.of hW hS Xb4 F31 rfl rfl rfl rfl rfl) (by omega)), (show rvb4 a0 9 = rv a0 9 from hkr9), (show rvb4 a0 10 = rv a0 10 from hkr10)⟩
              · refine c_aload_n (j := 2) (x := a0) C dX11_head_97 rfl ?_
                refine c_bipush (z := 6) C dX11_head_98 (by decide) ?_
                refine d_callV (As := [.int (iI 6)]) (rest := []) C hM (C_refuse (a0 := a0) (x := 6) W39 skb4 ty77 ⟨by decide, by decide⟩ ) dX11_head_100 kV_X11_102 rfl ty77 rfl rfl (by decide) ck_12 rfl (Nat.le_of_ble_eq_true rfl) ⟨(Nat.le_of_ble_eq_true rfl), (Nat.le_of_ble_eq_true rfl)⟩ hph pl14 (show 0 + 0 = 0 from rfl) (by decide) (fun rh49 Lh49 clh49 lnh49 ivh49 rvh49 h49 => ?_)
                obtain ⟨f49, rfl, rfl, rfl, rfl, rfl, fl49, W49, rgf49, exf49, kp11f49, kp12f49, kp13f49, kp14f49, kp15f49, kp16f49⟩ := h49
                have ri394 : 1 ≤ ivh39 a0 11 ∧ ivh39 a0 11 ≤ 100 := W39.int ty77 11
                have ie604 : ivh39 a0 11 = ivb4 a0 11 := fl39.i ty77 rfl 11
                have ri395 : 1 ≤ ivh39 a0 12 ∧ ivh39 a0 12 ≤ 50 := W39.int ty77 12
                have ie606 : ivh39 a0 12 = ivb4 a0 12 := fl39.i ty77 rfl 12
                have ri396 : (-2147483648) ≤ ivh39 a0 13 ∧ ivh39 a0 13 ≤ 2147483647 := W39.int ty77 13
                have ie608 : ivh39 a0 13 = ivb4 a0 13 := fl39.i ty77 rfl 13
                have ri397 : (-2147483648) ≤ ivh39 a0 14 ∧ ivh39 a0 14 ≤ 2147483647 := W39.int ty77 14
                have ie610 : ivh39 a0 14 = ivb4 a0 14 := fl39.i ty77 rfl 14
                have ri398 : (-2147483648) ≤ ivh39 a0 15 ∧ ivh39 a0 15 ≤ 2147483647 := W39.int ty77 15
                have ie612 : ivh39 a0 15 = ivb4 a0 15 := fl39.i ty77 rfl 15
                have ri399 : (-2147483648) ≤ ivh39 a0 16 ∧ ivh39 a0 16 ≤ 2147483647 := W39.int ty77 16
                have ie614 : ivh39 a0 16 = ivb4 a0 16 := fl39.i ty77 rfl 16
                have F39 := F31.call Xb4 fl49 rfl
                have mr39 := MRK.call mr31 W39 skb4 XT.refl fl49 rfl rfl
                refine c_st (st2 := [.int (iI f49)]) rfl ?_
                have gk11f49 : ivh49 a0 11 = ivh39 a0 11 := kp11f49
                have gk12f49 : ivh49 a0 12 = ivh39 a0 12 := kp12f49
                have gk13f49 : ivh49 a0 13 = ivh39 a0 13 := kp13f49
                have gk14f49 : ivh49 a0 14 = ivh39 a0 14 := kp14f49
                have gk15f49 : ivh49 a0 15 = ivh39 a0 15 := kp15f49
                have gk16f49 : ivh49 a0 16 = ivh39 a0 16 := kp16f49
                have gf49 : f49 = -1 := exf49
                have ri400 : 0 ≤ ivh49 (sk 2) 2 ∧ ivh49 (sk 2) 2 ≤ 3000 := W49.int ty78 2
                have ie616 : ivh49 (sk 2) 2 = ivh39 (sk 2) 2 := fl49.i ty78 rfl 2
                have ri401 : 1 ≤ ivh49 a0 11 ∧ ivh49 a0 11 ≤ 100 := W49.int ty77 11
                have ri402 : 1 ≤ ivh49 a0 12 ∧ ivh49 a0 12 ≤ 50 := W49.int ty77 12
                have ri403 : (-2147483648) ≤ ivh49 a0 13 ∧ ivh49 a0 13 ≤ 2147483647 := W49.int ty77 13
                have ri404 : (-2147483648) ≤ ivh49 a0 14 ∧ ivh49 a0 14 ≤ 2147483647 := W49.int ty77 14
                have ri405 : (-2147483648) ≤ ivh49 a0 15 ∧ ivh49 a0 15 ≤ 2147483647 := W49.int ty77 15
                have ri406 : (-2147483648) ≤ ivh49 a0 16 ∧ ivh49 a0 16 ≤ 2147483647 := W49.int ty77 16
                exact c_iret C dX11_head_103 rfl (by decide) (rom0 hph pl14 (by decide)) ⟨f49, rfl, Xb4, F39, W49, ⟨by omega, by omega⟩, trivial, (by omega), (by omega), (by omega), (by omega), (by omega), (by omega), (by omega), (HDX.bad hWD (by omega) (by omega)), (show rvb4 a0 9 = rv a0 9 from hkr9), (show rvb4 a0 10 = rv a0 10 from hkr10)⟩
            · refine c_aload_n (j := 2) (x := a0) C dX11_head_64 rfl ?_
              obtain ⟨rb41, rq41, trb41⟩ := Wb4.ref ty77 6 rfl rfl rfl
              have erb41 := Wb4.sk trb41 (by decide) rfl
              subst erb41
              refine c_getr (k := 6) C ck_12 dX11_head_65 w2_50 (by decide) ty77 rfl rfl (by decide) rfl rq41 ?_
              refine c_st (st2 := [.ref (sk 15)]) rfl ?_
              refine c_aload_n (j := 2) (x := a0) C dX11_head_68 rfl ?_
              refine c_getr (k := 0) C ck_12 dX11_head_69 w2_44 (by decide) ty77 rfl rfl (by decide) rfl rq32 ?_
              refine c_st (st2 := [.ref (sk 2), .ref (sk 15)]) rfl ?_
              refine c_iload_n (j := 1) C dX11_head_72 rfl ?_
              have pl18 := Phi.le Wb4 skb4
              refine d_callV (As := [.int (iI k)]) (rest := [.ref (sk 15)]) C hM (C_at_2 (a0 := (sk 2)) (i := k) Wb4 skb4 ty78 (by omega) ) dX11_head_73 kV_X11_224 rfl ty78 rfl rfl (by decide) ck_2 rfl (Nat.le_of_ble_eq_true rfl) ⟨(Nat.le_of_ble_eq_true rfl), (Nat.le_of_ble_eq_true rfl)⟩ hph pl18 (show 0 + 0 = 0 from rfl) (by decide) (fun rh50 Lh50 clh50 lnh50 ivh50 rvh50 h50 => ?_)
              obtain ⟨f50, rfl, rfl, rfl, rfl, rfl, rfl, rgf50, exf50⟩ := h50
              refine c_st (st2 := [.int (iI f50), .ref (sk 15)]) rfl ?_
              have gf50 : ((0 ≤ k ∧ k < ivb4 (sk 2) 2) ∨ f50 = 0) ∧ ∀ ss, CT ivb4 rvb4 (sk 2) ss → 0 ≤ k → k < ivb4 (sk 2) 2 → f50 = ss k.toNat := exf50
              refine c_iload_n (j := 1) C dX11_head_76 rfl ?_
              have ty102 := Xb4.ty tsk15
              have ri407 : 0 ≤ ivb4 (sk 15) 4 ∧ ivb4 (sk 15) 4 ≤ 500 := Wb4.int ty102 4
              refine d_callV (As := [.int (iI f50), .int (iI k)]) (rest := []) C hM (G_put (a0 := (sk 15)) (x := f50) (y := k) Wb4 skb4 ty102 (by omega) (by omega) ) dX11_head_77 kV_X11_273 rfl ty102 rfl rfl (by decide) ck_7 rfl (Nat.le_of_ble_eq_true rfl) ⟨(Nat.le_of_ble_eq_true rfl), (Nat.le_of_ble_eq_true rfl)⟩ hph pl18 (show 0 + 0 = 0 from rfl) (by decide) (fun rh51 Lh51 clh51 lnh51 ivh51 rvh51 h51 => ?_)
              obtain ⟨rfl, rfl, rfl, rfl, rfl, fl51, W51, exf51⟩ := h51
              have F40 := Fb4.call Xb4 fl51 rfl
              have mr40 := MRK.call mrb4 Wb4 skb4 XT.refl fl51 rfl rfl
              refine c_st (st2 := []) rfl ?_
              have ri408 : 0 ≤ ivh51 (sk 15) 4 ∧ ivh51 (sk 15) 4 ≤ 500 := W51.int ty102 4
              have gf51 : (ivb4 (sk 15) 4 < 500 → ivh51 (sk 15) 4 = ivb4 (sk 15) 4 + 1) ∧ PTL ivb4 rvb4 ivh51 (sk 15) f50 := exf51
              refine c_iinc (z := k) (j := 1) (lv2 := [(3, .int (iI (k + 1))), (2, .int (iI fl)), (0, .ref a0), (1, .int (iI i))]) C dX11_head_80 rfl (by decide) rfl ?_
              refine c_goto (tgt := 49) C dX11_head_83 (by decide) ?_
              have ri409 : 0 ≤ ivh51 (sk 2) 2 ∧ ivh51 (sk 2) 2 ≤ 3000 := W51.int ty78 2
              have ie625 : ivh51 (sk 2) 2 = ivb4 (sk 2) 2 := fl51.i ty78 rfl 2
              have ri410 : 1 ≤ ivh51 a0 11 ∧ ivh51 a0 11 ≤ 100 := W51.int ty77 11
              have ie626 : ivh51 a0 11 = ivb4 a0 11 := fl51.i ty77 rfl 11
              have ri411 : 1 ≤ ivh51 a0 12 ∧ ivh51 a0 12 ≤ 50 := W51.int ty77 12
              have ie628 : ivh51 a0 12 = ivb4 a0 12 := fl51.i ty77 rfl 12
              have ri412 : (-2147483648) ≤ ivh51 a0 13 ∧ ivh51 a0 13 ≤ 2147483647 := W51.int ty77 13
              have ie630 : ivh51 a0 13 = ivb4 a0 13 := fl51.i ty77 rfl 13
              have ri413 : (-2147483648) ≤ ivh51 a0 14 ∧ ivh51 a0 14 ≤ 2147483647 := W51.int ty77 14
              have ie632 : ivh51 a0 14 = ivb4 a0 14 := fl51.i ty77 rfl 14
              have ri414 : (-2147483648) ≤ ivh51 a0 15 ∧ ivh51 a0 15 ≤ 2147483647 := W51.int ty77 15
              have ie634 : ivh51 a0 15 = ivb4 a0 15 := fl51.i ty77 rfl 15
              have ri415 : (-2147483648) ≤ ivh51 a0 16 ∧ ivh51 a0 16 ≤ 2147483647 := W51.int ty77 16
              have ie636 : ivh51 a0 16 = ivb4 a0 16 := fl51.i ty77 rfl 16
              refine c_lv (lv2 := [(2, .int (iI fl)), (3, .int (iI (k + 1))), (0, .ref a0), (1, .int (iI i))]) [1, 0, 2, 3] rfl ?_
              exact ih4  fl (k + 1) _ _ _ _ _ (by omega) Xb4 W51 F40  (by omega) (by omega) (by show ivh51 (sk 15) 4 = (k + 1); omega) (by omega) (by show ivh51 (sk 2) 2 = iv (sk 2) 2; omega) hf40 hWD (fun ss hs => CT.fr (hCT ss hs) Wb4 ty78 fl51 rfl rfl rfl rfl rfl) (hLT.put gf51.2 (by omega) ⟨by omega, by omega⟩ (fun ss hs => gf50.2 ss (hCT ss hs) (by omega) (by omega))) (by show ivh51 a0 11 = iv a0 11; omega) (by show ivh51 a0 12 = iv a0 12; omega) (by show ivh51 a0 13 = iv a0 13; omega) (by show ivh51 a0 14 = iv a0 14; omega) (by show ivh51 a0 15 = iv a0 15; omega) (by show ivh51 a0 16 = iv a0 16; omega) (show rvb4 a0 9 = rv a0 9 from hkr9) (show rvb4 a0 10 = rv a0 10 from hkr10)
      have ri416 : 0 ≤ ivh27 (sk 2) 2 ∧ ivh27 (sk 2) 2 ≤ 3000 := W27.int tsk2 2
      have ie638 : ivh27 (sk 2) 2 = iv (sk 2) 2 := fl27.i tsk2 rfl 2
      have ri417 : 1 ≤ ivh27 a0 11 ∧ ivh27 a0 11 ≤ 100 := W27.int t_a0 11
      have ie639 : ivh27 a0 11 = iv a0 11 := fl27.i t_a0 rfl 11
      have ri418 : 1 ≤ ivh27 a0 12 ∧ ivh27 a0 12 ≤ 50 := W27.int t_a0 12
      have ie640 : ivh27 a0 12 = iv a0 12 := fl27.i t_a0 rfl 12
      have ri419 : (-2147483648) ≤ ivh27 a0 13 ∧ ivh27 a0 13 ≤ 2147483647 := W27.int t_a0 13
      have ie641 : ivh27 a0 13 = iv a0 13 := fl27.i t_a0 rfl 13
      have ri420 : (-2147483648) ≤ ivh27 a0 14 ∧ ivh27 a0 14 ≤ 2147483647 := W27.int t_a0 14
      have ie642 : ivh27 a0 14 = iv a0 14 := fl27.i t_a0 rfl 14
      have ri421 : (-2147483648) ≤ ivh27 a0 15 ∧ ivh27 a0 15 ≤ 2147483647 := W27.int t_a0 15
      have ie643 : ivh27 a0 15 = iv a0 15 := fl27.i t_a0 rfl 15
      have ri422 : (-2147483648) ≤ ivh27 a0 16 ∧ ivh27 a0 16 ≤ 2147483647 := W27.int t_a0 16
      have ie644 : ivh27 a0 16 = iv a0 16 := fl27.i t_a0 rfl 16
      refine c_lv (lv2 := [(2, .int (iI 0)), (3, .int (iI 0)), (0, .ref a0), (1, .int (iI i))]) [1, 0, 2, 3] rfl ?_
      exact Lp4 3003 0 0 _ _ _ _ _ (by omega) hX0 W27 F21  (by omega) (by omega) (by show ivh27 (sk 15) 4 = 0; omega) (by omega) (by show ivh27 (sk 2) 2 = iv (sk 2) 2; omega) (fun q => absurd q (by decide)) (fun ss hs => by
          have e := gf26 ss hs (by omega) (by omega)
          refine ⟨fun q => absurd q (by decide), fun q => ?_⟩
          have e2 := e.mpr (fun x q1 q2 => by
            have q3 := q.2 x (by omega) q2
            rw [Int.toNat_natCast] at q3
            exact q3)
          omega) (fun ss hs => CT.fr hs hW tsk2 fl27 rfl rfl rfl rfl rfl) LTA.zero (by show ivh27 a0 11 = iv a0 11; omega) (by show ivh27 a0 12 = iv a0 12; omega) (by show ivh27 a0 13 = iv a0 13; omega) (by show ivh27 a0 14 = iv a0 14; omega) (by show ivh27 a0 15 = iv a0 15; omega) (by show ivh27 a0 16 = iv a0 16; omega) rfl rfl
    · refine c_iconst C dX11_head_34 ?_
      refine c_goto (tgt := 39) C dX11_head_35 (by decide) ?_
      refine c_istore_n (lv2 := [(2, .int (iI 1)), (0, .ref a0), (1, .int (iI i))]) C dX11_head_39 (by decide) rfl ?_
      refine c_aload_n (j := 1) (x := a0) C dX11_head_40 rfl ?_
      obtain ⟨rb42, rq42, trb42⟩ := hW.ref t_a0 6 rfl rfl rfl
      have erb42 := hW.sk trb42 (by decide) rfl
      subst erb42
      refine c_getr (k := 6) C ck_12 dX11_head_41 w2_50 (by decide) t_a0 rfl rfl (by decide) rfl rq42 ?_
      refine c_st (st2 := [.ref (sk 15)]) rfl ?_
      refine d_callV (As := []) (rest := []) C hM (G_wclear (a0 := (sk 15)) hW hS tsk15  ) dX11_head_44 kV_X11_272 rfl tsk15 rfl rfl (by decide) ck_7 rfl (Nat.le_of_ble_eq_true rfl) ⟨(Nat.le_of_ble_eq_true rfl), (Nat.le_of_ble_eq_true rfl)⟩ hph hph (show 0 + 0 = 0 from rfl) (by decide) (fun rh52 Lh52 clh52 lnh52 ivh52 rvh52 h52 => ?_)
      obtain ⟨rfl, rfl, rfl, rfl, rfl, fl52, W52, exf52⟩ := h52
      have F41 := hF0.call hX0 fl52 rfl
      have mr41 := MRK.call hmr hW hS XT.refl fl52 rfl rfl
      refine c_st (st2 := []) rfl ?_
      have ri423 : 0 ≤ ivh52 (sk 15) 4 ∧ ivh52 (sk 15) 4 ≤ 500 := W52.int tsk15 4
      have gf52 : ivh52 (sk 15) 4 = 0 := exf52
      refine c_iconst C dX11_head_47 ?_
      refine c_istore_n (lv2 := [(3, .int (iI 0)), (2, .int (iI 1)), (0, .ref a0), (1, .int (iI i))]) C dX11_head_48 (by decide) rfl ?_
      have Lp7 : ∀ (nn : Nat) (fl k : Int) (Lb7 : List Nat) (clb7 lnb7 : Nat → Nat) (ivb7 : Nat → Nat → Int) (rvb7 : Nat → Nat → Option Nat) , 3001 - k < (nn : Int) → XT L cl ln Lb7 clb7 lnb7 → WT (g0 G) sk Lb7 clb7 lnb7 ivb7 rvb7 → fT [1, 2, 5, 35, 15, 50, 51, 52, 53, 54, 55] L cl iv rv ivb7 rvb7 → (fl = 0 ∨ fl = 1) → (0 ≤ k ∧ k ≤ 3000 ∧ k ≤ iv (sk 2) 2) → (ivb7 (sk 15) 4 = k) → ((fl = 0 ∧ k = 0) ∨ fl = 1) → (ivb7 (sk 2) 2 = iv (sk 2) 2) → (fl = 1 → iv (sk 2) 2 ≤ 40) → (HWD iv rv (sk 2) fl) → (∀ ss, CT iv rv (sk 2) ss → CT ivb7 rvb7 (sk 2) ss) → (LTA sk ln iv rv ivb7 rvb7 k) → (ivb7 a0 11 = iv a0 11) → (ivb7 a0 12 = iv a0 12) → (ivb7 a0 13 = iv a0 13) → (ivb7 a0 14 = iv a0 14) → (ivb7 a0 15 = iv a0 15) → (ivb7 a0 16 = iv a0 16) → (rvb7 a0 9 = rv a0 9) → (rvb7 a0 10 = rv a0 10) → cw p l e 8 ((PHM) + 0 - ((Phi (g0 G) sk) ln rv)) s m args below meth c G A 6 (MQ below (Qu G A (Qp G (Phi (g0 G) sk) ((Phi (g0 G) sk) ln rv) 0 (fun v L2 cl2 ln2 iv2 rv2 => ∃ f : Int, v = some (.int (iI f)) ∧ XT L cl ln L2 cl2 ln2 ∧ fT [1, 2, 5, 35, 15, 50, 51, 52, 53, 54, 55] L cl iv rv iv2 rv2 ∧ WT (g0 G) sk L2 cl2 ln2 iv2 rv2 ∧ (-2147483648 ≤ f ∧ f ≤ 2147483647) ∧ (True) ∧ iv2 a0 11 = iv a0 11 ∧ iv2 a0 12 = iv a0 12 ∧ iv2 a0 13 = iv a0 13 ∧ iv2 a0 14 = iv a0 14 ∧ iv2 a0 15 = iv a0 15 ∧ iv2 a0 16 = iv a0 16 ∧ iv2 (sk 2) 2 = 0 ∧ (HDX sk ln iv rv (iv a0 11) i f) ∧ rv2 a0 9 = rv a0 9 ∧ rv2 a0 10 = rv a0 10))) args s (((PHM) + 0 - ((Phi (g0 G) sk) ln rv)) / 16) ((PHM) + 0 - ((Phi (g0 G) sk) ln rv)) A) (Phi (g0 G) sk) ((Phi (g0 G) sk) ln rv) Lb7 clb7 lnb7 ivb7 rvb7 0 49 [(2, .int (iI fl)), (3, .int (iI k)), (0, .ref a0), (1, .int (iI i))] [] := by
        intro nn
        induction nn with
        | zero =>
          intro  fl k Lb7 clb7 lnb7 ivb7 rvb7 hm Xb7 Wb7 Fb7  hfl hk h15 hnm h22 hf40 hWD hCT hLT hkp11 hkp12 hkp13 hkp14 hkp15 hkp16 hkr9 hkr10
          have skb7 := Xb7.skl hS
          exact absurd hm (by omega)
        | succ nn ih7 =>
          intro  fl k Lb7 clb7 lnb7 ivb7 rvb7 hm Xb7 Wb7 Fb7  hfl hk h15 hnm h22 hf40 hWD hCT hLT hkp11 hkp12 hkp13 hkp14 hkp15 hkp16 hkr9 hkr10
          have skb7 := Xb7.skl hS
          have mrb7 := MRK.call hmr hW hS Xb7 Fb7 rfl rfl
          refine c_iload_n (j := 0) C dX11_head_49 rfl ?_
          refine c_if_eq (tgt := 86) C ⟨by omega, by omega⟩ dX11_head_50 (by decide) (fun c23 => ?_) (fun c23 => ?_)
          · refine c_aload_n (j := 2) (x := a0) C dX11_head_86 rfl ?_
            have ty103 := Xb7.ty t_a0
            obtain ⟨rb43, rq43, trb43⟩ := Wb7.ref ty103 0 rfl rfl rfl
            have erb43 := Wb7.sk trb43 (by decide) rfl
            subst erb43
            refine c_getr (k := 0) C ck_12 dX11_head_87 w2_44 (by decide) ty103 rfl rfl (by decide) rfl rq43 ?_
            refine c_st (st2 := [.ref (sk 2)]) rfl ?_
            have ty104 := Xb7.ty tsk2
            have ty105 := Xb7.ty tsk15
            have pl19 := Phi.le Wb7 skb7
            refine d_callV (As := []) (rest := []) C hM (C_clear_2 (a0 := (sk 2)) Wb7 skb7 ty104  ) dX11_head_90 kV_X11_164 rfl ty104 rfl rfl (by decide) ck_2 rfl (Nat.le_of_ble_eq_true rfl) ⟨(Nat.le_of_ble_eq_true rfl), (Nat.le_of_ble_eq_true rfl)⟩ hph pl19 (show 0 + 0 = 0 from rfl) (by decide) (fun rh53 Lh53 clh53 lnh53 ivh53 rvh53 h53 => ?_)
            obtain ⟨rfl, rfl, rfl, rfl, rfl, fl53, W53, exf53⟩ := h53
            have F42 := Fb7.call Xb7 fl53 rfl
            have mr42 := MRK.call mrb7 Wb7 skb7 XT.refl fl53 rfl rfl
            refine c_st (st2 := []) rfl ?_
            have ri424 : 0 ≤ ivh53 (sk 2) 2 ∧ ivh53 (sk 2) 2 ≤ 3000 := W53.int ty104 2
            have gf53 : ivh53 (sk 2) 2 = 0 := exf53
            have hLC := hLT.ni Wb7 fl53 rfl ty105
            have ri425 : 0 ≤ ivh53 (sk 15) 4 ∧ ivh53 (sk 15) 4 ≤ 500 := W53.int ty105 4
            have ie647 : ivh53 (sk 15) 4 = ivb7 (sk 15) 4 := fl53.i ty105 rfl 4
            refine c_iload_n (j := 0) C dX11_head_93 rfl ?_
            refine c_if_ne (tgt := 104) C ⟨by omega, by omega⟩ dX11_head_94 (by decide) (fun c24 => ?_) (fun c24 => ?_)
            · refine c_aload_n (j := 2) (x := a0) C dX11_head_104 rfl ?_
              obtain ⟨rb44, rq44, trb44⟩ := W53.ref ty103 4 rfl rfl rfl
              have erb44 := W53.sk trb44 (by decide) rfl
              subst erb44
              refine c_getr (k := 4) C ck_12 dX11_head_105 w2_48 (by decide) ty103 rfl rfl (by decide) rfl rq44 ?_
              refine c_st (st2 := [.ref (sk 13)]) rfl ?_
              refine c_iload_n (j := 3) C dX11_head_108 rfl ?_
              have ty106 := Xb7.ty tsk13
              refine d_callV (As := [.int (iI i)]) (rest := []) C hM (G_whole (a0 := (sk 13)) (i := i) W53 skb7 ty106 (by omega) mr42) dX11_head_109 kV_X11_231 rfl ty106 rfl rfl (by decide) ck_11 rfl (Nat.le_of_ble_eq_true rfl) ⟨(Nat.le_of_ble_eq_true rfl), (Nat.le_of_ble_eq_true rfl)⟩ hph pl19 (show 0 + 0 = 0 from rfl) (by decide) (fun rh54 Lh54 clh54 lnh54 ivh54 rvh54 h54 => ?_)
              obtain ⟨f54, rfl, rfl, rfl, rfl, rfl, rfl, rgf54, exf54⟩ := h54
              refine c_st (st2 := [(va_rf f54)]) rfl ?_
              have gf54 : WOX sk lnb7 ivh53 rvb7 i f54 := exf54
              refine c_astorer_n (r := f54) (lv2 := [(3, (va_rf f54)), (2, .int (iI fl)), (0, .ref a0), (1, .int (iI i))]) C dX11_head_112 (by decide) rfl ?_
              refine c_aloadr_n (j := 0) (r := f54) C dX11_head_113 rfl ?_
              refine c_ifnonnull (r := f54) (tgt := 123) C dX11_head_114 (by decide) (fun ob5 oq5 => ?_) (fun oq5 => ?_)
              · subst oq5
                have tob5 := rgf54 ob5 rfl
                have wkob5 := gf54
                refine c_lv (lv2 := [(3, .ref ob5), (2, .int (iI fl)), (0, .ref a0), (1, .int (iI i))]) [0, 1, 2, 3] rfl ?_
                refine c_st (st2 := []) rfl ?_
                refine c_aload_n (j := 2) (x := a0) C dX11_head_123 rfl ?_
                obtain ⟨rb45, rq45, trb45⟩ := W53.ref ty103 6 rfl rfl rfl
                have erb45 := W53.sk trb45 (by decide) rfl
                subst erb45
                refine c_getr (k := 6) C ck_12 dX11_head_124 w2_50 (by decide) ty103 rfl rfl (by decide) rfl rq45 ?_
                refine c_st (st2 := [.ref (sk 15)]) rfl ?_
                refine c_aload_n (j := 0) (x := ob5) C dX11_head_127 rfl ?_
                refine d_callV (As := [.ref ob5]) (rest := []) C hM (G_setBy (a0 := (sk 15)) (a1 := ob5) W53 skb7 ty105 tob5  ) dX11_head_128 kV_X11_253 rfl ty105 rfl rfl (by decide) ck_7 rfl (Nat.le_of_ble_eq_true rfl) ⟨(Nat.le_of_ble_eq_true rfl), (Nat.le_of_ble_eq_true rfl)⟩ hph pl19 (show 0 + 0 = 0 from rfl) (by decide) (fun rh55 Lh55 clh55 lnh55 ivh55 rvh55 h55 => ?_)
                obtain ⟨f55, rfl, rfl, rfl, rfl, rfl, fl55, W55, rgf55, exf55⟩ := h55
                have F43 := F42.call Xb7 fl55 rfl
                have mr43 := MRK.call mr42 W53 skb7 XT.refl fl55 rfl rfl
                refine c_st (st2 := [.int (iI f55)]) rfl ?_
                have ri426 : 0 ≤ ivh55 (sk 15) 4 ∧ ivh55 (sk 15) 4 ≤ 500 := W55.int ty105 4
                have ri427 : 0 ≤ ivh55 (sk 15) 7 ∧ ivh55 (sk 15) 7 ≤ 100000 := W55.int ty105 7
                have gf55 : ((f55 = 0 ∨ f55 = 6 ∨ f55 = 7) ∧ ivh55 (sk 15) 4 = ivh53 (sk 15) 4 ∧ (f55 = 0 → ivh55 (sk 15) 7 ≤ 200)) ∧ SBX sk lnb7 ivh53 rvb7 ivh55 (sk 15) ob5 f55 := exf55
                refine c_istore (lv2 := [(4, .int (iI f55)), (3, .ref ob5), (2, .int (iI fl)), (0, .ref a0), (1, .int (iI i))]) C dX11_head_131 (by decide) rfl ?_
                refine c_iload (j := 0) C dX11_head_133 rfl ?_
                refine c_if_eq (tgt := 152) C ⟨by omega, by omega⟩ dX11_head_135 (by decide) (fun c25 => ?_) (fun c25 => ?_)
                · refine c_aload_n (j := 3) (x := a0) C dX11_head_152 rfl ?_
                  obtain ⟨rb46, rq46, trb46⟩ := W55.ref ty103 3 rfl rfl rfl
                  have erb46 := W55.sk trb46 (by decide) rfl
                  subst erb46
                  refine c_getr (k := 3) C ck_12 dX11_head_153 w2_47 (by decide) ty103 rfl rfl (by decide) rfl rq46 ?_
                  refine c_st (st2 := [.ref (sk 5)]) rfl ?_
                  have ty107 := Xb7.ty tsk5
                  refine d_callV (As := []) (rest := []) C hM (C_clear_5 (a0 := (sk 5)) W55 skb7 ty107  ) dX11_head_156 kV_X11_164 rfl ty107 rfl rfl (by decide) ck_2 rfl (Nat.le_of_ble_eq_true rfl) ⟨(Nat.le_of_ble_eq_true rfl), (Nat.le_of_ble_eq_true rfl)⟩ hph pl19 (show 0 + 0 = 0 from rfl) (by decide) (fun rh56 Lh56 clh56 lnh56 ivh56 rvh56 h56 => ?_)
                  obtain ⟨rfl, rfl, rfl, rfl, rfl, fl56, W56, exf56⟩ := h56
                  have F44 := F43.call Xb7 fl56 rfl
                  have mr44 := MRK.call mr43 W55 skb7 XT.refl fl56 rfl rfl
                  refine c_st (st2 := []) rfl ?_
                  have ri428 : 0 ≤ ivh56 (sk 5) 2 ∧ ivh56 (sk 5) 2 ≤ 200 := W56.int ty107 2
                  have gf56 : ivh56 (sk 5) 2 = 0 := exf56
                  refine c_iconst C dX11_head_159 ?_
                  refine c_istore (lv2 := [(5, .int (iI 0)), (4, .int (iI f55)), (3, .ref ob5), (2, .int (iI fl)), (0, .ref a0), (1, .int (iI i))]) C dX11_head_160 (by decide) rfl ?_
                  have Lp8 : ∀ (nn : Nat) (k2 : Int) (Lb8 : List Nat) (clb8 lnb8 : Nat → Nat) (ivb8 : Nat → Nat → Int) (rvb8 : Nat → Nat → Option Nat) , 101 - k2 < (nn : Int) → XT L cl ln Lb8 clb8 lnb8 → WT (g0 G) sk Lb8 clb8 lnb8 ivb8 rvb8 → fT [1, 2, 5, 35, 15, 50, 51, 52, 53, 54, 55] L cl iv rv ivb8 rvb8 → (0 ≤ k2 ∧ k2 ≤ 100) → (ivb8 (sk 15) 7 ≤ 200) → (ivb8 (sk 2) 2 = 0) → (ivb8 (sk 5) 2 = k2) → (k2 ≤ ivb8 (sk 15) 7 ∧ k2 ≤ iv a0 11) → (HDP sk ln iv rv i (ivb8 (sk 15) 7)) → (ivb8 a0 11 = iv a0 11) → (ivb8 a0 12 = iv a0 12) → (ivb8 a0 13 = iv a0 13) → (ivb8 a0 14 = iv a0 14) → (ivb8 a0 15 = iv a0 15) → (ivb8 a0 16 = iv a0 16) → (rvb8 a0 9 = rv a0 9) → (rvb8 a0 10 = rv a0 10) → cw p l e 8 ((PHM) + 0 - ((Phi (g0 G) sk) ln rv)) s m args below meth c G A 6 (MQ below (Qu G A (Qp G (Phi (g0 G) sk) ((Phi (g0 G) sk) ln rv) 0 (fun v L2 cl2 ln2 iv2 rv2 => ∃ f : Int, v = some (.int (iI f)) ∧ XT L cl ln L2 cl2 ln2 ∧ fT [1, 2, 5, 35, 15, 50, 51, 52, 53, 54, 55] L cl iv rv iv2 rv2 ∧ WT (g0 G) sk L2 cl2 ln2 iv2 rv2 ∧ (-2147483648 ≤ f ∧ f ≤ 2147483647) ∧ (True) ∧ iv2 a0 11 = iv a0 11 ∧ iv2 a0 12 = iv a0 12 ∧ iv2 a0 13 = iv a0 13 ∧ iv2 a0 14 = iv a0 14 ∧ iv2 a0 15 = iv a0 15 ∧ iv2 a0 16 = iv a0 16 ∧ iv2 (sk 2) 2 = 0 ∧ (HDX sk ln iv rv (iv a0 11) i f) ∧ rv2 a0 9 = rv a0 9 ∧ rv2 a0 10 = rv a0 10))) args s (((PHM) + 0 - ((Phi (g0 G) sk) ln rv)) / 16) ((PHM) + 0 - ((Phi (g0 G) sk) ln rv)) A) (Phi (g0 G) sk) ((Phi (g0 G) sk) ln rv) Lb8 clb8 lnb8 ivb8 rvb8 0 162 [(5, .int (iI k2)), (4, .int (iI f55)), (3, .ref ob5), (2, .int (iI fl)), (0, .ref a0), (1, .int (iI i))] [] := by
                    intro nn
                    induction nn with
                    | zero =>
                      intro  k2 Lb8 clb8 lnb8 ivb8 rvb8 hm Xb8 Wb8 Fb8  hk2 hco htz h52 hk3 hHD hkp11 hkp12 hkp13 hkp14 hkp15 hkp16 hkr9 hkr10
                      have skb8 := Xb8.skl hS
                      exact absurd hm (by omega)
                    | succ nn ih8 =>
                      intro  k2 Lb8 clb8 lnb8 ivb8 rvb8 hm Xb8 Wb8 Fb8  hk2 hco htz h52 hk3 hHD hkp11 hkp12 hkp13 hkp14 hkp15 hkp16 hkr9 hkr10
                      have skb8 := Xb8.skl hS
                      have mrb8 := MRK.call hmr hW hS Xb8 Fb8 rfl rfl
                      refine c_iload (j := 0) C dX11_head_162 rfl ?_
                      refine c_aload_n (j := 4) (x := a0) C dX11_head_164 rfl ?_
                      have ty108 := Xb8.ty t_a0
                      obtain ⟨rb47, rq47, trb47⟩ := Wb8.ref ty108 6 rfl rfl rfl
                      have erb47 := Wb8.sk trb47 (by decide) rfl
                      subst erb47
                      refine c_getr (k := 6) C ck_12 dX11_head_165 w2_50 (by decide) ty108 rfl rfl (by decide) rfl rq47 ?_
                      refine c_st (st2 := [.ref (sk 15), .int (iI k2)]) rfl ?_
                      have ty109 := Xb8.ty tsk15
                      have ri429 : 0 ≤ ivb8 (sk 15) 7 ∧ ivb8 (sk 15) 7 ≤ 100000 := Wb8.int ty109 7
                      refine c_get (k := 7) C ck_7 dX11_head_168 w1_149 (by decide) ty109 rfl rfl (by decide) rfl ?_
                      refine c_icmp_ge (tgt := 206) C ⟨by omega, by omega⟩ ⟨by omega, by omega⟩ dX11_head_171 (by decide) (fun c26 => ?_) (fun c26 => ?_)
                      · refine c_aload_n (j := 4) (x := a0) C dX11_head_206 rfl ?_
                        refine c_aload_n (j := 4) (x := a0) C dX11_head_207 rfl ?_
                        obtain ⟨rb48, rq48, trb48⟩ := Wb8.ref ty108 3 rfl rfl rfl
                        have erb48 := Wb8.sk trb48 (by decide) rfl
                        subst erb48
                        refine c_getr (k := 3) C ck_12 dX11_head_208 w2_47 (by decide) ty108 rfl rfl (by decide) rfl rq48 ?_
                        refine c_st (st2 := [.ref (sk 5), .ref a0]) rfl ?_
                        have ty110 := Xb8.ty tsk5
                        have ri430 : 0 ≤ ivb8 (sk 5) 2 ∧ ivb8 (sk 5) 2 ≤ 200 := Wb8.int ty110 2
                        refine c_get (k := 2) C ck_2 dX11_head_211 w1_44 (by decide) ty110 rfl rfl (by decide) rfl ?_
                        have pl20 := Phi.le Wb8 skb8
                        refine d_callV (As := [.int (iI (ivb8 (sk 5) 2))]) (rest := []) C hM (C_done (a0 := a0) (x := ivb8 (sk 5) 2) Wb8 skb8 ty108 (by omega) ) dX11_head_214 kV_X11_109 rfl ty108 rfl rfl (by decide) ck_12 rfl (Nat.le_of_ble_eq_true rfl) ⟨(Nat.le_of_ble_eq_true rfl), (Nat.le_of_ble_eq_true rfl)⟩ hph pl20 (show 0 + 0 = 0 from rfl) (by decide) (fun rh57 Lh57 clh57 lnh57 ivh57 rvh57 h57 => ?_)
                        obtain ⟨f57, rfl, rfl, rfl, rfl, rfl, fl57, W57, rgf57, exf57, kp11f57, kp12f57, kp13f57, kp14f57, kp15f57, kp16f57⟩ := h57
                        have ri431 : 1 ≤ ivb8 a0 11 ∧ ivb8 a0 11 ≤ 100 := Wb8.int ty108 11
                        have ri432 : 1 ≤ ivb8 a0 12 ∧ ivb8 a0 12 ≤ 50 := Wb8.int ty108 12
                        have ri433 : (-2147483648) ≤ ivb8 a0 13 ∧ ivb8 a0 13 ≤ 2147483647 := Wb8.int ty108 13
                        have ri434 : (-2147483648) ≤ ivb8 a0 14 ∧ ivb8 a0 14 ≤ 2147483647 := Wb8.int ty108 14
                        have ri435 : (-2147483648) ≤ ivb8 a0 15 ∧ ivb8 a0 15 ≤ 2147483647 := Wb8.int ty108 15
                        have ri436 : (-2147483648) ≤ ivb8 a0 16 ∧ ivb8 a0 16 ≤ 2147483647 := Wb8.int ty108 16
                        have F45 := Fb8.call Xb8 fl57 rfl
                        have mr45 := MRK.call mrb8 Wb8 skb8 XT.refl fl57 rfl rfl
                        refine c_st (st2 := [.int (iI f57)]) rfl ?_
                        have gk11f57 : ivh57 a0 11 = ivb8 a0 11 := kp11f57
                        have gk12f57 : ivh57 a0 12 = ivb8 a0 12 := kp12f57
                        have gk13f57 : ivh57 a0 13 = ivb8 a0 13 := kp13f57
                        have gk14f57 : ivh57 a0 14 = ivb8 a0 14 := kp14f57
                        have gk15f57 : ivh57 a0 15 = ivb8 a0 15 := kp15f57
                        have gk16f57 : ivh57 a0 16 = ivb8 a0 16 := kp16f57
                        have gf57 : f57 = (ivb8 (sk 5) 2) := exf57
                        have ty111 := Xb8.ty tsk2
                        have ri437 : 0 ≤ ivh57 (sk 2) 2 ∧ ivh57 (sk 2) 2 ≤ 3000 := W57.int ty111 2
                        have ie660 : ivh57 (sk 2) 2 = ivb8 (sk 2) 2 := fl57.i ty111 rfl 2
                        have ri438 : 1 ≤ ivh57 a0 11 ∧ ivh57 a0 11 ≤ 100 := W57.int ty108 11
                        have ri439 : 1 ≤ ivh57 a0 12 ∧ ivh57 a0 12 ≤ 50 := W57.int ty108 12
                        have ri440 : (-2147483648) ≤ ivh57 a0 13 ∧ ivh57 a0 13 ≤ 2147483647 := W57.int ty108 13
                        have ri441 : (-2147483648) ≤ ivh57 a0 14 ∧ ivh57 a0 14 ≤ 2147483647 := W57.int ty108 14
                        have ri442 : (-2147483648) ≤ ivh57 a0 15 ∧ ivh57 a0 15 ≤ 2147483647 := W57.int ty108 15
                        have ri443 : (-2147483648) ≤ ivh57 a0 16 ∧ ivh57 a0 16 ≤ 2147483647 := W57.int ty108 16
                        have ri444 : 0 ≤ ivh57 (sk 15) 7 ∧ ivh57 (sk 15) 7 ≤ 100000 := W57.int ty109 7
                        have ie668 : ivh57 (sk 15) 7 = ivb8 (sk 15) 7 := fl57.i ty109 rfl 7
                        have ri445 : 0 ≤ ivh57 (sk 5) 2 ∧ ivh57 (sk 5) 2 ≤ 200 := W57.int ty110 2
                        have ie669 : ivh57 (sk 5) 2 = ivb8 (sk 5) 2 := fl57.i ty110 rfl 2
                        exact c_iret C dX11_head_217 rfl (by decide) (rom0 hph pl20 (by decide)) ⟨f57, rfl, Xb8, F45, W57, ⟨by omega, by omega⟩, trivial, (by omega), (by omega), (by omega), (by omega), (by omega), (by omega), (by omega), (HDX.ok hHD (by omega)), (show rvb8 a0 9 = rv a0 9 from hkr9), (show rvb8 a0 10 = rv a0 10 from hkr10)⟩
                      · refine c_iload (j := 0) C dX11_head_174 rfl ?_
                        refine c_aload_n (j := 4) (x := a0) C dX11_head_176 rfl ?_
                        have ri446 : 1 ≤ ivb8 a0 11 ∧ ivb8 a0 11 ≤ 100 := Wb8.int ty108 11
                        refine c_get (k := 11) C ck_12 dX11_head_177 w2_55 (by decide) ty108 rfl rfl (by decide) rfl ?_
                        refine c_icmp_ge (tgt := 206) C ⟨by omega, by omega⟩ ⟨by omega, by omega⟩ dX11_head_180 (by decide) (fun c27 => ?_) (fun c27 => ?_)
                        · refine c_aload_n (j := 4) (x := a0) C dX11_head_206 rfl ?_
                          refine c_aload_n (j := 4) (x := a0) C dX11_head_207 rfl ?_
                          obtain ⟨rb49, rq49, trb49⟩ := Wb8.ref ty108 3 rfl rfl rfl
                          have erb49 := Wb8.sk trb49 (by decide) rfl
                          subst erb49
                          refine c_getr (k := 3) C ck_12 dX11_head_208 w2_47 (by decide) ty108 rfl rfl (by decide) rfl rq49 ?_
                          refine c_st (st2 := [.ref (sk 5), .ref a0]) rfl ?_
                          have ty112 := Xb8.ty tsk5
                          have ri447 : 0 ≤ ivb8 (sk 5) 2 ∧ ivb8 (sk 5) 2 ≤ 200 := Wb8.int ty112 2
                          refine c_get (k := 2) C ck_2 dX11_head_211 w1_44 (by decide) ty112 rfl rfl (by decide) rfl ?_
                          have pl21 := Phi.le Wb8 skb8
                          refine d_callV (As := [.int (iI (ivb8 (sk 5) 2))]) (rest := []) C hM (C_done (a0 := a0) (x := ivb8 (sk 5) 2) Wb8 skb8 ty108 (by omega) ) dX11_head_214 kV_X11_109 rfl ty108 rfl rfl (by decide) ck_12 rfl (Nat.le_of_ble_eq_true rfl) ⟨(Nat.le_of_ble_eq_true rfl), (Nat.le_of_ble_eq_true rfl)⟩ hph pl21 (show 0 + 0 = 0 from rfl) (by decide) (fun rh58 Lh58 clh58 lnh58 ivh58 rvh58 h58 => ?_)
                          obtain ⟨f58, rfl, rfl, rfl, rfl, rfl, fl58, W58, rgf58, exf58, kp11f58, kp12f58, kp13f58, kp14f58, kp15f58, kp16f58⟩ := h58
                          have ri448 : 1 ≤ ivb8 a0 12 ∧ ivb8 a0 12 ≤ 50 := Wb8.int ty108 12
                          have ri449 : (-2147483648) ≤ ivb8 a0 13 ∧ ivb8 a0 13 ≤ 2147483647 := Wb8.int ty108 13
                          have ri450 : (-2147483648) ≤ ivb8 a0 14 ∧ ivb8 a0 14 ≤ 2147483647 := Wb8.int ty108 14
                          have ri451 : (-2147483648) ≤ ivb8 a0 15 ∧ ivb8 a0 15 ≤ 2147483647 := Wb8.int ty108 15
                          have ri452 : (-2147483648) ≤ ivb8 a0 16 ∧ ivb8 a0 16 ≤ 2147483647 := Wb8.int ty108 16
                          have F46 := Fb8.call Xb8 fl58 rfl
                          have mr46 := MRK.call mrb8 Wb8 skb8 XT.refl fl58 rfl rfl
                          refine c_st (st2 := [.int (iI f58)]) rfl ?_
                          have gk11f58 : ivh58 a0 11 = ivb8 a0 11 := kp11f58
                          have gk12f58 : ivh58 a0 12 = ivb8 a0 12 := kp12f58
                          have gk13f58 : ivh58 a0 13 = ivb8 a0 13 := kp13f58
                          have gk14f58 : ivh58 a0 14 = ivb8 a0 14 := kp14f58
                          have gk15f58 : ivh58 a0 15 = ivb8 a0 15 := kp15f58
                          have gk16f58 : ivh58 a0 16 = ivb8 a0 16 := kp16f58
                          have gf58 : f58 = (ivb8 (sk 5) 2) := exf58
                          have ty113 := Xb8.ty tsk2
                          have ri453 : 0 ≤ ivh58 (sk 2) 2 ∧ ivh58 (sk 2) 2 ≤ 3000 := W58.int ty113 2
                          have ie677 : ivh58 (sk 2) 2 = ivb8 (sk 2) 2 := fl58.i ty113 rfl 2
                          have ri454 : 1 ≤ ivh58 a0 11 ∧ ivh58 a0 11 ≤ 100 := W58.int ty108 11
                          have ri455 : 1 ≤ ivh58 a0 12 ∧ ivh58 a0 12 ≤ 50 := W58.int ty108 12
                          have ri456 : (-2147483648) ≤ ivh58 a0 13 ∧ ivh58 a0 13 ≤ 2147483647 := W58.int ty108 13
                          have ri457 : (-2147483648) ≤ ivh58 a0 14 ∧ ivh58 a0 14 ≤ 2147483647 := W58.int ty108 14
                          have ri458 : (-2147483648) ≤ ivh58 a0 15 ∧ ivh58 a0 15 ≤ 2147483647 := W58.int ty108 15
                          have ri459 : (-2147483648) ≤ ivh58 a0 16 ∧ ivh58 a0 16 ≤ 2147483647 := W58.int ty108 16
                          have ri460 : 0 ≤ ivh58 (sk 15) 7 ∧ ivh58 (sk 15) 7 ≤ 100000 := W58.int ty109 7
                          have ie685 : ivh58 (sk 15) 7 = ivb8 (sk 15) 7 := fl58.i ty109 rfl 7
                          have ri461 : 0 ≤ ivh58 (sk 5) 2 ∧ ivh58 (sk 5) 2 ≤ 200 := W58.int ty112 2
                          have ie686 : ivh58 (sk 5) 2 = ivb8 (sk 5) 2 := fl58.i ty112 rfl 2
                          exact c_iret C dX11_head_217 rfl (by decide) (rom0 hph pl21 (by decide)) ⟨f58, rfl, Xb8, F46, W58, ⟨by omega, by omega⟩, trivial, (by omega), (by omega), (by omega), (by omega), (by omega), (by omega), (by omega), (HDX.ok hHD (by omega)), (show rvb8 a0 9 = rv a0 9 from hkr9), (show rvb8 a0 10 = rv a0 10 from hkr10)⟩
                        · refine c_aload_n (j := 4) (x := a0) C dX11_head_183 rfl ?_
                          obtain ⟨rb50, rq50, trb50⟩ := Wb8.ref ty108 3 rfl rfl rfl
                          have erb50 := Wb8.sk trb50 (by decide) rfl
                          subst erb50
                          refine c_getr (k := 3) C ck_12 dX11_head_184 w2_47 (by decide) ty108 rfl rfl (by decide) rfl rq50 ?_
                          refine c_st (st2 := [.ref (sk 5)]) rfl ?_
                          refine c_aload_n (j := 4) (x := a0) C dX11_head_187 rfl ?_
                          refine c_getr (k := 6) C ck_12 dX11_head_188 w2_50 (by decide) ty108 rfl rfl (by decide) rfl rq47 ?_
                          refine c_st (st2 := [.ref (sk 15), .ref (sk 5)]) rfl ?_
                          obtain ⟨rb51, rq51, trb51⟩ := Wb8.ref ty109 6 rfl rfl rfl
                          have lnrb51 : 200 ≤ lnb8 rb51 ∧ lnb8 rb51 ≤ 200 := Wb8.len trb51 rfl
                          refine c_getr (k := 6) C ck_7 dX11_head_191 w1_146 (by decide) ty109 rfl rfl (by decide) rfl rq51 ?_
                          refine c_st (st2 := [.ref rb51, .ref (sk 5)]) rfl ?_
                          refine c_iload (j := 0) C dX11_head_194 rfl ?_
                          have ll5 : 200 ≤ lnb8 rb51 ∧ lnb8 rb51 ≤ 200 := Wb8.len trb51 rfl
                          refine c_iald C dX11_head_196 trb51 rfl (by omega) (by omega) (by omega) ?_
                          have ri462 : (-2147483648) ≤ ivb8 rb51 k2.toNat ∧ ivb8 rb51 k2.toNat ≤ 2147483647 := Wb8.int trb51 k2.toNat
                          have ty114 := Xb8.ty tsk5
                          have ri463 : 0 ≤ ivb8 (sk 5) 2 ∧ ivb8 (sk 5) 2 ≤ 200 := Wb8.int ty114 2
                          have pl22 := Phi.le Wb8 skb8
                          refine d_callV (As := [.int (iI (ivb8 rb51 k2.toNat))]) (rest := []) C hM (C_add_5 (a0 := (sk 5)) (x := ivb8 rb51 k2.toNat) Wb8 skb8 ty114 (by omega) ) dX11_head_197 kV_X11_112 rfl ty114 rfl rfl (by decide) ck_2 rfl (Nat.le_of_ble_eq_true rfl) ⟨(Nat.le_of_ble_eq_true rfl), (Nat.le_of_ble_eq_true rfl)⟩ hph pl22 (show 0 + 0 = 0 from rfl) (by decide) (fun rh59 Lh59 clh59 lnh59 ivh59 rvh59 h59 => ?_)
                          obtain ⟨rfl, xl59, fl59, W59, exf59⟩ := h59
                          have F47 := Fb8.call Xb8 fl59 rfl
                          have mr47 := MRK.call mrb8 Wb8 skb8 xl59 fl59 rfl rfl
                          have ty115 := Xb8.ty tsk2
                          have ty116 := Xb8.ty tsk3
                          have ty117 := Xb8.ty tsk4
                          have ty118 := Xb8.ty tsk13
                          have ty119 := Xb8.ty tsk14
                          have ty120 := Xb8.ty tsk16
                          have ty121 := Xb8.ty tsk17
                          have ty122 := Xb8.ty tsk22
                          have ty123 := Xb8.ty tsk23
                          have X5 := Xb8.trans xl59
                          have sk5 := xl59.skl skb8
                          refine c_st (st2 := []) rfl ?_
                          have ty124 := xl59.ty ty114
                          have ri464 : 0 ≤ ivh59 (sk 5) 2 ∧ ivh59 (sk 5) 2 ≤ 200 := W59.int ty124 2
                          have gf59 : ((ivh59 (sk 5) 2 = ivb8 (sk 5) 2 ∧ ivb8 (sk 5) 2 = 200) ∨ (ivh59 (sk 5) 2 = ivb8 (sk 5) 2 + 1 ∧ ivb8 (sk 5) 2 < 200)) := exf59
                          refine c_iinc (z := k2) (j := 0) (lv2 := [(5, .int (iI (k2 + 1))), (4, .int (iI f55)), (3, .ref ob5), (2, .int (iI fl)), (0, .ref a0), (1, .int (iI i))]) C dX11_head_200 rfl (by decide) rfl ?_
                          refine c_goto (tgt := 162) C dX11_head_203 (by decide) ?_
                          have ty125 := xl59.ty ty109
                          have ri465 : 0 ≤ ivh59 (sk 15) 7 ∧ ivh59 (sk 15) 7 ≤ 100000 := W59.int ty125 7
                          have ie690 : ivh59 (sk 15) 7 = ivb8 (sk 15) 7 := fl59.i ty109 rfl 7
                          have ty126 := xl59.ty ty115
                          have ri466 : 0 ≤ ivh59 (sk 2) 2 ∧ ivh59 (sk 2) 2 ≤ 3000 := W59.int ty126 2
                          have ie691 : ivh59 (sk 2) 2 = ivb8 (sk 2) 2 := fl59.i ty115 rfl 2
                          have ty127 := xl59.ty ty108
                          have ri467 : 1 ≤ ivh59 a0 11 ∧ ivh59 a0 11 ≤ 100 := W59.int ty127 11
                          have ie693 : ivh59 a0 11 = ivb8 a0 11 := fl59.i ty108 rfl 11
                          have ri468 : 1 ≤ ivh59 a0 12 ∧ ivh59 a0 12 ≤ 50 := W59.int ty127 12
                          have ie694 : ivh59 a0 12 = ivb8 a0 12 := fl59.i ty108 rfl 12
                          have ri469 : (-2147483648) ≤ ivh59 a0 13 ∧ ivh59 a0 13 ≤ 2147483647 := W59.int ty127 13
                          have ie696 : ivh59 a0 13 = ivb8 a0 13 := fl59.i ty108 rfl 13
                          have ri470 : (-2147483648) ≤ ivh59 a0 14 ∧ ivh59 a0 14 ≤ 2147483647 := W59.int ty127 14
                          have ie698 : ivh59 a0 14 = ivb8 a0 14 := fl59.i ty108 rfl 14
                          have ri471 : (-2147483648) ≤ ivh59 a0 15 ∧ ivh59 a0 15 ≤ 2147483647 := W59.int ty127 15
                          have ie700 : ivh59 a0 15 = ivb8 a0 15 := fl59.i ty108 rfl 15
                          have ri472 : (-2147483648) ≤ ivh59 a0 16 ∧ ivh59 a0 16 ≤ 2147483647 := W59.int ty127 16
                          have ie702 : ivh59 a0 16 = ivb8 a0 16 := fl59.i ty108 rfl 16
                          refine c_lv (lv2 := [(5, .int (iI (k2 + 1))), (4, .int (iI f55)), (3, .ref ob5), (2, .int (iI fl)), (0, .ref a0), (1, .int (iI i))]) [0, 1, 2, 3, 4, 5] rfl ?_
                          exact ih8  (k2 + 1) _ _ _ _ _ (by omega) X5 W59 F47  (by omega) (by show ivh59 (sk 15) 7 ≤ 200; omega) (by show ivh59 (sk 2) 2 = 0; omega) (by show ivh59 (sk 5) 2 = (k2 + 1); omega) (by show (k2 + 1) ≤ ivh59 (sk 15) 7 ∧ (k2 + 1) ≤ iv a0 11; omega) (by rw [show ivh59 (sk 15) 7 = ivb8 (sk 15) 7 by omega]; exact hHD) (by show ivh59 a0 11 = iv a0 11; omega) (by show ivh59 a0 12 = iv a0 12; omega) (by show ivh59 a0 13 = iv a0 13; omega) (by show ivh59 a0 14 = iv a0 14; omega) (by show ivh59 a0 15 = iv a0 15; omega) (by show ivh59 a0 16 = iv a0 16; omega) (Eq.trans (show rvh59 a0 9 = rvb8 a0 9 from (fl59.r ty108 rfl 9)) (show rvb8 a0 9 = rv a0 9 from hkr9)) (Eq.trans (show rvh59 a0 10 = rvb8 a0 10 from (fl59.r ty108 rfl 10)) (show rvb8 a0 10 = rv a0 10 from hkr10))
                  have ri473 : 0 ≤ ivh56 (sk 15) 7 ∧ ivh56 (sk 15) 7 ≤ 100000 := W56.int ty105 7
                  have ie704 : ivh56 (sk 15) 7 = ivh55 (sk 15) 7 := fl56.i ty105 rfl 7
                  have ri474 : 0 ≤ ivh56 (sk 2) 2 ∧ ivh56 (sk 2) 2 ≤ 3000 := W56.int ty104 2
                  have ie705 : ivh56 (sk 2) 2 = ivh55 (sk 2) 2 := fl56.i ty104 rfl 2
                  have ie706 : ivh55 (sk 2) 2 = ivh53 (sk 2) 2 := fl55.i ty104 rfl 2
                  have ri475 : 1 ≤ ivh56 a0 11 ∧ ivh56 a0 11 ≤ 100 := W56.int ty103 11
                  have ie707 : ivh56 a0 11 = ivh55 a0 11 := fl56.i ty103 rfl 11
                  have ie708 : ivh55 a0 11 = ivh53 a0 11 := fl55.i ty103 rfl 11
                  have ie709 : ivh53 a0 11 = ivb7 a0 11 := fl53.i ty103 rfl 11
                  have ri476 : 1 ≤ ivh56 a0 12 ∧ ivh56 a0 12 ≤ 50 := W56.int ty103 12
                  have ie711 : ivh56 a0 12 = ivh55 a0 12 := fl56.i ty103 rfl 12
                  have ie712 : ivh55 a0 12 = ivh53 a0 12 := fl55.i ty103 rfl 12
                  have ie713 : ivh53 a0 12 = ivb7 a0 12 := fl53.i ty103 rfl 12
                  have ri477 : (-2147483648) ≤ ivh56 a0 13 ∧ ivh56 a0 13 ≤ 2147483647 := W56.int ty103 13
                  have ie715 : ivh56 a0 13 = ivh55 a0 13 := fl56.i ty103 rfl 13
                  have ie716 : ivh55 a0 13 = ivh53 a0 13 := fl55.i ty103 rfl 13
                  have ie717 : ivh53 a0 13 = ivb7 a0 13 := fl53.i ty103 rfl 13
                  have ri478 : (-2147483648) ≤ ivh56 a0 14 ∧ ivh56 a0 14 ≤ 2147483647 := W56.int ty103 14
                  have ie719 : ivh56 a0 14 = ivh55 a0 14 := fl56.i ty103 rfl 14
                  have ie720 : ivh55 a0 14 = ivh53 a0 14 := fl55.i ty103 rfl 14
                  have ie721 : ivh53 a0 14 = ivb7 a0 14 := fl53.i ty103 rfl 14
                  have ri479 : (-2147483648) ≤ ivh56 a0 15 ∧ ivh56 a0 15 ≤ 2147483647 := W56.int ty103 15
                  have ie723 : ivh56 a0 15 = ivh55 a0 15 := fl56.i ty103 rfl 15
                  have ie724 : ivh55 a0 15 = ivh53 a0 15 := fl55.i ty103 rfl 15
                  have ie725 : ivh53 a0 15 = ivb7 a0 15 := fl53.i ty103 rfl 15
                  have ri480 : (-2147483648) ≤ ivh56 a0 16 ∧ ivh56 a0 16 ≤ 2147483647 := W56.int ty103 16
                  have ie727 : ivh56 a0 16 = ivh55 a0 16 := fl56.i ty103 rfl 16
                  have ie728 : ivh55 a0 16 = ivh53 a0 16 := fl55.i ty103 rfl 16
                  have ie729 : ivh53 a0 16 = ivb7 a0 16 := fl53.i ty103 rfl 16
                  refine c_lv (lv2 := [(5, .int (iI 0)), (4, .int (iI f55)), (3, .ref ob5), (2, .int (iI fl)), (0, .ref a0), (1, .int (iI i))]) [0, 1, 2, 3, 4, 5] rfl ?_
                  exact Lp8 103 0 _ _ _ _ _ (by omega) Xb7 W56 F44  (by omega) (by show ivh56 (sk 15) 7 ≤ 200; omega) (by show ivh56 (sk 2) 2 = 0; omega) (by show ivh56 (sk 5) 2 = 0; omega) (by show 0 ≤ ivh56 (sk 15) 7 ∧ 0 ≤ iv a0 11; omega) (HDP.mk wkob5 (QT.of hW hS Xb7 F42 rfl rfl rfl rfl rfl) hLC (by omega) (by omega) hWD (by omega) gf55.2 (by omega) (by omega)) (by show ivh56 a0 11 = iv a0 11; omega) (by show ivh56 a0 12 = iv a0 12; omega) (by show ivh56 a0 13 = iv a0 13; omega) (by show ivh56 a0 14 = iv a0 14; omega) (by show ivh56 a0 15 = iv a0 15; omega) (by show ivh56 a0 16 = iv a0 16; omega) (show rvb7 a0 9 = rv a0 9 from hkr9) (show rvb7 a0 10 = rv a0 10 from hkr10)
                · refine c_aload_n (j := 3) (x := a0) C dX11_head_138 rfl ?_
                  refine c_iload (j := 0) C dX11_head_139 rfl ?_
                  refine c_aload_n (j := 3) (x := a0) C dX11_head_141 rfl ?_
                  refine c_getr (k := 6) C ck_12 dX11_head_142 w2_50 (by decide) ty103 rfl rfl (by decide) rfl rq45 ?_
                  refine c_st (st2 := [.ref (sk 15), .int (iI f55), .ref a0]) rfl ?_
                  refine d_callV (As := []) (rest := [.int (iI f55), .ref a0]) C hM (C_placeOfUnknown (a0 := (sk 15)) W55 skb7 ty105  ) dX11_head_145 kV_X11_263 rfl ty105 rfl rfl (by decide) ck_7 rfl (Nat.le_of_ble_eq_true rfl) ⟨(Nat.le_of_ble_eq_true rfl), (Nat.le_of_ble_eq_true rfl)⟩ hph pl19 (show 0 + 0 = 0 from rfl) (by decide) (fun rh60 Lh60 clh60 lnh60 ivh60 rvh60 h60 => ?_)
                  obtain ⟨f60, rfl, rfl, rfl, rfl, rfl, rfl, rgf60, exf60⟩ := h60
                  refine c_st (st2 := [.int (iI f60), .int (iI f55), .ref a0]) rfl ?_
                  refine d_callV (As := [.int (iI f55), .int (iI f60)]) (rest := []) C hM (C_refuseAt (a0 := a0) (x := f55) (y := f60) W55 skb7 ty103 (by omega) (by omega) ) dX11_head_148 kV_X11_266 rfl ty103 rfl rfl (by decide) ck_12 rfl (Nat.le_of_ble_eq_true rfl) ⟨(Nat.le_of_ble_eq_true rfl), (Nat.le_of_ble_eq_true rfl)⟩ hph pl19 (show 0 + 0 = 0 from rfl) (by decide) (fun rh61 Lh61 clh61 lnh61 ivh61 rvh61 h61 => ?_)
                  obtain ⟨f61, rfl, rfl, rfl, rfl, rfl, fl61, W61, rgf61, exf61, kp11f61, kp12f61, kp13f61, kp14f61, kp15f61, kp16f61⟩ := h61
                  have ri481 : 1 ≤ ivh55 a0 11 ∧ ivh55 a0 11 ≤ 100 := W55.int ty103 11
                  have ie731 : ivh55 a0 11 = ivh53 a0 11 := fl55.i ty103 rfl 11
                  have ie732 : ivh53 a0 11 = ivb7 a0 11 := fl53.i ty103 rfl 11
                  have ri482 : 1 ≤ ivh55 a0 12 ∧ ivh55 a0 12 ≤ 50 := W55.int ty103 12
                  have ie734 : ivh55 a0 12 = ivh53 a0 12 := fl55.i ty103 rfl 12
                  have ie735 : ivh53 a0 12 = ivb7 a0 12 := fl53.i ty103 rfl 12
                  have ri483 : (-2147483648) ≤ ivh55 a0 13 ∧ ivh55 a0 13 ≤ 2147483647 := W55.int ty103 13
                  have ie737 : ivh55 a0 13 = ivh53 a0 13 := fl55.i ty103 rfl 13
                  have ie738 : ivh53 a0 13 = ivb7 a0 13 := fl53.i ty103 rfl 13
                  have ri484 : (-2147483648) ≤ ivh55 a0 14 ∧ ivh55 a0 14 ≤ 2147483647 := W55.int ty103 14
                  have ie740 : ivh55 a0 14 = ivh53 a0 14 := fl55.i ty103 rfl 14
                  have ie741 : ivh53 a0 14 = ivb7 a0 14 := fl53.i ty103 rfl 14
                  have ri485 : (-2147483648) ≤ ivh55 a0 15 ∧ ivh55 a0 15 ≤ 2147483647 := W55.int ty103 15
                  have ie743 : ivh55 a0 15 = ivh53 a0 15 := fl55.i ty103 rfl 15
                  have ie744 : ivh53 a0 15 = ivb7 a0 15 := fl53.i ty103 rfl 15
                  have ri486 : (-2147483648) ≤ ivh55 a0 16 ∧ ivh55 a0 16 ≤ 2147483647 := W55.int ty103 16
                  have ie746 : ivh55 a0 16 = ivh53 a0 16 := fl55.i ty103 rfl 16
                  have ie747 : ivh53 a0 16 = ivb7 a0 16 := fl53.i ty103 rfl 16
                  have F48 := F43.call Xb7 fl61 rfl
                  have mr48 := MRK.call mr43 W55 skb7 XT.refl fl61 rfl rfl
                  refine c_st (st2 := [.int (iI f61)]) rfl ?_
                  have gk11f61 : ivh61 a0 11 = ivh55 a0 11 := kp11f61
                  have gk12f61 : ivh61 a0 12 = ivh55 a0 12 := kp12f61
                  have gk13f61 : ivh61 a0 13 = ivh55 a0 13 := kp13f61
                  have gk14f61 : ivh61 a0 14 = ivh55 a0 14 := kp14f61
                  have gk15f61 : ivh61 a0 15 = ivh55 a0 15 := kp15f61
                  have gk16f61 : ivh61 a0 16 = ivh55 a0 16 := kp16f61
                  have gf61 : f61 = -1 := exf61
                  have ri487 : 0 ≤ ivh61 (sk 2) 2 ∧ ivh61 (sk 2) 2 ≤ 3000 := W61.int ty104 2
                  have ie749 : ivh61 (sk 2) 2 = ivh55 (sk 2) 2 := fl61.i ty104 rfl 2
                  have ie750 : ivh55 (sk 2) 2 = ivh53 (sk 2) 2 := fl55.i ty104 rfl 2
                  have ri488 : 1 ≤ ivh61 a0 11 ∧ ivh61 a0 11 ≤ 100 := W61.int ty103 11
                  have ri489 : 1 ≤ ivh61 a0 12 ∧ ivh61 a0 12 ≤ 50 := W61.int ty103 12
                  have ri490 : (-2147483648) ≤ ivh61 a0 13 ∧ ivh61 a0 13 ≤ 2147483647 := W61.int ty103 13
                  have ri491 : (-2147483648) ≤ ivh61 a0 14 ∧ ivh61 a0 14 ≤ 2147483647 := W61.int ty103 14
                  have ri492 : (-2147483648) ≤ ivh61 a0 15 ∧ ivh61 a0 15 ≤ 2147483647 := W61.int ty103 15
                  have ri493 : (-2147483648) ≤ ivh61 a0 16 ∧ ivh61 a0 16 ≤ 2147483647 := W61.int ty103 16
                  exact c_iret C dX11_head_151 rfl (by decide) (rom0 hph pl19 (by decide)) ⟨f61, rfl, Xb7, F48, W61, ⟨by omega, by omega⟩, trivial, (by omega), (by omega), (by omega), (by omega), (by omega), (by omega), (by omega), (HDX.ns wkob5 (QT.of hW hS Xb7 F42 rfl rfl rfl rfl rfl) hLC (by omega) (by omega) gf55.2 (by omega) (by omega)), (show rvb7 a0 9 = rv a0 9 from hkr9), (show rvb7 a0 10 = rv a0 10 from hkr10)⟩
              · subst oq5
                refine c_lv (lv2 := [(3, .null), (2, .int (iI fl)), (0, .ref a0), (1, .int (iI i))]) [0, 1, 2, 3] rfl ?_
                refine c_st (st2 := []) rfl ?_
                refine c_aload_n (j := 2) (x := a0) C dX11_head_117 rfl ?_
                refine c_iconst C dX11_head_118 ?_
                refine d_callV (As := [.int (iI 3)]) (rest := []) C hM (C_refuse (a0 := a0) (x := 3) W53 skb7 ty103 ⟨by decide, by decide⟩ ) dX11_head_119 kV_X11_102 rfl ty103 rfl rfl (by decide) ck_12 rfl (Nat.le_of_ble_eq_true rfl) ⟨(Nat.le_of_ble_eq_true rfl), (Nat.le_of_ble_eq_true rfl)⟩ hph pl19 (show 0 + 0 = 0 from rfl) (by decide) (fun rh62 Lh62 clh62 lnh62 ivh62 rvh62 h62 => ?_)
                obtain ⟨f62, rfl, rfl, rfl, rfl, rfl, fl62, W62, rgf62, exf62, kp11f62, kp12f62, kp13f62, kp14f62, kp15f62, kp16f62⟩ := h62
                have ri494 : 1 ≤ ivh53 a0 11 ∧ ivh53 a0 11 ≤ 100 := W53.int ty103 11
                have ie757 : ivh53 a0 11 = ivb7 a0 11 := fl53.i ty103 rfl 11
                have ri495 : 1 ≤ ivh53 a0 12 ∧ ivh53 a0 12 ≤ 50 := W53.int ty103 12
                have ie759 : ivh53 a0 12 = ivb7 a0 12 := fl53.i ty103 rfl 12
                have ri496 : (-2147483648) ≤ ivh53 a0 13 ∧ ivh53 a0 13 ≤ 2147483647 := W53.int ty103 13
                have ie761 : ivh53 a0 13 = ivb7 a0 13 := fl53.i ty103 rfl 13
                have ri497 : (-2147483648) ≤ ivh53 a0 14 ∧ ivh53 a0 14 ≤ 2147483647 := W53.int ty103 14
                have ie763 : ivh53 a0 14 = ivb7 a0 14 := fl53.i ty103 rfl 14
                have ri498 : (-2147483648) ≤ ivh53 a0 15 ∧ ivh53 a0 15 ≤ 2147483647 := W53.int ty103 15
                have ie765 : ivh53 a0 15 = ivb7 a0 15 := fl53.i ty103 rfl 15
                have ri499 : (-2147483648) ≤ ivh53 a0 16 ∧ ivh53 a0 16 ≤ 2147483647 := W53.int ty103 16
                have ie767 : ivh53 a0 16 = ivb7 a0 16 := fl53.i ty103 rfl 16
                have F49 := F42.call Xb7 fl62 rfl
                have mr49 := MRK.call mr42 W53 skb7 XT.refl fl62 rfl rfl
                refine c_st (st2 := [.int (iI f62)]) rfl ?_
                have gk11f62 : ivh62 a0 11 = ivh53 a0 11 := kp11f62
                have gk12f62 : ivh62 a0 12 = ivh53 a0 12 := kp12f62
                have gk13f62 : ivh62 a0 13 = ivh53 a0 13 := kp13f62
                have gk14f62 : ivh62 a0 14 = ivh53 a0 14 := kp14f62
                have gk15f62 : ivh62 a0 15 = ivh53 a0 15 := kp15f62
                have gk16f62 : ivh62 a0 16 = ivh53 a0 16 := kp16f62
                have gf62 : f62 = -1 := exf62
                have ri500 : 0 ≤ ivh62 (sk 2) 2 ∧ ivh62 (sk 2) 2 ≤ 3000 := W62.int ty104 2
                have ie769 : ivh62 (sk 2) 2 = ivh53 (sk 2) 2 := fl62.i ty104 rfl 2
                have ri501 : 1 ≤ ivh62 a0 11 ∧ ivh62 a0 11 ≤ 100 := W62.int ty103 11
                have ri502 : 1 ≤ ivh62 a0 12 ∧ ivh62 a0 12 ≤ 50 := W62.int ty103 12
                have ri503 : (-2147483648) ≤ ivh62 a0 13 ∧ ivh62 a0 13 ≤ 2147483647 := W62.int ty103 13
                have ri504 : (-2147483648) ≤ ivh62 a0 14 ∧ ivh62 a0 14 ≤ 2147483647 := W62.int ty103 14
                have ri505 : (-2147483648) ≤ ivh62 a0 15 ∧ ivh62 a0 15 ≤ 2147483647 := W62.int ty103 15
                have ri506 : (-2147483648) ≤ ivh62 a0 16 ∧ ivh62 a0 16 ≤ 2147483647 := W62.int ty103 16
                exact c_iret C dX11_head_122 rfl (by decide) (rom0 hph pl19 (by decide)) ⟨f62, rfl, Xb7, F49, W62, ⟨by omega, by omega⟩, trivial, (by omega), (by omega), (by omega), (by omega), (by omega), (by omega), (by omega), (HDX.nw gf54 (QT.of hW hS Xb7 F42 rfl rfl rfl rfl rfl) (by omega)), (show rvb7 a0 9 = rv a0 9 from hkr9), (show rvb7 a0 10 = rv a0 10 from hkr10)⟩
            · refine c_aload_n (j := 2) (x := a0) C dX11_head_97 rfl ?_
              refine c_bipush (z := 6) C dX11_head_98 (by decide) ?_
              refine d_callV (As := [.int (iI 6)]) (rest := []) C hM (C_refuse (a0 := a0) (x := 6) W53 skb7 ty103 ⟨by decide, by decide⟩ ) dX11_head_100 kV_X11_102 rfl ty103 rfl rfl (by decide) ck_12 rfl (Nat.le_of_ble_eq_true rfl) ⟨(Nat.le_of_ble_eq_true rfl), (Nat.le_of_ble_eq_true rfl)⟩ hph pl19 (show 0 + 0 = 0 from rfl) (by decide) (fun rh63 Lh63 clh63 lnh63 ivh63 rvh63 h63 => ?_)
              obtain ⟨f63, rfl, rfl, rfl, rfl, rfl, fl63, W63, rgf63, exf63, kp11f63, kp12f63, kp13f63, kp14f63, kp15f63, kp16f63⟩ := h63
              have ri507 : 1 ≤ ivh53 a0 11 ∧ ivh53 a0 11 ≤ 100 := W53.int ty103 11
              have ie776 : ivh53 a0 11 = ivb7 a0 11 := fl53.i ty103 rfl 11
              have ri508 : 1 ≤ ivh53 a0 12 ∧ ivh53 a0 12 ≤ 50 := W53.int ty103 12
              have ie778 : ivh53 a0 12 = ivb7 a0 12 := fl53.i ty103 rfl 12
              have ri509 : (-2147483648) ≤ ivh53 a0 13 ∧ ivh53 a0 13 ≤ 2147483647 := W53.int ty103 13
              have ie780 : ivh53 a0 13 = ivb7 a0 13 := fl53.i ty103 rfl 13
              have ri510 : (-2147483648) ≤ ivh53 a0 14 ∧ ivh53 a0 14 ≤ 2147483647 := W53.int ty103 14
              have ie782 : ivh53 a0 14 = ivb7 a0 14 := fl53.i ty103 rfl 14
              have ri511 : (-2147483648) ≤ ivh53 a0 15 ∧ ivh53 a0 15 ≤ 2147483647 := W53.int ty103 15
              have ie784 : ivh53 a0 15 = ivb7 a0 15 := fl53.i ty103 rfl 15
              have ri512 : (-2147483648) ≤ ivh53 a0 16 ∧ ivh53 a0 16 ≤ 2147483647 := W53.int ty103 16
              have ie786 : ivh53 a0 16 = ivb7 a0 16 := fl53.i ty103 rfl 16
              have F50 := F42.call Xb7 fl63 rfl
              have mr50 := MRK.call mr42 W53 skb7 XT.refl fl63 rfl rfl
              refine c_st (st2 := [.int (iI f63)]) rfl ?_
              have gk11f63 : ivh63 a0 11 = ivh53 a0 11 := kp11f63
              have gk12f63 : ivh63 a0 12 = ivh53 a0 12 := kp12f63
              have gk13f63 : ivh63 a0 13 = ivh53 a0 13 := kp13f63
              have gk14f63 : ivh63 a0 14 = ivh53 a0 14 := kp14f63
              have gk15f63 : ivh63 a0 15 = ivh53 a0 15 := kp15f63
              have gk16f63 : ivh63 a0 16 = ivh53 a0 16 := kp16f63
              have gf63 : f63 = -1 := exf63
              have ri513 : 0 ≤ ivh63 (sk 2) 2 ∧ ivh63 (sk 2) 2 ≤ 3000 := W63.int ty104 2
              have ie788 : ivh63 (sk 2) 2 = ivh53 (sk 2) 2 := fl63.i ty104 rfl 2
              have ri514 : 1 ≤ ivh63 a0 11 ∧ ivh63 a0 11 ≤ 100 := W63.int ty103 11
              have ri515 : 1 ≤ ivh63 a0 12 ∧ ivh63 a0 12 ≤ 50 := W63.int ty103 12
              have ri516 : (-2147483648) ≤ ivh63 a0 13 ∧ ivh63 a0 13 ≤ 2147483647 := W63.int ty103 13
              have ri517 : (-2147483648) ≤ ivh63 a0 14 ∧ ivh63 a0 14 ≤ 2147483647 := W63.int ty103 14
              have ri518 : (-2147483648) ≤ ivh63 a0 15 ∧ ivh63 a0 15 ≤ 2147483647 := W63.int ty103 15
              have ri519 : (-2147483648) ≤ ivh63 a0 16 ∧ ivh63 a0 16 ≤ 2147483647 := W63.int ty103 16
              exact c_iret C dX11_head_103 rfl (by decide) (rom0 hph pl19 (by decide)) ⟨f63, rfl, Xb7, F50, W63, ⟨by omega, by omega⟩, trivial, (by omega), (by omega), (by omega), (by omega), (by omega), (by omega), (by omega), (HDX.bad hWD (by omega) (by omega)), (show rvb7 a0 9 = rv a0 9 from hkr9), (show rvb7 a0 10 = rv a0 10 from hkr10)⟩
          · refine c_iload_n (j := 1) C dX11_head_53 rfl ?_
            refine c_aload_n (j := 2) (x := a0) C dX11_head_54 rfl ?_
            have ty128 := Xb7.ty t_a0
            obtain ⟨rb52, rq52, trb52⟩ := Wb7.ref ty128 0 rfl rfl rfl
            have erb52 := Wb7.sk trb52 (by decide) rfl
            subst erb52
            refine c_getr (k := 0) C ck_12 dX11_head_55 w2_44 (by decide) ty128 rfl rfl (by decide) rfl rq52 ?_
            refine c_st (st2 := [.ref (sk 2), .int (iI k)]) rfl ?_
            have ty129 := Xb7.ty tsk2
            have ri520 : 0 ≤ ivb7 (sk 2) 2 ∧ ivb7 (sk 2) 2 ≤ 3000 := Wb7.int ty129 2
            refine c_get (k := 2) C ck_2 dX11_head_58 w1_44 (by decide) ty129 rfl rfl (by decide) rfl ?_
            refine c_icmp_ge (tgt := 86) C ⟨by omega, by omega⟩ ⟨by omega, by omega⟩ dX11_head_61 (by decide) (fun c28 => ?_) (fun c28 => ?_)
            · refine c_aload_n (j := 2) (x := a0) C dX11_head_86 rfl ?_
              refine c_getr (k := 0) C ck_12 dX11_head_87 w2_44 (by decide) ty128 rfl rfl (by decide) rfl rq52 ?_
              refine c_st (st2 := [.ref (sk 2)]) rfl ?_
              have ty130 := Xb7.ty tsk15
              have pl23 := Phi.le Wb7 skb7
              refine d_callV (As := []) (rest := []) C hM (C_clear_2 (a0 := (sk 2)) Wb7 skb7 ty129  ) dX11_head_90 kV_X11_164 rfl ty129 rfl rfl (by decide) ck_2 rfl (Nat.le_of_ble_eq_true rfl) ⟨(Nat.le_of_ble_eq_true rfl), (Nat.le_of_ble_eq_true rfl)⟩ hph pl23 (show 0 + 0 = 0 from rfl) (by decide) (fun rh64 Lh64 clh64 lnh64 ivh64 rvh64 h64 => ?_)
              obtain ⟨rfl, rfl, rfl, rfl, rfl, fl64, W64, exf64⟩ := h64
              have F51 := Fb7.call Xb7 fl64 rfl
              have mr51 := MRK.call mrb7 Wb7 skb7 XT.refl fl64 rfl rfl
              refine c_st (st2 := []) rfl ?_
              have ri521 : 0 ≤ ivh64 (sk 2) 2 ∧ ivh64 (sk 2) 2 ≤ 3000 := W64.int ty129 2
              have gf64 : ivh64 (sk 2) 2 = 0 := exf64
              have hLC := hLT.ni Wb7 fl64 rfl ty130
              have ri522 : 0 ≤ ivh64 (sk 15) 4 ∧ ivh64 (sk 15) 4 ≤ 500 := W64.int ty130 4
              have ie797 : ivh64 (sk 15) 4 = ivb7 (sk 15) 4 := fl64.i ty130 rfl 4
              refine c_iload_n (j := 0) C dX11_head_93 rfl ?_
              refine c_if_ne (tgt := 104) C ⟨by omega, by omega⟩ dX11_head_94 (by decide) (fun c29 => ?_) (fun c29 => ?_)
              · refine c_aload_n (j := 2) (x := a0) C dX11_head_104 rfl ?_
                obtain ⟨rb53, rq53, trb53⟩ := W64.ref ty128 4 rfl rfl rfl
                have erb53 := W64.sk trb53 (by decide) rfl
                subst erb53
                refine c_getr (k := 4) C ck_12 dX11_head_105 w2_48 (by decide) ty128 rfl rfl (by decide) rfl rq53 ?_
                refine c_st (st2 := [.ref (sk 13)]) rfl ?_
                refine c_iload_n (j := 3) C dX11_head_108 rfl ?_
                have ty131 := Xb7.ty tsk13
                refine d_callV (As := [.int (iI i)]) (rest := []) C hM (G_whole (a0 := (sk 13)) (i := i) W64 skb7 ty131 (by omega) mr51) dX11_head_109 kV_X11_231 rfl ty131 rfl rfl (by decide) ck_11 rfl (Nat.le_of_ble_eq_true rfl) ⟨(Nat.le_of_ble_eq_true rfl), (Nat.le_of_ble_eq_true rfl)⟩ hph pl23 (show 0 + 0 = 0 from rfl) (by decide) (fun rh65 Lh65 clh65 lnh65 ivh65 rvh65 h65 => ?_)
                obtain ⟨f65, rfl, rfl, rfl, rfl, rfl, rfl, rgf65, exf65⟩ := h65
                refine c_st (st2 := [(va_rf f65)]) rfl ?_
                have gf65 : WOX sk lnb7 ivh64 rvb7 i f65 := exf65
                refine c_astorer_n (r := f65) (lv2 := [(3, (va_rf f65)), (2, .int (iI fl)), (0, .ref a0), (1, .int (iI i))]) C dX11_head_112 (by decide) rfl ?_
                refine c_aloadr_n (j := 0) (r := f65) C dX11_head_113 rfl ?_
                refine c_ifnonnull (r := f65) (tgt := 123) C dX11_head_114 (by decide) (fun ob6 oq6 => ?_) (fun oq6 => ?_)
                · subst oq6
                  have tob6 := rgf65 ob6 rfl
                  have wkob6 := gf65
                  refine c_lv (lv2 := [(3, .ref ob6), (2, .int (iI fl)), (0, .ref a0), (1, .int (iI i))]) [0, 1, 2, 3] rfl ?_
                  refine c_st (st2 := []) rfl ?_
                  refine c_aload_n (j := 2) (x := a0) C dX11_head_123 rfl ?_
                  obtain ⟨rb54, rq54, trb54⟩ := W64.ref ty128 6 rfl rfl rfl
                  have erb54 := W64.sk trb54 (by decide) rfl
                  subst erb54
                  refine c_getr (k := 6) C ck_12 dX11_head_124 w2_50 (by decide) ty128 rfl rfl (by decide) rfl rq54 ?_
                  refine c_st (st2 := [.ref (sk 15)]) rfl ?_
                  refine c_aload_n (j := 0) (x := ob6) C dX11_head_127 rfl ?_
                  refine d_callV (As := [.ref ob6]) (rest := []) C hM (G_setBy (a0 := (sk 15)) (a1 := ob6) W64 skb7 ty130 tob6  ) dX11_head_128 kV_X11_253 rfl ty130 rfl rfl (by decide) ck_7 rfl (Nat.le_of_ble_eq_true rfl) ⟨(Nat.le_of_ble_eq_true rfl), (Nat.le_of_ble_eq_true rfl)⟩ hph pl23 (show 0 + 0 = 0 from rfl) (by decide) (fun rh66 Lh66 clh66 lnh66 ivh66 rvh66 h66 => ?_)
                  obtain ⟨f66, rfl, rfl, rfl, rfl, rfl, fl66, W66, rgf66, exf66⟩ := h66
                  have F52 := F51.call Xb7 fl66 rfl
                  have mr52 := MRK.call mr51 W64 skb7 XT.refl fl66 rfl rfl
                  refine c_st (st2 := [.int (iI f66)]) rfl ?_
                  have ri523 : 0 ≤ ivh66 (sk 15) 4 ∧ ivh66 (sk 15) 4 ≤ 500 := W66.int ty130 4
                  have ri524 : 0 ≤ ivh66 (sk 15) 7 ∧ ivh66 (sk 15) 7 ≤ 100000 := W66.int ty130 7
                  have gf66 : ((f66 = 0 ∨ f66 = 6 ∨ f66 = 7) ∧ ivh66 (sk 15) 4 = ivh64 (sk 15) 4 ∧ (f66 = 0 → ivh66 (sk 15) 7 ≤ 200)) ∧ SBX sk lnb7 ivh64 rvb7 ivh66 (sk 15) ob6 f66 := exf66
                  refine c_istore (lv2 := [(4, .int (iI f66)), (3, .ref ob6), (2, .int (iI fl)), (0, .ref a0), (1, .int (iI i))]) C dX11_head_131 (by decide) rfl ?_
                  refine c_iload (j := 0) C dX11_head_133 rfl ?_
                  refine c_if_eq (tgt := 152) C ⟨by omega, by omega⟩ dX11_head_135 (by decide) (fun c30 => ?_) (fun c30 => ?_)
                  · refine c_aload_n (j := 3) (x := a0) C dX11_head_152 rfl ?_
                    obtain ⟨rb55, rq55, trb55⟩ := W66.ref ty128 3 rfl rfl rfl
                    have erb55 := W66.sk trb55 (by decide) rfl
                    subst erb55
                    refine c_getr (k := 3) C ck_12 dX11_head_153 w2_47 (by decide) ty128 rfl rfl (by decide) rfl rq55 ?_
                    refine c_st (st2 := [.ref (sk 5)]) rfl ?_
                    have ty132 := Xb7.ty tsk5
                    refine d_callV (As := []) (rest := []) C hM (C_clear_5 (a0 := (sk 5)) W66 skb7 ty132  ) dX11_head_156 kV_X11_164 rfl ty132 rfl rfl (by decide) ck_2 rfl (Nat.le_of_ble_eq_true rfl) ⟨(Nat.le_of_ble_eq_true rfl), (Nat.le_of_ble_eq_true rfl)⟩ hph pl23 (show 0 + 0 = 0 from rfl) (by decide) (fun rh67 Lh67 clh67 lnh67 ivh67 rvh67 h67 => ?_)
                    obtain ⟨rfl, rfl, rfl, rfl, rfl, fl67, W67, exf67⟩ := h67
                    have F53 := F52.call Xb7 fl67 rfl
                    have mr53 := MRK.call mr52 W66 skb7 XT.refl fl67 rfl rfl
                    refine c_st (st2 := []) rfl ?_
                    have ri525 : 0 ≤ ivh67 (sk 5) 2 ∧ ivh67 (sk 5) 2 ≤ 200 := W67.int ty132 2
                    have gf67 : ivh67 (sk 5) 2 = 0 := exf67
                    refine c_iconst C dX11_head_159 ?_
                    refine c_istore (lv2 := [(5, .int (iI 0)), (4, .int (iI f66)), (3, .ref ob6), (2, .int (iI fl)), (0, .ref a0), (1, .int (iI i))]) C dX11_head_160 (by decide) rfl ?_
                    have Lp9 : ∀ (nn : Nat) (k2 : Int) (Lb9 : List Nat) (clb9 lnb9 : Nat → Nat) (ivb9 : Nat → Nat → Int) (rvb9 : Nat → Nat → Option Nat) , 101 - k2 < (nn : Int) → XT L cl ln Lb9 clb9 lnb9 → WT (g0 G) sk Lb9 clb9 lnb9 ivb9 rvb9 → fT [1, 2, 5, 35, 15, 50, 51, 52, 53, 54, 55] L cl iv rv ivb9 rvb9 → (0 ≤ k2 ∧ k2 ≤ 100) → (ivb9 (sk 15) 7 ≤ 200) → (ivb9 (sk 2) 2 = 0) → (ivb9 (sk 5) 2 = k2) → (k2 ≤ ivb9 (sk 15) 7 ∧ k2 ≤ iv a0 11) → (HDP sk ln iv rv i (ivb9 (sk 15) 7)) → (ivb9 a0 11 = iv a0 11) → (ivb9 a0 12 = iv a0 12) → (ivb9 a0 13 = iv a0 13) → (ivb9 a0 14 = iv a0 14) → (ivb9 a0 15 = iv a0 15) → (ivb9 a0 16 = iv a0 16) → (rvb9 a0 9 = rv a0 9) → (rvb9 a0 10 = rv a0 10) → cw p l e 8 ((PHM) + 0 - ((Phi (g0 G) sk) ln rv)) s m args below meth c G A 6 (MQ below (Qu G A (Qp G (Phi (g0 G) sk) ((Phi (g0 G) sk) ln rv) 0 (fun v L2 cl2 ln2 iv2 rv2 => ∃ f : Int, v = some (.int (iI f)) ∧ XT L cl ln L2 cl2 ln2 ∧ fT [1, 2, 5, 35, 15, 50, 51, 52, 53, 54, 55] L cl iv rv iv2 rv2 ∧ WT (g0 G) sk L2 cl2 ln2 iv2 rv2 ∧ (-2147483648 ≤ f ∧ f ≤ 2147483647) ∧ (True) ∧ iv2 a0 11 = iv a0 11 ∧ iv2 a0 12 = iv a0 12 ∧ iv2 a0 13 = iv a0 13 ∧ iv2 a0 14 = iv a0 14 ∧ iv2 a0 15 = iv a0 15 ∧ iv2 a0 16 = iv a0 16 ∧ iv2 (sk 2) 2 = 0 ∧ (HDX sk ln iv rv (iv a0 11) i f) ∧ rv2 a0 9 = rv a0 9 ∧ rv2 a0 10 = rv a0 10))) args s (((PHM) + 0 - ((Phi (g0 G) sk) ln rv)) / 16) ((PHM) + 0 - ((Phi (g0 G) sk) ln rv)) A) (Phi (g0 G) sk) ((Phi (g0 G) sk) ln rv) Lb9 clb9 lnb9 ivb9 rvb9 0 162 [(5, .int (iI k2)), (4, .int (iI f66)), (3, .ref ob6), (2, .int (iI fl)), (0, .ref a0), (1, .int (iI i))] [] := by
                      intro nn
                      induction nn with
                      | zero =>
                        intro  k2 Lb9 clb9 lnb9 ivb9 rvb9 hm Xb9 Wb9 Fb9  hk2 hco htz h52 hk3 hHD hkp11 hkp12 hkp13 hkp14 hkp15 hkp16 hkr9 hkr10
                        have skb9 := Xb9.skl hS
                        exact absurd hm (by omega)
                      | succ nn ih9 =>
                        intro  k2 Lb9 clb9 lnb9 ivb9 rvb9 hm Xb9 Wb9 Fb9  hk2 hco htz h52 hk3 hHD hkp11 hkp12 hkp13 hkp14 hkp15 hkp16 hkr9 hkr10
                        have skb9 := Xb9.skl hS
                        have mrb9 := MRK.call hmr hW hS Xb9 Fb9 rfl rfl
                        refine c_iload (j := 0) C dX11_head_162 rfl ?_
                        refine c_aload_n (j := 4) (x := a0) C dX11_head_164 rfl ?_
                        have ty133 := Xb9.ty t_a0
                        obtain ⟨rb56, rq56, trb56⟩ := Wb9.ref ty133 6 rfl rfl rfl
                        have erb56 := Wb9.sk trb56 (by decide) rfl
                        subst erb56
                        refine c_getr (k := 6) C ck_12 dX11_head_165 w2_50 (by decide) ty133 rfl rfl (by decide) rfl rq56 ?_
                        refine c_st (st2 := [.ref (sk 15), .int (iI k2)]) rfl ?_
                        have ty134 := Xb9.ty tsk15
                        have ri526 : 0 ≤ ivb9 (sk 15) 7 ∧ ivb9 (sk 15) 7 ≤ 100000 := Wb9.int ty134 7
                        refine c_get (k := 7) C ck_7 dX11_head_168 w1_149 (by decide) ty134 rfl rfl (by decide) rfl ?_
                        refine c_icmp_ge (tgt := 206) C ⟨by omega, by omega⟩ ⟨by omega, by omega⟩ dX11_head_171 (by decide) (fun c31 => ?_) (fun c31 => ?_)
                        · refine c_aload_n (j := 4) (x := a0) C dX11_head_206 rfl ?_
                          refine c_aload_n (j := 4) (x := a0) C dX11_head_207 rfl ?_
                          obtain ⟨rb57, rq57, trb57⟩ := Wb9.ref ty133 3 rfl rfl rfl
                          have erb57 := Wb9.sk trb57 (by decide) rfl
                          subst erb57
                          refine c_getr (k := 3) C ck_12 dX11_head_208 w2_47 (by decide) ty133 rfl rfl (by decide) rfl rq57 ?_
                          refine c_st (st2 := [.ref (sk 5), .ref a0]) rfl ?_
                          have ty135 := Xb9.ty tsk5
                          have ri527 : 0 ≤ ivb9 (sk 5) 2 ∧ ivb9 (sk 5) 2 ≤ 200 := Wb9.int ty135 2
                          refine c_get (k := 2) C ck_2 dX11_head_211 w1_44 (by decide) ty135 rfl rfl (by decide) rfl ?_
                          have pl24 := Phi.le Wb9 skb9
                          refine d_callV (As := [.int (iI (ivb9 (sk 5) 2))]) (rest := []) C hM (C_done (a0 := a0) (x := ivb9 (sk 5) 2) Wb9 skb9 ty133 (by omega) ) dX11_head_214 kV_X11_109 rfl ty133 rfl rfl (by decide) ck_12 rfl (Nat.le_of_ble_eq_true rfl) ⟨(Nat.le_of_ble_eq_true rfl), (Nat.le_of_ble_eq_true rfl)⟩ hph pl24 (show 0 + 0 = 0 from rfl) (by decide) (fun rh68 Lh68 clh68 lnh68 ivh68 rvh68 h68 => ?_)
                          obtain ⟨f68, rfl, rfl, rfl, rfl, rfl, fl68, W68, rgf68, exf68, kp11f68, kp12f68, kp13f68, kp14f68, kp15f68, kp16f68⟩ := h68
                          have ri528 : 1 ≤ ivb9 a0 11 ∧ ivb9 a0 11 ≤ 100 := Wb9.int ty133 11
                          have ri529 : 1 ≤ ivb9 a0 12 ∧ ivb9 a0 12 ≤ 50 := Wb9.int ty133 12
                          have ri530 : (-2147483648) ≤ ivb9 a0 13 ∧ ivb9 a0 13 ≤ 2147483647 := Wb9.int ty133 13
                          have ri531 : (-2147483648) ≤ ivb9 a0 14 ∧ ivb9 a0 14 ≤ 2147483647 := Wb9.int ty133 14
                          have ri532 : (-2147483648) ≤ ivb9 a0 15 ∧ ivb9 a0 15 ≤ 2147483647 := Wb9.int ty133 15
                          have ri533 : (-2147483648) ≤ ivb9 a0 16 ∧ ivb9 a0 16 ≤ 2147483647 := Wb9.int ty133 16
                          have F54 := Fb9.call Xb9 fl68 rfl
                          have mr54 := MRK.call mrb9 Wb9 skb9 XT.refl fl68 rfl rfl
                          refine c_st (st2 := [.int (iI f68)]) rfl ?_
                          have gk11f68 : ivh68 a0 11 = ivb9 a0 11 := kp11f68
                          have gk12f68 : ivh68 a0 12 = ivb9 a0 12 := kp12f68
                          have gk13f68 : ivh68 a0 13 = ivb9 a0 13 := kp13f68
                          have gk14f68 : ivh68 a0 14 = ivb9 a0 14 := kp14f68
                          have gk15f68 : ivh68 a0 15 = ivb9 a0 15 := kp15f68
                          have gk16f68 : ivh68 a0 16 = ivb9 a0 16 := kp16f68
                          have gf68 : f68 = (ivb9 (sk 5) 2) := exf68
                          have ty136 := Xb9.ty tsk2
                          have ri534 : 0 ≤ ivh68 (sk 2) 2 ∧ ivh68 (sk 2) 2 ≤ 3000 := W68.int ty136 2
                          have ie810 : ivh68 (sk 2) 2 = ivb9 (sk 2) 2 := fl68.i ty136 rfl 2
                          have ri535 : 1 ≤ ivh68 a0 11 ∧ ivh68 a0 11 ≤ 100 := W68.int ty133 11
                          have ri536 : 1 ≤ ivh68 a0 12 ∧ ivh68 a0 12 ≤ 50 := W68.int ty133 12
                          have ri537 : (-2147483648) ≤ ivh68 a0 13 ∧ ivh68 a0 13 ≤ 2147483647 := W68.int ty133 13
                          have ri538 : (-2147483648) ≤ ivh68 a0 14 ∧ ivh68 a0 14 ≤ 2147483647 := W68.int ty133 14
                          have ri539 : (-2147483648) ≤ ivh68 a0 15 ∧ ivh68 a0 15 ≤ 2147483647 := W68.int ty133 15
                          have ri540 : (-2147483648) ≤ ivh68 a0 16 ∧ ivh68 a0 16 ≤ 2147483647 := W68.int ty133 16
                          have ri541 : 0 ≤ ivh68 (sk 15) 7 ∧ ivh68 (sk 15) 7 ≤ 100000 := W68.int ty134 7
                          have ie818 : ivh68 (sk 15) 7 = ivb9 (sk 15) 7 := fl68.i ty134 rfl 7
                          have ri542 : 0 ≤ ivh68 (sk 5) 2 ∧ ivh68 (sk 5) 2 ≤ 200 := W68.int ty135 2
                          have ie819 : ivh68 (sk 5) 2 = ivb9 (sk 5) 2 := fl68.i ty135 rfl 2
                          exact c_iret C dX11_head_217 rfl (by decide) (rom0 hph pl24 (by decide)) ⟨f68, rfl, Xb9, F54, W68, ⟨by omega, by omega⟩, trivial, (by omega), (by omega), (by omega), (by omega), (by omega), (by omega), (by omega), (HDX.ok hHD (by omega)), (show rvb9 a0 9 = rv a0 9 from hkr9), (show rvb9 a0 10 = rv a0 10 from hkr10)⟩
                        · refine c_iload (j := 0) C dX11_head_174 rfl ?_
                          refine c_aload_n (j := 4) (x := a0) C dX11_head_176 rfl ?_
                          have ri543 : 1 ≤ ivb9 a0 11 ∧ ivb9 a0 11 ≤ 100 := Wb9.int ty133 11
                          refine c_get (k := 11) C ck_12 dX11_head_177 w2_55 (by decide) ty133 rfl rfl (by decide) rfl ?_
                          refine c_icmp_ge (tgt := 206) C ⟨by omega, by omega⟩ ⟨by omega, by omega⟩ dX11_head_180 (by decide) (fun c32 => ?_) (fun c32 => ?_)
                          · refine c_aload_n (j := 4) (x := a0) C dX11_head_206 rfl ?_
                            refine c_aload_n (j := 4) (x := a0) C dX11_head_207 rfl ?_
                            obtain ⟨rb58, rq58, trb58⟩ := Wb9.ref ty133 3 rfl rfl rfl
                            have erb58 := Wb9.sk trb58 (by decide) rfl
                            subst erb58
                            refine c_getr (k := 3) C ck_12 dX11_head_208 w2_47 (by decide) ty133 rfl rfl (by decide) rfl rq58 ?_
                            refine c_st (st2 := [.ref (sk 5), .ref a0]) rfl ?_
                            have ty137 := Xb9.ty tsk5
                            have ri544 : 0 ≤ ivb9 (sk 5) 2 ∧ ivb9 (sk 5) 2 ≤ 200 := Wb9.int ty137 2
                            refine c_get (k := 2) C ck_2 dX11_head_211 w1_44 (by decide) ty137 rfl rfl (by decide) rfl ?_
                            have pl25 := Phi.le Wb9 skb9
                            refine d_callV (As := [.int (iI (ivb9 (sk 5) 2))]) (rest := []) C hM (C_done (a0 := a0) (x := ivb9 (sk 5) 2) Wb9 skb9 ty133 (by omega) ) dX11_head_214 kV_X11_109 rfl ty133 rfl rfl (by decide) ck_12 rfl (Nat.le_of_ble_eq_true rfl) ⟨(Nat.le_of_ble_eq_true rfl), (Nat.le_of_ble_eq_true rfl)⟩ hph pl25 (show 0 + 0 = 0 from rfl) (by decide) (fun rh69 Lh69 clh69 lnh69 ivh69 rvh69 h69 => ?_)
                            obtain ⟨f69, rfl, rfl, rfl, rfl, rfl, fl69, W69, rgf69, exf69, kp11f69, kp12f69, kp13f69, kp14f69, kp15f69, kp16f69⟩ := h69
                            have ri545 : 1 ≤ ivb9 a0 12 ∧ ivb9 a0 12 ≤ 50 := Wb9.int ty133 12
                            have ri546 : (-2147483648) ≤ ivb9 a0 13 ∧ ivb9 a0 13 ≤ 2147483647 := Wb9.int ty133 13
                            have ri547 : (-2147483648) ≤ ivb9 a0 14 ∧ ivb9 a0 14 ≤ 2147483647 := Wb9.int ty133 14
                            have ri548 : (-2147483648) ≤ ivb9 a0 15 ∧ ivb9 a0 15 ≤ 2147483647 := Wb9.int ty133 15
                            have ri549 : (-2147483648) ≤ ivb9 a0 16 ∧ ivb9 a0 16 ≤ 2147483647 := Wb9.int ty133 16
                            have F55 := Fb9.call Xb9 fl69 rfl
                            have mr55 := MRK.call mrb9 Wb9 skb9 XT.refl fl69 rfl rfl
                            refine c_st (st2 := [.int (iI f69)]) rfl ?_
                            have gk11f69 : ivh69 a0 11 = ivb9 a0 11 := kp11f69
                            have gk12f69 : ivh69 a0 12 = ivb9 a0 12 := kp12f69
                            have gk13f69 : ivh69 a0 13 = ivb9 a0 13 := kp13f69
                            have gk14f69 : ivh69 a0 14 = ivb9 a0 14 := kp14f69
                            have gk15f69 : ivh69 a0 15 = ivb9 a0 15 := kp15f69
                            have gk16f69 : ivh69 a0 16 = ivb9 a0 16 := kp16f69
                            have gf69 : f69 = (ivb9 (sk 5) 2) := exf69
                            have ty138 := Xb9.ty tsk2
                            have ri550 : 0 ≤ ivh69 (sk 2) 2 ∧ ivh69 (sk 2) 2 ≤ 3000 := W69.int ty138 2
                            have ie827 : ivh69 (sk 2) 2 = ivb9 (sk 2) 2 := fl69.i ty138 rfl 2
                            have ri551 : 1 ≤ ivh69 a0 11 ∧ ivh69 a0 11 ≤ 100 := W69.int ty133 11
                            have ri552 : 1 ≤ ivh69 a0 12 ∧ ivh69 a0 12 ≤ 50 := W69.int ty133 12
                            have ri553 : (-2147483648) ≤ ivh69 a0 13 ∧ ivh69 a0 13 ≤ 2147483647 := W69.int ty133 13
                            have ri554 : (-2147483648) ≤ ivh69 a0 14 ∧ ivh69 a0 14 ≤ 2147483647 := W69.int ty133 14
                            have ri555 : (-2147483648) ≤ ivh69 a0 15 ∧ ivh69 a0 15 ≤ 2147483647 := W69.int ty133 15
                            have ri556 : (-2147483648) ≤ ivh69 a0 16 ∧ ivh69 a0 16 ≤ 2147483647 := W69.int ty133 16
                            have ri557 : 0 ≤ ivh69 (sk 15) 7 ∧ ivh69 (sk 15) 7 ≤ 100000 := W69.int ty134 7
                            have ie835 : ivh69 (sk 15) 7 = ivb9 (sk 15) 7 := fl69.i ty134 rfl 7
                            have ri558 : 0 ≤ ivh69 (sk 5) 2 ∧ ivh69 (sk 5) 2 ≤ 200 := W69.int ty137 2
                            have ie836 : ivh69 (sk 5) 2 = ivb9 (sk 5) 2 := fl69.i ty137 rfl 2
                            exact c_iret C dX11_head_217 rfl (by decide) (rom0 hph pl25 (by decide)) ⟨f69, rfl, Xb9, F55, W69, ⟨by omega, by omega⟩, trivial, (by omega), (by omega), (by omega), (by omega), (by omega), (by omega), (by omega), (HDX.ok hHD (by omega)), (show rvb9 a0 9 = rv a0 9 from hkr9), (show rvb9 a0 10 = rv a0 10 from hkr10)⟩
                          · refine c_aload_n (j := 4) (x := a0) C dX11_head_183 rfl ?_
                            obtain ⟨rb59, rq59, trb59⟩ := Wb9.ref ty133 3 rfl rfl rfl
                            have erb59 := Wb9.sk trb59 (by decide) rfl
                            subst erb59
                            refine c_getr (k := 3) C ck_12 dX11_head_184 w2_47 (by decide) ty133 rfl rfl (by decide) rfl rq59 ?_
                            refine c_st (st2 := [.ref (sk 5)]) rfl ?_
                            refine c_aload_n (j := 4) (x := a0) C dX11_head_187 rfl ?_
                            refine c_getr (k := 6) C ck_12 dX11_head_188 w2_50 (by decide) ty133 rfl rfl (by decide) rfl rq56 ?_
                            refine c_st (st2 := [.ref (sk 15), .ref (sk 5)]) rfl ?_
                            obtain ⟨rb60, rq60, trb60⟩ := Wb9.ref ty134 6 rfl rfl rfl
                            have lnrb60 : 200 ≤ lnb9 rb60 ∧ lnb9 rb60 ≤ 200 := Wb9.len trb60 rfl
                            refine c_getr (k := 6) C ck_7 dX11_head_191 w1_146 (by decide) ty134 rfl rfl (by decide) rfl rq60 ?_
                            refine c_st (st2 := [.ref rb60, .ref (sk 5)]) rfl ?_
                            refine c_iload (j := 0) C dX11_head_194 rfl ?_
                            have ll6 : 200 ≤ lnb9 rb60 ∧ lnb9 rb60 ≤ 200 := Wb9.len trb60 rfl
                            refine c_iald C dX11_head_196 trb60 rfl (by omega) (by omega) (by omega) ?_
                            have ri559 : (-2147483648) ≤ ivb9 rb60 k2.toNat ∧ ivb9 rb60 k2.toNat ≤ 2147483647 := Wb9.int trb60 k2.toNat
                            have ty139 := Xb9.ty tsk5
                            have ri560 : 0 ≤ ivb9 (sk 5) 2 ∧ ivb9 (sk 5) 2 ≤ 200 := Wb9.int ty139 2
                            have pl26 := Phi.le Wb9 skb9
                            refine d_callV (As := [.int (iI (ivb9 rb60 k2.toNat))]) (rest := []) C hM (C_add_5 (a0 := (sk 5)) (x := ivb9 rb60 k2.toNat) Wb9 skb9 ty139 (by omega) ) dX11_head_197 kV_X11_112 rfl ty139 rfl rfl (by decide) ck_2 rfl (Nat.le_of_ble_eq_true rfl) ⟨(Nat.le_of_ble_eq_true rfl), (Nat.le_of_ble_eq_true rfl)⟩ hph pl26 (show 0 + 0 = 0 from rfl) (by decide) (fun rh70 Lh70 clh70 lnh70 ivh70 rvh70 h70 => ?_)
                            obtain ⟨rfl, xl70, fl70, W70, exf70⟩ := h70
                            have F56 := Fb9.call Xb9 fl70 rfl
                            have mr56 := MRK.call mrb9 Wb9 skb9 xl70 fl70 rfl rfl
                            have ty140 := Xb9.ty tsk2
                            have ty141 := Xb9.ty tsk3
                            have ty142 := Xb9.ty tsk4
                            have ty143 := Xb9.ty tsk13
                            have ty144 := Xb9.ty tsk14
                            have ty145 := Xb9.ty tsk16
                            have ty146 := Xb9.ty tsk17
                            have ty147 := Xb9.ty tsk22
                            have ty148 := Xb9.ty tsk23
                            have X6 := Xb9.trans xl70
                            have sk6 := xl70.skl skb9
                            refine c_st (st2 := []) rfl ?_
                            have ty149 := xl70.ty ty139
                            have ri561 : 0 ≤ ivh70 (sk 5) 2 ∧ ivh70 (sk 5) 2 ≤ 200 := W70.int ty149 2
                            have gf70 : ((ivh70 (sk 5) 2 = ivb9 (sk 5) 2 ∧ ivb9 (sk 5) 2 = 200) ∨ (ivh70 (sk 5) 2 = ivb9 (sk 5) 2 + 1 ∧ ivb9 (sk 5) 2 < 200)) := exf70
                            refine c_iinc (z := k2) (j := 0) (lv2 := [(5, .int (iI (k2 + 1))), (4, .int (iI f66)), (3, .ref ob6), (2, .int (iI fl)), (0, .ref a0), (1, .int (iI i))]) C dX11_head_200 rfl (by decide) rfl ?_
                            refine c_goto (tgt := 162) C dX11_head_203 (by decide) ?_
                            have ty150 := xl70.ty ty134
                            have ri562 : 0 ≤ ivh70 (sk 15) 7 ∧ ivh70 (sk 15) 7 ≤ 100000 := W70.int ty150 7
                            have ie840 : ivh70 (sk 15) 7 = ivb9 (sk 15) 7 := fl70.i ty134 rfl 7
                            have ty151 := xl70.ty ty140
                            have ri563 : 0 ≤ ivh70 (sk 2) 2 ∧ ivh70 (sk 2) 2 ≤ 3000 := W70.int ty151 2
                            have ie841 : ivh70 (sk 2) 2 = ivb9 (sk 2) 2 := fl70.i ty140 rfl 2
                            have ty152 := xl70.ty ty133
                            have ri564 : 1 ≤ ivh70 a0 11 ∧ ivh70 a0 11 ≤ 100 := W70.int ty152 11
                            have ie843 : ivh70 a0 11 = ivb9 a0 11 := fl70.i ty133 rfl 11
                            have ri565 : 1 ≤ ivh70 a0 12 ∧ ivh70 a0 12 ≤ 50 := W70.int ty152 12
                            have ie844 : ivh70 a0 12 = ivb9 a0 12 := fl70.i ty133 rfl 12
                            have ri566 : (-2147483648) ≤ ivh70 a0 13 ∧ ivh70 a0 13 ≤ 2147483647 := W70.int ty152 13
                            have ie846 : ivh70 a0 13 = ivb9 a0 13 := fl70.i ty133 rfl 13
                            have ri567 : (-2147483648) ≤ ivh70 a0 14 ∧ ivh70 a0 14 ≤ 2147483647 := W70.int ty152 14
                            have ie848 : ivh70 a0 14 = ivb9 a0 14 := fl70.i ty133 rfl 14
                            have ri568 : (-2147483648) ≤ ivh70 a0 15 ∧ ivh70 a0 15 ≤ 2147483647 := W70.int ty152 15
                            have ie850 : ivh70 a0 15 = ivb9 a0 15 := fl70.i ty133 rfl 15
                            have ri569 : (-2147483648) ≤ ivh70 a0 16 ∧ ivh70 a0 16 ≤ 2147483647 := W70.int ty152 16
                            have ie852 : ivh70 a0 16 = ivb9 a0 16 := fl70.i ty133 rfl 16
                            refine c_lv (lv2 := [(5, .int (iI (k2 + 1))), (4, .int (iI f66)), (3, .ref ob6), (2, .int (iI fl)), (0, .ref a0), (1, .int (iI i))]) [0, 1, 2, 3, 4, 5] rfl ?_
                            exact ih9  (k2 + 1) _ _ _ _ _ (by omega) X6 W70 F56  (by omega) (by show ivh70 (sk 15) 7 ≤ 200; omega) (by show ivh70 (sk 2) 2 = 0; omega) (by show ivh70 (sk 5) 2 = (k2 + 1); omega) (by show (k2 + 1) ≤ ivh70 (sk 15) 7 ∧ (k2 + 1) ≤ iv a0 11; omega) (by rw [show ivh70 (sk 15) 7 = ivb9 (sk 15) 7 by omega]; exact hHD) (by show ivh70 a0 11 = iv a0 11; omega) (by show ivh70 a0 12 = iv a0 12; omega) (by show ivh70 a0 13 = iv a0 13; omega) (by show ivh70 a0 14 = iv a0 14; omega) (by show ivh70 a0 15 = iv a0 15; omega) (by show ivh70 a0 16 = iv a0 16; omega) (Eq.trans (show rvh70 a0 9 = rvb9 a0 9 from (fl70.r ty133 rfl 9)) (show rvb9 a0 9 = rv a0 9 from hkr9)) (Eq.trans (show rvh70 a0 10 = rvb9 a0 10 from (fl70.r ty133 rfl 10)) (show rvb9 a0 10 = rv a0 10 from hkr10))
                    have ri570 : 0 ≤ ivh67 (sk 15) 7 ∧ ivh67 (sk 15) 7 ≤ 100000 := W67.int ty130 7
                    have ie854 : ivh67 (sk 15) 7 = ivh66 (sk 15) 7 := fl67.i ty130 rfl 7
                    have ri571 : 0 ≤ ivh67 (sk 2) 2 ∧ ivh67 (sk 2) 2 ≤ 3000 := W67.int ty129 2
                    have ie855 : ivh67 (sk 2) 2 = ivh66 (sk 2) 2 := fl67.i ty129 rfl 2
                    have ie856 : ivh66 (sk 2) 2 = ivh64 (sk 2) 2 := fl66.i ty129 rfl 2
                    have ri572 : 1 ≤ ivh67 a0 11 ∧ ivh67 a0 11 ≤ 100 := W67.int ty128 11
                    have ie857 : ivh67 a0 11 = ivh66 a0 11 := fl67.i ty128 rfl 11
                    have ie858 : ivh66 a0 11 = ivh64 a0 11 := fl66.i ty128 rfl 11
                    have ie859 : ivh64 a0 11 = ivb7 a0 11 := fl64.i ty128 rfl 11
                    have ri573 : 1 ≤ ivh67 a0 12 ∧ ivh67 a0 12 ≤ 50 := W67.int ty128 12
                    have ie861 : ivh67 a0 12 = ivh66 a0 12 := fl67.i ty128 rfl 12
                    have ie862 : ivh66 a0 12 = ivh64 a0 12 := fl66.i ty128 rfl 12
                    have ie863 : ivh64 a0 12 = ivb7 a0 12 := fl64.i ty128 rfl 12
                    have ri574 : (-2147483648) ≤ ivh67 a0 13 ∧ ivh67 a0 13 ≤ 2147483647 := W67.int ty128 13
                    have ie865 : ivh67 a0 13 = ivh66 a0 13 := fl67.i ty128 rfl 13
                    have ie866 : ivh66 a0 13 = ivh64 a0 13 := fl66.i ty128 rfl 13
                    have ie867 : ivh64 a0 13 = ivb7 a0 13 := fl64.i ty128 rfl 13
                    have ri575 : (-2147483648) ≤ ivh67 a0 14 ∧ ivh67 a0 14 ≤ 2147483647 := W67.int ty128 14
                    have ie869 : ivh67 a0 14 = ivh66 a0 14 := fl67.i ty128 rfl 14
                    have ie870 : ivh66 a0 14 = ivh64 a0 14 := fl66.i ty128 rfl 14
                    have ie871 : ivh64 a0 14 = ivb7 a0 14 := fl64.i ty128 rfl 14
                    have ri576 : (-2147483648) ≤ ivh67 a0 15 ∧ ivh67 a0 15 ≤ 2147483647 := W67.int ty128 15
                    have ie873 : ivh67 a0 15 = ivh66 a0 15 := fl67.i ty128 rfl 15
                    have ie874 : ivh66 a0 15 = ivh64 a0 15 := fl66.i ty128 rfl 15
                    have ie875 : ivh64 a0 15 = ivb7 a0 15 := fl64.i ty128 rfl 15
                    have ri577 : (-2147483648) ≤ ivh67 a0 16 ∧ ivh67 a0 16 ≤ 2147483647 := W67.int ty128 16
                    have ie877 : ivh67 a0 16 = ivh66 a0 16 := fl67.i ty128 rfl 16
                    have ie878 : ivh66 a0 16 = ivh64 a0 16 := fl66.i ty128 rfl 16
                    have ie879 : ivh64 a0 16 = ivb7 a0 16 := fl64.i ty128 rfl 16
                    refine c_lv (lv2 := [(5, .int (iI 0)), (4, .int (iI f66)), (3, .ref ob6), (2, .int (iI fl)), (0, .ref a0), (1, .int (iI i))]) [0, 1, 2, 3, 4, 5] rfl ?_
                    exact Lp9 103 0 _ _ _ _ _ (by omega) Xb7 W67 F53  (by omega) (by show ivh67 (sk 15) 7 ≤ 200; omega) (by show ivh67 (sk 2) 2 = 0; omega) (by show ivh67 (sk 5) 2 = 0; omega) (by show 0 ≤ ivh67 (sk 15) 7 ∧ 0 ≤ iv a0 11; omega) (HDP.mk wkob6 (QT.of hW hS Xb7 F51 rfl rfl rfl rfl rfl) hLC (by omega) (by omega) hWD (by omega) gf66.2 (by omega) (by omega)) (by show ivh67 a0 11 = iv a0 11; omega) (by show ivh67 a0 12 = iv a0 12; omega) (by show ivh67 a0 13 = iv a0 13; omega) (by show ivh67 a0 14 = iv a0 14; omega) (by show ivh67 a0 15 = iv a0 15; omega) (by show ivh67 a0 16 = iv a0 16; omega) (show rvb7 a0 9 = rv a0 9 from hkr9) (show rvb7 a0 10 = rv a0 10 from hkr10)
                  · refine c_aload_n (j := 3) (x := a0) C dX11_head_138 rfl ?_
                    refine c_iload (j := 0) C dX11_head_139 rfl ?_
                    refine c_aload_n (j := 3) (x := a0) C dX11_head_141 rfl ?_
                    refine c_getr (k := 6) C ck_12 dX11_head_142 w2_50 (by decide) ty128 rfl rfl (by decide) rfl rq54 ?_
                    refine c_st (st2 := [.ref (sk 15), .int (iI f66), .ref a0]) rfl ?_
                    refine d_callV (As := []) (rest := [.int (iI f66), .ref a0]) C hM (C_placeOfUnknown (a0 := (sk 15)) W66 skb7 ty130  ) dX11_head_145 kV_X11_263 rfl ty130 rfl rfl (by decide) ck_7 rfl (Nat.le_of_ble_eq_true rfl) ⟨(Nat.le_of_ble_eq_true rfl), (Nat.le_of_ble_eq_true rfl)⟩ hph pl23 (show 0 + 0 = 0 from rfl) (by decide) (fun rh71 Lh71 clh71 lnh71 ivh71 rvh71 h71 => ?_)
                    obtain ⟨f71, rfl, rfl, rfl, rfl, rfl, rfl, rgf71, exf71⟩ := h71
                    refine c_st (st2 := [.int (iI f71), .int (iI f66), .ref a0]) rfl ?_
                    refine d_callV (As := [.int (iI f66), .int (iI f71)]) (rest := []) C hM (C_refuseAt (a0 := a0) (x := f66) (y := f71) W66 skb7 ty128 (by omega) (by omega) ) dX11_head_148 kV_X11_266 rfl ty128 rfl rfl (by decide) ck_12 rfl (Nat.le_of_ble_eq_true rfl) ⟨(Nat.le_of_ble_eq_true rfl), (Nat.le_of_ble_eq_true rfl)⟩ hph pl23 (show 0 + 0 = 0 from rfl) (by decide) (fun rh72 Lh72 clh72 lnh72 ivh72 rvh72 h72 => ?_)
                    obtain ⟨f72, rfl, rfl, rfl, rfl, rfl, fl72, W72, rgf72, exf72, kp11f72, kp12f72, kp13f72, kp14f72, kp15f72, kp16f72⟩ := h72
                    have ri578 : 1 ≤ ivh66 a0 11 ∧ ivh66 a0 11 ≤ 100 := W66.int ty128 11
                    have ie881 : ivh66 a0 11 = ivh64 a0 11 := fl66.i ty128 rfl 11
                    have ie882 : ivh64 a0 11 = ivb7 a0 11 := fl64.i ty128 rfl 11
                    have ri579 : 1 ≤ ivh66 a0 12 ∧ ivh66 a0 12 ≤ 50 := W66.int ty128 12
                    have ie884 : ivh66 a0 12 = ivh64 a0 12 := fl66.i ty128 rfl 12
                    have ie885 : ivh64 a0 12 = ivb7 a0 12 := fl64.i ty128 rfl 12
                    have ri580 : (-2147483648) ≤ ivh66 a0 13 ∧ ivh66 a0 13 ≤ 2147483647 := W66.int ty128 13
                    have ie887 : ivh66 a0 13 = ivh64 a0 13 := fl66.i ty128 rfl 13
                    have ie888 : ivh64 a0 13 = ivb7 a0 13 := fl64.i ty128 rfl 13
                    have ri581 : (-2147483648) ≤ ivh66 a0 14 ∧ ivh66 a0 14 ≤ 2147483647 := W66.int ty128 14
                    have ie890 : ivh66 a0 14 = ivh64 a0 14 := fl66.i ty128 rfl 14
                    have ie891 : ivh64 a0 14 = ivb7 a0 14 := fl64.i ty128 rfl 14
                    have ri582 : (-2147483648) ≤ ivh66 a0 15 ∧ ivh66 a0 15 ≤ 2147483647 := W66.int ty128 15
                    have ie893 : ivh66 a0 15 = ivh64 a0 15 := fl66.i ty128 rfl 15
                    have ie894 : ivh64 a0 15 = ivb7 a0 15 := fl64.i ty128 rfl 15
                    have ri583 : (-2147483648) ≤ ivh66 a0 16 ∧ ivh66 a0 16 ≤ 2147483647 := W66.int ty128 16
                    have ie896 : ivh66 a0 16 = ivh64 a0 16 := fl66.i ty128 rfl 16
                    have ie897 : ivh64 a0 16 = ivb7 a0 16 := fl64.i ty128 rfl 16
                    have F57 := F52.call Xb7 fl72 rfl
                    have mr57 := MRK.call mr52 W66 skb7 XT.refl fl72 rfl rfl
                    refine c_st (st2 := [.int (iI f72)]) rfl ?_
                    have gk11f72 : ivh72 a0 11 = ivh66 a0 11 := kp11f72
                    have gk12f72 : ivh72 a0 12 = ivh66 a0 12 := kp12f72
                    have gk13f72 : ivh72 a0 13 = ivh66 a0 13 := kp13f72
                    have gk14f72 : ivh72 a0 14 = ivh66 a0 14 := kp14f72
                    have gk15f72 : ivh72 a0 15 = ivh66 a0 15 := kp15f72
                    have gk16f72 : ivh72 a0 16 = ivh66 a0 16 := kp16f72
                    have gf72 : f72 = -1 := exf72
                    have ri584 : 0 ≤ ivh72 (sk 2) 2 ∧ ivh72 (sk 2) 2 ≤ 3000 := W72.int ty129 2
                    have ie899 : ivh72 (sk 2) 2 = ivh66 (sk 2) 2 := fl72.i ty129 rfl 2
                    have ie900 : ivh66 (sk 2) 2 = ivh64 (sk 2) 2 := fl66.i ty129 rfl 2
                    have ri585 : 1 ≤ ivh72 a0 11 ∧ ivh72 a0 11 ≤ 100 := W72.int ty128 11
                    have ri586 : 1 ≤ ivh72 a0 12 ∧ ivh72 a0 12 ≤ 50 := W72.int ty128 12
                    have ri587 : (-2147483648) ≤ ivh72 a0 13 ∧ ivh72 a0 13 ≤ 2147483647 := W72.int ty128 13
                    have ri588 : (-2147483648) ≤ ivh72 a0 14 ∧ ivh72 a0 14 ≤ 2147483647 := W72.int ty128 14
                    have ri589 : (-2147483648) ≤ ivh72 a0 15 ∧ ivh72 a0 15 ≤ 2147483647 := W72.int ty128 15
                    have ri590 : (-2147483648) ≤ ivh72 a0 16 ∧ ivh72 a0 16 ≤ 2147483647 := W72.int ty128 16
                    exact c_iret C dX11_head_151 rfl (by decide) (rom0 hph pl23 (by decide)) ⟨f72, rfl, Xb7, F57, W72, ⟨by omega, by omega⟩, trivial, (by omega), (by omega), (by omega), (by omega), (by omega), (by omega), (by omega), (HDX.ns wkob6 (QT.of hW hS Xb7 F51 rfl rfl rfl rfl rfl) hLC (by omega) (by omega) gf66.2 (by omega) (by omega)), (show rvb7 a0 9 = rv a0 9 from hkr9), (show rvb7 a0 10 = rv a0 10 from hkr10)⟩
                · subst oq6
                  refine c_lv (lv2 := [(3, .null), (2, .int (iI fl)), (0, .ref a0), (1, .int (iI i))]) [0, 1, 2, 3] rfl ?_
                  refine c_st (st2 := []) rfl ?_
                  refine c_aload_n (j := 2) (x := a0) C dX11_head_117 rfl ?_
                  refine c_iconst C dX11_head_118 ?_
                  refine d_callV (As := [.int (iI 3)]) (rest := []) C hM (C_refuse (a0 := a0) (x := 3) W64 skb7 ty128 ⟨by decide, by decide⟩ ) dX11_head_119 kV_X11_102 rfl ty128 rfl rfl (by decide) ck_12 rfl (Nat.le_of_ble_eq_true rfl) ⟨(Nat.le_of_ble_eq_true rfl), (Nat.le_of_ble_eq_true rfl)⟩ hph pl23 (show 0 + 0 = 0 from rfl) (by decide) (fun rh73 Lh73 clh73 lnh73 ivh73 rvh73 h73 => ?_)
                  obtain ⟨f73, rfl, rfl, rfl, rfl, rfl, fl73, W73, rgf73, exf73, kp11f73, kp12f73, kp13f73, kp14f73, kp15f73, kp16f73⟩ := h73
                  have ri591 : 1 ≤ ivh64 a0 11 ∧ ivh64 a0 11 ≤ 100 := W64.int ty128 11
                  have ie907 : ivh64 a0 11 = ivb7 a0 11 := fl64.i ty128 rfl 11
                  have ri592 : 1 ≤ ivh64 a0 12 ∧ ivh64 a0 12 ≤ 50 := W64.int ty128 12
                  have ie909 : ivh64 a0 12 = ivb7 a0 12 := fl64.i ty128 rfl 12
                  have ri593 : (-2147483648) ≤ ivh64 a0 13 ∧ ivh64 a0 13 ≤ 2147483647 := W64.int ty128 13
                  have ie911 : ivh64 a0 13 = ivb7 a0 13 := fl64.i ty128 rfl 13
                  have ri594 : (-2147483648) ≤ ivh64 a0 14 ∧ ivh64 a0 14 ≤ 2147483647 := W64.int ty128 14
                  have ie913 : ivh64 a0 14 = ivb7 a0 14 := fl64.i ty128 rfl 14
                  have ri595 : (-2147483648) ≤ ivh64 a0 15 ∧ ivh64 a0 15 ≤ 2147483647 := W64.int ty128 15
                  have ie915 : ivh64 a0 15 = ivb7 a0 15 := fl64.i ty128 rfl 15
                  have ri596 : (-2147483648) ≤ ivh64 a0 16 ∧ ivh64 a0 16 ≤ 2147483647 := W64.int ty128 16
                  have ie917 : ivh64 a0 16 = ivb7 a0 16 := fl64.i ty128 rfl 16
                  have F58 := F51.call Xb7 fl73 rfl
                  have mr58 := MRK.call mr51 W64 skb7 XT.refl fl73 rfl rfl
                  refine c_st (st2 := [.int (iI f73)]) rfl ?_
                  have gk11f73 : ivh73 a0 11 = ivh64 a0 11 := kp11f73
                  have gk12f73 : ivh73 a0 12 = ivh64 a0 12 := kp12f73
                  have gk13f73 : ivh73 a0 13 = ivh64 a0 13 := kp13f73
                  have gk14f73 : ivh73 a0 14 = ivh64 a0 14 := kp14f73
                  have gk15f73 : ivh73 a0 15 = ivh64 a0 15 := kp15f73
                  have gk16f73 : ivh73 a0 16 = ivh64 a0 16 := kp16f73
                  have gf73 : f73 = -1 := exf73
                  have ri597 : 0 ≤ ivh73 (sk 2) 2 ∧ ivh73 (sk 2) 2 ≤ 3000 := W73.int ty129 2
                  have ie919 : ivh73 (sk 2) 2 = ivh64 (sk 2) 2 := fl73.i ty129 rfl 2
                  have ri598 : 1 ≤ ivh73 a0 11 ∧ ivh73 a0 11 ≤ 100 := W73.int ty128 11
                  have ri599 : 1 ≤ ivh73 a0 12 ∧ ivh73 a0 12 ≤ 50 := W73.int ty128 12
                  have ri600 : (-2147483648) ≤ ivh73 a0 13 ∧ ivh73 a0 13 ≤ 2147483647 := W73.int ty128 13
                  have ri601 : (-2147483648) ≤ ivh73 a0 14 ∧ ivh73 a0 14 ≤ 2147483647 := W73.int ty128 14
                  have ri602 : (-2147483648) ≤ ivh73 a0 15 ∧ ivh73 a0 15 ≤ 2147483647 := W73.int ty128 15
                  have ri603 : (-2147483648) ≤ ivh73 a0 16 ∧ ivh73 a0 16 ≤ 2147483647 := W73.int ty128 16
                  exact c_iret C dX11_head_122 rfl (by decide) (rom0 hph pl23 (by decide)) ⟨f73, rfl, Xb7, F58, W73, ⟨by omega, by omega⟩, trivial, (by omega), (by omega), (by omega), (by omega), (by omega), (by omega), (by omega), (HDX.nw gf65 (QT.of hW hS Xb7 F51 rfl rfl rfl rfl rfl) (by omega)), (show rvb7 a0 9 = rv a0 9 from hkr9), (show rvb7 a0 10 = rv a0 10 from hkr10)⟩
              · refine c_aload_n (j := 2) (x := a0) C dX11_head_97 rfl ?_
                refine c_bipush (z := 6) C dX11_head_98 (by decide) ?_
                refine d_callV (As := [.int (iI 6)]) (rest := []) C hM (C_refuse (a0 := a0) (x := 6) W64 skb7 ty128 ⟨by decide, by decide⟩ ) dX11_head_100 kV_X11_102 rfl ty128 rfl rfl (by decide) ck_12 rfl (Nat.le_of_ble_eq_true rfl) ⟨(Nat.le_of_ble_eq_true rfl), (Nat.le_of_ble_eq_true rfl)⟩ hph pl23 (show 0 + 0 = 0 from rfl) (by decide) (fun rh74 Lh74 clh74 lnh74 ivh74 rvh74 h74 => ?_)
                obtain ⟨f74, rfl, rfl, rfl, rfl, rfl, fl74, W74, rgf74, exf74, kp11f74, kp12f74, kp13f74, kp14f74, kp15f74, kp16f74⟩ := h74
                have ri604 : 1 ≤ ivh64 a0 11 ∧ ivh64 a0 11 ≤ 100 := W64.int ty128 11
                have ie926 : ivh64 a0 11 = ivb7 a0 11 := fl64.i ty128 rfl 11
                have ri605 : 1 ≤ ivh64 a0 12 ∧ ivh64 a0 12 ≤ 50 := W64.int ty128 12
                have ie928 : ivh64 a0 12 = ivb7 a0 12 := fl64.i ty128 rfl 12
                have ri606 : (-2147483648) ≤ ivh64 a0 13 ∧ ivh64 a0 13 ≤ 2147483647 := W64.int ty128 13
                have ie930 : ivh64 a0 13 = ivb7 a0 13 := fl64.i ty128 rfl 13
                have ri607 : (-2147483648) ≤ ivh64 a0 14 ∧ ivh64 a0 14 ≤ 2147483647 := W64.int ty128 14
                have ie932 : ivh64 a0 14 = ivb7 a0 14 := fl64.i ty128 rfl 14
                have ri608 : (-2147483648) ≤ ivh64 a0 15 ∧ ivh64 a0 15 ≤ 2147483647 := W64.int ty128 15
                have ie934 : ivh64 a0 15 = ivb7 a0 15 := fl64.i ty128 rfl 15
                have ri609 : (-2147483648) ≤ ivh64 a0 16 ∧ ivh64 a0 16 ≤ 2147483647 := W64.int ty128 16
                have ie936 : ivh64 a0 16 = ivb7 a0 16 := fl64.i ty128 rfl 16
                have F59 := F51.call Xb7 fl74 rfl
                have mr59 := MRK.call mr51 W64 skb7 XT.refl fl74 rfl rfl
                refine c_st (st2 := [.int (iI f74)]) rfl ?_
                have gk11f74 : ivh74 a0 11 = ivh64 a0 11 := kp11f74
                have gk12f74 : ivh74 a0 12 = ivh64 a0 12 := kp12f74
                have gk13f74 : ivh74 a0 13 = ivh64 a0 13 := kp13f74
                have gk14f74 : ivh74 a0 14 = ivh64 a0 14 := kp14f74
                have gk15f74 : ivh74 a0 15 = ivh64 a0 15 := kp15f74
                have gk16f74 : ivh74 a0 16 = ivh64 a0 16 := kp16f74
                have gf74 : f74 = -1 := exf74
                have ri610 : 0 ≤ ivh74 (sk 2) 2 ∧ ivh74 (sk 2) 2 ≤ 3000 := W74.int ty129 2
                have ie938 : ivh74 (sk 2) 2 = ivh64 (sk 2) 2 := fl74.i ty129 rfl 2
                have ri611 : 1 ≤ ivh74 a0 11 ∧ ivh74 a0 11 ≤ 100 := W74.int ty128 11
                have ri612 : 1 ≤ ivh74 a0 12 ∧ ivh74 a0 12 ≤ 50 := W74.int ty128 12
                have ri613 : (-2147483648) ≤ ivh74 a0 13 ∧ ivh74 a0 13 ≤ 2147483647 := W74.int ty128 13
                have ri614 : (-2147483648) ≤ ivh74 a0 14 ∧ ivh74 a0 14 ≤ 2147483647 := W74.int ty128 14
                have ri615 : (-2147483648) ≤ ivh74 a0 15 ∧ ivh74 a0 15 ≤ 2147483647 := W74.int ty128 15
                have ri616 : (-2147483648) ≤ ivh74 a0 16 ∧ ivh74 a0 16 ≤ 2147483647 := W74.int ty128 16
                exact c_iret C dX11_head_103 rfl (by decide) (rom0 hph pl23 (by decide)) ⟨f74, rfl, Xb7, F59, W74, ⟨by omega, by omega⟩, trivial, (by omega), (by omega), (by omega), (by omega), (by omega), (by omega), (by omega), (HDX.bad hWD (by omega) (by omega)), (show rvb7 a0 9 = rv a0 9 from hkr9), (show rvb7 a0 10 = rv a0 10 from hkr10)⟩
            · refine c_aload_n (j := 2) (x := a0) C dX11_head_64 rfl ?_
              obtain ⟨rb61, rq61, trb61⟩ := Wb7.ref ty128 6 rfl rfl rfl
              have erb61 := Wb7.sk trb61 (by decide) rfl
              subst erb61
              refine c_getr (k := 6) C ck_12 dX11_head_65 w2_50 (by decide) ty128 rfl rfl (by decide) rfl rq61 ?_
              refine c_st (st2 := [.ref (sk 15)]) rfl ?_
              refine c_aload_n (j := 2) (x := a0) C dX11_head_68 rfl ?_
              refine c_getr (k := 0) C ck_12 dX11_head_69 w2_44 (by decide) ty128 rfl rfl (by decide) rfl rq52 ?_
              refine c_st (st2 := [.ref (sk 2), .ref (sk 15)]) rfl ?_
              refine c_iload_n (j := 1) C dX11_head_72 rfl ?_
              have pl27 := Phi.le Wb7 skb7
              refine d_callV (As := [.int (iI k)]) (rest := [.ref (sk 15)]) C hM (C_at_2 (a0 := (sk 2)) (i := k) Wb7 skb7 ty129 (by omega) ) dX11_head_73 kV_X11_224 rfl ty129 rfl rfl (by decide) ck_2 rfl (Nat.le_of_ble_eq_true rfl) ⟨(Nat.le_of_ble_eq_true rfl), (Nat.le_of_ble_eq_true rfl)⟩ hph pl27 (show 0 + 0 = 0 from rfl) (by decide) (fun rh75 Lh75 clh75 lnh75 ivh75 rvh75 h75 => ?_)
              obtain ⟨f75, rfl, rfl, rfl, rfl, rfl, rfl, rgf75, exf75⟩ := h75
              refine c_st (st2 := [.int (iI f75), .ref (sk 15)]) rfl ?_
              have gf75 : ((0 ≤ k ∧ k < ivb7 (sk 2) 2) ∨ f75 = 0) ∧ ∀ ss, CT ivb7 rvb7 (sk 2) ss → 0 ≤ k → k < ivb7 (sk 2) 2 → f75 = ss k.toNat := exf75
              refine c_iload_n (j := 1) C dX11_head_76 rfl ?_
              have ty153 := Xb7.ty tsk15
              have ri617 : 0 ≤ ivb7 (sk 15) 4 ∧ ivb7 (sk 15) 4 ≤ 500 := Wb7.int ty153 4
              refine d_callV (As := [.int (iI f75), .int (iI k)]) (rest := []) C hM (G_put (a0 := (sk 15)) (x := f75) (y := k) Wb7 skb7 ty153 (by omega) (by omega) ) dX11_head_77 kV_X11_273 rfl ty153 rfl rfl (by decide) ck_7 rfl (Nat.le_of_ble_eq_true rfl) ⟨(Nat.le_of_ble_eq_true rfl), (Nat.le_of_ble_eq_true rfl)⟩ hph pl27 (show 0 + 0 = 0 from rfl) (by decide) (fun rh76 Lh76 clh76 lnh76 ivh76 rvh76 h76 => ?_)
              obtain ⟨rfl, rfl, rfl, rfl, rfl, fl76, W76, exf76⟩ := h76
              have F60 := Fb7.call Xb7 fl76 rfl
              have mr60 := MRK.call mrb7 Wb7 skb7 XT.refl fl76 rfl rfl
              refine c_st (st2 := []) rfl ?_
              have ri618 : 0 ≤ ivh76 (sk 15) 4 ∧ ivh76 (sk 15) 4 ≤ 500 := W76.int ty153 4
              have gf76 : (ivb7 (sk 15) 4 < 500 → ivh76 (sk 15) 4 = ivb7 (sk 15) 4 + 1) ∧ PTL ivb7 rvb7 ivh76 (sk 15) f75 := exf76
              refine c_iinc (z := k) (j := 1) (lv2 := [(3, .int (iI (k + 1))), (2, .int (iI fl)), (0, .ref a0), (1, .int (iI i))]) C dX11_head_80 rfl (by decide) rfl ?_
              refine c_goto (tgt := 49) C dX11_head_83 (by decide) ?_
              have ri619 : 0 ≤ ivh76 (sk 2) 2 ∧ ivh76 (sk 2) 2 ≤ 3000 := W76.int ty129 2
              have ie947 : ivh76 (sk 2) 2 = ivb7 (sk 2) 2 := fl76.i ty129 rfl 2
              have ri620 : 1 ≤ ivh76 a0 11 ∧ ivh76 a0 11 ≤ 100 := W76.int ty128 11
              have ie948 : ivh76 a0 11 = ivb7 a0 11 := fl76.i ty128 rfl 11
              have ri621 : 1 ≤ ivh76 a0 12 ∧ ivh76 a0 12 ≤ 50 := W76.int ty128 12
              have ie950 : ivh76 a0 12 = ivb7 a0 12 := fl76.i ty128 rfl 12
              have ri622 : (-2147483648) ≤ ivh76 a0 13 ∧ ivh76 a0 13 ≤ 2147483647 := W76.int ty128 13
              have ie952 : ivh76 a0 13 = ivb7 a0 13 := fl76.i ty128 rfl 13
              have ri623 : (-2147483648) ≤ ivh76 a0 14 ∧ ivh76 a0 14 ≤ 2147483647 := W76.int ty128 14
              have ie954 : ivh76 a0 14 = ivb7 a0 14 := fl76.i ty128 rfl 14
              have ri624 : (-2147483648) ≤ ivh76 a0 15 ∧ ivh76 a0 15 ≤ 2147483647 := W76.int ty128 15
              have ie956 : ivh76 a0 15 = ivb7 a0 15 := fl76.i ty128 rfl 15
              have ri625 : (-2147483648) ≤ ivh76 a0 16 ∧ ivh76 a0 16 ≤ 2147483647 := W76.int ty128 16
              have ie958 : ivh76 a0 16 = ivb7 a0 16 := fl76.i ty128 rfl 16
              refine c_lv (lv2 := [(2, .int (iI fl)), (3, .int (iI (k + 1))), (0, .ref a0), (1, .int (iI i))]) [1, 0, 2, 3] rfl ?_
              exact ih7  fl (k + 1) _ _ _ _ _ (by omega) Xb7 W76 F60  (by omega) (by omega) (by show ivh76 (sk 15) 4 = (k + 1); omega) (by omega) (by show ivh76 (sk 2) 2 = iv (sk 2) 2; omega) hf40 hWD (fun ss hs => CT.fr (hCT ss hs) Wb7 ty129 fl76 rfl rfl rfl rfl rfl) (hLT.put gf76.2 (by omega) ⟨by omega, by omega⟩ (fun ss hs => gf75.2 ss (hCT ss hs) (by omega) (by omega))) (by show ivh76 a0 11 = iv a0 11; omega) (by show ivh76 a0 12 = iv a0 12; omega) (by show ivh76 a0 13 = iv a0 13; omega) (by show ivh76 a0 14 = iv a0 14; omega) (by show ivh76 a0 15 = iv a0 15; omega) (by show ivh76 a0 16 = iv a0 16; omega) (show rvb7 a0 9 = rv a0 9 from hkr9) (show rvb7 a0 10 = rv a0 10 from hkr10)
      have ri626 : 0 ≤ ivh52 (sk 2) 2 ∧ ivh52 (sk 2) 2 ≤ 3000 := W52.int tsk2 2
      have ie960 : ivh52 (sk 2) 2 = iv (sk 2) 2 := fl52.i tsk2 rfl 2
      have ri627 : 1 ≤ ivh52 a0 11 ∧ ivh52 a0 11 ≤ 100 := W52.int t_a0 11
      have ie961 : ivh52 a0 11 = iv a0 11 := fl52.i t_a0 rfl 11
      have ri628 : 1 ≤ ivh52 a0 12 ∧ ivh52 a0 12 ≤ 50 := W52.int t_a0 12
      have ie962 : ivh52 a0 12 = iv a0 12 := fl52.i t_a0 rfl 12
      have ri629 : (-2147483648) ≤ ivh52 a0 13 ∧ ivh52 a0 13 ≤ 2147483647 := W52.int t_a0 13
      have ie963 : ivh52 a0 13 = iv a0 13 := fl52.i t_a0 rfl 13
      have ri630 : (-2147483648) ≤ ivh52 a0 14 ∧ ivh52 a0 14 ≤ 2147483647 := W52.int t_a0 14
      have ie964 : ivh52 a0 14 = iv a0 14 := fl52.i t_a0 rfl 14
      have ri631 : (-2147483648) ≤ ivh52 a0 15 ∧ ivh52 a0 15 ≤ 2147483647 := W52.int t_a0 15
      have ie965 : ivh52 a0 15 = iv a0 15 := fl52.i t_a0 rfl 15
      have ri632 : (-2147483648) ≤ ivh52 a0 16 ∧ ivh52 a0 16 ≤ 2147483647 := W52.int t_a0 16
      have ie966 : ivh52 a0 16 = iv a0 16 := fl52.i t_a0 rfl 16
      refine c_lv (lv2 := [(2, .int (iI 1)), (3, .int (iI 0)), (0, .ref a0), (1, .int (iI i))]) [1, 0, 2, 3] rfl ?_
      exact Lp7 3003 1 0 _ _ _ _ _ (by omega) hX0 W52 F41  (by omega) (by omega) (by show ivh52 (sk 15) 4 = 0; omega) (by omega) (by show ivh52 (sk 2) 2 = iv (sk 2) 2; omega) (fun _ => by omega) (fun ss hs => by
          have e := gf26 ss hs (by omega) (by omega)
          exact ⟨fun _ => ⟨by omega, fun j h1 h2 => e.mp (by omega) j.toNat (by omega) (by omega)⟩, fun _ => rfl⟩) (fun ss hs => CT.fr hs hW tsk2 fl52 rfl rfl rfl rfl rfl) LTA.zero (by show ivh52 a0 11 = iv a0 11; omega) (by show ivh52 a0 12 = iv a0 12; omega) (by show ivh52 a0 13 = iv a0 13; omega) (by show ivh52 a0 14 = iv a0 14; omega) (by show ivh52 a0 15 = iv a0 15; omega) (by show ivh52 a0 16 = iv a0 16; omega) rfl rfl
