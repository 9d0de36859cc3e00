set_option maxHeartbeats 4000000 in
set_option maxRecDepth 100000 in
theorem C_addAll_3 {l : Launch} {G : GT} {mi : Nat} {sk : Nat → Nat} {L : List Nat} {cl ln : Nat → Nat} {iv : Nat → Nat → Int} {rv : Nat → Nat → Option Nat}  {a0 : Nat} {a1 : Nat} (hW : WT (g0 G) sk L cl ln iv rv) (hS : SKL sk L cl) (t_a0 : ty L cl a0 3) (t_a1 : ty L cl a1 2)  : Mc l G mi (Phi (g0 G) sk) PHM yX1_addAll cX1_addAll 3 none 3 [.ref a0, .ref a1] L cl ln iv rv 0 (fun v L2 cl2 ln2 iv2 rv2 => v = none ∧ XT L cl ln L2 cl2 ln2 ∧ fT [3, 33] L cl iv rv iv2 rv2 ∧ WT (g0 G) sk L2 cl2 ln2 iv2 rv2 ∧ (iv2 a0 2 = min (iv a0 2 + iv a1 2) 500 ∧ APD iv rv a0 a1 iv2 rv2)) := by
  refine Mc.mk (by decide) (Nat.le_of_ble_eq_true rfl) ?_
  intro p e s m args below meth c A C hM
  refine hv5 (Phi.le hW hS) (show XT L cl ln L cl ln from XT.refl) (show fT [3, 33] L cl iv rv iv rv from fT.refl) (show 0 ≤ iv a0 2 ∧ iv a0 2 ≤ 500 from hW.int t_a0 2) (show 0 ≤ iv a1 2 ∧ iv a1 2 ≤ 3000 from hW.int t_a1 2) (fun hph hX0 hF0 ri1 ri2 => ?_)
  refine c_iconst C dX1_addAll_0 ?_
  refine c_istore_n (lv2 := [(2, .int (iI 0)), (0, .ref a0), (1, .ref a1)]) C dX1_addAll_1 (by decide) rfl ?_
  have Lp1 : ∀ (nn : Nat) (k : Int) (Lb1 : List Nat) (clb1 lnb1 : Nat → Nat) (ivb1 : Nat → Nat → Int) (rvb1 : Nat → Nat → Option Nat) , 3001 - k < (nn : Int) → XT L cl ln Lb1 clb1 lnb1 → WT (g0 G) sk Lb1 clb1 lnb1 ivb1 rvb1 → fT [3, 33] L cl iv rv ivb1 rvb1 → (0 ≤ k ∧ k ≤ iv a1 2) → (ivb1 a0 2 = min (iv a0 2 + k) 500) → (APD iv rv a0 a1 ivb1 rvb1) → cw p l e 3 ((PHM) + 0 - ((Phi (g0 G) sk) ln rv)) s m args below meth c G A 3 (MQ below (Qu G A (Qp G (Phi (g0 G) sk) ((Phi (g0 G) sk) ln rv) 0 (fun v L2 cl2 ln2 iv2 rv2 => v = none ∧ XT L cl ln L2 cl2 ln2 ∧ fT [3, 33] L cl iv rv iv2 rv2 ∧ WT (g0 G) sk L2 cl2 ln2 iv2 rv2 ∧ (iv2 a0 2 = min (iv a0 2 + iv a1 2) 500 ∧ APD iv rv a0 a1 iv2 rv2)))) args s (((PHM) + 0 - ((Phi (g0 G) sk) ln rv)) / 16) ((PHM) + 0 - ((Phi (g0 G) sk) ln rv)) A) (Phi (g0 G) sk) ((Phi (g0 G) sk) ln rv) Lb1 clb1 lnb1 ivb1 rvb1 0 2 [(2, .int (iI k)), (0, .ref a0), (1, .ref a1)] [] := by
    intro nn
    induction nn with
    | zero =>
      intro  k Lb1 clb1 lnb1 ivb1 rvb1 hm Xb1 Wb1 Fb1  hk hmn hap
      have skb1 := Xb1.skl hS
      exact absurd hm (by omega)
    | succ nn ih1 =>
      intro  k Lb1 clb1 lnb1 ivb1 rvb1 hm Xb1 Wb1 Fb1  hk hmn hap
      have skb1 := Xb1.skl hS
      refine c_iload_n (j := 0) C dX1_addAll_2 rfl ?_
      refine c_aload_n (j := 2) (x := a1) C dX1_addAll_3 rfl ?_
      refine hv2 (Xb1.ty t_a1) (show ivb1 a1 2 = iv a1 2 from Fb1.i t_a1 rfl 2) (fun ty1 ie1 => ?_)
      have ri3 : 0 ≤ ivb1 a1 2 ∧ ivb1 a1 2 ≤ 3000 := Wb1.int ty1 2
      refine c_get (k := 2) C ck_2 dX1_addAll_4 w1_43 (by decide) ty1 rfl rfl (by decide) rfl ?_
      refine c_icmp_ge (tgt := 26) C ⟨by omega, by omega⟩ (r32_c (lo := 0) (hi := 3000) ri3.1 ri3.2 (by decide) (by decide)) dX1_addAll_7 (by decide) (fun c1 => ?_) (fun c1 => ?_)
      · have ty2 := Xb1.ty t_a0
        refine hv2 (show 0 ≤ ivb1 a0 2 ∧ ivb1 a0 2 ≤ 500 from Wb1.int ty2 2) (Phi.le Wb1 skb1) (fun ri4 pl1 => ?_)
        exact c_vret C dX1_addAll_26 rfl (by decide) (rom0 hph pl1 (by decide)) ⟨rfl, Xb1, Fb1, Wb1, ⟨by omega, hap⟩⟩
      · refine c_aload_n (j := 1) (x := a0) C dX1_addAll_10 rfl ?_
        refine c_aload_n (j := 2) (x := a1) C dX1_addAll_11 rfl ?_
        obtain ⟨rb1, rq1, trb1⟩ := Wb1.ref ty1 1 rfl rfl rfl
        refine hv2 (show 16 ≤ lnb1 rb1 ∧ lnb1 rb1 ≤ 6000 from Wb1.len trb1 rfl) (Wb1.isz ty1 rfl rfl rq1) (fun lnrb1 szrb1 => ?_)
        refine c_getr (k := 1) C ck_2 dX1_addAll_12 w1_39 (by decide) ty1 rfl rfl (by decide) rfl rq1 ?_
        refine c_st (st2 := [.ref rb1, .ref a0]) rfl ?_
        refine c_iload_n (j := 0) C dX1_addAll_15 rfl ?_
        have ll1 : 16 ≤ lnb1 rb1 ∧ lnb1 rb1 ≤ 6000 := Wb1.len trb1 rfl
        refine c_iald C dX1_addAll_16 trb1 rfl (by omega) (by omega) (by omega) ?_
        refine hv3 (show (-2147483648) ≤ ivb1 rb1 k.toNat ∧ ivb1 rb1 k.toNat ≤ 2147483647 from Wb1.int trb1 k.toNat) (Xb1.ty t_a0) (Phi.le Wb1 skb1) (fun ri5 ty3 pl2 => ?_)
        have ri6 : 0 ≤ ivb1 a0 2 ∧ ivb1 a0 2 ≤ 500 := Wb1.int ty3 2
        refine d_callV (As := [.int (iI (ivb1 rb1 k.toNat))]) (rest := []) C hM (C_add_3 (a0 := a0) (x := ivb1 rb1 k.toNat) Wb1 skb1 ty3 (by omega) ) dX1_addAll_17 kV_X1_26 rfl ty3 rfl rfl (by decide) ck_2 rfl (Nat.le_of_ble_eq_true rfl) ⟨(Nat.le_of_ble_eq_true rfl), (Nat.le_of_ble_eq_true rfl)⟩ hph pl2 (show 0 + 0 = 0 from rfl) (by decide) (fun rh1 Lh1 clh1 lnh1 ivh1 rvh1 h1 => ?_)
        obtain ⟨rfl, xl1, fl1, W1, exf1⟩ := h1
        refine hv3 (Fb1.call Xb1 fl1 rfl) (Xb1.trans xl1) (xl1.skl skb1) (fun F1 X1 sk1 => ?_)
        refine c_st (st2 := []) rfl ?_
        refine hv2 (xl1.ty ty3) (show ((ivh1 a0 2 = ivb1 a0 2 ∧ ivb1 a0 2 = 500) ∨ (ivh1 a0 2 = ivb1 a0 2 + 1 ∧ ivb1 a0 2 < 500)) ∧ ∀ ss, CT ivb1 rvb1 a0 ss → ivb1 a0 2 < 500 → CT ivh1 rvh1 a0 (va_up ss (ivb1 a0 2).toNat (ivb1 rb1 k.toNat)) from exf1) (fun ty4 gf1 => ?_)
        have ri7 : 0 ≤ ivh1 a0 2 ∧ ivh1 a0 2 ≤ 500 := W1.int ty4 2
        refine c_iinc (z := k) (j := 0) (lv2 := [(2, .int (iI (k + 1))), (0, .ref a0), (1, .ref a1)]) C dX1_addAll_20 rfl (by decide) rfl ?_
        refine c_goto (tgt := 2) C dX1_addAll_23 (by decide) ?_
        refine c_lv (lv2 := [(2, .int (iI (k + 1))), (0, .ref a0), (1, .ref a1)]) [0, 1, 2] rfl ?_
        exact ih1  (k + 1) _ _ _ _ _ (by omega) X1 W1 F1  (by omega) (by show ivh1 a0 2 = min (iv a0 2 + (k + 1)) 500; omega) (hap.step gf1.2 hmn (fun ss hs => (CT.fr hs hW t_a1 Fb1 rfl rfl rfl rfl rfl) _ rq1 k.toNat (by omega)) ⟨by omega, by omega⟩ (by omega))
  refine c_lv (lv2 := [(2, .int (iI 0)), (0, .ref a0), (1, .ref a1)]) [0, 1, 2] rfl ?_
  exact Lp1 3002 0 _ _ _ _ _ (by omega) hX0 hW hF0  (by omega) (by show iv a0 2 = min (iv a0 2 + 0) 500; omega) APD.zero
set_option maxHeartbeats 4000000 in
set_option maxRecDepth 100000 in
theorem C_addAll_4 {l : Launch} {G : GT} {mi : Nat} {sk : Nat → Nat} {L : List Nat} {cl ln : Nat → Nat} {iv : Nat → Nat → Int} {rv : Nat → Nat → Option Nat}  {a0 : Nat} {a1 : Nat} (hW : WT (g0 G) sk L cl ln iv rv) (hS : SKL sk L cl) (t_a0 : ty L cl a0 4) (t_a1 : ty L cl a1 10)  : Mc l G mi (Phi (g0 G) sk) PHM yX1_addAll cX1_addAll 3 none 3 [.ref a0, .ref a1] L cl ln iv rv 0 (fun v L2 cl2 ln2 iv2 rv2 => v = none ∧ XT L cl ln L2 cl2 ln2 ∧ fT [4, 34] L cl iv rv iv2 rv2 ∧ WT (g0 G) sk L2 cl2 ln2 iv2 rv2 ∧ (iv2 a0 2 = min (iv a0 2 + iv a1 2) 4000)) := by
  refine Mc.mk (by decide) (Nat.le_of_ble_eq_true rfl) ?_
  intro p e s m args below meth c A C hM
  refine hv5 (Phi.le hW hS) (show XT L cl ln L cl ln from XT.refl) (show fT [4, 34] L cl iv rv iv rv from fT.refl) (show 0 ≤ iv a0 2 ∧ iv a0 2 ≤ 4000 from hW.int t_a0 2) (show 0 ≤ iv a1 2 ∧ iv a1 2 ≤ 4001 from hW.int t_a1 2) (fun hph hX0 hF0 ri1 ri2 => ?_)
  refine c_iconst C dX1_addAll_0 ?_
  refine c_istore_n (lv2 := [(2, .int (iI 0)), (0, .ref a0), (1, .ref a1)]) C dX1_addAll_1 (by decide) rfl ?_
  have Lp1 : ∀ (nn : Nat) (k : Int) (Lb1 : List Nat) (clb1 lnb1 : Nat → Nat) (ivb1 : Nat → Nat → Int) (rvb1 : Nat → Nat → Option Nat) , 4002 - k < (nn : Int) → XT L cl ln Lb1 clb1 lnb1 → WT (g0 G) sk Lb1 clb1 lnb1 ivb1 rvb1 → fT [4, 34] L cl iv rv ivb1 rvb1 → (0 ≤ k ∧ k ≤ iv a1 2) → (ivb1 a0 2 = min (iv a0 2 + k) 4000) → cw p l e 3 ((PHM) + 0 - ((Phi (g0 G) sk) ln rv)) s m args below meth c G A 3 (MQ below (Qu G A (Qp G (Phi (g0 G) sk) ((Phi (g0 G) sk) ln rv) 0 (fun v L2 cl2 ln2 iv2 rv2 => v = none ∧ XT L cl ln L2 cl2 ln2 ∧ fT [4, 34] L cl iv rv iv2 rv2 ∧ WT (g0 G) sk L2 cl2 ln2 iv2 rv2 ∧ (iv2 a0 2 = min (iv a0 2 + iv a1 2) 4000)))) args s (((PHM) + 0 - ((Phi (g0 G) sk) ln rv)) / 16) ((PHM) + 0 - ((Phi (g0 G) sk) ln rv)) A) (Phi (g0 G) sk) ((Phi (g0 G) sk) ln rv) Lb1 clb1 lnb1 ivb1 rvb1 0 2 [(2, .int (iI k)), (0, .ref a0), (1, .ref a1)] [] := by
    intro nn
    induction nn with
    | zero =>
      intro  k Lb1 clb1 lnb1 ivb1 rvb1 hm Xb1 Wb1 Fb1  hk hmn
      have skb1 := Xb1.skl hS
      exact absurd hm (by omega)
    | succ nn ih1 =>
      intro  k Lb1 clb1 lnb1 ivb1 rvb1 hm Xb1 Wb1 Fb1  hk hmn
      have skb1 := Xb1.skl hS
      refine c_iload_n (j := 0) C dX1_addAll_2 rfl ?_
      refine c_aload_n (j := 2) (x := a1) C dX1_addAll_3 rfl ?_
      refine hv2 (Xb1.ty t_a1) (show ivb1 a1 2 = iv a1 2 from Fb1.i t_a1 rfl 2) (fun ty1 ie1 => ?_)
      have ri3 : 0 ≤ ivb1 a1 2 ∧ ivb1 a1 2 ≤ 4001 := Wb1.int ty1 2
      refine c_get (k := 2) C ck_2 dX1_addAll_4 w1_43 (by decide) ty1 rfl rfl (by decide) rfl ?_
      refine c_icmp_ge (tgt := 26) C ⟨by omega, by omega⟩ (r32_c (lo := 0) (hi := 4001) ri3.1 ri3.2 (by decide) (by decide)) dX1_addAll_7 (by decide) (fun c1 => ?_) (fun c1 => ?_)
      · have ty2 := Xb1.ty t_a0
        refine hv2 (show 0 ≤ ivb1 a0 2 ∧ ivb1 a0 2 ≤ 4000 from Wb1.int ty2 2) (Phi.le Wb1 skb1) (fun ri4 pl1 => ?_)
        exact c_vret C dX1_addAll_26 rfl (by decide) (rom0 hph pl1 (by decide)) ⟨rfl, Xb1, Fb1, Wb1, (by omega)⟩
      · refine c_aload_n (j := 1) (x := a0) C dX1_addAll_10 rfl ?_
        refine c_aload_n (j := 2) (x := a1) C dX1_addAll_11 rfl ?_
        obtain ⟨rb1, rq1, trb1⟩ := Wb1.ref ty1 1 rfl rfl rfl
        refine hv2 (show 16 ≤ lnb1 rb1 ∧ lnb1 rb1 ≤ 8002 from Wb1.len trb1 rfl) (Wb1.isz ty1 rfl rfl rq1) (fun lnrb1 szrb1 => ?_)
        refine c_getr (k := 1) C ck_2 dX1_addAll_12 w1_39 (by decide) ty1 rfl rfl (by decide) rfl rq1 ?_
        refine c_st (st2 := [.ref rb1, .ref a0]) rfl ?_
        refine c_iload_n (j := 0) C dX1_addAll_15 rfl ?_
        have ll1 : 16 ≤ lnb1 rb1 ∧ lnb1 rb1 ≤ 8002 := Wb1.len trb1 rfl
        refine c_iald C dX1_addAll_16 trb1 rfl (by omega) (by omega) (by omega) ?_
        refine hv3 (show (-2147483648) ≤ ivb1 rb1 k.toNat ∧ ivb1 rb1 k.toNat ≤ 2147483647 from Wb1.int trb1 k.toNat) (Xb1.ty t_a0) (Phi.le Wb1 skb1) (fun ri5 ty3 pl2 => ?_)
        have ri6 : 0 ≤ ivb1 a0 2 ∧ ivb1 a0 2 ≤ 4000 := Wb1.int ty3 2
        refine d_callV (As := [.int (iI (ivb1 rb1 k.toNat))]) (rest := []) C hM (C_add_4 (a0 := a0) (x := ivb1 rb1 k.toNat) Wb1 skb1 ty3 (by omega) ) dX1_addAll_17 kV_X1_26 rfl ty3 rfl rfl (by decide) ck_2 rfl (Nat.le_of_ble_eq_true rfl) ⟨(Nat.le_of_ble_eq_true rfl), (Nat.le_of_ble_eq_true rfl)⟩ hph pl2 (show 0 + 0 = 0 from rfl) (by decide) (fun rh1 Lh1 clh1 lnh1 ivh1 rvh1 h1 => ?_)
        obtain ⟨rfl, xl1, fl1, W1, exf1⟩ := h1
        refine hv3 (Fb1.call Xb1 fl1 rfl) (Xb1.trans xl1) (xl1.skl skb1) (fun F1 X1 sk1 => ?_)
        refine c_st (st2 := []) rfl ?_
        refine hv2 (xl1.ty ty3) (show ((ivh1 a0 2 = ivb1 a0 2 ∧ ivb1 a0 2 = 4000) ∨ (ivh1 a0 2 = ivb1 a0 2 + 1 ∧ ivb1 a0 2 < 4000)) from exf1) (fun ty4 gf1 => ?_)
        have ri7 : 0 ≤ ivh1 a0 2 ∧ ivh1 a0 2 ≤ 4000 := W1.int ty4 2
        refine c_iinc (z := k) (j := 0) (lv2 := [(2, .int (iI (k + 1))), (0, .ref a0), (1, .ref a1)]) C dX1_addAll_20 rfl (by decide) rfl ?_
        refine c_goto (tgt := 2) C dX1_addAll_23 (by decide) ?_
        refine c_lv (lv2 := [(2, .int (iI (k + 1))), (0, .ref a0), (1, .ref a1)]) [0, 1, 2] rfl ?_
        exact ih1  (k + 1) _ _ _ _ _ (by omega) X1 W1 F1  (by omega) (by show ivh1 a0 2 = min (iv a0 2 + (k + 1)) 4000; omega)
  refine c_lv (lv2 := [(2, .int (iI 0)), (0, .ref a0), (1, .ref a1)]) [0, 1, 2] rfl ?_
  exact Lp1 4003 0 _ _ _ _ _ (by omega) hX0 hW hF0  (by omega) (by show iv a0 2 = min (iv a0 2 + 0) 4000; omega)
set_option maxHeartbeats 4000000 in
set_option maxRecDepth 100000 in
theorem C_lends {l : Launch} {G : GT} {mi : Nat} {sk : Nat → Nat} {L : List Nat} {cl ln : Nat → Nat} {iv : Nat → Nat → Int} {rv : Nat → Nat → Option Nat}  {a0 : Nat} {x : Int} (hW : WT (g0 G) sk L cl ln iv rv) (hS : SKL sk L cl) (t_a0 : ty L cl a0 19) (h_x : -2147483648 ≤ x ∧ x ≤ 2147483647)  : Mc l G mi (Phi (g0 G) sk) PHM yX2_endsWith cX2_endsWith 2 (some .boolean) 0 [.ref a0, .int (iI x)] L cl ln iv rv 0 (fun v L2 cl2 ln2 iv2 rv2 => ∃ f : Int, v = some (.int (iI f)) ∧ L = L2 ∧ cl = cl2 ∧ ln = ln2 ∧ iv = iv2 ∧ rv = rv2 ∧ (f = 0 ∨ f = 1) ∧ (f = 0 ∨ 0 < iv a0 1)) := by
  refine Mc.mk (by decide) (Nat.le_of_ble_eq_true rfl) ?_
  intro p e s m args below meth c A C hM
  refine hv3 (Phi.le hW hS) (show XT L cl ln L cl ln from XT.refl) (show fT [] L cl iv rv iv rv from fT.refl) (fun hph hX0 hF0 => ?_)
  refine c_aload_n (j := 0) (x := a0) C dX2_endsWith_0 rfl ?_
  have ri1 : 0 ≤ iv a0 1 ∧ iv a0 1 ≤ 200 := hW.int t_a0 1
  refine c_get (k := 1) C ck_3 dX2_endsWith_1 w4_49 (by decide) t_a0 rfl rfl (by decide) rfl ?_
  refine c_if_le (tgt := 26) C (r32_c (lo := 0) (hi := 200) ri1.1 ri1.2 (by decide) (by decide)) dX2_endsWith_4 (by decide) (fun c1 => ?_) (fun c1 => ?_)
  · refine c_iconst C dX2_endsWith_26 ?_
    exact c_zret C dX2_endsWith_27 rfl (Or.inl rfl) (by decide) (rom0 hph hph (by decide)) ⟨0, rfl, rfl, rfl, rfl, rfl, rfl, (Or.inl rfl), (by omega)⟩
  · refine c_aload_n (j := 0) (x := a0) C dX2_endsWith_7 rfl ?_
    obtain ⟨rb1, rq1, trb1⟩ := hW.ref t_a0 0 rfl rfl rfl
    have lnrb1 : 200 ≤ ln rb1 ∧ ln rb1 ≤ 200 := hW.len trb1 rfl
    refine c_getr (k := 0) C ck_3 dX2_endsWith_8 w4_44 (by decide) t_a0 rfl rfl (by decide) rfl rq1 ?_
    refine c_st (st2 := [.ref rb1]) rfl ?_
    refine c_aload_n (j := 0) (x := a0) C dX2_endsWith_11 rfl ?_
    refine c_get (k := 1) C ck_3 dX2_endsWith_12 w4_49 (by decide) t_a0 rfl rfl (by decide) rfl ?_
    refine c_iconst C dX2_endsWith_15 ?_
    refine c_isub C dX2_endsWith_16 ?_
    have ll1 : 200 ≤ ln rb1 ∧ ln rb1 ≤ 200 := hW.len trb1 rfl
    refine c_iald C dX2_endsWith_17 trb1 rfl (by omega) (by omega) (by omega) ?_
    have ri2 : (-2147483648) ≤ iv rb1 (((iv a0 1) - 1).toNat) ∧ iv rb1 (((iv a0 1) - 1).toNat) ≤ 2147483647 := hW.int trb1 (((iv a0 1) - 1).toNat)
    refine c_iload_n (j := 1) C dX2_endsWith_18 rfl ?_
    refine c_icmp_ne (tgt := 26) C ⟨by omega, by omega⟩ ⟨by omega, by omega⟩ dX2_endsWith_19 (by decide) (fun c2 => ?_) (fun c2 => ?_)
    · refine c_iconst C dX2_endsWith_26 ?_
      exact c_zret C dX2_endsWith_27 rfl (Or.inl rfl) (by decide) (rom0 hph hph (by decide)) ⟨0, rfl, rfl, rfl, rfl, rfl, rfl, (Or.inl rfl), (by omega)⟩
    · refine c_iconst C dX2_endsWith_22 ?_
      refine c_goto (tgt := 27) C dX2_endsWith_23 (by decide) ?_
      exact c_zret C dX2_endsWith_27 rfl (Or.inr rfl) (by decide) (rom0 hph hph (by decide)) ⟨1, rfl, rfl, rfl, rfl, rfl, rfl, (Or.inr rfl), (by omega)⟩
