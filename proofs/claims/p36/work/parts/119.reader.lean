set_option maxHeartbeats 4000000 in
set_option maxRecDepth 100000 in
theorem C_addInd_24 {l : Launch} {G : GT} {mi : Nat} {sk : Nat → Nat} {L : List Nat} {cl ln : Nat → Nat} {iv : Nat → Nat → Int} {rv : Nat → Nat → Option Nat}  {a0 : Nat} {r : Option Nat} (hW : WT (g0 G) sk L cl ln iv rv) (hS : SKL sk L cl) (t_a0 : ty L cl a0 24) (t_r : ∀ b, r = some b → ty L cl b 20) (hn : iv a0 2 < 6003) : Mc l G mi (Phi (g0 G) sk) PHM yX3_addIndicator cX3_addIndicator 2 none 7 [.ref a0, va_rf r] L cl ln iv rv 0 (fun v L2 cl2 ln2 iv2 rv2 => v = none ∧ XT L cl ln L2 cl2 ln2 ∧ fT [24, 1002] L cl iv rv iv2 rv2 ∧ WT (g0 G) sk L2 cl2 ln2 iv2 rv2 ∧ (iv a0 2 ≤ iv2 a0 2 ∧ iv2 a0 2 ≤ iv a0 2 + 1)) := by
  refine Mc.mk (by decide) (by cases r <;> exact Nat.le_of_ble_eq_true rfl) ?_
  intro p e s m args below meth c A C hM
  have hph := Phi.le hW hS
  refine c_lveq (show lv_args 0 [.ref a0, va_rf r] = [(0, .ref a0), (1, (va_rf r))] from by cases r <;> rfl) ?_
  have hb0 : 0 ≤ iv a0 2 := (hW.int t_a0 2).1
  have hX0 : XT L cl ln L cl ln := XT.refl
  have hF0 : fT [24, 1002] L cl iv rv iv rv := fT.refl
  refine c_aloadr_n (j := 1) (r := r) C dX3_addIndicator_0 rfl ?_
  refine c_ifnull (r := r) (tgt := 10) C dX3_addIndicator_1 (by decide) (fun oq1 => ?_) (fun ob1 oq1 => ?_)
  · subst oq1
    refine c_lv (lv2 := [(0, .ref a0), (1, .null)]) [0, 1] rfl ?_
    refine c_st (st2 := []) rfl ?_
    have ri1 : 0 ≤ iv a0 2 ∧ iv a0 2 ≤ 6003 := hW.int t_a0 2
    exact c_vret C dX3_addIndicator_10 rfl (by decide) (rom0 hph hph (by decide)) ⟨rfl, hX0, hF0, hW, (by omega)⟩
  · subst oq1
    have tob1 := t_r ob1 rfl
    refine c_lv (lv2 := [(0, .ref a0), (1, .ref ob1)]) [0, 1] rfl ?_
    refine c_st (st2 := []) rfl ?_
    refine c_aload_n (j := 0) (x := a0) C dX3_addIndicator_4 rfl ?_
    refine c_aload_n (j := 1) (x := ob1) C dX3_addIndicator_5 rfl ?_
    have ri2 : 0 ≤ iv a0 2 ∧ iv a0 2 ≤ 6003 := hW.int t_a0 2
    refine d_callV (As := [.ref ob1]) (rest := []) C hM (C_add_24 (a0 := a0) (x := ob1) hW hS t_a0 tob1  (by show iv a0 2 < 6003; omega)) dX3_addIndicator_6 kV_X3_97 rfl t_a0 rfl rfl (by decide) ck_0 rfl (Nat.le_of_ble_eq_true rfl) ⟨(Nat.le_of_ble_eq_true rfl), (Nat.le_of_ble_eq_true rfl)⟩ hph hph (show 0 + 0 = 0 from rfl) (by decide) (fun rh1 Lh1 clh1 lnh1 ivh1 rvh1 h1 => ?_)
    obtain ⟨f1, rfl, xl1, fl1, W1, rgf1, exf1⟩ := h1
    have F1 := hF0.call hX0 fl1 rfl
    have X1 := hX0.trans xl1
    have sk1 := xl1.skl hS
    refine c_st (st2 := [.int (iI f1)]) rfl ?_
    have ty1 := xl1.ty t_a0
    have ri3 : 0 ≤ ivh1 a0 2 ∧ ivh1 a0 2 ≤ 6003 := W1.int ty1 2
    have gf1 : ivh1 a0 2 = iv a0 2 + 1 ∧ el rvh1 a0 (iv a0 2).toNat = some ob1 ∧ ∀ i : Nat, (i : Int) < iv a0 2 → el rvh1 a0 i = el rv a0 i := exf1
    refine c_pop C dX3_addIndicator_9 rfl ?_
    have pl1 := Phi.le W1 sk1
    exact c_vret C dX3_addIndicator_10 rfl (by decide) (rom0 hph pl1 (by decide)) ⟨rfl, X1, F1, W1, (by omega)⟩
set_option maxHeartbeats 4000000 in
set_option maxRecDepth 100000 in
theorem C_markBegins_24 {l : Launch} {G : GT} {mi : Nat} {sk : Nat → Nat} {L : List Nat} {cl ln : Nat → Nat} {iv : Nat → Nat → Int} {rv : Nat → Nat → Option Nat}  {a0 : Nat} {a1 : Nat} (hW : WT (g0 G) sk L cl ln iv rv) (hS : SKL sk L cl) (t_a0 : ty L cl a0 24) (t_a1 : ty L cl a1 6)  : Mc l G mi (Phi (g0 G) sk) PHM yX3_markBegins cX3_markBegins 5 none 3 [.ref a0, .ref a1] L cl ln iv rv 0 (fun v L2 cl2 ln2 iv2 rv2 => v = none ∧ XT L cl ln L2 cl2 ln2 ∧ fT [6, 36] L cl iv rv iv2 rv2 ∧ WT (g0 G) sk L2 cl2 ln2 iv2 rv2 ∧ (True)) := by
  refine Mc.mk (by decide) (Nat.le_of_ble_eq_true rfl) ?_
  intro p e s m args below meth c A C hM
  have hph := Phi.le hW hS
  have hX0 : XT L cl ln L cl ln := XT.refl
  have hF0 : fT [6, 36] L cl iv rv iv rv := fT.refl
  refine c_aload_n (j := 1) (x := a1) C dX3_markBegins_0 rfl ?_
  refine d_callV (As := []) (rest := []) C hM (C_clear_6 (a0 := a1) hW hS t_a1  ) dX3_markBegins_1 kV_X3_77 rfl t_a1 rfl rfl (by decide) ck_2 rfl (Nat.le_of_ble_eq_true rfl) ⟨(Nat.le_of_ble_eq_true rfl), (Nat.le_of_ble_eq_true rfl)⟩ hph hph (show 0 + 0 = 0 from rfl) (by decide) (fun rh1 Lh1 clh1 lnh1 ivh1 rvh1 h1 => ?_)
  obtain ⟨rfl, rfl, rfl, rfl, rfl, fl1, W1, exf1⟩ := h1
  have F1 := hF0.call hX0 fl1 rfl
  refine c_st (st2 := []) rfl ?_
  have ri1 : 0 ≤ ivh1 a1 2 ∧ ivh1 a1 2 ≤ 6003 := W1.int t_a1 2
  have gf1 : ivh1 a1 2 = 0 := exf1
  refine c_aload_n (j := 0) (x := a0) C dX3_markBegins_4 rfl ?_
  have ri2 : 0 ≤ ivh1 a0 2 ∧ ivh1 a0 2 ≤ 6003 := W1.int t_a0 2
  have ie2 : ivh1 a0 2 = iv a0 2 := fl1.i t_a0 rfl 2
  refine d_callV (As := []) (rest := []) C hM (C_size_24 (a0 := a0) W1 hS t_a0  ) dX3_markBegins_5 kV_X3_78 rfl t_a0 rfl rfl (by decide) ck_0 rfl (Nat.le_of_ble_eq_true rfl) ⟨(Nat.le_of_ble_eq_true rfl), (Nat.le_of_ble_eq_true rfl)⟩ hph hph (show 0 + 0 = 0 from rfl) (by decide) (fun rh2 Lh2 clh2 lnh2 ivh2 rvh2 h2 => ?_)
  obtain ⟨f2, rfl, rfl, rfl, rfl, rfl, rfl, rgf2, exf2⟩ := h2
  refine c_st (st2 := [.int (iI f2)]) rfl ?_
  have gf2 : f2 = ivh1 a0 2 := exf2
  refine c_istore_n (lv2 := [(2, .int (iI f2)), (0, .ref a0), (1, .ref a1)]) C dX3_markBegins_8 (by decide) rfl ?_
  refine c_iconst C dX3_markBegins_9 ?_
  refine c_istore_n (lv2 := [(3, .int (iI 0)), (2, .int (iI f2)), (0, .ref a0), (1, .ref a1)]) C dX3_markBegins_10 (by decide) rfl ?_
  have Lp1 : ∀ (nn : Nat) (k : Int) (Lb1 : List Nat) (clb1 lnb1 : Nat → Nat) (ivb1 : Nat → Nat → Int) (rvb1 : Nat → Nat → Option Nat) , 6004 - k < (nn : Int) → XT L cl ln Lb1 clb1 lnb1 → WT (g0 G) sk Lb1 clb1 lnb1 ivb1 rvb1 → fT [6, 36] L cl iv rv ivb1 rvb1 → (0 ≤ k ∧ k ≤ 6003) → cw p l e 3 ((PHM) + 0 - ((Phi (g0 G) sk) ln rv)) s m args below meth c G A 5 (MQ below (Qu G A (Qp G (Phi (g0 G) sk) ((Phi (g0 G) sk) ln rv) 0 (fun v L2 cl2 ln2 iv2 rv2 => v = none ∧ XT L cl ln L2 cl2 ln2 ∧ fT [6, 36] L cl iv rv iv2 rv2 ∧ WT (g0 G) sk L2 cl2 ln2 iv2 rv2 ∧ (True)))) args s (((PHM) + 0 - ((Phi (g0 G) sk) ln rv)) / 16) ((PHM) + 0 - ((Phi (g0 G) sk) ln rv)) A) (Phi (g0 G) sk) ((Phi (g0 G) sk) ln rv) Lb1 clb1 lnb1 ivb1 rvb1 0 11 [(3, .int (iI k)), (2, .int (iI f2)), (0, .ref a0), (1, .ref a1)] [] := by
    intro nn
    induction nn with
    | zero =>
      intro  k Lb1 clb1 lnb1 ivb1 rvb1 hm Xb1 Wb1 Fb1  hk
      have skb1 := Xb1.skl hS
      exact absurd hm (by omega)
    | succ nn ih1 =>
      intro  k Lb1 clb1 lnb1 ivb1 rvb1 hm Xb1 Wb1 Fb1  hk
      have skb1 := Xb1.skl hS
      refine c_iload_n (j := 0) C dX3_markBegins_11 rfl ?_
      refine c_iload_n (j := 1) C dX3_markBegins_12 rfl ?_
      refine c_icmp_ge (tgt := 56) C ⟨by omega, by omega⟩ ⟨by omega, by omega⟩ dX3_markBegins_13 (by decide) (fun c1 => ?_) (fun c1 => ?_)
      · have pl1 := Phi.le Wb1 skb1
        exact c_vret C dX3_markBegins_56 rfl (by decide) (rom0 hph pl1 (by decide)) ⟨rfl, Xb1, Fb1, Wb1, trivial⟩
      · refine c_aload_n (j := 2) (x := a0) C dX3_markBegins_16 rfl ?_
        refine c_iload_n (j := 0) C dX3_markBegins_17 rfl ?_
        have ty1 := Xb1.ty t_a0
        have ri3 : 0 ≤ ivb1 a0 2 ∧ ivb1 a0 2 ≤ 6003 := Wb1.int ty1 2
        have ie3 : ivb1 a0 2 = iv a0 2 := Fb1.i t_a0 rfl 2
        have pl2 := Phi.le Wb1 skb1
        refine d_callV (As := [.int (iI k)]) (rest := []) C hM (C_get_24 (a0 := a0) (i := k) Wb1 skb1 ty1 (by omega) (by show 0 ≤ k ∧ k < ivb1 a0 2; omega)) dX3_markBegins_18 kV_X3_82 rfl ty1 rfl rfl (by decide) ck_0 rfl (Nat.le_of_ble_eq_true rfl) ⟨(Nat.le_of_ble_eq_true rfl), (Nat.le_of_ble_eq_true rfl)⟩ hph pl2 (show 0 + 0 = 0 from rfl) (by decide) (fun rh3 Lh3 clh3 lnh3 ivh3 rvh3 h3 => ?_)
        obtain ⟨f3, rfl, rfl, rfl, rfl, rfl, rfl, rgf3, exf3⟩ := h3
        refine c_st (st2 := [.ref f3]) rfl ?_
        have gf3 : el rvb1 a0 k.toNat = some f3 := exf3
        refine c_cast C ck_6 dX3_markBegins_21 w5_63 w8_169t rgf3 rfl rfl (by decide) ?_
        refine c_astore (lv2 := [(4, .ref f3), (3, .int (iI k)), (2, .int (iI f2)), (0, .ref a0), (1, .ref a1)]) C dX3_markBegins_24 (by decide) rfl ?_
        refine c_aload_n (j := 4) (x := a1) C dX3_markBegins_26 rfl ?_
        refine c_aload (j := 0) (x := f3) C dX3_markBegins_27 rfl ?_
        obtain ⟨rb1, rq1, trb1⟩ := Wb1.ref rgf3 2 rfl rfl rfl
        have lnrb1 : 1 ≤ lnb1 rb1 ∧ lnb1 rb1 ≤ 4 := Wb1.len trb1 rfl
        refine c_getr (k := 2) C ck_6 dX3_markBegins_29 w3_143 (by decide) rgf3 rfl rfl (by decide) rfl rq1 ?_
        refine c_st (st2 := [.ref rb1, .ref a1]) rfl ?_
        have ll1 : 1 ≤ lnb1 rb1 ∧ lnb1 rb1 ≤ 4 := Wb1.len trb1 rfl
        refine c_alenI C dX3_markBegins_32 trb1 rfl ?_
        refine c_if_le (tgt := 46) C ⟨by omega, by omega⟩ dX3_markBegins_33 (by decide) (fun c2 => ?_) (fun c2 => ?_)
        · refine c_iconst C dX3_markBegins_46 ?_
          have ty2 := Xb1.ty t_a1
          have ri4 : 0 ≤ ivb1 a1 2 ∧ ivb1 a1 2 ≤ 6003 := Wb1.int ty2 2
          refine d_callV (As := [.int (iI 0)]) (rest := []) C hM (C_add_6 (a0 := a1) (x := 0) Wb1 skb1 ty2 ⟨by decide, by decide⟩ ) dX3_markBegins_47 kV_X3_91 rfl ty2 rfl rfl (by decide) ck_2 rfl (Nat.le_of_ble_eq_true rfl) ⟨(Nat.le_of_ble_eq_true rfl), (Nat.le_of_ble_eq_true rfl)⟩ hph pl2 (show 0 + 0 = 0 from rfl) (by decide) (fun rh4 Lh4 clh4 lnh4 ivh4 rvh4 h4 => ?_)
          obtain ⟨rfl, xl4, fl4, W4, exf4⟩ := h4
          have F2 := Fb1.call Xb1 fl4 rfl
          have X1 := Xb1.trans xl4
          have sk1 := xl4.skl skb1
          refine c_st (st2 := []) rfl ?_
          have ty3 := xl4.ty ty2
          have ri5 : 0 ≤ ivh4 a1 2 ∧ ivh4 a1 2 ≤ 6003 := W4.int ty3 2
          have gf4 : ((ivh4 a1 2 = ivb1 a1 2 ∧ ivb1 a1 2 = 6003) ∨ (ivh4 a1 2 = ivb1 a1 2 + 1 ∧ ivb1 a1 2 < 6003)) := exf4
          refine c_iinc (z := k) (j := 1) (lv2 := [(3, .int (iI (k + 1))), (4, .ref f3), (2, .int (iI f2)), (0, .ref a0), (1, .ref a1)]) C dX3_markBegins_50 rfl (by decide) rfl ?_
          refine c_goto (tgt := 11) C dX3_markBegins_53 (by decide) ?_
          refine c_lv (lv2 := [(3, .int (iI (k + 1))), (2, .int (iI f2)), (0, .ref a0), (1, .ref a1)]) [0, 2, 3, 4] rfl ?_
          exact ih1  (k + 1) _ _ _ _ _ (by omega) X1 W4 F2  (by omega)
        · refine c_aload (j := 0) (x := f3) C dX3_markBegins_36 rfl ?_
          refine c_getr (k := 2) C ck_6 dX3_markBegins_38 w3_143 (by decide) rgf3 rfl rfl (by decide) rfl rq1 ?_
          refine c_st (st2 := [.ref rb1, .ref a1]) rfl ?_
          refine c_iconst C dX3_markBegins_41 ?_
          refine c_iald C dX3_markBegins_42 trb1 rfl (by omega) (by omega) (by omega) ?_
          have ri6 : (-2147483648) ≤ ivb1 rb1 ((0 : Int).toNat) ∧ ivb1 rb1 ((0 : Int).toNat) ≤ 2147483647 := Wb1.int trb1 ((0 : Int).toNat)
          refine c_goto (tgt := 47) C dX3_markBegins_43 (by decide) ?_
          have ty4 := Xb1.ty t_a1
          have ri7 : 0 ≤ ivb1 a1 2 ∧ ivb1 a1 2 ≤ 6003 := Wb1.int ty4 2
          refine d_callV (As := [.int (iI (ivb1 rb1 (0 : Int).toNat))]) (rest := []) C hM (C_add_6 (a0 := a1) (x := ivb1 rb1 (0 : Int).toNat) Wb1 skb1 ty4 (by omega) ) dX3_markBegins_47 kV_X3_91 rfl ty4 rfl rfl (by decide) ck_2 rfl (Nat.le_of_ble_eq_true rfl) ⟨(Nat.le_of_ble_eq_true rfl), (Nat.le_of_ble_eq_true rfl)⟩ hph pl2 (show 0 + 0 = 0 from rfl) (by decide) (fun rh5 Lh5 clh5 lnh5 ivh5 rvh5 h5 => ?_)
          obtain ⟨rfl, xl5, fl5, W5, exf5⟩ := h5
          have F3 := Fb1.call Xb1 fl5 rfl
          have X2 := Xb1.trans xl5
          have sk2 := xl5.skl skb1
          refine c_st (st2 := []) rfl ?_
          have ty5 := xl5.ty ty4
          have ri8 : 0 ≤ ivh5 a1 2 ∧ ivh5 a1 2 ≤ 6003 := W5.int ty5 2
          have gf5 : ((ivh5 a1 2 = ivb1 a1 2 ∧ ivb1 a1 2 = 6003) ∨ (ivh5 a1 2 = ivb1 a1 2 + 1 ∧ ivb1 a1 2 < 6003)) := exf5
          refine c_iinc (z := k) (j := 1) (lv2 := [(3, .int (iI (k + 1))), (4, .ref f3), (2, .int (iI f2)), (0, .ref a0), (1, .ref a1)]) C dX3_markBegins_50 rfl (by decide) rfl ?_
          refine c_goto (tgt := 11) C dX3_markBegins_53 (by decide) ?_
          refine c_lv (lv2 := [(3, .int (iI (k + 1))), (2, .int (iI f2)), (0, .ref a0), (1, .ref a1)]) [0, 2, 3, 4] rfl ?_
          exact ih1  (k + 1) _ _ _ _ _ (by omega) X2 W5 F3  (by omega)
  refine c_lv (lv2 := [(3, .int (iI 0)), (2, .int (iI f2)), (0, .ref a0), (1, .ref a1)]) [0, 1, 2, 3] rfl ?_
  exact Lp1 6006 0 _ _ _ _ _ (by omega) hX0 W1 F1  (by omega)
set_option maxHeartbeats 4000000 in
set_option maxRecDepth 100000 in
theorem C_gatherPart_24 {l : Launch} {G : GT} {mi : Nat} {sk : Nat → Nat} {L : List Nat} {cl ln : Nat → Nat} {iv : Nat → Nat → Int} {rv : Nat → Nat → Option Nat}  {a0 : Nat} {r : Option Nat} (hW : WT (g0 G) sk L cl ln iv rv) (hS : SKL sk L cl) (t_a0 : ty L cl a0 24) (t_r : ∀ b, r = some b → ty L cl b 100) (hn : iv a0 2 = 0) : Mc l G mi (Phi (g0 G) sk) PHM yX3_gatherPart cX3_gatherPart 4 none 8 [.ref a0, va_rf r] L cl ln iv rv 0 (fun v L2 cl2 ln2 iv2 rv2 => v = none ∧ XT L cl ln L2 cl2 ln2 ∧ fT [24, 1002] L cl iv rv iv2 rv2 ∧ WT (g0 G) sk L2 cl2 ln2 iv2 rv2 ∧ (iv2 a0 2 ≤ 6002)) := by
  refine Mc.mk (by decide) (by cases r <;> exact Nat.le_of_ble_eq_true rfl) ?_
  intro p e s m args below meth c A C hM
  have hph := Phi.le hW hS
  refine c_lveq (show lv_args 0 [.ref a0, va_rf r] = [(0, .ref a0), (1, (va_rf r))] from by cases r <;> rfl) ?_
  have hX0 : XT L cl ln L cl ln := XT.refl
  have hF0 : fT [24, 1002] L cl iv rv iv rv := fT.refl
  refine c_aloadr_n (j := 1) (r := r) C dX3_gatherPart_0 rfl ?_
  refine c_ifnonnull (r := r) (tgt := 5) C dX3_gatherPart_1 (by decide) (fun ob1 oq1 => ?_) (fun oq1 => ?_)
  · subst oq1
    have tob1 := t_r ob1 rfl
    refine c_lv (lv2 := [(0, .ref a0), (1, .ref ob1)]) [0, 1] rfl ?_
    refine c_st (st2 := []) rfl ?_
    refine c_aload_n (j := 1) (x := ob1) C dX3_gatherPart_5 rfl ?_
    refine c_astore_n (lv2 := [(2, .ref ob1), (0, .ref a0), (1, .ref ob1)]) C dX3_gatherPart_6 (by decide) rfl ?_
    have Lp1 : ∀ (nn : Nat) (tq : Option Nat) (rk : Int) (Lb1 : List Nat) (clb1 lnb1 : Nat → Nat) (ivb1 : Nat → Nat → Int) (rvb1 : Nat → Nat → Option Nat) , rk - 99 < (nn : Int) → XT L cl ln Lb1 clb1 lnb1 → WT (g0 G) sk Lb1 clb1 lnb1 ivb1 rvb1 → fT [24, 1002] L cl iv rv ivb1 rvb1 → (∀ b, tq = some b → ty Lb1 clb1 b 100) → (99 ≤ rk ∧ rk ≤ 129) → (ivb1 a0 2 ≤ 200 * (129 - rk)) → (∀ b, tq = some b → ((clb1 b : Nat) : Int) ≤ rk) → cw p l e 8 ((PHM) + 0 - ((Phi (g0 G) sk) ln rv)) s m args below meth c G A 4 (MQ below (Qu G A (Qp G (Phi (g0 G) sk) ((Phi (g0 G) sk) ln rv) 0 (fun v L2 cl2 ln2 iv2 rv2 => v = none ∧ XT L cl ln L2 cl2 ln2 ∧ fT [24, 1002] L cl iv rv iv2 rv2 ∧ WT (g0 G) sk L2 cl2 ln2 iv2 rv2 ∧ (iv2 a0 2 ≤ 6002)))) args s (((PHM) + 0 - ((Phi (g0 G) sk) ln rv)) / 16) ((PHM) + 0 - ((Phi (g0 G) sk) ln rv)) A) (Phi (g0 G) sk) ((Phi (g0 G) sk) ln rv) Lb1 clb1 lnb1 ivb1 rvb1 0 7 [(2, (va_rf tq)), (0, .ref a0), (1, .ref ob1)] [] := by
      intro nn
      induction nn with
      | zero =>
        intro tq rk Lb1 clb1 lnb1 ivb1 rvb1 hm Xb1 Wb1 Fb1 ty_tq h99 hsz hrk
        have skb1 := Xb1.skl hS
        exact absurd hm (by omega)
      | succ nn ih1 =>
        intro tq rk Lb1 clb1 lnb1 ivb1 rvb1 hm Xb1 Wb1 Fb1 ty_tq h99 hsz hrk
        have skb1 := Xb1.skl hS
        refine c_aloadr_n (j := 0) (r := tq) C dX3_gatherPart_7 rfl ?_
        refine c_ifnull (r := tq) (tgt := 54) C dX3_gatherPart_8 (by decide) (fun oq2 => ?_) (fun ob2 oq2 => ?_)
        · subst oq2
          refine c_lv (lv2 := [(2, .null), (0, .ref a0), (1, .ref ob1)]) [0, 1, 2] rfl ?_
          refine c_st (st2 := []) rfl ?_
          refine c_aload_n (j := 1) (x := a0) C dX3_gatherPart_54 rfl ?_
          refine c_aload_n (j := 2) (x := ob1) C dX3_gatherPart_55 rfl ?_
          have ty1 := Xb1.ty tob1
          obtain ⟨rb1, rq1, trb1⟩ := Wb1.ref ty1 6 rfl rfl rfl
          have lnrb1 : 4 ≤ lnb1 rb1 ∧ lnb1 rb1 ≤ 4 := Wb1.len trb1 rfl
          refine c_getr (k := 6) C ck_10 dX3_gatherPart_56 w2_193 (by decide) ty1 rfl rfl (by decide) rfl rq1 ?_
          refine c_st (st2 := [.ref rb1, .ref a0]) rfl ?_
          refine c_iconst C dX3_gatherPart_59 ?_
          have ll1 : 4 ≤ lnb1 rb1 ∧ lnb1 rb1 ≤ 4 := Wb1.len trb1 rfl
          rcases Wb1.opt trb1 ((0 : Int).toNat) rfl rfl with ⟨nq1, _⟩ | ⟨nb1, nq1, tnb1⟩
          · refine c_aaldR C dX3_gatherPart_60 trb1 rfl (by omega) (by omega) (by omega) nq1 ?_
            refine c_st (st2 := [.null, .ref a0]) rfl ?_
            have ty2 := Xb1.ty t_a0
            have ri1 : 0 ≤ ivb1 a0 2 ∧ ivb1 a0 2 ≤ 6003 := Wb1.int ty2 2
            have pl1 := Phi.le Wb1 skb1
            refine d_callS (As := [.ref a0, .null]) (rest := []) C hM (C_addInd_24 (a0 := a0) (r := none) Wb1 skb1 ty2 (fun _ q => by cases q)  (by show ivb1 a0 2 < 6003; omega)) dX3_gatherPart_61 kS_X3_67 rfl rfl (Nat.le_of_ble_eq_true rfl) ⟨(Nat.le_of_ble_eq_true rfl), (Nat.le_of_ble_eq_true rfl)⟩ hph pl1 (show 0 + 0 = 0 from rfl) (by decide) (fun rh1 Lh1 clh1 lnh1 ivh1 rvh1 h1 => ?_)
            obtain ⟨rfl, xl1, fl1, W1, exf1⟩ := h1
            have F1 := Fb1.call Xb1 fl1 rfl
            have X1 := Xb1.trans xl1
            have sk1 := xl1.skl skb1
            refine c_st (st2 := []) rfl ?_
            have ty3 := xl1.ty ty2
            have ri2 : 0 ≤ ivh1 a0 2 ∧ ivh1 a0 2 ≤ 6003 := W1.int ty3 2
            have gf1 : ivb1 a0 2 ≤ ivh1 a0 2 ∧ ivh1 a0 2 ≤ ivb1 a0 2 + 1 := exf1
            refine c_aload_n (j := 1) (x := a0) C dX3_gatherPart_64 rfl ?_
            refine c_aload_n (j := 2) (x := ob1) C dX3_gatherPart_65 rfl ?_
            have ty4 := xl1.ty ty1
            have re1 : rvh1 ob1 6 = rvb1 ob1 6 := (fl1.r ty1 rfl 6)
            rw [rq1] at re1
            refine c_getr (k := 6) C ck_10 dX3_gatherPart_66 w2_193 (by decide) ty4 rfl rfl (by decide) rfl re1 ?_
            refine c_st (st2 := [.ref rb1, .ref a0]) rfl ?_
            refine c_iconst C dX3_gatherPart_69 ?_
            have ty5 := xl1.ty trb1
            have ll2 : 4 ≤ lnh1 rb1 ∧ lnh1 rb1 ≤ 4 := W1.len ty5 rfl
            rcases W1.opt ty5 ((1 : Int).toNat) rfl rfl with ⟨nq2, _⟩ | ⟨nb2, nq2, tnb2⟩
            · refine c_aaldR C dX3_gatherPart_70 ty5 rfl (by omega) (by omega) (by omega) nq2 ?_
              refine c_st (st2 := [.null, .ref a0]) rfl ?_
              have pl2 := Phi.le W1 sk1
              refine d_callS (As := [.ref a0, .null]) (rest := []) C hM (C_addInd_24 (a0 := a0) (r := none) W1 sk1 ty3 (fun _ q => by cases q)  (by show ivh1 a0 2 < 6003; omega)) dX3_gatherPart_71 kS_X3_67 rfl rfl (Nat.le_of_ble_eq_true rfl) ⟨(Nat.le_of_ble_eq_true rfl), (Nat.le_of_ble_eq_true rfl)⟩ hph pl2 (show 0 + 0 = 0 from rfl) (by decide) (fun rh2 Lh2 clh2 lnh2 ivh2 rvh2 h2 => ?_)
              obtain ⟨rfl, xl2, fl2, W2, exf2⟩ := h2
              have F2 := F1.call X1 fl2 rfl
              have X2 := X1.trans xl2
              have sk2 := xl2.skl sk1
              refine c_st (st2 := []) rfl ?_
              have ty6 := xl2.ty ty3
              have ri3 : 0 ≤ ivh2 a0 2 ∧ ivh2 a0 2 ≤ 6003 := W2.int ty6 2
              have gf2 : ivh1 a0 2 ≤ ivh2 a0 2 ∧ ivh2 a0 2 ≤ ivh1 a0 2 + 1 := exf2
              have pl3 := Phi.le W2 sk2
              exact c_vret C dX3_gatherPart_74 rfl (by decide) (rom0 hph pl3 (by decide)) ⟨rfl, X2, F2, W2, (by omega)⟩
            · have tnb2 : ty Lh1 clh1 nb2 20 := tnb2
              refine c_aaldR C dX3_gatherPart_70 ty5 rfl (by omega) (by omega) (by omega) nq2 ?_
              refine c_st (st2 := [.ref nb2, .ref a0]) rfl ?_
              have pl4 := Phi.le W1 sk1
              refine d_callS (As := [.ref a0, .ref nb2]) (rest := []) C hM (C_addInd_24 (a0 := a0) (r := (some nb2)) W1 sk1 ty3 (fun _ q => by cases q; exact tnb2)  (by show ivh1 a0 2 < 6003; omega)) dX3_gatherPart_71 kS_X3_67 rfl rfl (Nat.le_of_ble_eq_true rfl) ⟨(Nat.le_of_ble_eq_true rfl), (Nat.le_of_ble_eq_true rfl)⟩ hph pl4 (show 0 + 0 = 0 from rfl) (by decide) (fun rh3 Lh3 clh3 lnh3 ivh3 rvh3 h3 => ?_)
              obtain ⟨rfl, xl3, fl3, W3, exf3⟩ := h3
              have F3 := F1.call X1 fl3 rfl
              have X3 := X1.trans xl3
              have sk3 := xl3.skl sk1
              refine c_st (st2 := []) rfl ?_
              have ty7 := xl3.ty ty3
              have ri4 : 0 ≤ ivh3 a0 2 ∧ ivh3 a0 2 ≤ 6003 := W3.int ty7 2
              have gf3 : ivh1 a0 2 ≤ ivh3 a0 2 ∧ ivh3 a0 2 ≤ ivh1 a0 2 + 1 := exf3
              have pl5 := Phi.le W3 sk3
              exact c_vret C dX3_gatherPart_74 rfl (by decide) (rom0 hph pl5 (by decide)) ⟨rfl, X3, F3, W3, (by omega)⟩
          · have tnb1 : ty Lb1 clb1 nb1 20 := tnb1
            refine c_aaldR C dX3_gatherPart_60 trb1 rfl (by omega) (by omega) (by omega) nq1 ?_
            refine c_st (st2 := [.ref nb1, .ref a0]) rfl ?_
            have ty8 := Xb1.ty t_a0
            have ri5 : 0 ≤ ivb1 a0 2 ∧ ivb1 a0 2 ≤ 6003 := Wb1.int ty8 2
            have pl6 := Phi.le Wb1 skb1
            refine d_callS (As := [.ref a0, .ref nb1]) (rest := []) C hM (C_addInd_24 (a0 := a0) (r := (some nb1)) Wb1 skb1 ty8 (fun _ q => by cases q; exact tnb1)  (by show ivb1 a0 2 < 6003; omega)) dX3_gatherPart_61 kS_X3_67 rfl rfl (Nat.le_of_ble_eq_true rfl) ⟨(Nat.le_of_ble_eq_true rfl), (Nat.le_of_ble_eq_true rfl)⟩ hph pl6 (show 0 + 0 = 0 from rfl) (by decide) (fun rh4 Lh4 clh4 lnh4 ivh4 rvh4 h4 => ?_)
            obtain ⟨rfl, xl4, fl4, W4, exf4⟩ := h4
            have F4 := Fb1.call Xb1 fl4 rfl
            have X4 := Xb1.trans xl4
            have sk4 := xl4.skl skb1
            refine c_st (st2 := []) rfl ?_
            have ty9 := xl4.ty ty8
            have ri6 : 0 ≤ ivh4 a0 2 ∧ ivh4 a0 2 ≤ 6003 := W4.int ty9 2
            have gf4 : ivb1 a0 2 ≤ ivh4 a0 2 ∧ ivh4 a0 2 ≤ ivb1 a0 2 + 1 := exf4
            refine c_aload_n (j := 1) (x := a0) C dX3_gatherPart_64 rfl ?_
            refine c_aload_n (j := 2) (x := ob1) C dX3_gatherPart_65 rfl ?_
            have ty10 := xl4.ty ty1
            have re2 : rvh4 ob1 6 = rvb1 ob1 6 := (fl4.r ty1 rfl 6)
            rw [rq1] at re2
            refine c_getr (k := 6) C ck_10 dX3_gatherPart_66 w2_193 (by decide) ty10 rfl rfl (by decide) rfl re2 ?_
            refine c_st (st2 := [.ref rb1, .ref a0]) rfl ?_
            refine c_iconst C dX3_gatherPart_69 ?_
            have ty11 := xl4.ty trb1
            have ll3 : 4 ≤ lnh4 rb1 ∧ lnh4 rb1 ≤ 4 := W4.len ty11 rfl
            rcases W4.opt ty11 ((1 : Int).toNat) rfl rfl with ⟨nq3, _⟩ | ⟨nb3, nq3, tnb3⟩
            · refine c_aaldR C dX3_gatherPart_70 ty11 rfl (by omega) (by omega) (by omega) nq3 ?_
              refine c_st (st2 := [.null, .ref a0]) rfl ?_
              have pl7 := Phi.le W4 sk4
              refine d_callS (As := [.ref a0, .null]) (rest := []) C hM (C_addInd_24 (a0 := a0) (r := none) W4 sk4 ty9 (fun _ q => by cases q)  (by show ivh4 a0 2 < 6003; omega)) dX3_gatherPart_71 kS_X3_67 rfl rfl (Nat.le_of_ble_eq_true rfl) ⟨(Nat.le_of_ble_eq_true rfl), (Nat.le_of_ble_eq_true rfl)⟩ hph pl7 (show 0 + 0 = 0 from rfl) (by decide) (fun rh5 Lh5 clh5 lnh5 ivh5 rvh5 h5 => ?_)
              obtain ⟨rfl, xl5, fl5, W5, exf5⟩ := h5
              have F5 := F4.call X4 fl5 rfl
              have ty12 := xl4.ty tnb1
              have X5 := X4.trans xl5
              have sk5 := xl5.skl sk4
              refine c_st (st2 := []) rfl ?_
              have ty13 := xl5.ty ty9
              have ri7 : 0 ≤ ivh5 a0 2 ∧ ivh5 a0 2 ≤ 6003 := W5.int ty13 2
              have gf5 : ivh4 a0 2 ≤ ivh5 a0 2 ∧ ivh5 a0 2 ≤ ivh4 a0 2 + 1 := exf5
              have pl8 := Phi.le W5 sk5
              exact c_vret C dX3_gatherPart_74 rfl (by decide) (rom0 hph pl8 (by decide)) ⟨rfl, X5, F5, W5, (by omega)⟩
            · have tnb3 : ty Lh4 clh4 nb3 20 := tnb3
              refine c_aaldR C dX3_gatherPart_70 ty11 rfl (by omega) (by omega) (by omega) nq3 ?_
              refine c_st (st2 := [.ref nb3, .ref a0]) rfl ?_
              have pl9 := Phi.le W4 sk4
              refine d_callS (As := [.ref a0, .ref nb3]) (rest := []) C hM (C_addInd_24 (a0 := a0) (r := (some nb3)) W4 sk4 ty9 (fun _ q => by cases q; exact tnb3)  (by show ivh4 a0 2 < 6003; omega)) dX3_gatherPart_71 kS_X3_67 rfl rfl (Nat.le_of_ble_eq_true rfl) ⟨(Nat.le_of_ble_eq_true rfl), (Nat.le_of_ble_eq_true rfl)⟩ hph pl9 (show 0 + 0 = 0 from rfl) (by decide) (fun rh6 Lh6 clh6 lnh6 ivh6 rvh6 h6 => ?_)
              obtain ⟨rfl, xl6, fl6, W6, exf6⟩ := h6
              have F6 := F4.call X4 fl6 rfl
              have ty14 := xl4.ty tnb1
              have X6 := X4.trans xl6
              have sk6 := xl6.skl sk4
              refine c_st (st2 := []) rfl ?_
              have ty15 := xl6.ty ty9
              have ri8 : 0 ≤ ivh6 a0 2 ∧ ivh6 a0 2 ≤ 6003 := W6.int ty15 2
              have gf6 : ivh4 a0 2 ≤ ivh6 a0 2 ∧ ivh6 a0 2 ≤ ivh4 a0 2 + 1 := exf6
              have pl10 := Phi.le W6 sk6
              exact c_vret C dX3_gatherPart_74 rfl (by decide) (rom0 hph pl10 (by decide)) ⟨rfl, X6, F6, W6, (by omega)⟩
        · subst oq2
          have tob2 := ty_tq ob2 rfl
          have hkob2 := hrk ob2 rfl
          have tgob2 := bt_100 tob2.2
          refine c_lv (lv2 := [(2, .ref ob2), (0, .ref a0), (1, .ref ob1)]) [0, 1, 2] rfl ?_
          refine c_st (st2 := []) rfl ?_
          refine c_iconst C dX3_gatherPart_11 ?_
          refine c_istore_n (lv2 := [(3, .int (iI 0)), (2, .ref ob2), (0, .ref a0), (1, .ref ob1)]) C dX3_gatherPart_12 (by decide) rfl ?_
          have Lp2 : ∀ (nn : Nat) (tr : Nat) (k : Int) (Lb2 : List Nat) (clb2 lnb2 : Nat → Nat) (ivb2 : Nat → Nat → Int) (rvb2 : Nat → Nat → Option Nat) , 201 - k < (nn : Int) → XT L cl ln Lb2 clb2 lnb2 → WT (g0 G) sk Lb2 clb2 lnb2 ivb2 rvb2 → fT [24, 1002] L cl iv rv ivb2 rvb2 → (ty Lb2 clb2 tr 100) → (0 ≤ k ∧ k ≤ 200) → (ivb2 a0 2 ≤ 200 * (129 - rk) + k) → (100 ≤ clb2 tr ∧ ((clb2 tr : Nat) : Int) ≤ rk) → cw p l e 8 ((PHM) + 0 - ((Phi (g0 G) sk) ln rv)) s m args below meth c G A 4 (MQ below (Qu G A (Qp G (Phi (g0 G) sk) ((Phi (g0 G) sk) ln rv) 0 (fun v L2 cl2 ln2 iv2 rv2 => v = none ∧ XT L cl ln L2 cl2 ln2 ∧ fT [24, 1002] L cl iv rv iv2 rv2 ∧ WT (g0 G) sk L2 cl2 ln2 iv2 rv2 ∧ (iv2 a0 2 ≤ 6002)))) args s (((PHM) + 0 - ((Phi (g0 G) sk) ln rv)) / 16) ((PHM) + 0 - ((Phi (g0 G) sk) ln rv)) A) (Phi (g0 G) sk) ((Phi (g0 G) sk) ln rv) Lb2 clb2 lnb2 ivb2 rvb2 0 13 [(2, .ref tr), (3, .int (iI k)), (0, .ref a0), (1, .ref ob1)] [] := by
            intro nn
            induction nn with
            | zero =>
              intro tr k Lb2 clb2 lnb2 ivb2 rvb2 hm Xb2 Wb2 Fb2 ty_tr hk hs2 hcr
              have skb2 := Xb2.skl hS
              exact absurd hm (by omega)
            | succ nn ih2 =>
              intro tr k Lb2 clb2 lnb2 ivb2 rvb2 hm Xb2 Wb2 Fb2 ty_tr hk hs2 hcr
              have skb2 := Xb2.skl hS
              refine c_iload_n (j := 1) C dX3_gatherPart_13 rfl ?_
              refine c_aload_n (j := 0) (x := tr) C dX3_gatherPart_14 rfl ?_
              obtain ⟨rb2, rq2, trb2⟩ := Wb2.ref ty_tr 4 rfl rfl rfl
              refine c_getr (k := 4) C ck_10 dX3_gatherPart_15 w2_187 (by decide) ty_tr rfl rfl (by decide) rfl rq2 ?_
              refine c_st (st2 := [.ref rb2, .int (iI k)]) rfl ?_
              have ri9 : 0 ≤ ivb2 rb2 2 ∧ ivb2 rb2 2 ≤ 200 := Wb2.int trb2 2
              have pl11 := Phi.le Wb2 skb2
              refine d_callV (As := []) (rest := [.int (iI k)]) C hM (C_size_26 (a0 := rb2) Wb2 skb2 trb2  ) dX3_gatherPart_18 kV_X3_78 rfl trb2 rfl rfl (by decide) ck_0 rfl (Nat.le_of_ble_eq_true rfl) ⟨(Nat.le_of_ble_eq_true rfl), (Nat.le_of_ble_eq_true rfl)⟩ hph pl11 (show 0 + 0 = 0 from rfl) (by decide) (fun rh7 Lh7 clh7 lnh7 ivh7 rvh7 h7 => ?_)
              obtain ⟨f7, rfl, rfl, rfl, rfl, rfl, rfl, rgf7, exf7⟩ := h7
              refine c_st (st2 := [.int (iI f7), .int (iI k)]) rfl ?_
              have gf7 : f7 = ivb2 rb2 2 := exf7
              refine c_icmp_ge (tgt := 46) C ⟨by omega, by omega⟩ ⟨by omega, by omega⟩ dX3_gatherPart_21 (by decide) (fun c1 => ?_) (fun c1 => ?_)
              · refine c_aload_n (j := 0) (x := tr) C dX3_gatherPart_46 rfl ?_
                rcases Wb2.opt ty_tr 2 rfl rfl with ⟨nq4, _⟩ | ⟨nb4, nq4, tnb4⟩
                · refine c_getr (k := 2) C ck_10 dX3_gatherPart_47 w2_181 (by decide) ty_tr rfl rfl (by decide) rfl nq4 ?_
                  refine c_st (st2 := [.null]) rfl ?_
                  refine c_astorer_n (r := none) (lv2 := [(2, .null), (3, .int (iI k)), (0, .ref a0), (1, .ref ob1)]) C dX3_gatherPart_50 (by decide) rfl ?_
                  refine c_goto (tgt := 7) C dX3_gatherPart_51 (by decide) ?_
                  have ty16 := Xb2.ty t_a0
                  have ri10 : 0 ≤ ivb2 a0 2 ∧ ivb2 a0 2 ≤ 6003 := Wb2.int ty16 2
                  refine c_lv (lv2 := [(2, .null), (0, .ref a0), (1, .ref ob1)]) [0, 2, 3] rfl ?_
                  exact ih1  none (rk - 1) _ _ _ _ _ (by omega) Xb2 Wb2 Fb2 (fun _ q => by cases q) (by omega) (by show ivb2 a0 2 ≤ 200 * (129 - (rk - 1)); omega) (fun _ q => by cases q)
                · have rknb4 := Wb2.rank ty_tr (k := 2) (by decide) nq4
                  refine c_getr (k := 2) C ck_10 dX3_gatherPart_47 w2_181 (by decide) ty_tr rfl rfl (by decide) rfl nq4 ?_
                  refine c_st (st2 := [.ref nb4]) rfl ?_
                  refine c_astore_n (lv2 := [(2, .ref nb4), (3, .int (iI k)), (0, .ref a0), (1, .ref ob1)]) C dX3_gatherPart_50 (by decide) rfl ?_
                  refine c_goto (tgt := 7) C dX3_gatherPart_51 (by decide) ?_
                  have ty17 := Xb2.ty t_a0
                  have ri11 : 0 ≤ ivb2 a0 2 ∧ ivb2 a0 2 ≤ 6003 := Wb2.int ty17 2
                  have trnb4 := bt_100 tnb4.2
                  refine c_lv (lv2 := [(2, .ref nb4), (0, .ref a0), (1, .ref ob1)]) [0, 2, 3] rfl ?_
                  exact ih1  (some nb4) (rk - 1) _ _ _ _ _ (by omega) Xb2 Wb2 Fb2 (fun _ q => by cases q; exact tnb4) (by omega) (by show ivb2 a0 2 ≤ 200 * (129 - (rk - 1)); omega) (fun _ q => by cases q; omega)
              · refine c_aload_n (j := 2) (x := a0) C dX3_gatherPart_24 rfl ?_
                refine c_aload_n (j := 0) (x := tr) C dX3_gatherPart_25 rfl ?_
                refine c_getr (k := 4) C ck_10 dX3_gatherPart_26 w2_187 (by decide) ty_tr rfl rfl (by decide) rfl rq2 ?_
                refine c_st (st2 := [.ref rb2, .ref a0]) rfl ?_
                refine c_iload_n (j := 1) C dX3_gatherPart_29 rfl ?_
                refine d_callV (As := [.int (iI k)]) (rest := [.ref a0]) C hM (C_get_26 (a0 := rb2) (i := k) Wb2 skb2 trb2 (by omega) (by show 0 ≤ k ∧ k < ivb2 rb2 2; omega)) dX3_gatherPart_30 kV_X3_82 rfl trb2 rfl rfl (by decide) ck_0 rfl (Nat.le_of_ble_eq_true rfl) ⟨(Nat.le_of_ble_eq_true rfl), (Nat.le_of_ble_eq_true rfl)⟩ hph pl11 (show 0 + 0 = 0 from rfl) (by decide) (fun rh8 Lh8 clh8 lnh8 ivh8 rvh8 h8 => ?_)
                obtain ⟨f8, rfl, rfl, rfl, rfl, rfl, rfl, rgf8, exf8⟩ := h8
                refine c_st (st2 := [.ref f8, .ref a0]) rfl ?_
                have gf8 : el rvb2 rb2 k.toNat = some f8 := exf8
                refine c_cast C ck_6 dX3_gatherPart_33 w5_63 w8_169t rgf8 rfl rfl (by decide) ?_
                have ty18 := Xb2.ty t_a0
                have ri12 : 0 ≤ ivb2 a0 2 ∧ ivb2 a0 2 ≤ 6003 := Wb2.int ty18 2
                refine d_callV (As := [.ref f8]) (rest := []) C hM (C_add_24 (a0 := a0) (x := f8) Wb2 skb2 ty18 rgf8  (by show ivb2 a0 2 < 6003; omega)) dX3_gatherPart_36 kV_X3_97 rfl ty18 rfl rfl (by decide) ck_0 rfl (Nat.le_of_ble_eq_true rfl) ⟨(Nat.le_of_ble_eq_true rfl), (Nat.le_of_ble_eq_true rfl)⟩ hph pl11 (show 0 + 0 = 0 from rfl) (by decide) (fun rh9 Lh9 clh9 lnh9 ivh9 rvh9 h9 => ?_)
                obtain ⟨f9, rfl, xl9, fl9, W9, rgf9, exf9⟩ := h9
                have F7 := Fb2.call Xb2 fl9 rfl
                have ty19 := Xb2.ty tob1
                have X7 := Xb2.trans xl9
                have sk7 := xl9.skl skb2
                refine c_st (st2 := [.int (iI f9)]) rfl ?_
                have ty20 := xl9.ty ty18
                have ri13 : 0 ≤ ivh9 a0 2 ∧ ivh9 a0 2 ≤ 6003 := W9.int ty20 2
                have gf9 : ivh9 a0 2 = ivb2 a0 2 + 1 ∧ el rvh9 a0 (ivb2 a0 2).toNat = some f8 ∧ ∀ i : Nat, (i : Int) < ivb2 a0 2 → el rvh9 a0 i = el rvb2 a0 i := exf9
                refine c_pop C dX3_gatherPart_39 rfl ?_
                refine c_iinc (z := k) (j := 1) (lv2 := [(3, .int (iI (k + 1))), (2, .ref tr), (0, .ref a0), (1, .ref ob1)]) C dX3_gatherPart_40 rfl (by decide) rfl ?_
                refine c_goto (tgt := 13) C dX3_gatherPart_43 (by decide) ?_
                have ty21 := xl9.ty ty_tr
                have ce1 : clh9 tr = clb2 tr := (xl9 tr ty_tr.1).2.1
                refine c_lv (lv2 := [(2, .ref tr), (3, .int (iI (k + 1))), (0, .ref a0), (1, .ref ob1)]) [1, 0, 2, 3] rfl ?_
                exact ih2  tr (k + 1) _ _ _ _ _ (by omega) X7 W9 F7 ty21 (by omega) (by show ivh9 a0 2 ≤ 200 * (129 - rk) + (k + 1); omega) (by show 100 ≤ clh9 tr ∧ ((clh9 tr : Nat) : Int) ≤ rk; omega)
          have ty22 := Xb1.ty t_a0
          have ri14 : 0 ≤ ivb1 a0 2 ∧ ivb1 a0 2 ≤ 6003 := Wb1.int ty22 2
          refine c_lv (lv2 := [(2, .ref ob2), (3, .int (iI 0)), (0, .ref a0), (1, .ref ob1)]) [1, 0, 2, 3] rfl ?_
          exact Lp2 203 ob2 0 _ _ _ _ _ (by omega) Xb1 Wb1 Fb1 tob2 (by omega) (by show ivb1 a0 2 ≤ 200 * (129 - rk) + 0; omega) (by show 100 ≤ clb1 ob2 ∧ ((clb1 ob2 : Nat) : Int) ≤ rk; omega)
    have ri15 : 0 ≤ iv a0 2 ∧ iv a0 2 ≤ 6003 := hW.int t_a0 2
    have trob1 := bt_100 tob1.2
    refine c_lv (lv2 := [(2, .ref ob1), (0, .ref a0), (1, .ref ob1)]) [0, 1, 2] rfl ?_
    exact Lp1 31 (some ob1) 129 _ _ _ _ _ (by omega) hX0 hW hF0 (fun _ q => by cases q; exact tob1) (by omega) (by show iv a0 2 ≤ 200 * (129 - 129); omega) (fun _ q => by cases q; omega)
  · subst oq1
    refine c_lv (lv2 := [(0, .ref a0), (1, .null)]) [0, 1] rfl ?_
    refine c_st (st2 := []) rfl ?_
    have ri16 : 0 ≤ iv a0 2 ∧ iv a0 2 ≤ 6003 := hW.int t_a0 2
    exact c_vret C dX3_gatherPart_4 rfl (by decide) (rom0 hph hph (by decide)) ⟨rfl, hX0, hF0, hW, (by omega)⟩
set_option maxHeartbeats 4000000 in
set_option maxRecDepth 100000 in
theorem C_addInd_25 {l : Launch} {G : GT} {mi : Nat} {sk : Nat → Nat} {L : List Nat} {cl ln : Nat → Nat} {iv : Nat → Nat → Int} {rv : Nat → Nat → Option Nat}  {a0 : Nat} {r : Option Nat} (hW : WT (g0 G) sk L cl ln iv rv) (hS : SKL sk L cl) (t_a0 : ty L cl a0 25) (t_r : ∀ b, r = some b → ty L cl b 20) (hn : iv a0 2 < 6003) : Mc l G mi (Phi (g0 G) sk) PHM yX3_addIndicator cX3_addIndicator 2 none 7 [.ref a0, va_rf r] L cl ln iv rv 0 (fun v L2 cl2 ln2 iv2 rv2 => v = none ∧ XT L cl ln L2 cl2 ln2 ∧ fT [25, 1003] L cl iv rv iv2 rv2 ∧ WT (g0 G) sk L2 cl2 ln2 iv2 rv2 ∧ (iv a0 2 ≤ iv2 a0 2 ∧ iv2 a0 2 ≤ iv a0 2 + 1)) := by
  refine Mc.mk (by decide) (by cases r <;> exact Nat.le_of_ble_eq_true rfl) ?_
  intro p e s m args below meth c A C hM
  have hph := Phi.le hW hS
  refine c_lveq (show lv_args 0 [.ref a0, va_rf r] = [(0, .ref a0), (1, (va_rf r))] from by cases r <;> rfl) ?_
  have hb0 : 0 ≤ iv a0 2 := (hW.int t_a0 2).1
  have hX0 : XT L cl ln L cl ln := XT.refl
  have hF0 : fT [25, 1003] L cl iv rv iv rv := fT.refl
  refine c_aloadr_n (j := 1) (r := r) C dX3_addIndicator_0 rfl ?_
  refine c_ifnull (r := r) (tgt := 10) C dX3_addIndicator_1 (by decide) (fun oq1 => ?_) (fun ob1 oq1 => ?_)
  · subst oq1
    refine c_lv (lv2 := [(0, .ref a0), (1, .null)]) [0, 1] rfl ?_
    refine c_st (st2 := []) rfl ?_
    have ri1 : 0 ≤ iv a0 2 ∧ iv a0 2 ≤ 6003 := hW.int t_a0 2
    exact c_vret C dX3_addIndicator_10 rfl (by decide) (rom0 hph hph (by decide)) ⟨rfl, hX0, hF0, hW, (by omega)⟩
  · subst oq1
    have tob1 := t_r ob1 rfl
    refine c_lv (lv2 := [(0, .ref a0), (1, .ref ob1)]) [0, 1] rfl ?_
    refine c_st (st2 := []) rfl ?_
    refine c_aload_n (j := 0) (x := a0) C dX3_addIndicator_4 rfl ?_
    refine c_aload_n (j := 1) (x := ob1) C dX3_addIndicator_5 rfl ?_
    have ri2 : 0 ≤ iv a0 2 ∧ iv a0 2 ≤ 6003 := hW.int t_a0 2
    refine d_callV (As := [.ref ob1]) (rest := []) C hM (C_add_25 (a0 := a0) (x := ob1) hW hS t_a0 tob1  (by show iv a0 2 < 6003; omega)) dX3_addIndicator_6 kV_X3_97 rfl t_a0 rfl rfl (by decide) ck_0 rfl (Nat.le_of_ble_eq_true rfl) ⟨(Nat.le_of_ble_eq_true rfl), (Nat.le_of_ble_eq_true rfl)⟩ hph hph (show 0 + 0 = 0 from rfl) (by decide) (fun rh1 Lh1 clh1 lnh1 ivh1 rvh1 h1 => ?_)
    obtain ⟨f1, rfl, xl1, fl1, W1, rgf1, exf1⟩ := h1
    have F1 := hF0.call hX0 fl1 rfl
    have X1 := hX0.trans xl1
    have sk1 := xl1.skl hS
    refine c_st (st2 := [.int (iI f1)]) rfl ?_
    have ty1 := xl1.ty t_a0
    have ri3 : 0 ≤ ivh1 a0 2 ∧ ivh1 a0 2 ≤ 6003 := W1.int ty1 2
    have gf1 : ivh1 a0 2 = iv a0 2 + 1 ∧ el rvh1 a0 (iv a0 2).toNat = some ob1 ∧ ∀ i : Nat, (i : Int) < iv a0 2 → el rvh1 a0 i = el rv a0 i := exf1
    refine c_pop C dX3_addIndicator_9 rfl ?_
    have pl1 := Phi.le W1 sk1
    exact c_vret C dX3_addIndicator_10 rfl (by decide) (rom0 hph pl1 (by decide)) ⟨rfl, X1, F1, W1, (by omega)⟩
set_option maxHeartbeats 4000000 in
set_option maxRecDepth 100000 in
theorem C_markBegins_25 {l : Launch} {G : GT} {mi : Nat} {sk : Nat → Nat} {L : List Nat} {cl ln : Nat → Nat} {iv : Nat → Nat → Int} {rv : Nat → Nat → Option Nat}  {a0 : Nat} {a1 : Nat} (hW : WT (g0 G) sk L cl ln iv rv) (hS : SKL sk L cl) (t_a0 : ty L cl a0 25) (t_a1 : ty L cl a1 7)  : Mc l G mi (Phi (g0 G) sk) PHM yX3_markBegins cX3_markBegins 5 none 3 [.ref a0, .ref a1] L cl ln iv rv 0 (fun v L2 cl2 ln2 iv2 rv2 => v = none ∧ XT L cl ln L2 cl2 ln2 ∧ fT [7, 37] L cl iv rv iv2 rv2 ∧ WT (g0 G) sk L2 cl2 ln2 iv2 rv2 ∧ (True)) := by
  refine Mc.mk (by decide) (Nat.le_of_ble_eq_true rfl) ?_
  intro p e s m args below meth c A C hM
  have hph := Phi.le hW hS
  have hX0 : XT L cl ln L cl ln := XT.refl
  have hF0 : fT [7, 37] L cl iv rv iv rv := fT.refl
  refine c_aload_n (j := 1) (x := a1) C dX3_markBegins_0 rfl ?_
  refine d_callV (As := []) (rest := []) C hM (C_clear_7 (a0 := a1) hW hS t_a1  ) dX3_markBegins_1 kV_X3_77 rfl t_a1 rfl rfl (by decide) ck_2 rfl (Nat.le_of_ble_eq_true rfl) ⟨(Nat.le_of_ble_eq_true rfl), (Nat.le_of_ble_eq_true rfl)⟩ hph hph (show 0 + 0 = 0 from rfl) (by decide) (fun rh1 Lh1 clh1 lnh1 ivh1 rvh1 h1 => ?_)
  obtain ⟨rfl, rfl, rfl, rfl, rfl, fl1, W1, exf1⟩ := h1
  have F1 := hF0.call hX0 fl1 rfl
  refine c_st (st2 := []) rfl ?_
  have ri1 : 0 ≤ ivh1 a1 2 ∧ ivh1 a1 2 ≤ 6003 := W1.int t_a1 2
  have gf1 : ivh1 a1 2 = 0 := exf1
  refine c_aload_n (j := 0) (x := a0) C dX3_markBegins_4 rfl ?_
  have ri2 : 0 ≤ ivh1 a0 2 ∧ ivh1 a0 2 ≤ 6003 := W1.int t_a0 2
  have ie2 : ivh1 a0 2 = iv a0 2 := fl1.i t_a0 rfl 2
  refine d_callV (As := []) (rest := []) C hM (C_size_25 (a0 := a0) W1 hS t_a0  ) dX3_markBegins_5 kV_X3_78 rfl t_a0 rfl rfl (by decide) ck_0 rfl (Nat.le_of_ble_eq_true rfl) ⟨(Nat.le_of_ble_eq_true rfl), (Nat.le_of_ble_eq_true rfl)⟩ hph hph (show 0 + 0 = 0 from rfl) (by decide) (fun rh2 Lh2 clh2 lnh2 ivh2 rvh2 h2 => ?_)
  obtain ⟨f2, rfl, rfl, rfl, rfl, rfl, rfl, rgf2, exf2⟩ := h2
  refine c_st (st2 := [.int (iI f2)]) rfl ?_
  have gf2 : f2 = ivh1 a0 2 := exf2
  refine c_istore_n (lv2 := [(2, .int (iI f2)), (0, .ref a0), (1, .ref a1)]) C dX3_markBegins_8 (by decide) rfl ?_
  refine c_iconst C dX3_markBegins_9 ?_
  refine c_istore_n (lv2 := [(3, .int (iI 0)), (2, .int (iI f2)), (0, .ref a0), (1, .ref a1)]) C dX3_markBegins_10 (by decide) rfl ?_
  have Lp1 : ∀ (nn : Nat) (k : Int) (Lb1 : List Nat) (clb1 lnb1 : Nat → Nat) (ivb1 : Nat → Nat → Int) (rvb1 : Nat → Nat → Option Nat) , 6004 - k < (nn : Int) → XT L cl ln Lb1 clb1 lnb1 → WT (g0 G) sk Lb1 clb1 lnb1 ivb1 rvb1 → fT [7, 37] L cl iv rv ivb1 rvb1 → (0 ≤ k ∧ k ≤ 6003) → cw p l e 3 ((PHM) + 0 - ((Phi (g0 G) sk) ln rv)) s m args below meth c G A 5 (MQ below (Qu G A (Qp G (Phi (g0 G) sk) ((Phi (g0 G) sk) ln rv) 0 (fun v L2 cl2 ln2 iv2 rv2 => v = none ∧ XT L cl ln L2 cl2 ln2 ∧ fT [7, 37] L cl iv rv iv2 rv2 ∧ WT (g0 G) sk L2 cl2 ln2 iv2 rv2 ∧ (True)))) args s (((PHM) + 0 - ((Phi (g0 G) sk) ln rv)) / 16) ((PHM) + 0 - ((Phi (g0 G) sk) ln rv)) A) (Phi (g0 G) sk) ((Phi (g0 G) sk) ln rv) Lb1 clb1 lnb1 ivb1 rvb1 0 11 [(3, .int (iI k)), (2, .int (iI f2)), (0, .ref a0), (1, .ref a1)] [] := by
    intro nn
    induction nn with
    | zero =>
      intro  k Lb1 clb1 lnb1 ivb1 rvb1 hm Xb1 Wb1 Fb1  hk
      have skb1 := Xb1.skl hS
      exact absurd hm (by omega)
    | succ nn ih1 =>
      intro  k Lb1 clb1 lnb1 ivb1 rvb1 hm Xb1 Wb1 Fb1  hk
      have skb1 := Xb1.skl hS
      refine c_iload_n (j := 0) C dX3_markBegins_11 rfl ?_
      refine c_iload_n (j := 1) C dX3_markBegins_12 rfl ?_
      refine c_icmp_ge (tgt := 56) C ⟨by omega, by omega⟩ ⟨by omega, by omega⟩ dX3_markBegins_13 (by decide) (fun c1 => ?_) (fun c1 => ?_)
      · have pl1 := Phi.le Wb1 skb1
        exact c_vret C dX3_markBegins_56 rfl (by decide) (rom0 hph pl1 (by decide)) ⟨rfl, Xb1, Fb1, Wb1, trivial⟩
      · refine c_aload_n (j := 2) (x := a0) C dX3_markBegins_16 rfl ?_
        refine c_iload_n (j := 0) C dX3_markBegins_17 rfl ?_
        have ty1 := Xb1.ty t_a0
        have ri3 : 0 ≤ ivb1 a0 2 ∧ ivb1 a0 2 ≤ 6003 := Wb1.int ty1 2
        have ie3 : ivb1 a0 2 = iv a0 2 := Fb1.i t_a0 rfl 2
        have pl2 := Phi.le Wb1 skb1
        refine d_callV (As := [.int (iI k)]) (rest := []) C hM (C_get_25 (a0 := a0) (i := k) Wb1 skb1 ty1 (by omega) (by show 0 ≤ k ∧ k < ivb1 a0 2; omega)) dX3_markBegins_18 kV_X3_82 rfl ty1 rfl rfl (by decide) ck_0 rfl (Nat.le_of_ble_eq_true rfl) ⟨(Nat.le_of_ble_eq_true rfl), (Nat.le_of_ble_eq_true rfl)⟩ hph pl2 (show 0 + 0 = 0 from rfl) (by decide) (fun rh3 Lh3 clh3 lnh3 ivh3 rvh3 h3 => ?_)
        obtain ⟨f3, rfl, rfl, rfl, rfl, rfl, rfl, rgf3, exf3⟩ := h3
        refine c_st (st2 := [.ref f3]) rfl ?_
        have gf3 : el rvb1 a0 k.toNat = some f3 := exf3
        refine c_cast C ck_6 dX3_markBegins_21 w5_63 w8_169t rgf3 rfl rfl (by decide) ?_
        refine c_astore (lv2 := [(4, .ref f3), (3, .int (iI k)), (2, .int (iI f2)), (0, .ref a0), (1, .ref a1)]) C dX3_markBegins_24 (by decide) rfl ?_
        refine c_aload_n (j := 4) (x := a1) C dX3_markBegins_26 rfl ?_
        refine c_aload (j := 0) (x := f3) C dX3_markBegins_27 rfl ?_
        obtain ⟨rb1, rq1, trb1⟩ := Wb1.ref rgf3 2 rfl rfl rfl
        have lnrb1 : 1 ≤ lnb1 rb1 ∧ lnb1 rb1 ≤ 4 := Wb1.len trb1 rfl
        refine c_getr (k := 2) C ck_6 dX3_markBegins_29 w3_143 (by decide) rgf3 rfl rfl (by decide) rfl rq1 ?_
        refine c_st (st2 := [.ref rb1, .ref a1]) rfl ?_
        have ll1 : 1 ≤ lnb1 rb1 ∧ lnb1 rb1 ≤ 4 := Wb1.len trb1 rfl
        refine c_alenI C dX3_markBegins_32 trb1 rfl ?_
        refine c_if_le (tgt := 46) C ⟨by omega, by omega⟩ dX3_markBegins_33 (by decide) (fun c2 => ?_) (fun c2 => ?_)
        · refine c_iconst C dX3_markBegins_46 ?_
          have ty2 := Xb1.ty t_a1
          have ri4 : 0 ≤ ivb1 a1 2 ∧ ivb1 a1 2 ≤ 6003 := Wb1.int ty2 2
          refine d_callV (As := [.int (iI 0)]) (rest := []) C hM (C_add_7 (a0 := a1) (x := 0) Wb1 skb1 ty2 ⟨by decide, by decide⟩ ) dX3_markBegins_47 kV_X3_91 rfl ty2 rfl rfl (by decide) ck_2 rfl (Nat.le_of_ble_eq_true rfl) ⟨(Nat.le_of_ble_eq_true rfl), (Nat.le_of_ble_eq_true rfl)⟩ hph pl2 (show 0 + 0 = 0 from rfl) (by decide) (fun rh4 Lh4 clh4 lnh4 ivh4 rvh4 h4 => ?_)
          obtain ⟨rfl, xl4, fl4, W4, exf4⟩ := h4
          have F2 := Fb1.call Xb1 fl4 rfl
          have X1 := Xb1.trans xl4
          have sk1 := xl4.skl skb1
          refine c_st (st2 := []) rfl ?_
          have ty3 := xl4.ty ty2
          have ri5 : 0 ≤ ivh4 a1 2 ∧ ivh4 a1 2 ≤ 6003 := W4.int ty3 2
          have gf4 : ((ivh4 a1 2 = ivb1 a1 2 ∧ ivb1 a1 2 = 6003) ∨ (ivh4 a1 2 = ivb1 a1 2 + 1 ∧ ivb1 a1 2 < 6003)) := exf4
          refine c_iinc (z := k) (j := 1) (lv2 := [(3, .int (iI (k + 1))), (4, .ref f3), (2, .int (iI f2)), (0, .ref a0), (1, .ref a1)]) C dX3_markBegins_50 rfl (by decide) rfl ?_
          refine c_goto (tgt := 11) C dX3_markBegins_53 (by decide) ?_
          refine c_lv (lv2 := [(3, .int (iI (k + 1))), (2, .int (iI f2)), (0, .ref a0), (1, .ref a1)]) [0, 2, 3, 4] rfl ?_
          exact ih1  (k + 1) _ _ _ _ _ (by omega) X1 W4 F2  (by omega)
        · refine c_aload (j := 0) (x := f3) C dX3_markBegins_36 rfl ?_
          refine c_getr (k := 2) C ck_6 dX3_markBegins_38 w3_143 (by decide) rgf3 rfl rfl (by decide) rfl rq1 ?_
          refine c_st (st2 := [.ref rb1, .ref a1]) rfl ?_
          refine c_iconst C dX3_markBegins_41 ?_
          refine c_iald C dX3_markBegins_42 trb1 rfl (by omega) (by omega) (by omega) ?_
          have ri6 : (-2147483648) ≤ ivb1 rb1 ((0 : Int).toNat) ∧ ivb1 rb1 ((0 : Int).toNat) ≤ 2147483647 := Wb1.int trb1 ((0 : Int).toNat)
          refine c_goto (tgt := 47) C dX3_markBegins_43 (by decide) ?_
          have ty4 := Xb1.ty t_a1
          have ri7 : 0 ≤ ivb1 a1 2 ∧ ivb1 a1 2 ≤ 6003 := Wb1.int ty4 2
          refine d_callV (As := [.int (iI (ivb1 rb1 (0 : Int).toNat))]) (rest := []) C hM (C_add_7 (a0 := a1) (x := ivb1 rb1 (0 : Int).toNat) Wb1 skb1 ty4 (by omega) ) dX3_markBegins_47 kV_X3_91 rfl ty4 rfl rfl (by decide) ck_2 rfl (Nat.le_of_ble_eq_true rfl) ⟨(Nat.le_of_ble_eq_true rfl), (Nat.le_of_ble_eq_true rfl)⟩ hph pl2 (show 0 + 0 = 0 from rfl) (by decide) (fun rh5 Lh5 clh5 lnh5 ivh5 rvh5 h5 => ?_)
          obtain ⟨rfl, xl5, fl5, W5, exf5⟩ := h5
          have F3 := Fb1.call Xb1 fl5 rfl
          have X2 := Xb1.trans xl5
          have sk2 := xl5.skl skb1
          refine c_st (st2 := []) rfl ?_
          have ty5 := xl5.ty ty4
          have ri8 : 0 ≤ ivh5 a1 2 ∧ ivh5 a1 2 ≤ 6003 := W5.int ty5 2
          have gf5 : ((ivh5 a1 2 = ivb1 a1 2 ∧ ivb1 a1 2 = 6003) ∨ (ivh5 a1 2 = ivb1 a1 2 + 1 ∧ ivb1 a1 2 < 6003)) := exf5
          refine c_iinc (z := k) (j := 1) (lv2 := [(3, .int (iI (k + 1))), (4, .ref f3), (2, .int (iI f2)), (0, .ref a0), (1, .ref a1)]) C dX3_markBegins_50 rfl (by decide) rfl ?_
          refine c_goto (tgt := 11) C dX3_markBegins_53 (by decide) ?_
          refine c_lv (lv2 := [(3, .int (iI (k + 1))), (2, .int (iI f2)), (0, .ref a0), (1, .ref a1)]) [0, 2, 3, 4] rfl ?_
          exact ih1  (k + 1) _ _ _ _ _ (by omega) X2 W5 F3  (by omega)
  refine c_lv (lv2 := [(3, .int (iI 0)), (2, .int (iI f2)), (0, .ref a0), (1, .ref a1)]) [0, 1, 2, 3] rfl ?_
  exact Lp1 6006 0 _ _ _ _ _ (by omega) hX0 W1 F1  (by omega)
set_option maxHeartbeats 4000000 in
set_option maxRecDepth 100000 in
theorem C_gatherPart_25 {l : Launch} {G : GT} {mi : Nat} {sk : Nat → Nat} {L : List Nat} {cl ln : Nat → Nat} {iv : Nat → Nat → Int} {rv : Nat → Nat → Option Nat}  {a0 : Nat} {r : Option Nat} (hW : WT (g0 G) sk L cl ln iv rv) (hS : SKL sk L cl) (t_a0 : ty L cl a0 25) (t_r : ∀ b, r = some b → ty L cl b 100) (hn : iv a0 2 = 0) : Mc l G mi (Phi (g0 G) sk) PHM yX3_gatherPart cX3_gatherPart 4 none 8 [.ref a0, va_rf r] L cl ln iv rv 0 (fun v L2 cl2 ln2 iv2 rv2 => v = none ∧ XT L cl ln L2 cl2 ln2 ∧ fT [25, 1003] L cl iv rv iv2 rv2 ∧ WT (g0 G) sk L2 cl2 ln2 iv2 rv2 ∧ (iv2 a0 2 ≤ 6002)) := by
  refine Mc.mk (by decide) (by cases r <;> exact Nat.le_of_ble_eq_true rfl) ?_
  intro p e s m args below meth c A C hM
  have hph := Phi.le hW hS
  refine c_lveq (show lv_args 0 [.ref a0, va_rf r] = [(0, .ref a0), (1, (va_rf r))] from by cases r <;> rfl) ?_
  have hX0 : XT L cl ln L cl ln := XT.refl
  have hF0 : fT [25, 1003] L cl iv rv iv rv := fT.refl
  refine c_aloadr_n (j := 1) (r := r) C dX3_gatherPart_0 rfl ?_
  refine c_ifnonnull (r := r) (tgt := 5) C dX3_gatherPart_1 (by decide) (fun ob1 oq1 => ?_) (fun oq1 => ?_)
  · subst oq1
    have tob1 := t_r ob1 rfl
    refine c_lv (lv2 := [(0, .ref a0), (1, .ref ob1)]) [0, 1] rfl ?_
    refine c_st (st2 := []) rfl ?_
    refine c_aload_n (j := 1) (x := ob1) C dX3_gatherPart_5 rfl ?_
    refine c_astore_n (lv2 := [(2, .ref ob1), (0, .ref a0), (1, .ref ob1)]) C dX3_gatherPart_6 (by decide) rfl ?_
    have Lp1 : ∀ (nn : Nat) (tq : Option Nat) (rk : Int) (Lb1 : List Nat) (clb1 lnb1 : Nat → Nat) (ivb1 : Nat → Nat → Int) (rvb1 : Nat → Nat → Option Nat) , rk - 99 < (nn : Int) → XT L cl ln Lb1 clb1 lnb1 → WT (g0 G) sk Lb1 clb1 lnb1 ivb1 rvb1 → fT [25, 1003] L cl iv rv ivb1 rvb1 → (∀ b, tq = some b → ty Lb1 clb1 b 100) → (99 ≤ rk ∧ rk ≤ 129) → (ivb1 a0 2 ≤ 200 * (129 - rk)) → (∀ b, tq = some b → ((clb1 b : Nat) : Int) ≤ rk) → cw p l e 8 ((PHM) + 0 - ((Phi (g0 G) sk) ln rv)) s m args below meth c G A 4 (MQ below (Qu G A (Qp G (Phi (g0 G) sk) ((Phi (g0 G) sk) ln rv) 0 (fun v L2 cl2 ln2 iv2 rv2 => v = none ∧ XT L cl ln L2 cl2 ln2 ∧ fT [25, 1003] L cl iv rv iv2 rv2 ∧ WT (g0 G) sk L2 cl2 ln2 iv2 rv2 ∧ (iv2 a0 2 ≤ 6002)))) args s (((PHM) + 0 - ((Phi (g0 G) sk) ln rv)) / 16) ((PHM) + 0 - ((Phi (g0 G) sk) ln rv)) A) (Phi (g0 G) sk) ((Phi (g0 G) sk) ln rv) Lb1 clb1 lnb1 ivb1 rvb1 0 7 [(2, (va_rf tq)), (0, .ref a0), (1, .ref ob1)] [] := by
      intro nn
      induction nn with
      | zero =>
        intro tq rk Lb1 clb1 lnb1 ivb1 rvb1 hm Xb1 Wb1 Fb1 ty_tq h99 hsz hrk
        have skb1 := Xb1.skl hS
        exact absurd hm (by omega)
      | succ nn ih1 =>
        intro tq rk Lb1 clb1 lnb1 ivb1 rvb1 hm Xb1 Wb1 Fb1 ty_tq h99 hsz hrk
        have skb1 := Xb1.skl hS
        refine c_aloadr_n (j := 0) (r := tq) C dX3_gatherPart_7 rfl ?_
        refine c_ifnull (r := tq) (tgt := 54) C dX3_gatherPart_8 (by decide) (fun oq2 => ?_) (fun ob2 oq2 => ?_)
        · subst oq2
          refine c_lv (lv2 := [(2, .null), (0, .ref a0), (1, .ref ob1)]) [0, 1, 2] rfl ?_
          refine c_st (st2 := []) rfl ?_
          refine c_aload_n (j := 1) (x := a0) C dX3_gatherPart_54 rfl ?_
          refine c_aload_n (j := 2) (x := ob1) C dX3_gatherPart_55 rfl ?_
          have ty1 := Xb1.ty tob1
          obtain ⟨rb1, rq1, trb1⟩ := Wb1.ref ty1 6 rfl rfl rfl
          have lnrb1 : 4 ≤ lnb1 rb1 ∧ lnb1 rb1 ≤ 4 := Wb1.len trb1 rfl
          refine c_getr (k := 6) C ck_10 dX3_gatherPart_56 w2_193 (by decide) ty1 rfl rfl (by decide) rfl rq1 ?_
          refine c_st (st2 := [.ref rb1, .ref a0]) rfl ?_
          refine c_iconst C dX3_gatherPart_59 ?_
          have ll1 : 4 ≤ lnb1 rb1 ∧ lnb1 rb1 ≤ 4 := Wb1.len trb1 rfl
          rcases Wb1.opt trb1 ((0 : Int).toNat) rfl rfl with ⟨nq1, _⟩ | ⟨nb1, nq1, tnb1⟩
          · refine c_aaldR C dX3_gatherPart_60 trb1 rfl (by omega) (by omega) (by omega) nq1 ?_
            refine c_st (st2 := [.null, .ref a0]) rfl ?_
            have ty2 := Xb1.ty t_a0
            have ri1 : 0 ≤ ivb1 a0 2 ∧ ivb1 a0 2 ≤ 6003 := Wb1.int ty2 2
            have pl1 := Phi.le Wb1 skb1
            refine d_callS (As := [.ref a0, .null]) (rest := []) C hM (C_addInd_25 (a0 := a0) (r := none) Wb1 skb1 ty2 (fun _ q => by cases q)  (by show ivb1 a0 2 < 6003; omega)) dX3_gatherPart_61 kS_X3_67 rfl rfl (Nat.le_of_ble_eq_true rfl) ⟨(Nat.le_of_ble_eq_true rfl), (Nat.le_of_ble_eq_true rfl)⟩ hph pl1 (show 0 + 0 = 0 from rfl) (by decide) (fun rh1 Lh1 clh1 lnh1 ivh1 rvh1 h1 => ?_)
            obtain ⟨rfl, xl1, fl1, W1, exf1⟩ := h1
            have F1 := Fb1.call Xb1 fl1 rfl
            have X1 := Xb1.trans xl1
            have sk1 := xl1.skl skb1
            refine c_st (st2 := []) rfl ?_
            have ty3 := xl1.ty ty2
            have ri2 : 0 ≤ ivh1 a0 2 ∧ ivh1 a0 2 ≤ 6003 := W1.int ty3 2
            have gf1 : ivb1 a0 2 ≤ ivh1 a0 2 ∧ ivh1 a0 2 ≤ ivb1 a0 2 + 1 := exf1
            refine c_aload_n (j := 1) (x := a0) C dX3_gatherPart_64 rfl ?_
            refine c_aload_n (j := 2) (x := ob1) C dX3_gatherPart_65 rfl ?_
            have ty4 := xl1.ty ty1
            have re1 : rvh1 ob1 6 = rvb1 ob1 6 := (fl1.r ty1 rfl 6)
            rw [rq1] at re1
            refine c_getr (k := 6) C ck_10 dX3_gatherPart_66 w2_193 (by decide) ty4 rfl rfl (by decide) rfl re1 ?_
            refine c_st (st2 := [.ref rb1, .ref a0]) rfl ?_
            refine c_iconst C dX3_gatherPart_69 ?_
            have ty5 := xl1.ty trb1
            have ll2 : 4 ≤ lnh1 rb1 ∧ lnh1 rb1 ≤ 4 := W1.len ty5 rfl
            rcases W1.opt ty5 ((1 : Int).toNat) rfl rfl with ⟨nq2, _⟩ | ⟨nb2, nq2, tnb2⟩
            · refine c_aaldR C dX3_gatherPart_70 ty5 rfl (by omega) (by omega) (by omega) nq2 ?_
              refine c_st (st2 := [.null, .ref a0]) rfl ?_
              have pl2 := Phi.le W1 sk1
              refine d_callS (As := [.ref a0, .null]) (rest := []) C hM (C_addInd_25 (a0 := a0) (r := none) W1 sk1 ty3 (fun _ q => by cases q)  (by show ivh1 a0 2 < 6003; omega)) dX3_gatherPart_71 kS_X3_67 rfl rfl (Nat.le_of_ble_eq_true rfl) ⟨(Nat.le_of_ble_eq_true rfl), (Nat.le_of_ble_eq_true rfl)⟩ hph pl2 (show 0 + 0 = 0 from rfl) (by decide) (fun rh2 Lh2 clh2 lnh2 ivh2 rvh2 h2 => ?_)
              obtain ⟨rfl, xl2, fl2, W2, exf2⟩ := h2
              have F2 := F1.call X1 fl2 rfl
              have X2 := X1.trans xl2
              have sk2 := xl2.skl sk1
              refine c_st (st2 := []) rfl ?_
              have ty6 := xl2.ty ty3
              have ri3 : 0 ≤ ivh2 a0 2 ∧ ivh2 a0 2 ≤ 6003 := W2.int ty6 2
              have gf2 : ivh1 a0 2 ≤ ivh2 a0 2 ∧ ivh2 a0 2 ≤ ivh1 a0 2 + 1 := exf2
              have pl3 := Phi.le W2 sk2
              exact c_vret C dX3_gatherPart_74 rfl (by decide) (rom0 hph pl3 (by decide)) ⟨rfl, X2, F2, W2, (by omega)⟩
            · have tnb2 : ty Lh1 clh1 nb2 20 := tnb2
              refine c_aaldR C dX3_gatherPart_70 ty5 rfl (by omega) (by omega) (by omega) nq2 ?_
              refine c_st (st2 := [.ref nb2, .ref a0]) rfl ?_
              have pl4 := Phi.le W1 sk1
              refine d_callS (As := [.ref a0, .ref nb2]) (rest := []) C hM (C_addInd_25 (a0 := a0) (r := (some nb2)) W1 sk1 ty3 (fun _ q => by cases q; exact tnb2)  (by show ivh1 a0 2 < 6003; omega)) dX3_gatherPart_71 kS_X3_67 rfl rfl (Nat.le_of_ble_eq_true rfl) ⟨(Nat.le_of_ble_eq_true rfl), (Nat.le_of_ble_eq_true rfl)⟩ hph pl4 (show 0 + 0 = 0 from rfl) (by decide) (fun rh3 Lh3 clh3 lnh3 ivh3 rvh3 h3 => ?_)
              obtain ⟨rfl, xl3, fl3, W3, exf3⟩ := h3
              have F3 := F1.call X1 fl3 rfl
              have X3 := X1.trans xl3
              have sk3 := xl3.skl sk1
              refine c_st (st2 := []) rfl ?_
              have ty7 := xl3.ty ty3
              have ri4 : 0 ≤ ivh3 a0 2 ∧ ivh3 a0 2 ≤ 6003 := W3.int ty7 2
              have gf3 : ivh1 a0 2 ≤ ivh3 a0 2 ∧ ivh3 a0 2 ≤ ivh1 a0 2 + 1 := exf3
              have pl5 := Phi.le W3 sk3
              exact c_vret C dX3_gatherPart_74 rfl (by decide) (rom0 hph pl5 (by decide)) ⟨rfl, X3, F3, W3, (by omega)⟩
          · have tnb1 : ty Lb1 clb1 nb1 20 := tnb1
            refine c_aaldR C dX3_gatherPart_60 trb1 rfl (by omega) (by omega) (by omega) nq1 ?_
            refine c_st (st2 := [.ref nb1, .ref a0]) rfl ?_
            have ty8 := Xb1.ty t_a0
            have ri5 : 0 ≤ ivb1 a0 2 ∧ ivb1 a0 2 ≤ 6003 := Wb1.int ty8 2
            have pl6 := Phi.le Wb1 skb1
            refine d_callS (As := [.ref a0, .ref nb1]) (rest := []) C hM (C_addInd_25 (a0 := a0) (r := (some nb1)) Wb1 skb1 ty8 (fun _ q => by cases q; exact tnb1)  (by show ivb1 a0 2 < 6003; omega)) dX3_gatherPart_61 kS_X3_67 rfl rfl (Nat.le_of_ble_eq_true rfl) ⟨(Nat.le_of_ble_eq_true rfl), (Nat.le_of_ble_eq_true rfl)⟩ hph pl6 (show 0 + 0 = 0 from rfl) (by decide) (fun rh4 Lh4 clh4 lnh4 ivh4 rvh4 h4 => ?_)
            obtain ⟨rfl, xl4, fl4, W4, exf4⟩ := h4
            have F4 := Fb1.call Xb1 fl4 rfl
            have X4 := Xb1.trans xl4
            have sk4 := xl4.skl skb1
            refine c_st (st2 := []) rfl ?_
            have ty9 := xl4.ty ty8
            have ri6 : 0 ≤ ivh4 a0 2 ∧ ivh4 a0 2 ≤ 6003 := W4.int ty9 2
            have gf4 : ivb1 a0 2 ≤ ivh4 a0 2 ∧ ivh4 a0 2 ≤ ivb1 a0 2 + 1 := exf4
            refine c_aload_n (j := 1) (x := a0) C dX3_gatherPart_64 rfl ?_
            refine c_aload_n (j := 2) (x := ob1) C dX3_gatherPart_65 rfl ?_
            have ty10 := xl4.ty ty1
            have re2 : rvh4 ob1 6 = rvb1 ob1 6 := (fl4.r ty1 rfl 6)
            rw [rq1] at re2
            refine c_getr (k := 6) C ck_10 dX3_gatherPart_66 w2_193 (by decide) ty10 rfl rfl (by decide) rfl re2 ?_
            refine c_st (st2 := [.ref rb1, .ref a0]) rfl ?_
            refine c_iconst C dX3_gatherPart_69 ?_
            have ty11 := xl4.ty trb1
            have ll3 : 4 ≤ lnh4 rb1 ∧ lnh4 rb1 ≤ 4 := W4.len ty11 rfl
            rcases W4.opt ty11 ((1 : Int).toNat) rfl rfl with ⟨nq3, _⟩ | ⟨nb3, nq3, tnb3⟩
            · refine c_aaldR C dX3_gatherPart_70 ty11 rfl (by omega) (by omega) (by omega) nq3 ?_
              refine c_st (st2 := [.null, .ref a0]) rfl ?_
              have pl7 := Phi.le W4 sk4
              refine d_callS (As := [.ref a0, .null]) (rest := []) C hM (C_addInd_25 (a0 := a0) (r := none) W4 sk4 ty9 (fun _ q => by cases q)  (by show ivh4 a0 2 < 6003; omega)) dX3_gatherPart_71 kS_X3_67 rfl rfl (Nat.le_of_ble_eq_true rfl) ⟨(Nat.le_of_ble_eq_true rfl), (Nat.le_of_ble_eq_true rfl)⟩ hph pl7 (show 0 + 0 = 0 from rfl) (by decide) (fun rh5 Lh5 clh5 lnh5 ivh5 rvh5 h5 => ?_)
              obtain ⟨rfl, xl5, fl5, W5, exf5⟩ := h5
              have F5 := F4.call X4 fl5 rfl
              have ty12 := xl4.ty tnb1
              have X5 := X4.trans xl5
              have sk5 := xl5.skl sk4
              refine c_st (st2 := []) rfl ?_
              have ty13 := xl5.ty ty9
              have ri7 : 0 ≤ ivh5 a0 2 ∧ ivh5 a0 2 ≤ 6003 := W5.int ty13 2
              have gf5 : ivh4 a0 2 ≤ ivh5 a0 2 ∧ ivh5 a0 2 ≤ ivh4 a0 2 + 1 := exf5
              have pl8 := Phi.le W5 sk5
              exact c_vret C dX3_gatherPart_74 rfl (by decide) (rom0 hph pl8 (by decide)) ⟨rfl, X5, F5, W5, (by omega)⟩
            · have tnb3 : ty Lh4 clh4 nb3 20 := tnb3
              refine c_aaldR C dX3_gatherPart_70 ty11 rfl (by omega) (by omega) (by omega) nq3 ?_
              refine c_st (st2 := [.ref nb3, .ref a0]) rfl ?_
              have pl9 := Phi.le W4 sk4
              refine d_callS (As := [.ref a0, .ref nb3]) (rest := []) C hM (C_addInd_25 (a0 := a0) (r := (some nb3)) W4 sk4 ty9 (fun _ q => by cases q; exact tnb3)  (by show ivh4 a0 2 < 6003; omega)) dX3_gatherPart_71 kS_X3_67 rfl rfl (Nat.le_of_ble_eq_true rfl) ⟨(Nat.le_of_ble_eq_true rfl), (Nat.le_of_ble_eq_true rfl)⟩ hph pl9 (show 0 + 0 = 0 from rfl) (by decide) (fun rh6 Lh6 clh6 lnh6 ivh6 rvh6 h6 => ?_)
              obtain ⟨rfl, xl6, fl6, W6, exf6⟩ := h6
              have F6 := F4.call X4 fl6 rfl
              have ty14 := xl4.ty tnb1
              have X6 := X4.trans xl6
              have sk6 := xl6.skl sk4
              refine c_st (st2 := []) rfl ?_
              have ty15 := xl6.ty ty9
              have ri8 : 0 ≤ ivh6 a0 2 ∧ ivh6 a0 2 ≤ 6003 := W6.int ty15 2
              have gf6 : ivh4 a0 2 ≤ ivh6 a0 2 ∧ ivh6 a0 2 ≤ ivh4 a0 2 + 1 := exf6
              have pl10 := Phi.le W6 sk6
              exact c_vret C dX3_gatherPart_74 rfl (by decide) (rom0 hph pl10 (by decide)) ⟨rfl, X6, F6, W6, (by omega)⟩
        · subst oq2
          have tob2 := ty_tq ob2 rfl
          have hkob2 := hrk ob2 rfl
          have tgob2 := bt_100 tob2.2
          refine c_lv (lv2 := [(2, .ref ob2), (0, .ref a0), (1, .ref ob1)]) [0, 1, 2] rfl ?_
          refine c_st (st2 := []) rfl ?_
          refine c_iconst C dX3_gatherPart_11 ?_
          refine c_istore_n (lv2 := [(3, .int (iI 0)), (2, .ref ob2), (0, .ref a0), (1, .ref ob1)]) C dX3_gatherPart_12 (by decide) rfl ?_
          have Lp2 : ∀ (nn : Nat) (tr : Nat) (k : Int) (Lb2 : List Nat) (clb2 lnb2 : Nat → Nat) (ivb2 : Nat → Nat → Int) (rvb2 : Nat → Nat → Option Nat) , 201 - k < (nn : Int) → XT L cl ln Lb2 clb2 lnb2 → WT (g0 G) sk Lb2 clb2 lnb2 ivb2 rvb2 → fT [25, 1003] L cl iv rv ivb2 rvb2 → (ty Lb2 clb2 tr 100) → (0 ≤ k ∧ k ≤ 200) → (ivb2 a0 2 ≤ 200 * (129 - rk) + k) → (100 ≤ clb2 tr ∧ ((clb2 tr : Nat) : Int) ≤ rk) → cw p l e 8 ((PHM) + 0 - ((Phi (g0 G) sk) ln rv)) s m args below meth c G A 4 (MQ below (Qu G A (Qp G (Phi (g0 G) sk) ((Phi (g0 G) sk) ln rv) 0 (fun v L2 cl2 ln2 iv2 rv2 => v = none ∧ XT L cl ln L2 cl2 ln2 ∧ fT [25, 1003] L cl iv rv iv2 rv2 ∧ WT (g0 G) sk L2 cl2 ln2 iv2 rv2 ∧ (iv2 a0 2 ≤ 6002)))) args s (((PHM) + 0 - ((Phi (g0 G) sk) ln rv)) / 16) ((PHM) + 0 - ((Phi (g0 G) sk) ln rv)) A) (Phi (g0 G) sk) ((Phi (g0 G) sk) ln rv) Lb2 clb2 lnb2 ivb2 rvb2 0 13 [(2, .ref tr), (3, .int (iI k)), (0, .ref a0), (1, .ref ob1)] [] := by
            intro nn
            induction nn with
            | zero =>
              intro tr k Lb2 clb2 lnb2 ivb2 rvb2 hm Xb2 Wb2 Fb2 ty_tr hk hs2 hcr
              have skb2 := Xb2.skl hS
              exact absurd hm (by omega)
            | succ nn ih2 =>
              intro tr k Lb2 clb2 lnb2 ivb2 rvb2 hm Xb2 Wb2 Fb2 ty_tr hk hs2 hcr
              have skb2 := Xb2.skl hS
              refine c_iload_n (j := 1) C dX3_gatherPart_13 rfl ?_
              refine c_aload_n (j := 0) (x := tr) C dX3_gatherPart_14 rfl ?_
              obtain ⟨rb2, rq2, trb2⟩ := Wb2.ref ty_tr 4 rfl rfl rfl
              refine c_getr (k := 4) C ck_10 dX3_gatherPart_15 w2_187 (by decide) ty_tr rfl rfl (by decide) rfl rq2 ?_
              refine c_st (st2 := [.ref rb2, .int (iI k)]) rfl ?_
              have ri9 : 0 ≤ ivb2 rb2 2 ∧ ivb2 rb2 2 ≤ 200 := Wb2.int trb2 2
              have pl11 := Phi.le Wb2 skb2
              refine d_callV (As := []) (rest := [.int (iI k)]) C hM (C_size_26 (a0 := rb2) Wb2 skb2 trb2  ) dX3_gatherPart_18 kV_X3_78 rfl trb2 rfl rfl (by decide) ck_0 rfl (Nat.le_of_ble_eq_true rfl) ⟨(Nat.le_of_ble_eq_true rfl), (Nat.le_of_ble_eq_true rfl)⟩ hph pl11 (show 0 + 0 = 0 from rfl) (by decide) (fun rh7 Lh7 clh7 lnh7 ivh7 rvh7 h7 => ?_)
              obtain ⟨f7, rfl, rfl, rfl, rfl, rfl, rfl, rgf7, exf7⟩ := h7
              refine c_st (st2 := [.int (iI f7), .int (iI k)]) rfl ?_
              have gf7 : f7 = ivb2 rb2 2 := exf7
              refine c_icmp_ge (tgt := 46) C ⟨by omega, by omega⟩ ⟨by omega, by omega⟩ dX3_gatherPart_21 (by decide) (fun c1 => ?_) (fun c1 => ?_)
              · refine c_aload_n (j := 0) (x := tr) C dX3_gatherPart_46 rfl ?_
                rcases Wb2.opt ty_tr 2 rfl rfl with ⟨nq4, _⟩ | ⟨nb4, nq4, tnb4⟩
                · refine c_getr (k := 2) C ck_10 dX3_gatherPart_47 w2_181 (by decide) ty_tr rfl rfl (by decide) rfl nq4 ?_
                  refine c_st (st2 := [.null]) rfl ?_
                  refine c_astorer_n (r := none) (lv2 := [(2, .null), (3, .int (iI k)), (0, .ref a0), (1, .ref ob1)]) C dX3_gatherPart_50 (by decide) rfl ?_
                  refine c_goto (tgt := 7) C dX3_gatherPart_51 (by decide) ?_
                  have ty16 := Xb2.ty t_a0
                  have ri10 : 0 ≤ ivb2 a0 2 ∧ ivb2 a0 2 ≤ 6003 := Wb2.int ty16 2
                  refine c_lv (lv2 := [(2, .null), (0, .ref a0), (1, .ref ob1)]) [0, 2, 3] rfl ?_
                  exact ih1  none (rk - 1) _ _ _ _ _ (by omega) Xb2 Wb2 Fb2 (fun _ q => by cases q) (by omega) (by show ivb2 a0 2 ≤ 200 * (129 - (rk - 1)); omega) (fun _ q => by cases q)
                · have rknb4 := Wb2.rank ty_tr (k := 2) (by decide) nq4
                  refine c_getr (k := 2) C ck_10 dX3_gatherPart_47 w2_181 (by decide) ty_tr rfl rfl (by decide) rfl nq4 ?_
                  refine c_st (st2 := [.ref nb4]) rfl ?_
                  refine c_astore_n (lv2 := [(2, .ref nb4), (3, .int (iI k)), (0, .ref a0), (1, .ref ob1)]) C dX3_gatherPart_50 (by decide) rfl ?_
                  refine c_goto (tgt := 7) C dX3_gatherPart_51 (by decide) ?_
                  have ty17 := Xb2.ty t_a0
                  have ri11 : 0 ≤ ivb2 a0 2 ∧ ivb2 a0 2 ≤ 6003 := Wb2.int ty17 2
                  have trnb4 := bt_100 tnb4.2
                  refine c_lv (lv2 := [(2, .ref nb4), (0, .ref a0), (1, .ref ob1)]) [0, 2, 3] rfl ?_
                  exact ih1  (some nb4) (rk - 1) _ _ _ _ _ (by omega) Xb2 Wb2 Fb2 (fun _ q => by cases q; exact tnb4) (by omega) (by show ivb2 a0 2 ≤ 200 * (129 - (rk - 1)); omega) (fun _ q => by cases q; omega)
              · refine c_aload_n (j := 2) (x := a0) C dX3_gatherPart_24 rfl ?_
                refine c_aload_n (j := 0) (x := tr) C dX3_gatherPart_25 rfl ?_
                refine c_getr (k := 4) C ck_10 dX3_gatherPart_26 w2_187 (by decide) ty_tr rfl rfl (by decide) rfl rq2 ?_
                refine c_st (st2 := [.ref rb2, .ref a0]) rfl ?_
                refine c_iload_n (j := 1) C dX3_gatherPart_29 rfl ?_
                refine d_callV (As := [.int (iI k)]) (rest := [.ref a0]) C hM (C_get_26 (a0 := rb2) (i := k) Wb2 skb2 trb2 (by omega) (by show 0 ≤ k ∧ k < ivb2 rb2 2; omega)) dX3_gatherPart_30 kV_X3_82 rfl trb2 rfl rfl (by decide) ck_0 rfl (Nat.le_of_ble_eq_true rfl) ⟨(Nat.le_of_ble_eq_true rfl), (Nat.le_of_ble_eq_true rfl)⟩ hph pl11 (show 0 + 0 = 0 from rfl) (by decide) (fun rh8 Lh8 clh8 lnh8 ivh8 rvh8 h8 => ?_)
                obtain ⟨f8, rfl, rfl, rfl, rfl, rfl, rfl, rgf8, exf8⟩ := h8
                refine c_st (st2 := [.ref f8, .ref a0]) rfl ?_
                have gf8 : el rvb2 rb2 k.toNat = some f8 := exf8
                refine c_cast C ck_6 dX3_gatherPart_33 w5_63 w8_169t rgf8 rfl rfl (by decide) ?_
                have ty18 := Xb2.ty t_a0
                have ri12 : 0 ≤ ivb2 a0 2 ∧ ivb2 a0 2 ≤ 6003 := Wb2.int ty18 2
                refine d_callV (As := [.ref f8]) (rest := []) C hM (C_add_25 (a0 := a0) (x := f8) Wb2 skb2 ty18 rgf8  (by show ivb2 a0 2 < 6003; omega)) dX3_gatherPart_36 kV_X3_97 rfl ty18 rfl rfl (by decide) ck_0 rfl (Nat.le_of_ble_eq_true rfl) ⟨(Nat.le_of_ble_eq_true rfl), (Nat.le_of_ble_eq_true rfl)⟩ hph pl11 (show 0 + 0 = 0 from rfl) (by decide) (fun rh9 Lh9 clh9 lnh9 ivh9 rvh9 h9 => ?_)
                obtain ⟨f9, rfl, xl9, fl9, W9, rgf9, exf9⟩ := h9
                have F7 := Fb2.call Xb2 fl9 rfl
                have ty19 := Xb2.ty tob1
                have X7 := Xb2.trans xl9
                have sk7 := xl9.skl skb2
                refine c_st (st2 := [.int (iI f9)]) rfl ?_
                have ty20 := xl9.ty ty18
                have ri13 : 0 ≤ ivh9 a0 2 ∧ ivh9 a0 2 ≤ 6003 := W9.int ty20 2
                have gf9 : ivh9 a0 2 = ivb2 a0 2 + 1 ∧ el rvh9 a0 (ivb2 a0 2).toNat = some f8 ∧ ∀ i : Nat, (i : Int) < ivb2 a0 2 → el rvh9 a0 i = el rvb2 a0 i := exf9
                refine c_pop C dX3_gatherPart_39 rfl ?_
                refine c_iinc (z := k) (j := 1) (lv2 := [(3, .int (iI (k + 1))), (2, .ref tr), (0, .ref a0), (1, .ref ob1)]) C dX3_gatherPart_40 rfl (by decide) rfl ?_
                refine c_goto (tgt := 13) C dX3_gatherPart_43 (by decide) ?_
                have ty21 := xl9.ty ty_tr
                have ce1 : clh9 tr = clb2 tr := (xl9 tr ty_tr.1).2.1
                refine c_lv (lv2 := [(2, .ref tr), (3, .int (iI (k + 1))), (0, .ref a0), (1, .ref ob1)]) [1, 0, 2, 3] rfl ?_
                exact ih2  tr (k + 1) _ _ _ _ _ (by omega) X7 W9 F7 ty21 (by omega) (by show ivh9 a0 2 ≤ 200 * (129 - rk) + (k + 1); omega) (by show 100 ≤ clh9 tr ∧ ((clh9 tr : Nat) : Int) ≤ rk; omega)
          have ty22 := Xb1.ty t_a0
          have ri14 : 0 ≤ ivb1 a0 2 ∧ ivb1 a0 2 ≤ 6003 := Wb1.int ty22 2
          refine c_lv (lv2 := [(2, .ref ob2), (3, .int (iI 0)), (0, .ref a0), (1, .ref ob1)]) [1, 0, 2, 3] rfl ?_
          exact Lp2 203 ob2 0 _ _ _ _ _ (by omega) Xb1 Wb1 Fb1 tob2 (by omega) (by show ivb1 a0 2 ≤ 200 * (129 - rk) + 0; omega) (by show 100 ≤ clb1 ob2 ∧ ((clb1 ob2 : Nat) : Int) ≤ rk; omega)
    have ri15 : 0 ≤ iv a0 2 ∧ iv a0 2 ≤ 6003 := hW.int t_a0 2
    have trob1 := bt_100 tob1.2
    refine c_lv (lv2 := [(2, .ref ob1), (0, .ref a0), (1, .ref ob1)]) [0, 1, 2] rfl ?_
    exact Lp1 31 (some ob1) 129 _ _ _ _ _ (by omega) hX0 hW hF0 (fun _ q => by cases q; exact tob1) (by omega) (by show iv a0 2 ≤ 200 * (129 - 129); omega) (fun _ q => by cases q; omega)
  · subst oq1
    refine c_lv (lv2 := [(0, .ref a0), (1, .null)]) [0, 1] rfl ?_
    refine c_st (st2 := []) rfl ?_
    have ri16 : 0 ≤ iv a0 2 ∧ iv a0 2 ≤ 6003 := hW.int t_a0 2
    exact c_vret C dX3_gatherPart_4 rfl (by decide) (rom0 hph hph (by decide)) ⟨rfl, hX0, hF0, hW, (by omega)⟩
