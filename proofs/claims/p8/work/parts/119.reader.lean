set_option maxHeartbeats 4000000 in
set_option maxRecDepth 100000 in
theorem C_rowsOf {l : Launch} {G : GT} {mi : Nat} {sk : Nat → Nat} {L : List Nat} {cl ln : Nat → Nat} {iv : Nat → Nat → Int} {rv : Nat → Nat → Option Nat}  {a0 : Nat} {g : Int} (hW : WT (g0 G) sk L cl ln iv rv) (hS : SKL sk L cl) (t_a0 : ty L cl a0 16) (h_g : -2147483648 ≤ g ∧ g ≤ 2147483647)  : Mc l G mi (Phi (g0 G) sk) PHM yX3_rowsOf cX3_rowsOf 2 (some (.object "java/util/ArrayList")) 0 [.ref a0, .int (iI g)] L cl ln iv rv 0 (fun v L2 cl2 ln2 iv2 rv2 => ∃ f : Nat, v = some (.ref f) ∧ L = L2 ∧ cl = cl2 ∧ ln = ln2 ∧ iv = iv2 ∧ rv = rv2 ∧ True ∧ ((g = 0 ∧ f = sk 24) ∨ (g ≠ 0 ∧ f = sk 25))) := by
  refine Mc.mk (by decide) (Nat.le_of_ble_eq_true rfl) ?_
  intro p e s m args below meth c A C hM
  have hph := Phi.le hW hS
  have tsk6 : ty L cl (sk 6) 6 := ⟨(hS 6 rfl).1, by rw [(hS 6 rfl).2]; rfl⟩
  have tsk7 : ty L cl (sk 7) 7 := ⟨(hS 7 rfl).1, by rw [(hS 7 rfl).2]; rfl⟩
  have tsk8 : ty L cl (sk 8) 8 := ⟨(hS 8 rfl).1, by rw [(hS 8 rfl).2]; rfl⟩
  have tsk9 : ty L cl (sk 9) 9 := ⟨(hS 9 rfl).1, by rw [(hS 9 rfl).2]; rfl⟩
  have tsk10 : ty L cl (sk 10) 10 := ⟨(hS 10 rfl).1, by rw [(hS 10 rfl).2]; rfl⟩
  have tsk24 : ty L cl (sk 24) 24 := ⟨(hS 24 rfl).1, by rw [(hS 24 rfl).2]; rfl⟩
  have tsk25 : ty L cl (sk 25) 25 := ⟨(hS 25 rfl).1, by rw [(hS 25 rfl).2]; rfl⟩
  have hX0 : XT L cl ln L cl ln := XT.refl
  have hF0 : fT [] L cl iv rv iv rv := fT.refl
  refine c_iload_n (j := 1) C dX3_rowsOf_0 rfl ?_
  refine c_if_eq (tgt := 11) C ⟨by omega, by omega⟩ dX3_rowsOf_1 (by decide) (fun c1 => ?_) (fun c1 => ?_)
  · refine c_aload_n (j := 0) (x := a0) C dX3_rowsOf_11 rfl ?_
    obtain ⟨rb1, rq1, trb1⟩ := hW.ref t_a0 0 rfl rfl rfl
    have erb1 := hW.sk trb1 (by decide) rfl
    subst erb1
    refine c_getr (k := 0) C ck_4 dX3_rowsOf_12 w1_190 (by decide) t_a0 rfl rfl (by decide) rfl rq1 ?_
    refine c_st (st2 := [.ref (sk 24)]) rfl ?_
    exact c_aret (x := some (sk 24)) C dX3_rowsOf_15 rfl (Or.inl ⟨_, rfl⟩) (by decide) (rom0 hph hph (by decide)) ⟨(sk 24), rfl, rfl, rfl, rfl, rfl, rfl, trivial, (Or.inl ⟨by omega, rfl⟩)⟩
  · refine c_aload_n (j := 0) (x := a0) C dX3_rowsOf_4 rfl ?_
    obtain ⟨rb2, rq2, trb2⟩ := hW.ref t_a0 1 rfl rfl rfl
    have erb2 := hW.sk trb2 (by decide) rfl
    subst erb2
    refine c_getr (k := 1) C ck_4 dX3_rowsOf_5 w1_193 (by decide) t_a0 rfl rfl (by decide) rfl rq2 ?_
    refine c_st (st2 := [.ref (sk 25)]) rfl ?_
    refine c_goto (tgt := 15) C dX3_rowsOf_8 (by decide) ?_
    exact c_aret (x := some (sk 25)) C dX3_rowsOf_15 rfl (Or.inl ⟨_, rfl⟩) (by decide) (rom0 hph hph (by decide)) ⟨(sk 25), rfl, rfl, rfl, rfl, rfl, rfl, trivial, (Or.inr ⟨by omega, rfl⟩)⟩
set_option maxHeartbeats 4000000 in
set_option maxRecDepth 100000 in
theorem C_addInd_24 {l : Launch} {G : GT} {mi : Nat} {sk : Nat → Nat} {L : List Nat} {cl ln : Nat → Nat} {iv : Nat → Nat → Int} {rv : Nat → Nat → Option Nat}  {a0 : Nat} {r : Option Nat} (hW : WT (g0 G) sk L cl ln iv rv) (hS : SKL sk L cl) (t_a0 : ty L cl a0 24) (t_r : ∀ b, r = some b → ty L cl b 20) (hn : iv a0 2 < 6003) : Mc l G mi (Phi (g0 G) sk) PHM yX3_addIndicator cX3_addIndicator 2 none 7 [.ref a0, va_rf r] L cl ln iv rv 0 (fun v L2 cl2 ln2 iv2 rv2 => v = none ∧ XT L cl ln L2 cl2 ln2 ∧ fT [24, 1002] L cl iv rv iv2 rv2 ∧ WT (g0 G) sk L2 cl2 ln2 iv2 rv2 ∧ (iv a0 2 ≤ iv2 a0 2 ∧ iv2 a0 2 ≤ iv a0 2 + 1)) := by
  refine Mc.mk (by decide) (by cases r <;> exact Nat.le_of_ble_eq_true rfl) ?_
  intro p e s m args below meth c A C hM
  have hph := Phi.le hW hS
  refine c_lveq (show lv_args 0 [.ref a0, va_rf r] = [(0, .ref a0), (1, (va_rf r))] from by cases r <;> rfl) ?_
  have hb0 : 0 ≤ iv a0 2 := (hW.int t_a0 2).1
  have hX0 : XT L cl ln L cl ln := XT.refl
  have hF0 : fT [24, 1002] L cl iv rv iv rv := fT.refl
  refine c_aloadr_n (j := 1) (r := r) C dX3_addIndicator_0 rfl ?_
  refine c_ifnull (r := r) (tgt := 10) C dX3_addIndicator_1 (by decide) (fun oq1 => ?_) (fun ob1 oq1 => ?_)
  · subst oq1
    refine c_lv (lv2 := [(0, .ref a0), (1, .null)]) [0, 1] rfl ?_
    refine c_st (st2 := []) rfl ?_
    have ri1 : 0 ≤ iv a0 2 ∧ iv a0 2 ≤ 6003 := hW.int t_a0 2
    exact c_vret C dX3_addIndicator_10 rfl (by decide) (rom0 hph hph (by decide)) ⟨rfl, hX0, hF0, hW, (by omega)⟩
  · subst oq1
    have tob1 := t_r ob1 rfl
    refine c_lv (lv2 := [(0, .ref a0), (1, .ref ob1)]) [0, 1] rfl ?_
    refine c_st (st2 := []) rfl ?_
    refine c_aload_n (j := 0) (x := a0) C dX3_addIndicator_4 rfl ?_
    refine c_aload_n (j := 1) (x := ob1) C dX3_addIndicator_5 rfl ?_
    have ri2 : 0 ≤ iv a0 2 ∧ iv a0 2 ≤ 6003 := hW.int t_a0 2
    refine d_callV (As := [.ref ob1]) (rest := []) C hM (C_add_24 (a0 := a0) (x := ob1) hW hS t_a0 tob1  (by show iv a0 2 < 6003; omega)) dX3_addIndicator_6 kV_X3_97 rfl t_a0 rfl rfl (by decide) ck_0 rfl (Nat.le_of_ble_eq_true rfl) ⟨(Nat.le_of_ble_eq_true rfl), (Nat.le_of_ble_eq_true rfl)⟩ hph hph (show 0 + 0 = 0 from rfl) (by decide) (fun rh1 Lh1 clh1 lnh1 ivh1 rvh1 h1 => ?_)
    obtain ⟨f1, rfl, xl1, fl1, W1, rgf1, exf1⟩ := h1
    have F1 := hF0.call hX0 fl1 rfl
    have X1 := hX0.trans xl1
    have sk1 := xl1.skl hS
    refine c_st (st2 := [.int (iI f1)]) rfl ?_
    have ty1 := xl1.ty t_a0
    have ri3 : 0 ≤ ivh1 a0 2 ∧ ivh1 a0 2 ≤ 6003 := W1.int ty1 2
    have gf1 : ivh1 a0 2 = iv a0 2 + 1 ∧ el rvh1 a0 (iv a0 2).toNat = some ob1 ∧ ∀ i : Nat, (i : Int) < iv a0 2 → el rvh1 a0 i = el rv a0 i := exf1
    refine c_pop C dX3_addIndicator_9 rfl ?_
    have pl1 := Phi.le W1 sk1
    exact c_vret C dX3_addIndicator_10 rfl (by decide) (rom0 hph pl1 (by decide)) ⟨rfl, X1, F1, W1, (by omega)⟩
set_option maxHeartbeats 4000000 in
set_option maxRecDepth 100000 in
theorem C_markBegins_24 {l : Launch} {G : GT} {mi : Nat} {sk : Nat → Nat} {L : List Nat} {cl ln : Nat → Nat} {iv : Nat → Nat → Int} {rv : Nat → Nat → Option Nat}  {a0 : Nat} {a1 : Nat} (hW : WT (g0 G) sk L cl ln iv rv) (hS : SKL sk L cl) (t_a0 : ty L cl a0 24) (t_a1 : ty L cl a1 6)  : Mc l G mi (Phi (g0 G) sk) PHM yX3_markBegins cX3_markBegins 5 none 3 [.ref a0, .ref a1] L cl ln iv rv 0 (fun v L2 cl2 ln2 iv2 rv2 => v = none ∧ XT L cl ln L2 cl2 ln2 ∧ fT [6, 36] L cl iv rv iv2 rv2 ∧ WT (g0 G) sk L2 cl2 ln2 iv2 rv2 ∧ (True)) := by
  refine Mc.mk (by decide) (Nat.le_of_ble_eq_true rfl) ?_
  intro p e s m args below meth c A C hM
  have hph := Phi.le hW hS
  have hX0 : XT L cl ln L cl ln := XT.refl
  have hF0 : fT [6, 36] L cl iv rv iv rv := fT.refl
  refine c_aload_n (j := 1) (x := a1) C dX3_markBegins_0 rfl ?_
  refine d_callV (As := []) (rest := []) C hM (C_clear_6 (a0 := a1) hW hS t_a1  ) dX3_markBegins_1 kV_X3_77 rfl t_a1 rfl rfl (by decide) ck_2 rfl (Nat.le_of_ble_eq_true rfl) ⟨(Nat.le_of_ble_eq_true rfl), (Nat.le_of_ble_eq_true rfl)⟩ hph hph (show 0 + 0 = 0 from rfl) (by decide) (fun rh1 Lh1 clh1 lnh1 ivh1 rvh1 h1 => ?_)
  obtain ⟨rfl, rfl, rfl, rfl, rfl, fl1, W1, exf1⟩ := h1
  have F1 := hF0.call hX0 fl1 rfl
  refine c_st (st2 := []) rfl ?_
  have ri1 : 0 ≤ ivh1 a1 2 ∧ ivh1 a1 2 ≤ 6003 := W1.int t_a1 2
  have gf1 : ivh1 a1 2 = 0 := exf1
  refine c_aload_n (j := 0) (x := a0) C dX3_markBegins_4 rfl ?_
  have ri2 : 0 ≤ ivh1 a0 2 ∧ ivh1 a0 2 ≤ 6003 := W1.int t_a0 2
  have ie2 : ivh1 a0 2 = iv a0 2 := fl1.i t_a0 rfl 2
  refine d_callV (As := []) (rest := []) C hM (C_size_24 (a0 := a0) W1 hS t_a0  ) dX3_markBegins_5 kV_X3_78 rfl t_a0 rfl rfl (by decide) ck_0 rfl (Nat.le_of_ble_eq_true rfl) ⟨(Nat.le_of_ble_eq_true rfl), (Nat.le_of_ble_eq_true rfl)⟩ hph hph (show 0 + 0 = 0 from rfl) (by decide) (fun rh2 Lh2 clh2 lnh2 ivh2 rvh2 h2 => ?_)
  obtain ⟨f2, rfl, rfl, rfl, rfl, rfl, rfl, rgf2, exf2⟩ := h2
  refine c_st (st2 := [.int (iI f2)]) rfl ?_
  have gf2 : f2 = ivh1 a0 2 := exf2
  refine c_istore_n (lv2 := [(2, .int (iI f2)), (0, .ref a0), (1, .ref a1)]) C dX3_markBegins_8 (by decide) rfl ?_
  refine c_iconst C dX3_markBegins_9 ?_
  refine c_istore_n (lv2 := [(3, .int (iI 0)), (2, .int (iI f2)), (0, .ref a0), (1, .ref a1)]) C dX3_markBegins_10 (by decide) rfl ?_
  have Lp1 : ∀ (nn : Nat) (k : Int) (Lb1 : List Nat) (clb1 lnb1 : Nat → Nat) (ivb1 : Nat → Nat → Int) (rvb1 : Nat → Nat → Option Nat) , 6004 - k < (nn : Int) → XT L cl ln Lb1 clb1 lnb1 → WT (g0 G) sk Lb1 clb1 lnb1 ivb1 rvb1 → fT [6, 36] L cl iv rv ivb1 rvb1 → (0 ≤ k ∧ k ≤ 6003) → cw p l e 3 ((PHM) + 0 - ((Phi (g0 G) sk) ln rv)) s m args below meth c G A 5 (MQ below (Qu G A (Qp G (Phi (g0 G) sk) ((Phi (g0 G) sk) ln rv) 0 (fun v L2 cl2 ln2 iv2 rv2 => v = none ∧ XT L cl ln L2 cl2 ln2 ∧ fT [6, 36] L cl iv rv iv2 rv2 ∧ WT (g0 G) sk L2 cl2 ln2 iv2 rv2 ∧ (True)))) args s (((PHM) + 0 - ((Phi (g0 G) sk) ln rv)) / 16) ((PHM) + 0 - ((Phi (g0 G) sk) ln rv)) A) (Phi (g0 G) sk) ((Phi (g0 G) sk) ln rv) Lb1 clb1 lnb1 ivb1 rvb1 0 11 [(3, .int (iI k)), (2, .int (iI f2)), (0, .ref a0), (1, .ref a1)] [] := by
    intro nn
    induction nn with
    | zero =>
      intro  k Lb1 clb1 lnb1 ivb1 rvb1 hm Xb1 Wb1 Fb1  hk
      have skb1 := Xb1.skl hS
      exact absurd hm (by omega)
    | succ nn ih1 =>
      intro  k Lb1 clb1 lnb1 ivb1 rvb1 hm Xb1 Wb1 Fb1  hk
      have skb1 := Xb1.skl hS
      refine c_iload_n (j := 0) C dX3_markBegins_11 rfl ?_
      refine c_iload_n (j := 1) C dX3_markBegins_12 rfl ?_
      refine c_icmp_ge (tgt := 56) C ⟨by omega, by omega⟩ ⟨by omega, by omega⟩ dX3_markBegins_13 (by decide) (fun c1 => ?_) (fun c1 => ?_)
      · have pl1 := Phi.le Wb1 skb1
        exact c_vret C dX3_markBegins_56 rfl (by decide) (rom0 hph pl1 (by decide)) ⟨rfl, Xb1, Fb1, Wb1, trivial⟩
      · refine c_aload_n (j := 2) (x := a0) C dX3_markBegins_16 rfl ?_
        refine c_iload_n (j := 0) C dX3_markBegins_17 rfl ?_
        have ty1 := Xb1.ty t_a0
        have ri3 : 0 ≤ ivb1 a0 2 ∧ ivb1 a0 2 ≤ 6003 := Wb1.int ty1 2
        have ie3 : ivb1 a0 2 = iv a0 2 := Fb1.i t_a0 rfl 2
        have pl2 := Phi.le Wb1 skb1
        refine d_callV (As := [.int (iI k)]) (rest := []) C hM (C_get_24 (a0 := a0) (i := k) Wb1 skb1 ty1 (by omega) (by show 0 ≤ k ∧ k < ivb1 a0 2; omega)) dX3_markBegins_18 kV_X3_82 rfl ty1 rfl rfl (by decide) ck_0 rfl (Nat.le_of_ble_eq_true rfl) ⟨(Nat.le_of_ble_eq_true rfl), (Nat.le_of_ble_eq_true rfl)⟩ hph pl2 (show 0 + 0 = 0 from rfl) (by decide) (fun rh3 Lh3 clh3 lnh3 ivh3 rvh3 h3 => ?_)
        obtain ⟨f3, rfl, rfl, rfl, rfl, rfl, rfl, rgf3, exf3⟩ := h3
        refine c_st (st2 := [.ref f3]) rfl ?_
        have gf3 : el rvb1 a0 k.toNat = some f3 := exf3
        refine c_cast C ck_6 dX3_markBegins_21 w5_63 w8_169t rgf3 rfl rfl (by decide) ?_
        refine c_astore (lv2 := [(4, .ref f3), (3, .int (iI k)), (2, .int (iI f2)), (0, .ref a0), (1, .ref a1)]) C dX3_markBegins_24 (by decide) rfl ?_
        refine c_aload_n (j := 4) (x := a1) C dX3_markBegins_26 rfl ?_
        refine c_aload (j := 0) (x := f3) C dX3_markBegins_27 rfl ?_
        obtain ⟨rb1, rq1, trb1⟩ := Wb1.ref rgf3 2 rfl rfl rfl
        have lnrb1 : 1 ≤ lnb1 rb1 ∧ lnb1 rb1 ≤ 4 := Wb1.len trb1 rfl
        refine c_getr (k := 2) C ck_6 dX3_markBegins_29 w3_143 (by decide) rgf3 rfl rfl (by decide) rfl rq1 ?_
        refine c_st (st2 := [.ref rb1, .ref a1]) rfl ?_
        have ll1 : 1 ≤ lnb1 rb1 ∧ lnb1 rb1 ≤ 4 := Wb1.len trb1 rfl
        refine c_alenI C dX3_markBegins_32 trb1 rfl ?_
        refine c_if_le (tgt := 46) C ⟨by omega, by omega⟩ dX3_markBegins_33 (by decide) (fun c2 => ?_) (fun c2 => ?_)
        · refine c_iconst C dX3_markBegins_46 ?_
          have ty2 := Xb1.ty t_a1
          have ri4 : 0 ≤ ivb1 a1 2 ∧ ivb1 a1 2 ≤ 6003 := Wb1.int ty2 2
          refine d_callV (As := [.int (iI 0)]) (rest := []) C hM (C_add_6 (a0 := a1) (x := 0) Wb1 skb1 ty2 ⟨by decide, by decide⟩ ) dX3_markBegins_47 kV_X3_91 rfl ty2 rfl rfl (by decide) ck_2 rfl (Nat.le_of_ble_eq_true rfl) ⟨(Nat.le_of_ble_eq_true rfl), (Nat.le_of_ble_eq_true rfl)⟩ hph pl2 (show 0 + 0 = 0 from rfl) (by decide) (fun rh4 Lh4 clh4 lnh4 ivh4 rvh4 h4 => ?_)
          obtain ⟨rfl, xl4, fl4, W4, exf4⟩ := h4
          have F2 := Fb1.call Xb1 fl4 rfl
          have X1 := Xb1.trans xl4
          have sk1 := xl4.skl skb1
          refine c_st (st2 := []) rfl ?_
          have ty3 := xl4.ty ty2
          have ri5 : 0 ≤ ivh4 a1 2 ∧ ivh4 a1 2 ≤ 6003 := W4.int ty3 2
          have gf4 : ((ivh4 a1 2 = ivb1 a1 2 ∧ ivb1 a1 2 = 6003) ∨ (ivh4 a1 2 = ivb1 a1 2 + 1 ∧ ivb1 a1 2 < 6003)) := exf4
          refine c_iinc (z := k) (j := 1) (lv2 := [(3, .int (iI (k + 1))), (4, .ref f3), (2, .int (iI f2)), (0, .ref a0), (1, .ref a1)]) C dX3_markBegins_50 rfl (by decide) rfl ?_
          refine c_goto (tgt := 11) C dX3_markBegins_53 (by decide) ?_
          refine c_lv (lv2 := [(3, .int (iI (k + 1))), (2, .int (iI f2)), (0, .ref a0), (1, .ref a1)]) [0, 2, 3, 4] rfl ?_
          exact ih1  (k + 1) _ _ _ _ _ (by omega) X1 W4 F2  (by omega)
        · refine c_aload (j := 0) (x := f3) C dX3_markBegins_36 rfl ?_
          refine c_getr (k := 2) C ck_6 dX3_markBegins_38 w3_143 (by decide) rgf3 rfl rfl (by decide) rfl rq1 ?_
          refine c_st (st2 := [.ref rb1, .ref a1]) rfl ?_
          refine c_iconst C dX3_markBegins_41 ?_
          refine c_iald C dX3_markBegins_42 trb1 rfl (by omega) (by omega) (by omega) ?_
          have ri6 : (-2147483648) ≤ ivb1 rb1 ((0 : Int).toNat) ∧ ivb1 rb1 ((0 : Int).toNat) ≤ 2147483647 := Wb1.int trb1 ((0 : Int).toNat)
          refine c_goto (tgt := 47) C dX3_markBegins_43 (by decide) ?_
          have ty4 := Xb1.ty t_a1
          have ri7 : 0 ≤ ivb1 a1 2 ∧ ivb1 a1 2 ≤ 6003 := Wb1.int ty4 2
          refine d_callV (As := [.int (iI (ivb1 rb1 (0 : Int).toNat))]) (rest := []) C hM (C_add_6 (a0 := a1) (x := ivb1 rb1 (0 : Int).toNat) Wb1 skb1 ty4 (by omega) ) dX3_markBegins_47 kV_X3_91 rfl ty4 rfl rfl (by decide) ck_2 rfl (Nat.le_of_ble_eq_true rfl) ⟨(Nat.le_of_ble_eq_true rfl), (Nat.le_of_ble_eq_true rfl)⟩ hph pl2 (show 0 + 0 = 0 from rfl) (by decide) (fun rh5 Lh5 clh5 lnh5 ivh5 rvh5 h5 => ?_)
          obtain ⟨rfl, xl5, fl5, W5, exf5⟩ := h5
          have F3 := Fb1.call Xb1 fl5 rfl
          have X2 := Xb1.trans xl5
          have sk2 := xl5.skl skb1
          refine c_st (st2 := []) rfl ?_
          have ty5 := xl5.ty ty4
          have ri8 : 0 ≤ ivh5 a1 2 ∧ ivh5 a1 2 ≤ 6003 := W5.int ty5 2
          have gf5 : ((ivh5 a1 2 = ivb1 a1 2 ∧ ivb1 a1 2 = 6003) ∨ (ivh5 a1 2 = ivb1 a1 2 + 1 ∧ ivb1 a1 2 < 6003)) := exf5
          refine c_iinc (z := k) (j := 1) (lv2 := [(3, .int (iI (k + 1))), (4, .ref f3), (2, .int (iI f2)), (0, .ref a0), (1, .ref a1)]) C dX3_markBegins_50 rfl (by decide) rfl ?_
          refine c_goto (tgt := 11) C dX3_markBegins_53 (by decide) ?_
          refine c_lv (lv2 := [(3, .int (iI (k + 1))), (2, .int (iI f2)), (0, .ref a0), (1, .ref a1)]) [0, 2, 3, 4] rfl ?_
          exact ih1  (k + 1) _ _ _ _ _ (by omega) X2 W5 F3  (by omega)
  refine c_lv (lv2 := [(3, .int (iI 0)), (2, .int (iI f2)), (0, .ref a0), (1, .ref a1)]) [0, 1, 2, 3] rfl ?_
  exact Lp1 6006 0 _ _ _ _ _ (by omega) hX0 W1 F1  (by omega)
set_option maxHeartbeats 4000000 in
set_option maxRecDepth 100000 in
theorem C_gatherPart_24 {l : Launch} {G : GT} {mi : Nat} {sk : Nat → Nat} {L : List Nat} {cl ln : Nat → Nat} {iv : Nat → Nat → Int} {rv : Nat → Nat → Option Nat}  {a0 : Nat} {r : Option Nat} (hW : WT (g0 G) sk L cl ln iv rv) (hS : SKL sk L cl) (t_a0 : ty L cl a0 24) (t_r : ∀ b, r = some b → ty L cl b 100) (hn : iv a0 2 = 0) : Mc l G mi (Phi (g0 G) sk) PHM yX3_gatherPart cX3_gatherPart 4 none 8 [.ref a0, va_rf r] L cl ln iv rv 0 (fun v L2 cl2 ln2 iv2 rv2 => v = none ∧ XT L cl ln L2 cl2 ln2 ∧ fT [24, 1002] L cl iv rv iv2 rv2 ∧ WT (g0 G) sk L2 cl2 ln2 iv2 rv2 ∧ (iv2 a0 2 ≤ 6002)) := by
  refine Mc.mk (by decide) (by cases r <;> exact Nat.le_of_ble_eq_true rfl) ?_
  intro p e s m args below meth c A C hM
  have hph := Phi.le hW hS
  refine c_lveq (show lv_args 0 [.ref a0, va_rf r] = [(0, .ref a0), (1, (va_rf r))] from by cases r <;> rfl) ?_
  have hX0 : XT L cl ln L cl ln := XT.refl
  have hF0 : fT [24, 1002] L cl iv rv iv rv := fT.refl
  refine c_aloadr_n (j := 1) (r := r) C dX3_gatherPart_0 rfl ?_
  refine c_ifnonnull (r := r) (tgt := 5) C dX3_gatherPart_1 (by decide) (fun ob1 oq1 => ?_) (fun oq1 => ?_)
  · subst oq1
    have tob1 := t_r ob1 rfl
    refine c_lv (lv2 := [(0, .ref a0), (1, .ref ob1)]) [0, 1] rfl ?_
    refine c_st (st2 := []) rfl ?_
    refine c_aload_n (j := 1) (x := ob1) C dX3_gatherPart_5 rfl ?_
    refine c_astore_n (lv2 := [(2, .ref ob1), (0, .ref a0), (1, .ref ob1)]) C dX3_gatherPart_6 (by decide) rfl ?_
    have Lp1 : ∀ (nn : Nat) (tq : Option Nat) (rk : Int) (Lb1 : List Nat) (clb1 lnb1 : Nat → Nat) (ivb1 : Nat → Nat → Int) (rvb1 : Nat → Nat → Option Nat) , rk - 99 < (nn : Int) → XT L cl ln Lb1 clb1 lnb1 → WT (g0 G) sk Lb1 clb1 lnb1 ivb1 rvb1 → fT [24, 1002] L cl iv rv ivb1 rvb1 → (∀ b, tq = some b → ty Lb1 clb1 b 100) → (99 ≤ rk ∧ rk ≤ 129) → (ivb1 a0 2 ≤ 200 * (129 - rk)) → (∀ b, tq = some b → ((clb1 b : Nat) : Int) ≤ rk) → cw p l e 8 ((PHM) + 0 - ((Phi (g0 G) sk) ln rv)) s m args below meth c G A 4 (MQ below (Qu G A (Qp G (Phi (g0 G) sk) ((Phi (g0 G) sk) ln rv) 0 (fun v L2 cl2 ln2 iv2 rv2 => v = none ∧ XT L cl ln L2 cl2 ln2 ∧ fT [24, 1002] L cl iv rv iv2 rv2 ∧ WT (g0 G) sk L2 cl2 ln2 iv2 rv2 ∧ (iv2 a0 2 ≤ 6002)))) args s (((PHM) + 0 - ((Phi (g0 G) sk) ln rv)) / 16) ((PHM) + 0 - ((Phi (g0 G) sk) ln rv)) A) (Phi (g0 G) sk) ((Phi (g0 G) sk) ln rv) Lb1 clb1 lnb1 ivb1 rvb1 0 7 [(2, (va_rf tq)), (0, .ref a0), (1, .ref ob1)] [] := by
      intro nn
      induction nn with
      | zero =>
        intro tq rk Lb1 clb1 lnb1 ivb1 rvb1 hm Xb1 Wb1 Fb1 ty_tq h99 hsz hrk
        have skb1 := Xb1.skl hS
        exact absurd hm (by omega)
      | succ nn ih1 =>
        intro tq rk Lb1 clb1 lnb1 ivb1 rvb1 hm Xb1 Wb1 Fb1 ty_tq h99 hsz hrk
        have skb1 := Xb1.skl hS
        refine c_aloadr_n (j := 0) (r := tq) C dX3_gatherPart_7 rfl ?_
        refine c_ifnull (r := tq) (tgt := 54) C dX3_gatherPart_8 (by decide) (fun oq2 => ?_) (fun ob2 oq2 => ?_)
        · subst oq2
          refine c_lv (lv2 := [(2, .null), (0, .ref a0), (1, .ref ob1)]) [0, 1, 2] rfl ?_
          refine c_st (st2 := []) rfl ?_
          refine c_aload_n (j := 1) (x := a0) C dX3_gatherPart_54 rfl ?_
          refine c_aload_n (j := 2) (x := ob1) C dX3_gatherPart_55 rfl ?_
          have ty1 := Xb1.ty tob1
          obtain ⟨rb1, rq1, trb1⟩ := Wb1.ref ty1 6 rfl rfl rfl
          have lnrb1 : 4 ≤ lnb1 rb1 ∧ lnb1 rb1 ≤ 4 := Wb1.len trb1 rfl
          refine c_getr (k := 6) C ck_10 dX3_gatherPart_56 w2_193 (by decide) ty1 rfl rfl (by decide) rfl rq1 ?_
          refine c_st (st2 := [.ref rb1, .ref a0]) rfl ?_
          refine c_iconst C dX3_gatherPart_59 ?_
          have ll1 : 4 ≤ lnb1 rb1 ∧ lnb1 rb1 ≤ 4 := Wb1.len trb1 rfl
          rcases Wb1.opt trb1 ((0 : Int).toNat) rfl rfl with ⟨nq1, _⟩ | ⟨nb1, nq1, tnb1⟩
          · refine c_aaldR C dX3_gatherPart_60 trb1 rfl (by omega) (by omega) (by omega) nq1 ?_
            refine c_st (st2 := [.null, .ref a0]) rfl ?_
            have ty2 := Xb1.ty t_a0
            have ri1 : 0 ≤ ivb1 a0 2 ∧ ivb1 a0 2 ≤ 6003 := Wb1.int ty2 2
            have pl1 := Phi.le Wb1 skb1
            refine d_callS (As := [.ref a0, .null]) (rest := []) C hM (C_addInd_24 (a0 := a0) (r := none) Wb1 skb1 ty2 (fun _ q => by cases q)  (by show ivb1 a0 2 < 6003; omega)) dX3_gatherPart_61 kS_X3_67 rfl rfl (Nat.le_of_ble_eq_true rfl) ⟨(Nat.le_of_ble_eq_true rfl), (Nat.le_of_ble_eq_true rfl)⟩ hph pl1 (show 0 + 0 = 0 from rfl) (by decide) (fun rh1 Lh1 clh1 lnh1 ivh1 rvh1 h1 => ?_)
            obtain ⟨rfl, xl1, fl1, W1, exf1⟩ := h1
            have F1 := Fb1.call Xb1 fl1 rfl
            have X1 := Xb1.trans xl1
            have sk1 := xl1.skl skb1
            refine c_st (st2 := []) rfl ?_
            have ty3 := xl1.ty ty2
            have ri2 : 0 ≤ ivh1 a0 2 ∧ ivh1 a0 2 ≤ 6003 := W1.int ty3 2
            have gf1 : ivb1 a0 2 ≤ ivh1 a0 2 ∧ ivh1 a0 2 ≤ ivb1 a0 2 + 1 := exf1
            refine c_aload_n (j := 1) (x := a0) C dX3_gatherPart_64 rfl ?_
            refine c_aload_n (j := 2) (x := ob1) C dX3_gatherPart_65 rfl ?_
            have ty4 := xl1.ty ty1
            have re1 : rvh1 ob1 6 = rvb1 ob1 6 := (fl1.r ty1 rfl 6)
            rw [rq1] at re1
            refine c_getr (k := 6) C ck_10 dX3_gatherPart_66 w2_193 (by decide) ty4 rfl rfl (by decide) rfl re1 ?_
            refine c_st (st2 := [.ref rb1, .ref a0]) rfl ?_
            refine c_iconst C dX3_gatherPart_69 ?_
            have ty5 := xl1.ty trb1
            have ll2 : 4 ≤ lnh1 rb1 ∧ lnh1 rb1 ≤ 4 := W1.len ty5 rfl
            rcases W1.opt ty5 ((1 : Int).toNat) rfl rfl with ⟨nq2, _⟩ | ⟨nb2, nq2, tnb2⟩
            · refine c_aaldR C dX3_gatherPart_70 ty5 rfl (by omega) (by omega) (by omega) nq2 ?_
              refine c_st (st2 := [.null, .ref a0]) rfl ?_
              have pl2 := Phi.le W1 sk1
              refine d_callS (As := [.ref a0, .null]) (rest := []) C hM (C_addInd_24 (a0 := a0) (r := none) W1 sk1 ty3 (fun _ q => by cases q)  (by show ivh1 a0 2 < 6003; omega)) dX3_gatherPart_71 kS_X3_67 rfl rfl (Nat.le_of_ble_eq_true rfl) ⟨(Nat.le_of_ble_eq_true rfl), (Nat.le_of_ble_eq_true rfl)⟩ hph pl2 (show 0 + 0 = 0 from rfl) (by decide) (fun rh2 Lh2 clh2 lnh2 ivh2 rvh2 h2 => ?_)
              obtain ⟨rfl, xl2, fl2, W2, exf2⟩ := h2
              have F2 := F1.call X1 fl2 rfl
              have X2 := X1.trans xl2
              have sk2 := xl2.skl sk1
              refine c_st (st2 := []) rfl ?_
              have ty6 := xl2.ty ty3
              have ri3 : 0 ≤ ivh2 a0 2 ∧ ivh2 a0 2 ≤ 6003 := W2.int ty6 2
              have gf2 : ivh1 a0 2 ≤ ivh2 a0 2 ∧ ivh2 a0 2 ≤ ivh1 a0 2 + 1 := exf2
              have pl3 := Phi.le W2 sk2
              exact c_vret C dX3_gatherPart_74 rfl (by decide) (rom0 hph pl3 (by decide)) ⟨rfl, X2, F2, W2, (by omega)⟩
            · have tnb2 : ty Lh1 clh1 nb2 20 := tnb2
              refine c_aaldR C dX3_gatherPart_70 ty5 rfl (by omega) (by omega) (by omega) nq2 ?_
              refine c_st (st2 := [.ref nb2, .ref a0]) rfl ?_
              have pl4 := Phi.le W1 sk1
              refine d_callS (As := [.ref a0, .ref nb2]) (rest := []) C hM (C_addInd_24 (a0 := a0) (r := (some nb2)) W1 sk1 ty3 (fun _ q => by cases q; exact tnb2)  (by show ivh1 a0 2 < 6003; omega)) dX3_gatherPart_71 kS_X3_67 rfl rfl (Nat.le_of_ble_eq_true rfl) ⟨(Nat.le_of_ble_eq_true rfl), (Nat.le_of_ble_eq_true rfl)⟩ hph pl4 (show 0 + 0 = 0 from rfl) (by decide) (fun rh3 Lh3 clh3 lnh3 ivh3 rvh3 h3 => ?_)
              obtain ⟨rfl, xl3, fl3, W3, exf3⟩ := h3
              have F3 := F1.call X1 fl3 rfl
              have X3 := X1.trans xl3
              have sk3 := xl3.skl sk1
              refine c_st (st2 := []) rfl ?_
              have ty7 := xl3.ty ty3
              have ri4 : 0 ≤ ivh3 a0 2 ∧ ivh3 a0 2 ≤ 6003 := W3.int ty7 2
              have gf3 : ivh1 a0 2 ≤ ivh3 a0 2 ∧ ivh3 a0 2 ≤ ivh1 a0 2 + 1 := exf3
              have pl5 := Phi.le W3 sk3
              exact c_vret C dX3_gatherPart_74 rfl (by decide) (rom0 hph pl5 (by decide)) ⟨rfl, X3, F3, W3, (by omega)⟩
          · have tnb1 : ty Lb1 clb1 nb1 20 := tnb1
            refine c_aaldR C dX3_gatherPart_60 trb1 rfl (by omega) (by omega) (by omega) nq1 ?_
            refine c_st (st2 := [.ref nb1, .ref a0]) rfl ?_
            have ty8 := Xb1.ty t_a0
            have ri5 : 0 ≤ ivb1 a0 2 ∧ ivb1 a0 2 ≤ 6003 := Wb1.int ty8 2
            have pl6 := Phi.le Wb1 skb1
            refine d_callS (As := [.ref a0, .ref nb1]) (rest := []) C hM (C_addInd_24 (a0 := a0) (r := (some nb1)) Wb1 skb1 ty8 (fun _ q => by cases q; exact tnb1)  (by show ivb1 a0 2 < 6003; omega)) dX3_gatherPart_61 kS_X3_67 rfl rfl (Nat.le_of_ble_eq_true rfl) ⟨(Nat.le_of_ble_eq_true rfl), (Nat.le_of_ble_eq_true rfl)⟩ hph pl6 (show 0 + 0 = 0 from rfl) (by decide) (fun rh4 Lh4 clh4 lnh4 ivh4 rvh4 h4 => ?_)
            obtain ⟨rfl, xl4, fl4, W4, exf4⟩ := h4
            have F4 := Fb1.call Xb1 fl4 rfl
            have X4 := Xb1.trans xl4
            have sk4 := xl4.skl skb1
            refine c_st (st2 := []) rfl ?_
            have ty9 := xl4.ty ty8
            have ri6 : 0 ≤ ivh4 a0 2 ∧ ivh4 a0 2 ≤ 6003 := W4.int ty9 2
            have gf4 : ivb1 a0 2 ≤ ivh4 a0 2 ∧ ivh4 a0 2 ≤ ivb1 a0 2 + 1 := exf4
            refine c_aload_n (j := 1) (x := a0) C dX3_gatherPart_64 rfl ?_
            refine c_aload_n (j := 2) (x := ob1) C dX3_gatherPart_65 rfl ?_
            have ty10 := xl4.ty ty1
            have re2 : rvh4 ob1 6 = rvb1 ob1 6 := (fl4.r ty1 rfl 6)
            rw [rq1] at re2
            refine c_getr (k := 6) C ck_10 dX3_gatherPart_66 w2_193 (by decide) ty10 rfl rfl (by decide) rfl re2 ?_
            refine c_st (st2 := [.ref rb1, .ref a0]) rfl ?_
            refine c_iconst C dX3_gatherPart_69 ?_
            have ty11 := xl4.ty trb1
            have ll3 : 4 ≤ lnh4 rb1 ∧ lnh4 rb1 ≤ 4 := W4.len ty11 rfl
            rcases W4.opt ty11 ((1 : Int).toNat) rfl rfl with ⟨nq3, _⟩ | ⟨nb3, nq3, tnb3⟩
            · refine c_aaldR C dX3_gatherPart_70 ty11 rfl (by omega) (by omega) (by omega) nq3 ?_
              refine c_st (st2 := [.null, .ref a0]) rfl ?_
              have pl7 := Phi.le W4 sk4
              refine d_callS (As := [.ref a0, .null]) (rest := []) C hM (C_addInd_24 (a0 := a0) (r := none) W4 sk4 ty9 (fun _ q => by cases q)  (by show ivh4 a0 2 < 6003; omega)) dX3_gatherPart_71 kS_X3_67 rfl rfl (Nat.le_of_ble_eq_true rfl) ⟨(Nat.le_of_ble_eq_true rfl), (Nat.le_of_ble_eq_true rfl)⟩ hph pl7 (show 0 + 0 = 0 from rfl) (by decide) (fun rh5 Lh5 clh5 lnh5 ivh5 rvh5 h5 => ?_)
              obtain ⟨rfl, xl5, fl5, W5, exf5⟩ := h5
              have F5 := F4.call X4 fl5 rfl
              have ty12 := xl4.ty tnb1
              have X5 := X4.trans xl5
              have sk5 := xl5.skl sk4
              refine c_st (st2 := []) rfl ?_
              have ty13 := xl5.ty ty9
              have ri7 : 0 ≤ ivh5 a0 2 ∧ ivh5 a0 2 ≤ 6003 := W5.int ty13 2
              have gf5 : ivh4 a0 2 ≤ ivh5 a0 2 ∧ ivh5 a0 2 ≤ ivh4 a0 2 + 1 := exf5
              have pl8 := Phi.le W5 sk5
              exact c_vret C dX3_gatherPart_74 rfl (by decide) (rom0 hph pl8 (by decide)) ⟨rfl, X5, F5, W5, (by omega)⟩
            · have tnb3 : ty Lh4 clh4 nb3 20 := tnb3
              refine c_aaldR C dX3_gatherPart_70 ty11 rfl (by omega) (by omega) (by omega) nq3 ?_
              refine c_st (st2 := [.ref nb3, .ref a0]) rfl ?_
              have pl9 := Phi.le W4 sk4
              refine d_callS (As := [.ref a0, .ref nb3]) (rest := []) C hM (C_addInd_24 (a0 := a0) (r := (some nb3)) W4 sk4 ty9 (fun _ q => by cases q; exact tnb3)  (by show ivh4 a0 2 < 6003; omega)) dX3_gatherPart_71 kS_X3_67 rfl rfl (Nat.le_of_ble_eq_true rfl) ⟨(Nat.le_of_ble_eq_true rfl), (Nat.le_of_ble_eq_true rfl)⟩ hph pl9 (show 0 + 0 = 0 from rfl) (by decide) (fun rh6 Lh6 clh6 lnh6 ivh6 rvh6 h6 => ?_)
              obtain ⟨rfl, xl6, fl6, W6, exf6⟩ := h6
              have F6 := F4.call X4 fl6 rfl
              have ty14 := xl4.ty tnb1
              have X6 := X4.trans xl6
              have sk6 := xl6.skl sk4
              refine c_st (st2 := []) rfl ?_
              have ty15 := xl6.ty ty9
              have ri8 : 0 ≤ ivh6 a0 2 ∧ ivh6 a0 2 ≤ 6003 := W6.int ty15 2
              have gf6 : ivh4 a0 2 ≤ ivh6 a0 2 ∧ ivh6 a0 2 ≤ ivh4 a0 2 + 1 := exf6
              have pl10 := Phi.le W6 sk6
              exact c_vret C dX3_gatherPart_74 rfl (by decide) (rom0 hph pl10 (by decide)) ⟨rfl, X6, F6, W6, (by omega)⟩
        · subst oq2
          have tob2 := ty_tq ob2 rfl
          have hkob2 := hrk ob2 rfl
          have tgob2 := bt_100 tob2.2
          refine c_lv (lv2 := [(2, .ref ob2), (0, .ref a0), (1, .ref ob1)]) [0, 1, 2] rfl ?_
          refine c_st (st2 := []) rfl ?_
          refine c_iconst C dX3_gatherPart_11 ?_
          refine c_istore_n (lv2 := [(3, .int (iI 0)), (2, .ref ob2), (0, .ref a0), (1, .ref ob1)]) C dX3_gatherPart_12 (by decide) rfl ?_
          have Lp2 : ∀ (nn : Nat) (tr : Nat) (k : Int) (Lb2 : List Nat) (clb2 lnb2 : Nat → Nat) (ivb2 : Nat → Nat → Int) (rvb2 : Nat → Nat → Option Nat) , 201 - k < (nn : Int) → XT L cl ln Lb2 clb2 lnb2 → WT (g0 G) sk Lb2 clb2 lnb2 ivb2 rvb2 → fT [24, 1002] L cl iv rv ivb2 rvb2 → (ty Lb2 clb2 tr 100) → (0 ≤ k ∧ k ≤ 200) → (ivb2 a0 2 ≤ 200 * (129 - rk) + k) → (100 ≤ clb2 tr ∧ ((clb2 tr : Nat) : Int) ≤ rk) → cw p l e 8 ((PHM) + 0 - ((Phi (g0 G) sk) ln rv)) s m args below meth c G A 4 (MQ below (Qu G A (Qp G (Phi (g0 G) sk) ((Phi (g0 G) sk) ln rv) 0 (fun v L2 cl2 ln2 iv2 rv2 => v = none ∧ XT L cl ln L2 cl2 ln2 ∧ fT [24, 1002] L cl iv rv iv2 rv2 ∧ WT (g0 G) sk L2 cl2 ln2 iv2 rv2 ∧ (iv2 a0 2 ≤ 6002)))) args s (((PHM) + 0 - ((Phi (g0 G) sk) ln rv)) / 16) ((PHM) + 0 - ((Phi (g0 G) sk) ln rv)) A) (Phi (g0 G) sk) ((Phi (g0 G) sk) ln rv) Lb2 clb2 lnb2 ivb2 rvb2 0 13 [(2, .ref tr), (3, .int (iI k)), (0, .ref a0), (1, .ref ob1)] [] := by
            intro nn
            induction nn with
            | zero =>
              intro tr k Lb2 clb2 lnb2 ivb2 rvb2 hm Xb2 Wb2 Fb2 ty_tr hk hs2 hcr
              have skb2 := Xb2.skl hS
              exact absurd hm (by omega)
            | succ nn ih2 =>
              intro tr k Lb2 clb2 lnb2 ivb2 rvb2 hm Xb2 Wb2 Fb2 ty_tr hk hs2 hcr
              have skb2 := Xb2.skl hS
              refine c_iload_n (j := 1) C dX3_gatherPart_13 rfl ?_
              refine c_aload_n (j := 0) (x := tr) C dX3_gatherPart_14 rfl ?_
              obtain ⟨rb2, rq2, trb2⟩ := Wb2.ref ty_tr 4 rfl rfl rfl
              refine c_getr (k := 4) C ck_10 dX3_gatherPart_15 w2_187 (by decide) ty_tr rfl rfl (by decide) rfl rq2 ?_
              refine c_st (st2 := [.ref rb2, .int (iI k)]) rfl ?_
              have ri9 : 0 ≤ ivb2 rb2 2 ∧ ivb2 rb2 2 ≤ 200 := Wb2.int trb2 2
              have pl11 := Phi.le Wb2 skb2
              refine d_callV (As := []) (rest := [.int (iI k)]) C hM (C_size_26 (a0 := rb2) Wb2 skb2 trb2  ) dX3_gatherPart_18 kV_X3_78 rfl trb2 rfl rfl (by decide) ck_0 rfl (Nat.le_of_ble_eq_true rfl) ⟨(Nat.le_of_ble_eq_true rfl), (Nat.le_of_ble_eq_true rfl)⟩ hph pl11 (show 0 + 0 = 0 from rfl) (by decide) (fun rh7 Lh7 clh7 lnh7 ivh7 rvh7 h7 => ?_)
              obtain ⟨f7, rfl, rfl, rfl, rfl, rfl, rfl, rgf7, exf7⟩ := h7
              refine c_st (st2 := [.int (iI f7), .int (iI k)]) rfl ?_
              have gf7 : f7 = ivb2 rb2 2 := exf7
              refine c_icmp_ge (tgt := 46) C ⟨by omega, by omega⟩ ⟨by omega, by omega⟩ dX3_gatherPart_21 (by decide) (fun c1 => ?_) (fun c1 => ?_)
              · refine c_aload_n (j := 0) (x := tr) C dX3_gatherPart_46 rfl ?_
                rcases Wb2.opt ty_tr 2 rfl rfl with ⟨nq4, _⟩ | ⟨nb4, nq4, tnb4⟩
                · refine c_getr (k := 2) C ck_10 dX3_gatherPart_47 w2_181 (by decide) ty_tr rfl rfl (by decide) rfl nq4 ?_
                  refine c_st (st2 := [.null]) rfl ?_
                  refine c_astorer_n (r := none) (lv2 := [(2, .null), (3, .int (iI k)), (0, .ref a0), (1, .ref ob1)]) C dX3_gatherPart_50 (by decide) rfl ?_
                  refine c_goto (tgt := 7) C dX3_gatherPart_51 (by decide) ?_
                  have ty16 := Xb2.ty t_a0
                  have ri10 : 0 ≤ ivb2 a0 2 ∧ ivb2 a0 2 ≤ 6003 := Wb2.int ty16 2
                  refine c_lv (lv2 := [(2, .null), (0, .ref a0), (1, .ref ob1)]) [0, 2, 3] rfl ?_
                  exact ih1  none (rk - 1) _ _ _ _ _ (by omega) Xb2 Wb2 Fb2 (fun _ q => by cases q) (by omega) (by show ivb2 a0 2 ≤ 200 * (129 - (rk - 1)); omega) (fun _ q => by cases q)
                · have rknb4 := Wb2.rank ty_tr (k := 2) (by decide) nq4
                  refine c_getr (k := 2) C ck_10 dX3_gatherPart_47 w2_181 (by decide) ty_tr rfl rfl (by decide) rfl nq4 ?_
                  refine c_st (st2 := [.ref nb4]) rfl ?_
                  refine c_astore_n (lv2 := [(2, .ref nb4), (3, .int (iI k)), (0, .ref a0), (1, .ref ob1)]) C dX3_gatherPart_50 (by decide) rfl ?_
                  refine c_goto (tgt := 7) C dX3_gatherPart_51 (by decide) ?_
                  have ty17 := Xb2.ty t_a0
                  have ri11 : 0 ≤ ivb2 a0 2 ∧ ivb2 a0 2 ≤ 6003 := Wb2.int ty17 2
                  have trnb4 := bt_100 tnb4.2
                  refine c_lv (lv2 := [(2, .ref nb4), (0, .ref a0), (1, .ref ob1)]) [0, 2, 3] rfl ?_
                  exact ih1  (some nb4) (rk - 1) _ _ _ _ _ (by omega) Xb2 Wb2 Fb2 (fun _ q => by cases q; exact tnb4) (by omega) (by show ivb2 a0 2 ≤ 200 * (129 - (rk - 1)); omega) (fun _ q => by cases q; omega)
              · refine c_aload_n (j := 2) (x := a0) C dX3_gatherPart_24 rfl ?_
                refine c_aload_n (j := 0) (x := tr) C dX3_gatherPart_25 rfl ?_
                refine c_getr (k := 4) C ck_10 dX3_gatherPart_26 w2_187 (by decide) ty_tr rfl rfl (by decide) rfl rq2 ?_
                refine c_st (st2 := [.ref rb2, .ref a0]) rfl ?_
                refine c_iload_n (j := 1) C dX3_gatherPart_29 rfl ?_
                refine d_callV (As := [.int (iI k)]) (rest := [.ref a0]) C hM (C_get_26 (a0 := rb2) (i := k) Wb2 skb2 trb2 (by omega) (by show 0 ≤ k ∧ k < ivb2 rb2 2; omega)) dX3_gatherPart_30 kV_X3_82 rfl trb2 rfl rfl (by decide) ck_0 rfl (Nat.le_of_ble_eq_true rfl) ⟨(Nat.le_of_ble_eq_true rfl), (Nat.le_of_ble_eq_true rfl)⟩ hph pl11 (show 0 + 0 = 0 from rfl) (by decide) (fun rh8 Lh8 clh8 lnh8 ivh8 rvh8 h8 => ?_)
                obtain ⟨f8, rfl, rfl, rfl, rfl, rfl, rfl, rgf8, exf8⟩ := h8
                refine c_st (st2 := [.ref f8, .ref a0]) rfl ?_
                have gf8 : el rvb2 rb2 k.toNat = some f8 := exf8
                refine c_cast C ck_6 dX3_gatherPart_33 w5_63 w8_169t rgf8 rfl rfl (by decide) ?_
                have ty18 := Xb2.ty t_a0
                have ri12 : 0 ≤ ivb2 a0 2 ∧ ivb2 a0 2 ≤ 6003 := Wb2.int ty18 2
                refine d_callV (As := [.ref f8]) (rest := []) C hM (C_add_24 (a0 := a0) (x := f8) Wb2 skb2 ty18 rgf8  (by show ivb2 a0 2 < 6003; omega)) dX3_gatherPart_36 kV_X3_97 rfl ty18 rfl rfl (by decide) ck_0 rfl (Nat.le_of_ble_eq_true rfl) ⟨(Nat.le_of_ble_eq_true rfl), (Nat.le_of_ble_eq_true rfl)⟩ hph pl11 (show 0 + 0 = 0 from rfl) (by decide) (fun rh9 Lh9 clh9 lnh9 ivh9 rvh9 h9 => ?_)
                obtain ⟨f9, rfl, xl9, fl9, W9, rgf9, exf9⟩ := h9
                have F7 := Fb2.call Xb2 fl9 rfl
                have ty19 := Xb2.ty tob1
                have X7 := Xb2.trans xl9
                have sk7 := xl9.skl skb2
                refine c_st (st2 := [.int (iI f9)]) rfl ?_
                have ty20 := xl9.ty ty18
                have ri13 : 0 ≤ ivh9 a0 2 ∧ ivh9 a0 2 ≤ 6003 := W9.int ty20 2
                have gf9 : ivh9 a0 2 = ivb2 a0 2 + 1 ∧ el rvh9 a0 (ivb2 a0 2).toNat = some f8 ∧ ∀ i : Nat, (i : Int) < ivb2 a0 2 → el rvh9 a0 i = el rvb2 a0 i := exf9
                refine c_pop C dX3_gatherPart_39 rfl ?_
                refine c_iinc (z := k) (j := 1) (lv2 := [(3, .int (iI (k + 1))), (2, .ref tr), (0, .ref a0), (1, .ref ob1)]) C dX3_gatherPart_40 rfl (by decide) rfl ?_
                refine c_goto (tgt := 13) C dX3_gatherPart_43 (by decide) ?_
                have ty21 := xl9.ty ty_tr
                have ce1 : clh9 tr = clb2 tr := (xl9 tr ty_tr.1).2.1
                refine c_lv (lv2 := [(2, .ref tr), (3, .int (iI (k + 1))), (0, .ref a0), (1, .ref ob1)]) [1, 0, 2, 3] rfl ?_
                exact ih2  tr (k + 1) _ _ _ _ _ (by omega) X7 W9 F7 ty21 (by omega) (by show ivh9 a0 2 ≤ 200 * (129 - rk) + (k + 1); omega) (by show 100 ≤ clh9 tr ∧ ((clh9 tr : Nat) : Int) ≤ rk; omega)
          have ty22 := Xb1.ty t_a0
          have ri14 : 0 ≤ ivb1 a0 2 ∧ ivb1 a0 2 ≤ 6003 := Wb1.int ty22 2
          refine c_lv (lv2 := [(2, .ref ob2), (3, .int (iI 0)), (0, .ref a0), (1, .ref ob1)]) [1, 0, 2, 3] rfl ?_
          exact Lp2 203 ob2 0 _ _ _ _ _ (by omega) Xb1 Wb1 Fb1 tob2 (by omega) (by show ivb1 a0 2 ≤ 200 * (129 - rk) + 0; omega) (by show 100 ≤ clb1 ob2 ∧ ((clb1 ob2 : Nat) : Int) ≤ rk; omega)
    have ri15 : 0 ≤ iv a0 2 ∧ iv a0 2 ≤ 6003 := hW.int t_a0 2
    have trob1 := bt_100 tob1.2
    refine c_lv (lv2 := [(2, .ref ob1), (0, .ref a0), (1, .ref ob1)]) [0, 1, 2] rfl ?_
    exact Lp1 31 (some ob1) 129 _ _ _ _ _ (by omega) hX0 hW hF0 (fun _ q => by cases q; exact tob1) (by omega) (by show iv a0 2 ≤ 200 * (129 - 129); omega) (fun _ q => by cases q; omega)
  · subst oq1
    refine c_lv (lv2 := [(0, .ref a0), (1, .null)]) [0, 1] rfl ?_
    refine c_st (st2 := []) rfl ?_
    have ri16 : 0 ≤ iv a0 2 ∧ iv a0 2 ≤ 6003 := hW.int t_a0 2
    exact c_vret C dX3_gatherPart_4 rfl (by decide) (rom0 hph hph (by decide)) ⟨rfl, hX0, hF0, hW, (by omega)⟩
set_option maxHeartbeats 4000000 in
set_option maxRecDepth 100000 in
theorem C_isReadable_24 {l : Launch} {G : GT} {mi : Nat} {sk : Nat → Nat} {L : List Nat} {cl ln : Nat → Nat} {iv : Nat → Nat → Int} {rv : Nat → Nat → Option Nat}  {a0 : Nat} {x : Int} (hW : WT (g0 G) sk L cl ln iv rv) (hS : SKL sk L cl) (t_a0 : ty L cl a0 24) (h_x : -2147483648 ≤ x ∧ x ≤ 2147483647)  : Mc l G mi (Phi (g0 G) sk) PHM yX3_isReadable cX3_isReadable 6 (some .boolean) 3 [.ref a0, .int (iI x)] L cl ln iv rv 0 (fun v L2 cl2 ln2 iv2 rv2 => ∃ f : Int, v = some (.int (iI f)) ∧ L = L2 ∧ cl = cl2 ∧ ln = ln2 ∧ iv = iv2 ∧ rv = rv2 ∧ (f = 0 ∨ f = 1) ∧ (True)) := by
  refine Mc.mk (by decide) (Nat.le_of_ble_eq_true rfl) ?_
  intro p e s m args below meth c A C hM
  have hph := Phi.le hW hS
  have hX0 : XT L cl ln L cl ln := XT.refl
  have hF0 : fT [] L cl iv rv iv rv := fT.refl
  refine c_aload_n (j := 0) (x := a0) C dX3_isReadable_0 rfl ?_
  have ri1 : 0 ≤ iv a0 2 ∧ iv a0 2 ≤ 6003 := hW.int t_a0 2
  refine d_callV (As := []) (rest := []) C hM (C_size_24 (a0 := a0) hW hS t_a0  ) dX3_isReadable_1 kV_X3_78 rfl t_a0 rfl rfl (by decide) ck_0 rfl (Nat.le_of_ble_eq_true rfl) ⟨(Nat.le_of_ble_eq_true rfl), (Nat.le_of_ble_eq_true rfl)⟩ hph hph (show 0 + 0 = 0 from rfl) (by decide) (fun rh1 Lh1 clh1 lnh1 ivh1 rvh1 h1 => ?_)
  obtain ⟨f1, rfl, rfl, rfl, rfl, rfl, rfl, rgf1, exf1⟩ := h1
  refine c_st (st2 := [.int (iI f1)]) rfl ?_
  have gf1 : f1 = iv a0 2 := exf1
  refine c_istore_n (lv2 := [(2, .int (iI f1)), (0, .ref a0), (1, .int (iI x))]) C dX3_isReadable_4 (by decide) rfl ?_
  refine c_iconst C dX3_isReadable_5 ?_
  refine c_istore_n (lv2 := [(3, .int (iI 0)), (2, .int (iI f1)), (0, .ref a0), (1, .int (iI x))]) C dX3_isReadable_6 (by decide) rfl ?_
  have Lp1 : ∀ (nn : Nat) (k : Int) , 6004 - k < (nn : Int) → (0 ≤ k ∧ k ≤ 6003) → cw p l e 3 ((PHM) + 0 - ((Phi (g0 G) sk) ln rv)) s m args below meth c G A 6 (MQ below (Qu G A (Qp G (Phi (g0 G) sk) ((Phi (g0 G) sk) ln rv) 0 (fun v L2 cl2 ln2 iv2 rv2 => ∃ f : Int, v = some (.int (iI f)) ∧ L = L2 ∧ cl = cl2 ∧ ln = ln2 ∧ iv = iv2 ∧ rv = rv2 ∧ (f = 0 ∨ f = 1) ∧ (True)))) args s (((PHM) + 0 - ((Phi (g0 G) sk) ln rv)) / 16) ((PHM) + 0 - ((Phi (g0 G) sk) ln rv)) A) (Phi (g0 G) sk) ((Phi (g0 G) sk) ln rv) L cl ln iv rv 0 7 [(3, .int (iI k)), (2, .int (iI f1)), (0, .ref a0), (1, .int (iI x))] [] := by
    intro nn
    induction nn with
    | zero =>
      intro  k  hm   hk
      exact absurd hm (by omega)
    | succ nn ih1 =>
      intro  k  hm   hk
      refine c_iload_n (j := 0) C dX3_isReadable_7 rfl ?_
      refine c_iload_n (j := 1) C dX3_isReadable_8 rfl ?_
      refine c_icmp_ge (tgt := 79) C ⟨by omega, by omega⟩ ⟨by omega, by omega⟩ dX3_isReadable_9 (by decide) (fun c1 => ?_) (fun c1 => ?_)
      · refine c_iconst C dX3_isReadable_79 ?_
        exact c_zret C dX3_isReadable_80 rfl (Or.inr rfl) (by decide) (rom0 hph hph (by decide)) ⟨1, rfl, rfl, rfl, rfl, rfl, rfl, (Or.inr rfl), trivial⟩
      · refine c_aload_n (j := 2) (x := a0) C dX3_isReadable_12 rfl ?_
        refine c_iload_n (j := 0) C dX3_isReadable_13 rfl ?_
        refine d_callV (As := [.int (iI k)]) (rest := []) C hM (C_get_24 (a0 := a0) (i := k) hW hS t_a0 (by omega) (by show 0 ≤ k ∧ k < iv a0 2; omega)) dX3_isReadable_14 kV_X3_82 rfl t_a0 rfl rfl (by decide) ck_0 rfl (Nat.le_of_ble_eq_true rfl) ⟨(Nat.le_of_ble_eq_true rfl), (Nat.le_of_ble_eq_true rfl)⟩ hph hph (show 0 + 0 = 0 from rfl) (by decide) (fun rh2 Lh2 clh2 lnh2 ivh2 rvh2 h2 => ?_)
        obtain ⟨f2, rfl, rfl, rfl, rfl, rfl, rfl, rgf2, exf2⟩ := h2
        refine c_st (st2 := [.ref f2]) rfl ?_
        have gf2 : el rv a0 k.toNat = some f2 := exf2
        refine c_cast C ck_6 dX3_isReadable_17 w5_63 w8_169t rgf2 rfl rfl (by decide) ?_
        refine c_astore (lv2 := [(4, .ref f2), (3, .int (iI k)), (2, .int (iI f1)), (0, .ref a0), (1, .int (iI x))]) C dX3_isReadable_20 (by decide) rfl ?_
        refine c_aload (j := 0) (x := f2) C dX3_isReadable_22 rfl ?_
        refine c_iload_n (j := 4) C dX3_isReadable_24 rfl ?_
        refine d_callV (As := [.int (iI x)]) (rest := []) C hM (C_rends (a0 := f2) (x := x) hW hS rgf2 (by omega) ) dX3_isReadable_25 kV_X3_100 rfl rgf2 rfl rfl (by decide) ck_6 rfl (Nat.le_of_ble_eq_true rfl) ⟨(Nat.le_of_ble_eq_true rfl), (Nat.le_of_ble_eq_true rfl)⟩ hph hph (show 0 + 0 = 0 from rfl) (by decide) (fun rh3 Lh3 clh3 lnh3 ivh3 rvh3 h3 => ?_)
        obtain ⟨f3, rfl, rfl, rfl, rfl, rfl, rfl, rgf3, exf3⟩ := h3
        refine c_st (st2 := [.int (iI f3)]) rfl ?_
        refine c_if_eq (tgt := 33) C ⟨by omega, by omega⟩ dX3_isReadable_28 (by decide) (fun c2 => ?_) (fun c2 => ?_)
        · refine c_iconst C dX3_isReadable_33 ?_
          refine c_istore (lv2 := [(5, .int (iI 0)), (4, .ref f2), (3, .int (iI k)), (2, .int (iI f1)), (0, .ref a0), (1, .int (iI x))]) C dX3_isReadable_34 (by decide) rfl ?_
          have Lp2 : ∀ (nn : Nat) (k2 : Int) , 6004 - k2 < (nn : Int) → (0 ≤ k2 ∧ k2 ≤ 6003) → cw p l e 3 ((PHM) + 0 - ((Phi (g0 G) sk) ln rv)) s m args below meth c G A 6 (MQ below (Qu G A (Qp G (Phi (g0 G) sk) ((Phi (g0 G) sk) ln rv) 0 (fun v L2 cl2 ln2 iv2 rv2 => ∃ f : Int, v = some (.int (iI f)) ∧ L = L2 ∧ cl = cl2 ∧ ln = ln2 ∧ iv = iv2 ∧ rv = rv2 ∧ (f = 0 ∨ f = 1) ∧ (True)))) args s (((PHM) + 0 - ((Phi (g0 G) sk) ln rv)) / 16) ((PHM) + 0 - ((Phi (g0 G) sk) ln rv)) A) (Phi (g0 G) sk) ((Phi (g0 G) sk) ln rv) L cl ln iv rv 0 36 [(5, .int (iI k2)), (4, .ref f2), (3, .int (iI k)), (2, .int (iI f1)), (0, .ref a0), (1, .int (iI x))] [] := by
            intro nn
            induction nn with
            | zero =>
              intro  k2  hm   hk2
              exact absurd hm (by omega)
            | succ nn ih2 =>
              intro  k2  hm   hk2
              refine c_iload (j := 0) C dX3_isReadable_36 rfl ?_
              refine c_iload_n (j := 3) C dX3_isReadable_38 rfl ?_
              refine c_icmp_ge (tgt := 73) C ⟨by omega, by omega⟩ ⟨by omega, by omega⟩ dX3_isReadable_39 (by decide) (fun c3 => ?_) (fun c3 => ?_)
              · refine c_iinc (z := k) (j := 2) (lv2 := [(3, .int (iI (k + 1))), (5, .int (iI k2)), (4, .ref f2), (2, .int (iI f1)), (0, .ref a0), (1, .int (iI x))]) C dX3_isReadable_73 rfl (by decide) rfl ?_
                refine c_goto (tgt := 7) C dX3_isReadable_76 (by decide) ?_
                refine c_lv (lv2 := [(3, .int (iI (k + 1))), (2, .int (iI f1)), (0, .ref a0), (1, .int (iI x))]) [0, 3, 4, 5] rfl ?_
                exact ih1  (k + 1)  (by omega)   (by omega)
              · refine c_iload (j := 0) C dX3_isReadable_42 rfl ?_
                refine c_iload_n (j := 2) C dX3_isReadable_44 rfl ?_
                refine c_icmp_eq (tgt := 67) C ⟨by omega, by omega⟩ ⟨by omega, by omega⟩ dX3_isReadable_45 (by decide) (fun c4 => ?_) (fun c4 => ?_)
                · refine c_iinc (z := k2) (j := 0) (lv2 := [(5, .int (iI (k2 + 1))), (4, .ref f2), (3, .int (iI k)), (2, .int (iI f1)), (0, .ref a0), (1, .int (iI x))]) C dX3_isReadable_67 rfl (by decide) rfl ?_
                  refine c_goto (tgt := 36) C dX3_isReadable_70 (by decide) ?_
                  refine c_lv (lv2 := [(5, .int (iI (k2 + 1))), (4, .ref f2), (3, .int (iI k)), (2, .int (iI f1)), (0, .ref a0), (1, .int (iI x))]) [0, 1, 2, 3, 4, 5] rfl ?_
                  exact ih2  (k2 + 1)  (by omega)   (by omega)
                · refine c_aload (j := 1) (x := f2) C dX3_isReadable_48 rfl ?_
                  refine c_aload_n (j := 4) (x := a0) C dX3_isReadable_50 rfl ?_
                  refine c_iload (j := 0) C dX3_isReadable_51 rfl ?_
                  refine d_callV (As := [.int (iI k2)]) (rest := [.ref f2]) C hM (C_get_24 (a0 := a0) (i := k2) hW hS t_a0 (by omega) (by show 0 ≤ k2 ∧ k2 < iv a0 2; omega)) dX3_isReadable_53 kV_X3_82 rfl t_a0 rfl rfl (by decide) ck_0 rfl (Nat.le_of_ble_eq_true rfl) ⟨(Nat.le_of_ble_eq_true rfl), (Nat.le_of_ble_eq_true rfl)⟩ hph hph (show 0 + 0 = 0 from rfl) (by decide) (fun rh4 Lh4 clh4 lnh4 ivh4 rvh4 h4 => ?_)
                  obtain ⟨f4, rfl, rfl, rfl, rfl, rfl, rfl, rgf4, exf4⟩ := h4
                  refine c_st (st2 := [.ref f4, .ref f2]) rfl ?_
                  have gf4 : el rv a0 k2.toNat = some f4 := exf4
                  refine c_cast C ck_6 dX3_isReadable_56 w5_63 w8_169t rgf4 rfl rfl (by decide) ?_
                  refine d_callV (As := [.ref f4]) (rest := []) C hM (C_isAtBegin (a0 := f2) (a1 := f4) hW hS rgf2 rgf4  ) dX3_isReadable_59 kV_X3_104 rfl rgf2 rfl rfl (by decide) ck_6 rfl (Nat.le_of_ble_eq_true rfl) ⟨(Nat.le_of_ble_eq_true rfl), (Nat.le_of_ble_eq_true rfl)⟩ hph hph (show 0 + 0 = 0 from rfl) (by decide) (fun rh5 Lh5 clh5 lnh5 ivh5 rvh5 h5 => ?_)
                  obtain ⟨f5, rfl, rfl, rfl, rfl, rfl, rfl, rgf5, exf5⟩ := h5
                  refine c_st (st2 := [.int (iI f5)]) rfl ?_
                  refine c_if_eq (tgt := 67) C ⟨by omega, by omega⟩ dX3_isReadable_62 (by decide) (fun c5 => ?_) (fun c5 => ?_)
                  · refine c_iinc (z := k2) (j := 0) (lv2 := [(5, .int (iI (k2 + 1))), (4, .ref f2), (3, .int (iI k)), (2, .int (iI f1)), (0, .ref a0), (1, .int (iI x))]) C dX3_isReadable_67 rfl (by decide) rfl ?_
                    refine c_goto (tgt := 36) C dX3_isReadable_70 (by decide) ?_
                    refine c_lv (lv2 := [(5, .int (iI (k2 + 1))), (4, .ref f2), (3, .int (iI k)), (2, .int (iI f1)), (0, .ref a0), (1, .int (iI x))]) [0, 1, 2, 3, 4, 5] rfl ?_
                    exact ih2  (k2 + 1)  (by omega)   (by omega)
                  · refine c_iconst C dX3_isReadable_65 ?_
                    exact c_zret C dX3_isReadable_66 rfl (Or.inl rfl) (by decide) (rom0 hph hph (by decide)) ⟨0, rfl, rfl, rfl, rfl, rfl, rfl, (Or.inl rfl), trivial⟩
          refine c_lv (lv2 := [(5, .int (iI 0)), (4, .ref f2), (3, .int (iI k)), (2, .int (iI f1)), (0, .ref a0), (1, .int (iI x))]) [0, 1, 2, 3, 4, 5] rfl ?_
          exact Lp2 6006 0  (by omega)   (by omega)
        · refine c_iconst C dX3_isReadable_31 ?_
          exact c_zret C dX3_isReadable_32 rfl (Or.inl rfl) (by decide) (rom0 hph hph (by decide)) ⟨0, rfl, rfl, rfl, rfl, rfl, rfl, (Or.inl rfl), trivial⟩
  refine c_lv (lv2 := [(3, .int (iI 0)), (2, .int (iI f1)), (0, .ref a0), (1, .int (iI x))]) [0, 1, 2, 3] rfl ?_
  exact Lp1 6006 0  (by omega)   (by omega)
set_option maxHeartbeats 4000000 in
set_option maxRecDepth 100000 in
theorem C_addInd_25 {l : Launch} {G : GT} {mi : Nat} {sk : Nat → Nat} {L : List Nat} {cl ln : Nat → Nat} {iv : Nat → Nat → Int} {rv : Nat → Nat → Option Nat}  {a0 : Nat} {r : Option Nat} (hW : WT (g0 G) sk L cl ln iv rv) (hS : SKL sk L cl) (t_a0 : ty L cl a0 25) (t_r : ∀ b, r = some b → ty L cl b 20) (hn : iv a0 2 < 6003) : Mc l G mi (Phi (g0 G) sk) PHM yX3_addIndicator cX3_addIndicator 2 none 7 [.ref a0, va_rf r] L cl ln iv rv 0 (fun v L2 cl2 ln2 iv2 rv2 => v = none ∧ XT L cl ln L2 cl2 ln2 ∧ fT [25, 1003] L cl iv rv iv2 rv2 ∧ WT (g0 G) sk L2 cl2 ln2 iv2 rv2 ∧ (iv a0 2 ≤ iv2 a0 2 ∧ iv2 a0 2 ≤ iv a0 2 + 1)) := by
  refine Mc.mk (by decide) (by cases r <;> exact Nat.le_of_ble_eq_true rfl) ?_
  intro p e s m args below meth c A C hM
  have hph := Phi.le hW hS
  refine c_lveq (show lv_args 0 [.ref a0, va_rf r] = [(0, .ref a0), (1, (va_rf r))] from by cases r <;> rfl) ?_
  have hb0 : 0 ≤ iv a0 2 := (hW.int t_a0 2).1
  have hX0 : XT L cl ln L cl ln := XT.refl
  have hF0 : fT [25, 1003] L cl iv rv iv rv := fT.refl
  refine c_aloadr_n (j := 1) (r := r) C dX3_addIndicator_0 rfl ?_
  refine c_ifnull (r := r) (tgt := 10) C dX3_addIndicator_1 (by decide) (fun oq1 => ?_) (fun ob1 oq1 => ?_)
  · subst oq1
    refine c_lv (lv2 := [(0, .ref a0), (1, .null)]) [0, 1] rfl ?_
    refine c_st (st2 := []) rfl ?_
    have ri1 : 0 ≤ iv a0 2 ∧ iv a0 2 ≤ 6003 := hW.int t_a0 2
    exact c_vret C dX3_addIndicator_10 rfl (by decide) (rom0 hph hph (by decide)) ⟨rfl, hX0, hF0, hW, (by omega)⟩
  · subst oq1
    have tob1 := t_r ob1 rfl
    refine c_lv (lv2 := [(0, .ref a0), (1, .ref ob1)]) [0, 1] rfl ?_
    refine c_st (st2 := []) rfl ?_
    refine c_aload_n (j := 0) (x := a0) C dX3_addIndicator_4 rfl ?_
    refine c_aload_n (j := 1) (x := ob1) C dX3_addIndicator_5 rfl ?_
    have ri2 : 0 ≤ iv a0 2 ∧ iv a0 2 ≤ 6003 := hW.int t_a0 2
    refine d_callV (As := [.ref ob1]) (rest := []) C hM (C_add_25 (a0 := a0) (x := ob1) hW hS t_a0 tob1  (by show iv a0 2 < 6003; omega)) dX3_addIndicator_6 kV_X3_97 rfl t_a0 rfl rfl (by decide) ck_0 rfl (Nat.le_of_ble_eq_true rfl) ⟨(Nat.le_of_ble_eq_true rfl), (Nat.le_of_ble_eq_true rfl)⟩ hph hph (show 0 + 0 = 0 from rfl) (by decide) (fun rh1 Lh1 clh1 lnh1 ivh1 rvh1 h1 => ?_)
    obtain ⟨f1, rfl, xl1, fl1, W1, rgf1, exf1⟩ := h1
    have F1 := hF0.call hX0 fl1 rfl
    have X1 := hX0.trans xl1
    have sk1 := xl1.skl hS
    refine c_st (st2 := [.int (iI f1)]) rfl ?_
    have ty1 := xl1.ty t_a0
    have ri3 : 0 ≤ ivh1 a0 2 ∧ ivh1 a0 2 ≤ 6003 := W1.int ty1 2
    have gf1 : ivh1 a0 2 = iv a0 2 + 1 ∧ el rvh1 a0 (iv a0 2).toNat = some ob1 ∧ ∀ i : Nat, (i : Int) < iv a0 2 → el rvh1 a0 i = el rv a0 i := exf1
    refine c_pop C dX3_addIndicator_9 rfl ?_
    have pl1 := Phi.le W1 sk1
    exact c_vret C dX3_addIndicator_10 rfl (by decide) (rom0 hph pl1 (by decide)) ⟨rfl, X1, F1, W1, (by omega)⟩
set_option maxHeartbeats 4000000 in
set_option maxRecDepth 100000 in
theorem C_markBegins_25 {l : Launch} {G : GT} {mi : Nat} {sk : Nat → Nat} {L : List Nat} {cl ln : Nat → Nat} {iv : Nat → Nat → Int} {rv : Nat → Nat → Option Nat}  {a0 : Nat} {a1 : Nat} (hW : WT (g0 G) sk L cl ln iv rv) (hS : SKL sk L cl) (t_a0 : ty L cl a0 25) (t_a1 : ty L cl a1 7)  : Mc l G mi (Phi (g0 G) sk) PHM yX3_markBegins cX3_markBegins 5 none 3 [.ref a0, .ref a1] L cl ln iv rv 0 (fun v L2 cl2 ln2 iv2 rv2 => v = none ∧ XT L cl ln L2 cl2 ln2 ∧ fT [7, 37] L cl iv rv iv2 rv2 ∧ WT (g0 G) sk L2 cl2 ln2 iv2 rv2 ∧ (True)) := by
  refine Mc.mk (by decide) (Nat.le_of_ble_eq_true rfl) ?_
  intro p e s m args below meth c A C hM
  have hph := Phi.le hW hS
  have hX0 : XT L cl ln L cl ln := XT.refl
  have hF0 : fT [7, 37] L cl iv rv iv rv := fT.refl
  refine c_aload_n (j := 1) (x := a1) C dX3_markBegins_0 rfl ?_
  refine d_callV (As := []) (rest := []) C hM (C_clear_7 (a0 := a1) hW hS t_a1  ) dX3_markBegins_1 kV_X3_77 rfl t_a1 rfl rfl (by decide) ck_2 rfl (Nat.le_of_ble_eq_true rfl) ⟨(Nat.le_of_ble_eq_true rfl), (Nat.le_of_ble_eq_true rfl)⟩ hph hph (show 0 + 0 = 0 from rfl) (by decide) (fun rh1 Lh1 clh1 lnh1 ivh1 rvh1 h1 => ?_)
  obtain ⟨rfl, rfl, rfl, rfl, rfl, fl1, W1, exf1⟩ := h1
  have F1 := hF0.call hX0 fl1 rfl
  refine c_st (st2 := []) rfl ?_
  have ri1 : 0 ≤ ivh1 a1 2 ∧ ivh1 a1 2 ≤ 6003 := W1.int t_a1 2
  have gf1 : ivh1 a1 2 = 0 := exf1
  refine c_aload_n (j := 0) (x := a0) C dX3_markBegins_4 rfl ?_
  have ri2 : 0 ≤ ivh1 a0 2 ∧ ivh1 a0 2 ≤ 6003 := W1.int t_a0 2
  have ie2 : ivh1 a0 2 = iv a0 2 := fl1.i t_a0 rfl 2
  refine d_callV (As := []) (rest := []) C hM (C_size_25 (a0 := a0) W1 hS t_a0  ) dX3_markBegins_5 kV_X3_78 rfl t_a0 rfl rfl (by decide) ck_0 rfl (Nat.le_of_ble_eq_true rfl) ⟨(Nat.le_of_ble_eq_true rfl), (Nat.le_of_ble_eq_true rfl)⟩ hph hph (show 0 + 0 = 0 from rfl) (by decide) (fun rh2 Lh2 clh2 lnh2 ivh2 rvh2 h2 => ?_)
  obtain ⟨f2, rfl, rfl, rfl, rfl, rfl, rfl, rgf2, exf2⟩ := h2
  refine c_st (st2 := [.int (iI f2)]) rfl ?_
  have gf2 : f2 = ivh1 a0 2 := exf2
  refine c_istore_n (lv2 := [(2, .int (iI f2)), (0, .ref a0), (1, .ref a1)]) C dX3_markBegins_8 (by decide) rfl ?_
  refine c_iconst C dX3_markBegins_9 ?_
  refine c_istore_n (lv2 := [(3, .int (iI 0)), (2, .int (iI f2)), (0, .ref a0), (1, .ref a1)]) C dX3_markBegins_10 (by decide) rfl ?_
  have Lp1 : ∀ (nn : Nat) (k : Int) (Lb1 : List Nat) (clb1 lnb1 : Nat → Nat) (ivb1 : Nat → Nat → Int) (rvb1 : Nat → Nat → Option Nat) , 6004 - k < (nn : Int) → XT L cl ln Lb1 clb1 lnb1 → WT (g0 G) sk Lb1 clb1 lnb1 ivb1 rvb1 → fT [7, 37] L cl iv rv ivb1 rvb1 → (0 ≤ k ∧ k ≤ 6003) → cw p l e 3 ((PHM) + 0 - ((Phi (g0 G) sk) ln rv)) s m args below meth c G A 5 (MQ below (Qu G A (Qp G (Phi (g0 G) sk) ((Phi (g0 G) sk) ln rv) 0 (fun v L2 cl2 ln2 iv2 rv2 => v = none ∧ XT L cl ln L2 cl2 ln2 ∧ fT [7, 37] L cl iv rv iv2 rv2 ∧ WT (g0 G) sk L2 cl2 ln2 iv2 rv2 ∧ (True)))) args s (((PHM) + 0 - ((Phi (g0 G) sk) ln rv)) / 16) ((PHM) + 0 - ((Phi (g0 G) sk) ln rv)) A) (Phi (g0 G) sk) ((Phi (g0 G) sk) ln rv) Lb1 clb1 lnb1 ivb1 rvb1 0 11 [(3, .int (iI k)), (2, .int (iI f2)), (0, .ref a0), (1, .ref a1)] [] := by
    intro nn
    induction nn with
    | zero =>
      intro  k Lb1 clb1 lnb1 ivb1 rvb1 hm Xb1 Wb1 Fb1  hk
      have skb1 := Xb1.skl hS
      exact absurd hm (by omega)
    | succ nn ih1 =>
      intro  k Lb1 clb1 lnb1 ivb1 rvb1 hm Xb1 Wb1 Fb1  hk
      have skb1 := Xb1.skl hS
      refine c_iload_n (j := 0) C dX3_markBegins_11 rfl ?_
      refine c_iload_n (j := 1) C dX3_markBegins_12 rfl ?_
      refine c_icmp_ge (tgt := 56) C ⟨by omega, by omega⟩ ⟨by omega, by omega⟩ dX3_markBegins_13 (by decide) (fun c1 => ?_) (fun c1 => ?_)
      · have pl1 := Phi.le Wb1 skb1
        exact c_vret C dX3_markBegins_56 rfl (by decide) (rom0 hph pl1 (by decide)) ⟨rfl, Xb1, Fb1, Wb1, trivial⟩
      · refine c_aload_n (j := 2) (x := a0) C dX3_markBegins_16 rfl ?_
        refine c_iload_n (j := 0) C dX3_markBegins_17 rfl ?_
        have ty1 := Xb1.ty t_a0
        have ri3 : 0 ≤ ivb1 a0 2 ∧ ivb1 a0 2 ≤ 6003 := Wb1.int ty1 2
        have ie3 : ivb1 a0 2 = iv a0 2 := Fb1.i t_a0 rfl 2
        have pl2 := Phi.le Wb1 skb1
        refine d_callV (As := [.int (iI k)]) (rest := []) C hM (C_get_25 (a0 := a0) (i := k) Wb1 skb1 ty1 (by omega) (by show 0 ≤ k ∧ k < ivb1 a0 2; omega)) dX3_markBegins_18 kV_X3_82 rfl ty1 rfl rfl (by decide) ck_0 rfl (Nat.le_of_ble_eq_true rfl) ⟨(Nat.le_of_ble_eq_true rfl), (Nat.le_of_ble_eq_true rfl)⟩ hph pl2 (show 0 + 0 = 0 from rfl) (by decide) (fun rh3 Lh3 clh3 lnh3 ivh3 rvh3 h3 => ?_)
        obtain ⟨f3, rfl, rfl, rfl, rfl, rfl, rfl, rgf3, exf3⟩ := h3
        refine c_st (st2 := [.ref f3]) rfl ?_
        have gf3 : el rvb1 a0 k.toNat = some f3 := exf3
        refine c_cast C ck_6 dX3_markBegins_21 w5_63 w8_169t rgf3 rfl rfl (by decide) ?_
        refine c_astore (lv2 := [(4, .ref f3), (3, .int (iI k)), (2, .int (iI f2)), (0, .ref a0), (1, .ref a1)]) C dX3_markBegins_24 (by decide) rfl ?_
        refine c_aload_n (j := 4) (x := a1) C dX3_markBegins_26 rfl ?_
        refine c_aload (j := 0) (x := f3) C dX3_markBegins_27 rfl ?_
        obtain ⟨rb1, rq1, trb1⟩ := Wb1.ref rgf3 2 rfl rfl rfl
        have lnrb1 : 1 ≤ lnb1 rb1 ∧ lnb1 rb1 ≤ 4 := Wb1.len trb1 rfl
        refine c_getr (k := 2) C ck_6 dX3_markBegins_29 w3_143 (by decide) rgf3 rfl rfl (by decide) rfl rq1 ?_
        refine c_st (st2 := [.ref rb1, .ref a1]) rfl ?_
        have ll1 : 1 ≤ lnb1 rb1 ∧ lnb1 rb1 ≤ 4 := Wb1.len trb1 rfl
        refine c_alenI C dX3_markBegins_32 trb1 rfl ?_
        refine c_if_le (tgt := 46) C ⟨by omega, by omega⟩ dX3_markBegins_33 (by decide) (fun c2 => ?_) (fun c2 => ?_)
        · refine c_iconst C dX3_markBegins_46 ?_
          have ty2 := Xb1.ty t_a1
          have ri4 : 0 ≤ ivb1 a1 2 ∧ ivb1 a1 2 ≤ 6003 := Wb1.int ty2 2
          refine d_callV (As := [.int (iI 0)]) (rest := []) C hM (C_add_7 (a0 := a1) (x := 0) Wb1 skb1 ty2 ⟨by decide, by decide⟩ ) dX3_markBegins_47 kV_X3_91 rfl ty2 rfl rfl (by decide) ck_2 rfl (Nat.le_of_ble_eq_true rfl) ⟨(Nat.le_of_ble_eq_true rfl), (Nat.le_of_ble_eq_true rfl)⟩ hph pl2 (show 0 + 0 = 0 from rfl) (by decide) (fun rh4 Lh4 clh4 lnh4 ivh4 rvh4 h4 => ?_)
          obtain ⟨rfl, xl4, fl4, W4, exf4⟩ := h4
          have F2 := Fb1.call Xb1 fl4 rfl
          have X1 := Xb1.trans xl4
          have sk1 := xl4.skl skb1
          refine c_st (st2 := []) rfl ?_
          have ty3 := xl4.ty ty2
          have ri5 : 0 ≤ ivh4 a1 2 ∧ ivh4 a1 2 ≤ 6003 := W4.int ty3 2
          have gf4 : ((ivh4 a1 2 = ivb1 a1 2 ∧ ivb1 a1 2 = 6003) ∨ (ivh4 a1 2 = ivb1 a1 2 + 1 ∧ ivb1 a1 2 < 6003)) := exf4
          refine c_iinc (z := k) (j := 1) (lv2 := [(3, .int (iI (k + 1))), (4, .ref f3), (2, .int (iI f2)), (0, .ref a0), (1, .ref a1)]) C dX3_markBegins_50 rfl (by decide) rfl ?_
          refine c_goto (tgt := 11) C dX3_markBegins_53 (by decide) ?_
          refine c_lv (lv2 := [(3, .int (iI (k + 1))), (2, .int (iI f2)), (0, .ref a0), (1, .ref a1)]) [0, 2, 3, 4] rfl ?_
          exact ih1  (k + 1) _ _ _ _ _ (by omega) X1 W4 F2  (by omega)
        · refine c_aload (j := 0) (x := f3) C dX3_markBegins_36 rfl ?_
          refine c_getr (k := 2) C ck_6 dX3_markBegins_38 w3_143 (by decide) rgf3 rfl rfl (by decide) rfl rq1 ?_
          refine c_st (st2 := [.ref rb1, .ref a1]) rfl ?_
          refine c_iconst C dX3_markBegins_41 ?_
          refine c_iald C dX3_markBegins_42 trb1 rfl (by omega) (by omega) (by omega) ?_
          have ri6 : (-2147483648) ≤ ivb1 rb1 ((0 : Int).toNat) ∧ ivb1 rb1 ((0 : Int).toNat) ≤ 2147483647 := Wb1.int trb1 ((0 : Int).toNat)
          refine c_goto (tgt := 47) C dX3_markBegins_43 (by decide) ?_
          have ty4 := Xb1.ty t_a1
          have ri7 : 0 ≤ ivb1 a1 2 ∧ ivb1 a1 2 ≤ 6003 := Wb1.int ty4 2
          refine d_callV (As := [.int (iI (ivb1 rb1 (0 : Int).toNat))]) (rest := []) C hM (C_add_7 (a0 := a1) (x := ivb1 rb1 (0 : Int).toNat) Wb1 skb1 ty4 (by omega) ) dX3_markBegins_47 kV_X3_91 rfl ty4 rfl rfl (by decide) ck_2 rfl (Nat.le_of_ble_eq_true rfl) ⟨(Nat.le_of_ble_eq_true rfl), (Nat.le_of_ble_eq_true rfl)⟩ hph pl2 (show 0 + 0 = 0 from rfl) (by decide) (fun rh5 Lh5 clh5 lnh5 ivh5 rvh5 h5 => ?_)
          obtain ⟨rfl, xl5, fl5, W5, exf5⟩ := h5
          have F3 := Fb1.call Xb1 fl5 rfl
          have X2 := Xb1.trans xl5
          have sk2 := xl5.skl skb1
          refine c_st (st2 := []) rfl ?_
          have ty5 := xl5.ty ty4
          have ri8 : 0 ≤ ivh5 a1 2 ∧ ivh5 a1 2 ≤ 6003 := W5.int ty5 2
          have gf5 : ((ivh5 a1 2 = ivb1 a1 2 ∧ ivb1 a1 2 = 6003) ∨ (ivh5 a1 2 = ivb1 a1 2 + 1 ∧ ivb1 a1 2 < 6003)) := exf5
          refine c_iinc (z := k) (j := 1) (lv2 := [(3, .int (iI (k + 1))), (4, .ref f3), (2, .int (iI f2)), (0, .ref a0), (1, .ref a1)]) C dX3_markBegins_50 rfl (by decide) rfl ?_
          refine c_goto (tgt := 11) C dX3_markBegins_53 (by decide) ?_
          refine c_lv (lv2 := [(3, .int (iI (k + 1))), (2, .int (iI f2)), (0, .ref a0), (1, .ref a1)]) [0, 2, 3, 4] rfl ?_
          exact ih1  (k + 1) _ _ _ _ _ (by omega) X2 W5 F3  (by omega)
  refine c_lv (lv2 := [(3, .int (iI 0)), (2, .int (iI f2)), (0, .ref a0), (1, .ref a1)]) [0, 1, 2, 3] rfl ?_
  exact Lp1 6006 0 _ _ _ _ _ (by omega) hX0 W1 F1  (by omega)
set_option maxHeartbeats 4000000 in
set_option maxRecDepth 100000 in
theorem C_gatherPart_25 {l : Launch} {G : GT} {mi : Nat} {sk : Nat → Nat} {L : List Nat} {cl ln : Nat → Nat} {iv : Nat → Nat → Int} {rv : Nat → Nat → Option Nat}  {a0 : Nat} {r : Option Nat} (hW : WT (g0 G) sk L cl ln iv rv) (hS : SKL sk L cl) (t_a0 : ty L cl a0 25) (t_r : ∀ b, r = some b → ty L cl b 100) (hn : iv a0 2 = 0) : Mc l G mi (Phi (g0 G) sk) PHM yX3_gatherPart cX3_gatherPart 4 none 8 [.ref a0, va_rf r] L cl ln iv rv 0 (fun v L2 cl2 ln2 iv2 rv2 => v = none ∧ XT L cl ln L2 cl2 ln2 ∧ fT [25, 1003] L cl iv rv iv2 rv2 ∧ WT (g0 G) sk L2 cl2 ln2 iv2 rv2 ∧ (iv2 a0 2 ≤ 6002)) := by
  refine Mc.mk (by decide) (by cases r <;> exact Nat.le_of_ble_eq_true rfl) ?_
  intro p e s m args below meth c A C hM
  have hph := Phi.le hW hS
  refine c_lveq (show lv_args 0 [.ref a0, va_rf r] = [(0, .ref a0), (1, (va_rf r))] from by cases r <;> rfl) ?_
  have hX0 : XT L cl ln L cl ln := XT.refl
  have hF0 : fT [25, 1003] L cl iv rv iv rv := fT.refl
  refine c_aloadr_n (j := 1) (r := r) C dX3_gatherPart_0 rfl ?_
  refine c_ifnonnull (r := r) (tgt := 5) C dX3_gatherPart_1 (by decide) (fun ob1 oq1 => ?_) (fun oq1 => ?_)
  · subst oq1
    have tob1 := t_r ob1 rfl
    refine c_lv (lv2 := [(0, .ref a0), (1, .ref ob1)]) [0, 1] rfl ?_
    refine c_st (st2 := []) rfl ?_
    refine c_aload_n (j := 1) (x := ob1) C dX3_gatherPart_5 rfl ?_
    refine c_astore_n (lv2 := [(2, .ref ob1), (0, .ref a0), (1, .ref ob1)]) C dX3_gatherPart_6 (by decide) rfl ?_
    have Lp1 : ∀ (nn : Nat) (tq : Option Nat) (rk : Int) (Lb1 : List Nat) (clb1 lnb1 : Nat → Nat) (ivb1 : Nat → Nat → Int) (rvb1 : Nat → Nat → Option Nat) , rk - 99 < (nn : Int) → XT L cl ln Lb1 clb1 lnb1 → WT (g0 G) sk Lb1 clb1 lnb1 ivb1 rvb1 → fT [25, 1003] L cl iv rv ivb1 rvb1 → (∀ b, tq = some b → ty Lb1 clb1 b 100) → (99 ≤ rk ∧ rk ≤ 129) → (ivb1 a0 2 ≤ 200 * (129 - rk)) → (∀ b, tq = some b → ((clb1 b : Nat) : Int) ≤ rk) → cw p l e 8 ((PHM) + 0 - ((Phi (g0 G) sk) ln rv)) s m args below meth c G A 4 (MQ below (Qu G A (Qp G (Phi (g0 G) sk) ((Phi (g0 G) sk) ln rv) 0 (fun v L2 cl2 ln2 iv2 rv2 => v = none ∧ XT L cl ln L2 cl2 ln2 ∧ fT [25, 1003] L cl iv rv iv2 rv2 ∧ WT (g0 G) sk L2 cl2 ln2 iv2 rv2 ∧ (iv2 a0 2 ≤ 6002)))) args s (((PHM) + 0 - ((Phi (g0 G) sk) ln rv)) / 16) ((PHM) + 0 - ((Phi (g0 G) sk) ln rv)) A) (Phi (g0 G) sk) ((Phi (g0 G) sk) ln rv) Lb1 clb1 lnb1 ivb1 rvb1 0 7 [(2, (va_rf tq)), (0, .ref a0), (1, .ref ob1)] [] := by
      intro nn
      induction nn with
      | zero =>
        intro tq rk Lb1 clb1 lnb1 ivb1 rvb1 hm Xb1 Wb1 Fb1 ty_tq h99 hsz hrk
        have skb1 := Xb1.skl hS
        exact absurd hm (by omega)
      | succ nn ih1 =>
        intro tq rk Lb1 clb1 lnb1 ivb1 rvb1 hm Xb1 Wb1 Fb1 ty_tq h99 hsz hrk
        have skb1 := Xb1.skl hS
        refine c_aloadr_n (j := 0) (r := tq) C dX3_gatherPart_7 rfl ?_
        refine c_ifnull (r := tq) (tgt := 54) C dX3_gatherPart_8 (by decide) (fun oq2 => ?_) (fun ob2 oq2 => ?_)
        · subst oq2
          refine c_lv (lv2 := [(2, .null), (0, .ref a0), (1, .ref ob1)]) [0, 1, 2] rfl ?_
          refine c_st (st2 := []) rfl ?_
          refine c_aload_n (j := 1) (x := a0) C dX3_gatherPart_54 rfl ?_
          refine c_aload_n (j := 2) (x := ob1) C dX3_gatherPart_55 rfl ?_
          have ty1 := Xb1.ty tob1
          obtain ⟨rb1, rq1, trb1⟩ := Wb1.ref ty1 6 rfl rfl rfl
          have lnrb1 : 4 ≤ lnb1 rb1 ∧ lnb1 rb1 ≤ 4 := Wb1.len trb1 rfl
          refine c_getr (k := 6) C ck_10 dX3_gatherPart_56 w2_193 (by decide) ty1 rfl rfl (by decide) rfl rq1 ?_
          refine c_st (st2 := [.ref rb1, .ref a0]) rfl ?_
          refine c_iconst C dX3_gatherPart_59 ?_
          have ll1 : 4 ≤ lnb1 rb1 ∧ lnb1 rb1 ≤ 4 := Wb1.len trb1 rfl
          rcases Wb1.opt trb1 ((0 : Int).toNat) rfl rfl with ⟨nq1, _⟩ | ⟨nb1, nq1, tnb1⟩
          · refine c_aaldR C dX3_gatherPart_60 trb1 rfl (by omega) (by omega) (by omega) nq1 ?_
            refine c_st (st2 := [.null, .ref a0]) rfl ?_
            have ty2 := Xb1.ty t_a0
            have ri1 : 0 ≤ ivb1 a0 2 ∧ ivb1 a0 2 ≤ 6003 := Wb1.int ty2 2
            have pl1 := Phi.le Wb1 skb1
            refine d_callS (As := [.ref a0, .null]) (rest := []) C hM (C_addInd_25 (a0 := a0) (r := none) Wb1 skb1 ty2 (fun _ q => by cases q)  (by show ivb1 a0 2 < 6003; omega)) dX3_gatherPart_61 kS_X3_67 rfl rfl (Nat.le_of_ble_eq_true rfl) ⟨(Nat.le_of_ble_eq_true rfl), (Nat.le_of_ble_eq_true rfl)⟩ hph pl1 (show 0 + 0 = 0 from rfl) (by decide) (fun rh1 Lh1 clh1 lnh1 ivh1 rvh1 h1 => ?_)
            obtain ⟨rfl, xl1, fl1, W1, exf1⟩ := h1
            have F1 := Fb1.call Xb1 fl1 rfl
            have X1 := Xb1.trans xl1
            have sk1 := xl1.skl skb1
            refine c_st (st2 := []) rfl ?_
            have ty3 := xl1.ty ty2
            have ri2 : 0 ≤ ivh1 a0 2 ∧ ivh1 a0 2 ≤ 6003 := W1.int ty3 2
            have gf1 : ivb1 a0 2 ≤ ivh1 a0 2 ∧ ivh1 a0 2 ≤ ivb1 a0 2 + 1 := exf1
            refine c_aload_n (j := 1) (x := a0) C dX3_gatherPart_64 rfl ?_
            refine c_aload_n (j := 2) (x := ob1) C dX3_gatherPart_65 rfl ?_
            have ty4 := xl1.ty ty1
            have re1 : rvh1 ob1 6 = rvb1 ob1 6 := (fl1.r ty1 rfl 6)
            rw [rq1] at re1
            refine c_getr (k := 6) C ck_10 dX3_gatherPart_66 w2_193 (by decide) ty4 rfl rfl (by decide) rfl re1 ?_
            refine c_st (st2 := [.ref rb1, .ref a0]) rfl ?_
            refine c_iconst C dX3_gatherPart_69 ?_
            have ty5 := xl1.ty trb1
            have ll2 : 4 ≤ lnh1 rb1 ∧ lnh1 rb1 ≤ 4 := W1.len ty5 rfl
            rcases W1.opt ty5 ((1 : Int).toNat) rfl rfl with ⟨nq2, _⟩ | ⟨nb2, nq2, tnb2⟩
            · refine c_aaldR C dX3_gatherPart_70 ty5 rfl (by omega) (by omega) (by omega) nq2 ?_
              refine c_st (st2 := [.null, .ref a0]) rfl ?_
              have pl2 := Phi.le W1 sk1
              refine d_callS (As := [.ref a0, .null]) (rest := []) C hM (C_addInd_25 (a0 := a0) (r := none) W1 sk1 ty3 (fun _ q => by cases q)  (by show ivh1 a0 2 < 6003; omega)) dX3_gatherPart_71 kS_X3_67 rfl rfl (Nat.le_of_ble_eq_true rfl) ⟨(Nat.le_of_ble_eq_true rfl), (Nat.le_of_ble_eq_true rfl)⟩ hph pl2 (show 0 + 0 = 0 from rfl) (by decide) (fun rh2 Lh2 clh2 lnh2 ivh2 rvh2 h2 => ?_)
              obtain ⟨rfl, xl2, fl2, W2, exf2⟩ := h2
              have F2 := F1.call X1 fl2 rfl
              have X2 := X1.trans xl2
              have sk2 := xl2.skl sk1
              refine c_st (st2 := []) rfl ?_
              have ty6 := xl2.ty ty3
              have ri3 : 0 ≤ ivh2 a0 2 ∧ ivh2 a0 2 ≤ 6003 := W2.int ty6 2
              have gf2 : ivh1 a0 2 ≤ ivh2 a0 2 ∧ ivh2 a0 2 ≤ ivh1 a0 2 + 1 := exf2
              have pl3 := Phi.le W2 sk2
              exact c_vret C dX3_gatherPart_74 rfl (by decide) (rom0 hph pl3 (by decide)) ⟨rfl, X2, F2, W2, (by omega)⟩
            · have tnb2 : ty Lh1 clh1 nb2 20 := tnb2
              refine c_aaldR C dX3_gatherPart_70 ty5 rfl (by omega) (by omega) (by omega) nq2 ?_
              refine c_st (st2 := [.ref nb2, .ref a0]) rfl ?_
              have pl4 := Phi.le W1 sk1
              refine d_callS (As := [.ref a0, .ref nb2]) (rest := []) C hM (C_addInd_25 (a0 := a0) (r := (some nb2)) W1 sk1 ty3 (fun _ q => by cases q; exact tnb2)  (by show ivh1 a0 2 < 6003; omega)) dX3_gatherPart_71 kS_X3_67 rfl rfl (Nat.le_of_ble_eq_true rfl) ⟨(Nat.le_of_ble_eq_true rfl), (Nat.le_of_ble_eq_true rfl)⟩ hph pl4 (show 0 + 0 = 0 from rfl) (by decide) (fun rh3 Lh3 clh3 lnh3 ivh3 rvh3 h3 => ?_)
              obtain ⟨rfl, xl3, fl3, W3, exf3⟩ := h3
              have F3 := F1.call X1 fl3 rfl
              have X3 := X1.trans xl3
              have sk3 := xl3.skl sk1
              refine c_st (st2 := []) rfl ?_
              have ty7 := xl3.ty ty3
              have ri4 : 0 ≤ ivh3 a0 2 ∧ ivh3 a0 2 ≤ 6003 := W3.int ty7 2
              have gf3 : ivh1 a0 2 ≤ ivh3 a0 2 ∧ ivh3 a0 2 ≤ ivh1 a0 2 + 1 := exf3
              have pl5 := Phi.le W3 sk3
              exact c_vret C dX3_gatherPart_74 rfl (by decide) (rom0 hph pl5 (by decide)) ⟨rfl, X3, F3, W3, (by omega)⟩
          · have tnb1 : ty Lb1 clb1 nb1 20 := tnb1
            refine c_aaldR C dX3_gatherPart_60 trb1 rfl (by omega) (by omega) (by omega) nq1 ?_
            refine c_st (st2 := [.ref nb1, .ref a0]) rfl ?_
            have ty8 := Xb1.ty t_a0
            have ri5 : 0 ≤ ivb1 a0 2 ∧ ivb1 a0 2 ≤ 6003 := Wb1.int ty8 2
            have pl6 := Phi.le Wb1 skb1
            refine d_callS (As := [.ref a0, .ref nb1]) (rest := []) C hM (C_addInd_25 (a0 := a0) (r := (some nb1)) Wb1 skb1 ty8 (fun _ q => by cases q; exact tnb1)  (by show ivb1 a0 2 < 6003; omega)) dX3_gatherPart_61 kS_X3_67 rfl rfl (Nat.le_of_ble_eq_true rfl) ⟨(Nat.le_of_ble_eq_true rfl), (Nat.le_of_ble_eq_true rfl)⟩ hph pl6 (show 0 + 0 = 0 from rfl) (by decide) (fun rh4 Lh4 clh4 lnh4 ivh4 rvh4 h4 => ?_)
            obtain ⟨rfl, xl4, fl4, W4, exf4⟩ := h4
            have F4 := Fb1.call Xb1 fl4 rfl
            have X4 := Xb1.trans xl4
            have sk4 := xl4.skl skb1
            refine c_st (st2 := []) rfl ?_
            have ty9 := xl4.ty ty8
            have ri6 : 0 ≤ ivh4 a0 2 ∧ ivh4 a0 2 ≤ 6003 := W4.int ty9 2
            have gf4 : ivb1 a0 2 ≤ ivh4 a0 2 ∧ ivh4 a0 2 ≤ ivb1 a0 2 + 1 := exf4
            refine c_aload_n (j := 1) (x := a0) C dX3_gatherPart_64 rfl ?_
            refine c_aload_n (j := 2) (x := ob1) C dX3_gatherPart_65 rfl ?_
            have ty10 := xl4.ty ty1
            have re2 : rvh4 ob1 6 = rvb1 ob1 6 := (fl4.r ty1 rfl 6)
            rw [rq1] at re2
            refine c_getr (k := 6) C ck_10 dX3_gatherPart_66 w2_193 (by decide) ty10 rfl rfl (by decide) rfl re2 ?_
            refine c_st (st2 := [.ref rb1, .ref a0]) rfl ?_
            refine c_iconst C dX3_gatherPart_69 ?_
            have ty11 := xl4.ty trb1
            have ll3 : 4 ≤ lnh4 rb1 ∧ lnh4 rb1 ≤ 4 := W4.len ty11 rfl
            rcases W4.opt ty11 ((1 : Int).toNat) rfl rfl with ⟨nq3, _⟩ | ⟨nb3, nq3, tnb3⟩
            · refine c_aaldR C dX3_gatherPart_70 ty11 rfl (by omega) (by omega) (by omega) nq3 ?_
              refine c_st (st2 := [.null, .ref a0]) rfl ?_
              have pl7 := Phi.le W4 sk4
              refine d_callS (As := [.ref a0, .null]) (rest := []) C hM (C_addInd_25 (a0 := a0) (r := none) W4 sk4 ty9 (fun _ q => by cases q)  (by show ivh4 a0 2 < 6003; omega)) dX3_gatherPart_71 kS_X3_67 rfl rfl (Nat.le_of_ble_eq_true rfl) ⟨(Nat.le_of_ble_eq_true rfl), (Nat.le_of_ble_eq_true rfl)⟩ hph pl7 (show 0 + 0 = 0 from rfl) (by decide) (fun rh5 Lh5 clh5 lnh5 ivh5 rvh5 h5 => ?_)
              obtain ⟨rfl, xl5, fl5, W5, exf5⟩ := h5
              have F5 := F4.call X4 fl5 rfl
              have ty12 := xl4.ty tnb1
              have X5 := X4.trans xl5
              have sk5 := xl5.skl sk4
              refine c_st (st2 := []) rfl ?_
              have ty13 := xl5.ty ty9
              have ri7 : 0 ≤ ivh5 a0 2 ∧ ivh5 a0 2 ≤ 6003 := W5.int ty13 2
              have gf5 : ivh4 a0 2 ≤ ivh5 a0 2 ∧ ivh5 a0 2 ≤ ivh4 a0 2 + 1 := exf5
              have pl8 := Phi.le W5 sk5
              exact c_vret C dX3_gatherPart_74 rfl (by decide) (rom0 hph pl8 (by decide)) ⟨rfl, X5, F5, W5, (by omega)⟩
            · have tnb3 : ty Lh4 clh4 nb3 20 := tnb3
              refine c_aaldR C dX3_gatherPart_70 ty11 rfl (by omega) (by omega) (by omega) nq3 ?_
              refine c_st (st2 := [.ref nb3, .ref a0]) rfl ?_
              have pl9 := Phi.le W4 sk4
              refine d_callS (As := [.ref a0, .ref nb3]) (rest := []) C hM (C_addInd_25 (a0 := a0) (r := (some nb3)) W4 sk4 ty9 (fun _ q => by cases q; exact tnb3)  (by show ivh4 a0 2 < 6003; omega)) dX3_gatherPart_71 kS_X3_67 rfl rfl (Nat.le_of_ble_eq_true rfl) ⟨(Nat.le_of_ble_eq_true rfl), (Nat.le_of_ble_eq_true rfl)⟩ hph pl9 (show 0 + 0 = 0 from rfl) (by decide) (fun rh6 Lh6 clh6 lnh6 ivh6 rvh6 h6 => ?_)
              obtain ⟨rfl, xl6, fl6, W6, exf6⟩ := h6
              have F6 := F4.call X4 fl6 rfl
              have ty14 := xl4.ty tnb1
              have X6 := X4.trans xl6
              have sk6 := xl6.skl sk4
              refine c_st (st2 := []) rfl ?_
              have ty15 := xl6.ty ty9
              have ri8 : 0 ≤ ivh6 a0 2 ∧ ivh6 a0 2 ≤ 6003 := W6.int ty15 2
              have gf6 : ivh4 a0 2 ≤ ivh6 a0 2 ∧ ivh6 a0 2 ≤ ivh4 a0 2 + 1 := exf6
              have pl10 := Phi.le W6 sk6
              exact c_vret C dX3_gatherPart_74 rfl (by decide) (rom0 hph pl10 (by decide)) ⟨rfl, X6, F6, W6, (by omega)⟩
        · subst oq2
          have tob2 := ty_tq ob2 rfl
          have hkob2 := hrk ob2 rfl
          have tgob2 := bt_100 tob2.2
          refine c_lv (lv2 := [(2, .ref ob2), (0, .ref a0), (1, .ref ob1)]) [0, 1, 2] rfl ?_
          refine c_st (st2 := []) rfl ?_
          refine c_iconst C dX3_gatherPart_11 ?_
          refine c_istore_n (lv2 := [(3, .int (iI 0)), (2, .ref ob2), (0, .ref a0), (1, .ref ob1)]) C dX3_gatherPart_12 (by decide) rfl ?_
          have Lp2 : ∀ (nn : Nat) (tr : Nat) (k : Int) (Lb2 : List Nat) (clb2 lnb2 : Nat → Nat) (ivb2 : Nat → Nat → Int) (rvb2 : Nat → Nat → Option Nat) , 201 - k < (nn : Int) → XT L cl ln Lb2 clb2 lnb2 → WT (g0 G) sk Lb2 clb2 lnb2 ivb2 rvb2 → fT [25, 1003] L cl iv rv ivb2 rvb2 → (ty Lb2 clb2 tr 100) → (0 ≤ k ∧ k ≤ 200) → (ivb2 a0 2 ≤ 200 * (129 - rk) + k) → (100 ≤ clb2 tr ∧ ((clb2 tr : Nat) : Int) ≤ rk) → cw p l e 8 ((PHM) + 0 - ((Phi (g0 G) sk) ln rv)) s m args below meth c G A 4 (MQ below (Qu G A (Qp G (Phi (g0 G) sk) ((Phi (g0 G) sk) ln rv) 0 (fun v L2 cl2 ln2 iv2 rv2 => v = none ∧ XT L cl ln L2 cl2 ln2 ∧ fT [25, 1003] L cl iv rv iv2 rv2 ∧ WT (g0 G) sk L2 cl2 ln2 iv2 rv2 ∧ (iv2 a0 2 ≤ 6002)))) args s (((PHM) + 0 - ((Phi (g0 G) sk) ln rv)) / 16) ((PHM) + 0 - ((Phi (g0 G) sk) ln rv)) A) (Phi (g0 G) sk) ((Phi (g0 G) sk) ln rv) Lb2 clb2 lnb2 ivb2 rvb2 0 13 [(2, .ref tr), (3, .int (iI k)), (0, .ref a0), (1, .ref ob1)] [] := by
            intro nn
            induction nn with
            | zero =>
              intro tr k Lb2 clb2 lnb2 ivb2 rvb2 hm Xb2 Wb2 Fb2 ty_tr hk hs2 hcr
              have skb2 := Xb2.skl hS
              exact absurd hm (by omega)
            | succ nn ih2 =>
              intro tr k Lb2 clb2 lnb2 ivb2 rvb2 hm Xb2 Wb2 Fb2 ty_tr hk hs2 hcr
              have skb2 := Xb2.skl hS
              refine c_iload_n (j := 1) C dX3_gatherPart_13 rfl ?_
              refine c_aload_n (j := 0) (x := tr) C dX3_gatherPart_14 rfl ?_
              obtain ⟨rb2, rq2, trb2⟩ := Wb2.ref ty_tr 4 rfl rfl rfl
              refine c_getr (k := 4) C ck_10 dX3_gatherPart_15 w2_187 (by decide) ty_tr rfl rfl (by decide) rfl rq2 ?_
              refine c_st (st2 := [.ref rb2, .int (iI k)]) rfl ?_
              have ri9 : 0 ≤ ivb2 rb2 2 ∧ ivb2 rb2 2 ≤ 200 := Wb2.int trb2 2
              have pl11 := Phi.le Wb2 skb2
              refine d_callV (As := []) (rest := [.int (iI k)]) C hM (C_size_26 (a0 := rb2) Wb2 skb2 trb2  ) dX3_gatherPart_18 kV_X3_78 rfl trb2 rfl rfl (by decide) ck_0 rfl (Nat.le_of_ble_eq_true rfl) ⟨(Nat.le_of_ble_eq_true rfl), (Nat.le_of_ble_eq_true rfl)⟩ hph pl11 (show 0 + 0 = 0 from rfl) (by decide) (fun rh7 Lh7 clh7 lnh7 ivh7 rvh7 h7 => ?_)
              obtain ⟨f7, rfl, rfl, rfl, rfl, rfl, rfl, rgf7, exf7⟩ := h7
              refine c_st (st2 := [.int (iI f7), .int (iI k)]) rfl ?_
              have gf7 : f7 = ivb2 rb2 2 := exf7
              refine c_icmp_ge (tgt := 46) C ⟨by omega, by omega⟩ ⟨by omega, by omega⟩ dX3_gatherPart_21 (by decide) (fun c1 => ?_) (fun c1 => ?_)
              · refine c_aload_n (j := 0) (x := tr) C dX3_gatherPart_46 rfl ?_
                rcases Wb2.opt ty_tr 2 rfl rfl with ⟨nq4, _⟩ | ⟨nb4, nq4, tnb4⟩
                · refine c_getr (k := 2) C ck_10 dX3_gatherPart_47 w2_181 (by decide) ty_tr rfl rfl (by decide) rfl nq4 ?_
                  refine c_st (st2 := [.null]) rfl ?_
                  refine c_astorer_n (r := none) (lv2 := [(2, .null), (3, .int (iI k)), (0, .ref a0), (1, .ref ob1)]) C dX3_gatherPart_50 (by decide) rfl ?_
                  refine c_goto (tgt := 7) C dX3_gatherPart_51 (by decide) ?_
                  have ty16 := Xb2.ty t_a0
                  have ri10 : 0 ≤ ivb2 a0 2 ∧ ivb2 a0 2 ≤ 6003 := Wb2.int ty16 2
                  refine c_lv (lv2 := [(2, .null), (0, .ref a0), (1, .ref ob1)]) [0, 2, 3] rfl ?_
                  exact ih1  none (rk - 1) _ _ _ _ _ (by omega) Xb2 Wb2 Fb2 (fun _ q => by cases q) (by omega) (by show ivb2 a0 2 ≤ 200 * (129 - (rk - 1)); omega) (fun _ q => by cases q)
                · have rknb4 := Wb2.rank ty_tr (k := 2) (by decide) nq4
                  refine c_getr (k := 2) C ck_10 dX3_gatherPart_47 w2_181 (by decide) ty_tr rfl rfl (by decide) rfl nq4 ?_
                  refine c_st (st2 := [.ref nb4]) rfl ?_
                  refine c_astore_n (lv2 := [(2, .ref nb4), (3, .int (iI k)), (0, .ref a0), (1, .ref ob1)]) C dX3_gatherPart_50 (by decide) rfl ?_
                  refine c_goto (tgt := 7) C dX3_gatherPart_51 (by decide) ?_
                  have ty17 := Xb2.ty t_a0
                  have ri11 : 0 ≤ ivb2 a0 2 ∧ ivb2 a0 2 ≤ 6003 := Wb2.int ty17 2
                  have trnb4 := bt_100 tnb4.2
                  refine c_lv (lv2 := [(2, .ref nb4), (0, .ref a0), (1, .ref ob1)]) [0, 2, 3] rfl ?_
                  exact ih1  (some nb4) (rk - 1) _ _ _ _ _ (by omega) Xb2 Wb2 Fb2 (fun _ q => by cases q; exact tnb4) (by omega) (by show ivb2 a0 2 ≤ 200 * (129 - (rk - 1)); omega) (fun _ q => by cases q; omega)
              · refine c_aload_n (j := 2) (x := a0) C dX3_gatherPart_24 rfl ?_
                refine c_aload_n (j := 0) (x := tr) C dX3_gatherPart_25 rfl ?_
                refine c_getr (k := 4) C ck_10 dX3_gatherPart_26 w2_187 (by decide) ty_tr rfl rfl (by decide) rfl rq2 ?_
                refine c_st (st2 := [.ref rb2, .ref a0]) rfl ?_
                refine c_iload_n (j := 1) C dX3_gatherPart_29 rfl ?_
                refine d_callV (As := [.int (iI k)]) (rest := [.ref a0]) C hM (C_get_26 (a0 := rb2) (i := k) Wb2 skb2 trb2 (by omega) (by show 0 ≤ k ∧ k < ivb2 rb2 2; omega)) dX3_gatherPart_30 kV_X3_82 rfl trb2 rfl rfl (by decide) ck_0 rfl (Nat.le_of_ble_eq_true rfl) ⟨(Nat.le_of_ble_eq_true rfl), (Nat.le_of_ble_eq_true rfl)⟩ hph pl11 (show 0 + 0 = 0 from rfl) (by decide) (fun rh8 Lh8 clh8 lnh8 ivh8 rvh8 h8 => ?_)
                obtain ⟨f8, rfl, rfl, rfl, rfl, rfl, rfl, rgf8, exf8⟩ := h8
                refine c_st (st2 := [.ref f8, .ref a0]) rfl ?_
                have gf8 : el rvb2 rb2 k.toNat = some f8 := exf8
                refine c_cast C ck_6 dX3_gatherPart_33 w5_63 w8_169t rgf8 rfl rfl (by decide) ?_
                have ty18 := Xb2.ty t_a0
                have ri12 : 0 ≤ ivb2 a0 2 ∧ ivb2 a0 2 ≤ 6003 := Wb2.int ty18 2
                refine d_callV (As := [.ref f8]) (rest := []) C hM (C_add_25 (a0 := a0) (x := f8) Wb2 skb2 ty18 rgf8  (by show ivb2 a0 2 < 6003; omega)) dX3_gatherPart_36 kV_X3_97 rfl ty18 rfl rfl (by decide) ck_0 rfl (Nat.le_of_ble_eq_true rfl) ⟨(Nat.le_of_ble_eq_true rfl), (Nat.le_of_ble_eq_true rfl)⟩ hph pl11 (show 0 + 0 = 0 from rfl) (by decide) (fun rh9 Lh9 clh9 lnh9 ivh9 rvh9 h9 => ?_)
                obtain ⟨f9, rfl, xl9, fl9, W9, rgf9, exf9⟩ := h9
                have F7 := Fb2.call Xb2 fl9 rfl
                have ty19 := Xb2.ty tob1
                have X7 := Xb2.trans xl9
                have sk7 := xl9.skl skb2
                refine c_st (st2 := [.int (iI f9)]) rfl ?_
                have ty20 := xl9.ty ty18
                have ri13 : 0 ≤ ivh9 a0 2 ∧ ivh9 a0 2 ≤ 6003 := W9.int ty20 2
                have gf9 : ivh9 a0 2 = ivb2 a0 2 + 1 ∧ el rvh9 a0 (ivb2 a0 2).toNat = some f8 ∧ ∀ i : Nat, (i : Int) < ivb2 a0 2 → el rvh9 a0 i = el rvb2 a0 i := exf9
                refine c_pop C dX3_gatherPart_39 rfl ?_
                refine c_iinc (z := k) (j := 1) (lv2 := [(3, .int (iI (k + 1))), (2, .ref tr), (0, .ref a0), (1, .ref ob1)]) C dX3_gatherPart_40 rfl (by decide) rfl ?_
                refine c_goto (tgt := 13) C dX3_gatherPart_43 (by decide) ?_
                have ty21 := xl9.ty ty_tr
                have ce1 : clh9 tr = clb2 tr := (xl9 tr ty_tr.1).2.1
                refine c_lv (lv2 := [(2, .ref tr), (3, .int (iI (k + 1))), (0, .ref a0), (1, .ref ob1)]) [1, 0, 2, 3] rfl ?_
                exact ih2  tr (k + 1) _ _ _ _ _ (by omega) X7 W9 F7 ty21 (by omega) (by show ivh9 a0 2 ≤ 200 * (129 - rk) + (k + 1); omega) (by show 100 ≤ clh9 tr ∧ ((clh9 tr : Nat) : Int) ≤ rk; omega)
          have ty22 := Xb1.ty t_a0
          have ri14 : 0 ≤ ivb1 a0 2 ∧ ivb1 a0 2 ≤ 6003 := Wb1.int ty22 2
          refine c_lv (lv2 := [(2, .ref ob2), (3, .int (iI 0)), (0, .ref a0), (1, .ref ob1)]) [1, 0, 2, 3] rfl ?_
          exact Lp2 203 ob2 0 _ _ _ _ _ (by omega) Xb1 Wb1 Fb1 tob2 (by omega) (by show ivb1 a0 2 ≤ 200 * (129 - rk) + 0; omega) (by show 100 ≤ clb1 ob2 ∧ ((clb1 ob2 : Nat) : Int) ≤ rk; omega)
    have ri15 : 0 ≤ iv a0 2 ∧ iv a0 2 ≤ 6003 := hW.int t_a0 2
    have trob1 := bt_100 tob1.2
    refine c_lv (lv2 := [(2, .ref ob1), (0, .ref a0), (1, .ref ob1)]) [0, 1, 2] rfl ?_
    exact Lp1 31 (some ob1) 129 _ _ _ _ _ (by omega) hX0 hW hF0 (fun _ q => by cases q; exact tob1) (by omega) (by show iv a0 2 ≤ 200 * (129 - 129); omega) (fun _ q => by cases q; omega)
  · subst oq1
    refine c_lv (lv2 := [(0, .ref a0), (1, .null)]) [0, 1] rfl ?_
    refine c_st (st2 := []) rfl ?_
    have ri16 : 0 ≤ iv a0 2 ∧ iv a0 2 ≤ 6003 := hW.int t_a0 2
    exact c_vret C dX3_gatherPart_4 rfl (by decide) (rom0 hph hph (by decide)) ⟨rfl, hX0, hF0, hW, (by omega)⟩
set_option maxHeartbeats 4000000 in
set_option maxRecDepth 100000 in
theorem C_isReadable_25 {l : Launch} {G : GT} {mi : Nat} {sk : Nat → Nat} {L : List Nat} {cl ln : Nat → Nat} {iv : Nat → Nat → Int} {rv : Nat → Nat → Option Nat}  {a0 : Nat} {x : Int} (hW : WT (g0 G) sk L cl ln iv rv) (hS : SKL sk L cl) (t_a0 : ty L cl a0 25) (h_x : -2147483648 ≤ x ∧ x ≤ 2147483647)  : Mc l G mi (Phi (g0 G) sk) PHM yX3_isReadable cX3_isReadable 6 (some .boolean) 3 [.ref a0, .int (iI x)] L cl ln iv rv 0 (fun v L2 cl2 ln2 iv2 rv2 => ∃ f : Int, v = some (.int (iI f)) ∧ L = L2 ∧ cl = cl2 ∧ ln = ln2 ∧ iv = iv2 ∧ rv = rv2 ∧ (f = 0 ∨ f = 1) ∧ (True)) := by
  refine Mc.mk (by decide) (Nat.le_of_ble_eq_true rfl) ?_
  intro p e s m args below meth c A C hM
  have hph := Phi.le hW hS
  have hX0 : XT L cl ln L cl ln := XT.refl
  have hF0 : fT [] L cl iv rv iv rv := fT.refl
  refine c_aload_n (j := 0) (x := a0) C dX3_isReadable_0 rfl ?_
  have ri1 : 0 ≤ iv a0 2 ∧ iv a0 2 ≤ 6003 := hW.int t_a0 2
  refine d_callV (As := []) (rest := []) C hM (C_size_25 (a0 := a0) hW hS t_a0  ) dX3_isReadable_1 kV_X3_78 rfl t_a0 rfl rfl (by decide) ck_0 rfl (Nat.le_of_ble_eq_true rfl) ⟨(Nat.le_of_ble_eq_true rfl), (Nat.le_of_ble_eq_true rfl)⟩ hph hph (show 0 + 0 = 0 from rfl) (by decide) (fun rh1 Lh1 clh1 lnh1 ivh1 rvh1 h1 => ?_)
  obtain ⟨f1, rfl, rfl, rfl, rfl, rfl, rfl, rgf1, exf1⟩ := h1
  refine c_st (st2 := [.int (iI f1)]) rfl ?_
  have gf1 : f1 = iv a0 2 := exf1
  refine c_istore_n (lv2 := [(2, .int (iI f1)), (0, .ref a0), (1, .int (iI x))]) C dX3_isReadable_4 (by decide) rfl ?_
  refine c_iconst C dX3_isReadable_5 ?_
  refine c_istore_n (lv2 := [(3, .int (iI 0)), (2, .int (iI f1)), (0, .ref a0), (1, .int (iI x))]) C dX3_isReadable_6 (by decide) rfl ?_
  have Lp1 : ∀ (nn : Nat) (k : Int) , 6004 - k < (nn : Int) → (0 ≤ k ∧ k ≤ 6003) → cw p l e 3 ((PHM) + 0 - ((Phi (g0 G) sk) ln rv)) s m args below meth c G A 6 (MQ below (Qu G A (Qp G (Phi (g0 G) sk) ((Phi (g0 G) sk) ln rv) 0 (fun v L2 cl2 ln2 iv2 rv2 => ∃ f : Int, v = some (.int (iI f)) ∧ L = L2 ∧ cl = cl2 ∧ ln = ln2 ∧ iv = iv2 ∧ rv = rv2 ∧ (f = 0 ∨ f = 1) ∧ (True)))) args s (((PHM) + 0 - ((Phi (g0 G) sk) ln rv)) / 16) ((PHM) + 0 - ((Phi (g0 G) sk) ln rv)) A) (Phi (g0 G) sk) ((Phi (g0 G) sk) ln rv) L cl ln iv rv 0 7 [(3, .int (iI k)), (2, .int (iI f1)), (0, .ref a0), (1, .int (iI x))] [] := by
    intro nn
    induction nn with
    | zero =>
      intro  k  hm   hk
      exact absurd hm (by omega)
    | succ nn ih1 =>
      intro  k  hm   hk
      refine c_iload_n (j := 0) C dX3_isReadable_7 rfl ?_
      refine c_iload_n (j := 1) C dX3_isReadable_8 rfl ?_
      refine c_icmp_ge (tgt := 79) C ⟨by omega, by omega⟩ ⟨by omega, by omega⟩ dX3_isReadable_9 (by decide) (fun c1 => ?_) (fun c1 => ?_)
      · refine c_iconst C dX3_isReadable_79 ?_
        exact c_zret C dX3_isReadable_80 rfl (Or.inr rfl) (by decide) (rom0 hph hph (by decide)) ⟨1, rfl, rfl, rfl, rfl, rfl, rfl, (Or.inr rfl), trivial⟩
      · refine c_aload_n (j := 2) (x := a0) C dX3_isReadable_12 rfl ?_
        refine c_iload_n (j := 0) C dX3_isReadable_13 rfl ?_
        refine d_callV (As := [.int (iI k)]) (rest := []) C hM (C_get_25 (a0 := a0) (i := k) hW hS t_a0 (by omega) (by show 0 ≤ k ∧ k < iv a0 2; omega)) dX3_isReadable_14 kV_X3_82 rfl t_a0 rfl rfl (by decide) ck_0 rfl (Nat.le_of_ble_eq_true rfl) ⟨(Nat.le_of_ble_eq_true rfl), (Nat.le_of_ble_eq_true rfl)⟩ hph hph (show 0 + 0 = 0 from rfl) (by decide) (fun rh2 Lh2 clh2 lnh2 ivh2 rvh2 h2 => ?_)
        obtain ⟨f2, rfl, rfl, rfl, rfl, rfl, rfl, rgf2, exf2⟩ := h2
        refine c_st (st2 := [.ref f2]) rfl ?_
        have gf2 : el rv a0 k.toNat = some f2 := exf2
        refine c_cast C ck_6 dX3_isReadable_17 w5_63 w8_169t rgf2 rfl rfl (by decide) ?_
        refine c_astore (lv2 := [(4, .ref f2), (3, .int (iI k)), (2, .int (iI f1)), (0, .ref a0), (1, .int (iI x))]) C dX3_isReadable_20 (by decide) rfl ?_
        refine c_aload (j := 0) (x := f2) C dX3_isReadable_22 rfl ?_
        refine c_iload_n (j := 4) C dX3_isReadable_24 rfl ?_
        refine d_callV (As := [.int (iI x)]) (rest := []) C hM (C_rends (a0 := f2) (x := x) hW hS rgf2 (by omega) ) dX3_isReadable_25 kV_X3_100 rfl rgf2 rfl rfl (by decide) ck_6 rfl (Nat.le_of_ble_eq_true rfl) ⟨(Nat.le_of_ble_eq_true rfl), (Nat.le_of_ble_eq_true rfl)⟩ hph hph (show 0 + 0 = 0 from rfl) (by decide) (fun rh3 Lh3 clh3 lnh3 ivh3 rvh3 h3 => ?_)
        obtain ⟨f3, rfl, rfl, rfl, rfl, rfl, rfl, rgf3, exf3⟩ := h3
        refine c_st (st2 := [.int (iI f3)]) rfl ?_
        refine c_if_eq (tgt := 33) C ⟨by omega, by omega⟩ dX3_isReadable_28 (by decide) (fun c2 => ?_) (fun c2 => ?_)
        · refine c_iconst C dX3_isReadable_33 ?_
          refine c_istore (lv2 := [(5, .int (iI 0)), (4, .ref f2), (3, .int (iI k)), (2, .int (iI f1)), (0, .ref a0), (1, .int (iI x))]) C dX3_isReadable_34 (by decide) rfl ?_
          have Lp2 : ∀ (nn : Nat) (k2 : Int) , 6004 - k2 < (nn : Int) → (0 ≤ k2 ∧ k2 ≤ 6003) → cw p l e 3 ((PHM) + 0 - ((Phi (g0 G) sk) ln rv)) s m args below meth c G A 6 (MQ below (Qu G A (Qp G (Phi (g0 G) sk) ((Phi (g0 G) sk) ln rv) 0 (fun v L2 cl2 ln2 iv2 rv2 => ∃ f : Int, v = some (.int (iI f)) ∧ L = L2 ∧ cl = cl2 ∧ ln = ln2 ∧ iv = iv2 ∧ rv = rv2 ∧ (f = 0 ∨ f = 1) ∧ (True)))) args s (((PHM) + 0 - ((Phi (g0 G) sk) ln rv)) / 16) ((PHM) + 0 - ((Phi (g0 G) sk) ln rv)) A) (Phi (g0 G) sk) ((Phi (g0 G) sk) ln rv) L cl ln iv rv 0 36 [(5, .int (iI k2)), (4, .ref f2), (3, .int (iI k)), (2, .int (iI f1)), (0, .ref a0), (1, .int (iI x))] [] := by
            intro nn
            induction nn with
            | zero =>
              intro  k2  hm   hk2
              exact absurd hm (by omega)
            | succ nn ih2 =>
              intro  k2  hm   hk2
              refine c_iload (j := 0) C dX3_isReadable_36 rfl ?_
              refine c_iload_n (j := 3) C dX3_isReadable_38 rfl ?_
              refine c_icmp_ge (tgt := 73) C ⟨by omega, by omega⟩ ⟨by omega, by omega⟩ dX3_isReadable_39 (by decide) (fun c3 => ?_) (fun c3 => ?_)
              · refine c_iinc (z := k) (j := 2) (lv2 := [(3, .int (iI (k + 1))), (5, .int (iI k2)), (4, .ref f2), (2, .int (iI f1)), (0, .ref a0), (1, .int (iI x))]) C dX3_isReadable_73 rfl (by decide) rfl ?_
                refine c_goto (tgt := 7) C dX3_isReadable_76 (by decide) ?_
                refine c_lv (lv2 := [(3, .int (iI (k + 1))), (2, .int (iI f1)), (0, .ref a0), (1, .int (iI x))]) [0, 3, 4, 5] rfl ?_
                exact ih1  (k + 1)  (by omega)   (by omega)
              · refine c_iload (j := 0) C dX3_isReadable_42 rfl ?_
                refine c_iload_n (j := 2) C dX3_isReadable_44 rfl ?_
                refine c_icmp_eq (tgt := 67) C ⟨by omega, by omega⟩ ⟨by omega, by omega⟩ dX3_isReadable_45 (by decide) (fun c4 => ?_) (fun c4 => ?_)
                · refine c_iinc (z := k2) (j := 0) (lv2 := [(5, .int (iI (k2 + 1))), (4, .ref f2), (3, .int (iI k)), (2, .int (iI f1)), (0, .ref a0), (1, .int (iI x))]) C dX3_isReadable_67 rfl (by decide) rfl ?_
                  refine c_goto (tgt := 36) C dX3_isReadable_70 (by decide) ?_
                  refine c_lv (lv2 := [(5, .int (iI (k2 + 1))), (4, .ref f2), (3, .int (iI k)), (2, .int (iI f1)), (0, .ref a0), (1, .int (iI x))]) [0, 1, 2, 3, 4, 5] rfl ?_
                  exact ih2  (k2 + 1)  (by omega)   (by omega)
                · refine c_aload (j := 1) (x := f2) C dX3_isReadable_48 rfl ?_
                  refine c_aload_n (j := 4) (x := a0) C dX3_isReadable_50 rfl ?_
                  refine c_iload (j := 0) C dX3_isReadable_51 rfl ?_
                  refine d_callV (As := [.int (iI k2)]) (rest := [.ref f2]) C hM (C_get_25 (a0 := a0) (i := k2) hW hS t_a0 (by omega) (by show 0 ≤ k2 ∧ k2 < iv a0 2; omega)) dX3_isReadable_53 kV_X3_82 rfl t_a0 rfl rfl (by decide) ck_0 rfl (Nat.le_of_ble_eq_true rfl) ⟨(Nat.le_of_ble_eq_true rfl), (Nat.le_of_ble_eq_true rfl)⟩ hph hph (show 0 + 0 = 0 from rfl) (by decide) (fun rh4 Lh4 clh4 lnh4 ivh4 rvh4 h4 => ?_)
                  obtain ⟨f4, rfl, rfl, rfl, rfl, rfl, rfl, rgf4, exf4⟩ := h4
                  refine c_st (st2 := [.ref f4, .ref f2]) rfl ?_
                  have gf4 : el rv a0 k2.toNat = some f4 := exf4
                  refine c_cast C ck_6 dX3_isReadable_56 w5_63 w8_169t rgf4 rfl rfl (by decide) ?_
                  refine d_callV (As := [.ref f4]) (rest := []) C hM (C_isAtBegin (a0 := f2) (a1 := f4) hW hS rgf2 rgf4  ) dX3_isReadable_59 kV_X3_104 rfl rgf2 rfl rfl (by decide) ck_6 rfl (Nat.le_of_ble_eq_true rfl) ⟨(Nat.le_of_ble_eq_true rfl), (Nat.le_of_ble_eq_true rfl)⟩ hph hph (show 0 + 0 = 0 from rfl) (by decide) (fun rh5 Lh5 clh5 lnh5 ivh5 rvh5 h5 => ?_)
                  obtain ⟨f5, rfl, rfl, rfl, rfl, rfl, rfl, rgf5, exf5⟩ := h5
                  refine c_st (st2 := [.int (iI f5)]) rfl ?_
                  refine c_if_eq (tgt := 67) C ⟨by omega, by omega⟩ dX3_isReadable_62 (by decide) (fun c5 => ?_) (fun c5 => ?_)
                  · refine c_iinc (z := k2) (j := 0) (lv2 := [(5, .int (iI (k2 + 1))), (4, .ref f2), (3, .int (iI k)), (2, .int (iI f1)), (0, .ref a0), (1, .int (iI x))]) C dX3_isReadable_67 rfl (by decide) rfl ?_
                    refine c_goto (tgt := 36) C dX3_isReadable_70 (by decide) ?_
                    refine c_lv (lv2 := [(5, .int (iI (k2 + 1))), (4, .ref f2), (3, .int (iI k)), (2, .int (iI f1)), (0, .ref a0), (1, .int (iI x))]) [0, 1, 2, 3, 4, 5] rfl ?_
                    exact ih2  (k2 + 1)  (by omega)   (by omega)
                  · refine c_iconst C dX3_isReadable_65 ?_
                    exact c_zret C dX3_isReadable_66 rfl (Or.inl rfl) (by decide) (rom0 hph hph (by decide)) ⟨0, rfl, rfl, rfl, rfl, rfl, rfl, (Or.inl rfl), trivial⟩
          refine c_lv (lv2 := [(5, .int (iI 0)), (4, .ref f2), (3, .int (iI k)), (2, .int (iI f1)), (0, .ref a0), (1, .int (iI x))]) [0, 1, 2, 3, 4, 5] rfl ?_
          exact Lp2 6006 0  (by omega)   (by omega)
        · refine c_iconst C dX3_isReadable_31 ?_
          exact c_zret C dX3_isReadable_32 rfl (Or.inl rfl) (by decide) (rom0 hph hph (by decide)) ⟨0, rfl, rfl, rfl, rfl, rfl, rfl, (Or.inl rfl), trivial⟩
  refine c_lv (lv2 := [(3, .int (iI 0)), (2, .int (iI f1)), (0, .ref a0), (1, .int (iI x))]) [0, 1, 2, 3] rfl ?_
  exact Lp1 6006 0  (by omega)   (by omega)
set_option maxHeartbeats 4000000 in
set_option maxRecDepth 100000 in
theorem C_gather {l : Launch} {G : GT} {mi : Nat} {sk : Nat → Nat} {L : List Nat} {cl ln : Nat → Nat} {iv : Nat → Nat → Int} {rv : Nat → Nat → Option Nat}  {a0 : Nat} {a1 : Nat} (hW : WT (g0 G) sk L cl ln iv rv) (hS : SKL sk L cl) (t_a0 : ty L cl a0 16) (t_a1 : ty L cl a1 100)  : Mc l G mi (Phi (g0 G) sk) PHM yX3_gather cX3_gather 2 none 9 [.ref a0, .ref a1] L cl ln iv rv 0 (fun v L2 cl2 ln2 iv2 rv2 => v = none ∧ XT L cl ln L2 cl2 ln2 ∧ fT [24, 1002, 25, 1003, 6, 36, 7, 37] L cl iv rv iv2 rv2 ∧ WT (g0 G) sk L2 cl2 ln2 iv2 rv2 ∧ (True)) := by
  refine Mc.mk (by decide) (Nat.le_of_ble_eq_true rfl) ?_
  intro p e s m args below meth c A C hM
  have hph := Phi.le hW hS
  have tsk6 : ty L cl (sk 6) 6 := ⟨(hS 6 rfl).1, by rw [(hS 6 rfl).2]; rfl⟩
  have tsk7 : ty L cl (sk 7) 7 := ⟨(hS 7 rfl).1, by rw [(hS 7 rfl).2]; rfl⟩
  have tsk8 : ty L cl (sk 8) 8 := ⟨(hS 8 rfl).1, by rw [(hS 8 rfl).2]; rfl⟩
  have tsk9 : ty L cl (sk 9) 9 := ⟨(hS 9 rfl).1, by rw [(hS 9 rfl).2]; rfl⟩
  have tsk10 : ty L cl (sk 10) 10 := ⟨(hS 10 rfl).1, by rw [(hS 10 rfl).2]; rfl⟩
  have tsk24 : ty L cl (sk 24) 24 := ⟨(hS 24 rfl).1, by rw [(hS 24 rfl).2]; rfl⟩
  have tsk25 : ty L cl (sk 25) 25 := ⟨(hS 25 rfl).1, by rw [(hS 25 rfl).2]; rfl⟩
  have hX0 : XT L cl ln L cl ln := XT.refl
  have hF0 : fT [24, 1002, 25, 1003, 6, 36, 7, 37] L cl iv rv iv rv := fT.refl
  refine c_aload_n (j := 0) (x := a0) C dX3_gather_0 rfl ?_
  obtain ⟨rb1, rq1, trb1⟩ := hW.ref t_a0 0 rfl rfl rfl
  have erb1 := hW.sk trb1 (by decide) rfl
  subst erb1
  refine c_getr (k := 0) C ck_4 dX3_gather_1 w1_190 (by decide) t_a0 rfl rfl (by decide) rfl rq1 ?_
  refine c_st (st2 := [.ref (sk 24)]) rfl ?_
  refine d_callV (As := []) (rest := []) C hM (C_lclear_24 (a0 := (sk 24)) hW hS tsk24  ) dX3_gather_4 kV_X3_47 rfl tsk24 rfl rfl (by decide) ck_0 rfl (Nat.le_of_ble_eq_true rfl) ⟨(Nat.le_of_ble_eq_true rfl), (Nat.le_of_ble_eq_true rfl)⟩ hph hph (show 0 + 0 = 0 from rfl) (by decide) (fun rh1 Lh1 clh1 lnh1 ivh1 rvh1 h1 => ?_)
  obtain ⟨rfl, rfl, rfl, rfl, fl1, W1, exf1⟩ := h1
  have F1 := hF0.call hX0 fl1 rfl
  refine c_st (st2 := []) rfl ?_
  have ri1 : 0 ≤ ivh1 (sk 24) 2 ∧ ivh1 (sk 24) 2 ≤ 6003 := W1.int tsk24 2
  have gf1 : ivh1 (sk 24) 2 = 0 := exf1
  refine c_aload_n (j := 0) (x := a0) C dX3_gather_7 rfl ?_
  obtain ⟨rb2, rq2, trb2⟩ := W1.ref t_a0 1 rfl rfl rfl
  have erb2 := W1.sk trb2 (by decide) rfl
  subst erb2
  refine c_getr (k := 1) C ck_4 dX3_gather_8 w1_193 (by decide) t_a0 rfl rfl (by decide) rfl rq2 ?_
  refine c_st (st2 := [.ref (sk 25)]) rfl ?_
  have pl1 := Phi.le W1 hS
  refine d_callV (As := []) (rest := []) C hM (C_lclear_25 (a0 := (sk 25)) W1 hS tsk25  ) dX3_gather_11 kV_X3_47 rfl tsk25 rfl rfl (by decide) ck_0 rfl (Nat.le_of_ble_eq_true rfl) ⟨(Nat.le_of_ble_eq_true rfl), (Nat.le_of_ble_eq_true rfl)⟩ hph pl1 (show 0 + 0 = 0 from rfl) (by decide) (fun rh2 Lh2 clh2 lnh2 ivh2 rvh2 h2 => ?_)
  obtain ⟨rfl, rfl, rfl, rfl, fl2, W2, exf2⟩ := h2
  have F2 := F1.call hX0 fl2 rfl
  refine c_st (st2 := []) rfl ?_
  have ri2 : 0 ≤ ivh2 (sk 25) 2 ∧ ivh2 (sk 25) 2 ≤ 6003 := W2.int tsk25 2
  have gf2 : ivh2 (sk 25) 2 = 0 := exf2
  refine c_aload_n (j := 1) (x := a1) C dX3_gather_14 rfl ?_
  have ri3 : (-2147483648) ≤ ivh2 a1 0 ∧ ivh2 a1 0 ≤ 2147483647 := W2.int t_a1 0
  have ie3 : ivh2 a1 0 = ivh1 a1 0 := fl2.i t_a1 rfl 0
  have ie4 : ivh1 a1 0 = iv a1 0 := fl1.i t_a1 rfl 0
  refine c_get (k := 0) C ck_10 dX3_gather_15 w2_175 (by decide) t_a1 rfl rfl (by decide) rfl ?_
  refine c_iconst C dX3_gather_18 ?_
  refine c_icmp_ne (tgt := 73) C ⟨by omega, by omega⟩ ⟨by decide, by decide⟩ dX3_gather_19 (by decide) (fun c1 => ?_) (fun c1 => ?_)
  · refine c_aload_n (j := 0) (x := a0) C dX3_gather_73 rfl ?_
    have re1 : rvh1 a0 0 = rv a0 0 := (fl1.r t_a0 rfl 0)
    rw [rq1] at re1
    have re2 : rvh2 a0 0 = rvh1 a0 0 := (fl2.r t_a0 rfl 0)
    rw [re1] at re2
    refine c_getr (k := 0) C ck_4 dX3_gather_74 w1_190 (by decide) t_a0 rfl rfl (by decide) rfl re2 ?_
    refine c_st (st2 := [.ref (sk 24)]) rfl ?_
    refine c_aload_n (j := 1) (x := a1) C dX3_gather_77 rfl ?_
    have ri4 : 0 ≤ ivh2 (sk 24) 2 ∧ ivh2 (sk 24) 2 ≤ 6003 := W2.int tsk24 2
    have ie5 : ivh2 (sk 24) 2 = ivh1 (sk 24) 2 := fl2.i tsk24 rfl 2
    have pl2 := Phi.le W2 hS
    refine d_callS (As := [.ref (sk 24), .ref a1]) (rest := []) C hM (C_gatherPart_24 (a0 := (sk 24)) (r := (some a1)) W2 hS tsk24 (fun _ q => by cases q; exact t_a1)  (by show ivh2 (sk 24) 2 = 0; omega)) dX3_gather_78 kS_X3_59 rfl rfl (Nat.le_of_ble_eq_true rfl) ⟨(Nat.le_of_ble_eq_true rfl), (Nat.le_of_ble_eq_true rfl)⟩ hph pl2 (show 0 + 0 = 0 from rfl) (by decide) (fun rh3 Lh3 clh3 lnh3 ivh3 rvh3 h3 => ?_)
    obtain ⟨rfl, xl3, fl3, W3, exf3⟩ := h3
    have F3 := F2.call hX0 fl3 rfl
    have X1 := hX0.trans xl3
    have sk1 := xl3.skl hS
    refine c_st (st2 := []) rfl ?_
    have ty1 := xl3.ty tsk24
    have ri5 : 0 ≤ ivh3 (sk 24) 2 ∧ ivh3 (sk 24) 2 ≤ 6003 := W3.int ty1 2
    have gf3 : ivh3 (sk 24) 2 ≤ 6002 := exf3
    refine c_aload_n (j := 0) (x := a0) C dX3_gather_81 rfl ?_
    have ty2 := xl3.ty t_a0
    have re3 : rvh3 a0 0 = rvh2 a0 0 := (fl3.r t_a0 rfl 0)
    rw [re2] at re3
    refine c_getr (k := 0) C ck_4 dX3_gather_82 w1_190 (by decide) ty2 rfl rfl (by decide) rfl re3 ?_
    refine c_st (st2 := [.ref (sk 24)]) rfl ?_
    refine c_aload_n (j := 0) (x := a0) C dX3_gather_85 rfl ?_
    obtain ⟨rb3, rq3, trb3⟩ := W3.ref ty2 2 rfl rfl rfl
    have erb3 := W3.sk trb3 (by decide) rfl
    subst erb3
    refine c_getr (k := 2) C ck_4 dX3_gather_86 w1_196 (by decide) ty2 rfl rfl (by decide) rfl rq3 ?_
    refine c_st (st2 := [.ref (sk 6), .ref (sk 24)]) rfl ?_
    have ty3 := xl3.ty tsk6
    have pl3 := Phi.le W3 sk1
    refine d_callS (As := [.ref (sk 24), .ref (sk 6)]) (rest := []) C hM (C_markBegins_24 (a0 := (sk 24)) (a1 := (sk 6)) W3 sk1 ty1 ty3  ) dX3_gather_89 kS_X3_73 rfl rfl (Nat.le_of_ble_eq_true rfl) ⟨(Nat.le_of_ble_eq_true rfl), (Nat.le_of_ble_eq_true rfl)⟩ hph pl3 (show 0 + 0 = 0 from rfl) (by decide) (fun rh4 Lh4 clh4 lnh4 ivh4 rvh4 h4 => ?_)
    obtain ⟨rfl, xl4, fl4, W4, exf4⟩ := h4
    have F4 := F3.call X1 fl4 rfl
    have ty4 := xl3.ty t_a1
    have ty5 := xl3.ty tsk7
    have ty6 := xl3.ty tsk8
    have ty7 := xl3.ty tsk9
    have ty8 := xl3.ty tsk10
    have ty9 := xl3.ty tsk25
    have X2 := X1.trans xl4
    have sk2 := xl4.skl sk1
    refine c_st (st2 := []) rfl ?_
    refine c_aload_n (j := 0) (x := a0) C dX3_gather_92 rfl ?_
    have ty10 := xl4.ty ty2
    have re4 : rvh2 a0 1 = rvh1 a0 1 := (fl2.r t_a0 rfl 1)
    rw [rq2] at re4
    have re5 : rvh3 a0 1 = rvh2 a0 1 := (fl3.r t_a0 rfl 1)
    rw [re4] at re5
    have re6 : rvh4 a0 1 = rvh3 a0 1 := (fl4.r ty2 rfl 1)
    rw [re5] at re6
    refine c_getr (k := 1) C ck_4 dX3_gather_93 w1_193 (by decide) ty10 rfl rfl (by decide) rfl re6 ?_
    refine c_st (st2 := [.ref (sk 25)]) rfl ?_
    refine c_aload_n (j := 0) (x := a0) C dX3_gather_96 rfl ?_
    obtain ⟨rb4, rq4, trb4⟩ := W4.ref ty10 3 rfl rfl rfl
    have erb4 := W4.sk trb4 (by decide) rfl
    subst erb4
    refine c_getr (k := 3) C ck_4 dX3_gather_97 w1_197 (by decide) ty10 rfl rfl (by decide) rfl rq4 ?_
    refine c_st (st2 := [.ref (sk 7), .ref (sk 25)]) rfl ?_
    have ty11 := xl4.ty ty9
    have ty12 := xl4.ty ty5
    have pl4 := Phi.le W4 sk2
    refine d_callS (As := [.ref (sk 25), .ref (sk 7)]) (rest := []) C hM (C_markBegins_25 (a0 := (sk 25)) (a1 := (sk 7)) W4 sk2 ty11 ty12  ) dX3_gather_100 kS_X3_73 rfl rfl (Nat.le_of_ble_eq_true rfl) ⟨(Nat.le_of_ble_eq_true rfl), (Nat.le_of_ble_eq_true rfl)⟩ hph pl4 (show 0 + 0 = 0 from rfl) (by decide) (fun rh5 Lh5 clh5 lnh5 ivh5 rvh5 h5 => ?_)
    obtain ⟨rfl, xl5, fl5, W5, exf5⟩ := h5
    have F5 := F4.call X2 fl5 rfl
    have ty13 := xl4.ty ty4
    have ty14 := xl4.ty ty3
    have ty15 := xl4.ty ty6
    have ty16 := xl4.ty ty7
    have ty17 := xl4.ty ty8
    have ty18 := xl4.ty ty1
    have X3 := X2.trans xl5
    have sk3 := xl5.skl sk2
    refine c_st (st2 := []) rfl ?_
    have pl5 := Phi.le W5 sk3
    exact c_vret C dX3_gather_103 rfl (by decide) (rom0 hph pl5 (by decide)) ⟨rfl, X3, F5, W5, trivial⟩
  · refine c_aload_n (j := 0) (x := a0) C dX3_gather_22 rfl ?_
    have re7 : rvh1 a0 0 = rv a0 0 := (fl1.r t_a0 rfl 0)
    rw [rq1] at re7
    have re8 : rvh2 a0 0 = rvh1 a0 0 := (fl2.r t_a0 rfl 0)
    rw [re7] at re8
    refine c_getr (k := 0) C ck_4 dX3_gather_23 w1_190 (by decide) t_a0 rfl rfl (by decide) rfl re8 ?_
    refine c_st (st2 := [.ref (sk 24)]) rfl ?_
    refine c_aload_n (j := 1) (x := a1) C dX3_gather_26 rfl ?_
    rcases W2.opt t_a1 2 rfl rfl with ⟨nq1, _⟩ | ⟨nb1, nq1, tnb1⟩
    · refine c_getr (k := 2) C ck_10 dX3_gather_27 w2_181 (by decide) t_a1 rfl rfl (by decide) rfl nq1 ?_
      refine c_st (st2 := [.null, .ref (sk 24)]) rfl ?_
      have ri6 : 0 ≤ ivh2 (sk 24) 2 ∧ ivh2 (sk 24) 2 ≤ 6003 := W2.int tsk24 2
      have ie7 : ivh2 (sk 24) 2 = ivh1 (sk 24) 2 := fl2.i tsk24 rfl 2
      have pl6 := Phi.le W2 hS
      refine d_callS (As := [.ref (sk 24), .null]) (rest := []) C hM (C_gatherPart_24 (a0 := (sk 24)) (r := none) W2 hS tsk24 (fun _ q => by cases q)  (by show ivh2 (sk 24) 2 = 0; omega)) dX3_gather_30 kS_X3_59 rfl rfl (Nat.le_of_ble_eq_true rfl) ⟨(Nat.le_of_ble_eq_true rfl), (Nat.le_of_ble_eq_true rfl)⟩ hph pl6 (show 0 + 0 = 0 from rfl) (by decide) (fun rh6 Lh6 clh6 lnh6 ivh6 rvh6 h6 => ?_)
      obtain ⟨rfl, xl6, fl6, W6, exf6⟩ := h6
      have F6 := F2.call hX0 fl6 rfl
      have X4 := hX0.trans xl6
      have sk4 := xl6.skl hS
      refine c_st (st2 := []) rfl ?_
      have ty19 := xl6.ty tsk24
      have ri7 : 0 ≤ ivh6 (sk 24) 2 ∧ ivh6 (sk 24) 2 ≤ 6003 := W6.int ty19 2
      have gf6 : ivh6 (sk 24) 2 ≤ 6002 := exf6
      refine c_aload_n (j := 0) (x := a0) C dX3_gather_33 rfl ?_
      have ty20 := xl6.ty t_a0
      have re9 : rvh6 a0 0 = rvh2 a0 0 := (fl6.r t_a0 rfl 0)
      rw [re8] at re9
      refine c_getr (k := 0) C ck_4 dX3_gather_34 w1_190 (by decide) ty20 rfl rfl (by decide) rfl re9 ?_
      refine c_st (st2 := [.ref (sk 24)]) rfl ?_
      refine c_aload_n (j := 1) (x := a1) C dX3_gather_37 rfl ?_
      have ty21 := xl6.ty t_a1
      obtain ⟨rb5, rq5, trb5⟩ := W6.ref ty21 6 rfl rfl rfl
      have lnrb5 : 4 ≤ lnh6 rb5 ∧ lnh6 rb5 ≤ 4 := W6.len trb5 rfl
      refine c_getr (k := 6) C ck_10 dX3_gather_38 w2_193 (by decide) ty21 rfl rfl (by decide) rfl rq5 ?_
      refine c_st (st2 := [.ref rb5, .ref (sk 24)]) rfl ?_
      refine c_iconst C dX3_gather_41 ?_
      have ll1 : 4 ≤ lnh6 rb5 ∧ lnh6 rb5 ≤ 4 := W6.len trb5 rfl
      rcases W6.opt trb5 ((2 : Int).toNat) rfl rfl with ⟨nq2, _⟩ | ⟨nb2, nq2, tnb2⟩
      · refine c_aaldR C dX3_gather_42 trb5 rfl (by omega) (by omega) (by omega) nq2 ?_
        refine c_st (st2 := [.null, .ref (sk 24)]) rfl ?_
        have pl7 := Phi.le W6 sk4
        refine d_callS (As := [.ref (sk 24), .null]) (rest := []) C hM (C_addInd_24 (a0 := (sk 24)) (r := none) W6 sk4 ty19 (fun _ q => by cases q)  (by show ivh6 (sk 24) 2 < 6003; omega)) dX3_gather_43 kS_X3_67 rfl rfl (Nat.le_of_ble_eq_true rfl) ⟨(Nat.le_of_ble_eq_true rfl), (Nat.le_of_ble_eq_true rfl)⟩ hph pl7 (show 0 + 0 = 0 from rfl) (by decide) (fun rh7 Lh7 clh7 lnh7 ivh7 rvh7 h7 => ?_)
        obtain ⟨rfl, xl7, fl7, W7, exf7⟩ := h7
        have F7 := F6.call X4 fl7 rfl
        have ty22 := xl6.ty tsk6
        have ty23 := xl6.ty tsk7
        have ty24 := xl6.ty tsk8
        have ty25 := xl6.ty tsk9
        have ty26 := xl6.ty tsk10
        have ty27 := xl6.ty tsk25
        have X5 := X4.trans xl7
        have sk5 := xl7.skl sk4
        refine c_st (st2 := []) rfl ?_
        have ty28 := xl7.ty ty19
        have ri8 : 0 ≤ ivh7 (sk 24) 2 ∧ ivh7 (sk 24) 2 ≤ 6003 := W7.int ty28 2
        have gf7 : ivh6 (sk 24) 2 ≤ ivh7 (sk 24) 2 ∧ ivh7 (sk 24) 2 ≤ ivh6 (sk 24) 2 + 1 := exf7
        refine c_aload_n (j := 0) (x := a0) C dX3_gather_46 rfl ?_
        have ty29 := xl7.ty ty20
        have re10 : rvh2 a0 1 = rvh1 a0 1 := (fl2.r t_a0 rfl 1)
        rw [rq2] at re10
        have re11 : rvh6 a0 1 = rvh2 a0 1 := (fl6.r t_a0 rfl 1)
        rw [re10] at re11
        have re12 : rvh7 a0 1 = rvh6 a0 1 := (fl7.r ty20 rfl 1)
        rw [re11] at re12
        refine c_getr (k := 1) C ck_4 dX3_gather_47 w1_193 (by decide) ty29 rfl rfl (by decide) rfl re12 ?_
        refine c_st (st2 := [.ref (sk 25)]) rfl ?_
        refine c_aload_n (j := 1) (x := a1) C dX3_gather_50 rfl ?_
        have ty30 := xl7.ty ty21
        rcases W7.opt ty30 3 rfl rfl with ⟨nq3, _⟩ | ⟨nb3, nq3, tnb3⟩
        · refine c_getr (k := 3) C ck_10 dX3_gather_51 w2_184 (by decide) ty30 rfl rfl (by decide) rfl nq3 ?_
          refine c_st (st2 := [.null, .ref (sk 25)]) rfl ?_
          have ty31 := xl7.ty ty27
          have ri9 : 0 ≤ ivh7 (sk 25) 2 ∧ ivh7 (sk 25) 2 ≤ 6003 := W7.int ty31 2
          have ie10 : ivh7 (sk 25) 2 = ivh6 (sk 25) 2 := fl7.i ty27 rfl 2
          have ie11 : ivh6 (sk 25) 2 = ivh2 (sk 25) 2 := fl6.i tsk25 rfl 2
          have pl8 := Phi.le W7 sk5
          refine d_callS (As := [.ref (sk 25), .null]) (rest := []) C hM (C_gatherPart_25 (a0 := (sk 25)) (r := none) W7 sk5 ty31 (fun _ q => by cases q)  (by show ivh7 (sk 25) 2 = 0; omega)) dX3_gather_54 kS_X3_59 rfl rfl (Nat.le_of_ble_eq_true rfl) ⟨(Nat.le_of_ble_eq_true rfl), (Nat.le_of_ble_eq_true rfl)⟩ hph pl8 (show 0 + 0 = 0 from rfl) (by decide) (fun rh8 Lh8 clh8 lnh8 ivh8 rvh8 h8 => ?_)
          obtain ⟨rfl, xl8, fl8, W8, exf8⟩ := h8
          have F8 := F7.call X5 fl8 rfl
          have ty32 := xl7.ty ty22
          have ty33 := xl7.ty ty23
          have ty34 := xl7.ty ty24
          have ty35 := xl7.ty ty25
          have ty36 := xl7.ty ty26
          have ty37 := xl7.ty trb5
          have X6 := X5.trans xl8
          have sk6 := xl8.skl sk5
          refine c_st (st2 := []) rfl ?_
          have ty38 := xl8.ty ty31
          have ri10 : 0 ≤ ivh8 (sk 25) 2 ∧ ivh8 (sk 25) 2 ≤ 6003 := W8.int ty38 2
          have gf8 : ivh8 (sk 25) 2 ≤ 6002 := exf8
          refine c_aload_n (j := 0) (x := a0) C dX3_gather_57 rfl ?_
          have ty39 := xl8.ty ty29
          have re13 : rvh8 a0 1 = rvh7 a0 1 := (fl8.r ty29 rfl 1)
          rw [re12] at re13
          refine c_getr (k := 1) C ck_4 dX3_gather_58 w1_193 (by decide) ty39 rfl rfl (by decide) rfl re13 ?_
          refine c_st (st2 := [.ref (sk 25)]) rfl ?_
          refine c_aload_n (j := 1) (x := a1) C dX3_gather_61 rfl ?_
          have ty40 := xl8.ty ty30
          have re14 : rvh7 a1 6 = rvh6 a1 6 := (fl7.r ty21 rfl 6)
          rw [rq5] at re14
          have re15 : rvh8 a1 6 = rvh7 a1 6 := (fl8.r ty30 rfl 6)
          rw [re14] at re15
          refine c_getr (k := 6) C ck_10 dX3_gather_62 w2_193 (by decide) ty40 rfl rfl (by decide) rfl re15 ?_
          refine c_st (st2 := [.ref rb5, .ref (sk 25)]) rfl ?_
          refine c_iconst C dX3_gather_65 ?_
          have ty41 := xl8.ty ty37
          have ll2 : 4 ≤ lnh8 rb5 ∧ lnh8 rb5 ≤ 4 := W8.len ty41 rfl
          rcases W8.opt ty41 ((3 : Int).toNat) rfl rfl with ⟨nq4, _⟩ | ⟨nb4, nq4, tnb4⟩
          · refine c_aaldR C dX3_gather_66 ty41 rfl (by omega) (by omega) (by omega) nq4 ?_
            refine c_st (st2 := [.null, .ref (sk 25)]) rfl ?_
            have pl9 := Phi.le W8 sk6
            refine d_callS (As := [.ref (sk 25), .null]) (rest := []) C hM (C_addInd_25 (a0 := (sk 25)) (r := none) W8 sk6 ty38 (fun _ q => by cases q)  (by show ivh8 (sk 25) 2 < 6003; omega)) dX3_gather_67 kS_X3_67 rfl rfl (Nat.le_of_ble_eq_true rfl) ⟨(Nat.le_of_ble_eq_true rfl), (Nat.le_of_ble_eq_true rfl)⟩ hph pl9 (show 0 + 0 = 0 from rfl) (by decide) (fun rh9 Lh9 clh9 lnh9 ivh9 rvh9 h9 => ?_)
            obtain ⟨rfl, xl9, fl9, W9, exf9⟩ := h9
            have F9 := F8.call X6 fl9 rfl
            have ty42 := xl8.ty ty32
            have ty43 := xl8.ty ty33
            have ty44 := xl8.ty ty34
            have ty45 := xl8.ty ty35
            have ty46 := xl8.ty ty36
            have ty47 := xl8.ty ty28
            have X7 := X6.trans xl9
            have sk7 := xl9.skl sk6
            refine c_st (st2 := []) rfl ?_
            have ty48 := xl9.ty ty38
            have ri11 : 0 ≤ ivh9 (sk 25) 2 ∧ ivh9 (sk 25) 2 ≤ 6003 := W9.int ty48 2
            have gf9 : ivh8 (sk 25) 2 ≤ ivh9 (sk 25) 2 ∧ ivh9 (sk 25) 2 ≤ ivh8 (sk 25) 2 + 1 := exf9
            refine c_goto (tgt := 81) C dX3_gather_70 (by decide) ?_
            refine c_aload_n (j := 0) (x := a0) C dX3_gather_81 rfl ?_
            have ty49 := xl9.ty ty39
            have re16 : rvh7 a0 0 = rvh6 a0 0 := (fl7.r ty20 rfl 0)
            rw [re9] at re16
            have re17 : rvh8 a0 0 = rvh7 a0 0 := (fl8.r ty29 rfl 0)
            rw [re16] at re17
            have re18 : rvh9 a0 0 = rvh8 a0 0 := (fl9.r ty39 rfl 0)
            rw [re17] at re18
            refine c_getr (k := 0) C ck_4 dX3_gather_82 w1_190 (by decide) ty49 rfl rfl (by decide) rfl re18 ?_
            refine c_st (st2 := [.ref (sk 24)]) rfl ?_
            refine c_aload_n (j := 0) (x := a0) C dX3_gather_85 rfl ?_
            obtain ⟨rb6, rq6, trb6⟩ := W9.ref ty49 2 rfl rfl rfl
            have erb6 := W9.sk trb6 (by decide) rfl
            subst erb6
            refine c_getr (k := 2) C ck_4 dX3_gather_86 w1_196 (by decide) ty49 rfl rfl (by decide) rfl rq6 ?_
            refine c_st (st2 := [.ref (sk 6), .ref (sk 24)]) rfl ?_
            have ty50 := xl9.ty ty47
            have ty51 := xl9.ty ty42
            have pl10 := Phi.le W9 sk7
            refine d_callS (As := [.ref (sk 24), .ref (sk 6)]) (rest := []) C hM (C_markBegins_24 (a0 := (sk 24)) (a1 := (sk 6)) W9 sk7 ty50 ty51  ) dX3_gather_89 kS_X3_73 rfl rfl (Nat.le_of_ble_eq_true rfl) ⟨(Nat.le_of_ble_eq_true rfl), (Nat.le_of_ble_eq_true rfl)⟩ hph pl10 (show 0 + 0 = 0 from rfl) (by decide) (fun rh10 Lh10 clh10 lnh10 ivh10 rvh10 h10 => ?_)
            obtain ⟨rfl, xl10, fl10, W10, exf10⟩ := h10
            have F10 := F9.call X7 fl10 rfl
            have ty52 := xl9.ty ty40
            have ty53 := xl9.ty ty43
            have ty54 := xl9.ty ty44
            have ty55 := xl9.ty ty45
            have ty56 := xl9.ty ty46
            have ty57 := xl9.ty ty41
            have X8 := X7.trans xl10
            have sk8 := xl10.skl sk7
            refine c_st (st2 := []) rfl ?_
            refine c_aload_n (j := 0) (x := a0) C dX3_gather_92 rfl ?_
            have ty58 := xl10.ty ty49
            have re19 : rvh9 a0 1 = rvh8 a0 1 := (fl9.r ty39 rfl 1)
            rw [re13] at re19
            have re20 : rvh10 a0 1 = rvh9 a0 1 := (fl10.r ty49 rfl 1)
            rw [re19] at re20
            refine c_getr (k := 1) C ck_4 dX3_gather_93 w1_193 (by decide) ty58 rfl rfl (by decide) rfl re20 ?_
            refine c_st (st2 := [.ref (sk 25)]) rfl ?_
            refine c_aload_n (j := 0) (x := a0) C dX3_gather_96 rfl ?_
            obtain ⟨rb7, rq7, trb7⟩ := W10.ref ty58 3 rfl rfl rfl
            have erb7 := W10.sk trb7 (by decide) rfl
            subst erb7
            refine c_getr (k := 3) C ck_4 dX3_gather_97 w1_197 (by decide) ty58 rfl rfl (by decide) rfl rq7 ?_
            refine c_st (st2 := [.ref (sk 7), .ref (sk 25)]) rfl ?_
            have ty59 := xl10.ty ty48
            have ty60 := xl10.ty ty53
            have pl11 := Phi.le W10 sk8
            refine d_callS (As := [.ref (sk 25), .ref (sk 7)]) (rest := []) C hM (C_markBegins_25 (a0 := (sk 25)) (a1 := (sk 7)) W10 sk8 ty59 ty60  ) dX3_gather_100 kS_X3_73 rfl rfl (Nat.le_of_ble_eq_true rfl) ⟨(Nat.le_of_ble_eq_true rfl), (Nat.le_of_ble_eq_true rfl)⟩ hph pl11 (show 0 + 0 = 0 from rfl) (by decide) (fun rh11 Lh11 clh11 lnh11 ivh11 rvh11 h11 => ?_)
            obtain ⟨rfl, xl11, fl11, W11, exf11⟩ := h11
            have F11 := F10.call X8 fl11 rfl
            have ty61 := xl10.ty ty52
            have ty62 := xl10.ty ty51
            have ty63 := xl10.ty ty54
            have ty64 := xl10.ty ty55
            have ty65 := xl10.ty ty56
            have ty66 := xl10.ty ty50
            have ty67 := xl10.ty ty57
            have X9 := X8.trans xl11
            have sk9 := xl11.skl sk8
            refine c_st (st2 := []) rfl ?_
            have pl12 := Phi.le W11 sk9
            exact c_vret C dX3_gather_103 rfl (by decide) (rom0 hph pl12 (by decide)) ⟨rfl, X9, F11, W11, trivial⟩
          · have tnb4 : ty Lh8 clh8 nb4 20 := tnb4
            refine c_aaldR C dX3_gather_66 ty41 rfl (by omega) (by omega) (by omega) nq4 ?_
            refine c_st (st2 := [.ref nb4, .ref (sk 25)]) rfl ?_
            have pl13 := Phi.le W8 sk6
            refine d_callS (As := [.ref (sk 25), .ref nb4]) (rest := []) C hM (C_addInd_25 (a0 := (sk 25)) (r := (some nb4)) W8 sk6 ty38 (fun _ q => by cases q; exact tnb4)  (by show ivh8 (sk 25) 2 < 6003; omega)) dX3_gather_67 kS_X3_67 rfl rfl (Nat.le_of_ble_eq_true rfl) ⟨(Nat.le_of_ble_eq_true rfl), (Nat.le_of_ble_eq_true rfl)⟩ hph pl13 (show 0 + 0 = 0 from rfl) (by decide) (fun rh12 Lh12 clh12 lnh12 ivh12 rvh12 h12 => ?_)
            obtain ⟨rfl, xl12, fl12, W12, exf12⟩ := h12
            have F12 := F8.call X6 fl12 rfl
            have ty68 := xl8.ty ty32
            have ty69 := xl8.ty ty33
            have ty70 := xl8.ty ty34
            have ty71 := xl8.ty ty35
            have ty72 := xl8.ty ty36
            have ty73 := xl8.ty ty28
            have X10 := X6.trans xl12
            have sk10 := xl12.skl sk6
            refine c_st (st2 := []) rfl ?_
            have ty74 := xl12.ty ty38
            have ri12 : 0 ≤ ivh12 (sk 25) 2 ∧ ivh12 (sk 25) 2 ≤ 6003 := W12.int ty74 2
            have gf12 : ivh8 (sk 25) 2 ≤ ivh12 (sk 25) 2 ∧ ivh12 (sk 25) 2 ≤ ivh8 (sk 25) 2 + 1 := exf12
            refine c_goto (tgt := 81) C dX3_gather_70 (by decide) ?_
            refine c_aload_n (j := 0) (x := a0) C dX3_gather_81 rfl ?_
            have ty75 := xl12.ty ty39
            have re21 : rvh7 a0 0 = rvh6 a0 0 := (fl7.r ty20 rfl 0)
            rw [re9] at re21
            have re22 : rvh8 a0 0 = rvh7 a0 0 := (fl8.r ty29 rfl 0)
            rw [re21] at re22
            have re23 : rvh12 a0 0 = rvh8 a0 0 := (fl12.r ty39 rfl 0)
            rw [re22] at re23
            refine c_getr (k := 0) C ck_4 dX3_gather_82 w1_190 (by decide) ty75 rfl rfl (by decide) rfl re23 ?_
            refine c_st (st2 := [.ref (sk 24)]) rfl ?_
            refine c_aload_n (j := 0) (x := a0) C dX3_gather_85 rfl ?_
            obtain ⟨rb8, rq8, trb8⟩ := W12.ref ty75 2 rfl rfl rfl
            have erb8 := W12.sk trb8 (by decide) rfl
            subst erb8
            refine c_getr (k := 2) C ck_4 dX3_gather_86 w1_196 (by decide) ty75 rfl rfl (by decide) rfl rq8 ?_
            refine c_st (st2 := [.ref (sk 6), .ref (sk 24)]) rfl ?_
            have ty76 := xl12.ty ty73
            have ty77 := xl12.ty ty68
            have pl14 := Phi.le W12 sk10
            refine d_callS (As := [.ref (sk 24), .ref (sk 6)]) (rest := []) C hM (C_markBegins_24 (a0 := (sk 24)) (a1 := (sk 6)) W12 sk10 ty76 ty77  ) dX3_gather_89 kS_X3_73 rfl rfl (Nat.le_of_ble_eq_true rfl) ⟨(Nat.le_of_ble_eq_true rfl), (Nat.le_of_ble_eq_true rfl)⟩ hph pl14 (show 0 + 0 = 0 from rfl) (by decide) (fun rh13 Lh13 clh13 lnh13 ivh13 rvh13 h13 => ?_)
            obtain ⟨rfl, xl13, fl13, W13, exf13⟩ := h13
            have F13 := F12.call X10 fl13 rfl
            have ty78 := xl12.ty ty40
            have ty79 := xl12.ty ty69
            have ty80 := xl12.ty ty70
            have ty81 := xl12.ty ty71
            have ty82 := xl12.ty ty72
            have ty83 := xl12.ty ty41
            have ty84 := xl12.ty tnb4
            have X11 := X10.trans xl13
            have sk11 := xl13.skl sk10
            refine c_st (st2 := []) rfl ?_
            refine c_aload_n (j := 0) (x := a0) C dX3_gather_92 rfl ?_
            have ty85 := xl13.ty ty75
            have re24 : rvh12 a0 1 = rvh8 a0 1 := (fl12.r ty39 rfl 1)
            rw [re13] at re24
            have re25 : rvh13 a0 1 = rvh12 a0 1 := (fl13.r ty75 rfl 1)
            rw [re24] at re25
            refine c_getr (k := 1) C ck_4 dX3_gather_93 w1_193 (by decide) ty85 rfl rfl (by decide) rfl re25 ?_
            refine c_st (st2 := [.ref (sk 25)]) rfl ?_
            refine c_aload_n (j := 0) (x := a0) C dX3_gather_96 rfl ?_
            obtain ⟨rb9, rq9, trb9⟩ := W13.ref ty85 3 rfl rfl rfl
            have erb9 := W13.sk trb9 (by decide) rfl
            subst erb9
            refine c_getr (k := 3) C ck_4 dX3_gather_97 w1_197 (by decide) ty85 rfl rfl (by decide) rfl rq9 ?_
            refine c_st (st2 := [.ref (sk 7), .ref (sk 25)]) rfl ?_
            have ty86 := xl13.ty ty74
            have ty87 := xl13.ty ty79
            have pl15 := Phi.le W13 sk11
            refine d_callS (As := [.ref (sk 25), .ref (sk 7)]) (rest := []) C hM (C_markBegins_25 (a0 := (sk 25)) (a1 := (sk 7)) W13 sk11 ty86 ty87  ) dX3_gather_100 kS_X3_73 rfl rfl (Nat.le_of_ble_eq_true rfl) ⟨(Nat.le_of_ble_eq_true rfl), (Nat.le_of_ble_eq_true rfl)⟩ hph pl15 (show 0 + 0 = 0 from rfl) (by decide) (fun rh14 Lh14 clh14 lnh14 ivh14 rvh14 h14 => ?_)
            obtain ⟨rfl, xl14, fl14, W14, exf14⟩ := h14
            have F14 := F13.call X11 fl14 rfl
            have ty88 := xl13.ty ty78
            have ty89 := xl13.ty ty77
            have ty90 := xl13.ty ty80
            have ty91 := xl13.ty ty81
            have ty92 := xl13.ty ty82
            have ty93 := xl13.ty ty76
            have ty94 := xl13.ty ty83
            have ty95 := xl13.ty ty84
            have X12 := X11.trans xl14
            have sk12 := xl14.skl sk11
            refine c_st (st2 := []) rfl ?_
            have pl16 := Phi.le W14 sk12
            exact c_vret C dX3_gather_103 rfl (by decide) (rom0 hph pl16 (by decide)) ⟨rfl, X12, F14, W14, trivial⟩
        · have rknb3 := W7.rank ty30 (k := 3) (by decide) nq3
          refine c_getr (k := 3) C ck_10 dX3_gather_51 w2_184 (by decide) ty30 rfl rfl (by decide) rfl nq3 ?_
          refine c_st (st2 := [.ref nb3, .ref (sk 25)]) rfl ?_
          have ty96 := xl7.ty ty27
          have ri13 : 0 ≤ ivh7 (sk 25) 2 ∧ ivh7 (sk 25) 2 ≤ 6003 := W7.int ty96 2
          have ie15 : ivh7 (sk 25) 2 = ivh6 (sk 25) 2 := fl7.i ty27 rfl 2
          have ie16 : ivh6 (sk 25) 2 = ivh2 (sk 25) 2 := fl6.i tsk25 rfl 2
          have pl17 := Phi.le W7 sk5
          refine d_callS (As := [.ref (sk 25), .ref nb3]) (rest := []) C hM (C_gatherPart_25 (a0 := (sk 25)) (r := (some nb3)) W7 sk5 ty96 (fun _ q => by cases q; exact tnb3)  (by show ivh7 (sk 25) 2 = 0; omega)) dX3_gather_54 kS_X3_59 rfl rfl (Nat.le_of_ble_eq_true rfl) ⟨(Nat.le_of_ble_eq_true rfl), (Nat.le_of_ble_eq_true rfl)⟩ hph pl17 (show 0 + 0 = 0 from rfl) (by decide) (fun rh15 Lh15 clh15 lnh15 ivh15 rvh15 h15 => ?_)
          obtain ⟨rfl, xl15, fl15, W15, exf15⟩ := h15
          have F15 := F7.call X5 fl15 rfl
          have ty97 := xl7.ty ty22
          have ty98 := xl7.ty ty23
          have ty99 := xl7.ty ty24
          have ty100 := xl7.ty ty25
          have ty101 := xl7.ty ty26
          have ty102 := xl7.ty trb5
          have X13 := X5.trans xl15
          have sk13 := xl15.skl sk5
          refine c_st (st2 := []) rfl ?_
          have ty103 := xl15.ty ty96
          have ri14 : 0 ≤ ivh15 (sk 25) 2 ∧ ivh15 (sk 25) 2 ≤ 6003 := W15.int ty103 2
          have gf15 : ivh15 (sk 25) 2 ≤ 6002 := exf15
          refine c_aload_n (j := 0) (x := a0) C dX3_gather_57 rfl ?_
          have ty104 := xl15.ty ty29
          have re26 : rvh15 a0 1 = rvh7 a0 1 := (fl15.r ty29 rfl 1)
          rw [re12] at re26
          refine c_getr (k := 1) C ck_4 dX3_gather_58 w1_193 (by decide) ty104 rfl rfl (by decide) rfl re26 ?_
          refine c_st (st2 := [.ref (sk 25)]) rfl ?_
          refine c_aload_n (j := 1) (x := a1) C dX3_gather_61 rfl ?_
          have ty105 := xl15.ty ty30
          have re27 : rvh7 a1 6 = rvh6 a1 6 := (fl7.r ty21 rfl 6)
          rw [rq5] at re27
          have re28 : rvh15 a1 6 = rvh7 a1 6 := (fl15.r ty30 rfl 6)
          rw [re27] at re28
          refine c_getr (k := 6) C ck_10 dX3_gather_62 w2_193 (by decide) ty105 rfl rfl (by decide) rfl re28 ?_
          refine c_st (st2 := [.ref rb5, .ref (sk 25)]) rfl ?_
          refine c_iconst C dX3_gather_65 ?_
          have ty106 := xl15.ty ty102
          have ll3 : 4 ≤ lnh15 rb5 ∧ lnh15 rb5 ≤ 4 := W15.len ty106 rfl
          rcases W15.opt ty106 ((3 : Int).toNat) rfl rfl with ⟨nq5, _⟩ | ⟨nb5, nq5, tnb5⟩
          · refine c_aaldR C dX3_gather_66 ty106 rfl (by omega) (by omega) (by omega) nq5 ?_
            refine c_st (st2 := [.null, .ref (sk 25)]) rfl ?_
            have pl18 := Phi.le W15 sk13
            refine d_callS (As := [.ref (sk 25), .null]) (rest := []) C hM (C_addInd_25 (a0 := (sk 25)) (r := none) W15 sk13 ty103 (fun _ q => by cases q)  (by show ivh15 (sk 25) 2 < 6003; omega)) dX3_gather_67 kS_X3_67 rfl rfl (Nat.le_of_ble_eq_true rfl) ⟨(Nat.le_of_ble_eq_true rfl), (Nat.le_of_ble_eq_true rfl)⟩ hph pl18 (show 0 + 0 = 0 from rfl) (by decide) (fun rh16 Lh16 clh16 lnh16 ivh16 rvh16 h16 => ?_)
            obtain ⟨rfl, xl16, fl16, W16, exf16⟩ := h16
            have F16 := F15.call X13 fl16 rfl
            have ty107 := xl15.ty ty97
            have ty108 := xl15.ty ty98
            have ty109 := xl15.ty ty99
            have ty110 := xl15.ty ty100
            have ty111 := xl15.ty ty101
            have ty112 := xl15.ty ty28
            have ty113 := xl15.ty tnb3
            have X14 := X13.trans xl16
            have sk14 := xl16.skl sk13
            refine c_st (st2 := []) rfl ?_
            have ty114 := xl16.ty ty103
            have ri15 : 0 ≤ ivh16 (sk 25) 2 ∧ ivh16 (sk 25) 2 ≤ 6003 := W16.int ty114 2
            have gf16 : ivh15 (sk 25) 2 ≤ ivh16 (sk 25) 2 ∧ ivh16 (sk 25) 2 ≤ ivh15 (sk 25) 2 + 1 := exf16
            refine c_goto (tgt := 81) C dX3_gather_70 (by decide) ?_
            refine c_aload_n (j := 0) (x := a0) C dX3_gather_81 rfl ?_
            have ty115 := xl16.ty ty104
            have re29 : rvh7 a0 0 = rvh6 a0 0 := (fl7.r ty20 rfl 0)
            rw [re9] at re29
            have re30 : rvh15 a0 0 = rvh7 a0 0 := (fl15.r ty29 rfl 0)
            rw [re29] at re30
            have re31 : rvh16 a0 0 = rvh15 a0 0 := (fl16.r ty104 rfl 0)
            rw [re30] at re31
            refine c_getr (k := 0) C ck_4 dX3_gather_82 w1_190 (by decide) ty115 rfl rfl (by decide) rfl re31 ?_
            refine c_st (st2 := [.ref (sk 24)]) rfl ?_
            refine c_aload_n (j := 0) (x := a0) C dX3_gather_85 rfl ?_
            obtain ⟨rb10, rq10, trb10⟩ := W16.ref ty115 2 rfl rfl rfl
            have erb10 := W16.sk trb10 (by decide) rfl
            subst erb10
            refine c_getr (k := 2) C ck_4 dX3_gather_86 w1_196 (by decide) ty115 rfl rfl (by decide) rfl rq10 ?_
            refine c_st (st2 := [.ref (sk 6), .ref (sk 24)]) rfl ?_
            have ty116 := xl16.ty ty112
            have ty117 := xl16.ty ty107
            have pl19 := Phi.le W16 sk14
            refine d_callS (As := [.ref (sk 24), .ref (sk 6)]) (rest := []) C hM (C_markBegins_24 (a0 := (sk 24)) (a1 := (sk 6)) W16 sk14 ty116 ty117  ) dX3_gather_89 kS_X3_73 rfl rfl (Nat.le_of_ble_eq_true rfl) ⟨(Nat.le_of_ble_eq_true rfl), (Nat.le_of_ble_eq_true rfl)⟩ hph pl19 (show 0 + 0 = 0 from rfl) (by decide) (fun rh17 Lh17 clh17 lnh17 ivh17 rvh17 h17 => ?_)
            obtain ⟨rfl, xl17, fl17, W17, exf17⟩ := h17
            have F17 := F16.call X14 fl17 rfl
            have ty118 := xl16.ty ty105
            have ty119 := xl16.ty ty108
            have ty120 := xl16.ty ty109
            have ty121 := xl16.ty ty110
            have ty122 := xl16.ty ty111
            have ty123 := xl16.ty ty106
            have ty124 := xl16.ty ty113
            have X15 := X14.trans xl17
            have sk15 := xl17.skl sk14
            refine c_st (st2 := []) rfl ?_
            refine c_aload_n (j := 0) (x := a0) C dX3_gather_92 rfl ?_
            have ty125 := xl17.ty ty115
            have re32 : rvh16 a0 1 = rvh15 a0 1 := (fl16.r ty104 rfl 1)
            rw [re26] at re32
            have re33 : rvh17 a0 1 = rvh16 a0 1 := (fl17.r ty115 rfl 1)
            rw [re32] at re33
            refine c_getr (k := 1) C ck_4 dX3_gather_93 w1_193 (by decide) ty125 rfl rfl (by decide) rfl re33 ?_
            refine c_st (st2 := [.ref (sk 25)]) rfl ?_
            refine c_aload_n (j := 0) (x := a0) C dX3_gather_96 rfl ?_
            obtain ⟨rb11, rq11, trb11⟩ := W17.ref ty125 3 rfl rfl rfl
            have erb11 := W17.sk trb11 (by decide) rfl
            subst erb11
            refine c_getr (k := 3) C ck_4 dX3_gather_97 w1_197 (by decide) ty125 rfl rfl (by decide) rfl rq11 ?_
            refine c_st (st2 := [.ref (sk 7), .ref (sk 25)]) rfl ?_
            have ty126 := xl17.ty ty114
            have ty127 := xl17.ty ty119
            have pl20 := Phi.le W17 sk15
            refine d_callS (As := [.ref (sk 25), .ref (sk 7)]) (rest := []) C hM (C_markBegins_25 (a0 := (sk 25)) (a1 := (sk 7)) W17 sk15 ty126 ty127  ) dX3_gather_100 kS_X3_73 rfl rfl (Nat.le_of_ble_eq_true rfl) ⟨(Nat.le_of_ble_eq_true rfl), (Nat.le_of_ble_eq_true rfl)⟩ hph pl20 (show 0 + 0 = 0 from rfl) (by decide) (fun rh18 Lh18 clh18 lnh18 ivh18 rvh18 h18 => ?_)
            obtain ⟨rfl, xl18, fl18, W18, exf18⟩ := h18
            have F18 := F17.call X15 fl18 rfl
            have ty128 := xl17.ty ty118
            have ty129 := xl17.ty ty117
            have ty130 := xl17.ty ty120
            have ty131 := xl17.ty ty121
            have ty132 := xl17.ty ty122
            have ty133 := xl17.ty ty116
            have ty134 := xl17.ty ty123
            have ty135 := xl17.ty ty124
            have X16 := X15.trans xl18
            have sk16 := xl18.skl sk15
            refine c_st (st2 := []) rfl ?_
            have pl21 := Phi.le W18 sk16
            exact c_vret C dX3_gather_103 rfl (by decide) (rom0 hph pl21 (by decide)) ⟨rfl, X16, F18, W18, trivial⟩
          · have tnb5 : ty Lh15 clh15 nb5 20 := tnb5
            refine c_aaldR C dX3_gather_66 ty106 rfl (by omega) (by omega) (by omega) nq5 ?_
            refine c_st (st2 := [.ref nb5, .ref (sk 25)]) rfl ?_
            have pl22 := Phi.le W15 sk13
            refine d_callS (As := [.ref (sk 25), .ref nb5]) (rest := []) C hM (C_addInd_25 (a0 := (sk 25)) (r := (some nb5)) W15 sk13 ty103 (fun _ q => by cases q; exact tnb5)  (by show ivh15 (sk 25) 2 < 6003; omega)) dX3_gather_67 kS_X3_67 rfl rfl (Nat.le_of_ble_eq_true rfl) ⟨(Nat.le_of_ble_eq_true rfl), (Nat.le_of_ble_eq_true rfl)⟩ hph pl22 (show 0 + 0 = 0 from rfl) (by decide) (fun rh19 Lh19 clh19 lnh19 ivh19 rvh19 h19 => ?_)
            obtain ⟨rfl, xl19, fl19, W19, exf19⟩ := h19
            have F19 := F15.call X13 fl19 rfl
            have ty136 := xl15.ty ty97
            have ty137 := xl15.ty ty98
            have ty138 := xl15.ty ty99
            have ty139 := xl15.ty ty100
            have ty140 := xl15.ty ty101
            have ty141 := xl15.ty ty28
            have ty142 := xl15.ty tnb3
            have X17 := X13.trans xl19
            have sk17 := xl19.skl sk13
            refine c_st (st2 := []) rfl ?_
            have ty143 := xl19.ty ty103
            have ri16 : 0 ≤ ivh19 (sk 25) 2 ∧ ivh19 (sk 25) 2 ≤ 6003 := W19.int ty143 2
            have gf19 : ivh15 (sk 25) 2 ≤ ivh19 (sk 25) 2 ∧ ivh19 (sk 25) 2 ≤ ivh15 (sk 25) 2 + 1 := exf19
            refine c_goto (tgt := 81) C dX3_gather_70 (by decide) ?_
            refine c_aload_n (j := 0) (x := a0) C dX3_gather_81 rfl ?_
            have ty144 := xl19.ty ty104
            have re34 : rvh7 a0 0 = rvh6 a0 0 := (fl7.r ty20 rfl 0)
            rw [re9] at re34
            have re35 : rvh15 a0 0 = rvh7 a0 0 := (fl15.r ty29 rfl 0)
            rw [re34] at re35
            have re36 : rvh19 a0 0 = rvh15 a0 0 := (fl19.r ty104 rfl 0)
            rw [re35] at re36
            refine c_getr (k := 0) C ck_4 dX3_gather_82 w1_190 (by decide) ty144 rfl rfl (by decide) rfl re36 ?_
            refine c_st (st2 := [.ref (sk 24)]) rfl ?_
            refine c_aload_n (j := 0) (x := a0) C dX3_gather_85 rfl ?_
            obtain ⟨rb12, rq12, trb12⟩ := W19.ref ty144 2 rfl rfl rfl
            have erb12 := W19.sk trb12 (by decide) rfl
            subst erb12
            refine c_getr (k := 2) C ck_4 dX3_gather_86 w1_196 (by decide) ty144 rfl rfl (by decide) rfl rq12 ?_
            refine c_st (st2 := [.ref (sk 6), .ref (sk 24)]) rfl ?_
            have ty145 := xl19.ty ty141
            have ty146 := xl19.ty ty136
            have pl23 := Phi.le W19 sk17
            refine d_callS (As := [.ref (sk 24), .ref (sk 6)]) (rest := []) C hM (C_markBegins_24 (a0 := (sk 24)) (a1 := (sk 6)) W19 sk17 ty145 ty146  ) dX3_gather_89 kS_X3_73 rfl rfl (Nat.le_of_ble_eq_true rfl) ⟨(Nat.le_of_ble_eq_true rfl), (Nat.le_of_ble_eq_true rfl)⟩ hph pl23 (show 0 + 0 = 0 from rfl) (by decide) (fun rh20 Lh20 clh20 lnh20 ivh20 rvh20 h20 => ?_)
            obtain ⟨rfl, xl20, fl20, W20, exf20⟩ := h20
            have F20 := F19.call X17 fl20 rfl
            have ty147 := xl19.ty ty105
            have ty148 := xl19.ty ty137
            have ty149 := xl19.ty ty138
            have ty150 := xl19.ty ty139
            have ty151 := xl19.ty ty140
            have ty152 := xl19.ty ty106
            have ty153 := xl19.ty ty142
            have ty154 := xl19.ty tnb5
            have X18 := X17.trans xl20
            have sk18 := xl20.skl sk17
            refine c_st (st2 := []) rfl ?_
            refine c_aload_n (j := 0) (x := a0) C dX3_gather_92 rfl ?_
            have ty155 := xl20.ty ty144
            have re37 : rvh19 a0 1 = rvh15 a0 1 := (fl19.r ty104 rfl 1)
            rw [re26] at re37
            have re38 : rvh20 a0 1 = rvh19 a0 1 := (fl20.r ty144 rfl 1)
            rw [re37] at re38
            refine c_getr (k := 1) C ck_4 dX3_gather_93 w1_193 (by decide) ty155 rfl rfl (by decide) rfl re38 ?_
            refine c_st (st2 := [.ref (sk 25)]) rfl ?_
            refine c_aload_n (j := 0) (x := a0) C dX3_gather_96 rfl ?_
            obtain ⟨rb13, rq13, trb13⟩ := W20.ref ty155 3 rfl rfl rfl
            have erb13 := W20.sk trb13 (by decide) rfl
            subst erb13
            refine c_getr (k := 3) C ck_4 dX3_gather_97 w1_197 (by decide) ty155 rfl rfl (by decide) rfl rq13 ?_
            refine c_st (st2 := [.ref (sk 7), .ref (sk 25)]) rfl ?_
            have ty156 := xl20.ty ty143
            have ty157 := xl20.ty ty148
            have pl24 := Phi.le W20 sk18
            refine d_callS (As := [.ref (sk 25), .ref (sk 7)]) (rest := []) C hM (C_markBegins_25 (a0 := (sk 25)) (a1 := (sk 7)) W20 sk18 ty156 ty157  ) dX3_gather_100 kS_X3_73 rfl rfl (Nat.le_of_ble_eq_true rfl) ⟨(Nat.le_of_ble_eq_true rfl), (Nat.le_of_ble_eq_true rfl)⟩ hph pl24 (show 0 + 0 = 0 from rfl) (by decide) (fun rh21 Lh21 clh21 lnh21 ivh21 rvh21 h21 => ?_)
            obtain ⟨rfl, xl21, fl21, W21, exf21⟩ := h21
            have F21 := F20.call X18 fl21 rfl
            have ty158 := xl20.ty ty147
            have ty159 := xl20.ty ty146
            have ty160 := xl20.ty ty149
            have ty161 := xl20.ty ty150
            have ty162 := xl20.ty ty151
            have ty163 := xl20.ty ty145
            have ty164 := xl20.ty ty152
            have ty165 := xl20.ty ty153
            have ty166 := xl20.ty ty154
            have X19 := X18.trans xl21
            have sk19 := xl21.skl sk18
            refine c_st (st2 := []) rfl ?_
            have pl25 := Phi.le W21 sk19
            exact c_vret C dX3_gather_103 rfl (by decide) (rom0 hph pl25 (by decide)) ⟨rfl, X19, F21, W21, trivial⟩
      · have tnb2 : ty Lh6 clh6 nb2 20 := tnb2
        refine c_aaldR C dX3_gather_42 trb5 rfl (by omega) (by omega) (by omega) nq2 ?_
        refine c_st (st2 := [.ref nb2, .ref (sk 24)]) rfl ?_
        have pl26 := Phi.le W6 sk4
        refine d_callS (As := [.ref (sk 24), .ref nb2]) (rest := []) C hM (C_addInd_24 (a0 := (sk 24)) (r := (some nb2)) W6 sk4 ty19 (fun _ q => by cases q; exact tnb2)  (by show ivh6 (sk 24) 2 < 6003; omega)) dX3_gather_43 kS_X3_67 rfl rfl (Nat.le_of_ble_eq_true rfl) ⟨(Nat.le_of_ble_eq_true rfl), (Nat.le_of_ble_eq_true rfl)⟩ hph pl26 (show 0 + 0 = 0 from rfl) (by decide) (fun rh22 Lh22 clh22 lnh22 ivh22 rvh22 h22 => ?_)
        obtain ⟨rfl, xl22, fl22, W22, exf22⟩ := h22
        have F22 := F6.call X4 fl22 rfl
        have ty167 := xl6.ty tsk6
        have ty168 := xl6.ty tsk7
        have ty169 := xl6.ty tsk8
        have ty170 := xl6.ty tsk9
        have ty171 := xl6.ty tsk10
        have ty172 := xl6.ty tsk25
        have X20 := X4.trans xl22
        have sk20 := xl22.skl sk4
        refine c_st (st2 := []) rfl ?_
        have ty173 := xl22.ty ty19
        have ri17 : 0 ≤ ivh22 (sk 24) 2 ∧ ivh22 (sk 24) 2 ≤ 6003 := W22.int ty173 2
        have gf22 : ivh6 (sk 24) 2 ≤ ivh22 (sk 24) 2 ∧ ivh22 (sk 24) 2 ≤ ivh6 (sk 24) 2 + 1 := exf22
        refine c_aload_n (j := 0) (x := a0) C dX3_gather_46 rfl ?_
        have ty174 := xl22.ty ty20
        have re39 : rvh2 a0 1 = rvh1 a0 1 := (fl2.r t_a0 rfl 1)
        rw [rq2] at re39
        have re40 : rvh6 a0 1 = rvh2 a0 1 := (fl6.r t_a0 rfl 1)
        rw [re39] at re40
        have re41 : rvh22 a0 1 = rvh6 a0 1 := (fl22.r ty20 rfl 1)
        rw [re40] at re41
        refine c_getr (k := 1) C ck_4 dX3_gather_47 w1_193 (by decide) ty174 rfl rfl (by decide) rfl re41 ?_
        refine c_st (st2 := [.ref (sk 25)]) rfl ?_
        refine c_aload_n (j := 1) (x := a1) C dX3_gather_50 rfl ?_
        have ty175 := xl22.ty ty21
        rcases W22.opt ty175 3 rfl rfl with ⟨nq6, _⟩ | ⟨nb6, nq6, tnb6⟩
        · refine c_getr (k := 3) C ck_10 dX3_gather_51 w2_184 (by decide) ty175 rfl rfl (by decide) rfl nq6 ?_
          refine c_st (st2 := [.null, .ref (sk 25)]) rfl ?_
          have ty176 := xl22.ty ty172
          have ri18 : 0 ≤ ivh22 (sk 25) 2 ∧ ivh22 (sk 25) 2 ≤ 6003 := W22.int ty176 2
          have ie21 : ivh22 (sk 25) 2 = ivh6 (sk 25) 2 := fl22.i ty172 rfl 2
          have ie22 : ivh6 (sk 25) 2 = ivh2 (sk 25) 2 := fl6.i tsk25 rfl 2
          have pl27 := Phi.le W22 sk20
          refine d_callS (As := [.ref (sk 25), .null]) (rest := []) C hM (C_gatherPart_25 (a0 := (sk 25)) (r := none) W22 sk20 ty176 (fun _ q => by cases q)  (by show ivh22 (sk 25) 2 = 0; omega)) dX3_gather_54 kS_X3_59 rfl rfl (Nat.le_of_ble_eq_true rfl) ⟨(Nat.le_of_ble_eq_true rfl), (Nat.le_of_ble_eq_true rfl)⟩ hph pl27 (show 0 + 0 = 0 from rfl) (by decide) (fun rh23 Lh23 clh23 lnh23 ivh23 rvh23 h23 => ?_)
          obtain ⟨rfl, xl23, fl23, W23, exf23⟩ := h23
          have F23 := F22.call X20 fl23 rfl
          have ty177 := xl22.ty ty167
          have ty178 := xl22.ty ty168
          have ty179 := xl22.ty ty169
          have ty180 := xl22.ty ty170
          have ty181 := xl22.ty ty171
          have ty182 := xl22.ty trb5
          have ty183 := xl22.ty tnb2
          have X21 := X20.trans xl23
          have sk21 := xl23.skl sk20
          refine c_st (st2 := []) rfl ?_
          have ty184 := xl23.ty ty176
          have ri19 : 0 ≤ ivh23 (sk 25) 2 ∧ ivh23 (sk 25) 2 ≤ 6003 := W23.int ty184 2
          have gf23 : ivh23 (sk 25) 2 ≤ 6002 := exf23
          refine c_aload_n (j := 0) (x := a0) C dX3_gather_57 rfl ?_
          have ty185 := xl23.ty ty174
          have re42 : rvh23 a0 1 = rvh22 a0 1 := (fl23.r ty174 rfl 1)
          rw [re41] at re42
          refine c_getr (k := 1) C ck_4 dX3_gather_58 w1_193 (by decide) ty185 rfl rfl (by decide) rfl re42 ?_
          refine c_st (st2 := [.ref (sk 25)]) rfl ?_
          refine c_aload_n (j := 1) (x := a1) C dX3_gather_61 rfl ?_
          have ty186 := xl23.ty ty175
          have re43 : rvh22 a1 6 = rvh6 a1 6 := (fl22.r ty21 rfl 6)
          rw [rq5] at re43
          have re44 : rvh23 a1 6 = rvh22 a1 6 := (fl23.r ty175 rfl 6)
          rw [re43] at re44
          refine c_getr (k := 6) C ck_10 dX3_gather_62 w2_193 (by decide) ty186 rfl rfl (by decide) rfl re44 ?_
          refine c_st (st2 := [.ref rb5, .ref (sk 25)]) rfl ?_
          refine c_iconst C dX3_gather_65 ?_
          have ty187 := xl23.ty ty182
          have ll4 : 4 ≤ lnh23 rb5 ∧ lnh23 rb5 ≤ 4 := W23.len ty187 rfl
          rcases W23.opt ty187 ((3 : Int).toNat) rfl rfl with ⟨nq7, _⟩ | ⟨nb7, nq7, tnb7⟩
          · refine c_aaldR C dX3_gather_66 ty187 rfl (by omega) (by omega) (by omega) nq7 ?_
            refine c_st (st2 := [.null, .ref (sk 25)]) rfl ?_
            have pl28 := Phi.le W23 sk21
            refine d_callS (As := [.ref (sk 25), .null]) (rest := []) C hM (C_addInd_25 (a0 := (sk 25)) (r := none) W23 sk21 ty184 (fun _ q => by cases q)  (by show ivh23 (sk 25) 2 < 6003; omega)) dX3_gather_67 kS_X3_67 rfl rfl (Nat.le_of_ble_eq_true rfl) ⟨(Nat.le_of_ble_eq_true rfl), (Nat.le_of_ble_eq_true rfl)⟩ hph pl28 (show 0 + 0 = 0 from rfl) (by decide) (fun rh24 Lh24 clh24 lnh24 ivh24 rvh24 h24 => ?_)
            obtain ⟨rfl, xl24, fl24, W24, exf24⟩ := h24
            have F24 := F23.call X21 fl24 rfl
            have ty188 := xl23.ty ty177
            have ty189 := xl23.ty ty178
            have ty190 := xl23.ty ty179
            have ty191 := xl23.ty ty180
            have ty192 := xl23.ty ty181
            have ty193 := xl23.ty ty173
            have ty194 := xl23.ty ty183
            have X22 := X21.trans xl24
            have sk22 := xl24.skl sk21
            refine c_st (st2 := []) rfl ?_
            have ty195 := xl24.ty ty184
            have ri20 : 0 ≤ ivh24 (sk 25) 2 ∧ ivh24 (sk 25) 2 ≤ 6003 := W24.int ty195 2
            have gf24 : ivh23 (sk 25) 2 ≤ ivh24 (sk 25) 2 ∧ ivh24 (sk 25) 2 ≤ ivh23 (sk 25) 2 + 1 := exf24
            refine c_goto (tgt := 81) C dX3_gather_70 (by decide) ?_
            refine c_aload_n (j := 0) (x := a0) C dX3_gather_81 rfl ?_
            have ty196 := xl24.ty ty185
            have re45 : rvh22 a0 0 = rvh6 a0 0 := (fl22.r ty20 rfl 0)
            rw [re9] at re45
            have re46 : rvh23 a0 0 = rvh22 a0 0 := (fl23.r ty174 rfl 0)
            rw [re45] at re46
            have re47 : rvh24 a0 0 = rvh23 a0 0 := (fl24.r ty185 rfl 0)
            rw [re46] at re47
            refine c_getr (k := 0) C ck_4 dX3_gather_82 w1_190 (by decide) ty196 rfl rfl (by decide) rfl re47 ?_
            refine c_st (st2 := [.ref (sk 24)]) rfl ?_
            refine c_aload_n (j := 0) (x := a0) C dX3_gather_85 rfl ?_
            obtain ⟨rb14, rq14, trb14⟩ := W24.ref ty196 2 rfl rfl rfl
            have erb14 := W24.sk trb14 (by decide) rfl
            subst erb14
            refine c_getr (k := 2) C ck_4 dX3_gather_86 w1_196 (by decide) ty196 rfl rfl (by decide) rfl rq14 ?_
            refine c_st (st2 := [.ref (sk 6), .ref (sk 24)]) rfl ?_
            have ty197 := xl24.ty ty193
            have ty198 := xl24.ty ty188
            have pl29 := Phi.le W24 sk22
            refine d_callS (As := [.ref (sk 24), .ref (sk 6)]) (rest := []) C hM (C_markBegins_24 (a0 := (sk 24)) (a1 := (sk 6)) W24 sk22 ty197 ty198  ) dX3_gather_89 kS_X3_73 rfl rfl (Nat.le_of_ble_eq_true rfl) ⟨(Nat.le_of_ble_eq_true rfl), (Nat.le_of_ble_eq_true rfl)⟩ hph pl29 (show 0 + 0 = 0 from rfl) (by decide) (fun rh25 Lh25 clh25 lnh25 ivh25 rvh25 h25 => ?_)
            obtain ⟨rfl, xl25, fl25, W25, exf25⟩ := h25
            have F25 := F24.call X22 fl25 rfl
            have ty199 := xl24.ty ty186
            have ty200 := xl24.ty ty189
            have ty201 := xl24.ty ty190
            have ty202 := xl24.ty ty191
            have ty203 := xl24.ty ty192
            have ty204 := xl24.ty ty187
            have ty205 := xl24.ty ty194
            have X23 := X22.trans xl25
            have sk23 := xl25.skl sk22
            refine c_st (st2 := []) rfl ?_
            refine c_aload_n (j := 0) (x := a0) C dX3_gather_92 rfl ?_
            have ty206 := xl25.ty ty196
            have re48 : rvh24 a0 1 = rvh23 a0 1 := (fl24.r ty185 rfl 1)
            rw [re42] at re48
            have re49 : rvh25 a0 1 = rvh24 a0 1 := (fl25.r ty196 rfl 1)
            rw [re48] at re49
            refine c_getr (k := 1) C ck_4 dX3_gather_93 w1_193 (by decide) ty206 rfl rfl (by decide) rfl re49 ?_
            refine c_st (st2 := [.ref (sk 25)]) rfl ?_
            refine c_aload_n (j := 0) (x := a0) C dX3_gather_96 rfl ?_
            obtain ⟨rb15, rq15, trb15⟩ := W25.ref ty206 3 rfl rfl rfl
            have erb15 := W25.sk trb15 (by decide) rfl
            subst erb15
            refine c_getr (k := 3) C ck_4 dX3_gather_97 w1_197 (by decide) ty206 rfl rfl (by decide) rfl rq15 ?_
            refine c_st (st2 := [.ref (sk 7), .ref (sk 25)]) rfl ?_
            have ty207 := xl25.ty ty195
            have ty208 := xl25.ty ty200
            have pl30 := Phi.le W25 sk23
            refine d_callS (As := [.ref (sk 25), .ref (sk 7)]) (rest := []) C hM (C_markBegins_25 (a0 := (sk 25)) (a1 := (sk 7)) W25 sk23 ty207 ty208  ) dX3_gather_100 kS_X3_73 rfl rfl (Nat.le_of_ble_eq_true rfl) ⟨(Nat.le_of_ble_eq_true rfl), (Nat.le_of_ble_eq_true rfl)⟩ hph pl30 (show 0 + 0 = 0 from rfl) (by decide) (fun rh26 Lh26 clh26 lnh26 ivh26 rvh26 h26 => ?_)
            obtain ⟨rfl, xl26, fl26, W26, exf26⟩ := h26
            have F26 := F25.call X23 fl26 rfl
            have ty209 := xl25.ty ty199
            have ty210 := xl25.ty ty198
            have ty211 := xl25.ty ty201
            have ty212 := xl25.ty ty202
            have ty213 := xl25.ty ty203
            have ty214 := xl25.ty ty197
            have ty215 := xl25.ty ty204
            have ty216 := xl25.ty ty205
            have X24 := X23.trans xl26
            have sk24 := xl26.skl sk23
            refine c_st (st2 := []) rfl ?_
            have pl31 := Phi.le W26 sk24
            exact c_vret C dX3_gather_103 rfl (by decide) (rom0 hph pl31 (by decide)) ⟨rfl, X24, F26, W26, trivial⟩
          · have tnb7 : ty Lh23 clh23 nb7 20 := tnb7
            refine c_aaldR C dX3_gather_66 ty187 rfl (by omega) (by omega) (by omega) nq7 ?_
            refine c_st (st2 := [.ref nb7, .ref (sk 25)]) rfl ?_
            have pl32 := Phi.le W23 sk21
            refine d_callS (As := [.ref (sk 25), .ref nb7]) (rest := []) C hM (C_addInd_25 (a0 := (sk 25)) (r := (some nb7)) W23 sk21 ty184 (fun _ q => by cases q; exact tnb7)  (by show ivh23 (sk 25) 2 < 6003; omega)) dX3_gather_67 kS_X3_67 rfl rfl (Nat.le_of_ble_eq_true rfl) ⟨(Nat.le_of_ble_eq_true rfl), (Nat.le_of_ble_eq_true rfl)⟩ hph pl32 (show 0 + 0 = 0 from rfl) (by decide) (fun rh27 Lh27 clh27 lnh27 ivh27 rvh27 h27 => ?_)
            obtain ⟨rfl, xl27, fl27, W27, exf27⟩ := h27
            have F27 := F23.call X21 fl27 rfl
            have ty217 := xl23.ty ty177
            have ty218 := xl23.ty ty178
            have ty219 := xl23.ty ty179
            have ty220 := xl23.ty ty180
            have ty221 := xl23.ty ty181
            have ty222 := xl23.ty ty173
            have ty223 := xl23.ty ty183
            have X25 := X21.trans xl27
            have sk25 := xl27.skl sk21
            refine c_st (st2 := []) rfl ?_
            have ty224 := xl27.ty ty184
            have ri21 : 0 ≤ ivh27 (sk 25) 2 ∧ ivh27 (sk 25) 2 ≤ 6003 := W27.int ty224 2
            have gf27 : ivh23 (sk 25) 2 ≤ ivh27 (sk 25) 2 ∧ ivh27 (sk 25) 2 ≤ ivh23 (sk 25) 2 + 1 := exf27
            refine c_goto (tgt := 81) C dX3_gather_70 (by decide) ?_
            refine c_aload_n (j := 0) (x := a0) C dX3_gather_81 rfl ?_
            have ty225 := xl27.ty ty185
            have re50 : rvh22 a0 0 = rvh6 a0 0 := (fl22.r ty20 rfl 0)
            rw [re9] at re50
            have re51 : rvh23 a0 0 = rvh22 a0 0 := (fl23.r ty174 rfl 0)
            rw [re50] at re51
            have re52 : rvh27 a0 0 = rvh23 a0 0 := (fl27.r ty185 rfl 0)
            rw [re51] at re52
            refine c_getr (k := 0) C ck_4 dX3_gather_82 w1_190 (by decide) ty225 rfl rfl (by decide) rfl re52 ?_
            refine c_st (st2 := [.ref (sk 24)]) rfl ?_
            refine c_aload_n (j := 0) (x := a0) C dX3_gather_85 rfl ?_
            obtain ⟨rb16, rq16, trb16⟩ := W27.ref ty225 2 rfl rfl rfl
            have erb16 := W27.sk trb16 (by decide) rfl
            subst erb16
            refine c_getr (k := 2) C ck_4 dX3_gather_86 w1_196 (by decide) ty225 rfl rfl (by decide) rfl rq16 ?_
            refine c_st (st2 := [.ref (sk 6), .ref (sk 24)]) rfl ?_
            have ty226 := xl27.ty ty222
            have ty227 := xl27.ty ty217
            have pl33 := Phi.le W27 sk25
            refine d_callS (As := [.ref (sk 24), .ref (sk 6)]) (rest := []) C hM (C_markBegins_24 (a0 := (sk 24)) (a1 := (sk 6)) W27 sk25 ty226 ty227  ) dX3_gather_89 kS_X3_73 rfl rfl (Nat.le_of_ble_eq_true rfl) ⟨(Nat.le_of_ble_eq_true rfl), (Nat.le_of_ble_eq_true rfl)⟩ hph pl33 (show 0 + 0 = 0 from rfl) (by decide) (fun rh28 Lh28 clh28 lnh28 ivh28 rvh28 h28 => ?_)
            obtain ⟨rfl, xl28, fl28, W28, exf28⟩ := h28
            have F28 := F27.call X25 fl28 rfl
            have ty228 := xl27.ty ty186
            have ty229 := xl27.ty ty218
            have ty230 := xl27.ty ty219
            have ty231 := xl27.ty ty220
            have ty232 := xl27.ty ty221
            have ty233 := xl27.ty ty187
            have ty234 := xl27.ty ty223
            have ty235 := xl27.ty tnb7
            have X26 := X25.trans xl28
            have sk26 := xl28.skl sk25
            refine c_st (st2 := []) rfl ?_
            refine c_aload_n (j := 0) (x := a0) C dX3_gather_92 rfl ?_
            have ty236 := xl28.ty ty225
            have re53 : rvh27 a0 1 = rvh23 a0 1 := (fl27.r ty185 rfl 1)
            rw [re42] at re53
            have re54 : rvh28 a0 1 = rvh27 a0 1 := (fl28.r ty225 rfl 1)
            rw [re53] at re54
            refine c_getr (k := 1) C ck_4 dX3_gather_93 w1_193 (by decide) ty236 rfl rfl (by decide) rfl re54 ?_
            refine c_st (st2 := [.ref (sk 25)]) rfl ?_
            refine c_aload_n (j := 0) (x := a0) C dX3_gather_96 rfl ?_
            obtain ⟨rb17, rq17, trb17⟩ := W28.ref ty236 3 rfl rfl rfl
            have erb17 := W28.sk trb17 (by decide) rfl
            subst erb17
            refine c_getr (k := 3) C ck_4 dX3_gather_97 w1_197 (by decide) ty236 rfl rfl (by decide) rfl rq17 ?_
            refine c_st (st2 := [.ref (sk 7), .ref (sk 25)]) rfl ?_
            have ty237 := xl28.ty ty224
            have ty238 := xl28.ty ty229
            have pl34 := Phi.le W28 sk26
            refine d_callS (As := [.ref (sk 25), .ref (sk 7)]) (rest := []) C hM (C_markBegins_25 (a0 := (sk 25)) (a1 := (sk 7)) W28 sk26 ty237 ty238  ) dX3_gather_100 kS_X3_73 rfl rfl (Nat.le_of_ble_eq_true rfl) ⟨(Nat.le_of_ble_eq_true rfl), (Nat.le_of_ble_eq_true rfl)⟩ hph pl34 (show 0 + 0 = 0 from rfl) (by decide) (fun rh29 Lh29 clh29 lnh29 ivh29 rvh29 h29 => ?_)
            obtain ⟨rfl, xl29, fl29, W29, exf29⟩ := h29
            have F29 := F28.call X26 fl29 rfl
            have ty239 := xl28.ty ty228
            have ty240 := xl28.ty ty227
            have ty241 := xl28.ty ty230
            have ty242 := xl28.ty ty231
            have ty243 := xl28.ty ty232
            have ty244 := xl28.ty ty226
            have ty245 := xl28.ty ty233
            have ty246 := xl28.ty ty234
            have ty247 := xl28.ty ty235
            have X27 := X26.trans xl29
            have sk27 := xl29.skl sk26
            refine c_st (st2 := []) rfl ?_
            have pl35 := Phi.le W29 sk27
            exact c_vret C dX3_gather_103 rfl (by decide) (rom0 hph pl35 (by decide)) ⟨rfl, X27, F29, W29, trivial⟩
        · have rknb6 := W22.rank ty175 (k := 3) (by decide) nq6
          refine c_getr (k := 3) C ck_10 dX3_gather_51 w2_184 (by decide) ty175 rfl rfl (by decide) rfl nq6 ?_
          refine c_st (st2 := [.ref nb6, .ref (sk 25)]) rfl ?_
          have ty248 := xl22.ty ty172
          have ri22 : 0 ≤ ivh22 (sk 25) 2 ∧ ivh22 (sk 25) 2 ≤ 6003 := W22.int ty248 2
          have ie26 : ivh22 (sk 25) 2 = ivh6 (sk 25) 2 := fl22.i ty172 rfl 2
          have ie27 : ivh6 (sk 25) 2 = ivh2 (sk 25) 2 := fl6.i tsk25 rfl 2
          have pl36 := Phi.le W22 sk20
          refine d_callS (As := [.ref (sk 25), .ref nb6]) (rest := []) C hM (C_gatherPart_25 (a0 := (sk 25)) (r := (some nb6)) W22 sk20 ty248 (fun _ q => by cases q; exact tnb6)  (by show ivh22 (sk 25) 2 = 0; omega)) dX3_gather_54 kS_X3_59 rfl rfl (Nat.le_of_ble_eq_true rfl) ⟨(Nat.le_of_ble_eq_true rfl), (Nat.le_of_ble_eq_true rfl)⟩ hph pl36 (show 0 + 0 = 0 from rfl) (by decide) (fun rh30 Lh30 clh30 lnh30 ivh30 rvh30 h30 => ?_)
          obtain ⟨rfl, xl30, fl30, W30, exf30⟩ := h30
          have F30 := F22.call X20 fl30 rfl
          have ty249 := xl22.ty ty167
          have ty250 := xl22.ty ty168
          have ty251 := xl22.ty ty169
          have ty252 := xl22.ty ty170
          have ty253 := xl22.ty ty171
          have ty254 := xl22.ty trb5
          have ty255 := xl22.ty tnb2
          have X28 := X20.trans xl30
          have sk28 := xl30.skl sk20
          refine c_st (st2 := []) rfl ?_
          have ty256 := xl30.ty ty248
          have ri23 : 0 ≤ ivh30 (sk 25) 2 ∧ ivh30 (sk 25) 2 ≤ 6003 := W30.int ty256 2
          have gf30 : ivh30 (sk 25) 2 ≤ 6002 := exf30
          refine c_aload_n (j := 0) (x := a0) C dX3_gather_57 rfl ?_
          have ty257 := xl30.ty ty174
          have re55 : rvh30 a0 1 = rvh22 a0 1 := (fl30.r ty174 rfl 1)
          rw [re41] at re55
          refine c_getr (k := 1) C ck_4 dX3_gather_58 w1_193 (by decide) ty257 rfl rfl (by decide) rfl re55 ?_
          refine c_st (st2 := [.ref (sk 25)]) rfl ?_
          refine c_aload_n (j := 1) (x := a1) C dX3_gather_61 rfl ?_
          have ty258 := xl30.ty ty175
          have re56 : rvh22 a1 6 = rvh6 a1 6 := (fl22.r ty21 rfl 6)
          rw [rq5] at re56
          have re57 : rvh30 a1 6 = rvh22 a1 6 := (fl30.r ty175 rfl 6)
          rw [re56] at re57
          refine c_getr (k := 6) C ck_10 dX3_gather_62 w2_193 (by decide) ty258 rfl rfl (by decide) rfl re57 ?_
          refine c_st (st2 := [.ref rb5, .ref (sk 25)]) rfl ?_
          refine c_iconst C dX3_gather_65 ?_
          have ty259 := xl30.ty ty254
          have ll5 : 4 ≤ lnh30 rb5 ∧ lnh30 rb5 ≤ 4 := W30.len ty259 rfl
          rcases W30.opt ty259 ((3 : Int).toNat) rfl rfl with ⟨nq8, _⟩ | ⟨nb8, nq8, tnb8⟩
          · refine c_aaldR C dX3_gather_66 ty259 rfl (by omega) (by omega) (by omega) nq8 ?_
            refine c_st (st2 := [.null, .ref (sk 25)]) rfl ?_
            have pl37 := Phi.le W30 sk28
            refine d_callS (As := [.ref (sk 25), .null]) (rest := []) C hM (C_addInd_25 (a0 := (sk 25)) (r := none) W30 sk28 ty256 (fun _ q => by cases q)  (by show ivh30 (sk 25) 2 < 6003; omega)) dX3_gather_67 kS_X3_67 rfl rfl (Nat.le_of_ble_eq_true rfl) ⟨(Nat.le_of_ble_eq_true rfl), (Nat.le_of_ble_eq_true rfl)⟩ hph pl37 (show 0 + 0 = 0 from rfl) (by decide) (fun rh31 Lh31 clh31 lnh31 ivh31 rvh31 h31 => ?_)
            obtain ⟨rfl, xl31, fl31, W31, exf31⟩ := h31
            have F31 := F30.call X28 fl31 rfl
            have ty260 := xl30.ty ty249
            have ty261 := xl30.ty ty250
            have ty262 := xl30.ty ty251
            have ty263 := xl30.ty ty252
            have ty264 := xl30.ty ty253
            have ty265 := xl30.ty ty173
            have ty266 := xl30.ty ty255
            have ty267 := xl30.ty tnb6
            have X29 := X28.trans xl31
            have sk29 := xl31.skl sk28
            refine c_st (st2 := []) rfl ?_
            have ty268 := xl31.ty ty256
            have ri24 : 0 ≤ ivh31 (sk 25) 2 ∧ ivh31 (sk 25) 2 ≤ 6003 := W31.int ty268 2
            have gf31 : ivh30 (sk 25) 2 ≤ ivh31 (sk 25) 2 ∧ ivh31 (sk 25) 2 ≤ ivh30 (sk 25) 2 + 1 := exf31
            refine c_goto (tgt := 81) C dX3_gather_70 (by decide) ?_
            refine c_aload_n (j := 0) (x := a0) C dX3_gather_81 rfl ?_
            have ty269 := xl31.ty ty257
            have re58 : rvh22 a0 0 = rvh6 a0 0 := (fl22.r ty20 rfl 0)
            rw [re9] at re58
            have re59 : rvh30 a0 0 = rvh22 a0 0 := (fl30.r ty174 rfl 0)
            rw [re58] at re59
            have re60 : rvh31 a0 0 = rvh30 a0 0 := (fl31.r ty257 rfl 0)
            rw [re59] at re60
            refine c_getr (k := 0) C ck_4 dX3_gather_82 w1_190 (by decide) ty269 rfl rfl (by decide) rfl re60 ?_
            refine c_st (st2 := [.ref (sk 24)]) rfl ?_
            refine c_aload_n (j := 0) (x := a0) C dX3_gather_85 rfl ?_
            obtain ⟨rb18, rq18, trb18⟩ := W31.ref ty269 2 rfl rfl rfl
            have erb18 := W31.sk trb18 (by decide) rfl
            subst erb18
            refine c_getr (k := 2) C ck_4 dX3_gather_86 w1_196 (by decide) ty269 rfl rfl (by decide) rfl rq18 ?_
            refine c_st (st2 := [.ref (sk 6), .ref (sk 24)]) rfl ?_
            have ty270 := xl31.ty ty265
            have ty271 := xl31.ty ty260
            have pl38 := Phi.le W31 sk29
            refine d_callS (As := [.ref (sk 24), .ref (sk 6)]) (rest := []) C hM (C_markBegins_24 (a0 := (sk 24)) (a1 := (sk 6)) W31 sk29 ty270 ty271  ) dX3_gather_89 kS_X3_73 rfl rfl (Nat.le_of_ble_eq_true rfl) ⟨(Nat.le_of_ble_eq_true rfl), (Nat.le_of_ble_eq_true rfl)⟩ hph pl38 (show 0 + 0 = 0 from rfl) (by decide) (fun rh32 Lh32 clh32 lnh32 ivh32 rvh32 h32 => ?_)
            obtain ⟨rfl, xl32, fl32, W32, exf32⟩ := h32
            have F32 := F31.call X29 fl32 rfl
            have ty272 := xl31.ty ty258
            have ty273 := xl31.ty ty261
            have ty274 := xl31.ty ty262
            have ty275 := xl31.ty ty263
            have ty276 := xl31.ty ty264
            have ty277 := xl31.ty ty259
            have ty278 := xl31.ty ty266
            have ty279 := xl31.ty ty267
            have X30 := X29.trans xl32
            have sk30 := xl32.skl sk29
            refine c_st (st2 := []) rfl ?_
            refine c_aload_n (j := 0) (x := a0) C dX3_gather_92 rfl ?_
            have ty280 := xl32.ty ty269
            have re61 : rvh31 a0 1 = rvh30 a0 1 := (fl31.r ty257 rfl 1)
            rw [re55] at re61
            have re62 : rvh32 a0 1 = rvh31 a0 1 := (fl32.r ty269 rfl 1)
            rw [re61] at re62
            refine c_getr (k := 1) C ck_4 dX3_gather_93 w1_193 (by decide) ty280 rfl rfl (by decide) rfl re62 ?_
            refine c_st (st2 := [.ref (sk 25)]) rfl ?_
            refine c_aload_n (j := 0) (x := a0) C dX3_gather_96 rfl ?_
            obtain ⟨rb19, rq19, trb19⟩ := W32.ref ty280 3 rfl rfl rfl
            have erb19 := W32.sk trb19 (by decide) rfl
            subst erb19
            refine c_getr (k := 3) C ck_4 dX3_gather_97 w1_197 (by decide) ty280 rfl rfl (by decide) rfl rq19 ?_
            refine c_st (st2 := [.ref (sk 7), .ref (sk 25)]) rfl ?_
            have ty281 := xl32.ty ty268
            have ty282 := xl32.ty ty273
            have pl39 := Phi.le W32 sk30
            refine d_callS (As := [.ref (sk 25), .ref (sk 7)]) (rest := []) C hM (C_markBegins_25 (a0 := (sk 25)) (a1 := (sk 7)) W32 sk30 ty281 ty282  ) dX3_gather_100 kS_X3_73 rfl rfl (Nat.le_of_ble_eq_true rfl) ⟨(Nat.le_of_ble_eq_true rfl), (Nat.le_of_ble_eq_true rfl)⟩ hph pl39 (show 0 + 0 = 0 from rfl) (by decide) (fun rh33 Lh33 clh33 lnh33 ivh33 rvh33 h33 => ?_)
            obtain ⟨rfl, xl33, fl33, W33, exf33⟩ := h33
            have F33 := F32.call X30 fl33 rfl
            have ty283 := xl32.ty ty272
            have ty284 := xl32.ty ty271
            have ty285 := xl32.ty ty274
            have ty286 := xl32.ty ty275
            have ty287 := xl32.ty ty276
            have ty288 := xl32.ty ty270
            have ty289 := xl32.ty ty277
            have ty290 := xl32.ty ty278
            have ty291 := xl32.ty ty279
            have X31 := X30.trans xl33
            have sk31 := xl33.skl sk30
            refine c_st (st2 := []) rfl ?_
            have pl40 := Phi.le W33 sk31
            exact c_vret C dX3_gather_103 rfl (by decide) (rom0 hph pl40 (by decide)) ⟨rfl, X31, F33, W33, trivial⟩
          · have tnb8 : ty Lh30 clh30 nb8 20 := tnb8
            refine c_aaldR C dX3_gather_66 ty259 rfl (by omega) (by omega) (by omega) nq8 ?_
            refine c_st (st2 := [.ref nb8, .ref (sk 25)]) rfl ?_
            have pl41 := Phi.le W30 sk28
            refine d_callS (As := [.ref (sk 25), .ref nb8]) (rest := []) C hM (C_addInd_25 (a0 := (sk 25)) (r := (some nb8)) W30 sk28 ty256 (fun _ q => by cases q; exact tnb8)  (by show ivh30 (sk 25) 2 < 6003; omega)) dX3_gather_67 kS_X3_67 rfl rfl (Nat.le_of_ble_eq_true rfl) ⟨(Nat.le_of_ble_eq_true rfl), (Nat.le_of_ble_eq_true rfl)⟩ hph pl41 (show 0 + 0 = 0 from rfl) (by decide) (fun rh34 Lh34 clh34 lnh34 ivh34 rvh34 h34 => ?_)
            obtain ⟨rfl, xl34, fl34, W34, exf34⟩ := h34
            have F34 := F30.call X28 fl34 rfl
            have ty292 := xl30.ty ty249
            have ty293 := xl30.ty ty250
            have ty294 := xl30.ty ty251
            have ty295 := xl30.ty ty252
            have ty296 := xl30.ty ty253
            have ty297 := xl30.ty ty173
            have ty298 := xl30.ty ty255
            have ty299 := xl30.ty tnb6
            have X32 := X28.trans xl34
            have sk32 := xl34.skl sk28
            refine c_st (st2 := []) rfl ?_
            have ty300 := xl34.ty ty256
            have ri25 : 0 ≤ ivh34 (sk 25) 2 ∧ ivh34 (sk 25) 2 ≤ 6003 := W34.int ty300 2
            have gf34 : ivh30 (sk 25) 2 ≤ ivh34 (sk 25) 2 ∧ ivh34 (sk 25) 2 ≤ ivh30 (sk 25) 2 + 1 := exf34
            refine c_goto (tgt := 81) C dX3_gather_70 (by decide) ?_
            refine c_aload_n (j := 0) (x := a0) C dX3_gather_81 rfl ?_
            have ty301 := xl34.ty ty257
            have re63 : rvh22 a0 0 = rvh6 a0 0 := (fl22.r ty20 rfl 0)
            rw [re9] at re63
            have re64 : rvh30 a0 0 = rvh22 a0 0 := (fl30.r ty174 rfl 0)
            rw [re63] at re64
            have re65 : rvh34 a0 0 = rvh30 a0 0 := (fl34.r ty257 rfl 0)
            rw [re64] at re65
            refine c_getr (k := 0) C ck_4 dX3_gather_82 w1_190 (by decide) ty301 rfl rfl (by decide) rfl re65 ?_
            refine c_st (st2 := [.ref (sk 24)]) rfl ?_
            refine c_aload_n (j := 0) (x := a0) C dX3_gather_85 rfl ?_
            obtain ⟨rb20, rq20, trb20⟩ := W34.ref ty301 2 rfl rfl rfl
            have erb20 := W34.sk trb20 (by decide) rfl
            subst erb20
            refine c_getr (k := 2) C ck_4 dX3_gather_86 w1_196 (by decide) ty301 rfl rfl (by decide) rfl rq20 ?_
            refine c_st (st2 := [.ref (sk 6), .ref (sk 24)]) rfl ?_
            have ty302 := xl34.ty ty297
            have ty303 := xl34.ty ty292
            have pl42 := Phi.le W34 sk32
            refine d_callS (As := [.ref (sk 24), .ref (sk 6)]) (rest := []) C hM (C_markBegins_24 (a0 := (sk 24)) (a1 := (sk 6)) W34 sk32 ty302 ty303  ) dX3_gather_89 kS_X3_73 rfl rfl (Nat.le_of_ble_eq_true rfl) ⟨(Nat.le_of_ble_eq_true rfl), (Nat.le_of_ble_eq_true rfl)⟩ hph pl42 (show 0 + 0 = 0 from rfl) (by decide) (fun rh35 Lh35 clh35 lnh35 ivh35 rvh35 h35 => ?_)
            obtain ⟨rfl, xl35, fl35, W35, exf35⟩ := h35
            have F35 := F34.call X32 fl35 rfl
            have ty304 := xl34.ty ty258
            have ty305 := xl34.ty ty293
            have ty306 := xl34.ty ty294
            have ty307 := xl34.ty ty295
            have ty308 := xl34.ty ty296
            have ty309 := xl34.ty ty259
            have ty310 := xl34.ty ty298
            have ty311 := xl34.ty ty299
            have ty312 := xl34.ty tnb8
            have X33 := X32.trans xl35
            have sk33 := xl35.skl sk32
            refine c_st (st2 := []) rfl ?_
            refine c_aload_n (j := 0) (x := a0) C dX3_gather_92 rfl ?_
            have ty313 := xl35.ty ty301
            have re66 : rvh34 a0 1 = rvh30 a0 1 := (fl34.r ty257 rfl 1)
            rw [re55] at re66
            have re67 : rvh35 a0 1 = rvh34 a0 1 := (fl35.r ty301 rfl 1)
            rw [re66] at re67
            refine c_getr (k := 1) C ck_4 dX3_gather_93 w1_193 (by decide) ty313 rfl rfl (by decide) rfl re67 ?_
            refine c_st (st2 := [.ref (sk 25)]) rfl ?_
            refine c_aload_n (j := 0) (x := a0) C dX3_gather_96 rfl ?_
            obtain ⟨rb21, rq21, trb21⟩ := W35.ref ty313 3 rfl rfl rfl
            have erb21 := W35.sk trb21 (by decide) rfl
            subst erb21
            refine c_getr (k := 3) C ck_4 dX3_gather_97 w1_197 (by decide) ty313 rfl rfl (by decide) rfl rq21 ?_
            refine c_st (st2 := [.ref (sk 7), .ref (sk 25)]) rfl ?_
            have ty314 := xl35.ty ty300
            have ty315 := xl35.ty ty305
            have pl43 := Phi.le W35 sk33
            refine d_callS (As := [.ref (sk 25), .ref (sk 7)]) (rest := []) C hM (C_markBegins_25 (a0 := (sk 25)) (a1 := (sk 7)) W35 sk33 ty314 ty315  ) dX3_gather_100 kS_X3_73 rfl rfl (Nat.le_of_ble_eq_true rfl) ⟨(Nat.le_of_ble_eq_true rfl), (Nat.le_of_ble_eq_true rfl)⟩ hph pl43 (show 0 + 0 = 0 from rfl) (by decide) (fun rh36 Lh36 clh36 lnh36 ivh36 rvh36 h36 => ?_)
            obtain ⟨rfl, xl36, fl36, W36, exf36⟩ := h36
            have F36 := F35.call X33 fl36 rfl
            have ty316 := xl35.ty ty304
            have ty317 := xl35.ty ty303
            have ty318 := xl35.ty ty306
            have ty319 := xl35.ty ty307
            have ty320 := xl35.ty ty308
            have ty321 := xl35.ty ty302
            have ty322 := xl35.ty ty309
            have ty323 := xl35.ty ty310
            have ty324 := xl35.ty ty311
            have ty325 := xl35.ty ty312
            have X34 := X33.trans xl36
            have sk34 := xl36.skl sk33
            refine c_st (st2 := []) rfl ?_
            have pl44 := Phi.le W36 sk34
            exact c_vret C dX3_gather_103 rfl (by decide) (rom0 hph pl44 (by decide)) ⟨rfl, X34, F36, W36, trivial⟩
    · have rknb1 := W2.rank t_a1 (k := 2) (by decide) nq1
      refine c_getr (k := 2) C ck_10 dX3_gather_27 w2_181 (by decide) t_a1 rfl rfl (by decide) rfl nq1 ?_
      refine c_st (st2 := [.ref nb1, .ref (sk 24)]) rfl ?_
      have ri26 : 0 ≤ ivh2 (sk 24) 2 ∧ ivh2 (sk 24) 2 ≤ 6003 := W2.int tsk24 2
      have ie31 : ivh2 (sk 24) 2 = ivh1 (sk 24) 2 := fl2.i tsk24 rfl 2
      have pl45 := Phi.le W2 hS
      refine d_callS (As := [.ref (sk 24), .ref nb1]) (rest := []) C hM (C_gatherPart_24 (a0 := (sk 24)) (r := (some nb1)) W2 hS tsk24 (fun _ q => by cases q; exact tnb1)  (by show ivh2 (sk 24) 2 = 0; omega)) dX3_gather_30 kS_X3_59 rfl rfl (Nat.le_of_ble_eq_true rfl) ⟨(Nat.le_of_ble_eq_true rfl), (Nat.le_of_ble_eq_true rfl)⟩ hph pl45 (show 0 + 0 = 0 from rfl) (by decide) (fun rh37 Lh37 clh37 lnh37 ivh37 rvh37 h37 => ?_)
      obtain ⟨rfl, xl37, fl37, W37, exf37⟩ := h37
      have F37 := F2.call hX0 fl37 rfl
      have X35 := hX0.trans xl37
      have sk35 := xl37.skl hS
      refine c_st (st2 := []) rfl ?_
      have ty326 := xl37.ty tsk24
      have ri27 : 0 ≤ ivh37 (sk 24) 2 ∧ ivh37 (sk 24) 2 ≤ 6003 := W37.int ty326 2
      have gf37 : ivh37 (sk 24) 2 ≤ 6002 := exf37
      refine c_aload_n (j := 0) (x := a0) C dX3_gather_33 rfl ?_
      have ty327 := xl37.ty t_a0
      have re68 : rvh37 a0 0 = rvh2 a0 0 := (fl37.r t_a0 rfl 0)
      rw [re8] at re68
      refine c_getr (k := 0) C ck_4 dX3_gather_34 w1_190 (by decide) ty327 rfl rfl (by decide) rfl re68 ?_
      refine c_st (st2 := [.ref (sk 24)]) rfl ?_
      refine c_aload_n (j := 1) (x := a1) C dX3_gather_37 rfl ?_
      have ty328 := xl37.ty t_a1
      obtain ⟨rb22, rq22, trb22⟩ := W37.ref ty328 6 rfl rfl rfl
      have lnrb22 : 4 ≤ lnh37 rb22 ∧ lnh37 rb22 ≤ 4 := W37.len trb22 rfl
      refine c_getr (k := 6) C ck_10 dX3_gather_38 w2_193 (by decide) ty328 rfl rfl (by decide) rfl rq22 ?_
      refine c_st (st2 := [.ref rb22, .ref (sk 24)]) rfl ?_
      refine c_iconst C dX3_gather_41 ?_
      have ll6 : 4 ≤ lnh37 rb22 ∧ lnh37 rb22 ≤ 4 := W37.len trb22 rfl
      rcases W37.opt trb22 ((2 : Int).toNat) rfl rfl with ⟨nq9, _⟩ | ⟨nb9, nq9, tnb9⟩
      · refine c_aaldR C dX3_gather_42 trb22 rfl (by omega) (by omega) (by omega) nq9 ?_
        refine c_st (st2 := [.null, .ref (sk 24)]) rfl ?_
        have pl46 := Phi.le W37 sk35
        refine d_callS (As := [.ref (sk 24), .null]) (rest := []) C hM (C_addInd_24 (a0 := (sk 24)) (r := none) W37 sk35 ty326 (fun _ q => by cases q)  (by show ivh37 (sk 24) 2 < 6003; omega)) dX3_gather_43 kS_X3_67 rfl rfl (Nat.le_of_ble_eq_true rfl) ⟨(Nat.le_of_ble_eq_true rfl), (Nat.le_of_ble_eq_true rfl)⟩ hph pl46 (show 0 + 0 = 0 from rfl) (by decide) (fun rh38 Lh38 clh38 lnh38 ivh38 rvh38 h38 => ?_)
        obtain ⟨rfl, xl38, fl38, W38, exf38⟩ := h38
        have F38 := F37.call X35 fl38 rfl
        have ty329 := xl37.ty tsk6
        have ty330 := xl37.ty tsk7
        have ty331 := xl37.ty tsk8
        have ty332 := xl37.ty tsk9
        have ty333 := xl37.ty tsk10
        have ty334 := xl37.ty tsk25
        have ty335 := xl37.ty tnb1
        have X36 := X35.trans xl38
        have sk36 := xl38.skl sk35
        refine c_st (st2 := []) rfl ?_
        have ty336 := xl38.ty ty326
        have ri28 : 0 ≤ ivh38 (sk 24) 2 ∧ ivh38 (sk 24) 2 ≤ 6003 := W38.int ty336 2
        have gf38 : ivh37 (sk 24) 2 ≤ ivh38 (sk 24) 2 ∧ ivh38 (sk 24) 2 ≤ ivh37 (sk 24) 2 + 1 := exf38
        refine c_aload_n (j := 0) (x := a0) C dX3_gather_46 rfl ?_
        have ty337 := xl38.ty ty327
        have re69 : rvh2 a0 1 = rvh1 a0 1 := (fl2.r t_a0 rfl 1)
        rw [rq2] at re69
        have re70 : rvh37 a0 1 = rvh2 a0 1 := (fl37.r t_a0 rfl 1)
        rw [re69] at re70
        have re71 : rvh38 a0 1 = rvh37 a0 1 := (fl38.r ty327 rfl 1)
        rw [re70] at re71
        refine c_getr (k := 1) C ck_4 dX3_gather_47 w1_193 (by decide) ty337 rfl rfl (by decide) rfl re71 ?_
        refine c_st (st2 := [.ref (sk 25)]) rfl ?_
        refine c_aload_n (j := 1) (x := a1) C dX3_gather_50 rfl ?_
        have ty338 := xl38.ty ty328
        rcases W38.opt ty338 3 rfl rfl with ⟨nq10, _⟩ | ⟨nb10, nq10, tnb10⟩
        · refine c_getr (k := 3) C ck_10 dX3_gather_51 w2_184 (by decide) ty338 rfl rfl (by decide) rfl nq10 ?_
          refine c_st (st2 := [.null, .ref (sk 25)]) rfl ?_
          have ty339 := xl38.ty ty334
          have ri29 : 0 ≤ ivh38 (sk 25) 2 ∧ ivh38 (sk 25) 2 ≤ 6003 := W38.int ty339 2
          have ie34 : ivh38 (sk 25) 2 = ivh37 (sk 25) 2 := fl38.i ty334 rfl 2
          have ie35 : ivh37 (sk 25) 2 = ivh2 (sk 25) 2 := fl37.i tsk25 rfl 2
          have pl47 := Phi.le W38 sk36
          refine d_callS (As := [.ref (sk 25), .null]) (rest := []) C hM (C_gatherPart_25 (a0 := (sk 25)) (r := none) W38 sk36 ty339 (fun _ q => by cases q)  (by show ivh38 (sk 25) 2 = 0; omega)) dX3_gather_54 kS_X3_59 rfl rfl (Nat.le_of_ble_eq_true rfl) ⟨(Nat.le_of_ble_eq_true rfl), (Nat.le_of_ble_eq_true rfl)⟩ hph pl47 (show 0 + 0 = 0 from rfl) (by decide) (fun rh39 Lh39 clh39 lnh39 ivh39 rvh39 h39 => ?_)
          obtain ⟨rfl, xl39, fl39, W39, exf39⟩ := h39
          have F39 := F38.call X36 fl39 rfl
          have ty340 := xl38.ty ty329
          have ty341 := xl38.ty ty330
          have ty342 := xl38.ty ty331
          have ty343 := xl38.ty ty332
          have ty344 := xl38.ty ty333
          have ty345 := xl38.ty ty335
          have ty346 := xl38.ty trb22
          have X37 := X36.trans xl39
          have sk37 := xl39.skl sk36
          refine c_st (st2 := []) rfl ?_
          have ty347 := xl39.ty ty339
          have ri30 : 0 ≤ ivh39 (sk 25) 2 ∧ ivh39 (sk 25) 2 ≤ 6003 := W39.int ty347 2
          have gf39 : ivh39 (sk 25) 2 ≤ 6002 := exf39
          refine c_aload_n (j := 0) (x := a0) C dX3_gather_57 rfl ?_
          have ty348 := xl39.ty ty337
          have re72 : rvh39 a0 1 = rvh38 a0 1 := (fl39.r ty337 rfl 1)
          rw [re71] at re72
          refine c_getr (k := 1) C ck_4 dX3_gather_58 w1_193 (by decide) ty348 rfl rfl (by decide) rfl re72 ?_
          refine c_st (st2 := [.ref (sk 25)]) rfl ?_
          refine c_aload_n (j := 1) (x := a1) C dX3_gather_61 rfl ?_
          have ty349 := xl39.ty ty338
          have re73 : rvh38 a1 6 = rvh37 a1 6 := (fl38.r ty328 rfl 6)
          rw [rq22] at re73
          have re74 : rvh39 a1 6 = rvh38 a1 6 := (fl39.r ty338 rfl 6)
          rw [re73] at re74
          refine c_getr (k := 6) C ck_10 dX3_gather_62 w2_193 (by decide) ty349 rfl rfl (by decide) rfl re74 ?_
          refine c_st (st2 := [.ref rb22, .ref (sk 25)]) rfl ?_
          refine c_iconst C dX3_gather_65 ?_
          have ty350 := xl39.ty ty346
          have ll7 : 4 ≤ lnh39 rb22 ∧ lnh39 rb22 ≤ 4 := W39.len ty350 rfl
          rcases W39.opt ty350 ((3 : Int).toNat) rfl rfl with ⟨nq11, _⟩ | ⟨nb11, nq11, tnb11⟩
          · refine c_aaldR C dX3_gather_66 ty350 rfl (by omega) (by omega) (by omega) nq11 ?_
            refine c_st (st2 := [.null, .ref (sk 25)]) rfl ?_
            have pl48 := Phi.le W39 sk37
            refine d_callS (As := [.ref (sk 25), .null]) (rest := []) C hM (C_addInd_25 (a0 := (sk 25)) (r := none) W39 sk37 ty347 (fun _ q => by cases q)  (by show ivh39 (sk 25) 2 < 6003; omega)) dX3_gather_67 kS_X3_67 rfl rfl (Nat.le_of_ble_eq_true rfl) ⟨(Nat.le_of_ble_eq_true rfl), (Nat.le_of_ble_eq_true rfl)⟩ hph pl48 (show 0 + 0 = 0 from rfl) (by decide) (fun rh40 Lh40 clh40 lnh40 ivh40 rvh40 h40 => ?_)
            obtain ⟨rfl, xl40, fl40, W40, exf40⟩ := h40
            have F40 := F39.call X37 fl40 rfl
            have ty351 := xl39.ty ty340
            have ty352 := xl39.ty ty341
            have ty353 := xl39.ty ty342
            have ty354 := xl39.ty ty343
            have ty355 := xl39.ty ty344
            have ty356 := xl39.ty ty336
            have ty357 := xl39.ty ty345
            have X38 := X37.trans xl40
            have sk38 := xl40.skl sk37
            refine c_st (st2 := []) rfl ?_
            have ty358 := xl40.ty ty347
            have ri31 : 0 ≤ ivh40 (sk 25) 2 ∧ ivh40 (sk 25) 2 ≤ 6003 := W40.int ty358 2
            have gf40 : ivh39 (sk 25) 2 ≤ ivh40 (sk 25) 2 ∧ ivh40 (sk 25) 2 ≤ ivh39 (sk 25) 2 + 1 := exf40
            refine c_goto (tgt := 81) C dX3_gather_70 (by decide) ?_
            refine c_aload_n (j := 0) (x := a0) C dX3_gather_81 rfl ?_
            have ty359 := xl40.ty ty348
            have re75 : rvh38 a0 0 = rvh37 a0 0 := (fl38.r ty327 rfl 0)
            rw [re68] at re75
            have re76 : rvh39 a0 0 = rvh38 a0 0 := (fl39.r ty337 rfl 0)
            rw [re75] at re76
            have re77 : rvh40 a0 0 = rvh39 a0 0 := (fl40.r ty348 rfl 0)
            rw [re76] at re77
            refine c_getr (k := 0) C ck_4 dX3_gather_82 w1_190 (by decide) ty359 rfl rfl (by decide) rfl re77 ?_
            refine c_st (st2 := [.ref (sk 24)]) rfl ?_
            refine c_aload_n (j := 0) (x := a0) C dX3_gather_85 rfl ?_
            obtain ⟨rb23, rq23, trb23⟩ := W40.ref ty359 2 rfl rfl rfl
            have erb23 := W40.sk trb23 (by decide) rfl
            subst erb23
            refine c_getr (k := 2) C ck_4 dX3_gather_86 w1_196 (by decide) ty359 rfl rfl (by decide) rfl rq23 ?_
            refine c_st (st2 := [.ref (sk 6), .ref (sk 24)]) rfl ?_
            have ty360 := xl40.ty ty356
            have ty361 := xl40.ty ty351
            have pl49 := Phi.le W40 sk38
            refine d_callS (As := [.ref (sk 24), .ref (sk 6)]) (rest := []) C hM (C_markBegins_24 (a0 := (sk 24)) (a1 := (sk 6)) W40 sk38 ty360 ty361  ) dX3_gather_89 kS_X3_73 rfl rfl (Nat.le_of_ble_eq_true rfl) ⟨(Nat.le_of_ble_eq_true rfl), (Nat.le_of_ble_eq_true rfl)⟩ hph pl49 (show 0 + 0 = 0 from rfl) (by decide) (fun rh41 Lh41 clh41 lnh41 ivh41 rvh41 h41 => ?_)
            obtain ⟨rfl, xl41, fl41, W41, exf41⟩ := h41
            have F41 := F40.call X38 fl41 rfl
            have ty362 := xl40.ty ty349
            have ty363 := xl40.ty ty352
            have ty364 := xl40.ty ty353
            have ty365 := xl40.ty ty354
            have ty366 := xl40.ty ty355
            have ty367 := xl40.ty ty357
            have ty368 := xl40.ty ty350
            have X39 := X38.trans xl41
            have sk39 := xl41.skl sk38
            refine c_st (st2 := []) rfl ?_
            refine c_aload_n (j := 0) (x := a0) C dX3_gather_92 rfl ?_
            have ty369 := xl41.ty ty359
            have re78 : rvh40 a0 1 = rvh39 a0 1 := (fl40.r ty348 rfl 1)
            rw [re72] at re78
            have re79 : rvh41 a0 1 = rvh40 a0 1 := (fl41.r ty359 rfl 1)
            rw [re78] at re79
            refine c_getr (k := 1) C ck_4 dX3_gather_93 w1_193 (by decide) ty369 rfl rfl (by decide) rfl re79 ?_
            refine c_st (st2 := [.ref (sk 25)]) rfl ?_
            refine c_aload_n (j := 0) (x := a0) C dX3_gather_96 rfl ?_
            obtain ⟨rb24, rq24, trb24⟩ := W41.ref ty369 3 rfl rfl rfl
            have erb24 := W41.sk trb24 (by decide) rfl
            subst erb24
            refine c_getr (k := 3) C ck_4 dX3_gather_97 w1_197 (by decide) ty369 rfl rfl (by decide) rfl rq24 ?_
            refine c_st (st2 := [.ref (sk 7), .ref (sk 25)]) rfl ?_
            have ty370 := xl41.ty ty358
            have ty371 := xl41.ty ty363
            have pl50 := Phi.le W41 sk39
            refine d_callS (As := [.ref (sk 25), .ref (sk 7)]) (rest := []) C hM (C_markBegins_25 (a0 := (sk 25)) (a1 := (sk 7)) W41 sk39 ty370 ty371  ) dX3_gather_100 kS_X3_73 rfl rfl (Nat.le_of_ble_eq_true rfl) ⟨(Nat.le_of_ble_eq_true rfl), (Nat.le_of_ble_eq_true rfl)⟩ hph pl50 (show 0 + 0 = 0 from rfl) (by decide) (fun rh42 Lh42 clh42 lnh42 ivh42 rvh42 h42 => ?_)
            obtain ⟨rfl, xl42, fl42, W42, exf42⟩ := h42
            have F42 := F41.call X39 fl42 rfl
            have ty372 := xl41.ty ty362
            have ty373 := xl41.ty ty361
            have ty374 := xl41.ty ty364
            have ty375 := xl41.ty ty365
            have ty376 := xl41.ty ty366
            have ty377 := xl41.ty ty360
            have ty378 := xl41.ty ty367
            have ty379 := xl41.ty ty368
            have X40 := X39.trans xl42
            have sk40 := xl42.skl sk39
            refine c_st (st2 := []) rfl ?_
            have pl51 := Phi.le W42 sk40
            exact c_vret C dX3_gather_103 rfl (by decide) (rom0 hph pl51 (by decide)) ⟨rfl, X40, F42, W42, trivial⟩
          · have tnb11 : ty Lh39 clh39 nb11 20 := tnb11
            refine c_aaldR C dX3_gather_66 ty350 rfl (by omega) (by omega) (by omega) nq11 ?_
            refine c_st (st2 := [.ref nb11, .ref (sk 25)]) rfl ?_
            have pl52 := Phi.le W39 sk37
            refine d_callS (As := [.ref (sk 25), .ref nb11]) (rest := []) C hM (C_addInd_25 (a0 := (sk 25)) (r := (some nb11)) W39 sk37 ty347 (fun _ q => by cases q; exact tnb11)  (by show ivh39 (sk 25) 2 < 6003; omega)) dX3_gather_67 kS_X3_67 rfl rfl (Nat.le_of_ble_eq_true rfl) ⟨(Nat.le_of_ble_eq_true rfl), (Nat.le_of_ble_eq_true rfl)⟩ hph pl52 (show 0 + 0 = 0 from rfl) (by decide) (fun rh43 Lh43 clh43 lnh43 ivh43 rvh43 h43 => ?_)
            obtain ⟨rfl, xl43, fl43, W43, exf43⟩ := h43
            have F43 := F39.call X37 fl43 rfl
            have ty380 := xl39.ty ty340
            have ty381 := xl39.ty ty341
            have ty382 := xl39.ty ty342
            have ty383 := xl39.ty ty343
            have ty384 := xl39.ty ty344
            have ty385 := xl39.ty ty336
            have ty386 := xl39.ty ty345
            have X41 := X37.trans xl43
            have sk41 := xl43.skl sk37
            refine c_st (st2 := []) rfl ?_
            have ty387 := xl43.ty ty347
            have ri32 : 0 ≤ ivh43 (sk 25) 2 ∧ ivh43 (sk 25) 2 ≤ 6003 := W43.int ty387 2
            have gf43 : ivh39 (sk 25) 2 ≤ ivh43 (sk 25) 2 ∧ ivh43 (sk 25) 2 ≤ ivh39 (sk 25) 2 + 1 := exf43
            refine c_goto (tgt := 81) C dX3_gather_70 (by decide) ?_
            refine c_aload_n (j := 0) (x := a0) C dX3_gather_81 rfl ?_
            have ty388 := xl43.ty ty348
            have re80 : rvh38 a0 0 = rvh37 a0 0 := (fl38.r ty327 rfl 0)
            rw [re68] at re80
            have re81 : rvh39 a0 0 = rvh38 a0 0 := (fl39.r ty337 rfl 0)
            rw [re80] at re81
            have re82 : rvh43 a0 0 = rvh39 a0 0 := (fl43.r ty348 rfl 0)
            rw [re81] at re82
            refine c_getr (k := 0) C ck_4 dX3_gather_82 w1_190 (by decide) ty388 rfl rfl (by decide) rfl re82 ?_
            refine c_st (st2 := [.ref (sk 24)]) rfl ?_
            refine c_aload_n (j := 0) (x := a0) C dX3_gather_85 rfl ?_
            obtain ⟨rb25, rq25, trb25⟩ := W43.ref ty388 2 rfl rfl rfl
            have erb25 := W43.sk trb25 (by decide) rfl
            subst erb25
            refine c_getr (k := 2) C ck_4 dX3_gather_86 w1_196 (by decide) ty388 rfl rfl (by decide) rfl rq25 ?_
            refine c_st (st2 := [.ref (sk 6), .ref (sk 24)]) rfl ?_
            have ty389 := xl43.ty ty385
            have ty390 := xl43.ty ty380
            have pl53 := Phi.le W43 sk41
            refine d_callS (As := [.ref (sk 24), .ref (sk 6)]) (rest := []) C hM (C_markBegins_24 (a0 := (sk 24)) (a1 := (sk 6)) W43 sk41 ty389 ty390  ) dX3_gather_89 kS_X3_73 rfl rfl (Nat.le_of_ble_eq_true rfl) ⟨(Nat.le_of_ble_eq_true rfl), (Nat.le_of_ble_eq_true rfl)⟩ hph pl53 (show 0 + 0 = 0 from rfl) (by decide) (fun rh44 Lh44 clh44 lnh44 ivh44 rvh44 h44 => ?_)
            obtain ⟨rfl, xl44, fl44, W44, exf44⟩ := h44
            have F44 := F43.call X41 fl44 rfl
            have ty391 := xl43.ty ty349
            have ty392 := xl43.ty ty381
            have ty393 := xl43.ty ty382
            have ty394 := xl43.ty ty383
            have ty395 := xl43.ty ty384
            have ty396 := xl43.ty ty386
            have ty397 := xl43.ty ty350
            have ty398 := xl43.ty tnb11
            have X42 := X41.trans xl44
            have sk42 := xl44.skl sk41
            refine c_st (st2 := []) rfl ?_
            refine c_aload_n (j := 0) (x := a0) C dX3_gather_92 rfl ?_
            have ty399 := xl44.ty ty388
            have re83 : rvh43 a0 1 = rvh39 a0 1 := (fl43.r ty348 rfl 1)
            rw [re72] at re83
            have re84 : rvh44 a0 1 = rvh43 a0 1 := (fl44.r ty388 rfl 1)
            rw [re83] at re84
            refine c_getr (k := 1) C ck_4 dX3_gather_93 w1_193 (by decide) ty399 rfl rfl (by decide) rfl re84 ?_
            refine c_st (st2 := [.ref (sk 25)]) rfl ?_
            refine c_aload_n (j := 0) (x := a0) C dX3_gather_96 rfl ?_
            obtain ⟨rb26, rq26, trb26⟩ := W44.ref ty399 3 rfl rfl rfl
            have erb26 := W44.sk trb26 (by decide) rfl
            subst erb26
            refine c_getr (k := 3) C ck_4 dX3_gather_97 w1_197 (by decide) ty399 rfl rfl (by decide) rfl rq26 ?_
            refine c_st (st2 := [.ref (sk 7), .ref (sk 25)]) rfl ?_
            have ty400 := xl44.ty ty387
            have ty401 := xl44.ty ty392
            have pl54 := Phi.le W44 sk42
            refine d_callS (As := [.ref (sk 25), .ref (sk 7)]) (rest := []) C hM (C_markBegins_25 (a0 := (sk 25)) (a1 := (sk 7)) W44 sk42 ty400 ty401  ) dX3_gather_100 kS_X3_73 rfl rfl (Nat.le_of_ble_eq_true rfl) ⟨(Nat.le_of_ble_eq_true rfl), (Nat.le_of_ble_eq_true rfl)⟩ hph pl54 (show 0 + 0 = 0 from rfl) (by decide) (fun rh45 Lh45 clh45 lnh45 ivh45 rvh45 h45 => ?_)
            obtain ⟨rfl, xl45, fl45, W45, exf45⟩ := h45
            have F45 := F44.call X42 fl45 rfl
            have ty402 := xl44.ty ty391
            have ty403 := xl44.ty ty390
            have ty404 := xl44.ty ty393
            have ty405 := xl44.ty ty394
            have ty406 := xl44.ty ty395
            have ty407 := xl44.ty ty389
            have ty408 := xl44.ty ty396
            have ty409 := xl44.ty ty397
            have ty410 := xl44.ty ty398
            have X43 := X42.trans xl45
            have sk43 := xl45.skl sk42
            refine c_st (st2 := []) rfl ?_
            have pl55 := Phi.le W45 sk43
            exact c_vret C dX3_gather_103 rfl (by decide) (rom0 hph pl55 (by decide)) ⟨rfl, X43, F45, W45, trivial⟩
        · have rknb10 := W38.rank ty338 (k := 3) (by decide) nq10
          refine c_getr (k := 3) C ck_10 dX3_gather_51 w2_184 (by decide) ty338 rfl rfl (by decide) rfl nq10 ?_
          refine c_st (st2 := [.ref nb10, .ref (sk 25)]) rfl ?_
          have ty411 := xl38.ty ty334
          have ri33 : 0 ≤ ivh38 (sk 25) 2 ∧ ivh38 (sk 25) 2 ≤ 6003 := W38.int ty411 2
          have ie39 : ivh38 (sk 25) 2 = ivh37 (sk 25) 2 := fl38.i ty334 rfl 2
          have ie40 : ivh37 (sk 25) 2 = ivh2 (sk 25) 2 := fl37.i tsk25 rfl 2
          have pl56 := Phi.le W38 sk36
          refine d_callS (As := [.ref (sk 25), .ref nb10]) (rest := []) C hM (C_gatherPart_25 (a0 := (sk 25)) (r := (some nb10)) W38 sk36 ty411 (fun _ q => by cases q; exact tnb10)  (by show ivh38 (sk 25) 2 = 0; omega)) dX3_gather_54 kS_X3_59 rfl rfl (Nat.le_of_ble_eq_true rfl) ⟨(Nat.le_of_ble_eq_true rfl), (Nat.le_of_ble_eq_true rfl)⟩ hph pl56 (show 0 + 0 = 0 from rfl) (by decide) (fun rh46 Lh46 clh46 lnh46 ivh46 rvh46 h46 => ?_)
          obtain ⟨rfl, xl46, fl46, W46, exf46⟩ := h46
          have F46 := F38.call X36 fl46 rfl
          have ty412 := xl38.ty ty329
          have ty413 := xl38.ty ty330
          have ty414 := xl38.ty ty331
          have ty415 := xl38.ty ty332
          have ty416 := xl38.ty ty333
          have ty417 := xl38.ty ty335
          have ty418 := xl38.ty trb22
          have X44 := X36.trans xl46
          have sk44 := xl46.skl sk36
          refine c_st (st2 := []) rfl ?_
          have ty419 := xl46.ty ty411
          have ri34 : 0 ≤ ivh46 (sk 25) 2 ∧ ivh46 (sk 25) 2 ≤ 6003 := W46.int ty419 2
          have gf46 : ivh46 (sk 25) 2 ≤ 6002 := exf46
          refine c_aload_n (j := 0) (x := a0) C dX3_gather_57 rfl ?_
          have ty420 := xl46.ty ty337
          have re85 : rvh46 a0 1 = rvh38 a0 1 := (fl46.r ty337 rfl 1)
          rw [re71] at re85
          refine c_getr (k := 1) C ck_4 dX3_gather_58 w1_193 (by decide) ty420 rfl rfl (by decide) rfl re85 ?_
          refine c_st (st2 := [.ref (sk 25)]) rfl ?_
          refine c_aload_n (j := 1) (x := a1) C dX3_gather_61 rfl ?_
          have ty421 := xl46.ty ty338
          have re86 : rvh38 a1 6 = rvh37 a1 6 := (fl38.r ty328 rfl 6)
          rw [rq22] at re86
          have re87 : rvh46 a1 6 = rvh38 a1 6 := (fl46.r ty338 rfl 6)
          rw [re86] at re87
          refine c_getr (k := 6) C ck_10 dX3_gather_62 w2_193 (by decide) ty421 rfl rfl (by decide) rfl re87 ?_
          refine c_st (st2 := [.ref rb22, .ref (sk 25)]) rfl ?_
          refine c_iconst C dX3_gather_65 ?_
          have ty422 := xl46.ty ty418
          have ll8 : 4 ≤ lnh46 rb22 ∧ lnh46 rb22 ≤ 4 := W46.len ty422 rfl
          rcases W46.opt ty422 ((3 : Int).toNat) rfl rfl with ⟨nq12, _⟩ | ⟨nb12, nq12, tnb12⟩
          · refine c_aaldR C dX3_gather_66 ty422 rfl (by omega) (by omega) (by omega) nq12 ?_
            refine c_st (st2 := [.null, .ref (sk 25)]) rfl ?_
            have pl57 := Phi.le W46 sk44
            refine d_callS (As := [.ref (sk 25), .null]) (rest := []) C hM (C_addInd_25 (a0 := (sk 25)) (r := none) W46 sk44 ty419 (fun _ q => by cases q)  (by show ivh46 (sk 25) 2 < 6003; omega)) dX3_gather_67 kS_X3_67 rfl rfl (Nat.le_of_ble_eq_true rfl) ⟨(Nat.le_of_ble_eq_true rfl), (Nat.le_of_ble_eq_true rfl)⟩ hph pl57 (show 0 + 0 = 0 from rfl) (by decide) (fun rh47 Lh47 clh47 lnh47 ivh47 rvh47 h47 => ?_)
            obtain ⟨rfl, xl47, fl47, W47, exf47⟩ := h47
            have F47 := F46.call X44 fl47 rfl
            have ty423 := xl46.ty ty412
            have ty424 := xl46.ty ty413
            have ty425 := xl46.ty ty414
            have ty426 := xl46.ty ty415
            have ty427 := xl46.ty ty416
            have ty428 := xl46.ty ty336
            have ty429 := xl46.ty ty417
            have ty430 := xl46.ty tnb10
            have X45 := X44.trans xl47
            have sk45 := xl47.skl sk44
            refine c_st (st2 := []) rfl ?_
            have ty431 := xl47.ty ty419
            have ri35 : 0 ≤ ivh47 (sk 25) 2 ∧ ivh47 (sk 25) 2 ≤ 6003 := W47.int ty431 2
            have gf47 : ivh46 (sk 25) 2 ≤ ivh47 (sk 25) 2 ∧ ivh47 (sk 25) 2 ≤ ivh46 (sk 25) 2 + 1 := exf47
            refine c_goto (tgt := 81) C dX3_gather_70 (by decide) ?_
            refine c_aload_n (j := 0) (x := a0) C dX3_gather_81 rfl ?_
            have ty432 := xl47.ty ty420
            have re88 : rvh38 a0 0 = rvh37 a0 0 := (fl38.r ty327 rfl 0)
            rw [re68] at re88
            have re89 : rvh46 a0 0 = rvh38 a0 0 := (fl46.r ty337 rfl 0)
            rw [re88] at re89
            have re90 : rvh47 a0 0 = rvh46 a0 0 := (fl47.r ty420 rfl 0)
            rw [re89] at re90
            refine c_getr (k := 0) C ck_4 dX3_gather_82 w1_190 (by decide) ty432 rfl rfl (by decide) rfl re90 ?_
            refine c_st (st2 := [.ref (sk 24)]) rfl ?_
            refine c_aload_n (j := 0) (x := a0) C dX3_gather_85 rfl ?_
            obtain ⟨rb27, rq27, trb27⟩ := W47.ref ty432 2 rfl rfl rfl
            have erb27 := W47.sk trb27 (by decide) rfl
            subst erb27
            refine c_getr (k := 2) C ck_4 dX3_gather_86 w1_196 (by decide) ty432 rfl rfl (by decide) rfl rq27 ?_
            refine c_st (st2 := [.ref (sk 6), .ref (sk 24)]) rfl ?_
            have ty433 := xl47.ty ty428
            have ty434 := xl47.ty ty423
            have pl58 := Phi.le W47 sk45
            refine d_callS (As := [.ref (sk 24), .ref (sk 6)]) (rest := []) C hM (C_markBegins_24 (a0 := (sk 24)) (a1 := (sk 6)) W47 sk45 ty433 ty434  ) dX3_gather_89 kS_X3_73 rfl rfl (Nat.le_of_ble_eq_true rfl) ⟨(Nat.le_of_ble_eq_true rfl), (Nat.le_of_ble_eq_true rfl)⟩ hph pl58 (show 0 + 0 = 0 from rfl) (by decide) (fun rh48 Lh48 clh48 lnh48 ivh48 rvh48 h48 => ?_)
            obtain ⟨rfl, xl48, fl48, W48, exf48⟩ := h48
            have F48 := F47.call X45 fl48 rfl
            have ty435 := xl47.ty ty421
            have ty436 := xl47.ty ty424
            have ty437 := xl47.ty ty425
            have ty438 := xl47.ty ty426
            have ty439 := xl47.ty ty427
            have ty440 := xl47.ty ty429
            have ty441 := xl47.ty ty422
            have ty442 := xl47.ty ty430
            have X46 := X45.trans xl48
            have sk46 := xl48.skl sk45
            refine c_st (st2 := []) rfl ?_
            refine c_aload_n (j := 0) (x := a0) C dX3_gather_92 rfl ?_
            have ty443 := xl48.ty ty432
            have re91 : rvh47 a0 1 = rvh46 a0 1 := (fl47.r ty420 rfl 1)
            rw [re85] at re91
            have re92 : rvh48 a0 1 = rvh47 a0 1 := (fl48.r ty432 rfl 1)
            rw [re91] at re92
            refine c_getr (k := 1) C ck_4 dX3_gather_93 w1_193 (by decide) ty443 rfl rfl (by decide) rfl re92 ?_
            refine c_st (st2 := [.ref (sk 25)]) rfl ?_
            refine c_aload_n (j := 0) (x := a0) C dX3_gather_96 rfl ?_
            obtain ⟨rb28, rq28, trb28⟩ := W48.ref ty443 3 rfl rfl rfl
            have erb28 := W48.sk trb28 (by decide) rfl
            subst erb28
            refine c_getr (k := 3) C ck_4 dX3_gather_97 w1_197 (by decide) ty443 rfl rfl (by decide) rfl rq28 ?_
            refine c_st (st2 := [.ref (sk 7), .ref (sk 25)]) rfl ?_
            have ty444 := xl48.ty ty431
            have ty445 := xl48.ty ty436
            have pl59 := Phi.le W48 sk46
            refine d_callS (As := [.ref (sk 25), .ref (sk 7)]) (rest := []) C hM (C_markBegins_25 (a0 := (sk 25)) (a1 := (sk 7)) W48 sk46 ty444 ty445  ) dX3_gather_100 kS_X3_73 rfl rfl (Nat.le_of_ble_eq_true rfl) ⟨(Nat.le_of_ble_eq_true rfl), (Nat.le_of_ble_eq_true rfl)⟩ hph pl59 (show 0 + 0 = 0 from rfl) (by decide) (fun rh49 Lh49 clh49 lnh49 ivh49 rvh49 h49 => ?_)
            obtain ⟨rfl, xl49, fl49, W49, exf49⟩ := h49
            have F49 := F48.call X46 fl49 rfl
            have ty446 := xl48.ty ty435
            have ty447 := xl48.ty ty434
            have ty448 := xl48.ty ty437
            have ty449 := xl48.ty ty438
            have ty450 := xl48.ty ty439
            have ty451 := xl48.ty ty433
            have ty452 := xl48.ty ty440
            have ty453 := xl48.ty ty441
            have ty454 := xl48.ty ty442
            have X47 := X46.trans xl49
            have sk47 := xl49.skl sk46
            refine c_st (st2 := []) rfl ?_
            have pl60 := Phi.le W49 sk47
            exact c_vret C dX3_gather_103 rfl (by decide) (rom0 hph pl60 (by decide)) ⟨rfl, X47, F49, W49, trivial⟩
          · have tnb12 : ty Lh46 clh46 nb12 20 := tnb12
            refine c_aaldR C dX3_gather_66 ty422 rfl (by omega) (by omega) (by omega) nq12 ?_
            refine c_st (st2 := [.ref nb12, .ref (sk 25)]) rfl ?_
            have pl61 := Phi.le W46 sk44
            refine d_callS (As := [.ref (sk 25), .ref nb12]) (rest := []) C hM (C_addInd_25 (a0 := (sk 25)) (r := (some nb12)) W46 sk44 ty419 (fun _ q => by cases q; exact tnb12)  (by show ivh46 (sk 25) 2 < 6003; omega)) dX3_gather_67 kS_X3_67 rfl rfl (Nat.le_of_ble_eq_true rfl) ⟨(Nat.le_of_ble_eq_true rfl), (Nat.le_of_ble_eq_true rfl)⟩ hph pl61 (show 0 + 0 = 0 from rfl) (by decide) (fun rh50 Lh50 clh50 lnh50 ivh50 rvh50 h50 => ?_)
            obtain ⟨rfl, xl50, fl50, W50, exf50⟩ := h50
            have F50 := F46.call X44 fl50 rfl
            have ty455 := xl46.ty ty412
            have ty456 := xl46.ty ty413
            have ty457 := xl46.ty ty414
            have ty458 := xl46.ty ty415
            have ty459 := xl46.ty ty416
            have ty460 := xl46.ty ty336
            have ty461 := xl46.ty ty417
            have ty462 := xl46.ty tnb10
            have X48 := X44.trans xl50
            have sk48 := xl50.skl sk44
            refine c_st (st2 := []) rfl ?_
            have ty463 := xl50.ty ty419
            have ri36 : 0 ≤ ivh50 (sk 25) 2 ∧ ivh50 (sk 25) 2 ≤ 6003 := W50.int ty463 2
            have gf50 : ivh46 (sk 25) 2 ≤ ivh50 (sk 25) 2 ∧ ivh50 (sk 25) 2 ≤ ivh46 (sk 25) 2 + 1 := exf50
            refine c_goto (tgt := 81) C dX3_gather_70 (by decide) ?_
            refine c_aload_n (j := 0) (x := a0) C dX3_gather_81 rfl ?_
            have ty464 := xl50.ty ty420
            have re93 : rvh38 a0 0 = rvh37 a0 0 := (fl38.r ty327 rfl 0)
            rw [re68] at re93
            have re94 : rvh46 a0 0 = rvh38 a0 0 := (fl46.r ty337 rfl 0)
            rw [re93] at re94
            have re95 : rvh50 a0 0 = rvh46 a0 0 := (fl50.r ty420 rfl 0)
            rw [re94] at re95
            refine c_getr (k := 0) C ck_4 dX3_gather_82 w1_190 (by decide) ty464 rfl rfl (by decide) rfl re95 ?_
            refine c_st (st2 := [.ref (sk 24)]) rfl ?_
            refine c_aload_n (j := 0) (x := a0) C dX3_gather_85 rfl ?_
            obtain ⟨rb29, rq29, trb29⟩ := W50.ref ty464 2 rfl rfl rfl
            have erb29 := W50.sk trb29 (by decide) rfl
            subst erb29
            refine c_getr (k := 2) C ck_4 dX3_gather_86 w1_196 (by decide) ty464 rfl rfl (by decide) rfl rq29 ?_
            refine c_st (st2 := [.ref (sk 6), .ref (sk 24)]) rfl ?_
            have ty465 := xl50.ty ty460
            have ty466 := xl50.ty ty455
            have pl62 := Phi.le W50 sk48
            refine d_callS (As := [.ref (sk 24), .ref (sk 6)]) (rest := []) C hM (C_markBegins_24 (a0 := (sk 24)) (a1 := (sk 6)) W50 sk48 ty465 ty466  ) dX3_gather_89 kS_X3_73 rfl rfl (Nat.le_of_ble_eq_true rfl) ⟨(Nat.le_of_ble_eq_true rfl), (Nat.le_of_ble_eq_true rfl)⟩ hph pl62 (show 0 + 0 = 0 from rfl) (by decide) (fun rh51 Lh51 clh51 lnh51 ivh51 rvh51 h51 => ?_)
            obtain ⟨rfl, xl51, fl51, W51, exf51⟩ := h51
            have F51 := F50.call X48 fl51 rfl
            have ty467 := xl50.ty ty421
            have ty468 := xl50.ty ty456
            have ty469 := xl50.ty ty457
            have ty470 := xl50.ty ty458
            have ty471 := xl50.ty ty459
            have ty472 := xl50.ty ty461
            have ty473 := xl50.ty ty422
            have ty474 := xl50.ty ty462
            have ty475 := xl50.ty tnb12
            have X49 := X48.trans xl51
            have sk49 := xl51.skl sk48
            refine c_st (st2 := []) rfl ?_
            refine c_aload_n (j := 0) (x := a0) C dX3_gather_92 rfl ?_
            have ty476 := xl51.ty ty464
            have re96 : rvh50 a0 1 = rvh46 a0 1 := (fl50.r ty420 rfl 1)
            rw [re85] at re96
            have re97 : rvh51 a0 1 = rvh50 a0 1 := (fl51.r ty464 rfl 1)
            rw [re96] at re97
            refine c_getr (k := 1) C ck_4 dX3_gather_93 w1_193 (by decide) ty476 rfl rfl (by decide) rfl re97 ?_
            refine c_st (st2 := [.ref (sk 25)]) rfl ?_
            refine c_aload_n (j := 0) (x := a0) C dX3_gather_96 rfl ?_
            obtain ⟨rb30, rq30, trb30⟩ := W51.ref ty476 3 rfl rfl rfl
            have erb30 := W51.sk trb30 (by decide) rfl
            subst erb30
            refine c_getr (k := 3) C ck_4 dX3_gather_97 w1_197 (by decide) ty476 rfl rfl (by decide) rfl rq30 ?_
            refine c_st (st2 := [.ref (sk 7), .ref (sk 25)]) rfl ?_
            have ty477 := xl51.ty ty463
            have ty478 := xl51.ty ty468
            have pl63 := Phi.le W51 sk49
            refine d_callS (As := [.ref (sk 25), .ref (sk 7)]) (rest := []) C hM (C_markBegins_25 (a0 := (sk 25)) (a1 := (sk 7)) W51 sk49 ty477 ty478  ) dX3_gather_100 kS_X3_73 rfl rfl (Nat.le_of_ble_eq_true rfl) ⟨(Nat.le_of_ble_eq_true rfl), (Nat.le_of_ble_eq_true rfl)⟩ hph pl63 (show 0 + 0 = 0 from rfl) (by decide) (fun rh52 Lh52 clh52 lnh52 ivh52 rvh52 h52 => ?_)
            obtain ⟨rfl, xl52, fl52, W52, exf52⟩ := h52
            have F52 := F51.call X49 fl52 rfl
            have ty479 := xl51.ty ty467
            have ty480 := xl51.ty ty466
            have ty481 := xl51.ty ty469
            have ty482 := xl51.ty ty470
            have ty483 := xl51.ty ty471
            have ty484 := xl51.ty ty465
            have ty485 := xl51.ty ty472
            have ty486 := xl51.ty ty473
            have ty487 := xl51.ty ty474
            have ty488 := xl51.ty ty475
            have X50 := X49.trans xl52
            have sk50 := xl52.skl sk49
            refine c_st (st2 := []) rfl ?_
            have pl64 := Phi.le W52 sk50
            exact c_vret C dX3_gather_103 rfl (by decide) (rom0 hph pl64 (by decide)) ⟨rfl, X50, F52, W52, trivial⟩
      · have tnb9 : ty Lh37 clh37 nb9 20 := tnb9
        refine c_aaldR C dX3_gather_42 trb22 rfl (by omega) (by omega) (by omega) nq9 ?_
        refine c_st (st2 := [.ref nb9, .ref (sk 24)]) rfl ?_
        have pl65 := Phi.le W37 sk35
        refine d_callS (As := [.ref (sk 24), .ref nb9]) (rest := []) C hM (C_addInd_24 (a0 := (sk 24)) (r := (some nb9)) W37 sk35 ty326 (fun _ q => by cases q; exact tnb9)  (by show ivh37 (sk 24) 2 < 6003; omega)) dX3_gather_43 kS_X3_67 rfl rfl (Nat.le_of_ble_eq_true rfl) ⟨(Nat.le_of_ble_eq_true rfl), (Nat.le_of_ble_eq_true rfl)⟩ hph pl65 (show 0 + 0 = 0 from rfl) (by decide) (fun rh53 Lh53 clh53 lnh53 ivh53 rvh53 h53 => ?_)
        obtain ⟨rfl, xl53, fl53, W53, exf53⟩ := h53
        have F53 := F37.call X35 fl53 rfl
        have ty489 := xl37.ty tsk6
        have ty490 := xl37.ty tsk7
        have ty491 := xl37.ty tsk8
        have ty492 := xl37.ty tsk9
        have ty493 := xl37.ty tsk10
        have ty494 := xl37.ty tsk25
        have ty495 := xl37.ty tnb1
        have X51 := X35.trans xl53
        have sk51 := xl53.skl sk35
        refine c_st (st2 := []) rfl ?_
        have ty496 := xl53.ty ty326
        have ri37 : 0 ≤ ivh53 (sk 24) 2 ∧ ivh53 (sk 24) 2 ≤ 6003 := W53.int ty496 2
        have gf53 : ivh37 (sk 24) 2 ≤ ivh53 (sk 24) 2 ∧ ivh53 (sk 24) 2 ≤ ivh37 (sk 24) 2 + 1 := exf53
        refine c_aload_n (j := 0) (x := a0) C dX3_gather_46 rfl ?_
        have ty497 := xl53.ty ty327
        have re98 : rvh2 a0 1 = rvh1 a0 1 := (fl2.r t_a0 rfl 1)
        rw [rq2] at re98
        have re99 : rvh37 a0 1 = rvh2 a0 1 := (fl37.r t_a0 rfl 1)
        rw [re98] at re99
        have re100 : rvh53 a0 1 = rvh37 a0 1 := (fl53.r ty327 rfl 1)
        rw [re99] at re100
        refine c_getr (k := 1) C ck_4 dX3_gather_47 w1_193 (by decide) ty497 rfl rfl (by decide) rfl re100 ?_
        refine c_st (st2 := [.ref (sk 25)]) rfl ?_
        refine c_aload_n (j := 1) (x := a1) C dX3_gather_50 rfl ?_
        have ty498 := xl53.ty ty328
        rcases W53.opt ty498 3 rfl rfl with ⟨nq13, _⟩ | ⟨nb13, nq13, tnb13⟩
        · refine c_getr (k := 3) C ck_10 dX3_gather_51 w2_184 (by decide) ty498 rfl rfl (by decide) rfl nq13 ?_
          refine c_st (st2 := [.null, .ref (sk 25)]) rfl ?_
          have ty499 := xl53.ty ty494
          have ri38 : 0 ≤ ivh53 (sk 25) 2 ∧ ivh53 (sk 25) 2 ≤ 6003 := W53.int ty499 2
          have ie45 : ivh53 (sk 25) 2 = ivh37 (sk 25) 2 := fl53.i ty494 rfl 2
          have ie46 : ivh37 (sk 25) 2 = ivh2 (sk 25) 2 := fl37.i tsk25 rfl 2
          have pl66 := Phi.le W53 sk51
          refine d_callS (As := [.ref (sk 25), .null]) (rest := []) C hM (C_gatherPart_25 (a0 := (sk 25)) (r := none) W53 sk51 ty499 (fun _ q => by cases q)  (by show ivh53 (sk 25) 2 = 0; omega)) dX3_gather_54 kS_X3_59 rfl rfl (Nat.le_of_ble_eq_true rfl) ⟨(Nat.le_of_ble_eq_true rfl), (Nat.le_of_ble_eq_true rfl)⟩ hph pl66 (show 0 + 0 = 0 from rfl) (by decide) (fun rh54 Lh54 clh54 lnh54 ivh54 rvh54 h54 => ?_)
          obtain ⟨rfl, xl54, fl54, W54, exf54⟩ := h54
          have F54 := F53.call X51 fl54 rfl
          have ty500 := xl53.ty ty489
          have ty501 := xl53.ty ty490
          have ty502 := xl53.ty ty491
          have ty503 := xl53.ty ty492
          have ty504 := xl53.ty ty493
          have ty505 := xl53.ty ty495
          have ty506 := xl53.ty trb22
          have ty507 := xl53.ty tnb9
          have X52 := X51.trans xl54
          have sk52 := xl54.skl sk51
          refine c_st (st2 := []) rfl ?_
          have ty508 := xl54.ty ty499
          have ri39 : 0 ≤ ivh54 (sk 25) 2 ∧ ivh54 (sk 25) 2 ≤ 6003 := W54.int ty508 2
          have gf54 : ivh54 (sk 25) 2 ≤ 6002 := exf54
          refine c_aload_n (j := 0) (x := a0) C dX3_gather_57 rfl ?_
          have ty509 := xl54.ty ty497
          have re101 : rvh54 a0 1 = rvh53 a0 1 := (fl54.r ty497 rfl 1)
          rw [re100] at re101
          refine c_getr (k := 1) C ck_4 dX3_gather_58 w1_193 (by decide) ty509 rfl rfl (by decide) rfl re101 ?_
          refine c_st (st2 := [.ref (sk 25)]) rfl ?_
          refine c_aload_n (j := 1) (x := a1) C dX3_gather_61 rfl ?_
          have ty510 := xl54.ty ty498
          have re102 : rvh53 a1 6 = rvh37 a1 6 := (fl53.r ty328 rfl 6)
          rw [rq22] at re102
          have re103 : rvh54 a1 6 = rvh53 a1 6 := (fl54.r ty498 rfl 6)
          rw [re102] at re103
          refine c_getr (k := 6) C ck_10 dX3_gather_62 w2_193 (by decide) ty510 rfl rfl (by decide) rfl re103 ?_
          refine c_st (st2 := [.ref rb22, .ref (sk 25)]) rfl ?_
          refine c_iconst C dX3_gather_65 ?_
          have ty511 := xl54.ty ty506
          have ll9 : 4 ≤ lnh54 rb22 ∧ lnh54 rb22 ≤ 4 := W54.len ty511 rfl
          rcases W54.opt ty511 ((3 : Int).toNat) rfl rfl with ⟨nq14, _⟩ | ⟨nb14, nq14, tnb14⟩
          · refine c_aaldR C dX3_gather_66 ty511 rfl (by omega) (by omega) (by omega) nq14 ?_
            refine c_st (st2 := [.null, .ref (sk 25)]) rfl ?_
            have pl67 := Phi.le W54 sk52
            refine d_callS (As := [.ref (sk 25), .null]) (rest := []) C hM (C_addInd_25 (a0 := (sk 25)) (r := none) W54 sk52 ty508 (fun _ q => by cases q)  (by show ivh54 (sk 25) 2 < 6003; omega)) dX3_gather_67 kS_X3_67 rfl rfl (Nat.le_of_ble_eq_true rfl) ⟨(Nat.le_of_ble_eq_true rfl), (Nat.le_of_ble_eq_true rfl)⟩ hph pl67 (show 0 + 0 = 0 from rfl) (by decide) (fun rh55 Lh55 clh55 lnh55 ivh55 rvh55 h55 => ?_)
            obtain ⟨rfl, xl55, fl55, W55, exf55⟩ := h55
            have F55 := F54.call X52 fl55 rfl
            have ty512 := xl54.ty ty500
            have ty513 := xl54.ty ty501
            have ty514 := xl54.ty ty502
            have ty515 := xl54.ty ty503
            have ty516 := xl54.ty ty504
            have ty517 := xl54.ty ty496
            have ty518 := xl54.ty ty505
            have ty519 := xl54.ty ty507
            have X53 := X52.trans xl55
            have sk53 := xl55.skl sk52
            refine c_st (st2 := []) rfl ?_
            have ty520 := xl55.ty ty508
            have ri40 : 0 ≤ ivh55 (sk 25) 2 ∧ ivh55 (sk 25) 2 ≤ 6003 := W55.int ty520 2
            have gf55 : ivh54 (sk 25) 2 ≤ ivh55 (sk 25) 2 ∧ ivh55 (sk 25) 2 ≤ ivh54 (sk 25) 2 + 1 := exf55
            refine c_goto (tgt := 81) C dX3_gather_70 (by decide) ?_
            refine c_aload_n (j := 0) (x := a0) C dX3_gather_81 rfl ?_
            have ty521 := xl55.ty ty509
            have re104 : rvh53 a0 0 = rvh37 a0 0 := (fl53.r ty327 rfl 0)
            rw [re68] at re104
            have re105 : rvh54 a0 0 = rvh53 a0 0 := (fl54.r ty497 rfl 0)
            rw [re104] at re105
            have re106 : rvh55 a0 0 = rvh54 a0 0 := (fl55.r ty509 rfl 0)
            rw [re105] at re106
            refine c_getr (k := 0) C ck_4 dX3_gather_82 w1_190 (by decide) ty521 rfl rfl (by decide) rfl re106 ?_
            refine c_st (st2 := [.ref (sk 24)]) rfl ?_
            refine c_aload_n (j := 0) (x := a0) C dX3_gather_85 rfl ?_
            obtain ⟨rb31, rq31, trb31⟩ := W55.ref ty521 2 rfl rfl rfl
            have erb31 := W55.sk trb31 (by decide) rfl
            subst erb31
            refine c_getr (k := 2) C ck_4 dX3_gather_86 w1_196 (by decide) ty521 rfl rfl (by decide) rfl rq31 ?_
            refine c_st (st2 := [.ref (sk 6), .ref (sk 24)]) rfl ?_
            have ty522 := xl55.ty ty517
            have ty523 := xl55.ty ty512
            have pl68 := Phi.le W55 sk53
            refine d_callS (As := [.ref (sk 24), .ref (sk 6)]) (rest := []) C hM (C_markBegins_24 (a0 := (sk 24)) (a1 := (sk 6)) W55 sk53 ty522 ty523  ) dX3_gather_89 kS_X3_73 rfl rfl (Nat.le_of_ble_eq_true rfl) ⟨(Nat.le_of_ble_eq_true rfl), (Nat.le_of_ble_eq_true rfl)⟩ hph pl68 (show 0 + 0 = 0 from rfl) (by decide) (fun rh56 Lh56 clh56 lnh56 ivh56 rvh56 h56 => ?_)
            obtain ⟨rfl, xl56, fl56, W56, exf56⟩ := h56
            have F56 := F55.call X53 fl56 rfl
            have ty524 := xl55.ty ty510
            have ty525 := xl55.ty ty513
            have ty526 := xl55.ty ty514
            have ty527 := xl55.ty ty515
            have ty528 := xl55.ty ty516
            have ty529 := xl55.ty ty518
            have ty530 := xl55.ty ty511
            have ty531 := xl55.ty ty519
            have X54 := X53.trans xl56
            have sk54 := xl56.skl sk53
            refine c_st (st2 := []) rfl ?_
            refine c_aload_n (j := 0) (x := a0) C dX3_gather_92 rfl ?_
            have ty532 := xl56.ty ty521
            have re107 : rvh55 a0 1 = rvh54 a0 1 := (fl55.r ty509 rfl 1)
            rw [re101] at re107
            have re108 : rvh56 a0 1 = rvh55 a0 1 := (fl56.r ty521 rfl 1)
            rw [re107] at re108
            refine c_getr (k := 1) C ck_4 dX3_gather_93 w1_193 (by decide) ty532 rfl rfl (by decide) rfl re108 ?_
            refine c_st (st2 := [.ref (sk 25)]) rfl ?_
            refine c_aload_n (j := 0) (x := a0) C dX3_gather_96 rfl ?_
            obtain ⟨rb32, rq32, trb32⟩ := W56.ref ty532 3 rfl rfl rfl
            have erb32 := W56.sk trb32 (by decide) rfl
            subst erb32
            refine c_getr (k := 3) C ck_4 dX3_gather_97 w1_197 (by decide) ty532 rfl rfl (by decide) rfl rq32 ?_
            refine c_st (st2 := [.ref (sk 7), .ref (sk 25)]) rfl ?_
            have ty533 := xl56.ty ty520
            have ty534 := xl56.ty ty525
            have pl69 := Phi.le W56 sk54
            refine d_callS (As := [.ref (sk 25), .ref (sk 7)]) (rest := []) C hM (C_markBegins_25 (a0 := (sk 25)) (a1 := (sk 7)) W56 sk54 ty533 ty534  ) dX3_gather_100 kS_X3_73 rfl rfl (Nat.le_of_ble_eq_true rfl) ⟨(Nat.le_of_ble_eq_true rfl), (Nat.le_of_ble_eq_true rfl)⟩ hph pl69 (show 0 + 0 = 0 from rfl) (by decide) (fun rh57 Lh57 clh57 lnh57 ivh57 rvh57 h57 => ?_)
            obtain ⟨rfl, xl57, fl57, W57, exf57⟩ := h57
            have F57 := F56.call X54 fl57 rfl
            have ty535 := xl56.ty ty524
            have ty536 := xl56.ty ty523
            have ty537 := xl56.ty ty526
            have ty538 := xl56.ty ty527
            have ty539 := xl56.ty ty528
            have ty540 := xl56.ty ty522
            have ty541 := xl56.ty ty529
            have ty542 := xl56.ty ty530
            have ty543 := xl56.ty ty531
            have X55 := X54.trans xl57
            have sk55 := xl57.skl sk54
            refine c_st (st2 := []) rfl ?_
            have pl70 := Phi.le W57 sk55
            exact c_vret C dX3_gather_103 rfl (by decide) (rom0 hph pl70 (by decide)) ⟨rfl, X55, F57, W57, trivial⟩
          · have tnb14 : ty Lh54 clh54 nb14 20 := tnb14
            refine c_aaldR C dX3_gather_66 ty511 rfl (by omega) (by omega) (by omega) nq14 ?_
            refine c_st (st2 := [.ref nb14, .ref (sk 25)]) rfl ?_
            have pl71 := Phi.le W54 sk52
            refine d_callS (As := [.ref (sk 25), .ref nb14]) (rest := []) C hM (C_addInd_25 (a0 := (sk 25)) (r := (some nb14)) W54 sk52 ty508 (fun _ q => by cases q; exact tnb14)  (by show ivh54 (sk 25) 2 < 6003; omega)) dX3_gather_67 kS_X3_67 rfl rfl (Nat.le_of_ble_eq_true rfl) ⟨(Nat.le_of_ble_eq_true rfl), (Nat.le_of_ble_eq_true rfl)⟩ hph pl71 (show 0 + 0 = 0 from rfl) (by decide) (fun rh58 Lh58 clh58 lnh58 ivh58 rvh58 h58 => ?_)
            obtain ⟨rfl, xl58, fl58, W58, exf58⟩ := h58
            have F58 := F54.call X52 fl58 rfl
            have ty544 := xl54.ty ty500
            have ty545 := xl54.ty ty501
            have ty546 := xl54.ty ty502
            have ty547 := xl54.ty ty503
            have ty548 := xl54.ty ty504
            have ty549 := xl54.ty ty496
            have ty550 := xl54.ty ty505
            have ty551 := xl54.ty ty507
            have X56 := X52.trans xl58
            have sk56 := xl58.skl sk52
            refine c_st (st2 := []) rfl ?_
            have ty552 := xl58.ty ty508
            have ri41 : 0 ≤ ivh58 (sk 25) 2 ∧ ivh58 (sk 25) 2 ≤ 6003 := W58.int ty552 2
            have gf58 : ivh54 (sk 25) 2 ≤ ivh58 (sk 25) 2 ∧ ivh58 (sk 25) 2 ≤ ivh54 (sk 25) 2 + 1 := exf58
            refine c_goto (tgt := 81) C dX3_gather_70 (by decide) ?_
            refine c_aload_n (j := 0) (x := a0) C dX3_gather_81 rfl ?_
            have ty553 := xl58.ty ty509
            have re109 : rvh53 a0 0 = rvh37 a0 0 := (fl53.r ty327 rfl 0)
            rw [re68] at re109
            have re110 : rvh54 a0 0 = rvh53 a0 0 := (fl54.r ty497 rfl 0)
            rw [re109] at re110
            have re111 : rvh58 a0 0 = rvh54 a0 0 := (fl58.r ty509 rfl 0)
            rw [re110] at re111
            refine c_getr (k := 0) C ck_4 dX3_gather_82 w1_190 (by decide) ty553 rfl rfl (by decide) rfl re111 ?_
            refine c_st (st2 := [.ref (sk 24)]) rfl ?_
            refine c_aload_n (j := 0) (x := a0) C dX3_gather_85 rfl ?_
            obtain ⟨rb33, rq33, trb33⟩ := W58.ref ty553 2 rfl rfl rfl
            have erb33 := W58.sk trb33 (by decide) rfl
            subst erb33
            refine c_getr (k := 2) C ck_4 dX3_gather_86 w1_196 (by decide) ty553 rfl rfl (by decide) rfl rq33 ?_
            refine c_st (st2 := [.ref (sk 6), .ref (sk 24)]) rfl ?_
            have ty554 := xl58.ty ty549
            have ty555 := xl58.ty ty544
            have pl72 := Phi.le W58 sk56
            refine d_callS (As := [.ref (sk 24), .ref (sk 6)]) (rest := []) C hM (C_markBegins_24 (a0 := (sk 24)) (a1 := (sk 6)) W58 sk56 ty554 ty555  ) dX3_gather_89 kS_X3_73 rfl rfl (Nat.le_of_ble_eq_true rfl) ⟨(Nat.le_of_ble_eq_true rfl), (Nat.le_of_ble_eq_true rfl)⟩ hph pl72 (show 0 + 0 = 0 from rfl) (by decide) (fun rh59 Lh59 clh59 lnh59 ivh59 rvh59 h59 => ?_)
            obtain ⟨rfl, xl59, fl59, W59, exf59⟩ := h59
            have F59 := F58.call X56 fl59 rfl
            have ty556 := xl58.ty ty510
            have ty557 := xl58.ty ty545
            have ty558 := xl58.ty ty546
            have ty559 := xl58.ty ty547
            have ty560 := xl58.ty ty548
            have ty561 := xl58.ty ty550
            have ty562 := xl58.ty ty511
            have ty563 := xl58.ty ty551
            have ty564 := xl58.ty tnb14
            have X57 := X56.trans xl59
            have sk57 := xl59.skl sk56
            refine c_st (st2 := []) rfl ?_
            refine c_aload_n (j := 0) (x := a0) C dX3_gather_92 rfl ?_
            have ty565 := xl59.ty ty553
            have re112 : rvh58 a0 1 = rvh54 a0 1 := (fl58.r ty509 rfl 1)
            rw [re101] at re112
            have re113 : rvh59 a0 1 = rvh58 a0 1 := (fl59.r ty553 rfl 1)
            rw [re112] at re113
            refine c_getr (k := 1) C ck_4 dX3_gather_93 w1_193 (by decide) ty565 rfl rfl (by decide) rfl re113 ?_
            refine c_st (st2 := [.ref (sk 25)]) rfl ?_
            refine c_aload_n (j := 0) (x := a0) C dX3_gather_96 rfl ?_
            obtain ⟨rb34, rq34, trb34⟩ := W59.ref ty565 3 rfl rfl rfl
            have erb34 := W59.sk trb34 (by decide) rfl
            subst erb34
            refine c_getr (k := 3) C ck_4 dX3_gather_97 w1_197 (by decide) ty565 rfl rfl (by decide) rfl rq34 ?_
            refine c_st (st2 := [.ref (sk 7), .ref (sk 25)]) rfl ?_
            have ty566 := xl59.ty ty552
            have ty567 := xl59.ty ty557
            have pl73 := Phi.le W59 sk57
            refine d_callS (As := [.ref (sk 25), .ref (sk 7)]) (rest := []) C hM (C_markBegins_25 (a0 := (sk 25)) (a1 := (sk 7)) W59 sk57 ty566 ty567  ) dX3_gather_100 kS_X3_73 rfl rfl (Nat.le_of_ble_eq_true rfl) ⟨(Nat.le_of_ble_eq_true rfl), (Nat.le_of_ble_eq_true rfl)⟩ hph pl73 (show 0 + 0 = 0 from rfl) (by decide) (fun rh60 Lh60 clh60 lnh60 ivh60 rvh60 h60 => ?_)
            obtain ⟨rfl, xl60, fl60, W60, exf60⟩ := h60
            have F60 := F59.call X57 fl60 rfl
            have ty568 := xl59.ty ty556
            have ty569 := xl59.ty ty555
            have ty570 := xl59.ty ty558
            have ty571 := xl59.ty ty559
            have ty572 := xl59.ty ty560
            have ty573 := xl59.ty ty554
            have ty574 := xl59.ty ty561
            have ty575 := xl59.ty ty562
            have ty576 := xl59.ty ty563
            have ty577 := xl59.ty ty564
            have X58 := X57.trans xl60
            have sk58 := xl60.skl sk57
            refine c_st (st2 := []) rfl ?_
            have pl74 := Phi.le W60 sk58
            exact c_vret C dX3_gather_103 rfl (by decide) (rom0 hph pl74 (by decide)) ⟨rfl, X58, F60, W60, trivial⟩
        · have rknb13 := W53.rank ty498 (k := 3) (by decide) nq13
          refine c_getr (k := 3) C ck_10 dX3_gather_51 w2_184 (by decide) ty498 rfl rfl (by decide) rfl nq13 ?_
          refine c_st (st2 := [.ref nb13, .ref (sk 25)]) rfl ?_
          have ty578 := xl53.ty ty494
          have ri42 : 0 ≤ ivh53 (sk 25) 2 ∧ ivh53 (sk 25) 2 ≤ 6003 := W53.int ty578 2
          have ie50 : ivh53 (sk 25) 2 = ivh37 (sk 25) 2 := fl53.i ty494 rfl 2
          have ie51 : ivh37 (sk 25) 2 = ivh2 (sk 25) 2 := fl37.i tsk25 rfl 2
          have pl75 := Phi.le W53 sk51
          refine d_callS (As := [.ref (sk 25), .ref nb13]) (rest := []) C hM (C_gatherPart_25 (a0 := (sk 25)) (r := (some nb13)) W53 sk51 ty578 (fun _ q => by cases q; exact tnb13)  (by show ivh53 (sk 25) 2 = 0; omega)) dX3_gather_54 kS_X3_59 rfl rfl (Nat.le_of_ble_eq_true rfl) ⟨(Nat.le_of_ble_eq_true rfl), (Nat.le_of_ble_eq_true rfl)⟩ hph pl75 (show 0 + 0 = 0 from rfl) (by decide) (fun rh61 Lh61 clh61 lnh61 ivh61 rvh61 h61 => ?_)
          obtain ⟨rfl, xl61, fl61, W61, exf61⟩ := h61
          have F61 := F53.call X51 fl61 rfl
          have ty579 := xl53.ty ty489
          have ty580 := xl53.ty ty490
          have ty581 := xl53.ty ty491
          have ty582 := xl53.ty ty492
          have ty583 := xl53.ty ty493
          have ty584 := xl53.ty ty495
          have ty585 := xl53.ty trb22
          have ty586 := xl53.ty tnb9
          have X59 := X51.trans xl61
          have sk59 := xl61.skl sk51
          refine c_st (st2 := []) rfl ?_
          have ty587 := xl61.ty ty578
          have ri43 : 0 ≤ ivh61 (sk 25) 2 ∧ ivh61 (sk 25) 2 ≤ 6003 := W61.int ty587 2
          have gf61 : ivh61 (sk 25) 2 ≤ 6002 := exf61
          refine c_aload_n (j := 0) (x := a0) C dX3_gather_57 rfl ?_
          have ty588 := xl61.ty ty497
          have re114 : rvh61 a0 1 = rvh53 a0 1 := (fl61.r ty497 rfl 1)
          rw [re100] at re114
          refine c_getr (k := 1) C ck_4 dX3_gather_58 w1_193 (by decide) ty588 rfl rfl (by decide) rfl re114 ?_
          refine c_st (st2 := [.ref (sk 25)]) rfl ?_
          refine c_aload_n (j := 1) (x := a1) C dX3_gather_61 rfl ?_
          have ty589 := xl61.ty ty498
          have re115 : rvh53 a1 6 = rvh37 a1 6 := (fl53.r ty328 rfl 6)
          rw [rq22] at re115
          have re116 : rvh61 a1 6 = rvh53 a1 6 := (fl61.r ty498 rfl 6)
          rw [re115] at re116
          refine c_getr (k := 6) C ck_10 dX3_gather_62 w2_193 (by decide) ty589 rfl rfl (by decide) rfl re116 ?_
          refine c_st (st2 := [.ref rb22, .ref (sk 25)]) rfl ?_
          refine c_iconst C dX3_gather_65 ?_
          have ty590 := xl61.ty ty585
          have ll10 : 4 ≤ lnh61 rb22 ∧ lnh61 rb22 ≤ 4 := W61.len ty590 rfl
          rcases W61.opt ty590 ((3 : Int).toNat) rfl rfl with ⟨nq15, _⟩ | ⟨nb15, nq15, tnb15⟩
          · refine c_aaldR C dX3_gather_66 ty590 rfl (by omega) (by omega) (by omega) nq15 ?_
            refine c_st (st2 := [.null, .ref (sk 25)]) rfl ?_
            have pl76 := Phi.le W61 sk59
            refine d_callS (As := [.ref (sk 25), .null]) (rest := []) C hM (C_addInd_25 (a0 := (sk 25)) (r := none) W61 sk59 ty587 (fun _ q => by cases q)  (by show ivh61 (sk 25) 2 < 6003; omega)) dX3_gather_67 kS_X3_67 rfl rfl (Nat.le_of_ble_eq_true rfl) ⟨(Nat.le_of_ble_eq_true rfl), (Nat.le_of_ble_eq_true rfl)⟩ hph pl76 (show 0 + 0 = 0 from rfl) (by decide) (fun rh62 Lh62 clh62 lnh62 ivh62 rvh62 h62 => ?_)
            obtain ⟨rfl, xl62, fl62, W62, exf62⟩ := h62
            have F62 := F61.call X59 fl62 rfl
            have ty591 := xl61.ty ty579
            have ty592 := xl61.ty ty580
            have ty593 := xl61.ty ty581
            have ty594 := xl61.ty ty582
            have ty595 := xl61.ty ty583
            have ty596 := xl61.ty ty496
            have ty597 := xl61.ty ty584
            have ty598 := xl61.ty ty586
            have ty599 := xl61.ty tnb13
            have X60 := X59.trans xl62
            have sk60 := xl62.skl sk59
            refine c_st (st2 := []) rfl ?_
            have ty600 := xl62.ty ty587
            have ri44 : 0 ≤ ivh62 (sk 25) 2 ∧ ivh62 (sk 25) 2 ≤ 6003 := W62.int ty600 2
            have gf62 : ivh61 (sk 25) 2 ≤ ivh62 (sk 25) 2 ∧ ivh62 (sk 25) 2 ≤ ivh61 (sk 25) 2 + 1 := exf62
            refine c_goto (tgt := 81) C dX3_gather_70 (by decide) ?_
            refine c_aload_n (j := 0) (x := a0) C dX3_gather_81 rfl ?_
            have ty601 := xl62.ty ty588
            have re117 : rvh53 a0 0 = rvh37 a0 0 := (fl53.r ty327 rfl 0)
            rw [re68] at re117
            have re118 : rvh61 a0 0 = rvh53 a0 0 := (fl61.r ty497 rfl 0)
            rw [re117] at re118
            have re119 : rvh62 a0 0 = rvh61 a0 0 := (fl62.r ty588 rfl 0)
            rw [re118] at re119
            refine c_getr (k := 0) C ck_4 dX3_gather_82 w1_190 (by decide) ty601 rfl rfl (by decide) rfl re119 ?_
            refine c_st (st2 := [.ref (sk 24)]) rfl ?_
            refine c_aload_n (j := 0) (x := a0) C dX3_gather_85 rfl ?_
            obtain ⟨rb35, rq35, trb35⟩ := W62.ref ty601 2 rfl rfl rfl
            have erb35 := W62.sk trb35 (by decide) rfl
            subst erb35
            refine c_getr (k := 2) C ck_4 dX3_gather_86 w1_196 (by decide) ty601 rfl rfl (by decide) rfl rq35 ?_
            refine c_st (st2 := [.ref (sk 6), .ref (sk 24)]) rfl ?_
            have ty602 := xl62.ty ty596
            have ty603 := xl62.ty ty591
            have pl77 := Phi.le W62 sk60
            refine d_callS (As := [.ref (sk 24), .ref (sk 6)]) (rest := []) C hM (C_markBegins_24 (a0 := (sk 24)) (a1 := (sk 6)) W62 sk60 ty602 ty603  ) dX3_gather_89 kS_X3_73 rfl rfl (Nat.le_of_ble_eq_true rfl) ⟨(Nat.le_of_ble_eq_true rfl), (Nat.le_of_ble_eq_true rfl)⟩ hph pl77 (show 0 + 0 = 0 from rfl) (by decide) (fun rh63 Lh63 clh63 lnh63 ivh63 rvh63 h63 => ?_)
            obtain ⟨rfl, xl63, fl63, W63, exf63⟩ := h63
            have F63 := F62.call X60 fl63 rfl
            have ty604 := xl62.ty ty589
            have ty605 := xl62.ty ty592
            have ty606 := xl62.ty ty593
            have ty607 := xl62.ty ty594
            have ty608 := xl62.ty ty595
            have ty609 := xl62.ty ty597
            have ty610 := xl62.ty ty590
            have ty611 := xl62.ty ty598
            have ty612 := xl62.ty ty599
            have X61 := X60.trans xl63
            have sk61 := xl63.skl sk60
            refine c_st (st2 := []) rfl ?_
            refine c_aload_n (j := 0) (x := a0) C dX3_gather_92 rfl ?_
            have ty613 := xl63.ty ty601
            have re120 : rvh62 a0 1 = rvh61 a0 1 := (fl62.r ty588 rfl 1)
            rw [re114] at re120
            have re121 : rvh63 a0 1 = rvh62 a0 1 := (fl63.r ty601 rfl 1)
            rw [re120] at re121
            refine c_getr (k := 1) C ck_4 dX3_gather_93 w1_193 (by decide) ty613 rfl rfl (by decide) rfl re121 ?_
            refine c_st (st2 := [.ref (sk 25)]) rfl ?_
            refine c_aload_n (j := 0) (x := a0) C dX3_gather_96 rfl ?_
            obtain ⟨rb36, rq36, trb36⟩ := W63.ref ty613 3 rfl rfl rfl
            have erb36 := W63.sk trb36 (by decide) rfl
            subst erb36
            refine c_getr (k := 3) C ck_4 dX3_gather_97 w1_197 (by decide) ty613 rfl rfl (by decide) rfl rq36 ?_
            refine c_st (st2 := [.ref (sk 7), .ref (sk 25)]) rfl ?_
            have ty614 := xl63.ty ty600
            have ty615 := xl63.ty ty605
            have pl78 := Phi.le W63 sk61
            refine d_callS (As := [.ref (sk 25), .ref (sk 7)]) (rest := []) C hM (C_markBegins_25 (a0 := (sk 25)) (a1 := (sk 7)) W63 sk61 ty614 ty615  ) dX3_gather_100 kS_X3_73 rfl rfl (Nat.le_of_ble_eq_true rfl) ⟨(Nat.le_of_ble_eq_true rfl), (Nat.le_of_ble_eq_true rfl)⟩ hph pl78 (show 0 + 0 = 0 from rfl) (by decide) (fun rh64 Lh64 clh64 lnh64 ivh64 rvh64 h64 => ?_)
            obtain ⟨rfl, xl64, fl64, W64, exf64⟩ := h64
            have F64 := F63.call X61 fl64 rfl
            have ty616 := xl63.ty ty604
            have ty617 := xl63.ty ty603
            have ty618 := xl63.ty ty606
            have ty619 := xl63.ty ty607
            have ty620 := xl63.ty ty608
            have ty621 := xl63.ty ty602
            have ty622 := xl63.ty ty609
            have ty623 := xl63.ty ty610
            have ty624 := xl63.ty ty611
            have ty625 := xl63.ty ty612
            have X62 := X61.trans xl64
            have sk62 := xl64.skl sk61
            refine c_st (st2 := []) rfl ?_
            have pl79 := Phi.le W64 sk62
            exact c_vret C dX3_gather_103 rfl (by decide) (rom0 hph pl79 (by decide)) ⟨rfl, X62, F64, W64, trivial⟩
          · have tnb15 : ty Lh61 clh61 nb15 20 := tnb15
            refine c_aaldR C dX3_gather_66 ty590 rfl (by omega) (by omega) (by omega) nq15 ?_
            refine c_st (st2 := [.ref nb15, .ref (sk 25)]) rfl ?_
            have pl80 := Phi.le W61 sk59
            refine d_callS (As := [.ref (sk 25), .ref nb15]) (rest := []) C hM (C_addInd_25 (a0 := (sk 25)) (r := (some nb15)) W61 sk59 ty587 (fun _ q => by cases q; exact tnb15)  (by show ivh61 (sk 25) 2 < 6003; omega)) dX3_gather_67 kS_X3_67 rfl rfl (Nat.le_of_ble_eq_true rfl) ⟨(Nat.le_of_ble_eq_true rfl), (Nat.le_of_ble_eq_true rfl)⟩ hph pl80 (show 0 + 0 = 0 from rfl) (by decide) (fun rh65 Lh65 clh65 lnh65 ivh65 rvh65 h65 => ?_)
            obtain ⟨rfl, xl65, fl65, W65, exf65⟩ := h65
            have F65 := F61.call X59 fl65 rfl
            have ty626 := xl61.ty ty579
            have ty627 := xl61.ty ty580
            have ty628 := xl61.ty ty581
            have ty629 := xl61.ty ty582
            have ty630 := xl61.ty ty583
            have ty631 := xl61.ty ty496
            have ty632 := xl61.ty ty584
            have ty633 := xl61.ty ty586
            have ty634 := xl61.ty tnb13
            have X63 := X59.trans xl65
            have sk63 := xl65.skl sk59
            refine c_st (st2 := []) rfl ?_
            have ty635 := xl65.ty ty587
            have ri45 : 0 ≤ ivh65 (sk 25) 2 ∧ ivh65 (sk 25) 2 ≤ 6003 := W65.int ty635 2
            have gf65 : ivh61 (sk 25) 2 ≤ ivh65 (sk 25) 2 ∧ ivh65 (sk 25) 2 ≤ ivh61 (sk 25) 2 + 1 := exf65
            refine c_goto (tgt := 81) C dX3_gather_70 (by decide) ?_
            refine c_aload_n (j := 0) (x := a0) C dX3_gather_81 rfl ?_
            have ty636 := xl65.ty ty588
            have re122 : rvh53 a0 0 = rvh37 a0 0 := (fl53.r ty327 rfl 0)
            rw [re68] at re122
            have re123 : rvh61 a0 0 = rvh53 a0 0 := (fl61.r ty497 rfl 0)
            rw [re122] at re123
            have re124 : rvh65 a0 0 = rvh61 a0 0 := (fl65.r ty588 rfl 0)
            rw [re123] at re124
            refine c_getr (k := 0) C ck_4 dX3_gather_82 w1_190 (by decide) ty636 rfl rfl (by decide) rfl re124 ?_
            refine c_st (st2 := [.ref (sk 24)]) rfl ?_
            refine c_aload_n (j := 0) (x := a0) C dX3_gather_85 rfl ?_
            obtain ⟨rb37, rq37, trb37⟩ := W65.ref ty636 2 rfl rfl rfl
            have erb37 := W65.sk trb37 (by decide) rfl
            subst erb37
            refine c_getr (k := 2) C ck_4 dX3_gather_86 w1_196 (by decide) ty636 rfl rfl (by decide) rfl rq37 ?_
            refine c_st (st2 := [.ref (sk 6), .ref (sk 24)]) rfl ?_
            have ty637 := xl65.ty ty631
            have ty638 := xl65.ty ty626
            have pl81 := Phi.le W65 sk63
            refine d_callS (As := [.ref (sk 24), .ref (sk 6)]) (rest := []) C hM (C_markBegins_24 (a0 := (sk 24)) (a1 := (sk 6)) W65 sk63 ty637 ty638  ) dX3_gather_89 kS_X3_73 rfl rfl (Nat.le_of_ble_eq_true rfl) ⟨(Nat.le_of_ble_eq_true rfl), (Nat.le_of_ble_eq_true rfl)⟩ hph pl81 (show 0 + 0 = 0 from rfl) (by decide) (fun rh66 Lh66 clh66 lnh66 ivh66 rvh66 h66 => ?_)
            obtain ⟨rfl, xl66, fl66, W66, exf66⟩ := h66
            have F66 := F65.call X63 fl66 rfl
            have ty639 := xl65.ty ty589
            have ty640 := xl65.ty ty627
            have ty641 := xl65.ty ty628
            have ty642 := xl65.ty ty629
            have ty643 := xl65.ty ty630
            have ty644 := xl65.ty ty632
            have ty645 := xl65.ty ty590
            have ty646 := xl65.ty ty633
            have ty647 := xl65.ty ty634
            have ty648 := xl65.ty tnb15
            have X64 := X63.trans xl66
            have sk64 := xl66.skl sk63
            refine c_st (st2 := []) rfl ?_
            refine c_aload_n (j := 0) (x := a0) C dX3_gather_92 rfl ?_
            have ty649 := xl66.ty ty636
            have re125 : rvh65 a0 1 = rvh61 a0 1 := (fl65.r ty588 rfl 1)
            rw [re114] at re125
            have re126 : rvh66 a0 1 = rvh65 a0 1 := (fl66.r ty636 rfl 1)
            rw [re125] at re126
            refine c_getr (k := 1) C ck_4 dX3_gather_93 w1_193 (by decide) ty649 rfl rfl (by decide) rfl re126 ?_
            refine c_st (st2 := [.ref (sk 25)]) rfl ?_
            refine c_aload_n (j := 0) (x := a0) C dX3_gather_96 rfl ?_
            obtain ⟨rb38, rq38, trb38⟩ := W66.ref ty649 3 rfl rfl rfl
            have erb38 := W66.sk trb38 (by decide) rfl
            subst erb38
            refine c_getr (k := 3) C ck_4 dX3_gather_97 w1_197 (by decide) ty649 rfl rfl (by decide) rfl rq38 ?_
            refine c_st (st2 := [.ref (sk 7), .ref (sk 25)]) rfl ?_
            have ty650 := xl66.ty ty635
            have ty651 := xl66.ty ty640
            have pl82 := Phi.le W66 sk64
            refine d_callS (As := [.ref (sk 25), .ref (sk 7)]) (rest := []) C hM (C_markBegins_25 (a0 := (sk 25)) (a1 := (sk 7)) W66 sk64 ty650 ty651  ) dX3_gather_100 kS_X3_73 rfl rfl (Nat.le_of_ble_eq_true rfl) ⟨(Nat.le_of_ble_eq_true rfl), (Nat.le_of_ble_eq_true rfl)⟩ hph pl82 (show 0 + 0 = 0 from rfl) (by decide) (fun rh67 Lh67 clh67 lnh67 ivh67 rvh67 h67 => ?_)
            obtain ⟨rfl, xl67, fl67, W67, exf67⟩ := h67
            have F67 := F66.call X64 fl67 rfl
            have ty652 := xl66.ty ty639
            have ty653 := xl66.ty ty638
            have ty654 := xl66.ty ty641
            have ty655 := xl66.ty ty642
            have ty656 := xl66.ty ty643
            have ty657 := xl66.ty ty637
            have ty658 := xl66.ty ty644
            have ty659 := xl66.ty ty645
            have ty660 := xl66.ty ty646
            have ty661 := xl66.ty ty647
            have ty662 := xl66.ty ty648
            have X65 := X64.trans xl67
            have sk65 := xl67.skl sk64
            refine c_st (st2 := []) rfl ?_
            have pl83 := Phi.le W67 sk65
            exact c_vret C dX3_gather_103 rfl (by decide) (rom0 hph pl83 (by decide)) ⟨rfl, X65, F67, W67, trivial⟩
set_option maxHeartbeats 4000000 in
set_option maxRecDepth 100000 in
theorem C_clearCells {l : Launch} {G : GT} {mi : Nat} {sk : Nat → Nat} {L : List Nat} {cl ln : Nat → Nat} {iv : Nat → Nat → Int} {rv : Nat → Nat → Option Nat}  {a0 : Nat} (hW : WT (g0 G) sk L cl ln iv rv) (hS : SKL sk L cl) (t_a0 : ty L cl a0 16)  : Mc l G mi (Phi (g0 G) sk) PHM yX3_clearCells cX3_clearCells 1 none 1 [.ref a0] L cl ln iv rv 0 (fun v L2 cl2 ln2 iv2 rv2 => v = none ∧ L = L2 ∧ cl = cl2 ∧ ln = ln2 ∧ rv = rv2 ∧ fT [8, 9] L cl iv rv iv2 rv2 ∧ WT (g0 G) sk L2 cl2 ln2 iv2 rv2 ∧ (iv2 (sk 8) 2 = 0)) := by
  refine Mc.mk (by decide) (Nat.le_of_ble_eq_true rfl) ?_
  intro p e s m args below meth c A C hM
  have hph := Phi.le hW hS
  have tsk6 : ty L cl (sk 6) 6 := ⟨(hS 6 rfl).1, by rw [(hS 6 rfl).2]; rfl⟩
  have tsk7 : ty L cl (sk 7) 7 := ⟨(hS 7 rfl).1, by rw [(hS 7 rfl).2]; rfl⟩
  have tsk8 : ty L cl (sk 8) 8 := ⟨(hS 8 rfl).1, by rw [(hS 8 rfl).2]; rfl⟩
  have tsk9 : ty L cl (sk 9) 9 := ⟨(hS 9 rfl).1, by rw [(hS 9 rfl).2]; rfl⟩
  have tsk10 : ty L cl (sk 10) 10 := ⟨(hS 10 rfl).1, by rw [(hS 10 rfl).2]; rfl⟩
  have tsk24 : ty L cl (sk 24) 24 := ⟨(hS 24 rfl).1, by rw [(hS 24 rfl).2]; rfl⟩
  have tsk25 : ty L cl (sk 25) 25 := ⟨(hS 25 rfl).1, by rw [(hS 25 rfl).2]; rfl⟩
  have hX0 : XT L cl ln L cl ln := XT.refl
  have hF0 : fT [8, 9] L cl iv rv iv rv := fT.refl
  refine c_aload_n (j := 0) (x := a0) C dX3_clearCells_0 rfl ?_
  obtain ⟨rb1, rq1, trb1⟩ := hW.ref t_a0 4 rfl rfl rfl
  have erb1 := hW.sk trb1 (by decide) rfl
  subst erb1
  refine c_getr (k := 4) C ck_4 dX3_clearCells_1 w1_198 (by decide) t_a0 rfl rfl (by decide) rfl rq1 ?_
  refine c_st (st2 := [.ref (sk 8)]) rfl ?_
  refine d_callV (As := []) (rest := []) C hM (C_clear_8 (a0 := (sk 8)) hW hS tsk8  ) dX3_clearCells_4 kV_X3_77 rfl tsk8 rfl rfl (by decide) ck_2 rfl (Nat.le_of_ble_eq_true rfl) ⟨(Nat.le_of_ble_eq_true rfl), (Nat.le_of_ble_eq_true rfl)⟩ hph hph (show 0 + 0 = 0 from rfl) (by decide) (fun rh1 Lh1 clh1 lnh1 ivh1 rvh1 h1 => ?_)
  obtain ⟨rfl, rfl, rfl, rfl, rfl, fl1, W1, exf1⟩ := h1
  have F1 := hF0.call hX0 fl1 rfl
  refine c_st (st2 := []) rfl ?_
  have ri1 : 0 ≤ ivh1 (sk 8) 2 ∧ ivh1 (sk 8) 2 ≤ 40200 := W1.int tsk8 2
  have gf1 : ivh1 (sk 8) 2 = 0 := exf1
  refine c_aload_n (j := 0) (x := a0) C dX3_clearCells_7 rfl ?_
  obtain ⟨rb2, rq2, trb2⟩ := W1.ref t_a0 5 rfl rfl rfl
  have erb2 := W1.sk trb2 (by decide) rfl
  subst erb2
  refine c_getr (k := 5) C ck_4 dX3_clearCells_8 w1_199 (by decide) t_a0 rfl rfl (by decide) rfl rq2 ?_
  refine c_st (st2 := [.ref (sk 9)]) rfl ?_
  refine d_callV (As := []) (rest := []) C hM (C_clear_9 (a0 := (sk 9)) W1 hS tsk9  ) dX3_clearCells_11 kV_X3_77 rfl tsk9 rfl rfl (by decide) ck_2 rfl (Nat.le_of_ble_eq_true rfl) ⟨(Nat.le_of_ble_eq_true rfl), (Nat.le_of_ble_eq_true rfl)⟩ hph hph (show 0 + 0 = 0 from rfl) (by decide) (fun rh2 Lh2 clh2 lnh2 ivh2 rvh2 h2 => ?_)
  obtain ⟨rfl, rfl, rfl, rfl, rfl, fl2, W2, exf2⟩ := h2
  have F2 := F1.call hX0 fl2 rfl
  refine c_st (st2 := []) rfl ?_
  have ri2 : 0 ≤ ivh2 (sk 9) 2 ∧ ivh2 (sk 9) 2 ≤ 40200 := W2.int tsk9 2
  have gf2 : ivh2 (sk 9) 2 = 0 := exf2
  have ri3 : 0 ≤ ivh2 (sk 8) 2 ∧ ivh2 (sk 8) 2 ≤ 40200 := W2.int tsk8 2
  have ie3 : ivh2 (sk 8) 2 = ivh1 (sk 8) 2 := fl2.i tsk8 rfl 2
  exact c_vret C dX3_clearCells_14 rfl (by decide) (rom0 hph hph (by decide)) ⟨rfl, rfl, rfl, rfl, rfl, F2, W2, (by omega)⟩
set_option maxHeartbeats 4000000 in
set_option maxRecDepth 100000 in
theorem C_addCell {l : Launch} {G : GT} {mi : Nat} {sk : Nat → Nat} {L : List Nat} {cl ln : Nat → Nat} {iv : Nat → Nat → Int} {rv : Nat → Nat → Option Nat}  {a0 : Nat} {x : Int} {y : Int} (hW : WT (g0 G) sk L cl ln iv rv) (hS : SKL sk L cl) (t_a0 : ty L cl a0 16) (h_x : -2147483648 ≤ x ∧ x ≤ 2147483647) (h_y : -2147483648 ≤ y ∧ y ≤ 2147483647)  : Mc l G mi (Phi (g0 G) sk) PHM yX3_addCell cX3_addCell 3 none 3 [.ref a0, .int (iI x), .int (iI y)] L cl ln iv rv 0 (fun v L2 cl2 ln2 iv2 rv2 => v = none ∧ XT L cl ln L2 cl2 ln2 ∧ fT [8, 38, 9, 39] L cl iv rv iv2 rv2 ∧ WT (g0 G) sk L2 cl2 ln2 iv2 rv2 ∧ (True)) := by
  refine Mc.mk (by decide) (Nat.le_of_ble_eq_true rfl) ?_
  intro p e s m args below meth c A C hM
  have hph := Phi.le hW hS
  have tsk6 : ty L cl (sk 6) 6 := ⟨(hS 6 rfl).1, by rw [(hS 6 rfl).2]; rfl⟩
  have tsk7 : ty L cl (sk 7) 7 := ⟨(hS 7 rfl).1, by rw [(hS 7 rfl).2]; rfl⟩
  have tsk8 : ty L cl (sk 8) 8 := ⟨(hS 8 rfl).1, by rw [(hS 8 rfl).2]; rfl⟩
  have tsk9 : ty L cl (sk 9) 9 := ⟨(hS 9 rfl).1, by rw [(hS 9 rfl).2]; rfl⟩
  have tsk10 : ty L cl (sk 10) 10 := ⟨(hS 10 rfl).1, by rw [(hS 10 rfl).2]; rfl⟩
  have tsk24 : ty L cl (sk 24) 24 := ⟨(hS 24 rfl).1, by rw [(hS 24 rfl).2]; rfl⟩
  have tsk25 : ty L cl (sk 25) 25 := ⟨(hS 25 rfl).1, by rw [(hS 25 rfl).2]; rfl⟩
  have hX0 : XT L cl ln L cl ln := XT.refl
  have hF0 : fT [8, 38, 9, 39] L cl iv rv iv rv := fT.refl
  refine c_aload_n (j := 0) (x := a0) C dX3_addCell_0 rfl ?_
  obtain ⟨rb1, rq1, trb1⟩ := hW.ref t_a0 4 rfl rfl rfl
  have erb1 := hW.sk trb1 (by decide) rfl
  subst erb1
  refine c_getr (k := 4) C ck_4 dX3_addCell_1 w1_198 (by decide) t_a0 rfl rfl (by decide) rfl rq1 ?_
  refine c_st (st2 := [.ref (sk 8)]) rfl ?_
  refine c_iload_n (j := 1) C dX3_addCell_4 rfl ?_
  have ri1 : 0 ≤ iv (sk 8) 2 ∧ iv (sk 8) 2 ≤ 40200 := hW.int tsk8 2
  refine d_callV (As := [.int (iI x)]) (rest := []) C hM (C_add_8 (a0 := (sk 8)) (x := x) hW hS tsk8 (by omega) ) dX3_addCell_5 kV_X3_91 rfl tsk8 rfl rfl (by decide) ck_2 rfl (Nat.le_of_ble_eq_true rfl) ⟨(Nat.le_of_ble_eq_true rfl), (Nat.le_of_ble_eq_true rfl)⟩ hph hph (show 0 + 0 = 0 from rfl) (by decide) (fun rh1 Lh1 clh1 lnh1 ivh1 rvh1 h1 => ?_)
  obtain ⟨rfl, xl1, fl1, W1, exf1⟩ := h1
  have F1 := hF0.call hX0 fl1 rfl
  have X1 := hX0.trans xl1
  have sk1 := xl1.skl hS
  refine c_st (st2 := []) rfl ?_
  have ty1 := xl1.ty tsk8
  have ri2 : 0 ≤ ivh1 (sk 8) 2 ∧ ivh1 (sk 8) 2 ≤ 40200 := W1.int ty1 2
  have gf1 : ((ivh1 (sk 8) 2 = iv (sk 8) 2 ∧ iv (sk 8) 2 = 40200) ∨ (ivh1 (sk 8) 2 = iv (sk 8) 2 + 1 ∧ iv (sk 8) 2 < 40200)) := exf1
  refine c_aload_n (j := 0) (x := a0) C dX3_addCell_8 rfl ?_
  have ty2 := xl1.ty t_a0
  obtain ⟨rb2, rq2, trb2⟩ := W1.ref ty2 5 rfl rfl rfl
  have erb2 := W1.sk trb2 (by decide) rfl
  subst erb2
  refine c_getr (k := 5) C ck_4 dX3_addCell_9 w1_199 (by decide) ty2 rfl rfl (by decide) rfl rq2 ?_
  refine c_st (st2 := [.ref (sk 9)]) rfl ?_
  refine c_iload_n (j := 2) C dX3_addCell_12 rfl ?_
  have ty3 := xl1.ty tsk9
  have ri3 : 0 ≤ ivh1 (sk 9) 2 ∧ ivh1 (sk 9) 2 ≤ 40200 := W1.int ty3 2
  have ie2 : ivh1 (sk 9) 2 = iv (sk 9) 2 := fl1.i tsk9 rfl 2
  have pl1 := Phi.le W1 sk1
  refine d_callV (As := [.int (iI y)]) (rest := []) C hM (C_add_9 (a0 := (sk 9)) (x := y) W1 sk1 ty3 (by omega) ) dX3_addCell_13 kV_X3_91 rfl ty3 rfl rfl (by decide) ck_2 rfl (Nat.le_of_ble_eq_true rfl) ⟨(Nat.le_of_ble_eq_true rfl), (Nat.le_of_ble_eq_true rfl)⟩ hph pl1 (show 0 + 0 = 0 from rfl) (by decide) (fun rh2 Lh2 clh2 lnh2 ivh2 rvh2 h2 => ?_)
  obtain ⟨rfl, xl2, fl2, W2, exf2⟩ := h2
  have F2 := F1.call X1 fl2 rfl
  have ty4 := xl1.ty tsk6
  have ty5 := xl1.ty tsk7
  have ty6 := xl1.ty tsk10
  have ty7 := xl1.ty tsk24
  have ty8 := xl1.ty tsk25
  have X2 := X1.trans xl2
  have sk2 := xl2.skl sk1
  refine c_st (st2 := []) rfl ?_
  have ty9 := xl2.ty ty3
  have ri4 : 0 ≤ ivh2 (sk 9) 2 ∧ ivh2 (sk 9) 2 ≤ 40200 := W2.int ty9 2
  have gf2 : ((ivh2 (sk 9) 2 = ivh1 (sk 9) 2 ∧ ivh1 (sk 9) 2 = 40200) ∨ (ivh2 (sk 9) 2 = ivh1 (sk 9) 2 + 1 ∧ ivh1 (sk 9) 2 < 40200)) := exf2
  have pl2 := Phi.le W2 sk2
  exact c_vret C dX3_addCell_16 rfl (by decide) (rom0 hph pl2 (by decide)) ⟨rfl, X2, F2, W2, trivial⟩
set_option maxHeartbeats 4000000 in
set_option maxRecDepth 100000 in
theorem C_chain {l : Launch} {G : GT} {mi : Nat} {sk : Nat → Nat} {L : List Nat} {cl ln : Nat → Nat} {iv : Nat → Nat → Int} {rv : Nat → Nat → Option Nat}  {a0 : Nat} {a1 : Nat} {x : Int} {y : Int} {g : Int} (hW : WT (g0 G) sk L cl ln iv rv) (hS : SKL sk L cl) (t_a0 : ty L cl a0 16) (t_a1 : ty L cl a1 19) (h_x : -2147483648 ≤ x ∧ x ≤ 2147483647) (h_y : -2147483648 ≤ y ∧ y ≤ 2147483647) (h_g : -2147483648 ≤ g ∧ g ≤ 2147483647)  : Mc l G mi (Phi (g0 G) sk) PHM yX3_chain cX3_chain 8 none 4 [.ref a0, .ref a1, .int (iI x), .int (iI y), .int (iI g)] L cl ln iv rv 0 (fun v L2 cl2 ln2 iv2 rv2 => v = none ∧ XT L cl ln L2 cl2 ln2 ∧ fT [8, 38, 9, 39] L cl iv rv iv2 rv2 ∧ WT (g0 G) sk L2 cl2 ln2 iv2 rv2 ∧ (True)) := by
  refine Mc.mk (by decide) (Nat.le_of_ble_eq_true rfl) ?_
  intro p e s m args below meth c A C hM
  have hph := Phi.le hW hS
  have tsk6 : ty L cl (sk 6) 6 := ⟨(hS 6 rfl).1, by rw [(hS 6 rfl).2]; rfl⟩
  have tsk7 : ty L cl (sk 7) 7 := ⟨(hS 7 rfl).1, by rw [(hS 7 rfl).2]; rfl⟩
  have tsk8 : ty L cl (sk 8) 8 := ⟨(hS 8 rfl).1, by rw [(hS 8 rfl).2]; rfl⟩
  have tsk9 : ty L cl (sk 9) 9 := ⟨(hS 9 rfl).1, by rw [(hS 9 rfl).2]; rfl⟩
  have tsk10 : ty L cl (sk 10) 10 := ⟨(hS 10 rfl).1, by rw [(hS 10 rfl).2]; rfl⟩
  have tsk24 : ty L cl (sk 24) 24 := ⟨(hS 24 rfl).1, by rw [(hS 24 rfl).2]; rfl⟩
  have tsk25 : ty L cl (sk 25) 25 := ⟨(hS 25 rfl).1, by rw [(hS 25 rfl).2]; rfl⟩
  have hX0 : XT L cl ln L cl ln := XT.refl
  have hF0 : fT [8, 38, 9, 39] L cl iv rv iv rv := fT.refl
  refine c_aload_n (j := 1) (x := a1) C dX3_chain_0 rfl ?_
  refine c_iload_n (j := 3) C dX3_chain_1 rfl ?_
  have ri1 : 0 ≤ iv a1 1 ∧ iv a1 1 ≤ 200 := hW.int t_a1 1
  refine d_callV (As := [.int (iI y)]) (rest := []) C hM (C_lends (a0 := a1) (x := y) hW hS t_a1 (by omega) ) dX3_chain_2 kV_X3_108 rfl t_a1 rfl rfl (by decide) ck_3 rfl (Nat.le_of_ble_eq_true rfl) ⟨(Nat.le_of_ble_eq_true rfl), (Nat.le_of_ble_eq_true rfl)⟩ hph hph (show 0 + 0 = 0 from rfl) (by decide) (fun rh1 Lh1 clh1 lnh1 ivh1 rvh1 h1 => ?_)
  obtain ⟨f1, rfl, rfl, rfl, rfl, rfl, rfl, rgf1, exf1⟩ := h1
  refine c_st (st2 := [.int (iI f1)]) rfl ?_
  have gf1 : f1 = 0 ∨ 0 < iv a1 1 := exf1
  refine c_istore (lv2 := [(5, .int (iI f1)), (0, .ref a0), (1, .ref a1), (2, .int (iI x)), (3, .int (iI y)), (4, .int (iI g))]) C dX3_chain_5 (by decide) rfl ?_
  refine c_iload (j := 0) C dX3_chain_7 rfl ?_
  refine c_if_eq (tgt := 21) C ⟨by omega, by omega⟩ dX3_chain_9 (by decide) (fun c1 => ?_) (fun c1 => ?_)
  · refine c_aload_n (j := 2) (x := a1) C dX3_chain_21 rfl ?_
    refine c_get (k := 1) C ck_3 dX3_chain_22 w4_52 (by decide) t_a1 rfl rfl (by decide) rfl ?_
    refine c_istore (lv2 := [(6, .int (iI (iv a1 1))), (5, .int (iI f1)), (0, .ref a0), (1, .ref a1), (2, .int (iI x)), (3, .int (iI y)), (4, .int (iI g))]) C dX3_chain_25 (by decide) rfl ?_
    refine c_iconst C dX3_chain_27 ?_
    refine c_istore (lv2 := [(7, .int (iI 0)), (6, .int (iI (iv a1 1))), (5, .int (iI f1)), (0, .ref a0), (1, .ref a1), (2, .int (iI x)), (3, .int (iI y)), (4, .int (iI g))]) C dX3_chain_28 (by decide) rfl ?_
    have Lp1 : ∀ (nn : Nat) (k : Int) (Lb1 : List Nat) (clb1 lnb1 : Nat → Nat) (ivb1 : Nat → Nat → Int) (rvb1 : Nat → Nat → Option Nat) , 201 - k < (nn : Int) → XT L cl ln Lb1 clb1 lnb1 → WT (g0 G) sk Lb1 clb1 lnb1 ivb1 rvb1 → fT [8, 38, 9, 39] L cl iv rv ivb1 rvb1 → (0 ≤ k ∧ k ≤ 200) → cw p l e 4 ((PHM) + 0 - ((Phi (g0 G) sk) ln rv)) s m args below meth c G A 8 (MQ below (Qu G A (Qp G (Phi (g0 G) sk) ((Phi (g0 G) sk) ln rv) 0 (fun v L2 cl2 ln2 iv2 rv2 => v = none ∧ XT L cl ln L2 cl2 ln2 ∧ fT [8, 38, 9, 39] L cl iv rv iv2 rv2 ∧ WT (g0 G) sk L2 cl2 ln2 iv2 rv2 ∧ (True)))) args s (((PHM) + 0 - ((Phi (g0 G) sk) ln rv)) / 16) ((PHM) + 0 - ((Phi (g0 G) sk) ln rv)) A) (Phi (g0 G) sk) ((Phi (g0 G) sk) ln rv) Lb1 clb1 lnb1 ivb1 rvb1 0 30 [(7, .int (iI k)), (6, .int (iI (iv a1 1))), (5, .int (iI f1)), (0, .ref a0), (1, .ref a1), (2, .int (iI x)), (3, .int (iI y)), (4, .int (iI g))] [] := by
      intro nn
      induction nn with
      | zero =>
        intro  k Lb1 clb1 lnb1 ivb1 rvb1 hm Xb1 Wb1 Fb1  hk
        have skb1 := Xb1.skl hS
        exact absurd hm (by omega)
      | succ nn ih1 =>
        intro  k Lb1 clb1 lnb1 ivb1 rvb1 hm Xb1 Wb1 Fb1  hk
        have skb1 := Xb1.skl hS
        refine c_iload (j := 0) C dX3_chain_30 rfl ?_
        refine c_iload (j := 1) C dX3_chain_32 rfl ?_
        refine c_icmp_ge (tgt := 62) C ⟨by omega, by omega⟩ ⟨by omega, by omega⟩ dX3_chain_34 (by decide) (fun c2 => ?_) (fun c2 => ?_)
        · refine c_iload (j := 2) C dX3_chain_62 rfl ?_
          refine c_if_ne (tgt := 78) C ⟨by omega, by omega⟩ dX3_chain_64 (by decide) (fun c3 => ?_) (fun c3 => ?_)
          · have pl1 := Phi.le Wb1 skb1
            exact c_vret C dX3_chain_78 rfl (by decide) (rom0 hph pl1 (by decide)) ⟨rfl, Xb1, Fb1, Wb1, trivial⟩
          · refine c_iload (j := 7) C dX3_chain_67 rfl ?_
            refine c_if_ne (tgt := 78) C ⟨by omega, by omega⟩ dX3_chain_69 (by decide) (fun c4 => ?_) (fun c4 => ?_)
            · have pl2 := Phi.le Wb1 skb1
              exact c_vret C dX3_chain_78 rfl (by decide) (rom0 hph pl2 (by decide)) ⟨rfl, Xb1, Fb1, Wb1, trivial⟩
            · refine c_aload_n (j := 3) (x := a0) C dX3_chain_72 rfl ?_
              refine c_iconst C dX3_chain_73 ?_
              refine c_iconst C dX3_chain_74 ?_
              have ty1 := Xb1.ty t_a0
              have pl3 := Phi.le Wb1 skb1
              refine d_callV (As := [.int (iI 0), .int (iI (-1))]) (rest := []) C hM (C_addCell (a0 := a0) (x := 0) (y := (-1)) Wb1 skb1 ty1 ⟨by decide, by decide⟩ ⟨by decide, by decide⟩ ) dX3_chain_75 kV_X3_114 rfl ty1 rfl rfl (by decide) ck_4 rfl (Nat.le_of_ble_eq_true rfl) ⟨(Nat.le_of_ble_eq_true rfl), (Nat.le_of_ble_eq_true rfl)⟩ hph pl3 (show 0 + 0 = 0 from rfl) (by decide) (fun rh2 Lh2 clh2 lnh2 ivh2 rvh2 h2 => ?_)
              obtain ⟨rfl, xl2, fl2, W2, exf2⟩ := h2
              have F1 := Fb1.call Xb1 fl2 rfl
              have ty2 := Xb1.ty t_a1
              have ty3 := Xb1.ty tsk6
              have ty4 := Xb1.ty tsk7
              have ty5 := Xb1.ty tsk8
              have ty6 := Xb1.ty tsk9
              have ty7 := Xb1.ty tsk10
              have ty8 := Xb1.ty tsk24
              have ty9 := Xb1.ty tsk25
              have X1 := Xb1.trans xl2
              have sk1 := xl2.skl skb1
              refine c_st (st2 := []) rfl ?_
              have pl4 := Phi.le W2 sk1
              exact c_vret C dX3_chain_78 rfl (by decide) (rom0 hph pl4 (by decide)) ⟨rfl, X1, F1, W2, trivial⟩
        · refine c_aload_n (j := 3) (x := a0) C dX3_chain_37 rfl ?_
          refine c_aload_n (j := 4) (x := a1) C dX3_chain_38 rfl ?_
          have ty10 := Xb1.ty t_a1
          obtain ⟨rb1, rq1, trb1⟩ := Wb1.ref ty10 0 rfl rfl rfl
          have lnrb1 : 200 ≤ lnb1 rb1 ∧ lnb1 rb1 ≤ 200 := Wb1.len trb1 rfl
          refine c_getr (k := 0) C ck_3 dX3_chain_39 w4_46 (by decide) ty10 rfl rfl (by decide) rfl rq1 ?_
          refine c_st (st2 := [.ref rb1, .ref a0]) rfl ?_
          refine c_iload (j := 0) C dX3_chain_42 rfl ?_
          have ll1 : 200 ≤ lnb1 rb1 ∧ lnb1 rb1 ≤ 200 := Wb1.len trb1 rfl
          refine c_iald C dX3_chain_44 trb1 rfl (by omega) (by omega) (by omega) ?_
          have ri2 : (-2147483648) ≤ ivb1 rb1 k.toNat ∧ ivb1 rb1 k.toNat ≤ 2147483647 := Wb1.int trb1 k.toNat
          refine c_iload_n (j := 5) C dX3_chain_45 rfl ?_
          refine c_sipush (z := 1000) C dX3_chain_46 (by decide) ?_
          refine c_imul C dX3_chain_49 ?_
          obtain ⟨zz1, hzz1, ezz1⟩ := iI_of (iI (x * 1000))
          refine c_st (st2 := [.int (iI zz1), .int (iI (ivb1 rb1 k.toNat)), .ref a0]) (by rw [ezz1]) ?_
          refine c_iload (j := 0) C dX3_chain_50 rfl ?_
          refine c_iadd C dX3_chain_52 ?_
          obtain ⟨zz2, hzz2, ezz2⟩ := iI_of (iI (zz1 + k))
          refine c_st (st2 := [.int (iI zz2), .int (iI (ivb1 rb1 k.toNat)), .ref a0]) (by rw [ezz2]) ?_
          have ty11 := Xb1.ty t_a0
          have pl5 := Phi.le Wb1 skb1
          refine d_callV (As := [.int (iI (ivb1 rb1 k.toNat)), .int (iI zz2)]) (rest := []) C hM (C_addCell (a0 := a0) (x := ivb1 rb1 k.toNat) (y := zz2) Wb1 skb1 ty11 (by omega) (by omega) ) dX3_chain_53 kV_X3_114 rfl ty11 rfl rfl (by decide) ck_4 rfl (Nat.le_of_ble_eq_true rfl) ⟨(Nat.le_of_ble_eq_true rfl), (Nat.le_of_ble_eq_true rfl)⟩ hph pl5 (show 0 + 0 = 0 from rfl) (by decide) (fun rh3 Lh3 clh3 lnh3 ivh3 rvh3 h3 => ?_)
          obtain ⟨rfl, xl3, fl3, W3, exf3⟩ := h3
          have F2 := Fb1.call Xb1 fl3 rfl
          have ty12 := Xb1.ty tsk6
          have ty13 := Xb1.ty tsk7
          have ty14 := Xb1.ty tsk8
          have ty15 := Xb1.ty tsk9
          have ty16 := Xb1.ty tsk10
          have ty17 := Xb1.ty tsk24
          have ty18 := Xb1.ty tsk25
          have X2 := Xb1.trans xl3
          have sk2 := xl3.skl skb1
          refine c_st (st2 := []) rfl ?_
          refine c_iinc (z := k) (j := 0) (lv2 := [(7, .int (iI (k + 1))), (6, .int (iI (iv a1 1))), (5, .int (iI f1)), (0, .ref a0), (1, .ref a1), (2, .int (iI x)), (3, .int (iI y)), (4, .int (iI g))]) C dX3_chain_56 rfl (by decide) rfl ?_
          refine c_goto (tgt := 30) C dX3_chain_59 (by decide) ?_
          refine c_lv (lv2 := [(7, .int (iI (k + 1))), (6, .int (iI (iv a1 1))), (5, .int (iI f1)), (0, .ref a0), (1, .ref a1), (2, .int (iI x)), (3, .int (iI y)), (4, .int (iI g))]) [0, 1, 2, 3, 4, 5, 6, 7] rfl ?_
          exact ih1  (k + 1) _ _ _ _ _ (by omega) X2 W3 F2  (by omega)
    refine c_lv (lv2 := [(7, .int (iI 0)), (6, .int (iI (iv a1 1))), (5, .int (iI f1)), (0, .ref a0), (1, .ref a1), (2, .int (iI x)), (3, .int (iI y)), (4, .int (iI g))]) [0, 1, 2, 3, 4, 5, 6, 7] rfl ?_
    exact Lp1 203 0 _ _ _ _ _ (by omega) hX0 hW hF0  (by omega)
  · refine c_aload_n (j := 2) (x := a1) C dX3_chain_12 rfl ?_
    refine c_get (k := 1) C ck_3 dX3_chain_13 w4_52 (by decide) t_a1 rfl rfl (by decide) rfl ?_
    refine c_iconst C dX3_chain_16 ?_
    refine c_isub C dX3_chain_17 ?_
    refine c_goto (tgt := 25) C dX3_chain_18 (by decide) ?_
    refine c_istore (lv2 := [(6, .int (iI ((iv a1 1) - 1))), (5, .int (iI f1)), (0, .ref a0), (1, .ref a1), (2, .int (iI x)), (3, .int (iI y)), (4, .int (iI g))]) C dX3_chain_25 (by decide) rfl ?_
    refine c_iconst C dX3_chain_27 ?_
    refine c_istore (lv2 := [(7, .int (iI 0)), (6, .int (iI ((iv a1 1) - 1))), (5, .int (iI f1)), (0, .ref a0), (1, .ref a1), (2, .int (iI x)), (3, .int (iI y)), (4, .int (iI g))]) C dX3_chain_28 (by decide) rfl ?_
    have Lp2 : ∀ (nn : Nat) (k : Int) (Lb2 : List Nat) (clb2 lnb2 : Nat → Nat) (ivb2 : Nat → Nat → Int) (rvb2 : Nat → Nat → Option Nat) , 201 - k < (nn : Int) → XT L cl ln Lb2 clb2 lnb2 → WT (g0 G) sk Lb2 clb2 lnb2 ivb2 rvb2 → fT [8, 38, 9, 39] L cl iv rv ivb2 rvb2 → (0 ≤ k ∧ k ≤ 200) → cw p l e 4 ((PHM) + 0 - ((Phi (g0 G) sk) ln rv)) s m args below meth c G A 8 (MQ below (Qu G A (Qp G (Phi (g0 G) sk) ((Phi (g0 G) sk) ln rv) 0 (fun v L2 cl2 ln2 iv2 rv2 => v = none ∧ XT L cl ln L2 cl2 ln2 ∧ fT [8, 38, 9, 39] L cl iv rv iv2 rv2 ∧ WT (g0 G) sk L2 cl2 ln2 iv2 rv2 ∧ (True)))) args s (((PHM) + 0 - ((Phi (g0 G) sk) ln rv)) / 16) ((PHM) + 0 - ((Phi (g0 G) sk) ln rv)) A) (Phi (g0 G) sk) ((Phi (g0 G) sk) ln rv) Lb2 clb2 lnb2 ivb2 rvb2 0 30 [(7, .int (iI k)), (6, .int (iI ((iv a1 1) - 1))), (5, .int (iI f1)), (0, .ref a0), (1, .ref a1), (2, .int (iI x)), (3, .int (iI y)), (4, .int (iI g))] [] := by
      intro nn
      induction nn with
      | zero =>
        intro  k Lb2 clb2 lnb2 ivb2 rvb2 hm Xb2 Wb2 Fb2  hk
        have skb2 := Xb2.skl hS
        exact absurd hm (by omega)
      | succ nn ih2 =>
        intro  k Lb2 clb2 lnb2 ivb2 rvb2 hm Xb2 Wb2 Fb2  hk
        have skb2 := Xb2.skl hS
        refine c_iload (j := 0) C dX3_chain_30 rfl ?_
        refine c_iload (j := 1) C dX3_chain_32 rfl ?_
        refine c_icmp_ge (tgt := 62) C ⟨by omega, by omega⟩ ⟨by omega, by omega⟩ dX3_chain_34 (by decide) (fun c5 => ?_) (fun c5 => ?_)
        · refine c_iload (j := 2) C dX3_chain_62 rfl ?_
          refine c_if_ne (tgt := 78) C ⟨by omega, by omega⟩ dX3_chain_64 (by decide) (fun c6 => ?_) (fun c6 => ?_)
          · have pl6 := Phi.le Wb2 skb2
            exact c_vret C dX3_chain_78 rfl (by decide) (rom0 hph pl6 (by decide)) ⟨rfl, Xb2, Fb2, Wb2, trivial⟩
          · refine c_iload (j := 7) C dX3_chain_67 rfl ?_
            refine c_if_ne (tgt := 78) C ⟨by omega, by omega⟩ dX3_chain_69 (by decide) (fun c7 => ?_) (fun c7 => ?_)
            · have pl7 := Phi.le Wb2 skb2
              exact c_vret C dX3_chain_78 rfl (by decide) (rom0 hph pl7 (by decide)) ⟨rfl, Xb2, Fb2, Wb2, trivial⟩
            · refine c_aload_n (j := 3) (x := a0) C dX3_chain_72 rfl ?_
              refine c_iconst C dX3_chain_73 ?_
              refine c_iconst C dX3_chain_74 ?_
              have ty19 := Xb2.ty t_a0
              have pl8 := Phi.le Wb2 skb2
              refine d_callV (As := [.int (iI 0), .int (iI (-1))]) (rest := []) C hM (C_addCell (a0 := a0) (x := 0) (y := (-1)) Wb2 skb2 ty19 ⟨by decide, by decide⟩ ⟨by decide, by decide⟩ ) dX3_chain_75 kV_X3_114 rfl ty19 rfl rfl (by decide) ck_4 rfl (Nat.le_of_ble_eq_true rfl) ⟨(Nat.le_of_ble_eq_true rfl), (Nat.le_of_ble_eq_true rfl)⟩ hph pl8 (show 0 + 0 = 0 from rfl) (by decide) (fun rh4 Lh4 clh4 lnh4 ivh4 rvh4 h4 => ?_)
              obtain ⟨rfl, xl4, fl4, W4, exf4⟩ := h4
              have F3 := Fb2.call Xb2 fl4 rfl
              have ty20 := Xb2.ty t_a1
              have ty21 := Xb2.ty tsk6
              have ty22 := Xb2.ty tsk7
              have ty23 := Xb2.ty tsk8
              have ty24 := Xb2.ty tsk9
              have ty25 := Xb2.ty tsk10
              have ty26 := Xb2.ty tsk24
              have ty27 := Xb2.ty tsk25
              have X3 := Xb2.trans xl4
              have sk3 := xl4.skl skb2
              refine c_st (st2 := []) rfl ?_
              have pl9 := Phi.le W4 sk3
              exact c_vret C dX3_chain_78 rfl (by decide) (rom0 hph pl9 (by decide)) ⟨rfl, X3, F3, W4, trivial⟩
        · refine c_aload_n (j := 3) (x := a0) C dX3_chain_37 rfl ?_
          refine c_aload_n (j := 4) (x := a1) C dX3_chain_38 rfl ?_
          have ty28 := Xb2.ty t_a1
          obtain ⟨rb2, rq2, trb2⟩ := Wb2.ref ty28 0 rfl rfl rfl
          have lnrb2 : 200 ≤ lnb2 rb2 ∧ lnb2 rb2 ≤ 200 := Wb2.len trb2 rfl
          refine c_getr (k := 0) C ck_3 dX3_chain_39 w4_46 (by decide) ty28 rfl rfl (by decide) rfl rq2 ?_
          refine c_st (st2 := [.ref rb2, .ref a0]) rfl ?_
          refine c_iload (j := 0) C dX3_chain_42 rfl ?_
          have ll2 : 200 ≤ lnb2 rb2 ∧ lnb2 rb2 ≤ 200 := Wb2.len trb2 rfl
          refine c_iald C dX3_chain_44 trb2 rfl (by omega) (by omega) (by omega) ?_
          have ri3 : (-2147483648) ≤ ivb2 rb2 k.toNat ∧ ivb2 rb2 k.toNat ≤ 2147483647 := Wb2.int trb2 k.toNat
          refine c_iload_n (j := 5) C dX3_chain_45 rfl ?_
          refine c_sipush (z := 1000) C dX3_chain_46 (by decide) ?_
          refine c_imul C dX3_chain_49 ?_
          obtain ⟨zz3, hzz3, ezz3⟩ := iI_of (iI (x * 1000))
          refine c_st (st2 := [.int (iI zz3), .int (iI (ivb2 rb2 k.toNat)), .ref a0]) (by rw [ezz3]) ?_
          refine c_iload (j := 0) C dX3_chain_50 rfl ?_
          refine c_iadd C dX3_chain_52 ?_
          obtain ⟨zz4, hzz4, ezz4⟩ := iI_of (iI (zz3 + k))
          refine c_st (st2 := [.int (iI zz4), .int (iI (ivb2 rb2 k.toNat)), .ref a0]) (by rw [ezz4]) ?_
          have ty29 := Xb2.ty t_a0
          have pl10 := Phi.le Wb2 skb2
          refine d_callV (As := [.int (iI (ivb2 rb2 k.toNat)), .int (iI zz4)]) (rest := []) C hM (C_addCell (a0 := a0) (x := ivb2 rb2 k.toNat) (y := zz4) Wb2 skb2 ty29 (by omega) (by omega) ) dX3_chain_53 kV_X3_114 rfl ty29 rfl rfl (by decide) ck_4 rfl (Nat.le_of_ble_eq_true rfl) ⟨(Nat.le_of_ble_eq_true rfl), (Nat.le_of_ble_eq_true rfl)⟩ hph pl10 (show 0 + 0 = 0 from rfl) (by decide) (fun rh5 Lh5 clh5 lnh5 ivh5 rvh5 h5 => ?_)
          obtain ⟨rfl, xl5, fl5, W5, exf5⟩ := h5
          have F4 := Fb2.call Xb2 fl5 rfl
          have ty30 := Xb2.ty tsk6
          have ty31 := Xb2.ty tsk7
          have ty32 := Xb2.ty tsk8
          have ty33 := Xb2.ty tsk9
          have ty34 := Xb2.ty tsk10
          have ty35 := Xb2.ty tsk24
          have ty36 := Xb2.ty tsk25
          have X4 := Xb2.trans xl5
          have sk4 := xl5.skl skb2
          refine c_st (st2 := []) rfl ?_
          refine c_iinc (z := k) (j := 0) (lv2 := [(7, .int (iI (k + 1))), (6, .int (iI ((iv a1 1) - 1))), (5, .int (iI f1)), (0, .ref a0), (1, .ref a1), (2, .int (iI x)), (3, .int (iI y)), (4, .int (iI g))]) C dX3_chain_56 rfl (by decide) rfl ?_
          refine c_goto (tgt := 30) C dX3_chain_59 (by decide) ?_
          refine c_lv (lv2 := [(7, .int (iI (k + 1))), (6, .int (iI ((iv a1 1) - 1))), (5, .int (iI f1)), (0, .ref a0), (1, .ref a1), (2, .int (iI x)), (3, .int (iI y)), (4, .int (iI g))]) [0, 1, 2, 3, 4, 5, 6, 7] rfl ?_
          exact ih2  (k + 1) _ _ _ _ _ (by omega) X4 W5 F4  (by omega)
    refine c_lv (lv2 := [(7, .int (iI 0)), (6, .int (iI ((iv a1 1) - 1))), (5, .int (iI f1)), (0, .ref a0), (1, .ref a1), (2, .int (iI x)), (3, .int (iI y)), (4, .int (iI g))]) [0, 1, 2, 3, 4, 5, 6, 7] rfl ?_
    exact Lp2 203 0 _ _ _ _ _ (by omega) hX0 hW hF0  (by omega)
set_option maxHeartbeats 4000000 in
set_option maxRecDepth 100000 in
theorem C_placeOfWrong {l : Launch} {G : GT} {mi : Nat} {sk : Nat → Nat} {L : List Nat} {cl ln : Nat → Nat} {iv : Nat → Nat → Int} {rv : Nat → Nat → Option Nat}  {a0 : Nat} (hW : WT (g0 G) sk L cl ln iv rv) (hS : SKL sk L cl) (t_a0 : ty L cl a0 16)  : Mc l G mi (Phi (g0 G) sk) PHM yX3_placeOfWrong cX3_placeOfWrong 1 (some .int) 1 [.ref a0] L cl ln iv rv 0 (fun v L2 cl2 ln2 iv2 rv2 => ∃ f : Int, v = some (.int (iI f)) ∧ L = L2 ∧ cl = cl2 ∧ ln = ln2 ∧ iv = iv2 ∧ rv = rv2 ∧ (-2147483648 ≤ f ∧ f ≤ 2147483647) ∧ (True)) := by
  refine Mc.mk (by decide) (Nat.le_of_ble_eq_true rfl) ?_
  intro p e s m args below meth c A C hM
  have hph := Phi.le hW hS
  have tsk6 : ty L cl (sk 6) 6 := ⟨(hS 6 rfl).1, by rw [(hS 6 rfl).2]; rfl⟩
  have tsk7 : ty L cl (sk 7) 7 := ⟨(hS 7 rfl).1, by rw [(hS 7 rfl).2]; rfl⟩
  have tsk8 : ty L cl (sk 8) 8 := ⟨(hS 8 rfl).1, by rw [(hS 8 rfl).2]; rfl⟩
  have tsk9 : ty L cl (sk 9) 9 := ⟨(hS 9 rfl).1, by rw [(hS 9 rfl).2]; rfl⟩
  have tsk10 : ty L cl (sk 10) 10 := ⟨(hS 10 rfl).1, by rw [(hS 10 rfl).2]; rfl⟩
  have tsk24 : ty L cl (sk 24) 24 := ⟨(hS 24 rfl).1, by rw [(hS 24 rfl).2]; rfl⟩
  have tsk25 : ty L cl (sk 25) 25 := ⟨(hS 25 rfl).1, by rw [(hS 25 rfl).2]; rfl⟩
  have hX0 : XT L cl ln L cl ln := XT.refl
  have hF0 : fT [] L cl iv rv iv rv := fT.refl
  refine c_aload_n (j := 0) (x := a0) C dX3_placeOfWrong_0 rfl ?_
  obtain ⟨rb1, rq1, trb1⟩ := hW.ref t_a0 4 rfl rfl rfl
  have erb1 := hW.sk trb1 (by decide) rfl
  subst erb1
  refine c_getr (k := 4) C ck_4 dX3_placeOfWrong_1 w1_198 (by decide) t_a0 rfl rfl (by decide) rfl rq1 ?_
  refine c_st (st2 := [.ref (sk 8)]) rfl ?_
  refine c_aload_n (j := 0) (x := a0) C dX3_placeOfWrong_4 rfl ?_
  have ri1 : (-2147483648) ≤ iv a0 7 ∧ iv a0 7 ≤ 2147483647 := hW.int t_a0 7
  refine c_get (k := 7) C ck_4 dX3_placeOfWrong_5 w1_202 (by decide) t_a0 rfl rfl (by decide) rfl ?_
  have ri2 : 0 ≤ iv (sk 8) 2 ∧ iv (sk 8) 2 ≤ 40200 := hW.int tsk8 2
  refine d_callV (As := [.int (iI (iv a0 7))]) (rest := []) C hM (C_at_8 (a0 := (sk 8)) (i := iv a0 7) hW hS tsk8 (by omega) ) dX3_placeOfWrong_8 kV_X3_119 rfl tsk8 rfl rfl (by decide) ck_2 rfl (Nat.le_of_ble_eq_true rfl) ⟨(Nat.le_of_ble_eq_true rfl), (Nat.le_of_ble_eq_true rfl)⟩ hph hph (show 0 + 0 = 0 from rfl) (by decide) (fun rh1 Lh1 clh1 lnh1 ivh1 rvh1 h1 => ?_)
  obtain ⟨f1, rfl, rfl, rfl, rfl, rfl, rfl, rgf1, exf1⟩ := h1
  refine c_st (st2 := [.int (iI f1)]) rfl ?_
  have gf1 : ((0 ≤ (iv a0 7) ∧ (iv a0 7) < iv (sk 8) 2) ∨ f1 = 0) ∧ ∀ ss, CT iv rv (sk 8) ss → 0 ≤ (iv a0 7) → (iv a0 7) < iv (sk 8) 2 → f1 = ss (iv a0 7).toNat := exf1
  refine c_if_eq (tgt := 28) C ⟨by omega, by omega⟩ dX3_placeOfWrong_11 (by decide) (fun c1 => ?_) (fun c1 => ?_)
  · refine c_aload_n (j := 0) (x := a0) C dX3_placeOfWrong_28 rfl ?_
    obtain ⟨rb2, rq2, trb2⟩ := hW.ref t_a0 5 rfl rfl rfl
    have erb2 := hW.sk trb2 (by decide) rfl
    subst erb2
    refine c_getr (k := 5) C ck_4 dX3_placeOfWrong_29 w1_199 (by decide) t_a0 rfl rfl (by decide) rfl rq2 ?_
    refine c_st (st2 := [.ref (sk 9)]) rfl ?_
    refine c_aload_n (j := 0) (x := a0) C dX3_placeOfWrong_32 rfl ?_
    refine c_get (k := 7) C ck_4 dX3_placeOfWrong_33 w1_202 (by decide) t_a0 rfl rfl (by decide) rfl ?_
    refine c_iconst C dX3_placeOfWrong_36 ?_
    refine c_isub C dX3_placeOfWrong_37 ?_
    obtain ⟨zz1, hzz1, ezz1⟩ := iI_of (iI ((iv a0 7) - 1))
    refine c_st (st2 := [.int (iI zz1), .ref (sk 9)]) (by rw [ezz1]) ?_
    have ri3 : 0 ≤ iv (sk 9) 2 ∧ iv (sk 9) 2 ≤ 40200 := hW.int tsk9 2
    refine d_callV (As := [.int (iI zz1)]) (rest := []) C hM (C_at_9 (a0 := (sk 9)) (i := zz1) hW hS tsk9 (by omega) ) dX3_placeOfWrong_38 kV_X3_119 rfl tsk9 rfl rfl (by decide) ck_2 rfl (Nat.le_of_ble_eq_true rfl) ⟨(Nat.le_of_ble_eq_true rfl), (Nat.le_of_ble_eq_true rfl)⟩ hph hph (show 0 + 0 = 0 from rfl) (by decide) (fun rh2 Lh2 clh2 lnh2 ivh2 rvh2 h2 => ?_)
    obtain ⟨f2, rfl, rfl, rfl, rfl, rfl, rfl, rgf2, exf2⟩ := h2
    refine c_st (st2 := [.int (iI f2)]) rfl ?_
    have gf2 : ((0 ≤ zz1 ∧ zz1 < iv (sk 9) 2) ∨ f2 = 0) ∧ ∀ ss, CT iv rv (sk 9) ss → 0 ≤ zz1 → zz1 < iv (sk 9) 2 → f2 = ss zz1.toNat := exf2
    refine c_iconst C dX3_placeOfWrong_41 ?_
    refine c_iadd C dX3_placeOfWrong_42 ?_
    obtain ⟨zz2, hzz2, ezz2⟩ := iI_of (iI (f2 + 1))
    refine c_st (st2 := [.int (iI zz2)]) (by rw [ezz2]) ?_
    exact c_iret C dX3_placeOfWrong_43 rfl (by decide) (rom0 hph hph (by decide)) ⟨zz2, rfl, rfl, rfl, rfl, rfl, rfl, ⟨by omega, by omega⟩, trivial⟩
  · refine c_aload_n (j := 0) (x := a0) C dX3_placeOfWrong_14 rfl ?_
    obtain ⟨rb3, rq3, trb3⟩ := hW.ref t_a0 5 rfl rfl rfl
    have erb3 := hW.sk trb3 (by decide) rfl
    subst erb3
    refine c_getr (k := 5) C ck_4 dX3_placeOfWrong_15 w1_199 (by decide) t_a0 rfl rfl (by decide) rfl rq3 ?_
    refine c_st (st2 := [.ref (sk 9)]) rfl ?_
    refine c_aload_n (j := 0) (x := a0) C dX3_placeOfWrong_18 rfl ?_
    refine c_get (k := 7) C ck_4 dX3_placeOfWrong_19 w1_202 (by decide) t_a0 rfl rfl (by decide) rfl ?_
    have ri4 : 0 ≤ iv (sk 9) 2 ∧ iv (sk 9) 2 ≤ 40200 := hW.int tsk9 2
    refine d_callV (As := [.int (iI (iv a0 7))]) (rest := []) C hM (C_at_9 (a0 := (sk 9)) (i := iv a0 7) hW hS tsk9 (by omega) ) dX3_placeOfWrong_22 kV_X3_119 rfl tsk9 rfl rfl (by decide) ck_2 rfl (Nat.le_of_ble_eq_true rfl) ⟨(Nat.le_of_ble_eq_true rfl), (Nat.le_of_ble_eq_true rfl)⟩ hph hph (show 0 + 0 = 0 from rfl) (by decide) (fun rh3 Lh3 clh3 lnh3 ivh3 rvh3 h3 => ?_)
    obtain ⟨f3, rfl, rfl, rfl, rfl, rfl, rfl, rgf3, exf3⟩ := h3
    refine c_st (st2 := [.int (iI f3)]) rfl ?_
    have gf3 : ((0 ≤ (iv a0 7) ∧ (iv a0 7) < iv (sk 9) 2) ∨ f3 = 0) ∧ ∀ ss, CT iv rv (sk 9) ss → 0 ≤ (iv a0 7) → (iv a0 7) < iv (sk 9) 2 → f3 = ss (iv a0 7).toNat := exf3
    refine c_goto (tgt := 43) C dX3_placeOfWrong_25 (by decide) ?_
    exact c_iret C dX3_placeOfWrong_43 rfl (by decide) (rom0 hph hph (by decide)) ⟨f3, rfl, rfl, rfl, rfl, rfl, rfl, ⟨by omega, by omega⟩, trivial⟩
set_option maxHeartbeats 4000000 in
set_option maxRecDepth 100000 in
theorem C_longestAt {l : Launch} {G : GT} {mi : Nat} {sk : Nat → Nat} {L : List Nat} {cl ln : Nat → Nat} {iv : Nat → Nat → Int} {rv : Nat → Nat → Option Nat}  {a0 : Nat} {g : Int} {i : Int} (hW : WT (g0 G) sk L cl ln iv rv) (hS : SKL sk L cl) (t_a0 : ty L cl a0 16) (h_g : -2147483648 ≤ g ∧ g ≤ 2147483647) (h_i : -2147483648 ≤ i ∧ i ≤ 2147483647)  : Mc l G mi (Phi (g0 G) sk) PHM yX3_longestAt cX3_longestAt 11 (some (.object "DotPress$Row")) 3 [.ref a0, .int (iI g), .int (iI i)] L cl ln iv rv 0 (fun v L2 cl2 ln2 iv2 rv2 => ∃ f : Option Nat, v = some ((va_rf f)) ∧ L = L2 ∧ cl = cl2 ∧ ln = ln2 ∧ iv = iv2 ∧ rv = rv2 ∧ (∀ b, f = some b → ty L2 cl2 b 20) ∧ (True)) := by
  refine Mc.mk (by decide) (Nat.le_of_ble_eq_true rfl) ?_
  intro p e s m args below meth c A C hM
  have hph := Phi.le hW hS
  have tsk6 : ty L cl (sk 6) 6 := ⟨(hS 6 rfl).1, by rw [(hS 6 rfl).2]; rfl⟩
  have tsk7 : ty L cl (sk 7) 7 := ⟨(hS 7 rfl).1, by rw [(hS 7 rfl).2]; rfl⟩
  have tsk8 : ty L cl (sk 8) 8 := ⟨(hS 8 rfl).1, by rw [(hS 8 rfl).2]; rfl⟩
  have tsk9 : ty L cl (sk 9) 9 := ⟨(hS 9 rfl).1, by rw [(hS 9 rfl).2]; rfl⟩
  have tsk10 : ty L cl (sk 10) 10 := ⟨(hS 10 rfl).1, by rw [(hS 10 rfl).2]; rfl⟩
  have tsk24 : ty L cl (sk 24) 24 := ⟨(hS 24 rfl).1, by rw [(hS 24 rfl).2]; rfl⟩
  have tsk25 : ty L cl (sk 25) 25 := ⟨(hS 25 rfl).1, by rw [(hS 25 rfl).2]; rfl⟩
  have hX0 : XT L cl ln L cl ln := XT.refl
  have hF0 : fT [] L cl iv rv iv rv := fT.refl
  refine c_aload_n (j := 0) (x := a0) C dX3_longestAt_0 rfl ?_
  refine c_iload_n (j := 1) C dX3_longestAt_1 rfl ?_
  refine d_callV (As := [.int (iI g)]) (rest := []) C hM (C_rowsOf (a0 := a0) (g := g) hW hS t_a0 (by omega) ) dX3_longestAt_2 kV_X3_147 rfl t_a0 rfl rfl (by decide) ck_4 rfl (Nat.le_of_ble_eq_true rfl) ⟨(Nat.le_of_ble_eq_true rfl), (Nat.le_of_ble_eq_true rfl)⟩ hph hph (show 0 + 0 = 0 from rfl) (by decide) (fun rh1 Lh1 clh1 lnh1 ivh1 rvh1 h1 => ?_)
  obtain ⟨f1, rfl, rfl, rfl, rfl, rfl, rfl, rgf1, exf1⟩ := h1
  refine c_st (st2 := [.ref f1]) rfl ?_
  rcases exf1 with exf1 | exf1
  · obtain ⟨hf1, rfl⟩ := exf1
    refine c_st (st2 := [.ref (sk 24)]) rfl ?_
    refine c_astore_n (lv2 := [(3, .ref (sk 24)), (0, .ref a0), (1, .int (iI g)), (2, .int (iI i))]) C dX3_longestAt_5 (by decide) rfl ?_
    refine c_iload_n (j := 2) C dX3_longestAt_6 rfl ?_
    refine c_if_eq (tgt := 17) C ⟨by omega, by omega⟩ dX3_longestAt_7 (by decide) (fun c1 => ?_) (fun c1 => ?_)
    · refine c_aload_n (j := 1) (x := a0) C dX3_longestAt_17 rfl ?_
      obtain ⟨rb1, rq1, trb1⟩ := hW.ref t_a0 2 rfl rfl rfl
      have erb1 := hW.sk trb1 (by decide) rfl
      subst erb1
      refine c_getr (k := 2) C ck_4 dX3_longestAt_18 w1_196 (by decide) t_a0 rfl rfl (by decide) rfl rq1 ?_
      refine c_st (st2 := [.ref (sk 6)]) rfl ?_
      refine c_astore (lv2 := [(4, .ref (sk 6)), (3, .ref (sk 24)), (0, .ref a0), (1, .int (iI g)), (2, .int (iI i))]) C dX3_longestAt_21 (by decide) rfl ?_
      refine c_aload_n (j := 2) (x := a0) C dX3_longestAt_23 rfl ?_
      obtain ⟨rb2, rq2, trb2⟩ := hW.ref t_a0 4 rfl rfl rfl
      have erb2 := hW.sk trb2 (by decide) rfl
      subst erb2
      refine c_getr (k := 4) C ck_4 dX3_longestAt_24 w1_198 (by decide) t_a0 rfl rfl (by decide) rfl rq2 ?_
      refine c_st (st2 := [.ref (sk 8)]) rfl ?_
      refine c_iload_n (j := 4) C dX3_longestAt_27 rfl ?_
      have ri1 : 0 ≤ iv (sk 8) 2 ∧ iv (sk 8) 2 ≤ 40200 := hW.int tsk8 2
      refine d_callV (As := [.int (iI i)]) (rest := []) C hM (C_at_8 (a0 := (sk 8)) (i := i) hW hS tsk8 (by omega) ) dX3_longestAt_28 kV_X3_119 rfl tsk8 rfl rfl (by decide) ck_2 rfl (Nat.le_of_ble_eq_true rfl) ⟨(Nat.le_of_ble_eq_true rfl), (Nat.le_of_ble_eq_true rfl)⟩ hph hph (show 0 + 0 = 0 from rfl) (by decide) (fun rh2 Lh2 clh2 lnh2 ivh2 rvh2 h2 => ?_)
      obtain ⟨f2, rfl, rfl, rfl, rfl, rfl, rfl, rgf2, exf2⟩ := h2
      refine c_st (st2 := [.int (iI f2)]) rfl ?_
      have gf2 : ((0 ≤ i ∧ i < iv (sk 8) 2) ∨ f2 = 0) ∧ ∀ ss, CT iv rv (sk 8) ss → 0 ≤ i → i < iv (sk 8) 2 → f2 = ss i.toNat := exf2
      refine c_istore (lv2 := [(5, .int (iI f2)), (4, .ref (sk 6)), (3, .ref (sk 24)), (0, .ref a0), (1, .int (iI g)), (2, .int (iI i))]) C dX3_longestAt_31 (by decide) rfl ?_
      refine c_null C dX3_longestAt_33 ?_
      refine c_astorer (r := none) (lv2 := [(6, .null), (5, .int (iI f2)), (4, .ref (sk 6)), (3, .ref (sk 24)), (0, .ref a0), (1, .int (iI g)), (2, .int (iI i))]) C dX3_longestAt_34 (by decide) rfl ?_
      refine c_iconst C dX3_longestAt_36 ?_
      refine c_istore (lv2 := [(7, .int (iI 0)), (6, .null), (5, .int (iI f2)), (4, .ref (sk 6)), (3, .ref (sk 24)), (0, .ref a0), (1, .int (iI g)), (2, .int (iI i))]) C dX3_longestAt_37 (by decide) rfl ?_
      refine c_aload (j := 3) (x := (sk 6)) C dX3_longestAt_39 rfl ?_
      have ri2 : 0 ≤ iv (sk 6) 2 ∧ iv (sk 6) 2 ≤ 6003 := hW.int tsk6 2
      refine c_get (k := 2) C ck_2 dX3_longestAt_41 w1_49 (by decide) tsk6 rfl rfl (by decide) rfl ?_
      refine c_aload_n (j := 4) (x := (sk 24)) C dX3_longestAt_44 rfl ?_
      have ri3 : 0 ≤ iv (sk 24) 2 ∧ iv (sk 24) 2 ≤ 6003 := hW.int tsk24 2
      refine d_callV (As := []) (rest := [.int (iI (iv (sk 6) 2))]) C hM (C_size_24 (a0 := (sk 24)) hW hS tsk24  ) dX3_longestAt_45 kV_X3_78 rfl tsk24 rfl rfl (by decide) ck_0 rfl (Nat.le_of_ble_eq_true rfl) ⟨(Nat.le_of_ble_eq_true rfl), (Nat.le_of_ble_eq_true rfl)⟩ hph hph (show 0 + 0 = 0 from rfl) (by decide) (fun rh3 Lh3 clh3 lnh3 ivh3 rvh3 h3 => ?_)
      obtain ⟨f3, rfl, rfl, rfl, rfl, rfl, rfl, rgf3, exf3⟩ := h3
      refine c_st (st2 := [.int (iI f3), .int (iI (iv (sk 6) 2))]) rfl ?_
      have gf3 : f3 = iv (sk 24) 2 := exf3
      obtain ⟨mn1, hmn1, emn1⟩ := mmin_c (x := iv (sk 6) 2) (y := f3) ⟨by omega, by omega⟩ ⟨by omega, by omega⟩
      refine c_mmin (w := iI mn1) C dX3_longestAt_48 w5_88 w2_129 w1_14 w2_130 (by decide) (rom0 hph hph (by decide)) (Nat.le_of_ble_eq_true rfl) emn1 ?_
      refine c_istore (lv2 := [(8, .int (iI mn1)), (7, .int (iI 0)), (6, .null), (5, .int (iI f2)), (4, .ref (sk 6)), (3, .ref (sk 24)), (0, .ref a0), (1, .int (iI g)), (2, .int (iI i))]) C dX3_longestAt_51 (by decide) rfl ?_
      refine c_iconst C dX3_longestAt_53 ?_
      refine c_istore (lv2 := [(9, .int (iI 0)), (8, .int (iI mn1)), (7, .int (iI 0)), (6, .null), (5, .int (iI f2)), (4, .ref (sk 6)), (3, .ref (sk 24)), (0, .ref a0), (1, .int (iI g)), (2, .int (iI i))]) C dX3_longestAt_54 (by decide) rfl ?_
      have Lp1 : ∀ (nn : Nat) (bs : Option Nat) (lg k : Int) , 6004 - k < (nn : Int) → (∀ b, bs = some b → ty L cl b 20) → (0 ≤ lg ∧ lg ≤ 4) → (0 ≤ k ∧ k ≤ 6003) → cw p l e 3 ((PHM) + 0 - ((Phi (g0 G) sk) ln rv)) s m args below meth c G A 11 (MQ below (Qu G A (Qp G (Phi (g0 G) sk) ((Phi (g0 G) sk) ln rv) 0 (fun v L2 cl2 ln2 iv2 rv2 => ∃ f : Option Nat, v = some ((va_rf f)) ∧ L = L2 ∧ cl = cl2 ∧ ln = ln2 ∧ iv = iv2 ∧ rv = rv2 ∧ (∀ b, f = some b → ty L2 cl2 b 20) ∧ (True)))) args s (((PHM) + 0 - ((Phi (g0 G) sk) ln rv)) / 16) ((PHM) + 0 - ((Phi (g0 G) sk) ln rv)) A) (Phi (g0 G) sk) ((Phi (g0 G) sk) ln rv) L cl ln iv rv 0 56 [(6, (va_rf bs)), (7, .int (iI lg)), (9, .int (iI k)), (8, .int (iI mn1)), (5, .int (iI f2)), (4, .ref (sk 6)), (3, .ref (sk 24)), (0, .ref a0), (1, .int (iI g)), (2, .int (iI i))] [] := by
        intro nn
        induction nn with
        | zero =>
          intro bs lg k  hm  ty_bs hlg hk
          exact absurd hm (by omega)
        | succ nn ih1 =>
          intro bs lg k  hm  ty_bs hlg hk
          refine c_iload (j := 2) C dX3_longestAt_56 rfl ?_
          refine c_iload (j := 3) C dX3_longestAt_58 rfl ?_
          refine c_icmp_ge (tgt := 132) C ⟨by omega, by omega⟩ ⟨by omega, by omega⟩ dX3_longestAt_60 (by decide) (fun c2 => ?_) (fun c2 => ?_)
          · refine c_aloadr (j := 0) (r := bs) C dX3_longestAt_132 rfl ?_
            exact c_aret (x := bs) C dX3_longestAt_134 rfl (Or.inl ⟨_, rfl⟩) (by decide) (rom0 hph hph (by decide)) ⟨bs, rfl, rfl, rfl, rfl, rfl, rfl, ty_bs, trivial⟩
          · refine c_aload (j := 5) (x := (sk 6)) C dX3_longestAt_63 rfl ?_
            obtain ⟨rb3, rq3, trb3⟩ := hW.ref tsk6 1 rfl rfl rfl
            have lnrb3 : 16 ≤ ln rb3 ∧ ln rb3 ≤ 12006 := hW.len trb3 rfl
            have szrb3 := hW.isz tsk6 rfl rfl rq3
            refine c_getr (k := 1) C ck_2 dX3_longestAt_65 w1_41 (by decide) tsk6 rfl rfl (by decide) rfl rq3 ?_
            refine c_st (st2 := [.ref rb3]) rfl ?_
            refine c_iload (j := 2) C dX3_longestAt_68 rfl ?_
            have ll1 : 16 ≤ ln rb3 ∧ ln rb3 ≤ 12006 := hW.len trb3 rfl
            refine c_iald C dX3_longestAt_70 trb3 rfl (by omega) (by omega) (by omega) ?_
            have ri4 : (-2147483648) ≤ iv rb3 k.toNat ∧ iv rb3 k.toNat ≤ 2147483647 := hW.int trb3 k.toNat
            refine c_iload (j := 4) C dX3_longestAt_71 rfl ?_
            refine c_icmp_eq (tgt := 79) C ⟨by omega, by omega⟩ ⟨by omega, by omega⟩ dX3_longestAt_73 (by decide) (fun c3 => ?_) (fun c3 => ?_)
            · refine c_aload_n (j := 6) (x := (sk 24)) C dX3_longestAt_79 rfl ?_
              refine c_iload (j := 2) C dX3_longestAt_80 rfl ?_
              refine d_callV (As := [.int (iI k)]) (rest := []) C hM (C_get_24 (a0 := (sk 24)) (i := k) hW hS tsk24 (by omega) (by show 0 ≤ k ∧ k < iv (sk 24) 2; omega)) dX3_longestAt_82 kV_X3_82 rfl tsk24 rfl rfl (by decide) ck_0 rfl (Nat.le_of_ble_eq_true rfl) ⟨(Nat.le_of_ble_eq_true rfl), (Nat.le_of_ble_eq_true rfl)⟩ hph hph (show 0 + 0 = 0 from rfl) (by decide) (fun rh4 Lh4 clh4 lnh4 ivh4 rvh4 h4 => ?_)
              obtain ⟨f4, rfl, rfl, rfl, rfl, rfl, rfl, rgf4, exf4⟩ := h4
              refine c_st (st2 := [.ref f4]) rfl ?_
              have gf4 : el rv (sk 24) k.toNat = some f4 := exf4
              refine c_cast C ck_6 dX3_longestAt_85 w5_63 w8_169t rgf4 rfl rfl (by decide) ?_
              refine c_astore (lv2 := [(10, .ref f4), (6, (va_rf bs)), (7, .int (iI lg)), (9, .int (iI k)), (8, .int (iI mn1)), (5, .int (iI f2)), (4, .ref (sk 6)), (3, .ref (sk 24)), (0, .ref a0), (1, .int (iI g)), (2, .int (iI i))]) C dX3_longestAt_88 (by decide) rfl ?_
              refine c_aload (j := 0) (x := f4) C dX3_longestAt_90 rfl ?_
              obtain ⟨rb4, rq4, trb4⟩ := hW.ref rgf4 2 rfl rfl rfl
              have lnrb4 : 1 ≤ ln rb4 ∧ ln rb4 ≤ 4 := hW.len trb4 rfl
              refine c_getr (k := 2) C ck_6 dX3_longestAt_92 w3_143 (by decide) rgf4 rfl rfl (by decide) rfl rq4 ?_
              refine c_st (st2 := [.ref rb4]) rfl ?_
              have ll2 : 1 ≤ ln rb4 ∧ ln rb4 ≤ 4 := hW.len trb4 rfl
              refine c_alenI C dX3_longestAt_95 trb4 rfl ?_
              refine c_iload (j := 2) C dX3_longestAt_96 rfl ?_
              refine c_icmp_le (tgt := 126) C ⟨by omega, by omega⟩ ⟨by omega, by omega⟩ dX3_longestAt_98 (by decide) (fun c4 => ?_) (fun c4 => ?_)
              · refine c_iinc (z := k) (j := 3) (lv2 := [(9, .int (iI (k + 1))), (10, .ref f4), (6, (va_rf bs)), (7, .int (iI lg)), (8, .int (iI mn1)), (5, .int (iI f2)), (4, .ref (sk 6)), (3, .ref (sk 24)), (0, .ref a0), (1, .int (iI g)), (2, .int (iI i))]) C dX3_longestAt_126 rfl (by decide) rfl ?_
                refine c_goto (tgt := 56) C dX3_longestAt_129 (by decide) ?_
                refine c_lv (lv2 := [(6, (va_rf bs)), (7, .int (iI lg)), (9, .int (iI (k + 1))), (8, .int (iI mn1)), (5, .int (iI f2)), (4, .ref (sk 6)), (3, .ref (sk 24)), (0, .ref a0), (1, .int (iI g)), (2, .int (iI i))]) [2, 3, 0, 4, 5, 6, 7, 8, 9, 10] rfl ?_
                exact ih1  bs lg (k + 1)  (by omega)  ty_bs (by omega) (by omega)
              · refine c_aload (j := 0) (x := f4) C dX3_longestAt_101 rfl ?_
                refine c_aload_n (j := 8) (x := a0) C dX3_longestAt_103 rfl ?_
                refine c_getr (k := 4) C ck_4 dX3_longestAt_104 w1_198 (by decide) t_a0 rfl rfl (by decide) rfl rq2 ?_
                refine c_st (st2 := [.ref (sk 8), .ref f4]) rfl ?_
                refine c_iload_n (j := 10) C dX3_longestAt_107 rfl ?_
                refine d_callV (As := [.ref (sk 8), .int (iI i)]) (rest := []) C hM (C_standsAt (a0 := f4) (a1 := (sk 8)) (i := i) hW hS rgf4 tsk8 (by omega) ) dX3_longestAt_108 kV_X3_157 rfl rgf4 rfl rfl (by decide) ck_6 rfl (Nat.le_of_ble_eq_true rfl) ⟨(Nat.le_of_ble_eq_true rfl), (Nat.le_of_ble_eq_true rfl)⟩ hph hph (show 0 + 0 = 0 from rfl) (by decide) (fun rh5 Lh5 clh5 lnh5 ivh5 rvh5 h5 => ?_)
                obtain ⟨f5, rfl, rfl, rfl, rfl, rfl, rfl, rgf5, exf5⟩ := h5
                refine c_st (st2 := [.int (iI f5)]) rfl ?_
                refine c_if_eq (tgt := 126) C ⟨by omega, by omega⟩ dX3_longestAt_111 (by decide) (fun c5 => ?_) (fun c5 => ?_)
                · refine c_iinc (z := k) (j := 3) (lv2 := [(9, .int (iI (k + 1))), (10, .ref f4), (6, (va_rf bs)), (7, .int (iI lg)), (8, .int (iI mn1)), (5, .int (iI f2)), (4, .ref (sk 6)), (3, .ref (sk 24)), (0, .ref a0), (1, .int (iI g)), (2, .int (iI i))]) C dX3_longestAt_126 rfl (by decide) rfl ?_
                  refine c_goto (tgt := 56) C dX3_longestAt_129 (by decide) ?_
                  refine c_lv (lv2 := [(6, (va_rf bs)), (7, .int (iI lg)), (9, .int (iI (k + 1))), (8, .int (iI mn1)), (5, .int (iI f2)), (4, .ref (sk 6)), (3, .ref (sk 24)), (0, .ref a0), (1, .int (iI g)), (2, .int (iI i))]) [2, 3, 0, 4, 5, 6, 7, 8, 9, 10] rfl ?_
                  exact ih1  bs lg (k + 1)  (by omega)  ty_bs (by omega) (by omega)
                · refine c_aload (j := 0) (x := f4) C dX3_longestAt_114 rfl ?_
                  refine c_astore (lv2 := [(6, .ref f4), (10, .ref f4), (7, .int (iI lg)), (9, .int (iI k)), (8, .int (iI mn1)), (5, .int (iI f2)), (4, .ref (sk 6)), (3, .ref (sk 24)), (0, .ref a0), (1, .int (iI g)), (2, .int (iI i))]) C dX3_longestAt_116 (by decide) rfl ?_
                  refine c_aload (j := 1) (x := f4) C dX3_longestAt_118 rfl ?_
                  refine c_getr (k := 2) C ck_6 dX3_longestAt_120 w3_143 (by decide) rgf4 rfl rfl (by decide) rfl rq4 ?_
                  refine c_st (st2 := [.ref rb4]) rfl ?_
                  refine c_alenI C dX3_longestAt_123 trb4 rfl ?_
                  refine c_istore (lv2 := [(7, .int (iI ((ln rb4 : Nat) : Int))), (6, .ref f4), (10, .ref f4), (9, .int (iI k)), (8, .int (iI mn1)), (5, .int (iI f2)), (4, .ref (sk 6)), (3, .ref (sk 24)), (0, .ref a0), (1, .int (iI g)), (2, .int (iI i))]) C dX3_longestAt_124 (by decide) rfl ?_
                  refine c_iinc (z := k) (j := 3) (lv2 := [(9, .int (iI (k + 1))), (7, .int (iI ((ln rb4 : Nat) : Int))), (6, .ref f4), (10, .ref f4), (8, .int (iI mn1)), (5, .int (iI f2)), (4, .ref (sk 6)), (3, .ref (sk 24)), (0, .ref a0), (1, .int (iI g)), (2, .int (iI i))]) C dX3_longestAt_126 rfl (by decide) rfl ?_
                  refine c_goto (tgt := 56) C dX3_longestAt_129 (by decide) ?_
                  refine c_lv (lv2 := [(6, .ref f4), (7, .int (iI ((ln rb4 : Nat) : Int))), (9, .int (iI (k + 1))), (8, .int (iI mn1)), (5, .int (iI f2)), (4, .ref (sk 6)), (3, .ref (sk 24)), (0, .ref a0), (1, .int (iI g)), (2, .int (iI i))]) [2, 1, 0, 4, 5, 6, 7, 8, 9, 10] rfl ?_
                  exact ih1  (some f4) ((ln rb4 : Nat) : Int) (k + 1)  (by omega)  (fun _ q => by cases q; exact rgf4) (by omega) (by omega)
            · refine c_goto (tgt := 126) C dX3_longestAt_76 (by decide) ?_
              refine c_iinc (z := k) (j := 2) (lv2 := [(9, .int (iI (k + 1))), (6, (va_rf bs)), (7, .int (iI lg)), (8, .int (iI mn1)), (5, .int (iI f2)), (4, .ref (sk 6)), (3, .ref (sk 24)), (0, .ref a0), (1, .int (iI g)), (2, .int (iI i))]) C dX3_longestAt_126 rfl (by decide) rfl ?_
              refine c_goto (tgt := 56) C dX3_longestAt_129 (by decide) ?_
              refine c_lv (lv2 := [(6, (va_rf bs)), (7, .int (iI lg)), (9, .int (iI (k + 1))), (8, .int (iI mn1)), (5, .int (iI f2)), (4, .ref (sk 6)), (3, .ref (sk 24)), (0, .ref a0), (1, .int (iI g)), (2, .int (iI i))]) [1, 2, 0, 3, 4, 5, 6, 7, 8, 9] rfl ?_
              exact ih1  bs lg (k + 1)  (by omega)  ty_bs (by omega) (by omega)
      refine c_lv (lv2 := [(6, .null), (7, .int (iI 0)), (9, .int (iI 0)), (8, .int (iI mn1)), (5, .int (iI f2)), (4, .ref (sk 6)), (3, .ref (sk 24)), (0, .ref a0), (1, .int (iI g)), (2, .int (iI i))]) [3, 2, 0, 1, 4, 5, 6, 7, 8, 9] rfl ?_
      exact Lp1 6006 none 0 0  (by omega)  (fun _ q => by cases q) (by omega) (by omega)
    · refine c_aload_n (j := 1) (x := a0) C dX3_longestAt_10 rfl ?_
      obtain ⟨rb5, rq5, trb5⟩ := hW.ref t_a0 3 rfl rfl rfl
      have erb5 := hW.sk trb5 (by decide) rfl
      subst erb5
      refine c_getr (k := 3) C ck_4 dX3_longestAt_11 w1_197 (by decide) t_a0 rfl rfl (by decide) rfl rq5 ?_
      refine c_st (st2 := [.ref (sk 7)]) rfl ?_
      refine c_goto (tgt := 21) C dX3_longestAt_14 (by decide) ?_
      refine c_astore (lv2 := [(4, .ref (sk 7)), (3, .ref (sk 24)), (0, .ref a0), (1, .int (iI g)), (2, .int (iI i))]) C dX3_longestAt_21 (by decide) rfl ?_
      refine c_aload_n (j := 2) (x := a0) C dX3_longestAt_23 rfl ?_
      obtain ⟨rb6, rq6, trb6⟩ := hW.ref t_a0 4 rfl rfl rfl
      have erb6 := hW.sk trb6 (by decide) rfl
      subst erb6
      refine c_getr (k := 4) C ck_4 dX3_longestAt_24 w1_198 (by decide) t_a0 rfl rfl (by decide) rfl rq6 ?_
      refine c_st (st2 := [.ref (sk 8)]) rfl ?_
      refine c_iload_n (j := 4) C dX3_longestAt_27 rfl ?_
      have ri5 : 0 ≤ iv (sk 8) 2 ∧ iv (sk 8) 2 ≤ 40200 := hW.int tsk8 2
      refine d_callV (As := [.int (iI i)]) (rest := []) C hM (C_at_8 (a0 := (sk 8)) (i := i) hW hS tsk8 (by omega) ) dX3_longestAt_28 kV_X3_119 rfl tsk8 rfl rfl (by decide) ck_2 rfl (Nat.le_of_ble_eq_true rfl) ⟨(Nat.le_of_ble_eq_true rfl), (Nat.le_of_ble_eq_true rfl)⟩ hph hph (show 0 + 0 = 0 from rfl) (by decide) (fun rh6 Lh6 clh6 lnh6 ivh6 rvh6 h6 => ?_)
      obtain ⟨f6, rfl, rfl, rfl, rfl, rfl, rfl, rgf6, exf6⟩ := h6
      refine c_st (st2 := [.int (iI f6)]) rfl ?_
      have gf6 : ((0 ≤ i ∧ i < iv (sk 8) 2) ∨ f6 = 0) ∧ ∀ ss, CT iv rv (sk 8) ss → 0 ≤ i → i < iv (sk 8) 2 → f6 = ss i.toNat := exf6
      refine c_istore (lv2 := [(5, .int (iI f6)), (4, .ref (sk 7)), (3, .ref (sk 24)), (0, .ref a0), (1, .int (iI g)), (2, .int (iI i))]) C dX3_longestAt_31 (by decide) rfl ?_
      refine c_null C dX3_longestAt_33 ?_
      refine c_astorer (r := none) (lv2 := [(6, .null), (5, .int (iI f6)), (4, .ref (sk 7)), (3, .ref (sk 24)), (0, .ref a0), (1, .int (iI g)), (2, .int (iI i))]) C dX3_longestAt_34 (by decide) rfl ?_
      refine c_iconst C dX3_longestAt_36 ?_
      refine c_istore (lv2 := [(7, .int (iI 0)), (6, .null), (5, .int (iI f6)), (4, .ref (sk 7)), (3, .ref (sk 24)), (0, .ref a0), (1, .int (iI g)), (2, .int (iI i))]) C dX3_longestAt_37 (by decide) rfl ?_
      refine c_aload (j := 3) (x := (sk 7)) C dX3_longestAt_39 rfl ?_
      have ri6 : 0 ≤ iv (sk 7) 2 ∧ iv (sk 7) 2 ≤ 6003 := hW.int tsk7 2
      refine c_get (k := 2) C ck_2 dX3_longestAt_41 w1_49 (by decide) tsk7 rfl rfl (by decide) rfl ?_
      refine c_aload_n (j := 4) (x := (sk 24)) C dX3_longestAt_44 rfl ?_
      have ri7 : 0 ≤ iv (sk 24) 2 ∧ iv (sk 24) 2 ≤ 6003 := hW.int tsk24 2
      refine d_callV (As := []) (rest := [.int (iI (iv (sk 7) 2))]) C hM (C_size_24 (a0 := (sk 24)) hW hS tsk24  ) dX3_longestAt_45 kV_X3_78 rfl tsk24 rfl rfl (by decide) ck_0 rfl (Nat.le_of_ble_eq_true rfl) ⟨(Nat.le_of_ble_eq_true rfl), (Nat.le_of_ble_eq_true rfl)⟩ hph hph (show 0 + 0 = 0 from rfl) (by decide) (fun rh7 Lh7 clh7 lnh7 ivh7 rvh7 h7 => ?_)
      obtain ⟨f7, rfl, rfl, rfl, rfl, rfl, rfl, rgf7, exf7⟩ := h7
      refine c_st (st2 := [.int (iI f7), .int (iI (iv (sk 7) 2))]) rfl ?_
      have gf7 : f7 = iv (sk 24) 2 := exf7
      obtain ⟨mn2, hmn2, emn2⟩ := mmin_c (x := iv (sk 7) 2) (y := f7) ⟨by omega, by omega⟩ ⟨by omega, by omega⟩
      refine c_mmin (w := iI mn2) C dX3_longestAt_48 w5_88 w2_129 w1_14 w2_130 (by decide) (rom0 hph hph (by decide)) (Nat.le_of_ble_eq_true rfl) emn2 ?_
      refine c_istore (lv2 := [(8, .int (iI mn2)), (7, .int (iI 0)), (6, .null), (5, .int (iI f6)), (4, .ref (sk 7)), (3, .ref (sk 24)), (0, .ref a0), (1, .int (iI g)), (2, .int (iI i))]) C dX3_longestAt_51 (by decide) rfl ?_
      refine c_iconst C dX3_longestAt_53 ?_
      refine c_istore (lv2 := [(9, .int (iI 0)), (8, .int (iI mn2)), (7, .int (iI 0)), (6, .null), (5, .int (iI f6)), (4, .ref (sk 7)), (3, .ref (sk 24)), (0, .ref a0), (1, .int (iI g)), (2, .int (iI i))]) C dX3_longestAt_54 (by decide) rfl ?_
      have Lp2 : ∀ (nn : Nat) (bs : Option Nat) (lg k : Int) , 6004 - k < (nn : Int) → (∀ b, bs = some b → ty L cl b 20) → (0 ≤ lg ∧ lg ≤ 4) → (0 ≤ k ∧ k ≤ 6003) → cw p l e 3 ((PHM) + 0 - ((Phi (g0 G) sk) ln rv)) s m args below meth c G A 11 (MQ below (Qu G A (Qp G (Phi (g0 G) sk) ((Phi (g0 G) sk) ln rv) 0 (fun v L2 cl2 ln2 iv2 rv2 => ∃ f : Option Nat, v = some ((va_rf f)) ∧ L = L2 ∧ cl = cl2 ∧ ln = ln2 ∧ iv = iv2 ∧ rv = rv2 ∧ (∀ b, f = some b → ty L2 cl2 b 20) ∧ (True)))) args s (((PHM) + 0 - ((Phi (g0 G) sk) ln rv)) / 16) ((PHM) + 0 - ((Phi (g0 G) sk) ln rv)) A) (Phi (g0 G) sk) ((Phi (g0 G) sk) ln rv) L cl ln iv rv 0 56 [(6, (va_rf bs)), (7, .int (iI lg)), (9, .int (iI k)), (8, .int (iI mn2)), (5, .int (iI f6)), (4, .ref (sk 7)), (3, .ref (sk 24)), (0, .ref a0), (1, .int (iI g)), (2, .int (iI i))] [] := by
        intro nn
        induction nn with
        | zero =>
          intro bs lg k  hm  ty_bs hlg hk
          exact absurd hm (by omega)
        | succ nn ih2 =>
          intro bs lg k  hm  ty_bs hlg hk
          refine c_iload (j := 2) C dX3_longestAt_56 rfl ?_
          refine c_iload (j := 3) C dX3_longestAt_58 rfl ?_
          refine c_icmp_ge (tgt := 132) C ⟨by omega, by omega⟩ ⟨by omega, by omega⟩ dX3_longestAt_60 (by decide) (fun c6 => ?_) (fun c6 => ?_)
          · refine c_aloadr (j := 0) (r := bs) C dX3_longestAt_132 rfl ?_
            exact c_aret (x := bs) C dX3_longestAt_134 rfl (Or.inl ⟨_, rfl⟩) (by decide) (rom0 hph hph (by decide)) ⟨bs, rfl, rfl, rfl, rfl, rfl, rfl, ty_bs, trivial⟩
          · refine c_aload (j := 5) (x := (sk 7)) C dX3_longestAt_63 rfl ?_
            obtain ⟨rb7, rq7, trb7⟩ := hW.ref tsk7 1 rfl rfl rfl
            have lnrb7 : 16 ≤ ln rb7 ∧ ln rb7 ≤ 12006 := hW.len trb7 rfl
            have szrb7 := hW.isz tsk7 rfl rfl rq7
            refine c_getr (k := 1) C ck_2 dX3_longestAt_65 w1_41 (by decide) tsk7 rfl rfl (by decide) rfl rq7 ?_
            refine c_st (st2 := [.ref rb7]) rfl ?_
            refine c_iload (j := 2) C dX3_longestAt_68 rfl ?_
            have ll3 : 16 ≤ ln rb7 ∧ ln rb7 ≤ 12006 := hW.len trb7 rfl
            refine c_iald C dX3_longestAt_70 trb7 rfl (by omega) (by omega) (by omega) ?_
            have ri8 : (-2147483648) ≤ iv rb7 k.toNat ∧ iv rb7 k.toNat ≤ 2147483647 := hW.int trb7 k.toNat
            refine c_iload (j := 4) C dX3_longestAt_71 rfl ?_
            refine c_icmp_eq (tgt := 79) C ⟨by omega, by omega⟩ ⟨by omega, by omega⟩ dX3_longestAt_73 (by decide) (fun c7 => ?_) (fun c7 => ?_)
            · refine c_aload_n (j := 6) (x := (sk 24)) C dX3_longestAt_79 rfl ?_
              refine c_iload (j := 2) C dX3_longestAt_80 rfl ?_
              refine d_callV (As := [.int (iI k)]) (rest := []) C hM (C_get_24 (a0 := (sk 24)) (i := k) hW hS tsk24 (by omega) (by show 0 ≤ k ∧ k < iv (sk 24) 2; omega)) dX3_longestAt_82 kV_X3_82 rfl tsk24 rfl rfl (by decide) ck_0 rfl (Nat.le_of_ble_eq_true rfl) ⟨(Nat.le_of_ble_eq_true rfl), (Nat.le_of_ble_eq_true rfl)⟩ hph hph (show 0 + 0 = 0 from rfl) (by decide) (fun rh8 Lh8 clh8 lnh8 ivh8 rvh8 h8 => ?_)
              obtain ⟨f8, rfl, rfl, rfl, rfl, rfl, rfl, rgf8, exf8⟩ := h8
              refine c_st (st2 := [.ref f8]) rfl ?_
              have gf8 : el rv (sk 24) k.toNat = some f8 := exf8
              refine c_cast C ck_6 dX3_longestAt_85 w5_63 w8_169t rgf8 rfl rfl (by decide) ?_
              refine c_astore (lv2 := [(10, .ref f8), (6, (va_rf bs)), (7, .int (iI lg)), (9, .int (iI k)), (8, .int (iI mn2)), (5, .int (iI f6)), (4, .ref (sk 7)), (3, .ref (sk 24)), (0, .ref a0), (1, .int (iI g)), (2, .int (iI i))]) C dX3_longestAt_88 (by decide) rfl ?_
              refine c_aload (j := 0) (x := f8) C dX3_longestAt_90 rfl ?_
              obtain ⟨rb8, rq8, trb8⟩ := hW.ref rgf8 2 rfl rfl rfl
              have lnrb8 : 1 ≤ ln rb8 ∧ ln rb8 ≤ 4 := hW.len trb8 rfl
              refine c_getr (k := 2) C ck_6 dX3_longestAt_92 w3_143 (by decide) rgf8 rfl rfl (by decide) rfl rq8 ?_
              refine c_st (st2 := [.ref rb8]) rfl ?_
              have ll4 : 1 ≤ ln rb8 ∧ ln rb8 ≤ 4 := hW.len trb8 rfl
              refine c_alenI C dX3_longestAt_95 trb8 rfl ?_
              refine c_iload (j := 2) C dX3_longestAt_96 rfl ?_
              refine c_icmp_le (tgt := 126) C ⟨by omega, by omega⟩ ⟨by omega, by omega⟩ dX3_longestAt_98 (by decide) (fun c8 => ?_) (fun c8 => ?_)
              · refine c_iinc (z := k) (j := 3) (lv2 := [(9, .int (iI (k + 1))), (10, .ref f8), (6, (va_rf bs)), (7, .int (iI lg)), (8, .int (iI mn2)), (5, .int (iI f6)), (4, .ref (sk 7)), (3, .ref (sk 24)), (0, .ref a0), (1, .int (iI g)), (2, .int (iI i))]) C dX3_longestAt_126 rfl (by decide) rfl ?_
                refine c_goto (tgt := 56) C dX3_longestAt_129 (by decide) ?_
                refine c_lv (lv2 := [(6, (va_rf bs)), (7, .int (iI lg)), (9, .int (iI (k + 1))), (8, .int (iI mn2)), (5, .int (iI f6)), (4, .ref (sk 7)), (3, .ref (sk 24)), (0, .ref a0), (1, .int (iI g)), (2, .int (iI i))]) [2, 3, 0, 4, 5, 6, 7, 8, 9, 10] rfl ?_
                exact ih2  bs lg (k + 1)  (by omega)  ty_bs (by omega) (by omega)
              · refine c_aload (j := 0) (x := f8) C dX3_longestAt_101 rfl ?_
                refine c_aload_n (j := 8) (x := a0) C dX3_longestAt_103 rfl ?_
                refine c_getr (k := 4) C ck_4 dX3_longestAt_104 w1_198 (by decide) t_a0 rfl rfl (by decide) rfl rq6 ?_
                refine c_st (st2 := [.ref (sk 8), .ref f8]) rfl ?_
                refine c_iload_n (j := 10) C dX3_longestAt_107 rfl ?_
                refine d_callV (As := [.ref (sk 8), .int (iI i)]) (rest := []) C hM (C_standsAt (a0 := f8) (a1 := (sk 8)) (i := i) hW hS rgf8 tsk8 (by omega) ) dX3_longestAt_108 kV_X3_157 rfl rgf8 rfl rfl (by decide) ck_6 rfl (Nat.le_of_ble_eq_true rfl) ⟨(Nat.le_of_ble_eq_true rfl), (Nat.le_of_ble_eq_true rfl)⟩ hph hph (show 0 + 0 = 0 from rfl) (by decide) (fun rh9 Lh9 clh9 lnh9 ivh9 rvh9 h9 => ?_)
                obtain ⟨f9, rfl, rfl, rfl, rfl, rfl, rfl, rgf9, exf9⟩ := h9
                refine c_st (st2 := [.int (iI f9)]) rfl ?_
                refine c_if_eq (tgt := 126) C ⟨by omega, by omega⟩ dX3_longestAt_111 (by decide) (fun c9 => ?_) (fun c9 => ?_)
                · refine c_iinc (z := k) (j := 3) (lv2 := [(9, .int (iI (k + 1))), (10, .ref f8), (6, (va_rf bs)), (7, .int (iI lg)), (8, .int (iI mn2)), (5, .int (iI f6)), (4, .ref (sk 7)), (3, .ref (sk 24)), (0, .ref a0), (1, .int (iI g)), (2, .int (iI i))]) C dX3_longestAt_126 rfl (by decide) rfl ?_
                  refine c_goto (tgt := 56) C dX3_longestAt_129 (by decide) ?_
                  refine c_lv (lv2 := [(6, (va_rf bs)), (7, .int (iI lg)), (9, .int (iI (k + 1))), (8, .int (iI mn2)), (5, .int (iI f6)), (4, .ref (sk 7)), (3, .ref (sk 24)), (0, .ref a0), (1, .int (iI g)), (2, .int (iI i))]) [2, 3, 0, 4, 5, 6, 7, 8, 9, 10] rfl ?_
                  exact ih2  bs lg (k + 1)  (by omega)  ty_bs (by omega) (by omega)
                · refine c_aload (j := 0) (x := f8) C dX3_longestAt_114 rfl ?_
                  refine c_astore (lv2 := [(6, .ref f8), (10, .ref f8), (7, .int (iI lg)), (9, .int (iI k)), (8, .int (iI mn2)), (5, .int (iI f6)), (4, .ref (sk 7)), (3, .ref (sk 24)), (0, .ref a0), (1, .int (iI g)), (2, .int (iI i))]) C dX3_longestAt_116 (by decide) rfl ?_
                  refine c_aload (j := 1) (x := f8) C dX3_longestAt_118 rfl ?_
                  refine c_getr (k := 2) C ck_6 dX3_longestAt_120 w3_143 (by decide) rgf8 rfl rfl (by decide) rfl rq8 ?_
                  refine c_st (st2 := [.ref rb8]) rfl ?_
                  refine c_alenI C dX3_longestAt_123 trb8 rfl ?_
                  refine c_istore (lv2 := [(7, .int (iI ((ln rb8 : Nat) : Int))), (6, .ref f8), (10, .ref f8), (9, .int (iI k)), (8, .int (iI mn2)), (5, .int (iI f6)), (4, .ref (sk 7)), (3, .ref (sk 24)), (0, .ref a0), (1, .int (iI g)), (2, .int (iI i))]) C dX3_longestAt_124 (by decide) rfl ?_
                  refine c_iinc (z := k) (j := 3) (lv2 := [(9, .int (iI (k + 1))), (7, .int (iI ((ln rb8 : Nat) : Int))), (6, .ref f8), (10, .ref f8), (8, .int (iI mn2)), (5, .int (iI f6)), (4, .ref (sk 7)), (3, .ref (sk 24)), (0, .ref a0), (1, .int (iI g)), (2, .int (iI i))]) C dX3_longestAt_126 rfl (by decide) rfl ?_
                  refine c_goto (tgt := 56) C dX3_longestAt_129 (by decide) ?_
                  refine c_lv (lv2 := [(6, .ref f8), (7, .int (iI ((ln rb8 : Nat) : Int))), (9, .int (iI (k + 1))), (8, .int (iI mn2)), (5, .int (iI f6)), (4, .ref (sk 7)), (3, .ref (sk 24)), (0, .ref a0), (1, .int (iI g)), (2, .int (iI i))]) [2, 1, 0, 4, 5, 6, 7, 8, 9, 10] rfl ?_
                  exact ih2  (some f8) ((ln rb8 : Nat) : Int) (k + 1)  (by omega)  (fun _ q => by cases q; exact rgf8) (by omega) (by omega)
            · refine c_goto (tgt := 126) C dX3_longestAt_76 (by decide) ?_
              refine c_iinc (z := k) (j := 2) (lv2 := [(9, .int (iI (k + 1))), (6, (va_rf bs)), (7, .int (iI lg)), (8, .int (iI mn2)), (5, .int (iI f6)), (4, .ref (sk 7)), (3, .ref (sk 24)), (0, .ref a0), (1, .int (iI g)), (2, .int (iI i))]) C dX3_longestAt_126 rfl (by decide) rfl ?_
              refine c_goto (tgt := 56) C dX3_longestAt_129 (by decide) ?_
              refine c_lv (lv2 := [(6, (va_rf bs)), (7, .int (iI lg)), (9, .int (iI (k + 1))), (8, .int (iI mn2)), (5, .int (iI f6)), (4, .ref (sk 7)), (3, .ref (sk 24)), (0, .ref a0), (1, .int (iI g)), (2, .int (iI i))]) [1, 2, 0, 3, 4, 5, 6, 7, 8, 9] rfl ?_
              exact ih2  bs lg (k + 1)  (by omega)  ty_bs (by omega) (by omega)
      refine c_lv (lv2 := [(6, .null), (7, .int (iI 0)), (9, .int (iI 0)), (8, .int (iI mn2)), (5, .int (iI f6)), (4, .ref (sk 7)), (3, .ref (sk 24)), (0, .ref a0), (1, .int (iI g)), (2, .int (iI i))]) [3, 2, 0, 1, 4, 5, 6, 7, 8, 9] rfl ?_
      exact Lp2 6006 none 0 0  (by omega)  (fun _ q => by cases q) (by omega) (by omega)
  · obtain ⟨hf1, rfl⟩ := exf1
    refine c_st (st2 := [.ref (sk 25)]) rfl ?_
    refine c_astore_n (lv2 := [(3, .ref (sk 25)), (0, .ref a0), (1, .int (iI g)), (2, .int (iI i))]) C dX3_longestAt_5 (by decide) rfl ?_
    refine c_iload_n (j := 2) C dX3_longestAt_6 rfl ?_
    refine c_if_eq (tgt := 17) C ⟨by omega, by omega⟩ dX3_longestAt_7 (by decide) (fun c10 => ?_) (fun c10 => ?_)
    · refine c_aload_n (j := 1) (x := a0) C dX3_longestAt_17 rfl ?_
      obtain ⟨rb9, rq9, trb9⟩ := hW.ref t_a0 2 rfl rfl rfl
      have erb9 := hW.sk trb9 (by decide) rfl
      subst erb9
      refine c_getr (k := 2) C ck_4 dX3_longestAt_18 w1_196 (by decide) t_a0 rfl rfl (by decide) rfl rq9 ?_
      refine c_st (st2 := [.ref (sk 6)]) rfl ?_
      refine c_astore (lv2 := [(4, .ref (sk 6)), (3, .ref (sk 25)), (0, .ref a0), (1, .int (iI g)), (2, .int (iI i))]) C dX3_longestAt_21 (by decide) rfl ?_
      refine c_aload_n (j := 2) (x := a0) C dX3_longestAt_23 rfl ?_
      obtain ⟨rb10, rq10, trb10⟩ := hW.ref t_a0 4 rfl rfl rfl
      have erb10 := hW.sk trb10 (by decide) rfl
      subst erb10
      refine c_getr (k := 4) C ck_4 dX3_longestAt_24 w1_198 (by decide) t_a0 rfl rfl (by decide) rfl rq10 ?_
      refine c_st (st2 := [.ref (sk 8)]) rfl ?_
      refine c_iload_n (j := 4) C dX3_longestAt_27 rfl ?_
      have ri9 : 0 ≤ iv (sk 8) 2 ∧ iv (sk 8) 2 ≤ 40200 := hW.int tsk8 2
      refine d_callV (As := [.int (iI i)]) (rest := []) C hM (C_at_8 (a0 := (sk 8)) (i := i) hW hS tsk8 (by omega) ) dX3_longestAt_28 kV_X3_119 rfl tsk8 rfl rfl (by decide) ck_2 rfl (Nat.le_of_ble_eq_true rfl) ⟨(Nat.le_of_ble_eq_true rfl), (Nat.le_of_ble_eq_true rfl)⟩ hph hph (show 0 + 0 = 0 from rfl) (by decide) (fun rh10 Lh10 clh10 lnh10 ivh10 rvh10 h10 => ?_)
      obtain ⟨f10, rfl, rfl, rfl, rfl, rfl, rfl, rgf10, exf10⟩ := h10
      refine c_st (st2 := [.int (iI f10)]) rfl ?_
      have gf10 : ((0 ≤ i ∧ i < iv (sk 8) 2) ∨ f10 = 0) ∧ ∀ ss, CT iv rv (sk 8) ss → 0 ≤ i → i < iv (sk 8) 2 → f10 = ss i.toNat := exf10
      refine c_istore (lv2 := [(5, .int (iI f10)), (4, .ref (sk 6)), (3, .ref (sk 25)), (0, .ref a0), (1, .int (iI g)), (2, .int (iI i))]) C dX3_longestAt_31 (by decide) rfl ?_
      refine c_null C dX3_longestAt_33 ?_
      refine c_astorer (r := none) (lv2 := [(6, .null), (5, .int (iI f10)), (4, .ref (sk 6)), (3, .ref (sk 25)), (0, .ref a0), (1, .int (iI g)), (2, .int (iI i))]) C dX3_longestAt_34 (by decide) rfl ?_
      refine c_iconst C dX3_longestAt_36 ?_
      refine c_istore (lv2 := [(7, .int (iI 0)), (6, .null), (5, .int (iI f10)), (4, .ref (sk 6)), (3, .ref (sk 25)), (0, .ref a0), (1, .int (iI g)), (2, .int (iI i))]) C dX3_longestAt_37 (by decide) rfl ?_
      refine c_aload (j := 3) (x := (sk 6)) C dX3_longestAt_39 rfl ?_
      have ri10 : 0 ≤ iv (sk 6) 2 ∧ iv (sk 6) 2 ≤ 6003 := hW.int tsk6 2
      refine c_get (k := 2) C ck_2 dX3_longestAt_41 w1_49 (by decide) tsk6 rfl rfl (by decide) rfl ?_
      refine c_aload_n (j := 4) (x := (sk 25)) C dX3_longestAt_44 rfl ?_
      have ri11 : 0 ≤ iv (sk 25) 2 ∧ iv (sk 25) 2 ≤ 6003 := hW.int tsk25 2
      refine d_callV (As := []) (rest := [.int (iI (iv (sk 6) 2))]) C hM (C_size_25 (a0 := (sk 25)) hW hS tsk25  ) dX3_longestAt_45 kV_X3_78 rfl tsk25 rfl rfl (by decide) ck_0 rfl (Nat.le_of_ble_eq_true rfl) ⟨(Nat.le_of_ble_eq_true rfl), (Nat.le_of_ble_eq_true rfl)⟩ hph hph (show 0 + 0 = 0 from rfl) (by decide) (fun rh11 Lh11 clh11 lnh11 ivh11 rvh11 h11 => ?_)
      obtain ⟨f11, rfl, rfl, rfl, rfl, rfl, rfl, rgf11, exf11⟩ := h11
      refine c_st (st2 := [.int (iI f11), .int (iI (iv (sk 6) 2))]) rfl ?_
      have gf11 : f11 = iv (sk 25) 2 := exf11
      obtain ⟨mn3, hmn3, emn3⟩ := mmin_c (x := iv (sk 6) 2) (y := f11) ⟨by omega, by omega⟩ ⟨by omega, by omega⟩
      refine c_mmin (w := iI mn3) C dX3_longestAt_48 w5_88 w2_129 w1_14 w2_130 (by decide) (rom0 hph hph (by decide)) (Nat.le_of_ble_eq_true rfl) emn3 ?_
      refine c_istore (lv2 := [(8, .int (iI mn3)), (7, .int (iI 0)), (6, .null), (5, .int (iI f10)), (4, .ref (sk 6)), (3, .ref (sk 25)), (0, .ref a0), (1, .int (iI g)), (2, .int (iI i))]) C dX3_longestAt_51 (by decide) rfl ?_
      refine c_iconst C dX3_longestAt_53 ?_
      refine c_istore (lv2 := [(9, .int (iI 0)), (8, .int (iI mn3)), (7, .int (iI 0)), (6, .null), (5, .int (iI f10)), (4, .ref (sk 6)), (3, .ref (sk 25)), (0, .ref a0), (1, .int (iI g)), (2, .int (iI i))]) C dX3_longestAt_54 (by decide) rfl ?_
      have Lp3 : ∀ (nn : Nat) (bs : Option Nat) (lg k : Int) , 6004 - k < (nn : Int) → (∀ b, bs = some b → ty L cl b 20) → (0 ≤ lg ∧ lg ≤ 4) → (0 ≤ k ∧ k ≤ 6003) → cw p l e 3 ((PHM) + 0 - ((Phi (g0 G) sk) ln rv)) s m args below meth c G A 11 (MQ below (Qu G A (Qp G (Phi (g0 G) sk) ((Phi (g0 G) sk) ln rv) 0 (fun v L2 cl2 ln2 iv2 rv2 => ∃ f : Option Nat, v = some ((va_rf f)) ∧ L = L2 ∧ cl = cl2 ∧ ln = ln2 ∧ iv = iv2 ∧ rv = rv2 ∧ (∀ b, f = some b → ty L2 cl2 b 20) ∧ (True)))) args s (((PHM) + 0 - ((Phi (g0 G) sk) ln rv)) / 16) ((PHM) + 0 - ((Phi (g0 G) sk) ln rv)) A) (Phi (g0 G) sk) ((Phi (g0 G) sk) ln rv) L cl ln iv rv 0 56 [(6, (va_rf bs)), (7, .int (iI lg)), (9, .int (iI k)), (8, .int (iI mn3)), (5, .int (iI f10)), (4, .ref (sk 6)), (3, .ref (sk 25)), (0, .ref a0), (1, .int (iI g)), (2, .int (iI i))] [] := by
        intro nn
        induction nn with
        | zero =>
          intro bs lg k  hm  ty_bs hlg hk
          exact absurd hm (by omega)
        | succ nn ih3 =>
          intro bs lg k  hm  ty_bs hlg hk
          refine c_iload (j := 2) C dX3_longestAt_56 rfl ?_
          refine c_iload (j := 3) C dX3_longestAt_58 rfl ?_
          refine c_icmp_ge (tgt := 132) C ⟨by omega, by omega⟩ ⟨by omega, by omega⟩ dX3_longestAt_60 (by decide) (fun c11 => ?_) (fun c11 => ?_)
          · refine c_aloadr (j := 0) (r := bs) C dX3_longestAt_132 rfl ?_
            exact c_aret (x := bs) C dX3_longestAt_134 rfl (Or.inl ⟨_, rfl⟩) (by decide) (rom0 hph hph (by decide)) ⟨bs, rfl, rfl, rfl, rfl, rfl, rfl, ty_bs, trivial⟩
          · refine c_aload (j := 5) (x := (sk 6)) C dX3_longestAt_63 rfl ?_
            obtain ⟨rb11, rq11, trb11⟩ := hW.ref tsk6 1 rfl rfl rfl
            have lnrb11 : 16 ≤ ln rb11 ∧ ln rb11 ≤ 12006 := hW.len trb11 rfl
            have szrb11 := hW.isz tsk6 rfl rfl rq11
            refine c_getr (k := 1) C ck_2 dX3_longestAt_65 w1_41 (by decide) tsk6 rfl rfl (by decide) rfl rq11 ?_
            refine c_st (st2 := [.ref rb11]) rfl ?_
            refine c_iload (j := 2) C dX3_longestAt_68 rfl ?_
            have ll5 : 16 ≤ ln rb11 ∧ ln rb11 ≤ 12006 := hW.len trb11 rfl
            refine c_iald C dX3_longestAt_70 trb11 rfl (by omega) (by omega) (by omega) ?_
            have ri12 : (-2147483648) ≤ iv rb11 k.toNat ∧ iv rb11 k.toNat ≤ 2147483647 := hW.int trb11 k.toNat
            refine c_iload (j := 4) C dX3_longestAt_71 rfl ?_
            refine c_icmp_eq (tgt := 79) C ⟨by omega, by omega⟩ ⟨by omega, by omega⟩ dX3_longestAt_73 (by decide) (fun c12 => ?_) (fun c12 => ?_)
            · refine c_aload_n (j := 6) (x := (sk 25)) C dX3_longestAt_79 rfl ?_
              refine c_iload (j := 2) C dX3_longestAt_80 rfl ?_
              refine d_callV (As := [.int (iI k)]) (rest := []) C hM (C_get_25 (a0 := (sk 25)) (i := k) hW hS tsk25 (by omega) (by show 0 ≤ k ∧ k < iv (sk 25) 2; omega)) dX3_longestAt_82 kV_X3_82 rfl tsk25 rfl rfl (by decide) ck_0 rfl (Nat.le_of_ble_eq_true rfl) ⟨(Nat.le_of_ble_eq_true rfl), (Nat.le_of_ble_eq_true rfl)⟩ hph hph (show 0 + 0 = 0 from rfl) (by decide) (fun rh12 Lh12 clh12 lnh12 ivh12 rvh12 h12 => ?_)
              obtain ⟨f12, rfl, rfl, rfl, rfl, rfl, rfl, rgf12, exf12⟩ := h12
              refine c_st (st2 := [.ref f12]) rfl ?_
              have gf12 : el rv (sk 25) k.toNat = some f12 := exf12
              refine c_cast C ck_6 dX3_longestAt_85 w5_63 w8_169t rgf12 rfl rfl (by decide) ?_
              refine c_astore (lv2 := [(10, .ref f12), (6, (va_rf bs)), (7, .int (iI lg)), (9, .int (iI k)), (8, .int (iI mn3)), (5, .int (iI f10)), (4, .ref (sk 6)), (3, .ref (sk 25)), (0, .ref a0), (1, .int (iI g)), (2, .int (iI i))]) C dX3_longestAt_88 (by decide) rfl ?_
              refine c_aload (j := 0) (x := f12) C dX3_longestAt_90 rfl ?_
              obtain ⟨rb12, rq12, trb12⟩ := hW.ref rgf12 2 rfl rfl rfl
              have lnrb12 : 1 ≤ ln rb12 ∧ ln rb12 ≤ 4 := hW.len trb12 rfl
              refine c_getr (k := 2) C ck_6 dX3_longestAt_92 w3_143 (by decide) rgf12 rfl rfl (by decide) rfl rq12 ?_
              refine c_st (st2 := [.ref rb12]) rfl ?_
              have ll6 : 1 ≤ ln rb12 ∧ ln rb12 ≤ 4 := hW.len trb12 rfl
              refine c_alenI C dX3_longestAt_95 trb12 rfl ?_
              refine c_iload (j := 2) C dX3_longestAt_96 rfl ?_
              refine c_icmp_le (tgt := 126) C ⟨by omega, by omega⟩ ⟨by omega, by omega⟩ dX3_longestAt_98 (by decide) (fun c13 => ?_) (fun c13 => ?_)
              · refine c_iinc (z := k) (j := 3) (lv2 := [(9, .int (iI (k + 1))), (10, .ref f12), (6, (va_rf bs)), (7, .int (iI lg)), (8, .int (iI mn3)), (5, .int (iI f10)), (4, .ref (sk 6)), (3, .ref (sk 25)), (0, .ref a0), (1, .int (iI g)), (2, .int (iI i))]) C dX3_longestAt_126 rfl (by decide) rfl ?_
                refine c_goto (tgt := 56) C dX3_longestAt_129 (by decide) ?_
                refine c_lv (lv2 := [(6, (va_rf bs)), (7, .int (iI lg)), (9, .int (iI (k + 1))), (8, .int (iI mn3)), (5, .int (iI f10)), (4, .ref (sk 6)), (3, .ref (sk 25)), (0, .ref a0), (1, .int (iI g)), (2, .int (iI i))]) [2, 3, 0, 4, 5, 6, 7, 8, 9, 10] rfl ?_
                exact ih3  bs lg (k + 1)  (by omega)  ty_bs (by omega) (by omega)
              · refine c_aload (j := 0) (x := f12) C dX3_longestAt_101 rfl ?_
                refine c_aload_n (j := 8) (x := a0) C dX3_longestAt_103 rfl ?_
                refine c_getr (k := 4) C ck_4 dX3_longestAt_104 w1_198 (by decide) t_a0 rfl rfl (by decide) rfl rq10 ?_
                refine c_st (st2 := [.ref (sk 8), .ref f12]) rfl ?_
                refine c_iload_n (j := 10) C dX3_longestAt_107 rfl ?_
                refine d_callV (As := [.ref (sk 8), .int (iI i)]) (rest := []) C hM (C_standsAt (a0 := f12) (a1 := (sk 8)) (i := i) hW hS rgf12 tsk8 (by omega) ) dX3_longestAt_108 kV_X3_157 rfl rgf12 rfl rfl (by decide) ck_6 rfl (Nat.le_of_ble_eq_true rfl) ⟨(Nat.le_of_ble_eq_true rfl), (Nat.le_of_ble_eq_true rfl)⟩ hph hph (show 0 + 0 = 0 from rfl) (by decide) (fun rh13 Lh13 clh13 lnh13 ivh13 rvh13 h13 => ?_)
                obtain ⟨f13, rfl, rfl, rfl, rfl, rfl, rfl, rgf13, exf13⟩ := h13
                refine c_st (st2 := [.int (iI f13)]) rfl ?_
                refine c_if_eq (tgt := 126) C ⟨by omega, by omega⟩ dX3_longestAt_111 (by decide) (fun c14 => ?_) (fun c14 => ?_)
                · refine c_iinc (z := k) (j := 3) (lv2 := [(9, .int (iI (k + 1))), (10, .ref f12), (6, (va_rf bs)), (7, .int (iI lg)), (8, .int (iI mn3)), (5, .int (iI f10)), (4, .ref (sk 6)), (3, .ref (sk 25)), (0, .ref a0), (1, .int (iI g)), (2, .int (iI i))]) C dX3_longestAt_126 rfl (by decide) rfl ?_
                  refine c_goto (tgt := 56) C dX3_longestAt_129 (by decide) ?_
                  refine c_lv (lv2 := [(6, (va_rf bs)), (7, .int (iI lg)), (9, .int (iI (k + 1))), (8, .int (iI mn3)), (5, .int (iI f10)), (4, .ref (sk 6)), (3, .ref (sk 25)), (0, .ref a0), (1, .int (iI g)), (2, .int (iI i))]) [2, 3, 0, 4, 5, 6, 7, 8, 9, 10] rfl ?_
                  exact ih3  bs lg (k + 1)  (by omega)  ty_bs (by omega) (by omega)
                · refine c_aload (j := 0) (x := f12) C dX3_longestAt_114 rfl ?_
                  refine c_astore (lv2 := [(6, .ref f12), (10, .ref f12), (7, .int (iI lg)), (9, .int (iI k)), (8, .int (iI mn3)), (5, .int (iI f10)), (4, .ref (sk 6)), (3, .ref (sk 25)), (0, .ref a0), (1, .int (iI g)), (2, .int (iI i))]) C dX3_longestAt_116 (by decide) rfl ?_
                  refine c_aload (j := 1) (x := f12) C dX3_longestAt_118 rfl ?_
                  refine c_getr (k := 2) C ck_6 dX3_longestAt_120 w3_143 (by decide) rgf12 rfl rfl (by decide) rfl rq12 ?_
                  refine c_st (st2 := [.ref rb12]) rfl ?_
                  refine c_alenI C dX3_longestAt_123 trb12 rfl ?_
                  refine c_istore (lv2 := [(7, .int (iI ((ln rb12 : Nat) : Int))), (6, .ref f12), (10, .ref f12), (9, .int (iI k)), (8, .int (iI mn3)), (5, .int (iI f10)), (4, .ref (sk 6)), (3, .ref (sk 25)), (0, .ref a0), (1, .int (iI g)), (2, .int (iI i))]) C dX3_longestAt_124 (by decide) rfl ?_
                  refine c_iinc (z := k) (j := 3) (lv2 := [(9, .int (iI (k + 1))), (7, .int (iI ((ln rb12 : Nat) : Int))), (6, .ref f12), (10, .ref f12), (8, .int (iI mn3)), (5, .int (iI f10)), (4, .ref (sk 6)), (3, .ref (sk 25)), (0, .ref a0), (1, .int (iI g)), (2, .int (iI i))]) C dX3_longestAt_126 rfl (by decide) rfl ?_
                  refine c_goto (tgt := 56) C dX3_longestAt_129 (by decide) ?_
                  refine c_lv (lv2 := [(6, .ref f12), (7, .int (iI ((ln rb12 : Nat) : Int))), (9, .int (iI (k + 1))), (8, .int (iI mn3)), (5, .int (iI f10)), (4, .ref (sk 6)), (3, .ref (sk 25)), (0, .ref a0), (1, .int (iI g)), (2, .int (iI i))]) [2, 1, 0, 4, 5, 6, 7, 8, 9, 10] rfl ?_
                  exact ih3  (some f12) ((ln rb12 : Nat) : Int) (k + 1)  (by omega)  (fun _ q => by cases q; exact rgf12) (by omega) (by omega)
            · refine c_goto (tgt := 126) C dX3_longestAt_76 (by decide) ?_
              refine c_iinc (z := k) (j := 2) (lv2 := [(9, .int (iI (k + 1))), (6, (va_rf bs)), (7, .int (iI lg)), (8, .int (iI mn3)), (5, .int (iI f10)), (4, .ref (sk 6)), (3, .ref (sk 25)), (0, .ref a0), (1, .int (iI g)), (2, .int (iI i))]) C dX3_longestAt_126 rfl (by decide) rfl ?_
              refine c_goto (tgt := 56) C dX3_longestAt_129 (by decide) ?_
              refine c_lv (lv2 := [(6, (va_rf bs)), (7, .int (iI lg)), (9, .int (iI (k + 1))), (8, .int (iI mn3)), (5, .int (iI f10)), (4, .ref (sk 6)), (3, .ref (sk 25)), (0, .ref a0), (1, .int (iI g)), (2, .int (iI i))]) [1, 2, 0, 3, 4, 5, 6, 7, 8, 9] rfl ?_
              exact ih3  bs lg (k + 1)  (by omega)  ty_bs (by omega) (by omega)
      refine c_lv (lv2 := [(6, .null), (7, .int (iI 0)), (9, .int (iI 0)), (8, .int (iI mn3)), (5, .int (iI f10)), (4, .ref (sk 6)), (3, .ref (sk 25)), (0, .ref a0), (1, .int (iI g)), (2, .int (iI i))]) [3, 2, 0, 1, 4, 5, 6, 7, 8, 9] rfl ?_
      exact Lp3 6006 none 0 0  (by omega)  (fun _ q => by cases q) (by omega) (by omega)
    · refine c_aload_n (j := 1) (x := a0) C dX3_longestAt_10 rfl ?_
      obtain ⟨rb13, rq13, trb13⟩ := hW.ref t_a0 3 rfl rfl rfl
      have erb13 := hW.sk trb13 (by decide) rfl
      subst erb13
      refine c_getr (k := 3) C ck_4 dX3_longestAt_11 w1_197 (by decide) t_a0 rfl rfl (by decide) rfl rq13 ?_
      refine c_st (st2 := [.ref (sk 7)]) rfl ?_
      refine c_goto (tgt := 21) C dX3_longestAt_14 (by decide) ?_
      refine c_astore (lv2 := [(4, .ref (sk 7)), (3, .ref (sk 25)), (0, .ref a0), (1, .int (iI g)), (2, .int (iI i))]) C dX3_longestAt_21 (by decide) rfl ?_
      refine c_aload_n (j := 2) (x := a0) C dX3_longestAt_23 rfl ?_
      obtain ⟨rb14, rq14, trb14⟩ := hW.ref t_a0 4 rfl rfl rfl
      have erb14 := hW.sk trb14 (by decide) rfl
      subst erb14
      refine c_getr (k := 4) C ck_4 dX3_longestAt_24 w1_198 (by decide) t_a0 rfl rfl (by decide) rfl rq14 ?_
      refine c_st (st2 := [.ref (sk 8)]) rfl ?_
      refine c_iload_n (j := 4) C dX3_longestAt_27 rfl ?_
      have ri13 : 0 ≤ iv (sk 8) 2 ∧ iv (sk 8) 2 ≤ 40200 := hW.int tsk8 2
      refine d_callV (As := [.int (iI i)]) (rest := []) C hM (C_at_8 (a0 := (sk 8)) (i := i) hW hS tsk8 (by omega) ) dX3_longestAt_28 kV_X3_119 rfl tsk8 rfl rfl (by decide) ck_2 rfl (Nat.le_of_ble_eq_true rfl) ⟨(Nat.le_of_ble_eq_true rfl), (Nat.le_of_ble_eq_true rfl)⟩ hph hph (show 0 + 0 = 0 from rfl) (by decide) (fun rh14 Lh14 clh14 lnh14 ivh14 rvh14 h14 => ?_)
      obtain ⟨f14, rfl, rfl, rfl, rfl, rfl, rfl, rgf14, exf14⟩ := h14
      refine c_st (st2 := [.int (iI f14)]) rfl ?_
      have gf14 : ((0 ≤ i ∧ i < iv (sk 8) 2) ∨ f14 = 0) ∧ ∀ ss, CT iv rv (sk 8) ss → 0 ≤ i → i < iv (sk 8) 2 → f14 = ss i.toNat := exf14
      refine c_istore (lv2 := [(5, .int (iI f14)), (4, .ref (sk 7)), (3, .ref (sk 25)), (0, .ref a0), (1, .int (iI g)), (2, .int (iI i))]) C dX3_longestAt_31 (by decide) rfl ?_
      refine c_null C dX3_longestAt_33 ?_
      refine c_astorer (r := none) (lv2 := [(6, .null), (5, .int (iI f14)), (4, .ref (sk 7)), (3, .ref (sk 25)), (0, .ref a0), (1, .int (iI g)), (2, .int (iI i))]) C dX3_longestAt_34 (by decide) rfl ?_
      refine c_iconst C dX3_longestAt_36 ?_
      refine c_istore (lv2 := [(7, .int (iI 0)), (6, .null), (5, .int (iI f14)), (4, .ref (sk 7)), (3, .ref (sk 25)), (0, .ref a0), (1, .int (iI g)), (2, .int (iI i))]) C dX3_longestAt_37 (by decide) rfl ?_
      refine c_aload (j := 3) (x := (sk 7)) C dX3_longestAt_39 rfl ?_
      have ri14 : 0 ≤ iv (sk 7) 2 ∧ iv (sk 7) 2 ≤ 6003 := hW.int tsk7 2
      refine c_get (k := 2) C ck_2 dX3_longestAt_41 w1_49 (by decide) tsk7 rfl rfl (by decide) rfl ?_
      refine c_aload_n (j := 4) (x := (sk 25)) C dX3_longestAt_44 rfl ?_
      have ri15 : 0 ≤ iv (sk 25) 2 ∧ iv (sk 25) 2 ≤ 6003 := hW.int tsk25 2
      refine d_callV (As := []) (rest := [.int (iI (iv (sk 7) 2))]) C hM (C_size_25 (a0 := (sk 25)) hW hS tsk25  ) dX3_longestAt_45 kV_X3_78 rfl tsk25 rfl rfl (by decide) ck_0 rfl (Nat.le_of_ble_eq_true rfl) ⟨(Nat.le_of_ble_eq_true rfl), (Nat.le_of_ble_eq_true rfl)⟩ hph hph (show 0 + 0 = 0 from rfl) (by decide) (fun rh15 Lh15 clh15 lnh15 ivh15 rvh15 h15 => ?_)
      obtain ⟨f15, rfl, rfl, rfl, rfl, rfl, rfl, rgf15, exf15⟩ := h15
      refine c_st (st2 := [.int (iI f15), .int (iI (iv (sk 7) 2))]) rfl ?_
      have gf15 : f15 = iv (sk 25) 2 := exf15
      obtain ⟨mn4, hmn4, emn4⟩ := mmin_c (x := iv (sk 7) 2) (y := f15) ⟨by omega, by omega⟩ ⟨by omega, by omega⟩
      refine c_mmin (w := iI mn4) C dX3_longestAt_48 w5_88 w2_129 w1_14 w2_130 (by decide) (rom0 hph hph (by decide)) (Nat.le_of_ble_eq_true rfl) emn4 ?_
      refine c_istore (lv2 := [(8, .int (iI mn4)), (7, .int (iI 0)), (6, .null), (5, .int (iI f14)), (4, .ref (sk 7)), (3, .ref (sk 25)), (0, .ref a0), (1, .int (iI g)), (2, .int (iI i))]) C dX3_longestAt_51 (by decide) rfl ?_
      refine c_iconst C dX3_longestAt_53 ?_
      refine c_istore (lv2 := [(9, .int (iI 0)), (8, .int (iI mn4)), (7, .int (iI 0)), (6, .null), (5, .int (iI f14)), (4, .ref (sk 7)), (3, .ref (sk 25)), (0, .ref a0), (1, .int (iI g)), (2, .int (iI i))]) C dX3_longestAt_54 (by decide) rfl ?_
      have Lp4 : ∀ (nn : Nat) (bs : Option Nat) (lg k : Int) , 6004 - k < (nn : Int) → (∀ b, bs = some b → ty L cl b 20) → (0 ≤ lg ∧ lg ≤ 4) → (0 ≤ k ∧ k ≤ 6003) → cw p l e 3 ((PHM) + 0 - ((Phi (g0 G) sk) ln rv)) s m args below meth c G A 11 (MQ below (Qu G A (Qp G (Phi (g0 G) sk) ((Phi (g0 G) sk) ln rv) 0 (fun v L2 cl2 ln2 iv2 rv2 => ∃ f : Option Nat, v = some ((va_rf f)) ∧ L = L2 ∧ cl = cl2 ∧ ln = ln2 ∧ iv = iv2 ∧ rv = rv2 ∧ (∀ b, f = some b → ty L2 cl2 b 20) ∧ (True)))) args s (((PHM) + 0 - ((Phi (g0 G) sk) ln rv)) / 16) ((PHM) + 0 - ((Phi (g0 G) sk) ln rv)) A) (Phi (g0 G) sk) ((Phi (g0 G) sk) ln rv) L cl ln iv rv 0 56 [(6, (va_rf bs)), (7, .int (iI lg)), (9, .int (iI k)), (8, .int (iI mn4)), (5, .int (iI f14)), (4, .ref (sk 7)), (3, .ref (sk 25)), (0, .ref a0), (1, .int (iI g)), (2, .int (iI i))] [] := by
        intro nn
        induction nn with
        | zero =>
          intro bs lg k  hm  ty_bs hlg hk
          exact absurd hm (by omega)
        | succ nn ih4 =>
          intro bs lg k  hm  ty_bs hlg hk
          refine c_iload (j := 2) C dX3_longestAt_56 rfl ?_
          refine c_iload (j := 3) C dX3_longestAt_58 rfl ?_
          refine c_icmp_ge (tgt := 132) C ⟨by omega, by omega⟩ ⟨by omega, by omega⟩ dX3_longestAt_60 (by decide) (fun c15 => ?_) (fun c15 => ?_)
          · refine c_aloadr (j := 0) (r := bs) C dX3_longestAt_132 rfl ?_
            exact c_aret (x := bs) C dX3_longestAt_134 rfl (Or.inl ⟨_, rfl⟩) (by decide) (rom0 hph hph (by decide)) ⟨bs, rfl, rfl, rfl, rfl, rfl, rfl, ty_bs, trivial⟩
          · refine c_aload (j := 5) (x := (sk 7)) C dX3_longestAt_63 rfl ?_
            obtain ⟨rb15, rq15, trb15⟩ := hW.ref tsk7 1 rfl rfl rfl
            have lnrb15 : 16 ≤ ln rb15 ∧ ln rb15 ≤ 12006 := hW.len trb15 rfl
            have szrb15 := hW.isz tsk7 rfl rfl rq15
            refine c_getr (k := 1) C ck_2 dX3_longestAt_65 w1_41 (by decide) tsk7 rfl rfl (by decide) rfl rq15 ?_
            refine c_st (st2 := [.ref rb15]) rfl ?_
            refine c_iload (j := 2) C dX3_longestAt_68 rfl ?_
            have ll7 : 16 ≤ ln rb15 ∧ ln rb15 ≤ 12006 := hW.len trb15 rfl
            refine c_iald C dX3_longestAt_70 trb15 rfl (by omega) (by omega) (by omega) ?_
            have ri16 : (-2147483648) ≤ iv rb15 k.toNat ∧ iv rb15 k.toNat ≤ 2147483647 := hW.int trb15 k.toNat
            refine c_iload (j := 4) C dX3_longestAt_71 rfl ?_
            refine c_icmp_eq (tgt := 79) C ⟨by omega, by omega⟩ ⟨by omega, by omega⟩ dX3_longestAt_73 (by decide) (fun c16 => ?_) (fun c16 => ?_)
            · refine c_aload_n (j := 6) (x := (sk 25)) C dX3_longestAt_79 rfl ?_
              refine c_iload (j := 2) C dX3_longestAt_80 rfl ?_
              refine d_callV (As := [.int (iI k)]) (rest := []) C hM (C_get_25 (a0 := (sk 25)) (i := k) hW hS tsk25 (by omega) (by show 0 ≤ k ∧ k < iv (sk 25) 2; omega)) dX3_longestAt_82 kV_X3_82 rfl tsk25 rfl rfl (by decide) ck_0 rfl (Nat.le_of_ble_eq_true rfl) ⟨(Nat.le_of_ble_eq_true rfl), (Nat.le_of_ble_eq_true rfl)⟩ hph hph (show 0 + 0 = 0 from rfl) (by decide) (fun rh16 Lh16 clh16 lnh16 ivh16 rvh16 h16 => ?_)
              obtain ⟨f16, rfl, rfl, rfl, rfl, rfl, rfl, rgf16, exf16⟩ := h16
              refine c_st (st2 := [.ref f16]) rfl ?_
              have gf16 : el rv (sk 25) k.toNat = some f16 := exf16
              refine c_cast C ck_6 dX3_longestAt_85 w5_63 w8_169t rgf16 rfl rfl (by decide) ?_
              refine c_astore (lv2 := [(10, .ref f16), (6, (va_rf bs)), (7, .int (iI lg)), (9, .int (iI k)), (8, .int (iI mn4)), (5, .int (iI f14)), (4, .ref (sk 7)), (3, .ref (sk 25)), (0, .ref a0), (1, .int (iI g)), (2, .int (iI i))]) C dX3_longestAt_88 (by decide) rfl ?_
              refine c_aload (j := 0) (x := f16) C dX3_longestAt_90 rfl ?_
              obtain ⟨rb16, rq16, trb16⟩ := hW.ref rgf16 2 rfl rfl rfl
              have lnrb16 : 1 ≤ ln rb16 ∧ ln rb16 ≤ 4 := hW.len trb16 rfl
              refine c_getr (k := 2) C ck_6 dX3_longestAt_92 w3_143 (by decide) rgf16 rfl rfl (by decide) rfl rq16 ?_
              refine c_st (st2 := [.ref rb16]) rfl ?_
              have ll8 : 1 ≤ ln rb16 ∧ ln rb16 ≤ 4 := hW.len trb16 rfl
              refine c_alenI C dX3_longestAt_95 trb16 rfl ?_
              refine c_iload (j := 2) C dX3_longestAt_96 rfl ?_
              refine c_icmp_le (tgt := 126) C ⟨by omega, by omega⟩ ⟨by omega, by omega⟩ dX3_longestAt_98 (by decide) (fun c17 => ?_) (fun c17 => ?_)
              · refine c_iinc (z := k) (j := 3) (lv2 := [(9, .int (iI (k + 1))), (10, .ref f16), (6, (va_rf bs)), (7, .int (iI lg)), (8, .int (iI mn4)), (5, .int (iI f14)), (4, .ref (sk 7)), (3, .ref (sk 25)), (0, .ref a0), (1, .int (iI g)), (2, .int (iI i))]) C dX3_longestAt_126 rfl (by decide) rfl ?_
                refine c_goto (tgt := 56) C dX3_longestAt_129 (by decide) ?_
                refine c_lv (lv2 := [(6, (va_rf bs)), (7, .int (iI lg)), (9, .int (iI (k + 1))), (8, .int (iI mn4)), (5, .int (iI f14)), (4, .ref (sk 7)), (3, .ref (sk 25)), (0, .ref a0), (1, .int (iI g)), (2, .int (iI i))]) [2, 3, 0, 4, 5, 6, 7, 8, 9, 10] rfl ?_
                exact ih4  bs lg (k + 1)  (by omega)  ty_bs (by omega) (by omega)
              · refine c_aload (j := 0) (x := f16) C dX3_longestAt_101 rfl ?_
                refine c_aload_n (j := 8) (x := a0) C dX3_longestAt_103 rfl ?_
                refine c_getr (k := 4) C ck_4 dX3_longestAt_104 w1_198 (by decide) t_a0 rfl rfl (by decide) rfl rq14 ?_
                refine c_st (st2 := [.ref (sk 8), .ref f16]) rfl ?_
                refine c_iload_n (j := 10) C dX3_longestAt_107 rfl ?_
                refine d_callV (As := [.ref (sk 8), .int (iI i)]) (rest := []) C hM (C_standsAt (a0 := f16) (a1 := (sk 8)) (i := i) hW hS rgf16 tsk8 (by omega) ) dX3_longestAt_108 kV_X3_157 rfl rgf16 rfl rfl (by decide) ck_6 rfl (Nat.le_of_ble_eq_true rfl) ⟨(Nat.le_of_ble_eq_true rfl), (Nat.le_of_ble_eq_true rfl)⟩ hph hph (show 0 + 0 = 0 from rfl) (by decide) (fun rh17 Lh17 clh17 lnh17 ivh17 rvh17 h17 => ?_)
                obtain ⟨f17, rfl, rfl, rfl, rfl, rfl, rfl, rgf17, exf17⟩ := h17
                refine c_st (st2 := [.int (iI f17)]) rfl ?_
                refine c_if_eq (tgt := 126) C ⟨by omega, by omega⟩ dX3_longestAt_111 (by decide) (fun c18 => ?_) (fun c18 => ?_)
                · refine c_iinc (z := k) (j := 3) (lv2 := [(9, .int (iI (k + 1))), (10, .ref f16), (6, (va_rf bs)), (7, .int (iI lg)), (8, .int (iI mn4)), (5, .int (iI f14)), (4, .ref (sk 7)), (3, .ref (sk 25)), (0, .ref a0), (1, .int (iI g)), (2, .int (iI i))]) C dX3_longestAt_126 rfl (by decide) rfl ?_
                  refine c_goto (tgt := 56) C dX3_longestAt_129 (by decide) ?_
                  refine c_lv (lv2 := [(6, (va_rf bs)), (7, .int (iI lg)), (9, .int (iI (k + 1))), (8, .int (iI mn4)), (5, .int (iI f14)), (4, .ref (sk 7)), (3, .ref (sk 25)), (0, .ref a0), (1, .int (iI g)), (2, .int (iI i))]) [2, 3, 0, 4, 5, 6, 7, 8, 9, 10] rfl ?_
                  exact ih4  bs lg (k + 1)  (by omega)  ty_bs (by omega) (by omega)
                · refine c_aload (j := 0) (x := f16) C dX3_longestAt_114 rfl ?_
                  refine c_astore (lv2 := [(6, .ref f16), (10, .ref f16), (7, .int (iI lg)), (9, .int (iI k)), (8, .int (iI mn4)), (5, .int (iI f14)), (4, .ref (sk 7)), (3, .ref (sk 25)), (0, .ref a0), (1, .int (iI g)), (2, .int (iI i))]) C dX3_longestAt_116 (by decide) rfl ?_
                  refine c_aload (j := 1) (x := f16) C dX3_longestAt_118 rfl ?_
                  refine c_getr (k := 2) C ck_6 dX3_longestAt_120 w3_143 (by decide) rgf16 rfl rfl (by decide) rfl rq16 ?_
                  refine c_st (st2 := [.ref rb16]) rfl ?_
                  refine c_alenI C dX3_longestAt_123 trb16 rfl ?_
                  refine c_istore (lv2 := [(7, .int (iI ((ln rb16 : Nat) : Int))), (6, .ref f16), (10, .ref f16), (9, .int (iI k)), (8, .int (iI mn4)), (5, .int (iI f14)), (4, .ref (sk 7)), (3, .ref (sk 25)), (0, .ref a0), (1, .int (iI g)), (2, .int (iI i))]) C dX3_longestAt_124 (by decide) rfl ?_
                  refine c_iinc (z := k) (j := 3) (lv2 := [(9, .int (iI (k + 1))), (7, .int (iI ((ln rb16 : Nat) : Int))), (6, .ref f16), (10, .ref f16), (8, .int (iI mn4)), (5, .int (iI f14)), (4, .ref (sk 7)), (3, .ref (sk 25)), (0, .ref a0), (1, .int (iI g)), (2, .int (iI i))]) C dX3_longestAt_126 rfl (by decide) rfl ?_
                  refine c_goto (tgt := 56) C dX3_longestAt_129 (by decide) ?_
                  refine c_lv (lv2 := [(6, .ref f16), (7, .int (iI ((ln rb16 : Nat) : Int))), (9, .int (iI (k + 1))), (8, .int (iI mn4)), (5, .int (iI f14)), (4, .ref (sk 7)), (3, .ref (sk 25)), (0, .ref a0), (1, .int (iI g)), (2, .int (iI i))]) [2, 1, 0, 4, 5, 6, 7, 8, 9, 10] rfl ?_
                  exact ih4  (some f16) ((ln rb16 : Nat) : Int) (k + 1)  (by omega)  (fun _ q => by cases q; exact rgf16) (by omega) (by omega)
            · refine c_goto (tgt := 126) C dX3_longestAt_76 (by decide) ?_
              refine c_iinc (z := k) (j := 2) (lv2 := [(9, .int (iI (k + 1))), (6, (va_rf bs)), (7, .int (iI lg)), (8, .int (iI mn4)), (5, .int (iI f14)), (4, .ref (sk 7)), (3, .ref (sk 25)), (0, .ref a0), (1, .int (iI g)), (2, .int (iI i))]) C dX3_longestAt_126 rfl (by decide) rfl ?_
              refine c_goto (tgt := 56) C dX3_longestAt_129 (by decide) ?_
              refine c_lv (lv2 := [(6, (va_rf bs)), (7, .int (iI lg)), (9, .int (iI (k + 1))), (8, .int (iI mn4)), (5, .int (iI f14)), (4, .ref (sk 7)), (3, .ref (sk 25)), (0, .ref a0), (1, .int (iI g)), (2, .int (iI i))]) [1, 2, 0, 3, 4, 5, 6, 7, 8, 9] rfl ?_
              exact ih4  bs lg (k + 1)  (by omega)  ty_bs (by omega) (by omega)
      refine c_lv (lv2 := [(6, .null), (7, .int (iI 0)), (9, .int (iI 0)), (8, .int (iI mn4)), (5, .int (iI f14)), (4, .ref (sk 7)), (3, .ref (sk 25)), (0, .ref a0), (1, .int (iI g)), (2, .int (iI i))]) [3, 2, 0, 1, 4, 5, 6, 7, 8, 9] rfl ?_
      exact Lp4 6006 none 0 0  (by omega)  (fun _ q => by cases q) (by omega) (by omega)
set_option maxHeartbeats 4000000 in
set_option maxRecDepth 100000 in
theorem C_decodeWord {l : Launch} {G : GT} {mi : Nat} {sk : Nat → Nat} {L : List Nat} {cl ln : Nat → Nat} {iv : Nat → Nat → Int} {rv : Nat → Nat → Option Nat}  {a0 : Nat} {i : Int} (hW : WT (g0 G) sk L cl ln iv rv) (hS : SKL sk L cl) (t_a0 : ty L cl a0 16) (h_i : -2147483648 ≤ i ∧ i ≤ 2147483647) (hi : 0 ≤ i ∧ i ≤ 40200) : Mc l G mi (Phi (g0 G) sk) PHM yX3_decodeWord cX3_decodeWord 6 (some .int) 4 [.ref a0, .int (iI i)] L cl ln iv rv 0 (fun v L2 cl2 ln2 iv2 rv2 => ∃ f : Int, v = some (.int (iI f)) ∧ XT L cl ln L2 cl2 ln2 ∧ fT [16, 10, 40] L cl iv rv iv2 rv2 ∧ WT (g0 G) sk L2 cl2 ln2 iv2 rv2 ∧ (-2147483648 ≤ f ∧ f ≤ 2147483647) ∧ (f ≤ 40210)) := by
  refine Mc.mk (by decide) (Nat.le_of_ble_eq_true rfl) ?_
  intro p e s m args below meth c A C hM
  have hph := Phi.le hW hS
  have tsk6 : ty L cl (sk 6) 6 := ⟨(hS 6 rfl).1, by rw [(hS 6 rfl).2]; rfl⟩
  have tsk7 : ty L cl (sk 7) 7 := ⟨(hS 7 rfl).1, by rw [(hS 7 rfl).2]; rfl⟩
  have tsk8 : ty L cl (sk 8) 8 := ⟨(hS 8 rfl).1, by rw [(hS 8 rfl).2]; rfl⟩
  have tsk9 : ty L cl (sk 9) 9 := ⟨(hS 9 rfl).1, by rw [(hS 9 rfl).2]; rfl⟩
  have tsk10 : ty L cl (sk 10) 10 := ⟨(hS 10 rfl).1, by rw [(hS 10 rfl).2]; rfl⟩
  have tsk24 : ty L cl (sk 24) 24 := ⟨(hS 24 rfl).1, by rw [(hS 24 rfl).2]; rfl⟩
  have tsk25 : ty L cl (sk 25) 25 := ⟨(hS 25 rfl).1, by rw [(hS 25 rfl).2]; rfl⟩
  have hX0 : XT L cl ln L cl ln := XT.refl
  have hF0 : fT [16, 10, 40] L cl iv rv iv rv := fT.refl
  refine c_iconst C dX3_decodeWord_0 ?_
  refine c_istore_n (lv2 := [(2, .int (iI 0)), (0, .ref a0), (1, .int (iI i))]) C dX3_decodeWord_1 (by decide) rfl ?_
  refine c_iconst C dX3_decodeWord_2 ?_
  refine c_istore_n (lv2 := [(3, .int (iI 0)), (2, .int (iI 0)), (0, .ref a0), (1, .int (iI i))]) C dX3_decodeWord_3 (by decide) rfl ?_
  refine c_iload_n (j := 3) C dX3_decodeWord_4 rfl ?_
  refine c_istore (lv2 := [(4, .int (iI i)), (3, .int (iI 0)), (2, .int (iI 0)), (0, .ref a0), (1, .int (iI i))]) C dX3_decodeWord_5 (by decide) rfl ?_
  have Lp1 : ∀ (nn : Nat) (sc gr aq : Int) (Lb1 : List Nat) (clb1 lnb1 : Nat → Nat) (ivb1 : Nat → Nat → Int) (rvb1 : Nat → Nat → Option Nat) , 40205 - aq < (nn : Int) → XT L cl ln Lb1 clb1 lnb1 → WT (g0 G) sk Lb1 clb1 lnb1 ivb1 rvb1 → fT [16, 10, 40] L cl iv rv ivb1 rvb1 → (sc = 0 ∨ sc = 1) → (gr = 0 ∨ gr = 1) → (0 ≤ aq ∧ aq ≤ 40204) → cw p l e 4 ((PHM) + 0 - ((Phi (g0 G) sk) ln rv)) s m args below meth c G A 6 (MQ below (Qu G A (Qp G (Phi (g0 G) sk) ((Phi (g0 G) sk) ln rv) 0 (fun v L2 cl2 ln2 iv2 rv2 => ∃ f : Int, v = some (.int (iI f)) ∧ XT L cl ln L2 cl2 ln2 ∧ fT [16, 10, 40] L cl iv rv iv2 rv2 ∧ WT (g0 G) sk L2 cl2 ln2 iv2 rv2 ∧ (-2147483648 ≤ f ∧ f ≤ 2147483647) ∧ (f ≤ 40210)))) args s (((PHM) + 0 - ((Phi (g0 G) sk) ln rv)) / 16) ((PHM) + 0 - ((Phi (g0 G) sk) ln rv)) A) (Phi (g0 G) sk) ((Phi (g0 G) sk) ln rv) Lb1 clb1 lnb1 ivb1 rvb1 0 7 [(2, .int (iI sc)), (3, .int (iI gr)), (4, .int (iI aq)), (0, .ref a0), (1, .int (iI i))] [] := by
    intro nn
    induction nn with
    | zero =>
      intro  sc gr aq Lb1 clb1 lnb1 ivb1 rvb1 hm Xb1 Wb1 Fb1  hsc hgr haq
      have skb1 := Xb1.skl hS
      exact absurd hm (by omega)
    | succ nn ih1 =>
      intro  sc gr aq Lb1 clb1 lnb1 ivb1 rvb1 hm Xb1 Wb1 Fb1  hsc hgr haq
      have skb1 := Xb1.skl hS
      refine c_iload (j := 2) C dX3_decodeWord_7 rfl ?_
      refine c_aload_n (j := 3) (x := a0) C dX3_decodeWord_9 rfl ?_
      have ty1 := Xb1.ty t_a0
      obtain ⟨rb1, rq1, trb1⟩ := Wb1.ref ty1 4 rfl rfl rfl
      have erb1 := Wb1.sk trb1 (by decide) rfl
      subst erb1
      refine c_getr (k := 4) C ck_4 dX3_decodeWord_10 w1_198 (by decide) ty1 rfl rfl (by decide) rfl rq1 ?_
      refine c_st (st2 := [.ref (sk 8), .int (iI aq)]) rfl ?_
      have ty2 := Xb1.ty tsk8
      have ri1 : 0 ≤ ivb1 (sk 8) 2 ∧ ivb1 (sk 8) 2 ≤ 40200 := Wb1.int ty2 2
      have ie1 : ivb1 (sk 8) 2 = iv (sk 8) 2 := Fb1.i tsk8 rfl 2
      refine c_get (k := 2) C ck_2 dX3_decodeWord_13 w1_49 (by decide) ty2 rfl rfl (by decide) rfl ?_
      refine c_icmp_ge (tgt := 158) C ⟨by omega, by omega⟩ ⟨by omega, by omega⟩ dX3_decodeWord_16 (by decide) (fun c1 => ?_) (fun c1 => ?_)
      · refine c_aload_n (j := 3) (x := a0) C dX3_decodeWord_158 rfl ?_
        refine c_iload (j := 2) C dX3_decodeWord_159 rfl ?_
        refine c_put (z := aq) (k := 7) C ck_4 dX3_decodeWord_161 w1_202 (by decide) rfl ty1 rfl rfl (by decide) rfl (by rfl) (by rfl) (fun iv1 pq1 => ?_)
        have W1 := Wb1.puti pq1 ty1 (show (-2147483648) ≤ aq ∧ aq ≤ 2147483647 by omega) rfl
        have F1 := Fb1.puti Xb1 pq1 ty1 rfl
        refine c_iload_n (j := 1) C dX3_decodeWord_164 rfl ?_
        refine c_if_eq (tgt := 172) C ⟨by omega, by omega⟩ dX3_decodeWord_165 (by decide) (fun c2 => ?_) (fun c2 => ?_)
        · refine c_iload (j := 2) C dX3_decodeWord_172 rfl ?_
          have pl1 := Phi.le W1 skb1
          exact c_iret C dX3_decodeWord_174 rfl (by decide) (rom0 hph pl1 (by decide)) ⟨aq, rfl, Xb1, F1, W1, ⟨by omega, by omega⟩, (by omega)⟩
        · refine c_iconst C dX3_decodeWord_168 ?_
          refine c_goto (tgt := 174) C dX3_decodeWord_169 (by decide) ?_
          have pl2 := Phi.le W1 skb1
          exact c_iret C dX3_decodeWord_174 rfl (by decide) (rom0 hph pl2 (by decide)) ⟨(-1), rfl, Xb1, F1, W1, ⟨by decide, by decide⟩, (by omega)⟩
      · refine c_aload_n (j := 3) (x := a0) C dX3_decodeWord_19 rfl ?_
        refine c_getr (k := 4) C ck_4 dX3_decodeWord_20 w1_198 (by decide) ty1 rfl rfl (by decide) rfl rq1 ?_
        refine c_st (st2 := [.ref (sk 8)]) rfl ?_
        refine c_iload (j := 2) C dX3_decodeWord_23 rfl ?_
        have pl3 := Phi.le Wb1 skb1
        refine d_callV (As := [.int (iI aq)]) (rest := []) C hM (C_at_8 (a0 := (sk 8)) (i := aq) Wb1 skb1 ty2 (by omega) ) dX3_decodeWord_25 kV_X3_119 rfl ty2 rfl rfl (by decide) ck_2 rfl (Nat.le_of_ble_eq_true rfl) ⟨(Nat.le_of_ble_eq_true rfl), (Nat.le_of_ble_eq_true rfl)⟩ hph pl3 (show 0 + 0 = 0 from rfl) (by decide) (fun rh1 Lh1 clh1 lnh1 ivh1 rvh1 h1 => ?_)
        obtain ⟨f1, rfl, rfl, rfl, rfl, rfl, rfl, rgf1, exf1⟩ := h1
        refine c_st (st2 := [.int (iI f1)]) rfl ?_
        have gf1 : ((0 ≤ aq ∧ aq < ivb1 (sk 8) 2) ∨ f1 = 0) ∧ ∀ ss, CT ivb1 rvb1 (sk 8) ss → 0 ≤ aq → aq < ivb1 (sk 8) 2 → f1 = ss aq.toNat := exf1
        refine c_if_eq (tgt := 158) C ⟨by omega, by omega⟩ dX3_decodeWord_28 (by decide) (fun c3 => ?_) (fun c3 => ?_)
        · refine c_aload_n (j := 3) (x := a0) C dX3_decodeWord_158 rfl ?_
          refine c_iload (j := 2) C dX3_decodeWord_159 rfl ?_
          refine c_put (z := aq) (k := 7) C ck_4 dX3_decodeWord_161 w1_202 (by decide) rfl ty1 rfl rfl (by decide) rfl (by rfl) (by rfl) (fun iv2 pq2 => ?_)
          have W3 := Wb1.puti pq2 ty1 (show (-2147483648) ≤ aq ∧ aq ≤ 2147483647 by omega) rfl
          have F2 := Fb1.puti Xb1 pq2 ty1 rfl
          refine c_iload_n (j := 1) C dX3_decodeWord_164 rfl ?_
          refine c_if_eq (tgt := 172) C ⟨by omega, by omega⟩ dX3_decodeWord_165 (by decide) (fun c4 => ?_) (fun c4 => ?_)
          · refine c_iload (j := 2) C dX3_decodeWord_172 rfl ?_
            exact c_iret C dX3_decodeWord_174 rfl (by decide) (rom0 hph pl3 (by decide)) ⟨aq, rfl, Xb1, F2, W3, ⟨by omega, by omega⟩, (by omega)⟩
          · refine c_iconst C dX3_decodeWord_168 ?_
            refine c_goto (tgt := 174) C dX3_decodeWord_169 (by decide) ?_
            exact c_iret C dX3_decodeWord_174 rfl (by decide) (rom0 hph pl3 (by decide)) ⟨(-1), rfl, Xb1, F2, W3, ⟨by decide, by decide⟩, (by omega)⟩
        · refine c_aload_n (j := 3) (x := a0) C dX3_decodeWord_31 rfl ?_
          refine c_iload_n (j := 0) C dX3_decodeWord_32 rfl ?_
          refine c_iload (j := 2) C dX3_decodeWord_33 rfl ?_
          refine d_callV (As := [.int (iI sc), .int (iI aq)]) (rest := []) C hM (C_longestAt (a0 := a0) (g := sc) (i := aq) Wb1 skb1 ty1 (by omega) (by omega) ) dX3_decodeWord_35 kV_X3_126 rfl ty1 rfl rfl (by decide) ck_4 rfl (Nat.le_of_ble_eq_true rfl) ⟨(Nat.le_of_ble_eq_true rfl), (Nat.le_of_ble_eq_true rfl)⟩ hph pl3 (show 0 + 0 = 0 from rfl) (by decide) (fun rh2 Lh2 clh2 lnh2 ivh2 rvh2 h2 => ?_)
          obtain ⟨f2, rfl, rfl, rfl, rfl, rfl, rfl, rgf2, exf2⟩ := h2
          refine c_st (st2 := [(va_rf f2)]) rfl ?_
          refine c_astorer (r := f2) (lv2 := [(5, (va_rf f2)), (2, .int (iI sc)), (3, .int (iI gr)), (4, .int (iI aq)), (0, .ref a0), (1, .int (iI i))]) C dX3_decodeWord_38 (by decide) rfl ?_
          refine c_aloadr (j := 0) (r := f2) C dX3_decodeWord_40 rfl ?_
          refine c_ifnull (r := f2) (tgt := 57) C dX3_decodeWord_42 (by decide) (fun oq1 => ?_) (fun ob1 oq1 => ?_)
          · subst oq1
            refine c_lv (lv2 := [(5, .null), (2, .int (iI sc)), (3, .int (iI gr)), (4, .int (iI aq)), (0, .ref a0), (1, .int (iI i))]) [0, 1, 2, 3, 4, 5] rfl ?_
            refine c_st (st2 := []) rfl ?_
            refine c_aload_n (j := 4) (x := a0) C dX3_decodeWord_57 rfl ?_
            refine c_iload (j := 3) C dX3_decodeWord_58 rfl ?_
            refine c_put (z := aq) (k := 7) C ck_4 dX3_decodeWord_60 w1_202 (by decide) rfl ty1 rfl rfl (by decide) rfl (by rfl) (by rfl) (fun iv3 pq3 => ?_)
            have W5 := Wb1.puti pq3 ty1 (show (-2147483648) ≤ aq ∧ aq ≤ 2147483647 by omega) rfl
            have F3 := Fb1.puti Xb1 pq3 ty1 rfl
            refine c_iconst C dX3_decodeWord_63 ?_
            exact c_iret C dX3_decodeWord_64 rfl (by decide) (rom0 hph pl3 (by decide)) ⟨(-1), rfl, Xb1, F3, W5, ⟨by decide, by decide⟩, (by omega)⟩
          · subst oq1
            have tob1 := rgf2 ob1 rfl
            refine c_lv (lv2 := [(5, .ref ob1), (2, .int (iI sc)), (3, .int (iI gr)), (4, .int (iI aq)), (0, .ref a0), (1, .int (iI i))]) [0, 1, 2, 3, 4, 5] rfl ?_
            refine c_st (st2 := []) rfl ?_
            refine c_iload_n (j := 2) C dX3_decodeWord_45 rfl ?_
            refine c_if_eq (tgt := 65) C ⟨by omega, by omega⟩ dX3_decodeWord_46 (by decide) (fun c5 => ?_) (fun c5 => ?_)
            · refine c_aload (j := 0) (x := ob1) C dX3_decodeWord_65 rfl ?_
              have ri2 : (-2147483648) ≤ ivb1 ob1 0 ∧ ivb1 ob1 0 ≤ 2147483647 := Wb1.int tob1 0
              refine c_get (k := 0) C ck_6 dX3_decodeWord_67 w3_137 (by decide) tob1 rfl rfl (by decide) rfl ?_
              refine c_iconst C dX3_decodeWord_70 ?_
              refine c_icmp_eq (tgt := 83) C ⟨by omega, by omega⟩ ⟨by decide, by decide⟩ dX3_decodeWord_71 (by decide) (fun c6 => ?_) (fun c6 => ?_)
              · refine c_aload (j := 0) (x := ob1) C dX3_decodeWord_83 rfl ?_
                refine c_get (k := 0) C ck_6 dX3_decodeWord_85 w3_137 (by decide) tob1 rfl rfl (by decide) rfl ?_
                refine c_iconst C dX3_decodeWord_88 ?_
                refine c_icmp_ne (tgt := 96) C ⟨by omega, by omega⟩ ⟨by decide, by decide⟩ dX3_decodeWord_89 (by decide) (fun c7 => ?_) (fun c7 => ?_)
                · refine c_iconst C dX3_decodeWord_96 ?_
                  refine c_istore_n (lv2 := [(2, .int (iI 0)), (5, .ref ob1), (3, .int (iI gr)), (4, .int (iI aq)), (0, .ref a0), (1, .int (iI i))]) C dX3_decodeWord_97 (by decide) rfl ?_
                  refine c_aload_n (j := 4) (x := a0) C dX3_decodeWord_98 rfl ?_
                  obtain ⟨rb2, rq2, trb2⟩ := Wb1.ref ty1 6 rfl rfl rfl
                  have erb2 := Wb1.sk trb2 (by decide) rfl
                  subst erb2
                  refine c_getr (k := 6) C ck_4 dX3_decodeWord_99 w1_200 (by decide) ty1 rfl rfl (by decide) rfl rq2 ?_
                  refine c_st (st2 := [.ref (sk 10)]) rfl ?_
                  refine c_iload_n (j := 0) C dX3_decodeWord_102 rfl ?_
                  refine c_if_eq (tgt := 111) C ⟨by decide, by decide⟩ dX3_decodeWord_103 (by decide) (fun _ => ?_) (fun z => absurd z (by omega))
                  refine c_bipush (z := 62) C dX3_decodeWord_111 (by decide) ?_
                  have ty3 := Xb1.ty tsk10
                  have ri3 : 0 ≤ ivb1 (sk 10) 2 ∧ ivb1 (sk 10) 2 ≤ 4001 := Wb1.int ty3 2
                  refine d_callV (As := [.int (iI 62)]) (rest := []) C hM (C_add_10 (a0 := (sk 10)) (x := 62) Wb1 skb1 ty3 ⟨by decide, by decide⟩ ) dX3_decodeWord_113 kV_X3_91 rfl ty3 rfl rfl (by decide) ck_2 rfl (Nat.le_of_ble_eq_true rfl) ⟨(Nat.le_of_ble_eq_true rfl), (Nat.le_of_ble_eq_true rfl)⟩ hph pl3 (show 0 + 0 = 0 from rfl) (by decide) (fun rh3 Lh3 clh3 lnh3 ivh3 rvh3 h3 => ?_)
                  obtain ⟨rfl, xl3, fl3, W6, exf3⟩ := h3
                  have F4 := Fb1.call Xb1 fl3 rfl
                  have ty4 := Xb1.ty tsk6
                  have ty5 := Xb1.ty tsk7
                  have ty6 := Xb1.ty tsk9
                  have ty7 := Xb1.ty tsk24
                  have ty8 := Xb1.ty tsk25
                  have X1 := Xb1.trans xl3
                  have sk1 := xl3.skl skb1
                  refine c_st (st2 := []) rfl ?_
                  have ty9 := xl3.ty ty3
                  have ri4 : 0 ≤ ivh3 (sk 10) 2 ∧ ivh3 (sk 10) 2 ≤ 4001 := W6.int ty9 2
                  have gf3 : ((ivh3 (sk 10) 2 = ivb1 (sk 10) 2 ∧ ivb1 (sk 10) 2 = 4001) ∨ (ivh3 (sk 10) 2 = ivb1 (sk 10) 2 + 1 ∧ ivb1 (sk 10) 2 < 4001)) := exf3
                  refine c_aload (j := 1) (x := ob1) C dX3_decodeWord_116 rfl ?_
                  refine c_aload_n (j := 4) (x := a0) C dX3_decodeWord_118 rfl ?_
                  have ty10 := xl3.ty ty1
                  have re1 : rvh3 a0 6 = rvb1 a0 6 := (fl3.r ty1 rfl 6)
                  rw [rq2] at re1
                  refine c_getr (k := 6) C ck_4 dX3_decodeWord_119 w1_200 (by decide) ty10 rfl rfl (by decide) rfl re1 ?_
                  refine c_st (st2 := [.ref (sk 10), .ref ob1]) rfl ?_
                  refine c_iload_n (j := 2) C dX3_decodeWord_122 rfl ?_
                  have ty11 := xl3.ty tob1
                  have pl4 := Phi.le W6 sk1
                  refine d_callV (As := [.ref (sk 10), .int (iI gr)]) (rest := []) C hM (C_wl_10 (a0 := ob1) (a1 := (sk 10)) (g := gr) W6 sk1 ty11 ty9 (by omega) ) dX3_decodeWord_123 kV_X3_137 rfl ty11 rfl rfl (by decide) ck_6 rfl (Nat.le_of_ble_eq_true rfl) ⟨(Nat.le_of_ble_eq_true rfl), (Nat.le_of_ble_eq_true rfl)⟩ hph pl4 (show 0 + 0 = 0 from rfl) (by decide) (fun rh4 Lh4 clh4 lnh4 ivh4 rvh4 h4 => ?_)
                  obtain ⟨rfl, xl4, fl4, W7, exf4⟩ := h4
                  have F5 := F4.call X1 fl4 rfl
                  have ty12 := xl3.ty ty4
                  have ty13 := xl3.ty ty5
                  have ty14 := xl3.ty ty2
                  have ty15 := xl3.ty ty6
                  have ty16 := xl3.ty ty7
                  have ty17 := xl3.ty ty8
                  have X2 := X1.trans xl4
                  have sk2 := xl4.skl sk1
                  refine c_st (st2 := []) rfl ?_
                  refine c_aload (j := 1) (x := ob1) C dX3_decodeWord_126 rfl ?_
                  have ty18 := xl4.ty ty11
                  have ri5 : (-2147483648) ≤ ivh4 ob1 0 ∧ ivh4 ob1 0 ≤ 2147483647 := W7.int ty18 0
                  have ie5 : ivh4 ob1 0 = ivh3 ob1 0 := fl4.i ty11 rfl 0
                  have ie6 : ivh3 ob1 0 = ivb1 ob1 0 := fl3.i tob1 rfl 0
                  refine c_get (k := 0) C ck_6 dX3_decodeWord_128 w3_137 (by decide) ty18 rfl rfl (by decide) rfl ?_
                  refine c_if_ne (tgt := 138) C ⟨by omega, by omega⟩ dX3_decodeWord_131 (by decide) (fun c8 => ?_) (fun c8 => ?_)
                  · refine c_iconst C dX3_decodeWord_138 ?_
                    refine c_istore_n (lv2 := [(3, .int (iI 0)), (2, .int (iI 0)), (5, .ref ob1), (4, .int (iI aq)), (0, .ref a0), (1, .int (iI i))]) C dX3_decodeWord_139 (by decide) rfl ?_
                    refine c_iload (j := 3) C dX3_decodeWord_140 rfl ?_
                    refine c_iconst C dX3_decodeWord_142 ?_
                    refine c_aload (j := 2) (x := ob1) C dX3_decodeWord_143 rfl ?_
                    obtain ⟨rb3, rq3, trb3⟩ := W7.ref ty18 2 rfl rfl rfl
                    have lnrb3 : 1 ≤ lnh4 rb3 ∧ lnh4 rb3 ≤ 4 := W7.len trb3 rfl
                    refine c_getr (k := 2) C ck_6 dX3_decodeWord_145 w3_143 (by decide) ty18 rfl rfl (by decide) rfl rq3 ?_
                    refine c_st (st2 := [.ref rb3, .int (iI 1), .int (iI aq)]) rfl ?_
                    have ll1 : 1 ≤ lnh4 rb3 ∧ lnh4 rb3 ≤ 4 := W7.len trb3 rfl
                    refine c_alenI C dX3_decodeWord_148 trb3 rfl ?_
                    obtain ⟨mn1, hmn1, emn1⟩ := mmax_c (x := 1) (y := ((lnh4 rb3 : Nat) : Int)) ⟨by decide, by decide⟩ ⟨by omega, by omega⟩
                    have pl5 := Phi.le W7 sk2
                    refine c_mmax (w := iI mn1) C dX3_decodeWord_149 w5_105 w2_148 w1_14 w2_149 (by decide) (rom0 hph pl5 (by decide)) (Nat.le_of_ble_eq_true rfl) emn1 ?_
                    refine c_iadd C dX3_decodeWord_152 ?_
                    refine c_istore (lv2 := [(4, .int (iI (aq + mn1))), (3, .int (iI 0)), (2, .int (iI 0)), (5, .ref ob1), (0, .ref a0), (1, .int (iI i))]) C dX3_decodeWord_153 (by decide) rfl ?_
                    refine c_goto (tgt := 7) C dX3_decodeWord_155 (by decide) ?_
                    refine c_lv (lv2 := [(2, .int (iI 0)), (3, .int (iI 0)), (4, .int (iI (aq + mn1))), (0, .ref a0), (1, .int (iI i))]) [2, 1, 0, 4, 5] rfl ?_
                    exact ih1  0 0 (aq + mn1) _ _ _ _ _ (by omega) X2 W7 F5  (by omega) (by omega) (by omega)
                  · refine c_iconst C dX3_decodeWord_134 ?_
                    refine c_goto (tgt := 139) C dX3_decodeWord_135 (by decide) ?_
                    refine c_istore_n (lv2 := [(3, .int (iI 1)), (2, .int (iI 0)), (5, .ref ob1), (4, .int (iI aq)), (0, .ref a0), (1, .int (iI i))]) C dX3_decodeWord_139 (by decide) rfl ?_
                    refine c_iload (j := 3) C dX3_decodeWord_140 rfl ?_
                    refine c_iconst C dX3_decodeWord_142 ?_
                    refine c_aload (j := 2) (x := ob1) C dX3_decodeWord_143 rfl ?_
                    obtain ⟨rb4, rq4, trb4⟩ := W7.ref ty18 2 rfl rfl rfl
                    have lnrb4 : 1 ≤ lnh4 rb4 ∧ lnh4 rb4 ≤ 4 := W7.len trb4 rfl
                    refine c_getr (k := 2) C ck_6 dX3_decodeWord_145 w3_143 (by decide) ty18 rfl rfl (by decide) rfl rq4 ?_
                    refine c_st (st2 := [.ref rb4, .int (iI 1), .int (iI aq)]) rfl ?_
                    have ll2 : 1 ≤ lnh4 rb4 ∧ lnh4 rb4 ≤ 4 := W7.len trb4 rfl
                    refine c_alenI C dX3_decodeWord_148 trb4 rfl ?_
                    obtain ⟨mn2, hmn2, emn2⟩ := mmax_c (x := 1) (y := ((lnh4 rb4 : Nat) : Int)) ⟨by decide, by decide⟩ ⟨by omega, by omega⟩
                    have pl6 := Phi.le W7 sk2
                    refine c_mmax (w := iI mn2) C dX3_decodeWord_149 w5_105 w2_148 w1_14 w2_149 (by decide) (rom0 hph pl6 (by decide)) (Nat.le_of_ble_eq_true rfl) emn2 ?_
                    refine c_iadd C dX3_decodeWord_152 ?_
                    refine c_istore (lv2 := [(4, .int (iI (aq + mn2))), (3, .int (iI 1)), (2, .int (iI 0)), (5, .ref ob1), (0, .ref a0), (1, .int (iI i))]) C dX3_decodeWord_153 (by decide) rfl ?_
                    refine c_goto (tgt := 7) C dX3_decodeWord_155 (by decide) ?_
                    refine c_lv (lv2 := [(2, .int (iI 0)), (3, .int (iI 1)), (4, .int (iI (aq + mn2))), (0, .ref a0), (1, .int (iI i))]) [2, 1, 0, 4, 5] rfl ?_
                    exact ih1  0 1 (aq + mn2) _ _ _ _ _ (by omega) X2 W7 F5  (by omega) (by omega) (by omega)
                · refine c_iconst C dX3_decodeWord_92 ?_
                  refine c_goto (tgt := 97) C dX3_decodeWord_93 (by decide) ?_
                  refine c_istore_n (lv2 := [(2, .int (iI 1)), (5, .ref ob1), (3, .int (iI gr)), (4, .int (iI aq)), (0, .ref a0), (1, .int (iI i))]) C dX3_decodeWord_97 (by decide) rfl ?_
                  refine c_aload_n (j := 4) (x := a0) C dX3_decodeWord_98 rfl ?_
                  obtain ⟨rb5, rq5, trb5⟩ := Wb1.ref ty1 6 rfl rfl rfl
                  have erb5 := Wb1.sk trb5 (by decide) rfl
                  subst erb5
                  refine c_getr (k := 6) C ck_4 dX3_decodeWord_99 w1_200 (by decide) ty1 rfl rfl (by decide) rfl rq5 ?_
                  refine c_st (st2 := [.ref (sk 10)]) rfl ?_
                  refine c_iload_n (j := 0) C dX3_decodeWord_102 rfl ?_
                  refine c_if_eq (tgt := 111) C ⟨by decide, by decide⟩ dX3_decodeWord_103 (by decide) (fun z => absurd z (by omega)) (fun _ => ?_)
                  refine c_bipush (z := 60) C dX3_decodeWord_106 (by decide) ?_
                  refine c_goto (tgt := 113) C dX3_decodeWord_108 (by decide) ?_
                  have ty19 := Xb1.ty tsk10
                  have ri6 : 0 ≤ ivb1 (sk 10) 2 ∧ ivb1 (sk 10) 2 ≤ 4001 := Wb1.int ty19 2
                  refine d_callV (As := [.int (iI 60)]) (rest := []) C hM (C_add_10 (a0 := (sk 10)) (x := 60) Wb1 skb1 ty19 ⟨by decide, by decide⟩ ) dX3_decodeWord_113 kV_X3_91 rfl ty19 rfl rfl (by decide) ck_2 rfl (Nat.le_of_ble_eq_true rfl) ⟨(Nat.le_of_ble_eq_true rfl), (Nat.le_of_ble_eq_true rfl)⟩ hph pl3 (show 0 + 0 = 0 from rfl) (by decide) (fun rh5 Lh5 clh5 lnh5 ivh5 rvh5 h5 => ?_)
                  obtain ⟨rfl, xl5, fl5, W8, exf5⟩ := h5
                  have F6 := Fb1.call Xb1 fl5 rfl
                  have ty20 := Xb1.ty tsk6
                  have ty21 := Xb1.ty tsk7
                  have ty22 := Xb1.ty tsk9
                  have ty23 := Xb1.ty tsk24
                  have ty24 := Xb1.ty tsk25
                  have X3 := Xb1.trans xl5
                  have sk3 := xl5.skl skb1
                  refine c_st (st2 := []) rfl ?_
                  have ty25 := xl5.ty ty19
                  have ri7 : 0 ≤ ivh5 (sk 10) 2 ∧ ivh5 (sk 10) 2 ≤ 4001 := W8.int ty25 2
                  have gf5 : ((ivh5 (sk 10) 2 = ivb1 (sk 10) 2 ∧ ivb1 (sk 10) 2 = 4001) ∨ (ivh5 (sk 10) 2 = ivb1 (sk 10) 2 + 1 ∧ ivb1 (sk 10) 2 < 4001)) := exf5
                  refine c_aload (j := 1) (x := ob1) C dX3_decodeWord_116 rfl ?_
                  refine c_aload_n (j := 4) (x := a0) C dX3_decodeWord_118 rfl ?_
                  have ty26 := xl5.ty ty1
                  have re2 : rvh5 a0 6 = rvb1 a0 6 := (fl5.r ty1 rfl 6)
                  rw [rq5] at re2
                  refine c_getr (k := 6) C ck_4 dX3_decodeWord_119 w1_200 (by decide) ty26 rfl rfl (by decide) rfl re2 ?_
                  refine c_st (st2 := [.ref (sk 10), .ref ob1]) rfl ?_
                  refine c_iload_n (j := 2) C dX3_decodeWord_122 rfl ?_
                  have ty27 := xl5.ty tob1
                  have pl7 := Phi.le W8 sk3
                  refine d_callV (As := [.ref (sk 10), .int (iI gr)]) (rest := []) C hM (C_wl_10 (a0 := ob1) (a1 := (sk 10)) (g := gr) W8 sk3 ty27 ty25 (by omega) ) dX3_decodeWord_123 kV_X3_137 rfl ty27 rfl rfl (by decide) ck_6 rfl (Nat.le_of_ble_eq_true rfl) ⟨(Nat.le_of_ble_eq_true rfl), (Nat.le_of_ble_eq_true rfl)⟩ hph pl7 (show 0 + 0 = 0 from rfl) (by decide) (fun rh6 Lh6 clh6 lnh6 ivh6 rvh6 h6 => ?_)
                  obtain ⟨rfl, xl6, fl6, W9, exf6⟩ := h6
                  have F7 := F6.call X3 fl6 rfl
                  have ty28 := xl5.ty ty20
                  have ty29 := xl5.ty ty21
                  have ty30 := xl5.ty ty2
                  have ty31 := xl5.ty ty22
                  have ty32 := xl5.ty ty23
                  have ty33 := xl5.ty ty24
                  have X4 := X3.trans xl6
                  have sk4 := xl6.skl sk3
                  refine c_st (st2 := []) rfl ?_
                  refine c_aload (j := 1) (x := ob1) C dX3_decodeWord_126 rfl ?_
                  have ty34 := xl6.ty ty27
                  have ri8 : (-2147483648) ≤ ivh6 ob1 0 ∧ ivh6 ob1 0 ≤ 2147483647 := W9.int ty34 0
                  have ie9 : ivh6 ob1 0 = ivh5 ob1 0 := fl6.i ty27 rfl 0
                  have ie10 : ivh5 ob1 0 = ivb1 ob1 0 := fl5.i tob1 rfl 0
                  refine c_get (k := 0) C ck_6 dX3_decodeWord_128 w3_137 (by decide) ty34 rfl rfl (by decide) rfl ?_
                  refine c_if_ne (tgt := 138) C ⟨by omega, by omega⟩ dX3_decodeWord_131 (by decide) (fun c9 => ?_) (fun c9 => ?_)
                  · refine c_iconst C dX3_decodeWord_138 ?_
                    refine c_istore_n (lv2 := [(3, .int (iI 0)), (2, .int (iI 1)), (5, .ref ob1), (4, .int (iI aq)), (0, .ref a0), (1, .int (iI i))]) C dX3_decodeWord_139 (by decide) rfl ?_
                    refine c_iload (j := 3) C dX3_decodeWord_140 rfl ?_
                    refine c_iconst C dX3_decodeWord_142 ?_
                    refine c_aload (j := 2) (x := ob1) C dX3_decodeWord_143 rfl ?_
                    obtain ⟨rb6, rq6, trb6⟩ := W9.ref ty34 2 rfl rfl rfl
                    have lnrb6 : 1 ≤ lnh6 rb6 ∧ lnh6 rb6 ≤ 4 := W9.len trb6 rfl
                    refine c_getr (k := 2) C ck_6 dX3_decodeWord_145 w3_143 (by decide) ty34 rfl rfl (by decide) rfl rq6 ?_
                    refine c_st (st2 := [.ref rb6, .int (iI 1), .int (iI aq)]) rfl ?_
                    have ll3 : 1 ≤ lnh6 rb6 ∧ lnh6 rb6 ≤ 4 := W9.len trb6 rfl
                    refine c_alenI C dX3_decodeWord_148 trb6 rfl ?_
                    obtain ⟨mn3, hmn3, emn3⟩ := mmax_c (x := 1) (y := ((lnh6 rb6 : Nat) : Int)) ⟨by decide, by decide⟩ ⟨by omega, by omega⟩
                    have pl8 := Phi.le W9 sk4
                    refine c_mmax (w := iI mn3) C dX3_decodeWord_149 w5_105 w2_148 w1_14 w2_149 (by decide) (rom0 hph pl8 (by decide)) (Nat.le_of_ble_eq_true rfl) emn3 ?_
                    refine c_iadd C dX3_decodeWord_152 ?_
                    refine c_istore (lv2 := [(4, .int (iI (aq + mn3))), (3, .int (iI 0)), (2, .int (iI 1)), (5, .ref ob1), (0, .ref a0), (1, .int (iI i))]) C dX3_decodeWord_153 (by decide) rfl ?_
                    refine c_goto (tgt := 7) C dX3_decodeWord_155 (by decide) ?_
                    refine c_lv (lv2 := [(2, .int (iI 1)), (3, .int (iI 0)), (4, .int (iI (aq + mn3))), (0, .ref a0), (1, .int (iI i))]) [2, 1, 0, 4, 5] rfl ?_
                    exact ih1  1 0 (aq + mn3) _ _ _ _ _ (by omega) X4 W9 F7  (by omega) (by omega) (by omega)
                  · refine c_iconst C dX3_decodeWord_134 ?_
                    refine c_goto (tgt := 139) C dX3_decodeWord_135 (by decide) ?_
                    refine c_istore_n (lv2 := [(3, .int (iI 1)), (2, .int (iI 1)), (5, .ref ob1), (4, .int (iI aq)), (0, .ref a0), (1, .int (iI i))]) C dX3_decodeWord_139 (by decide) rfl ?_
                    refine c_iload (j := 3) C dX3_decodeWord_140 rfl ?_
                    refine c_iconst C dX3_decodeWord_142 ?_
                    refine c_aload (j := 2) (x := ob1) C dX3_decodeWord_143 rfl ?_
                    obtain ⟨rb7, rq7, trb7⟩ := W9.ref ty34 2 rfl rfl rfl
                    have lnrb7 : 1 ≤ lnh6 rb7 ∧ lnh6 rb7 ≤ 4 := W9.len trb7 rfl
                    refine c_getr (k := 2) C ck_6 dX3_decodeWord_145 w3_143 (by decide) ty34 rfl rfl (by decide) rfl rq7 ?_
                    refine c_st (st2 := [.ref rb7, .int (iI 1), .int (iI aq)]) rfl ?_
                    have ll4 : 1 ≤ lnh6 rb7 ∧ lnh6 rb7 ≤ 4 := W9.len trb7 rfl
                    refine c_alenI C dX3_decodeWord_148 trb7 rfl ?_
                    obtain ⟨mn4, hmn4, emn4⟩ := mmax_c (x := 1) (y := ((lnh6 rb7 : Nat) : Int)) ⟨by decide, by decide⟩ ⟨by omega, by omega⟩
                    have pl9 := Phi.le W9 sk4
                    refine c_mmax (w := iI mn4) C dX3_decodeWord_149 w5_105 w2_148 w1_14 w2_149 (by decide) (rom0 hph pl9 (by decide)) (Nat.le_of_ble_eq_true rfl) emn4 ?_
                    refine c_iadd C dX3_decodeWord_152 ?_
                    refine c_istore (lv2 := [(4, .int (iI (aq + mn4))), (3, .int (iI 1)), (2, .int (iI 1)), (5, .ref ob1), (0, .ref a0), (1, .int (iI i))]) C dX3_decodeWord_153 (by decide) rfl ?_
                    refine c_goto (tgt := 7) C dX3_decodeWord_155 (by decide) ?_
                    refine c_lv (lv2 := [(2, .int (iI 1)), (3, .int (iI 1)), (4, .int (iI (aq + mn4))), (0, .ref a0), (1, .int (iI i))]) [2, 1, 0, 4, 5] rfl ?_
                    exact ih1  1 1 (aq + mn4) _ _ _ _ _ (by omega) X4 W9 F7  (by omega) (by omega) (by omega)
              · refine c_aload (j := 0) (x := ob1) C dX3_decodeWord_74 rfl ?_
                refine c_get (k := 0) C ck_6 dX3_decodeWord_76 w3_137 (by decide) tob1 rfl rfl (by decide) rfl ?_
                refine c_iconst C dX3_decodeWord_79 ?_
                refine c_icmp_ne (tgt := 116) C ⟨by omega, by omega⟩ ⟨by decide, by decide⟩ dX3_decodeWord_80 (by decide) (fun c10 => ?_) (fun c10 => ?_)
                · refine c_aload (j := 0) (x := ob1) C dX3_decodeWord_116 rfl ?_
                  refine c_aload_n (j := 4) (x := a0) C dX3_decodeWord_118 rfl ?_
                  obtain ⟨rb8, rq8, trb8⟩ := Wb1.ref ty1 6 rfl rfl rfl
                  have erb8 := Wb1.sk trb8 (by decide) rfl
                  subst erb8
                  refine c_getr (k := 6) C ck_4 dX3_decodeWord_119 w1_200 (by decide) ty1 rfl rfl (by decide) rfl rq8 ?_
                  refine c_st (st2 := [.ref (sk 10), .ref ob1]) rfl ?_
                  refine c_iload_n (j := 2) C dX3_decodeWord_122 rfl ?_
                  have ty35 := Xb1.ty tsk10
                  refine d_callV (As := [.ref (sk 10), .int (iI gr)]) (rest := []) C hM (C_wl_10 (a0 := ob1) (a1 := (sk 10)) (g := gr) Wb1 skb1 tob1 ty35 (by omega) ) dX3_decodeWord_123 kV_X3_137 rfl tob1 rfl rfl (by decide) ck_6 rfl (Nat.le_of_ble_eq_true rfl) ⟨(Nat.le_of_ble_eq_true rfl), (Nat.le_of_ble_eq_true rfl)⟩ hph pl3 (show 0 + 0 = 0 from rfl) (by decide) (fun rh7 Lh7 clh7 lnh7 ivh7 rvh7 h7 => ?_)
                  obtain ⟨rfl, xl7, fl7, W10, exf7⟩ := h7
                  have F8 := Fb1.call Xb1 fl7 rfl
                  have ty36 := Xb1.ty tsk6
                  have ty37 := Xb1.ty tsk7
                  have ty38 := Xb1.ty tsk9
                  have ty39 := Xb1.ty tsk24
                  have ty40 := Xb1.ty tsk25
                  have X5 := Xb1.trans xl7
                  have sk5 := xl7.skl skb1
                  refine c_st (st2 := []) rfl ?_
                  refine c_aload (j := 0) (x := ob1) C dX3_decodeWord_126 rfl ?_
                  have ty41 := xl7.ty tob1
                  have ri9 : (-2147483648) ≤ ivh7 ob1 0 ∧ ivh7 ob1 0 ≤ 2147483647 := W10.int ty41 0
                  have ie11 : ivh7 ob1 0 = ivb1 ob1 0 := fl7.i tob1 rfl 0
                  refine c_get (k := 0) C ck_6 dX3_decodeWord_128 w3_137 (by decide) ty41 rfl rfl (by decide) rfl ?_
                  refine c_if_ne (tgt := 138) C ⟨by omega, by omega⟩ dX3_decodeWord_131 (by decide) (fun c11 => ?_) (fun c11 => ?_)
                  · refine c_iconst C dX3_decodeWord_138 ?_
                    refine c_istore_n (lv2 := [(3, .int (iI 0)), (5, .ref ob1), (2, .int (iI sc)), (4, .int (iI aq)), (0, .ref a0), (1, .int (iI i))]) C dX3_decodeWord_139 (by decide) rfl ?_
                    refine c_iload (j := 3) C dX3_decodeWord_140 rfl ?_
                    refine c_iconst C dX3_decodeWord_142 ?_
                    refine c_aload (j := 1) (x := ob1) C dX3_decodeWord_143 rfl ?_
                    obtain ⟨rb9, rq9, trb9⟩ := W10.ref ty41 2 rfl rfl rfl
                    have lnrb9 : 1 ≤ lnh7 rb9 ∧ lnh7 rb9 ≤ 4 := W10.len trb9 rfl
                    refine c_getr (k := 2) C ck_6 dX3_decodeWord_145 w3_143 (by decide) ty41 rfl rfl (by decide) rfl rq9 ?_
                    refine c_st (st2 := [.ref rb9, .int (iI 1), .int (iI aq)]) rfl ?_
                    have ll5 : 1 ≤ lnh7 rb9 ∧ lnh7 rb9 ≤ 4 := W10.len trb9 rfl
                    refine c_alenI C dX3_decodeWord_148 trb9 rfl ?_
                    obtain ⟨mn5, hmn5, emn5⟩ := mmax_c (x := 1) (y := ((lnh7 rb9 : Nat) : Int)) ⟨by decide, by decide⟩ ⟨by omega, by omega⟩
                    have pl10 := Phi.le W10 sk5
                    refine c_mmax (w := iI mn5) C dX3_decodeWord_149 w5_105 w2_148 w1_14 w2_149 (by decide) (rom0 hph pl10 (by decide)) (Nat.le_of_ble_eq_true rfl) emn5 ?_
                    refine c_iadd C dX3_decodeWord_152 ?_
                    refine c_istore (lv2 := [(4, .int (iI (aq + mn5))), (3, .int (iI 0)), (5, .ref ob1), (2, .int (iI sc)), (0, .ref a0), (1, .int (iI i))]) C dX3_decodeWord_153 (by decide) rfl ?_
                    refine c_goto (tgt := 7) C dX3_decodeWord_155 (by decide) ?_
                    refine c_lv (lv2 := [(2, .int (iI sc)), (3, .int (iI 0)), (4, .int (iI (aq + mn5))), (0, .ref a0), (1, .int (iI i))]) [3, 1, 0, 4, 5] rfl ?_
                    exact ih1  sc 0 (aq + mn5) _ _ _ _ _ (by omega) X5 W10 F8  (by omega) (by omega) (by omega)
                  · refine c_iconst C dX3_decodeWord_134 ?_
                    refine c_goto (tgt := 139) C dX3_decodeWord_135 (by decide) ?_
                    refine c_istore_n (lv2 := [(3, .int (iI 1)), (5, .ref ob1), (2, .int (iI sc)), (4, .int (iI aq)), (0, .ref a0), (1, .int (iI i))]) C dX3_decodeWord_139 (by decide) rfl ?_
                    refine c_iload (j := 3) C dX3_decodeWord_140 rfl ?_
                    refine c_iconst C dX3_decodeWord_142 ?_
                    refine c_aload (j := 1) (x := ob1) C dX3_decodeWord_143 rfl ?_
                    obtain ⟨rb10, rq10, trb10⟩ := W10.ref ty41 2 rfl rfl rfl
                    have lnrb10 : 1 ≤ lnh7 rb10 ∧ lnh7 rb10 ≤ 4 := W10.len trb10 rfl
                    refine c_getr (k := 2) C ck_6 dX3_decodeWord_145 w3_143 (by decide) ty41 rfl rfl (by decide) rfl rq10 ?_
                    refine c_st (st2 := [.ref rb10, .int (iI 1), .int (iI aq)]) rfl ?_
                    have ll6 : 1 ≤ lnh7 rb10 ∧ lnh7 rb10 ≤ 4 := W10.len trb10 rfl
                    refine c_alenI C dX3_decodeWord_148 trb10 rfl ?_
                    obtain ⟨mn6, hmn6, emn6⟩ := mmax_c (x := 1) (y := ((lnh7 rb10 : Nat) : Int)) ⟨by decide, by decide⟩ ⟨by omega, by omega⟩
                    have pl11 := Phi.le W10 sk5
                    refine c_mmax (w := iI mn6) C dX3_decodeWord_149 w5_105 w2_148 w1_14 w2_149 (by decide) (rom0 hph pl11 (by decide)) (Nat.le_of_ble_eq_true rfl) emn6 ?_
                    refine c_iadd C dX3_decodeWord_152 ?_
                    refine c_istore (lv2 := [(4, .int (iI (aq + mn6))), (3, .int (iI 1)), (5, .ref ob1), (2, .int (iI sc)), (0, .ref a0), (1, .int (iI i))]) C dX3_decodeWord_153 (by decide) rfl ?_
                    refine c_goto (tgt := 7) C dX3_decodeWord_155 (by decide) ?_
                    refine c_lv (lv2 := [(2, .int (iI sc)), (3, .int (iI 1)), (4, .int (iI (aq + mn6))), (0, .ref a0), (1, .int (iI i))]) [3, 1, 0, 4, 5] rfl ?_
                    exact ih1  sc 1 (aq + mn6) _ _ _ _ _ (by omega) X5 W10 F8  (by omega) (by omega) (by omega)
                · refine c_aload (j := 0) (x := ob1) C dX3_decodeWord_83 rfl ?_
                  refine c_get (k := 0) C ck_6 dX3_decodeWord_85 w3_137 (by decide) tob1 rfl rfl (by decide) rfl ?_
                  refine c_iconst C dX3_decodeWord_88 ?_
                  refine c_icmp_ne (tgt := 96) C ⟨by omega, by omega⟩ ⟨by decide, by decide⟩ dX3_decodeWord_89 (by decide) (fun c12 => ?_) (fun c12 => ?_)
                  · refine c_iconst C dX3_decodeWord_96 ?_
                    refine c_istore_n (lv2 := [(2, .int (iI 0)), (5, .ref ob1), (3, .int (iI gr)), (4, .int (iI aq)), (0, .ref a0), (1, .int (iI i))]) C dX3_decodeWord_97 (by decide) rfl ?_
                    refine c_aload_n (j := 4) (x := a0) C dX3_decodeWord_98 rfl ?_
                    obtain ⟨rb11, rq11, trb11⟩ := Wb1.ref ty1 6 rfl rfl rfl
                    have erb11 := Wb1.sk trb11 (by decide) rfl
                    subst erb11
                    refine c_getr (k := 6) C ck_4 dX3_decodeWord_99 w1_200 (by decide) ty1 rfl rfl (by decide) rfl rq11 ?_
                    refine c_st (st2 := [.ref (sk 10)]) rfl ?_
                    refine c_iload_n (j := 0) C dX3_decodeWord_102 rfl ?_
                    refine c_if_eq (tgt := 111) C ⟨by decide, by decide⟩ dX3_decodeWord_103 (by decide) (fun _ => ?_) (fun z => absurd z (by omega))
                    refine c_bipush (z := 62) C dX3_decodeWord_111 (by decide) ?_
                    have ty42 := Xb1.ty tsk10
                    have ri10 : 0 ≤ ivb1 (sk 10) 2 ∧ ivb1 (sk 10) 2 ≤ 4001 := Wb1.int ty42 2
                    refine d_callV (As := [.int (iI 62)]) (rest := []) C hM (C_add_10 (a0 := (sk 10)) (x := 62) Wb1 skb1 ty42 ⟨by decide, by decide⟩ ) dX3_decodeWord_113 kV_X3_91 rfl ty42 rfl rfl (by decide) ck_2 rfl (Nat.le_of_ble_eq_true rfl) ⟨(Nat.le_of_ble_eq_true rfl), (Nat.le_of_ble_eq_true rfl)⟩ hph pl3 (show 0 + 0 = 0 from rfl) (by decide) (fun rh8 Lh8 clh8 lnh8 ivh8 rvh8 h8 => ?_)
                    obtain ⟨rfl, xl8, fl8, W11, exf8⟩ := h8
                    have F9 := Fb1.call Xb1 fl8 rfl
                    have ty43 := Xb1.ty tsk6
                    have ty44 := Xb1.ty tsk7
                    have ty45 := Xb1.ty tsk9
                    have ty46 := Xb1.ty tsk24
                    have ty47 := Xb1.ty tsk25
                    have X6 := Xb1.trans xl8
                    have sk6 := xl8.skl skb1
                    refine c_st (st2 := []) rfl ?_
                    have ty48 := xl8.ty ty42
                    have ri11 : 0 ≤ ivh8 (sk 10) 2 ∧ ivh8 (sk 10) 2 ≤ 4001 := W11.int ty48 2
                    have gf8 : ((ivh8 (sk 10) 2 = ivb1 (sk 10) 2 ∧ ivb1 (sk 10) 2 = 4001) ∨ (ivh8 (sk 10) 2 = ivb1 (sk 10) 2 + 1 ∧ ivb1 (sk 10) 2 < 4001)) := exf8
                    refine c_aload (j := 1) (x := ob1) C dX3_decodeWord_116 rfl ?_
                    refine c_aload_n (j := 4) (x := a0) C dX3_decodeWord_118 rfl ?_
                    have ty49 := xl8.ty ty1
                    have re3 : rvh8 a0 6 = rvb1 a0 6 := (fl8.r ty1 rfl 6)
                    rw [rq11] at re3
                    refine c_getr (k := 6) C ck_4 dX3_decodeWord_119 w1_200 (by decide) ty49 rfl rfl (by decide) rfl re3 ?_
                    refine c_st (st2 := [.ref (sk 10), .ref ob1]) rfl ?_
                    refine c_iload_n (j := 2) C dX3_decodeWord_122 rfl ?_
                    have ty50 := xl8.ty tob1
                    have pl12 := Phi.le W11 sk6
                    refine d_callV (As := [.ref (sk 10), .int (iI gr)]) (rest := []) C hM (C_wl_10 (a0 := ob1) (a1 := (sk 10)) (g := gr) W11 sk6 ty50 ty48 (by omega) ) dX3_decodeWord_123 kV_X3_137 rfl ty50 rfl rfl (by decide) ck_6 rfl (Nat.le_of_ble_eq_true rfl) ⟨(Nat.le_of_ble_eq_true rfl), (Nat.le_of_ble_eq_true rfl)⟩ hph pl12 (show 0 + 0 = 0 from rfl) (by decide) (fun rh9 Lh9 clh9 lnh9 ivh9 rvh9 h9 => ?_)
                    obtain ⟨rfl, xl9, fl9, W12, exf9⟩ := h9
                    have F10 := F9.call X6 fl9 rfl
                    have ty51 := xl8.ty ty43
                    have ty52 := xl8.ty ty44
                    have ty53 := xl8.ty ty2
                    have ty54 := xl8.ty ty45
                    have ty55 := xl8.ty ty46
                    have ty56 := xl8.ty ty47
                    have X7 := X6.trans xl9
                    have sk7 := xl9.skl sk6
                    refine c_st (st2 := []) rfl ?_
                    refine c_aload (j := 1) (x := ob1) C dX3_decodeWord_126 rfl ?_
                    have ty57 := xl9.ty ty50
                    have ri12 : (-2147483648) ≤ ivh9 ob1 0 ∧ ivh9 ob1 0 ≤ 2147483647 := W12.int ty57 0
                    have ie14 : ivh9 ob1 0 = ivh8 ob1 0 := fl9.i ty50 rfl 0
                    have ie15 : ivh8 ob1 0 = ivb1 ob1 0 := fl8.i tob1 rfl 0
                    refine c_get (k := 0) C ck_6 dX3_decodeWord_128 w3_137 (by decide) ty57 rfl rfl (by decide) rfl ?_
                    refine c_if_ne (tgt := 138) C ⟨by omega, by omega⟩ dX3_decodeWord_131 (by decide) (fun c13 => ?_) (fun c13 => ?_)
                    · refine c_iconst C dX3_decodeWord_138 ?_
                      refine c_istore_n (lv2 := [(3, .int (iI 0)), (2, .int (iI 0)), (5, .ref ob1), (4, .int (iI aq)), (0, .ref a0), (1, .int (iI i))]) C dX3_decodeWord_139 (by decide) rfl ?_
                      refine c_iload (j := 3) C dX3_decodeWord_140 rfl ?_
                      refine c_iconst C dX3_decodeWord_142 ?_
                      refine c_aload (j := 2) (x := ob1) C dX3_decodeWord_143 rfl ?_
                      obtain ⟨rb12, rq12, trb12⟩ := W12.ref ty57 2 rfl rfl rfl
                      have lnrb12 : 1 ≤ lnh9 rb12 ∧ lnh9 rb12 ≤ 4 := W12.len trb12 rfl
                      refine c_getr (k := 2) C ck_6 dX3_decodeWord_145 w3_143 (by decide) ty57 rfl rfl (by decide) rfl rq12 ?_
                      refine c_st (st2 := [.ref rb12, .int (iI 1), .int (iI aq)]) rfl ?_
                      have ll7 : 1 ≤ lnh9 rb12 ∧ lnh9 rb12 ≤ 4 := W12.len trb12 rfl
                      refine c_alenI C dX3_decodeWord_148 trb12 rfl ?_
                      obtain ⟨mn7, hmn7, emn7⟩ := mmax_c (x := 1) (y := ((lnh9 rb12 : Nat) : Int)) ⟨by decide, by decide⟩ ⟨by omega, by omega⟩
                      have pl13 := Phi.le W12 sk7
                      refine c_mmax (w := iI mn7) C dX3_decodeWord_149 w5_105 w2_148 w1_14 w2_149 (by decide) (rom0 hph pl13 (by decide)) (Nat.le_of_ble_eq_true rfl) emn7 ?_
                      refine c_iadd C dX3_decodeWord_152 ?_
                      refine c_istore (lv2 := [(4, .int (iI (aq + mn7))), (3, .int (iI 0)), (2, .int (iI 0)), (5, .ref ob1), (0, .ref a0), (1, .int (iI i))]) C dX3_decodeWord_153 (by decide) rfl ?_
                      refine c_goto (tgt := 7) C dX3_decodeWord_155 (by decide) ?_
                      refine c_lv (lv2 := [(2, .int (iI 0)), (3, .int (iI 0)), (4, .int (iI (aq + mn7))), (0, .ref a0), (1, .int (iI i))]) [2, 1, 0, 4, 5] rfl ?_
                      exact ih1  0 0 (aq + mn7) _ _ _ _ _ (by omega) X7 W12 F10  (by omega) (by omega) (by omega)
                    · refine c_iconst C dX3_decodeWord_134 ?_
                      refine c_goto (tgt := 139) C dX3_decodeWord_135 (by decide) ?_
                      refine c_istore_n (lv2 := [(3, .int (iI 1)), (2, .int (iI 0)), (5, .ref ob1), (4, .int (iI aq)), (0, .ref a0), (1, .int (iI i))]) C dX3_decodeWord_139 (by decide) rfl ?_
                      refine c_iload (j := 3) C dX3_decodeWord_140 rfl ?_
                      refine c_iconst C dX3_decodeWord_142 ?_
                      refine c_aload (j := 2) (x := ob1) C dX3_decodeWord_143 rfl ?_
                      obtain ⟨rb13, rq13, trb13⟩ := W12.ref ty57 2 rfl rfl rfl
                      have lnrb13 : 1 ≤ lnh9 rb13 ∧ lnh9 rb13 ≤ 4 := W12.len trb13 rfl
                      refine c_getr (k := 2) C ck_6 dX3_decodeWord_145 w3_143 (by decide) ty57 rfl rfl (by decide) rfl rq13 ?_
                      refine c_st (st2 := [.ref rb13, .int (iI 1), .int (iI aq)]) rfl ?_
                      have ll8 : 1 ≤ lnh9 rb13 ∧ lnh9 rb13 ≤ 4 := W12.len trb13 rfl
                      refine c_alenI C dX3_decodeWord_148 trb13 rfl ?_
                      obtain ⟨mn8, hmn8, emn8⟩ := mmax_c (x := 1) (y := ((lnh9 rb13 : Nat) : Int)) ⟨by decide, by decide⟩ ⟨by omega, by omega⟩
                      have pl14 := Phi.le W12 sk7
                      refine c_mmax (w := iI mn8) C dX3_decodeWord_149 w5_105 w2_148 w1_14 w2_149 (by decide) (rom0 hph pl14 (by decide)) (Nat.le_of_ble_eq_true rfl) emn8 ?_
                      refine c_iadd C dX3_decodeWord_152 ?_
                      refine c_istore (lv2 := [(4, .int (iI (aq + mn8))), (3, .int (iI 1)), (2, .int (iI 0)), (5, .ref ob1), (0, .ref a0), (1, .int (iI i))]) C dX3_decodeWord_153 (by decide) rfl ?_
                      refine c_goto (tgt := 7) C dX3_decodeWord_155 (by decide) ?_
                      refine c_lv (lv2 := [(2, .int (iI 0)), (3, .int (iI 1)), (4, .int (iI (aq + mn8))), (0, .ref a0), (1, .int (iI i))]) [2, 1, 0, 4, 5] rfl ?_
                      exact ih1  0 1 (aq + mn8) _ _ _ _ _ (by omega) X7 W12 F10  (by omega) (by omega) (by omega)
                  · refine c_iconst C dX3_decodeWord_92 ?_
                    refine c_goto (tgt := 97) C dX3_decodeWord_93 (by decide) ?_
                    refine c_istore_n (lv2 := [(2, .int (iI 1)), (5, .ref ob1), (3, .int (iI gr)), (4, .int (iI aq)), (0, .ref a0), (1, .int (iI i))]) C dX3_decodeWord_97 (by decide) rfl ?_
                    refine c_aload_n (j := 4) (x := a0) C dX3_decodeWord_98 rfl ?_
                    obtain ⟨rb14, rq14, trb14⟩ := Wb1.ref ty1 6 rfl rfl rfl
                    have erb14 := Wb1.sk trb14 (by decide) rfl
                    subst erb14
                    refine c_getr (k := 6) C ck_4 dX3_decodeWord_99 w1_200 (by decide) ty1 rfl rfl (by decide) rfl rq14 ?_
                    refine c_st (st2 := [.ref (sk 10)]) rfl ?_
                    refine c_iload_n (j := 0) C dX3_decodeWord_102 rfl ?_
                    refine c_if_eq (tgt := 111) C ⟨by decide, by decide⟩ dX3_decodeWord_103 (by decide) (fun z => absurd z (by omega)) (fun _ => ?_)
                    refine c_bipush (z := 60) C dX3_decodeWord_106 (by decide) ?_
                    refine c_goto (tgt := 113) C dX3_decodeWord_108 (by decide) ?_
                    have ty58 := Xb1.ty tsk10
                    have ri13 : 0 ≤ ivb1 (sk 10) 2 ∧ ivb1 (sk 10) 2 ≤ 4001 := Wb1.int ty58 2
                    refine d_callV (As := [.int (iI 60)]) (rest := []) C hM (C_add_10 (a0 := (sk 10)) (x := 60) Wb1 skb1 ty58 ⟨by decide, by decide⟩ ) dX3_decodeWord_113 kV_X3_91 rfl ty58 rfl rfl (by decide) ck_2 rfl (Nat.le_of_ble_eq_true rfl) ⟨(Nat.le_of_ble_eq_true rfl), (Nat.le_of_ble_eq_true rfl)⟩ hph pl3 (show 0 + 0 = 0 from rfl) (by decide) (fun rh10 Lh10 clh10 lnh10 ivh10 rvh10 h10 => ?_)
                    obtain ⟨rfl, xl10, fl10, W13, exf10⟩ := h10
                    have F11 := Fb1.call Xb1 fl10 rfl
                    have ty59 := Xb1.ty tsk6
                    have ty60 := Xb1.ty tsk7
                    have ty61 := Xb1.ty tsk9
                    have ty62 := Xb1.ty tsk24
                    have ty63 := Xb1.ty tsk25
                    have X8 := Xb1.trans xl10
                    have sk8 := xl10.skl skb1
                    refine c_st (st2 := []) rfl ?_
                    have ty64 := xl10.ty ty58
                    have ri14 : 0 ≤ ivh10 (sk 10) 2 ∧ ivh10 (sk 10) 2 ≤ 4001 := W13.int ty64 2
                    have gf10 : ((ivh10 (sk 10) 2 = ivb1 (sk 10) 2 ∧ ivb1 (sk 10) 2 = 4001) ∨ (ivh10 (sk 10) 2 = ivb1 (sk 10) 2 + 1 ∧ ivb1 (sk 10) 2 < 4001)) := exf10
                    refine c_aload (j := 1) (x := ob1) C dX3_decodeWord_116 rfl ?_
                    refine c_aload_n (j := 4) (x := a0) C dX3_decodeWord_118 rfl ?_
                    have ty65 := xl10.ty ty1
                    have re4 : rvh10 a0 6 = rvb1 a0 6 := (fl10.r ty1 rfl 6)
                    rw [rq14] at re4
                    refine c_getr (k := 6) C ck_4 dX3_decodeWord_119 w1_200 (by decide) ty65 rfl rfl (by decide) rfl re4 ?_
                    refine c_st (st2 := [.ref (sk 10), .ref ob1]) rfl ?_
                    refine c_iload_n (j := 2) C dX3_decodeWord_122 rfl ?_
                    have ty66 := xl10.ty tob1
                    have pl15 := Phi.le W13 sk8
                    refine d_callV (As := [.ref (sk 10), .int (iI gr)]) (rest := []) C hM (C_wl_10 (a0 := ob1) (a1 := (sk 10)) (g := gr) W13 sk8 ty66 ty64 (by omega) ) dX3_decodeWord_123 kV_X3_137 rfl ty66 rfl rfl (by decide) ck_6 rfl (Nat.le_of_ble_eq_true rfl) ⟨(Nat.le_of_ble_eq_true rfl), (Nat.le_of_ble_eq_true rfl)⟩ hph pl15 (show 0 + 0 = 0 from rfl) (by decide) (fun rh11 Lh11 clh11 lnh11 ivh11 rvh11 h11 => ?_)
                    obtain ⟨rfl, xl11, fl11, W14, exf11⟩ := h11
                    have F12 := F11.call X8 fl11 rfl
                    have ty67 := xl10.ty ty59
                    have ty68 := xl10.ty ty60
                    have ty69 := xl10.ty ty2
                    have ty70 := xl10.ty ty61
                    have ty71 := xl10.ty ty62
                    have ty72 := xl10.ty ty63
                    have X9 := X8.trans xl11
                    have sk9 := xl11.skl sk8
                    refine c_st (st2 := []) rfl ?_
                    refine c_aload (j := 1) (x := ob1) C dX3_decodeWord_126 rfl ?_
                    have ty73 := xl11.ty ty66
                    have ri15 : (-2147483648) ≤ ivh11 ob1 0 ∧ ivh11 ob1 0 ≤ 2147483647 := W14.int ty73 0
                    have ie18 : ivh11 ob1 0 = ivh10 ob1 0 := fl11.i ty66 rfl 0
                    have ie19 : ivh10 ob1 0 = ivb1 ob1 0 := fl10.i tob1 rfl 0
                    refine c_get (k := 0) C ck_6 dX3_decodeWord_128 w3_137 (by decide) ty73 rfl rfl (by decide) rfl ?_
                    refine c_if_ne (tgt := 138) C ⟨by omega, by omega⟩ dX3_decodeWord_131 (by decide) (fun c14 => ?_) (fun c14 => ?_)
                    · refine c_iconst C dX3_decodeWord_138 ?_
                      refine c_istore_n (lv2 := [(3, .int (iI 0)), (2, .int (iI 1)), (5, .ref ob1), (4, .int (iI aq)), (0, .ref a0), (1, .int (iI i))]) C dX3_decodeWord_139 (by decide) rfl ?_
                      refine c_iload (j := 3) C dX3_decodeWord_140 rfl ?_
                      refine c_iconst C dX3_decodeWord_142 ?_
                      refine c_aload (j := 2) (x := ob1) C dX3_decodeWord_143 rfl ?_
                      obtain ⟨rb15, rq15, trb15⟩ := W14.ref ty73 2 rfl rfl rfl
                      have lnrb15 : 1 ≤ lnh11 rb15 ∧ lnh11 rb15 ≤ 4 := W14.len trb15 rfl
                      refine c_getr (k := 2) C ck_6 dX3_decodeWord_145 w3_143 (by decide) ty73 rfl rfl (by decide) rfl rq15 ?_
                      refine c_st (st2 := [.ref rb15, .int (iI 1), .int (iI aq)]) rfl ?_
                      have ll9 : 1 ≤ lnh11 rb15 ∧ lnh11 rb15 ≤ 4 := W14.len trb15 rfl
                      refine c_alenI C dX3_decodeWord_148 trb15 rfl ?_
                      obtain ⟨mn9, hmn9, emn9⟩ := mmax_c (x := 1) (y := ((lnh11 rb15 : Nat) : Int)) ⟨by decide, by decide⟩ ⟨by omega, by omega⟩
                      have pl16 := Phi.le W14 sk9
                      refine c_mmax (w := iI mn9) C dX3_decodeWord_149 w5_105 w2_148 w1_14 w2_149 (by decide) (rom0 hph pl16 (by decide)) (Nat.le_of_ble_eq_true rfl) emn9 ?_
                      refine c_iadd C dX3_decodeWord_152 ?_
                      refine c_istore (lv2 := [(4, .int (iI (aq + mn9))), (3, .int (iI 0)), (2, .int (iI 1)), (5, .ref ob1), (0, .ref a0), (1, .int (iI i))]) C dX3_decodeWord_153 (by decide) rfl ?_
                      refine c_goto (tgt := 7) C dX3_decodeWord_155 (by decide) ?_
                      refine c_lv (lv2 := [(2, .int (iI 1)), (3, .int (iI 0)), (4, .int (iI (aq + mn9))), (0, .ref a0), (1, .int (iI i))]) [2, 1, 0, 4, 5] rfl ?_
                      exact ih1  1 0 (aq + mn9) _ _ _ _ _ (by omega) X9 W14 F12  (by omega) (by omega) (by omega)
                    · refine c_iconst C dX3_decodeWord_134 ?_
                      refine c_goto (tgt := 139) C dX3_decodeWord_135 (by decide) ?_
                      refine c_istore_n (lv2 := [(3, .int (iI 1)), (2, .int (iI 1)), (5, .ref ob1), (4, .int (iI aq)), (0, .ref a0), (1, .int (iI i))]) C dX3_decodeWord_139 (by decide) rfl ?_
                      refine c_iload (j := 3) C dX3_decodeWord_140 rfl ?_
                      refine c_iconst C dX3_decodeWord_142 ?_
                      refine c_aload (j := 2) (x := ob1) C dX3_decodeWord_143 rfl ?_
                      obtain ⟨rb16, rq16, trb16⟩ := W14.ref ty73 2 rfl rfl rfl
                      have lnrb16 : 1 ≤ lnh11 rb16 ∧ lnh11 rb16 ≤ 4 := W14.len trb16 rfl
                      refine c_getr (k := 2) C ck_6 dX3_decodeWord_145 w3_143 (by decide) ty73 rfl rfl (by decide) rfl rq16 ?_
                      refine c_st (st2 := [.ref rb16, .int (iI 1), .int (iI aq)]) rfl ?_
                      have ll10 : 1 ≤ lnh11 rb16 ∧ lnh11 rb16 ≤ 4 := W14.len trb16 rfl
                      refine c_alenI C dX3_decodeWord_148 trb16 rfl ?_
                      obtain ⟨mn10, hmn10, emn10⟩ := mmax_c (x := 1) (y := ((lnh11 rb16 : Nat) : Int)) ⟨by decide, by decide⟩ ⟨by omega, by omega⟩
                      have pl17 := Phi.le W14 sk9
                      refine c_mmax (w := iI mn10) C dX3_decodeWord_149 w5_105 w2_148 w1_14 w2_149 (by decide) (rom0 hph pl17 (by decide)) (Nat.le_of_ble_eq_true rfl) emn10 ?_
                      refine c_iadd C dX3_decodeWord_152 ?_
                      refine c_istore (lv2 := [(4, .int (iI (aq + mn10))), (3, .int (iI 1)), (2, .int (iI 1)), (5, .ref ob1), (0, .ref a0), (1, .int (iI i))]) C dX3_decodeWord_153 (by decide) rfl ?_
                      refine c_goto (tgt := 7) C dX3_decodeWord_155 (by decide) ?_
                      refine c_lv (lv2 := [(2, .int (iI 1)), (3, .int (iI 1)), (4, .int (iI (aq + mn10))), (0, .ref a0), (1, .int (iI i))]) [2, 1, 0, 4, 5] rfl ?_
                      exact ih1  1 1 (aq + mn10) _ _ _ _ _ (by omega) X9 W14 F12  (by omega) (by omega) (by omega)
            · refine c_aload (j := 0) (x := ob1) C dX3_decodeWord_49 rfl ?_
              refine d_callV (As := []) (rest := []) C hM (C_beginsSmall (a0 := ob1) Wb1 skb1 tob1  ) dX3_decodeWord_51 kV_X3_130 rfl tob1 rfl rfl (by decide) ck_6 rfl (Nat.le_of_ble_eq_true rfl) ⟨(Nat.le_of_ble_eq_true rfl), (Nat.le_of_ble_eq_true rfl)⟩ hph pl3 (show 0 + 0 = 0 from rfl) (by decide) (fun rh12 Lh12 clh12 lnh12 ivh12 rvh12 h12 => ?_)
              obtain ⟨f12, rfl, rfl, rfl, rfl, rfl, rfl, rgf12, exf12⟩ := h12
              refine c_st (st2 := [.int (iI f12)]) rfl ?_
              refine c_if_ne (tgt := 65) C ⟨by omega, by omega⟩ dX3_decodeWord_54 (by decide) (fun c15 => ?_) (fun c15 => ?_)
              · refine c_aload (j := 0) (x := ob1) C dX3_decodeWord_65 rfl ?_
                have ri16 : (-2147483648) ≤ ivb1 ob1 0 ∧ ivb1 ob1 0 ≤ 2147483647 := Wb1.int tob1 0
                refine c_get (k := 0) C ck_6 dX3_decodeWord_67 w3_137 (by decide) tob1 rfl rfl (by decide) rfl ?_
                refine c_iconst C dX3_decodeWord_70 ?_
                refine c_icmp_eq (tgt := 83) C ⟨by omega, by omega⟩ ⟨by decide, by decide⟩ dX3_decodeWord_71 (by decide) (fun c16 => ?_) (fun c16 => ?_)
                · refine c_aload (j := 0) (x := ob1) C dX3_decodeWord_83 rfl ?_
                  refine c_get (k := 0) C ck_6 dX3_decodeWord_85 w3_137 (by decide) tob1 rfl rfl (by decide) rfl ?_
                  refine c_iconst C dX3_decodeWord_88 ?_
                  refine c_icmp_ne (tgt := 96) C ⟨by omega, by omega⟩ ⟨by decide, by decide⟩ dX3_decodeWord_89 (by decide) (fun c17 => ?_) (fun c17 => ?_)
                  · refine c_iconst C dX3_decodeWord_96 ?_
                    refine c_istore_n (lv2 := [(2, .int (iI 0)), (5, .ref ob1), (3, .int (iI gr)), (4, .int (iI aq)), (0, .ref a0), (1, .int (iI i))]) C dX3_decodeWord_97 (by decide) rfl ?_
                    refine c_aload_n (j := 4) (x := a0) C dX3_decodeWord_98 rfl ?_
                    obtain ⟨rb17, rq17, trb17⟩ := Wb1.ref ty1 6 rfl rfl rfl
                    have erb17 := Wb1.sk trb17 (by decide) rfl
                    subst erb17
                    refine c_getr (k := 6) C ck_4 dX3_decodeWord_99 w1_200 (by decide) ty1 rfl rfl (by decide) rfl rq17 ?_
                    refine c_st (st2 := [.ref (sk 10)]) rfl ?_
                    refine c_iload_n (j := 0) C dX3_decodeWord_102 rfl ?_
                    refine c_if_eq (tgt := 111) C ⟨by decide, by decide⟩ dX3_decodeWord_103 (by decide) (fun _ => ?_) (fun z => absurd z (by omega))
                    refine c_bipush (z := 62) C dX3_decodeWord_111 (by decide) ?_
                    have ty74 := Xb1.ty tsk10
                    have ri17 : 0 ≤ ivb1 (sk 10) 2 ∧ ivb1 (sk 10) 2 ≤ 4001 := Wb1.int ty74 2
                    refine d_callV (As := [.int (iI 62)]) (rest := []) C hM (C_add_10 (a0 := (sk 10)) (x := 62) Wb1 skb1 ty74 ⟨by decide, by decide⟩ ) dX3_decodeWord_113 kV_X3_91 rfl ty74 rfl rfl (by decide) ck_2 rfl (Nat.le_of_ble_eq_true rfl) ⟨(Nat.le_of_ble_eq_true rfl), (Nat.le_of_ble_eq_true rfl)⟩ hph pl3 (show 0 + 0 = 0 from rfl) (by decide) (fun rh13 Lh13 clh13 lnh13 ivh13 rvh13 h13 => ?_)
                    obtain ⟨rfl, xl13, fl13, W16, exf13⟩ := h13
                    have F13 := Fb1.call Xb1 fl13 rfl
                    have ty75 := Xb1.ty tsk6
                    have ty76 := Xb1.ty tsk7
                    have ty77 := Xb1.ty tsk9
                    have ty78 := Xb1.ty tsk24
                    have ty79 := Xb1.ty tsk25
                    have X10 := Xb1.trans xl13
                    have sk10 := xl13.skl skb1
                    refine c_st (st2 := []) rfl ?_
                    have ty80 := xl13.ty ty74
                    have ri18 : 0 ≤ ivh13 (sk 10) 2 ∧ ivh13 (sk 10) 2 ≤ 4001 := W16.int ty80 2
                    have gf13 : ((ivh13 (sk 10) 2 = ivb1 (sk 10) 2 ∧ ivb1 (sk 10) 2 = 4001) ∨ (ivh13 (sk 10) 2 = ivb1 (sk 10) 2 + 1 ∧ ivb1 (sk 10) 2 < 4001)) := exf13
                    refine c_aload (j := 1) (x := ob1) C dX3_decodeWord_116 rfl ?_
                    refine c_aload_n (j := 4) (x := a0) C dX3_decodeWord_118 rfl ?_
                    have ty81 := xl13.ty ty1
                    have re5 : rvh13 a0 6 = rvb1 a0 6 := (fl13.r ty1 rfl 6)
                    rw [rq17] at re5
                    refine c_getr (k := 6) C ck_4 dX3_decodeWord_119 w1_200 (by decide) ty81 rfl rfl (by decide) rfl re5 ?_
                    refine c_st (st2 := [.ref (sk 10), .ref ob1]) rfl ?_
                    refine c_iload_n (j := 2) C dX3_decodeWord_122 rfl ?_
                    have ty82 := xl13.ty tob1
                    have pl18 := Phi.le W16 sk10
                    refine d_callV (As := [.ref (sk 10), .int (iI gr)]) (rest := []) C hM (C_wl_10 (a0 := ob1) (a1 := (sk 10)) (g := gr) W16 sk10 ty82 ty80 (by omega) ) dX3_decodeWord_123 kV_X3_137 rfl ty82 rfl rfl (by decide) ck_6 rfl (Nat.le_of_ble_eq_true rfl) ⟨(Nat.le_of_ble_eq_true rfl), (Nat.le_of_ble_eq_true rfl)⟩ hph pl18 (show 0 + 0 = 0 from rfl) (by decide) (fun rh14 Lh14 clh14 lnh14 ivh14 rvh14 h14 => ?_)
                    obtain ⟨rfl, xl14, fl14, W17, exf14⟩ := h14
                    have F14 := F13.call X10 fl14 rfl
                    have ty83 := xl13.ty ty75
                    have ty84 := xl13.ty ty76
                    have ty85 := xl13.ty ty2
                    have ty86 := xl13.ty ty77
                    have ty87 := xl13.ty ty78
                    have ty88 := xl13.ty ty79
                    have X11 := X10.trans xl14
                    have sk11 := xl14.skl sk10
                    refine c_st (st2 := []) rfl ?_
                    refine c_aload (j := 1) (x := ob1) C dX3_decodeWord_126 rfl ?_
                    have ty89 := xl14.ty ty82
                    have ri19 : (-2147483648) ≤ ivh14 ob1 0 ∧ ivh14 ob1 0 ≤ 2147483647 := W17.int ty89 0
                    have ie23 : ivh14 ob1 0 = ivh13 ob1 0 := fl14.i ty82 rfl 0
                    have ie24 : ivh13 ob1 0 = ivb1 ob1 0 := fl13.i tob1 rfl 0
                    refine c_get (k := 0) C ck_6 dX3_decodeWord_128 w3_137 (by decide) ty89 rfl rfl (by decide) rfl ?_
                    refine c_if_ne (tgt := 138) C ⟨by omega, by omega⟩ dX3_decodeWord_131 (by decide) (fun c18 => ?_) (fun c18 => ?_)
                    · refine c_iconst C dX3_decodeWord_138 ?_
                      refine c_istore_n (lv2 := [(3, .int (iI 0)), (2, .int (iI 0)), (5, .ref ob1), (4, .int (iI aq)), (0, .ref a0), (1, .int (iI i))]) C dX3_decodeWord_139 (by decide) rfl ?_
                      refine c_iload (j := 3) C dX3_decodeWord_140 rfl ?_
                      refine c_iconst C dX3_decodeWord_142 ?_
                      refine c_aload (j := 2) (x := ob1) C dX3_decodeWord_143 rfl ?_
                      obtain ⟨rb18, rq18, trb18⟩ := W17.ref ty89 2 rfl rfl rfl
                      have lnrb18 : 1 ≤ lnh14 rb18 ∧ lnh14 rb18 ≤ 4 := W17.len trb18 rfl
                      refine c_getr (k := 2) C ck_6 dX3_decodeWord_145 w3_143 (by decide) ty89 rfl rfl (by decide) rfl rq18 ?_
                      refine c_st (st2 := [.ref rb18, .int (iI 1), .int (iI aq)]) rfl ?_
                      have ll11 : 1 ≤ lnh14 rb18 ∧ lnh14 rb18 ≤ 4 := W17.len trb18 rfl
                      refine c_alenI C dX3_decodeWord_148 trb18 rfl ?_
                      obtain ⟨mn11, hmn11, emn11⟩ := mmax_c (x := 1) (y := ((lnh14 rb18 : Nat) : Int)) ⟨by decide, by decide⟩ ⟨by omega, by omega⟩
                      have pl19 := Phi.le W17 sk11
                      refine c_mmax (w := iI mn11) C dX3_decodeWord_149 w5_105 w2_148 w1_14 w2_149 (by decide) (rom0 hph pl19 (by decide)) (Nat.le_of_ble_eq_true rfl) emn11 ?_
                      refine c_iadd C dX3_decodeWord_152 ?_
                      refine c_istore (lv2 := [(4, .int (iI (aq + mn11))), (3, .int (iI 0)), (2, .int (iI 0)), (5, .ref ob1), (0, .ref a0), (1, .int (iI i))]) C dX3_decodeWord_153 (by decide) rfl ?_
                      refine c_goto (tgt := 7) C dX3_decodeWord_155 (by decide) ?_
                      refine c_lv (lv2 := [(2, .int (iI 0)), (3, .int (iI 0)), (4, .int (iI (aq + mn11))), (0, .ref a0), (1, .int (iI i))]) [2, 1, 0, 4, 5] rfl ?_
                      exact ih1  0 0 (aq + mn11) _ _ _ _ _ (by omega) X11 W17 F14  (by omega) (by omega) (by omega)
                    · refine c_iconst C dX3_decodeWord_134 ?_
                      refine c_goto (tgt := 139) C dX3_decodeWord_135 (by decide) ?_
                      refine c_istore_n (lv2 := [(3, .int (iI 1)), (2, .int (iI 0)), (5, .ref ob1), (4, .int (iI aq)), (0, .ref a0), (1, .int (iI i))]) C dX3_decodeWord_139 (by decide) rfl ?_
                      refine c_iload (j := 3) C dX3_decodeWord_140 rfl ?_
                      refine c_iconst C dX3_decodeWord_142 ?_
                      refine c_aload (j := 2) (x := ob1) C dX3_decodeWord_143 rfl ?_
                      obtain ⟨rb19, rq19, trb19⟩ := W17.ref ty89 2 rfl rfl rfl
                      have lnrb19 : 1 ≤ lnh14 rb19 ∧ lnh14 rb19 ≤ 4 := W17.len trb19 rfl
                      refine c_getr (k := 2) C ck_6 dX3_decodeWord_145 w3_143 (by decide) ty89 rfl rfl (by decide) rfl rq19 ?_
                      refine c_st (st2 := [.ref rb19, .int (iI 1), .int (iI aq)]) rfl ?_
                      have ll12 : 1 ≤ lnh14 rb19 ∧ lnh14 rb19 ≤ 4 := W17.len trb19 rfl
                      refine c_alenI C dX3_decodeWord_148 trb19 rfl ?_
                      obtain ⟨mn12, hmn12, emn12⟩ := mmax_c (x := 1) (y := ((lnh14 rb19 : Nat) : Int)) ⟨by decide, by decide⟩ ⟨by omega, by omega⟩
                      have pl20 := Phi.le W17 sk11
                      refine c_mmax (w := iI mn12) C dX3_decodeWord_149 w5_105 w2_148 w1_14 w2_149 (by decide) (rom0 hph pl20 (by decide)) (Nat.le_of_ble_eq_true rfl) emn12 ?_
                      refine c_iadd C dX3_decodeWord_152 ?_
                      refine c_istore (lv2 := [(4, .int (iI (aq + mn12))), (3, .int (iI 1)), (2, .int (iI 0)), (5, .ref ob1), (0, .ref a0), (1, .int (iI i))]) C dX3_decodeWord_153 (by decide) rfl ?_
                      refine c_goto (tgt := 7) C dX3_decodeWord_155 (by decide) ?_
                      refine c_lv (lv2 := [(2, .int (iI 0)), (3, .int (iI 1)), (4, .int (iI (aq + mn12))), (0, .ref a0), (1, .int (iI i))]) [2, 1, 0, 4, 5] rfl ?_
                      exact ih1  0 1 (aq + mn12) _ _ _ _ _ (by omega) X11 W17 F14  (by omega) (by omega) (by omega)
                  · refine c_iconst C dX3_decodeWord_92 ?_
                    refine c_goto (tgt := 97) C dX3_decodeWord_93 (by decide) ?_
                    refine c_istore_n (lv2 := [(2, .int (iI 1)), (5, .ref ob1), (3, .int (iI gr)), (4, .int (iI aq)), (0, .ref a0), (1, .int (iI i))]) C dX3_decodeWord_97 (by decide) rfl ?_
                    refine c_aload_n (j := 4) (x := a0) C dX3_decodeWord_98 rfl ?_
                    obtain ⟨rb20, rq20, trb20⟩ := Wb1.ref ty1 6 rfl rfl rfl
                    have erb20 := Wb1.sk trb20 (by decide) rfl
                    subst erb20
                    refine c_getr (k := 6) C ck_4 dX3_decodeWord_99 w1_200 (by decide) ty1 rfl rfl (by decide) rfl rq20 ?_
                    refine c_st (st2 := [.ref (sk 10)]) rfl ?_
                    refine c_iload_n (j := 0) C dX3_decodeWord_102 rfl ?_
                    refine c_if_eq (tgt := 111) C ⟨by decide, by decide⟩ dX3_decodeWord_103 (by decide) (fun z => absurd z (by omega)) (fun _ => ?_)
                    refine c_bipush (z := 60) C dX3_decodeWord_106 (by decide) ?_
                    refine c_goto (tgt := 113) C dX3_decodeWord_108 (by decide) ?_
                    have ty90 := Xb1.ty tsk10
                    have ri20 : 0 ≤ ivb1 (sk 10) 2 ∧ ivb1 (sk 10) 2 ≤ 4001 := Wb1.int ty90 2
                    refine d_callV (As := [.int (iI 60)]) (rest := []) C hM (C_add_10 (a0 := (sk 10)) (x := 60) Wb1 skb1 ty90 ⟨by decide, by decide⟩ ) dX3_decodeWord_113 kV_X3_91 rfl ty90 rfl rfl (by decide) ck_2 rfl (Nat.le_of_ble_eq_true rfl) ⟨(Nat.le_of_ble_eq_true rfl), (Nat.le_of_ble_eq_true rfl)⟩ hph pl3 (show 0 + 0 = 0 from rfl) (by decide) (fun rh15 Lh15 clh15 lnh15 ivh15 rvh15 h15 => ?_)
                    obtain ⟨rfl, xl15, fl15, W18, exf15⟩ := h15
                    have F15 := Fb1.call Xb1 fl15 rfl
                    have ty91 := Xb1.ty tsk6
                    have ty92 := Xb1.ty tsk7
                    have ty93 := Xb1.ty tsk9
                    have ty94 := Xb1.ty tsk24
                    have ty95 := Xb1.ty tsk25
                    have X12 := Xb1.trans xl15
                    have sk12 := xl15.skl skb1
                    refine c_st (st2 := []) rfl ?_
                    have ty96 := xl15.ty ty90
                    have ri21 : 0 ≤ ivh15 (sk 10) 2 ∧ ivh15 (sk 10) 2 ≤ 4001 := W18.int ty96 2
                    have gf15 : ((ivh15 (sk 10) 2 = ivb1 (sk 10) 2 ∧ ivb1 (sk 10) 2 = 4001) ∨ (ivh15 (sk 10) 2 = ivb1 (sk 10) 2 + 1 ∧ ivb1 (sk 10) 2 < 4001)) := exf15
                    refine c_aload (j := 1) (x := ob1) C dX3_decodeWord_116 rfl ?_
                    refine c_aload_n (j := 4) (x := a0) C dX3_decodeWord_118 rfl ?_
                    have ty97 := xl15.ty ty1
                    have re6 : rvh15 a0 6 = rvb1 a0 6 := (fl15.r ty1 rfl 6)
                    rw [rq20] at re6
                    refine c_getr (k := 6) C ck_4 dX3_decodeWord_119 w1_200 (by decide) ty97 rfl rfl (by decide) rfl re6 ?_
                    refine c_st (st2 := [.ref (sk 10), .ref ob1]) rfl ?_
                    refine c_iload_n (j := 2) C dX3_decodeWord_122 rfl ?_
                    have ty98 := xl15.ty tob1
                    have pl21 := Phi.le W18 sk12
                    refine d_callV (As := [.ref (sk 10), .int (iI gr)]) (rest := []) C hM (C_wl_10 (a0 := ob1) (a1 := (sk 10)) (g := gr) W18 sk12 ty98 ty96 (by omega) ) dX3_decodeWord_123 kV_X3_137 rfl ty98 rfl rfl (by decide) ck_6 rfl (Nat.le_of_ble_eq_true rfl) ⟨(Nat.le_of_ble_eq_true rfl), (Nat.le_of_ble_eq_true rfl)⟩ hph pl21 (show 0 + 0 = 0 from rfl) (by decide) (fun rh16 Lh16 clh16 lnh16 ivh16 rvh16 h16 => ?_)
                    obtain ⟨rfl, xl16, fl16, W19, exf16⟩ := h16
                    have F16 := F15.call X12 fl16 rfl
                    have ty99 := xl15.ty ty91
                    have ty100 := xl15.ty ty92
                    have ty101 := xl15.ty ty2
                    have ty102 := xl15.ty ty93
                    have ty103 := xl15.ty ty94
                    have ty104 := xl15.ty ty95
                    have X13 := X12.trans xl16
                    have sk13 := xl16.skl sk12
                    refine c_st (st2 := []) rfl ?_
                    refine c_aload (j := 1) (x := ob1) C dX3_decodeWord_126 rfl ?_
                    have ty105 := xl16.ty ty98
                    have ri22 : (-2147483648) ≤ ivh16 ob1 0 ∧ ivh16 ob1 0 ≤ 2147483647 := W19.int ty105 0
                    have ie27 : ivh16 ob1 0 = ivh15 ob1 0 := fl16.i ty98 rfl 0
                    have ie28 : ivh15 ob1 0 = ivb1 ob1 0 := fl15.i tob1 rfl 0
                    refine c_get (k := 0) C ck_6 dX3_decodeWord_128 w3_137 (by decide) ty105 rfl rfl (by decide) rfl ?_
                    refine c_if_ne (tgt := 138) C ⟨by omega, by omega⟩ dX3_decodeWord_131 (by decide) (fun c19 => ?_) (fun c19 => ?_)
                    · refine c_iconst C dX3_decodeWord_138 ?_
                      refine c_istore_n (lv2 := [(3, .int (iI 0)), (2, .int (iI 1)), (5, .ref ob1), (4, .int (iI aq)), (0, .ref a0), (1, .int (iI i))]) C dX3_decodeWord_139 (by decide) rfl ?_
                      refine c_iload (j := 3) C dX3_decodeWord_140 rfl ?_
                      refine c_iconst C dX3_decodeWord_142 ?_
                      refine c_aload (j := 2) (x := ob1) C dX3_decodeWord_143 rfl ?_
                      obtain ⟨rb21, rq21, trb21⟩ := W19.ref ty105 2 rfl rfl rfl
                      have lnrb21 : 1 ≤ lnh16 rb21 ∧ lnh16 rb21 ≤ 4 := W19.len trb21 rfl
                      refine c_getr (k := 2) C ck_6 dX3_decodeWord_145 w3_143 (by decide) ty105 rfl rfl (by decide) rfl rq21 ?_
                      refine c_st (st2 := [.ref rb21, .int (iI 1), .int (iI aq)]) rfl ?_
                      have ll13 : 1 ≤ lnh16 rb21 ∧ lnh16 rb21 ≤ 4 := W19.len trb21 rfl
                      refine c_alenI C dX3_decodeWord_148 trb21 rfl ?_
                      obtain ⟨mn13, hmn13, emn13⟩ := mmax_c (x := 1) (y := ((lnh16 rb21 : Nat) : Int)) ⟨by decide, by decide⟩ ⟨by omega, by omega⟩
                      have pl22 := Phi.le W19 sk13
                      refine c_mmax (w := iI mn13) C dX3_decodeWord_149 w5_105 w2_148 w1_14 w2_149 (by decide) (rom0 hph pl22 (by decide)) (Nat.le_of_ble_eq_true rfl) emn13 ?_
                      refine c_iadd C dX3_decodeWord_152 ?_
                      refine c_istore (lv2 := [(4, .int (iI (aq + mn13))), (3, .int (iI 0)), (2, .int (iI 1)), (5, .ref ob1), (0, .ref a0), (1, .int (iI i))]) C dX3_decodeWord_153 (by decide) rfl ?_
                      refine c_goto (tgt := 7) C dX3_decodeWord_155 (by decide) ?_
                      refine c_lv (lv2 := [(2, .int (iI 1)), (3, .int (iI 0)), (4, .int (iI (aq + mn13))), (0, .ref a0), (1, .int (iI i))]) [2, 1, 0, 4, 5] rfl ?_
                      exact ih1  1 0 (aq + mn13) _ _ _ _ _ (by omega) X13 W19 F16  (by omega) (by omega) (by omega)
                    · refine c_iconst C dX3_decodeWord_134 ?_
                      refine c_goto (tgt := 139) C dX3_decodeWord_135 (by decide) ?_
                      refine c_istore_n (lv2 := [(3, .int (iI 1)), (2, .int (iI 1)), (5, .ref ob1), (4, .int (iI aq)), (0, .ref a0), (1, .int (iI i))]) C dX3_decodeWord_139 (by decide) rfl ?_
                      refine c_iload (j := 3) C dX3_decodeWord_140 rfl ?_
                      refine c_iconst C dX3_decodeWord_142 ?_
                      refine c_aload (j := 2) (x := ob1) C dX3_decodeWord_143 rfl ?_
                      obtain ⟨rb22, rq22, trb22⟩ := W19.ref ty105 2 rfl rfl rfl
                      have lnrb22 : 1 ≤ lnh16 rb22 ∧ lnh16 rb22 ≤ 4 := W19.len trb22 rfl
                      refine c_getr (k := 2) C ck_6 dX3_decodeWord_145 w3_143 (by decide) ty105 rfl rfl (by decide) rfl rq22 ?_
                      refine c_st (st2 := [.ref rb22, .int (iI 1), .int (iI aq)]) rfl ?_
                      have ll14 : 1 ≤ lnh16 rb22 ∧ lnh16 rb22 ≤ 4 := W19.len trb22 rfl
                      refine c_alenI C dX3_decodeWord_148 trb22 rfl ?_
                      obtain ⟨mn14, hmn14, emn14⟩ := mmax_c (x := 1) (y := ((lnh16 rb22 : Nat) : Int)) ⟨by decide, by decide⟩ ⟨by omega, by omega⟩
                      have pl23 := Phi.le W19 sk13
                      refine c_mmax (w := iI mn14) C dX3_decodeWord_149 w5_105 w2_148 w1_14 w2_149 (by decide) (rom0 hph pl23 (by decide)) (Nat.le_of_ble_eq_true rfl) emn14 ?_
                      refine c_iadd C dX3_decodeWord_152 ?_
                      refine c_istore (lv2 := [(4, .int (iI (aq + mn14))), (3, .int (iI 1)), (2, .int (iI 1)), (5, .ref ob1), (0, .ref a0), (1, .int (iI i))]) C dX3_decodeWord_153 (by decide) rfl ?_
                      refine c_goto (tgt := 7) C dX3_decodeWord_155 (by decide) ?_
                      refine c_lv (lv2 := [(2, .int (iI 1)), (3, .int (iI 1)), (4, .int (iI (aq + mn14))), (0, .ref a0), (1, .int (iI i))]) [2, 1, 0, 4, 5] rfl ?_
                      exact ih1  1 1 (aq + mn14) _ _ _ _ _ (by omega) X13 W19 F16  (by omega) (by omega) (by omega)
                · refine c_aload (j := 0) (x := ob1) C dX3_decodeWord_74 rfl ?_
                  refine c_get (k := 0) C ck_6 dX3_decodeWord_76 w3_137 (by decide) tob1 rfl rfl (by decide) rfl ?_
                  refine c_iconst C dX3_decodeWord_79 ?_
                  refine c_icmp_ne (tgt := 116) C ⟨by omega, by omega⟩ ⟨by decide, by decide⟩ dX3_decodeWord_80 (by decide) (fun c20 => ?_) (fun c20 => ?_)
                  · refine c_aload (j := 0) (x := ob1) C dX3_decodeWord_116 rfl ?_
                    refine c_aload_n (j := 4) (x := a0) C dX3_decodeWord_118 rfl ?_
                    obtain ⟨rb23, rq23, trb23⟩ := Wb1.ref ty1 6 rfl rfl rfl
                    have erb23 := Wb1.sk trb23 (by decide) rfl
                    subst erb23
                    refine c_getr (k := 6) C ck_4 dX3_decodeWord_119 w1_200 (by decide) ty1 rfl rfl (by decide) rfl rq23 ?_
                    refine c_st (st2 := [.ref (sk 10), .ref ob1]) rfl ?_
                    refine c_iload_n (j := 2) C dX3_decodeWord_122 rfl ?_
                    have ty106 := Xb1.ty tsk10
                    refine d_callV (As := [.ref (sk 10), .int (iI gr)]) (rest := []) C hM (C_wl_10 (a0 := ob1) (a1 := (sk 10)) (g := gr) Wb1 skb1 tob1 ty106 (by omega) ) dX3_decodeWord_123 kV_X3_137 rfl tob1 rfl rfl (by decide) ck_6 rfl (Nat.le_of_ble_eq_true rfl) ⟨(Nat.le_of_ble_eq_true rfl), (Nat.le_of_ble_eq_true rfl)⟩ hph pl3 (show 0 + 0 = 0 from rfl) (by decide) (fun rh17 Lh17 clh17 lnh17 ivh17 rvh17 h17 => ?_)
                    obtain ⟨rfl, xl17, fl17, W20, exf17⟩ := h17
                    have F17 := Fb1.call Xb1 fl17 rfl
                    have ty107 := Xb1.ty tsk6
                    have ty108 := Xb1.ty tsk7
                    have ty109 := Xb1.ty tsk9
                    have ty110 := Xb1.ty tsk24
                    have ty111 := Xb1.ty tsk25
                    have X14 := Xb1.trans xl17
                    have sk14 := xl17.skl skb1
                    refine c_st (st2 := []) rfl ?_
                    refine c_aload (j := 0) (x := ob1) C dX3_decodeWord_126 rfl ?_
                    have ty112 := xl17.ty tob1
                    have ri23 : (-2147483648) ≤ ivh17 ob1 0 ∧ ivh17 ob1 0 ≤ 2147483647 := W20.int ty112 0
                    have ie29 : ivh17 ob1 0 = ivb1 ob1 0 := fl17.i tob1 rfl 0
                    refine c_get (k := 0) C ck_6 dX3_decodeWord_128 w3_137 (by decide) ty112 rfl rfl (by decide) rfl ?_
                    refine c_if_ne (tgt := 138) C ⟨by omega, by omega⟩ dX3_decodeWord_131 (by decide) (fun c21 => ?_) (fun c21 => ?_)
                    · refine c_iconst C dX3_decodeWord_138 ?_
                      refine c_istore_n (lv2 := [(3, .int (iI 0)), (5, .ref ob1), (2, .int (iI sc)), (4, .int (iI aq)), (0, .ref a0), (1, .int (iI i))]) C dX3_decodeWord_139 (by decide) rfl ?_
                      refine c_iload (j := 3) C dX3_decodeWord_140 rfl ?_
                      refine c_iconst C dX3_decodeWord_142 ?_
                      refine c_aload (j := 1) (x := ob1) C dX3_decodeWord_143 rfl ?_
                      obtain ⟨rb24, rq24, trb24⟩ := W20.ref ty112 2 rfl rfl rfl
                      have lnrb24 : 1 ≤ lnh17 rb24 ∧ lnh17 rb24 ≤ 4 := W20.len trb24 rfl
                      refine c_getr (k := 2) C ck_6 dX3_decodeWord_145 w3_143 (by decide) ty112 rfl rfl (by decide) rfl rq24 ?_
                      refine c_st (st2 := [.ref rb24, .int (iI 1), .int (iI aq)]) rfl ?_
                      have ll15 : 1 ≤ lnh17 rb24 ∧ lnh17 rb24 ≤ 4 := W20.len trb24 rfl
                      refine c_alenI C dX3_decodeWord_148 trb24 rfl ?_
                      obtain ⟨mn15, hmn15, emn15⟩ := mmax_c (x := 1) (y := ((lnh17 rb24 : Nat) : Int)) ⟨by decide, by decide⟩ ⟨by omega, by omega⟩
                      have pl24 := Phi.le W20 sk14
                      refine c_mmax (w := iI mn15) C dX3_decodeWord_149 w5_105 w2_148 w1_14 w2_149 (by decide) (rom0 hph pl24 (by decide)) (Nat.le_of_ble_eq_true rfl) emn15 ?_
                      refine c_iadd C dX3_decodeWord_152 ?_
                      refine c_istore (lv2 := [(4, .int (iI (aq + mn15))), (3, .int (iI 0)), (5, .ref ob1), (2, .int (iI sc)), (0, .ref a0), (1, .int (iI i))]) C dX3_decodeWord_153 (by decide) rfl ?_
                      refine c_goto (tgt := 7) C dX3_decodeWord_155 (by decide) ?_
                      refine c_lv (lv2 := [(2, .int (iI sc)), (3, .int (iI 0)), (4, .int (iI (aq + mn15))), (0, .ref a0), (1, .int (iI i))]) [3, 1, 0, 4, 5] rfl ?_
                      exact ih1  sc 0 (aq + mn15) _ _ _ _ _ (by omega) X14 W20 F17  (by omega) (by omega) (by omega)
                    · refine c_iconst C dX3_decodeWord_134 ?_
                      refine c_goto (tgt := 139) C dX3_decodeWord_135 (by decide) ?_
                      refine c_istore_n (lv2 := [(3, .int (iI 1)), (5, .ref ob1), (2, .int (iI sc)), (4, .int (iI aq)), (0, .ref a0), (1, .int (iI i))]) C dX3_decodeWord_139 (by decide) rfl ?_
                      refine c_iload (j := 3) C dX3_decodeWord_140 rfl ?_
                      refine c_iconst C dX3_decodeWord_142 ?_
                      refine c_aload (j := 1) (x := ob1) C dX3_decodeWord_143 rfl ?_
                      obtain ⟨rb25, rq25, trb25⟩ := W20.ref ty112 2 rfl rfl rfl
                      have lnrb25 : 1 ≤ lnh17 rb25 ∧ lnh17 rb25 ≤ 4 := W20.len trb25 rfl
                      refine c_getr (k := 2) C ck_6 dX3_decodeWord_145 w3_143 (by decide) ty112 rfl rfl (by decide) rfl rq25 ?_
                      refine c_st (st2 := [.ref rb25, .int (iI 1), .int (iI aq)]) rfl ?_
                      have ll16 : 1 ≤ lnh17 rb25 ∧ lnh17 rb25 ≤ 4 := W20.len trb25 rfl
                      refine c_alenI C dX3_decodeWord_148 trb25 rfl ?_
                      obtain ⟨mn16, hmn16, emn16⟩ := mmax_c (x := 1) (y := ((lnh17 rb25 : Nat) : Int)) ⟨by decide, by decide⟩ ⟨by omega, by omega⟩
                      have pl25 := Phi.le W20 sk14
                      refine c_mmax (w := iI mn16) C dX3_decodeWord_149 w5_105 w2_148 w1_14 w2_149 (by decide) (rom0 hph pl25 (by decide)) (Nat.le_of_ble_eq_true rfl) emn16 ?_
                      refine c_iadd C dX3_decodeWord_152 ?_
                      refine c_istore (lv2 := [(4, .int (iI (aq + mn16))), (3, .int (iI 1)), (5, .ref ob1), (2, .int (iI sc)), (0, .ref a0), (1, .int (iI i))]) C dX3_decodeWord_153 (by decide) rfl ?_
                      refine c_goto (tgt := 7) C dX3_decodeWord_155 (by decide) ?_
                      refine c_lv (lv2 := [(2, .int (iI sc)), (3, .int (iI 1)), (4, .int (iI (aq + mn16))), (0, .ref a0), (1, .int (iI i))]) [3, 1, 0, 4, 5] rfl ?_
                      exact ih1  sc 1 (aq + mn16) _ _ _ _ _ (by omega) X14 W20 F17  (by omega) (by omega) (by omega)
                  · refine c_aload (j := 0) (x := ob1) C dX3_decodeWord_83 rfl ?_
                    refine c_get (k := 0) C ck_6 dX3_decodeWord_85 w3_137 (by decide) tob1 rfl rfl (by decide) rfl ?_
                    refine c_iconst C dX3_decodeWord_88 ?_
                    refine c_icmp_ne (tgt := 96) C ⟨by omega, by omega⟩ ⟨by decide, by decide⟩ dX3_decodeWord_89 (by decide) (fun c22 => ?_) (fun c22 => ?_)
                    · refine c_iconst C dX3_decodeWord_96 ?_
                      refine c_istore_n (lv2 := [(2, .int (iI 0)), (5, .ref ob1), (3, .int (iI gr)), (4, .int (iI aq)), (0, .ref a0), (1, .int (iI i))]) C dX3_decodeWord_97 (by decide) rfl ?_
                      refine c_aload_n (j := 4) (x := a0) C dX3_decodeWord_98 rfl ?_
                      obtain ⟨rb26, rq26, trb26⟩ := Wb1.ref ty1 6 rfl rfl rfl
                      have erb26 := Wb1.sk trb26 (by decide) rfl
                      subst erb26
                      refine c_getr (k := 6) C ck_4 dX3_decodeWord_99 w1_200 (by decide) ty1 rfl rfl (by decide) rfl rq26 ?_
                      refine c_st (st2 := [.ref (sk 10)]) rfl ?_
                      refine c_iload_n (j := 0) C dX3_decodeWord_102 rfl ?_
                      refine c_if_eq (tgt := 111) C ⟨by decide, by decide⟩ dX3_decodeWord_103 (by decide) (fun _ => ?_) (fun z => absurd z (by omega))
                      refine c_bipush (z := 62) C dX3_decodeWord_111 (by decide) ?_
                      have ty113 := Xb1.ty tsk10
                      have ri24 : 0 ≤ ivb1 (sk 10) 2 ∧ ivb1 (sk 10) 2 ≤ 4001 := Wb1.int ty113 2
                      refine d_callV (As := [.int (iI 62)]) (rest := []) C hM (C_add_10 (a0 := (sk 10)) (x := 62) Wb1 skb1 ty113 ⟨by decide, by decide⟩ ) dX3_decodeWord_113 kV_X3_91 rfl ty113 rfl rfl (by decide) ck_2 rfl (Nat.le_of_ble_eq_true rfl) ⟨(Nat.le_of_ble_eq_true rfl), (Nat.le_of_ble_eq_true rfl)⟩ hph pl3 (show 0 + 0 = 0 from rfl) (by decide) (fun rh18 Lh18 clh18 lnh18 ivh18 rvh18 h18 => ?_)
                      obtain ⟨rfl, xl18, fl18, W21, exf18⟩ := h18
                      have F18 := Fb1.call Xb1 fl18 rfl
                      have ty114 := Xb1.ty tsk6
                      have ty115 := Xb1.ty tsk7
                      have ty116 := Xb1.ty tsk9
                      have ty117 := Xb1.ty tsk24
                      have ty118 := Xb1.ty tsk25
                      have X15 := Xb1.trans xl18
                      have sk15 := xl18.skl skb1
                      refine c_st (st2 := []) rfl ?_
                      have ty119 := xl18.ty ty113
                      have ri25 : 0 ≤ ivh18 (sk 10) 2 ∧ ivh18 (sk 10) 2 ≤ 4001 := W21.int ty119 2
                      have gf18 : ((ivh18 (sk 10) 2 = ivb1 (sk 10) 2 ∧ ivb1 (sk 10) 2 = 4001) ∨ (ivh18 (sk 10) 2 = ivb1 (sk 10) 2 + 1 ∧ ivb1 (sk 10) 2 < 4001)) := exf18
                      refine c_aload (j := 1) (x := ob1) C dX3_decodeWord_116 rfl ?_
                      refine c_aload_n (j := 4) (x := a0) C dX3_decodeWord_118 rfl ?_
                      have ty120 := xl18.ty ty1
                      have re7 : rvh18 a0 6 = rvb1 a0 6 := (fl18.r ty1 rfl 6)
                      rw [rq26] at re7
                      refine c_getr (k := 6) C ck_4 dX3_decodeWord_119 w1_200 (by decide) ty120 rfl rfl (by decide) rfl re7 ?_
                      refine c_st (st2 := [.ref (sk 10), .ref ob1]) rfl ?_
                      refine c_iload_n (j := 2) C dX3_decodeWord_122 rfl ?_
                      have ty121 := xl18.ty tob1
                      have pl26 := Phi.le W21 sk15
                      refine d_callV (As := [.ref (sk 10), .int (iI gr)]) (rest := []) C hM (C_wl_10 (a0 := ob1) (a1 := (sk 10)) (g := gr) W21 sk15 ty121 ty119 (by omega) ) dX3_decodeWord_123 kV_X3_137 rfl ty121 rfl rfl (by decide) ck_6 rfl (Nat.le_of_ble_eq_true rfl) ⟨(Nat.le_of_ble_eq_true rfl), (Nat.le_of_ble_eq_true rfl)⟩ hph pl26 (show 0 + 0 = 0 from rfl) (by decide) (fun rh19 Lh19 clh19 lnh19 ivh19 rvh19 h19 => ?_)
                      obtain ⟨rfl, xl19, fl19, W22, exf19⟩ := h19
                      have F19 := F18.call X15 fl19 rfl
                      have ty122 := xl18.ty ty114
                      have ty123 := xl18.ty ty115
                      have ty124 := xl18.ty ty2
                      have ty125 := xl18.ty ty116
                      have ty126 := xl18.ty ty117
                      have ty127 := xl18.ty ty118
                      have X16 := X15.trans xl19
                      have sk16 := xl19.skl sk15
                      refine c_st (st2 := []) rfl ?_
                      refine c_aload (j := 1) (x := ob1) C dX3_decodeWord_126 rfl ?_
                      have ty128 := xl19.ty ty121
                      have ri26 : (-2147483648) ≤ ivh19 ob1 0 ∧ ivh19 ob1 0 ≤ 2147483647 := W22.int ty128 0
                      have ie32 : ivh19 ob1 0 = ivh18 ob1 0 := fl19.i ty121 rfl 0
                      have ie33 : ivh18 ob1 0 = ivb1 ob1 0 := fl18.i tob1 rfl 0
                      refine c_get (k := 0) C ck_6 dX3_decodeWord_128 w3_137 (by decide) ty128 rfl rfl (by decide) rfl ?_
                      refine c_if_ne (tgt := 138) C ⟨by omega, by omega⟩ dX3_decodeWord_131 (by decide) (fun c23 => ?_) (fun c23 => ?_)
                      · refine c_iconst C dX3_decodeWord_138 ?_
                        refine c_istore_n (lv2 := [(3, .int (iI 0)), (2, .int (iI 0)), (5, .ref ob1), (4, .int (iI aq)), (0, .ref a0), (1, .int (iI i))]) C dX3_decodeWord_139 (by decide) rfl ?_
                        refine c_iload (j := 3) C dX3_decodeWord_140 rfl ?_
                        refine c_iconst C dX3_decodeWord_142 ?_
                        refine c_aload (j := 2) (x := ob1) C dX3_decodeWord_143 rfl ?_
                        obtain ⟨rb27, rq27, trb27⟩ := W22.ref ty128 2 rfl rfl rfl
                        have lnrb27 : 1 ≤ lnh19 rb27 ∧ lnh19 rb27 ≤ 4 := W22.len trb27 rfl
                        refine c_getr (k := 2) C ck_6 dX3_decodeWord_145 w3_143 (by decide) ty128 rfl rfl (by decide) rfl rq27 ?_
                        refine c_st (st2 := [.ref rb27, .int (iI 1), .int (iI aq)]) rfl ?_
                        have ll17 : 1 ≤ lnh19 rb27 ∧ lnh19 rb27 ≤ 4 := W22.len trb27 rfl
                        refine c_alenI C dX3_decodeWord_148 trb27 rfl ?_
                        obtain ⟨mn17, hmn17, emn17⟩ := mmax_c (x := 1) (y := ((lnh19 rb27 : Nat) : Int)) ⟨by decide, by decide⟩ ⟨by omega, by omega⟩
                        have pl27 := Phi.le W22 sk16
                        refine c_mmax (w := iI mn17) C dX3_decodeWord_149 w5_105 w2_148 w1_14 w2_149 (by decide) (rom0 hph pl27 (by decide)) (Nat.le_of_ble_eq_true rfl) emn17 ?_
                        refine c_iadd C dX3_decodeWord_152 ?_
                        refine c_istore (lv2 := [(4, .int (iI (aq + mn17))), (3, .int (iI 0)), (2, .int (iI 0)), (5, .ref ob1), (0, .ref a0), (1, .int (iI i))]) C dX3_decodeWord_153 (by decide) rfl ?_
                        refine c_goto (tgt := 7) C dX3_decodeWord_155 (by decide) ?_
                        refine c_lv (lv2 := [(2, .int (iI 0)), (3, .int (iI 0)), (4, .int (iI (aq + mn17))), (0, .ref a0), (1, .int (iI i))]) [2, 1, 0, 4, 5] rfl ?_
                        exact ih1  0 0 (aq + mn17) _ _ _ _ _ (by omega) X16 W22 F19  (by omega) (by omega) (by omega)
                      · refine c_iconst C dX3_decodeWord_134 ?_
                        refine c_goto (tgt := 139) C dX3_decodeWord_135 (by decide) ?_
                        refine c_istore_n (lv2 := [(3, .int (iI 1)), (2, .int (iI 0)), (5, .ref ob1), (4, .int (iI aq)), (0, .ref a0), (1, .int (iI i))]) C dX3_decodeWord_139 (by decide) rfl ?_
                        refine c_iload (j := 3) C dX3_decodeWord_140 rfl ?_
                        refine c_iconst C dX3_decodeWord_142 ?_
                        refine c_aload (j := 2) (x := ob1) C dX3_decodeWord_143 rfl ?_
                        obtain ⟨rb28, rq28, trb28⟩ := W22.ref ty128 2 rfl rfl rfl
                        have lnrb28 : 1 ≤ lnh19 rb28 ∧ lnh19 rb28 ≤ 4 := W22.len trb28 rfl
                        refine c_getr (k := 2) C ck_6 dX3_decodeWord_145 w3_143 (by decide) ty128 rfl rfl (by decide) rfl rq28 ?_
                        refine c_st (st2 := [.ref rb28, .int (iI 1), .int (iI aq)]) rfl ?_
                        have ll18 : 1 ≤ lnh19 rb28 ∧ lnh19 rb28 ≤ 4 := W22.len trb28 rfl
                        refine c_alenI C dX3_decodeWord_148 trb28 rfl ?_
                        obtain ⟨mn18, hmn18, emn18⟩ := mmax_c (x := 1) (y := ((lnh19 rb28 : Nat) : Int)) ⟨by decide, by decide⟩ ⟨by omega, by omega⟩
                        have pl28 := Phi.le W22 sk16
                        refine c_mmax (w := iI mn18) C dX3_decodeWord_149 w5_105 w2_148 w1_14 w2_149 (by decide) (rom0 hph pl28 (by decide)) (Nat.le_of_ble_eq_true rfl) emn18 ?_
                        refine c_iadd C dX3_decodeWord_152 ?_
                        refine c_istore (lv2 := [(4, .int (iI (aq + mn18))), (3, .int (iI 1)), (2, .int (iI 0)), (5, .ref ob1), (0, .ref a0), (1, .int (iI i))]) C dX3_decodeWord_153 (by decide) rfl ?_
                        refine c_goto (tgt := 7) C dX3_decodeWord_155 (by decide) ?_
                        refine c_lv (lv2 := [(2, .int (iI 0)), (3, .int (iI 1)), (4, .int (iI (aq + mn18))), (0, .ref a0), (1, .int (iI i))]) [2, 1, 0, 4, 5] rfl ?_
                        exact ih1  0 1 (aq + mn18) _ _ _ _ _ (by omega) X16 W22 F19  (by omega) (by omega) (by omega)
                    · refine c_iconst C dX3_decodeWord_92 ?_
                      refine c_goto (tgt := 97) C dX3_decodeWord_93 (by decide) ?_
                      refine c_istore_n (lv2 := [(2, .int (iI 1)), (5, .ref ob1), (3, .int (iI gr)), (4, .int (iI aq)), (0, .ref a0), (1, .int (iI i))]) C dX3_decodeWord_97 (by decide) rfl ?_
                      refine c_aload_n (j := 4) (x := a0) C dX3_decodeWord_98 rfl ?_
                      obtain ⟨rb29, rq29, trb29⟩ := Wb1.ref ty1 6 rfl rfl rfl
                      have erb29 := Wb1.sk trb29 (by decide) rfl
                      subst erb29
                      refine c_getr (k := 6) C ck_4 dX3_decodeWord_99 w1_200 (by decide) ty1 rfl rfl (by decide) rfl rq29 ?_
                      refine c_st (st2 := [.ref (sk 10)]) rfl ?_
                      refine c_iload_n (j := 0) C dX3_decodeWord_102 rfl ?_
                      refine c_if_eq (tgt := 111) C ⟨by decide, by decide⟩ dX3_decodeWord_103 (by decide) (fun z => absurd z (by omega)) (fun _ => ?_)
                      refine c_bipush (z := 60) C dX3_decodeWord_106 (by decide) ?_
                      refine c_goto (tgt := 113) C dX3_decodeWord_108 (by decide) ?_
                      have ty129 := Xb1.ty tsk10
                      have ri27 : 0 ≤ ivb1 (sk 10) 2 ∧ ivb1 (sk 10) 2 ≤ 4001 := Wb1.int ty129 2
                      refine d_callV (As := [.int (iI 60)]) (rest := []) C hM (C_add_10 (a0 := (sk 10)) (x := 60) Wb1 skb1 ty129 ⟨by decide, by decide⟩ ) dX3_decodeWord_113 kV_X3_91 rfl ty129 rfl rfl (by decide) ck_2 rfl (Nat.le_of_ble_eq_true rfl) ⟨(Nat.le_of_ble_eq_true rfl), (Nat.le_of_ble_eq_true rfl)⟩ hph pl3 (show 0 + 0 = 0 from rfl) (by decide) (fun rh20 Lh20 clh20 lnh20 ivh20 rvh20 h20 => ?_)
                      obtain ⟨rfl, xl20, fl20, W23, exf20⟩ := h20
                      have F20 := Fb1.call Xb1 fl20 rfl
                      have ty130 := Xb1.ty tsk6
                      have ty131 := Xb1.ty tsk7
                      have ty132 := Xb1.ty tsk9
                      have ty133 := Xb1.ty tsk24
                      have ty134 := Xb1.ty tsk25
                      have X17 := Xb1.trans xl20
                      have sk17 := xl20.skl skb1
                      refine c_st (st2 := []) rfl ?_
                      have ty135 := xl20.ty ty129
                      have ri28 : 0 ≤ ivh20 (sk 10) 2 ∧ ivh20 (sk 10) 2 ≤ 4001 := W23.int ty135 2
                      have gf20 : ((ivh20 (sk 10) 2 = ivb1 (sk 10) 2 ∧ ivb1 (sk 10) 2 = 4001) ∨ (ivh20 (sk 10) 2 = ivb1 (sk 10) 2 + 1 ∧ ivb1 (sk 10) 2 < 4001)) := exf20
                      refine c_aload (j := 1) (x := ob1) C dX3_decodeWord_116 rfl ?_
                      refine c_aload_n (j := 4) (x := a0) C dX3_decodeWord_118 rfl ?_
                      have ty136 := xl20.ty ty1
                      have re8 : rvh20 a0 6 = rvb1 a0 6 := (fl20.r ty1 rfl 6)
                      rw [rq29] at re8
                      refine c_getr (k := 6) C ck_4 dX3_decodeWord_119 w1_200 (by decide) ty136 rfl rfl (by decide) rfl re8 ?_
                      refine c_st (st2 := [.ref (sk 10), .ref ob1]) rfl ?_
                      refine c_iload_n (j := 2) C dX3_decodeWord_122 rfl ?_
                      have ty137 := xl20.ty tob1
                      have pl29 := Phi.le W23 sk17
                      refine d_callV (As := [.ref (sk 10), .int (iI gr)]) (rest := []) C hM (C_wl_10 (a0 := ob1) (a1 := (sk 10)) (g := gr) W23 sk17 ty137 ty135 (by omega) ) dX3_decodeWord_123 kV_X3_137 rfl ty137 rfl rfl (by decide) ck_6 rfl (Nat.le_of_ble_eq_true rfl) ⟨(Nat.le_of_ble_eq_true rfl), (Nat.le_of_ble_eq_true rfl)⟩ hph pl29 (show 0 + 0 = 0 from rfl) (by decide) (fun rh21 Lh21 clh21 lnh21 ivh21 rvh21 h21 => ?_)
                      obtain ⟨rfl, xl21, fl21, W24, exf21⟩ := h21
                      have F21 := F20.call X17 fl21 rfl
                      have ty138 := xl20.ty ty130
                      have ty139 := xl20.ty ty131
                      have ty140 := xl20.ty ty2
                      have ty141 := xl20.ty ty132
                      have ty142 := xl20.ty ty133
                      have ty143 := xl20.ty ty134
                      have X18 := X17.trans xl21
                      have sk18 := xl21.skl sk17
                      refine c_st (st2 := []) rfl ?_
                      refine c_aload (j := 1) (x := ob1) C dX3_decodeWord_126 rfl ?_
                      have ty144 := xl21.ty ty137
                      have ri29 : (-2147483648) ≤ ivh21 ob1 0 ∧ ivh21 ob1 0 ≤ 2147483647 := W24.int ty144 0
                      have ie36 : ivh21 ob1 0 = ivh20 ob1 0 := fl21.i ty137 rfl 0
                      have ie37 : ivh20 ob1 0 = ivb1 ob1 0 := fl20.i tob1 rfl 0
                      refine c_get (k := 0) C ck_6 dX3_decodeWord_128 w3_137 (by decide) ty144 rfl rfl (by decide) rfl ?_
                      refine c_if_ne (tgt := 138) C ⟨by omega, by omega⟩ dX3_decodeWord_131 (by decide) (fun c24 => ?_) (fun c24 => ?_)
                      · refine c_iconst C dX3_decodeWord_138 ?_
                        refine c_istore_n (lv2 := [(3, .int (iI 0)), (2, .int (iI 1)), (5, .ref ob1), (4, .int (iI aq)), (0, .ref a0), (1, .int (iI i))]) C dX3_decodeWord_139 (by decide) rfl ?_
                        refine c_iload (j := 3) C dX3_decodeWord_140 rfl ?_
                        refine c_iconst C dX3_decodeWord_142 ?_
                        refine c_aload (j := 2) (x := ob1) C dX3_decodeWord_143 rfl ?_
                        obtain ⟨rb30, rq30, trb30⟩ := W24.ref ty144 2 rfl rfl rfl
                        have lnrb30 : 1 ≤ lnh21 rb30 ∧ lnh21 rb30 ≤ 4 := W24.len trb30 rfl
                        refine c_getr (k := 2) C ck_6 dX3_decodeWord_145 w3_143 (by decide) ty144 rfl rfl (by decide) rfl rq30 ?_
                        refine c_st (st2 := [.ref rb30, .int (iI 1), .int (iI aq)]) rfl ?_
                        have ll19 : 1 ≤ lnh21 rb30 ∧ lnh21 rb30 ≤ 4 := W24.len trb30 rfl
                        refine c_alenI C dX3_decodeWord_148 trb30 rfl ?_
                        obtain ⟨mn19, hmn19, emn19⟩ := mmax_c (x := 1) (y := ((lnh21 rb30 : Nat) : Int)) ⟨by decide, by decide⟩ ⟨by omega, by omega⟩
                        have pl30 := Phi.le W24 sk18
                        refine c_mmax (w := iI mn19) C dX3_decodeWord_149 w5_105 w2_148 w1_14 w2_149 (by decide) (rom0 hph pl30 (by decide)) (Nat.le_of_ble_eq_true rfl) emn19 ?_
                        refine c_iadd C dX3_decodeWord_152 ?_
                        refine c_istore (lv2 := [(4, .int (iI (aq + mn19))), (3, .int (iI 0)), (2, .int (iI 1)), (5, .ref ob1), (0, .ref a0), (1, .int (iI i))]) C dX3_decodeWord_153 (by decide) rfl ?_
                        refine c_goto (tgt := 7) C dX3_decodeWord_155 (by decide) ?_
                        refine c_lv (lv2 := [(2, .int (iI 1)), (3, .int (iI 0)), (4, .int (iI (aq + mn19))), (0, .ref a0), (1, .int (iI i))]) [2, 1, 0, 4, 5] rfl ?_
                        exact ih1  1 0 (aq + mn19) _ _ _ _ _ (by omega) X18 W24 F21  (by omega) (by omega) (by omega)
                      · refine c_iconst C dX3_decodeWord_134 ?_
                        refine c_goto (tgt := 139) C dX3_decodeWord_135 (by decide) ?_
                        refine c_istore_n (lv2 := [(3, .int (iI 1)), (2, .int (iI 1)), (5, .ref ob1), (4, .int (iI aq)), (0, .ref a0), (1, .int (iI i))]) C dX3_decodeWord_139 (by decide) rfl ?_
                        refine c_iload (j := 3) C dX3_decodeWord_140 rfl ?_
                        refine c_iconst C dX3_decodeWord_142 ?_
                        refine c_aload (j := 2) (x := ob1) C dX3_decodeWord_143 rfl ?_
                        obtain ⟨rb31, rq31, trb31⟩ := W24.ref ty144 2 rfl rfl rfl
                        have lnrb31 : 1 ≤ lnh21 rb31 ∧ lnh21 rb31 ≤ 4 := W24.len trb31 rfl
                        refine c_getr (k := 2) C ck_6 dX3_decodeWord_145 w3_143 (by decide) ty144 rfl rfl (by decide) rfl rq31 ?_
                        refine c_st (st2 := [.ref rb31, .int (iI 1), .int (iI aq)]) rfl ?_
                        have ll20 : 1 ≤ lnh21 rb31 ∧ lnh21 rb31 ≤ 4 := W24.len trb31 rfl
                        refine c_alenI C dX3_decodeWord_148 trb31 rfl ?_
                        obtain ⟨mn20, hmn20, emn20⟩ := mmax_c (x := 1) (y := ((lnh21 rb31 : Nat) : Int)) ⟨by decide, by decide⟩ ⟨by omega, by omega⟩
                        have pl31 := Phi.le W24 sk18
                        refine c_mmax (w := iI mn20) C dX3_decodeWord_149 w5_105 w2_148 w1_14 w2_149 (by decide) (rom0 hph pl31 (by decide)) (Nat.le_of_ble_eq_true rfl) emn20 ?_
                        refine c_iadd C dX3_decodeWord_152 ?_
                        refine c_istore (lv2 := [(4, .int (iI (aq + mn20))), (3, .int (iI 1)), (2, .int (iI 1)), (5, .ref ob1), (0, .ref a0), (1, .int (iI i))]) C dX3_decodeWord_153 (by decide) rfl ?_
                        refine c_goto (tgt := 7) C dX3_decodeWord_155 (by decide) ?_
                        refine c_lv (lv2 := [(2, .int (iI 1)), (3, .int (iI 1)), (4, .int (iI (aq + mn20))), (0, .ref a0), (1, .int (iI i))]) [2, 1, 0, 4, 5] rfl ?_
                        exact ih1  1 1 (aq + mn20) _ _ _ _ _ (by omega) X18 W24 F21  (by omega) (by omega) (by omega)
              · refine c_aload_n (j := 4) (x := a0) C dX3_decodeWord_57 rfl ?_
                refine c_iload (j := 3) C dX3_decodeWord_58 rfl ?_
                refine c_put (z := aq) (k := 7) C ck_4 dX3_decodeWord_60 w1_202 (by decide) rfl ty1 rfl rfl (by decide) rfl (by rfl) (by rfl) (fun iv4 pq4 => ?_)
                have W25 := Wb1.puti pq4 ty1 (show (-2147483648) ≤ aq ∧ aq ≤ 2147483647 by omega) rfl
                have F22 := Fb1.puti Xb1 pq4 ty1 rfl
                refine c_iconst C dX3_decodeWord_63 ?_
                exact c_iret C dX3_decodeWord_64 rfl (by decide) (rom0 hph pl3 (by decide)) ⟨(-1), rfl, Xb1, F22, W25, ⟨by decide, by decide⟩, (by omega)⟩
  refine c_lv (lv2 := [(2, .int (iI 0)), (3, .int (iI 0)), (4, .int (iI i)), (0, .ref a0), (1, .int (iI i))]) [2, 1, 0, 3, 4] rfl ?_
  exact Lp1 40207 0 0 i _ _ _ _ _ (by omega) hX0 hW hF0  (by omega) (by omega) (by omega)
set_option maxHeartbeats 4000000 in
set_option maxRecDepth 100000 in
theorem C_decode {l : Launch} {G : GT} {mi : Nat} {sk : Nat → Nat} {L : List Nat} {cl ln : Nat → Nat} {iv : Nat → Nat → Int} {rv : Nat → Nat → Option Nat}  {a0 : Nat} (hW : WT (g0 G) sk L cl ln iv rv) (hS : SKL sk L cl) (t_a0 : ty L cl a0 16)  : Mc l G mi (Phi (g0 G) sk) PHM yX3_decode cX3_decode 4 (some .boolean) 5 [.ref a0] L cl ln iv rv 0 (fun v L2 cl2 ln2 iv2 rv2 => ∃ f : Int, v = some (.int (iI f)) ∧ XT L cl ln L2 cl2 ln2 ∧ fT [16, 10, 40] L cl iv rv iv2 rv2 ∧ WT (g0 G) sk L2 cl2 ln2 iv2 rv2 ∧ (f = 0 ∨ f = 1) ∧ (True)) := by
  refine Mc.mk (by decide) (Nat.le_of_ble_eq_true rfl) ?_
  intro p e s m args below meth c A C hM
  have hph := Phi.le hW hS
  have tsk6 : ty L cl (sk 6) 6 := ⟨(hS 6 rfl).1, by rw [(hS 6 rfl).2]; rfl⟩
  have tsk7 : ty L cl (sk 7) 7 := ⟨(hS 7 rfl).1, by rw [(hS 7 rfl).2]; rfl⟩
  have tsk8 : ty L cl (sk 8) 8 := ⟨(hS 8 rfl).1, by rw [(hS 8 rfl).2]; rfl⟩
  have tsk9 : ty L cl (sk 9) 9 := ⟨(hS 9 rfl).1, by rw [(hS 9 rfl).2]; rfl⟩
  have tsk10 : ty L cl (sk 10) 10 := ⟨(hS 10 rfl).1, by rw [(hS 10 rfl).2]; rfl⟩
  have tsk24 : ty L cl (sk 24) 24 := ⟨(hS 24 rfl).1, by rw [(hS 24 rfl).2]; rfl⟩
  have tsk25 : ty L cl (sk 25) 25 := ⟨(hS 25 rfl).1, by rw [(hS 25 rfl).2]; rfl⟩
  have hX0 : XT L cl ln L cl ln := XT.refl
  have hF0 : fT [16, 10, 40] L cl iv rv iv rv := fT.refl
  refine c_aload_n (j := 0) (x := a0) C dX3_decode_0 rfl ?_
  obtain ⟨rb1, rq1, trb1⟩ := hW.ref t_a0 6 rfl rfl rfl
  have erb1 := hW.sk trb1 (by decide) rfl
  subst erb1
  refine c_getr (k := 6) C ck_4 dX3_decode_1 w1_200 (by decide) t_a0 rfl rfl (by decide) rfl rq1 ?_
  refine c_st (st2 := [.ref (sk 10)]) rfl ?_
  refine d_callV (As := []) (rest := []) C hM (C_clear_10 (a0 := (sk 10)) hW hS tsk10  ) dX3_decode_4 kV_X3_77 rfl tsk10 rfl rfl (by decide) ck_2 rfl (Nat.le_of_ble_eq_true rfl) ⟨(Nat.le_of_ble_eq_true rfl), (Nat.le_of_ble_eq_true rfl)⟩ hph hph (show 0 + 0 = 0 from rfl) (by decide) (fun rh1 Lh1 clh1 lnh1 ivh1 rvh1 h1 => ?_)
  obtain ⟨rfl, rfl, rfl, rfl, rfl, fl1, W1, exf1⟩ := h1
  have F1 := hF0.call hX0 fl1 rfl
  refine c_st (st2 := []) rfl ?_
  have ri1 : 0 ≤ ivh1 (sk 10) 2 ∧ ivh1 (sk 10) 2 ≤ 4001 := W1.int tsk10 2
  have gf1 : ivh1 (sk 10) 2 = 0 := exf1
  refine c_iconst C dX3_decode_7 ?_
  refine c_istore_n (lv2 := [(1, .int (iI 1)), (0, .ref a0)]) C dX3_decode_8 (by decide) rfl ?_
  refine c_iconst C dX3_decode_9 ?_
  refine c_istore_n (lv2 := [(2, .int (iI 0)), (1, .int (iI 1)), (0, .ref a0)]) C dX3_decode_10 (by decide) rfl ?_
  have Lp1 : ∀ (nn : Nat) (fs aq : Int) (Lb1 : List Nat) (clb1 lnb1 : Nat → Nat) (ivb1 : Nat → Nat → Int) (rvb1 : Nat → Nat → Option Nat) , 40211 - aq < (nn : Int) → XT L cl ln Lb1 clb1 lnb1 → WT (g0 G) sk Lb1 clb1 lnb1 ivb1 rvb1 → fT [16, 10, 40] L cl iv rv ivb1 rvb1 → (fs = 0 ∨ fs = 1) → (0 ≤ aq ∧ aq ≤ 40210) → cw p l e 5 ((PHM) + 0 - ((Phi (g0 G) sk) ln rv)) s m args below meth c G A 4 (MQ below (Qu G A (Qp G (Phi (g0 G) sk) ((Phi (g0 G) sk) ln rv) 0 (fun v L2 cl2 ln2 iv2 rv2 => ∃ f : Int, v = some (.int (iI f)) ∧ XT L cl ln L2 cl2 ln2 ∧ fT [16, 10, 40] L cl iv rv iv2 rv2 ∧ WT (g0 G) sk L2 cl2 ln2 iv2 rv2 ∧ (f = 0 ∨ f = 1) ∧ (True)))) args s (((PHM) + 0 - ((Phi (g0 G) sk) ln rv)) / 16) ((PHM) + 0 - ((Phi (g0 G) sk) ln rv)) A) (Phi (g0 G) sk) ((Phi (g0 G) sk) ln rv) Lb1 clb1 lnb1 ivb1 rvb1 0 11 [(1, .int (iI fs)), (2, .int (iI aq)), (0, .ref a0)] [] := by
    intro nn
    induction nn with
    | zero =>
      intro  fs aq Lb1 clb1 lnb1 ivb1 rvb1 hm Xb1 Wb1 Fb1  hfs haq
      have skb1 := Xb1.skl hS
      exact absurd hm (by omega)
    | succ nn ih1 =>
      intro  fs aq Lb1 clb1 lnb1 ivb1 rvb1 hm Xb1 Wb1 Fb1  hfs haq
      have skb1 := Xb1.skl hS
      refine c_iload_n (j := 1) C dX3_decode_11 rfl ?_
      refine c_aload_n (j := 2) (x := a0) C dX3_decode_12 rfl ?_
      have ty1 := Xb1.ty t_a0
      obtain ⟨rb2, rq2, trb2⟩ := Wb1.ref ty1 4 rfl rfl rfl
      have erb2 := Wb1.sk trb2 (by decide) rfl
      subst erb2
      refine c_getr (k := 4) C ck_4 dX3_decode_13 w1_198 (by decide) ty1 rfl rfl (by decide) rfl rq2 ?_
      refine c_st (st2 := [.ref (sk 8), .int (iI aq)]) rfl ?_
      have ty2 := Xb1.ty tsk8
      have ri2 : 0 ≤ ivb1 (sk 8) 2 ∧ ivb1 (sk 8) 2 ≤ 40200 := Wb1.int ty2 2
      have ie2 : ivb1 (sk 8) 2 = iv (sk 8) 2 := Fb1.i tsk8 rfl 2
      refine c_get (k := 2) C ck_2 dX3_decode_16 w1_49 (by decide) ty2 rfl rfl (by decide) rfl ?_
      refine c_icmp_ge (tgt := 72) C ⟨by omega, by omega⟩ ⟨by omega, by omega⟩ dX3_decode_19 (by decide) (fun c1 => ?_) (fun c1 => ?_)
      · refine c_iconst C dX3_decode_72 ?_
        have pl1 := Phi.le Wb1 skb1
        exact c_zret C dX3_decode_73 rfl (Or.inr rfl) (by decide) (rom0 hph pl1 (by decide)) ⟨1, rfl, Xb1, Fb1, Wb1, (Or.inr rfl), trivial⟩
      · refine c_aload_n (j := 2) (x := a0) C dX3_decode_22 rfl ?_
        refine c_getr (k := 4) C ck_4 dX3_decode_23 w1_198 (by decide) ty1 rfl rfl (by decide) rfl rq2 ?_
        refine c_st (st2 := [.ref (sk 8)]) rfl ?_
        refine c_iload_n (j := 1) C dX3_decode_26 rfl ?_
        have pl2 := Phi.le Wb1 skb1
        refine d_callV (As := [.int (iI aq)]) (rest := []) C hM (C_at_8 (a0 := (sk 8)) (i := aq) Wb1 skb1 ty2 (by omega) ) dX3_decode_27 kV_X3_119 rfl ty2 rfl rfl (by decide) ck_2 rfl (Nat.le_of_ble_eq_true rfl) ⟨(Nat.le_of_ble_eq_true rfl), (Nat.le_of_ble_eq_true rfl)⟩ hph pl2 (show 0 + 0 = 0 from rfl) (by decide) (fun rh2 Lh2 clh2 lnh2 ivh2 rvh2 h2 => ?_)
        obtain ⟨f2, rfl, rfl, rfl, rfl, rfl, rfl, rgf2, exf2⟩ := h2
        refine c_st (st2 := [.int (iI f2)]) rfl ?_
        have gf2 : ((0 ≤ aq ∧ aq < ivb1 (sk 8) 2) ∨ f2 = 0) ∧ ∀ ss, CT ivb1 rvb1 (sk 8) ss → 0 ≤ aq → aq < ivb1 (sk 8) 2 → f2 = ss aq.toNat := exf2
        refine c_if_ne (tgt := 39) C ⟨by omega, by omega⟩ dX3_decode_30 (by decide) (fun c2 => ?_) (fun c2 => ?_)
        · refine c_iload_n (j := 0) C dX3_decode_39 rfl ?_
          refine c_if_ne (tgt := 52) C ⟨by omega, by omega⟩ dX3_decode_40 (by decide) (fun c3 => ?_) (fun c3 => ?_)
          · refine c_iconst C dX3_decode_52 ?_
            refine c_istore_n (lv2 := [(1, .int (iI 0)), (2, .int (iI aq)), (0, .ref a0)]) C dX3_decode_53 (by decide) rfl ?_
            refine c_aload_n (j := 2) (x := a0) C dX3_decode_54 rfl ?_
            refine c_iload_n (j := 1) C dX3_decode_55 rfl ?_
            refine d_callV (As := [.int (iI aq)]) (rest := []) C hM (C_decodeWord (a0 := a0) (i := aq) Wb1 skb1 ty1 (by omega) (by show 0 ≤ aq ∧ aq ≤ 40200; omega)) dX3_decode_56 kV_X3_123 rfl ty1 rfl rfl (by decide) ck_4 rfl (Nat.le_of_ble_eq_true rfl) ⟨(Nat.le_of_ble_eq_true rfl), (Nat.le_of_ble_eq_true rfl)⟩ hph pl2 (show 0 + 0 = 0 from rfl) (by decide) (fun rh3 Lh3 clh3 lnh3 ivh3 rvh3 h3 => ?_)
            obtain ⟨f3, rfl, xl3, fl3, W3, rgf3, exf3⟩ := h3
            have F2 := Fb1.call Xb1 fl3 rfl
            have ty3 := Xb1.ty tsk6
            have ty4 := Xb1.ty tsk7
            have ty5 := Xb1.ty tsk9
            have ty6 := Xb1.ty tsk10
            have ty7 := Xb1.ty tsk24
            have ty8 := Xb1.ty tsk25
            have X1 := Xb1.trans xl3
            have sk1 := xl3.skl skb1
            refine c_st (st2 := [.int (iI f3)]) rfl ?_
            have gf3 : f3 ≤ 40210 := exf3
            refine c_istore_n (lv2 := [(3, .int (iI f3)), (1, .int (iI 0)), (2, .int (iI aq)), (0, .ref a0)]) C dX3_decode_59 (by decide) rfl ?_
            refine c_iload_n (j := 0) C dX3_decode_60 rfl ?_
            refine c_iload_n (j := 2) C dX3_decode_61 rfl ?_
            refine c_icmp_gt (tgt := 67) C ⟨by omega, by omega⟩ ⟨by omega, by omega⟩ dX3_decode_62 (by decide) (fun c4 => ?_) (fun c4 => ?_)
            · refine c_iload_n (j := 0) C dX3_decode_67 rfl ?_
              refine c_istore_n (lv2 := [(2, .int (iI f3)), (3, .int (iI f3)), (1, .int (iI 0)), (0, .ref a0)]) C dX3_decode_68 (by decide) rfl ?_
              refine c_goto (tgt := 11) C dX3_decode_69 (by decide) ?_
              refine c_lv (lv2 := [(1, .int (iI 0)), (2, .int (iI f3)), (0, .ref a0)]) [2, 0, 3] rfl ?_
              exact ih1  0 f3 _ _ _ _ _ (by omega) X1 W3 F2  (by omega) (by omega)
            · refine c_iconst C dX3_decode_65 ?_
              have pl3 := Phi.le W3 sk1
              exact c_zret C dX3_decode_66 rfl (Or.inl rfl) (by decide) (rom0 hph pl3 (by decide)) ⟨0, rfl, X1, F2, W3, (Or.inl rfl), trivial⟩
          · refine c_aload_n (j := 2) (x := a0) C dX3_decode_43 rfl ?_
            obtain ⟨rb3, rq3, trb3⟩ := Wb1.ref ty1 6 rfl rfl rfl
            have erb3 := Wb1.sk trb3 (by decide) rfl
            subst erb3
            refine c_getr (k := 6) C ck_4 dX3_decode_44 w1_200 (by decide) ty1 rfl rfl (by decide) rfl rq3 ?_
            refine c_st (st2 := [.ref (sk 10)]) rfl ?_
            refine c_bipush (z := 32) C dX3_decode_47 (by decide) ?_
            have ty9 := Xb1.ty tsk10
            have ri3 : 0 ≤ ivb1 (sk 10) 2 ∧ ivb1 (sk 10) 2 ≤ 4001 := Wb1.int ty9 2
            refine d_callV (As := [.int (iI 32)]) (rest := []) C hM (C_add_10 (a0 := (sk 10)) (x := 32) Wb1 skb1 ty9 ⟨by decide, by decide⟩ ) dX3_decode_49 kV_X3_91 rfl ty9 rfl rfl (by decide) ck_2 rfl (Nat.le_of_ble_eq_true rfl) ⟨(Nat.le_of_ble_eq_true rfl), (Nat.le_of_ble_eq_true rfl)⟩ hph pl2 (show 0 + 0 = 0 from rfl) (by decide) (fun rh4 Lh4 clh4 lnh4 ivh4 rvh4 h4 => ?_)
            obtain ⟨rfl, xl4, fl4, W4, exf4⟩ := h4
            have F3 := Fb1.call Xb1 fl4 rfl
            have ty10 := Xb1.ty tsk6
            have ty11 := Xb1.ty tsk7
            have ty12 := Xb1.ty tsk9
            have ty13 := Xb1.ty tsk24
            have ty14 := Xb1.ty tsk25
            have X2 := Xb1.trans xl4
            have sk2 := xl4.skl skb1
            refine c_st (st2 := []) rfl ?_
            have ty15 := xl4.ty ty9
            have ri4 : 0 ≤ ivh4 (sk 10) 2 ∧ ivh4 (sk 10) 2 ≤ 4001 := W4.int ty15 2
            have gf4 : ((ivh4 (sk 10) 2 = ivb1 (sk 10) 2 ∧ ivb1 (sk 10) 2 = 4001) ∨ (ivh4 (sk 10) 2 = ivb1 (sk 10) 2 + 1 ∧ ivb1 (sk 10) 2 < 4001)) := exf4
            refine c_iconst C dX3_decode_52 ?_
            refine c_istore_n (lv2 := [(1, .int (iI 0)), (2, .int (iI aq)), (0, .ref a0)]) C dX3_decode_53 (by decide) rfl ?_
            refine c_aload_n (j := 2) (x := a0) C dX3_decode_54 rfl ?_
            refine c_iload_n (j := 1) C dX3_decode_55 rfl ?_
            have ty16 := xl4.ty ty1
            have pl4 := Phi.le W4 sk2
            refine d_callV (As := [.int (iI aq)]) (rest := []) C hM (C_decodeWord (a0 := a0) (i := aq) W4 sk2 ty16 (by omega) (by show 0 ≤ aq ∧ aq ≤ 40200; omega)) dX3_decode_56 kV_X3_123 rfl ty16 rfl rfl (by decide) ck_4 rfl (Nat.le_of_ble_eq_true rfl) ⟨(Nat.le_of_ble_eq_true rfl), (Nat.le_of_ble_eq_true rfl)⟩ hph pl4 (show 0 + 0 = 0 from rfl) (by decide) (fun rh5 Lh5 clh5 lnh5 ivh5 rvh5 h5 => ?_)
            obtain ⟨f5, rfl, xl5, fl5, W5, rgf5, exf5⟩ := h5
            have F4 := F3.call X2 fl5 rfl
            have ty17 := xl4.ty ty10
            have ty18 := xl4.ty ty11
            have ty19 := xl4.ty ty2
            have ty20 := xl4.ty ty12
            have ty21 := xl4.ty ty13
            have ty22 := xl4.ty ty14
            have X3 := X2.trans xl5
            have sk3 := xl5.skl sk2
            refine c_st (st2 := [.int (iI f5)]) rfl ?_
            have gf5 : f5 ≤ 40210 := exf5
            refine c_istore_n (lv2 := [(3, .int (iI f5)), (1, .int (iI 0)), (2, .int (iI aq)), (0, .ref a0)]) C dX3_decode_59 (by decide) rfl ?_
            refine c_iload_n (j := 0) C dX3_decode_60 rfl ?_
            refine c_iload_n (j := 2) C dX3_decode_61 rfl ?_
            refine c_icmp_gt (tgt := 67) C ⟨by omega, by omega⟩ ⟨by omega, by omega⟩ dX3_decode_62 (by decide) (fun c5 => ?_) (fun c5 => ?_)
            · refine c_iload_n (j := 0) C dX3_decode_67 rfl ?_
              refine c_istore_n (lv2 := [(2, .int (iI f5)), (3, .int (iI f5)), (1, .int (iI 0)), (0, .ref a0)]) C dX3_decode_68 (by decide) rfl ?_
              refine c_goto (tgt := 11) C dX3_decode_69 (by decide) ?_
              refine c_lv (lv2 := [(1, .int (iI 0)), (2, .int (iI f5)), (0, .ref a0)]) [2, 0, 3] rfl ?_
              exact ih1  0 f5 _ _ _ _ _ (by omega) X3 W5 F4  (by omega) (by omega)
            · refine c_iconst C dX3_decode_65 ?_
              have pl5 := Phi.le W5 sk3
              exact c_zret C dX3_decode_66 rfl (Or.inl rfl) (by decide) (rom0 hph pl5 (by decide)) ⟨0, rfl, X3, F4, W5, (Or.inl rfl), trivial⟩
        · refine c_iinc (z := aq) (j := 1) (lv2 := [(2, .int (iI (aq + 1))), (1, .int (iI fs)), (0, .ref a0)]) C dX3_decode_33 rfl (by decide) rfl ?_
          refine c_goto (tgt := 11) C dX3_decode_36 (by decide) ?_
          refine c_lv (lv2 := [(1, .int (iI fs)), (2, .int (iI (aq + 1))), (0, .ref a0)]) [1, 0, 2] rfl ?_
          exact ih1  fs (aq + 1) _ _ _ _ _ (by omega) Xb1 Wb1 Fb1  (by omega) (by omega)
  refine c_lv (lv2 := [(1, .int (iI 1)), (2, .int (iI 0)), (0, .ref a0)]) [1, 0, 2] rfl ?_
  exact Lp1 40213 1 0 _ _ _ _ _ (by omega) hX0 W1 F1  (by omega) (by omega)
