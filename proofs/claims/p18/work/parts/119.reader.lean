set_option maxHeartbeats 4000000 in
set_option maxRecDepth 100000 in
theorem C_rowsOf {l : Launch} {G : GT} {mi : Nat} {sk : Nat → Nat} {L : List Nat} {cl ln : Nat → Nat} {iv : Nat → Nat → Int} {rv : Nat → Nat → Option Nat}  {a0 : Nat} {g : Int} (hW : WT (g0 G) sk L cl ln iv rv) (hS : SKL sk L cl) (t_a0 : ty L cl a0 16) (h_g : -2147483648 ≤ g ∧ g ≤ 2147483647)  : Mc l G mi (Phi (g0 G) sk) PHM yX3_rowsOf cX3_rowsOf 2 (some (.object "java/util/ArrayList")) 0 [.ref a0, .int (iI g)] L cl ln iv rv 0 (fun v L2 cl2 ln2 iv2 rv2 => ∃ f : Nat, v = some (.ref f) ∧ L = L2 ∧ cl = cl2 ∧ ln = ln2 ∧ iv = iv2 ∧ rv = rv2 ∧ True ∧ ((g = 0 ∧ f = sk 24) ∨ (g ≠ 0 ∧ f = sk 25))) := by
  refine Mc.mk (by decide) (Nat.le_of_ble_eq_true rfl) ?_
  intro p e s m args below meth c A C hM
  refine hv10 (Phi.le hW hS) (show ty L cl (sk 6) 6 from ⟨(hS 6 rfl).1, by rw [(hS 6 rfl).2]; rfl⟩) (show ty L cl (sk 7) 7 from ⟨(hS 7 rfl).1, by rw [(hS 7 rfl).2]; rfl⟩) (show ty L cl (sk 8) 8 from ⟨(hS 8 rfl).1, by rw [(hS 8 rfl).2]; rfl⟩) (show ty L cl (sk 9) 9 from ⟨(hS 9 rfl).1, by rw [(hS 9 rfl).2]; rfl⟩) (show ty L cl (sk 10) 10 from ⟨(hS 10 rfl).1, by rw [(hS 10 rfl).2]; rfl⟩) (show ty L cl (sk 24) 24 from ⟨(hS 24 rfl).1, by rw [(hS 24 rfl).2]; rfl⟩) (show ty L cl (sk 25) 25 from ⟨(hS 25 rfl).1, by rw [(hS 25 rfl).2]; rfl⟩) (show XT L cl ln L cl ln from XT.refl) (show fT [] L cl iv rv iv rv from fT.refl) (fun hph tsk6 tsk7 tsk8 tsk9 tsk10 tsk24 tsk25 hX0 hF0 => ?_)
  refine c_iload_n (j := 1) C dX3_rowsOf_0 rfl ?_
  refine c_if_eq (tgt := 11) C ⟨by omega, by omega⟩ dX3_rowsOf_1 (by decide) (fun c1 => ?_) (fun c1 => ?_)
  · refine c_aload_n (j := 0) (x := a0) C dX3_rowsOf_11 rfl ?_
    obtain ⟨rb1, rq1, trb1⟩ := hW.ref t_a0 0 rfl rfl rfl
    have erb1 := hW.sk trb1 (by decide) rfl
    subst erb1
    refine c_getr (k := 0) C ck_4 dX3_rowsOf_12 w1_190 (by decide) t_a0 rfl rfl (by decide) rfl rq1 ?_
    refine c_st (st2 := [.ref (sk 24)]) rfl ?_
    exact c_aret (x := some (sk 24)) C dX3_rowsOf_15 rfl (Or.inl ⟨_, rfl⟩) (by decide) (rom0 hph hph (by decide)) ⟨(sk 24), rfl, rfl, rfl, rfl, rfl, rfl, trivial, (Or.inl ⟨by omega, rfl⟩)⟩
  · refine c_aload_n (j := 0) (x := a0) C dX3_rowsOf_4 rfl ?_
    obtain ⟨rb2, rq2, trb2⟩ := hW.ref t_a0 1 rfl rfl rfl
    have erb2 := hW.sk trb2 (by decide) rfl
    subst erb2
    refine c_getr (k := 1) C ck_4 dX3_rowsOf_5 w1_193 (by decide) t_a0 rfl rfl (by decide) rfl rq2 ?_
    refine c_st (st2 := [.ref (sk 25)]) rfl ?_
    refine c_goto (tgt := 15) C dX3_rowsOf_8 (by decide) ?_
    exact c_aret (x := some (sk 25)) C dX3_rowsOf_15 rfl (Or.inl ⟨_, rfl⟩) (by decide) (rom0 hph hph (by decide)) ⟨(sk 25), rfl, rfl, rfl, rfl, rfl, rfl, trivial, (Or.inr ⟨by omega, rfl⟩)⟩
set_option maxHeartbeats 4000000 in
set_option maxRecDepth 100000 in
theorem C_addInd_24 {l : Launch} {G : GT} {mi : Nat} {sk : Nat → Nat} {L : List Nat} {cl ln : Nat → Nat} {iv : Nat → Nat → Int} {rv : Nat → Nat → Option Nat}  {a0 : Nat} {r : Option Nat} (hW : WT (g0 G) sk L cl ln iv rv) (hS : SKL sk L cl) (t_a0 : ty L cl a0 24) (t_r : ∀ b, r = some b → ty L cl b 20) (hn : iv a0 2 < 6003) : Mc l G mi (Phi (g0 G) sk) PHM yX3_addIndicator cX3_addIndicator 2 none 7 [.ref a0, va_rf r] L cl ln iv rv 0 (fun v L2 cl2 ln2 iv2 rv2 => v = none ∧ XT L cl ln L2 cl2 ln2 ∧ fT [24, 1002] L cl iv rv iv2 rv2 ∧ WT (g0 G) sk L2 cl2 ln2 iv2 rv2 ∧ (iv a0 2 ≤ iv2 a0 2 ∧ iv2 a0 2 ≤ iv a0 2 + 1)) := by
  refine Mc.mk (by decide) (by cases r <;> exact Nat.le_of_ble_eq_true rfl) ?_
  intro p e s m args below meth c A C hM
  have hph := Phi.le hW hS
  refine c_lveq (show lv_args 0 [.ref a0, va_rf r] = [(0, .ref a0), (1, (va_rf r))] from by cases r <;> rfl) ?_
  refine hv3 (show 0 ≤ iv a0 2 from (hW.int t_a0 2).1) (show XT L cl ln L cl ln from XT.refl) (show fT [24, 1002] L cl iv rv iv rv from fT.refl) (fun hb0 hX0 hF0 => ?_)
  refine c_aloadr_n (j := 1) (r := r) C dX3_addIndicator_0 rfl ?_
  refine c_ifnull (r := r) (tgt := 10) C dX3_addIndicator_1 (by decide) (fun oq1 => ?_) (fun ob1 oq1 => ?_)
  · subst oq1
    refine c_lv (lv2 := [(0, .ref a0), (1, .null)]) [0, 1] rfl ?_
    refine c_st (st2 := []) rfl ?_
    have ri1 : 0 ≤ iv a0 2 ∧ iv a0 2 ≤ 6003 := hW.int t_a0 2
    exact c_vret C dX3_addIndicator_10 rfl (by decide) (rom0 hph hph (by decide)) ⟨rfl, hX0, hF0, hW, (by omega)⟩
  · subst oq1
    have tob1 := t_r ob1 rfl
    refine c_lv (lv2 := [(0, .ref a0), (1, .ref ob1)]) [0, 1] rfl ?_
    refine c_st (st2 := []) rfl ?_
    refine c_aload_n (j := 0) (x := a0) C dX3_addIndicator_4 rfl ?_
    refine c_aload_n (j := 1) (x := ob1) C dX3_addIndicator_5 rfl ?_
    have ri2 : 0 ≤ iv a0 2 ∧ iv a0 2 ≤ 6003 := hW.int t_a0 2
    refine d_callV (As := [.ref ob1]) (rest := []) C hM (C_add_24 (a0 := a0) (x := ob1) hW hS t_a0 tob1  (by show iv a0 2 < 6003; omega)) dX3_addIndicator_6 kV_X3_97 rfl t_a0 rfl rfl (by decide) ck_0 rfl (Nat.le_of_ble_eq_true rfl) ⟨(Nat.le_of_ble_eq_true rfl), (Nat.le_of_ble_eq_true rfl)⟩ hph hph (show 0 + 0 = 0 from rfl) (by decide) (fun rh1 Lh1 clh1 lnh1 ivh1 rvh1 h1 => ?_)
    obtain ⟨f1, rfl, xl1, fl1, W1, rgf1, exf1⟩ := h1
    refine hv3 (hF0.call hX0 fl1 rfl) (hX0.trans xl1) (xl1.skl hS) (fun F1 X1 sk1 => ?_)
    refine c_st (st2 := [.int (iI f1)]) rfl ?_
    refine hv2 (xl1.ty t_a0) (show ivh1 a0 2 = iv a0 2 + 1 ∧ el rvh1 a0 (iv a0 2).toNat = some ob1 ∧ ∀ i : Nat, (i : Int) < iv a0 2 → el rvh1 a0 i = el rv a0 i from exf1) (fun ty1 gf1 => ?_)
    have ri3 : 0 ≤ ivh1 a0 2 ∧ ivh1 a0 2 ≤ 6003 := W1.int ty1 2
    refine c_pop C dX3_addIndicator_9 rfl ?_
    have pl1 := Phi.le W1 sk1
    exact c_vret C dX3_addIndicator_10 rfl (by decide) (rom0 hph pl1 (by decide)) ⟨rfl, X1, F1, W1, (by omega)⟩
set_option maxHeartbeats 4000000 in
set_option maxRecDepth 100000 in
theorem C_markBegins_24 {l : Launch} {G : GT} {mi : Nat} {sk : Nat → Nat} {L : List Nat} {cl ln : Nat → Nat} {iv : Nat → Nat → Int} {rv : Nat → Nat → Option Nat}  {a0 : Nat} {a1 : Nat} (hW : WT (g0 G) sk L cl ln iv rv) (hS : SKL sk L cl) (t_a0 : ty L cl a0 24) (t_a1 : ty L cl a1 6)  : Mc l G mi (Phi (g0 G) sk) PHM yX3_markBegins cX3_markBegins 5 none 3 [.ref a0, .ref a1] L cl ln iv rv 0 (fun v L2 cl2 ln2 iv2 rv2 => v = none ∧ XT L cl ln L2 cl2 ln2 ∧ fT [6, 36] L cl iv rv iv2 rv2 ∧ WT (g0 G) sk L2 cl2 ln2 iv2 rv2 ∧ (True)) := by
  refine Mc.mk (by decide) (Nat.le_of_ble_eq_true rfl) ?_
  intro p e s m args below meth c A C hM
  refine hv3 (Phi.le hW hS) (show XT L cl ln L cl ln from XT.refl) (show fT [6, 36] L cl iv rv iv rv from fT.refl) (fun hph hX0 hF0 => ?_)
  refine c_aload_n (j := 1) (x := a1) C dX3_markBegins_0 rfl ?_
  refine d_callV (As := []) (rest := []) C hM (C_clear_6 (a0 := a1) hW hS t_a1  ) dX3_markBegins_1 kV_X3_77 rfl t_a1 rfl rfl (by decide) ck_2 rfl (Nat.le_of_ble_eq_true rfl) ⟨(Nat.le_of_ble_eq_true rfl), (Nat.le_of_ble_eq_true rfl)⟩ hph hph (show 0 + 0 = 0 from rfl) (by decide) (fun rh1 Lh1 clh1 lnh1 ivh1 rvh1 h1 => ?_)
  obtain ⟨rfl, rfl, rfl, rfl, rfl, fl1, W1, exf1⟩ := h1
  have F1 := hF0.call hX0 fl1 rfl
  refine c_st (st2 := []) rfl ?_
  refine hv2 (show 0 ≤ ivh1 a1 2 ∧ ivh1 a1 2 ≤ 6003 from W1.int t_a1 2) (show ivh1 a1 2 = 0 from exf1) (fun ri1 gf1 => ?_)
  refine c_aload_n (j := 0) (x := a0) C dX3_markBegins_4 rfl ?_
  refine hv2 (show 0 ≤ ivh1 a0 2 ∧ ivh1 a0 2 ≤ 6003 from W1.int t_a0 2) (show ivh1 a0 2 = iv a0 2 from fl1.i t_a0 rfl 2) (fun ri2 ie2 => ?_)
  refine d_callV (As := []) (rest := []) C hM (C_size_24 (a0 := a0) W1 hS t_a0  ) dX3_markBegins_5 kV_X3_78 rfl t_a0 rfl rfl (by decide) ck_0 rfl (Nat.le_of_ble_eq_true rfl) ⟨(Nat.le_of_ble_eq_true rfl), (Nat.le_of_ble_eq_true rfl)⟩ hph hph (show 0 + 0 = 0 from rfl) (by decide) (fun rh2 Lh2 clh2 lnh2 ivh2 rvh2 h2 => ?_)
  obtain ⟨f2, rfl, rfl, rfl, rfl, rfl, rfl, rgf2, exf2⟩ := h2
  refine c_st (st2 := [.int (iI f2)]) rfl ?_
  have gf2 : f2 = ivh1 a0 2 := exf2
  refine c_istore_n (lv2 := [(2, .int (iI f2)), (0, .ref a0), (1, .ref a1)]) C dX3_markBegins_8 (by decide) rfl ?_
  refine c_iconst C dX3_markBegins_9 ?_
  refine c_istore_n (lv2 := [(3, .int (iI 0)), (2, .int (iI f2)), (0, .ref a0), (1, .ref a1)]) C dX3_markBegins_10 (by decide) rfl ?_
  have Lp1 : ∀ (nn : Nat) (k : Int) (Lb1 : List Nat) (clb1 lnb1 : Nat → Nat) (ivb1 : Nat → Nat → Int) (rvb1 : Nat → Nat → Option Nat) , 6004 - k < (nn : Int) → XT L cl ln Lb1 clb1 lnb1 → WT (g0 G) sk Lb1 clb1 lnb1 ivb1 rvb1 → fT [6, 36] L cl iv rv ivb1 rvb1 → (0 ≤ k ∧ k ≤ 6003) → cw p l e 3 ((PHM) + 0 - ((Phi (g0 G) sk) ln rv)) s m args below meth c G A 5 (MQ below (Qu G A (Qp G (Phi (g0 G) sk) ((Phi (g0 G) sk) ln rv) 0 (fun v L2 cl2 ln2 iv2 rv2 => v = none ∧ XT L cl ln L2 cl2 ln2 ∧ fT [6, 36] L cl iv rv iv2 rv2 ∧ WT (g0 G) sk L2 cl2 ln2 iv2 rv2 ∧ (True)))) args s (((PHM) + 0 - ((Phi (g0 G) sk) ln rv)) / 16) ((PHM) + 0 - ((Phi (g0 G) sk) ln rv)) A) (Phi (g0 G) sk) ((Phi (g0 G) sk) ln rv) Lb1 clb1 lnb1 ivb1 rvb1 0 11 [(3, .int (iI k)), (2, .int (iI f2)), (0, .ref a0), (1, .ref a1)] [] := by
    intro nn
    induction nn with
    | zero =>
      intro  k Lb1 clb1 lnb1 ivb1 rvb1 hm Xb1 Wb1 Fb1  hk
      have skb1 := Xb1.skl hS
      exact absurd hm (by omega)
    | succ nn ih1 =>
      intro  k Lb1 clb1 lnb1 ivb1 rvb1 hm Xb1 Wb1 Fb1  hk
      have skb1 := Xb1.skl hS
      refine c_iload_n (j := 0) C dX3_markBegins_11 rfl ?_
      refine c_iload_n (j := 1) C dX3_markBegins_12 rfl ?_
      refine c_icmp_ge (tgt := 56) C ⟨by omega, by omega⟩ ⟨by omega, by omega⟩ dX3_markBegins_13 (by decide) (fun c1 => ?_) (fun c1 => ?_)
      · have pl1 := Phi.le Wb1 skb1
        exact c_vret C dX3_markBegins_56 rfl (by decide) (rom0 hph pl1 (by decide)) ⟨rfl, Xb1, Fb1, Wb1, trivial⟩
      · refine c_aload_n (j := 2) (x := a0) C dX3_markBegins_16 rfl ?_
        refine c_iload_n (j := 0) C dX3_markBegins_17 rfl ?_
        refine hv3 (Xb1.ty t_a0) (show ivb1 a0 2 = iv a0 2 from Fb1.i t_a0 rfl 2) (Phi.le Wb1 skb1) (fun ty1 ie3 pl2 => ?_)
        have ri3 : 0 ≤ ivb1 a0 2 ∧ ivb1 a0 2 ≤ 6003 := Wb1.int ty1 2
        refine d_callV (As := [.int (iI k)]) (rest := []) C hM (C_get_24 (a0 := a0) (i := k) Wb1 skb1 ty1 (by omega) (by show 0 ≤ k ∧ k < ivb1 a0 2; omega)) dX3_markBegins_18 kV_X3_82 rfl ty1 rfl rfl (by decide) ck_0 rfl (Nat.le_of_ble_eq_true rfl) ⟨(Nat.le_of_ble_eq_true rfl), (Nat.le_of_ble_eq_true rfl)⟩ hph pl2 (show 0 + 0 = 0 from rfl) (by decide) (fun rh3 Lh3 clh3 lnh3 ivh3 rvh3 h3 => ?_)
        obtain ⟨f3, rfl, rfl, rfl, rfl, rfl, rfl, rgf3, exf3⟩ := h3
        refine c_st (st2 := [.ref f3]) rfl ?_
        have gf3 : el rvb1 a0 k.toNat = some f3 := exf3
        refine c_cast C ck_6 dX3_markBegins_21 w5_63 w8_169t rgf3 rfl rfl (by decide) ?_
        refine c_astore (lv2 := [(4, .ref f3), (3, .int (iI k)), (2, .int (iI f2)), (0, .ref a0), (1, .ref a1)]) C dX3_markBegins_24 (by decide) rfl ?_
        refine c_aload_n (j := 4) (x := a1) C dX3_markBegins_26 rfl ?_
        refine c_aload (j := 0) (x := f3) C dX3_markBegins_27 rfl ?_
        obtain ⟨rb1, rq1, trb1⟩ := Wb1.ref rgf3 2 rfl rfl rfl
        have lnrb1 : 1 ≤ lnb1 rb1 ∧ lnb1 rb1 ≤ 4 := Wb1.len trb1 rfl
        refine c_getr (k := 2) C ck_6 dX3_markBegins_29 w3_143 (by decide) rgf3 rfl rfl (by decide) rfl rq1 ?_
        refine c_st (st2 := [.ref rb1, .ref a1]) rfl ?_
        have ll1 : 1 ≤ lnb1 rb1 ∧ lnb1 rb1 ≤ 4 := Wb1.len trb1 rfl
        refine c_alenI C dX3_markBegins_32 trb1 rfl ?_
        refine c_if_le (tgt := 46) C ⟨by omega, by omega⟩ dX3_markBegins_33 (by decide) (fun c2 => ?_) (fun c2 => ?_)
        · refine c_iconst C dX3_markBegins_46 ?_
          have ty2 := Xb1.ty t_a1
          have ri4 : 0 ≤ ivb1 a1 2 ∧ ivb1 a1 2 ≤ 6003 := Wb1.int ty2 2
          refine d_callV (As := [.int (iI 0)]) (rest := []) C hM (C_add_6 (a0 := a1) (x := 0) Wb1 skb1 ty2 ⟨by decide, by decide⟩ ) dX3_markBegins_47 kV_X3_91 rfl ty2 rfl rfl (by decide) ck_2 rfl (Nat.le_of_ble_eq_true rfl) ⟨(Nat.le_of_ble_eq_true rfl), (Nat.le_of_ble_eq_true rfl)⟩ hph pl2 (show 0 + 0 = 0 from rfl) (by decide) (fun rh4 Lh4 clh4 lnh4 ivh4 rvh4 h4 => ?_)
          obtain ⟨rfl, xl4, fl4, W4, exf4⟩ := h4
          refine hv3 (Fb1.call Xb1 fl4 rfl) (Xb1.trans xl4) (xl4.skl skb1) (fun F2 X1 sk1 => ?_)
          refine c_st (st2 := []) rfl ?_
          refine hv2 (xl4.ty ty2) (show ((ivh4 a1 2 = ivb1 a1 2 ∧ ivb1 a1 2 = 6003) ∨ (ivh4 a1 2 = ivb1 a1 2 + 1 ∧ ivb1 a1 2 < 6003)) from exf4) (fun ty3 gf4 => ?_)
          have ri5 : 0 ≤ ivh4 a1 2 ∧ ivh4 a1 2 ≤ 6003 := W4.int ty3 2
          refine c_iinc (z := k) (j := 1) (lv2 := [(3, .int (iI (k + 1))), (4, .ref f3), (2, .int (iI f2)), (0, .ref a0), (1, .ref a1)]) C dX3_markBegins_50 rfl (by decide) rfl ?_
          refine c_goto (tgt := 11) C dX3_markBegins_53 (by decide) ?_
          refine c_lv (lv2 := [(3, .int (iI (k + 1))), (2, .int (iI f2)), (0, .ref a0), (1, .ref a1)]) [0, 2, 3, 4] rfl ?_
          exact ih1  (k + 1) _ _ _ _ _ (by omega) X1 W4 F2  (by omega)
        · refine c_aload (j := 0) (x := f3) C dX3_markBegins_36 rfl ?_
          refine c_getr (k := 2) C ck_6 dX3_markBegins_38 w3_143 (by decide) rgf3 rfl rfl (by decide) rfl rq1 ?_
          refine c_st (st2 := [.ref rb1, .ref a1]) rfl ?_
          refine c_iconst C dX3_markBegins_41 ?_
          refine c_iald C dX3_markBegins_42 trb1 rfl (by omega) (by omega) (by omega) ?_
          have ri6 : (-2147483648) ≤ ivb1 rb1 ((0 : Int).toNat) ∧ ivb1 rb1 ((0 : Int).toNat) ≤ 2147483647 := Wb1.int trb1 ((0 : Int).toNat)
          refine c_goto (tgt := 47) C dX3_markBegins_43 (by decide) ?_
          have ty4 := Xb1.ty t_a1
          have ri7 : 0 ≤ ivb1 a1 2 ∧ ivb1 a1 2 ≤ 6003 := Wb1.int ty4 2
          refine d_callV (As := [.int (iI (ivb1 rb1 (0 : Int).toNat))]) (rest := []) C hM (C_add_6 (a0 := a1) (x := ivb1 rb1 (0 : Int).toNat) Wb1 skb1 ty4 (by omega) ) dX3_markBegins_47 kV_X3_91 rfl ty4 rfl rfl (by decide) ck_2 rfl (Nat.le_of_ble_eq_true rfl) ⟨(Nat.le_of_ble_eq_true rfl), (Nat.le_of_ble_eq_true rfl)⟩ hph pl2 (show 0 + 0 = 0 from rfl) (by decide) (fun rh5 Lh5 clh5 lnh5 ivh5 rvh5 h5 => ?_)
          obtain ⟨rfl, xl5, fl5, W5, exf5⟩ := h5
          refine hv3 (Fb1.call Xb1 fl5 rfl) (Xb1.trans xl5) (xl5.skl skb1) (fun F3 X2 sk2 => ?_)
          refine c_st (st2 := []) rfl ?_
          refine hv2 (xl5.ty ty4) (show ((ivh5 a1 2 = ivb1 a1 2 ∧ ivb1 a1 2 = 6003) ∨ (ivh5 a1 2 = ivb1 a1 2 + 1 ∧ ivb1 a1 2 < 6003)) from exf5) (fun ty5 gf5 => ?_)
          have ri8 : 0 ≤ ivh5 a1 2 ∧ ivh5 a1 2 ≤ 6003 := W5.int ty5 2
          refine c_iinc (z := k) (j := 1) (lv2 := [(3, .int (iI (k + 1))), (4, .ref f3), (2, .int (iI f2)), (0, .ref a0), (1, .ref a1)]) C dX3_markBegins_50 rfl (by decide) rfl ?_
          refine c_goto (tgt := 11) C dX3_markBegins_53 (by decide) ?_
          refine c_lv (lv2 := [(3, .int (iI (k + 1))), (2, .int (iI f2)), (0, .ref a0), (1, .ref a1)]) [0, 2, 3, 4] rfl ?_
          exact ih1  (k + 1) _ _ _ _ _ (by omega) X2 W5 F3  (by omega)
  refine c_lv (lv2 := [(3, .int (iI 0)), (2, .int (iI f2)), (0, .ref a0), (1, .ref a1)]) [0, 1, 2, 3] rfl ?_
  exact Lp1 6006 0 _ _ _ _ _ (by omega) hX0 W1 F1  (by omega)
set_option maxHeartbeats 4000000 in
set_option maxRecDepth 100000 in
theorem C_gatherPart_24 {l : Launch} {G : GT} {mi : Nat} {sk : Nat → Nat} {L : List Nat} {cl ln : Nat → Nat} {iv : Nat → Nat → Int} {rv : Nat → Nat → Option Nat}  {a0 : Nat} {r : Option Nat} (hW : WT (g0 G) sk L cl ln iv rv) (hS : SKL sk L cl) (t_a0 : ty L cl a0 24) (t_r : ∀ b, r = some b → ty L cl b 100) (hn : iv a0 2 = 0) : Mc l G mi (Phi (g0 G) sk) PHM yX3_gatherPart cX3_gatherPart 4 none 8 [.ref a0, va_rf r] L cl ln iv rv 0 (fun v L2 cl2 ln2 iv2 rv2 => v = none ∧ XT L cl ln L2 cl2 ln2 ∧ fT [24, 1002] L cl iv rv iv2 rv2 ∧ WT (g0 G) sk L2 cl2 ln2 iv2 rv2 ∧ (iv2 a0 2 ≤ 6002)) := by
  refine Mc.mk (by decide) (by cases r <;> exact Nat.le_of_ble_eq_true rfl) ?_
  intro p e s m args below meth c A C hM
  have hph := Phi.le hW hS
  refine c_lveq (show lv_args 0 [.ref a0, va_rf r] = [(0, .ref a0), (1, (va_rf r))] from by cases r <;> rfl) ?_
  refine hv2 (show XT L cl ln L cl ln from XT.refl) (show fT [24, 1002] L cl iv rv iv rv from fT.refl) (fun hX0 hF0 => ?_)
  refine c_aloadr_n (j := 1) (r := r) C dX3_gatherPart_0 rfl ?_
  refine c_ifnonnull (r := r) (tgt := 5) C dX3_gatherPart_1 (by decide) (fun ob1 oq1 => ?_) (fun oq1 => ?_)
  · subst oq1
    have tob1 := t_r ob1 rfl
    refine c_lv (lv2 := [(0, .ref a0), (1, .ref ob1)]) [0, 1] rfl ?_
    refine c_st (st2 := []) rfl ?_
    refine c_aload_n (j := 1) (x := ob1) C dX3_gatherPart_5 rfl ?_
    refine c_astore_n (lv2 := [(2, .ref ob1), (0, .ref a0), (1, .ref ob1)]) C dX3_gatherPart_6 (by decide) rfl ?_
    have Lp1 : ∀ (nn : Nat) (tq : Option Nat) (rk : Int) (Lb1 : List Nat) (clb1 lnb1 : Nat → Nat) (ivb1 : Nat → Nat → Int) (rvb1 : Nat → Nat → Option Nat) , rk - 99 < (nn : Int) → XT L cl ln Lb1 clb1 lnb1 → WT (g0 G) sk Lb1 clb1 lnb1 ivb1 rvb1 → fT [24, 1002] L cl iv rv ivb1 rvb1 → (∀ b, tq = some b → ty Lb1 clb1 b 100) → (99 ≤ rk ∧ rk ≤ 129) → (ivb1 a0 2 ≤ 200 * (129 - rk)) → (∀ b, tq = some b → ((clb1 b : Nat) : Int) ≤ rk) → cw p l e 8 ((PHM) + 0 - ((Phi (g0 G) sk) ln rv)) s m args below meth c G A 4 (MQ below (Qu G A (Qp G (Phi (g0 G) sk) ((Phi (g0 G) sk) ln rv) 0 (fun v L2 cl2 ln2 iv2 rv2 => v = none ∧ XT L cl ln L2 cl2 ln2 ∧ fT [24, 1002] L cl iv rv iv2 rv2 ∧ WT (g0 G) sk L2 cl2 ln2 iv2 rv2 ∧ (iv2 a0 2 ≤ 6002)))) args s (((PHM) + 0 - ((Phi (g0 G) sk) ln rv)) / 16) ((PHM) + 0 - ((Phi (g0 G) sk) ln rv)) A) (Phi (g0 G) sk) ((Phi (g0 G) sk) ln rv) Lb1 clb1 lnb1 ivb1 rvb1 0 7 [(2, (va_rf tq)), (0, .ref a0), (1, .ref ob1)] [] := by
      intro nn
      induction nn with
      | zero =>
        intro tq rk Lb1 clb1 lnb1 ivb1 rvb1 hm Xb1 Wb1 Fb1 ty_tq h99 hsz hrk
        have skb1 := Xb1.skl hS
        exact absurd hm (by omega)
      | succ nn ih1 =>
        intro tq rk Lb1 clb1 lnb1 ivb1 rvb1 hm Xb1 Wb1 Fb1 ty_tq h99 hsz hrk
        have skb1 := Xb1.skl hS
        refine c_aloadr_n (j := 0) (r := tq) C dX3_gatherPart_7 rfl ?_
        refine c_ifnull (r := tq) (tgt := 54) C dX3_gatherPart_8 (by decide) (fun oq2 => ?_) (fun ob2 oq2 => ?_)
        · subst oq2
          refine c_lv (lv2 := [(2, .null), (0, .ref a0), (1, .ref ob1)]) [0, 1, 2] rfl ?_
          refine c_st (st2 := []) rfl ?_
          refine c_aload_n (j := 1) (x := a0) C dX3_gatherPart_54 rfl ?_
          refine c_aload_n (j := 2) (x := ob1) C dX3_gatherPart_55 rfl ?_
          have ty1 := Xb1.ty tob1
          obtain ⟨rb1, rq1, trb1⟩ := Wb1.ref ty1 6 rfl rfl rfl
          have lnrb1 : 4 ≤ lnb1 rb1 ∧ lnb1 rb1 ≤ 4 := Wb1.len trb1 rfl
          refine c_getr (k := 6) C ck_10 dX3_gatherPart_56 w2_193 (by decide) ty1 rfl rfl (by decide) rfl rq1 ?_
          refine c_st (st2 := [.ref rb1, .ref a0]) rfl ?_
          refine c_iconst C dX3_gatherPart_59 ?_
          have ll1 : 4 ≤ lnb1 rb1 ∧ lnb1 rb1 ≤ 4 := Wb1.len trb1 rfl
          rcases Wb1.opt trb1 ((0 : Int).toNat) rfl rfl with ⟨nq1, _⟩ | ⟨nb1, nq1, tnb1⟩
          · refine c_aaldR C dX3_gatherPart_60 trb1 rfl (by omega) (by omega) (by omega) nq1 ?_
            refine c_st (st2 := [.null, .ref a0]) rfl ?_
            refine hv2 (Xb1.ty t_a0) (Phi.le Wb1 skb1) (fun ty2 pl1 => ?_)
            have ri1 : 0 ≤ ivb1 a0 2 ∧ ivb1 a0 2 ≤ 6003 := Wb1.int ty2 2
            refine d_callS (As := [.ref a0, .null]) (rest := []) C hM (C_addInd_24 (a0 := a0) (r := none) Wb1 skb1 ty2 (fun _ q => by cases q)  (by show ivb1 a0 2 < 6003; omega)) dX3_gatherPart_61 kS_X3_67 rfl rfl (Nat.le_of_ble_eq_true rfl) ⟨(Nat.le_of_ble_eq_true rfl), (Nat.le_of_ble_eq_true rfl)⟩ hph pl1 (show 0 + 0 = 0 from rfl) (by decide) (fun rh1 Lh1 clh1 lnh1 ivh1 rvh1 h1 => ?_)
            obtain ⟨rfl, xl1, fl1, W1, exf1⟩ := h1
            refine hv3 (Fb1.call Xb1 fl1 rfl) (Xb1.trans xl1) (xl1.skl skb1) (fun F1 X1 sk1 => ?_)
            refine c_st (st2 := []) rfl ?_
            refine hv2 (xl1.ty ty2) (show ivb1 a0 2 ≤ ivh1 a0 2 ∧ ivh1 a0 2 ≤ ivb1 a0 2 + 1 from exf1) (fun ty3 gf1 => ?_)
            have ri2 : 0 ≤ ivh1 a0 2 ∧ ivh1 a0 2 ≤ 6003 := W1.int ty3 2
            refine c_aload_n (j := 1) (x := a0) C dX3_gatherPart_64 rfl ?_
            refine c_aload_n (j := 2) (x := ob1) C dX3_gatherPart_65 rfl ?_
            refine hv2 (xl1.ty ty1) (show rvh1 ob1 6 = rvb1 ob1 6 from (fl1.r ty1 rfl 6)) (fun ty4 re1 => ?_)
            rw [rq1] at re1
            refine c_getr (k := 6) C ck_10 dX3_gatherPart_66 w2_193 (by decide) ty4 rfl rfl (by decide) rfl re1 ?_
            refine c_st (st2 := [.ref rb1, .ref a0]) rfl ?_
            refine c_iconst C dX3_gatherPart_69 ?_
            have ty5 := xl1.ty trb1
            have ll2 : 4 ≤ lnh1 rb1 ∧ lnh1 rb1 ≤ 4 := W1.len ty5 rfl
            rcases W1.opt ty5 ((1 : Int).toNat) rfl rfl with ⟨nq2, _⟩ | ⟨nb2, nq2, tnb2⟩
            · refine c_aaldR C dX3_gatherPart_70 ty5 rfl (by omega) (by omega) (by omega) nq2 ?_
              refine c_st (st2 := [.null, .ref a0]) rfl ?_
              have pl2 := Phi.le W1 sk1
              refine d_callS (As := [.ref a0, .null]) (rest := []) C hM (C_addInd_24 (a0 := a0) (r := none) W1 sk1 ty3 (fun _ q => by cases q)  (by show ivh1 a0 2 < 6003; omega)) dX3_gatherPart_71 kS_X3_67 rfl rfl (Nat.le_of_ble_eq_true rfl) ⟨(Nat.le_of_ble_eq_true rfl), (Nat.le_of_ble_eq_true rfl)⟩ hph pl2 (show 0 + 0 = 0 from rfl) (by decide) (fun rh2 Lh2 clh2 lnh2 ivh2 rvh2 h2 => ?_)
              obtain ⟨rfl, xl2, fl2, W2, exf2⟩ := h2
              refine hv3 (F1.call X1 fl2 rfl) (X1.trans xl2) (xl2.skl sk1) (fun F2 X2 sk2 => ?_)
              refine c_st (st2 := []) rfl ?_
              refine hv3 (xl2.ty ty3) (show ivh1 a0 2 ≤ ivh2 a0 2 ∧ ivh2 a0 2 ≤ ivh1 a0 2 + 1 from exf2) (Phi.le W2 sk2) (fun ty6 gf2 pl3 => ?_)
              have ri3 : 0 ≤ ivh2 a0 2 ∧ ivh2 a0 2 ≤ 6003 := W2.int ty6 2
              exact c_vret C dX3_gatherPart_74 rfl (by decide) (rom0 hph pl3 (by decide)) ⟨rfl, X2, F2, W2, (by omega)⟩
            · have tnb2 : ty Lh1 clh1 nb2 20 := tnb2
              refine c_aaldR C dX3_gatherPart_70 ty5 rfl (by omega) (by omega) (by omega) nq2 ?_
              refine c_st (st2 := [.ref nb2, .ref a0]) rfl ?_
              have pl4 := Phi.le W1 sk1
              refine d_callS (As := [.ref a0, .ref nb2]) (rest := []) C hM (C_addInd_24 (a0 := a0) (r := (some nb2)) W1 sk1 ty3 (fun _ q => by cases q; exact tnb2)  (by show ivh1 a0 2 < 6003; omega)) dX3_gatherPart_71 kS_X3_67 rfl rfl (Nat.le_of_ble_eq_true rfl) ⟨(Nat.le_of_ble_eq_true rfl), (Nat.le_of_ble_eq_true rfl)⟩ hph pl4 (show 0 + 0 = 0 from rfl) (by decide) (fun rh3 Lh3 clh3 lnh3 ivh3 rvh3 h3 => ?_)
              obtain ⟨rfl, xl3, fl3, W3, exf3⟩ := h3
              refine hv3 (F1.call X1 fl3 rfl) (X1.trans xl3) (xl3.skl sk1) (fun F3 X3 sk3 => ?_)
              refine c_st (st2 := []) rfl ?_
              refine hv3 (xl3.ty ty3) (show ivh1 a0 2 ≤ ivh3 a0 2 ∧ ivh3 a0 2 ≤ ivh1 a0 2 + 1 from exf3) (Phi.le W3 sk3) (fun ty7 gf3 pl5 => ?_)
              have ri4 : 0 ≤ ivh3 a0 2 ∧ ivh3 a0 2 ≤ 6003 := W3.int ty7 2
              exact c_vret C dX3_gatherPart_74 rfl (by decide) (rom0 hph pl5 (by decide)) ⟨rfl, X3, F3, W3, (by omega)⟩
          · have tnb1 : ty Lb1 clb1 nb1 20 := tnb1
            refine c_aaldR C dX3_gatherPart_60 trb1 rfl (by omega) (by omega) (by omega) nq1 ?_
            refine c_st (st2 := [.ref nb1, .ref a0]) rfl ?_
            refine hv2 (Xb1.ty t_a0) (Phi.le Wb1 skb1) (fun ty8 pl6 => ?_)
            have ri5 : 0 ≤ ivb1 a0 2 ∧ ivb1 a0 2 ≤ 6003 := Wb1.int ty8 2
            refine d_callS (As := [.ref a0, .ref nb1]) (rest := []) C hM (C_addInd_24 (a0 := a0) (r := (some nb1)) Wb1 skb1 ty8 (fun _ q => by cases q; exact tnb1)  (by show ivb1 a0 2 < 6003; omega)) dX3_gatherPart_61 kS_X3_67 rfl rfl (Nat.le_of_ble_eq_true rfl) ⟨(Nat.le_of_ble_eq_true rfl), (Nat.le_of_ble_eq_true rfl)⟩ hph pl6 (show 0 + 0 = 0 from rfl) (by decide) (fun rh4 Lh4 clh4 lnh4 ivh4 rvh4 h4 => ?_)
            obtain ⟨rfl, xl4, fl4, W4, exf4⟩ := h4
            refine hv3 (Fb1.call Xb1 fl4 rfl) (Xb1.trans xl4) (xl4.skl skb1) (fun F4 X4 sk4 => ?_)
            refine c_st (st2 := []) rfl ?_
            refine hv2 (xl4.ty ty8) (show ivb1 a0 2 ≤ ivh4 a0 2 ∧ ivh4 a0 2 ≤ ivb1 a0 2 + 1 from exf4) (fun ty9 gf4 => ?_)
            have ri6 : 0 ≤ ivh4 a0 2 ∧ ivh4 a0 2 ≤ 6003 := W4.int ty9 2
            refine c_aload_n (j := 1) (x := a0) C dX3_gatherPart_64 rfl ?_
            refine c_aload_n (j := 2) (x := ob1) C dX3_gatherPart_65 rfl ?_
            refine hv2 (xl4.ty ty1) (show rvh4 ob1 6 = rvb1 ob1 6 from (fl4.r ty1 rfl 6)) (fun ty10 re2 => ?_)
            rw [rq1] at re2
            refine c_getr (k := 6) C ck_10 dX3_gatherPart_66 w2_193 (by decide) ty10 rfl rfl (by decide) rfl re2 ?_
            refine c_st (st2 := [.ref rb1, .ref a0]) rfl ?_
            refine c_iconst C dX3_gatherPart_69 ?_
            have ty11 := xl4.ty trb1
            have ll3 : 4 ≤ lnh4 rb1 ∧ lnh4 rb1 ≤ 4 := W4.len ty11 rfl
            rcases W4.opt ty11 ((1 : Int).toNat) rfl rfl with ⟨nq3, _⟩ | ⟨nb3, nq3, tnb3⟩
            · refine c_aaldR C dX3_gatherPart_70 ty11 rfl (by omega) (by omega) (by omega) nq3 ?_
              refine c_st (st2 := [.null, .ref a0]) rfl ?_
              have pl7 := Phi.le W4 sk4
              refine d_callS (As := [.ref a0, .null]) (rest := []) C hM (C_addInd_24 (a0 := a0) (r := none) W4 sk4 ty9 (fun _ q => by cases q)  (by show ivh4 a0 2 < 6003; omega)) dX3_gatherPart_71 kS_X3_67 rfl rfl (Nat.le_of_ble_eq_true rfl) ⟨(Nat.le_of_ble_eq_true rfl), (Nat.le_of_ble_eq_true rfl)⟩ hph pl7 (show 0 + 0 = 0 from rfl) (by decide) (fun rh5 Lh5 clh5 lnh5 ivh5 rvh5 h5 => ?_)
              obtain ⟨rfl, xl5, fl5, W5, exf5⟩ := h5
              refine hv4 (F4.call X4 fl5 rfl) (xl4.ty tnb1) (X4.trans xl5) (xl5.skl sk4) (fun F5 ty12 X5 sk5 => ?_)
              refine c_st (st2 := []) rfl ?_
              refine hv3 (xl5.ty ty9) (show ivh4 a0 2 ≤ ivh5 a0 2 ∧ ivh5 a0 2 ≤ ivh4 a0 2 + 1 from exf5) (Phi.le W5 sk5) (fun ty13 gf5 pl8 => ?_)
              have ri7 : 0 ≤ ivh5 a0 2 ∧ ivh5 a0 2 ≤ 6003 := W5.int ty13 2
              exact c_vret C dX3_gatherPart_74 rfl (by decide) (rom0 hph pl8 (by decide)) ⟨rfl, X5, F5, W5, (by omega)⟩
            · have tnb3 : ty Lh4 clh4 nb3 20 := tnb3
              refine c_aaldR C dX3_gatherPart_70 ty11 rfl (by omega) (by omega) (by omega) nq3 ?_
              refine c_st (st2 := [.ref nb3, .ref a0]) rfl ?_
              have pl9 := Phi.le W4 sk4
              refine d_callS (As := [.ref a0, .ref nb3]) (rest := []) C hM (C_addInd_24 (a0 := a0) (r := (some nb3)) W4 sk4 ty9 (fun _ q => by cases q; exact tnb3)  (by show ivh4 a0 2 < 6003; omega)) dX3_gatherPart_71 kS_X3_67 rfl rfl (Nat.le_of_ble_eq_true rfl) ⟨(Nat.le_of_ble_eq_true rfl), (Nat.le_of_ble_eq_true rfl)⟩ hph pl9 (show 0 + 0 = 0 from rfl) (by decide) (fun rh6 Lh6 clh6 lnh6 ivh6 rvh6 h6 => ?_)
              obtain ⟨rfl, xl6, fl6, W6, exf6⟩ := h6
              refine hv4 (F4.call X4 fl6 rfl) (xl4.ty tnb1) (X4.trans xl6) (xl6.skl sk4) (fun F6 ty14 X6 sk6 => ?_)
              refine c_st (st2 := []) rfl ?_
              refine hv3 (xl6.ty ty9) (show ivh4 a0 2 ≤ ivh6 a0 2 ∧ ivh6 a0 2 ≤ ivh4 a0 2 + 1 from exf6) (Phi.le W6 sk6) (fun ty15 gf6 pl10 => ?_)
              have ri8 : 0 ≤ ivh6 a0 2 ∧ ivh6 a0 2 ≤ 6003 := W6.int ty15 2
              exact c_vret C dX3_gatherPart_74 rfl (by decide) (rom0 hph pl10 (by decide)) ⟨rfl, X6, F6, W6, (by omega)⟩
        · subst oq2
          refine hv2 (ty_tq ob2 rfl) (hrk ob2 rfl) (fun tob2 hkob2 => ?_)
          have tgob2 := bt_100 tob2.2
          refine c_lv (lv2 := [(2, .ref ob2), (0, .ref a0), (1, .ref ob1)]) [0, 1, 2] rfl ?_
          refine c_st (st2 := []) rfl ?_
          refine c_iconst C dX3_gatherPart_11 ?_
          refine c_istore_n (lv2 := [(3, .int (iI 0)), (2, .ref ob2), (0, .ref a0), (1, .ref ob1)]) C dX3_gatherPart_12 (by decide) rfl ?_
          have Lp2 : ∀ (nn : Nat) (tr : Nat) (k : Int) (Lb2 : List Nat) (clb2 lnb2 : Nat → Nat) (ivb2 : Nat → Nat → Int) (rvb2 : Nat → Nat → Option Nat) , 201 - k < (nn : Int) → XT L cl ln Lb2 clb2 lnb2 → WT (g0 G) sk Lb2 clb2 lnb2 ivb2 rvb2 → fT [24, 1002] L cl iv rv ivb2 rvb2 → (ty Lb2 clb2 tr 100) → (0 ≤ k ∧ k ≤ 200) → (ivb2 a0 2 ≤ 200 * (129 - rk) + k) → (100 ≤ clb2 tr ∧ ((clb2 tr : Nat) : Int) ≤ rk) → cw p l e 8 ((PHM) + 0 - ((Phi (g0 G) sk) ln rv)) s m args below meth c G A 4 (MQ below (Qu G A (Qp G (Phi (g0 G) sk) ((Phi (g0 G) sk) ln rv) 0 (fun v L2 cl2 ln2 iv2 rv2 => v = none ∧ XT L cl ln L2 cl2 ln2 ∧ fT [24, 1002] L cl iv rv iv2 rv2 ∧ WT (g0 G) sk L2 cl2 ln2 iv2 rv2 ∧ (iv2 a0 2 ≤ 6002)))) args s (((PHM) + 0 - ((Phi (g0 G) sk) ln rv)) / 16) ((PHM) + 0 - ((Phi (g0 G) sk) ln rv)) A) (Phi (g0 G) sk) ((Phi (g0 G) sk) ln rv) Lb2 clb2 lnb2 ivb2 rvb2 0 13 [(2, .ref tr), (3, .int (iI k)), (0, .ref a0), (1, .ref ob1)] [] := by
            intro nn
            induction nn with
            | zero =>
              intro tr k Lb2 clb2 lnb2 ivb2 rvb2 hm Xb2 Wb2 Fb2 ty_tr hk hs2 hcr
              have skb2 := Xb2.skl hS
              exact absurd hm (by omega)
            | succ nn ih2 =>
              intro tr k Lb2 clb2 lnb2 ivb2 rvb2 hm Xb2 Wb2 Fb2 ty_tr hk hs2 hcr
              have skb2 := Xb2.skl hS
              refine c_iload_n (j := 1) C dX3_gatherPart_13 rfl ?_
              refine c_aload_n (j := 0) (x := tr) C dX3_gatherPart_14 rfl ?_
              obtain ⟨rb2, rq2, trb2⟩ := Wb2.ref ty_tr 4 rfl rfl rfl
              refine c_getr (k := 4) C ck_10 dX3_gatherPart_15 w2_187 (by decide) ty_tr rfl rfl (by decide) rfl rq2 ?_
              refine c_st (st2 := [.ref rb2, .int (iI k)]) rfl ?_
              refine hv2 (show 0 ≤ ivb2 rb2 2 ∧ ivb2 rb2 2 ≤ 200 from Wb2.int trb2 2) (Phi.le Wb2 skb2) (fun ri9 pl11 => ?_)
              refine d_callV (As := []) (rest := [.int (iI k)]) C hM (C_size_26 (a0 := rb2) Wb2 skb2 trb2  ) dX3_gatherPart_18 kV_X3_78 rfl trb2 rfl rfl (by decide) ck_0 rfl (Nat.le_of_ble_eq_true rfl) ⟨(Nat.le_of_ble_eq_true rfl), (Nat.le_of_ble_eq_true rfl)⟩ hph pl11 (show 0 + 0 = 0 from rfl) (by decide) (fun rh7 Lh7 clh7 lnh7 ivh7 rvh7 h7 => ?_)
              obtain ⟨f7, rfl, rfl, rfl, rfl, rfl, rfl, rgf7, exf7⟩ := h7
              refine c_st (st2 := [.int (iI f7), .int (iI k)]) rfl ?_
              have gf7 : f7 = ivb2 rb2 2 := exf7
              refine c_icmp_ge (tgt := 46) C ⟨by omega, by omega⟩ ⟨by omega, by omega⟩ dX3_gatherPart_21 (by decide) (fun c1 => ?_) (fun c1 => ?_)
              · refine c_aload_n (j := 0) (x := tr) C dX3_gatherPart_46 rfl ?_
                rcases Wb2.opt ty_tr 2 rfl rfl with ⟨nq4, _⟩ | ⟨nb4, nq4, tnb4⟩
                · refine c_getr (k := 2) C ck_10 dX3_gatherPart_47 w2_181 (by decide) ty_tr rfl rfl (by decide) rfl nq4 ?_
                  refine c_st (st2 := [.null]) rfl ?_
                  refine c_astorer_n (r := none) (lv2 := [(2, .null), (3, .int (iI k)), (0, .ref a0), (1, .ref ob1)]) C dX3_gatherPart_50 (by decide) rfl ?_
                  refine c_goto (tgt := 7) C dX3_gatherPart_51 (by decide) ?_
                  have ty16 := Xb2.ty t_a0
                  have ri10 : 0 ≤ ivb2 a0 2 ∧ ivb2 a0 2 ≤ 6003 := Wb2.int ty16 2
                  refine c_lv (lv2 := [(2, .null), (0, .ref a0), (1, .ref ob1)]) [0, 2, 3] rfl ?_
                  exact ih1  none (rk - 1) _ _ _ _ _ (by omega) Xb2 Wb2 Fb2 (fun _ q => by cases q) (by omega) (by show ivb2 a0 2 ≤ 200 * (129 - (rk - 1)); omega) (fun _ q => by cases q)
                · have rknb4 := Wb2.rank ty_tr (k := 2) (by decide) nq4
                  refine c_getr (k := 2) C ck_10 dX3_gatherPart_47 w2_181 (by decide) ty_tr rfl rfl (by decide) rfl nq4 ?_
                  refine c_st (st2 := [.ref nb4]) rfl ?_
                  refine c_astore_n (lv2 := [(2, .ref nb4), (3, .int (iI k)), (0, .ref a0), (1, .ref ob1)]) C dX3_gatherPart_50 (by decide) rfl ?_
                  refine c_goto (tgt := 7) C dX3_gatherPart_51 (by decide) ?_
                  refine hv2 (Xb2.ty t_a0) (bt_100 tnb4.2) (fun ty17 trnb4 => ?_)
                  have ri11 : 0 ≤ ivb2 a0 2 ∧ ivb2 a0 2 ≤ 6003 := Wb2.int ty17 2
                  refine c_lv (lv2 := [(2, .ref nb4), (0, .ref a0), (1, .ref ob1)]) [0, 2, 3] rfl ?_
                  exact ih1  (some nb4) (rk - 1) _ _ _ _ _ (by omega) Xb2 Wb2 Fb2 (fun _ q => by cases q; exact tnb4) (by omega) (by show ivb2 a0 2 ≤ 200 * (129 - (rk - 1)); omega) (fun _ q => by cases q; omega)
              · refine c_aload_n (j := 2) (x := a0) C dX3_gatherPart_24 rfl ?_
                refine c_aload_n (j := 0) (x := tr) C dX3_gatherPart_25 rfl ?_
                refine c_getr (k := 4) C ck_10 dX3_gatherPart_26 w2_187 (by decide) ty_tr rfl rfl (by decide) rfl rq2 ?_
                refine c_st (st2 := [.ref rb2, .ref a0]) rfl ?_
                refine c_iload_n (j := 1) C dX3_gatherPart_29 rfl ?_
                refine d_callV (As := [.int (iI k)]) (rest := [.ref a0]) C hM (C_get_26 (a0 := rb2) (i := k) Wb2 skb2 trb2 (by omega) (by show 0 ≤ k ∧ k < ivb2 rb2 2; omega)) dX3_gatherPart_30 kV_X3_82 rfl trb2 rfl rfl (by decide) ck_0 rfl (Nat.le_of_ble_eq_true rfl) ⟨(Nat.le_of_ble_eq_true rfl), (Nat.le_of_ble_eq_true rfl)⟩ hph pl11 (show 0 + 0 = 0 from rfl) (by decide) (fun rh8 Lh8 clh8 lnh8 ivh8 rvh8 h8 => ?_)
                obtain ⟨f8, rfl, rfl, rfl, rfl, rfl, rfl, rgf8, exf8⟩ := h8
                refine c_st (st2 := [.ref f8, .ref a0]) rfl ?_
                have gf8 : el rvb2 rb2 k.toNat = some f8 := exf8
                refine c_cast C ck_6 dX3_gatherPart_33 w5_63 w8_169t rgf8 rfl rfl (by decide) ?_
                have ty18 := Xb2.ty t_a0
                have ri12 : 0 ≤ ivb2 a0 2 ∧ ivb2 a0 2 ≤ 6003 := Wb2.int ty18 2
                refine d_callV (As := [.ref f8]) (rest := []) C hM (C_add_24 (a0 := a0) (x := f8) Wb2 skb2 ty18 rgf8  (by show ivb2 a0 2 < 6003; omega)) dX3_gatherPart_36 kV_X3_97 rfl ty18 rfl rfl (by decide) ck_0 rfl (Nat.le_of_ble_eq_true rfl) ⟨(Nat.le_of_ble_eq_true rfl), (Nat.le_of_ble_eq_true rfl)⟩ hph pl11 (show 0 + 0 = 0 from rfl) (by decide) (fun rh9 Lh9 clh9 lnh9 ivh9 rvh9 h9 => ?_)
                obtain ⟨f9, rfl, xl9, fl9, W9, rgf9, exf9⟩ := h9
                refine hv4 (Fb2.call Xb2 fl9 rfl) (Xb2.ty tob1) (Xb2.trans xl9) (xl9.skl skb2) (fun F7 ty19 X7 sk7 => ?_)
                refine c_st (st2 := [.int (iI f9)]) rfl ?_
                refine hv2 (xl9.ty ty18) (show ivh9 a0 2 = ivb2 a0 2 + 1 ∧ el rvh9 a0 (ivb2 a0 2).toNat = some f8 ∧ ∀ i : Nat, (i : Int) < ivb2 a0 2 → el rvh9 a0 i = el rvb2 a0 i from exf9) (fun ty20 gf9 => ?_)
                have ri13 : 0 ≤ ivh9 a0 2 ∧ ivh9 a0 2 ≤ 6003 := W9.int ty20 2
                refine c_pop C dX3_gatherPart_39 rfl ?_
                refine c_iinc (z := k) (j := 1) (lv2 := [(3, .int (iI (k + 1))), (2, .ref tr), (0, .ref a0), (1, .ref ob1)]) C dX3_gatherPart_40 rfl (by decide) rfl ?_
                refine c_goto (tgt := 13) C dX3_gatherPart_43 (by decide) ?_
                refine hv2 (xl9.ty ty_tr) (show clh9 tr = clb2 tr from (xl9 tr ty_tr.1).2.1) (fun ty21 ce1 => ?_)
                refine c_lv (lv2 := [(2, .ref tr), (3, .int (iI (k + 1))), (0, .ref a0), (1, .ref ob1)]) [1, 0, 2, 3] rfl ?_
                exact ih2  tr (k + 1) _ _ _ _ _ (by omega) X7 W9 F7 ty21 (by omega) (by show ivh9 a0 2 ≤ 200 * (129 - rk) + (k + 1); omega) (by show 100 ≤ clh9 tr ∧ ((clh9 tr : Nat) : Int) ≤ rk; omega)
          have ty22 := Xb1.ty t_a0
          have ri14 : 0 ≤ ivb1 a0 2 ∧ ivb1 a0 2 ≤ 6003 := Wb1.int ty22 2
          refine c_lv (lv2 := [(2, .ref ob2), (3, .int (iI 0)), (0, .ref a0), (1, .ref ob1)]) [1, 0, 2, 3] rfl ?_
          exact Lp2 203 ob2 0 _ _ _ _ _ (by omega) Xb1 Wb1 Fb1 tob2 (by omega) (by show ivb1 a0 2 ≤ 200 * (129 - rk) + 0; omega) (by show 100 ≤ clb1 ob2 ∧ ((clb1 ob2 : Nat) : Int) ≤ rk; omega)
    refine hv2 (show 0 ≤ iv a0 2 ∧ iv a0 2 ≤ 6003 from hW.int t_a0 2) (bt_100 tob1.2) (fun ri15 trob1 => ?_)
    refine c_lv (lv2 := [(2, .ref ob1), (0, .ref a0), (1, .ref ob1)]) [0, 1, 2] rfl ?_
    exact Lp1 31 (some ob1) 129 _ _ _ _ _ (by omega) hX0 hW hF0 (fun _ q => by cases q; exact tob1) (by omega) (by show iv a0 2 ≤ 200 * (129 - 129); omega) (fun _ q => by cases q; omega)
  · subst oq1
    refine c_lv (lv2 := [(0, .ref a0), (1, .null)]) [0, 1] rfl ?_
    refine c_st (st2 := []) rfl ?_
    have ri16 : 0 ≤ iv a0 2 ∧ iv a0 2 ≤ 6003 := hW.int t_a0 2
    exact c_vret C dX3_gatherPart_4 rfl (by decide) (rom0 hph hph (by decide)) ⟨rfl, hX0, hF0, hW, (by omega)⟩
set_option maxHeartbeats 4000000 in
set_option maxRecDepth 100000 in
theorem C_isReadable_24 {l : Launch} {G : GT} {mi : Nat} {sk : Nat → Nat} {L : List Nat} {cl ln : Nat → Nat} {iv : Nat → Nat → Int} {rv : Nat → Nat → Option Nat}  {a0 : Nat} {x : Int} (hW : WT (g0 G) sk L cl ln iv rv) (hS : SKL sk L cl) (t_a0 : ty L cl a0 24) (h_x : -2147483648 ≤ x ∧ x ≤ 2147483647)  : Mc l G mi (Phi (g0 G) sk) PHM yX3_isReadable cX3_isReadable 6 (some .boolean) 3 [.ref a0, .int (iI x)] L cl ln iv rv 0 (fun v L2 cl2 ln2 iv2 rv2 => ∃ f : Int, v = some (.int (iI f)) ∧ L = L2 ∧ cl = cl2 ∧ ln = ln2 ∧ iv = iv2 ∧ rv = rv2 ∧ (f = 0 ∨ f = 1) ∧ (True)) := by
  refine Mc.mk (by decide) (Nat.le_of_ble_eq_true rfl) ?_
  intro p e s m args below meth c A C hM
  refine hv3 (Phi.le hW hS) (show XT L cl ln L cl ln from XT.refl) (show fT [] L cl iv rv iv rv from fT.refl) (fun hph hX0 hF0 => ?_)
  refine c_aload_n (j := 0) (x := a0) C dX3_isReadable_0 rfl ?_
  have ri1 : 0 ≤ iv a0 2 ∧ iv a0 2 ≤ 6003 := hW.int t_a0 2
  refine d_callV (As := []) (rest := []) C hM (C_size_24 (a0 := a0) hW hS t_a0  ) dX3_isReadable_1 kV_X3_78 rfl t_a0 rfl rfl (by decide) ck_0 rfl (Nat.le_of_ble_eq_true rfl) ⟨(Nat.le_of_ble_eq_true rfl), (Nat.le_of_ble_eq_true rfl)⟩ hph hph (show 0 + 0 = 0 from rfl) (by decide) (fun rh1 Lh1 clh1 lnh1 ivh1 rvh1 h1 => ?_)
  obtain ⟨f1, rfl, rfl, rfl, rfl, rfl, rfl, rgf1, exf1⟩ := h1
  refine c_st (st2 := [.int (iI f1)]) rfl ?_
  have gf1 : f1 = iv a0 2 := exf1
  refine c_istore_n (lv2 := [(2, .int (iI f1)), (0, .ref a0), (1, .int (iI x))]) C dX3_isReadable_4 (by decide) rfl ?_
  refine c_iconst C dX3_isReadable_5 ?_
  refine c_istore_n (lv2 := [(3, .int (iI 0)), (2, .int (iI f1)), (0, .ref a0), (1, .int (iI x))]) C dX3_isReadable_6 (by decide) rfl ?_
  have Lp1 : ∀ (nn : Nat) (k : Int) , 6004 - k < (nn : Int) → (0 ≤ k ∧ k ≤ 6003) → cw p l e 3 ((PHM) + 0 - ((Phi (g0 G) sk) ln rv)) s m args below meth c G A 6 (MQ below (Qu G A (Qp G (Phi (g0 G) sk) ((Phi (g0 G) sk) ln rv) 0 (fun v L2 cl2 ln2 iv2 rv2 => ∃ f : Int, v = some (.int (iI f)) ∧ L = L2 ∧ cl = cl2 ∧ ln = ln2 ∧ iv = iv2 ∧ rv = rv2 ∧ (f = 0 ∨ f = 1) ∧ (True)))) args s (((PHM) + 0 - ((Phi (g0 G) sk) ln rv)) / 16) ((PHM) + 0 - ((Phi (g0 G) sk) ln rv)) A) (Phi (g0 G) sk) ((Phi (g0 G) sk) ln rv) L cl ln iv rv 0 7 [(3, .int (iI k)), (2, .int (iI f1)), (0, .ref a0), (1, .int (iI x))] [] := by
    intro nn
    induction nn with
    | zero =>
      intro  k  hm   hk
      exact absurd hm (by omega)
    | succ nn ih1 =>
      intro  k  hm   hk
      refine c_iload_n (j := 0) C dX3_isReadable_7 rfl ?_
      refine c_iload_n (j := 1) C dX3_isReadable_8 rfl ?_
      refine c_icmp_ge (tgt := 79) C ⟨by omega, by omega⟩ ⟨by omega, by omega⟩ dX3_isReadable_9 (by decide) (fun c1 => ?_) (fun c1 => ?_)
      · refine c_iconst C dX3_isReadable_79 ?_
        exact c_zret C dX3_isReadable_80 rfl (Or.inr rfl) (by decide) (rom0 hph hph (by decide)) ⟨1, rfl, rfl, rfl, rfl, rfl, rfl, (Or.inr rfl), trivial⟩
      · refine c_aload_n (j := 2) (x := a0) C dX3_isReadable_12 rfl ?_
        refine c_iload_n (j := 0) C dX3_isReadable_13 rfl ?_
        refine d_callV (As := [.int (iI k)]) (rest := []) C hM (C_get_24 (a0 := a0) (i := k) hW hS t_a0 (by omega) (by show 0 ≤ k ∧ k < iv a0 2; omega)) dX3_isReadable_14 kV_X3_82 rfl t_a0 rfl rfl (by decide) ck_0 rfl (Nat.le_of_ble_eq_true rfl) ⟨(Nat.le_of_ble_eq_true rfl), (Nat.le_of_ble_eq_true rfl)⟩ hph hph (show 0 + 0 = 0 from rfl) (by decide) (fun rh2 Lh2 clh2 lnh2 ivh2 rvh2 h2 => ?_)
        obtain ⟨f2, rfl, rfl, rfl, rfl, rfl, rfl, rgf2, exf2⟩ := h2
        refine c_st (st2 := [.ref f2]) rfl ?_
        have gf2 : el rv a0 k.toNat = some f2 := exf2
        refine c_cast C ck_6 dX3_isReadable_17 w5_63 w8_169t rgf2 rfl rfl (by decide) ?_
        refine c_astore (lv2 := [(4, .ref f2), (3, .int (iI k)), (2, .int (iI f1)), (0, .ref a0), (1, .int (iI x))]) C dX3_isReadable_20 (by decide) rfl ?_
        refine c_aload (j := 0) (x := f2) C dX3_isReadable_22 rfl ?_
        refine c_iload_n (j := 4) C dX3_isReadable_24 rfl ?_
        refine d_callV (As := [.int (iI x)]) (rest := []) C hM (C_rends (a0 := f2) (x := x) hW hS rgf2 (by omega) ) dX3_isReadable_25 kV_X3_100 rfl rgf2 rfl rfl (by decide) ck_6 rfl (Nat.le_of_ble_eq_true rfl) ⟨(Nat.le_of_ble_eq_true rfl), (Nat.le_of_ble_eq_true rfl)⟩ hph hph (show 0 + 0 = 0 from rfl) (by decide) (fun rh3 Lh3 clh3 lnh3 ivh3 rvh3 h3 => ?_)
        obtain ⟨f3, rfl, rfl, rfl, rfl, rfl, rfl, rgf3, exf3⟩ := h3
        refine c_st (st2 := [.int (iI f3)]) rfl ?_
        refine c_if_eq (tgt := 33) C ⟨by omega, by omega⟩ dX3_isReadable_28 (by decide) (fun c2 => ?_) (fun c2 => ?_)
        · refine c_iconst C dX3_isReadable_33 ?_
          refine c_istore (lv2 := [(5, .int (iI 0)), (4, .ref f2), (3, .int (iI k)), (2, .int (iI f1)), (0, .ref a0), (1, .int (iI x))]) C dX3_isReadable_34 (by decide) rfl ?_
          have Lp2 : ∀ (nn : Nat) (k2 : Int) , 6004 - k2 < (nn : Int) → (0 ≤ k2 ∧ k2 ≤ 6003) → cw p l e 3 ((PHM) + 0 - ((Phi (g0 G) sk) ln rv)) s m args below meth c G A 6 (MQ below (Qu G A (Qp G (Phi (g0 G) sk) ((Phi (g0 G) sk) ln rv) 0 (fun v L2 cl2 ln2 iv2 rv2 => ∃ f : Int, v = some (.int (iI f)) ∧ L = L2 ∧ cl = cl2 ∧ ln = ln2 ∧ iv = iv2 ∧ rv = rv2 ∧ (f = 0 ∨ f = 1) ∧ (True)))) args s (((PHM) + 0 - ((Phi (g0 G) sk) ln rv)) / 16) ((PHM) + 0 - ((Phi (g0 G) sk) ln rv)) A) (Phi (g0 G) sk) ((Phi (g0 G) sk) ln rv) L cl ln iv rv 0 36 [(5, .int (iI k2)), (4, .ref f2), (3, .int (iI k)), (2, .int (iI f1)), (0, .ref a0), (1, .int (iI x))] [] := by
            intro nn
            induction nn with
            | zero =>
              intro  k2  hm   hk2
              exact absurd hm (by omega)
            | succ nn ih2 =>
              intro  k2  hm   hk2
              refine c_iload (j := 0) C dX3_isReadable_36 rfl ?_
              refine c_iload_n (j := 3) C dX3_isReadable_38 rfl ?_
              refine c_icmp_ge (tgt := 73) C ⟨by omega, by omega⟩ ⟨by omega, by omega⟩ dX3_isReadable_39 (by decide) (fun c3 => ?_) (fun c3 => ?_)
              · refine c_iinc (z := k) (j := 2) (lv2 := [(3, .int (iI (k + 1))), (5, .int (iI k2)), (4, .ref f2), (2, .int (iI f1)), (0, .ref a0), (1, .int (iI x))]) C dX3_isReadable_73 rfl (by decide) rfl ?_
                refine c_goto (tgt := 7) C dX3_isReadable_76 (by decide) ?_
                refine c_lv (lv2 := [(3, .int (iI (k + 1))), (2, .int (iI f1)), (0, .ref a0), (1, .int (iI x))]) [0, 3, 4, 5] rfl ?_
                exact ih1  (k + 1)  (by omega)   (by omega)
              · refine c_iload (j := 0) C dX3_isReadable_42 rfl ?_
                refine c_iload_n (j := 2) C dX3_isReadable_44 rfl ?_
                refine c_icmp_eq (tgt := 67) C ⟨by omega, by omega⟩ ⟨by omega, by omega⟩ dX3_isReadable_45 (by decide) (fun c4 => ?_) (fun c4 => ?_)
                · refine c_iinc (z := k2) (j := 0) (lv2 := [(5, .int (iI (k2 + 1))), (4, .ref f2), (3, .int (iI k)), (2, .int (iI f1)), (0, .ref a0), (1, .int (iI x))]) C dX3_isReadable_67 rfl (by decide) rfl ?_
                  refine c_goto (tgt := 36) C dX3_isReadable_70 (by decide) ?_
                  refine c_lv (lv2 := [(5, .int (iI (k2 + 1))), (4, .ref f2), (3, .int (iI k)), (2, .int (iI f1)), (0, .ref a0), (1, .int (iI x))]) [0, 1, 2, 3, 4, 5] rfl ?_
                  exact ih2  (k2 + 1)  (by omega)   (by omega)
                · refine c_aload (j := 1) (x := f2) C dX3_isReadable_48 rfl ?_
                  refine c_aload_n (j := 4) (x := a0) C dX3_isReadable_50 rfl ?_
                  refine c_iload (j := 0) C dX3_isReadable_51 rfl ?_
                  refine d_callV (As := [.int (iI k2)]) (rest := [.ref f2]) C hM (C_get_24 (a0 := a0) (i := k2) hW hS t_a0 (by omega) (by show 0 ≤ k2 ∧ k2 < iv a0 2; omega)) dX3_isReadable_53 kV_X3_82 rfl t_a0 rfl rfl (by decide) ck_0 rfl (Nat.le_of_ble_eq_true rfl) ⟨(Nat.le_of_ble_eq_true rfl), (Nat.le_of_ble_eq_true rfl)⟩ hph hph (show 0 + 0 = 0 from rfl) (by decide) (fun rh4 Lh4 clh4 lnh4 ivh4 rvh4 h4 => ?_)
                  obtain ⟨f4, rfl, rfl, rfl, rfl, rfl, rfl, rgf4, exf4⟩ := h4
                  refine c_st (st2 := [.ref f4, .ref f2]) rfl ?_
                  have gf4 : el rv a0 k2.toNat = some f4 := exf4
                  refine c_cast C ck_6 dX3_isReadable_56 w5_63 w8_169t rgf4 rfl rfl (by decide) ?_
                  refine d_callV (As := [.ref f4]) (rest := []) C hM (C_isAtBegin (a0 := f2) (a1 := f4) hW hS rgf2 rgf4  ) dX3_isReadable_59 kV_X3_104 rfl rgf2 rfl rfl (by decide) ck_6 rfl (Nat.le_of_ble_eq_true rfl) ⟨(Nat.le_of_ble_eq_true rfl), (Nat.le_of_ble_eq_true rfl)⟩ hph hph (show 0 + 0 = 0 from rfl) (by decide) (fun rh5 Lh5 clh5 lnh5 ivh5 rvh5 h5 => ?_)
                  obtain ⟨f5, rfl, rfl, rfl, rfl, rfl, rfl, rgf5, exf5⟩ := h5
                  refine c_st (st2 := [.int (iI f5)]) rfl ?_
                  refine c_if_eq (tgt := 67) C ⟨by omega, by omega⟩ dX3_isReadable_62 (by decide) (fun c5 => ?_) (fun c5 => ?_)
                  · refine c_iinc (z := k2) (j := 0) (lv2 := [(5, .int (iI (k2 + 1))), (4, .ref f2), (3, .int (iI k)), (2, .int (iI f1)), (0, .ref a0), (1, .int (iI x))]) C dX3_isReadable_67 rfl (by decide) rfl ?_
                    refine c_goto (tgt := 36) C dX3_isReadable_70 (by decide) ?_
                    refine c_lv (lv2 := [(5, .int (iI (k2 + 1))), (4, .ref f2), (3, .int (iI k)), (2, .int (iI f1)), (0, .ref a0), (1, .int (iI x))]) [0, 1, 2, 3, 4, 5] rfl ?_
                    exact ih2  (k2 + 1)  (by omega)   (by omega)
                  · refine c_iconst C dX3_isReadable_65 ?_
                    exact c_zret C dX3_isReadable_66 rfl (Or.inl rfl) (by decide) (rom0 hph hph (by decide)) ⟨0, rfl, rfl, rfl, rfl, rfl, rfl, (Or.inl rfl), trivial⟩
          refine c_lv (lv2 := [(5, .int (iI 0)), (4, .ref f2), (3, .int (iI k)), (2, .int (iI f1)), (0, .ref a0), (1, .int (iI x))]) [0, 1, 2, 3, 4, 5] rfl ?_
          exact Lp2 6006 0  (by omega)   (by omega)
        · refine c_iconst C dX3_isReadable_31 ?_
          exact c_zret C dX3_isReadable_32 rfl (Or.inl rfl) (by decide) (rom0 hph hph (by decide)) ⟨0, rfl, rfl, rfl, rfl, rfl, rfl, (Or.inl rfl), trivial⟩
  refine c_lv (lv2 := [(3, .int (iI 0)), (2, .int (iI f1)), (0, .ref a0), (1, .int (iI x))]) [0, 1, 2, 3] rfl ?_
  exact Lp1 6006 0  (by omega)   (by omega)
set_option maxHeartbeats 4000000 in
set_option maxRecDepth 100000 in
theorem C_addInd_25 {l : Launch} {G : GT} {mi : Nat} {sk : Nat → Nat} {L : List Nat} {cl ln : Nat → Nat} {iv : Nat → Nat → Int} {rv : Nat → Nat → Option Nat}  {a0 : Nat} {r : Option Nat} (hW : WT (g0 G) sk L cl ln iv rv) (hS : SKL sk L cl) (t_a0 : ty L cl a0 25) (t_r : ∀ b, r = some b → ty L cl b 20) (hn : iv a0 2 < 6003) : Mc l G mi (Phi (g0 G) sk) PHM yX3_addIndicator cX3_addIndicator 2 none 7 [.ref a0, va_rf r] L cl ln iv rv 0 (fun v L2 cl2 ln2 iv2 rv2 => v = none ∧ XT L cl ln L2 cl2 ln2 ∧ fT [25, 1003] L cl iv rv iv2 rv2 ∧ WT (g0 G) sk L2 cl2 ln2 iv2 rv2 ∧ (iv a0 2 ≤ iv2 a0 2 ∧ iv2 a0 2 ≤ iv a0 2 + 1)) := by
  refine Mc.mk (by decide) (by cases r <;> exact Nat.le_of_ble_eq_true rfl) ?_
  intro p e s m args below meth c A C hM
  have hph := Phi.le hW hS
  refine c_lveq (show lv_args 0 [.ref a0, va_rf r] = [(0, .ref a0), (1, (va_rf r))] from by cases r <;> rfl) ?_
  refine hv3 (show 0 ≤ iv a0 2 from (hW.int t_a0 2).1) (show XT L cl ln L cl ln from XT.refl) (show fT [25, 1003] L cl iv rv iv rv from fT.refl) (fun hb0 hX0 hF0 => ?_)
  refine c_aloadr_n (j := 1) (r := r) C dX3_addIndicator_0 rfl ?_
  refine c_ifnull (r := r) (tgt := 10) C dX3_addIndicator_1 (by decide) (fun oq1 => ?_) (fun ob1 oq1 => ?_)
  · subst oq1
    refine c_lv (lv2 := [(0, .ref a0), (1, .null)]) [0, 1] rfl ?_
    refine c_st (st2 := []) rfl ?_
    have ri1 : 0 ≤ iv a0 2 ∧ iv a0 2 ≤ 6003 := hW.int t_a0 2
    exact c_vret C dX3_addIndicator_10 rfl (by decide) (rom0 hph hph (by decide)) ⟨rfl, hX0, hF0, hW, (by omega)⟩
  · subst oq1
    have tob1 := t_r ob1 rfl
    refine c_lv (lv2 := [(0, .ref a0), (1, .ref ob1)]) [0, 1] rfl ?_
    refine c_st (st2 := []) rfl ?_
    refine c_aload_n (j := 0) (x := a0) C dX3_addIndicator_4 rfl ?_
    refine c_aload_n (j := 1) (x := ob1) C dX3_addIndicator_5 rfl ?_
    have ri2 : 0 ≤ iv a0 2 ∧ iv a0 2 ≤ 6003 := hW.int t_a0 2
    refine d_callV (As := [.ref ob1]) (rest := []) C hM (C_add_25 (a0 := a0) (x := ob1) hW hS t_a0 tob1  (by show iv a0 2 < 6003; omega)) dX3_addIndicator_6 kV_X3_97 rfl t_a0 rfl rfl (by decide) ck_0 rfl (Nat.le_of_ble_eq_true rfl) ⟨(Nat.le_of_ble_eq_true rfl), (Nat.le_of_ble_eq_true rfl)⟩ hph hph (show 0 + 0 = 0 from rfl) (by decide) (fun rh1 Lh1 clh1 lnh1 ivh1 rvh1 h1 => ?_)
    obtain ⟨f1, rfl, xl1, fl1, W1, rgf1, exf1⟩ := h1
    refine hv3 (hF0.call hX0 fl1 rfl) (hX0.trans xl1) (xl1.skl hS) (fun F1 X1 sk1 => ?_)
    refine c_st (st2 := [.int (iI f1)]) rfl ?_
    refine hv2 (xl1.ty t_a0) (show ivh1 a0 2 = iv a0 2 + 1 ∧ el rvh1 a0 (iv a0 2).toNat = some ob1 ∧ ∀ i : Nat, (i : Int) < iv a0 2 → el rvh1 a0 i = el rv a0 i from exf1) (fun ty1 gf1 => ?_)
    have ri3 : 0 ≤ ivh1 a0 2 ∧ ivh1 a0 2 ≤ 6003 := W1.int ty1 2
    refine c_pop C dX3_addIndicator_9 rfl ?_
    have pl1 := Phi.le W1 sk1
    exact c_vret C dX3_addIndicator_10 rfl (by decide) (rom0 hph pl1 (by decide)) ⟨rfl, X1, F1, W1, (by omega)⟩
set_option maxHeartbeats 4000000 in
set_option maxRecDepth 100000 in
theorem C_markBegins_25 {l : Launch} {G : GT} {mi : Nat} {sk : Nat → Nat} {L : List Nat} {cl ln : Nat → Nat} {iv : Nat → Nat → Int} {rv : Nat → Nat → Option Nat}  {a0 : Nat} {a1 : Nat} (hW : WT (g0 G) sk L cl ln iv rv) (hS : SKL sk L cl) (t_a0 : ty L cl a0 25) (t_a1 : ty L cl a1 7)  : Mc l G mi (Phi (g0 G) sk) PHM yX3_markBegins cX3_markBegins 5 none 3 [.ref a0, .ref a1] L cl ln iv rv 0 (fun v L2 cl2 ln2 iv2 rv2 => v = none ∧ XT L cl ln L2 cl2 ln2 ∧ fT [7, 37] L cl iv rv iv2 rv2 ∧ WT (g0 G) sk L2 cl2 ln2 iv2 rv2 ∧ (True)) := by
  refine Mc.mk (by decide) (Nat.le_of_ble_eq_true rfl) ?_
  intro p e s m args below meth c A C hM
  refine hv3 (Phi.le hW hS) (show XT L cl ln L cl ln from XT.refl) (show fT [7, 37] L cl iv rv iv rv from fT.refl) (fun hph hX0 hF0 => ?_)
  refine c_aload_n (j := 1) (x := a1) C dX3_markBegins_0 rfl ?_
  refine d_callV (As := []) (rest := []) C hM (C_clear_7 (a0 := a1) hW hS t_a1  ) dX3_markBegins_1 kV_X3_77 rfl t_a1 rfl rfl (by decide) ck_2 rfl (Nat.le_of_ble_eq_true rfl) ⟨(Nat.le_of_ble_eq_true rfl), (Nat.le_of_ble_eq_true rfl)⟩ hph hph (show 0 + 0 = 0 from rfl) (by decide) (fun rh1 Lh1 clh1 lnh1 ivh1 rvh1 h1 => ?_)
  obtain ⟨rfl, rfl, rfl, rfl, rfl, fl1, W1, exf1⟩ := h1
  have F1 := hF0.call hX0 fl1 rfl
  refine c_st (st2 := []) rfl ?_
  refine hv2 (show 0 ≤ ivh1 a1 2 ∧ ivh1 a1 2 ≤ 6003 from W1.int t_a1 2) (show ivh1 a1 2 = 0 from exf1) (fun ri1 gf1 => ?_)
  refine c_aload_n (j := 0) (x := a0) C dX3_markBegins_4 rfl ?_
  refine hv2 (show 0 ≤ ivh1 a0 2 ∧ ivh1 a0 2 ≤ 6003 from W1.int t_a0 2) (show ivh1 a0 2 = iv a0 2 from fl1.i t_a0 rfl 2) (fun ri2 ie2 => ?_)
  refine d_callV (As := []) (rest := []) C hM (C_size_25 (a0 := a0) W1 hS t_a0  ) dX3_markBegins_5 kV_X3_78 rfl t_a0 rfl rfl (by decide) ck_0 rfl (Nat.le_of_ble_eq_true rfl) ⟨(Nat.le_of_ble_eq_true rfl), (Nat.le_of_ble_eq_true rfl)⟩ hph hph (show 0 + 0 = 0 from rfl) (by decide) (fun rh2 Lh2 clh2 lnh2 ivh2 rvh2 h2 => ?_)
  obtain ⟨f2, rfl, rfl, rfl, rfl, rfl, rfl, rgf2, exf2⟩ := h2
  refine c_st (st2 := [.int (iI f2)]) rfl ?_
  have gf2 : f2 = ivh1 a0 2 := exf2
  refine c_istore_n (lv2 := [(2, .int (iI f2)), (0, .ref a0), (1, .ref a1)]) C dX3_markBegins_8 (by decide) rfl ?_
  refine c_iconst C dX3_markBegins_9 ?_
  refine c_istore_n (lv2 := [(3, .int (iI 0)), (2, .int (iI f2)), (0, .ref a0), (1, .ref a1)]) C dX3_markBegins_10 (by decide) rfl ?_
  have Lp1 : ∀ (nn : Nat) (k : Int) (Lb1 : List Nat) (clb1 lnb1 : Nat → Nat) (ivb1 : Nat → Nat → Int) (rvb1 : Nat → Nat → Option Nat) , 6004 - k < (nn : Int) → XT L cl ln Lb1 clb1 lnb1 → WT (g0 G) sk Lb1 clb1 lnb1 ivb1 rvb1 → fT [7, 37] L cl iv rv ivb1 rvb1 → (0 ≤ k ∧ k ≤ 6003) → cw p l e 3 ((PHM) + 0 - ((Phi (g0 G) sk) ln rv)) s m args below meth c G A 5 (MQ below (Qu G A (Qp G (Phi (g0 G) sk) ((Phi (g0 G) sk) ln rv) 0 (fun v L2 cl2 ln2 iv2 rv2 => v = none ∧ XT L cl ln L2 cl2 ln2 ∧ fT [7, 37] L cl iv rv iv2 rv2 ∧ WT (g0 G) sk L2 cl2 ln2 iv2 rv2 ∧ (True)))) args s (((PHM) + 0 - ((Phi (g0 G) sk) ln rv)) / 16) ((PHM) + 0 - ((Phi (g0 G) sk) ln rv)) A) (Phi (g0 G) sk) ((Phi (g0 G) sk) ln rv) Lb1 clb1 lnb1 ivb1 rvb1 0 11 [(3, .int (iI k)), (2, .int (iI f2)), (0, .ref a0), (1, .ref a1)] [] := by
    intro nn
    induction nn with
    | zero =>
      intro  k Lb1 clb1 lnb1 ivb1 rvb1 hm Xb1 Wb1 Fb1  hk
      have skb1 := Xb1.skl hS
      exact absurd hm (by omega)
    | succ nn ih1 =>
      intro  k Lb1 clb1 lnb1 ivb1 rvb1 hm Xb1 Wb1 Fb1  hk
      have skb1 := Xb1.skl hS
      refine c_iload_n (j := 0) C dX3_markBegins_11 rfl ?_
      refine c_iload_n (j := 1) C dX3_markBegins_12 rfl ?_
      refine c_icmp_ge (tgt := 56) C ⟨by omega, by omega⟩ ⟨by omega, by omega⟩ dX3_markBegins_13 (by decide) (fun c1 => ?_) (fun c1 => ?_)
      · have pl1 := Phi.le Wb1 skb1
        exact c_vret C dX3_markBegins_56 rfl (by decide) (rom0 hph pl1 (by decide)) ⟨rfl, Xb1, Fb1, Wb1, trivial⟩
      · refine c_aload_n (j := 2) (x := a0) C dX3_markBegins_16 rfl ?_
        refine c_iload_n (j := 0) C dX3_markBegins_17 rfl ?_
        refine hv3 (Xb1.ty t_a0) (show ivb1 a0 2 = iv a0 2 from Fb1.i t_a0 rfl 2) (Phi.le Wb1 skb1) (fun ty1 ie3 pl2 => ?_)
        have ri3 : 0 ≤ ivb1 a0 2 ∧ ivb1 a0 2 ≤ 6003 := Wb1.int ty1 2
        refine d_callV (As := [.int (iI k)]) (rest := []) C hM (C_get_25 (a0 := a0) (i := k) Wb1 skb1 ty1 (by omega) (by show 0 ≤ k ∧ k < ivb1 a0 2; omega)) dX3_markBegins_18 kV_X3_82 rfl ty1 rfl rfl (by decide) ck_0 rfl (Nat.le_of_ble_eq_true rfl) ⟨(Nat.le_of_ble_eq_true rfl), (Nat.le_of_ble_eq_true rfl)⟩ hph pl2 (show 0 + 0 = 0 from rfl) (by decide) (fun rh3 Lh3 clh3 lnh3 ivh3 rvh3 h3 => ?_)
        obtain ⟨f3, rfl, rfl, rfl, rfl, rfl, rfl, rgf3, exf3⟩ := h3
        refine c_st (st2 := [.ref f3]) rfl ?_
        have gf3 : el rvb1 a0 k.toNat = some f3 := exf3
        refine c_cast C ck_6 dX3_markBegins_21 w5_63 w8_169t rgf3 rfl rfl (by decide) ?_
        refine c_astore (lv2 := [(4, .ref f3), (3, .int (iI k)), (2, .int (iI f2)), (0, .ref a0), (1, .ref a1)]) C dX3_markBegins_24 (by decide) rfl ?_
        refine c_aload_n (j := 4) (x := a1) C dX3_markBegins_26 rfl ?_
        refine c_aload (j := 0) (x := f3) C dX3_markBegins_27 rfl ?_
        obtain ⟨rb1, rq1, trb1⟩ := Wb1.ref rgf3 2 rfl rfl rfl
        have lnrb1 : 1 ≤ lnb1 rb1 ∧ lnb1 rb1 ≤ 4 := Wb1.len trb1 rfl
        refine c_getr (k := 2) C ck_6 dX3_markBegins_29 w3_143 (by decide) rgf3 rfl rfl (by decide) rfl rq1 ?_
        refine c_st (st2 := [.ref rb1, .ref a1]) rfl ?_
        have ll1 : 1 ≤ lnb1 rb1 ∧ lnb1 rb1 ≤ 4 := Wb1.len trb1 rfl
        refine c_alenI C dX3_markBegins_32 trb1 rfl ?_
        refine c_if_le (tgt := 46) C ⟨by omega, by omega⟩ dX3_markBegins_33 (by decide) (fun c2 => ?_) (fun c2 => ?_)
        · refine c_iconst C dX3_markBegins_46 ?_
          have ty2 := Xb1.ty t_a1
          have ri4 : 0 ≤ ivb1 a1 2 ∧ ivb1 a1 2 ≤ 6003 := Wb1.int ty2 2
          refine d_callV (As := [.int (iI 0)]) (rest := []) C hM (C_add_7 (a0 := a1) (x := 0) Wb1 skb1 ty2 ⟨by decide, by decide⟩ ) dX3_markBegins_47 kV_X3_91 rfl ty2 rfl rfl (by decide) ck_2 rfl (Nat.le_of_ble_eq_true rfl) ⟨(Nat.le_of_ble_eq_true rfl), (Nat.le_of_ble_eq_true rfl)⟩ hph pl2 (show 0 + 0 = 0 from rfl) (by decide) (fun rh4 Lh4 clh4 lnh4 ivh4 rvh4 h4 => ?_)
          obtain ⟨rfl, xl4, fl4, W4, exf4⟩ := h4
          refine hv3 (Fb1.call Xb1 fl4 rfl) (Xb1.trans xl4) (xl4.skl skb1) (fun F2 X1 sk1 => ?_)
          refine c_st (st2 := []) rfl ?_
          refine hv2 (xl4.ty ty2) (show ((ivh4 a1 2 = ivb1 a1 2 ∧ ivb1 a1 2 = 6003) ∨ (ivh4 a1 2 = ivb1 a1 2 + 1 ∧ ivb1 a1 2 < 6003)) from exf4) (fun ty3 gf4 => ?_)
          have ri5 : 0 ≤ ivh4 a1 2 ∧ ivh4 a1 2 ≤ 6003 := W4.int ty3 2
          refine c_iinc (z := k) (j := 1) (lv2 := [(3, .int (iI (k + 1))), (4, .ref f3), (2, .int (iI f2)), (0, .ref a0), (1, .ref a1)]) C dX3_markBegins_50 rfl (by decide) rfl ?_
          refine c_goto (tgt := 11) C dX3_markBegins_53 (by decide) ?_
          refine c_lv (lv2 := [(3, .int (iI (k + 1))), (2, .int (iI f2)), (0, .ref a0), (1, .ref a1)]) [0, 2, 3, 4] rfl ?_
          exact ih1  (k + 1) _ _ _ _ _ (by omega) X1 W4 F2  (by omega)
        · refine c_aload (j := 0) (x := f3) C dX3_markBegins_36 rfl ?_
          refine c_getr (k := 2) C ck_6 dX3_markBegins_38 w3_143 (by decide) rgf3 rfl rfl (by decide) rfl rq1 ?_
          refine c_st (st2 := [.ref rb1, .ref a1]) rfl ?_
          refine c_iconst C dX3_markBegins_41 ?_
          refine c_iald C dX3_markBegins_42 trb1 rfl (by omega) (by omega) (by omega) ?_
          have ri6 : (-2147483648) ≤ ivb1 rb1 ((0 : Int).toNat) ∧ ivb1 rb1 ((0 : Int).toNat) ≤ 2147483647 := Wb1.int trb1 ((0 : Int).toNat)
          refine c_goto (tgt := 47) C dX3_markBegins_43 (by decide) ?_
          have ty4 := Xb1.ty t_a1
          have ri7 : 0 ≤ ivb1 a1 2 ∧ ivb1 a1 2 ≤ 6003 := Wb1.int ty4 2
          refine d_callV (As := [.int (iI (ivb1 rb1 (0 : Int).toNat))]) (rest := []) C hM (C_add_7 (a0 := a1) (x := ivb1 rb1 (0 : Int).toNat) Wb1 skb1 ty4 (by omega) ) dX3_markBegins_47 kV_X3_91 rfl ty4 rfl rfl (by decide) ck_2 rfl (Nat.le_of_ble_eq_true rfl) ⟨(Nat.le_of_ble_eq_true rfl), (Nat.le_of_ble_eq_true rfl)⟩ hph pl2 (show 0 + 0 = 0 from rfl) (by decide) (fun rh5 Lh5 clh5 lnh5 ivh5 rvh5 h5 => ?_)
          obtain ⟨rfl, xl5, fl5, W5, exf5⟩ := h5
          refine hv3 (Fb1.call Xb1 fl5 rfl) (Xb1.trans xl5) (xl5.skl skb1) (fun F3 X2 sk2 => ?_)
          refine c_st (st2 := []) rfl ?_
          refine hv2 (xl5.ty ty4) (show ((ivh5 a1 2 = ivb1 a1 2 ∧ ivb1 a1 2 = 6003) ∨ (ivh5 a1 2 = ivb1 a1 2 + 1 ∧ ivb1 a1 2 < 6003)) from exf5) (fun ty5 gf5 => ?_)
          have ri8 : 0 ≤ ivh5 a1 2 ∧ ivh5 a1 2 ≤ 6003 := W5.int ty5 2
          refine c_iinc (z := k) (j := 1) (lv2 := [(3, .int (iI (k + 1))), (4, .ref f3), (2, .int (iI f2)), (0, .ref a0), (1, .ref a1)]) C dX3_markBegins_50 rfl (by decide) rfl ?_
          refine c_goto (tgt := 11) C dX3_markBegins_53 (by decide) ?_
          refine c_lv (lv2 := [(3, .int (iI (k + 1))), (2, .int (iI f2)), (0, .ref a0), (1, .ref a1)]) [0, 2, 3, 4] rfl ?_
          exact ih1  (k + 1) _ _ _ _ _ (by omega) X2 W5 F3  (by omega)
  refine c_lv (lv2 := [(3, .int (iI 0)), (2, .int (iI f2)), (0, .ref a0), (1, .ref a1)]) [0, 1, 2, 3] rfl ?_
  exact Lp1 6006 0 _ _ _ _ _ (by omega) hX0 W1 F1  (by omega)
set_option maxHeartbeats 4000000 in
set_option maxRecDepth 100000 in
theorem C_gatherPart_25 {l : Launch} {G : GT} {mi : Nat} {sk : Nat → Nat} {L : List Nat} {cl ln : Nat → Nat} {iv : Nat → Nat → Int} {rv : Nat → Nat → Option Nat}  {a0 : Nat} {r : Option Nat} (hW : WT (g0 G) sk L cl ln iv rv) (hS : SKL sk L cl) (t_a0 : ty L cl a0 25) (t_r : ∀ b, r = some b → ty L cl b 100) (hn : iv a0 2 = 0) : Mc l G mi (Phi (g0 G) sk) PHM yX3_gatherPart cX3_gatherPart 4 none 8 [.ref a0, va_rf r] L cl ln iv rv 0 (fun v L2 cl2 ln2 iv2 rv2 => v = none ∧ XT L cl ln L2 cl2 ln2 ∧ fT [25, 1003] L cl iv rv iv2 rv2 ∧ WT (g0 G) sk L2 cl2 ln2 iv2 rv2 ∧ (iv2 a0 2 ≤ 6002)) := by
  refine Mc.mk (by decide) (by cases r <;> exact Nat.le_of_ble_eq_true rfl) ?_
  intro p e s m args below meth c A C hM
  have hph := Phi.le hW hS
  refine c_lveq (show lv_args 0 [.ref a0, va_rf r] = [(0, .ref a0), (1, (va_rf r))] from by cases r <;> rfl) ?_
  refine hv2 (show XT L cl ln L cl ln from XT.refl) (show fT [25, 1003] L cl iv rv iv rv from fT.refl) (fun hX0 hF0 => ?_)
  refine c_aloadr_n (j := 1) (r := r) C dX3_gatherPart_0 rfl ?_
  refine c_ifnonnull (r := r) (tgt := 5) C dX3_gatherPart_1 (by decide) (fun ob1 oq1 => ?_) (fun oq1 => ?_)
  · subst oq1
    have tob1 := t_r ob1 rfl
    refine c_lv (lv2 := [(0, .ref a0), (1, .ref ob1)]) [0, 1] rfl ?_
    refine c_st (st2 := []) rfl ?_
    refine c_aload_n (j := 1) (x := ob1) C dX3_gatherPart_5 rfl ?_
    refine c_astore_n (lv2 := [(2, .ref ob1), (0, .ref a0), (1, .ref ob1)]) C dX3_gatherPart_6 (by decide) rfl ?_
    have Lp1 : ∀ (nn : Nat) (tq : Option Nat) (rk : Int) (Lb1 : List Nat) (clb1 lnb1 : Nat → Nat) (ivb1 : Nat → Nat → Int) (rvb1 : Nat → Nat → Option Nat) , rk - 99 < (nn : Int) → XT L cl ln Lb1 clb1 lnb1 → WT (g0 G) sk Lb1 clb1 lnb1 ivb1 rvb1 → fT [25, 1003] L cl iv rv ivb1 rvb1 → (∀ b, tq = some b → ty Lb1 clb1 b 100) → (99 ≤ rk ∧ rk ≤ 129) → (ivb1 a0 2 ≤ 200 * (129 - rk)) → (∀ b, tq = some b → ((clb1 b : Nat) : Int) ≤ rk) → cw p l e 8 ((PHM) + 0 - ((Phi (g0 G) sk) ln rv)) s m args below meth c G A 4 (MQ below (Qu G A (Qp G (Phi (g0 G) sk) ((Phi (g0 G) sk) ln rv) 0 (fun v L2 cl2 ln2 iv2 rv2 => v = none ∧ XT L cl ln L2 cl2 ln2 ∧ fT [25, 1003] L cl iv rv iv2 rv2 ∧ WT (g0 G) sk L2 cl2 ln2 iv2 rv2 ∧ (iv2 a0 2 ≤ 6002)))) args s (((PHM) + 0 - ((Phi (g0 G) sk) ln rv)) / 16) ((PHM) + 0 - ((Phi (g0 G) sk) ln rv)) A) (Phi (g0 G) sk) ((Phi (g0 G) sk) ln rv) Lb1 clb1 lnb1 ivb1 rvb1 0 7 [(2, (va_rf tq)), (0, .ref a0), (1, .ref ob1)] [] := by
      intro nn
      induction nn with
      | zero =>
        intro tq rk Lb1 clb1 lnb1 ivb1 rvb1 hm Xb1 Wb1 Fb1 ty_tq h99 hsz hrk
        have skb1 := Xb1.skl hS
        exact absurd hm (by omega)
      | succ nn ih1 =>
        intro tq rk Lb1 clb1 lnb1 ivb1 rvb1 hm Xb1 Wb1 Fb1 ty_tq h99 hsz hrk
        have skb1 := Xb1.skl hS
        refine c_aloadr_n (j := 0) (r := tq) C dX3_gatherPart_7 rfl ?_
        refine c_ifnull (r := tq) (tgt := 54) C dX3_gatherPart_8 (by decide) (fun oq2 => ?_) (fun ob2 oq2 => ?_)
        · subst oq2
          refine c_lv (lv2 := [(2, .null), (0, .ref a0), (1, .ref ob1)]) [0, 1, 2] rfl ?_
          refine c_st (st2 := []) rfl ?_
          refine c_aload_n (j := 1) (x := a0) C dX3_gatherPart_54 rfl ?_
          refine c_aload_n (j := 2) (x := ob1) C dX3_gatherPart_55 rfl ?_
          have ty1 := Xb1.ty tob1
          obtain ⟨rb1, rq1, trb1⟩ := Wb1.ref ty1 6 rfl rfl rfl
          have lnrb1 : 4 ≤ lnb1 rb1 ∧ lnb1 rb1 ≤ 4 := Wb1.len trb1 rfl
          refine c_getr (k := 6) C ck_10 dX3_gatherPart_56 w2_193 (by decide) ty1 rfl rfl (by decide) rfl rq1 ?_
          refine c_st (st2 := [.ref rb1, .ref a0]) rfl ?_
          refine c_iconst C dX3_gatherPart_59 ?_
          have ll1 : 4 ≤ lnb1 rb1 ∧ lnb1 rb1 ≤ 4 := Wb1.len trb1 rfl
          rcases Wb1.opt trb1 ((0 : Int).toNat) rfl rfl with ⟨nq1, _⟩ | ⟨nb1, nq1, tnb1⟩
          · refine c_aaldR C dX3_gatherPart_60 trb1 rfl (by omega) (by omega) (by omega) nq1 ?_
            refine c_st (st2 := [.null, .ref a0]) rfl ?_
            refine hv2 (Xb1.ty t_a0) (Phi.le Wb1 skb1) (fun ty2 pl1 => ?_)
            have ri1 : 0 ≤ ivb1 a0 2 ∧ ivb1 a0 2 ≤ 6003 := Wb1.int ty2 2
            refine d_callS (As := [.ref a0, .null]) (rest := []) C hM (C_addInd_25 (a0 := a0) (r := none) Wb1 skb1 ty2 (fun _ q => by cases q)  (by show ivb1 a0 2 < 6003; omega)) dX3_gatherPart_61 kS_X3_67 rfl rfl (Nat.le_of_ble_eq_true rfl) ⟨(Nat.le_of_ble_eq_true rfl), (Nat.le_of_ble_eq_true rfl)⟩ hph pl1 (show 0 + 0 = 0 from rfl) (by decide) (fun rh1 Lh1 clh1 lnh1 ivh1 rvh1 h1 => ?_)
            obtain ⟨rfl, xl1, fl1, W1, exf1⟩ := h1
            refine hv3 (Fb1.call Xb1 fl1 rfl) (Xb1.trans xl1) (xl1.skl skb1) (fun F1 X1 sk1 => ?_)
            refine c_st (st2 := []) rfl ?_
            refine hv2 (xl1.ty ty2) (show ivb1 a0 2 ≤ ivh1 a0 2 ∧ ivh1 a0 2 ≤ ivb1 a0 2 + 1 from exf1) (fun ty3 gf1 => ?_)
            have ri2 : 0 ≤ ivh1 a0 2 ∧ ivh1 a0 2 ≤ 6003 := W1.int ty3 2
            refine c_aload_n (j := 1) (x := a0) C dX3_gatherPart_64 rfl ?_
            refine c_aload_n (j := 2) (x := ob1) C dX3_gatherPart_65 rfl ?_
            refine hv2 (xl1.ty ty1) (show rvh1 ob1 6 = rvb1 ob1 6 from (fl1.r ty1 rfl 6)) (fun ty4 re1 => ?_)
            rw [rq1] at re1
            refine c_getr (k := 6) C ck_10 dX3_gatherPart_66 w2_193 (by decide) ty4 rfl rfl (by decide) rfl re1 ?_
            refine c_st (st2 := [.ref rb1, .ref a0]) rfl ?_
            refine c_iconst C dX3_gatherPart_69 ?_
            have ty5 := xl1.ty trb1
            have ll2 : 4 ≤ lnh1 rb1 ∧ lnh1 rb1 ≤ 4 := W1.len ty5 rfl
            rcases W1.opt ty5 ((1 : Int).toNat) rfl rfl with ⟨nq2, _⟩ | ⟨nb2, nq2, tnb2⟩
            · refine c_aaldR C dX3_gatherPart_70 ty5 rfl (by omega) (by omega) (by omega) nq2 ?_
              refine c_st (st2 := [.null, .ref a0]) rfl ?_
              have pl2 := Phi.le W1 sk1
              refine d_callS (As := [.ref a0, .null]) (rest := []) C hM (C_addInd_25 (a0 := a0) (r := none) W1 sk1 ty3 (fun _ q => by cases q)  (by show ivh1 a0 2 < 6003; omega)) dX3_gatherPart_71 kS_X3_67 rfl rfl (Nat.le_of_ble_eq_true rfl) ⟨(Nat.le_of_ble_eq_true rfl), (Nat.le_of_ble_eq_true rfl)⟩ hph pl2 (show 0 + 0 = 0 from rfl) (by decide) (fun rh2 Lh2 clh2 lnh2 ivh2 rvh2 h2 => ?_)
              obtain ⟨rfl, xl2, fl2, W2, exf2⟩ := h2
              refine hv3 (F1.call X1 fl2 rfl) (X1.trans xl2) (xl2.skl sk1) (fun F2 X2 sk2 => ?_)
              refine c_st (st2 := []) rfl ?_
              refine hv3 (xl2.ty ty3) (show ivh1 a0 2 ≤ ivh2 a0 2 ∧ ivh2 a0 2 ≤ ivh1 a0 2 + 1 from exf2) (Phi.le W2 sk2) (fun ty6 gf2 pl3 => ?_)
              have ri3 : 0 ≤ ivh2 a0 2 ∧ ivh2 a0 2 ≤ 6003 := W2.int ty6 2
              exact c_vret C dX3_gatherPart_74 rfl (by decide) (rom0 hph pl3 (by decide)) ⟨rfl, X2, F2, W2, (by omega)⟩
            · have tnb2 : ty Lh1 clh1 nb2 20 := tnb2
              refine c_aaldR C dX3_gatherPart_70 ty5 rfl (by omega) (by omega) (by omega) nq2 ?_
              refine c_st (st2 := [.ref nb2, .ref a0]) rfl ?_
              have pl4 := Phi.le W1 sk1
              refine d_callS (As := [.ref a0, .ref nb2]) (rest := []) C hM (C_addInd_25 (a0 := a0) (r := (some nb2)) W1 sk1 ty3 (fun _ q => by cases q; exact tnb2)  (by show ivh1 a0 2 < 6003; omega)) dX3_gatherPart_71 kS_X3_67 rfl rfl (Nat.le_of_ble_eq_true rfl) ⟨(Nat.le_of_ble_eq_true rfl), (Nat.le_of_ble_eq_true rfl)⟩ hph pl4 (show 0 + 0 = 0 from rfl) (by decide) (fun rh3 Lh3 clh3 lnh3 ivh3 rvh3 h3 => ?_)
              obtain ⟨rfl, xl3, fl3, W3, exf3⟩ := h3
              refine hv3 (F1.call X1 fl3 rfl) (X1.trans xl3) (xl3.skl sk1) (fun F3 X3 sk3 => ?_)
              refine c_st (st2 := []) rfl ?_
              refine hv3 (xl3.ty ty3) (show ivh1 a0 2 ≤ ivh3 a0 2 ∧ ivh3 a0 2 ≤ ivh1 a0 2 + 1 from exf3) (Phi.le W3 sk3) (fun ty7 gf3 pl5 => ?_)
              have ri4 : 0 ≤ ivh3 a0 2 ∧ ivh3 a0 2 ≤ 6003 := W3.int ty7 2
              exact c_vret C dX3_gatherPart_74 rfl (by decide) (rom0 hph pl5 (by decide)) ⟨rfl, X3, F3, W3, (by omega)⟩
          · have tnb1 : ty Lb1 clb1 nb1 20 := tnb1
            refine c_aaldR C dX3_gatherPart_60 trb1 rfl (by omega) (by omega) (by omega) nq1 ?_
            refine c_st (st2 := [.ref nb1, .ref a0]) rfl ?_
            refine hv2 (Xb1.ty t_a0) (Phi.le Wb1 skb1) (fun ty8 pl6 => ?_)
            have ri5 : 0 ≤ ivb1 a0 2 ∧ ivb1 a0 2 ≤ 6003 := Wb1.int ty8 2
            refine d_callS (As := [.ref a0, .ref nb1]) (rest := []) C hM (C_addInd_25 (a0 := a0) (r := (some nb1)) Wb1 skb1 ty8 (fun _ q => by cases q; exact tnb1)  (by show ivb1 a0 2 < 6003; omega)) dX3_gatherPart_61 kS_X3_67 rfl rfl (Nat.le_of_ble_eq_true rfl) ⟨(Nat.le_of_ble_eq_true rfl), (Nat.le_of_ble_eq_true rfl)⟩ hph pl6 (show 0 + 0 = 0 from rfl) (by decide) (fun rh4 Lh4 clh4 lnh4 ivh4 rvh4 h4 => ?_)
            obtain ⟨rfl, xl4, fl4, W4, exf4⟩ := h4
            refine hv3 (Fb1.call Xb1 fl4 rfl) (Xb1.trans xl4) (xl4.skl skb1) (fun F4 X4 sk4 => ?_)
            refine c_st (st2 := []) rfl ?_
            refine hv2 (xl4.ty ty8) (show ivb1 a0 2 ≤ ivh4 a0 2 ∧ ivh4 a0 2 ≤ ivb1 a0 2 + 1 from exf4) (fun ty9 gf4 => ?_)
            have ri6 : 0 ≤ ivh4 a0 2 ∧ ivh4 a0 2 ≤ 6003 := W4.int ty9 2
            refine c_aload_n (j := 1) (x := a0) C dX3_gatherPart_64 rfl ?_
            refine c_aload_n (j := 2) (x := ob1) C dX3_gatherPart_65 rfl ?_
            refine hv2 (xl4.ty ty1) (show rvh4 ob1 6 = rvb1 ob1 6 from (fl4.r ty1 rfl 6)) (fun ty10 re2 => ?_)
            rw [rq1] at re2
            refine c_getr (k := 6) C ck_10 dX3_gatherPart_66 w2_193 (by decide) ty10 rfl rfl (by decide) rfl re2 ?_
            refine c_st (st2 := [.ref rb1, .ref a0]) rfl ?_
            refine c_iconst C dX3_gatherPart_69 ?_
            have ty11 := xl4.ty trb1
            have ll3 : 4 ≤ lnh4 rb1 ∧ lnh4 rb1 ≤ 4 := W4.len ty11 rfl
            rcases W4.opt ty11 ((1 : Int).toNat) rfl rfl with ⟨nq3, _⟩ | ⟨nb3, nq3, tnb3⟩
            · refine c_aaldR C dX3_gatherPart_70 ty11 rfl (by omega) (by omega) (by omega) nq3 ?_
              refine c_st (st2 := [.null, .ref a0]) rfl ?_
              have pl7 := Phi.le W4 sk4
              refine d_callS (As := [.ref a0, .null]) (rest := []) C hM (C_addInd_25 (a0 := a0) (r := none) W4 sk4 ty9 (fun _ q => by cases q)  (by show ivh4 a0 2 < 6003; omega)) dX3_gatherPart_71 kS_X3_67 rfl rfl (Nat.le_of_ble_eq_true rfl) ⟨(Nat.le_of_ble_eq_true rfl), (Nat.le_of_ble_eq_true rfl)⟩ hph pl7 (show 0 + 0 = 0 from rfl) (by decide) (fun rh5 Lh5 clh5 lnh5 ivh5 rvh5 h5 => ?_)
              obtain ⟨rfl, xl5, fl5, W5, exf5⟩ := h5
              refine hv4 (F4.call X4 fl5 rfl) (xl4.ty tnb1) (X4.trans xl5) (xl5.skl sk4) (fun F5 ty12 X5 sk5 => ?_)
              refine c_st (st2 := []) rfl ?_
              refine hv3 (xl5.ty ty9) (show ivh4 a0 2 ≤ ivh5 a0 2 ∧ ivh5 a0 2 ≤ ivh4 a0 2 + 1 from exf5) (Phi.le W5 sk5) (fun ty13 gf5 pl8 => ?_)
              have ri7 : 0 ≤ ivh5 a0 2 ∧ ivh5 a0 2 ≤ 6003 := W5.int ty13 2
              exact c_vret C dX3_gatherPart_74 rfl (by decide) (rom0 hph pl8 (by decide)) ⟨rfl, X5, F5, W5, (by omega)⟩
            · have tnb3 : ty Lh4 clh4 nb3 20 := tnb3
              refine c_aaldR C dX3_gatherPart_70 ty11 rfl (by omega) (by omega) (by omega) nq3 ?_
              refine c_st (st2 := [.ref nb3, .ref a0]) rfl ?_
              have pl9 := Phi.le W4 sk4
              refine d_callS (As := [.ref a0, .ref nb3]) (rest := []) C hM (C_addInd_25 (a0 := a0) (r := (some nb3)) W4 sk4 ty9 (fun _ q => by cases q; exact tnb3)  (by show ivh4 a0 2 < 6003; omega)) dX3_gatherPart_71 kS_X3_67 rfl rfl (Nat.le_of_ble_eq_true rfl) ⟨(Nat.le_of_ble_eq_true rfl), (Nat.le_of_ble_eq_true rfl)⟩ hph pl9 (show 0 + 0 = 0 from rfl) (by decide) (fun rh6 Lh6 clh6 lnh6 ivh6 rvh6 h6 => ?_)
              obtain ⟨rfl, xl6, fl6, W6, exf6⟩ := h6
              refine hv4 (F4.call X4 fl6 rfl) (xl4.ty tnb1) (X4.trans xl6) (xl6.skl sk4) (fun F6 ty14 X6 sk6 => ?_)
              refine c_st (st2 := []) rfl ?_
              refine hv3 (xl6.ty ty9) (show ivh4 a0 2 ≤ ivh6 a0 2 ∧ ivh6 a0 2 ≤ ivh4 a0 2 + 1 from exf6) (Phi.le W6 sk6) (fun ty15 gf6 pl10 => ?_)
              have ri8 : 0 ≤ ivh6 a0 2 ∧ ivh6 a0 2 ≤ 6003 := W6.int ty15 2
              exact c_vret C dX3_gatherPart_74 rfl (by decide) (rom0 hph pl10 (by decide)) ⟨rfl, X6, F6, W6, (by omega)⟩
        · subst oq2
          refine hv2 (ty_tq ob2 rfl) (hrk ob2 rfl) (fun tob2 hkob2 => ?_)
          have tgob2 := bt_100 tob2.2
          refine c_lv (lv2 := [(2, .ref ob2), (0, .ref a0), (1, .ref ob1)]) [0, 1, 2] rfl ?_
          refine c_st (st2 := []) rfl ?_
          refine c_iconst C dX3_gatherPart_11 ?_
          refine c_istore_n (lv2 := [(3, .int (iI 0)), (2, .ref ob2), (0, .ref a0), (1, .ref ob1)]) C dX3_gatherPart_12 (by decide) rfl ?_
          have Lp2 : ∀ (nn : Nat) (tr : Nat) (k : Int) (Lb2 : List Nat) (clb2 lnb2 : Nat → Nat) (ivb2 : Nat → Nat → Int) (rvb2 : Nat → Nat → Option Nat) , 201 - k < (nn : Int) → XT L cl ln Lb2 clb2 lnb2 → WT (g0 G) sk Lb2 clb2 lnb2 ivb2 rvb2 → fT [25, 1003] L cl iv rv ivb2 rvb2 → (ty Lb2 clb2 tr 100) → (0 ≤ k ∧ k ≤ 200) → (ivb2 a0 2 ≤ 200 * (129 - rk) + k) → (100 ≤ clb2 tr ∧ ((clb2 tr : Nat) : Int) ≤ rk) → cw p l e 8 ((PHM) + 0 - ((Phi (g0 G) sk) ln rv)) s m args below meth c G A 4 (MQ below (Qu G A (Qp G (Phi (g0 G) sk) ((Phi (g0 G) sk) ln rv) 0 (fun v L2 cl2 ln2 iv2 rv2 => v = none ∧ XT L cl ln L2 cl2 ln2 ∧ fT [25, 1003] L cl iv rv iv2 rv2 ∧ WT (g0 G) sk L2 cl2 ln2 iv2 rv2 ∧ (iv2 a0 2 ≤ 6002)))) args s (((PHM) + 0 - ((Phi (g0 G) sk) ln rv)) / 16) ((PHM) + 0 - ((Phi (g0 G) sk) ln rv)) A) (Phi (g0 G) sk) ((Phi (g0 G) sk) ln rv) Lb2 clb2 lnb2 ivb2 rvb2 0 13 [(2, .ref tr), (3, .int (iI k)), (0, .ref a0), (1, .ref ob1)] [] := by
            intro nn
            induction nn with
            | zero =>
              intro tr k Lb2 clb2 lnb2 ivb2 rvb2 hm Xb2 Wb2 Fb2 ty_tr hk hs2 hcr
              have skb2 := Xb2.skl hS
              exact absurd hm (by omega)
            | succ nn ih2 =>
              intro tr k Lb2 clb2 lnb2 ivb2 rvb2 hm Xb2 Wb2 Fb2 ty_tr hk hs2 hcr
              have skb2 := Xb2.skl hS
              refine c_iload_n (j := 1) C dX3_gatherPart_13 rfl ?_
              refine c_aload_n (j := 0) (x := tr) C dX3_gatherPart_14 rfl ?_
              obtain ⟨rb2, rq2, trb2⟩ := Wb2.ref ty_tr 4 rfl rfl rfl
              refine c_getr (k := 4) C ck_10 dX3_gatherPart_15 w2_187 (by decide) ty_tr rfl rfl (by decide) rfl rq2 ?_
              refine c_st (st2 := [.ref rb2, .int (iI k)]) rfl ?_
              refine hv2 (show 0 ≤ ivb2 rb2 2 ∧ ivb2 rb2 2 ≤ 200 from Wb2.int trb2 2) (Phi.le Wb2 skb2) (fun ri9 pl11 => ?_)
              refine d_callV (As := []) (rest := [.int (iI k)]) C hM (C_size_26 (a0 := rb2) Wb2 skb2 trb2  ) dX3_gatherPart_18 kV_X3_78 rfl trb2 rfl rfl (by decide) ck_0 rfl (Nat.le_of_ble_eq_true rfl) ⟨(Nat.le_of_ble_eq_true rfl), (Nat.le_of_ble_eq_true rfl)⟩ hph pl11 (show 0 + 0 = 0 from rfl) (by decide) (fun rh7 Lh7 clh7 lnh7 ivh7 rvh7 h7 => ?_)
              obtain ⟨f7, rfl, rfl, rfl, rfl, rfl, rfl, rgf7, exf7⟩ := h7
              refine c_st (st2 := [.int (iI f7), .int (iI k)]) rfl ?_
              have gf7 : f7 = ivb2 rb2 2 := exf7
              refine c_icmp_ge (tgt := 46) C ⟨by omega, by omega⟩ ⟨by omega, by omega⟩ dX3_gatherPart_21 (by decide) (fun c1 => ?_) (fun c1 => ?_)
              · refine c_aload_n (j := 0) (x := tr) C dX3_gatherPart_46 rfl ?_
                rcases Wb2.opt ty_tr 2 rfl rfl with ⟨nq4, _⟩ | ⟨nb4, nq4, tnb4⟩
                · refine c_getr (k := 2) C ck_10 dX3_gatherPart_47 w2_181 (by decide) ty_tr rfl rfl (by decide) rfl nq4 ?_
                  refine c_st (st2 := [.null]) rfl ?_
                  refine c_astorer_n (r := none) (lv2 := [(2, .null), (3, .int (iI k)), (0, .ref a0), (1, .ref ob1)]) C dX3_gatherPart_50 (by decide) rfl ?_
                  refine c_goto (tgt := 7) C dX3_gatherPart_51 (by decide) ?_
                  have ty16 := Xb2.ty t_a0
                  have ri10 : 0 ≤ ivb2 a0 2 ∧ ivb2 a0 2 ≤ 6003 := Wb2.int ty16 2
                  refine c_lv (lv2 := [(2, .null), (0, .ref a0), (1, .ref ob1)]) [0, 2, 3] rfl ?_
                  exact ih1  none (rk - 1) _ _ _ _ _ (by omega) Xb2 Wb2 Fb2 (fun _ q => by cases q) (by omega) (by show ivb2 a0 2 ≤ 200 * (129 - (rk - 1)); omega) (fun _ q => by cases q)
                · have rknb4 := Wb2.rank ty_tr (k := 2) (by decide) nq4
                  refine c_getr (k := 2) C ck_10 dX3_gatherPart_47 w2_181 (by decide) ty_tr rfl rfl (by decide) rfl nq4 ?_
                  refine c_st (st2 := [.ref nb4]) rfl ?_
                  refine c_astore_n (lv2 := [(2, .ref nb4), (3, .int (iI k)), (0, .ref a0), (1, .ref ob1)]) C dX3_gatherPart_50 (by decide) rfl ?_
                  refine c_goto (tgt := 7) C dX3_gatherPart_51 (by decide) ?_
                  refine hv2 (Xb2.ty t_a0) (bt_100 tnb4.2) (fun ty17 trnb4 => ?_)
                  have ri11 : 0 ≤ ivb2 a0 2 ∧ ivb2 a0 2 ≤ 6003 := Wb2.int ty17 2
                  refine c_lv (lv2 := [(2, .ref nb4), (0, .ref a0), (1, .ref ob1)]) [0, 2, 3] rfl ?_
                  exact ih1  (some nb4) (rk - 1) _ _ _ _ _ (by omega) Xb2 Wb2 Fb2 (fun _ q => by cases q; exact tnb4) (by omega) (by show ivb2 a0 2 ≤ 200 * (129 - (rk - 1)); omega) (fun _ q => by cases q; omega)
              · refine c_aload_n (j := 2) (x := a0) C dX3_gatherPart_24 rfl ?_
                refine c_aload_n (j := 0) (x := tr) C dX3_gatherPart_25 rfl ?_
                refine c_getr (k := 4) C ck_10 dX3_gatherPart_26 w2_187 (by decide) ty_tr rfl rfl (by decide) rfl rq2 ?_
                refine c_st (st2 := [.ref rb2, .ref a0]) rfl ?_
                refine c_iload_n (j := 1) C dX3_gatherPart_29 rfl ?_
                refine d_callV (As := [.int (iI k)]) (rest := [.ref a0]) C hM (C_get_26 (a0 := rb2) (i := k) Wb2 skb2 trb2 (by omega) (by show 0 ≤ k ∧ k < ivb2 rb2 2; omega)) dX3_gatherPart_30 kV_X3_82 rfl trb2 rfl rfl (by decide) ck_0 rfl (Nat.le_of_ble_eq_true rfl) ⟨(Nat.le_of_ble_eq_true rfl), (Nat.le_of_ble_eq_true rfl)⟩ hph pl11 (show 0 + 0 = 0 from rfl) (by decide) (fun rh8 Lh8 clh8 lnh8 ivh8 rvh8 h8 => ?_)
                obtain ⟨f8, rfl, rfl, rfl, rfl, rfl, rfl, rgf8, exf8⟩ := h8
                refine c_st (st2 := [.ref f8, .ref a0]) rfl ?_
                have gf8 : el rvb2 rb2 k.toNat = some f8 := exf8
                refine c_cast C ck_6 dX3_gatherPart_33 w5_63 w8_169t rgf8 rfl rfl (by decide) ?_
                have ty18 := Xb2.ty t_a0
                have ri12 : 0 ≤ ivb2 a0 2 ∧ ivb2 a0 2 ≤ 6003 := Wb2.int ty18 2
                refine d_callV (As := [.ref f8]) (rest := []) C hM (C_add_25 (a0 := a0) (x := f8) Wb2 skb2 ty18 rgf8  (by show ivb2 a0 2 < 6003; omega)) dX3_gatherPart_36 kV_X3_97 rfl ty18 rfl rfl (by decide) ck_0 rfl (Nat.le_of_ble_eq_true rfl) ⟨(Nat.le_of_ble_eq_true rfl), (Nat.le_of_ble_eq_true rfl)⟩ hph pl11 (show 0 + 0 = 0 from rfl) (by decide) (fun rh9 Lh9 clh9 lnh9 ivh9 rvh9 h9 => ?_)
                obtain ⟨f9, rfl, xl9, fl9, W9, rgf9, exf9⟩ := h9
                refine hv4 (Fb2.call Xb2 fl9 rfl) (Xb2.ty tob1) (Xb2.trans xl9) (xl9.skl skb2) (fun F7 ty19 X7 sk7 => ?_)
                refine c_st (st2 := [.int (iI f9)]) rfl ?_
                refine hv2 (xl9.ty ty18) (show ivh9 a0 2 = ivb2 a0 2 + 1 ∧ el rvh9 a0 (ivb2 a0 2).toNat = some f8 ∧ ∀ i : Nat, (i : Int) < ivb2 a0 2 → el rvh9 a0 i = el rvb2 a0 i from exf9) (fun ty20 gf9 => ?_)
                have ri13 : 0 ≤ ivh9 a0 2 ∧ ivh9 a0 2 ≤ 6003 := W9.int ty20 2
                refine c_pop C dX3_gatherPart_39 rfl ?_
                refine c_iinc (z := k) (j := 1) (lv2 := [(3, .int (iI (k + 1))), (2, .ref tr), (0, .ref a0), (1, .ref ob1)]) C dX3_gatherPart_40 rfl (by decide) rfl ?_
                refine c_goto (tgt := 13) C dX3_gatherPart_43 (by decide) ?_
                refine hv2 (xl9.ty ty_tr) (show clh9 tr = clb2 tr from (xl9 tr ty_tr.1).2.1) (fun ty21 ce1 => ?_)
                refine c_lv (lv2 := [(2, .ref tr), (3, .int (iI (k + 1))), (0, .ref a0), (1, .ref ob1)]) [1, 0, 2, 3] rfl ?_
                exact ih2  tr (k + 1) _ _ _ _ _ (by omega) X7 W9 F7 ty21 (by omega) (by show ivh9 a0 2 ≤ 200 * (129 - rk) + (k + 1); omega) (by show 100 ≤ clh9 tr ∧ ((clh9 tr : Nat) : Int) ≤ rk; omega)
          have ty22 := Xb1.ty t_a0
          have ri14 : 0 ≤ ivb1 a0 2 ∧ ivb1 a0 2 ≤ 6003 := Wb1.int ty22 2
          refine c_lv (lv2 := [(2, .ref ob2), (3, .int (iI 0)), (0, .ref a0), (1, .ref ob1)]) [1, 0, 2, 3] rfl ?_
          exact Lp2 203 ob2 0 _ _ _ _ _ (by omega) Xb1 Wb1 Fb1 tob2 (by omega) (by show ivb1 a0 2 ≤ 200 * (129 - rk) + 0; omega) (by show 100 ≤ clb1 ob2 ∧ ((clb1 ob2 : Nat) : Int) ≤ rk; omega)
    refine hv2 (show 0 ≤ iv a0 2 ∧ iv a0 2 ≤ 6003 from hW.int t_a0 2) (bt_100 tob1.2) (fun ri15 trob1 => ?_)
    refine c_lv (lv2 := [(2, .ref ob1), (0, .ref a0), (1, .ref ob1)]) [0, 1, 2] rfl ?_
    exact Lp1 31 (some ob1) 129 _ _ _ _ _ (by omega) hX0 hW hF0 (fun _ q => by cases q; exact tob1) (by omega) (by show iv a0 2 ≤ 200 * (129 - 129); omega) (fun _ q => by cases q; omega)
  · subst oq1
    refine c_lv (lv2 := [(0, .ref a0), (1, .null)]) [0, 1] rfl ?_
    refine c_st (st2 := []) rfl ?_
    have ri16 : 0 ≤ iv a0 2 ∧ iv a0 2 ≤ 6003 := hW.int t_a0 2
    exact c_vret C dX3_gatherPart_4 rfl (by decide) (rom0 hph hph (by decide)) ⟨rfl, hX0, hF0, hW, (by omega)⟩
set_option maxHeartbeats 4000000 in
set_option maxRecDepth 100000 in
theorem C_isReadable_25 {l : Launch} {G : GT} {mi : Nat} {sk : Nat → Nat} {L : List Nat} {cl ln : Nat → Nat} {iv : Nat → Nat → Int} {rv : Nat → Nat → Option Nat}  {a0 : Nat} {x : Int} (hW : WT (g0 G) sk L cl ln iv rv) (hS : SKL sk L cl) (t_a0 : ty L cl a0 25) (h_x : -2147483648 ≤ x ∧ x ≤ 2147483647)  : Mc l G mi (Phi (g0 G) sk) PHM yX3_isReadable cX3_isReadable 6 (some .boolean) 3 [.ref a0, .int (iI x)] L cl ln iv rv 0 (fun v L2 cl2 ln2 iv2 rv2 => ∃ f : Int, v = some (.int (iI f)) ∧ L = L2 ∧ cl = cl2 ∧ ln = ln2 ∧ iv = iv2 ∧ rv = rv2 ∧ (f = 0 ∨ f = 1) ∧ (True)) := by
  refine Mc.mk (by decide) (Nat.le_of_ble_eq_true rfl) ?_
  intro p e s m args below meth c A C hM
  refine hv3 (Phi.le hW hS) (show XT L cl ln L cl ln from XT.refl) (show fT [] L cl iv rv iv rv from fT.refl) (fun hph hX0 hF0 => ?_)
  refine c_aload_n (j := 0) (x := a0) C dX3_isReadable_0 rfl ?_
  have ri1 : 0 ≤ iv a0 2 ∧ iv a0 2 ≤ 6003 := hW.int t_a0 2
  refine d_callV (As := []) (rest := []) C hM (C_size_25 (a0 := a0) hW hS t_a0  ) dX3_isReadable_1 kV_X3_78 rfl t_a0 rfl rfl (by decide) ck_0 rfl (Nat.le_of_ble_eq_true rfl) ⟨(Nat.le_of_ble_eq_true rfl), (Nat.le_of_ble_eq_true rfl)⟩ hph hph (show 0 + 0 = 0 from rfl) (by decide) (fun rh1 Lh1 clh1 lnh1 ivh1 rvh1 h1 => ?_)
  obtain ⟨f1, rfl, rfl, rfl, rfl, rfl, rfl, rgf1, exf1⟩ := h1
  refine c_st (st2 := [.int (iI f1)]) rfl ?_
  have gf1 : f1 = iv a0 2 := exf1
  refine c_istore_n (lv2 := [(2, .int (iI f1)), (0, .ref a0), (1, .int (iI x))]) C dX3_isReadable_4 (by decide) rfl ?_
  refine c_iconst C dX3_isReadable_5 ?_
  refine c_istore_n (lv2 := [(3, .int (iI 0)), (2, .int (iI f1)), (0, .ref a0), (1, .int (iI x))]) C dX3_isReadable_6 (by decide) rfl ?_
  have Lp1 : ∀ (nn : Nat) (k : Int) , 6004 - k < (nn : Int) → (0 ≤ k ∧ k ≤ 6003) → cw p l e 3 ((PHM) + 0 - ((Phi (g0 G) sk) ln rv)) s m args below meth c G A 6 (MQ below (Qu G A (Qp G (Phi (g0 G) sk) ((Phi (g0 G) sk) ln rv) 0 (fun v L2 cl2 ln2 iv2 rv2 => ∃ f : Int, v = some (.int (iI f)) ∧ L = L2 ∧ cl = cl2 ∧ ln = ln2 ∧ iv = iv2 ∧ rv = rv2 ∧ (f = 0 ∨ f = 1) ∧ (True)))) args s (((PHM) + 0 - ((Phi (g0 G) sk) ln rv)) / 16) ((PHM) + 0 - ((Phi (g0 G) sk) ln rv)) A) (Phi (g0 G) sk) ((Phi (g0 G) sk) ln rv) L cl ln iv rv 0 7 [(3, .int (iI k)), (2, .int (iI f1)), (0, .ref a0), (1, .int (iI x))] [] := by
    intro nn
    induction nn with
    | zero =>
      intro  k  hm   hk
      exact absurd hm (by omega)
    | succ nn ih1 =>
      intro  k  hm   hk
      refine c_iload_n (j := 0) C dX3_isReadable_7 rfl ?_
      refine c_iload_n (j := 1) C dX3_isReadable_8 rfl ?_
      refine c_icmp_ge (tgt := 79) C ⟨by omega, by omega⟩ ⟨by omega, by omega⟩ dX3_isReadable_9 (by decide) (fun c1 => ?_) (fun c1 => ?_)
      · refine c_iconst C dX3_isReadable_79 ?_
        exact c_zret C dX3_isReadable_80 rfl (Or.inr rfl) (by decide) (rom0 hph hph (by decide)) ⟨1, rfl, rfl, rfl, rfl, rfl, rfl, (Or.inr rfl), trivial⟩
      · refine c_aload_n (j := 2) (x := a0) C dX3_isReadable_12 rfl ?_
        refine c_iload_n (j := 0) C dX3_isReadable_13 rfl ?_
        refine d_callV (As := [.int (iI k)]) (rest := []) C hM (C_get_25 (a0 := a0) (i := k) hW hS t_a0 (by omega) (by show 0 ≤ k ∧ k < iv a0 2; omega)) dX3_isReadable_14 kV_X3_82 rfl t_a0 rfl rfl (by decide) ck_0 rfl (Nat.le_of_ble_eq_true rfl) ⟨(Nat.le_of_ble_eq_true rfl), (Nat.le_of_ble_eq_true rfl)⟩ hph hph (show 0 + 0 = 0 from rfl) (by decide) (fun rh2 Lh2 clh2 lnh2 ivh2 rvh2 h2 => ?_)
        obtain ⟨f2, rfl, rfl, rfl, rfl, rfl, rfl, rgf2, exf2⟩ := h2
        refine c_st (st2 := [.ref f2]) rfl ?_
        have gf2 : el rv a0 k.toNat = some f2 := exf2
        refine c_cast C ck_6 dX3_isReadable_17 w5_63 w8_169t rgf2 rfl rfl (by decide) ?_
        refine c_astore (lv2 := [(4, .ref f2), (3, .int (iI k)), (2, .int (iI f1)), (0, .ref a0), (1, .int (iI x))]) C dX3_isReadable_20 (by decide) rfl ?_
        refine c_aload (j := 0) (x := f2) C dX3_isReadable_22 rfl ?_
        refine c_iload_n (j := 4) C dX3_isReadable_24 rfl ?_
        refine d_callV (As := [.int (iI x)]) (rest := []) C hM (C_rends (a0 := f2) (x := x) hW hS rgf2 (by omega) ) dX3_isReadable_25 kV_X3_100 rfl rgf2 rfl rfl (by decide) ck_6 rfl (Nat.le_of_ble_eq_true rfl) ⟨(Nat.le_of_ble_eq_true rfl), (Nat.le_of_ble_eq_true rfl)⟩ hph hph (show 0 + 0 = 0 from rfl) (by decide) (fun rh3 Lh3 clh3 lnh3 ivh3 rvh3 h3 => ?_)
        obtain ⟨f3, rfl, rfl, rfl, rfl, rfl, rfl, rgf3, exf3⟩ := h3
        refine c_st (st2 := [.int (iI f3)]) rfl ?_
        refine c_if_eq (tgt := 33) C ⟨by omega, by omega⟩ dX3_isReadable_28 (by decide) (fun c2 => ?_) (fun c2 => ?_)
        · refine c_iconst C dX3_isReadable_33 ?_
          refine c_istore (lv2 := [(5, .int (iI 0)), (4, .ref f2), (3, .int (iI k)), (2, .int (iI f1)), (0, .ref a0), (1, .int (iI x))]) C dX3_isReadable_34 (by decide) rfl ?_
          have Lp2 : ∀ (nn : Nat) (k2 : Int) , 6004 - k2 < (nn : Int) → (0 ≤ k2 ∧ k2 ≤ 6003) → cw p l e 3 ((PHM) + 0 - ((Phi (g0 G) sk) ln rv)) s m args below meth c G A 6 (MQ below (Qu G A (Qp G (Phi (g0 G) sk) ((Phi (g0 G) sk) ln rv) 0 (fun v L2 cl2 ln2 iv2 rv2 => ∃ f : Int, v = some (.int (iI f)) ∧ L = L2 ∧ cl = cl2 ∧ ln = ln2 ∧ iv = iv2 ∧ rv = rv2 ∧ (f = 0 ∨ f = 1) ∧ (True)))) args s (((PHM) + 0 - ((Phi (g0 G) sk) ln rv)) / 16) ((PHM) + 0 - ((Phi (g0 G) sk) ln rv)) A) (Phi (g0 G) sk) ((Phi (g0 G) sk) ln rv) L cl ln iv rv 0 36 [(5, .int (iI k2)), (4, .ref f2), (3, .int (iI k)), (2, .int (iI f1)), (0, .ref a0), (1, .int (iI x))] [] := by
            intro nn
            induction nn with
            | zero =>
              intro  k2  hm   hk2
              exact absurd hm (by omega)
            | succ nn ih2 =>
              intro  k2  hm   hk2
              refine c_iload (j := 0) C dX3_isReadable_36 rfl ?_
              refine c_iload_n (j := 3) C dX3_isReadable_38 rfl ?_
              refine c_icmp_ge (tgt := 73) C ⟨by omega, by omega⟩ ⟨by omega, by omega⟩ dX3_isReadable_39 (by decide) (fun c3 => ?_) (fun c3 => ?_)
              · refine c_iinc (z := k) (j := 2) (lv2 := [(3, .int (iI (k + 1))), (5, .int (iI k2)), (4, .ref f2), (2, .int (iI f1)), (0, .ref a0), (1, .int (iI x))]) C dX3_isReadable_73 rfl (by decide) rfl ?_
                refine c_goto (tgt := 7) C dX3_isReadable_76 (by decide) ?_
                refine c_lv (lv2 := [(3, .int (iI (k + 1))), (2, .int (iI f1)), (0, .ref a0), (1, .int (iI x))]) [0, 3, 4, 5] rfl ?_
                exact ih1  (k + 1)  (by omega)   (by omega)
              · refine c_iload (j := 0) C dX3_isReadable_42 rfl ?_
                refine c_iload_n (j := 2) C dX3_isReadable_44 rfl ?_
                refine c_icmp_eq (tgt := 67) C ⟨by omega, by omega⟩ ⟨by omega, by omega⟩ dX3_isReadable_45 (by decide) (fun c4 => ?_) (fun c4 => ?_)
                · refine c_iinc (z := k2) (j := 0) (lv2 := [(5, .int (iI (k2 + 1))), (4, .ref f2), (3, .int (iI k)), (2, .int (iI f1)), (0, .ref a0), (1, .int (iI x))]) C dX3_isReadable_67 rfl (by decide) rfl ?_
                  refine c_goto (tgt := 36) C dX3_isReadable_70 (by decide) ?_
                  refine c_lv (lv2 := [(5, .int (iI (k2 + 1))), (4, .ref f2), (3, .int (iI k)), (2, .int (iI f1)), (0, .ref a0), (1, .int (iI x))]) [0, 1, 2, 3, 4, 5] rfl ?_
                  exact ih2  (k2 + 1)  (by omega)   (by omega)
                · refine c_aload (j := 1) (x := f2) C dX3_isReadable_48 rfl ?_
                  refine c_aload_n (j := 4) (x := a0) C dX3_isReadable_50 rfl ?_
                  refine c_iload (j := 0) C dX3_isReadable_51 rfl ?_
                  refine d_callV (As := [.int (iI k2)]) (rest := [.ref f2]) C hM (C_get_25 (a0 := a0) (i := k2) hW hS t_a0 (by omega) (by show 0 ≤ k2 ∧ k2 < iv a0 2; omega)) dX3_isReadable_53 kV_X3_82 rfl t_a0 rfl rfl (by decide) ck_0 rfl (Nat.le_of_ble_eq_true rfl) ⟨(Nat.le_of_ble_eq_true rfl), (Nat.le_of_ble_eq_true rfl)⟩ hph hph (show 0 + 0 = 0 from rfl) (by decide) (fun rh4 Lh4 clh4 lnh4 ivh4 rvh4 h4 => ?_)
                  obtain ⟨f4, rfl, rfl, rfl, rfl, rfl, rfl, rgf4, exf4⟩ := h4
                  refine c_st (st2 := [.ref f4, .ref f2]) rfl ?_
                  have gf4 : el rv a0 k2.toNat = some f4 := exf4
                  refine c_cast C ck_6 dX3_isReadable_56 w5_63 w8_169t rgf4 rfl rfl (by decide) ?_
                  refine d_callV (As := [.ref f4]) (rest := []) C hM (C_isAtBegin (a0 := f2) (a1 := f4) hW hS rgf2 rgf4  ) dX3_isReadable_59 kV_X3_104 rfl rgf2 rfl rfl (by decide) ck_6 rfl (Nat.le_of_ble_eq_true rfl) ⟨(Nat.le_of_ble_eq_true rfl), (Nat.le_of_ble_eq_true rfl)⟩ hph hph (show 0 + 0 = 0 from rfl) (by decide) (fun rh5 Lh5 clh5 lnh5 ivh5 rvh5 h5 => ?_)
                  obtain ⟨f5, rfl, rfl, rfl, rfl, rfl, rfl, rgf5, exf5⟩ := h5
                  refine c_st (st2 := [.int (iI f5)]) rfl ?_
                  refine c_if_eq (tgt := 67) C ⟨by omega, by omega⟩ dX3_isReadable_62 (by decide) (fun c5 => ?_) (fun c5 => ?_)
                  · refine c_iinc (z := k2) (j := 0) (lv2 := [(5, .int (iI (k2 + 1))), (4, .ref f2), (3, .int (iI k)), (2, .int (iI f1)), (0, .ref a0), (1, .int (iI x))]) C dX3_isReadable_67 rfl (by decide) rfl ?_
                    refine c_goto (tgt := 36) C dX3_isReadable_70 (by decide) ?_
                    refine c_lv (lv2 := [(5, .int (iI (k2 + 1))), (4, .ref f2), (3, .int (iI k)), (2, .int (iI f1)), (0, .ref a0), (1, .int (iI x))]) [0, 1, 2, 3, 4, 5] rfl ?_
                    exact ih2  (k2 + 1)  (by omega)   (by omega)
                  · refine c_iconst C dX3_isReadable_65 ?_
                    exact c_zret C dX3_isReadable_66 rfl (Or.inl rfl) (by decide) (rom0 hph hph (by decide)) ⟨0, rfl, rfl, rfl, rfl, rfl, rfl, (Or.inl rfl), trivial⟩
          refine c_lv (lv2 := [(5, .int (iI 0)), (4, .ref f2), (3, .int (iI k)), (2, .int (iI f1)), (0, .ref a0), (1, .int (iI x))]) [0, 1, 2, 3, 4, 5] rfl ?_
          exact Lp2 6006 0  (by omega)   (by omega)
        · refine c_iconst C dX3_isReadable_31 ?_
          exact c_zret C dX3_isReadable_32 rfl (Or.inl rfl) (by decide) (rom0 hph hph (by decide)) ⟨0, rfl, rfl, rfl, rfl, rfl, rfl, (Or.inl rfl), trivial⟩
  refine c_lv (lv2 := [(3, .int (iI 0)), (2, .int (iI f1)), (0, .ref a0), (1, .int (iI x))]) [0, 1, 2, 3] rfl ?_
  exact Lp1 6006 0  (by omega)   (by omega)
set_option maxHeartbeats 4000000 in
set_option maxRecDepth 100000 in
theorem C_gather {l : Launch} {G : GT} {mi : Nat} {sk : Nat → Nat} {L : List Nat} {cl ln : Nat → Nat} {iv : Nat → Nat → Int} {rv : Nat → Nat → Option Nat}  {a0 : Nat} {a1 : Nat} (hW : WT (g0 G) sk L cl ln iv rv) (hS : SKL sk L cl) (t_a0 : ty L cl a0 16) (t_a1 : ty L cl a1 100)  : Mc l G mi (Phi (g0 G) sk) PHM yX3_gather cX3_gather 2 none 9 [.ref a0, .ref a1] L cl ln iv rv 0 (fun v L2 cl2 ln2 iv2 rv2 => v = none ∧ XT L cl ln L2 cl2 ln2 ∧ fT [24, 1002, 25, 1003, 6, 36, 7, 37] L cl iv rv iv2 rv2 ∧ WT (g0 G) sk L2 cl2 ln2 iv2 rv2 ∧ (True)) := by
  refine Mc.mk (by decide) (Nat.le_of_ble_eq_true rfl) ?_
  intro p e s m args below meth c A C hM
  refine hv10 (Phi.le hW hS) (show ty L cl (sk 6) 6 from ⟨(hS 6 rfl).1, by rw [(hS 6 rfl).2]; rfl⟩) (show ty L cl (sk 7) 7 from ⟨(hS 7 rfl).1, by rw [(hS 7 rfl).2]; rfl⟩) (show ty L cl (sk 8) 8 from ⟨(hS 8 rfl).1, by rw [(hS 8 rfl).2]; rfl⟩) (show ty L cl (sk 9) 9 from ⟨(hS 9 rfl).1, by rw [(hS 9 rfl).2]; rfl⟩) (show ty L cl (sk 10) 10 from ⟨(hS 10 rfl).1, by rw [(hS 10 rfl).2]; rfl⟩) (show ty L cl (sk 24) 24 from ⟨(hS 24 rfl).1, by rw [(hS 24 rfl).2]; rfl⟩) (show ty L cl (sk 25) 25 from ⟨(hS 25 rfl).1, by rw [(hS 25 rfl).2]; rfl⟩) (show XT L cl ln L cl ln from XT.refl) (show fT [24, 1002, 25, 1003, 6, 36, 7, 37] L cl iv rv iv rv from fT.refl) (fun hph tsk6 tsk7 tsk8 tsk9 tsk10 tsk24 tsk25 hX0 hF0 => ?_)
  refine c_aload_n (j := 0) (x := a0) C dX3_gather_0 rfl ?_
  obtain ⟨rb1, rq1, trb1⟩ := hW.ref t_a0 0 rfl rfl rfl
  have erb1 := hW.sk trb1 (by decide) rfl
  subst erb1
  refine c_getr (k := 0) C ck_4 dX3_gather_1 w1_190 (by decide) t_a0 rfl rfl (by decide) rfl rq1 ?_
  refine c_st (st2 := [.ref (sk 24)]) rfl ?_
  refine d_callV (As := []) (rest := []) C hM (C_lclear_24 (a0 := (sk 24)) hW hS tsk24  ) dX3_gather_4 kV_X3_47 rfl tsk24 rfl rfl (by decide) ck_0 rfl (Nat.le_of_ble_eq_true rfl) ⟨(Nat.le_of_ble_eq_true rfl), (Nat.le_of_ble_eq_true rfl)⟩ hph hph (show 0 + 0 = 0 from rfl) (by decide) (fun rh1 Lh1 clh1 lnh1 ivh1 rvh1 h1 => ?_)
  obtain ⟨rfl, rfl, rfl, rfl, fl1, W1, exf1⟩ := h1
  have F1 := hF0.call hX0 fl1 rfl
  refine c_st (st2 := []) rfl ?_
  refine hv2 (show 0 ≤ ivh1 (sk 24) 2 ∧ ivh1 (sk 24) 2 ≤ 6003 from W1.int tsk24 2) (show ivh1 (sk 24) 2 = 0 from exf1) (fun ri1 gf1 => ?_)
  refine c_aload_n (j := 0) (x := a0) C dX3_gather_7 rfl ?_
  obtain ⟨rb2, rq2, trb2⟩ := W1.ref t_a0 1 rfl rfl rfl
  have erb2 := W1.sk trb2 (by decide) rfl
  subst erb2
  refine c_getr (k := 1) C ck_4 dX3_gather_8 w1_193 (by decide) t_a0 rfl rfl (by decide) rfl rq2 ?_
  refine c_st (st2 := [.ref (sk 25)]) rfl ?_
  have pl1 := Phi.le W1 hS
  refine d_callV (As := []) (rest := []) C hM (C_lclear_25 (a0 := (sk 25)) W1 hS tsk25  ) dX3_gather_11 kV_X3_47 rfl tsk25 rfl rfl (by decide) ck_0 rfl (Nat.le_of_ble_eq_true rfl) ⟨(Nat.le_of_ble_eq_true rfl), (Nat.le_of_ble_eq_true rfl)⟩ hph pl1 (show 0 + 0 = 0 from rfl) (by decide) (fun rh2 Lh2 clh2 lnh2 ivh2 rvh2 h2 => ?_)
  obtain ⟨rfl, rfl, rfl, rfl, fl2, W2, exf2⟩ := h2
  have F2 := F1.call hX0 fl2 rfl
  refine c_st (st2 := []) rfl ?_
  refine hv2 (show 0 ≤ ivh2 (sk 25) 2 ∧ ivh2 (sk 25) 2 ≤ 6003 from W2.int tsk25 2) (show ivh2 (sk 25) 2 = 0 from exf2) (fun ri2 gf2 => ?_)
  refine c_aload_n (j := 1) (x := a1) C dX3_gather_14 rfl ?_
  refine hv3 (show (-2147483648) ≤ ivh2 a1 0 ∧ ivh2 a1 0 ≤ 2147483647 from W2.int t_a1 0) (show ivh2 a1 0 = ivh1 a1 0 from fl2.i t_a1 rfl 0) (show ivh1 a1 0 = iv a1 0 from fl1.i t_a1 rfl 0) (fun ri3 ie3 ie4 => ?_)
  refine c_get (k := 0) C ck_10 dX3_gather_15 w2_175 (by decide) t_a1 rfl rfl (by decide) rfl ?_
  refine c_iconst C dX3_gather_18 ?_
  refine c_icmp_ne (tgt := 73) C ⟨by omega, by omega⟩ ⟨by decide, by decide⟩ dX3_gather_19 (by decide) (fun c1 => ?_) (fun c1 => ?_)
  · refine c_aload_n (j := 0) (x := a0) C dX3_gather_73 rfl ?_
    have re1 : rvh1 a0 0 = rv a0 0 := (fl1.r t_a0 rfl 0)
    rw [rq1] at re1
    have re2 : rvh2 a0 0 = rvh1 a0 0 := (fl2.r t_a0 rfl 0)
    rw [re1] at re2
    refine c_getr (k := 0) C ck_4 dX3_gather_74 w1_190 (by decide) t_a0 rfl rfl (by decide) rfl re2 ?_
    refine c_st (st2 := [.ref (sk 24)]) rfl ?_
    refine c_aload_n (j := 1) (x := a1) C dX3_gather_77 rfl ?_
    refine hv3 (show 0 ≤ ivh2 (sk 24) 2 ∧ ivh2 (sk 24) 2 ≤ 6003 from W2.int tsk24 2) (show ivh2 (sk 24) 2 = ivh1 (sk 24) 2 from fl2.i tsk24 rfl 2) (Phi.le W2 hS) (fun ri4 ie5 pl2 => ?_)
    refine d_callS (As := [.ref (sk 24), .ref a1]) (rest := []) C hM (C_gatherPart_24 (a0 := (sk 24)) (r := (some a1)) W2 hS tsk24 (fun _ q => by cases q; exact t_a1)  (by show ivh2 (sk 24) 2 = 0; omega)) dX3_gather_78 kS_X3_59 rfl rfl (Nat.le_of_ble_eq_true rfl) ⟨(Nat.le_of_ble_eq_true rfl), (Nat.le_of_ble_eq_true rfl)⟩ hph pl2 (show 0 + 0 = 0 from rfl) (by decide) (fun rh3 Lh3 clh3 lnh3 ivh3 rvh3 h3 => ?_)
    obtain ⟨rfl, xl3, fl3, W3, exf3⟩ := h3
    refine hv3 (F2.call hX0 fl3 rfl) (hX0.trans xl3) (xl3.skl hS) (fun F3 X1 sk1 => ?_)
    refine c_st (st2 := []) rfl ?_
    refine hv2 (xl3.ty tsk24) (show ivh3 (sk 24) 2 ≤ 6002 from exf3) (fun ty1 gf3 => ?_)
    have ri5 : 0 ≤ ivh3 (sk 24) 2 ∧ ivh3 (sk 24) 2 ≤ 6003 := W3.int ty1 2
    refine c_aload_n (j := 0) (x := a0) C dX3_gather_81 rfl ?_
    refine hv2 (xl3.ty t_a0) (show rvh3 a0 0 = rvh2 a0 0 from (fl3.r t_a0 rfl 0)) (fun ty2 re3 => ?_)
    rw [re2] at re3
    refine c_getr (k := 0) C ck_4 dX3_gather_82 w1_190 (by decide) ty2 rfl rfl (by decide) rfl re3 ?_
    refine c_st (st2 := [.ref (sk 24)]) rfl ?_
    refine c_aload_n (j := 0) (x := a0) C dX3_gather_85 rfl ?_
    obtain ⟨rb3, rq3, trb3⟩ := W3.ref ty2 2 rfl rfl rfl
    have erb3 := W3.sk trb3 (by decide) rfl
    subst erb3
    refine c_getr (k := 2) C ck_4 dX3_gather_86 w1_196 (by decide) ty2 rfl rfl (by decide) rfl rq3 ?_
    refine c_st (st2 := [.ref (sk 6), .ref (sk 24)]) rfl ?_
    refine hv2 (xl3.ty tsk6) (Phi.le W3 sk1) (fun ty3 pl3 => ?_)
    refine d_callS (As := [.ref (sk 24), .ref (sk 6)]) (rest := []) C hM (C_markBegins_24 (a0 := (sk 24)) (a1 := (sk 6)) W3 sk1 ty1 ty3  ) dX3_gather_89 kS_X3_73 rfl rfl (Nat.le_of_ble_eq_true rfl) ⟨(Nat.le_of_ble_eq_true rfl), (Nat.le_of_ble_eq_true rfl)⟩ hph pl3 (show 0 + 0 = 0 from rfl) (by decide) (fun rh4 Lh4 clh4 lnh4 ivh4 rvh4 h4 => ?_)
    obtain ⟨rfl, xl4, fl4, W4, exf4⟩ := h4
    refine hv9 (F3.call X1 fl4 rfl) (xl3.ty t_a1) (xl3.ty tsk7) (xl3.ty tsk8) (xl3.ty tsk9) (xl3.ty tsk10) (xl3.ty tsk25) (X1.trans xl4) (xl4.skl sk1) (fun F4 ty4 ty5 ty6 ty7 ty8 ty9 X2 sk2 => ?_)
    refine c_st (st2 := []) rfl ?_
    refine c_aload_n (j := 0) (x := a0) C dX3_gather_92 rfl ?_
    refine hv2 (xl4.ty ty2) (show rvh2 a0 1 = rvh1 a0 1 from (fl2.r t_a0 rfl 1)) (fun ty10 re4 => ?_)
    rw [rq2] at re4
    have re5 : rvh3 a0 1 = rvh2 a0 1 := (fl3.r t_a0 rfl 1)
    rw [re4] at re5
    have re6 : rvh4 a0 1 = rvh3 a0 1 := (fl4.r ty2 rfl 1)
    rw [re5] at re6
    refine c_getr (k := 1) C ck_4 dX3_gather_93 w1_193 (by decide) ty10 rfl rfl (by decide) rfl re6 ?_
    refine c_st (st2 := [.ref (sk 25)]) rfl ?_
    refine c_aload_n (j := 0) (x := a0) C dX3_gather_96 rfl ?_
    obtain ⟨rb4, rq4, trb4⟩ := W4.ref ty10 3 rfl rfl rfl
    have erb4 := W4.sk trb4 (by decide) rfl
    subst erb4
    refine c_getr (k := 3) C ck_4 dX3_gather_97 w1_197 (by decide) ty10 rfl rfl (by decide) rfl rq4 ?_
    refine c_st (st2 := [.ref (sk 7), .ref (sk 25)]) rfl ?_
    refine hv3 (xl4.ty ty9) (xl4.ty ty5) (Phi.le W4 sk2) (fun ty11 ty12 pl4 => ?_)
    refine d_callS (As := [.ref (sk 25), .ref (sk 7)]) (rest := []) C hM (C_markBegins_25 (a0 := (sk 25)) (a1 := (sk 7)) W4 sk2 ty11 ty12  ) dX3_gather_100 kS_X3_73 rfl rfl (Nat.le_of_ble_eq_true rfl) ⟨(Nat.le_of_ble_eq_true rfl), (Nat.le_of_ble_eq_true rfl)⟩ hph pl4 (show 0 + 0 = 0 from rfl) (by decide) (fun rh5 Lh5 clh5 lnh5 ivh5 rvh5 h5 => ?_)
    obtain ⟨rfl, xl5, fl5, W5, exf5⟩ := h5
    refine hv9 (F4.call X2 fl5 rfl) (xl4.ty ty4) (xl4.ty ty3) (xl4.ty ty6) (xl4.ty ty7) (xl4.ty ty8) (xl4.ty ty1) (X2.trans xl5) (xl5.skl sk2) (fun F5 ty13 ty14 ty15 ty16 ty17 ty18 X3 sk3 => ?_)
    refine c_st (st2 := []) rfl ?_
    have pl5 := Phi.le W5 sk3
    exact c_vret C dX3_gather_103 rfl (by decide) (rom0 hph pl5 (by decide)) ⟨rfl, X3, F5, W5, trivial⟩
  · refine c_aload_n (j := 0) (x := a0) C dX3_gather_22 rfl ?_
    have re7 : rvh1 a0 0 = rv a0 0 := (fl1.r t_a0 rfl 0)
    rw [rq1] at re7
    have re8 : rvh2 a0 0 = rvh1 a0 0 := (fl2.r t_a0 rfl 0)
    rw [re7] at re8
    refine c_getr (k := 0) C ck_4 dX3_gather_23 w1_190 (by decide) t_a0 rfl rfl (by decide) rfl re8 ?_
    refine c_st (st2 := [.ref (sk 24)]) rfl ?_
    refine c_aload_n (j := 1) (x := a1) C dX3_gather_26 rfl ?_
    rcases W2.opt t_a1 2 rfl rfl with ⟨nq1, _⟩ | ⟨nb1, nq1, tnb1⟩
    · refine c_getr (k := 2) C ck_10 dX3_gather_27 w2_181 (by decide) t_a1 rfl rfl (by decide) rfl nq1 ?_
      refine c_st (st2 := [.null, .ref (sk 24)]) rfl ?_
      refine hv3 (show 0 ≤ ivh2 (sk 24) 2 ∧ ivh2 (sk 24) 2 ≤ 6003 from W2.int tsk24 2) (show ivh2 (sk 24) 2 = ivh1 (sk 24) 2 from fl2.i tsk24 rfl 2) (Phi.le W2 hS) (fun ri6 ie7 pl6 => ?_)
      refine d_callS (As := [.ref (sk 24), .null]) (rest := []) C hM (C_gatherPart_24 (a0 := (sk 24)) (r := none) W2 hS tsk24 (fun _ q => by cases q)  (by show ivh2 (sk 24) 2 = 0; omega)) dX3_gather_30 kS_X3_59 rfl rfl (Nat.le_of_ble_eq_true rfl) ⟨(Nat.le_of_ble_eq_true rfl), (Nat.le_of_ble_eq_true rfl)⟩ hph pl6 (show 0 + 0 = 0 from rfl) (by decide) (fun rh6 Lh6 clh6 lnh6 ivh6 rvh6 h6 => ?_)
      obtain ⟨rfl, xl6, fl6, W6, exf6⟩ := h6
      refine hv3 (F2.call hX0 fl6 rfl) (hX0.trans xl6) (xl6.skl hS) (fun F6 X4 sk4 => ?_)
      refine c_st (st2 := []) rfl ?_
      refine hv2 (xl6.ty tsk24) (show ivh6 (sk 24) 2 ≤ 6002 from exf6) (fun ty19 gf6 => ?_)
      have ri7 : 0 ≤ ivh6 (sk 24) 2 ∧ ivh6 (sk 24) 2 ≤ 6003 := W6.int ty19 2
      refine c_aload_n (j := 0) (x := a0) C dX3_gather_33 rfl ?_
      refine hv2 (xl6.ty t_a0) (show rvh6 a0 0 = rvh2 a0 0 from (fl6.r t_a0 rfl 0)) (fun ty20 re9 => ?_)
      rw [re8] at re9
      refine c_getr (k := 0) C ck_4 dX3_gather_34 w1_190 (by decide) ty20 rfl rfl (by decide) rfl re9 ?_
      refine c_st (st2 := [.ref (sk 24)]) rfl ?_
      refine c_aload_n (j := 1) (x := a1) C dX3_gather_37 rfl ?_
      have ty21 := xl6.ty t_a1
      obtain ⟨rb5, rq5, trb5⟩ := W6.ref ty21 6 rfl rfl rfl
      have lnrb5 : 4 ≤ lnh6 rb5 ∧ lnh6 rb5 ≤ 4 := W6.len trb5 rfl
      refine c_getr (k := 6) C ck_10 dX3_gather_38 w2_193 (by decide) ty21 rfl rfl (by decide) rfl rq5 ?_
      refine c_st (st2 := [.ref rb5, .ref (sk 24)]) rfl ?_
      refine c_iconst C dX3_gather_41 ?_
      have ll1 : 4 ≤ lnh6 rb5 ∧ lnh6 rb5 ≤ 4 := W6.len trb5 rfl
      rcases W6.opt trb5 ((2 : Int).toNat) rfl rfl with ⟨nq2, _⟩ | ⟨nb2, nq2, tnb2⟩
      · refine c_aaldR C dX3_gather_42 trb5 rfl (by omega) (by omega) (by omega) nq2 ?_
        refine c_st (st2 := [.null, .ref (sk 24)]) rfl ?_
        have pl7 := Phi.le W6 sk4
        refine d_callS (As := [.ref (sk 24), .null]) (rest := []) C hM (C_addInd_24 (a0 := (sk 24)) (r := none) W6 sk4 ty19 (fun _ q => by cases q)  (by show ivh6 (sk 24) 2 < 6003; omega)) dX3_gather_43 kS_X3_67 rfl rfl (Nat.le_of_ble_eq_true rfl) ⟨(Nat.le_of_ble_eq_true rfl), (Nat.le_of_ble_eq_true rfl)⟩ hph pl7 (show 0 + 0 = 0 from rfl) (by decide) (fun rh7 Lh7 clh7 lnh7 ivh7 rvh7 h7 => ?_)
        obtain ⟨rfl, xl7, fl7, W7, exf7⟩ := h7
        refine hv9 (F6.call X4 fl7 rfl) (xl6.ty tsk6) (xl6.ty tsk7) (xl6.ty tsk8) (xl6.ty tsk9) (xl6.ty tsk10) (xl6.ty tsk25) (X4.trans xl7) (xl7.skl sk4) (fun F7 ty22 ty23 ty24 ty25 ty26 ty27 X5 sk5 => ?_)
        refine c_st (st2 := []) rfl ?_
        refine hv2 (xl7.ty ty19) (show ivh6 (sk 24) 2 ≤ ivh7 (sk 24) 2 ∧ ivh7 (sk 24) 2 ≤ ivh6 (sk 24) 2 + 1 from exf7) (fun ty28 gf7 => ?_)
        have ri8 : 0 ≤ ivh7 (sk 24) 2 ∧ ivh7 (sk 24) 2 ≤ 6003 := W7.int ty28 2
        refine c_aload_n (j := 0) (x := a0) C dX3_gather_46 rfl ?_
        refine hv2 (xl7.ty ty20) (show rvh2 a0 1 = rvh1 a0 1 from (fl2.r t_a0 rfl 1)) (fun ty29 re10 => ?_)
        rw [rq2] at re10
        have re11 : rvh6 a0 1 = rvh2 a0 1 := (fl6.r t_a0 rfl 1)
        rw [re10] at re11
        have re12 : rvh7 a0 1 = rvh6 a0 1 := (fl7.r ty20 rfl 1)
        rw [re11] at re12
        refine c_getr (k := 1) C ck_4 dX3_gather_47 w1_193 (by decide) ty29 rfl rfl (by decide) rfl re12 ?_
        refine c_st (st2 := [.ref (sk 25)]) rfl ?_
        refine c_aload_n (j := 1) (x := a1) C dX3_gather_50 rfl ?_
        have ty30 := xl7.ty ty21
        rcases W7.opt ty30 3 rfl rfl with ⟨nq3, _⟩ | ⟨nb3, nq3, tnb3⟩
        · refine c_getr (k := 3) C ck_10 dX3_gather_51 w2_184 (by decide) ty30 rfl rfl (by decide) rfl nq3 ?_
          refine c_st (st2 := [.null, .ref (sk 25)]) rfl ?_
          refine hv4 (xl7.ty ty27) (show ivh7 (sk 25) 2 = ivh6 (sk 25) 2 from fl7.i ty27 rfl 2) (show ivh6 (sk 25) 2 = ivh2 (sk 25) 2 from fl6.i tsk25 rfl 2) (Phi.le W7 sk5) (fun ty31 ie10 ie11 pl8 => ?_)
          have ri9 : 0 ≤ ivh7 (sk 25) 2 ∧ ivh7 (sk 25) 2 ≤ 6003 := W7.int ty31 2
          refine d_callS (As := [.ref (sk 25), .null]) (rest := []) C hM (C_gatherPart_25 (a0 := (sk 25)) (r := none) W7 sk5 ty31 (fun _ q => by cases q)  (by show ivh7 (sk 25) 2 = 0; omega)) dX3_gather_54 kS_X3_59 rfl rfl (Nat.le_of_ble_eq_true rfl) ⟨(Nat.le_of_ble_eq_true rfl), (Nat.le_of_ble_eq_true rfl)⟩ hph pl8 (show 0 + 0 = 0 from rfl) (by decide) (fun rh8 Lh8 clh8 lnh8 ivh8 rvh8 h8 => ?_)
          obtain ⟨rfl, xl8, fl8, W8, exf8⟩ := h8
          refine hv9 (F7.call X5 fl8 rfl) (xl7.ty ty22) (xl7.ty ty23) (xl7.ty ty24) (xl7.ty ty25) (xl7.ty ty26) (xl7.ty trb5) (X5.trans xl8) (xl8.skl sk5) (fun F8 ty32 ty33 ty34 ty35 ty36 ty37 X6 sk6 => ?_)
          refine c_st (st2 := []) rfl ?_
          refine hv2 (xl8.ty ty31) (show ivh8 (sk 25) 2 ≤ 6002 from exf8) (fun ty38 gf8 => ?_)
          have ri10 : 0 ≤ ivh8 (sk 25) 2 ∧ ivh8 (sk 25) 2 ≤ 6003 := W8.int ty38 2
          refine c_aload_n (j := 0) (x := a0) C dX3_gather_57 rfl ?_
          refine hv2 (xl8.ty ty29) (show rvh8 a0 1 = rvh7 a0 1 from (fl8.r ty29 rfl 1)) (fun ty39 re13 => ?_)
          rw [re12] at re13
          refine c_getr (k := 1) C ck_4 dX3_gather_58 w1_193 (by decide) ty39 rfl rfl (by decide) rfl re13 ?_
          refine c_st (st2 := [.ref (sk 25)]) rfl ?_
          refine c_aload_n (j := 1) (x := a1) C dX3_gather_61 rfl ?_
          refine hv2 (xl8.ty ty30) (show rvh7 a1 6 = rvh6 a1 6 from (fl7.r ty21 rfl 6)) (fun ty40 re14 => ?_)
          rw [rq5] at re14
          have re15 : rvh8 a1 6 = rvh7 a1 6 := (fl8.r ty30 rfl 6)
          rw [re14] at re15
          refine c_getr (k := 6) C ck_10 dX3_gather_62 w2_193 (by decide) ty40 rfl rfl (by decide) rfl re15 ?_
          refine c_st (st2 := [.ref rb5, .ref (sk 25)]) rfl ?_
          refine c_iconst C dX3_gather_65 ?_
          have ty41 := xl8.ty ty37
          have ll2 : 4 ≤ lnh8 rb5 ∧ lnh8 rb5 ≤ 4 := W8.len ty41 rfl
          rcases W8.opt ty41 ((3 : Int).toNat) rfl rfl with ⟨nq4, _⟩ | ⟨nb4, nq4, tnb4⟩
          · refine c_aaldR C dX3_gather_66 ty41 rfl (by omega) (by omega) (by omega) nq4 ?_
            refine c_st (st2 := [.null, .ref (sk 25)]) rfl ?_
            have pl9 := Phi.le W8 sk6
            refine d_callS (As := [.ref (sk 25), .null]) (rest := []) C hM (C_addInd_25 (a0 := (sk 25)) (r := none) W8 sk6 ty38 (fun _ q => by cases q)  (by show ivh8 (sk 25) 2 < 6003; omega)) dX3_gather_67 kS_X3_67 rfl rfl (Nat.le_of_ble_eq_true rfl) ⟨(Nat.le_of_ble_eq_true rfl), (Nat.le_of_ble_eq_true rfl)⟩ hph pl9 (show 0 + 0 = 0 from rfl) (by decide) (fun rh9 Lh9 clh9 lnh9 ivh9 rvh9 h9 => ?_)
            obtain ⟨rfl, xl9, fl9, W9, exf9⟩ := h9
            refine hv9 (F8.call X6 fl9 rfl) (xl8.ty ty32) (xl8.ty ty33) (xl8.ty ty34) (xl8.ty ty35) (xl8.ty ty36) (xl8.ty ty28) (X6.trans xl9) (xl9.skl sk6) (fun F9 ty42 ty43 ty44 ty45 ty46 ty47 X7 sk7 => ?_)
            refine c_st (st2 := []) rfl ?_
            refine hv2 (xl9.ty ty38) (show ivh8 (sk 25) 2 ≤ ivh9 (sk 25) 2 ∧ ivh9 (sk 25) 2 ≤ ivh8 (sk 25) 2 + 1 from exf9) (fun ty48 gf9 => ?_)
            have ri11 : 0 ≤ ivh9 (sk 25) 2 ∧ ivh9 (sk 25) 2 ≤ 6003 := W9.int ty48 2
            refine c_goto (tgt := 81) C dX3_gather_70 (by decide) ?_
            refine c_aload_n (j := 0) (x := a0) C dX3_gather_81 rfl ?_
            refine hv2 (xl9.ty ty39) (show rvh7 a0 0 = rvh6 a0 0 from (fl7.r ty20 rfl 0)) (fun ty49 re16 => ?_)
            rw [re9] at re16
            have re17 : rvh8 a0 0 = rvh7 a0 0 := (fl8.r ty29 rfl 0)
            rw [re16] at re17
            have re18 : rvh9 a0 0 = rvh8 a0 0 := (fl9.r ty39 rfl 0)
            rw [re17] at re18
            refine c_getr (k := 0) C ck_4 dX3_gather_82 w1_190 (by decide) ty49 rfl rfl (by decide) rfl re18 ?_
            refine c_st (st2 := [.ref (sk 24)]) rfl ?_
            refine c_aload_n (j := 0) (x := a0) C dX3_gather_85 rfl ?_
            obtain ⟨rb6, rq6, trb6⟩ := W9.ref ty49 2 rfl rfl rfl
            have erb6 := W9.sk trb6 (by decide) rfl
            subst erb6
            refine c_getr (k := 2) C ck_4 dX3_gather_86 w1_196 (by decide) ty49 rfl rfl (by decide) rfl rq6 ?_
            refine c_st (st2 := [.ref (sk 6), .ref (sk 24)]) rfl ?_
            refine hv3 (xl9.ty ty47) (xl9.ty ty42) (Phi.le W9 sk7) (fun ty50 ty51 pl10 => ?_)
            refine d_callS (As := [.ref (sk 24), .ref (sk 6)]) (rest := []) C hM (C_markBegins_24 (a0 := (sk 24)) (a1 := (sk 6)) W9 sk7 ty50 ty51  ) dX3_gather_89 kS_X3_73 rfl rfl (Nat.le_of_ble_eq_true rfl) ⟨(Nat.le_of_ble_eq_true rfl), (Nat.le_of_ble_eq_true rfl)⟩ hph pl10 (show 0 + 0 = 0 from rfl) (by decide) (fun rh10 Lh10 clh10 lnh10 ivh10 rvh10 h10 => ?_)
            obtain ⟨rfl, xl10, fl10, W10, exf10⟩ := h10
            refine hv9 (F9.call X7 fl10 rfl) (xl9.ty ty40) (xl9.ty ty43) (xl9.ty ty44) (xl9.ty ty45) (xl9.ty ty46) (xl9.ty ty41) (X7.trans xl10) (xl10.skl sk7) (fun F10 ty52 ty53 ty54 ty55 ty56 ty57 X8 sk8 => ?_)
            refine c_st (st2 := []) rfl ?_
            refine c_aload_n (j := 0) (x := a0) C dX3_gather_92 rfl ?_
            refine hv2 (xl10.ty ty49) (show rvh9 a0 1 = rvh8 a0 1 from (fl9.r ty39 rfl 1)) (fun ty58 re19 => ?_)
            rw [re13] at re19
            have re20 : rvh10 a0 1 = rvh9 a0 1 := (fl10.r ty49 rfl 1)
            rw [re19] at re20
            refine c_getr (k := 1) C ck_4 dX3_gather_93 w1_193 (by decide) ty58 rfl rfl (by decide) rfl re20 ?_
            refine c_st (st2 := [.ref (sk 25)]) rfl ?_
            refine c_aload_n (j := 0) (x := a0) C dX3_gather_96 rfl ?_
            obtain ⟨rb7, rq7, trb7⟩ := W10.ref ty58 3 rfl rfl rfl
            have erb7 := W10.sk trb7 (by decide) rfl
            subst erb7
            refine c_getr (k := 3) C ck_4 dX3_gather_97 w1_197 (by decide) ty58 rfl rfl (by decide) rfl rq7 ?_
            refine c_st (st2 := [.ref (sk 7), .ref (sk 25)]) rfl ?_
            refine hv3 (xl10.ty ty48) (xl10.ty ty53) (Phi.le W10 sk8) (fun ty59 ty60 pl11 => ?_)
            refine d_callS (As := [.ref (sk 25), .ref (sk 7)]) (rest := []) C hM (C_markBegins_25 (a0 := (sk 25)) (a1 := (sk 7)) W10 sk8 ty59 ty60  ) dX3_gather_100 kS_X3_73 rfl rfl (Nat.le_of_ble_eq_true rfl) ⟨(Nat.le_of_ble_eq_true rfl), (Nat.le_of_ble_eq_true rfl)⟩ hph pl11 (show 0 + 0 = 0 from rfl) (by decide) (fun rh11 Lh11 clh11 lnh11 ivh11 rvh11 h11 => ?_)
            obtain ⟨rfl, xl11, fl11, W11, exf11⟩ := h11
            refine hv10 (F10.call X8 fl11 rfl) (xl10.ty ty52) (xl10.ty ty51) (xl10.ty ty54) (xl10.ty ty55) (xl10.ty ty56) (xl10.ty ty50) (xl10.ty ty57) (X8.trans xl11) (xl11.skl sk8) (fun F11 ty61 ty62 ty63 ty64 ty65 ty66 ty67 X9 sk9 => ?_)
            refine c_st (st2 := []) rfl ?_
            have pl12 := Phi.le W11 sk9
            exact c_vret C dX3_gather_103 rfl (by decide) (rom0 hph pl12 (by decide)) ⟨rfl, X9, F11, W11, trivial⟩
          · have tnb4 : ty Lh8 clh8 nb4 20 := tnb4
            refine c_aaldR C dX3_gather_66 ty41 rfl (by omega) (by omega) (by omega) nq4 ?_
            refine c_st (st2 := [.ref nb4, .ref (sk 25)]) rfl ?_
            have pl13 := Phi.le W8 sk6
            refine d_callS (As := [.ref (sk 25), .ref nb4]) (rest := []) C hM (C_addInd_25 (a0 := (sk 25)) (r := (some nb4)) W8 sk6 ty38 (fun _ q => by cases q; exact tnb4)  (by show ivh8 (sk 25) 2 < 6003; omega)) dX3_gather_67 kS_X3_67 rfl rfl (Nat.le_of_ble_eq_true rfl) ⟨(Nat.le_of_ble_eq_true rfl), (Nat.le_of_ble_eq_true rfl)⟩ hph pl13 (show 0 + 0 = 0 from rfl) (by decide) (fun rh12 Lh12 clh12 lnh12 ivh12 rvh12 h12 => ?_)
            obtain ⟨rfl, xl12, fl12, W12, exf12⟩ := h12
            refine hv9 (F8.call X6 fl12 rfl) (xl8.ty ty32) (xl8.ty ty33) (xl8.ty ty34) (xl8.ty ty35) (xl8.ty ty36) (xl8.ty ty28) (X6.trans xl12) (xl12.skl sk6) (fun F12 ty68 ty69 ty70 ty71 ty72 ty73 X10 sk10 => ?_)
            refine c_st (st2 := []) rfl ?_
            refine hv2 (xl12.ty ty38) (show ivh8 (sk 25) 2 ≤ ivh12 (sk 25) 2 ∧ ivh12 (sk 25) 2 ≤ ivh8 (sk 25) 2 + 1 from exf12) (fun ty74 gf12 => ?_)
            have ri12 : 0 ≤ ivh12 (sk 25) 2 ∧ ivh12 (sk 25) 2 ≤ 6003 := W12.int ty74 2
            refine c_goto (tgt := 81) C dX3_gather_70 (by decide) ?_
            refine c_aload_n (j := 0) (x := a0) C dX3_gather_81 rfl ?_
            refine hv2 (xl12.ty ty39) (show rvh7 a0 0 = rvh6 a0 0 from (fl7.r ty20 rfl 0)) (fun ty75 re21 => ?_)
            rw [re9] at re21
            have re22 : rvh8 a0 0 = rvh7 a0 0 := (fl8.r ty29 rfl 0)
            rw [re21] at re22
            have re23 : rvh12 a0 0 = rvh8 a0 0 := (fl12.r ty39 rfl 0)
            rw [re22] at re23
            refine c_getr (k := 0) C ck_4 dX3_gather_82 w1_190 (by decide) ty75 rfl rfl (by decide) rfl re23 ?_
            refine c_st (st2 := [.ref (sk 24)]) rfl ?_
            refine c_aload_n (j := 0) (x := a0) C dX3_gather_85 rfl ?_
            obtain ⟨rb8, rq8, trb8⟩ := W12.ref ty75 2 rfl rfl rfl
            have erb8 := W12.sk trb8 (by decide) rfl
            subst erb8
            refine c_getr (k := 2) C ck_4 dX3_gather_86 w1_196 (by decide) ty75 rfl rfl (by decide) rfl rq8 ?_
            refine c_st (st2 := [.ref (sk 6), .ref (sk 24)]) rfl ?_
            refine hv3 (xl12.ty ty73) (xl12.ty ty68) (Phi.le W12 sk10) (fun ty76 ty77 pl14 => ?_)
            refine d_callS (As := [.ref (sk 24), .ref (sk 6)]) (rest := []) C hM (C_markBegins_24 (a0 := (sk 24)) (a1 := (sk 6)) W12 sk10 ty76 ty77  ) dX3_gather_89 kS_X3_73 rfl rfl (Nat.le_of_ble_eq_true rfl) ⟨(Nat.le_of_ble_eq_true rfl), (Nat.le_of_ble_eq_true rfl)⟩ hph pl14 (show 0 + 0 = 0 from rfl) (by decide) (fun rh13 Lh13 clh13 lnh13 ivh13 rvh13 h13 => ?_)
            obtain ⟨rfl, xl13, fl13, W13, exf13⟩ := h13
            refine hv10 (F12.call X10 fl13 rfl) (xl12.ty ty40) (xl12.ty ty69) (xl12.ty ty70) (xl12.ty ty71) (xl12.ty ty72) (xl12.ty ty41) (xl12.ty tnb4) (X10.trans xl13) (xl13.skl sk10) (fun F13 ty78 ty79 ty80 ty81 ty82 ty83 ty84 X11 sk11 => ?_)
            refine c_st (st2 := []) rfl ?_
            refine c_aload_n (j := 0) (x := a0) C dX3_gather_92 rfl ?_
            refine hv2 (xl13.ty ty75) (show rvh12 a0 1 = rvh8 a0 1 from (fl12.r ty39 rfl 1)) (fun ty85 re24 => ?_)
            rw [re13] at re24
            have re25 : rvh13 a0 1 = rvh12 a0 1 := (fl13.r ty75 rfl 1)
            rw [re24] at re25
            refine c_getr (k := 1) C ck_4 dX3_gather_93 w1_193 (by decide) ty85 rfl rfl (by decide) rfl re25 ?_
            refine c_st (st2 := [.ref (sk 25)]) rfl ?_
            refine c_aload_n (j := 0) (x := a0) C dX3_gather_96 rfl ?_
            obtain ⟨rb9, rq9, trb9⟩ := W13.ref ty85 3 rfl rfl rfl
            have erb9 := W13.sk trb9 (by decide) rfl
            subst erb9
            refine c_getr (k := 3) C ck_4 dX3_gather_97 w1_197 (by decide) ty85 rfl rfl (by decide) rfl rq9 ?_
            refine c_st (st2 := [.ref (sk 7), .ref (sk 25)]) rfl ?_
            refine hv3 (xl13.ty ty74) (xl13.ty ty79) (Phi.le W13 sk11) (fun ty86 ty87 pl15 => ?_)
            refine d_callS (As := [.ref (sk 25), .ref (sk 7)]) (rest := []) C hM (C_markBegins_25 (a0 := (sk 25)) (a1 := (sk 7)) W13 sk11 ty86 ty87  ) dX3_gather_100 kS_X3_73 rfl rfl (Nat.le_of_ble_eq_true rfl) ⟨(Nat.le_of_ble_eq_true rfl), (Nat.le_of_ble_eq_true rfl)⟩ hph pl15 (show 0 + 0 = 0 from rfl) (by decide) (fun rh14 Lh14 clh14 lnh14 ivh14 rvh14 h14 => ?_)
            obtain ⟨rfl, xl14, fl14, W14, exf14⟩ := h14
            refine hv11 (F13.call X11 fl14 rfl) (xl13.ty ty78) (xl13.ty ty77) (xl13.ty ty80) (xl13.ty ty81) (xl13.ty ty82) (xl13.ty ty76) (xl13.ty ty83) (xl13.ty ty84) (X11.trans xl14) (xl14.skl sk11) (fun F14 ty88 ty89 ty90 ty91 ty92 ty93 ty94 ty95 X12 sk12 => ?_)
            refine c_st (st2 := []) rfl ?_
            have pl16 := Phi.le W14 sk12
            exact c_vret C dX3_gather_103 rfl (by decide) (rom0 hph pl16 (by decide)) ⟨rfl, X12, F14, W14, trivial⟩
        · have rknb3 := W7.rank ty30 (k := 3) (by decide) nq3
          refine c_getr (k := 3) C ck_10 dX3_gather_51 w2_184 (by decide) ty30 rfl rfl (by decide) rfl nq3 ?_
          refine c_st (st2 := [.ref nb3, .ref (sk 25)]) rfl ?_
          refine hv4 (xl7.ty ty27) (show ivh7 (sk 25) 2 = ivh6 (sk 25) 2 from fl7.i ty27 rfl 2) (show ivh6 (sk 25) 2 = ivh2 (sk 25) 2 from fl6.i tsk25 rfl 2) (Phi.le W7 sk5) (fun ty96 ie15 ie16 pl17 => ?_)
          have ri13 : 0 ≤ ivh7 (sk 25) 2 ∧ ivh7 (sk 25) 2 ≤ 6003 := W7.int ty96 2
          refine d_callS (As := [.ref (sk 25), .ref nb3]) (rest := []) C hM (C_gatherPart_25 (a0 := (sk 25)) (r := (some nb3)) W7 sk5 ty96 (fun _ q => by cases q; exact tnb3)  (by show ivh7 (sk 25) 2 = 0; omega)) dX3_gather_54 kS_X3_59 rfl rfl (Nat.le_of_ble_eq_true rfl) ⟨(Nat.le_of_ble_eq_true rfl), (Nat.le_of_ble_eq_true rfl)⟩ hph pl17 (show 0 + 0 = 0 from rfl) (by decide) (fun rh15 Lh15 clh15 lnh15 ivh15 rvh15 h15 => ?_)
          obtain ⟨rfl, xl15, fl15, W15, exf15⟩ := h15
          refine hv9 (F7.call X5 fl15 rfl) (xl7.ty ty22) (xl7.ty ty23) (xl7.ty ty24) (xl7.ty ty25) (xl7.ty ty26) (xl7.ty trb5) (X5.trans xl15) (xl15.skl sk5) (fun F15 ty97 ty98 ty99 ty100 ty101 ty102 X13 sk13 => ?_)
          refine c_st (st2 := []) rfl ?_
          refine hv2 (xl15.ty ty96) (show ivh15 (sk 25) 2 ≤ 6002 from exf15) (fun ty103 gf15 => ?_)
          have ri14 : 0 ≤ ivh15 (sk 25) 2 ∧ ivh15 (sk 25) 2 ≤ 6003 := W15.int ty103 2
          refine c_aload_n (j := 0) (x := a0) C dX3_gather_57 rfl ?_
          refine hv2 (xl15.ty ty29) (show rvh15 a0 1 = rvh7 a0 1 from (fl15.r ty29 rfl 1)) (fun ty104 re26 => ?_)
          rw [re12] at re26
          refine c_getr (k := 1) C ck_4 dX3_gather_58 w1_193 (by decide) ty104 rfl rfl (by decide) rfl re26 ?_
          refine c_st (st2 := [.ref (sk 25)]) rfl ?_
          refine c_aload_n (j := 1) (x := a1) C dX3_gather_61 rfl ?_
          refine hv2 (xl15.ty ty30) (show rvh7 a1 6 = rvh6 a1 6 from (fl7.r ty21 rfl 6)) (fun ty105 re27 => ?_)
          rw [rq5] at re27
          have re28 : rvh15 a1 6 = rvh7 a1 6 := (fl15.r ty30 rfl 6)
          rw [re27] at re28
          refine c_getr (k := 6) C ck_10 dX3_gather_62 w2_193 (by decide) ty105 rfl rfl (by decide) rfl re28 ?_
          refine c_st (st2 := [.ref rb5, .ref (sk 25)]) rfl ?_
          refine c_iconst C dX3_gather_65 ?_
          have ty106 := xl15.ty ty102
          have ll3 : 4 ≤ lnh15 rb5 ∧ lnh15 rb5 ≤ 4 := W15.len ty106 rfl
          rcases W15.opt ty106 ((3 : Int).toNat) rfl rfl with ⟨nq5, _⟩ | ⟨nb5, nq5, tnb5⟩
          · refine c_aaldR C dX3_gather_66 ty106 rfl (by omega) (by omega) (by omega) nq5 ?_
            refine c_st (st2 := [.null, .ref (sk 25)]) rfl ?_
            have pl18 := Phi.le W15 sk13
            refine d_callS (As := [.ref (sk 25), .null]) (rest := []) C hM (C_addInd_25 (a0 := (sk 25)) (r := none) W15 sk13 ty103 (fun _ q => by cases q)  (by show ivh15 (sk 25) 2 < 6003; omega)) dX3_gather_67 kS_X3_67 rfl rfl (Nat.le_of_ble_eq_true rfl) ⟨(Nat.le_of_ble_eq_true rfl), (Nat.le_of_ble_eq_true rfl)⟩ hph pl18 (show 0 + 0 = 0 from rfl) (by decide) (fun rh16 Lh16 clh16 lnh16 ivh16 rvh16 h16 => ?_)
            obtain ⟨rfl, xl16, fl16, W16, exf16⟩ := h16
            refine hv10 (F15.call X13 fl16 rfl) (xl15.ty ty97) (xl15.ty ty98) (xl15.ty ty99) (xl15.ty ty100) (xl15.ty ty101) (xl15.ty ty28) (xl15.ty tnb3) (X13.trans xl16) (xl16.skl sk13) (fun F16 ty107 ty108 ty109 ty110 ty111 ty112 ty113 X14 sk14 => ?_)
            refine c_st (st2 := []) rfl ?_
            refine hv2 (xl16.ty ty103) (show ivh15 (sk 25) 2 ≤ ivh16 (sk 25) 2 ∧ ivh16 (sk 25) 2 ≤ ivh15 (sk 25) 2 + 1 from exf16) (fun ty114 gf16 => ?_)
            have ri15 : 0 ≤ ivh16 (sk 25) 2 ∧ ivh16 (sk 25) 2 ≤ 6003 := W16.int ty114 2
            refine c_goto (tgt := 81) C dX3_gather_70 (by decide) ?_
            refine c_aload_n (j := 0) (x := a0) C dX3_gather_81 rfl ?_
            refine hv2 (xl16.ty ty104) (show rvh7 a0 0 = rvh6 a0 0 from (fl7.r ty20 rfl 0)) (fun ty115 re29 => ?_)
            rw [re9] at re29
            have re30 : rvh15 a0 0 = rvh7 a0 0 := (fl15.r ty29 rfl 0)
            rw [re29] at re30
            have re31 : rvh16 a0 0 = rvh15 a0 0 := (fl16.r ty104 rfl 0)
            rw [re30] at re31
            refine c_getr (k := 0) C ck_4 dX3_gather_82 w1_190 (by decide) ty115 rfl rfl (by decide) rfl re31 ?_
            refine c_st (st2 := [.ref (sk 24)]) rfl ?_
            refine c_aload_n (j := 0) (x := a0) C dX3_gather_85 rfl ?_
            obtain ⟨rb10, rq10, trb10⟩ := W16.ref ty115 2 rfl rfl rfl
            have erb10 := W16.sk trb10 (by decide) rfl
            subst erb10
            refine c_getr (k := 2) C ck_4 dX3_gather_86 w1_196 (by decide) ty115 rfl rfl (by decide) rfl rq10 ?_
            refine c_st (st2 := [.ref (sk 6), .ref (sk 24)]) rfl ?_
            refine hv3 (xl16.ty ty112) (xl16.ty ty107) (Phi.le W16 sk14) (fun ty116 ty117 pl19 => ?_)
            refine d_callS (As := [.ref (sk 24), .ref (sk 6)]) (rest := []) C hM (C_markBegins_24 (a0 := (sk 24)) (a1 := (sk 6)) W16 sk14 ty116 ty117  ) dX3_gather_89 kS_X3_73 rfl rfl (Nat.le_of_ble_eq_true rfl) ⟨(Nat.le_of_ble_eq_true rfl), (Nat.le_of_ble_eq_true rfl)⟩ hph pl19 (show 0 + 0 = 0 from rfl) (by decide) (fun rh17 Lh17 clh17 lnh17 ivh17 rvh17 h17 => ?_)
            obtain ⟨rfl, xl17, fl17, W17, exf17⟩ := h17
            refine hv10 (F16.call X14 fl17 rfl) (xl16.ty ty105) (xl16.ty ty108) (xl16.ty ty109) (xl16.ty ty110) (xl16.ty ty111) (xl16.ty ty106) (xl16.ty ty113) (X14.trans xl17) (xl17.skl sk14) (fun F17 ty118 ty119 ty120 ty121 ty122 ty123 ty124 X15 sk15 => ?_)
            refine c_st (st2 := []) rfl ?_
            refine c_aload_n (j := 0) (x := a0) C dX3_gather_92 rfl ?_
            refine hv2 (xl17.ty ty115) (show rvh16 a0 1 = rvh15 a0 1 from (fl16.r ty104 rfl 1)) (fun ty125 re32 => ?_)
            rw [re26] at re32
            have re33 : rvh17 a0 1 = rvh16 a0 1 := (fl17.r ty115 rfl 1)
            rw [re32] at re33
            refine c_getr (k := 1) C ck_4 dX3_gather_93 w1_193 (by decide) ty125 rfl rfl (by decide) rfl re33 ?_
            refine c_st (st2 := [.ref (sk 25)]) rfl ?_
            refine c_aload_n (j := 0) (x := a0) C dX3_gather_96 rfl ?_
            obtain ⟨rb11, rq11, trb11⟩ := W17.ref ty125 3 rfl rfl rfl
            have erb11 := W17.sk trb11 (by decide) rfl
            subst erb11
            refine c_getr (k := 3) C ck_4 dX3_gather_97 w1_197 (by decide) ty125 rfl rfl (by decide) rfl rq11 ?_
            refine c_st (st2 := [.ref (sk 7), .ref (sk 25)]) rfl ?_
            refine hv3 (xl17.ty ty114) (xl17.ty ty119) (Phi.le W17 sk15) (fun ty126 ty127 pl20 => ?_)
            refine d_callS (As := [.ref (sk 25), .ref (sk 7)]) (rest := []) C hM (C_markBegins_25 (a0 := (sk 25)) (a1 := (sk 7)) W17 sk15 ty126 ty127  ) dX3_gather_100 kS_X3_73 rfl rfl (Nat.le_of_ble_eq_true rfl) ⟨(Nat.le_of_ble_eq_true rfl), (Nat.le_of_ble_eq_true rfl)⟩ hph pl20 (show 0 + 0 = 0 from rfl) (by decide) (fun rh18 Lh18 clh18 lnh18 ivh18 rvh18 h18 => ?_)
            obtain ⟨rfl, xl18, fl18, W18, exf18⟩ := h18
            refine hv11 (F17.call X15 fl18 rfl) (xl17.ty ty118) (xl17.ty ty117) (xl17.ty ty120) (xl17.ty ty121) (xl17.ty ty122) (xl17.ty ty116) (xl17.ty ty123) (xl17.ty ty124) (X15.trans xl18) (xl18.skl sk15) (fun F18 ty128 ty129 ty130 ty131 ty132 ty133 ty134 ty135 X16 sk16 => ?_)
            refine c_st (st2 := []) rfl ?_
            have pl21 := Phi.le W18 sk16
            exact c_vret C dX3_gather_103 rfl (by decide) (rom0 hph pl21 (by decide)) ⟨rfl, X16, F18, W18, trivial⟩
          · have tnb5 : ty Lh15 clh15 nb5 20 := tnb5
            refine c_aaldR C dX3_gather_66 ty106 rfl (by omega) (by omega) (by omega) nq5 ?_
            refine c_st (st2 := [.ref nb5, .ref (sk 25)]) rfl ?_
            have pl22 := Phi.le W15 sk13
            refine d_callS (As := [.ref (sk 25), .ref nb5]) (rest := []) C hM (C_addInd_25 (a0 := (sk 25)) (r := (some nb5)) W15 sk13 ty103 (fun _ q => by cases q; exact tnb5)  (by show ivh15 (sk 25) 2 < 6003; omega)) dX3_gather_67 kS_X3_67 rfl rfl (Nat.le_of_ble_eq_true rfl) ⟨(Nat.le_of_ble_eq_true rfl), (Nat.le_of_ble_eq_true rfl)⟩ hph pl22 (show 0 + 0 = 0 from rfl) (by decide) (fun rh19 Lh19 clh19 lnh19 ivh19 rvh19 h19 => ?_)
            obtain ⟨rfl, xl19, fl19, W19, exf19⟩ := h19
            refine hv10 (F15.call X13 fl19 rfl) (xl15.ty ty97) (xl15.ty ty98) (xl15.ty ty99) (xl15.ty ty100) (xl15.ty ty101) (xl15.ty ty28) (xl15.ty tnb3) (X13.trans xl19) (xl19.skl sk13) (fun F19 ty136 ty137 ty138 ty139 ty140 ty141 ty142 X17 sk17 => ?_)
            refine c_st (st2 := []) rfl ?_
            refine hv2 (xl19.ty ty103) (show ivh15 (sk 25) 2 ≤ ivh19 (sk 25) 2 ∧ ivh19 (sk 25) 2 ≤ ivh15 (sk 25) 2 + 1 from exf19) (fun ty143 gf19 => ?_)
            have ri16 : 0 ≤ ivh19 (sk 25) 2 ∧ ivh19 (sk 25) 2 ≤ 6003 := W19.int ty143 2
            refine c_goto (tgt := 81) C dX3_gather_70 (by decide) ?_
            refine c_aload_n (j := 0) (x := a0) C dX3_gather_81 rfl ?_
            refine hv2 (xl19.ty ty104) (show rvh7 a0 0 = rvh6 a0 0 from (fl7.r ty20 rfl 0)) (fun ty144 re34 => ?_)
            rw [re9] at re34
            have re35 : rvh15 a0 0 = rvh7 a0 0 := (fl15.r ty29 rfl 0)
            rw [re34] at re35
            have re36 : rvh19 a0 0 = rvh15 a0 0 := (fl19.r ty104 rfl 0)
            rw [re35] at re36
            refine c_getr (k := 0) C ck_4 dX3_gather_82 w1_190 (by decide) ty144 rfl rfl (by decide) rfl re36 ?_
            refine c_st (st2 := [.ref (sk 24)]) rfl ?_
            refine c_aload_n (j := 0) (x := a0) C dX3_gather_85 rfl ?_
            obtain ⟨rb12, rq12, trb12⟩ := W19.ref ty144 2 rfl rfl rfl
            have erb12 := W19.sk trb12 (by decide) rfl
            subst erb12
            refine c_getr (k := 2) C ck_4 dX3_gather_86 w1_196 (by decide) ty144 rfl rfl (by decide) rfl rq12 ?_
            refine c_st (st2 := [.ref (sk 6), .ref (sk 24)]) rfl ?_
            refine hv3 (xl19.ty ty141) (xl19.ty ty136) (Phi.le W19 sk17) (fun ty145 ty146 pl23 => ?_)
            refine d_callS (As := [.ref (sk 24), .ref (sk 6)]) (rest := []) C hM (C_markBegins_24 (a0 := (sk 24)) (a1 := (sk 6)) W19 sk17 ty145 ty146  ) dX3_gather_89 kS_X3_73 rfl rfl (Nat.le_of_ble_eq_true rfl) ⟨(Nat.le_of_ble_eq_true rfl), (Nat.le_of_ble_eq_true rfl)⟩ hph pl23 (show 0 + 0 = 0 from rfl) (by decide) (fun rh20 Lh20 clh20 lnh20 ivh20 rvh20 h20 => ?_)
            obtain ⟨rfl, xl20, fl20, W20, exf20⟩ := h20
            refine hv11 (F19.call X17 fl20 rfl) (xl19.ty ty105) (xl19.ty ty137) (xl19.ty ty138) (xl19.ty ty139) (xl19.ty ty140) (xl19.ty ty106) (xl19.ty ty142) (xl19.ty tnb5) (X17.trans xl20) (xl20.skl sk17) (fun F20 ty147 ty148 ty149 ty150 ty151 ty152 ty153 ty154 X18 sk18 => ?_)
            refine c_st (st2 := []) rfl ?_
            refine c_aload_n (j := 0) (x := a0) C dX3_gather_92 rfl ?_
            refine hv2 (xl20.ty ty144) (show rvh19 a0 1 = rvh15 a0 1 from (fl19.r ty104 rfl 1)) (fun ty155 re37 => ?_)
            rw [re26] at re37
            have re38 : rvh20 a0 1 = rvh19 a0 1 := (fl20.r ty144 rfl 1)
            rw [re37] at re38
            refine c_getr (k := 1) C ck_4 dX3_gather_93 w1_193 (by decide) ty155 rfl rfl (by decide) rfl re38 ?_
            refine c_st (st2 := [.ref (sk 25)]) rfl ?_
            refine c_aload_n (j := 0) (x := a0) C dX3_gather_96 rfl ?_
            obtain ⟨rb13, rq13, trb13⟩ := W20.ref ty155 3 rfl rfl rfl
            have erb13 := W20.sk trb13 (by decide) rfl
            subst erb13
            refine c_getr (k := 3) C ck_4 dX3_gather_97 w1_197 (by decide) ty155 rfl rfl (by decide) rfl rq13 ?_
            refine c_st (st2 := [.ref (sk 7), .ref (sk 25)]) rfl ?_
            refine hv3 (xl20.ty ty143) (xl20.ty ty148) (Phi.le W20 sk18) (fun ty156 ty157 pl24 => ?_)
            refine d_callS (As := [.ref (sk 25), .ref (sk 7)]) (rest := []) C hM (C_markBegins_25 (a0 := (sk 25)) (a1 := (sk 7)) W20 sk18 ty156 ty157  ) dX3_gather_100 kS_X3_73 rfl rfl (Nat.le_of_ble_eq_true rfl) ⟨(Nat.le_of_ble_eq_true rfl), (Nat.le_of_ble_eq_true rfl)⟩ hph pl24 (show 0 + 0 = 0 from rfl) (by decide) (fun rh21 Lh21 clh21 lnh21 ivh21 rvh21 h21 => ?_)
            obtain ⟨rfl, xl21, fl21, W21, exf21⟩ := h21
            refine hv12 (F20.call X18 fl21 rfl) (xl20.ty ty147) (xl20.ty ty146) (xl20.ty ty149) (xl20.ty ty150) (xl20.ty ty151) (xl20.ty ty145) (xl20.ty ty152) (xl20.ty ty153) (xl20.ty ty154) (X18.trans xl21) (xl21.skl sk18) (fun F21 ty158 ty159 ty160 ty161 ty162 ty163 ty164 ty165 ty166 X19 sk19 => ?_)
            refine c_st (st2 := []) rfl ?_
            have pl25 := Phi.le W21 sk19
            exact c_vret C dX3_gather_103 rfl (by decide) (rom0 hph pl25 (by decide)) ⟨rfl, X19, F21, W21, trivial⟩
      · have tnb2 : ty Lh6 clh6 nb2 20 := tnb2
        refine c_aaldR C dX3_gather_42 trb5 rfl (by omega) (by omega) (by omega) nq2 ?_
        refine c_st (st2 := [.ref nb2, .ref (sk 24)]) rfl ?_
        have pl26 := Phi.le W6 sk4
        refine d_callS (As := [.ref (sk 24), .ref nb2]) (rest := []) C hM (C_addInd_24 (a0 := (sk 24)) (r := (some nb2)) W6 sk4 ty19 (fun _ q => by cases q; exact tnb2)  (by show ivh6 (sk 24) 2 < 6003; omega)) dX3_gather_43 kS_X3_67 rfl rfl (Nat.le_of_ble_eq_true rfl) ⟨(Nat.le_of_ble_eq_true rfl), (Nat.le_of_ble_eq_true rfl)⟩ hph pl26 (show 0 + 0 = 0 from rfl) (by decide) (fun rh22 Lh22 clh22 lnh22 ivh22 rvh22 h22 => ?_)
        obtain ⟨rfl, xl22, fl22, W22, exf22⟩ := h22
        refine hv9 (F6.call X4 fl22 rfl) (xl6.ty tsk6) (xl6.ty tsk7) (xl6.ty tsk8) (xl6.ty tsk9) (xl6.ty tsk10) (xl6.ty tsk25) (X4.trans xl22) (xl22.skl sk4) (fun F22 ty167 ty168 ty169 ty170 ty171 ty172 X20 sk20 => ?_)
        refine c_st (st2 := []) rfl ?_
        refine hv2 (xl22.ty ty19) (show ivh6 (sk 24) 2 ≤ ivh22 (sk 24) 2 ∧ ivh22 (sk 24) 2 ≤ ivh6 (sk 24) 2 + 1 from exf22) (fun ty173 gf22 => ?_)
        have ri17 : 0 ≤ ivh22 (sk 24) 2 ∧ ivh22 (sk 24) 2 ≤ 6003 := W22.int ty173 2
        refine c_aload_n (j := 0) (x := a0) C dX3_gather_46 rfl ?_
        refine hv2 (xl22.ty ty20) (show rvh2 a0 1 = rvh1 a0 1 from (fl2.r t_a0 rfl 1)) (fun ty174 re39 => ?_)
        rw [rq2] at re39
        have re40 : rvh6 a0 1 = rvh2 a0 1 := (fl6.r t_a0 rfl 1)
        rw [re39] at re40
        have re41 : rvh22 a0 1 = rvh6 a0 1 := (fl22.r ty20 rfl 1)
        rw [re40] at re41
        refine c_getr (k := 1) C ck_4 dX3_gather_47 w1_193 (by decide) ty174 rfl rfl (by decide) rfl re41 ?_
        refine c_st (st2 := [.ref (sk 25)]) rfl ?_
        refine c_aload_n (j := 1) (x := a1) C dX3_gather_50 rfl ?_
        have ty175 := xl22.ty ty21
        rcases W22.opt ty175 3 rfl rfl with ⟨nq6, _⟩ | ⟨nb6, nq6, tnb6⟩
        · refine c_getr (k := 3) C ck_10 dX3_gather_51 w2_184 (by decide) ty175 rfl rfl (by decide) rfl nq6 ?_
          refine c_st (st2 := [.null, .ref (sk 25)]) rfl ?_
          refine hv4 (xl22.ty ty172) (show ivh22 (sk 25) 2 = ivh6 (sk 25) 2 from fl22.i ty172 rfl 2) (show ivh6 (sk 25) 2 = ivh2 (sk 25) 2 from fl6.i tsk25 rfl 2) (Phi.le W22 sk20) (fun ty176 ie21 ie22 pl27 => ?_)
          have ri18 : 0 ≤ ivh22 (sk 25) 2 ∧ ivh22 (sk 25) 2 ≤ 6003 := W22.int ty176 2
          refine d_callS (As := [.ref (sk 25), .null]) (rest := []) C hM (C_gatherPart_25 (a0 := (sk 25)) (r := none) W22 sk20 ty176 (fun _ q => by cases q)  (by show ivh22 (sk 25) 2 = 0; omega)) dX3_gather_54 kS_X3_59 rfl rfl (Nat.le_of_ble_eq_true rfl) ⟨(Nat.le_of_ble_eq_true rfl), (Nat.le_of_ble_eq_true rfl)⟩ hph pl27 (show 0 + 0 = 0 from rfl) (by decide) (fun rh23 Lh23 clh23 lnh23 ivh23 rvh23 h23 => ?_)
          obtain ⟨rfl, xl23, fl23, W23, exf23⟩ := h23
          refine hv10 (F22.call X20 fl23 rfl) (xl22.ty ty167) (xl22.ty ty168) (xl22.ty ty169) (xl22.ty ty170) (xl22.ty ty171) (xl22.ty trb5) (xl22.ty tnb2) (X20.trans xl23) (xl23.skl sk20) (fun F23 ty177 ty178 ty179 ty180 ty181 ty182 ty183 X21 sk21 => ?_)
          refine c_st (st2 := []) rfl ?_
          refine hv2 (xl23.ty ty176) (show ivh23 (sk 25) 2 ≤ 6002 from exf23) (fun ty184 gf23 => ?_)
          have ri19 : 0 ≤ ivh23 (sk 25) 2 ∧ ivh23 (sk 25) 2 ≤ 6003 := W23.int ty184 2
          refine c_aload_n (j := 0) (x := a0) C dX3_gather_57 rfl ?_
          refine hv2 (xl23.ty ty174) (show rvh23 a0 1 = rvh22 a0 1 from (fl23.r ty174 rfl 1)) (fun ty185 re42 => ?_)
          rw [re41] at re42
          refine c_getr (k := 1) C ck_4 dX3_gather_58 w1_193 (by decide) ty185 rfl rfl (by decide) rfl re42 ?_
          refine c_st (st2 := [.ref (sk 25)]) rfl ?_
          refine c_aload_n (j := 1) (x := a1) C dX3_gather_61 rfl ?_
          refine hv2 (xl23.ty ty175) (show rvh22 a1 6 = rvh6 a1 6 from (fl22.r ty21 rfl 6)) (fun ty186 re43 => ?_)
          rw [rq5] at re43
          have re44 : rvh23 a1 6 = rvh22 a1 6 := (fl23.r ty175 rfl 6)
          rw [re43] at re44
          refine c_getr (k := 6) C ck_10 dX3_gather_62 w2_193 (by decide) ty186 rfl rfl (by decide) rfl re44 ?_
          refine c_st (st2 := [.ref rb5, .ref (sk 25)]) rfl ?_
          refine c_iconst C dX3_gather_65 ?_
          have ty187 := xl23.ty ty182
          have ll4 : 4 ≤ lnh23 rb5 ∧ lnh23 rb5 ≤ 4 := W23.len ty187 rfl
          rcases W23.opt ty187 ((3 : Int).toNat) rfl rfl with ⟨nq7, _⟩ | ⟨nb7, nq7, tnb7⟩
          · refine c_aaldR C dX3_gather_66 ty187 rfl (by omega) (by omega) (by omega) nq7 ?_
            refine c_st (st2 := [.null, .ref (sk 25)]) rfl ?_
            have pl28 := Phi.le W23 sk21
            refine d_callS (As := [.ref (sk 25), .null]) (rest := []) C hM (C_addInd_25 (a0 := (sk 25)) (r := none) W23 sk21 ty184 (fun _ q => by cases q)  (by show ivh23 (sk 25) 2 < 6003; omega)) dX3_gather_67 kS_X3_67 rfl rfl (Nat.le_of_ble_eq_true rfl) ⟨(Nat.le_of_ble_eq_true rfl), (Nat.le_of_ble_eq_true rfl)⟩ hph pl28 (show 0 + 0 = 0 from rfl) (by decide) (fun rh24 Lh24 clh24 lnh24 ivh24 rvh24 h24 => ?_)
            obtain ⟨rfl, xl24, fl24, W24, exf24⟩ := h24
            refine hv10 (F23.call X21 fl24 rfl) (xl23.ty ty177) (xl23.ty ty178) (xl23.ty ty179) (xl23.ty ty180) (xl23.ty ty181) (xl23.ty ty173) (xl23.ty ty183) (X21.trans xl24) (xl24.skl sk21) (fun F24 ty188 ty189 ty190 ty191 ty192 ty193 ty194 X22 sk22 => ?_)
            refine c_st (st2 := []) rfl ?_
            refine hv2 (xl24.ty ty184) (show ivh23 (sk 25) 2 ≤ ivh24 (sk 25) 2 ∧ ivh24 (sk 25) 2 ≤ ivh23 (sk 25) 2 + 1 from exf24) (fun ty195 gf24 => ?_)
            have ri20 : 0 ≤ ivh24 (sk 25) 2 ∧ ivh24 (sk 25) 2 ≤ 6003 := W24.int ty195 2
            refine c_goto (tgt := 81) C dX3_gather_70 (by decide) ?_
            refine c_aload_n (j := 0) (x := a0) C dX3_gather_81 rfl ?_
            refine hv2 (xl24.ty ty185) (show rvh22 a0 0 = rvh6 a0 0 from (fl22.r ty20 rfl 0)) (fun ty196 re45 => ?_)
            rw [re9] at re45
            have re46 : rvh23 a0 0 = rvh22 a0 0 := (fl23.r ty174 rfl 0)
            rw [re45] at re46
            have re47 : rvh24 a0 0 = rvh23 a0 0 := (fl24.r ty185 rfl 0)
            rw [re46] at re47
            refine c_getr (k := 0) C ck_4 dX3_gather_82 w1_190 (by decide) ty196 rfl rfl (by decide) rfl re47 ?_
            refine c_st (st2 := [.ref (sk 24)]) rfl ?_
            refine c_aload_n (j := 0) (x := a0) C dX3_gather_85 rfl ?_
            obtain ⟨rb14, rq14, trb14⟩ := W24.ref ty196 2 rfl rfl rfl
            have erb14 := W24.sk trb14 (by decide) rfl
            subst erb14
            refine c_getr (k := 2) C ck_4 dX3_gather_86 w1_196 (by decide) ty196 rfl rfl (by decide) rfl rq14 ?_
            refine c_st (st2 := [.ref (sk 6), .ref (sk 24)]) rfl ?_
            refine hv3 (xl24.ty ty193) (xl24.ty ty188) (Phi.le W24 sk22) (fun ty197 ty198 pl29 => ?_)
            refine d_callS (As := [.ref (sk 24), .ref (sk 6)]) (rest := []) C hM (C_markBegins_24 (a0 := (sk 24)) (a1 := (sk 6)) W24 sk22 ty197 ty198  ) dX3_gather_89 kS_X3_73 rfl rfl (Nat.le_of_ble_eq_true rfl) ⟨(Nat.le_of_ble_eq_true rfl), (Nat.le_of_ble_eq_true rfl)⟩ hph pl29 (show 0 + 0 = 0 from rfl) (by decide) (fun rh25 Lh25 clh25 lnh25 ivh25 rvh25 h25 => ?_)
            obtain ⟨rfl, xl25, fl25, W25, exf25⟩ := h25
            refine hv10 (F24.call X22 fl25 rfl) (xl24.ty ty186) (xl24.ty ty189) (xl24.ty ty190) (xl24.ty ty191) (xl24.ty ty192) (xl24.ty ty187) (xl24.ty ty194) (X22.trans xl25) (xl25.skl sk22) (fun F25 ty199 ty200 ty201 ty202 ty203 ty204 ty205 X23 sk23 => ?_)
            refine c_st (st2 := []) rfl ?_
            refine c_aload_n (j := 0) (x := a0) C dX3_gather_92 rfl ?_
            refine hv2 (xl25.ty ty196) (show rvh24 a0 1 = rvh23 a0 1 from (fl24.r ty185 rfl 1)) (fun ty206 re48 => ?_)
            rw [re42] at re48
            have re49 : rvh25 a0 1 = rvh24 a0 1 := (fl25.r ty196 rfl 1)
            rw [re48] at re49
            refine c_getr (k := 1) C ck_4 dX3_gather_93 w1_193 (by decide) ty206 rfl rfl (by decide) rfl re49 ?_
            refine c_st (st2 := [.ref (sk 25)]) rfl ?_
            refine c_aload_n (j := 0) (x := a0) C dX3_gather_96 rfl ?_
            obtain ⟨rb15, rq15, trb15⟩ := W25.ref ty206 3 rfl rfl rfl
            have erb15 := W25.sk trb15 (by decide) rfl
            subst erb15
            refine c_getr (k := 3) C ck_4 dX3_gather_97 w1_197 (by decide) ty206 rfl rfl (by decide) rfl rq15 ?_
            refine c_st (st2 := [.ref (sk 7), .ref (sk 25)]) rfl ?_
            refine hv3 (xl25.ty ty195) (xl25.ty ty200) (Phi.le W25 sk23) (fun ty207 ty208 pl30 => ?_)
            refine d_callS (As := [.ref (sk 25), .ref (sk 7)]) (rest := []) C hM (C_markBegins_25 (a0 := (sk 25)) (a1 := (sk 7)) W25 sk23 ty207 ty208  ) dX3_gather_100 kS_X3_73 rfl rfl (Nat.le_of_ble_eq_true rfl) ⟨(Nat.le_of_ble_eq_true rfl), (Nat.le_of_ble_eq_true rfl)⟩ hph pl30 (show 0 + 0 = 0 from rfl) (by decide) (fun rh26 Lh26 clh26 lnh26 ivh26 rvh26 h26 => ?_)
            obtain ⟨rfl, xl26, fl26, W26, exf26⟩ := h26
            refine hv11 (F25.call X23 fl26 rfl) (xl25.ty ty199) (xl25.ty ty198) (xl25.ty ty201) (xl25.ty ty202) (xl25.ty ty203) (xl25.ty ty197) (xl25.ty ty204) (xl25.ty ty205) (X23.trans xl26) (xl26.skl sk23) (fun F26 ty209 ty210 ty211 ty212 ty213 ty214 ty215 ty216 X24 sk24 => ?_)
            refine c_st (st2 := []) rfl ?_
            have pl31 := Phi.le W26 sk24
            exact c_vret C dX3_gather_103 rfl (by decide) (rom0 hph pl31 (by decide)) ⟨rfl, X24, F26, W26, trivial⟩
          · have tnb7 : ty Lh23 clh23 nb7 20 := tnb7
            refine c_aaldR C dX3_gather_66 ty187 rfl (by omega) (by omega) (by omega) nq7 ?_
            refine c_st (st2 := [.ref nb7, .ref (sk 25)]) rfl ?_
            have pl32 := Phi.le W23 sk21
            refine d_callS (As := [.ref (sk 25), .ref nb7]) (rest := []) C hM (C_addInd_25 (a0 := (sk 25)) (r := (some nb7)) W23 sk21 ty184 (fun _ q => by cases q; exact tnb7)  (by show ivh23 (sk 25) 2 < 6003; omega)) dX3_gather_67 kS_X3_67 rfl rfl (Nat.le_of_ble_eq_true rfl) ⟨(Nat.le_of_ble_eq_true rfl), (Nat.le_of_ble_eq_true rfl)⟩ hph pl32 (show 0 + 0 = 0 from rfl) (by decide) (fun rh27 Lh27 clh27 lnh27 ivh27 rvh27 h27 => ?_)
            obtain ⟨rfl, xl27, fl27, W27, exf27⟩ := h27
            refine hv10 (F23.call X21 fl27 rfl) (xl23.ty ty177) (xl23.ty ty178) (xl23.ty ty179) (xl23.ty ty180) (xl23.ty ty181) (xl23.ty ty173) (xl23.ty ty183) (X21.trans xl27) (xl27.skl sk21) (fun F27 ty217 ty218 ty219 ty220 ty221 ty222 ty223 X25 sk25 => ?_)
            refine c_st (st2 := []) rfl ?_
            refine hv2 (xl27.ty ty184) (show ivh23 (sk 25) 2 ≤ ivh27 (sk 25) 2 ∧ ivh27 (sk 25) 2 ≤ ivh23 (sk 25) 2 + 1 from exf27) (fun ty224 gf27 => ?_)
            have ri21 : 0 ≤ ivh27 (sk 25) 2 ∧ ivh27 (sk 25) 2 ≤ 6003 := W27.int ty224 2
            refine c_goto (tgt := 81) C dX3_gather_70 (by decide) ?_
            refine c_aload_n (j := 0) (x := a0) C dX3_gather_81 rfl ?_
            refine hv2 (xl27.ty ty185) (show rvh22 a0 0 = rvh6 a0 0 from (fl22.r ty20 rfl 0)) (fun ty225 re50 => ?_)
            rw [re9] at re50
            have re51 : rvh23 a0 0 = rvh22 a0 0 := (fl23.r ty174 rfl 0)
            rw [re50] at re51
            have re52 : rvh27 a0 0 = rvh23 a0 0 := (fl27.r ty185 rfl 0)
            rw [re51] at re52
            refine c_getr (k := 0) C ck_4 dX3_gather_82 w1_190 (by decide) ty225 rfl rfl (by decide) rfl re52 ?_
            refine c_st (st2 := [.ref (sk 24)]) rfl ?_
            refine c_aload_n (j := 0) (x := a0) C dX3_gather_85 rfl ?_
            obtain ⟨rb16, rq16, trb16⟩ := W27.ref ty225 2 rfl rfl rfl
            have erb16 := W27.sk trb16 (by decide) rfl
            subst erb16
            refine c_getr (k := 2) C ck_4 dX3_gather_86 w1_196 (by decide) ty225 rfl rfl (by decide) rfl rq16 ?_
            refine c_st (st2 := [.ref (sk 6), .ref (sk 24)]) rfl ?_
            refine hv3 (xl27.ty ty222) (xl27.ty ty217) (Phi.le W27 sk25) (fun ty226 ty227 pl33 => ?_)
            refine d_callS (As := [.ref (sk 24), .ref (sk 6)]) (rest := []) C hM (C_markBegins_24 (a0 := (sk 24)) (a1 := (sk 6)) W27 sk25 ty226 ty227  ) dX3_gather_89 kS_X3_73 rfl rfl (Nat.le_of_ble_eq_true rfl) ⟨(Nat.le_of_ble_eq_true rfl), (Nat.le_of_ble_eq_true rfl)⟩ hph pl33 (show 0 + 0 = 0 from rfl) (by decide) (fun rh28 Lh28 clh28 lnh28 ivh28 rvh28 h28 => ?_)
            obtain ⟨rfl, xl28, fl28, W28, exf28⟩ := h28
            refine hv11 (F27.call X25 fl28 rfl) (xl27.ty ty186) (xl27.ty ty218) (xl27.ty ty219) (xl27.ty ty220) (xl27.ty ty221) (xl27.ty ty187) (xl27.ty ty223) (xl27.ty tnb7) (X25.trans xl28) (xl28.skl sk25) (fun F28 ty228 ty229 ty230 ty231 ty232 ty233 ty234 ty235 X26 sk26 => ?_)
            refine c_st (st2 := []) rfl ?_
            refine c_aload_n (j := 0) (x := a0) C dX3_gather_92 rfl ?_
            refine hv2 (xl28.ty ty225) (show rvh27 a0 1 = rvh23 a0 1 from (fl27.r ty185 rfl 1)) (fun ty236 re53 => ?_)
            rw [re42] at re53
            have re54 : rvh28 a0 1 = rvh27 a0 1 := (fl28.r ty225 rfl 1)
            rw [re53] at re54
            refine c_getr (k := 1) C ck_4 dX3_gather_93 w1_193 (by decide) ty236 rfl rfl (by decide) rfl re54 ?_
            refine c_st (st2 := [.ref (sk 25)]) rfl ?_
            refine c_aload_n (j := 0) (x := a0) C dX3_gather_96 rfl ?_
            obtain ⟨rb17, rq17, trb17⟩ := W28.ref ty236 3 rfl rfl rfl
            have erb17 := W28.sk trb17 (by decide) rfl
            subst erb17
            refine c_getr (k := 3) C ck_4 dX3_gather_97 w1_197 (by decide) ty236 rfl rfl (by decide) rfl rq17 ?_
            refine c_st (st2 := [.ref (sk 7), .ref (sk 25)]) rfl ?_
            refine hv3 (xl28.ty ty224) (xl28.ty ty229) (Phi.le W28 sk26) (fun ty237 ty238 pl34 => ?_)
            refine d_callS (As := [.ref (sk 25), .ref (sk 7)]) (rest := []) C hM (C_markBegins_25 (a0 := (sk 25)) (a1 := (sk 7)) W28 sk26 ty237 ty238  ) dX3_gather_100 kS_X3_73 rfl rfl (Nat.le_of_ble_eq_true rfl) ⟨(Nat.le_of_ble_eq_true rfl), (Nat.le_of_ble_eq_true rfl)⟩ hph pl34 (show 0 + 0 = 0 from rfl) (by decide) (fun rh29 Lh29 clh29 lnh29 ivh29 rvh29 h29 => ?_)
            obtain ⟨rfl, xl29, fl29, W29, exf29⟩ := h29
            refine hv12 (F28.call X26 fl29 rfl) (xl28.ty ty228) (xl28.ty ty227) (xl28.ty ty230) (xl28.ty ty231) (xl28.ty ty232) (xl28.ty ty226) (xl28.ty ty233) (xl28.ty ty234) (xl28.ty ty235) (X26.trans xl29) (xl29.skl sk26) (fun F29 ty239 ty240 ty241 ty242 ty243 ty244 ty245 ty246 ty247 X27 sk27 => ?_)
            refine c_st (st2 := []) rfl ?_
            have pl35 := Phi.le W29 sk27
            exact c_vret C dX3_gather_103 rfl (by decide) (rom0 hph pl35 (by decide)) ⟨rfl, X27, F29, W29, trivial⟩
        · have rknb6 := W22.rank ty175 (k := 3) (by decide) nq6
          refine c_getr (k := 3) C ck_10 dX3_gather_51 w2_184 (by decide) ty175 rfl rfl (by decide) rfl nq6 ?_
          refine c_st (st2 := [.ref nb6, .ref (sk 25)]) rfl ?_
          refine hv4 (xl22.ty ty172) (show ivh22 (sk 25) 2 = ivh6 (sk 25) 2 from fl22.i ty172 rfl 2) (show ivh6 (sk 25) 2 = ivh2 (sk 25) 2 from fl6.i tsk25 rfl 2) (Phi.le W22 sk20) (fun ty248 ie26 ie27 pl36 => ?_)
          have ri22 : 0 ≤ ivh22 (sk 25) 2 ∧ ivh22 (sk 25) 2 ≤ 6003 := W22.int ty248 2
          refine d_callS (As := [.ref (sk 25), .ref nb6]) (rest := []) C hM (C_gatherPart_25 (a0 := (sk 25)) (r := (some nb6)) W22 sk20 ty248 (fun _ q => by cases q; exact tnb6)  (by show ivh22 (sk 25) 2 = 0; omega)) dX3_gather_54 kS_X3_59 rfl rfl (Nat.le_of_ble_eq_true rfl) ⟨(Nat.le_of_ble_eq_true rfl), (Nat.le_of_ble_eq_true rfl)⟩ hph pl36 (show 0 + 0 = 0 from rfl) (by decide) (fun rh30 Lh30 clh30 lnh30 ivh30 rvh30 h30 => ?_)
          obtain ⟨rfl, xl30, fl30, W30, exf30⟩ := h30
          refine hv10 (F22.call X20 fl30 rfl) (xl22.ty ty167) (xl22.ty ty168) (xl22.ty ty169) (xl22.ty ty170) (xl22.ty ty171) (xl22.ty trb5) (xl22.ty tnb2) (X20.trans xl30) (xl30.skl sk20) (fun F30 ty249 ty250 ty251 ty252 ty253 ty254 ty255 X28 sk28 => ?_)
          refine c_st (st2 := []) rfl ?_
          refine hv2 (xl30.ty ty248) (show ivh30 (sk 25) 2 ≤ 6002 from exf30) (fun ty256 gf30 => ?_)
          have ri23 : 0 ≤ ivh30 (sk 25) 2 ∧ ivh30 (sk 25) 2 ≤ 6003 := W30.int ty256 2
          refine c_aload_n (j := 0) (x := a0) C dX3_gather_57 rfl ?_
          refine hv2 (xl30.ty ty174) (show rvh30 a0 1 = rvh22 a0 1 from (fl30.r ty174 rfl 1)) (fun ty257 re55 => ?_)
          rw [re41] at re55
          refine c_getr (k := 1) C ck_4 dX3_gather_58 w1_193 (by decide) ty257 rfl rfl (by decide) rfl re55 ?_
          refine c_st (st2 := [.ref (sk 25)]) rfl ?_
          refine c_aload_n (j := 1) (x := a1) C dX3_gather_61 rfl ?_
          refine hv2 (xl30.ty ty175) (show rvh22 a1 6 = rvh6 a1 6 from (fl22.r ty21 rfl 6)) (fun ty258 re56 => ?_)
          rw [rq5] at re56
          have re57 : rvh30 a1 6 = rvh22 a1 6 := (fl30.r ty175 rfl 6)
          rw [re56] at re57
          refine c_getr (k := 6) C ck_10 dX3_gather_62 w2_193 (by decide) ty258 rfl rfl (by decide) rfl re57 ?_
          refine c_st (st2 := [.ref rb5, .ref (sk 25)]) rfl ?_
          refine c_iconst C dX3_gather_65 ?_
          have ty259 := xl30.ty ty254
          have ll5 : 4 ≤ lnh30 rb5 ∧ lnh30 rb5 ≤ 4 := W30.len ty259 rfl
          rcases W30.opt ty259 ((3 : Int).toNat) rfl rfl with ⟨nq8, _⟩ | ⟨nb8, nq8, tnb8⟩
          · refine c_aaldR C dX3_gather_66 ty259 rfl (by omega) (by omega) (by omega) nq8 ?_
            refine c_st (st2 := [.null, .ref (sk 25)]) rfl ?_
            have pl37 := Phi.le W30 sk28
            refine d_callS (As := [.ref (sk 25), .null]) (rest := []) C hM (C_addInd_25 (a0 := (sk 25)) (r := none) W30 sk28 ty256 (fun _ q => by cases q)  (by show ivh30 (sk 25) 2 < 6003; omega)) dX3_gather_67 kS_X3_67 rfl rfl (Nat.le_of_ble_eq_true rfl) ⟨(Nat.le_of_ble_eq_true rfl), (Nat.le_of_ble_eq_true rfl)⟩ hph pl37 (show 0 + 0 = 0 from rfl) (by decide) (fun rh31 Lh31 clh31 lnh31 ivh31 rvh31 h31 => ?_)
            obtain ⟨rfl, xl31, fl31, W31, exf31⟩ := h31
            refine hv11 (F30.call X28 fl31 rfl) (xl30.ty ty249) (xl30.ty ty250) (xl30.ty ty251) (xl30.ty ty252) (xl30.ty ty253) (xl30.ty ty173) (xl30.ty ty255) (xl30.ty tnb6) (X28.trans xl31) (xl31.skl sk28) (fun F31 ty260 ty261 ty262 ty263 ty264 ty265 ty266 ty267 X29 sk29 => ?_)
            refine c_st (st2 := []) rfl ?_
            refine hv2 (xl31.ty ty256) (show ivh30 (sk 25) 2 ≤ ivh31 (sk 25) 2 ∧ ivh31 (sk 25) 2 ≤ ivh30 (sk 25) 2 + 1 from exf31) (fun ty268 gf31 => ?_)
            have ri24 : 0 ≤ ivh31 (sk 25) 2 ∧ ivh31 (sk 25) 2 ≤ 6003 := W31.int ty268 2
            refine c_goto (tgt := 81) C dX3_gather_70 (by decide) ?_
            refine c_aload_n (j := 0) (x := a0) C dX3_gather_81 rfl ?_
            refine hv2 (xl31.ty ty257) (show rvh22 a0 0 = rvh6 a0 0 from (fl22.r ty20 rfl 0)) (fun ty269 re58 => ?_)
            rw [re9] at re58
            have re59 : rvh30 a0 0 = rvh22 a0 0 := (fl30.r ty174 rfl 0)
            rw [re58] at re59
            have re60 : rvh31 a0 0 = rvh30 a0 0 := (fl31.r ty257 rfl 0)
            rw [re59] at re60
            refine c_getr (k := 0) C ck_4 dX3_gather_82 w1_190 (by decide) ty269 rfl rfl (by decide) rfl re60 ?_
            refine c_st (st2 := [.ref (sk 24)]) rfl ?_
            refine c_aload_n (j := 0) (x := a0) C dX3_gather_85 rfl ?_
            obtain ⟨rb18, rq18, trb18⟩ := W31.ref ty269 2 rfl rfl rfl
            have erb18 := W31.sk trb18 (by decide) rfl
            subst erb18
            refine c_getr (k := 2) C ck_4 dX3_gather_86 w1_196 (by decide) ty269 rfl rfl (by decide) rfl rq18 ?_
            refine c_st (st2 := [.ref (sk 6), .ref (sk 24)]) rfl ?_
            refine hv3 (xl31.ty ty265) (xl31.ty ty260) (Phi.le W31 sk29) (fun ty270 ty271 pl38 => ?_)
            refine d_callS (As := [.ref (sk 24), .ref (sk 6)]) (rest := []) C hM (C_markBegins_24 (a0 := (sk 24)) (a1 := (sk 6)) W31 sk29 ty270 ty271  ) dX3_gather_89 kS_X3_73 rfl rfl (Nat.le_of_ble_eq_true rfl) ⟨(Nat.le_of_ble_eq_true rfl), (Nat.le_of_ble_eq_true rfl)⟩ hph pl38 (show 0 + 0 = 0 from rfl) (by decide) (fun rh32 Lh32 clh32 lnh32 ivh32 rvh32 h32 => ?_)
            obtain ⟨rfl, xl32, fl32, W32, exf32⟩ := h32
            refine hv11 (F31.call X29 fl32 rfl) (xl31.ty ty258) (xl31.ty ty261) (xl31.ty ty262) (xl31.ty ty263) (xl31.ty ty264) (xl31.ty ty259) (xl31.ty ty266) (xl31.ty ty267) (X29.trans xl32) (xl32.skl sk29) (fun F32 ty272 ty273 ty274 ty275 ty276 ty277 ty278 ty279 X30 sk30 => ?_)
            refine c_st (st2 := []) rfl ?_
            refine c_aload_n (j := 0) (x := a0) C dX3_gather_92 rfl ?_
            refine hv2 (xl32.ty ty269) (show rvh31 a0 1 = rvh30 a0 1 from (fl31.r ty257 rfl 1)) (fun ty280 re61 => ?_)
            rw [re55] at re61
            have re62 : rvh32 a0 1 = rvh31 a0 1 := (fl32.r ty269 rfl 1)
            rw [re61] at re62
            refine c_getr (k := 1) C ck_4 dX3_gather_93 w1_193 (by decide) ty280 rfl rfl (by decide) rfl re62 ?_
            refine c_st (st2 := [.ref (sk 25)]) rfl ?_
            refine c_aload_n (j := 0) (x := a0) C dX3_gather_96 rfl ?_
            obtain ⟨rb19, rq19, trb19⟩ := W32.ref ty280 3 rfl rfl rfl
            have erb19 := W32.sk trb19 (by decide) rfl
            subst erb19
            refine c_getr (k := 3) C ck_4 dX3_gather_97 w1_197 (by decide) ty280 rfl rfl (by decide) rfl rq19 ?_
            refine c_st (st2 := [.ref (sk 7), .ref (sk 25)]) rfl ?_
            refine hv3 (xl32.ty ty268) (xl32.ty ty273) (Phi.le W32 sk30) (fun ty281 ty282 pl39 => ?_)
            refine d_callS (As := [.ref (sk 25), .ref (sk 7)]) (rest := []) C hM (C_markBegins_25 (a0 := (sk 25)) (a1 := (sk 7)) W32 sk30 ty281 ty282  ) dX3_gather_100 kS_X3_73 rfl rfl (Nat.le_of_ble_eq_true rfl) ⟨(Nat.le_of_ble_eq_true rfl), (Nat.le_of_ble_eq_true rfl)⟩ hph pl39 (show 0 + 0 = 0 from rfl) (by decide) (fun rh33 Lh33 clh33 lnh33 ivh33 rvh33 h33 => ?_)
            obtain ⟨rfl, xl33, fl33, W33, exf33⟩ := h33
            refine hv12 (F32.call X30 fl33 rfl) (xl32.ty ty272) (xl32.ty ty271) (xl32.ty ty274) (xl32.ty ty275) (xl32.ty ty276) (xl32.ty ty270) (xl32.ty ty277) (xl32.ty ty278) (xl32.ty ty279) (X30.trans xl33) (xl33.skl sk30) (fun F33 ty283 ty284 ty285 ty286 ty287 ty288 ty289 ty290 ty291 X31 sk31 => ?_)
            refine c_st (st2 := []) rfl ?_
            have pl40 := Phi.le W33 sk31
            exact c_vret C dX3_gather_103 rfl (by decide) (rom0 hph pl40 (by decide)) ⟨rfl, X31, F33, W33, trivial⟩
          · have tnb8 : ty Lh30 clh30 nb8 20 := tnb8
            refine c_aaldR C dX3_gather_66 ty259 rfl (by omega) (by omega) (by omega) nq8 ?_
            refine c_st (st2 := [.ref nb8, .ref (sk 25)]) rfl ?_
            have pl41 := Phi.le W30 sk28
            refine d_callS (As := [.ref (sk 25), .ref nb8]) (rest := []) C hM (C_addInd_25 (a0 := (sk 25)) (r := (some nb8)) W30 sk28 ty256 (fun _ q => by cases q; exact tnb8)  (by show ivh30 (sk 25) 2 < 6003; omega)) dX3_gather_67 kS_X3_67 rfl rfl (Nat.le_of_ble_eq_true rfl) ⟨(Nat.le_of_ble_eq_true rfl), (Nat.le_of_ble_eq_true rfl)⟩ hph pl41 (show 0 + 0 = 0 from rfl) (by decide) (fun rh34 Lh34 clh34 lnh34 ivh34 rvh34 h34 => ?_)
            obtain ⟨rfl, xl34, fl34, W34, exf34⟩ := h34
            refine hv11 (F30.call X28 fl34 rfl) (xl30.ty ty249) (xl30.ty ty250) (xl30.ty ty251) (xl30.ty ty252) (xl30.ty ty253) (xl30.ty ty173) (xl30.ty ty255) (xl30.ty tnb6) (X28.trans xl34) (xl34.skl sk28) (fun F34 ty292 ty293 ty294 ty295 ty296 ty297 ty298 ty299 X32 sk32 => ?_)
            refine c_st (st2 := []) rfl ?_
            refine hv2 (xl34.ty ty256) (show ivh30 (sk 25) 2 ≤ ivh34 (sk 25) 2 ∧ ivh34 (sk 25) 2 ≤ ivh30 (sk 25) 2 + 1 from exf34) (fun ty300 gf34 => ?_)
            have ri25 : 0 ≤ ivh34 (sk 25) 2 ∧ ivh34 (sk 25) 2 ≤ 6003 := W34.int ty300 2
            refine c_goto (tgt := 81) C dX3_gather_70 (by decide) ?_
            refine c_aload_n (j := 0) (x := a0) C dX3_gather_81 rfl ?_
            refine hv2 (xl34.ty ty257) (show rvh22 a0 0 = rvh6 a0 0 from (fl22.r ty20 rfl 0)) (fun ty301 re63 => ?_)
            rw [re9] at re63
            have re64 : rvh30 a0 0 = rvh22 a0 0 := (fl30.r ty174 rfl 0)
            rw [re63] at re64
            have re65 : rvh34 a0 0 = rvh30 a0 0 := (fl34.r ty257 rfl 0)
            rw [re64] at re65
            refine c_getr (k := 0) C ck_4 dX3_gather_82 w1_190 (by decide) ty301 rfl rfl (by decide) rfl re65 ?_
            refine c_st (st2 := [.ref (sk 24)]) rfl ?_
            refine c_aload_n (j := 0) (x := a0) C dX3_gather_85 rfl ?_
            obtain ⟨rb20, rq20, trb20⟩ := W34.ref ty301 2 rfl rfl rfl
            have erb20 := W34.sk trb20 (by decide) rfl
            subst erb20
            refine c_getr (k := 2) C ck_4 dX3_gather_86 w1_196 (by decide) ty301 rfl rfl (by decide) rfl rq20 ?_
            refine c_st (st2 := [.ref (sk 6), .ref (sk 24)]) rfl ?_
            refine hv3 (xl34.ty ty297) (xl34.ty ty292) (Phi.le W34 sk32) (fun ty302 ty303 pl42 => ?_)
            refine d_callS (As := [.ref (sk 24), .ref (sk 6)]) (rest := []) C hM (C_markBegins_24 (a0 := (sk 24)) (a1 := (sk 6)) W34 sk32 ty302 ty303  ) dX3_gather_89 kS_X3_73 rfl rfl (Nat.le_of_ble_eq_true rfl) ⟨(Nat.le_of_ble_eq_true rfl), (Nat.le_of_ble_eq_true rfl)⟩ hph pl42 (show 0 + 0 = 0 from rfl) (by decide) (fun rh35 Lh35 clh35 lnh35 ivh35 rvh35 h35 => ?_)
            obtain ⟨rfl, xl35, fl35, W35, exf35⟩ := h35
            refine hv12 (F34.call X32 fl35 rfl) (xl34.ty ty258) (xl34.ty ty293) (xl34.ty ty294) (xl34.ty ty295) (xl34.ty ty296) (xl34.ty ty259) (xl34.ty ty298) (xl34.ty ty299) (xl34.ty tnb8) (X32.trans xl35) (xl35.skl sk32) (fun F35 ty304 ty305 ty306 ty307 ty308 ty309 ty310 ty311 ty312 X33 sk33 => ?_)
            refine c_st (st2 := []) rfl ?_
            refine c_aload_n (j := 0) (x := a0) C dX3_gather_92 rfl ?_
            refine hv2 (xl35.ty ty301) (show rvh34 a0 1 = rvh30 a0 1 from (fl34.r ty257 rfl 1)) (fun ty313 re66 => ?_)
            rw [re55] at re66
            have re67 : rvh35 a0 1 = rvh34 a0 1 := (fl35.r ty301 rfl 1)
            rw [re66] at re67
            refine c_getr (k := 1) C ck_4 dX3_gather_93 w1_193 (by decide) ty313 rfl rfl (by decide) rfl re67 ?_
            refine c_st (st2 := [.ref (sk 25)]) rfl ?_
            refine c_aload_n (j := 0) (x := a0) C dX3_gather_96 rfl ?_
            obtain ⟨rb21, rq21, trb21⟩ := W35.ref ty313 3 rfl rfl rfl
            have erb21 := W35.sk trb21 (by decide) rfl
            subst erb21
            refine c_getr (k := 3) C ck_4 dX3_gather_97 w1_197 (by decide) ty313 rfl rfl (by decide) rfl rq21 ?_
            refine c_st (st2 := [.ref (sk 7), .ref (sk 25)]) rfl ?_
            refine hv3 (xl35.ty ty300) (xl35.ty ty305) (Phi.le W35 sk33) (fun ty314 ty315 pl43 => ?_)
            refine d_callS (As := [.ref (sk 25), .ref (sk 7)]) (rest := []) C hM (C_markBegins_25 (a0 := (sk 25)) (a1 := (sk 7)) W35 sk33 ty314 ty315  ) dX3_gather_100 kS_X3_73 rfl rfl (Nat.le_of_ble_eq_true rfl) ⟨(Nat.le_of_ble_eq_true rfl), (Nat.le_of_ble_eq_true rfl)⟩ hph pl43 (show 0 + 0 = 0 from rfl) (by decide) (fun rh36 Lh36 clh36 lnh36 ivh36 rvh36 h36 => ?_)
            obtain ⟨rfl, xl36, fl36, W36, exf36⟩ := h36
            refine hv13 (F35.call X33 fl36 rfl) (xl35.ty ty304) (xl35.ty ty303) (xl35.ty ty306) (xl35.ty ty307) (xl35.ty ty308) (xl35.ty ty302) (xl35.ty ty309) (xl35.ty ty310) (xl35.ty ty311) (xl35.ty ty312) (X33.trans xl36) (xl36.skl sk33) (fun F36 ty316 ty317 ty318 ty319 ty320 ty321 ty322 ty323 ty324 ty325 X34 sk34 => ?_)
            refine c_st (st2 := []) rfl ?_
            have pl44 := Phi.le W36 sk34
            exact c_vret C dX3_gather_103 rfl (by decide) (rom0 hph pl44 (by decide)) ⟨rfl, X34, F36, W36, trivial⟩
    · have rknb1 := W2.rank t_a1 (k := 2) (by decide) nq1
      refine c_getr (k := 2) C ck_10 dX3_gather_27 w2_181 (by decide) t_a1 rfl rfl (by decide) rfl nq1 ?_
      refine c_st (st2 := [.ref nb1, .ref (sk 24)]) rfl ?_
      refine hv3 (show 0 ≤ ivh2 (sk 24) 2 ∧ ivh2 (sk 24) 2 ≤ 6003 from W2.int tsk24 2) (show ivh2 (sk 24) 2 = ivh1 (sk 24) 2 from fl2.i tsk24 rfl 2) (Phi.le W2 hS) (fun ri26 ie31 pl45 => ?_)
      refine d_callS (As := [.ref (sk 24), .ref nb1]) (rest := []) C hM (C_gatherPart_24 (a0 := (sk 24)) (r := (some nb1)) W2 hS tsk24 (fun _ q => by cases q; exact tnb1)  (by show ivh2 (sk 24) 2 = 0; omega)) dX3_gather_30 kS_X3_59 rfl rfl (Nat.le_of_ble_eq_true rfl) ⟨(Nat.le_of_ble_eq_true rfl), (Nat.le_of_ble_eq_true rfl)⟩ hph pl45 (show 0 + 0 = 0 from rfl) (by decide) (fun rh37 Lh37 clh37 lnh37 ivh37 rvh37 h37 => ?_)
      obtain ⟨rfl, xl37, fl37, W37, exf37⟩ := h37
      refine hv3 (F2.call hX0 fl37 rfl) (hX0.trans xl37) (xl37.skl hS) (fun F37 X35 sk35 => ?_)
      refine c_st (st2 := []) rfl ?_
      refine hv2 (xl37.ty tsk24) (show ivh37 (sk 24) 2 ≤ 6002 from exf37) (fun ty326 gf37 => ?_)
      have ri27 : 0 ≤ ivh37 (sk 24) 2 ∧ ivh37 (sk 24) 2 ≤ 6003 := W37.int ty326 2
      refine c_aload_n (j := 0) (x := a0) C dX3_gather_33 rfl ?_
      refine hv2 (xl37.ty t_a0) (show rvh37 a0 0 = rvh2 a0 0 from (fl37.r t_a0 rfl 0)) (fun ty327 re68 => ?_)
      rw [re8] at re68
      refine c_getr (k := 0) C ck_4 dX3_gather_34 w1_190 (by decide) ty327 rfl rfl (by decide) rfl re68 ?_
      refine c_st (st2 := [.ref (sk 24)]) rfl ?_
      refine c_aload_n (j := 1) (x := a1) C dX3_gather_37 rfl ?_
      have ty328 := xl37.ty t_a1
      obtain ⟨rb22, rq22, trb22⟩ := W37.ref ty328 6 rfl rfl rfl
      have lnrb22 : 4 ≤ lnh37 rb22 ∧ lnh37 rb22 ≤ 4 := W37.len trb22 rfl
      refine c_getr (k := 6) C ck_10 dX3_gather_38 w2_193 (by decide) ty328 rfl rfl (by decide) rfl rq22 ?_
      refine c_st (st2 := [.ref rb22, .ref (sk 24)]) rfl ?_
      refine c_iconst C dX3_gather_41 ?_
      have ll6 : 4 ≤ lnh37 rb22 ∧ lnh37 rb22 ≤ 4 := W37.len trb22 rfl
      rcases W37.opt trb22 ((2 : Int).toNat) rfl rfl with ⟨nq9, _⟩ | ⟨nb9, nq9, tnb9⟩
      · refine c_aaldR C dX3_gather_42 trb22 rfl (by omega) (by omega) (by omega) nq9 ?_
        refine c_st (st2 := [.null, .ref (sk 24)]) rfl ?_
        have pl46 := Phi.le W37 sk35
        refine d_callS (As := [.ref (sk 24), .null]) (rest := []) C hM (C_addInd_24 (a0 := (sk 24)) (r := none) W37 sk35 ty326 (fun _ q => by cases q)  (by show ivh37 (sk 24) 2 < 6003; omega)) dX3_gather_43 kS_X3_67 rfl rfl (Nat.le_of_ble_eq_true rfl) ⟨(Nat.le_of_ble_eq_true rfl), (Nat.le_of_ble_eq_true rfl)⟩ hph pl46 (show 0 + 0 = 0 from rfl) (by decide) (fun rh38 Lh38 clh38 lnh38 ivh38 rvh38 h38 => ?_)
        obtain ⟨rfl, xl38, fl38, W38, exf38⟩ := h38
        refine hv10 (F37.call X35 fl38 rfl) (xl37.ty tsk6) (xl37.ty tsk7) (xl37.ty tsk8) (xl37.ty tsk9) (xl37.ty tsk10) (xl37.ty tsk25) (xl37.ty tnb1) (X35.trans xl38) (xl38.skl sk35) (fun F38 ty329 ty330 ty331 ty332 ty333 ty334 ty335 X36 sk36 => ?_)
        refine c_st (st2 := []) rfl ?_
        refine hv2 (xl38.ty ty326) (show ivh37 (sk 24) 2 ≤ ivh38 (sk 24) 2 ∧ ivh38 (sk 24) 2 ≤ ivh37 (sk 24) 2 + 1 from exf38) (fun ty336 gf38 => ?_)
        have ri28 : 0 ≤ ivh38 (sk 24) 2 ∧ ivh38 (sk 24) 2 ≤ 6003 := W38.int ty336 2
        refine c_aload_n (j := 0) (x := a0) C dX3_gather_46 rfl ?_
        refine hv2 (xl38.ty ty327) (show rvh2 a0 1 = rvh1 a0 1 from (fl2.r t_a0 rfl 1)) (fun ty337 re69 => ?_)
        rw [rq2] at re69
        have re70 : rvh37 a0 1 = rvh2 a0 1 := (fl37.r t_a0 rfl 1)
        rw [re69] at re70
        have re71 : rvh38 a0 1 = rvh37 a0 1 := (fl38.r ty327 rfl 1)
        rw [re70] at re71
        refine c_getr (k := 1) C ck_4 dX3_gather_47 w1_193 (by decide) ty337 rfl rfl (by decide) rfl re71 ?_
        refine c_st (st2 := [.ref (sk 25)]) rfl ?_
        refine c_aload_n (j := 1) (x := a1) C dX3_gather_50 rfl ?_
        have ty338 := xl38.ty ty328
        rcases W38.opt ty338 3 rfl rfl with ⟨nq10, _⟩ | ⟨nb10, nq10, tnb10⟩
        · refine c_getr (k := 3) C ck_10 dX3_gather_51 w2_184 (by decide) ty338 rfl rfl (by decide) rfl nq10 ?_
          refine c_st (st2 := [.null, .ref (sk 25)]) rfl ?_
          refine hv4 (xl38.ty ty334) (show ivh38 (sk 25) 2 = ivh37 (sk 25) 2 from fl38.i ty334 rfl 2) (show ivh37 (sk 25) 2 = ivh2 (sk 25) 2 from fl37.i tsk25 rfl 2) (Phi.le W38 sk36) (fun ty339 ie34 ie35 pl47 => ?_)
          have ri29 : 0 ≤ ivh38 (sk 25) 2 ∧ ivh38 (sk 25) 2 ≤ 6003 := W38.int ty339 2
          refine d_callS (As := [.ref (sk 25), .null]) (rest := []) C hM (C_gatherPart_25 (a0 := (sk 25)) (r := none) W38 sk36 ty339 (fun _ q => by cases q)  (by show ivh38 (sk 25) 2 = 0; omega)) dX3_gather_54 kS_X3_59 rfl rfl (Nat.le_of_ble_eq_true rfl) ⟨(Nat.le_of_ble_eq_true rfl), (Nat.le_of_ble_eq_true rfl)⟩ hph pl47 (show 0 + 0 = 0 from rfl) (by decide) (fun rh39 Lh39 clh39 lnh39 ivh39 rvh39 h39 => ?_)
          obtain ⟨rfl, xl39, fl39, W39, exf39⟩ := h39
          refine hv10 (F38.call X36 fl39 rfl) (xl38.ty ty329) (xl38.ty ty330) (xl38.ty ty331) (xl38.ty ty332) (xl38.ty ty333) (xl38.ty ty335) (xl38.ty trb22) (X36.trans xl39) (xl39.skl sk36) (fun F39 ty340 ty341 ty342 ty343 ty344 ty345 ty346 X37 sk37 => ?_)
          refine c_st (st2 := []) rfl ?_
          refine hv2 (xl39.ty ty339) (show ivh39 (sk 25) 2 ≤ 6002 from exf39) (fun ty347 gf39 => ?_)
          have ri30 : 0 ≤ ivh39 (sk 25) 2 ∧ ivh39 (sk 25) 2 ≤ 6003 := W39.int ty347 2
          refine c_aload_n (j := 0) (x := a0) C dX3_gather_57 rfl ?_
          refine hv2 (xl39.ty ty337) (show rvh39 a0 1 = rvh38 a0 1 from (fl39.r ty337 rfl 1)) (fun ty348 re72 => ?_)
          rw [re71] at re72
          refine c_getr (k := 1) C ck_4 dX3_gather_58 w1_193 (by decide) ty348 rfl rfl (by decide) rfl re72 ?_
          refine c_st (st2 := [.ref (sk 25)]) rfl ?_
          refine c_aload_n (j := 1) (x := a1) C dX3_gather_61 rfl ?_
          refine hv2 (xl39.ty ty338) (show rvh38 a1 6 = rvh37 a1 6 from (fl38.r ty328 rfl 6)) (fun ty349 re73 => ?_)
          rw [rq22] at re73
          have re74 : rvh39 a1 6 = rvh38 a1 6 := (fl39.r ty338 rfl 6)
          rw [re73] at re74
          refine c_getr (k := 6) C ck_10 dX3_gather_62 w2_193 (by decide) ty349 rfl rfl (by decide) rfl re74 ?_
          refine c_st (st2 := [.ref rb22, .ref (sk 25)]) rfl ?_
          refine c_iconst C dX3_gather_65 ?_
          have ty350 := xl39.ty ty346
          have ll7 : 4 ≤ lnh39 rb22 ∧ lnh39 rb22 ≤ 4 := W39.len ty350 rfl
          rcases W39.opt ty350 ((3 : Int).toNat) rfl rfl with ⟨nq11, _⟩ | ⟨nb11, nq11, tnb11⟩
          · refine c_aaldR C dX3_gather_66 ty350 rfl (by omega) (by omega) (by omega) nq11 ?_
            refine c_st (st2 := [.null, .ref (sk 25)]) rfl ?_
            have pl48 := Phi.le W39 sk37
            refine d_callS (As := [.ref (sk 25), .null]) (rest := []) C hM (C_addInd_25 (a0 := (sk 25)) (r := none) W39 sk37 ty347 (fun _ q => by cases q)  (by show ivh39 (sk 25) 2 < 6003; omega)) dX3_gather_67 kS_X3_67 rfl rfl (Nat.le_of_ble_eq_true rfl) ⟨(Nat.le_of_ble_eq_true rfl), (Nat.le_of_ble_eq_true rfl)⟩ hph pl48 (show 0 + 0 = 0 from rfl) (by decide) (fun rh40 Lh40 clh40 lnh40 ivh40 rvh40 h40 => ?_)
            obtain ⟨rfl, xl40, fl40, W40, exf40⟩ := h40
            refine hv10 (F39.call X37 fl40 rfl) (xl39.ty ty340) (xl39.ty ty341) (xl39.ty ty342) (xl39.ty ty343) (xl39.ty ty344) (xl39.ty ty336) (xl39.ty ty345) (X37.trans xl40) (xl40.skl sk37) (fun F40 ty351 ty352 ty353 ty354 ty355 ty356 ty357 X38 sk38 => ?_)
            refine c_st (st2 := []) rfl ?_
            refine hv2 (xl40.ty ty347) (show ivh39 (sk 25) 2 ≤ ivh40 (sk 25) 2 ∧ ivh40 (sk 25) 2 ≤ ivh39 (sk 25) 2 + 1 from exf40) (fun ty358 gf40 => ?_)
            have ri31 : 0 ≤ ivh40 (sk 25) 2 ∧ ivh40 (sk 25) 2 ≤ 6003 := W40.int ty358 2
            refine c_goto (tgt := 81) C dX3_gather_70 (by decide) ?_
            refine c_aload_n (j := 0) (x := a0) C dX3_gather_81 rfl ?_
            refine hv2 (xl40.ty ty348) (show rvh38 a0 0 = rvh37 a0 0 from (fl38.r ty327 rfl 0)) (fun ty359 re75 => ?_)
            rw [re68] at re75
            have re76 : rvh39 a0 0 = rvh38 a0 0 := (fl39.r ty337 rfl 0)
            rw [re75] at re76
            have re77 : rvh40 a0 0 = rvh39 a0 0 := (fl40.r ty348 rfl 0)
            rw [re76] at re77
            refine c_getr (k := 0) C ck_4 dX3_gather_82 w1_190 (by decide) ty359 rfl rfl (by decide) rfl re77 ?_
            refine c_st (st2 := [.ref (sk 24)]) rfl ?_
            refine c_aload_n (j := 0) (x := a0) C dX3_gather_85 rfl ?_
            obtain ⟨rb23, rq23, trb23⟩ := W40.ref ty359 2 rfl rfl rfl
            have erb23 := W40.sk trb23 (by decide) rfl
            subst erb23
            refine c_getr (k := 2) C ck_4 dX3_gather_86 w1_196 (by decide) ty359 rfl rfl (by decide) rfl rq23 ?_
            refine c_st (st2 := [.ref (sk 6), .ref (sk 24)]) rfl ?_
            refine hv3 (xl40.ty ty356) (xl40.ty ty351) (Phi.le W40 sk38) (fun ty360 ty361 pl49 => ?_)
            refine d_callS (As := [.ref (sk 24), .ref (sk 6)]) (rest := []) C hM (C_markBegins_24 (a0 := (sk 24)) (a1 := (sk 6)) W40 sk38 ty360 ty361  ) dX3_gather_89 kS_X3_73 rfl rfl (Nat.le_of_ble_eq_true rfl) ⟨(Nat.le_of_ble_eq_true rfl), (Nat.le_of_ble_eq_true rfl)⟩ hph pl49 (show 0 + 0 = 0 from rfl) (by decide) (fun rh41 Lh41 clh41 lnh41 ivh41 rvh41 h41 => ?_)
            obtain ⟨rfl, xl41, fl41, W41, exf41⟩ := h41
            refine hv10 (F40.call X38 fl41 rfl) (xl40.ty ty349) (xl40.ty ty352) (xl40.ty ty353) (xl40.ty ty354) (xl40.ty ty355) (xl40.ty ty357) (xl40.ty ty350) (X38.trans xl41) (xl41.skl sk38) (fun F41 ty362 ty363 ty364 ty365 ty366 ty367 ty368 X39 sk39 => ?_)
            refine c_st (st2 := []) rfl ?_
            refine c_aload_n (j := 0) (x := a0) C dX3_gather_92 rfl ?_
            refine hv2 (xl41.ty ty359) (show rvh40 a0 1 = rvh39 a0 1 from (fl40.r ty348 rfl 1)) (fun ty369 re78 => ?_)
            rw [re72] at re78
            have re79 : rvh41 a0 1 = rvh40 a0 1 := (fl41.r ty359 rfl 1)
            rw [re78] at re79
            refine c_getr (k := 1) C ck_4 dX3_gather_93 w1_193 (by decide) ty369 rfl rfl (by decide) rfl re79 ?_
            refine c_st (st2 := [.ref (sk 25)]) rfl ?_
            refine c_aload_n (j := 0) (x := a0) C dX3_gather_96 rfl ?_
            obtain ⟨rb24, rq24, trb24⟩ := W41.ref ty369 3 rfl rfl rfl
            have erb24 := W41.sk trb24 (by decide) rfl
            subst erb24
            refine c_getr (k := 3) C ck_4 dX3_gather_97 w1_197 (by decide) ty369 rfl rfl (by decide) rfl rq24 ?_
            refine c_st (st2 := [.ref (sk 7), .ref (sk 25)]) rfl ?_
            refine hv3 (xl41.ty ty358) (xl41.ty ty363) (Phi.le W41 sk39) (fun ty370 ty371 pl50 => ?_)
            refine d_callS (As := [.ref (sk 25), .ref (sk 7)]) (rest := []) C hM (C_markBegins_25 (a0 := (sk 25)) (a1 := (sk 7)) W41 sk39 ty370 ty371  ) dX3_gather_100 kS_X3_73 rfl rfl (Nat.le_of_ble_eq_true rfl) ⟨(Nat.le_of_ble_eq_true rfl), (Nat.le_of_ble_eq_true rfl)⟩ hph pl50 (show 0 + 0 = 0 from rfl) (by decide) (fun rh42 Lh42 clh42 lnh42 ivh42 rvh42 h42 => ?_)
            obtain ⟨rfl, xl42, fl42, W42, exf42⟩ := h42
            refine hv11 (F41.call X39 fl42 rfl) (xl41.ty ty362) (xl41.ty ty361) (xl41.ty ty364) (xl41.ty ty365) (xl41.ty ty366) (xl41.ty ty360) (xl41.ty ty367) (xl41.ty ty368) (X39.trans xl42) (xl42.skl sk39) (fun F42 ty372 ty373 ty374 ty375 ty376 ty377 ty378 ty379 X40 sk40 => ?_)
            refine c_st (st2 := []) rfl ?_
            have pl51 := Phi.le W42 sk40
            exact c_vret C dX3_gather_103 rfl (by decide) (rom0 hph pl51 (by decide)) ⟨rfl, X40, F42, W42, trivial⟩
          · have tnb11 : ty Lh39 clh39 nb11 20 := tnb11
            refine c_aaldR C dX3_gather_66 ty350 rfl (by omega) (by omega) (by omega) nq11 ?_
            refine c_st (st2 := [.ref nb11, .ref (sk 25)]) rfl ?_
            have pl52 := Phi.le W39 sk37
            refine d_callS (As := [.ref (sk 25), .ref nb11]) (rest := []) C hM (C_addInd_25 (a0 := (sk 25)) (r := (some nb11)) W39 sk37 ty347 (fun _ q => by cases q; exact tnb11)  (by show ivh39 (sk 25) 2 < 6003; omega)) dX3_gather_67 kS_X3_67 rfl rfl (Nat.le_of_ble_eq_true rfl) ⟨(Nat.le_of_ble_eq_true rfl), (Nat.le_of_ble_eq_true rfl)⟩ hph pl52 (show 0 + 0 = 0 from rfl) (by decide) (fun rh43 Lh43 clh43 lnh43 ivh43 rvh43 h43 => ?_)
            obtain ⟨rfl, xl43, fl43, W43, exf43⟩ := h43
            refine hv10 (F39.call X37 fl43 rfl) (xl39.ty ty340) (xl39.ty ty341) (xl39.ty ty342) (xl39.ty ty343) (xl39.ty ty344) (xl39.ty ty336) (xl39.ty ty345) (X37.trans xl43) (xl43.skl sk37) (fun F43 ty380 ty381 ty382 ty383 ty384 ty385 ty386 X41 sk41 => ?_)
            refine c_st (st2 := []) rfl ?_
            refine hv2 (xl43.ty ty347) (show ivh39 (sk 25) 2 ≤ ivh43 (sk 25) 2 ∧ ivh43 (sk 25) 2 ≤ ivh39 (sk 25) 2 + 1 from exf43) (fun ty387 gf43 => ?_)
            have ri32 : 0 ≤ ivh43 (sk 25) 2 ∧ ivh43 (sk 25) 2 ≤ 6003 := W43.int ty387 2
            refine c_goto (tgt := 81) C dX3_gather_70 (by decide) ?_
            refine c_aload_n (j := 0) (x := a0) C dX3_gather_81 rfl ?_
            refine hv2 (xl43.ty ty348) (show rvh38 a0 0 = rvh37 a0 0 from (fl38.r ty327 rfl 0)) (fun ty388 re80 => ?_)
            rw [re68] at re80
            have re81 : rvh39 a0 0 = rvh38 a0 0 := (fl39.r ty337 rfl 0)
            rw [re80] at re81
            have re82 : rvh43 a0 0 = rvh39 a0 0 := (fl43.r ty348 rfl 0)
            rw [re81] at re82
            refine c_getr (k := 0) C ck_4 dX3_gather_82 w1_190 (by decide) ty388 rfl rfl (by decide) rfl re82 ?_
            refine c_st (st2 := [.ref (sk 24)]) rfl ?_
            refine c_aload_n (j := 0) (x := a0) C dX3_gather_85 rfl ?_
            obtain ⟨rb25, rq25, trb25⟩ := W43.ref ty388 2 rfl rfl rfl
            have erb25 := W43.sk trb25 (by decide) rfl
            subst erb25
            refine c_getr (k := 2) C ck_4 dX3_gather_86 w1_196 (by decide) ty388 rfl rfl (by decide) rfl rq25 ?_
            refine c_st (st2 := [.ref (sk 6), .ref (sk 24)]) rfl ?_
            refine hv3 (xl43.ty ty385) (xl43.ty ty380) (Phi.le W43 sk41) (fun ty389 ty390 pl53 => ?_)
            refine d_callS (As := [.ref (sk 24), .ref (sk 6)]) (rest := []) C hM (C_markBegins_24 (a0 := (sk 24)) (a1 := (sk 6)) W43 sk41 ty389 ty390  ) dX3_gather_89 kS_X3_73 rfl rfl (Nat.le_of_ble_eq_true rfl) ⟨(Nat.le_of_ble_eq_true rfl), (Nat.le_of_ble_eq_true rfl)⟩ hph pl53 (show 0 + 0 = 0 from rfl) (by decide) (fun rh44 Lh44 clh44 lnh44 ivh44 rvh44 h44 => ?_)
            obtain ⟨rfl, xl44, fl44, W44, exf44⟩ := h44
            refine hv11 (F43.call X41 fl44 rfl) (xl43.ty ty349) (xl43.ty ty381) (xl43.ty ty382) (xl43.ty ty383) (xl43.ty ty384) (xl43.ty ty386) (xl43.ty ty350) (xl43.ty tnb11) (X41.trans xl44) (xl44.skl sk41) (fun F44 ty391 ty392 ty393 ty394 ty395 ty396 ty397 ty398 X42 sk42 => ?_)
            refine c_st (st2 := []) rfl ?_
            refine c_aload_n (j := 0) (x := a0) C dX3_gather_92 rfl ?_
            refine hv2 (xl44.ty ty388) (show rvh43 a0 1 = rvh39 a0 1 from (fl43.r ty348 rfl 1)) (fun ty399 re83 => ?_)
            rw [re72] at re83
            have re84 : rvh44 a0 1 = rvh43 a0 1 := (fl44.r ty388 rfl 1)
            rw [re83] at re84
            refine c_getr (k := 1) C ck_4 dX3_gather_93 w1_193 (by decide) ty399 rfl rfl (by decide) rfl re84 ?_
            refine c_st (st2 := [.ref (sk 25)]) rfl ?_
            refine c_aload_n (j := 0) (x := a0) C dX3_gather_96 rfl ?_
            obtain ⟨rb26, rq26, trb26⟩ := W44.ref ty399 3 rfl rfl rfl
            have erb26 := W44.sk trb26 (by decide) rfl
            subst erb26
            refine c_getr (k := 3) C ck_4 dX3_gather_97 w1_197 (by decide) ty399 rfl rfl (by decide) rfl rq26 ?_
            refine c_st (st2 := [.ref (sk 7), .ref (sk 25)]) rfl ?_
            refine hv3 (xl44.ty ty387) (xl44.ty ty392) (Phi.le W44 sk42) (fun ty400 ty401 pl54 => ?_)
            refine d_callS (As := [.ref (sk 25), .ref (sk 7)]) (rest := []) C hM (C_markBegins_25 (a0 := (sk 25)) (a1 := (sk 7)) W44 sk42 ty400 ty401  ) dX3_gather_100 kS_X3_73 rfl rfl (Nat.le_of_ble_eq_true rfl) ⟨(Nat.le_of_ble_eq_true rfl), (Nat.le_of_ble_eq_true rfl)⟩ hph pl54 (show 0 + 0 = 0 from rfl) (by decide) (fun rh45 Lh45 clh45 lnh45 ivh45 rvh45 h45 => ?_)
            obtain ⟨rfl, xl45, fl45, W45, exf45⟩ := h45
            refine hv12 (F44.call X42 fl45 rfl) (xl44.ty ty391) (xl44.ty ty390) (xl44.ty ty393) (xl44.ty ty394) (xl44.ty ty395) (xl44.ty ty389) (xl44.ty ty396) (xl44.ty ty397) (xl44.ty ty398) (X42.trans xl45) (xl45.skl sk42) (fun F45 ty402 ty403 ty404 ty405 ty406 ty407 ty408 ty409 ty410 X43 sk43 => ?_)
            refine c_st (st2 := []) rfl ?_
            have pl55 := Phi.le W45 sk43
            exact c_vret C dX3_gather_103 rfl (by decide) (rom0 hph pl55 (by decide)) ⟨rfl, X43, F45, W45, trivial⟩
        · have rknb10 := W38.rank ty338 (k := 3) (by decide) nq10
          refine c_getr (k := 3) C ck_10 dX3_gather_51 w2_184 (by decide) ty338 rfl rfl (by decide) rfl nq10 ?_
          refine c_st (st2 := [.ref nb10, .ref (sk 25)]) rfl ?_
          refine hv4 (xl38.ty ty334) (show ivh38 (sk 25) 2 = ivh37 (sk 25) 2 from fl38.i ty334 rfl 2) (show ivh37 (sk 25) 2 = ivh2 (sk 25) 2 from fl37.i tsk25 rfl 2) (Phi.le W38 sk36) (fun ty411 ie39 ie40 pl56 => ?_)
          have ri33 : 0 ≤ ivh38 (sk 25) 2 ∧ ivh38 (sk 25) 2 ≤ 6003 := W38.int ty411 2
          refine d_callS (As := [.ref (sk 25), .ref nb10]) (rest := []) C hM (C_gatherPart_25 (a0 := (sk 25)) (r := (some nb10)) W38 sk36 ty411 (fun _ q => by cases q; exact tnb10)  (by show ivh38 (sk 25) 2 = 0; omega)) dX3_gather_54 kS_X3_59 rfl rfl (Nat.le_of_ble_eq_true rfl) ⟨(Nat.le_of_ble_eq_true rfl), (Nat.le_of_ble_eq_true rfl)⟩ hph pl56 (show 0 + 0 = 0 from rfl) (by decide) (fun rh46 Lh46 clh46 lnh46 ivh46 rvh46 h46 => ?_)
          obtain ⟨rfl, xl46, fl46, W46, exf46⟩ := h46
          refine hv10 (F38.call X36 fl46 rfl) (xl38.ty ty329) (xl38.ty ty330) (xl38.ty ty331) (xl38.ty ty332) (xl38.ty ty333) (xl38.ty ty335) (xl38.ty trb22) (X36.trans xl46) (xl46.skl sk36) (fun F46 ty412 ty413 ty414 ty415 ty416 ty417 ty418 X44 sk44 => ?_)
          refine c_st (st2 := []) rfl ?_
          refine hv2 (xl46.ty ty411) (show ivh46 (sk 25) 2 ≤ 6002 from exf46) (fun ty419 gf46 => ?_)
          have ri34 : 0 ≤ ivh46 (sk 25) 2 ∧ ivh46 (sk 25) 2 ≤ 6003 := W46.int ty419 2
          refine c_aload_n (j := 0) (x := a0) C dX3_gather_57 rfl ?_
          refine hv2 (xl46.ty ty337) (show rvh46 a0 1 = rvh38 a0 1 from (fl46.r ty337 rfl 1)) (fun ty420 re85 => ?_)
          rw [re71] at re85
          refine c_getr (k := 1) C ck_4 dX3_gather_58 w1_193 (by decide) ty420 rfl rfl (by decide) rfl re85 ?_
          refine c_st (st2 := [.ref (sk 25)]) rfl ?_
          refine c_aload_n (j := 1) (x := a1) C dX3_gather_61 rfl ?_
          refine hv2 (xl46.ty ty338) (show rvh38 a1 6 = rvh37 a1 6 from (fl38.r ty328 rfl 6)) (fun ty421 re86 => ?_)
          rw [rq22] at re86
          have re87 : rvh46 a1 6 = rvh38 a1 6 := (fl46.r ty338 rfl 6)
          rw [re86] at re87
          refine c_getr (k := 6) C ck_10 dX3_gather_62 w2_193 (by decide) ty421 rfl rfl (by decide) rfl re87 ?_
          refine c_st (st2 := [.ref rb22, .ref (sk 25)]) rfl ?_
          refine c_iconst C dX3_gather_65 ?_
          have ty422 := xl46.ty ty418
          have ll8 : 4 ≤ lnh46 rb22 ∧ lnh46 rb22 ≤ 4 := W46.len ty422 rfl
          rcases W46.opt ty422 ((3 : Int).toNat) rfl rfl with ⟨nq12, _⟩ | ⟨nb12, nq12, tnb12⟩
          · refine c_aaldR C dX3_gather_66 ty422 rfl (by omega) (by omega) (by omega) nq12 ?_
            refine c_st (st2 := [.null, .ref (sk 25)]) rfl ?_
            have pl57 := Phi.le W46 sk44
            refine d_callS (As := [.ref (sk 25), .null]) (rest := []) C hM (C_addInd_25 (a0 := (sk 25)) (r := none) W46 sk44 ty419 (fun _ q => by cases q)  (by show ivh46 (sk 25) 2 < 6003; omega)) dX3_gather_67 kS_X3_67 rfl rfl (Nat.le_of_ble_eq_true rfl) ⟨(Nat.le_of_ble_eq_true rfl), (Nat.le_of_ble_eq_true rfl)⟩ hph pl57 (show 0 + 0 = 0 from rfl) (by decide) (fun rh47 Lh47 clh47 lnh47 ivh47 rvh47 h47 => ?_)
            obtain ⟨rfl, xl47, fl47, W47, exf47⟩ := h47
            refine hv11 (F46.call X44 fl47 rfl) (xl46.ty ty412) (xl46.ty ty413) (xl46.ty ty414) (xl46.ty ty415) (xl46.ty ty416) (xl46.ty ty336) (xl46.ty ty417) (xl46.ty tnb10) (X44.trans xl47) (xl47.skl sk44) (fun F47 ty423 ty424 ty425 ty426 ty427 ty428 ty429 ty430 X45 sk45 => ?_)
            refine c_st (st2 := []) rfl ?_
            refine hv2 (xl47.ty ty419) (show ivh46 (sk 25) 2 ≤ ivh47 (sk 25) 2 ∧ ivh47 (sk 25) 2 ≤ ivh46 (sk 25) 2 + 1 from exf47) (fun ty431 gf47 => ?_)
            have ri35 : 0 ≤ ivh47 (sk 25) 2 ∧ ivh47 (sk 25) 2 ≤ 6003 := W47.int ty431 2
            refine c_goto (tgt := 81) C dX3_gather_70 (by decide) ?_
            refine c_aload_n (j := 0) (x := a0) C dX3_gather_81 rfl ?_
            refine hv2 (xl47.ty ty420) (show rvh38 a0 0 = rvh37 a0 0 from (fl38.r ty327 rfl 0)) (fun ty432 re88 => ?_)
            rw [re68] at re88
            have re89 : rvh46 a0 0 = rvh38 a0 0 := (fl46.r ty337 rfl 0)
            rw [re88] at re89
            have re90 : rvh47 a0 0 = rvh46 a0 0 := (fl47.r ty420 rfl 0)
            rw [re89] at re90
            refine c_getr (k := 0) C ck_4 dX3_gather_82 w1_190 (by decide) ty432 rfl rfl (by decide) rfl re90 ?_
            refine c_st (st2 := [.ref (sk 24)]) rfl ?_
            refine c_aload_n (j := 0) (x := a0) C dX3_gather_85 rfl ?_
            obtain ⟨rb27, rq27, trb27⟩ := W47.ref ty432 2 rfl rfl rfl
            have erb27 := W47.sk trb27 (by decide) rfl
            subst erb27
            refine c_getr (k := 2) C ck_4 dX3_gather_86 w1_196 (by decide) ty432 rfl rfl (by decide) rfl rq27 ?_
            refine c_st (st2 := [.ref (sk 6), .ref (sk 24)]) rfl ?_
            refine hv3 (xl47.ty ty428) (xl47.ty ty423) (Phi.le W47 sk45) (fun ty433 ty434 pl58 => ?_)
            refine d_callS (As := [.ref (sk 24), .ref (sk 6)]) (rest := []) C hM (C_markBegins_24 (a0 := (sk 24)) (a1 := (sk 6)) W47 sk45 ty433 ty434  ) dX3_gather_89 kS_X3_73 rfl rfl (Nat.le_of_ble_eq_true rfl) ⟨(Nat.le_of_ble_eq_true rfl), (Nat.le_of_ble_eq_true rfl)⟩ hph pl58 (show 0 + 0 = 0 from rfl) (by decide) (fun rh48 Lh48 clh48 lnh48 ivh48 rvh48 h48 => ?_)
            obtain ⟨rfl, xl48, fl48, W48, exf48⟩ := h48
            refine hv11 (F47.call X45 fl48 rfl) (xl47.ty ty421) (xl47.ty ty424) (xl47.ty ty425) (xl47.ty ty426) (xl47.ty ty427) (xl47.ty ty429) (xl47.ty ty422) (xl47.ty ty430) (X45.trans xl48) (xl48.skl sk45) (fun F48 ty435 ty436 ty437 ty438 ty439 ty440 ty441 ty442 X46 sk46 => ?_)
            refine c_st (st2 := []) rfl ?_
            refine c_aload_n (j := 0) (x := a0) C dX3_gather_92 rfl ?_
            refine hv2 (xl48.ty ty432) (show rvh47 a0 1 = rvh46 a0 1 from (fl47.r ty420 rfl 1)) (fun ty443 re91 => ?_)
            rw [re85] at re91
            have re92 : rvh48 a0 1 = rvh47 a0 1 := (fl48.r ty432 rfl 1)
            rw [re91] at re92
            refine c_getr (k := 1) C ck_4 dX3_gather_93 w1_193 (by decide) ty443 rfl rfl (by decide) rfl re92 ?_
            refine c_st (st2 := [.ref (sk 25)]) rfl ?_
            refine c_aload_n (j := 0) (x := a0) C dX3_gather_96 rfl ?_
            obtain ⟨rb28, rq28, trb28⟩ := W48.ref ty443 3 rfl rfl rfl
            have erb28 := W48.sk trb28 (by decide) rfl
            subst erb28
            refine c_getr (k := 3) C ck_4 dX3_gather_97 w1_197 (by decide) ty443 rfl rfl (by decide) rfl rq28 ?_
            refine c_st (st2 := [.ref (sk 7), .ref (sk 25)]) rfl ?_
            refine hv3 (xl48.ty ty431) (xl48.ty ty436) (Phi.le W48 sk46) (fun ty444 ty445 pl59 => ?_)
            refine d_callS (As := [.ref (sk 25), .ref (sk 7)]) (rest := []) C hM (C_markBegins_25 (a0 := (sk 25)) (a1 := (sk 7)) W48 sk46 ty444 ty445  ) dX3_gather_100 kS_X3_73 rfl rfl (Nat.le_of_ble_eq_true rfl) ⟨(Nat.le_of_ble_eq_true rfl), (Nat.le_of_ble_eq_true rfl)⟩ hph pl59 (show 0 + 0 = 0 from rfl) (by decide) (fun rh49 Lh49 clh49 lnh49 ivh49 rvh49 h49 => ?_)
            obtain ⟨rfl, xl49, fl49, W49, exf49⟩ := h49
            refine hv12 (F48.call X46 fl49 rfl) (xl48.ty ty435) (xl48.ty ty434) (xl48.ty ty437) (xl48.ty ty438) (xl48.ty ty439) (xl48.ty ty433) (xl48.ty ty440) (xl48.ty ty441) (xl48.ty ty442) (X46.trans xl49) (xl49.skl sk46) (fun F49 ty446 ty447 ty448 ty449 ty450 ty451 ty452 ty453 ty454 X47 sk47 => ?_)
            refine c_st (st2 := []) rfl ?_
            have pl60 := Phi.le W49 sk47
            exact c_vret C dX3_gather_103 rfl (by decide) (rom0 hph pl60 (by decide)) ⟨rfl, X47, F49, W49, trivial⟩
          · have tnb12 : ty Lh46 clh46 nb12 20 := tnb12
            refine c_aaldR C dX3_gather_66 ty422 rfl (by omega) (by omega) (by omega) nq12 ?_
            refine c_st (st2 := [.ref nb12, .ref (sk 25)]) rfl ?_
            have pl61 := Phi.le W46 sk44
            refine d_callS (As := [.ref (sk 25), .ref nb12]) (rest := []) C hM (C_addInd_25 (a0 := (sk 25)) (r := (some nb12)) W46 sk44 ty419 (fun _ q => by cases q; exact tnb12)  (by show ivh46 (sk 25) 2 < 6003; omega)) dX3_gather_67 kS_X3_67 rfl rfl (Nat.le_of_ble_eq_true rfl) ⟨(Nat.le_of_ble_eq_true rfl), (Nat.le_of_ble_eq_true rfl)⟩ hph pl61 (show 0 + 0 = 0 from rfl) (by decide) (fun rh50 Lh50 clh50 lnh50 ivh50 rvh50 h50 => ?_)
            obtain ⟨rfl, xl50, fl50, W50, exf50⟩ := h50
            refine hv11 (F46.call X44 fl50 rfl) (xl46.ty ty412) (xl46.ty ty413) (xl46.ty ty414) (xl46.ty ty415) (xl46.ty ty416) (xl46.ty ty336) (xl46.ty ty417) (xl46.ty tnb10) (X44.trans xl50) (xl50.skl sk44) (fun F50 ty455 ty456 ty457 ty458 ty459 ty460 ty461 ty462 X48 sk48 => ?_)
            refine c_st (st2 := []) rfl ?_
            refine hv2 (xl50.ty ty419) (show ivh46 (sk 25) 2 ≤ ivh50 (sk 25) 2 ∧ ivh50 (sk 25) 2 ≤ ivh46 (sk 25) 2 + 1 from exf50) (fun ty463 gf50 => ?_)
            have ri36 : 0 ≤ ivh50 (sk 25) 2 ∧ ivh50 (sk 25) 2 ≤ 6003 := W50.int ty463 2
            refine c_goto (tgt := 81) C dX3_gather_70 (by decide) ?_
            refine c_aload_n (j := 0) (x := a0) C dX3_gather_81 rfl ?_
            refine hv2 (xl50.ty ty420) (show rvh38 a0 0 = rvh37 a0 0 from (fl38.r ty327 rfl 0)) (fun ty464 re93 => ?_)
            rw [re68] at re93
            have re94 : rvh46 a0 0 = rvh38 a0 0 := (fl46.r ty337 rfl 0)
            rw [re93] at re94
            have re95 : rvh50 a0 0 = rvh46 a0 0 := (fl50.r ty420 rfl 0)
            rw [re94] at re95
            refine c_getr (k := 0) C ck_4 dX3_gather_82 w1_190 (by decide) ty464 rfl rfl (by decide) rfl re95 ?_
            refine c_st (st2 := [.ref (sk 24)]) rfl ?_
            refine c_aload_n (j := 0) (x := a0) C dX3_gather_85 rfl ?_
            obtain ⟨rb29, rq29, trb29⟩ := W50.ref ty464 2 rfl rfl rfl
            have erb29 := W50.sk trb29 (by decide) rfl
            subst erb29
            refine c_getr (k := 2) C ck_4 dX3_gather_86 w1_196 (by decide) ty464 rfl rfl (by decide) rfl rq29 ?_
            refine c_st (st2 := [.ref (sk 6), .ref (sk 24)]) rfl ?_
            refine hv3 (xl50.ty ty460) (xl50.ty ty455) (Phi.le W50 sk48) (fun ty465 ty466 pl62 => ?_)
            refine d_callS (As := [.ref (sk 24), .ref (sk 6)]) (rest := []) C hM (C_markBegins_24 (a0 := (sk 24)) (a1 := (sk 6)) W50 sk48 ty465 ty466  ) dX3_gather_89 kS_X3_73 rfl rfl (Nat.le_of_ble_eq_true rfl) ⟨(Nat.le_of_ble_eq_true rfl), (Nat.le_of_ble_eq_true rfl)⟩ hph pl62 (show 0 + 0 = 0 from rfl) (by decide) (fun rh51 Lh51 clh51 lnh51 ivh51 rvh51 h51 => ?_)
            obtain ⟨rfl, xl51, fl51, W51, exf51⟩ := h51
            refine hv12 (F50.call X48 fl51 rfl) (xl50.ty ty421) (xl50.ty ty456) (xl50.ty ty457) (xl50.ty ty458) (xl50.ty ty459) (xl50.ty ty461) (xl50.ty ty422) (xl50.ty ty462) (xl50.ty tnb12) (X48.trans xl51) (xl51.skl sk48) (fun F51 ty467 ty468 ty469 ty470 ty471 ty472 ty473 ty474 ty475 X49 sk49 => ?_)
            refine c_st (st2 := []) rfl ?_
            refine c_aload_n (j := 0) (x := a0) C dX3_gather_92 rfl ?_
            refine hv2 (xl51.ty ty464) (show rvh50 a0 1 = rvh46 a0 1 from (fl50.r ty420 rfl 1)) (fun ty476 re96 => ?_)
            rw [re85] at re96
            have re97 : rvh51 a0 1 = rvh50 a0 1 := (fl51.r ty464 rfl 1)
            rw [re96] at re97
            refine c_getr (k := 1) C ck_4 dX3_gather_93 w1_193 (by decide) ty476 rfl rfl (by decide) rfl re97 ?_
            refine c_st (st2 := [.ref (sk 25)]) rfl ?_
            refine c_aload_n (j := 0) (x := a0) C dX3_gather_96 rfl ?_
            obtain ⟨rb30, rq30, trb30⟩ := W51.ref ty476 3 rfl rfl rfl
            have erb30 := W51.sk trb30 (by decide) rfl
            subst erb30
            refine c_getr (k := 3) C ck_4 dX3_gather_97 w1_197 (by decide) ty476 rfl rfl (by decide) rfl rq30 ?_
            refine c_st (st2 := [.ref (sk 7), .ref (sk 25)]) rfl ?_
            refine hv3 (xl51.ty ty463) (xl51.ty ty468) (Phi.le W51 sk49) (fun ty477 ty478 pl63 => ?_)
            refine d_callS (As := [.ref (sk 25), .ref (sk 7)]) (rest := []) C hM (C_markBegins_25 (a0 := (sk 25)) (a1 := (sk 7)) W51 sk49 ty477 ty478  ) dX3_gather_100 kS_X3_73 rfl rfl (Nat.le_of_ble_eq_true rfl) ⟨(Nat.le_of_ble_eq_true rfl), (Nat.le_of_ble_eq_true rfl)⟩ hph pl63 (show 0 + 0 = 0 from rfl) (by decide) (fun rh52 Lh52 clh52 lnh52 ivh52 rvh52 h52 => ?_)
            obtain ⟨rfl, xl52, fl52, W52, exf52⟩ := h52
            refine hv13 (F51.call X49 fl52 rfl) (xl51.ty ty467) (xl51.ty ty466) (xl51.ty ty469) (xl51.ty ty470) (xl51.ty ty471) (xl51.ty ty465) (xl51.ty ty472) (xl51.ty ty473) (xl51.ty ty474) (xl51.ty ty475) (X49.trans xl52) (xl52.skl sk49) (fun F52 ty479 ty480 ty481 ty482 ty483 ty484 ty485 ty486 ty487 ty488 X50 sk50 => ?_)
            refine c_st (st2 := []) rfl ?_
            have pl64 := Phi.le W52 sk50
            exact c_vret C dX3_gather_103 rfl (by decide) (rom0 hph pl64 (by decide)) ⟨rfl, X50, F52, W52, trivial⟩
      · have tnb9 : ty Lh37 clh37 nb9 20 := tnb9
        refine c_aaldR C dX3_gather_42 trb22 rfl (by omega) (by omega) (by omega) nq9 ?_
        refine c_st (st2 := [.ref nb9, .ref (sk 24)]) rfl ?_
        have pl65 := Phi.le W37 sk35
        refine d_callS (As := [.ref (sk 24), .ref nb9]) (rest := []) C hM (C_addInd_24 (a0 := (sk 24)) (r := (some nb9)) W37 sk35 ty326 (fun _ q => by cases q; exact tnb9)  (by show ivh37 (sk 24) 2 < 6003; omega)) dX3_gather_43 kS_X3_67 rfl rfl (Nat.le_of_ble_eq_true rfl) ⟨(Nat.le_of_ble_eq_true rfl), (Nat.le_of_ble_eq_true rfl)⟩ hph pl65 (show 0 + 0 = 0 from rfl) (by decide) (fun rh53 Lh53 clh53 lnh53 ivh53 rvh53 h53 => ?_)
        obtain ⟨rfl, xl53, fl53, W53, exf53⟩ := h53
        refine hv10 (F37.call X35 fl53 rfl) (xl37.ty tsk6) (xl37.ty tsk7) (xl37.ty tsk8) (xl37.ty tsk9) (xl37.ty tsk10) (xl37.ty tsk25) (xl37.ty tnb1) (X35.trans xl53) (xl53.skl sk35) (fun F53 ty489 ty490 ty491 ty492 ty493 ty494 ty495 X51 sk51 => ?_)
        refine c_st (st2 := []) rfl ?_
        refine hv2 (xl53.ty ty326) (show ivh37 (sk 24) 2 ≤ ivh53 (sk 24) 2 ∧ ivh53 (sk 24) 2 ≤ ivh37 (sk 24) 2 + 1 from exf53) (fun ty496 gf53 => ?_)
        have ri37 : 0 ≤ ivh53 (sk 24) 2 ∧ ivh53 (sk 24) 2 ≤ 6003 := W53.int ty496 2
        refine c_aload_n (j := 0) (x := a0) C dX3_gather_46 rfl ?_
        refine hv2 (xl53.ty ty327) (show rvh2 a0 1 = rvh1 a0 1 from (fl2.r t_a0 rfl 1)) (fun ty497 re98 => ?_)
        rw [rq2] at re98
        have re99 : rvh37 a0 1 = rvh2 a0 1 := (fl37.r t_a0 rfl 1)
        rw [re98] at re99
        have re100 : rvh53 a0 1 = rvh37 a0 1 := (fl53.r ty327 rfl 1)
        rw [re99] at re100
        refine c_getr (k := 1) C ck_4 dX3_gather_47 w1_193 (by decide) ty497 rfl rfl (by decide) rfl re100 ?_
        refine c_st (st2 := [.ref (sk 25)]) rfl ?_
        refine c_aload_n (j := 1) (x := a1) C dX3_gather_50 rfl ?_
        have ty498 := xl53.ty ty328
        rcases W53.opt ty498 3 rfl rfl with ⟨nq13, _⟩ | ⟨nb13, nq13, tnb13⟩
        · refine c_getr (k := 3) C ck_10 dX3_gather_51 w2_184 (by decide) ty498 rfl rfl (by decide) rfl nq13 ?_
          refine c_st (st2 := [.null, .ref (sk 25)]) rfl ?_
          refine hv4 (xl53.ty ty494) (show ivh53 (sk 25) 2 = ivh37 (sk 25) 2 from fl53.i ty494 rfl 2) (show ivh37 (sk 25) 2 = ivh2 (sk 25) 2 from fl37.i tsk25 rfl 2) (Phi.le W53 sk51) (fun ty499 ie45 ie46 pl66 => ?_)
          have ri38 : 0 ≤ ivh53 (sk 25) 2 ∧ ivh53 (sk 25) 2 ≤ 6003 := W53.int ty499 2
          refine d_callS (As := [.ref (sk 25), .null]) (rest := []) C hM (C_gatherPart_25 (a0 := (sk 25)) (r := none) W53 sk51 ty499 (fun _ q => by cases q)  (by show ivh53 (sk 25) 2 = 0; omega)) dX3_gather_54 kS_X3_59 rfl rfl (Nat.le_of_ble_eq_true rfl) ⟨(Nat.le_of_ble_eq_true rfl), (Nat.le_of_ble_eq_true rfl)⟩ hph pl66 (show 0 + 0 = 0 from rfl) (by decide) (fun rh54 Lh54 clh54 lnh54 ivh54 rvh54 h54 => ?_)
          obtain ⟨rfl, xl54, fl54, W54, exf54⟩ := h54
          refine hv11 (F53.call X51 fl54 rfl) (xl53.ty ty489) (xl53.ty ty490) (xl53.ty ty491) (xl53.ty ty492) (xl53.ty ty493) (xl53.ty ty495) (xl53.ty trb22) (xl53.ty tnb9) (X51.trans xl54) (xl54.skl sk51) (fun F54 ty500 ty501 ty502 ty503 ty504 ty505 ty506 ty507 X52 sk52 => ?_)
          refine c_st (st2 := []) rfl ?_
          refine hv2 (xl54.ty ty499) (show ivh54 (sk 25) 2 ≤ 6002 from exf54) (fun ty508 gf54 => ?_)
          have ri39 : 0 ≤ ivh54 (sk 25) 2 ∧ ivh54 (sk 25) 2 ≤ 6003 := W54.int ty508 2
          refine c_aload_n (j := 0) (x := a0) C dX3_gather_57 rfl ?_
          refine hv2 (xl54.ty ty497) (show rvh54 a0 1 = rvh53 a0 1 from (fl54.r ty497 rfl 1)) (fun ty509 re101 => ?_)
          rw [re100] at re101
          refine c_getr (k := 1) C ck_4 dX3_gather_58 w1_193 (by decide) ty509 rfl rfl (by decide) rfl re101 ?_
          refine c_st (st2 := [.ref (sk 25)]) rfl ?_
          refine c_aload_n (j := 1) (x := a1) C dX3_gather_61 rfl ?_
          refine hv2 (xl54.ty ty498) (show rvh53 a1 6 = rvh37 a1 6 from (fl53.r ty328 rfl 6)) (fun ty510 re102 => ?_)
          rw [rq22] at re102
          have re103 : rvh54 a1 6 = rvh53 a1 6 := (fl54.r ty498 rfl 6)
          rw [re102] at re103
          refine c_getr (k := 6) C ck_10 dX3_gather_62 w2_193 (by decide) ty510 rfl rfl (by decide) rfl re103 ?_
          refine c_st (st2 := [.ref rb22, .ref (sk 25)]) rfl ?_
          refine c_iconst C dX3_gather_65 ?_
          have ty511 := xl54.ty ty506
          have ll9 : 4 ≤ lnh54 rb22 ∧ lnh54 rb22 ≤ 4 := W54.len ty511 rfl
          rcases W54.opt ty511 ((3 : Int).toNat) rfl rfl with ⟨nq14, _⟩ | ⟨nb14, nq14, tnb14⟩
          · refine c_aaldR C dX3_gather_66 ty511 rfl (by omega) (by omega) (by omega) nq14 ?_
            refine c_st (st2 := [.null, .ref (sk 25)]) rfl ?_
            have pl67 := Phi.le W54 sk52
            refine d_callS (As := [.ref (sk 25), .null]) (rest := []) C hM (C_addInd_25 (a0 := (sk 25)) (r := none) W54 sk52 ty508 (fun _ q => by cases q)  (by show ivh54 (sk 25) 2 < 6003; omega)) dX3_gather_67 kS_X3_67 rfl rfl (Nat.le_of_ble_eq_true rfl) ⟨(Nat.le_of_ble_eq_true rfl), (Nat.le_of_ble_eq_true rfl)⟩ hph pl67 (show 0 + 0 = 0 from rfl) (by decide) (fun rh55 Lh55 clh55 lnh55 ivh55 rvh55 h55 => ?_)
            obtain ⟨rfl, xl55, fl55, W55, exf55⟩ := h55
            refine hv11 (F54.call X52 fl55 rfl) (xl54.ty ty500) (xl54.ty ty501) (xl54.ty ty502) (xl54.ty ty503) (xl54.ty ty504) (xl54.ty ty496) (xl54.ty ty505) (xl54.ty ty507) (X52.trans xl55) (xl55.skl sk52) (fun F55 ty512 ty513 ty514 ty515 ty516 ty517 ty518 ty519 X53 sk53 => ?_)
            refine c_st (st2 := []) rfl ?_
            refine hv2 (xl55.ty ty508) (show ivh54 (sk 25) 2 ≤ ivh55 (sk 25) 2 ∧ ivh55 (sk 25) 2 ≤ ivh54 (sk 25) 2 + 1 from exf55) (fun ty520 gf55 => ?_)
            have ri40 : 0 ≤ ivh55 (sk 25) 2 ∧ ivh55 (sk 25) 2 ≤ 6003 := W55.int ty520 2
            refine c_goto (tgt := 81) C dX3_gather_70 (by decide) ?_
            refine c_aload_n (j := 0) (x := a0) C dX3_gather_81 rfl ?_
            refine hv2 (xl55.ty ty509) (show rvh53 a0 0 = rvh37 a0 0 from (fl53.r ty327 rfl 0)) (fun ty521 re104 => ?_)
            rw [re68] at re104
            have re105 : rvh54 a0 0 = rvh53 a0 0 := (fl54.r ty497 rfl 0)
            rw [re104] at re105
            have re106 : rvh55 a0 0 = rvh54 a0 0 := (fl55.r ty509 rfl 0)
            rw [re105] at re106
            refine c_getr (k := 0) C ck_4 dX3_gather_82 w1_190 (by decide) ty521 rfl rfl (by decide) rfl re106 ?_
            refine c_st (st2 := [.ref (sk 24)]) rfl ?_
            refine c_aload_n (j := 0) (x := a0) C dX3_gather_85 rfl ?_
            obtain ⟨rb31, rq31, trb31⟩ := W55.ref ty521 2 rfl rfl rfl
            have erb31 := W55.sk trb31 (by decide) rfl
            subst erb31
            refine c_getr (k := 2) C ck_4 dX3_gather_86 w1_196 (by decide) ty521 rfl rfl (by decide) rfl rq31 ?_
            refine c_st (st2 := [.ref (sk 6), .ref (sk 24)]) rfl ?_
            refine hv3 (xl55.ty ty517) (xl55.ty ty512) (Phi.le W55 sk53) (fun ty522 ty523 pl68 => ?_)
            refine d_callS (As := [.ref (sk 24), .ref (sk 6)]) (rest := []) C hM (C_markBegins_24 (a0 := (sk 24)) (a1 := (sk 6)) W55 sk53 ty522 ty523  ) dX3_gather_89 kS_X3_73 rfl rfl (Nat.le_of_ble_eq_true rfl) ⟨(Nat.le_of_ble_eq_true rfl), (Nat.le_of_ble_eq_true rfl)⟩ hph pl68 (show 0 + 0 = 0 from rfl) (by decide) (fun rh56 Lh56 clh56 lnh56 ivh56 rvh56 h56 => ?_)
            obtain ⟨rfl, xl56, fl56, W56, exf56⟩ := h56
            refine hv11 (F55.call X53 fl56 rfl) (xl55.ty ty510) (xl55.ty ty513) (xl55.ty ty514) (xl55.ty ty515) (xl55.ty ty516) (xl55.ty ty518) (xl55.ty ty511) (xl55.ty ty519) (X53.trans xl56) (xl56.skl sk53) (fun F56 ty524 ty525 ty526 ty527 ty528 ty529 ty530 ty531 X54 sk54 => ?_)
            refine c_st (st2 := []) rfl ?_
            refine c_aload_n (j := 0) (x := a0) C dX3_gather_92 rfl ?_
            refine hv2 (xl56.ty ty521) (show rvh55 a0 1 = rvh54 a0 1 from (fl55.r ty509 rfl 1)) (fun ty532 re107 => ?_)
            rw [re101] at re107
            have re108 : rvh56 a0 1 = rvh55 a0 1 := (fl56.r ty521 rfl 1)
            rw [re107] at re108
            refine c_getr (k := 1) C ck_4 dX3_gather_93 w1_193 (by decide) ty532 rfl rfl (by decide) rfl re108 ?_
            refine c_st (st2 := [.ref (sk 25)]) rfl ?_
            refine c_aload_n (j := 0) (x := a0) C dX3_gather_96 rfl ?_
            obtain ⟨rb32, rq32, trb32⟩ := W56.ref ty532 3 rfl rfl rfl
            have erb32 := W56.sk trb32 (by decide) rfl
            subst erb32
            refine c_getr (k := 3) C ck_4 dX3_gather_97 w1_197 (by decide) ty532 rfl rfl (by decide) rfl rq32 ?_
            refine c_st (st2 := [.ref (sk 7), .ref (sk 25)]) rfl ?_
            refine hv3 (xl56.ty ty520) (xl56.ty ty525) (Phi.le W56 sk54) (fun ty533 ty534 pl69 => ?_)
            refine d_callS (As := [.ref (sk 25), .ref (sk 7)]) (rest := []) C hM (C_markBegins_25 (a0 := (sk 25)) (a1 := (sk 7)) W56 sk54 ty533 ty534  ) dX3_gather_100 kS_X3_73 rfl rfl (Nat.le_of_ble_eq_true rfl) ⟨(Nat.le_of_ble_eq_true rfl), (Nat.le_of_ble_eq_true rfl)⟩ hph pl69 (show 0 + 0 = 0 from rfl) (by decide) (fun rh57 Lh57 clh57 lnh57 ivh57 rvh57 h57 => ?_)
            obtain ⟨rfl, xl57, fl57, W57, exf57⟩ := h57
            refine hv12 (F56.call X54 fl57 rfl) (xl56.ty ty524) (xl56.ty ty523) (xl56.ty ty526) (xl56.ty ty527) (xl56.ty ty528) (xl56.ty ty522) (xl56.ty ty529) (xl56.ty ty530) (xl56.ty ty531) (X54.trans xl57) (xl57.skl sk54) (fun F57 ty535 ty536 ty537 ty538 ty539 ty540 ty541 ty542 ty543 X55 sk55 => ?_)
            refine c_st (st2 := []) rfl ?_
            have pl70 := Phi.le W57 sk55
            exact c_vret C dX3_gather_103 rfl (by decide) (rom0 hph pl70 (by decide)) ⟨rfl, X55, F57, W57, trivial⟩
          · have tnb14 : ty Lh54 clh54 nb14 20 := tnb14
            refine c_aaldR C dX3_gather_66 ty511 rfl (by omega) (by omega) (by omega) nq14 ?_
            refine c_st (st2 := [.ref nb14, .ref (sk 25)]) rfl ?_
            have pl71 := Phi.le W54 sk52
            refine d_callS (As := [.ref (sk 25), .ref nb14]) (rest := []) C hM (C_addInd_25 (a0 := (sk 25)) (r := (some nb14)) W54 sk52 ty508 (fun _ q => by cases q; exact tnb14)  (by show ivh54 (sk 25) 2 < 6003; omega)) dX3_gather_67 kS_X3_67 rfl rfl (Nat.le_of_ble_eq_true rfl) ⟨(Nat.le_of_ble_eq_true rfl), (Nat.le_of_ble_eq_true rfl)⟩ hph pl71 (show 0 + 0 = 0 from rfl) (by decide) (fun rh58 Lh58 clh58 lnh58 ivh58 rvh58 h58 => ?_)
            obtain ⟨rfl, xl58, fl58, W58, exf58⟩ := h58
            refine hv11 (F54.call X52 fl58 rfl) (xl54.ty ty500) (xl54.ty ty501) (xl54.ty ty502) (xl54.ty ty503) (xl54.ty ty504) (xl54.ty ty496) (xl54.ty ty505) (xl54.ty ty507) (X52.trans xl58) (xl58.skl sk52) (fun F58 ty544 ty545 ty546 ty547 ty548 ty549 ty550 ty551 X56 sk56 => ?_)
            refine c_st (st2 := []) rfl ?_
            refine hv2 (xl58.ty ty508) (show ivh54 (sk 25) 2 ≤ ivh58 (sk 25) 2 ∧ ivh58 (sk 25) 2 ≤ ivh54 (sk 25) 2 + 1 from exf58) (fun ty552 gf58 => ?_)
            have ri41 : 0 ≤ ivh58 (sk 25) 2 ∧ ivh58 (sk 25) 2 ≤ 6003 := W58.int ty552 2
            refine c_goto (tgt := 81) C dX3_gather_70 (by decide) ?_
            refine c_aload_n (j := 0) (x := a0) C dX3_gather_81 rfl ?_
            refine hv2 (xl58.ty ty509) (show rvh53 a0 0 = rvh37 a0 0 from (fl53.r ty327 rfl 0)) (fun ty553 re109 => ?_)
            rw [re68] at re109
            have re110 : rvh54 a0 0 = rvh53 a0 0 := (fl54.r ty497 rfl 0)
            rw [re109] at re110
            have re111 : rvh58 a0 0 = rvh54 a0 0 := (fl58.r ty509 rfl 0)
            rw [re110] at re111
            refine c_getr (k := 0) C ck_4 dX3_gather_82 w1_190 (by decide) ty553 rfl rfl (by decide) rfl re111 ?_
            refine c_st (st2 := [.ref (sk 24)]) rfl ?_
            refine c_aload_n (j := 0) (x := a0) C dX3_gather_85 rfl ?_
            obtain ⟨rb33, rq33, trb33⟩ := W58.ref ty553 2 rfl rfl rfl
            have erb33 := W58.sk trb33 (by decide) rfl
            subst erb33
            refine c_getr (k := 2) C ck_4 dX3_gather_86 w1_196 (by decide) ty553 rfl rfl (by decide) rfl rq33 ?_
            refine c_st (st2 := [.ref (sk 6), .ref (sk 24)]) rfl ?_
            refine hv3 (xl58.ty ty549) (xl58.ty ty544) (Phi.le W58 sk56) (fun ty554 ty555 pl72 => ?_)
            refine d_callS (As := [.ref (sk 24), .ref (sk 6)]) (rest := []) C hM (C_markBegins_24 (a0 := (sk 24)) (a1 := (sk 6)) W58 sk56 ty554 ty555  ) dX3_gather_89 kS_X3_73 rfl rfl (Nat.le_of_ble_eq_true rfl) ⟨(Nat.le_of_ble_eq_true rfl), (Nat.le_of_ble_eq_true rfl)⟩ hph pl72 (show 0 + 0 = 0 from rfl) (by decide) (fun rh59 Lh59 clh59 lnh59 ivh59 rvh59 h59 => ?_)
            obtain ⟨rfl, xl59, fl59, W59, exf59⟩ := h59
            refine hv12 (F58.call X56 fl59 rfl) (xl58.ty ty510) (xl58.ty ty545) (xl58.ty ty546) (xl58.ty ty547) (xl58.ty ty548) (xl58.ty ty550) (xl58.ty ty511) (xl58.ty ty551) (xl58.ty tnb14) (X56.trans xl59) (xl59.skl sk56) (fun F59 ty556 ty557 ty558 ty559 ty560 ty561 ty562 ty563 ty564 X57 sk57 => ?_)
            refine c_st (st2 := []) rfl ?_
            refine c_aload_n (j := 0) (x := a0) C dX3_gather_92 rfl ?_
            refine hv2 (xl59.ty ty553) (show rvh58 a0 1 = rvh54 a0 1 from (fl58.r ty509 rfl 1)) (fun ty565 re112 => ?_)
            rw [re101] at re112
            have re113 : rvh59 a0 1 = rvh58 a0 1 := (fl59.r ty553 rfl 1)
            rw [re112] at re113
            refine c_getr (k := 1) C ck_4 dX3_gather_93 w1_193 (by decide) ty565 rfl rfl (by decide) rfl re113 ?_
            refine c_st (st2 := [.ref (sk 25)]) rfl ?_
            refine c_aload_n (j := 0) (x := a0) C dX3_gather_96 rfl ?_
            obtain ⟨rb34, rq34, trb34⟩ := W59.ref ty565 3 rfl rfl rfl
            have erb34 := W59.sk trb34 (by decide) rfl
            subst erb34
            refine c_getr (k := 3) C ck_4 dX3_gather_97 w1_197 (by decide) ty565 rfl rfl (by decide) rfl rq34 ?_
            refine c_st (st2 := [.ref (sk 7), .ref (sk 25)]) rfl ?_
            refine hv3 (xl59.ty ty552) (xl59.ty ty557) (Phi.le W59 sk57) (fun ty566 ty567 pl73 => ?_)
            refine d_callS (As := [.ref (sk 25), .ref (sk 7)]) (rest := []) C hM (C_markBegins_25 (a0 := (sk 25)) (a1 := (sk 7)) W59 sk57 ty566 ty567  ) dX3_gather_100 kS_X3_73 rfl rfl (Nat.le_of_ble_eq_true rfl) ⟨(Nat.le_of_ble_eq_true rfl), (Nat.le_of_ble_eq_true rfl)⟩ hph pl73 (show 0 + 0 = 0 from rfl) (by decide) (fun rh60 Lh60 clh60 lnh60 ivh60 rvh60 h60 => ?_)
            obtain ⟨rfl, xl60, fl60, W60, exf60⟩ := h60
            refine hv13 (F59.call X57 fl60 rfl) (xl59.ty ty556) (xl59.ty ty555) (xl59.ty ty558) (xl59.ty ty559) (xl59.ty ty560) (xl59.ty ty554) (xl59.ty ty561) (xl59.ty ty562) (xl59.ty ty563) (xl59.ty ty564) (X57.trans xl60) (xl60.skl sk57) (fun F60 ty568 ty569 ty570 ty571 ty572 ty573 ty574 ty575 ty576 ty577 X58 sk58 => ?_)
            refine c_st (st2 := []) rfl ?_
            have pl74 := Phi.le W60 sk58
            exact c_vret C dX3_gather_103 rfl (by decide) (rom0 hph pl74 (by decide)) ⟨rfl, X58, F60, W60, trivial⟩
        · have rknb13 := W53.rank ty498 (k := 3) (by decide) nq13
          refine c_getr (k := 3) C ck_10 dX3_gather_51 w2_184 (by decide) ty498 rfl rfl (by decide) rfl nq13 ?_
          refine c_st (st2 := [.ref nb13, .ref (sk 25)]) rfl ?_
          refine hv4 (xl53.ty ty494) (show ivh53 (sk 25) 2 = ivh37 (sk 25) 2 from fl53.i ty494 rfl 2) (show ivh37 (sk 25) 2 = ivh2 (sk 25) 2 from fl37.i tsk25 rfl 2) (Phi.le W53 sk51) (fun ty578 ie50 ie51 pl75 => ?_)
          have ri42 : 0 ≤ ivh53 (sk 25) 2 ∧ ivh53 (sk 25) 2 ≤ 6003 := W53.int ty578 2
          refine d_callS (As := [.ref (sk 25), .ref nb13]) (rest := []) C hM (C_gatherPart_25 (a0 := (sk 25)) (r := (some nb13)) W53 sk51 ty578 (fun _ q => by cases q; exact tnb13)  (by show ivh53 (sk 25) 2 = 0; omega)) dX3_gather_54 kS_X3_59 rfl rfl (Nat.le_of_ble_eq_true rfl) ⟨(Nat.le_of_ble_eq_true rfl), (Nat.le_of_ble_eq_true rfl)⟩ hph pl75 (show 0 + 0 = 0 from rfl) (by decide) (fun rh61 Lh61 clh61 lnh61 ivh61 rvh61 h61 => ?_)
          obtain ⟨rfl, xl61, fl61, W61, exf61⟩ := h61
          refine hv11 (F53.call X51 fl61 rfl) (xl53.ty ty489) (xl53.ty ty490) (xl53.ty ty491) (xl53.ty ty492) (xl53.ty ty493) (xl53.ty ty495) (xl53.ty trb22) (xl53.ty tnb9) (X51.trans xl61) (xl61.skl sk51) (fun F61 ty579 ty580 ty581 ty582 ty583 ty584 ty585 ty586 X59 sk59 => ?_)
          refine c_st (st2 := []) rfl ?_
          refine hv2 (xl61.ty ty578) (show ivh61 (sk 25) 2 ≤ 6002 from exf61) (fun ty587 gf61 => ?_)
          have ri43 : 0 ≤ ivh61 (sk 25) 2 ∧ ivh61 (sk 25) 2 ≤ 6003 := W61.int ty587 2
          refine c_aload_n (j := 0) (x := a0) C dX3_gather_57 rfl ?_
          refine hv2 (xl61.ty ty497) (show rvh61 a0 1 = rvh53 a0 1 from (fl61.r ty497 rfl 1)) (fun ty588 re114 => ?_)
          rw [re100] at re114
          refine c_getr (k := 1) C ck_4 dX3_gather_58 w1_193 (by decide) ty588 rfl rfl (by decide) rfl re114 ?_
          refine c_st (st2 := [.ref (sk 25)]) rfl ?_
          refine c_aload_n (j := 1) (x := a1) C dX3_gather_61 rfl ?_
          refine hv2 (xl61.ty ty498) (show rvh53 a1 6 = rvh37 a1 6 from (fl53.r ty328 rfl 6)) (fun ty589 re115 => ?_)
          rw [rq22] at re115
          have re116 : rvh61 a1 6 = rvh53 a1 6 := (fl61.r ty498 rfl 6)
          rw [re115] at re116
          refine c_getr (k := 6) C ck_10 dX3_gather_62 w2_193 (by decide) ty589 rfl rfl (by decide) rfl re116 ?_
          refine c_st (st2 := [.ref rb22, .ref (sk 25)]) rfl ?_
          refine c_iconst C dX3_gather_65 ?_
          have ty590 := xl61.ty ty585
          have ll10 : 4 ≤ lnh61 rb22 ∧ lnh61 rb22 ≤ 4 := W61.len ty590 rfl
          rcases W61.opt ty590 ((3 : Int).toNat) rfl rfl with ⟨nq15, _⟩ | ⟨nb15, nq15, tnb15⟩
          · refine c_aaldR C dX3_gather_66 ty590 rfl (by omega) (by omega) (by omega) nq15 ?_
            refine c_st (st2 := [.null, .ref (sk 25)]) rfl ?_
            have pl76 := Phi.le W61 sk59
            refine d_callS (As := [.ref (sk 25), .null]) (rest := []) C hM (C_addInd_25 (a0 := (sk 25)) (r := none) W61 sk59 ty587 (fun _ q => by cases q)  (by show ivh61 (sk 25) 2 < 6003; omega)) dX3_gather_67 kS_X3_67 rfl rfl (Nat.le_of_ble_eq_true rfl) ⟨(Nat.le_of_ble_eq_true rfl), (Nat.le_of_ble_eq_true rfl)⟩ hph pl76 (show 0 + 0 = 0 from rfl) (by decide) (fun rh62 Lh62 clh62 lnh62 ivh62 rvh62 h62 => ?_)
            obtain ⟨rfl, xl62, fl62, W62, exf62⟩ := h62
            refine hv12 (F61.call X59 fl62 rfl) (xl61.ty ty579) (xl61.ty ty580) (xl61.ty ty581) (xl61.ty ty582) (xl61.ty ty583) (xl61.ty ty496) (xl61.ty ty584) (xl61.ty ty586) (xl61.ty tnb13) (X59.trans xl62) (xl62.skl sk59) (fun F62 ty591 ty592 ty593 ty594 ty595 ty596 ty597 ty598 ty599 X60 sk60 => ?_)
            refine c_st (st2 := []) rfl ?_
            refine hv2 (xl62.ty ty587) (show ivh61 (sk 25) 2 ≤ ivh62 (sk 25) 2 ∧ ivh62 (sk 25) 2 ≤ ivh61 (sk 25) 2 + 1 from exf62) (fun ty600 gf62 => ?_)
            have ri44 : 0 ≤ ivh62 (sk 25) 2 ∧ ivh62 (sk 25) 2 ≤ 6003 := W62.int ty600 2
            refine c_goto (tgt := 81) C dX3_gather_70 (by decide) ?_
            refine c_aload_n (j := 0) (x := a0) C dX3_gather_81 rfl ?_
            refine hv2 (xl62.ty ty588) (show rvh53 a0 0 = rvh37 a0 0 from (fl53.r ty327 rfl 0)) (fun ty601 re117 => ?_)
            rw [re68] at re117
            have re118 : rvh61 a0 0 = rvh53 a0 0 := (fl61.r ty497 rfl 0)
            rw [re117] at re118
            have re119 : rvh62 a0 0 = rvh61 a0 0 := (fl62.r ty588 rfl 0)
            rw [re118] at re119
            refine c_getr (k := 0) C ck_4 dX3_gather_82 w1_190 (by decide) ty601 rfl rfl (by decide) rfl re119 ?_
            refine c_st (st2 := [.ref (sk 24)]) rfl ?_
            refine c_aload_n (j := 0) (x := a0) C dX3_gather_85 rfl ?_
            obtain ⟨rb35, rq35, trb35⟩ := W62.ref ty601 2 rfl rfl rfl
            have erb35 := W62.sk trb35 (by decide) rfl
            subst erb35
            refine c_getr (k := 2) C ck_4 dX3_gather_86 w1_196 (by decide) ty601 rfl rfl (by decide) rfl rq35 ?_
            refine c_st (st2 := [.ref (sk 6), .ref (sk 24)]) rfl ?_
            refine hv3 (xl62.ty ty596) (xl62.ty ty591) (Phi.le W62 sk60) (fun ty602 ty603 pl77 => ?_)
            refine d_callS (As := [.ref (sk 24), .ref (sk 6)]) (rest := []) C hM (C_markBegins_24 (a0 := (sk 24)) (a1 := (sk 6)) W62 sk60 ty602 ty603  ) dX3_gather_89 kS_X3_73 rfl rfl (Nat.le_of_ble_eq_true rfl) ⟨(Nat.le_of_ble_eq_true rfl), (Nat.le_of_ble_eq_true rfl)⟩ hph pl77 (show 0 + 0 = 0 from rfl) (by decide) (fun rh63 Lh63 clh63 lnh63 ivh63 rvh63 h63 => ?_)
            obtain ⟨rfl, xl63, fl63, W63, exf63⟩ := h63
            refine hv12 (F62.call X60 fl63 rfl) (xl62.ty ty589) (xl62.ty ty592) (xl62.ty ty593) (xl62.ty ty594) (xl62.ty ty595) (xl62.ty ty597) (xl62.ty ty590) (xl62.ty ty598) (xl62.ty ty599) (X60.trans xl63) (xl63.skl sk60) (fun F63 ty604 ty605 ty606 ty607 ty608 ty609 ty610 ty611 ty612 X61 sk61 => ?_)
            refine c_st (st2 := []) rfl ?_
            refine c_aload_n (j := 0) (x := a0) C dX3_gather_92 rfl ?_
            refine hv2 (xl63.ty ty601) (show rvh62 a0 1 = rvh61 a0 1 from (fl62.r ty588 rfl 1)) (fun ty613 re120 => ?_)
            rw [re114] at re120
            have re121 : rvh63 a0 1 = rvh62 a0 1 := (fl63.r ty601 rfl 1)
            rw [re120] at re121
            refine c_getr (k := 1) C ck_4 dX3_gather_93 w1_193 (by decide) ty613 rfl rfl (by decide) rfl re121 ?_
            refine c_st (st2 := [.ref (sk 25)]) rfl ?_
            refine c_aload_n (j := 0) (x := a0) C dX3_gather_96 rfl ?_
            obtain ⟨rb36, rq36, trb36⟩ := W63.ref ty613 3 rfl rfl rfl
            have erb36 := W63.sk trb36 (by decide) rfl
            subst erb36
            refine c_getr (k := 3) C ck_4 dX3_gather_97 w1_197 (by decide) ty613 rfl rfl (by decide) rfl rq36 ?_
            refine c_st (st2 := [.ref (sk 7), .ref (sk 25)]) rfl ?_
            refine hv3 (xl63.ty ty600) (xl63.ty ty605) (Phi.le W63 sk61) (fun ty614 ty615 pl78 => ?_)
            refine d_callS (As := [.ref (sk 25), .ref (sk 7)]) (rest := []) C hM (C_markBegins_25 (a0 := (sk 25)) (a1 := (sk 7)) W63 sk61 ty614 ty615  ) dX3_gather_100 kS_X3_73 rfl rfl (Nat.le_of_ble_eq_true rfl) ⟨(Nat.le_of_ble_eq_true rfl), (Nat.le_of_ble_eq_true rfl)⟩ hph pl78 (show 0 + 0 = 0 from rfl) (by decide) (fun rh64 Lh64 clh64 lnh64 ivh64 rvh64 h64 => ?_)
            obtain ⟨rfl, xl64, fl64, W64, exf64⟩ := h64
            refine hv13 (F63.call X61 fl64 rfl) (xl63.ty ty604) (xl63.ty ty603) (xl63.ty ty606) (xl63.ty ty607) (xl63.ty ty608) (xl63.ty ty602) (xl63.ty ty609) (xl63.ty ty610) (xl63.ty ty611) (xl63.ty ty612) (X61.trans xl64) (xl64.skl sk61) (fun F64 ty616 ty617 ty618 ty619 ty620 ty621 ty622 ty623 ty624 ty625 X62 sk62 => ?_)
            refine c_st (st2 := []) rfl ?_
            have pl79 := Phi.le W64 sk62
            exact c_vret C dX3_gather_103 rfl (by decide) (rom0 hph pl79 (by decide)) ⟨rfl, X62, F64, W64, trivial⟩
          · have tnb15 : ty Lh61 clh61 nb15 20 := tnb15
            refine c_aaldR C dX3_gather_66 ty590 rfl (by omega) (by omega) (by omega) nq15 ?_
            refine c_st (st2 := [.ref nb15, .ref (sk 25)]) rfl ?_
            have pl80 := Phi.le W61 sk59
            refine d_callS (As := [.ref (sk 25), .ref nb15]) (rest := []) C hM (C_addInd_25 (a0 := (sk 25)) (r := (some nb15)) W61 sk59 ty587 (fun _ q => by cases q; exact tnb15)  (by show ivh61 (sk 25) 2 < 6003; omega)) dX3_gather_67 kS_X3_67 rfl rfl (Nat.le_of_ble_eq_true rfl) ⟨(Nat.le_of_ble_eq_true rfl), (Nat.le_of_ble_eq_true rfl)⟩ hph pl80 (show 0 + 0 = 0 from rfl) (by decide) (fun rh65 Lh65 clh65 lnh65 ivh65 rvh65 h65 => ?_)
            obtain ⟨rfl, xl65, fl65, W65, exf65⟩ := h65
            refine hv12 (F61.call X59 fl65 rfl) (xl61.ty ty579) (xl61.ty ty580) (xl61.ty ty581) (xl61.ty ty582) (xl61.ty ty583) (xl61.ty ty496) (xl61.ty ty584) (xl61.ty ty586) (xl61.ty tnb13) (X59.trans xl65) (xl65.skl sk59) (fun F65 ty626 ty627 ty628 ty629 ty630 ty631 ty632 ty633 ty634 X63 sk63 => ?_)
            refine c_st (st2 := []) rfl ?_
            refine hv2 (xl65.ty ty587) (show ivh61 (sk 25) 2 ≤ ivh65 (sk 25) 2 ∧ ivh65 (sk 25) 2 ≤ ivh61 (sk 25) 2 + 1 from exf65) (fun ty635 gf65 => ?_)
            have ri45 : 0 ≤ ivh65 (sk 25) 2 ∧ ivh65 (sk 25) 2 ≤ 6003 := W65.int ty635 2
            refine c_goto (tgt := 81) C dX3_gather_70 (by decide) ?_
            refine c_aload_n (j := 0) (x := a0) C dX3_gather_81 rfl ?_
            refine hv2 (xl65.ty ty588) (show rvh53 a0 0 = rvh37 a0 0 from (fl53.r ty327 rfl 0)) (fun ty636 re122 => ?_)
            rw [re68] at re122
            have re123 : rvh61 a0 0 = rvh53 a0 0 := (fl61.r ty497 rfl 0)
            rw [re122] at re123
            have re124 : rvh65 a0 0 = rvh61 a0 0 := (fl65.r ty588 rfl 0)
            rw [re123] at re124
            refine c_getr (k := 0) C ck_4 dX3_gather_82 w1_190 (by decide) ty636 rfl rfl (by decide) rfl re124 ?_
            refine c_st (st2 := [.ref (sk 24)]) rfl ?_
            refine c_aload_n (j := 0) (x := a0) C dX3_gather_85 rfl ?_
            obtain ⟨rb37, rq37, trb37⟩ := W65.ref ty636 2 rfl rfl rfl
            have erb37 := W65.sk trb37 (by decide) rfl
            subst erb37
            refine c_getr (k := 2) C ck_4 dX3_gather_86 w1_196 (by decide) ty636 rfl rfl (by decide) rfl rq37 ?_
            refine c_st (st2 := [.ref (sk 6), .ref (sk 24)]) rfl ?_
            refine hv3 (xl65.ty ty631) (xl65.ty ty626) (Phi.le W65 sk63) (fun ty637 ty638 pl81 => ?_)
            refine d_callS (As := [.ref (sk 24), .ref (sk 6)]) (rest := []) C hM (C_markBegins_24 (a0 := (sk 24)) (a1 := (sk 6)) W65 sk63 ty637 ty638  ) dX3_gather_89 kS_X3_73 rfl rfl (Nat.le_of_ble_eq_true rfl) ⟨(Nat.le_of_ble_eq_true rfl), (Nat.le_of_ble_eq_true rfl)⟩ hph pl81 (show 0 + 0 = 0 from rfl) (by decide) (fun rh66 Lh66 clh66 lnh66 ivh66 rvh66 h66 => ?_)
            obtain ⟨rfl, xl66, fl66, W66, exf66⟩ := h66
            refine hv13 (F65.call X63 fl66 rfl) (xl65.ty ty589) (xl65.ty ty627) (xl65.ty ty628) (xl65.ty ty629) (xl65.ty ty630) (xl65.ty ty632) (xl65.ty ty590) (xl65.ty ty633) (xl65.ty ty634) (xl65.ty tnb15) (X63.trans xl66) (xl66.skl sk63) (fun F66 ty639 ty640 ty641 ty642 ty643 ty644 ty645 ty646 ty647 ty648 X64 sk64 => ?_)
            refine c_st (st2 := []) rfl ?_
            refine c_aload_n (j := 0) (x := a0) C dX3_gather_92 rfl ?_
            refine hv2 (xl66.ty ty636) (show rvh65 a0 1 = rvh61 a0 1 from (fl65.r ty588 rfl 1)) (fun ty649 re125 => ?_)
            rw [re114] at re125
            have re126 : rvh66 a0 1 = rvh65 a0 1 := (fl66.r ty636 rfl 1)
            rw [re125] at re126
            refine c_getr (k := 1) C ck_4 dX3_gather_93 w1_193 (by decide) ty649 rfl rfl (by decide) rfl re126 ?_
            refine c_st (st2 := [.ref (sk 25)]) rfl ?_
            refine c_aload_n (j := 0) (x := a0) C dX3_gather_96 rfl ?_
            obtain ⟨rb38, rq38, trb38⟩ := W66.ref ty649 3 rfl rfl rfl
            have erb38 := W66.sk trb38 (by decide) rfl
            subst erb38
            refine c_getr (k := 3) C ck_4 dX3_gather_97 w1_197 (by decide) ty649 rfl rfl (by decide) rfl rq38 ?_
            refine c_st (st2 := [.ref (sk 7), .ref (sk 25)]) rfl ?_
            refine hv3 (xl66.ty ty635) (xl66.ty ty640) (Phi.le W66 sk64) (fun ty650 ty651 pl82 => ?_)
            refine d_callS (As := [.ref (sk 25), .ref (sk 7)]) (rest := []) C hM (C_markBegins_25 (a0 := (sk 25)) (a1 := (sk 7)) W66 sk64 ty650 ty651  ) dX3_gather_100 kS_X3_73 rfl rfl (Nat.le_of_ble_eq_true rfl) ⟨(Nat.le_of_ble_eq_true rfl), (Nat.le_of_ble_eq_true rfl)⟩ hph pl82 (show 0 + 0 = 0 from rfl) (by decide) (fun rh67 Lh67 clh67 lnh67 ivh67 rvh67 h67 => ?_)
            obtain ⟨rfl, xl67, fl67, W67, exf67⟩ := h67
            refine hv14 (F66.call X64 fl67 rfl) (xl66.ty ty639) (xl66.ty ty638) (xl66.ty ty641) (xl66.ty ty642) (xl66.ty ty643) (xl66.ty ty637) (xl66.ty ty644) (xl66.ty ty645) (xl66.ty ty646) (xl66.ty ty647) (xl66.ty ty648) (X64.trans xl67) (xl67.skl sk64) (fun F67 ty652 ty653 ty654 ty655 ty656 ty657 ty658 ty659 ty660 ty661 ty662 X65 sk65 => ?_)
            refine c_st (st2 := []) rfl ?_
            have pl83 := Phi.le W67 sk65
            exact c_vret C dX3_gather_103 rfl (by decide) (rom0 hph pl83 (by decide)) ⟨rfl, X65, F67, W67, trivial⟩
set_option maxHeartbeats 4000000 in
set_option maxRecDepth 100000 in
theorem C_clearCells {l : Launch} {G : GT} {mi : Nat} {sk : Nat → Nat} {L : List Nat} {cl ln : Nat → Nat} {iv : Nat → Nat → Int} {rv : Nat → Nat → Option Nat}  {a0 : Nat} (hW : WT (g0 G) sk L cl ln iv rv) (hS : SKL sk L cl) (t_a0 : ty L cl a0 16)  : Mc l G mi (Phi (g0 G) sk) PHM yX3_clearCells cX3_clearCells 1 none 1 [.ref a0] L cl ln iv rv 0 (fun v L2 cl2 ln2 iv2 rv2 => v = none ∧ L = L2 ∧ cl = cl2 ∧ ln = ln2 ∧ rv = rv2 ∧ fT [8, 9] L cl iv rv iv2 rv2 ∧ WT (g0 G) sk L2 cl2 ln2 iv2 rv2 ∧ (iv2 (sk 8) 2 = 0)) := by
  refine Mc.mk (by decide) (Nat.le_of_ble_eq_true rfl) ?_
  intro p e s m args below meth c A C hM
  refine hv10 (Phi.le hW hS) (show ty L cl (sk 6) 6 from ⟨(hS 6 rfl).1, by rw [(hS 6 rfl).2]; rfl⟩) (show ty L cl (sk 7) 7 from ⟨(hS 7 rfl).1, by rw [(hS 7 rfl).2]; rfl⟩) (show ty L cl (sk 8) 8 from ⟨(hS 8 rfl).1, by rw [(hS 8 rfl).2]; rfl⟩) (show ty L cl (sk 9) 9 from ⟨(hS 9 rfl).1, by rw [(hS 9 rfl).2]; rfl⟩) (show ty L cl (sk 10) 10 from ⟨(hS 10 rfl).1, by rw [(hS 10 rfl).2]; rfl⟩) (show ty L cl (sk 24) 24 from ⟨(hS 24 rfl).1, by rw [(hS 24 rfl).2]; rfl⟩) (show ty L cl (sk 25) 25 from ⟨(hS 25 rfl).1, by rw [(hS 25 rfl).2]; rfl⟩) (show XT L cl ln L cl ln from XT.refl) (show fT [8, 9] L cl iv rv iv rv from fT.refl) (fun hph tsk6 tsk7 tsk8 tsk9 tsk10 tsk24 tsk25 hX0 hF0 => ?_)
  refine c_aload_n (j := 0) (x := a0) C dX3_clearCells_0 rfl ?_
  obtain ⟨rb1, rq1, trb1⟩ := hW.ref t_a0 4 rfl rfl rfl
  have erb1 := hW.sk trb1 (by decide) rfl
  subst erb1
  refine c_getr (k := 4) C ck_4 dX3_clearCells_1 w1_198 (by decide) t_a0 rfl rfl (by decide) rfl rq1 ?_
  refine c_st (st2 := [.ref (sk 8)]) rfl ?_
  refine d_callV (As := []) (rest := []) C hM (C_clear_8 (a0 := (sk 8)) hW hS tsk8  ) dX3_clearCells_4 kV_X3_77 rfl tsk8 rfl rfl (by decide) ck_2 rfl (Nat.le_of_ble_eq_true rfl) ⟨(Nat.le_of_ble_eq_true rfl), (Nat.le_of_ble_eq_true rfl)⟩ hph hph (show 0 + 0 = 0 from rfl) (by decide) (fun rh1 Lh1 clh1 lnh1 ivh1 rvh1 h1 => ?_)
  obtain ⟨rfl, rfl, rfl, rfl, rfl, fl1, W1, exf1⟩ := h1
  have F1 := hF0.call hX0 fl1 rfl
  refine c_st (st2 := []) rfl ?_
  refine hv2 (show 0 ≤ ivh1 (sk 8) 2 ∧ ivh1 (sk 8) 2 ≤ 40200 from W1.int tsk8 2) (show ivh1 (sk 8) 2 = 0 from exf1) (fun ri1 gf1 => ?_)
  refine c_aload_n (j := 0) (x := a0) C dX3_clearCells_7 rfl ?_
  obtain ⟨rb2, rq2, trb2⟩ := W1.ref t_a0 5 rfl rfl rfl
  have erb2 := W1.sk trb2 (by decide) rfl
  subst erb2
  refine c_getr (k := 5) C ck_4 dX3_clearCells_8 w1_199 (by decide) t_a0 rfl rfl (by decide) rfl rq2 ?_
  refine c_st (st2 := [.ref (sk 9)]) rfl ?_
  refine d_callV (As := []) (rest := []) C hM (C_clear_9 (a0 := (sk 9)) W1 hS tsk9  ) dX3_clearCells_11 kV_X3_77 rfl tsk9 rfl rfl (by decide) ck_2 rfl (Nat.le_of_ble_eq_true rfl) ⟨(Nat.le_of_ble_eq_true rfl), (Nat.le_of_ble_eq_true rfl)⟩ hph hph (show 0 + 0 = 0 from rfl) (by decide) (fun rh2 Lh2 clh2 lnh2 ivh2 rvh2 h2 => ?_)
  obtain ⟨rfl, rfl, rfl, rfl, rfl, fl2, W2, exf2⟩ := h2
  have F2 := F1.call hX0 fl2 rfl
  refine c_st (st2 := []) rfl ?_
  refine hv4 (show 0 ≤ ivh2 (sk 9) 2 ∧ ivh2 (sk 9) 2 ≤ 40200 from W2.int tsk9 2) (show ivh2 (sk 9) 2 = 0 from exf2) (show 0 ≤ ivh2 (sk 8) 2 ∧ ivh2 (sk 8) 2 ≤ 40200 from W2.int tsk8 2) (show ivh2 (sk 8) 2 = ivh1 (sk 8) 2 from fl2.i tsk8 rfl 2) (fun ri2 gf2 ri3 ie3 => ?_)
  exact c_vret C dX3_clearCells_14 rfl (by decide) (rom0 hph hph (by decide)) ⟨rfl, rfl, rfl, rfl, rfl, F2, W2, (by omega)⟩
set_option maxHeartbeats 4000000 in
set_option maxRecDepth 100000 in
theorem C_addCell {l : Launch} {G : GT} {mi : Nat} {sk : Nat → Nat} {L : List Nat} {cl ln : Nat → Nat} {iv : Nat → Nat → Int} {rv : Nat → Nat → Option Nat}  {a0 : Nat} {x : Int} {y : Int} (hW : WT (g0 G) sk L cl ln iv rv) (hS : SKL sk L cl) (t_a0 : ty L cl a0 16) (h_x : -2147483648 ≤ x ∧ x ≤ 2147483647) (h_y : -2147483648 ≤ y ∧ y ≤ 2147483647)  : Mc l G mi (Phi (g0 G) sk) PHM yX3_addCell cX3_addCell 3 none 3 [.ref a0, .int (iI x), .int (iI y)] L cl ln iv rv 0 (fun v L2 cl2 ln2 iv2 rv2 => v = none ∧ XT L cl ln L2 cl2 ln2 ∧ fT [8, 38, 9, 39] L cl iv rv iv2 rv2 ∧ WT (g0 G) sk L2 cl2 ln2 iv2 rv2 ∧ (True)) := by
  refine Mc.mk (by decide) (Nat.le_of_ble_eq_true rfl) ?_
  intro p e s m args below meth c A C hM
  refine hv10 (Phi.le hW hS) (show ty L cl (sk 6) 6 from ⟨(hS 6 rfl).1, by rw [(hS 6 rfl).2]; rfl⟩) (show ty L cl (sk 7) 7 from ⟨(hS 7 rfl).1, by rw [(hS 7 rfl).2]; rfl⟩) (show ty L cl (sk 8) 8 from ⟨(hS 8 rfl).1, by rw [(hS 8 rfl).2]; rfl⟩) (show ty L cl (sk 9) 9 from ⟨(hS 9 rfl).1, by rw [(hS 9 rfl).2]; rfl⟩) (show ty L cl (sk 10) 10 from ⟨(hS 10 rfl).1, by rw [(hS 10 rfl).2]; rfl⟩) (show ty L cl (sk 24) 24 from ⟨(hS 24 rfl).1, by rw [(hS 24 rfl).2]; rfl⟩) (show ty L cl (sk 25) 25 from ⟨(hS 25 rfl).1, by rw [(hS 25 rfl).2]; rfl⟩) (show XT L cl ln L cl ln from XT.refl) (show fT [8, 38, 9, 39] L cl iv rv iv rv from fT.refl) (fun hph tsk6 tsk7 tsk8 tsk9 tsk10 tsk24 tsk25 hX0 hF0 => ?_)
  refine c_aload_n (j := 0) (x := a0) C dX3_addCell_0 rfl ?_
  obtain ⟨rb1, rq1, trb1⟩ := hW.ref t_a0 4 rfl rfl rfl
  have erb1 := hW.sk trb1 (by decide) rfl
  subst erb1
  refine c_getr (k := 4) C ck_4 dX3_addCell_1 w1_198 (by decide) t_a0 rfl rfl (by decide) rfl rq1 ?_
  refine c_st (st2 := [.ref (sk 8)]) rfl ?_
  refine c_iload_n (j := 1) C dX3_addCell_4 rfl ?_
  have ri1 : 0 ≤ iv (sk 8) 2 ∧ iv (sk 8) 2 ≤ 40200 := hW.int tsk8 2
  refine d_callV (As := [.int (iI x)]) (rest := []) C hM (C_add_8 (a0 := (sk 8)) (x := x) hW hS tsk8 (by omega) ) dX3_addCell_5 kV_X3_91 rfl tsk8 rfl rfl (by decide) ck_2 rfl (Nat.le_of_ble_eq_true rfl) ⟨(Nat.le_of_ble_eq_true rfl), (Nat.le_of_ble_eq_true rfl)⟩ hph hph (show 0 + 0 = 0 from rfl) (by decide) (fun rh1 Lh1 clh1 lnh1 ivh1 rvh1 h1 => ?_)
  obtain ⟨rfl, xl1, fl1, W1, exf1⟩ := h1
  refine hv3 (hF0.call hX0 fl1 rfl) (hX0.trans xl1) (xl1.skl hS) (fun F1 X1 sk1 => ?_)
  refine c_st (st2 := []) rfl ?_
  refine hv2 (xl1.ty tsk8) (show ((ivh1 (sk 8) 2 = iv (sk 8) 2 ∧ iv (sk 8) 2 = 40200) ∨ (ivh1 (sk 8) 2 = iv (sk 8) 2 + 1 ∧ iv (sk 8) 2 < 40200)) from exf1) (fun ty1 gf1 => ?_)
  have ri2 : 0 ≤ ivh1 (sk 8) 2 ∧ ivh1 (sk 8) 2 ≤ 40200 := W1.int ty1 2
  refine c_aload_n (j := 0) (x := a0) C dX3_addCell_8 rfl ?_
  have ty2 := xl1.ty t_a0
  obtain ⟨rb2, rq2, trb2⟩ := W1.ref ty2 5 rfl rfl rfl
  have erb2 := W1.sk trb2 (by decide) rfl
  subst erb2
  refine c_getr (k := 5) C ck_4 dX3_addCell_9 w1_199 (by decide) ty2 rfl rfl (by decide) rfl rq2 ?_
  refine c_st (st2 := [.ref (sk 9)]) rfl ?_
  refine c_iload_n (j := 2) C dX3_addCell_12 rfl ?_
  refine hv3 (xl1.ty tsk9) (show ivh1 (sk 9) 2 = iv (sk 9) 2 from fl1.i tsk9 rfl 2) (Phi.le W1 sk1) (fun ty3 ie2 pl1 => ?_)
  have ri3 : 0 ≤ ivh1 (sk 9) 2 ∧ ivh1 (sk 9) 2 ≤ 40200 := W1.int ty3 2
  refine d_callV (As := [.int (iI y)]) (rest := []) C hM (C_add_9 (a0 := (sk 9)) (x := y) W1 sk1 ty3 (by omega) ) dX3_addCell_13 kV_X3_91 rfl ty3 rfl rfl (by decide) ck_2 rfl (Nat.le_of_ble_eq_true rfl) ⟨(Nat.le_of_ble_eq_true rfl), (Nat.le_of_ble_eq_true rfl)⟩ hph pl1 (show 0 + 0 = 0 from rfl) (by decide) (fun rh2 Lh2 clh2 lnh2 ivh2 rvh2 h2 => ?_)
  obtain ⟨rfl, xl2, fl2, W2, exf2⟩ := h2
  refine hv8 (F1.call X1 fl2 rfl) (xl1.ty tsk6) (xl1.ty tsk7) (xl1.ty tsk10) (xl1.ty tsk24) (xl1.ty tsk25) (X1.trans xl2) (xl2.skl sk1) (fun F2 ty4 ty5 ty6 ty7 ty8 X2 sk2 => ?_)
  refine c_st (st2 := []) rfl ?_
  refine hv3 (xl2.ty ty3) (show ((ivh2 (sk 9) 2 = ivh1 (sk 9) 2 ∧ ivh1 (sk 9) 2 = 40200) ∨ (ivh2 (sk 9) 2 = ivh1 (sk 9) 2 + 1 ∧ ivh1 (sk 9) 2 < 40200)) from exf2) (Phi.le W2 sk2) (fun ty9 gf2 pl2 => ?_)
  have ri4 : 0 ≤ ivh2 (sk 9) 2 ∧ ivh2 (sk 9) 2 ≤ 40200 := W2.int ty9 2
  exact c_vret C dX3_addCell_16 rfl (by decide) (rom0 hph pl2 (by decide)) ⟨rfl, X2, F2, W2, trivial⟩
set_option maxHeartbeats 4000000 in
set_option maxRecDepth 100000 in
theorem C_chain {l : Launch} {G : GT} {mi : Nat} {sk : Nat → Nat} {L : List Nat} {cl ln : Nat → Nat} {iv : Nat → Nat → Int} {rv : Nat → Nat → Option Nat}  {a0 : Nat} {a1 : Nat} {x : Int} {y : Int} {g : Int} (hW : WT (g0 G) sk L cl ln iv rv) (hS : SKL sk L cl) (t_a0 : ty L cl a0 16) (t_a1 : ty L cl a1 19) (h_x : -2147483648 ≤ x ∧ x ≤ 2147483647) (h_y : -2147483648 ≤ y ∧ y ≤ 2147483647) (h_g : -2147483648 ≤ g ∧ g ≤ 2147483647)  : Mc l G mi (Phi (g0 G) sk) PHM yX3_chain cX3_chain 8 none 4 [.ref a0, .ref a1, .int (iI x), .int (iI y), .int (iI g)] L cl ln iv rv 0 (fun v L2 cl2 ln2 iv2 rv2 => v = none ∧ XT L cl ln L2 cl2 ln2 ∧ fT [8, 38, 9, 39] L cl iv rv iv2 rv2 ∧ WT (g0 G) sk L2 cl2 ln2 iv2 rv2 ∧ (True)) := by
  refine Mc.mk (by decide) (Nat.le_of_ble_eq_true rfl) ?_
  intro p e s m args below meth c A C hM
  refine hv10 (Phi.le hW hS) (show ty L cl (sk 6) 6 from ⟨(hS 6 rfl).1, by rw [(hS 6 rfl).2]; rfl⟩) (show ty L cl (sk 7) 7 from ⟨(hS 7 rfl).1, by rw [(hS 7 rfl).2]; rfl⟩) (show ty L cl (sk 8) 8 from ⟨(hS 8 rfl).1, by rw [(hS 8 rfl).2]; rfl⟩) (show ty L cl (sk 9) 9 from ⟨(hS 9 rfl).1, by rw [(hS 9 rfl).2]; rfl⟩) (show ty L cl (sk 10) 10 from ⟨(hS 10 rfl).1, by rw [(hS 10 rfl).2]; rfl⟩) (show ty L cl (sk 24) 24 from ⟨(hS 24 rfl).1, by rw [(hS 24 rfl).2]; rfl⟩) (show ty L cl (sk 25) 25 from ⟨(hS 25 rfl).1, by rw [(hS 25 rfl).2]; rfl⟩) (show XT L cl ln L cl ln from XT.refl) (show fT [8, 38, 9, 39] L cl iv rv iv rv from fT.refl) (fun hph tsk6 tsk7 tsk8 tsk9 tsk10 tsk24 tsk25 hX0 hF0 => ?_)
  refine c_aload_n (j := 1) (x := a1) C dX3_chain_0 rfl ?_
  refine c_iload_n (j := 3) C dX3_chain_1 rfl ?_
  have ri1 : 0 ≤ iv a1 1 ∧ iv a1 1 ≤ 200 := hW.int t_a1 1
  refine d_callV (As := [.int (iI y)]) (rest := []) C hM (C_lends (a0 := a1) (x := y) hW hS t_a1 (by omega) ) dX3_chain_2 kV_X3_108 rfl t_a1 rfl rfl (by decide) ck_3 rfl (Nat.le_of_ble_eq_true rfl) ⟨(Nat.le_of_ble_eq_true rfl), (Nat.le_of_ble_eq_true rfl)⟩ hph hph (show 0 + 0 = 0 from rfl) (by decide) (fun rh1 Lh1 clh1 lnh1 ivh1 rvh1 h1 => ?_)
  obtain ⟨f1, rfl, rfl, rfl, rfl, rfl, rfl, rgf1, exf1⟩ := h1
  refine c_st (st2 := [.int (iI f1)]) rfl ?_
  have gf1 : f1 = 0 ∨ 0 < iv a1 1 := exf1
  refine c_istore (lv2 := [(5, .int (iI f1)), (0, .ref a0), (1, .ref a1), (2, .int (iI x)), (3, .int (iI y)), (4, .int (iI g))]) C dX3_chain_5 (by decide) rfl ?_
  refine c_iload (j := 0) C dX3_chain_7 rfl ?_
  refine c_if_eq (tgt := 21) C ⟨by omega, by omega⟩ dX3_chain_9 (by decide) (fun c1 => ?_) (fun c1 => ?_)
  · refine c_aload_n (j := 2) (x := a1) C dX3_chain_21 rfl ?_
    refine c_get (k := 1) C ck_3 dX3_chain_22 w4_52 (by decide) t_a1 rfl rfl (by decide) rfl ?_
    refine c_istore (lv2 := [(6, .int (iI (iv a1 1))), (5, .int (iI f1)), (0, .ref a0), (1, .ref a1), (2, .int (iI x)), (3, .int (iI y)), (4, .int (iI g))]) C dX3_chain_25 (by decide) rfl ?_
    refine c_iconst C dX3_chain_27 ?_
    refine c_istore (lv2 := [(7, .int (iI 0)), (6, .int (iI (iv a1 1))), (5, .int (iI f1)), (0, .ref a0), (1, .ref a1), (2, .int (iI x)), (3, .int (iI y)), (4, .int (iI g))]) C dX3_chain_28 (by decide) rfl ?_
    have Lp1 : ∀ (nn : Nat) (k : Int) (Lb1 : List Nat) (clb1 lnb1 : Nat → Nat) (ivb1 : Nat → Nat → Int) (rvb1 : Nat → Nat → Option Nat) , 201 - k < (nn : Int) → XT L cl ln Lb1 clb1 lnb1 → WT (g0 G) sk Lb1 clb1 lnb1 ivb1 rvb1 → fT [8, 38, 9, 39] L cl iv rv ivb1 rvb1 → (0 ≤ k ∧ k ≤ 200) → cw p l e 4 ((PHM) + 0 - ((Phi (g0 G) sk) ln rv)) s m args below meth c G A 8 (MQ below (Qu G A (Qp G (Phi (g0 G) sk) ((Phi (g0 G) sk) ln rv) 0 (fun v L2 cl2 ln2 iv2 rv2 => v = none ∧ XT L cl ln L2 cl2 ln2 ∧ fT [8, 38, 9, 39] L cl iv rv iv2 rv2 ∧ WT (g0 G) sk L2 cl2 ln2 iv2 rv2 ∧ (True)))) args s (((PHM) + 0 - ((Phi (g0 G) sk) ln rv)) / 16) ((PHM) + 0 - ((Phi (g0 G) sk) ln rv)) A) (Phi (g0 G) sk) ((Phi (g0 G) sk) ln rv) Lb1 clb1 lnb1 ivb1 rvb1 0 30 [(7, .int (iI k)), (6, .int (iI (iv a1 1))), (5, .int (iI f1)), (0, .ref a0), (1, .ref a1), (2, .int (iI x)), (3, .int (iI y)), (4, .int (iI g))] [] := by
      intro nn
      induction nn with
      | zero =>
        intro  k Lb1 clb1 lnb1 ivb1 rvb1 hm Xb1 Wb1 Fb1  hk
        have skb1 := Xb1.skl hS
        exact absurd hm (by omega)
      | succ nn ih1 =>
        intro  k Lb1 clb1 lnb1 ivb1 rvb1 hm Xb1 Wb1 Fb1  hk
        have skb1 := Xb1.skl hS
        refine c_iload (j := 0) C dX3_chain_30 rfl ?_
        refine c_iload (j := 1) C dX3_chain_32 rfl ?_
        refine c_icmp_ge (tgt := 62) C ⟨by omega, by omega⟩ ⟨by omega, by omega⟩ dX3_chain_34 (by decide) (fun c2 => ?_) (fun c2 => ?_)
        · refine c_iload (j := 2) C dX3_chain_62 rfl ?_
          refine c_if_ne (tgt := 78) C ⟨by omega, by omega⟩ dX3_chain_64 (by decide) (fun c3 => ?_) (fun c3 => ?_)
          · have pl1 := Phi.le Wb1 skb1
            exact c_vret C dX3_chain_78 rfl (by decide) (rom0 hph pl1 (by decide)) ⟨rfl, Xb1, Fb1, Wb1, trivial⟩
          · refine c_iload (j := 7) C dX3_chain_67 rfl ?_
            refine c_if_ne (tgt := 78) C ⟨by omega, by omega⟩ dX3_chain_69 (by decide) (fun c4 => ?_) (fun c4 => ?_)
            · have pl2 := Phi.le Wb1 skb1
              exact c_vret C dX3_chain_78 rfl (by decide) (rom0 hph pl2 (by decide)) ⟨rfl, Xb1, Fb1, Wb1, trivial⟩
            · refine c_aload_n (j := 3) (x := a0) C dX3_chain_72 rfl ?_
              refine c_iconst C dX3_chain_73 ?_
              refine c_iconst C dX3_chain_74 ?_
              refine hv2 (Xb1.ty t_a0) (Phi.le Wb1 skb1) (fun ty1 pl3 => ?_)
              refine d_callV (As := [.int (iI 0), .int (iI (-1))]) (rest := []) C hM (C_addCell (a0 := a0) (x := 0) (y := (-1)) Wb1 skb1 ty1 ⟨by decide, by decide⟩ ⟨by decide, by decide⟩ ) dX3_chain_75 kV_X3_114 rfl ty1 rfl rfl (by decide) ck_4 rfl (Nat.le_of_ble_eq_true rfl) ⟨(Nat.le_of_ble_eq_true rfl), (Nat.le_of_ble_eq_true rfl)⟩ hph pl3 (show 0 + 0 = 0 from rfl) (by decide) (fun rh2 Lh2 clh2 lnh2 ivh2 rvh2 h2 => ?_)
              obtain ⟨rfl, xl2, fl2, W2, exf2⟩ := h2
              refine hv11 (Fb1.call Xb1 fl2 rfl) (Xb1.ty t_a1) (Xb1.ty tsk6) (Xb1.ty tsk7) (Xb1.ty tsk8) (Xb1.ty tsk9) (Xb1.ty tsk10) (Xb1.ty tsk24) (Xb1.ty tsk25) (Xb1.trans xl2) (xl2.skl skb1) (fun F1 ty2 ty3 ty4 ty5 ty6 ty7 ty8 ty9 X1 sk1 => ?_)
              refine c_st (st2 := []) rfl ?_
              have pl4 := Phi.le W2 sk1
              exact c_vret C dX3_chain_78 rfl (by decide) (rom0 hph pl4 (by decide)) ⟨rfl, X1, F1, W2, trivial⟩
        · refine c_aload_n (j := 3) (x := a0) C dX3_chain_37 rfl ?_
          refine c_aload_n (j := 4) (x := a1) C dX3_chain_38 rfl ?_
          have ty10 := Xb1.ty t_a1
          obtain ⟨rb1, rq1, trb1⟩ := Wb1.ref ty10 0 rfl rfl rfl
          have lnrb1 : 200 ≤ lnb1 rb1 ∧ lnb1 rb1 ≤ 200 := Wb1.len trb1 rfl
          refine c_getr (k := 0) C ck_3 dX3_chain_39 w4_46 (by decide) ty10 rfl rfl (by decide) rfl rq1 ?_
          refine c_st (st2 := [.ref rb1, .ref a0]) rfl ?_
          refine c_iload (j := 0) C dX3_chain_42 rfl ?_
          have ll1 : 200 ≤ lnb1 rb1 ∧ lnb1 rb1 ≤ 200 := Wb1.len trb1 rfl
          refine c_iald C dX3_chain_44 trb1 rfl (by omega) (by omega) (by omega) ?_
          have ri2 : (-2147483648) ≤ ivb1 rb1 k.toNat ∧ ivb1 rb1 k.toNat ≤ 2147483647 := Wb1.int trb1 k.toNat
          refine c_iload_n (j := 5) C dX3_chain_45 rfl ?_
          refine c_sipush (z := 1000) C dX3_chain_46 (by decide) ?_
          refine c_imul C dX3_chain_49 ?_
          obtain ⟨zz1, hzz1, ezz1⟩ := iI_of (iI (x * 1000))
          refine c_st (st2 := [.int (iI zz1), .int (iI (ivb1 rb1 k.toNat)), .ref a0]) (by rw [ezz1]) ?_
          refine c_iload (j := 0) C dX3_chain_50 rfl ?_
          refine c_iadd C dX3_chain_52 ?_
          obtain ⟨zz2, hzz2, ezz2⟩ := iI_of (iI (zz1 + k))
          refine c_st (st2 := [.int (iI zz2), .int (iI (ivb1 rb1 k.toNat)), .ref a0]) (by rw [ezz2]) ?_
          refine hv2 (Xb1.ty t_a0) (Phi.le Wb1 skb1) (fun ty11 pl5 => ?_)
          refine d_callV (As := [.int (iI (ivb1 rb1 k.toNat)), .int (iI zz2)]) (rest := []) C hM (C_addCell (a0 := a0) (x := ivb1 rb1 k.toNat) (y := zz2) Wb1 skb1 ty11 (by omega) (by omega) ) dX3_chain_53 kV_X3_114 rfl ty11 rfl rfl (by decide) ck_4 rfl (Nat.le_of_ble_eq_true rfl) ⟨(Nat.le_of_ble_eq_true rfl), (Nat.le_of_ble_eq_true rfl)⟩ hph pl5 (show 0 + 0 = 0 from rfl) (by decide) (fun rh3 Lh3 clh3 lnh3 ivh3 rvh3 h3 => ?_)
          obtain ⟨rfl, xl3, fl3, W3, exf3⟩ := h3
          refine hv10 (Fb1.call Xb1 fl3 rfl) (Xb1.ty tsk6) (Xb1.ty tsk7) (Xb1.ty tsk8) (Xb1.ty tsk9) (Xb1.ty tsk10) (Xb1.ty tsk24) (Xb1.ty tsk25) (Xb1.trans xl3) (xl3.skl skb1) (fun F2 ty12 ty13 ty14 ty15 ty16 ty17 ty18 X2 sk2 => ?_)
          refine c_st (st2 := []) rfl ?_
          refine c_iinc (z := k) (j := 0) (lv2 := [(7, .int (iI (k + 1))), (6, .int (iI (iv a1 1))), (5, .int (iI f1)), (0, .ref a0), (1, .ref a1), (2, .int (iI x)), (3, .int (iI y)), (4, .int (iI g))]) C dX3_chain_56 rfl (by decide) rfl ?_
          refine c_goto (tgt := 30) C dX3_chain_59 (by decide) ?_
          refine c_lv (lv2 := [(7, .int (iI (k + 1))), (6, .int (iI (iv a1 1))), (5, .int (iI f1)), (0, .ref a0), (1, .ref a1), (2, .int (iI x)), (3, .int (iI y)), (4, .int (iI g))]) [0, 1, 2, 3, 4, 5, 6, 7] rfl ?_
          exact ih1  (k + 1) _ _ _ _ _ (by omega) X2 W3 F2  (by omega)
    refine c_lv (lv2 := [(7, .int (iI 0)), (6, .int (iI (iv a1 1))), (5, .int (iI f1)), (0, .ref a0), (1, .ref a1), (2, .int (iI x)), (3, .int (iI y)), (4, .int (iI g))]) [0, 1, 2, 3, 4, 5, 6, 7] rfl ?_
    exact Lp1 203 0 _ _ _ _ _ (by omega) hX0 hW hF0  (by omega)
  · refine c_aload_n (j := 2) (x := a1) C dX3_chain_12 rfl ?_
    refine c_get (k := 1) C ck_3 dX3_chain_13 w4_52 (by decide) t_a1 rfl rfl (by decide) rfl ?_
    refine c_iconst C dX3_chain_16 ?_
    refine c_isub C dX3_chain_17 ?_
    refine c_goto (tgt := 25) C dX3_chain_18 (by decide) ?_
    refine c_istore (lv2 := [(6, .int (iI ((iv a1 1) - 1))), (5, .int (iI f1)), (0, .ref a0), (1, .ref a1), (2, .int (iI x)), (3, .int (iI y)), (4, .int (iI g))]) C dX3_chain_25 (by decide) rfl ?_
    refine c_iconst C dX3_chain_27 ?_
    refine c_istore (lv2 := [(7, .int (iI 0)), (6, .int (iI ((iv a1 1) - 1))), (5, .int (iI f1)), (0, .ref a0), (1, .ref a1), (2, .int (iI x)), (3, .int (iI y)), (4, .int (iI g))]) C dX3_chain_28 (by decide) rfl ?_
    have Lp2 : ∀ (nn : Nat) (k : Int) (Lb2 : List Nat) (clb2 lnb2 : Nat → Nat) (ivb2 : Nat → Nat → Int) (rvb2 : Nat → Nat → Option Nat) , 201 - k < (nn : Int) → XT L cl ln Lb2 clb2 lnb2 → WT (g0 G) sk Lb2 clb2 lnb2 ivb2 rvb2 → fT [8, 38, 9, 39] L cl iv rv ivb2 rvb2 → (0 ≤ k ∧ k ≤ 200) → cw p l e 4 ((PHM) + 0 - ((Phi (g0 G) sk) ln rv)) s m args below meth c G A 8 (MQ below (Qu G A (Qp G (Phi (g0 G) sk) ((Phi (g0 G) sk) ln rv) 0 (fun v L2 cl2 ln2 iv2 rv2 => v = none ∧ XT L cl ln L2 cl2 ln2 ∧ fT [8, 38, 9, 39] L cl iv rv iv2 rv2 ∧ WT (g0 G) sk L2 cl2 ln2 iv2 rv2 ∧ (True)))) args s (((PHM) + 0 - ((Phi (g0 G) sk) ln rv)) / 16) ((PHM) + 0 - ((Phi (g0 G) sk) ln rv)) A) (Phi (g0 G) sk) ((Phi (g0 G) sk) ln rv) Lb2 clb2 lnb2 ivb2 rvb2 0 30 [(7, .int (iI k)), (6, .int (iI ((iv a1 1) - 1))), (5, .int (iI f1)), (0, .ref a0), (1, .ref a1), (2, .int (iI x)), (3, .int (iI y)), (4, .int (iI g))] [] := by
      intro nn
      induction nn with
      | zero =>
        intro  k Lb2 clb2 lnb2 ivb2 rvb2 hm Xb2 Wb2 Fb2  hk
        have skb2 := Xb2.skl hS
        exact absurd hm (by omega)
      | succ nn ih2 =>
        intro  k Lb2 clb2 lnb2 ivb2 rvb2 hm Xb2 Wb2 Fb2  hk
        have skb2 := Xb2.skl hS
        refine c_iload (j := 0) C dX3_chain_30 rfl ?_
        refine c_iload (j := 1) C dX3_chain_32 rfl ?_
        refine c_icmp_ge (tgt := 62) C ⟨by omega, by omega⟩ ⟨by omega, by omega⟩ dX3_chain_34 (by decide) (fun c5 => ?_) (fun c5 => ?_)
        · refine c_iload (j := 2) C dX3_chain_62 rfl ?_
          refine c_if_ne (tgt := 78) C ⟨by omega, by omega⟩ dX3_chain_64 (by decide) (fun c6 => ?_) (fun c6 => ?_)
          · have pl6 := Phi.le Wb2 skb2
            exact c_vret C dX3_chain_78 rfl (by decide) (rom0 hph pl6 (by decide)) ⟨rfl, Xb2, Fb2, Wb2, trivial⟩
          · refine c_iload (j := 7) C dX3_chain_67 rfl ?_
            refine c_if_ne (tgt := 78) C ⟨by omega, by omega⟩ dX3_chain_69 (by decide) (fun c7 => ?_) (fun c7 => ?_)
            · have pl7 := Phi.le Wb2 skb2
              exact c_vret C dX3_chain_78 rfl (by decide) (rom0 hph pl7 (by decide)) ⟨rfl, Xb2, Fb2, Wb2, trivial⟩
            · refine c_aload_n (j := 3) (x := a0) C dX3_chain_72 rfl ?_
              refine c_iconst C dX3_chain_73 ?_
              refine c_iconst C dX3_chain_74 ?_
              refine hv2 (Xb2.ty t_a0) (Phi.le Wb2 skb2) (fun ty19 pl8 => ?_)
              refine d_callV (As := [.int (iI 0), .int (iI (-1))]) (rest := []) C hM (C_addCell (a0 := a0) (x := 0) (y := (-1)) Wb2 skb2 ty19 ⟨by decide, by decide⟩ ⟨by decide, by decide⟩ ) dX3_chain_75 kV_X3_114 rfl ty19 rfl rfl (by decide) ck_4 rfl (Nat.le_of_ble_eq_true rfl) ⟨(Nat.le_of_ble_eq_true rfl), (Nat.le_of_ble_eq_true rfl)⟩ hph pl8 (show 0 + 0 = 0 from rfl) (by decide) (fun rh4 Lh4 clh4 lnh4 ivh4 rvh4 h4 => ?_)
              obtain ⟨rfl, xl4, fl4, W4, exf4⟩ := h4
              refine hv11 (Fb2.call Xb2 fl4 rfl) (Xb2.ty t_a1) (Xb2.ty tsk6) (Xb2.ty tsk7) (Xb2.ty tsk8) (Xb2.ty tsk9) (Xb2.ty tsk10) (Xb2.ty tsk24) (Xb2.ty tsk25) (Xb2.trans xl4) (xl4.skl skb2) (fun F3 ty20 ty21 ty22 ty23 ty24 ty25 ty26 ty27 X3 sk3 => ?_)
              refine c_st (st2 := []) rfl ?_
              have pl9 := Phi.le W4 sk3
              exact c_vret C dX3_chain_78 rfl (by decide) (rom0 hph pl9 (by decide)) ⟨rfl, X3, F3, W4, trivial⟩
        · refine c_aload_n (j := 3) (x := a0) C dX3_chain_37 rfl ?_
          refine c_aload_n (j := 4) (x := a1) C dX3_chain_38 rfl ?_
          have ty28 := Xb2.ty t_a1
          obtain ⟨rb2, rq2, trb2⟩ := Wb2.ref ty28 0 rfl rfl rfl
          have lnrb2 : 200 ≤ lnb2 rb2 ∧ lnb2 rb2 ≤ 200 := Wb2.len trb2 rfl
          refine c_getr (k := 0) C ck_3 dX3_chain_39 w4_46 (by decide) ty28 rfl rfl (by decide) rfl rq2 ?_
          refine c_st (st2 := [.ref rb2, .ref a0]) rfl ?_
          refine c_iload (j := 0) C dX3_chain_42 rfl ?_
          have ll2 : 200 ≤ lnb2 rb2 ∧ lnb2 rb2 ≤ 200 := Wb2.len trb2 rfl
          refine c_iald C dX3_chain_44 trb2 rfl (by omega) (by omega) (by omega) ?_
          have ri3 : (-2147483648) ≤ ivb2 rb2 k.toNat ∧ ivb2 rb2 k.toNat ≤ 2147483647 := Wb2.int trb2 k.toNat
          refine c_iload_n (j := 5) C dX3_chain_45 rfl ?_
          refine c_sipush (z := 1000) C dX3_chain_46 (by decide) ?_
          refine c_imul C dX3_chain_49 ?_
          obtain ⟨zz3, hzz3, ezz3⟩ := iI_of (iI (x * 1000))
          refine c_st (st2 := [.int (iI zz3), .int (iI (ivb2 rb2 k.toNat)), .ref a0]) (by rw [ezz3]) ?_
          refine c_iload (j := 0) C dX3_chain_50 rfl ?_
          refine c_iadd C dX3_chain_52 ?_
          obtain ⟨zz4, hzz4, ezz4⟩ := iI_of (iI (zz3 + k))
          refine c_st (st2 := [.int (iI zz4), .int (iI (ivb2 rb2 k.toNat)), .ref a0]) (by rw [ezz4]) ?_
          refine hv2 (Xb2.ty t_a0) (Phi.le Wb2 skb2) (fun ty29 pl10 => ?_)
          refine d_callV (As := [.int (iI (ivb2 rb2 k.toNat)), .int (iI zz4)]) (rest := []) C hM (C_addCell (a0 := a0) (x := ivb2 rb2 k.toNat) (y := zz4) Wb2 skb2 ty29 (by omega) (by omega) ) dX3_chain_53 kV_X3_114 rfl ty29 rfl rfl (by decide) ck_4 rfl (Nat.le_of_ble_eq_true rfl) ⟨(Nat.le_of_ble_eq_true rfl), (Nat.le_of_ble_eq_true rfl)⟩ hph pl10 (show 0 + 0 = 0 from rfl) (by decide) (fun rh5 Lh5 clh5 lnh5 ivh5 rvh5 h5 => ?_)
          obtain ⟨rfl, xl5, fl5, W5, exf5⟩ := h5
          refine hv10 (Fb2.call Xb2 fl5 rfl) (Xb2.ty tsk6) (Xb2.ty tsk7) (Xb2.ty tsk8) (Xb2.ty tsk9) (Xb2.ty tsk10) (Xb2.ty tsk24) (Xb2.ty tsk25) (Xb2.trans xl5) (xl5.skl skb2) (fun F4 ty30 ty31 ty32 ty33 ty34 ty35 ty36 X4 sk4 => ?_)
          refine c_st (st2 := []) rfl ?_
          refine c_iinc (z := k) (j := 0) (lv2 := [(7, .int (iI (k + 1))), (6, .int (iI ((iv a1 1) - 1))), (5, .int (iI f1)), (0, .ref a0), (1, .ref a1), (2, .int (iI x)), (3, .int (iI y)), (4, .int (iI g))]) C dX3_chain_56 rfl (by decide) rfl ?_
          refine c_goto (tgt := 30) C dX3_chain_59 (by decide) ?_
          refine c_lv (lv2 := [(7, .int (iI (k + 1))), (6, .int (iI ((iv a1 1) - 1))), (5, .int (iI f1)), (0, .ref a0), (1, .ref a1), (2, .int (iI x)), (3, .int (iI y)), (4, .int (iI g))]) [0, 1, 2, 3, 4, 5, 6, 7] rfl ?_
          exact ih2  (k + 1) _ _ _ _ _ (by omega) X4 W5 F4  (by omega)
    refine c_lv (lv2 := [(7, .int (iI 0)), (6, .int (iI ((iv a1 1) - 1))), (5, .int (iI f1)), (0, .ref a0), (1, .ref a1), (2, .int (iI x)), (3, .int (iI y)), (4, .int (iI g))]) [0, 1, 2, 3, 4, 5, 6, 7] rfl ?_
    exact Lp2 203 0 _ _ _ _ _ (by omega) hX0 hW hF0  (by omega)
set_option maxHeartbeats 4000000 in
set_option maxRecDepth 100000 in
theorem C_placeOfWrong {l : Launch} {G : GT} {mi : Nat} {sk : Nat → Nat} {L : List Nat} {cl ln : Nat → Nat} {iv : Nat → Nat → Int} {rv : Nat → Nat → Option Nat}  {a0 : Nat} (hW : WT (g0 G) sk L cl ln iv rv) (hS : SKL sk L cl) (t_a0 : ty L cl a0 16)  : Mc l G mi (Phi (g0 G) sk) PHM yX3_placeOfWrong cX3_placeOfWrong 1 (some .int) 1 [.ref a0] L cl ln iv rv 0 (fun v L2 cl2 ln2 iv2 rv2 => ∃ f : Int, v = some (.int (iI f)) ∧ L = L2 ∧ cl = cl2 ∧ ln = ln2 ∧ iv = iv2 ∧ rv = rv2 ∧ (-2147483648 ≤ f ∧ f ≤ 2147483647) ∧ (True)) := by
  refine Mc.mk (by decide) (Nat.le_of_ble_eq_true rfl) ?_
  intro p e s m args below meth c A C hM
  refine hv10 (Phi.le hW hS) (show ty L cl (sk 6) 6 from ⟨(hS 6 rfl).1, by rw [(hS 6 rfl).2]; rfl⟩) (show ty L cl (sk 7) 7 from ⟨(hS 7 rfl).1, by rw [(hS 7 rfl).2]; rfl⟩) (show ty L cl (sk 8) 8 from ⟨(hS 8 rfl).1, by rw [(hS 8 rfl).2]; rfl⟩) (show ty L cl (sk 9) 9 from ⟨(hS 9 rfl).1, by rw [(hS 9 rfl).2]; rfl⟩) (show ty L cl (sk 10) 10 from ⟨(hS 10 rfl).1, by rw [(hS 10 rfl).2]; rfl⟩) (show ty L cl (sk 24) 24 from ⟨(hS 24 rfl).1, by rw [(hS 24 rfl).2]; rfl⟩) (show ty L cl (sk 25) 25 from ⟨(hS 25 rfl).1, by rw [(hS 25 rfl).2]; rfl⟩) (show XT L cl ln L cl ln from XT.refl) (show fT [] L cl iv rv iv rv from fT.refl) (fun hph tsk6 tsk7 tsk8 tsk9 tsk10 tsk24 tsk25 hX0 hF0 => ?_)
  refine c_aload_n (j := 0) (x := a0) C dX3_placeOfWrong_0 rfl ?_
  obtain ⟨rb1, rq1, trb1⟩ := hW.ref t_a0 4 rfl rfl rfl
  have erb1 := hW.sk trb1 (by decide) rfl
  subst erb1
  refine c_getr (k := 4) C ck_4 dX3_placeOfWrong_1 w1_198 (by decide) t_a0 rfl rfl (by decide) rfl rq1 ?_
  refine c_st (st2 := [.ref (sk 8)]) rfl ?_
  refine c_aload_n (j := 0) (x := a0) C dX3_placeOfWrong_4 rfl ?_
  have ri1 : (-2147483648) ≤ iv a0 7 ∧ iv a0 7 ≤ 2147483647 := hW.int t_a0 7
  refine c_get (k := 7) C ck_4 dX3_placeOfWrong_5 w1_202 (by decide) t_a0 rfl rfl (by decide) rfl ?_
  have ri2 : 0 ≤ iv (sk 8) 2 ∧ iv (sk 8) 2 ≤ 40200 := hW.int tsk8 2
  refine d_callV (As := [.int (iI (iv a0 7))]) (rest := []) C hM (C_at_8 (a0 := (sk 8)) (i := iv a0 7) hW hS tsk8 (by omega) ) dX3_placeOfWrong_8 kV_X3_119 rfl tsk8 rfl rfl (by decide) ck_2 rfl (Nat.le_of_ble_eq_true rfl) ⟨(Nat.le_of_ble_eq_true rfl), (Nat.le_of_ble_eq_true rfl)⟩ hph hph (show 0 + 0 = 0 from rfl) (by decide) (fun rh1 Lh1 clh1 lnh1 ivh1 rvh1 h1 => ?_)
  obtain ⟨f1, rfl, rfl, rfl, rfl, rfl, rfl, rgf1, exf1⟩ := h1
  refine c_st (st2 := [.int (iI f1)]) rfl ?_
  have gf1 : ((0 ≤ (iv a0 7) ∧ (iv a0 7) < iv (sk 8) 2) ∨ f1 = 0) ∧ ∀ ss, CT iv rv (sk 8) ss → 0 ≤ (iv a0 7) → (iv a0 7) < iv (sk 8) 2 → f1 = ss (iv a0 7).toNat := exf1
  refine c_if_eq (tgt := 28) C ⟨by omega, by omega⟩ dX3_placeOfWrong_11 (by decide) (fun c1 => ?_) (fun c1 => ?_)
  · refine c_aload_n (j := 0) (x := a0) C dX3_placeOfWrong_28 rfl ?_
    obtain ⟨rb2, rq2, trb2⟩ := hW.ref t_a0 5 rfl rfl rfl
    have erb2 := hW.sk trb2 (by decide) rfl
    subst erb2
    refine c_getr (k := 5) C ck_4 dX3_placeOfWrong_29 w1_199 (by decide) t_a0 rfl rfl (by decide) rfl rq2 ?_
    refine c_st (st2 := [.ref (sk 9)]) rfl ?_
    refine c_aload_n (j := 0) (x := a0) C dX3_placeOfWrong_32 rfl ?_
    refine c_get (k := 7) C ck_4 dX3_placeOfWrong_33 w1_202 (by decide) t_a0 rfl rfl (by decide) rfl ?_
    refine c_iconst C dX3_placeOfWrong_36 ?_
    refine c_isub C dX3_placeOfWrong_37 ?_
    obtain ⟨zz1, hzz1, ezz1⟩ := iI_of (iI ((iv a0 7) - 1))
    refine c_st (st2 := [.int (iI zz1), .ref (sk 9)]) (by rw [ezz1]) ?_
    have ri3 : 0 ≤ iv (sk 9) 2 ∧ iv (sk 9) 2 ≤ 40200 := hW.int tsk9 2
    refine d_callV (As := [.int (iI zz1)]) (rest := []) C hM (C_at_9 (a0 := (sk 9)) (i := zz1) hW hS tsk9 (by omega) ) dX3_placeOfWrong_38 kV_X3_119 rfl tsk9 rfl rfl (by decide) ck_2 rfl (Nat.le_of_ble_eq_true rfl) ⟨(Nat.le_of_ble_eq_true rfl), (Nat.le_of_ble_eq_true rfl)⟩ hph hph (show 0 + 0 = 0 from rfl) (by decide) (fun rh2 Lh2 clh2 lnh2 ivh2 rvh2 h2 => ?_)
    obtain ⟨f2, rfl, rfl, rfl, rfl, rfl, rfl, rgf2, exf2⟩ := h2
    refine c_st (st2 := [.int (iI f2)]) rfl ?_
    have gf2 : ((0 ≤ zz1 ∧ zz1 < iv (sk 9) 2) ∨ f2 = 0) ∧ ∀ ss, CT iv rv (sk 9) ss → 0 ≤ zz1 → zz1 < iv (sk 9) 2 → f2 = ss zz1.toNat := exf2
    refine c_iconst C dX3_placeOfWrong_41 ?_
    refine c_iadd C dX3_placeOfWrong_42 ?_
    obtain ⟨zz2, hzz2, ezz2⟩ := iI_of (iI (f2 + 1))
    refine c_st (st2 := [.int (iI zz2)]) (by rw [ezz2]) ?_
    exact c_iret C dX3_placeOfWrong_43 rfl (by decide) (rom0 hph hph (by decide)) ⟨zz2, rfl, rfl, rfl, rfl, rfl, rfl, ⟨by omega, by omega⟩, trivial⟩
  · refine c_aload_n (j := 0) (x := a0) C dX3_placeOfWrong_14 rfl ?_
    obtain ⟨rb3, rq3, trb3⟩ := hW.ref t_a0 5 rfl rfl rfl
    have erb3 := hW.sk trb3 (by decide) rfl
    subst erb3
    refine c_getr (k := 5) C ck_4 dX3_placeOfWrong_15 w1_199 (by decide) t_a0 rfl rfl (by decide) rfl rq3 ?_
    refine c_st (st2 := [.ref (sk 9)]) rfl ?_
    refine c_aload_n (j := 0) (x := a0) C dX3_placeOfWrong_18 rfl ?_
    refine c_get (k := 7) C ck_4 dX3_placeOfWrong_19 w1_202 (by decide) t_a0 rfl rfl (by decide) rfl ?_
    have ri4 : 0 ≤ iv (sk 9) 2 ∧ iv (sk 9) 2 ≤ 40200 := hW.int tsk9 2
    refine d_callV (As := [.int (iI (iv a0 7))]) (rest := []) C hM (C_at_9 (a0 := (sk 9)) (i := iv a0 7) hW hS tsk9 (by omega) ) dX3_placeOfWrong_22 kV_X3_119 rfl tsk9 rfl rfl (by decide) ck_2 rfl (Nat.le_of_ble_eq_true rfl) ⟨(Nat.le_of_ble_eq_true rfl), (Nat.le_of_ble_eq_true rfl)⟩ hph hph (show 0 + 0 = 0 from rfl) (by decide) (fun rh3 Lh3 clh3 lnh3 ivh3 rvh3 h3 => ?_)
    obtain ⟨f3, rfl, rfl, rfl, rfl, rfl, rfl, rgf3, exf3⟩ := h3
    refine c_st (st2 := [.int (iI f3)]) rfl ?_
    have gf3 : ((0 ≤ (iv a0 7) ∧ (iv a0 7) < iv (sk 9) 2) ∨ f3 = 0) ∧ ∀ ss, CT iv rv (sk 9) ss → 0 ≤ (iv a0 7) → (iv a0 7) < iv (sk 9) 2 → f3 = ss (iv a0 7).toNat := exf3
    refine c_goto (tgt := 43) C dX3_placeOfWrong_25 (by decide) ?_
    exact c_iret C dX3_placeOfWrong_43 rfl (by decide) (rom0 hph hph (by decide)) ⟨f3, rfl, rfl, rfl, rfl, rfl, rfl, ⟨by omega, by omega⟩, trivial⟩
set_option maxHeartbeats 4000000 in
set_option maxRecDepth 100000 in
theorem C_longestAt {l : Launch} {G : GT} {mi : Nat} {sk : Nat → Nat} {L : List Nat} {cl ln : Nat → Nat} {iv : Nat → Nat → Int} {rv : Nat → Nat → Option Nat}  {a0 : Nat} {g : Int} {i : Int} (hW : WT (g0 G) sk L cl ln iv rv) (hS : SKL sk L cl) (t_a0 : ty L cl a0 16) (h_g : -2147483648 ≤ g ∧ g ≤ 2147483647) (h_i : -2147483648 ≤ i ∧ i ≤ 2147483647)  : Mc l G mi (Phi (g0 G) sk) PHM yX3_longestAt cX3_longestAt 11 (some (.object "DotPress$Row")) 3 [.ref a0, .int (iI g), .int (iI i)] L cl ln iv rv 0 (fun v L2 cl2 ln2 iv2 rv2 => ∃ f : Option Nat, v = some ((va_rf f)) ∧ L = L2 ∧ cl = cl2 ∧ ln = ln2 ∧ iv = iv2 ∧ rv = rv2 ∧ (∀ b, f = some b → ty L2 cl2 b 20) ∧ (True)) := by
  refine Mc.mk (by decide) (Nat.le_of_ble_eq_true rfl) ?_
  intro p e s m args below meth c A C hM
  refine hv10 (Phi.le hW hS) (show ty L cl (sk 6) 6 from ⟨(hS 6 rfl).1, by rw [(hS 6 rfl).2]; rfl⟩) (show ty L cl (sk 7) 7 from ⟨(hS 7 rfl).1, by rw [(hS 7 rfl).2]; rfl⟩) (show ty L cl (sk 8) 8 from ⟨(hS 8 rfl).1, by rw [(hS 8 rfl).2]; rfl⟩) (show ty L cl (sk 9) 9 from ⟨(hS 9 rfl).1, by rw [(hS 9 rfl).2]; rfl⟩) (show ty L cl (sk 10) 10 from ⟨(hS 10 rfl).1, by rw [(hS 10 rfl).2]; rfl⟩) (show ty L cl (sk 24) 24 from ⟨(hS 24 rfl).1, by rw [(hS 24 rfl).2]; rfl⟩) (show ty L cl (sk 25) 25 from ⟨(hS 25 rfl).1, by rw [(hS 25 rfl).2]; rfl⟩) (show XT L cl ln L cl ln from XT.refl) (show fT [] L cl iv rv iv rv from fT.refl) (fun hph tsk6 tsk7 tsk8 tsk9 tsk10 tsk24 tsk25 hX0 hF0 => ?_)
  refine c_aload_n (j := 0) (x := a0) C dX3_longestAt_0 rfl ?_
  refine c_iload_n (j := 1) C dX3_longestAt_1 rfl ?_
  refine d_callV (As := [.int (iI g)]) (rest := []) C hM (C_rowsOf (a0 := a0) (g := g) hW hS t_a0 (by omega) ) dX3_longestAt_2 kV_X3_147 rfl t_a0 rfl rfl (by decide) ck_4 rfl (Nat.le_of_ble_eq_true rfl) ⟨(Nat.le_of_ble_eq_true rfl), (Nat.le_of_ble_eq_true rfl)⟩ hph hph (show 0 + 0 = 0 from rfl) (by decide) (fun rh1 Lh1 clh1 lnh1 ivh1 rvh1 h1 => ?_)
  obtain ⟨f1, rfl, rfl, rfl, rfl, rfl, rfl, rgf1, exf1⟩ := h1
  refine c_st (st2 := [.ref f1]) rfl ?_
  rcases exf1 with exf1 | exf1
  · obtain ⟨hf1, rfl⟩ := exf1
    refine c_st (st2 := [.ref (sk 24)]) rfl ?_
    refine c_astore_n (lv2 := [(3, .ref (sk 24)), (0, .ref a0), (1, .int (iI g)), (2, .int (iI i))]) C dX3_longestAt_5 (by decide) rfl ?_
    refine c_iload_n (j := 2) C dX3_longestAt_6 rfl ?_
    refine c_if_eq (tgt := 17) C ⟨by omega, by omega⟩ dX3_longestAt_7 (by decide) (fun c1 => ?_) (fun c1 => ?_)
    · refine c_aload_n (j := 1) (x := a0) C dX3_longestAt_17 rfl ?_
      obtain ⟨rb1, rq1, trb1⟩ := hW.ref t_a0 2 rfl rfl rfl
      have erb1 := hW.sk trb1 (by decide) rfl
      subst erb1
      refine c_getr (k := 2) C ck_4 dX3_longestAt_18 w1_196 (by decide) t_a0 rfl rfl (by decide) rfl rq1 ?_
      refine c_st (st2 := [.ref (sk 6)]) rfl ?_
      refine c_astore (lv2 := [(4, .ref (sk 6)), (3, .ref (sk 24)), (0, .ref a0), (1, .int (iI g)), (2, .int (iI i))]) C dX3_longestAt_21 (by decide) rfl ?_
      refine c_aload_n (j := 2) (x := a0) C dX3_longestAt_23 rfl ?_
      obtain ⟨rb2, rq2, trb2⟩ := hW.ref t_a0 4 rfl rfl rfl
      have erb2 := hW.sk trb2 (by decide) rfl
      subst erb2
      refine c_getr (k := 4) C ck_4 dX3_longestAt_24 w1_198 (by decide) t_a0 rfl rfl (by decide) rfl rq2 ?_
      refine c_st (st2 := [.ref (sk 8)]) rfl ?_
      refine c_iload_n (j := 4) C dX3_longestAt_27 rfl ?_
      have ri1 : 0 ≤ iv (sk 8) 2 ∧ iv (sk 8) 2 ≤ 40200 := hW.int tsk8 2
      refine d_callV (As := [.int (iI i)]) (rest := []) C hM (C_at_8 (a0 := (sk 8)) (i := i) hW hS tsk8 (by omega) ) dX3_longestAt_28 kV_X3_119 rfl tsk8 rfl rfl (by decide) ck_2 rfl (Nat.le_of_ble_eq_true rfl) ⟨(Nat.le_of_ble_eq_true rfl), (Nat.le_of_ble_eq_true rfl)⟩ hph hph (show 0 + 0 = 0 from rfl) (by decide) (fun rh2 Lh2 clh2 lnh2 ivh2 rvh2 h2 => ?_)
      obtain ⟨f2, rfl, rfl, rfl, rfl, rfl, rfl, rgf2, exf2⟩ := h2
      refine c_st (st2 := [.int (iI f2)]) rfl ?_
      have gf2 : ((0 ≤ i ∧ i < iv (sk 8) 2) ∨ f2 = 0) ∧ ∀ ss, CT iv rv (sk 8) ss → 0 ≤ i → i < iv (sk 8) 2 → f2 = ss i.toNat := exf2
      refine c_istore (lv2 := [(5, .int (iI f2)), (4, .ref (sk 6)), (3, .ref (sk 24)), (0, .ref a0), (1, .int (iI g)), (2, .int (iI i))]) C dX3_longestAt_31 (by decide) rfl ?_
      refine c_null C dX3_longestAt_33 ?_
      refine c_astorer (r := none) (lv2 := [(6, .null), (5, .int (iI f2)), (4, .ref (sk 6)), (3, .ref (sk 24)), (0, .ref a0), (1, .int (iI g)), (2, .int (iI i))]) C dX3_longestAt_34 (by decide) rfl ?_
      refine c_iconst C dX3_longestAt_36 ?_
      refine c_istore (lv2 := [(7, .int (iI 0)), (6, .null), (5, .int (iI f2)), (4, .ref (sk 6)), (3, .ref (sk 24)), (0, .ref a0), (1, .int (iI g)), (2, .int (iI i))]) C dX3_longestAt_37 (by decide) rfl ?_
      refine c_aload (j := 3) (x := (sk 6)) C dX3_longestAt_39 rfl ?_
      have ri2 : 0 ≤ iv (sk 6) 2 ∧ iv (sk 6) 2 ≤ 6003 := hW.int tsk6 2
      refine c_get (k := 2) C ck_2 dX3_longestAt_41 w1_49 (by decide) tsk6 rfl rfl (by decide) rfl ?_
      refine c_aload_n (j := 4) (x := (sk 24)) C dX3_longestAt_44 rfl ?_
      have ri3 : 0 ≤ iv (sk 24) 2 ∧ iv (sk 24) 2 ≤ 6003 := hW.int tsk24 2
      refine d_callV (As := []) (rest := [.int (iI (iv (sk 6) 2))]) C hM (C_size_24 (a0 := (sk 24)) hW hS tsk24  ) dX3_longestAt_45 kV_X3_78 rfl tsk24 rfl rfl (by decide) ck_0 rfl (Nat.le_of_ble_eq_true rfl) ⟨(Nat.le_of_ble_eq_true rfl), (Nat.le_of_ble_eq_true rfl)⟩ hph hph (show 0 + 0 = 0 from rfl) (by decide) (fun rh3 Lh3 clh3 lnh3 ivh3 rvh3 h3 => ?_)
      obtain ⟨f3, rfl, rfl, rfl, rfl, rfl, rfl, rgf3, exf3⟩ := h3
      refine c_st (st2 := [.int (iI f3), .int (iI (iv (sk 6) 2))]) rfl ?_
      have gf3 : f3 = iv (sk 24) 2 := exf3
      obtain ⟨mn1, hmn1, emn1⟩ := mmin_c (x := iv (sk 6) 2) (y := f3) ⟨by omega, by omega⟩ ⟨by omega, by omega⟩
      refine c_mmin (w := iI mn1) C dX3_longestAt_48 w5_88 w2_129 w1_14 w2_130 (by decide) (rom0 hph hph (by decide)) (Nat.le_of_ble_eq_true rfl) emn1 ?_
      refine c_istore (lv2 := [(8, .int (iI mn1)), (7, .int (iI 0)), (6, .null), (5, .int (iI f2)), (4, .ref (sk 6)), (3, .ref (sk 24)), (0, .ref a0), (1, .int (iI g)), (2, .int (iI i))]) C dX3_longestAt_51 (by decide) rfl ?_
      refine c_iconst C dX3_longestAt_53 ?_
      refine c_istore (lv2 := [(9, .int (iI 0)), (8, .int (iI mn1)), (7, .int (iI 0)), (6, .null), (5, .int (iI f2)), (4, .ref (sk 6)), (3, .ref (sk 24)), (0, .ref a0), (1, .int (iI g)), (2, .int (iI i))]) C dX3_longestAt_54 (by decide) rfl ?_
      have Lp1 : ∀ (nn : Nat) (bs : Option Nat) (lg k : Int) , 6004 - k < (nn : Int) → (∀ b, bs = some b → ty L cl b 20) → (0 ≤ lg ∧ lg ≤ 4) → (0 ≤ k ∧ k ≤ 6003) → cw p l e 3 ((PHM) + 0 - ((Phi (g0 G) sk) ln rv)) s m args below meth c G A 11 (MQ below (Qu G A (Qp G (Phi (g0 G) sk) ((Phi (g0 G) sk) ln rv) 0 (fun v L2 cl2 ln2 iv2 rv2 => ∃ f : Option Nat, v = some ((va_rf f)) ∧ L = L2 ∧ cl = cl2 ∧ ln = ln2 ∧ iv = iv2 ∧ rv = rv2 ∧ (∀ b, f = some b → ty L2 cl2 b 20) ∧ (True)))) args s (((PHM) + 0 - ((Phi (g0 G) sk) ln rv)) / 16) ((PHM) + 0 - ((Phi (g0 G) sk) ln rv)) A) (Phi (g0 G) sk) ((Phi (g0 G) sk) ln rv) L cl ln iv rv 0 56 [(6, (va_rf bs)), (7, .int (iI lg)), (9, .int (iI k)), (8, .int (iI mn1)), (5, .int (iI f2)), (4, .ref (sk 6)), (3, .ref (sk 24)), (0, .ref a0), (1, .int (iI g)), (2, .int (iI i))] [] := by
        intro nn
        induction nn with
        | zero =>
          intro bs lg k  hm  ty_bs hlg hk
          exact absurd hm (by omega)
        | succ nn ih1 =>
          intro bs lg k  hm  ty_bs hlg hk
          refine c_iload (j := 2) C dX3_longestAt_56 rfl ?_
          refine c_iload (j := 3) C dX3_longestAt_58 rfl ?_
          refine c_icmp_ge (tgt := 132) C ⟨by omega, by omega⟩ ⟨by omega, by omega⟩ dX3_longestAt_60 (by decide) (fun c2 => ?_) (fun c2 => ?_)
          · refine c_aloadr (j := 0) (r := bs) C dX3_longestAt_132 rfl ?_
            exact c_aret (x := bs) C dX3_longestAt_134 rfl (Or.inl ⟨_, rfl⟩) (by decide) (rom0 hph hph (by decide)) ⟨bs, rfl, rfl, rfl, rfl, rfl, rfl, ty_bs, trivial⟩
          · refine c_aload (j := 5) (x := (sk 6)) C dX3_longestAt_63 rfl ?_
            obtain ⟨rb3, rq3, trb3⟩ := hW.ref tsk6 1 rfl rfl rfl
            refine hv2 (show 16 ≤ ln rb3 ∧ ln rb3 ≤ 12006 from hW.len trb3 rfl) (hW.isz tsk6 rfl rfl rq3) (fun lnrb3 szrb3 => ?_)
            refine c_getr (k := 1) C ck_2 dX3_longestAt_65 w1_41 (by decide) tsk6 rfl rfl (by decide) rfl rq3 ?_
            refine c_st (st2 := [.ref rb3]) rfl ?_
            refine c_iload (j := 2) C dX3_longestAt_68 rfl ?_
            have ll1 : 16 ≤ ln rb3 ∧ ln rb3 ≤ 12006 := hW.len trb3 rfl
            refine c_iald C dX3_longestAt_70 trb3 rfl (by omega) (by omega) (by omega) ?_
            have ri4 : (-2147483648) ≤ iv rb3 k.toNat ∧ iv rb3 k.toNat ≤ 2147483647 := hW.int trb3 k.toNat
            refine c_iload (j := 4) C dX3_longestAt_71 rfl ?_
            refine c_icmp_eq (tgt := 79) C ⟨by omega, by omega⟩ ⟨by omega, by omega⟩ dX3_longestAt_73 (by decide) (fun c3 => ?_) (fun c3 => ?_)
            · refine c_aload_n (j := 6) (x := (sk 24)) C dX3_longestAt_79 rfl ?_
              refine c_iload (j := 2) C dX3_longestAt_80 rfl ?_
              refine d_callV (As := [.int (iI k)]) (rest := []) C hM (C_get_24 (a0 := (sk 24)) (i := k) hW hS tsk24 (by omega) (by show 0 ≤ k ∧ k < iv (sk 24) 2; omega)) dX3_longestAt_82 kV_X3_82 rfl tsk24 rfl rfl (by decide) ck_0 rfl (Nat.le_of_ble_eq_true rfl) ⟨(Nat.le_of_ble_eq_true rfl), (Nat.le_of_ble_eq_true rfl)⟩ hph hph (show 0 + 0 = 0 from rfl) (by decide) (fun rh4 Lh4 clh4 lnh4 ivh4 rvh4 h4 => ?_)
              obtain ⟨f4, rfl, rfl, rfl, rfl, rfl, rfl, rgf4, exf4⟩ := h4
              refine c_st (st2 := [.ref f4]) rfl ?_
              have gf4 : el rv (sk 24) k.toNat = some f4 := exf4
              refine c_cast C ck_6 dX3_longestAt_85 w5_63 w8_169t rgf4 rfl rfl (by decide) ?_
              refine c_astore (lv2 := [(10, .ref f4), (6, (va_rf bs)), (7, .int (iI lg)), (9, .int (iI k)), (8, .int (iI mn1)), (5, .int (iI f2)), (4, .ref (sk 6)), (3, .ref (sk 24)), (0, .ref a0), (1, .int (iI g)), (2, .int (iI i))]) C dX3_longestAt_88 (by decide) rfl ?_
              refine c_aload (j := 0) (x := f4) C dX3_longestAt_90 rfl ?_
              obtain ⟨rb4, rq4, trb4⟩ := hW.ref rgf4 2 rfl rfl rfl
              have lnrb4 : 1 ≤ ln rb4 ∧ ln rb4 ≤ 4 := hW.len trb4 rfl
              refine c_getr (k := 2) C ck_6 dX3_longestAt_92 w3_143 (by decide) rgf4 rfl rfl (by decide) rfl rq4 ?_
              refine c_st (st2 := [.ref rb4]) rfl ?_
              have ll2 : 1 ≤ ln rb4 ∧ ln rb4 ≤ 4 := hW.len trb4 rfl
              refine c_alenI C dX3_longestAt_95 trb4 rfl ?_
              refine c_iload (j := 2) C dX3_longestAt_96 rfl ?_
              refine c_icmp_le (tgt := 126) C ⟨by omega, by omega⟩ ⟨by omega, by omega⟩ dX3_longestAt_98 (by decide) (fun c4 => ?_) (fun c4 => ?_)
              · refine c_iinc (z := k) (j := 3) (lv2 := [(9, .int (iI (k + 1))), (10, .ref f4), (6, (va_rf bs)), (7, .int (iI lg)), (8, .int (iI mn1)), (5, .int (iI f2)), (4, .ref (sk 6)), (3, .ref (sk 24)), (0, .ref a0), (1, .int (iI g)), (2, .int (iI i))]) C dX3_longestAt_126 rfl (by decide) rfl ?_
                refine c_goto (tgt := 56) C dX3_longestAt_129 (by decide) ?_
                refine c_lv (lv2 := [(6, (va_rf bs)), (7, .int (iI lg)), (9, .int (iI (k + 1))), (8, .int (iI mn1)), (5, .int (iI f2)), (4, .ref (sk 6)), (3, .ref (sk 24)), (0, .ref a0), (1, .int (iI g)), (2, .int (iI i))]) [2, 3, 0, 4, 5, 6, 7, 8, 9, 10] rfl ?_
                exact ih1  bs lg (k + 1)  (by omega)  ty_bs (by omega) (by omega)
              · refine c_aload (j := 0) (x := f4) C dX3_longestAt_101 rfl ?_
                refine c_aload_n (j := 8) (x := a0) C dX3_longestAt_103 rfl ?_
                refine c_getr (k := 4) C ck_4 dX3_longestAt_104 w1_198 (by decide) t_a0 rfl rfl (by decide) rfl rq2 ?_
                refine c_st (st2 := [.ref (sk 8), .ref f4]) rfl ?_
                refine c_iload_n (j := 10) C dX3_longestAt_107 rfl ?_
                refine d_callV (As := [.ref (sk 8), .int (iI i)]) (rest := []) C hM (C_standsAt (a0 := f4) (a1 := (sk 8)) (i := i) hW hS rgf4 tsk8 (by omega) ) dX3_longestAt_108 kV_X3_157 rfl rgf4 rfl rfl (by decide) ck_6 rfl (Nat.le_of_ble_eq_true rfl) ⟨(Nat.le_of_ble_eq_true rfl), (Nat.le_of_ble_eq_true rfl)⟩ hph hph (show 0 + 0 = 0 from rfl) (by decide) (fun rh5 Lh5 clh5 lnh5 ivh5 rvh5 h5 => ?_)
                obtain ⟨f5, rfl, rfl, rfl, rfl, rfl, rfl, rgf5, exf5⟩ := h5
                refine c_st (st2 := [.int (iI f5)]) rfl ?_
                refine c_if_eq (tgt := 126) C ⟨by omega, by omega⟩ dX3_longestAt_111 (by decide) (fun c5 => ?_) (fun c5 => ?_)
                · refine c_iinc (z := k) (j := 3) (lv2 := [(9, .int (iI (k + 1))), (10, .ref f4), (6, (va_rf bs)), (7, .int (iI lg)), (8, .int (iI mn1)), (5, .int (iI f2)), (4, .ref (sk 6)), (3, .ref (sk 24)), (0, .ref a0), (1, .int (iI g)), (2, .int (iI i))]) C dX3_longestAt_126 rfl (by decide) rfl ?_
                  refine c_goto (tgt := 56) C dX3_longestAt_129 (by decide) ?_
                  refine c_lv (lv2 := [(6, (va_rf bs)), (7, .int (iI lg)), (9, .int (iI (k + 1))), (8, .int (iI mn1)), (5, .int (iI f2)), (4, .ref (sk 6)), (3, .ref (sk 24)), (0, .ref a0), (1, .int (iI g)), (2, .int (iI i))]) [2, 3, 0, 4, 5, 6, 7, 8, 9, 10] rfl ?_
                  exact ih1  bs lg (k + 1)  (by omega)  ty_bs (by omega) (by omega)
                · refine c_aload (j := 0) (x := f4) C dX3_longestAt_114 rfl ?_
                  refine c_astore (lv2 := [(6, .ref f4), (10, .ref f4), (7, .int (iI lg)), (9, .int (iI k)), (8, .int (iI mn1)), (5, .int (iI f2)), (4, .ref (sk 6)), (3, .ref (sk 24)), (0, .ref a0), (1, .int (iI g)), (2, .int (iI i))]) C dX3_longestAt_116 (by decide) rfl ?_
                  refine c_aload (j := 1) (x := f4) C dX3_longestAt_118 rfl ?_
                  refine c_getr (k := 2) C ck_6 dX3_longestAt_120 w3_143 (by decide) rgf4 rfl rfl (by decide) rfl rq4 ?_
                  refine c_st (st2 := [.ref rb4]) rfl ?_
                  refine c_alenI C dX3_longestAt_123 trb4 rfl ?_
                  refine c_istore (lv2 := [(7, .int (iI ((ln rb4 : Nat) : Int))), (6, .ref f4), (10, .ref f4), (9, .int (iI k)), (8, .int (iI mn1)), (5, .int (iI f2)), (4, .ref (sk 6)), (3, .ref (sk 24)), (0, .ref a0), (1, .int (iI g)), (2, .int (iI i))]) C dX3_longestAt_124 (by decide) rfl ?_
                  refine c_iinc (z := k) (j := 3) (lv2 := [(9, .int (iI (k + 1))), (7, .int (iI ((ln rb4 : Nat) : Int))), (6, .ref f4), (10, .ref f4), (8, .int (iI mn1)), (5, .int (iI f2)), (4, .ref (sk 6)), (3, .ref (sk 24)), (0, .ref a0), (1, .int (iI g)), (2, .int (iI i))]) C dX3_longestAt_126 rfl (by decide) rfl ?_
                  refine c_goto (tgt := 56) C dX3_longestAt_129 (by decide) ?_
                  refine c_lv (lv2 := [(6, .ref f4), (7, .int (iI ((ln rb4 : Nat) : Int))), (9, .int (iI (k + 1))), (8, .int (iI mn1)), (5, .int (iI f2)), (4, .ref (sk 6)), (3, .ref (sk 24)), (0, .ref a0), (1, .int (iI g)), (2, .int (iI i))]) [2, 1, 0, 4, 5, 6, 7, 8, 9, 10] rfl ?_
                  exact ih1  (some f4) ((ln rb4 : Nat) : Int) (k + 1)  (by omega)  (fun _ q => by cases q; exact rgf4) (by omega) (by omega)
            · refine c_goto (tgt := 126) C dX3_longestAt_76 (by decide) ?_
              refine c_iinc (z := k) (j := 2) (lv2 := [(9, .int (iI (k + 1))), (6, (va_rf bs)), (7, .int (iI lg)), (8, .int (iI mn1)), (5, .int (iI f2)), (4, .ref (sk 6)), (3, .ref (sk 24)), (0, .ref a0), (1, .int (iI g)), (2, .int (iI i))]) C dX3_longestAt_126 rfl (by decide) rfl ?_
              refine c_goto (tgt := 56) C dX3_longestAt_129 (by decide) ?_
              refine c_lv (lv2 := [(6, (va_rf bs)), (7, .int (iI lg)), (9, .int (iI (k + 1))), (8, .int (iI mn1)), (5, .int (iI f2)), (4, .ref (sk 6)), (3, .ref (sk 24)), (0, .ref a0), (1, .int (iI g)), (2, .int (iI i))]) [1, 2, 0, 3, 4, 5, 6, 7, 8, 9] rfl ?_
              exact ih1  bs lg (k + 1)  (by omega)  ty_bs (by omega) (by omega)
      refine c_lv (lv2 := [(6, .null), (7, .int (iI 0)), (9, .int (iI 0)), (8, .int (iI mn1)), (5, .int (iI f2)), (4, .ref (sk 6)), (3, .ref (sk 24)), (0, .ref a0), (1, .int (iI g)), (2, .int (iI i))]) [3, 2, 0, 1, 4, 5, 6, 7, 8, 9] rfl ?_
      exact Lp1 6006 none 0 0  (by omega)  (fun _ q => by cases q) (by omega) (by omega)
    · refine c_aload_n (j := 1) (x := a0) C dX3_longestAt_10 rfl ?_
      obtain ⟨rb5, rq5, trb5⟩ := hW.ref t_a0 3 rfl rfl rfl
      have erb5 := hW.sk trb5 (by decide) rfl
      subst erb5
      refine c_getr (k := 3) C ck_4 dX3_longestAt_11 w1_197 (by decide) t_a0 rfl rfl (by decide) rfl rq5 ?_
      refine c_st (st2 := [.ref (sk 7)]) rfl ?_
      refine c_goto (tgt := 21) C dX3_longestAt_14 (by decide) ?_
      refine c_astore (lv2 := [(4, .ref (sk 7)), (3, .ref (sk 24)), (0, .ref a0), (1, .int (iI g)), (2, .int (iI i))]) C dX3_longestAt_21 (by decide) rfl ?_
      refine c_aload_n (j := 2) (x := a0) C dX3_longestAt_23 rfl ?_
      obtain ⟨rb6, rq6, trb6⟩ := hW.ref t_a0 4 rfl rfl rfl
      have erb6 := hW.sk trb6 (by decide) rfl
      subst erb6
      refine c_getr (k := 4) C ck_4 dX3_longestAt_24 w1_198 (by decide) t_a0 rfl rfl (by decide) rfl rq6 ?_
      refine c_st (st2 := [.ref (sk 8)]) rfl ?_
      refine c_iload_n (j := 4) C dX3_longestAt_27 rfl ?_
      have ri5 : 0 ≤ iv (sk 8) 2 ∧ iv (sk 8) 2 ≤ 40200 := hW.int tsk8 2
      refine d_callV (As := [.int (iI i)]) (rest := []) C hM (C_at_8 (a0 := (sk 8)) (i := i) hW hS tsk8 (by omega) ) dX3_longestAt_28 kV_X3_119 rfl tsk8 rfl rfl (by decide) ck_2 rfl (Nat.le_of_ble_eq_true rfl) ⟨(Nat.le_of_ble_eq_true rfl), (Nat.le_of_ble_eq_true rfl)⟩ hph hph (show 0 + 0 = 0 from rfl) (by decide) (fun rh6 Lh6 clh6 lnh6 ivh6 rvh6 h6 => ?_)
      obtain ⟨f6, rfl, rfl, rfl, rfl, rfl, rfl, rgf6, exf6⟩ := h6
      refine c_st (st2 := [.int (iI f6)]) rfl ?_
      have gf6 : ((0 ≤ i ∧ i < iv (sk 8) 2) ∨ f6 = 0) ∧ ∀ ss, CT iv rv (sk 8) ss → 0 ≤ i → i < iv (sk 8) 2 → f6 = ss i.toNat := exf6
      refine c_istore (lv2 := [(5, .int (iI f6)), (4, .ref (sk 7)), (3, .ref (sk 24)), (0, .ref a0), (1, .int (iI g)), (2, .int (iI i))]) C dX3_longestAt_31 (by decide) rfl ?_
      refine c_null C dX3_longestAt_33 ?_
      refine c_astorer (r := none) (lv2 := [(6, .null), (5, .int (iI f6)), (4, .ref (sk 7)), (3, .ref (sk 24)), (0, .ref a0), (1, .int (iI g)), (2, .int (iI i))]) C dX3_longestAt_34 (by decide) rfl ?_
      refine c_iconst C dX3_longestAt_36 ?_
      refine c_istore (lv2 := [(7, .int (iI 0)), (6, .null), (5, .int (iI f6)), (4, .ref (sk 7)), (3, .ref (sk 24)), (0, .ref a0), (1, .int (iI g)), (2, .int (iI i))]) C dX3_longestAt_37 (by decide) rfl ?_
      refine c_aload (j := 3) (x := (sk 7)) C dX3_longestAt_39 rfl ?_
      have ri6 : 0 ≤ iv (sk 7) 2 ∧ iv (sk 7) 2 ≤ 6003 := hW.int tsk7 2
      refine c_get (k := 2) C ck_2 dX3_longestAt_41 w1_49 (by decide) tsk7 rfl rfl (by decide) rfl ?_
      refine c_aload_n (j := 4) (x := (sk 24)) C dX3_longestAt_44 rfl ?_
      have ri7 : 0 ≤ iv (sk 24) 2 ∧ iv (sk 24) 2 ≤ 6003 := hW.int tsk24 2
      refine d_callV (As := []) (rest := [.int (iI (iv (sk 7) 2))]) C hM (C_size_24 (a0 := (sk 24)) hW hS tsk24  ) dX3_longestAt_45 kV_X3_78 rfl tsk24 rfl rfl (by decide) ck_0 rfl (Nat.le_of_ble_eq_true rfl) ⟨(Nat.le_of_ble_eq_true rfl), (Nat.le_of_ble_eq_true rfl)⟩ hph hph (show 0 + 0 = 0 from rfl) (by decide) (fun rh7 Lh7 clh7 lnh7 ivh7 rvh7 h7 => ?_)
      obtain ⟨f7, rfl, rfl, rfl, rfl, rfl, rfl, rgf7, exf7⟩ := h7
      refine c_st (st2 := [.int (iI f7), .int (iI (iv (sk 7) 2))]) rfl ?_
      have gf7 : f7 = iv (sk 24) 2 := exf7
      obtain ⟨mn2, hmn2, emn2⟩ := mmin_c (x := iv (sk 7) 2) (y := f7) ⟨by omega, by omega⟩ ⟨by omega, by omega⟩
      refine c_mmin (w := iI mn2) C dX3_longestAt_48 w5_88 w2_129 w1_14 w2_130 (by decide) (rom0 hph hph (by decide)) (Nat.le_of_ble_eq_true rfl) emn2 ?_
      refine c_istore (lv2 := [(8, .int (iI mn2)), (7, .int (iI 0)), (6, .null), (5, .int (iI f6)), (4, .ref (sk 7)), (3, .ref (sk 24)), (0, .ref a0), (1, .int (iI g)), (2, .int (iI i))]) C dX3_longestAt_51 (by decide) rfl ?_
      refine c_iconst C dX3_longestAt_53 ?_
      refine c_istore (lv2 := [(9, .int (iI 0)), (8, .int (iI mn2)), (7, .int (iI 0)), (6, .null), (5, .int (iI f6)), (4, .ref (sk 7)), (3, .ref (sk 24)), (0, .ref a0), (1, .int (iI g)), (2, .int (iI i))]) C dX3_longestAt_54 (by decide) rfl ?_
      have Lp2 : ∀ (nn : Nat) (bs : Option Nat) (lg k : Int) , 6004 - k < (nn : Int) → (∀ b, bs = some b → ty L cl b 20) → (0 ≤ lg ∧ lg ≤ 4) → (0 ≤ k ∧ k ≤ 6003) → cw p l e 3 ((PHM) + 0 - ((Phi (g0 G) sk) ln rv)) s m args below meth c G A 11 (MQ below (Qu G A (Qp G (Phi (g0 G) sk) ((Phi (g0 G) sk) ln rv) 0 (fun v L2 cl2 ln2 iv2 rv2 => ∃ f : Option Nat, v = some ((va_rf f)) ∧ L = L2 ∧ cl = cl2 ∧ ln = ln2 ∧ iv = iv2 ∧ rv = rv2 ∧ (∀ b, f = some b → ty L2 cl2 b 20) ∧ (True)))) args s (((PHM) + 0 - ((Phi (g0 G) sk) ln rv)) / 16) ((PHM) + 0 - ((Phi (g0 G) sk) ln rv)) A) (Phi (g0 G) sk) ((Phi (g0 G) sk) ln rv) L cl ln iv rv 0 56 [(6, (va_rf bs)), (7, .int (iI lg)), (9, .int (iI k)), (8, .int (iI mn2)), (5, .int (iI f6)), (4, .ref (sk 7)), (3, .ref (sk 24)), (0, .ref a0), (1, .int (iI g)), (2, .int (iI i))] [] := by
        intro nn
        induction nn with
        | zero =>
          intro bs lg k  hm  ty_bs hlg hk
          exact absurd hm (by omega)
        | succ nn ih2 =>
          intro bs lg k  hm  ty_bs hlg hk
          refine c_iload (j := 2) C dX3_longestAt_56 rfl ?_
          refine c_iload (j := 3) C dX3_longestAt_58 rfl ?_
          refine c_icmp_ge (tgt := 132) C ⟨by omega, by omega⟩ ⟨by omega, by omega⟩ dX3_longestAt_60 (by decide) (fun c6 => ?_) (fun c6 => ?_)
          · refine c_aloadr (j := 0) (r := bs) C dX3_longestAt_132 rfl ?_
            exact c_aret (x := bs) C dX3_longestAt_134 rfl (Or.inl ⟨_, rfl⟩) (by decide) (rom0 hph hph (by decide)) ⟨bs, rfl, rfl, rfl, rfl, rfl, rfl, ty_bs, trivial⟩
          · refine c_aload (j := 5) (x := (sk 7)) C dX3_longestAt_63 rfl ?_
            obtain ⟨rb7, rq7, trb7⟩ := hW.ref tsk7 1 rfl rfl rfl
            refine hv2 (show 16 ≤ ln rb7 ∧ ln rb7 ≤ 12006 from hW.len trb7 rfl) (hW.isz tsk7 rfl rfl rq7) (fun lnrb7 szrb7 => ?_)
            refine c_getr (k := 1) C ck_2 dX3_longestAt_65 w1_41 (by decide) tsk7 rfl rfl (by decide) rfl rq7 ?_
            refine c_st (st2 := [.ref rb7]) rfl ?_
            refine c_iload (j := 2) C dX3_longestAt_68 rfl ?_
            have ll3 : 16 ≤ ln rb7 ∧ ln rb7 ≤ 12006 := hW.len trb7 rfl
            refine c_iald C dX3_longestAt_70 trb7 rfl (by omega) (by omega) (by omega) ?_
            have ri8 : (-2147483648) ≤ iv rb7 k.toNat ∧ iv rb7 k.toNat ≤ 2147483647 := hW.int trb7 k.toNat
            refine c_iload (j := 4) C dX3_longestAt_71 rfl ?_
            refine c_icmp_eq (tgt := 79) C ⟨by omega, by omega⟩ ⟨by omega, by omega⟩ dX3_longestAt_73 (by decide) (fun c7 => ?_) (fun c7 => ?_)
            · refine c_aload_n (j := 6) (x := (sk 24)) C dX3_longestAt_79 rfl ?_
              refine c_iload (j := 2) C dX3_longestAt_80 rfl ?_
              refine d_callV (As := [.int (iI k)]) (rest := []) C hM (C_get_24 (a0 := (sk 24)) (i := k) hW hS tsk24 (by omega) (by show 0 ≤ k ∧ k < iv (sk 24) 2; omega)) dX3_longestAt_82 kV_X3_82 rfl tsk24 rfl rfl (by decide) ck_0 rfl (Nat.le_of_ble_eq_true rfl) ⟨(Nat.le_of_ble_eq_true rfl), (Nat.le_of_ble_eq_true rfl)⟩ hph hph (show 0 + 0 = 0 from rfl) (by decide) (fun rh8 Lh8 clh8 lnh8 ivh8 rvh8 h8 => ?_)
              obtain ⟨f8, rfl, rfl, rfl, rfl, rfl, rfl, rgf8, exf8⟩ := h8
              refine c_st (st2 := [.ref f8]) rfl ?_
              have gf8 : el rv (sk 24) k.toNat = some f8 := exf8
              refine c_cast C ck_6 dX3_longestAt_85 w5_63 w8_169t rgf8 rfl rfl (by decide) ?_
              refine c_astore (lv2 := [(10, .ref f8), (6, (va_rf bs)), (7, .int (iI lg)), (9, .int (iI k)), (8, .int (iI mn2)), (5, .int (iI f6)), (4, .ref (sk 7)), (3, .ref (sk 24)), (0, .ref a0), (1, .int (iI g)), (2, .int (iI i))]) C dX3_longestAt_88 (by decide) rfl ?_
              refine c_aload (j := 0) (x := f8) C dX3_longestAt_90 rfl ?_
              obtain ⟨rb8, rq8, trb8⟩ := hW.ref rgf8 2 rfl rfl rfl
              have lnrb8 : 1 ≤ ln rb8 ∧ ln rb8 ≤ 4 := hW.len trb8 rfl
              refine c_getr (k := 2) C ck_6 dX3_longestAt_92 w3_143 (by decide) rgf8 rfl rfl (by decide) rfl rq8 ?_
              refine c_st (st2 := [.ref rb8]) rfl ?_
              have ll4 : 1 ≤ ln rb8 ∧ ln rb8 ≤ 4 := hW.len trb8 rfl
              refine c_alenI C dX3_longestAt_95 trb8 rfl ?_
              refine c_iload (j := 2) C dX3_longestAt_96 rfl ?_
              refine c_icmp_le (tgt := 126) C ⟨by omega, by omega⟩ ⟨by omega, by omega⟩ dX3_longestAt_98 (by decide) (fun c8 => ?_) (fun c8 => ?_)
              · refine c_iinc (z := k) (j := 3) (lv2 := [(9, .int (iI (k + 1))), (10, .ref f8), (6, (va_rf bs)), (7, .int (iI lg)), (8, .int (iI mn2)), (5, .int (iI f6)), (4, .ref (sk 7)), (3, .ref (sk 24)), (0, .ref a0), (1, .int (iI g)), (2, .int (iI i))]) C dX3_longestAt_126 rfl (by decide) rfl ?_
                refine c_goto (tgt := 56) C dX3_longestAt_129 (by decide) ?_
                refine c_lv (lv2 := [(6, (va_rf bs)), (7, .int (iI lg)), (9, .int (iI (k + 1))), (8, .int (iI mn2)), (5, .int (iI f6)), (4, .ref (sk 7)), (3, .ref (sk 24)), (0, .ref a0), (1, .int (iI g)), (2, .int (iI i))]) [2, 3, 0, 4, 5, 6, 7, 8, 9, 10] rfl ?_
                exact ih2  bs lg (k + 1)  (by omega)  ty_bs (by omega) (by omega)
              · refine c_aload (j := 0) (x := f8) C dX3_longestAt_101 rfl ?_
                refine c_aload_n (j := 8) (x := a0) C dX3_longestAt_103 rfl ?_
                refine c_getr (k := 4) C ck_4 dX3_longestAt_104 w1_198 (by decide) t_a0 rfl rfl (by decide) rfl rq6 ?_
                refine c_st (st2 := [.ref (sk 8), .ref f8]) rfl ?_
                refine c_iload_n (j := 10) C dX3_longestAt_107 rfl ?_
                refine d_callV (As := [.ref (sk 8), .int (iI i)]) (rest := []) C hM (C_standsAt (a0 := f8) (a1 := (sk 8)) (i := i) hW hS rgf8 tsk8 (by omega) ) dX3_longestAt_108 kV_X3_157 rfl rgf8 rfl rfl (by decide) ck_6 rfl (Nat.le_of_ble_eq_true rfl) ⟨(Nat.le_of_ble_eq_true rfl), (Nat.le_of_ble_eq_true rfl)⟩ hph hph (show 0 + 0 = 0 from rfl) (by decide) (fun rh9 Lh9 clh9 lnh9 ivh9 rvh9 h9 => ?_)
                obtain ⟨f9, rfl, rfl, rfl, rfl, rfl, rfl, rgf9, exf9⟩ := h9
                refine c_st (st2 := [.int (iI f9)]) rfl ?_
                refine c_if_eq (tgt := 126) C ⟨by omega, by omega⟩ dX3_longestAt_111 (by decide) (fun c9 => ?_) (fun c9 => ?_)
                · refine c_iinc (z := k) (j := 3) (lv2 := [(9, .int (iI (k + 1))), (10, .ref f8), (6, (va_rf bs)), (7, .int (iI lg)), (8, .int (iI mn2)), (5, .int (iI f6)), (4, .ref (sk 7)), (3, .ref (sk 24)), (0, .ref a0), (1, .int (iI g)), (2, .int (iI i))]) C dX3_longestAt_126 rfl (by decide) rfl ?_
                  refine c_goto (tgt := 56) C dX3_longestAt_129 (by decide) ?_
                  refine c_lv (lv2 := [(6, (va_rf bs)), (7, .int (iI lg)), (9, .int (iI (k + 1))), (8, .int (iI mn2)), (5, .int (iI f6)), (4, .ref (sk 7)), (3, .ref (sk 24)), (0, .ref a0), (1, .int (iI g)), (2, .int (iI i))]) [2, 3, 0, 4, 5, 6, 7, 8, 9, 10] rfl ?_
                  exact ih2  bs lg (k + 1)  (by omega)  ty_bs (by omega) (by omega)
                · refine c_aload (j := 0) (x := f8) C dX3_longestAt_114 rfl ?_
                  refine c_astore (lv2 := [(6, .ref f8), (10, .ref f8), (7, .int (iI lg)), (9, .int (iI k)), (8, .int (iI mn2)), (5, .int (iI f6)), (4, .ref (sk 7)), (3, .ref (sk 24)), (0, .ref a0), (1, .int (iI g)), (2, .int (iI i))]) C dX3_longestAt_116 (by decide) rfl ?_
                  refine c_aload (j := 1) (x := f8) C dX3_longestAt_118 rfl ?_
                  refine c_getr (k := 2) C ck_6 dX3_longestAt_120 w3_143 (by decide) rgf8 rfl rfl (by decide) rfl rq8 ?_
                  refine c_st (st2 := [.ref rb8]) rfl ?_
                  refine c_alenI C dX3_longestAt_123 trb8 rfl ?_
                  refine c_istore (lv2 := [(7, .int (iI ((ln rb8 : Nat) : Int))), (6, .ref f8), (10, .ref f8), (9, .int (iI k)), (8, .int (iI mn2)), (5, .int (iI f6)), (4, .ref (sk 7)), (3, .ref (sk 24)), (0, .ref a0), (1, .int (iI g)), (2, .int (iI i))]) C dX3_longestAt_124 (by decide) rfl ?_
                  refine c_iinc (z := k) (j := 3) (lv2 := [(9, .int (iI (k + 1))), (7, .int (iI ((ln rb8 : Nat) : Int))), (6, .ref f8), (10, .ref f8), (8, .int (iI mn2)), (5, .int (iI f6)), (4, .ref (sk 7)), (3, .ref (sk 24)), (0, .ref a0), (1, .int (iI g)), (2, .int (iI i))]) C dX3_longestAt_126 rfl (by decide) rfl ?_
                  refine c_goto (tgt := 56) C dX3_longestAt_129 (by decide) ?_
                  refine c_lv (lv2 := [(6, .ref f8), (7, .int (iI ((ln rb8 : Nat) : Int))), (9, .int (iI (k + 1))), (8, .int (iI mn2)), (5, .int (iI f6)), (4, .ref (sk 7)), (3, .ref (sk 24)), (0, .ref a0), (1, .int (iI g)), (2, .int (iI i))]) [2, 1, 0, 4, 5, 6, 7, 8, 9, 10] rfl ?_
                  exact ih2  (some f8) ((ln rb8 : Nat) : Int) (k + 1)  (by omega)  (fun _ q => by cases q; exact rgf8) (by omega) (by omega)
            · refine c_goto (tgt := 126) C dX3_longestAt_76 (by decide) ?_
              refine c_iinc (z := k) (j := 2) (lv2 := [(9, .int (iI (k + 1))), (6, (va_rf bs)), (7, .int (iI lg)), (8, .int (iI mn2)), (5, .int (iI f6)), (4, .ref (sk 7)), (3, .ref (sk 24)), (0, .ref a0), (1, .int (iI g)), (2, .int (iI i))]) C dX3_longestAt_126 rfl (by decide) rfl ?_
              refine c_goto (tgt := 56) C dX3_longestAt_129 (by decide) ?_
              refine c_lv (lv2 := [(6, (va_rf bs)), (7, .int (iI lg)), (9, .int (iI (k + 1))), (8, .int (iI mn2)), (5, .int (iI f6)), (4, .ref (sk 7)), (3, .ref (sk 24)), (0, .ref a0), (1, .int (iI g)), (2, .int (iI i))]) [1, 2, 0, 3, 4, 5, 6, 7, 8, 9] rfl ?_
              exact ih2  bs lg (k + 1)  (by omega)  ty_bs (by omega) (by omega)
      refine c_lv (lv2 := [(6, .null), (7, .int (iI 0)), (9, .int (iI 0)), (8, .int (iI mn2)), (5, .int (iI f6)), (4, .ref (sk 7)), (3, .ref (sk 24)), (0, .ref a0), (1, .int (iI g)), (2, .int (iI i))]) [3, 2, 0, 1, 4, 5, 6, 7, 8, 9] rfl ?_
      exact Lp2 6006 none 0 0  (by omega)  (fun _ q => by cases q) (by omega) (by omega)
  · obtain ⟨hf1, rfl⟩ := exf1
    refine c_st (st2 := [.ref (sk 25)]) rfl ?_
    refine c_astore_n (lv2 := [(3, .ref (sk 25)), (0, .ref a0), (1, .int (iI g)), (2, .int (iI i))]) C dX3_longestAt_5 (by decide) rfl ?_
    refine c_iload_n (j := 2) C dX3_longestAt_6 rfl ?_
    refine c_if_eq (tgt := 17) C ⟨by omega, by omega⟩ dX3_longestAt_7 (by decide) (fun c10 => ?_) (fun c10 => ?_)
    · refine c_aload_n (j := 1) (x := a0) C dX3_longestAt_17 rfl ?_
      obtain ⟨rb9, rq9, trb9⟩ := hW.ref t_a0 2 rfl rfl rfl
      have erb9 := hW.sk trb9 (by decide) rfl
      subst erb9
      refine c_getr (k := 2) C ck_4 dX3_longestAt_18 w1_196 (by decide) t_a0 rfl rfl (by decide) rfl rq9 ?_
      refine c_st (st2 := [.ref (sk 6)]) rfl ?_
      refine c_astore (lv2 := [(4, .ref (sk 6)), (3, .ref (sk 25)), (0, .ref a0), (1, .int (iI g)), (2, .int (iI i))]) C dX3_longestAt_21 (by decide) rfl ?_
      refine c_aload_n (j := 2) (x := a0) C dX3_longestAt_23 rfl ?_
      obtain ⟨rb10, rq10, trb10⟩ := hW.ref t_a0 4 rfl rfl rfl
      have erb10 := hW.sk trb10 (by decide) rfl
      subst erb10
      refine c_getr (k := 4) C ck_4 dX3_longestAt_24 w1_198 (by decide) t_a0 rfl rfl (by decide) rfl rq10 ?_
      refine c_st (st2 := [.ref (sk 8)]) rfl ?_
      refine c_iload_n (j := 4) C dX3_longestAt_27 rfl ?_
      have ri9 : 0 ≤ iv (sk 8) 2 ∧ iv (sk 8) 2 ≤ 40200 := hW.int tsk8 2
      refine d_callV (As := [.int (iI i)]) (rest := []) C hM (C_at_8 (a0 := (sk 8)) (i := i) hW hS tsk8 (by omega) ) dX3_longestAt_28 kV_X3_119 rfl tsk8 rfl rfl (by decide) ck_2 rfl (Nat.le_of_ble_eq_true rfl) ⟨(Nat.le_of_ble_eq_true rfl), (Nat.le_of_ble_eq_true rfl)⟩ hph hph (show 0 + 0 = 0 from rfl) (by decide) (fun rh10 Lh10 clh10 lnh10 ivh10 rvh10 h10 => ?_)
      obtain ⟨f10, rfl, rfl, rfl, rfl, rfl, rfl, rgf10, exf10⟩ := h10
      refine c_st (st2 := [.int (iI f10)]) rfl ?_
      have gf10 : ((0 ≤ i ∧ i < iv (sk 8) 2) ∨ f10 = 0) ∧ ∀ ss, CT iv rv (sk 8) ss → 0 ≤ i → i < iv (sk 8) 2 → f10 = ss i.toNat := exf10
      refine c_istore (lv2 := [(5, .int (iI f10)), (4, .ref (sk 6)), (3, .ref (sk 25)), (0, .ref a0), (1, .int (iI g)), (2, .int (iI i))]) C dX3_longestAt_31 (by decide) rfl ?_
      refine c_null C dX3_longestAt_33 ?_
      refine c_astorer (r := none) (lv2 := [(6, .null), (5, .int (iI f10)), (4, .ref (sk 6)), (3, .ref (sk 25)), (0, .ref a0), (1, .int (iI g)), (2, .int (iI i))]) C dX3_longestAt_34 (by decide) rfl ?_
      refine c_iconst C dX3_longestAt_36 ?_
      refine c_istore (lv2 := [(7, .int (iI 0)), (6, .null), (5, .int (iI f10)), (4, .ref (sk 6)), (3, .ref (sk 25)), (0, .ref a0), (1, .int (iI g)), (2, .int (iI i))]) C dX3_longestAt_37 (by decide) rfl ?_
      refine c_aload (j := 3) (x := (sk 6)) C dX3_longestAt_39 rfl ?_
      have ri10 : 0 ≤ iv (sk 6) 2 ∧ iv (sk 6) 2 ≤ 6003 := hW.int tsk6 2
      refine c_get (k := 2) C ck_2 dX3_longestAt_41 w1_49 (by decide) tsk6 rfl rfl (by decide) rfl ?_
      refine c_aload_n (j := 4) (x := (sk 25)) C dX3_longestAt_44 rfl ?_
      have ri11 : 0 ≤ iv (sk 25) 2 ∧ iv (sk 25) 2 ≤ 6003 := hW.int tsk25 2
      refine d_callV (As := []) (rest := [.int (iI (iv (sk 6) 2))]) C hM (C_size_25 (a0 := (sk 25)) hW hS tsk25  ) dX3_longestAt_45 kV_X3_78 rfl tsk25 rfl rfl (by decide) ck_0 rfl (Nat.le_of_ble_eq_true rfl) ⟨(Nat.le_of_ble_eq_true rfl), (Nat.le_of_ble_eq_true rfl)⟩ hph hph (show 0 + 0 = 0 from rfl) (by decide) (fun rh11 Lh11 clh11 lnh11 ivh11 rvh11 h11 => ?_)
      obtain ⟨f11, rfl, rfl, rfl, rfl, rfl, rfl, rgf11, exf11⟩ := h11
      refine c_st (st2 := [.int (iI f11), .int (iI (iv (sk 6) 2))]) rfl ?_
      have gf11 : f11 = iv (sk 25) 2 := exf11
      obtain ⟨mn3, hmn3, emn3⟩ := mmin_c (x := iv (sk 6) 2) (y := f11) ⟨by omega, by omega⟩ ⟨by omega, by omega⟩
      refine c_mmin (w := iI mn3) C dX3_longestAt_48 w5_88 w2_129 w1_14 w2_130 (by decide) (rom0 hph hph (by decide)) (Nat.le_of_ble_eq_true rfl) emn3 ?_
      refine c_istore (lv2 := [(8, .int (iI mn3)), (7, .int (iI 0)), (6, .null), (5, .int (iI f10)), (4, .ref (sk 6)), (3, .ref (sk 25)), (0, .ref a0), (1, .int (iI g)), (2, .int (iI i))]) C dX3_longestAt_51 (by decide) rfl ?_
      refine c_iconst C dX3_longestAt_53 ?_
      refine c_istore (lv2 := [(9, .int (iI 0)), (8, .int (iI mn3)), (7, .int (iI 0)), (6, .null), (5, .int (iI f10)), (4, .ref (sk 6)), (3, .ref (sk 25)), (0, .ref a0), (1, .int (iI g)), (2, .int (iI i))]) C dX3_longestAt_54 (by decide) rfl ?_
      have Lp3 : ∀ (nn : Nat) (bs : Option Nat) (lg k : Int) , 6004 - k < (nn : Int) → (∀ b, bs = some b → ty L cl b 20) → (0 ≤ lg ∧ lg ≤ 4) → (0 ≤ k ∧ k ≤ 6003) → cw p l e 3 ((PHM) + 0 - ((Phi (g0 G) sk) ln rv)) s m args below meth c G A 11 (MQ below (Qu G A (Qp G (Phi (g0 G) sk) ((Phi (g0 G) sk) ln rv) 0 (fun v L2 cl2 ln2 iv2 rv2 => ∃ f : Option Nat, v = some ((va_rf f)) ∧ L = L2 ∧ cl = cl2 ∧ ln = ln2 ∧ iv = iv2 ∧ rv = rv2 ∧ (∀ b, f = some b → ty L2 cl2 b 20) ∧ (True)))) args s (((PHM) + 0 - ((Phi (g0 G) sk) ln rv)) / 16) ((PHM) + 0 - ((Phi (g0 G) sk) ln rv)) A) (Phi (g0 G) sk) ((Phi (g0 G) sk) ln rv) L cl ln iv rv 0 56 [(6, (va_rf bs)), (7, .int (iI lg)), (9, .int (iI k)), (8, .int (iI mn3)), (5, .int (iI f10)), (4, .ref (sk 6)), (3, .ref (sk 25)), (0, .ref a0), (1, .int (iI g)), (2, .int (iI i))] [] := by
        intro nn
        induction nn with
        | zero =>
          intro bs lg k  hm  ty_bs hlg hk
          exact absurd hm (by omega)
        | succ nn ih3 =>
          intro bs lg k  hm  ty_bs hlg hk
          refine c_iload (j := 2) C dX3_longestAt_56 rfl ?_
          refine c_iload (j := 3) C dX3_longestAt_58 rfl ?_
          refine c_icmp_ge (tgt := 132) C ⟨by omega, by omega⟩ ⟨by omega, by omega⟩ dX3_longestAt_60 (by decide) (fun c11 => ?_) (fun c11 => ?_)
          · refine c_aloadr (j := 0) (r := bs) C dX3_longestAt_132 rfl ?_
            exact c_aret (x := bs) C dX3_longestAt_134 rfl (Or.inl ⟨_, rfl⟩) (by decide) (rom0 hph hph (by decide)) ⟨bs, rfl, rfl, rfl, rfl, rfl, rfl, ty_bs, trivial⟩
          · refine c_aload (j := 5) (x := (sk 6)) C dX3_longestAt_63 rfl ?_
            obtain ⟨rb11, rq11, trb11⟩ := hW.ref tsk6 1 rfl rfl rfl
            refine hv2 (show 16 ≤ ln rb11 ∧ ln rb11 ≤ 12006 from hW.len trb11 rfl) (hW.isz tsk6 rfl rfl rq11) (fun lnrb11 szrb11 => ?_)
            refine c_getr (k := 1) C ck_2 dX3_longestAt_65 w1_41 (by decide) tsk6 rfl rfl (by decide) rfl rq11 ?_
            refine c_st (st2 := [.ref rb11]) rfl ?_
            refine c_iload (j := 2) C dX3_longestAt_68 rfl ?_
            have ll5 : 16 ≤ ln rb11 ∧ ln rb11 ≤ 12006 := hW.len trb11 rfl
            refine c_iald C dX3_longestAt_70 trb11 rfl (by omega) (by omega) (by omega) ?_
            have ri12 : (-2147483648) ≤ iv rb11 k.toNat ∧ iv rb11 k.toNat ≤ 2147483647 := hW.int trb11 k.toNat
            refine c_iload (j := 4) C dX3_longestAt_71 rfl ?_
            refine c_icmp_eq (tgt := 79) C ⟨by omega, by omega⟩ ⟨by omega, by omega⟩ dX3_longestAt_73 (by decide) (fun c12 => ?_) (fun c12 => ?_)
            · refine c_aload_n (j := 6) (x := (sk 25)) C dX3_longestAt_79 rfl ?_
              refine c_iload (j := 2) C dX3_longestAt_80 rfl ?_
              refine d_callV (As := [.int (iI k)]) (rest := []) C hM (C_get_25 (a0 := (sk 25)) (i := k) hW hS tsk25 (by omega) (by show 0 ≤ k ∧ k < iv (sk 25) 2; omega)) dX3_longestAt_82 kV_X3_82 rfl tsk25 rfl rfl (by decide) ck_0 rfl (Nat.le_of_ble_eq_true rfl) ⟨(Nat.le_of_ble_eq_true rfl), (Nat.le_of_ble_eq_true rfl)⟩ hph hph (show 0 + 0 = 0 from rfl) (by decide) (fun rh12 Lh12 clh12 lnh12 ivh12 rvh12 h12 => ?_)
              obtain ⟨f12, rfl, rfl, rfl, rfl, rfl, rfl, rgf12, exf12⟩ := h12
              refine c_st (st2 := [.ref f12]) rfl ?_
              have gf12 : el rv (sk 25) k.toNat = some f12 := exf12
              refine c_cast C ck_6 dX3_longestAt_85 w5_63 w8_169t rgf12 rfl rfl (by decide) ?_
              refine c_astore (lv2 := [(10, .ref f12), (6, (va_rf bs)), (7, .int (iI lg)), (9, .int (iI k)), (8, .int (iI mn3)), (5, .int (iI f10)), (4, .ref (sk 6)), (3, .ref (sk 25)), (0, .ref a0), (1, .int (iI g)), (2, .int (iI i))]) C dX3_longestAt_88 (by decide) rfl ?_
              refine c_aload (j := 0) (x := f12) C dX3_longestAt_90 rfl ?_
              obtain ⟨rb12, rq12, trb12⟩ := hW.ref rgf12 2 rfl rfl rfl
              have lnrb12 : 1 ≤ ln rb12 ∧ ln rb12 ≤ 4 := hW.len trb12 rfl
              refine c_getr (k := 2) C ck_6 dX3_longestAt_92 w3_143 (by decide) rgf12 rfl rfl (by decide) rfl rq12 ?_
              refine c_st (st2 := [.ref rb12]) rfl ?_
              have ll6 : 1 ≤ ln rb12 ∧ ln rb12 ≤ 4 := hW.len trb12 rfl
              refine c_alenI C dX3_longestAt_95 trb12 rfl ?_
              refine c_iload (j := 2) C dX3_longestAt_96 rfl ?_
              refine c_icmp_le (tgt := 126) C ⟨by omega, by omega⟩ ⟨by omega, by omega⟩ dX3_longestAt_98 (by decide) (fun c13 => ?_) (fun c13 => ?_)
              · refine c_iinc (z := k) (j := 3) (lv2 := [(9, .int (iI (k + 1))), (10, .ref f12), (6, (va_rf bs)), (7, .int (iI lg)), (8, .int (iI mn3)), (5, .int (iI f10)), (4, .ref (sk 6)), (3, .ref (sk 25)), (0, .ref a0), (1, .int (iI g)), (2, .int (iI i))]) C dX3_longestAt_126 rfl (by decide) rfl ?_
                refine c_goto (tgt := 56) C dX3_longestAt_129 (by decide) ?_
                refine c_lv (lv2 := [(6, (va_rf bs)), (7, .int (iI lg)), (9, .int (iI (k + 1))), (8, .int (iI mn3)), (5, .int (iI f10)), (4, .ref (sk 6)), (3, .ref (sk 25)), (0, .ref a0), (1, .int (iI g)), (2, .int (iI i))]) [2, 3, 0, 4, 5, 6, 7, 8, 9, 10] rfl ?_
                exact ih3  bs lg (k + 1)  (by omega)  ty_bs (by omega) (by omega)
              · refine c_aload (j := 0) (x := f12) C dX3_longestAt_101 rfl ?_
                refine c_aload_n (j := 8) (x := a0) C dX3_longestAt_103 rfl ?_
                refine c_getr (k := 4) C ck_4 dX3_longestAt_104 w1_198 (by decide) t_a0 rfl rfl (by decide) rfl rq10 ?_
                refine c_st (st2 := [.ref (sk 8), .ref f12]) rfl ?_
                refine c_iload_n (j := 10) C dX3_longestAt_107 rfl ?_
                refine d_callV (As := [.ref (sk 8), .int (iI i)]) (rest := []) C hM (C_standsAt (a0 := f12) (a1 := (sk 8)) (i := i) hW hS rgf12 tsk8 (by omega) ) dX3_longestAt_108 kV_X3_157 rfl rgf12 rfl rfl (by decide) ck_6 rfl (Nat.le_of_ble_eq_true rfl) ⟨(Nat.le_of_ble_eq_true rfl), (Nat.le_of_ble_eq_true rfl)⟩ hph hph (show 0 + 0 = 0 from rfl) (by decide) (fun rh13 Lh13 clh13 lnh13 ivh13 rvh13 h13 => ?_)
                obtain ⟨f13, rfl, rfl, rfl, rfl, rfl, rfl, rgf13, exf13⟩ := h13
                refine c_st (st2 := [.int (iI f13)]) rfl ?_
                refine c_if_eq (tgt := 126) C ⟨by omega, by omega⟩ dX3_longestAt_111 (by decide) (fun c14 => ?_) (fun c14 => ?_)
                · refine c_iinc (z := k) (j := 3) (lv2 := [(9, .int (iI (k + 1))), (10, .ref f12), (6, (va_rf bs)), (7, .int (iI lg)), (8, .int (iI mn3)), (5, .int (iI f10)), (4, .ref (sk 6)), (3, .ref (sk 25)), (0, .ref a0), (1, .int (iI g)), (2, .int (iI i))]) C dX3_longestAt_126 rfl (by decide) rfl ?_
                  refine c_goto (tgt := 56) C dX3_longestAt_129 (by decide) ?_
                  refine c_lv (lv2 := [(6, (va_rf bs)), (7, .int (iI lg)), (9, .int (iI (k + 1))), (8, .int (iI mn3)), (5, .int (iI f10)), (4, .ref (sk 6)), (3, .ref (sk 25)), (0, .ref a0), (1, .int (iI g)), (2, .int (iI i))]) [2, 3, 0, 4, 5, 6, 7, 8, 9, 10] rfl ?_
                  exact ih3  bs lg (k + 1)  (by omega)  ty_bs (by omega) (by omega)
                · refine c_aload (j := 0) (x := f12) C dX3_longestAt_114 rfl ?_
                  refine c_astore (lv2 := [(6, .ref f12), (10, .ref f12), (7, .int (iI lg)), (9, .int (iI k)), (8, .int (iI mn3)), (5, .int (iI f10)), (4, .ref (sk 6)), (3, .ref (sk 25)), (0, .ref a0), (1, .int (iI g)), (2, .int (iI i))]) C dX3_longestAt_116 (by decide) rfl ?_
                  refine c_aload (j := 1) (x := f12) C dX3_longestAt_118 rfl ?_
                  refine c_getr (k := 2) C ck_6 dX3_longestAt_120 w3_143 (by decide) rgf12 rfl rfl (by decide) rfl rq12 ?_
                  refine c_st (st2 := [.ref rb12]) rfl ?_
                  refine c_alenI C dX3_longestAt_123 trb12 rfl ?_
                  refine c_istore (lv2 := [(7, .int (iI ((ln rb12 : Nat) : Int))), (6, .ref f12), (10, .ref f12), (9, .int (iI k)), (8, .int (iI mn3)), (5, .int (iI f10)), (4, .ref (sk 6)), (3, .ref (sk 25)), (0, .ref a0), (1, .int (iI g)), (2, .int (iI i))]) C dX3_longestAt_124 (by decide) rfl ?_
                  refine c_iinc (z := k) (j := 3) (lv2 := [(9, .int (iI (k + 1))), (7, .int (iI ((ln rb12 : Nat) : Int))), (6, .ref f12), (10, .ref f12), (8, .int (iI mn3)), (5, .int (iI f10)), (4, .ref (sk 6)), (3, .ref (sk 25)), (0, .ref a0), (1, .int (iI g)), (2, .int (iI i))]) C dX3_longestAt_126 rfl (by decide) rfl ?_
                  refine c_goto (tgt := 56) C dX3_longestAt_129 (by decide) ?_
                  refine c_lv (lv2 := [(6, .ref f12), (7, .int (iI ((ln rb12 : Nat) : Int))), (9, .int (iI (k + 1))), (8, .int (iI mn3)), (5, .int (iI f10)), (4, .ref (sk 6)), (3, .ref (sk 25)), (0, .ref a0), (1, .int (iI g)), (2, .int (iI i))]) [2, 1, 0, 4, 5, 6, 7, 8, 9, 10] rfl ?_
                  exact ih3  (some f12) ((ln rb12 : Nat) : Int) (k + 1)  (by omega)  (fun _ q => by cases q; exact rgf12) (by omega) (by omega)
            · refine c_goto (tgt := 126) C dX3_longestAt_76 (by decide) ?_
              refine c_iinc (z := k) (j := 2) (lv2 := [(9, .int (iI (k + 1))), (6, (va_rf bs)), (7, .int (iI lg)), (8, .int (iI mn3)), (5, .int (iI f10)), (4, .ref (sk 6)), (3, .ref (sk 25)), (0, .ref a0), (1, .int (iI g)), (2, .int (iI i))]) C dX3_longestAt_126 rfl (by decide) rfl ?_
              refine c_goto (tgt := 56) C dX3_longestAt_129 (by decide) ?_
              refine c_lv (lv2 := [(6, (va_rf bs)), (7, .int (iI lg)), (9, .int (iI (k + 1))), (8, .int (iI mn3)), (5, .int (iI f10)), (4, .ref (sk 6)), (3, .ref (sk 25)), (0, .ref a0), (1, .int (iI g)), (2, .int (iI i))]) [1, 2, 0, 3, 4, 5, 6, 7, 8, 9] rfl ?_
              exact ih3  bs lg (k + 1)  (by omega)  ty_bs (by omega) (by omega)
      refine c_lv (lv2 := [(6, .null), (7, .int (iI 0)), (9, .int (iI 0)), (8, .int (iI mn3)), (5, .int (iI f10)), (4, .ref (sk 6)), (3, .ref (sk 25)), (0, .ref a0), (1, .int (iI g)), (2, .int (iI i))]) [3, 2, 0, 1, 4, 5, 6, 7, 8, 9] rfl ?_
      exact Lp3 6006 none 0 0  (by omega)  (fun _ q => by cases q) (by omega) (by omega)
    · refine c_aload_n (j := 1) (x := a0) C dX3_longestAt_10 rfl ?_
      obtain ⟨rb13, rq13, trb13⟩ := hW.ref t_a0 3 rfl rfl rfl
      have erb13 := hW.sk trb13 (by decide) rfl
      subst erb13
      refine c_getr (k := 3) C ck_4 dX3_longestAt_11 w1_197 (by decide) t_a0 rfl rfl (by decide) rfl rq13 ?_
      refine c_st (st2 := [.ref (sk 7)]) rfl ?_
      refine c_goto (tgt := 21) C dX3_longestAt_14 (by decide) ?_
      refine c_astore (lv2 := [(4, .ref (sk 7)), (3, .ref (sk 25)), (0, .ref a0), (1, .int (iI g)), (2, .int (iI i))]) C dX3_longestAt_21 (by decide) rfl ?_
      refine c_aload_n (j := 2) (x := a0) C dX3_longestAt_23 rfl ?_
      obtain ⟨rb14, rq14, trb14⟩ := hW.ref t_a0 4 rfl rfl rfl
      have erb14 := hW.sk trb14 (by decide) rfl
      subst erb14
      refine c_getr (k := 4) C ck_4 dX3_longestAt_24 w1_198 (by decide) t_a0 rfl rfl (by decide) rfl rq14 ?_
      refine c_st (st2 := [.ref (sk 8)]) rfl ?_
      refine c_iload_n (j := 4) C dX3_longestAt_27 rfl ?_
      have ri13 : 0 ≤ iv (sk 8) 2 ∧ iv (sk 8) 2 ≤ 40200 := hW.int tsk8 2
      refine d_callV (As := [.int (iI i)]) (rest := []) C hM (C_at_8 (a0 := (sk 8)) (i := i) hW hS tsk8 (by omega) ) dX3_longestAt_28 kV_X3_119 rfl tsk8 rfl rfl (by decide) ck_2 rfl (Nat.le_of_ble_eq_true rfl) ⟨(Nat.le_of_ble_eq_true rfl), (Nat.le_of_ble_eq_true rfl)⟩ hph hph (show 0 + 0 = 0 from rfl) (by decide) (fun rh14 Lh14 clh14 lnh14 ivh14 rvh14 h14 => ?_)
      obtain ⟨f14, rfl, rfl, rfl, rfl, rfl, rfl, rgf14, exf14⟩ := h14
      refine c_st (st2 := [.int (iI f14)]) rfl ?_
      have gf14 : ((0 ≤ i ∧ i < iv (sk 8) 2) ∨ f14 = 0) ∧ ∀ ss, CT iv rv (sk 8) ss → 0 ≤ i → i < iv (sk 8) 2 → f14 = ss i.toNat := exf14
      refine c_istore (lv2 := [(5, .int (iI f14)), (4, .ref (sk 7)), (3, .ref (sk 25)), (0, .ref a0), (1, .int (iI g)), (2, .int (iI i))]) C dX3_longestAt_31 (by decide) rfl ?_
      refine c_null C dX3_longestAt_33 ?_
      refine c_astorer (r := none) (lv2 := [(6, .null), (5, .int (iI f14)), (4, .ref (sk 7)), (3, .ref (sk 25)), (0, .ref a0), (1, .int (iI g)), (2, .int (iI i))]) C dX3_longestAt_34 (by decide) rfl ?_
      refine c_iconst C dX3_longestAt_36 ?_
      refine c_istore (lv2 := [(7, .int (iI 0)), (6, .null), (5, .int (iI f14)), (4, .ref (sk 7)), (3, .ref (sk 25)), (0, .ref a0), (1, .int (iI g)), (2, .int (iI i))]) C dX3_longestAt_37 (by decide) rfl ?_
      refine c_aload (j := 3) (x := (sk 7)) C dX3_longestAt_39 rfl ?_
      have ri14 : 0 ≤ iv (sk 7) 2 ∧ iv (sk 7) 2 ≤ 6003 := hW.int tsk7 2
      refine c_get (k := 2) C ck_2 dX3_longestAt_41 w1_49 (by decide) tsk7 rfl rfl (by decide) rfl ?_
      refine c_aload_n (j := 4) (x := (sk 25)) C dX3_longestAt_44 rfl ?_
      have ri15 : 0 ≤ iv (sk 25) 2 ∧ iv (sk 25) 2 ≤ 6003 := hW.int tsk25 2
      refine d_callV (As := []) (rest := [.int (iI (iv (sk 7) 2))]) C hM (C_size_25 (a0 := (sk 25)) hW hS tsk25  ) dX3_longestAt_45 kV_X3_78 rfl tsk25 rfl rfl (by decide) ck_0 rfl (Nat.le_of_ble_eq_true rfl) ⟨(Nat.le_of_ble_eq_true rfl), (Nat.le_of_ble_eq_true rfl)⟩ hph hph (show 0 + 0 = 0 from rfl) (by decide) (fun rh15 Lh15 clh15 lnh15 ivh15 rvh15 h15 => ?_)
      obtain ⟨f15, rfl, rfl, rfl, rfl, rfl, rfl, rgf15, exf15⟩ := h15
      refine c_st (st2 := [.int (iI f15), .int (iI (iv (sk 7) 2))]) rfl ?_
      have gf15 : f15 = iv (sk 25) 2 := exf15
      obtain ⟨mn4, hmn4, emn4⟩ := mmin_c (x := iv (sk 7) 2) (y := f15) ⟨by omega, by omega⟩ ⟨by omega, by omega⟩
      refine c_mmin (w := iI mn4) C dX3_longestAt_48 w5_88 w2_129 w1_14 w2_130 (by decide) (rom0 hph hph (by decide)) (Nat.le_of_ble_eq_true rfl) emn4 ?_
      refine c_istore (lv2 := [(8, .int (iI mn4)), (7, .int (iI 0)), (6, .null), (5, .int (iI f14)), (4, .ref (sk 7)), (3, .ref (sk 25)), (0, .ref a0), (1, .int (iI g)), (2, .int (iI i))]) C dX3_longestAt_51 (by decide) rfl ?_
      refine c_iconst C dX3_longestAt_53 ?_
      refine c_istore (lv2 := [(9, .int (iI 0)), (8, .int (iI mn4)), (7, .int (iI 0)), (6, .null), (5, .int (iI f14)), (4, .ref (sk 7)), (3, .ref (sk 25)), (0, .ref a0), (1, .int (iI g)), (2, .int (iI i))]) C dX3_longestAt_54 (by decide) rfl ?_
      have Lp4 : ∀ (nn : Nat) (bs : Option Nat) (lg k : Int) , 6004 - k < (nn : Int) → (∀ b, bs = some b → ty L cl b 20) → (0 ≤ lg ∧ lg ≤ 4) → (0 ≤ k ∧ k ≤ 6003) → cw p l e 3 ((PHM) + 0 - ((Phi (g0 G) sk) ln rv)) s m args below meth c G A 11 (MQ below (Qu G A (Qp G (Phi (g0 G) sk) ((Phi (g0 G) sk) ln rv) 0 (fun v L2 cl2 ln2 iv2 rv2 => ∃ f : Option Nat, v = some ((va_rf f)) ∧ L = L2 ∧ cl = cl2 ∧ ln = ln2 ∧ iv = iv2 ∧ rv = rv2 ∧ (∀ b, f = some b → ty L2 cl2 b 20) ∧ (True)))) args s (((PHM) + 0 - ((Phi (g0 G) sk) ln rv)) / 16) ((PHM) + 0 - ((Phi (g0 G) sk) ln rv)) A) (Phi (g0 G) sk) ((Phi (g0 G) sk) ln rv) L cl ln iv rv 0 56 [(6, (va_rf bs)), (7, .int (iI lg)), (9, .int (iI k)), (8, .int (iI mn4)), (5, .int (iI f14)), (4, .ref (sk 7)), (3, .ref (sk 25)), (0, .ref a0), (1, .int (iI g)), (2, .int (iI i))] [] := by
        intro nn
        induction nn with
        | zero =>
          intro bs lg k  hm  ty_bs hlg hk
          exact absurd hm (by omega)
        | succ nn ih4 =>
          intro bs lg k  hm  ty_bs hlg hk
          refine c_iload (j := 2) C dX3_longestAt_56 rfl ?_
          refine c_iload (j := 3) C dX3_longestAt_58 rfl ?_
          refine c_icmp_ge (tgt := 132) C ⟨by omega, by omega⟩ ⟨by omega, by omega⟩ dX3_longestAt_60 (by decide) (fun c15 => ?_) (fun c15 => ?_)
          · refine c_aloadr (j := 0) (r := bs) C dX3_longestAt_132 rfl ?_
            exact c_aret (x := bs) C dX3_longestAt_134 rfl (Or.inl ⟨_, rfl⟩) (by decide) (rom0 hph hph (by decide)) ⟨bs, rfl, rfl, rfl, rfl, rfl, rfl, ty_bs, trivial⟩
          · refine c_aload (j := 5) (x := (sk 7)) C dX3_longestAt_63 rfl ?_
            obtain ⟨rb15, rq15, trb15⟩ := hW.ref tsk7 1 rfl rfl rfl
            refine hv2 (show 16 ≤ ln rb15 ∧ ln rb15 ≤ 12006 from hW.len trb15 rfl) (hW.isz tsk7 rfl rfl rq15) (fun lnrb15 szrb15 => ?_)
            refine c_getr (k := 1) C ck_2 dX3_longestAt_65 w1_41 (by decide) tsk7 rfl rfl (by decide) rfl rq15 ?_
            refine c_st (st2 := [.ref rb15]) rfl ?_
            refine c_iload (j := 2) C dX3_longestAt_68 rfl ?_
            have ll7 : 16 ≤ ln rb15 ∧ ln rb15 ≤ 12006 := hW.len trb15 rfl
            refine c_iald C dX3_longestAt_70 trb15 rfl (by omega) (by omega) (by omega) ?_
            have ri16 : (-2147483648) ≤ iv rb15 k.toNat ∧ iv rb15 k.toNat ≤ 2147483647 := hW.int trb15 k.toNat
            refine c_iload (j := 4) C dX3_longestAt_71 rfl ?_
            refine c_icmp_eq (tgt := 79) C ⟨by omega, by omega⟩ ⟨by omega, by omega⟩ dX3_longestAt_73 (by decide) (fun c16 => ?_) (fun c16 => ?_)
            · refine c_aload_n (j := 6) (x := (sk 25)) C dX3_longestAt_79 rfl ?_
              refine c_iload (j := 2) C dX3_longestAt_80 rfl ?_
              refine d_callV (As := [.int (iI k)]) (rest := []) C hM (C_get_25 (a0 := (sk 25)) (i := k) hW hS tsk25 (by omega) (by show 0 ≤ k ∧ k < iv (sk 25) 2; omega)) dX3_longestAt_82 kV_X3_82 rfl tsk25 rfl rfl (by decide) ck_0 rfl (Nat.le_of_ble_eq_true rfl) ⟨(Nat.le_of_ble_eq_true rfl), (Nat.le_of_ble_eq_true rfl)⟩ hph hph (show 0 + 0 = 0 from rfl) (by decide) (fun rh16 Lh16 clh16 lnh16 ivh16 rvh16 h16 => ?_)
              obtain ⟨f16, rfl, rfl, rfl, rfl, rfl, rfl, rgf16, exf16⟩ := h16
              refine c_st (st2 := [.ref f16]) rfl ?_
              have gf16 : el rv (sk 25) k.toNat = some f16 := exf16
              refine c_cast C ck_6 dX3_longestAt_85 w5_63 w8_169t rgf16 rfl rfl (by decide) ?_
              refine c_astore (lv2 := [(10, .ref f16), (6, (va_rf bs)), (7, .int (iI lg)), (9, .int (iI k)), (8, .int (iI mn4)), (5, .int (iI f14)), (4, .ref (sk 7)), (3, .ref (sk 25)), (0, .ref a0), (1, .int (iI g)), (2, .int (iI i))]) C dX3_longestAt_88 (by decide) rfl ?_
              refine c_aload (j := 0) (x := f16) C dX3_longestAt_90 rfl ?_
              obtain ⟨rb16, rq16, trb16⟩ := hW.ref rgf16 2 rfl rfl rfl
              have lnrb16 : 1 ≤ ln rb16 ∧ ln rb16 ≤ 4 := hW.len trb16 rfl
              refine c_getr (k := 2) C ck_6 dX3_longestAt_92 w3_143 (by decide) rgf16 rfl rfl (by decide) rfl rq16 ?_
              refine c_st (st2 := [.ref rb16]) rfl ?_
              have ll8 : 1 ≤ ln rb16 ∧ ln rb16 ≤ 4 := hW.len trb16 rfl
              refine c_alenI C dX3_longestAt_95 trb16 rfl ?_
              refine c_iload (j := 2) C dX3_longestAt_96 rfl ?_
              refine c_icmp_le (tgt := 126) C ⟨by omega, by omega⟩ ⟨by omega, by omega⟩ dX3_longestAt_98 (by decide) (fun c17 => ?_) (fun c17 => ?_)
              · refine c_iinc (z := k) (j := 3) (lv2 := [(9, .int (iI (k + 1))), (10, .ref f16), (6, (va_rf bs)), (7, .int (iI lg)), (8, .int (iI mn4)), (5, .int (iI f14)), (4, .ref (sk 7)), (3, .ref (sk 25)), (0, .ref a0), (1, .int (iI g)), (2, .int (iI i))]) C dX3_longestAt_126 rfl (by decide) rfl ?_
                refine c_goto (tgt := 56) C dX3_longestAt_129 (by decide) ?_
                refine c_lv (lv2 := [(6, (va_rf bs)), (7, .int (iI lg)), (9, .int (iI (k + 1))), (8, .int (iI mn4)), (5, .int (iI f14)), (4, .ref (sk 7)), (3, .ref (sk 25)), (0, .ref a0), (1, .int (iI g)), (2, .int (iI i))]) [2, 3, 0, 4, 5, 6, 7, 8, 9, 10] rfl ?_
                exact ih4  bs lg (k + 1)  (by omega)  ty_bs (by omega) (by omega)
              · refine c_aload (j := 0) (x := f16) C dX3_longestAt_101 rfl ?_
                refine c_aload_n (j := 8) (x := a0) C dX3_longestAt_103 rfl ?_
                refine c_getr (k := 4) C ck_4 dX3_longestAt_104 w1_198 (by decide) t_a0 rfl rfl (by decide) rfl rq14 ?_
                refine c_st (st2 := [.ref (sk 8), .ref f16]) rfl ?_
                refine c_iload_n (j := 10) C dX3_longestAt_107 rfl ?_
                refine d_callV (As := [.ref (sk 8), .int (iI i)]) (rest := []) C hM (C_standsAt (a0 := f16) (a1 := (sk 8)) (i := i) hW hS rgf16 tsk8 (by omega) ) dX3_longestAt_108 kV_X3_157 rfl rgf16 rfl rfl (by decide) ck_6 rfl (Nat.le_of_ble_eq_true rfl) ⟨(Nat.le_of_ble_eq_true rfl), (Nat.le_of_ble_eq_true rfl)⟩ hph hph (show 0 + 0 = 0 from rfl) (by decide) (fun rh17 Lh17 clh17 lnh17 ivh17 rvh17 h17 => ?_)
                obtain ⟨f17, rfl, rfl, rfl, rfl, rfl, rfl, rgf17, exf17⟩ := h17
                refine c_st (st2 := [.int (iI f17)]) rfl ?_
                refine c_if_eq (tgt := 126) C ⟨by omega, by omega⟩ dX3_longestAt_111 (by decide) (fun c18 => ?_) (fun c18 => ?_)
                · refine c_iinc (z := k) (j := 3) (lv2 := [(9, .int (iI (k + 1))), (10, .ref f16), (6, (va_rf bs)), (7, .int (iI lg)), (8, .int (iI mn4)), (5, .int (iI f14)), (4, .ref (sk 7)), (3, .ref (sk 25)), (0, .ref a0), (1, .int (iI g)), (2, .int (iI i))]) C dX3_longestAt_126 rfl (by decide) rfl ?_
                  refine c_goto (tgt := 56) C dX3_longestAt_129 (by decide) ?_
                  refine c_lv (lv2 := [(6, (va_rf bs)), (7, .int (iI lg)), (9, .int (iI (k + 1))), (8, .int (iI mn4)), (5, .int (iI f14)), (4, .ref (sk 7)), (3, .ref (sk 25)), (0, .ref a0), (1, .int (iI g)), (2, .int (iI i))]) [2, 3, 0, 4, 5, 6, 7, 8, 9, 10] rfl ?_
                  exact ih4  bs lg (k + 1)  (by omega)  ty_bs (by omega) (by omega)
                · refine c_aload (j := 0) (x := f16) C dX3_longestAt_114 rfl ?_
                  refine c_astore (lv2 := [(6, .ref f16), (10, .ref f16), (7, .int (iI lg)), (9, .int (iI k)), (8, .int (iI mn4)), (5, .int (iI f14)), (4, .ref (sk 7)), (3, .ref (sk 25)), (0, .ref a0), (1, .int (iI g)), (2, .int (iI i))]) C dX3_longestAt_116 (by decide) rfl ?_
                  refine c_aload (j := 1) (x := f16) C dX3_longestAt_118 rfl ?_
                  refine c_getr (k := 2) C ck_6 dX3_longestAt_120 w3_143 (by decide) rgf16 rfl rfl (by decide) rfl rq16 ?_
                  refine c_st (st2 := [.ref rb16]) rfl ?_
                  refine c_alenI C dX3_longestAt_123 trb16 rfl ?_
                  refine c_istore (lv2 := [(7, .int (iI ((ln rb16 : Nat) : Int))), (6, .ref f16), (10, .ref f16), (9, .int (iI k)), (8, .int (iI mn4)), (5, .int (iI f14)), (4, .ref (sk 7)), (3, .ref (sk 25)), (0, .ref a0), (1, .int (iI g)), (2, .int (iI i))]) C dX3_longestAt_124 (by decide) rfl ?_
                  refine c_iinc (z := k) (j := 3) (lv2 := [(9, .int (iI (k + 1))), (7, .int (iI ((ln rb16 : Nat) : Int))), (6, .ref f16), (10, .ref f16), (8, .int (iI mn4)), (5, .int (iI f14)), (4, .ref (sk 7)), (3, .ref (sk 25)), (0, .ref a0), (1, .int (iI g)), (2, .int (iI i))]) C dX3_longestAt_126 rfl (by decide) rfl ?_
                  refine c_goto (tgt := 56) C dX3_longestAt_129 (by decide) ?_
                  refine c_lv (lv2 := [(6, .ref f16), (7, .int (iI ((ln rb16 : Nat) : Int))), (9, .int (iI (k + 1))), (8, .int (iI mn4)), (5, .int (iI f14)), (4, .ref (sk 7)), (3, .ref (sk 25)), (0, .ref a0), (1, .int (iI g)), (2, .int (iI i))]) [2, 1, 0, 4, 5, 6, 7, 8, 9, 10] rfl ?_
                  exact ih4  (some f16) ((ln rb16 : Nat) : Int) (k + 1)  (by omega)  (fun _ q => by cases q; exact rgf16) (by omega) (by omega)
            · refine c_goto (tgt := 126) C dX3_longestAt_76 (by decide) ?_
              refine c_iinc (z := k) (j := 2) (lv2 := [(9, .int (iI (k + 1))), (6, (va_rf bs)), (7, .int (iI lg)), (8, .int (iI mn4)), (5, .int (iI f14)), (4, .ref (sk 7)), (3, .ref (sk 25)), (0, .ref a0), (1, .int (iI g)), (2, .int (iI i))]) C dX3_longestAt_126 rfl (by decide) rfl ?_
              refine c_goto (tgt := 56) C dX3_longestAt_129 (by decide) ?_
              refine c_lv (lv2 := [(6, (va_rf bs)), (7, .int (iI lg)), (9, .int (iI (k + 1))), (8, .int (iI mn4)), (5, .int (iI f14)), (4, .ref (sk 7)), (3, .ref (sk 25)), (0, .ref a0), (1, .int (iI g)), (2, .int (iI i))]) [1, 2, 0, 3, 4, 5, 6, 7, 8, 9] rfl ?_
              exact ih4  bs lg (k + 1)  (by omega)  ty_bs (by omega) (by omega)
      refine c_lv (lv2 := [(6, .null), (7, .int (iI 0)), (9, .int (iI 0)), (8, .int (iI mn4)), (5, .int (iI f14)), (4, .ref (sk 7)), (3, .ref (sk 25)), (0, .ref a0), (1, .int (iI g)), (2, .int (iI i))]) [3, 2, 0, 1, 4, 5, 6, 7, 8, 9] rfl ?_
      exact Lp4 6006 none 0 0  (by omega)  (fun _ q => by cases q) (by omega) (by omega)
set_option maxHeartbeats 4000000 in
set_option maxRecDepth 100000 in
theorem C_decodeWord {l : Launch} {G : GT} {mi : Nat} {sk : Nat → Nat} {L : List Nat} {cl ln : Nat → Nat} {iv : Nat → Nat → Int} {rv : Nat → Nat → Option Nat}  {a0 : Nat} {i : Int} (hW : WT (g0 G) sk L cl ln iv rv) (hS : SKL sk L cl) (t_a0 : ty L cl a0 16) (h_i : -2147483648 ≤ i ∧ i ≤ 2147483647) (hi : 0 ≤ i ∧ i ≤ 40200) : Mc l G mi (Phi (g0 G) sk) PHM yX3_decodeWord cX3_decodeWord 6 (some .int) 4 [.ref a0, .int (iI i)] L cl ln iv rv 0 (fun v L2 cl2 ln2 iv2 rv2 => ∃ f : Int, v = some (.int (iI f)) ∧ XT L cl ln L2 cl2 ln2 ∧ fT [16, 10, 40] L cl iv rv iv2 rv2 ∧ WT (g0 G) sk L2 cl2 ln2 iv2 rv2 ∧ (-2147483648 ≤ f ∧ f ≤ 2147483647) ∧ (f ≤ 40210)) := by
  refine Mc.mk (by decide) (Nat.le_of_ble_eq_true rfl) ?_
  intro p e s m args below meth c A C hM
  refine hv10 (Phi.le hW hS) (show ty L cl (sk 6) 6 from ⟨(hS 6 rfl).1, by rw [(hS 6 rfl).2]; rfl⟩) (show ty L cl (sk 7) 7 from ⟨(hS 7 rfl).1, by rw [(hS 7 rfl).2]; rfl⟩) (show ty L cl (sk 8) 8 from ⟨(hS 8 rfl).1, by rw [(hS 8 rfl).2]; rfl⟩) (show ty L cl (sk 9) 9 from ⟨(hS 9 rfl).1, by rw [(hS 9 rfl).2]; rfl⟩) (show ty L cl (sk 10) 10 from ⟨(hS 10 rfl).1, by rw [(hS 10 rfl).2]; rfl⟩) (show ty L cl (sk 24) 24 from ⟨(hS 24 rfl).1, by rw [(hS 24 rfl).2]; rfl⟩) (show ty L cl (sk 25) 25 from ⟨(hS 25 rfl).1, by rw [(hS 25 rfl).2]; rfl⟩) (show XT L cl ln L cl ln from XT.refl) (show fT [16, 10, 40] L cl iv rv iv rv from fT.refl) (fun hph tsk6 tsk7 tsk8 tsk9 tsk10 tsk24 tsk25 hX0 hF0 => ?_)
  refine c_iconst C dX3_decodeWord_0 ?_
  refine c_istore_n (lv2 := [(2, .int (iI 0)), (0, .ref a0), (1, .int (iI i))]) C dX3_decodeWord_1 (by decide) rfl ?_
  refine c_iconst C dX3_decodeWord_2 ?_
  refine c_istore_n (lv2 := [(3, .int (iI 0)), (2, .int (iI 0)), (0, .ref a0), (1, .int (iI i))]) C dX3_decodeWord_3 (by decide) rfl ?_
  refine c_iload_n (j := 3) C dX3_decodeWord_4 rfl ?_
  refine c_istore (lv2 := [(4, .int (iI i)), (3, .int (iI 0)), (2, .int (iI 0)), (0, .ref a0), (1, .int (iI i))]) C dX3_decodeWord_5 (by decide) rfl ?_
  have Lp1 : ∀ (nn : Nat) (sc gr aq : Int) (Lb1 : List Nat) (clb1 lnb1 : Nat → Nat) (ivb1 : Nat → Nat → Int) (rvb1 : Nat → Nat → Option Nat) , 40205 - aq < (nn : Int) → XT L cl ln Lb1 clb1 lnb1 → WT (g0 G) sk Lb1 clb1 lnb1 ivb1 rvb1 → fT [16, 10, 40] L cl iv rv ivb1 rvb1 → (sc = 0 ∨ sc = 1) → (gr = 0 ∨ gr = 1) → (0 ≤ aq ∧ aq ≤ 40204) → cw p l e 4 ((PHM) + 0 - ((Phi (g0 G) sk) ln rv)) s m args below meth c G A 6 (MQ below (Qu G A (Qp G (Phi (g0 G) sk) ((Phi (g0 G) sk) ln rv) 0 (fun v L2 cl2 ln2 iv2 rv2 => ∃ f : Int, v = some (.int (iI f)) ∧ XT L cl ln L2 cl2 ln2 ∧ fT [16, 10, 40] L cl iv rv iv2 rv2 ∧ WT (g0 G) sk L2 cl2 ln2 iv2 rv2 ∧ (-2147483648 ≤ f ∧ f ≤ 2147483647) ∧ (f ≤ 40210)))) args s (((PHM) + 0 - ((Phi (g0 G) sk) ln rv)) / 16) ((PHM) + 0 - ((Phi (g0 G) sk) ln rv)) A) (Phi (g0 G) sk) ((Phi (g0 G) sk) ln rv) Lb1 clb1 lnb1 ivb1 rvb1 0 7 [(2, .int (iI sc)), (3, .int (iI gr)), (4, .int (iI aq)), (0, .ref a0), (1, .int (iI i))] [] := by
    intro nn
    induction nn with
    | zero =>
      intro  sc gr aq Lb1 clb1 lnb1 ivb1 rvb1 hm Xb1 Wb1 Fb1  hsc hgr haq
      have skb1 := Xb1.skl hS
      exact absurd hm (by omega)
    | succ nn ih1 =>
      intro  sc gr aq Lb1 clb1 lnb1 ivb1 rvb1 hm Xb1 Wb1 Fb1  hsc hgr haq
      have skb1 := Xb1.skl hS
      refine c_iload (j := 2) C dX3_decodeWord_7 rfl ?_
      refine c_aload_n (j := 3) (x := a0) C dX3_decodeWord_9 rfl ?_
      have ty1 := Xb1.ty t_a0
      obtain ⟨rb1, rq1, trb1⟩ := Wb1.ref ty1 4 rfl rfl rfl
      have erb1 := Wb1.sk trb1 (by decide) rfl
      subst erb1
      refine c_getr (k := 4) C ck_4 dX3_decodeWord_10 w1_198 (by decide) ty1 rfl rfl (by decide) rfl rq1 ?_
      refine c_st (st2 := [.ref (sk 8), .int (iI aq)]) rfl ?_
      refine hv2 (Xb1.ty tsk8) (show ivb1 (sk 8) 2 = iv (sk 8) 2 from Fb1.i tsk8 rfl 2) (fun ty2 ie1 => ?_)
      have ri1 : 0 ≤ ivb1 (sk 8) 2 ∧ ivb1 (sk 8) 2 ≤ 40200 := Wb1.int ty2 2
      refine c_get (k := 2) C ck_2 dX3_decodeWord_13 w1_49 (by decide) ty2 rfl rfl (by decide) rfl ?_
      refine c_icmp_ge (tgt := 158) C ⟨by omega, by omega⟩ ⟨by omega, by omega⟩ dX3_decodeWord_16 (by decide) (fun c1 => ?_) (fun c1 => ?_)
      · refine c_aload_n (j := 3) (x := a0) C dX3_decodeWord_158 rfl ?_
        refine c_iload (j := 2) C dX3_decodeWord_159 rfl ?_
        refine c_put (z := aq) (k := 7) C ck_4 dX3_decodeWord_161 w1_202 (by decide) rfl ty1 rfl rfl (by decide) rfl (by rfl) (by rfl) (fun iv1 pq1 => ?_)
        refine hv2 (Wb1.puti pq1 ty1 (show (-2147483648) ≤ aq ∧ aq ≤ 2147483647 by omega) rfl) (Fb1.puti Xb1 pq1 ty1 rfl) (fun W1 F1 => ?_)
        refine c_iload_n (j := 1) C dX3_decodeWord_164 rfl ?_
        refine c_if_eq (tgt := 172) C ⟨by omega, by omega⟩ dX3_decodeWord_165 (by decide) (fun c2 => ?_) (fun c2 => ?_)
        · refine c_iload (j := 2) C dX3_decodeWord_172 rfl ?_
          have pl1 := Phi.le W1 skb1
          exact c_iret C dX3_decodeWord_174 rfl (by decide) (rom0 hph pl1 (by decide)) ⟨aq, rfl, Xb1, F1, W1, ⟨by omega, by omega⟩, (by omega)⟩
        · refine c_iconst C dX3_decodeWord_168 ?_
          refine c_goto (tgt := 174) C dX3_decodeWord_169 (by decide) ?_
          have pl2 := Phi.le W1 skb1
          exact c_iret C dX3_decodeWord_174 rfl (by decide) (rom0 hph pl2 (by decide)) ⟨(-1), rfl, Xb1, F1, W1, ⟨by decide, by decide⟩, (by omega)⟩
      · refine c_aload_n (j := 3) (x := a0) C dX3_decodeWord_19 rfl ?_
        refine c_getr (k := 4) C ck_4 dX3_decodeWord_20 w1_198 (by decide) ty1 rfl rfl (by decide) rfl rq1 ?_
        refine c_st (st2 := [.ref (sk 8)]) rfl ?_
        refine c_iload (j := 2) C dX3_decodeWord_23 rfl ?_
        have pl3 := Phi.le Wb1 skb1
        refine d_callV (As := [.int (iI aq)]) (rest := []) C hM (C_at_8 (a0 := (sk 8)) (i := aq) Wb1 skb1 ty2 (by omega) ) dX3_decodeWord_25 kV_X3_119 rfl ty2 rfl rfl (by decide) ck_2 rfl (Nat.le_of_ble_eq_true rfl) ⟨(Nat.le_of_ble_eq_true rfl), (Nat.le_of_ble_eq_true rfl)⟩ hph pl3 (show 0 + 0 = 0 from rfl) (by decide) (fun rh1 Lh1 clh1 lnh1 ivh1 rvh1 h1 => ?_)
        obtain ⟨f1, rfl, rfl, rfl, rfl, rfl, rfl, rgf1, exf1⟩ := h1
        refine c_st (st2 := [.int (iI f1)]) rfl ?_
        have gf1 : ((0 ≤ aq ∧ aq < ivb1 (sk 8) 2) ∨ f1 = 0) ∧ ∀ ss, CT ivb1 rvb1 (sk 8) ss → 0 ≤ aq → aq < ivb1 (sk 8) 2 → f1 = ss aq.toNat := exf1
        refine c_if_eq (tgt := 158) C ⟨by omega, by omega⟩ dX3_decodeWord_28 (by decide) (fun c3 => ?_) (fun c3 => ?_)
        · refine c_aload_n (j := 3) (x := a0) C dX3_decodeWord_158 rfl ?_
          refine c_iload (j := 2) C dX3_decodeWord_159 rfl ?_
          refine c_put (z := aq) (k := 7) C ck_4 dX3_decodeWord_161 w1_202 (by decide) rfl ty1 rfl rfl (by decide) rfl (by rfl) (by rfl) (fun iv2 pq2 => ?_)
          refine hv2 (Wb1.puti pq2 ty1 (show (-2147483648) ≤ aq ∧ aq ≤ 2147483647 by omega) rfl) (Fb1.puti Xb1 pq2 ty1 rfl) (fun W3 F2 => ?_)
          refine c_iload_n (j := 1) C dX3_decodeWord_164 rfl ?_
          refine c_if_eq (tgt := 172) C ⟨by omega, by omega⟩ dX3_decodeWord_165 (by decide) (fun c4 => ?_) (fun c4 => ?_)
          · refine c_iload (j := 2) C dX3_decodeWord_172 rfl ?_
            exact c_iret C dX3_decodeWord_174 rfl (by decide) (rom0 hph pl3 (by decide)) ⟨aq, rfl, Xb1, F2, W3, ⟨by omega, by omega⟩, (by omega)⟩
          · refine c_iconst C dX3_decodeWord_168 ?_
            refine c_goto (tgt := 174) C dX3_decodeWord_169 (by decide) ?_
            exact c_iret C dX3_decodeWord_174 rfl (by decide) (rom0 hph pl3 (by decide)) ⟨(-1), rfl, Xb1, F2, W3, ⟨by decide, by decide⟩, (by omega)⟩
        · refine c_aload_n (j := 3) (x := a0) C dX3_decodeWord_31 rfl ?_
          refine c_iload_n (j := 0) C dX3_decodeWord_32 rfl ?_
          refine c_iload (j := 2) C dX3_decodeWord_33 rfl ?_
          refine d_callV (As := [.int (iI sc), .int (iI aq)]) (rest := []) C hM (C_longestAt (a0 := a0) (g := sc) (i := aq) Wb1 skb1 ty1 (by omega) (by omega) ) dX3_decodeWord_35 kV_X3_126 rfl ty1 rfl rfl (by decide) ck_4 rfl (Nat.le_of_ble_eq_true rfl) ⟨(Nat.le_of_ble_eq_true rfl), (Nat.le_of_ble_eq_true rfl)⟩ hph pl3 (show 0 + 0 = 0 from rfl) (by decide) (fun rh2 Lh2 clh2 lnh2 ivh2 rvh2 h2 => ?_)
          obtain ⟨f2, rfl, rfl, rfl, rfl, rfl, rfl, rgf2, exf2⟩ := h2
          refine c_st (st2 := [(va_rf f2)]) rfl ?_
          refine c_astorer (r := f2) (lv2 := [(5, (va_rf f2)), (2, .int (iI sc)), (3, .int (iI gr)), (4, .int (iI aq)), (0, .ref a0), (1, .int (iI i))]) C dX3_decodeWord_38 (by decide) rfl ?_
          refine c_aloadr (j := 0) (r := f2) C dX3_decodeWord_40 rfl ?_
          refine c_ifnull (r := f2) (tgt := 57) C dX3_decodeWord_42 (by decide) (fun oq1 => ?_) (fun ob1 oq1 => ?_)
          · subst oq1
            refine c_lv (lv2 := [(5, .null), (2, .int (iI sc)), (3, .int (iI gr)), (4, .int (iI aq)), (0, .ref a0), (1, .int (iI i))]) [0, 1, 2, 3, 4, 5] rfl ?_
            refine c_st (st2 := []) rfl ?_
            refine c_aload_n (j := 4) (x := a0) C dX3_decodeWord_57 rfl ?_
            refine c_iload (j := 3) C dX3_decodeWord_58 rfl ?_
            refine c_put (z := aq) (k := 7) C ck_4 dX3_decodeWord_60 w1_202 (by decide) rfl ty1 rfl rfl (by decide) rfl (by rfl) (by rfl) (fun iv3 pq3 => ?_)
            refine hv2 (Wb1.puti pq3 ty1 (show (-2147483648) ≤ aq ∧ aq ≤ 2147483647 by omega) rfl) (Fb1.puti Xb1 pq3 ty1 rfl) (fun W5 F3 => ?_)
            refine c_iconst C dX3_decodeWord_63 ?_
            exact c_iret C dX3_decodeWord_64 rfl (by decide) (rom0 hph pl3 (by decide)) ⟨(-1), rfl, Xb1, F3, W5, ⟨by decide, by decide⟩, (by omega)⟩
          · subst oq1
            have tob1 := rgf2 ob1 rfl
            refine c_lv (lv2 := [(5, .ref ob1), (2, .int (iI sc)), (3, .int (iI gr)), (4, .int (iI aq)), (0, .ref a0), (1, .int (iI i))]) [0, 1, 2, 3, 4, 5] rfl ?_
            refine c_st (st2 := []) rfl ?_
            refine c_iload_n (j := 2) C dX3_decodeWord_45 rfl ?_
            refine c_if_eq (tgt := 65) C ⟨by omega, by omega⟩ dX3_decodeWord_46 (by decide) (fun c5 => ?_) (fun c5 => ?_)
            · refine c_aload (j := 0) (x := ob1) C dX3_decodeWord_65 rfl ?_
              have ri2 : (-2147483648) ≤ ivb1 ob1 0 ∧ ivb1 ob1 0 ≤ 2147483647 := Wb1.int tob1 0
              refine c_get (k := 0) C ck_6 dX3_decodeWord_67 w3_137 (by decide) tob1 rfl rfl (by decide) rfl ?_
              refine c_iconst C dX3_decodeWord_70 ?_
              refine c_icmp_eq (tgt := 83) C ⟨by omega, by omega⟩ ⟨by decide, by decide⟩ dX3_decodeWord_71 (by decide) (fun c6 => ?_) (fun c6 => ?_)
              · refine c_aload (j := 0) (x := ob1) C dX3_decodeWord_83 rfl ?_
                refine c_get (k := 0) C ck_6 dX3_decodeWord_85 w3_137 (by decide) tob1 rfl rfl (by decide) rfl ?_
                refine c_iconst C dX3_decodeWord_88 ?_
                refine c_icmp_ne (tgt := 96) C ⟨by omega, by omega⟩ ⟨by decide, by decide⟩ dX3_decodeWord_89 (by decide) (fun c7 => ?_) (fun c7 => ?_)
                · refine c_iconst C dX3_decodeWord_96 ?_
                  refine c_istore_n (lv2 := [(2, .int (iI 0)), (5, .ref ob1), (3, .int (iI gr)), (4, .int (iI aq)), (0, .ref a0), (1, .int (iI i))]) C dX3_decodeWord_97 (by decide) rfl ?_
                  refine c_aload_n (j := 4) (x := a0) C dX3_decodeWord_98 rfl ?_
                  obtain ⟨rb2, rq2, trb2⟩ := Wb1.ref ty1 6 rfl rfl rfl
                  have erb2 := Wb1.sk trb2 (by decide) rfl
                  subst erb2
                  refine c_getr (k := 6) C ck_4 dX3_decodeWord_99 w1_200 (by decide) ty1 rfl rfl (by decide) rfl rq2 ?_
                  refine c_st (st2 := [.ref (sk 10)]) rfl ?_
                  refine c_iload_n (j := 0) C dX3_decodeWord_102 rfl ?_
                  refine c_if_eq (tgt := 111) C ⟨by decide, by decide⟩ dX3_decodeWord_103 (by decide) (fun _ => ?_) (fun z => absurd z (by omega))
                  refine c_bipush (z := 62) C dX3_decodeWord_111 (by decide) ?_
                  have ty3 := Xb1.ty tsk10
                  have ri3 : 0 ≤ ivb1 (sk 10) 2 ∧ ivb1 (sk 10) 2 ≤ 4001 := Wb1.int ty3 2
                  refine d_callV (As := [.int (iI 62)]) (rest := []) C hM (C_add_10 (a0 := (sk 10)) (x := 62) Wb1 skb1 ty3 ⟨by decide, by decide⟩ ) dX3_decodeWord_113 kV_X3_91 rfl ty3 rfl rfl (by decide) ck_2 rfl (Nat.le_of_ble_eq_true rfl) ⟨(Nat.le_of_ble_eq_true rfl), (Nat.le_of_ble_eq_true rfl)⟩ hph pl3 (show 0 + 0 = 0 from rfl) (by decide) (fun rh3 Lh3 clh3 lnh3 ivh3 rvh3 h3 => ?_)
                  obtain ⟨rfl, xl3, fl3, W6, exf3⟩ := h3
                  refine hv8 (Fb1.call Xb1 fl3 rfl) (Xb1.ty tsk6) (Xb1.ty tsk7) (Xb1.ty tsk9) (Xb1.ty tsk24) (Xb1.ty tsk25) (Xb1.trans xl3) (xl3.skl skb1) (fun F4 ty4 ty5 ty6 ty7 ty8 X1 sk1 => ?_)
                  refine c_st (st2 := []) rfl ?_
                  refine hv2 (xl3.ty ty3) (show ((ivh3 (sk 10) 2 = ivb1 (sk 10) 2 ∧ ivb1 (sk 10) 2 = 4001) ∨ (ivh3 (sk 10) 2 = ivb1 (sk 10) 2 + 1 ∧ ivb1 (sk 10) 2 < 4001)) from exf3) (fun ty9 gf3 => ?_)
                  have ri4 : 0 ≤ ivh3 (sk 10) 2 ∧ ivh3 (sk 10) 2 ≤ 4001 := W6.int ty9 2
                  refine c_aload (j := 1) (x := ob1) C dX3_decodeWord_116 rfl ?_
                  refine c_aload_n (j := 4) (x := a0) C dX3_decodeWord_118 rfl ?_
                  refine hv2 (xl3.ty ty1) (show rvh3 a0 6 = rvb1 a0 6 from (fl3.r ty1 rfl 6)) (fun ty10 re1 => ?_)
                  rw [rq2] at re1
                  refine c_getr (k := 6) C ck_4 dX3_decodeWord_119 w1_200 (by decide) ty10 rfl rfl (by decide) rfl re1 ?_
                  refine c_st (st2 := [.ref (sk 10), .ref ob1]) rfl ?_
                  refine c_iload_n (j := 2) C dX3_decodeWord_122 rfl ?_
                  refine hv2 (xl3.ty tob1) (Phi.le W6 sk1) (fun ty11 pl4 => ?_)
                  refine d_callV (As := [.ref (sk 10), .int (iI gr)]) (rest := []) C hM (C_wl_10 (a0 := ob1) (a1 := (sk 10)) (g := gr) W6 sk1 ty11 ty9 (by omega) ) dX3_decodeWord_123 kV_X3_137 rfl ty11 rfl rfl (by decide) ck_6 rfl (Nat.le_of_ble_eq_true rfl) ⟨(Nat.le_of_ble_eq_true rfl), (Nat.le_of_ble_eq_true rfl)⟩ hph pl4 (show 0 + 0 = 0 from rfl) (by decide) (fun rh4 Lh4 clh4 lnh4 ivh4 rvh4 h4 => ?_)
                  obtain ⟨rfl, xl4, fl4, W7, exf4⟩ := h4
                  refine hv9 (F4.call X1 fl4 rfl) (xl3.ty ty4) (xl3.ty ty5) (xl3.ty ty2) (xl3.ty ty6) (xl3.ty ty7) (xl3.ty ty8) (X1.trans xl4) (xl4.skl sk1) (fun F5 ty12 ty13 ty14 ty15 ty16 ty17 X2 sk2 => ?_)
                  refine c_st (st2 := []) rfl ?_
                  refine c_aload (j := 1) (x := ob1) C dX3_decodeWord_126 rfl ?_
                  refine hv3 (xl4.ty ty11) (show ivh4 ob1 0 = ivh3 ob1 0 from fl4.i ty11 rfl 0) (show ivh3 ob1 0 = ivb1 ob1 0 from fl3.i tob1 rfl 0) (fun ty18 ie5 ie6 => ?_)
                  have ri5 : (-2147483648) ≤ ivh4 ob1 0 ∧ ivh4 ob1 0 ≤ 2147483647 := W7.int ty18 0
                  refine c_get (k := 0) C ck_6 dX3_decodeWord_128 w3_137 (by decide) ty18 rfl rfl (by decide) rfl ?_
                  refine c_if_ne (tgt := 138) C ⟨by omega, by omega⟩ dX3_decodeWord_131 (by decide) (fun c8 => ?_) (fun c8 => ?_)
                  · refine c_iconst C dX3_decodeWord_138 ?_
                    refine c_istore_n (lv2 := [(3, .int (iI 0)), (2, .int (iI 0)), (5, .ref ob1), (4, .int (iI aq)), (0, .ref a0), (1, .int (iI i))]) C dX3_decodeWord_139 (by decide) rfl ?_
                    refine c_iload (j := 3) C dX3_decodeWord_140 rfl ?_
                    refine c_iconst C dX3_decodeWord_142 ?_
                    refine c_aload (j := 2) (x := ob1) C dX3_decodeWord_143 rfl ?_
                    obtain ⟨rb3, rq3, trb3⟩ := W7.ref ty18 2 rfl rfl rfl
                    have lnrb3 : 1 ≤ lnh4 rb3 ∧ lnh4 rb3 ≤ 4 := W7.len trb3 rfl
                    refine c_getr (k := 2) C ck_6 dX3_decodeWord_145 w3_143 (by decide) ty18 rfl rfl (by decide) rfl rq3 ?_
                    refine c_st (st2 := [.ref rb3, .int (iI 1), .int (iI aq)]) rfl ?_
                    have ll1 : 1 ≤ lnh4 rb3 ∧ lnh4 rb3 ≤ 4 := W7.len trb3 rfl
                    refine c_alenI C dX3_decodeWord_148 trb3 rfl ?_
                    obtain ⟨mn1, hmn1, emn1⟩ := mmax_c (x := 1) (y := ((lnh4 rb3 : Nat) : Int)) ⟨by decide, by decide⟩ ⟨by omega, by omega⟩
                    have pl5 := Phi.le W7 sk2
                    refine c_mmax (w := iI mn1) C dX3_decodeWord_149 w5_105 w2_148 w1_14 w2_149 (by decide) (rom0 hph pl5 (by decide)) (Nat.le_of_ble_eq_true rfl) emn1 ?_
                    refine c_iadd C dX3_decodeWord_152 ?_
                    refine c_istore (lv2 := [(4, .int (iI (aq + mn1))), (3, .int (iI 0)), (2, .int (iI 0)), (5, .ref ob1), (0, .ref a0), (1, .int (iI i))]) C dX3_decodeWord_153 (by decide) rfl ?_
                    refine c_goto (tgt := 7) C dX3_decodeWord_155 (by decide) ?_
                    refine c_lv (lv2 := [(2, .int (iI 0)), (3, .int (iI 0)), (4, .int (iI (aq + mn1))), (0, .ref a0), (1, .int (iI i))]) [2, 1, 0, 4, 5] rfl ?_
                    exact ih1  0 0 (aq + mn1) _ _ _ _ _ (by omega) X2 W7 F5  (by omega) (by omega) (by omega)
                  · refine c_iconst C dX3_decodeWord_134 ?_
                    refine c_goto (tgt := 139) C dX3_decodeWord_135 (by decide) ?_
                    refine c_istore_n (lv2 := [(3, .int (iI 1)), (2, .int (iI 0)), (5, .ref ob1), (4, .int (iI aq)), (0, .ref a0), (1, .int (iI i))]) C dX3_decodeWord_139 (by decide) rfl ?_
                    refine c_iload (j := 3) C dX3_decodeWord_140 rfl ?_
                    refine c_iconst C dX3_decodeWord_142 ?_
                    refine c_aload (j := 2) (x := ob1) C dX3_decodeWord_143 rfl ?_
                    obtain ⟨rb4, rq4, trb4⟩ := W7.ref ty18 2 rfl rfl rfl
                    have lnrb4 : 1 ≤ lnh4 rb4 ∧ lnh4 rb4 ≤ 4 := W7.len trb4 rfl
                    refine c_getr (k := 2) C ck_6 dX3_decodeWord_145 w3_143 (by decide) ty18 rfl rfl (by decide) rfl rq4 ?_
                    refine c_st (st2 := [.ref rb4, .int (iI 1), .int (iI aq)]) rfl ?_
                    have ll2 : 1 ≤ lnh4 rb4 ∧ lnh4 rb4 ≤ 4 := W7.len trb4 rfl
                    refine c_alenI C dX3_decodeWord_148 trb4 rfl ?_
                    obtain ⟨mn2, hmn2, emn2⟩ := mmax_c (x := 1) (y := ((lnh4 rb4 : Nat) : Int)) ⟨by decide, by decide⟩ ⟨by omega, by omega⟩
                    have pl6 := Phi.le W7 sk2
                    refine c_mmax (w := iI mn2) C dX3_decodeWord_149 w5_105 w2_148 w1_14 w2_149 (by decide) (rom0 hph pl6 (by decide)) (Nat.le_of_ble_eq_true rfl) emn2 ?_
                    refine c_iadd C dX3_decodeWord_152 ?_
                    refine c_istore (lv2 := [(4, .int (iI (aq + mn2))), (3, .int (iI 1)), (2, .int (iI 0)), (5, .ref ob1), (0, .ref a0), (1, .int (iI i))]) C dX3_decodeWord_153 (by decide) rfl ?_
                    refine c_goto (tgt := 7) C dX3_decodeWord_155 (by decide) ?_
                    refine c_lv (lv2 := [(2, .int (iI 0)), (3, .int (iI 1)), (4, .int (iI (aq + mn2))), (0, .ref a0), (1, .int (iI i))]) [2, 1, 0, 4, 5] rfl ?_
                    exact ih1  0 1 (aq + mn2) _ _ _ _ _ (by omega) X2 W7 F5  (by omega) (by omega) (by omega)
                · refine c_iconst C dX3_decodeWord_92 ?_
                  refine c_goto (tgt := 97) C dX3_decodeWord_93 (by decide) ?_
                  refine c_istore_n (lv2 := [(2, .int (iI 1)), (5, .ref ob1), (3, .int (iI gr)), (4, .int (iI aq)), (0, .ref a0), (1, .int (iI i))]) C dX3_decodeWord_97 (by decide) rfl ?_
                  refine c_aload_n (j := 4) (x := a0) C dX3_decodeWord_98 rfl ?_
                  obtain ⟨rb5, rq5, trb5⟩ := Wb1.ref ty1 6 rfl rfl rfl
                  have erb5 := Wb1.sk trb5 (by decide) rfl
                  subst erb5
                  refine c_getr (k := 6) C ck_4 dX3_decodeWord_99 w1_200 (by decide) ty1 rfl rfl (by decide) rfl rq5 ?_
                  refine c_st (st2 := [.ref (sk 10)]) rfl ?_
                  refine c_iload_n (j := 0) C dX3_decodeWord_102 rfl ?_
                  refine c_if_eq (tgt := 111) C ⟨by decide, by decide⟩ dX3_decodeWord_103 (by decide) (fun z => absurd z (by omega)) (fun _ => ?_)
                  refine c_bipush (z := 60) C dX3_decodeWord_106 (by decide) ?_
                  refine c_goto (tgt := 113) C dX3_decodeWord_108 (by decide) ?_
                  have ty19 := Xb1.ty tsk10
                  have ri6 : 0 ≤ ivb1 (sk 10) 2 ∧ ivb1 (sk 10) 2 ≤ 4001 := Wb1.int ty19 2
                  refine d_callV (As := [.int (iI 60)]) (rest := []) C hM (C_add_10 (a0 := (sk 10)) (x := 60) Wb1 skb1 ty19 ⟨by decide, by decide⟩ ) dX3_decodeWord_113 kV_X3_91 rfl ty19 rfl rfl (by decide) ck_2 rfl (Nat.le_of_ble_eq_true rfl) ⟨(Nat.le_of_ble_eq_true rfl), (Nat.le_of_ble_eq_true rfl)⟩ hph pl3 (show 0 + 0 = 0 from rfl) (by decide) (fun rh5 Lh5 clh5 lnh5 ivh5 rvh5 h5 => ?_)
                  obtain ⟨rfl, xl5, fl5, W8, exf5⟩ := h5
                  refine hv8 (Fb1.call Xb1 fl5 rfl) (Xb1.ty tsk6) (Xb1.ty tsk7) (Xb1.ty tsk9) (Xb1.ty tsk24) (Xb1.ty tsk25) (Xb1.trans xl5) (xl5.skl skb1) (fun F6 ty20 ty21 ty22 ty23 ty24 X3 sk3 => ?_)
                  refine c_st (st2 := []) rfl ?_
                  refine hv2 (xl5.ty ty19) (show ((ivh5 (sk 10) 2 = ivb1 (sk 10) 2 ∧ ivb1 (sk 10) 2 = 4001) ∨ (ivh5 (sk 10) 2 = ivb1 (sk 10) 2 + 1 ∧ ivb1 (sk 10) 2 < 4001)) from exf5) (fun ty25 gf5 => ?_)
                  have ri7 : 0 ≤ ivh5 (sk 10) 2 ∧ ivh5 (sk 10) 2 ≤ 4001 := W8.int ty25 2
                  refine c_aload (j := 1) (x := ob1) C dX3_decodeWord_116 rfl ?_
                  refine c_aload_n (j := 4) (x := a0) C dX3_decodeWord_118 rfl ?_
                  refine hv2 (xl5.ty ty1) (show rvh5 a0 6 = rvb1 a0 6 from (fl5.r ty1 rfl 6)) (fun ty26 re2 => ?_)
                  rw [rq5] at re2
                  refine c_getr (k := 6) C ck_4 dX3_decodeWord_119 w1_200 (by decide) ty26 rfl rfl (by decide) rfl re2 ?_
                  refine c_st (st2 := [.ref (sk 10), .ref ob1]) rfl ?_
                  refine c_iload_n (j := 2) C dX3_decodeWord_122 rfl ?_
                  refine hv2 (xl5.ty tob1) (Phi.le W8 sk3) (fun ty27 pl7 => ?_)
                  refine d_callV (As := [.ref (sk 10), .int (iI gr)]) (rest := []) C hM (C_wl_10 (a0 := ob1) (a1 := (sk 10)) (g := gr) W8 sk3 ty27 ty25 (by omega) ) dX3_decodeWord_123 kV_X3_137 rfl ty27 rfl rfl (by decide) ck_6 rfl (Nat.le_of_ble_eq_true rfl) ⟨(Nat.le_of_ble_eq_true rfl), (Nat.le_of_ble_eq_true rfl)⟩ hph pl7 (show 0 + 0 = 0 from rfl) (by decide) (fun rh6 Lh6 clh6 lnh6 ivh6 rvh6 h6 => ?_)
                  obtain ⟨rfl, xl6, fl6, W9, exf6⟩ := h6
                  refine hv9 (F6.call X3 fl6 rfl) (xl5.ty ty20) (xl5.ty ty21) (xl5.ty ty2) (xl5.ty ty22) (xl5.ty ty23) (xl5.ty ty24) (X3.trans xl6) (xl6.skl sk3) (fun F7 ty28 ty29 ty30 ty31 ty32 ty33 X4 sk4 => ?_)
                  refine c_st (st2 := []) rfl ?_
                  refine c_aload (j := 1) (x := ob1) C dX3_decodeWord_126 rfl ?_
                  refine hv3 (xl6.ty ty27) (show ivh6 ob1 0 = ivh5 ob1 0 from fl6.i ty27 rfl 0) (show ivh5 ob1 0 = ivb1 ob1 0 from fl5.i tob1 rfl 0) (fun ty34 ie9 ie10 => ?_)
                  have ri8 : (-2147483648) ≤ ivh6 ob1 0 ∧ ivh6 ob1 0 ≤ 2147483647 := W9.int ty34 0
                  refine c_get (k := 0) C ck_6 dX3_decodeWord_128 w3_137 (by decide) ty34 rfl rfl (by decide) rfl ?_
                  refine c_if_ne (tgt := 138) C ⟨by omega, by omega⟩ dX3_decodeWord_131 (by decide) (fun c9 => ?_) (fun c9 => ?_)
                  · refine c_iconst C dX3_decodeWord_138 ?_
                    refine c_istore_n (lv2 := [(3, .int (iI 0)), (2, .int (iI 1)), (5, .ref ob1), (4, .int (iI aq)), (0, .ref a0), (1, .int (iI i))]) C dX3_decodeWord_139 (by decide) rfl ?_
                    refine c_iload (j := 3) C dX3_decodeWord_140 rfl ?_
                    refine c_iconst C dX3_decodeWord_142 ?_
                    refine c_aload (j := 2) (x := ob1) C dX3_decodeWord_143 rfl ?_
                    obtain ⟨rb6, rq6, trb6⟩ := W9.ref ty34 2 rfl rfl rfl
                    have lnrb6 : 1 ≤ lnh6 rb6 ∧ lnh6 rb6 ≤ 4 := W9.len trb6 rfl
                    refine c_getr (k := 2) C ck_6 dX3_decodeWord_145 w3_143 (by decide) ty34 rfl rfl (by decide) rfl rq6 ?_
                    refine c_st (st2 := [.ref rb6, .int (iI 1), .int (iI aq)]) rfl ?_
                    have ll3 : 1 ≤ lnh6 rb6 ∧ lnh6 rb6 ≤ 4 := W9.len trb6 rfl
                    refine c_alenI C dX3_decodeWord_148 trb6 rfl ?_
                    obtain ⟨mn3, hmn3, emn3⟩ := mmax_c (x := 1) (y := ((lnh6 rb6 : Nat) : Int)) ⟨by decide, by decide⟩ ⟨by omega, by omega⟩
                    have pl8 := Phi.le W9 sk4
                    refine c_mmax (w := iI mn3) C dX3_decodeWord_149 w5_105 w2_148 w1_14 w2_149 (by decide) (rom0 hph pl8 (by decide)) (Nat.le_of_ble_eq_true rfl) emn3 ?_
                    refine c_iadd C dX3_decodeWord_152 ?_
                    refine c_istore (lv2 := [(4, .int (iI (aq + mn3))), (3, .int (iI 0)), (2, .int (iI 1)), (5, .ref ob1), (0, .ref a0), (1, .int (iI i))]) C dX3_decodeWord_153 (by decide) rfl ?_
                    refine c_goto (tgt := 7) C dX3_decodeWord_155 (by decide) ?_
                    refine c_lv (lv2 := [(2, .int (iI 1)), (3, .int (iI 0)), (4, .int (iI (aq + mn3))), (0, .ref a0), (1, .int (iI i))]) [2, 1, 0, 4, 5] rfl ?_
                    exact ih1  1 0 (aq + mn3) _ _ _ _ _ (by omega) X4 W9 F7  (by omega) (by omega) (by omega)
                  · refine c_iconst C dX3_decodeWord_134 ?_
                    refine c_goto (tgt := 139) C dX3_decodeWord_135 (by decide) ?_
                    refine c_istore_n (lv2 := [(3, .int (iI 1)), (2, .int (iI 1)), (5, .ref ob1), (4, .int (iI aq)), (0, .ref a0), (1, .int (iI i))]) C dX3_decodeWord_139 (by decide) rfl ?_
                    refine c_iload (j := 3) C dX3_decodeWord_140 rfl ?_
                    refine c_iconst C dX3_decodeWord_142 ?_
                    refine c_aload (j := 2) (x := ob1) C dX3_decodeWord_143 rfl ?_
                    obtain ⟨rb7, rq7, trb7⟩ := W9.ref ty34 2 rfl rfl rfl
                    have lnrb7 : 1 ≤ lnh6 rb7 ∧ lnh6 rb7 ≤ 4 := W9.len trb7 rfl
                    refine c_getr (k := 2) C ck_6 dX3_decodeWord_145 w3_143 (by decide) ty34 rfl rfl (by decide) rfl rq7 ?_
                    refine c_st (st2 := [.ref rb7, .int (iI 1), .int (iI aq)]) rfl ?_
                    have ll4 : 1 ≤ lnh6 rb7 ∧ lnh6 rb7 ≤ 4 := W9.len trb7 rfl
                    refine c_alenI C dX3_decodeWord_148 trb7 rfl ?_
                    obtain ⟨mn4, hmn4, emn4⟩ := mmax_c (x := 1) (y := ((lnh6 rb7 : Nat) : Int)) ⟨by decide, by decide⟩ ⟨by omega, by omega⟩
                    have pl9 := Phi.le W9 sk4
                    refine c_mmax (w := iI mn4) C dX3_decodeWord_149 w5_105 w2_148 w1_14 w2_149 (by decide) (rom0 hph pl9 (by decide)) (Nat.le_of_ble_eq_true rfl) emn4 ?_
                    refine c_iadd C dX3_decodeWord_152 ?_
                    refine c_istore (lv2 := [(4, .int (iI (aq + mn4))), (3, .int (iI 1)), (2, .int (iI 1)), (5, .ref ob1), (0, .ref a0), (1, .int (iI i))]) C dX3_decodeWord_153 (by decide) rfl ?_
                    refine c_goto (tgt := 7) C dX3_decodeWord_155 (by decide) ?_
                    refine c_lv (lv2 := [(2, .int (iI 1)), (3, .int (iI 1)), (4, .int (iI (aq + mn4))), (0, .ref a0), (1, .int (iI i))]) [2, 1, 0, 4, 5] rfl ?_
                    exact ih1  1 1 (aq + mn4) _ _ _ _ _ (by omega) X4 W9 F7  (by omega) (by omega) (by omega)
              · refine c_aload (j := 0) (x := ob1) C dX3_decodeWord_74 rfl ?_
                refine c_get (k := 0) C ck_6 dX3_decodeWord_76 w3_137 (by decide) tob1 rfl rfl (by decide) rfl ?_
                refine c_iconst C dX3_decodeWord_79 ?_
                refine c_icmp_ne (tgt := 116) C ⟨by omega, by omega⟩ ⟨by decide, by decide⟩ dX3_decodeWord_80 (by decide) (fun c10 => ?_) (fun c10 => ?_)
                · refine c_aload (j := 0) (x := ob1) C dX3_decodeWord_116 rfl ?_
                  refine c_aload_n (j := 4) (x := a0) C dX3_decodeWord_118 rfl ?_
                  obtain ⟨rb8, rq8, trb8⟩ := Wb1.ref ty1 6 rfl rfl rfl
                  have erb8 := Wb1.sk trb8 (by decide) rfl
                  subst erb8
                  refine c_getr (k := 6) C ck_4 dX3_decodeWord_119 w1_200 (by decide) ty1 rfl rfl (by decide) rfl rq8 ?_
                  refine c_st (st2 := [.ref (sk 10), .ref ob1]) rfl ?_
                  refine c_iload_n (j := 2) C dX3_decodeWord_122 rfl ?_
                  have ty35 := Xb1.ty tsk10
                  refine d_callV (As := [.ref (sk 10), .int (iI gr)]) (rest := []) C hM (C_wl_10 (a0 := ob1) (a1 := (sk 10)) (g := gr) Wb1 skb1 tob1 ty35 (by omega) ) dX3_decodeWord_123 kV_X3_137 rfl tob1 rfl rfl (by decide) ck_6 rfl (Nat.le_of_ble_eq_true rfl) ⟨(Nat.le_of_ble_eq_true rfl), (Nat.le_of_ble_eq_true rfl)⟩ hph pl3 (show 0 + 0 = 0 from rfl) (by decide) (fun rh7 Lh7 clh7 lnh7 ivh7 rvh7 h7 => ?_)
                  obtain ⟨rfl, xl7, fl7, W10, exf7⟩ := h7
                  refine hv8 (Fb1.call Xb1 fl7 rfl) (Xb1.ty tsk6) (Xb1.ty tsk7) (Xb1.ty tsk9) (Xb1.ty tsk24) (Xb1.ty tsk25) (Xb1.trans xl7) (xl7.skl skb1) (fun F8 ty36 ty37 ty38 ty39 ty40 X5 sk5 => ?_)
                  refine c_st (st2 := []) rfl ?_
                  refine c_aload (j := 0) (x := ob1) C dX3_decodeWord_126 rfl ?_
                  refine hv2 (xl7.ty tob1) (show ivh7 ob1 0 = ivb1 ob1 0 from fl7.i tob1 rfl 0) (fun ty41 ie11 => ?_)
                  have ri9 : (-2147483648) ≤ ivh7 ob1 0 ∧ ivh7 ob1 0 ≤ 2147483647 := W10.int ty41 0
                  refine c_get (k := 0) C ck_6 dX3_decodeWord_128 w3_137 (by decide) ty41 rfl rfl (by decide) rfl ?_
                  refine c_if_ne (tgt := 138) C ⟨by omega, by omega⟩ dX3_decodeWord_131 (by decide) (fun c11 => ?_) (fun c11 => ?_)
                  · refine c_iconst C dX3_decodeWord_138 ?_
                    refine c_istore_n (lv2 := [(3, .int (iI 0)), (5, .ref ob1), (2, .int (iI sc)), (4, .int (iI aq)), (0, .ref a0), (1, .int (iI i))]) C dX3_decodeWord_139 (by decide) rfl ?_
                    refine c_iload (j := 3) C dX3_decodeWord_140 rfl ?_
                    refine c_iconst C dX3_decodeWord_142 ?_
                    refine c_aload (j := 1) (x := ob1) C dX3_decodeWord_143 rfl ?_
                    obtain ⟨rb9, rq9, trb9⟩ := W10.ref ty41 2 rfl rfl rfl
                    have lnrb9 : 1 ≤ lnh7 rb9 ∧ lnh7 rb9 ≤ 4 := W10.len trb9 rfl
                    refine c_getr (k := 2) C ck_6 dX3_decodeWord_145 w3_143 (by decide) ty41 rfl rfl (by decide) rfl rq9 ?_
                    refine c_st (st2 := [.ref rb9, .int (iI 1), .int (iI aq)]) rfl ?_
                    have ll5 : 1 ≤ lnh7 rb9 ∧ lnh7 rb9 ≤ 4 := W10.len trb9 rfl
                    refine c_alenI C dX3_decodeWord_148 trb9 rfl ?_
                    obtain ⟨mn5, hmn5, emn5⟩ := mmax_c (x := 1) (y := ((lnh7 rb9 : Nat) : Int)) ⟨by decide, by decide⟩ ⟨by omega, by omega⟩
                    have pl10 := Phi.le W10 sk5
                    refine c_mmax (w := iI mn5) C dX3_decodeWord_149 w5_105 w2_148 w1_14 w2_149 (by decide) (rom0 hph pl10 (by decide)) (Nat.le_of_ble_eq_true rfl) emn5 ?_
                    refine c_iadd C dX3_decodeWord_152 ?_
                    refine c_istore (lv2 := [(4, .int (iI (aq + mn5))), (3, .int (iI 0)), (5, .ref ob1), (2, .int (iI sc)), (0, .ref a0), (1, .int (iI i))]) C dX3_decodeWord_153 (by decide) rfl ?_
                    refine c_goto (tgt := 7) C dX3_decodeWord_155 (by decide) ?_
                    refine c_lv (lv2 := [(2, .int (iI sc)), (3, .int (iI 0)), (4, .int (iI (aq + mn5))), (0, .ref a0), (1, .int (iI i))]) [3, 1, 0, 4, 5] rfl ?_
                    exact ih1  sc 0 (aq + mn5) _ _ _ _ _ (by omega) X5 W10 F8  (by omega) (by omega) (by omega)
                  · refine c_iconst C dX3_decodeWord_134 ?_
                    refine c_goto (tgt := 139) C dX3_decodeWord_135 (by decide) ?_
                    refine c_istore_n (lv2 := [(3, .int (iI 1)), (5, .ref ob1), (2, .int (iI sc)), (4, .int (iI aq)), (0, .ref a0), (1, .int (iI i))]) C dX3_decodeWord_139 (by decide) rfl ?_
                    refine c_iload (j := 3) C dX3_decodeWord_140 rfl ?_
                    refine c_iconst C dX3_decodeWord_142 ?_
                    refine c_aload (j := 1) (x := ob1) C dX3_decodeWord_143 rfl ?_
                    obtain ⟨rb10, rq10, trb10⟩ := W10.ref ty41 2 rfl rfl rfl
                    have lnrb10 : 1 ≤ lnh7 rb10 ∧ lnh7 rb10 ≤ 4 := W10.len trb10 rfl
                    refine c_getr (k := 2) C ck_6 dX3_decodeWord_145 w3_143 (by decide) ty41 rfl rfl (by decide) rfl rq10 ?_
                    refine c_st (st2 := [.ref rb10, .int (iI 1), .int (iI aq)]) rfl ?_
                    have ll6 : 1 ≤ lnh7 rb10 ∧ lnh7 rb10 ≤ 4 := W10.len trb10 rfl
                    refine c_alenI C dX3_decodeWord_148 trb10 rfl ?_
                    obtain ⟨mn6, hmn6, emn6⟩ := mmax_c (x := 1) (y := ((lnh7 rb10 : Nat) : Int)) ⟨by decide, by decide⟩ ⟨by omega, by omega⟩
                    have pl11 := Phi.le W10 sk5
                    refine c_mmax (w := iI mn6) C dX3_decodeWord_149 w5_105 w2_148 w1_14 w2_149 (by decide) (rom0 hph pl11 (by decide)) (Nat.le_of_ble_eq_true rfl) emn6 ?_
                    refine c_iadd C dX3_decodeWord_152 ?_
                    refine c_istore (lv2 := [(4, .int (iI (aq + mn6))), (3, .int (iI 1)), (5, .ref ob1), (2, .int (iI sc)), (0, .ref a0), (1, .int (iI i))]) C dX3_decodeWord_153 (by decide) rfl ?_
                    refine c_goto (tgt := 7) C dX3_decodeWord_155 (by decide) ?_
                    refine c_lv (lv2 := [(2, .int (iI sc)), (3, .int (iI 1)), (4, .int (iI (aq + mn6))), (0, .ref a0), (1, .int (iI i))]) [3, 1, 0, 4, 5] rfl ?_
                    exact ih1  sc 1 (aq + mn6) _ _ _ _ _ (by omega) X5 W10 F8  (by omega) (by omega) (by omega)
                · refine c_aload (j := 0) (x := ob1) C dX3_decodeWord_83 rfl ?_
                  refine c_get (k := 0) C ck_6 dX3_decodeWord_85 w3_137 (by decide) tob1 rfl rfl (by decide) rfl ?_
                  refine c_iconst C dX3_decodeWord_88 ?_
                  refine c_icmp_ne (tgt := 96) C ⟨by omega, by omega⟩ ⟨by decide, by decide⟩ dX3_decodeWord_89 (by decide) (fun c12 => ?_) (fun c12 => ?_)
                  · refine c_iconst C dX3_decodeWord_96 ?_
                    refine c_istore_n (lv2 := [(2, .int (iI 0)), (5, .ref ob1), (3, .int (iI gr)), (4, .int (iI aq)), (0, .ref a0), (1, .int (iI i))]) C dX3_decodeWord_97 (by decide) rfl ?_
                    refine c_aload_n (j := 4) (x := a0) C dX3_decodeWord_98 rfl ?_
                    obtain ⟨rb11, rq11, trb11⟩ := Wb1.ref ty1 6 rfl rfl rfl
                    have erb11 := Wb1.sk trb11 (by decide) rfl
                    subst erb11
                    refine c_getr (k := 6) C ck_4 dX3_decodeWord_99 w1_200 (by decide) ty1 rfl rfl (by decide) rfl rq11 ?_
                    refine c_st (st2 := [.ref (sk 10)]) rfl ?_
                    refine c_iload_n (j := 0) C dX3_decodeWord_102 rfl ?_
                    refine c_if_eq (tgt := 111) C ⟨by decide, by decide⟩ dX3_decodeWord_103 (by decide) (fun _ => ?_) (fun z => absurd z (by omega))
                    refine c_bipush (z := 62) C dX3_decodeWord_111 (by decide) ?_
                    have ty42 := Xb1.ty tsk10
                    have ri10 : 0 ≤ ivb1 (sk 10) 2 ∧ ivb1 (sk 10) 2 ≤ 4001 := Wb1.int ty42 2
                    refine d_callV (As := [.int (iI 62)]) (rest := []) C hM (C_add_10 (a0 := (sk 10)) (x := 62) Wb1 skb1 ty42 ⟨by decide, by decide⟩ ) dX3_decodeWord_113 kV_X3_91 rfl ty42 rfl rfl (by decide) ck_2 rfl (Nat.le_of_ble_eq_true rfl) ⟨(Nat.le_of_ble_eq_true rfl), (Nat.le_of_ble_eq_true rfl)⟩ hph pl3 (show 0 + 0 = 0 from rfl) (by decide) (fun rh8 Lh8 clh8 lnh8 ivh8 rvh8 h8 => ?_)
                    obtain ⟨rfl, xl8, fl8, W11, exf8⟩ := h8
                    refine hv8 (Fb1.call Xb1 fl8 rfl) (Xb1.ty tsk6) (Xb1.ty tsk7) (Xb1.ty tsk9) (Xb1.ty tsk24) (Xb1.ty tsk25) (Xb1.trans xl8) (xl8.skl skb1) (fun F9 ty43 ty44 ty45 ty46 ty47 X6 sk6 => ?_)
                    refine c_st (st2 := []) rfl ?_
                    refine hv2 (xl8.ty ty42) (show ((ivh8 (sk 10) 2 = ivb1 (sk 10) 2 ∧ ivb1 (sk 10) 2 = 4001) ∨ (ivh8 (sk 10) 2 = ivb1 (sk 10) 2 + 1 ∧ ivb1 (sk 10) 2 < 4001)) from exf8) (fun ty48 gf8 => ?_)
                    have ri11 : 0 ≤ ivh8 (sk 10) 2 ∧ ivh8 (sk 10) 2 ≤ 4001 := W11.int ty48 2
                    refine c_aload (j := 1) (x := ob1) C dX3_decodeWord_116 rfl ?_
                    refine c_aload_n (j := 4) (x := a0) C dX3_decodeWord_118 rfl ?_
                    refine hv2 (xl8.ty ty1) (show rvh8 a0 6 = rvb1 a0 6 from (fl8.r ty1 rfl 6)) (fun ty49 re3 => ?_)
                    rw [rq11] at re3
                    refine c_getr (k := 6) C ck_4 dX3_decodeWord_119 w1_200 (by decide) ty49 rfl rfl (by decide) rfl re3 ?_
                    refine c_st (st2 := [.ref (sk 10), .ref ob1]) rfl ?_
                    refine c_iload_n (j := 2) C dX3_decodeWord_122 rfl ?_
                    refine hv2 (xl8.ty tob1) (Phi.le W11 sk6) (fun ty50 pl12 => ?_)
                    refine d_callV (As := [.ref (sk 10), .int (iI gr)]) (rest := []) C hM (C_wl_10 (a0 := ob1) (a1 := (sk 10)) (g := gr) W11 sk6 ty50 ty48 (by omega) ) dX3_decodeWord_123 kV_X3_137 rfl ty50 rfl rfl (by decide) ck_6 rfl (Nat.le_of_ble_eq_true rfl) ⟨(Nat.le_of_ble_eq_true rfl), (Nat.le_of_ble_eq_true rfl)⟩ hph pl12 (show 0 + 0 = 0 from rfl) (by decide) (fun rh9 Lh9 clh9 lnh9 ivh9 rvh9 h9 => ?_)
                    obtain ⟨rfl, xl9, fl9, W12, exf9⟩ := h9
                    refine hv9 (F9.call X6 fl9 rfl) (xl8.ty ty43) (xl8.ty ty44) (xl8.ty ty2) (xl8.ty ty45) (xl8.ty ty46) (xl8.ty ty47) (X6.trans xl9) (xl9.skl sk6) (fun F10 ty51 ty52 ty53 ty54 ty55 ty56 X7 sk7 => ?_)
                    refine c_st (st2 := []) rfl ?_
                    refine c_aload (j := 1) (x := ob1) C dX3_decodeWord_126 rfl ?_
                    refine hv3 (xl9.ty ty50) (show ivh9 ob1 0 = ivh8 ob1 0 from fl9.i ty50 rfl 0) (show ivh8 ob1 0 = ivb1 ob1 0 from fl8.i tob1 rfl 0) (fun ty57 ie14 ie15 => ?_)
                    have ri12 : (-2147483648) ≤ ivh9 ob1 0 ∧ ivh9 ob1 0 ≤ 2147483647 := W12.int ty57 0
                    refine c_get (k := 0) C ck_6 dX3_decodeWord_128 w3_137 (by decide) ty57 rfl rfl (by decide) rfl ?_
                    refine c_if_ne (tgt := 138) C ⟨by omega, by omega⟩ dX3_decodeWord_131 (by decide) (fun c13 => ?_) (fun c13 => ?_)
                    · refine c_iconst C dX3_decodeWord_138 ?_
                      refine c_istore_n (lv2 := [(3, .int (iI 0)), (2, .int (iI 0)), (5, .ref ob1), (4, .int (iI aq)), (0, .ref a0), (1, .int (iI i))]) C dX3_decodeWord_139 (by decide) rfl ?_
                      refine c_iload (j := 3) C dX3_decodeWord_140 rfl ?_
                      refine c_iconst C dX3_decodeWord_142 ?_
                      refine c_aload (j := 2) (x := ob1) C dX3_decodeWord_143 rfl ?_
                      obtain ⟨rb12, rq12, trb12⟩ := W12.ref ty57 2 rfl rfl rfl
                      have lnrb12 : 1 ≤ lnh9 rb12 ∧ lnh9 rb12 ≤ 4 := W12.len trb12 rfl
                      refine c_getr (k := 2) C ck_6 dX3_decodeWord_145 w3_143 (by decide) ty57 rfl rfl (by decide) rfl rq12 ?_
                      refine c_st (st2 := [.ref rb12, .int (iI 1), .int (iI aq)]) rfl ?_
                      have ll7 : 1 ≤ lnh9 rb12 ∧ lnh9 rb12 ≤ 4 := W12.len trb12 rfl
                      refine c_alenI C dX3_decodeWord_148 trb12 rfl ?_
                      obtain ⟨mn7, hmn7, emn7⟩ := mmax_c (x := 1) (y := ((lnh9 rb12 : Nat) : Int)) ⟨by decide, by decide⟩ ⟨by omega, by omega⟩
                      have pl13 := Phi.le W12 sk7
                      refine c_mmax (w := iI mn7) C dX3_decodeWord_149 w5_105 w2_148 w1_14 w2_149 (by decide) (rom0 hph pl13 (by decide)) (Nat.le_of_ble_eq_true rfl) emn7 ?_
                      refine c_iadd C dX3_decodeWord_152 ?_
                      refine c_istore (lv2 := [(4, .int (iI (aq + mn7))), (3, .int (iI 0)), (2, .int (iI 0)), (5, .ref ob1), (0, .ref a0), (1, .int (iI i))]) C dX3_decodeWord_153 (by decide) rfl ?_
                      refine c_goto (tgt := 7) C dX3_decodeWord_155 (by decide) ?_
                      refine c_lv (lv2 := [(2, .int (iI 0)), (3, .int (iI 0)), (4, .int (iI (aq + mn7))), (0, .ref a0), (1, .int (iI i))]) [2, 1, 0, 4, 5] rfl ?_
                      exact ih1  0 0 (aq + mn7) _ _ _ _ _ (by omega) X7 W12 F10  (by omega) (by omega) (by omega)
                    · refine c_iconst C dX3_decodeWord_134 ?_
                      refine c_goto (tgt := 139) C dX3_decodeWord_135 (by decide) ?_
                      refine c_istore_n (lv2 := [(3, .int (iI 1)), (2, .int (iI 0)), (5, .ref ob1), (4, .int (iI aq)), (0, .ref a0), (1, .int (iI i))]) C dX3_decodeWord_139 (by decide) rfl ?_
                      refine c_iload (j := 3) C dX3_decodeWord_140 rfl ?_
                      refine c_iconst C dX3_decodeWord_142 ?_
                      refine c_aload (j := 2) (x := ob1) C dX3_decodeWord_143 rfl ?_
                      obtain ⟨rb13, rq13, trb13⟩ := W12.ref ty57 2 rfl rfl rfl
                      have lnrb13 : 1 ≤ lnh9 rb13 ∧ lnh9 rb13 ≤ 4 := W12.len trb13 rfl
                      refine c_getr (k := 2) C ck_6 dX3_decodeWord_145 w3_143 (by decide) ty57 rfl rfl (by decide) rfl rq13 ?_
                      refine c_st (st2 := [.ref rb13, .int (iI 1), .int (iI aq)]) rfl ?_
                      have ll8 : 1 ≤ lnh9 rb13 ∧ lnh9 rb13 ≤ 4 := W12.len trb13 rfl
                      refine c_alenI C dX3_decodeWord_148 trb13 rfl ?_
                      obtain ⟨mn8, hmn8, emn8⟩ := mmax_c (x := 1) (y := ((lnh9 rb13 : Nat) : Int)) ⟨by decide, by decide⟩ ⟨by omega, by omega⟩
                      have pl14 := Phi.le W12 sk7
                      refine c_mmax (w := iI mn8) C dX3_decodeWord_149 w5_105 w2_148 w1_14 w2_149 (by decide) (rom0 hph pl14 (by decide)) (Nat.le_of_ble_eq_true rfl) emn8 ?_
                      refine c_iadd C dX3_decodeWord_152 ?_
                      refine c_istore (lv2 := [(4, .int (iI (aq + mn8))), (3, .int (iI 1)), (2, .int (iI 0)), (5, .ref ob1), (0, .ref a0), (1, .int (iI i))]) C dX3_decodeWord_153 (by decide) rfl ?_
                      refine c_goto (tgt := 7) C dX3_decodeWord_155 (by decide) ?_
                      refine c_lv (lv2 := [(2, .int (iI 0)), (3, .int (iI 1)), (4, .int (iI (aq + mn8))), (0, .ref a0), (1, .int (iI i))]) [2, 1, 0, 4, 5] rfl ?_
                      exact ih1  0 1 (aq + mn8) _ _ _ _ _ (by omega) X7 W12 F10  (by omega) (by omega) (by omega)
                  · refine c_iconst C dX3_decodeWord_92 ?_
                    refine c_goto (tgt := 97) C dX3_decodeWord_93 (by decide) ?_
                    refine c_istore_n (lv2 := [(2, .int (iI 1)), (5, .ref ob1), (3, .int (iI gr)), (4, .int (iI aq)), (0, .ref a0), (1, .int (iI i))]) C dX3_decodeWord_97 (by decide) rfl ?_
                    refine c_aload_n (j := 4) (x := a0) C dX3_decodeWord_98 rfl ?_
                    obtain ⟨rb14, rq14, trb14⟩ := Wb1.ref ty1 6 rfl rfl rfl
                    have erb14 := Wb1.sk trb14 (by decide) rfl
                    subst erb14
                    refine c_getr (k := 6) C ck_4 dX3_decodeWord_99 w1_200 (by decide) ty1 rfl rfl (by decide) rfl rq14 ?_
                    refine c_st (st2 := [.ref (sk 10)]) rfl ?_
                    refine c_iload_n (j := 0) C dX3_decodeWord_102 rfl ?_
                    refine c_if_eq (tgt := 111) C ⟨by decide, by decide⟩ dX3_decodeWord_103 (by decide) (fun z => absurd z (by omega)) (fun _ => ?_)
                    refine c_bipush (z := 60) C dX3_decodeWord_106 (by decide) ?_
                    refine c_goto (tgt := 113) C dX3_decodeWord_108 (by decide) ?_
                    have ty58 := Xb1.ty tsk10
                    have ri13 : 0 ≤ ivb1 (sk 10) 2 ∧ ivb1 (sk 10) 2 ≤ 4001 := Wb1.int ty58 2
                    refine d_callV (As := [.int (iI 60)]) (rest := []) C hM (C_add_10 (a0 := (sk 10)) (x := 60) Wb1 skb1 ty58 ⟨by decide, by decide⟩ ) dX3_decodeWord_113 kV_X3_91 rfl ty58 rfl rfl (by decide) ck_2 rfl (Nat.le_of_ble_eq_true rfl) ⟨(Nat.le_of_ble_eq_true rfl), (Nat.le_of_ble_eq_true rfl)⟩ hph pl3 (show 0 + 0 = 0 from rfl) (by decide) (fun rh10 Lh10 clh10 lnh10 ivh10 rvh10 h10 => ?_)
                    obtain ⟨rfl, xl10, fl10, W13, exf10⟩ := h10
                    refine hv8 (Fb1.call Xb1 fl10 rfl) (Xb1.ty tsk6) (Xb1.ty tsk7) (Xb1.ty tsk9) (Xb1.ty tsk24) (Xb1.ty tsk25) (Xb1.trans xl10) (xl10.skl skb1) (fun F11 ty59 ty60 ty61 ty62 ty63 X8 sk8 => ?_)
                    refine c_st (st2 := []) rfl ?_
                    refine hv2 (xl10.ty ty58) (show ((ivh10 (sk 10) 2 = ivb1 (sk 10) 2 ∧ ivb1 (sk 10) 2 = 4001) ∨ (ivh10 (sk 10) 2 = ivb1 (sk 10) 2 + 1 ∧ ivb1 (sk 10) 2 < 4001)) from exf10) (fun ty64 gf10 => ?_)
                    have ri14 : 0 ≤ ivh10 (sk 10) 2 ∧ ivh10 (sk 10) 2 ≤ 4001 := W13.int ty64 2
                    refine c_aload (j := 1) (x := ob1) C dX3_decodeWord_116 rfl ?_
                    refine c_aload_n (j := 4) (x := a0) C dX3_decodeWord_118 rfl ?_
                    refine hv2 (xl10.ty ty1) (show rvh10 a0 6 = rvb1 a0 6 from (fl10.r ty1 rfl 6)) (fun ty65 re4 => ?_)
                    rw [rq14] at re4
                    refine c_getr (k := 6) C ck_4 dX3_decodeWord_119 w1_200 (by decide) ty65 rfl rfl (by decide) rfl re4 ?_
                    refine c_st (st2 := [.ref (sk 10), .ref ob1]) rfl ?_
                    refine c_iload_n (j := 2) C dX3_decodeWord_122 rfl ?_
                    refine hv2 (xl10.ty tob1) (Phi.le W13 sk8) (fun ty66 pl15 => ?_)
                    refine d_callV (As := [.ref (sk 10), .int (iI gr)]) (rest := []) C hM (C_wl_10 (a0 := ob1) (a1 := (sk 10)) (g := gr) W13 sk8 ty66 ty64 (by omega) ) dX3_decodeWord_123 kV_X3_137 rfl ty66 rfl rfl (by decide) ck_6 rfl (Nat.le_of_ble_eq_true rfl) ⟨(Nat.le_of_ble_eq_true rfl), (Nat.le_of_ble_eq_true rfl)⟩ hph pl15 (show 0 + 0 = 0 from rfl) (by decide) (fun rh11 Lh11 clh11 lnh11 ivh11 rvh11 h11 => ?_)
                    obtain ⟨rfl, xl11, fl11, W14, exf11⟩ := h11
                    refine hv9 (F11.call X8 fl11 rfl) (xl10.ty ty59) (xl10.ty ty60) (xl10.ty ty2) (xl10.ty ty61) (xl10.ty ty62) (xl10.ty ty63) (X8.trans xl11) (xl11.skl sk8) (fun F12 ty67 ty68 ty69 ty70 ty71 ty72 X9 sk9 => ?_)
                    refine c_st (st2 := []) rfl ?_
                    refine c_aload (j := 1) (x := ob1) C dX3_decodeWord_126 rfl ?_
                    refine hv3 (xl11.ty ty66) (show ivh11 ob1 0 = ivh10 ob1 0 from fl11.i ty66 rfl 0) (show ivh10 ob1 0 = ivb1 ob1 0 from fl10.i tob1 rfl 0) (fun ty73 ie18 ie19 => ?_)
                    have ri15 : (-2147483648) ≤ ivh11 ob1 0 ∧ ivh11 ob1 0 ≤ 2147483647 := W14.int ty73 0
                    refine c_get (k := 0) C ck_6 dX3_decodeWord_128 w3_137 (by decide) ty73 rfl rfl (by decide) rfl ?_
                    refine c_if_ne (tgt := 138) C ⟨by omega, by omega⟩ dX3_decodeWord_131 (by decide) (fun c14 => ?_) (fun c14 => ?_)
                    · refine c_iconst C dX3_decodeWord_138 ?_
                      refine c_istore_n (lv2 := [(3, .int (iI 0)), (2, .int (iI 1)), (5, .ref ob1), (4, .int (iI aq)), (0, .ref a0), (1, .int (iI i))]) C dX3_decodeWord_139 (by decide) rfl ?_
                      refine c_iload (j := 3) C dX3_decodeWord_140 rfl ?_
                      refine c_iconst C dX3_decodeWord_142 ?_
                      refine c_aload (j := 2) (x := ob1) C dX3_decodeWord_143 rfl ?_
                      obtain ⟨rb15, rq15, trb15⟩ := W14.ref ty73 2 rfl rfl rfl
                      have lnrb15 : 1 ≤ lnh11 rb15 ∧ lnh11 rb15 ≤ 4 := W14.len trb15 rfl
                      refine c_getr (k := 2) C ck_6 dX3_decodeWord_145 w3_143 (by decide) ty73 rfl rfl (by decide) rfl rq15 ?_
                      refine c_st (st2 := [.ref rb15, .int (iI 1), .int (iI aq)]) rfl ?_
                      have ll9 : 1 ≤ lnh11 rb15 ∧ lnh11 rb15 ≤ 4 := W14.len trb15 rfl
                      refine c_alenI C dX3_decodeWord_148 trb15 rfl ?_
                      obtain ⟨mn9, hmn9, emn9⟩ := mmax_c (x := 1) (y := ((lnh11 rb15 : Nat) : Int)) ⟨by decide, by decide⟩ ⟨by omega, by omega⟩
                      have pl16 := Phi.le W14 sk9
                      refine c_mmax (w := iI mn9) C dX3_decodeWord_149 w5_105 w2_148 w1_14 w2_149 (by decide) (rom0 hph pl16 (by decide)) (Nat.le_of_ble_eq_true rfl) emn9 ?_
                      refine c_iadd C dX3_decodeWord_152 ?_
                      refine c_istore (lv2 := [(4, .int (iI (aq + mn9))), (3, .int (iI 0)), (2, .int (iI 1)), (5, .ref ob1), (0, .ref a0), (1, .int (iI i))]) C dX3_decodeWord_153 (by decide) rfl ?_
                      refine c_goto (tgt := 7) C dX3_decodeWord_155 (by decide) ?_
                      refine c_lv (lv2 := [(2, .int (iI 1)), (3, .int (iI 0)), (4, .int (iI (aq + mn9))), (0, .ref a0), (1, .int (iI i))]) [2, 1, 0, 4, 5] rfl ?_
                      exact ih1  1 0 (aq + mn9) _ _ _ _ _ (by omega) X9 W14 F12  (by omega) (by omega) (by omega)
                    · refine c_iconst C dX3_decodeWord_134 ?_
                      refine c_goto (tgt := 139) C dX3_decodeWord_135 (by decide) ?_
                      refine c_istore_n (lv2 := [(3, .int (iI 1)), (2, .int (iI 1)), (5, .ref ob1), (4, .int (iI aq)), (0, .ref a0), (1, .int (iI i))]) C dX3_decodeWord_139 (by decide) rfl ?_
                      refine c_iload (j := 3) C dX3_decodeWord_140 rfl ?_
                      refine c_iconst C dX3_decodeWord_142 ?_
                      refine c_aload (j := 2) (x := ob1) C dX3_decodeWord_143 rfl ?_
                      obtain ⟨rb16, rq16, trb16⟩ := W14.ref ty73 2 rfl rfl rfl
                      have lnrb16 : 1 ≤ lnh11 rb16 ∧ lnh11 rb16 ≤ 4 := W14.len trb16 rfl
                      refine c_getr (k := 2) C ck_6 dX3_decodeWord_145 w3_143 (by decide) ty73 rfl rfl (by decide) rfl rq16 ?_
                      refine c_st (st2 := [.ref rb16, .int (iI 1), .int (iI aq)]) rfl ?_
                      have ll10 : 1 ≤ lnh11 rb16 ∧ lnh11 rb16 ≤ 4 := W14.len trb16 rfl
                      refine c_alenI C dX3_decodeWord_148 trb16 rfl ?_
                      obtain ⟨mn10, hmn10, emn10⟩ := mmax_c (x := 1) (y := ((lnh11 rb16 : Nat) : Int)) ⟨by decide, by decide⟩ ⟨by omega, by omega⟩
                      have pl17 := Phi.le W14 sk9
                      refine c_mmax (w := iI mn10) C dX3_decodeWord_149 w5_105 w2_148 w1_14 w2_149 (by decide) (rom0 hph pl17 (by decide)) (Nat.le_of_ble_eq_true rfl) emn10 ?_
                      refine c_iadd C dX3_decodeWord_152 ?_
                      refine c_istore (lv2 := [(4, .int (iI (aq + mn10))), (3, .int (iI 1)), (2, .int (iI 1)), (5, .ref ob1), (0, .ref a0), (1, .int (iI i))]) C dX3_decodeWord_153 (by decide) rfl ?_
                      refine c_goto (tgt := 7) C dX3_decodeWord_155 (by decide) ?_
                      refine c_lv (lv2 := [(2, .int (iI 1)), (3, .int (iI 1)), (4, .int (iI (aq + mn10))), (0, .ref a0), (1, .int (iI i))]) [2, 1, 0, 4, 5] rfl ?_
                      exact ih1  1 1 (aq + mn10) _ _ _ _ _ (by omega) X9 W14 F12  (by omega) (by omega) (by omega)
            · refine c_aload (j := 0) (x := ob1) C dX3_decodeWord_49 rfl ?_
              refine d_callV (As := []) (rest := []) C hM (C_beginsSmall (a0 := ob1) Wb1 skb1 tob1  ) dX3_decodeWord_51 kV_X3_130 rfl tob1 rfl rfl (by decide) ck_6 rfl (Nat.le_of_ble_eq_true rfl) ⟨(Nat.le_of_ble_eq_true rfl), (Nat.le_of_ble_eq_true rfl)⟩ hph pl3 (show 0 + 0 = 0 from rfl) (by decide) (fun rh12 Lh12 clh12 lnh12 ivh12 rvh12 h12 => ?_)
              obtain ⟨f12, rfl, rfl, rfl, rfl, rfl, rfl, rgf12, exf12⟩ := h12
              refine c_st (st2 := [.int (iI f12)]) rfl ?_
              refine c_if_ne (tgt := 65) C ⟨by omega, by omega⟩ dX3_decodeWord_54 (by decide) (fun c15 => ?_) (fun c15 => ?_)
              · refine c_aload (j := 0) (x := ob1) C dX3_decodeWord_65 rfl ?_
                have ri16 : (-2147483648) ≤ ivb1 ob1 0 ∧ ivb1 ob1 0 ≤ 2147483647 := Wb1.int tob1 0
                refine c_get (k := 0) C ck_6 dX3_decodeWord_67 w3_137 (by decide) tob1 rfl rfl (by decide) rfl ?_
                refine c_iconst C dX3_decodeWord_70 ?_
                refine c_icmp_eq (tgt := 83) C ⟨by omega, by omega⟩ ⟨by decide, by decide⟩ dX3_decodeWord_71 (by decide) (fun c16 => ?_) (fun c16 => ?_)
                · refine c_aload (j := 0) (x := ob1) C dX3_decodeWord_83 rfl ?_
                  refine c_get (k := 0) C ck_6 dX3_decodeWord_85 w3_137 (by decide) tob1 rfl rfl (by decide) rfl ?_
                  refine c_iconst C dX3_decodeWord_88 ?_
                  refine c_icmp_ne (tgt := 96) C ⟨by omega, by omega⟩ ⟨by decide, by decide⟩ dX3_decodeWord_89 (by decide) (fun c17 => ?_) (fun c17 => ?_)
                  · refine c_iconst C dX3_decodeWord_96 ?_
                    refine c_istore_n (lv2 := [(2, .int (iI 0)), (5, .ref ob1), (3, .int (iI gr)), (4, .int (iI aq)), (0, .ref a0), (1, .int (iI i))]) C dX3_decodeWord_97 (by decide) rfl ?_
                    refine c_aload_n (j := 4) (x := a0) C dX3_decodeWord_98 rfl ?_
                    obtain ⟨rb17, rq17, trb17⟩ := Wb1.ref ty1 6 rfl rfl rfl
                    have erb17 := Wb1.sk trb17 (by decide) rfl
                    subst erb17
                    refine c_getr (k := 6) C ck_4 dX3_decodeWord_99 w1_200 (by decide) ty1 rfl rfl (by decide) rfl rq17 ?_
                    refine c_st (st2 := [.ref (sk 10)]) rfl ?_
                    refine c_iload_n (j := 0) C dX3_decodeWord_102 rfl ?_
                    refine c_if_eq (tgt := 111) C ⟨by decide, by decide⟩ dX3_decodeWord_103 (by decide) (fun _ => ?_) (fun z => absurd z (by omega))
                    refine c_bipush (z := 62) C dX3_decodeWord_111 (by decide) ?_
                    have ty74 := Xb1.ty tsk10
                    have ri17 : 0 ≤ ivb1 (sk 10) 2 ∧ ivb1 (sk 10) 2 ≤ 4001 := Wb1.int ty74 2
                    refine d_callV (As := [.int (iI 62)]) (rest := []) C hM (C_add_10 (a0 := (sk 10)) (x := 62) Wb1 skb1 ty74 ⟨by decide, by decide⟩ ) dX3_decodeWord_113 kV_X3_91 rfl ty74 rfl rfl (by decide) ck_2 rfl (Nat.le_of_ble_eq_true rfl) ⟨(Nat.le_of_ble_eq_true rfl), (Nat.le_of_ble_eq_true rfl)⟩ hph pl3 (show 0 + 0 = 0 from rfl) (by decide) (fun rh13 Lh13 clh13 lnh13 ivh13 rvh13 h13 => ?_)
                    obtain ⟨rfl, xl13, fl13, W16, exf13⟩ := h13
                    refine hv8 (Fb1.call Xb1 fl13 rfl) (Xb1.ty tsk6) (Xb1.ty tsk7) (Xb1.ty tsk9) (Xb1.ty tsk24) (Xb1.ty tsk25) (Xb1.trans xl13) (xl13.skl skb1) (fun F13 ty75 ty76 ty77 ty78 ty79 X10 sk10 => ?_)
                    refine c_st (st2 := []) rfl ?_
                    refine hv2 (xl13.ty ty74) (show ((ivh13 (sk 10) 2 = ivb1 (sk 10) 2 ∧ ivb1 (sk 10) 2 = 4001) ∨ (ivh13 (sk 10) 2 = ivb1 (sk 10) 2 + 1 ∧ ivb1 (sk 10) 2 < 4001)) from exf13) (fun ty80 gf13 => ?_)
                    have ri18 : 0 ≤ ivh13 (sk 10) 2 ∧ ivh13 (sk 10) 2 ≤ 4001 := W16.int ty80 2
                    refine c_aload (j := 1) (x := ob1) C dX3_decodeWord_116 rfl ?_
                    refine c_aload_n (j := 4) (x := a0) C dX3_decodeWord_118 rfl ?_
                    refine hv2 (xl13.ty ty1) (show rvh13 a0 6 = rvb1 a0 6 from (fl13.r ty1 rfl 6)) (fun ty81 re5 => ?_)
                    rw [rq17] at re5
                    refine c_getr (k := 6) C ck_4 dX3_decodeWord_119 w1_200 (by decide) ty81 rfl rfl (by decide) rfl re5 ?_
                    refine c_st (st2 := [.ref (sk 10), .ref ob1]) rfl ?_
                    refine c_iload_n (j := 2) C dX3_decodeWord_122 rfl ?_
                    refine hv2 (xl13.ty tob1) (Phi.le W16 sk10) (fun ty82 pl18 => ?_)
                    refine d_callV (As := [.ref (sk 10), .int (iI gr)]) (rest := []) C hM (C_wl_10 (a0 := ob1) (a1 := (sk 10)) (g := gr) W16 sk10 ty82 ty80 (by omega) ) dX3_decodeWord_123 kV_X3_137 rfl ty82 rfl rfl (by decide) ck_6 rfl (Nat.le_of_ble_eq_true rfl) ⟨(Nat.le_of_ble_eq_true rfl), (Nat.le_of_ble_eq_true rfl)⟩ hph pl18 (show 0 + 0 = 0 from rfl) (by decide) (fun rh14 Lh14 clh14 lnh14 ivh14 rvh14 h14 => ?_)
                    obtain ⟨rfl, xl14, fl14, W17, exf14⟩ := h14
                    refine hv9 (F13.call X10 fl14 rfl) (xl13.ty ty75) (xl13.ty ty76) (xl13.ty ty2) (xl13.ty ty77) (xl13.ty ty78) (xl13.ty ty79) (X10.trans xl14) (xl14.skl sk10) (fun F14 ty83 ty84 ty85 ty86 ty87 ty88 X11 sk11 => ?_)
                    refine c_st (st2 := []) rfl ?_
                    refine c_aload (j := 1) (x := ob1) C dX3_decodeWord_126 rfl ?_
                    refine hv3 (xl14.ty ty82) (show ivh14 ob1 0 = ivh13 ob1 0 from fl14.i ty82 rfl 0) (show ivh13 ob1 0 = ivb1 ob1 0 from fl13.i tob1 rfl 0) (fun ty89 ie23 ie24 => ?_)
                    have ri19 : (-2147483648) ≤ ivh14 ob1 0 ∧ ivh14 ob1 0 ≤ 2147483647 := W17.int ty89 0
                    refine c_get (k := 0) C ck_6 dX3_decodeWord_128 w3_137 (by decide) ty89 rfl rfl (by decide) rfl ?_
                    refine c_if_ne (tgt := 138) C ⟨by omega, by omega⟩ dX3_decodeWord_131 (by decide) (fun c18 => ?_) (fun c18 => ?_)
                    · refine c_iconst C dX3_decodeWord_138 ?_
                      refine c_istore_n (lv2 := [(3, .int (iI 0)), (2, .int (iI 0)), (5, .ref ob1), (4, .int (iI aq)), (0, .ref a0), (1, .int (iI i))]) C dX3_decodeWord_139 (by decide) rfl ?_
                      refine c_iload (j := 3) C dX3_decodeWord_140 rfl ?_
                      refine c_iconst C dX3_decodeWord_142 ?_
                      refine c_aload (j := 2) (x := ob1) C dX3_decodeWord_143 rfl ?_
                      obtain ⟨rb18, rq18, trb18⟩ := W17.ref ty89 2 rfl rfl rfl
                      have lnrb18 : 1 ≤ lnh14 rb18 ∧ lnh14 rb18 ≤ 4 := W17.len trb18 rfl
                      refine c_getr (k := 2) C ck_6 dX3_decodeWord_145 w3_143 (by decide) ty89 rfl rfl (by decide) rfl rq18 ?_
                      refine c_st (st2 := [.ref rb18, .int (iI 1), .int (iI aq)]) rfl ?_
                      have ll11 : 1 ≤ lnh14 rb18 ∧ lnh14 rb18 ≤ 4 := W17.len trb18 rfl
                      refine c_alenI C dX3_decodeWord_148 trb18 rfl ?_
                      obtain ⟨mn11, hmn11, emn11⟩ := mmax_c (x := 1) (y := ((lnh14 rb18 : Nat) : Int)) ⟨by decide, by decide⟩ ⟨by omega, by omega⟩
                      have pl19 := Phi.le W17 sk11
                      refine c_mmax (w := iI mn11) C dX3_decodeWord_149 w5_105 w2_148 w1_14 w2_149 (by decide) (rom0 hph pl19 (by decide)) (Nat.le_of_ble_eq_true rfl) emn11 ?_
                      refine c_iadd C dX3_decodeWord_152 ?_
                      refine c_istore (lv2 := [(4, .int (iI (aq + mn11))), (3, .int (iI 0)), (2, .int (iI 0)), (5, .ref ob1), (0, .ref a0), (1, .int (iI i))]) C dX3_decodeWord_153 (by decide) rfl ?_
                      refine c_goto (tgt := 7) C dX3_decodeWord_155 (by decide) ?_
                      refine c_lv (lv2 := [(2, .int (iI 0)), (3, .int (iI 0)), (4, .int (iI (aq + mn11))), (0, .ref a0), (1, .int (iI i))]) [2, 1, 0, 4, 5] rfl ?_
                      exact ih1  0 0 (aq + mn11) _ _ _ _ _ (by omega) X11 W17 F14  (by omega) (by omega) (by omega)
                    · refine c_iconst C dX3_decodeWord_134 ?_
                      refine c_goto (tgt := 139) C dX3_decodeWord_135 (by decide) ?_
                      refine c_istore_n (lv2 := [(3, .int (iI 1)), (2, .int (iI 0)), (5, .ref ob1), (4, .int (iI aq)), (0, .ref a0), (1, .int (iI i))]) C dX3_decodeWord_139 (by decide) rfl ?_
                      refine c_iload (j := 3) C dX3_decodeWord_140 rfl ?_
                      refine c_iconst C dX3_decodeWord_142 ?_
                      refine c_aload (j := 2) (x := ob1) C dX3_decodeWord_143 rfl ?_
                      obtain ⟨rb19, rq19, trb19⟩ := W17.ref ty89 2 rfl rfl rfl
                      have lnrb19 : 1 ≤ lnh14 rb19 ∧ lnh14 rb19 ≤ 4 := W17.len trb19 rfl
                      refine c_getr (k := 2) C ck_6 dX3_decodeWord_145 w3_143 (by decide) ty89 rfl rfl (by decide) rfl rq19 ?_
                      refine c_st (st2 := [.ref rb19, .int (iI 1), .int (iI aq)]) rfl ?_
                      have ll12 : 1 ≤ lnh14 rb19 ∧ lnh14 rb19 ≤ 4 := W17.len trb19 rfl
                      refine c_alenI C dX3_decodeWord_148 trb19 rfl ?_
                      obtain ⟨mn12, hmn12, emn12⟩ := mmax_c (x := 1) (y := ((lnh14 rb19 : Nat) : Int)) ⟨by decide, by decide⟩ ⟨by omega, by omega⟩
                      have pl20 := Phi.le W17 sk11
                      refine c_mmax (w := iI mn12) C dX3_decodeWord_149 w5_105 w2_148 w1_14 w2_149 (by decide) (rom0 hph pl20 (by decide)) (Nat.le_of_ble_eq_true rfl) emn12 ?_
                      refine c_iadd C dX3_decodeWord_152 ?_
                      refine c_istore (lv2 := [(4, .int (iI (aq + mn12))), (3, .int (iI 1)), (2, .int (iI 0)), (5, .ref ob1), (0, .ref a0), (1, .int (iI i))]) C dX3_decodeWord_153 (by decide) rfl ?_
                      refine c_goto (tgt := 7) C dX3_decodeWord_155 (by decide) ?_
                      refine c_lv (lv2 := [(2, .int (iI 0)), (3, .int (iI 1)), (4, .int (iI (aq + mn12))), (0, .ref a0), (1, .int (iI i))]) [2, 1, 0, 4, 5] rfl ?_
                      exact ih1  0 1 (aq + mn12) _ _ _ _ _ (by omega) X11 W17 F14  (by omega) (by omega) (by omega)
                  · refine c_iconst C dX3_decodeWord_92 ?_
                    refine c_goto (tgt := 97) C dX3_decodeWord_93 (by decide) ?_
                    refine c_istore_n (lv2 := [(2, .int (iI 1)), (5, .ref ob1), (3, .int (iI gr)), (4, .int (iI aq)), (0, .ref a0), (1, .int (iI i))]) C dX3_decodeWord_97 (by decide) rfl ?_
                    refine c_aload_n (j := 4) (x := a0) C dX3_decodeWord_98 rfl ?_
                    obtain ⟨rb20, rq20, trb20⟩ := Wb1.ref ty1 6 rfl rfl rfl
                    have erb20 := Wb1.sk trb20 (by decide) rfl
                    subst erb20
                    refine c_getr (k := 6) C ck_4 dX3_decodeWord_99 w1_200 (by decide) ty1 rfl rfl (by decide) rfl rq20 ?_
                    refine c_st (st2 := [.ref (sk 10)]) rfl ?_
                    refine c_iload_n (j := 0) C dX3_decodeWord_102 rfl ?_
                    refine c_if_eq (tgt := 111) C ⟨by decide, by decide⟩ dX3_decodeWord_103 (by decide) (fun z => absurd z (by omega)) (fun _ => ?_)
                    refine c_bipush (z := 60) C dX3_decodeWord_106 (by decide) ?_
                    refine c_goto (tgt := 113) C dX3_decodeWord_108 (by decide) ?_
                    have ty90 := Xb1.ty tsk10
                    have ri20 : 0 ≤ ivb1 (sk 10) 2 ∧ ivb1 (sk 10) 2 ≤ 4001 := Wb1.int ty90 2
                    refine d_callV (As := [.int (iI 60)]) (rest := []) C hM (C_add_10 (a0 := (sk 10)) (x := 60) Wb1 skb1 ty90 ⟨by decide, by decide⟩ ) dX3_decodeWord_113 kV_X3_91 rfl ty90 rfl rfl (by decide) ck_2 rfl (Nat.le_of_ble_eq_true rfl) ⟨(Nat.le_of_ble_eq_true rfl), (Nat.le_of_ble_eq_true rfl)⟩ hph pl3 (show 0 + 0 = 0 from rfl) (by decide) (fun rh15 Lh15 clh15 lnh15 ivh15 rvh15 h15 => ?_)
                    obtain ⟨rfl, xl15, fl15, W18, exf15⟩ := h15
                    refine hv8 (Fb1.call Xb1 fl15 rfl) (Xb1.ty tsk6) (Xb1.ty tsk7) (Xb1.ty tsk9) (Xb1.ty tsk24) (Xb1.ty tsk25) (Xb1.trans xl15) (xl15.skl skb1) (fun F15 ty91 ty92 ty93 ty94 ty95 X12 sk12 => ?_)
                    refine c_st (st2 := []) rfl ?_
                    refine hv2 (xl15.ty ty90) (show ((ivh15 (sk 10) 2 = ivb1 (sk 10) 2 ∧ ivb1 (sk 10) 2 = 4001) ∨ (ivh15 (sk 10) 2 = ivb1 (sk 10) 2 + 1 ∧ ivb1 (sk 10) 2 < 4001)) from exf15) (fun ty96 gf15 => ?_)
                    have ri21 : 0 ≤ ivh15 (sk 10) 2 ∧ ivh15 (sk 10) 2 ≤ 4001 := W18.int ty96 2
                    refine c_aload (j := 1) (x := ob1) C dX3_decodeWord_116 rfl ?_
                    refine c_aload_n (j := 4) (x := a0) C dX3_decodeWord_118 rfl ?_
                    refine hv2 (xl15.ty ty1) (show rvh15 a0 6 = rvb1 a0 6 from (fl15.r ty1 rfl 6)) (fun ty97 re6 => ?_)
                    rw [rq20] at re6
                    refine c_getr (k := 6) C ck_4 dX3_decodeWord_119 w1_200 (by decide) ty97 rfl rfl (by decide) rfl re6 ?_
                    refine c_st (st2 := [.ref (sk 10), .ref ob1]) rfl ?_
                    refine c_iload_n (j := 2) C dX3_decodeWord_122 rfl ?_
                    refine hv2 (xl15.ty tob1) (Phi.le W18 sk12) (fun ty98 pl21 => ?_)
                    refine d_callV (As := [.ref (sk 10), .int (iI gr)]) (rest := []) C hM (C_wl_10 (a0 := ob1) (a1 := (sk 10)) (g := gr) W18 sk12 ty98 ty96 (by omega) ) dX3_decodeWord_123 kV_X3_137 rfl ty98 rfl rfl (by decide) ck_6 rfl (Nat.le_of_ble_eq_true rfl) ⟨(Nat.le_of_ble_eq_true rfl), (Nat.le_of_ble_eq_true rfl)⟩ hph pl21 (show 0 + 0 = 0 from rfl) (by decide) (fun rh16 Lh16 clh16 lnh16 ivh16 rvh16 h16 => ?_)
                    obtain ⟨rfl, xl16, fl16, W19, exf16⟩ := h16
                    refine hv9 (F15.call X12 fl16 rfl) (xl15.ty ty91) (xl15.ty ty92) (xl15.ty ty2) (xl15.ty ty93) (xl15.ty ty94) (xl15.ty ty95) (X12.trans xl16) (xl16.skl sk12) (fun F16 ty99 ty100 ty101 ty102 ty103 ty104 X13 sk13 => ?_)
                    refine c_st (st2 := []) rfl ?_
                    refine c_aload (j := 1) (x := ob1) C dX3_decodeWord_126 rfl ?_
                    refine hv3 (xl16.ty ty98) (show ivh16 ob1 0 = ivh15 ob1 0 from fl16.i ty98 rfl 0) (show ivh15 ob1 0 = ivb1 ob1 0 from fl15.i tob1 rfl 0) (fun ty105 ie27 ie28 => ?_)
                    have ri22 : (-2147483648) ≤ ivh16 ob1 0 ∧ ivh16 ob1 0 ≤ 2147483647 := W19.int ty105 0
                    refine c_get (k := 0) C ck_6 dX3_decodeWord_128 w3_137 (by decide) ty105 rfl rfl (by decide) rfl ?_
                    refine c_if_ne (tgt := 138) C ⟨by omega, by omega⟩ dX3_decodeWord_131 (by decide) (fun c19 => ?_) (fun c19 => ?_)
                    · refine c_iconst C dX3_decodeWord_138 ?_
                      refine c_istore_n (lv2 := [(3, .int (iI 0)), (2, .int (iI 1)), (5, .ref ob1), (4, .int (iI aq)), (0, .ref a0), (1, .int (iI i))]) C dX3_decodeWord_139 (by decide) rfl ?_
                      refine c_iload (j := 3) C dX3_decodeWord_140 rfl ?_
                      refine c_iconst C dX3_decodeWord_142 ?_
                      refine c_aload (j := 2) (x := ob1) C dX3_decodeWord_143 rfl ?_
                      obtain ⟨rb21, rq21, trb21⟩ := W19.ref ty105 2 rfl rfl rfl
                      have lnrb21 : 1 ≤ lnh16 rb21 ∧ lnh16 rb21 ≤ 4 := W19.len trb21 rfl
                      refine c_getr (k := 2) C ck_6 dX3_decodeWord_145 w3_143 (by decide) ty105 rfl rfl (by decide) rfl rq21 ?_
                      refine c_st (st2 := [.ref rb21, .int (iI 1), .int (iI aq)]) rfl ?_
                      have ll13 : 1 ≤ lnh16 rb21 ∧ lnh16 rb21 ≤ 4 := W19.len trb21 rfl
                      refine c_alenI C dX3_decodeWord_148 trb21 rfl ?_
                      obtain ⟨mn13, hmn13, emn13⟩ := mmax_c (x := 1) (y := ((lnh16 rb21 : Nat) : Int)) ⟨by decide, by decide⟩ ⟨by omega, by omega⟩
                      have pl22 := Phi.le W19 sk13
                      refine c_mmax (w := iI mn13) C dX3_decodeWord_149 w5_105 w2_148 w1_14 w2_149 (by decide) (rom0 hph pl22 (by decide)) (Nat.le_of_ble_eq_true rfl) emn13 ?_
                      refine c_iadd C dX3_decodeWord_152 ?_
                      refine c_istore (lv2 := [(4, .int (iI (aq + mn13))), (3, .int (iI 0)), (2, .int (iI 1)), (5, .ref ob1), (0, .ref a0), (1, .int (iI i))]) C dX3_decodeWord_153 (by decide) rfl ?_
                      refine c_goto (tgt := 7) C dX3_decodeWord_155 (by decide) ?_
                      refine c_lv (lv2 := [(2, .int (iI 1)), (3, .int (iI 0)), (4, .int (iI (aq + mn13))), (0, .ref a0), (1, .int (iI i))]) [2, 1, 0, 4, 5] rfl ?_
                      exact ih1  1 0 (aq + mn13) _ _ _ _ _ (by omega) X13 W19 F16  (by omega) (by omega) (by omega)
                    · refine c_iconst C dX3_decodeWord_134 ?_
                      refine c_goto (tgt := 139) C dX3_decodeWord_135 (by decide) ?_
                      refine c_istore_n (lv2 := [(3, .int (iI 1)), (2, .int (iI 1)), (5, .ref ob1), (4, .int (iI aq)), (0, .ref a0), (1, .int (iI i))]) C dX3_decodeWord_139 (by decide) rfl ?_
                      refine c_iload (j := 3) C dX3_decodeWord_140 rfl ?_
                      refine c_iconst C dX3_decodeWord_142 ?_
                      refine c_aload (j := 2) (x := ob1) C dX3_decodeWord_143 rfl ?_
                      obtain ⟨rb22, rq22, trb22⟩ := W19.ref ty105 2 rfl rfl rfl
                      have lnrb22 : 1 ≤ lnh16 rb22 ∧ lnh16 rb22 ≤ 4 := W19.len trb22 rfl
                      refine c_getr (k := 2) C ck_6 dX3_decodeWord_145 w3_143 (by decide) ty105 rfl rfl (by decide) rfl rq22 ?_
                      refine c_st (st2 := [.ref rb22, .int (iI 1), .int (iI aq)]) rfl ?_
                      have ll14 : 1 ≤ lnh16 rb22 ∧ lnh16 rb22 ≤ 4 := W19.len trb22 rfl
                      refine c_alenI C dX3_decodeWord_148 trb22 rfl ?_
                      obtain ⟨mn14, hmn14, emn14⟩ := mmax_c (x := 1) (y := ((lnh16 rb22 : Nat) : Int)) ⟨by decide, by decide⟩ ⟨by omega, by omega⟩
                      have pl23 := Phi.le W19 sk13
                      refine c_mmax (w := iI mn14) C dX3_decodeWord_149 w5_105 w2_148 w1_14 w2_149 (by decide) (rom0 hph pl23 (by decide)) (Nat.le_of_ble_eq_true rfl) emn14 ?_
                      refine c_iadd C dX3_decodeWord_152 ?_
                      refine c_istore (lv2 := [(4, .int (iI (aq + mn14))), (3, .int (iI 1)), (2, .int (iI 1)), (5, .ref ob1), (0, .ref a0), (1, .int (iI i))]) C dX3_decodeWord_153 (by decide) rfl ?_
                      refine c_goto (tgt := 7) C dX3_decodeWord_155 (by decide) ?_
                      refine c_lv (lv2 := [(2, .int (iI 1)), (3, .int (iI 1)), (4, .int (iI (aq + mn14))), (0, .ref a0), (1, .int (iI i))]) [2, 1, 0, 4, 5] rfl ?_
                      exact ih1  1 1 (aq + mn14) _ _ _ _ _ (by omega) X13 W19 F16  (by omega) (by omega) (by omega)
                · refine c_aload (j := 0) (x := ob1) C dX3_decodeWord_74 rfl ?_
                  refine c_get (k := 0) C ck_6 dX3_decodeWord_76 w3_137 (by decide) tob1 rfl rfl (by decide) rfl ?_
                  refine c_iconst C dX3_decodeWord_79 ?_
                  refine c_icmp_ne (tgt := 116) C ⟨by omega, by omega⟩ ⟨by decide, by decide⟩ dX3_decodeWord_80 (by decide) (fun c20 => ?_) (fun c20 => ?_)
                  · refine c_aload (j := 0) (x := ob1) C dX3_decodeWord_116 rfl ?_
                    refine c_aload_n (j := 4) (x := a0) C dX3_decodeWord_118 rfl ?_
                    obtain ⟨rb23, rq23, trb23⟩ := Wb1.ref ty1 6 rfl rfl rfl
                    have erb23 := Wb1.sk trb23 (by decide) rfl
                    subst erb23
                    refine c_getr (k := 6) C ck_4 dX3_decodeWord_119 w1_200 (by decide) ty1 rfl rfl (by decide) rfl rq23 ?_
                    refine c_st (st2 := [.ref (sk 10), .ref ob1]) rfl ?_
                    refine c_iload_n (j := 2) C dX3_decodeWord_122 rfl ?_
                    have ty106 := Xb1.ty tsk10
                    refine d_callV (As := [.ref (sk 10), .int (iI gr)]) (rest := []) C hM (C_wl_10 (a0 := ob1) (a1 := (sk 10)) (g := gr) Wb1 skb1 tob1 ty106 (by omega) ) dX3_decodeWord_123 kV_X3_137 rfl tob1 rfl rfl (by decide) ck_6 rfl (Nat.le_of_ble_eq_true rfl) ⟨(Nat.le_of_ble_eq_true rfl), (Nat.le_of_ble_eq_true rfl)⟩ hph pl3 (show 0 + 0 = 0 from rfl) (by decide) (fun rh17 Lh17 clh17 lnh17 ivh17 rvh17 h17 => ?_)
                    obtain ⟨rfl, xl17, fl17, W20, exf17⟩ := h17
                    refine hv8 (Fb1.call Xb1 fl17 rfl) (Xb1.ty tsk6) (Xb1.ty tsk7) (Xb1.ty tsk9) (Xb1.ty tsk24) (Xb1.ty tsk25) (Xb1.trans xl17) (xl17.skl skb1) (fun F17 ty107 ty108 ty109 ty110 ty111 X14 sk14 => ?_)
                    refine c_st (st2 := []) rfl ?_
                    refine c_aload (j := 0) (x := ob1) C dX3_decodeWord_126 rfl ?_
                    refine hv2 (xl17.ty tob1) (show ivh17 ob1 0 = ivb1 ob1 0 from fl17.i tob1 rfl 0) (fun ty112 ie29 => ?_)
                    have ri23 : (-2147483648) ≤ ivh17 ob1 0 ∧ ivh17 ob1 0 ≤ 2147483647 := W20.int ty112 0
                    refine c_get (k := 0) C ck_6 dX3_decodeWord_128 w3_137 (by decide) ty112 rfl rfl (by decide) rfl ?_
                    refine c_if_ne (tgt := 138) C ⟨by omega, by omega⟩ dX3_decodeWord_131 (by decide) (fun c21 => ?_) (fun c21 => ?_)
                    · refine c_iconst C dX3_decodeWord_138 ?_
                      refine c_istore_n (lv2 := [(3, .int (iI 0)), (5, .ref ob1), (2, .int (iI sc)), (4, .int (iI aq)), (0, .ref a0), (1, .int (iI i))]) C dX3_decodeWord_139 (by decide) rfl ?_
                      refine c_iload (j := 3) C dX3_decodeWord_140 rfl ?_
                      refine c_iconst C dX3_decodeWord_142 ?_
                      refine c_aload (j := 1) (x := ob1) C dX3_decodeWord_143 rfl ?_
                      obtain ⟨rb24, rq24, trb24⟩ := W20.ref ty112 2 rfl rfl rfl
                      have lnrb24 : 1 ≤ lnh17 rb24 ∧ lnh17 rb24 ≤ 4 := W20.len trb24 rfl
                      refine c_getr (k := 2) C ck_6 dX3_decodeWord_145 w3_143 (by decide) ty112 rfl rfl (by decide) rfl rq24 ?_
                      refine c_st (st2 := [.ref rb24, .int (iI 1), .int (iI aq)]) rfl ?_
                      have ll15 : 1 ≤ lnh17 rb24 ∧ lnh17 rb24 ≤ 4 := W20.len trb24 rfl
                      refine c_alenI C dX3_decodeWord_148 trb24 rfl ?_
                      obtain ⟨mn15, hmn15, emn15⟩ := mmax_c (x := 1) (y := ((lnh17 rb24 : Nat) : Int)) ⟨by decide, by decide⟩ ⟨by omega, by omega⟩
                      have pl24 := Phi.le W20 sk14
                      refine c_mmax (w := iI mn15) C dX3_decodeWord_149 w5_105 w2_148 w1_14 w2_149 (by decide) (rom0 hph pl24 (by decide)) (Nat.le_of_ble_eq_true rfl) emn15 ?_
                      refine c_iadd C dX3_decodeWord_152 ?_
                      refine c_istore (lv2 := [(4, .int (iI (aq + mn15))), (3, .int (iI 0)), (5, .ref ob1), (2, .int (iI sc)), (0, .ref a0), (1, .int (iI i))]) C dX3_decodeWord_153 (by decide) rfl ?_
                      refine c_goto (tgt := 7) C dX3_decodeWord_155 (by decide) ?_
                      refine c_lv (lv2 := [(2, .int (iI sc)), (3, .int (iI 0)), (4, .int (iI (aq + mn15))), (0, .ref a0), (1, .int (iI i))]) [3, 1, 0, 4, 5] rfl ?_
                      exact ih1  sc 0 (aq + mn15) _ _ _ _ _ (by omega) X14 W20 F17  (by omega) (by omega) (by omega)
                    · refine c_iconst C dX3_decodeWord_134 ?_
                      refine c_goto (tgt := 139) C dX3_decodeWord_135 (by decide) ?_
                      refine c_istore_n (lv2 := [(3, .int (iI 1)), (5, .ref ob1), (2, .int (iI sc)), (4, .int (iI aq)), (0, .ref a0), (1, .int (iI i))]) C dX3_decodeWord_139 (by decide) rfl ?_
                      refine c_iload (j := 3) C dX3_decodeWord_140 rfl ?_
                      refine c_iconst C dX3_decodeWord_142 ?_
                      refine c_aload (j := 1) (x := ob1) C dX3_decodeWord_143 rfl ?_
                      obtain ⟨rb25, rq25, trb25⟩ := W20.ref ty112 2 rfl rfl rfl
                      have lnrb25 : 1 ≤ lnh17 rb25 ∧ lnh17 rb25 ≤ 4 := W20.len trb25 rfl
                      refine c_getr (k := 2) C ck_6 dX3_decodeWord_145 w3_143 (by decide) ty112 rfl rfl (by decide) rfl rq25 ?_
                      refine c_st (st2 := [.ref rb25, .int (iI 1), .int (iI aq)]) rfl ?_
                      have ll16 : 1 ≤ lnh17 rb25 ∧ lnh17 rb25 ≤ 4 := W20.len trb25 rfl
                      refine c_alenI C dX3_decodeWord_148 trb25 rfl ?_
                      obtain ⟨mn16, hmn16, emn16⟩ := mmax_c (x := 1) (y := ((lnh17 rb25 : Nat) : Int)) ⟨by decide, by decide⟩ ⟨by omega, by omega⟩
                      have pl25 := Phi.le W20 sk14
                      refine c_mmax (w := iI mn16) C dX3_decodeWord_149 w5_105 w2_148 w1_14 w2_149 (by decide) (rom0 hph pl25 (by decide)) (Nat.le_of_ble_eq_true rfl) emn16 ?_
                      refine c_iadd C dX3_decodeWord_152 ?_
                      refine c_istore (lv2 := [(4, .int (iI (aq + mn16))), (3, .int (iI 1)), (5, .ref ob1), (2, .int (iI sc)), (0, .ref a0), (1, .int (iI i))]) C dX3_decodeWord_153 (by decide) rfl ?_
                      refine c_goto (tgt := 7) C dX3_decodeWord_155 (by decide) ?_
                      refine c_lv (lv2 := [(2, .int (iI sc)), (3, .int (iI 1)), (4, .int (iI (aq + mn16))), (0, .ref a0), (1, .int (iI i))]) [3, 1, 0, 4, 5] rfl ?_
                      exact ih1  sc 1 (aq + mn16) _ _ _ _ _ (by omega) X14 W20 F17  (by omega) (by omega) (by omega)
                  · refine c_aload (j := 0) (x := ob1) C dX3_decodeWord_83 rfl ?_
                    refine c_get (k := 0) C ck_6 dX3_decodeWord_85 w3_137 (by decide) tob1 rfl rfl (by decide) rfl ?_
                    refine c_iconst C dX3_decodeWord_88 ?_
                    refine c_icmp_ne (tgt := 96) C ⟨by omega, by omega⟩ ⟨by decide, by decide⟩ dX3_decodeWord_89 (by decide) (fun c22 => ?_) (fun c22 => ?_)
                    · refine c_iconst C dX3_decodeWord_96 ?_
                      refine c_istore_n (lv2 := [(2, .int (iI 0)), (5, .ref ob1), (3, .int (iI gr)), (4, .int (iI aq)), (0, .ref a0), (1, .int (iI i))]) C dX3_decodeWord_97 (by decide) rfl ?_
                      refine c_aload_n (j := 4) (x := a0) C dX3_decodeWord_98 rfl ?_
                      obtain ⟨rb26, rq26, trb26⟩ := Wb1.ref ty1 6 rfl rfl rfl
                      have erb26 := Wb1.sk trb26 (by decide) rfl
                      subst erb26
                      refine c_getr (k := 6) C ck_4 dX3_decodeWord_99 w1_200 (by decide) ty1 rfl rfl (by decide) rfl rq26 ?_
                      refine c_st (st2 := [.ref (sk 10)]) rfl ?_
                      refine c_iload_n (j := 0) C dX3_decodeWord_102 rfl ?_
                      refine c_if_eq (tgt := 111) C ⟨by decide, by decide⟩ dX3_decodeWord_103 (by decide) (fun _ => ?_) (fun z => absurd z (by omega))
                      refine c_bipush (z := 62) C dX3_decodeWord_111 (by decide) ?_
                      have ty113 := Xb1.ty tsk10
                      have ri24 : 0 ≤ ivb1 (sk 10) 2 ∧ ivb1 (sk 10) 2 ≤ 4001 := Wb1.int ty113 2
                      refine d_callV (As := [.int (iI 62)]) (rest := []) C hM (C_add_10 (a0 := (sk 10)) (x := 62) Wb1 skb1 ty113 ⟨by decide, by decide⟩ ) dX3_decodeWord_113 kV_X3_91 rfl ty113 rfl rfl (by decide) ck_2 rfl (Nat.le_of_ble_eq_true rfl) ⟨(Nat.le_of_ble_eq_true rfl), (Nat.le_of_ble_eq_true rfl)⟩ hph pl3 (show 0 + 0 = 0 from rfl) (by decide) (fun rh18 Lh18 clh18 lnh18 ivh18 rvh18 h18 => ?_)
                      obtain ⟨rfl, xl18, fl18, W21, exf18⟩ := h18
                      refine hv8 (Fb1.call Xb1 fl18 rfl) (Xb1.ty tsk6) (Xb1.ty tsk7) (Xb1.ty tsk9) (Xb1.ty tsk24) (Xb1.ty tsk25) (Xb1.trans xl18) (xl18.skl skb1) (fun F18 ty114 ty115 ty116 ty117 ty118 X15 sk15 => ?_)
                      refine c_st (st2 := []) rfl ?_
                      refine hv2 (xl18.ty ty113) (show ((ivh18 (sk 10) 2 = ivb1 (sk 10) 2 ∧ ivb1 (sk 10) 2 = 4001) ∨ (ivh18 (sk 10) 2 = ivb1 (sk 10) 2 + 1 ∧ ivb1 (sk 10) 2 < 4001)) from exf18) (fun ty119 gf18 => ?_)
                      have ri25 : 0 ≤ ivh18 (sk 10) 2 ∧ ivh18 (sk 10) 2 ≤ 4001 := W21.int ty119 2
                      refine c_aload (j := 1) (x := ob1) C dX3_decodeWord_116 rfl ?_
                      refine c_aload_n (j := 4) (x := a0) C dX3_decodeWord_118 rfl ?_
                      refine hv2 (xl18.ty ty1) (show rvh18 a0 6 = rvb1 a0 6 from (fl18.r ty1 rfl 6)) (fun ty120 re7 => ?_)
                      rw [rq26] at re7
                      refine c_getr (k := 6) C ck_4 dX3_decodeWord_119 w1_200 (by decide) ty120 rfl rfl (by decide) rfl re7 ?_
                      refine c_st (st2 := [.ref (sk 10), .ref ob1]) rfl ?_
                      refine c_iload_n (j := 2) C dX3_decodeWord_122 rfl ?_
                      refine hv2 (xl18.ty tob1) (Phi.le W21 sk15) (fun ty121 pl26 => ?_)
                      refine d_callV (As := [.ref (sk 10), .int (iI gr)]) (rest := []) C hM (C_wl_10 (a0 := ob1) (a1 := (sk 10)) (g := gr) W21 sk15 ty121 ty119 (by omega) ) dX3_decodeWord_123 kV_X3_137 rfl ty121 rfl rfl (by decide) ck_6 rfl (Nat.le_of_ble_eq_true rfl) ⟨(Nat.le_of_ble_eq_true rfl), (Nat.le_of_ble_eq_true rfl)⟩ hph pl26 (show 0 + 0 = 0 from rfl) (by decide) (fun rh19 Lh19 clh19 lnh19 ivh19 rvh19 h19 => ?_)
                      obtain ⟨rfl, xl19, fl19, W22, exf19⟩ := h19
                      refine hv9 (F18.call X15 fl19 rfl) (xl18.ty ty114) (xl18.ty ty115) (xl18.ty ty2) (xl18.ty ty116) (xl18.ty ty117) (xl18.ty ty118) (X15.trans xl19) (xl19.skl sk15) (fun F19 ty122 ty123 ty124 ty125 ty126 ty127 X16 sk16 => ?_)
                      refine c_st (st2 := []) rfl ?_
                      refine c_aload (j := 1) (x := ob1) C dX3_decodeWord_126 rfl ?_
                      refine hv3 (xl19.ty ty121) (show ivh19 ob1 0 = ivh18 ob1 0 from fl19.i ty121 rfl 0) (show ivh18 ob1 0 = ivb1 ob1 0 from fl18.i tob1 rfl 0) (fun ty128 ie32 ie33 => ?_)
                      have ri26 : (-2147483648) ≤ ivh19 ob1 0 ∧ ivh19 ob1 0 ≤ 2147483647 := W22.int ty128 0
                      refine c_get (k := 0) C ck_6 dX3_decodeWord_128 w3_137 (by decide) ty128 rfl rfl (by decide) rfl ?_
                      refine c_if_ne (tgt := 138) C ⟨by omega, by omega⟩ dX3_decodeWord_131 (by decide) (fun c23 => ?_) (fun c23 => ?_)
                      · refine c_iconst C dX3_decodeWord_138 ?_
                        refine c_istore_n (lv2 := [(3, .int (iI 0)), (2, .int (iI 0)), (5, .ref ob1), (4, .int (iI aq)), (0, .ref a0), (1, .int (iI i))]) C dX3_decodeWord_139 (by decide) rfl ?_
                        refine c_iload (j := 3) C dX3_decodeWord_140 rfl ?_
                        refine c_iconst C dX3_decodeWord_142 ?_
                        refine c_aload (j := 2) (x := ob1) C dX3_decodeWord_143 rfl ?_
                        obtain ⟨rb27, rq27, trb27⟩ := W22.ref ty128 2 rfl rfl rfl
                        have lnrb27 : 1 ≤ lnh19 rb27 ∧ lnh19 rb27 ≤ 4 := W22.len trb27 rfl
                        refine c_getr (k := 2) C ck_6 dX3_decodeWord_145 w3_143 (by decide) ty128 rfl rfl (by decide) rfl rq27 ?_
                        refine c_st (st2 := [.ref rb27, .int (iI 1), .int (iI aq)]) rfl ?_
                        have ll17 : 1 ≤ lnh19 rb27 ∧ lnh19 rb27 ≤ 4 := W22.len trb27 rfl
                        refine c_alenI C dX3_decodeWord_148 trb27 rfl ?_
                        obtain ⟨mn17, hmn17, emn17⟩ := mmax_c (x := 1) (y := ((lnh19 rb27 : Nat) : Int)) ⟨by decide, by decide⟩ ⟨by omega, by omega⟩
                        have pl27 := Phi.le W22 sk16
                        refine c_mmax (w := iI mn17) C dX3_decodeWord_149 w5_105 w2_148 w1_14 w2_149 (by decide) (rom0 hph pl27 (by decide)) (Nat.le_of_ble_eq_true rfl) emn17 ?_
                        refine c_iadd C dX3_decodeWord_152 ?_
                        refine c_istore (lv2 := [(4, .int (iI (aq + mn17))), (3, .int (iI 0)), (2, .int (iI 0)), (5, .ref ob1), (0, .ref a0), (1, .int (iI i))]) C dX3_decodeWord_153 (by decide) rfl ?_
                        refine c_goto (tgt := 7) C dX3_decodeWord_155 (by decide) ?_
                        refine c_lv (lv2 := [(2, .int (iI 0)), (3, .int (iI 0)), (4, .int (iI (aq + mn17))), (0, .ref a0), (1, .int (iI i))]) [2, 1, 0, 4, 5] rfl ?_
                        exact ih1  0 0 (aq + mn17) _ _ _ _ _ (by omega) X16 W22 F19  (by omega) (by omega) (by omega)
                      · refine c_iconst C dX3_decodeWord_134 ?_
                        refine c_goto (tgt := 139) C dX3_decodeWord_135 (by decide) ?_
                        refine c_istore_n (lv2 := [(3, .int (iI 1)), (2, .int (iI 0)), (5, .ref ob1), (4, .int (iI aq)), (0, .ref a0), (1, .int (iI i))]) C dX3_decodeWord_139 (by decide) rfl ?_
                        refine c_iload (j := 3) C dX3_decodeWord_140 rfl ?_
                        refine c_iconst C dX3_decodeWord_142 ?_
                        refine c_aload (j := 2) (x := ob1) C dX3_decodeWord_143 rfl ?_
                        obtain ⟨rb28, rq28, trb28⟩ := W22.ref ty128 2 rfl rfl rfl
                        have lnrb28 : 1 ≤ lnh19 rb28 ∧ lnh19 rb28 ≤ 4 := W22.len trb28 rfl
                        refine c_getr (k := 2) C ck_6 dX3_decodeWord_145 w3_143 (by decide) ty128 rfl rfl (by decide) rfl rq28 ?_
                        refine c_st (st2 := [.ref rb28, .int (iI 1), .int (iI aq)]) rfl ?_
                        have ll18 : 1 ≤ lnh19 rb28 ∧ lnh19 rb28 ≤ 4 := W22.len trb28 rfl
                        refine c_alenI C dX3_decodeWord_148 trb28 rfl ?_
                        obtain ⟨mn18, hmn18, emn18⟩ := mmax_c (x := 1) (y := ((lnh19 rb28 : Nat) : Int)) ⟨by decide, by decide⟩ ⟨by omega, by omega⟩
                        have pl28 := Phi.le W22 sk16
                        refine c_mmax (w := iI mn18) C dX3_decodeWord_149 w5_105 w2_148 w1_14 w2_149 (by decide) (rom0 hph pl28 (by decide)) (Nat.le_of_ble_eq_true rfl) emn18 ?_
                        refine c_iadd C dX3_decodeWord_152 ?_
                        refine c_istore (lv2 := [(4, .int (iI (aq + mn18))), (3, .int (iI 1)), (2, .int (iI 0)), (5, .ref ob1), (0, .ref a0), (1, .int (iI i))]) C dX3_decodeWord_153 (by decide) rfl ?_
                        refine c_goto (tgt := 7) C dX3_decodeWord_155 (by decide) ?_
                        refine c_lv (lv2 := [(2, .int (iI 0)), (3, .int (iI 1)), (4, .int (iI (aq + mn18))), (0, .ref a0), (1, .int (iI i))]) [2, 1, 0, 4, 5] rfl ?_
                        exact ih1  0 1 (aq + mn18) _ _ _ _ _ (by omega) X16 W22 F19  (by omega) (by omega) (by omega)
                    · refine c_iconst C dX3_decodeWord_92 ?_
                      refine c_goto (tgt := 97) C dX3_decodeWord_93 (by decide) ?_
                      refine c_istore_n (lv2 := [(2, .int (iI 1)), (5, .ref ob1), (3, .int (iI gr)), (4, .int (iI aq)), (0, .ref a0), (1, .int (iI i))]) C dX3_decodeWord_97 (by decide) rfl ?_
                      refine c_aload_n (j := 4) (x := a0) C dX3_decodeWord_98 rfl ?_
                      obtain ⟨rb29, rq29, trb29⟩ := Wb1.ref ty1 6 rfl rfl rfl
                      have erb29 := Wb1.sk trb29 (by decide) rfl
                      subst erb29
                      refine c_getr (k := 6) C ck_4 dX3_decodeWord_99 w1_200 (by decide) ty1 rfl rfl (by decide) rfl rq29 ?_
                      refine c_st (st2 := [.ref (sk 10)]) rfl ?_
                      refine c_iload_n (j := 0) C dX3_decodeWord_102 rfl ?_
                      refine c_if_eq (tgt := 111) C ⟨by decide, by decide⟩ dX3_decodeWord_103 (by decide) (fun z => absurd z (by omega)) (fun _ => ?_)
                      refine c_bipush (z := 60) C dX3_decodeWord_106 (by decide) ?_
                      refine c_goto (tgt := 113) C dX3_decodeWord_108 (by decide) ?_
                      have ty129 := Xb1.ty tsk10
                      have ri27 : 0 ≤ ivb1 (sk 10) 2 ∧ ivb1 (sk 10) 2 ≤ 4001 := Wb1.int ty129 2
                      refine d_callV (As := [.int (iI 60)]) (rest := []) C hM (C_add_10 (a0 := (sk 10)) (x := 60) Wb1 skb1 ty129 ⟨by decide, by decide⟩ ) dX3_decodeWord_113 kV_X3_91 rfl ty129 rfl rfl (by decide) ck_2 rfl (Nat.le_of_ble_eq_true rfl) ⟨(Nat.le_of_ble_eq_true rfl), (Nat.le_of_ble_eq_true rfl)⟩ hph pl3 (show 0 + 0 = 0 from rfl) (by decide) (fun rh20 Lh20 clh20 lnh20 ivh20 rvh20 h20 => ?_)
                      obtain ⟨rfl, xl20, fl20, W23, exf20⟩ := h20
                      refine hv8 (Fb1.call Xb1 fl20 rfl) (Xb1.ty tsk6) (Xb1.ty tsk7) (Xb1.ty tsk9) (Xb1.ty tsk24) (Xb1.ty tsk25) (Xb1.trans xl20) (xl20.skl skb1) (fun F20 ty130 ty131 ty132 ty133 ty134 X17 sk17 => ?_)
                      refine c_st (st2 := []) rfl ?_
                      refine hv2 (xl20.ty ty129) (show ((ivh20 (sk 10) 2 = ivb1 (sk 10) 2 ∧ ivb1 (sk 10) 2 = 4001) ∨ (ivh20 (sk 10) 2 = ivb1 (sk 10) 2 + 1 ∧ ivb1 (sk 10) 2 < 4001)) from exf20) (fun ty135 gf20 => ?_)
                      have ri28 : 0 ≤ ivh20 (sk 10) 2 ∧ ivh20 (sk 10) 2 ≤ 4001 := W23.int ty135 2
                      refine c_aload (j := 1) (x := ob1) C dX3_decodeWord_116 rfl ?_
                      refine c_aload_n (j := 4) (x := a0) C dX3_decodeWord_118 rfl ?_
                      refine hv2 (xl20.ty ty1) (show rvh20 a0 6 = rvb1 a0 6 from (fl20.r ty1 rfl 6)) (fun ty136 re8 => ?_)
                      rw [rq29] at re8
                      refine c_getr (k := 6) C ck_4 dX3_decodeWord_119 w1_200 (by decide) ty136 rfl rfl (by decide) rfl re8 ?_
                      refine c_st (st2 := [.ref (sk 10), .ref ob1]) rfl ?_
                      refine c_iload_n (j := 2) C dX3_decodeWord_122 rfl ?_
                      refine hv2 (xl20.ty tob1) (Phi.le W23 sk17) (fun ty137 pl29 => ?_)
                      refine d_callV (As := [.ref (sk 10), .int (iI gr)]) (rest := []) C hM (C_wl_10 (a0 := ob1) (a1 := (sk 10)) (g := gr) W23 sk17 ty137 ty135 (by omega) ) dX3_decodeWord_123 kV_X3_137 rfl ty137 rfl rfl (by decide) ck_6 rfl (Nat.le_of_ble_eq_true rfl) ⟨(Nat.le_of_ble_eq_true rfl), (Nat.le_of_ble_eq_true rfl)⟩ hph pl29 (show 0 + 0 = 0 from rfl) (by decide) (fun rh21 Lh21 clh21 lnh21 ivh21 rvh21 h21 => ?_)
                      obtain ⟨rfl, xl21, fl21, W24, exf21⟩ := h21
                      refine hv9 (F20.call X17 fl21 rfl) (xl20.ty ty130) (xl20.ty ty131) (xl20.ty ty2) (xl20.ty ty132) (xl20.ty ty133) (xl20.ty ty134) (X17.trans xl21) (xl21.skl sk17) (fun F21 ty138 ty139 ty140 ty141 ty142 ty143 X18 sk18 => ?_)
                      refine c_st (st2 := []) rfl ?_
                      refine c_aload (j := 1) (x := ob1) C dX3_decodeWord_126 rfl ?_
                      refine hv3 (xl21.ty ty137) (show ivh21 ob1 0 = ivh20 ob1 0 from fl21.i ty137 rfl 0) (show ivh20 ob1 0 = ivb1 ob1 0 from fl20.i tob1 rfl 0) (fun ty144 ie36 ie37 => ?_)
                      have ri29 : (-2147483648) ≤ ivh21 ob1 0 ∧ ivh21 ob1 0 ≤ 2147483647 := W24.int ty144 0
                      refine c_get (k := 0) C ck_6 dX3_decodeWord_128 w3_137 (by decide) ty144 rfl rfl (by decide) rfl ?_
                      refine c_if_ne (tgt := 138) C ⟨by omega, by omega⟩ dX3_decodeWord_131 (by decide) (fun c24 => ?_) (fun c24 => ?_)
                      · refine c_iconst C dX3_decodeWord_138 ?_
                        refine c_istore_n (lv2 := [(3, .int (iI 0)), (2, .int (iI 1)), (5, .ref ob1), (4, .int (iI aq)), (0, .ref a0), (1, .int (iI i))]) C dX3_decodeWord_139 (by decide) rfl ?_
                        refine c_iload (j := 3) C dX3_decodeWord_140 rfl ?_
                        refine c_iconst C dX3_decodeWord_142 ?_
                        refine c_aload (j := 2) (x := ob1) C dX3_decodeWord_143 rfl ?_
                        obtain ⟨rb30, rq30, trb30⟩ := W24.ref ty144 2 rfl rfl rfl
                        have lnrb30 : 1 ≤ lnh21 rb30 ∧ lnh21 rb30 ≤ 4 := W24.len trb30 rfl
                        refine c_getr (k := 2) C ck_6 dX3_decodeWord_145 w3_143 (by decide) ty144 rfl rfl (by decide) rfl rq30 ?_
                        refine c_st (st2 := [.ref rb30, .int (iI 1), .int (iI aq)]) rfl ?_
                        have ll19 : 1 ≤ lnh21 rb30 ∧ lnh21 rb30 ≤ 4 := W24.len trb30 rfl
                        refine c_alenI C dX3_decodeWord_148 trb30 rfl ?_
                        obtain ⟨mn19, hmn19, emn19⟩ := mmax_c (x := 1) (y := ((lnh21 rb30 : Nat) : Int)) ⟨by decide, by decide⟩ ⟨by omega, by omega⟩
                        have pl30 := Phi.le W24 sk18
                        refine c_mmax (w := iI mn19) C dX3_decodeWord_149 w5_105 w2_148 w1_14 w2_149 (by decide) (rom0 hph pl30 (by decide)) (Nat.le_of_ble_eq_true rfl) emn19 ?_
                        refine c_iadd C dX3_decodeWord_152 ?_
                        refine c_istore (lv2 := [(4, .int (iI (aq + mn19))), (3, .int (iI 0)), (2, .int (iI 1)), (5, .ref ob1), (0, .ref a0), (1, .int (iI i))]) C dX3_decodeWord_153 (by decide) rfl ?_
                        refine c_goto (tgt := 7) C dX3_decodeWord_155 (by decide) ?_
                        refine c_lv (lv2 := [(2, .int (iI 1)), (3, .int (iI 0)), (4, .int (iI (aq + mn19))), (0, .ref a0), (1, .int (iI i))]) [2, 1, 0, 4, 5] rfl ?_
                        exact ih1  1 0 (aq + mn19) _ _ _ _ _ (by omega) X18 W24 F21  (by omega) (by omega) (by omega)
                      · refine c_iconst C dX3_decodeWord_134 ?_
                        refine c_goto (tgt := 139) C dX3_decodeWord_135 (by decide) ?_
                        refine c_istore_n (lv2 := [(3, .int (iI 1)), (2, .int (iI 1)), (5, .ref ob1), (4, .int (iI aq)), (0, .ref a0), (1, .int (iI i))]) C dX3_decodeWord_139 (by decide) rfl ?_
                        refine c_iload (j := 3) C dX3_decodeWord_140 rfl ?_
                        refine c_iconst C dX3_decodeWord_142 ?_
                        refine c_aload (j := 2) (x := ob1) C dX3_decodeWord_143 rfl ?_
                        obtain ⟨rb31, rq31, trb31⟩ := W24.ref ty144 2 rfl rfl rfl
                        have lnrb31 : 1 ≤ lnh21 rb31 ∧ lnh21 rb31 ≤ 4 := W24.len trb31 rfl
                        refine c_getr (k := 2) C ck_6 dX3_decodeWord_145 w3_143 (by decide) ty144 rfl rfl (by decide) rfl rq31 ?_
                        refine c_st (st2 := [.ref rb31, .int (iI 1), .int (iI aq)]) rfl ?_
                        have ll20 : 1 ≤ lnh21 rb31 ∧ lnh21 rb31 ≤ 4 := W24.len trb31 rfl
                        refine c_alenI C dX3_decodeWord_148 trb31 rfl ?_
                        obtain ⟨mn20, hmn20, emn20⟩ := mmax_c (x := 1) (y := ((lnh21 rb31 : Nat) : Int)) ⟨by decide, by decide⟩ ⟨by omega, by omega⟩
                        have pl31 := Phi.le W24 sk18
                        refine c_mmax (w := iI mn20) C dX3_decodeWord_149 w5_105 w2_148 w1_14 w2_149 (by decide) (rom0 hph pl31 (by decide)) (Nat.le_of_ble_eq_true rfl) emn20 ?_
                        refine c_iadd C dX3_decodeWord_152 ?_
                        refine c_istore (lv2 := [(4, .int (iI (aq + mn20))), (3, .int (iI 1)), (2, .int (iI 1)), (5, .ref ob1), (0, .ref a0), (1, .int (iI i))]) C dX3_decodeWord_153 (by decide) rfl ?_
                        refine c_goto (tgt := 7) C dX3_decodeWord_155 (by decide) ?_
                        refine c_lv (lv2 := [(2, .int (iI 1)), (3, .int (iI 1)), (4, .int (iI (aq + mn20))), (0, .ref a0), (1, .int (iI i))]) [2, 1, 0, 4, 5] rfl ?_
                        exact ih1  1 1 (aq + mn20) _ _ _ _ _ (by omega) X18 W24 F21  (by omega) (by omega) (by omega)
              · refine c_aload_n (j := 4) (x := a0) C dX3_decodeWord_57 rfl ?_
                refine c_iload (j := 3) C dX3_decodeWord_58 rfl ?_
                refine c_put (z := aq) (k := 7) C ck_4 dX3_decodeWord_60 w1_202 (by decide) rfl ty1 rfl rfl (by decide) rfl (by rfl) (by rfl) (fun iv4 pq4 => ?_)
                refine hv2 (Wb1.puti pq4 ty1 (show (-2147483648) ≤ aq ∧ aq ≤ 2147483647 by omega) rfl) (Fb1.puti Xb1 pq4 ty1 rfl) (fun W25 F22 => ?_)
                refine c_iconst C dX3_decodeWord_63 ?_
                exact c_iret C dX3_decodeWord_64 rfl (by decide) (rom0 hph pl3 (by decide)) ⟨(-1), rfl, Xb1, F22, W25, ⟨by decide, by decide⟩, (by omega)⟩
  refine c_lv (lv2 := [(2, .int (iI 0)), (3, .int (iI 0)), (4, .int (iI i)), (0, .ref a0), (1, .int (iI i))]) [2, 1, 0, 3, 4] rfl ?_
  exact Lp1 40207 0 0 i _ _ _ _ _ (by omega) hX0 hW hF0  (by omega) (by omega) (by omega)
set_option maxHeartbeats 4000000 in
set_option maxRecDepth 100000 in
theorem C_decode {l : Launch} {G : GT} {mi : Nat} {sk : Nat → Nat} {L : List Nat} {cl ln : Nat → Nat} {iv : Nat → Nat → Int} {rv : Nat → Nat → Option Nat}  {a0 : Nat} (hW : WT (g0 G) sk L cl ln iv rv) (hS : SKL sk L cl) (t_a0 : ty L cl a0 16)  : Mc l G mi (Phi (g0 G) sk) PHM yX3_decode cX3_decode 4 (some .boolean) 5 [.ref a0] L cl ln iv rv 0 (fun v L2 cl2 ln2 iv2 rv2 => ∃ f : Int, v = some (.int (iI f)) ∧ XT L cl ln L2 cl2 ln2 ∧ fT [16, 10, 40] L cl iv rv iv2 rv2 ∧ WT (g0 G) sk L2 cl2 ln2 iv2 rv2 ∧ (f = 0 ∨ f = 1) ∧ (True)) := by
  refine Mc.mk (by decide) (Nat.le_of_ble_eq_true rfl) ?_
  intro p e s m args below meth c A C hM
  refine hv10 (Phi.le hW hS) (show ty L cl (sk 6) 6 from ⟨(hS 6 rfl).1, by rw [(hS 6 rfl).2]; rfl⟩) (show ty L cl (sk 7) 7 from ⟨(hS 7 rfl).1, by rw [(hS 7 rfl).2]; rfl⟩) (show ty L cl (sk 8) 8 from ⟨(hS 8 rfl).1, by rw [(hS 8 rfl).2]; rfl⟩) (show ty L cl (sk 9) 9 from ⟨(hS 9 rfl).1, by rw [(hS 9 rfl).2]; rfl⟩) (show ty L cl (sk 10) 10 from ⟨(hS 10 rfl).1, by rw [(hS 10 rfl).2]; rfl⟩) (show ty L cl (sk 24) 24 from ⟨(hS 24 rfl).1, by rw [(hS 24 rfl).2]; rfl⟩) (show ty L cl (sk 25) 25 from ⟨(hS 25 rfl).1, by rw [(hS 25 rfl).2]; rfl⟩) (show XT L cl ln L cl ln from XT.refl) (show fT [16, 10, 40] L cl iv rv iv rv from fT.refl) (fun hph tsk6 tsk7 tsk8 tsk9 tsk10 tsk24 tsk25 hX0 hF0 => ?_)
  refine c_aload_n (j := 0) (x := a0) C dX3_decode_0 rfl ?_
  obtain ⟨rb1, rq1, trb1⟩ := hW.ref t_a0 6 rfl rfl rfl
  have erb1 := hW.sk trb1 (by decide) rfl
  subst erb1
  refine c_getr (k := 6) C ck_4 dX3_decode_1 w1_200 (by decide) t_a0 rfl rfl (by decide) rfl rq1 ?_
  refine c_st (st2 := [.ref (sk 10)]) rfl ?_
  refine d_callV (As := []) (rest := []) C hM (C_clear_10 (a0 := (sk 10)) hW hS tsk10  ) dX3_decode_4 kV_X3_77 rfl tsk10 rfl rfl (by decide) ck_2 rfl (Nat.le_of_ble_eq_true rfl) ⟨(Nat.le_of_ble_eq_true rfl), (Nat.le_of_ble_eq_true rfl)⟩ hph hph (show 0 + 0 = 0 from rfl) (by decide) (fun rh1 Lh1 clh1 lnh1 ivh1 rvh1 h1 => ?_)
  obtain ⟨rfl, rfl, rfl, rfl, rfl, fl1, W1, exf1⟩ := h1
  have F1 := hF0.call hX0 fl1 rfl
  refine c_st (st2 := []) rfl ?_
  refine hv2 (show 0 ≤ ivh1 (sk 10) 2 ∧ ivh1 (sk 10) 2 ≤ 4001 from W1.int tsk10 2) (show ivh1 (sk 10) 2 = 0 from exf1) (fun ri1 gf1 => ?_)
  refine c_iconst C dX3_decode_7 ?_
  refine c_istore_n (lv2 := [(1, .int (iI 1)), (0, .ref a0)]) C dX3_decode_8 (by decide) rfl ?_
  refine c_iconst C dX3_decode_9 ?_
  refine c_istore_n (lv2 := [(2, .int (iI 0)), (1, .int (iI 1)), (0, .ref a0)]) C dX3_decode_10 (by decide) rfl ?_
  have Lp1 : ∀ (nn : Nat) (fs aq : Int) (Lb1 : List Nat) (clb1 lnb1 : Nat → Nat) (ivb1 : Nat → Nat → Int) (rvb1 : Nat → Nat → Option Nat) , 40211 - aq < (nn : Int) → XT L cl ln Lb1 clb1 lnb1 → WT (g0 G) sk Lb1 clb1 lnb1 ivb1 rvb1 → fT [16, 10, 40] L cl iv rv ivb1 rvb1 → (fs = 0 ∨ fs = 1) → (0 ≤ aq ∧ aq ≤ 40210) → cw p l e 5 ((PHM) + 0 - ((Phi (g0 G) sk) ln rv)) s m args below meth c G A 4 (MQ below (Qu G A (Qp G (Phi (g0 G) sk) ((Phi (g0 G) sk) ln rv) 0 (fun v L2 cl2 ln2 iv2 rv2 => ∃ f : Int, v = some (.int (iI f)) ∧ XT L cl ln L2 cl2 ln2 ∧ fT [16, 10, 40] L cl iv rv iv2 rv2 ∧ WT (g0 G) sk L2 cl2 ln2 iv2 rv2 ∧ (f = 0 ∨ f = 1) ∧ (True)))) args s (((PHM) + 0 - ((Phi (g0 G) sk) ln rv)) / 16) ((PHM) + 0 - ((Phi (g0 G) sk) ln rv)) A) (Phi (g0 G) sk) ((Phi (g0 G) sk) ln rv) Lb1 clb1 lnb1 ivb1 rvb1 0 11 [(1, .int (iI fs)), (2, .int (iI aq)), (0, .ref a0)] [] := by
    intro nn
    induction nn with
    | zero =>
      intro  fs aq Lb1 clb1 lnb1 ivb1 rvb1 hm Xb1 Wb1 Fb1  hfs haq
      have skb1 := Xb1.skl hS
      exact absurd hm (by omega)
    | succ nn ih1 =>
      intro  fs aq Lb1 clb1 lnb1 ivb1 rvb1 hm Xb1 Wb1 Fb1  hfs haq
      have skb1 := Xb1.skl hS
      refine c_iload_n (j := 1) C dX3_decode_11 rfl ?_
      refine c_aload_n (j := 2) (x := a0) C dX3_decode_12 rfl ?_
      have ty1 := Xb1.ty t_a0
      obtain ⟨rb2, rq2, trb2⟩ := Wb1.ref ty1 4 rfl rfl rfl
      have erb2 := Wb1.sk trb2 (by decide) rfl
      subst erb2
      refine c_getr (k := 4) C ck_4 dX3_decode_13 w1_198 (by decide) ty1 rfl rfl (by decide) rfl rq2 ?_
      refine c_st (st2 := [.ref (sk 8), .int (iI aq)]) rfl ?_
      refine hv2 (Xb1.ty tsk8) (show ivb1 (sk 8) 2 = iv (sk 8) 2 from Fb1.i tsk8 rfl 2) (fun ty2 ie2 => ?_)
      have ri2 : 0 ≤ ivb1 (sk 8) 2 ∧ ivb1 (sk 8) 2 ≤ 40200 := Wb1.int ty2 2
      refine c_get (k := 2) C ck_2 dX3_decode_16 w1_49 (by decide) ty2 rfl rfl (by decide) rfl ?_
      refine c_icmp_ge (tgt := 72) C ⟨by omega, by omega⟩ ⟨by omega, by omega⟩ dX3_decode_19 (by decide) (fun c1 => ?_) (fun c1 => ?_)
      · refine c_iconst C dX3_decode_72 ?_
        have pl1 := Phi.le Wb1 skb1
        exact c_zret C dX3_decode_73 rfl (Or.inr rfl) (by decide) (rom0 hph pl1 (by decide)) ⟨1, rfl, Xb1, Fb1, Wb1, (Or.inr rfl), trivial⟩
      · refine c_aload_n (j := 2) (x := a0) C dX3_decode_22 rfl ?_
        refine c_getr (k := 4) C ck_4 dX3_decode_23 w1_198 (by decide) ty1 rfl rfl (by decide) rfl rq2 ?_
        refine c_st (st2 := [.ref (sk 8)]) rfl ?_
        refine c_iload_n (j := 1) C dX3_decode_26 rfl ?_
        have pl2 := Phi.le Wb1 skb1
        refine d_callV (As := [.int (iI aq)]) (rest := []) C hM (C_at_8 (a0 := (sk 8)) (i := aq) Wb1 skb1 ty2 (by omega) ) dX3_decode_27 kV_X3_119 rfl ty2 rfl rfl (by decide) ck_2 rfl (Nat.le_of_ble_eq_true rfl) ⟨(Nat.le_of_ble_eq_true rfl), (Nat.le_of_ble_eq_true rfl)⟩ hph pl2 (show 0 + 0 = 0 from rfl) (by decide) (fun rh2 Lh2 clh2 lnh2 ivh2 rvh2 h2 => ?_)
        obtain ⟨f2, rfl, rfl, rfl, rfl, rfl, rfl, rgf2, exf2⟩ := h2
        refine c_st (st2 := [.int (iI f2)]) rfl ?_
        have gf2 : ((0 ≤ aq ∧ aq < ivb1 (sk 8) 2) ∨ f2 = 0) ∧ ∀ ss, CT ivb1 rvb1 (sk 8) ss → 0 ≤ aq → aq < ivb1 (sk 8) 2 → f2 = ss aq.toNat := exf2
        refine c_if_ne (tgt := 39) C ⟨by omega, by omega⟩ dX3_decode_30 (by decide) (fun c2 => ?_) (fun c2 => ?_)
        · refine c_iload_n (j := 0) C dX3_decode_39 rfl ?_
          refine c_if_ne (tgt := 52) C ⟨by omega, by omega⟩ dX3_decode_40 (by decide) (fun c3 => ?_) (fun c3 => ?_)
          · refine c_iconst C dX3_decode_52 ?_
            refine c_istore_n (lv2 := [(1, .int (iI 0)), (2, .int (iI aq)), (0, .ref a0)]) C dX3_decode_53 (by decide) rfl ?_
            refine c_aload_n (j := 2) (x := a0) C dX3_decode_54 rfl ?_
            refine c_iload_n (j := 1) C dX3_decode_55 rfl ?_
            refine d_callV (As := [.int (iI aq)]) (rest := []) C hM (C_decodeWord (a0 := a0) (i := aq) Wb1 skb1 ty1 (by omega) (by show 0 ≤ aq ∧ aq ≤ 40200; omega)) dX3_decode_56 kV_X3_123 rfl ty1 rfl rfl (by decide) ck_4 rfl (Nat.le_of_ble_eq_true rfl) ⟨(Nat.le_of_ble_eq_true rfl), (Nat.le_of_ble_eq_true rfl)⟩ hph pl2 (show 0 + 0 = 0 from rfl) (by decide) (fun rh3 Lh3 clh3 lnh3 ivh3 rvh3 h3 => ?_)
            obtain ⟨f3, rfl, xl3, fl3, W3, rgf3, exf3⟩ := h3
            refine hv9 (Fb1.call Xb1 fl3 rfl) (Xb1.ty tsk6) (Xb1.ty tsk7) (Xb1.ty tsk9) (Xb1.ty tsk10) (Xb1.ty tsk24) (Xb1.ty tsk25) (Xb1.trans xl3) (xl3.skl skb1) (fun F2 ty3 ty4 ty5 ty6 ty7 ty8 X1 sk1 => ?_)
            refine c_st (st2 := [.int (iI f3)]) rfl ?_
            have gf3 : f3 ≤ 40210 := exf3
            refine c_istore_n (lv2 := [(3, .int (iI f3)), (1, .int (iI 0)), (2, .int (iI aq)), (0, .ref a0)]) C dX3_decode_59 (by decide) rfl ?_
            refine c_iload_n (j := 0) C dX3_decode_60 rfl ?_
            refine c_iload_n (j := 2) C dX3_decode_61 rfl ?_
            refine c_icmp_gt (tgt := 67) C ⟨by omega, by omega⟩ ⟨by omega, by omega⟩ dX3_decode_62 (by decide) (fun c4 => ?_) (fun c4 => ?_)
            · refine c_iload_n (j := 0) C dX3_decode_67 rfl ?_
              refine c_istore_n (lv2 := [(2, .int (iI f3)), (3, .int (iI f3)), (1, .int (iI 0)), (0, .ref a0)]) C dX3_decode_68 (by decide) rfl ?_
              refine c_goto (tgt := 11) C dX3_decode_69 (by decide) ?_
              refine c_lv (lv2 := [(1, .int (iI 0)), (2, .int (iI f3)), (0, .ref a0)]) [2, 0, 3] rfl ?_
              exact ih1  0 f3 _ _ _ _ _ (by omega) X1 W3 F2  (by omega) (by omega)
            · refine c_iconst C dX3_decode_65 ?_
              have pl3 := Phi.le W3 sk1
              exact c_zret C dX3_decode_66 rfl (Or.inl rfl) (by decide) (rom0 hph pl3 (by decide)) ⟨0, rfl, X1, F2, W3, (Or.inl rfl), trivial⟩
          · refine c_aload_n (j := 2) (x := a0) C dX3_decode_43 rfl ?_
            obtain ⟨rb3, rq3, trb3⟩ := Wb1.ref ty1 6 rfl rfl rfl
            have erb3 := Wb1.sk trb3 (by decide) rfl
            subst erb3
            refine c_getr (k := 6) C ck_4 dX3_decode_44 w1_200 (by decide) ty1 rfl rfl (by decide) rfl rq3 ?_
            refine c_st (st2 := [.ref (sk 10)]) rfl ?_
            refine c_bipush (z := 32) C dX3_decode_47 (by decide) ?_
            have ty9 := Xb1.ty tsk10
            have ri3 : 0 ≤ ivb1 (sk 10) 2 ∧ ivb1 (sk 10) 2 ≤ 4001 := Wb1.int ty9 2
            refine d_callV (As := [.int (iI 32)]) (rest := []) C hM (C_add_10 (a0 := (sk 10)) (x := 32) Wb1 skb1 ty9 ⟨by decide, by decide⟩ ) dX3_decode_49 kV_X3_91 rfl ty9 rfl rfl (by decide) ck_2 rfl (Nat.le_of_ble_eq_true rfl) ⟨(Nat.le_of_ble_eq_true rfl), (Nat.le_of_ble_eq_true rfl)⟩ hph pl2 (show 0 + 0 = 0 from rfl) (by decide) (fun rh4 Lh4 clh4 lnh4 ivh4 rvh4 h4 => ?_)
            obtain ⟨rfl, xl4, fl4, W4, exf4⟩ := h4
            refine hv8 (Fb1.call Xb1 fl4 rfl) (Xb1.ty tsk6) (Xb1.ty tsk7) (Xb1.ty tsk9) (Xb1.ty tsk24) (Xb1.ty tsk25) (Xb1.trans xl4) (xl4.skl skb1) (fun F3 ty10 ty11 ty12 ty13 ty14 X2 sk2 => ?_)
            refine c_st (st2 := []) rfl ?_
            refine hv2 (xl4.ty ty9) (show ((ivh4 (sk 10) 2 = ivb1 (sk 10) 2 ∧ ivb1 (sk 10) 2 = 4001) ∨ (ivh4 (sk 10) 2 = ivb1 (sk 10) 2 + 1 ∧ ivb1 (sk 10) 2 < 4001)) from exf4) (fun ty15 gf4 => ?_)
            have ri4 : 0 ≤ ivh4 (sk 10) 2 ∧ ivh4 (sk 10) 2 ≤ 4001 := W4.int ty15 2
            refine c_iconst C dX3_decode_52 ?_
            refine c_istore_n (lv2 := [(1, .int (iI 0)), (2, .int (iI aq)), (0, .ref a0)]) C dX3_decode_53 (by decide) rfl ?_
            refine c_aload_n (j := 2) (x := a0) C dX3_decode_54 rfl ?_
            refine c_iload_n (j := 1) C dX3_decode_55 rfl ?_
            refine hv2 (xl4.ty ty1) (Phi.le W4 sk2) (fun ty16 pl4 => ?_)
            refine d_callV (As := [.int (iI aq)]) (rest := []) C hM (C_decodeWord (a0 := a0) (i := aq) W4 sk2 ty16 (by omega) (by show 0 ≤ aq ∧ aq ≤ 40200; omega)) dX3_decode_56 kV_X3_123 rfl ty16 rfl rfl (by decide) ck_4 rfl (Nat.le_of_ble_eq_true rfl) ⟨(Nat.le_of_ble_eq_true rfl), (Nat.le_of_ble_eq_true rfl)⟩ hph pl4 (show 0 + 0 = 0 from rfl) (by decide) (fun rh5 Lh5 clh5 lnh5 ivh5 rvh5 h5 => ?_)
            obtain ⟨f5, rfl, xl5, fl5, W5, rgf5, exf5⟩ := h5
            refine hv9 (F3.call X2 fl5 rfl) (xl4.ty ty10) (xl4.ty ty11) (xl4.ty ty2) (xl4.ty ty12) (xl4.ty ty13) (xl4.ty ty14) (X2.trans xl5) (xl5.skl sk2) (fun F4 ty17 ty18 ty19 ty20 ty21 ty22 X3 sk3 => ?_)
            refine c_st (st2 := [.int (iI f5)]) rfl ?_
            have gf5 : f5 ≤ 40210 := exf5
            refine c_istore_n (lv2 := [(3, .int (iI f5)), (1, .int (iI 0)), (2, .int (iI aq)), (0, .ref a0)]) C dX3_decode_59 (by decide) rfl ?_
            refine c_iload_n (j := 0) C dX3_decode_60 rfl ?_
            refine c_iload_n (j := 2) C dX3_decode_61 rfl ?_
            refine c_icmp_gt (tgt := 67) C ⟨by omega, by omega⟩ ⟨by omega, by omega⟩ dX3_decode_62 (by decide) (fun c5 => ?_) (fun c5 => ?_)
            · refine c_iload_n (j := 0) C dX3_decode_67 rfl ?_
              refine c_istore_n (lv2 := [(2, .int (iI f5)), (3, .int (iI f5)), (1, .int (iI 0)), (0, .ref a0)]) C dX3_decode_68 (by decide) rfl ?_
              refine c_goto (tgt := 11) C dX3_decode_69 (by decide) ?_
              refine c_lv (lv2 := [(1, .int (iI 0)), (2, .int (iI f5)), (0, .ref a0)]) [2, 0, 3] rfl ?_
              exact ih1  0 f5 _ _ _ _ _ (by omega) X3 W5 F4  (by omega) (by omega)
            · refine c_iconst C dX3_decode_65 ?_
              have pl5 := Phi.le W5 sk3
              exact c_zret C dX3_decode_66 rfl (Or.inl rfl) (by decide) (rom0 hph pl5 (by decide)) ⟨0, rfl, X3, F4, W5, (Or.inl rfl), trivial⟩
        · refine c_iinc (z := aq) (j := 1) (lv2 := [(2, .int (iI (aq + 1))), (1, .int (iI fs)), (0, .ref a0)]) C dX3_decode_33 rfl (by decide) rfl ?_
          refine c_goto (tgt := 11) C dX3_decode_36 (by decide) ?_
          refine c_lv (lv2 := [(1, .int (iI fs)), (2, .int (iI (aq + 1))), (0, .ref a0)]) [1, 0, 2] rfl ?_
          exact ih1  fs (aq + 1) _ _ _ _ _ (by omega) Xb1 Wb1 Fb1  (by omega) (by omega)
  refine c_lv (lv2 := [(1, .int (iI 1)), (2, .int (iI 0)), (0, .ref a0)]) [1, 0, 2] rfl ?_
  exact Lp1 40213 1 0 _ _ _ _ _ (by omega) hX0 W1 F1  (by omega) (by omega)
