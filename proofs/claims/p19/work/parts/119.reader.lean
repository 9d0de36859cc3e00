section
set_option maxHeartbeats 4000000 in
set_option maxRecDepth 100000 in
theorem C_rowsOf {l : Launch} {G : GT} {mi : Nat} {sk : Nat → Nat} {L : List Nat} {cl ln : Nat → Nat} {iv : Nat → Nat → Int} {rv : Nat → Nat → Option Nat}  {a0 : Nat} {g : Int} (hW : WT (g0 G) sk L cl ln iv rv) (hS : SKL sk L cl) (t_a0 : ty L cl a0 16) (h_g : -2147483648 ≤ g ∧ g ≤ 2147483647)  : Mc l G mi (Phi (g0 G) sk) PHM yX3_rowsOf cX3_rowsOf 2 (some (.object "java/util/ArrayList")) 0 [.ref a0, .int (iI g)] L cl ln iv rv 0 (fun v L2 cl2 ln2 iv2 rv2 => ∃ f : Nat, v = some (.ref f) ∧ L = L2 ∧ cl = cl2 ∧ ln = ln2 ∧ iv = iv2 ∧ rv = rv2 ∧ True ∧ ((g = 0 ∧ f = sk 24) ∨ (g ≠ 0 ∧ f = sk 25))) := by
  refine Mc.mk (by decide) (Nat.le_of_ble_eq_true rfl) ?_
  intro p e s m args below meth c A C hM
  refine hv10 (Phi.le hW hS) (show ty L cl (sk 6) 6 from ⟨(hS 6 rfl).1, by rw [(hS 6 rfl).2]; rfl⟩) (show ty L cl (sk 7) 7 from ⟨(hS 7 rfl).1, by rw [(hS 7 rfl).2]; rfl⟩) (show ty L cl (sk 8) 8 from ⟨(hS 8 rfl).1, by rw [(hS 8 rfl).2]; rfl⟩) (show ty L cl (sk 9) 9 from ⟨(hS 9 rfl).1, by rw [(hS 9 rfl).2]; rfl⟩) (show ty L cl (sk 10) 10 from ⟨(hS 10 rfl).1, by rw [(hS 10 rfl).2]; rfl⟩) (show ty L cl (sk 24) 24 from ⟨(hS 24 rfl).1, by rw [(hS 24 rfl).2]; rfl⟩) (show ty L cl (sk 25) 25 from ⟨(hS 25 rfl).1, by rw [(hS 25 rfl).2]; rfl⟩) (show XT L cl ln L cl ln from XT.refl) (show fT [] L cl iv rv iv rv from fT.refl) (fun hph tsk6 tsk7 tsk8 tsk9 tsk10 tsk24 tsk25 hX0 hF0 => ?_)
  refine c_iload_n (j := 1) C dX3_rowsOf_0 rfl ?_
  refine c_if_eq (tgt := 11) C ⟨by omega, by omega⟩ dX3_rowsOf_1 (by decide) (fun c1 => ?_) (fun c1 => ?_)
  · refine c_aload_n (j := 0) (x := a0) C dX3_rowsOf_11 rfl ?_
    obtain ⟨rb1, rq1, trb1⟩ := hW.ref t_a0 0 rfl rfl rfl
    have erb1 := hW.sk trb1 (by decide) rfl
    subst erb1
    refine c_getr (k := 0) C ck_4 dX3_rowsOf_12 w1_190 (by decide) t_a0 rfl rfl (by decide) rfl rq1 ?_
    refine c_st (st2 := [.ref (sk 24)]) rfl ?_
    exact c_aret (x := some (sk 24)) C dX3_rowsOf_15 rfl (Or.inl ⟨_, rfl⟩) (by decide) (rom0 hph hph (by decide)) ⟨(sk 24), rfl, rfl, rfl, rfl, rfl, rfl, trivial, (Or.inl ⟨by omega, rfl⟩)⟩
  · refine c_aload_n (j := 0) (x := a0) C dX3_rowsOf_4 rfl ?_
    obtain ⟨rb2, rq2, trb2⟩ := hW.ref t_a0 1 rfl rfl rfl
    have erb2 := hW.sk trb2 (by decide) rfl
    subst erb2
    refine c_getr (k := 1) C ck_4 dX3_rowsOf_5 w1_193 (by decide) t_a0 rfl rfl (by decide) rfl rq2 ?_
    refine c_st (st2 := [.ref (sk 25)]) rfl ?_
    refine c_goto (tgt := 15) C dX3_rowsOf_8 (by decide) ?_
    exact c_aret (x := some (sk 25)) C dX3_rowsOf_15 rfl (Or.inl ⟨_, rfl⟩) (by decide) (rom0 hph hph (by decide)) ⟨(sk 25), rfl, rfl, rfl, rfl, rfl, rfl, trivial, (Or.inr ⟨by omega, rfl⟩)⟩
set_option maxHeartbeats 4000000 in
set_option maxRecDepth 100000 in
theorem C_addInd_24 {l : Launch} {G : GT} {mi : Nat} {sk : Nat → Nat} {L : List Nat} {cl ln : Nat → Nat} {iv : Nat → Nat → Int} {rv : Nat → Nat → Option Nat}  {a0 : Nat} {r : Option Nat} (hW : WT (g0 G) sk L cl ln iv rv) (hS : SKL sk L cl) (t_a0 : ty L cl a0 24) (t_r : ∀ b, r = some b → ty L cl b 20) (hn : iv a0 2 < 6003) : Mc l G mi (Phi (g0 G) sk) PHM yX3_addIndicator cX3_addIndicator 2 none 7 [.ref a0, va_rf r] L cl ln iv rv 0 (fun v L2 cl2 ln2 iv2 rv2 => v = none ∧ XT L cl ln L2 cl2 ln2 ∧ fT [24, 1002] L cl iv rv iv2 rv2 ∧ WT (g0 G) sk L2 cl2 ln2 iv2 rv2 ∧ (iv a0 2 ≤ iv2 a0 2 ∧ iv2 a0 2 ≤ iv a0 2 + 1)) := by
  refine Mc.mk (by decide) (by cases r <;> exact Nat.le_of_ble_eq_true rfl) ?_
  intro p e s m args below meth c A C hM
  have hph := Phi.le hW hS
  refine c_lveq (show lv_args 0 [.ref a0, va_rf r] = [(0, .ref a0), (1, (va_rf r))] from by cases r <;> rfl) ?_
  refine hv3 (show 0 ≤ iv a0 2 from (hW.int t_a0 2).1) (show XT L cl ln L cl ln from XT.refl) (show fT [24, 1002] L cl iv rv iv rv from fT.refl) (fun hb0 hX0 hF0 => ?_)
  refine c_aloadr_n (j := 1) (r := r) C dX3_addIndicator_0 rfl ?_
  refine c_ifnull (r := r) (tgt := 10) C dX3_addIndicator_1 (by decide) (fun oq1 => ?_) (fun ob1 oq1 => ?_)
  · subst oq1
    refine c_lv (lv2 := [(0, .ref a0), (1, .null)]) [0, 1] rfl ?_
    refine c_st (st2 := []) rfl ?_
    have ri1 : 0 ≤ iv a0 2 ∧ iv a0 2 ≤ 6003 := hW.int t_a0 2
    exact c_vret C dX3_addIndicator_10 rfl (by decide) (rom0 hph hph (by decide)) ⟨rfl, hX0, hF0, hW, (by omega)⟩
  · subst oq1
    have tob1 := t_r ob1 rfl
    refine c_lv (lv2 := [(0, .ref a0), (1, .ref ob1)]) [0, 1] rfl ?_
    refine c_st (st2 := []) rfl ?_
    refine c_aload_n (j := 0) (x := a0) C dX3_addIndicator_4 rfl ?_
    refine c_aload_n (j := 1) (x := ob1) C dX3_addIndicator_5 rfl ?_
    have ri2 : 0 ≤ iv a0 2 ∧ iv a0 2 ≤ 6003 := hW.int t_a0 2
    refine d_callV (As := [.ref ob1]) (rest := []) C hM (C_add_24 (a0 := a0) (x := ob1) hW hS t_a0 tob1  (by show iv a0 2 < 6003; omega)) dX3_addIndicator_6 kV_X3_97 rfl t_a0 rfl rfl (by decide) ck_0 rfl (Nat.le_of_ble_eq_true rfl) ⟨(Nat.le_of_ble_eq_true rfl), (Nat.le_of_ble_eq_true rfl)⟩ hph hph (show 0 + 0 = 0 from rfl) (by decide) (fun rh1 Lh1 clh1 lnh1 ivh1 rvh1 h1 => ?_)
    obtain ⟨f1, rfl, xl1, fl1, W1, rgf1, exf1⟩ := h1
    refine hv3 (hF0.call hX0 fl1 rfl) (hX0.trans xl1) (xl1.skl hS) (fun F1 X1 sk1 => ?_)
    refine c_st (st2 := [.int (iI f1)]) rfl ?_
    refine hv2 (xl1.ty t_a0) (show ivh1 a0 2 = iv a0 2 + 1 ∧ el rvh1 a0 (iv a0 2).toNat = some ob1 ∧ ∀ i : Nat, (i : Int) < iv a0 2 → el rvh1 a0 i = el rv a0 i from exf1) (fun ty1 gf1 => ?_)
    have ri3 : 0 ≤ ivh1 a0 2 ∧ ivh1 a0 2 ≤ 6003 := W1.int ty1 2
    refine c_pop C dX3_addIndicator_9 rfl ?_
    have pl1 := Phi.le W1 sk1
    exact c_vret C dX3_addIndicator_10 rfl (by decide) (rom0 hph pl1 (by decide)) ⟨rfl, X1, F1, W1, (by omega)⟩
set_option maxHeartbeats 4000000 in
set_option maxRecDepth 100000 in
theorem C_markBegins_24 {l : Launch} {G : GT} {mi : Nat} {sk : Nat → Nat} {L : List Nat} {cl ln : Nat → Nat} {iv : Nat → Nat → Int} {rv : Nat → Nat → Option Nat}  {a0 : Nat} {a1 : Nat} (hW : WT (g0 G) sk L cl ln iv rv) (hS : SKL sk L cl) (t_a0 : ty L cl a0 24) (t_a1 : ty L cl a1 6)  : Mc l G mi (Phi (g0 G) sk) PHM yX3_markBegins cX3_markBegins 5 none 3 [.ref a0, .ref a1] L cl ln iv rv 0 (fun v L2 cl2 ln2 iv2 rv2 => v = none ∧ XT L cl ln L2 cl2 ln2 ∧ fT [6, 36] L cl iv rv iv2 rv2 ∧ WT (g0 G) sk L2 cl2 ln2 iv2 rv2 ∧ (True)) := by
  refine Mc.mk (by decide) (Nat.le_of_ble_eq_true rfl) ?_
  intro p e s m args below meth c A C hM
  refine hv3 (Phi.le hW hS) (show XT L cl ln L cl ln from XT.refl) (show fT [6, 36] L cl iv rv iv rv from fT.refl) (fun hph hX0 hF0 => ?_)
  refine c_aload_n (j := 1) (x := a1) C dX3_markBegins_0 rfl ?_
  refine d_callV (As := []) (rest := []) C hM (C_clear_6 (a0 := a1) hW hS t_a1  ) dX3_markBegins_1 kV_X3_77 rfl t_a1 rfl rfl (by decide) ck_2 rfl (Nat.le_of_ble_eq_true rfl) ⟨(Nat.le_of_ble_eq_true rfl), (Nat.le_of_ble_eq_true rfl)⟩ hph hph (show 0 + 0 = 0 from rfl) (by decide) (fun rh1 Lh1 clh1 lnh1 ivh1 rvh1 h1 => ?_)
  obtain ⟨rfl, rfl, rfl, rfl, rfl, fl1, W1, exf1⟩ := h1
  have F1 := hF0.call hX0 fl1 rfl
  refine c_st (st2 := []) rfl ?_
  refine hv2 (show 0 ≤ ivh1 a1 2 ∧ ivh1 a1 2 ≤ 6003 from W1.int t_a1 2) (show ivh1 a1 2 = 0 from exf1) (fun ri1 gf1 => ?_)
  refine c_aload_n (j := 0) (x := a0) C dX3_markBegins_4 rfl ?_
  refine hv2 (show 0 ≤ ivh1 a0 2 ∧ ivh1 a0 2 ≤ 6003 from W1.int t_a0 2) (show ivh1 a0 2 = iv a0 2 from fl1.i t_a0 rfl 2) (fun ri2 ie2 => ?_)
  refine d_callV (As := []) (rest := []) C hM (C_size_24 (a0 := a0) W1 hS t_a0  ) dX3_markBegins_5 kV_X3_78 rfl t_a0 rfl rfl (by decide) ck_0 rfl (Nat.le_of_ble_eq_true rfl) ⟨(Nat.le_of_ble_eq_true rfl), (Nat.le_of_ble_eq_true rfl)⟩ hph hph (show 0 + 0 = 0 from rfl) (by decide) (fun rh2 Lh2 clh2 lnh2 ivh2 rvh2 h2 => ?_)
  obtain ⟨f2, rfl, rfl, rfl, rfl, rfl, rfl, rgf2, exf2⟩ := h2
  refine c_st (st2 := [.int (iI f2)]) rfl ?_
  have gf2 : f2 = ivh1 a0 2 := exf2
  refine c_istore_n (lv2 := [(2, .int (iI f2)), (0, .ref a0), (1, .ref a1)]) C dX3_markBegins_8 (by decide) rfl ?_
  refine c_iconst C dX3_markBegins_9 ?_
  refine c_istore_n (lv2 := [(3, .int (iI 0)), (2, .int (iI f2)), (0, .ref a0), (1, .ref a1)]) C dX3_markBegins_10 (by decide) rfl ?_
  have Lp1 : ∀ (nn : Nat) (k : Int) (Lb1 : List Nat) (clb1 lnb1 : Nat → Nat) (ivb1 : Nat → Nat → Int) (rvb1 : Nat → Nat → Option Nat) , 6004 - k < (nn : Int) → XT L cl ln Lb1 clb1 lnb1 → WT (g0 G) sk Lb1 clb1 lnb1 ivb1 rvb1 → fT [6, 36] L cl iv rv ivb1 rvb1 → (0 ≤ k ∧ k ≤ 6003) → cw p l e 3 ((PHM) + 0 - ((Phi (g0 G) sk) ln rv)) s m args below meth c G A 5 (MQ below (Qu G A (Qp G (Phi (g0 G) sk) ((Phi (g0 G) sk) ln rv) 0 (fun v L2 cl2 ln2 iv2 rv2 => v = none ∧ XT L cl ln L2 cl2 ln2 ∧ fT [6, 36] L cl iv rv iv2 rv2 ∧ WT (g0 G) sk L2 cl2 ln2 iv2 rv2 ∧ (True)))) args s (((PHM) + 0 - ((Phi (g0 G) sk) ln rv)) / 16) ((PHM) + 0 - ((Phi (g0 G) sk) ln rv)) A) (Phi (g0 G) sk) ((Phi (g0 G) sk) ln rv) Lb1 clb1 lnb1 ivb1 rvb1 0 11 [(3, .int (iI k)), (2, .int (iI f2)), (0, .ref a0), (1, .ref a1)] [] := by
    intro nn
    induction nn with
    | zero =>
      intro  k Lb1 clb1 lnb1 ivb1 rvb1 hm Xb1 Wb1 Fb1  hk
      have skb1 := Xb1.skl hS
      exact absurd hm (by omega)
    | succ nn ih1 =>
      intro  k Lb1 clb1 lnb1 ivb1 rvb1 hm Xb1 Wb1 Fb1  hk
      have skb1 := Xb1.skl hS
      refine c_iload_n (j := 0) C dX3_markBegins_11 rfl ?_
      refine c_iload_n (j := 1) C dX3_markBegins_12 rfl ?_
      refine c_icmp_ge (tgt := 56) C (r32_c (lo := 0) (hi := 6003) hk.1 hk.2 (by decide) (by decide)) ⟨by omega, by omega⟩ dX3_markBegins_13 (by decide) (fun c1 => ?_) (fun c1 => ?_)
      · have pl1 := Phi.le Wb1 skb1
        exact c_vret C dX3_markBegins_56 rfl (by decide) (rom0 hph pl1 (by decide)) ⟨rfl, Xb1, Fb1, Wb1, trivial⟩
      · refine c_aload_n (j := 2) (x := a0) C dX3_markBegins_16 rfl ?_
        refine c_iload_n (j := 0) C dX3_markBegins_17 rfl ?_
        refine hv3 (Xb1.ty t_a0) (show ivb1 a0 2 = iv a0 2 from Fb1.i t_a0 rfl 2) (Phi.le Wb1 skb1) (fun ty1 ie3 pl2 => ?_)
        have ri3 : 0 ≤ ivb1 a0 2 ∧ ivb1 a0 2 ≤ 6003 := Wb1.int ty1 2
        refine d_callV (As := [.int (iI k)]) (rest := []) C hM (C_get_24 (a0 := a0) (i := k) Wb1 skb1 ty1 (by omega) (by show 0 ≤ k ∧ k < ivb1 a0 2; omega)) dX3_markBegins_18 kV_X3_82 rfl ty1 rfl rfl (by decide) ck_0 rfl (Nat.le_of_ble_eq_true rfl) ⟨(Nat.le_of_ble_eq_true rfl), (Nat.le_of_ble_eq_true rfl)⟩ hph pl2 (show 0 + 0 = 0 from rfl) (by decide) (fun rh3 Lh3 clh3 lnh3 ivh3 rvh3 h3 => ?_)
        obtain ⟨f3, rfl, rfl, rfl, rfl, rfl, rfl, rgf3, exf3⟩ := h3
        refine c_st (st2 := [.ref f3]) rfl ?_
        have gf3 : el rvb1 a0 k.toNat = some f3 := exf3
        refine c_cast C ck_6 dX3_markBegins_21 w5_63 w8_169t rgf3 rfl rfl (by decide) ?_
        refine c_astore (lv2 := [(4, .ref f3), (3, .int (iI k)), (2, .int (iI f2)), (0, .ref a0), (1, .ref a1)]) C dX3_markBegins_24 (by decide) rfl ?_
        refine c_aload_n (j := 4) (x := a1) C dX3_markBegins_26 rfl ?_
        refine c_aload (j := 0) (x := f3) C dX3_markBegins_27 rfl ?_
        obtain ⟨rb1, rq1, trb1⟩ := Wb1.ref rgf3 2 rfl rfl rfl
        have lnrb1 : 1 ≤ lnb1 rb1 ∧ lnb1 rb1 ≤ 4 := Wb1.len trb1 rfl
        refine c_getr (k := 2) C ck_6 dX3_markBegins_29 w3_143 (by decide) rgf3 rfl rfl (by decide) rfl rq1 ?_
        refine c_st (st2 := [.ref rb1, .ref a1]) rfl ?_
        have ll1 : 1 ≤ lnb1 rb1 ∧ lnb1 rb1 ≤ 4 := Wb1.len trb1 rfl
        refine c_alenI C dX3_markBegins_32 trb1 rfl ?_
        refine c_if_le (tgt := 46) C ⟨by omega, by omega⟩ dX3_markBegins_33 (by decide) (fun c2 => ?_) (fun c2 => ?_)
        · refine c_iconst C dX3_markBegins_46 ?_
          have ty2 := Xb1.ty t_a1
          have ri4 : 0 ≤ ivb1 a1 2 ∧ ivb1 a1 2 ≤ 6003 := Wb1.int ty2 2
          refine d_callV (As := [.int (iI 0)]) (rest := []) C hM (C_add_6 (a0 := a1) (x := 0) Wb1 skb1 ty2 ⟨by decide, by decide⟩ ) dX3_markBegins_47 kV_X3_91 rfl ty2 rfl rfl (by decide) ck_2 rfl (Nat.le_of_ble_eq_true rfl) ⟨(Nat.le_of_ble_eq_true rfl), (Nat.le_of_ble_eq_true rfl)⟩ hph pl2 (show 0 + 0 = 0 from rfl) (by decide) (fun rh4 Lh4 clh4 lnh4 ivh4 rvh4 h4 => ?_)
          obtain ⟨rfl, xl4, fl4, W4, exf4⟩ := h4
          refine hv3 (Fb1.call Xb1 fl4 rfl) (Xb1.trans xl4) (xl4.skl skb1) (fun F2 X1 sk1 => ?_)
          refine c_st (st2 := []) rfl ?_
          refine hv2 (xl4.ty ty2) (show ((ivh4 a1 2 = ivb1 a1 2 ∧ ivb1 a1 2 = 6003) ∨ (ivh4 a1 2 = ivb1 a1 2 + 1 ∧ ivb1 a1 2 < 6003)) from exf4) (fun ty3 gf4 => ?_)
          have ri5 : 0 ≤ ivh4 a1 2 ∧ ivh4 a1 2 ≤ 6003 := W4.int ty3 2
          refine c_iinc (z := k) (j := 1) (lv2 := [(3, .int (iI (k + 1))), (4, .ref f3), (2, .int (iI f2)), (0, .ref a0), (1, .ref a1)]) C dX3_markBegins_50 rfl (by decide) rfl ?_
          refine c_goto (tgt := 11) C dX3_markBegins_53 (by decide) ?_
          refine c_lv (lv2 := [(3, .int (iI (k + 1))), (2, .int (iI f2)), (0, .ref a0), (1, .ref a1)]) [0, 2, 3, 4] rfl ?_
          exact ih1  (k + 1) _ _ _ _ _ (by omega) X1 W4 F2  (by omega)
        · refine c_aload (j := 0) (x := f3) C dX3_markBegins_36 rfl ?_
          refine c_getr (k := 2) C ck_6 dX3_markBegins_38 w3_143 (by decide) rgf3 rfl rfl (by decide) rfl rq1 ?_
          refine c_st (st2 := [.ref rb1, .ref a1]) rfl ?_
          refine c_iconst C dX3_markBegins_41 ?_
          refine c_iald C dX3_markBegins_42 trb1 rfl (by omega) (by omega) (by omega) ?_
          have ri6 : (-2147483648) ≤ ivb1 rb1 ((0 : Int).toNat) ∧ ivb1 rb1 ((0 : Int).toNat) ≤ 2147483647 := Wb1.int trb1 ((0 : Int).toNat)
          refine c_goto (tgt := 47) C dX3_markBegins_43 (by decide) ?_
          have ty4 := Xb1.ty t_a1
          have ri7 : 0 ≤ ivb1 a1 2 ∧ ivb1 a1 2 ≤ 6003 := Wb1.int ty4 2
          refine d_callV (As := [.int (iI (ivb1 rb1 (0 : Int).toNat))]) (rest := []) C hM (C_add_6 (a0 := a1) (x := ivb1 rb1 (0 : Int).toNat) Wb1 skb1 ty4 (by omega) ) dX3_markBegins_47 kV_X3_91 rfl ty4 rfl rfl (by decide) ck_2 rfl (Nat.le_of_ble_eq_true rfl) ⟨(Nat.le_of_ble_eq_true rfl), (Nat.le_of_ble_eq_true rfl)⟩ hph pl2 (show 0 + 0 = 0 from rfl) (by decide) (fun rh5 Lh5 clh5 lnh5 ivh5 rvh5 h5 => ?_)
          obtain ⟨rfl, xl5, fl5, W5, exf5⟩ := h5
          refine hv3 (Fb1.call Xb1 fl5 rfl) (Xb1.trans xl5) (xl5.skl skb1) (fun F3 X2 sk2 => ?_)
          refine c_st (st2 := []) rfl ?_
          refine hv2 (xl5.ty ty4) (show ((ivh5 a1 2 = ivb1 a1 2 ∧ ivb1 a1 2 = 6003) ∨ (ivh5 a1 2 = ivb1 a1 2 + 1 ∧ ivb1 a1 2 < 6003)) from exf5) (fun ty5 gf5 => ?_)
          have ri8 : 0 ≤ ivh5 a1 2 ∧ ivh5 a1 2 ≤ 6003 := W5.int ty5 2
          refine c_iinc (z := k) (j := 1) (lv2 := [(3, .int (iI (k + 1))), (4, .ref f3), (2, .int (iI f2)), (0, .ref a0), (1, .ref a1)]) C dX3_markBegins_50 rfl (by decide) rfl ?_
          refine c_goto (tgt := 11) C dX3_markBegins_53 (by decide) ?_
          refine c_lv (lv2 := [(3, .int (iI (k + 1))), (2, .int (iI f2)), (0, .ref a0), (1, .ref a1)]) [0, 2, 3, 4] rfl ?_
          exact ih1  (k + 1) _ _ _ _ _ (by omega) X2 W5 F3  (by omega)
  refine c_lv (lv2 := [(3, .int (iI 0)), (2, .int (iI f2)), (0, .ref a0), (1, .ref a1)]) [0, 1, 2, 3] rfl ?_
  exact Lp1 6006 0 _ _ _ _ _ (by omega) hX0 W1 F1  (by omega)
set_option maxHeartbeats 4000000 in
set_option maxRecDepth 100000 in
theorem C_gatherPart_24 {l : Launch} {G : GT} {mi : Nat} {sk : Nat → Nat} {L : List Nat} {cl ln : Nat → Nat} {iv : Nat → Nat → Int} {rv : Nat → Nat → Option Nat}  {a0 : Nat} {r : Option Nat} (hW : WT (g0 G) sk L cl ln iv rv) (hS : SKL sk L cl) (t_a0 : ty L cl a0 24) (t_r : ∀ b, r = some b → ty L cl b 100) (hn : iv a0 2 = 0) : Mc l G mi (Phi (g0 G) sk) PHM yX3_gatherPart cX3_gatherPart 4 none 8 [.ref a0, va_rf r] L cl ln iv rv 0 (fun v L2 cl2 ln2 iv2 rv2 => v = none ∧ XT L cl ln L2 cl2 ln2 ∧ fT [24, 1002] L cl iv rv iv2 rv2 ∧ WT (g0 G) sk L2 cl2 ln2 iv2 rv2 ∧ (iv2 a0 2 ≤ 6002)) := by
  refine Mc.mk (by decide) (by cases r <;> exact Nat.le_of_ble_eq_true rfl) ?_
  intro p e s m args below meth c A C hM
  have hph := Phi.le hW hS
  refine c_lveq (show lv_args 0 [.ref a0, va_rf r] = [(0, .ref a0), (1, (va_rf r))] from by cases r <;> rfl) ?_
  refine hv2 (show XT L cl ln L cl ln from XT.refl) (show fT [24, 1002] L cl iv rv iv rv from fT.refl) (fun hX0 hF0 => ?_)
  refine c_aloadr_n (j := 1) (r := r) C dX3_gatherPart_0 rfl ?_
  refine c_ifnonnull (r := r) (tgt := 5) C dX3_gatherPart_1 (by decide) (fun ob1 oq1 => ?_) (fun oq1 => ?_)
  · subst oq1
    have tob1 := t_r ob1 rfl
    refine c_lv (lv2 := [(0, .ref a0), (1, .ref ob1)]) [0, 1] rfl ?_
    refine c_st (st2 := []) rfl ?_
    refine c_aload_n (j := 1) (x := ob1) C dX3_gatherPart_5 rfl ?_
    refine c_astore_n (lv2 := [(2, .ref ob1), (0, .ref a0), (1, .ref ob1)]) C dX3_gatherPart_6 (by decide) rfl ?_
    have Lp1 : ∀ (nn : Nat) (tq : Option Nat) (rk : Int) (Lb1 : List Nat) (clb1 lnb1 : Nat → Nat) (ivb1 : Nat → Nat → Int) (rvb1 : Nat → Nat → Option Nat) , rk - 99 < (nn : Int) → XT L cl ln Lb1 clb1 lnb1 → WT (g0 G) sk Lb1 clb1 lnb1 ivb1 rvb1 → fT [24, 1002] L cl iv rv ivb1 rvb1 → (∀ b, tq = some b → ty Lb1 clb1 b 100) → (99 ≤ rk ∧ rk ≤ 129) → (ivb1 a0 2 ≤ 200 * (129 - rk)) → (∀ b, tq = some b → ((clb1 b : Nat) : Int) ≤ rk) → cw p l e 8 ((PHM) + 0 - ((Phi (g0 G) sk) ln rv)) s m args below meth c G A 4 (MQ below (Qu G A (Qp G (Phi (g0 G) sk) ((Phi (g0 G) sk) ln rv) 0 (fun v L2 cl2 ln2 iv2 rv2 => v = none ∧ XT L cl ln L2 cl2 ln2 ∧ fT [24, 1002] L cl iv rv iv2 rv2 ∧ WT (g0 G) sk L2 cl2 ln2 iv2 rv2 ∧ (iv2 a0 2 ≤ 6002)))) args s (((PHM) + 0 - ((Phi (g0 G) sk) ln rv)) / 16) ((PHM) + 0 - ((Phi (g0 G) sk) ln rv)) A) (Phi (g0 G) sk) ((Phi (g0 G) sk) ln rv) Lb1 clb1 lnb1 ivb1 rvb1 0 7 [(2, (va_rf tq)), (0, .ref a0), (1, .ref ob1)] [] := by
      intro nn
      induction nn with
      | zero =>
        intro tq rk Lb1 clb1 lnb1 ivb1 rvb1 hm Xb1 Wb1 Fb1 ty_tq h99 hsz hrk
        have skb1 := Xb1.skl hS
        exact absurd hm (by omega)
      | succ nn ih1 =>
        intro tq rk Lb1 clb1 lnb1 ivb1 rvb1 hm Xb1 Wb1 Fb1 ty_tq h99 hsz hrk
        have skb1 := Xb1.skl hS
        refine c_aloadr_n (j := 0) (r := tq) C dX3_gatherPart_7 rfl ?_
        refine c_ifnull (r := tq) (tgt := 54) C dX3_gatherPart_8 (by decide) (fun oq2 => ?_) (fun ob2 oq2 => ?_)
        · subst oq2
          refine c_lv (lv2 := [(2, .null), (0, .ref a0), (1, .ref ob1)]) [0, 1, 2] rfl ?_
          refine c_st (st2 := []) rfl ?_
          refine c_aload_n (j := 1) (x := a0) C dX3_gatherPart_54 rfl ?_
          refine c_aload_n (j := 2) (x := ob1) C dX3_gatherPart_55 rfl ?_
          have ty1 := Xb1.ty tob1
          obtain ⟨rb1, rq1, trb1⟩ := Wb1.ref ty1 6 rfl rfl rfl
          have lnrb1 : 4 ≤ lnb1 rb1 ∧ lnb1 rb1 ≤ 4 := Wb1.len trb1 rfl
          refine c_getr (k := 6) C ck_10 dX3_gatherPart_56 w2_193 (by decide) ty1 rfl rfl (by decide) rfl rq1 ?_
          refine c_st (st2 := [.ref rb1, .ref a0]) rfl ?_
          refine c_iconst C dX3_gatherPart_59 ?_
          have ll1 : 4 ≤ lnb1 rb1 ∧ lnb1 rb1 ≤ 4 := Wb1.len trb1 rfl
          rcases Wb1.opt trb1 ((0 : Int).toNat) rfl rfl with ⟨nq1, _⟩ | ⟨nb1, nq1, tnb1⟩
          · refine c_aaldR C dX3_gatherPart_60 trb1 rfl (by omega) (by omega) (by omega) nq1 ?_
            refine c_st (st2 := [.null, .ref a0]) rfl ?_
            refine hv2 (Xb1.ty t_a0) (Phi.le Wb1 skb1) (fun ty2 pl1 => ?_)
            have ri1 : 0 ≤ ivb1 a0 2 ∧ ivb1 a0 2 ≤ 6003 := Wb1.int ty2 2
            refine d_callS (As := [.ref a0, .null]) (rest := []) C hM (C_addInd_24 (a0 := a0) (r := none) Wb1 skb1 ty2 (fun _ q => by cases q)  (by show ivb1 a0 2 < 6003; omega)) dX3_gatherPart_61 kS_X3_67 rfl rfl (Nat.le_of_ble_eq_true rfl) ⟨(Nat.le_of_ble_eq_true rfl), (Nat.le_of_ble_eq_true rfl)⟩ hph pl1 (show 0 + 0 = 0 from rfl) (by decide) (fun rh1 Lh1 clh1 lnh1 ivh1 rvh1 h1 => ?_)
            obtain ⟨rfl, xl1, fl1, W1, exf1⟩ := h1
            refine hv3 (Fb1.call Xb1 fl1 rfl) (Xb1.trans xl1) (xl1.skl skb1) (fun F1 X1 sk1 => ?_)
            refine c_st (st2 := []) rfl ?_
            refine hv2 (xl1.ty ty2) (show ivb1 a0 2 ≤ ivh1 a0 2 ∧ ivh1 a0 2 ≤ ivb1 a0 2 + 1 from exf1) (fun ty3 gf1 => ?_)
            have ri2 : 0 ≤ ivh1 a0 2 ∧ ivh1 a0 2 ≤ 6003 := W1.int ty3 2
            refine c_aload_n (j := 1) (x := a0) C dX3_gatherPart_64 rfl ?_
            refine c_aload_n (j := 2) (x := ob1) C dX3_gatherPart_65 rfl ?_
            refine hv2 (xl1.ty ty1) (show rvh1 ob1 6 = rvb1 ob1 6 from (fl1.r ty1 rfl 6)) (fun ty4 re1 => ?_)
            rw [rq1] at re1
            refine c_getr (k := 6) C ck_10 dX3_gatherPart_66 w2_193 (by decide) ty4 rfl rfl (by decide) rfl re1 ?_
            refine c_st (st2 := [.ref rb1, .ref a0]) rfl ?_
            refine c_iconst C dX3_gatherPart_69 ?_
            have ty5 := xl1.ty trb1
            have ll2 : 4 ≤ lnh1 rb1 ∧ lnh1 rb1 ≤ 4 := W1.len ty5 rfl
            rcases W1.opt ty5 ((1 : Int).toNat) rfl rfl with ⟨nq2, _⟩ | ⟨nb2, nq2, tnb2⟩
            · refine c_aaldR C dX3_gatherPart_70 ty5 rfl (by omega) (by omega) (by omega) nq2 ?_
              refine c_st (st2 := [.null, .ref a0]) rfl ?_
              have pl2 := Phi.le W1 sk1
              refine d_callS (As := [.ref a0, .null]) (rest := []) C hM (C_addInd_24 (a0 := a0) (r := none) W1 sk1 ty3 (fun _ q => by cases q)  (by show ivh1 a0 2 < 6003; omega)) dX3_gatherPart_71 kS_X3_67 rfl rfl (Nat.le_of_ble_eq_true rfl) ⟨(Nat.le_of_ble_eq_true rfl), (Nat.le_of_ble_eq_true rfl)⟩ hph pl2 (show 0 + 0 = 0 from rfl) (by decide) (fun rh2 Lh2 clh2 lnh2 ivh2 rvh2 h2 => ?_)
              obtain ⟨rfl, xl2, fl2, W2, exf2⟩ := h2
              refine hv3 (F1.call X1 fl2 rfl) (X1.trans xl2) (xl2.skl sk1) (fun F2 X2 sk2 => ?_)
              refine c_st (st2 := []) rfl ?_
              refine hv3 (xl2.ty ty3) (show ivh1 a0 2 ≤ ivh2 a0 2 ∧ ivh2 a0 2 ≤ ivh1 a0 2 + 1 from exf2) (Phi.le W2 sk2) (fun ty6 gf2 pl3 => ?_)
              have ri3 : 0 ≤ ivh2 a0 2 ∧ ivh2 a0 2 ≤ 6003 := W2.int ty6 2
              exact c_vret C dX3_gatherPart_74 rfl (by decide) (rom0 hph pl3 (by decide)) ⟨rfl, X2, F2, W2, (by omega)⟩
            · have tnb2 : ty Lh1 clh1 nb2 20 := tnb2
              refine c_aaldR C dX3_gatherPart_70 ty5 rfl (by omega) (by omega) (by omega) nq2 ?_
              refine c_st (st2 := [.ref nb2, .ref a0]) rfl ?_
              have pl4 := Phi.le W1 sk1
              refine d_callS (As := [.ref a0, .ref nb2]) (rest := []) C hM (C_addInd_24 (a0 := a0) (r := (some nb2)) W1 sk1 ty3 (fun _ q => by cases q; exact tnb2)  (by show ivh1 a0 2 < 6003; omega)) dX3_gatherPart_71 kS_X3_67 rfl rfl (Nat.le_of_ble_eq_true rfl) ⟨(Nat.le_of_ble_eq_true rfl), (Nat.le_of_ble_eq_true rfl)⟩ hph pl4 (show 0 + 0 = 0 from rfl) (by decide) (fun rh3 Lh3 clh3 lnh3 ivh3 rvh3 h3 => ?_)
              obtain ⟨rfl, xl3, fl3, W3, exf3⟩ := h3
              refine hv3 (F1.call X1 fl3 rfl) (X1.trans xl3) (xl3.skl sk1) (fun F3 X3 sk3 => ?_)
              refine c_st (st2 := []) rfl ?_
              refine hv3 (xl3.ty ty3) (show ivh1 a0 2 ≤ ivh3 a0 2 ∧ ivh3 a0 2 ≤ ivh1 a0 2 + 1 from exf3) (Phi.le W3 sk3) (fun ty7 gf3 pl5 => ?_)
              have ri4 : 0 ≤ ivh3 a0 2 ∧ ivh3 a0 2 ≤ 6003 := W3.int ty7 2
              exact c_vret C dX3_gatherPart_74 rfl (by decide) (rom0 hph pl5 (by decide)) ⟨rfl, X3, F3, W3, (by omega)⟩
          · have tnb1 : ty Lb1 clb1 nb1 20 := tnb1
            refine c_aaldR C dX3_gatherPart_60 trb1 rfl (by omega) (by omega) (by omega) nq1 ?_
            refine c_st (st2 := [.ref nb1, .ref a0]) rfl ?_
            refine hv2 (Xb1.ty t_a0) (Phi.le Wb1 skb1) (fun ty8 pl6 => ?_)
            have ri5 : 0 ≤ ivb1 a0 2 ∧ ivb1 a0 2 ≤ 6003 := Wb1.int ty8 2
            refine d_callS (As := [.ref a0, .ref nb1]) (rest := []) C hM (C_addInd_24 (a0 := a0) (r := (some nb1)) Wb1 skb1 ty8 (fun _ q => by cases q; exact tnb1)  (by show ivb1 a0 2 < 6003; omega)) dX3_gatherPart_61 kS_X3_67 rfl rfl (Nat.le_of_ble_eq_true rfl) ⟨(Nat.le_of_ble_eq_true rfl), (Nat.le_of_ble_eq_true rfl)⟩ hph pl6 (show 0 + 0 = 0 from rfl) (by decide) (fun rh4 Lh4 clh4 lnh4 ivh4 rvh4 h4 => ?_)
            obtain ⟨rfl, xl4, fl4, W4, exf4⟩ := h4
            refine hv3 (Fb1.call Xb1 fl4 rfl) (Xb1.trans xl4) (xl4.skl skb1) (fun F4 X4 sk4 => ?_)
            refine c_st (st2 := []) rfl ?_
            refine hv2 (xl4.ty ty8) (show ivb1 a0 2 ≤ ivh4 a0 2 ∧ ivh4 a0 2 ≤ ivb1 a0 2 + 1 from exf4) (fun ty9 gf4 => ?_)
            have ri6 : 0 ≤ ivh4 a0 2 ∧ ivh4 a0 2 ≤ 6003 := W4.int ty9 2
            refine c_aload_n (j := 1) (x := a0) C dX3_gatherPart_64 rfl ?_
            refine c_aload_n (j := 2) (x := ob1) C dX3_gatherPart_65 rfl ?_
            refine hv2 (xl4.ty ty1) (show rvh4 ob1 6 = rvb1 ob1 6 from (fl4.r ty1 rfl 6)) (fun ty10 re2 => ?_)
            rw [rq1] at re2
            refine c_getr (k := 6) C ck_10 dX3_gatherPart_66 w2_193 (by decide) ty10 rfl rfl (by decide) rfl re2 ?_
            refine c_st (st2 := [.ref rb1, .ref a0]) rfl ?_
            refine c_iconst C dX3_gatherPart_69 ?_
            have ty11 := xl4.ty trb1
            have ll3 : 4 ≤ lnh4 rb1 ∧ lnh4 rb1 ≤ 4 := W4.len ty11 rfl
            rcases W4.opt ty11 ((1 : Int).toNat) rfl rfl with ⟨nq3, _⟩ | ⟨nb3, nq3, tnb3⟩
            · refine c_aaldR C dX3_gatherPart_70 ty11 rfl (by omega) (by omega) (by omega) nq3 ?_
              refine c_st (st2 := [.null, .ref a0]) rfl ?_
              have pl7 := Phi.le W4 sk4
              refine d_callS (As := [.ref a0, .null]) (rest := []) C hM (C_addInd_24 (a0 := a0) (r := none) W4 sk4 ty9 (fun _ q => by cases q)  (by show ivh4 a0 2 < 6003; omega)) dX3_gatherPart_71 kS_X3_67 rfl rfl (Nat.le_of_ble_eq_true rfl) ⟨(Nat.le_of_ble_eq_true rfl), (Nat.le_of_ble_eq_true rfl)⟩ hph pl7 (show 0 + 0 = 0 from rfl) (by decide) (fun rh5 Lh5 clh5 lnh5 ivh5 rvh5 h5 => ?_)
              obtain ⟨rfl, xl5, fl5, W5, exf5⟩ := h5
              refine hv4 (F4.call X4 fl5 rfl) (xl4.ty tnb1) (X4.trans xl5) (xl5.skl sk4) (fun F5 ty12 X5 sk5 => ?_)
              refine c_st (st2 := []) rfl ?_
              refine hv3 (xl5.ty ty9) (show ivh4 a0 2 ≤ ivh5 a0 2 ∧ ivh5 a0 2 ≤ ivh4 a0 2 + 1 from exf5) (Phi.le W5 sk5) (fun ty13 gf5 pl8 => ?_)
              have ri7 : 0 ≤ ivh5 a0 2 ∧ ivh5 a0 2 ≤ 6003 := W5.int ty13 2
              exact c_vret C dX3_gatherPart_74 rfl (by decide) (rom0 hph pl8 (by decide)) ⟨rfl, X5, F5, W5, (by omega)⟩
            · have tnb3 : ty Lh4 clh4 nb3 20 := tnb3
              refine c_aaldR C dX3_gatherPart_70 ty11 rfl (by omega) (by omega) (by omega) nq3 ?_
              refine c_st (st2 := [.ref nb3, .ref a0]) rfl ?_
              have pl9 := Phi.le W4 sk4
              refine d_callS (As := [.ref a0, .ref nb3]) (rest := []) C hM (C_addInd_24 (a0 := a0) (r := (some nb3)) W4 sk4 ty9 (fun _ q => by cases q; exact tnb3)  (by show ivh4 a0 2 < 6003; omega)) dX3_gatherPart_71 kS_X3_67 rfl rfl (Nat.le_of_ble_eq_true rfl) ⟨(Nat.le_of_ble_eq_true rfl), (Nat.le_of_ble_eq_true rfl)⟩ hph pl9 (show 0 + 0 = 0 from rfl) (by decide) (fun rh6 Lh6 clh6 lnh6 ivh6 rvh6 h6 => ?_)
              obtain ⟨rfl, xl6, fl6, W6, exf6⟩ := h6
              refine hv4 (F4.call X4 fl6 rfl) (xl4.ty tnb1) (X4.trans xl6) (xl6.skl sk4) (fun F6 ty14 X6 sk6 => ?_)
              refine c_st (st2 := []) rfl ?_
              refine hv3 (xl6.ty ty9) (show ivh4 a0 2 ≤ ivh6 a0 2 ∧ ivh6 a0 2 ≤ ivh4 a0 2 + 1 from exf6) (Phi.le W6 sk6) (fun ty15 gf6 pl10 => ?_)
              have ri8 : 0 ≤ ivh6 a0 2 ∧ ivh6 a0 2 ≤ 6003 := W6.int ty15 2
              exact c_vret C dX3_gatherPart_74 rfl (by decide) (rom0 hph pl10 (by decide)) ⟨rfl, X6, F6, W6, (by omega)⟩
        · subst oq2
          refine hv2 (ty_tq ob2 rfl) (hrk ob2 rfl) (fun tob2 hkob2 => ?_)
          have tgob2 := bt_100 tob2.2
          refine c_lv (lv2 := [(2, .ref ob2), (0, .ref a0), (1, .ref ob1)]) [0, 1, 2] rfl ?_
          refine c_st (st2 := []) rfl ?_
          refine c_iconst C dX3_gatherPart_11 ?_
          refine c_istore_n (lv2 := [(3, .int (iI 0)), (2, .ref ob2), (0, .ref a0), (1, .ref ob1)]) C dX3_gatherPart_12 (by decide) rfl ?_
          have Lp2 : ∀ (nn : Nat) (tr : Nat) (k : Int) (Lb2 : List Nat) (clb2 lnb2 : Nat → Nat) (ivb2 : Nat → Nat → Int) (rvb2 : Nat → Nat → Option Nat) , 201 - k < (nn : Int) → XT L cl ln Lb2 clb2 lnb2 → WT (g0 G) sk Lb2 clb2 lnb2 ivb2 rvb2 → fT [24, 1002] L cl iv rv ivb2 rvb2 → (ty Lb2 clb2 tr 100) → (0 ≤ k ∧ k ≤ 200) → (ivb2 a0 2 ≤ 200 * (129 - rk) + k) → (100 ≤ clb2 tr ∧ ((clb2 tr : Nat) : Int) ≤ rk) → cw p l e 8 ((PHM) + 0 - ((Phi (g0 G) sk) ln rv)) s m args below meth c G A 4 (MQ below (Qu G A (Qp G (Phi (g0 G) sk) ((Phi (g0 G) sk) ln rv) 0 (fun v L2 cl2 ln2 iv2 rv2 => v = none ∧ XT L cl ln L2 cl2 ln2 ∧ fT [24, 1002] L cl iv rv iv2 rv2 ∧ WT (g0 G) sk L2 cl2 ln2 iv2 rv2 ∧ (iv2 a0 2 ≤ 6002)))) args s (((PHM) + 0 - ((Phi (g0 G) sk) ln rv)) / 16) ((PHM) + 0 - ((Phi (g0 G) sk) ln rv)) A) (Phi (g0 G) sk) ((Phi (g0 G) sk) ln rv) Lb2 clb2 lnb2 ivb2 rvb2 0 13 [(2, .ref tr), (3, .int (iI k)), (0, .ref a0), (1, .ref ob1)] [] := by
            intro nn
            induction nn with
            | zero =>
              intro tr k Lb2 clb2 lnb2 ivb2 rvb2 hm Xb2 Wb2 Fb2 ty_tr hk hs2 hcr
              have skb2 := Xb2.skl hS
              exact absurd hm (by omega)
            | succ nn ih2 =>
              intro tr k Lb2 clb2 lnb2 ivb2 rvb2 hm Xb2 Wb2 Fb2 ty_tr hk hs2 hcr
              have skb2 := Xb2.skl hS
              refine c_iload_n (j := 1) C dX3_gatherPart_13 rfl ?_
              refine c_aload_n (j := 0) (x := tr) C dX3_gatherPart_14 rfl ?_
              obtain ⟨rb2, rq2, trb2⟩ := Wb2.ref ty_tr 4 rfl rfl rfl
              refine c_getr (k := 4) C ck_10 dX3_gatherPart_15 w2_187 (by decide) ty_tr rfl rfl (by decide) rfl rq2 ?_
              refine c_st (st2 := [.ref rb2, .int (iI k)]) rfl ?_
              refine hv2 (show 0 ≤ ivb2 rb2 2 ∧ ivb2 rb2 2 ≤ 200 from Wb2.int trb2 2) (Phi.le Wb2 skb2) (fun ri9 pl11 => ?_)
              refine d_callV (As := []) (rest := [.int (iI k)]) C hM (C_size_26 (a0 := rb2) Wb2 skb2 trb2  ) dX3_gatherPart_18 kV_X3_78 rfl trb2 rfl rfl (by decide) ck_0 rfl (Nat.le_of_ble_eq_true rfl) ⟨(Nat.le_of_ble_eq_true rfl), (Nat.le_of_ble_eq_true rfl)⟩ hph pl11 (show 0 + 0 = 0 from rfl) (by decide) (fun rh7 Lh7 clh7 lnh7 ivh7 rvh7 h7 => ?_)
              obtain ⟨f7, rfl, rfl, rfl, rfl, rfl, rfl, rgf7, exf7⟩ := h7
              refine c_st (st2 := [.int (iI f7), .int (iI k)]) rfl ?_
              have gf7 : f7 = ivb2 rb2 2 := exf7
              refine c_icmp_ge (tgt := 46) C (r32_c (lo := 0) (hi := 200) hk.1 hk.2 (by decide) (by decide)) ⟨by omega, by omega⟩ dX3_gatherPart_21 (by decide) (fun c1 => ?_) (fun c1 => ?_)
              · refine c_aload_n (j := 0) (x := tr) C dX3_gatherPart_46 rfl ?_
                rcases Wb2.opt ty_tr 2 rfl rfl with ⟨nq4, _⟩ | ⟨nb4, nq4, tnb4⟩
                · refine c_getr (k := 2) C ck_10 dX3_gatherPart_47 w2_181 (by decide) ty_tr rfl rfl (by decide) rfl nq4 ?_
                  refine c_st (st2 := [.null]) rfl ?_
                  refine c_astorer_n (r := none) (lv2 := [(2, .null), (3, .int (iI k)), (0, .ref a0), (1, .ref ob1)]) C dX3_gatherPart_50 (by decide) rfl ?_
                  refine c_goto (tgt := 7) C dX3_gatherPart_51 (by decide) ?_
                  have ty16 := Xb2.ty t_a0
                  have ri10 : 0 ≤ ivb2 a0 2 ∧ ivb2 a0 2 ≤ 6003 := Wb2.int ty16 2
                  refine c_lv (lv2 := [(2, .null), (0, .ref a0), (1, .ref ob1)]) [0, 2, 3] rfl ?_
                  exact ih1  none (rk - 1) _ _ _ _ _ (by omega) Xb2 Wb2 Fb2 (fun _ q => by cases q) (by omega) (by show ivb2 a0 2 ≤ 200 * (129 - (rk - 1)); omega) (fun _ q => by cases q)
                · have rknb4 := Wb2.rank ty_tr (k := 2) (by decide) nq4
                  refine c_getr (k := 2) C ck_10 dX3_gatherPart_47 w2_181 (by decide) ty_tr rfl rfl (by decide) rfl nq4 ?_
                  refine c_st (st2 := [.ref nb4]) rfl ?_
                  refine c_astore_n (lv2 := [(2, .ref nb4), (3, .int (iI k)), (0, .ref a0), (1, .ref ob1)]) C dX3_gatherPart_50 (by decide) rfl ?_
                  refine c_goto (tgt := 7) C dX3_gatherPart_51 (by decide) ?_
                  refine hv2 (Xb2.ty t_a0) (bt_100 tnb4.2) (fun ty17 trnb4 => ?_)
                  have ri11 : 0 ≤ ivb2 a0 2 ∧ ivb2 a0 2 ≤ 6003 := Wb2.int ty17 2
                  refine c_lv (lv2 := [(2, .ref nb4), (0, .ref a0), (1, .ref ob1)]) [0, 2, 3] rfl ?_
                  exact ih1  (some nb4) (rk - 1) _ _ _ _ _ (by omega) Xb2 Wb2 Fb2 (fun _ q => by cases q; exact tnb4) (by omega) (by show ivb2 a0 2 ≤ 200 * (129 - (rk - 1)); omega) (fun _ q => by cases q; omega)
              · refine c_aload_n (j := 2) (x := a0) C dX3_gatherPart_24 rfl ?_
                refine c_aload_n (j := 0) (x := tr) C dX3_gatherPart_25 rfl ?_
                refine c_getr (k := 4) C ck_10 dX3_gatherPart_26 w2_187 (by decide) ty_tr rfl rfl (by decide) rfl rq2 ?_
                refine c_st (st2 := [.ref rb2, .ref a0]) rfl ?_
                refine c_iload_n (j := 1) C dX3_gatherPart_29 rfl ?_
                refine d_callV (As := [.int (iI k)]) (rest := [.ref a0]) C hM (C_get_26 (a0 := rb2) (i := k) Wb2 skb2 trb2 (by omega) (by show 0 ≤ k ∧ k < ivb2 rb2 2; omega)) dX3_gatherPart_30 kV_X3_82 rfl trb2 rfl rfl (by decide) ck_0 rfl (Nat.le_of_ble_eq_true rfl) ⟨(Nat.le_of_ble_eq_true rfl), (Nat.le_of_ble_eq_true rfl)⟩ hph pl11 (show 0 + 0 = 0 from rfl) (by decide) (fun rh8 Lh8 clh8 lnh8 ivh8 rvh8 h8 => ?_)
                obtain ⟨f8, rfl, rfl, rfl, rfl, rfl, rfl, rgf8, exf8⟩ := h8
                refine c_st (st2 := [.ref f8, .ref a0]) rfl ?_
                have gf8 : el rvb2 rb2 k.toNat = some f8 := exf8
                refine c_cast C ck_6 dX3_gatherPart_33 w5_63 w8_169t rgf8 rfl rfl (by decide) ?_
                have ty18 := Xb2.ty t_a0
                have ri12 : 0 ≤ ivb2 a0 2 ∧ ivb2 a0 2 ≤ 6003 := Wb2.int ty18 2
                refine d_callV (As := [.ref f8]) (rest := []) C hM (C_add_24 (a0 := a0) (x := f8) Wb2 skb2 ty18 rgf8  (by show ivb2 a0 2 < 6003; omega)) dX3_gatherPart_36 kV_X3_97 rfl ty18 rfl rfl (by decide) ck_0 rfl (Nat.le_of_ble_eq_true rfl) ⟨(Nat.le_of_ble_eq_true rfl), (Nat.le_of_ble_eq_true rfl)⟩ hph pl11 (show 0 + 0 = 0 from rfl) (by decide) (fun rh9 Lh9 clh9 lnh9 ivh9 rvh9 h9 => ?_)
                obtain ⟨f9, rfl, xl9, fl9, W9, rgf9, exf9⟩ := h9
                refine hv4 (Fb2.call Xb2 fl9 rfl) (Xb2.ty tob1) (Xb2.trans xl9) (xl9.skl skb2) (fun F7 ty19 X7 sk7 => ?_)
                refine c_st (st2 := [.int (iI f9)]) rfl ?_
                refine hv2 (xl9.ty ty18) (show ivh9 a0 2 = ivb2 a0 2 + 1 ∧ el rvh9 a0 (ivb2 a0 2).toNat = some f8 ∧ ∀ i : Nat, (i : Int) < ivb2 a0 2 → el rvh9 a0 i = el rvb2 a0 i from exf9) (fun ty20 gf9 => ?_)
                have ri13 : 0 ≤ ivh9 a0 2 ∧ ivh9 a0 2 ≤ 6003 := W9.int ty20 2
                refine c_pop C dX3_gatherPart_39 rfl ?_
                refine c_iinc (z := k) (j := 1) (lv2 := [(3, .int (iI (k + 1))), (2, .ref tr), (0, .ref a0), (1, .ref ob1)]) C dX3_gatherPart_40 rfl (by decide) rfl ?_
                refine c_goto (tgt := 13) C dX3_gatherPart_43 (by decide) ?_
                refine hv2 (xl9.ty ty_tr) (show clh9 tr = clb2 tr from (xl9 tr ty_tr.1).2.1) (fun ty21 ce1 => ?_)
                refine c_lv (lv2 := [(2, .ref tr), (3, .int (iI (k + 1))), (0, .ref a0), (1, .ref ob1)]) [1, 0, 2, 3] rfl ?_
                exact ih2  tr (k + 1) _ _ _ _ _ (by omega) X7 W9 F7 ty21 (by omega) (by show ivh9 a0 2 ≤ 200 * (129 - rk) + (k + 1); omega) (by show 100 ≤ clh9 tr ∧ ((clh9 tr : Nat) : Int) ≤ rk; omega)
          have ty22 := Xb1.ty t_a0
          have ri14 : 0 ≤ ivb1 a0 2 ∧ ivb1 a0 2 ≤ 6003 := Wb1.int ty22 2
          refine c_lv (lv2 := [(2, .ref ob2), (3, .int (iI 0)), (0, .ref a0), (1, .ref ob1)]) [1, 0, 2, 3] rfl ?_
          exact Lp2 203 ob2 0 _ _ _ _ _ (by omega) Xb1 Wb1 Fb1 tob2 (by omega) (by show ivb1 a0 2 ≤ 200 * (129 - rk) + 0; omega) (by show 100 ≤ clb1 ob2 ∧ ((clb1 ob2 : Nat) : Int) ≤ rk; omega)
    refine hv2 (show 0 ≤ iv a0 2 ∧ iv a0 2 ≤ 6003 from hW.int t_a0 2) (bt_100 tob1.2) (fun ri15 trob1 => ?_)
    refine c_lv (lv2 := [(2, .ref ob1), (0, .ref a0), (1, .ref ob1)]) [0, 1, 2] rfl ?_
    exact Lp1 31 (some ob1) 129 _ _ _ _ _ (by omega) hX0 hW hF0 (fun _ q => by cases q; exact tob1) (by omega) (by show iv a0 2 ≤ 200 * (129 - 129); omega) (fun _ q => by cases q; omega)
  · subst oq1
    refine c_lv (lv2 := [(0, .ref a0), (1, .null)]) [0, 1] rfl ?_
    refine c_st (st2 := []) rfl ?_
    have ri16 : 0 ≤ iv a0 2 ∧ iv a0 2 ≤ 6003 := hW.int t_a0 2
    exact c_vret C dX3_gatherPart_4 rfl (by decide) (rom0 hph hph (by decide)) ⟨rfl, hX0, hF0, hW, (by omega)⟩
set_option maxHeartbeats 4000000 in
set_option maxRecDepth 100000 in
theorem C_isReadable_24 {l : Launch} {G : GT} {mi : Nat} {sk : Nat → Nat} {L : List Nat} {cl ln : Nat → Nat} {iv : Nat → Nat → Int} {rv : Nat → Nat → Option Nat}  {a0 : Nat} {x : Int} (hW : WT (g0 G) sk L cl ln iv rv) (hS : SKL sk L cl) (t_a0 : ty L cl a0 24) (h_x : -2147483648 ≤ x ∧ x ≤ 2147483647)  : Mc l G mi (Phi (g0 G) sk) PHM yX3_isReadable cX3_isReadable 6 (some .boolean) 3 [.ref a0, .int (iI x)] L cl ln iv rv 0 (fun v L2 cl2 ln2 iv2 rv2 => ∃ f : Int, v = some (.int (iI f)) ∧ L = L2 ∧ cl = cl2 ∧ ln = ln2 ∧ iv = iv2 ∧ rv = rv2 ∧ (f = 0 ∨ f = 1) ∧ (True)) := by
  refine Mc.mk (by decide) (Nat.le_of_ble_eq_true rfl) ?_
  intro p e s m args below meth c A C hM
  refine hv3 (Phi.le hW hS) (show XT L cl ln L cl ln from XT.refl) (show fT [] L cl iv rv iv rv from fT.refl) (fun hph hX0 hF0 => ?_)
  refine c_aload_n (j := 0) (x := a0) C dX3_isReadable_0 rfl ?_
  have ri1 : 0 ≤ iv a0 2 ∧ iv a0 2 ≤ 6003 := hW.int t_a0 2
  refine d_callV (As := []) (rest := []) C hM (C_size_24 (a0 := a0) hW hS t_a0  ) dX3_isReadable_1 kV_X3_78 rfl t_a0 rfl rfl (by decide) ck_0 rfl (Nat.le_of_ble_eq_true rfl) ⟨(Nat.le_of_ble_eq_true rfl), (Nat.le_of_ble_eq_true rfl)⟩ hph hph (show 0 + 0 = 0 from rfl) (by decide) (fun rh1 Lh1 clh1 lnh1 ivh1 rvh1 h1 => ?_)
  obtain ⟨f1, rfl, rfl, rfl, rfl, rfl, rfl, rgf1, exf1⟩ := h1
  refine c_st (st2 := [.int (iI f1)]) rfl ?_
  have gf1 : f1 = iv a0 2 := exf1
  refine c_istore_n (lv2 := [(2, .int (iI f1)), (0, .ref a0), (1, .int (iI x))]) C dX3_isReadable_4 (by decide) rfl ?_
  refine c_iconst C dX3_isReadable_5 ?_
  refine c_istore_n (lv2 := [(3, .int (iI 0)), (2, .int (iI f1)), (0, .ref a0), (1, .int (iI x))]) C dX3_isReadable_6 (by decide) rfl ?_
  have Lp1 : ∀ (nn : Nat) (k : Int) , 6004 - k < (nn : Int) → (0 ≤ k ∧ k ≤ 6003) → cw p l e 3 ((PHM) + 0 - ((Phi (g0 G) sk) ln rv)) s m args below meth c G A 6 (MQ below (Qu G A (Qp G (Phi (g0 G) sk) ((Phi (g0 G) sk) ln rv) 0 (fun v L2 cl2 ln2 iv2 rv2 => ∃ f : Int, v = some (.int (iI f)) ∧ L = L2 ∧ cl = cl2 ∧ ln = ln2 ∧ iv = iv2 ∧ rv = rv2 ∧ (f = 0 ∨ f = 1) ∧ (True)))) args s (((PHM) + 0 - ((Phi (g0 G) sk) ln rv)) / 16) ((PHM) + 0 - ((Phi (g0 G) sk) ln rv)) A) (Phi (g0 G) sk) ((Phi (g0 G) sk) ln rv) L cl ln iv rv 0 7 [(3, .int (iI k)), (2, .int (iI f1)), (0, .ref a0), (1, .int (iI x))] [] := by
    intro nn
    induction nn with
    | zero =>
      intro  k  hm   hk
      exact absurd hm (by omega)
    | succ nn ih1 =>
      intro  k  hm   hk
      refine c_iload_n (j := 0) C dX3_isReadable_7 rfl ?_
      refine c_iload_n (j := 1) C dX3_isReadable_8 rfl ?_
      refine c_icmp_ge (tgt := 79) C (r32_c (lo := 0) (hi := 6003) hk.1 hk.2 (by decide) (by decide)) ⟨by omega, by omega⟩ dX3_isReadable_9 (by decide) (fun c1 => ?_) (fun c1 => ?_)
      · refine c_iconst C dX3_isReadable_79 ?_
        exact c_zret C dX3_isReadable_80 rfl (Or.inr rfl) (by decide) (rom0 hph hph (by decide)) ⟨1, rfl, rfl, rfl, rfl, rfl, rfl, (Or.inr rfl), trivial⟩
      · refine c_aload_n (j := 2) (x := a0) C dX3_isReadable_12 rfl ?_
        refine c_iload_n (j := 0) C dX3_isReadable_13 rfl ?_
        refine d_callV (As := [.int (iI k)]) (rest := []) C hM (C_get_24 (a0 := a0) (i := k) hW hS t_a0 (by omega) (by show 0 ≤ k ∧ k < iv a0 2; omega)) dX3_isReadable_14 kV_X3_82 rfl t_a0 rfl rfl (by decide) ck_0 rfl (Nat.le_of_ble_eq_true rfl) ⟨(Nat.le_of_ble_eq_true rfl), (Nat.le_of_ble_eq_true rfl)⟩ hph hph (show 0 + 0 = 0 from rfl) (by decide) (fun rh2 Lh2 clh2 lnh2 ivh2 rvh2 h2 => ?_)
        obtain ⟨f2, rfl, rfl, rfl, rfl, rfl, rfl, rgf2, exf2⟩ := h2
        refine c_st (st2 := [.ref f2]) rfl ?_
        have gf2 : el rv a0 k.toNat = some f2 := exf2
        refine c_cast C ck_6 dX3_isReadable_17 w5_63 w8_169t rgf2 rfl rfl (by decide) ?_
        refine c_astore (lv2 := [(4, .ref f2), (3, .int (iI k)), (2, .int (iI f1)), (0, .ref a0), (1, .int (iI x))]) C dX3_isReadable_20 (by decide) rfl ?_
        refine c_aload (j := 0) (x := f2) C dX3_isReadable_22 rfl ?_
        refine c_iload_n (j := 4) C dX3_isReadable_24 rfl ?_
        refine d_callV (As := [.int (iI x)]) (rest := []) C hM (C_rends (a0 := f2) (x := x) hW hS rgf2 (by omega) ) dX3_isReadable_25 kV_X3_100 rfl rgf2 rfl rfl (by decide) ck_6 rfl (Nat.le_of_ble_eq_true rfl) ⟨(Nat.le_of_ble_eq_true rfl), (Nat.le_of_ble_eq_true rfl)⟩ hph hph (show 0 + 0 = 0 from rfl) (by decide) (fun rh3 Lh3 clh3 lnh3 ivh3 rvh3 h3 => ?_)
        obtain ⟨f3, rfl, rfl, rfl, rfl, rfl, rfl, rgf3, exf3⟩ := h3
        refine c_st (st2 := [.int (iI f3)]) rfl ?_
        refine c_if_eq (tgt := 33) C ⟨by omega, by omega⟩ dX3_isReadable_28 (by decide) (fun c2 => ?_) (fun c2 => ?_)
        · refine c_iconst C dX3_isReadable_33 ?_
          refine c_istore (lv2 := [(5, .int (iI 0)), (4, .ref f2), (3, .int (iI k)), (2, .int (iI f1)), (0, .ref a0), (1, .int (iI x))]) C dX3_isReadable_34 (by decide) rfl ?_
          have Lp2 : ∀ (nn : Nat) (k2 : Int) , 6004 - k2 < (nn : Int) → (0 ≤ k2 ∧ k2 ≤ 6003) → cw p l e 3 ((PHM) + 0 - ((Phi (g0 G) sk) ln rv)) s m args below meth c G A 6 (MQ below (Qu G A (Qp G (Phi (g0 G) sk) ((Phi (g0 G) sk) ln rv) 0 (fun v L2 cl2 ln2 iv2 rv2 => ∃ f : Int, v = some (.int (iI f)) ∧ L = L2 ∧ cl = cl2 ∧ ln = ln2 ∧ iv = iv2 ∧ rv = rv2 ∧ (f = 0 ∨ f = 1) ∧ (True)))) args s (((PHM) + 0 - ((Phi (g0 G) sk) ln rv)) / 16) ((PHM) + 0 - ((Phi (g0 G) sk) ln rv)) A) (Phi (g0 G) sk) ((Phi (g0 G) sk) ln rv) L cl ln iv rv 0 36 [(5, .int (iI k2)), (4, .ref f2), (3, .int (iI k)), (2, .int (iI f1)), (0, .ref a0), (1, .int (iI x))] [] := by
            intro nn
            induction nn with
            | zero =>
              intro  k2  hm   hk2
              exact absurd hm (by omega)
            | succ nn ih2 =>
              intro  k2  hm   hk2
              refine c_iload (j := 0) C dX3_isReadable_36 rfl ?_
              refine c_iload_n (j := 3) C dX3_isReadable_38 rfl ?_
              refine c_icmp_ge (tgt := 73) C (r32_c (lo := 0) (hi := 6003) hk2.1 hk2.2 (by decide) (by decide)) ⟨by omega, by omega⟩ dX3_isReadable_39 (by decide) (fun c3 => ?_) (fun c3 => ?_)
              · refine c_iinc (z := k) (j := 2) (lv2 := [(3, .int (iI (k + 1))), (5, .int (iI k2)), (4, .ref f2), (2, .int (iI f1)), (0, .ref a0), (1, .int (iI x))]) C dX3_isReadable_73 rfl (by decide) rfl ?_
                refine c_goto (tgt := 7) C dX3_isReadable_76 (by decide) ?_
                refine c_lv (lv2 := [(3, .int (iI (k + 1))), (2, .int (iI f1)), (0, .ref a0), (1, .int (iI x))]) [0, 3, 4, 5] rfl ?_
                exact ih1  (k + 1)  (by omega)   (by omega)
              · refine c_iload (j := 0) C dX3_isReadable_42 rfl ?_
                refine c_iload_n (j := 2) C dX3_isReadable_44 rfl ?_
                refine c_icmp_eq (tgt := 67) C (r32_c (lo := 0) (hi := 6003) hk2.1 hk2.2 (by decide) (by decide)) (r32_c (lo := 0) (hi := 6003) hk.1 hk.2 (by decide) (by decide)) dX3_isReadable_45 (by decide) (fun c4 => ?_) (fun c4 => ?_)
                · refine c_iinc (z := k2) (j := 0) (lv2 := [(5, .int (iI (k2 + 1))), (4, .ref f2), (3, .int (iI k)), (2, .int (iI f1)), (0, .ref a0), (1, .int (iI x))]) C dX3_isReadable_67 rfl (by decide) rfl ?_
                  refine c_goto (tgt := 36) C dX3_isReadable_70 (by decide) ?_
                  refine c_lv (lv2 := [(5, .int (iI (k2 + 1))), (4, .ref f2), (3, .int (iI k)), (2, .int (iI f1)), (0, .ref a0), (1, .int (iI x))]) [0, 1, 2, 3, 4, 5] rfl ?_
                  exact ih2  (k2 + 1)  (by omega)   (by omega)
                · refine c_aload (j := 1) (x := f2) C dX3_isReadable_48 rfl ?_
                  refine c_aload_n (j := 4) (x := a0) C dX3_isReadable_50 rfl ?_
                  refine c_iload (j := 0) C dX3_isReadable_51 rfl ?_
                  refine d_callV (As := [.int (iI k2)]) (rest := [.ref f2]) C hM (C_get_24 (a0 := a0) (i := k2) hW hS t_a0 (by omega) (by show 0 ≤ k2 ∧ k2 < iv a0 2; omega)) dX3_isReadable_53 kV_X3_82 rfl t_a0 rfl rfl (by decide) ck_0 rfl (Nat.le_of_ble_eq_true rfl) ⟨(Nat.le_of_ble_eq_true rfl), (Nat.le_of_ble_eq_true rfl)⟩ hph hph (show 0 + 0 = 0 from rfl) (by decide) (fun rh4 Lh4 clh4 lnh4 ivh4 rvh4 h4 => ?_)
                  obtain ⟨f4, rfl, rfl, rfl, rfl, rfl, rfl, rgf4, exf4⟩ := h4
                  refine c_st (st2 := [.ref f4, .ref f2]) rfl ?_
                  have gf4 : el rv a0 k2.toNat = some f4 := exf4
                  refine c_cast C ck_6 dX3_isReadable_56 w5_63 w8_169t rgf4 rfl rfl (by decide) ?_
                  refine d_callV (As := [.ref f4]) (rest := []) C hM (C_isAtBegin (a0 := f2) (a1 := f4) hW hS rgf2 rgf4  ) dX3_isReadable_59 kV_X3_104 rfl rgf2 rfl rfl (by decide) ck_6 rfl (Nat.le_of_ble_eq_true rfl) ⟨(Nat.le_of_ble_eq_true rfl), (Nat.le_of_ble_eq_true rfl)⟩ hph hph (show 0 + 0 = 0 from rfl) (by decide) (fun rh5 Lh5 clh5 lnh5 ivh5 rvh5 h5 => ?_)
                  obtain ⟨f5, rfl, rfl, rfl, rfl, rfl, rfl, rgf5, exf5⟩ := h5
                  refine c_st (st2 := [.int (iI f5)]) rfl ?_
                  refine c_if_eq (tgt := 67) C ⟨by omega, by omega⟩ dX3_isReadable_62 (by decide) (fun c5 => ?_) (fun c5 => ?_)
                  · refine c_iinc (z := k2) (j := 0) (lv2 := [(5, .int (iI (k2 + 1))), (4, .ref f2), (3, .int (iI k)), (2, .int (iI f1)), (0, .ref a0), (1, .int (iI x))]) C dX3_isReadable_67 rfl (by decide) rfl ?_
                    refine c_goto (tgt := 36) C dX3_isReadable_70 (by decide) ?_
                    refine c_lv (lv2 := [(5, .int (iI (k2 + 1))), (4, .ref f2), (3, .int (iI k)), (2, .int (iI f1)), (0, .ref a0), (1, .int (iI x))]) [0, 1, 2, 3, 4, 5] rfl ?_
                    exact ih2  (k2 + 1)  (by omega)   (by omega)
                  · refine c_iconst C dX3_isReadable_65 ?_
                    exact c_zret C dX3_isReadable_66 rfl (Or.inl rfl) (by decide) (rom0 hph hph (by decide)) ⟨0, rfl, rfl, rfl, rfl, rfl, rfl, (Or.inl rfl), trivial⟩
          refine c_lv (lv2 := [(5, .int (iI 0)), (4, .ref f2), (3, .int (iI k)), (2, .int (iI f1)), (0, .ref a0), (1, .int (iI x))]) [0, 1, 2, 3, 4, 5] rfl ?_
          exact Lp2 6006 0  (by omega)   (by omega)
        · refine c_iconst C dX3_isReadable_31 ?_
          exact c_zret C dX3_isReadable_32 rfl (Or.inl rfl) (by decide) (rom0 hph hph (by decide)) ⟨0, rfl, rfl, rfl, rfl, rfl, rfl, (Or.inl rfl), trivial⟩
  refine c_lv (lv2 := [(3, .int (iI 0)), (2, .int (iI f1)), (0, .ref a0), (1, .int (iI x))]) [0, 1, 2, 3] rfl ?_
  exact Lp1 6006 0  (by omega)   (by omega)
set_option maxHeartbeats 4000000 in
set_option maxRecDepth 100000 in
theorem C_addInd_25 {l : Launch} {G : GT} {mi : Nat} {sk : Nat → Nat} {L : List Nat} {cl ln : Nat → Nat} {iv : Nat → Nat → Int} {rv : Nat → Nat → Option Nat}  {a0 : Nat} {r : Option Nat} (hW : WT (g0 G) sk L cl ln iv rv) (hS : SKL sk L cl) (t_a0 : ty L cl a0 25) (t_r : ∀ b, r = some b → ty L cl b 20) (hn : iv a0 2 < 6003) : Mc l G mi (Phi (g0 G) sk) PHM yX3_addIndicator cX3_addIndicator 2 none 7 [.ref a0, va_rf r] L cl ln iv rv 0 (fun v L2 cl2 ln2 iv2 rv2 => v = none ∧ XT L cl ln L2 cl2 ln2 ∧ fT [25, 1003] L cl iv rv iv2 rv2 ∧ WT (g0 G) sk L2 cl2 ln2 iv2 rv2 ∧ (iv a0 2 ≤ iv2 a0 2 ∧ iv2 a0 2 ≤ iv a0 2 + 1)) := by
  refine Mc.mk (by decide) (by cases r <;> exact Nat.le_of_ble_eq_true rfl) ?_
  intro p e s m args below meth c A C hM
  have hph := Phi.le hW hS
  refine c_lveq (show lv_args 0 [.ref a0, va_rf r] = [(0, .ref a0), (1, (va_rf r))] from by cases r <;> rfl) ?_
  refine hv3 (show 0 ≤ iv a0 2 from (hW.int t_a0 2).1) (show XT L cl ln L cl ln from XT.refl) (show fT [25, 1003] L cl iv rv iv rv from fT.refl) (fun hb0 hX0 hF0 => ?_)
  refine c_aloadr_n (j := 1) (r := r) C dX3_addIndicator_0 rfl ?_
  refine c_ifnull (r := r) (tgt := 10) C dX3_addIndicator_1 (by decide) (fun oq1 => ?_) (fun ob1 oq1 => ?_)
  · subst oq1
    refine c_lv (lv2 := [(0, .ref a0), (1, .null)]) [0, 1] rfl ?_
    refine c_st (st2 := []) rfl ?_
    have ri1 : 0 ≤ iv a0 2 ∧ iv a0 2 ≤ 6003 := hW.int t_a0 2
    exact c_vret C dX3_addIndicator_10 rfl (by decide) (rom0 hph hph (by decide)) ⟨rfl, hX0, hF0, hW, (by omega)⟩
  · subst oq1
    have tob1 := t_r ob1 rfl
    refine c_lv (lv2 := [(0, .ref a0), (1, .ref ob1)]) [0, 1] rfl ?_
    refine c_st (st2 := []) rfl ?_
    refine c_aload_n (j := 0) (x := a0) C dX3_addIndicator_4 rfl ?_
    refine c_aload_n (j := 1) (x := ob1) C dX3_addIndicator_5 rfl ?_
    have ri2 : 0 ≤ iv a0 2 ∧ iv a0 2 ≤ 6003 := hW.int t_a0 2
    refine d_callV (As := [.ref ob1]) (rest := []) C hM (C_add_25 (a0 := a0) (x := ob1) hW hS t_a0 tob1  (by show iv a0 2 < 6003; omega)) dX3_addIndicator_6 kV_X3_97 rfl t_a0 rfl rfl (by decide) ck_0 rfl (Nat.le_of_ble_eq_true rfl) ⟨(Nat.le_of_ble_eq_true rfl), (Nat.le_of_ble_eq_true rfl)⟩ hph hph (show 0 + 0 = 0 from rfl) (by decide) (fun rh1 Lh1 clh1 lnh1 ivh1 rvh1 h1 => ?_)
    obtain ⟨f1, rfl, xl1, fl1, W1, rgf1, exf1⟩ := h1
    refine hv3 (hF0.call hX0 fl1 rfl) (hX0.trans xl1) (xl1.skl hS) (fun F1 X1 sk1 => ?_)
    refine c_st (st2 := [.int (iI f1)]) rfl ?_
    refine hv2 (xl1.ty t_a0) (show ivh1 a0 2 = iv a0 2 + 1 ∧ el rvh1 a0 (iv a0 2).toNat = some ob1 ∧ ∀ i : Nat, (i : Int) < iv a0 2 → el rvh1 a0 i = el rv a0 i from exf1) (fun ty1 gf1 => ?_)
    have ri3 : 0 ≤ ivh1 a0 2 ∧ ivh1 a0 2 ≤ 6003 := W1.int ty1 2
    refine c_pop C dX3_addIndicator_9 rfl ?_
    have pl1 := Phi.le W1 sk1
    exact c_vret C dX3_addIndicator_10 rfl (by decide) (rom0 hph pl1 (by decide)) ⟨rfl, X1, F1, W1, (by omega)⟩
set_option maxHeartbeats 4000000 in
set_option maxRecDepth 100000 in
theorem C_markBegins_25 {l : Launch} {G : GT} {mi : Nat} {sk : Nat → Nat} {L : List Nat} {cl ln : Nat → Nat} {iv : Nat → Nat → Int} {rv : Nat → Nat → Option Nat}  {a0 : Nat} {a1 : Nat} (hW : WT (g0 G) sk L cl ln iv rv) (hS : SKL sk L cl) (t_a0 : ty L cl a0 25) (t_a1 : ty L cl a1 7)  : Mc l G mi (Phi (g0 G) sk) PHM yX3_markBegins cX3_markBegins 5 none 3 [.ref a0, .ref a1] L cl ln iv rv 0 (fun v L2 cl2 ln2 iv2 rv2 => v = none ∧ XT L cl ln L2 cl2 ln2 ∧ fT [7, 37] L cl iv rv iv2 rv2 ∧ WT (g0 G) sk L2 cl2 ln2 iv2 rv2 ∧ (True)) := by
  refine Mc.mk (by decide) (Nat.le_of_ble_eq_true rfl) ?_
  intro p e s m args below meth c A C hM
  refine hv3 (Phi.le hW hS) (show XT L cl ln L cl ln from XT.refl) (show fT [7, 37] L cl iv rv iv rv from fT.refl) (fun hph hX0 hF0 => ?_)
  refine c_aload_n (j := 1) (x := a1) C dX3_markBegins_0 rfl ?_
  refine d_callV (As := []) (rest := []) C hM (C_clear_7 (a0 := a1) hW hS t_a1  ) dX3_markBegins_1 kV_X3_77 rfl t_a1 rfl rfl (by decide) ck_2 rfl (Nat.le_of_ble_eq_true rfl) ⟨(Nat.le_of_ble_eq_true rfl), (Nat.le_of_ble_eq_true rfl)⟩ hph hph (show 0 + 0 = 0 from rfl) (by decide) (fun rh1 Lh1 clh1 lnh1 ivh1 rvh1 h1 => ?_)
  obtain ⟨rfl, rfl, rfl, rfl, rfl, fl1, W1, exf1⟩ := h1
  have F1 := hF0.call hX0 fl1 rfl
  refine c_st (st2 := []) rfl ?_
  refine hv2 (show 0 ≤ ivh1 a1 2 ∧ ivh1 a1 2 ≤ 6003 from W1.int t_a1 2) (show ivh1 a1 2 = 0 from exf1) (fun ri1 gf1 => ?_)
  refine c_aload_n (j := 0) (x := a0) C dX3_markBegins_4 rfl ?_
  refine hv2 (show 0 ≤ ivh1 a0 2 ∧ ivh1 a0 2 ≤ 6003 from W1.int t_a0 2) (show ivh1 a0 2 = iv a0 2 from fl1.i t_a0 rfl 2) (fun ri2 ie2 => ?_)
  refine d_callV (As := []) (rest := []) C hM (C_size_25 (a0 := a0) W1 hS t_a0  ) dX3_markBegins_5 kV_X3_78 rfl t_a0 rfl rfl (by decide) ck_0 rfl (Nat.le_of_ble_eq_true rfl) ⟨(Nat.le_of_ble_eq_true rfl), (Nat.le_of_ble_eq_true rfl)⟩ hph hph (show 0 + 0 = 0 from rfl) (by decide) (fun rh2 Lh2 clh2 lnh2 ivh2 rvh2 h2 => ?_)
  obtain ⟨f2, rfl, rfl, rfl, rfl, rfl, rfl, rgf2, exf2⟩ := h2
  refine c_st (st2 := [.int (iI f2)]) rfl ?_
  have gf2 : f2 = ivh1 a0 2 := exf2
  refine c_istore_n (lv2 := [(2, .int (iI f2)), (0, .ref a0), (1, .ref a1)]) C dX3_markBegins_8 (by decide) rfl ?_
  refine c_iconst C dX3_markBegins_9 ?_
  refine c_istore_n (lv2 := [(3, .int (iI 0)), (2, .int (iI f2)), (0, .ref a0), (1, .ref a1)]) C dX3_markBegins_10 (by decide) rfl ?_
  have Lp1 : ∀ (nn : Nat) (k : Int) (Lb1 : List Nat) (clb1 lnb1 : Nat → Nat) (ivb1 : Nat → Nat → Int) (rvb1 : Nat → Nat → Option Nat) , 6004 - k < (nn : Int) → XT L cl ln Lb1 clb1 lnb1 → WT (g0 G) sk Lb1 clb1 lnb1 ivb1 rvb1 → fT [7, 37] L cl iv rv ivb1 rvb1 → (0 ≤ k ∧ k ≤ 6003) → cw p l e 3 ((PHM) + 0 - ((Phi (g0 G) sk) ln rv)) s m args below meth c G A 5 (MQ below (Qu G A (Qp G (Phi (g0 G) sk) ((Phi (g0 G) sk) ln rv) 0 (fun v L2 cl2 ln2 iv2 rv2 => v = none ∧ XT L cl ln L2 cl2 ln2 ∧ fT [7, 37] L cl iv rv iv2 rv2 ∧ WT (g0 G) sk L2 cl2 ln2 iv2 rv2 ∧ (True)))) args s (((PHM) + 0 - ((Phi (g0 G) sk) ln rv)) / 16) ((PHM) + 0 - ((Phi (g0 G) sk) ln rv)) A) (Phi (g0 G) sk) ((Phi (g0 G) sk) ln rv) Lb1 clb1 lnb1 ivb1 rvb1 0 11 [(3, .int (iI k)), (2, .int (iI f2)), (0, .ref a0), (1, .ref a1)] [] := by
    intro nn
    induction nn with
    | zero =>
      intro  k Lb1 clb1 lnb1 ivb1 rvb1 hm Xb1 Wb1 Fb1  hk
      have skb1 := Xb1.skl hS
      exact absurd hm (by omega)
    | succ nn ih1 =>
      intro  k Lb1 clb1 lnb1 ivb1 rvb1 hm Xb1 Wb1 Fb1  hk
      have skb1 := Xb1.skl hS
      refine c_iload_n (j := 0) C dX3_markBegins_11 rfl ?_
      refine c_iload_n (j := 1) C dX3_markBegins_12 rfl ?_
      refine c_icmp_ge (tgt := 56) C (r32_c (lo := 0) (hi := 6003) hk.1 hk.2 (by decide) (by decide)) ⟨by omega, by omega⟩ dX3_markBegins_13 (by decide) (fun c1 => ?_) (fun c1 => ?_)
      · have pl1 := Phi.le Wb1 skb1
        exact c_vret C dX3_markBegins_56 rfl (by decide) (rom0 hph pl1 (by decide)) ⟨rfl, Xb1, Fb1, Wb1, trivial⟩
      · refine c_aload_n (j := 2) (x := a0) C dX3_markBegins_16 rfl ?_
        refine c_iload_n (j := 0) C dX3_markBegins_17 rfl ?_
        refine hv3 (Xb1.ty t_a0) (show ivb1 a0 2 = iv a0 2 from Fb1.i t_a0 rfl 2) (Phi.le Wb1 skb1) (fun ty1 ie3 pl2 => ?_)
        have ri3 : 0 ≤ ivb1 a0 2 ∧ ivb1 a0 2 ≤ 6003 := Wb1.int ty1 2
        refine d_callV (As := [.int (iI k)]) (rest := []) C hM (C_get_25 (a0 := a0) (i := k) Wb1 skb1 ty1 (by omega) (by show 0 ≤ k ∧ k < ivb1 a0 2; omega)) dX3_markBegins_18 kV_X3_82 rfl ty1 rfl rfl (by decide) ck_0 rfl (Nat.le_of_ble_eq_true rfl) ⟨(Nat.le_of_ble_eq_true rfl), (Nat.le_of_ble_eq_true rfl)⟩ hph pl2 (show 0 + 0 = 0 from rfl) (by decide) (fun rh3 Lh3 clh3 lnh3 ivh3 rvh3 h3 => ?_)
        obtain ⟨f3, rfl, rfl, rfl, rfl, rfl, rfl, rgf3, exf3⟩ := h3
        refine c_st (st2 := [.ref f3]) rfl ?_
        have gf3 : el rvb1 a0 k.toNat = some f3 := exf3
        refine c_cast C ck_6 dX3_markBegins_21 w5_63 w8_169t rgf3 rfl rfl (by decide) ?_
        refine c_astore (lv2 := [(4, .ref f3), (3, .int (iI k)), (2, .int (iI f2)), (0, .ref a0), (1, .ref a1)]) C dX3_markBegins_24 (by decide) rfl ?_
        refine c_aload_n (j := 4) (x := a1) C dX3_markBegins_26 rfl ?_
        refine c_aload (j := 0) (x := f3) C dX3_markBegins_27 rfl ?_
        obtain ⟨rb1, rq1, trb1⟩ := Wb1.ref rgf3 2 rfl rfl rfl
        have lnrb1 : 1 ≤ lnb1 rb1 ∧ lnb1 rb1 ≤ 4 := Wb1.len trb1 rfl
        refine c_getr (k := 2) C ck_6 dX3_markBegins_29 w3_143 (by decide) rgf3 rfl rfl (by decide) rfl rq1 ?_
        refine c_st (st2 := [.ref rb1, .ref a1]) rfl ?_
        have ll1 : 1 ≤ lnb1 rb1 ∧ lnb1 rb1 ≤ 4 := Wb1.len trb1 rfl
        refine c_alenI C dX3_markBegins_32 trb1 rfl ?_
        refine c_if_le (tgt := 46) C ⟨by omega, by omega⟩ dX3_markBegins_33 (by decide) (fun c2 => ?_) (fun c2 => ?_)
        · refine c_iconst C dX3_markBegins_46 ?_
          have ty2 := Xb1.ty t_a1
          have ri4 : 0 ≤ ivb1 a1 2 ∧ ivb1 a1 2 ≤ 6003 := Wb1.int ty2 2
          refine d_callV (As := [.int (iI 0)]) (rest := []) C hM (C_add_7 (a0 := a1) (x := 0) Wb1 skb1 ty2 ⟨by decide, by decide⟩ ) dX3_markBegins_47 kV_X3_91 rfl ty2 rfl rfl (by decide) ck_2 rfl (Nat.le_of_ble_eq_true rfl) ⟨(Nat.le_of_ble_eq_true rfl), (Nat.le_of_ble_eq_true rfl)⟩ hph pl2 (show 0 + 0 = 0 from rfl) (by decide) (fun rh4 Lh4 clh4 lnh4 ivh4 rvh4 h4 => ?_)
          obtain ⟨rfl, xl4, fl4, W4, exf4⟩ := h4
          refine hv3 (Fb1.call Xb1 fl4 rfl) (Xb1.trans xl4) (xl4.skl skb1) (fun F2 X1 sk1 => ?_)
          refine c_st (st2 := []) rfl ?_
          refine hv2 (xl4.ty ty2) (show ((ivh4 a1 2 = ivb1 a1 2 ∧ ivb1 a1 2 = 6003) ∨ (ivh4 a1 2 = ivb1 a1 2 + 1 ∧ ivb1 a1 2 < 6003)) from exf4) (fun ty3 gf4 => ?_)
          have ri5 : 0 ≤ ivh4 a1 2 ∧ ivh4 a1 2 ≤ 6003 := W4.int ty3 2
          refine c_iinc (z := k) (j := 1) (lv2 := [(3, .int (iI (k + 1))), (4, .ref f3), (2, .int (iI f2)), (0, .ref a0), (1, .ref a1)]) C dX3_markBegins_50 rfl (by decide) rfl ?_
          refine c_goto (tgt := 11) C dX3_markBegins_53 (by decide) ?_
          refine c_lv (lv2 := [(3, .int (iI (k + 1))), (2, .int (iI f2)), (0, .ref a0), (1, .ref a1)]) [0, 2, 3, 4] rfl ?_
          exact ih1  (k + 1) _ _ _ _ _ (by omega) X1 W4 F2  (by omega)
        · refine c_aload (j := 0) (x := f3) C dX3_markBegins_36 rfl ?_
          refine c_getr (k := 2) C ck_6 dX3_markBegins_38 w3_143 (by decide) rgf3 rfl rfl (by decide) rfl rq1 ?_
          refine c_st (st2 := [.ref rb1, .ref a1]) rfl ?_
          refine c_iconst C dX3_markBegins_41 ?_
          refine c_iald C dX3_markBegins_42 trb1 rfl (by omega) (by omega) (by omega) ?_
          have ri6 : (-2147483648) ≤ ivb1 rb1 ((0 : Int).toNat) ∧ ivb1 rb1 ((0 : Int).toNat) ≤ 2147483647 := Wb1.int trb1 ((0 : Int).toNat)
          refine c_goto (tgt := 47) C dX3_markBegins_43 (by decide) ?_
          have ty4 := Xb1.ty t_a1
          have ri7 : 0 ≤ ivb1 a1 2 ∧ ivb1 a1 2 ≤ 6003 := Wb1.int ty4 2
          refine d_callV (As := [.int (iI (ivb1 rb1 (0 : Int).toNat))]) (rest := []) C hM (C_add_7 (a0 := a1) (x := ivb1 rb1 (0 : Int).toNat) Wb1 skb1 ty4 (by omega) ) dX3_markBegins_47 kV_X3_91 rfl ty4 rfl rfl (by decide) ck_2 rfl (Nat.le_of_ble_eq_true rfl) ⟨(Nat.le_of_ble_eq_true rfl), (Nat.le_of_ble_eq_true rfl)⟩ hph pl2 (show 0 + 0 = 0 from rfl) (by decide) (fun rh5 Lh5 clh5 lnh5 ivh5 rvh5 h5 => ?_)
          obtain ⟨rfl, xl5, fl5, W5, exf5⟩ := h5
          refine hv3 (Fb1.call Xb1 fl5 rfl) (Xb1.trans xl5) (xl5.skl skb1) (fun F3 X2 sk2 => ?_)
          refine c_st (st2 := []) rfl ?_
          refine hv2 (xl5.ty ty4) (show ((ivh5 a1 2 = ivb1 a1 2 ∧ ivb1 a1 2 = 6003) ∨ (ivh5 a1 2 = ivb1 a1 2 + 1 ∧ ivb1 a1 2 < 6003)) from exf5) (fun ty5 gf5 => ?_)
          have ri8 : 0 ≤ ivh5 a1 2 ∧ ivh5 a1 2 ≤ 6003 := W5.int ty5 2
          refine c_iinc (z := k) (j := 1) (lv2 := [(3, .int (iI (k + 1))), (4, .ref f3), (2, .int (iI f2)), (0, .ref a0), (1, .ref a1)]) C dX3_markBegins_50 rfl (by decide) rfl ?_
          refine c_goto (tgt := 11) C dX3_markBegins_53 (by decide) ?_
          refine c_lv (lv2 := [(3, .int (iI (k + 1))), (2, .int (iI f2)), (0, .ref a0), (1, .ref a1)]) [0, 2, 3, 4] rfl ?_
          exact ih1  (k + 1) _ _ _ _ _ (by omega) X2 W5 F3  (by omega)
  refine c_lv (lv2 := [(3, .int (iI 0)), (2, .int (iI f2)), (0, .ref a0), (1, .ref a1)]) [0, 1, 2, 3] rfl ?_
  exact Lp1 6006 0 _ _ _ _ _ (by omega) hX0 W1 F1  (by omega)
set_option maxHeartbeats 4000000 in
set_option maxRecDepth 100000 in
theorem C_gatherPart_25 {l : Launch} {G : GT} {mi : Nat} {sk : Nat → Nat} {L : List Nat} {cl ln : Nat → Nat} {iv : Nat → Nat → Int} {rv : Nat → Nat → Option Nat}  {a0 : Nat} {r : Option Nat} (hW : WT (g0 G) sk L cl ln iv rv) (hS : SKL sk L cl) (t_a0 : ty L cl a0 25) (t_r : ∀ b, r = some b → ty L cl b 100) (hn : iv a0 2 = 0) : Mc l G mi (Phi (g0 G) sk) PHM yX3_gatherPart cX3_gatherPart 4 none 8 [.ref a0, va_rf r] L cl ln iv rv 0 (fun v L2 cl2 ln2 iv2 rv2 => v = none ∧ XT L cl ln L2 cl2 ln2 ∧ fT [25, 1003] L cl iv rv iv2 rv2 ∧ WT (g0 G) sk L2 cl2 ln2 iv2 rv2 ∧ (iv2 a0 2 ≤ 6002)) := by
  refine Mc.mk (by decide) (by cases r <;> exact Nat.le_of_ble_eq_true rfl) ?_
  intro p e s m args below meth c A C hM
  have hph := Phi.le hW hS
  refine c_lveq (show lv_args 0 [.ref a0, va_rf r] = [(0, .ref a0), (1, (va_rf r))] from by cases r <;> rfl) ?_
  refine hv2 (show XT L cl ln L cl ln from XT.refl) (show fT [25, 1003] L cl iv rv iv rv from fT.refl) (fun hX0 hF0 => ?_)
  refine c_aloadr_n (j := 1) (r := r) C dX3_gatherPart_0 rfl ?_
  refine c_ifnonnull (r := r) (tgt := 5) C dX3_gatherPart_1 (by decide) (fun ob1 oq1 => ?_) (fun oq1 => ?_)
  · subst oq1
    have tob1 := t_r ob1 rfl
    refine c_lv (lv2 := [(0, .ref a0), (1, .ref ob1)]) [0, 1] rfl ?_
    refine c_st (st2 := []) rfl ?_
    refine c_aload_n (j := 1) (x := ob1) C dX3_gatherPart_5 rfl ?_
    refine c_astore_n (lv2 := [(2, .ref ob1), (0, .ref a0), (1, .ref ob1)]) C dX3_gatherPart_6 (by decide) rfl ?_
    have Lp1 : ∀ (nn : Nat) (tq : Option Nat) (rk : Int) (Lb1 : List Nat) (clb1 lnb1 : Nat → Nat) (ivb1 : Nat → Nat → Int) (rvb1 : Nat → Nat → Option Nat) , rk - 99 < (nn : Int) → XT L cl ln Lb1 clb1 lnb1 → WT (g0 G) sk Lb1 clb1 lnb1 ivb1 rvb1 → fT [25, 1003] L cl iv rv ivb1 rvb1 → (∀ b, tq = some b → ty Lb1 clb1 b 100) → (99 ≤ rk ∧ rk ≤ 129) → (ivb1 a0 2 ≤ 200 * (129 - rk)) → (∀ b, tq = some b → ((clb1 b : Nat) : Int) ≤ rk) → cw p l e 8 ((PHM) + 0 - ((Phi (g0 G) sk) ln rv)) s m args below meth c G A 4 (MQ below (Qu G A (Qp G (Phi (g0 G) sk) ((Phi (g0 G) sk) ln rv) 0 (fun v L2 cl2 ln2 iv2 rv2 => v = none ∧ XT L cl ln L2 cl2 ln2 ∧ fT [25, 1003] L cl iv rv iv2 rv2 ∧ WT (g0 G) sk L2 cl2 ln2 iv2 rv2 ∧ (iv2 a0 2 ≤ 6002)))) args s (((PHM) + 0 - ((Phi (g0 G) sk) ln rv)) / 16) ((PHM) + 0 - ((Phi (g0 G) sk) ln rv)) A) (Phi (g0 G) sk) ((Phi (g0 G) sk) ln rv) Lb1 clb1 lnb1 ivb1 rvb1 0 7 [(2, (va_rf tq)), (0, .ref a0), (1, .ref ob1)] [] := by
      intro nn
      induction nn with
      | zero =>
        intro tq rk Lb1 clb1 lnb1 ivb1 rvb1 hm Xb1 Wb1 Fb1 ty_tq h99 hsz hrk
        have skb1 := Xb1.skl hS
        exact absurd hm (by omega)
      | succ nn ih1 =>
        intro tq rk Lb1 clb1 lnb1 ivb1 rvb1 hm Xb1 Wb1 Fb1 ty_tq h99 hsz hrk
        have skb1 := Xb1.skl hS
        refine c_aloadr_n (j := 0) (r := tq) C dX3_gatherPart_7 rfl ?_
        refine c_ifnull (r := tq) (tgt := 54) C dX3_gatherPart_8 (by decide) (fun oq2 => ?_) (fun ob2 oq2 => ?_)
        · subst oq2
          refine c_lv (lv2 := [(2, .null), (0, .ref a0), (1, .ref ob1)]) [0, 1, 2] rfl ?_
          refine c_st (st2 := []) rfl ?_
          refine c_aload_n (j := 1) (x := a0) C dX3_gatherPart_54 rfl ?_
          refine c_aload_n (j := 2) (x := ob1) C dX3_gatherPart_55 rfl ?_
          have ty1 := Xb1.ty tob1
          obtain ⟨rb1, rq1, trb1⟩ := Wb1.ref ty1 6 rfl rfl rfl
          have lnrb1 : 4 ≤ lnb1 rb1 ∧ lnb1 rb1 ≤ 4 := Wb1.len trb1 rfl
          refine c_getr (k := 6) C ck_10 dX3_gatherPart_56 w2_193 (by decide) ty1 rfl rfl (by decide) rfl rq1 ?_
          refine c_st (st2 := [.ref rb1, .ref a0]) rfl ?_
          refine c_iconst C dX3_gatherPart_59 ?_
          have ll1 : 4 ≤ lnb1 rb1 ∧ lnb1 rb1 ≤ 4 := Wb1.len trb1 rfl
          rcases Wb1.opt trb1 ((0 : Int).toNat) rfl rfl with ⟨nq1, _⟩ | ⟨nb1, nq1, tnb1⟩
          · refine c_aaldR C dX3_gatherPart_60 trb1 rfl (by omega) (by omega) (by omega) nq1 ?_
            refine c_st (st2 := [.null, .ref a0]) rfl ?_
            refine hv2 (Xb1.ty t_a0) (Phi.le Wb1 skb1) (fun ty2 pl1 => ?_)
            have ri1 : 0 ≤ ivb1 a0 2 ∧ ivb1 a0 2 ≤ 6003 := Wb1.int ty2 2
            refine d_callS (As := [.ref a0, .null]) (rest := []) C hM (C_addInd_25 (a0 := a0) (r := none) Wb1 skb1 ty2 (fun _ q => by cases q)  (by show ivb1 a0 2 < 6003; omega)) dX3_gatherPart_61 kS_X3_67 rfl rfl (Nat.le_of_ble_eq_true rfl) ⟨(Nat.le_of_ble_eq_true rfl), (Nat.le_of_ble_eq_true rfl)⟩ hph pl1 (show 0 + 0 = 0 from rfl) (by decide) (fun rh1 Lh1 clh1 lnh1 ivh1 rvh1 h1 => ?_)
            obtain ⟨rfl, xl1, fl1, W1, exf1⟩ := h1
            refine hv3 (Fb1.call Xb1 fl1 rfl) (Xb1.trans xl1) (xl1.skl skb1) (fun F1 X1 sk1 => ?_)
            refine c_st (st2 := []) rfl ?_
            refine hv2 (xl1.ty ty2) (show ivb1 a0 2 ≤ ivh1 a0 2 ∧ ivh1 a0 2 ≤ ivb1 a0 2 + 1 from exf1) (fun ty3 gf1 => ?_)
            have ri2 : 0 ≤ ivh1 a0 2 ∧ ivh1 a0 2 ≤ 6003 := W1.int ty3 2
            refine c_aload_n (j := 1) (x := a0) C dX3_gatherPart_64 rfl ?_
            refine c_aload_n (j := 2) (x := ob1) C dX3_gatherPart_65 rfl ?_
            refine hv2 (xl1.ty ty1) (show rvh1 ob1 6 = rvb1 ob1 6 from (fl1.r ty1 rfl 6)) (fun ty4 re1 => ?_)
            rw [rq1] at re1
            refine c_getr (k := 6) C ck_10 dX3_gatherPart_66 w2_193 (by decide) ty4 rfl rfl (by decide) rfl re1 ?_
            refine c_st (st2 := [.ref rb1, .ref a0]) rfl ?_
            refine c_iconst C dX3_gatherPart_69 ?_
            have ty5 := xl1.ty trb1
            have ll2 : 4 ≤ lnh1 rb1 ∧ lnh1 rb1 ≤ 4 := W1.len ty5 rfl
            rcases W1.opt ty5 ((1 : Int).toNat) rfl rfl with ⟨nq2, _⟩ | ⟨nb2, nq2, tnb2⟩
            · refine c_aaldR C dX3_gatherPart_70 ty5 rfl (by omega) (by omega) (by omega) nq2 ?_
              refine c_st (st2 := [.null, .ref a0]) rfl ?_
              have pl2 := Phi.le W1 sk1
              refine d_callS (As := [.ref a0, .null]) (rest := []) C hM (C_addInd_25 (a0 := a0) (r := none) W1 sk1 ty3 (fun _ q => by cases q)  (by show ivh1 a0 2 < 6003; omega)) dX3_gatherPart_71 kS_X3_67 rfl rfl (Nat.le_of_ble_eq_true rfl) ⟨(Nat.le_of_ble_eq_true rfl), (Nat.le_of_ble_eq_true rfl)⟩ hph pl2 (show 0 + 0 = 0 from rfl) (by decide) (fun rh2 Lh2 clh2 lnh2 ivh2 rvh2 h2 => ?_)
              obtain ⟨rfl, xl2, fl2, W2, exf2⟩ := h2
              refine hv3 (F1.call X1 fl2 rfl) (X1.trans xl2) (xl2.skl sk1) (fun F2 X2 sk2 => ?_)
              refine c_st (st2 := []) rfl ?_
              refine hv3 (xl2.ty ty3) (show ivh1 a0 2 ≤ ivh2 a0 2 ∧ ivh2 a0 2 ≤ ivh1 a0 2 + 1 from exf2) (Phi.le W2 sk2) (fun ty6 gf2 pl3 => ?_)
              have ri3 : 0 ≤ ivh2 a0 2 ∧ ivh2 a0 2 ≤ 6003 := W2.int ty6 2
              exact c_vret C dX3_gatherPart_74 rfl (by decide) (rom0 hph pl3 (by decide)) ⟨rfl, X2, F2, W2, (by omega)⟩
            · have tnb2 : ty Lh1 clh1 nb2 20 := tnb2
              refine c_aaldR C dX3_gatherPart_70 ty5 rfl (by omega) (by omega) (by omega) nq2 ?_
              refine c_st (st2 := [.ref nb2, .ref a0]) rfl ?_
              have pl4 := Phi.le W1 sk1
              refine d_callS (As := [.ref a0, .ref nb2]) (rest := []) C hM (C_addInd_25 (a0 := a0) (r := (some nb2)) W1 sk1 ty3 (fun _ q => by cases q; exact tnb2)  (by show ivh1 a0 2 < 6003; omega)) dX3_gatherPart_71 kS_X3_67 rfl rfl (Nat.le_of_ble_eq_true rfl) ⟨(Nat.le_of_ble_eq_true rfl), (Nat.le_of_ble_eq_true rfl)⟩ hph pl4 (show 0 + 0 = 0 from rfl) (by decide) (fun rh3 Lh3 clh3 lnh3 ivh3 rvh3 h3 => ?_)
              obtain ⟨rfl, xl3, fl3, W3, exf3⟩ := h3
              refine hv3 (F1.call X1 fl3 rfl) (X1.trans xl3) (xl3.skl sk1) (fun F3 X3 sk3 => ?_)
              refine c_st (st2 := []) rfl ?_
              refine hv3 (xl3.ty ty3) (show ivh1 a0 2 ≤ ivh3 a0 2 ∧ ivh3 a0 2 ≤ ivh1 a0 2 + 1 from exf3) (Phi.le W3 sk3) (fun ty7 gf3 pl5 => ?_)
              have ri4 : 0 ≤ ivh3 a0 2 ∧ ivh3 a0 2 ≤ 6003 := W3.int ty7 2
              exact c_vret C dX3_gatherPart_74 rfl (by decide) (rom0 hph pl5 (by decide)) ⟨rfl, X3, F3, W3, (by omega)⟩
          · have tnb1 : ty Lb1 clb1 nb1 20 := tnb1
            refine c_aaldR C dX3_gatherPart_60 trb1 rfl (by omega) (by omega) (by omega) nq1 ?_
            refine c_st (st2 := [.ref nb1, .ref a0]) rfl ?_
            refine hv2 (Xb1.ty t_a0) (Phi.le Wb1 skb1) (fun ty8 pl6 => ?_)
            have ri5 : 0 ≤ ivb1 a0 2 ∧ ivb1 a0 2 ≤ 6003 := Wb1.int ty8 2
            refine d_callS (As := [.ref a0, .ref nb1]) (rest := []) C hM (C_addInd_25 (a0 := a0) (r := (some nb1)) Wb1 skb1 ty8 (fun _ q => by cases q; exact tnb1)  (by show ivb1 a0 2 < 6003; omega)) dX3_gatherPart_61 kS_X3_67 rfl rfl (Nat.le_of_ble_eq_true rfl) ⟨(Nat.le_of_ble_eq_true rfl), (Nat.le_of_ble_eq_true rfl)⟩ hph pl6 (show 0 + 0 = 0 from rfl) (by decide) (fun rh4 Lh4 clh4 lnh4 ivh4 rvh4 h4 => ?_)
            obtain ⟨rfl, xl4, fl4, W4, exf4⟩ := h4
            refine hv3 (Fb1.call Xb1 fl4 rfl) (Xb1.trans xl4) (xl4.skl skb1) (fun F4 X4 sk4 => ?_)
            refine c_st (st2 := []) rfl ?_
            refine hv2 (xl4.ty ty8) (show ivb1 a0 2 ≤ ivh4 a0 2 ∧ ivh4 a0 2 ≤ ivb1 a0 2 + 1 from exf4) (fun ty9 gf4 => ?_)
            have ri6 : 0 ≤ ivh4 a0 2 ∧ ivh4 a0 2 ≤ 6003 := W4.int ty9 2
            refine c_aload_n (j := 1) (x := a0) C dX3_gatherPart_64 rfl ?_
            refine c_aload_n (j := 2) (x := ob1) C dX3_gatherPart_65 rfl ?_
            refine hv2 (xl4.ty ty1) (show rvh4 ob1 6 = rvb1 ob1 6 from (fl4.r ty1 rfl 6)) (fun ty10 re2 => ?_)
            rw [rq1] at re2
            refine c_getr (k := 6) C ck_10 dX3_gatherPart_66 w2_193 (by decide) ty10 rfl rfl (by decide) rfl re2 ?_
            refine c_st (st2 := [.ref rb1, .ref a0]) rfl ?_
            refine c_iconst C dX3_gatherPart_69 ?_
            have ty11 := xl4.ty trb1
            have ll3 : 4 ≤ lnh4 rb1 ∧ lnh4 rb1 ≤ 4 := W4.len ty11 rfl
            rcases W4.opt ty11 ((1 : Int).toNat) rfl rfl with ⟨nq3, _⟩ | ⟨nb3, nq3, tnb3⟩
            · refine c_aaldR C dX3_gatherPart_70 ty11 rfl (by omega) (by omega) (by omega) nq3 ?_
              refine c_st (st2 := [.null, .ref a0]) rfl ?_
              have pl7 := Phi.le W4 sk4
              refine d_callS (As := [.ref a0, .null]) (rest := []) C hM (C_addInd_25 (a0 := a0) (r := none) W4 sk4 ty9 (fun _ q => by cases q)  (by show ivh4 a0 2 < 6003; omega)) dX3_gatherPart_71 kS_X3_67 rfl rfl (Nat.le_of_ble_eq_true rfl) ⟨(Nat.le_of_ble_eq_true rfl), (Nat.le_of_ble_eq_true rfl)⟩ hph pl7 (show 0 + 0 = 0 from rfl) (by decide) (fun rh5 Lh5 clh5 lnh5 ivh5 rvh5 h5 => ?_)
              obtain ⟨rfl, xl5, fl5, W5, exf5⟩ := h5
              refine hv4 (F4.call X4 fl5 rfl) (xl4.ty tnb1) (X4.trans xl5) (xl5.skl sk4) (fun F5 ty12 X5 sk5 => ?_)
              refine c_st (st2 := []) rfl ?_
              refine hv3 (xl5.ty ty9) (show ivh4 a0 2 ≤ ivh5 a0 2 ∧ ivh5 a0 2 ≤ ivh4 a0 2 + 1 from exf5) (Phi.le W5 sk5) (fun ty13 gf5 pl8 => ?_)
              have ri7 : 0 ≤ ivh5 a0 2 ∧ ivh5 a0 2 ≤ 6003 := W5.int ty13 2
              exact c_vret C dX3_gatherPart_74 rfl (by decide) (rom0 hph pl8 (by decide)) ⟨rfl, X5, F5, W5, (by omega)⟩
            · have tnb3 : ty Lh4 clh4 nb3 20 := tnb3
              refine c_aaldR C dX3_gatherPart_70 ty11 rfl (by omega) (by omega) (by omega) nq3 ?_
              refine c_st (st2 := [.ref nb3, .ref a0]) rfl ?_
              have pl9 := Phi.le W4 sk4
              refine d_callS (As := [.ref a0, .ref nb3]) (rest := []) C hM (C_addInd_25 (a0 := a0) (r := (some nb3)) W4 sk4 ty9 (fun _ q => by cases q; exact tnb3)  (by show ivh4 a0 2 < 6003; omega)) dX3_gatherPart_71 kS_X3_67 rfl rfl (Nat.le_of_ble_eq_true rfl) ⟨(Nat.le_of_ble_eq_true rfl), (Nat.le_of_ble_eq_true rfl)⟩ hph pl9 (show 0 + 0 = 0 from rfl) (by decide) (fun rh6 Lh6 clh6 lnh6 ivh6 rvh6 h6 => ?_)
              obtain ⟨rfl, xl6, fl6, W6, exf6⟩ := h6
              refine hv4 (F4.call X4 fl6 rfl) (xl4.ty tnb1) (X4.trans xl6) (xl6.skl sk4) (fun F6 ty14 X6 sk6 => ?_)
              refine c_st (st2 := []) rfl ?_
              refine hv3 (xl6.ty ty9) (show ivh4 a0 2 ≤ ivh6 a0 2 ∧ ivh6 a0 2 ≤ ivh4 a0 2 + 1 from exf6) (Phi.le W6 sk6) (fun ty15 gf6 pl10 => ?_)
              have ri8 : 0 ≤ ivh6 a0 2 ∧ ivh6 a0 2 ≤ 6003 := W6.int ty15 2
              exact c_vret C dX3_gatherPart_74 rfl (by decide) (rom0 hph pl10 (by decide)) ⟨rfl, X6, F6, W6, (by omega)⟩
        · subst oq2
          refine hv2 (ty_tq ob2 rfl) (hrk ob2 rfl) (fun tob2 hkob2 => ?_)
          have tgob2 := bt_100 tob2.2
          refine c_lv (lv2 := [(2, .ref ob2), (0, .ref a0), (1, .ref ob1)]) [0, 1, 2] rfl ?_
          refine c_st (st2 := []) rfl ?_
          refine c_iconst C dX3_gatherPart_11 ?_
          refine c_istore_n (lv2 := [(3, .int (iI 0)), (2, .ref ob2), (0, .ref a0), (1, .ref ob1)]) C dX3_gatherPart_12 (by decide) rfl ?_
          have Lp2 : ∀ (nn : Nat) (tr : Nat) (k : Int) (Lb2 : List Nat) (clb2 lnb2 : Nat → Nat) (ivb2 : Nat → Nat → Int) (rvb2 : Nat → Nat → Option Nat) , 201 - k < (nn : Int) → XT L cl ln Lb2 clb2 lnb2 → WT (g0 G) sk Lb2 clb2 lnb2 ivb2 rvb2 → fT [25, 1003] L cl iv rv ivb2 rvb2 → (ty Lb2 clb2 tr 100) → (0 ≤ k ∧ k ≤ 200) → (ivb2 a0 2 ≤ 200 * (129 - rk) + k) → (100 ≤ clb2 tr ∧ ((clb2 tr : Nat) : Int) ≤ rk) → cw p l e 8 ((PHM) + 0 - ((Phi (g0 G) sk) ln rv)) s m args below meth c G A 4 (MQ below (Qu G A (Qp G (Phi (g0 G) sk) ((Phi (g0 G) sk) ln rv) 0 (fun v L2 cl2 ln2 iv2 rv2 => v = none ∧ XT L cl ln L2 cl2 ln2 ∧ fT [25, 1003] L cl iv rv iv2 rv2 ∧ WT (g0 G) sk L2 cl2 ln2 iv2 rv2 ∧ (iv2 a0 2 ≤ 6002)))) args s (((PHM) + 0 - ((Phi (g0 G) sk) ln rv)) / 16) ((PHM) + 0 - ((Phi (g0 G) sk) ln rv)) A) (Phi (g0 G) sk) ((Phi (g0 G) sk) ln rv) Lb2 clb2 lnb2 ivb2 rvb2 0 13 [(2, .ref tr), (3, .int (iI k)), (0, .ref a0), (1, .ref ob1)] [] := by
            intro nn
            induction nn with
            | zero =>
              intro tr k Lb2 clb2 lnb2 ivb2 rvb2 hm Xb2 Wb2 Fb2 ty_tr hk hs2 hcr
              have skb2 := Xb2.skl hS
              exact absurd hm (by omega)
            | succ nn ih2 =>
              intro tr k Lb2 clb2 lnb2 ivb2 rvb2 hm Xb2 Wb2 Fb2 ty_tr hk hs2 hcr
              have skb2 := Xb2.skl hS
              refine c_iload_n (j := 1) C dX3_gatherPart_13 rfl ?_
              refine c_aload_n (j := 0) (x := tr) C dX3_gatherPart_14 rfl ?_
              obtain ⟨rb2, rq2, trb2⟩ := Wb2.ref ty_tr 4 rfl rfl rfl
              refine c_getr (k := 4) C ck_10 dX3_gatherPart_15 w2_187 (by decide) ty_tr rfl rfl (by decide) rfl rq2 ?_
              refine c_st (st2 := [.ref rb2, .int (iI k)]) rfl ?_
              refine hv2 (show 0 ≤ ivb2 rb2 2 ∧ ivb2 rb2 2 ≤ 200 from Wb2.int trb2 2) (Phi.le Wb2 skb2) (fun ri9 pl11 => ?_)
              refine d_callV (As := []) (rest := [.int (iI k)]) C hM (C_size_26 (a0 := rb2) Wb2 skb2 trb2  ) dX3_gatherPart_18 kV_X3_78 rfl trb2 rfl rfl (by decide) ck_0 rfl (Nat.le_of_ble_eq_true rfl) ⟨(Nat.le_of_ble_eq_true rfl), (Nat.le_of_ble_eq_true rfl)⟩ hph pl11 (show 0 + 0 = 0 from rfl) (by decide) (fun rh7 Lh7 clh7 lnh7 ivh7 rvh7 h7 => ?_)
              obtain ⟨f7, rfl, rfl, rfl, rfl, rfl, rfl, rgf7, exf7⟩ := h7
              refine c_st (st2 := [.int (iI f7), .int (iI k)]) rfl ?_
              have gf7 : f7 = ivb2 rb2 2 := exf7
              refine c_icmp_ge (tgt := 46) C (r32_c (lo := 0) (hi := 200) hk.1 hk.2 (by decide) (by decide)) ⟨by omega, by omega⟩ dX3_gatherPart_21 (by decide) (fun c1 => ?_) (fun c1 => ?_)
              · refine c_aload_n (j := 0) (x := tr) C dX3_gatherPart_46 rfl ?_
                rcases Wb2.opt ty_tr 2 rfl rfl with ⟨nq4, _⟩ | ⟨nb4, nq4, tnb4⟩
                · refine c_getr (k := 2) C ck_10 dX3_gatherPart_47 w2_181 (by decide) ty_tr rfl rfl (by decide) rfl nq4 ?_
                  refine c_st (st2 := [.null]) rfl ?_
                  refine c_astorer_n (r := none) (lv2 := [(2, .null), (3, .int (iI k)), (0, .ref a0), (1, .ref ob1)]) C dX3_gatherPart_50 (by decide) rfl ?_
                  refine c_goto (tgt := 7) C dX3_gatherPart_51 (by decide) ?_
                  have ty16 := Xb2.ty t_a0
                  have ri10 : 0 ≤ ivb2 a0 2 ∧ ivb2 a0 2 ≤ 6003 := Wb2.int ty16 2
                  refine c_lv (lv2 := [(2, .null), (0, .ref a0), (1, .ref ob1)]) [0, 2, 3] rfl ?_
                  exact ih1  none (rk - 1) _ _ _ _ _ (by omega) Xb2 Wb2 Fb2 (fun _ q => by cases q) (by omega) (by show ivb2 a0 2 ≤ 200 * (129 - (rk - 1)); omega) (fun _ q => by cases q)
                · have rknb4 := Wb2.rank ty_tr (k := 2) (by decide) nq4
                  refine c_getr (k := 2) C ck_10 dX3_gatherPart_47 w2_181 (by decide) ty_tr rfl rfl (by decide) rfl nq4 ?_
                  refine c_st (st2 := [.ref nb4]) rfl ?_
                  refine c_astore_n (lv2 := [(2, .ref nb4), (3, .int (iI k)), (0, .ref a0), (1, .ref ob1)]) C dX3_gatherPart_50 (by decide) rfl ?_
                  refine c_goto (tgt := 7) C dX3_gatherPart_51 (by decide) ?_
                  refine hv2 (Xb2.ty t_a0) (bt_100 tnb4.2) (fun ty17 trnb4 => ?_)
                  have ri11 : 0 ≤ ivb2 a0 2 ∧ ivb2 a0 2 ≤ 6003 := Wb2.int ty17 2
                  refine c_lv (lv2 := [(2, .ref nb4), (0, .ref a0), (1, .ref ob1)]) [0, 2, 3] rfl ?_
                  exact ih1  (some nb4) (rk - 1) _ _ _ _ _ (by omega) Xb2 Wb2 Fb2 (fun _ q => by cases q; exact tnb4) (by omega) (by show ivb2 a0 2 ≤ 200 * (129 - (rk - 1)); omega) (fun _ q => by cases q; omega)
              · refine c_aload_n (j := 2) (x := a0) C dX3_gatherPart_24 rfl ?_
                refine c_aload_n (j := 0) (x := tr) C dX3_gatherPart_25 rfl ?_
                refine c_getr (k := 4) C ck_10 dX3_gatherPart_26 w2_187 (by decide) ty_tr rfl rfl (by decide) rfl rq2 ?_
                refine c_st (st2 := [.ref rb2, .ref a0]) rfl ?_
                refine c_iload_n (j := 1) C dX3_gatherPart_29 rfl ?_
                refine d_callV (As := [.int (iI k)]) (rest := [.ref a0]) C hM (C_get_26 (a0 := rb2) (i := k) Wb2 skb2 trb2 (by omega) (by show 0 ≤ k ∧ k < ivb2 rb2 2; omega)) dX3_gatherPart_30 kV_X3_82 rfl trb2 rfl rfl (by decide) ck_0 rfl (Nat.le_of_ble_eq_true rfl) ⟨(Nat.le_of_ble_eq_true rfl), (Nat.le_of_ble_eq_true rfl)⟩ hph pl11 (show 0 + 0 = 0 from rfl) (by decide) (fun rh8 Lh8 clh8 lnh8 ivh8 rvh8 h8 => ?_)
                obtain ⟨f8, rfl, rfl, rfl, rfl, rfl, rfl, rgf8, exf8⟩ := h8
                refine c_st (st2 := [.ref f8, .ref a0]) rfl ?_
                have gf8 : el rvb2 rb2 k.toNat = some f8 := exf8
                refine c_cast C ck_6 dX3_gatherPart_33 w5_63 w8_169t rgf8 rfl rfl (by decide) ?_
                have ty18 := Xb2.ty t_a0
                have ri12 : 0 ≤ ivb2 a0 2 ∧ ivb2 a0 2 ≤ 6003 := Wb2.int ty18 2
                refine d_callV (As := [.ref f8]) (rest := []) C hM (C_add_25 (a0 := a0) (x := f8) Wb2 skb2 ty18 rgf8  (by show ivb2 a0 2 < 6003; omega)) dX3_gatherPart_36 kV_X3_97 rfl ty18 rfl rfl (by decide) ck_0 rfl (Nat.le_of_ble_eq_true rfl) ⟨(Nat.le_of_ble_eq_true rfl), (Nat.le_of_ble_eq_true rfl)⟩ hph pl11 (show 0 + 0 = 0 from rfl) (by decide) (fun rh9 Lh9 clh9 lnh9 ivh9 rvh9 h9 => ?_)
                obtain ⟨f9, rfl, xl9, fl9, W9, rgf9, exf9⟩ := h9
                refine hv4 (Fb2.call Xb2 fl9 rfl) (Xb2.ty tob1) (Xb2.trans xl9) (xl9.skl skb2) (fun F7 ty19 X7 sk7 => ?_)
                refine c_st (st2 := [.int (iI f9)]) rfl ?_
                refine hv2 (xl9.ty ty18) (show ivh9 a0 2 = ivb2 a0 2 + 1 ∧ el rvh9 a0 (ivb2 a0 2).toNat = some f8 ∧ ∀ i : Nat, (i : Int) < ivb2 a0 2 → el rvh9 a0 i = el rvb2 a0 i from exf9) (fun ty20 gf9 => ?_)
                have ri13 : 0 ≤ ivh9 a0 2 ∧ ivh9 a0 2 ≤ 6003 := W9.int ty20 2
                refine c_pop C dX3_gatherPart_39 rfl ?_
                refine c_iinc (z := k) (j := 1) (lv2 := [(3, .int (iI (k + 1))), (2, .ref tr), (0, .ref a0), (1, .ref ob1)]) C dX3_gatherPart_40 rfl (by decide) rfl ?_
                refine c_goto (tgt := 13) C dX3_gatherPart_43 (by decide) ?_
                refine hv2 (xl9.ty ty_tr) (show clh9 tr = clb2 tr from (xl9 tr ty_tr.1).2.1) (fun ty21 ce1 => ?_)
                refine c_lv (lv2 := [(2, .ref tr), (3, .int (iI (k + 1))), (0, .ref a0), (1, .ref ob1)]) [1, 0, 2, 3] rfl ?_
                exact ih2  tr (k + 1) _ _ _ _ _ (by omega) X7 W9 F7 ty21 (by omega) (by show ivh9 a0 2 ≤ 200 * (129 - rk) + (k + 1); omega) (by show 100 ≤ clh9 tr ∧ ((clh9 tr : Nat) : Int) ≤ rk; omega)
          have ty22 := Xb1.ty t_a0
          have ri14 : 0 ≤ ivb1 a0 2 ∧ ivb1 a0 2 ≤ 6003 := Wb1.int ty22 2
          refine c_lv (lv2 := [(2, .ref ob2), (3, .int (iI 0)), (0, .ref a0), (1, .ref ob1)]) [1, 0, 2, 3] rfl ?_
          exact Lp2 203 ob2 0 _ _ _ _ _ (by omega) Xb1 Wb1 Fb1 tob2 (by omega) (by show ivb1 a0 2 ≤ 200 * (129 - rk) + 0; omega) (by show 100 ≤ clb1 ob2 ∧ ((clb1 ob2 : Nat) : Int) ≤ rk; omega)
    refine hv2 (show 0 ≤ iv a0 2 ∧ iv a0 2 ≤ 6003 from hW.int t_a0 2) (bt_100 tob1.2) (fun ri15 trob1 => ?_)
    refine c_lv (lv2 := [(2, .ref ob1), (0, .ref a0), (1, .ref ob1)]) [0, 1, 2] rfl ?_
    exact Lp1 31 (some ob1) 129 _ _ _ _ _ (by omega) hX0 hW hF0 (fun _ q => by cases q; exact tob1) (by omega) (by show iv a0 2 ≤ 200 * (129 - 129); omega) (fun _ q => by cases q; omega)
  · subst oq1
    refine c_lv (lv2 := [(0, .ref a0), (1, .null)]) [0, 1] rfl ?_
    refine c_st (st2 := []) rfl ?_
    have ri16 : 0 ≤ iv a0 2 ∧ iv a0 2 ≤ 6003 := hW.int t_a0 2
    exact c_vret C dX3_gatherPart_4 rfl (by decide) (rom0 hph hph (by decide)) ⟨rfl, hX0, hF0, hW, (by omega)⟩
set_option maxHeartbeats 4000000 in
set_option maxRecDepth 100000 in
theorem C_isReadable_25 {l : Launch} {G : GT} {mi : Nat} {sk : Nat → Nat} {L : List Nat} {cl ln : Nat → Nat} {iv : Nat → Nat → Int} {rv : Nat → Nat → Option Nat}  {a0 : Nat} {x : Int} (hW : WT (g0 G) sk L cl ln iv rv) (hS : SKL sk L cl) (t_a0 : ty L cl a0 25) (h_x : -2147483648 ≤ x ∧ x ≤ 2147483647)  : Mc l G mi (Phi (g0 G) sk) PHM yX3_isReadable cX3_isReadable 6 (some .boolean) 3 [.ref a0, .int (iI x)] L cl ln iv rv 0 (fun v L2 cl2 ln2 iv2 rv2 => ∃ f : Int, v = some (.int (iI f)) ∧ L = L2 ∧ cl = cl2 ∧ ln = ln2 ∧ iv = iv2 ∧ rv = rv2 ∧ (f = 0 ∨ f = 1) ∧ (True)) := by
  refine Mc.mk (by decide) (Nat.le_of_ble_eq_true rfl) ?_
  intro p e s m args below meth c A C hM
  refine hv3 (Phi.le hW hS) (show XT L cl ln L cl ln from XT.refl) (show fT [] L cl iv rv iv rv from fT.refl) (fun hph hX0 hF0 => ?_)
  refine c_aload_n (j := 0) (x := a0) C dX3_isReadable_0 rfl ?_
  have ri1 : 0 ≤ iv a0 2 ∧ iv a0 2 ≤ 6003 := hW.int t_a0 2
  refine d_callV (As := []) (rest := []) C hM (C_size_25 (a0 := a0) hW hS t_a0  ) dX3_isReadable_1 kV_X3_78 rfl t_a0 rfl rfl (by decide) ck_0 rfl (Nat.le_of_ble_eq_true rfl) ⟨(Nat.le_of_ble_eq_true rfl), (Nat.le_of_ble_eq_true rfl)⟩ hph hph (show 0 + 0 = 0 from rfl) (by decide) (fun rh1 Lh1 clh1 lnh1 ivh1 rvh1 h1 => ?_)
  obtain ⟨f1, rfl, rfl, rfl, rfl, rfl, rfl, rgf1, exf1⟩ := h1
  refine c_st (st2 := [.int (iI f1)]) rfl ?_
  have gf1 : f1 = iv a0 2 := exf1
  refine c_istore_n (lv2 := [(2, .int (iI f1)), (0, .ref a0), (1, .int (iI x))]) C dX3_isReadable_4 (by decide) rfl ?_
  refine c_iconst C dX3_isReadable_5 ?_
  refine c_istore_n (lv2 := [(3, .int (iI 0)), (2, .int (iI f1)), (0, .ref a0), (1, .int (iI x))]) C dX3_isReadable_6 (by decide) rfl ?_
  have Lp1 : ∀ (nn : Nat) (k : Int) , 6004 - k < (nn : Int) → (0 ≤ k ∧ k ≤ 6003) → cw p l e 3 ((PHM) + 0 - ((Phi (g0 G) sk) ln rv)) s m args below meth c G A 6 (MQ below (Qu G A (Qp G (Phi (g0 G) sk) ((Phi (g0 G) sk) ln rv) 0 (fun v L2 cl2 ln2 iv2 rv2 => ∃ f : Int, v = some (.int (iI f)) ∧ L = L2 ∧ cl = cl2 ∧ ln = ln2 ∧ iv = iv2 ∧ rv = rv2 ∧ (f = 0 ∨ f = 1) ∧ (True)))) args s (((PHM) + 0 - ((Phi (g0 G) sk) ln rv)) / 16) ((PHM) + 0 - ((Phi (g0 G) sk) ln rv)) A) (Phi (g0 G) sk) ((Phi (g0 G) sk) ln rv) L cl ln iv rv 0 7 [(3, .int (iI k)), (2, .int (iI f1)), (0, .ref a0), (1, .int (iI x))] [] := by
    intro nn
    induction nn with
    | zero =>
      intro  k  hm   hk
      exact absurd hm (by omega)
    | succ nn ih1 =>
      intro  k  hm   hk
      refine c_iload_n (j := 0) C dX3_isReadable_7 rfl ?_
      refine c_iload_n (j := 1) C dX3_isReadable_8 rfl ?_
      refine c_icmp_ge (tgt := 79) C (r32_c (lo := 0) (hi := 6003) hk.1 hk.2 (by decide) (by decide)) ⟨by omega, by omega⟩ dX3_isReadable_9 (by decide) (fun c1 => ?_) (fun c1 => ?_)
      · refine c_iconst C dX3_isReadable_79 ?_
        exact c_zret C dX3_isReadable_80 rfl (Or.inr rfl) (by decide) (rom0 hph hph (by decide)) ⟨1, rfl, rfl, rfl, rfl, rfl, rfl, (Or.inr rfl), trivial⟩
      · refine c_aload_n (j := 2) (x := a0) C dX3_isReadable_12 rfl ?_
        refine c_iload_n (j := 0) C dX3_isReadable_13 rfl ?_
        refine d_callV (As := [.int (iI k)]) (rest := []) C hM (C_get_25 (a0 := a0) (i := k) hW hS t_a0 (by omega) (by show 0 ≤ k ∧ k < iv a0 2; omega)) dX3_isReadable_14 kV_X3_82 rfl t_a0 rfl rfl (by decide) ck_0 rfl (Nat.le_of_ble_eq_true rfl) ⟨(Nat.le_of_ble_eq_true rfl), (Nat.le_of_ble_eq_true rfl)⟩ hph hph (show 0 + 0 = 0 from rfl) (by decide) (fun rh2 Lh2 clh2 lnh2 ivh2 rvh2 h2 => ?_)
        obtain ⟨f2, rfl, rfl, rfl, rfl, rfl, rfl, rgf2, exf2⟩ := h2
        refine c_st (st2 := [.ref f2]) rfl ?_
        have gf2 : el rv a0 k.toNat = some f2 := exf2
        refine c_cast C ck_6 dX3_isReadable_17 w5_63 w8_169t rgf2 rfl rfl (by decide) ?_
        refine c_astore (lv2 := [(4, .ref f2), (3, .int (iI k)), (2, .int (iI f1)), (0, .ref a0), (1, .int (iI x))]) C dX3_isReadable_20 (by decide) rfl ?_
        refine c_aload (j := 0) (x := f2) C dX3_isReadable_22 rfl ?_
        refine c_iload_n (j := 4) C dX3_isReadable_24 rfl ?_
        refine d_callV (As := [.int (iI x)]) (rest := []) C hM (C_rends (a0 := f2) (x := x) hW hS rgf2 (by omega) ) dX3_isReadable_25 kV_X3_100 rfl rgf2 rfl rfl (by decide) ck_6 rfl (Nat.le_of_ble_eq_true rfl) ⟨(Nat.le_of_ble_eq_true rfl), (Nat.le_of_ble_eq_true rfl)⟩ hph hph (show 0 + 0 = 0 from rfl) (by decide) (fun rh3 Lh3 clh3 lnh3 ivh3 rvh3 h3 => ?_)
        obtain ⟨f3, rfl, rfl, rfl, rfl, rfl, rfl, rgf3, exf3⟩ := h3
        refine c_st (st2 := [.int (iI f3)]) rfl ?_
        refine c_if_eq (tgt := 33) C ⟨by omega, by omega⟩ dX3_isReadable_28 (by decide) (fun c2 => ?_) (fun c2 => ?_)
        · refine c_iconst C dX3_isReadable_33 ?_
          refine c_istore (lv2 := [(5, .int (iI 0)), (4, .ref f2), (3, .int (iI k)), (2, .int (iI f1)), (0, .ref a0), (1, .int (iI x))]) C dX3_isReadable_34 (by decide) rfl ?_
          have Lp2 : ∀ (nn : Nat) (k2 : Int) , 6004 - k2 < (nn : Int) → (0 ≤ k2 ∧ k2 ≤ 6003) → cw p l e 3 ((PHM) + 0 - ((Phi (g0 G) sk) ln rv)) s m args below meth c G A 6 (MQ below (Qu G A (Qp G (Phi (g0 G) sk) ((Phi (g0 G) sk) ln rv) 0 (fun v L2 cl2 ln2 iv2 rv2 => ∃ f : Int, v = some (.int (iI f)) ∧ L = L2 ∧ cl = cl2 ∧ ln = ln2 ∧ iv = iv2 ∧ rv = rv2 ∧ (f = 0 ∨ f = 1) ∧ (True)))) args s (((PHM) + 0 - ((Phi (g0 G) sk) ln rv)) / 16) ((PHM) + 0 - ((Phi (g0 G) sk) ln rv)) A) (Phi (g0 G) sk) ((Phi (g0 G) sk) ln rv) L cl ln iv rv 0 36 [(5, .int (iI k2)), (4, .ref f2), (3, .int (iI k)), (2, .int (iI f1)), (0, .ref a0), (1, .int (iI x))] [] := by
            intro nn
            induction nn with
            | zero =>
              intro  k2  hm   hk2
              exact absurd hm (by omega)
            | succ nn ih2 =>
              intro  k2  hm   hk2
              refine c_iload (j := 0) C dX3_isReadable_36 rfl ?_
              refine c_iload_n (j := 3) C dX3_isReadable_38 rfl ?_
              refine c_icmp_ge (tgt := 73) C (r32_c (lo := 0) (hi := 6003) hk2.1 hk2.2 (by decide) (by decide)) ⟨by omega, by omega⟩ dX3_isReadable_39 (by decide) (fun c3 => ?_) (fun c3 => ?_)
              · refine c_iinc (z := k) (j := 2) (lv2 := [(3, .int (iI (k + 1))), (5, .int (iI k2)), (4, .ref f2), (2, .int (iI f1)), (0, .ref a0), (1, .int (iI x))]) C dX3_isReadable_73 rfl (by decide) rfl ?_
                refine c_goto (tgt := 7) C dX3_isReadable_76 (by decide) ?_
                refine c_lv (lv2 := [(3, .int (iI (k + 1))), (2, .int (iI f1)), (0, .ref a0), (1, .int (iI x))]) [0, 3, 4, 5] rfl ?_
                exact ih1  (k + 1)  (by omega)   (by omega)
              · refine c_iload (j := 0) C dX3_isReadable_42 rfl ?_
                refine c_iload_n (j := 2) C dX3_isReadable_44 rfl ?_
                refine c_icmp_eq (tgt := 67) C (r32_c (lo := 0) (hi := 6003) hk2.1 hk2.2 (by decide) (by decide)) (r32_c (lo := 0) (hi := 6003) hk.1 hk.2 (by decide) (by decide)) dX3_isReadable_45 (by decide) (fun c4 => ?_) (fun c4 => ?_)
                · refine c_iinc (z := k2) (j := 0) (lv2 := [(5, .int (iI (k2 + 1))), (4, .ref f2), (3, .int (iI k)), (2, .int (iI f1)), (0, .ref a0), (1, .int (iI x))]) C dX3_isReadable_67 rfl (by decide) rfl ?_
                  refine c_goto (tgt := 36) C dX3_isReadable_70 (by decide) ?_
                  refine c_lv (lv2 := [(5, .int (iI (k2 + 1))), (4, .ref f2), (3, .int (iI k)), (2, .int (iI f1)), (0, .ref a0), (1, .int (iI x))]) [0, 1, 2, 3, 4, 5] rfl ?_
                  exact ih2  (k2 + 1)  (by omega)   (by omega)
                · refine c_aload (j := 1) (x := f2) C dX3_isReadable_48 rfl ?_
                  refine c_aload_n (j := 4) (x := a0) C dX3_isReadable_50 rfl ?_
                  refine c_iload (j := 0) C dX3_isReadable_51 rfl ?_
                  refine d_callV (As := [.int (iI k2)]) (rest := [.ref f2]) C hM (C_get_25 (a0 := a0) (i := k2) hW hS t_a0 (by omega) (by show 0 ≤ k2 ∧ k2 < iv a0 2; omega)) dX3_isReadable_53 kV_X3_82 rfl t_a0 rfl rfl (by decide) ck_0 rfl (Nat.le_of_ble_eq_true rfl) ⟨(Nat.le_of_ble_eq_true rfl), (Nat.le_of_ble_eq_true rfl)⟩ hph hph (show 0 + 0 = 0 from rfl) (by decide) (fun rh4 Lh4 clh4 lnh4 ivh4 rvh4 h4 => ?_)
                  obtain ⟨f4, rfl, rfl, rfl, rfl, rfl, rfl, rgf4, exf4⟩ := h4
                  refine c_st (st2 := [.ref f4, .ref f2]) rfl ?_
                  have gf4 : el rv a0 k2.toNat = some f4 := exf4
                  refine c_cast C ck_6 dX3_isReadable_56 w5_63 w8_169t rgf4 rfl rfl (by decide) ?_
                  refine d_callV (As := [.ref f4]) (rest := []) C hM (C_isAtBegin (a0 := f2) (a1 := f4) hW hS rgf2 rgf4  ) dX3_isReadable_59 kV_X3_104 rfl rgf2 rfl rfl (by decide) ck_6 rfl (Nat.le_of_ble_eq_true rfl) ⟨(Nat.le_of_ble_eq_true rfl), (Nat.le_of_ble_eq_true rfl)⟩ hph hph (show 0 + 0 = 0 from rfl) (by decide) (fun rh5 Lh5 clh5 lnh5 ivh5 rvh5 h5 => ?_)
                  obtain ⟨f5, rfl, rfl, rfl, rfl, rfl, rfl, rgf5, exf5⟩ := h5
                  refine c_st (st2 := [.int (iI f5)]) rfl ?_
                  refine c_if_eq (tgt := 67) C ⟨by omega, by omega⟩ dX3_isReadable_62 (by decide) (fun c5 => ?_) (fun c5 => ?_)
                  · refine c_iinc (z := k2) (j := 0) (lv2 := [(5, .int (iI (k2 + 1))), (4, .ref f2), (3, .int (iI k)), (2, .int (iI f1)), (0, .ref a0), (1, .int (iI x))]) C dX3_isReadable_67 rfl (by decide) rfl ?_
                    refine c_goto (tgt := 36) C dX3_isReadable_70 (by decide) ?_
                    refine c_lv (lv2 := [(5, .int (iI (k2 + 1))), (4, .ref f2), (3, .int (iI k)), (2, .int (iI f1)), (0, .ref a0), (1, .int (iI x))]) [0, 1, 2, 3, 4, 5] rfl ?_
                    exact ih2  (k2 + 1)  (by omega)   (by omega)
                  · refine c_iconst C dX3_isReadable_65 ?_
                    exact c_zret C dX3_isReadable_66 rfl (Or.inl rfl) (by decide) (rom0 hph hph (by decide)) ⟨0, rfl, rfl, rfl, rfl, rfl, rfl, (Or.inl rfl), trivial⟩
          refine c_lv (lv2 := [(5, .int (iI 0)), (4, .ref f2), (3, .int (iI k)), (2, .int (iI f1)), (0, .ref a0), (1, .int (iI x))]) [0, 1, 2, 3, 4, 5] rfl ?_
          exact Lp2 6006 0  (by omega)   (by omega)
        · refine c_iconst C dX3_isReadable_31 ?_
          exact c_zret C dX3_isReadable_32 rfl (Or.inl rfl) (by decide) (rom0 hph hph (by decide)) ⟨0, rfl, rfl, rfl, rfl, rfl, rfl, (Or.inl rfl), trivial⟩
  refine c_lv (lv2 := [(3, .int (iI 0)), (2, .int (iI f1)), (0, .ref a0), (1, .int (iI x))]) [0, 1, 2, 3] rfl ?_
  exact Lp1 6006 0  (by omega)   (by omega)
set_option maxHeartbeats 4000000 in
set_option maxRecDepth 100000 in
theorem C_gather {l : Launch} {G : GT} {mi : Nat} {sk : Nat → Nat} {L : List Nat} {cl ln : Nat → Nat} {iv : Nat → Nat → Int} {rv : Nat → Nat → Option Nat}  {a0 : Nat} {a1 : Nat} (hW : WT (g0 G) sk L cl ln iv rv) (hS : SKL sk L cl) (t_a0 : ty L cl a0 16) (t_a1 : ty L cl a1 100)  : Mc l G mi (Phi (g0 G) sk) PHM yX3_gather cX3_gather 2 none 9 [.ref a0, .ref a1] L cl ln iv rv 0 (fun v L2 cl2 ln2 iv2 rv2 => v = none ∧ XT L cl ln L2 cl2 ln2 ∧ fT [24, 1002, 25, 1003, 6, 36, 7, 37] L cl iv rv iv2 rv2 ∧ WT (g0 G) sk L2 cl2 ln2 iv2 rv2 ∧ (True)) := by
  refine Mc.mk (by decide) (Nat.le_of_ble_eq_true rfl) ?_
  intro p e s m args below meth c A C hM
  refine hv10 (Phi.le hW hS) (show ty L cl (sk 6) 6 from ⟨(hS 6 rfl).1, by rw [(hS 6 rfl).2]; rfl⟩) (show ty L cl (sk 7) 7 from ⟨(hS 7 rfl).1, by rw [(hS 7 rfl).2]; rfl⟩) (show ty L cl (sk 8) 8 from ⟨(hS 8 rfl).1, by rw [(hS 8 rfl).2]; rfl⟩) (show ty L cl (sk 9) 9 from ⟨(hS 9 rfl).1, by rw [(hS 9 rfl).2]; rfl⟩) (show ty L cl (sk 10) 10 from ⟨(hS 10 rfl).1, by rw [(hS 10 rfl).2]; rfl⟩) (show ty L cl (sk 24) 24 from ⟨(hS 24 rfl).1, by rw [(hS 24 rfl).2]; rfl⟩) (show ty L cl (sk 25) 25 from ⟨(hS 25 rfl).1, by rw [(hS 25 rfl).2]; rfl⟩) (show XT L cl ln L cl ln from XT.refl) (show fT [24, 1002, 25, 1003, 6, 36, 7, 37] L cl iv rv iv rv from fT.refl) (fun hph tsk6 tsk7 tsk8 tsk9 tsk10 tsk24 tsk25 hX0 hF0 => ?_)
  refine c_aload_n (j := 0) (x := a0) C dX3_gather_0 rfl ?_
  obtain ⟨rb1, rq1, trb1⟩ := hW.ref t_a0 0 rfl rfl rfl
  have erb1 := hW.sk trb1 (by decide) rfl
  subst erb1
  refine c_getr (k := 0) C ck_4 dX3_gather_1 w1_190 (by decide) t_a0 rfl rfl (by decide) rfl rq1 ?_
  refine c_st (st2 := [.ref (sk 24)]) rfl ?_
  refine d_callV (As := []) (rest := []) C hM (C_lclear_24 (a0 := (sk 24)) hW hS tsk24  ) dX3_gather_4 kV_X3_47 rfl tsk24 rfl rfl (by decide) ck_0 rfl (Nat.le_of_ble_eq_true rfl) ⟨(Nat.le_of_ble_eq_true rfl), (Nat.le_of_ble_eq_true rfl)⟩ hph hph (show 0 + 0 = 0 from rfl) (by decide) (fun rh1 Lh1 clh1 lnh1 ivh1 rvh1 h1 => ?_)
  obtain ⟨rfl, rfl, rfl, rfl, fl1, W1, exf1⟩ := h1
  have F1 := hF0.call hX0 fl1 rfl
  refine c_st (st2 := []) rfl ?_
  refine hv2 (show 0 ≤ ivh1 (sk 24) 2 ∧ ivh1 (sk 24) 2 ≤ 6003 from W1.int tsk24 2) (show ivh1 (sk 24) 2 = 0 from exf1) (fun ri1 gf1 => ?_)
  refine c_aload_n (j := 0) (x := a0) C dX3_gather_7 rfl ?_
  obtain ⟨rb2, rq2, trb2⟩ := W1.ref t_a0 1 rfl rfl rfl
  have erb2 := W1.sk trb2 (by decide) rfl
  subst erb2
  refine c_getr (k := 1) C ck_4 dX3_gather_8 w1_193 (by decide) t_a0 rfl rfl (by decide) rfl rq2 ?_
  refine c_st (st2 := [.ref (sk 25)]) rfl ?_
  have pl1 := Phi.le W1 hS
  refine d_callV (As := []) (rest := []) C hM (C_lclear_25 (a0 := (sk 25)) W1 hS tsk25  ) dX3_gather_11 kV_X3_47 rfl tsk25 rfl rfl (by decide) ck_0 rfl (Nat.le_of_ble_eq_true rfl) ⟨(Nat.le_of_ble_eq_true rfl), (Nat.le_of_ble_eq_true rfl)⟩ hph pl1 (show 0 + 0 = 0 from rfl) (by decide) (fun rh2 Lh2 clh2 lnh2 ivh2 rvh2 h2 => ?_)
  obtain ⟨rfl, rfl, rfl, rfl, fl2, W2, exf2⟩ := h2
  have F2 := F1.call hX0 fl2 rfl
  refine c_st (st2 := []) rfl ?_
  refine hv2 (show 0 ≤ ivh2 (sk 25) 2 ∧ ivh2 (sk 25) 2 ≤ 6003 from W2.int tsk25 2) (show ivh2 (sk 25) 2 = 0 from exf2) (fun ri2 gf2 => ?_)
  refine c_aload_n (j := 1) (x := a1) C dX3_gather_14 rfl ?_
  refine hv3 (show (-2147483648) ≤ ivh2 a1 0 ∧ ivh2 a1 0 ≤ 2147483647 from W2.int t_a1 0) (show ivh2 a1 0 = ivh1 a1 0 from fl2.i t_a1 rfl 0) (show ivh1 a1 0 = iv a1 0 from fl1.i t_a1 rfl 0) (fun ri3 ie3 ie4 => ?_)
  refine c_get (k := 0) C ck_10 dX3_gather_15 w2_175 (by decide) t_a1 rfl rfl (by decide) rfl ?_
  refine c_iconst C dX3_gather_18 ?_
  refine c_icmp_ne (tgt := 73) C (r32_c (lo := (-2147483648)) (hi := 2147483647) ri3.1 ri3.2 (by decide) (by decide)) ⟨by decide, by decide⟩ dX3_gather_19 (by decide) (fun c1 => ?_) (fun c1 => ?_)
  · refine c_aload_n (j := 0) (x := a0) C dX3_gather_73 rfl ?_
    have re1 : rvh1 a0 0 = rv a0 0 := (fl1.r t_a0 rfl 0)
    rw [rq1] at re1
    have re2 : rvh2 a0 0 = rvh1 a0 0 := (fl2.r t_a0 rfl 0)
    rw [re1] at re2
    refine c_getr (k := 0) C ck_4 dX3_gather_74 w1_190 (by decide) t_a0 rfl rfl (by decide) rfl re2 ?_
    refine c_st (st2 := [.ref (sk 24)]) rfl ?_
    refine c_aload_n (j := 1) (x := a1) C dX3_gather_77 rfl ?_
    refine hv3 (show 0 ≤ ivh2 (sk 24) 2 ∧ ivh2 (sk 24) 2 ≤ 6003 from W2.int tsk24 2) (show ivh2 (sk 24) 2 = ivh1 (sk 24) 2 from fl2.i tsk24 rfl 2) (Phi.le W2 hS) (fun ri4 ie5 pl2 => ?_)
    refine d_callS (As := [.ref (sk 24), .ref a1]) (rest := []) C hM (C_gatherPart_24 (a0 := (sk 24)) (r := (some a1)) W2 hS tsk24 (fun _ q => by cases q; exact t_a1)  (by show ivh2 (sk 24) 2 = 0; omega)) dX3_gather_78 kS_X3_59 rfl rfl (Nat.le_of_ble_eq_true rfl) ⟨(Nat.le_of_ble_eq_true rfl), (Nat.le_of_ble_eq_true rfl)⟩ hph pl2 (show 0 + 0 = 0 from rfl) (by decide) (fun rh3 Lh3 clh3 lnh3 ivh3 rvh3 h3 => ?_)
    obtain ⟨rfl, xl3, fl3, W3, exf3⟩ := h3
    refine hv3 (F2.call hX0 fl3 rfl) (hX0.trans xl3) (xl3.skl hS) (fun F3 X1 sk1 => ?_)
    refine c_st (st2 := []) rfl ?_
    refine hv2 (xl3.ty tsk24) (show ivh3 (sk 24) 2 ≤ 6002 from exf3) (fun ty1 gf3 => ?_)
    have ri5 : 0 ≤ ivh3 (sk 24) 2 ∧ ivh3 (sk 24) 2 ≤ 6003 := W3.int ty1 2
    refine c_aload_n (j := 0) (x := a0) C dX3_gather_81 rfl ?_
    refine hv2 (xl3.ty t_a0) (show rvh3 a0 0 = rvh2 a0 0 from (fl3.r t_a0 rfl 0)) (fun ty2 re3 => ?_)
    rw [re2] at re3
    refine c_getr (k := 0) C ck_4 dX3_gather_82 w1_190 (by decide) ty2 rfl rfl (by decide) rfl re3 ?_
    refine c_st (st2 := [.ref (sk 24)]) rfl ?_
    refine c_aload_n (j := 0) (x := a0) C dX3_gather_85 rfl ?_
    obtain ⟨rb3, rq3, trb3⟩ := W3.ref ty2 2 rfl rfl rfl
    have erb3 := W3.sk trb3 (by decide) rfl
    subst erb3
    refine c_getr (k := 2) C ck_4 dX3_gather_86 w1_196 (by decide) ty2 rfl rfl (by decide) rfl rq3 ?_
    refine c_st (st2 := [.ref (sk 6), .ref (sk 24)]) rfl ?_
    refine hv2 (xl3.ty tsk6) (Phi.le W3 sk1) (fun ty3 pl3 => ?_)
    refine d_callS (As := [.ref (sk 24), .ref (sk 6)]) (rest := []) C hM (C_markBegins_24 (a0 := (sk 24)) (a1 := (sk 6)) W3 sk1 ty1 ty3  ) dX3_gather_89 kS_X3_73 rfl rfl (Nat.le_of_ble_eq_true rfl) ⟨(Nat.le_of_ble_eq_true rfl), (Nat.le_of_ble_eq_true rfl)⟩ hph pl3 (show 0 + 0 = 0 from rfl) (by decide) (fun rh4 Lh4 clh4 lnh4 ivh4 rvh4 h4 => ?_)
    obtain ⟨rfl, xl4, fl4, W4, exf4⟩ := h4
    refine hv9 (F3.call X1 fl4 rfl) (xl3.ty t_a1) (xl3.ty tsk7) (xl3.ty tsk8) (xl3.ty tsk9) (xl3.ty tsk10) (xl3.ty tsk25) (X1.trans xl4) (xl4.skl sk1) (fun F4 ty4 ty5 ty6 ty7 ty8 ty9 X2 sk2 => ?_)
    refine c_st (st2 := []) rfl ?_
    refine c_aload_n (j := 0) (x := a0) C dX3_gather_92 rfl ?_
    refine hv2 (xl4.ty ty2) (show rvh2 a0 1 = rvh1 a0 1 from (fl2.r t_a0 rfl 1)) (fun ty10 re4 => ?_)
    rw [rq2] at re4
    have re5 : rvh3 a0 1 = rvh2 a0 1 := (fl3.r t_a0 rfl 1)
    rw [re4] at re5
    have re6 : rvh4 a0 1 = rvh3 a0 1 := (fl4.r ty2 rfl 1)
    rw [re5] at re6
    refine c_getr (k := 1) C ck_4 dX3_gather_93 w1_193 (by decide) ty10 rfl rfl (by decide) rfl re6 ?_
    refine c_st (st2 := [.ref (sk 25)]) rfl ?_
    refine c_aload_n (j := 0) (x := a0) C dX3_gather_96 rfl ?_
    obtain ⟨rb4, rq4, trb4⟩ := W4.ref ty10 3 rfl rfl rfl
    have erb4 := W4.sk trb4 (by decide) rfl
    subst erb4
    refine c_getr (k := 3) C ck_4 dX3_gather_97 w1_197 (by decide) ty10 rfl rfl (by decide) rfl rq4 ?_
    refine c_st (st2 := [.ref (sk 7), .ref (sk 25)]) rfl ?_
    refine hv3 (xl4.ty ty9) (xl4.ty ty5) (Phi.le W4 sk2) (fun ty11 ty12 pl4 => ?_)
    refine d_callS (As := [.ref (sk 25), .ref (sk 7)]) (rest := []) C hM (C_markBegins_25 (a0 := (sk 25)) (a1 := (sk 7)) W4 sk2 ty11 ty12  ) dX3_gather_100 kS_X3_73 rfl rfl (Nat.le_of_ble_eq_true rfl) ⟨(Nat.le_of_ble_eq_true rfl), (Nat.le_of_ble_eq_true rfl)⟩ hph pl4 (show 0 + 0 = 0 from rfl) (by decide) (fun rh5 Lh5 clh5 lnh5 ivh5 rvh5 h5 => ?_)
    obtain ⟨rfl, xl5, fl5, W5, exf5⟩ := h5
    refine hv9 (F4.call X2 fl5 rfl) (xl4.ty ty4) (xl4.ty ty3) (xl4.ty ty6) (xl4.ty ty7) (xl4.ty ty8) (xl4.ty ty1) (X2.trans xl5) (xl5.skl sk2) (fun F5 ty13 ty14 ty15 ty16 ty17 ty18 X3 sk3 => ?_)
    refine c_st (st2 := []) rfl ?_
    have pl5 := Phi.le W5 sk3
    exact c_vret C dX3_gather_103 rfl (by decide) (rom0 hph pl5 (by decide)) ⟨rfl, X3, F5, W5, trivial⟩
  · refine c_aload_n (j := 0) (x := a0) C dX3_gather_22 rfl ?_
    have re7 : rvh1 a0 0 = rv a0 0 := (fl1.r t_a0 rfl 0)
    rw [rq1] at re7
    have re8 : rvh2 a0 0 = rvh1 a0 0 := (fl2.r t_a0 rfl 0)
    rw [re7] at re8
    refine c_getr (k := 0) C ck_4 dX3_gather_23 w1_190 (by decide) t_a0 rfl rfl (by decide) rfl re8 ?_
    refine c_st (st2 := [.ref (sk 24)]) rfl ?_
    refine c_aload_n (j := 1) (x := a1) C dX3_gather_26 rfl ?_
    obtain ⟨nb1, nq1, tnb1⟩ := opt_n (W2.opt t_a1 2 rfl rfl)
    have tnb1 : ∀ b, nb1 = some b → ty L cl b 100 := tnb1
    refine c_getr (k := 2) C ck_10 dX3_gather_27 w2_181 (by decide) t_a1 rfl rfl (by decide) rfl nq1 ?_
    refine c_st (st2 := [(va_rf nb1), .ref (sk 24)]) rfl ?_
    refine hv3 (show 0 ≤ ivh2 (sk 24) 2 ∧ ivh2 (sk 24) 2 ≤ 6003 from W2.int tsk24 2) (show ivh2 (sk 24) 2 = ivh1 (sk 24) 2 from fl2.i tsk24 rfl 2) (Phi.le W2 hS) (fun ri6 ie7 pl6 => ?_)
    refine d_callS (As := [.ref (sk 24), (va_rf nb1)]) (rest := []) C hM (C_gatherPart_24 (a0 := (sk 24)) (r := nb1) W2 hS tsk24 tnb1  (by show ivh2 (sk 24) 2 = 0; omega)) dX3_gather_30 kS_X3_59 rfl rfl (Nat.le_of_ble_eq_true rfl) ⟨(Nat.le_of_ble_eq_true rfl), (Nat.le_of_ble_eq_true rfl)⟩ hph pl6 (show 0 + 0 = 0 from rfl) (by decide) (fun rh6 Lh6 clh6 lnh6 ivh6 rvh6 h6 => ?_)
    obtain ⟨rfl, xl6, fl6, W6, exf6⟩ := h6
    refine hv3 (F2.call hX0 fl6 rfl) (hX0.trans xl6) (xl6.skl hS) (fun F6 X4 sk4 => ?_)
    refine c_st (st2 := []) rfl ?_
    refine hv2 (xl6.ty tsk24) (show ivh6 (sk 24) 2 ≤ 6002 from exf6) (fun ty19 gf6 => ?_)
    have ri7 : 0 ≤ ivh6 (sk 24) 2 ∧ ivh6 (sk 24) 2 ≤ 6003 := W6.int ty19 2
    refine c_aload_n (j := 0) (x := a0) C dX3_gather_33 rfl ?_
    refine hv2 (xl6.ty t_a0) (show rvh6 a0 0 = rvh2 a0 0 from (fl6.r t_a0 rfl 0)) (fun ty20 re9 => ?_)
    rw [re8] at re9
    refine c_getr (k := 0) C ck_4 dX3_gather_34 w1_190 (by decide) ty20 rfl rfl (by decide) rfl re9 ?_
    refine c_st (st2 := [.ref (sk 24)]) rfl ?_
    refine c_aload_n (j := 1) (x := a1) C dX3_gather_37 rfl ?_
    have ty21 := xl6.ty t_a1
    obtain ⟨rb5, rq5, trb5⟩ := W6.ref ty21 6 rfl rfl rfl
    have lnrb5 : 4 ≤ lnh6 rb5 ∧ lnh6 rb5 ≤ 4 := W6.len trb5 rfl
    refine c_getr (k := 6) C ck_10 dX3_gather_38 w2_193 (by decide) ty21 rfl rfl (by decide) rfl rq5 ?_
    refine c_st (st2 := [.ref rb5, .ref (sk 24)]) rfl ?_
    refine c_iconst C dX3_gather_41 ?_
    have ll1 : 4 ≤ lnh6 rb5 ∧ lnh6 rb5 ≤ 4 := W6.len trb5 rfl
    obtain ⟨nb2, nq2, tnb2⟩ := opt_n (W6.opt trb5 ((2 : Int).toNat) rfl rfl)
    have tnb2 : ∀ b, nb2 = some b → ty Lh6 clh6 b 20 := tnb2
    refine c_aaldR C dX3_gather_42 trb5 rfl (by omega) (by omega) (by omega) nq2 ?_
    refine c_st (st2 := [(va_rf nb2), .ref (sk 24)]) rfl ?_
    have pl7 := Phi.le W6 sk4
    refine d_callS (As := [.ref (sk 24), (va_rf nb2)]) (rest := []) C hM (C_addInd_24 (a0 := (sk 24)) (r := nb2) W6 sk4 ty19 tnb2  (by show ivh6 (sk 24) 2 < 6003; omega)) dX3_gather_43 kS_X3_67 rfl rfl (Nat.le_of_ble_eq_true rfl) ⟨(Nat.le_of_ble_eq_true rfl), (Nat.le_of_ble_eq_true rfl)⟩ hph pl7 (show 0 + 0 = 0 from rfl) (by decide) (fun rh7 Lh7 clh7 lnh7 ivh7 rvh7 h7 => ?_)
    obtain ⟨rfl, xl7, fl7, W7, exf7⟩ := h7
    refine hv9 (F6.call X4 fl7 rfl) (xl6.ty tsk6) (xl6.ty tsk7) (xl6.ty tsk8) (xl6.ty tsk9) (xl6.ty tsk10) (xl6.ty tsk25) (X4.trans xl7) (xl7.skl sk4) (fun F7 ty22 ty23 ty24 ty25 ty26 ty27 X5 sk5 => ?_)
    refine c_st (st2 := []) rfl ?_
    refine hv2 (xl7.ty ty19) (show ivh6 (sk 24) 2 ≤ ivh7 (sk 24) 2 ∧ ivh7 (sk 24) 2 ≤ ivh6 (sk 24) 2 + 1 from exf7) (fun ty28 gf7 => ?_)
    have ri8 : 0 ≤ ivh7 (sk 24) 2 ∧ ivh7 (sk 24) 2 ≤ 6003 := W7.int ty28 2
    refine c_aload_n (j := 0) (x := a0) C dX3_gather_46 rfl ?_
    refine hv2 (xl7.ty ty20) (show rvh2 a0 1 = rvh1 a0 1 from (fl2.r t_a0 rfl 1)) (fun ty29 re10 => ?_)
    rw [rq2] at re10
    have re11 : rvh6 a0 1 = rvh2 a0 1 := (fl6.r t_a0 rfl 1)
    rw [re10] at re11
    have re12 : rvh7 a0 1 = rvh6 a0 1 := (fl7.r ty20 rfl 1)
    rw [re11] at re12
    refine c_getr (k := 1) C ck_4 dX3_gather_47 w1_193 (by decide) ty29 rfl rfl (by decide) rfl re12 ?_
    refine c_st (st2 := [.ref (sk 25)]) rfl ?_
    refine c_aload_n (j := 1) (x := a1) C dX3_gather_50 rfl ?_
    have ty30 := xl7.ty ty21
    obtain ⟨nb3, nq3, tnb3⟩ := opt_n (W7.opt ty30 3 rfl rfl)
    have tnb3 : ∀ b, nb3 = some b → ty Lh7 clh7 b 100 := tnb3
    refine c_getr (k := 3) C ck_10 dX3_gather_51 w2_184 (by decide) ty30 rfl rfl (by decide) rfl nq3 ?_
    refine c_st (st2 := [(va_rf nb3), .ref (sk 25)]) rfl ?_
    refine hv4 (xl7.ty ty27) (show ivh7 (sk 25) 2 = ivh6 (sk 25) 2 from fl7.i ty27 rfl 2) (show ivh6 (sk 25) 2 = ivh2 (sk 25) 2 from fl6.i tsk25 rfl 2) (Phi.le W7 sk5) (fun ty31 ie10 ie11 pl8 => ?_)
    have ri9 : 0 ≤ ivh7 (sk 25) 2 ∧ ivh7 (sk 25) 2 ≤ 6003 := W7.int ty31 2
    refine d_callS (As := [.ref (sk 25), (va_rf nb3)]) (rest := []) C hM (C_gatherPart_25 (a0 := (sk 25)) (r := nb3) W7 sk5 ty31 tnb3  (by show ivh7 (sk 25) 2 = 0; omega)) dX3_gather_54 kS_X3_59 rfl rfl (Nat.le_of_ble_eq_true rfl) ⟨(Nat.le_of_ble_eq_true rfl), (Nat.le_of_ble_eq_true rfl)⟩ hph pl8 (show 0 + 0 = 0 from rfl) (by decide) (fun rh8 Lh8 clh8 lnh8 ivh8 rvh8 h8 => ?_)
    obtain ⟨rfl, xl8, fl8, W8, exf8⟩ := h8
    refine hv9 (F7.call X5 fl8 rfl) (xl7.ty ty22) (xl7.ty ty23) (xl7.ty ty24) (xl7.ty ty25) (xl7.ty ty26) (xl7.ty trb5) (X5.trans xl8) (xl8.skl sk5) (fun F8 ty32 ty33 ty34 ty35 ty36 ty37 X6 sk6 => ?_)
    refine c_st (st2 := []) rfl ?_
    refine hv2 (xl8.ty ty31) (show ivh8 (sk 25) 2 ≤ 6002 from exf8) (fun ty38 gf8 => ?_)
    have ri10 : 0 ≤ ivh8 (sk 25) 2 ∧ ivh8 (sk 25) 2 ≤ 6003 := W8.int ty38 2
    refine c_aload_n (j := 0) (x := a0) C dX3_gather_57 rfl ?_
    refine hv2 (xl8.ty ty29) (show rvh8 a0 1 = rvh7 a0 1 from (fl8.r ty29 rfl 1)) (fun ty39 re13 => ?_)
    rw [re12] at re13
    refine c_getr (k := 1) C ck_4 dX3_gather_58 w1_193 (by decide) ty39 rfl rfl (by decide) rfl re13 ?_
    refine c_st (st2 := [.ref (sk 25)]) rfl ?_
    refine c_aload_n (j := 1) (x := a1) C dX3_gather_61 rfl ?_
    refine hv2 (xl8.ty ty30) (show rvh7 a1 6 = rvh6 a1 6 from (fl7.r ty21 rfl 6)) (fun ty40 re14 => ?_)
    rw [rq5] at re14
    have re15 : rvh8 a1 6 = rvh7 a1 6 := (fl8.r ty30 rfl 6)
    rw [re14] at re15
    refine c_getr (k := 6) C ck_10 dX3_gather_62 w2_193 (by decide) ty40 rfl rfl (by decide) rfl re15 ?_
    refine c_st (st2 := [.ref rb5, .ref (sk 25)]) rfl ?_
    refine c_iconst C dX3_gather_65 ?_
    have ty41 := xl8.ty ty37
    have ll2 : 4 ≤ lnh8 rb5 ∧ lnh8 rb5 ≤ 4 := W8.len ty41 rfl
    obtain ⟨nb4, nq4, tnb4⟩ := opt_n (W8.opt ty41 ((3 : Int).toNat) rfl rfl)
    have tnb4 : ∀ b, nb4 = some b → ty Lh8 clh8 b 20 := tnb4
    refine c_aaldR C dX3_gather_66 ty41 rfl (by omega) (by omega) (by omega) nq4 ?_
    refine c_st (st2 := [(va_rf nb4), .ref (sk 25)]) rfl ?_
    have pl9 := Phi.le W8 sk6
    refine d_callS (As := [.ref (sk 25), (va_rf nb4)]) (rest := []) C hM (C_addInd_25 (a0 := (sk 25)) (r := nb4) W8 sk6 ty38 tnb4  (by show ivh8 (sk 25) 2 < 6003; omega)) dX3_gather_67 kS_X3_67 rfl rfl (Nat.le_of_ble_eq_true rfl) ⟨(Nat.le_of_ble_eq_true rfl), (Nat.le_of_ble_eq_true rfl)⟩ hph pl9 (show 0 + 0 = 0 from rfl) (by decide) (fun rh9 Lh9 clh9 lnh9 ivh9 rvh9 h9 => ?_)
    obtain ⟨rfl, xl9, fl9, W9, exf9⟩ := h9
    refine hv9 (F8.call X6 fl9 rfl) (xl8.ty ty32) (xl8.ty ty33) (xl8.ty ty34) (xl8.ty ty35) (xl8.ty ty36) (xl8.ty ty28) (X6.trans xl9) (xl9.skl sk6) (fun F9 ty42 ty43 ty44 ty45 ty46 ty47 X7 sk7 => ?_)
    refine c_st (st2 := []) rfl ?_
    refine hv2 (xl9.ty ty38) (show ivh8 (sk 25) 2 ≤ ivh9 (sk 25) 2 ∧ ivh9 (sk 25) 2 ≤ ivh8 (sk 25) 2 + 1 from exf9) (fun ty48 gf9 => ?_)
    have ri11 : 0 ≤ ivh9 (sk 25) 2 ∧ ivh9 (sk 25) 2 ≤ 6003 := W9.int ty48 2
    refine c_goto (tgt := 81) C dX3_gather_70 (by decide) ?_
    refine c_aload_n (j := 0) (x := a0) C dX3_gather_81 rfl ?_
    refine hv2 (xl9.ty ty39) (show rvh7 a0 0 = rvh6 a0 0 from (fl7.r ty20 rfl 0)) (fun ty49 re16 => ?_)
    rw [re9] at re16
    have re17 : rvh8 a0 0 = rvh7 a0 0 := (fl8.r ty29 rfl 0)
    rw [re16] at re17
    have re18 : rvh9 a0 0 = rvh8 a0 0 := (fl9.r ty39 rfl 0)
    rw [re17] at re18
    refine c_getr (k := 0) C ck_4 dX3_gather_82 w1_190 (by decide) ty49 rfl rfl (by decide) rfl re18 ?_
    refine c_st (st2 := [.ref (sk 24)]) rfl ?_
    refine c_aload_n (j := 0) (x := a0) C dX3_gather_85 rfl ?_
    obtain ⟨rb6, rq6, trb6⟩ := W9.ref ty49 2 rfl rfl rfl
    have erb6 := W9.sk trb6 (by decide) rfl
    subst erb6
    refine c_getr (k := 2) C ck_4 dX3_gather_86 w1_196 (by decide) ty49 rfl rfl (by decide) rfl rq6 ?_
    refine c_st (st2 := [.ref (sk 6), .ref (sk 24)]) rfl ?_
    refine hv3 (xl9.ty ty47) (xl9.ty ty42) (Phi.le W9 sk7) (fun ty50 ty51 pl10 => ?_)
    refine d_callS (As := [.ref (sk 24), .ref (sk 6)]) (rest := []) C hM (C_markBegins_24 (a0 := (sk 24)) (a1 := (sk 6)) W9 sk7 ty50 ty51  ) dX3_gather_89 kS_X3_73 rfl rfl (Nat.le_of_ble_eq_true rfl) ⟨(Nat.le_of_ble_eq_true rfl), (Nat.le_of_ble_eq_true rfl)⟩ hph pl10 (show 0 + 0 = 0 from rfl) (by decide) (fun rh10 Lh10 clh10 lnh10 ivh10 rvh10 h10 => ?_)
    obtain ⟨rfl, xl10, fl10, W10, exf10⟩ := h10
    refine hv9 (F9.call X7 fl10 rfl) (xl9.ty ty40) (xl9.ty ty43) (xl9.ty ty44) (xl9.ty ty45) (xl9.ty ty46) (xl9.ty ty41) (X7.trans xl10) (xl10.skl sk7) (fun F10 ty52 ty53 ty54 ty55 ty56 ty57 X8 sk8 => ?_)
    refine c_st (st2 := []) rfl ?_
    refine c_aload_n (j := 0) (x := a0) C dX3_gather_92 rfl ?_
    refine hv2 (xl10.ty ty49) (show rvh9 a0 1 = rvh8 a0 1 from (fl9.r ty39 rfl 1)) (fun ty58 re19 => ?_)
    rw [re13] at re19
    have re20 : rvh10 a0 1 = rvh9 a0 1 := (fl10.r ty49 rfl 1)
    rw [re19] at re20
    refine c_getr (k := 1) C ck_4 dX3_gather_93 w1_193 (by decide) ty58 rfl rfl (by decide) rfl re20 ?_
    refine c_st (st2 := [.ref (sk 25)]) rfl ?_
    refine c_aload_n (j := 0) (x := a0) C dX3_gather_96 rfl ?_
    obtain ⟨rb7, rq7, trb7⟩ := W10.ref ty58 3 rfl rfl rfl
    have erb7 := W10.sk trb7 (by decide) rfl
    subst erb7
    refine c_getr (k := 3) C ck_4 dX3_gather_97 w1_197 (by decide) ty58 rfl rfl (by decide) rfl rq7 ?_
    refine c_st (st2 := [.ref (sk 7), .ref (sk 25)]) rfl ?_
    refine hv3 (xl10.ty ty48) (xl10.ty ty53) (Phi.le W10 sk8) (fun ty59 ty60 pl11 => ?_)
    refine d_callS (As := [.ref (sk 25), .ref (sk 7)]) (rest := []) C hM (C_markBegins_25 (a0 := (sk 25)) (a1 := (sk 7)) W10 sk8 ty59 ty60  ) dX3_gather_100 kS_X3_73 rfl rfl (Nat.le_of_ble_eq_true rfl) ⟨(Nat.le_of_ble_eq_true rfl), (Nat.le_of_ble_eq_true rfl)⟩ hph pl11 (show 0 + 0 = 0 from rfl) (by decide) (fun rh11 Lh11 clh11 lnh11 ivh11 rvh11 h11 => ?_)
    obtain ⟨rfl, xl11, fl11, W11, exf11⟩ := h11
    refine hv10 (F10.call X8 fl11 rfl) (xl10.ty ty52) (xl10.ty ty51) (xl10.ty ty54) (xl10.ty ty55) (xl10.ty ty56) (xl10.ty ty50) (xl10.ty ty57) (X8.trans xl11) (xl11.skl sk8) (fun F11 ty61 ty62 ty63 ty64 ty65 ty66 ty67 X9 sk9 => ?_)
    refine c_st (st2 := []) rfl ?_
    have pl12 := Phi.le W11 sk9
    exact c_vret C dX3_gather_103 rfl (by decide) (rom0 hph pl12 (by decide)) ⟨rfl, X9, F11, W11, trivial⟩
set_option maxHeartbeats 4000000 in
set_option maxRecDepth 100000 in
theorem C_clearCells {l : Launch} {G : GT} {mi : Nat} {sk : Nat → Nat} {L : List Nat} {cl ln : Nat → Nat} {iv : Nat → Nat → Int} {rv : Nat → Nat → Option Nat}  {a0 : Nat} (hW : WT (g0 G) sk L cl ln iv rv) (hS : SKL sk L cl) (t_a0 : ty L cl a0 16)  : Mc l G mi (Phi (g0 G) sk) PHM yX3_clearCells cX3_clearCells 1 none 1 [.ref a0] L cl ln iv rv 0 (fun v L2 cl2 ln2 iv2 rv2 => v = none ∧ L = L2 ∧ cl = cl2 ∧ ln = ln2 ∧ rv = rv2 ∧ fT [8, 9] L cl iv rv iv2 rv2 ∧ WT (g0 G) sk L2 cl2 ln2 iv2 rv2 ∧ (iv2 (sk 8) 2 = 0)) := by
  refine Mc.mk (by decide) (Nat.le_of_ble_eq_true rfl) ?_
  intro p e s m args below meth c A C hM
  refine hv10 (Phi.le hW hS) (show ty L cl (sk 6) 6 from ⟨(hS 6 rfl).1, by rw [(hS 6 rfl).2]; rfl⟩) (show ty L cl (sk 7) 7 from ⟨(hS 7 rfl).1, by rw [(hS 7 rfl).2]; rfl⟩) (show ty L cl (sk 8) 8 from ⟨(hS 8 rfl).1, by rw [(hS 8 rfl).2]; rfl⟩) (show ty L cl (sk 9) 9 from ⟨(hS 9 rfl).1, by rw [(hS 9 rfl).2]; rfl⟩) (show ty L cl (sk 10) 10 from ⟨(hS 10 rfl).1, by rw [(hS 10 rfl).2]; rfl⟩) (show ty L cl (sk 24) 24 from ⟨(hS 24 rfl).1, by rw [(hS 24 rfl).2]; rfl⟩) (show ty L cl (sk 25) 25 from ⟨(hS 25 rfl).1, by rw [(hS 25 rfl).2]; rfl⟩) (show XT L cl ln L cl ln from XT.refl) (show fT [8, 9] L cl iv rv iv rv from fT.refl) (fun hph tsk6 tsk7 tsk8 tsk9 tsk10 tsk24 tsk25 hX0 hF0 => ?_)
  refine c_aload_n (j := 0) (x := a0) C dX3_clearCells_0 rfl ?_
  obtain ⟨rb1, rq1, trb1⟩ := hW.ref t_a0 4 rfl rfl rfl
  have erb1 := hW.sk trb1 (by decide) rfl
  subst erb1
  refine c_getr (k := 4) C ck_4 dX3_clearCells_1 w1_198 (by decide) t_a0 rfl rfl (by decide) rfl rq1 ?_
  refine c_st (st2 := [.ref (sk 8)]) rfl ?_
  refine d_callV (As := []) (rest := []) C hM (C_clear_8 (a0 := (sk 8)) hW hS tsk8  ) dX3_clearCells_4 kV_X3_77 rfl tsk8 rfl rfl (by decide) ck_2 rfl (Nat.le_of_ble_eq_true rfl) ⟨(Nat.le_of_ble_eq_true rfl), (Nat.le_of_ble_eq_true rfl)⟩ hph hph (show 0 + 0 = 0 from rfl) (by decide) (fun rh1 Lh1 clh1 lnh1 ivh1 rvh1 h1 => ?_)
  obtain ⟨rfl, rfl, rfl, rfl, rfl, fl1, W1, exf1⟩ := h1
  have F1 := hF0.call hX0 fl1 rfl
  refine c_st (st2 := []) rfl ?_
  refine hv2 (show 0 ≤ ivh1 (sk 8) 2 ∧ ivh1 (sk 8) 2 ≤ 40200 from W1.int tsk8 2) (show ivh1 (sk 8) 2 = 0 from exf1) (fun ri1 gf1 => ?_)
  refine c_aload_n (j := 0) (x := a0) C dX3_clearCells_7 rfl ?_
  obtain ⟨rb2, rq2, trb2⟩ := W1.ref t_a0 5 rfl rfl rfl
  have erb2 := W1.sk trb2 (by decide) rfl
  subst erb2
  refine c_getr (k := 5) C ck_4 dX3_clearCells_8 w1_199 (by decide) t_a0 rfl rfl (by decide) rfl rq2 ?_
  refine c_st (st2 := [.ref (sk 9)]) rfl ?_
  refine d_callV (As := []) (rest := []) C hM (C_clear_9 (a0 := (sk 9)) W1 hS tsk9  ) dX3_clearCells_11 kV_X3_77 rfl tsk9 rfl rfl (by decide) ck_2 rfl (Nat.le_of_ble_eq_true rfl) ⟨(Nat.le_of_ble_eq_true rfl), (Nat.le_of_ble_eq_true rfl)⟩ hph hph (show 0 + 0 = 0 from rfl) (by decide) (fun rh2 Lh2 clh2 lnh2 ivh2 rvh2 h2 => ?_)
  obtain ⟨rfl, rfl, rfl, rfl, rfl, fl2, W2, exf2⟩ := h2
  have F2 := F1.call hX0 fl2 rfl
  refine c_st (st2 := []) rfl ?_
  refine hv4 (show 0 ≤ ivh2 (sk 9) 2 ∧ ivh2 (sk 9) 2 ≤ 40200 from W2.int tsk9 2) (show ivh2 (sk 9) 2 = 0 from exf2) (show 0 ≤ ivh2 (sk 8) 2 ∧ ivh2 (sk 8) 2 ≤ 40200 from W2.int tsk8 2) (show ivh2 (sk 8) 2 = ivh1 (sk 8) 2 from fl2.i tsk8 rfl 2) (fun ri2 gf2 ri3 ie3 => ?_)
  exact c_vret C dX3_clearCells_14 rfl (by decide) (rom0 hph hph (by decide)) ⟨rfl, rfl, rfl, rfl, rfl, F2, W2, (by omega)⟩
set_option maxHeartbeats 4000000 in
set_option maxRecDepth 100000 in
theorem C_addCell {l : Launch} {G : GT} {mi : Nat} {sk : Nat → Nat} {L : List Nat} {cl ln : Nat → Nat} {iv : Nat → Nat → Int} {rv : Nat → Nat → Option Nat}  {a0 : Nat} {x : Int} {y : Int} (hW : WT (g0 G) sk L cl ln iv rv) (hS : SKL sk L cl) (t_a0 : ty L cl a0 16) (h_x : -2147483648 ≤ x ∧ x ≤ 2147483647) (h_y : -2147483648 ≤ y ∧ y ≤ 2147483647)  : Mc l G mi (Phi (g0 G) sk) PHM yX3_addCell cX3_addCell 3 none 3 [.ref a0, .int (iI x), .int (iI y)] L cl ln iv rv 0 (fun v L2 cl2 ln2 iv2 rv2 => v = none ∧ XT L cl ln L2 cl2 ln2 ∧ fT [8, 38, 9, 39] L cl iv rv iv2 rv2 ∧ WT (g0 G) sk L2 cl2 ln2 iv2 rv2 ∧ (True)) := by
  refine Mc.mk (by decide) (Nat.le_of_ble_eq_true rfl) ?_
  intro p e s m args below meth c A C hM
  refine hv10 (Phi.le hW hS) (show ty L cl (sk 6) 6 from ⟨(hS 6 rfl).1, by rw [(hS 6 rfl).2]; rfl⟩) (show ty L cl (sk 7) 7 from ⟨(hS 7 rfl).1, by rw [(hS 7 rfl).2]; rfl⟩) (show ty L cl (sk 8) 8 from ⟨(hS 8 rfl).1, by rw [(hS 8 rfl).2]; rfl⟩) (show ty L cl (sk 9) 9 from ⟨(hS 9 rfl).1, by rw [(hS 9 rfl).2]; rfl⟩) (show ty L cl (sk 10) 10 from ⟨(hS 10 rfl).1, by rw [(hS 10 rfl).2]; rfl⟩) (show ty L cl (sk 24) 24 from ⟨(hS 24 rfl).1, by rw [(hS 24 rfl).2]; rfl⟩) (show ty L cl (sk 25) 25 from ⟨(hS 25 rfl).1, by rw [(hS 25 rfl).2]; rfl⟩) (show XT L cl ln L cl ln from XT.refl) (show fT [8, 38, 9, 39] L cl iv rv iv rv from fT.refl) (fun hph tsk6 tsk7 tsk8 tsk9 tsk10 tsk24 tsk25 hX0 hF0 => ?_)
  refine c_aload_n (j := 0) (x := a0) C dX3_addCell_0 rfl ?_
  obtain ⟨rb1, rq1, trb1⟩ := hW.ref t_a0 4 rfl rfl rfl
  have erb1 := hW.sk trb1 (by decide) rfl
  subst erb1
  refine c_getr (k := 4) C ck_4 dX3_addCell_1 w1_198 (by decide) t_a0 rfl rfl (by decide) rfl rq1 ?_
  refine c_st (st2 := [.ref (sk 8)]) rfl ?_
  refine c_iload_n (j := 1) C dX3_addCell_4 rfl ?_
  have ri1 : 0 ≤ iv (sk 8) 2 ∧ iv (sk 8) 2 ≤ 40200 := hW.int tsk8 2
  refine d_callV (As := [.int (iI x)]) (rest := []) C hM (C_add_8 (a0 := (sk 8)) (x := x) hW hS tsk8 (by omega) ) dX3_addCell_5 kV_X3_91 rfl tsk8 rfl rfl (by decide) ck_2 rfl (Nat.le_of_ble_eq_true rfl) ⟨(Nat.le_of_ble_eq_true rfl), (Nat.le_of_ble_eq_true rfl)⟩ hph hph (show 0 + 0 = 0 from rfl) (by decide) (fun rh1 Lh1 clh1 lnh1 ivh1 rvh1 h1 => ?_)
  obtain ⟨rfl, xl1, fl1, W1, exf1⟩ := h1
  refine hv3 (hF0.call hX0 fl1 rfl) (hX0.trans xl1) (xl1.skl hS) (fun F1 X1 sk1 => ?_)
  refine c_st (st2 := []) rfl ?_
  refine hv2 (xl1.ty tsk8) (show ((ivh1 (sk 8) 2 = iv (sk 8) 2 ∧ iv (sk 8) 2 = 40200) ∨ (ivh1 (sk 8) 2 = iv (sk 8) 2 + 1 ∧ iv (sk 8) 2 < 40200)) from exf1) (fun ty1 gf1 => ?_)
  have ri2 : 0 ≤ ivh1 (sk 8) 2 ∧ ivh1 (sk 8) 2 ≤ 40200 := W1.int ty1 2
  refine c_aload_n (j := 0) (x := a0) C dX3_addCell_8 rfl ?_
  have ty2 := xl1.ty t_a0
  obtain ⟨rb2, rq2, trb2⟩ := W1.ref ty2 5 rfl rfl rfl
  have erb2 := W1.sk trb2 (by decide) rfl
  subst erb2
  refine c_getr (k := 5) C ck_4 dX3_addCell_9 w1_199 (by decide) ty2 rfl rfl (by decide) rfl rq2 ?_
  refine c_st (st2 := [.ref (sk 9)]) rfl ?_
  refine c_iload_n (j := 2) C dX3_addCell_12 rfl ?_
  refine hv3 (xl1.ty tsk9) (show ivh1 (sk 9) 2 = iv (sk 9) 2 from fl1.i tsk9 rfl 2) (Phi.le W1 sk1) (fun ty3 ie2 pl1 => ?_)
  have ri3 : 0 ≤ ivh1 (sk 9) 2 ∧ ivh1 (sk 9) 2 ≤ 40200 := W1.int ty3 2
  refine d_callV (As := [.int (iI y)]) (rest := []) C hM (C_add_9 (a0 := (sk 9)) (x := y) W1 sk1 ty3 (by omega) ) dX3_addCell_13 kV_X3_91 rfl ty3 rfl rfl (by decide) ck_2 rfl (Nat.le_of_ble_eq_true rfl) ⟨(Nat.le_of_ble_eq_true rfl), (Nat.le_of_ble_eq_true rfl)⟩ hph pl1 (show 0 + 0 = 0 from rfl) (by decide) (fun rh2 Lh2 clh2 lnh2 ivh2 rvh2 h2 => ?_)
  obtain ⟨rfl, xl2, fl2, W2, exf2⟩ := h2
  refine hv8 (F1.call X1 fl2 rfl) (xl1.ty tsk6) (xl1.ty tsk7) (xl1.ty tsk10) (xl1.ty tsk24) (xl1.ty tsk25) (X1.trans xl2) (xl2.skl sk1) (fun F2 ty4 ty5 ty6 ty7 ty8 X2 sk2 => ?_)
  refine c_st (st2 := []) rfl ?_
  refine hv3 (xl2.ty ty3) (show ((ivh2 (sk 9) 2 = ivh1 (sk 9) 2 ∧ ivh1 (sk 9) 2 = 40200) ∨ (ivh2 (sk 9) 2 = ivh1 (sk 9) 2 + 1 ∧ ivh1 (sk 9) 2 < 40200)) from exf2) (Phi.le W2 sk2) (fun ty9 gf2 pl2 => ?_)
  have ri4 : 0 ≤ ivh2 (sk 9) 2 ∧ ivh2 (sk 9) 2 ≤ 40200 := W2.int ty9 2
  exact c_vret C dX3_addCell_16 rfl (by decide) (rom0 hph pl2 (by decide)) ⟨rfl, X2, F2, W2, trivial⟩
set_option maxHeartbeats 4000000 in
set_option maxRecDepth 100000 in
theorem C_chain {l : Launch} {G : GT} {mi : Nat} {sk : Nat → Nat} {L : List Nat} {cl ln : Nat → Nat} {iv : Nat → Nat → Int} {rv : Nat → Nat → Option Nat}  {a0 : Nat} {a1 : Nat} {x : Int} {y : Int} {g : Int} (hW : WT (g0 G) sk L cl ln iv rv) (hS : SKL sk L cl) (t_a0 : ty L cl a0 16) (t_a1 : ty L cl a1 19) (h_x : -2147483648 ≤ x ∧ x ≤ 2147483647) (h_y : -2147483648 ≤ y ∧ y ≤ 2147483647) (h_g : -2147483648 ≤ g ∧ g ≤ 2147483647)  : Mc l G mi (Phi (g0 G) sk) PHM yX3_chain cX3_chain 8 none 4 [.ref a0, .ref a1, .int (iI x), .int (iI y), .int (iI g)] L cl ln iv rv 0 (fun v L2 cl2 ln2 iv2 rv2 => v = none ∧ XT L cl ln L2 cl2 ln2 ∧ fT [8, 38, 9, 39] L cl iv rv iv2 rv2 ∧ WT (g0 G) sk L2 cl2 ln2 iv2 rv2 ∧ (True)) := by
  refine Mc.mk (by decide) (Nat.le_of_ble_eq_true rfl) ?_
  intro p e s m args below meth c A C hM
  refine hv10 (Phi.le hW hS) (show ty L cl (sk 6) 6 from ⟨(hS 6 rfl).1, by rw [(hS 6 rfl).2]; rfl⟩) (show ty L cl (sk 7) 7 from ⟨(hS 7 rfl).1, by rw [(hS 7 rfl).2]; rfl⟩) (show ty L cl (sk 8) 8 from ⟨(hS 8 rfl).1, by rw [(hS 8 rfl).2]; rfl⟩) (show ty L cl (sk 9) 9 from ⟨(hS 9 rfl).1, by rw [(hS 9 rfl).2]; rfl⟩) (show ty L cl (sk 10) 10 from ⟨(hS 10 rfl).1, by rw [(hS 10 rfl).2]; rfl⟩) (show ty L cl (sk 24) 24 from ⟨(hS 24 rfl).1, by rw [(hS 24 rfl).2]; rfl⟩) (show ty L cl (sk 25) 25 from ⟨(hS 25 rfl).1, by rw [(hS 25 rfl).2]; rfl⟩) (show XT L cl ln L cl ln from XT.refl) (show fT [8, 38, 9, 39] L cl iv rv iv rv from fT.refl) (fun hph tsk6 tsk7 tsk8 tsk9 tsk10 tsk24 tsk25 hX0 hF0 => ?_)
  refine c_aload_n (j := 1) (x := a1) C dX3_chain_0 rfl ?_
  refine c_iload_n (j := 3) C dX3_chain_1 rfl ?_
  have ri1 : 0 ≤ iv a1 1 ∧ iv a1 1 ≤ 200 := hW.int t_a1 1
  refine d_callV (As := [.int (iI y)]) (rest := []) C hM (C_lends (a0 := a1) (x := y) hW hS t_a1 (by omega) ) dX3_chain_2 kV_X3_108 rfl t_a1 rfl rfl (by decide) ck_3 rfl (Nat.le_of_ble_eq_true rfl) ⟨(Nat.le_of_ble_eq_true rfl), (Nat.le_of_ble_eq_true rfl)⟩ hph hph (show 0 + 0 = 0 from rfl) (by decide) (fun rh1 Lh1 clh1 lnh1 ivh1 rvh1 h1 => ?_)
  obtain ⟨f1, rfl, rfl, rfl, rfl, rfl, rfl, rgf1, exf1⟩ := h1
  refine c_st (st2 := [.int (iI f1)]) rfl ?_
  have gf1 : f1 = 0 ∨ 0 < iv a1 1 := exf1
  refine c_istore (lv2 := [(5, .int (iI f1)), (0, .ref a0), (1, .ref a1), (2, .int (iI x)), (3, .int (iI y)), (4, .int (iI g))]) C dX3_chain_5 (by decide) rfl ?_
  refine c_iload (j := 0) C dX3_chain_7 rfl ?_
  refine c_if_eq (tgt := 21) C ⟨by omega, by omega⟩ dX3_chain_9 (by decide) (fun c1 => ?_) (fun c1 => ?_)
  · clear gf1
    refine c_aload_n (j := 2) (x := a1) C dX3_chain_21 rfl ?_
    refine c_get (k := 1) C ck_3 dX3_chain_22 w4_52 (by decide) t_a1 rfl rfl (by decide) rfl ?_
    refine c_istore (lv2 := [(6, .int (iI (iv a1 1))), (5, .int (iI f1)), (0, .ref a0), (1, .ref a1), (2, .int (iI x)), (3, .int (iI y)), (4, .int (iI g))]) C dX3_chain_25 (by decide) rfl ?_
    refine c_iconst C dX3_chain_27 ?_
    refine c_istore (lv2 := [(7, .int (iI 0)), (6, .int (iI (iv a1 1))), (5, .int (iI f1)), (0, .ref a0), (1, .ref a1), (2, .int (iI x)), (3, .int (iI y)), (4, .int (iI g))]) C dX3_chain_28 (by decide) rfl ?_
    have Lp1 : ∀ (nn : Nat) (k : Int) (Lb1 : List Nat) (clb1 lnb1 : Nat → Nat) (ivb1 : Nat → Nat → Int) (rvb1 : Nat → Nat → Option Nat) , 201 - k < (nn : Int) → XT L cl ln Lb1 clb1 lnb1 → WT (g0 G) sk Lb1 clb1 lnb1 ivb1 rvb1 → fT [8, 38, 9, 39] L cl iv rv ivb1 rvb1 → (0 ≤ k ∧ k ≤ 200) → cw p l e 4 ((PHM) + 0 - ((Phi (g0 G) sk) ln rv)) s m args below meth c G A 8 (MQ below (Qu G A (Qp G (Phi (g0 G) sk) ((Phi (g0 G) sk) ln rv) 0 (fun v L2 cl2 ln2 iv2 rv2 => v = none ∧ XT L cl ln L2 cl2 ln2 ∧ fT [8, 38, 9, 39] L cl iv rv iv2 rv2 ∧ WT (g0 G) sk L2 cl2 ln2 iv2 rv2 ∧ (True)))) args s (((PHM) + 0 - ((Phi (g0 G) sk) ln rv)) / 16) ((PHM) + 0 - ((Phi (g0 G) sk) ln rv)) A) (Phi (g0 G) sk) ((Phi (g0 G) sk) ln rv) Lb1 clb1 lnb1 ivb1 rvb1 0 30 [(7, .int (iI k)), (6, .int (iI (iv a1 1))), (5, .int (iI f1)), (0, .ref a0), (1, .ref a1), (2, .int (iI x)), (3, .int (iI y)), (4, .int (iI g))] [] := by
      intro nn
      induction nn with
      | zero =>
        intro  k Lb1 clb1 lnb1 ivb1 rvb1 hm Xb1 Wb1 Fb1  hk
        have skb1 := Xb1.skl hS
        exact absurd hm (by omega)
      | succ nn ih1 =>
        intro  k Lb1 clb1 lnb1 ivb1 rvb1 hm Xb1 Wb1 Fb1  hk
        have skb1 := Xb1.skl hS
        refine c_iload (j := 0) C dX3_chain_30 rfl ?_
        refine c_iload (j := 1) C dX3_chain_32 rfl ?_
        refine c_icmp_ge (tgt := 62) C (r32_c (lo := 0) (hi := 200) hk.1 hk.2 (by decide) (by decide)) ⟨by omega, by omega⟩ dX3_chain_34 (by decide) (fun c2 => ?_) (fun c2 => ?_)
        · refine c_iload (j := 2) C dX3_chain_62 rfl ?_
          refine c_if_ne (tgt := 78) C ⟨by omega, by omega⟩ dX3_chain_64 (by decide) (fun c3 => ?_) (fun c3 => ?_)
          · have pl1 := Phi.le Wb1 skb1
            exact c_vret C dX3_chain_78 rfl (by decide) (rom0 hph pl1 (by decide)) ⟨rfl, Xb1, Fb1, Wb1, trivial⟩
          · refine c_iload (j := 7) C dX3_chain_67 rfl ?_
            refine c_if_ne (tgt := 78) C ⟨by omega, by omega⟩ dX3_chain_69 (by decide) (fun c4 => ?_) (fun c4 => ?_)
            · have pl2 := Phi.le Wb1 skb1
              exact c_vret C dX3_chain_78 rfl (by decide) (rom0 hph pl2 (by decide)) ⟨rfl, Xb1, Fb1, Wb1, trivial⟩
            · refine c_aload_n (j := 3) (x := a0) C dX3_chain_72 rfl ?_
              refine c_iconst C dX3_chain_73 ?_
              refine c_iconst C dX3_chain_74 ?_
              refine hv2 (Xb1.ty t_a0) (Phi.le Wb1 skb1) (fun ty1 pl3 => ?_)
              refine d_callV (As := [.int (iI 0), .int (iI (-1))]) (rest := []) C hM (C_addCell (a0 := a0) (x := 0) (y := (-1)) Wb1 skb1 ty1 ⟨by decide, by decide⟩ ⟨by decide, by decide⟩ ) dX3_chain_75 kV_X3_114 rfl ty1 rfl rfl (by decide) ck_4 rfl (Nat.le_of_ble_eq_true rfl) ⟨(Nat.le_of_ble_eq_true rfl), (Nat.le_of_ble_eq_true rfl)⟩ hph pl3 (show 0 + 0 = 0 from rfl) (by decide) (fun rh2 Lh2 clh2 lnh2 ivh2 rvh2 h2 => ?_)
              obtain ⟨rfl, xl2, fl2, W2, exf2⟩ := h2
              refine hv11 (Fb1.call Xb1 fl2 rfl) (Xb1.ty t_a1) (Xb1.ty tsk6) (Xb1.ty tsk7) (Xb1.ty tsk8) (Xb1.ty tsk9) (Xb1.ty tsk10) (Xb1.ty tsk24) (Xb1.ty tsk25) (Xb1.trans xl2) (xl2.skl skb1) (fun F1 ty2 ty3 ty4 ty5 ty6 ty7 ty8 ty9 X1 sk1 => ?_)
              refine c_st (st2 := []) rfl ?_
              have pl4 := Phi.le W2 sk1
              exact c_vret C dX3_chain_78 rfl (by decide) (rom0 hph pl4 (by decide)) ⟨rfl, X1, F1, W2, trivial⟩
        · refine c_aload_n (j := 3) (x := a0) C dX3_chain_37 rfl ?_
          refine c_aload_n (j := 4) (x := a1) C dX3_chain_38 rfl ?_
          have ty10 := Xb1.ty t_a1
          obtain ⟨rb1, rq1, trb1⟩ := Wb1.ref ty10 0 rfl rfl rfl
          have lnrb1 : 200 ≤ lnb1 rb1 ∧ lnb1 rb1 ≤ 200 := Wb1.len trb1 rfl
          refine c_getr (k := 0) C ck_3 dX3_chain_39 w4_46 (by decide) ty10 rfl rfl (by decide) rfl rq1 ?_
          refine c_st (st2 := [.ref rb1, .ref a0]) rfl ?_
          refine c_iload (j := 0) C dX3_chain_42 rfl ?_
          have ll1 : 200 ≤ lnb1 rb1 ∧ lnb1 rb1 ≤ 200 := Wb1.len trb1 rfl
          refine c_iald C dX3_chain_44 trb1 rfl (by omega) (by omega) (by omega) ?_
          have ri2 : (-2147483648) ≤ ivb1 rb1 k.toNat ∧ ivb1 rb1 k.toNat ≤ 2147483647 := Wb1.int trb1 k.toNat
          refine c_iload_n (j := 5) C dX3_chain_45 rfl ?_
          refine c_sipush (z := 1000) C dX3_chain_46 (by decide) ?_
          refine c_imul C dX3_chain_49 ?_
          obtain ⟨zz1, hzz1, ezz1⟩ := iI_of (iI (x * 1000))
          refine c_st (st2 := [.int (iI zz1), .int (iI (ivb1 rb1 k.toNat)), .ref a0]) (by rw [ezz1]) ?_
          refine c_iload (j := 0) C dX3_chain_50 rfl ?_
          refine c_iadd C dX3_chain_52 ?_
          obtain ⟨zz2, hzz2, ezz2⟩ := iI_of (iI (zz1 + k))
          refine c_st (st2 := [.int (iI zz2), .int (iI (ivb1 rb1 k.toNat)), .ref a0]) (by rw [ezz2]) ?_
          refine hv2 (Xb1.ty t_a0) (Phi.le Wb1 skb1) (fun ty11 pl5 => ?_)
          refine d_callV (As := [.int (iI (ivb1 rb1 k.toNat)), .int (iI zz2)]) (rest := []) C hM (C_addCell (a0 := a0) (x := ivb1 rb1 k.toNat) (y := zz2) Wb1 skb1 ty11 (by omega) (by omega) ) dX3_chain_53 kV_X3_114 rfl ty11 rfl rfl (by decide) ck_4 rfl (Nat.le_of_ble_eq_true rfl) ⟨(Nat.le_of_ble_eq_true rfl), (Nat.le_of_ble_eq_true rfl)⟩ hph pl5 (show 0 + 0 = 0 from rfl) (by decide) (fun rh3 Lh3 clh3 lnh3 ivh3 rvh3 h3 => ?_)
          obtain ⟨rfl, xl3, fl3, W3, exf3⟩ := h3
          refine hv10 (Fb1.call Xb1 fl3 rfl) (Xb1.ty tsk6) (Xb1.ty tsk7) (Xb1.ty tsk8) (Xb1.ty tsk9) (Xb1.ty tsk10) (Xb1.ty tsk24) (Xb1.ty tsk25) (Xb1.trans xl3) (xl3.skl skb1) (fun F2 ty12 ty13 ty14 ty15 ty16 ty17 ty18 X2 sk2 => ?_)
          refine c_st (st2 := []) rfl ?_
          refine c_iinc (z := k) (j := 0) (lv2 := [(7, .int (iI (k + 1))), (6, .int (iI (iv a1 1))), (5, .int (iI f1)), (0, .ref a0), (1, .ref a1), (2, .int (iI x)), (3, .int (iI y)), (4, .int (iI g))]) C dX3_chain_56 rfl (by decide) rfl ?_
          refine c_goto (tgt := 30) C dX3_chain_59 (by decide) ?_
          refine c_lv (lv2 := [(7, .int (iI (k + 1))), (6, .int (iI (iv a1 1))), (5, .int (iI f1)), (0, .ref a0), (1, .ref a1), (2, .int (iI x)), (3, .int (iI y)), (4, .int (iI g))]) [0, 1, 2, 3, 4, 5, 6, 7] rfl ?_
          exact ih1  (k + 1) _ _ _ _ _ (by omega) X2 W3 F2  (by omega)
    refine c_lv (lv2 := [(7, .int (iI 0)), (6, .int (iI (iv a1 1))), (5, .int (iI f1)), (0, .ref a0), (1, .ref a1), (2, .int (iI x)), (3, .int (iI y)), (4, .int (iI g))]) [0, 1, 2, 3, 4, 5, 6, 7] rfl ?_
    exact Lp1 203 0 _ _ _ _ _ (by omega) hX0 hW hF0  (by omega)
  · replace gf1 := (gf1.resolve_left c1)
    refine c_aload_n (j := 2) (x := a1) C dX3_chain_12 rfl ?_
    refine c_get (k := 1) C ck_3 dX3_chain_13 w4_52 (by decide) t_a1 rfl rfl (by decide) rfl ?_
    refine c_iconst C dX3_chain_16 ?_
    refine c_isub C dX3_chain_17 ?_
    refine c_goto (tgt := 25) C dX3_chain_18 (by decide) ?_
    refine c_istore (lv2 := [(6, .int (iI ((iv a1 1) - 1))), (5, .int (iI f1)), (0, .ref a0), (1, .ref a1), (2, .int (iI x)), (3, .int (iI y)), (4, .int (iI g))]) C dX3_chain_25 (by decide) rfl ?_
    refine c_iconst C dX3_chain_27 ?_
    refine c_istore (lv2 := [(7, .int (iI 0)), (6, .int (iI ((iv a1 1) - 1))), (5, .int (iI f1)), (0, .ref a0), (1, .ref a1), (2, .int (iI x)), (3, .int (iI y)), (4, .int (iI g))]) C dX3_chain_28 (by decide) rfl ?_
    have Lp2 : ∀ (nn : Nat) (k : Int) (Lb2 : List Nat) (clb2 lnb2 : Nat → Nat) (ivb2 : Nat → Nat → Int) (rvb2 : Nat → Nat → Option Nat) , 201 - k < (nn : Int) → XT L cl ln Lb2 clb2 lnb2 → WT (g0 G) sk Lb2 clb2 lnb2 ivb2 rvb2 → fT [8, 38, 9, 39] L cl iv rv ivb2 rvb2 → (0 ≤ k ∧ k ≤ 200) → cw p l e 4 ((PHM) + 0 - ((Phi (g0 G) sk) ln rv)) s m args below meth c G A 8 (MQ below (Qu G A (Qp G (Phi (g0 G) sk) ((Phi (g0 G) sk) ln rv) 0 (fun v L2 cl2 ln2 iv2 rv2 => v = none ∧ XT L cl ln L2 cl2 ln2 ∧ fT [8, 38, 9, 39] L cl iv rv iv2 rv2 ∧ WT (g0 G) sk L2 cl2 ln2 iv2 rv2 ∧ (True)))) args s (((PHM) + 0 - ((Phi (g0 G) sk) ln rv)) / 16) ((PHM) + 0 - ((Phi (g0 G) sk) ln rv)) A) (Phi (g0 G) sk) ((Phi (g0 G) sk) ln rv) Lb2 clb2 lnb2 ivb2 rvb2 0 30 [(7, .int (iI k)), (6, .int (iI ((iv a1 1) - 1))), (5, .int (iI f1)), (0, .ref a0), (1, .ref a1), (2, .int (iI x)), (3, .int (iI y)), (4, .int (iI g))] [] := by
      intro nn
      induction nn with
      | zero =>
        intro  k Lb2 clb2 lnb2 ivb2 rvb2 hm Xb2 Wb2 Fb2  hk
        have skb2 := Xb2.skl hS
        exact absurd hm (by omega)
      | succ nn ih2 =>
        intro  k Lb2 clb2 lnb2 ivb2 rvb2 hm Xb2 Wb2 Fb2  hk
        have skb2 := Xb2.skl hS
        refine c_iload (j := 0) C dX3_chain_30 rfl ?_
        refine c_iload (j := 1) C dX3_chain_32 rfl ?_
        refine c_icmp_ge (tgt := 62) C (r32_c (lo := 0) (hi := 200) hk.1 hk.2 (by decide) (by decide)) ⟨by omega, by omega⟩ dX3_chain_34 (by decide) (fun c5 => ?_) (fun c5 => ?_)
        · refine c_iload (j := 2) C dX3_chain_62 rfl ?_
          refine c_if_ne (tgt := 78) C ⟨by omega, by omega⟩ dX3_chain_64 (by decide) (fun c6 => ?_) (fun c6 => ?_)
          · have pl6 := Phi.le Wb2 skb2
            exact c_vret C dX3_chain_78 rfl (by decide) (rom0 hph pl6 (by decide)) ⟨rfl, Xb2, Fb2, Wb2, trivial⟩
          · refine c_iload (j := 7) C dX3_chain_67 rfl ?_
            refine c_if_ne (tgt := 78) C ⟨by omega, by omega⟩ dX3_chain_69 (by decide) (fun c7 => ?_) (fun c7 => ?_)
            · have pl7 := Phi.le Wb2 skb2
              exact c_vret C dX3_chain_78 rfl (by decide) (rom0 hph pl7 (by decide)) ⟨rfl, Xb2, Fb2, Wb2, trivial⟩
            · refine c_aload_n (j := 3) (x := a0) C dX3_chain_72 rfl ?_
              refine c_iconst C dX3_chain_73 ?_
              refine c_iconst C dX3_chain_74 ?_
              refine hv2 (Xb2.ty t_a0) (Phi.le Wb2 skb2) (fun ty19 pl8 => ?_)
              refine d_callV (As := [.int (iI 0), .int (iI (-1))]) (rest := []) C hM (C_addCell (a0 := a0) (x := 0) (y := (-1)) Wb2 skb2 ty19 ⟨by decide, by decide⟩ ⟨by decide, by decide⟩ ) dX3_chain_75 kV_X3_114 rfl ty19 rfl rfl (by decide) ck_4 rfl (Nat.le_of_ble_eq_true rfl) ⟨(Nat.le_of_ble_eq_true rfl), (Nat.le_of_ble_eq_true rfl)⟩ hph pl8 (show 0 + 0 = 0 from rfl) (by decide) (fun rh4 Lh4 clh4 lnh4 ivh4 rvh4 h4 => ?_)
              obtain ⟨rfl, xl4, fl4, W4, exf4⟩ := h4
              refine hv11 (Fb2.call Xb2 fl4 rfl) (Xb2.ty t_a1) (Xb2.ty tsk6) (Xb2.ty tsk7) (Xb2.ty tsk8) (Xb2.ty tsk9) (Xb2.ty tsk10) (Xb2.ty tsk24) (Xb2.ty tsk25) (Xb2.trans xl4) (xl4.skl skb2) (fun F3 ty20 ty21 ty22 ty23 ty24 ty25 ty26 ty27 X3 sk3 => ?_)
              refine c_st (st2 := []) rfl ?_
              have pl9 := Phi.le W4 sk3
              exact c_vret C dX3_chain_78 rfl (by decide) (rom0 hph pl9 (by decide)) ⟨rfl, X3, F3, W4, trivial⟩
        · refine c_aload_n (j := 3) (x := a0) C dX3_chain_37 rfl ?_
          refine c_aload_n (j := 4) (x := a1) C dX3_chain_38 rfl ?_
          have ty28 := Xb2.ty t_a1
          obtain ⟨rb2, rq2, trb2⟩ := Wb2.ref ty28 0 rfl rfl rfl
          have lnrb2 : 200 ≤ lnb2 rb2 ∧ lnb2 rb2 ≤ 200 := Wb2.len trb2 rfl
          refine c_getr (k := 0) C ck_3 dX3_chain_39 w4_46 (by decide) ty28 rfl rfl (by decide) rfl rq2 ?_
          refine c_st (st2 := [.ref rb2, .ref a0]) rfl ?_
          refine c_iload (j := 0) C dX3_chain_42 rfl ?_
          have ll2 : 200 ≤ lnb2 rb2 ∧ lnb2 rb2 ≤ 200 := Wb2.len trb2 rfl
          refine c_iald C dX3_chain_44 trb2 rfl (by omega) (by omega) (by omega) ?_
          have ri3 : (-2147483648) ≤ ivb2 rb2 k.toNat ∧ ivb2 rb2 k.toNat ≤ 2147483647 := Wb2.int trb2 k.toNat
          refine c_iload_n (j := 5) C dX3_chain_45 rfl ?_
          refine c_sipush (z := 1000) C dX3_chain_46 (by decide) ?_
          refine c_imul C dX3_chain_49 ?_
          obtain ⟨zz3, hzz3, ezz3⟩ := iI_of (iI (x * 1000))
          refine c_st (st2 := [.int (iI zz3), .int (iI (ivb2 rb2 k.toNat)), .ref a0]) (by rw [ezz3]) ?_
          refine c_iload (j := 0) C dX3_chain_50 rfl ?_
          refine c_iadd C dX3_chain_52 ?_
          obtain ⟨zz4, hzz4, ezz4⟩ := iI_of (iI (zz3 + k))
          refine c_st (st2 := [.int (iI zz4), .int (iI (ivb2 rb2 k.toNat)), .ref a0]) (by rw [ezz4]) ?_
          refine hv2 (Xb2.ty t_a0) (Phi.le Wb2 skb2) (fun ty29 pl10 => ?_)
          refine d_callV (As := [.int (iI (ivb2 rb2 k.toNat)), .int (iI zz4)]) (rest := []) C hM (C_addCell (a0 := a0) (x := ivb2 rb2 k.toNat) (y := zz4) Wb2 skb2 ty29 (by omega) (by omega) ) dX3_chain_53 kV_X3_114 rfl ty29 rfl rfl (by decide) ck_4 rfl (Nat.le_of_ble_eq_true rfl) ⟨(Nat.le_of_ble_eq_true rfl), (Nat.le_of_ble_eq_true rfl)⟩ hph pl10 (show 0 + 0 = 0 from rfl) (by decide) (fun rh5 Lh5 clh5 lnh5 ivh5 rvh5 h5 => ?_)
          obtain ⟨rfl, xl5, fl5, W5, exf5⟩ := h5
          refine hv10 (Fb2.call Xb2 fl5 rfl) (Xb2.ty tsk6) (Xb2.ty tsk7) (Xb2.ty tsk8) (Xb2.ty tsk9) (Xb2.ty tsk10) (Xb2.ty tsk24) (Xb2.ty tsk25) (Xb2.trans xl5) (xl5.skl skb2) (fun F4 ty30 ty31 ty32 ty33 ty34 ty35 ty36 X4 sk4 => ?_)
          refine c_st (st2 := []) rfl ?_
          refine c_iinc (z := k) (j := 0) (lv2 := [(7, .int (iI (k + 1))), (6, .int (iI ((iv a1 1) - 1))), (5, .int (iI f1)), (0, .ref a0), (1, .ref a1), (2, .int (iI x)), (3, .int (iI y)), (4, .int (iI g))]) C dX3_chain_56 rfl (by decide) rfl ?_
          refine c_goto (tgt := 30) C dX3_chain_59 (by decide) ?_
          refine c_lv (lv2 := [(7, .int (iI (k + 1))), (6, .int (iI ((iv a1 1) - 1))), (5, .int (iI f1)), (0, .ref a0), (1, .ref a1), (2, .int (iI x)), (3, .int (iI y)), (4, .int (iI g))]) [0, 1, 2, 3, 4, 5, 6, 7] rfl ?_
          exact ih2  (k + 1) _ _ _ _ _ (by omega) X4 W5 F4  (by omega)
    refine c_lv (lv2 := [(7, .int (iI 0)), (6, .int (iI ((iv a1 1) - 1))), (5, .int (iI f1)), (0, .ref a0), (1, .ref a1), (2, .int (iI x)), (3, .int (iI y)), (4, .int (iI g))]) [0, 1, 2, 3, 4, 5, 6, 7] rfl ?_
    exact Lp2 203 0 _ _ _ _ _ (by omega) hX0 hW hF0  (by omega)
set_option maxHeartbeats 4000000 in
set_option maxRecDepth 100000 in
theorem C_placeOfWrong {l : Launch} {G : GT} {mi : Nat} {sk : Nat → Nat} {L : List Nat} {cl ln : Nat → Nat} {iv : Nat → Nat → Int} {rv : Nat → Nat → Option Nat}  {a0 : Nat} (hW : WT (g0 G) sk L cl ln iv rv) (hS : SKL sk L cl) (t_a0 : ty L cl a0 16)  : Mc l G mi (Phi (g0 G) sk) PHM yX3_placeOfWrong cX3_placeOfWrong 1 (some .int) 1 [.ref a0] L cl ln iv rv 0 (fun v L2 cl2 ln2 iv2 rv2 => ∃ f : Int, v = some (.int (iI f)) ∧ L = L2 ∧ cl = cl2 ∧ ln = ln2 ∧ iv = iv2 ∧ rv = rv2 ∧ (-2147483648 ≤ f ∧ f ≤ 2147483647) ∧ (True)) := by
  refine Mc.mk (by decide) (Nat.le_of_ble_eq_true rfl) ?_
  intro p e s m args below meth c A C hM
  refine hv10 (Phi.le hW hS) (show ty L cl (sk 6) 6 from ⟨(hS 6 rfl).1, by rw [(hS 6 rfl).2]; rfl⟩) (show ty L cl (sk 7) 7 from ⟨(hS 7 rfl).1, by rw [(hS 7 rfl).2]; rfl⟩) (show ty L cl (sk 8) 8 from ⟨(hS 8 rfl).1, by rw [(hS 8 rfl).2]; rfl⟩) (show ty L cl (sk 9) 9 from ⟨(hS 9 rfl).1, by rw [(hS 9 rfl).2]; rfl⟩) (show ty L cl (sk 10) 10 from ⟨(hS 10 rfl).1, by rw [(hS 10 rfl).2]; rfl⟩) (show ty L cl (sk 24) 24 from ⟨(hS 24 rfl).1, by rw [(hS 24 rfl).2]; rfl⟩) (show ty L cl (sk 25) 25 from ⟨(hS 25 rfl).1, by rw [(hS 25 rfl).2]; rfl⟩) (show XT L cl ln L cl ln from XT.refl) (show fT [] L cl iv rv iv rv from fT.refl) (fun hph tsk6 tsk7 tsk8 tsk9 tsk10 tsk24 tsk25 hX0 hF0 => ?_)
  refine c_aload_n (j := 0) (x := a0) C dX3_placeOfWrong_0 rfl ?_
  obtain ⟨rb1, rq1, trb1⟩ := hW.ref t_a0 4 rfl rfl rfl
  have erb1 := hW.sk trb1 (by decide) rfl
  subst erb1
  refine c_getr (k := 4) C ck_4 dX3_placeOfWrong_1 w1_198 (by decide) t_a0 rfl rfl (by decide) rfl rq1 ?_
  refine c_st (st2 := [.ref (sk 8)]) rfl ?_
  refine c_aload_n (j := 0) (x := a0) C dX3_placeOfWrong_4 rfl ?_
  have ri1 : (-2147483648) ≤ iv a0 7 ∧ iv a0 7 ≤ 2147483647 := hW.int t_a0 7
  refine c_get (k := 7) C ck_4 dX3_placeOfWrong_5 w1_202 (by decide) t_a0 rfl rfl (by decide) rfl ?_
  have ri2 : 0 ≤ iv (sk 8) 2 ∧ iv (sk 8) 2 ≤ 40200 := hW.int tsk8 2
  refine d_callV (As := [.int (iI (iv a0 7))]) (rest := []) C hM (C_at_8 (a0 := (sk 8)) (i := iv a0 7) hW hS tsk8 (by omega) ) dX3_placeOfWrong_8 kV_X3_119 rfl tsk8 rfl rfl (by decide) ck_2 rfl (Nat.le_of_ble_eq_true rfl) ⟨(Nat.le_of_ble_eq_true rfl), (Nat.le_of_ble_eq_true rfl)⟩ hph hph (show 0 + 0 = 0 from rfl) (by decide) (fun rh1 Lh1 clh1 lnh1 ivh1 rvh1 h1 => ?_)
  obtain ⟨f1, rfl, rfl, rfl, rfl, rfl, rfl, rgf1, exf1⟩ := h1
  refine c_st (st2 := [.int (iI f1)]) rfl ?_
  have gf1 : ((0 ≤ (iv a0 7) ∧ (iv a0 7) < iv (sk 8) 2) ∨ f1 = 0) ∧ ∀ ss, CT iv rv (sk 8) ss → 0 ≤ (iv a0 7) → (iv a0 7) < iv (sk 8) 2 → f1 = ss (iv a0 7).toNat := exf1
  refine c_if_eq (tgt := 28) C ⟨by omega, by omega⟩ dX3_placeOfWrong_11 (by decide) (fun c1 => ?_) (fun c1 => ?_)
  · refine c_aload_n (j := 0) (x := a0) C dX3_placeOfWrong_28 rfl ?_
    obtain ⟨rb2, rq2, trb2⟩ := hW.ref t_a0 5 rfl rfl rfl
    have erb2 := hW.sk trb2 (by decide) rfl
    subst erb2
    refine c_getr (k := 5) C ck_4 dX3_placeOfWrong_29 w1_199 (by decide) t_a0 rfl rfl (by decide) rfl rq2 ?_
    refine c_st (st2 := [.ref (sk 9)]) rfl ?_
    refine c_aload_n (j := 0) (x := a0) C dX3_placeOfWrong_32 rfl ?_
    refine c_get (k := 7) C ck_4 dX3_placeOfWrong_33 w1_202 (by decide) t_a0 rfl rfl (by decide) rfl ?_
    refine c_iconst C dX3_placeOfWrong_36 ?_
    refine c_isub C dX3_placeOfWrong_37 ?_
    obtain ⟨zz1, hzz1, ezz1⟩ := iI_of (iI ((iv a0 7) - 1))
    refine c_st (st2 := [.int (iI zz1), .ref (sk 9)]) (by rw [ezz1]) ?_
    have ri3 : 0 ≤ iv (sk 9) 2 ∧ iv (sk 9) 2 ≤ 40200 := hW.int tsk9 2
    refine d_callV (As := [.int (iI zz1)]) (rest := []) C hM (C_at_9 (a0 := (sk 9)) (i := zz1) hW hS tsk9 (by omega) ) dX3_placeOfWrong_38 kV_X3_119 rfl tsk9 rfl rfl (by decide) ck_2 rfl (Nat.le_of_ble_eq_true rfl) ⟨(Nat.le_of_ble_eq_true rfl), (Nat.le_of_ble_eq_true rfl)⟩ hph hph (show 0 + 0 = 0 from rfl) (by decide) (fun rh2 Lh2 clh2 lnh2 ivh2 rvh2 h2 => ?_)
    obtain ⟨f2, rfl, rfl, rfl, rfl, rfl, rfl, rgf2, exf2⟩ := h2
    refine c_st (st2 := [.int (iI f2)]) rfl ?_
    have gf2 : ((0 ≤ zz1 ∧ zz1 < iv (sk 9) 2) ∨ f2 = 0) ∧ ∀ ss, CT iv rv (sk 9) ss → 0 ≤ zz1 → zz1 < iv (sk 9) 2 → f2 = ss zz1.toNat := exf2
    refine c_iconst C dX3_placeOfWrong_41 ?_
    refine c_iadd C dX3_placeOfWrong_42 ?_
    obtain ⟨zz2, hzz2, ezz2⟩ := iI_of (iI (f2 + 1))
    refine c_st (st2 := [.int (iI zz2)]) (by rw [ezz2]) ?_
    exact c_iret C dX3_placeOfWrong_43 rfl (by decide) (rom0 hph hph (by decide)) ⟨zz2, rfl, rfl, rfl, rfl, rfl, rfl, ⟨by omega, by omega⟩, trivial⟩
  · refine c_aload_n (j := 0) (x := a0) C dX3_placeOfWrong_14 rfl ?_
    obtain ⟨rb3, rq3, trb3⟩ := hW.ref t_a0 5 rfl rfl rfl
    have erb3 := hW.sk trb3 (by decide) rfl
    subst erb3
    refine c_getr (k := 5) C ck_4 dX3_placeOfWrong_15 w1_199 (by decide) t_a0 rfl rfl (by decide) rfl rq3 ?_
    refine c_st (st2 := [.ref (sk 9)]) rfl ?_
    refine c_aload_n (j := 0) (x := a0) C dX3_placeOfWrong_18 rfl ?_
    refine c_get (k := 7) C ck_4 dX3_placeOfWrong_19 w1_202 (by decide) t_a0 rfl rfl (by decide) rfl ?_
    have ri4 : 0 ≤ iv (sk 9) 2 ∧ iv (sk 9) 2 ≤ 40200 := hW.int tsk9 2
    refine d_callV (As := [.int (iI (iv a0 7))]) (rest := []) C hM (C_at_9 (a0 := (sk 9)) (i := iv a0 7) hW hS tsk9 (by omega) ) dX3_placeOfWrong_22 kV_X3_119 rfl tsk9 rfl rfl (by decide) ck_2 rfl (Nat.le_of_ble_eq_true rfl) ⟨(Nat.le_of_ble_eq_true rfl), (Nat.le_of_ble_eq_true rfl)⟩ hph hph (show 0 + 0 = 0 from rfl) (by decide) (fun rh3 Lh3 clh3 lnh3 ivh3 rvh3 h3 => ?_)
    obtain ⟨f3, rfl, rfl, rfl, rfl, rfl, rfl, rgf3, exf3⟩ := h3
    refine c_st (st2 := [.int (iI f3)]) rfl ?_
    have gf3 : ((0 ≤ (iv a0 7) ∧ (iv a0 7) < iv (sk 9) 2) ∨ f3 = 0) ∧ ∀ ss, CT iv rv (sk 9) ss → 0 ≤ (iv a0 7) → (iv a0 7) < iv (sk 9) 2 → f3 = ss (iv a0 7).toNat := exf3
    refine c_goto (tgt := 43) C dX3_placeOfWrong_25 (by decide) ?_
    exact c_iret C dX3_placeOfWrong_43 rfl (by decide) (rom0 hph hph (by decide)) ⟨f3, rfl, rfl, rfl, rfl, rfl, rfl, ⟨by omega, by omega⟩, trivial⟩
set_option maxHeartbeats 4000000 in
set_option maxRecDepth 100000 in
theorem C_longestAt {l : Launch} {G : GT} {mi : Nat} {sk : Nat → Nat} {L : List Nat} {cl ln : Nat → Nat} {iv : Nat → Nat → Int} {rv : Nat → Nat → Option Nat}  {a0 : Nat} {g : Int} {i : Int} (hW : WT (g0 G) sk L cl ln iv rv) (hS : SKL sk L cl) (t_a0 : ty L cl a0 16) (h_g : -2147483648 ≤ g ∧ g ≤ 2147483647) (h_i : -2147483648 ≤ i ∧ i ≤ 2147483647)  : Mc l G mi (Phi (g0 G) sk) PHM yX3_longestAt cX3_longestAt 11 (some (.object "DotPress$Row")) 3 [.ref a0, .int (iI g), .int (iI i)] L cl ln iv rv 0 (fun v L2 cl2 ln2 iv2 rv2 => ∃ f : Option Nat, v = some ((va_rf f)) ∧ L = L2 ∧ cl = cl2 ∧ ln = ln2 ∧ iv = iv2 ∧ rv = rv2 ∧ (∀ b, f = some b → ty L2 cl2 b 20) ∧ (True)) := by
  refine Mc.mk (by decide) (Nat.le_of_ble_eq_true rfl) ?_
  intro p e s m args below meth c A C hM
  refine hv10 (Phi.le hW hS) (show ty L cl (sk 6) 6 from ⟨(hS 6 rfl).1, by rw [(hS 6 rfl).2]; rfl⟩) (show ty L cl (sk 7) 7 from ⟨(hS 7 rfl).1, by rw [(hS 7 rfl).2]; rfl⟩) (show ty L cl (sk 8) 8 from ⟨(hS 8 rfl).1, by rw [(hS 8 rfl).2]; rfl⟩) (show ty L cl (sk 9) 9 from ⟨(hS 9 rfl).1, by rw [(hS 9 rfl).2]; rfl⟩) (show ty L cl (sk 10) 10 from ⟨(hS 10 rfl).1, by rw [(hS 10 rfl).2]; rfl⟩) (show ty L cl (sk 24) 24 from ⟨(hS 24 rfl).1, by rw [(hS 24 rfl).2]; rfl⟩) (show ty L cl (sk 25) 25 from ⟨(hS 25 rfl).1, by rw [(hS 25 rfl).2]; rfl⟩) (show XT L cl ln L cl ln from XT.refl) (show fT [] L cl iv rv iv rv from fT.refl) (fun hph tsk6 tsk7 tsk8 tsk9 tsk10 tsk24 tsk25 hX0 hF0 => ?_)
  refine c_aload_n (j := 0) (x := a0) C dX3_longestAt_0 rfl ?_
  refine c_iload_n (j := 1) C dX3_longestAt_1 rfl ?_
  refine d_callV (As := [.int (iI g)]) (rest := []) C hM (C_rowsOf (a0 := a0) (g := g) hW hS t_a0 (by omega) ) dX3_longestAt_2 kV_X3_147 rfl t_a0 rfl rfl (by decide) ck_4 rfl (Nat.le_of_ble_eq_true rfl) ⟨(Nat.le_of_ble_eq_true rfl), (Nat.le_of_ble_eq_true rfl)⟩ hph hph (show 0 + 0 = 0 from rfl) (by decide) (fun rh1 Lh1 clh1 lnh1 ivh1 rvh1 h1 => ?_)
  obtain ⟨f1, rfl, rfl, rfl, rfl, rfl, rfl, rgf1, exf1⟩ := h1
  refine c_st (st2 := [.ref f1]) rfl ?_
  rcases exf1 with exf1 | exf1
  · obtain ⟨hf1, rfl⟩ := exf1
    refine c_st (st2 := [.ref (sk 24)]) rfl ?_
    refine c_astore_n (lv2 := [(3, .ref (sk 24)), (0, .ref a0), (1, .int (iI g)), (2, .int (iI i))]) C dX3_longestAt_5 (by decide) rfl ?_
    refine c_iload_n (j := 2) C dX3_longestAt_6 rfl ?_
    refine c_if_eq (tgt := 17) C ⟨by omega, by omega⟩ dX3_longestAt_7 (by decide) (fun c1 => ?_) (fun c1 => ?_)
    · refine c_aload_n (j := 1) (x := a0) C dX3_longestAt_17 rfl ?_
      obtain ⟨rb1, rq1, trb1⟩ := hW.ref t_a0 2 rfl rfl rfl
      have erb1 := hW.sk trb1 (by decide) rfl
      subst erb1
      refine c_getr (k := 2) C ck_4 dX3_longestAt_18 w1_196 (by decide) t_a0 rfl rfl (by decide) rfl rq1 ?_
      refine c_st (st2 := [.ref (sk 6)]) rfl ?_
      refine c_astore (lv2 := [(4, .ref (sk 6)), (3, .ref (sk 24)), (0, .ref a0), (1, .int (iI g)), (2, .int (iI i))]) C dX3_longestAt_21 (by decide) rfl ?_
      refine c_aload_n (j := 2) (x := a0) C dX3_longestAt_23 rfl ?_
      obtain ⟨rb2, rq2, trb2⟩ := hW.ref t_a0 4 rfl rfl rfl
      have erb2 := hW.sk trb2 (by decide) rfl
      subst erb2
      refine c_getr (k := 4) C ck_4 dX3_longestAt_24 w1_198 (by decide) t_a0 rfl rfl (by decide) rfl rq2 ?_
      refine c_st (st2 := [.ref (sk 8)]) rfl ?_
      refine c_iload_n (j := 4) C dX3_longestAt_27 rfl ?_
      have ri1 : 0 ≤ iv (sk 8) 2 ∧ iv (sk 8) 2 ≤ 40200 := hW.int tsk8 2
      refine d_callV (As := [.int (iI i)]) (rest := []) C hM (C_at_8 (a0 := (sk 8)) (i := i) hW hS tsk8 (by omega) ) dX3_longestAt_28 kV_X3_119 rfl tsk8 rfl rfl (by decide) ck_2 rfl (Nat.le_of_ble_eq_true rfl) ⟨(Nat.le_of_ble_eq_true rfl), (Nat.le_of_ble_eq_true rfl)⟩ hph hph (show 0 + 0 = 0 from rfl) (by decide) (fun rh2 Lh2 clh2 lnh2 ivh2 rvh2 h2 => ?_)
      obtain ⟨f2, rfl, rfl, rfl, rfl, rfl, rfl, rgf2, exf2⟩ := h2
      refine c_st (st2 := [.int (iI f2)]) rfl ?_
      have gf2 : ((0 ≤ i ∧ i < iv (sk 8) 2) ∨ f2 = 0) ∧ ∀ ss, CT iv rv (sk 8) ss → 0 ≤ i → i < iv (sk 8) 2 → f2 = ss i.toNat := exf2
      refine c_istore (lv2 := [(5, .int (iI f2)), (4, .ref (sk 6)), (3, .ref (sk 24)), (0, .ref a0), (1, .int (iI g)), (2, .int (iI i))]) C dX3_longestAt_31 (by decide) rfl ?_
      refine c_null C dX3_longestAt_33 ?_
      refine c_astorer (r := none) (lv2 := [(6, .null), (5, .int (iI f2)), (4, .ref (sk 6)), (3, .ref (sk 24)), (0, .ref a0), (1, .int (iI g)), (2, .int (iI i))]) C dX3_longestAt_34 (by decide) rfl ?_
      refine c_iconst C dX3_longestAt_36 ?_
      refine c_istore (lv2 := [(7, .int (iI 0)), (6, .null), (5, .int (iI f2)), (4, .ref (sk 6)), (3, .ref (sk 24)), (0, .ref a0), (1, .int (iI g)), (2, .int (iI i))]) C dX3_longestAt_37 (by decide) rfl ?_
      refine c_aload (j := 3) (x := (sk 6)) C dX3_longestAt_39 rfl ?_
      have ri2 : 0 ≤ iv (sk 6) 2 ∧ iv (sk 6) 2 ≤ 6003 := hW.int tsk6 2
      refine c_get (k := 2) C ck_2 dX3_longestAt_41 w1_49 (by decide) tsk6 rfl rfl (by decide) rfl ?_
      refine c_aload_n (j := 4) (x := (sk 24)) C dX3_longestAt_44 rfl ?_
      have ri3 : 0 ≤ iv (sk 24) 2 ∧ iv (sk 24) 2 ≤ 6003 := hW.int tsk24 2
      refine d_callV (As := []) (rest := [.int (iI (iv (sk 6) 2))]) C hM (C_size_24 (a0 := (sk 24)) hW hS tsk24  ) dX3_longestAt_45 kV_X3_78 rfl tsk24 rfl rfl (by decide) ck_0 rfl (Nat.le_of_ble_eq_true rfl) ⟨(Nat.le_of_ble_eq_true rfl), (Nat.le_of_ble_eq_true rfl)⟩ hph hph (show 0 + 0 = 0 from rfl) (by decide) (fun rh3 Lh3 clh3 lnh3 ivh3 rvh3 h3 => ?_)
      obtain ⟨f3, rfl, rfl, rfl, rfl, rfl, rfl, rgf3, exf3⟩ := h3
      refine c_st (st2 := [.int (iI f3), .int (iI (iv (sk 6) 2))]) rfl ?_
      have gf3 : f3 = iv (sk 24) 2 := exf3
      obtain ⟨mn1, hmn1, emn1⟩ := mmin_c (x := iv (sk 6) 2) (y := f3) (r32_c (lo := 0) (hi := 6003) ri2.1 ri2.2 (by decide) (by decide)) ⟨by omega, by omega⟩
      refine c_mmin (w := iI mn1) C dX3_longestAt_48 w5_88 w2_129 w1_14 w2_130 (by decide) (rom0 hph hph (by decide)) (Nat.le_of_ble_eq_true rfl) emn1 ?_
      refine c_istore (lv2 := [(8, .int (iI mn1)), (7, .int (iI 0)), (6, .null), (5, .int (iI f2)), (4, .ref (sk 6)), (3, .ref (sk 24)), (0, .ref a0), (1, .int (iI g)), (2, .int (iI i))]) C dX3_longestAt_51 (by decide) rfl ?_
      refine c_iconst C dX3_longestAt_53 ?_
      refine c_istore (lv2 := [(9, .int (iI 0)), (8, .int (iI mn1)), (7, .int (iI 0)), (6, .null), (5, .int (iI f2)), (4, .ref (sk 6)), (3, .ref (sk 24)), (0, .ref a0), (1, .int (iI g)), (2, .int (iI i))]) C dX3_longestAt_54 (by decide) rfl ?_
      have Lp1 : ∀ (nn : Nat) (bs : Option Nat) (lg k : Int) , 6004 - k < (nn : Int) → (∀ b, bs = some b → ty L cl b 20) → (0 ≤ lg ∧ lg ≤ 4) → (0 ≤ k ∧ k ≤ 6003) → cw p l e 3 ((PHM) + 0 - ((Phi (g0 G) sk) ln rv)) s m args below meth c G A 11 (MQ below (Qu G A (Qp G (Phi (g0 G) sk) ((Phi (g0 G) sk) ln rv) 0 (fun v L2 cl2 ln2 iv2 rv2 => ∃ f : Option Nat, v = some ((va_rf f)) ∧ L = L2 ∧ cl = cl2 ∧ ln = ln2 ∧ iv = iv2 ∧ rv = rv2 ∧ (∀ b, f = some b → ty L2 cl2 b 20) ∧ (True)))) args s (((PHM) + 0 - ((Phi (g0 G) sk) ln rv)) / 16) ((PHM) + 0 - ((Phi (g0 G) sk) ln rv)) A) (Phi (g0 G) sk) ((Phi (g0 G) sk) ln rv) L cl ln iv rv 0 56 [(6, (va_rf bs)), (7, .int (iI lg)), (9, .int (iI k)), (8, .int (iI mn1)), (5, .int (iI f2)), (4, .ref (sk 6)), (3, .ref (sk 24)), (0, .ref a0), (1, .int (iI g)), (2, .int (iI i))] [] := by
        intro nn
        induction nn with
        | zero =>
          intro bs lg k  hm  ty_bs hlg hk
          exact absurd hm (by omega)
        | succ nn ih1 =>
          intro bs lg k  hm  ty_bs hlg hk
          refine c_iload (j := 2) C dX3_longestAt_56 rfl ?_
          refine c_iload (j := 3) C dX3_longestAt_58 rfl ?_
          refine c_icmp_ge (tgt := 132) C (r32_c (lo := 0) (hi := 6003) hk.1 hk.2 (by decide) (by decide)) ⟨by omega, by omega⟩ dX3_longestAt_60 (by decide) (fun c2 => ?_) (fun c2 => ?_)
          · refine c_aloadr (j := 0) (r := bs) C dX3_longestAt_132 rfl ?_
            exact c_aret (x := bs) C dX3_longestAt_134 rfl (Or.inl ⟨_, rfl⟩) (by decide) (rom0 hph hph (by decide)) ⟨bs, rfl, rfl, rfl, rfl, rfl, rfl, ty_bs, trivial⟩
          · refine c_aload (j := 5) (x := (sk 6)) C dX3_longestAt_63 rfl ?_
            obtain ⟨rb3, rq3, trb3⟩ := hW.ref tsk6 1 rfl rfl rfl
            refine hv2 (show 16 ≤ ln rb3 ∧ ln rb3 ≤ 12006 from hW.len trb3 rfl) (hW.isz tsk6 rfl rfl rq3) (fun lnrb3 szrb3 => ?_)
            refine c_getr (k := 1) C ck_2 dX3_longestAt_65 w1_41 (by decide) tsk6 rfl rfl (by decide) rfl rq3 ?_
            refine c_st (st2 := [.ref rb3]) rfl ?_
            refine c_iload (j := 2) C dX3_longestAt_68 rfl ?_
            have ll1 : 16 ≤ ln rb3 ∧ ln rb3 ≤ 12006 := hW.len trb3 rfl
            refine c_iald C dX3_longestAt_70 trb3 rfl (by omega) (by omega) (by omega) ?_
            have ri4 : (-2147483648) ≤ iv rb3 k.toNat ∧ iv rb3 k.toNat ≤ 2147483647 := hW.int trb3 k.toNat
            refine c_iload (j := 4) C dX3_longestAt_71 rfl ?_
            refine c_icmp_eq (tgt := 79) C (r32_c (lo := (-2147483648)) (hi := 2147483647) ri4.1 ri4.2 (by decide) (by decide)) ⟨by omega, by omega⟩ dX3_longestAt_73 (by decide) (fun c3 => ?_) (fun c3 => ?_)
            · refine c_aload_n (j := 6) (x := (sk 24)) C dX3_longestAt_79 rfl ?_
              refine c_iload (j := 2) C dX3_longestAt_80 rfl ?_
              refine d_callV (As := [.int (iI k)]) (rest := []) C hM (C_get_24 (a0 := (sk 24)) (i := k) hW hS tsk24 (by omega) (by show 0 ≤ k ∧ k < iv (sk 24) 2; omega)) dX3_longestAt_82 kV_X3_82 rfl tsk24 rfl rfl (by decide) ck_0 rfl (Nat.le_of_ble_eq_true rfl) ⟨(Nat.le_of_ble_eq_true rfl), (Nat.le_of_ble_eq_true rfl)⟩ hph hph (show 0 + 0 = 0 from rfl) (by decide) (fun rh4 Lh4 clh4 lnh4 ivh4 rvh4 h4 => ?_)
              obtain ⟨f4, rfl, rfl, rfl, rfl, rfl, rfl, rgf4, exf4⟩ := h4
              refine c_st (st2 := [.ref f4]) rfl ?_
              have gf4 : el rv (sk 24) k.toNat = some f4 := exf4
              refine c_cast C ck_6 dX3_longestAt_85 w5_63 w8_169t rgf4 rfl rfl (by decide) ?_
              refine c_astore (lv2 := [(10, .ref f4), (6, (va_rf bs)), (7, .int (iI lg)), (9, .int (iI k)), (8, .int (iI mn1)), (5, .int (iI f2)), (4, .ref (sk 6)), (3, .ref (sk 24)), (0, .ref a0), (1, .int (iI g)), (2, .int (iI i))]) C dX3_longestAt_88 (by decide) rfl ?_
              refine c_aload (j := 0) (x := f4) C dX3_longestAt_90 rfl ?_
              obtain ⟨rb4, rq4, trb4⟩ := hW.ref rgf4 2 rfl rfl rfl
              have lnrb4 : 1 ≤ ln rb4 ∧ ln rb4 ≤ 4 := hW.len trb4 rfl
              refine c_getr (k := 2) C ck_6 dX3_longestAt_92 w3_143 (by decide) rgf4 rfl rfl (by decide) rfl rq4 ?_
              refine c_st (st2 := [.ref rb4]) rfl ?_
              have ll2 : 1 ≤ ln rb4 ∧ ln rb4 ≤ 4 := hW.len trb4 rfl
              refine c_alenI C dX3_longestAt_95 trb4 rfl ?_
              refine c_iload (j := 2) C dX3_longestAt_96 rfl ?_
              refine c_icmp_le (tgt := 126) C ⟨by omega, by omega⟩ (r32_c (lo := 0) (hi := 4) hlg.1 hlg.2 (by decide) (by decide)) dX3_longestAt_98 (by decide) (fun c4 => ?_) (fun c4 => ?_)
              · refine c_iinc (z := k) (j := 3) (lv2 := [(9, .int (iI (k + 1))), (10, .ref f4), (6, (va_rf bs)), (7, .int (iI lg)), (8, .int (iI mn1)), (5, .int (iI f2)), (4, .ref (sk 6)), (3, .ref (sk 24)), (0, .ref a0), (1, .int (iI g)), (2, .int (iI i))]) C dX3_longestAt_126 rfl (by decide) rfl ?_
                refine c_goto (tgt := 56) C dX3_longestAt_129 (by decide) ?_
                refine c_lv (lv2 := [(6, (va_rf bs)), (7, .int (iI lg)), (9, .int (iI (k + 1))), (8, .int (iI mn1)), (5, .int (iI f2)), (4, .ref (sk 6)), (3, .ref (sk 24)), (0, .ref a0), (1, .int (iI g)), (2, .int (iI i))]) [2, 3, 0, 4, 5, 6, 7, 8, 9, 10] rfl ?_
                exact ih1  bs lg (k + 1)  (by omega)  ty_bs (by omega) (by omega)
              · refine c_aload (j := 0) (x := f4) C dX3_longestAt_101 rfl ?_
                refine c_aload_n (j := 8) (x := a0) C dX3_longestAt_103 rfl ?_
                refine c_getr (k := 4) C ck_4 dX3_longestAt_104 w1_198 (by decide) t_a0 rfl rfl (by decide) rfl rq2 ?_
                refine c_st (st2 := [.ref (sk 8), .ref f4]) rfl ?_
                refine c_iload_n (j := 10) C dX3_longestAt_107 rfl ?_
                refine d_callV (As := [.ref (sk 8), .int (iI i)]) (rest := []) C hM (C_standsAt (a0 := f4) (a1 := (sk 8)) (i := i) hW hS rgf4 tsk8 (by omega) ) dX3_longestAt_108 kV_X3_157 rfl rgf4 rfl rfl (by decide) ck_6 rfl (Nat.le_of_ble_eq_true rfl) ⟨(Nat.le_of_ble_eq_true rfl), (Nat.le_of_ble_eq_true rfl)⟩ hph hph (show 0 + 0 = 0 from rfl) (by decide) (fun rh5 Lh5 clh5 lnh5 ivh5 rvh5 h5 => ?_)
                obtain ⟨f5, rfl, rfl, rfl, rfl, rfl, rfl, rgf5, exf5⟩ := h5
                refine c_st (st2 := [.int (iI f5)]) rfl ?_
                refine c_if_eq (tgt := 126) C ⟨by omega, by omega⟩ dX3_longestAt_111 (by decide) (fun c5 => ?_) (fun c5 => ?_)
                · refine c_iinc (z := k) (j := 3) (lv2 := [(9, .int (iI (k + 1))), (10, .ref f4), (6, (va_rf bs)), (7, .int (iI lg)), (8, .int (iI mn1)), (5, .int (iI f2)), (4, .ref (sk 6)), (3, .ref (sk 24)), (0, .ref a0), (1, .int (iI g)), (2, .int (iI i))]) C dX3_longestAt_126 rfl (by decide) rfl ?_
                  refine c_goto (tgt := 56) C dX3_longestAt_129 (by decide) ?_
                  refine c_lv (lv2 := [(6, (va_rf bs)), (7, .int (iI lg)), (9, .int (iI (k + 1))), (8, .int (iI mn1)), (5, .int (iI f2)), (4, .ref (sk 6)), (3, .ref (sk 24)), (0, .ref a0), (1, .int (iI g)), (2, .int (iI i))]) [2, 3, 0, 4, 5, 6, 7, 8, 9, 10] rfl ?_
                  exact ih1  bs lg (k + 1)  (by omega)  ty_bs (by omega) (by omega)
                · refine c_aload (j := 0) (x := f4) C dX3_longestAt_114 rfl ?_
                  refine c_astore (lv2 := [(6, .ref f4), (10, .ref f4), (7, .int (iI lg)), (9, .int (iI k)), (8, .int (iI mn1)), (5, .int (iI f2)), (4, .ref (sk 6)), (3, .ref (sk 24)), (0, .ref a0), (1, .int (iI g)), (2, .int (iI i))]) C dX3_longestAt_116 (by decide) rfl ?_
                  refine c_aload (j := 1) (x := f4) C dX3_longestAt_118 rfl ?_
                  refine c_getr (k := 2) C ck_6 dX3_longestAt_120 w3_143 (by decide) rgf4 rfl rfl (by decide) rfl rq4 ?_
                  refine c_st (st2 := [.ref rb4]) rfl ?_
                  refine c_alenI C dX3_longestAt_123 trb4 rfl ?_
                  refine c_istore (lv2 := [(7, .int (iI ((ln rb4 : Nat) : Int))), (6, .ref f4), (10, .ref f4), (9, .int (iI k)), (8, .int (iI mn1)), (5, .int (iI f2)), (4, .ref (sk 6)), (3, .ref (sk 24)), (0, .ref a0), (1, .int (iI g)), (2, .int (iI i))]) C dX3_longestAt_124 (by decide) rfl ?_
                  refine c_iinc (z := k) (j := 3) (lv2 := [(9, .int (iI (k + 1))), (7, .int (iI ((ln rb4 : Nat) : Int))), (6, .ref f4), (10, .ref f4), (8, .int (iI mn1)), (5, .int (iI f2)), (4, .ref (sk 6)), (3, .ref (sk 24)), (0, .ref a0), (1, .int (iI g)), (2, .int (iI i))]) C dX3_longestAt_126 rfl (by decide) rfl ?_
                  refine c_goto (tgt := 56) C dX3_longestAt_129 (by decide) ?_
                  refine c_lv (lv2 := [(6, .ref f4), (7, .int (iI ((ln rb4 : Nat) : Int))), (9, .int (iI (k + 1))), (8, .int (iI mn1)), (5, .int (iI f2)), (4, .ref (sk 6)), (3, .ref (sk 24)), (0, .ref a0), (1, .int (iI g)), (2, .int (iI i))]) [2, 1, 0, 4, 5, 6, 7, 8, 9, 10] rfl ?_
                  exact ih1  (some f4) ((ln rb4 : Nat) : Int) (k + 1)  (by omega)  (fun _ q => by cases q; exact rgf4) (by omega) (by omega)
            · refine c_goto (tgt := 126) C dX3_longestAt_76 (by decide) ?_
              refine c_iinc (z := k) (j := 2) (lv2 := [(9, .int (iI (k + 1))), (6, (va_rf bs)), (7, .int (iI lg)), (8, .int (iI mn1)), (5, .int (iI f2)), (4, .ref (sk 6)), (3, .ref (sk 24)), (0, .ref a0), (1, .int (iI g)), (2, .int (iI i))]) C dX3_longestAt_126 rfl (by decide) rfl ?_
              refine c_goto (tgt := 56) C dX3_longestAt_129 (by decide) ?_
              refine c_lv (lv2 := [(6, (va_rf bs)), (7, .int (iI lg)), (9, .int (iI (k + 1))), (8, .int (iI mn1)), (5, .int (iI f2)), (4, .ref (sk 6)), (3, .ref (sk 24)), (0, .ref a0), (1, .int (iI g)), (2, .int (iI i))]) [1, 2, 0, 3, 4, 5, 6, 7, 8, 9] rfl ?_
              exact ih1  bs lg (k + 1)  (by omega)  ty_bs (by omega) (by omega)
      refine c_lv (lv2 := [(6, .null), (7, .int (iI 0)), (9, .int (iI 0)), (8, .int (iI mn1)), (5, .int (iI f2)), (4, .ref (sk 6)), (3, .ref (sk 24)), (0, .ref a0), (1, .int (iI g)), (2, .int (iI i))]) [3, 2, 0, 1, 4, 5, 6, 7, 8, 9] rfl ?_
      exact Lp1 6006 none 0 0  (by omega)  (fun _ q => by cases q) (by omega) (by omega)
    · refine c_aload_n (j := 1) (x := a0) C dX3_longestAt_10 rfl ?_
      obtain ⟨rb5, rq5, trb5⟩ := hW.ref t_a0 3 rfl rfl rfl
      have erb5 := hW.sk trb5 (by decide) rfl
      subst erb5
      refine c_getr (k := 3) C ck_4 dX3_longestAt_11 w1_197 (by decide) t_a0 rfl rfl (by decide) rfl rq5 ?_
      refine c_st (st2 := [.ref (sk 7)]) rfl ?_
      refine c_goto (tgt := 21) C dX3_longestAt_14 (by decide) ?_
      refine c_astore (lv2 := [(4, .ref (sk 7)), (3, .ref (sk 24)), (0, .ref a0), (1, .int (iI g)), (2, .int (iI i))]) C dX3_longestAt_21 (by decide) rfl ?_
      refine c_aload_n (j := 2) (x := a0) C dX3_longestAt_23 rfl ?_
      obtain ⟨rb6, rq6, trb6⟩ := hW.ref t_a0 4 rfl rfl rfl
      have erb6 := hW.sk trb6 (by decide) rfl
      subst erb6
      refine c_getr (k := 4) C ck_4 dX3_longestAt_24 w1_198 (by decide) t_a0 rfl rfl (by decide) rfl rq6 ?_
      refine c_st (st2 := [.ref (sk 8)]) rfl ?_
      refine c_iload_n (j := 4) C dX3_longestAt_27 rfl ?_
      have ri5 : 0 ≤ iv (sk 8) 2 ∧ iv (sk 8) 2 ≤ 40200 := hW.int tsk8 2
      refine d_callV (As := [.int (iI i)]) (rest := []) C hM (C_at_8 (a0 := (sk 8)) (i := i) hW hS tsk8 (by omega) ) dX3_longestAt_28 kV_X3_119 rfl tsk8 rfl rfl (by decide) ck_2 rfl (Nat.le_of_ble_eq_true rfl) ⟨(Nat.le_of_ble_eq_true rfl), (Nat.le_of_ble_eq_true rfl)⟩ hph hph (show 0 + 0 = 0 from rfl) (by decide) (fun rh6 Lh6 clh6 lnh6 ivh6 rvh6 h6 => ?_)
      obtain ⟨f6, rfl, rfl, rfl, rfl, rfl, rfl, rgf6, exf6⟩ := h6
      refine c_st (st2 := [.int (iI f6)]) rfl ?_
      have gf6 : ((0 ≤ i ∧ i < iv (sk 8) 2) ∨ f6 = 0) ∧ ∀ ss, CT iv rv (sk 8) ss → 0 ≤ i → i < iv (sk 8) 2 → f6 = ss i.toNat := exf6
      refine c_istore (lv2 := [(5, .int (iI f6)), (4, .ref (sk 7)), (3, .ref (sk 24)), (0, .ref a0), (1, .int (iI g)), (2, .int (iI i))]) C dX3_longestAt_31 (by decide) rfl ?_
      refine c_null C dX3_longestAt_33 ?_
      refine c_astorer (r := none) (lv2 := [(6, .null), (5, .int (iI f6)), (4, .ref (sk 7)), (3, .ref (sk 24)), (0, .ref a0), (1, .int (iI g)), (2, .int (iI i))]) C dX3_longestAt_34 (by decide) rfl ?_
      refine c_iconst C dX3_longestAt_36 ?_
      refine c_istore (lv2 := [(7, .int (iI 0)), (6, .null), (5, .int (iI f6)), (4, .ref (sk 7)), (3, .ref (sk 24)), (0, .ref a0), (1, .int (iI g)), (2, .int (iI i))]) C dX3_longestAt_37 (by decide) rfl ?_
      refine c_aload (j := 3) (x := (sk 7)) C dX3_longestAt_39 rfl ?_
      have ri6 : 0 ≤ iv (sk 7) 2 ∧ iv (sk 7) 2 ≤ 6003 := hW.int tsk7 2
      refine c_get (k := 2) C ck_2 dX3_longestAt_41 w1_49 (by decide) tsk7 rfl rfl (by decide) rfl ?_
      refine c_aload_n (j := 4) (x := (sk 24)) C dX3_longestAt_44 rfl ?_
      have ri7 : 0 ≤ iv (sk 24) 2 ∧ iv (sk 24) 2 ≤ 6003 := hW.int tsk24 2
      refine d_callV (As := []) (rest := [.int (iI (iv (sk 7) 2))]) C hM (C_size_24 (a0 := (sk 24)) hW hS tsk24  ) dX3_longestAt_45 kV_X3_78 rfl tsk24 rfl rfl (by decide) ck_0 rfl (Nat.le_of_ble_eq_true rfl) ⟨(Nat.le_of_ble_eq_true rfl), (Nat.le_of_ble_eq_true rfl)⟩ hph hph (show 0 + 0 = 0 from rfl) (by decide) (fun rh7 Lh7 clh7 lnh7 ivh7 rvh7 h7 => ?_)
      obtain ⟨f7, rfl, rfl, rfl, rfl, rfl, rfl, rgf7, exf7⟩ := h7
      refine c_st (st2 := [.int (iI f7), .int (iI (iv (sk 7) 2))]) rfl ?_
      have gf7 : f7 = iv (sk 24) 2 := exf7
      obtain ⟨mn2, hmn2, emn2⟩ := mmin_c (x := iv (sk 7) 2) (y := f7) (r32_c (lo := 0) (hi := 6003) ri6.1 ri6.2 (by decide) (by decide)) ⟨by omega, by omega⟩
      refine c_mmin (w := iI mn2) C dX3_longestAt_48 w5_88 w2_129 w1_14 w2_130 (by decide) (rom0 hph hph (by decide)) (Nat.le_of_ble_eq_true rfl) emn2 ?_
      refine c_istore (lv2 := [(8, .int (iI mn2)), (7, .int (iI 0)), (6, .null), (5, .int (iI f6)), (4, .ref (sk 7)), (3, .ref (sk 24)), (0, .ref a0), (1, .int (iI g)), (2, .int (iI i))]) C dX3_longestAt_51 (by decide) rfl ?_
      refine c_iconst C dX3_longestAt_53 ?_
      refine c_istore (lv2 := [(9, .int (iI 0)), (8, .int (iI mn2)), (7, .int (iI 0)), (6, .null), (5, .int (iI f6)), (4, .ref (sk 7)), (3, .ref (sk 24)), (0, .ref a0), (1, .int (iI g)), (2, .int (iI i))]) C dX3_longestAt_54 (by decide) rfl ?_
      have Lp2 : ∀ (nn : Nat) (bs : Option Nat) (lg k : Int) , 6004 - k < (nn : Int) → (∀ b, bs = some b → ty L cl b 20) → (0 ≤ lg ∧ lg ≤ 4) → (0 ≤ k ∧ k ≤ 6003) → cw p l e 3 ((PHM) + 0 - ((Phi (g0 G) sk) ln rv)) s m args below meth c G A 11 (MQ below (Qu G A (Qp G (Phi (g0 G) sk) ((Phi (g0 G) sk) ln rv) 0 (fun v L2 cl2 ln2 iv2 rv2 => ∃ f : Option Nat, v = some ((va_rf f)) ∧ L = L2 ∧ cl = cl2 ∧ ln = ln2 ∧ iv = iv2 ∧ rv = rv2 ∧ (∀ b, f = some b → ty L2 cl2 b 20) ∧ (True)))) args s (((PHM) + 0 - ((Phi (g0 G) sk) ln rv)) / 16) ((PHM) + 0 - ((Phi (g0 G) sk) ln rv)) A) (Phi (g0 G) sk) ((Phi (g0 G) sk) ln rv) L cl ln iv rv 0 56 [(6, (va_rf bs)), (7, .int (iI lg)), (9, .int (iI k)), (8, .int (iI mn2)), (5, .int (iI f6)), (4, .ref (sk 7)), (3, .ref (sk 24)), (0, .ref a0), (1, .int (iI g)), (2, .int (iI i))] [] := by
        intro nn
        induction nn with
        | zero =>
          intro bs lg k  hm  ty_bs hlg hk
          exact absurd hm (by omega)
        | succ nn ih2 =>
          intro bs lg k  hm  ty_bs hlg hk
          refine c_iload (j := 2) C dX3_longestAt_56 rfl ?_
          refine c_iload (j := 3) C dX3_longestAt_58 rfl ?_
          refine c_icmp_ge (tgt := 132) C (r32_c (lo := 0) (hi := 6003) hk.1 hk.2 (by decide) (by decide)) ⟨by omega, by omega⟩ dX3_longestAt_60 (by decide) (fun c6 => ?_) (fun c6 => ?_)
          · refine c_aloadr (j := 0) (r := bs) C dX3_longestAt_132 rfl ?_
            exact c_aret (x := bs) C dX3_longestAt_134 rfl (Or.inl ⟨_, rfl⟩) (by decide) (rom0 hph hph (by decide)) ⟨bs, rfl, rfl, rfl, rfl, rfl, rfl, ty_bs, trivial⟩
          · refine c_aload (j := 5) (x := (sk 7)) C dX3_longestAt_63 rfl ?_
            obtain ⟨rb7, rq7, trb7⟩ := hW.ref tsk7 1 rfl rfl rfl
            refine hv2 (show 16 ≤ ln rb7 ∧ ln rb7 ≤ 12006 from hW.len trb7 rfl) (hW.isz tsk7 rfl rfl rq7) (fun lnrb7 szrb7 => ?_)
            refine c_getr (k := 1) C ck_2 dX3_longestAt_65 w1_41 (by decide) tsk7 rfl rfl (by decide) rfl rq7 ?_
            refine c_st (st2 := [.ref rb7]) rfl ?_
            refine c_iload (j := 2) C dX3_longestAt_68 rfl ?_
            have ll3 : 16 ≤ ln rb7 ∧ ln rb7 ≤ 12006 := hW.len trb7 rfl
            refine c_iald C dX3_longestAt_70 trb7 rfl (by omega) (by omega) (by omega) ?_
            have ri8 : (-2147483648) ≤ iv rb7 k.toNat ∧ iv rb7 k.toNat ≤ 2147483647 := hW.int trb7 k.toNat
            refine c_iload (j := 4) C dX3_longestAt_71 rfl ?_
            refine c_icmp_eq (tgt := 79) C (r32_c (lo := (-2147483648)) (hi := 2147483647) ri8.1 ri8.2 (by decide) (by decide)) ⟨by omega, by omega⟩ dX3_longestAt_73 (by decide) (fun c7 => ?_) (fun c7 => ?_)
            · refine c_aload_n (j := 6) (x := (sk 24)) C dX3_longestAt_79 rfl ?_
              refine c_iload (j := 2) C dX3_longestAt_80 rfl ?_
              refine d_callV (As := [.int (iI k)]) (rest := []) C hM (C_get_24 (a0 := (sk 24)) (i := k) hW hS tsk24 (by omega) (by show 0 ≤ k ∧ k < iv (sk 24) 2; omega)) dX3_longestAt_82 kV_X3_82 rfl tsk24 rfl rfl (by decide) ck_0 rfl (Nat.le_of_ble_eq_true rfl) ⟨(Nat.le_of_ble_eq_true rfl), (Nat.le_of_ble_eq_true rfl)⟩ hph hph (show 0 + 0 = 0 from rfl) (by decide) (fun rh8 Lh8 clh8 lnh8 ivh8 rvh8 h8 => ?_)
              obtain ⟨f8, rfl, rfl, rfl, rfl, rfl, rfl, rgf8, exf8⟩ := h8
              refine c_st (st2 := [.ref f8]) rfl ?_
              have gf8 : el rv (sk 24) k.toNat = some f8 := exf8
              refine c_cast C ck_6 dX3_longestAt_85 w5_63 w8_169t rgf8 rfl rfl (by decide) ?_
              refine c_astore (lv2 := [(10, .ref f8), (6, (va_rf bs)), (7, .int (iI lg)), (9, .int (iI k)), (8, .int (iI mn2)), (5, .int (iI f6)), (4, .ref (sk 7)), (3, .ref (sk 24)), (0, .ref a0), (1, .int (iI g)), (2, .int (iI i))]) C dX3_longestAt_88 (by decide) rfl ?_
              refine c_aload (j := 0) (x := f8) C dX3_longestAt_90 rfl ?_
              obtain ⟨rb8, rq8, trb8⟩ := hW.ref rgf8 2 rfl rfl rfl
              have lnrb8 : 1 ≤ ln rb8 ∧ ln rb8 ≤ 4 := hW.len trb8 rfl
              refine c_getr (k := 2) C ck_6 dX3_longestAt_92 w3_143 (by decide) rgf8 rfl rfl (by decide) rfl rq8 ?_
              refine c_st (st2 := [.ref rb8]) rfl ?_
              have ll4 : 1 ≤ ln rb8 ∧ ln rb8 ≤ 4 := hW.len trb8 rfl
              refine c_alenI C dX3_longestAt_95 trb8 rfl ?_
              refine c_iload (j := 2) C dX3_longestAt_96 rfl ?_
              refine c_icmp_le (tgt := 126) C ⟨by omega, by omega⟩ (r32_c (lo := 0) (hi := 4) hlg.1 hlg.2 (by decide) (by decide)) dX3_longestAt_98 (by decide) (fun c8 => ?_) (fun c8 => ?_)
              · refine c_iinc (z := k) (j := 3) (lv2 := [(9, .int (iI (k + 1))), (10, .ref f8), (6, (va_rf bs)), (7, .int (iI lg)), (8, .int (iI mn2)), (5, .int (iI f6)), (4, .ref (sk 7)), (3, .ref (sk 24)), (0, .ref a0), (1, .int (iI g)), (2, .int (iI i))]) C dX3_longestAt_126 rfl (by decide) rfl ?_
                refine c_goto (tgt := 56) C dX3_longestAt_129 (by decide) ?_
                refine c_lv (lv2 := [(6, (va_rf bs)), (7, .int (iI lg)), (9, .int (iI (k + 1))), (8, .int (iI mn2)), (5, .int (iI f6)), (4, .ref (sk 7)), (3, .ref (sk 24)), (0, .ref a0), (1, .int (iI g)), (2, .int (iI i))]) [2, 3, 0, 4, 5, 6, 7, 8, 9, 10] rfl ?_
                exact ih2  bs lg (k + 1)  (by omega)  ty_bs (by omega) (by omega)
              · refine c_aload (j := 0) (x := f8) C dX3_longestAt_101 rfl ?_
                refine c_aload_n (j := 8) (x := a0) C dX3_longestAt_103 rfl ?_
                refine c_getr (k := 4) C ck_4 dX3_longestAt_104 w1_198 (by decide) t_a0 rfl rfl (by decide) rfl rq6 ?_
                refine c_st (st2 := [.ref (sk 8), .ref f8]) rfl ?_
                refine c_iload_n (j := 10) C dX3_longestAt_107 rfl ?_
                refine d_callV (As := [.ref (sk 8), .int (iI i)]) (rest := []) C hM (C_standsAt (a0 := f8) (a1 := (sk 8)) (i := i) hW hS rgf8 tsk8 (by omega) ) dX3_longestAt_108 kV_X3_157 rfl rgf8 rfl rfl (by decide) ck_6 rfl (Nat.le_of_ble_eq_true rfl) ⟨(Nat.le_of_ble_eq_true rfl), (Nat.le_of_ble_eq_true rfl)⟩ hph hph (show 0 + 0 = 0 from rfl) (by decide) (fun rh9 Lh9 clh9 lnh9 ivh9 rvh9 h9 => ?_)
                obtain ⟨f9, rfl, rfl, rfl, rfl, rfl, rfl, rgf9, exf9⟩ := h9
                refine c_st (st2 := [.int (iI f9)]) rfl ?_
                refine c_if_eq (tgt := 126) C ⟨by omega, by omega⟩ dX3_longestAt_111 (by decide) (fun c9 => ?_) (fun c9 => ?_)
                · refine c_iinc (z := k) (j := 3) (lv2 := [(9, .int (iI (k + 1))), (10, .ref f8), (6, (va_rf bs)), (7, .int (iI lg)), (8, .int (iI mn2)), (5, .int (iI f6)), (4, .ref (sk 7)), (3, .ref (sk 24)), (0, .ref a0), (1, .int (iI g)), (2, .int (iI i))]) C dX3_longestAt_126 rfl (by decide) rfl ?_
                  refine c_goto (tgt := 56) C dX3_longestAt_129 (by decide) ?_
                  refine c_lv (lv2 := [(6, (va_rf bs)), (7, .int (iI lg)), (9, .int (iI (k + 1))), (8, .int (iI mn2)), (5, .int (iI f6)), (4, .ref (sk 7)), (3, .ref (sk 24)), (0, .ref a0), (1, .int (iI g)), (2, .int (iI i))]) [2, 3, 0, 4, 5, 6, 7, 8, 9, 10] rfl ?_
                  exact ih2  bs lg (k + 1)  (by omega)  ty_bs (by omega) (by omega)
                · refine c_aload (j := 0) (x := f8) C dX3_longestAt_114 rfl ?_
                  refine c_astore (lv2 := [(6, .ref f8), (10, .ref f8), (7, .int (iI lg)), (9, .int (iI k)), (8, .int (iI mn2)), (5, .int (iI f6)), (4, .ref (sk 7)), (3, .ref (sk 24)), (0, .ref a0), (1, .int (iI g)), (2, .int (iI i))]) C dX3_longestAt_116 (by decide) rfl ?_
                  refine c_aload (j := 1) (x := f8) C dX3_longestAt_118 rfl ?_
                  refine c_getr (k := 2) C ck_6 dX3_longestAt_120 w3_143 (by decide) rgf8 rfl rfl (by decide) rfl rq8 ?_
                  refine c_st (st2 := [.ref rb8]) rfl ?_
                  refine c_alenI C dX3_longestAt_123 trb8 rfl ?_
                  refine c_istore (lv2 := [(7, .int (iI ((ln rb8 : Nat) : Int))), (6, .ref f8), (10, .ref f8), (9, .int (iI k)), (8, .int (iI mn2)), (5, .int (iI f6)), (4, .ref (sk 7)), (3, .ref (sk 24)), (0, .ref a0), (1, .int (iI g)), (2, .int (iI i))]) C dX3_longestAt_124 (by decide) rfl ?_
                  refine c_iinc (z := k) (j := 3) (lv2 := [(9, .int (iI (k + 1))), (7, .int (iI ((ln rb8 : Nat) : Int))), (6, .ref f8), (10, .ref f8), (8, .int (iI mn2)), (5, .int (iI f6)), (4, .ref (sk 7)), (3, .ref (sk 24)), (0, .ref a0), (1, .int (iI g)), (2, .int (iI i))]) C dX3_longestAt_126 rfl (by decide) rfl ?_
                  refine c_goto (tgt := 56) C dX3_longestAt_129 (by decide) ?_
                  refine c_lv (lv2 := [(6, .ref f8), (7, .int (iI ((ln rb8 : Nat) : Int))), (9, .int (iI (k + 1))), (8, .int (iI mn2)), (5, .int (iI f6)), (4, .ref (sk 7)), (3, .ref (sk 24)), (0, .ref a0), (1, .int (iI g)), (2, .int (iI i))]) [2, 1, 0, 4, 5, 6, 7, 8, 9, 10] rfl ?_
                  exact ih2  (some f8) ((ln rb8 : Nat) : Int) (k + 1)  (by omega)  (fun _ q => by cases q; exact rgf8) (by omega) (by omega)
            · refine c_goto (tgt := 126) C dX3_longestAt_76 (by decide) ?_
              refine c_iinc (z := k) (j := 2) (lv2 := [(9, .int (iI (k + 1))), (6, (va_rf bs)), (7, .int (iI lg)), (8, .int (iI mn2)), (5, .int (iI f6)), (4, .ref (sk 7)), (3, .ref (sk 24)), (0, .ref a0), (1, .int (iI g)), (2, .int (iI i))]) C dX3_longestAt_126 rfl (by decide) rfl ?_
              refine c_goto (tgt := 56) C dX3_longestAt_129 (by decide) ?_
              refine c_lv (lv2 := [(6, (va_rf bs)), (7, .int (iI lg)), (9, .int (iI (k + 1))), (8, .int (iI mn2)), (5, .int (iI f6)), (4, .ref (sk 7)), (3, .ref (sk 24)), (0, .ref a0), (1, .int (iI g)), (2, .int (iI i))]) [1, 2, 0, 3, 4, 5, 6, 7, 8, 9] rfl ?_
              exact ih2  bs lg (k + 1)  (by omega)  ty_bs (by omega) (by omega)
      refine c_lv (lv2 := [(6, .null), (7, .int (iI 0)), (9, .int (iI 0)), (8, .int (iI mn2)), (5, .int (iI f6)), (4, .ref (sk 7)), (3, .ref (sk 24)), (0, .ref a0), (1, .int (iI g)), (2, .int (iI i))]) [3, 2, 0, 1, 4, 5, 6, 7, 8, 9] rfl ?_
      exact Lp2 6006 none 0 0  (by omega)  (fun _ q => by cases q) (by omega) (by omega)
  · obtain ⟨hf1, rfl⟩ := exf1
    refine c_st (st2 := [.ref (sk 25)]) rfl ?_
    refine c_astore_n (lv2 := [(3, .ref (sk 25)), (0, .ref a0), (1, .int (iI g)), (2, .int (iI i))]) C dX3_longestAt_5 (by decide) rfl ?_
    refine c_iload_n (j := 2) C dX3_longestAt_6 rfl ?_
    refine c_if_eq (tgt := 17) C ⟨by omega, by omega⟩ dX3_longestAt_7 (by decide) (fun c10 => ?_) (fun c10 => ?_)
    · refine c_aload_n (j := 1) (x := a0) C dX3_longestAt_17 rfl ?_
      obtain ⟨rb9, rq9, trb9⟩ := hW.ref t_a0 2 rfl rfl rfl
      have erb9 := hW.sk trb9 (by decide) rfl
      subst erb9
      refine c_getr (k := 2) C ck_4 dX3_longestAt_18 w1_196 (by decide) t_a0 rfl rfl (by decide) rfl rq9 ?_
      refine c_st (st2 := [.ref (sk 6)]) rfl ?_
      refine c_astore (lv2 := [(4, .ref (sk 6)), (3, .ref (sk 25)), (0, .ref a0), (1, .int (iI g)), (2, .int (iI i))]) C dX3_longestAt_21 (by decide) rfl ?_
      refine c_aload_n (j := 2) (x := a0) C dX3_longestAt_23 rfl ?_
      obtain ⟨rb10, rq10, trb10⟩ := hW.ref t_a0 4 rfl rfl rfl
      have erb10 := hW.sk trb10 (by decide) rfl
      subst erb10
      refine c_getr (k := 4) C ck_4 dX3_longestAt_24 w1_198 (by decide) t_a0 rfl rfl (by decide) rfl rq10 ?_
      refine c_st (st2 := [.ref (sk 8)]) rfl ?_
      refine c_iload_n (j := 4) C dX3_longestAt_27 rfl ?_
      have ri9 : 0 ≤ iv (sk 8) 2 ∧ iv (sk 8) 2 ≤ 40200 := hW.int tsk8 2
      refine d_callV (As := [.int (iI i)]) (rest := []) C hM (C_at_8 (a0 := (sk 8)) (i := i) hW hS tsk8 (by omega) ) dX3_longestAt_28 kV_X3_119 rfl tsk8 rfl rfl (by decide) ck_2 rfl (Nat.le_of_ble_eq_true rfl) ⟨(Nat.le_of_ble_eq_true rfl), (Nat.le_of_ble_eq_true rfl)⟩ hph hph (show 0 + 0 = 0 from rfl) (by decide) (fun rh10 Lh10 clh10 lnh10 ivh10 rvh10 h10 => ?_)
      obtain ⟨f10, rfl, rfl, rfl, rfl, rfl, rfl, rgf10, exf10⟩ := h10
      refine c_st (st2 := [.int (iI f10)]) rfl ?_
      have gf10 : ((0 ≤ i ∧ i < iv (sk 8) 2) ∨ f10 = 0) ∧ ∀ ss, CT iv rv (sk 8) ss → 0 ≤ i → i < iv (sk 8) 2 → f10 = ss i.toNat := exf10
      refine c_istore (lv2 := [(5, .int (iI f10)), (4, .ref (sk 6)), (3, .ref (sk 25)), (0, .ref a0), (1, .int (iI g)), (2, .int (iI i))]) C dX3_longestAt_31 (by decide) rfl ?_
      refine c_null C dX3_longestAt_33 ?_
      refine c_astorer (r := none) (lv2 := [(6, .null), (5, .int (iI f10)), (4, .ref (sk 6)), (3, .ref (sk 25)), (0, .ref a0), (1, .int (iI g)), (2, .int (iI i))]) C dX3_longestAt_34 (by decide) rfl ?_
      refine c_iconst C dX3_longestAt_36 ?_
      refine c_istore (lv2 := [(7, .int (iI 0)), (6, .null), (5, .int (iI f10)), (4, .ref (sk 6)), (3, .ref (sk 25)), (0, .ref a0), (1, .int (iI g)), (2, .int (iI i))]) C dX3_longestAt_37 (by decide) rfl ?_
      refine c_aload (j := 3) (x := (sk 6)) C dX3_longestAt_39 rfl ?_
      have ri10 : 0 ≤ iv (sk 6) 2 ∧ iv (sk 6) 2 ≤ 6003 := hW.int tsk6 2
      refine c_get (k := 2) C ck_2 dX3_longestAt_41 w1_49 (by decide) tsk6 rfl rfl (by decide) rfl ?_
      refine c_aload_n (j := 4) (x := (sk 25)) C dX3_longestAt_44 rfl ?_
      have ri11 : 0 ≤ iv (sk 25) 2 ∧ iv (sk 25) 2 ≤ 6003 := hW.int tsk25 2
      refine d_callV (As := []) (rest := [.int (iI (iv (sk 6) 2))]) C hM (C_size_25 (a0 := (sk 25)) hW hS tsk25  ) dX3_longestAt_45 kV_X3_78 rfl tsk25 rfl rfl (by decide) ck_0 rfl (Nat.le_of_ble_eq_true rfl) ⟨(Nat.le_of_ble_eq_true rfl), (Nat.le_of_ble_eq_true rfl)⟩ hph hph (show 0 + 0 = 0 from rfl) (by decide) (fun rh11 Lh11 clh11 lnh11 ivh11 rvh11 h11 => ?_)
      obtain ⟨f11, rfl, rfl, rfl, rfl, rfl, rfl, rgf11, exf11⟩ := h11
      refine c_st (st2 := [.int (iI f11), .int (iI (iv (sk 6) 2))]) rfl ?_
      have gf11 : f11 = iv (sk 25) 2 := exf11
      obtain ⟨mn3, hmn3, emn3⟩ := mmin_c (x := iv (sk 6) 2) (y := f11) (r32_c (lo := 0) (hi := 6003) ri10.1 ri10.2 (by decide) (by decide)) ⟨by omega, by omega⟩
      refine c_mmin (w := iI mn3) C dX3_longestAt_48 w5_88 w2_129 w1_14 w2_130 (by decide) (rom0 hph hph (by decide)) (Nat.le_of_ble_eq_true rfl) emn3 ?_
      refine c_istore (lv2 := [(8, .int (iI mn3)), (7, .int (iI 0)), (6, .null), (5, .int (iI f10)), (4, .ref (sk 6)), (3, .ref (sk 25)), (0, .ref a0), (1, .int (iI g)), (2, .int (iI i))]) C dX3_longestAt_51 (by decide) rfl ?_
      refine c_iconst C dX3_longestAt_53 ?_
      refine c_istore (lv2 := [(9, .int (iI 0)), (8, .int (iI mn3)), (7, .int (iI 0)), (6, .null), (5, .int (iI f10)), (4, .ref (sk 6)), (3, .ref (sk 25)), (0, .ref a0), (1, .int (iI g)), (2, .int (iI i))]) C dX3_longestAt_54 (by decide) rfl ?_
      have Lp3 : ∀ (nn : Nat) (bs : Option Nat) (lg k : Int) , 6004 - k < (nn : Int) → (∀ b, bs = some b → ty L cl b 20) → (0 ≤ lg ∧ lg ≤ 4) → (0 ≤ k ∧ k ≤ 6003) → cw p l e 3 ((PHM) + 0 - ((Phi (g0 G) sk) ln rv)) s m args below meth c G A 11 (MQ below (Qu G A (Qp G (Phi (g0 G) sk) ((Phi (g0 G) sk) ln rv) 0 (fun v L2 cl2 ln2 iv2 rv2 => ∃ f : Option Nat, v = some ((va_rf f)) ∧ L = L2 ∧ cl = cl2 ∧ ln = ln2 ∧ iv = iv2 ∧ rv = rv2 ∧ (∀ b, f = some b → ty L2 cl2 b 20) ∧ (True)))) args s (((PHM) + 0 - ((Phi (g0 G) sk) ln rv)) / 16) ((PHM) + 0 - ((Phi (g0 G) sk) ln rv)) A) (Phi (g0 G) sk) ((Phi (g0 G) sk) ln rv) L cl ln iv rv 0 56 [(6, (va_rf bs)), (7, .int (iI lg)), (9, .int (iI k)), (8, .int (iI mn3)), (5, .int (iI f10)), (4, .ref (sk 6)), (3, .ref (sk 25)), (0, .ref a0), (1, .int (iI g)), (2, .int (iI i))] [] := by
        intro nn
        induction nn with
        | zero =>
          intro bs lg k  hm  ty_bs hlg hk
          exact absurd hm (by omega)
        | succ nn ih3 =>
          intro bs lg k  hm  ty_bs hlg hk
          refine c_iload (j := 2) C dX3_longestAt_56 rfl ?_
          refine c_iload (j := 3) C dX3_longestAt_58 rfl ?_
          refine c_icmp_ge (tgt := 132) C (r32_c (lo := 0) (hi := 6003) hk.1 hk.2 (by decide) (by decide)) ⟨by omega, by omega⟩ dX3_longestAt_60 (by decide) (fun c11 => ?_) (fun c11 => ?_)
          · refine c_aloadr (j := 0) (r := bs) C dX3_longestAt_132 rfl ?_
            exact c_aret (x := bs) C dX3_longestAt_134 rfl (Or.inl ⟨_, rfl⟩) (by decide) (rom0 hph hph (by decide)) ⟨bs, rfl, rfl, rfl, rfl, rfl, rfl, ty_bs, trivial⟩
          · refine c_aload (j := 5) (x := (sk 6)) C dX3_longestAt_63 rfl ?_
            obtain ⟨rb11, rq11, trb11⟩ := hW.ref tsk6 1 rfl rfl rfl
            refine hv2 (show 16 ≤ ln rb11 ∧ ln rb11 ≤ 12006 from hW.len trb11 rfl) (hW.isz tsk6 rfl rfl rq11) (fun lnrb11 szrb11 => ?_)
            refine c_getr (k := 1) C ck_2 dX3_longestAt_65 w1_41 (by decide) tsk6 rfl rfl (by decide) rfl rq11 ?_
            refine c_st (st2 := [.ref rb11]) rfl ?_
            refine c_iload (j := 2) C dX3_longestAt_68 rfl ?_
            have ll5 : 16 ≤ ln rb11 ∧ ln rb11 ≤ 12006 := hW.len trb11 rfl
            refine c_iald C dX3_longestAt_70 trb11 rfl (by omega) (by omega) (by omega) ?_
            have ri12 : (-2147483648) ≤ iv rb11 k.toNat ∧ iv rb11 k.toNat ≤ 2147483647 := hW.int trb11 k.toNat
            refine c_iload (j := 4) C dX3_longestAt_71 rfl ?_
            refine c_icmp_eq (tgt := 79) C (r32_c (lo := (-2147483648)) (hi := 2147483647) ri12.1 ri12.2 (by decide) (by decide)) ⟨by omega, by omega⟩ dX3_longestAt_73 (by decide) (fun c12 => ?_) (fun c12 => ?_)
            · refine c_aload_n (j := 6) (x := (sk 25)) C dX3_longestAt_79 rfl ?_
              refine c_iload (j := 2) C dX3_longestAt_80 rfl ?_
              refine d_callV (As := [.int (iI k)]) (rest := []) C hM (C_get_25 (a0 := (sk 25)) (i := k) hW hS tsk25 (by omega) (by show 0 ≤ k ∧ k < iv (sk 25) 2; omega)) dX3_longestAt_82 kV_X3_82 rfl tsk25 rfl rfl (by decide) ck_0 rfl (Nat.le_of_ble_eq_true rfl) ⟨(Nat.le_of_ble_eq_true rfl), (Nat.le_of_ble_eq_true rfl)⟩ hph hph (show 0 + 0 = 0 from rfl) (by decide) (fun rh12 Lh12 clh12 lnh12 ivh12 rvh12 h12 => ?_)
              obtain ⟨f12, rfl, rfl, rfl, rfl, rfl, rfl, rgf12, exf12⟩ := h12
              refine c_st (st2 := [.ref f12]) rfl ?_
              have gf12 : el rv (sk 25) k.toNat = some f12 := exf12
              refine c_cast C ck_6 dX3_longestAt_85 w5_63 w8_169t rgf12 rfl rfl (by decide) ?_
              refine c_astore (lv2 := [(10, .ref f12), (6, (va_rf bs)), (7, .int (iI lg)), (9, .int (iI k)), (8, .int (iI mn3)), (5, .int (iI f10)), (4, .ref (sk 6)), (3, .ref (sk 25)), (0, .ref a0), (1, .int (iI g)), (2, .int (iI i))]) C dX3_longestAt_88 (by decide) rfl ?_
              refine c_aload (j := 0) (x := f12) C dX3_longestAt_90 rfl ?_
              obtain ⟨rb12, rq12, trb12⟩ := hW.ref rgf12 2 rfl rfl rfl
              have lnrb12 : 1 ≤ ln rb12 ∧ ln rb12 ≤ 4 := hW.len trb12 rfl
              refine c_getr (k := 2) C ck_6 dX3_longestAt_92 w3_143 (by decide) rgf12 rfl rfl (by decide) rfl rq12 ?_
              refine c_st (st2 := [.ref rb12]) rfl ?_
              have ll6 : 1 ≤ ln rb12 ∧ ln rb12 ≤ 4 := hW.len trb12 rfl
              refine c_alenI C dX3_longestAt_95 trb12 rfl ?_
              refine c_iload (j := 2) C dX3_longestAt_96 rfl ?_
              refine c_icmp_le (tgt := 126) C ⟨by omega, by omega⟩ (r32_c (lo := 0) (hi := 4) hlg.1 hlg.2 (by decide) (by decide)) dX3_longestAt_98 (by decide) (fun c13 => ?_) (fun c13 => ?_)
              · refine c_iinc (z := k) (j := 3) (lv2 := [(9, .int (iI (k + 1))), (10, .ref f12), (6, (va_rf bs)), (7, .int (iI lg)), (8, .int (iI mn3)), (5, .int (iI f10)), (4, .ref (sk 6)), (3, .ref (sk 25)), (0, .ref a0), (1, .int (iI g)), (2, .int (iI i))]) C dX3_longestAt_126 rfl (by decide) rfl ?_
                refine c_goto (tgt := 56) C dX3_longestAt_129 (by decide) ?_
                refine c_lv (lv2 := [(6, (va_rf bs)), (7, .int (iI lg)), (9, .int (iI (k + 1))), (8, .int (iI mn3)), (5, .int (iI f10)), (4, .ref (sk 6)), (3, .ref (sk 25)), (0, .ref a0), (1, .int (iI g)), (2, .int (iI i))]) [2, 3, 0, 4, 5, 6, 7, 8, 9, 10] rfl ?_
                exact ih3  bs lg (k + 1)  (by omega)  ty_bs (by omega) (by omega)
              · refine c_aload (j := 0) (x := f12) C dX3_longestAt_101 rfl ?_
                refine c_aload_n (j := 8) (x := a0) C dX3_longestAt_103 rfl ?_
                refine c_getr (k := 4) C ck_4 dX3_longestAt_104 w1_198 (by decide) t_a0 rfl rfl (by decide) rfl rq10 ?_
                refine c_st (st2 := [.ref (sk 8), .ref f12]) rfl ?_
                refine c_iload_n (j := 10) C dX3_longestAt_107 rfl ?_
                refine d_callV (As := [.ref (sk 8), .int (iI i)]) (rest := []) C hM (C_standsAt (a0 := f12) (a1 := (sk 8)) (i := i) hW hS rgf12 tsk8 (by omega) ) dX3_longestAt_108 kV_X3_157 rfl rgf12 rfl rfl (by decide) ck_6 rfl (Nat.le_of_ble_eq_true rfl) ⟨(Nat.le_of_ble_eq_true rfl), (Nat.le_of_ble_eq_true rfl)⟩ hph hph (show 0 + 0 = 0 from rfl) (by decide) (fun rh13 Lh13 clh13 lnh13 ivh13 rvh13 h13 => ?_)
                obtain ⟨f13, rfl, rfl, rfl, rfl, rfl, rfl, rgf13, exf13⟩ := h13
                refine c_st (st2 := [.int (iI f13)]) rfl ?_
                refine c_if_eq (tgt := 126) C ⟨by omega, by omega⟩ dX3_longestAt_111 (by decide) (fun c14 => ?_) (fun c14 => ?_)
                · refine c_iinc (z := k) (j := 3) (lv2 := [(9, .int (iI (k + 1))), (10, .ref f12), (6, (va_rf bs)), (7, .int (iI lg)), (8, .int (iI mn3)), (5, .int (iI f10)), (4, .ref (sk 6)), (3, .ref (sk 25)), (0, .ref a0), (1, .int (iI g)), (2, .int (iI i))]) C dX3_longestAt_126 rfl (by decide) rfl ?_
                  refine c_goto (tgt := 56) C dX3_longestAt_129 (by decide) ?_
                  refine c_lv (lv2 := [(6, (va_rf bs)), (7, .int (iI lg)), (9, .int (iI (k + 1))), (8, .int (iI mn3)), (5, .int (iI f10)), (4, .ref (sk 6)), (3, .ref (sk 25)), (0, .ref a0), (1, .int (iI g)), (2, .int (iI i))]) [2, 3, 0, 4, 5, 6, 7, 8, 9, 10] rfl ?_
                  exact ih3  bs lg (k + 1)  (by omega)  ty_bs (by omega) (by omega)
                · refine c_aload (j := 0) (x := f12) C dX3_longestAt_114 rfl ?_
                  refine c_astore (lv2 := [(6, .ref f12), (10, .ref f12), (7, .int (iI lg)), (9, .int (iI k)), (8, .int (iI mn3)), (5, .int (iI f10)), (4, .ref (sk 6)), (3, .ref (sk 25)), (0, .ref a0), (1, .int (iI g)), (2, .int (iI i))]) C dX3_longestAt_116 (by decide) rfl ?_
                  refine c_aload (j := 1) (x := f12) C dX3_longestAt_118 rfl ?_
                  refine c_getr (k := 2) C ck_6 dX3_longestAt_120 w3_143 (by decide) rgf12 rfl rfl (by decide) rfl rq12 ?_
                  refine c_st (st2 := [.ref rb12]) rfl ?_
                  refine c_alenI C dX3_longestAt_123 trb12 rfl ?_
                  refine c_istore (lv2 := [(7, .int (iI ((ln rb12 : Nat) : Int))), (6, .ref f12), (10, .ref f12), (9, .int (iI k)), (8, .int (iI mn3)), (5, .int (iI f10)), (4, .ref (sk 6)), (3, .ref (sk 25)), (0, .ref a0), (1, .int (iI g)), (2, .int (iI i))]) C dX3_longestAt_124 (by decide) rfl ?_
                  refine c_iinc (z := k) (j := 3) (lv2 := [(9, .int (iI (k + 1))), (7, .int (iI ((ln rb12 : Nat) : Int))), (6, .ref f12), (10, .ref f12), (8, .int (iI mn3)), (5, .int (iI f10)), (4, .ref (sk 6)), (3, .ref (sk 25)), (0, .ref a0), (1, .int (iI g)), (2, .int (iI i))]) C dX3_longestAt_126 rfl (by decide) rfl ?_
                  refine c_goto (tgt := 56) C dX3_longestAt_129 (by decide) ?_
                  refine c_lv (lv2 := [(6, .ref f12), (7, .int (iI ((ln rb12 : Nat) : Int))), (9, .int (iI (k + 1))), (8, .int (iI mn3)), (5, .int (iI f10)), (4, .ref (sk 6)), (3, .ref (sk 25)), (0, .ref a0), (1, .int (iI g)), (2, .int (iI i))]) [2, 1, 0, 4, 5, 6, 7, 8, 9, 10] rfl ?_
                  exact ih3  (some f12) ((ln rb12 : Nat) : Int) (k + 1)  (by omega)  (fun _ q => by cases q; exact rgf12) (by omega) (by omega)
            · refine c_goto (tgt := 126) C dX3_longestAt_76 (by decide) ?_
              refine c_iinc (z := k) (j := 2) (lv2 := [(9, .int (iI (k + 1))), (6, (va_rf bs)), (7, .int (iI lg)), (8, .int (iI mn3)), (5, .int (iI f10)), (4, .ref (sk 6)), (3, .ref (sk 25)), (0, .ref a0), (1, .int (iI g)), (2, .int (iI i))]) C dX3_longestAt_126 rfl (by decide) rfl ?_
              refine c_goto (tgt := 56) C dX3_longestAt_129 (by decide) ?_
              refine c_lv (lv2 := [(6, (va_rf bs)), (7, .int (iI lg)), (9, .int (iI (k + 1))), (8, .int (iI mn3)), (5, .int (iI f10)), (4, .ref (sk 6)), (3, .ref (sk 25)), (0, .ref a0), (1, .int (iI g)), (2, .int (iI i))]) [1, 2, 0, 3, 4, 5, 6, 7, 8, 9] rfl ?_
              exact ih3  bs lg (k + 1)  (by omega)  ty_bs (by omega) (by omega)
      refine c_lv (lv2 := [(6, .null), (7, .int (iI 0)), (9, .int (iI 0)), (8, .int (iI mn3)), (5, .int (iI f10)), (4, .ref (sk 6)), (3, .ref (sk 25)), (0, .ref a0), (1, .int (iI g)), (2, .int (iI i))]) [3, 2, 0, 1, 4, 5, 6, 7, 8, 9] rfl ?_
      exact Lp3 6006 none 0 0  (by omega)  (fun _ q => by cases q) (by omega) (by omega)
    · refine c_aload_n (j := 1) (x := a0) C dX3_longestAt_10 rfl ?_
      obtain ⟨rb13, rq13, trb13⟩ := hW.ref t_a0 3 rfl rfl rfl
      have erb13 := hW.sk trb13 (by decide) rfl
      subst erb13
      refine c_getr (k := 3) C ck_4 dX3_longestAt_11 w1_197 (by decide) t_a0 rfl rfl (by decide) rfl rq13 ?_
      refine c_st (st2 := [.ref (sk 7)]) rfl ?_
      refine c_goto (tgt := 21) C dX3_longestAt_14 (by decide) ?_
      refine c_astore (lv2 := [(4, .ref (sk 7)), (3, .ref (sk 25)), (0, .ref a0), (1, .int (iI g)), (2, .int (iI i))]) C dX3_longestAt_21 (by decide) rfl ?_
      refine c_aload_n (j := 2) (x := a0) C dX3_longestAt_23 rfl ?_
      obtain ⟨rb14, rq14, trb14⟩ := hW.ref t_a0 4 rfl rfl rfl
      have erb14 := hW.sk trb14 (by decide) rfl
      subst erb14
      refine c_getr (k := 4) C ck_4 dX3_longestAt_24 w1_198 (by decide) t_a0 rfl rfl (by decide) rfl rq14 ?_
      refine c_st (st2 := [.ref (sk 8)]) rfl ?_
      refine c_iload_n (j := 4) C dX3_longestAt_27 rfl ?_
      have ri13 : 0 ≤ iv (sk 8) 2 ∧ iv (sk 8) 2 ≤ 40200 := hW.int tsk8 2
      refine d_callV (As := [.int (iI i)]) (rest := []) C hM (C_at_8 (a0 := (sk 8)) (i := i) hW hS tsk8 (by omega) ) dX3_longestAt_28 kV_X3_119 rfl tsk8 rfl rfl (by decide) ck_2 rfl (Nat.le_of_ble_eq_true rfl) ⟨(Nat.le_of_ble_eq_true rfl), (Nat.le_of_ble_eq_true rfl)⟩ hph hph (show 0 + 0 = 0 from rfl) (by decide) (fun rh14 Lh14 clh14 lnh14 ivh14 rvh14 h14 => ?_)
      obtain ⟨f14, rfl, rfl, rfl, rfl, rfl, rfl, rgf14, exf14⟩ := h14
      refine c_st (st2 := [.int (iI f14)]) rfl ?_
      have gf14 : ((0 ≤ i ∧ i < iv (sk 8) 2) ∨ f14 = 0) ∧ ∀ ss, CT iv rv (sk 8) ss → 0 ≤ i → i < iv (sk 8) 2 → f14 = ss i.toNat := exf14
      refine c_istore (lv2 := [(5, .int (iI f14)), (4, .ref (sk 7)), (3, .ref (sk 25)), (0, .ref a0), (1, .int (iI g)), (2, .int (iI i))]) C dX3_longestAt_31 (by decide) rfl ?_
      refine c_null C dX3_longestAt_33 ?_
      refine c_astorer (r := none) (lv2 := [(6, .null), (5, .int (iI f14)), (4, .ref (sk 7)), (3, .ref (sk 25)), (0, .ref a0), (1, .int (iI g)), (2, .int (iI i))]) C dX3_longestAt_34 (by decide) rfl ?_
      refine c_iconst C dX3_longestAt_36 ?_
      refine c_istore (lv2 := [(7, .int (iI 0)), (6, .null), (5, .int (iI f14)), (4, .ref (sk 7)), (3, .ref (sk 25)), (0, .ref a0), (1, .int (iI g)), (2, .int (iI i))]) C dX3_longestAt_37 (by decide) rfl ?_
      refine c_aload (j := 3) (x := (sk 7)) C dX3_longestAt_39 rfl ?_
      have ri14 : 0 ≤ iv (sk 7) 2 ∧ iv (sk 7) 2 ≤ 6003 := hW.int tsk7 2
      refine c_get (k := 2) C ck_2 dX3_longestAt_41 w1_49 (by decide) tsk7 rfl rfl (by decide) rfl ?_
      refine c_aload_n (j := 4) (x := (sk 25)) C dX3_longestAt_44 rfl ?_
      have ri15 : 0 ≤ iv (sk 25) 2 ∧ iv (sk 25) 2 ≤ 6003 := hW.int tsk25 2
      refine d_callV (As := []) (rest := [.int (iI (iv (sk 7) 2))]) C hM (C_size_25 (a0 := (sk 25)) hW hS tsk25  ) dX3_longestAt_45 kV_X3_78 rfl tsk25 rfl rfl (by decide) ck_0 rfl (Nat.le_of_ble_eq_true rfl) ⟨(Nat.le_of_ble_eq_true rfl), (Nat.le_of_ble_eq_true rfl)⟩ hph hph (show 0 + 0 = 0 from rfl) (by decide) (fun rh15 Lh15 clh15 lnh15 ivh15 rvh15 h15 => ?_)
      obtain ⟨f15, rfl, rfl, rfl, rfl, rfl, rfl, rgf15, exf15⟩ := h15
      refine c_st (st2 := [.int (iI f15), .int (iI (iv (sk 7) 2))]) rfl ?_
      have gf15 : f15 = iv (sk 25) 2 := exf15
      obtain ⟨mn4, hmn4, emn4⟩ := mmin_c (x := iv (sk 7) 2) (y := f15) (r32_c (lo := 0) (hi := 6003) ri14.1 ri14.2 (by decide) (by decide)) ⟨by omega, by omega⟩
      refine c_mmin (w := iI mn4) C dX3_longestAt_48 w5_88 w2_129 w1_14 w2_130 (by decide) (rom0 hph hph (by decide)) (Nat.le_of_ble_eq_true rfl) emn4 ?_
      refine c_istore (lv2 := [(8, .int (iI mn4)), (7, .int (iI 0)), (6, .null), (5, .int (iI f14)), (4, .ref (sk 7)), (3, .ref (sk 25)), (0, .ref a0), (1, .int (iI g)), (2, .int (iI i))]) C dX3_longestAt_51 (by decide) rfl ?_
      refine c_iconst C dX3_longestAt_53 ?_
      refine c_istore (lv2 := [(9, .int (iI 0)), (8, .int (iI mn4)), (7, .int (iI 0)), (6, .null), (5, .int (iI f14)), (4, .ref (sk 7)), (3, .ref (sk 25)), (0, .ref a0), (1, .int (iI g)), (2, .int (iI i))]) C dX3_longestAt_54 (by decide) rfl ?_
      have Lp4 : ∀ (nn : Nat) (bs : Option Nat) (lg k : Int) , 6004 - k < (nn : Int) → (∀ b, bs = some b → ty L cl b 20) → (0 ≤ lg ∧ lg ≤ 4) → (0 ≤ k ∧ k ≤ 6003) → cw p l e 3 ((PHM) + 0 - ((Phi (g0 G) sk) ln rv)) s m args below meth c G A 11 (MQ below (Qu G A (Qp G (Phi (g0 G) sk) ((Phi (g0 G) sk) ln rv) 0 (fun v L2 cl2 ln2 iv2 rv2 => ∃ f : Option Nat, v = some ((va_rf f)) ∧ L = L2 ∧ cl = cl2 ∧ ln = ln2 ∧ iv = iv2 ∧ rv = rv2 ∧ (∀ b, f = some b → ty L2 cl2 b 20) ∧ (True)))) args s (((PHM) + 0 - ((Phi (g0 G) sk) ln rv)) / 16) ((PHM) + 0 - ((Phi (g0 G) sk) ln rv)) A) (Phi (g0 G) sk) ((Phi (g0 G) sk) ln rv) L cl ln iv rv 0 56 [(6, (va_rf bs)), (7, .int (iI lg)), (9, .int (iI k)), (8, .int (iI mn4)), (5, .int (iI f14)), (4, .ref (sk 7)), (3, .ref (sk 25)), (0, .ref a0), (1, .int (iI g)), (2, .int (iI i))] [] := by
        intro nn
        induction nn with
        | zero =>
          intro bs lg k  hm  ty_bs hlg hk
          exact absurd hm (by omega)
        | succ nn ih4 =>
          intro bs lg k  hm  ty_bs hlg hk
          refine c_iload (j := 2) C dX3_longestAt_56 rfl ?_
          refine c_iload (j := 3) C dX3_longestAt_58 rfl ?_
          refine c_icmp_ge (tgt := 132) C (r32_c (lo := 0) (hi := 6003) hk.1 hk.2 (by decide) (by decide)) ⟨by omega, by omega⟩ dX3_longestAt_60 (by decide) (fun c15 => ?_) (fun c15 => ?_)
          · refine c_aloadr (j := 0) (r := bs) C dX3_longestAt_132 rfl ?_
            exact c_aret (x := bs) C dX3_longestAt_134 rfl (Or.inl ⟨_, rfl⟩) (by decide) (rom0 hph hph (by decide)) ⟨bs, rfl, rfl, rfl, rfl, rfl, rfl, ty_bs, trivial⟩
          · refine c_aload (j := 5) (x := (sk 7)) C dX3_longestAt_63 rfl ?_
            obtain ⟨rb15, rq15, trb15⟩ := hW.ref tsk7 1 rfl rfl rfl
            refine hv2 (show 16 ≤ ln rb15 ∧ ln rb15 ≤ 12006 from hW.len trb15 rfl) (hW.isz tsk7 rfl rfl rq15) (fun lnrb15 szrb15 => ?_)
            refine c_getr (k := 1) C ck_2 dX3_longestAt_65 w1_41 (by decide) tsk7 rfl rfl (by decide) rfl rq15 ?_
            refine c_st (st2 := [.ref rb15]) rfl ?_
            refine c_iload (j := 2) C dX3_longestAt_68 rfl ?_
            have ll7 : 16 ≤ ln rb15 ∧ ln rb15 ≤ 12006 := hW.len trb15 rfl
            refine c_iald C dX3_longestAt_70 trb15 rfl (by omega) (by omega) (by omega) ?_
            have ri16 : (-2147483648) ≤ iv rb15 k.toNat ∧ iv rb15 k.toNat ≤ 2147483647 := hW.int trb15 k.toNat
            refine c_iload (j := 4) C dX3_longestAt_71 rfl ?_
            refine c_icmp_eq (tgt := 79) C (r32_c (lo := (-2147483648)) (hi := 2147483647) ri16.1 ri16.2 (by decide) (by decide)) ⟨by omega, by omega⟩ dX3_longestAt_73 (by decide) (fun c16 => ?_) (fun c16 => ?_)
            · refine c_aload_n (j := 6) (x := (sk 25)) C dX3_longestAt_79 rfl ?_
              refine c_iload (j := 2) C dX3_longestAt_80 rfl ?_
              refine d_callV (As := [.int (iI k)]) (rest := []) C hM (C_get_25 (a0 := (sk 25)) (i := k) hW hS tsk25 (by omega) (by show 0 ≤ k ∧ k < iv (sk 25) 2; omega)) dX3_longestAt_82 kV_X3_82 rfl tsk25 rfl rfl (by decide) ck_0 rfl (Nat.le_of_ble_eq_true rfl) ⟨(Nat.le_of_ble_eq_true rfl), (Nat.le_of_ble_eq_true rfl)⟩ hph hph (show 0 + 0 = 0 from rfl) (by decide) (fun rh16 Lh16 clh16 lnh16 ivh16 rvh16 h16 => ?_)
              obtain ⟨f16, rfl, rfl, rfl, rfl, rfl, rfl, rgf16, exf16⟩ := h16
              refine c_st (st2 := [.ref f16]) rfl ?_
              have gf16 : el rv (sk 25) k.toNat = some f16 := exf16
              refine c_cast C ck_6 dX3_longestAt_85 w5_63 w8_169t rgf16 rfl rfl (by decide) ?_
              refine c_astore (lv2 := [(10, .ref f16), (6, (va_rf bs)), (7, .int (iI lg)), (9, .int (iI k)), (8, .int (iI mn4)), (5, .int (iI f14)), (4, .ref (sk 7)), (3, .ref (sk 25)), (0, .ref a0), (1, .int (iI g)), (2, .int (iI i))]) C dX3_longestAt_88 (by decide) rfl ?_
              refine c_aload (j := 0) (x := f16) C dX3_longestAt_90 rfl ?_
              obtain ⟨rb16, rq16, trb16⟩ := hW.ref rgf16 2 rfl rfl rfl
              have lnrb16 : 1 ≤ ln rb16 ∧ ln rb16 ≤ 4 := hW.len trb16 rfl
              refine c_getr (k := 2) C ck_6 dX3_longestAt_92 w3_143 (by decide) rgf16 rfl rfl (by decide) rfl rq16 ?_
              refine c_st (st2 := [.ref rb16]) rfl ?_
              have ll8 : 1 ≤ ln rb16 ∧ ln rb16 ≤ 4 := hW.len trb16 rfl
              refine c_alenI C dX3_longestAt_95 trb16 rfl ?_
              refine c_iload (j := 2) C dX3_longestAt_96 rfl ?_
              refine c_icmp_le (tgt := 126) C ⟨by omega, by omega⟩ (r32_c (lo := 0) (hi := 4) hlg.1 hlg.2 (by decide) (by decide)) dX3_longestAt_98 (by decide) (fun c17 => ?_) (fun c17 => ?_)
              · refine c_iinc (z := k) (j := 3) (lv2 := [(9, .int (iI (k + 1))), (10, .ref f16), (6, (va_rf bs)), (7, .int (iI lg)), (8, .int (iI mn4)), (5, .int (iI f14)), (4, .ref (sk 7)), (3, .ref (sk 25)), (0, .ref a0), (1, .int (iI g)), (2, .int (iI i))]) C dX3_longestAt_126 rfl (by decide) rfl ?_
                refine c_goto (tgt := 56) C dX3_longestAt_129 (by decide) ?_
                refine c_lv (lv2 := [(6, (va_rf bs)), (7, .int (iI lg)), (9, .int (iI (k + 1))), (8, .int (iI mn4)), (5, .int (iI f14)), (4, .ref (sk 7)), (3, .ref (sk 25)), (0, .ref a0), (1, .int (iI g)), (2, .int (iI i))]) [2, 3, 0, 4, 5, 6, 7, 8, 9, 10] rfl ?_
                exact ih4  bs lg (k + 1)  (by omega)  ty_bs (by omega) (by omega)
              · refine c_aload (j := 0) (x := f16) C dX3_longestAt_101 rfl ?_
                refine c_aload_n (j := 8) (x := a0) C dX3_longestAt_103 rfl ?_
                refine c_getr (k := 4) C ck_4 dX3_longestAt_104 w1_198 (by decide) t_a0 rfl rfl (by decide) rfl rq14 ?_
                refine c_st (st2 := [.ref (sk 8), .ref f16]) rfl ?_
                refine c_iload_n (j := 10) C dX3_longestAt_107 rfl ?_
                refine d_callV (As := [.ref (sk 8), .int (iI i)]) (rest := []) C hM (C_standsAt (a0 := f16) (a1 := (sk 8)) (i := i) hW hS rgf16 tsk8 (by omega) ) dX3_longestAt_108 kV_X3_157 rfl rgf16 rfl rfl (by decide) ck_6 rfl (Nat.le_of_ble_eq_true rfl) ⟨(Nat.le_of_ble_eq_true rfl), (Nat.le_of_ble_eq_true rfl)⟩ hph hph (show 0 + 0 = 0 from rfl) (by decide) (fun rh17 Lh17 clh17 lnh17 ivh17 rvh17 h17 => ?_)
                obtain ⟨f17, rfl, rfl, rfl, rfl, rfl, rfl, rgf17, exf17⟩ := h17
                refine c_st (st2 := [.int (iI f17)]) rfl ?_
                refine c_if_eq (tgt := 126) C ⟨by omega, by omega⟩ dX3_longestAt_111 (by decide) (fun c18 => ?_) (fun c18 => ?_)
                · refine c_iinc (z := k) (j := 3) (lv2 := [(9, .int (iI (k + 1))), (10, .ref f16), (6, (va_rf bs)), (7, .int (iI lg)), (8, .int (iI mn4)), (5, .int (iI f14)), (4, .ref (sk 7)), (3, .ref (sk 25)), (0, .ref a0), (1, .int (iI g)), (2, .int (iI i))]) C dX3_longestAt_126 rfl (by decide) rfl ?_
                  refine c_goto (tgt := 56) C dX3_longestAt_129 (by decide) ?_
                  refine c_lv (lv2 := [(6, (va_rf bs)), (7, .int (iI lg)), (9, .int (iI (k + 1))), (8, .int (iI mn4)), (5, .int (iI f14)), (4, .ref (sk 7)), (3, .ref (sk 25)), (0, .ref a0), (1, .int (iI g)), (2, .int (iI i))]) [2, 3, 0, 4, 5, 6, 7, 8, 9, 10] rfl ?_
                  exact ih4  bs lg (k + 1)  (by omega)  ty_bs (by omega) (by omega)
                · refine c_aload (j := 0) (x := f16) C dX3_longestAt_114 rfl ?_
                  refine c_astore (lv2 := [(6, .ref f16), (10, .ref f16), (7, .int (iI lg)), (9, .int (iI k)), (8, .int (iI mn4)), (5, .int (iI f14)), (4, .ref (sk 7)), (3, .ref (sk 25)), (0, .ref a0), (1, .int (iI g)), (2, .int (iI i))]) C dX3_longestAt_116 (by decide) rfl ?_
                  refine c_aload (j := 1) (x := f16) C dX3_longestAt_118 rfl ?_
                  refine c_getr (k := 2) C ck_6 dX3_longestAt_120 w3_143 (by decide) rgf16 rfl rfl (by decide) rfl rq16 ?_
                  refine c_st (st2 := [.ref rb16]) rfl ?_
                  refine c_alenI C dX3_longestAt_123 trb16 rfl ?_
                  refine c_istore (lv2 := [(7, .int (iI ((ln rb16 : Nat) : Int))), (6, .ref f16), (10, .ref f16), (9, .int (iI k)), (8, .int (iI mn4)), (5, .int (iI f14)), (4, .ref (sk 7)), (3, .ref (sk 25)), (0, .ref a0), (1, .int (iI g)), (2, .int (iI i))]) C dX3_longestAt_124 (by decide) rfl ?_
                  refine c_iinc (z := k) (j := 3) (lv2 := [(9, .int (iI (k + 1))), (7, .int (iI ((ln rb16 : Nat) : Int))), (6, .ref f16), (10, .ref f16), (8, .int (iI mn4)), (5, .int (iI f14)), (4, .ref (sk 7)), (3, .ref (sk 25)), (0, .ref a0), (1, .int (iI g)), (2, .int (iI i))]) C dX3_longestAt_126 rfl (by decide) rfl ?_
                  refine c_goto (tgt := 56) C dX3_longestAt_129 (by decide) ?_
                  refine c_lv (lv2 := [(6, .ref f16), (7, .int (iI ((ln rb16 : Nat) : Int))), (9, .int (iI (k + 1))), (8, .int (iI mn4)), (5, .int (iI f14)), (4, .ref (sk 7)), (3, .ref (sk 25)), (0, .ref a0), (1, .int (iI g)), (2, .int (iI i))]) [2, 1, 0, 4, 5, 6, 7, 8, 9, 10] rfl ?_
                  exact ih4  (some f16) ((ln rb16 : Nat) : Int) (k + 1)  (by omega)  (fun _ q => by cases q; exact rgf16) (by omega) (by omega)
            · refine c_goto (tgt := 126) C dX3_longestAt_76 (by decide) ?_
              refine c_iinc (z := k) (j := 2) (lv2 := [(9, .int (iI (k + 1))), (6, (va_rf bs)), (7, .int (iI lg)), (8, .int (iI mn4)), (5, .int (iI f14)), (4, .ref (sk 7)), (3, .ref (sk 25)), (0, .ref a0), (1, .int (iI g)), (2, .int (iI i))]) C dX3_longestAt_126 rfl (by decide) rfl ?_
              refine c_goto (tgt := 56) C dX3_longestAt_129 (by decide) ?_
              refine c_lv (lv2 := [(6, (va_rf bs)), (7, .int (iI lg)), (9, .int (iI (k + 1))), (8, .int (iI mn4)), (5, .int (iI f14)), (4, .ref (sk 7)), (3, .ref (sk 25)), (0, .ref a0), (1, .int (iI g)), (2, .int (iI i))]) [1, 2, 0, 3, 4, 5, 6, 7, 8, 9] rfl ?_
              exact ih4  bs lg (k + 1)  (by omega)  ty_bs (by omega) (by omega)
      refine c_lv (lv2 := [(6, .null), (7, .int (iI 0)), (9, .int (iI 0)), (8, .int (iI mn4)), (5, .int (iI f14)), (4, .ref (sk 7)), (3, .ref (sk 25)), (0, .ref a0), (1, .int (iI g)), (2, .int (iI i))]) [3, 2, 0, 1, 4, 5, 6, 7, 8, 9] rfl ?_
      exact Lp4 6006 none 0 0  (by omega)  (fun _ q => by cases q) (by omega) (by omega)
set_option maxHeartbeats 4000000 in
set_option maxRecDepth 100000 in
theorem C_decodeWord {l : Launch} {G : GT} {mi : Nat} {sk : Nat → Nat} {L : List Nat} {cl ln : Nat → Nat} {iv : Nat → Nat → Int} {rv : Nat → Nat → Option Nat}  {a0 : Nat} {i : Int} (hW : WT (g0 G) sk L cl ln iv rv) (hS : SKL sk L cl) (t_a0 : ty L cl a0 16) (h_i : -2147483648 ≤ i ∧ i ≤ 2147483647) (hi : 0 ≤ i ∧ i ≤ 40200) : Mc l G mi (Phi (g0 G) sk) PHM yX3_decodeWord cX3_decodeWord 6 (some .int) 4 [.ref a0, .int (iI i)] L cl ln iv rv 0 (fun v L2 cl2 ln2 iv2 rv2 => ∃ f : Int, v = some (.int (iI f)) ∧ XT L cl ln L2 cl2 ln2 ∧ fT [16, 10, 40] L cl iv rv iv2 rv2 ∧ WT (g0 G) sk L2 cl2 ln2 iv2 rv2 ∧ (-2147483648 ≤ f ∧ f ≤ 2147483647) ∧ (f ≤ 40210)) := by
  refine Mc.mk (by decide) (Nat.le_of_ble_eq_true rfl) ?_
  intro p e s m args below meth c A C hM
  refine hv10 (Phi.le hW hS) (show ty L cl (sk 6) 6 from ⟨(hS 6 rfl).1, by rw [(hS 6 rfl).2]; rfl⟩) (show ty L cl (sk 7) 7 from ⟨(hS 7 rfl).1, by rw [(hS 7 rfl).2]; rfl⟩) (show ty L cl (sk 8) 8 from ⟨(hS 8 rfl).1, by rw [(hS 8 rfl).2]; rfl⟩) (show ty L cl (sk 9) 9 from ⟨(hS 9 rfl).1, by rw [(hS 9 rfl).2]; rfl⟩) (show ty L cl (sk 10) 10 from ⟨(hS 10 rfl).1, by rw [(hS 10 rfl).2]; rfl⟩) (show ty L cl (sk 24) 24 from ⟨(hS 24 rfl).1, by rw [(hS 24 rfl).2]; rfl⟩) (show ty L cl (sk 25) 25 from ⟨(hS 25 rfl).1, by rw [(hS 25 rfl).2]; rfl⟩) (show XT L cl ln L cl ln from XT.refl) (show fT [16, 10, 40] L cl iv rv iv rv from fT.refl) (fun hph tsk6 tsk7 tsk8 tsk9 tsk10 tsk24 tsk25 hX0 hF0 => ?_)
  refine c_iconst C dX3_decodeWord_0 ?_
  refine c_istore_n (lv2 := [(2, .int (iI 0)), (0, .ref a0), (1, .int (iI i))]) C dX3_decodeWord_1 (by decide) rfl ?_
  refine c_iconst C dX3_decodeWord_2 ?_
  refine c_istore_n (lv2 := [(3, .int (iI 0)), (2, .int (iI 0)), (0, .ref a0), (1, .int (iI i))]) C dX3_decodeWord_3 (by decide) rfl ?_
  refine c_iload_n (j := 3) C dX3_decodeWord_4 rfl ?_
  refine c_istore (lv2 := [(4, .int (iI i)), (3, .int (iI 0)), (2, .int (iI 0)), (0, .ref a0), (1, .int (iI i))]) C dX3_decodeWord_5 (by decide) rfl ?_
  have Lp1 : ∀ (nn : Nat) (sc gr aq : Int) (Lb1 : List Nat) (clb1 lnb1 : Nat → Nat) (ivb1 : Nat → Nat → Int) (rvb1 : Nat → Nat → Option Nat) , 40205 - aq < (nn : Int) → XT L cl ln Lb1 clb1 lnb1 → WT (g0 G) sk Lb1 clb1 lnb1 ivb1 rvb1 → fT [16, 10, 40] L cl iv rv ivb1 rvb1 → (sc = 0 ∨ sc = 1) → (gr = 0 ∨ gr = 1) → (0 ≤ aq ∧ aq ≤ 40204) → cw p l e 4 ((PHM) + 0 - ((Phi (g0 G) sk) ln rv)) s m args below meth c G A 6 (MQ below (Qu G A (Qp G (Phi (g0 G) sk) ((Phi (g0 G) sk) ln rv) 0 (fun v L2 cl2 ln2 iv2 rv2 => ∃ f : Int, v = some (.int (iI f)) ∧ XT L cl ln L2 cl2 ln2 ∧ fT [16, 10, 40] L cl iv rv iv2 rv2 ∧ WT (g0 G) sk L2 cl2 ln2 iv2 rv2 ∧ (-2147483648 ≤ f ∧ f ≤ 2147483647) ∧ (f ≤ 40210)))) args s (((PHM) + 0 - ((Phi (g0 G) sk) ln rv)) / 16) ((PHM) + 0 - ((Phi (g0 G) sk) ln rv)) A) (Phi (g0 G) sk) ((Phi (g0 G) sk) ln rv) Lb1 clb1 lnb1 ivb1 rvb1 0 7 [(2, .int (iI sc)), (3, .int (iI gr)), (4, .int (iI aq)), (0, .ref a0), (1, .int (iI i))] [] := by
    intro nn
    induction nn with
    | zero =>
      intro  sc gr aq Lb1 clb1 lnb1 ivb1 rvb1 hm Xb1 Wb1 Fb1  hsc hgr haq
      have skb1 := Xb1.skl hS
      exact absurd hm (by omega)
    | succ nn ih1 =>
      intro  sc gr aq Lb1 clb1 lnb1 ivb1 rvb1 hm Xb1 Wb1 Fb1  hsc hgr haq
      have skb1 := Xb1.skl hS
      refine c_iload (j := 2) C dX3_decodeWord_7 rfl ?_
      refine c_aload_n (j := 3) (x := a0) C dX3_decodeWord_9 rfl ?_
      have ty1 := Xb1.ty t_a0
      obtain ⟨rb1, rq1, trb1⟩ := Wb1.ref ty1 4 rfl rfl rfl
      have erb1 := Wb1.sk trb1 (by decide) rfl
      subst erb1
      refine c_getr (k := 4) C ck_4 dX3_decodeWord_10 w1_198 (by decide) ty1 rfl rfl (by decide) rfl rq1 ?_
      refine c_st (st2 := [.ref (sk 8), .int (iI aq)]) rfl ?_
      refine hv2 (Xb1.ty tsk8) (show ivb1 (sk 8) 2 = iv (sk 8) 2 from Fb1.i tsk8 rfl 2) (fun ty2 ie1 => ?_)
      have ri1 : 0 ≤ ivb1 (sk 8) 2 ∧ ivb1 (sk 8) 2 ≤ 40200 := Wb1.int ty2 2
      refine c_get (k := 2) C ck_2 dX3_decodeWord_13 w1_49 (by decide) ty2 rfl rfl (by decide) rfl ?_
      refine c_icmp_ge (tgt := 158) C (r32_c (lo := 0) (hi := 40204) haq.1 haq.2 (by decide) (by decide)) (r32_c (lo := 0) (hi := 40200) ri1.1 ri1.2 (by decide) (by decide)) dX3_decodeWord_16 (by decide) (fun c1 => ?_) (fun c1 => ?_)
      · refine c_aload_n (j := 3) (x := a0) C dX3_decodeWord_158 rfl ?_
        refine c_iload (j := 2) C dX3_decodeWord_159 rfl ?_
        refine c_put (z := aq) (k := 7) C ck_4 dX3_decodeWord_161 w1_202 (by decide) rfl ty1 rfl rfl (by decide) rfl (by rfl) (by rfl) (fun iv1 pq1 => ?_)
        refine hv2 (Wb1.puti pq1 ty1 (show (-2147483648) ≤ aq ∧ aq ≤ 2147483647 by omega) rfl) (Fb1.puti Xb1 pq1 ty1 rfl) (fun W1 F1 => ?_)
        refine c_iload_n (j := 1) C dX3_decodeWord_164 rfl ?_
        refine c_if_eq (tgt := 172) C (r32_01 hgr) dX3_decodeWord_165 (by decide) (fun c2 => ?_) (fun c2 => ?_)
        · clear hgr
          refine c_iload (j := 2) C dX3_decodeWord_172 rfl ?_
          have pl1 := Phi.le W1 skb1
          exact c_iret C dX3_decodeWord_174 rfl (by decide) (rom0 hph pl1 (by decide)) ⟨aq, rfl, Xb1, F1, W1, ⟨by omega, by omega⟩, (by omega)⟩
        · replace hgr := (hgr.resolve_left c2)
          refine c_iconst C dX3_decodeWord_168 ?_
          refine c_goto (tgt := 174) C dX3_decodeWord_169 (by decide) ?_
          have pl2 := Phi.le W1 skb1
          exact c_iret C dX3_decodeWord_174 rfl (by decide) (rom0 hph pl2 (by decide)) ⟨(-1), rfl, Xb1, F1, W1, ⟨by decide, by decide⟩, (by omega)⟩
      · refine c_aload_n (j := 3) (x := a0) C dX3_decodeWord_19 rfl ?_
        refine c_getr (k := 4) C ck_4 dX3_decodeWord_20 w1_198 (by decide) ty1 rfl rfl (by decide) rfl rq1 ?_
        refine c_st (st2 := [.ref (sk 8)]) rfl ?_
        refine c_iload (j := 2) C dX3_decodeWord_23 rfl ?_
        have pl3 := Phi.le Wb1 skb1
        refine d_callV (As := [.int (iI aq)]) (rest := []) C hM (C_at_8 (a0 := (sk 8)) (i := aq) Wb1 skb1 ty2 (by omega) ) dX3_decodeWord_25 kV_X3_119 rfl ty2 rfl rfl (by decide) ck_2 rfl (Nat.le_of_ble_eq_true rfl) ⟨(Nat.le_of_ble_eq_true rfl), (Nat.le_of_ble_eq_true rfl)⟩ hph pl3 (show 0 + 0 = 0 from rfl) (by decide) (fun rh1 Lh1 clh1 lnh1 ivh1 rvh1 h1 => ?_)
        obtain ⟨f1, rfl, rfl, rfl, rfl, rfl, rfl, rgf1, exf1⟩ := h1
        refine c_st (st2 := [.int (iI f1)]) rfl ?_
        have gf1 : ((0 ≤ aq ∧ aq < ivb1 (sk 8) 2) ∨ f1 = 0) ∧ ∀ ss, CT ivb1 rvb1 (sk 8) ss → 0 ≤ aq → aq < ivb1 (sk 8) 2 → f1 = ss aq.toNat := exf1
        refine c_if_eq (tgt := 158) C ⟨by omega, by omega⟩ dX3_decodeWord_28 (by decide) (fun c3 => ?_) (fun c3 => ?_)
        · refine c_aload_n (j := 3) (x := a0) C dX3_decodeWord_158 rfl ?_
          refine c_iload (j := 2) C dX3_decodeWord_159 rfl ?_
          refine c_put (z := aq) (k := 7) C ck_4 dX3_decodeWord_161 w1_202 (by decide) rfl ty1 rfl rfl (by decide) rfl (by rfl) (by rfl) (fun iv2 pq2 => ?_)
          refine hv2 (Wb1.puti pq2 ty1 (show (-2147483648) ≤ aq ∧ aq ≤ 2147483647 by omega) rfl) (Fb1.puti Xb1 pq2 ty1 rfl) (fun W3 F2 => ?_)
          refine c_iload_n (j := 1) C dX3_decodeWord_164 rfl ?_
          refine c_if_eq (tgt := 172) C (r32_01 hgr) dX3_decodeWord_165 (by decide) (fun c4 => ?_) (fun c4 => ?_)
          · clear hgr
            refine c_iload (j := 2) C dX3_decodeWord_172 rfl ?_
            exact c_iret C dX3_decodeWord_174 rfl (by decide) (rom0 hph pl3 (by decide)) ⟨aq, rfl, Xb1, F2, W3, ⟨by omega, by omega⟩, (by omega)⟩
          · replace hgr := (hgr.resolve_left c4)
            refine c_iconst C dX3_decodeWord_168 ?_
            refine c_goto (tgt := 174) C dX3_decodeWord_169 (by decide) ?_
            exact c_iret C dX3_decodeWord_174 rfl (by decide) (rom0 hph pl3 (by decide)) ⟨(-1), rfl, Xb1, F2, W3, ⟨by decide, by decide⟩, (by omega)⟩
        · refine c_aload_n (j := 3) (x := a0) C dX3_decodeWord_31 rfl ?_
          refine c_iload_n (j := 0) C dX3_decodeWord_32 rfl ?_
          refine c_iload (j := 2) C dX3_decodeWord_33 rfl ?_
          refine d_callV (As := [.int (iI sc), .int (iI aq)]) (rest := []) C hM (C_longestAt (a0 := a0) (g := sc) (i := aq) Wb1 skb1 ty1 (by omega) (by omega) ) dX3_decodeWord_35 kV_X3_126 rfl ty1 rfl rfl (by decide) ck_4 rfl (Nat.le_of_ble_eq_true rfl) ⟨(Nat.le_of_ble_eq_true rfl), (Nat.le_of_ble_eq_true rfl)⟩ hph pl3 (show 0 + 0 = 0 from rfl) (by decide) (fun rh2 Lh2 clh2 lnh2 ivh2 rvh2 h2 => ?_)
          obtain ⟨f2, rfl, rfl, rfl, rfl, rfl, rfl, rgf2, exf2⟩ := h2
          refine c_st (st2 := [(va_rf f2)]) rfl ?_
          refine c_astorer (r := f2) (lv2 := [(5, (va_rf f2)), (2, .int (iI sc)), (3, .int (iI gr)), (4, .int (iI aq)), (0, .ref a0), (1, .int (iI i))]) C dX3_decodeWord_38 (by decide) rfl ?_
          refine c_aloadr (j := 0) (r := f2) C dX3_decodeWord_40 rfl ?_
          refine c_ifnull (r := f2) (tgt := 57) C dX3_decodeWord_42 (by decide) (fun oq1 => ?_) (fun ob1 oq1 => ?_)
          · subst oq1
            refine c_lv (lv2 := [(5, .null), (2, .int (iI sc)), (3, .int (iI gr)), (4, .int (iI aq)), (0, .ref a0), (1, .int (iI i))]) [0, 1, 2, 3, 4, 5] rfl ?_
            refine c_st (st2 := []) rfl ?_
            refine c_aload_n (j := 4) (x := a0) C dX3_decodeWord_57 rfl ?_
            refine c_iload (j := 3) C dX3_decodeWord_58 rfl ?_
            refine c_put (z := aq) (k := 7) C ck_4 dX3_decodeWord_60 w1_202 (by decide) rfl ty1 rfl rfl (by decide) rfl (by rfl) (by rfl) (fun iv3 pq3 => ?_)
            refine hv2 (Wb1.puti pq3 ty1 (show (-2147483648) ≤ aq ∧ aq ≤ 2147483647 by omega) rfl) (Fb1.puti Xb1 pq3 ty1 rfl) (fun W5 F3 => ?_)
            refine c_iconst C dX3_decodeWord_63 ?_
            exact c_iret C dX3_decodeWord_64 rfl (by decide) (rom0 hph pl3 (by decide)) ⟨(-1), rfl, Xb1, F3, W5, ⟨by decide, by decide⟩, (by omega)⟩
          · subst oq1
            have tob1 := rgf2 ob1 rfl
            refine c_lv (lv2 := [(5, .ref ob1), (2, .int (iI sc)), (3, .int (iI gr)), (4, .int (iI aq)), (0, .ref a0), (1, .int (iI i))]) [0, 1, 2, 3, 4, 5] rfl ?_
            refine c_st (st2 := []) rfl ?_
            refine c_iload_n (j := 2) C dX3_decodeWord_45 rfl ?_
            refine c_if_eq (tgt := 65) C (r32_01 hgr) dX3_decodeWord_46 (by decide) (fun c5 => ?_) (fun c5 => ?_)
            · clear hgr
              refine c_aload (j := 0) (x := ob1) C dX3_decodeWord_65 rfl ?_
              have ri2 : (-2147483648) ≤ ivb1 ob1 0 ∧ ivb1 ob1 0 ≤ 2147483647 := Wb1.int tob1 0
              refine c_get (k := 0) C ck_6 dX3_decodeWord_67 w3_137 (by decide) tob1 rfl rfl (by decide) rfl ?_
              refine c_iconst C dX3_decodeWord_70 ?_
              refine c_icmp_eq (tgt := 83) C (r32_c (lo := (-2147483648)) (hi := 2147483647) ri2.1 ri2.2 (by decide) (by decide)) ⟨by decide, by decide⟩ dX3_decodeWord_71 (by decide) (fun c6 => ?_) (fun c6 => ?_)
              · refine c_aload (j := 0) (x := ob1) C dX3_decodeWord_83 rfl ?_
                refine c_get (k := 0) C ck_6 dX3_decodeWord_85 w3_137 (by decide) tob1 rfl rfl (by decide) rfl ?_
                refine c_iconst C dX3_decodeWord_88 ?_
                refine c_icmp_ne (tgt := 96) C (r32_c (lo := (-2147483648)) (hi := 2147483647) ri2.1 ri2.2 (by decide) (by decide)) ⟨by decide, by decide⟩ dX3_decodeWord_89 (by decide) (fun z => absurd z (by omega)) (fun _ => ?_)
                refine c_iconst C dX3_decodeWord_92 ?_
                refine c_goto (tgt := 97) C dX3_decodeWord_93 (by decide) ?_
                refine c_istore_n (lv2 := [(2, .int (iI 1)), (5, .ref ob1), (3, .int (iI gr)), (4, .int (iI aq)), (0, .ref a0), (1, .int (iI i))]) C dX3_decodeWord_97 (by decide) rfl ?_
                refine c_aload_n (j := 4) (x := a0) C dX3_decodeWord_98 rfl ?_
                obtain ⟨rb2, rq2, trb2⟩ := Wb1.ref ty1 6 rfl rfl rfl
                have erb2 := Wb1.sk trb2 (by decide) rfl
                subst erb2
                refine c_getr (k := 6) C ck_4 dX3_decodeWord_99 w1_200 (by decide) ty1 rfl rfl (by decide) rfl rq2 ?_
                refine c_st (st2 := [.ref (sk 10)]) rfl ?_
                refine c_iload_n (j := 0) C dX3_decodeWord_102 rfl ?_
                refine c_if_eq (tgt := 111) C ⟨by decide, by decide⟩ dX3_decodeWord_103 (by decide) (fun z => absurd z (by omega)) (fun _ => ?_)
                refine c_bipush (z := 60) C dX3_decodeWord_106 (by decide) ?_
                refine c_goto (tgt := 113) C dX3_decodeWord_108 (by decide) ?_
                have ty3 := Xb1.ty tsk10
                have ri3 : 0 ≤ ivb1 (sk 10) 2 ∧ ivb1 (sk 10) 2 ≤ 4001 := Wb1.int ty3 2
                refine d_callV (As := [.int (iI 60)]) (rest := []) C hM (C_add_10 (a0 := (sk 10)) (x := 60) Wb1 skb1 ty3 ⟨by decide, by decide⟩ ) dX3_decodeWord_113 kV_X3_91 rfl ty3 rfl rfl (by decide) ck_2 rfl (Nat.le_of_ble_eq_true rfl) ⟨(Nat.le_of_ble_eq_true rfl), (Nat.le_of_ble_eq_true rfl)⟩ hph pl3 (show 0 + 0 = 0 from rfl) (by decide) (fun rh3 Lh3 clh3 lnh3 ivh3 rvh3 h3 => ?_)
                obtain ⟨rfl, xl3, fl3, W6, exf3⟩ := h3
                refine hv8 (Fb1.call Xb1 fl3 rfl) (Xb1.ty tsk6) (Xb1.ty tsk7) (Xb1.ty tsk9) (Xb1.ty tsk24) (Xb1.ty tsk25) (Xb1.trans xl3) (xl3.skl skb1) (fun F4 ty4 ty5 ty6 ty7 ty8 X1 sk1 => ?_)
                refine c_st (st2 := []) rfl ?_
                refine hv2 (xl3.ty ty3) (show ((ivh3 (sk 10) 2 = ivb1 (sk 10) 2 ∧ ivb1 (sk 10) 2 = 4001) ∨ (ivh3 (sk 10) 2 = ivb1 (sk 10) 2 + 1 ∧ ivb1 (sk 10) 2 < 4001)) from exf3) (fun ty9 gf3 => ?_)
                have ri4 : 0 ≤ ivh3 (sk 10) 2 ∧ ivh3 (sk 10) 2 ≤ 4001 := W6.int ty9 2
                refine c_aload (j := 1) (x := ob1) C dX3_decodeWord_116 rfl ?_
                refine c_aload_n (j := 4) (x := a0) C dX3_decodeWord_118 rfl ?_
                refine hv2 (xl3.ty ty1) (show rvh3 a0 6 = rvb1 a0 6 from (fl3.r ty1 rfl 6)) (fun ty10 re1 => ?_)
                rw [rq2] at re1
                refine c_getr (k := 6) C ck_4 dX3_decodeWord_119 w1_200 (by decide) ty10 rfl rfl (by decide) rfl re1 ?_
                refine c_st (st2 := [.ref (sk 10), .ref ob1]) rfl ?_
                refine c_iload_n (j := 2) C dX3_decodeWord_122 rfl ?_
                refine hv2 (xl3.ty tob1) (Phi.le W6 sk1) (fun ty11 pl4 => ?_)
                refine d_callV (As := [.ref (sk 10), .int (iI gr)]) (rest := []) C hM (C_wl_10 (a0 := ob1) (a1 := (sk 10)) (g := gr) W6 sk1 ty11 ty9 (by omega) ) dX3_decodeWord_123 kV_X3_137 rfl ty11 rfl rfl (by decide) ck_6 rfl (Nat.le_of_ble_eq_true rfl) ⟨(Nat.le_of_ble_eq_true rfl), (Nat.le_of_ble_eq_true rfl)⟩ hph pl4 (show 0 + 0 = 0 from rfl) (by decide) (fun rh4 Lh4 clh4 lnh4 ivh4 rvh4 h4 => ?_)
                obtain ⟨rfl, xl4, fl4, W7, exf4⟩ := h4
                refine hv9 (F4.call X1 fl4 rfl) (xl3.ty ty4) (xl3.ty ty5) (xl3.ty ty2) (xl3.ty ty6) (xl3.ty ty7) (xl3.ty ty8) (X1.trans xl4) (xl4.skl sk1) (fun F5 ty12 ty13 ty14 ty15 ty16 ty17 X2 sk2 => ?_)
                refine c_st (st2 := []) rfl ?_
                refine c_aload (j := 1) (x := ob1) C dX3_decodeWord_126 rfl ?_
                refine hv3 (xl4.ty ty11) (show ivh4 ob1 0 = ivh3 ob1 0 from fl4.i ty11 rfl 0) (show ivh3 ob1 0 = ivb1 ob1 0 from fl3.i tob1 rfl 0) (fun ty18 ie5 ie6 => ?_)
                have ri5 : (-2147483648) ≤ ivh4 ob1 0 ∧ ivh4 ob1 0 ≤ 2147483647 := W7.int ty18 0
                refine c_get (k := 0) C ck_6 dX3_decodeWord_128 w3_137 (by decide) ty18 rfl rfl (by decide) rfl ?_
                refine c_if_ne (tgt := 138) C (r32_c (lo := (-2147483648)) (hi := 2147483647) ri5.1 ri5.2 (by decide) (by decide)) dX3_decodeWord_131 (by decide) (fun c7 => ?_) (fun c7 => ?_)
                · refine c_iconst C dX3_decodeWord_138 ?_
                  refine c_istore_n (lv2 := [(3, .int (iI 0)), (2, .int (iI 1)), (5, .ref ob1), (4, .int (iI aq)), (0, .ref a0), (1, .int (iI i))]) C dX3_decodeWord_139 (by decide) rfl ?_
                  refine c_iload (j := 3) C dX3_decodeWord_140 rfl ?_
                  refine c_iconst C dX3_decodeWord_142 ?_
                  refine c_aload (j := 2) (x := ob1) C dX3_decodeWord_143 rfl ?_
                  obtain ⟨rb3, rq3, trb3⟩ := W7.ref ty18 2 rfl rfl rfl
                  have lnrb3 : 1 ≤ lnh4 rb3 ∧ lnh4 rb3 ≤ 4 := W7.len trb3 rfl
                  refine c_getr (k := 2) C ck_6 dX3_decodeWord_145 w3_143 (by decide) ty18 rfl rfl (by decide) rfl rq3 ?_
                  refine c_st (st2 := [.ref rb3, .int (iI 1), .int (iI aq)]) rfl ?_
                  have ll1 : 1 ≤ lnh4 rb3 ∧ lnh4 rb3 ≤ 4 := W7.len trb3 rfl
                  refine c_alenI C dX3_decodeWord_148 trb3 rfl ?_
                  obtain ⟨mn1, hmn1, emn1⟩ := mmax_c (x := 1) (y := ((lnh4 rb3 : Nat) : Int)) ⟨by decide, by decide⟩ ⟨by omega, by omega⟩
                  have pl5 := Phi.le W7 sk2
                  refine c_mmax (w := iI mn1) C dX3_decodeWord_149 w5_105 w2_148 w1_14 w2_149 (by decide) (rom0 hph pl5 (by decide)) (Nat.le_of_ble_eq_true rfl) emn1 ?_
                  refine c_iadd C dX3_decodeWord_152 ?_
                  refine c_istore (lv2 := [(4, .int (iI (aq + mn1))), (3, .int (iI 0)), (2, .int (iI 1)), (5, .ref ob1), (0, .ref a0), (1, .int (iI i))]) C dX3_decodeWord_153 (by decide) rfl ?_
                  refine c_goto (tgt := 7) C dX3_decodeWord_155 (by decide) ?_
                  refine c_lv (lv2 := [(2, .int (iI 1)), (3, .int (iI 0)), (4, .int (iI (aq + mn1))), (0, .ref a0), (1, .int (iI i))]) [2, 1, 0, 4, 5] rfl ?_
                  exact ih1  1 0 (aq + mn1) _ _ _ _ _ (by omega) X2 W7 F5  (by omega) (by omega) (by omega)
                · refine c_iconst C dX3_decodeWord_134 ?_
                  refine c_goto (tgt := 139) C dX3_decodeWord_135 (by decide) ?_
                  refine c_istore_n (lv2 := [(3, .int (iI 1)), (2, .int (iI 1)), (5, .ref ob1), (4, .int (iI aq)), (0, .ref a0), (1, .int (iI i))]) C dX3_decodeWord_139 (by decide) rfl ?_
                  refine c_iload (j := 3) C dX3_decodeWord_140 rfl ?_
                  refine c_iconst C dX3_decodeWord_142 ?_
                  refine c_aload (j := 2) (x := ob1) C dX3_decodeWord_143 rfl ?_
                  obtain ⟨rb4, rq4, trb4⟩ := W7.ref ty18 2 rfl rfl rfl
                  have lnrb4 : 1 ≤ lnh4 rb4 ∧ lnh4 rb4 ≤ 4 := W7.len trb4 rfl
                  refine c_getr (k := 2) C ck_6 dX3_decodeWord_145 w3_143 (by decide) ty18 rfl rfl (by decide) rfl rq4 ?_
                  refine c_st (st2 := [.ref rb4, .int (iI 1), .int (iI aq)]) rfl ?_
                  have ll2 : 1 ≤ lnh4 rb4 ∧ lnh4 rb4 ≤ 4 := W7.len trb4 rfl
                  refine c_alenI C dX3_decodeWord_148 trb4 rfl ?_
                  obtain ⟨mn2, hmn2, emn2⟩ := mmax_c (x := 1) (y := ((lnh4 rb4 : Nat) : Int)) ⟨by decide, by decide⟩ ⟨by omega, by omega⟩
                  have pl6 := Phi.le W7 sk2
                  refine c_mmax (w := iI mn2) C dX3_decodeWord_149 w5_105 w2_148 w1_14 w2_149 (by decide) (rom0 hph pl6 (by decide)) (Nat.le_of_ble_eq_true rfl) emn2 ?_
                  refine c_iadd C dX3_decodeWord_152 ?_
                  refine c_istore (lv2 := [(4, .int (iI (aq + mn2))), (3, .int (iI 1)), (2, .int (iI 1)), (5, .ref ob1), (0, .ref a0), (1, .int (iI i))]) C dX3_decodeWord_153 (by decide) rfl ?_
                  refine c_goto (tgt := 7) C dX3_decodeWord_155 (by decide) ?_
                  refine c_lv (lv2 := [(2, .int (iI 1)), (3, .int (iI 1)), (4, .int (iI (aq + mn2))), (0, .ref a0), (1, .int (iI i))]) [2, 1, 0, 4, 5] rfl ?_
                  exact ih1  1 1 (aq + mn2) _ _ _ _ _ (by omega) X2 W7 F5  (by omega) (by omega) (by omega)
              · refine c_aload (j := 0) (x := ob1) C dX3_decodeWord_74 rfl ?_
                refine c_get (k := 0) C ck_6 dX3_decodeWord_76 w3_137 (by decide) tob1 rfl rfl (by decide) rfl ?_
                refine c_iconst C dX3_decodeWord_79 ?_
                refine c_icmp_ne (tgt := 116) C (r32_c (lo := (-2147483648)) (hi := 2147483647) ri2.1 ri2.2 (by decide) (by decide)) ⟨by decide, by decide⟩ dX3_decodeWord_80 (by decide) (fun c8 => ?_) (fun c8 => ?_)
                · refine c_aload (j := 0) (x := ob1) C dX3_decodeWord_116 rfl ?_
                  refine c_aload_n (j := 4) (x := a0) C dX3_decodeWord_118 rfl ?_
                  obtain ⟨rb5, rq5, trb5⟩ := Wb1.ref ty1 6 rfl rfl rfl
                  have erb5 := Wb1.sk trb5 (by decide) rfl
                  subst erb5
                  refine c_getr (k := 6) C ck_4 dX3_decodeWord_119 w1_200 (by decide) ty1 rfl rfl (by decide) rfl rq5 ?_
                  refine c_st (st2 := [.ref (sk 10), .ref ob1]) rfl ?_
                  refine c_iload_n (j := 2) C dX3_decodeWord_122 rfl ?_
                  have ty19 := Xb1.ty tsk10
                  refine d_callV (As := [.ref (sk 10), .int (iI gr)]) (rest := []) C hM (C_wl_10 (a0 := ob1) (a1 := (sk 10)) (g := gr) Wb1 skb1 tob1 ty19 (by omega) ) dX3_decodeWord_123 kV_X3_137 rfl tob1 rfl rfl (by decide) ck_6 rfl (Nat.le_of_ble_eq_true rfl) ⟨(Nat.le_of_ble_eq_true rfl), (Nat.le_of_ble_eq_true rfl)⟩ hph pl3 (show 0 + 0 = 0 from rfl) (by decide) (fun rh5 Lh5 clh5 lnh5 ivh5 rvh5 h5 => ?_)
                  obtain ⟨rfl, xl5, fl5, W8, exf5⟩ := h5
                  refine hv8 (Fb1.call Xb1 fl5 rfl) (Xb1.ty tsk6) (Xb1.ty tsk7) (Xb1.ty tsk9) (Xb1.ty tsk24) (Xb1.ty tsk25) (Xb1.trans xl5) (xl5.skl skb1) (fun F6 ty20 ty21 ty22 ty23 ty24 X3 sk3 => ?_)
                  refine c_st (st2 := []) rfl ?_
                  refine c_aload (j := 0) (x := ob1) C dX3_decodeWord_126 rfl ?_
                  refine hv2 (xl5.ty tob1) (show ivh5 ob1 0 = ivb1 ob1 0 from fl5.i tob1 rfl 0) (fun ty25 ie7 => ?_)
                  have ri6 : (-2147483648) ≤ ivh5 ob1 0 ∧ ivh5 ob1 0 ≤ 2147483647 := W8.int ty25 0
                  refine c_get (k := 0) C ck_6 dX3_decodeWord_128 w3_137 (by decide) ty25 rfl rfl (by decide) rfl ?_
                  refine c_if_ne (tgt := 138) C (r32_c (lo := (-2147483648)) (hi := 2147483647) ri6.1 ri6.2 (by decide) (by decide)) dX3_decodeWord_131 (by decide) (fun c9 => ?_) (fun c9 => ?_)
                  · refine c_iconst C dX3_decodeWord_138 ?_
                    refine c_istore_n (lv2 := [(3, .int (iI 0)), (5, .ref ob1), (2, .int (iI sc)), (4, .int (iI aq)), (0, .ref a0), (1, .int (iI i))]) C dX3_decodeWord_139 (by decide) rfl ?_
                    refine c_iload (j := 3) C dX3_decodeWord_140 rfl ?_
                    refine c_iconst C dX3_decodeWord_142 ?_
                    refine c_aload (j := 1) (x := ob1) C dX3_decodeWord_143 rfl ?_
                    obtain ⟨rb6, rq6, trb6⟩ := W8.ref ty25 2 rfl rfl rfl
                    have lnrb6 : 1 ≤ lnh5 rb6 ∧ lnh5 rb6 ≤ 4 := W8.len trb6 rfl
                    refine c_getr (k := 2) C ck_6 dX3_decodeWord_145 w3_143 (by decide) ty25 rfl rfl (by decide) rfl rq6 ?_
                    refine c_st (st2 := [.ref rb6, .int (iI 1), .int (iI aq)]) rfl ?_
                    have ll3 : 1 ≤ lnh5 rb6 ∧ lnh5 rb6 ≤ 4 := W8.len trb6 rfl
                    refine c_alenI C dX3_decodeWord_148 trb6 rfl ?_
                    obtain ⟨mn3, hmn3, emn3⟩ := mmax_c (x := 1) (y := ((lnh5 rb6 : Nat) : Int)) ⟨by decide, by decide⟩ ⟨by omega, by omega⟩
                    have pl7 := Phi.le W8 sk3
                    refine c_mmax (w := iI mn3) C dX3_decodeWord_149 w5_105 w2_148 w1_14 w2_149 (by decide) (rom0 hph pl7 (by decide)) (Nat.le_of_ble_eq_true rfl) emn3 ?_
                    refine c_iadd C dX3_decodeWord_152 ?_
                    refine c_istore (lv2 := [(4, .int (iI (aq + mn3))), (3, .int (iI 0)), (5, .ref ob1), (2, .int (iI sc)), (0, .ref a0), (1, .int (iI i))]) C dX3_decodeWord_153 (by decide) rfl ?_
                    refine c_goto (tgt := 7) C dX3_decodeWord_155 (by decide) ?_
                    refine c_lv (lv2 := [(2, .int (iI sc)), (3, .int (iI 0)), (4, .int (iI (aq + mn3))), (0, .ref a0), (1, .int (iI i))]) [3, 1, 0, 4, 5] rfl ?_
                    exact ih1  sc 0 (aq + mn3) _ _ _ _ _ (by omega) X3 W8 F6  (by omega) (by omega) (by omega)
                  · refine c_iconst C dX3_decodeWord_134 ?_
                    refine c_goto (tgt := 139) C dX3_decodeWord_135 (by decide) ?_
                    refine c_istore_n (lv2 := [(3, .int (iI 1)), (5, .ref ob1), (2, .int (iI sc)), (4, .int (iI aq)), (0, .ref a0), (1, .int (iI i))]) C dX3_decodeWord_139 (by decide) rfl ?_
                    refine c_iload (j := 3) C dX3_decodeWord_140 rfl ?_
                    refine c_iconst C dX3_decodeWord_142 ?_
                    refine c_aload (j := 1) (x := ob1) C dX3_decodeWord_143 rfl ?_
                    obtain ⟨rb7, rq7, trb7⟩ := W8.ref ty25 2 rfl rfl rfl
                    have lnrb7 : 1 ≤ lnh5 rb7 ∧ lnh5 rb7 ≤ 4 := W8.len trb7 rfl
                    refine c_getr (k := 2) C ck_6 dX3_decodeWord_145 w3_143 (by decide) ty25 rfl rfl (by decide) rfl rq7 ?_
                    refine c_st (st2 := [.ref rb7, .int (iI 1), .int (iI aq)]) rfl ?_
                    have ll4 : 1 ≤ lnh5 rb7 ∧ lnh5 rb7 ≤ 4 := W8.len trb7 rfl
                    refine c_alenI C dX3_decodeWord_148 trb7 rfl ?_
                    obtain ⟨mn4, hmn4, emn4⟩ := mmax_c (x := 1) (y := ((lnh5 rb7 : Nat) : Int)) ⟨by decide, by decide⟩ ⟨by omega, by omega⟩
                    have pl8 := Phi.le W8 sk3
                    refine c_mmax (w := iI mn4) C dX3_decodeWord_149 w5_105 w2_148 w1_14 w2_149 (by decide) (rom0 hph pl8 (by decide)) (Nat.le_of_ble_eq_true rfl) emn4 ?_
                    refine c_iadd C dX3_decodeWord_152 ?_
                    refine c_istore (lv2 := [(4, .int (iI (aq + mn4))), (3, .int (iI 1)), (5, .ref ob1), (2, .int (iI sc)), (0, .ref a0), (1, .int (iI i))]) C dX3_decodeWord_153 (by decide) rfl ?_
                    refine c_goto (tgt := 7) C dX3_decodeWord_155 (by decide) ?_
                    refine c_lv (lv2 := [(2, .int (iI sc)), (3, .int (iI 1)), (4, .int (iI (aq + mn4))), (0, .ref a0), (1, .int (iI i))]) [3, 1, 0, 4, 5] rfl ?_
                    exact ih1  sc 1 (aq + mn4) _ _ _ _ _ (by omega) X3 W8 F6  (by omega) (by omega) (by omega)
                · refine c_aload (j := 0) (x := ob1) C dX3_decodeWord_83 rfl ?_
                  refine c_get (k := 0) C ck_6 dX3_decodeWord_85 w3_137 (by decide) tob1 rfl rfl (by decide) rfl ?_
                  refine c_iconst C dX3_decodeWord_88 ?_
                  refine c_icmp_ne (tgt := 96) C (r32_c (lo := (-2147483648)) (hi := 2147483647) ri2.1 ri2.2 (by decide) (by decide)) ⟨by decide, by decide⟩ dX3_decodeWord_89 (by decide) (fun _ => ?_) (fun z => absurd z (by omega))
                  refine c_iconst C dX3_decodeWord_96 ?_
                  refine c_istore_n (lv2 := [(2, .int (iI 0)), (5, .ref ob1), (3, .int (iI gr)), (4, .int (iI aq)), (0, .ref a0), (1, .int (iI i))]) C dX3_decodeWord_97 (by decide) rfl ?_
                  refine c_aload_n (j := 4) (x := a0) C dX3_decodeWord_98 rfl ?_
                  obtain ⟨rb8, rq8, trb8⟩ := Wb1.ref ty1 6 rfl rfl rfl
                  have erb8 := Wb1.sk trb8 (by decide) rfl
                  subst erb8
                  refine c_getr (k := 6) C ck_4 dX3_decodeWord_99 w1_200 (by decide) ty1 rfl rfl (by decide) rfl rq8 ?_
                  refine c_st (st2 := [.ref (sk 10)]) rfl ?_
                  refine c_iload_n (j := 0) C dX3_decodeWord_102 rfl ?_
                  refine c_if_eq (tgt := 111) C ⟨by decide, by decide⟩ dX3_decodeWord_103 (by decide) (fun _ => ?_) (fun z => absurd z (by omega))
                  refine c_bipush (z := 62) C dX3_decodeWord_111 (by decide) ?_
                  have ty26 := Xb1.ty tsk10
                  have ri7 : 0 ≤ ivb1 (sk 10) 2 ∧ ivb1 (sk 10) 2 ≤ 4001 := Wb1.int ty26 2
                  refine d_callV (As := [.int (iI 62)]) (rest := []) C hM (C_add_10 (a0 := (sk 10)) (x := 62) Wb1 skb1 ty26 ⟨by decide, by decide⟩ ) dX3_decodeWord_113 kV_X3_91 rfl ty26 rfl rfl (by decide) ck_2 rfl (Nat.le_of_ble_eq_true rfl) ⟨(Nat.le_of_ble_eq_true rfl), (Nat.le_of_ble_eq_true rfl)⟩ hph pl3 (show 0 + 0 = 0 from rfl) (by decide) (fun rh6 Lh6 clh6 lnh6 ivh6 rvh6 h6 => ?_)
                  obtain ⟨rfl, xl6, fl6, W9, exf6⟩ := h6
                  refine hv8 (Fb1.call Xb1 fl6 rfl) (Xb1.ty tsk6) (Xb1.ty tsk7) (Xb1.ty tsk9) (Xb1.ty tsk24) (Xb1.ty tsk25) (Xb1.trans xl6) (xl6.skl skb1) (fun F7 ty27 ty28 ty29 ty30 ty31 X4 sk4 => ?_)
                  refine c_st (st2 := []) rfl ?_
                  refine hv2 (xl6.ty ty26) (show ((ivh6 (sk 10) 2 = ivb1 (sk 10) 2 ∧ ivb1 (sk 10) 2 = 4001) ∨ (ivh6 (sk 10) 2 = ivb1 (sk 10) 2 + 1 ∧ ivb1 (sk 10) 2 < 4001)) from exf6) (fun ty32 gf6 => ?_)
                  have ri8 : 0 ≤ ivh6 (sk 10) 2 ∧ ivh6 (sk 10) 2 ≤ 4001 := W9.int ty32 2
                  refine c_aload (j := 1) (x := ob1) C dX3_decodeWord_116 rfl ?_
                  refine c_aload_n (j := 4) (x := a0) C dX3_decodeWord_118 rfl ?_
                  refine hv2 (xl6.ty ty1) (show rvh6 a0 6 = rvb1 a0 6 from (fl6.r ty1 rfl 6)) (fun ty33 re2 => ?_)
                  rw [rq8] at re2
                  refine c_getr (k := 6) C ck_4 dX3_decodeWord_119 w1_200 (by decide) ty33 rfl rfl (by decide) rfl re2 ?_
                  refine c_st (st2 := [.ref (sk 10), .ref ob1]) rfl ?_
                  refine c_iload_n (j := 2) C dX3_decodeWord_122 rfl ?_
                  refine hv2 (xl6.ty tob1) (Phi.le W9 sk4) (fun ty34 pl9 => ?_)
                  refine d_callV (As := [.ref (sk 10), .int (iI gr)]) (rest := []) C hM (C_wl_10 (a0 := ob1) (a1 := (sk 10)) (g := gr) W9 sk4 ty34 ty32 (by omega) ) dX3_decodeWord_123 kV_X3_137 rfl ty34 rfl rfl (by decide) ck_6 rfl (Nat.le_of_ble_eq_true rfl) ⟨(Nat.le_of_ble_eq_true rfl), (Nat.le_of_ble_eq_true rfl)⟩ hph pl9 (show 0 + 0 = 0 from rfl) (by decide) (fun rh7 Lh7 clh7 lnh7 ivh7 rvh7 h7 => ?_)
                  obtain ⟨rfl, xl7, fl7, W10, exf7⟩ := h7
                  refine hv9 (F7.call X4 fl7 rfl) (xl6.ty ty27) (xl6.ty ty28) (xl6.ty ty2) (xl6.ty ty29) (xl6.ty ty30) (xl6.ty ty31) (X4.trans xl7) (xl7.skl sk4) (fun F8 ty35 ty36 ty37 ty38 ty39 ty40 X5 sk5 => ?_)
                  refine c_st (st2 := []) rfl ?_
                  refine c_aload (j := 1) (x := ob1) C dX3_decodeWord_126 rfl ?_
                  refine hv3 (xl7.ty ty34) (show ivh7 ob1 0 = ivh6 ob1 0 from fl7.i ty34 rfl 0) (show ivh6 ob1 0 = ivb1 ob1 0 from fl6.i tob1 rfl 0) (fun ty41 ie10 ie11 => ?_)
                  have ri9 : (-2147483648) ≤ ivh7 ob1 0 ∧ ivh7 ob1 0 ≤ 2147483647 := W10.int ty41 0
                  refine c_get (k := 0) C ck_6 dX3_decodeWord_128 w3_137 (by decide) ty41 rfl rfl (by decide) rfl ?_
                  refine c_if_ne (tgt := 138) C (r32_c (lo := (-2147483648)) (hi := 2147483647) ri9.1 ri9.2 (by decide) (by decide)) dX3_decodeWord_131 (by decide) (fun c10 => ?_) (fun c10 => ?_)
                  · refine c_iconst C dX3_decodeWord_138 ?_
                    refine c_istore_n (lv2 := [(3, .int (iI 0)), (2, .int (iI 0)), (5, .ref ob1), (4, .int (iI aq)), (0, .ref a0), (1, .int (iI i))]) C dX3_decodeWord_139 (by decide) rfl ?_
                    refine c_iload (j := 3) C dX3_decodeWord_140 rfl ?_
                    refine c_iconst C dX3_decodeWord_142 ?_
                    refine c_aload (j := 2) (x := ob1) C dX3_decodeWord_143 rfl ?_
                    obtain ⟨rb9, rq9, trb9⟩ := W10.ref ty41 2 rfl rfl rfl
                    have lnrb9 : 1 ≤ lnh7 rb9 ∧ lnh7 rb9 ≤ 4 := W10.len trb9 rfl
                    refine c_getr (k := 2) C ck_6 dX3_decodeWord_145 w3_143 (by decide) ty41 rfl rfl (by decide) rfl rq9 ?_
                    refine c_st (st2 := [.ref rb9, .int (iI 1), .int (iI aq)]) rfl ?_
                    have ll5 : 1 ≤ lnh7 rb9 ∧ lnh7 rb9 ≤ 4 := W10.len trb9 rfl
                    refine c_alenI C dX3_decodeWord_148 trb9 rfl ?_
                    obtain ⟨mn5, hmn5, emn5⟩ := mmax_c (x := 1) (y := ((lnh7 rb9 : Nat) : Int)) ⟨by decide, by decide⟩ ⟨by omega, by omega⟩
                    have pl10 := Phi.le W10 sk5
                    refine c_mmax (w := iI mn5) C dX3_decodeWord_149 w5_105 w2_148 w1_14 w2_149 (by decide) (rom0 hph pl10 (by decide)) (Nat.le_of_ble_eq_true rfl) emn5 ?_
                    refine c_iadd C dX3_decodeWord_152 ?_
                    refine c_istore (lv2 := [(4, .int (iI (aq + mn5))), (3, .int (iI 0)), (2, .int (iI 0)), (5, .ref ob1), (0, .ref a0), (1, .int (iI i))]) C dX3_decodeWord_153 (by decide) rfl ?_
                    refine c_goto (tgt := 7) C dX3_decodeWord_155 (by decide) ?_
                    refine c_lv (lv2 := [(2, .int (iI 0)), (3, .int (iI 0)), (4, .int (iI (aq + mn5))), (0, .ref a0), (1, .int (iI i))]) [2, 1, 0, 4, 5] rfl ?_
                    exact ih1  0 0 (aq + mn5) _ _ _ _ _ (by omega) X5 W10 F8  (by omega) (by omega) (by omega)
                  · refine c_iconst C dX3_decodeWord_134 ?_
                    refine c_goto (tgt := 139) C dX3_decodeWord_135 (by decide) ?_
                    refine c_istore_n (lv2 := [(3, .int (iI 1)), (2, .int (iI 0)), (5, .ref ob1), (4, .int (iI aq)), (0, .ref a0), (1, .int (iI i))]) C dX3_decodeWord_139 (by decide) rfl ?_
                    refine c_iload (j := 3) C dX3_decodeWord_140 rfl ?_
                    refine c_iconst C dX3_decodeWord_142 ?_
                    refine c_aload (j := 2) (x := ob1) C dX3_decodeWord_143 rfl ?_
                    obtain ⟨rb10, rq10, trb10⟩ := W10.ref ty41 2 rfl rfl rfl
                    have lnrb10 : 1 ≤ lnh7 rb10 ∧ lnh7 rb10 ≤ 4 := W10.len trb10 rfl
                    refine c_getr (k := 2) C ck_6 dX3_decodeWord_145 w3_143 (by decide) ty41 rfl rfl (by decide) rfl rq10 ?_
                    refine c_st (st2 := [.ref rb10, .int (iI 1), .int (iI aq)]) rfl ?_
                    have ll6 : 1 ≤ lnh7 rb10 ∧ lnh7 rb10 ≤ 4 := W10.len trb10 rfl
                    refine c_alenI C dX3_decodeWord_148 trb10 rfl ?_
                    obtain ⟨mn6, hmn6, emn6⟩ := mmax_c (x := 1) (y := ((lnh7 rb10 : Nat) : Int)) ⟨by decide, by decide⟩ ⟨by omega, by omega⟩
                    have pl11 := Phi.le W10 sk5
                    refine c_mmax (w := iI mn6) C dX3_decodeWord_149 w5_105 w2_148 w1_14 w2_149 (by decide) (rom0 hph pl11 (by decide)) (Nat.le_of_ble_eq_true rfl) emn6 ?_
                    refine c_iadd C dX3_decodeWord_152 ?_
                    refine c_istore (lv2 := [(4, .int (iI (aq + mn6))), (3, .int (iI 1)), (2, .int (iI 0)), (5, .ref ob1), (0, .ref a0), (1, .int (iI i))]) C dX3_decodeWord_153 (by decide) rfl ?_
                    refine c_goto (tgt := 7) C dX3_decodeWord_155 (by decide) ?_
                    refine c_lv (lv2 := [(2, .int (iI 0)), (3, .int (iI 1)), (4, .int (iI (aq + mn6))), (0, .ref a0), (1, .int (iI i))]) [2, 1, 0, 4, 5] rfl ?_
                    exact ih1  0 1 (aq + mn6) _ _ _ _ _ (by omega) X5 W10 F8  (by omega) (by omega) (by omega)
            · replace hgr := (hgr.resolve_left c5)
              refine c_aload (j := 0) (x := ob1) C dX3_decodeWord_49 rfl ?_
              refine d_callV (As := []) (rest := []) C hM (C_beginsSmall (a0 := ob1) Wb1 skb1 tob1  ) dX3_decodeWord_51 kV_X3_130 rfl tob1 rfl rfl (by decide) ck_6 rfl (Nat.le_of_ble_eq_true rfl) ⟨(Nat.le_of_ble_eq_true rfl), (Nat.le_of_ble_eq_true rfl)⟩ hph pl3 (show 0 + 0 = 0 from rfl) (by decide) (fun rh8 Lh8 clh8 lnh8 ivh8 rvh8 h8 => ?_)
              obtain ⟨f8, rfl, rfl, rfl, rfl, rfl, rfl, rgf8, exf8⟩ := h8
              refine c_st (st2 := [.int (iI f8)]) rfl ?_
              refine c_if_ne (tgt := 65) C ⟨by omega, by omega⟩ dX3_decodeWord_54 (by decide) (fun c11 => ?_) (fun c11 => ?_)
              · refine c_aload (j := 0) (x := ob1) C dX3_decodeWord_65 rfl ?_
                have ri10 : (-2147483648) ≤ ivb1 ob1 0 ∧ ivb1 ob1 0 ≤ 2147483647 := Wb1.int tob1 0
                refine c_get (k := 0) C ck_6 dX3_decodeWord_67 w3_137 (by decide) tob1 rfl rfl (by decide) rfl ?_
                refine c_iconst C dX3_decodeWord_70 ?_
                refine c_icmp_eq (tgt := 83) C (r32_c (lo := (-2147483648)) (hi := 2147483647) ri10.1 ri10.2 (by decide) (by decide)) ⟨by decide, by decide⟩ dX3_decodeWord_71 (by decide) (fun c12 => ?_) (fun c12 => ?_)
                · refine c_aload (j := 0) (x := ob1) C dX3_decodeWord_83 rfl ?_
                  refine c_get (k := 0) C ck_6 dX3_decodeWord_85 w3_137 (by decide) tob1 rfl rfl (by decide) rfl ?_
                  refine c_iconst C dX3_decodeWord_88 ?_
                  refine c_icmp_ne (tgt := 96) C (r32_c (lo := (-2147483648)) (hi := 2147483647) ri10.1 ri10.2 (by decide) (by decide)) ⟨by decide, by decide⟩ dX3_decodeWord_89 (by decide) (fun z => absurd z (by omega)) (fun _ => ?_)
                  refine c_iconst C dX3_decodeWord_92 ?_
                  refine c_goto (tgt := 97) C dX3_decodeWord_93 (by decide) ?_
                  refine c_istore_n (lv2 := [(2, .int (iI 1)), (5, .ref ob1), (3, .int (iI gr)), (4, .int (iI aq)), (0, .ref a0), (1, .int (iI i))]) C dX3_decodeWord_97 (by decide) rfl ?_
                  refine c_aload_n (j := 4) (x := a0) C dX3_decodeWord_98 rfl ?_
                  obtain ⟨rb11, rq11, trb11⟩ := Wb1.ref ty1 6 rfl rfl rfl
                  have erb11 := Wb1.sk trb11 (by decide) rfl
                  subst erb11
                  refine c_getr (k := 6) C ck_4 dX3_decodeWord_99 w1_200 (by decide) ty1 rfl rfl (by decide) rfl rq11 ?_
                  refine c_st (st2 := [.ref (sk 10)]) rfl ?_
                  refine c_iload_n (j := 0) C dX3_decodeWord_102 rfl ?_
                  refine c_if_eq (tgt := 111) C ⟨by decide, by decide⟩ dX3_decodeWord_103 (by decide) (fun z => absurd z (by omega)) (fun _ => ?_)
                  refine c_bipush (z := 60) C dX3_decodeWord_106 (by decide) ?_
                  refine c_goto (tgt := 113) C dX3_decodeWord_108 (by decide) ?_
                  have ty42 := Xb1.ty tsk10
                  have ri11 : 0 ≤ ivb1 (sk 10) 2 ∧ ivb1 (sk 10) 2 ≤ 4001 := Wb1.int ty42 2
                  refine d_callV (As := [.int (iI 60)]) (rest := []) C hM (C_add_10 (a0 := (sk 10)) (x := 60) Wb1 skb1 ty42 ⟨by decide, by decide⟩ ) dX3_decodeWord_113 kV_X3_91 rfl ty42 rfl rfl (by decide) ck_2 rfl (Nat.le_of_ble_eq_true rfl) ⟨(Nat.le_of_ble_eq_true rfl), (Nat.le_of_ble_eq_true rfl)⟩ hph pl3 (show 0 + 0 = 0 from rfl) (by decide) (fun rh9 Lh9 clh9 lnh9 ivh9 rvh9 h9 => ?_)
                  obtain ⟨rfl, xl9, fl9, W12, exf9⟩ := h9
                  refine hv8 (Fb1.call Xb1 fl9 rfl) (Xb1.ty tsk6) (Xb1.ty tsk7) (Xb1.ty tsk9) (Xb1.ty tsk24) (Xb1.ty tsk25) (Xb1.trans xl9) (xl9.skl skb1) (fun F9 ty43 ty44 ty45 ty46 ty47 X6 sk6 => ?_)
                  refine c_st (st2 := []) rfl ?_
                  refine hv2 (xl9.ty ty42) (show ((ivh9 (sk 10) 2 = ivb1 (sk 10) 2 ∧ ivb1 (sk 10) 2 = 4001) ∨ (ivh9 (sk 10) 2 = ivb1 (sk 10) 2 + 1 ∧ ivb1 (sk 10) 2 < 4001)) from exf9) (fun ty48 gf9 => ?_)
                  have ri12 : 0 ≤ ivh9 (sk 10) 2 ∧ ivh9 (sk 10) 2 ≤ 4001 := W12.int ty48 2
                  refine c_aload (j := 1) (x := ob1) C dX3_decodeWord_116 rfl ?_
                  refine c_aload_n (j := 4) (x := a0) C dX3_decodeWord_118 rfl ?_
                  refine hv2 (xl9.ty ty1) (show rvh9 a0 6 = rvb1 a0 6 from (fl9.r ty1 rfl 6)) (fun ty49 re3 => ?_)
                  rw [rq11] at re3
                  refine c_getr (k := 6) C ck_4 dX3_decodeWord_119 w1_200 (by decide) ty49 rfl rfl (by decide) rfl re3 ?_
                  refine c_st (st2 := [.ref (sk 10), .ref ob1]) rfl ?_
                  refine c_iload_n (j := 2) C dX3_decodeWord_122 rfl ?_
                  refine hv2 (xl9.ty tob1) (Phi.le W12 sk6) (fun ty50 pl12 => ?_)
                  refine d_callV (As := [.ref (sk 10), .int (iI gr)]) (rest := []) C hM (C_wl_10 (a0 := ob1) (a1 := (sk 10)) (g := gr) W12 sk6 ty50 ty48 (by omega) ) dX3_decodeWord_123 kV_X3_137 rfl ty50 rfl rfl (by decide) ck_6 rfl (Nat.le_of_ble_eq_true rfl) ⟨(Nat.le_of_ble_eq_true rfl), (Nat.le_of_ble_eq_true rfl)⟩ hph pl12 (show 0 + 0 = 0 from rfl) (by decide) (fun rh10 Lh10 clh10 lnh10 ivh10 rvh10 h10 => ?_)
                  obtain ⟨rfl, xl10, fl10, W13, exf10⟩ := h10
                  refine hv9 (F9.call X6 fl10 rfl) (xl9.ty ty43) (xl9.ty ty44) (xl9.ty ty2) (xl9.ty ty45) (xl9.ty ty46) (xl9.ty ty47) (X6.trans xl10) (xl10.skl sk6) (fun F10 ty51 ty52 ty53 ty54 ty55 ty56 X7 sk7 => ?_)
                  refine c_st (st2 := []) rfl ?_
                  refine c_aload (j := 1) (x := ob1) C dX3_decodeWord_126 rfl ?_
                  refine hv3 (xl10.ty ty50) (show ivh10 ob1 0 = ivh9 ob1 0 from fl10.i ty50 rfl 0) (show ivh9 ob1 0 = ivb1 ob1 0 from fl9.i tob1 rfl 0) (fun ty57 ie15 ie16 => ?_)
                  have ri13 : (-2147483648) ≤ ivh10 ob1 0 ∧ ivh10 ob1 0 ≤ 2147483647 := W13.int ty57 0
                  refine c_get (k := 0) C ck_6 dX3_decodeWord_128 w3_137 (by decide) ty57 rfl rfl (by decide) rfl ?_
                  refine c_if_ne (tgt := 138) C (r32_c (lo := (-2147483648)) (hi := 2147483647) ri13.1 ri13.2 (by decide) (by decide)) dX3_decodeWord_131 (by decide) (fun c13 => ?_) (fun c13 => ?_)
                  · refine c_iconst C dX3_decodeWord_138 ?_
                    refine c_istore_n (lv2 := [(3, .int (iI 0)), (2, .int (iI 1)), (5, .ref ob1), (4, .int (iI aq)), (0, .ref a0), (1, .int (iI i))]) C dX3_decodeWord_139 (by decide) rfl ?_
                    refine c_iload (j := 3) C dX3_decodeWord_140 rfl ?_
                    refine c_iconst C dX3_decodeWord_142 ?_
                    refine c_aload (j := 2) (x := ob1) C dX3_decodeWord_143 rfl ?_
                    obtain ⟨rb12, rq12, trb12⟩ := W13.ref ty57 2 rfl rfl rfl
                    have lnrb12 : 1 ≤ lnh10 rb12 ∧ lnh10 rb12 ≤ 4 := W13.len trb12 rfl
                    refine c_getr (k := 2) C ck_6 dX3_decodeWord_145 w3_143 (by decide) ty57 rfl rfl (by decide) rfl rq12 ?_
                    refine c_st (st2 := [.ref rb12, .int (iI 1), .int (iI aq)]) rfl ?_
                    have ll7 : 1 ≤ lnh10 rb12 ∧ lnh10 rb12 ≤ 4 := W13.len trb12 rfl
                    refine c_alenI C dX3_decodeWord_148 trb12 rfl ?_
                    obtain ⟨mn7, hmn7, emn7⟩ := mmax_c (x := 1) (y := ((lnh10 rb12 : Nat) : Int)) ⟨by decide, by decide⟩ ⟨by omega, by omega⟩
                    have pl13 := Phi.le W13 sk7
                    refine c_mmax (w := iI mn7) C dX3_decodeWord_149 w5_105 w2_148 w1_14 w2_149 (by decide) (rom0 hph pl13 (by decide)) (Nat.le_of_ble_eq_true rfl) emn7 ?_
                    refine c_iadd C dX3_decodeWord_152 ?_
                    refine c_istore (lv2 := [(4, .int (iI (aq + mn7))), (3, .int (iI 0)), (2, .int (iI 1)), (5, .ref ob1), (0, .ref a0), (1, .int (iI i))]) C dX3_decodeWord_153 (by decide) rfl ?_
                    refine c_goto (tgt := 7) C dX3_decodeWord_155 (by decide) ?_
                    refine c_lv (lv2 := [(2, .int (iI 1)), (3, .int (iI 0)), (4, .int (iI (aq + mn7))), (0, .ref a0), (1, .int (iI i))]) [2, 1, 0, 4, 5] rfl ?_
                    exact ih1  1 0 (aq + mn7) _ _ _ _ _ (by omega) X7 W13 F10  (by omega) (by omega) (by omega)
                  · refine c_iconst C dX3_decodeWord_134 ?_
                    refine c_goto (tgt := 139) C dX3_decodeWord_135 (by decide) ?_
                    refine c_istore_n (lv2 := [(3, .int (iI 1)), (2, .int (iI 1)), (5, .ref ob1), (4, .int (iI aq)), (0, .ref a0), (1, .int (iI i))]) C dX3_decodeWord_139 (by decide) rfl ?_
                    refine c_iload (j := 3) C dX3_decodeWord_140 rfl ?_
                    refine c_iconst C dX3_decodeWord_142 ?_
                    refine c_aload (j := 2) (x := ob1) C dX3_decodeWord_143 rfl ?_
                    obtain ⟨rb13, rq13, trb13⟩ := W13.ref ty57 2 rfl rfl rfl
                    have lnrb13 : 1 ≤ lnh10 rb13 ∧ lnh10 rb13 ≤ 4 := W13.len trb13 rfl
                    refine c_getr (k := 2) C ck_6 dX3_decodeWord_145 w3_143 (by decide) ty57 rfl rfl (by decide) rfl rq13 ?_
                    refine c_st (st2 := [.ref rb13, .int (iI 1), .int (iI aq)]) rfl ?_
                    have ll8 : 1 ≤ lnh10 rb13 ∧ lnh10 rb13 ≤ 4 := W13.len trb13 rfl
                    refine c_alenI C dX3_decodeWord_148 trb13 rfl ?_
                    obtain ⟨mn8, hmn8, emn8⟩ := mmax_c (x := 1) (y := ((lnh10 rb13 : Nat) : Int)) ⟨by decide, by decide⟩ ⟨by omega, by omega⟩
                    have pl14 := Phi.le W13 sk7
                    refine c_mmax (w := iI mn8) C dX3_decodeWord_149 w5_105 w2_148 w1_14 w2_149 (by decide) (rom0 hph pl14 (by decide)) (Nat.le_of_ble_eq_true rfl) emn8 ?_
                    refine c_iadd C dX3_decodeWord_152 ?_
                    refine c_istore (lv2 := [(4, .int (iI (aq + mn8))), (3, .int (iI 1)), (2, .int (iI 1)), (5, .ref ob1), (0, .ref a0), (1, .int (iI i))]) C dX3_decodeWord_153 (by decide) rfl ?_
                    refine c_goto (tgt := 7) C dX3_decodeWord_155 (by decide) ?_
                    refine c_lv (lv2 := [(2, .int (iI 1)), (3, .int (iI 1)), (4, .int (iI (aq + mn8))), (0, .ref a0), (1, .int (iI i))]) [2, 1, 0, 4, 5] rfl ?_
                    exact ih1  1 1 (aq + mn8) _ _ _ _ _ (by omega) X7 W13 F10  (by omega) (by omega) (by omega)
                · refine c_aload (j := 0) (x := ob1) C dX3_decodeWord_74 rfl ?_
                  refine c_get (k := 0) C ck_6 dX3_decodeWord_76 w3_137 (by decide) tob1 rfl rfl (by decide) rfl ?_
                  refine c_iconst C dX3_decodeWord_79 ?_
                  refine c_icmp_ne (tgt := 116) C (r32_c (lo := (-2147483648)) (hi := 2147483647) ri10.1 ri10.2 (by decide) (by decide)) ⟨by decide, by decide⟩ dX3_decodeWord_80 (by decide) (fun c14 => ?_) (fun c14 => ?_)
                  · refine c_aload (j := 0) (x := ob1) C dX3_decodeWord_116 rfl ?_
                    refine c_aload_n (j := 4) (x := a0) C dX3_decodeWord_118 rfl ?_
                    obtain ⟨rb14, rq14, trb14⟩ := Wb1.ref ty1 6 rfl rfl rfl
                    have erb14 := Wb1.sk trb14 (by decide) rfl
                    subst erb14
                    refine c_getr (k := 6) C ck_4 dX3_decodeWord_119 w1_200 (by decide) ty1 rfl rfl (by decide) rfl rq14 ?_
                    refine c_st (st2 := [.ref (sk 10), .ref ob1]) rfl ?_
                    refine c_iload_n (j := 2) C dX3_decodeWord_122 rfl ?_
                    have ty58 := Xb1.ty tsk10
                    refine d_callV (As := [.ref (sk 10), .int (iI gr)]) (rest := []) C hM (C_wl_10 (a0 := ob1) (a1 := (sk 10)) (g := gr) Wb1 skb1 tob1 ty58 (by omega) ) dX3_decodeWord_123 kV_X3_137 rfl tob1 rfl rfl (by decide) ck_6 rfl (Nat.le_of_ble_eq_true rfl) ⟨(Nat.le_of_ble_eq_true rfl), (Nat.le_of_ble_eq_true rfl)⟩ hph pl3 (show 0 + 0 = 0 from rfl) (by decide) (fun rh11 Lh11 clh11 lnh11 ivh11 rvh11 h11 => ?_)
                    obtain ⟨rfl, xl11, fl11, W14, exf11⟩ := h11
                    refine hv8 (Fb1.call Xb1 fl11 rfl) (Xb1.ty tsk6) (Xb1.ty tsk7) (Xb1.ty tsk9) (Xb1.ty tsk24) (Xb1.ty tsk25) (Xb1.trans xl11) (xl11.skl skb1) (fun F11 ty59 ty60 ty61 ty62 ty63 X8 sk8 => ?_)
                    refine c_st (st2 := []) rfl ?_
                    refine c_aload (j := 0) (x := ob1) C dX3_decodeWord_126 rfl ?_
                    refine hv2 (xl11.ty tob1) (show ivh11 ob1 0 = ivb1 ob1 0 from fl11.i tob1 rfl 0) (fun ty64 ie17 => ?_)
                    have ri14 : (-2147483648) ≤ ivh11 ob1 0 ∧ ivh11 ob1 0 ≤ 2147483647 := W14.int ty64 0
                    refine c_get (k := 0) C ck_6 dX3_decodeWord_128 w3_137 (by decide) ty64 rfl rfl (by decide) rfl ?_
                    refine c_if_ne (tgt := 138) C (r32_c (lo := (-2147483648)) (hi := 2147483647) ri14.1 ri14.2 (by decide) (by decide)) dX3_decodeWord_131 (by decide) (fun c15 => ?_) (fun c15 => ?_)
                    · refine c_iconst C dX3_decodeWord_138 ?_
                      refine c_istore_n (lv2 := [(3, .int (iI 0)), (5, .ref ob1), (2, .int (iI sc)), (4, .int (iI aq)), (0, .ref a0), (1, .int (iI i))]) C dX3_decodeWord_139 (by decide) rfl ?_
                      refine c_iload (j := 3) C dX3_decodeWord_140 rfl ?_
                      refine c_iconst C dX3_decodeWord_142 ?_
                      refine c_aload (j := 1) (x := ob1) C dX3_decodeWord_143 rfl ?_
                      obtain ⟨rb15, rq15, trb15⟩ := W14.ref ty64 2 rfl rfl rfl
                      have lnrb15 : 1 ≤ lnh11 rb15 ∧ lnh11 rb15 ≤ 4 := W14.len trb15 rfl
                      refine c_getr (k := 2) C ck_6 dX3_decodeWord_145 w3_143 (by decide) ty64 rfl rfl (by decide) rfl rq15 ?_
                      refine c_st (st2 := [.ref rb15, .int (iI 1), .int (iI aq)]) rfl ?_
                      have ll9 : 1 ≤ lnh11 rb15 ∧ lnh11 rb15 ≤ 4 := W14.len trb15 rfl
                      refine c_alenI C dX3_decodeWord_148 trb15 rfl ?_
                      obtain ⟨mn9, hmn9, emn9⟩ := mmax_c (x := 1) (y := ((lnh11 rb15 : Nat) : Int)) ⟨by decide, by decide⟩ ⟨by omega, by omega⟩
                      have pl15 := Phi.le W14 sk8
                      refine c_mmax (w := iI mn9) C dX3_decodeWord_149 w5_105 w2_148 w1_14 w2_149 (by decide) (rom0 hph pl15 (by decide)) (Nat.le_of_ble_eq_true rfl) emn9 ?_
                      refine c_iadd C dX3_decodeWord_152 ?_
                      refine c_istore (lv2 := [(4, .int (iI (aq + mn9))), (3, .int (iI 0)), (5, .ref ob1), (2, .int (iI sc)), (0, .ref a0), (1, .int (iI i))]) C dX3_decodeWord_153 (by decide) rfl ?_
                      refine c_goto (tgt := 7) C dX3_decodeWord_155 (by decide) ?_
                      refine c_lv (lv2 := [(2, .int (iI sc)), (3, .int (iI 0)), (4, .int (iI (aq + mn9))), (0, .ref a0), (1, .int (iI i))]) [3, 1, 0, 4, 5] rfl ?_
                      exact ih1  sc 0 (aq + mn9) _ _ _ _ _ (by omega) X8 W14 F11  (by omega) (by omega) (by omega)
                    · refine c_iconst C dX3_decodeWord_134 ?_
                      refine c_goto (tgt := 139) C dX3_decodeWord_135 (by decide) ?_
                      refine c_istore_n (lv2 := [(3, .int (iI 1)), (5, .ref ob1), (2, .int (iI sc)), (4, .int (iI aq)), (0, .ref a0), (1, .int (iI i))]) C dX3_decodeWord_139 (by decide) rfl ?_
                      refine c_iload (j := 3) C dX3_decodeWord_140 rfl ?_
                      refine c_iconst C dX3_decodeWord_142 ?_
                      refine c_aload (j := 1) (x := ob1) C dX3_decodeWord_143 rfl ?_
                      obtain ⟨rb16, rq16, trb16⟩ := W14.ref ty64 2 rfl rfl rfl
                      have lnrb16 : 1 ≤ lnh11 rb16 ∧ lnh11 rb16 ≤ 4 := W14.len trb16 rfl
                      refine c_getr (k := 2) C ck_6 dX3_decodeWord_145 w3_143 (by decide) ty64 rfl rfl (by decide) rfl rq16 ?_
                      refine c_st (st2 := [.ref rb16, .int (iI 1), .int (iI aq)]) rfl ?_
                      have ll10 : 1 ≤ lnh11 rb16 ∧ lnh11 rb16 ≤ 4 := W14.len trb16 rfl
                      refine c_alenI C dX3_decodeWord_148 trb16 rfl ?_
                      obtain ⟨mn10, hmn10, emn10⟩ := mmax_c (x := 1) (y := ((lnh11 rb16 : Nat) : Int)) ⟨by decide, by decide⟩ ⟨by omega, by omega⟩
                      have pl16 := Phi.le W14 sk8
                      refine c_mmax (w := iI mn10) C dX3_decodeWord_149 w5_105 w2_148 w1_14 w2_149 (by decide) (rom0 hph pl16 (by decide)) (Nat.le_of_ble_eq_true rfl) emn10 ?_
                      refine c_iadd C dX3_decodeWord_152 ?_
                      refine c_istore (lv2 := [(4, .int (iI (aq + mn10))), (3, .int (iI 1)), (5, .ref ob1), (2, .int (iI sc)), (0, .ref a0), (1, .int (iI i))]) C dX3_decodeWord_153 (by decide) rfl ?_
                      refine c_goto (tgt := 7) C dX3_decodeWord_155 (by decide) ?_
                      refine c_lv (lv2 := [(2, .int (iI sc)), (3, .int (iI 1)), (4, .int (iI (aq + mn10))), (0, .ref a0), (1, .int (iI i))]) [3, 1, 0, 4, 5] rfl ?_
                      exact ih1  sc 1 (aq + mn10) _ _ _ _ _ (by omega) X8 W14 F11  (by omega) (by omega) (by omega)
                  · refine c_aload (j := 0) (x := ob1) C dX3_decodeWord_83 rfl ?_
                    refine c_get (k := 0) C ck_6 dX3_decodeWord_85 w3_137 (by decide) tob1 rfl rfl (by decide) rfl ?_
                    refine c_iconst C dX3_decodeWord_88 ?_
                    refine c_icmp_ne (tgt := 96) C (r32_c (lo := (-2147483648)) (hi := 2147483647) ri10.1 ri10.2 (by decide) (by decide)) ⟨by decide, by decide⟩ dX3_decodeWord_89 (by decide) (fun _ => ?_) (fun z => absurd z (by omega))
                    refine c_iconst C dX3_decodeWord_96 ?_
                    refine c_istore_n (lv2 := [(2, .int (iI 0)), (5, .ref ob1), (3, .int (iI gr)), (4, .int (iI aq)), (0, .ref a0), (1, .int (iI i))]) C dX3_decodeWord_97 (by decide) rfl ?_
                    refine c_aload_n (j := 4) (x := a0) C dX3_decodeWord_98 rfl ?_
                    obtain ⟨rb17, rq17, trb17⟩ := Wb1.ref ty1 6 rfl rfl rfl
                    have erb17 := Wb1.sk trb17 (by decide) rfl
                    subst erb17
                    refine c_getr (k := 6) C ck_4 dX3_decodeWord_99 w1_200 (by decide) ty1 rfl rfl (by decide) rfl rq17 ?_
                    refine c_st (st2 := [.ref (sk 10)]) rfl ?_
                    refine c_iload_n (j := 0) C dX3_decodeWord_102 rfl ?_
                    refine c_if_eq (tgt := 111) C ⟨by decide, by decide⟩ dX3_decodeWord_103 (by decide) (fun _ => ?_) (fun z => absurd z (by omega))
                    refine c_bipush (z := 62) C dX3_decodeWord_111 (by decide) ?_
                    have ty65 := Xb1.ty tsk10
                    have ri15 : 0 ≤ ivb1 (sk 10) 2 ∧ ivb1 (sk 10) 2 ≤ 4001 := Wb1.int ty65 2
                    refine d_callV (As := [.int (iI 62)]) (rest := []) C hM (C_add_10 (a0 := (sk 10)) (x := 62) Wb1 skb1 ty65 ⟨by decide, by decide⟩ ) dX3_decodeWord_113 kV_X3_91 rfl ty65 rfl rfl (by decide) ck_2 rfl (Nat.le_of_ble_eq_true rfl) ⟨(Nat.le_of_ble_eq_true rfl), (Nat.le_of_ble_eq_true rfl)⟩ hph pl3 (show 0 + 0 = 0 from rfl) (by decide) (fun rh12 Lh12 clh12 lnh12 ivh12 rvh12 h12 => ?_)
                    obtain ⟨rfl, xl12, fl12, W15, exf12⟩ := h12
                    refine hv8 (Fb1.call Xb1 fl12 rfl) (Xb1.ty tsk6) (Xb1.ty tsk7) (Xb1.ty tsk9) (Xb1.ty tsk24) (Xb1.ty tsk25) (Xb1.trans xl12) (xl12.skl skb1) (fun F12 ty66 ty67 ty68 ty69 ty70 X9 sk9 => ?_)
                    refine c_st (st2 := []) rfl ?_
                    refine hv2 (xl12.ty ty65) (show ((ivh12 (sk 10) 2 = ivb1 (sk 10) 2 ∧ ivb1 (sk 10) 2 = 4001) ∨ (ivh12 (sk 10) 2 = ivb1 (sk 10) 2 + 1 ∧ ivb1 (sk 10) 2 < 4001)) from exf12) (fun ty71 gf12 => ?_)
                    have ri16 : 0 ≤ ivh12 (sk 10) 2 ∧ ivh12 (sk 10) 2 ≤ 4001 := W15.int ty71 2
                    refine c_aload (j := 1) (x := ob1) C dX3_decodeWord_116 rfl ?_
                    refine c_aload_n (j := 4) (x := a0) C dX3_decodeWord_118 rfl ?_
                    refine hv2 (xl12.ty ty1) (show rvh12 a0 6 = rvb1 a0 6 from (fl12.r ty1 rfl 6)) (fun ty72 re4 => ?_)
                    rw [rq17] at re4
                    refine c_getr (k := 6) C ck_4 dX3_decodeWord_119 w1_200 (by decide) ty72 rfl rfl (by decide) rfl re4 ?_
                    refine c_st (st2 := [.ref (sk 10), .ref ob1]) rfl ?_
                    refine c_iload_n (j := 2) C dX3_decodeWord_122 rfl ?_
                    refine hv2 (xl12.ty tob1) (Phi.le W15 sk9) (fun ty73 pl17 => ?_)
                    refine d_callV (As := [.ref (sk 10), .int (iI gr)]) (rest := []) C hM (C_wl_10 (a0 := ob1) (a1 := (sk 10)) (g := gr) W15 sk9 ty73 ty71 (by omega) ) dX3_decodeWord_123 kV_X3_137 rfl ty73 rfl rfl (by decide) ck_6 rfl (Nat.le_of_ble_eq_true rfl) ⟨(Nat.le_of_ble_eq_true rfl), (Nat.le_of_ble_eq_true rfl)⟩ hph pl17 (show 0 + 0 = 0 from rfl) (by decide) (fun rh13 Lh13 clh13 lnh13 ivh13 rvh13 h13 => ?_)
                    obtain ⟨rfl, xl13, fl13, W16, exf13⟩ := h13
                    refine hv9 (F12.call X9 fl13 rfl) (xl12.ty ty66) (xl12.ty ty67) (xl12.ty ty2) (xl12.ty ty68) (xl12.ty ty69) (xl12.ty ty70) (X9.trans xl13) (xl13.skl sk9) (fun F13 ty74 ty75 ty76 ty77 ty78 ty79 X10 sk10 => ?_)
                    refine c_st (st2 := []) rfl ?_
                    refine c_aload (j := 1) (x := ob1) C dX3_decodeWord_126 rfl ?_
                    refine hv3 (xl13.ty ty73) (show ivh13 ob1 0 = ivh12 ob1 0 from fl13.i ty73 rfl 0) (show ivh12 ob1 0 = ivb1 ob1 0 from fl12.i tob1 rfl 0) (fun ty80 ie20 ie21 => ?_)
                    have ri17 : (-2147483648) ≤ ivh13 ob1 0 ∧ ivh13 ob1 0 ≤ 2147483647 := W16.int ty80 0
                    refine c_get (k := 0) C ck_6 dX3_decodeWord_128 w3_137 (by decide) ty80 rfl rfl (by decide) rfl ?_
                    refine c_if_ne (tgt := 138) C (r32_c (lo := (-2147483648)) (hi := 2147483647) ri17.1 ri17.2 (by decide) (by decide)) dX3_decodeWord_131 (by decide) (fun c16 => ?_) (fun c16 => ?_)
                    · refine c_iconst C dX3_decodeWord_138 ?_
                      refine c_istore_n (lv2 := [(3, .int (iI 0)), (2, .int (iI 0)), (5, .ref ob1), (4, .int (iI aq)), (0, .ref a0), (1, .int (iI i))]) C dX3_decodeWord_139 (by decide) rfl ?_
                      refine c_iload (j := 3) C dX3_decodeWord_140 rfl ?_
                      refine c_iconst C dX3_decodeWord_142 ?_
                      refine c_aload (j := 2) (x := ob1) C dX3_decodeWord_143 rfl ?_
                      obtain ⟨rb18, rq18, trb18⟩ := W16.ref ty80 2 rfl rfl rfl
                      have lnrb18 : 1 ≤ lnh13 rb18 ∧ lnh13 rb18 ≤ 4 := W16.len trb18 rfl
                      refine c_getr (k := 2) C ck_6 dX3_decodeWord_145 w3_143 (by decide) ty80 rfl rfl (by decide) rfl rq18 ?_
                      refine c_st (st2 := [.ref rb18, .int (iI 1), .int (iI aq)]) rfl ?_
                      have ll11 : 1 ≤ lnh13 rb18 ∧ lnh13 rb18 ≤ 4 := W16.len trb18 rfl
                      refine c_alenI C dX3_decodeWord_148 trb18 rfl ?_
                      obtain ⟨mn11, hmn11, emn11⟩ := mmax_c (x := 1) (y := ((lnh13 rb18 : Nat) : Int)) ⟨by decide, by decide⟩ ⟨by omega, by omega⟩
                      have pl18 := Phi.le W16 sk10
                      refine c_mmax (w := iI mn11) C dX3_decodeWord_149 w5_105 w2_148 w1_14 w2_149 (by decide) (rom0 hph pl18 (by decide)) (Nat.le_of_ble_eq_true rfl) emn11 ?_
                      refine c_iadd C dX3_decodeWord_152 ?_
                      refine c_istore (lv2 := [(4, .int (iI (aq + mn11))), (3, .int (iI 0)), (2, .int (iI 0)), (5, .ref ob1), (0, .ref a0), (1, .int (iI i))]) C dX3_decodeWord_153 (by decide) rfl ?_
                      refine c_goto (tgt := 7) C dX3_decodeWord_155 (by decide) ?_
                      refine c_lv (lv2 := [(2, .int (iI 0)), (3, .int (iI 0)), (4, .int (iI (aq + mn11))), (0, .ref a0), (1, .int (iI i))]) [2, 1, 0, 4, 5] rfl ?_
                      exact ih1  0 0 (aq + mn11) _ _ _ _ _ (by omega) X10 W16 F13  (by omega) (by omega) (by omega)
                    · refine c_iconst C dX3_decodeWord_134 ?_
                      refine c_goto (tgt := 139) C dX3_decodeWord_135 (by decide) ?_
                      refine c_istore_n (lv2 := [(3, .int (iI 1)), (2, .int (iI 0)), (5, .ref ob1), (4, .int (iI aq)), (0, .ref a0), (1, .int (iI i))]) C dX3_decodeWord_139 (by decide) rfl ?_
                      refine c_iload (j := 3) C dX3_decodeWord_140 rfl ?_
                      refine c_iconst C dX3_decodeWord_142 ?_
                      refine c_aload (j := 2) (x := ob1) C dX3_decodeWord_143 rfl ?_
                      obtain ⟨rb19, rq19, trb19⟩ := W16.ref ty80 2 rfl rfl rfl
                      have lnrb19 : 1 ≤ lnh13 rb19 ∧ lnh13 rb19 ≤ 4 := W16.len trb19 rfl
                      refine c_getr (k := 2) C ck_6 dX3_decodeWord_145 w3_143 (by decide) ty80 rfl rfl (by decide) rfl rq19 ?_
                      refine c_st (st2 := [.ref rb19, .int (iI 1), .int (iI aq)]) rfl ?_
                      have ll12 : 1 ≤ lnh13 rb19 ∧ lnh13 rb19 ≤ 4 := W16.len trb19 rfl
                      refine c_alenI C dX3_decodeWord_148 trb19 rfl ?_
                      obtain ⟨mn12, hmn12, emn12⟩ := mmax_c (x := 1) (y := ((lnh13 rb19 : Nat) : Int)) ⟨by decide, by decide⟩ ⟨by omega, by omega⟩
                      have pl19 := Phi.le W16 sk10
                      refine c_mmax (w := iI mn12) C dX3_decodeWord_149 w5_105 w2_148 w1_14 w2_149 (by decide) (rom0 hph pl19 (by decide)) (Nat.le_of_ble_eq_true rfl) emn12 ?_
                      refine c_iadd C dX3_decodeWord_152 ?_
                      refine c_istore (lv2 := [(4, .int (iI (aq + mn12))), (3, .int (iI 1)), (2, .int (iI 0)), (5, .ref ob1), (0, .ref a0), (1, .int (iI i))]) C dX3_decodeWord_153 (by decide) rfl ?_
                      refine c_goto (tgt := 7) C dX3_decodeWord_155 (by decide) ?_
                      refine c_lv (lv2 := [(2, .int (iI 0)), (3, .int (iI 1)), (4, .int (iI (aq + mn12))), (0, .ref a0), (1, .int (iI i))]) [2, 1, 0, 4, 5] rfl ?_
                      exact ih1  0 1 (aq + mn12) _ _ _ _ _ (by omega) X10 W16 F13  (by omega) (by omega) (by omega)
              · refine c_aload_n (j := 4) (x := a0) C dX3_decodeWord_57 rfl ?_
                refine c_iload (j := 3) C dX3_decodeWord_58 rfl ?_
                refine c_put (z := aq) (k := 7) C ck_4 dX3_decodeWord_60 w1_202 (by decide) rfl ty1 rfl rfl (by decide) rfl (by rfl) (by rfl) (fun iv4 pq4 => ?_)
                refine hv2 (Wb1.puti pq4 ty1 (show (-2147483648) ≤ aq ∧ aq ≤ 2147483647 by omega) rfl) (Fb1.puti Xb1 pq4 ty1 rfl) (fun W17 F14 => ?_)
                refine c_iconst C dX3_decodeWord_63 ?_
                exact c_iret C dX3_decodeWord_64 rfl (by decide) (rom0 hph pl3 (by decide)) ⟨(-1), rfl, Xb1, F14, W17, ⟨by decide, by decide⟩, (by omega)⟩
  refine c_lv (lv2 := [(2, .int (iI 0)), (3, .int (iI 0)), (4, .int (iI i)), (0, .ref a0), (1, .int (iI i))]) [2, 1, 0, 3, 4] rfl ?_
  exact Lp1 40207 0 0 i _ _ _ _ _ (by omega) hX0 hW hF0  (by omega) (by omega) (by omega)
set_option maxHeartbeats 4000000 in
set_option maxRecDepth 100000 in
theorem C_decode {l : Launch} {G : GT} {mi : Nat} {sk : Nat → Nat} {L : List Nat} {cl ln : Nat → Nat} {iv : Nat → Nat → Int} {rv : Nat → Nat → Option Nat}  {a0 : Nat} (hW : WT (g0 G) sk L cl ln iv rv) (hS : SKL sk L cl) (t_a0 : ty L cl a0 16)  : Mc l G mi (Phi (g0 G) sk) PHM yX3_decode cX3_decode 4 (some .boolean) 5 [.ref a0] L cl ln iv rv 0 (fun v L2 cl2 ln2 iv2 rv2 => ∃ f : Int, v = some (.int (iI f)) ∧ XT L cl ln L2 cl2 ln2 ∧ fT [16, 10, 40] L cl iv rv iv2 rv2 ∧ WT (g0 G) sk L2 cl2 ln2 iv2 rv2 ∧ (f = 0 ∨ f = 1) ∧ (True)) := by
  refine Mc.mk (by decide) (Nat.le_of_ble_eq_true rfl) ?_
  intro p e s m args below meth c A C hM
  refine hv10 (Phi.le hW hS) (show ty L cl (sk 6) 6 from ⟨(hS 6 rfl).1, by rw [(hS 6 rfl).2]; rfl⟩) (show ty L cl (sk 7) 7 from ⟨(hS 7 rfl).1, by rw [(hS 7 rfl).2]; rfl⟩) (show ty L cl (sk 8) 8 from ⟨(hS 8 rfl).1, by rw [(hS 8 rfl).2]; rfl⟩) (show ty L cl (sk 9) 9 from ⟨(hS 9 rfl).1, by rw [(hS 9 rfl).2]; rfl⟩) (show ty L cl (sk 10) 10 from ⟨(hS 10 rfl).1, by rw [(hS 10 rfl).2]; rfl⟩) (show ty L cl (sk 24) 24 from ⟨(hS 24 rfl).1, by rw [(hS 24 rfl).2]; rfl⟩) (show ty L cl (sk 25) 25 from ⟨(hS 25 rfl).1, by rw [(hS 25 rfl).2]; rfl⟩) (show XT L cl ln L cl ln from XT.refl) (show fT [16, 10, 40] L cl iv rv iv rv from fT.refl) (fun hph tsk6 tsk7 tsk8 tsk9 tsk10 tsk24 tsk25 hX0 hF0 => ?_)
  refine c_aload_n (j := 0) (x := a0) C dX3_decode_0 rfl ?_
  obtain ⟨rb1, rq1, trb1⟩ := hW.ref t_a0 6 rfl rfl rfl
  have erb1 := hW.sk trb1 (by decide) rfl
  subst erb1
  refine c_getr (k := 6) C ck_4 dX3_decode_1 w1_200 (by decide) t_a0 rfl rfl (by decide) rfl rq1 ?_
  refine c_st (st2 := [.ref (sk 10)]) rfl ?_
  refine d_callV (As := []) (rest := []) C hM (C_clear_10 (a0 := (sk 10)) hW hS tsk10  ) dX3_decode_4 kV_X3_77 rfl tsk10 rfl rfl (by decide) ck_2 rfl (Nat.le_of_ble_eq_true rfl) ⟨(Nat.le_of_ble_eq_true rfl), (Nat.le_of_ble_eq_true rfl)⟩ hph hph (show 0 + 0 = 0 from rfl) (by decide) (fun rh1 Lh1 clh1 lnh1 ivh1 rvh1 h1 => ?_)
  obtain ⟨rfl, rfl, rfl, rfl, rfl, fl1, W1, exf1⟩ := h1
  have F1 := hF0.call hX0 fl1 rfl
  refine c_st (st2 := []) rfl ?_
  refine hv2 (show 0 ≤ ivh1 (sk 10) 2 ∧ ivh1 (sk 10) 2 ≤ 4001 from W1.int tsk10 2) (show ivh1 (sk 10) 2 = 0 from exf1) (fun ri1 gf1 => ?_)
  refine c_iconst C dX3_decode_7 ?_
  refine c_istore_n (lv2 := [(1, .int (iI 1)), (0, .ref a0)]) C dX3_decode_8 (by decide) rfl ?_
  refine c_iconst C dX3_decode_9 ?_
  refine c_istore_n (lv2 := [(2, .int (iI 0)), (1, .int (iI 1)), (0, .ref a0)]) C dX3_decode_10 (by decide) rfl ?_
  have Lp1 : ∀ (nn : Nat) (fs aq : Int) (Lb1 : List Nat) (clb1 lnb1 : Nat → Nat) (ivb1 : Nat → Nat → Int) (rvb1 : Nat → Nat → Option Nat) , 40211 - aq < (nn : Int) → XT L cl ln Lb1 clb1 lnb1 → WT (g0 G) sk Lb1 clb1 lnb1 ivb1 rvb1 → fT [16, 10, 40] L cl iv rv ivb1 rvb1 → (fs = 0 ∨ fs = 1) → (0 ≤ aq ∧ aq ≤ 40210) → cw p l e 5 ((PHM) + 0 - ((Phi (g0 G) sk) ln rv)) s m args below meth c G A 4 (MQ below (Qu G A (Qp G (Phi (g0 G) sk) ((Phi (g0 G) sk) ln rv) 0 (fun v L2 cl2 ln2 iv2 rv2 => ∃ f : Int, v = some (.int (iI f)) ∧ XT L cl ln L2 cl2 ln2 ∧ fT [16, 10, 40] L cl iv rv iv2 rv2 ∧ WT (g0 G) sk L2 cl2 ln2 iv2 rv2 ∧ (f = 0 ∨ f = 1) ∧ (True)))) args s (((PHM) + 0 - ((Phi (g0 G) sk) ln rv)) / 16) ((PHM) + 0 - ((Phi (g0 G) sk) ln rv)) A) (Phi (g0 G) sk) ((Phi (g0 G) sk) ln rv) Lb1 clb1 lnb1 ivb1 rvb1 0 11 [(1, .int (iI fs)), (2, .int (iI aq)), (0, .ref a0)] [] := by
    intro nn
    induction nn with
    | zero =>
      intro  fs aq Lb1 clb1 lnb1 ivb1 rvb1 hm Xb1 Wb1 Fb1  hfs haq
      have skb1 := Xb1.skl hS
      exact absurd hm (by omega)
    | succ nn ih1 =>
      intro  fs aq Lb1 clb1 lnb1 ivb1 rvb1 hm Xb1 Wb1 Fb1  hfs haq
      have skb1 := Xb1.skl hS
      refine c_iload_n (j := 1) C dX3_decode_11 rfl ?_
      refine c_aload_n (j := 2) (x := a0) C dX3_decode_12 rfl ?_
      have ty1 := Xb1.ty t_a0
      obtain ⟨rb2, rq2, trb2⟩ := Wb1.ref ty1 4 rfl rfl rfl
      have erb2 := Wb1.sk trb2 (by decide) rfl
      subst erb2
      refine c_getr (k := 4) C ck_4 dX3_decode_13 w1_198 (by decide) ty1 rfl rfl (by decide) rfl rq2 ?_
      refine c_st (st2 := [.ref (sk 8), .int (iI aq)]) rfl ?_
      refine hv2 (Xb1.ty tsk8) (show ivb1 (sk 8) 2 = iv (sk 8) 2 from Fb1.i tsk8 rfl 2) (fun ty2 ie2 => ?_)
      have ri2 : 0 ≤ ivb1 (sk 8) 2 ∧ ivb1 (sk 8) 2 ≤ 40200 := Wb1.int ty2 2
      refine c_get (k := 2) C ck_2 dX3_decode_16 w1_49 (by decide) ty2 rfl rfl (by decide) rfl ?_
      refine c_icmp_ge (tgt := 72) C (r32_c (lo := 0) (hi := 40210) haq.1 haq.2 (by decide) (by decide)) (r32_c (lo := 0) (hi := 40200) ri2.1 ri2.2 (by decide) (by decide)) dX3_decode_19 (by decide) (fun c1 => ?_) (fun c1 => ?_)
      · refine c_iconst C dX3_decode_72 ?_
        have pl1 := Phi.le Wb1 skb1
        exact c_zret C dX3_decode_73 rfl (Or.inr rfl) (by decide) (rom0 hph pl1 (by decide)) ⟨1, rfl, Xb1, Fb1, Wb1, (Or.inr rfl), trivial⟩
      · refine c_aload_n (j := 2) (x := a0) C dX3_decode_22 rfl ?_
        refine c_getr (k := 4) C ck_4 dX3_decode_23 w1_198 (by decide) ty1 rfl rfl (by decide) rfl rq2 ?_
        refine c_st (st2 := [.ref (sk 8)]) rfl ?_
        refine c_iload_n (j := 1) C dX3_decode_26 rfl ?_
        have pl2 := Phi.le Wb1 skb1
        refine d_callV (As := [.int (iI aq)]) (rest := []) C hM (C_at_8 (a0 := (sk 8)) (i := aq) Wb1 skb1 ty2 (by omega) ) dX3_decode_27 kV_X3_119 rfl ty2 rfl rfl (by decide) ck_2 rfl (Nat.le_of_ble_eq_true rfl) ⟨(Nat.le_of_ble_eq_true rfl), (Nat.le_of_ble_eq_true rfl)⟩ hph pl2 (show 0 + 0 = 0 from rfl) (by decide) (fun rh2 Lh2 clh2 lnh2 ivh2 rvh2 h2 => ?_)
        obtain ⟨f2, rfl, rfl, rfl, rfl, rfl, rfl, rgf2, exf2⟩ := h2
        refine c_st (st2 := [.int (iI f2)]) rfl ?_
        have gf2 : ((0 ≤ aq ∧ aq < ivb1 (sk 8) 2) ∨ f2 = 0) ∧ ∀ ss, CT ivb1 rvb1 (sk 8) ss → 0 ≤ aq → aq < ivb1 (sk 8) 2 → f2 = ss aq.toNat := exf2
        refine c_if_ne (tgt := 39) C ⟨by omega, by omega⟩ dX3_decode_30 (by decide) (fun c2 => ?_) (fun c2 => ?_)
        · refine c_iload_n (j := 0) C dX3_decode_39 rfl ?_
          refine c_if_ne (tgt := 52) C (r32_01 hfs) dX3_decode_40 (by decide) (fun c3 => ?_) (fun c3 => ?_)
          · replace hfs := (hfs.resolve_left c3)
            refine c_iconst C dX3_decode_52 ?_
            refine c_istore_n (lv2 := [(1, .int (iI 0)), (2, .int (iI aq)), (0, .ref a0)]) C dX3_decode_53 (by decide) rfl ?_
            refine c_aload_n (j := 2) (x := a0) C dX3_decode_54 rfl ?_
            refine c_iload_n (j := 1) C dX3_decode_55 rfl ?_
            refine d_callV (As := [.int (iI aq)]) (rest := []) C hM (C_decodeWord (a0 := a0) (i := aq) Wb1 skb1 ty1 (by omega) (by show 0 ≤ aq ∧ aq ≤ 40200; omega)) dX3_decode_56 kV_X3_123 rfl ty1 rfl rfl (by decide) ck_4 rfl (Nat.le_of_ble_eq_true rfl) ⟨(Nat.le_of_ble_eq_true rfl), (Nat.le_of_ble_eq_true rfl)⟩ hph pl2 (show 0 + 0 = 0 from rfl) (by decide) (fun rh3 Lh3 clh3 lnh3 ivh3 rvh3 h3 => ?_)
            obtain ⟨f3, rfl, xl3, fl3, W3, rgf3, exf3⟩ := h3
            refine hv9 (Fb1.call Xb1 fl3 rfl) (Xb1.ty tsk6) (Xb1.ty tsk7) (Xb1.ty tsk9) (Xb1.ty tsk10) (Xb1.ty tsk24) (Xb1.ty tsk25) (Xb1.trans xl3) (xl3.skl skb1) (fun F2 ty3 ty4 ty5 ty6 ty7 ty8 X1 sk1 => ?_)
            refine c_st (st2 := [.int (iI f3)]) rfl ?_
            have gf3 : f3 ≤ 40210 := exf3
            refine c_istore_n (lv2 := [(3, .int (iI f3)), (1, .int (iI 0)), (2, .int (iI aq)), (0, .ref a0)]) C dX3_decode_59 (by decide) rfl ?_
            refine c_iload_n (j := 0) C dX3_decode_60 rfl ?_
            refine c_iload_n (j := 2) C dX3_decode_61 rfl ?_
            refine c_icmp_gt (tgt := 67) C ⟨by omega, by omega⟩ (r32_c (lo := 0) (hi := 40210) haq.1 haq.2 (by decide) (by decide)) dX3_decode_62 (by decide) (fun c4 => ?_) (fun c4 => ?_)
            · refine c_iload_n (j := 0) C dX3_decode_67 rfl ?_
              refine c_istore_n (lv2 := [(2, .int (iI f3)), (3, .int (iI f3)), (1, .int (iI 0)), (0, .ref a0)]) C dX3_decode_68 (by decide) rfl ?_
              refine c_goto (tgt := 11) C dX3_decode_69 (by decide) ?_
              refine c_lv (lv2 := [(1, .int (iI 0)), (2, .int (iI f3)), (0, .ref a0)]) [2, 0, 3] rfl ?_
              exact ih1  0 f3 _ _ _ _ _ (by omega) X1 W3 F2  (by omega) (by omega)
            · refine c_iconst C dX3_decode_65 ?_
              have pl3 := Phi.le W3 sk1
              exact c_zret C dX3_decode_66 rfl (Or.inl rfl) (by decide) (rom0 hph pl3 (by decide)) ⟨0, rfl, X1, F2, W3, (Or.inl rfl), trivial⟩
          · clear hfs
            refine c_aload_n (j := 2) (x := a0) C dX3_decode_43 rfl ?_
            obtain ⟨rb3, rq3, trb3⟩ := Wb1.ref ty1 6 rfl rfl rfl
            have erb3 := Wb1.sk trb3 (by decide) rfl
            subst erb3
            refine c_getr (k := 6) C ck_4 dX3_decode_44 w1_200 (by decide) ty1 rfl rfl (by decide) rfl rq3 ?_
            refine c_st (st2 := [.ref (sk 10)]) rfl ?_
            refine c_bipush (z := 32) C dX3_decode_47 (by decide) ?_
            have ty9 := Xb1.ty tsk10
            have ri3 : 0 ≤ ivb1 (sk 10) 2 ∧ ivb1 (sk 10) 2 ≤ 4001 := Wb1.int ty9 2
            refine d_callV (As := [.int (iI 32)]) (rest := []) C hM (C_add_10 (a0 := (sk 10)) (x := 32) Wb1 skb1 ty9 ⟨by decide, by decide⟩ ) dX3_decode_49 kV_X3_91 rfl ty9 rfl rfl (by decide) ck_2 rfl (Nat.le_of_ble_eq_true rfl) ⟨(Nat.le_of_ble_eq_true rfl), (Nat.le_of_ble_eq_true rfl)⟩ hph pl2 (show 0 + 0 = 0 from rfl) (by decide) (fun rh4 Lh4 clh4 lnh4 ivh4 rvh4 h4 => ?_)
            obtain ⟨rfl, xl4, fl4, W4, exf4⟩ := h4
            refine hv8 (Fb1.call Xb1 fl4 rfl) (Xb1.ty tsk6) (Xb1.ty tsk7) (Xb1.ty tsk9) (Xb1.ty tsk24) (Xb1.ty tsk25) (Xb1.trans xl4) (xl4.skl skb1) (fun F3 ty10 ty11 ty12 ty13 ty14 X2 sk2 => ?_)
            refine c_st (st2 := []) rfl ?_
            refine hv2 (xl4.ty ty9) (show ((ivh4 (sk 10) 2 = ivb1 (sk 10) 2 ∧ ivb1 (sk 10) 2 = 4001) ∨ (ivh4 (sk 10) 2 = ivb1 (sk 10) 2 + 1 ∧ ivb1 (sk 10) 2 < 4001)) from exf4) (fun ty15 gf4 => ?_)
            have ri4 : 0 ≤ ivh4 (sk 10) 2 ∧ ivh4 (sk 10) 2 ≤ 4001 := W4.int ty15 2
            refine c_iconst C dX3_decode_52 ?_
            refine c_istore_n (lv2 := [(1, .int (iI 0)), (2, .int (iI aq)), (0, .ref a0)]) C dX3_decode_53 (by decide) rfl ?_
            refine c_aload_n (j := 2) (x := a0) C dX3_decode_54 rfl ?_
            refine c_iload_n (j := 1) C dX3_decode_55 rfl ?_
            refine hv2 (xl4.ty ty1) (Phi.le W4 sk2) (fun ty16 pl4 => ?_)
            refine d_callV (As := [.int (iI aq)]) (rest := []) C hM (C_decodeWord (a0 := a0) (i := aq) W4 sk2 ty16 (by omega) (by show 0 ≤ aq ∧ aq ≤ 40200; omega)) dX3_decode_56 kV_X3_123 rfl ty16 rfl rfl (by decide) ck_4 rfl (Nat.le_of_ble_eq_true rfl) ⟨(Nat.le_of_ble_eq_true rfl), (Nat.le_of_ble_eq_true rfl)⟩ hph pl4 (show 0 + 0 = 0 from rfl) (by decide) (fun rh5 Lh5 clh5 lnh5 ivh5 rvh5 h5 => ?_)
            obtain ⟨f5, rfl, xl5, fl5, W5, rgf5, exf5⟩ := h5
            refine hv9 (F3.call X2 fl5 rfl) (xl4.ty ty10) (xl4.ty ty11) (xl4.ty ty2) (xl4.ty ty12) (xl4.ty ty13) (xl4.ty ty14) (X2.trans xl5) (xl5.skl sk2) (fun F4 ty17 ty18 ty19 ty20 ty21 ty22 X3 sk3 => ?_)
            refine c_st (st2 := [.int (iI f5)]) rfl ?_
            have gf5 : f5 ≤ 40210 := exf5
            refine c_istore_n (lv2 := [(3, .int (iI f5)), (1, .int (iI 0)), (2, .int (iI aq)), (0, .ref a0)]) C dX3_decode_59 (by decide) rfl ?_
            refine c_iload_n (j := 0) C dX3_decode_60 rfl ?_
            refine c_iload_n (j := 2) C dX3_decode_61 rfl ?_
            refine c_icmp_gt (tgt := 67) C ⟨by omega, by omega⟩ (r32_c (lo := 0) (hi := 40210) haq.1 haq.2 (by decide) (by decide)) dX3_decode_62 (by decide) (fun c5 => ?_) (fun c5 => ?_)
            · refine c_iload_n (j := 0) C dX3_decode_67 rfl ?_
              refine c_istore_n (lv2 := [(2, .int (iI f5)), (3, .int (iI f5)), (1, .int (iI 0)), (0, .ref a0)]) C dX3_decode_68 (by decide) rfl ?_
              refine c_goto (tgt := 11) C dX3_decode_69 (by decide) ?_
              refine c_lv (lv2 := [(1, .int (iI 0)), (2, .int (iI f5)), (0, .ref a0)]) [2, 0, 3] rfl ?_
              exact ih1  0 f5 _ _ _ _ _ (by omega) X3 W5 F4  (by omega) (by omega)
            · refine c_iconst C dX3_decode_65 ?_
              have pl5 := Phi.le W5 sk3
              exact c_zret C dX3_decode_66 rfl (Or.inl rfl) (by decide) (rom0 hph pl5 (by decide)) ⟨0, rfl, X3, F4, W5, (Or.inl rfl), trivial⟩
        · refine c_iinc (z := aq) (j := 1) (lv2 := [(2, .int (iI (aq + 1))), (1, .int (iI fs)), (0, .ref a0)]) C dX3_decode_33 rfl (by decide) rfl ?_
          refine c_goto (tgt := 11) C dX3_decode_36 (by decide) ?_
          refine c_lv (lv2 := [(1, .int (iI fs)), (2, .int (iI (aq + 1))), (0, .ref a0)]) [1, 0, 2] rfl ?_
          exact ih1  fs (aq + 1) _ _ _ _ _ (by omega) Xb1 Wb1 Fb1  (by omega) (by omega)
  refine c_lv (lv2 := [(1, .int (iI 1)), (2, .int (iI 0)), (0, .ref a0)]) [1, 0, 2] rfl ?_
  exact Lp1 40213 1 0 _ _ _ _ _ (by omega) hX0 W1 F1  (by omega) (by omega)
end
section
set_option maxHeartbeats 4000000 in
set_option maxRecDepth 100000 in
theorem C_slice_65 {l : Launch} {G : GT} {mi : Nat} {sk : Nat → Nat} {L : List Nat} {cl ln : Nat → Nat} {iv : Nat → Nat → Int} {rv : Nat → Nat → Option Nat}  {a0 : Nat} {i : Int} {j : Int} (hW : WT (g0 G) sk L cl ln iv rv) (hS : SKL sk L cl) (t_a0 : ty L cl a0 2) (h_i : -2147483648 ≤ i ∧ i ≤ 2147483647) (h_j : -2147483648 ≤ j ∧ j ≤ 2147483647) (hij : 0 ≤ i ∧ i ≤ 3000 ∧ 0 ≤ j - i ∧ j - i ≤ 8) : Mc l G mi (Phi (g0 G) sk) PHM yX1_slice cX1_slice 5 (some (.array .int)) 1 [.ref a0, .int (iI i), .int (iI j)] L cl ln iv rv 24 (fun v L2 cl2 ln2 iv2 rv2 => ∃ f : Nat, v = some (.ref f) ∧ XT L cl ln L2 cl2 ln2 ∧ fT [65] L cl iv rv iv2 rv2 ∧ WT (g0 G) sk L2 cl2 ln2 iv2 rv2 ∧ ty L2 cl2 f 65 ∧ (ln2 f = (j - i).toNat) ∧ (f ∉ L ∧ (∀ bb, ty L cl bb 65 → ∀ k, iv2 bb k = iv bb k) ∧ ∀ ss, CT iv rv a0 ss → j ≤ iv a0 2 → ∀ q : Nat, q < ln2 f → iv2 f q = ss (i.toNat + q))) := by
  refine Mc.mk (by decide) (Nat.le_of_ble_eq_true rfl) ?_
  intro p e s m args below meth c A C hM
  refine hv4 (Phi.le hW hS) (show XT L cl ln L cl ln from XT.refl) (show fT [65] L cl iv rv iv rv from fT.refl) (show 0 ≤ iv a0 2 ∧ iv a0 2 ≤ 3000 from hW.int t_a0 2) (fun hph hX0 hF0 ri1 => ?_)
  refine c_iconst C dX1_slice_0 ?_
  refine c_iload_n (j := 2) C dX1_slice_1 rfl ?_
  refine c_iload_n (j := 1) C dX1_slice_2 rfl ?_
  refine c_isub C dX1_slice_3 ?_
  obtain ⟨mn1, hmn1, emn1⟩ := mmax_c (x := 0) (y := j - i) ⟨by decide, by decide⟩ ⟨by omega, by omega⟩
  refine c_mmax (w := iI mn1) C dX1_slice_4 w2_147 w2_148 w1_14 w2_149 (by decide) (rom0 hph hph (by decide)) (Nat.le_of_ble_eq_true rfl) emn1 ?_
  refine c_newaI (z := mn1) (N := (j - i).toNat) C 65 dX1_slice_7 w1_57 rfl (by omega) (by omega) (rom2 hph hph (by omega)) (fun qn1 cln1 lnn1 ivn1 rvn1 hqn1 hcn1 hln1 hin1 hrn1 => ⟨(0 + (16 + (j - i).toNat)), (p_in (Phi.new hW hS hqn1 (fun b hb => by rw [hln1]; exact va_up_ne _ _ hb) hrn1) (by omega)), ?_⟩)
  refine c_g0 C (fun hg1 => ?_)
  refine hv5 (show ∀ b, b ≠ qn1 → lnn1 b = ln b from (fun b hb => by rw [hln1]; exact va_up_ne _ _ hb)) (show lnn1 qn1 = (j - i).toNat from by rw [hln1]; exact va_up_self _ _ _) (hF0.new hX0 hqn1 hin1 hrn1) (show ty (L ++ [qn1]) cln1 qn1 65 from ty_new hcn1) (show qn1 ∉ L from fun h => hqn1 ((hX0 qn1 h).1)) (fun hxn1 lqn1 F1 tqn1 h0qn1 => ?_)
  refine hv2 (hW.new (ln2 := lnn1) hqn1 (hg1 qn1 (List.mem_append_right _ List.mem_cons_self)) hcn1 hxn1 hin1 hrn1 (fun _ => ⟨(show (-2147483648 : Int) ≤ 0 by decide), (show (0 : Int) ≤ 2147483647 by decide)⟩) (Or.inr (fun _ => rfl)) (fun _ => by show 0 ≤ lnn1 qn1 ∧ lnn1 qn1 ≤ 8; omega) rfl rfl) (XT.new hqn1 hcn1 hxn1) (fun W1 xl1 => ?_)
  refine hv2 (hX0.trans xl1) (xl1.skl hS) (fun X1 sk1 => ?_)
  refine c_astore_n (lv2 := [(3, .ref qn1), (0, .ref a0), (1, .int (iI i)), (2, .int (iI j))]) C dX1_slice_9 (by decide) rfl ?_
  refine c_K (K2 := 24) (by omega) ?_
  refine c_iconst C dX1_slice_10 ?_
  refine c_istore (lv2 := [(4, .int (iI 0)), (3, .ref qn1), (0, .ref a0), (1, .int (iI i)), (2, .int (iI j))]) C dX1_slice_11 (by decide) rfl ?_
  have Lp1 : ∀ (nn : Nat) (qa : Nat) (k : Int) (Lb1 : List Nat) (clb1 lnb1 : Nat → Nat) (ivb1 : Nat → Nat → Int) (rvb1 : Nat → Nat → Option Nat) , 9 - k < (nn : Int) → XT L cl ln Lb1 clb1 lnb1 → WT (g0 G) sk Lb1 clb1 lnb1 ivb1 rvb1 → fT [65] L cl iv rv ivb1 rvb1 → (ty Lb1 clb1 qa 65) → (0 ≤ k ∧ k ≤ 8) → (lnb1 qa = (j - i).toNat) → (qa ∉ L) → (∀ bb, ty L cl bb 65 → ∀ kk, ivb1 bb kk = iv bb kk) → (∀ ss, CT iv rv a0 ss → j ≤ iv a0 2 → ∀ q : Nat, (q : Int) < k → ivb1 qa q = ss (i.toNat + q)) → cw p l e 1 ((PHM) + 24 - ((Phi (g0 G) sk) ln rv)) s m args below meth c G A 5 (MQ below (Qu G A (Qp G (Phi (g0 G) sk) ((Phi (g0 G) sk) ln rv) 24 (fun v L2 cl2 ln2 iv2 rv2 => ∃ f : Nat, v = some (.ref f) ∧ XT L cl ln L2 cl2 ln2 ∧ fT [65] L cl iv rv iv2 rv2 ∧ WT (g0 G) sk L2 cl2 ln2 iv2 rv2 ∧ ty L2 cl2 f 65 ∧ (ln2 f = (j - i).toNat) ∧ (f ∉ L ∧ (∀ bb, ty L cl bb 65 → ∀ k, iv2 bb k = iv bb k) ∧ ∀ ss, CT iv rv a0 ss → j ≤ iv a0 2 → ∀ q : Nat, q < ln2 f → iv2 f q = ss (i.toNat + q))))) args s (((PHM) + 24 - ((Phi (g0 G) sk) ln rv)) / 16) ((PHM) + 24 - ((Phi (g0 G) sk) ln rv)) A) (Phi (g0 G) sk) ((Phi (g0 G) sk) ln rv) Lb1 clb1 lnb1 ivb1 rvb1 24 13 [(4, .int (iI k)), (3, .ref qa), (0, .ref a0), (1, .int (iI i)), (2, .int (iI j))] [] := by
    intro nn
    induction nn with
    | zero =>
      intro qa k Lb1 clb1 lnb1 ivb1 rvb1 hm Xb1 Wb1 Fb1 ty_qa hk hqa hqn hold hcs
      have skb1 := Xb1.skl hS
      exact absurd hm (by omega)
    | succ nn ih1 =>
      intro qa k Lb1 clb1 lnb1 ivb1 rvb1 hm Xb1 Wb1 Fb1 ty_qa hk hqa hqn hold hcs
      have skb1 := Xb1.skl hS
      refine c_iload (j := 0) C dX1_slice_13 rfl ?_
      refine c_aload_n (j := 1) (x := qa) C dX1_slice_15 rfl ?_
      have ll1 : 0 ≤ lnb1 qa ∧ lnb1 qa ≤ 8 := Wb1.len ty_qa rfl
      refine c_alenI C dX1_slice_16 ty_qa rfl ?_
      refine c_icmp_ge (tgt := 38) C (r32_c (lo := 0) (hi := 8) hk.1 hk.2 (by decide) (by decide)) ⟨by omega, by omega⟩ dX1_slice_17 (by decide) (fun c1 => ?_) (fun c1 => ?_)
      · refine c_aload_n (j := 1) (x := qa) C dX1_slice_38 rfl ?_
        have pl1 := Phi.le Wb1 skb1
        exact c_aret (x := some qa) C dX1_slice_39 rfl (Or.inr ⟨_, rfl⟩) (by decide) (rom0 hph pl1 (by decide)) ⟨qa, rfl, Xb1, Fb1, Wb1, ty_qa, (by omega), ⟨hqn, hold, fun ss hs hj q hq => hcs ss hs hj q (by omega)⟩⟩
      · refine c_aload_n (j := 1) (x := qa) C dX1_slice_20 rfl ?_
        refine c_iload (j := 0) C dX1_slice_21 rfl ?_
        refine c_aload_n (j := 2) (x := a0) C dX1_slice_23 rfl ?_
        refine c_iload_n (j := 3) C dX1_slice_24 rfl ?_
        refine c_iload (j := 0) C dX1_slice_25 rfl ?_
        refine c_iadd C dX1_slice_27 ?_
        refine hv3 (Xb1.ty t_a0) (show ivb1 a0 2 = iv a0 2 from Fb1.i t_a0 rfl 2) (Phi.le Wb1 skb1) (fun ty1 ie1 pl2 => ?_)
        have ri2 : 0 ≤ ivb1 a0 2 ∧ ivb1 a0 2 ≤ 3000 := Wb1.int ty1 2
        refine d_callV (As := [.int (iI (i + k))]) (rest := [.int (iI k), .ref qa]) C hM (C_at_2 (a0 := a0) (i := i + k) Wb1 skb1 ty1 (by omega) ) dX1_slice_28 kV_X1_39 rfl ty1 rfl rfl (by decide) ck_2 rfl (Nat.le_of_ble_eq_true rfl) ⟨(Nat.le_of_ble_eq_true rfl), (Nat.le_of_ble_eq_true rfl)⟩ hph pl2 (show 24 + 0 = 24 from rfl) (by decide) (fun rh1 Lh1 clh1 lnh1 ivh1 rvh1 h1 => ?_)
        obtain ⟨f1, rfl, rfl, rfl, rfl, rfl, rfl, rgf1, exf1⟩ := h1
        refine c_st (st2 := [.int (iI f1), .int (iI k), .ref qa]) rfl ?_
        have gf1 : ((0 ≤ (i + k) ∧ (i + k) < ivb1 a0 2) ∨ f1 = 0) ∧ ∀ ss, CT ivb1 rvb1 a0 ss → 0 ≤ (i + k) → (i + k) < ivb1 a0 2 → f1 = ss (i + k).toNat := exf1
        refine c_iast (x := f1) C dX1_slice_31 ty_qa rfl (by omega) (by omega) (by omega) (fun iv1 pq1 => ?_)
        refine hv2 (Wb1.puti pq1 ty_qa (show (-2147483648) ≤ f1 ∧ f1 ≤ 2147483647 by omega) rfl) (Fb1.puti Xb1 pq1 ty_qa rfl) (fun W3 F2 => ?_)
        refine c_iinc (z := k) (j := 0) (lv2 := [(4, .int (iI (k + 1))), (3, .ref qa), (0, .ref a0), (1, .int (iI i)), (2, .int (iI j))]) C dX1_slice_32 rfl (by decide) rfl ?_
        refine c_goto (tgt := 13) C dX1_slice_35 (by decide) ?_
        refine hv2 (show 0 ≤ iv1 a0 2 ∧ iv1 a0 2 ≤ 3000 from W3.int ty1 2) (show iv1 a0 2 = ivb1 a0 2 from by rw [pq1]; exact up2_k (ne_ty ty1 ty_qa (by decide))) (fun ri3 ie2 => ?_)
        refine c_lv (lv2 := [(4, .int (iI (k + 1))), (3, .ref qa), (0, .ref a0), (1, .int (iI i)), (2, .int (iI j))]) [0, 1, 2, 3, 4] rfl ?_
        exact ih1  qa (k + 1) _ _ _ _ _ (by omega) Xb1 W3 F2 ty_qa (by omega) hqa hqn (fun bb tbb kk => Eq.trans (show iv1 bb kk = ivb1 bb kk from by rw [pq1]; exact up2_k (ne_in tbb.1 hqn)) (hold bb tbb kk)) (fun ss hs hj q hq => by
            rw [pq1]
            by_cases e : (q : Int) < k
            · rw [up2_j (by omega)]; exact hcs ss hs hj q e
            · rw [show q = k.toNat by omega, up2_s]
              have e1 := gf1.2 ss (CT.fr hs hW t_a0 Fb1 rfl rfl rfl rfl rfl) (by omega) (by omega)
              rw [e1]; exact congrArg ss (by omega))
  refine c_lv (lv2 := [(4, .int (iI 0)), (3, .ref qn1), (0, .ref a0), (1, .int (iI i)), (2, .int (iI j))]) [0, 1, 2, 3, 4] rfl ?_
  exact Lp1 11 qn1 0 _ _ _ _ _ (by omega) X1 W1 F1 tqn1 (by omega) lqn1 h0qn1 (fun bb tbb kk => by exact (show ivn1 bb kk = iv bb kk from (by rw [hin1]; exact congrFun (up0_a (ne_in tbb.1 hqn1)) _))) (fun ss hs hj q hq => absurd hq (by omega))
set_option maxHeartbeats 4000000 in
set_option maxRecDepth 100000 in
theorem C_slice_66 {l : Launch} {G : GT} {mi : Nat} {sk : Nat → Nat} {L : List Nat} {cl ln : Nat → Nat} {iv : Nat → Nat → Int} {rv : Nat → Nat → Option Nat}  {a0 : Nat} {i : Int} {j : Int} (hW : WT (g0 G) sk L cl ln iv rv) (hS : SKL sk L cl) (t_a0 : ty L cl a0 2) (h_i : -2147483648 ≤ i ∧ i ≤ 2147483647) (h_j : -2147483648 ≤ j ∧ j ≤ 2147483647) (hij : 0 ≤ i ∧ i ≤ 3000 ∧ 1 ≤ j - i ∧ j - i ≤ 4) : Mc l G mi (Phi (g0 G) sk) PHM yX1_slice cX1_slice 5 (some (.array .int)) 1 [.ref a0, .int (iI i), .int (iI j)] L cl ln iv rv 20 (fun v L2 cl2 ln2 iv2 rv2 => ∃ f : Nat, v = some (.ref f) ∧ XT L cl ln L2 cl2 ln2 ∧ fT [66] L cl iv rv iv2 rv2 ∧ WT (g0 G) sk L2 cl2 ln2 iv2 rv2 ∧ ty L2 cl2 f 66 ∧ (ln2 f = (j - i).toNat) ∧ (f ∉ L ∧ (∀ bb, ty L cl bb 66 → ∀ k, iv2 bb k = iv bb k) ∧ ∀ ss, CT iv rv a0 ss → j ≤ iv a0 2 → ∀ q : Nat, q < ln2 f → iv2 f q = ss (i.toNat + q))) := by
  refine Mc.mk (by decide) (Nat.le_of_ble_eq_true rfl) ?_
  intro p e s m args below meth c A C hM
  refine hv4 (Phi.le hW hS) (show XT L cl ln L cl ln from XT.refl) (show fT [66] L cl iv rv iv rv from fT.refl) (show 0 ≤ iv a0 2 ∧ iv a0 2 ≤ 3000 from hW.int t_a0 2) (fun hph hX0 hF0 ri1 => ?_)
  refine c_iconst C dX1_slice_0 ?_
  refine c_iload_n (j := 2) C dX1_slice_1 rfl ?_
  refine c_iload_n (j := 1) C dX1_slice_2 rfl ?_
  refine c_isub C dX1_slice_3 ?_
  obtain ⟨mn1, hmn1, emn1⟩ := mmax_c (x := 0) (y := j - i) ⟨by decide, by decide⟩ ⟨by omega, by omega⟩
  refine c_mmax (w := iI mn1) C dX1_slice_4 w2_147 w2_148 w1_14 w2_149 (by decide) (rom0 hph hph (by decide)) (Nat.le_of_ble_eq_true rfl) emn1 ?_
  refine c_newaI (z := mn1) (N := (j - i).toNat) C 66 dX1_slice_7 w1_57 rfl (by omega) (by omega) (rom2 hph hph (by omega)) (fun qn1 cln1 lnn1 ivn1 rvn1 hqn1 hcn1 hln1 hin1 hrn1 => ⟨(0 + (16 + (j - i).toNat)), (p_in (Phi.new hW hS hqn1 (fun b hb => by rw [hln1]; exact va_up_ne _ _ hb) hrn1) (by omega)), ?_⟩)
  refine c_g0 C (fun hg1 => ?_)
  refine hv5 (show ∀ b, b ≠ qn1 → lnn1 b = ln b from (fun b hb => by rw [hln1]; exact va_up_ne _ _ hb)) (show lnn1 qn1 = (j - i).toNat from by rw [hln1]; exact va_up_self _ _ _) (hF0.new hX0 hqn1 hin1 hrn1) (show ty (L ++ [qn1]) cln1 qn1 66 from ty_new hcn1) (show qn1 ∉ L from fun h => hqn1 ((hX0 qn1 h).1)) (fun hxn1 lqn1 F1 tqn1 h0qn1 => ?_)
  refine hv2 (hW.new (ln2 := lnn1) hqn1 (hg1 qn1 (List.mem_append_right _ List.mem_cons_self)) hcn1 hxn1 hin1 hrn1 (fun _ => ⟨(show (-2147483648 : Int) ≤ 0 by decide), (show (0 : Int) ≤ 2147483647 by decide)⟩) (Or.inr (fun _ => rfl)) (fun _ => by show 1 ≤ lnn1 qn1 ∧ lnn1 qn1 ≤ 4; omega) rfl rfl) (XT.new hqn1 hcn1 hxn1) (fun W1 xl1 => ?_)
  refine hv2 (hX0.trans xl1) (xl1.skl hS) (fun X1 sk1 => ?_)
  refine c_astore_n (lv2 := [(3, .ref qn1), (0, .ref a0), (1, .int (iI i)), (2, .int (iI j))]) C dX1_slice_9 (by decide) rfl ?_
  refine c_K (K2 := 20) (by omega) ?_
  refine c_iconst C dX1_slice_10 ?_
  refine c_istore (lv2 := [(4, .int (iI 0)), (3, .ref qn1), (0, .ref a0), (1, .int (iI i)), (2, .int (iI j))]) C dX1_slice_11 (by decide) rfl ?_
  have Lp1 : ∀ (nn : Nat) (qa : Nat) (k : Int) (Lb1 : List Nat) (clb1 lnb1 : Nat → Nat) (ivb1 : Nat → Nat → Int) (rvb1 : Nat → Nat → Option Nat) , 5 - k < (nn : Int) → XT L cl ln Lb1 clb1 lnb1 → WT (g0 G) sk Lb1 clb1 lnb1 ivb1 rvb1 → fT [66] L cl iv rv ivb1 rvb1 → (ty Lb1 clb1 qa 66) → (0 ≤ k ∧ k ≤ 4) → (lnb1 qa = (j - i).toNat) → (qa ∉ L) → (∀ bb, ty L cl bb 66 → ∀ kk, ivb1 bb kk = iv bb kk) → (∀ ss, CT iv rv a0 ss → j ≤ iv a0 2 → ∀ q : Nat, (q : Int) < k → ivb1 qa q = ss (i.toNat + q)) → cw p l e 1 ((PHM) + 20 - ((Phi (g0 G) sk) ln rv)) s m args below meth c G A 5 (MQ below (Qu G A (Qp G (Phi (g0 G) sk) ((Phi (g0 G) sk) ln rv) 20 (fun v L2 cl2 ln2 iv2 rv2 => ∃ f : Nat, v = some (.ref f) ∧ XT L cl ln L2 cl2 ln2 ∧ fT [66] L cl iv rv iv2 rv2 ∧ WT (g0 G) sk L2 cl2 ln2 iv2 rv2 ∧ ty L2 cl2 f 66 ∧ (ln2 f = (j - i).toNat) ∧ (f ∉ L ∧ (∀ bb, ty L cl bb 66 → ∀ k, iv2 bb k = iv bb k) ∧ ∀ ss, CT iv rv a0 ss → j ≤ iv a0 2 → ∀ q : Nat, q < ln2 f → iv2 f q = ss (i.toNat + q))))) args s (((PHM) + 20 - ((Phi (g0 G) sk) ln rv)) / 16) ((PHM) + 20 - ((Phi (g0 G) sk) ln rv)) A) (Phi (g0 G) sk) ((Phi (g0 G) sk) ln rv) Lb1 clb1 lnb1 ivb1 rvb1 20 13 [(4, .int (iI k)), (3, .ref qa), (0, .ref a0), (1, .int (iI i)), (2, .int (iI j))] [] := by
    intro nn
    induction nn with
    | zero =>
      intro qa k Lb1 clb1 lnb1 ivb1 rvb1 hm Xb1 Wb1 Fb1 ty_qa hk hqa hqn hold hcs
      have skb1 := Xb1.skl hS
      exact absurd hm (by omega)
    | succ nn ih1 =>
      intro qa k Lb1 clb1 lnb1 ivb1 rvb1 hm Xb1 Wb1 Fb1 ty_qa hk hqa hqn hold hcs
      have skb1 := Xb1.skl hS
      refine c_iload (j := 0) C dX1_slice_13 rfl ?_
      refine c_aload_n (j := 1) (x := qa) C dX1_slice_15 rfl ?_
      have ll1 : 1 ≤ lnb1 qa ∧ lnb1 qa ≤ 4 := Wb1.len ty_qa rfl
      refine c_alenI C dX1_slice_16 ty_qa rfl ?_
      refine c_icmp_ge (tgt := 38) C (r32_c (lo := 0) (hi := 4) hk.1 hk.2 (by decide) (by decide)) ⟨by omega, by omega⟩ dX1_slice_17 (by decide) (fun c1 => ?_) (fun c1 => ?_)
      · refine c_aload_n (j := 1) (x := qa) C dX1_slice_38 rfl ?_
        have pl1 := Phi.le Wb1 skb1
        exact c_aret (x := some qa) C dX1_slice_39 rfl (Or.inr ⟨_, rfl⟩) (by decide) (rom0 hph pl1 (by decide)) ⟨qa, rfl, Xb1, Fb1, Wb1, ty_qa, (by omega), ⟨hqn, hold, fun ss hs hj q hq => hcs ss hs hj q (by omega)⟩⟩
      · refine c_aload_n (j := 1) (x := qa) C dX1_slice_20 rfl ?_
        refine c_iload (j := 0) C dX1_slice_21 rfl ?_
        refine c_aload_n (j := 2) (x := a0) C dX1_slice_23 rfl ?_
        refine c_iload_n (j := 3) C dX1_slice_24 rfl ?_
        refine c_iload (j := 0) C dX1_slice_25 rfl ?_
        refine c_iadd C dX1_slice_27 ?_
        refine hv3 (Xb1.ty t_a0) (show ivb1 a0 2 = iv a0 2 from Fb1.i t_a0 rfl 2) (Phi.le Wb1 skb1) (fun ty1 ie1 pl2 => ?_)
        have ri2 : 0 ≤ ivb1 a0 2 ∧ ivb1 a0 2 ≤ 3000 := Wb1.int ty1 2
        refine d_callV (As := [.int (iI (i + k))]) (rest := [.int (iI k), .ref qa]) C hM (C_at_2 (a0 := a0) (i := i + k) Wb1 skb1 ty1 (by omega) ) dX1_slice_28 kV_X1_39 rfl ty1 rfl rfl (by decide) ck_2 rfl (Nat.le_of_ble_eq_true rfl) ⟨(Nat.le_of_ble_eq_true rfl), (Nat.le_of_ble_eq_true rfl)⟩ hph pl2 (show 20 + 0 = 20 from rfl) (by decide) (fun rh1 Lh1 clh1 lnh1 ivh1 rvh1 h1 => ?_)
        obtain ⟨f1, rfl, rfl, rfl, rfl, rfl, rfl, rgf1, exf1⟩ := h1
        refine c_st (st2 := [.int (iI f1), .int (iI k), .ref qa]) rfl ?_
        have gf1 : ((0 ≤ (i + k) ∧ (i + k) < ivb1 a0 2) ∨ f1 = 0) ∧ ∀ ss, CT ivb1 rvb1 a0 ss → 0 ≤ (i + k) → (i + k) < ivb1 a0 2 → f1 = ss (i + k).toNat := exf1
        refine c_iast (x := f1) C dX1_slice_31 ty_qa rfl (by omega) (by omega) (by omega) (fun iv1 pq1 => ?_)
        refine hv2 (Wb1.puti pq1 ty_qa (show (-2147483648) ≤ f1 ∧ f1 ≤ 2147483647 by omega) rfl) (Fb1.puti Xb1 pq1 ty_qa rfl) (fun W3 F2 => ?_)
        refine c_iinc (z := k) (j := 0) (lv2 := [(4, .int (iI (k + 1))), (3, .ref qa), (0, .ref a0), (1, .int (iI i)), (2, .int (iI j))]) C dX1_slice_32 rfl (by decide) rfl ?_
        refine c_goto (tgt := 13) C dX1_slice_35 (by decide) ?_
        refine hv2 (show 0 ≤ iv1 a0 2 ∧ iv1 a0 2 ≤ 3000 from W3.int ty1 2) (show iv1 a0 2 = ivb1 a0 2 from by rw [pq1]; exact up2_k (ne_ty ty1 ty_qa (by decide))) (fun ri3 ie2 => ?_)
        refine c_lv (lv2 := [(4, .int (iI (k + 1))), (3, .ref qa), (0, .ref a0), (1, .int (iI i)), (2, .int (iI j))]) [0, 1, 2, 3, 4] rfl ?_
        exact ih1  qa (k + 1) _ _ _ _ _ (by omega) Xb1 W3 F2 ty_qa (by omega) hqa hqn (fun bb tbb kk => Eq.trans (show iv1 bb kk = ivb1 bb kk from by rw [pq1]; exact up2_k (ne_in tbb.1 hqn)) (hold bb tbb kk)) (fun ss hs hj q hq => by
            rw [pq1]
            by_cases e : (q : Int) < k
            · rw [up2_j (by omega)]; exact hcs ss hs hj q e
            · rw [show q = k.toNat by omega, up2_s]
              have e1 := gf1.2 ss (CT.fr hs hW t_a0 Fb1 rfl rfl rfl rfl rfl) (by omega) (by omega)
              rw [e1]; exact congrArg ss (by omega))
  refine c_lv (lv2 := [(4, .int (iI 0)), (3, .ref qn1), (0, .ref a0), (1, .int (iI i)), (2, .int (iI j))]) [0, 1, 2, 3, 4] rfl ?_
  exact Lp1 7 qn1 0 _ _ _ _ _ (by omega) X1 W1 F1 tqn1 (by omega) lqn1 h0qn1 (fun bb tbb kk => by exact (show ivn1 bb kk = iv bb kk from (by rw [hin1]; exact congrFun (up0_a (ne_in tbb.1 hqn1)) _))) (fun ss hs hj q hq => absurd hq (by omega))
end
section
set_option maxHeartbeats 4000000 in
set_option maxRecDepth 100000 in
theorem C_done {l : Launch} {G : GT} {mi : Nat} {sk : Nat → Nat} {L : List Nat} {cl ln : Nat → Nat} {iv : Nat → Nat → Int} {rv : Nat → Nat → Option Nat}  {a0 : Nat} {x : Int} (hW : WT (g0 G) sk L cl ln iv rv) (hS : SKL sk L cl) (t_a0 : ty L cl a0 1) (h_x : -2147483648 ≤ x ∧ x ≤ 2147483647)  : Mc l G mi (Phi (g0 G) sk) PHM yX11_done cX11_done 2 (some .int) 0 [.ref a0, .int (iI x)] L cl ln iv rv 0 (fun v L2 cl2 ln2 iv2 rv2 => ∃ f : Int, v = some (.int (iI f)) ∧ L = L2 ∧ cl = cl2 ∧ ln = ln2 ∧ rv = rv2 ∧ fT [1] L cl iv rv iv2 rv2 ∧ WT (g0 G) sk L2 cl2 ln2 iv2 rv2 ∧ (-2147483648 ≤ f ∧ f ≤ 2147483647) ∧ (f = x) ∧ iv2 a0 11 = iv a0 11 ∧ iv2 a0 12 = iv a0 12 ∧ iv2 a0 13 = iv a0 13 ∧ iv2 a0 14 = iv a0 14 ∧ iv2 a0 15 = iv a0 15 ∧ iv2 a0 16 = iv a0 16) := by
  refine Mc.mk (by decide) (Nat.le_of_ble_eq_true rfl) ?_
  intro p e s m args below meth c A C hM
  refine hv3 (Phi.le hW hS) (show XT L cl ln L cl ln from XT.refl) (show fT [1] L cl iv rv iv rv from fT.refl) (fun hph hX0 hF0 => ?_)
  refine c_aload_n (j := 0) (x := a0) C dX11_done_0 rfl ?_
  refine c_iconst C dX11_done_1 ?_
  refine c_put (z := 0) (k := 17) C ck_12 dX11_done_2 w2_61 (by decide) rfl t_a0 rfl rfl (by decide) rfl (by rfl) (by rfl) (fun iv1 pq1 => ?_)
  refine hv2 (hW.puti pq1 t_a0 ⟨by decide, by decide⟩ rfl) (hF0.puti hX0 pq1 t_a0 rfl) (fun W1 F1 => ?_)
  refine c_aload_n (j := 0) (x := a0) C dX11_done_5 rfl ?_
  refine c_iconst C dX11_done_6 ?_
  refine c_put (z := (-1)) (k := 18) C ck_12 dX11_done_7 w2_62 (by decide) rfl t_a0 rfl rfl (by decide) rfl (by rfl) (by rfl) (fun iv2 pq2 => ?_)
  refine hv2 (W1.puti pq2 t_a0 ⟨by decide, by decide⟩ rfl) (F1.puti hX0 pq2 t_a0 rfl) (fun W2 F2 => ?_)
  refine c_iload_n (j := 1) C dX11_done_10 rfl ?_
  refine hv18 (show 1 ≤ iv2 a0 11 ∧ iv2 a0 11 ≤ 100 from W2.int t_a0 11) (show iv2 a0 11 = iv1 a0 11 from by rw [pq2]; exact up2_j (by decide)) (show iv1 a0 11 = iv a0 11 from by rw [pq1]; exact up2_j (by decide)) (show 1 ≤ iv2 a0 12 ∧ iv2 a0 12 ≤ 50 from W2.int t_a0 12) (show iv2 a0 12 = iv1 a0 12 from by rw [pq2]; exact up2_j (by decide)) (show iv1 a0 12 = iv a0 12 from by rw [pq1]; exact up2_j (by decide)) (show (-2147483648) ≤ iv2 a0 13 ∧ iv2 a0 13 ≤ 2147483647 from W2.int t_a0 13) (show iv2 a0 13 = iv1 a0 13 from by rw [pq2]; exact up2_j (by decide)) (show iv1 a0 13 = iv a0 13 from by rw [pq1]; exact up2_j (by decide)) (show (-2147483648) ≤ iv2 a0 14 ∧ iv2 a0 14 ≤ 2147483647 from W2.int t_a0 14) (show iv2 a0 14 = iv1 a0 14 from by rw [pq2]; exact up2_j (by decide)) (show iv1 a0 14 = iv a0 14 from by rw [pq1]; exact up2_j (by decide)) (show (-2147483648) ≤ iv2 a0 15 ∧ iv2 a0 15 ≤ 2147483647 from W2.int t_a0 15) (show iv2 a0 15 = iv1 a0 15 from by rw [pq2]; exact up2_j (by decide)) (show iv1 a0 15 = iv a0 15 from by rw [pq1]; exact up2_j (by decide)) (show (-2147483648) ≤ iv2 a0 16 ∧ iv2 a0 16 ≤ 2147483647 from W2.int t_a0 16) (show iv2 a0 16 = iv1 a0 16 from by rw [pq2]; exact up2_j (by decide)) (show iv1 a0 16 = iv a0 16 from by rw [pq1]; exact up2_j (by decide)) (fun ri1 ie1 ie2 ri2 ie3 ie4 ri3 ie5 ie6 ri4 ie7 ie8 ri5 ie9 ie10 ri6 ie11 ie12 => ?_)
  exact c_iret C dX11_done_11 rfl (by decide) (rom0 hph hph (by decide)) ⟨x, rfl, rfl, rfl, rfl, rfl, F2, W2, ⟨by omega, by omega⟩, (by omega), (ie1.trans ie2), (ie3.trans ie4), (ie5.trans ie6), (ie7.trans ie8), (ie9.trans ie10), (ie11.trans ie12)⟩
set_option maxHeartbeats 4000000 in
set_option maxRecDepth 100000 in
theorem C_refuse {l : Launch} {G : GT} {mi : Nat} {sk : Nat → Nat} {L : List Nat} {cl ln : Nat → Nat} {iv : Nat → Nat → Int} {rv : Nat → Nat → Option Nat}  {a0 : Nat} {x : Int} (hW : WT (g0 G) sk L cl ln iv rv) (hS : SKL sk L cl) (t_a0 : ty L cl a0 1) (h_x : -2147483648 ≤ x ∧ x ≤ 2147483647)  : Mc l G mi (Phi (g0 G) sk) PHM yX11_refuse cX11_refuse 2 (some .int) 0 [.ref a0, .int (iI x)] L cl ln iv rv 0 (fun v L2 cl2 ln2 iv2 rv2 => ∃ f : Int, v = some (.int (iI f)) ∧ L = L2 ∧ cl = cl2 ∧ ln = ln2 ∧ rv = rv2 ∧ fT [1] L cl iv rv iv2 rv2 ∧ WT (g0 G) sk L2 cl2 ln2 iv2 rv2 ∧ (-2147483648 ≤ f ∧ f ≤ 2147483647) ∧ (f = -1) ∧ iv2 a0 11 = iv a0 11 ∧ iv2 a0 12 = iv a0 12 ∧ iv2 a0 13 = iv a0 13 ∧ iv2 a0 14 = iv a0 14 ∧ iv2 a0 15 = iv a0 15 ∧ iv2 a0 16 = iv a0 16) := by
  refine Mc.mk (by decide) (Nat.le_of_ble_eq_true rfl) ?_
  intro p e s m args below meth c A C hM
  refine hv3 (Phi.le hW hS) (show XT L cl ln L cl ln from XT.refl) (show fT [1] L cl iv rv iv rv from fT.refl) (fun hph hX0 hF0 => ?_)
  refine c_aload_n (j := 0) (x := a0) C dX11_refuse_0 rfl ?_
  refine c_iload_n (j := 1) C dX11_refuse_1 rfl ?_
  refine c_put (z := x) (k := 17) C ck_12 dX11_refuse_2 w2_61 (by decide) rfl t_a0 rfl rfl (by decide) rfl (by rfl) (by rfl) (fun iv1 pq1 => ?_)
  refine hv2 (hW.puti pq1 t_a0 (show (-2147483648) ≤ x ∧ x ≤ 2147483647 by omega) rfl) (hF0.puti hX0 pq1 t_a0 rfl) (fun W1 F1 => ?_)
  refine c_aload_n (j := 0) (x := a0) C dX11_refuse_5 rfl ?_
  refine c_iconst C dX11_refuse_6 ?_
  refine c_put (z := (-1)) (k := 18) C ck_12 dX11_refuse_7 w2_62 (by decide) rfl t_a0 rfl rfl (by decide) rfl (by rfl) (by rfl) (fun iv2 pq2 => ?_)
  refine hv2 (W1.puti pq2 t_a0 ⟨by decide, by decide⟩ rfl) (F1.puti hX0 pq2 t_a0 rfl) (fun W2 F2 => ?_)
  refine c_iconst C dX11_refuse_10 ?_
  refine hv18 (show 1 ≤ iv2 a0 11 ∧ iv2 a0 11 ≤ 100 from W2.int t_a0 11) (show iv2 a0 11 = iv1 a0 11 from by rw [pq2]; exact up2_j (by decide)) (show iv1 a0 11 = iv a0 11 from by rw [pq1]; exact up2_j (by decide)) (show 1 ≤ iv2 a0 12 ∧ iv2 a0 12 ≤ 50 from W2.int t_a0 12) (show iv2 a0 12 = iv1 a0 12 from by rw [pq2]; exact up2_j (by decide)) (show iv1 a0 12 = iv a0 12 from by rw [pq1]; exact up2_j (by decide)) (show (-2147483648) ≤ iv2 a0 13 ∧ iv2 a0 13 ≤ 2147483647 from W2.int t_a0 13) (show iv2 a0 13 = iv1 a0 13 from by rw [pq2]; exact up2_j (by decide)) (show iv1 a0 13 = iv a0 13 from by rw [pq1]; exact up2_j (by decide)) (show (-2147483648) ≤ iv2 a0 14 ∧ iv2 a0 14 ≤ 2147483647 from W2.int t_a0 14) (show iv2 a0 14 = iv1 a0 14 from by rw [pq2]; exact up2_j (by decide)) (show iv1 a0 14 = iv a0 14 from by rw [pq1]; exact up2_j (by decide)) (show (-2147483648) ≤ iv2 a0 15 ∧ iv2 a0 15 ≤ 2147483647 from W2.int t_a0 15) (show iv2 a0 15 = iv1 a0 15 from by rw [pq2]; exact up2_j (by decide)) (show iv1 a0 15 = iv a0 15 from by rw [pq1]; exact up2_j (by decide)) (show (-2147483648) ≤ iv2 a0 16 ∧ iv2 a0 16 ≤ 2147483647 from W2.int t_a0 16) (show iv2 a0 16 = iv1 a0 16 from by rw [pq2]; exact up2_j (by decide)) (show iv1 a0 16 = iv a0 16 from by rw [pq1]; exact up2_j (by decide)) (fun ri1 ie1 ie2 ri2 ie3 ie4 ri3 ie5 ie6 ri4 ie7 ie8 ri5 ie9 ie10 ri6 ie11 ie12 => ?_)
  exact c_iret C dX11_refuse_11 rfl (by decide) (rom0 hph hph (by decide)) ⟨(-1), rfl, rfl, rfl, rfl, rfl, F2, W2, ⟨by decide, by decide⟩, (by omega), (ie1.trans ie2), (ie3.trans ie4), (ie5.trans ie6), (ie7.trans ie8), (ie9.trans ie10), (ie11.trans ie12)⟩
set_option maxHeartbeats 4000000 in
set_option maxRecDepth 100000 in
theorem C_refuseAt {l : Launch} {G : GT} {mi : Nat} {sk : Nat → Nat} {L : List Nat} {cl ln : Nat → Nat} {iv : Nat → Nat → Int} {rv : Nat → Nat → Option Nat}  {a0 : Nat} {x : Int} {y : Int} (hW : WT (g0 G) sk L cl ln iv rv) (hS : SKL sk L cl) (t_a0 : ty L cl a0 1) (h_x : -2147483648 ≤ x ∧ x ≤ 2147483647) (h_y : -2147483648 ≤ y ∧ y ≤ 2147483647)  : Mc l G mi (Phi (g0 G) sk) PHM yX11_refuseAt cX11_refuseAt 3 (some .int) 0 [.ref a0, .int (iI x), .int (iI y)] L cl ln iv rv 0 (fun v L2 cl2 ln2 iv2 rv2 => ∃ f : Int, v = some (.int (iI f)) ∧ L = L2 ∧ cl = cl2 ∧ ln = ln2 ∧ rv = rv2 ∧ fT [1] L cl iv rv iv2 rv2 ∧ WT (g0 G) sk L2 cl2 ln2 iv2 rv2 ∧ (-2147483648 ≤ f ∧ f ≤ 2147483647) ∧ (f = -1) ∧ iv2 a0 11 = iv a0 11 ∧ iv2 a0 12 = iv a0 12 ∧ iv2 a0 13 = iv a0 13 ∧ iv2 a0 14 = iv a0 14 ∧ iv2 a0 15 = iv a0 15 ∧ iv2 a0 16 = iv a0 16) := by
  refine Mc.mk (by decide) (Nat.le_of_ble_eq_true rfl) ?_
  intro p e s m args below meth c A C hM
  refine hv3 (Phi.le hW hS) (show XT L cl ln L cl ln from XT.refl) (show fT [1] L cl iv rv iv rv from fT.refl) (fun hph hX0 hF0 => ?_)
  refine c_aload_n (j := 0) (x := a0) C dX11_refuseAt_0 rfl ?_
  refine c_iload_n (j := 1) C dX11_refuseAt_1 rfl ?_
  refine c_put (z := x) (k := 17) C ck_12 dX11_refuseAt_2 w2_61 (by decide) rfl t_a0 rfl rfl (by decide) rfl (by rfl) (by rfl) (fun iv1 pq1 => ?_)
  refine hv2 (hW.puti pq1 t_a0 (show (-2147483648) ≤ x ∧ x ≤ 2147483647 by omega) rfl) (hF0.puti hX0 pq1 t_a0 rfl) (fun W1 F1 => ?_)
  refine c_aload_n (j := 0) (x := a0) C dX11_refuseAt_5 rfl ?_
  refine c_iload_n (j := 1) C dX11_refuseAt_6 rfl ?_
  refine c_bipush (z := 7) C dX11_refuseAt_7 (by decide) ?_
  refine c_icmp_eq (tgt := 18) C ⟨by omega, by omega⟩ ⟨by decide, by decide⟩ dX11_refuseAt_9 (by decide) (fun c1 => ?_) (fun c1 => ?_)
  · refine c_iload_n (j := 2) C dX11_refuseAt_18 rfl ?_
    refine c_goto (tgt := 23) C dX11_refuseAt_19 (by decide) ?_
    refine c_put (z := y) (k := 18) C ck_12 dX11_refuseAt_23 w2_62 (by decide) rfl t_a0 rfl rfl (by decide) rfl (by rfl) (by rfl) (fun iv2 pq2 => ?_)
    refine hv2 (W1.puti pq2 t_a0 (show (-2147483648) ≤ y ∧ y ≤ 2147483647 by omega) rfl) (F1.puti hX0 pq2 t_a0 rfl) (fun W2 F2 => ?_)
    refine c_iconst C dX11_refuseAt_26 ?_
    refine hv18 (show 1 ≤ iv2 a0 11 ∧ iv2 a0 11 ≤ 100 from W2.int t_a0 11) (show iv2 a0 11 = iv1 a0 11 from by rw [pq2]; exact up2_j (by decide)) (show iv1 a0 11 = iv a0 11 from by rw [pq1]; exact up2_j (by decide)) (show 1 ≤ iv2 a0 12 ∧ iv2 a0 12 ≤ 50 from W2.int t_a0 12) (show iv2 a0 12 = iv1 a0 12 from by rw [pq2]; exact up2_j (by decide)) (show iv1 a0 12 = iv a0 12 from by rw [pq1]; exact up2_j (by decide)) (show (-2147483648) ≤ iv2 a0 13 ∧ iv2 a0 13 ≤ 2147483647 from W2.int t_a0 13) (show iv2 a0 13 = iv1 a0 13 from by rw [pq2]; exact up2_j (by decide)) (show iv1 a0 13 = iv a0 13 from by rw [pq1]; exact up2_j (by decide)) (show (-2147483648) ≤ iv2 a0 14 ∧ iv2 a0 14 ≤ 2147483647 from W2.int t_a0 14) (show iv2 a0 14 = iv1 a0 14 from by rw [pq2]; exact up2_j (by decide)) (show iv1 a0 14 = iv a0 14 from by rw [pq1]; exact up2_j (by decide)) (show (-2147483648) ≤ iv2 a0 15 ∧ iv2 a0 15 ≤ 2147483647 from W2.int t_a0 15) (show iv2 a0 15 = iv1 a0 15 from by rw [pq2]; exact up2_j (by decide)) (show iv1 a0 15 = iv a0 15 from by rw [pq1]; exact up2_j (by decide)) (show (-2147483648) ≤ iv2 a0 16 ∧ iv2 a0 16 ≤ 2147483647 from W2.int t_a0 16) (show iv2 a0 16 = iv1 a0 16 from by rw [pq2]; exact up2_j (by decide)) (show iv1 a0 16 = iv a0 16 from by rw [pq1]; exact up2_j (by decide)) (fun ri1 ie1 ie2 ri2 ie3 ie4 ri3 ie5 ie6 ri4 ie7 ie8 ri5 ie9 ie10 ri6 ie11 ie12 => ?_)
    exact c_iret C dX11_refuseAt_27 rfl (by decide) (rom0 hph hph (by decide)) ⟨(-1), rfl, rfl, rfl, rfl, rfl, F2, W2, ⟨by decide, by decide⟩, (by omega), (ie1.trans ie2), (ie3.trans ie4), (ie5.trans ie6), (ie7.trans ie8), (ie9.trans ie10), (ie11.trans ie12)⟩
  · refine c_iload_n (j := 1) C dX11_refuseAt_12 rfl ?_
    refine c_bipush (z := 9) C dX11_refuseAt_13 (by decide) ?_
    refine c_icmp_ne (tgt := 22) C ⟨by omega, by omega⟩ ⟨by decide, by decide⟩ dX11_refuseAt_15 (by decide) (fun c2 => ?_) (fun c2 => ?_)
    · refine c_iconst C dX11_refuseAt_22 ?_
      refine c_put (z := (-1)) (k := 18) C ck_12 dX11_refuseAt_23 w2_62 (by decide) rfl t_a0 rfl rfl (by decide) rfl (by rfl) (by rfl) (fun iv3 pq3 => ?_)
      refine hv2 (W1.puti pq3 t_a0 ⟨by decide, by decide⟩ rfl) (F1.puti hX0 pq3 t_a0 rfl) (fun W3 F3 => ?_)
      refine c_iconst C dX11_refuseAt_26 ?_
      refine hv18 (show 1 ≤ iv3 a0 11 ∧ iv3 a0 11 ≤ 100 from W3.int t_a0 11) (show iv3 a0 11 = iv1 a0 11 from by rw [pq3]; exact up2_j (by decide)) (show iv1 a0 11 = iv a0 11 from by rw [pq1]; exact up2_j (by decide)) (show 1 ≤ iv3 a0 12 ∧ iv3 a0 12 ≤ 50 from W3.int t_a0 12) (show iv3 a0 12 = iv1 a0 12 from by rw [pq3]; exact up2_j (by decide)) (show iv1 a0 12 = iv a0 12 from by rw [pq1]; exact up2_j (by decide)) (show (-2147483648) ≤ iv3 a0 13 ∧ iv3 a0 13 ≤ 2147483647 from W3.int t_a0 13) (show iv3 a0 13 = iv1 a0 13 from by rw [pq3]; exact up2_j (by decide)) (show iv1 a0 13 = iv a0 13 from by rw [pq1]; exact up2_j (by decide)) (show (-2147483648) ≤ iv3 a0 14 ∧ iv3 a0 14 ≤ 2147483647 from W3.int t_a0 14) (show iv3 a0 14 = iv1 a0 14 from by rw [pq3]; exact up2_j (by decide)) (show iv1 a0 14 = iv a0 14 from by rw [pq1]; exact up2_j (by decide)) (show (-2147483648) ≤ iv3 a0 15 ∧ iv3 a0 15 ≤ 2147483647 from W3.int t_a0 15) (show iv3 a0 15 = iv1 a0 15 from by rw [pq3]; exact up2_j (by decide)) (show iv1 a0 15 = iv a0 15 from by rw [pq1]; exact up2_j (by decide)) (show (-2147483648) ≤ iv3 a0 16 ∧ iv3 a0 16 ≤ 2147483647 from W3.int t_a0 16) (show iv3 a0 16 = iv1 a0 16 from by rw [pq3]; exact up2_j (by decide)) (show iv1 a0 16 = iv a0 16 from by rw [pq1]; exact up2_j (by decide)) (fun ri7 ie13 ie14 ri8 ie15 ie16 ri9 ie17 ie18 ri10 ie19 ie20 ri11 ie21 ie22 ri12 ie23 ie24 => ?_)
      exact c_iret C dX11_refuseAt_27 rfl (by decide) (rom0 hph hph (by decide)) ⟨(-1), rfl, rfl, rfl, rfl, rfl, F3, W3, ⟨by decide, by decide⟩, (by omega), (ie13.trans ie14), (ie15.trans ie16), (ie17.trans ie18), (ie19.trans ie20), (ie21.trans ie22), (ie23.trans ie24)⟩
    · refine c_iload_n (j := 2) C dX11_refuseAt_18 rfl ?_
      refine c_goto (tgt := 23) C dX11_refuseAt_19 (by decide) ?_
      refine c_put (z := y) (k := 18) C ck_12 dX11_refuseAt_23 w2_62 (by decide) rfl t_a0 rfl rfl (by decide) rfl (by rfl) (by rfl) (fun iv4 pq4 => ?_)
      refine hv2 (W1.puti pq4 t_a0 (show (-2147483648) ≤ y ∧ y ≤ 2147483647 by omega) rfl) (F1.puti hX0 pq4 t_a0 rfl) (fun W4 F4 => ?_)
      refine c_iconst C dX11_refuseAt_26 ?_
      refine hv18 (show 1 ≤ iv4 a0 11 ∧ iv4 a0 11 ≤ 100 from W4.int t_a0 11) (show iv4 a0 11 = iv1 a0 11 from by rw [pq4]; exact up2_j (by decide)) (show iv1 a0 11 = iv a0 11 from by rw [pq1]; exact up2_j (by decide)) (show 1 ≤ iv4 a0 12 ∧ iv4 a0 12 ≤ 50 from W4.int t_a0 12) (show iv4 a0 12 = iv1 a0 12 from by rw [pq4]; exact up2_j (by decide)) (show iv1 a0 12 = iv a0 12 from by rw [pq1]; exact up2_j (by decide)) (show (-2147483648) ≤ iv4 a0 13 ∧ iv4 a0 13 ≤ 2147483647 from W4.int t_a0 13) (show iv4 a0 13 = iv1 a0 13 from by rw [pq4]; exact up2_j (by decide)) (show iv1 a0 13 = iv a0 13 from by rw [pq1]; exact up2_j (by decide)) (show (-2147483648) ≤ iv4 a0 14 ∧ iv4 a0 14 ≤ 2147483647 from W4.int t_a0 14) (show iv4 a0 14 = iv1 a0 14 from by rw [pq4]; exact up2_j (by decide)) (show iv1 a0 14 = iv a0 14 from by rw [pq1]; exact up2_j (by decide)) (show (-2147483648) ≤ iv4 a0 15 ∧ iv4 a0 15 ≤ 2147483647 from W4.int t_a0 15) (show iv4 a0 15 = iv1 a0 15 from by rw [pq4]; exact up2_j (by decide)) (show iv1 a0 15 = iv a0 15 from by rw [pq1]; exact up2_j (by decide)) (show (-2147483648) ≤ iv4 a0 16 ∧ iv4 a0 16 ≤ 2147483647 from W4.int t_a0 16) (show iv4 a0 16 = iv1 a0 16 from by rw [pq4]; exact up2_j (by decide)) (show iv1 a0 16 = iv a0 16 from by rw [pq1]; exact up2_j (by decide)) (fun ri13 ie25 ie26 ri14 ie27 ie28 ri15 ie29 ie30 ri16 ie31 ie32 ri17 ie33 ie34 ri18 ie35 ie36 => ?_)
      exact c_iret C dX11_refuseAt_27 rfl (by decide) (rom0 hph hph (by decide)) ⟨(-1), rfl, rfl, rfl, rfl, rfl, F4, W4, ⟨by decide, by decide⟩, (by omega), (ie25.trans ie26), (ie27.trans ie28), (ie29.trans ie30), (ie31.trans ie32), (ie33.trans ie34), (ie35.trans ie36)⟩
set_option maxHeartbeats 4000000 in
set_option maxRecDepth 100000 in
theorem C_feedFour {l : Launch} {G : GT} {mi : Nat} {sk : Nat → Nat} {L : List Nat} {cl ln : Nat → Nat} {iv : Nat → Nat → Int} {rv : Nat → Nat → Option Nat}  {a0 : Nat} {x : Int} (hW : WT (g0 G) sk L cl ln iv rv) (hS : SKL sk L cl) (t_a0 : ty L cl a0 1) (h_x : -2147483648 ≤ x ∧ x ≤ 2147483647) (hsz : iv (sk 2) 2 + 4 ≤ 3000) : Mc l G mi (Phi (g0 G) sk) PHM yX11_feedFour cX11_feedFour 3 none 3 [.ref a0, .int (iI x)] L cl ln iv rv 0 (fun v L2 cl2 ln2 iv2 rv2 => v = none ∧ XT L cl ln L2 cl2 ln2 ∧ fT [2, 32] L cl iv rv iv2 rv2 ∧ WT (g0 G) sk L2 cl2 ln2 iv2 rv2 ∧ (iv2 (sk 2) 2 = iv (sk 2) 2 + 4 ∧ ∀ ss, CT iv rv (sk 2) ss → CT iv2 rv2 (sk 2) (fdp ss (iv (sk 2) 2).toNat x 4))) := by
  refine Mc.mk (by decide) (Nat.le_of_ble_eq_true rfl) ?_
  intro p e s m args below meth c A C hM
  refine hv14 (Phi.le hW hS) (show ty L cl (sk 2) 2 from ⟨(hS 2 rfl).1, by rw [(hS 2 rfl).2]; rfl⟩) (show ty L cl (sk 3) 3 from ⟨(hS 3 rfl).1, by rw [(hS 3 rfl).2]; rfl⟩) (show ty L cl (sk 4) 4 from ⟨(hS 4 rfl).1, by rw [(hS 4 rfl).2]; rfl⟩) (show ty L cl (sk 5) 5 from ⟨(hS 5 rfl).1, by rw [(hS 5 rfl).2]; rfl⟩) (show ty L cl (sk 13) 13 from ⟨(hS 13 rfl).1, by rw [(hS 13 rfl).2]; rfl⟩) (show ty L cl (sk 14) 14 from ⟨(hS 14 rfl).1, by rw [(hS 14 rfl).2]; rfl⟩) (show ty L cl (sk 15) 15 from ⟨(hS 15 rfl).1, by rw [(hS 15 rfl).2]; rfl⟩) (show ty L cl (sk 16) 16 from ⟨(hS 16 rfl).1, by rw [(hS 16 rfl).2]; rfl⟩) (show ty L cl (sk 17) 17 from ⟨(hS 17 rfl).1, by rw [(hS 17 rfl).2]; rfl⟩) (show ty L cl (sk 22) 22 from ⟨(hS 22 rfl).1, by rw [(hS 22 rfl).2]; rfl⟩) (show ty L cl (sk 23) 23 from ⟨(hS 23 rfl).1, by rw [(hS 23 rfl).2]; rfl⟩) (show XT L cl ln L cl ln from XT.refl) (show fT [2, 32] L cl iv rv iv rv from fT.refl) (fun hph tsk2 tsk3 tsk4 tsk5 tsk13 tsk14 tsk15 tsk16 tsk17 tsk22 tsk23 hX0 hF0 => ?_)
  have ri1 : 0 ≤ iv (sk 2) 2 ∧ iv (sk 2) 2 ≤ 3000 := hW.int tsk2 2
  refine c_bipush (z := 24) C dX11_feedFour_0 (by decide) ?_
  refine c_istore_n (lv2 := [(2, .int (iI 24)), (0, .ref a0), (1, .int (iI x))]) C dX11_feedFour_2 (by decide) rfl ?_
  have Lp1 : ∀ (nn : Nat) (k : Int) (Lb1 : List Nat) (clb1 lnb1 : Nat → Nat) (ivb1 : Nat → Nat → Int) (rvb1 : Nat → Nat → Option Nat) , k + 9 < (nn : Int) → XT L cl ln Lb1 clb1 lnb1 → WT (g0 G) sk Lb1 clb1 lnb1 ivb1 rvb1 → fT [2, 32] L cl iv rv ivb1 rvb1 → (-8 ≤ k ∧ k ≤ 24) → (8 * ivb1 (sk 2) 2 = 8 * iv (sk 2) 2 + 24 - k) → (∀ ss, CT iv rv (sk 2) ss → CT ivb1 rvb1 (sk 2) (fdp ss (iv (sk 2) 2).toNat x (ivb1 (sk 2) 2 - iv (sk 2) 2).toNat)) → cw p l e 3 ((PHM) + 0 - ((Phi (g0 G) sk) ln rv)) s m args below meth c G A 3 (MQ below (Qu G A (Qp G (Phi (g0 G) sk) ((Phi (g0 G) sk) ln rv) 0 (fun v L2 cl2 ln2 iv2 rv2 => v = none ∧ XT L cl ln L2 cl2 ln2 ∧ fT [2, 32] L cl iv rv iv2 rv2 ∧ WT (g0 G) sk L2 cl2 ln2 iv2 rv2 ∧ (iv2 (sk 2) 2 = iv (sk 2) 2 + 4 ∧ ∀ ss, CT iv rv (sk 2) ss → CT iv2 rv2 (sk 2) (fdp ss (iv (sk 2) 2).toNat x 4))))) args s (((PHM) + 0 - ((Phi (g0 G) sk) ln rv)) / 16) ((PHM) + 0 - ((Phi (g0 G) sk) ln rv)) A) (Phi (g0 G) sk) ((Phi (g0 G) sk) ln rv) Lb1 clb1 lnb1 ivb1 rvb1 0 3 [(2, .int (iI k)), (0, .ref a0), (1, .int (iI x))] [] := by
    intro nn
    induction nn with
    | zero =>
      intro  k Lb1 clb1 lnb1 ivb1 rvb1 hm Xb1 Wb1 Fb1  hk hz hct
      have skb1 := Xb1.skl hS
      exact absurd hm (by omega)
    | succ nn ih1 =>
      intro  k Lb1 clb1 lnb1 ivb1 rvb1 hm Xb1 Wb1 Fb1  hk hz hct
      have skb1 := Xb1.skl hS
      refine c_iload_n (j := 0) C dX11_feedFour_3 rfl ?_
      refine c_if_lt (tgt := 27) C (r32_c (lo := (-8)) (hi := 24) hk.1 hk.2 (by decide) (by decide)) dX11_feedFour_4 (by decide) (fun c1 => ?_) (fun c1 => ?_)
      · have ty1 := Xb1.ty tsk2
        refine hv2 (show 0 ≤ ivb1 (sk 2) 2 ∧ ivb1 (sk 2) 2 ≤ 3000 from Wb1.int ty1 2) (Phi.le Wb1 skb1) (fun ri2 pl1 => ?_)
        exact c_vret C dX11_feedFour_27 rfl (by decide) (rom0 hph pl1 (by decide)) ⟨rfl, Xb1, Fb1, Wb1, ⟨by omega, fun ss hs => by have q := hct ss hs; rw [show (ivb1 (sk 2) 2 - iv (sk 2) 2).toNat = 4 by omega] at q; exact q⟩⟩
      · refine c_aload_n (j := 1) (x := a0) C dX11_feedFour_7 rfl ?_
        have ty2 := Xb1.ty t_a0
        obtain ⟨rb1, rq1, trb1⟩ := Wb1.ref ty2 0 rfl rfl rfl
        have erb1 := Wb1.sk trb1 (by decide) rfl
        subst erb1
        refine c_getr (k := 0) C ck_12 dX11_feedFour_8 w2_44 (by decide) ty2 rfl rfl (by decide) rfl rq1 ?_
        refine c_st (st2 := [.ref (sk 2)]) rfl ?_
        refine c_iload_n (j := 2) C dX11_feedFour_11 rfl ?_
        refine c_iload_n (j := 0) C dX11_feedFour_12 rfl ?_
        obtain ⟨zz1, hzz1, ezz1⟩ := iI_of (((iI x).toUInt32 >>> ((iI k).toUInt32 &&& Int32.toUInt32 31)).toInt32)
        refine c_iushr (w := iI zz1) C dX11_feedFour_13 ezz1 ?_
        refine c_sipush (z := 255) C dX11_feedFour_14 (by decide) ?_
        obtain ⟨zz2, hzz2, ezz2⟩ := iI_of (iI zz1 &&& iI 255)
        refine c_iand (w := iI zz2) C dX11_feedFour_17 ezz2 ?_
        refine hv2 (Xb1.ty tsk2) (Phi.le Wb1 skb1) (fun ty3 pl2 => ?_)
        have ri3 : 0 ≤ ivb1 (sk 2) 2 ∧ ivb1 (sk 2) 2 ≤ 3000 := Wb1.int ty3 2
        refine d_callV (As := [.int (iI zz2)]) (rest := []) C hM (C_add_2 (a0 := (sk 2)) (x := zz2) Wb1 skb1 ty3 (by omega) ) dX11_feedFour_18 kV_X11_112 rfl ty3 rfl rfl (by decide) ck_2 rfl (Nat.le_of_ble_eq_true rfl) ⟨(Nat.le_of_ble_eq_true rfl), (Nat.le_of_ble_eq_true rfl)⟩ hph pl2 (show 0 + 0 = 0 from rfl) (by decide) (fun rh1 Lh1 clh1 lnh1 ivh1 rvh1 h1 => ?_)
        obtain ⟨rfl, xl1, fl1, W1, exf1⟩ := h1
        refine hv13 (Fb1.call Xb1 fl1 rfl) (Xb1.ty tsk3) (Xb1.ty tsk4) (Xb1.ty tsk5) (Xb1.ty tsk13) (Xb1.ty tsk14) (Xb1.ty tsk15) (Xb1.ty tsk16) (Xb1.ty tsk17) (Xb1.ty tsk22) (Xb1.ty tsk23) (Xb1.trans xl1) (xl1.skl skb1) (fun F1 ty4 ty5 ty6 ty7 ty8 ty9 ty10 ty11 ty12 ty13 X1 sk1 => ?_)
        refine c_st (st2 := []) rfl ?_
        refine hv2 (xl1.ty ty3) (show ((ivh1 (sk 2) 2 = ivb1 (sk 2) 2 ∧ ivb1 (sk 2) 2 = 3000) ∨ (ivh1 (sk 2) 2 = ivb1 (sk 2) 2 + 1 ∧ ivb1 (sk 2) 2 < 3000)) ∧ ∀ ss, CT ivb1 rvb1 (sk 2) ss → ivb1 (sk 2) 2 < 3000 → CT ivh1 rvh1 (sk 2) (va_up ss (ivb1 (sk 2) 2).toNat zz2) from exf1) (fun ty14 gf1 => ?_)
        have ri4 : 0 ≤ ivh1 (sk 2) 2 ∧ ivh1 (sk 2) 2 ≤ 3000 := W1.int ty14 2
        refine c_iinc (z := k) (j := 0) (lv2 := [(2, .int (iI (k + (-8)))), (0, .ref a0), (1, .int (iI x))]) C dX11_feedFour_21 rfl (by decide) rfl ?_
        refine c_goto (tgt := 3) C dX11_feedFour_24 (by decide) ?_
        refine c_lv (lv2 := [(2, .int (iI (k + (-8)))), (0, .ref a0), (1, .int (iI x))]) [0, 1, 2] rfl ?_
        exact ih1  (k + (-8)) _ _ _ _ _ (by omega) X1 W1 F1  (by omega) (by show 8 * ivh1 (sk 2) 2 = 8 * iv (sk 2) 2 + 24 - (k + (-8)); omega) (fun ss hs => fdp_step (gf1.2 _ (hct ss hs) (by omega)) (by omega) (by omega) (byx_of (by omega) ezz1 ezz2 hzz2))
  refine c_lv (lv2 := [(2, .int (iI 24)), (0, .ref a0), (1, .int (iI x))]) [0, 1, 2] rfl ?_
  exact Lp1 35 24 _ _ _ _ _ (by omega) hX0 hW hF0  (by omega) (by show 8 * iv (sk 2) 2 = 8 * iv (sk 2) 2 + 24 - 24; omega) (fun ss hs => by rw [show (iv (sk 2) 2 - iv (sk 2) 2).toNat = 0 by omega]; exact hs)
set_option maxHeartbeats 4000000 in
set_option maxRecDepth 100000 in
theorem C_feed {l : Launch} {G : GT} {mi : Nat} {sk : Nat → Nat} {L : List Nat} {cl ln : Nat → Nat} {iv : Nat → Nat → Int} {rv : Nat → Nat → Option Nat}  {a0 : Nat} {x1 : Int} {x2 : Int} {x3 : Int} {x4 : Int} {x5 : Int} (hW : WT (g0 G) sk L cl ln iv rv) (hS : SKL sk L cl) (t_a0 : ty L cl a0 1) (h_x1 : -2147483648 ≤ x1 ∧ x1 ≤ 2147483647) (h_x2 : -2147483648 ≤ x2 ∧ x2 ≤ 2147483647) (h_x3 : -2147483648 ≤ x3 ∧ x3 ≤ 2147483647) (h_x4 : -2147483648 ≤ x4 ∧ x4 ≤ 2147483647) (h_x5 : -2147483648 ≤ x5 ∧ x5 ≤ 2147483647)  : Mc l G mi (Phi (g0 G) sk) PHM yX11_feed cX11_feed 6 (some .int) 4 [.ref a0, .int (iI x1), .int (iI x2), .int (iI x3), .int (iI x4), .int (iI x5)] L cl ln iv rv 0 (fun v L2 cl2 ln2 iv2 rv2 => ∃ f : Int, v = some (.int (iI f)) ∧ XT L cl ln L2 cl2 ln2 ∧ fT [1, 2, 32] L cl iv rv iv2 rv2 ∧ WT (g0 G) sk L2 cl2 ln2 iv2 rv2 ∧ (-2147483648 ≤ f ∧ f ≤ 2147483647) ∧ (((f = -1 ∧ 3000 < iv (sk 2) 2 + 20 ∧ iv2 (sk 2) 2 = iv (sk 2) 2) ∨ (f = iv2 (sk 2) 2 ∧ iv2 (sk 2) 2 = iv (sk 2) 2 + 20)) ∧ ∀ ss, CT iv rv (sk 2) ss → (iv (sk 2) 2 ≤ 2980 → CT iv2 rv2 (sk 2) (fd5 ss (iv (sk 2) 2).toNat x1 x2 x3 x4 x5)) ∧ (2980 < iv (sk 2) 2 → CT iv2 rv2 (sk 2) ss)) ∧ iv2 a0 11 = iv a0 11 ∧ iv2 a0 12 = iv a0 12 ∧ iv2 a0 13 = iv a0 13 ∧ iv2 a0 14 = iv a0 14 ∧ iv2 a0 15 = iv a0 15 ∧ iv2 a0 16 = iv a0 16 ∧ rv2 a0 9 = rv a0 9 ∧ rv2 a0 10 = rv a0 10) := by
  refine Mc.mk (by decide) (Nat.le_of_ble_eq_true rfl) ?_
  intro p e s m args below meth c A C hM
  refine hv14 (Phi.le hW hS) (show ty L cl (sk 2) 2 from ⟨(hS 2 rfl).1, by rw [(hS 2 rfl).2]; rfl⟩) (show ty L cl (sk 3) 3 from ⟨(hS 3 rfl).1, by rw [(hS 3 rfl).2]; rfl⟩) (show ty L cl (sk 4) 4 from ⟨(hS 4 rfl).1, by rw [(hS 4 rfl).2]; rfl⟩) (show ty L cl (sk 5) 5 from ⟨(hS 5 rfl).1, by rw [(hS 5 rfl).2]; rfl⟩) (show ty L cl (sk 13) 13 from ⟨(hS 13 rfl).1, by rw [(hS 13 rfl).2]; rfl⟩) (show ty L cl (sk 14) 14 from ⟨(hS 14 rfl).1, by rw [(hS 14 rfl).2]; rfl⟩) (show ty L cl (sk 15) 15 from ⟨(hS 15 rfl).1, by rw [(hS 15 rfl).2]; rfl⟩) (show ty L cl (sk 16) 16 from ⟨(hS 16 rfl).1, by rw [(hS 16 rfl).2]; rfl⟩) (show ty L cl (sk 17) 17 from ⟨(hS 17 rfl).1, by rw [(hS 17 rfl).2]; rfl⟩) (show ty L cl (sk 22) 22 from ⟨(hS 22 rfl).1, by rw [(hS 22 rfl).2]; rfl⟩) (show ty L cl (sk 23) 23 from ⟨(hS 23 rfl).1, by rw [(hS 23 rfl).2]; rfl⟩) (show XT L cl ln L cl ln from XT.refl) (show fT [1, 2, 32] L cl iv rv iv rv from fT.refl) (fun hph tsk2 tsk3 tsk4 tsk5 tsk13 tsk14 tsk15 tsk16 tsk17 tsk22 tsk23 hX0 hF0 => ?_)
  have ri1 : 0 ≤ iv (sk 2) 2 ∧ iv (sk 2) 2 ≤ 3000 := hW.int tsk2 2
  refine c_aload_n (j := 0) (x := a0) C dX11_feed_0 rfl ?_
  obtain ⟨rb1, rq1, trb1⟩ := hW.ref t_a0 0 rfl rfl rfl
  have erb1 := hW.sk trb1 (by decide) rfl
  subst erb1
  refine c_getr (k := 0) C ck_12 dX11_feed_1 w2_44 (by decide) t_a0 rfl rfl (by decide) rfl rq1 ?_
  refine c_st (st2 := [.ref (sk 2)]) rfl ?_
  refine c_get (k := 2) C ck_2 dX11_feed_4 w1_44 (by decide) tsk2 rfl rfl (by decide) rfl ?_
  refine c_bipush (z := 20) C dX11_feed_7 (by decide) ?_
  refine c_iadd C dX11_feed_9 ?_
  refine c_sipush (z := 3000) C dX11_feed_10 (by decide) ?_
  refine c_icmp_le (tgt := 23) C ⟨by omega, by omega⟩ ⟨by decide, by decide⟩ dX11_feed_13 (by decide) (fun c1 => ?_) (fun c1 => ?_)
  · refine c_aload_n (j := 0) (x := a0) C dX11_feed_23 rfl ?_
    refine c_iload_n (j := 1) C dX11_feed_24 rfl ?_
    refine d_callV (As := [.int (iI x1)]) (rest := []) C hM (C_feedFour (a0 := a0) (x := x1) hW hS t_a0 (by omega) (by show iv (sk 2) 2 + 4 ≤ 3000; omega)) dX11_feed_25 kV_X11_106 rfl t_a0 rfl rfl (by decide) ck_12 rfl (Nat.le_of_ble_eq_true rfl) ⟨(Nat.le_of_ble_eq_true rfl), (Nat.le_of_ble_eq_true rfl)⟩ hph hph (show 0 + 0 = 0 from rfl) (by decide) (fun rh1 Lh1 clh1 lnh1 ivh1 rvh1 h1 => ?_)
    obtain ⟨rfl, xl1, fl1, W1, exf1⟩ := h1
    refine hv3 (hF0.call hX0 fl1 rfl) (hX0.trans xl1) (xl1.skl hS) (fun F1 X1 sk1 => ?_)
    refine c_st (st2 := []) rfl ?_
    refine hv2 (xl1.ty tsk2) (show ivh1 (sk 2) 2 = iv (sk 2) 2 + 4 ∧ ∀ ss, CT iv rv (sk 2) ss → CT ivh1 rvh1 (sk 2) (fdp ss (iv (sk 2) 2).toNat x1 4) from exf1) (fun ty1 gf1 => ?_)
    have ri2 : 0 ≤ ivh1 (sk 2) 2 ∧ ivh1 (sk 2) 2 ≤ 3000 := W1.int ty1 2
    refine c_aload_n (j := 0) (x := a0) C dX11_feed_28 rfl ?_
    refine c_iload_n (j := 2) C dX11_feed_29 rfl ?_
    refine hv2 (xl1.ty t_a0) (Phi.le W1 sk1) (fun ty2 pl1 => ?_)
    refine d_callV (As := [.int (iI x2)]) (rest := []) C hM (C_feedFour (a0 := a0) (x := x2) W1 sk1 ty2 (by omega) (by show ivh1 (sk 2) 2 + 4 ≤ 3000; omega)) dX11_feed_30 kV_X11_106 rfl ty2 rfl rfl (by decide) ck_12 rfl (Nat.le_of_ble_eq_true rfl) ⟨(Nat.le_of_ble_eq_true rfl), (Nat.le_of_ble_eq_true rfl)⟩ hph pl1 (show 0 + 0 = 0 from rfl) (by decide) (fun rh2 Lh2 clh2 lnh2 ivh2 rvh2 h2 => ?_)
    obtain ⟨rfl, xl2, fl2, W2, exf2⟩ := h2
    refine hv13 (F1.call X1 fl2 rfl) (xl1.ty tsk3) (xl1.ty tsk4) (xl1.ty tsk5) (xl1.ty tsk13) (xl1.ty tsk14) (xl1.ty tsk15) (xl1.ty tsk16) (xl1.ty tsk17) (xl1.ty tsk22) (xl1.ty tsk23) (X1.trans xl2) (xl2.skl sk1) (fun F2 ty3 ty4 ty5 ty6 ty7 ty8 ty9 ty10 ty11 ty12 X2 sk2 => ?_)
    refine c_st (st2 := []) rfl ?_
    refine hv2 (xl2.ty ty1) (show ivh2 (sk 2) 2 = ivh1 (sk 2) 2 + 4 ∧ ∀ ss, CT ivh1 rvh1 (sk 2) ss → CT ivh2 rvh2 (sk 2) (fdp ss (ivh1 (sk 2) 2).toNat x2 4) from exf2) (fun ty13 gf2 => ?_)
    have ri3 : 0 ≤ ivh2 (sk 2) 2 ∧ ivh2 (sk 2) 2 ≤ 3000 := W2.int ty13 2
    refine c_aload_n (j := 0) (x := a0) C dX11_feed_33 rfl ?_
    refine c_iload_n (j := 3) C dX11_feed_34 rfl ?_
    refine hv2 (xl2.ty ty2) (Phi.le W2 sk2) (fun ty14 pl2 => ?_)
    refine d_callV (As := [.int (iI x3)]) (rest := []) C hM (C_feedFour (a0 := a0) (x := x3) W2 sk2 ty14 (by omega) (by show ivh2 (sk 2) 2 + 4 ≤ 3000; omega)) dX11_feed_35 kV_X11_106 rfl ty14 rfl rfl (by decide) ck_12 rfl (Nat.le_of_ble_eq_true rfl) ⟨(Nat.le_of_ble_eq_true rfl), (Nat.le_of_ble_eq_true rfl)⟩ hph pl2 (show 0 + 0 = 0 from rfl) (by decide) (fun rh3 Lh3 clh3 lnh3 ivh3 rvh3 h3 => ?_)
    obtain ⟨rfl, xl3, fl3, W3, exf3⟩ := h3
    refine hv13 (F2.call X2 fl3 rfl) (xl2.ty ty3) (xl2.ty ty4) (xl2.ty ty5) (xl2.ty ty6) (xl2.ty ty7) (xl2.ty ty8) (xl2.ty ty9) (xl2.ty ty10) (xl2.ty ty11) (xl2.ty ty12) (X2.trans xl3) (xl3.skl sk2) (fun F3 ty15 ty16 ty17 ty18 ty19 ty20 ty21 ty22 ty23 ty24 X3 sk3 => ?_)
    refine c_st (st2 := []) rfl ?_
    refine hv2 (xl3.ty ty13) (show ivh3 (sk 2) 2 = ivh2 (sk 2) 2 + 4 ∧ ∀ ss, CT ivh2 rvh2 (sk 2) ss → CT ivh3 rvh3 (sk 2) (fdp ss (ivh2 (sk 2) 2).toNat x3 4) from exf3) (fun ty25 gf3 => ?_)
    have ri4 : 0 ≤ ivh3 (sk 2) 2 ∧ ivh3 (sk 2) 2 ≤ 3000 := W3.int ty25 2
    refine c_aload_n (j := 0) (x := a0) C dX11_feed_38 rfl ?_
    refine c_iload (j := 4) C dX11_feed_39 rfl ?_
    refine hv2 (xl3.ty ty14) (Phi.le W3 sk3) (fun ty26 pl3 => ?_)
    refine d_callV (As := [.int (iI x4)]) (rest := []) C hM (C_feedFour (a0 := a0) (x := x4) W3 sk3 ty26 (by omega) (by show ivh3 (sk 2) 2 + 4 ≤ 3000; omega)) dX11_feed_41 kV_X11_106 rfl ty26 rfl rfl (by decide) ck_12 rfl (Nat.le_of_ble_eq_true rfl) ⟨(Nat.le_of_ble_eq_true rfl), (Nat.le_of_ble_eq_true rfl)⟩ hph pl3 (show 0 + 0 = 0 from rfl) (by decide) (fun rh4 Lh4 clh4 lnh4 ivh4 rvh4 h4 => ?_)
    obtain ⟨rfl, xl4, fl4, W4, exf4⟩ := h4
    refine hv13 (F3.call X3 fl4 rfl) (xl3.ty ty15) (xl3.ty ty16) (xl3.ty ty17) (xl3.ty ty18) (xl3.ty ty19) (xl3.ty ty20) (xl3.ty ty21) (xl3.ty ty22) (xl3.ty ty23) (xl3.ty ty24) (X3.trans xl4) (xl4.skl sk3) (fun F4 ty27 ty28 ty29 ty30 ty31 ty32 ty33 ty34 ty35 ty36 X4 sk4 => ?_)
    refine c_st (st2 := []) rfl ?_
    refine hv2 (xl4.ty ty25) (show ivh4 (sk 2) 2 = ivh3 (sk 2) 2 + 4 ∧ ∀ ss, CT ivh3 rvh3 (sk 2) ss → CT ivh4 rvh4 (sk 2) (fdp ss (ivh3 (sk 2) 2).toNat x4 4) from exf4) (fun ty37 gf4 => ?_)
    have ri5 : 0 ≤ ivh4 (sk 2) 2 ∧ ivh4 (sk 2) 2 ≤ 3000 := W4.int ty37 2
    refine c_aload_n (j := 0) (x := a0) C dX11_feed_44 rfl ?_
    refine c_iload (j := 5) C dX11_feed_45 rfl ?_
    refine hv2 (xl4.ty ty26) (Phi.le W4 sk4) (fun ty38 pl4 => ?_)
    refine d_callV (As := [.int (iI x5)]) (rest := []) C hM (C_feedFour (a0 := a0) (x := x5) W4 sk4 ty38 (by omega) (by show ivh4 (sk 2) 2 + 4 ≤ 3000; omega)) dX11_feed_47 kV_X11_106 rfl ty38 rfl rfl (by decide) ck_12 rfl (Nat.le_of_ble_eq_true rfl) ⟨(Nat.le_of_ble_eq_true rfl), (Nat.le_of_ble_eq_true rfl)⟩ hph pl4 (show 0 + 0 = 0 from rfl) (by decide) (fun rh5 Lh5 clh5 lnh5 ivh5 rvh5 h5 => ?_)
    obtain ⟨rfl, xl5, fl5, W5, exf5⟩ := h5
    refine hv13 (F4.call X4 fl5 rfl) (xl4.ty ty27) (xl4.ty ty28) (xl4.ty ty29) (xl4.ty ty30) (xl4.ty ty31) (xl4.ty ty32) (xl4.ty ty33) (xl4.ty ty34) (xl4.ty ty35) (xl4.ty ty36) (X4.trans xl5) (xl5.skl sk4) (fun F5 ty39 ty40 ty41 ty42 ty43 ty44 ty45 ty46 ty47 ty48 X5 sk5 => ?_)
    refine c_st (st2 := []) rfl ?_
    refine hv2 (xl5.ty ty37) (show ivh5 (sk 2) 2 = ivh4 (sk 2) 2 + 4 ∧ ∀ ss, CT ivh4 rvh4 (sk 2) ss → CT ivh5 rvh5 (sk 2) (fdp ss (ivh4 (sk 2) 2).toNat x5 4) from exf5) (fun ty49 gf5 => ?_)
    have ri6 : 0 ≤ ivh5 (sk 2) 2 ∧ ivh5 (sk 2) 2 ≤ 3000 := W5.int ty49 2
    refine c_aload_n (j := 0) (x := a0) C dX11_feed_50 rfl ?_
    refine c_aload_n (j := 0) (x := a0) C dX11_feed_51 rfl ?_
    refine hv2 (xl5.ty ty38) (show rvh1 a0 0 = rv a0 0 from (fl1.r t_a0 rfl 0)) (fun ty50 re1 => ?_)
    rw [rq1] at re1
    have re2 : rvh2 a0 0 = rvh1 a0 0 := (fl2.r ty2 rfl 0)
    rw [re1] at re2
    have re3 : rvh3 a0 0 = rvh2 a0 0 := (fl3.r ty14 rfl 0)
    rw [re2] at re3
    have re4 : rvh4 a0 0 = rvh3 a0 0 := (fl4.r ty26 rfl 0)
    rw [re3] at re4
    have re5 : rvh5 a0 0 = rvh4 a0 0 := (fl5.r ty38 rfl 0)
    rw [re4] at re5
    refine c_getr (k := 0) C ck_12 dX11_feed_52 w2_44 (by decide) ty50 rfl rfl (by decide) rfl re5 ?_
    refine c_st (st2 := [.ref (sk 2), .ref a0]) rfl ?_
    refine c_get (k := 2) C ck_2 dX11_feed_55 w1_44 (by decide) ty49 rfl rfl (by decide) rfl ?_
    have pl5 := Phi.le W5 sk5
    refine d_callV (As := [.int (iI (ivh5 (sk 2) 2))]) (rest := []) C hM (C_done (a0 := a0) (x := ivh5 (sk 2) 2) W5 sk5 ty50 (by omega) ) dX11_feed_58 kV_X11_109 rfl ty50 rfl rfl (by decide) ck_12 rfl (Nat.le_of_ble_eq_true rfl) ⟨(Nat.le_of_ble_eq_true rfl), (Nat.le_of_ble_eq_true rfl)⟩ hph pl5 (show 0 + 0 = 0 from rfl) (by decide) (fun rh6 Lh6 clh6 lnh6 ivh6 rvh6 h6 => ?_)
    obtain ⟨f6, rfl, rfl, rfl, rfl, rfl, fl6, W6, rgf6, exf6, kp11f6, kp12f6, kp13f6, kp14f6, kp15f6, kp16f6⟩ := h6
    refine hv37 (show 1 ≤ ivh5 a0 11 ∧ ivh5 a0 11 ≤ 100 from W5.int ty50 11) (show ivh5 a0 11 = ivh4 a0 11 from fl5.i ty38 rfl 11) (show ivh4 a0 11 = ivh3 a0 11 from fl4.i ty26 rfl 11) (show ivh3 a0 11 = ivh2 a0 11 from fl3.i ty14 rfl 11) (show ivh2 a0 11 = ivh1 a0 11 from fl2.i ty2 rfl 11) (show ivh1 a0 11 = iv a0 11 from fl1.i t_a0 rfl 11) (show 1 ≤ ivh5 a0 12 ∧ ivh5 a0 12 ≤ 50 from W5.int ty50 12) (show ivh5 a0 12 = ivh4 a0 12 from fl5.i ty38 rfl 12) (show ivh4 a0 12 = ivh3 a0 12 from fl4.i ty26 rfl 12) (show ivh3 a0 12 = ivh2 a0 12 from fl3.i ty14 rfl 12) (show ivh2 a0 12 = ivh1 a0 12 from fl2.i ty2 rfl 12) (show ivh1 a0 12 = iv a0 12 from fl1.i t_a0 rfl 12) (show (-2147483648) ≤ ivh5 a0 13 ∧ ivh5 a0 13 ≤ 2147483647 from W5.int ty50 13) (show ivh5 a0 13 = ivh4 a0 13 from fl5.i ty38 rfl 13) (show ivh4 a0 13 = ivh3 a0 13 from fl4.i ty26 rfl 13) (show ivh3 a0 13 = ivh2 a0 13 from fl3.i ty14 rfl 13) (show ivh2 a0 13 = ivh1 a0 13 from fl2.i ty2 rfl 13) (show ivh1 a0 13 = iv a0 13 from fl1.i t_a0 rfl 13) (show (-2147483648) ≤ ivh5 a0 14 ∧ ivh5 a0 14 ≤ 2147483647 from W5.int ty50 14) (show ivh5 a0 14 = ivh4 a0 14 from fl5.i ty38 rfl 14) (show ivh4 a0 14 = ivh3 a0 14 from fl4.i ty26 rfl 14) (show ivh3 a0 14 = ivh2 a0 14 from fl3.i ty14 rfl 14) (show ivh2 a0 14 = ivh1 a0 14 from fl2.i ty2 rfl 14) (show ivh1 a0 14 = iv a0 14 from fl1.i t_a0 rfl 14) (show (-2147483648) ≤ ivh5 a0 15 ∧ ivh5 a0 15 ≤ 2147483647 from W5.int ty50 15) (show ivh5 a0 15 = ivh4 a0 15 from fl5.i ty38 rfl 15) (show ivh4 a0 15 = ivh3 a0 15 from fl4.i ty26 rfl 15) (show ivh3 a0 15 = ivh2 a0 15 from fl3.i ty14 rfl 15) (show ivh2 a0 15 = ivh1 a0 15 from fl2.i ty2 rfl 15) (show ivh1 a0 15 = iv a0 15 from fl1.i t_a0 rfl 15) (show (-2147483648) ≤ ivh5 a0 16 ∧ ivh5 a0 16 ≤ 2147483647 from W5.int ty50 16) (show ivh5 a0 16 = ivh4 a0 16 from fl5.i ty38 rfl 16) (show ivh4 a0 16 = ivh3 a0 16 from fl4.i ty26 rfl 16) (show ivh3 a0 16 = ivh2 a0 16 from fl3.i ty14 rfl 16) (show ivh2 a0 16 = ivh1 a0 16 from fl2.i ty2 rfl 16) (show ivh1 a0 16 = iv a0 16 from fl1.i t_a0 rfl 16) (F5.call X5 fl6 rfl) (fun ri7 ie6 ie7 ie8 ie9 ie10 ri8 ie11 ie12 ie13 ie14 ie15 ri9 ie16 ie17 ie18 ie19 ie20 ri10 ie21 ie22 ie23 ie24 ie25 ri11 ie26 ie27 ie28 ie29 ie30 ri12 ie31 ie32 ie33 ie34 ie35 F6 => ?_)
    refine c_st (st2 := [.int (iI f6)]) rfl ?_
    refine hv15 (show ivh6 a0 11 = ivh5 a0 11 from kp11f6) (show ivh6 a0 12 = ivh5 a0 12 from kp12f6) (show ivh6 a0 13 = ivh5 a0 13 from kp13f6) (show ivh6 a0 14 = ivh5 a0 14 from kp14f6) (show ivh6 a0 15 = ivh5 a0 15 from kp15f6) (show ivh6 a0 16 = ivh5 a0 16 from kp16f6) (show f6 = (ivh5 (sk 2) 2) from exf6) (show 1 ≤ ivh6 a0 11 ∧ ivh6 a0 11 ≤ 100 from W6.int ty50 11) (show 1 ≤ ivh6 a0 12 ∧ ivh6 a0 12 ≤ 50 from W6.int ty50 12) (show (-2147483648) ≤ ivh6 a0 13 ∧ ivh6 a0 13 ≤ 2147483647 from W6.int ty50 13) (show (-2147483648) ≤ ivh6 a0 14 ∧ ivh6 a0 14 ≤ 2147483647 from W6.int ty50 14) (show (-2147483648) ≤ ivh6 a0 15 ∧ ivh6 a0 15 ≤ 2147483647 from W6.int ty50 15) (show (-2147483648) ≤ ivh6 a0 16 ∧ ivh6 a0 16 ≤ 2147483647 from W6.int ty50 16) (show 0 ≤ ivh6 (sk 2) 2 ∧ ivh6 (sk 2) 2 ≤ 3000 from W6.int ty49 2) (show ivh6 (sk 2) 2 = ivh5 (sk 2) 2 from fl6.i ty49 rfl 2) (fun gk11f6 gk12f6 gk13f6 gk14f6 gk15f6 gk16f6 gf6 ri13 ri14 ri15 ri16 ri17 ri18 ri19 ie42 => ?_)
    exact c_iret C dX11_feed_61 rfl (by decide) (rom0 hph pl5 (by decide)) ⟨f6, rfl, X5, F6, W6, ⟨by omega, by omega⟩, ⟨by omega, fun ss hs => ⟨fun _ => by
        have q1 := gf1.2 ss hs
        have q2 := gf2.2 _ q1
        rw [show (ivh1 (sk 2) 2).toNat = (iv (sk 2) 2).toNat + 4 by omega] at q2
        have q3 := gf3.2 _ q2
        rw [show (ivh2 (sk 2) 2).toNat = (iv (sk 2) 2).toNat + 8 by omega] at q3
        have q4 := gf4.2 _ q3
        rw [show (ivh3 (sk 2) 2).toNat = (iv (sk 2) 2).toNat + 12 by omega] at q4
        have q5 := gf5.2 _ q4
        rw [show (ivh4 (sk 2) 2).toNat = (iv (sk 2) 2).toNat + 16 by omega] at q5
        exact CT.frn q5 W6 ty49 fl6 rfl rfl rfl rfl rfl, fun q => absurd q (by omega)⟩⟩, (gk11f6.trans (ie6.trans (ie7.trans (ie8.trans (ie9.trans ie10))))), (gk12f6.trans (ie11.trans (ie12.trans (ie13.trans (ie14.trans ie15))))), (gk13f6.trans (ie16.trans (ie17.trans (ie18.trans (ie19.trans ie20))))), (gk14f6.trans (ie21.trans (ie22.trans (ie23.trans (ie24.trans ie25))))), (gk15f6.trans (ie26.trans (ie27.trans (ie28.trans (ie29.trans ie30))))), (gk16f6.trans (ie31.trans (ie32.trans (ie33.trans (ie34.trans ie35))))), (Eq.trans (show rvh5 a0 9 = rvh4 a0 9 from (fl5.r ty38 rfl 9)) (Eq.trans (show rvh4 a0 9 = rvh3 a0 9 from (fl4.r ty26 rfl 9)) (Eq.trans (show rvh3 a0 9 = rvh2 a0 9 from (fl3.r ty14 rfl 9)) (Eq.trans (show rvh2 a0 9 = rvh1 a0 9 from (fl2.r ty2 rfl 9)) (show rvh1 a0 9 = rv a0 9 from (fl1.r t_a0 rfl 9)))))), (Eq.trans (show rvh5 a0 10 = rvh4 a0 10 from (fl5.r ty38 rfl 10)) (Eq.trans (show rvh4 a0 10 = rvh3 a0 10 from (fl4.r ty26 rfl 10)) (Eq.trans (show rvh3 a0 10 = rvh2 a0 10 from (fl3.r ty14 rfl 10)) (Eq.trans (show rvh2 a0 10 = rvh1 a0 10 from (fl2.r ty2 rfl 10)) (show rvh1 a0 10 = rv a0 10 from (fl1.r t_a0 rfl 10))))))⟩
  · refine c_aload_n (j := 0) (x := a0) C dX11_feed_16 rfl ?_
    refine c_bipush (z := 6) C dX11_feed_17 (by decide) ?_
    refine d_callV (As := [.int (iI 6)]) (rest := []) C hM (C_refuse (a0 := a0) (x := 6) hW hS t_a0 ⟨by decide, by decide⟩ ) dX11_feed_19 kV_X11_102 rfl t_a0 rfl rfl (by decide) ck_12 rfl (Nat.le_of_ble_eq_true rfl) ⟨(Nat.le_of_ble_eq_true rfl), (Nat.le_of_ble_eq_true rfl)⟩ hph hph (show 0 + 0 = 0 from rfl) (by decide) (fun rh7 Lh7 clh7 lnh7 ivh7 rvh7 h7 => ?_)
    obtain ⟨f7, rfl, rfl, rfl, rfl, rfl, fl7, W7, rgf7, exf7, kp11f7, kp12f7, kp13f7, kp14f7, kp15f7, kp16f7⟩ := h7
    refine hv7 (show 1 ≤ iv a0 11 ∧ iv a0 11 ≤ 100 from hW.int t_a0 11) (show 1 ≤ iv a0 12 ∧ iv a0 12 ≤ 50 from hW.int t_a0 12) (show (-2147483648) ≤ iv a0 13 ∧ iv a0 13 ≤ 2147483647 from hW.int t_a0 13) (show (-2147483648) ≤ iv a0 14 ∧ iv a0 14 ≤ 2147483647 from hW.int t_a0 14) (show (-2147483648) ≤ iv a0 15 ∧ iv a0 15 ≤ 2147483647 from hW.int t_a0 15) (show (-2147483648) ≤ iv a0 16 ∧ iv a0 16 ≤ 2147483647 from hW.int t_a0 16) (hF0.call hX0 fl7 rfl) (fun ri20 ri21 ri22 ri23 ri24 ri25 F7 => ?_)
    refine c_st (st2 := [.int (iI f7)]) rfl ?_
    refine hv15 (show ivh7 a0 11 = iv a0 11 from kp11f7) (show ivh7 a0 12 = iv a0 12 from kp12f7) (show ivh7 a0 13 = iv a0 13 from kp13f7) (show ivh7 a0 14 = iv a0 14 from kp14f7) (show ivh7 a0 15 = iv a0 15 from kp15f7) (show ivh7 a0 16 = iv a0 16 from kp16f7) (show f7 = -1 from exf7) (show 1 ≤ ivh7 a0 11 ∧ ivh7 a0 11 ≤ 100 from W7.int t_a0 11) (show 1 ≤ ivh7 a0 12 ∧ ivh7 a0 12 ≤ 50 from W7.int t_a0 12) (show (-2147483648) ≤ ivh7 a0 13 ∧ ivh7 a0 13 ≤ 2147483647 from W7.int t_a0 13) (show (-2147483648) ≤ ivh7 a0 14 ∧ ivh7 a0 14 ≤ 2147483647 from W7.int t_a0 14) (show (-2147483648) ≤ ivh7 a0 15 ∧ ivh7 a0 15 ≤ 2147483647 from W7.int t_a0 15) (show (-2147483648) ≤ ivh7 a0 16 ∧ ivh7 a0 16 ≤ 2147483647 from W7.int t_a0 16) (show 0 ≤ ivh7 (sk 2) 2 ∧ ivh7 (sk 2) 2 ≤ 3000 from W7.int tsk2 2) (show ivh7 (sk 2) 2 = iv (sk 2) 2 from fl7.i tsk2 rfl 2) (fun gk11f7 gk12f7 gk13f7 gk14f7 gk15f7 gk16f7 gf7 ri26 ri27 ri28 ri29 ri30 ri31 ri32 ie49 => ?_)
    exact c_iret C dX11_feed_22 rfl (by decide) (rom0 hph hph (by decide)) ⟨f7, rfl, hX0, F7, W7, ⟨by omega, by omega⟩, ⟨by omega, fun ss hs => ⟨fun q => absurd q (by omega), fun _ => CT.frn hs W7 tsk2 fl7 rfl rfl rfl rfl rfl⟩⟩, gk11f7, gk12f7, gk13f7, gk14f7, gk15f7, gk16f7, rfl, rfl⟩
set_option maxHeartbeats 4000000 in
set_option maxRecDepth 100000 in
theorem C_end {l : Launch} {G : GT} {mi : Nat} {sk : Nat → Nat} {L : List Nat} {cl ln : Nat → Nat} {iv : Nat → Nat → Int} {rv : Nat → Nat → Option Nat}  {a0 : Nat} {n : Int} (hW : WT (g0 G) sk L cl ln iv rv) (hS : SKL sk L cl) (t_a0 : ty L cl a0 1) (h_n : -2147483648 ≤ n ∧ n ≤ 2147483647)  : Mc l G mi (Phi (g0 G) sk) PHM yX11_end cX11_end 2 (some .int) 2 [.ref a0, .int (iI n)] L cl ln iv rv 0 (fun v L2 cl2 ln2 iv2 rv2 => ∃ f : Int, v = some (.int (iI f)) ∧ L = L2 ∧ cl = cl2 ∧ ln = ln2 ∧ rv = rv2 ∧ fT [1, 2] L cl iv rv iv2 rv2 ∧ WT (g0 G) sk L2 cl2 ln2 iv2 rv2 ∧ (-2147483648 ≤ f ∧ f ≤ 2147483647) ∧ ((f = -1 ∧ iv2 (sk 2) 2 = iv (sk 2) 2 ∧ (n < 0 ∨ iv (sk 2) 2 < n)) ∨ (f = n ∧ iv2 (sk 2) 2 = n ∧ 0 ≤ n ∧ n ≤ iv (sk 2) 2)) ∧ iv2 a0 11 = iv a0 11 ∧ iv2 a0 12 = iv a0 12 ∧ iv2 a0 13 = iv a0 13 ∧ iv2 a0 14 = iv a0 14 ∧ iv2 a0 15 = iv a0 15 ∧ iv2 a0 16 = iv a0 16) := by
  refine Mc.mk (by decide) (Nat.le_of_ble_eq_true rfl) ?_
  intro p e s m args below meth c A C hM
  refine hv14 (Phi.le hW hS) (show ty L cl (sk 2) 2 from ⟨(hS 2 rfl).1, by rw [(hS 2 rfl).2]; rfl⟩) (show ty L cl (sk 3) 3 from ⟨(hS 3 rfl).1, by rw [(hS 3 rfl).2]; rfl⟩) (show ty L cl (sk 4) 4 from ⟨(hS 4 rfl).1, by rw [(hS 4 rfl).2]; rfl⟩) (show ty L cl (sk 5) 5 from ⟨(hS 5 rfl).1, by rw [(hS 5 rfl).2]; rfl⟩) (show ty L cl (sk 13) 13 from ⟨(hS 13 rfl).1, by rw [(hS 13 rfl).2]; rfl⟩) (show ty L cl (sk 14) 14 from ⟨(hS 14 rfl).1, by rw [(hS 14 rfl).2]; rfl⟩) (show ty L cl (sk 15) 15 from ⟨(hS 15 rfl).1, by rw [(hS 15 rfl).2]; rfl⟩) (show ty L cl (sk 16) 16 from ⟨(hS 16 rfl).1, by rw [(hS 16 rfl).2]; rfl⟩) (show ty L cl (sk 17) 17 from ⟨(hS 17 rfl).1, by rw [(hS 17 rfl).2]; rfl⟩) (show ty L cl (sk 22) 22 from ⟨(hS 22 rfl).1, by rw [(hS 22 rfl).2]; rfl⟩) (show ty L cl (sk 23) 23 from ⟨(hS 23 rfl).1, by rw [(hS 23 rfl).2]; rfl⟩) (show XT L cl ln L cl ln from XT.refl) (show fT [1, 2] L cl iv rv iv rv from fT.refl) (fun hph tsk2 tsk3 tsk4 tsk5 tsk13 tsk14 tsk15 tsk16 tsk17 tsk22 tsk23 hX0 hF0 => ?_)
  refine c_iload_n (j := 1) C dX11_end_0 rfl ?_
  refine c_if_ge (tgt := 10) C ⟨by omega, by omega⟩ dX11_end_1 (by decide) (fun c1 => ?_) (fun c1 => ?_)
  · refine c_iload_n (j := 1) C dX11_end_10 rfl ?_
    refine c_aload_n (j := 0) (x := a0) C dX11_end_11 rfl ?_
    obtain ⟨rb1, rq1, trb1⟩ := hW.ref t_a0 0 rfl rfl rfl
    have erb1 := hW.sk trb1 (by decide) rfl
    subst erb1
    refine c_getr (k := 0) C ck_12 dX11_end_12 w2_44 (by decide) t_a0 rfl rfl (by decide) rfl rq1 ?_
    refine c_st (st2 := [.ref (sk 2), .int (iI n)]) rfl ?_
    have ri1 : 0 ≤ iv (sk 2) 2 ∧ iv (sk 2) 2 ≤ 3000 := hW.int tsk2 2
    refine c_get (k := 2) C ck_2 dX11_end_15 w1_44 (by decide) tsk2 rfl rfl (by decide) rfl ?_
    refine c_icmp_le (tgt := 28) C ⟨by omega, by omega⟩ (r32_c (lo := 0) (hi := 3000) ri1.1 ri1.2 (by decide) (by decide)) dX11_end_18 (by decide) (fun c2 => ?_) (fun c2 => ?_)
    · refine c_aload_n (j := 0) (x := a0) C dX11_end_28 rfl ?_
      refine c_getr (k := 0) C ck_12 dX11_end_29 w2_44 (by decide) t_a0 rfl rfl (by decide) rfl rq1 ?_
      refine c_st (st2 := [.ref (sk 2)]) rfl ?_
      refine c_iload_n (j := 1) C dX11_end_32 rfl ?_
      refine d_callV (As := [.int (iI n)]) (rest := []) C hM (C_keep_2 (a0 := (sk 2)) (n := n) hW hS tsk2 (by omega) ) dX11_end_33 kV_X11_115 rfl tsk2 rfl rfl (by decide) ck_2 rfl (Nat.le_of_ble_eq_true rfl) ⟨(Nat.le_of_ble_eq_true rfl), (Nat.le_of_ble_eq_true rfl)⟩ hph hph (show 0 + 0 = 0 from rfl) (by decide) (fun rh1 Lh1 clh1 lnh1 ivh1 rvh1 h1 => ?_)
      obtain ⟨rfl, rfl, rfl, rfl, rfl, fl1, W1, exf1⟩ := h1
      have F1 := hF0.call hX0 fl1 rfl
      refine c_st (st2 := []) rfl ?_
      refine hv2 (show 0 ≤ ivh1 (sk 2) 2 ∧ ivh1 (sk 2) 2 ≤ 3000 from W1.int tsk2 2) (show ivh1 (sk 2) 2 ≤ iv (sk 2) 2 ∧ (n < 0 ∨ iv (sk 2) 2 < n ∨ ivh1 (sk 2) 2 = n) from exf1) (fun ri2 gf1 => ?_)
      refine c_aload_n (j := 0) (x := a0) C dX11_end_36 rfl ?_
      refine c_iload_n (j := 1) C dX11_end_37 rfl ?_
      refine d_callV (As := [.int (iI n)]) (rest := []) C hM (C_done (a0 := a0) (x := n) W1 hS t_a0 (by omega) ) dX11_end_38 kV_X11_109 rfl t_a0 rfl rfl (by decide) ck_12 rfl (Nat.le_of_ble_eq_true rfl) ⟨(Nat.le_of_ble_eq_true rfl), (Nat.le_of_ble_eq_true rfl)⟩ hph hph (show 0 + 0 = 0 from rfl) (by decide) (fun rh2 Lh2 clh2 lnh2 ivh2 rvh2 h2 => ?_)
      obtain ⟨f2, rfl, rfl, rfl, rfl, rfl, fl2, W2, rgf2, exf2, kp11f2, kp12f2, kp13f2, kp14f2, kp15f2, kp16f2⟩ := h2
      refine hv13 (show 1 ≤ ivh1 a0 11 ∧ ivh1 a0 11 ≤ 100 from W1.int t_a0 11) (show ivh1 a0 11 = iv a0 11 from fl1.i t_a0 rfl 11) (show 1 ≤ ivh1 a0 12 ∧ ivh1 a0 12 ≤ 50 from W1.int t_a0 12) (show ivh1 a0 12 = iv a0 12 from fl1.i t_a0 rfl 12) (show (-2147483648) ≤ ivh1 a0 13 ∧ ivh1 a0 13 ≤ 2147483647 from W1.int t_a0 13) (show ivh1 a0 13 = iv a0 13 from fl1.i t_a0 rfl 13) (show (-2147483648) ≤ ivh1 a0 14 ∧ ivh1 a0 14 ≤ 2147483647 from W1.int t_a0 14) (show ivh1 a0 14 = iv a0 14 from fl1.i t_a0 rfl 14) (show (-2147483648) ≤ ivh1 a0 15 ∧ ivh1 a0 15 ≤ 2147483647 from W1.int t_a0 15) (show ivh1 a0 15 = iv a0 15 from fl1.i t_a0 rfl 15) (show (-2147483648) ≤ ivh1 a0 16 ∧ ivh1 a0 16 ≤ 2147483647 from W1.int t_a0 16) (show ivh1 a0 16 = iv a0 16 from fl1.i t_a0 rfl 16) (F1.call hX0 fl2 rfl) (fun ri3 ie2 ri4 ie3 ri5 ie4 ri6 ie5 ri7 ie6 ri8 ie7 F2 => ?_)
      refine c_st (st2 := [.int (iI f2)]) rfl ?_
      refine hv15 (show ivh2 a0 11 = ivh1 a0 11 from kp11f2) (show ivh2 a0 12 = ivh1 a0 12 from kp12f2) (show ivh2 a0 13 = ivh1 a0 13 from kp13f2) (show ivh2 a0 14 = ivh1 a0 14 from kp14f2) (show ivh2 a0 15 = ivh1 a0 15 from kp15f2) (show ivh2 a0 16 = ivh1 a0 16 from kp16f2) (show f2 = n from exf2) (show 1 ≤ ivh2 a0 11 ∧ ivh2 a0 11 ≤ 100 from W2.int t_a0 11) (show 1 ≤ ivh2 a0 12 ∧ ivh2 a0 12 ≤ 50 from W2.int t_a0 12) (show (-2147483648) ≤ ivh2 a0 13 ∧ ivh2 a0 13 ≤ 2147483647 from W2.int t_a0 13) (show (-2147483648) ≤ ivh2 a0 14 ∧ ivh2 a0 14 ≤ 2147483647 from W2.int t_a0 14) (show (-2147483648) ≤ ivh2 a0 15 ∧ ivh2 a0 15 ≤ 2147483647 from W2.int t_a0 15) (show (-2147483648) ≤ ivh2 a0 16 ∧ ivh2 a0 16 ≤ 2147483647 from W2.int t_a0 16) (show 0 ≤ ivh2 (sk 2) 2 ∧ ivh2 (sk 2) 2 ≤ 3000 from W2.int tsk2 2) (show ivh2 (sk 2) 2 = ivh1 (sk 2) 2 from fl2.i tsk2 rfl 2) (fun gk11f2 gk12f2 gk13f2 gk14f2 gk15f2 gk16f2 gf2 ri9 ri10 ri11 ri12 ri13 ri14 ri15 ie14 => ?_)
      exact c_iret C dX11_end_41 rfl (by decide) (rom0 hph hph (by decide)) ⟨f2, rfl, rfl, rfl, rfl, rfl, F2, W2, ⟨by omega, by omega⟩, (by omega), (gk11f2.trans ie2), (gk12f2.trans ie3), (gk13f2.trans ie4), (gk14f2.trans ie5), (gk15f2.trans ie6), (gk16f2.trans ie7)⟩
    · refine c_aload_n (j := 0) (x := a0) C dX11_end_21 rfl ?_
      refine c_bipush (z := 6) C dX11_end_22 (by decide) ?_
      refine d_callV (As := [.int (iI 6)]) (rest := []) C hM (C_refuse (a0 := a0) (x := 6) hW hS t_a0 ⟨by decide, by decide⟩ ) dX11_end_24 kV_X11_102 rfl t_a0 rfl rfl (by decide) ck_12 rfl (Nat.le_of_ble_eq_true rfl) ⟨(Nat.le_of_ble_eq_true rfl), (Nat.le_of_ble_eq_true rfl)⟩ hph hph (show 0 + 0 = 0 from rfl) (by decide) (fun rh3 Lh3 clh3 lnh3 ivh3 rvh3 h3 => ?_)
      obtain ⟨f3, rfl, rfl, rfl, rfl, rfl, fl3, W3, rgf3, exf3, kp11f3, kp12f3, kp13f3, kp14f3, kp15f3, kp16f3⟩ := h3
      refine hv7 (show 1 ≤ iv a0 11 ∧ iv a0 11 ≤ 100 from hW.int t_a0 11) (show 1 ≤ iv a0 12 ∧ iv a0 12 ≤ 50 from hW.int t_a0 12) (show (-2147483648) ≤ iv a0 13 ∧ iv a0 13 ≤ 2147483647 from hW.int t_a0 13) (show (-2147483648) ≤ iv a0 14 ∧ iv a0 14 ≤ 2147483647 from hW.int t_a0 14) (show (-2147483648) ≤ iv a0 15 ∧ iv a0 15 ≤ 2147483647 from hW.int t_a0 15) (show (-2147483648) ≤ iv a0 16 ∧ iv a0 16 ≤ 2147483647 from hW.int t_a0 16) (hF0.call hX0 fl3 rfl) (fun ri16 ri17 ri18 ri19 ri20 ri21 F3 => ?_)
      refine c_st (st2 := [.int (iI f3)]) rfl ?_
      refine hv15 (show ivh3 a0 11 = iv a0 11 from kp11f3) (show ivh3 a0 12 = iv a0 12 from kp12f3) (show ivh3 a0 13 = iv a0 13 from kp13f3) (show ivh3 a0 14 = iv a0 14 from kp14f3) (show ivh3 a0 15 = iv a0 15 from kp15f3) (show ivh3 a0 16 = iv a0 16 from kp16f3) (show f3 = -1 from exf3) (show 1 ≤ ivh3 a0 11 ∧ ivh3 a0 11 ≤ 100 from W3.int t_a0 11) (show 1 ≤ ivh3 a0 12 ∧ ivh3 a0 12 ≤ 50 from W3.int t_a0 12) (show (-2147483648) ≤ ivh3 a0 13 ∧ ivh3 a0 13 ≤ 2147483647 from W3.int t_a0 13) (show (-2147483648) ≤ ivh3 a0 14 ∧ ivh3 a0 14 ≤ 2147483647 from W3.int t_a0 14) (show (-2147483648) ≤ ivh3 a0 15 ∧ ivh3 a0 15 ≤ 2147483647 from W3.int t_a0 15) (show (-2147483648) ≤ ivh3 a0 16 ∧ ivh3 a0 16 ≤ 2147483647 from W3.int t_a0 16) (show 0 ≤ ivh3 (sk 2) 2 ∧ ivh3 (sk 2) 2 ≤ 3000 from W3.int tsk2 2) (show ivh3 (sk 2) 2 = iv (sk 2) 2 from fl3.i tsk2 rfl 2) (fun gk11f3 gk12f3 gk13f3 gk14f3 gk15f3 gk16f3 gf3 ri22 ri23 ri24 ri25 ri26 ri27 ri28 ie21 => ?_)
      exact c_iret C dX11_end_27 rfl (by decide) (rom0 hph hph (by decide)) ⟨f3, rfl, rfl, rfl, rfl, rfl, F3, W3, ⟨by omega, by omega⟩, (by omega), gk11f3, gk12f3, gk13f3, gk14f3, gk15f3, gk16f3⟩
  · refine c_aload_n (j := 0) (x := a0) C dX11_end_4 rfl ?_
    refine c_iconst C dX11_end_5 ?_
    refine d_callV (As := [.int (iI 5)]) (rest := []) C hM (C_refuse (a0 := a0) (x := 5) hW hS t_a0 ⟨by decide, by decide⟩ ) dX11_end_6 kV_X11_102 rfl t_a0 rfl rfl (by decide) ck_12 rfl (Nat.le_of_ble_eq_true rfl) ⟨(Nat.le_of_ble_eq_true rfl), (Nat.le_of_ble_eq_true rfl)⟩ hph hph (show 0 + 0 = 0 from rfl) (by decide) (fun rh4 Lh4 clh4 lnh4 ivh4 rvh4 h4 => ?_)
    obtain ⟨f4, rfl, rfl, rfl, rfl, rfl, fl4, W4, rgf4, exf4, kp11f4, kp12f4, kp13f4, kp14f4, kp15f4, kp16f4⟩ := h4
    refine hv7 (show 1 ≤ iv a0 11 ∧ iv a0 11 ≤ 100 from hW.int t_a0 11) (show 1 ≤ iv a0 12 ∧ iv a0 12 ≤ 50 from hW.int t_a0 12) (show (-2147483648) ≤ iv a0 13 ∧ iv a0 13 ≤ 2147483647 from hW.int t_a0 13) (show (-2147483648) ≤ iv a0 14 ∧ iv a0 14 ≤ 2147483647 from hW.int t_a0 14) (show (-2147483648) ≤ iv a0 15 ∧ iv a0 15 ≤ 2147483647 from hW.int t_a0 15) (show (-2147483648) ≤ iv a0 16 ∧ iv a0 16 ≤ 2147483647 from hW.int t_a0 16) (hF0.call hX0 fl4 rfl) (fun ri29 ri30 ri31 ri32 ri33 ri34 F4 => ?_)
    refine c_st (st2 := [.int (iI f4)]) rfl ?_
    refine hv15 (show ivh4 a0 11 = iv a0 11 from kp11f4) (show ivh4 a0 12 = iv a0 12 from kp12f4) (show ivh4 a0 13 = iv a0 13 from kp13f4) (show ivh4 a0 14 = iv a0 14 from kp14f4) (show ivh4 a0 15 = iv a0 15 from kp15f4) (show ivh4 a0 16 = iv a0 16 from kp16f4) (show f4 = -1 from exf4) (show 1 ≤ ivh4 a0 11 ∧ ivh4 a0 11 ≤ 100 from W4.int t_a0 11) (show 1 ≤ ivh4 a0 12 ∧ ivh4 a0 12 ≤ 50 from W4.int t_a0 12) (show (-2147483648) ≤ ivh4 a0 13 ∧ ivh4 a0 13 ≤ 2147483647 from W4.int t_a0 13) (show (-2147483648) ≤ ivh4 a0 14 ∧ ivh4 a0 14 ≤ 2147483647 from W4.int t_a0 14) (show (-2147483648) ≤ ivh4 a0 15 ∧ ivh4 a0 15 ≤ 2147483647 from W4.int t_a0 15) (show (-2147483648) ≤ ivh4 a0 16 ∧ ivh4 a0 16 ≤ 2147483647 from W4.int t_a0 16) (show 0 ≤ ivh4 (sk 2) 2 ∧ ivh4 (sk 2) 2 ≤ 3000 from W4.int tsk2 2) (show ivh4 (sk 2) 2 = iv (sk 2) 2 from fl4.i tsk2 rfl 2) (fun gk11f4 gk12f4 gk13f4 gk14f4 gk15f4 gk16f4 gf4 ri35 ri36 ri37 ri38 ri39 ri40 ri41 ie28 => ?_)
    exact c_iret C dX11_end_9 rfl (by decide) (rom0 hph hph (by decide)) ⟨f4, rfl, rfl, rfl, rfl, rfl, F4, W4, ⟨by omega, by omega⟩, (by omega), gk11f4, gk12f4, gk13f4, gk14f4, gk15f4, gk16f4⟩
theorem dots_c {n z1 z2 : Int} (e1 : iI 1 <<< (iI n &&& 31) = iI z1) (h1 : R32 z1) (e2 : iI (z1 - 1) = iI z2) (h2 : R32 z2) (hn : n = 6 ∨ n = 8) : z2 = DC n := by
  rcases hn with rfl | rfl
  · have a1 : z1 = 64 := (iI_eq h1 ⟨by decide, by decide⟩).mp (e1.symm.trans (by decide))
    subst a1
    have a2 : z2 = 63 := (iI_eq h2 ⟨by decide, by decide⟩).mp (e2.symm.trans (by decide))
    rw [a2]; rfl
  · have a1 : z1 = 256 := (iI_eq h1 ⟨by decide, by decide⟩).mp (e1.symm.trans (by decide))
    subst a1
    have a2 : z2 = 255 := (iI_eq h2 ⟨by decide, by decide⟩).mp (e2.symm.trans (by decide))
    rw [a2]; rfl
set_option maxHeartbeats 4000000 in
set_option maxRecDepth 100000 in
theorem C_isRow {l : Launch} {G : GT} {mi : Nat} {sk : Nat → Nat} {L : List Nat} {cl ln : Nat → Nat} {iv : Nat → Nat → Int} {rv : Nat → Nat → Option Nat}  {a0 : Nat} {i : Int} {n : Int} (hW : WT (g0 G) sk L cl ln iv rv) (hS : SKL sk L cl) (t_a0 : ty L cl a0 1) (h_i : -2147483648 ≤ i ∧ i ≤ 2147483647) (h_n : -2147483648 ≤ n ∧ n ≤ 2147483647) (hi : 0 ≤ i) : Mc l G mi (Phi (g0 G) sk) PHM yX11_isRowOfCells cX11_isRowOfCells 3 (some .boolean) 2 [.ref a0, .int (iI i), .int (iI n)] L cl ln iv rv 0 (fun v L2 cl2 ln2 iv2 rv2 => ∃ f : Int, v = some (.int (iI f)) ∧ L = L2 ∧ cl = cl2 ∧ ln = ln2 ∧ iv = iv2 ∧ rv = rv2 ∧ (f = 0 ∨ f = 1) ∧ (f = 0 ∨ iv (sk 2) 2 - i ≤ 4) ∧ (∀ ss, CT iv rv (sk 2) ss → i ≤ iv (sk 2) 2 → (n = 6 ∨ n = 8) → (f = 1 ↔ (iv (sk 2) 2 - i ≤ 4 ∧ ACL ss i (iv (sk 2) 2 - i) (DC n))))) := by
  refine Mc.mk (by decide) (Nat.le_of_ble_eq_true rfl) ?_
  intro p e s m args below meth c A C hM
  refine hv14 (Phi.le hW hS) (show ty L cl (sk 2) 2 from ⟨(hS 2 rfl).1, by rw [(hS 2 rfl).2]; rfl⟩) (show ty L cl (sk 3) 3 from ⟨(hS 3 rfl).1, by rw [(hS 3 rfl).2]; rfl⟩) (show ty L cl (sk 4) 4 from ⟨(hS 4 rfl).1, by rw [(hS 4 rfl).2]; rfl⟩) (show ty L cl (sk 5) 5 from ⟨(hS 5 rfl).1, by rw [(hS 5 rfl).2]; rfl⟩) (show ty L cl (sk 13) 13 from ⟨(hS 13 rfl).1, by rw [(hS 13 rfl).2]; rfl⟩) (show ty L cl (sk 14) 14 from ⟨(hS 14 rfl).1, by rw [(hS 14 rfl).2]; rfl⟩) (show ty L cl (sk 15) 15 from ⟨(hS 15 rfl).1, by rw [(hS 15 rfl).2]; rfl⟩) (show ty L cl (sk 16) 16 from ⟨(hS 16 rfl).1, by rw [(hS 16 rfl).2]; rfl⟩) (show ty L cl (sk 17) 17 from ⟨(hS 17 rfl).1, by rw [(hS 17 rfl).2]; rfl⟩) (show ty L cl (sk 22) 22 from ⟨(hS 22 rfl).1, by rw [(hS 22 rfl).2]; rfl⟩) (show ty L cl (sk 23) 23 from ⟨(hS 23 rfl).1, by rw [(hS 23 rfl).2]; rfl⟩) (show XT L cl ln L cl ln from XT.refl) (show fT [] L cl iv rv iv rv from fT.refl) (fun hph tsk2 tsk3 tsk4 tsk5 tsk13 tsk14 tsk15 tsk16 tsk17 tsk22 tsk23 hX0 hF0 => ?_)
  refine c_aload_n (j := 0) (x := a0) C dX11_isRowOfCells_0 rfl ?_
  obtain ⟨rb1, rq1, trb1⟩ := hW.ref t_a0 0 rfl rfl rfl
  have erb1 := hW.sk trb1 (by decide) rfl
  subst erb1
  refine c_getr (k := 0) C ck_12 dX11_isRowOfCells_1 w2_44 (by decide) t_a0 rfl rfl (by decide) rfl rq1 ?_
  refine c_st (st2 := [.ref (sk 2)]) rfl ?_
  have ri1 : 0 ≤ iv (sk 2) 2 ∧ iv (sk 2) 2 ≤ 3000 := hW.int tsk2 2
  refine c_get (k := 2) C ck_2 dX11_isRowOfCells_4 w1_44 (by decide) tsk2 rfl rfl (by decide) rfl ?_
  refine c_iload_n (j := 1) C dX11_isRowOfCells_7 rfl ?_
  refine c_isub C dX11_isRowOfCells_8 ?_
  refine c_iconst C dX11_isRowOfCells_9 ?_
  refine c_icmp_gt (tgt := 41) C ⟨by omega, by omega⟩ ⟨by decide, by decide⟩ dX11_isRowOfCells_10 (by decide) (fun c1 => ?_) (fun c1 => ?_)
  · refine c_iconst C dX11_isRowOfCells_41 ?_
    exact c_zret C dX11_isRowOfCells_42 rfl (Or.inl rfl) (by decide) (rom0 hph hph (by decide)) ⟨0, rfl, rfl, rfl, rfl, rfl, rfl, (Or.inl rfl), (by omega), (fun ss hs h0 h1 => ⟨fun q => absurd q (by decide), fun q => absurd q.1 (by omega)⟩)⟩
  · refine c_aload_n (j := 0) (x := a0) C dX11_isRowOfCells_13 rfl ?_
    refine c_getr (k := 0) C ck_12 dX11_isRowOfCells_14 w2_44 (by decide) t_a0 rfl rfl (by decide) rfl rq1 ?_
    refine c_st (st2 := [.ref (sk 2)]) rfl ?_
    refine c_iload_n (j := 1) C dX11_isRowOfCells_17 rfl ?_
    refine c_aload_n (j := 0) (x := a0) C dX11_isRowOfCells_18 rfl ?_
    refine c_getr (k := 0) C ck_12 dX11_isRowOfCells_19 w2_44 (by decide) t_a0 rfl rfl (by decide) rfl rq1 ?_
    refine c_st (st2 := [.ref (sk 2), .int (iI i), .ref (sk 2)]) rfl ?_
    refine c_get (k := 2) C ck_2 dX11_isRowOfCells_22 w1_44 (by decide) tsk2 rfl rfl (by decide) rfl ?_
    refine c_iconst C dX11_isRowOfCells_25 ?_
    refine c_iconst C dX11_isRowOfCells_26 ?_
    refine c_iload_n (j := 2) C dX11_isRowOfCells_27 rfl ?_
    obtain ⟨zz1, hzz1, ezz1⟩ := iI_of (iI 1 <<< (iI n &&& 31))
    refine c_ishl (w := iI zz1) C dX11_isRowOfCells_28 ezz1 ?_
    refine c_iconst C dX11_isRowOfCells_29 ?_
    refine c_isub C dX11_isRowOfCells_30 ?_
    obtain ⟨zz2, hzz2, ezz2⟩ := iI_of (iI (zz1 - 1))
    refine c_st (st2 := [.int (iI zz2), .int (iI 1), .int (iI (iv (sk 2) 2)), .int (iI i), .ref (sk 2)]) (by rw [ezz2]) ?_
    refine d_callV (As := [.int (iI i), .int (iI (iv (sk 2) 2)), .int (iI 1), .int (iI zz2)]) (rest := []) C hM (C_isWithin_2 (a0 := (sk 2)) (i := i) (j := iv (sk 2) 2) (lo := 1) (hi := zz2) hW hS tsk2 (by omega) (by omega) ⟨by decide, by decide⟩ (by omega) ) dX11_isRowOfCells_31 kV_X11_171 rfl tsk2 rfl rfl (by decide) ck_2 rfl (Nat.le_of_ble_eq_true rfl) ⟨(Nat.le_of_ble_eq_true rfl), (Nat.le_of_ble_eq_true rfl)⟩ hph hph (show 0 + 0 = 0 from rfl) (by decide) (fun rh1 Lh1 clh1 lnh1 ivh1 rvh1 h1 => ?_)
    obtain ⟨f1, rfl, rfl, rfl, rfl, rfl, rfl, rgf1, exf1⟩ := h1
    refine c_st (st2 := [.int (iI f1)]) rfl ?_
    have gf1 : ∀ ss, CT iv rv (sk 2) ss → 0 ≤ i → (iv (sk 2) 2) ≤ iv (sk 2) 2 → (f1 = 1 ↔ ∀ x : Nat, i ≤ (x : Int) → (x : Int) < (iv (sk 2) 2) → (1 : Int) ≤ ss x ∧ ss x ≤ zz2) := exf1
    refine c_if_eq (tgt := 41) C ⟨by omega, by omega⟩ dX11_isRowOfCells_34 (by decide) (fun c2 => ?_) (fun c2 => ?_)
    · refine c_iconst C dX11_isRowOfCells_41 ?_
      exact c_zret C dX11_isRowOfCells_42 rfl (Or.inl rfl) (by decide) (rom0 hph hph (by decide)) ⟨0, rfl, rfl, rfl, rfl, rfl, rfl, (Or.inl rfl), (by omega), (fun ss hs h0 h1 => by have e := gf1 ss hs (by omega) (by omega); rw [dots_c ezz1 hzz1 ezz2 hzz2 h1] at e; exact ⟨fun q => absurd q (by decide), fun q => by have e2 := e.mpr (fun x q1 q2 => q.2 x q1 (by omega)); omega⟩)⟩
    · refine c_iconst C dX11_isRowOfCells_37 ?_
      refine c_goto (tgt := 42) C dX11_isRowOfCells_38 (by decide) ?_
      exact c_zret C dX11_isRowOfCells_42 rfl (Or.inr rfl) (by decide) (rom0 hph hph (by decide)) ⟨1, rfl, rfl, rfl, rfl, rfl, rfl, (Or.inr rfl), (by omega), (fun ss hs h0 h1 => by have e := gf1 ss hs (by omega) (by omega); rw [dots_c ezz1 hzz1 ezz2 hzz2 h1] at e; exact ⟨fun _ => ⟨by omega, fun j q1 q2 => e.mp (by omega) j q1 (by omega)⟩, fun _ => rfl⟩)⟩
end
