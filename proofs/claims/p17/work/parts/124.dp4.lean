set_option maxHeartbeats 4000000 in
set_option maxRecDepth 100000 in
theorem C_addText {l : Launch} {G : GT} {mi : Nat} {sk : Nat → Nat} {L : List Nat} {cl ln : Nat → Nat} {iv : Nat → Nat → Int} {rv : Nat → Nat → Option Nat}  {a0 : Nat} (hW : WT (g0 G) sk L cl ln iv rv) (hS : SKL sk L cl) (t_a0 : ty L cl a0 1)  : Mc l G mi (Phi (g0 G) sk) PHM yX11_addText cX11_addText 3 (some .int) 4 [.ref a0] L cl ln iv rv 0 (fun v L2 cl2 ln2 iv2 rv2 => ∃ f : Int, v = some (.int (iI f)) ∧ XT L cl ln L2 cl2 ln2 ∧ fT [1, 3, 33] L cl iv rv iv2 rv2 ∧ WT (g0 G) sk L2 cl2 ln2 iv2 rv2 ∧ (-2147483648 ≤ f ∧ f ≤ 2147483647) ∧ (∀ ss, CT iv rv (sk 2) ss → ((f = -1 ∧ iv2 (sk 3) 2 = iv (sk 3) 2 ∧ ¬ (TOK ss (iv (sk 2) 2) ∧ iv (sk 3) 2 + iv (sk 2) 2 ≤ 500)) ∨ (f = iv2 (sk 3) 2 ∧ TOK ss (iv (sk 2) 2) ∧ iv (sk 3) 2 + iv (sk 2) 2 ≤ 500 ∧ ((iv (sk 2) 2 = 0 ∧ iv2 (sk 3) 2 = 0) ∨ (iv (sk 2) 2 ≠ 0 ∧ iv2 (sk 3) 2 = iv (sk 3) 2 + iv (sk 2) 2))))) ∧ iv2 a0 11 = iv a0 11 ∧ iv2 a0 12 = iv a0 12 ∧ iv2 a0 13 = iv a0 13 ∧ iv2 a0 14 = iv a0 14 ∧ iv2 a0 15 = iv a0 15 ∧ iv2 a0 16 = iv a0 16 ∧ (∀ ss tt, CT iv rv (sk 2) ss → CT iv rv (sk 3) tt → (f = -1 → CT iv2 rv2 (sk 3) tt) ∧ (f ≠ -1 → CT iv2 rv2 (sk 3) (apd tt (iv (sk 3) 2).toNat ss))) ∧ rv2 a0 9 = rv a0 9 ∧ rv2 a0 10 = rv a0 10) := by
  refine Mc.mk (by decide) (Nat.le_of_ble_eq_true rfl) ?_
  intro p e s m args below meth c A C hM
  refine hv14 (Phi.le hW hS) (show ty L cl (sk 2) 2 from ⟨(hS 2 rfl).1, by rw [(hS 2 rfl).2]; rfl⟩) (show ty L cl (sk 3) 3 from ⟨(hS 3 rfl).1, by rw [(hS 3 rfl).2]; rfl⟩) (show ty L cl (sk 4) 4 from ⟨(hS 4 rfl).1, by rw [(hS 4 rfl).2]; rfl⟩) (show ty L cl (sk 5) 5 from ⟨(hS 5 rfl).1, by rw [(hS 5 rfl).2]; rfl⟩) (show ty L cl (sk 13) 13 from ⟨(hS 13 rfl).1, by rw [(hS 13 rfl).2]; rfl⟩) (show ty L cl (sk 14) 14 from ⟨(hS 14 rfl).1, by rw [(hS 14 rfl).2]; rfl⟩) (show ty L cl (sk 15) 15 from ⟨(hS 15 rfl).1, by rw [(hS 15 rfl).2]; rfl⟩) (show ty L cl (sk 16) 16 from ⟨(hS 16 rfl).1, by rw [(hS 16 rfl).2]; rfl⟩) (show ty L cl (sk 17) 17 from ⟨(hS 17 rfl).1, by rw [(hS 17 rfl).2]; rfl⟩) (show ty L cl (sk 22) 22 from ⟨(hS 22 rfl).1, by rw [(hS 22 rfl).2]; rfl⟩) (show ty L cl (sk 23) 23 from ⟨(hS 23 rfl).1, by rw [(hS 23 rfl).2]; rfl⟩) (show XT L cl ln L cl ln from XT.refl) (show fT [1, 3, 33] L cl iv rv iv rv from fT.refl) (fun hph tsk2 tsk3 tsk4 tsk5 tsk13 tsk14 tsk15 tsk16 tsk17 tsk22 tsk23 hX0 hF0 => ?_)
  refine hv2 (show 0 ≤ iv (sk 2) 2 ∧ iv (sk 2) 2 ≤ 3000 from hW.int tsk2 2) (show 0 ≤ iv (sk 3) 2 ∧ iv (sk 3) 2 ≤ 500 from hW.int tsk3 2) (fun ri1 ri2 => ?_)
  refine c_iconst C dX11_addText_0 ?_
  refine c_istore_n (lv2 := [(1, .int (iI 0)), (0, .ref a0)]) C dX11_addText_1 (by decide) rfl ?_
  have Lp1 : ∀ (nn : Nat) (k : Int) (Lb1 : List Nat) (clb1 lnb1 : Nat → Nat) (ivb1 : Nat → Nat → Int) (rvb1 : Nat → Nat → Option Nat) , 3001 - k < (nn : Int) → XT L cl ln Lb1 clb1 lnb1 → WT (g0 G) sk Lb1 clb1 lnb1 ivb1 rvb1 → fT [1, 3, 33] L cl iv rv ivb1 rvb1 → (0 ≤ k ∧ k ≤ 3000) → (ivb1 (sk 3) 2 = iv (sk 3) 2) → (∀ ss, CT iv rv (sk 2) ss → TOK ss k) → (∀ tt, CT iv rv (sk 3) tt → CT ivb1 rvb1 (sk 3) tt) → (ivb1 a0 11 = iv a0 11) → (ivb1 a0 12 = iv a0 12) → (ivb1 a0 13 = iv a0 13) → (ivb1 a0 14 = iv a0 14) → (ivb1 a0 15 = iv a0 15) → (ivb1 a0 16 = iv a0 16) → (rvb1 a0 9 = rv a0 9) → (rvb1 a0 10 = rv a0 10) → cw p l e 4 ((PHM) + 0 - ((Phi (g0 G) sk) ln rv)) s m args below meth c G A 3 (MQ below (Qu G A (Qp G (Phi (g0 G) sk) ((Phi (g0 G) sk) ln rv) 0 (fun v L2 cl2 ln2 iv2 rv2 => ∃ f : Int, v = some (.int (iI f)) ∧ XT L cl ln L2 cl2 ln2 ∧ fT [1, 3, 33] L cl iv rv iv2 rv2 ∧ WT (g0 G) sk L2 cl2 ln2 iv2 rv2 ∧ (-2147483648 ≤ f ∧ f ≤ 2147483647) ∧ (∀ ss, CT iv rv (sk 2) ss → ((f = -1 ∧ iv2 (sk 3) 2 = iv (sk 3) 2 ∧ ¬ (TOK ss (iv (sk 2) 2) ∧ iv (sk 3) 2 + iv (sk 2) 2 ≤ 500)) ∨ (f = iv2 (sk 3) 2 ∧ TOK ss (iv (sk 2) 2) ∧ iv (sk 3) 2 + iv (sk 2) 2 ≤ 500 ∧ ((iv (sk 2) 2 = 0 ∧ iv2 (sk 3) 2 = 0) ∨ (iv (sk 2) 2 ≠ 0 ∧ iv2 (sk 3) 2 = iv (sk 3) 2 + iv (sk 2) 2))))) ∧ iv2 a0 11 = iv a0 11 ∧ iv2 a0 12 = iv a0 12 ∧ iv2 a0 13 = iv a0 13 ∧ iv2 a0 14 = iv a0 14 ∧ iv2 a0 15 = iv a0 15 ∧ iv2 a0 16 = iv a0 16 ∧ (∀ ss tt, CT iv rv (sk 2) ss → CT iv rv (sk 3) tt → (f = -1 → CT iv2 rv2 (sk 3) tt) ∧ (f ≠ -1 → CT iv2 rv2 (sk 3) (apd tt (iv (sk 3) 2).toNat ss))) ∧ rv2 a0 9 = rv a0 9 ∧ rv2 a0 10 = rv a0 10))) args s (((PHM) + 0 - ((Phi (g0 G) sk) ln rv)) / 16) ((PHM) + 0 - ((Phi (g0 G) sk) ln rv)) A) (Phi (g0 G) sk) ((Phi (g0 G) sk) ln rv) Lb1 clb1 lnb1 ivb1 rvb1 0 2 [(1, .int (iI k)), (0, .ref a0)] [] := by
    intro nn
    induction nn with
    | zero =>
      intro  k Lb1 clb1 lnb1 ivb1 rvb1 hm Xb1 Wb1 Fb1  hk h33 htk hc3 hkp11 hkp12 hkp13 hkp14 hkp15 hkp16 hkr9 hkr10
      have skb1 := Xb1.skl hS
      exact absurd hm (by omega)
    | succ nn ih1 =>
      intro  k Lb1 clb1 lnb1 ivb1 rvb1 hm Xb1 Wb1 Fb1  hk h33 htk hc3 hkp11 hkp12 hkp13 hkp14 hkp15 hkp16 hkr9 hkr10
      have skb1 := Xb1.skl hS
      refine c_iload_n (j := 0) C dX11_addText_2 rfl ?_
      refine c_aload_n (j := 1) (x := a0) C dX11_addText_3 rfl ?_
      have ty1 := Xb1.ty t_a0
      obtain ⟨rb1, rq1, trb1⟩ := Wb1.ref ty1 0 rfl rfl rfl
      have erb1 := Wb1.sk trb1 (by decide) rfl
      subst erb1
      refine c_getr (k := 0) C ck_12 dX11_addText_4 w2_44 (by decide) ty1 rfl rfl (by decide) rfl rq1 ?_
      refine c_st (st2 := [.ref (sk 2), .int (iI k)]) rfl ?_
      refine hv2 (Xb1.ty tsk2) (show ivb1 (sk 2) 2 = iv (sk 2) 2 from Fb1.i tsk2 rfl 2) (fun ty2 ie1 => ?_)
      have ri3 : 0 ≤ ivb1 (sk 2) 2 ∧ ivb1 (sk 2) 2 ≤ 3000 := Wb1.int ty2 2
      refine c_get (k := 2) C ck_2 dX11_addText_7 w1_44 (by decide) ty2 rfl rfl (by decide) rfl ?_
      refine c_icmp_ge (tgt := 53) C ⟨by omega, by omega⟩ ⟨by omega, by omega⟩ dX11_addText_10 (by decide) (fun c1 => ?_) (fun c1 => ?_)
      · refine c_aload_n (j := 1) (x := a0) C dX11_addText_53 rfl ?_
        obtain ⟨rb2, rq2, trb2⟩ := Wb1.ref ty1 1 rfl rfl rfl
        have erb2 := Wb1.sk trb2 (by decide) rfl
        subst erb2
        refine c_getr (k := 1) C ck_12 dX11_addText_54 w2_45 (by decide) ty1 rfl rfl (by decide) rfl rq2 ?_
        refine c_st (st2 := [.ref (sk 3)]) rfl ?_
        have ty3 := Xb1.ty tsk3
        have ri4 : 0 ≤ ivb1 (sk 3) 2 ∧ ivb1 (sk 3) 2 ≤ 500 := Wb1.int ty3 2
        refine c_get (k := 2) C ck_2 dX11_addText_57 w1_44 (by decide) ty3 rfl rfl (by decide) rfl ?_
        refine c_aload_n (j := 1) (x := a0) C dX11_addText_60 rfl ?_
        refine c_getr (k := 0) C ck_12 dX11_addText_61 w2_44 (by decide) ty1 rfl rfl (by decide) rfl rq1 ?_
        refine c_st (st2 := [.ref (sk 2), .int (iI (ivb1 (sk 3) 2))]) rfl ?_
        refine c_get (k := 2) C ck_2 dX11_addText_64 w1_44 (by decide) ty2 rfl rfl (by decide) rfl ?_
        refine c_iadd C dX11_addText_67 ?_
        refine c_sipush (z := 500) C dX11_addText_68 (by decide) ?_
        refine c_icmp_le (tgt := 81) C ⟨by omega, by omega⟩ ⟨by decide, by decide⟩ dX11_addText_71 (by decide) (fun c2 => ?_) (fun c2 => ?_)
        · refine c_aload_n (j := 1) (x := a0) C dX11_addText_81 rfl ?_
          refine c_getr (k := 0) C ck_12 dX11_addText_82 w2_44 (by decide) ty1 rfl rfl (by decide) rfl rq1 ?_
          refine c_st (st2 := [.ref (sk 2)]) rfl ?_
          refine c_get (k := 2) C ck_2 dX11_addText_85 w1_44 (by decide) ty2 rfl rfl (by decide) rfl ?_
          refine c_if_ne (tgt := 98) C ⟨by omega, by omega⟩ dX11_addText_88 (by decide) (fun c3 => ?_) (fun c3 => ?_)
          · refine c_aload_n (j := 1) (x := a0) C dX11_addText_98 rfl ?_
            refine c_getr (k := 1) C ck_12 dX11_addText_99 w2_45 (by decide) ty1 rfl rfl (by decide) rfl rq2 ?_
            refine c_st (st2 := [.ref (sk 3)]) rfl ?_
            refine c_aload_n (j := 1) (x := a0) C dX11_addText_102 rfl ?_
            refine c_getr (k := 0) C ck_12 dX11_addText_103 w2_44 (by decide) ty1 rfl rfl (by decide) rfl rq1 ?_
            refine c_st (st2 := [.ref (sk 2), .ref (sk 3)]) rfl ?_
            have pl1 := Phi.le Wb1 skb1
            refine d_callV (As := [.ref (sk 2)]) (rest := []) C hM (C_addAll_3 (a0 := (sk 3)) (a1 := (sk 2)) Wb1 skb1 ty3 ty2  ) dX11_addText_106 kV_X11_227 rfl ty3 rfl rfl (by decide) ck_2 rfl (Nat.le_of_ble_eq_true rfl) ⟨(Nat.le_of_ble_eq_true rfl), (Nat.le_of_ble_eq_true rfl)⟩ hph pl1 (show 0 + 0 = 0 from rfl) (by decide) (fun rh1 Lh1 clh1 lnh1 ivh1 rvh1 h1 => ?_)
            obtain ⟨rfl, xl1, fl1, W1, exf1⟩ := h1
            refine hv12 (Fb1.call Xb1 fl1 rfl) (Xb1.ty tsk4) (Xb1.ty tsk5) (Xb1.ty tsk13) (Xb1.ty tsk14) (Xb1.ty tsk15) (Xb1.ty tsk16) (Xb1.ty tsk17) (Xb1.ty tsk22) (Xb1.ty tsk23) (Xb1.trans xl1) (xl1.skl skb1) (fun F1 ty4 ty5 ty6 ty7 ty8 ty9 ty10 ty11 ty12 X1 sk1 => ?_)
            refine c_st (st2 := []) rfl ?_
            refine hv2 (xl1.ty ty3) (show ivh1 (sk 3) 2 = min (ivb1 (sk 3) 2 + ivb1 (sk 2) 2) 500 ∧ APD ivb1 rvb1 (sk 3) (sk 2) ivh1 rvh1 from exf1) (fun ty13 gf1 => ?_)
            have ri5 : 0 ≤ ivh1 (sk 3) 2 ∧ ivh1 (sk 3) 2 ≤ 500 := W1.int ty13 2
            refine c_aload_n (j := 1) (x := a0) C dX11_addText_109 rfl ?_
            refine c_aload_n (j := 1) (x := a0) C dX11_addText_110 rfl ?_
            refine hv2 (xl1.ty ty1) (show rvh1 a0 1 = rvb1 a0 1 from (fl1.r ty1 rfl 1)) (fun ty14 re1 => ?_)
            rw [rq2] at re1
            refine c_getr (k := 1) C ck_12 dX11_addText_111 w2_45 (by decide) ty14 rfl rfl (by decide) rfl re1 ?_
            refine c_st (st2 := [.ref (sk 3), .ref a0]) rfl ?_
            refine c_get (k := 2) C ck_2 dX11_addText_114 w1_44 (by decide) ty13 rfl rfl (by decide) rfl ?_
            have pl2 := Phi.le W1 sk1
            refine d_callV (As := [.int (iI (ivh1 (sk 3) 2))]) (rest := []) C hM (C_done (a0 := a0) (x := ivh1 (sk 3) 2) W1 sk1 ty14 (by omega) ) dX11_addText_117 kV_X11_109 rfl ty14 rfl rfl (by decide) ck_12 rfl (Nat.le_of_ble_eq_true rfl) ⟨(Nat.le_of_ble_eq_true rfl), (Nat.le_of_ble_eq_true rfl)⟩ hph pl2 (show 0 + 0 = 0 from rfl) (by decide) (fun rh2 Lh2 clh2 lnh2 ivh2 rvh2 h2 => ?_)
            obtain ⟨f2, rfl, rfl, rfl, rfl, rfl, fl2, W2, rgf2, exf2, kp11f2, kp12f2, kp13f2, kp14f2, kp15f2, kp16f2⟩ := h2
            refine hv13 (show 1 ≤ ivh1 a0 11 ∧ ivh1 a0 11 ≤ 100 from W1.int ty14 11) (show ivh1 a0 11 = ivb1 a0 11 from fl1.i ty1 rfl 11) (show 1 ≤ ivh1 a0 12 ∧ ivh1 a0 12 ≤ 50 from W1.int ty14 12) (show ivh1 a0 12 = ivb1 a0 12 from fl1.i ty1 rfl 12) (show (-2147483648) ≤ ivh1 a0 13 ∧ ivh1 a0 13 ≤ 2147483647 from W1.int ty14 13) (show ivh1 a0 13 = ivb1 a0 13 from fl1.i ty1 rfl 13) (show (-2147483648) ≤ ivh1 a0 14 ∧ ivh1 a0 14 ≤ 2147483647 from W1.int ty14 14) (show ivh1 a0 14 = ivb1 a0 14 from fl1.i ty1 rfl 14) (show (-2147483648) ≤ ivh1 a0 15 ∧ ivh1 a0 15 ≤ 2147483647 from W1.int ty14 15) (show ivh1 a0 15 = ivb1 a0 15 from fl1.i ty1 rfl 15) (show (-2147483648) ≤ ivh1 a0 16 ∧ ivh1 a0 16 ≤ 2147483647 from W1.int ty14 16) (show ivh1 a0 16 = ivb1 a0 16 from fl1.i ty1 rfl 16) (F1.call X1 fl2 rfl) (fun ri6 ie4 ri7 ie6 ri8 ie8 ri9 ie10 ri10 ie12 ri11 ie14 F2 => ?_)
            refine c_st (st2 := [.int (iI f2)]) rfl ?_
            refine hv17 (show ivh2 a0 11 = ivh1 a0 11 from kp11f2) (show ivh2 a0 12 = ivh1 a0 12 from kp12f2) (show ivh2 a0 13 = ivh1 a0 13 from kp13f2) (show ivh2 a0 14 = ivh1 a0 14 from kp14f2) (show ivh2 a0 15 = ivh1 a0 15 from kp15f2) (show ivh2 a0 16 = ivh1 a0 16 from kp16f2) (show f2 = (ivh1 (sk 3) 2) from exf2) (show 1 ≤ ivh2 a0 11 ∧ ivh2 a0 11 ≤ 100 from W2.int ty14 11) (show 1 ≤ ivh2 a0 12 ∧ ivh2 a0 12 ≤ 50 from W2.int ty14 12) (show (-2147483648) ≤ ivh2 a0 13 ∧ ivh2 a0 13 ≤ 2147483647 from W2.int ty14 13) (show (-2147483648) ≤ ivh2 a0 14 ∧ ivh2 a0 14 ≤ 2147483647 from W2.int ty14 14) (show (-2147483648) ≤ ivh2 a0 15 ∧ ivh2 a0 15 ≤ 2147483647 from W2.int ty14 15) (show (-2147483648) ≤ ivh2 a0 16 ∧ ivh2 a0 16 ≤ 2147483647 from W2.int ty14 16) (show 0 ≤ ivh2 (sk 3) 2 ∧ ivh2 (sk 3) 2 ≤ 500 from W2.int ty13 2) (show ivh2 (sk 3) 2 = ivh1 (sk 3) 2 from fl2.i ty13 rfl 2) (xl1.ty ty2) (show ivh1 (sk 2) 2 = ivb1 (sk 2) 2 from fl1.i ty2 rfl 2) (fun gk11f2 gk12f2 gk13f2 gk14f2 gk15f2 gk16f2 gf2 ri12 ri13 ri14 ri15 ri16 ri17 ri18 ie22 ty15 ie24 => ?_)
            refine hv2 (show 0 ≤ ivh2 (sk 2) 2 ∧ ivh2 (sk 2) 2 ≤ 3000 from W2.int ty15 2) (show ivh2 (sk 2) 2 = ivh1 (sk 2) 2 from fl2.i ty15 rfl 2) (fun ri19 ie23 => ?_)
            exact c_iret C dX11_addText_120 rfl (by decide) (rom0 hph pl2 (by decide)) ⟨f2, rfl, X1, F2, W2, ⟨by omega, by omega⟩, (fun ss hs => Or.inr ⟨by omega, fun j hj => htk ss hs j (by omega), by omega, by omega⟩), (by omega), (by omega), (by omega), (by omega), (by omega), (by omega), (fun ss tt hs ht => ⟨fun q => absurd q (by omega), fun _ => by
                have q := gf1.2 ss tt (CT.fr hs hW tsk2 Fb1 rfl rfl rfl rfl rfl) (hc3 tt ht) (by omega)
                rw [show ivb1 (sk 3) 2 = iv (sk 3) 2 by omega] at q
                exact CT.fr (q) W1 ty13 fl2 rfl rfl rfl rfl rfl⟩), (Eq.trans (show rvh1 a0 9 = rvb1 a0 9 from (fl1.r ty1 rfl 9)) (show rvb1 a0 9 = rv a0 9 from hkr9)), (Eq.trans (show rvh1 a0 10 = rvb1 a0 10 from (fl1.r ty1 rfl 10)) (show rvb1 a0 10 = rv a0 10 from hkr10))⟩
          · refine c_aload_n (j := 1) (x := a0) C dX11_addText_91 rfl ?_
            refine c_getr (k := 1) C ck_12 dX11_addText_92 w2_45 (by decide) ty1 rfl rfl (by decide) rfl rq2 ?_
            refine c_st (st2 := [.ref (sk 3)]) rfl ?_
            have pl3 := Phi.le Wb1 skb1
            refine d_callV (As := []) (rest := []) C hM (C_clear_3 (a0 := (sk 3)) Wb1 skb1 ty3  ) dX11_addText_95 kV_X11_164 rfl ty3 rfl rfl (by decide) ck_2 rfl (Nat.le_of_ble_eq_true rfl) ⟨(Nat.le_of_ble_eq_true rfl), (Nat.le_of_ble_eq_true rfl)⟩ hph pl3 (show 0 + 0 = 0 from rfl) (by decide) (fun rh3 Lh3 clh3 lnh3 ivh3 rvh3 h3 => ?_)
            obtain ⟨rfl, rfl, rfl, rfl, rfl, fl3, W3, exf3⟩ := h3
            have F3 := Fb1.call Xb1 fl3 rfl
            refine c_st (st2 := []) rfl ?_
            refine hv2 (show 0 ≤ ivh3 (sk 3) 2 ∧ ivh3 (sk 3) 2 ≤ 500 from W3.int ty3 2) (show ivh3 (sk 3) 2 = 0 from exf3) (fun ri20 gf3 => ?_)
            refine c_aload_n (j := 1) (x := a0) C dX11_addText_98 rfl ?_
            refine c_getr (k := 1) C ck_12 dX11_addText_99 w2_45 (by decide) ty1 rfl rfl (by decide) rfl rq2 ?_
            refine c_st (st2 := [.ref (sk 3)]) rfl ?_
            refine c_aload_n (j := 1) (x := a0) C dX11_addText_102 rfl ?_
            refine c_getr (k := 0) C ck_12 dX11_addText_103 w2_44 (by decide) ty1 rfl rfl (by decide) rfl rq1 ?_
            refine c_st (st2 := [.ref (sk 2), .ref (sk 3)]) rfl ?_
            refine hv2 (show 0 ≤ ivh3 (sk 2) 2 ∧ ivh3 (sk 2) 2 ≤ 3000 from W3.int ty2 2) (show ivh3 (sk 2) 2 = ivb1 (sk 2) 2 from fl3.i ty2 rfl 2) (fun ri21 ie26 => ?_)
            refine d_callV (As := [.ref (sk 2)]) (rest := []) C hM (C_addAll_3 (a0 := (sk 3)) (a1 := (sk 2)) W3 skb1 ty3 ty2  ) dX11_addText_106 kV_X11_227 rfl ty3 rfl rfl (by decide) ck_2 rfl (Nat.le_of_ble_eq_true rfl) ⟨(Nat.le_of_ble_eq_true rfl), (Nat.le_of_ble_eq_true rfl)⟩ hph pl3 (show 0 + 0 = 0 from rfl) (by decide) (fun rh4 Lh4 clh4 lnh4 ivh4 rvh4 h4 => ?_)
            obtain ⟨rfl, xl4, fl4, W4, exf4⟩ := h4
            refine hv12 (F3.call Xb1 fl4 rfl) (Xb1.ty tsk4) (Xb1.ty tsk5) (Xb1.ty tsk13) (Xb1.ty tsk14) (Xb1.ty tsk15) (Xb1.ty tsk16) (Xb1.ty tsk17) (Xb1.ty tsk22) (Xb1.ty tsk23) (Xb1.trans xl4) (xl4.skl skb1) (fun F4 ty16 ty17 ty18 ty19 ty20 ty21 ty22 ty23 ty24 X2 sk2 => ?_)
            refine c_st (st2 := []) rfl ?_
            refine hv2 (xl4.ty ty3) (show ivh4 (sk 3) 2 = min (ivh3 (sk 3) 2 + ivh3 (sk 2) 2) 500 ∧ APD ivh3 rvb1 (sk 3) (sk 2) ivh4 rvh4 from exf4) (fun ty25 gf4 => ?_)
            have ri22 : 0 ≤ ivh4 (sk 3) 2 ∧ ivh4 (sk 3) 2 ≤ 500 := W4.int ty25 2
            refine c_aload_n (j := 1) (x := a0) C dX11_addText_109 rfl ?_
            refine c_aload_n (j := 1) (x := a0) C dX11_addText_110 rfl ?_
            refine hv2 (xl4.ty ty1) (show rvh4 a0 1 = rvb1 a0 1 from (fl4.r ty1 rfl 1)) (fun ty26 re2 => ?_)
            rw [rq2] at re2
            refine c_getr (k := 1) C ck_12 dX11_addText_111 w2_45 (by decide) ty26 rfl rfl (by decide) rfl re2 ?_
            refine c_st (st2 := [.ref (sk 3), .ref a0]) rfl ?_
            refine c_get (k := 2) C ck_2 dX11_addText_114 w1_44 (by decide) ty25 rfl rfl (by decide) rfl ?_
            have pl4 := Phi.le W4 sk2
            refine d_callV (As := [.int (iI (ivh4 (sk 3) 2))]) (rest := []) C hM (C_done (a0 := a0) (x := ivh4 (sk 3) 2) W4 sk2 ty26 (by omega) ) dX11_addText_117 kV_X11_109 rfl ty26 rfl rfl (by decide) ck_12 rfl (Nat.le_of_ble_eq_true rfl) ⟨(Nat.le_of_ble_eq_true rfl), (Nat.le_of_ble_eq_true rfl)⟩ hph pl4 (show 0 + 0 = 0 from rfl) (by decide) (fun rh5 Lh5 clh5 lnh5 ivh5 rvh5 h5 => ?_)
            obtain ⟨f5, rfl, rfl, rfl, rfl, rfl, fl5, W5, rgf5, exf5, kp11f5, kp12f5, kp13f5, kp14f5, kp15f5, kp16f5⟩ := h5
            refine hv19 (show 1 ≤ ivh4 a0 11 ∧ ivh4 a0 11 ≤ 100 from W4.int ty26 11) (show ivh4 a0 11 = ivh3 a0 11 from fl4.i ty1 rfl 11) (show ivh3 a0 11 = ivb1 a0 11 from fl3.i ty1 rfl 11) (show 1 ≤ ivh4 a0 12 ∧ ivh4 a0 12 ≤ 50 from W4.int ty26 12) (show ivh4 a0 12 = ivh3 a0 12 from fl4.i ty1 rfl 12) (show ivh3 a0 12 = ivb1 a0 12 from fl3.i ty1 rfl 12) (show (-2147483648) ≤ ivh4 a0 13 ∧ ivh4 a0 13 ≤ 2147483647 from W4.int ty26 13) (show ivh4 a0 13 = ivh3 a0 13 from fl4.i ty1 rfl 13) (show ivh3 a0 13 = ivb1 a0 13 from fl3.i ty1 rfl 13) (show (-2147483648) ≤ ivh4 a0 14 ∧ ivh4 a0 14 ≤ 2147483647 from W4.int ty26 14) (show ivh4 a0 14 = ivh3 a0 14 from fl4.i ty1 rfl 14) (show ivh3 a0 14 = ivb1 a0 14 from fl3.i ty1 rfl 14) (show (-2147483648) ≤ ivh4 a0 15 ∧ ivh4 a0 15 ≤ 2147483647 from W4.int ty26 15) (show ivh4 a0 15 = ivh3 a0 15 from fl4.i ty1 rfl 15) (show ivh3 a0 15 = ivb1 a0 15 from fl3.i ty1 rfl 15) (show (-2147483648) ≤ ivh4 a0 16 ∧ ivh4 a0 16 ≤ 2147483647 from W4.int ty26 16) (show ivh4 a0 16 = ivh3 a0 16 from fl4.i ty1 rfl 16) (show ivh3 a0 16 = ivb1 a0 16 from fl3.i ty1 rfl 16) (F4.call X2 fl5 rfl) (fun ri23 ie28 ie29 ri24 ie31 ie32 ri25 ie34 ie35 ri26 ie37 ie38 ri27 ie40 ie41 ri28 ie43 ie44 F5 => ?_)
            refine c_st (st2 := [.int (iI f5)]) rfl ?_
            refine hv17 (show ivh5 a0 11 = ivh4 a0 11 from kp11f5) (show ivh5 a0 12 = ivh4 a0 12 from kp12f5) (show ivh5 a0 13 = ivh4 a0 13 from kp13f5) (show ivh5 a0 14 = ivh4 a0 14 from kp14f5) (show ivh5 a0 15 = ivh4 a0 15 from kp15f5) (show ivh5 a0 16 = ivh4 a0 16 from kp16f5) (show f5 = (ivh4 (sk 3) 2) from exf5) (show 1 ≤ ivh5 a0 11 ∧ ivh5 a0 11 ≤ 100 from W5.int ty26 11) (show 1 ≤ ivh5 a0 12 ∧ ivh5 a0 12 ≤ 50 from W5.int ty26 12) (show (-2147483648) ≤ ivh5 a0 13 ∧ ivh5 a0 13 ≤ 2147483647 from W5.int ty26 13) (show (-2147483648) ≤ ivh5 a0 14 ∧ ivh5 a0 14 ≤ 2147483647 from W5.int ty26 14) (show (-2147483648) ≤ ivh5 a0 15 ∧ ivh5 a0 15 ≤ 2147483647 from W5.int ty26 15) (show (-2147483648) ≤ ivh5 a0 16 ∧ ivh5 a0 16 ≤ 2147483647 from W5.int ty26 16) (show 0 ≤ ivh5 (sk 3) 2 ∧ ivh5 (sk 3) 2 ≤ 500 from W5.int ty25 2) (show ivh5 (sk 3) 2 = ivh4 (sk 3) 2 from fl5.i ty25 rfl 2) (xl4.ty ty2) (show ivh4 (sk 2) 2 = ivh3 (sk 2) 2 from fl4.i ty2 rfl 2) (fun gk11f5 gk12f5 gk13f5 gk14f5 gk15f5 gk16f5 gf5 ri29 ri30 ri31 ri32 ri33 ri34 ri35 ie52 ty27 ie54 => ?_)
            refine hv2 (show 0 ≤ ivh5 (sk 2) 2 ∧ ivh5 (sk 2) 2 ≤ 3000 from W5.int ty27 2) (show ivh5 (sk 2) 2 = ivh4 (sk 2) 2 from fl5.i ty27 rfl 2) (fun ri36 ie53 => ?_)
            exact c_iret C dX11_addText_120 rfl (by decide) (rom0 hph pl4 (by decide)) ⟨f5, rfl, X2, F5, W5, ⟨by omega, by omega⟩, (fun ss hs => Or.inr ⟨by omega, fun j hj => htk ss hs j (by omega), by omega, by omega⟩), (by omega), (by omega), (by omega), (by omega), (by omega), (by omega), (fun ss tt hs ht => ⟨fun q => absurd q (by omega), fun _ => CT.zero (by omega)⟩), (Eq.trans (show rvh4 a0 9 = rvb1 a0 9 from (fl4.r ty1 rfl 9)) (show rvb1 a0 9 = rv a0 9 from hkr9)), (Eq.trans (show rvh4 a0 10 = rvb1 a0 10 from (fl4.r ty1 rfl 10)) (show rvb1 a0 10 = rv a0 10 from hkr10))⟩
        · refine c_aload_n (j := 1) (x := a0) C dX11_addText_74 rfl ?_
          refine c_bipush (z := 6) C dX11_addText_75 (by decide) ?_
          have pl5 := Phi.le Wb1 skb1
          refine d_callV (As := [.int (iI 6)]) (rest := []) C hM (C_refuse (a0 := a0) (x := 6) Wb1 skb1 ty1 ⟨by decide, by decide⟩ ) dX11_addText_77 kV_X11_102 rfl ty1 rfl rfl (by decide) ck_12 rfl (Nat.le_of_ble_eq_true rfl) ⟨(Nat.le_of_ble_eq_true rfl), (Nat.le_of_ble_eq_true rfl)⟩ hph pl5 (show 0 + 0 = 0 from rfl) (by decide) (fun rh6 Lh6 clh6 lnh6 ivh6 rvh6 h6 => ?_)
          obtain ⟨f6, rfl, rfl, rfl, rfl, rfl, fl6, W6, rgf6, exf6, kp11f6, kp12f6, kp13f6, kp14f6, kp15f6, kp16f6⟩ := h6
          refine hv7 (show 1 ≤ ivb1 a0 11 ∧ ivb1 a0 11 ≤ 100 from Wb1.int ty1 11) (show 1 ≤ ivb1 a0 12 ∧ ivb1 a0 12 ≤ 50 from Wb1.int ty1 12) (show (-2147483648) ≤ ivb1 a0 13 ∧ ivb1 a0 13 ≤ 2147483647 from Wb1.int ty1 13) (show (-2147483648) ≤ ivb1 a0 14 ∧ ivb1 a0 14 ≤ 2147483647 from Wb1.int ty1 14) (show (-2147483648) ≤ ivb1 a0 15 ∧ ivb1 a0 15 ≤ 2147483647 from Wb1.int ty1 15) (show (-2147483648) ≤ ivb1 a0 16 ∧ ivb1 a0 16 ≤ 2147483647 from Wb1.int ty1 16) (Fb1.call Xb1 fl6 rfl) (fun ri37 ri38 ri39 ri40 ri41 ri42 F6 => ?_)
          refine c_st (st2 := [.int (iI f6)]) rfl ?_
          refine hv17 (show ivh6 a0 11 = ivb1 a0 11 from kp11f6) (show ivh6 a0 12 = ivb1 a0 12 from kp12f6) (show ivh6 a0 13 = ivb1 a0 13 from kp13f6) (show ivh6 a0 14 = ivb1 a0 14 from kp14f6) (show ivh6 a0 15 = ivb1 a0 15 from kp15f6) (show ivh6 a0 16 = ivb1 a0 16 from kp16f6) (show f6 = -1 from exf6) (show 1 ≤ ivh6 a0 11 ∧ ivh6 a0 11 ≤ 100 from W6.int ty1 11) (show 1 ≤ ivh6 a0 12 ∧ ivh6 a0 12 ≤ 50 from W6.int ty1 12) (show (-2147483648) ≤ ivh6 a0 13 ∧ ivh6 a0 13 ≤ 2147483647 from W6.int ty1 13) (show (-2147483648) ≤ ivh6 a0 14 ∧ ivh6 a0 14 ≤ 2147483647 from W6.int ty1 14) (show (-2147483648) ≤ ivh6 a0 15 ∧ ivh6 a0 15 ≤ 2147483647 from W6.int ty1 15) (show (-2147483648) ≤ ivh6 a0 16 ∧ ivh6 a0 16 ≤ 2147483647 from W6.int ty1 16) (show 0 ≤ ivh6 (sk 3) 2 ∧ ivh6 (sk 3) 2 ≤ 500 from W6.int ty3 2) (show ivh6 (sk 3) 2 = ivb1 (sk 3) 2 from fl6.i ty3 rfl 2) (show 0 ≤ ivh6 (sk 2) 2 ∧ ivh6 (sk 2) 2 ≤ 3000 from W6.int ty2 2) (show ivh6 (sk 2) 2 = ivb1 (sk 2) 2 from fl6.i ty2 rfl 2) (fun gk11f6 gk12f6 gk13f6 gk14f6 gk15f6 gk16f6 gf6 ri43 ri44 ri45 ri46 ri47 ri48 ri49 ie67 ri50 ie68 => ?_)
          exact c_iret C dX11_addText_80 rfl (by decide) (rom0 hph pl5 (by decide)) ⟨f6, rfl, Xb1, F6, W6, ⟨by omega, by omega⟩, (fun ss hs => Or.inl ⟨by omega, by omega, fun q => absurd q.2 (by omega)⟩), (by omega), (by omega), (by omega), (by omega), (by omega), (by omega), (fun ss tt hs ht => ⟨fun _ => CT.fr (hc3 tt ht) Wb1 ty3 fl6 rfl rfl rfl rfl rfl, fun q => absurd (by omega) q⟩), (show rvb1 a0 9 = rv a0 9 from hkr9), (show rvb1 a0 10 = rv a0 10 from hkr10)⟩
      · refine c_aload_n (j := 1) (x := a0) C dX11_addText_13 rfl ?_
        refine c_getr (k := 0) C ck_12 dX11_addText_14 w2_44 (by decide) ty1 rfl rfl (by decide) rfl rq1 ?_
        refine c_st (st2 := [.ref (sk 2)]) rfl ?_
        refine c_iload_n (j := 0) C dX11_addText_17 rfl ?_
        have pl6 := Phi.le Wb1 skb1
        refine d_callV (As := [.int (iI k)]) (rest := []) C hM (C_at_2 (a0 := (sk 2)) (i := k) Wb1 skb1 ty2 (by omega) ) dX11_addText_18 kV_X11_224 rfl ty2 rfl rfl (by decide) ck_2 rfl (Nat.le_of_ble_eq_true rfl) ⟨(Nat.le_of_ble_eq_true rfl), (Nat.le_of_ble_eq_true rfl)⟩ hph pl6 (show 0 + 0 = 0 from rfl) (by decide) (fun rh7 Lh7 clh7 lnh7 ivh7 rvh7 h7 => ?_)
        obtain ⟨f7, rfl, rfl, rfl, rfl, rfl, rfl, rgf7, exf7⟩ := h7
        refine c_st (st2 := [.int (iI f7)]) rfl ?_
        have gf7 : ((0 ≤ k ∧ k < ivb1 (sk 2) 2) ∨ f7 = 0) ∧ ∀ ss, CT ivb1 rvb1 (sk 2) ss → 0 ≤ k → k < ivb1 (sk 2) 2 → f7 = ss k.toNat := exf7
        refine c_istore_n (lv2 := [(2, .int (iI f7)), (1, .int (iI k)), (0, .ref a0)]) C dX11_addText_21 (by decide) rfl ?_
        refine c_iload_n (j := 0) C dX11_addText_22 rfl ?_
        refine c_bipush (z := 10) C dX11_addText_23 (by decide) ?_
        refine c_icmp_eq (tgt := 47) C ⟨by omega, by omega⟩ ⟨by decide, by decide⟩ dX11_addText_25 (by decide) (fun c4 => ?_) (fun c4 => ?_)
        · refine c_iinc (z := k) (j := 1) (lv2 := [(1, .int (iI (k + 1))), (2, .int (iI f7)), (0, .ref a0)]) C dX11_addText_47 rfl (by decide) rfl ?_
          refine c_goto (tgt := 2) C dX11_addText_50 (by decide) ?_
          refine hv7 (Xb1.ty tsk3) (show 1 ≤ ivb1 a0 11 ∧ ivb1 a0 11 ≤ 100 from Wb1.int ty1 11) (show 1 ≤ ivb1 a0 12 ∧ ivb1 a0 12 ≤ 50 from Wb1.int ty1 12) (show (-2147483648) ≤ ivb1 a0 13 ∧ ivb1 a0 13 ≤ 2147483647 from Wb1.int ty1 13) (show (-2147483648) ≤ ivb1 a0 14 ∧ ivb1 a0 14 ≤ 2147483647 from Wb1.int ty1 14) (show (-2147483648) ≤ ivb1 a0 15 ∧ ivb1 a0 15 ≤ 2147483647 from Wb1.int ty1 15) (show (-2147483648) ≤ ivb1 a0 16 ∧ ivb1 a0 16 ≤ 2147483647 from Wb1.int ty1 16) (fun ty28 ri52 ri53 ri54 ri55 ri56 ri57 => ?_)
          have ri51 : 0 ≤ ivb1 (sk 3) 2 ∧ ivb1 (sk 3) 2 ≤ 500 := Wb1.int ty28 2
          refine c_lv (lv2 := [(1, .int (iI (k + 1))), (0, .ref a0)]) [0, 2] rfl ?_
          exact ih1  (k + 1) _ _ _ _ _ (by omega) Xb1 Wb1 Fb1  (by omega) (by show ivb1 (sk 3) 2 = iv (sk 3) 2; omega) (fun ss hs => TOK.snoc (htk ss hs) (by omega) (by have e := gf7.2 ss (CT.fr hs hW tsk2 Fb1 rfl rfl rfl rfl rfl) (by omega) (by omega); rw [← e]; omega)) hc3 (by show ivb1 a0 11 = iv a0 11; omega) (by show ivb1 a0 12 = iv a0 12; omega) (by show ivb1 a0 13 = iv a0 13; omega) (by show ivb1 a0 14 = iv a0 14; omega) (by show ivb1 a0 15 = iv a0 15; omega) (by show ivb1 a0 16 = iv a0 16; omega) (show rvb1 a0 9 = rv a0 9 from hkr9) (show rvb1 a0 10 = rv a0 10 from hkr10)
        · refine c_iload_n (j := 0) C dX11_addText_28 rfl ?_
          refine c_bipush (z := 32) C dX11_addText_29 (by decide) ?_
          refine c_icmp_lt (tgt := 40) C ⟨by omega, by omega⟩ ⟨by decide, by decide⟩ dX11_addText_31 (by decide) (fun c5 => ?_) (fun c5 => ?_)
          · refine c_aload_n (j := 2) (x := a0) C dX11_addText_40 rfl ?_
            refine c_bipush (z := 6) C dX11_addText_41 (by decide) ?_
            have ty29 := Xb1.ty tsk3
            refine d_callV (As := [.int (iI 6)]) (rest := []) C hM (C_refuse (a0 := a0) (x := 6) Wb1 skb1 ty1 ⟨by decide, by decide⟩ ) dX11_addText_43 kV_X11_102 rfl ty1 rfl rfl (by decide) ck_12 rfl (Nat.le_of_ble_eq_true rfl) ⟨(Nat.le_of_ble_eq_true rfl), (Nat.le_of_ble_eq_true rfl)⟩ hph pl6 (show 0 + 0 = 0 from rfl) (by decide) (fun rh8 Lh8 clh8 lnh8 ivh8 rvh8 h8 => ?_)
            obtain ⟨f8, rfl, rfl, rfl, rfl, rfl, fl8, W8, rgf8, exf8, kp11f8, kp12f8, kp13f8, kp14f8, kp15f8, kp16f8⟩ := h8
            refine hv7 (show 1 ≤ ivb1 a0 11 ∧ ivb1 a0 11 ≤ 100 from Wb1.int ty1 11) (show 1 ≤ ivb1 a0 12 ∧ ivb1 a0 12 ≤ 50 from Wb1.int ty1 12) (show (-2147483648) ≤ ivb1 a0 13 ∧ ivb1 a0 13 ≤ 2147483647 from Wb1.int ty1 13) (show (-2147483648) ≤ ivb1 a0 14 ∧ ivb1 a0 14 ≤ 2147483647 from Wb1.int ty1 14) (show (-2147483648) ≤ ivb1 a0 15 ∧ ivb1 a0 15 ≤ 2147483647 from Wb1.int ty1 15) (show (-2147483648) ≤ ivb1 a0 16 ∧ ivb1 a0 16 ≤ 2147483647 from Wb1.int ty1 16) (Fb1.call Xb1 fl8 rfl) (fun ri58 ri59 ri60 ri61 ri62 ri63 F7 => ?_)
            refine c_st (st2 := [.int (iI f8)]) rfl ?_
            refine hv17 (show ivh8 a0 11 = ivb1 a0 11 from kp11f8) (show ivh8 a0 12 = ivb1 a0 12 from kp12f8) (show ivh8 a0 13 = ivb1 a0 13 from kp13f8) (show ivh8 a0 14 = ivb1 a0 14 from kp14f8) (show ivh8 a0 15 = ivb1 a0 15 from kp15f8) (show ivh8 a0 16 = ivb1 a0 16 from kp16f8) (show f8 = -1 from exf8) (show 1 ≤ ivh8 a0 11 ∧ ivh8 a0 11 ≤ 100 from W8.int ty1 11) (show 1 ≤ ivh8 a0 12 ∧ ivh8 a0 12 ≤ 50 from W8.int ty1 12) (show (-2147483648) ≤ ivh8 a0 13 ∧ ivh8 a0 13 ≤ 2147483647 from W8.int ty1 13) (show (-2147483648) ≤ ivh8 a0 14 ∧ ivh8 a0 14 ≤ 2147483647 from W8.int ty1 14) (show (-2147483648) ≤ ivh8 a0 15 ∧ ivh8 a0 15 ≤ 2147483647 from W8.int ty1 15) (show (-2147483648) ≤ ivh8 a0 16 ∧ ivh8 a0 16 ≤ 2147483647 from W8.int ty1 16) (show 0 ≤ ivh8 (sk 3) 2 ∧ ivh8 (sk 3) 2 ≤ 500 from W8.int ty29 2) (show ivh8 (sk 3) 2 = ivb1 (sk 3) 2 from fl8.i ty29 rfl 2) (show 0 ≤ ivh8 (sk 2) 2 ∧ ivh8 (sk 2) 2 ≤ 3000 from W8.int ty2 2) (show ivh8 (sk 2) 2 = ivb1 (sk 2) 2 from fl8.i ty2 rfl 2) (fun gk11f8 gk12f8 gk13f8 gk14f8 gk15f8 gk16f8 gf8 ri64 ri65 ri66 ri67 ri68 ri69 ri70 ie88 ri71 ie90 => ?_)
            exact c_iret C dX11_addText_46 rfl (by decide) (rom0 hph pl6 (by decide)) ⟨f8, rfl, Xb1, F7, W8, ⟨by omega, by omega⟩, (fun ss hs => Or.inl ⟨by omega, by omega, fun q => absurd (q.1 k.toNat (by omega)) (by have e := gf7.2 ss (CT.fr hs hW tsk2 Fb1 rfl rfl rfl rfl rfl) (by omega) (by omega); rw [← e]; omega)⟩), (by omega), (by omega), (by omega), (by omega), (by omega), (by omega), (fun ss tt hs ht => ⟨fun _ => CT.fr (hc3 tt ht) Wb1 ty29 fl8 rfl rfl rfl rfl rfl, fun q => absurd (by omega) q⟩), (show rvb1 a0 9 = rv a0 9 from hkr9), (show rvb1 a0 10 = rv a0 10 from hkr10)⟩
          · refine c_iload_n (j := 0) C dX11_addText_34 rfl ?_
            refine c_bipush (z := 126) C dX11_addText_35 (by decide) ?_
            refine c_icmp_le (tgt := 47) C ⟨by omega, by omega⟩ ⟨by decide, by decide⟩ dX11_addText_37 (by decide) (fun c6 => ?_) (fun c6 => ?_)
            · refine c_iinc (z := k) (j := 1) (lv2 := [(1, .int (iI (k + 1))), (2, .int (iI f7)), (0, .ref a0)]) C dX11_addText_47 rfl (by decide) rfl ?_
              refine c_goto (tgt := 2) C dX11_addText_50 (by decide) ?_
              refine hv7 (Xb1.ty tsk3) (show 1 ≤ ivb1 a0 11 ∧ ivb1 a0 11 ≤ 100 from Wb1.int ty1 11) (show 1 ≤ ivb1 a0 12 ∧ ivb1 a0 12 ≤ 50 from Wb1.int ty1 12) (show (-2147483648) ≤ ivb1 a0 13 ∧ ivb1 a0 13 ≤ 2147483647 from Wb1.int ty1 13) (show (-2147483648) ≤ ivb1 a0 14 ∧ ivb1 a0 14 ≤ 2147483647 from Wb1.int ty1 14) (show (-2147483648) ≤ ivb1 a0 15 ∧ ivb1 a0 15 ≤ 2147483647 from Wb1.int ty1 15) (show (-2147483648) ≤ ivb1 a0 16 ∧ ivb1 a0 16 ≤ 2147483647 from Wb1.int ty1 16) (fun ty30 ri73 ri74 ri75 ri76 ri77 ri78 => ?_)
              have ri72 : 0 ≤ ivb1 (sk 3) 2 ∧ ivb1 (sk 3) 2 ≤ 500 := Wb1.int ty30 2
              refine c_lv (lv2 := [(1, .int (iI (k + 1))), (0, .ref a0)]) [0, 2] rfl ?_
              exact ih1  (k + 1) _ _ _ _ _ (by omega) Xb1 Wb1 Fb1  (by omega) (by show ivb1 (sk 3) 2 = iv (sk 3) 2; omega) (fun ss hs => TOK.snoc (htk ss hs) (by omega) (by have e := gf7.2 ss (CT.fr hs hW tsk2 Fb1 rfl rfl rfl rfl rfl) (by omega) (by omega); rw [← e]; omega)) hc3 (by show ivb1 a0 11 = iv a0 11; omega) (by show ivb1 a0 12 = iv a0 12; omega) (by show ivb1 a0 13 = iv a0 13; omega) (by show ivb1 a0 14 = iv a0 14; omega) (by show ivb1 a0 15 = iv a0 15; omega) (by show ivb1 a0 16 = iv a0 16; omega) (show rvb1 a0 9 = rv a0 9 from hkr9) (show rvb1 a0 10 = rv a0 10 from hkr10)
            · refine c_aload_n (j := 2) (x := a0) C dX11_addText_40 rfl ?_
              refine c_bipush (z := 6) C dX11_addText_41 (by decide) ?_
              have ty31 := Xb1.ty tsk3
              refine d_callV (As := [.int (iI 6)]) (rest := []) C hM (C_refuse (a0 := a0) (x := 6) Wb1 skb1 ty1 ⟨by decide, by decide⟩ ) dX11_addText_43 kV_X11_102 rfl ty1 rfl rfl (by decide) ck_12 rfl (Nat.le_of_ble_eq_true rfl) ⟨(Nat.le_of_ble_eq_true rfl), (Nat.le_of_ble_eq_true rfl)⟩ hph pl6 (show 0 + 0 = 0 from rfl) (by decide) (fun rh9 Lh9 clh9 lnh9 ivh9 rvh9 h9 => ?_)
              obtain ⟨f9, rfl, rfl, rfl, rfl, rfl, fl9, W9, rgf9, exf9, kp11f9, kp12f9, kp13f9, kp14f9, kp15f9, kp16f9⟩ := h9
              refine hv7 (show 1 ≤ ivb1 a0 11 ∧ ivb1 a0 11 ≤ 100 from Wb1.int ty1 11) (show 1 ≤ ivb1 a0 12 ∧ ivb1 a0 12 ≤ 50 from Wb1.int ty1 12) (show (-2147483648) ≤ ivb1 a0 13 ∧ ivb1 a0 13 ≤ 2147483647 from Wb1.int ty1 13) (show (-2147483648) ≤ ivb1 a0 14 ∧ ivb1 a0 14 ≤ 2147483647 from Wb1.int ty1 14) (show (-2147483648) ≤ ivb1 a0 15 ∧ ivb1 a0 15 ≤ 2147483647 from Wb1.int ty1 15) (show (-2147483648) ≤ ivb1 a0 16 ∧ ivb1 a0 16 ≤ 2147483647 from Wb1.int ty1 16) (Fb1.call Xb1 fl9 rfl) (fun ri79 ri80 ri81 ri82 ri83 ri84 F8 => ?_)
              refine c_st (st2 := [.int (iI f9)]) rfl ?_
              refine hv17 (show ivh9 a0 11 = ivb1 a0 11 from kp11f9) (show ivh9 a0 12 = ivb1 a0 12 from kp12f9) (show ivh9 a0 13 = ivb1 a0 13 from kp13f9) (show ivh9 a0 14 = ivb1 a0 14 from kp14f9) (show ivh9 a0 15 = ivb1 a0 15 from kp15f9) (show ivh9 a0 16 = ivb1 a0 16 from kp16f9) (show f9 = -1 from exf9) (show 1 ≤ ivh9 a0 11 ∧ ivh9 a0 11 ≤ 100 from W9.int ty1 11) (show 1 ≤ ivh9 a0 12 ∧ ivh9 a0 12 ≤ 50 from W9.int ty1 12) (show (-2147483648) ≤ ivh9 a0 13 ∧ ivh9 a0 13 ≤ 2147483647 from W9.int ty1 13) (show (-2147483648) ≤ ivh9 a0 14 ∧ ivh9 a0 14 ≤ 2147483647 from W9.int ty1 14) (show (-2147483648) ≤ ivh9 a0 15 ∧ ivh9 a0 15 ≤ 2147483647 from W9.int ty1 15) (show (-2147483648) ≤ ivh9 a0 16 ∧ ivh9 a0 16 ≤ 2147483647 from W9.int ty1 16) (show 0 ≤ ivh9 (sk 3) 2 ∧ ivh9 (sk 3) 2 ≤ 500 from W9.int ty31 2) (show ivh9 (sk 3) 2 = ivb1 (sk 3) 2 from fl9.i ty31 rfl 2) (show 0 ≤ ivh9 (sk 2) 2 ∧ ivh9 (sk 2) 2 ≤ 3000 from W9.int ty2 2) (show ivh9 (sk 2) 2 = ivb1 (sk 2) 2 from fl9.i ty2 rfl 2) (fun gk11f9 gk12f9 gk13f9 gk14f9 gk15f9 gk16f9 gf9 ri85 ri86 ri87 ri88 ri89 ri90 ri91 ie110 ri92 ie112 => ?_)
              exact c_iret C dX11_addText_46 rfl (by decide) (rom0 hph pl6 (by decide)) ⟨f9, rfl, Xb1, F8, W9, ⟨by omega, by omega⟩, (fun ss hs => Or.inl ⟨by omega, by omega, fun q => absurd (q.1 k.toNat (by omega)) (by have e := gf7.2 ss (CT.fr hs hW tsk2 Fb1 rfl rfl rfl rfl rfl) (by omega) (by omega); rw [← e]; omega)⟩), (by omega), (by omega), (by omega), (by omega), (by omega), (by omega), (fun ss tt hs ht => ⟨fun _ => CT.fr (hc3 tt ht) Wb1 ty31 fl9 rfl rfl rfl rfl rfl, fun q => absurd (by omega) q⟩), (show rvb1 a0 9 = rv a0 9 from hkr9), (show rvb1 a0 10 = rv a0 10 from hkr10)⟩
  refine hv6 (show 1 ≤ iv a0 11 ∧ iv a0 11 ≤ 100 from hW.int t_a0 11) (show 1 ≤ iv a0 12 ∧ iv a0 12 ≤ 50 from hW.int t_a0 12) (show (-2147483648) ≤ iv a0 13 ∧ iv a0 13 ≤ 2147483647 from hW.int t_a0 13) (show (-2147483648) ≤ iv a0 14 ∧ iv a0 14 ≤ 2147483647 from hW.int t_a0 14) (show (-2147483648) ≤ iv a0 15 ∧ iv a0 15 ≤ 2147483647 from hW.int t_a0 15) (show (-2147483648) ≤ iv a0 16 ∧ iv a0 16 ≤ 2147483647 from hW.int t_a0 16) (fun ri93 ri94 ri95 ri96 ri97 ri98 => ?_)
  refine c_lv (lv2 := [(1, .int (iI 0)), (0, .ref a0)]) [0, 1] rfl ?_
  exact Lp1 3003 0 _ _ _ _ _ (by omega) hX0 hW hF0  (by omega) (by show iv (sk 3) 2 = iv (sk 3) 2; omega) (fun ss hs => TOK.zero) (fun tt ht => ht) (by show iv a0 11 = iv a0 11; omega) (by show iv a0 12 = iv a0 12; omega) (by show iv a0 13 = iv a0 13; omega) (by show iv a0 14 = iv a0 14; omega) (by show iv a0 15 = iv a0 15; omega) (by show iv a0 16 = iv a0 16; omega) rfl rfl
set_option maxHeartbeats 4000000 in
set_option maxRecDepth 100000 in
theorem C_text {l : Launch} {G : GT} {mi : Nat} {sk : Nat → Nat} {L : List Nat} {cl ln : Nat → Nat} {iv : Nat → Nat → Int} {rv : Nat → Nat → Option Nat}  {a0 : Nat} (hW : WT (g0 G) sk L cl ln iv rv) (hS : SKL sk L cl) (t_a0 : ty L cl a0 1)  : Mc l G mi (Phi (g0 G) sk) PHM yX11_text cX11_text 2 (some .int) 5 [.ref a0] L cl ln iv rv 0 (fun v L2 cl2 ln2 iv2 rv2 => ∃ f : Int, v = some (.int (iI f)) ∧ XT L cl ln L2 cl2 ln2 ∧ fT [1, 2, 3, 33] L cl iv rv iv2 rv2 ∧ WT (g0 G) sk L2 cl2 ln2 iv2 rv2 ∧ (-2147483648 ≤ f ∧ f ≤ 2147483647) ∧ (∀ ss, CT iv rv (sk 2) ss → ((f = -1 ∧ iv2 (sk 3) 2 = iv (sk 3) 2 ∧ ¬ (TOK ss (iv (sk 2) 2) ∧ iv (sk 3) 2 + iv (sk 2) 2 ≤ 500)) ∨ (f = iv2 (sk 3) 2 ∧ TOK ss (iv (sk 2) 2) ∧ iv (sk 3) 2 + iv (sk 2) 2 ≤ 500 ∧ ((iv (sk 2) 2 = 0 ∧ iv2 (sk 3) 2 = 0) ∨ (iv (sk 2) 2 ≠ 0 ∧ iv2 (sk 3) 2 = iv (sk 3) 2 + iv (sk 2) 2))))) ∧ iv2 a0 11 = iv a0 11 ∧ iv2 a0 12 = iv a0 12 ∧ iv2 a0 13 = iv a0 13 ∧ iv2 a0 14 = iv a0 14 ∧ iv2 a0 15 = iv a0 15 ∧ iv2 a0 16 = iv a0 16 ∧ iv2 (sk 2) 2 = 0 ∧ (∀ ss tt, CT iv rv (sk 2) ss → CT iv rv (sk 3) tt → (f = -1 → CT iv2 rv2 (sk 3) tt) ∧ (f ≠ -1 → CT iv2 rv2 (sk 3) (apd tt (iv (sk 3) 2).toNat ss))) ∧ rv2 a0 9 = rv a0 9 ∧ rv2 a0 10 = rv a0 10) := by
  refine Mc.mk (by decide) (Nat.le_of_ble_eq_true rfl) ?_
  intro p e s m args below meth c A C hM
  refine hv14 (Phi.le hW hS) (show ty L cl (sk 2) 2 from ⟨(hS 2 rfl).1, by rw [(hS 2 rfl).2]; rfl⟩) (show ty L cl (sk 3) 3 from ⟨(hS 3 rfl).1, by rw [(hS 3 rfl).2]; rfl⟩) (show ty L cl (sk 4) 4 from ⟨(hS 4 rfl).1, by rw [(hS 4 rfl).2]; rfl⟩) (show ty L cl (sk 5) 5 from ⟨(hS 5 rfl).1, by rw [(hS 5 rfl).2]; rfl⟩) (show ty L cl (sk 13) 13 from ⟨(hS 13 rfl).1, by rw [(hS 13 rfl).2]; rfl⟩) (show ty L cl (sk 14) 14 from ⟨(hS 14 rfl).1, by rw [(hS 14 rfl).2]; rfl⟩) (show ty L cl (sk 15) 15 from ⟨(hS 15 rfl).1, by rw [(hS 15 rfl).2]; rfl⟩) (show ty L cl (sk 16) 16 from ⟨(hS 16 rfl).1, by rw [(hS 16 rfl).2]; rfl⟩) (show ty L cl (sk 17) 17 from ⟨(hS 17 rfl).1, by rw [(hS 17 rfl).2]; rfl⟩) (show ty L cl (sk 22) 22 from ⟨(hS 22 rfl).1, by rw [(hS 22 rfl).2]; rfl⟩) (show ty L cl (sk 23) 23 from ⟨(hS 23 rfl).1, by rw [(hS 23 rfl).2]; rfl⟩) (show XT L cl ln L cl ln from XT.refl) (show fT [1, 2, 3, 33] L cl iv rv iv rv from fT.refl) (fun hph tsk2 tsk3 tsk4 tsk5 tsk13 tsk14 tsk15 tsk16 tsk17 tsk22 tsk23 hX0 hF0 => ?_)
  refine c_aload_n (j := 0) (x := a0) C dX11_text_0 rfl ?_
  refine hv2 (show 0 ≤ iv (sk 3) 2 ∧ iv (sk 3) 2 ≤ 500 from hW.int tsk3 2) (show 0 ≤ iv (sk 2) 2 ∧ iv (sk 2) 2 ≤ 3000 from hW.int tsk2 2) (fun ri1 ri2 => ?_)
  refine d_callV (As := []) (rest := []) C hM (C_addText (a0 := a0) hW hS t_a0  ) dX11_text_1 kV_X11_221 rfl t_a0 rfl rfl (by decide) ck_12 rfl (Nat.le_of_ble_eq_true rfl) ⟨(Nat.le_of_ble_eq_true rfl), (Nat.le_of_ble_eq_true rfl)⟩ hph hph (show 0 + 0 = 0 from rfl) (by decide) (fun rh1 Lh1 clh1 lnh1 ivh1 rvh1 h1 => ?_)
  obtain ⟨f1, rfl, xl1, fl1, W1, rgf1, exf1, kp11f1, kp12f1, kp13f1, kp14f1, kp15f1, kp16f1, txkf1, kr9f1, kr10f1⟩ := h1
  refine hv9 (show 1 ≤ iv a0 11 ∧ iv a0 11 ≤ 100 from hW.int t_a0 11) (show 1 ≤ iv a0 12 ∧ iv a0 12 ≤ 50 from hW.int t_a0 12) (show (-2147483648) ≤ iv a0 13 ∧ iv a0 13 ≤ 2147483647 from hW.int t_a0 13) (show (-2147483648) ≤ iv a0 14 ∧ iv a0 14 ≤ 2147483647 from hW.int t_a0 14) (show (-2147483648) ≤ iv a0 15 ∧ iv a0 15 ≤ 2147483647 from hW.int t_a0 15) (show (-2147483648) ≤ iv a0 16 ∧ iv a0 16 ≤ 2147483647 from hW.int t_a0 16) (hF0.call hX0 fl1 rfl) (hX0.trans xl1) (xl1.skl hS) (fun ri3 ri4 ri5 ri6 ri7 ri8 F1 X1 sk1 => ?_)
  refine c_st (st2 := [.int (iI f1)]) rfl ?_
  refine hv8 (show ivh1 a0 11 = iv a0 11 from kp11f1) (show ivh1 a0 12 = iv a0 12 from kp12f1) (show ivh1 a0 13 = iv a0 13 from kp13f1) (show ivh1 a0 14 = iv a0 14 from kp14f1) (show ivh1 a0 15 = iv a0 15 from kp15f1) (show ivh1 a0 16 = iv a0 16 from kp16f1) (xl1.ty tsk3) (show ∀ ss, CT iv rv (sk 2) ss → ((f1 = -1 ∧ ivh1 (sk 3) 2 = iv (sk 3) 2 ∧ ¬ (TOK ss (iv (sk 2) 2) ∧ iv (sk 3) 2 + iv (sk 2) 2 ≤ 500)) ∨ (f1 = ivh1 (sk 3) 2 ∧ TOK ss (iv (sk 2) 2) ∧ iv (sk 3) 2 + iv (sk 2) 2 ≤ 500 ∧ ((iv (sk 2) 2 = 0 ∧ ivh1 (sk 3) 2 = 0) ∨ (iv (sk 2) 2 ≠ 0 ∧ ivh1 (sk 3) 2 = iv (sk 3) 2 + iv (sk 2) 2)))) from exf1) (fun gk11f1 gk12f1 gk13f1 gk14f1 gk15f1 gk16f1 ty1 gf1 => ?_)
  have ri9 : 0 ≤ ivh1 (sk 3) 2 ∧ ivh1 (sk 3) 2 ≤ 500 := W1.int ty1 2
  refine c_istore_n (lv2 := [(1, .int (iI f1)), (0, .ref a0)]) C dX11_text_4 (by decide) rfl ?_
  refine c_aload_n (j := 1) (x := a0) C dX11_text_5 rfl ?_
  have ty2 := xl1.ty t_a0
  obtain ⟨rb1, rq1, trb1⟩ := W1.ref ty2 0 rfl rfl rfl
  have erb1 := W1.sk trb1 (by decide) rfl
  subst erb1
  refine c_getr (k := 0) C ck_12 dX11_text_6 w2_44 (by decide) ty2 rfl rfl (by decide) rfl rq1 ?_
  refine c_st (st2 := [.ref (sk 2)]) rfl ?_
  refine hv2 (xl1.ty tsk2) (Phi.le W1 sk1) (fun ty3 pl1 => ?_)
  refine d_callV (As := []) (rest := []) C hM (C_clear_2 (a0 := (sk 2)) W1 sk1 ty3  ) dX11_text_9 kV_X11_164 rfl ty3 rfl rfl (by decide) ck_2 rfl (Nat.le_of_ble_eq_true rfl) ⟨(Nat.le_of_ble_eq_true rfl), (Nat.le_of_ble_eq_true rfl)⟩ hph pl1 (show 0 + 0 = 0 from rfl) (by decide) (fun rh2 Lh2 clh2 lnh2 ivh2 rvh2 h2 => ?_)
  obtain ⟨rfl, rfl, rfl, rfl, rfl, fl2, W2, exf2⟩ := h2
  have F2 := F1.call X1 fl2 rfl
  refine c_st (st2 := []) rfl ?_
  refine hv2 (show 0 ≤ ivh2 (sk 2) 2 ∧ ivh2 (sk 2) 2 ≤ 3000 from W2.int ty3 2) (show ivh2 (sk 2) 2 = 0 from exf2) (fun ri10 gf2 => ?_)
  refine c_iload_n (j := 0) C dX11_text_12 rfl ?_
  refine hv14 (show 1 ≤ ivh2 a0 11 ∧ ivh2 a0 11 ≤ 100 from W2.int ty2 11) (show ivh2 a0 11 = ivh1 a0 11 from fl2.i ty2 rfl 11) (show 1 ≤ ivh2 a0 12 ∧ ivh2 a0 12 ≤ 50 from W2.int ty2 12) (show ivh2 a0 12 = ivh1 a0 12 from fl2.i ty2 rfl 12) (show (-2147483648) ≤ ivh2 a0 13 ∧ ivh2 a0 13 ≤ 2147483647 from W2.int ty2 13) (show ivh2 a0 13 = ivh1 a0 13 from fl2.i ty2 rfl 13) (show (-2147483648) ≤ ivh2 a0 14 ∧ ivh2 a0 14 ≤ 2147483647 from W2.int ty2 14) (show ivh2 a0 14 = ivh1 a0 14 from fl2.i ty2 rfl 14) (show (-2147483648) ≤ ivh2 a0 15 ∧ ivh2 a0 15 ≤ 2147483647 from W2.int ty2 15) (show ivh2 a0 15 = ivh1 a0 15 from fl2.i ty2 rfl 15) (show (-2147483648) ≤ ivh2 a0 16 ∧ ivh2 a0 16 ≤ 2147483647 from W2.int ty2 16) (show ivh2 a0 16 = ivh1 a0 16 from fl2.i ty2 rfl 16) (show 0 ≤ ivh2 (sk 3) 2 ∧ ivh2 (sk 3) 2 ≤ 500 from W2.int ty1 2) (show ivh2 (sk 3) 2 = ivh1 (sk 3) 2 from fl2.i ty1 rfl 2) (fun ri11 ie3 ri12 ie5 ri13 ie7 ri14 ie9 ri15 ie11 ri16 ie13 ri17 ie15 => ?_)
  exact c_iret C dX11_text_13 rfl (by decide) (rom0 hph pl1 (by decide)) ⟨f1, rfl, X1, F2, W2, ⟨by omega, by omega⟩, (fun ss hs => by rw [show ivh2 (sk 3) 2 = ivh1 (sk 3) 2 by omega]; exact gf1 ss hs), (by omega), (by omega), (by omega), (by omega), (by omega), (by omega), (by omega), (fun ss tt hs ht => ⟨fun e => CT.fr ((txkf1 ss tt hs ht).1 e) W1 ty1 fl2 rfl rfl rfl rfl rfl, fun e => CT.fr ((txkf1 ss tt hs ht).2 e) W1 ty1 fl2 rfl rfl rfl rfl rfl⟩), (show rvh1 a0 9 = rv a0 9 from kr9f1), (show rvh1 a0 10 = rv a0 10 from kr10f1)⟩
set_option maxHeartbeats 4000000 in
set_option maxRecDepth 100000 in
theorem C_head {l : Launch} {G : GT} {mi : Nat} {sk : Nat → Nat} {L : List Nat} {cl ln : Nat → Nat} {iv : Nat → Nat → Int} {rv : Nat → Nat → Option Nat}  {a0 : Nat} {i : Int} (hW : WT (g0 G) sk L cl ln iv rv) (hS : SKL sk L cl) (t_a0 : ty L cl a0 1) (h_i : -2147483648 ≤ i ∧ i ≤ 2147483647) (hmr : MRK sk cl iv rv) : Mc l G mi (Phi (g0 G) sk) PHM yX11_head cX11_head 6 (some .int) 8 [.ref a0, .int (iI i)] L cl ln iv rv 0 (fun v L2 cl2 ln2 iv2 rv2 => ∃ f : Int, v = some (.int (iI f)) ∧ XT L cl ln L2 cl2 ln2 ∧ fT [1, 2, 5, 35, 15, 50, 51, 52, 53, 54, 55] L cl iv rv iv2 rv2 ∧ WT (g0 G) sk L2 cl2 ln2 iv2 rv2 ∧ (-2147483648 ≤ f ∧ f ≤ 2147483647) ∧ (True) ∧ iv2 a0 11 = iv a0 11 ∧ iv2 a0 12 = iv a0 12 ∧ iv2 a0 13 = iv a0 13 ∧ iv2 a0 14 = iv a0 14 ∧ iv2 a0 15 = iv a0 15 ∧ iv2 a0 16 = iv a0 16 ∧ iv2 (sk 2) 2 = 0 ∧ rv2 a0 9 = rv a0 9 ∧ rv2 a0 10 = rv a0 10) := by
  refine Mc.mk (by decide) (Nat.le_of_ble_eq_true rfl) ?_
  intro p e s m args below meth c A C hM
  refine hv14 (Phi.le hW hS) (show ty L cl (sk 2) 2 from ⟨(hS 2 rfl).1, by rw [(hS 2 rfl).2]; rfl⟩) (show ty L cl (sk 3) 3 from ⟨(hS 3 rfl).1, by rw [(hS 3 rfl).2]; rfl⟩) (show ty L cl (sk 4) 4 from ⟨(hS 4 rfl).1, by rw [(hS 4 rfl).2]; rfl⟩) (show ty L cl (sk 5) 5 from ⟨(hS 5 rfl).1, by rw [(hS 5 rfl).2]; rfl⟩) (show ty L cl (sk 13) 13 from ⟨(hS 13 rfl).1, by rw [(hS 13 rfl).2]; rfl⟩) (show ty L cl (sk 14) 14 from ⟨(hS 14 rfl).1, by rw [(hS 14 rfl).2]; rfl⟩) (show ty L cl (sk 15) 15 from ⟨(hS 15 rfl).1, by rw [(hS 15 rfl).2]; rfl⟩) (show ty L cl (sk 16) 16 from ⟨(hS 16 rfl).1, by rw [(hS 16 rfl).2]; rfl⟩) (show ty L cl (sk 17) 17 from ⟨(hS 17 rfl).1, by rw [(hS 17 rfl).2]; rfl⟩) (show ty L cl (sk 22) 22 from ⟨(hS 22 rfl).1, by rw [(hS 22 rfl).2]; rfl⟩) (show ty L cl (sk 23) 23 from ⟨(hS 23 rfl).1, by rw [(hS 23 rfl).2]; rfl⟩) (show XT L cl ln L cl ln from XT.refl) (show fT [1, 2, 5, 35, 15, 50, 51, 52, 53, 54, 55] L cl iv rv iv rv from fT.refl) (fun hph tsk2 tsk3 tsk4 tsk5 tsk13 tsk14 tsk15 tsk16 tsk17 tsk22 tsk23 hX0 hF0 => ?_)
  refine c_aload_n (j := 0) (x := a0) C dX11_head_0 rfl ?_
  obtain ⟨rb1, rq1, trb1⟩ := hW.ref t_a0 0 rfl rfl rfl
  have erb1 := hW.sk trb1 (by decide) rfl
  subst erb1
  refine c_getr (k := 0) C ck_12 dX11_head_1 w2_44 (by decide) t_a0 rfl rfl (by decide) rfl rq1 ?_
  refine c_st (st2 := [.ref (sk 2)]) rfl ?_
  have ri1 : 0 ≤ iv (sk 2) 2 ∧ iv (sk 2) 2 ≤ 3000 := hW.int tsk2 2
  refine c_get (k := 2) C ck_2 dX11_head_4 w1_44 (by decide) tsk2 rfl rfl (by decide) rfl ?_
  refine c_bipush (z := 40) C dX11_head_7 (by decide) ?_
  refine c_icmp_gt (tgt := 38) C ⟨by omega, by omega⟩ ⟨by decide, by decide⟩ dX11_head_9 (by decide) (fun c1 => ?_) (fun c1 => ?_)
  · refine c_iconst C dX11_head_38 ?_
    refine c_istore_n (lv2 := [(2, .int (iI 0)), (0, .ref a0), (1, .int (iI i))]) C dX11_head_39 (by decide) rfl ?_
    refine c_aload_n (j := 1) (x := a0) C dX11_head_40 rfl ?_
    obtain ⟨rb2, rq2, trb2⟩ := hW.ref t_a0 6 rfl rfl rfl
    have erb2 := hW.sk trb2 (by decide) rfl
    subst erb2
    refine c_getr (k := 6) C ck_12 dX11_head_41 w2_50 (by decide) t_a0 rfl rfl (by decide) rfl rq2 ?_
    refine c_st (st2 := [.ref (sk 15)]) rfl ?_
    refine d_callV (As := []) (rest := []) C hM (C_wclear (a0 := (sk 15)) hW hS tsk15  ) dX11_head_44 kV_X11_272 rfl tsk15 rfl rfl (by decide) ck_7 rfl (Nat.le_of_ble_eq_true rfl) ⟨(Nat.le_of_ble_eq_true rfl), (Nat.le_of_ble_eq_true rfl)⟩ hph hph (show 0 + 0 = 0 from rfl) (by decide) (fun rh1 Lh1 clh1 lnh1 ivh1 rvh1 h1 => ?_)
    obtain ⟨rfl, rfl, rfl, rfl, rfl, fl1, W1, exf1⟩ := h1
    refine hv2 (hF0.call hX0 fl1 rfl) (MRK.call hmr hW hS XT.refl fl1 rfl rfl) (fun F1 mr1 => ?_)
    refine c_st (st2 := []) rfl ?_
    refine c_iconst C dX11_head_47 ?_
    refine c_istore_n (lv2 := [(3, .int (iI 0)), (2, .int (iI 0)), (0, .ref a0), (1, .int (iI i))]) C dX11_head_48 (by decide) rfl ?_
    have Lp1 : ∀ (nn : Nat) (fl k : Int) (Lb1 : List Nat) (clb1 lnb1 : Nat → Nat) (ivb1 : Nat → Nat → Int) (rvb1 : Nat → Nat → Option Nat) , 3001 - k < (nn : Int) → XT L cl ln Lb1 clb1 lnb1 → WT (g0 G) sk Lb1 clb1 lnb1 ivb1 rvb1 → fT [1, 2, 5, 35, 15, 50, 51, 52, 53, 54, 55] L cl iv rv ivb1 rvb1 → (fl = 0 ∨ fl = 1) → (0 ≤ k ∧ k ≤ 3000) → (ivb1 a0 11 = iv a0 11) → (ivb1 a0 12 = iv a0 12) → (ivb1 a0 13 = iv a0 13) → (ivb1 a0 14 = iv a0 14) → (ivb1 a0 15 = iv a0 15) → (ivb1 a0 16 = iv a0 16) → (rvb1 a0 9 = rv a0 9) → (rvb1 a0 10 = rv a0 10) → cw p l e 8 ((PHM) + 0 - ((Phi (g0 G) sk) ln rv)) s m args below meth c G A 6 (MQ below (Qu G A (Qp G (Phi (g0 G) sk) ((Phi (g0 G) sk) ln rv) 0 (fun v L2 cl2 ln2 iv2 rv2 => ∃ f : Int, v = some (.int (iI f)) ∧ XT L cl ln L2 cl2 ln2 ∧ fT [1, 2, 5, 35, 15, 50, 51, 52, 53, 54, 55] L cl iv rv iv2 rv2 ∧ WT (g0 G) sk L2 cl2 ln2 iv2 rv2 ∧ (-2147483648 ≤ f ∧ f ≤ 2147483647) ∧ (True) ∧ iv2 a0 11 = iv a0 11 ∧ iv2 a0 12 = iv a0 12 ∧ iv2 a0 13 = iv a0 13 ∧ iv2 a0 14 = iv a0 14 ∧ iv2 a0 15 = iv a0 15 ∧ iv2 a0 16 = iv a0 16 ∧ iv2 (sk 2) 2 = 0 ∧ rv2 a0 9 = rv a0 9 ∧ rv2 a0 10 = rv a0 10))) args s (((PHM) + 0 - ((Phi (g0 G) sk) ln rv)) / 16) ((PHM) + 0 - ((Phi (g0 G) sk) ln rv)) A) (Phi (g0 G) sk) ((Phi (g0 G) sk) ln rv) Lb1 clb1 lnb1 ivb1 rvb1 0 49 [(2, .int (iI fl)), (3, .int (iI k)), (0, .ref a0), (1, .int (iI i))] [] := by
      intro nn
      induction nn with
      | zero =>
        intro  fl k Lb1 clb1 lnb1 ivb1 rvb1 hm Xb1 Wb1 Fb1  hfl hk hkp11 hkp12 hkp13 hkp14 hkp15 hkp16 hkr9 hkr10
        have skb1 := Xb1.skl hS
        exact absurd hm (by omega)
      | succ nn ih1 =>
        intro  fl k Lb1 clb1 lnb1 ivb1 rvb1 hm Xb1 Wb1 Fb1  hfl hk hkp11 hkp12 hkp13 hkp14 hkp15 hkp16 hkr9 hkr10
        refine hv2 (Xb1.skl hS) (MRK.call hmr hW hS Xb1 Fb1 rfl rfl) (fun skb1 mrb1 => ?_)
        refine c_iload_n (j := 0) C dX11_head_49 rfl ?_
        refine c_if_eq (tgt := 86) C ⟨by omega, by omega⟩ dX11_head_50 (by decide) (fun c2 => ?_) (fun c2 => ?_)
        · refine c_aload_n (j := 2) (x := a0) C dX11_head_86 rfl ?_
          have ty1 := Xb1.ty t_a0
          obtain ⟨rb3, rq3, trb3⟩ := Wb1.ref ty1 0 rfl rfl rfl
          have erb3 := Wb1.sk trb3 (by decide) rfl
          subst erb3
          refine c_getr (k := 0) C ck_12 dX11_head_87 w2_44 (by decide) ty1 rfl rfl (by decide) rfl rq3 ?_
          refine c_st (st2 := [.ref (sk 2)]) rfl ?_
          refine hv2 (Xb1.ty tsk2) (Phi.le Wb1 skb1) (fun ty2 pl1 => ?_)
          refine d_callV (As := []) (rest := []) C hM (C_clear_2 (a0 := (sk 2)) Wb1 skb1 ty2  ) dX11_head_90 kV_X11_164 rfl ty2 rfl rfl (by decide) ck_2 rfl (Nat.le_of_ble_eq_true rfl) ⟨(Nat.le_of_ble_eq_true rfl), (Nat.le_of_ble_eq_true rfl)⟩ hph pl1 (show 0 + 0 = 0 from rfl) (by decide) (fun rh2 Lh2 clh2 lnh2 ivh2 rvh2 h2 => ?_)
          obtain ⟨rfl, rfl, rfl, rfl, rfl, fl2, W2, exf2⟩ := h2
          refine hv2 (Fb1.call Xb1 fl2 rfl) (MRK.call mrb1 Wb1 skb1 XT.refl fl2 rfl rfl) (fun F2 mr2 => ?_)
          refine c_st (st2 := []) rfl ?_
          refine hv2 (show 0 ≤ ivh2 (sk 2) 2 ∧ ivh2 (sk 2) 2 ≤ 3000 from W2.int ty2 2) (show ivh2 (sk 2) 2 = 0 from exf2) (fun ri2 gf2 => ?_)
          refine c_iload_n (j := 0) C dX11_head_93 rfl ?_
          refine c_if_ne (tgt := 104) C ⟨by omega, by omega⟩ dX11_head_94 (by decide) (fun c3 => ?_) (fun c3 => ?_)
          · refine c_aload_n (j := 2) (x := a0) C dX11_head_104 rfl ?_
            obtain ⟨rb4, rq4, trb4⟩ := W2.ref ty1 4 rfl rfl rfl
            have erb4 := W2.sk trb4 (by decide) rfl
            subst erb4
            refine c_getr (k := 4) C ck_12 dX11_head_105 w2_48 (by decide) ty1 rfl rfl (by decide) rfl rq4 ?_
            refine c_st (st2 := [.ref (sk 13)]) rfl ?_
            refine c_iload_n (j := 3) C dX11_head_108 rfl ?_
            have ty3 := Xb1.ty tsk13
            refine d_callV (As := [.int (iI i)]) (rest := []) C hM (C_whole (a0 := (sk 13)) (i := i) W2 skb1 ty3 (by omega) mr2) dX11_head_109 kV_X11_231 rfl ty3 rfl rfl (by decide) ck_11 rfl (Nat.le_of_ble_eq_true rfl) ⟨(Nat.le_of_ble_eq_true rfl), (Nat.le_of_ble_eq_true rfl)⟩ hph pl1 (show 0 + 0 = 0 from rfl) (by decide) (fun rh3 Lh3 clh3 lnh3 ivh3 rvh3 h3 => ?_)
            obtain ⟨f3, rfl, rfl, rfl, rfl, rfl, rfl, rgf3, exf3⟩ := h3
            refine c_st (st2 := [(va_rf f3)]) rfl ?_
            refine c_astorer_n (r := f3) (lv2 := [(3, (va_rf f3)), (2, .int (iI fl)), (0, .ref a0), (1, .int (iI i))]) C dX11_head_112 (by decide) rfl ?_
            refine c_aloadr_n (j := 0) (r := f3) C dX11_head_113 rfl ?_
            refine c_ifnonnull (r := f3) (tgt := 123) C dX11_head_114 (by decide) (fun ob1 oq1 => ?_) (fun oq1 => ?_)
            · subst oq1
              have tob1 := rgf3 ob1 rfl
              refine c_lv (lv2 := [(3, .ref ob1), (2, .int (iI fl)), (0, .ref a0), (1, .int (iI i))]) [0, 1, 2, 3] rfl ?_
              refine c_st (st2 := []) rfl ?_
              refine c_aload_n (j := 2) (x := a0) C dX11_head_123 rfl ?_
              obtain ⟨rb5, rq5, trb5⟩ := W2.ref ty1 6 rfl rfl rfl
              have erb5 := W2.sk trb5 (by decide) rfl
              subst erb5
              refine c_getr (k := 6) C ck_12 dX11_head_124 w2_50 (by decide) ty1 rfl rfl (by decide) rfl rq5 ?_
              refine c_st (st2 := [.ref (sk 15)]) rfl ?_
              refine c_aload_n (j := 0) (x := ob1) C dX11_head_127 rfl ?_
              have ty4 := Xb1.ty tsk15
              refine hv2 (show 0 ≤ ivh2 (sk 15) 4 ∧ ivh2 (sk 15) 4 ≤ 500 from W2.int ty4 4) (show ivh2 (sk 15) 4 = ivb1 (sk 15) 4 from fl2.i ty4 rfl 4) (fun ri3 ie2 => ?_)
              refine d_callV (As := [.ref ob1]) (rest := []) C hM (C_setBy (a0 := (sk 15)) (a1 := ob1) W2 skb1 ty4 tob1  ) dX11_head_128 kV_X11_253 rfl ty4 rfl rfl (by decide) ck_7 rfl (Nat.le_of_ble_eq_true rfl) ⟨(Nat.le_of_ble_eq_true rfl), (Nat.le_of_ble_eq_true rfl)⟩ hph pl1 (show 0 + 0 = 0 from rfl) (by decide) (fun rh4 Lh4 clh4 lnh4 ivh4 rvh4 h4 => ?_)
              obtain ⟨f4, rfl, rfl, rfl, rfl, rfl, fl4, W4, rgf4, exf4⟩ := h4
              refine hv2 (F2.call Xb1 fl4 rfl) (MRK.call mr2 W2 skb1 XT.refl fl4 rfl rfl) (fun F3 mr3 => ?_)
              refine c_st (st2 := [.int (iI f4)]) rfl ?_
              refine hv3 (show 0 ≤ ivh4 (sk 15) 4 ∧ ivh4 (sk 15) 4 ≤ 500 from W4.int ty4 4) (show 0 ≤ ivh4 (sk 15) 7 ∧ ivh4 (sk 15) 7 ≤ 100000 from W4.int ty4 7) (show (f4 = 0 ∨ f4 = 6 ∨ f4 = 7) ∧ ivh4 (sk 15) 4 = ivh2 (sk 15) 4 ∧ (f4 = 0 → ivh4 (sk 15) 7 ≤ 200) from exf4) (fun ri4 ri5 gf4 => ?_)
              refine c_istore (lv2 := [(4, .int (iI f4)), (3, .ref ob1), (2, .int (iI fl)), (0, .ref a0), (1, .int (iI i))]) C dX11_head_131 (by decide) rfl ?_
              refine c_iload (j := 0) C dX11_head_133 rfl ?_
              refine c_if_eq (tgt := 152) C ⟨by omega, by omega⟩ dX11_head_135 (by decide) (fun c4 => ?_) (fun c4 => ?_)
              · refine c_aload_n (j := 3) (x := a0) C dX11_head_152 rfl ?_
                obtain ⟨rb6, rq6, trb6⟩ := W4.ref ty1 3 rfl rfl rfl
                have erb6 := W4.sk trb6 (by decide) rfl
                subst erb6
                refine c_getr (k := 3) C ck_12 dX11_head_153 w2_47 (by decide) ty1 rfl rfl (by decide) rfl rq6 ?_
                refine c_st (st2 := [.ref (sk 5)]) rfl ?_
                have ty5 := Xb1.ty tsk5
                refine d_callV (As := []) (rest := []) C hM (C_clear_5 (a0 := (sk 5)) W4 skb1 ty5  ) dX11_head_156 kV_X11_164 rfl ty5 rfl rfl (by decide) ck_2 rfl (Nat.le_of_ble_eq_true rfl) ⟨(Nat.le_of_ble_eq_true rfl), (Nat.le_of_ble_eq_true rfl)⟩ hph pl1 (show 0 + 0 = 0 from rfl) (by decide) (fun rh5 Lh5 clh5 lnh5 ivh5 rvh5 h5 => ?_)
                obtain ⟨rfl, rfl, rfl, rfl, rfl, fl5, W5, exf5⟩ := h5
                refine hv2 (F3.call Xb1 fl5 rfl) (MRK.call mr3 W4 skb1 XT.refl fl5 rfl rfl) (fun F4 mr4 => ?_)
                refine c_st (st2 := []) rfl ?_
                refine hv2 (show 0 ≤ ivh5 (sk 5) 2 ∧ ivh5 (sk 5) 2 ≤ 200 from W5.int ty5 2) (show ivh5 (sk 5) 2 = 0 from exf5) (fun ri6 gf5 => ?_)
                refine c_iconst C dX11_head_159 ?_
                refine c_istore (lv2 := [(5, .int (iI 0)), (4, .int (iI f4)), (3, .ref ob1), (2, .int (iI fl)), (0, .ref a0), (1, .int (iI i))]) C dX11_head_160 (by decide) rfl ?_
                have Lp2 : ∀ (nn : Nat) (k2 : Int) (Lb2 : List Nat) (clb2 lnb2 : Nat → Nat) (ivb2 : Nat → Nat → Int) (rvb2 : Nat → Nat → Option Nat) , 101 - k2 < (nn : Int) → XT L cl ln Lb2 clb2 lnb2 → WT (g0 G) sk Lb2 clb2 lnb2 ivb2 rvb2 → fT [1, 2, 5, 35, 15, 50, 51, 52, 53, 54, 55] L cl iv rv ivb2 rvb2 → (0 ≤ k2 ∧ k2 ≤ 100) → (ivb2 (sk 15) 7 ≤ 200) → (ivb2 (sk 2) 2 = 0) → (ivb2 a0 11 = iv a0 11) → (ivb2 a0 12 = iv a0 12) → (ivb2 a0 13 = iv a0 13) → (ivb2 a0 14 = iv a0 14) → (ivb2 a0 15 = iv a0 15) → (ivb2 a0 16 = iv a0 16) → (rvb2 a0 9 = rv a0 9) → (rvb2 a0 10 = rv a0 10) → cw p l e 8 ((PHM) + 0 - ((Phi (g0 G) sk) ln rv)) s m args below meth c G A 6 (MQ below (Qu G A (Qp G (Phi (g0 G) sk) ((Phi (g0 G) sk) ln rv) 0 (fun v L2 cl2 ln2 iv2 rv2 => ∃ f : Int, v = some (.int (iI f)) ∧ XT L cl ln L2 cl2 ln2 ∧ fT [1, 2, 5, 35, 15, 50, 51, 52, 53, 54, 55] L cl iv rv iv2 rv2 ∧ WT (g0 G) sk L2 cl2 ln2 iv2 rv2 ∧ (-2147483648 ≤ f ∧ f ≤ 2147483647) ∧ (True) ∧ iv2 a0 11 = iv a0 11 ∧ iv2 a0 12 = iv a0 12 ∧ iv2 a0 13 = iv a0 13 ∧ iv2 a0 14 = iv a0 14 ∧ iv2 a0 15 = iv a0 15 ∧ iv2 a0 16 = iv a0 16 ∧ iv2 (sk 2) 2 = 0 ∧ rv2 a0 9 = rv a0 9 ∧ rv2 a0 10 = rv a0 10))) args s (((PHM) + 0 - ((Phi (g0 G) sk) ln rv)) / 16) ((PHM) + 0 - ((Phi (g0 G) sk) ln rv)) A) (Phi (g0 G) sk) ((Phi (g0 G) sk) ln rv) Lb2 clb2 lnb2 ivb2 rvb2 0 162 [(5, .int (iI k2)), (4, .int (iI f4)), (3, .ref ob1), (2, .int (iI fl)), (0, .ref a0), (1, .int (iI i))] [] := by
                  intro nn
                  induction nn with
                  | zero =>
                    intro  k2 Lb2 clb2 lnb2 ivb2 rvb2 hm Xb2 Wb2 Fb2  hk2 hco htz hkp11 hkp12 hkp13 hkp14 hkp15 hkp16 hkr9 hkr10
                    have skb2 := Xb2.skl hS
                    exact absurd hm (by omega)
                  | succ nn ih2 =>
                    intro  k2 Lb2 clb2 lnb2 ivb2 rvb2 hm Xb2 Wb2 Fb2  hk2 hco htz hkp11 hkp12 hkp13 hkp14 hkp15 hkp16 hkr9 hkr10
                    refine hv2 (Xb2.skl hS) (MRK.call hmr hW hS Xb2 Fb2 rfl rfl) (fun skb2 mrb2 => ?_)
                    refine c_iload (j := 0) C dX11_head_162 rfl ?_
                    refine c_aload_n (j := 4) (x := a0) C dX11_head_164 rfl ?_
                    have ty6 := Xb2.ty t_a0
                    obtain ⟨rb7, rq7, trb7⟩ := Wb2.ref ty6 6 rfl rfl rfl
                    have erb7 := Wb2.sk trb7 (by decide) rfl
                    subst erb7
                    refine c_getr (k := 6) C ck_12 dX11_head_165 w2_50 (by decide) ty6 rfl rfl (by decide) rfl rq7 ?_
                    refine c_st (st2 := [.ref (sk 15), .int (iI k2)]) rfl ?_
                    have ty7 := Xb2.ty tsk15
                    have ri7 : 0 ≤ ivb2 (sk 15) 7 ∧ ivb2 (sk 15) 7 ≤ 100000 := Wb2.int ty7 7
                    refine c_get (k := 7) C ck_7 dX11_head_168 w1_149 (by decide) ty7 rfl rfl (by decide) rfl ?_
                    refine c_icmp_ge (tgt := 206) C ⟨by omega, by omega⟩ ⟨by omega, by omega⟩ dX11_head_171 (by decide) (fun c5 => ?_) (fun c5 => ?_)
                    · refine c_aload_n (j := 4) (x := a0) C dX11_head_206 rfl ?_
                      refine c_aload_n (j := 4) (x := a0) C dX11_head_207 rfl ?_
                      obtain ⟨rb8, rq8, trb8⟩ := Wb2.ref ty6 3 rfl rfl rfl
                      have erb8 := Wb2.sk trb8 (by decide) rfl
                      subst erb8
                      refine c_getr (k := 3) C ck_12 dX11_head_208 w2_47 (by decide) ty6 rfl rfl (by decide) rfl rq8 ?_
                      refine c_st (st2 := [.ref (sk 5), .ref a0]) rfl ?_
                      have ty8 := Xb2.ty tsk5
                      have ri8 : 0 ≤ ivb2 (sk 5) 2 ∧ ivb2 (sk 5) 2 ≤ 200 := Wb2.int ty8 2
                      refine c_get (k := 2) C ck_2 dX11_head_211 w1_44 (by decide) ty8 rfl rfl (by decide) rfl ?_
                      have pl2 := Phi.le Wb2 skb2
                      refine d_callV (As := [.int (iI (ivb2 (sk 5) 2))]) (rest := []) C hM (C_done (a0 := a0) (x := ivb2 (sk 5) 2) Wb2 skb2 ty6 (by omega) ) dX11_head_214 kV_X11_109 rfl ty6 rfl rfl (by decide) ck_12 rfl (Nat.le_of_ble_eq_true rfl) ⟨(Nat.le_of_ble_eq_true rfl), (Nat.le_of_ble_eq_true rfl)⟩ hph pl2 (show 0 + 0 = 0 from rfl) (by decide) (fun rh6 Lh6 clh6 lnh6 ivh6 rvh6 h6 => ?_)
                      obtain ⟨f6, rfl, rfl, rfl, rfl, rfl, fl6, W6, rgf6, exf6, kp11f6, kp12f6, kp13f6, kp14f6, kp15f6, kp16f6⟩ := h6
                      refine hv8 (show 1 ≤ ivb2 a0 11 ∧ ivb2 a0 11 ≤ 100 from Wb2.int ty6 11) (show 1 ≤ ivb2 a0 12 ∧ ivb2 a0 12 ≤ 50 from Wb2.int ty6 12) (show (-2147483648) ≤ ivb2 a0 13 ∧ ivb2 a0 13 ≤ 2147483647 from Wb2.int ty6 13) (show (-2147483648) ≤ ivb2 a0 14 ∧ ivb2 a0 14 ≤ 2147483647 from Wb2.int ty6 14) (show (-2147483648) ≤ ivb2 a0 15 ∧ ivb2 a0 15 ≤ 2147483647 from Wb2.int ty6 15) (show (-2147483648) ≤ ivb2 a0 16 ∧ ivb2 a0 16 ≤ 2147483647 from Wb2.int ty6 16) (Fb2.call Xb2 fl6 rfl) (MRK.call mrb2 Wb2 skb2 XT.refl fl6 rfl rfl) (fun ri9 ri10 ri11 ri12 ri13 ri14 F5 mr5 => ?_)
                      refine c_st (st2 := [.int (iI f6)]) rfl ?_
                      refine hv14 (show ivh6 a0 11 = ivb2 a0 11 from kp11f6) (show ivh6 a0 12 = ivb2 a0 12 from kp12f6) (show ivh6 a0 13 = ivb2 a0 13 from kp13f6) (show ivh6 a0 14 = ivb2 a0 14 from kp14f6) (show ivh6 a0 15 = ivb2 a0 15 from kp15f6) (show ivh6 a0 16 = ivb2 a0 16 from kp16f6) (show f6 = (ivb2 (sk 5) 2) from exf6) (Xb2.ty tsk2) (show 1 ≤ ivh6 a0 11 ∧ ivh6 a0 11 ≤ 100 from W6.int ty6 11) (show 1 ≤ ivh6 a0 12 ∧ ivh6 a0 12 ≤ 50 from W6.int ty6 12) (show (-2147483648) ≤ ivh6 a0 13 ∧ ivh6 a0 13 ≤ 2147483647 from W6.int ty6 13) (show (-2147483648) ≤ ivh6 a0 14 ∧ ivh6 a0 14 ≤ 2147483647 from W6.int ty6 14) (show (-2147483648) ≤ ivh6 a0 15 ∧ ivh6 a0 15 ≤ 2147483647 from W6.int ty6 15) (show (-2147483648) ≤ ivh6 a0 16 ∧ ivh6 a0 16 ≤ 2147483647 from W6.int ty6 16) (fun gk11f6 gk12f6 gk13f6 gk14f6 gk15f6 gk16f6 gf6 ty9 ri16 ri17 ri18 ri19 ri20 ri21 => ?_)
                      refine hv2 (show 0 ≤ ivh6 (sk 2) 2 ∧ ivh6 (sk 2) 2 ≤ 3000 from W6.int ty9 2) (show ivh6 (sk 2) 2 = ivb2 (sk 2) 2 from fl6.i ty9 rfl 2) (fun ri15 ie15 => ?_)
                      exact c_iret C dX11_head_217 rfl (by decide) (rom0 hph pl2 (by decide)) ⟨f6, rfl, Xb2, F5, W6, ⟨by omega, by omega⟩, trivial, (by omega), (by omega), (by omega), (by omega), (by omega), (by omega), (by omega), (show rvb2 a0 9 = rv a0 9 from hkr9), (show rvb2 a0 10 = rv a0 10 from hkr10)⟩
                    · refine c_iload (j := 0) C dX11_head_174 rfl ?_
                      refine c_aload_n (j := 4) (x := a0) C dX11_head_176 rfl ?_
                      have ri22 : 1 ≤ ivb2 a0 11 ∧ ivb2 a0 11 ≤ 100 := Wb2.int ty6 11
                      refine c_get (k := 11) C ck_12 dX11_head_177 w2_55 (by decide) ty6 rfl rfl (by decide) rfl ?_
                      refine c_icmp_ge (tgt := 206) C ⟨by omega, by omega⟩ ⟨by omega, by omega⟩ dX11_head_180 (by decide) (fun c6 => ?_) (fun c6 => ?_)
                      · refine c_aload_n (j := 4) (x := a0) C dX11_head_206 rfl ?_
                        refine c_aload_n (j := 4) (x := a0) C dX11_head_207 rfl ?_
                        obtain ⟨rb9, rq9, trb9⟩ := Wb2.ref ty6 3 rfl rfl rfl
                        have erb9 := Wb2.sk trb9 (by decide) rfl
                        subst erb9
                        refine c_getr (k := 3) C ck_12 dX11_head_208 w2_47 (by decide) ty6 rfl rfl (by decide) rfl rq9 ?_
                        refine c_st (st2 := [.ref (sk 5), .ref a0]) rfl ?_
                        have ty10 := Xb2.ty tsk5
                        have ri23 : 0 ≤ ivb2 (sk 5) 2 ∧ ivb2 (sk 5) 2 ≤ 200 := Wb2.int ty10 2
                        refine c_get (k := 2) C ck_2 dX11_head_211 w1_44 (by decide) ty10 rfl rfl (by decide) rfl ?_
                        have pl3 := Phi.le Wb2 skb2
                        refine d_callV (As := [.int (iI (ivb2 (sk 5) 2))]) (rest := []) C hM (C_done (a0 := a0) (x := ivb2 (sk 5) 2) Wb2 skb2 ty6 (by omega) ) dX11_head_214 kV_X11_109 rfl ty6 rfl rfl (by decide) ck_12 rfl (Nat.le_of_ble_eq_true rfl) ⟨(Nat.le_of_ble_eq_true rfl), (Nat.le_of_ble_eq_true rfl)⟩ hph pl3 (show 0 + 0 = 0 from rfl) (by decide) (fun rh7 Lh7 clh7 lnh7 ivh7 rvh7 h7 => ?_)
                        obtain ⟨f7, rfl, rfl, rfl, rfl, rfl, fl7, W7, rgf7, exf7, kp11f7, kp12f7, kp13f7, kp14f7, kp15f7, kp16f7⟩ := h7
                        refine hv7 (show 1 ≤ ivb2 a0 12 ∧ ivb2 a0 12 ≤ 50 from Wb2.int ty6 12) (show (-2147483648) ≤ ivb2 a0 13 ∧ ivb2 a0 13 ≤ 2147483647 from Wb2.int ty6 13) (show (-2147483648) ≤ ivb2 a0 14 ∧ ivb2 a0 14 ≤ 2147483647 from Wb2.int ty6 14) (show (-2147483648) ≤ ivb2 a0 15 ∧ ivb2 a0 15 ≤ 2147483647 from Wb2.int ty6 15) (show (-2147483648) ≤ ivb2 a0 16 ∧ ivb2 a0 16 ≤ 2147483647 from Wb2.int ty6 16) (Fb2.call Xb2 fl7 rfl) (MRK.call mrb2 Wb2 skb2 XT.refl fl7 rfl rfl) (fun ri24 ri25 ri26 ri27 ri28 F6 mr6 => ?_)
                        refine c_st (st2 := [.int (iI f7)]) rfl ?_
                        refine hv14 (show ivh7 a0 11 = ivb2 a0 11 from kp11f7) (show ivh7 a0 12 = ivb2 a0 12 from kp12f7) (show ivh7 a0 13 = ivb2 a0 13 from kp13f7) (show ivh7 a0 14 = ivb2 a0 14 from kp14f7) (show ivh7 a0 15 = ivb2 a0 15 from kp15f7) (show ivh7 a0 16 = ivb2 a0 16 from kp16f7) (show f7 = (ivb2 (sk 5) 2) from exf7) (Xb2.ty tsk2) (show 1 ≤ ivh7 a0 11 ∧ ivh7 a0 11 ≤ 100 from W7.int ty6 11) (show 1 ≤ ivh7 a0 12 ∧ ivh7 a0 12 ≤ 50 from W7.int ty6 12) (show (-2147483648) ≤ ivh7 a0 13 ∧ ivh7 a0 13 ≤ 2147483647 from W7.int ty6 13) (show (-2147483648) ≤ ivh7 a0 14 ∧ ivh7 a0 14 ≤ 2147483647 from W7.int ty6 14) (show (-2147483648) ≤ ivh7 a0 15 ∧ ivh7 a0 15 ≤ 2147483647 from W7.int ty6 15) (show (-2147483648) ≤ ivh7 a0 16 ∧ ivh7 a0 16 ≤ 2147483647 from W7.int ty6 16) (fun gk11f7 gk12f7 gk13f7 gk14f7 gk15f7 gk16f7 gf7 ty11 ri30 ri31 ri32 ri33 ri34 ri35 => ?_)
                        refine hv2 (show 0 ≤ ivh7 (sk 2) 2 ∧ ivh7 (sk 2) 2 ≤ 3000 from W7.int ty11 2) (show ivh7 (sk 2) 2 = ivb2 (sk 2) 2 from fl7.i ty11 rfl 2) (fun ri29 ie30 => ?_)
                        exact c_iret C dX11_head_217 rfl (by decide) (rom0 hph pl3 (by decide)) ⟨f7, rfl, Xb2, F6, W7, ⟨by omega, by omega⟩, trivial, (by omega), (by omega), (by omega), (by omega), (by omega), (by omega), (by omega), (show rvb2 a0 9 = rv a0 9 from hkr9), (show rvb2 a0 10 = rv a0 10 from hkr10)⟩
                      · refine c_aload_n (j := 4) (x := a0) C dX11_head_183 rfl ?_
                        obtain ⟨rb10, rq10, trb10⟩ := Wb2.ref ty6 3 rfl rfl rfl
                        have erb10 := Wb2.sk trb10 (by decide) rfl
                        subst erb10
                        refine c_getr (k := 3) C ck_12 dX11_head_184 w2_47 (by decide) ty6 rfl rfl (by decide) rfl rq10 ?_
                        refine c_st (st2 := [.ref (sk 5)]) rfl ?_
                        refine c_aload_n (j := 4) (x := a0) C dX11_head_187 rfl ?_
                        refine c_getr (k := 6) C ck_12 dX11_head_188 w2_50 (by decide) ty6 rfl rfl (by decide) rfl rq7 ?_
                        refine c_st (st2 := [.ref (sk 15), .ref (sk 5)]) rfl ?_
                        obtain ⟨rb11, rq11, trb11⟩ := Wb2.ref ty7 6 rfl rfl rfl
                        have lnrb11 : 200 ≤ lnb2 rb11 ∧ lnb2 rb11 ≤ 200 := Wb2.len trb11 rfl
                        refine c_getr (k := 6) C ck_7 dX11_head_191 w1_146 (by decide) ty7 rfl rfl (by decide) rfl rq11 ?_
                        refine c_st (st2 := [.ref rb11, .ref (sk 5)]) rfl ?_
                        refine c_iload (j := 0) C dX11_head_194 rfl ?_
                        have ll1 : 200 ≤ lnb2 rb11 ∧ lnb2 rb11 ≤ 200 := Wb2.len trb11 rfl
                        refine c_iald C dX11_head_196 trb11 rfl (by omega) (by omega) (by omega) ?_
                        refine hv3 (show (-2147483648) ≤ ivb2 rb11 k2.toNat ∧ ivb2 rb11 k2.toNat ≤ 2147483647 from Wb2.int trb11 k2.toNat) (Xb2.ty tsk5) (Phi.le Wb2 skb2) (fun ri36 ty12 pl4 => ?_)
                        have ri37 : 0 ≤ ivb2 (sk 5) 2 ∧ ivb2 (sk 5) 2 ≤ 200 := Wb2.int ty12 2
                        refine d_callV (As := [.int (iI (ivb2 rb11 k2.toNat))]) (rest := []) C hM (C_add_5 (a0 := (sk 5)) (x := ivb2 rb11 k2.toNat) Wb2 skb2 ty12 (by omega) ) dX11_head_197 kV_X11_112 rfl ty12 rfl rfl (by decide) ck_2 rfl (Nat.le_of_ble_eq_true rfl) ⟨(Nat.le_of_ble_eq_true rfl), (Nat.le_of_ble_eq_true rfl)⟩ hph pl4 (show 0 + 0 = 0 from rfl) (by decide) (fun rh8 Lh8 clh8 lnh8 ivh8 rvh8 h8 => ?_)
                        obtain ⟨rfl, xl8, fl8, W8, exf8⟩ := h8
                        refine hv13 (Fb2.call Xb2 fl8 rfl) (MRK.call mrb2 Wb2 skb2 xl8 fl8 rfl rfl) (Xb2.ty tsk2) (Xb2.ty tsk3) (Xb2.ty tsk4) (Xb2.ty tsk13) (Xb2.ty tsk14) (Xb2.ty tsk16) (Xb2.ty tsk17) (Xb2.ty tsk22) (Xb2.ty tsk23) (Xb2.trans xl8) (xl8.skl skb2) (fun F7 mr7 ty13 ty14 ty15 ty16 ty17 ty18 ty19 ty20 ty21 X1 sk1 => ?_)
                        refine c_st (st2 := []) rfl ?_
                        refine hv2 (xl8.ty ty12) (show ((ivh8 (sk 5) 2 = ivb2 (sk 5) 2 ∧ ivb2 (sk 5) 2 = 200) ∨ (ivh8 (sk 5) 2 = ivb2 (sk 5) 2 + 1 ∧ ivb2 (sk 5) 2 < 200)) from exf8) (fun ty22 gf8 => ?_)
                        have ri38 : 0 ≤ ivh8 (sk 5) 2 ∧ ivh8 (sk 5) 2 ≤ 200 := W8.int ty22 2
                        refine c_iinc (z := k2) (j := 0) (lv2 := [(5, .int (iI (k2 + 1))), (4, .int (iI f4)), (3, .ref ob1), (2, .int (iI fl)), (0, .ref a0), (1, .int (iI i))]) C dX11_head_200 rfl (by decide) rfl ?_
                        refine c_goto (tgt := 162) C dX11_head_203 (by decide) ?_
                        refine hv11 (xl8.ty ty7) (show ivh8 (sk 15) 7 = ivb2 (sk 15) 7 from fl8.i ty7 rfl 7) (xl8.ty ty13) (show ivh8 (sk 2) 2 = ivb2 (sk 2) 2 from fl8.i ty13 rfl 2) (xl8.ty ty6) (show ivh8 a0 11 = ivb2 a0 11 from fl8.i ty6 rfl 11) (show ivh8 a0 12 = ivb2 a0 12 from fl8.i ty6 rfl 12) (show ivh8 a0 13 = ivb2 a0 13 from fl8.i ty6 rfl 13) (show ivh8 a0 14 = ivb2 a0 14 from fl8.i ty6 rfl 14) (show ivh8 a0 15 = ivb2 a0 15 from fl8.i ty6 rfl 15) (show ivh8 a0 16 = ivb2 a0 16 from fl8.i ty6 rfl 16) (fun ty23 ie41 ty24 ie42 ty25 ie44 ie45 ie47 ie49 ie51 ie53 => ?_)
                        refine hv8 (show 0 ≤ ivh8 (sk 15) 7 ∧ ivh8 (sk 15) 7 ≤ 100000 from W8.int ty23 7) (show 0 ≤ ivh8 (sk 2) 2 ∧ ivh8 (sk 2) 2 ≤ 3000 from W8.int ty24 2) (show 1 ≤ ivh8 a0 11 ∧ ivh8 a0 11 ≤ 100 from W8.int ty25 11) (show 1 ≤ ivh8 a0 12 ∧ ivh8 a0 12 ≤ 50 from W8.int ty25 12) (show (-2147483648) ≤ ivh8 a0 13 ∧ ivh8 a0 13 ≤ 2147483647 from W8.int ty25 13) (show (-2147483648) ≤ ivh8 a0 14 ∧ ivh8 a0 14 ≤ 2147483647 from W8.int ty25 14) (show (-2147483648) ≤ ivh8 a0 15 ∧ ivh8 a0 15 ≤ 2147483647 from W8.int ty25 15) (show (-2147483648) ≤ ivh8 a0 16 ∧ ivh8 a0 16 ≤ 2147483647 from W8.int ty25 16) (fun ri39 ri40 ri41 ri42 ri43 ri44 ri45 ri46 => ?_)
                        refine c_lv (lv2 := [(5, .int (iI (k2 + 1))), (4, .int (iI f4)), (3, .ref ob1), (2, .int (iI fl)), (0, .ref a0), (1, .int (iI i))]) [0, 1, 2, 3, 4, 5] rfl ?_
                        exact ih2  (k2 + 1) _ _ _ _ _ (by omega) X1 W8 F7  (by omega) (by show ivh8 (sk 15) 7 ≤ 200; omega) (by show ivh8 (sk 2) 2 = 0; omega) (by show ivh8 a0 11 = iv a0 11; omega) (by show ivh8 a0 12 = iv a0 12; omega) (by show ivh8 a0 13 = iv a0 13; omega) (by show ivh8 a0 14 = iv a0 14; omega) (by show ivh8 a0 15 = iv a0 15; omega) (by show ivh8 a0 16 = iv a0 16; omega) (Eq.trans (show rvh8 a0 9 = rvb2 a0 9 from (fl8.r ty6 rfl 9)) (show rvb2 a0 9 = rv a0 9 from hkr9)) (Eq.trans (show rvh8 a0 10 = rvb2 a0 10 from (fl8.r ty6 rfl 10)) (show rvb2 a0 10 = rv a0 10 from hkr10))
                refine hv29 (show 0 ≤ ivh5 (sk 15) 7 ∧ ivh5 (sk 15) 7 ≤ 100000 from W5.int ty4 7) (show ivh5 (sk 15) 7 = ivh4 (sk 15) 7 from fl5.i ty4 rfl 7) (show 0 ≤ ivh5 (sk 2) 2 ∧ ivh5 (sk 2) 2 ≤ 3000 from W5.int ty2 2) (show ivh5 (sk 2) 2 = ivh4 (sk 2) 2 from fl5.i ty2 rfl 2) (show ivh4 (sk 2) 2 = ivh2 (sk 2) 2 from fl4.i ty2 rfl 2) (show 1 ≤ ivh5 a0 11 ∧ ivh5 a0 11 ≤ 100 from W5.int ty1 11) (show ivh5 a0 11 = ivh4 a0 11 from fl5.i ty1 rfl 11) (show ivh4 a0 11 = ivh2 a0 11 from fl4.i ty1 rfl 11) (show ivh2 a0 11 = ivb1 a0 11 from fl2.i ty1 rfl 11) (show 1 ≤ ivh5 a0 12 ∧ ivh5 a0 12 ≤ 50 from W5.int ty1 12) (show ivh5 a0 12 = ivh4 a0 12 from fl5.i ty1 rfl 12) (show ivh4 a0 12 = ivh2 a0 12 from fl4.i ty1 rfl 12) (show ivh2 a0 12 = ivb1 a0 12 from fl2.i ty1 rfl 12) (show (-2147483648) ≤ ivh5 a0 13 ∧ ivh5 a0 13 ≤ 2147483647 from W5.int ty1 13) (show ivh5 a0 13 = ivh4 a0 13 from fl5.i ty1 rfl 13) (show ivh4 a0 13 = ivh2 a0 13 from fl4.i ty1 rfl 13) (show ivh2 a0 13 = ivb1 a0 13 from fl2.i ty1 rfl 13) (show (-2147483648) ≤ ivh5 a0 14 ∧ ivh5 a0 14 ≤ 2147483647 from W5.int ty1 14) (show ivh5 a0 14 = ivh4 a0 14 from fl5.i ty1 rfl 14) (show ivh4 a0 14 = ivh2 a0 14 from fl4.i ty1 rfl 14) (show ivh2 a0 14 = ivb1 a0 14 from fl2.i ty1 rfl 14) (show (-2147483648) ≤ ivh5 a0 15 ∧ ivh5 a0 15 ≤ 2147483647 from W5.int ty1 15) (show ivh5 a0 15 = ivh4 a0 15 from fl5.i ty1 rfl 15) (show ivh4 a0 15 = ivh2 a0 15 from fl4.i ty1 rfl 15) (show ivh2 a0 15 = ivb1 a0 15 from fl2.i ty1 rfl 15) (show (-2147483648) ≤ ivh5 a0 16 ∧ ivh5 a0 16 ≤ 2147483647 from W5.int ty1 16) (show ivh5 a0 16 = ivh4 a0 16 from fl5.i ty1 rfl 16) (show ivh4 a0 16 = ivh2 a0 16 from fl4.i ty1 rfl 16) (show ivh2 a0 16 = ivb1 a0 16 from fl2.i ty1 rfl 16) (fun ri47 ie55 ri48 ie56 ie57 ri49 ie58 ie59 ie60 ri50 ie62 ie63 ie64 ri51 ie66 ie67 ie68 ri52 ie70 ie71 ie72 ri53 ie74 ie75 ie76 ri54 ie78 ie79 ie80 => ?_)
                refine c_lv (lv2 := [(5, .int (iI 0)), (4, .int (iI f4)), (3, .ref ob1), (2, .int (iI fl)), (0, .ref a0), (1, .int (iI i))]) [0, 1, 2, 3, 4, 5] rfl ?_
                exact Lp2 103 0 _ _ _ _ _ (by omega) Xb1 W5 F4  (by omega) (by show ivh5 (sk 15) 7 ≤ 200; omega) (by show ivh5 (sk 2) 2 = 0; omega) (by show ivh5 a0 11 = iv a0 11; omega) (by show ivh5 a0 12 = iv a0 12; omega) (by show ivh5 a0 13 = iv a0 13; omega) (by show ivh5 a0 14 = iv a0 14; omega) (by show ivh5 a0 15 = iv a0 15; omega) (by show ivh5 a0 16 = iv a0 16; omega) (show rvb1 a0 9 = rv a0 9 from hkr9) (show rvb1 a0 10 = rv a0 10 from hkr10)
              · refine c_aload_n (j := 3) (x := a0) C dX11_head_138 rfl ?_
                refine c_iload (j := 0) C dX11_head_139 rfl ?_
                refine c_aload_n (j := 3) (x := a0) C dX11_head_141 rfl ?_
                refine c_getr (k := 6) C ck_12 dX11_head_142 w2_50 (by decide) ty1 rfl rfl (by decide) rfl rq5 ?_
                refine c_st (st2 := [.ref (sk 15), .int (iI f4), .ref a0]) rfl ?_
                refine d_callV (As := []) (rest := [.int (iI f4), .ref a0]) C hM (C_placeOfUnknown (a0 := (sk 15)) W4 skb1 ty4  ) dX11_head_145 kV_X11_263 rfl ty4 rfl rfl (by decide) ck_7 rfl (Nat.le_of_ble_eq_true rfl) ⟨(Nat.le_of_ble_eq_true rfl), (Nat.le_of_ble_eq_true rfl)⟩ hph pl1 (show 0 + 0 = 0 from rfl) (by decide) (fun rh9 Lh9 clh9 lnh9 ivh9 rvh9 h9 => ?_)
                obtain ⟨f9, rfl, rfl, rfl, rfl, rfl, rfl, rgf9, exf9⟩ := h9
                refine c_st (st2 := [.int (iI f9), .int (iI f4), .ref a0]) rfl ?_
                refine d_callV (As := [.int (iI f4), .int (iI f9)]) (rest := []) C hM (C_refuseAt (a0 := a0) (x := f4) (y := f9) W4 skb1 ty1 (by omega) (by omega) ) dX11_head_148 kV_X11_266 rfl ty1 rfl rfl (by decide) ck_12 rfl (Nat.le_of_ble_eq_true rfl) ⟨(Nat.le_of_ble_eq_true rfl), (Nat.le_of_ble_eq_true rfl)⟩ hph pl1 (show 0 + 0 = 0 from rfl) (by decide) (fun rh10 Lh10 clh10 lnh10 ivh10 rvh10 h10 => ?_)
                obtain ⟨f10, rfl, rfl, rfl, rfl, rfl, fl10, W10, rgf10, exf10, kp11f10, kp12f10, kp13f10, kp14f10, kp15f10, kp16f10⟩ := h10
                refine hv20 (show 1 ≤ ivh4 a0 11 ∧ ivh4 a0 11 ≤ 100 from W4.int ty1 11) (show ivh4 a0 11 = ivh2 a0 11 from fl4.i ty1 rfl 11) (show ivh2 a0 11 = ivb1 a0 11 from fl2.i ty1 rfl 11) (show 1 ≤ ivh4 a0 12 ∧ ivh4 a0 12 ≤ 50 from W4.int ty1 12) (show ivh4 a0 12 = ivh2 a0 12 from fl4.i ty1 rfl 12) (show ivh2 a0 12 = ivb1 a0 12 from fl2.i ty1 rfl 12) (show (-2147483648) ≤ ivh4 a0 13 ∧ ivh4 a0 13 ≤ 2147483647 from W4.int ty1 13) (show ivh4 a0 13 = ivh2 a0 13 from fl4.i ty1 rfl 13) (show ivh2 a0 13 = ivb1 a0 13 from fl2.i ty1 rfl 13) (show (-2147483648) ≤ ivh4 a0 14 ∧ ivh4 a0 14 ≤ 2147483647 from W4.int ty1 14) (show ivh4 a0 14 = ivh2 a0 14 from fl4.i ty1 rfl 14) (show ivh2 a0 14 = ivb1 a0 14 from fl2.i ty1 rfl 14) (show (-2147483648) ≤ ivh4 a0 15 ∧ ivh4 a0 15 ≤ 2147483647 from W4.int ty1 15) (show ivh4 a0 15 = ivh2 a0 15 from fl4.i ty1 rfl 15) (show ivh2 a0 15 = ivb1 a0 15 from fl2.i ty1 rfl 15) (show (-2147483648) ≤ ivh4 a0 16 ∧ ivh4 a0 16 ≤ 2147483647 from W4.int ty1 16) (show ivh4 a0 16 = ivh2 a0 16 from fl4.i ty1 rfl 16) (show ivh2 a0 16 = ivb1 a0 16 from fl2.i ty1 rfl 16) (F3.call Xb1 fl10 rfl) (MRK.call mr3 W4 skb1 XT.refl fl10 rfl rfl) (fun ri55 ie82 ie83 ri56 ie85 ie86 ri57 ie88 ie89 ri58 ie91 ie92 ri59 ie94 ie95 ri60 ie97 ie98 F8 mr8 => ?_)
                refine c_st (st2 := [.int (iI f10)]) rfl ?_
                refine hv16 (show ivh10 a0 11 = ivh4 a0 11 from kp11f10) (show ivh10 a0 12 = ivh4 a0 12 from kp12f10) (show ivh10 a0 13 = ivh4 a0 13 from kp13f10) (show ivh10 a0 14 = ivh4 a0 14 from kp14f10) (show ivh10 a0 15 = ivh4 a0 15 from kp15f10) (show ivh10 a0 16 = ivh4 a0 16 from kp16f10) (show f10 = -1 from exf10) (show 0 ≤ ivh10 (sk 2) 2 ∧ ivh10 (sk 2) 2 ≤ 3000 from W10.int ty2 2) (show ivh10 (sk 2) 2 = ivh4 (sk 2) 2 from fl10.i ty2 rfl 2) (show ivh4 (sk 2) 2 = ivh2 (sk 2) 2 from fl4.i ty2 rfl 2) (show 1 ≤ ivh10 a0 11 ∧ ivh10 a0 11 ≤ 100 from W10.int ty1 11) (show 1 ≤ ivh10 a0 12 ∧ ivh10 a0 12 ≤ 50 from W10.int ty1 12) (show (-2147483648) ≤ ivh10 a0 13 ∧ ivh10 a0 13 ≤ 2147483647 from W10.int ty1 13) (show (-2147483648) ≤ ivh10 a0 14 ∧ ivh10 a0 14 ≤ 2147483647 from W10.int ty1 14) (show (-2147483648) ≤ ivh10 a0 15 ∧ ivh10 a0 15 ≤ 2147483647 from W10.int ty1 15) (show (-2147483648) ≤ ivh10 a0 16 ∧ ivh10 a0 16 ≤ 2147483647 from W10.int ty1 16) (fun gk11f10 gk12f10 gk13f10 gk14f10 gk15f10 gk16f10 gf10 ri61 ie100 ie101 ri62 ri63 ri64 ri65 ri66 ri67 => ?_)
                exact c_iret C dX11_head_151 rfl (by decide) (rom0 hph pl1 (by decide)) ⟨f10, rfl, Xb1, F8, W10, ⟨by omega, by omega⟩, trivial, (by omega), (by omega), (by omega), (by omega), (by omega), (by omega), (by omega), (show rvb1 a0 9 = rv a0 9 from hkr9), (show rvb1 a0 10 = rv a0 10 from hkr10)⟩
            · subst oq1
              refine c_lv (lv2 := [(3, .null), (2, .int (iI fl)), (0, .ref a0), (1, .int (iI i))]) [0, 1, 2, 3] rfl ?_
              refine c_st (st2 := []) rfl ?_
              refine c_aload_n (j := 2) (x := a0) C dX11_head_117 rfl ?_
              refine c_iconst C dX11_head_118 ?_
              refine d_callV (As := [.int (iI 3)]) (rest := []) C hM (C_refuse (a0 := a0) (x := 3) W2 skb1 ty1 ⟨by decide, by decide⟩ ) dX11_head_119 kV_X11_102 rfl ty1 rfl rfl (by decide) ck_12 rfl (Nat.le_of_ble_eq_true rfl) ⟨(Nat.le_of_ble_eq_true rfl), (Nat.le_of_ble_eq_true rfl)⟩ hph pl1 (show 0 + 0 = 0 from rfl) (by decide) (fun rh11 Lh11 clh11 lnh11 ivh11 rvh11 h11 => ?_)
              obtain ⟨f11, rfl, rfl, rfl, rfl, rfl, fl11, W11, rgf11, exf11, kp11f11, kp12f11, kp13f11, kp14f11, kp15f11, kp16f11⟩ := h11
              refine hv14 (show 1 ≤ ivh2 a0 11 ∧ ivh2 a0 11 ≤ 100 from W2.int ty1 11) (show ivh2 a0 11 = ivb1 a0 11 from fl2.i ty1 rfl 11) (show 1 ≤ ivh2 a0 12 ∧ ivh2 a0 12 ≤ 50 from W2.int ty1 12) (show ivh2 a0 12 = ivb1 a0 12 from fl2.i ty1 rfl 12) (show (-2147483648) ≤ ivh2 a0 13 ∧ ivh2 a0 13 ≤ 2147483647 from W2.int ty1 13) (show ivh2 a0 13 = ivb1 a0 13 from fl2.i ty1 rfl 13) (show (-2147483648) ≤ ivh2 a0 14 ∧ ivh2 a0 14 ≤ 2147483647 from W2.int ty1 14) (show ivh2 a0 14 = ivb1 a0 14 from fl2.i ty1 rfl 14) (show (-2147483648) ≤ ivh2 a0 15 ∧ ivh2 a0 15 ≤ 2147483647 from W2.int ty1 15) (show ivh2 a0 15 = ivb1 a0 15 from fl2.i ty1 rfl 15) (show (-2147483648) ≤ ivh2 a0 16 ∧ ivh2 a0 16 ≤ 2147483647 from W2.int ty1 16) (show ivh2 a0 16 = ivb1 a0 16 from fl2.i ty1 rfl 16) (F2.call Xb1 fl11 rfl) (MRK.call mr2 W2 skb1 XT.refl fl11 rfl rfl) (fun ri68 ie108 ri69 ie110 ri70 ie112 ri71 ie114 ri72 ie116 ri73 ie118 F9 mr9 => ?_)
              refine c_st (st2 := [.int (iI f11)]) rfl ?_
              refine hv15 (show ivh11 a0 11 = ivh2 a0 11 from kp11f11) (show ivh11 a0 12 = ivh2 a0 12 from kp12f11) (show ivh11 a0 13 = ivh2 a0 13 from kp13f11) (show ivh11 a0 14 = ivh2 a0 14 from kp14f11) (show ivh11 a0 15 = ivh2 a0 15 from kp15f11) (show ivh11 a0 16 = ivh2 a0 16 from kp16f11) (show f11 = -1 from exf11) (show 0 ≤ ivh11 (sk 2) 2 ∧ ivh11 (sk 2) 2 ≤ 3000 from W11.int ty2 2) (show ivh11 (sk 2) 2 = ivh2 (sk 2) 2 from fl11.i ty2 rfl 2) (show 1 ≤ ivh11 a0 11 ∧ ivh11 a0 11 ≤ 100 from W11.int ty1 11) (show 1 ≤ ivh11 a0 12 ∧ ivh11 a0 12 ≤ 50 from W11.int ty1 12) (show (-2147483648) ≤ ivh11 a0 13 ∧ ivh11 a0 13 ≤ 2147483647 from W11.int ty1 13) (show (-2147483648) ≤ ivh11 a0 14 ∧ ivh11 a0 14 ≤ 2147483647 from W11.int ty1 14) (show (-2147483648) ≤ ivh11 a0 15 ∧ ivh11 a0 15 ≤ 2147483647 from W11.int ty1 15) (show (-2147483648) ≤ ivh11 a0 16 ∧ ivh11 a0 16 ≤ 2147483647 from W11.int ty1 16) (fun gk11f11 gk12f11 gk13f11 gk14f11 gk15f11 gk16f11 gf11 ri74 ie120 ri75 ri76 ri77 ri78 ri79 ri80 => ?_)
              exact c_iret C dX11_head_122 rfl (by decide) (rom0 hph pl1 (by decide)) ⟨f11, rfl, Xb1, F9, W11, ⟨by omega, by omega⟩, trivial, (by omega), (by omega), (by omega), (by omega), (by omega), (by omega), (by omega), (show rvb1 a0 9 = rv a0 9 from hkr9), (show rvb1 a0 10 = rv a0 10 from hkr10)⟩
          · refine c_aload_n (j := 2) (x := a0) C dX11_head_97 rfl ?_
            refine c_bipush (z := 6) C dX11_head_98 (by decide) ?_
            refine d_callV (As := [.int (iI 6)]) (rest := []) C hM (C_refuse (a0 := a0) (x := 6) W2 skb1 ty1 ⟨by decide, by decide⟩ ) dX11_head_100 kV_X11_102 rfl ty1 rfl rfl (by decide) ck_12 rfl (Nat.le_of_ble_eq_true rfl) ⟨(Nat.le_of_ble_eq_true rfl), (Nat.le_of_ble_eq_true rfl)⟩ hph pl1 (show 0 + 0 = 0 from rfl) (by decide) (fun rh12 Lh12 clh12 lnh12 ivh12 rvh12 h12 => ?_)
            obtain ⟨f12, rfl, rfl, rfl, rfl, rfl, fl12, W12, rgf12, exf12, kp11f12, kp12f12, kp13f12, kp14f12, kp15f12, kp16f12⟩ := h12
            refine hv14 (show 1 ≤ ivh2 a0 11 ∧ ivh2 a0 11 ≤ 100 from W2.int ty1 11) (show ivh2 a0 11 = ivb1 a0 11 from fl2.i ty1 rfl 11) (show 1 ≤ ivh2 a0 12 ∧ ivh2 a0 12 ≤ 50 from W2.int ty1 12) (show ivh2 a0 12 = ivb1 a0 12 from fl2.i ty1 rfl 12) (show (-2147483648) ≤ ivh2 a0 13 ∧ ivh2 a0 13 ≤ 2147483647 from W2.int ty1 13) (show ivh2 a0 13 = ivb1 a0 13 from fl2.i ty1 rfl 13) (show (-2147483648) ≤ ivh2 a0 14 ∧ ivh2 a0 14 ≤ 2147483647 from W2.int ty1 14) (show ivh2 a0 14 = ivb1 a0 14 from fl2.i ty1 rfl 14) (show (-2147483648) ≤ ivh2 a0 15 ∧ ivh2 a0 15 ≤ 2147483647 from W2.int ty1 15) (show ivh2 a0 15 = ivb1 a0 15 from fl2.i ty1 rfl 15) (show (-2147483648) ≤ ivh2 a0 16 ∧ ivh2 a0 16 ≤ 2147483647 from W2.int ty1 16) (show ivh2 a0 16 = ivb1 a0 16 from fl2.i ty1 rfl 16) (F2.call Xb1 fl12 rfl) (MRK.call mr2 W2 skb1 XT.refl fl12 rfl rfl) (fun ri81 ie127 ri82 ie129 ri83 ie131 ri84 ie133 ri85 ie135 ri86 ie137 F10 mr10 => ?_)
            refine c_st (st2 := [.int (iI f12)]) rfl ?_
            refine hv15 (show ivh12 a0 11 = ivh2 a0 11 from kp11f12) (show ivh12 a0 12 = ivh2 a0 12 from kp12f12) (show ivh12 a0 13 = ivh2 a0 13 from kp13f12) (show ivh12 a0 14 = ivh2 a0 14 from kp14f12) (show ivh12 a0 15 = ivh2 a0 15 from kp15f12) (show ivh12 a0 16 = ivh2 a0 16 from kp16f12) (show f12 = -1 from exf12) (show 0 ≤ ivh12 (sk 2) 2 ∧ ivh12 (sk 2) 2 ≤ 3000 from W12.int ty2 2) (show ivh12 (sk 2) 2 = ivh2 (sk 2) 2 from fl12.i ty2 rfl 2) (show 1 ≤ ivh12 a0 11 ∧ ivh12 a0 11 ≤ 100 from W12.int ty1 11) (show 1 ≤ ivh12 a0 12 ∧ ivh12 a0 12 ≤ 50 from W12.int ty1 12) (show (-2147483648) ≤ ivh12 a0 13 ∧ ivh12 a0 13 ≤ 2147483647 from W12.int ty1 13) (show (-2147483648) ≤ ivh12 a0 14 ∧ ivh12 a0 14 ≤ 2147483647 from W12.int ty1 14) (show (-2147483648) ≤ ivh12 a0 15 ∧ ivh12 a0 15 ≤ 2147483647 from W12.int ty1 15) (show (-2147483648) ≤ ivh12 a0 16 ∧ ivh12 a0 16 ≤ 2147483647 from W12.int ty1 16) (fun gk11f12 gk12f12 gk13f12 gk14f12 gk15f12 gk16f12 gf12 ri87 ie139 ri88 ri89 ri90 ri91 ri92 ri93 => ?_)
            exact c_iret C dX11_head_103 rfl (by decide) (rom0 hph pl1 (by decide)) ⟨f12, rfl, Xb1, F10, W12, ⟨by omega, by omega⟩, trivial, (by omega), (by omega), (by omega), (by omega), (by omega), (by omega), (by omega), (show rvb1 a0 9 = rv a0 9 from hkr9), (show rvb1 a0 10 = rv a0 10 from hkr10)⟩
        · refine c_iload_n (j := 1) C dX11_head_53 rfl ?_
          refine c_aload_n (j := 2) (x := a0) C dX11_head_54 rfl ?_
          have ty26 := Xb1.ty t_a0
          obtain ⟨rb12, rq12, trb12⟩ := Wb1.ref ty26 0 rfl rfl rfl
          have erb12 := Wb1.sk trb12 (by decide) rfl
          subst erb12
          refine c_getr (k := 0) C ck_12 dX11_head_55 w2_44 (by decide) ty26 rfl rfl (by decide) rfl rq12 ?_
          refine c_st (st2 := [.ref (sk 2), .int (iI k)]) rfl ?_
          have ty27 := Xb1.ty tsk2
          have ri94 : 0 ≤ ivb1 (sk 2) 2 ∧ ivb1 (sk 2) 2 ≤ 3000 := Wb1.int ty27 2
          refine c_get (k := 2) C ck_2 dX11_head_58 w1_44 (by decide) ty27 rfl rfl (by decide) rfl ?_
          refine c_icmp_ge (tgt := 86) C ⟨by omega, by omega⟩ ⟨by omega, by omega⟩ dX11_head_61 (by decide) (fun c7 => ?_) (fun c7 => ?_)
          · refine c_aload_n (j := 2) (x := a0) C dX11_head_86 rfl ?_
            refine c_getr (k := 0) C ck_12 dX11_head_87 w2_44 (by decide) ty26 rfl rfl (by decide) rfl rq12 ?_
            refine c_st (st2 := [.ref (sk 2)]) rfl ?_
            have pl5 := Phi.le Wb1 skb1
            refine d_callV (As := []) (rest := []) C hM (C_clear_2 (a0 := (sk 2)) Wb1 skb1 ty27  ) dX11_head_90 kV_X11_164 rfl ty27 rfl rfl (by decide) ck_2 rfl (Nat.le_of_ble_eq_true rfl) ⟨(Nat.le_of_ble_eq_true rfl), (Nat.le_of_ble_eq_true rfl)⟩ hph pl5 (show 0 + 0 = 0 from rfl) (by decide) (fun rh13 Lh13 clh13 lnh13 ivh13 rvh13 h13 => ?_)
            obtain ⟨rfl, rfl, rfl, rfl, rfl, fl13, W13, exf13⟩ := h13
            refine hv2 (Fb1.call Xb1 fl13 rfl) (MRK.call mrb1 Wb1 skb1 XT.refl fl13 rfl rfl) (fun F11 mr11 => ?_)
            refine c_st (st2 := []) rfl ?_
            refine hv2 (show 0 ≤ ivh13 (sk 2) 2 ∧ ivh13 (sk 2) 2 ≤ 3000 from W13.int ty27 2) (show ivh13 (sk 2) 2 = 0 from exf13) (fun ri95 gf13 => ?_)
            refine c_iload_n (j := 0) C dX11_head_93 rfl ?_
            refine c_if_ne (tgt := 104) C ⟨by omega, by omega⟩ dX11_head_94 (by decide) (fun c8 => ?_) (fun c8 => ?_)
            · refine c_aload_n (j := 2) (x := a0) C dX11_head_104 rfl ?_
              obtain ⟨rb13, rq13, trb13⟩ := W13.ref ty26 4 rfl rfl rfl
              have erb13 := W13.sk trb13 (by decide) rfl
              subst erb13
              refine c_getr (k := 4) C ck_12 dX11_head_105 w2_48 (by decide) ty26 rfl rfl (by decide) rfl rq13 ?_
              refine c_st (st2 := [.ref (sk 13)]) rfl ?_
              refine c_iload_n (j := 3) C dX11_head_108 rfl ?_
              have ty28 := Xb1.ty tsk13
              refine d_callV (As := [.int (iI i)]) (rest := []) C hM (C_whole (a0 := (sk 13)) (i := i) W13 skb1 ty28 (by omega) mr11) dX11_head_109 kV_X11_231 rfl ty28 rfl rfl (by decide) ck_11 rfl (Nat.le_of_ble_eq_true rfl) ⟨(Nat.le_of_ble_eq_true rfl), (Nat.le_of_ble_eq_true rfl)⟩ hph pl5 (show 0 + 0 = 0 from rfl) (by decide) (fun rh14 Lh14 clh14 lnh14 ivh14 rvh14 h14 => ?_)
              obtain ⟨f14, rfl, rfl, rfl, rfl, rfl, rfl, rgf14, exf14⟩ := h14
              refine c_st (st2 := [(va_rf f14)]) rfl ?_
              refine c_astorer_n (r := f14) (lv2 := [(3, (va_rf f14)), (2, .int (iI fl)), (0, .ref a0), (1, .int (iI i))]) C dX11_head_112 (by decide) rfl ?_
              refine c_aloadr_n (j := 0) (r := f14) C dX11_head_113 rfl ?_
              refine c_ifnonnull (r := f14) (tgt := 123) C dX11_head_114 (by decide) (fun ob2 oq2 => ?_) (fun oq2 => ?_)
              · subst oq2
                have tob2 := rgf14 ob2 rfl
                refine c_lv (lv2 := [(3, .ref ob2), (2, .int (iI fl)), (0, .ref a0), (1, .int (iI i))]) [0, 1, 2, 3] rfl ?_
                refine c_st (st2 := []) rfl ?_
                refine c_aload_n (j := 2) (x := a0) C dX11_head_123 rfl ?_
                obtain ⟨rb14, rq14, trb14⟩ := W13.ref ty26 6 rfl rfl rfl
                have erb14 := W13.sk trb14 (by decide) rfl
                subst erb14
                refine c_getr (k := 6) C ck_12 dX11_head_124 w2_50 (by decide) ty26 rfl rfl (by decide) rfl rq14 ?_
                refine c_st (st2 := [.ref (sk 15)]) rfl ?_
                refine c_aload_n (j := 0) (x := ob2) C dX11_head_127 rfl ?_
                have ty29 := Xb1.ty tsk15
                refine hv2 (show 0 ≤ ivh13 (sk 15) 4 ∧ ivh13 (sk 15) 4 ≤ 500 from W13.int ty29 4) (show ivh13 (sk 15) 4 = ivb1 (sk 15) 4 from fl13.i ty29 rfl 4) (fun ri96 ie148 => ?_)
                refine d_callV (As := [.ref ob2]) (rest := []) C hM (C_setBy (a0 := (sk 15)) (a1 := ob2) W13 skb1 ty29 tob2  ) dX11_head_128 kV_X11_253 rfl ty29 rfl rfl (by decide) ck_7 rfl (Nat.le_of_ble_eq_true rfl) ⟨(Nat.le_of_ble_eq_true rfl), (Nat.le_of_ble_eq_true rfl)⟩ hph pl5 (show 0 + 0 = 0 from rfl) (by decide) (fun rh15 Lh15 clh15 lnh15 ivh15 rvh15 h15 => ?_)
                obtain ⟨f15, rfl, rfl, rfl, rfl, rfl, fl15, W15, rgf15, exf15⟩ := h15
                refine hv2 (F11.call Xb1 fl15 rfl) (MRK.call mr11 W13 skb1 XT.refl fl15 rfl rfl) (fun F12 mr12 => ?_)
                refine c_st (st2 := [.int (iI f15)]) rfl ?_
                refine hv3 (show 0 ≤ ivh15 (sk 15) 4 ∧ ivh15 (sk 15) 4 ≤ 500 from W15.int ty29 4) (show 0 ≤ ivh15 (sk 15) 7 ∧ ivh15 (sk 15) 7 ≤ 100000 from W15.int ty29 7) (show (f15 = 0 ∨ f15 = 6 ∨ f15 = 7) ∧ ivh15 (sk 15) 4 = ivh13 (sk 15) 4 ∧ (f15 = 0 → ivh15 (sk 15) 7 ≤ 200) from exf15) (fun ri97 ri98 gf15 => ?_)
                refine c_istore (lv2 := [(4, .int (iI f15)), (3, .ref ob2), (2, .int (iI fl)), (0, .ref a0), (1, .int (iI i))]) C dX11_head_131 (by decide) rfl ?_
                refine c_iload (j := 0) C dX11_head_133 rfl ?_
                refine c_if_eq (tgt := 152) C ⟨by omega, by omega⟩ dX11_head_135 (by decide) (fun c9 => ?_) (fun c9 => ?_)
                · refine c_aload_n (j := 3) (x := a0) C dX11_head_152 rfl ?_
                  obtain ⟨rb15, rq15, trb15⟩ := W15.ref ty26 3 rfl rfl rfl
                  have erb15 := W15.sk trb15 (by decide) rfl
                  subst erb15
                  refine c_getr (k := 3) C ck_12 dX11_head_153 w2_47 (by decide) ty26 rfl rfl (by decide) rfl rq15 ?_
                  refine c_st (st2 := [.ref (sk 5)]) rfl ?_
                  have ty30 := Xb1.ty tsk5
                  refine d_callV (As := []) (rest := []) C hM (C_clear_5 (a0 := (sk 5)) W15 skb1 ty30  ) dX11_head_156 kV_X11_164 rfl ty30 rfl rfl (by decide) ck_2 rfl (Nat.le_of_ble_eq_true rfl) ⟨(Nat.le_of_ble_eq_true rfl), (Nat.le_of_ble_eq_true rfl)⟩ hph pl5 (show 0 + 0 = 0 from rfl) (by decide) (fun rh16 Lh16 clh16 lnh16 ivh16 rvh16 h16 => ?_)
                  obtain ⟨rfl, rfl, rfl, rfl, rfl, fl16, W16, exf16⟩ := h16
                  refine hv2 (F12.call Xb1 fl16 rfl) (MRK.call mr12 W15 skb1 XT.refl fl16 rfl rfl) (fun F13 mr13 => ?_)
                  refine c_st (st2 := []) rfl ?_
                  refine hv2 (show 0 ≤ ivh16 (sk 5) 2 ∧ ivh16 (sk 5) 2 ≤ 200 from W16.int ty30 2) (show ivh16 (sk 5) 2 = 0 from exf16) (fun ri99 gf16 => ?_)
                  refine c_iconst C dX11_head_159 ?_
                  refine c_istore (lv2 := [(5, .int (iI 0)), (4, .int (iI f15)), (3, .ref ob2), (2, .int (iI fl)), (0, .ref a0), (1, .int (iI i))]) C dX11_head_160 (by decide) rfl ?_
                  have Lp3 : ∀ (nn : Nat) (k2 : Int) (Lb3 : List Nat) (clb3 lnb3 : Nat → Nat) (ivb3 : Nat → Nat → Int) (rvb3 : Nat → Nat → Option Nat) , 101 - k2 < (nn : Int) → XT L cl ln Lb3 clb3 lnb3 → WT (g0 G) sk Lb3 clb3 lnb3 ivb3 rvb3 → fT [1, 2, 5, 35, 15, 50, 51, 52, 53, 54, 55] L cl iv rv ivb3 rvb3 → (0 ≤ k2 ∧ k2 ≤ 100) → (ivb3 (sk 15) 7 ≤ 200) → (ivb3 (sk 2) 2 = 0) → (ivb3 a0 11 = iv a0 11) → (ivb3 a0 12 = iv a0 12) → (ivb3 a0 13 = iv a0 13) → (ivb3 a0 14 = iv a0 14) → (ivb3 a0 15 = iv a0 15) → (ivb3 a0 16 = iv a0 16) → (rvb3 a0 9 = rv a0 9) → (rvb3 a0 10 = rv a0 10) → cw p l e 8 ((PHM) + 0 - ((Phi (g0 G) sk) ln rv)) s m args below meth c G A 6 (MQ below (Qu G A (Qp G (Phi (g0 G) sk) ((Phi (g0 G) sk) ln rv) 0 (fun v L2 cl2 ln2 iv2 rv2 => ∃ f : Int, v = some (.int (iI f)) ∧ XT L cl ln L2 cl2 ln2 ∧ fT [1, 2, 5, 35, 15, 50, 51, 52, 53, 54, 55] L cl iv rv iv2 rv2 ∧ WT (g0 G) sk L2 cl2 ln2 iv2 rv2 ∧ (-2147483648 ≤ f ∧ f ≤ 2147483647) ∧ (True) ∧ iv2 a0 11 = iv a0 11 ∧ iv2 a0 12 = iv a0 12 ∧ iv2 a0 13 = iv a0 13 ∧ iv2 a0 14 = iv a0 14 ∧ iv2 a0 15 = iv a0 15 ∧ iv2 a0 16 = iv a0 16 ∧ iv2 (sk 2) 2 = 0 ∧ rv2 a0 9 = rv a0 9 ∧ rv2 a0 10 = rv a0 10))) args s (((PHM) + 0 - ((Phi (g0 G) sk) ln rv)) / 16) ((PHM) + 0 - ((Phi (g0 G) sk) ln rv)) A) (Phi (g0 G) sk) ((Phi (g0 G) sk) ln rv) Lb3 clb3 lnb3 ivb3 rvb3 0 162 [(5, .int (iI k2)), (4, .int (iI f15)), (3, .ref ob2), (2, .int (iI fl)), (0, .ref a0), (1, .int (iI i))] [] := by
                    intro nn
                    induction nn with
                    | zero =>
                      intro  k2 Lb3 clb3 lnb3 ivb3 rvb3 hm Xb3 Wb3 Fb3  hk2 hco htz hkp11 hkp12 hkp13 hkp14 hkp15 hkp16 hkr9 hkr10
                      have skb3 := Xb3.skl hS
                      exact absurd hm (by omega)
                    | succ nn ih3 =>
                      intro  k2 Lb3 clb3 lnb3 ivb3 rvb3 hm Xb3 Wb3 Fb3  hk2 hco htz hkp11 hkp12 hkp13 hkp14 hkp15 hkp16 hkr9 hkr10
                      refine hv2 (Xb3.skl hS) (MRK.call hmr hW hS Xb3 Fb3 rfl rfl) (fun skb3 mrb3 => ?_)
                      refine c_iload (j := 0) C dX11_head_162 rfl ?_
                      refine c_aload_n (j := 4) (x := a0) C dX11_head_164 rfl ?_
                      have ty31 := Xb3.ty t_a0
                      obtain ⟨rb16, rq16, trb16⟩ := Wb3.ref ty31 6 rfl rfl rfl
                      have erb16 := Wb3.sk trb16 (by decide) rfl
                      subst erb16
                      refine c_getr (k := 6) C ck_12 dX11_head_165 w2_50 (by decide) ty31 rfl rfl (by decide) rfl rq16 ?_
                      refine c_st (st2 := [.ref (sk 15), .int (iI k2)]) rfl ?_
                      have ty32 := Xb3.ty tsk15
                      have ri100 : 0 ≤ ivb3 (sk 15) 7 ∧ ivb3 (sk 15) 7 ≤ 100000 := Wb3.int ty32 7
                      refine c_get (k := 7) C ck_7 dX11_head_168 w1_149 (by decide) ty32 rfl rfl (by decide) rfl ?_
                      refine c_icmp_ge (tgt := 206) C ⟨by omega, by omega⟩ ⟨by omega, by omega⟩ dX11_head_171 (by decide) (fun c10 => ?_) (fun c10 => ?_)
                      · refine c_aload_n (j := 4) (x := a0) C dX11_head_206 rfl ?_
                        refine c_aload_n (j := 4) (x := a0) C dX11_head_207 rfl ?_
                        obtain ⟨rb17, rq17, trb17⟩ := Wb3.ref ty31 3 rfl rfl rfl
                        have erb17 := Wb3.sk trb17 (by decide) rfl
                        subst erb17
                        refine c_getr (k := 3) C ck_12 dX11_head_208 w2_47 (by decide) ty31 rfl rfl (by decide) rfl rq17 ?_
                        refine c_st (st2 := [.ref (sk 5), .ref a0]) rfl ?_
                        have ty33 := Xb3.ty tsk5
                        have ri101 : 0 ≤ ivb3 (sk 5) 2 ∧ ivb3 (sk 5) 2 ≤ 200 := Wb3.int ty33 2
                        refine c_get (k := 2) C ck_2 dX11_head_211 w1_44 (by decide) ty33 rfl rfl (by decide) rfl ?_
                        have pl6 := Phi.le Wb3 skb3
                        refine d_callV (As := [.int (iI (ivb3 (sk 5) 2))]) (rest := []) C hM (C_done (a0 := a0) (x := ivb3 (sk 5) 2) Wb3 skb3 ty31 (by omega) ) dX11_head_214 kV_X11_109 rfl ty31 rfl rfl (by decide) ck_12 rfl (Nat.le_of_ble_eq_true rfl) ⟨(Nat.le_of_ble_eq_true rfl), (Nat.le_of_ble_eq_true rfl)⟩ hph pl6 (show 0 + 0 = 0 from rfl) (by decide) (fun rh17 Lh17 clh17 lnh17 ivh17 rvh17 h17 => ?_)
                        obtain ⟨f17, rfl, rfl, rfl, rfl, rfl, fl17, W17, rgf17, exf17, kp11f17, kp12f17, kp13f17, kp14f17, kp15f17, kp16f17⟩ := h17
                        refine hv8 (show 1 ≤ ivb3 a0 11 ∧ ivb3 a0 11 ≤ 100 from Wb3.int ty31 11) (show 1 ≤ ivb3 a0 12 ∧ ivb3 a0 12 ≤ 50 from Wb3.int ty31 12) (show (-2147483648) ≤ ivb3 a0 13 ∧ ivb3 a0 13 ≤ 2147483647 from Wb3.int ty31 13) (show (-2147483648) ≤ ivb3 a0 14 ∧ ivb3 a0 14 ≤ 2147483647 from Wb3.int ty31 14) (show (-2147483648) ≤ ivb3 a0 15 ∧ ivb3 a0 15 ≤ 2147483647 from Wb3.int ty31 15) (show (-2147483648) ≤ ivb3 a0 16 ∧ ivb3 a0 16 ≤ 2147483647 from Wb3.int ty31 16) (Fb3.call Xb3 fl17 rfl) (MRK.call mrb3 Wb3 skb3 XT.refl fl17 rfl rfl) (fun ri102 ri103 ri104 ri105 ri106 ri107 F14 mr14 => ?_)
                        refine c_st (st2 := [.int (iI f17)]) rfl ?_
                        refine hv14 (show ivh17 a0 11 = ivb3 a0 11 from kp11f17) (show ivh17 a0 12 = ivb3 a0 12 from kp12f17) (show ivh17 a0 13 = ivb3 a0 13 from kp13f17) (show ivh17 a0 14 = ivb3 a0 14 from kp14f17) (show ivh17 a0 15 = ivb3 a0 15 from kp15f17) (show ivh17 a0 16 = ivb3 a0 16 from kp16f17) (show f17 = (ivb3 (sk 5) 2) from exf17) (Xb3.ty tsk2) (show 1 ≤ ivh17 a0 11 ∧ ivh17 a0 11 ≤ 100 from W17.int ty31 11) (show 1 ≤ ivh17 a0 12 ∧ ivh17 a0 12 ≤ 50 from W17.int ty31 12) (show (-2147483648) ≤ ivh17 a0 13 ∧ ivh17 a0 13 ≤ 2147483647 from W17.int ty31 13) (show (-2147483648) ≤ ivh17 a0 14 ∧ ivh17 a0 14 ≤ 2147483647 from W17.int ty31 14) (show (-2147483648) ≤ ivh17 a0 15 ∧ ivh17 a0 15 ≤ 2147483647 from W17.int ty31 15) (show (-2147483648) ≤ ivh17 a0 16 ∧ ivh17 a0 16 ≤ 2147483647 from W17.int ty31 16) (fun gk11f17 gk12f17 gk13f17 gk14f17 gk15f17 gk16f17 gf17 ty34 ri109 ri110 ri111 ri112 ri113 ri114 => ?_)
                        refine hv2 (show 0 ≤ ivh17 (sk 2) 2 ∧ ivh17 (sk 2) 2 ≤ 3000 from W17.int ty34 2) (show ivh17 (sk 2) 2 = ivb3 (sk 2) 2 from fl17.i ty34 rfl 2) (fun ri108 ie161 => ?_)
                        exact c_iret C dX11_head_217 rfl (by decide) (rom0 hph pl6 (by decide)) ⟨f17, rfl, Xb3, F14, W17, ⟨by omega, by omega⟩, trivial, (by omega), (by omega), (by omega), (by omega), (by omega), (by omega), (by omega), (show rvb3 a0 9 = rv a0 9 from hkr9), (show rvb3 a0 10 = rv a0 10 from hkr10)⟩
                      · refine c_iload (j := 0) C dX11_head_174 rfl ?_
                        refine c_aload_n (j := 4) (x := a0) C dX11_head_176 rfl ?_
                        have ri115 : 1 ≤ ivb3 a0 11 ∧ ivb3 a0 11 ≤ 100 := Wb3.int ty31 11
                        refine c_get (k := 11) C ck_12 dX11_head_177 w2_55 (by decide) ty31 rfl rfl (by decide) rfl ?_
                        refine c_icmp_ge (tgt := 206) C ⟨by omega, by omega⟩ ⟨by omega, by omega⟩ dX11_head_180 (by decide) (fun c11 => ?_) (fun c11 => ?_)
                        · refine c_aload_n (j := 4) (x := a0) C dX11_head_206 rfl ?_
                          refine c_aload_n (j := 4) (x := a0) C dX11_head_207 rfl ?_
                          obtain ⟨rb18, rq18, trb18⟩ := Wb3.ref ty31 3 rfl rfl rfl
                          have erb18 := Wb3.sk trb18 (by decide) rfl
                          subst erb18
                          refine c_getr (k := 3) C ck_12 dX11_head_208 w2_47 (by decide) ty31 rfl rfl (by decide) rfl rq18 ?_
                          refine c_st (st2 := [.ref (sk 5), .ref a0]) rfl ?_
                          have ty35 := Xb3.ty tsk5
                          have ri116 : 0 ≤ ivb3 (sk 5) 2 ∧ ivb3 (sk 5) 2 ≤ 200 := Wb3.int ty35 2
                          refine c_get (k := 2) C ck_2 dX11_head_211 w1_44 (by decide) ty35 rfl rfl (by decide) rfl ?_
                          have pl7 := Phi.le Wb3 skb3
                          refine d_callV (As := [.int (iI (ivb3 (sk 5) 2))]) (rest := []) C hM (C_done (a0 := a0) (x := ivb3 (sk 5) 2) Wb3 skb3 ty31 (by omega) ) dX11_head_214 kV_X11_109 rfl ty31 rfl rfl (by decide) ck_12 rfl (Nat.le_of_ble_eq_true rfl) ⟨(Nat.le_of_ble_eq_true rfl), (Nat.le_of_ble_eq_true rfl)⟩ hph pl7 (show 0 + 0 = 0 from rfl) (by decide) (fun rh18 Lh18 clh18 lnh18 ivh18 rvh18 h18 => ?_)
                          obtain ⟨f18, rfl, rfl, rfl, rfl, rfl, fl18, W18, rgf18, exf18, kp11f18, kp12f18, kp13f18, kp14f18, kp15f18, kp16f18⟩ := h18
                          refine hv7 (show 1 ≤ ivb3 a0 12 ∧ ivb3 a0 12 ≤ 50 from Wb3.int ty31 12) (show (-2147483648) ≤ ivb3 a0 13 ∧ ivb3 a0 13 ≤ 2147483647 from Wb3.int ty31 13) (show (-2147483648) ≤ ivb3 a0 14 ∧ ivb3 a0 14 ≤ 2147483647 from Wb3.int ty31 14) (show (-2147483648) ≤ ivb3 a0 15 ∧ ivb3 a0 15 ≤ 2147483647 from Wb3.int ty31 15) (show (-2147483648) ≤ ivb3 a0 16 ∧ ivb3 a0 16 ≤ 2147483647 from Wb3.int ty31 16) (Fb3.call Xb3 fl18 rfl) (MRK.call mrb3 Wb3 skb3 XT.refl fl18 rfl rfl) (fun ri117 ri118 ri119 ri120 ri121 F15 mr15 => ?_)
                          refine c_st (st2 := [.int (iI f18)]) rfl ?_
                          refine hv14 (show ivh18 a0 11 = ivb3 a0 11 from kp11f18) (show ivh18 a0 12 = ivb3 a0 12 from kp12f18) (show ivh18 a0 13 = ivb3 a0 13 from kp13f18) (show ivh18 a0 14 = ivb3 a0 14 from kp14f18) (show ivh18 a0 15 = ivb3 a0 15 from kp15f18) (show ivh18 a0 16 = ivb3 a0 16 from kp16f18) (show f18 = (ivb3 (sk 5) 2) from exf18) (Xb3.ty tsk2) (show 1 ≤ ivh18 a0 11 ∧ ivh18 a0 11 ≤ 100 from W18.int ty31 11) (show 1 ≤ ivh18 a0 12 ∧ ivh18 a0 12 ≤ 50 from W18.int ty31 12) (show (-2147483648) ≤ ivh18 a0 13 ∧ ivh18 a0 13 ≤ 2147483647 from W18.int ty31 13) (show (-2147483648) ≤ ivh18 a0 14 ∧ ivh18 a0 14 ≤ 2147483647 from W18.int ty31 14) (show (-2147483648) ≤ ivh18 a0 15 ∧ ivh18 a0 15 ≤ 2147483647 from W18.int ty31 15) (show (-2147483648) ≤ ivh18 a0 16 ∧ ivh18 a0 16 ≤ 2147483647 from W18.int ty31 16) (fun gk11f18 gk12f18 gk13f18 gk14f18 gk15f18 gk16f18 gf18 ty36 ri123 ri124 ri125 ri126 ri127 ri128 => ?_)
                          refine hv2 (show 0 ≤ ivh18 (sk 2) 2 ∧ ivh18 (sk 2) 2 ≤ 3000 from W18.int ty36 2) (show ivh18 (sk 2) 2 = ivb3 (sk 2) 2 from fl18.i ty36 rfl 2) (fun ri122 ie176 => ?_)
                          exact c_iret C dX11_head_217 rfl (by decide) (rom0 hph pl7 (by decide)) ⟨f18, rfl, Xb3, F15, W18, ⟨by omega, by omega⟩, trivial, (by omega), (by omega), (by omega), (by omega), (by omega), (by omega), (by omega), (show rvb3 a0 9 = rv a0 9 from hkr9), (show rvb3 a0 10 = rv a0 10 from hkr10)⟩
                        · refine c_aload_n (j := 4) (x := a0) C dX11_head_183 rfl ?_
                          obtain ⟨rb19, rq19, trb19⟩ := Wb3.ref ty31 3 rfl rfl rfl
                          have erb19 := Wb3.sk trb19 (by decide) rfl
                          subst erb19
                          refine c_getr (k := 3) C ck_12 dX11_head_184 w2_47 (by decide) ty31 rfl rfl (by decide) rfl rq19 ?_
                          refine c_st (st2 := [.ref (sk 5)]) rfl ?_
                          refine c_aload_n (j := 4) (x := a0) C dX11_head_187 rfl ?_
                          refine c_getr (k := 6) C ck_12 dX11_head_188 w2_50 (by decide) ty31 rfl rfl (by decide) rfl rq16 ?_
                          refine c_st (st2 := [.ref (sk 15), .ref (sk 5)]) rfl ?_
                          obtain ⟨rb20, rq20, trb20⟩ := Wb3.ref ty32 6 rfl rfl rfl
                          have lnrb20 : 200 ≤ lnb3 rb20 ∧ lnb3 rb20 ≤ 200 := Wb3.len trb20 rfl
                          refine c_getr (k := 6) C ck_7 dX11_head_191 w1_146 (by decide) ty32 rfl rfl (by decide) rfl rq20 ?_
                          refine c_st (st2 := [.ref rb20, .ref (sk 5)]) rfl ?_
                          refine c_iload (j := 0) C dX11_head_194 rfl ?_
                          have ll2 : 200 ≤ lnb3 rb20 ∧ lnb3 rb20 ≤ 200 := Wb3.len trb20 rfl
                          refine c_iald C dX11_head_196 trb20 rfl (by omega) (by omega) (by omega) ?_
                          refine hv3 (show (-2147483648) ≤ ivb3 rb20 k2.toNat ∧ ivb3 rb20 k2.toNat ≤ 2147483647 from Wb3.int trb20 k2.toNat) (Xb3.ty tsk5) (Phi.le Wb3 skb3) (fun ri129 ty37 pl8 => ?_)
                          have ri130 : 0 ≤ ivb3 (sk 5) 2 ∧ ivb3 (sk 5) 2 ≤ 200 := Wb3.int ty37 2
                          refine d_callV (As := [.int (iI (ivb3 rb20 k2.toNat))]) (rest := []) C hM (C_add_5 (a0 := (sk 5)) (x := ivb3 rb20 k2.toNat) Wb3 skb3 ty37 (by omega) ) dX11_head_197 kV_X11_112 rfl ty37 rfl rfl (by decide) ck_2 rfl (Nat.le_of_ble_eq_true rfl) ⟨(Nat.le_of_ble_eq_true rfl), (Nat.le_of_ble_eq_true rfl)⟩ hph pl8 (show 0 + 0 = 0 from rfl) (by decide) (fun rh19 Lh19 clh19 lnh19 ivh19 rvh19 h19 => ?_)
                          obtain ⟨rfl, xl19, fl19, W19, exf19⟩ := h19
                          refine hv13 (Fb3.call Xb3 fl19 rfl) (MRK.call mrb3 Wb3 skb3 xl19 fl19 rfl rfl) (Xb3.ty tsk2) (Xb3.ty tsk3) (Xb3.ty tsk4) (Xb3.ty tsk13) (Xb3.ty tsk14) (Xb3.ty tsk16) (Xb3.ty tsk17) (Xb3.ty tsk22) (Xb3.ty tsk23) (Xb3.trans xl19) (xl19.skl skb3) (fun F16 mr16 ty38 ty39 ty40 ty41 ty42 ty43 ty44 ty45 ty46 X2 sk2 => ?_)
                          refine c_st (st2 := []) rfl ?_
                          refine hv2 (xl19.ty ty37) (show ((ivh19 (sk 5) 2 = ivb3 (sk 5) 2 ∧ ivb3 (sk 5) 2 = 200) ∨ (ivh19 (sk 5) 2 = ivb3 (sk 5) 2 + 1 ∧ ivb3 (sk 5) 2 < 200)) from exf19) (fun ty47 gf19 => ?_)
                          have ri131 : 0 ≤ ivh19 (sk 5) 2 ∧ ivh19 (sk 5) 2 ≤ 200 := W19.int ty47 2
                          refine c_iinc (z := k2) (j := 0) (lv2 := [(5, .int (iI (k2 + 1))), (4, .int (iI f15)), (3, .ref ob2), (2, .int (iI fl)), (0, .ref a0), (1, .int (iI i))]) C dX11_head_200 rfl (by decide) rfl ?_
                          refine c_goto (tgt := 162) C dX11_head_203 (by decide) ?_
                          refine hv11 (xl19.ty ty32) (show ivh19 (sk 15) 7 = ivb3 (sk 15) 7 from fl19.i ty32 rfl 7) (xl19.ty ty38) (show ivh19 (sk 2) 2 = ivb3 (sk 2) 2 from fl19.i ty38 rfl 2) (xl19.ty ty31) (show ivh19 a0 11 = ivb3 a0 11 from fl19.i ty31 rfl 11) (show ivh19 a0 12 = ivb3 a0 12 from fl19.i ty31 rfl 12) (show ivh19 a0 13 = ivb3 a0 13 from fl19.i ty31 rfl 13) (show ivh19 a0 14 = ivb3 a0 14 from fl19.i ty31 rfl 14) (show ivh19 a0 15 = ivb3 a0 15 from fl19.i ty31 rfl 15) (show ivh19 a0 16 = ivb3 a0 16 from fl19.i ty31 rfl 16) (fun ty48 ie187 ty49 ie188 ty50 ie190 ie191 ie193 ie195 ie197 ie199 => ?_)
                          refine hv8 (show 0 ≤ ivh19 (sk 15) 7 ∧ ivh19 (sk 15) 7 ≤ 100000 from W19.int ty48 7) (show 0 ≤ ivh19 (sk 2) 2 ∧ ivh19 (sk 2) 2 ≤ 3000 from W19.int ty49 2) (show 1 ≤ ivh19 a0 11 ∧ ivh19 a0 11 ≤ 100 from W19.int ty50 11) (show 1 ≤ ivh19 a0 12 ∧ ivh19 a0 12 ≤ 50 from W19.int ty50 12) (show (-2147483648) ≤ ivh19 a0 13 ∧ ivh19 a0 13 ≤ 2147483647 from W19.int ty50 13) (show (-2147483648) ≤ ivh19 a0 14 ∧ ivh19 a0 14 ≤ 2147483647 from W19.int ty50 14) (show (-2147483648) ≤ ivh19 a0 15 ∧ ivh19 a0 15 ≤ 2147483647 from W19.int ty50 15) (show (-2147483648) ≤ ivh19 a0 16 ∧ ivh19 a0 16 ≤ 2147483647 from W19.int ty50 16) (fun ri132 ri133 ri134 ri135 ri136 ri137 ri138 ri139 => ?_)
                          refine c_lv (lv2 := [(5, .int (iI (k2 + 1))), (4, .int (iI f15)), (3, .ref ob2), (2, .int (iI fl)), (0, .ref a0), (1, .int (iI i))]) [0, 1, 2, 3, 4, 5] rfl ?_
                          exact ih3  (k2 + 1) _ _ _ _ _ (by omega) X2 W19 F16  (by omega) (by show ivh19 (sk 15) 7 ≤ 200; omega) (by show ivh19 (sk 2) 2 = 0; omega) (by show ivh19 a0 11 = iv a0 11; omega) (by show ivh19 a0 12 = iv a0 12; omega) (by show ivh19 a0 13 = iv a0 13; omega) (by show ivh19 a0 14 = iv a0 14; omega) (by show ivh19 a0 15 = iv a0 15; omega) (by show ivh19 a0 16 = iv a0 16; omega) (Eq.trans (show rvh19 a0 9 = rvb3 a0 9 from (fl19.r ty31 rfl 9)) (show rvb3 a0 9 = rv a0 9 from hkr9)) (Eq.trans (show rvh19 a0 10 = rvb3 a0 10 from (fl19.r ty31 rfl 10)) (show rvb3 a0 10 = rv a0 10 from hkr10))
                  refine hv29 (show 0 ≤ ivh16 (sk 15) 7 ∧ ivh16 (sk 15) 7 ≤ 100000 from W16.int ty29 7) (show ivh16 (sk 15) 7 = ivh15 (sk 15) 7 from fl16.i ty29 rfl 7) (show 0 ≤ ivh16 (sk 2) 2 ∧ ivh16 (sk 2) 2 ≤ 3000 from W16.int ty27 2) (show ivh16 (sk 2) 2 = ivh15 (sk 2) 2 from fl16.i ty27 rfl 2) (show ivh15 (sk 2) 2 = ivh13 (sk 2) 2 from fl15.i ty27 rfl 2) (show 1 ≤ ivh16 a0 11 ∧ ivh16 a0 11 ≤ 100 from W16.int ty26 11) (show ivh16 a0 11 = ivh15 a0 11 from fl16.i ty26 rfl 11) (show ivh15 a0 11 = ivh13 a0 11 from fl15.i ty26 rfl 11) (show ivh13 a0 11 = ivb1 a0 11 from fl13.i ty26 rfl 11) (show 1 ≤ ivh16 a0 12 ∧ ivh16 a0 12 ≤ 50 from W16.int ty26 12) (show ivh16 a0 12 = ivh15 a0 12 from fl16.i ty26 rfl 12) (show ivh15 a0 12 = ivh13 a0 12 from fl15.i ty26 rfl 12) (show ivh13 a0 12 = ivb1 a0 12 from fl13.i ty26 rfl 12) (show (-2147483648) ≤ ivh16 a0 13 ∧ ivh16 a0 13 ≤ 2147483647 from W16.int ty26 13) (show ivh16 a0 13 = ivh15 a0 13 from fl16.i ty26 rfl 13) (show ivh15 a0 13 = ivh13 a0 13 from fl15.i ty26 rfl 13) (show ivh13 a0 13 = ivb1 a0 13 from fl13.i ty26 rfl 13) (show (-2147483648) ≤ ivh16 a0 14 ∧ ivh16 a0 14 ≤ 2147483647 from W16.int ty26 14) (show ivh16 a0 14 = ivh15 a0 14 from fl16.i ty26 rfl 14) (show ivh15 a0 14 = ivh13 a0 14 from fl15.i ty26 rfl 14) (show ivh13 a0 14 = ivb1 a0 14 from fl13.i ty26 rfl 14) (show (-2147483648) ≤ ivh16 a0 15 ∧ ivh16 a0 15 ≤ 2147483647 from W16.int ty26 15) (show ivh16 a0 15 = ivh15 a0 15 from fl16.i ty26 rfl 15) (show ivh15 a0 15 = ivh13 a0 15 from fl15.i ty26 rfl 15) (show ivh13 a0 15 = ivb1 a0 15 from fl13.i ty26 rfl 15) (show (-2147483648) ≤ ivh16 a0 16 ∧ ivh16 a0 16 ≤ 2147483647 from W16.int ty26 16) (show ivh16 a0 16 = ivh15 a0 16 from fl16.i ty26 rfl 16) (show ivh15 a0 16 = ivh13 a0 16 from fl15.i ty26 rfl 16) (show ivh13 a0 16 = ivb1 a0 16 from fl13.i ty26 rfl 16) (fun ri140 ie201 ri141 ie202 ie203 ri142 ie204 ie205 ie206 ri143 ie208 ie209 ie210 ri144 ie212 ie213 ie214 ri145 ie216 ie217 ie218 ri146 ie220 ie221 ie222 ri147 ie224 ie225 ie226 => ?_)
                  refine c_lv (lv2 := [(5, .int (iI 0)), (4, .int (iI f15)), (3, .ref ob2), (2, .int (iI fl)), (0, .ref a0), (1, .int (iI i))]) [0, 1, 2, 3, 4, 5] rfl ?_
                  exact Lp3 103 0 _ _ _ _ _ (by omega) Xb1 W16 F13  (by omega) (by show ivh16 (sk 15) 7 ≤ 200; omega) (by show ivh16 (sk 2) 2 = 0; omega) (by show ivh16 a0 11 = iv a0 11; omega) (by show ivh16 a0 12 = iv a0 12; omega) (by show ivh16 a0 13 = iv a0 13; omega) (by show ivh16 a0 14 = iv a0 14; omega) (by show ivh16 a0 15 = iv a0 15; omega) (by show ivh16 a0 16 = iv a0 16; omega) (show rvb1 a0 9 = rv a0 9 from hkr9) (show rvb1 a0 10 = rv a0 10 from hkr10)
                · refine c_aload_n (j := 3) (x := a0) C dX11_head_138 rfl ?_
                  refine c_iload (j := 0) C dX11_head_139 rfl ?_
                  refine c_aload_n (j := 3) (x := a0) C dX11_head_141 rfl ?_
                  refine c_getr (k := 6) C ck_12 dX11_head_142 w2_50 (by decide) ty26 rfl rfl (by decide) rfl rq14 ?_
                  refine c_st (st2 := [.ref (sk 15), .int (iI f15), .ref a0]) rfl ?_
                  refine d_callV (As := []) (rest := [.int (iI f15), .ref a0]) C hM (C_placeOfUnknown (a0 := (sk 15)) W15 skb1 ty29  ) dX11_head_145 kV_X11_263 rfl ty29 rfl rfl (by decide) ck_7 rfl (Nat.le_of_ble_eq_true rfl) ⟨(Nat.le_of_ble_eq_true rfl), (Nat.le_of_ble_eq_true rfl)⟩ hph pl5 (show 0 + 0 = 0 from rfl) (by decide) (fun rh20 Lh20 clh20 lnh20 ivh20 rvh20 h20 => ?_)
                  obtain ⟨f20, rfl, rfl, rfl, rfl, rfl, rfl, rgf20, exf20⟩ := h20
                  refine c_st (st2 := [.int (iI f20), .int (iI f15), .ref a0]) rfl ?_
                  refine d_callV (As := [.int (iI f15), .int (iI f20)]) (rest := []) C hM (C_refuseAt (a0 := a0) (x := f15) (y := f20) W15 skb1 ty26 (by omega) (by omega) ) dX11_head_148 kV_X11_266 rfl ty26 rfl rfl (by decide) ck_12 rfl (Nat.le_of_ble_eq_true rfl) ⟨(Nat.le_of_ble_eq_true rfl), (Nat.le_of_ble_eq_true rfl)⟩ hph pl5 (show 0 + 0 = 0 from rfl) (by decide) (fun rh21 Lh21 clh21 lnh21 ivh21 rvh21 h21 => ?_)
                  obtain ⟨f21, rfl, rfl, rfl, rfl, rfl, fl21, W21, rgf21, exf21, kp11f21, kp12f21, kp13f21, kp14f21, kp15f21, kp16f21⟩ := h21
                  refine hv20 (show 1 ≤ ivh15 a0 11 ∧ ivh15 a0 11 ≤ 100 from W15.int ty26 11) (show ivh15 a0 11 = ivh13 a0 11 from fl15.i ty26 rfl 11) (show ivh13 a0 11 = ivb1 a0 11 from fl13.i ty26 rfl 11) (show 1 ≤ ivh15 a0 12 ∧ ivh15 a0 12 ≤ 50 from W15.int ty26 12) (show ivh15 a0 12 = ivh13 a0 12 from fl15.i ty26 rfl 12) (show ivh13 a0 12 = ivb1 a0 12 from fl13.i ty26 rfl 12) (show (-2147483648) ≤ ivh15 a0 13 ∧ ivh15 a0 13 ≤ 2147483647 from W15.int ty26 13) (show ivh15 a0 13 = ivh13 a0 13 from fl15.i ty26 rfl 13) (show ivh13 a0 13 = ivb1 a0 13 from fl13.i ty26 rfl 13) (show (-2147483648) ≤ ivh15 a0 14 ∧ ivh15 a0 14 ≤ 2147483647 from W15.int ty26 14) (show ivh15 a0 14 = ivh13 a0 14 from fl15.i ty26 rfl 14) (show ivh13 a0 14 = ivb1 a0 14 from fl13.i ty26 rfl 14) (show (-2147483648) ≤ ivh15 a0 15 ∧ ivh15 a0 15 ≤ 2147483647 from W15.int ty26 15) (show ivh15 a0 15 = ivh13 a0 15 from fl15.i ty26 rfl 15) (show ivh13 a0 15 = ivb1 a0 15 from fl13.i ty26 rfl 15) (show (-2147483648) ≤ ivh15 a0 16 ∧ ivh15 a0 16 ≤ 2147483647 from W15.int ty26 16) (show ivh15 a0 16 = ivh13 a0 16 from fl15.i ty26 rfl 16) (show ivh13 a0 16 = ivb1 a0 16 from fl13.i ty26 rfl 16) (F12.call Xb1 fl21 rfl) (MRK.call mr12 W15 skb1 XT.refl fl21 rfl rfl) (fun ri148 ie228 ie229 ri149 ie231 ie232 ri150 ie234 ie235 ri151 ie237 ie238 ri152 ie240 ie241 ri153 ie243 ie244 F17 mr17 => ?_)
                  refine c_st (st2 := [.int (iI f21)]) rfl ?_
                  refine hv16 (show ivh21 a0 11 = ivh15 a0 11 from kp11f21) (show ivh21 a0 12 = ivh15 a0 12 from kp12f21) (show ivh21 a0 13 = ivh15 a0 13 from kp13f21) (show ivh21 a0 14 = ivh15 a0 14 from kp14f21) (show ivh21 a0 15 = ivh15 a0 15 from kp15f21) (show ivh21 a0 16 = ivh15 a0 16 from kp16f21) (show f21 = -1 from exf21) (show 0 ≤ ivh21 (sk 2) 2 ∧ ivh21 (sk 2) 2 ≤ 3000 from W21.int ty27 2) (show ivh21 (sk 2) 2 = ivh15 (sk 2) 2 from fl21.i ty27 rfl 2) (show ivh15 (sk 2) 2 = ivh13 (sk 2) 2 from fl15.i ty27 rfl 2) (show 1 ≤ ivh21 a0 11 ∧ ivh21 a0 11 ≤ 100 from W21.int ty26 11) (show 1 ≤ ivh21 a0 12 ∧ ivh21 a0 12 ≤ 50 from W21.int ty26 12) (show (-2147483648) ≤ ivh21 a0 13 ∧ ivh21 a0 13 ≤ 2147483647 from W21.int ty26 13) (show (-2147483648) ≤ ivh21 a0 14 ∧ ivh21 a0 14 ≤ 2147483647 from W21.int ty26 14) (show (-2147483648) ≤ ivh21 a0 15 ∧ ivh21 a0 15 ≤ 2147483647 from W21.int ty26 15) (show (-2147483648) ≤ ivh21 a0 16 ∧ ivh21 a0 16 ≤ 2147483647 from W21.int ty26 16) (fun gk11f21 gk12f21 gk13f21 gk14f21 gk15f21 gk16f21 gf21 ri154 ie246 ie247 ri155 ri156 ri157 ri158 ri159 ri160 => ?_)
                  exact c_iret C dX11_head_151 rfl (by decide) (rom0 hph pl5 (by decide)) ⟨f21, rfl, Xb1, F17, W21, ⟨by omega, by omega⟩, trivial, (by omega), (by omega), (by omega), (by omega), (by omega), (by omega), (by omega), (show rvb1 a0 9 = rv a0 9 from hkr9), (show rvb1 a0 10 = rv a0 10 from hkr10)⟩
              · subst oq2
                refine c_lv (lv2 := [(3, .null), (2, .int (iI fl)), (0, .ref a0), (1, .int (iI i))]) [0, 1, 2, 3] rfl ?_
                refine c_st (st2 := []) rfl ?_
                refine c_aload_n (j := 2) (x := a0) C dX11_head_117 rfl ?_
                refine c_iconst C dX11_head_118 ?_
                refine d_callV (As := [.int (iI 3)]) (rest := []) C hM (C_refuse (a0 := a0) (x := 3) W13 skb1 ty26 ⟨by decide, by decide⟩ ) dX11_head_119 kV_X11_102 rfl ty26 rfl rfl (by decide) ck_12 rfl (Nat.le_of_ble_eq_true rfl) ⟨(Nat.le_of_ble_eq_true rfl), (Nat.le_of_ble_eq_true rfl)⟩ hph pl5 (show 0 + 0 = 0 from rfl) (by decide) (fun rh22 Lh22 clh22 lnh22 ivh22 rvh22 h22 => ?_)
                obtain ⟨f22, rfl, rfl, rfl, rfl, rfl, fl22, W22, rgf22, exf22, kp11f22, kp12f22, kp13f22, kp14f22, kp15f22, kp16f22⟩ := h22
                refine hv14 (show 1 ≤ ivh13 a0 11 ∧ ivh13 a0 11 ≤ 100 from W13.int ty26 11) (show ivh13 a0 11 = ivb1 a0 11 from fl13.i ty26 rfl 11) (show 1 ≤ ivh13 a0 12 ∧ ivh13 a0 12 ≤ 50 from W13.int ty26 12) (show ivh13 a0 12 = ivb1 a0 12 from fl13.i ty26 rfl 12) (show (-2147483648) ≤ ivh13 a0 13 ∧ ivh13 a0 13 ≤ 2147483647 from W13.int ty26 13) (show ivh13 a0 13 = ivb1 a0 13 from fl13.i ty26 rfl 13) (show (-2147483648) ≤ ivh13 a0 14 ∧ ivh13 a0 14 ≤ 2147483647 from W13.int ty26 14) (show ivh13 a0 14 = ivb1 a0 14 from fl13.i ty26 rfl 14) (show (-2147483648) ≤ ivh13 a0 15 ∧ ivh13 a0 15 ≤ 2147483647 from W13.int ty26 15) (show ivh13 a0 15 = ivb1 a0 15 from fl13.i ty26 rfl 15) (show (-2147483648) ≤ ivh13 a0 16 ∧ ivh13 a0 16 ≤ 2147483647 from W13.int ty26 16) (show ivh13 a0 16 = ivb1 a0 16 from fl13.i ty26 rfl 16) (F11.call Xb1 fl22 rfl) (MRK.call mr11 W13 skb1 XT.refl fl22 rfl rfl) (fun ri161 ie254 ri162 ie256 ri163 ie258 ri164 ie260 ri165 ie262 ri166 ie264 F18 mr18 => ?_)
                refine c_st (st2 := [.int (iI f22)]) rfl ?_
                refine hv15 (show ivh22 a0 11 = ivh13 a0 11 from kp11f22) (show ivh22 a0 12 = ivh13 a0 12 from kp12f22) (show ivh22 a0 13 = ivh13 a0 13 from kp13f22) (show ivh22 a0 14 = ivh13 a0 14 from kp14f22) (show ivh22 a0 15 = ivh13 a0 15 from kp15f22) (show ivh22 a0 16 = ivh13 a0 16 from kp16f22) (show f22 = -1 from exf22) (show 0 ≤ ivh22 (sk 2) 2 ∧ ivh22 (sk 2) 2 ≤ 3000 from W22.int ty27 2) (show ivh22 (sk 2) 2 = ivh13 (sk 2) 2 from fl22.i ty27 rfl 2) (show 1 ≤ ivh22 a0 11 ∧ ivh22 a0 11 ≤ 100 from W22.int ty26 11) (show 1 ≤ ivh22 a0 12 ∧ ivh22 a0 12 ≤ 50 from W22.int ty26 12) (show (-2147483648) ≤ ivh22 a0 13 ∧ ivh22 a0 13 ≤ 2147483647 from W22.int ty26 13) (show (-2147483648) ≤ ivh22 a0 14 ∧ ivh22 a0 14 ≤ 2147483647 from W22.int ty26 14) (show (-2147483648) ≤ ivh22 a0 15 ∧ ivh22 a0 15 ≤ 2147483647 from W22.int ty26 15) (show (-2147483648) ≤ ivh22 a0 16 ∧ ivh22 a0 16 ≤ 2147483647 from W22.int ty26 16) (fun gk11f22 gk12f22 gk13f22 gk14f22 gk15f22 gk16f22 gf22 ri167 ie266 ri168 ri169 ri170 ri171 ri172 ri173 => ?_)
                exact c_iret C dX11_head_122 rfl (by decide) (rom0 hph pl5 (by decide)) ⟨f22, rfl, Xb1, F18, W22, ⟨by omega, by omega⟩, trivial, (by omega), (by omega), (by omega), (by omega), (by omega), (by omega), (by omega), (show rvb1 a0 9 = rv a0 9 from hkr9), (show rvb1 a0 10 = rv a0 10 from hkr10)⟩
            · refine c_aload_n (j := 2) (x := a0) C dX11_head_97 rfl ?_
              refine c_bipush (z := 6) C dX11_head_98 (by decide) ?_
              refine d_callV (As := [.int (iI 6)]) (rest := []) C hM (C_refuse (a0 := a0) (x := 6) W13 skb1 ty26 ⟨by decide, by decide⟩ ) dX11_head_100 kV_X11_102 rfl ty26 rfl rfl (by decide) ck_12 rfl (Nat.le_of_ble_eq_true rfl) ⟨(Nat.le_of_ble_eq_true rfl), (Nat.le_of_ble_eq_true rfl)⟩ hph pl5 (show 0 + 0 = 0 from rfl) (by decide) (fun rh23 Lh23 clh23 lnh23 ivh23 rvh23 h23 => ?_)
              obtain ⟨f23, rfl, rfl, rfl, rfl, rfl, fl23, W23, rgf23, exf23, kp11f23, kp12f23, kp13f23, kp14f23, kp15f23, kp16f23⟩ := h23
              refine hv14 (show 1 ≤ ivh13 a0 11 ∧ ivh13 a0 11 ≤ 100 from W13.int ty26 11) (show ivh13 a0 11 = ivb1 a0 11 from fl13.i ty26 rfl 11) (show 1 ≤ ivh13 a0 12 ∧ ivh13 a0 12 ≤ 50 from W13.int ty26 12) (show ivh13 a0 12 = ivb1 a0 12 from fl13.i ty26 rfl 12) (show (-2147483648) ≤ ivh13 a0 13 ∧ ivh13 a0 13 ≤ 2147483647 from W13.int ty26 13) (show ivh13 a0 13 = ivb1 a0 13 from fl13.i ty26 rfl 13) (show (-2147483648) ≤ ivh13 a0 14 ∧ ivh13 a0 14 ≤ 2147483647 from W13.int ty26 14) (show ivh13 a0 14 = ivb1 a0 14 from fl13.i ty26 rfl 14) (show (-2147483648) ≤ ivh13 a0 15 ∧ ivh13 a0 15 ≤ 2147483647 from W13.int ty26 15) (show ivh13 a0 15 = ivb1 a0 15 from fl13.i ty26 rfl 15) (show (-2147483648) ≤ ivh13 a0 16 ∧ ivh13 a0 16 ≤ 2147483647 from W13.int ty26 16) (show ivh13 a0 16 = ivb1 a0 16 from fl13.i ty26 rfl 16) (F11.call Xb1 fl23 rfl) (MRK.call mr11 W13 skb1 XT.refl fl23 rfl rfl) (fun ri174 ie273 ri175 ie275 ri176 ie277 ri177 ie279 ri178 ie281 ri179 ie283 F19 mr19 => ?_)
              refine c_st (st2 := [.int (iI f23)]) rfl ?_
              refine hv15 (show ivh23 a0 11 = ivh13 a0 11 from kp11f23) (show ivh23 a0 12 = ivh13 a0 12 from kp12f23) (show ivh23 a0 13 = ivh13 a0 13 from kp13f23) (show ivh23 a0 14 = ivh13 a0 14 from kp14f23) (show ivh23 a0 15 = ivh13 a0 15 from kp15f23) (show ivh23 a0 16 = ivh13 a0 16 from kp16f23) (show f23 = -1 from exf23) (show 0 ≤ ivh23 (sk 2) 2 ∧ ivh23 (sk 2) 2 ≤ 3000 from W23.int ty27 2) (show ivh23 (sk 2) 2 = ivh13 (sk 2) 2 from fl23.i ty27 rfl 2) (show 1 ≤ ivh23 a0 11 ∧ ivh23 a0 11 ≤ 100 from W23.int ty26 11) (show 1 ≤ ivh23 a0 12 ∧ ivh23 a0 12 ≤ 50 from W23.int ty26 12) (show (-2147483648) ≤ ivh23 a0 13 ∧ ivh23 a0 13 ≤ 2147483647 from W23.int ty26 13) (show (-2147483648) ≤ ivh23 a0 14 ∧ ivh23 a0 14 ≤ 2147483647 from W23.int ty26 14) (show (-2147483648) ≤ ivh23 a0 15 ∧ ivh23 a0 15 ≤ 2147483647 from W23.int ty26 15) (show (-2147483648) ≤ ivh23 a0 16 ∧ ivh23 a0 16 ≤ 2147483647 from W23.int ty26 16) (fun gk11f23 gk12f23 gk13f23 gk14f23 gk15f23 gk16f23 gf23 ri180 ie285 ri181 ri182 ri183 ri184 ri185 ri186 => ?_)
              exact c_iret C dX11_head_103 rfl (by decide) (rom0 hph pl5 (by decide)) ⟨f23, rfl, Xb1, F19, W23, ⟨by omega, by omega⟩, trivial, (by omega), (by omega), (by omega), (by omega), (by omega), (by omega), (by omega), (show rvb1 a0 9 = rv a0 9 from hkr9), (show rvb1 a0 10 = rv a0 10 from hkr10)⟩
          · refine c_aload_n (j := 2) (x := a0) C dX11_head_64 rfl ?_
            obtain ⟨rb21, rq21, trb21⟩ := Wb1.ref ty26 6 rfl rfl rfl
            have erb21 := Wb1.sk trb21 (by decide) rfl
            subst erb21
            refine c_getr (k := 6) C ck_12 dX11_head_65 w2_50 (by decide) ty26 rfl rfl (by decide) rfl rq21 ?_
            refine c_st (st2 := [.ref (sk 15)]) rfl ?_
            refine c_aload_n (j := 2) (x := a0) C dX11_head_68 rfl ?_
            refine c_getr (k := 0) C ck_12 dX11_head_69 w2_44 (by decide) ty26 rfl rfl (by decide) rfl rq12 ?_
            refine c_st (st2 := [.ref (sk 2), .ref (sk 15)]) rfl ?_
            refine c_iload_n (j := 1) C dX11_head_72 rfl ?_
            have pl9 := Phi.le Wb1 skb1
            refine d_callV (As := [.int (iI k)]) (rest := [.ref (sk 15)]) C hM (C_at_2 (a0 := (sk 2)) (i := k) Wb1 skb1 ty27 (by omega) ) dX11_head_73 kV_X11_224 rfl ty27 rfl rfl (by decide) ck_2 rfl (Nat.le_of_ble_eq_true rfl) ⟨(Nat.le_of_ble_eq_true rfl), (Nat.le_of_ble_eq_true rfl)⟩ hph pl9 (show 0 + 0 = 0 from rfl) (by decide) (fun rh24 Lh24 clh24 lnh24 ivh24 rvh24 h24 => ?_)
            obtain ⟨f24, rfl, rfl, rfl, rfl, rfl, rfl, rgf24, exf24⟩ := h24
            refine c_st (st2 := [.int (iI f24), .ref (sk 15)]) rfl ?_
            have gf24 : ((0 ≤ k ∧ k < ivb1 (sk 2) 2) ∨ f24 = 0) ∧ ∀ ss, CT ivb1 rvb1 (sk 2) ss → 0 ≤ k → k < ivb1 (sk 2) 2 → f24 = ss k.toNat := exf24
            refine c_iload_n (j := 1) C dX11_head_76 rfl ?_
            have ty51 := Xb1.ty tsk15
            refine d_callV (As := [.int (iI f24), .int (iI k)]) (rest := []) C hM (C_put (a0 := (sk 15)) (x := f24) (y := k) Wb1 skb1 ty51 (by omega) (by omega) ) dX11_head_77 kV_X11_273 rfl ty51 rfl rfl (by decide) ck_7 rfl (Nat.le_of_ble_eq_true rfl) ⟨(Nat.le_of_ble_eq_true rfl), (Nat.le_of_ble_eq_true rfl)⟩ hph pl9 (show 0 + 0 = 0 from rfl) (by decide) (fun rh25 Lh25 clh25 lnh25 ivh25 rvh25 h25 => ?_)
            obtain ⟨rfl, rfl, rfl, rfl, rfl, fl25, W25, exf25⟩ := h25
            refine hv2 (Fb1.call Xb1 fl25 rfl) (MRK.call mrb1 Wb1 skb1 XT.refl fl25 rfl rfl) (fun F20 mr20 => ?_)
            refine c_st (st2 := []) rfl ?_
            refine c_iinc (z := k) (j := 1) (lv2 := [(3, .int (iI (k + 1))), (2, .int (iI fl)), (0, .ref a0), (1, .int (iI i))]) C dX11_head_80 rfl (by decide) rfl ?_
            refine c_goto (tgt := 49) C dX11_head_83 (by decide) ?_
            refine hv12 (show 1 ≤ ivh25 a0 11 ∧ ivh25 a0 11 ≤ 100 from W25.int ty26 11) (show ivh25 a0 11 = ivb1 a0 11 from fl25.i ty26 rfl 11) (show 1 ≤ ivh25 a0 12 ∧ ivh25 a0 12 ≤ 50 from W25.int ty26 12) (show ivh25 a0 12 = ivb1 a0 12 from fl25.i ty26 rfl 12) (show (-2147483648) ≤ ivh25 a0 13 ∧ ivh25 a0 13 ≤ 2147483647 from W25.int ty26 13) (show ivh25 a0 13 = ivb1 a0 13 from fl25.i ty26 rfl 13) (show (-2147483648) ≤ ivh25 a0 14 ∧ ivh25 a0 14 ≤ 2147483647 from W25.int ty26 14) (show ivh25 a0 14 = ivb1 a0 14 from fl25.i ty26 rfl 14) (show (-2147483648) ≤ ivh25 a0 15 ∧ ivh25 a0 15 ≤ 2147483647 from W25.int ty26 15) (show ivh25 a0 15 = ivb1 a0 15 from fl25.i ty26 rfl 15) (show (-2147483648) ≤ ivh25 a0 16 ∧ ivh25 a0 16 ≤ 2147483647 from W25.int ty26 16) (show ivh25 a0 16 = ivb1 a0 16 from fl25.i ty26 rfl 16) (fun ri187 ie292 ri188 ie294 ri189 ie296 ri190 ie298 ri191 ie300 ri192 ie302 => ?_)
            refine c_lv (lv2 := [(2, .int (iI fl)), (3, .int (iI (k + 1))), (0, .ref a0), (1, .int (iI i))]) [1, 0, 2, 3] rfl ?_
            exact ih1  fl (k + 1) _ _ _ _ _ (by omega) Xb1 W25 F20  (by omega) (by omega) (by show ivh25 a0 11 = iv a0 11; omega) (by show ivh25 a0 12 = iv a0 12; omega) (by show ivh25 a0 13 = iv a0 13; omega) (by show ivh25 a0 14 = iv a0 14; omega) (by show ivh25 a0 15 = iv a0 15; omega) (by show ivh25 a0 16 = iv a0 16; omega) (show rvb1 a0 9 = rv a0 9 from hkr9) (show rvb1 a0 10 = rv a0 10 from hkr10)
    refine hv12 (show 1 ≤ ivh1 a0 11 ∧ ivh1 a0 11 ≤ 100 from W1.int t_a0 11) (show ivh1 a0 11 = iv a0 11 from fl1.i t_a0 rfl 11) (show 1 ≤ ivh1 a0 12 ∧ ivh1 a0 12 ≤ 50 from W1.int t_a0 12) (show ivh1 a0 12 = iv a0 12 from fl1.i t_a0 rfl 12) (show (-2147483648) ≤ ivh1 a0 13 ∧ ivh1 a0 13 ≤ 2147483647 from W1.int t_a0 13) (show ivh1 a0 13 = iv a0 13 from fl1.i t_a0 rfl 13) (show (-2147483648) ≤ ivh1 a0 14 ∧ ivh1 a0 14 ≤ 2147483647 from W1.int t_a0 14) (show ivh1 a0 14 = iv a0 14 from fl1.i t_a0 rfl 14) (show (-2147483648) ≤ ivh1 a0 15 ∧ ivh1 a0 15 ≤ 2147483647 from W1.int t_a0 15) (show ivh1 a0 15 = iv a0 15 from fl1.i t_a0 rfl 15) (show (-2147483648) ≤ ivh1 a0 16 ∧ ivh1 a0 16 ≤ 2147483647 from W1.int t_a0 16) (show ivh1 a0 16 = iv a0 16 from fl1.i t_a0 rfl 16) (fun ri193 ie304 ri194 ie305 ri195 ie306 ri196 ie307 ri197 ie308 ri198 ie309 => ?_)
    refine c_lv (lv2 := [(2, .int (iI 0)), (3, .int (iI 0)), (0, .ref a0), (1, .int (iI i))]) [1, 0, 2, 3] rfl ?_
    exact Lp1 3003 0 0 _ _ _ _ _ (by omega) hX0 W1 F1  (by omega) (by omega) (by show ivh1 a0 11 = iv a0 11; omega) (by show ivh1 a0 12 = iv a0 12; omega) (by show ivh1 a0 13 = iv a0 13; omega) (by show ivh1 a0 14 = iv a0 14; omega) (by show ivh1 a0 15 = iv a0 15; omega) (by show ivh1 a0 16 = iv a0 16; omega) rfl rfl
  · refine c_aload_n (j := 0) (x := a0) C dX11_head_12 rfl ?_
    refine c_getr (k := 0) C ck_12 dX11_head_13 w2_44 (by decide) t_a0 rfl rfl (by decide) rfl rq1 ?_
    refine c_st (st2 := [.ref (sk 2)]) rfl ?_
    refine c_iconst C dX11_head_16 ?_
    refine c_aload_n (j := 0) (x := a0) C dX11_head_17 rfl ?_
    refine c_getr (k := 0) C ck_12 dX11_head_18 w2_44 (by decide) t_a0 rfl rfl (by decide) rfl rq1 ?_
    refine c_st (st2 := [.ref (sk 2), .int (iI 0), .ref (sk 2)]) rfl ?_
    refine c_get (k := 2) C ck_2 dX11_head_21 w1_44 (by decide) tsk2 rfl rfl (by decide) rfl ?_
    refine c_bipush (z := 33) C dX11_head_24 (by decide) ?_
    refine c_bipush (z := 125) C dX11_head_26 (by decide) ?_
    refine d_callV (As := [.int (iI 0), .int (iI (iv (sk 2) 2)), .int (iI 33), .int (iI 125)]) (rest := []) C hM (C_isWithin_2 (a0 := (sk 2)) (i := 0) (j := iv (sk 2) 2) (lo := 33) (hi := 125) hW hS tsk2 ⟨by decide, by decide⟩ (by omega) ⟨by decide, by decide⟩ ⟨by decide, by decide⟩ ) dX11_head_28 kV_X11_171 rfl tsk2 rfl rfl (by decide) ck_2 rfl (Nat.le_of_ble_eq_true rfl) ⟨(Nat.le_of_ble_eq_true rfl), (Nat.le_of_ble_eq_true rfl)⟩ hph hph (show 0 + 0 = 0 from rfl) (by decide) (fun rh26 Lh26 clh26 lnh26 ivh26 rvh26 h26 => ?_)
    obtain ⟨f26, rfl, rfl, rfl, rfl, rfl, rfl, rgf26, exf26⟩ := h26
    refine c_st (st2 := [.int (iI f26)]) rfl ?_
    have gf26 : ∀ ss, CT iv rv (sk 2) ss → 0 ≤ (0 : Int) → (iv (sk 2) 2) ≤ iv (sk 2) 2 → (f26 = 1 ↔ ∀ x : Nat, (0 : Int) ≤ (x : Int) → (x : Int) < (iv (sk 2) 2) → (33 : Int) ≤ ss x ∧ ss x ≤ (125 : Int)) := exf26
    refine c_if_eq (tgt := 38) C ⟨by omega, by omega⟩ dX11_head_31 (by decide) (fun c12 => ?_) (fun c12 => ?_)
    · refine c_iconst C dX11_head_38 ?_
      refine c_istore_n (lv2 := [(2, .int (iI 0)), (0, .ref a0), (1, .int (iI i))]) C dX11_head_39 (by decide) rfl ?_
      refine c_aload_n (j := 1) (x := a0) C dX11_head_40 rfl ?_
      obtain ⟨rb22, rq22, trb22⟩ := hW.ref t_a0 6 rfl rfl rfl
      have erb22 := hW.sk trb22 (by decide) rfl
      subst erb22
      refine c_getr (k := 6) C ck_12 dX11_head_41 w2_50 (by decide) t_a0 rfl rfl (by decide) rfl rq22 ?_
      refine c_st (st2 := [.ref (sk 15)]) rfl ?_
      refine d_callV (As := []) (rest := []) C hM (C_wclear (a0 := (sk 15)) hW hS tsk15  ) dX11_head_44 kV_X11_272 rfl tsk15 rfl rfl (by decide) ck_7 rfl (Nat.le_of_ble_eq_true rfl) ⟨(Nat.le_of_ble_eq_true rfl), (Nat.le_of_ble_eq_true rfl)⟩ hph hph (show 0 + 0 = 0 from rfl) (by decide) (fun rh27 Lh27 clh27 lnh27 ivh27 rvh27 h27 => ?_)
      obtain ⟨rfl, rfl, rfl, rfl, rfl, fl27, W27, exf27⟩ := h27
      refine hv2 (hF0.call hX0 fl27 rfl) (MRK.call hmr hW hS XT.refl fl27 rfl rfl) (fun F21 mr21 => ?_)
      refine c_st (st2 := []) rfl ?_
      refine c_iconst C dX11_head_47 ?_
      refine c_istore_n (lv2 := [(3, .int (iI 0)), (2, .int (iI 0)), (0, .ref a0), (1, .int (iI i))]) C dX11_head_48 (by decide) rfl ?_
      have Lp4 : ∀ (nn : Nat) (fl k : Int) (Lb4 : List Nat) (clb4 lnb4 : Nat → Nat) (ivb4 : Nat → Nat → Int) (rvb4 : Nat → Nat → Option Nat) , 3001 - k < (nn : Int) → XT L cl ln Lb4 clb4 lnb4 → WT (g0 G) sk Lb4 clb4 lnb4 ivb4 rvb4 → fT [1, 2, 5, 35, 15, 50, 51, 52, 53, 54, 55] L cl iv rv ivb4 rvb4 → (fl = 0 ∨ fl = 1) → (0 ≤ k ∧ k ≤ 3000) → (ivb4 a0 11 = iv a0 11) → (ivb4 a0 12 = iv a0 12) → (ivb4 a0 13 = iv a0 13) → (ivb4 a0 14 = iv a0 14) → (ivb4 a0 15 = iv a0 15) → (ivb4 a0 16 = iv a0 16) → (rvb4 a0 9 = rv a0 9) → (rvb4 a0 10 = rv a0 10) → cw p l e 8 ((PHM) + 0 - ((Phi (g0 G) sk) ln rv)) s m args below meth c G A 6 (MQ below (Qu G A (Qp G (Phi (g0 G) sk) ((Phi (g0 G) sk) ln rv) 0 (fun v L2 cl2 ln2 iv2 rv2 => ∃ f : Int, v = some (.int (iI f)) ∧ XT L cl ln L2 cl2 ln2 ∧ fT [1, 2, 5, 35, 15, 50, 51, 52, 53, 54, 55] L cl iv rv iv2 rv2 ∧ WT (g0 G) sk L2 cl2 ln2 iv2 rv2 ∧ (-2147483648 ≤ f ∧ f ≤ 2147483647) ∧ (True) ∧ iv2 a0 11 = iv a0 11 ∧ iv2 a0 12 = iv a0 12 ∧ iv2 a0 13 = iv a0 13 ∧ iv2 a0 14 = iv a0 14 ∧ iv2 a0 15 = iv a0 15 ∧ iv2 a0 16 = iv a0 16 ∧ iv2 (sk 2) 2 = 0 ∧ rv2 a0 9 = rv a0 9 ∧ rv2 a0 10 = rv a0 10))) args s (((PHM) + 0 - ((Phi (g0 G) sk) ln rv)) / 16) ((PHM) + 0 - ((Phi (g0 G) sk) ln rv)) A) (Phi (g0 G) sk) ((Phi (g0 G) sk) ln rv) Lb4 clb4 lnb4 ivb4 rvb4 0 49 [(2, .int (iI fl)), (3, .int (iI k)), (0, .ref a0), (1, .int (iI i))] [] := by
        intro nn
        induction nn with
        | zero =>
          intro  fl k Lb4 clb4 lnb4 ivb4 rvb4 hm Xb4 Wb4 Fb4  hfl hk hkp11 hkp12 hkp13 hkp14 hkp15 hkp16 hkr9 hkr10
          have skb4 := Xb4.skl hS
          exact absurd hm (by omega)
        | succ nn ih4 =>
          intro  fl k Lb4 clb4 lnb4 ivb4 rvb4 hm Xb4 Wb4 Fb4  hfl hk hkp11 hkp12 hkp13 hkp14 hkp15 hkp16 hkr9 hkr10
          refine hv2 (Xb4.skl hS) (MRK.call hmr hW hS Xb4 Fb4 rfl rfl) (fun skb4 mrb4 => ?_)
          refine c_iload_n (j := 0) C dX11_head_49 rfl ?_
          refine c_if_eq (tgt := 86) C ⟨by omega, by omega⟩ dX11_head_50 (by decide) (fun c13 => ?_) (fun c13 => ?_)
          · refine c_aload_n (j := 2) (x := a0) C dX11_head_86 rfl ?_
            have ty52 := Xb4.ty t_a0
            obtain ⟨rb23, rq23, trb23⟩ := Wb4.ref ty52 0 rfl rfl rfl
            have erb23 := Wb4.sk trb23 (by decide) rfl
            subst erb23
            refine c_getr (k := 0) C ck_12 dX11_head_87 w2_44 (by decide) ty52 rfl rfl (by decide) rfl rq23 ?_
            refine c_st (st2 := [.ref (sk 2)]) rfl ?_
            refine hv2 (Xb4.ty tsk2) (Phi.le Wb4 skb4) (fun ty53 pl10 => ?_)
            refine d_callV (As := []) (rest := []) C hM (C_clear_2 (a0 := (sk 2)) Wb4 skb4 ty53  ) dX11_head_90 kV_X11_164 rfl ty53 rfl rfl (by decide) ck_2 rfl (Nat.le_of_ble_eq_true rfl) ⟨(Nat.le_of_ble_eq_true rfl), (Nat.le_of_ble_eq_true rfl)⟩ hph pl10 (show 0 + 0 = 0 from rfl) (by decide) (fun rh28 Lh28 clh28 lnh28 ivh28 rvh28 h28 => ?_)
            obtain ⟨rfl, rfl, rfl, rfl, rfl, fl28, W28, exf28⟩ := h28
            refine hv2 (Fb4.call Xb4 fl28 rfl) (MRK.call mrb4 Wb4 skb4 XT.refl fl28 rfl rfl) (fun F22 mr22 => ?_)
            refine c_st (st2 := []) rfl ?_
            refine hv2 (show 0 ≤ ivh28 (sk 2) 2 ∧ ivh28 (sk 2) 2 ≤ 3000 from W28.int ty53 2) (show ivh28 (sk 2) 2 = 0 from exf28) (fun ri199 gf28 => ?_)
            refine c_iload_n (j := 0) C dX11_head_93 rfl ?_
            refine c_if_ne (tgt := 104) C ⟨by omega, by omega⟩ dX11_head_94 (by decide) (fun c14 => ?_) (fun c14 => ?_)
            · refine c_aload_n (j := 2) (x := a0) C dX11_head_104 rfl ?_
              obtain ⟨rb24, rq24, trb24⟩ := W28.ref ty52 4 rfl rfl rfl
              have erb24 := W28.sk trb24 (by decide) rfl
              subst erb24
              refine c_getr (k := 4) C ck_12 dX11_head_105 w2_48 (by decide) ty52 rfl rfl (by decide) rfl rq24 ?_
              refine c_st (st2 := [.ref (sk 13)]) rfl ?_
              refine c_iload_n (j := 3) C dX11_head_108 rfl ?_
              have ty54 := Xb4.ty tsk13
              refine d_callV (As := [.int (iI i)]) (rest := []) C hM (C_whole (a0 := (sk 13)) (i := i) W28 skb4 ty54 (by omega) mr22) dX11_head_109 kV_X11_231 rfl ty54 rfl rfl (by decide) ck_11 rfl (Nat.le_of_ble_eq_true rfl) ⟨(Nat.le_of_ble_eq_true rfl), (Nat.le_of_ble_eq_true rfl)⟩ hph pl10 (show 0 + 0 = 0 from rfl) (by decide) (fun rh29 Lh29 clh29 lnh29 ivh29 rvh29 h29 => ?_)
              obtain ⟨f29, rfl, rfl, rfl, rfl, rfl, rfl, rgf29, exf29⟩ := h29
              refine c_st (st2 := [(va_rf f29)]) rfl ?_
              refine c_astorer_n (r := f29) (lv2 := [(3, (va_rf f29)), (2, .int (iI fl)), (0, .ref a0), (1, .int (iI i))]) C dX11_head_112 (by decide) rfl ?_
              refine c_aloadr_n (j := 0) (r := f29) C dX11_head_113 rfl ?_
              refine c_ifnonnull (r := f29) (tgt := 123) C dX11_head_114 (by decide) (fun ob3 oq3 => ?_) (fun oq3 => ?_)
              · subst oq3
                have tob3 := rgf29 ob3 rfl
                refine c_lv (lv2 := [(3, .ref ob3), (2, .int (iI fl)), (0, .ref a0), (1, .int (iI i))]) [0, 1, 2, 3] rfl ?_
                refine c_st (st2 := []) rfl ?_
                refine c_aload_n (j := 2) (x := a0) C dX11_head_123 rfl ?_
                obtain ⟨rb25, rq25, trb25⟩ := W28.ref ty52 6 rfl rfl rfl
                have erb25 := W28.sk trb25 (by decide) rfl
                subst erb25
                refine c_getr (k := 6) C ck_12 dX11_head_124 w2_50 (by decide) ty52 rfl rfl (by decide) rfl rq25 ?_
                refine c_st (st2 := [.ref (sk 15)]) rfl ?_
                refine c_aload_n (j := 0) (x := ob3) C dX11_head_127 rfl ?_
                have ty55 := Xb4.ty tsk15
                refine hv2 (show 0 ≤ ivh28 (sk 15) 4 ∧ ivh28 (sk 15) 4 ≤ 500 from W28.int ty55 4) (show ivh28 (sk 15) 4 = ivb4 (sk 15) 4 from fl28.i ty55 rfl 4) (fun ri200 ie311 => ?_)
                refine d_callV (As := [.ref ob3]) (rest := []) C hM (C_setBy (a0 := (sk 15)) (a1 := ob3) W28 skb4 ty55 tob3  ) dX11_head_128 kV_X11_253 rfl ty55 rfl rfl (by decide) ck_7 rfl (Nat.le_of_ble_eq_true rfl) ⟨(Nat.le_of_ble_eq_true rfl), (Nat.le_of_ble_eq_true rfl)⟩ hph pl10 (show 0 + 0 = 0 from rfl) (by decide) (fun rh30 Lh30 clh30 lnh30 ivh30 rvh30 h30 => ?_)
                obtain ⟨f30, rfl, rfl, rfl, rfl, rfl, fl30, W30, rgf30, exf30⟩ := h30
                refine hv2 (F22.call Xb4 fl30 rfl) (MRK.call mr22 W28 skb4 XT.refl fl30 rfl rfl) (fun F23 mr23 => ?_)
                refine c_st (st2 := [.int (iI f30)]) rfl ?_
                refine hv3 (show 0 ≤ ivh30 (sk 15) 4 ∧ ivh30 (sk 15) 4 ≤ 500 from W30.int ty55 4) (show 0 ≤ ivh30 (sk 15) 7 ∧ ivh30 (sk 15) 7 ≤ 100000 from W30.int ty55 7) (show (f30 = 0 ∨ f30 = 6 ∨ f30 = 7) ∧ ivh30 (sk 15) 4 = ivh28 (sk 15) 4 ∧ (f30 = 0 → ivh30 (sk 15) 7 ≤ 200) from exf30) (fun ri201 ri202 gf30 => ?_)
                refine c_istore (lv2 := [(4, .int (iI f30)), (3, .ref ob3), (2, .int (iI fl)), (0, .ref a0), (1, .int (iI i))]) C dX11_head_131 (by decide) rfl ?_
                refine c_iload (j := 0) C dX11_head_133 rfl ?_
                refine c_if_eq (tgt := 152) C ⟨by omega, by omega⟩ dX11_head_135 (by decide) (fun c15 => ?_) (fun c15 => ?_)
                · refine c_aload_n (j := 3) (x := a0) C dX11_head_152 rfl ?_
                  obtain ⟨rb26, rq26, trb26⟩ := W30.ref ty52 3 rfl rfl rfl
                  have erb26 := W30.sk trb26 (by decide) rfl
                  subst erb26
                  refine c_getr (k := 3) C ck_12 dX11_head_153 w2_47 (by decide) ty52 rfl rfl (by decide) rfl rq26 ?_
                  refine c_st (st2 := [.ref (sk 5)]) rfl ?_
                  have ty56 := Xb4.ty tsk5
                  refine d_callV (As := []) (rest := []) C hM (C_clear_5 (a0 := (sk 5)) W30 skb4 ty56  ) dX11_head_156 kV_X11_164 rfl ty56 rfl rfl (by decide) ck_2 rfl (Nat.le_of_ble_eq_true rfl) ⟨(Nat.le_of_ble_eq_true rfl), (Nat.le_of_ble_eq_true rfl)⟩ hph pl10 (show 0 + 0 = 0 from rfl) (by decide) (fun rh31 Lh31 clh31 lnh31 ivh31 rvh31 h31 => ?_)
                  obtain ⟨rfl, rfl, rfl, rfl, rfl, fl31, W31, exf31⟩ := h31
                  refine hv2 (F23.call Xb4 fl31 rfl) (MRK.call mr23 W30 skb4 XT.refl fl31 rfl rfl) (fun F24 mr24 => ?_)
                  refine c_st (st2 := []) rfl ?_
                  refine hv2 (show 0 ≤ ivh31 (sk 5) 2 ∧ ivh31 (sk 5) 2 ≤ 200 from W31.int ty56 2) (show ivh31 (sk 5) 2 = 0 from exf31) (fun ri203 gf31 => ?_)
                  refine c_iconst C dX11_head_159 ?_
                  refine c_istore (lv2 := [(5, .int (iI 0)), (4, .int (iI f30)), (3, .ref ob3), (2, .int (iI fl)), (0, .ref a0), (1, .int (iI i))]) C dX11_head_160 (by decide) rfl ?_
                  have Lp5 : ∀ (nn : Nat) (k2 : Int) (Lb5 : List Nat) (clb5 lnb5 : Nat → Nat) (ivb5 : Nat → Nat → Int) (rvb5 : Nat → Nat → Option Nat) , 101 - k2 < (nn : Int) → XT L cl ln Lb5 clb5 lnb5 → WT (g0 G) sk Lb5 clb5 lnb5 ivb5 rvb5 → fT [1, 2, 5, 35, 15, 50, 51, 52, 53, 54, 55] L cl iv rv ivb5 rvb5 → (0 ≤ k2 ∧ k2 ≤ 100) → (ivb5 (sk 15) 7 ≤ 200) → (ivb5 (sk 2) 2 = 0) → (ivb5 a0 11 = iv a0 11) → (ivb5 a0 12 = iv a0 12) → (ivb5 a0 13 = iv a0 13) → (ivb5 a0 14 = iv a0 14) → (ivb5 a0 15 = iv a0 15) → (ivb5 a0 16 = iv a0 16) → (rvb5 a0 9 = rv a0 9) → (rvb5 a0 10 = rv a0 10) → cw p l e 8 ((PHM) + 0 - ((Phi (g0 G) sk) ln rv)) s m args below meth c G A 6 (MQ below (Qu G A (Qp G (Phi (g0 G) sk) ((Phi (g0 G) sk) ln rv) 0 (fun v L2 cl2 ln2 iv2 rv2 => ∃ f : Int, v = some (.int (iI f)) ∧ XT L cl ln L2 cl2 ln2 ∧ fT [1, 2, 5, 35, 15, 50, 51, 52, 53, 54, 55] L cl iv rv iv2 rv2 ∧ WT (g0 G) sk L2 cl2 ln2 iv2 rv2 ∧ (-2147483648 ≤ f ∧ f ≤ 2147483647) ∧ (True) ∧ iv2 a0 11 = iv a0 11 ∧ iv2 a0 12 = iv a0 12 ∧ iv2 a0 13 = iv a0 13 ∧ iv2 a0 14 = iv a0 14 ∧ iv2 a0 15 = iv a0 15 ∧ iv2 a0 16 = iv a0 16 ∧ iv2 (sk 2) 2 = 0 ∧ rv2 a0 9 = rv a0 9 ∧ rv2 a0 10 = rv a0 10))) args s (((PHM) + 0 - ((Phi (g0 G) sk) ln rv)) / 16) ((PHM) + 0 - ((Phi (g0 G) sk) ln rv)) A) (Phi (g0 G) sk) ((Phi (g0 G) sk) ln rv) Lb5 clb5 lnb5 ivb5 rvb5 0 162 [(5, .int (iI k2)), (4, .int (iI f30)), (3, .ref ob3), (2, .int (iI fl)), (0, .ref a0), (1, .int (iI i))] [] := by
                    intro nn
                    induction nn with
                    | zero =>
                      intro  k2 Lb5 clb5 lnb5 ivb5 rvb5 hm Xb5 Wb5 Fb5  hk2 hco htz hkp11 hkp12 hkp13 hkp14 hkp15 hkp16 hkr9 hkr10
                      have skb5 := Xb5.skl hS
                      exact absurd hm (by omega)
                    | succ nn ih5 =>
                      intro  k2 Lb5 clb5 lnb5 ivb5 rvb5 hm Xb5 Wb5 Fb5  hk2 hco htz hkp11 hkp12 hkp13 hkp14 hkp15 hkp16 hkr9 hkr10
                      refine hv2 (Xb5.skl hS) (MRK.call hmr hW hS Xb5 Fb5 rfl rfl) (fun skb5 mrb5 => ?_)
                      refine c_iload (j := 0) C dX11_head_162 rfl ?_
                      refine c_aload_n (j := 4) (x := a0) C dX11_head_164 rfl ?_
                      have ty57 := Xb5.ty t_a0
                      obtain ⟨rb27, rq27, trb27⟩ := Wb5.ref ty57 6 rfl rfl rfl
                      have erb27 := Wb5.sk trb27 (by decide) rfl
                      subst erb27
                      refine c_getr (k := 6) C ck_12 dX11_head_165 w2_50 (by decide) ty57 rfl rfl (by decide) rfl rq27 ?_
                      refine c_st (st2 := [.ref (sk 15), .int (iI k2)]) rfl ?_
                      have ty58 := Xb5.ty tsk15
                      have ri204 : 0 ≤ ivb5 (sk 15) 7 ∧ ivb5 (sk 15) 7 ≤ 100000 := Wb5.int ty58 7
                      refine c_get (k := 7) C ck_7 dX11_head_168 w1_149 (by decide) ty58 rfl rfl (by decide) rfl ?_
                      refine c_icmp_ge (tgt := 206) C ⟨by omega, by omega⟩ ⟨by omega, by omega⟩ dX11_head_171 (by decide) (fun c16 => ?_) (fun c16 => ?_)
                      · refine c_aload_n (j := 4) (x := a0) C dX11_head_206 rfl ?_
                        refine c_aload_n (j := 4) (x := a0) C dX11_head_207 rfl ?_
                        obtain ⟨rb28, rq28, trb28⟩ := Wb5.ref ty57 3 rfl rfl rfl
                        have erb28 := Wb5.sk trb28 (by decide) rfl
                        subst erb28
                        refine c_getr (k := 3) C ck_12 dX11_head_208 w2_47 (by decide) ty57 rfl rfl (by decide) rfl rq28 ?_
                        refine c_st (st2 := [.ref (sk 5), .ref a0]) rfl ?_
                        have ty59 := Xb5.ty tsk5
                        have ri205 : 0 ≤ ivb5 (sk 5) 2 ∧ ivb5 (sk 5) 2 ≤ 200 := Wb5.int ty59 2
                        refine c_get (k := 2) C ck_2 dX11_head_211 w1_44 (by decide) ty59 rfl rfl (by decide) rfl ?_
                        have pl11 := Phi.le Wb5 skb5
                        refine d_callV (As := [.int (iI (ivb5 (sk 5) 2))]) (rest := []) C hM (C_done (a0 := a0) (x := ivb5 (sk 5) 2) Wb5 skb5 ty57 (by omega) ) dX11_head_214 kV_X11_109 rfl ty57 rfl rfl (by decide) ck_12 rfl (Nat.le_of_ble_eq_true rfl) ⟨(Nat.le_of_ble_eq_true rfl), (Nat.le_of_ble_eq_true rfl)⟩ hph pl11 (show 0 + 0 = 0 from rfl) (by decide) (fun rh32 Lh32 clh32 lnh32 ivh32 rvh32 h32 => ?_)
                        obtain ⟨f32, rfl, rfl, rfl, rfl, rfl, fl32, W32, rgf32, exf32, kp11f32, kp12f32, kp13f32, kp14f32, kp15f32, kp16f32⟩ := h32
                        refine hv8 (show 1 ≤ ivb5 a0 11 ∧ ivb5 a0 11 ≤ 100 from Wb5.int ty57 11) (show 1 ≤ ivb5 a0 12 ∧ ivb5 a0 12 ≤ 50 from Wb5.int ty57 12) (show (-2147483648) ≤ ivb5 a0 13 ∧ ivb5 a0 13 ≤ 2147483647 from Wb5.int ty57 13) (show (-2147483648) ≤ ivb5 a0 14 ∧ ivb5 a0 14 ≤ 2147483647 from Wb5.int ty57 14) (show (-2147483648) ≤ ivb5 a0 15 ∧ ivb5 a0 15 ≤ 2147483647 from Wb5.int ty57 15) (show (-2147483648) ≤ ivb5 a0 16 ∧ ivb5 a0 16 ≤ 2147483647 from Wb5.int ty57 16) (Fb5.call Xb5 fl32 rfl) (MRK.call mrb5 Wb5 skb5 XT.refl fl32 rfl rfl) (fun ri206 ri207 ri208 ri209 ri210 ri211 F25 mr25 => ?_)
                        refine c_st (st2 := [.int (iI f32)]) rfl ?_
                        refine hv14 (show ivh32 a0 11 = ivb5 a0 11 from kp11f32) (show ivh32 a0 12 = ivb5 a0 12 from kp12f32) (show ivh32 a0 13 = ivb5 a0 13 from kp13f32) (show ivh32 a0 14 = ivb5 a0 14 from kp14f32) (show ivh32 a0 15 = ivb5 a0 15 from kp15f32) (show ivh32 a0 16 = ivb5 a0 16 from kp16f32) (show f32 = (ivb5 (sk 5) 2) from exf32) (Xb5.ty tsk2) (show 1 ≤ ivh32 a0 11 ∧ ivh32 a0 11 ≤ 100 from W32.int ty57 11) (show 1 ≤ ivh32 a0 12 ∧ ivh32 a0 12 ≤ 50 from W32.int ty57 12) (show (-2147483648) ≤ ivh32 a0 13 ∧ ivh32 a0 13 ≤ 2147483647 from W32.int ty57 13) (show (-2147483648) ≤ ivh32 a0 14 ∧ ivh32 a0 14 ≤ 2147483647 from W32.int ty57 14) (show (-2147483648) ≤ ivh32 a0 15 ∧ ivh32 a0 15 ≤ 2147483647 from W32.int ty57 15) (show (-2147483648) ≤ ivh32 a0 16 ∧ ivh32 a0 16 ≤ 2147483647 from W32.int ty57 16) (fun gk11f32 gk12f32 gk13f32 gk14f32 gk15f32 gk16f32 gf32 ty60 ri213 ri214 ri215 ri216 ri217 ri218 => ?_)
                        refine hv2 (show 0 ≤ ivh32 (sk 2) 2 ∧ ivh32 (sk 2) 2 ≤ 3000 from W32.int ty60 2) (show ivh32 (sk 2) 2 = ivb5 (sk 2) 2 from fl32.i ty60 rfl 2) (fun ri212 ie324 => ?_)
                        exact c_iret C dX11_head_217 rfl (by decide) (rom0 hph pl11 (by decide)) ⟨f32, rfl, Xb5, F25, W32, ⟨by omega, by omega⟩, trivial, (by omega), (by omega), (by omega), (by omega), (by omega), (by omega), (by omega), (show rvb5 a0 9 = rv a0 9 from hkr9), (show rvb5 a0 10 = rv a0 10 from hkr10)⟩
                      · refine c_iload (j := 0) C dX11_head_174 rfl ?_
                        refine c_aload_n (j := 4) (x := a0) C dX11_head_176 rfl ?_
                        have ri219 : 1 ≤ ivb5 a0 11 ∧ ivb5 a0 11 ≤ 100 := Wb5.int ty57 11
                        refine c_get (k := 11) C ck_12 dX11_head_177 w2_55 (by decide) ty57 rfl rfl (by decide) rfl ?_
                        refine c_icmp_ge (tgt := 206) C ⟨by omega, by omega⟩ ⟨by omega, by omega⟩ dX11_head_180 (by decide) (fun c17 => ?_) (fun c17 => ?_)
                        · refine c_aload_n (j := 4) (x := a0) C dX11_head_206 rfl ?_
                          refine c_aload_n (j := 4) (x := a0) C dX11_head_207 rfl ?_
                          obtain ⟨rb29, rq29, trb29⟩ := Wb5.ref ty57 3 rfl rfl rfl
                          have erb29 := Wb5.sk trb29 (by decide) rfl
                          subst erb29
                          refine c_getr (k := 3) C ck_12 dX11_head_208 w2_47 (by decide) ty57 rfl rfl (by decide) rfl rq29 ?_
                          refine c_st (st2 := [.ref (sk 5), .ref a0]) rfl ?_
                          have ty61 := Xb5.ty tsk5
                          have ri220 : 0 ≤ ivb5 (sk 5) 2 ∧ ivb5 (sk 5) 2 ≤ 200 := Wb5.int ty61 2
                          refine c_get (k := 2) C ck_2 dX11_head_211 w1_44 (by decide) ty61 rfl rfl (by decide) rfl ?_
                          have pl12 := Phi.le Wb5 skb5
                          refine d_callV (As := [.int (iI (ivb5 (sk 5) 2))]) (rest := []) C hM (C_done (a0 := a0) (x := ivb5 (sk 5) 2) Wb5 skb5 ty57 (by omega) ) dX11_head_214 kV_X11_109 rfl ty57 rfl rfl (by decide) ck_12 rfl (Nat.le_of_ble_eq_true rfl) ⟨(Nat.le_of_ble_eq_true rfl), (Nat.le_of_ble_eq_true rfl)⟩ hph pl12 (show 0 + 0 = 0 from rfl) (by decide) (fun rh33 Lh33 clh33 lnh33 ivh33 rvh33 h33 => ?_)
                          obtain ⟨f33, rfl, rfl, rfl, rfl, rfl, fl33, W33, rgf33, exf33, kp11f33, kp12f33, kp13f33, kp14f33, kp15f33, kp16f33⟩ := h33
                          refine hv7 (show 1 ≤ ivb5 a0 12 ∧ ivb5 a0 12 ≤ 50 from Wb5.int ty57 12) (show (-2147483648) ≤ ivb5 a0 13 ∧ ivb5 a0 13 ≤ 2147483647 from Wb5.int ty57 13) (show (-2147483648) ≤ ivb5 a0 14 ∧ ivb5 a0 14 ≤ 2147483647 from Wb5.int ty57 14) (show (-2147483648) ≤ ivb5 a0 15 ∧ ivb5 a0 15 ≤ 2147483647 from Wb5.int ty57 15) (show (-2147483648) ≤ ivb5 a0 16 ∧ ivb5 a0 16 ≤ 2147483647 from Wb5.int ty57 16) (Fb5.call Xb5 fl33 rfl) (MRK.call mrb5 Wb5 skb5 XT.refl fl33 rfl rfl) (fun ri221 ri222 ri223 ri224 ri225 F26 mr26 => ?_)
                          refine c_st (st2 := [.int (iI f33)]) rfl ?_
                          refine hv14 (show ivh33 a0 11 = ivb5 a0 11 from kp11f33) (show ivh33 a0 12 = ivb5 a0 12 from kp12f33) (show ivh33 a0 13 = ivb5 a0 13 from kp13f33) (show ivh33 a0 14 = ivb5 a0 14 from kp14f33) (show ivh33 a0 15 = ivb5 a0 15 from kp15f33) (show ivh33 a0 16 = ivb5 a0 16 from kp16f33) (show f33 = (ivb5 (sk 5) 2) from exf33) (Xb5.ty tsk2) (show 1 ≤ ivh33 a0 11 ∧ ivh33 a0 11 ≤ 100 from W33.int ty57 11) (show 1 ≤ ivh33 a0 12 ∧ ivh33 a0 12 ≤ 50 from W33.int ty57 12) (show (-2147483648) ≤ ivh33 a0 13 ∧ ivh33 a0 13 ≤ 2147483647 from W33.int ty57 13) (show (-2147483648) ≤ ivh33 a0 14 ∧ ivh33 a0 14 ≤ 2147483647 from W33.int ty57 14) (show (-2147483648) ≤ ivh33 a0 15 ∧ ivh33 a0 15 ≤ 2147483647 from W33.int ty57 15) (show (-2147483648) ≤ ivh33 a0 16 ∧ ivh33 a0 16 ≤ 2147483647 from W33.int ty57 16) (fun gk11f33 gk12f33 gk13f33 gk14f33 gk15f33 gk16f33 gf33 ty62 ri227 ri228 ri229 ri230 ri231 ri232 => ?_)
                          refine hv2 (show 0 ≤ ivh33 (sk 2) 2 ∧ ivh33 (sk 2) 2 ≤ 3000 from W33.int ty62 2) (show ivh33 (sk 2) 2 = ivb5 (sk 2) 2 from fl33.i ty62 rfl 2) (fun ri226 ie339 => ?_)
                          exact c_iret C dX11_head_217 rfl (by decide) (rom0 hph pl12 (by decide)) ⟨f33, rfl, Xb5, F26, W33, ⟨by omega, by omega⟩, trivial, (by omega), (by omega), (by omega), (by omega), (by omega), (by omega), (by omega), (show rvb5 a0 9 = rv a0 9 from hkr9), (show rvb5 a0 10 = rv a0 10 from hkr10)⟩
                        · refine c_aload_n (j := 4) (x := a0) C dX11_head_183 rfl ?_
                          obtain ⟨rb30, rq30, trb30⟩ := Wb5.ref ty57 3 rfl rfl rfl
                          have erb30 := Wb5.sk trb30 (by decide) rfl
                          subst erb30
                          refine c_getr (k := 3) C ck_12 dX11_head_184 w2_47 (by decide) ty57 rfl rfl (by decide) rfl rq30 ?_
                          refine c_st (st2 := [.ref (sk 5)]) rfl ?_
                          refine c_aload_n (j := 4) (x := a0) C dX11_head_187 rfl ?_
                          refine c_getr (k := 6) C ck_12 dX11_head_188 w2_50 (by decide) ty57 rfl rfl (by decide) rfl rq27 ?_
                          refine c_st (st2 := [.ref (sk 15), .ref (sk 5)]) rfl ?_
                          obtain ⟨rb31, rq31, trb31⟩ := Wb5.ref ty58 6 rfl rfl rfl
                          have lnrb31 : 200 ≤ lnb5 rb31 ∧ lnb5 rb31 ≤ 200 := Wb5.len trb31 rfl
                          refine c_getr (k := 6) C ck_7 dX11_head_191 w1_146 (by decide) ty58 rfl rfl (by decide) rfl rq31 ?_
                          refine c_st (st2 := [.ref rb31, .ref (sk 5)]) rfl ?_
                          refine c_iload (j := 0) C dX11_head_194 rfl ?_
                          have ll3 : 200 ≤ lnb5 rb31 ∧ lnb5 rb31 ≤ 200 := Wb5.len trb31 rfl
                          refine c_iald C dX11_head_196 trb31 rfl (by omega) (by omega) (by omega) ?_
                          refine hv3 (show (-2147483648) ≤ ivb5 rb31 k2.toNat ∧ ivb5 rb31 k2.toNat ≤ 2147483647 from Wb5.int trb31 k2.toNat) (Xb5.ty tsk5) (Phi.le Wb5 skb5) (fun ri233 ty63 pl13 => ?_)
                          have ri234 : 0 ≤ ivb5 (sk 5) 2 ∧ ivb5 (sk 5) 2 ≤ 200 := Wb5.int ty63 2
                          refine d_callV (As := [.int (iI (ivb5 rb31 k2.toNat))]) (rest := []) C hM (C_add_5 (a0 := (sk 5)) (x := ivb5 rb31 k2.toNat) Wb5 skb5 ty63 (by omega) ) dX11_head_197 kV_X11_112 rfl ty63 rfl rfl (by decide) ck_2 rfl (Nat.le_of_ble_eq_true rfl) ⟨(Nat.le_of_ble_eq_true rfl), (Nat.le_of_ble_eq_true rfl)⟩ hph pl13 (show 0 + 0 = 0 from rfl) (by decide) (fun rh34 Lh34 clh34 lnh34 ivh34 rvh34 h34 => ?_)
                          obtain ⟨rfl, xl34, fl34, W34, exf34⟩ := h34
                          refine hv13 (Fb5.call Xb5 fl34 rfl) (MRK.call mrb5 Wb5 skb5 xl34 fl34 rfl rfl) (Xb5.ty tsk2) (Xb5.ty tsk3) (Xb5.ty tsk4) (Xb5.ty tsk13) (Xb5.ty tsk14) (Xb5.ty tsk16) (Xb5.ty tsk17) (Xb5.ty tsk22) (Xb5.ty tsk23) (Xb5.trans xl34) (xl34.skl skb5) (fun F27 mr27 ty64 ty65 ty66 ty67 ty68 ty69 ty70 ty71 ty72 X3 sk3 => ?_)
                          refine c_st (st2 := []) rfl ?_
                          refine hv2 (xl34.ty ty63) (show ((ivh34 (sk 5) 2 = ivb5 (sk 5) 2 ∧ ivb5 (sk 5) 2 = 200) ∨ (ivh34 (sk 5) 2 = ivb5 (sk 5) 2 + 1 ∧ ivb5 (sk 5) 2 < 200)) from exf34) (fun ty73 gf34 => ?_)
                          have ri235 : 0 ≤ ivh34 (sk 5) 2 ∧ ivh34 (sk 5) 2 ≤ 200 := W34.int ty73 2
                          refine c_iinc (z := k2) (j := 0) (lv2 := [(5, .int (iI (k2 + 1))), (4, .int (iI f30)), (3, .ref ob3), (2, .int (iI fl)), (0, .ref a0), (1, .int (iI i))]) C dX11_head_200 rfl (by decide) rfl ?_
                          refine c_goto (tgt := 162) C dX11_head_203 (by decide) ?_
                          refine hv11 (xl34.ty ty58) (show ivh34 (sk 15) 7 = ivb5 (sk 15) 7 from fl34.i ty58 rfl 7) (xl34.ty ty64) (show ivh34 (sk 2) 2 = ivb5 (sk 2) 2 from fl34.i ty64 rfl 2) (xl34.ty ty57) (show ivh34 a0 11 = ivb5 a0 11 from fl34.i ty57 rfl 11) (show ivh34 a0 12 = ivb5 a0 12 from fl34.i ty57 rfl 12) (show ivh34 a0 13 = ivb5 a0 13 from fl34.i ty57 rfl 13) (show ivh34 a0 14 = ivb5 a0 14 from fl34.i ty57 rfl 14) (show ivh34 a0 15 = ivb5 a0 15 from fl34.i ty57 rfl 15) (show ivh34 a0 16 = ivb5 a0 16 from fl34.i ty57 rfl 16) (fun ty74 ie350 ty75 ie351 ty76 ie353 ie354 ie356 ie358 ie360 ie362 => ?_)
                          refine hv8 (show 0 ≤ ivh34 (sk 15) 7 ∧ ivh34 (sk 15) 7 ≤ 100000 from W34.int ty74 7) (show 0 ≤ ivh34 (sk 2) 2 ∧ ivh34 (sk 2) 2 ≤ 3000 from W34.int ty75 2) (show 1 ≤ ivh34 a0 11 ∧ ivh34 a0 11 ≤ 100 from W34.int ty76 11) (show 1 ≤ ivh34 a0 12 ∧ ivh34 a0 12 ≤ 50 from W34.int ty76 12) (show (-2147483648) ≤ ivh34 a0 13 ∧ ivh34 a0 13 ≤ 2147483647 from W34.int ty76 13) (show (-2147483648) ≤ ivh34 a0 14 ∧ ivh34 a0 14 ≤ 2147483647 from W34.int ty76 14) (show (-2147483648) ≤ ivh34 a0 15 ∧ ivh34 a0 15 ≤ 2147483647 from W34.int ty76 15) (show (-2147483648) ≤ ivh34 a0 16 ∧ ivh34 a0 16 ≤ 2147483647 from W34.int ty76 16) (fun ri236 ri237 ri238 ri239 ri240 ri241 ri242 ri243 => ?_)
                          refine c_lv (lv2 := [(5, .int (iI (k2 + 1))), (4, .int (iI f30)), (3, .ref ob3), (2, .int (iI fl)), (0, .ref a0), (1, .int (iI i))]) [0, 1, 2, 3, 4, 5] rfl ?_
                          exact ih5  (k2 + 1) _ _ _ _ _ (by omega) X3 W34 F27  (by omega) (by show ivh34 (sk 15) 7 ≤ 200; omega) (by show ivh34 (sk 2) 2 = 0; omega) (by show ivh34 a0 11 = iv a0 11; omega) (by show ivh34 a0 12 = iv a0 12; omega) (by show ivh34 a0 13 = iv a0 13; omega) (by show ivh34 a0 14 = iv a0 14; omega) (by show ivh34 a0 15 = iv a0 15; omega) (by show ivh34 a0 16 = iv a0 16; omega) (Eq.trans (show rvh34 a0 9 = rvb5 a0 9 from (fl34.r ty57 rfl 9)) (show rvb5 a0 9 = rv a0 9 from hkr9)) (Eq.trans (show rvh34 a0 10 = rvb5 a0 10 from (fl34.r ty57 rfl 10)) (show rvb5 a0 10 = rv a0 10 from hkr10))
                  refine hv29 (show 0 ≤ ivh31 (sk 15) 7 ∧ ivh31 (sk 15) 7 ≤ 100000 from W31.int ty55 7) (show ivh31 (sk 15) 7 = ivh30 (sk 15) 7 from fl31.i ty55 rfl 7) (show 0 ≤ ivh31 (sk 2) 2 ∧ ivh31 (sk 2) 2 ≤ 3000 from W31.int ty53 2) (show ivh31 (sk 2) 2 = ivh30 (sk 2) 2 from fl31.i ty53 rfl 2) (show ivh30 (sk 2) 2 = ivh28 (sk 2) 2 from fl30.i ty53 rfl 2) (show 1 ≤ ivh31 a0 11 ∧ ivh31 a0 11 ≤ 100 from W31.int ty52 11) (show ivh31 a0 11 = ivh30 a0 11 from fl31.i ty52 rfl 11) (show ivh30 a0 11 = ivh28 a0 11 from fl30.i ty52 rfl 11) (show ivh28 a0 11 = ivb4 a0 11 from fl28.i ty52 rfl 11) (show 1 ≤ ivh31 a0 12 ∧ ivh31 a0 12 ≤ 50 from W31.int ty52 12) (show ivh31 a0 12 = ivh30 a0 12 from fl31.i ty52 rfl 12) (show ivh30 a0 12 = ivh28 a0 12 from fl30.i ty52 rfl 12) (show ivh28 a0 12 = ivb4 a0 12 from fl28.i ty52 rfl 12) (show (-2147483648) ≤ ivh31 a0 13 ∧ ivh31 a0 13 ≤ 2147483647 from W31.int ty52 13) (show ivh31 a0 13 = ivh30 a0 13 from fl31.i ty52 rfl 13) (show ivh30 a0 13 = ivh28 a0 13 from fl30.i ty52 rfl 13) (show ivh28 a0 13 = ivb4 a0 13 from fl28.i ty52 rfl 13) (show (-2147483648) ≤ ivh31 a0 14 ∧ ivh31 a0 14 ≤ 2147483647 from W31.int ty52 14) (show ivh31 a0 14 = ivh30 a0 14 from fl31.i ty52 rfl 14) (show ivh30 a0 14 = ivh28 a0 14 from fl30.i ty52 rfl 14) (show ivh28 a0 14 = ivb4 a0 14 from fl28.i ty52 rfl 14) (show (-2147483648) ≤ ivh31 a0 15 ∧ ivh31 a0 15 ≤ 2147483647 from W31.int ty52 15) (show ivh31 a0 15 = ivh30 a0 15 from fl31.i ty52 rfl 15) (show ivh30 a0 15 = ivh28 a0 15 from fl30.i ty52 rfl 15) (show ivh28 a0 15 = ivb4 a0 15 from fl28.i ty52 rfl 15) (show (-2147483648) ≤ ivh31 a0 16 ∧ ivh31 a0 16 ≤ 2147483647 from W31.int ty52 16) (show ivh31 a0 16 = ivh30 a0 16 from fl31.i ty52 rfl 16) (show ivh30 a0 16 = ivh28 a0 16 from fl30.i ty52 rfl 16) (show ivh28 a0 16 = ivb4 a0 16 from fl28.i ty52 rfl 16) (fun ri244 ie364 ri245 ie365 ie366 ri246 ie367 ie368 ie369 ri247 ie371 ie372 ie373 ri248 ie375 ie376 ie377 ri249 ie379 ie380 ie381 ri250 ie383 ie384 ie385 ri251 ie387 ie388 ie389 => ?_)
                  refine c_lv (lv2 := [(5, .int (iI 0)), (4, .int (iI f30)), (3, .ref ob3), (2, .int (iI fl)), (0, .ref a0), (1, .int (iI i))]) [0, 1, 2, 3, 4, 5] rfl ?_
                  exact Lp5 103 0 _ _ _ _ _ (by omega) Xb4 W31 F24  (by omega) (by show ivh31 (sk 15) 7 ≤ 200; omega) (by show ivh31 (sk 2) 2 = 0; omega) (by show ivh31 a0 11 = iv a0 11; omega) (by show ivh31 a0 12 = iv a0 12; omega) (by show ivh31 a0 13 = iv a0 13; omega) (by show ivh31 a0 14 = iv a0 14; omega) (by show ivh31 a0 15 = iv a0 15; omega) (by show ivh31 a0 16 = iv a0 16; omega) (show rvb4 a0 9 = rv a0 9 from hkr9) (show rvb4 a0 10 = rv a0 10 from hkr10)
                · refine c_aload_n (j := 3) (x := a0) C dX11_head_138 rfl ?_
                  refine c_iload (j := 0) C dX11_head_139 rfl ?_
                  refine c_aload_n (j := 3) (x := a0) C dX11_head_141 rfl ?_
                  refine c_getr (k := 6) C ck_12 dX11_head_142 w2_50 (by decide) ty52 rfl rfl (by decide) rfl rq25 ?_
                  refine c_st (st2 := [.ref (sk 15), .int (iI f30), .ref a0]) rfl ?_
                  refine d_callV (As := []) (rest := [.int (iI f30), .ref a0]) C hM (C_placeOfUnknown (a0 := (sk 15)) W30 skb4 ty55  ) dX11_head_145 kV_X11_263 rfl ty55 rfl rfl (by decide) ck_7 rfl (Nat.le_of_ble_eq_true rfl) ⟨(Nat.le_of_ble_eq_true rfl), (Nat.le_of_ble_eq_true rfl)⟩ hph pl10 (show 0 + 0 = 0 from rfl) (by decide) (fun rh35 Lh35 clh35 lnh35 ivh35 rvh35 h35 => ?_)
                  obtain ⟨f35, rfl, rfl, rfl, rfl, rfl, rfl, rgf35, exf35⟩ := h35
                  refine c_st (st2 := [.int (iI f35), .int (iI f30), .ref a0]) rfl ?_
                  refine d_callV (As := [.int (iI f30), .int (iI f35)]) (rest := []) C hM (C_refuseAt (a0 := a0) (x := f30) (y := f35) W30 skb4 ty52 (by omega) (by omega) ) dX11_head_148 kV_X11_266 rfl ty52 rfl rfl (by decide) ck_12 rfl (Nat.le_of_ble_eq_true rfl) ⟨(Nat.le_of_ble_eq_true rfl), (Nat.le_of_ble_eq_true rfl)⟩ hph pl10 (show 0 + 0 = 0 from rfl) (by decide) (fun rh36 Lh36 clh36 lnh36 ivh36 rvh36 h36 => ?_)
                  obtain ⟨f36, rfl, rfl, rfl, rfl, rfl, fl36, W36, rgf36, exf36, kp11f36, kp12f36, kp13f36, kp14f36, kp15f36, kp16f36⟩ := h36
                  refine hv20 (show 1 ≤ ivh30 a0 11 ∧ ivh30 a0 11 ≤ 100 from W30.int ty52 11) (show ivh30 a0 11 = ivh28 a0 11 from fl30.i ty52 rfl 11) (show ivh28 a0 11 = ivb4 a0 11 from fl28.i ty52 rfl 11) (show 1 ≤ ivh30 a0 12 ∧ ivh30 a0 12 ≤ 50 from W30.int ty52 12) (show ivh30 a0 12 = ivh28 a0 12 from fl30.i ty52 rfl 12) (show ivh28 a0 12 = ivb4 a0 12 from fl28.i ty52 rfl 12) (show (-2147483648) ≤ ivh30 a0 13 ∧ ivh30 a0 13 ≤ 2147483647 from W30.int ty52 13) (show ivh30 a0 13 = ivh28 a0 13 from fl30.i ty52 rfl 13) (show ivh28 a0 13 = ivb4 a0 13 from fl28.i ty52 rfl 13) (show (-2147483648) ≤ ivh30 a0 14 ∧ ivh30 a0 14 ≤ 2147483647 from W30.int ty52 14) (show ivh30 a0 14 = ivh28 a0 14 from fl30.i ty52 rfl 14) (show ivh28 a0 14 = ivb4 a0 14 from fl28.i ty52 rfl 14) (show (-2147483648) ≤ ivh30 a0 15 ∧ ivh30 a0 15 ≤ 2147483647 from W30.int ty52 15) (show ivh30 a0 15 = ivh28 a0 15 from fl30.i ty52 rfl 15) (show ivh28 a0 15 = ivb4 a0 15 from fl28.i ty52 rfl 15) (show (-2147483648) ≤ ivh30 a0 16 ∧ ivh30 a0 16 ≤ 2147483647 from W30.int ty52 16) (show ivh30 a0 16 = ivh28 a0 16 from fl30.i ty52 rfl 16) (show ivh28 a0 16 = ivb4 a0 16 from fl28.i ty52 rfl 16) (F23.call Xb4 fl36 rfl) (MRK.call mr23 W30 skb4 XT.refl fl36 rfl rfl) (fun ri252 ie391 ie392 ri253 ie394 ie395 ri254 ie397 ie398 ri255 ie400 ie401 ri256 ie403 ie404 ri257 ie406 ie407 F28 mr28 => ?_)
                  refine c_st (st2 := [.int (iI f36)]) rfl ?_
                  refine hv16 (show ivh36 a0 11 = ivh30 a0 11 from kp11f36) (show ivh36 a0 12 = ivh30 a0 12 from kp12f36) (show ivh36 a0 13 = ivh30 a0 13 from kp13f36) (show ivh36 a0 14 = ivh30 a0 14 from kp14f36) (show ivh36 a0 15 = ivh30 a0 15 from kp15f36) (show ivh36 a0 16 = ivh30 a0 16 from kp16f36) (show f36 = -1 from exf36) (show 0 ≤ ivh36 (sk 2) 2 ∧ ivh36 (sk 2) 2 ≤ 3000 from W36.int ty53 2) (show ivh36 (sk 2) 2 = ivh30 (sk 2) 2 from fl36.i ty53 rfl 2) (show ivh30 (sk 2) 2 = ivh28 (sk 2) 2 from fl30.i ty53 rfl 2) (show 1 ≤ ivh36 a0 11 ∧ ivh36 a0 11 ≤ 100 from W36.int ty52 11) (show 1 ≤ ivh36 a0 12 ∧ ivh36 a0 12 ≤ 50 from W36.int ty52 12) (show (-2147483648) ≤ ivh36 a0 13 ∧ ivh36 a0 13 ≤ 2147483647 from W36.int ty52 13) (show (-2147483648) ≤ ivh36 a0 14 ∧ ivh36 a0 14 ≤ 2147483647 from W36.int ty52 14) (show (-2147483648) ≤ ivh36 a0 15 ∧ ivh36 a0 15 ≤ 2147483647 from W36.int ty52 15) (show (-2147483648) ≤ ivh36 a0 16 ∧ ivh36 a0 16 ≤ 2147483647 from W36.int ty52 16) (fun gk11f36 gk12f36 gk13f36 gk14f36 gk15f36 gk16f36 gf36 ri258 ie409 ie410 ri259 ri260 ri261 ri262 ri263 ri264 => ?_)
                  exact c_iret C dX11_head_151 rfl (by decide) (rom0 hph pl10 (by decide)) ⟨f36, rfl, Xb4, F28, W36, ⟨by omega, by omega⟩, trivial, (by omega), (by omega), (by omega), (by omega), (by omega), (by omega), (by omega), (show rvb4 a0 9 = rv a0 9 from hkr9), (show rvb4 a0 10 = rv a0 10 from hkr10)⟩
              · subst oq3
                refine c_lv (lv2 := [(3, .null), (2, .int (iI fl)), (0, .ref a0), (1, .int (iI i))]) [0, 1, 2, 3] rfl ?_
                refine c_st (st2 := []) rfl ?_
                refine c_aload_n (j := 2) (x := a0) C dX11_head_117 rfl ?_
                refine c_iconst C dX11_head_118 ?_
                refine d_callV (As := [.int (iI 3)]) (rest := []) C hM (C_refuse (a0 := a0) (x := 3) W28 skb4 ty52 ⟨by decide, by decide⟩ ) dX11_head_119 kV_X11_102 rfl ty52 rfl rfl (by decide) ck_12 rfl (Nat.le_of_ble_eq_true rfl) ⟨(Nat.le_of_ble_eq_true rfl), (Nat.le_of_ble_eq_true rfl)⟩ hph pl10 (show 0 + 0 = 0 from rfl) (by decide) (fun rh37 Lh37 clh37 lnh37 ivh37 rvh37 h37 => ?_)
                obtain ⟨f37, rfl, rfl, rfl, rfl, rfl, fl37, W37, rgf37, exf37, kp11f37, kp12f37, kp13f37, kp14f37, kp15f37, kp16f37⟩ := h37
                refine hv14 (show 1 ≤ ivh28 a0 11 ∧ ivh28 a0 11 ≤ 100 from W28.int ty52 11) (show ivh28 a0 11 = ivb4 a0 11 from fl28.i ty52 rfl 11) (show 1 ≤ ivh28 a0 12 ∧ ivh28 a0 12 ≤ 50 from W28.int ty52 12) (show ivh28 a0 12 = ivb4 a0 12 from fl28.i ty52 rfl 12) (show (-2147483648) ≤ ivh28 a0 13 ∧ ivh28 a0 13 ≤ 2147483647 from W28.int ty52 13) (show ivh28 a0 13 = ivb4 a0 13 from fl28.i ty52 rfl 13) (show (-2147483648) ≤ ivh28 a0 14 ∧ ivh28 a0 14 ≤ 2147483647 from W28.int ty52 14) (show ivh28 a0 14 = ivb4 a0 14 from fl28.i ty52 rfl 14) (show (-2147483648) ≤ ivh28 a0 15 ∧ ivh28 a0 15 ≤ 2147483647 from W28.int ty52 15) (show ivh28 a0 15 = ivb4 a0 15 from fl28.i ty52 rfl 15) (show (-2147483648) ≤ ivh28 a0 16 ∧ ivh28 a0 16 ≤ 2147483647 from W28.int ty52 16) (show ivh28 a0 16 = ivb4 a0 16 from fl28.i ty52 rfl 16) (F22.call Xb4 fl37 rfl) (MRK.call mr22 W28 skb4 XT.refl fl37 rfl rfl) (fun ri265 ie417 ri266 ie419 ri267 ie421 ri268 ie423 ri269 ie425 ri270 ie427 F29 mr29 => ?_)
                refine c_st (st2 := [.int (iI f37)]) rfl ?_
                refine hv15 (show ivh37 a0 11 = ivh28 a0 11 from kp11f37) (show ivh37 a0 12 = ivh28 a0 12 from kp12f37) (show ivh37 a0 13 = ivh28 a0 13 from kp13f37) (show ivh37 a0 14 = ivh28 a0 14 from kp14f37) (show ivh37 a0 15 = ivh28 a0 15 from kp15f37) (show ivh37 a0 16 = ivh28 a0 16 from kp16f37) (show f37 = -1 from exf37) (show 0 ≤ ivh37 (sk 2) 2 ∧ ivh37 (sk 2) 2 ≤ 3000 from W37.int ty53 2) (show ivh37 (sk 2) 2 = ivh28 (sk 2) 2 from fl37.i ty53 rfl 2) (show 1 ≤ ivh37 a0 11 ∧ ivh37 a0 11 ≤ 100 from W37.int ty52 11) (show 1 ≤ ivh37 a0 12 ∧ ivh37 a0 12 ≤ 50 from W37.int ty52 12) (show (-2147483648) ≤ ivh37 a0 13 ∧ ivh37 a0 13 ≤ 2147483647 from W37.int ty52 13) (show (-2147483648) ≤ ivh37 a0 14 ∧ ivh37 a0 14 ≤ 2147483647 from W37.int ty52 14) (show (-2147483648) ≤ ivh37 a0 15 ∧ ivh37 a0 15 ≤ 2147483647 from W37.int ty52 15) (show (-2147483648) ≤ ivh37 a0 16 ∧ ivh37 a0 16 ≤ 2147483647 from W37.int ty52 16) (fun gk11f37 gk12f37 gk13f37 gk14f37 gk15f37 gk16f37 gf37 ri271 ie429 ri272 ri273 ri274 ri275 ri276 ri277 => ?_)
                exact c_iret C dX11_head_122 rfl (by decide) (rom0 hph pl10 (by decide)) ⟨f37, rfl, Xb4, F29, W37, ⟨by omega, by omega⟩, trivial, (by omega), (by omega), (by omega), (by omega), (by omega), (by omega), (by omega), (show rvb4 a0 9 = rv a0 9 from hkr9), (show rvb4 a0 10 = rv a0 10 from hkr10)⟩
            · refine c_aload_n (j := 2) (x := a0) C dX11_head_97 rfl ?_
              refine c_bipush (z := 6) C dX11_head_98 (by decide) ?_
              refine d_callV (As := [.int (iI 6)]) (rest := []) C hM (C_refuse (a0 := a0) (x := 6) W28 skb4 ty52 ⟨by decide, by decide⟩ ) dX11_head_100 kV_X11_102 rfl ty52 rfl rfl (by decide) ck_12 rfl (Nat.le_of_ble_eq_true rfl) ⟨(Nat.le_of_ble_eq_true rfl), (Nat.le_of_ble_eq_true rfl)⟩ hph pl10 (show 0 + 0 = 0 from rfl) (by decide) (fun rh38 Lh38 clh38 lnh38 ivh38 rvh38 h38 => ?_)
              obtain ⟨f38, rfl, rfl, rfl, rfl, rfl, fl38, W38, rgf38, exf38, kp11f38, kp12f38, kp13f38, kp14f38, kp15f38, kp16f38⟩ := h38
              refine hv14 (show 1 ≤ ivh28 a0 11 ∧ ivh28 a0 11 ≤ 100 from W28.int ty52 11) (show ivh28 a0 11 = ivb4 a0 11 from fl28.i ty52 rfl 11) (show 1 ≤ ivh28 a0 12 ∧ ivh28 a0 12 ≤ 50 from W28.int ty52 12) (show ivh28 a0 12 = ivb4 a0 12 from fl28.i ty52 rfl 12) (show (-2147483648) ≤ ivh28 a0 13 ∧ ivh28 a0 13 ≤ 2147483647 from W28.int ty52 13) (show ivh28 a0 13 = ivb4 a0 13 from fl28.i ty52 rfl 13) (show (-2147483648) ≤ ivh28 a0 14 ∧ ivh28 a0 14 ≤ 2147483647 from W28.int ty52 14) (show ivh28 a0 14 = ivb4 a0 14 from fl28.i ty52 rfl 14) (show (-2147483648) ≤ ivh28 a0 15 ∧ ivh28 a0 15 ≤ 2147483647 from W28.int ty52 15) (show ivh28 a0 15 = ivb4 a0 15 from fl28.i ty52 rfl 15) (show (-2147483648) ≤ ivh28 a0 16 ∧ ivh28 a0 16 ≤ 2147483647 from W28.int ty52 16) (show ivh28 a0 16 = ivb4 a0 16 from fl28.i ty52 rfl 16) (F22.call Xb4 fl38 rfl) (MRK.call mr22 W28 skb4 XT.refl fl38 rfl rfl) (fun ri278 ie436 ri279 ie438 ri280 ie440 ri281 ie442 ri282 ie444 ri283 ie446 F30 mr30 => ?_)
              refine c_st (st2 := [.int (iI f38)]) rfl ?_
              refine hv15 (show ivh38 a0 11 = ivh28 a0 11 from kp11f38) (show ivh38 a0 12 = ivh28 a0 12 from kp12f38) (show ivh38 a0 13 = ivh28 a0 13 from kp13f38) (show ivh38 a0 14 = ivh28 a0 14 from kp14f38) (show ivh38 a0 15 = ivh28 a0 15 from kp15f38) (show ivh38 a0 16 = ivh28 a0 16 from kp16f38) (show f38 = -1 from exf38) (show 0 ≤ ivh38 (sk 2) 2 ∧ ivh38 (sk 2) 2 ≤ 3000 from W38.int ty53 2) (show ivh38 (sk 2) 2 = ivh28 (sk 2) 2 from fl38.i ty53 rfl 2) (show 1 ≤ ivh38 a0 11 ∧ ivh38 a0 11 ≤ 100 from W38.int ty52 11) (show 1 ≤ ivh38 a0 12 ∧ ivh38 a0 12 ≤ 50 from W38.int ty52 12) (show (-2147483648) ≤ ivh38 a0 13 ∧ ivh38 a0 13 ≤ 2147483647 from W38.int ty52 13) (show (-2147483648) ≤ ivh38 a0 14 ∧ ivh38 a0 14 ≤ 2147483647 from W38.int ty52 14) (show (-2147483648) ≤ ivh38 a0 15 ∧ ivh38 a0 15 ≤ 2147483647 from W38.int ty52 15) (show (-2147483648) ≤ ivh38 a0 16 ∧ ivh38 a0 16 ≤ 2147483647 from W38.int ty52 16) (fun gk11f38 gk12f38 gk13f38 gk14f38 gk15f38 gk16f38 gf38 ri284 ie448 ri285 ri286 ri287 ri288 ri289 ri290 => ?_)
              exact c_iret C dX11_head_103 rfl (by decide) (rom0 hph pl10 (by decide)) ⟨f38, rfl, Xb4, F30, W38, ⟨by omega, by omega⟩, trivial, (by omega), (by omega), (by omega), (by omega), (by omega), (by omega), (by omega), (show rvb4 a0 9 = rv a0 9 from hkr9), (show rvb4 a0 10 = rv a0 10 from hkr10)⟩
          · refine c_iload_n (j := 1) C dX11_head_53 rfl ?_
            refine c_aload_n (j := 2) (x := a0) C dX11_head_54 rfl ?_
            have ty77 := Xb4.ty t_a0
            obtain ⟨rb32, rq32, trb32⟩ := Wb4.ref ty77 0 rfl rfl rfl
            have erb32 := Wb4.sk trb32 (by decide) rfl
            subst erb32
            refine c_getr (k := 0) C ck_12 dX11_head_55 w2_44 (by decide) ty77 rfl rfl (by decide) rfl rq32 ?_
            refine c_st (st2 := [.ref (sk 2), .int (iI k)]) rfl ?_
            have ty78 := Xb4.ty tsk2
            have ri291 : 0 ≤ ivb4 (sk 2) 2 ∧ ivb4 (sk 2) 2 ≤ 3000 := Wb4.int ty78 2
            refine c_get (k := 2) C ck_2 dX11_head_58 w1_44 (by decide) ty78 rfl rfl (by decide) rfl ?_
            refine c_icmp_ge (tgt := 86) C ⟨by omega, by omega⟩ ⟨by omega, by omega⟩ dX11_head_61 (by decide) (fun c18 => ?_) (fun c18 => ?_)
            · refine c_aload_n (j := 2) (x := a0) C dX11_head_86 rfl ?_
              refine c_getr (k := 0) C ck_12 dX11_head_87 w2_44 (by decide) ty77 rfl rfl (by decide) rfl rq32 ?_
              refine c_st (st2 := [.ref (sk 2)]) rfl ?_
              have pl14 := Phi.le Wb4 skb4
              refine d_callV (As := []) (rest := []) C hM (C_clear_2 (a0 := (sk 2)) Wb4 skb4 ty78  ) dX11_head_90 kV_X11_164 rfl ty78 rfl rfl (by decide) ck_2 rfl (Nat.le_of_ble_eq_true rfl) ⟨(Nat.le_of_ble_eq_true rfl), (Nat.le_of_ble_eq_true rfl)⟩ hph pl14 (show 0 + 0 = 0 from rfl) (by decide) (fun rh39 Lh39 clh39 lnh39 ivh39 rvh39 h39 => ?_)
              obtain ⟨rfl, rfl, rfl, rfl, rfl, fl39, W39, exf39⟩ := h39
              refine hv2 (Fb4.call Xb4 fl39 rfl) (MRK.call mrb4 Wb4 skb4 XT.refl fl39 rfl rfl) (fun F31 mr31 => ?_)
              refine c_st (st2 := []) rfl ?_
              refine hv2 (show 0 ≤ ivh39 (sk 2) 2 ∧ ivh39 (sk 2) 2 ≤ 3000 from W39.int ty78 2) (show ivh39 (sk 2) 2 = 0 from exf39) (fun ri292 gf39 => ?_)
              refine c_iload_n (j := 0) C dX11_head_93 rfl ?_
              refine c_if_ne (tgt := 104) C ⟨by omega, by omega⟩ dX11_head_94 (by decide) (fun c19 => ?_) (fun c19 => ?_)
              · refine c_aload_n (j := 2) (x := a0) C dX11_head_104 rfl ?_
                obtain ⟨rb33, rq33, trb33⟩ := W39.ref ty77 4 rfl rfl rfl
                have erb33 := W39.sk trb33 (by decide) rfl
                subst erb33
                refine c_getr (k := 4) C ck_12 dX11_head_105 w2_48 (by decide) ty77 rfl rfl (by decide) rfl rq33 ?_
                refine c_st (st2 := [.ref (sk 13)]) rfl ?_
                refine c_iload_n (j := 3) C dX11_head_108 rfl ?_
                have ty79 := Xb4.ty tsk13
                refine d_callV (As := [.int (iI i)]) (rest := []) C hM (C_whole (a0 := (sk 13)) (i := i) W39 skb4 ty79 (by omega) mr31) dX11_head_109 kV_X11_231 rfl ty79 rfl rfl (by decide) ck_11 rfl (Nat.le_of_ble_eq_true rfl) ⟨(Nat.le_of_ble_eq_true rfl), (Nat.le_of_ble_eq_true rfl)⟩ hph pl14 (show 0 + 0 = 0 from rfl) (by decide) (fun rh40 Lh40 clh40 lnh40 ivh40 rvh40 h40 => ?_)
                obtain ⟨f40, rfl, rfl, rfl, rfl, rfl, rfl, rgf40, exf40⟩ := h40
                refine c_st (st2 := [(va_rf f40)]) rfl ?_
                refine c_astorer_n (r := f40) (lv2 := [(3, (va_rf f40)), (2, .int (iI fl)), (0, .ref a0), (1, .int (iI i))]) C dX11_head_112 (by decide) rfl ?_
                refine c_aloadr_n (j := 0) (r := f40) C dX11_head_113 rfl ?_
                refine c_ifnonnull (r := f40) (tgt := 123) C dX11_head_114 (by decide) (fun ob4 oq4 => ?_) (fun oq4 => ?_)
                · subst oq4
                  have tob4 := rgf40 ob4 rfl
                  refine c_lv (lv2 := [(3, .ref ob4), (2, .int (iI fl)), (0, .ref a0), (1, .int (iI i))]) [0, 1, 2, 3] rfl ?_
                  refine c_st (st2 := []) rfl ?_
                  refine c_aload_n (j := 2) (x := a0) C dX11_head_123 rfl ?_
                  obtain ⟨rb34, rq34, trb34⟩ := W39.ref ty77 6 rfl rfl rfl
                  have erb34 := W39.sk trb34 (by decide) rfl
                  subst erb34
                  refine c_getr (k := 6) C ck_12 dX11_head_124 w2_50 (by decide) ty77 rfl rfl (by decide) rfl rq34 ?_
                  refine c_st (st2 := [.ref (sk 15)]) rfl ?_
                  refine c_aload_n (j := 0) (x := ob4) C dX11_head_127 rfl ?_
                  have ty80 := Xb4.ty tsk15
                  refine hv2 (show 0 ≤ ivh39 (sk 15) 4 ∧ ivh39 (sk 15) 4 ≤ 500 from W39.int ty80 4) (show ivh39 (sk 15) 4 = ivb4 (sk 15) 4 from fl39.i ty80 rfl 4) (fun ri293 ie457 => ?_)
                  refine d_callV (As := [.ref ob4]) (rest := []) C hM (C_setBy (a0 := (sk 15)) (a1 := ob4) W39 skb4 ty80 tob4  ) dX11_head_128 kV_X11_253 rfl ty80 rfl rfl (by decide) ck_7 rfl (Nat.le_of_ble_eq_true rfl) ⟨(Nat.le_of_ble_eq_true rfl), (Nat.le_of_ble_eq_true rfl)⟩ hph pl14 (show 0 + 0 = 0 from rfl) (by decide) (fun rh41 Lh41 clh41 lnh41 ivh41 rvh41 h41 => ?_)
                  obtain ⟨f41, rfl, rfl, rfl, rfl, rfl, fl41, W41, rgf41, exf41⟩ := h41
                  refine hv2 (F31.call Xb4 fl41 rfl) (MRK.call mr31 W39 skb4 XT.refl fl41 rfl rfl) (fun F32 mr32 => ?_)
                  refine c_st (st2 := [.int (iI f41)]) rfl ?_
                  refine hv3 (show 0 ≤ ivh41 (sk 15) 4 ∧ ivh41 (sk 15) 4 ≤ 500 from W41.int ty80 4) (show 0 ≤ ivh41 (sk 15) 7 ∧ ivh41 (sk 15) 7 ≤ 100000 from W41.int ty80 7) (show (f41 = 0 ∨ f41 = 6 ∨ f41 = 7) ∧ ivh41 (sk 15) 4 = ivh39 (sk 15) 4 ∧ (f41 = 0 → ivh41 (sk 15) 7 ≤ 200) from exf41) (fun ri294 ri295 gf41 => ?_)
                  refine c_istore (lv2 := [(4, .int (iI f41)), (3, .ref ob4), (2, .int (iI fl)), (0, .ref a0), (1, .int (iI i))]) C dX11_head_131 (by decide) rfl ?_
                  refine c_iload (j := 0) C dX11_head_133 rfl ?_
                  refine c_if_eq (tgt := 152) C ⟨by omega, by omega⟩ dX11_head_135 (by decide) (fun c20 => ?_) (fun c20 => ?_)
                  · refine c_aload_n (j := 3) (x := a0) C dX11_head_152 rfl ?_
                    obtain ⟨rb35, rq35, trb35⟩ := W41.ref ty77 3 rfl rfl rfl
                    have erb35 := W41.sk trb35 (by decide) rfl
                    subst erb35
                    refine c_getr (k := 3) C ck_12 dX11_head_153 w2_47 (by decide) ty77 rfl rfl (by decide) rfl rq35 ?_
                    refine c_st (st2 := [.ref (sk 5)]) rfl ?_
                    have ty81 := Xb4.ty tsk5
                    refine d_callV (As := []) (rest := []) C hM (C_clear_5 (a0 := (sk 5)) W41 skb4 ty81  ) dX11_head_156 kV_X11_164 rfl ty81 rfl rfl (by decide) ck_2 rfl (Nat.le_of_ble_eq_true rfl) ⟨(Nat.le_of_ble_eq_true rfl), (Nat.le_of_ble_eq_true rfl)⟩ hph pl14 (show 0 + 0 = 0 from rfl) (by decide) (fun rh42 Lh42 clh42 lnh42 ivh42 rvh42 h42 => ?_)
                    obtain ⟨rfl, rfl, rfl, rfl, rfl, fl42, W42, exf42⟩ := h42
                    refine hv2 (F32.call Xb4 fl42 rfl) (MRK.call mr32 W41 skb4 XT.refl fl42 rfl rfl) (fun F33 mr33 => ?_)
                    refine c_st (st2 := []) rfl ?_
                    refine hv2 (show 0 ≤ ivh42 (sk 5) 2 ∧ ivh42 (sk 5) 2 ≤ 200 from W42.int ty81 2) (show ivh42 (sk 5) 2 = 0 from exf42) (fun ri296 gf42 => ?_)
                    refine c_iconst C dX11_head_159 ?_
                    refine c_istore (lv2 := [(5, .int (iI 0)), (4, .int (iI f41)), (3, .ref ob4), (2, .int (iI fl)), (0, .ref a0), (1, .int (iI i))]) C dX11_head_160 (by decide) rfl ?_
                    have Lp6 : ∀ (nn : Nat) (k2 : Int) (Lb6 : List Nat) (clb6 lnb6 : Nat → Nat) (ivb6 : Nat → Nat → Int) (rvb6 : Nat → Nat → Option Nat) , 101 - k2 < (nn : Int) → XT L cl ln Lb6 clb6 lnb6 → WT (g0 G) sk Lb6 clb6 lnb6 ivb6 rvb6 → fT [1, 2, 5, 35, 15, 50, 51, 52, 53, 54, 55] L cl iv rv ivb6 rvb6 → (0 ≤ k2 ∧ k2 ≤ 100) → (ivb6 (sk 15) 7 ≤ 200) → (ivb6 (sk 2) 2 = 0) → (ivb6 a0 11 = iv a0 11) → (ivb6 a0 12 = iv a0 12) → (ivb6 a0 13 = iv a0 13) → (ivb6 a0 14 = iv a0 14) → (ivb6 a0 15 = iv a0 15) → (ivb6 a0 16 = iv a0 16) → (rvb6 a0 9 = rv a0 9) → (rvb6 a0 10 = rv a0 10) → cw p l e 8 ((PHM) + 0 - ((Phi (g0 G) sk) ln rv)) s m args below meth c G A 6 (MQ below (Qu G A (Qp G (Phi (g0 G) sk) ((Phi (g0 G) sk) ln rv) 0 (fun v L2 cl2 ln2 iv2 rv2 => ∃ f : Int, v = some (.int (iI f)) ∧ XT L cl ln L2 cl2 ln2 ∧ fT [1, 2, 5, 35, 15, 50, 51, 52, 53, 54, 55] L cl iv rv iv2 rv2 ∧ WT (g0 G) sk L2 cl2 ln2 iv2 rv2 ∧ (-2147483648 ≤ f ∧ f ≤ 2147483647) ∧ (True) ∧ iv2 a0 11 = iv a0 11 ∧ iv2 a0 12 = iv a0 12 ∧ iv2 a0 13 = iv a0 13 ∧ iv2 a0 14 = iv a0 14 ∧ iv2 a0 15 = iv a0 15 ∧ iv2 a0 16 = iv a0 16 ∧ iv2 (sk 2) 2 = 0 ∧ rv2 a0 9 = rv a0 9 ∧ rv2 a0 10 = rv a0 10))) args s (((PHM) + 0 - ((Phi (g0 G) sk) ln rv)) / 16) ((PHM) + 0 - ((Phi (g0 G) sk) ln rv)) A) (Phi (g0 G) sk) ((Phi (g0 G) sk) ln rv) Lb6 clb6 lnb6 ivb6 rvb6 0 162 [(5, .int (iI k2)), (4, .int (iI f41)), (3, .ref ob4), (2, .int (iI fl)), (0, .ref a0), (1, .int (iI i))] [] := by
                      intro nn
                      induction nn with
                      | zero =>
                        intro  k2 Lb6 clb6 lnb6 ivb6 rvb6 hm Xb6 Wb6 Fb6  hk2 hco htz hkp11 hkp12 hkp13 hkp14 hkp15 hkp16 hkr9 hkr10
                        have skb6 := Xb6.skl hS
                        exact absurd hm (by omega)
                      | succ nn ih6 =>
                        intro  k2 Lb6 clb6 lnb6 ivb6 rvb6 hm Xb6 Wb6 Fb6  hk2 hco htz hkp11 hkp12 hkp13 hkp14 hkp15 hkp16 hkr9 hkr10
                        refine hv2 (Xb6.skl hS) (MRK.call hmr hW hS Xb6 Fb6 rfl rfl) (fun skb6 mrb6 => ?_)
                        refine c_iload (j := 0) C dX11_head_162 rfl ?_
                        refine c_aload_n (j := 4) (x := a0) C dX11_head_164 rfl ?_
                        have ty82 := Xb6.ty t_a0
                        obtain ⟨rb36, rq36, trb36⟩ := Wb6.ref ty82 6 rfl rfl rfl
                        have erb36 := Wb6.sk trb36 (by decide) rfl
                        subst erb36
                        refine c_getr (k := 6) C ck_12 dX11_head_165 w2_50 (by decide) ty82 rfl rfl (by decide) rfl rq36 ?_
                        refine c_st (st2 := [.ref (sk 15), .int (iI k2)]) rfl ?_
                        have ty83 := Xb6.ty tsk15
                        have ri297 : 0 ≤ ivb6 (sk 15) 7 ∧ ivb6 (sk 15) 7 ≤ 100000 := Wb6.int ty83 7
                        refine c_get (k := 7) C ck_7 dX11_head_168 w1_149 (by decide) ty83 rfl rfl (by decide) rfl ?_
                        refine c_icmp_ge (tgt := 206) C ⟨by omega, by omega⟩ ⟨by omega, by omega⟩ dX11_head_171 (by decide) (fun c21 => ?_) (fun c21 => ?_)
                        · refine c_aload_n (j := 4) (x := a0) C dX11_head_206 rfl ?_
                          refine c_aload_n (j := 4) (x := a0) C dX11_head_207 rfl ?_
                          obtain ⟨rb37, rq37, trb37⟩ := Wb6.ref ty82 3 rfl rfl rfl
                          have erb37 := Wb6.sk trb37 (by decide) rfl
                          subst erb37
                          refine c_getr (k := 3) C ck_12 dX11_head_208 w2_47 (by decide) ty82 rfl rfl (by decide) rfl rq37 ?_
                          refine c_st (st2 := [.ref (sk 5), .ref a0]) rfl ?_
                          have ty84 := Xb6.ty tsk5
                          have ri298 : 0 ≤ ivb6 (sk 5) 2 ∧ ivb6 (sk 5) 2 ≤ 200 := Wb6.int ty84 2
                          refine c_get (k := 2) C ck_2 dX11_head_211 w1_44 (by decide) ty84 rfl rfl (by decide) rfl ?_
                          have pl15 := Phi.le Wb6 skb6
                          refine d_callV (As := [.int (iI (ivb6 (sk 5) 2))]) (rest := []) C hM (C_done (a0 := a0) (x := ivb6 (sk 5) 2) Wb6 skb6 ty82 (by omega) ) dX11_head_214 kV_X11_109 rfl ty82 rfl rfl (by decide) ck_12 rfl (Nat.le_of_ble_eq_true rfl) ⟨(Nat.le_of_ble_eq_true rfl), (Nat.le_of_ble_eq_true rfl)⟩ hph pl15 (show 0 + 0 = 0 from rfl) (by decide) (fun rh43 Lh43 clh43 lnh43 ivh43 rvh43 h43 => ?_)
                          obtain ⟨f43, rfl, rfl, rfl, rfl, rfl, fl43, W43, rgf43, exf43, kp11f43, kp12f43, kp13f43, kp14f43, kp15f43, kp16f43⟩ := h43
                          refine hv8 (show 1 ≤ ivb6 a0 11 ∧ ivb6 a0 11 ≤ 100 from Wb6.int ty82 11) (show 1 ≤ ivb6 a0 12 ∧ ivb6 a0 12 ≤ 50 from Wb6.int ty82 12) (show (-2147483648) ≤ ivb6 a0 13 ∧ ivb6 a0 13 ≤ 2147483647 from Wb6.int ty82 13) (show (-2147483648) ≤ ivb6 a0 14 ∧ ivb6 a0 14 ≤ 2147483647 from Wb6.int ty82 14) (show (-2147483648) ≤ ivb6 a0 15 ∧ ivb6 a0 15 ≤ 2147483647 from Wb6.int ty82 15) (show (-2147483648) ≤ ivb6 a0 16 ∧ ivb6 a0 16 ≤ 2147483647 from Wb6.int ty82 16) (Fb6.call Xb6 fl43 rfl) (MRK.call mrb6 Wb6 skb6 XT.refl fl43 rfl rfl) (fun ri299 ri300 ri301 ri302 ri303 ri304 F34 mr34 => ?_)
                          refine c_st (st2 := [.int (iI f43)]) rfl ?_
                          refine hv14 (show ivh43 a0 11 = ivb6 a0 11 from kp11f43) (show ivh43 a0 12 = ivb6 a0 12 from kp12f43) (show ivh43 a0 13 = ivb6 a0 13 from kp13f43) (show ivh43 a0 14 = ivb6 a0 14 from kp14f43) (show ivh43 a0 15 = ivb6 a0 15 from kp15f43) (show ivh43 a0 16 = ivb6 a0 16 from kp16f43) (show f43 = (ivb6 (sk 5) 2) from exf43) (Xb6.ty tsk2) (show 1 ≤ ivh43 a0 11 ∧ ivh43 a0 11 ≤ 100 from W43.int ty82 11) (show 1 ≤ ivh43 a0 12 ∧ ivh43 a0 12 ≤ 50 from W43.int ty82 12) (show (-2147483648) ≤ ivh43 a0 13 ∧ ivh43 a0 13 ≤ 2147483647 from W43.int ty82 13) (show (-2147483648) ≤ ivh43 a0 14 ∧ ivh43 a0 14 ≤ 2147483647 from W43.int ty82 14) (show (-2147483648) ≤ ivh43 a0 15 ∧ ivh43 a0 15 ≤ 2147483647 from W43.int ty82 15) (show (-2147483648) ≤ ivh43 a0 16 ∧ ivh43 a0 16 ≤ 2147483647 from W43.int ty82 16) (fun gk11f43 gk12f43 gk13f43 gk14f43 gk15f43 gk16f43 gf43 ty85 ri306 ri307 ri308 ri309 ri310 ri311 => ?_)
                          refine hv2 (show 0 ≤ ivh43 (sk 2) 2 ∧ ivh43 (sk 2) 2 ≤ 3000 from W43.int ty85 2) (show ivh43 (sk 2) 2 = ivb6 (sk 2) 2 from fl43.i ty85 rfl 2) (fun ri305 ie470 => ?_)
                          exact c_iret C dX11_head_217 rfl (by decide) (rom0 hph pl15 (by decide)) ⟨f43, rfl, Xb6, F34, W43, ⟨by omega, by omega⟩, trivial, (by omega), (by omega), (by omega), (by omega), (by omega), (by omega), (by omega), (show rvb6 a0 9 = rv a0 9 from hkr9), (show rvb6 a0 10 = rv a0 10 from hkr10)⟩
                        · refine c_iload (j := 0) C dX11_head_174 rfl ?_
                          refine c_aload_n (j := 4) (x := a0) C dX11_head_176 rfl ?_
                          have ri312 : 1 ≤ ivb6 a0 11 ∧ ivb6 a0 11 ≤ 100 := Wb6.int ty82 11
                          refine c_get (k := 11) C ck_12 dX11_head_177 w2_55 (by decide) ty82 rfl rfl (by decide) rfl ?_
                          refine c_icmp_ge (tgt := 206) C ⟨by omega, by omega⟩ ⟨by omega, by omega⟩ dX11_head_180 (by decide) (fun c22 => ?_) (fun c22 => ?_)
                          · refine c_aload_n (j := 4) (x := a0) C dX11_head_206 rfl ?_
                            refine c_aload_n (j := 4) (x := a0) C dX11_head_207 rfl ?_
                            obtain ⟨rb38, rq38, trb38⟩ := Wb6.ref ty82 3 rfl rfl rfl
                            have erb38 := Wb6.sk trb38 (by decide) rfl
                            subst erb38
                            refine c_getr (k := 3) C ck_12 dX11_head_208 w2_47 (by decide) ty82 rfl rfl (by decide) rfl rq38 ?_
                            refine c_st (st2 := [.ref (sk 5), .ref a0]) rfl ?_
                            have ty86 := Xb6.ty tsk5
                            have ri313 : 0 ≤ ivb6 (sk 5) 2 ∧ ivb6 (sk 5) 2 ≤ 200 := Wb6.int ty86 2
                            refine c_get (k := 2) C ck_2 dX11_head_211 w1_44 (by decide) ty86 rfl rfl (by decide) rfl ?_
                            have pl16 := Phi.le Wb6 skb6
                            refine d_callV (As := [.int (iI (ivb6 (sk 5) 2))]) (rest := []) C hM (C_done (a0 := a0) (x := ivb6 (sk 5) 2) Wb6 skb6 ty82 (by omega) ) dX11_head_214 kV_X11_109 rfl ty82 rfl rfl (by decide) ck_12 rfl (Nat.le_of_ble_eq_true rfl) ⟨(Nat.le_of_ble_eq_true rfl), (Nat.le_of_ble_eq_true rfl)⟩ hph pl16 (show 0 + 0 = 0 from rfl) (by decide) (fun rh44 Lh44 clh44 lnh44 ivh44 rvh44 h44 => ?_)
                            obtain ⟨f44, rfl, rfl, rfl, rfl, rfl, fl44, W44, rgf44, exf44, kp11f44, kp12f44, kp13f44, kp14f44, kp15f44, kp16f44⟩ := h44
                            refine hv7 (show 1 ≤ ivb6 a0 12 ∧ ivb6 a0 12 ≤ 50 from Wb6.int ty82 12) (show (-2147483648) ≤ ivb6 a0 13 ∧ ivb6 a0 13 ≤ 2147483647 from Wb6.int ty82 13) (show (-2147483648) ≤ ivb6 a0 14 ∧ ivb6 a0 14 ≤ 2147483647 from Wb6.int ty82 14) (show (-2147483648) ≤ ivb6 a0 15 ∧ ivb6 a0 15 ≤ 2147483647 from Wb6.int ty82 15) (show (-2147483648) ≤ ivb6 a0 16 ∧ ivb6 a0 16 ≤ 2147483647 from Wb6.int ty82 16) (Fb6.call Xb6 fl44 rfl) (MRK.call mrb6 Wb6 skb6 XT.refl fl44 rfl rfl) (fun ri314 ri315 ri316 ri317 ri318 F35 mr35 => ?_)
                            refine c_st (st2 := [.int (iI f44)]) rfl ?_
                            refine hv14 (show ivh44 a0 11 = ivb6 a0 11 from kp11f44) (show ivh44 a0 12 = ivb6 a0 12 from kp12f44) (show ivh44 a0 13 = ivb6 a0 13 from kp13f44) (show ivh44 a0 14 = ivb6 a0 14 from kp14f44) (show ivh44 a0 15 = ivb6 a0 15 from kp15f44) (show ivh44 a0 16 = ivb6 a0 16 from kp16f44) (show f44 = (ivb6 (sk 5) 2) from exf44) (Xb6.ty tsk2) (show 1 ≤ ivh44 a0 11 ∧ ivh44 a0 11 ≤ 100 from W44.int ty82 11) (show 1 ≤ ivh44 a0 12 ∧ ivh44 a0 12 ≤ 50 from W44.int ty82 12) (show (-2147483648) ≤ ivh44 a0 13 ∧ ivh44 a0 13 ≤ 2147483647 from W44.int ty82 13) (show (-2147483648) ≤ ivh44 a0 14 ∧ ivh44 a0 14 ≤ 2147483647 from W44.int ty82 14) (show (-2147483648) ≤ ivh44 a0 15 ∧ ivh44 a0 15 ≤ 2147483647 from W44.int ty82 15) (show (-2147483648) ≤ ivh44 a0 16 ∧ ivh44 a0 16 ≤ 2147483647 from W44.int ty82 16) (fun gk11f44 gk12f44 gk13f44 gk14f44 gk15f44 gk16f44 gf44 ty87 ri320 ri321 ri322 ri323 ri324 ri325 => ?_)
                            refine hv2 (show 0 ≤ ivh44 (sk 2) 2 ∧ ivh44 (sk 2) 2 ≤ 3000 from W44.int ty87 2) (show ivh44 (sk 2) 2 = ivb6 (sk 2) 2 from fl44.i ty87 rfl 2) (fun ri319 ie485 => ?_)
                            exact c_iret C dX11_head_217 rfl (by decide) (rom0 hph pl16 (by decide)) ⟨f44, rfl, Xb6, F35, W44, ⟨by omega, by omega⟩, trivial, (by omega), (by omega), (by omega), (by omega), (by omega), (by omega), (by omega), (show rvb6 a0 9 = rv a0 9 from hkr9), (show rvb6 a0 10 = rv a0 10 from hkr10)⟩
                          · refine c_aload_n (j := 4) (x := a0) C dX11_head_183 rfl ?_
                            obtain ⟨rb39, rq39, trb39⟩ := Wb6.ref ty82 3 rfl rfl rfl
                            have erb39 := Wb6.sk trb39 (by decide) rfl
                            subst erb39
                            refine c_getr (k := 3) C ck_12 dX11_head_184 w2_47 (by decide) ty82 rfl rfl (by decide) rfl rq39 ?_
                            refine c_st (st2 := [.ref (sk 5)]) rfl ?_
                            refine c_aload_n (j := 4) (x := a0) C dX11_head_187 rfl ?_
                            refine c_getr (k := 6) C ck_12 dX11_head_188 w2_50 (by decide) ty82 rfl rfl (by decide) rfl rq36 ?_
                            refine c_st (st2 := [.ref (sk 15), .ref (sk 5)]) rfl ?_
                            obtain ⟨rb40, rq40, trb40⟩ := Wb6.ref ty83 6 rfl rfl rfl
                            have lnrb40 : 200 ≤ lnb6 rb40 ∧ lnb6 rb40 ≤ 200 := Wb6.len trb40 rfl
                            refine c_getr (k := 6) C ck_7 dX11_head_191 w1_146 (by decide) ty83 rfl rfl (by decide) rfl rq40 ?_
                            refine c_st (st2 := [.ref rb40, .ref (sk 5)]) rfl ?_
                            refine c_iload (j := 0) C dX11_head_194 rfl ?_
                            have ll4 : 200 ≤ lnb6 rb40 ∧ lnb6 rb40 ≤ 200 := Wb6.len trb40 rfl
                            refine c_iald C dX11_head_196 trb40 rfl (by omega) (by omega) (by omega) ?_
                            refine hv3 (show (-2147483648) ≤ ivb6 rb40 k2.toNat ∧ ivb6 rb40 k2.toNat ≤ 2147483647 from Wb6.int trb40 k2.toNat) (Xb6.ty tsk5) (Phi.le Wb6 skb6) (fun ri326 ty88 pl17 => ?_)
                            have ri327 : 0 ≤ ivb6 (sk 5) 2 ∧ ivb6 (sk 5) 2 ≤ 200 := Wb6.int ty88 2
                            refine d_callV (As := [.int (iI (ivb6 rb40 k2.toNat))]) (rest := []) C hM (C_add_5 (a0 := (sk 5)) (x := ivb6 rb40 k2.toNat) Wb6 skb6 ty88 (by omega) ) dX11_head_197 kV_X11_112 rfl ty88 rfl rfl (by decide) ck_2 rfl (Nat.le_of_ble_eq_true rfl) ⟨(Nat.le_of_ble_eq_true rfl), (Nat.le_of_ble_eq_true rfl)⟩ hph pl17 (show 0 + 0 = 0 from rfl) (by decide) (fun rh45 Lh45 clh45 lnh45 ivh45 rvh45 h45 => ?_)
                            obtain ⟨rfl, xl45, fl45, W45, exf45⟩ := h45
                            refine hv13 (Fb6.call Xb6 fl45 rfl) (MRK.call mrb6 Wb6 skb6 xl45 fl45 rfl rfl) (Xb6.ty tsk2) (Xb6.ty tsk3) (Xb6.ty tsk4) (Xb6.ty tsk13) (Xb6.ty tsk14) (Xb6.ty tsk16) (Xb6.ty tsk17) (Xb6.ty tsk22) (Xb6.ty tsk23) (Xb6.trans xl45) (xl45.skl skb6) (fun F36 mr36 ty89 ty90 ty91 ty92 ty93 ty94 ty95 ty96 ty97 X4 sk4 => ?_)
                            refine c_st (st2 := []) rfl ?_
                            refine hv2 (xl45.ty ty88) (show ((ivh45 (sk 5) 2 = ivb6 (sk 5) 2 ∧ ivb6 (sk 5) 2 = 200) ∨ (ivh45 (sk 5) 2 = ivb6 (sk 5) 2 + 1 ∧ ivb6 (sk 5) 2 < 200)) from exf45) (fun ty98 gf45 => ?_)
                            have ri328 : 0 ≤ ivh45 (sk 5) 2 ∧ ivh45 (sk 5) 2 ≤ 200 := W45.int ty98 2
                            refine c_iinc (z := k2) (j := 0) (lv2 := [(5, .int (iI (k2 + 1))), (4, .int (iI f41)), (3, .ref ob4), (2, .int (iI fl)), (0, .ref a0), (1, .int (iI i))]) C dX11_head_200 rfl (by decide) rfl ?_
                            refine c_goto (tgt := 162) C dX11_head_203 (by decide) ?_
                            refine hv11 (xl45.ty ty83) (show ivh45 (sk 15) 7 = ivb6 (sk 15) 7 from fl45.i ty83 rfl 7) (xl45.ty ty89) (show ivh45 (sk 2) 2 = ivb6 (sk 2) 2 from fl45.i ty89 rfl 2) (xl45.ty ty82) (show ivh45 a0 11 = ivb6 a0 11 from fl45.i ty82 rfl 11) (show ivh45 a0 12 = ivb6 a0 12 from fl45.i ty82 rfl 12) (show ivh45 a0 13 = ivb6 a0 13 from fl45.i ty82 rfl 13) (show ivh45 a0 14 = ivb6 a0 14 from fl45.i ty82 rfl 14) (show ivh45 a0 15 = ivb6 a0 15 from fl45.i ty82 rfl 15) (show ivh45 a0 16 = ivb6 a0 16 from fl45.i ty82 rfl 16) (fun ty99 ie496 ty100 ie497 ty101 ie499 ie500 ie502 ie504 ie506 ie508 => ?_)
                            refine hv8 (show 0 ≤ ivh45 (sk 15) 7 ∧ ivh45 (sk 15) 7 ≤ 100000 from W45.int ty99 7) (show 0 ≤ ivh45 (sk 2) 2 ∧ ivh45 (sk 2) 2 ≤ 3000 from W45.int ty100 2) (show 1 ≤ ivh45 a0 11 ∧ ivh45 a0 11 ≤ 100 from W45.int ty101 11) (show 1 ≤ ivh45 a0 12 ∧ ivh45 a0 12 ≤ 50 from W45.int ty101 12) (show (-2147483648) ≤ ivh45 a0 13 ∧ ivh45 a0 13 ≤ 2147483647 from W45.int ty101 13) (show (-2147483648) ≤ ivh45 a0 14 ∧ ivh45 a0 14 ≤ 2147483647 from W45.int ty101 14) (show (-2147483648) ≤ ivh45 a0 15 ∧ ivh45 a0 15 ≤ 2147483647 from W45.int ty101 15) (show (-2147483648) ≤ ivh45 a0 16 ∧ ivh45 a0 16 ≤ 2147483647 from W45.int ty101 16) (fun ri329 ri330 ri331 ri332 ri333 ri334 ri335 ri336 => ?_)
                            refine c_lv (lv2 := [(5, .int (iI (k2 + 1))), (4, .int (iI f41)), (3, .ref ob4), (2, .int (iI fl)), (0, .ref a0), (1, .int (iI i))]) [0, 1, 2, 3, 4, 5] rfl ?_
                            exact ih6  (k2 + 1) _ _ _ _ _ (by omega) X4 W45 F36  (by omega) (by show ivh45 (sk 15) 7 ≤ 200; omega) (by show ivh45 (sk 2) 2 = 0; omega) (by show ivh45 a0 11 = iv a0 11; omega) (by show ivh45 a0 12 = iv a0 12; omega) (by show ivh45 a0 13 = iv a0 13; omega) (by show ivh45 a0 14 = iv a0 14; omega) (by show ivh45 a0 15 = iv a0 15; omega) (by show ivh45 a0 16 = iv a0 16; omega) (Eq.trans (show rvh45 a0 9 = rvb6 a0 9 from (fl45.r ty82 rfl 9)) (show rvb6 a0 9 = rv a0 9 from hkr9)) (Eq.trans (show rvh45 a0 10 = rvb6 a0 10 from (fl45.r ty82 rfl 10)) (show rvb6 a0 10 = rv a0 10 from hkr10))
                    refine hv29 (show 0 ≤ ivh42 (sk 15) 7 ∧ ivh42 (sk 15) 7 ≤ 100000 from W42.int ty80 7) (show ivh42 (sk 15) 7 = ivh41 (sk 15) 7 from fl42.i ty80 rfl 7) (show 0 ≤ ivh42 (sk 2) 2 ∧ ivh42 (sk 2) 2 ≤ 3000 from W42.int ty78 2) (show ivh42 (sk 2) 2 = ivh41 (sk 2) 2 from fl42.i ty78 rfl 2) (show ivh41 (sk 2) 2 = ivh39 (sk 2) 2 from fl41.i ty78 rfl 2) (show 1 ≤ ivh42 a0 11 ∧ ivh42 a0 11 ≤ 100 from W42.int ty77 11) (show ivh42 a0 11 = ivh41 a0 11 from fl42.i ty77 rfl 11) (show ivh41 a0 11 = ivh39 a0 11 from fl41.i ty77 rfl 11) (show ivh39 a0 11 = ivb4 a0 11 from fl39.i ty77 rfl 11) (show 1 ≤ ivh42 a0 12 ∧ ivh42 a0 12 ≤ 50 from W42.int ty77 12) (show ivh42 a0 12 = ivh41 a0 12 from fl42.i ty77 rfl 12) (show ivh41 a0 12 = ivh39 a0 12 from fl41.i ty77 rfl 12) (show ivh39 a0 12 = ivb4 a0 12 from fl39.i ty77 rfl 12) (show (-2147483648) ≤ ivh42 a0 13 ∧ ivh42 a0 13 ≤ 2147483647 from W42.int ty77 13) (show ivh42 a0 13 = ivh41 a0 13 from fl42.i ty77 rfl 13) (show ivh41 a0 13 = ivh39 a0 13 from fl41.i ty77 rfl 13) (show ivh39 a0 13 = ivb4 a0 13 from fl39.i ty77 rfl 13) (show (-2147483648) ≤ ivh42 a0 14 ∧ ivh42 a0 14 ≤ 2147483647 from W42.int ty77 14) (show ivh42 a0 14 = ivh41 a0 14 from fl42.i ty77 rfl 14) (show ivh41 a0 14 = ivh39 a0 14 from fl41.i ty77 rfl 14) (show ivh39 a0 14 = ivb4 a0 14 from fl39.i ty77 rfl 14) (show (-2147483648) ≤ ivh42 a0 15 ∧ ivh42 a0 15 ≤ 2147483647 from W42.int ty77 15) (show ivh42 a0 15 = ivh41 a0 15 from fl42.i ty77 rfl 15) (show ivh41 a0 15 = ivh39 a0 15 from fl41.i ty77 rfl 15) (show ivh39 a0 15 = ivb4 a0 15 from fl39.i ty77 rfl 15) (show (-2147483648) ≤ ivh42 a0 16 ∧ ivh42 a0 16 ≤ 2147483647 from W42.int ty77 16) (show ivh42 a0 16 = ivh41 a0 16 from fl42.i ty77 rfl 16) (show ivh41 a0 16 = ivh39 a0 16 from fl41.i ty77 rfl 16) (show ivh39 a0 16 = ivb4 a0 16 from fl39.i ty77 rfl 16) (fun ri337 ie510 ri338 ie511 ie512 ri339 ie513 ie514 ie515 ri340 ie517 ie518 ie519 ri341 ie521 ie522 ie523 ri342 ie525 ie526 ie527 ri343 ie529 ie530 ie531 ri344 ie533 ie534 ie535 => ?_)
                    refine c_lv (lv2 := [(5, .int (iI 0)), (4, .int (iI f41)), (3, .ref ob4), (2, .int (iI fl)), (0, .ref a0), (1, .int (iI i))]) [0, 1, 2, 3, 4, 5] rfl ?_
                    exact Lp6 103 0 _ _ _ _ _ (by omega) Xb4 W42 F33  (by omega) (by show ivh42 (sk 15) 7 ≤ 200; omega) (by show ivh42 (sk 2) 2 = 0; omega) (by show ivh42 a0 11 = iv a0 11; omega) (by show ivh42 a0 12 = iv a0 12; omega) (by show ivh42 a0 13 = iv a0 13; omega) (by show ivh42 a0 14 = iv a0 14; omega) (by show ivh42 a0 15 = iv a0 15; omega) (by show ivh42 a0 16 = iv a0 16; omega) (show rvb4 a0 9 = rv a0 9 from hkr9) (show rvb4 a0 10 = rv a0 10 from hkr10)
                  · refine c_aload_n (j := 3) (x := a0) C dX11_head_138 rfl ?_
                    refine c_iload (j := 0) C dX11_head_139 rfl ?_
                    refine c_aload_n (j := 3) (x := a0) C dX11_head_141 rfl ?_
                    refine c_getr (k := 6) C ck_12 dX11_head_142 w2_50 (by decide) ty77 rfl rfl (by decide) rfl rq34 ?_
                    refine c_st (st2 := [.ref (sk 15), .int (iI f41), .ref a0]) rfl ?_
                    refine d_callV (As := []) (rest := [.int (iI f41), .ref a0]) C hM (C_placeOfUnknown (a0 := (sk 15)) W41 skb4 ty80  ) dX11_head_145 kV_X11_263 rfl ty80 rfl rfl (by decide) ck_7 rfl (Nat.le_of_ble_eq_true rfl) ⟨(Nat.le_of_ble_eq_true rfl), (Nat.le_of_ble_eq_true rfl)⟩ hph pl14 (show 0 + 0 = 0 from rfl) (by decide) (fun rh46 Lh46 clh46 lnh46 ivh46 rvh46 h46 => ?_)
                    obtain ⟨f46, rfl, rfl, rfl, rfl, rfl, rfl, rgf46, exf46⟩ := h46
                    refine c_st (st2 := [.int (iI f46), .int (iI f41), .ref a0]) rfl ?_
                    refine d_callV (As := [.int (iI f41), .int (iI f46)]) (rest := []) C hM (C_refuseAt (a0 := a0) (x := f41) (y := f46) W41 skb4 ty77 (by omega) (by omega) ) dX11_head_148 kV_X11_266 rfl ty77 rfl rfl (by decide) ck_12 rfl (Nat.le_of_ble_eq_true rfl) ⟨(Nat.le_of_ble_eq_true rfl), (Nat.le_of_ble_eq_true rfl)⟩ hph pl14 (show 0 + 0 = 0 from rfl) (by decide) (fun rh47 Lh47 clh47 lnh47 ivh47 rvh47 h47 => ?_)
                    obtain ⟨f47, rfl, rfl, rfl, rfl, rfl, fl47, W47, rgf47, exf47, kp11f47, kp12f47, kp13f47, kp14f47, kp15f47, kp16f47⟩ := h47
                    refine hv20 (show 1 ≤ ivh41 a0 11 ∧ ivh41 a0 11 ≤ 100 from W41.int ty77 11) (show ivh41 a0 11 = ivh39 a0 11 from fl41.i ty77 rfl 11) (show ivh39 a0 11 = ivb4 a0 11 from fl39.i ty77 rfl 11) (show 1 ≤ ivh41 a0 12 ∧ ivh41 a0 12 ≤ 50 from W41.int ty77 12) (show ivh41 a0 12 = ivh39 a0 12 from fl41.i ty77 rfl 12) (show ivh39 a0 12 = ivb4 a0 12 from fl39.i ty77 rfl 12) (show (-2147483648) ≤ ivh41 a0 13 ∧ ivh41 a0 13 ≤ 2147483647 from W41.int ty77 13) (show ivh41 a0 13 = ivh39 a0 13 from fl41.i ty77 rfl 13) (show ivh39 a0 13 = ivb4 a0 13 from fl39.i ty77 rfl 13) (show (-2147483648) ≤ ivh41 a0 14 ∧ ivh41 a0 14 ≤ 2147483647 from W41.int ty77 14) (show ivh41 a0 14 = ivh39 a0 14 from fl41.i ty77 rfl 14) (show ivh39 a0 14 = ivb4 a0 14 from fl39.i ty77 rfl 14) (show (-2147483648) ≤ ivh41 a0 15 ∧ ivh41 a0 15 ≤ 2147483647 from W41.int ty77 15) (show ivh41 a0 15 = ivh39 a0 15 from fl41.i ty77 rfl 15) (show ivh39 a0 15 = ivb4 a0 15 from fl39.i ty77 rfl 15) (show (-2147483648) ≤ ivh41 a0 16 ∧ ivh41 a0 16 ≤ 2147483647 from W41.int ty77 16) (show ivh41 a0 16 = ivh39 a0 16 from fl41.i ty77 rfl 16) (show ivh39 a0 16 = ivb4 a0 16 from fl39.i ty77 rfl 16) (F32.call Xb4 fl47 rfl) (MRK.call mr32 W41 skb4 XT.refl fl47 rfl rfl) (fun ri345 ie537 ie538 ri346 ie540 ie541 ri347 ie543 ie544 ri348 ie546 ie547 ri349 ie549 ie550 ri350 ie552 ie553 F37 mr37 => ?_)
                    refine c_st (st2 := [.int (iI f47)]) rfl ?_
                    refine hv16 (show ivh47 a0 11 = ivh41 a0 11 from kp11f47) (show ivh47 a0 12 = ivh41 a0 12 from kp12f47) (show ivh47 a0 13 = ivh41 a0 13 from kp13f47) (show ivh47 a0 14 = ivh41 a0 14 from kp14f47) (show ivh47 a0 15 = ivh41 a0 15 from kp15f47) (show ivh47 a0 16 = ivh41 a0 16 from kp16f47) (show f47 = -1 from exf47) (show 0 ≤ ivh47 (sk 2) 2 ∧ ivh47 (sk 2) 2 ≤ 3000 from W47.int ty78 2) (show ivh47 (sk 2) 2 = ivh41 (sk 2) 2 from fl47.i ty78 rfl 2) (show ivh41 (sk 2) 2 = ivh39 (sk 2) 2 from fl41.i ty78 rfl 2) (show 1 ≤ ivh47 a0 11 ∧ ivh47 a0 11 ≤ 100 from W47.int ty77 11) (show 1 ≤ ivh47 a0 12 ∧ ivh47 a0 12 ≤ 50 from W47.int ty77 12) (show (-2147483648) ≤ ivh47 a0 13 ∧ ivh47 a0 13 ≤ 2147483647 from W47.int ty77 13) (show (-2147483648) ≤ ivh47 a0 14 ∧ ivh47 a0 14 ≤ 2147483647 from W47.int ty77 14) (show (-2147483648) ≤ ivh47 a0 15 ∧ ivh47 a0 15 ≤ 2147483647 from W47.int ty77 15) (show (-2147483648) ≤ ivh47 a0 16 ∧ ivh47 a0 16 ≤ 2147483647 from W47.int ty77 16) (fun gk11f47 gk12f47 gk13f47 gk14f47 gk15f47 gk16f47 gf47 ri351 ie555 ie556 ri352 ri353 ri354 ri355 ri356 ri357 => ?_)
                    exact c_iret C dX11_head_151 rfl (by decide) (rom0 hph pl14 (by decide)) ⟨f47, rfl, Xb4, F37, W47, ⟨by omega, by omega⟩, trivial, (by omega), (by omega), (by omega), (by omega), (by omega), (by omega), (by omega), (show rvb4 a0 9 = rv a0 9 from hkr9), (show rvb4 a0 10 = rv a0 10 from hkr10)⟩
                · subst oq4
                  refine c_lv (lv2 := [(3, .null), (2, .int (iI fl)), (0, .ref a0), (1, .int (iI i))]) [0, 1, 2, 3] rfl ?_
                  refine c_st (st2 := []) rfl ?_
                  refine c_aload_n (j := 2) (x := a0) C dX11_head_117 rfl ?_
                  refine c_iconst C dX11_head_118 ?_
                  refine d_callV (As := [.int (iI 3)]) (rest := []) C hM (C_refuse (a0 := a0) (x := 3) W39 skb4 ty77 ⟨by decide, by decide⟩ ) dX11_head_119 kV_X11_102 rfl ty77 rfl rfl (by decide) ck_12 rfl (Nat.le_of_ble_eq_true rfl) ⟨(Nat.le_of_ble_eq_true rfl), (Nat.le_of_ble_eq_true rfl)⟩ hph pl14 (show 0 + 0 = 0 from rfl) (by decide) (fun rh48 Lh48 clh48 lnh48 ivh48 rvh48 h48 => ?_)
                  obtain ⟨f48, rfl, rfl, rfl, rfl, rfl, fl48, W48, rgf48, exf48, kp11f48, kp12f48, kp13f48, kp14f48, kp15f48, kp16f48⟩ := h48
                  refine hv14 (show 1 ≤ ivh39 a0 11 ∧ ivh39 a0 11 ≤ 100 from W39.int ty77 11) (show ivh39 a0 11 = ivb4 a0 11 from fl39.i ty77 rfl 11) (show 1 ≤ ivh39 a0 12 ∧ ivh39 a0 12 ≤ 50 from W39.int ty77 12) (show ivh39 a0 12 = ivb4 a0 12 from fl39.i ty77 rfl 12) (show (-2147483648) ≤ ivh39 a0 13 ∧ ivh39 a0 13 ≤ 2147483647 from W39.int ty77 13) (show ivh39 a0 13 = ivb4 a0 13 from fl39.i ty77 rfl 13) (show (-2147483648) ≤ ivh39 a0 14 ∧ ivh39 a0 14 ≤ 2147483647 from W39.int ty77 14) (show ivh39 a0 14 = ivb4 a0 14 from fl39.i ty77 rfl 14) (show (-2147483648) ≤ ivh39 a0 15 ∧ ivh39 a0 15 ≤ 2147483647 from W39.int ty77 15) (show ivh39 a0 15 = ivb4 a0 15 from fl39.i ty77 rfl 15) (show (-2147483648) ≤ ivh39 a0 16 ∧ ivh39 a0 16 ≤ 2147483647 from W39.int ty77 16) (show ivh39 a0 16 = ivb4 a0 16 from fl39.i ty77 rfl 16) (F31.call Xb4 fl48 rfl) (MRK.call mr31 W39 skb4 XT.refl fl48 rfl rfl) (fun ri358 ie563 ri359 ie565 ri360 ie567 ri361 ie569 ri362 ie571 ri363 ie573 F38 mr38 => ?_)
                  refine c_st (st2 := [.int (iI f48)]) rfl ?_
                  refine hv15 (show ivh48 a0 11 = ivh39 a0 11 from kp11f48) (show ivh48 a0 12 = ivh39 a0 12 from kp12f48) (show ivh48 a0 13 = ivh39 a0 13 from kp13f48) (show ivh48 a0 14 = ivh39 a0 14 from kp14f48) (show ivh48 a0 15 = ivh39 a0 15 from kp15f48) (show ivh48 a0 16 = ivh39 a0 16 from kp16f48) (show f48 = -1 from exf48) (show 0 ≤ ivh48 (sk 2) 2 ∧ ivh48 (sk 2) 2 ≤ 3000 from W48.int ty78 2) (show ivh48 (sk 2) 2 = ivh39 (sk 2) 2 from fl48.i ty78 rfl 2) (show 1 ≤ ivh48 a0 11 ∧ ivh48 a0 11 ≤ 100 from W48.int ty77 11) (show 1 ≤ ivh48 a0 12 ∧ ivh48 a0 12 ≤ 50 from W48.int ty77 12) (show (-2147483648) ≤ ivh48 a0 13 ∧ ivh48 a0 13 ≤ 2147483647 from W48.int ty77 13) (show (-2147483648) ≤ ivh48 a0 14 ∧ ivh48 a0 14 ≤ 2147483647 from W48.int ty77 14) (show (-2147483648) ≤ ivh48 a0 15 ∧ ivh48 a0 15 ≤ 2147483647 from W48.int ty77 15) (show (-2147483648) ≤ ivh48 a0 16 ∧ ivh48 a0 16 ≤ 2147483647 from W48.int ty77 16) (fun gk11f48 gk12f48 gk13f48 gk14f48 gk15f48 gk16f48 gf48 ri364 ie575 ri365 ri366 ri367 ri368 ri369 ri370 => ?_)
                  exact c_iret C dX11_head_122 rfl (by decide) (rom0 hph pl14 (by decide)) ⟨f48, rfl, Xb4, F38, W48, ⟨by omega, by omega⟩, trivial, (by omega), (by omega), (by omega), (by omega), (by omega), (by omega), (by omega), (show rvb4 a0 9 = rv a0 9 from hkr9), (show rvb4 a0 10 = rv a0 10 from hkr10)⟩
              · refine c_aload_n (j := 2) (x := a0) C dX11_head_97 rfl ?_
                refine c_bipush (z := 6) C dX11_head_98 (by decide) ?_
                refine d_callV (As := [.int (iI 6)]) (rest := []) C hM (C_refuse (a0 := a0) (x := 6) W39 skb4 ty77 ⟨by decide, by decide⟩ ) dX11_head_100 kV_X11_102 rfl ty77 rfl rfl (by decide) ck_12 rfl (Nat.le_of_ble_eq_true rfl) ⟨(Nat.le_of_ble_eq_true rfl), (Nat.le_of_ble_eq_true rfl)⟩ hph pl14 (show 0 + 0 = 0 from rfl) (by decide) (fun rh49 Lh49 clh49 lnh49 ivh49 rvh49 h49 => ?_)
                obtain ⟨f49, rfl, rfl, rfl, rfl, rfl, fl49, W49, rgf49, exf49, kp11f49, kp12f49, kp13f49, kp14f49, kp15f49, kp16f49⟩ := h49
                refine hv14 (show 1 ≤ ivh39 a0 11 ∧ ivh39 a0 11 ≤ 100 from W39.int ty77 11) (show ivh39 a0 11 = ivb4 a0 11 from fl39.i ty77 rfl 11) (show 1 ≤ ivh39 a0 12 ∧ ivh39 a0 12 ≤ 50 from W39.int ty77 12) (show ivh39 a0 12 = ivb4 a0 12 from fl39.i ty77 rfl 12) (show (-2147483648) ≤ ivh39 a0 13 ∧ ivh39 a0 13 ≤ 2147483647 from W39.int ty77 13) (show ivh39 a0 13 = ivb4 a0 13 from fl39.i ty77 rfl 13) (show (-2147483648) ≤ ivh39 a0 14 ∧ ivh39 a0 14 ≤ 2147483647 from W39.int ty77 14) (show ivh39 a0 14 = ivb4 a0 14 from fl39.i ty77 rfl 14) (show (-2147483648) ≤ ivh39 a0 15 ∧ ivh39 a0 15 ≤ 2147483647 from W39.int ty77 15) (show ivh39 a0 15 = ivb4 a0 15 from fl39.i ty77 rfl 15) (show (-2147483648) ≤ ivh39 a0 16 ∧ ivh39 a0 16 ≤ 2147483647 from W39.int ty77 16) (show ivh39 a0 16 = ivb4 a0 16 from fl39.i ty77 rfl 16) (F31.call Xb4 fl49 rfl) (MRK.call mr31 W39 skb4 XT.refl fl49 rfl rfl) (fun ri371 ie582 ri372 ie584 ri373 ie586 ri374 ie588 ri375 ie590 ri376 ie592 F39 mr39 => ?_)
                refine c_st (st2 := [.int (iI f49)]) rfl ?_
                refine hv15 (show ivh49 a0 11 = ivh39 a0 11 from kp11f49) (show ivh49 a0 12 = ivh39 a0 12 from kp12f49) (show ivh49 a0 13 = ivh39 a0 13 from kp13f49) (show ivh49 a0 14 = ivh39 a0 14 from kp14f49) (show ivh49 a0 15 = ivh39 a0 15 from kp15f49) (show ivh49 a0 16 = ivh39 a0 16 from kp16f49) (show f49 = -1 from exf49) (show 0 ≤ ivh49 (sk 2) 2 ∧ ivh49 (sk 2) 2 ≤ 3000 from W49.int ty78 2) (show ivh49 (sk 2) 2 = ivh39 (sk 2) 2 from fl49.i ty78 rfl 2) (show 1 ≤ ivh49 a0 11 ∧ ivh49 a0 11 ≤ 100 from W49.int ty77 11) (show 1 ≤ ivh49 a0 12 ∧ ivh49 a0 12 ≤ 50 from W49.int ty77 12) (show (-2147483648) ≤ ivh49 a0 13 ∧ ivh49 a0 13 ≤ 2147483647 from W49.int ty77 13) (show (-2147483648) ≤ ivh49 a0 14 ∧ ivh49 a0 14 ≤ 2147483647 from W49.int ty77 14) (show (-2147483648) ≤ ivh49 a0 15 ∧ ivh49 a0 15 ≤ 2147483647 from W49.int ty77 15) (show (-2147483648) ≤ ivh49 a0 16 ∧ ivh49 a0 16 ≤ 2147483647 from W49.int ty77 16) (fun gk11f49 gk12f49 gk13f49 gk14f49 gk15f49 gk16f49 gf49 ri377 ie594 ri378 ri379 ri380 ri381 ri382 ri383 => ?_)
                exact c_iret C dX11_head_103 rfl (by decide) (rom0 hph pl14 (by decide)) ⟨f49, rfl, Xb4, F39, W49, ⟨by omega, by omega⟩, trivial, (by omega), (by omega), (by omega), (by omega), (by omega), (by omega), (by omega), (show rvb4 a0 9 = rv a0 9 from hkr9), (show rvb4 a0 10 = rv a0 10 from hkr10)⟩
            · refine c_aload_n (j := 2) (x := a0) C dX11_head_64 rfl ?_
              obtain ⟨rb41, rq41, trb41⟩ := Wb4.ref ty77 6 rfl rfl rfl
              have erb41 := Wb4.sk trb41 (by decide) rfl
              subst erb41
              refine c_getr (k := 6) C ck_12 dX11_head_65 w2_50 (by decide) ty77 rfl rfl (by decide) rfl rq41 ?_
              refine c_st (st2 := [.ref (sk 15)]) rfl ?_
              refine c_aload_n (j := 2) (x := a0) C dX11_head_68 rfl ?_
              refine c_getr (k := 0) C ck_12 dX11_head_69 w2_44 (by decide) ty77 rfl rfl (by decide) rfl rq32 ?_
              refine c_st (st2 := [.ref (sk 2), .ref (sk 15)]) rfl ?_
              refine c_iload_n (j := 1) C dX11_head_72 rfl ?_
              have pl18 := Phi.le Wb4 skb4
              refine d_callV (As := [.int (iI k)]) (rest := [.ref (sk 15)]) C hM (C_at_2 (a0 := (sk 2)) (i := k) Wb4 skb4 ty78 (by omega) ) dX11_head_73 kV_X11_224 rfl ty78 rfl rfl (by decide) ck_2 rfl (Nat.le_of_ble_eq_true rfl) ⟨(Nat.le_of_ble_eq_true rfl), (Nat.le_of_ble_eq_true rfl)⟩ hph pl18 (show 0 + 0 = 0 from rfl) (by decide) (fun rh50 Lh50 clh50 lnh50 ivh50 rvh50 h50 => ?_)
              obtain ⟨f50, rfl, rfl, rfl, rfl, rfl, rfl, rgf50, exf50⟩ := h50
              refine c_st (st2 := [.int (iI f50), .ref (sk 15)]) rfl ?_
              have gf50 : ((0 ≤ k ∧ k < ivb4 (sk 2) 2) ∨ f50 = 0) ∧ ∀ ss, CT ivb4 rvb4 (sk 2) ss → 0 ≤ k → k < ivb4 (sk 2) 2 → f50 = ss k.toNat := exf50
              refine c_iload_n (j := 1) C dX11_head_76 rfl ?_
              have ty102 := Xb4.ty tsk15
              refine d_callV (As := [.int (iI f50), .int (iI k)]) (rest := []) C hM (C_put (a0 := (sk 15)) (x := f50) (y := k) Wb4 skb4 ty102 (by omega) (by omega) ) dX11_head_77 kV_X11_273 rfl ty102 rfl rfl (by decide) ck_7 rfl (Nat.le_of_ble_eq_true rfl) ⟨(Nat.le_of_ble_eq_true rfl), (Nat.le_of_ble_eq_true rfl)⟩ hph pl18 (show 0 + 0 = 0 from rfl) (by decide) (fun rh51 Lh51 clh51 lnh51 ivh51 rvh51 h51 => ?_)
              obtain ⟨rfl, rfl, rfl, rfl, rfl, fl51, W51, exf51⟩ := h51
              refine hv2 (Fb4.call Xb4 fl51 rfl) (MRK.call mrb4 Wb4 skb4 XT.refl fl51 rfl rfl) (fun F40 mr40 => ?_)
              refine c_st (st2 := []) rfl ?_
              refine c_iinc (z := k) (j := 1) (lv2 := [(3, .int (iI (k + 1))), (2, .int (iI fl)), (0, .ref a0), (1, .int (iI i))]) C dX11_head_80 rfl (by decide) rfl ?_
              refine c_goto (tgt := 49) C dX11_head_83 (by decide) ?_
              refine hv12 (show 1 ≤ ivh51 a0 11 ∧ ivh51 a0 11 ≤ 100 from W51.int ty77 11) (show ivh51 a0 11 = ivb4 a0 11 from fl51.i ty77 rfl 11) (show 1 ≤ ivh51 a0 12 ∧ ivh51 a0 12 ≤ 50 from W51.int ty77 12) (show ivh51 a0 12 = ivb4 a0 12 from fl51.i ty77 rfl 12) (show (-2147483648) ≤ ivh51 a0 13 ∧ ivh51 a0 13 ≤ 2147483647 from W51.int ty77 13) (show ivh51 a0 13 = ivb4 a0 13 from fl51.i ty77 rfl 13) (show (-2147483648) ≤ ivh51 a0 14 ∧ ivh51 a0 14 ≤ 2147483647 from W51.int ty77 14) (show ivh51 a0 14 = ivb4 a0 14 from fl51.i ty77 rfl 14) (show (-2147483648) ≤ ivh51 a0 15 ∧ ivh51 a0 15 ≤ 2147483647 from W51.int ty77 15) (show ivh51 a0 15 = ivb4 a0 15 from fl51.i ty77 rfl 15) (show (-2147483648) ≤ ivh51 a0 16 ∧ ivh51 a0 16 ≤ 2147483647 from W51.int ty77 16) (show ivh51 a0 16 = ivb4 a0 16 from fl51.i ty77 rfl 16) (fun ri384 ie601 ri385 ie603 ri386 ie605 ri387 ie607 ri388 ie609 ri389 ie611 => ?_)
              refine c_lv (lv2 := [(2, .int (iI fl)), (3, .int (iI (k + 1))), (0, .ref a0), (1, .int (iI i))]) [1, 0, 2, 3] rfl ?_
              exact ih4  fl (k + 1) _ _ _ _ _ (by omega) Xb4 W51 F40  (by omega) (by omega) (by show ivh51 a0 11 = iv a0 11; omega) (by show ivh51 a0 12 = iv a0 12; omega) (by show ivh51 a0 13 = iv a0 13; omega) (by show ivh51 a0 14 = iv a0 14; omega) (by show ivh51 a0 15 = iv a0 15; omega) (by show ivh51 a0 16 = iv a0 16; omega) (show rvb4 a0 9 = rv a0 9 from hkr9) (show rvb4 a0 10 = rv a0 10 from hkr10)
      refine hv12 (show 1 ≤ ivh27 a0 11 ∧ ivh27 a0 11 ≤ 100 from W27.int t_a0 11) (show ivh27 a0 11 = iv a0 11 from fl27.i t_a0 rfl 11) (show 1 ≤ ivh27 a0 12 ∧ ivh27 a0 12 ≤ 50 from W27.int t_a0 12) (show ivh27 a0 12 = iv a0 12 from fl27.i t_a0 rfl 12) (show (-2147483648) ≤ ivh27 a0 13 ∧ ivh27 a0 13 ≤ 2147483647 from W27.int t_a0 13) (show ivh27 a0 13 = iv a0 13 from fl27.i t_a0 rfl 13) (show (-2147483648) ≤ ivh27 a0 14 ∧ ivh27 a0 14 ≤ 2147483647 from W27.int t_a0 14) (show ivh27 a0 14 = iv a0 14 from fl27.i t_a0 rfl 14) (show (-2147483648) ≤ ivh27 a0 15 ∧ ivh27 a0 15 ≤ 2147483647 from W27.int t_a0 15) (show ivh27 a0 15 = iv a0 15 from fl27.i t_a0 rfl 15) (show (-2147483648) ≤ ivh27 a0 16 ∧ ivh27 a0 16 ≤ 2147483647 from W27.int t_a0 16) (show ivh27 a0 16 = iv a0 16 from fl27.i t_a0 rfl 16) (fun ri390 ie613 ri391 ie614 ri392 ie615 ri393 ie616 ri394 ie617 ri395 ie618 => ?_)
      refine c_lv (lv2 := [(2, .int (iI 0)), (3, .int (iI 0)), (0, .ref a0), (1, .int (iI i))]) [1, 0, 2, 3] rfl ?_
      exact Lp4 3003 0 0 _ _ _ _ _ (by omega) hX0 W27 F21  (by omega) (by omega) (by show ivh27 a0 11 = iv a0 11; omega) (by show ivh27 a0 12 = iv a0 12; omega) (by show ivh27 a0 13 = iv a0 13; omega) (by show ivh27 a0 14 = iv a0 14; omega) (by show ivh27 a0 15 = iv a0 15; omega) (by show ivh27 a0 16 = iv a0 16; omega) rfl rfl
    · refine c_iconst C dX11_head_34 ?_
      refine c_goto (tgt := 39) C dX11_head_35 (by decide) ?_
      refine c_istore_n (lv2 := [(2, .int (iI 1)), (0, .ref a0), (1, .int (iI i))]) C dX11_head_39 (by decide) rfl ?_
      refine c_aload_n (j := 1) (x := a0) C dX11_head_40 rfl ?_
      obtain ⟨rb42, rq42, trb42⟩ := hW.ref t_a0 6 rfl rfl rfl
      have erb42 := hW.sk trb42 (by decide) rfl
      subst erb42
      refine c_getr (k := 6) C ck_12 dX11_head_41 w2_50 (by decide) t_a0 rfl rfl (by decide) rfl rq42 ?_
      refine c_st (st2 := [.ref (sk 15)]) rfl ?_
      refine d_callV (As := []) (rest := []) C hM (C_wclear (a0 := (sk 15)) hW hS tsk15  ) dX11_head_44 kV_X11_272 rfl tsk15 rfl rfl (by decide) ck_7 rfl (Nat.le_of_ble_eq_true rfl) ⟨(Nat.le_of_ble_eq_true rfl), (Nat.le_of_ble_eq_true rfl)⟩ hph hph (show 0 + 0 = 0 from rfl) (by decide) (fun rh52 Lh52 clh52 lnh52 ivh52 rvh52 h52 => ?_)
      obtain ⟨rfl, rfl, rfl, rfl, rfl, fl52, W52, exf52⟩ := h52
      refine hv2 (hF0.call hX0 fl52 rfl) (MRK.call hmr hW hS XT.refl fl52 rfl rfl) (fun F41 mr41 => ?_)
      refine c_st (st2 := []) rfl ?_
      refine c_iconst C dX11_head_47 ?_
      refine c_istore_n (lv2 := [(3, .int (iI 0)), (2, .int (iI 1)), (0, .ref a0), (1, .int (iI i))]) C dX11_head_48 (by decide) rfl ?_
      have Lp7 : ∀ (nn : Nat) (fl k : Int) (Lb7 : List Nat) (clb7 lnb7 : Nat → Nat) (ivb7 : Nat → Nat → Int) (rvb7 : Nat → Nat → Option Nat) , 3001 - k < (nn : Int) → XT L cl ln Lb7 clb7 lnb7 → WT (g0 G) sk Lb7 clb7 lnb7 ivb7 rvb7 → fT [1, 2, 5, 35, 15, 50, 51, 52, 53, 54, 55] L cl iv rv ivb7 rvb7 → (fl = 0 ∨ fl = 1) → (0 ≤ k ∧ k ≤ 3000) → (ivb7 a0 11 = iv a0 11) → (ivb7 a0 12 = iv a0 12) → (ivb7 a0 13 = iv a0 13) → (ivb7 a0 14 = iv a0 14) → (ivb7 a0 15 = iv a0 15) → (ivb7 a0 16 = iv a0 16) → (rvb7 a0 9 = rv a0 9) → (rvb7 a0 10 = rv a0 10) → cw p l e 8 ((PHM) + 0 - ((Phi (g0 G) sk) ln rv)) s m args below meth c G A 6 (MQ below (Qu G A (Qp G (Phi (g0 G) sk) ((Phi (g0 G) sk) ln rv) 0 (fun v L2 cl2 ln2 iv2 rv2 => ∃ f : Int, v = some (.int (iI f)) ∧ XT L cl ln L2 cl2 ln2 ∧ fT [1, 2, 5, 35, 15, 50, 51, 52, 53, 54, 55] L cl iv rv iv2 rv2 ∧ WT (g0 G) sk L2 cl2 ln2 iv2 rv2 ∧ (-2147483648 ≤ f ∧ f ≤ 2147483647) ∧ (True) ∧ iv2 a0 11 = iv a0 11 ∧ iv2 a0 12 = iv a0 12 ∧ iv2 a0 13 = iv a0 13 ∧ iv2 a0 14 = iv a0 14 ∧ iv2 a0 15 = iv a0 15 ∧ iv2 a0 16 = iv a0 16 ∧ iv2 (sk 2) 2 = 0 ∧ rv2 a0 9 = rv a0 9 ∧ rv2 a0 10 = rv a0 10))) args s (((PHM) + 0 - ((Phi (g0 G) sk) ln rv)) / 16) ((PHM) + 0 - ((Phi (g0 G) sk) ln rv)) A) (Phi (g0 G) sk) ((Phi (g0 G) sk) ln rv) Lb7 clb7 lnb7 ivb7 rvb7 0 49 [(2, .int (iI fl)), (3, .int (iI k)), (0, .ref a0), (1, .int (iI i))] [] := by
        intro nn
        induction nn with
        | zero =>
          intro  fl k Lb7 clb7 lnb7 ivb7 rvb7 hm Xb7 Wb7 Fb7  hfl hk hkp11 hkp12 hkp13 hkp14 hkp15 hkp16 hkr9 hkr10
          have skb7 := Xb7.skl hS
          exact absurd hm (by omega)
        | succ nn ih7 =>
          intro  fl k Lb7 clb7 lnb7 ivb7 rvb7 hm Xb7 Wb7 Fb7  hfl hk hkp11 hkp12 hkp13 hkp14 hkp15 hkp16 hkr9 hkr10
          refine hv2 (Xb7.skl hS) (MRK.call hmr hW hS Xb7 Fb7 rfl rfl) (fun skb7 mrb7 => ?_)
          refine c_iload_n (j := 0) C dX11_head_49 rfl ?_
          refine c_if_eq (tgt := 86) C ⟨by omega, by omega⟩ dX11_head_50 (by decide) (fun c23 => ?_) (fun c23 => ?_)
          · refine c_aload_n (j := 2) (x := a0) C dX11_head_86 rfl ?_
            have ty103 := Xb7.ty t_a0
            obtain ⟨rb43, rq43, trb43⟩ := Wb7.ref ty103 0 rfl rfl rfl
            have erb43 := Wb7.sk trb43 (by decide) rfl
            subst erb43
            refine c_getr (k := 0) C ck_12 dX11_head_87 w2_44 (by decide) ty103 rfl rfl (by decide) rfl rq43 ?_
            refine c_st (st2 := [.ref (sk 2)]) rfl ?_
            refine hv2 (Xb7.ty tsk2) (Phi.le Wb7 skb7) (fun ty104 pl19 => ?_)
            refine d_callV (As := []) (rest := []) C hM (C_clear_2 (a0 := (sk 2)) Wb7 skb7 ty104  ) dX11_head_90 kV_X11_164 rfl ty104 rfl rfl (by decide) ck_2 rfl (Nat.le_of_ble_eq_true rfl) ⟨(Nat.le_of_ble_eq_true rfl), (Nat.le_of_ble_eq_true rfl)⟩ hph pl19 (show 0 + 0 = 0 from rfl) (by decide) (fun rh53 Lh53 clh53 lnh53 ivh53 rvh53 h53 => ?_)
            obtain ⟨rfl, rfl, rfl, rfl, rfl, fl53, W53, exf53⟩ := h53
            refine hv2 (Fb7.call Xb7 fl53 rfl) (MRK.call mrb7 Wb7 skb7 XT.refl fl53 rfl rfl) (fun F42 mr42 => ?_)
            refine c_st (st2 := []) rfl ?_
            refine hv2 (show 0 ≤ ivh53 (sk 2) 2 ∧ ivh53 (sk 2) 2 ≤ 3000 from W53.int ty104 2) (show ivh53 (sk 2) 2 = 0 from exf53) (fun ri396 gf53 => ?_)
            refine c_iload_n (j := 0) C dX11_head_93 rfl ?_
            refine c_if_ne (tgt := 104) C ⟨by omega, by omega⟩ dX11_head_94 (by decide) (fun c24 => ?_) (fun c24 => ?_)
            · refine c_aload_n (j := 2) (x := a0) C dX11_head_104 rfl ?_
              obtain ⟨rb44, rq44, trb44⟩ := W53.ref ty103 4 rfl rfl rfl
              have erb44 := W53.sk trb44 (by decide) rfl
              subst erb44
              refine c_getr (k := 4) C ck_12 dX11_head_105 w2_48 (by decide) ty103 rfl rfl (by decide) rfl rq44 ?_
              refine c_st (st2 := [.ref (sk 13)]) rfl ?_
              refine c_iload_n (j := 3) C dX11_head_108 rfl ?_
              have ty105 := Xb7.ty tsk13
              refine d_callV (As := [.int (iI i)]) (rest := []) C hM (C_whole (a0 := (sk 13)) (i := i) W53 skb7 ty105 (by omega) mr42) dX11_head_109 kV_X11_231 rfl ty105 rfl rfl (by decide) ck_11 rfl (Nat.le_of_ble_eq_true rfl) ⟨(Nat.le_of_ble_eq_true rfl), (Nat.le_of_ble_eq_true rfl)⟩ hph pl19 (show 0 + 0 = 0 from rfl) (by decide) (fun rh54 Lh54 clh54 lnh54 ivh54 rvh54 h54 => ?_)
              obtain ⟨f54, rfl, rfl, rfl, rfl, rfl, rfl, rgf54, exf54⟩ := h54
              refine c_st (st2 := [(va_rf f54)]) rfl ?_
              refine c_astorer_n (r := f54) (lv2 := [(3, (va_rf f54)), (2, .int (iI fl)), (0, .ref a0), (1, .int (iI i))]) C dX11_head_112 (by decide) rfl ?_
              refine c_aloadr_n (j := 0) (r := f54) C dX11_head_113 rfl ?_
              refine c_ifnonnull (r := f54) (tgt := 123) C dX11_head_114 (by decide) (fun ob5 oq5 => ?_) (fun oq5 => ?_)
              · subst oq5
                have tob5 := rgf54 ob5 rfl
                refine c_lv (lv2 := [(3, .ref ob5), (2, .int (iI fl)), (0, .ref a0), (1, .int (iI i))]) [0, 1, 2, 3] rfl ?_
                refine c_st (st2 := []) rfl ?_
                refine c_aload_n (j := 2) (x := a0) C dX11_head_123 rfl ?_
                obtain ⟨rb45, rq45, trb45⟩ := W53.ref ty103 6 rfl rfl rfl
                have erb45 := W53.sk trb45 (by decide) rfl
                subst erb45
                refine c_getr (k := 6) C ck_12 dX11_head_124 w2_50 (by decide) ty103 rfl rfl (by decide) rfl rq45 ?_
                refine c_st (st2 := [.ref (sk 15)]) rfl ?_
                refine c_aload_n (j := 0) (x := ob5) C dX11_head_127 rfl ?_
                have ty106 := Xb7.ty tsk15
                refine hv2 (show 0 ≤ ivh53 (sk 15) 4 ∧ ivh53 (sk 15) 4 ≤ 500 from W53.int ty106 4) (show ivh53 (sk 15) 4 = ivb7 (sk 15) 4 from fl53.i ty106 rfl 4) (fun ri397 ie620 => ?_)
                refine d_callV (As := [.ref ob5]) (rest := []) C hM (C_setBy (a0 := (sk 15)) (a1 := ob5) W53 skb7 ty106 tob5  ) dX11_head_128 kV_X11_253 rfl ty106 rfl rfl (by decide) ck_7 rfl (Nat.le_of_ble_eq_true rfl) ⟨(Nat.le_of_ble_eq_true rfl), (Nat.le_of_ble_eq_true rfl)⟩ hph pl19 (show 0 + 0 = 0 from rfl) (by decide) (fun rh55 Lh55 clh55 lnh55 ivh55 rvh55 h55 => ?_)
                obtain ⟨f55, rfl, rfl, rfl, rfl, rfl, fl55, W55, rgf55, exf55⟩ := h55
                refine hv2 (F42.call Xb7 fl55 rfl) (MRK.call mr42 W53 skb7 XT.refl fl55 rfl rfl) (fun F43 mr43 => ?_)
                refine c_st (st2 := [.int (iI f55)]) rfl ?_
                refine hv3 (show 0 ≤ ivh55 (sk 15) 4 ∧ ivh55 (sk 15) 4 ≤ 500 from W55.int ty106 4) (show 0 ≤ ivh55 (sk 15) 7 ∧ ivh55 (sk 15) 7 ≤ 100000 from W55.int ty106 7) (show (f55 = 0 ∨ f55 = 6 ∨ f55 = 7) ∧ ivh55 (sk 15) 4 = ivh53 (sk 15) 4 ∧ (f55 = 0 → ivh55 (sk 15) 7 ≤ 200) from exf55) (fun ri398 ri399 gf55 => ?_)
                refine c_istore (lv2 := [(4, .int (iI f55)), (3, .ref ob5), (2, .int (iI fl)), (0, .ref a0), (1, .int (iI i))]) C dX11_head_131 (by decide) rfl ?_
                refine c_iload (j := 0) C dX11_head_133 rfl ?_
                refine c_if_eq (tgt := 152) C ⟨by omega, by omega⟩ dX11_head_135 (by decide) (fun c25 => ?_) (fun c25 => ?_)
                · refine c_aload_n (j := 3) (x := a0) C dX11_head_152 rfl ?_
                  obtain ⟨rb46, rq46, trb46⟩ := W55.ref ty103 3 rfl rfl rfl
                  have erb46 := W55.sk trb46 (by decide) rfl
                  subst erb46
                  refine c_getr (k := 3) C ck_12 dX11_head_153 w2_47 (by decide) ty103 rfl rfl (by decide) rfl rq46 ?_
                  refine c_st (st2 := [.ref (sk 5)]) rfl ?_
                  have ty107 := Xb7.ty tsk5
                  refine d_callV (As := []) (rest := []) C hM (C_clear_5 (a0 := (sk 5)) W55 skb7 ty107  ) dX11_head_156 kV_X11_164 rfl ty107 rfl rfl (by decide) ck_2 rfl (Nat.le_of_ble_eq_true rfl) ⟨(Nat.le_of_ble_eq_true rfl), (Nat.le_of_ble_eq_true rfl)⟩ hph pl19 (show 0 + 0 = 0 from rfl) (by decide) (fun rh56 Lh56 clh56 lnh56 ivh56 rvh56 h56 => ?_)
                  obtain ⟨rfl, rfl, rfl, rfl, rfl, fl56, W56, exf56⟩ := h56
                  refine hv2 (F43.call Xb7 fl56 rfl) (MRK.call mr43 W55 skb7 XT.refl fl56 rfl rfl) (fun F44 mr44 => ?_)
                  refine c_st (st2 := []) rfl ?_
                  refine hv2 (show 0 ≤ ivh56 (sk 5) 2 ∧ ivh56 (sk 5) 2 ≤ 200 from W56.int ty107 2) (show ivh56 (sk 5) 2 = 0 from exf56) (fun ri400 gf56 => ?_)
                  refine c_iconst C dX11_head_159 ?_
                  refine c_istore (lv2 := [(5, .int (iI 0)), (4, .int (iI f55)), (3, .ref ob5), (2, .int (iI fl)), (0, .ref a0), (1, .int (iI i))]) C dX11_head_160 (by decide) rfl ?_
                  have Lp8 : ∀ (nn : Nat) (k2 : Int) (Lb8 : List Nat) (clb8 lnb8 : Nat → Nat) (ivb8 : Nat → Nat → Int) (rvb8 : Nat → Nat → Option Nat) , 101 - k2 < (nn : Int) → XT L cl ln Lb8 clb8 lnb8 → WT (g0 G) sk Lb8 clb8 lnb8 ivb8 rvb8 → fT [1, 2, 5, 35, 15, 50, 51, 52, 53, 54, 55] L cl iv rv ivb8 rvb8 → (0 ≤ k2 ∧ k2 ≤ 100) → (ivb8 (sk 15) 7 ≤ 200) → (ivb8 (sk 2) 2 = 0) → (ivb8 a0 11 = iv a0 11) → (ivb8 a0 12 = iv a0 12) → (ivb8 a0 13 = iv a0 13) → (ivb8 a0 14 = iv a0 14) → (ivb8 a0 15 = iv a0 15) → (ivb8 a0 16 = iv a0 16) → (rvb8 a0 9 = rv a0 9) → (rvb8 a0 10 = rv a0 10) → cw p l e 8 ((PHM) + 0 - ((Phi (g0 G) sk) ln rv)) s m args below meth c G A 6 (MQ below (Qu G A (Qp G (Phi (g0 G) sk) ((Phi (g0 G) sk) ln rv) 0 (fun v L2 cl2 ln2 iv2 rv2 => ∃ f : Int, v = some (.int (iI f)) ∧ XT L cl ln L2 cl2 ln2 ∧ fT [1, 2, 5, 35, 15, 50, 51, 52, 53, 54, 55] L cl iv rv iv2 rv2 ∧ WT (g0 G) sk L2 cl2 ln2 iv2 rv2 ∧ (-2147483648 ≤ f ∧ f ≤ 2147483647) ∧ (True) ∧ iv2 a0 11 = iv a0 11 ∧ iv2 a0 12 = iv a0 12 ∧ iv2 a0 13 = iv a0 13 ∧ iv2 a0 14 = iv a0 14 ∧ iv2 a0 15 = iv a0 15 ∧ iv2 a0 16 = iv a0 16 ∧ iv2 (sk 2) 2 = 0 ∧ rv2 a0 9 = rv a0 9 ∧ rv2 a0 10 = rv a0 10))) args s (((PHM) + 0 - ((Phi (g0 G) sk) ln rv)) / 16) ((PHM) + 0 - ((Phi (g0 G) sk) ln rv)) A) (Phi (g0 G) sk) ((Phi (g0 G) sk) ln rv) Lb8 clb8 lnb8 ivb8 rvb8 0 162 [(5, .int (iI k2)), (4, .int (iI f55)), (3, .ref ob5), (2, .int (iI fl)), (0, .ref a0), (1, .int (iI i))] [] := by
                    intro nn
                    induction nn with
                    | zero =>
                      intro  k2 Lb8 clb8 lnb8 ivb8 rvb8 hm Xb8 Wb8 Fb8  hk2 hco htz hkp11 hkp12 hkp13 hkp14 hkp15 hkp16 hkr9 hkr10
                      have skb8 := Xb8.skl hS
                      exact absurd hm (by omega)
                    | succ nn ih8 =>
                      intro  k2 Lb8 clb8 lnb8 ivb8 rvb8 hm Xb8 Wb8 Fb8  hk2 hco htz hkp11 hkp12 hkp13 hkp14 hkp15 hkp16 hkr9 hkr10
                      refine hv2 (Xb8.skl hS) (MRK.call hmr hW hS Xb8 Fb8 rfl rfl) (fun skb8 mrb8 => ?_)
                      refine c_iload (j := 0) C dX11_head_162 rfl ?_
                      refine c_aload_n (j := 4) (x := a0) C dX11_head_164 rfl ?_
                      have ty108 := Xb8.ty t_a0
                      obtain ⟨rb47, rq47, trb47⟩ := Wb8.ref ty108 6 rfl rfl rfl
                      have erb47 := Wb8.sk trb47 (by decide) rfl
                      subst erb47
                      refine c_getr (k := 6) C ck_12 dX11_head_165 w2_50 (by decide) ty108 rfl rfl (by decide) rfl rq47 ?_
                      refine c_st (st2 := [.ref (sk 15), .int (iI k2)]) rfl ?_
                      have ty109 := Xb8.ty tsk15
                      have ri401 : 0 ≤ ivb8 (sk 15) 7 ∧ ivb8 (sk 15) 7 ≤ 100000 := Wb8.int ty109 7
                      refine c_get (k := 7) C ck_7 dX11_head_168 w1_149 (by decide) ty109 rfl rfl (by decide) rfl ?_
                      refine c_icmp_ge (tgt := 206) C ⟨by omega, by omega⟩ ⟨by omega, by omega⟩ dX11_head_171 (by decide) (fun c26 => ?_) (fun c26 => ?_)
                      · refine c_aload_n (j := 4) (x := a0) C dX11_head_206 rfl ?_
                        refine c_aload_n (j := 4) (x := a0) C dX11_head_207 rfl ?_
                        obtain ⟨rb48, rq48, trb48⟩ := Wb8.ref ty108 3 rfl rfl rfl
                        have erb48 := Wb8.sk trb48 (by decide) rfl
                        subst erb48
                        refine c_getr (k := 3) C ck_12 dX11_head_208 w2_47 (by decide) ty108 rfl rfl (by decide) rfl rq48 ?_
                        refine c_st (st2 := [.ref (sk 5), .ref a0]) rfl ?_
                        have ty110 := Xb8.ty tsk5
                        have ri402 : 0 ≤ ivb8 (sk 5) 2 ∧ ivb8 (sk 5) 2 ≤ 200 := Wb8.int ty110 2
                        refine c_get (k := 2) C ck_2 dX11_head_211 w1_44 (by decide) ty110 rfl rfl (by decide) rfl ?_
                        have pl20 := Phi.le Wb8 skb8
                        refine d_callV (As := [.int (iI (ivb8 (sk 5) 2))]) (rest := []) C hM (C_done (a0 := a0) (x := ivb8 (sk 5) 2) Wb8 skb8 ty108 (by omega) ) dX11_head_214 kV_X11_109 rfl ty108 rfl rfl (by decide) ck_12 rfl (Nat.le_of_ble_eq_true rfl) ⟨(Nat.le_of_ble_eq_true rfl), (Nat.le_of_ble_eq_true rfl)⟩ hph pl20 (show 0 + 0 = 0 from rfl) (by decide) (fun rh57 Lh57 clh57 lnh57 ivh57 rvh57 h57 => ?_)
                        obtain ⟨f57, rfl, rfl, rfl, rfl, rfl, fl57, W57, rgf57, exf57, kp11f57, kp12f57, kp13f57, kp14f57, kp15f57, kp16f57⟩ := h57
                        refine hv8 (show 1 ≤ ivb8 a0 11 ∧ ivb8 a0 11 ≤ 100 from Wb8.int ty108 11) (show 1 ≤ ivb8 a0 12 ∧ ivb8 a0 12 ≤ 50 from Wb8.int ty108 12) (show (-2147483648) ≤ ivb8 a0 13 ∧ ivb8 a0 13 ≤ 2147483647 from Wb8.int ty108 13) (show (-2147483648) ≤ ivb8 a0 14 ∧ ivb8 a0 14 ≤ 2147483647 from Wb8.int ty108 14) (show (-2147483648) ≤ ivb8 a0 15 ∧ ivb8 a0 15 ≤ 2147483647 from Wb8.int ty108 15) (show (-2147483648) ≤ ivb8 a0 16 ∧ ivb8 a0 16 ≤ 2147483647 from Wb8.int ty108 16) (Fb8.call Xb8 fl57 rfl) (MRK.call mrb8 Wb8 skb8 XT.refl fl57 rfl rfl) (fun ri403 ri404 ri405 ri406 ri407 ri408 F45 mr45 => ?_)
                        refine c_st (st2 := [.int (iI f57)]) rfl ?_
                        refine hv14 (show ivh57 a0 11 = ivb8 a0 11 from kp11f57) (show ivh57 a0 12 = ivb8 a0 12 from kp12f57) (show ivh57 a0 13 = ivb8 a0 13 from kp13f57) (show ivh57 a0 14 = ivb8 a0 14 from kp14f57) (show ivh57 a0 15 = ivb8 a0 15 from kp15f57) (show ivh57 a0 16 = ivb8 a0 16 from kp16f57) (show f57 = (ivb8 (sk 5) 2) from exf57) (Xb8.ty tsk2) (show 1 ≤ ivh57 a0 11 ∧ ivh57 a0 11 ≤ 100 from W57.int ty108 11) (show 1 ≤ ivh57 a0 12 ∧ ivh57 a0 12 ≤ 50 from W57.int ty108 12) (show (-2147483648) ≤ ivh57 a0 13 ∧ ivh57 a0 13 ≤ 2147483647 from W57.int ty108 13) (show (-2147483648) ≤ ivh57 a0 14 ∧ ivh57 a0 14 ≤ 2147483647 from W57.int ty108 14) (show (-2147483648) ≤ ivh57 a0 15 ∧ ivh57 a0 15 ≤ 2147483647 from W57.int ty108 15) (show (-2147483648) ≤ ivh57 a0 16 ∧ ivh57 a0 16 ≤ 2147483647 from W57.int ty108 16) (fun gk11f57 gk12f57 gk13f57 gk14f57 gk15f57 gk16f57 gf57 ty111 ri410 ri411 ri412 ri413 ri414 ri415 => ?_)
                        refine hv2 (show 0 ≤ ivh57 (sk 2) 2 ∧ ivh57 (sk 2) 2 ≤ 3000 from W57.int ty111 2) (show ivh57 (sk 2) 2 = ivb8 (sk 2) 2 from fl57.i ty111 rfl 2) (fun ri409 ie633 => ?_)
                        exact c_iret C dX11_head_217 rfl (by decide) (rom0 hph pl20 (by decide)) ⟨f57, rfl, Xb8, F45, W57, ⟨by omega, by omega⟩, trivial, (by omega), (by omega), (by omega), (by omega), (by omega), (by omega), (by omega), (show rvb8 a0 9 = rv a0 9 from hkr9), (show rvb8 a0 10 = rv a0 10 from hkr10)⟩
                      · refine c_iload (j := 0) C dX11_head_174 rfl ?_
                        refine c_aload_n (j := 4) (x := a0) C dX11_head_176 rfl ?_
                        have ri416 : 1 ≤ ivb8 a0 11 ∧ ivb8 a0 11 ≤ 100 := Wb8.int ty108 11
                        refine c_get (k := 11) C ck_12 dX11_head_177 w2_55 (by decide) ty108 rfl rfl (by decide) rfl ?_
                        refine c_icmp_ge (tgt := 206) C ⟨by omega, by omega⟩ ⟨by omega, by omega⟩ dX11_head_180 (by decide) (fun c27 => ?_) (fun c27 => ?_)
                        · refine c_aload_n (j := 4) (x := a0) C dX11_head_206 rfl ?_
                          refine c_aload_n (j := 4) (x := a0) C dX11_head_207 rfl ?_
                          obtain ⟨rb49, rq49, trb49⟩ := Wb8.ref ty108 3 rfl rfl rfl
                          have erb49 := Wb8.sk trb49 (by decide) rfl
                          subst erb49
                          refine c_getr (k := 3) C ck_12 dX11_head_208 w2_47 (by decide) ty108 rfl rfl (by decide) rfl rq49 ?_
                          refine c_st (st2 := [.ref (sk 5), .ref a0]) rfl ?_
                          have ty112 := Xb8.ty tsk5
                          have ri417 : 0 ≤ ivb8 (sk 5) 2 ∧ ivb8 (sk 5) 2 ≤ 200 := Wb8.int ty112 2
                          refine c_get (k := 2) C ck_2 dX11_head_211 w1_44 (by decide) ty112 rfl rfl (by decide) rfl ?_
                          have pl21 := Phi.le Wb8 skb8
                          refine d_callV (As := [.int (iI (ivb8 (sk 5) 2))]) (rest := []) C hM (C_done (a0 := a0) (x := ivb8 (sk 5) 2) Wb8 skb8 ty108 (by omega) ) dX11_head_214 kV_X11_109 rfl ty108 rfl rfl (by decide) ck_12 rfl (Nat.le_of_ble_eq_true rfl) ⟨(Nat.le_of_ble_eq_true rfl), (Nat.le_of_ble_eq_true rfl)⟩ hph pl21 (show 0 + 0 = 0 from rfl) (by decide) (fun rh58 Lh58 clh58 lnh58 ivh58 rvh58 h58 => ?_)
                          obtain ⟨f58, rfl, rfl, rfl, rfl, rfl, fl58, W58, rgf58, exf58, kp11f58, kp12f58, kp13f58, kp14f58, kp15f58, kp16f58⟩ := h58
                          refine hv7 (show 1 ≤ ivb8 a0 12 ∧ ivb8 a0 12 ≤ 50 from Wb8.int ty108 12) (show (-2147483648) ≤ ivb8 a0 13 ∧ ivb8 a0 13 ≤ 2147483647 from Wb8.int ty108 13) (show (-2147483648) ≤ ivb8 a0 14 ∧ ivb8 a0 14 ≤ 2147483647 from Wb8.int ty108 14) (show (-2147483648) ≤ ivb8 a0 15 ∧ ivb8 a0 15 ≤ 2147483647 from Wb8.int ty108 15) (show (-2147483648) ≤ ivb8 a0 16 ∧ ivb8 a0 16 ≤ 2147483647 from Wb8.int ty108 16) (Fb8.call Xb8 fl58 rfl) (MRK.call mrb8 Wb8 skb8 XT.refl fl58 rfl rfl) (fun ri418 ri419 ri420 ri421 ri422 F46 mr46 => ?_)
                          refine c_st (st2 := [.int (iI f58)]) rfl ?_
                          refine hv14 (show ivh58 a0 11 = ivb8 a0 11 from kp11f58) (show ivh58 a0 12 = ivb8 a0 12 from kp12f58) (show ivh58 a0 13 = ivb8 a0 13 from kp13f58) (show ivh58 a0 14 = ivb8 a0 14 from kp14f58) (show ivh58 a0 15 = ivb8 a0 15 from kp15f58) (show ivh58 a0 16 = ivb8 a0 16 from kp16f58) (show f58 = (ivb8 (sk 5) 2) from exf58) (Xb8.ty tsk2) (show 1 ≤ ivh58 a0 11 ∧ ivh58 a0 11 ≤ 100 from W58.int ty108 11) (show 1 ≤ ivh58 a0 12 ∧ ivh58 a0 12 ≤ 50 from W58.int ty108 12) (show (-2147483648) ≤ ivh58 a0 13 ∧ ivh58 a0 13 ≤ 2147483647 from W58.int ty108 13) (show (-2147483648) ≤ ivh58 a0 14 ∧ ivh58 a0 14 ≤ 2147483647 from W58.int ty108 14) (show (-2147483648) ≤ ivh58 a0 15 ∧ ivh58 a0 15 ≤ 2147483647 from W58.int ty108 15) (show (-2147483648) ≤ ivh58 a0 16 ∧ ivh58 a0 16 ≤ 2147483647 from W58.int ty108 16) (fun gk11f58 gk12f58 gk13f58 gk14f58 gk15f58 gk16f58 gf58 ty113 ri424 ri425 ri426 ri427 ri428 ri429 => ?_)
                          refine hv2 (show 0 ≤ ivh58 (sk 2) 2 ∧ ivh58 (sk 2) 2 ≤ 3000 from W58.int ty113 2) (show ivh58 (sk 2) 2 = ivb8 (sk 2) 2 from fl58.i ty113 rfl 2) (fun ri423 ie648 => ?_)
                          exact c_iret C dX11_head_217 rfl (by decide) (rom0 hph pl21 (by decide)) ⟨f58, rfl, Xb8, F46, W58, ⟨by omega, by omega⟩, trivial, (by omega), (by omega), (by omega), (by omega), (by omega), (by omega), (by omega), (show rvb8 a0 9 = rv a0 9 from hkr9), (show rvb8 a0 10 = rv a0 10 from hkr10)⟩
                        · refine c_aload_n (j := 4) (x := a0) C dX11_head_183 rfl ?_
                          obtain ⟨rb50, rq50, trb50⟩ := Wb8.ref ty108 3 rfl rfl rfl
                          have erb50 := Wb8.sk trb50 (by decide) rfl
                          subst erb50
                          refine c_getr (k := 3) C ck_12 dX11_head_184 w2_47 (by decide) ty108 rfl rfl (by decide) rfl rq50 ?_
                          refine c_st (st2 := [.ref (sk 5)]) rfl ?_
                          refine c_aload_n (j := 4) (x := a0) C dX11_head_187 rfl ?_
                          refine c_getr (k := 6) C ck_12 dX11_head_188 w2_50 (by decide) ty108 rfl rfl (by decide) rfl rq47 ?_
                          refine c_st (st2 := [.ref (sk 15), .ref (sk 5)]) rfl ?_
                          obtain ⟨rb51, rq51, trb51⟩ := Wb8.ref ty109 6 rfl rfl rfl
                          have lnrb51 : 200 ≤ lnb8 rb51 ∧ lnb8 rb51 ≤ 200 := Wb8.len trb51 rfl
                          refine c_getr (k := 6) C ck_7 dX11_head_191 w1_146 (by decide) ty109 rfl rfl (by decide) rfl rq51 ?_
                          refine c_st (st2 := [.ref rb51, .ref (sk 5)]) rfl ?_
                          refine c_iload (j := 0) C dX11_head_194 rfl ?_
                          have ll5 : 200 ≤ lnb8 rb51 ∧ lnb8 rb51 ≤ 200 := Wb8.len trb51 rfl
                          refine c_iald C dX11_head_196 trb51 rfl (by omega) (by omega) (by omega) ?_
                          refine hv3 (show (-2147483648) ≤ ivb8 rb51 k2.toNat ∧ ivb8 rb51 k2.toNat ≤ 2147483647 from Wb8.int trb51 k2.toNat) (Xb8.ty tsk5) (Phi.le Wb8 skb8) (fun ri430 ty114 pl22 => ?_)
                          have ri431 : 0 ≤ ivb8 (sk 5) 2 ∧ ivb8 (sk 5) 2 ≤ 200 := Wb8.int ty114 2
                          refine d_callV (As := [.int (iI (ivb8 rb51 k2.toNat))]) (rest := []) C hM (C_add_5 (a0 := (sk 5)) (x := ivb8 rb51 k2.toNat) Wb8 skb8 ty114 (by omega) ) dX11_head_197 kV_X11_112 rfl ty114 rfl rfl (by decide) ck_2 rfl (Nat.le_of_ble_eq_true rfl) ⟨(Nat.le_of_ble_eq_true rfl), (Nat.le_of_ble_eq_true rfl)⟩ hph pl22 (show 0 + 0 = 0 from rfl) (by decide) (fun rh59 Lh59 clh59 lnh59 ivh59 rvh59 h59 => ?_)
                          obtain ⟨rfl, xl59, fl59, W59, exf59⟩ := h59
                          refine hv13 (Fb8.call Xb8 fl59 rfl) (MRK.call mrb8 Wb8 skb8 xl59 fl59 rfl rfl) (Xb8.ty tsk2) (Xb8.ty tsk3) (Xb8.ty tsk4) (Xb8.ty tsk13) (Xb8.ty tsk14) (Xb8.ty tsk16) (Xb8.ty tsk17) (Xb8.ty tsk22) (Xb8.ty tsk23) (Xb8.trans xl59) (xl59.skl skb8) (fun F47 mr47 ty115 ty116 ty117 ty118 ty119 ty120 ty121 ty122 ty123 X5 sk5 => ?_)
                          refine c_st (st2 := []) rfl ?_
                          refine hv2 (xl59.ty ty114) (show ((ivh59 (sk 5) 2 = ivb8 (sk 5) 2 ∧ ivb8 (sk 5) 2 = 200) ∨ (ivh59 (sk 5) 2 = ivb8 (sk 5) 2 + 1 ∧ ivb8 (sk 5) 2 < 200)) from exf59) (fun ty124 gf59 => ?_)
                          have ri432 : 0 ≤ ivh59 (sk 5) 2 ∧ ivh59 (sk 5) 2 ≤ 200 := W59.int ty124 2
                          refine c_iinc (z := k2) (j := 0) (lv2 := [(5, .int (iI (k2 + 1))), (4, .int (iI f55)), (3, .ref ob5), (2, .int (iI fl)), (0, .ref a0), (1, .int (iI i))]) C dX11_head_200 rfl (by decide) rfl ?_
                          refine c_goto (tgt := 162) C dX11_head_203 (by decide) ?_
                          refine hv11 (xl59.ty ty109) (show ivh59 (sk 15) 7 = ivb8 (sk 15) 7 from fl59.i ty109 rfl 7) (xl59.ty ty115) (show ivh59 (sk 2) 2 = ivb8 (sk 2) 2 from fl59.i ty115 rfl 2) (xl59.ty ty108) (show ivh59 a0 11 = ivb8 a0 11 from fl59.i ty108 rfl 11) (show ivh59 a0 12 = ivb8 a0 12 from fl59.i ty108 rfl 12) (show ivh59 a0 13 = ivb8 a0 13 from fl59.i ty108 rfl 13) (show ivh59 a0 14 = ivb8 a0 14 from fl59.i ty108 rfl 14) (show ivh59 a0 15 = ivb8 a0 15 from fl59.i ty108 rfl 15) (show ivh59 a0 16 = ivb8 a0 16 from fl59.i ty108 rfl 16) (fun ty125 ie659 ty126 ie660 ty127 ie662 ie663 ie665 ie667 ie669 ie671 => ?_)
                          refine hv8 (show 0 ≤ ivh59 (sk 15) 7 ∧ ivh59 (sk 15) 7 ≤ 100000 from W59.int ty125 7) (show 0 ≤ ivh59 (sk 2) 2 ∧ ivh59 (sk 2) 2 ≤ 3000 from W59.int ty126 2) (show 1 ≤ ivh59 a0 11 ∧ ivh59 a0 11 ≤ 100 from W59.int ty127 11) (show 1 ≤ ivh59 a0 12 ∧ ivh59 a0 12 ≤ 50 from W59.int ty127 12) (show (-2147483648) ≤ ivh59 a0 13 ∧ ivh59 a0 13 ≤ 2147483647 from W59.int ty127 13) (show (-2147483648) ≤ ivh59 a0 14 ∧ ivh59 a0 14 ≤ 2147483647 from W59.int ty127 14) (show (-2147483648) ≤ ivh59 a0 15 ∧ ivh59 a0 15 ≤ 2147483647 from W59.int ty127 15) (show (-2147483648) ≤ ivh59 a0 16 ∧ ivh59 a0 16 ≤ 2147483647 from W59.int ty127 16) (fun ri433 ri434 ri435 ri436 ri437 ri438 ri439 ri440 => ?_)
                          refine c_lv (lv2 := [(5, .int (iI (k2 + 1))), (4, .int (iI f55)), (3, .ref ob5), (2, .int (iI fl)), (0, .ref a0), (1, .int (iI i))]) [0, 1, 2, 3, 4, 5] rfl ?_
                          exact ih8  (k2 + 1) _ _ _ _ _ (by omega) X5 W59 F47  (by omega) (by show ivh59 (sk 15) 7 ≤ 200; omega) (by show ivh59 (sk 2) 2 = 0; omega) (by show ivh59 a0 11 = iv a0 11; omega) (by show ivh59 a0 12 = iv a0 12; omega) (by show ivh59 a0 13 = iv a0 13; omega) (by show ivh59 a0 14 = iv a0 14; omega) (by show ivh59 a0 15 = iv a0 15; omega) (by show ivh59 a0 16 = iv a0 16; omega) (Eq.trans (show rvh59 a0 9 = rvb8 a0 9 from (fl59.r ty108 rfl 9)) (show rvb8 a0 9 = rv a0 9 from hkr9)) (Eq.trans (show rvh59 a0 10 = rvb8 a0 10 from (fl59.r ty108 rfl 10)) (show rvb8 a0 10 = rv a0 10 from hkr10))
                  refine hv29 (show 0 ≤ ivh56 (sk 15) 7 ∧ ivh56 (sk 15) 7 ≤ 100000 from W56.int ty106 7) (show ivh56 (sk 15) 7 = ivh55 (sk 15) 7 from fl56.i ty106 rfl 7) (show 0 ≤ ivh56 (sk 2) 2 ∧ ivh56 (sk 2) 2 ≤ 3000 from W56.int ty104 2) (show ivh56 (sk 2) 2 = ivh55 (sk 2) 2 from fl56.i ty104 rfl 2) (show ivh55 (sk 2) 2 = ivh53 (sk 2) 2 from fl55.i ty104 rfl 2) (show 1 ≤ ivh56 a0 11 ∧ ivh56 a0 11 ≤ 100 from W56.int ty103 11) (show ivh56 a0 11 = ivh55 a0 11 from fl56.i ty103 rfl 11) (show ivh55 a0 11 = ivh53 a0 11 from fl55.i ty103 rfl 11) (show ivh53 a0 11 = ivb7 a0 11 from fl53.i ty103 rfl 11) (show 1 ≤ ivh56 a0 12 ∧ ivh56 a0 12 ≤ 50 from W56.int ty103 12) (show ivh56 a0 12 = ivh55 a0 12 from fl56.i ty103 rfl 12) (show ivh55 a0 12 = ivh53 a0 12 from fl55.i ty103 rfl 12) (show ivh53 a0 12 = ivb7 a0 12 from fl53.i ty103 rfl 12) (show (-2147483648) ≤ ivh56 a0 13 ∧ ivh56 a0 13 ≤ 2147483647 from W56.int ty103 13) (show ivh56 a0 13 = ivh55 a0 13 from fl56.i ty103 rfl 13) (show ivh55 a0 13 = ivh53 a0 13 from fl55.i ty103 rfl 13) (show ivh53 a0 13 = ivb7 a0 13 from fl53.i ty103 rfl 13) (show (-2147483648) ≤ ivh56 a0 14 ∧ ivh56 a0 14 ≤ 2147483647 from W56.int ty103 14) (show ivh56 a0 14 = ivh55 a0 14 from fl56.i ty103 rfl 14) (show ivh55 a0 14 = ivh53 a0 14 from fl55.i ty103 rfl 14) (show ivh53 a0 14 = ivb7 a0 14 from fl53.i ty103 rfl 14) (show (-2147483648) ≤ ivh56 a0 15 ∧ ivh56 a0 15 ≤ 2147483647 from W56.int ty103 15) (show ivh56 a0 15 = ivh55 a0 15 from fl56.i ty103 rfl 15) (show ivh55 a0 15 = ivh53 a0 15 from fl55.i ty103 rfl 15) (show ivh53 a0 15 = ivb7 a0 15 from fl53.i ty103 rfl 15) (show (-2147483648) ≤ ivh56 a0 16 ∧ ivh56 a0 16 ≤ 2147483647 from W56.int ty103 16) (show ivh56 a0 16 = ivh55 a0 16 from fl56.i ty103 rfl 16) (show ivh55 a0 16 = ivh53 a0 16 from fl55.i ty103 rfl 16) (show ivh53 a0 16 = ivb7 a0 16 from fl53.i ty103 rfl 16) (fun ri441 ie673 ri442 ie674 ie675 ri443 ie676 ie677 ie678 ri444 ie680 ie681 ie682 ri445 ie684 ie685 ie686 ri446 ie688 ie689 ie690 ri447 ie692 ie693 ie694 ri448 ie696 ie697 ie698 => ?_)
                  refine c_lv (lv2 := [(5, .int (iI 0)), (4, .int (iI f55)), (3, .ref ob5), (2, .int (iI fl)), (0, .ref a0), (1, .int (iI i))]) [0, 1, 2, 3, 4, 5] rfl ?_
                  exact Lp8 103 0 _ _ _ _ _ (by omega) Xb7 W56 F44  (by omega) (by show ivh56 (sk 15) 7 ≤ 200; omega) (by show ivh56 (sk 2) 2 = 0; omega) (by show ivh56 a0 11 = iv a0 11; omega) (by show ivh56 a0 12 = iv a0 12; omega) (by show ivh56 a0 13 = iv a0 13; omega) (by show ivh56 a0 14 = iv a0 14; omega) (by show ivh56 a0 15 = iv a0 15; omega) (by show ivh56 a0 16 = iv a0 16; omega) (show rvb7 a0 9 = rv a0 9 from hkr9) (show rvb7 a0 10 = rv a0 10 from hkr10)
                · refine c_aload_n (j := 3) (x := a0) C dX11_head_138 rfl ?_
                  refine c_iload (j := 0) C dX11_head_139 rfl ?_
                  refine c_aload_n (j := 3) (x := a0) C dX11_head_141 rfl ?_
                  refine c_getr (k := 6) C ck_12 dX11_head_142 w2_50 (by decide) ty103 rfl rfl (by decide) rfl rq45 ?_
                  refine c_st (st2 := [.ref (sk 15), .int (iI f55), .ref a0]) rfl ?_
                  refine d_callV (As := []) (rest := [.int (iI f55), .ref a0]) C hM (C_placeOfUnknown (a0 := (sk 15)) W55 skb7 ty106  ) dX11_head_145 kV_X11_263 rfl ty106 rfl rfl (by decide) ck_7 rfl (Nat.le_of_ble_eq_true rfl) ⟨(Nat.le_of_ble_eq_true rfl), (Nat.le_of_ble_eq_true rfl)⟩ hph pl19 (show 0 + 0 = 0 from rfl) (by decide) (fun rh60 Lh60 clh60 lnh60 ivh60 rvh60 h60 => ?_)
                  obtain ⟨f60, rfl, rfl, rfl, rfl, rfl, rfl, rgf60, exf60⟩ := h60
                  refine c_st (st2 := [.int (iI f60), .int (iI f55), .ref a0]) rfl ?_
                  refine d_callV (As := [.int (iI f55), .int (iI f60)]) (rest := []) C hM (C_refuseAt (a0 := a0) (x := f55) (y := f60) W55 skb7 ty103 (by omega) (by omega) ) dX11_head_148 kV_X11_266 rfl ty103 rfl rfl (by decide) ck_12 rfl (Nat.le_of_ble_eq_true rfl) ⟨(Nat.le_of_ble_eq_true rfl), (Nat.le_of_ble_eq_true rfl)⟩ hph pl19 (show 0 + 0 = 0 from rfl) (by decide) (fun rh61 Lh61 clh61 lnh61 ivh61 rvh61 h61 => ?_)
                  obtain ⟨f61, rfl, rfl, rfl, rfl, rfl, fl61, W61, rgf61, exf61, kp11f61, kp12f61, kp13f61, kp14f61, kp15f61, kp16f61⟩ := h61
                  refine hv20 (show 1 ≤ ivh55 a0 11 ∧ ivh55 a0 11 ≤ 100 from W55.int ty103 11) (show ivh55 a0 11 = ivh53 a0 11 from fl55.i ty103 rfl 11) (show ivh53 a0 11 = ivb7 a0 11 from fl53.i ty103 rfl 11) (show 1 ≤ ivh55 a0 12 ∧ ivh55 a0 12 ≤ 50 from W55.int ty103 12) (show ivh55 a0 12 = ivh53 a0 12 from fl55.i ty103 rfl 12) (show ivh53 a0 12 = ivb7 a0 12 from fl53.i ty103 rfl 12) (show (-2147483648) ≤ ivh55 a0 13 ∧ ivh55 a0 13 ≤ 2147483647 from W55.int ty103 13) (show ivh55 a0 13 = ivh53 a0 13 from fl55.i ty103 rfl 13) (show ivh53 a0 13 = ivb7 a0 13 from fl53.i ty103 rfl 13) (show (-2147483648) ≤ ivh55 a0 14 ∧ ivh55 a0 14 ≤ 2147483647 from W55.int ty103 14) (show ivh55 a0 14 = ivh53 a0 14 from fl55.i ty103 rfl 14) (show ivh53 a0 14 = ivb7 a0 14 from fl53.i ty103 rfl 14) (show (-2147483648) ≤ ivh55 a0 15 ∧ ivh55 a0 15 ≤ 2147483647 from W55.int ty103 15) (show ivh55 a0 15 = ivh53 a0 15 from fl55.i ty103 rfl 15) (show ivh53 a0 15 = ivb7 a0 15 from fl53.i ty103 rfl 15) (show (-2147483648) ≤ ivh55 a0 16 ∧ ivh55 a0 16 ≤ 2147483647 from W55.int ty103 16) (show ivh55 a0 16 = ivh53 a0 16 from fl55.i ty103 rfl 16) (show ivh53 a0 16 = ivb7 a0 16 from fl53.i ty103 rfl 16) (F43.call Xb7 fl61 rfl) (MRK.call mr43 W55 skb7 XT.refl fl61 rfl rfl) (fun ri449 ie700 ie701 ri450 ie703 ie704 ri451 ie706 ie707 ri452 ie709 ie710 ri453 ie712 ie713 ri454 ie715 ie716 F48 mr48 => ?_)
                  refine c_st (st2 := [.int (iI f61)]) rfl ?_
                  refine hv16 (show ivh61 a0 11 = ivh55 a0 11 from kp11f61) (show ivh61 a0 12 = ivh55 a0 12 from kp12f61) (show ivh61 a0 13 = ivh55 a0 13 from kp13f61) (show ivh61 a0 14 = ivh55 a0 14 from kp14f61) (show ivh61 a0 15 = ivh55 a0 15 from kp15f61) (show ivh61 a0 16 = ivh55 a0 16 from kp16f61) (show f61 = -1 from exf61) (show 0 ≤ ivh61 (sk 2) 2 ∧ ivh61 (sk 2) 2 ≤ 3000 from W61.int ty104 2) (show ivh61 (sk 2) 2 = ivh55 (sk 2) 2 from fl61.i ty104 rfl 2) (show ivh55 (sk 2) 2 = ivh53 (sk 2) 2 from fl55.i ty104 rfl 2) (show 1 ≤ ivh61 a0 11 ∧ ivh61 a0 11 ≤ 100 from W61.int ty103 11) (show 1 ≤ ivh61 a0 12 ∧ ivh61 a0 12 ≤ 50 from W61.int ty103 12) (show (-2147483648) ≤ ivh61 a0 13 ∧ ivh61 a0 13 ≤ 2147483647 from W61.int ty103 13) (show (-2147483648) ≤ ivh61 a0 14 ∧ ivh61 a0 14 ≤ 2147483647 from W61.int ty103 14) (show (-2147483648) ≤ ivh61 a0 15 ∧ ivh61 a0 15 ≤ 2147483647 from W61.int ty103 15) (show (-2147483648) ≤ ivh61 a0 16 ∧ ivh61 a0 16 ≤ 2147483647 from W61.int ty103 16) (fun gk11f61 gk12f61 gk13f61 gk14f61 gk15f61 gk16f61 gf61 ri455 ie718 ie719 ri456 ri457 ri458 ri459 ri460 ri461 => ?_)
                  exact c_iret C dX11_head_151 rfl (by decide) (rom0 hph pl19 (by decide)) ⟨f61, rfl, Xb7, F48, W61, ⟨by omega, by omega⟩, trivial, (by omega), (by omega), (by omega), (by omega), (by omega), (by omega), (by omega), (show rvb7 a0 9 = rv a0 9 from hkr9), (show rvb7 a0 10 = rv a0 10 from hkr10)⟩
              · subst oq5
                refine c_lv (lv2 := [(3, .null), (2, .int (iI fl)), (0, .ref a0), (1, .int (iI i))]) [0, 1, 2, 3] rfl ?_
                refine c_st (st2 := []) rfl ?_
                refine c_aload_n (j := 2) (x := a0) C dX11_head_117 rfl ?_
                refine c_iconst C dX11_head_118 ?_
                refine d_callV (As := [.int (iI 3)]) (rest := []) C hM (C_refuse (a0 := a0) (x := 3) W53 skb7 ty103 ⟨by decide, by decide⟩ ) dX11_head_119 kV_X11_102 rfl ty103 rfl rfl (by decide) ck_12 rfl (Nat.le_of_ble_eq_true rfl) ⟨(Nat.le_of_ble_eq_true rfl), (Nat.le_of_ble_eq_true rfl)⟩ hph pl19 (show 0 + 0 = 0 from rfl) (by decide) (fun rh62 Lh62 clh62 lnh62 ivh62 rvh62 h62 => ?_)
                obtain ⟨f62, rfl, rfl, rfl, rfl, rfl, fl62, W62, rgf62, exf62, kp11f62, kp12f62, kp13f62, kp14f62, kp15f62, kp16f62⟩ := h62
                refine hv14 (show 1 ≤ ivh53 a0 11 ∧ ivh53 a0 11 ≤ 100 from W53.int ty103 11) (show ivh53 a0 11 = ivb7 a0 11 from fl53.i ty103 rfl 11) (show 1 ≤ ivh53 a0 12 ∧ ivh53 a0 12 ≤ 50 from W53.int ty103 12) (show ivh53 a0 12 = ivb7 a0 12 from fl53.i ty103 rfl 12) (show (-2147483648) ≤ ivh53 a0 13 ∧ ivh53 a0 13 ≤ 2147483647 from W53.int ty103 13) (show ivh53 a0 13 = ivb7 a0 13 from fl53.i ty103 rfl 13) (show (-2147483648) ≤ ivh53 a0 14 ∧ ivh53 a0 14 ≤ 2147483647 from W53.int ty103 14) (show ivh53 a0 14 = ivb7 a0 14 from fl53.i ty103 rfl 14) (show (-2147483648) ≤ ivh53 a0 15 ∧ ivh53 a0 15 ≤ 2147483647 from W53.int ty103 15) (show ivh53 a0 15 = ivb7 a0 15 from fl53.i ty103 rfl 15) (show (-2147483648) ≤ ivh53 a0 16 ∧ ivh53 a0 16 ≤ 2147483647 from W53.int ty103 16) (show ivh53 a0 16 = ivb7 a0 16 from fl53.i ty103 rfl 16) (F42.call Xb7 fl62 rfl) (MRK.call mr42 W53 skb7 XT.refl fl62 rfl rfl) (fun ri462 ie726 ri463 ie728 ri464 ie730 ri465 ie732 ri466 ie734 ri467 ie736 F49 mr49 => ?_)
                refine c_st (st2 := [.int (iI f62)]) rfl ?_
                refine hv15 (show ivh62 a0 11 = ivh53 a0 11 from kp11f62) (show ivh62 a0 12 = ivh53 a0 12 from kp12f62) (show ivh62 a0 13 = ivh53 a0 13 from kp13f62) (show ivh62 a0 14 = ivh53 a0 14 from kp14f62) (show ivh62 a0 15 = ivh53 a0 15 from kp15f62) (show ivh62 a0 16 = ivh53 a0 16 from kp16f62) (show f62 = -1 from exf62) (show 0 ≤ ivh62 (sk 2) 2 ∧ ivh62 (sk 2) 2 ≤ 3000 from W62.int ty104 2) (show ivh62 (sk 2) 2 = ivh53 (sk 2) 2 from fl62.i ty104 rfl 2) (show 1 ≤ ivh62 a0 11 ∧ ivh62 a0 11 ≤ 100 from W62.int ty103 11) (show 1 ≤ ivh62 a0 12 ∧ ivh62 a0 12 ≤ 50 from W62.int ty103 12) (show (-2147483648) ≤ ivh62 a0 13 ∧ ivh62 a0 13 ≤ 2147483647 from W62.int ty103 13) (show (-2147483648) ≤ ivh62 a0 14 ∧ ivh62 a0 14 ≤ 2147483647 from W62.int ty103 14) (show (-2147483648) ≤ ivh62 a0 15 ∧ ivh62 a0 15 ≤ 2147483647 from W62.int ty103 15) (show (-2147483648) ≤ ivh62 a0 16 ∧ ivh62 a0 16 ≤ 2147483647 from W62.int ty103 16) (fun gk11f62 gk12f62 gk13f62 gk14f62 gk15f62 gk16f62 gf62 ri468 ie738 ri469 ri470 ri471 ri472 ri473 ri474 => ?_)
                exact c_iret C dX11_head_122 rfl (by decide) (rom0 hph pl19 (by decide)) ⟨f62, rfl, Xb7, F49, W62, ⟨by omega, by omega⟩, trivial, (by omega), (by omega), (by omega), (by omega), (by omega), (by omega), (by omega), (show rvb7 a0 9 = rv a0 9 from hkr9), (show rvb7 a0 10 = rv a0 10 from hkr10)⟩
            · refine c_aload_n (j := 2) (x := a0) C dX11_head_97 rfl ?_
              refine c_bipush (z := 6) C dX11_head_98 (by decide) ?_
              refine d_callV (As := [.int (iI 6)]) (rest := []) C hM (C_refuse (a0 := a0) (x := 6) W53 skb7 ty103 ⟨by decide, by decide⟩ ) dX11_head_100 kV_X11_102 rfl ty103 rfl rfl (by decide) ck_12 rfl (Nat.le_of_ble_eq_true rfl) ⟨(Nat.le_of_ble_eq_true rfl), (Nat.le_of_ble_eq_true rfl)⟩ hph pl19 (show 0 + 0 = 0 from rfl) (by decide) (fun rh63 Lh63 clh63 lnh63 ivh63 rvh63 h63 => ?_)
              obtain ⟨f63, rfl, rfl, rfl, rfl, rfl, fl63, W63, rgf63, exf63, kp11f63, kp12f63, kp13f63, kp14f63, kp15f63, kp16f63⟩ := h63
              refine hv14 (show 1 ≤ ivh53 a0 11 ∧ ivh53 a0 11 ≤ 100 from W53.int ty103 11) (show ivh53 a0 11 = ivb7 a0 11 from fl53.i ty103 rfl 11) (show 1 ≤ ivh53 a0 12 ∧ ivh53 a0 12 ≤ 50 from W53.int ty103 12) (show ivh53 a0 12 = ivb7 a0 12 from fl53.i ty103 rfl 12) (show (-2147483648) ≤ ivh53 a0 13 ∧ ivh53 a0 13 ≤ 2147483647 from W53.int ty103 13) (show ivh53 a0 13 = ivb7 a0 13 from fl53.i ty103 rfl 13) (show (-2147483648) ≤ ivh53 a0 14 ∧ ivh53 a0 14 ≤ 2147483647 from W53.int ty103 14) (show ivh53 a0 14 = ivb7 a0 14 from fl53.i ty103 rfl 14) (show (-2147483648) ≤ ivh53 a0 15 ∧ ivh53 a0 15 ≤ 2147483647 from W53.int ty103 15) (show ivh53 a0 15 = ivb7 a0 15 from fl53.i ty103 rfl 15) (show (-2147483648) ≤ ivh53 a0 16 ∧ ivh53 a0 16 ≤ 2147483647 from W53.int ty103 16) (show ivh53 a0 16 = ivb7 a0 16 from fl53.i ty103 rfl 16) (F42.call Xb7 fl63 rfl) (MRK.call mr42 W53 skb7 XT.refl fl63 rfl rfl) (fun ri475 ie745 ri476 ie747 ri477 ie749 ri478 ie751 ri479 ie753 ri480 ie755 F50 mr50 => ?_)
              refine c_st (st2 := [.int (iI f63)]) rfl ?_
              refine hv15 (show ivh63 a0 11 = ivh53 a0 11 from kp11f63) (show ivh63 a0 12 = ivh53 a0 12 from kp12f63) (show ivh63 a0 13 = ivh53 a0 13 from kp13f63) (show ivh63 a0 14 = ivh53 a0 14 from kp14f63) (show ivh63 a0 15 = ivh53 a0 15 from kp15f63) (show ivh63 a0 16 = ivh53 a0 16 from kp16f63) (show f63 = -1 from exf63) (show 0 ≤ ivh63 (sk 2) 2 ∧ ivh63 (sk 2) 2 ≤ 3000 from W63.int ty104 2) (show ivh63 (sk 2) 2 = ivh53 (sk 2) 2 from fl63.i ty104 rfl 2) (show 1 ≤ ivh63 a0 11 ∧ ivh63 a0 11 ≤ 100 from W63.int ty103 11) (show 1 ≤ ivh63 a0 12 ∧ ivh63 a0 12 ≤ 50 from W63.int ty103 12) (show (-2147483648) ≤ ivh63 a0 13 ∧ ivh63 a0 13 ≤ 2147483647 from W63.int ty103 13) (show (-2147483648) ≤ ivh63 a0 14 ∧ ivh63 a0 14 ≤ 2147483647 from W63.int ty103 14) (show (-2147483648) ≤ ivh63 a0 15 ∧ ivh63 a0 15 ≤ 2147483647 from W63.int ty103 15) (show (-2147483648) ≤ ivh63 a0 16 ∧ ivh63 a0 16 ≤ 2147483647 from W63.int ty103 16) (fun gk11f63 gk12f63 gk13f63 gk14f63 gk15f63 gk16f63 gf63 ri481 ie757 ri482 ri483 ri484 ri485 ri486 ri487 => ?_)
              exact c_iret C dX11_head_103 rfl (by decide) (rom0 hph pl19 (by decide)) ⟨f63, rfl, Xb7, F50, W63, ⟨by omega, by omega⟩, trivial, (by omega), (by omega), (by omega), (by omega), (by omega), (by omega), (by omega), (show rvb7 a0 9 = rv a0 9 from hkr9), (show rvb7 a0 10 = rv a0 10 from hkr10)⟩
          · refine c_iload_n (j := 1) C dX11_head_53 rfl ?_
            refine c_aload_n (j := 2) (x := a0) C dX11_head_54 rfl ?_
            have ty128 := Xb7.ty t_a0
            obtain ⟨rb52, rq52, trb52⟩ := Wb7.ref ty128 0 rfl rfl rfl
            have erb52 := Wb7.sk trb52 (by decide) rfl
            subst erb52
            refine c_getr (k := 0) C ck_12 dX11_head_55 w2_44 (by decide) ty128 rfl rfl (by decide) rfl rq52 ?_
            refine c_st (st2 := [.ref (sk 2), .int (iI k)]) rfl ?_
            have ty129 := Xb7.ty tsk2
            have ri488 : 0 ≤ ivb7 (sk 2) 2 ∧ ivb7 (sk 2) 2 ≤ 3000 := Wb7.int ty129 2
            refine c_get (k := 2) C ck_2 dX11_head_58 w1_44 (by decide) ty129 rfl rfl (by decide) rfl ?_
            refine c_icmp_ge (tgt := 86) C ⟨by omega, by omega⟩ ⟨by omega, by omega⟩ dX11_head_61 (by decide) (fun c28 => ?_) (fun c28 => ?_)
            · refine c_aload_n (j := 2) (x := a0) C dX11_head_86 rfl ?_
              refine c_getr (k := 0) C ck_12 dX11_head_87 w2_44 (by decide) ty128 rfl rfl (by decide) rfl rq52 ?_
              refine c_st (st2 := [.ref (sk 2)]) rfl ?_
              have pl23 := Phi.le Wb7 skb7
              refine d_callV (As := []) (rest := []) C hM (C_clear_2 (a0 := (sk 2)) Wb7 skb7 ty129  ) dX11_head_90 kV_X11_164 rfl ty129 rfl rfl (by decide) ck_2 rfl (Nat.le_of_ble_eq_true rfl) ⟨(Nat.le_of_ble_eq_true rfl), (Nat.le_of_ble_eq_true rfl)⟩ hph pl23 (show 0 + 0 = 0 from rfl) (by decide) (fun rh64 Lh64 clh64 lnh64 ivh64 rvh64 h64 => ?_)
              obtain ⟨rfl, rfl, rfl, rfl, rfl, fl64, W64, exf64⟩ := h64
              refine hv2 (Fb7.call Xb7 fl64 rfl) (MRK.call mrb7 Wb7 skb7 XT.refl fl64 rfl rfl) (fun F51 mr51 => ?_)
              refine c_st (st2 := []) rfl ?_
              refine hv2 (show 0 ≤ ivh64 (sk 2) 2 ∧ ivh64 (sk 2) 2 ≤ 3000 from W64.int ty129 2) (show ivh64 (sk 2) 2 = 0 from exf64) (fun ri489 gf64 => ?_)
              refine c_iload_n (j := 0) C dX11_head_93 rfl ?_
              refine c_if_ne (tgt := 104) C ⟨by omega, by omega⟩ dX11_head_94 (by decide) (fun c29 => ?_) (fun c29 => ?_)
              · refine c_aload_n (j := 2) (x := a0) C dX11_head_104 rfl ?_
                obtain ⟨rb53, rq53, trb53⟩ := W64.ref ty128 4 rfl rfl rfl
                have erb53 := W64.sk trb53 (by decide) rfl
                subst erb53
                refine c_getr (k := 4) C ck_12 dX11_head_105 w2_48 (by decide) ty128 rfl rfl (by decide) rfl rq53 ?_
                refine c_st (st2 := [.ref (sk 13)]) rfl ?_
                refine c_iload_n (j := 3) C dX11_head_108 rfl ?_
                have ty130 := Xb7.ty tsk13
                refine d_callV (As := [.int (iI i)]) (rest := []) C hM (C_whole (a0 := (sk 13)) (i := i) W64 skb7 ty130 (by omega) mr51) dX11_head_109 kV_X11_231 rfl ty130 rfl rfl (by decide) ck_11 rfl (Nat.le_of_ble_eq_true rfl) ⟨(Nat.le_of_ble_eq_true rfl), (Nat.le_of_ble_eq_true rfl)⟩ hph pl23 (show 0 + 0 = 0 from rfl) (by decide) (fun rh65 Lh65 clh65 lnh65 ivh65 rvh65 h65 => ?_)
                obtain ⟨f65, rfl, rfl, rfl, rfl, rfl, rfl, rgf65, exf65⟩ := h65
                refine c_st (st2 := [(va_rf f65)]) rfl ?_
                refine c_astorer_n (r := f65) (lv2 := [(3, (va_rf f65)), (2, .int (iI fl)), (0, .ref a0), (1, .int (iI i))]) C dX11_head_112 (by decide) rfl ?_
                refine c_aloadr_n (j := 0) (r := f65) C dX11_head_113 rfl ?_
                refine c_ifnonnull (r := f65) (tgt := 123) C dX11_head_114 (by decide) (fun ob6 oq6 => ?_) (fun oq6 => ?_)
                · subst oq6
                  have tob6 := rgf65 ob6 rfl
                  refine c_lv (lv2 := [(3, .ref ob6), (2, .int (iI fl)), (0, .ref a0), (1, .int (iI i))]) [0, 1, 2, 3] rfl ?_
                  refine c_st (st2 := []) rfl ?_
                  refine c_aload_n (j := 2) (x := a0) C dX11_head_123 rfl ?_
                  obtain ⟨rb54, rq54, trb54⟩ := W64.ref ty128 6 rfl rfl rfl
                  have erb54 := W64.sk trb54 (by decide) rfl
                  subst erb54
                  refine c_getr (k := 6) C ck_12 dX11_head_124 w2_50 (by decide) ty128 rfl rfl (by decide) rfl rq54 ?_
                  refine c_st (st2 := [.ref (sk 15)]) rfl ?_
                  refine c_aload_n (j := 0) (x := ob6) C dX11_head_127 rfl ?_
                  have ty131 := Xb7.ty tsk15
                  refine hv2 (show 0 ≤ ivh64 (sk 15) 4 ∧ ivh64 (sk 15) 4 ≤ 500 from W64.int ty131 4) (show ivh64 (sk 15) 4 = ivb7 (sk 15) 4 from fl64.i ty131 rfl 4) (fun ri490 ie766 => ?_)
                  refine d_callV (As := [.ref ob6]) (rest := []) C hM (C_setBy (a0 := (sk 15)) (a1 := ob6) W64 skb7 ty131 tob6  ) dX11_head_128 kV_X11_253 rfl ty131 rfl rfl (by decide) ck_7 rfl (Nat.le_of_ble_eq_true rfl) ⟨(Nat.le_of_ble_eq_true rfl), (Nat.le_of_ble_eq_true rfl)⟩ hph pl23 (show 0 + 0 = 0 from rfl) (by decide) (fun rh66 Lh66 clh66 lnh66 ivh66 rvh66 h66 => ?_)
                  obtain ⟨f66, rfl, rfl, rfl, rfl, rfl, fl66, W66, rgf66, exf66⟩ := h66
                  refine hv2 (F51.call Xb7 fl66 rfl) (MRK.call mr51 W64 skb7 XT.refl fl66 rfl rfl) (fun F52 mr52 => ?_)
                  refine c_st (st2 := [.int (iI f66)]) rfl ?_
                  refine hv3 (show 0 ≤ ivh66 (sk 15) 4 ∧ ivh66 (sk 15) 4 ≤ 500 from W66.int ty131 4) (show 0 ≤ ivh66 (sk 15) 7 ∧ ivh66 (sk 15) 7 ≤ 100000 from W66.int ty131 7) (show (f66 = 0 ∨ f66 = 6 ∨ f66 = 7) ∧ ivh66 (sk 15) 4 = ivh64 (sk 15) 4 ∧ (f66 = 0 → ivh66 (sk 15) 7 ≤ 200) from exf66) (fun ri491 ri492 gf66 => ?_)
                  refine c_istore (lv2 := [(4, .int (iI f66)), (3, .ref ob6), (2, .int (iI fl)), (0, .ref a0), (1, .int (iI i))]) C dX11_head_131 (by decide) rfl ?_
                  refine c_iload (j := 0) C dX11_head_133 rfl ?_
                  refine c_if_eq (tgt := 152) C ⟨by omega, by omega⟩ dX11_head_135 (by decide) (fun c30 => ?_) (fun c30 => ?_)
                  · refine c_aload_n (j := 3) (x := a0) C dX11_head_152 rfl ?_
                    obtain ⟨rb55, rq55, trb55⟩ := W66.ref ty128 3 rfl rfl rfl
                    have erb55 := W66.sk trb55 (by decide) rfl
                    subst erb55
                    refine c_getr (k := 3) C ck_12 dX11_head_153 w2_47 (by decide) ty128 rfl rfl (by decide) rfl rq55 ?_
                    refine c_st (st2 := [.ref (sk 5)]) rfl ?_
                    have ty132 := Xb7.ty tsk5
                    refine d_callV (As := []) (rest := []) C hM (C_clear_5 (a0 := (sk 5)) W66 skb7 ty132  ) dX11_head_156 kV_X11_164 rfl ty132 rfl rfl (by decide) ck_2 rfl (Nat.le_of_ble_eq_true rfl) ⟨(Nat.le_of_ble_eq_true rfl), (Nat.le_of_ble_eq_true rfl)⟩ hph pl23 (show 0 + 0 = 0 from rfl) (by decide) (fun rh67 Lh67 clh67 lnh67 ivh67 rvh67 h67 => ?_)
                    obtain ⟨rfl, rfl, rfl, rfl, rfl, fl67, W67, exf67⟩ := h67
                    refine hv2 (F52.call Xb7 fl67 rfl) (MRK.call mr52 W66 skb7 XT.refl fl67 rfl rfl) (fun F53 mr53 => ?_)
                    refine c_st (st2 := []) rfl ?_
                    refine hv2 (show 0 ≤ ivh67 (sk 5) 2 ∧ ivh67 (sk 5) 2 ≤ 200 from W67.int ty132 2) (show ivh67 (sk 5) 2 = 0 from exf67) (fun ri493 gf67 => ?_)
                    refine c_iconst C dX11_head_159 ?_
                    refine c_istore (lv2 := [(5, .int (iI 0)), (4, .int (iI f66)), (3, .ref ob6), (2, .int (iI fl)), (0, .ref a0), (1, .int (iI i))]) C dX11_head_160 (by decide) rfl ?_
                    have Lp9 : ∀ (nn : Nat) (k2 : Int) (Lb9 : List Nat) (clb9 lnb9 : Nat → Nat) (ivb9 : Nat → Nat → Int) (rvb9 : Nat → Nat → Option Nat) , 101 - k2 < (nn : Int) → XT L cl ln Lb9 clb9 lnb9 → WT (g0 G) sk Lb9 clb9 lnb9 ivb9 rvb9 → fT [1, 2, 5, 35, 15, 50, 51, 52, 53, 54, 55] L cl iv rv ivb9 rvb9 → (0 ≤ k2 ∧ k2 ≤ 100) → (ivb9 (sk 15) 7 ≤ 200) → (ivb9 (sk 2) 2 = 0) → (ivb9 a0 11 = iv a0 11) → (ivb9 a0 12 = iv a0 12) → (ivb9 a0 13 = iv a0 13) → (ivb9 a0 14 = iv a0 14) → (ivb9 a0 15 = iv a0 15) → (ivb9 a0 16 = iv a0 16) → (rvb9 a0 9 = rv a0 9) → (rvb9 a0 10 = rv a0 10) → cw p l e 8 ((PHM) + 0 - ((Phi (g0 G) sk) ln rv)) s m args below meth c G A 6 (MQ below (Qu G A (Qp G (Phi (g0 G) sk) ((Phi (g0 G) sk) ln rv) 0 (fun v L2 cl2 ln2 iv2 rv2 => ∃ f : Int, v = some (.int (iI f)) ∧ XT L cl ln L2 cl2 ln2 ∧ fT [1, 2, 5, 35, 15, 50, 51, 52, 53, 54, 55] L cl iv rv iv2 rv2 ∧ WT (g0 G) sk L2 cl2 ln2 iv2 rv2 ∧ (-2147483648 ≤ f ∧ f ≤ 2147483647) ∧ (True) ∧ iv2 a0 11 = iv a0 11 ∧ iv2 a0 12 = iv a0 12 ∧ iv2 a0 13 = iv a0 13 ∧ iv2 a0 14 = iv a0 14 ∧ iv2 a0 15 = iv a0 15 ∧ iv2 a0 16 = iv a0 16 ∧ iv2 (sk 2) 2 = 0 ∧ rv2 a0 9 = rv a0 9 ∧ rv2 a0 10 = rv a0 10))) args s (((PHM) + 0 - ((Phi (g0 G) sk) ln rv)) / 16) ((PHM) + 0 - ((Phi (g0 G) sk) ln rv)) A) (Phi (g0 G) sk) ((Phi (g0 G) sk) ln rv) Lb9 clb9 lnb9 ivb9 rvb9 0 162 [(5, .int (iI k2)), (4, .int (iI f66)), (3, .ref ob6), (2, .int (iI fl)), (0, .ref a0), (1, .int (iI i))] [] := by
                      intro nn
                      induction nn with
                      | zero =>
                        intro  k2 Lb9 clb9 lnb9 ivb9 rvb9 hm Xb9 Wb9 Fb9  hk2 hco htz hkp11 hkp12 hkp13 hkp14 hkp15 hkp16 hkr9 hkr10
                        have skb9 := Xb9.skl hS
                        exact absurd hm (by omega)
                      | succ nn ih9 =>
                        intro  k2 Lb9 clb9 lnb9 ivb9 rvb9 hm Xb9 Wb9 Fb9  hk2 hco htz hkp11 hkp12 hkp13 hkp14 hkp15 hkp16 hkr9 hkr10
                        refine hv2 (Xb9.skl hS) (MRK.call hmr hW hS Xb9 Fb9 rfl rfl) (fun skb9 mrb9 => ?_)
                        refine c_iload (j := 0) C dX11_head_162 rfl ?_
                        refine c_aload_n (j := 4) (x := a0) C dX11_head_164 rfl ?_
                        have ty133 := Xb9.ty t_a0
                        obtain ⟨rb56, rq56, trb56⟩ := Wb9.ref ty133 6 rfl rfl rfl
                        have erb56 := Wb9.sk trb56 (by decide) rfl
                        subst erb56
                        refine c_getr (k := 6) C ck_12 dX11_head_165 w2_50 (by decide) ty133 rfl rfl (by decide) rfl rq56 ?_
                        refine c_st (st2 := [.ref (sk 15), .int (iI k2)]) rfl ?_
                        have ty134 := Xb9.ty tsk15
                        have ri494 : 0 ≤ ivb9 (sk 15) 7 ∧ ivb9 (sk 15) 7 ≤ 100000 := Wb9.int ty134 7
                        refine c_get (k := 7) C ck_7 dX11_head_168 w1_149 (by decide) ty134 rfl rfl (by decide) rfl ?_
                        refine c_icmp_ge (tgt := 206) C ⟨by omega, by omega⟩ ⟨by omega, by omega⟩ dX11_head_171 (by decide) (fun c31 => ?_) (fun c31 => ?_)
                        · refine c_aload_n (j := 4) (x := a0) C dX11_head_206 rfl ?_
                          refine c_aload_n (j := 4) (x := a0) C dX11_head_207 rfl ?_
                          obtain ⟨rb57, rq57, trb57⟩ := Wb9.ref ty133 3 rfl rfl rfl
                          have erb57 := Wb9.sk trb57 (by decide) rfl
                          subst erb57
                          refine c_getr (k := 3) C ck_12 dX11_head_208 w2_47 (by decide) ty133 rfl rfl (by decide) rfl rq57 ?_
                          refine c_st (st2 := [.ref (sk 5), .ref a0]) rfl ?_
                          have ty135 := Xb9.ty tsk5
                          have ri495 : 0 ≤ ivb9 (sk 5) 2 ∧ ivb9 (sk 5) 2 ≤ 200 := Wb9.int ty135 2
                          refine c_get (k := 2) C ck_2 dX11_head_211 w1_44 (by decide) ty135 rfl rfl (by decide) rfl ?_
                          have pl24 := Phi.le Wb9 skb9
                          refine d_callV (As := [.int (iI (ivb9 (sk 5) 2))]) (rest := []) C hM (C_done (a0 := a0) (x := ivb9 (sk 5) 2) Wb9 skb9 ty133 (by omega) ) dX11_head_214 kV_X11_109 rfl ty133 rfl rfl (by decide) ck_12 rfl (Nat.le_of_ble_eq_true rfl) ⟨(Nat.le_of_ble_eq_true rfl), (Nat.le_of_ble_eq_true rfl)⟩ hph pl24 (show 0 + 0 = 0 from rfl) (by decide) (fun rh68 Lh68 clh68 lnh68 ivh68 rvh68 h68 => ?_)
                          obtain ⟨f68, rfl, rfl, rfl, rfl, rfl, fl68, W68, rgf68, exf68, kp11f68, kp12f68, kp13f68, kp14f68, kp15f68, kp16f68⟩ := h68
                          refine hv8 (show 1 ≤ ivb9 a0 11 ∧ ivb9 a0 11 ≤ 100 from Wb9.int ty133 11) (show 1 ≤ ivb9 a0 12 ∧ ivb9 a0 12 ≤ 50 from Wb9.int ty133 12) (show (-2147483648) ≤ ivb9 a0 13 ∧ ivb9 a0 13 ≤ 2147483647 from Wb9.int ty133 13) (show (-2147483648) ≤ ivb9 a0 14 ∧ ivb9 a0 14 ≤ 2147483647 from Wb9.int ty133 14) (show (-2147483648) ≤ ivb9 a0 15 ∧ ivb9 a0 15 ≤ 2147483647 from Wb9.int ty133 15) (show (-2147483648) ≤ ivb9 a0 16 ∧ ivb9 a0 16 ≤ 2147483647 from Wb9.int ty133 16) (Fb9.call Xb9 fl68 rfl) (MRK.call mrb9 Wb9 skb9 XT.refl fl68 rfl rfl) (fun ri496 ri497 ri498 ri499 ri500 ri501 F54 mr54 => ?_)
                          refine c_st (st2 := [.int (iI f68)]) rfl ?_
                          refine hv14 (show ivh68 a0 11 = ivb9 a0 11 from kp11f68) (show ivh68 a0 12 = ivb9 a0 12 from kp12f68) (show ivh68 a0 13 = ivb9 a0 13 from kp13f68) (show ivh68 a0 14 = ivb9 a0 14 from kp14f68) (show ivh68 a0 15 = ivb9 a0 15 from kp15f68) (show ivh68 a0 16 = ivb9 a0 16 from kp16f68) (show f68 = (ivb9 (sk 5) 2) from exf68) (Xb9.ty tsk2) (show 1 ≤ ivh68 a0 11 ∧ ivh68 a0 11 ≤ 100 from W68.int ty133 11) (show 1 ≤ ivh68 a0 12 ∧ ivh68 a0 12 ≤ 50 from W68.int ty133 12) (show (-2147483648) ≤ ivh68 a0 13 ∧ ivh68 a0 13 ≤ 2147483647 from W68.int ty133 13) (show (-2147483648) ≤ ivh68 a0 14 ∧ ivh68 a0 14 ≤ 2147483647 from W68.int ty133 14) (show (-2147483648) ≤ ivh68 a0 15 ∧ ivh68 a0 15 ≤ 2147483647 from W68.int ty133 15) (show (-2147483648) ≤ ivh68 a0 16 ∧ ivh68 a0 16 ≤ 2147483647 from W68.int ty133 16) (fun gk11f68 gk12f68 gk13f68 gk14f68 gk15f68 gk16f68 gf68 ty136 ri503 ri504 ri505 ri506 ri507 ri508 => ?_)
                          refine hv2 (show 0 ≤ ivh68 (sk 2) 2 ∧ ivh68 (sk 2) 2 ≤ 3000 from W68.int ty136 2) (show ivh68 (sk 2) 2 = ivb9 (sk 2) 2 from fl68.i ty136 rfl 2) (fun ri502 ie779 => ?_)
                          exact c_iret C dX11_head_217 rfl (by decide) (rom0 hph pl24 (by decide)) ⟨f68, rfl, Xb9, F54, W68, ⟨by omega, by omega⟩, trivial, (by omega), (by omega), (by omega), (by omega), (by omega), (by omega), (by omega), (show rvb9 a0 9 = rv a0 9 from hkr9), (show rvb9 a0 10 = rv a0 10 from hkr10)⟩
                        · refine c_iload (j := 0) C dX11_head_174 rfl ?_
                          refine c_aload_n (j := 4) (x := a0) C dX11_head_176 rfl ?_
                          have ri509 : 1 ≤ ivb9 a0 11 ∧ ivb9 a0 11 ≤ 100 := Wb9.int ty133 11
                          refine c_get (k := 11) C ck_12 dX11_head_177 w2_55 (by decide) ty133 rfl rfl (by decide) rfl ?_
                          refine c_icmp_ge (tgt := 206) C ⟨by omega, by omega⟩ ⟨by omega, by omega⟩ dX11_head_180 (by decide) (fun c32 => ?_) (fun c32 => ?_)
                          · refine c_aload_n (j := 4) (x := a0) C dX11_head_206 rfl ?_
                            refine c_aload_n (j := 4) (x := a0) C dX11_head_207 rfl ?_
                            obtain ⟨rb58, rq58, trb58⟩ := Wb9.ref ty133 3 rfl rfl rfl
                            have erb58 := Wb9.sk trb58 (by decide) rfl
                            subst erb58
                            refine c_getr (k := 3) C ck_12 dX11_head_208 w2_47 (by decide) ty133 rfl rfl (by decide) rfl rq58 ?_
                            refine c_st (st2 := [.ref (sk 5), .ref a0]) rfl ?_
                            have ty137 := Xb9.ty tsk5
                            have ri510 : 0 ≤ ivb9 (sk 5) 2 ∧ ivb9 (sk 5) 2 ≤ 200 := Wb9.int ty137 2
                            refine c_get (k := 2) C ck_2 dX11_head_211 w1_44 (by decide) ty137 rfl rfl (by decide) rfl ?_
                            have pl25 := Phi.le Wb9 skb9
                            refine d_callV (As := [.int (iI (ivb9 (sk 5) 2))]) (rest := []) C hM (C_done (a0 := a0) (x := ivb9 (sk 5) 2) Wb9 skb9 ty133 (by omega) ) dX11_head_214 kV_X11_109 rfl ty133 rfl rfl (by decide) ck_12 rfl (Nat.le_of_ble_eq_true rfl) ⟨(Nat.le_of_ble_eq_true rfl), (Nat.le_of_ble_eq_true rfl)⟩ hph pl25 (show 0 + 0 = 0 from rfl) (by decide) (fun rh69 Lh69 clh69 lnh69 ivh69 rvh69 h69 => ?_)
                            obtain ⟨f69, rfl, rfl, rfl, rfl, rfl, fl69, W69, rgf69, exf69, kp11f69, kp12f69, kp13f69, kp14f69, kp15f69, kp16f69⟩ := h69
                            refine hv7 (show 1 ≤ ivb9 a0 12 ∧ ivb9 a0 12 ≤ 50 from Wb9.int ty133 12) (show (-2147483648) ≤ ivb9 a0 13 ∧ ivb9 a0 13 ≤ 2147483647 from Wb9.int ty133 13) (show (-2147483648) ≤ ivb9 a0 14 ∧ ivb9 a0 14 ≤ 2147483647 from Wb9.int ty133 14) (show (-2147483648) ≤ ivb9 a0 15 ∧ ivb9 a0 15 ≤ 2147483647 from Wb9.int ty133 15) (show (-2147483648) ≤ ivb9 a0 16 ∧ ivb9 a0 16 ≤ 2147483647 from Wb9.int ty133 16) (Fb9.call Xb9 fl69 rfl) (MRK.call mrb9 Wb9 skb9 XT.refl fl69 rfl rfl) (fun ri511 ri512 ri513 ri514 ri515 F55 mr55 => ?_)
                            refine c_st (st2 := [.int (iI f69)]) rfl ?_
                            refine hv14 (show ivh69 a0 11 = ivb9 a0 11 from kp11f69) (show ivh69 a0 12 = ivb9 a0 12 from kp12f69) (show ivh69 a0 13 = ivb9 a0 13 from kp13f69) (show ivh69 a0 14 = ivb9 a0 14 from kp14f69) (show ivh69 a0 15 = ivb9 a0 15 from kp15f69) (show ivh69 a0 16 = ivb9 a0 16 from kp16f69) (show f69 = (ivb9 (sk 5) 2) from exf69) (Xb9.ty tsk2) (show 1 ≤ ivh69 a0 11 ∧ ivh69 a0 11 ≤ 100 from W69.int ty133 11) (show 1 ≤ ivh69 a0 12 ∧ ivh69 a0 12 ≤ 50 from W69.int ty133 12) (show (-2147483648) ≤ ivh69 a0 13 ∧ ivh69 a0 13 ≤ 2147483647 from W69.int ty133 13) (show (-2147483648) ≤ ivh69 a0 14 ∧ ivh69 a0 14 ≤ 2147483647 from W69.int ty133 14) (show (-2147483648) ≤ ivh69 a0 15 ∧ ivh69 a0 15 ≤ 2147483647 from W69.int ty133 15) (show (-2147483648) ≤ ivh69 a0 16 ∧ ivh69 a0 16 ≤ 2147483647 from W69.int ty133 16) (fun gk11f69 gk12f69 gk13f69 gk14f69 gk15f69 gk16f69 gf69 ty138 ri517 ri518 ri519 ri520 ri521 ri522 => ?_)
                            refine hv2 (show 0 ≤ ivh69 (sk 2) 2 ∧ ivh69 (sk 2) 2 ≤ 3000 from W69.int ty138 2) (show ivh69 (sk 2) 2 = ivb9 (sk 2) 2 from fl69.i ty138 rfl 2) (fun ri516 ie794 => ?_)
                            exact c_iret C dX11_head_217 rfl (by decide) (rom0 hph pl25 (by decide)) ⟨f69, rfl, Xb9, F55, W69, ⟨by omega, by omega⟩, trivial, (by omega), (by omega), (by omega), (by omega), (by omega), (by omega), (by omega), (show rvb9 a0 9 = rv a0 9 from hkr9), (show rvb9 a0 10 = rv a0 10 from hkr10)⟩
                          · refine c_aload_n (j := 4) (x := a0) C dX11_head_183 rfl ?_
                            obtain ⟨rb59, rq59, trb59⟩ := Wb9.ref ty133 3 rfl rfl rfl
                            have erb59 := Wb9.sk trb59 (by decide) rfl
                            subst erb59
                            refine c_getr (k := 3) C ck_12 dX11_head_184 w2_47 (by decide) ty133 rfl rfl (by decide) rfl rq59 ?_
                            refine c_st (st2 := [.ref (sk 5)]) rfl ?_
                            refine c_aload_n (j := 4) (x := a0) C dX11_head_187 rfl ?_
                            refine c_getr (k := 6) C ck_12 dX11_head_188 w2_50 (by decide) ty133 rfl rfl (by decide) rfl rq56 ?_
                            refine c_st (st2 := [.ref (sk 15), .ref (sk 5)]) rfl ?_
                            obtain ⟨rb60, rq60, trb60⟩ := Wb9.ref ty134 6 rfl rfl rfl
                            have lnrb60 : 200 ≤ lnb9 rb60 ∧ lnb9 rb60 ≤ 200 := Wb9.len trb60 rfl
                            refine c_getr (k := 6) C ck_7 dX11_head_191 w1_146 (by decide) ty134 rfl rfl (by decide) rfl rq60 ?_
                            refine c_st (st2 := [.ref rb60, .ref (sk 5)]) rfl ?_
                            refine c_iload (j := 0) C dX11_head_194 rfl ?_
                            have ll6 : 200 ≤ lnb9 rb60 ∧ lnb9 rb60 ≤ 200 := Wb9.len trb60 rfl
                            refine c_iald C dX11_head_196 trb60 rfl (by omega) (by omega) (by omega) ?_
                            refine hv3 (show (-2147483648) ≤ ivb9 rb60 k2.toNat ∧ ivb9 rb60 k2.toNat ≤ 2147483647 from Wb9.int trb60 k2.toNat) (Xb9.ty tsk5) (Phi.le Wb9 skb9) (fun ri523 ty139 pl26 => ?_)
                            have ri524 : 0 ≤ ivb9 (sk 5) 2 ∧ ivb9 (sk 5) 2 ≤ 200 := Wb9.int ty139 2
                            refine d_callV (As := [.int (iI (ivb9 rb60 k2.toNat))]) (rest := []) C hM (C_add_5 (a0 := (sk 5)) (x := ivb9 rb60 k2.toNat) Wb9 skb9 ty139 (by omega) ) dX11_head_197 kV_X11_112 rfl ty139 rfl rfl (by decide) ck_2 rfl (Nat.le_of_ble_eq_true rfl) ⟨(Nat.le_of_ble_eq_true rfl), (Nat.le_of_ble_eq_true rfl)⟩ hph pl26 (show 0 + 0 = 0 from rfl) (by decide) (fun rh70 Lh70 clh70 lnh70 ivh70 rvh70 h70 => ?_)
                            obtain ⟨rfl, xl70, fl70, W70, exf70⟩ := h70
                            refine hv13 (Fb9.call Xb9 fl70 rfl) (MRK.call mrb9 Wb9 skb9 xl70 fl70 rfl rfl) (Xb9.ty tsk2) (Xb9.ty tsk3) (Xb9.ty tsk4) (Xb9.ty tsk13) (Xb9.ty tsk14) (Xb9.ty tsk16) (Xb9.ty tsk17) (Xb9.ty tsk22) (Xb9.ty tsk23) (Xb9.trans xl70) (xl70.skl skb9) (fun F56 mr56 ty140 ty141 ty142 ty143 ty144 ty145 ty146 ty147 ty148 X6 sk6 => ?_)
                            refine c_st (st2 := []) rfl ?_
                            refine hv2 (xl70.ty ty139) (show ((ivh70 (sk 5) 2 = ivb9 (sk 5) 2 ∧ ivb9 (sk 5) 2 = 200) ∨ (ivh70 (sk 5) 2 = ivb9 (sk 5) 2 + 1 ∧ ivb9 (sk 5) 2 < 200)) from exf70) (fun ty149 gf70 => ?_)
                            have ri525 : 0 ≤ ivh70 (sk 5) 2 ∧ ivh70 (sk 5) 2 ≤ 200 := W70.int ty149 2
                            refine c_iinc (z := k2) (j := 0) (lv2 := [(5, .int (iI (k2 + 1))), (4, .int (iI f66)), (3, .ref ob6), (2, .int (iI fl)), (0, .ref a0), (1, .int (iI i))]) C dX11_head_200 rfl (by decide) rfl ?_
                            refine c_goto (tgt := 162) C dX11_head_203 (by decide) ?_
                            refine hv11 (xl70.ty ty134) (show ivh70 (sk 15) 7 = ivb9 (sk 15) 7 from fl70.i ty134 rfl 7) (xl70.ty ty140) (show ivh70 (sk 2) 2 = ivb9 (sk 2) 2 from fl70.i ty140 rfl 2) (xl70.ty ty133) (show ivh70 a0 11 = ivb9 a0 11 from fl70.i ty133 rfl 11) (show ivh70 a0 12 = ivb9 a0 12 from fl70.i ty133 rfl 12) (show ivh70 a0 13 = ivb9 a0 13 from fl70.i ty133 rfl 13) (show ivh70 a0 14 = ivb9 a0 14 from fl70.i ty133 rfl 14) (show ivh70 a0 15 = ivb9 a0 15 from fl70.i ty133 rfl 15) (show ivh70 a0 16 = ivb9 a0 16 from fl70.i ty133 rfl 16) (fun ty150 ie805 ty151 ie806 ty152 ie808 ie809 ie811 ie813 ie815 ie817 => ?_)
                            refine hv8 (show 0 ≤ ivh70 (sk 15) 7 ∧ ivh70 (sk 15) 7 ≤ 100000 from W70.int ty150 7) (show 0 ≤ ivh70 (sk 2) 2 ∧ ivh70 (sk 2) 2 ≤ 3000 from W70.int ty151 2) (show 1 ≤ ivh70 a0 11 ∧ ivh70 a0 11 ≤ 100 from W70.int ty152 11) (show 1 ≤ ivh70 a0 12 ∧ ivh70 a0 12 ≤ 50 from W70.int ty152 12) (show (-2147483648) ≤ ivh70 a0 13 ∧ ivh70 a0 13 ≤ 2147483647 from W70.int ty152 13) (show (-2147483648) ≤ ivh70 a0 14 ∧ ivh70 a0 14 ≤ 2147483647 from W70.int ty152 14) (show (-2147483648) ≤ ivh70 a0 15 ∧ ivh70 a0 15 ≤ 2147483647 from W70.int ty152 15) (show (-2147483648) ≤ ivh70 a0 16 ∧ ivh70 a0 16 ≤ 2147483647 from W70.int ty152 16) (fun ri526 ri527 ri528 ri529 ri530 ri531 ri532 ri533 => ?_)
                            refine c_lv (lv2 := [(5, .int (iI (k2 + 1))), (4, .int (iI f66)), (3, .ref ob6), (2, .int (iI fl)), (0, .ref a0), (1, .int (iI i))]) [0, 1, 2, 3, 4, 5] rfl ?_
                            exact ih9  (k2 + 1) _ _ _ _ _ (by omega) X6 W70 F56  (by omega) (by show ivh70 (sk 15) 7 ≤ 200; omega) (by show ivh70 (sk 2) 2 = 0; omega) (by show ivh70 a0 11 = iv a0 11; omega) (by show ivh70 a0 12 = iv a0 12; omega) (by show ivh70 a0 13 = iv a0 13; omega) (by show ivh70 a0 14 = iv a0 14; omega) (by show ivh70 a0 15 = iv a0 15; omega) (by show ivh70 a0 16 = iv a0 16; omega) (Eq.trans (show rvh70 a0 9 = rvb9 a0 9 from (fl70.r ty133 rfl 9)) (show rvb9 a0 9 = rv a0 9 from hkr9)) (Eq.trans (show rvh70 a0 10 = rvb9 a0 10 from (fl70.r ty133 rfl 10)) (show rvb9 a0 10 = rv a0 10 from hkr10))
                    refine hv29 (show 0 ≤ ivh67 (sk 15) 7 ∧ ivh67 (sk 15) 7 ≤ 100000 from W67.int ty131 7) (show ivh67 (sk 15) 7 = ivh66 (sk 15) 7 from fl67.i ty131 rfl 7) (show 0 ≤ ivh67 (sk 2) 2 ∧ ivh67 (sk 2) 2 ≤ 3000 from W67.int ty129 2) (show ivh67 (sk 2) 2 = ivh66 (sk 2) 2 from fl67.i ty129 rfl 2) (show ivh66 (sk 2) 2 = ivh64 (sk 2) 2 from fl66.i ty129 rfl 2) (show 1 ≤ ivh67 a0 11 ∧ ivh67 a0 11 ≤ 100 from W67.int ty128 11) (show ivh67 a0 11 = ivh66 a0 11 from fl67.i ty128 rfl 11) (show ivh66 a0 11 = ivh64 a0 11 from fl66.i ty128 rfl 11) (show ivh64 a0 11 = ivb7 a0 11 from fl64.i ty128 rfl 11) (show 1 ≤ ivh67 a0 12 ∧ ivh67 a0 12 ≤ 50 from W67.int ty128 12) (show ivh67 a0 12 = ivh66 a0 12 from fl67.i ty128 rfl 12) (show ivh66 a0 12 = ivh64 a0 12 from fl66.i ty128 rfl 12) (show ivh64 a0 12 = ivb7 a0 12 from fl64.i ty128 rfl 12) (show (-2147483648) ≤ ivh67 a0 13 ∧ ivh67 a0 13 ≤ 2147483647 from W67.int ty128 13) (show ivh67 a0 13 = ivh66 a0 13 from fl67.i ty128 rfl 13) (show ivh66 a0 13 = ivh64 a0 13 from fl66.i ty128 rfl 13) (show ivh64 a0 13 = ivb7 a0 13 from fl64.i ty128 rfl 13) (show (-2147483648) ≤ ivh67 a0 14 ∧ ivh67 a0 14 ≤ 2147483647 from W67.int ty128 14) (show ivh67 a0 14 = ivh66 a0 14 from fl67.i ty128 rfl 14) (show ivh66 a0 14 = ivh64 a0 14 from fl66.i ty128 rfl 14) (show ivh64 a0 14 = ivb7 a0 14 from fl64.i ty128 rfl 14) (show (-2147483648) ≤ ivh67 a0 15 ∧ ivh67 a0 15 ≤ 2147483647 from W67.int ty128 15) (show ivh67 a0 15 = ivh66 a0 15 from fl67.i ty128 rfl 15) (show ivh66 a0 15 = ivh64 a0 15 from fl66.i ty128 rfl 15) (show ivh64 a0 15 = ivb7 a0 15 from fl64.i ty128 rfl 15) (show (-2147483648) ≤ ivh67 a0 16 ∧ ivh67 a0 16 ≤ 2147483647 from W67.int ty128 16) (show ivh67 a0 16 = ivh66 a0 16 from fl67.i ty128 rfl 16) (show ivh66 a0 16 = ivh64 a0 16 from fl66.i ty128 rfl 16) (show ivh64 a0 16 = ivb7 a0 16 from fl64.i ty128 rfl 16) (fun ri534 ie819 ri535 ie820 ie821 ri536 ie822 ie823 ie824 ri537 ie826 ie827 ie828 ri538 ie830 ie831 ie832 ri539 ie834 ie835 ie836 ri540 ie838 ie839 ie840 ri541 ie842 ie843 ie844 => ?_)
                    refine c_lv (lv2 := [(5, .int (iI 0)), (4, .int (iI f66)), (3, .ref ob6), (2, .int (iI fl)), (0, .ref a0), (1, .int (iI i))]) [0, 1, 2, 3, 4, 5] rfl ?_
                    exact Lp9 103 0 _ _ _ _ _ (by omega) Xb7 W67 F53  (by omega) (by show ivh67 (sk 15) 7 ≤ 200; omega) (by show ivh67 (sk 2) 2 = 0; omega) (by show ivh67 a0 11 = iv a0 11; omega) (by show ivh67 a0 12 = iv a0 12; omega) (by show ivh67 a0 13 = iv a0 13; omega) (by show ivh67 a0 14 = iv a0 14; omega) (by show ivh67 a0 15 = iv a0 15; omega) (by show ivh67 a0 16 = iv a0 16; omega) (show rvb7 a0 9 = rv a0 9 from hkr9) (show rvb7 a0 10 = rv a0 10 from hkr10)
                  · refine c_aload_n (j := 3) (x := a0) C dX11_head_138 rfl ?_
                    refine c_iload (j := 0) C dX11_head_139 rfl ?_
                    refine c_aload_n (j := 3) (x := a0) C dX11_head_141 rfl ?_
                    refine c_getr (k := 6) C ck_12 dX11_head_142 w2_50 (by decide) ty128 rfl rfl (by decide) rfl rq54 ?_
                    refine c_st (st2 := [.ref (sk 15), .int (iI f66), .ref a0]) rfl ?_
                    refine d_callV (As := []) (rest := [.int (iI f66), .ref a0]) C hM (C_placeOfUnknown (a0 := (sk 15)) W66 skb7 ty131  ) dX11_head_145 kV_X11_263 rfl ty131 rfl rfl (by decide) ck_7 rfl (Nat.le_of_ble_eq_true rfl) ⟨(Nat.le_of_ble_eq_true rfl), (Nat.le_of_ble_eq_true rfl)⟩ hph pl23 (show 0 + 0 = 0 from rfl) (by decide) (fun rh71 Lh71 clh71 lnh71 ivh71 rvh71 h71 => ?_)
                    obtain ⟨f71, rfl, rfl, rfl, rfl, rfl, rfl, rgf71, exf71⟩ := h71
                    refine c_st (st2 := [.int (iI f71), .int (iI f66), .ref a0]) rfl ?_
                    refine d_callV (As := [.int (iI f66), .int (iI f71)]) (rest := []) C hM (C_refuseAt (a0 := a0) (x := f66) (y := f71) W66 skb7 ty128 (by omega) (by omega) ) dX11_head_148 kV_X11_266 rfl ty128 rfl rfl (by decide) ck_12 rfl (Nat.le_of_ble_eq_true rfl) ⟨(Nat.le_of_ble_eq_true rfl), (Nat.le_of_ble_eq_true rfl)⟩ hph pl23 (show 0 + 0 = 0 from rfl) (by decide) (fun rh72 Lh72 clh72 lnh72 ivh72 rvh72 h72 => ?_)
                    obtain ⟨f72, rfl, rfl, rfl, rfl, rfl, fl72, W72, rgf72, exf72, kp11f72, kp12f72, kp13f72, kp14f72, kp15f72, kp16f72⟩ := h72
                    refine hv20 (show 1 ≤ ivh66 a0 11 ∧ ivh66 a0 11 ≤ 100 from W66.int ty128 11) (show ivh66 a0 11 = ivh64 a0 11 from fl66.i ty128 rfl 11) (show ivh64 a0 11 = ivb7 a0 11 from fl64.i ty128 rfl 11) (show 1 ≤ ivh66 a0 12 ∧ ivh66 a0 12 ≤ 50 from W66.int ty128 12) (show ivh66 a0 12 = ivh64 a0 12 from fl66.i ty128 rfl 12) (show ivh64 a0 12 = ivb7 a0 12 from fl64.i ty128 rfl 12) (show (-2147483648) ≤ ivh66 a0 13 ∧ ivh66 a0 13 ≤ 2147483647 from W66.int ty128 13) (show ivh66 a0 13 = ivh64 a0 13 from fl66.i ty128 rfl 13) (show ivh64 a0 13 = ivb7 a0 13 from fl64.i ty128 rfl 13) (show (-2147483648) ≤ ivh66 a0 14 ∧ ivh66 a0 14 ≤ 2147483647 from W66.int ty128 14) (show ivh66 a0 14 = ivh64 a0 14 from fl66.i ty128 rfl 14) (show ivh64 a0 14 = ivb7 a0 14 from fl64.i ty128 rfl 14) (show (-2147483648) ≤ ivh66 a0 15 ∧ ivh66 a0 15 ≤ 2147483647 from W66.int ty128 15) (show ivh66 a0 15 = ivh64 a0 15 from fl66.i ty128 rfl 15) (show ivh64 a0 15 = ivb7 a0 15 from fl64.i ty128 rfl 15) (show (-2147483648) ≤ ivh66 a0 16 ∧ ivh66 a0 16 ≤ 2147483647 from W66.int ty128 16) (show ivh66 a0 16 = ivh64 a0 16 from fl66.i ty128 rfl 16) (show ivh64 a0 16 = ivb7 a0 16 from fl64.i ty128 rfl 16) (F52.call Xb7 fl72 rfl) (MRK.call mr52 W66 skb7 XT.refl fl72 rfl rfl) (fun ri542 ie846 ie847 ri543 ie849 ie850 ri544 ie852 ie853 ri545 ie855 ie856 ri546 ie858 ie859 ri547 ie861 ie862 F57 mr57 => ?_)
                    refine c_st (st2 := [.int (iI f72)]) rfl ?_
                    refine hv16 (show ivh72 a0 11 = ivh66 a0 11 from kp11f72) (show ivh72 a0 12 = ivh66 a0 12 from kp12f72) (show ivh72 a0 13 = ivh66 a0 13 from kp13f72) (show ivh72 a0 14 = ivh66 a0 14 from kp14f72) (show ivh72 a0 15 = ivh66 a0 15 from kp15f72) (show ivh72 a0 16 = ivh66 a0 16 from kp16f72) (show f72 = -1 from exf72) (show 0 ≤ ivh72 (sk 2) 2 ∧ ivh72 (sk 2) 2 ≤ 3000 from W72.int ty129 2) (show ivh72 (sk 2) 2 = ivh66 (sk 2) 2 from fl72.i ty129 rfl 2) (show ivh66 (sk 2) 2 = ivh64 (sk 2) 2 from fl66.i ty129 rfl 2) (show 1 ≤ ivh72 a0 11 ∧ ivh72 a0 11 ≤ 100 from W72.int ty128 11) (show 1 ≤ ivh72 a0 12 ∧ ivh72 a0 12 ≤ 50 from W72.int ty128 12) (show (-2147483648) ≤ ivh72 a0 13 ∧ ivh72 a0 13 ≤ 2147483647 from W72.int ty128 13) (show (-2147483648) ≤ ivh72 a0 14 ∧ ivh72 a0 14 ≤ 2147483647 from W72.int ty128 14) (show (-2147483648) ≤ ivh72 a0 15 ∧ ivh72 a0 15 ≤ 2147483647 from W72.int ty128 15) (show (-2147483648) ≤ ivh72 a0 16 ∧ ivh72 a0 16 ≤ 2147483647 from W72.int ty128 16) (fun gk11f72 gk12f72 gk13f72 gk14f72 gk15f72 gk16f72 gf72 ri548 ie864 ie865 ri549 ri550 ri551 ri552 ri553 ri554 => ?_)
                    exact c_iret C dX11_head_151 rfl (by decide) (rom0 hph pl23 (by decide)) ⟨f72, rfl, Xb7, F57, W72, ⟨by omega, by omega⟩, trivial, (by omega), (by omega), (by omega), (by omega), (by omega), (by omega), (by omega), (show rvb7 a0 9 = rv a0 9 from hkr9), (show rvb7 a0 10 = rv a0 10 from hkr10)⟩
                · subst oq6
                  refine c_lv (lv2 := [(3, .null), (2, .int (iI fl)), (0, .ref a0), (1, .int (iI i))]) [0, 1, 2, 3] rfl ?_
                  refine c_st (st2 := []) rfl ?_
                  refine c_aload_n (j := 2) (x := a0) C dX11_head_117 rfl ?_
                  refine c_iconst C dX11_head_118 ?_
                  refine d_callV (As := [.int (iI 3)]) (rest := []) C hM (C_refuse (a0 := a0) (x := 3) W64 skb7 ty128 ⟨by decide, by decide⟩ ) dX11_head_119 kV_X11_102 rfl ty128 rfl rfl (by decide) ck_12 rfl (Nat.le_of_ble_eq_true rfl) ⟨(Nat.le_of_ble_eq_true rfl), (Nat.le_of_ble_eq_true rfl)⟩ hph pl23 (show 0 + 0 = 0 from rfl) (by decide) (fun rh73 Lh73 clh73 lnh73 ivh73 rvh73 h73 => ?_)
                  obtain ⟨f73, rfl, rfl, rfl, rfl, rfl, fl73, W73, rgf73, exf73, kp11f73, kp12f73, kp13f73, kp14f73, kp15f73, kp16f73⟩ := h73
                  refine hv14 (show 1 ≤ ivh64 a0 11 ∧ ivh64 a0 11 ≤ 100 from W64.int ty128 11) (show ivh64 a0 11 = ivb7 a0 11 from fl64.i ty128 rfl 11) (show 1 ≤ ivh64 a0 12 ∧ ivh64 a0 12 ≤ 50 from W64.int ty128 12) (show ivh64 a0 12 = ivb7 a0 12 from fl64.i ty128 rfl 12) (show (-2147483648) ≤ ivh64 a0 13 ∧ ivh64 a0 13 ≤ 2147483647 from W64.int ty128 13) (show ivh64 a0 13 = ivb7 a0 13 from fl64.i ty128 rfl 13) (show (-2147483648) ≤ ivh64 a0 14 ∧ ivh64 a0 14 ≤ 2147483647 from W64.int ty128 14) (show ivh64 a0 14 = ivb7 a0 14 from fl64.i ty128 rfl 14) (show (-2147483648) ≤ ivh64 a0 15 ∧ ivh64 a0 15 ≤ 2147483647 from W64.int ty128 15) (show ivh64 a0 15 = ivb7 a0 15 from fl64.i ty128 rfl 15) (show (-2147483648) ≤ ivh64 a0 16 ∧ ivh64 a0 16 ≤ 2147483647 from W64.int ty128 16) (show ivh64 a0 16 = ivb7 a0 16 from fl64.i ty128 rfl 16) (F51.call Xb7 fl73 rfl) (MRK.call mr51 W64 skb7 XT.refl fl73 rfl rfl) (fun ri555 ie872 ri556 ie874 ri557 ie876 ri558 ie878 ri559 ie880 ri560 ie882 F58 mr58 => ?_)
                  refine c_st (st2 := [.int (iI f73)]) rfl ?_
                  refine hv15 (show ivh73 a0 11 = ivh64 a0 11 from kp11f73) (show ivh73 a0 12 = ivh64 a0 12 from kp12f73) (show ivh73 a0 13 = ivh64 a0 13 from kp13f73) (show ivh73 a0 14 = ivh64 a0 14 from kp14f73) (show ivh73 a0 15 = ivh64 a0 15 from kp15f73) (show ivh73 a0 16 = ivh64 a0 16 from kp16f73) (show f73 = -1 from exf73) (show 0 ≤ ivh73 (sk 2) 2 ∧ ivh73 (sk 2) 2 ≤ 3000 from W73.int ty129 2) (show ivh73 (sk 2) 2 = ivh64 (sk 2) 2 from fl73.i ty129 rfl 2) (show 1 ≤ ivh73 a0 11 ∧ ivh73 a0 11 ≤ 100 from W73.int ty128 11) (show 1 ≤ ivh73 a0 12 ∧ ivh73 a0 12 ≤ 50 from W73.int ty128 12) (show (-2147483648) ≤ ivh73 a0 13 ∧ ivh73 a0 13 ≤ 2147483647 from W73.int ty128 13) (show (-2147483648) ≤ ivh73 a0 14 ∧ ivh73 a0 14 ≤ 2147483647 from W73.int ty128 14) (show (-2147483648) ≤ ivh73 a0 15 ∧ ivh73 a0 15 ≤ 2147483647 from W73.int ty128 15) (show (-2147483648) ≤ ivh73 a0 16 ∧ ivh73 a0 16 ≤ 2147483647 from W73.int ty128 16) (fun gk11f73 gk12f73 gk13f73 gk14f73 gk15f73 gk16f73 gf73 ri561 ie884 ri562 ri563 ri564 ri565 ri566 ri567 => ?_)
                  exact c_iret C dX11_head_122 rfl (by decide) (rom0 hph pl23 (by decide)) ⟨f73, rfl, Xb7, F58, W73, ⟨by omega, by omega⟩, trivial, (by omega), (by omega), (by omega), (by omega), (by omega), (by omega), (by omega), (show rvb7 a0 9 = rv a0 9 from hkr9), (show rvb7 a0 10 = rv a0 10 from hkr10)⟩
              · refine c_aload_n (j := 2) (x := a0) C dX11_head_97 rfl ?_
                refine c_bipush (z := 6) C dX11_head_98 (by decide) ?_
                refine d_callV (As := [.int (iI 6)]) (rest := []) C hM (C_refuse (a0 := a0) (x := 6) W64 skb7 ty128 ⟨by decide, by decide⟩ ) dX11_head_100 kV_X11_102 rfl ty128 rfl rfl (by decide) ck_12 rfl (Nat.le_of_ble_eq_true rfl) ⟨(Nat.le_of_ble_eq_true rfl), (Nat.le_of_ble_eq_true rfl)⟩ hph pl23 (show 0 + 0 = 0 from rfl) (by decide) (fun rh74 Lh74 clh74 lnh74 ivh74 rvh74 h74 => ?_)
                obtain ⟨f74, rfl, rfl, rfl, rfl, rfl, fl74, W74, rgf74, exf74, kp11f74, kp12f74, kp13f74, kp14f74, kp15f74, kp16f74⟩ := h74
                refine hv14 (show 1 ≤ ivh64 a0 11 ∧ ivh64 a0 11 ≤ 100 from W64.int ty128 11) (show ivh64 a0 11 = ivb7 a0 11 from fl64.i ty128 rfl 11) (show 1 ≤ ivh64 a0 12 ∧ ivh64 a0 12 ≤ 50 from W64.int ty128 12) (show ivh64 a0 12 = ivb7 a0 12 from fl64.i ty128 rfl 12) (show (-2147483648) ≤ ivh64 a0 13 ∧ ivh64 a0 13 ≤ 2147483647 from W64.int ty128 13) (show ivh64 a0 13 = ivb7 a0 13 from fl64.i ty128 rfl 13) (show (-2147483648) ≤ ivh64 a0 14 ∧ ivh64 a0 14 ≤ 2147483647 from W64.int ty128 14) (show ivh64 a0 14 = ivb7 a0 14 from fl64.i ty128 rfl 14) (show (-2147483648) ≤ ivh64 a0 15 ∧ ivh64 a0 15 ≤ 2147483647 from W64.int ty128 15) (show ivh64 a0 15 = ivb7 a0 15 from fl64.i ty128 rfl 15) (show (-2147483648) ≤ ivh64 a0 16 ∧ ivh64 a0 16 ≤ 2147483647 from W64.int ty128 16) (show ivh64 a0 16 = ivb7 a0 16 from fl64.i ty128 rfl 16) (F51.call Xb7 fl74 rfl) (MRK.call mr51 W64 skb7 XT.refl fl74 rfl rfl) (fun ri568 ie891 ri569 ie893 ri570 ie895 ri571 ie897 ri572 ie899 ri573 ie901 F59 mr59 => ?_)
                refine c_st (st2 := [.int (iI f74)]) rfl ?_
                refine hv15 (show ivh74 a0 11 = ivh64 a0 11 from kp11f74) (show ivh74 a0 12 = ivh64 a0 12 from kp12f74) (show ivh74 a0 13 = ivh64 a0 13 from kp13f74) (show ivh74 a0 14 = ivh64 a0 14 from kp14f74) (show ivh74 a0 15 = ivh64 a0 15 from kp15f74) (show ivh74 a0 16 = ivh64 a0 16 from kp16f74) (show f74 = -1 from exf74) (show 0 ≤ ivh74 (sk 2) 2 ∧ ivh74 (sk 2) 2 ≤ 3000 from W74.int ty129 2) (show ivh74 (sk 2) 2 = ivh64 (sk 2) 2 from fl74.i ty129 rfl 2) (show 1 ≤ ivh74 a0 11 ∧ ivh74 a0 11 ≤ 100 from W74.int ty128 11) (show 1 ≤ ivh74 a0 12 ∧ ivh74 a0 12 ≤ 50 from W74.int ty128 12) (show (-2147483648) ≤ ivh74 a0 13 ∧ ivh74 a0 13 ≤ 2147483647 from W74.int ty128 13) (show (-2147483648) ≤ ivh74 a0 14 ∧ ivh74 a0 14 ≤ 2147483647 from W74.int ty128 14) (show (-2147483648) ≤ ivh74 a0 15 ∧ ivh74 a0 15 ≤ 2147483647 from W74.int ty128 15) (show (-2147483648) ≤ ivh74 a0 16 ∧ ivh74 a0 16 ≤ 2147483647 from W74.int ty128 16) (fun gk11f74 gk12f74 gk13f74 gk14f74 gk15f74 gk16f74 gf74 ri574 ie903 ri575 ri576 ri577 ri578 ri579 ri580 => ?_)
                exact c_iret C dX11_head_103 rfl (by decide) (rom0 hph pl23 (by decide)) ⟨f74, rfl, Xb7, F59, W74, ⟨by omega, by omega⟩, trivial, (by omega), (by omega), (by omega), (by omega), (by omega), (by omega), (by omega), (show rvb7 a0 9 = rv a0 9 from hkr9), (show rvb7 a0 10 = rv a0 10 from hkr10)⟩
            · refine c_aload_n (j := 2) (x := a0) C dX11_head_64 rfl ?_
              obtain ⟨rb61, rq61, trb61⟩ := Wb7.ref ty128 6 rfl rfl rfl
              have erb61 := Wb7.sk trb61 (by decide) rfl
              subst erb61
              refine c_getr (k := 6) C ck_12 dX11_head_65 w2_50 (by decide) ty128 rfl rfl (by decide) rfl rq61 ?_
              refine c_st (st2 := [.ref (sk 15)]) rfl ?_
              refine c_aload_n (j := 2) (x := a0) C dX11_head_68 rfl ?_
              refine c_getr (k := 0) C ck_12 dX11_head_69 w2_44 (by decide) ty128 rfl rfl (by decide) rfl rq52 ?_
              refine c_st (st2 := [.ref (sk 2), .ref (sk 15)]) rfl ?_
              refine c_iload_n (j := 1) C dX11_head_72 rfl ?_
              have pl27 := Phi.le Wb7 skb7
              refine d_callV (As := [.int (iI k)]) (rest := [.ref (sk 15)]) C hM (C_at_2 (a0 := (sk 2)) (i := k) Wb7 skb7 ty129 (by omega) ) dX11_head_73 kV_X11_224 rfl ty129 rfl rfl (by decide) ck_2 rfl (Nat.le_of_ble_eq_true rfl) ⟨(Nat.le_of_ble_eq_true rfl), (Nat.le_of_ble_eq_true rfl)⟩ hph pl27 (show 0 + 0 = 0 from rfl) (by decide) (fun rh75 Lh75 clh75 lnh75 ivh75 rvh75 h75 => ?_)
              obtain ⟨f75, rfl, rfl, rfl, rfl, rfl, rfl, rgf75, exf75⟩ := h75
              refine c_st (st2 := [.int (iI f75), .ref (sk 15)]) rfl ?_
              have gf75 : ((0 ≤ k ∧ k < ivb7 (sk 2) 2) ∨ f75 = 0) ∧ ∀ ss, CT ivb7 rvb7 (sk 2) ss → 0 ≤ k → k < ivb7 (sk 2) 2 → f75 = ss k.toNat := exf75
              refine c_iload_n (j := 1) C dX11_head_76 rfl ?_
              have ty153 := Xb7.ty tsk15
              refine d_callV (As := [.int (iI f75), .int (iI k)]) (rest := []) C hM (C_put (a0 := (sk 15)) (x := f75) (y := k) Wb7 skb7 ty153 (by omega) (by omega) ) dX11_head_77 kV_X11_273 rfl ty153 rfl rfl (by decide) ck_7 rfl (Nat.le_of_ble_eq_true rfl) ⟨(Nat.le_of_ble_eq_true rfl), (Nat.le_of_ble_eq_true rfl)⟩ hph pl27 (show 0 + 0 = 0 from rfl) (by decide) (fun rh76 Lh76 clh76 lnh76 ivh76 rvh76 h76 => ?_)
              obtain ⟨rfl, rfl, rfl, rfl, rfl, fl76, W76, exf76⟩ := h76
              refine hv2 (Fb7.call Xb7 fl76 rfl) (MRK.call mrb7 Wb7 skb7 XT.refl fl76 rfl rfl) (fun F60 mr60 => ?_)
              refine c_st (st2 := []) rfl ?_
              refine c_iinc (z := k) (j := 1) (lv2 := [(3, .int (iI (k + 1))), (2, .int (iI fl)), (0, .ref a0), (1, .int (iI i))]) C dX11_head_80 rfl (by decide) rfl ?_
              refine c_goto (tgt := 49) C dX11_head_83 (by decide) ?_
              refine hv12 (show 1 ≤ ivh76 a0 11 ∧ ivh76 a0 11 ≤ 100 from W76.int ty128 11) (show ivh76 a0 11 = ivb7 a0 11 from fl76.i ty128 rfl 11) (show 1 ≤ ivh76 a0 12 ∧ ivh76 a0 12 ≤ 50 from W76.int ty128 12) (show ivh76 a0 12 = ivb7 a0 12 from fl76.i ty128 rfl 12) (show (-2147483648) ≤ ivh76 a0 13 ∧ ivh76 a0 13 ≤ 2147483647 from W76.int ty128 13) (show ivh76 a0 13 = ivb7 a0 13 from fl76.i ty128 rfl 13) (show (-2147483648) ≤ ivh76 a0 14 ∧ ivh76 a0 14 ≤ 2147483647 from W76.int ty128 14) (show ivh76 a0 14 = ivb7 a0 14 from fl76.i ty128 rfl 14) (show (-2147483648) ≤ ivh76 a0 15 ∧ ivh76 a0 15 ≤ 2147483647 from W76.int ty128 15) (show ivh76 a0 15 = ivb7 a0 15 from fl76.i ty128 rfl 15) (show (-2147483648) ≤ ivh76 a0 16 ∧ ivh76 a0 16 ≤ 2147483647 from W76.int ty128 16) (show ivh76 a0 16 = ivb7 a0 16 from fl76.i ty128 rfl 16) (fun ri581 ie910 ri582 ie912 ri583 ie914 ri584 ie916 ri585 ie918 ri586 ie920 => ?_)
              refine c_lv (lv2 := [(2, .int (iI fl)), (3, .int (iI (k + 1))), (0, .ref a0), (1, .int (iI i))]) [1, 0, 2, 3] rfl ?_
              exact ih7  fl (k + 1) _ _ _ _ _ (by omega) Xb7 W76 F60  (by omega) (by omega) (by show ivh76 a0 11 = iv a0 11; omega) (by show ivh76 a0 12 = iv a0 12; omega) (by show ivh76 a0 13 = iv a0 13; omega) (by show ivh76 a0 14 = iv a0 14; omega) (by show ivh76 a0 15 = iv a0 15; omega) (by show ivh76 a0 16 = iv a0 16; omega) (show rvb7 a0 9 = rv a0 9 from hkr9) (show rvb7 a0 10 = rv a0 10 from hkr10)
      refine hv12 (show 1 ≤ ivh52 a0 11 ∧ ivh52 a0 11 ≤ 100 from W52.int t_a0 11) (show ivh52 a0 11 = iv a0 11 from fl52.i t_a0 rfl 11) (show 1 ≤ ivh52 a0 12 ∧ ivh52 a0 12 ≤ 50 from W52.int t_a0 12) (show ivh52 a0 12 = iv a0 12 from fl52.i t_a0 rfl 12) (show (-2147483648) ≤ ivh52 a0 13 ∧ ivh52 a0 13 ≤ 2147483647 from W52.int t_a0 13) (show ivh52 a0 13 = iv a0 13 from fl52.i t_a0 rfl 13) (show (-2147483648) ≤ ivh52 a0 14 ∧ ivh52 a0 14 ≤ 2147483647 from W52.int t_a0 14) (show ivh52 a0 14 = iv a0 14 from fl52.i t_a0 rfl 14) (show (-2147483648) ≤ ivh52 a0 15 ∧ ivh52 a0 15 ≤ 2147483647 from W52.int t_a0 15) (show ivh52 a0 15 = iv a0 15 from fl52.i t_a0 rfl 15) (show (-2147483648) ≤ ivh52 a0 16 ∧ ivh52 a0 16 ≤ 2147483647 from W52.int t_a0 16) (show ivh52 a0 16 = iv a0 16 from fl52.i t_a0 rfl 16) (fun ri587 ie922 ri588 ie923 ri589 ie924 ri590 ie925 ri591 ie926 ri592 ie927 => ?_)
      refine c_lv (lv2 := [(2, .int (iI 1)), (3, .int (iI 0)), (0, .ref a0), (1, .int (iI i))]) [1, 0, 2, 3] rfl ?_
      exact Lp7 3003 1 0 _ _ _ _ _ (by omega) hX0 W52 F41  (by omega) (by omega) (by show ivh52 a0 11 = iv a0 11; omega) (by show ivh52 a0 12 = iv a0 12; omega) (by show ivh52 a0 13 = iv a0 13; omega) (by show ivh52 a0 14 = iv a0 14; omega) (by show ivh52 a0 15 = iv a0 15; omega) (by show ivh52 a0 16 = iv a0 16; omega) rfl rfl
set_option maxHeartbeats 4000000 in
set_option maxRecDepth 100000 in
theorem C_lines {l : Launch} {G : GT} {mi : Nat} {sk : Nat → Nat} {L : List Nat} {cl ln : Nat → Nat} {iv : Nat → Nat → Int} {rv : Nat → Nat → Option Nat}  {a0 : Nat} (hW : WT (g0 G) sk L cl ln iv rv) (hS : SKL sk L cl) (t_a0 : ty L cl a0 1)  : Mc l G mi (Phi (g0 G) sk) PHM yX11_lines cX11_lines 1 (some .int) 0 [.ref a0] L cl ln iv rv 0 (fun v L2 cl2 ln2 iv2 rv2 => ∃ f : Int, v = some (.int (iI f)) ∧ L = L2 ∧ cl = cl2 ∧ ln = ln2 ∧ iv = iv2 ∧ rv = rv2 ∧ (-2147483648 ≤ f ∧ f ≤ 2147483647) ∧ (True)) := by
  refine Mc.mk (by decide) (Nat.le_of_ble_eq_true rfl) ?_
  intro p e s m args below meth c A C hM
  refine hv3 (Phi.le hW hS) (show XT L cl ln L cl ln from XT.refl) (show fT [] L cl iv rv iv rv from fT.refl) (fun hph hX0 hF0 => ?_)
  refine c_aload_n (j := 0) (x := a0) C dX11_lines_0 rfl ?_
  obtain ⟨rb1, rq1, trb1⟩ := hW.ref t_a0 9 rfl rfl rfl
  refine c_getr (k := 9) C ck_12 dX11_lines_1 w2_53 (by decide) t_a0 rfl rfl (by decide) rfl rq1 ?_
  refine c_st (st2 := [.ref rb1]) rfl ?_
  have ri1 : 0 ≤ iv rb1 1 ∧ iv rb1 1 ≤ 200 := hW.int trb1 1
  refine c_get (k := 1) C ck_8 dX11_lines_4 w2_35 (by decide) trb1 rfl rfl (by decide) rfl ?_
  exact c_iret C dX11_lines_7 rfl (by decide) (rom0 hph hph (by decide)) ⟨(iv rb1 1), rfl, rfl, rfl, rfl, rfl, rfl, ⟨by omega, by omega⟩, trivial⟩
set_option maxHeartbeats 4000000 in
set_option maxRecDepth 100000 in
theorem C_hasHeader {l : Launch} {G : GT} {mi : Nat} {sk : Nat → Nat} {L : List Nat} {cl ln : Nat → Nat} {iv : Nat → Nat → Int} {rv : Nat → Nat → Option Nat}  {a0 : Nat} (hW : WT (g0 G) sk L cl ln iv rv) (hS : SKL sk L cl) (t_a0 : ty L cl a0 1)  : Mc l G mi (Phi (g0 G) sk) PHM yX11_pagesHaveHeader cX11_pagesHaveHeader 1 (some .boolean) 0 [.ref a0] L cl ln iv rv 0 (fun v L2 cl2 ln2 iv2 rv2 => ∃ f : Int, v = some (.int (iI f)) ∧ L = L2 ∧ cl = cl2 ∧ ln = ln2 ∧ iv = iv2 ∧ rv = rv2 ∧ (f = 0 ∨ f = 1) ∧ (f = 0 ∨ 2 ≤ iv a0 12)) := by
  refine Mc.mk (by decide) (Nat.le_of_ble_eq_true rfl) ?_
  intro p e s m args below meth c A C hM
  refine hv14 (Phi.le hW hS) (show ty L cl (sk 2) 2 from ⟨(hS 2 rfl).1, by rw [(hS 2 rfl).2]; rfl⟩) (show ty L cl (sk 3) 3 from ⟨(hS 3 rfl).1, by rw [(hS 3 rfl).2]; rfl⟩) (show ty L cl (sk 4) 4 from ⟨(hS 4 rfl).1, by rw [(hS 4 rfl).2]; rfl⟩) (show ty L cl (sk 5) 5 from ⟨(hS 5 rfl).1, by rw [(hS 5 rfl).2]; rfl⟩) (show ty L cl (sk 13) 13 from ⟨(hS 13 rfl).1, by rw [(hS 13 rfl).2]; rfl⟩) (show ty L cl (sk 14) 14 from ⟨(hS 14 rfl).1, by rw [(hS 14 rfl).2]; rfl⟩) (show ty L cl (sk 15) 15 from ⟨(hS 15 rfl).1, by rw [(hS 15 rfl).2]; rfl⟩) (show ty L cl (sk 16) 16 from ⟨(hS 16 rfl).1, by rw [(hS 16 rfl).2]; rfl⟩) (show ty L cl (sk 17) 17 from ⟨(hS 17 rfl).1, by rw [(hS 17 rfl).2]; rfl⟩) (show ty L cl (sk 22) 22 from ⟨(hS 22 rfl).1, by rw [(hS 22 rfl).2]; rfl⟩) (show ty L cl (sk 23) 23 from ⟨(hS 23 rfl).1, by rw [(hS 23 rfl).2]; rfl⟩) (show XT L cl ln L cl ln from XT.refl) (show fT [] L cl iv rv iv rv from fT.refl) (fun hph tsk2 tsk3 tsk4 tsk5 tsk13 tsk14 tsk15 tsk16 tsk17 tsk22 tsk23 hX0 hF0 => ?_)
  refine c_aload_n (j := 0) (x := a0) C dX11_pagesHaveHeader_0 rfl ?_
  obtain ⟨rb1, rq1, trb1⟩ := hW.ref t_a0 3 rfl rfl rfl
  have erb1 := hW.sk trb1 (by decide) rfl
  subst erb1
  refine c_getr (k := 3) C ck_12 dX11_pagesHaveHeader_1 w2_47 (by decide) t_a0 rfl rfl (by decide) rfl rq1 ?_
  refine c_st (st2 := [.ref (sk 5)]) rfl ?_
  have ri1 : 0 ≤ iv (sk 5) 2 ∧ iv (sk 5) 2 ≤ 200 := hW.int tsk5 2
  refine c_get (k := 2) C ck_2 dX11_pagesHaveHeader_4 w1_44 (by decide) tsk5 rfl rfl (by decide) rfl ?_
  refine c_if_le (tgt := 22) C ⟨by omega, by omega⟩ dX11_pagesHaveHeader_7 (by decide) (fun c1 => ?_) (fun c1 => ?_)
  · refine c_iconst C dX11_pagesHaveHeader_22 ?_
    exact c_zret C dX11_pagesHaveHeader_23 rfl (Or.inl rfl) (by decide) (rom0 hph hph (by decide)) ⟨0, rfl, rfl, rfl, rfl, rfl, rfl, (Or.inl rfl), (by omega)⟩
  · refine c_aload_n (j := 0) (x := a0) C dX11_pagesHaveHeader_10 rfl ?_
    have ri2 : 1 ≤ iv a0 12 ∧ iv a0 12 ≤ 50 := hW.int t_a0 12
    refine c_get (k := 12) C ck_12 dX11_pagesHaveHeader_11 w2_56 (by decide) t_a0 rfl rfl (by decide) rfl ?_
    refine c_iconst C dX11_pagesHaveHeader_14 ?_
    refine c_icmp_lt (tgt := 22) C ⟨by omega, by omega⟩ ⟨by decide, by decide⟩ dX11_pagesHaveHeader_15 (by decide) (fun c2 => ?_) (fun c2 => ?_)
    · refine c_iconst C dX11_pagesHaveHeader_22 ?_
      exact c_zret C dX11_pagesHaveHeader_23 rfl (Or.inl rfl) (by decide) (rom0 hph hph (by decide)) ⟨0, rfl, rfl, rfl, rfl, rfl, rfl, (Or.inl rfl), (by omega)⟩
    · refine c_iconst C dX11_pagesHaveHeader_18 ?_
      refine c_goto (tgt := 23) C dX11_pagesHaveHeader_19 (by decide) ?_
      exact c_zret C dX11_pagesHaveHeader_23 rfl (Or.inr rfl) (by decide) (rom0 hph hph (by decide)) ⟨1, rfl, rfl, rfl, rfl, rfl, rfl, (Or.inr rfl), (by omega)⟩
set_option maxHeartbeats 4000000 in
set_option maxRecDepth 100000 in
theorem C_linesOfPage {l : Launch} {G : GT} {mi : Nat} {sk : Nat → Nat} {L : List Nat} {cl ln : Nat → Nat} {iv : Nat → Nat → Int} {rv : Nat → Nat → Option Nat}  {a0 : Nat} (hW : WT (g0 G) sk L cl ln iv rv) (hS : SKL sk L cl) (t_a0 : ty L cl a0 1)  : Mc l G mi (Phi (g0 G) sk) PHM yX11_linesOfPage cX11_linesOfPage 1 (some .int) 1 [.ref a0] L cl ln iv rv 0 (fun v L2 cl2 ln2 iv2 rv2 => ∃ f : Int, v = some (.int (iI f)) ∧ L = L2 ∧ cl = cl2 ∧ ln = ln2 ∧ iv = iv2 ∧ rv = rv2 ∧ (-2147483648 ≤ f ∧ f ≤ 2147483647) ∧ (1 ≤ f ∧ f ≤ 50)) := by
  refine Mc.mk (by decide) (Nat.le_of_ble_eq_true rfl) ?_
  intro p e s m args below meth c A C hM
  refine hv3 (Phi.le hW hS) (show XT L cl ln L cl ln from XT.refl) (show fT [] L cl iv rv iv rv from fT.refl) (fun hph hX0 hF0 => ?_)
  refine c_iconst C dX11_linesOfPage_0 ?_
  refine c_aload_n (j := 0) (x := a0) C dX11_linesOfPage_1 rfl ?_
  have ri1 : 1 ≤ iv a0 12 ∧ iv a0 12 ≤ 50 := hW.int t_a0 12
  refine d_callV (As := []) (rest := [.int (iI 1)]) C hM (C_hasHeader (a0 := a0) hW hS t_a0  ) dX11_linesOfPage_2 kV_X11_285 rfl t_a0 rfl rfl (by decide) ck_12 rfl (Nat.le_of_ble_eq_true rfl) ⟨(Nat.le_of_ble_eq_true rfl), (Nat.le_of_ble_eq_true rfl)⟩ hph hph (show 0 + 0 = 0 from rfl) (by decide) (fun rh1 Lh1 clh1 lnh1 ivh1 rvh1 h1 => ?_)
  obtain ⟨f1, rfl, rfl, rfl, rfl, rfl, rfl, rgf1, exf1⟩ := h1
  refine c_st (st2 := [.int (iI f1), .int (iI 1)]) rfl ?_
  have gf1 : f1 = 0 ∨ 2 ≤ iv a0 12 := exf1
  refine c_if_eq (tgt := 17) C ⟨by omega, by omega⟩ dX11_linesOfPage_5 (by decide) (fun c1 => ?_) (fun c1 => ?_)
  · refine c_aload_n (j := 0) (x := a0) C dX11_linesOfPage_17 rfl ?_
    refine c_get (k := 12) C ck_12 dX11_linesOfPage_18 w2_56 (by decide) t_a0 rfl rfl (by decide) rfl ?_
    obtain ⟨mn1, hmn1, emn1⟩ := mmax_c (x := 1) (y := iv a0 12) ⟨by decide, by decide⟩ ⟨by omega, by omega⟩
    refine c_mmax (w := iI mn1) C dX11_linesOfPage_21 w3_93 w2_148 w1_14 w2_149 (by decide) (rom0 hph hph (by decide)) (Nat.le_of_ble_eq_true rfl) emn1 ?_
    exact c_iret C dX11_linesOfPage_24 rfl (by decide) (rom0 hph hph (by decide)) ⟨mn1, rfl, rfl, rfl, rfl, rfl, rfl, ⟨by omega, by omega⟩, (by omega)⟩
  · refine c_aload_n (j := 0) (x := a0) C dX11_linesOfPage_8 rfl ?_
    refine c_get (k := 12) C ck_12 dX11_linesOfPage_9 w2_56 (by decide) t_a0 rfl rfl (by decide) rfl ?_
    refine c_iconst C dX11_linesOfPage_12 ?_
    refine c_isub C dX11_linesOfPage_13 ?_
    refine c_goto (tgt := 21) C dX11_linesOfPage_14 (by decide) ?_
    obtain ⟨mn2, hmn2, emn2⟩ := mmax_c (x := 1) (y := (iv a0 12) - 1) ⟨by decide, by decide⟩ ⟨by omega, by omega⟩
    refine c_mmax (w := iI mn2) C dX11_linesOfPage_21 w3_93 w2_148 w1_14 w2_149 (by decide) (rom0 hph hph (by decide)) (Nat.le_of_ble_eq_true rfl) emn2 ?_
    exact c_iret C dX11_linesOfPage_24 rfl (by decide) (rom0 hph hph (by decide)) ⟨mn2, rfl, rfl, rfl, rfl, rfl, rfl, ⟨by omega, by omega⟩, (by omega)⟩
set_option maxHeartbeats 4000000 in
set_option maxRecDepth 100000 in
theorem C_pages {l : Launch} {G : GT} {mi : Nat} {sk : Nat → Nat} {L : List Nat} {cl ln : Nat → Nat} {iv : Nat → Nat → Int} {rv : Nat → Nat → Option Nat}  {a0 : Nat} (hW : WT (g0 G) sk L cl ln iv rv) (hS : SKL sk L cl) (t_a0 : ty L cl a0 1)  : Mc l G mi (Phi (g0 G) sk) PHM yX11_pages cX11_pages 2 (some .int) 2 [.ref a0] L cl ln iv rv 0 (fun v L2 cl2 ln2 iv2 rv2 => ∃ f : Int, v = some (.int (iI f)) ∧ L = L2 ∧ cl = cl2 ∧ ln = ln2 ∧ iv = iv2 ∧ rv = rv2 ∧ (-2147483648 ≤ f ∧ f ≤ 2147483647) ∧ (True)) := by
  refine Mc.mk (by decide) (Nat.le_of_ble_eq_true rfl) ?_
  intro p e s m args below meth c A C hM
  refine hv3 (Phi.le hW hS) (show XT L cl ln L cl ln from XT.refl) (show fT [] L cl iv rv iv rv from fT.refl) (fun hph hX0 hF0 => ?_)
  refine c_aload_n (j := 0) (x := a0) C dX11_pages_0 rfl ?_
  refine d_callV (As := []) (rest := []) C hM (C_linesOfPage (a0 := a0) hW hS t_a0  ) dX11_pages_1 kV_X11_282 rfl t_a0 rfl rfl (by decide) ck_12 rfl (Nat.le_of_ble_eq_true rfl) ⟨(Nat.le_of_ble_eq_true rfl), (Nat.le_of_ble_eq_true rfl)⟩ hph hph (show 0 + 0 = 0 from rfl) (by decide) (fun rh1 Lh1 clh1 lnh1 ivh1 rvh1 h1 => ?_)
  obtain ⟨f1, rfl, rfl, rfl, rfl, rfl, rfl, rgf1, exf1⟩ := h1
  refine c_st (st2 := [.int (iI f1)]) rfl ?_
  have gf1 : 1 ≤ f1 ∧ f1 ≤ 50 := exf1
  refine c_istore_n (lv2 := [(1, .int (iI f1)), (0, .ref a0)]) C dX11_pages_4 (by decide) rfl ?_
  refine c_aload_n (j := 1) (x := a0) C dX11_pages_5 rfl ?_
  obtain ⟨rb1, rq1, trb1⟩ := hW.ref t_a0 9 rfl rfl rfl
  refine c_getr (k := 9) C ck_12 dX11_pages_6 w2_53 (by decide) t_a0 rfl rfl (by decide) rfl rq1 ?_
  refine c_st (st2 := [.ref rb1]) rfl ?_
  have ri1 : 0 ≤ iv rb1 1 ∧ iv rb1 1 ≤ 200 := hW.int trb1 1
  refine c_get (k := 1) C ck_8 dX11_pages_9 w2_35 (by decide) trb1 rfl rfl (by decide) rfl ?_
  refine c_iload_n (j := 0) C dX11_pages_12 rfl ?_
  refine c_iadd C dX11_pages_13 ?_
  refine c_iconst C dX11_pages_14 ?_
  refine c_isub C dX11_pages_15 ?_
  refine c_iload_n (j := 0) C dX11_pages_16 rfl ?_
  obtain ⟨dq1, hdq1⟩ : ∃ q : Int, q = (((iv rb1 1) + f1) - 1) / f1 := ⟨_, rfl⟩
  have rdq1 := ediv_r (x := ((iv rb1 1) + f1) - 1) (y := f1) (by omega) (by omega)
  rw [← hdq1] at rdq1
  refine c_idiv (w := iI dq1) C dX11_pages_17 (iI_ne0 ⟨by omega, by omega⟩) (by rw [hdq1]; exact iI_div ⟨by omega, by omega⟩ ⟨by omega, by omega⟩) ?_
  exact c_iret C dX11_pages_18 rfl (by decide) (rom0 hph hph (by decide)) ⟨dq1, rfl, rfl, rfl, rfl, rfl, rfl, ⟨by omega, by omega⟩, trivial⟩
set_option maxHeartbeats 4000000 in
set_option maxRecDepth 100000 in
theorem C_cellOfLine {l : Launch} {G : GT} {mi : Nat} {sk : Nat → Nat} {L : List Nat} {cl ln : Nat → Nat} {iv : Nat → Nat → Int} {rv : Nat → Nat → Option Nat}  {a0 : Nat} {i : Int} {j : Int} (hW : WT (g0 G) sk L cl ln iv rv) (hS : SKL sk L cl) (t_a0 : ty L cl a0 1) (h_i : -2147483648 ≤ i ∧ i ≤ 2147483647) (h_j : -2147483648 ≤ j ∧ j ≤ 2147483647)  : Mc l G mi (Phi (g0 G) sk) PHM yX11_cellOfLine cX11_cellOfLine 4 (some .int) 2 [.ref a0, .int (iI i), .int (iI j)] L cl ln iv rv 0 (fun v L2 cl2 ln2 iv2 rv2 => ∃ f : Int, v = some (.int (iI f)) ∧ L = L2 ∧ cl = cl2 ∧ ln = ln2 ∧ rv = rv2 ∧ fT [1] L cl iv rv iv2 rv2 ∧ WT (g0 G) sk L2 cl2 ln2 iv2 rv2 ∧ (-2147483648 ≤ f ∧ f ≤ 2147483647) ∧ (True) ∧ iv2 a0 11 = iv a0 11 ∧ iv2 a0 12 = iv a0 12 ∧ iv2 a0 13 = iv a0 13 ∧ iv2 a0 14 = iv a0 14 ∧ iv2 a0 15 = iv a0 15 ∧ iv2 a0 16 = iv a0 16) := by
  refine Mc.mk (by decide) (Nat.le_of_ble_eq_true rfl) ?_
  intro p e s m args below meth c A C hM
  refine hv3 (Phi.le hW hS) (show XT L cl ln L cl ln from XT.refl) (show fT [1] L cl iv rv iv rv from fT.refl) (fun hph hX0 hF0 => ?_)
  refine c_aload_n (j := 0) (x := a0) C dX11_cellOfLine_0 rfl ?_
  obtain ⟨rb1, rq1, trb1⟩ := hW.ref t_a0 9 rfl rfl rfl
  refine c_getr (k := 9) C ck_12 dX11_cellOfLine_1 w2_53 (by decide) t_a0 rfl rfl (by decide) rfl rq1 ?_
  refine c_st (st2 := [.ref rb1]) rfl ?_
  refine c_iload_n (j := 1) C dX11_cellOfLine_4 rfl ?_
  have ri1 : 0 ≤ iv rb1 1 ∧ iv rb1 1 ≤ 200 := hW.int trb1 1
  refine d_callV (As := [.int (iI i)]) (rest := []) C hM (C_present (a0 := rb1) (i := i) hW hS trb1 (by omega) ) dX11_cellOfLine_5 kV_X11_288 rfl trb1 rfl rfl (by decide) ck_8 rfl (Nat.le_of_ble_eq_true rfl) ⟨(Nat.le_of_ble_eq_true rfl), (Nat.le_of_ble_eq_true rfl)⟩ hph hph (show 0 + 0 = 0 from rfl) (by decide) (fun rh1 Lh1 clh1 lnh1 ivh1 rvh1 h1 => ?_)
  obtain ⟨f1, rfl, rfl, rfl, rfl, rfl, rfl, rgf1, exf1⟩ := h1
  refine c_st (st2 := [(va_rf f1)]) rfl ?_
  have gf1 : f1 = none ∨ (0 ≤ i ∧ i < iv rb1 1) := exf1
  refine c_astorer_n (r := f1) (lv2 := [(3, (va_rf f1)), (0, .ref a0), (1, .int (iI i)), (2, .int (iI j))]) C dX11_cellOfLine_8 (by decide) rfl ?_
  refine c_aloadr_n (j := 0) (r := f1) C dX11_cellOfLine_9 rfl ?_
  refine c_ifnonnull (r := f1) (tgt := 26) C dX11_cellOfLine_10 (by decide) (fun ob1 oq1 => ?_) (fun oq1 => ?_)
  · subst oq1
    have tob1 := rgf1 ob1 rfl
    refine c_lv (lv2 := [(3, .ref ob1), (0, .ref a0), (1, .int (iI i)), (2, .int (iI j))]) [0, 1, 2, 3] rfl ?_
    refine c_st (st2 := []) rfl ?_
    refine c_iload_n (j := 3) C dX11_cellOfLine_26 rfl ?_
    refine c_if_lt (tgt := 38) C ⟨by omega, by omega⟩ dX11_cellOfLine_27 (by decide) (fun c1 => ?_) (fun c1 => ?_)
    · refine c_aload_n (j := 1) (x := a0) C dX11_cellOfLine_38 rfl ?_
      refine c_iconst C dX11_cellOfLine_39 ?_
      refine d_callV (As := [.int (iI 2)]) (rest := []) C hM (C_refuse (a0 := a0) (x := 2) hW hS t_a0 ⟨by decide, by decide⟩ ) dX11_cellOfLine_40 kV_X11_102 rfl t_a0 rfl rfl (by decide) ck_12 rfl (Nat.le_of_ble_eq_true rfl) ⟨(Nat.le_of_ble_eq_true rfl), (Nat.le_of_ble_eq_true rfl)⟩ hph hph (show 0 + 0 = 0 from rfl) (by decide) (fun rh2 Lh2 clh2 lnh2 ivh2 rvh2 h2 => ?_)
      obtain ⟨f2, rfl, rfl, rfl, rfl, rfl, fl2, W2, rgf2, exf2, kp11f2, kp12f2, kp13f2, kp14f2, kp15f2, kp16f2⟩ := h2
      refine hv7 (show 1 ≤ iv a0 11 ∧ iv a0 11 ≤ 100 from hW.int t_a0 11) (show 1 ≤ iv a0 12 ∧ iv a0 12 ≤ 50 from hW.int t_a0 12) (show (-2147483648) ≤ iv a0 13 ∧ iv a0 13 ≤ 2147483647 from hW.int t_a0 13) (show (-2147483648) ≤ iv a0 14 ∧ iv a0 14 ≤ 2147483647 from hW.int t_a0 14) (show (-2147483648) ≤ iv a0 15 ∧ iv a0 15 ≤ 2147483647 from hW.int t_a0 15) (show (-2147483648) ≤ iv a0 16 ∧ iv a0 16 ≤ 2147483647 from hW.int t_a0 16) (hF0.call hX0 fl2 rfl) (fun ri2 ri3 ri4 ri5 ri6 ri7 F1 => ?_)
      refine c_st (st2 := [.int (iI f2)]) rfl ?_
      refine hv7 (show ivh2 a0 11 = iv a0 11 from kp11f2) (show ivh2 a0 12 = iv a0 12 from kp12f2) (show ivh2 a0 13 = iv a0 13 from kp13f2) (show ivh2 a0 14 = iv a0 14 from kp14f2) (show ivh2 a0 15 = iv a0 15 from kp15f2) (show ivh2 a0 16 = iv a0 16 from kp16f2) (show f2 = -1 from exf2) (fun gk11f2 gk12f2 gk13f2 gk14f2 gk15f2 gk16f2 gf2 => ?_)
      refine c_goto (tgt := 56) C dX11_cellOfLine_43 (by decide) ?_
      refine hv6 (show 1 ≤ ivh2 a0 11 ∧ ivh2 a0 11 ≤ 100 from W2.int t_a0 11) (show 1 ≤ ivh2 a0 12 ∧ ivh2 a0 12 ≤ 50 from W2.int t_a0 12) (show (-2147483648) ≤ ivh2 a0 13 ∧ ivh2 a0 13 ≤ 2147483647 from W2.int t_a0 13) (show (-2147483648) ≤ ivh2 a0 14 ∧ ivh2 a0 14 ≤ 2147483647 from W2.int t_a0 14) (show (-2147483648) ≤ ivh2 a0 15 ∧ ivh2 a0 15 ≤ 2147483647 from W2.int t_a0 15) (show (-2147483648) ≤ ivh2 a0 16 ∧ ivh2 a0 16 ≤ 2147483647 from W2.int t_a0 16) (fun ri8 ri9 ri10 ri11 ri12 ri13 => ?_)
      exact c_iret C dX11_cellOfLine_56 rfl (by decide) (rom0 hph hph (by decide)) ⟨f2, rfl, rfl, rfl, rfl, rfl, F1, W2, ⟨by omega, by omega⟩, trivial, (by omega), (by omega), (by omega), (by omega), (by omega), (by omega)⟩
    · refine c_iload_n (j := 3) C dX11_cellOfLine_30 rfl ?_
      refine c_aload_n (j := 0) (x := ob1) C dX11_cellOfLine_31 rfl ?_
      have ri14 : 0 ≤ iv ob1 1 ∧ iv ob1 1 ≤ 200 := hW.int tob1 1
      refine c_get (k := 1) C ck_3 dX11_cellOfLine_32 w4_53 (by decide) tob1 rfl rfl (by decide) rfl ?_
      refine c_icmp_lt (tgt := 46) C ⟨by omega, by omega⟩ ⟨by omega, by omega⟩ dX11_cellOfLine_35 (by decide) (fun c2 => ?_) (fun c2 => ?_)
      · refine c_aload_n (j := 1) (x := a0) C dX11_cellOfLine_46 rfl ?_
        refine c_aload_n (j := 0) (x := ob1) C dX11_cellOfLine_47 rfl ?_
        obtain ⟨rb2, rq2, trb2⟩ := hW.ref tob1 0 rfl rfl rfl
        have lnrb2 : 200 ≤ ln rb2 ∧ ln rb2 ≤ 200 := hW.len trb2 rfl
        refine c_getr (k := 0) C ck_3 dX11_cellOfLine_48 w4_48 (by decide) tob1 rfl rfl (by decide) rfl rq2 ?_
        refine c_st (st2 := [.ref rb2, .ref a0]) rfl ?_
        refine c_iload_n (j := 3) C dX11_cellOfLine_51 rfl ?_
        have ll1 : 200 ≤ ln rb2 ∧ ln rb2 ≤ 200 := hW.len trb2 rfl
        refine c_iald C dX11_cellOfLine_52 trb2 rfl (by omega) (by omega) (by omega) ?_
        have ri15 : (-2147483648) ≤ iv rb2 j.toNat ∧ iv rb2 j.toNat ≤ 2147483647 := hW.int trb2 j.toNat
        refine d_callV (As := [.int (iI (iv rb2 j.toNat))]) (rest := []) C hM (C_done (a0 := a0) (x := iv rb2 j.toNat) hW hS t_a0 (by omega) ) dX11_cellOfLine_53 kV_X11_109 rfl t_a0 rfl rfl (by decide) ck_12 rfl (Nat.le_of_ble_eq_true rfl) ⟨(Nat.le_of_ble_eq_true rfl), (Nat.le_of_ble_eq_true rfl)⟩ hph hph (show 0 + 0 = 0 from rfl) (by decide) (fun rh3 Lh3 clh3 lnh3 ivh3 rvh3 h3 => ?_)
        obtain ⟨f3, rfl, rfl, rfl, rfl, rfl, fl3, W3, rgf3, exf3, kp11f3, kp12f3, kp13f3, kp14f3, kp15f3, kp16f3⟩ := h3
        refine hv7 (show 1 ≤ iv a0 11 ∧ iv a0 11 ≤ 100 from hW.int t_a0 11) (show 1 ≤ iv a0 12 ∧ iv a0 12 ≤ 50 from hW.int t_a0 12) (show (-2147483648) ≤ iv a0 13 ∧ iv a0 13 ≤ 2147483647 from hW.int t_a0 13) (show (-2147483648) ≤ iv a0 14 ∧ iv a0 14 ≤ 2147483647 from hW.int t_a0 14) (show (-2147483648) ≤ iv a0 15 ∧ iv a0 15 ≤ 2147483647 from hW.int t_a0 15) (show (-2147483648) ≤ iv a0 16 ∧ iv a0 16 ≤ 2147483647 from hW.int t_a0 16) (hF0.call hX0 fl3 rfl) (fun ri16 ri17 ri18 ri19 ri20 ri21 F2 => ?_)
        refine c_st (st2 := [.int (iI f3)]) rfl ?_
        refine hv13 (show ivh3 a0 11 = iv a0 11 from kp11f3) (show ivh3 a0 12 = iv a0 12 from kp12f3) (show ivh3 a0 13 = iv a0 13 from kp13f3) (show ivh3 a0 14 = iv a0 14 from kp14f3) (show ivh3 a0 15 = iv a0 15 from kp15f3) (show ivh3 a0 16 = iv a0 16 from kp16f3) (show f3 = (iv rb2 j.toNat) from exf3) (show 1 ≤ ivh3 a0 11 ∧ ivh3 a0 11 ≤ 100 from W3.int t_a0 11) (show 1 ≤ ivh3 a0 12 ∧ ivh3 a0 12 ≤ 50 from W3.int t_a0 12) (show (-2147483648) ≤ ivh3 a0 13 ∧ ivh3 a0 13 ≤ 2147483647 from W3.int t_a0 13) (show (-2147483648) ≤ ivh3 a0 14 ∧ ivh3 a0 14 ≤ 2147483647 from W3.int t_a0 14) (show (-2147483648) ≤ ivh3 a0 15 ∧ ivh3 a0 15 ≤ 2147483647 from W3.int t_a0 15) (show (-2147483648) ≤ ivh3 a0 16 ∧ ivh3 a0 16 ≤ 2147483647 from W3.int t_a0 16) (fun gk11f3 gk12f3 gk13f3 gk14f3 gk15f3 gk16f3 gf3 ri22 ri23 ri24 ri25 ri26 ri27 => ?_)
        exact c_iret C dX11_cellOfLine_56 rfl (by decide) (rom0 hph hph (by decide)) ⟨f3, rfl, rfl, rfl, rfl, rfl, F2, W3, ⟨by omega, by omega⟩, trivial, (by omega), (by omega), (by omega), (by omega), (by omega), (by omega)⟩
      · refine c_aload_n (j := 1) (x := a0) C dX11_cellOfLine_38 rfl ?_
        refine c_iconst C dX11_cellOfLine_39 ?_
        refine d_callV (As := [.int (iI 2)]) (rest := []) C hM (C_refuse (a0 := a0) (x := 2) hW hS t_a0 ⟨by decide, by decide⟩ ) dX11_cellOfLine_40 kV_X11_102 rfl t_a0 rfl rfl (by decide) ck_12 rfl (Nat.le_of_ble_eq_true rfl) ⟨(Nat.le_of_ble_eq_true rfl), (Nat.le_of_ble_eq_true rfl)⟩ hph hph (show 0 + 0 = 0 from rfl) (by decide) (fun rh4 Lh4 clh4 lnh4 ivh4 rvh4 h4 => ?_)
        obtain ⟨f4, rfl, rfl, rfl, rfl, rfl, fl4, W4, rgf4, exf4, kp11f4, kp12f4, kp13f4, kp14f4, kp15f4, kp16f4⟩ := h4
        refine hv7 (show 1 ≤ iv a0 11 ∧ iv a0 11 ≤ 100 from hW.int t_a0 11) (show 1 ≤ iv a0 12 ∧ iv a0 12 ≤ 50 from hW.int t_a0 12) (show (-2147483648) ≤ iv a0 13 ∧ iv a0 13 ≤ 2147483647 from hW.int t_a0 13) (show (-2147483648) ≤ iv a0 14 ∧ iv a0 14 ≤ 2147483647 from hW.int t_a0 14) (show (-2147483648) ≤ iv a0 15 ∧ iv a0 15 ≤ 2147483647 from hW.int t_a0 15) (show (-2147483648) ≤ iv a0 16 ∧ iv a0 16 ≤ 2147483647 from hW.int t_a0 16) (hF0.call hX0 fl4 rfl) (fun ri28 ri29 ri30 ri31 ri32 ri33 F3 => ?_)
        refine c_st (st2 := [.int (iI f4)]) rfl ?_
        refine hv7 (show ivh4 a0 11 = iv a0 11 from kp11f4) (show ivh4 a0 12 = iv a0 12 from kp12f4) (show ivh4 a0 13 = iv a0 13 from kp13f4) (show ivh4 a0 14 = iv a0 14 from kp14f4) (show ivh4 a0 15 = iv a0 15 from kp15f4) (show ivh4 a0 16 = iv a0 16 from kp16f4) (show f4 = -1 from exf4) (fun gk11f4 gk12f4 gk13f4 gk14f4 gk15f4 gk16f4 gf4 => ?_)
        refine c_goto (tgt := 56) C dX11_cellOfLine_43 (by decide) ?_
        refine hv6 (show 1 ≤ ivh4 a0 11 ∧ ivh4 a0 11 ≤ 100 from W4.int t_a0 11) (show 1 ≤ ivh4 a0 12 ∧ ivh4 a0 12 ≤ 50 from W4.int t_a0 12) (show (-2147483648) ≤ ivh4 a0 13 ∧ ivh4 a0 13 ≤ 2147483647 from W4.int t_a0 13) (show (-2147483648) ≤ ivh4 a0 14 ∧ ivh4 a0 14 ≤ 2147483647 from W4.int t_a0 14) (show (-2147483648) ≤ ivh4 a0 15 ∧ ivh4 a0 15 ≤ 2147483647 from W4.int t_a0 15) (show (-2147483648) ≤ ivh4 a0 16 ∧ ivh4 a0 16 ≤ 2147483647 from W4.int t_a0 16) (fun ri34 ri35 ri36 ri37 ri38 ri39 => ?_)
        exact c_iret C dX11_cellOfLine_56 rfl (by decide) (rom0 hph hph (by decide)) ⟨f4, rfl, rfl, rfl, rfl, rfl, F3, W4, ⟨by omega, by omega⟩, trivial, (by omega), (by omega), (by omega), (by omega), (by omega), (by omega)⟩
  · subst oq1
    refine c_lv (lv2 := [(3, .null), (0, .ref a0), (1, .int (iI i)), (2, .int (iI j))]) [0, 1, 2, 3] rfl ?_
    refine c_st (st2 := []) rfl ?_
    refine c_aload_n (j := 1) (x := a0) C dX11_cellOfLine_13 rfl ?_
    refine c_aload_n (j := 1) (x := a0) C dX11_cellOfLine_14 rfl ?_
    refine c_getr (k := 9) C ck_12 dX11_cellOfLine_15 w2_53 (by decide) t_a0 rfl rfl (by decide) rfl rq1 ?_
    refine c_st (st2 := [.ref rb1, .ref a0]) rfl ?_
    refine c_iload_n (j := 2) C dX11_cellOfLine_18 rfl ?_
    refine d_callV (As := [.int (iI i)]) (rest := [.ref a0]) C hM (C_whyNone (a0 := rb1) (i := i) hW hS trb1 (by omega) ) dX11_cellOfLine_19 kV_X11_292 rfl trb1 rfl rfl (by decide) ck_8 rfl (Nat.le_of_ble_eq_true rfl) ⟨(Nat.le_of_ble_eq_true rfl), (Nat.le_of_ble_eq_true rfl)⟩ hph hph (show 0 + 0 = 0 from rfl) (by decide) (fun rh5 Lh5 clh5 lnh5 ivh5 rvh5 h5 => ?_)
    obtain ⟨f5, rfl, rfl, rfl, rfl, rfl, rfl, rgf5, exf5⟩ := h5
    refine c_st (st2 := [.int (iI f5), .ref a0]) rfl ?_
    have gf5 : f5 = 1 ∨ f5 = 2 := exf5
    refine d_callV (As := [.int (iI f5)]) (rest := []) C hM (C_refuse (a0 := a0) (x := f5) hW hS t_a0 (by omega) ) dX11_cellOfLine_22 kV_X11_102 rfl t_a0 rfl rfl (by decide) ck_12 rfl (Nat.le_of_ble_eq_true rfl) ⟨(Nat.le_of_ble_eq_true rfl), (Nat.le_of_ble_eq_true rfl)⟩ hph hph (show 0 + 0 = 0 from rfl) (by decide) (fun rh6 Lh6 clh6 lnh6 ivh6 rvh6 h6 => ?_)
    obtain ⟨f6, rfl, rfl, rfl, rfl, rfl, fl6, W6, rgf6, exf6, kp11f6, kp12f6, kp13f6, kp14f6, kp15f6, kp16f6⟩ := h6
    refine hv7 (show 1 ≤ iv a0 11 ∧ iv a0 11 ≤ 100 from hW.int t_a0 11) (show 1 ≤ iv a0 12 ∧ iv a0 12 ≤ 50 from hW.int t_a0 12) (show (-2147483648) ≤ iv a0 13 ∧ iv a0 13 ≤ 2147483647 from hW.int t_a0 13) (show (-2147483648) ≤ iv a0 14 ∧ iv a0 14 ≤ 2147483647 from hW.int t_a0 14) (show (-2147483648) ≤ iv a0 15 ∧ iv a0 15 ≤ 2147483647 from hW.int t_a0 15) (show (-2147483648) ≤ iv a0 16 ∧ iv a0 16 ≤ 2147483647 from hW.int t_a0 16) (hF0.call hX0 fl6 rfl) (fun ri40 ri41 ri42 ri43 ri44 ri45 F4 => ?_)
    refine c_st (st2 := [.int (iI f6)]) rfl ?_
    refine hv13 (show ivh6 a0 11 = iv a0 11 from kp11f6) (show ivh6 a0 12 = iv a0 12 from kp12f6) (show ivh6 a0 13 = iv a0 13 from kp13f6) (show ivh6 a0 14 = iv a0 14 from kp14f6) (show ivh6 a0 15 = iv a0 15 from kp15f6) (show ivh6 a0 16 = iv a0 16 from kp16f6) (show f6 = -1 from exf6) (show 1 ≤ ivh6 a0 11 ∧ ivh6 a0 11 ≤ 100 from W6.int t_a0 11) (show 1 ≤ ivh6 a0 12 ∧ ivh6 a0 12 ≤ 50 from W6.int t_a0 12) (show (-2147483648) ≤ ivh6 a0 13 ∧ ivh6 a0 13 ≤ 2147483647 from W6.int t_a0 13) (show (-2147483648) ≤ ivh6 a0 14 ∧ ivh6 a0 14 ≤ 2147483647 from W6.int t_a0 14) (show (-2147483648) ≤ ivh6 a0 15 ∧ ivh6 a0 15 ≤ 2147483647 from W6.int t_a0 15) (show (-2147483648) ≤ ivh6 a0 16 ∧ ivh6 a0 16 ≤ 2147483647 from W6.int t_a0 16) (fun gk11f6 gk12f6 gk13f6 gk14f6 gk15f6 gk16f6 gf6 ri46 ri47 ri48 ri49 ri50 ri51 => ?_)
    exact c_iret C dX11_cellOfLine_25 rfl (by decide) (rom0 hph hph (by decide)) ⟨f6, rfl, rfl, rfl, rfl, rfl, F4, W6, ⟨by omega, by omega⟩, trivial, (by omega), (by omega), (by omega), (by omega), (by omega), (by omega)⟩
set_option maxHeartbeats 4000000 in
set_option maxRecDepth 100000 in
theorem C_cell {l : Launch} {G : GT} {mi : Nat} {sk : Nat → Nat} {L : List Nat} {cl ln : Nat → Nat} {iv : Nat → Nat → Int} {rv : Nat → Nat → Option Nat}  {a0 : Nat} {i : Int} {j : Int} (hW : WT (g0 G) sk L cl ln iv rv) (hS : SKL sk L cl) (t_a0 : ty L cl a0 1) (h_i : -2147483648 ≤ i ∧ i ≤ 2147483647) (h_j : -2147483648 ≤ j ∧ j ≤ 2147483647)  : Mc l G mi (Phi (g0 G) sk) PHM yX11_cell cX11_cell 3 (some .int) 3 [.ref a0, .int (iI i), .int (iI j)] L cl ln iv rv 0 (fun v L2 cl2 ln2 iv2 rv2 => ∃ f : Int, v = some (.int (iI f)) ∧ L = L2 ∧ cl = cl2 ∧ ln = ln2 ∧ rv = rv2 ∧ fT [1] L cl iv rv iv2 rv2 ∧ WT (g0 G) sk L2 cl2 ln2 iv2 rv2 ∧ (-2147483648 ≤ f ∧ f ≤ 2147483647) ∧ (True) ∧ iv2 a0 11 = iv a0 11 ∧ iv2 a0 12 = iv a0 12 ∧ iv2 a0 13 = iv a0 13 ∧ iv2 a0 14 = iv a0 14 ∧ iv2 a0 15 = iv a0 15 ∧ iv2 a0 16 = iv a0 16) := by
  refine Mc.mk (by decide) (Nat.le_of_ble_eq_true rfl) ?_
  intro p e s m args below meth c A C hM
  refine hv3 (Phi.le hW hS) (show XT L cl ln L cl ln from XT.refl) (show fT [1] L cl iv rv iv rv from fT.refl) (fun hph hX0 hF0 => ?_)
  refine c_aload_n (j := 0) (x := a0) C dX11_cell_0 rfl ?_
  refine c_iload_n (j := 1) C dX11_cell_1 rfl ?_
  refine c_iload_n (j := 2) C dX11_cell_2 rfl ?_
  refine d_callV (As := [.int (iI i), .int (iI j)]) (rest := []) C hM (C_cellOfLine (a0 := a0) (i := i) (j := j) hW hS t_a0 (by omega) (by omega) ) dX11_cell_3 kV_X11_298 rfl t_a0 rfl rfl (by decide) ck_12 rfl (Nat.le_of_ble_eq_true rfl) ⟨(Nat.le_of_ble_eq_true rfl), (Nat.le_of_ble_eq_true rfl)⟩ hph hph (show 0 + 0 = 0 from rfl) (by decide) (fun rh1 Lh1 clh1 lnh1 ivh1 rvh1 h1 => ?_)
  obtain ⟨f1, rfl, rfl, rfl, rfl, rfl, fl1, W1, rgf1, exf1, kp11f1, kp12f1, kp13f1, kp14f1, kp15f1, kp16f1⟩ := h1
  refine hv7 (show 1 ≤ iv a0 11 ∧ iv a0 11 ≤ 100 from hW.int t_a0 11) (show 1 ≤ iv a0 12 ∧ iv a0 12 ≤ 50 from hW.int t_a0 12) (show (-2147483648) ≤ iv a0 13 ∧ iv a0 13 ≤ 2147483647 from hW.int t_a0 13) (show (-2147483648) ≤ iv a0 14 ∧ iv a0 14 ≤ 2147483647 from hW.int t_a0 14) (show (-2147483648) ≤ iv a0 15 ∧ iv a0 15 ≤ 2147483647 from hW.int t_a0 15) (show (-2147483648) ≤ iv a0 16 ∧ iv a0 16 ≤ 2147483647 from hW.int t_a0 16) (hF0.call hX0 fl1 rfl) (fun ri1 ri2 ri3 ri4 ri5 ri6 F1 => ?_)
  refine c_st (st2 := [.int (iI f1)]) rfl ?_
  refine hv12 (show ivh1 a0 11 = iv a0 11 from kp11f1) (show ivh1 a0 12 = iv a0 12 from kp12f1) (show ivh1 a0 13 = iv a0 13 from kp13f1) (show ivh1 a0 14 = iv a0 14 from kp14f1) (show ivh1 a0 15 = iv a0 15 from kp15f1) (show ivh1 a0 16 = iv a0 16 from kp16f1) (show 1 ≤ ivh1 a0 11 ∧ ivh1 a0 11 ≤ 100 from W1.int t_a0 11) (show 1 ≤ ivh1 a0 12 ∧ ivh1 a0 12 ≤ 50 from W1.int t_a0 12) (show (-2147483648) ≤ ivh1 a0 13 ∧ ivh1 a0 13 ≤ 2147483647 from W1.int t_a0 13) (show (-2147483648) ≤ ivh1 a0 14 ∧ ivh1 a0 14 ≤ 2147483647 from W1.int t_a0 14) (show (-2147483648) ≤ ivh1 a0 15 ∧ ivh1 a0 15 ≤ 2147483647 from W1.int t_a0 15) (show (-2147483648) ≤ ivh1 a0 16 ∧ ivh1 a0 16 ≤ 2147483647 from W1.int t_a0 16) (fun gk11f1 gk12f1 gk13f1 gk14f1 gk15f1 gk16f1 ri7 ri8 ri9 ri10 ri11 ri12 => ?_)
  exact c_iret C dX11_cell_6 rfl (by decide) (rom0 hph hph (by decide)) ⟨f1, rfl, rfl, rfl, rfl, rfl, F1, W1, ⟨by omega, by omega⟩, trivial, (by omega), (by omega), (by omega), (by omega), (by omega), (by omega)⟩
set_option maxHeartbeats 4000000 in
set_option maxRecDepth 100000 in
theorem C_page {l : Launch} {G : GT} {mi : Nat} {sk : Nat → Nat} {L : List Nat} {cl ln : Nat → Nat} {iv : Nat → Nat → Int} {rv : Nat → Nat → Option Nat}  {a0 : Nat} {i : Int} {j : Int} {k : Int} (hW : WT (g0 G) sk L cl ln iv rv) (hS : SKL sk L cl) (t_a0 : ty L cl a0 1) (h_i : -2147483648 ≤ i ∧ i ≤ 2147483647) (h_j : -2147483648 ≤ j ∧ j ≤ 2147483647) (h_k : -2147483648 ≤ k ∧ k ≤ 2147483647)  : Mc l G mi (Phi (g0 G) sk) PHM yX11_page cX11_page 5 (some .int) 3 [.ref a0, .int (iI i), .int (iI j), .int (iI k)] L cl ln iv rv 0 (fun v L2 cl2 ln2 iv2 rv2 => ∃ f : Int, v = some (.int (iI f)) ∧ L = L2 ∧ cl = cl2 ∧ ln = ln2 ∧ rv = rv2 ∧ fT [1] L cl iv rv iv2 rv2 ∧ WT (g0 G) sk L2 cl2 ln2 iv2 rv2 ∧ (-2147483648 ≤ f ∧ f ≤ 2147483647) ∧ (True) ∧ iv2 a0 11 = iv a0 11 ∧ iv2 a0 12 = iv a0 12 ∧ iv2 a0 13 = iv a0 13 ∧ iv2 a0 14 = iv a0 14 ∧ iv2 a0 15 = iv a0 15 ∧ iv2 a0 16 = iv a0 16) := by
  refine Mc.mk (by decide) (Nat.le_of_ble_eq_true rfl) ?_
  intro p e s m args below meth c A C hM
  refine hv14 (Phi.le hW hS) (show ty L cl (sk 2) 2 from ⟨(hS 2 rfl).1, by rw [(hS 2 rfl).2]; rfl⟩) (show ty L cl (sk 3) 3 from ⟨(hS 3 rfl).1, by rw [(hS 3 rfl).2]; rfl⟩) (show ty L cl (sk 4) 4 from ⟨(hS 4 rfl).1, by rw [(hS 4 rfl).2]; rfl⟩) (show ty L cl (sk 5) 5 from ⟨(hS 5 rfl).1, by rw [(hS 5 rfl).2]; rfl⟩) (show ty L cl (sk 13) 13 from ⟨(hS 13 rfl).1, by rw [(hS 13 rfl).2]; rfl⟩) (show ty L cl (sk 14) 14 from ⟨(hS 14 rfl).1, by rw [(hS 14 rfl).2]; rfl⟩) (show ty L cl (sk 15) 15 from ⟨(hS 15 rfl).1, by rw [(hS 15 rfl).2]; rfl⟩) (show ty L cl (sk 16) 16 from ⟨(hS 16 rfl).1, by rw [(hS 16 rfl).2]; rfl⟩) (show ty L cl (sk 17) 17 from ⟨(hS 17 rfl).1, by rw [(hS 17 rfl).2]; rfl⟩) (show ty L cl (sk 22) 22 from ⟨(hS 22 rfl).1, by rw [(hS 22 rfl).2]; rfl⟩) (show ty L cl (sk 23) 23 from ⟨(hS 23 rfl).1, by rw [(hS 23 rfl).2]; rfl⟩) (show XT L cl ln L cl ln from XT.refl) (show fT [1] L cl iv rv iv rv from fT.refl) (fun hph tsk2 tsk3 tsk4 tsk5 tsk13 tsk14 tsk15 tsk16 tsk17 tsk22 tsk23 hX0 hF0 => ?_)
  refine c_iload_n (j := 1) C dX11_page_0 rfl ?_
  refine c_if_lt (tgt := 24) C ⟨by omega, by omega⟩ dX11_page_1 (by decide) (fun c1 => ?_) (fun c1 => ?_)
  · refine c_aload_n (j := 0) (x := a0) C dX11_page_24 rfl ?_
    refine c_iconst C dX11_page_25 ?_
    refine d_callV (As := [.int (iI 2)]) (rest := []) C hM (C_refuse (a0 := a0) (x := 2) hW hS t_a0 ⟨by decide, by decide⟩ ) dX11_page_26 kV_X11_102 rfl t_a0 rfl rfl (by decide) ck_12 rfl (Nat.le_of_ble_eq_true rfl) ⟨(Nat.le_of_ble_eq_true rfl), (Nat.le_of_ble_eq_true rfl)⟩ hph hph (show 0 + 0 = 0 from rfl) (by decide) (fun rh1 Lh1 clh1 lnh1 ivh1 rvh1 h1 => ?_)
    obtain ⟨f1, rfl, rfl, rfl, rfl, rfl, fl1, W1, rgf1, exf1, kp11f1, kp12f1, kp13f1, kp14f1, kp15f1, kp16f1⟩ := h1
    refine hv7 (show 1 ≤ iv a0 11 ∧ iv a0 11 ≤ 100 from hW.int t_a0 11) (show 1 ≤ iv a0 12 ∧ iv a0 12 ≤ 50 from hW.int t_a0 12) (show (-2147483648) ≤ iv a0 13 ∧ iv a0 13 ≤ 2147483647 from hW.int t_a0 13) (show (-2147483648) ≤ iv a0 14 ∧ iv a0 14 ≤ 2147483647 from hW.int t_a0 14) (show (-2147483648) ≤ iv a0 15 ∧ iv a0 15 ≤ 2147483647 from hW.int t_a0 15) (show (-2147483648) ≤ iv a0 16 ∧ iv a0 16 ≤ 2147483647 from hW.int t_a0 16) (hF0.call hX0 fl1 rfl) (fun ri1 ri2 ri3 ri4 ri5 ri6 F1 => ?_)
    refine c_st (st2 := [.int (iI f1)]) rfl ?_
    refine hv13 (show ivh1 a0 11 = iv a0 11 from kp11f1) (show ivh1 a0 12 = iv a0 12 from kp12f1) (show ivh1 a0 13 = iv a0 13 from kp13f1) (show ivh1 a0 14 = iv a0 14 from kp14f1) (show ivh1 a0 15 = iv a0 15 from kp15f1) (show ivh1 a0 16 = iv a0 16 from kp16f1) (show f1 = -1 from exf1) (show 1 ≤ ivh1 a0 11 ∧ ivh1 a0 11 ≤ 100 from W1.int t_a0 11) (show 1 ≤ ivh1 a0 12 ∧ ivh1 a0 12 ≤ 50 from W1.int t_a0 12) (show (-2147483648) ≤ ivh1 a0 13 ∧ ivh1 a0 13 ≤ 2147483647 from W1.int t_a0 13) (show (-2147483648) ≤ ivh1 a0 14 ∧ ivh1 a0 14 ≤ 2147483647 from W1.int t_a0 14) (show (-2147483648) ≤ ivh1 a0 15 ∧ ivh1 a0 15 ≤ 2147483647 from W1.int t_a0 15) (show (-2147483648) ≤ ivh1 a0 16 ∧ ivh1 a0 16 ≤ 2147483647 from W1.int t_a0 16) (fun gk11f1 gk12f1 gk13f1 gk14f1 gk15f1 gk16f1 gf1 ri7 ri8 ri9 ri10 ri11 ri12 => ?_)
    exact c_iret C dX11_page_29 rfl (by decide) (rom0 hph hph (by decide)) ⟨f1, rfl, rfl, rfl, rfl, rfl, F1, W1, ⟨by omega, by omega⟩, trivial, (by omega), (by omega), (by omega), (by omega), (by omega), (by omega)⟩
  · refine c_iload_n (j := 1) C dX11_page_4 rfl ?_
    refine c_aload_n (j := 0) (x := a0) C dX11_page_5 rfl ?_
    refine d_callV (As := []) (rest := [.int (iI i)]) C hM (C_pages (a0 := a0) hW hS t_a0  ) dX11_page_6 kV_X11_302 rfl t_a0 rfl rfl (by decide) ck_12 rfl (Nat.le_of_ble_eq_true rfl) ⟨(Nat.le_of_ble_eq_true rfl), (Nat.le_of_ble_eq_true rfl)⟩ hph hph (show 0 + 0 = 0 from rfl) (by decide) (fun rh2 Lh2 clh2 lnh2 ivh2 rvh2 h2 => ?_)
    obtain ⟨f2, rfl, rfl, rfl, rfl, rfl, rfl, rgf2, exf2⟩ := h2
    refine c_st (st2 := [.int (iI f2), .int (iI i)]) rfl ?_
    refine c_icmp_ge (tgt := 24) C ⟨by omega, by omega⟩ ⟨by omega, by omega⟩ dX11_page_9 (by decide) (fun c2 => ?_) (fun c2 => ?_)
    · refine c_aload_n (j := 0) (x := a0) C dX11_page_24 rfl ?_
      refine c_iconst C dX11_page_25 ?_
      refine d_callV (As := [.int (iI 2)]) (rest := []) C hM (C_refuse (a0 := a0) (x := 2) hW hS t_a0 ⟨by decide, by decide⟩ ) dX11_page_26 kV_X11_102 rfl t_a0 rfl rfl (by decide) ck_12 rfl (Nat.le_of_ble_eq_true rfl) ⟨(Nat.le_of_ble_eq_true rfl), (Nat.le_of_ble_eq_true rfl)⟩ hph hph (show 0 + 0 = 0 from rfl) (by decide) (fun rh3 Lh3 clh3 lnh3 ivh3 rvh3 h3 => ?_)
      obtain ⟨f3, rfl, rfl, rfl, rfl, rfl, fl3, W3, rgf3, exf3, kp11f3, kp12f3, kp13f3, kp14f3, kp15f3, kp16f3⟩ := h3
      refine hv7 (show 1 ≤ iv a0 11 ∧ iv a0 11 ≤ 100 from hW.int t_a0 11) (show 1 ≤ iv a0 12 ∧ iv a0 12 ≤ 50 from hW.int t_a0 12) (show (-2147483648) ≤ iv a0 13 ∧ iv a0 13 ≤ 2147483647 from hW.int t_a0 13) (show (-2147483648) ≤ iv a0 14 ∧ iv a0 14 ≤ 2147483647 from hW.int t_a0 14) (show (-2147483648) ≤ iv a0 15 ∧ iv a0 15 ≤ 2147483647 from hW.int t_a0 15) (show (-2147483648) ≤ iv a0 16 ∧ iv a0 16 ≤ 2147483647 from hW.int t_a0 16) (hF0.call hX0 fl3 rfl) (fun ri13 ri14 ri15 ri16 ri17 ri18 F2 => ?_)
      refine c_st (st2 := [.int (iI f3)]) rfl ?_
      refine hv13 (show ivh3 a0 11 = iv a0 11 from kp11f3) (show ivh3 a0 12 = iv a0 12 from kp12f3) (show ivh3 a0 13 = iv a0 13 from kp13f3) (show ivh3 a0 14 = iv a0 14 from kp14f3) (show ivh3 a0 15 = iv a0 15 from kp15f3) (show ivh3 a0 16 = iv a0 16 from kp16f3) (show f3 = -1 from exf3) (show 1 ≤ ivh3 a0 11 ∧ ivh3 a0 11 ≤ 100 from W3.int t_a0 11) (show 1 ≤ ivh3 a0 12 ∧ ivh3 a0 12 ≤ 50 from W3.int t_a0 12) (show (-2147483648) ≤ ivh3 a0 13 ∧ ivh3 a0 13 ≤ 2147483647 from W3.int t_a0 13) (show (-2147483648) ≤ ivh3 a0 14 ∧ ivh3 a0 14 ≤ 2147483647 from W3.int t_a0 14) (show (-2147483648) ≤ ivh3 a0 15 ∧ ivh3 a0 15 ≤ 2147483647 from W3.int t_a0 15) (show (-2147483648) ≤ ivh3 a0 16 ∧ ivh3 a0 16 ≤ 2147483647 from W3.int t_a0 16) (fun gk11f3 gk12f3 gk13f3 gk14f3 gk15f3 gk16f3 gf3 ri19 ri20 ri21 ri22 ri23 ri24 => ?_)
      exact c_iret C dX11_page_29 rfl (by decide) (rom0 hph hph (by decide)) ⟨f3, rfl, rfl, rfl, rfl, rfl, F2, W3, ⟨by omega, by omega⟩, trivial, (by omega), (by omega), (by omega), (by omega), (by omega), (by omega)⟩
    · refine c_iload_n (j := 2) C dX11_page_12 rfl ?_
      refine c_if_lt (tgt := 24) C ⟨by omega, by omega⟩ dX11_page_13 (by decide) (fun c3 => ?_) (fun c3 => ?_)
      · refine c_aload_n (j := 0) (x := a0) C dX11_page_24 rfl ?_
        refine c_iconst C dX11_page_25 ?_
        refine d_callV (As := [.int (iI 2)]) (rest := []) C hM (C_refuse (a0 := a0) (x := 2) hW hS t_a0 ⟨by decide, by decide⟩ ) dX11_page_26 kV_X11_102 rfl t_a0 rfl rfl (by decide) ck_12 rfl (Nat.le_of_ble_eq_true rfl) ⟨(Nat.le_of_ble_eq_true rfl), (Nat.le_of_ble_eq_true rfl)⟩ hph hph (show 0 + 0 = 0 from rfl) (by decide) (fun rh4 Lh4 clh4 lnh4 ivh4 rvh4 h4 => ?_)
        obtain ⟨f4, rfl, rfl, rfl, rfl, rfl, fl4, W4, rgf4, exf4, kp11f4, kp12f4, kp13f4, kp14f4, kp15f4, kp16f4⟩ := h4
        refine hv7 (show 1 ≤ iv a0 11 ∧ iv a0 11 ≤ 100 from hW.int t_a0 11) (show 1 ≤ iv a0 12 ∧ iv a0 12 ≤ 50 from hW.int t_a0 12) (show (-2147483648) ≤ iv a0 13 ∧ iv a0 13 ≤ 2147483647 from hW.int t_a0 13) (show (-2147483648) ≤ iv a0 14 ∧ iv a0 14 ≤ 2147483647 from hW.int t_a0 14) (show (-2147483648) ≤ iv a0 15 ∧ iv a0 15 ≤ 2147483647 from hW.int t_a0 15) (show (-2147483648) ≤ iv a0 16 ∧ iv a0 16 ≤ 2147483647 from hW.int t_a0 16) (hF0.call hX0 fl4 rfl) (fun ri25 ri26 ri27 ri28 ri29 ri30 F3 => ?_)
        refine c_st (st2 := [.int (iI f4)]) rfl ?_
        refine hv13 (show ivh4 a0 11 = iv a0 11 from kp11f4) (show ivh4 a0 12 = iv a0 12 from kp12f4) (show ivh4 a0 13 = iv a0 13 from kp13f4) (show ivh4 a0 14 = iv a0 14 from kp14f4) (show ivh4 a0 15 = iv a0 15 from kp15f4) (show ivh4 a0 16 = iv a0 16 from kp16f4) (show f4 = -1 from exf4) (show 1 ≤ ivh4 a0 11 ∧ ivh4 a0 11 ≤ 100 from W4.int t_a0 11) (show 1 ≤ ivh4 a0 12 ∧ ivh4 a0 12 ≤ 50 from W4.int t_a0 12) (show (-2147483648) ≤ ivh4 a0 13 ∧ ivh4 a0 13 ≤ 2147483647 from W4.int t_a0 13) (show (-2147483648) ≤ ivh4 a0 14 ∧ ivh4 a0 14 ≤ 2147483647 from W4.int t_a0 14) (show (-2147483648) ≤ ivh4 a0 15 ∧ ivh4 a0 15 ≤ 2147483647 from W4.int t_a0 15) (show (-2147483648) ≤ ivh4 a0 16 ∧ ivh4 a0 16 ≤ 2147483647 from W4.int t_a0 16) (fun gk11f4 gk12f4 gk13f4 gk14f4 gk15f4 gk16f4 gf4 ri31 ri32 ri33 ri34 ri35 ri36 => ?_)
        exact c_iret C dX11_page_29 rfl (by decide) (rom0 hph hph (by decide)) ⟨f4, rfl, rfl, rfl, rfl, rfl, F3, W4, ⟨by omega, by omega⟩, trivial, (by omega), (by omega), (by omega), (by omega), (by omega), (by omega)⟩
      · refine c_iload_n (j := 2) C dX11_page_16 rfl ?_
        refine c_aload_n (j := 0) (x := a0) C dX11_page_17 rfl ?_
        have ri37 : 1 ≤ iv a0 12 ∧ iv a0 12 ≤ 50 := hW.int t_a0 12
        refine c_get (k := 12) C ck_12 dX11_page_18 w2_56 (by decide) t_a0 rfl rfl (by decide) rfl ?_
        refine c_icmp_lt (tgt := 30) C ⟨by omega, by omega⟩ ⟨by omega, by omega⟩ dX11_page_21 (by decide) (fun c4 => ?_) (fun c4 => ?_)
        · refine c_aload_n (j := 0) (x := a0) C dX11_page_30 rfl ?_
          refine d_callV (As := []) (rest := []) C hM (C_hasHeader (a0 := a0) hW hS t_a0  ) dX11_page_31 kV_X11_285 rfl t_a0 rfl rfl (by decide) ck_12 rfl (Nat.le_of_ble_eq_true rfl) ⟨(Nat.le_of_ble_eq_true rfl), (Nat.le_of_ble_eq_true rfl)⟩ hph hph (show 0 + 0 = 0 from rfl) (by decide) (fun rh5 Lh5 clh5 lnh5 ivh5 rvh5 h5 => ?_)
          obtain ⟨f5, rfl, rfl, rfl, rfl, rfl, rfl, rgf5, exf5⟩ := h5
          refine c_st (st2 := [.int (iI f5)]) rfl ?_
          have gf5 : f5 = 0 ∨ 2 ≤ iv a0 12 := exf5
          refine c_if_eq (tgt := 41) C ⟨by omega, by omega⟩ dX11_page_34 (by decide) (fun c5 => ?_) (fun c5 => ?_)
          · refine c_iconst C dX11_page_41 ?_
            refine c_istore (lv2 := [(4, .int (iI 0)), (0, .ref a0), (1, .int (iI i)), (2, .int (iI j)), (3, .int (iI k))]) C dX11_page_42 (by decide) rfl ?_
            refine c_iload_n (j := 3) C dX11_page_44 rfl ?_
            refine c_iload (j := 0) C dX11_page_45 rfl ?_
            refine c_icmp_ge (tgt := 86) C ⟨by omega, by omega⟩ ⟨by decide, by decide⟩ dX11_page_47 (by decide) (fun c6 => ?_) (fun c6 => ?_)
            · refine c_aload_n (j := 1) (x := a0) C dX11_page_86 rfl ?_
              refine c_iload_n (j := 2) C dX11_page_87 rfl ?_
              refine c_aload_n (j := 1) (x := a0) C dX11_page_88 rfl ?_
              refine d_callV (As := []) (rest := [.int (iI i), .ref a0]) C hM (C_linesOfPage (a0 := a0) hW hS t_a0  ) dX11_page_89 kV_X11_282 rfl t_a0 rfl rfl (by decide) ck_12 rfl (Nat.le_of_ble_eq_true rfl) ⟨(Nat.le_of_ble_eq_true rfl), (Nat.le_of_ble_eq_true rfl)⟩ hph hph (show 0 + 0 = 0 from rfl) (by decide) (fun rh6 Lh6 clh6 lnh6 ivh6 rvh6 h6 => ?_)
              obtain ⟨f6, rfl, rfl, rfl, rfl, rfl, rfl, rgf6, exf6⟩ := h6
              refine c_st (st2 := [.int (iI f6), .int (iI i), .ref a0]) rfl ?_
              have gf6 : 1 ≤ f6 ∧ f6 ≤ 50 := exf6
              refine c_imul C dX11_page_92 ?_
              obtain ⟨zz1, hzz1, ezz1⟩ := iI_of (iI (i * f6))
              refine c_st (st2 := [.int (iI zz1), .ref a0]) (by rw [ezz1]) ?_
              refine c_iload_n (j := 3) C dX11_page_93 rfl ?_
              refine c_iadd C dX11_page_94 ?_
              obtain ⟨zz2, hzz2, ezz2⟩ := iI_of (iI (zz1 + j))
              refine c_st (st2 := [.int (iI zz2), .ref a0]) (by rw [ezz2]) ?_
              refine c_iload (j := 0) C dX11_page_95 rfl ?_
              refine c_isub C dX11_page_97 ?_
              obtain ⟨zz3, hzz3, ezz3⟩ := iI_of (iI (zz2 - 0))
              refine c_st (st2 := [.int (iI zz3), .ref a0]) (by rw [ezz3]) ?_
              refine c_iload_n (j := 4) C dX11_page_98 rfl ?_
              refine d_callV (As := [.int (iI zz3), .int (iI k)]) (rest := []) C hM (C_cellOfLine (a0 := a0) (i := zz3) (j := k) hW hS t_a0 (by omega) (by omega) ) dX11_page_99 kV_X11_298 rfl t_a0 rfl rfl (by decide) ck_12 rfl (Nat.le_of_ble_eq_true rfl) ⟨(Nat.le_of_ble_eq_true rfl), (Nat.le_of_ble_eq_true rfl)⟩ hph hph (show 0 + 0 = 0 from rfl) (by decide) (fun rh7 Lh7 clh7 lnh7 ivh7 rvh7 h7 => ?_)
              obtain ⟨f7, rfl, rfl, rfl, rfl, rfl, fl7, W7, rgf7, exf7, kp11f7, kp12f7, kp13f7, kp14f7, kp15f7, kp16f7⟩ := h7
              refine hv6 (show 1 ≤ iv a0 11 ∧ iv a0 11 ≤ 100 from hW.int t_a0 11) (show (-2147483648) ≤ iv a0 13 ∧ iv a0 13 ≤ 2147483647 from hW.int t_a0 13) (show (-2147483648) ≤ iv a0 14 ∧ iv a0 14 ≤ 2147483647 from hW.int t_a0 14) (show (-2147483648) ≤ iv a0 15 ∧ iv a0 15 ≤ 2147483647 from hW.int t_a0 15) (show (-2147483648) ≤ iv a0 16 ∧ iv a0 16 ≤ 2147483647 from hW.int t_a0 16) (hF0.call hX0 fl7 rfl) (fun ri38 ri39 ri40 ri41 ri42 F4 => ?_)
              refine c_st (st2 := [.int (iI f7)]) rfl ?_
              refine hv12 (show ivh7 a0 11 = iv a0 11 from kp11f7) (show ivh7 a0 12 = iv a0 12 from kp12f7) (show ivh7 a0 13 = iv a0 13 from kp13f7) (show ivh7 a0 14 = iv a0 14 from kp14f7) (show ivh7 a0 15 = iv a0 15 from kp15f7) (show ivh7 a0 16 = iv a0 16 from kp16f7) (show 1 ≤ ivh7 a0 11 ∧ ivh7 a0 11 ≤ 100 from W7.int t_a0 11) (show 1 ≤ ivh7 a0 12 ∧ ivh7 a0 12 ≤ 50 from W7.int t_a0 12) (show (-2147483648) ≤ ivh7 a0 13 ∧ ivh7 a0 13 ≤ 2147483647 from W7.int t_a0 13) (show (-2147483648) ≤ ivh7 a0 14 ∧ ivh7 a0 14 ≤ 2147483647 from W7.int t_a0 14) (show (-2147483648) ≤ ivh7 a0 15 ∧ ivh7 a0 15 ≤ 2147483647 from W7.int t_a0 15) (show (-2147483648) ≤ ivh7 a0 16 ∧ ivh7 a0 16 ≤ 2147483647 from W7.int t_a0 16) (fun gk11f7 gk12f7 gk13f7 gk14f7 gk15f7 gk16f7 ri43 ri44 ri45 ri46 ri47 ri48 => ?_)
              exact c_iret C dX11_page_102 rfl (by decide) (rom0 hph hph (by decide)) ⟨f7, rfl, rfl, rfl, rfl, rfl, F4, W7, ⟨by omega, by omega⟩, trivial, (by omega), (by omega), (by omega), (by omega), (by omega), (by omega)⟩
            · refine c_iload_n (j := 4) C dX11_page_50 rfl ?_
              refine c_if_lt (tgt := 65) C ⟨by omega, by omega⟩ dX11_page_51 (by decide) (fun c7 => ?_) (fun c7 => ?_)
              · refine c_aload_n (j := 1) (x := a0) C dX11_page_65 rfl ?_
                refine c_iconst C dX11_page_66 ?_
                refine d_callV (As := [.int (iI 2)]) (rest := []) C hM (C_refuse (a0 := a0) (x := 2) hW hS t_a0 ⟨by decide, by decide⟩ ) dX11_page_67 kV_X11_102 rfl t_a0 rfl rfl (by decide) ck_12 rfl (Nat.le_of_ble_eq_true rfl) ⟨(Nat.le_of_ble_eq_true rfl), (Nat.le_of_ble_eq_true rfl)⟩ hph hph (show 0 + 0 = 0 from rfl) (by decide) (fun rh8 Lh8 clh8 lnh8 ivh8 rvh8 h8 => ?_)
                obtain ⟨f8, rfl, rfl, rfl, rfl, rfl, fl8, W8, rgf8, exf8, kp11f8, kp12f8, kp13f8, kp14f8, kp15f8, kp16f8⟩ := h8
                refine hv6 (show 1 ≤ iv a0 11 ∧ iv a0 11 ≤ 100 from hW.int t_a0 11) (show (-2147483648) ≤ iv a0 13 ∧ iv a0 13 ≤ 2147483647 from hW.int t_a0 13) (show (-2147483648) ≤ iv a0 14 ∧ iv a0 14 ≤ 2147483647 from hW.int t_a0 14) (show (-2147483648) ≤ iv a0 15 ∧ iv a0 15 ≤ 2147483647 from hW.int t_a0 15) (show (-2147483648) ≤ iv a0 16 ∧ iv a0 16 ≤ 2147483647 from hW.int t_a0 16) (hF0.call hX0 fl8 rfl) (fun ri49 ri50 ri51 ri52 ri53 F5 => ?_)
                refine c_st (st2 := [.int (iI f8)]) rfl ?_
                refine hv7 (show ivh8 a0 11 = iv a0 11 from kp11f8) (show ivh8 a0 12 = iv a0 12 from kp12f8) (show ivh8 a0 13 = iv a0 13 from kp13f8) (show ivh8 a0 14 = iv a0 14 from kp14f8) (show ivh8 a0 15 = iv a0 15 from kp15f8) (show ivh8 a0 16 = iv a0 16 from kp16f8) (show f8 = -1 from exf8) (fun gk11f8 gk12f8 gk13f8 gk14f8 gk15f8 gk16f8 gf8 => ?_)
                refine c_goto (tgt := 85) C dX11_page_70 (by decide) ?_
                refine hv6 (show 1 ≤ ivh8 a0 11 ∧ ivh8 a0 11 ≤ 100 from W8.int t_a0 11) (show 1 ≤ ivh8 a0 12 ∧ ivh8 a0 12 ≤ 50 from W8.int t_a0 12) (show (-2147483648) ≤ ivh8 a0 13 ∧ ivh8 a0 13 ≤ 2147483647 from W8.int t_a0 13) (show (-2147483648) ≤ ivh8 a0 14 ∧ ivh8 a0 14 ≤ 2147483647 from W8.int t_a0 14) (show (-2147483648) ≤ ivh8 a0 15 ∧ ivh8 a0 15 ≤ 2147483647 from W8.int t_a0 15) (show (-2147483648) ≤ ivh8 a0 16 ∧ ivh8 a0 16 ≤ 2147483647 from W8.int t_a0 16) (fun ri54 ri55 ri56 ri57 ri58 ri59 => ?_)
                exact c_iret C dX11_page_85 rfl (by decide) (rom0 hph hph (by decide)) ⟨f8, rfl, rfl, rfl, rfl, rfl, F5, W8, ⟨by omega, by omega⟩, trivial, (by omega), (by omega), (by omega), (by omega), (by omega), (by omega)⟩
              · refine c_iload_n (j := 4) C dX11_page_54 rfl ?_
                refine c_aload_n (j := 1) (x := a0) C dX11_page_55 rfl ?_
                obtain ⟨rb1, rq1, trb1⟩ := hW.ref t_a0 3 rfl rfl rfl
                have erb1 := hW.sk trb1 (by decide) rfl
                subst erb1
                refine c_getr (k := 3) C ck_12 dX11_page_56 w2_47 (by decide) t_a0 rfl rfl (by decide) rfl rq1 ?_
                refine c_st (st2 := [.ref (sk 5), .int (iI k)]) rfl ?_
                have ri60 : 0 ≤ iv (sk 5) 2 ∧ iv (sk 5) 2 ≤ 200 := hW.int tsk5 2
                refine c_get (k := 2) C ck_2 dX11_page_59 w1_44 (by decide) tsk5 rfl rfl (by decide) rfl ?_
                refine c_icmp_lt (tgt := 73) C ⟨by omega, by omega⟩ ⟨by omega, by omega⟩ dX11_page_62 (by decide) (fun c8 => ?_) (fun c8 => ?_)
                · refine c_aload_n (j := 1) (x := a0) C dX11_page_73 rfl ?_
                  refine c_aload_n (j := 1) (x := a0) C dX11_page_74 rfl ?_
                  refine c_getr (k := 3) C ck_12 dX11_page_75 w2_47 (by decide) t_a0 rfl rfl (by decide) rfl rq1 ?_
                  refine c_st (st2 := [.ref (sk 5), .ref a0]) rfl ?_
                  refine c_iload_n (j := 4) C dX11_page_78 rfl ?_
                  refine d_callV (As := [.int (iI k)]) (rest := [.ref a0]) C hM (C_at_5 (a0 := (sk 5)) (i := k) hW hS tsk5 (by omega) ) dX11_page_79 kV_X11_224 rfl tsk5 rfl rfl (by decide) ck_2 rfl (Nat.le_of_ble_eq_true rfl) ⟨(Nat.le_of_ble_eq_true rfl), (Nat.le_of_ble_eq_true rfl)⟩ hph hph (show 0 + 0 = 0 from rfl) (by decide) (fun rh9 Lh9 clh9 lnh9 ivh9 rvh9 h9 => ?_)
                  obtain ⟨f9, rfl, rfl, rfl, rfl, rfl, rfl, rgf9, exf9⟩ := h9
                  refine c_st (st2 := [.int (iI f9), .ref a0]) rfl ?_
                  have gf9 : ((0 ≤ k ∧ k < iv (sk 5) 2) ∨ f9 = 0) ∧ ∀ ss, CT iv rv (sk 5) ss → 0 ≤ k → k < iv (sk 5) 2 → f9 = ss k.toNat := exf9
                  refine d_callV (As := [.int (iI f9)]) (rest := []) C hM (C_done (a0 := a0) (x := f9) hW hS t_a0 (by omega) ) dX11_page_82 kV_X11_109 rfl t_a0 rfl rfl (by decide) ck_12 rfl (Nat.le_of_ble_eq_true rfl) ⟨(Nat.le_of_ble_eq_true rfl), (Nat.le_of_ble_eq_true rfl)⟩ hph hph (show 0 + 0 = 0 from rfl) (by decide) (fun rh10 Lh10 clh10 lnh10 ivh10 rvh10 h10 => ?_)
                  obtain ⟨f10, rfl, rfl, rfl, rfl, rfl, fl10, W10, rgf10, exf10, kp11f10, kp12f10, kp13f10, kp14f10, kp15f10, kp16f10⟩ := h10
                  refine hv6 (show 1 ≤ iv a0 11 ∧ iv a0 11 ≤ 100 from hW.int t_a0 11) (show (-2147483648) ≤ iv a0 13 ∧ iv a0 13 ≤ 2147483647 from hW.int t_a0 13) (show (-2147483648) ≤ iv a0 14 ∧ iv a0 14 ≤ 2147483647 from hW.int t_a0 14) (show (-2147483648) ≤ iv a0 15 ∧ iv a0 15 ≤ 2147483647 from hW.int t_a0 15) (show (-2147483648) ≤ iv a0 16 ∧ iv a0 16 ≤ 2147483647 from hW.int t_a0 16) (hF0.call hX0 fl10 rfl) (fun ri61 ri62 ri63 ri64 ri65 F6 => ?_)
                  refine c_st (st2 := [.int (iI f10)]) rfl ?_
                  refine hv13 (show ivh10 a0 11 = iv a0 11 from kp11f10) (show ivh10 a0 12 = iv a0 12 from kp12f10) (show ivh10 a0 13 = iv a0 13 from kp13f10) (show ivh10 a0 14 = iv a0 14 from kp14f10) (show ivh10 a0 15 = iv a0 15 from kp15f10) (show ivh10 a0 16 = iv a0 16 from kp16f10) (show f10 = f9 from exf10) (show 1 ≤ ivh10 a0 11 ∧ ivh10 a0 11 ≤ 100 from W10.int t_a0 11) (show 1 ≤ ivh10 a0 12 ∧ ivh10 a0 12 ≤ 50 from W10.int t_a0 12) (show (-2147483648) ≤ ivh10 a0 13 ∧ ivh10 a0 13 ≤ 2147483647 from W10.int t_a0 13) (show (-2147483648) ≤ ivh10 a0 14 ∧ ivh10 a0 14 ≤ 2147483647 from W10.int t_a0 14) (show (-2147483648) ≤ ivh10 a0 15 ∧ ivh10 a0 15 ≤ 2147483647 from W10.int t_a0 15) (show (-2147483648) ≤ ivh10 a0 16 ∧ ivh10 a0 16 ≤ 2147483647 from W10.int t_a0 16) (fun gk11f10 gk12f10 gk13f10 gk14f10 gk15f10 gk16f10 gf10 ri66 ri67 ri68 ri69 ri70 ri71 => ?_)
                  exact c_iret C dX11_page_85 rfl (by decide) (rom0 hph hph (by decide)) ⟨f10, rfl, rfl, rfl, rfl, rfl, F6, W10, ⟨by omega, by omega⟩, trivial, (by omega), (by omega), (by omega), (by omega), (by omega), (by omega)⟩
                · refine c_aload_n (j := 1) (x := a0) C dX11_page_65 rfl ?_
                  refine c_iconst C dX11_page_66 ?_
                  refine d_callV (As := [.int (iI 2)]) (rest := []) C hM (C_refuse (a0 := a0) (x := 2) hW hS t_a0 ⟨by decide, by decide⟩ ) dX11_page_67 kV_X11_102 rfl t_a0 rfl rfl (by decide) ck_12 rfl (Nat.le_of_ble_eq_true rfl) ⟨(Nat.le_of_ble_eq_true rfl), (Nat.le_of_ble_eq_true rfl)⟩ hph hph (show 0 + 0 = 0 from rfl) (by decide) (fun rh11 Lh11 clh11 lnh11 ivh11 rvh11 h11 => ?_)
                  obtain ⟨f11, rfl, rfl, rfl, rfl, rfl, fl11, W11, rgf11, exf11, kp11f11, kp12f11, kp13f11, kp14f11, kp15f11, kp16f11⟩ := h11
                  refine hv6 (show 1 ≤ iv a0 11 ∧ iv a0 11 ≤ 100 from hW.int t_a0 11) (show (-2147483648) ≤ iv a0 13 ∧ iv a0 13 ≤ 2147483647 from hW.int t_a0 13) (show (-2147483648) ≤ iv a0 14 ∧ iv a0 14 ≤ 2147483647 from hW.int t_a0 14) (show (-2147483648) ≤ iv a0 15 ∧ iv a0 15 ≤ 2147483647 from hW.int t_a0 15) (show (-2147483648) ≤ iv a0 16 ∧ iv a0 16 ≤ 2147483647 from hW.int t_a0 16) (hF0.call hX0 fl11 rfl) (fun ri72 ri73 ri74 ri75 ri76 F7 => ?_)
                  refine c_st (st2 := [.int (iI f11)]) rfl ?_
                  refine hv7 (show ivh11 a0 11 = iv a0 11 from kp11f11) (show ivh11 a0 12 = iv a0 12 from kp12f11) (show ivh11 a0 13 = iv a0 13 from kp13f11) (show ivh11 a0 14 = iv a0 14 from kp14f11) (show ivh11 a0 15 = iv a0 15 from kp15f11) (show ivh11 a0 16 = iv a0 16 from kp16f11) (show f11 = -1 from exf11) (fun gk11f11 gk12f11 gk13f11 gk14f11 gk15f11 gk16f11 gf11 => ?_)
                  refine c_goto (tgt := 85) C dX11_page_70 (by decide) ?_
                  refine hv6 (show 1 ≤ ivh11 a0 11 ∧ ivh11 a0 11 ≤ 100 from W11.int t_a0 11) (show 1 ≤ ivh11 a0 12 ∧ ivh11 a0 12 ≤ 50 from W11.int t_a0 12) (show (-2147483648) ≤ ivh11 a0 13 ∧ ivh11 a0 13 ≤ 2147483647 from W11.int t_a0 13) (show (-2147483648) ≤ ivh11 a0 14 ∧ ivh11 a0 14 ≤ 2147483647 from W11.int t_a0 14) (show (-2147483648) ≤ ivh11 a0 15 ∧ ivh11 a0 15 ≤ 2147483647 from W11.int t_a0 15) (show (-2147483648) ≤ ivh11 a0 16 ∧ ivh11 a0 16 ≤ 2147483647 from W11.int t_a0 16) (fun ri77 ri78 ri79 ri80 ri81 ri82 => ?_)
                  exact c_iret C dX11_page_85 rfl (by decide) (rom0 hph hph (by decide)) ⟨f11, rfl, rfl, rfl, rfl, rfl, F7, W11, ⟨by omega, by omega⟩, trivial, (by omega), (by omega), (by omega), (by omega), (by omega), (by omega)⟩
          · refine c_iconst C dX11_page_37 ?_
            refine c_goto (tgt := 42) C dX11_page_38 (by decide) ?_
            refine c_istore (lv2 := [(4, .int (iI 1)), (0, .ref a0), (1, .int (iI i)), (2, .int (iI j)), (3, .int (iI k))]) C dX11_page_42 (by decide) rfl ?_
            refine c_iload_n (j := 3) C dX11_page_44 rfl ?_
            refine c_iload (j := 0) C dX11_page_45 rfl ?_
            refine c_icmp_ge (tgt := 86) C ⟨by omega, by omega⟩ ⟨by decide, by decide⟩ dX11_page_47 (by decide) (fun c9 => ?_) (fun c9 => ?_)
            · refine c_aload_n (j := 1) (x := a0) C dX11_page_86 rfl ?_
              refine c_iload_n (j := 2) C dX11_page_87 rfl ?_
              refine c_aload_n (j := 1) (x := a0) C dX11_page_88 rfl ?_
              refine d_callV (As := []) (rest := [.int (iI i), .ref a0]) C hM (C_linesOfPage (a0 := a0) hW hS t_a0  ) dX11_page_89 kV_X11_282 rfl t_a0 rfl rfl (by decide) ck_12 rfl (Nat.le_of_ble_eq_true rfl) ⟨(Nat.le_of_ble_eq_true rfl), (Nat.le_of_ble_eq_true rfl)⟩ hph hph (show 0 + 0 = 0 from rfl) (by decide) (fun rh12 Lh12 clh12 lnh12 ivh12 rvh12 h12 => ?_)
              obtain ⟨f12, rfl, rfl, rfl, rfl, rfl, rfl, rgf12, exf12⟩ := h12
              refine c_st (st2 := [.int (iI f12), .int (iI i), .ref a0]) rfl ?_
              have gf12 : 1 ≤ f12 ∧ f12 ≤ 50 := exf12
              refine c_imul C dX11_page_92 ?_
              obtain ⟨zz4, hzz4, ezz4⟩ := iI_of (iI (i * f12))
              refine c_st (st2 := [.int (iI zz4), .ref a0]) (by rw [ezz4]) ?_
              refine c_iload_n (j := 3) C dX11_page_93 rfl ?_
              refine c_iadd C dX11_page_94 ?_
              obtain ⟨zz5, hzz5, ezz5⟩ := iI_of (iI (zz4 + j))
              refine c_st (st2 := [.int (iI zz5), .ref a0]) (by rw [ezz5]) ?_
              refine c_iload (j := 0) C dX11_page_95 rfl ?_
              refine c_isub C dX11_page_97 ?_
              obtain ⟨zz6, hzz6, ezz6⟩ := iI_of (iI (zz5 - 1))
              refine c_st (st2 := [.int (iI zz6), .ref a0]) (by rw [ezz6]) ?_
              refine c_iload_n (j := 4) C dX11_page_98 rfl ?_
              refine d_callV (As := [.int (iI zz6), .int (iI k)]) (rest := []) C hM (C_cellOfLine (a0 := a0) (i := zz6) (j := k) hW hS t_a0 (by omega) (by omega) ) dX11_page_99 kV_X11_298 rfl t_a0 rfl rfl (by decide) ck_12 rfl (Nat.le_of_ble_eq_true rfl) ⟨(Nat.le_of_ble_eq_true rfl), (Nat.le_of_ble_eq_true rfl)⟩ hph hph (show 0 + 0 = 0 from rfl) (by decide) (fun rh13 Lh13 clh13 lnh13 ivh13 rvh13 h13 => ?_)
              obtain ⟨f13, rfl, rfl, rfl, rfl, rfl, fl13, W13, rgf13, exf13, kp11f13, kp12f13, kp13f13, kp14f13, kp15f13, kp16f13⟩ := h13
              refine hv6 (show 1 ≤ iv a0 11 ∧ iv a0 11 ≤ 100 from hW.int t_a0 11) (show (-2147483648) ≤ iv a0 13 ∧ iv a0 13 ≤ 2147483647 from hW.int t_a0 13) (show (-2147483648) ≤ iv a0 14 ∧ iv a0 14 ≤ 2147483647 from hW.int t_a0 14) (show (-2147483648) ≤ iv a0 15 ∧ iv a0 15 ≤ 2147483647 from hW.int t_a0 15) (show (-2147483648) ≤ iv a0 16 ∧ iv a0 16 ≤ 2147483647 from hW.int t_a0 16) (hF0.call hX0 fl13 rfl) (fun ri83 ri84 ri85 ri86 ri87 F8 => ?_)
              refine c_st (st2 := [.int (iI f13)]) rfl ?_
              refine hv12 (show ivh13 a0 11 = iv a0 11 from kp11f13) (show ivh13 a0 12 = iv a0 12 from kp12f13) (show ivh13 a0 13 = iv a0 13 from kp13f13) (show ivh13 a0 14 = iv a0 14 from kp14f13) (show ivh13 a0 15 = iv a0 15 from kp15f13) (show ivh13 a0 16 = iv a0 16 from kp16f13) (show 1 ≤ ivh13 a0 11 ∧ ivh13 a0 11 ≤ 100 from W13.int t_a0 11) (show 1 ≤ ivh13 a0 12 ∧ ivh13 a0 12 ≤ 50 from W13.int t_a0 12) (show (-2147483648) ≤ ivh13 a0 13 ∧ ivh13 a0 13 ≤ 2147483647 from W13.int t_a0 13) (show (-2147483648) ≤ ivh13 a0 14 ∧ ivh13 a0 14 ≤ 2147483647 from W13.int t_a0 14) (show (-2147483648) ≤ ivh13 a0 15 ∧ ivh13 a0 15 ≤ 2147483647 from W13.int t_a0 15) (show (-2147483648) ≤ ivh13 a0 16 ∧ ivh13 a0 16 ≤ 2147483647 from W13.int t_a0 16) (fun gk11f13 gk12f13 gk13f13 gk14f13 gk15f13 gk16f13 ri88 ri89 ri90 ri91 ri92 ri93 => ?_)
              exact c_iret C dX11_page_102 rfl (by decide) (rom0 hph hph (by decide)) ⟨f13, rfl, rfl, rfl, rfl, rfl, F8, W13, ⟨by omega, by omega⟩, trivial, (by omega), (by omega), (by omega), (by omega), (by omega), (by omega)⟩
            · refine c_iload_n (j := 4) C dX11_page_50 rfl ?_
              refine c_if_lt (tgt := 65) C ⟨by omega, by omega⟩ dX11_page_51 (by decide) (fun c10 => ?_) (fun c10 => ?_)
              · refine c_aload_n (j := 1) (x := a0) C dX11_page_65 rfl ?_
                refine c_iconst C dX11_page_66 ?_
                refine d_callV (As := [.int (iI 2)]) (rest := []) C hM (C_refuse (a0 := a0) (x := 2) hW hS t_a0 ⟨by decide, by decide⟩ ) dX11_page_67 kV_X11_102 rfl t_a0 rfl rfl (by decide) ck_12 rfl (Nat.le_of_ble_eq_true rfl) ⟨(Nat.le_of_ble_eq_true rfl), (Nat.le_of_ble_eq_true rfl)⟩ hph hph (show 0 + 0 = 0 from rfl) (by decide) (fun rh14 Lh14 clh14 lnh14 ivh14 rvh14 h14 => ?_)
                obtain ⟨f14, rfl, rfl, rfl, rfl, rfl, fl14, W14, rgf14, exf14, kp11f14, kp12f14, kp13f14, kp14f14, kp15f14, kp16f14⟩ := h14
                refine hv6 (show 1 ≤ iv a0 11 ∧ iv a0 11 ≤ 100 from hW.int t_a0 11) (show (-2147483648) ≤ iv a0 13 ∧ iv a0 13 ≤ 2147483647 from hW.int t_a0 13) (show (-2147483648) ≤ iv a0 14 ∧ iv a0 14 ≤ 2147483647 from hW.int t_a0 14) (show (-2147483648) ≤ iv a0 15 ∧ iv a0 15 ≤ 2147483647 from hW.int t_a0 15) (show (-2147483648) ≤ iv a0 16 ∧ iv a0 16 ≤ 2147483647 from hW.int t_a0 16) (hF0.call hX0 fl14 rfl) (fun ri94 ri95 ri96 ri97 ri98 F9 => ?_)
                refine c_st (st2 := [.int (iI f14)]) rfl ?_
                refine hv7 (show ivh14 a0 11 = iv a0 11 from kp11f14) (show ivh14 a0 12 = iv a0 12 from kp12f14) (show ivh14 a0 13 = iv a0 13 from kp13f14) (show ivh14 a0 14 = iv a0 14 from kp14f14) (show ivh14 a0 15 = iv a0 15 from kp15f14) (show ivh14 a0 16 = iv a0 16 from kp16f14) (show f14 = -1 from exf14) (fun gk11f14 gk12f14 gk13f14 gk14f14 gk15f14 gk16f14 gf14 => ?_)
                refine c_goto (tgt := 85) C dX11_page_70 (by decide) ?_
                refine hv6 (show 1 ≤ ivh14 a0 11 ∧ ivh14 a0 11 ≤ 100 from W14.int t_a0 11) (show 1 ≤ ivh14 a0 12 ∧ ivh14 a0 12 ≤ 50 from W14.int t_a0 12) (show (-2147483648) ≤ ivh14 a0 13 ∧ ivh14 a0 13 ≤ 2147483647 from W14.int t_a0 13) (show (-2147483648) ≤ ivh14 a0 14 ∧ ivh14 a0 14 ≤ 2147483647 from W14.int t_a0 14) (show (-2147483648) ≤ ivh14 a0 15 ∧ ivh14 a0 15 ≤ 2147483647 from W14.int t_a0 15) (show (-2147483648) ≤ ivh14 a0 16 ∧ ivh14 a0 16 ≤ 2147483647 from W14.int t_a0 16) (fun ri99 ri100 ri101 ri102 ri103 ri104 => ?_)
                exact c_iret C dX11_page_85 rfl (by decide) (rom0 hph hph (by decide)) ⟨f14, rfl, rfl, rfl, rfl, rfl, F9, W14, ⟨by omega, by omega⟩, trivial, (by omega), (by omega), (by omega), (by omega), (by omega), (by omega)⟩
              · refine c_iload_n (j := 4) C dX11_page_54 rfl ?_
                refine c_aload_n (j := 1) (x := a0) C dX11_page_55 rfl ?_
                obtain ⟨rb2, rq2, trb2⟩ := hW.ref t_a0 3 rfl rfl rfl
                have erb2 := hW.sk trb2 (by decide) rfl
                subst erb2
                refine c_getr (k := 3) C ck_12 dX11_page_56 w2_47 (by decide) t_a0 rfl rfl (by decide) rfl rq2 ?_
                refine c_st (st2 := [.ref (sk 5), .int (iI k)]) rfl ?_
                have ri105 : 0 ≤ iv (sk 5) 2 ∧ iv (sk 5) 2 ≤ 200 := hW.int tsk5 2
                refine c_get (k := 2) C ck_2 dX11_page_59 w1_44 (by decide) tsk5 rfl rfl (by decide) rfl ?_
                refine c_icmp_lt (tgt := 73) C ⟨by omega, by omega⟩ ⟨by omega, by omega⟩ dX11_page_62 (by decide) (fun c11 => ?_) (fun c11 => ?_)
                · refine c_aload_n (j := 1) (x := a0) C dX11_page_73 rfl ?_
                  refine c_aload_n (j := 1) (x := a0) C dX11_page_74 rfl ?_
                  refine c_getr (k := 3) C ck_12 dX11_page_75 w2_47 (by decide) t_a0 rfl rfl (by decide) rfl rq2 ?_
                  refine c_st (st2 := [.ref (sk 5), .ref a0]) rfl ?_
                  refine c_iload_n (j := 4) C dX11_page_78 rfl ?_
                  refine d_callV (As := [.int (iI k)]) (rest := [.ref a0]) C hM (C_at_5 (a0 := (sk 5)) (i := k) hW hS tsk5 (by omega) ) dX11_page_79 kV_X11_224 rfl tsk5 rfl rfl (by decide) ck_2 rfl (Nat.le_of_ble_eq_true rfl) ⟨(Nat.le_of_ble_eq_true rfl), (Nat.le_of_ble_eq_true rfl)⟩ hph hph (show 0 + 0 = 0 from rfl) (by decide) (fun rh15 Lh15 clh15 lnh15 ivh15 rvh15 h15 => ?_)
                  obtain ⟨f15, rfl, rfl, rfl, rfl, rfl, rfl, rgf15, exf15⟩ := h15
                  refine c_st (st2 := [.int (iI f15), .ref a0]) rfl ?_
                  have gf15 : ((0 ≤ k ∧ k < iv (sk 5) 2) ∨ f15 = 0) ∧ ∀ ss, CT iv rv (sk 5) ss → 0 ≤ k → k < iv (sk 5) 2 → f15 = ss k.toNat := exf15
                  refine d_callV (As := [.int (iI f15)]) (rest := []) C hM (C_done (a0 := a0) (x := f15) hW hS t_a0 (by omega) ) dX11_page_82 kV_X11_109 rfl t_a0 rfl rfl (by decide) ck_12 rfl (Nat.le_of_ble_eq_true rfl) ⟨(Nat.le_of_ble_eq_true rfl), (Nat.le_of_ble_eq_true rfl)⟩ hph hph (show 0 + 0 = 0 from rfl) (by decide) (fun rh16 Lh16 clh16 lnh16 ivh16 rvh16 h16 => ?_)
                  obtain ⟨f16, rfl, rfl, rfl, rfl, rfl, fl16, W16, rgf16, exf16, kp11f16, kp12f16, kp13f16, kp14f16, kp15f16, kp16f16⟩ := h16
                  refine hv6 (show 1 ≤ iv a0 11 ∧ iv a0 11 ≤ 100 from hW.int t_a0 11) (show (-2147483648) ≤ iv a0 13 ∧ iv a0 13 ≤ 2147483647 from hW.int t_a0 13) (show (-2147483648) ≤ iv a0 14 ∧ iv a0 14 ≤ 2147483647 from hW.int t_a0 14) (show (-2147483648) ≤ iv a0 15 ∧ iv a0 15 ≤ 2147483647 from hW.int t_a0 15) (show (-2147483648) ≤ iv a0 16 ∧ iv a0 16 ≤ 2147483647 from hW.int t_a0 16) (hF0.call hX0 fl16 rfl) (fun ri106 ri107 ri108 ri109 ri110 F10 => ?_)
                  refine c_st (st2 := [.int (iI f16)]) rfl ?_
                  refine hv13 (show ivh16 a0 11 = iv a0 11 from kp11f16) (show ivh16 a0 12 = iv a0 12 from kp12f16) (show ivh16 a0 13 = iv a0 13 from kp13f16) (show ivh16 a0 14 = iv a0 14 from kp14f16) (show ivh16 a0 15 = iv a0 15 from kp15f16) (show ivh16 a0 16 = iv a0 16 from kp16f16) (show f16 = f15 from exf16) (show 1 ≤ ivh16 a0 11 ∧ ivh16 a0 11 ≤ 100 from W16.int t_a0 11) (show 1 ≤ ivh16 a0 12 ∧ ivh16 a0 12 ≤ 50 from W16.int t_a0 12) (show (-2147483648) ≤ ivh16 a0 13 ∧ ivh16 a0 13 ≤ 2147483647 from W16.int t_a0 13) (show (-2147483648) ≤ ivh16 a0 14 ∧ ivh16 a0 14 ≤ 2147483647 from W16.int t_a0 14) (show (-2147483648) ≤ ivh16 a0 15 ∧ ivh16 a0 15 ≤ 2147483647 from W16.int t_a0 15) (show (-2147483648) ≤ ivh16 a0 16 ∧ ivh16 a0 16 ≤ 2147483647 from W16.int t_a0 16) (fun gk11f16 gk12f16 gk13f16 gk14f16 gk15f16 gk16f16 gf16 ri111 ri112 ri113 ri114 ri115 ri116 => ?_)
                  exact c_iret C dX11_page_85 rfl (by decide) (rom0 hph hph (by decide)) ⟨f16, rfl, rfl, rfl, rfl, rfl, F10, W16, ⟨by omega, by omega⟩, trivial, (by omega), (by omega), (by omega), (by omega), (by omega), (by omega)⟩
                · refine c_aload_n (j := 1) (x := a0) C dX11_page_65 rfl ?_
                  refine c_iconst C dX11_page_66 ?_
                  refine d_callV (As := [.int (iI 2)]) (rest := []) C hM (C_refuse (a0 := a0) (x := 2) hW hS t_a0 ⟨by decide, by decide⟩ ) dX11_page_67 kV_X11_102 rfl t_a0 rfl rfl (by decide) ck_12 rfl (Nat.le_of_ble_eq_true rfl) ⟨(Nat.le_of_ble_eq_true rfl), (Nat.le_of_ble_eq_true rfl)⟩ hph hph (show 0 + 0 = 0 from rfl) (by decide) (fun rh17 Lh17 clh17 lnh17 ivh17 rvh17 h17 => ?_)
                  obtain ⟨f17, rfl, rfl, rfl, rfl, rfl, fl17, W17, rgf17, exf17, kp11f17, kp12f17, kp13f17, kp14f17, kp15f17, kp16f17⟩ := h17
                  refine hv6 (show 1 ≤ iv a0 11 ∧ iv a0 11 ≤ 100 from hW.int t_a0 11) (show (-2147483648) ≤ iv a0 13 ∧ iv a0 13 ≤ 2147483647 from hW.int t_a0 13) (show (-2147483648) ≤ iv a0 14 ∧ iv a0 14 ≤ 2147483647 from hW.int t_a0 14) (show (-2147483648) ≤ iv a0 15 ∧ iv a0 15 ≤ 2147483647 from hW.int t_a0 15) (show (-2147483648) ≤ iv a0 16 ∧ iv a0 16 ≤ 2147483647 from hW.int t_a0 16) (hF0.call hX0 fl17 rfl) (fun ri117 ri118 ri119 ri120 ri121 F11 => ?_)
                  refine c_st (st2 := [.int (iI f17)]) rfl ?_
                  refine hv7 (show ivh17 a0 11 = iv a0 11 from kp11f17) (show ivh17 a0 12 = iv a0 12 from kp12f17) (show ivh17 a0 13 = iv a0 13 from kp13f17) (show ivh17 a0 14 = iv a0 14 from kp14f17) (show ivh17 a0 15 = iv a0 15 from kp15f17) (show ivh17 a0 16 = iv a0 16 from kp16f17) (show f17 = -1 from exf17) (fun gk11f17 gk12f17 gk13f17 gk14f17 gk15f17 gk16f17 gf17 => ?_)
                  refine c_goto (tgt := 85) C dX11_page_70 (by decide) ?_
                  refine hv6 (show 1 ≤ ivh17 a0 11 ∧ ivh17 a0 11 ≤ 100 from W17.int t_a0 11) (show 1 ≤ ivh17 a0 12 ∧ ivh17 a0 12 ≤ 50 from W17.int t_a0 12) (show (-2147483648) ≤ ivh17 a0 13 ∧ ivh17 a0 13 ≤ 2147483647 from W17.int t_a0 13) (show (-2147483648) ≤ ivh17 a0 14 ∧ ivh17 a0 14 ≤ 2147483647 from W17.int t_a0 14) (show (-2147483648) ≤ ivh17 a0 15 ∧ ivh17 a0 15 ≤ 2147483647 from W17.int t_a0 15) (show (-2147483648) ≤ ivh17 a0 16 ∧ ivh17 a0 16 ≤ 2147483647 from W17.int t_a0 16) (fun ri122 ri123 ri124 ri125 ri126 ri127 => ?_)
                  exact c_iret C dX11_page_85 rfl (by decide) (rom0 hph hph (by decide)) ⟨f17, rfl, rfl, rfl, rfl, rfl, F11, W17, ⟨by omega, by omega⟩, trivial, (by omega), (by omega), (by omega), (by omega), (by omega), (by omega)⟩
        · refine c_aload_n (j := 0) (x := a0) C dX11_page_24 rfl ?_
          refine c_iconst C dX11_page_25 ?_
          refine d_callV (As := [.int (iI 2)]) (rest := []) C hM (C_refuse (a0 := a0) (x := 2) hW hS t_a0 ⟨by decide, by decide⟩ ) dX11_page_26 kV_X11_102 rfl t_a0 rfl rfl (by decide) ck_12 rfl (Nat.le_of_ble_eq_true rfl) ⟨(Nat.le_of_ble_eq_true rfl), (Nat.le_of_ble_eq_true rfl)⟩ hph hph (show 0 + 0 = 0 from rfl) (by decide) (fun rh18 Lh18 clh18 lnh18 ivh18 rvh18 h18 => ?_)
          obtain ⟨f18, rfl, rfl, rfl, rfl, rfl, fl18, W18, rgf18, exf18, kp11f18, kp12f18, kp13f18, kp14f18, kp15f18, kp16f18⟩ := h18
          refine hv6 (show 1 ≤ iv a0 11 ∧ iv a0 11 ≤ 100 from hW.int t_a0 11) (show (-2147483648) ≤ iv a0 13 ∧ iv a0 13 ≤ 2147483647 from hW.int t_a0 13) (show (-2147483648) ≤ iv a0 14 ∧ iv a0 14 ≤ 2147483647 from hW.int t_a0 14) (show (-2147483648) ≤ iv a0 15 ∧ iv a0 15 ≤ 2147483647 from hW.int t_a0 15) (show (-2147483648) ≤ iv a0 16 ∧ iv a0 16 ≤ 2147483647 from hW.int t_a0 16) (hF0.call hX0 fl18 rfl) (fun ri128 ri129 ri130 ri131 ri132 F12 => ?_)
          refine c_st (st2 := [.int (iI f18)]) rfl ?_
          refine hv13 (show ivh18 a0 11 = iv a0 11 from kp11f18) (show ivh18 a0 12 = iv a0 12 from kp12f18) (show ivh18 a0 13 = iv a0 13 from kp13f18) (show ivh18 a0 14 = iv a0 14 from kp14f18) (show ivh18 a0 15 = iv a0 15 from kp15f18) (show ivh18 a0 16 = iv a0 16 from kp16f18) (show f18 = -1 from exf18) (show 1 ≤ ivh18 a0 11 ∧ ivh18 a0 11 ≤ 100 from W18.int t_a0 11) (show 1 ≤ ivh18 a0 12 ∧ ivh18 a0 12 ≤ 50 from W18.int t_a0 12) (show (-2147483648) ≤ ivh18 a0 13 ∧ ivh18 a0 13 ≤ 2147483647 from W18.int t_a0 13) (show (-2147483648) ≤ ivh18 a0 14 ∧ ivh18 a0 14 ≤ 2147483647 from W18.int t_a0 14) (show (-2147483648) ≤ ivh18 a0 15 ∧ ivh18 a0 15 ≤ 2147483647 from W18.int t_a0 15) (show (-2147483648) ≤ ivh18 a0 16 ∧ ivh18 a0 16 ≤ 2147483647 from W18.int t_a0 16) (fun gk11f18 gk12f18 gk13f18 gk14f18 gk15f18 gk16f18 gf18 ri133 ri134 ri135 ri136 ri137 ri138 => ?_)
          exact c_iret C dX11_page_29 rfl (by decide) (rom0 hph hph (by decide)) ⟨f18, rfl, rfl, rfl, rfl, rfl, F12, W18, ⟨by omega, by omega⟩, trivial, (by omega), (by omega), (by omega), (by omega), (by omega), (by omega)⟩
set_option maxHeartbeats 4000000 in
set_option maxRecDepth 100000 in
theorem C_copied {l : Launch} {G : GT} {mi : Nat} {sk : Nat → Nat} {L : List Nat} {cl ln : Nat → Nat} {iv : Nat → Nat → Int} {rv : Nat → Nat → Option Nat}  {a0 : Nat} (hW : WT (g0 G) sk L cl ln iv rv) (hS : SKL sk L cl) (t_a0 : ty L cl a0 1)  : Mc l G mi (Phi (g0 G) sk) PHM yX11_copied cX11_copied 1 (some .int) 0 [.ref a0] L cl ln iv rv 0 (fun v L2 cl2 ln2 iv2 rv2 => ∃ f : Int, v = some (.int (iI f)) ∧ L = L2 ∧ cl = cl2 ∧ ln = ln2 ∧ iv = iv2 ∧ rv = rv2 ∧ (-2147483648 ≤ f ∧ f ≤ 2147483647) ∧ (True)) := by
  refine Mc.mk (by decide) (Nat.le_of_ble_eq_true rfl) ?_
  intro p e s m args below meth c A C hM
  refine hv3 (Phi.le hW hS) (show XT L cl ln L cl ln from XT.refl) (show fT [] L cl iv rv iv rv from fT.refl) (fun hph hX0 hF0 => ?_)
  refine c_aload_n (j := 0) (x := a0) C dX11_copied_0 rfl ?_
  have ri1 : (-2147483648) ≤ iv a0 15 ∧ iv a0 15 ≤ 2147483647 := hW.int t_a0 15
  refine c_get (k := 15) C ck_12 dX11_copied_1 w2_59 (by decide) t_a0 rfl rfl (by decide) rfl ?_
  exact c_iret C dX11_copied_4 rfl (by decide) (rom0 hph hph (by decide)) ⟨(iv a0 15), rfl, rfl, rfl, rfl, rfl, rfl, ⟨by omega, by omega⟩, trivial⟩
set_option maxHeartbeats 4000000 in
set_option maxRecDepth 100000 in
theorem C_closed {l : Launch} {G : GT} {mi : Nat} {sk : Nat → Nat} {L : List Nat} {cl ln : Nat → Nat} {iv : Nat → Nat → Int} {rv : Nat → Nat → Option Nat}  {a0 : Nat} (hW : WT (g0 G) sk L cl ln iv rv) (hS : SKL sk L cl) (t_a0 : ty L cl a0 1)  : Mc l G mi (Phi (g0 G) sk) PHM yX11_closed cX11_closed 1 (some .int) 0 [.ref a0] L cl ln iv rv 0 (fun v L2 cl2 ln2 iv2 rv2 => ∃ f : Int, v = some (.int (iI f)) ∧ L = L2 ∧ cl = cl2 ∧ ln = ln2 ∧ iv = iv2 ∧ rv = rv2 ∧ (-2147483648 ≤ f ∧ f ≤ 2147483647) ∧ (True)) := by
  refine Mc.mk (by decide) (Nat.le_of_ble_eq_true rfl) ?_
  intro p e s m args below meth c A C hM
  refine hv3 (Phi.le hW hS) (show XT L cl ln L cl ln from XT.refl) (show fT [] L cl iv rv iv rv from fT.refl) (fun hph hX0 hF0 => ?_)
  refine c_aload_n (j := 0) (x := a0) C dX11_closed_0 rfl ?_
  have ri1 : (-2147483648) ≤ iv a0 16 ∧ iv a0 16 ≤ 2147483647 := hW.int t_a0 16
  refine c_get (k := 16) C ck_12 dX11_closed_1 w2_60 (by decide) t_a0 rfl rfl (by decide) rfl ?_
  exact c_iret C dX11_closed_4 rfl (by decide) (rom0 hph hph (by decide)) ⟨(iv a0 16), rfl, rfl, rfl, rfl, rfl, rfl, ⟨by omega, by omega⟩, trivial⟩
set_option maxHeartbeats 4000000 in
set_option maxRecDepth 100000 in
theorem C_status {l : Launch} {G : GT} {mi : Nat} {sk : Nat → Nat} {L : List Nat} {cl ln : Nat → Nat} {iv : Nat → Nat → Int} {rv : Nat → Nat → Option Nat}  {a0 : Nat} (hW : WT (g0 G) sk L cl ln iv rv) (hS : SKL sk L cl) (t_a0 : ty L cl a0 1)  : Mc l G mi (Phi (g0 G) sk) PHM yX11_status cX11_status 1 (some .int) 0 [.ref a0] L cl ln iv rv 0 (fun v L2 cl2 ln2 iv2 rv2 => ∃ f : Int, v = some (.int (iI f)) ∧ L = L2 ∧ cl = cl2 ∧ ln = ln2 ∧ iv = iv2 ∧ rv = rv2 ∧ (-2147483648 ≤ f ∧ f ≤ 2147483647) ∧ (True)) := by
  refine Mc.mk (by decide) (Nat.le_of_ble_eq_true rfl) ?_
  intro p e s m args below meth c A C hM
  refine hv3 (Phi.le hW hS) (show XT L cl ln L cl ln from XT.refl) (show fT [] L cl iv rv iv rv from fT.refl) (fun hph hX0 hF0 => ?_)
  refine c_aload_n (j := 0) (x := a0) C dX11_status_0 rfl ?_
  have ri1 : (-2147483648) ≤ iv a0 17 ∧ iv a0 17 ≤ 2147483647 := hW.int t_a0 17
  refine c_get (k := 17) C ck_12 dX11_status_1 w2_61 (by decide) t_a0 rfl rfl (by decide) rfl ?_
  exact c_iret C dX11_status_4 rfl (by decide) (rom0 hph hph (by decide)) ⟨(iv a0 17), rfl, rfl, rfl, rfl, rfl, rfl, ⟨by omega, by omega⟩, trivial⟩
set_option maxHeartbeats 4000000 in
set_option maxRecDepth 100000 in
theorem C_place {l : Launch} {G : GT} {mi : Nat} {sk : Nat → Nat} {L : List Nat} {cl ln : Nat → Nat} {iv : Nat → Nat → Int} {rv : Nat → Nat → Option Nat}  {a0 : Nat} (hW : WT (g0 G) sk L cl ln iv rv) (hS : SKL sk L cl) (t_a0 : ty L cl a0 1)  : Mc l G mi (Phi (g0 G) sk) PHM yX11_place cX11_place 1 (some .int) 0 [.ref a0] L cl ln iv rv 0 (fun v L2 cl2 ln2 iv2 rv2 => ∃ f : Int, v = some (.int (iI f)) ∧ L = L2 ∧ cl = cl2 ∧ ln = ln2 ∧ iv = iv2 ∧ rv = rv2 ∧ (-2147483648 ≤ f ∧ f ≤ 2147483647) ∧ (True)) := by
  refine Mc.mk (by decide) (Nat.le_of_ble_eq_true rfl) ?_
  intro p e s m args below meth c A C hM
  refine hv3 (Phi.le hW hS) (show XT L cl ln L cl ln from XT.refl) (show fT [] L cl iv rv iv rv from fT.refl) (fun hph hX0 hF0 => ?_)
  refine c_aload_n (j := 0) (x := a0) C dX11_place_0 rfl ?_
  have ri1 : (-2147483648) ≤ iv a0 18 ∧ iv a0 18 ≤ 2147483647 := hW.int t_a0 18
  refine c_get (k := 18) C ck_12 dX11_place_1 w2_62 (by decide) t_a0 rfl rfl (by decide) rfl ?_
  exact c_iret C dX11_place_4 rfl (by decide) (rom0 hph hph (by decide)) ⟨(iv a0 18), rfl, rfl, rfl, rfl, rfl, rfl, ⟨by omega, by omega⟩, trivial⟩
set_option maxHeartbeats 4000000 in
set_option maxRecDepth 100000 in
theorem C_finds {l : Launch} {G : GT} {mi : Nat} {sk : Nat → Nat} {L : List Nat} {cl ln : Nat → Nat} {iv : Nat → Nat → Int} {rv : Nat → Nat → Option Nat}  {a0 : Nat} {i : Int} (hW : WT (g0 G) sk L cl ln iv rv) (hS : SKL sk L cl) (t_a0 : ty L cl a0 1) (h_i : -2147483648 ≤ i ∧ i ≤ 2147483647)  : Mc l G mi (Phi (g0 G) sk) PHM yX11_finds cX11_finds 2 (some .int) 1 [.ref a0, .int (iI i)] L cl ln iv rv 0 (fun v L2 cl2 ln2 iv2 rv2 => ∃ f : Int, v = some (.int (iI f)) ∧ L = L2 ∧ cl = cl2 ∧ ln = ln2 ∧ iv = iv2 ∧ rv = rv2 ∧ (-2147483648 ≤ f ∧ f ≤ 2147483647) ∧ (True)) := by
  refine Mc.mk (by decide) (Nat.le_of_ble_eq_true rfl) ?_
  intro p e s m args below meth c A C hM
  refine hv3 (Phi.le hW hS) (show XT L cl ln L cl ln from XT.refl) (show fT [] L cl iv rv iv rv from fT.refl) (fun hph hX0 hF0 => ?_)
  refine c_aload_n (j := 0) (x := a0) C dX11_finds_0 rfl ?_
  obtain ⟨rb1, rq1, trb1⟩ := hW.ref t_a0 6 rfl rfl rfl
  refine c_getr (k := 6) C ck_12 dX11_finds_1 w2_50 (by decide) t_a0 rfl rfl (by decide) rfl rq1 ?_
  refine c_st (st2 := [.ref rb1]) rfl ?_
  refine c_iload_n (j := 1) C dX11_finds_4 rfl ?_
  refine d_callV (As := [.int (iI i)]) (rest := []) C hM (C_findsOf (a0 := rb1) (i := i) hW hS trb1 (by omega) ) dX11_finds_5 kV_X11_413 rfl trb1 rfl rfl (by decide) ck_7 rfl (Nat.le_of_ble_eq_true rfl) ⟨(Nat.le_of_ble_eq_true rfl), (Nat.le_of_ble_eq_true rfl)⟩ hph hph (show 0 + 0 = 0 from rfl) (by decide) (fun rh1 Lh1 clh1 lnh1 ivh1 rvh1 h1 => ?_)
  obtain ⟨f1, rfl, rfl, rfl, rfl, rfl, rfl, rgf1, exf1⟩ := h1
  refine c_st (st2 := [.int (iI f1)]) rfl ?_
  exact c_iret C dX11_finds_8 rfl (by decide) (rom0 hph hph (by decide)) ⟨f1, rfl, rfl, rfl, rfl, rfl, rfl, ⟨by omega, by omega⟩, trivial⟩
