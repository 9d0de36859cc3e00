set_option maxHeartbeats 4000000 in
set_option maxRecDepth 100000 in
theorem C_addText {l : Launch} {G : GT} {mi : Nat} {sk : Nat → Nat} {L : List Nat} {cl ln : Nat → Nat} {iv : Nat → Nat → Int} {rv : Nat → Nat → Option Nat}  {a0 : Nat} (hW : WT (g0 G) sk L cl ln iv rv) (hS : SKL sk L cl) (t_a0 : ty L cl a0 1)  : Mc l G mi (Phi (g0 G) sk) PHM yX11_addText cX11_addText 3 (some .int) 4 [.ref a0] L cl ln iv rv 0 (fun v L2 cl2 ln2 iv2 rv2 => ∃ f : Int, v = some (.int (iI f)) ∧ XT L cl ln L2 cl2 ln2 ∧ fT [1, 3, 33] L cl iv rv iv2 rv2 ∧ WT (g0 G) sk L2 cl2 ln2 iv2 rv2 ∧ (-2147483648 ≤ f ∧ f ≤ 2147483647) ∧ (∀ ss, CT iv rv (sk 2) ss → ((f = -1 ∧ iv2 (sk 3) 2 = iv (sk 3) 2 ∧ ¬ (TOK ss (iv (sk 2) 2) ∧ iv (sk 3) 2 + iv (sk 2) 2 ≤ 500)) ∨ (f = iv2 (sk 3) 2 ∧ TOK ss (iv (sk 2) 2) ∧ iv (sk 3) 2 + iv (sk 2) 2 ≤ 500 ∧ ((iv (sk 2) 2 = 0 ∧ iv2 (sk 3) 2 = 0) ∨ (iv (sk 2) 2 ≠ 0 ∧ iv2 (sk 3) 2 = iv (sk 3) 2 + iv (sk 2) 2))))) ∧ iv2 a0 11 = iv a0 11 ∧ iv2 a0 12 = iv a0 12 ∧ iv2 a0 13 = iv a0 13 ∧ iv2 a0 14 = iv a0 14 ∧ iv2 a0 15 = iv a0 15 ∧ iv2 a0 16 = iv a0 16 ∧ (∀ ss tt, CT iv rv (sk 2) ss → CT iv rv (sk 3) tt → (f = -1 → CT iv2 rv2 (sk 3) tt) ∧ (f ≠ -1 → CT iv2 rv2 (sk 3) (apd tt (iv (sk 3) 2).toNat ss))) ∧ rv2 a0 9 = rv a0 9 ∧ rv2 a0 10 = rv a0 10) := by
  refine Mc.mk (by decide) (Nat.le_of_ble_eq_true rfl) ?_
  intro p e s m args below meth c A C hM
  refine hv14 (Phi.le hW hS) (show ty L cl (sk 2) 2 from ⟨(hS 2 rfl).1, by rw [(hS 2 rfl).2]; rfl⟩) (show ty L cl (sk 3) 3 from ⟨(hS 3 rfl).1, by rw [(hS 3 rfl).2]; rfl⟩) (show ty L cl (sk 4) 4 from ⟨(hS 4 rfl).1, by rw [(hS 4 rfl).2]; rfl⟩) (show ty L cl (sk 5) 5 from ⟨(hS 5 rfl).1, by rw [(hS 5 rfl).2]; rfl⟩) (show ty L cl (sk 13) 13 from ⟨(hS 13 rfl).1, by rw [(hS 13 rfl).2]; rfl⟩) (show ty L cl (sk 14) 14 from ⟨(hS 14 rfl).1, by rw [(hS 14 rfl).2]; rfl⟩) (show ty L cl (sk 15) 15 from ⟨(hS 15 rfl).1, by rw [(hS 15 rfl).2]; rfl⟩) (show ty L cl (sk 16) 16 from ⟨(hS 16 rfl).1, by rw [(hS 16 rfl).2]; rfl⟩) (show ty L cl (sk 17) 17 from ⟨(hS 17 rfl).1, by rw [(hS 17 rfl).2]; rfl⟩) (show ty L cl (sk 22) 22 from ⟨(hS 22 rfl).1, by rw [(hS 22 rfl).2]; rfl⟩) (show ty L cl (sk 23) 23 from ⟨(hS 23 rfl).1, by rw [(hS 23 rfl).2]; rfl⟩) (show XT L cl ln L cl ln from XT.refl) (show fT [1, 3, 33] L cl iv rv iv rv from fT.refl) (fun hph tsk2 tsk3 tsk4 tsk5 tsk13 tsk14 tsk15 tsk16 tsk17 tsk22 tsk23 hX0 hF0 => ?_)
  refine hv2 (show 0 ≤ iv (sk 2) 2 ∧ iv (sk 2) 2 ≤ 3000 from hW.int tsk2 2) (show 0 ≤ iv (sk 3) 2 ∧ iv (sk 3) 2 ≤ 500 from hW.int tsk3 2) (fun ri1 ri2 => ?_)
  refine c_iconst C dX11_addText_0 ?_
  refine c_istore_n (lv2 := [(1, .int (iI 0)), (0, .ref a0)]) C dX11_addText_1 (by decide) rfl ?_
  have Lp1 : ∀ (nn : Nat) (k : Int) (Lb1 : List Nat) (clb1 lnb1 : Nat → Nat) (ivb1 : Nat → Nat → Int) (rvb1 : Nat → Nat → Option Nat) , 3001 - k < (nn : Int) → XT L cl ln Lb1 clb1 lnb1 → WT (g0 G) sk Lb1 clb1 lnb1 ivb1 rvb1 → fT [1, 3, 33] L cl iv rv ivb1 rvb1 → (0 ≤ k ∧ k ≤ 3000) → (ivb1 (sk 3) 2 = iv (sk 3) 2) → (∀ ss, CT iv rv (sk 2) ss → TOK ss k) → (∀ tt, CT iv rv (sk 3) tt → CT ivb1 rvb1 (sk 3) tt) → (ivb1 a0 11 = iv a0 11) → (ivb1 a0 12 = iv a0 12) → (ivb1 a0 13 = iv a0 13) → (ivb1 a0 14 = iv a0 14) → (ivb1 a0 15 = iv a0 15) → (ivb1 a0 16 = iv a0 16) → (rvb1 a0 9 = rv a0 9) → (rvb1 a0 10 = rv a0 10) → cw p l e 4 ((PHM) + 0 - ((Phi (g0 G) sk) ln rv)) s m args below meth c G A 3 (MQ below (Qu G A (Qp G (Phi (g0 G) sk) ((Phi (g0 G) sk) ln rv) 0 (fun v L2 cl2 ln2 iv2 rv2 => ∃ f : Int, v = some (.int (iI f)) ∧ XT L cl ln L2 cl2 ln2 ∧ fT [1, 3, 33] L cl iv rv iv2 rv2 ∧ WT (g0 G) sk L2 cl2 ln2 iv2 rv2 ∧ (-2147483648 ≤ f ∧ f ≤ 2147483647) ∧ (∀ ss, CT iv rv (sk 2) ss → ((f = -1 ∧ iv2 (sk 3) 2 = iv (sk 3) 2 ∧ ¬ (TOK ss (iv (sk 2) 2) ∧ iv (sk 3) 2 + iv (sk 2) 2 ≤ 500)) ∨ (f = iv2 (sk 3) 2 ∧ TOK ss (iv (sk 2) 2) ∧ iv (sk 3) 2 + iv (sk 2) 2 ≤ 500 ∧ ((iv (sk 2) 2 = 0 ∧ iv2 (sk 3) 2 = 0) ∨ (iv (sk 2) 2 ≠ 0 ∧ iv2 (sk 3) 2 = iv (sk 3) 2 + iv (sk 2) 2))))) ∧ iv2 a0 11 = iv a0 11 ∧ iv2 a0 12 = iv a0 12 ∧ iv2 a0 13 = iv a0 13 ∧ iv2 a0 14 = iv a0 14 ∧ iv2 a0 15 = iv a0 15 ∧ iv2 a0 16 = iv a0 16 ∧ (∀ ss tt, CT iv rv (sk 2) ss → CT iv rv (sk 3) tt → (f = -1 → CT iv2 rv2 (sk 3) tt) ∧ (f ≠ -1 → CT iv2 rv2 (sk 3) (apd tt (iv (sk 3) 2).toNat ss))) ∧ rv2 a0 9 = rv a0 9 ∧ rv2 a0 10 = rv a0 10))) args s (((PHM) + 0 - ((Phi (g0 G) sk) ln rv)) / 16) ((PHM) + 0 - ((Phi (g0 G) sk) ln rv)) A) (Phi (g0 G) sk) ((Phi (g0 G) sk) ln rv) Lb1 clb1 lnb1 ivb1 rvb1 0 2 [(1, .int (iI k)), (0, .ref a0)] [] := by
    intro nn
    induction nn with
    | zero =>
      intro  k Lb1 clb1 lnb1 ivb1 rvb1 hm Xb1 Wb1 Fb1  hk h33 htk hc3 hkp11 hkp12 hkp13 hkp14 hkp15 hkp16 hkr9 hkr10
      have skb1 := Xb1.skl hS
      exact absurd hm (by omega)
    | succ nn ih1 =>
      intro  k Lb1 clb1 lnb1 ivb1 rvb1 hm Xb1 Wb1 Fb1  hk h33 htk hc3 hkp11 hkp12 hkp13 hkp14 hkp15 hkp16 hkr9 hkr10
      have skb1 := Xb1.skl hS
      refine c_iload_n (j := 0) C dX11_addText_2 rfl ?_
      refine c_aload_n (j := 1) (x := a0) C dX11_addText_3 rfl ?_
      have ty1 := Xb1.ty t_a0
      obtain ⟨rb1, rq1, trb1⟩ := Wb1.ref ty1 0 rfl rfl rfl
      have erb1 := Wb1.sk trb1 (by decide) rfl
      subst erb1
      refine c_getr (k := 0) C ck_12 dX11_addText_4 w2_44 (by decide) ty1 rfl rfl (by decide) rfl rq1 ?_
      refine c_st (st2 := [.ref (sk 2), .int (iI k)]) rfl ?_
      refine hv2 (Xb1.ty tsk2) (show ivb1 (sk 2) 2 = iv (sk 2) 2 from Fb1.i tsk2 rfl 2) (fun ty2 ie1 => ?_)
      have ri3 : 0 ≤ ivb1 (sk 2) 2 ∧ ivb1 (sk 2) 2 ≤ 3000 := Wb1.int ty2 2
      refine c_get (k := 2) C ck_2 dX11_addText_7 w1_44 (by decide) ty2 rfl rfl (by decide) rfl ?_
      refine c_icmp_ge (tgt := 53) C (r32_c (lo := 0) (hi := 3000) hk.1 hk.2 (by decide) (by decide)) (r32_c (lo := 0) (hi := 3000) ri3.1 ri3.2 (by decide) (by decide)) dX11_addText_10 (by decide) (fun c1 => ?_) (fun c1 => ?_)
      · refine c_aload_n (j := 1) (x := a0) C dX11_addText_53 rfl ?_
        obtain ⟨rb2, rq2, trb2⟩ := Wb1.ref ty1 1 rfl rfl rfl
        have erb2 := Wb1.sk trb2 (by decide) rfl
        subst erb2
        refine c_getr (k := 1) C ck_12 dX11_addText_54 w2_45 (by decide) ty1 rfl rfl (by decide) rfl rq2 ?_
        refine c_st (st2 := [.ref (sk 3)]) rfl ?_
        have ty3 := Xb1.ty tsk3
        have ri4 : 0 ≤ ivb1 (sk 3) 2 ∧ ivb1 (sk 3) 2 ≤ 500 := Wb1.int ty3 2
        refine c_get (k := 2) C ck_2 dX11_addText_57 w1_44 (by decide) ty3 rfl rfl (by decide) rfl ?_
        refine c_aload_n (j := 1) (x := a0) C dX11_addText_60 rfl ?_
        refine c_getr (k := 0) C ck_12 dX11_addText_61 w2_44 (by decide) ty1 rfl rfl (by decide) rfl rq1 ?_
        refine c_st (st2 := [.ref (sk 2), .int (iI (ivb1 (sk 3) 2))]) rfl ?_
        refine c_get (k := 2) C ck_2 dX11_addText_64 w1_44 (by decide) ty2 rfl rfl (by decide) rfl ?_
        refine c_iadd C dX11_addText_67 ?_
        refine c_sipush (z := 500) C dX11_addText_68 (by decide) ?_
        refine c_icmp_le (tgt := 81) C ⟨by omega, by omega⟩ ⟨by decide, by decide⟩ dX11_addText_71 (by decide) (fun c2 => ?_) (fun c2 => ?_)
        · refine c_aload_n (j := 1) (x := a0) C dX11_addText_81 rfl ?_
          refine c_getr (k := 0) C ck_12 dX11_addText_82 w2_44 (by decide) ty1 rfl rfl (by decide) rfl rq1 ?_
          refine c_st (st2 := [.ref (sk 2)]) rfl ?_
          refine c_get (k := 2) C ck_2 dX11_addText_85 w1_44 (by decide) ty2 rfl rfl (by decide) rfl ?_
          refine c_if_ne (tgt := 98) C (r32_c (lo := 0) (hi := 3000) ri3.1 ri3.2 (by decide) (by decide)) dX11_addText_88 (by decide) (fun c3 => ?_) (fun c3 => ?_)
          · refine c_aload_n (j := 1) (x := a0) C dX11_addText_98 rfl ?_
            refine c_getr (k := 1) C ck_12 dX11_addText_99 w2_45 (by decide) ty1 rfl rfl (by decide) rfl rq2 ?_
            refine c_st (st2 := [.ref (sk 3)]) rfl ?_
            refine c_aload_n (j := 1) (x := a0) C dX11_addText_102 rfl ?_
            refine c_getr (k := 0) C ck_12 dX11_addText_103 w2_44 (by decide) ty1 rfl rfl (by decide) rfl rq1 ?_
            refine c_st (st2 := [.ref (sk 2), .ref (sk 3)]) rfl ?_
            have pl1 := Phi.le Wb1 skb1
            refine d_callV (As := [.ref (sk 2)]) (rest := []) C hM (C_addAll_3 (a0 := (sk 3)) (a1 := (sk 2)) Wb1 skb1 ty3 ty2  ) dX11_addText_106 kV_X11_227 rfl ty3 rfl rfl (by decide) ck_2 rfl (Nat.le_of_ble_eq_true rfl) ⟨(Nat.le_of_ble_eq_true rfl), (Nat.le_of_ble_eq_true rfl)⟩ hph pl1 (show 0 + 0 = 0 from rfl) (by decide) (fun rh1 Lh1 clh1 lnh1 ivh1 rvh1 h1 => ?_)
            obtain ⟨rfl, xl1, fl1, W1, exf1⟩ := h1
            refine hv12 (Fb1.call Xb1 fl1 rfl) (Xb1.ty tsk4) (Xb1.ty tsk5) (Xb1.ty tsk13) (Xb1.ty tsk14) (Xb1.ty tsk15) (Xb1.ty tsk16) (Xb1.ty tsk17) (Xb1.ty tsk22) (Xb1.ty tsk23) (Xb1.trans xl1) (xl1.skl skb1) (fun F1 ty4 ty5 ty6 ty7 ty8 ty9 ty10 ty11 ty12 X1 sk1 => ?_)
            refine c_st (st2 := []) rfl ?_
            refine hv2 (xl1.ty ty3) (show ivh1 (sk 3) 2 = min (ivb1 (sk 3) 2 + ivb1 (sk 2) 2) 500 ∧ APD ivb1 rvb1 (sk 3) (sk 2) ivh1 rvh1 from exf1) (fun ty13 gf1 => ?_)
            have ri5 : 0 ≤ ivh1 (sk 3) 2 ∧ ivh1 (sk 3) 2 ≤ 500 := W1.int ty13 2
            refine c_aload_n (j := 1) (x := a0) C dX11_addText_109 rfl ?_
            refine c_aload_n (j := 1) (x := a0) C dX11_addText_110 rfl ?_
            refine hv2 (xl1.ty ty1) (show rvh1 a0 1 = rvb1 a0 1 from (fl1.r ty1 rfl 1)) (fun ty14 re1 => ?_)
            rw [rq2] at re1
            refine c_getr (k := 1) C ck_12 dX11_addText_111 w2_45 (by decide) ty14 rfl rfl (by decide) rfl re1 ?_
            refine c_st (st2 := [.ref (sk 3), .ref a0]) rfl ?_
            refine c_get (k := 2) C ck_2 dX11_addText_114 w1_44 (by decide) ty13 rfl rfl (by decide) rfl ?_
            have pl2 := Phi.le W1 sk1
            refine d_callV (As := [.int (iI (ivh1 (sk 3) 2))]) (rest := []) C hM (C_done (a0 := a0) (x := ivh1 (sk 3) 2) W1 sk1 ty14 (by omega) ) dX11_addText_117 kV_X11_109 rfl ty14 rfl rfl (by decide) ck_12 rfl (Nat.le_of_ble_eq_true rfl) ⟨(Nat.le_of_ble_eq_true rfl), (Nat.le_of_ble_eq_true rfl)⟩ hph pl2 (show 0 + 0 = 0 from rfl) (by decide) (fun rh2 Lh2 clh2 lnh2 ivh2 rvh2 h2 => ?_)
            obtain ⟨f2, rfl, rfl, rfl, rfl, rfl, fl2, W2, rgf2, exf2, kp11f2, kp12f2, kp13f2, kp14f2, kp15f2, kp16f2⟩ := h2
            refine hv13 (show 1 ≤ ivh1 a0 11 ∧ ivh1 a0 11 ≤ 100 from W1.int ty14 11) (show ivh1 a0 11 = ivb1 a0 11 from fl1.i ty1 rfl 11) (show 1 ≤ ivh1 a0 12 ∧ ivh1 a0 12 ≤ 50 from W1.int ty14 12) (show ivh1 a0 12 = ivb1 a0 12 from fl1.i ty1 rfl 12) (show (-2147483648) ≤ ivh1 a0 13 ∧ ivh1 a0 13 ≤ 2147483647 from W1.int ty14 13) (show ivh1 a0 13 = ivb1 a0 13 from fl1.i ty1 rfl 13) (show (-2147483648) ≤ ivh1 a0 14 ∧ ivh1 a0 14 ≤ 2147483647 from W1.int ty14 14) (show ivh1 a0 14 = ivb1 a0 14 from fl1.i ty1 rfl 14) (show (-2147483648) ≤ ivh1 a0 15 ∧ ivh1 a0 15 ≤ 2147483647 from W1.int ty14 15) (show ivh1 a0 15 = ivb1 a0 15 from fl1.i ty1 rfl 15) (show (-2147483648) ≤ ivh1 a0 16 ∧ ivh1 a0 16 ≤ 2147483647 from W1.int ty14 16) (show ivh1 a0 16 = ivb1 a0 16 from fl1.i ty1 rfl 16) (F1.call X1 fl2 rfl) (fun ri6 ie4 ri7 ie6 ri8 ie8 ri9 ie10 ri10 ie12 ri11 ie14 F2 => ?_)
            refine c_st (st2 := [.int (iI f2)]) rfl ?_
            refine hv17 (show ivh2 a0 11 = ivh1 a0 11 from kp11f2) (show ivh2 a0 12 = ivh1 a0 12 from kp12f2) (show ivh2 a0 13 = ivh1 a0 13 from kp13f2) (show ivh2 a0 14 = ivh1 a0 14 from kp14f2) (show ivh2 a0 15 = ivh1 a0 15 from kp15f2) (show ivh2 a0 16 = ivh1 a0 16 from kp16f2) (show f2 = (ivh1 (sk 3) 2) from exf2) (show 1 ≤ ivh2 a0 11 ∧ ivh2 a0 11 ≤ 100 from W2.int ty14 11) (show 1 ≤ ivh2 a0 12 ∧ ivh2 a0 12 ≤ 50 from W2.int ty14 12) (show (-2147483648) ≤ ivh2 a0 13 ∧ ivh2 a0 13 ≤ 2147483647 from W2.int ty14 13) (show (-2147483648) ≤ ivh2 a0 14 ∧ ivh2 a0 14 ≤ 2147483647 from W2.int ty14 14) (show (-2147483648) ≤ ivh2 a0 15 ∧ ivh2 a0 15 ≤ 2147483647 from W2.int ty14 15) (show (-2147483648) ≤ ivh2 a0 16 ∧ ivh2 a0 16 ≤ 2147483647 from W2.int ty14 16) (show 0 ≤ ivh2 (sk 3) 2 ∧ ivh2 (sk 3) 2 ≤ 500 from W2.int ty13 2) (show ivh2 (sk 3) 2 = ivh1 (sk 3) 2 from fl2.i ty13 rfl 2) (xl1.ty ty2) (show ivh1 (sk 2) 2 = ivb1 (sk 2) 2 from fl1.i ty2 rfl 2) (fun gk11f2 gk12f2 gk13f2 gk14f2 gk15f2 gk16f2 gf2 ri12 ri13 ri14 ri15 ri16 ri17 ri18 ie22 ty15 ie24 => ?_)
            refine hv2 (show 0 ≤ ivh2 (sk 2) 2 ∧ ivh2 (sk 2) 2 ≤ 3000 from W2.int ty15 2) (show ivh2 (sk 2) 2 = ivh1 (sk 2) 2 from fl2.i ty15 rfl 2) (fun ri19 ie23 => ?_)
            exact c_iret C dX11_addText_120 rfl (by decide) (rom0 hph pl2 (by decide)) ⟨f2, rfl, X1, F2, W2, ⟨by omega, by omega⟩, (fun ss hs => Or.inr ⟨by omega, fun j hj => htk ss hs j (by omega), by omega, by omega⟩), (by omega), (by omega), (by omega), (by omega), (by omega), (by omega), (fun ss tt hs ht => ⟨fun q => absurd q (by omega), fun _ => by
                have q := gf1.2 ss tt (CT.fr hs hW tsk2 Fb1 rfl rfl rfl rfl rfl) (hc3 tt ht) (by omega)
                rw [show ivb1 (sk 3) 2 = iv (sk 3) 2 by omega] at q
                exact CT.fr (q) W1 ty13 fl2 rfl rfl rfl rfl rfl⟩), (Eq.trans (show rvh1 a0 9 = rvb1 a0 9 from (fl1.r ty1 rfl 9)) (show rvb1 a0 9 = rv a0 9 from hkr9)), (Eq.trans (show rvh1 a0 10 = rvb1 a0 10 from (fl1.r ty1 rfl 10)) (show rvb1 a0 10 = rv a0 10 from hkr10))⟩
          · refine c_aload_n (j := 1) (x := a0) C dX11_addText_91 rfl ?_
            refine c_getr (k := 1) C ck_12 dX11_addText_92 w2_45 (by decide) ty1 rfl rfl (by decide) rfl rq2 ?_
            refine c_st (st2 := [.ref (sk 3)]) rfl ?_
            have pl3 := Phi.le Wb1 skb1
            refine d_callV (As := []) (rest := []) C hM (C_clear_3 (a0 := (sk 3)) Wb1 skb1 ty3  ) dX11_addText_95 kV_X11_164 rfl ty3 rfl rfl (by decide) ck_2 rfl (Nat.le_of_ble_eq_true rfl) ⟨(Nat.le_of_ble_eq_true rfl), (Nat.le_of_ble_eq_true rfl)⟩ hph pl3 (show 0 + 0 = 0 from rfl) (by decide) (fun rh3 Lh3 clh3 lnh3 ivh3 rvh3 h3 => ?_)
            obtain ⟨rfl, rfl, rfl, rfl, rfl, fl3, W3, exf3⟩ := h3
            have F3 := Fb1.call Xb1 fl3 rfl
            refine c_st (st2 := []) rfl ?_
            refine hv2 (show 0 ≤ ivh3 (sk 3) 2 ∧ ivh3 (sk 3) 2 ≤ 500 from W3.int ty3 2) (show ivh3 (sk 3) 2 = 0 from exf3) (fun ri20 gf3 => ?_)
            refine c_aload_n (j := 1) (x := a0) C dX11_addText_98 rfl ?_
            refine c_getr (k := 1) C ck_12 dX11_addText_99 w2_45 (by decide) ty1 rfl rfl (by decide) rfl rq2 ?_
            refine c_st (st2 := [.ref (sk 3)]) rfl ?_
            refine c_aload_n (j := 1) (x := a0) C dX11_addText_102 rfl ?_
            refine c_getr (k := 0) C ck_12 dX11_addText_103 w2_44 (by decide) ty1 rfl rfl (by decide) rfl rq1 ?_
            refine c_st (st2 := [.ref (sk 2), .ref (sk 3)]) rfl ?_
            refine hv2 (show 0 ≤ ivh3 (sk 2) 2 ∧ ivh3 (sk 2) 2 ≤ 3000 from W3.int ty2 2) (show ivh3 (sk 2) 2 = ivb1 (sk 2) 2 from fl3.i ty2 rfl 2) (fun ri21 ie26 => ?_)
            refine d_callV (As := [.ref (sk 2)]) (rest := []) C hM (C_addAll_3 (a0 := (sk 3)) (a1 := (sk 2)) W3 skb1 ty3 ty2  ) dX11_addText_106 kV_X11_227 rfl ty3 rfl rfl (by decide) ck_2 rfl (Nat.le_of_ble_eq_true rfl) ⟨(Nat.le_of_ble_eq_true rfl), (Nat.le_of_ble_eq_true rfl)⟩ hph pl3 (show 0 + 0 = 0 from rfl) (by decide) (fun rh4 Lh4 clh4 lnh4 ivh4 rvh4 h4 => ?_)
            obtain ⟨rfl, xl4, fl4, W4, exf4⟩ := h4
            refine hv12 (F3.call Xb1 fl4 rfl) (Xb1.ty tsk4) (Xb1.ty tsk5) (Xb1.ty tsk13) (Xb1.ty tsk14) (Xb1.ty tsk15) (Xb1.ty tsk16) (Xb1.ty tsk17) (Xb1.ty tsk22) (Xb1.ty tsk23) (Xb1.trans xl4) (xl4.skl skb1) (fun F4 ty16 ty17 ty18 ty19 ty20 ty21 ty22 ty23 ty24 X2 sk2 => ?_)
            refine c_st (st2 := []) rfl ?_
            refine hv2 (xl4.ty ty3) (show ivh4 (sk 3) 2 = min (ivh3 (sk 3) 2 + ivh3 (sk 2) 2) 500 ∧ APD ivh3 rvb1 (sk 3) (sk 2) ivh4 rvh4 from exf4) (fun ty25 gf4 => ?_)
            have ri22 : 0 ≤ ivh4 (sk 3) 2 ∧ ivh4 (sk 3) 2 ≤ 500 := W4.int ty25 2
            refine c_aload_n (j := 1) (x := a0) C dX11_addText_109 rfl ?_
            refine c_aload_n (j := 1) (x := a0) C dX11_addText_110 rfl ?_
            refine hv2 (xl4.ty ty1) (show rvh4 a0 1 = rvb1 a0 1 from (fl4.r ty1 rfl 1)) (fun ty26 re2 => ?_)
            rw [rq2] at re2
            refine c_getr (k := 1) C ck_12 dX11_addText_111 w2_45 (by decide) ty26 rfl rfl (by decide) rfl re2 ?_
            refine c_st (st2 := [.ref (sk 3), .ref a0]) rfl ?_
            refine c_get (k := 2) C ck_2 dX11_addText_114 w1_44 (by decide) ty25 rfl rfl (by decide) rfl ?_
            have pl4 := Phi.le W4 sk2
            refine d_callV (As := [.int (iI (ivh4 (sk 3) 2))]) (rest := []) C hM (C_done (a0 := a0) (x := ivh4 (sk 3) 2) W4 sk2 ty26 (by omega) ) dX11_addText_117 kV_X11_109 rfl ty26 rfl rfl (by decide) ck_12 rfl (Nat.le_of_ble_eq_true rfl) ⟨(Nat.le_of_ble_eq_true rfl), (Nat.le_of_ble_eq_true rfl)⟩ hph pl4 (show 0 + 0 = 0 from rfl) (by decide) (fun rh5 Lh5 clh5 lnh5 ivh5 rvh5 h5 => ?_)
            obtain ⟨f5, rfl, rfl, rfl, rfl, rfl, fl5, W5, rgf5, exf5, kp11f5, kp12f5, kp13f5, kp14f5, kp15f5, kp16f5⟩ := h5
            refine hv19 (show 1 ≤ ivh4 a0 11 ∧ ivh4 a0 11 ≤ 100 from W4.int ty26 11) (show ivh4 a0 11 = ivh3 a0 11 from fl4.i ty1 rfl 11) (show ivh3 a0 11 = ivb1 a0 11 from fl3.i ty1 rfl 11) (show 1 ≤ ivh4 a0 12 ∧ ivh4 a0 12 ≤ 50 from W4.int ty26 12) (show ivh4 a0 12 = ivh3 a0 12 from fl4.i ty1 rfl 12) (show ivh3 a0 12 = ivb1 a0 12 from fl3.i ty1 rfl 12) (show (-2147483648) ≤ ivh4 a0 13 ∧ ivh4 a0 13 ≤ 2147483647 from W4.int ty26 13) (show ivh4 a0 13 = ivh3 a0 13 from fl4.i ty1 rfl 13) (show ivh3 a0 13 = ivb1 a0 13 from fl3.i ty1 rfl 13) (show (-2147483648) ≤ ivh4 a0 14 ∧ ivh4 a0 14 ≤ 2147483647 from W4.int ty26 14) (show ivh4 a0 14 = ivh3 a0 14 from fl4.i ty1 rfl 14) (show ivh3 a0 14 = ivb1 a0 14 from fl3.i ty1 rfl 14) (show (-2147483648) ≤ ivh4 a0 15 ∧ ivh4 a0 15 ≤ 2147483647 from W4.int ty26 15) (show ivh4 a0 15 = ivh3 a0 15 from fl4.i ty1 rfl 15) (show ivh3 a0 15 = ivb1 a0 15 from fl3.i ty1 rfl 15) (show (-2147483648) ≤ ivh4 a0 16 ∧ ivh4 a0 16 ≤ 2147483647 from W4.int ty26 16) (show ivh4 a0 16 = ivh3 a0 16 from fl4.i ty1 rfl 16) (show ivh3 a0 16 = ivb1 a0 16 from fl3.i ty1 rfl 16) (F4.call X2 fl5 rfl) (fun ri23 ie28 ie29 ri24 ie31 ie32 ri25 ie34 ie35 ri26 ie37 ie38 ri27 ie40 ie41 ri28 ie43 ie44 F5 => ?_)
            refine c_st (st2 := [.int (iI f5)]) rfl ?_
            refine hv17 (show ivh5 a0 11 = ivh4 a0 11 from kp11f5) (show ivh5 a0 12 = ivh4 a0 12 from kp12f5) (show ivh5 a0 13 = ivh4 a0 13 from kp13f5) (show ivh5 a0 14 = ivh4 a0 14 from kp14f5) (show ivh5 a0 15 = ivh4 a0 15 from kp15f5) (show ivh5 a0 16 = ivh4 a0 16 from kp16f5) (show f5 = (ivh4 (sk 3) 2) from exf5) (show 1 ≤ ivh5 a0 11 ∧ ivh5 a0 11 ≤ 100 from W5.int ty26 11) (show 1 ≤ ivh5 a0 12 ∧ ivh5 a0 12 ≤ 50 from W5.int ty26 12) (show (-2147483648) ≤ ivh5 a0 13 ∧ ivh5 a0 13 ≤ 2147483647 from W5.int ty26 13) (show (-2147483648) ≤ ivh5 a0 14 ∧ ivh5 a0 14 ≤ 2147483647 from W5.int ty26 14) (show (-2147483648) ≤ ivh5 a0 15 ∧ ivh5 a0 15 ≤ 2147483647 from W5.int ty26 15) (show (-2147483648) ≤ ivh5 a0 16 ∧ ivh5 a0 16 ≤ 2147483647 from W5.int ty26 16) (show 0 ≤ ivh5 (sk 3) 2 ∧ ivh5 (sk 3) 2 ≤ 500 from W5.int ty25 2) (show ivh5 (sk 3) 2 = ivh4 (sk 3) 2 from fl5.i ty25 rfl 2) (xl4.ty ty2) (show ivh4 (sk 2) 2 = ivh3 (sk 2) 2 from fl4.i ty2 rfl 2) (fun gk11f5 gk12f5 gk13f5 gk14f5 gk15f5 gk16f5 gf5 ri29 ri30 ri31 ri32 ri33 ri34 ri35 ie52 ty27 ie54 => ?_)
            refine hv2 (show 0 ≤ ivh5 (sk 2) 2 ∧ ivh5 (sk 2) 2 ≤ 3000 from W5.int ty27 2) (show ivh5 (sk 2) 2 = ivh4 (sk 2) 2 from fl5.i ty27 rfl 2) (fun ri36 ie53 => ?_)
            exact c_iret C dX11_addText_120 rfl (by decide) (rom0 hph pl4 (by decide)) ⟨f5, rfl, X2, F5, W5, ⟨by omega, by omega⟩, (fun ss hs => Or.inr ⟨by omega, fun j hj => htk ss hs j (by omega), by omega, by omega⟩), (by omega), (by omega), (by omega), (by omega), (by omega), (by omega), (fun ss tt hs ht => ⟨fun q => absurd q (by omega), fun _ => CT.zero (by omega)⟩), (Eq.trans (show rvh4 a0 9 = rvb1 a0 9 from (fl4.r ty1 rfl 9)) (show rvb1 a0 9 = rv a0 9 from hkr9)), (Eq.trans (show rvh4 a0 10 = rvb1 a0 10 from (fl4.r ty1 rfl 10)) (show rvb1 a0 10 = rv a0 10 from hkr10))⟩
        · refine c_aload_n (j := 1) (x := a0) C dX11_addText_74 rfl ?_
          refine c_bipush (z := 6) C dX11_addText_75 (by decide) ?_
          have pl5 := Phi.le Wb1 skb1
          refine d_callV (As := [.int (iI 6)]) (rest := []) C hM (C_refuse (a0 := a0) (x := 6) Wb1 skb1 ty1 ⟨by decide, by decide⟩ ) dX11_addText_77 kV_X11_102 rfl ty1 rfl rfl (by decide) ck_12 rfl (Nat.le_of_ble_eq_true rfl) ⟨(Nat.le_of_ble_eq_true rfl), (Nat.le_of_ble_eq_true rfl)⟩ hph pl5 (show 0 + 0 = 0 from rfl) (by decide) (fun rh6 Lh6 clh6 lnh6 ivh6 rvh6 h6 => ?_)
          obtain ⟨f6, rfl, rfl, rfl, rfl, rfl, fl6, W6, rgf6, exf6, kp11f6, kp12f6, kp13f6, kp14f6, kp15f6, kp16f6⟩ := h6
          refine hv7 (show 1 ≤ ivb1 a0 11 ∧ ivb1 a0 11 ≤ 100 from Wb1.int ty1 11) (show 1 ≤ ivb1 a0 12 ∧ ivb1 a0 12 ≤ 50 from Wb1.int ty1 12) (show (-2147483648) ≤ ivb1 a0 13 ∧ ivb1 a0 13 ≤ 2147483647 from Wb1.int ty1 13) (show (-2147483648) ≤ ivb1 a0 14 ∧ ivb1 a0 14 ≤ 2147483647 from Wb1.int ty1 14) (show (-2147483648) ≤ ivb1 a0 15 ∧ ivb1 a0 15 ≤ 2147483647 from Wb1.int ty1 15) (show (-2147483648) ≤ ivb1 a0 16 ∧ ivb1 a0 16 ≤ 2147483647 from Wb1.int ty1 16) (Fb1.call Xb1 fl6 rfl) (fun ri37 ri38 ri39 ri40 ri41 ri42 F6 => ?_)
          refine c_st (st2 := [.int (iI f6)]) rfl ?_
          refine hv17 (show ivh6 a0 11 = ivb1 a0 11 from kp11f6) (show ivh6 a0 12 = ivb1 a0 12 from kp12f6) (show ivh6 a0 13 = ivb1 a0 13 from kp13f6) (show ivh6 a0 14 = ivb1 a0 14 from kp14f6) (show ivh6 a0 15 = ivb1 a0 15 from kp15f6) (show ivh6 a0 16 = ivb1 a0 16 from kp16f6) (show f6 = -1 from exf6) (show 1 ≤ ivh6 a0 11 ∧ ivh6 a0 11 ≤ 100 from W6.int ty1 11) (show 1 ≤ ivh6 a0 12 ∧ ivh6 a0 12 ≤ 50 from W6.int ty1 12) (show (-2147483648) ≤ ivh6 a0 13 ∧ ivh6 a0 13 ≤ 2147483647 from W6.int ty1 13) (show (-2147483648) ≤ ivh6 a0 14 ∧ ivh6 a0 14 ≤ 2147483647 from W6.int ty1 14) (show (-2147483648) ≤ ivh6 a0 15 ∧ ivh6 a0 15 ≤ 2147483647 from W6.int ty1 15) (show (-2147483648) ≤ ivh6 a0 16 ∧ ivh6 a0 16 ≤ 2147483647 from W6.int ty1 16) (show 0 ≤ ivh6 (sk 3) 2 ∧ ivh6 (sk 3) 2 ≤ 500 from W6.int ty3 2) (show ivh6 (sk 3) 2 = ivb1 (sk 3) 2 from fl6.i ty3 rfl 2) (show 0 ≤ ivh6 (sk 2) 2 ∧ ivh6 (sk 2) 2 ≤ 3000 from W6.int ty2 2) (show ivh6 (sk 2) 2 = ivb1 (sk 2) 2 from fl6.i ty2 rfl 2) (fun gk11f6 gk12f6 gk13f6 gk14f6 gk15f6 gk16f6 gf6 ri43 ri44 ri45 ri46 ri47 ri48 ri49 ie67 ri50 ie68 => ?_)
          exact c_iret C dX11_addText_80 rfl (by decide) (rom0 hph pl5 (by decide)) ⟨f6, rfl, Xb1, F6, W6, ⟨by omega, by omega⟩, (fun ss hs => Or.inl ⟨by omega, by omega, fun q => absurd q.2 (by omega)⟩), (by omega), (by omega), (by omega), (by omega), (by omega), (by omega), (fun ss tt hs ht => ⟨fun _ => CT.fr (hc3 tt ht) Wb1 ty3 fl6 rfl rfl rfl rfl rfl, fun q => absurd (by omega) q⟩), (show rvb1 a0 9 = rv a0 9 from hkr9), (show rvb1 a0 10 = rv a0 10 from hkr10)⟩
      · refine c_aload_n (j := 1) (x := a0) C dX11_addText_13 rfl ?_
        refine c_getr (k := 0) C ck_12 dX11_addText_14 w2_44 (by decide) ty1 rfl rfl (by decide) rfl rq1 ?_
        refine c_st (st2 := [.ref (sk 2)]) rfl ?_
        refine c_iload_n (j := 0) C dX11_addText_17 rfl ?_
        have pl6 := Phi.le Wb1 skb1
        refine d_callV (As := [.int (iI k)]) (rest := []) C hM (C_at_2 (a0 := (sk 2)) (i := k) Wb1 skb1 ty2 (by omega) ) dX11_addText_18 kV_X11_224 rfl ty2 rfl rfl (by decide) ck_2 rfl (Nat.le_of_ble_eq_true rfl) ⟨(Nat.le_of_ble_eq_true rfl), (Nat.le_of_ble_eq_true rfl)⟩ hph pl6 (show 0 + 0 = 0 from rfl) (by decide) (fun rh7 Lh7 clh7 lnh7 ivh7 rvh7 h7 => ?_)
        obtain ⟨f7, rfl, rfl, rfl, rfl, rfl, rfl, rgf7, exf7⟩ := h7
        refine c_st (st2 := [.int (iI f7)]) rfl ?_
        have gf7 : ((0 ≤ k ∧ k < ivb1 (sk 2) 2) ∨ f7 = 0) ∧ ∀ ss, CT ivb1 rvb1 (sk 2) ss → 0 ≤ k → k < ivb1 (sk 2) 2 → f7 = ss k.toNat := exf7
        refine c_istore_n (lv2 := [(2, .int (iI f7)), (1, .int (iI k)), (0, .ref a0)]) C dX11_addText_21 (by decide) rfl ?_
        refine c_iload_n (j := 0) C dX11_addText_22 rfl ?_
        refine c_bipush (z := 10) C dX11_addText_23 (by decide) ?_
        refine c_icmp_eq (tgt := 47) C ⟨by omega, by omega⟩ ⟨by decide, by decide⟩ dX11_addText_25 (by decide) (fun c4 => ?_) (fun c4 => ?_)
        · refine c_iinc (z := k) (j := 1) (lv2 := [(1, .int (iI (k + 1))), (2, .int (iI f7)), (0, .ref a0)]) C dX11_addText_47 rfl (by decide) rfl ?_
          refine c_goto (tgt := 2) C dX11_addText_50 (by decide) ?_
          refine hv7 (Xb1.ty tsk3) (show 1 ≤ ivb1 a0 11 ∧ ivb1 a0 11 ≤ 100 from Wb1.int ty1 11) (show 1 ≤ ivb1 a0 12 ∧ ivb1 a0 12 ≤ 50 from Wb1.int ty1 12) (show (-2147483648) ≤ ivb1 a0 13 ∧ ivb1 a0 13 ≤ 2147483647 from Wb1.int ty1 13) (show (-2147483648) ≤ ivb1 a0 14 ∧ ivb1 a0 14 ≤ 2147483647 from Wb1.int ty1 14) (show (-2147483648) ≤ ivb1 a0 15 ∧ ivb1 a0 15 ≤ 2147483647 from Wb1.int ty1 15) (show (-2147483648) ≤ ivb1 a0 16 ∧ ivb1 a0 16 ≤ 2147483647 from Wb1.int ty1 16) (fun ty28 ri52 ri53 ri54 ri55 ri56 ri57 => ?_)
          have ri51 : 0 ≤ ivb1 (sk 3) 2 ∧ ivb1 (sk 3) 2 ≤ 500 := Wb1.int ty28 2
          refine c_lv (lv2 := [(1, .int (iI (k + 1))), (0, .ref a0)]) [0, 2] rfl ?_
          exact ih1  (k + 1) _ _ _ _ _ (by omega) Xb1 Wb1 Fb1  (by omega) (by show ivb1 (sk 3) 2 = iv (sk 3) 2; omega) (fun ss hs => TOK.snoc (htk ss hs) (by omega) (by have e := gf7.2 ss (CT.fr hs hW tsk2 Fb1 rfl rfl rfl rfl rfl) (by omega) (by omega); rw [← e]; omega)) hc3 (by show ivb1 a0 11 = iv a0 11; omega) (by show ivb1 a0 12 = iv a0 12; omega) (by show ivb1 a0 13 = iv a0 13; omega) (by show ivb1 a0 14 = iv a0 14; omega) (by show ivb1 a0 15 = iv a0 15; omega) (by show ivb1 a0 16 = iv a0 16; omega) (show rvb1 a0 9 = rv a0 9 from hkr9) (show rvb1 a0 10 = rv a0 10 from hkr10)
        · refine c_iload_n (j := 0) C dX11_addText_28 rfl ?_
          refine c_bipush (z := 32) C dX11_addText_29 (by decide) ?_
          refine c_icmp_lt (tgt := 40) C ⟨by omega, by omega⟩ ⟨by decide, by decide⟩ dX11_addText_31 (by decide) (fun c5 => ?_) (fun c5 => ?_)
          · refine c_aload_n (j := 2) (x := a0) C dX11_addText_40 rfl ?_
            refine c_bipush (z := 6) C dX11_addText_41 (by decide) ?_
            have ty29 := Xb1.ty tsk3
            refine d_callV (As := [.int (iI 6)]) (rest := []) C hM (C_refuse (a0 := a0) (x := 6) Wb1 skb1 ty1 ⟨by decide, by decide⟩ ) dX11_addText_43 kV_X11_102 rfl ty1 rfl rfl (by decide) ck_12 rfl (Nat.le_of_ble_eq_true rfl) ⟨(Nat.le_of_ble_eq_true rfl), (Nat.le_of_ble_eq_true rfl)⟩ hph pl6 (show 0 + 0 = 0 from rfl) (by decide) (fun rh8 Lh8 clh8 lnh8 ivh8 rvh8 h8 => ?_)
            obtain ⟨f8, rfl, rfl, rfl, rfl, rfl, fl8, W8, rgf8, exf8, kp11f8, kp12f8, kp13f8, kp14f8, kp15f8, kp16f8⟩ := h8
            refine hv7 (show 1 ≤ ivb1 a0 11 ∧ ivb1 a0 11 ≤ 100 from Wb1.int ty1 11) (show 1 ≤ ivb1 a0 12 ∧ ivb1 a0 12 ≤ 50 from Wb1.int ty1 12) (show (-2147483648) ≤ ivb1 a0 13 ∧ ivb1 a0 13 ≤ 2147483647 from Wb1.int ty1 13) (show (-2147483648) ≤ ivb1 a0 14 ∧ ivb1 a0 14 ≤ 2147483647 from Wb1.int ty1 14) (show (-2147483648) ≤ ivb1 a0 15 ∧ ivb1 a0 15 ≤ 2147483647 from Wb1.int ty1 15) (show (-2147483648) ≤ ivb1 a0 16 ∧ ivb1 a0 16 ≤ 2147483647 from Wb1.int ty1 16) (Fb1.call Xb1 fl8 rfl) (fun ri58 ri59 ri60 ri61 ri62 ri63 F7 => ?_)
            refine c_st (st2 := [.int (iI f8)]) rfl ?_
            refine hv17 (show ivh8 a0 11 = ivb1 a0 11 from kp11f8) (show ivh8 a0 12 = ivb1 a0 12 from kp12f8) (show ivh8 a0 13 = ivb1 a0 13 from kp13f8) (show ivh8 a0 14 = ivb1 a0 14 from kp14f8) (show ivh8 a0 15 = ivb1 a0 15 from kp15f8) (show ivh8 a0 16 = ivb1 a0 16 from kp16f8) (show f8 = -1 from exf8) (show 1 ≤ ivh8 a0 11 ∧ ivh8 a0 11 ≤ 100 from W8.int ty1 11) (show 1 ≤ ivh8 a0 12 ∧ ivh8 a0 12 ≤ 50 from W8.int ty1 12) (show (-2147483648) ≤ ivh8 a0 13 ∧ ivh8 a0 13 ≤ 2147483647 from W8.int ty1 13) (show (-2147483648) ≤ ivh8 a0 14 ∧ ivh8 a0 14 ≤ 2147483647 from W8.int ty1 14) (show (-2147483648) ≤ ivh8 a0 15 ∧ ivh8 a0 15 ≤ 2147483647 from W8.int ty1 15) (show (-2147483648) ≤ ivh8 a0 16 ∧ ivh8 a0 16 ≤ 2147483647 from W8.int ty1 16) (show 0 ≤ ivh8 (sk 3) 2 ∧ ivh8 (sk 3) 2 ≤ 500 from W8.int ty29 2) (show ivh8 (sk 3) 2 = ivb1 (sk 3) 2 from fl8.i ty29 rfl 2) (show 0 ≤ ivh8 (sk 2) 2 ∧ ivh8 (sk 2) 2 ≤ 3000 from W8.int ty2 2) (show ivh8 (sk 2) 2 = ivb1 (sk 2) 2 from fl8.i ty2 rfl 2) (fun gk11f8 gk12f8 gk13f8 gk14f8 gk15f8 gk16f8 gf8 ri64 ri65 ri66 ri67 ri68 ri69 ri70 ie88 ri71 ie90 => ?_)
            exact c_iret C dX11_addText_46 rfl (by decide) (rom0 hph pl6 (by decide)) ⟨f8, rfl, Xb1, F7, W8, ⟨by omega, by omega⟩, (fun ss hs => Or.inl ⟨by omega, by omega, fun q => absurd (q.1 k.toNat (by omega)) (by have e := gf7.2 ss (CT.fr hs hW tsk2 Fb1 rfl rfl rfl rfl rfl) (by omega) (by omega); rw [← e]; omega)⟩), (by omega), (by omega), (by omega), (by omega), (by omega), (by omega), (fun ss tt hs ht => ⟨fun _ => CT.fr (hc3 tt ht) Wb1 ty29 fl8 rfl rfl rfl rfl rfl, fun q => absurd (by omega) q⟩), (show rvb1 a0 9 = rv a0 9 from hkr9), (show rvb1 a0 10 = rv a0 10 from hkr10)⟩
          · refine c_iload_n (j := 0) C dX11_addText_34 rfl ?_
            refine c_bipush (z := 126) C dX11_addText_35 (by decide) ?_
            refine c_icmp_le (tgt := 47) C ⟨by omega, by omega⟩ ⟨by decide, by decide⟩ dX11_addText_37 (by decide) (fun c6 => ?_) (fun c6 => ?_)
            · refine c_iinc (z := k) (j := 1) (lv2 := [(1, .int (iI (k + 1))), (2, .int (iI f7)), (0, .ref a0)]) C dX11_addText_47 rfl (by decide) rfl ?_
              refine c_goto (tgt := 2) C dX11_addText_50 (by decide) ?_
              refine hv7 (Xb1.ty tsk3) (show 1 ≤ ivb1 a0 11 ∧ ivb1 a0 11 ≤ 100 from Wb1.int ty1 11) (show 1 ≤ ivb1 a0 12 ∧ ivb1 a0 12 ≤ 50 from Wb1.int ty1 12) (show (-2147483648) ≤ ivb1 a0 13 ∧ ivb1 a0 13 ≤ 2147483647 from Wb1.int ty1 13) (show (-2147483648) ≤ ivb1 a0 14 ∧ ivb1 a0 14 ≤ 2147483647 from Wb1.int ty1 14) (show (-2147483648) ≤ ivb1 a0 15 ∧ ivb1 a0 15 ≤ 2147483647 from Wb1.int ty1 15) (show (-2147483648) ≤ ivb1 a0 16 ∧ ivb1 a0 16 ≤ 2147483647 from Wb1.int ty1 16) (fun ty30 ri73 ri74 ri75 ri76 ri77 ri78 => ?_)
              have ri72 : 0 ≤ ivb1 (sk 3) 2 ∧ ivb1 (sk 3) 2 ≤ 500 := Wb1.int ty30 2
              refine c_lv (lv2 := [(1, .int (iI (k + 1))), (0, .ref a0)]) [0, 2] rfl ?_
              exact ih1  (k + 1) _ _ _ _ _ (by omega) Xb1 Wb1 Fb1  (by omega) (by show ivb1 (sk 3) 2 = iv (sk 3) 2; omega) (fun ss hs => TOK.snoc (htk ss hs) (by omega) (by have e := gf7.2 ss (CT.fr hs hW tsk2 Fb1 rfl rfl rfl rfl rfl) (by omega) (by omega); rw [← e]; omega)) hc3 (by show ivb1 a0 11 = iv a0 11; omega) (by show ivb1 a0 12 = iv a0 12; omega) (by show ivb1 a0 13 = iv a0 13; omega) (by show ivb1 a0 14 = iv a0 14; omega) (by show ivb1 a0 15 = iv a0 15; omega) (by show ivb1 a0 16 = iv a0 16; omega) (show rvb1 a0 9 = rv a0 9 from hkr9) (show rvb1 a0 10 = rv a0 10 from hkr10)
            · refine c_aload_n (j := 2) (x := a0) C dX11_addText_40 rfl ?_
              refine c_bipush (z := 6) C dX11_addText_41 (by decide) ?_
              have ty31 := Xb1.ty tsk3
              refine d_callV (As := [.int (iI 6)]) (rest := []) C hM (C_refuse (a0 := a0) (x := 6) Wb1 skb1 ty1 ⟨by decide, by decide⟩ ) dX11_addText_43 kV_X11_102 rfl ty1 rfl rfl (by decide) ck_12 rfl (Nat.le_of_ble_eq_true rfl) ⟨(Nat.le_of_ble_eq_true rfl), (Nat.le_of_ble_eq_true rfl)⟩ hph pl6 (show 0 + 0 = 0 from rfl) (by decide) (fun rh9 Lh9 clh9 lnh9 ivh9 rvh9 h9 => ?_)
              obtain ⟨f9, rfl, rfl, rfl, rfl, rfl, fl9, W9, rgf9, exf9, kp11f9, kp12f9, kp13f9, kp14f9, kp15f9, kp16f9⟩ := h9
              refine hv7 (show 1 ≤ ivb1 a0 11 ∧ ivb1 a0 11 ≤ 100 from Wb1.int ty1 11) (show 1 ≤ ivb1 a0 12 ∧ ivb1 a0 12 ≤ 50 from Wb1.int ty1 12) (show (-2147483648) ≤ ivb1 a0 13 ∧ ivb1 a0 13 ≤ 2147483647 from Wb1.int ty1 13) (show (-2147483648) ≤ ivb1 a0 14 ∧ ivb1 a0 14 ≤ 2147483647 from Wb1.int ty1 14) (show (-2147483648) ≤ ivb1 a0 15 ∧ ivb1 a0 15 ≤ 2147483647 from Wb1.int ty1 15) (show (-2147483648) ≤ ivb1 a0 16 ∧ ivb1 a0 16 ≤ 2147483647 from Wb1.int ty1 16) (Fb1.call Xb1 fl9 rfl) (fun ri79 ri80 ri81 ri82 ri83 ri84 F8 => ?_)
              refine c_st (st2 := [.int (iI f9)]) rfl ?_
              refine hv17 (show ivh9 a0 11 = ivb1 a0 11 from kp11f9) (show ivh9 a0 12 = ivb1 a0 12 from kp12f9) (show ivh9 a0 13 = ivb1 a0 13 from kp13f9) (show ivh9 a0 14 = ivb1 a0 14 from kp14f9) (show ivh9 a0 15 = ivb1 a0 15 from kp15f9) (show ivh9 a0 16 = ivb1 a0 16 from kp16f9) (show f9 = -1 from exf9) (show 1 ≤ ivh9 a0 11 ∧ ivh9 a0 11 ≤ 100 from W9.int ty1 11) (show 1 ≤ ivh9 a0 12 ∧ ivh9 a0 12 ≤ 50 from W9.int ty1 12) (show (-2147483648) ≤ ivh9 a0 13 ∧ ivh9 a0 13 ≤ 2147483647 from W9.int ty1 13) (show (-2147483648) ≤ ivh9 a0 14 ∧ ivh9 a0 14 ≤ 2147483647 from W9.int ty1 14) (show (-2147483648) ≤ ivh9 a0 15 ∧ ivh9 a0 15 ≤ 2147483647 from W9.int ty1 15) (show (-2147483648) ≤ ivh9 a0 16 ∧ ivh9 a0 16 ≤ 2147483647 from W9.int ty1 16) (show 0 ≤ ivh9 (sk 3) 2 ∧ ivh9 (sk 3) 2 ≤ 500 from W9.int ty31 2) (show ivh9 (sk 3) 2 = ivb1 (sk 3) 2 from fl9.i ty31 rfl 2) (show 0 ≤ ivh9 (sk 2) 2 ∧ ivh9 (sk 2) 2 ≤ 3000 from W9.int ty2 2) (show ivh9 (sk 2) 2 = ivb1 (sk 2) 2 from fl9.i ty2 rfl 2) (fun gk11f9 gk12f9 gk13f9 gk14f9 gk15f9 gk16f9 gf9 ri85 ri86 ri87 ri88 ri89 ri90 ri91 ie110 ri92 ie112 => ?_)
              exact c_iret C dX11_addText_46 rfl (by decide) (rom0 hph pl6 (by decide)) ⟨f9, rfl, Xb1, F8, W9, ⟨by omega, by omega⟩, (fun ss hs => Or.inl ⟨by omega, by omega, fun q => absurd (q.1 k.toNat (by omega)) (by have e := gf7.2 ss (CT.fr hs hW tsk2 Fb1 rfl rfl rfl rfl rfl) (by omega) (by omega); rw [← e]; omega)⟩), (by omega), (by omega), (by omega), (by omega), (by omega), (by omega), (fun ss tt hs ht => ⟨fun _ => CT.fr (hc3 tt ht) Wb1 ty31 fl9 rfl rfl rfl rfl rfl, fun q => absurd (by omega) q⟩), (show rvb1 a0 9 = rv a0 9 from hkr9), (show rvb1 a0 10 = rv a0 10 from hkr10)⟩
  refine hv6 (show 1 ≤ iv a0 11 ∧ iv a0 11 ≤ 100 from hW.int t_a0 11) (show 1 ≤ iv a0 12 ∧ iv a0 12 ≤ 50 from hW.int t_a0 12) (show (-2147483648) ≤ iv a0 13 ∧ iv a0 13 ≤ 2147483647 from hW.int t_a0 13) (show (-2147483648) ≤ iv a0 14 ∧ iv a0 14 ≤ 2147483647 from hW.int t_a0 14) (show (-2147483648) ≤ iv a0 15 ∧ iv a0 15 ≤ 2147483647 from hW.int t_a0 15) (show (-2147483648) ≤ iv a0 16 ∧ iv a0 16 ≤ 2147483647 from hW.int t_a0 16) (fun ri93 ri94 ri95 ri96 ri97 ri98 => ?_)
  refine c_lv (lv2 := [(1, .int (iI 0)), (0, .ref a0)]) [0, 1] rfl ?_
  exact Lp1 3003 0 _ _ _ _ _ (by omega) hX0 hW hF0  (by omega) (by show iv (sk 3) 2 = iv (sk 3) 2; omega) (fun ss hs => TOK.zero) (fun tt ht => ht) (by show iv a0 11 = iv a0 11; omega) (by show iv a0 12 = iv a0 12; omega) (by show iv a0 13 = iv a0 13; omega) (by show iv a0 14 = iv a0 14; omega) (by show iv a0 15 = iv a0 15; omega) (by show iv a0 16 = iv a0 16; omega) rfl rfl
set_option maxHeartbeats 4000000 in
set_option maxRecDepth 100000 in
theorem C_text {l : Launch} {G : GT} {mi : Nat} {sk : Nat → Nat} {L : List Nat} {cl ln : Nat → Nat} {iv : Nat → Nat → Int} {rv : Nat → Nat → Option Nat}  {a0 : Nat} (hW : WT (g0 G) sk L cl ln iv rv) (hS : SKL sk L cl) (t_a0 : ty L cl a0 1)  : Mc l G mi (Phi (g0 G) sk) PHM yX11_text cX11_text 2 (some .int) 5 [.ref a0] L cl ln iv rv 0 (fun v L2 cl2 ln2 iv2 rv2 => ∃ f : Int, v = some (.int (iI f)) ∧ XT L cl ln L2 cl2 ln2 ∧ fT [1, 2, 3, 33] L cl iv rv iv2 rv2 ∧ WT (g0 G) sk L2 cl2 ln2 iv2 rv2 ∧ (-2147483648 ≤ f ∧ f ≤ 2147483647) ∧ (∀ ss, CT iv rv (sk 2) ss → ((f = -1 ∧ iv2 (sk 3) 2 = iv (sk 3) 2 ∧ ¬ (TOK ss (iv (sk 2) 2) ∧ iv (sk 3) 2 + iv (sk 2) 2 ≤ 500)) ∨ (f = iv2 (sk 3) 2 ∧ TOK ss (iv (sk 2) 2) ∧ iv (sk 3) 2 + iv (sk 2) 2 ≤ 500 ∧ ((iv (sk 2) 2 = 0 ∧ iv2 (sk 3) 2 = 0) ∨ (iv (sk 2) 2 ≠ 0 ∧ iv2 (sk 3) 2 = iv (sk 3) 2 + iv (sk 2) 2))))) ∧ iv2 a0 11 = iv a0 11 ∧ iv2 a0 12 = iv a0 12 ∧ iv2 a0 13 = iv a0 13 ∧ iv2 a0 14 = iv a0 14 ∧ iv2 a0 15 = iv a0 15 ∧ iv2 a0 16 = iv a0 16 ∧ iv2 (sk 2) 2 = 0 ∧ (∀ ss tt, CT iv rv (sk 2) ss → CT iv rv (sk 3) tt → (f = -1 → CT iv2 rv2 (sk 3) tt) ∧ (f ≠ -1 → CT iv2 rv2 (sk 3) (apd tt (iv (sk 3) 2).toNat ss))) ∧ rv2 a0 9 = rv a0 9 ∧ rv2 a0 10 = rv a0 10) := by
  refine Mc.mk (by decide) (Nat.le_of_ble_eq_true rfl) ?_
  intro p e s m args below meth c A C hM
  refine hv14 (Phi.le hW hS) (show ty L cl (sk 2) 2 from ⟨(hS 2 rfl).1, by rw [(hS 2 rfl).2]; rfl⟩) (show ty L cl (sk 3) 3 from ⟨(hS 3 rfl).1, by rw [(hS 3 rfl).2]; rfl⟩) (show ty L cl (sk 4) 4 from ⟨(hS 4 rfl).1, by rw [(hS 4 rfl).2]; rfl⟩) (show ty L cl (sk 5) 5 from ⟨(hS 5 rfl).1, by rw [(hS 5 rfl).2]; rfl⟩) (show ty L cl (sk 13) 13 from ⟨(hS 13 rfl).1, by rw [(hS 13 rfl).2]; rfl⟩) (show ty L cl (sk 14) 14 from ⟨(hS 14 rfl).1, by rw [(hS 14 rfl).2]; rfl⟩) (show ty L cl (sk 15) 15 from ⟨(hS 15 rfl).1, by rw [(hS 15 rfl).2]; rfl⟩) (show ty L cl (sk 16) 16 from ⟨(hS 16 rfl).1, by rw [(hS 16 rfl).2]; rfl⟩) (show ty L cl (sk 17) 17 from ⟨(hS 17 rfl).1, by rw [(hS 17 rfl).2]; rfl⟩) (show ty L cl (sk 22) 22 from ⟨(hS 22 rfl).1, by rw [(hS 22 rfl).2]; rfl⟩) (show ty L cl (sk 23) 23 from ⟨(hS 23 rfl).1, by rw [(hS 23 rfl).2]; rfl⟩) (show XT L cl ln L cl ln from XT.refl) (show fT [1, 2, 3, 33] L cl iv rv iv rv from fT.refl) (fun hph tsk2 tsk3 tsk4 tsk5 tsk13 tsk14 tsk15 tsk16 tsk17 tsk22 tsk23 hX0 hF0 => ?_)
  refine c_aload_n (j := 0) (x := a0) C dX11_text_0 rfl ?_
  refine hv2 (show 0 ≤ iv (sk 3) 2 ∧ iv (sk 3) 2 ≤ 500 from hW.int tsk3 2) (show 0 ≤ iv (sk 2) 2 ∧ iv (sk 2) 2 ≤ 3000 from hW.int tsk2 2) (fun ri1 ri2 => ?_)
  refine d_callV (As := []) (rest := []) C hM (C_addText (a0 := a0) hW hS t_a0  ) dX11_text_1 kV_X11_221 rfl t_a0 rfl rfl (by decide) ck_12 rfl (Nat.le_of_ble_eq_true rfl) ⟨(Nat.le_of_ble_eq_true rfl), (Nat.le_of_ble_eq_true rfl)⟩ hph hph (show 0 + 0 = 0 from rfl) (by decide) (fun rh1 Lh1 clh1 lnh1 ivh1 rvh1 h1 => ?_)
  obtain ⟨f1, rfl, xl1, fl1, W1, rgf1, exf1, kp11f1, kp12f1, kp13f1, kp14f1, kp15f1, kp16f1, txkf1, kr9f1, kr10f1⟩ := h1
  refine hv9 (show 1 ≤ iv a0 11 ∧ iv a0 11 ≤ 100 from hW.int t_a0 11) (show 1 ≤ iv a0 12 ∧ iv a0 12 ≤ 50 from hW.int t_a0 12) (show (-2147483648) ≤ iv a0 13 ∧ iv a0 13 ≤ 2147483647 from hW.int t_a0 13) (show (-2147483648) ≤ iv a0 14 ∧ iv a0 14 ≤ 2147483647 from hW.int t_a0 14) (show (-2147483648) ≤ iv a0 15 ∧ iv a0 15 ≤ 2147483647 from hW.int t_a0 15) (show (-2147483648) ≤ iv a0 16 ∧ iv a0 16 ≤ 2147483647 from hW.int t_a0 16) (hF0.call hX0 fl1 rfl) (hX0.trans xl1) (xl1.skl hS) (fun ri3 ri4 ri5 ri6 ri7 ri8 F1 X1 sk1 => ?_)
  refine c_st (st2 := [.int (iI f1)]) rfl ?_
  refine hv8 (show ivh1 a0 11 = iv a0 11 from kp11f1) (show ivh1 a0 12 = iv a0 12 from kp12f1) (show ivh1 a0 13 = iv a0 13 from kp13f1) (show ivh1 a0 14 = iv a0 14 from kp14f1) (show ivh1 a0 15 = iv a0 15 from kp15f1) (show ivh1 a0 16 = iv a0 16 from kp16f1) (xl1.ty tsk3) (show ∀ ss, CT iv rv (sk 2) ss → ((f1 = -1 ∧ ivh1 (sk 3) 2 = iv (sk 3) 2 ∧ ¬ (TOK ss (iv (sk 2) 2) ∧ iv (sk 3) 2 + iv (sk 2) 2 ≤ 500)) ∨ (f1 = ivh1 (sk 3) 2 ∧ TOK ss (iv (sk 2) 2) ∧ iv (sk 3) 2 + iv (sk 2) 2 ≤ 500 ∧ ((iv (sk 2) 2 = 0 ∧ ivh1 (sk 3) 2 = 0) ∨ (iv (sk 2) 2 ≠ 0 ∧ ivh1 (sk 3) 2 = iv (sk 3) 2 + iv (sk 2) 2)))) from exf1) (fun gk11f1 gk12f1 gk13f1 gk14f1 gk15f1 gk16f1 ty1 gf1 => ?_)
  have ri9 : 0 ≤ ivh1 (sk 3) 2 ∧ ivh1 (sk 3) 2 ≤ 500 := W1.int ty1 2
  refine c_istore_n (lv2 := [(1, .int (iI f1)), (0, .ref a0)]) C dX11_text_4 (by decide) rfl ?_
  refine c_aload_n (j := 1) (x := a0) C dX11_text_5 rfl ?_
  have ty2 := xl1.ty t_a0
  obtain ⟨rb1, rq1, trb1⟩ := W1.ref ty2 0 rfl rfl rfl
  have erb1 := W1.sk trb1 (by decide) rfl
  subst erb1
  refine c_getr (k := 0) C ck_12 dX11_text_6 w2_44 (by decide) ty2 rfl rfl (by decide) rfl rq1 ?_
  refine c_st (st2 := [.ref (sk 2)]) rfl ?_
  refine hv2 (xl1.ty tsk2) (Phi.le W1 sk1) (fun ty3 pl1 => ?_)
  refine d_callV (As := []) (rest := []) C hM (C_clear_2 (a0 := (sk 2)) W1 sk1 ty3  ) dX11_text_9 kV_X11_164 rfl ty3 rfl rfl (by decide) ck_2 rfl (Nat.le_of_ble_eq_true rfl) ⟨(Nat.le_of_ble_eq_true rfl), (Nat.le_of_ble_eq_true rfl)⟩ hph pl1 (show 0 + 0 = 0 from rfl) (by decide) (fun rh2 Lh2 clh2 lnh2 ivh2 rvh2 h2 => ?_)
  obtain ⟨rfl, rfl, rfl, rfl, rfl, fl2, W2, exf2⟩ := h2
  have F2 := F1.call X1 fl2 rfl
  refine c_st (st2 := []) rfl ?_
  refine hv2 (show 0 ≤ ivh2 (sk 2) 2 ∧ ivh2 (sk 2) 2 ≤ 3000 from W2.int ty3 2) (show ivh2 (sk 2) 2 = 0 from exf2) (fun ri10 gf2 => ?_)
  refine c_iload_n (j := 0) C dX11_text_12 rfl ?_
  refine hv14 (show 1 ≤ ivh2 a0 11 ∧ ivh2 a0 11 ≤ 100 from W2.int ty2 11) (show ivh2 a0 11 = ivh1 a0 11 from fl2.i ty2 rfl 11) (show 1 ≤ ivh2 a0 12 ∧ ivh2 a0 12 ≤ 50 from W2.int ty2 12) (show ivh2 a0 12 = ivh1 a0 12 from fl2.i ty2 rfl 12) (show (-2147483648) ≤ ivh2 a0 13 ∧ ivh2 a0 13 ≤ 2147483647 from W2.int ty2 13) (show ivh2 a0 13 = ivh1 a0 13 from fl2.i ty2 rfl 13) (show (-2147483648) ≤ ivh2 a0 14 ∧ ivh2 a0 14 ≤ 2147483647 from W2.int ty2 14) (show ivh2 a0 14 = ivh1 a0 14 from fl2.i ty2 rfl 14) (show (-2147483648) ≤ ivh2 a0 15 ∧ ivh2 a0 15 ≤ 2147483647 from W2.int ty2 15) (show ivh2 a0 15 = ivh1 a0 15 from fl2.i ty2 rfl 15) (show (-2147483648) ≤ ivh2 a0 16 ∧ ivh2 a0 16 ≤ 2147483647 from W2.int ty2 16) (show ivh2 a0 16 = ivh1 a0 16 from fl2.i ty2 rfl 16) (show 0 ≤ ivh2 (sk 3) 2 ∧ ivh2 (sk 3) 2 ≤ 500 from W2.int ty1 2) (show ivh2 (sk 3) 2 = ivh1 (sk 3) 2 from fl2.i ty1 rfl 2) (fun ri11 ie3 ri12 ie5 ri13 ie7 ri14 ie9 ri15 ie11 ri16 ie13 ri17 ie15 => ?_)
  exact c_iret C dX11_text_13 rfl (by decide) (rom0 hph pl1 (by decide)) ⟨f1, rfl, X1, F2, W2, ⟨by omega, by omega⟩, (fun ss hs => by rw [show ivh2 (sk 3) 2 = ivh1 (sk 3) 2 by omega]; exact gf1 ss hs), (by omega), (by omega), (by omega), (by omega), (by omega), (by omega), (by omega), (fun ss tt hs ht => ⟨fun e => CT.fr ((txkf1 ss tt hs ht).1 e) W1 ty1 fl2 rfl rfl rfl rfl rfl, fun e => CT.fr ((txkf1 ss tt hs ht).2 e) W1 ty1 fl2 rfl rfl rfl rfl rfl⟩), (show rvh1 a0 9 = rv a0 9 from kr9f1), (show rvh1 a0 10 = rv a0 10 from kr10f1)⟩
set_option maxHeartbeats 4000000 in
set_option maxRecDepth 100000 in
theorem C_lines {l : Launch} {G : GT} {mi : Nat} {sk : Nat → Nat} {L : List Nat} {cl ln : Nat → Nat} {iv : Nat → Nat → Int} {rv : Nat → Nat → Option Nat}  {a0 : Nat} (hW : WT (g0 G) sk L cl ln iv rv) (hS : SKL sk L cl) (t_a0 : ty L cl a0 1)  : Mc l G mi (Phi (g0 G) sk) PHM yX11_lines cX11_lines 1 (some .int) 0 [.ref a0] L cl ln iv rv 0 (fun v L2 cl2 ln2 iv2 rv2 => ∃ f : Int, v = some (.int (iI f)) ∧ L = L2 ∧ cl = cl2 ∧ ln = ln2 ∧ iv = iv2 ∧ rv = rv2 ∧ (-2147483648 ≤ f ∧ f ≤ 2147483647) ∧ (True)) := by
  refine Mc.mk (by decide) (Nat.le_of_ble_eq_true rfl) ?_
  intro p e s m args below meth c A C hM
  refine hv3 (Phi.le hW hS) (show XT L cl ln L cl ln from XT.refl) (show fT [] L cl iv rv iv rv from fT.refl) (fun hph hX0 hF0 => ?_)
  refine c_aload_n (j := 0) (x := a0) C dX11_lines_0 rfl ?_
  obtain ⟨rb1, rq1, trb1⟩ := hW.ref t_a0 9 rfl rfl rfl
  refine c_getr (k := 9) C ck_12 dX11_lines_1 w2_53 (by decide) t_a0 rfl rfl (by decide) rfl rq1 ?_
  refine c_st (st2 := [.ref rb1]) rfl ?_
  have ri1 : 0 ≤ iv rb1 1 ∧ iv rb1 1 ≤ 200 := hW.int trb1 1
  refine c_get (k := 1) C ck_8 dX11_lines_4 w2_35 (by decide) trb1 rfl rfl (by decide) rfl ?_
  exact c_iret C dX11_lines_7 rfl (by decide) (rom0 hph hph (by decide)) ⟨(iv rb1 1), rfl, rfl, rfl, rfl, rfl, rfl, ⟨by omega, by omega⟩, trivial⟩
set_option maxHeartbeats 4000000 in
set_option maxRecDepth 100000 in
theorem C_hasHeader {l : Launch} {G : GT} {mi : Nat} {sk : Nat → Nat} {L : List Nat} {cl ln : Nat → Nat} {iv : Nat → Nat → Int} {rv : Nat → Nat → Option Nat}  {a0 : Nat} (hW : WT (g0 G) sk L cl ln iv rv) (hS : SKL sk L cl) (t_a0 : ty L cl a0 1)  : Mc l G mi (Phi (g0 G) sk) PHM yX11_pagesHaveHeader cX11_pagesHaveHeader 1 (some .boolean) 0 [.ref a0] L cl ln iv rv 0 (fun v L2 cl2 ln2 iv2 rv2 => ∃ f : Int, v = some (.int (iI f)) ∧ L = L2 ∧ cl = cl2 ∧ ln = ln2 ∧ iv = iv2 ∧ rv = rv2 ∧ (f = 0 ∨ f = 1) ∧ (f = 0 ∨ 2 ≤ iv a0 12)) := by
  refine Mc.mk (by decide) (Nat.le_of_ble_eq_true rfl) ?_
  intro p e s m args below meth c A C hM
  refine hv14 (Phi.le hW hS) (show ty L cl (sk 2) 2 from ⟨(hS 2 rfl).1, by rw [(hS 2 rfl).2]; rfl⟩) (show ty L cl (sk 3) 3 from ⟨(hS 3 rfl).1, by rw [(hS 3 rfl).2]; rfl⟩) (show ty L cl (sk 4) 4 from ⟨(hS 4 rfl).1, by rw [(hS 4 rfl).2]; rfl⟩) (show ty L cl (sk 5) 5 from ⟨(hS 5 rfl).1, by rw [(hS 5 rfl).2]; rfl⟩) (show ty L cl (sk 13) 13 from ⟨(hS 13 rfl).1, by rw [(hS 13 rfl).2]; rfl⟩) (show ty L cl (sk 14) 14 from ⟨(hS 14 rfl).1, by rw [(hS 14 rfl).2]; rfl⟩) (show ty L cl (sk 15) 15 from ⟨(hS 15 rfl).1, by rw [(hS 15 rfl).2]; rfl⟩) (show ty L cl (sk 16) 16 from ⟨(hS 16 rfl).1, by rw [(hS 16 rfl).2]; rfl⟩) (show ty L cl (sk 17) 17 from ⟨(hS 17 rfl).1, by rw [(hS 17 rfl).2]; rfl⟩) (show ty L cl (sk 22) 22 from ⟨(hS 22 rfl).1, by rw [(hS 22 rfl).2]; rfl⟩) (show ty L cl (sk 23) 23 from ⟨(hS 23 rfl).1, by rw [(hS 23 rfl).2]; rfl⟩) (show XT L cl ln L cl ln from XT.refl) (show fT [] L cl iv rv iv rv from fT.refl) (fun hph tsk2 tsk3 tsk4 tsk5 tsk13 tsk14 tsk15 tsk16 tsk17 tsk22 tsk23 hX0 hF0 => ?_)
  refine c_aload_n (j := 0) (x := a0) C dX11_pagesHaveHeader_0 rfl ?_
  obtain ⟨rb1, rq1, trb1⟩ := hW.ref t_a0 3 rfl rfl rfl
  have erb1 := hW.sk trb1 (by decide) rfl
  subst erb1
  refine c_getr (k := 3) C ck_12 dX11_pagesHaveHeader_1 w2_47 (by decide) t_a0 rfl rfl (by decide) rfl rq1 ?_
  refine c_st (st2 := [.ref (sk 5)]) rfl ?_
  have ri1 : 0 ≤ iv (sk 5) 2 ∧ iv (sk 5) 2 ≤ 200 := hW.int tsk5 2
  refine c_get (k := 2) C ck_2 dX11_pagesHaveHeader_4 w1_44 (by decide) tsk5 rfl rfl (by decide) rfl ?_
  refine c_if_le (tgt := 22) C (r32_c (lo := 0) (hi := 200) ri1.1 ri1.2 (by decide) (by decide)) dX11_pagesHaveHeader_7 (by decide) (fun c1 => ?_) (fun c1 => ?_)
  · refine c_iconst C dX11_pagesHaveHeader_22 ?_
    exact c_zret C dX11_pagesHaveHeader_23 rfl (Or.inl rfl) (by decide) (rom0 hph hph (by decide)) ⟨0, rfl, rfl, rfl, rfl, rfl, rfl, (Or.inl rfl), (by omega)⟩
  · refine c_aload_n (j := 0) (x := a0) C dX11_pagesHaveHeader_10 rfl ?_
    have ri2 : 1 ≤ iv a0 12 ∧ iv a0 12 ≤ 50 := hW.int t_a0 12
    refine c_get (k := 12) C ck_12 dX11_pagesHaveHeader_11 w2_56 (by decide) t_a0 rfl rfl (by decide) rfl ?_
    refine c_iconst C dX11_pagesHaveHeader_14 ?_
    refine c_icmp_lt (tgt := 22) C (r32_c (lo := 1) (hi := 50) ri2.1 ri2.2 (by decide) (by decide)) ⟨by decide, by decide⟩ dX11_pagesHaveHeader_15 (by decide) (fun c2 => ?_) (fun c2 => ?_)
    · refine c_iconst C dX11_pagesHaveHeader_22 ?_
      exact c_zret C dX11_pagesHaveHeader_23 rfl (Or.inl rfl) (by decide) (rom0 hph hph (by decide)) ⟨0, rfl, rfl, rfl, rfl, rfl, rfl, (Or.inl rfl), (by omega)⟩
    · refine c_iconst C dX11_pagesHaveHeader_18 ?_
      refine c_goto (tgt := 23) C dX11_pagesHaveHeader_19 (by decide) ?_
      exact c_zret C dX11_pagesHaveHeader_23 rfl (Or.inr rfl) (by decide) (rom0 hph hph (by decide)) ⟨1, rfl, rfl, rfl, rfl, rfl, rfl, (Or.inr rfl), (by omega)⟩
set_option maxHeartbeats 4000000 in
set_option maxRecDepth 100000 in
theorem C_linesOfPage {l : Launch} {G : GT} {mi : Nat} {sk : Nat → Nat} {L : List Nat} {cl ln : Nat → Nat} {iv : Nat → Nat → Int} {rv : Nat → Nat → Option Nat}  {a0 : Nat} (hW : WT (g0 G) sk L cl ln iv rv) (hS : SKL sk L cl) (t_a0 : ty L cl a0 1)  : Mc l G mi (Phi (g0 G) sk) PHM yX11_linesOfPage cX11_linesOfPage 1 (some .int) 1 [.ref a0] L cl ln iv rv 0 (fun v L2 cl2 ln2 iv2 rv2 => ∃ f : Int, v = some (.int (iI f)) ∧ L = L2 ∧ cl = cl2 ∧ ln = ln2 ∧ iv = iv2 ∧ rv = rv2 ∧ (-2147483648 ≤ f ∧ f ≤ 2147483647) ∧ (1 ≤ f ∧ f ≤ 50)) := by
  refine Mc.mk (by decide) (Nat.le_of_ble_eq_true rfl) ?_
  intro p e s m args below meth c A C hM
  refine hv3 (Phi.le hW hS) (show XT L cl ln L cl ln from XT.refl) (show fT [] L cl iv rv iv rv from fT.refl) (fun hph hX0 hF0 => ?_)
  refine c_iconst C dX11_linesOfPage_0 ?_
  refine c_aload_n (j := 0) (x := a0) C dX11_linesOfPage_1 rfl ?_
  have ri1 : 1 ≤ iv a0 12 ∧ iv a0 12 ≤ 50 := hW.int t_a0 12
  refine d_callV (As := []) (rest := [.int (iI 1)]) C hM (C_hasHeader (a0 := a0) hW hS t_a0  ) dX11_linesOfPage_2 kV_X11_285 rfl t_a0 rfl rfl (by decide) ck_12 rfl (Nat.le_of_ble_eq_true rfl) ⟨(Nat.le_of_ble_eq_true rfl), (Nat.le_of_ble_eq_true rfl)⟩ hph hph (show 0 + 0 = 0 from rfl) (by decide) (fun rh1 Lh1 clh1 lnh1 ivh1 rvh1 h1 => ?_)
  obtain ⟨f1, rfl, rfl, rfl, rfl, rfl, rfl, rgf1, exf1⟩ := h1
  refine c_st (st2 := [.int (iI f1), .int (iI 1)]) rfl ?_
  have gf1 : f1 = 0 ∨ 2 ≤ iv a0 12 := exf1
  refine c_if_eq (tgt := 17) C ⟨by omega, by omega⟩ dX11_linesOfPage_5 (by decide) (fun c1 => ?_) (fun c1 => ?_)
  · clear gf1
    refine c_aload_n (j := 0) (x := a0) C dX11_linesOfPage_17 rfl ?_
    refine c_get (k := 12) C ck_12 dX11_linesOfPage_18 w2_56 (by decide) t_a0 rfl rfl (by decide) rfl ?_
    obtain ⟨mn1, hmn1, emn1⟩ := mmax_c (x := 1) (y := iv a0 12) ⟨by decide, by decide⟩ (r32_c (lo := 1) (hi := 50) ri1.1 ri1.2 (by decide) (by decide))
    refine c_mmax (w := iI mn1) C dX11_linesOfPage_21 w3_93 w2_148 w1_14 w2_149 (by decide) (rom0 hph hph (by decide)) (Nat.le_of_ble_eq_true rfl) emn1 ?_
    exact c_iret C dX11_linesOfPage_24 rfl (by decide) (rom0 hph hph (by decide)) ⟨mn1, rfl, rfl, rfl, rfl, rfl, rfl, ⟨by omega, by omega⟩, (by omega)⟩
  · replace gf1 := (gf1.resolve_left c1)
    refine c_aload_n (j := 0) (x := a0) C dX11_linesOfPage_8 rfl ?_
    refine c_get (k := 12) C ck_12 dX11_linesOfPage_9 w2_56 (by decide) t_a0 rfl rfl (by decide) rfl ?_
    refine c_iconst C dX11_linesOfPage_12 ?_
    refine c_isub C dX11_linesOfPage_13 ?_
    refine c_goto (tgt := 21) C dX11_linesOfPage_14 (by decide) ?_
    obtain ⟨mn2, hmn2, emn2⟩ := mmax_c (x := 1) (y := (iv a0 12) - 1) ⟨by decide, by decide⟩ ⟨by omega, by omega⟩
    refine c_mmax (w := iI mn2) C dX11_linesOfPage_21 w3_93 w2_148 w1_14 w2_149 (by decide) (rom0 hph hph (by decide)) (Nat.le_of_ble_eq_true rfl) emn2 ?_
    exact c_iret C dX11_linesOfPage_24 rfl (by decide) (rom0 hph hph (by decide)) ⟨mn2, rfl, rfl, rfl, rfl, rfl, rfl, ⟨by omega, by omega⟩, (by omega)⟩
set_option maxHeartbeats 4000000 in
set_option maxRecDepth 100000 in
theorem C_pages {l : Launch} {G : GT} {mi : Nat} {sk : Nat → Nat} {L : List Nat} {cl ln : Nat → Nat} {iv : Nat → Nat → Int} {rv : Nat → Nat → Option Nat}  {a0 : Nat} (hW : WT (g0 G) sk L cl ln iv rv) (hS : SKL sk L cl) (t_a0 : ty L cl a0 1)  : Mc l G mi (Phi (g0 G) sk) PHM yX11_pages cX11_pages 2 (some .int) 2 [.ref a0] L cl ln iv rv 0 (fun v L2 cl2 ln2 iv2 rv2 => ∃ f : Int, v = some (.int (iI f)) ∧ L = L2 ∧ cl = cl2 ∧ ln = ln2 ∧ iv = iv2 ∧ rv = rv2 ∧ (-2147483648 ≤ f ∧ f ≤ 2147483647) ∧ (True)) := by
  refine Mc.mk (by decide) (Nat.le_of_ble_eq_true rfl) ?_
  intro p e s m args below meth c A C hM
  refine hv3 (Phi.le hW hS) (show XT L cl ln L cl ln from XT.refl) (show fT [] L cl iv rv iv rv from fT.refl) (fun hph hX0 hF0 => ?_)
  refine c_aload_n (j := 0) (x := a0) C dX11_pages_0 rfl ?_
  refine d_callV (As := []) (rest := []) C hM (C_linesOfPage (a0 := a0) hW hS t_a0  ) dX11_pages_1 kV_X11_282 rfl t_a0 rfl rfl (by decide) ck_12 rfl (Nat.le_of_ble_eq_true rfl) ⟨(Nat.le_of_ble_eq_true rfl), (Nat.le_of_ble_eq_true rfl)⟩ hph hph (show 0 + 0 = 0 from rfl) (by decide) (fun rh1 Lh1 clh1 lnh1 ivh1 rvh1 h1 => ?_)
  obtain ⟨f1, rfl, rfl, rfl, rfl, rfl, rfl, rgf1, exf1⟩ := h1
  refine c_st (st2 := [.int (iI f1)]) rfl ?_
  have gf1 : 1 ≤ f1 ∧ f1 ≤ 50 := exf1
  refine c_istore_n (lv2 := [(1, .int (iI f1)), (0, .ref a0)]) C dX11_pages_4 (by decide) rfl ?_
  refine c_aload_n (j := 1) (x := a0) C dX11_pages_5 rfl ?_
  obtain ⟨rb1, rq1, trb1⟩ := hW.ref t_a0 9 rfl rfl rfl
  refine c_getr (k := 9) C ck_12 dX11_pages_6 w2_53 (by decide) t_a0 rfl rfl (by decide) rfl rq1 ?_
  refine c_st (st2 := [.ref rb1]) rfl ?_
  have ri1 : 0 ≤ iv rb1 1 ∧ iv rb1 1 ≤ 200 := hW.int trb1 1
  refine c_get (k := 1) C ck_8 dX11_pages_9 w2_35 (by decide) trb1 rfl rfl (by decide) rfl ?_
  refine c_iload_n (j := 0) C dX11_pages_12 rfl ?_
  refine c_iadd C dX11_pages_13 ?_
  refine c_iconst C dX11_pages_14 ?_
  refine c_isub C dX11_pages_15 ?_
  refine c_iload_n (j := 0) C dX11_pages_16 rfl ?_
  obtain ⟨dq1, hdq1⟩ : ∃ q : Int, q = (((iv rb1 1) + f1) - 1) / f1 := ⟨_, rfl⟩
  have rdq1 := ediv_r (x := ((iv rb1 1) + f1) - 1) (y := f1) (by omega) (by omega)
  rw [← hdq1] at rdq1
  refine c_idiv (w := iI dq1) C dX11_pages_17 (iI_ne0 ⟨by omega, by omega⟩) (by rw [hdq1]; exact iI_div ⟨by omega, by omega⟩ ⟨by omega, by omega⟩) ?_
  exact c_iret C dX11_pages_18 rfl (by decide) (rom0 hph hph (by decide)) ⟨dq1, rfl, rfl, rfl, rfl, rfl, rfl, ⟨by omega, by omega⟩, trivial⟩
set_option maxHeartbeats 4000000 in
set_option maxRecDepth 100000 in
theorem C_length {l : Launch} {G : GT} {mi : Nat} {sk : Nat → Nat} {L : List Nat} {cl ln : Nat → Nat} {iv : Nat → Nat → Int} {rv : Nat → Nat → Option Nat}  {a0 : Nat} {i : Int} (hW : WT (g0 G) sk L cl ln iv rv) (hS : SKL sk L cl) (t_a0 : ty L cl a0 1) (h_i : -2147483648 ≤ i ∧ i ≤ 2147483647)  : Mc l G mi (Phi (g0 G) sk) PHM yX11_length cX11_length 3 (some .int) 2 [.ref a0, .int (iI i)] L cl ln iv rv 0 (fun v L2 cl2 ln2 iv2 rv2 => ∃ f : Int, v = some (.int (iI f)) ∧ L = L2 ∧ cl = cl2 ∧ ln = ln2 ∧ rv = rv2 ∧ fT [1] L cl iv rv iv2 rv2 ∧ WT (g0 G) sk L2 cl2 ln2 iv2 rv2 ∧ (-2147483648 ≤ f ∧ f ≤ 2147483647) ∧ (True) ∧ iv2 a0 11 = iv a0 11 ∧ iv2 a0 12 = iv a0 12 ∧ iv2 a0 13 = iv a0 13 ∧ iv2 a0 14 = iv a0 14 ∧ iv2 a0 15 = iv a0 15 ∧ iv2 a0 16 = iv a0 16) := by
  refine Mc.mk (by decide) (Nat.le_of_ble_eq_true rfl) ?_
  intro p e s m args below meth c A C hM
  refine hv3 (Phi.le hW hS) (show XT L cl ln L cl ln from XT.refl) (show fT [1] L cl iv rv iv rv from fT.refl) (fun hph hX0 hF0 => ?_)
  refine c_aload_n (j := 0) (x := a0) C dX11_length_0 rfl ?_
  obtain ⟨rb1, rq1, trb1⟩ := hW.ref t_a0 9 rfl rfl rfl
  refine c_getr (k := 9) C ck_12 dX11_length_1 w2_53 (by decide) t_a0 rfl rfl (by decide) rfl rq1 ?_
  refine c_st (st2 := [.ref rb1]) rfl ?_
  refine c_iload_n (j := 1) C dX11_length_4 rfl ?_
  have ri1 : 0 ≤ iv rb1 1 ∧ iv rb1 1 ≤ 200 := hW.int trb1 1
  refine d_callV (As := [.int (iI i)]) (rest := []) C hM (C_present (a0 := rb1) (i := i) hW hS trb1 (by omega) ) dX11_length_5 kV_X11_288 rfl trb1 rfl rfl (by decide) ck_8 rfl (Nat.le_of_ble_eq_true rfl) ⟨(Nat.le_of_ble_eq_true rfl), (Nat.le_of_ble_eq_true rfl)⟩ hph hph (show 0 + 0 = 0 from rfl) (by decide) (fun rh1 Lh1 clh1 lnh1 ivh1 rvh1 h1 => ?_)
  obtain ⟨f1, rfl, rfl, rfl, rfl, rfl, rfl, rgf1, exf1⟩ := h1
  refine c_st (st2 := [(va_rf f1)]) rfl ?_
  have gf1 : f1 = none ∨ (0 ≤ i ∧ i < iv rb1 1) := exf1
  refine c_astorer_n (r := f1) (lv2 := [(2, (va_rf f1)), (0, .ref a0), (1, .int (iI i))]) C dX11_length_8 (by decide) rfl ?_
  refine c_aloadr_n (j := 0) (r := f1) C dX11_length_9 rfl ?_
  refine c_ifnonnull (r := f1) (tgt := 28) C dX11_length_10 (by decide) (fun ob1 oq1 => ?_) (fun oq1 => ?_)
  · subst oq1
    have tob1 := rgf1 ob1 rfl
    refine c_lv (lv2 := [(2, .ref ob1), (0, .ref a0), (1, .int (iI i))]) [0, 1, 2] rfl ?_
    refine c_st (st2 := []) rfl ?_
    refine c_aload_n (j := 1) (x := a0) C dX11_length_28 rfl ?_
    refine c_aload_n (j := 0) (x := ob1) C dX11_length_29 rfl ?_
    have ri2 : 0 ≤ iv ob1 1 ∧ iv ob1 1 ≤ 200 := hW.int tob1 1
    refine c_get (k := 1) C ck_3 dX11_length_30 w4_53 (by decide) tob1 rfl rfl (by decide) rfl ?_
    refine d_callV (As := [.int (iI (iv ob1 1))]) (rest := []) C hM (C_done (a0 := a0) (x := iv ob1 1) hW hS t_a0 (by omega) ) dX11_length_33 kV_X11_109 rfl t_a0 rfl rfl (by decide) ck_12 rfl (Nat.le_of_ble_eq_true rfl) ⟨(Nat.le_of_ble_eq_true rfl), (Nat.le_of_ble_eq_true rfl)⟩ hph hph (show 0 + 0 = 0 from rfl) (by decide) (fun rh2 Lh2 clh2 lnh2 ivh2 rvh2 h2 => ?_)
    obtain ⟨f2, rfl, rfl, rfl, rfl, rfl, fl2, W2, rgf2, exf2, kp11f2, kp12f2, kp13f2, kp14f2, kp15f2, kp16f2⟩ := h2
    refine hv7 (show 1 ≤ iv a0 11 ∧ iv a0 11 ≤ 100 from hW.int t_a0 11) (show 1 ≤ iv a0 12 ∧ iv a0 12 ≤ 50 from hW.int t_a0 12) (show (-2147483648) ≤ iv a0 13 ∧ iv a0 13 ≤ 2147483647 from hW.int t_a0 13) (show (-2147483648) ≤ iv a0 14 ∧ iv a0 14 ≤ 2147483647 from hW.int t_a0 14) (show (-2147483648) ≤ iv a0 15 ∧ iv a0 15 ≤ 2147483647 from hW.int t_a0 15) (show (-2147483648) ≤ iv a0 16 ∧ iv a0 16 ≤ 2147483647 from hW.int t_a0 16) (hF0.call hX0 fl2 rfl) (fun ri3 ri4 ri5 ri6 ri7 ri8 F1 => ?_)
    refine c_st (st2 := [.int (iI f2)]) rfl ?_
    refine hv13 (show ivh2 a0 11 = iv a0 11 from kp11f2) (show ivh2 a0 12 = iv a0 12 from kp12f2) (show ivh2 a0 13 = iv a0 13 from kp13f2) (show ivh2 a0 14 = iv a0 14 from kp14f2) (show ivh2 a0 15 = iv a0 15 from kp15f2) (show ivh2 a0 16 = iv a0 16 from kp16f2) (show f2 = (iv ob1 1) from exf2) (show 1 ≤ ivh2 a0 11 ∧ ivh2 a0 11 ≤ 100 from W2.int t_a0 11) (show 1 ≤ ivh2 a0 12 ∧ ivh2 a0 12 ≤ 50 from W2.int t_a0 12) (show (-2147483648) ≤ ivh2 a0 13 ∧ ivh2 a0 13 ≤ 2147483647 from W2.int t_a0 13) (show (-2147483648) ≤ ivh2 a0 14 ∧ ivh2 a0 14 ≤ 2147483647 from W2.int t_a0 14) (show (-2147483648) ≤ ivh2 a0 15 ∧ ivh2 a0 15 ≤ 2147483647 from W2.int t_a0 15) (show (-2147483648) ≤ ivh2 a0 16 ∧ ivh2 a0 16 ≤ 2147483647 from W2.int t_a0 16) (fun gk11f2 gk12f2 gk13f2 gk14f2 gk15f2 gk16f2 gf2 ri9 ri10 ri11 ri12 ri13 ri14 => ?_)
    exact c_iret C dX11_length_36 rfl (by decide) (rom0 hph hph (by decide)) ⟨f2, rfl, rfl, rfl, rfl, rfl, F1, W2, ⟨by omega, by omega⟩, trivial, (by omega), (by omega), (by omega), (by omega), (by omega), (by omega)⟩
  · subst oq1
    refine c_lv (lv2 := [(2, .null), (0, .ref a0), (1, .int (iI i))]) [0, 1, 2] rfl ?_
    refine c_st (st2 := []) rfl ?_
    refine c_aload_n (j := 1) (x := a0) C dX11_length_13 rfl ?_
    refine c_aload_n (j := 1) (x := a0) C dX11_length_14 rfl ?_
    refine c_getr (k := 9) C ck_12 dX11_length_15 w2_53 (by decide) t_a0 rfl rfl (by decide) rfl rq1 ?_
    refine c_st (st2 := [.ref rb1, .ref a0]) rfl ?_
    refine c_iload_n (j := 2) C dX11_length_18 rfl ?_
    refine d_callV (As := [.int (iI i)]) (rest := [.ref a0]) C hM (C_whyNone (a0 := rb1) (i := i) hW hS trb1 (by omega) ) dX11_length_19 kV_X11_292 rfl trb1 rfl rfl (by decide) ck_8 rfl (Nat.le_of_ble_eq_true rfl) ⟨(Nat.le_of_ble_eq_true rfl), (Nat.le_of_ble_eq_true rfl)⟩ hph hph (show 0 + 0 = 0 from rfl) (by decide) (fun rh3 Lh3 clh3 lnh3 ivh3 rvh3 h3 => ?_)
    obtain ⟨f3, rfl, rfl, rfl, rfl, rfl, rfl, rgf3, exf3⟩ := h3
    refine c_st (st2 := [.int (iI f3), .ref a0]) rfl ?_
    have gf3 : f3 = 1 ∨ f3 = 2 := exf3
    refine d_callV (As := [.int (iI f3)]) (rest := []) C hM (C_refuse (a0 := a0) (x := f3) hW hS t_a0 (by omega) ) dX11_length_22 kV_X11_102 rfl t_a0 rfl rfl (by decide) ck_12 rfl (Nat.le_of_ble_eq_true rfl) ⟨(Nat.le_of_ble_eq_true rfl), (Nat.le_of_ble_eq_true rfl)⟩ hph hph (show 0 + 0 = 0 from rfl) (by decide) (fun rh4 Lh4 clh4 lnh4 ivh4 rvh4 h4 => ?_)
    obtain ⟨f4, rfl, rfl, rfl, rfl, rfl, fl4, W4, rgf4, exf4, kp11f4, kp12f4, kp13f4, kp14f4, kp15f4, kp16f4⟩ := h4
    refine hv7 (show 1 ≤ iv a0 11 ∧ iv a0 11 ≤ 100 from hW.int t_a0 11) (show 1 ≤ iv a0 12 ∧ iv a0 12 ≤ 50 from hW.int t_a0 12) (show (-2147483648) ≤ iv a0 13 ∧ iv a0 13 ≤ 2147483647 from hW.int t_a0 13) (show (-2147483648) ≤ iv a0 14 ∧ iv a0 14 ≤ 2147483647 from hW.int t_a0 14) (show (-2147483648) ≤ iv a0 15 ∧ iv a0 15 ≤ 2147483647 from hW.int t_a0 15) (show (-2147483648) ≤ iv a0 16 ∧ iv a0 16 ≤ 2147483647 from hW.int t_a0 16) (hF0.call hX0 fl4 rfl) (fun ri15 ri16 ri17 ri18 ri19 ri20 F2 => ?_)
    refine c_st (st2 := [.int (iI f4)]) rfl ?_
    refine hv7 (show ivh4 a0 11 = iv a0 11 from kp11f4) (show ivh4 a0 12 = iv a0 12 from kp12f4) (show ivh4 a0 13 = iv a0 13 from kp13f4) (show ivh4 a0 14 = iv a0 14 from kp14f4) (show ivh4 a0 15 = iv a0 15 from kp15f4) (show ivh4 a0 16 = iv a0 16 from kp16f4) (show f4 = -1 from exf4) (fun gk11f4 gk12f4 gk13f4 gk14f4 gk15f4 gk16f4 gf4 => ?_)
    refine c_goto (tgt := 36) C dX11_length_25 (by decide) ?_
    refine hv6 (show 1 ≤ ivh4 a0 11 ∧ ivh4 a0 11 ≤ 100 from W4.int t_a0 11) (show 1 ≤ ivh4 a0 12 ∧ ivh4 a0 12 ≤ 50 from W4.int t_a0 12) (show (-2147483648) ≤ ivh4 a0 13 ∧ ivh4 a0 13 ≤ 2147483647 from W4.int t_a0 13) (show (-2147483648) ≤ ivh4 a0 14 ∧ ivh4 a0 14 ≤ 2147483647 from W4.int t_a0 14) (show (-2147483648) ≤ ivh4 a0 15 ∧ ivh4 a0 15 ≤ 2147483647 from W4.int t_a0 15) (show (-2147483648) ≤ ivh4 a0 16 ∧ ivh4 a0 16 ≤ 2147483647 from W4.int t_a0 16) (fun ri21 ri22 ri23 ri24 ri25 ri26 => ?_)
    exact c_iret C dX11_length_36 rfl (by decide) (rom0 hph hph (by decide)) ⟨f4, rfl, rfl, rfl, rfl, rfl, F2, W4, ⟨by omega, by omega⟩, trivial, (by omega), (by omega), (by omega), (by omega), (by omega), (by omega)⟩
set_option maxHeartbeats 4000000 in
set_option maxRecDepth 100000 in
theorem C_cellOfLine {l : Launch} {G : GT} {mi : Nat} {sk : Nat → Nat} {L : List Nat} {cl ln : Nat → Nat} {iv : Nat → Nat → Int} {rv : Nat → Nat → Option Nat}  {a0 : Nat} {i : Int} {j : Int} (hW : WT (g0 G) sk L cl ln iv rv) (hS : SKL sk L cl) (t_a0 : ty L cl a0 1) (h_i : -2147483648 ≤ i ∧ i ≤ 2147483647) (h_j : -2147483648 ≤ j ∧ j ≤ 2147483647)  : Mc l G mi (Phi (g0 G) sk) PHM yX11_cellOfLine cX11_cellOfLine 4 (some .int) 2 [.ref a0, .int (iI i), .int (iI j)] L cl ln iv rv 0 (fun v L2 cl2 ln2 iv2 rv2 => ∃ f : Int, v = some (.int (iI f)) ∧ L = L2 ∧ cl = cl2 ∧ ln = ln2 ∧ rv = rv2 ∧ fT [1] L cl iv rv iv2 rv2 ∧ WT (g0 G) sk L2 cl2 ln2 iv2 rv2 ∧ (-2147483648 ≤ f ∧ f ≤ 2147483647) ∧ (True) ∧ iv2 a0 11 = iv a0 11 ∧ iv2 a0 12 = iv a0 12 ∧ iv2 a0 13 = iv a0 13 ∧ iv2 a0 14 = iv a0 14 ∧ iv2 a0 15 = iv a0 15 ∧ iv2 a0 16 = iv a0 16) := by
  refine Mc.mk (by decide) (Nat.le_of_ble_eq_true rfl) ?_
  intro p e s m args below meth c A C hM
  refine hv3 (Phi.le hW hS) (show XT L cl ln L cl ln from XT.refl) (show fT [1] L cl iv rv iv rv from fT.refl) (fun hph hX0 hF0 => ?_)
  refine c_aload_n (j := 0) (x := a0) C dX11_cellOfLine_0 rfl ?_
  obtain ⟨rb1, rq1, trb1⟩ := hW.ref t_a0 9 rfl rfl rfl
  refine c_getr (k := 9) C ck_12 dX11_cellOfLine_1 w2_53 (by decide) t_a0 rfl rfl (by decide) rfl rq1 ?_
  refine c_st (st2 := [.ref rb1]) rfl ?_
  refine c_iload_n (j := 1) C dX11_cellOfLine_4 rfl ?_
  have ri1 : 0 ≤ iv rb1 1 ∧ iv rb1 1 ≤ 200 := hW.int trb1 1
  refine d_callV (As := [.int (iI i)]) (rest := []) C hM (C_present (a0 := rb1) (i := i) hW hS trb1 (by omega) ) dX11_cellOfLine_5 kV_X11_288 rfl trb1 rfl rfl (by decide) ck_8 rfl (Nat.le_of_ble_eq_true rfl) ⟨(Nat.le_of_ble_eq_true rfl), (Nat.le_of_ble_eq_true rfl)⟩ hph hph (show 0 + 0 = 0 from rfl) (by decide) (fun rh1 Lh1 clh1 lnh1 ivh1 rvh1 h1 => ?_)
  obtain ⟨f1, rfl, rfl, rfl, rfl, rfl, rfl, rgf1, exf1⟩ := h1
  refine c_st (st2 := [(va_rf f1)]) rfl ?_
  have gf1 : f1 = none ∨ (0 ≤ i ∧ i < iv rb1 1) := exf1
  refine c_astorer_n (r := f1) (lv2 := [(3, (va_rf f1)), (0, .ref a0), (1, .int (iI i)), (2, .int (iI j))]) C dX11_cellOfLine_8 (by decide) rfl ?_
  refine c_aloadr_n (j := 0) (r := f1) C dX11_cellOfLine_9 rfl ?_
  refine c_ifnonnull (r := f1) (tgt := 26) C dX11_cellOfLine_10 (by decide) (fun ob1 oq1 => ?_) (fun oq1 => ?_)
  · subst oq1
    have tob1 := rgf1 ob1 rfl
    refine c_lv (lv2 := [(3, .ref ob1), (0, .ref a0), (1, .int (iI i)), (2, .int (iI j))]) [0, 1, 2, 3] rfl ?_
    refine c_st (st2 := []) rfl ?_
    refine c_iload_n (j := 3) C dX11_cellOfLine_26 rfl ?_
    refine c_if_lt (tgt := 38) C ⟨by omega, by omega⟩ dX11_cellOfLine_27 (by decide) (fun c1 => ?_) (fun c1 => ?_)
    · refine c_aload_n (j := 1) (x := a0) C dX11_cellOfLine_38 rfl ?_
      refine c_iconst C dX11_cellOfLine_39 ?_
      refine d_callV (As := [.int (iI 2)]) (rest := []) C hM (C_refuse (a0 := a0) (x := 2) hW hS t_a0 ⟨by decide, by decide⟩ ) dX11_cellOfLine_40 kV_X11_102 rfl t_a0 rfl rfl (by decide) ck_12 rfl (Nat.le_of_ble_eq_true rfl) ⟨(Nat.le_of_ble_eq_true rfl), (Nat.le_of_ble_eq_true rfl)⟩ hph hph (show 0 + 0 = 0 from rfl) (by decide) (fun rh2 Lh2 clh2 lnh2 ivh2 rvh2 h2 => ?_)
      obtain ⟨f2, rfl, rfl, rfl, rfl, rfl, fl2, W2, rgf2, exf2, kp11f2, kp12f2, kp13f2, kp14f2, kp15f2, kp16f2⟩ := h2
      refine hv7 (show 1 ≤ iv a0 11 ∧ iv a0 11 ≤ 100 from hW.int t_a0 11) (show 1 ≤ iv a0 12 ∧ iv a0 12 ≤ 50 from hW.int t_a0 12) (show (-2147483648) ≤ iv a0 13 ∧ iv a0 13 ≤ 2147483647 from hW.int t_a0 13) (show (-2147483648) ≤ iv a0 14 ∧ iv a0 14 ≤ 2147483647 from hW.int t_a0 14) (show (-2147483648) ≤ iv a0 15 ∧ iv a0 15 ≤ 2147483647 from hW.int t_a0 15) (show (-2147483648) ≤ iv a0 16 ∧ iv a0 16 ≤ 2147483647 from hW.int t_a0 16) (hF0.call hX0 fl2 rfl) (fun ri2 ri3 ri4 ri5 ri6 ri7 F1 => ?_)
      refine c_st (st2 := [.int (iI f2)]) rfl ?_
      refine hv7 (show ivh2 a0 11 = iv a0 11 from kp11f2) (show ivh2 a0 12 = iv a0 12 from kp12f2) (show ivh2 a0 13 = iv a0 13 from kp13f2) (show ivh2 a0 14 = iv a0 14 from kp14f2) (show ivh2 a0 15 = iv a0 15 from kp15f2) (show ivh2 a0 16 = iv a0 16 from kp16f2) (show f2 = -1 from exf2) (fun gk11f2 gk12f2 gk13f2 gk14f2 gk15f2 gk16f2 gf2 => ?_)
      refine c_goto (tgt := 56) C dX11_cellOfLine_43 (by decide) ?_
      refine hv6 (show 1 ≤ ivh2 a0 11 ∧ ivh2 a0 11 ≤ 100 from W2.int t_a0 11) (show 1 ≤ ivh2 a0 12 ∧ ivh2 a0 12 ≤ 50 from W2.int t_a0 12) (show (-2147483648) ≤ ivh2 a0 13 ∧ ivh2 a0 13 ≤ 2147483647 from W2.int t_a0 13) (show (-2147483648) ≤ ivh2 a0 14 ∧ ivh2 a0 14 ≤ 2147483647 from W2.int t_a0 14) (show (-2147483648) ≤ ivh2 a0 15 ∧ ivh2 a0 15 ≤ 2147483647 from W2.int t_a0 15) (show (-2147483648) ≤ ivh2 a0 16 ∧ ivh2 a0 16 ≤ 2147483647 from W2.int t_a0 16) (fun ri8 ri9 ri10 ri11 ri12 ri13 => ?_)
      exact c_iret C dX11_cellOfLine_56 rfl (by decide) (rom0 hph hph (by decide)) ⟨f2, rfl, rfl, rfl, rfl, rfl, F1, W2, ⟨by omega, by omega⟩, trivial, (by omega), (by omega), (by omega), (by omega), (by omega), (by omega)⟩
    · refine c_iload_n (j := 3) C dX11_cellOfLine_30 rfl ?_
      refine c_aload_n (j := 0) (x := ob1) C dX11_cellOfLine_31 rfl ?_
      have ri14 : 0 ≤ iv ob1 1 ∧ iv ob1 1 ≤ 200 := hW.int tob1 1
      refine c_get (k := 1) C ck_3 dX11_cellOfLine_32 w4_53 (by decide) tob1 rfl rfl (by decide) rfl ?_
      refine c_icmp_lt (tgt := 46) C ⟨by omega, by omega⟩ (r32_c (lo := 0) (hi := 200) ri14.1 ri14.2 (by decide) (by decide)) dX11_cellOfLine_35 (by decide) (fun c2 => ?_) (fun c2 => ?_)
      · refine c_aload_n (j := 1) (x := a0) C dX11_cellOfLine_46 rfl ?_
        refine c_aload_n (j := 0) (x := ob1) C dX11_cellOfLine_47 rfl ?_
        obtain ⟨rb2, rq2, trb2⟩ := hW.ref tob1 0 rfl rfl rfl
        have lnrb2 : 200 ≤ ln rb2 ∧ ln rb2 ≤ 200 := hW.len trb2 rfl
        refine c_getr (k := 0) C ck_3 dX11_cellOfLine_48 w4_48 (by decide) tob1 rfl rfl (by decide) rfl rq2 ?_
        refine c_st (st2 := [.ref rb2, .ref a0]) rfl ?_
        refine c_iload_n (j := 3) C dX11_cellOfLine_51 rfl ?_
        have ll1 : 200 ≤ ln rb2 ∧ ln rb2 ≤ 200 := hW.len trb2 rfl
        refine c_iald C dX11_cellOfLine_52 trb2 rfl (by omega) (by omega) (by omega) ?_
        have ri15 : (-2147483648) ≤ iv rb2 j.toNat ∧ iv rb2 j.toNat ≤ 2147483647 := hW.int trb2 j.toNat
        refine d_callV (As := [.int (iI (iv rb2 j.toNat))]) (rest := []) C hM (C_done (a0 := a0) (x := iv rb2 j.toNat) hW hS t_a0 (by omega) ) dX11_cellOfLine_53 kV_X11_109 rfl t_a0 rfl rfl (by decide) ck_12 rfl (Nat.le_of_ble_eq_true rfl) ⟨(Nat.le_of_ble_eq_true rfl), (Nat.le_of_ble_eq_true rfl)⟩ hph hph (show 0 + 0 = 0 from rfl) (by decide) (fun rh3 Lh3 clh3 lnh3 ivh3 rvh3 h3 => ?_)
        obtain ⟨f3, rfl, rfl, rfl, rfl, rfl, fl3, W3, rgf3, exf3, kp11f3, kp12f3, kp13f3, kp14f3, kp15f3, kp16f3⟩ := h3
        refine hv7 (show 1 ≤ iv a0 11 ∧ iv a0 11 ≤ 100 from hW.int t_a0 11) (show 1 ≤ iv a0 12 ∧ iv a0 12 ≤ 50 from hW.int t_a0 12) (show (-2147483648) ≤ iv a0 13 ∧ iv a0 13 ≤ 2147483647 from hW.int t_a0 13) (show (-2147483648) ≤ iv a0 14 ∧ iv a0 14 ≤ 2147483647 from hW.int t_a0 14) (show (-2147483648) ≤ iv a0 15 ∧ iv a0 15 ≤ 2147483647 from hW.int t_a0 15) (show (-2147483648) ≤ iv a0 16 ∧ iv a0 16 ≤ 2147483647 from hW.int t_a0 16) (hF0.call hX0 fl3 rfl) (fun ri16 ri17 ri18 ri19 ri20 ri21 F2 => ?_)
        refine c_st (st2 := [.int (iI f3)]) rfl ?_
        refine hv13 (show ivh3 a0 11 = iv a0 11 from kp11f3) (show ivh3 a0 12 = iv a0 12 from kp12f3) (show ivh3 a0 13 = iv a0 13 from kp13f3) (show ivh3 a0 14 = iv a0 14 from kp14f3) (show ivh3 a0 15 = iv a0 15 from kp15f3) (show ivh3 a0 16 = iv a0 16 from kp16f3) (show f3 = (iv rb2 j.toNat) from exf3) (show 1 ≤ ivh3 a0 11 ∧ ivh3 a0 11 ≤ 100 from W3.int t_a0 11) (show 1 ≤ ivh3 a0 12 ∧ ivh3 a0 12 ≤ 50 from W3.int t_a0 12) (show (-2147483648) ≤ ivh3 a0 13 ∧ ivh3 a0 13 ≤ 2147483647 from W3.int t_a0 13) (show (-2147483648) ≤ ivh3 a0 14 ∧ ivh3 a0 14 ≤ 2147483647 from W3.int t_a0 14) (show (-2147483648) ≤ ivh3 a0 15 ∧ ivh3 a0 15 ≤ 2147483647 from W3.int t_a0 15) (show (-2147483648) ≤ ivh3 a0 16 ∧ ivh3 a0 16 ≤ 2147483647 from W3.int t_a0 16) (fun gk11f3 gk12f3 gk13f3 gk14f3 gk15f3 gk16f3 gf3 ri22 ri23 ri24 ri25 ri26 ri27 => ?_)
        exact c_iret C dX11_cellOfLine_56 rfl (by decide) (rom0 hph hph (by decide)) ⟨f3, rfl, rfl, rfl, rfl, rfl, F2, W3, ⟨by omega, by omega⟩, trivial, (by omega), (by omega), (by omega), (by omega), (by omega), (by omega)⟩
      · refine c_aload_n (j := 1) (x := a0) C dX11_cellOfLine_38 rfl ?_
        refine c_iconst C dX11_cellOfLine_39 ?_
        refine d_callV (As := [.int (iI 2)]) (rest := []) C hM (C_refuse (a0 := a0) (x := 2) hW hS t_a0 ⟨by decide, by decide⟩ ) dX11_cellOfLine_40 kV_X11_102 rfl t_a0 rfl rfl (by decide) ck_12 rfl (Nat.le_of_ble_eq_true rfl) ⟨(Nat.le_of_ble_eq_true rfl), (Nat.le_of_ble_eq_true rfl)⟩ hph hph (show 0 + 0 = 0 from rfl) (by decide) (fun rh4 Lh4 clh4 lnh4 ivh4 rvh4 h4 => ?_)
        obtain ⟨f4, rfl, rfl, rfl, rfl, rfl, fl4, W4, rgf4, exf4, kp11f4, kp12f4, kp13f4, kp14f4, kp15f4, kp16f4⟩ := h4
        refine hv7 (show 1 ≤ iv a0 11 ∧ iv a0 11 ≤ 100 from hW.int t_a0 11) (show 1 ≤ iv a0 12 ∧ iv a0 12 ≤ 50 from hW.int t_a0 12) (show (-2147483648) ≤ iv a0 13 ∧ iv a0 13 ≤ 2147483647 from hW.int t_a0 13) (show (-2147483648) ≤ iv a0 14 ∧ iv a0 14 ≤ 2147483647 from hW.int t_a0 14) (show (-2147483648) ≤ iv a0 15 ∧ iv a0 15 ≤ 2147483647 from hW.int t_a0 15) (show (-2147483648) ≤ iv a0 16 ∧ iv a0 16 ≤ 2147483647 from hW.int t_a0 16) (hF0.call hX0 fl4 rfl) (fun ri28 ri29 ri30 ri31 ri32 ri33 F3 => ?_)
        refine c_st (st2 := [.int (iI f4)]) rfl ?_
        refine hv7 (show ivh4 a0 11 = iv a0 11 from kp11f4) (show ivh4 a0 12 = iv a0 12 from kp12f4) (show ivh4 a0 13 = iv a0 13 from kp13f4) (show ivh4 a0 14 = iv a0 14 from kp14f4) (show ivh4 a0 15 = iv a0 15 from kp15f4) (show ivh4 a0 16 = iv a0 16 from kp16f4) (show f4 = -1 from exf4) (fun gk11f4 gk12f4 gk13f4 gk14f4 gk15f4 gk16f4 gf4 => ?_)
        refine c_goto (tgt := 56) C dX11_cellOfLine_43 (by decide) ?_
        refine hv6 (show 1 ≤ ivh4 a0 11 ∧ ivh4 a0 11 ≤ 100 from W4.int t_a0 11) (show 1 ≤ ivh4 a0 12 ∧ ivh4 a0 12 ≤ 50 from W4.int t_a0 12) (show (-2147483648) ≤ ivh4 a0 13 ∧ ivh4 a0 13 ≤ 2147483647 from W4.int t_a0 13) (show (-2147483648) ≤ ivh4 a0 14 ∧ ivh4 a0 14 ≤ 2147483647 from W4.int t_a0 14) (show (-2147483648) ≤ ivh4 a0 15 ∧ ivh4 a0 15 ≤ 2147483647 from W4.int t_a0 15) (show (-2147483648) ≤ ivh4 a0 16 ∧ ivh4 a0 16 ≤ 2147483647 from W4.int t_a0 16) (fun ri34 ri35 ri36 ri37 ri38 ri39 => ?_)
        exact c_iret C dX11_cellOfLine_56 rfl (by decide) (rom0 hph hph (by decide)) ⟨f4, rfl, rfl, rfl, rfl, rfl, F3, W4, ⟨by omega, by omega⟩, trivial, (by omega), (by omega), (by omega), (by omega), (by omega), (by omega)⟩
  · subst oq1
    refine c_lv (lv2 := [(3, .null), (0, .ref a0), (1, .int (iI i)), (2, .int (iI j))]) [0, 1, 2, 3] rfl ?_
    refine c_st (st2 := []) rfl ?_
    refine c_aload_n (j := 1) (x := a0) C dX11_cellOfLine_13 rfl ?_
    refine c_aload_n (j := 1) (x := a0) C dX11_cellOfLine_14 rfl ?_
    refine c_getr (k := 9) C ck_12 dX11_cellOfLine_15 w2_53 (by decide) t_a0 rfl rfl (by decide) rfl rq1 ?_
    refine c_st (st2 := [.ref rb1, .ref a0]) rfl ?_
    refine c_iload_n (j := 2) C dX11_cellOfLine_18 rfl ?_
    refine d_callV (As := [.int (iI i)]) (rest := [.ref a0]) C hM (C_whyNone (a0 := rb1) (i := i) hW hS trb1 (by omega) ) dX11_cellOfLine_19 kV_X11_292 rfl trb1 rfl rfl (by decide) ck_8 rfl (Nat.le_of_ble_eq_true rfl) ⟨(Nat.le_of_ble_eq_true rfl), (Nat.le_of_ble_eq_true rfl)⟩ hph hph (show 0 + 0 = 0 from rfl) (by decide) (fun rh5 Lh5 clh5 lnh5 ivh5 rvh5 h5 => ?_)
    obtain ⟨f5, rfl, rfl, rfl, rfl, rfl, rfl, rgf5, exf5⟩ := h5
    refine c_st (st2 := [.int (iI f5), .ref a0]) rfl ?_
    have gf5 : f5 = 1 ∨ f5 = 2 := exf5
    refine d_callV (As := [.int (iI f5)]) (rest := []) C hM (C_refuse (a0 := a0) (x := f5) hW hS t_a0 (by omega) ) dX11_cellOfLine_22 kV_X11_102 rfl t_a0 rfl rfl (by decide) ck_12 rfl (Nat.le_of_ble_eq_true rfl) ⟨(Nat.le_of_ble_eq_true rfl), (Nat.le_of_ble_eq_true rfl)⟩ hph hph (show 0 + 0 = 0 from rfl) (by decide) (fun rh6 Lh6 clh6 lnh6 ivh6 rvh6 h6 => ?_)
    obtain ⟨f6, rfl, rfl, rfl, rfl, rfl, fl6, W6, rgf6, exf6, kp11f6, kp12f6, kp13f6, kp14f6, kp15f6, kp16f6⟩ := h6
    refine hv7 (show 1 ≤ iv a0 11 ∧ iv a0 11 ≤ 100 from hW.int t_a0 11) (show 1 ≤ iv a0 12 ∧ iv a0 12 ≤ 50 from hW.int t_a0 12) (show (-2147483648) ≤ iv a0 13 ∧ iv a0 13 ≤ 2147483647 from hW.int t_a0 13) (show (-2147483648) ≤ iv a0 14 ∧ iv a0 14 ≤ 2147483647 from hW.int t_a0 14) (show (-2147483648) ≤ iv a0 15 ∧ iv a0 15 ≤ 2147483647 from hW.int t_a0 15) (show (-2147483648) ≤ iv a0 16 ∧ iv a0 16 ≤ 2147483647 from hW.int t_a0 16) (hF0.call hX0 fl6 rfl) (fun ri40 ri41 ri42 ri43 ri44 ri45 F4 => ?_)
    refine c_st (st2 := [.int (iI f6)]) rfl ?_
    refine hv13 (show ivh6 a0 11 = iv a0 11 from kp11f6) (show ivh6 a0 12 = iv a0 12 from kp12f6) (show ivh6 a0 13 = iv a0 13 from kp13f6) (show ivh6 a0 14 = iv a0 14 from kp14f6) (show ivh6 a0 15 = iv a0 15 from kp15f6) (show ivh6 a0 16 = iv a0 16 from kp16f6) (show f6 = -1 from exf6) (show 1 ≤ ivh6 a0 11 ∧ ivh6 a0 11 ≤ 100 from W6.int t_a0 11) (show 1 ≤ ivh6 a0 12 ∧ ivh6 a0 12 ≤ 50 from W6.int t_a0 12) (show (-2147483648) ≤ ivh6 a0 13 ∧ ivh6 a0 13 ≤ 2147483647 from W6.int t_a0 13) (show (-2147483648) ≤ ivh6 a0 14 ∧ ivh6 a0 14 ≤ 2147483647 from W6.int t_a0 14) (show (-2147483648) ≤ ivh6 a0 15 ∧ ivh6 a0 15 ≤ 2147483647 from W6.int t_a0 15) (show (-2147483648) ≤ ivh6 a0 16 ∧ ivh6 a0 16 ≤ 2147483647 from W6.int t_a0 16) (fun gk11f6 gk12f6 gk13f6 gk14f6 gk15f6 gk16f6 gf6 ri46 ri47 ri48 ri49 ri50 ri51 => ?_)
    exact c_iret C dX11_cellOfLine_25 rfl (by decide) (rom0 hph hph (by decide)) ⟨f6, rfl, rfl, rfl, rfl, rfl, F4, W6, ⟨by omega, by omega⟩, trivial, (by omega), (by omega), (by omega), (by omega), (by omega), (by omega)⟩
set_option maxHeartbeats 4000000 in
set_option maxRecDepth 100000 in
theorem C_cell {l : Launch} {G : GT} {mi : Nat} {sk : Nat → Nat} {L : List Nat} {cl ln : Nat → Nat} {iv : Nat → Nat → Int} {rv : Nat → Nat → Option Nat}  {a0 : Nat} {i : Int} {j : Int} (hW : WT (g0 G) sk L cl ln iv rv) (hS : SKL sk L cl) (t_a0 : ty L cl a0 1) (h_i : -2147483648 ≤ i ∧ i ≤ 2147483647) (h_j : -2147483648 ≤ j ∧ j ≤ 2147483647)  : Mc l G mi (Phi (g0 G) sk) PHM yX11_cell cX11_cell 3 (some .int) 3 [.ref a0, .int (iI i), .int (iI j)] L cl ln iv rv 0 (fun v L2 cl2 ln2 iv2 rv2 => ∃ f : Int, v = some (.int (iI f)) ∧ L = L2 ∧ cl = cl2 ∧ ln = ln2 ∧ rv = rv2 ∧ fT [1] L cl iv rv iv2 rv2 ∧ WT (g0 G) sk L2 cl2 ln2 iv2 rv2 ∧ (-2147483648 ≤ f ∧ f ≤ 2147483647) ∧ (True) ∧ iv2 a0 11 = iv a0 11 ∧ iv2 a0 12 = iv a0 12 ∧ iv2 a0 13 = iv a0 13 ∧ iv2 a0 14 = iv a0 14 ∧ iv2 a0 15 = iv a0 15 ∧ iv2 a0 16 = iv a0 16) := by
  refine Mc.mk (by decide) (Nat.le_of_ble_eq_true rfl) ?_
  intro p e s m args below meth c A C hM
  refine hv3 (Phi.le hW hS) (show XT L cl ln L cl ln from XT.refl) (show fT [1] L cl iv rv iv rv from fT.refl) (fun hph hX0 hF0 => ?_)
  refine c_aload_n (j := 0) (x := a0) C dX11_cell_0 rfl ?_
  refine c_iload_n (j := 1) C dX11_cell_1 rfl ?_
  refine c_iload_n (j := 2) C dX11_cell_2 rfl ?_
  refine d_callV (As := [.int (iI i), .int (iI j)]) (rest := []) C hM (C_cellOfLine (a0 := a0) (i := i) (j := j) hW hS t_a0 (by omega) (by omega) ) dX11_cell_3 kV_X11_298 rfl t_a0 rfl rfl (by decide) ck_12 rfl (Nat.le_of_ble_eq_true rfl) ⟨(Nat.le_of_ble_eq_true rfl), (Nat.le_of_ble_eq_true rfl)⟩ hph hph (show 0 + 0 = 0 from rfl) (by decide) (fun rh1 Lh1 clh1 lnh1 ivh1 rvh1 h1 => ?_)
  obtain ⟨f1, rfl, rfl, rfl, rfl, rfl, fl1, W1, rgf1, exf1, kp11f1, kp12f1, kp13f1, kp14f1, kp15f1, kp16f1⟩ := h1
  refine hv7 (show 1 ≤ iv a0 11 ∧ iv a0 11 ≤ 100 from hW.int t_a0 11) (show 1 ≤ iv a0 12 ∧ iv a0 12 ≤ 50 from hW.int t_a0 12) (show (-2147483648) ≤ iv a0 13 ∧ iv a0 13 ≤ 2147483647 from hW.int t_a0 13) (show (-2147483648) ≤ iv a0 14 ∧ iv a0 14 ≤ 2147483647 from hW.int t_a0 14) (show (-2147483648) ≤ iv a0 15 ∧ iv a0 15 ≤ 2147483647 from hW.int t_a0 15) (show (-2147483648) ≤ iv a0 16 ∧ iv a0 16 ≤ 2147483647 from hW.int t_a0 16) (hF0.call hX0 fl1 rfl) (fun ri1 ri2 ri3 ri4 ri5 ri6 F1 => ?_)
  refine c_st (st2 := [.int (iI f1)]) rfl ?_
  refine hv12 (show ivh1 a0 11 = iv a0 11 from kp11f1) (show ivh1 a0 12 = iv a0 12 from kp12f1) (show ivh1 a0 13 = iv a0 13 from kp13f1) (show ivh1 a0 14 = iv a0 14 from kp14f1) (show ivh1 a0 15 = iv a0 15 from kp15f1) (show ivh1 a0 16 = iv a0 16 from kp16f1) (show 1 ≤ ivh1 a0 11 ∧ ivh1 a0 11 ≤ 100 from W1.int t_a0 11) (show 1 ≤ ivh1 a0 12 ∧ ivh1 a0 12 ≤ 50 from W1.int t_a0 12) (show (-2147483648) ≤ ivh1 a0 13 ∧ ivh1 a0 13 ≤ 2147483647 from W1.int t_a0 13) (show (-2147483648) ≤ ivh1 a0 14 ∧ ivh1 a0 14 ≤ 2147483647 from W1.int t_a0 14) (show (-2147483648) ≤ ivh1 a0 15 ∧ ivh1 a0 15 ≤ 2147483647 from W1.int t_a0 15) (show (-2147483648) ≤ ivh1 a0 16 ∧ ivh1 a0 16 ≤ 2147483647 from W1.int t_a0 16) (fun gk11f1 gk12f1 gk13f1 gk14f1 gk15f1 gk16f1 ri7 ri8 ri9 ri10 ri11 ri12 => ?_)
  exact c_iret C dX11_cell_6 rfl (by decide) (rom0 hph hph (by decide)) ⟨f1, rfl, rfl, rfl, rfl, rfl, F1, W1, ⟨by omega, by omega⟩, trivial, (by omega), (by omega), (by omega), (by omega), (by omega), (by omega)⟩
set_option maxHeartbeats 4000000 in
set_option maxRecDepth 100000 in
theorem C_page {l : Launch} {G : GT} {mi : Nat} {sk : Nat → Nat} {L : List Nat} {cl ln : Nat → Nat} {iv : Nat → Nat → Int} {rv : Nat → Nat → Option Nat}  {a0 : Nat} {i : Int} {j : Int} {k : Int} (hW : WT (g0 G) sk L cl ln iv rv) (hS : SKL sk L cl) (t_a0 : ty L cl a0 1) (h_i : -2147483648 ≤ i ∧ i ≤ 2147483647) (h_j : -2147483648 ≤ j ∧ j ≤ 2147483647) (h_k : -2147483648 ≤ k ∧ k ≤ 2147483647)  : Mc l G mi (Phi (g0 G) sk) PHM yX11_page cX11_page 5 (some .int) 3 [.ref a0, .int (iI i), .int (iI j), .int (iI k)] L cl ln iv rv 0 (fun v L2 cl2 ln2 iv2 rv2 => ∃ f : Int, v = some (.int (iI f)) ∧ L = L2 ∧ cl = cl2 ∧ ln = ln2 ∧ rv = rv2 ∧ fT [1] L cl iv rv iv2 rv2 ∧ WT (g0 G) sk L2 cl2 ln2 iv2 rv2 ∧ (-2147483648 ≤ f ∧ f ≤ 2147483647) ∧ (True) ∧ iv2 a0 11 = iv a0 11 ∧ iv2 a0 12 = iv a0 12 ∧ iv2 a0 13 = iv a0 13 ∧ iv2 a0 14 = iv a0 14 ∧ iv2 a0 15 = iv a0 15 ∧ iv2 a0 16 = iv a0 16) := by
  refine Mc.mk (by decide) (Nat.le_of_ble_eq_true rfl) ?_
  intro p e s m args below meth c A C hM
  refine hv14 (Phi.le hW hS) (show ty L cl (sk 2) 2 from ⟨(hS 2 rfl).1, by rw [(hS 2 rfl).2]; rfl⟩) (show ty L cl (sk 3) 3 from ⟨(hS 3 rfl).1, by rw [(hS 3 rfl).2]; rfl⟩) (show ty L cl (sk 4) 4 from ⟨(hS 4 rfl).1, by rw [(hS 4 rfl).2]; rfl⟩) (show ty L cl (sk 5) 5 from ⟨(hS 5 rfl).1, by rw [(hS 5 rfl).2]; rfl⟩) (show ty L cl (sk 13) 13 from ⟨(hS 13 rfl).1, by rw [(hS 13 rfl).2]; rfl⟩) (show ty L cl (sk 14) 14 from ⟨(hS 14 rfl).1, by rw [(hS 14 rfl).2]; rfl⟩) (show ty L cl (sk 15) 15 from ⟨(hS 15 rfl).1, by rw [(hS 15 rfl).2]; rfl⟩) (show ty L cl (sk 16) 16 from ⟨(hS 16 rfl).1, by rw [(hS 16 rfl).2]; rfl⟩) (show ty L cl (sk 17) 17 from ⟨(hS 17 rfl).1, by rw [(hS 17 rfl).2]; rfl⟩) (show ty L cl (sk 22) 22 from ⟨(hS 22 rfl).1, by rw [(hS 22 rfl).2]; rfl⟩) (show ty L cl (sk 23) 23 from ⟨(hS 23 rfl).1, by rw [(hS 23 rfl).2]; rfl⟩) (show XT L cl ln L cl ln from XT.refl) (show fT [1] L cl iv rv iv rv from fT.refl) (fun hph tsk2 tsk3 tsk4 tsk5 tsk13 tsk14 tsk15 tsk16 tsk17 tsk22 tsk23 hX0 hF0 => ?_)
  refine c_iload_n (j := 1) C dX11_page_0 rfl ?_
  refine c_if_lt (tgt := 24) C ⟨by omega, by omega⟩ dX11_page_1 (by decide) (fun c1 => ?_) (fun c1 => ?_)
  · refine c_aload_n (j := 0) (x := a0) C dX11_page_24 rfl ?_
    refine c_iconst C dX11_page_25 ?_
    refine d_callV (As := [.int (iI 2)]) (rest := []) C hM (C_refuse (a0 := a0) (x := 2) hW hS t_a0 ⟨by decide, by decide⟩ ) dX11_page_26 kV_X11_102 rfl t_a0 rfl rfl (by decide) ck_12 rfl (Nat.le_of_ble_eq_true rfl) ⟨(Nat.le_of_ble_eq_true rfl), (Nat.le_of_ble_eq_true rfl)⟩ hph hph (show 0 + 0 = 0 from rfl) (by decide) (fun rh1 Lh1 clh1 lnh1 ivh1 rvh1 h1 => ?_)
    obtain ⟨f1, rfl, rfl, rfl, rfl, rfl, fl1, W1, rgf1, exf1, kp11f1, kp12f1, kp13f1, kp14f1, kp15f1, kp16f1⟩ := h1
    refine hv7 (show 1 ≤ iv a0 11 ∧ iv a0 11 ≤ 100 from hW.int t_a0 11) (show 1 ≤ iv a0 12 ∧ iv a0 12 ≤ 50 from hW.int t_a0 12) (show (-2147483648) ≤ iv a0 13 ∧ iv a0 13 ≤ 2147483647 from hW.int t_a0 13) (show (-2147483648) ≤ iv a0 14 ∧ iv a0 14 ≤ 2147483647 from hW.int t_a0 14) (show (-2147483648) ≤ iv a0 15 ∧ iv a0 15 ≤ 2147483647 from hW.int t_a0 15) (show (-2147483648) ≤ iv a0 16 ∧ iv a0 16 ≤ 2147483647 from hW.int t_a0 16) (hF0.call hX0 fl1 rfl) (fun ri1 ri2 ri3 ri4 ri5 ri6 F1 => ?_)
    refine c_st (st2 := [.int (iI f1)]) rfl ?_
    refine hv13 (show ivh1 a0 11 = iv a0 11 from kp11f1) (show ivh1 a0 12 = iv a0 12 from kp12f1) (show ivh1 a0 13 = iv a0 13 from kp13f1) (show ivh1 a0 14 = iv a0 14 from kp14f1) (show ivh1 a0 15 = iv a0 15 from kp15f1) (show ivh1 a0 16 = iv a0 16 from kp16f1) (show f1 = -1 from exf1) (show 1 ≤ ivh1 a0 11 ∧ ivh1 a0 11 ≤ 100 from W1.int t_a0 11) (show 1 ≤ ivh1 a0 12 ∧ ivh1 a0 12 ≤ 50 from W1.int t_a0 12) (show (-2147483648) ≤ ivh1 a0 13 ∧ ivh1 a0 13 ≤ 2147483647 from W1.int t_a0 13) (show (-2147483648) ≤ ivh1 a0 14 ∧ ivh1 a0 14 ≤ 2147483647 from W1.int t_a0 14) (show (-2147483648) ≤ ivh1 a0 15 ∧ ivh1 a0 15 ≤ 2147483647 from W1.int t_a0 15) (show (-2147483648) ≤ ivh1 a0 16 ∧ ivh1 a0 16 ≤ 2147483647 from W1.int t_a0 16) (fun gk11f1 gk12f1 gk13f1 gk14f1 gk15f1 gk16f1 gf1 ri7 ri8 ri9 ri10 ri11 ri12 => ?_)
    exact c_iret C dX11_page_29 rfl (by decide) (rom0 hph hph (by decide)) ⟨f1, rfl, rfl, rfl, rfl, rfl, F1, W1, ⟨by omega, by omega⟩, trivial, (by omega), (by omega), (by omega), (by omega), (by omega), (by omega)⟩
  · refine c_iload_n (j := 1) C dX11_page_4 rfl ?_
    refine c_aload_n (j := 0) (x := a0) C dX11_page_5 rfl ?_
    refine d_callV (As := []) (rest := [.int (iI i)]) C hM (C_pages (a0 := a0) hW hS t_a0  ) dX11_page_6 kV_X11_302 rfl t_a0 rfl rfl (by decide) ck_12 rfl (Nat.le_of_ble_eq_true rfl) ⟨(Nat.le_of_ble_eq_true rfl), (Nat.le_of_ble_eq_true rfl)⟩ hph hph (show 0 + 0 = 0 from rfl) (by decide) (fun rh2 Lh2 clh2 lnh2 ivh2 rvh2 h2 => ?_)
    obtain ⟨f2, rfl, rfl, rfl, rfl, rfl, rfl, rgf2, exf2⟩ := h2
    refine c_st (st2 := [.int (iI f2), .int (iI i)]) rfl ?_
    refine c_icmp_ge (tgt := 24) C ⟨by omega, by omega⟩ ⟨by omega, by omega⟩ dX11_page_9 (by decide) (fun c2 => ?_) (fun c2 => ?_)
    · refine c_aload_n (j := 0) (x := a0) C dX11_page_24 rfl ?_
      refine c_iconst C dX11_page_25 ?_
      refine d_callV (As := [.int (iI 2)]) (rest := []) C hM (C_refuse (a0 := a0) (x := 2) hW hS t_a0 ⟨by decide, by decide⟩ ) dX11_page_26 kV_X11_102 rfl t_a0 rfl rfl (by decide) ck_12 rfl (Nat.le_of_ble_eq_true rfl) ⟨(Nat.le_of_ble_eq_true rfl), (Nat.le_of_ble_eq_true rfl)⟩ hph hph (show 0 + 0 = 0 from rfl) (by decide) (fun rh3 Lh3 clh3 lnh3 ivh3 rvh3 h3 => ?_)
      obtain ⟨f3, rfl, rfl, rfl, rfl, rfl, fl3, W3, rgf3, exf3, kp11f3, kp12f3, kp13f3, kp14f3, kp15f3, kp16f3⟩ := h3
      refine hv7 (show 1 ≤ iv a0 11 ∧ iv a0 11 ≤ 100 from hW.int t_a0 11) (show 1 ≤ iv a0 12 ∧ iv a0 12 ≤ 50 from hW.int t_a0 12) (show (-2147483648) ≤ iv a0 13 ∧ iv a0 13 ≤ 2147483647 from hW.int t_a0 13) (show (-2147483648) ≤ iv a0 14 ∧ iv a0 14 ≤ 2147483647 from hW.int t_a0 14) (show (-2147483648) ≤ iv a0 15 ∧ iv a0 15 ≤ 2147483647 from hW.int t_a0 15) (show (-2147483648) ≤ iv a0 16 ∧ iv a0 16 ≤ 2147483647 from hW.int t_a0 16) (hF0.call hX0 fl3 rfl) (fun ri13 ri14 ri15 ri16 ri17 ri18 F2 => ?_)
      refine c_st (st2 := [.int (iI f3)]) rfl ?_
      refine hv13 (show ivh3 a0 11 = iv a0 11 from kp11f3) (show ivh3 a0 12 = iv a0 12 from kp12f3) (show ivh3 a0 13 = iv a0 13 from kp13f3) (show ivh3 a0 14 = iv a0 14 from kp14f3) (show ivh3 a0 15 = iv a0 15 from kp15f3) (show ivh3 a0 16 = iv a0 16 from kp16f3) (show f3 = -1 from exf3) (show 1 ≤ ivh3 a0 11 ∧ ivh3 a0 11 ≤ 100 from W3.int t_a0 11) (show 1 ≤ ivh3 a0 12 ∧ ivh3 a0 12 ≤ 50 from W3.int t_a0 12) (show (-2147483648) ≤ ivh3 a0 13 ∧ ivh3 a0 13 ≤ 2147483647 from W3.int t_a0 13) (show (-2147483648) ≤ ivh3 a0 14 ∧ ivh3 a0 14 ≤ 2147483647 from W3.int t_a0 14) (show (-2147483648) ≤ ivh3 a0 15 ∧ ivh3 a0 15 ≤ 2147483647 from W3.int t_a0 15) (show (-2147483648) ≤ ivh3 a0 16 ∧ ivh3 a0 16 ≤ 2147483647 from W3.int t_a0 16) (fun gk11f3 gk12f3 gk13f3 gk14f3 gk15f3 gk16f3 gf3 ri19 ri20 ri21 ri22 ri23 ri24 => ?_)
      exact c_iret C dX11_page_29 rfl (by decide) (rom0 hph hph (by decide)) ⟨f3, rfl, rfl, rfl, rfl, rfl, F2, W3, ⟨by omega, by omega⟩, trivial, (by omega), (by omega), (by omega), (by omega), (by omega), (by omega)⟩
    · refine c_iload_n (j := 2) C dX11_page_12 rfl ?_
      refine c_if_lt (tgt := 24) C ⟨by omega, by omega⟩ dX11_page_13 (by decide) (fun c3 => ?_) (fun c3 => ?_)
      · refine c_aload_n (j := 0) (x := a0) C dX11_page_24 rfl ?_
        refine c_iconst C dX11_page_25 ?_
        refine d_callV (As := [.int (iI 2)]) (rest := []) C hM (C_refuse (a0 := a0) (x := 2) hW hS t_a0 ⟨by decide, by decide⟩ ) dX11_page_26 kV_X11_102 rfl t_a0 rfl rfl (by decide) ck_12 rfl (Nat.le_of_ble_eq_true rfl) ⟨(Nat.le_of_ble_eq_true rfl), (Nat.le_of_ble_eq_true rfl)⟩ hph hph (show 0 + 0 = 0 from rfl) (by decide) (fun rh4 Lh4 clh4 lnh4 ivh4 rvh4 h4 => ?_)
        obtain ⟨f4, rfl, rfl, rfl, rfl, rfl, fl4, W4, rgf4, exf4, kp11f4, kp12f4, kp13f4, kp14f4, kp15f4, kp16f4⟩ := h4
        refine hv7 (show 1 ≤ iv a0 11 ∧ iv a0 11 ≤ 100 from hW.int t_a0 11) (show 1 ≤ iv a0 12 ∧ iv a0 12 ≤ 50 from hW.int t_a0 12) (show (-2147483648) ≤ iv a0 13 ∧ iv a0 13 ≤ 2147483647 from hW.int t_a0 13) (show (-2147483648) ≤ iv a0 14 ∧ iv a0 14 ≤ 2147483647 from hW.int t_a0 14) (show (-2147483648) ≤ iv a0 15 ∧ iv a0 15 ≤ 2147483647 from hW.int t_a0 15) (show (-2147483648) ≤ iv a0 16 ∧ iv a0 16 ≤ 2147483647 from hW.int t_a0 16) (hF0.call hX0 fl4 rfl) (fun ri25 ri26 ri27 ri28 ri29 ri30 F3 => ?_)
        refine c_st (st2 := [.int (iI f4)]) rfl ?_
        refine hv13 (show ivh4 a0 11 = iv a0 11 from kp11f4) (show ivh4 a0 12 = iv a0 12 from kp12f4) (show ivh4 a0 13 = iv a0 13 from kp13f4) (show ivh4 a0 14 = iv a0 14 from kp14f4) (show ivh4 a0 15 = iv a0 15 from kp15f4) (show ivh4 a0 16 = iv a0 16 from kp16f4) (show f4 = -1 from exf4) (show 1 ≤ ivh4 a0 11 ∧ ivh4 a0 11 ≤ 100 from W4.int t_a0 11) (show 1 ≤ ivh4 a0 12 ∧ ivh4 a0 12 ≤ 50 from W4.int t_a0 12) (show (-2147483648) ≤ ivh4 a0 13 ∧ ivh4 a0 13 ≤ 2147483647 from W4.int t_a0 13) (show (-2147483648) ≤ ivh4 a0 14 ∧ ivh4 a0 14 ≤ 2147483647 from W4.int t_a0 14) (show (-2147483648) ≤ ivh4 a0 15 ∧ ivh4 a0 15 ≤ 2147483647 from W4.int t_a0 15) (show (-2147483648) ≤ ivh4 a0 16 ∧ ivh4 a0 16 ≤ 2147483647 from W4.int t_a0 16) (fun gk11f4 gk12f4 gk13f4 gk14f4 gk15f4 gk16f4 gf4 ri31 ri32 ri33 ri34 ri35 ri36 => ?_)
        exact c_iret C dX11_page_29 rfl (by decide) (rom0 hph hph (by decide)) ⟨f4, rfl, rfl, rfl, rfl, rfl, F3, W4, ⟨by omega, by omega⟩, trivial, (by omega), (by omega), (by omega), (by omega), (by omega), (by omega)⟩
      · refine c_iload_n (j := 2) C dX11_page_16 rfl ?_
        refine c_aload_n (j := 0) (x := a0) C dX11_page_17 rfl ?_
        have ri37 : 1 ≤ iv a0 12 ∧ iv a0 12 ≤ 50 := hW.int t_a0 12
        refine c_get (k := 12) C ck_12 dX11_page_18 w2_56 (by decide) t_a0 rfl rfl (by decide) rfl ?_
        refine c_icmp_lt (tgt := 30) C ⟨by omega, by omega⟩ (r32_c (lo := 1) (hi := 50) ri37.1 ri37.2 (by decide) (by decide)) dX11_page_21 (by decide) (fun c4 => ?_) (fun c4 => ?_)
        · refine c_aload_n (j := 0) (x := a0) C dX11_page_30 rfl ?_
          refine d_callV (As := []) (rest := []) C hM (C_hasHeader (a0 := a0) hW hS t_a0  ) dX11_page_31 kV_X11_285 rfl t_a0 rfl rfl (by decide) ck_12 rfl (Nat.le_of_ble_eq_true rfl) ⟨(Nat.le_of_ble_eq_true rfl), (Nat.le_of_ble_eq_true rfl)⟩ hph hph (show 0 + 0 = 0 from rfl) (by decide) (fun rh5 Lh5 clh5 lnh5 ivh5 rvh5 h5 => ?_)
          obtain ⟨f5, rfl, rfl, rfl, rfl, rfl, rfl, rgf5, exf5⟩ := h5
          refine c_st (st2 := [.int (iI f5)]) rfl ?_
          have gf5 : f5 = 0 ∨ 2 ≤ iv a0 12 := exf5
          refine c_if_eq (tgt := 41) C ⟨by omega, by omega⟩ dX11_page_34 (by decide) (fun c5 => ?_) (fun c5 => ?_)
          · clear gf5
            refine c_iconst C dX11_page_41 ?_
            refine c_istore (lv2 := [(4, .int (iI 0)), (0, .ref a0), (1, .int (iI i)), (2, .int (iI j)), (3, .int (iI k))]) C dX11_page_42 (by decide) rfl ?_
            refine c_iload_n (j := 3) C dX11_page_44 rfl ?_
            refine c_iload (j := 0) C dX11_page_45 rfl ?_
            refine c_icmp_ge (tgt := 86) C ⟨by omega, by omega⟩ ⟨by decide, by decide⟩ dX11_page_47 (by decide) (fun _ => ?_) (fun z => absurd z (by omega))
            refine c_aload_n (j := 1) (x := a0) C dX11_page_86 rfl ?_
            refine c_iload_n (j := 2) C dX11_page_87 rfl ?_
            refine c_aload_n (j := 1) (x := a0) C dX11_page_88 rfl ?_
            refine d_callV (As := []) (rest := [.int (iI i), .ref a0]) C hM (C_linesOfPage (a0 := a0) hW hS t_a0  ) dX11_page_89 kV_X11_282 rfl t_a0 rfl rfl (by decide) ck_12 rfl (Nat.le_of_ble_eq_true rfl) ⟨(Nat.le_of_ble_eq_true rfl), (Nat.le_of_ble_eq_true rfl)⟩ hph hph (show 0 + 0 = 0 from rfl) (by decide) (fun rh6 Lh6 clh6 lnh6 ivh6 rvh6 h6 => ?_)
            obtain ⟨f6, rfl, rfl, rfl, rfl, rfl, rfl, rgf6, exf6⟩ := h6
            refine c_st (st2 := [.int (iI f6), .int (iI i), .ref a0]) rfl ?_
            have gf6 : 1 ≤ f6 ∧ f6 ≤ 50 := exf6
            refine c_imul C dX11_page_92 ?_
            obtain ⟨zz1, hzz1, ezz1⟩ := iI_of (iI (i * f6))
            refine c_st (st2 := [.int (iI zz1), .ref a0]) (by rw [ezz1]) ?_
            refine c_iload_n (j := 3) C dX11_page_93 rfl ?_
            refine c_iadd C dX11_page_94 ?_
            obtain ⟨zz2, hzz2, ezz2⟩ := iI_of (iI (zz1 + j))
            refine c_st (st2 := [.int (iI zz2), .ref a0]) (by rw [ezz2]) ?_
            refine c_iload (j := 0) C dX11_page_95 rfl ?_
            refine c_isub C dX11_page_97 ?_
            obtain ⟨zz3, hzz3, ezz3⟩ := iI_of (iI (zz2 - 0))
            refine c_st (st2 := [.int (iI zz3), .ref a0]) (by rw [ezz3]) ?_
            refine c_iload_n (j := 4) C dX11_page_98 rfl ?_
            refine d_callV (As := [.int (iI zz3), .int (iI k)]) (rest := []) C hM (C_cellOfLine (a0 := a0) (i := zz3) (j := k) hW hS t_a0 (by omega) (by omega) ) dX11_page_99 kV_X11_298 rfl t_a0 rfl rfl (by decide) ck_12 rfl (Nat.le_of_ble_eq_true rfl) ⟨(Nat.le_of_ble_eq_true rfl), (Nat.le_of_ble_eq_true rfl)⟩ hph hph (show 0 + 0 = 0 from rfl) (by decide) (fun rh7 Lh7 clh7 lnh7 ivh7 rvh7 h7 => ?_)
            obtain ⟨f7, rfl, rfl, rfl, rfl, rfl, fl7, W7, rgf7, exf7, kp11f7, kp12f7, kp13f7, kp14f7, kp15f7, kp16f7⟩ := h7
            refine hv6 (show 1 ≤ iv a0 11 ∧ iv a0 11 ≤ 100 from hW.int t_a0 11) (show (-2147483648) ≤ iv a0 13 ∧ iv a0 13 ≤ 2147483647 from hW.int t_a0 13) (show (-2147483648) ≤ iv a0 14 ∧ iv a0 14 ≤ 2147483647 from hW.int t_a0 14) (show (-2147483648) ≤ iv a0 15 ∧ iv a0 15 ≤ 2147483647 from hW.int t_a0 15) (show (-2147483648) ≤ iv a0 16 ∧ iv a0 16 ≤ 2147483647 from hW.int t_a0 16) (hF0.call hX0 fl7 rfl) (fun ri38 ri39 ri40 ri41 ri42 F4 => ?_)
            refine c_st (st2 := [.int (iI f7)]) rfl ?_
            refine hv12 (show ivh7 a0 11 = iv a0 11 from kp11f7) (show ivh7 a0 12 = iv a0 12 from kp12f7) (show ivh7 a0 13 = iv a0 13 from kp13f7) (show ivh7 a0 14 = iv a0 14 from kp14f7) (show ivh7 a0 15 = iv a0 15 from kp15f7) (show ivh7 a0 16 = iv a0 16 from kp16f7) (show 1 ≤ ivh7 a0 11 ∧ ivh7 a0 11 ≤ 100 from W7.int t_a0 11) (show 1 ≤ ivh7 a0 12 ∧ ivh7 a0 12 ≤ 50 from W7.int t_a0 12) (show (-2147483648) ≤ ivh7 a0 13 ∧ ivh7 a0 13 ≤ 2147483647 from W7.int t_a0 13) (show (-2147483648) ≤ ivh7 a0 14 ∧ ivh7 a0 14 ≤ 2147483647 from W7.int t_a0 14) (show (-2147483648) ≤ ivh7 a0 15 ∧ ivh7 a0 15 ≤ 2147483647 from W7.int t_a0 15) (show (-2147483648) ≤ ivh7 a0 16 ∧ ivh7 a0 16 ≤ 2147483647 from W7.int t_a0 16) (fun gk11f7 gk12f7 gk13f7 gk14f7 gk15f7 gk16f7 ri43 ri44 ri45 ri46 ri47 ri48 => ?_)
            exact c_iret C dX11_page_102 rfl (by decide) (rom0 hph hph (by decide)) ⟨f7, rfl, rfl, rfl, rfl, rfl, F4, W7, ⟨by omega, by omega⟩, trivial, (by omega), (by omega), (by omega), (by omega), (by omega), (by omega)⟩
          · replace gf5 := (gf5.resolve_left c5)
            refine c_iconst C dX11_page_37 ?_
            refine c_goto (tgt := 42) C dX11_page_38 (by decide) ?_
            refine c_istore (lv2 := [(4, .int (iI 1)), (0, .ref a0), (1, .int (iI i)), (2, .int (iI j)), (3, .int (iI k))]) C dX11_page_42 (by decide) rfl ?_
            refine c_iload_n (j := 3) C dX11_page_44 rfl ?_
            refine c_iload (j := 0) C dX11_page_45 rfl ?_
            refine c_icmp_ge (tgt := 86) C ⟨by omega, by omega⟩ ⟨by decide, by decide⟩ dX11_page_47 (by decide) (fun c6 => ?_) (fun c6 => ?_)
            · refine c_aload_n (j := 1) (x := a0) C dX11_page_86 rfl ?_
              refine c_iload_n (j := 2) C dX11_page_87 rfl ?_
              refine c_aload_n (j := 1) (x := a0) C dX11_page_88 rfl ?_
              refine d_callV (As := []) (rest := [.int (iI i), .ref a0]) C hM (C_linesOfPage (a0 := a0) hW hS t_a0  ) dX11_page_89 kV_X11_282 rfl t_a0 rfl rfl (by decide) ck_12 rfl (Nat.le_of_ble_eq_true rfl) ⟨(Nat.le_of_ble_eq_true rfl), (Nat.le_of_ble_eq_true rfl)⟩ hph hph (show 0 + 0 = 0 from rfl) (by decide) (fun rh8 Lh8 clh8 lnh8 ivh8 rvh8 h8 => ?_)
              obtain ⟨f8, rfl, rfl, rfl, rfl, rfl, rfl, rgf8, exf8⟩ := h8
              refine c_st (st2 := [.int (iI f8), .int (iI i), .ref a0]) rfl ?_
              have gf8 : 1 ≤ f8 ∧ f8 ≤ 50 := exf8
              refine c_imul C dX11_page_92 ?_
              obtain ⟨zz4, hzz4, ezz4⟩ := iI_of (iI (i * f8))
              refine c_st (st2 := [.int (iI zz4), .ref a0]) (by rw [ezz4]) ?_
              refine c_iload_n (j := 3) C dX11_page_93 rfl ?_
              refine c_iadd C dX11_page_94 ?_
              obtain ⟨zz5, hzz5, ezz5⟩ := iI_of (iI (zz4 + j))
              refine c_st (st2 := [.int (iI zz5), .ref a0]) (by rw [ezz5]) ?_
              refine c_iload (j := 0) C dX11_page_95 rfl ?_
              refine c_isub C dX11_page_97 ?_
              obtain ⟨zz6, hzz6, ezz6⟩ := iI_of (iI (zz5 - 1))
              refine c_st (st2 := [.int (iI zz6), .ref a0]) (by rw [ezz6]) ?_
              refine c_iload_n (j := 4) C dX11_page_98 rfl ?_
              refine d_callV (As := [.int (iI zz6), .int (iI k)]) (rest := []) C hM (C_cellOfLine (a0 := a0) (i := zz6) (j := k) hW hS t_a0 (by omega) (by omega) ) dX11_page_99 kV_X11_298 rfl t_a0 rfl rfl (by decide) ck_12 rfl (Nat.le_of_ble_eq_true rfl) ⟨(Nat.le_of_ble_eq_true rfl), (Nat.le_of_ble_eq_true rfl)⟩ hph hph (show 0 + 0 = 0 from rfl) (by decide) (fun rh9 Lh9 clh9 lnh9 ivh9 rvh9 h9 => ?_)
              obtain ⟨f9, rfl, rfl, rfl, rfl, rfl, fl9, W9, rgf9, exf9, kp11f9, kp12f9, kp13f9, kp14f9, kp15f9, kp16f9⟩ := h9
              refine hv6 (show 1 ≤ iv a0 11 ∧ iv a0 11 ≤ 100 from hW.int t_a0 11) (show (-2147483648) ≤ iv a0 13 ∧ iv a0 13 ≤ 2147483647 from hW.int t_a0 13) (show (-2147483648) ≤ iv a0 14 ∧ iv a0 14 ≤ 2147483647 from hW.int t_a0 14) (show (-2147483648) ≤ iv a0 15 ∧ iv a0 15 ≤ 2147483647 from hW.int t_a0 15) (show (-2147483648) ≤ iv a0 16 ∧ iv a0 16 ≤ 2147483647 from hW.int t_a0 16) (hF0.call hX0 fl9 rfl) (fun ri49 ri50 ri51 ri52 ri53 F5 => ?_)
              refine c_st (st2 := [.int (iI f9)]) rfl ?_
              refine hv12 (show ivh9 a0 11 = iv a0 11 from kp11f9) (show ivh9 a0 12 = iv a0 12 from kp12f9) (show ivh9 a0 13 = iv a0 13 from kp13f9) (show ivh9 a0 14 = iv a0 14 from kp14f9) (show ivh9 a0 15 = iv a0 15 from kp15f9) (show ivh9 a0 16 = iv a0 16 from kp16f9) (show 1 ≤ ivh9 a0 11 ∧ ivh9 a0 11 ≤ 100 from W9.int t_a0 11) (show 1 ≤ ivh9 a0 12 ∧ ivh9 a0 12 ≤ 50 from W9.int t_a0 12) (show (-2147483648) ≤ ivh9 a0 13 ∧ ivh9 a0 13 ≤ 2147483647 from W9.int t_a0 13) (show (-2147483648) ≤ ivh9 a0 14 ∧ ivh9 a0 14 ≤ 2147483647 from W9.int t_a0 14) (show (-2147483648) ≤ ivh9 a0 15 ∧ ivh9 a0 15 ≤ 2147483647 from W9.int t_a0 15) (show (-2147483648) ≤ ivh9 a0 16 ∧ ivh9 a0 16 ≤ 2147483647 from W9.int t_a0 16) (fun gk11f9 gk12f9 gk13f9 gk14f9 gk15f9 gk16f9 ri54 ri55 ri56 ri57 ri58 ri59 => ?_)
              exact c_iret C dX11_page_102 rfl (by decide) (rom0 hph hph (by decide)) ⟨f9, rfl, rfl, rfl, rfl, rfl, F5, W9, ⟨by omega, by omega⟩, trivial, (by omega), (by omega), (by omega), (by omega), (by omega), (by omega)⟩
            · refine c_iload_n (j := 4) C dX11_page_50 rfl ?_
              refine c_if_lt (tgt := 65) C ⟨by omega, by omega⟩ dX11_page_51 (by decide) (fun c7 => ?_) (fun c7 => ?_)
              · refine c_aload_n (j := 1) (x := a0) C dX11_page_65 rfl ?_
                refine c_iconst C dX11_page_66 ?_
                refine d_callV (As := [.int (iI 2)]) (rest := []) C hM (C_refuse (a0 := a0) (x := 2) hW hS t_a0 ⟨by decide, by decide⟩ ) dX11_page_67 kV_X11_102 rfl t_a0 rfl rfl (by decide) ck_12 rfl (Nat.le_of_ble_eq_true rfl) ⟨(Nat.le_of_ble_eq_true rfl), (Nat.le_of_ble_eq_true rfl)⟩ hph hph (show 0 + 0 = 0 from rfl) (by decide) (fun rh10 Lh10 clh10 lnh10 ivh10 rvh10 h10 => ?_)
                obtain ⟨f10, rfl, rfl, rfl, rfl, rfl, fl10, W10, rgf10, exf10, kp11f10, kp12f10, kp13f10, kp14f10, kp15f10, kp16f10⟩ := h10
                refine hv6 (show 1 ≤ iv a0 11 ∧ iv a0 11 ≤ 100 from hW.int t_a0 11) (show (-2147483648) ≤ iv a0 13 ∧ iv a0 13 ≤ 2147483647 from hW.int t_a0 13) (show (-2147483648) ≤ iv a0 14 ∧ iv a0 14 ≤ 2147483647 from hW.int t_a0 14) (show (-2147483648) ≤ iv a0 15 ∧ iv a0 15 ≤ 2147483647 from hW.int t_a0 15) (show (-2147483648) ≤ iv a0 16 ∧ iv a0 16 ≤ 2147483647 from hW.int t_a0 16) (hF0.call hX0 fl10 rfl) (fun ri60 ri61 ri62 ri63 ri64 F6 => ?_)
                refine c_st (st2 := [.int (iI f10)]) rfl ?_
                refine hv7 (show ivh10 a0 11 = iv a0 11 from kp11f10) (show ivh10 a0 12 = iv a0 12 from kp12f10) (show ivh10 a0 13 = iv a0 13 from kp13f10) (show ivh10 a0 14 = iv a0 14 from kp14f10) (show ivh10 a0 15 = iv a0 15 from kp15f10) (show ivh10 a0 16 = iv a0 16 from kp16f10) (show f10 = -1 from exf10) (fun gk11f10 gk12f10 gk13f10 gk14f10 gk15f10 gk16f10 gf10 => ?_)
                refine c_goto (tgt := 85) C dX11_page_70 (by decide) ?_
                refine hv6 (show 1 ≤ ivh10 a0 11 ∧ ivh10 a0 11 ≤ 100 from W10.int t_a0 11) (show 1 ≤ ivh10 a0 12 ∧ ivh10 a0 12 ≤ 50 from W10.int t_a0 12) (show (-2147483648) ≤ ivh10 a0 13 ∧ ivh10 a0 13 ≤ 2147483647 from W10.int t_a0 13) (show (-2147483648) ≤ ivh10 a0 14 ∧ ivh10 a0 14 ≤ 2147483647 from W10.int t_a0 14) (show (-2147483648) ≤ ivh10 a0 15 ∧ ivh10 a0 15 ≤ 2147483647 from W10.int t_a0 15) (show (-2147483648) ≤ ivh10 a0 16 ∧ ivh10 a0 16 ≤ 2147483647 from W10.int t_a0 16) (fun ri65 ri66 ri67 ri68 ri69 ri70 => ?_)
                exact c_iret C dX11_page_85 rfl (by decide) (rom0 hph hph (by decide)) ⟨f10, rfl, rfl, rfl, rfl, rfl, F6, W10, ⟨by omega, by omega⟩, trivial, (by omega), (by omega), (by omega), (by omega), (by omega), (by omega)⟩
              · refine c_iload_n (j := 4) C dX11_page_54 rfl ?_
                refine c_aload_n (j := 1) (x := a0) C dX11_page_55 rfl ?_
                obtain ⟨rb1, rq1, trb1⟩ := hW.ref t_a0 3 rfl rfl rfl
                have erb1 := hW.sk trb1 (by decide) rfl
                subst erb1
                refine c_getr (k := 3) C ck_12 dX11_page_56 w2_47 (by decide) t_a0 rfl rfl (by decide) rfl rq1 ?_
                refine c_st (st2 := [.ref (sk 5), .int (iI k)]) rfl ?_
                have ri71 : 0 ≤ iv (sk 5) 2 ∧ iv (sk 5) 2 ≤ 200 := hW.int tsk5 2
                refine c_get (k := 2) C ck_2 dX11_page_59 w1_44 (by decide) tsk5 rfl rfl (by decide) rfl ?_
                refine c_icmp_lt (tgt := 73) C ⟨by omega, by omega⟩ (r32_c (lo := 0) (hi := 200) ri71.1 ri71.2 (by decide) (by decide)) dX11_page_62 (by decide) (fun c8 => ?_) (fun c8 => ?_)
                · refine c_aload_n (j := 1) (x := a0) C dX11_page_73 rfl ?_
                  refine c_aload_n (j := 1) (x := a0) C dX11_page_74 rfl ?_
                  refine c_getr (k := 3) C ck_12 dX11_page_75 w2_47 (by decide) t_a0 rfl rfl (by decide) rfl rq1 ?_
                  refine c_st (st2 := [.ref (sk 5), .ref a0]) rfl ?_
                  refine c_iload_n (j := 4) C dX11_page_78 rfl ?_
                  refine d_callV (As := [.int (iI k)]) (rest := [.ref a0]) C hM (C_at_5 (a0 := (sk 5)) (i := k) hW hS tsk5 (by omega) ) dX11_page_79 kV_X11_224 rfl tsk5 rfl rfl (by decide) ck_2 rfl (Nat.le_of_ble_eq_true rfl) ⟨(Nat.le_of_ble_eq_true rfl), (Nat.le_of_ble_eq_true rfl)⟩ hph hph (show 0 + 0 = 0 from rfl) (by decide) (fun rh11 Lh11 clh11 lnh11 ivh11 rvh11 h11 => ?_)
                  obtain ⟨f11, rfl, rfl, rfl, rfl, rfl, rfl, rgf11, exf11⟩ := h11
                  refine c_st (st2 := [.int (iI f11), .ref a0]) rfl ?_
                  have gf11 : ((0 ≤ k ∧ k < iv (sk 5) 2) ∨ f11 = 0) ∧ ∀ ss, CT iv rv (sk 5) ss → 0 ≤ k → k < iv (sk 5) 2 → f11 = ss k.toNat := exf11
                  refine d_callV (As := [.int (iI f11)]) (rest := []) C hM (C_done (a0 := a0) (x := f11) hW hS t_a0 (by omega) ) dX11_page_82 kV_X11_109 rfl t_a0 rfl rfl (by decide) ck_12 rfl (Nat.le_of_ble_eq_true rfl) ⟨(Nat.le_of_ble_eq_true rfl), (Nat.le_of_ble_eq_true rfl)⟩ hph hph (show 0 + 0 = 0 from rfl) (by decide) (fun rh12 Lh12 clh12 lnh12 ivh12 rvh12 h12 => ?_)
                  obtain ⟨f12, rfl, rfl, rfl, rfl, rfl, fl12, W12, rgf12, exf12, kp11f12, kp12f12, kp13f12, kp14f12, kp15f12, kp16f12⟩ := h12
                  refine hv6 (show 1 ≤ iv a0 11 ∧ iv a0 11 ≤ 100 from hW.int t_a0 11) (show (-2147483648) ≤ iv a0 13 ∧ iv a0 13 ≤ 2147483647 from hW.int t_a0 13) (show (-2147483648) ≤ iv a0 14 ∧ iv a0 14 ≤ 2147483647 from hW.int t_a0 14) (show (-2147483648) ≤ iv a0 15 ∧ iv a0 15 ≤ 2147483647 from hW.int t_a0 15) (show (-2147483648) ≤ iv a0 16 ∧ iv a0 16 ≤ 2147483647 from hW.int t_a0 16) (hF0.call hX0 fl12 rfl) (fun ri72 ri73 ri74 ri75 ri76 F7 => ?_)
                  refine c_st (st2 := [.int (iI f12)]) rfl ?_
                  refine hv13 (show ivh12 a0 11 = iv a0 11 from kp11f12) (show ivh12 a0 12 = iv a0 12 from kp12f12) (show ivh12 a0 13 = iv a0 13 from kp13f12) (show ivh12 a0 14 = iv a0 14 from kp14f12) (show ivh12 a0 15 = iv a0 15 from kp15f12) (show ivh12 a0 16 = iv a0 16 from kp16f12) (show f12 = f11 from exf12) (show 1 ≤ ivh12 a0 11 ∧ ivh12 a0 11 ≤ 100 from W12.int t_a0 11) (show 1 ≤ ivh12 a0 12 ∧ ivh12 a0 12 ≤ 50 from W12.int t_a0 12) (show (-2147483648) ≤ ivh12 a0 13 ∧ ivh12 a0 13 ≤ 2147483647 from W12.int t_a0 13) (show (-2147483648) ≤ ivh12 a0 14 ∧ ivh12 a0 14 ≤ 2147483647 from W12.int t_a0 14) (show (-2147483648) ≤ ivh12 a0 15 ∧ ivh12 a0 15 ≤ 2147483647 from W12.int t_a0 15) (show (-2147483648) ≤ ivh12 a0 16 ∧ ivh12 a0 16 ≤ 2147483647 from W12.int t_a0 16) (fun gk11f12 gk12f12 gk13f12 gk14f12 gk15f12 gk16f12 gf12 ri77 ri78 ri79 ri80 ri81 ri82 => ?_)
                  exact c_iret C dX11_page_85 rfl (by decide) (rom0 hph hph (by decide)) ⟨f12, rfl, rfl, rfl, rfl, rfl, F7, W12, ⟨by omega, by omega⟩, trivial, (by omega), (by omega), (by omega), (by omega), (by omega), (by omega)⟩
                · refine c_aload_n (j := 1) (x := a0) C dX11_page_65 rfl ?_
                  refine c_iconst C dX11_page_66 ?_
                  refine d_callV (As := [.int (iI 2)]) (rest := []) C hM (C_refuse (a0 := a0) (x := 2) hW hS t_a0 ⟨by decide, by decide⟩ ) dX11_page_67 kV_X11_102 rfl t_a0 rfl rfl (by decide) ck_12 rfl (Nat.le_of_ble_eq_true rfl) ⟨(Nat.le_of_ble_eq_true rfl), (Nat.le_of_ble_eq_true rfl)⟩ hph hph (show 0 + 0 = 0 from rfl) (by decide) (fun rh13 Lh13 clh13 lnh13 ivh13 rvh13 h13 => ?_)
                  obtain ⟨f13, rfl, rfl, rfl, rfl, rfl, fl13, W13, rgf13, exf13, kp11f13, kp12f13, kp13f13, kp14f13, kp15f13, kp16f13⟩ := h13
                  refine hv6 (show 1 ≤ iv a0 11 ∧ iv a0 11 ≤ 100 from hW.int t_a0 11) (show (-2147483648) ≤ iv a0 13 ∧ iv a0 13 ≤ 2147483647 from hW.int t_a0 13) (show (-2147483648) ≤ iv a0 14 ∧ iv a0 14 ≤ 2147483647 from hW.int t_a0 14) (show (-2147483648) ≤ iv a0 15 ∧ iv a0 15 ≤ 2147483647 from hW.int t_a0 15) (show (-2147483648) ≤ iv a0 16 ∧ iv a0 16 ≤ 2147483647 from hW.int t_a0 16) (hF0.call hX0 fl13 rfl) (fun ri83 ri84 ri85 ri86 ri87 F8 => ?_)
                  refine c_st (st2 := [.int (iI f13)]) rfl ?_
                  refine hv7 (show ivh13 a0 11 = iv a0 11 from kp11f13) (show ivh13 a0 12 = iv a0 12 from kp12f13) (show ivh13 a0 13 = iv a0 13 from kp13f13) (show ivh13 a0 14 = iv a0 14 from kp14f13) (show ivh13 a0 15 = iv a0 15 from kp15f13) (show ivh13 a0 16 = iv a0 16 from kp16f13) (show f13 = -1 from exf13) (fun gk11f13 gk12f13 gk13f13 gk14f13 gk15f13 gk16f13 gf13 => ?_)
                  refine c_goto (tgt := 85) C dX11_page_70 (by decide) ?_
                  refine hv6 (show 1 ≤ ivh13 a0 11 ∧ ivh13 a0 11 ≤ 100 from W13.int t_a0 11) (show 1 ≤ ivh13 a0 12 ∧ ivh13 a0 12 ≤ 50 from W13.int t_a0 12) (show (-2147483648) ≤ ivh13 a0 13 ∧ ivh13 a0 13 ≤ 2147483647 from W13.int t_a0 13) (show (-2147483648) ≤ ivh13 a0 14 ∧ ivh13 a0 14 ≤ 2147483647 from W13.int t_a0 14) (show (-2147483648) ≤ ivh13 a0 15 ∧ ivh13 a0 15 ≤ 2147483647 from W13.int t_a0 15) (show (-2147483648) ≤ ivh13 a0 16 ∧ ivh13 a0 16 ≤ 2147483647 from W13.int t_a0 16) (fun ri88 ri89 ri90 ri91 ri92 ri93 => ?_)
                  exact c_iret C dX11_page_85 rfl (by decide) (rom0 hph hph (by decide)) ⟨f13, rfl, rfl, rfl, rfl, rfl, F8, W13, ⟨by omega, by omega⟩, trivial, (by omega), (by omega), (by omega), (by omega), (by omega), (by omega)⟩
        · refine c_aload_n (j := 0) (x := a0) C dX11_page_24 rfl ?_
          refine c_iconst C dX11_page_25 ?_
          refine d_callV (As := [.int (iI 2)]) (rest := []) C hM (C_refuse (a0 := a0) (x := 2) hW hS t_a0 ⟨by decide, by decide⟩ ) dX11_page_26 kV_X11_102 rfl t_a0 rfl rfl (by decide) ck_12 rfl (Nat.le_of_ble_eq_true rfl) ⟨(Nat.le_of_ble_eq_true rfl), (Nat.le_of_ble_eq_true rfl)⟩ hph hph (show 0 + 0 = 0 from rfl) (by decide) (fun rh14 Lh14 clh14 lnh14 ivh14 rvh14 h14 => ?_)
          obtain ⟨f14, rfl, rfl, rfl, rfl, rfl, fl14, W14, rgf14, exf14, kp11f14, kp12f14, kp13f14, kp14f14, kp15f14, kp16f14⟩ := h14
          refine hv6 (show 1 ≤ iv a0 11 ∧ iv a0 11 ≤ 100 from hW.int t_a0 11) (show (-2147483648) ≤ iv a0 13 ∧ iv a0 13 ≤ 2147483647 from hW.int t_a0 13) (show (-2147483648) ≤ iv a0 14 ∧ iv a0 14 ≤ 2147483647 from hW.int t_a0 14) (show (-2147483648) ≤ iv a0 15 ∧ iv a0 15 ≤ 2147483647 from hW.int t_a0 15) (show (-2147483648) ≤ iv a0 16 ∧ iv a0 16 ≤ 2147483647 from hW.int t_a0 16) (hF0.call hX0 fl14 rfl) (fun ri94 ri95 ri96 ri97 ri98 F9 => ?_)
          refine c_st (st2 := [.int (iI f14)]) rfl ?_
          refine hv13 (show ivh14 a0 11 = iv a0 11 from kp11f14) (show ivh14 a0 12 = iv a0 12 from kp12f14) (show ivh14 a0 13 = iv a0 13 from kp13f14) (show ivh14 a0 14 = iv a0 14 from kp14f14) (show ivh14 a0 15 = iv a0 15 from kp15f14) (show ivh14 a0 16 = iv a0 16 from kp16f14) (show f14 = -1 from exf14) (show 1 ≤ ivh14 a0 11 ∧ ivh14 a0 11 ≤ 100 from W14.int t_a0 11) (show 1 ≤ ivh14 a0 12 ∧ ivh14 a0 12 ≤ 50 from W14.int t_a0 12) (show (-2147483648) ≤ ivh14 a0 13 ∧ ivh14 a0 13 ≤ 2147483647 from W14.int t_a0 13) (show (-2147483648) ≤ ivh14 a0 14 ∧ ivh14 a0 14 ≤ 2147483647 from W14.int t_a0 14) (show (-2147483648) ≤ ivh14 a0 15 ∧ ivh14 a0 15 ≤ 2147483647 from W14.int t_a0 15) (show (-2147483648) ≤ ivh14 a0 16 ∧ ivh14 a0 16 ≤ 2147483647 from W14.int t_a0 16) (fun gk11f14 gk12f14 gk13f14 gk14f14 gk15f14 gk16f14 gf14 ri99 ri100 ri101 ri102 ri103 ri104 => ?_)
          exact c_iret C dX11_page_29 rfl (by decide) (rom0 hph hph (by decide)) ⟨f14, rfl, rfl, rfl, rfl, rfl, F9, W14, ⟨by omega, by omega⟩, trivial, (by omega), (by omega), (by omega), (by omega), (by omega), (by omega)⟩
set_option maxHeartbeats 4000000 in
set_option maxRecDepth 100000 in
theorem C_copied {l : Launch} {G : GT} {mi : Nat} {sk : Nat → Nat} {L : List Nat} {cl ln : Nat → Nat} {iv : Nat → Nat → Int} {rv : Nat → Nat → Option Nat}  {a0 : Nat} (hW : WT (g0 G) sk L cl ln iv rv) (hS : SKL sk L cl) (t_a0 : ty L cl a0 1)  : Mc l G mi (Phi (g0 G) sk) PHM yX11_copied cX11_copied 1 (some .int) 0 [.ref a0] L cl ln iv rv 0 (fun v L2 cl2 ln2 iv2 rv2 => ∃ f : Int, v = some (.int (iI f)) ∧ L = L2 ∧ cl = cl2 ∧ ln = ln2 ∧ iv = iv2 ∧ rv = rv2 ∧ (-2147483648 ≤ f ∧ f ≤ 2147483647) ∧ (True)) := by
  refine Mc.mk (by decide) (Nat.le_of_ble_eq_true rfl) ?_
  intro p e s m args below meth c A C hM
  refine hv3 (Phi.le hW hS) (show XT L cl ln L cl ln from XT.refl) (show fT [] L cl iv rv iv rv from fT.refl) (fun hph hX0 hF0 => ?_)
  refine c_aload_n (j := 0) (x := a0) C dX11_copied_0 rfl ?_
  have ri1 : (-2147483648) ≤ iv a0 15 ∧ iv a0 15 ≤ 2147483647 := hW.int t_a0 15
  refine c_get (k := 15) C ck_12 dX11_copied_1 w2_59 (by decide) t_a0 rfl rfl (by decide) rfl ?_
  exact c_iret C dX11_copied_4 rfl (by decide) (rom0 hph hph (by decide)) ⟨(iv a0 15), rfl, rfl, rfl, rfl, rfl, rfl, ⟨by omega, by omega⟩, trivial⟩
set_option maxHeartbeats 4000000 in
set_option maxRecDepth 100000 in
theorem C_closed {l : Launch} {G : GT} {mi : Nat} {sk : Nat → Nat} {L : List Nat} {cl ln : Nat → Nat} {iv : Nat → Nat → Int} {rv : Nat → Nat → Option Nat}  {a0 : Nat} (hW : WT (g0 G) sk L cl ln iv rv) (hS : SKL sk L cl) (t_a0 : ty L cl a0 1)  : Mc l G mi (Phi (g0 G) sk) PHM yX11_closed cX11_closed 1 (some .int) 0 [.ref a0] L cl ln iv rv 0 (fun v L2 cl2 ln2 iv2 rv2 => ∃ f : Int, v = some (.int (iI f)) ∧ L = L2 ∧ cl = cl2 ∧ ln = ln2 ∧ iv = iv2 ∧ rv = rv2 ∧ (-2147483648 ≤ f ∧ f ≤ 2147483647) ∧ (True)) := by
  refine Mc.mk (by decide) (Nat.le_of_ble_eq_true rfl) ?_
  intro p e s m args below meth c A C hM
  refine hv3 (Phi.le hW hS) (show XT L cl ln L cl ln from XT.refl) (show fT [] L cl iv rv iv rv from fT.refl) (fun hph hX0 hF0 => ?_)
  refine c_aload_n (j := 0) (x := a0) C dX11_closed_0 rfl ?_
  have ri1 : (-2147483648) ≤ iv a0 16 ∧ iv a0 16 ≤ 2147483647 := hW.int t_a0 16
  refine c_get (k := 16) C ck_12 dX11_closed_1 w2_60 (by decide) t_a0 rfl rfl (by decide) rfl ?_
  exact c_iret C dX11_closed_4 rfl (by decide) (rom0 hph hph (by decide)) ⟨(iv a0 16), rfl, rfl, rfl, rfl, rfl, rfl, ⟨by omega, by omega⟩, trivial⟩
set_option maxHeartbeats 4000000 in
set_option maxRecDepth 100000 in
theorem C_status {l : Launch} {G : GT} {mi : Nat} {sk : Nat → Nat} {L : List Nat} {cl ln : Nat → Nat} {iv : Nat → Nat → Int} {rv : Nat → Nat → Option Nat}  {a0 : Nat} (hW : WT (g0 G) sk L cl ln iv rv) (hS : SKL sk L cl) (t_a0 : ty L cl a0 1)  : Mc l G mi (Phi (g0 G) sk) PHM yX11_status cX11_status 1 (some .int) 0 [.ref a0] L cl ln iv rv 0 (fun v L2 cl2 ln2 iv2 rv2 => ∃ f : Int, v = some (.int (iI f)) ∧ L = L2 ∧ cl = cl2 ∧ ln = ln2 ∧ iv = iv2 ∧ rv = rv2 ∧ (-2147483648 ≤ f ∧ f ≤ 2147483647) ∧ (True)) := by
  refine Mc.mk (by decide) (Nat.le_of_ble_eq_true rfl) ?_
  intro p e s m args below meth c A C hM
  refine hv3 (Phi.le hW hS) (show XT L cl ln L cl ln from XT.refl) (show fT [] L cl iv rv iv rv from fT.refl) (fun hph hX0 hF0 => ?_)
  refine c_aload_n (j := 0) (x := a0) C dX11_status_0 rfl ?_
  have ri1 : (-2147483648) ≤ iv a0 17 ∧ iv a0 17 ≤ 2147483647 := hW.int t_a0 17
  refine c_get (k := 17) C ck_12 dX11_status_1 w2_61 (by decide) t_a0 rfl rfl (by decide) rfl ?_
  exact c_iret C dX11_status_4 rfl (by decide) (rom0 hph hph (by decide)) ⟨(iv a0 17), rfl, rfl, rfl, rfl, rfl, rfl, ⟨by omega, by omega⟩, trivial⟩
set_option maxHeartbeats 4000000 in
set_option maxRecDepth 100000 in
theorem C_place {l : Launch} {G : GT} {mi : Nat} {sk : Nat → Nat} {L : List Nat} {cl ln : Nat → Nat} {iv : Nat → Nat → Int} {rv : Nat → Nat → Option Nat}  {a0 : Nat} (hW : WT (g0 G) sk L cl ln iv rv) (hS : SKL sk L cl) (t_a0 : ty L cl a0 1)  : Mc l G mi (Phi (g0 G) sk) PHM yX11_place cX11_place 1 (some .int) 0 [.ref a0] L cl ln iv rv 0 (fun v L2 cl2 ln2 iv2 rv2 => ∃ f : Int, v = some (.int (iI f)) ∧ L = L2 ∧ cl = cl2 ∧ ln = ln2 ∧ iv = iv2 ∧ rv = rv2 ∧ (-2147483648 ≤ f ∧ f ≤ 2147483647) ∧ (True)) := by
  refine Mc.mk (by decide) (Nat.le_of_ble_eq_true rfl) ?_
  intro p e s m args below meth c A C hM
  refine hv3 (Phi.le hW hS) (show XT L cl ln L cl ln from XT.refl) (show fT [] L cl iv rv iv rv from fT.refl) (fun hph hX0 hF0 => ?_)
  refine c_aload_n (j := 0) (x := a0) C dX11_place_0 rfl ?_
  have ri1 : (-2147483648) ≤ iv a0 18 ∧ iv a0 18 ≤ 2147483647 := hW.int t_a0 18
  refine c_get (k := 18) C ck_12 dX11_place_1 w2_62 (by decide) t_a0 rfl rfl (by decide) rfl ?_
  exact c_iret C dX11_place_4 rfl (by decide) (rom0 hph hph (by decide)) ⟨(iv a0 18), rfl, rfl, rfl, rfl, rfl, rfl, ⟨by omega, by omega⟩, trivial⟩
set_option maxHeartbeats 4000000 in
set_option maxRecDepth 100000 in
theorem C_finds {l : Launch} {G : GT} {mi : Nat} {sk : Nat → Nat} {L : List Nat} {cl ln : Nat → Nat} {iv : Nat → Nat → Int} {rv : Nat → Nat → Option Nat}  {a0 : Nat} {i : Int} (hW : WT (g0 G) sk L cl ln iv rv) (hS : SKL sk L cl) (t_a0 : ty L cl a0 1) (h_i : -2147483648 ≤ i ∧ i ≤ 2147483647)  : Mc l G mi (Phi (g0 G) sk) PHM yX11_finds cX11_finds 2 (some .int) 1 [.ref a0, .int (iI i)] L cl ln iv rv 0 (fun v L2 cl2 ln2 iv2 rv2 => ∃ f : Int, v = some (.int (iI f)) ∧ L = L2 ∧ cl = cl2 ∧ ln = ln2 ∧ iv = iv2 ∧ rv = rv2 ∧ (-2147483648 ≤ f ∧ f ≤ 2147483647) ∧ (True)) := by
  refine Mc.mk (by decide) (Nat.le_of_ble_eq_true rfl) ?_
  intro p e s m args below meth c A C hM
  refine hv3 (Phi.le hW hS) (show XT L cl ln L cl ln from XT.refl) (show fT [] L cl iv rv iv rv from fT.refl) (fun hph hX0 hF0 => ?_)
  refine c_aload_n (j := 0) (x := a0) C dX11_finds_0 rfl ?_
  obtain ⟨rb1, rq1, trb1⟩ := hW.ref t_a0 6 rfl rfl rfl
  refine c_getr (k := 6) C ck_12 dX11_finds_1 w2_50 (by decide) t_a0 rfl rfl (by decide) rfl rq1 ?_
  refine c_st (st2 := [.ref rb1]) rfl ?_
  refine c_iload_n (j := 1) C dX11_finds_4 rfl ?_
  refine d_callV (As := [.int (iI i)]) (rest := []) C hM (C_findsOf (a0 := rb1) (i := i) hW hS trb1 (by omega) ) dX11_finds_5 kV_X11_413 rfl trb1 rfl rfl (by decide) ck_7 rfl (Nat.le_of_ble_eq_true rfl) ⟨(Nat.le_of_ble_eq_true rfl), (Nat.le_of_ble_eq_true rfl)⟩ hph hph (show 0 + 0 = 0 from rfl) (by decide) (fun rh1 Lh1 clh1 lnh1 ivh1 rvh1 h1 => ?_)
  obtain ⟨f1, rfl, rfl, rfl, rfl, rfl, rfl, rgf1, exf1⟩ := h1
  refine c_st (st2 := [.int (iI f1)]) rfl ?_
  exact c_iret C dX11_finds_8 rfl (by decide) (rom0 hph hph (by decide)) ⟨f1, rfl, rfl, rfl, rfl, rfl, rfl, ⟨by omega, by omega⟩, trivial⟩
