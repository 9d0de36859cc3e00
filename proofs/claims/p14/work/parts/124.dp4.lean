set_option maxHeartbeats 4000000 in
set_option maxRecDepth 100000 in
theorem C_addText {l : Launch} {G : GT} {mi : Nat} {sk : Nat → Nat} {L : List Nat} {cl ln : Nat → Nat} {iv : Nat → Nat → Int} {rv : Nat → Nat → Option Nat}  {a0 : Nat} (hW : WT (g0 G) sk L cl ln iv rv) (hS : SKL sk L cl) (t_a0 : ty L cl a0 1)  : Mc l G mi (Phi (g0 G) sk) PHM yX11_addText cX11_addText 3 (some .int) 4 [.ref a0] L cl ln iv rv 0 (fun v L2 cl2 ln2 iv2 rv2 => ∃ f : Int, v = some (.int (iI f)) ∧ XT L cl ln L2 cl2 ln2 ∧ fT [1, 3, 33] L cl iv rv iv2 rv2 ∧ WT (g0 G) sk L2 cl2 ln2 iv2 rv2 ∧ (-2147483648 ≤ f ∧ f ≤ 2147483647) ∧ (∀ ss, CT iv rv (sk 2) ss → ((f = -1 ∧ iv2 (sk 3) 2 = iv (sk 3) 2 ∧ ¬ (TOK ss (iv (sk 2) 2) ∧ iv (sk 3) 2 + iv (sk 2) 2 ≤ 500)) ∨ (f = iv2 (sk 3) 2 ∧ TOK ss (iv (sk 2) 2) ∧ iv (sk 3) 2 + iv (sk 2) 2 ≤ 500 ∧ ((iv (sk 2) 2 = 0 ∧ iv2 (sk 3) 2 = 0) ∨ (iv (sk 2) 2 ≠ 0 ∧ iv2 (sk 3) 2 = iv (sk 3) 2 + iv (sk 2) 2))))) ∧ iv2 a0 11 = iv a0 11 ∧ iv2 a0 12 = iv a0 12 ∧ iv2 a0 13 = iv a0 13 ∧ iv2 a0 14 = iv a0 14 ∧ iv2 a0 15 = iv a0 15 ∧ iv2 a0 16 = iv a0 16 ∧ (∀ ss tt, CT iv rv (sk 2) ss → CT iv rv (sk 3) tt → (f = -1 → CT iv2 rv2 (sk 3) tt) ∧ (f ≠ -1 → CT iv2 rv2 (sk 3) (apd tt (iv (sk 3) 2).toNat ss))) ∧ rv2 a0 9 = rv a0 9 ∧ rv2 a0 10 = rv a0 10) := by
  refine Mc.mk (by decide) (Nat.le_of_ble_eq_true rfl) ?_
  intro p e s m args below meth c A C hM
  have hph := Phi.le hW hS
  have tsk2 : ty L cl (sk 2) 2 := ⟨(hS 2 rfl).1, by rw [(hS 2 rfl).2]; rfl⟩
  have tsk3 : ty L cl (sk 3) 3 := ⟨(hS 3 rfl).1, by rw [(hS 3 rfl).2]; rfl⟩
  have tsk4 : ty L cl (sk 4) 4 := ⟨(hS 4 rfl).1, by rw [(hS 4 rfl).2]; rfl⟩
  have tsk5 : ty L cl (sk 5) 5 := ⟨(hS 5 rfl).1, by rw [(hS 5 rfl).2]; rfl⟩
  have tsk13 : ty L cl (sk 13) 13 := ⟨(hS 13 rfl).1, by rw [(hS 13 rfl).2]; rfl⟩
  have tsk14 : ty L cl (sk 14) 14 := ⟨(hS 14 rfl).1, by rw [(hS 14 rfl).2]; rfl⟩
  have tsk15 : ty L cl (sk 15) 15 := ⟨(hS 15 rfl).1, by rw [(hS 15 rfl).2]; rfl⟩
  have tsk16 : ty L cl (sk 16) 16 := ⟨(hS 16 rfl).1, by rw [(hS 16 rfl).2]; rfl⟩
  have tsk17 : ty L cl (sk 17) 17 := ⟨(hS 17 rfl).1, by rw [(hS 17 rfl).2]; rfl⟩
  have tsk22 : ty L cl (sk 22) 22 := ⟨(hS 22 rfl).1, by rw [(hS 22 rfl).2]; rfl⟩
  have tsk23 : ty L cl (sk 23) 23 := ⟨(hS 23 rfl).1, by rw [(hS 23 rfl).2]; rfl⟩
  have hX0 : XT L cl ln L cl ln := XT.refl
  have hF0 : fT [1, 3, 33] L cl iv rv iv rv := fT.refl
  have ri1 : 0 ≤ iv (sk 2) 2 ∧ iv (sk 2) 2 ≤ 3000 := hW.int tsk2 2
  have ri2 : 0 ≤ iv (sk 3) 2 ∧ iv (sk 3) 2 ≤ 500 := hW.int tsk3 2
  refine c_iconst C dX11_addText_0 ?_
  refine c_istore_n (lv2 := [(1, .int (iI 0)), (0, .ref a0)]) C dX11_addText_1 (by decide) rfl ?_
  have Lp1 : ∀ (nn : Nat) (k : Int) (Lb1 : List Nat) (clb1 lnb1 : Nat → Nat) (ivb1 : Nat → Nat → Int) (rvb1 : Nat → Nat → Option Nat) , 3001 - k < (nn : Int) → XT L cl ln Lb1 clb1 lnb1 → WT (g0 G) sk Lb1 clb1 lnb1 ivb1 rvb1 → fT [1, 3, 33] L cl iv rv ivb1 rvb1 → (0 ≤ k ∧ k ≤ 3000) → (ivb1 (sk 3) 2 = iv (sk 3) 2) → (∀ ss, CT iv rv (sk 2) ss → TOK ss k) → (∀ tt, CT iv rv (sk 3) tt → CT ivb1 rvb1 (sk 3) tt) → (ivb1 a0 11 = iv a0 11) → (ivb1 a0 12 = iv a0 12) → (ivb1 a0 13 = iv a0 13) → (ivb1 a0 14 = iv a0 14) → (ivb1 a0 15 = iv a0 15) → (ivb1 a0 16 = iv a0 16) → (rvb1 a0 9 = rv a0 9) → (rvb1 a0 10 = rv a0 10) → cw p l e 4 ((PHM) + 0 - ((Phi (g0 G) sk) ln rv)) s m args below meth c G A 3 (MQ below (Qu G A (Qp G (Phi (g0 G) sk) ((Phi (g0 G) sk) ln rv) 0 (fun v L2 cl2 ln2 iv2 rv2 => ∃ f : Int, v = some (.int (iI f)) ∧ XT L cl ln L2 cl2 ln2 ∧ fT [1, 3, 33] L cl iv rv iv2 rv2 ∧ WT (g0 G) sk L2 cl2 ln2 iv2 rv2 ∧ (-2147483648 ≤ f ∧ f ≤ 2147483647) ∧ (∀ ss, CT iv rv (sk 2) ss → ((f = -1 ∧ iv2 (sk 3) 2 = iv (sk 3) 2 ∧ ¬ (TOK ss (iv (sk 2) 2) ∧ iv (sk 3) 2 + iv (sk 2) 2 ≤ 500)) ∨ (f = iv2 (sk 3) 2 ∧ TOK ss (iv (sk 2) 2) ∧ iv (sk 3) 2 + iv (sk 2) 2 ≤ 500 ∧ ((iv (sk 2) 2 = 0 ∧ iv2 (sk 3) 2 = 0) ∨ (iv (sk 2) 2 ≠ 0 ∧ iv2 (sk 3) 2 = iv (sk 3) 2 + iv (sk 2) 2))))) ∧ iv2 a0 11 = iv a0 11 ∧ iv2 a0 12 = iv a0 12 ∧ iv2 a0 13 = iv a0 13 ∧ iv2 a0 14 = iv a0 14 ∧ iv2 a0 15 = iv a0 15 ∧ iv2 a0 16 = iv a0 16 ∧ (∀ ss tt, CT iv rv (sk 2) ss → CT iv rv (sk 3) tt → (f = -1 → CT iv2 rv2 (sk 3) tt) ∧ (f ≠ -1 → CT iv2 rv2 (sk 3) (apd tt (iv (sk 3) 2).toNat ss))) ∧ rv2 a0 9 = rv a0 9 ∧ rv2 a0 10 = rv a0 10))) args s (((PHM) + 0 - ((Phi (g0 G) sk) ln rv)) / 16) ((PHM) + 0 - ((Phi (g0 G) sk) ln rv)) A) (Phi (g0 G) sk) ((Phi (g0 G) sk) ln rv) Lb1 clb1 lnb1 ivb1 rvb1 0 2 [(1, .int (iI k)), (0, .ref a0)] [] := by
    intro nn
    induction nn with
    | zero =>
      intro  k Lb1 clb1 lnb1 ivb1 rvb1 hm Xb1 Wb1 Fb1  hk h33 htk hc3 hkp11 hkp12 hkp13 hkp14 hkp15 hkp16 hkr9 hkr10
      have skb1 := Xb1.skl hS
      exact absurd hm (by omega)
    | succ nn ih1 =>
      intro  k Lb1 clb1 lnb1 ivb1 rvb1 hm Xb1 Wb1 Fb1  hk h33 htk hc3 hkp11 hkp12 hkp13 hkp14 hkp15 hkp16 hkr9 hkr10
      have skb1 := Xb1.skl hS
      refine c_iload_n (j := 0) C dX11_addText_2 rfl ?_
      refine c_aload_n (j := 1) (x := a0) C dX11_addText_3 rfl ?_
      have ty1 := Xb1.ty t_a0
      obtain ⟨rb1, rq1, trb1⟩ := Wb1.ref ty1 0 rfl rfl rfl
      have erb1 := Wb1.sk trb1 (by decide) rfl
      subst erb1
      refine c_getr (k := 0) C ck_12 dX11_addText_4 w2_44 (by decide) ty1 rfl rfl (by decide) rfl rq1 ?_
      refine c_st (st2 := [.ref (sk 2), .int (iI k)]) rfl ?_
      have ty2 := Xb1.ty tsk2
      have ri3 : 0 ≤ ivb1 (sk 2) 2 ∧ ivb1 (sk 2) 2 ≤ 3000 := Wb1.int ty2 2
      have ie1 : ivb1 (sk 2) 2 = iv (sk 2) 2 := Fb1.i tsk2 rfl 2
      refine c_get (k := 2) C ck_2 dX11_addText_7 w1_44 (by decide) ty2 rfl rfl (by decide) rfl ?_
      refine c_icmp_ge (tgt := 53) C ⟨by omega, by omega⟩ ⟨by omega, by omega⟩ dX11_addText_10 (by decide) (fun c1 => ?_) (fun c1 => ?_)
      · refine c_aload_n (j := 1) (x := a0) C dX11_addText_53 rfl ?_
        obtain ⟨rb2, rq2, trb2⟩ := Wb1.ref ty1 1 rfl rfl rfl
        have erb2 := Wb1.sk trb2 (by decide) rfl
        subst erb2
        refine c_getr (k := 1) C ck_12 dX11_addText_54 w2_45 (by decide) ty1 rfl rfl (by decide) rfl rq2 ?_
        refine c_st (st2 := [.ref (sk 3)]) rfl ?_
        have ty3 := Xb1.ty tsk3
        have ri4 : 0 ≤ ivb1 (sk 3) 2 ∧ ivb1 (sk 3) 2 ≤ 500 := Wb1.int ty3 2
        refine c_get (k := 2) C ck_2 dX11_addText_57 w1_44 (by decide) ty3 rfl rfl (by decide) rfl ?_
        refine c_aload_n (j := 1) (x := a0) C dX11_addText_60 rfl ?_
        refine c_getr (k := 0) C ck_12 dX11_addText_61 w2_44 (by decide) ty1 rfl rfl (by decide) rfl rq1 ?_
        refine c_st (st2 := [.ref (sk 2), .int (iI (ivb1 (sk 3) 2))]) rfl ?_
        refine c_get (k := 2) C ck_2 dX11_addText_64 w1_44 (by decide) ty2 rfl rfl (by decide) rfl ?_
        refine c_iadd C dX11_addText_67 ?_
        refine c_sipush (z := 500) C dX11_addText_68 (by decide) ?_
        refine c_icmp_le (tgt := 81) C ⟨by omega, by omega⟩ ⟨by decide, by decide⟩ dX11_addText_71 (by decide) (fun c2 => ?_) (fun c2 => ?_)
        · refine c_aload_n (j := 1) (x := a0) C dX11_addText_81 rfl ?_
          refine c_getr (k := 0) C ck_12 dX11_addText_82 w2_44 (by decide) ty1 rfl rfl (by decide) rfl rq1 ?_
          refine c_st (st2 := [.ref (sk 2)]) rfl ?_
          refine c_get (k := 2) C ck_2 dX11_addText_85 w1_44 (by decide) ty2 rfl rfl (by decide) rfl ?_
          refine c_if_ne (tgt := 98) C ⟨by omega, by omega⟩ dX11_addText_88 (by decide) (fun c3 => ?_) (fun c3 => ?_)
          · refine c_aload_n (j := 1) (x := a0) C dX11_addText_98 rfl ?_
            refine c_getr (k := 1) C ck_12 dX11_addText_99 w2_45 (by decide) ty1 rfl rfl (by decide) rfl rq2 ?_
            refine c_st (st2 := [.ref (sk 3)]) rfl ?_
            refine c_aload_n (j := 1) (x := a0) C dX11_addText_102 rfl ?_
            refine c_getr (k := 0) C ck_12 dX11_addText_103 w2_44 (by decide) ty1 rfl rfl (by decide) rfl rq1 ?_
            refine c_st (st2 := [.ref (sk 2), .ref (sk 3)]) rfl ?_
            have pl1 := Phi.le Wb1 skb1
            refine d_callV (As := [.ref (sk 2)]) (rest := []) C hM (C_addAll_3 (a0 := (sk 3)) (a1 := (sk 2)) Wb1 skb1 ty3 ty2  ) dX11_addText_106 kV_X11_227 rfl ty3 rfl rfl (by decide) ck_2 rfl (Nat.le_of_ble_eq_true rfl) ⟨(Nat.le_of_ble_eq_true rfl), (Nat.le_of_ble_eq_true rfl)⟩ hph pl1 (show 0 + 0 = 0 from rfl) (by decide) (fun rh1 Lh1 clh1 lnh1 ivh1 rvh1 h1 => ?_)
            obtain ⟨rfl, xl1, fl1, W1, exf1⟩ := h1
            have F1 := Fb1.call Xb1 fl1 rfl
            have ty4 := Xb1.ty tsk4
            have ty5 := Xb1.ty tsk5
            have ty6 := Xb1.ty tsk13
            have ty7 := Xb1.ty tsk14
            have ty8 := Xb1.ty tsk15
            have ty9 := Xb1.ty tsk16
            have ty10 := Xb1.ty tsk17
            have ty11 := Xb1.ty tsk22
            have ty12 := Xb1.ty tsk23
            have X1 := Xb1.trans xl1
            have sk1 := xl1.skl skb1
            refine c_st (st2 := []) rfl ?_
            have ty13 := xl1.ty ty3
            have ri5 : 0 ≤ ivh1 (sk 3) 2 ∧ ivh1 (sk 3) 2 ≤ 500 := W1.int ty13 2
            have gf1 : ivh1 (sk 3) 2 = min (ivb1 (sk 3) 2 + ivb1 (sk 2) 2) 500 ∧ APD ivb1 rvb1 (sk 3) (sk 2) ivh1 rvh1 := exf1
            refine c_aload_n (j := 1) (x := a0) C dX11_addText_109 rfl ?_
            refine c_aload_n (j := 1) (x := a0) C dX11_addText_110 rfl ?_
            have ty14 := xl1.ty ty1
            have re1 : rvh1 a0 1 = rvb1 a0 1 := (fl1.r ty1 rfl 1)
            rw [rq2] at re1
            refine c_getr (k := 1) C ck_12 dX11_addText_111 w2_45 (by decide) ty14 rfl rfl (by decide) rfl re1 ?_
            refine c_st (st2 := [.ref (sk 3), .ref a0]) rfl ?_
            refine c_get (k := 2) C ck_2 dX11_addText_114 w1_44 (by decide) ty13 rfl rfl (by decide) rfl ?_
            have pl2 := Phi.le W1 sk1
            refine d_callV (As := [.int (iI (ivh1 (sk 3) 2))]) (rest := []) C hM (C_done (a0 := a0) (x := ivh1 (sk 3) 2) W1 sk1 ty14 (by omega) ) dX11_addText_117 kV_X11_109 rfl ty14 rfl rfl (by decide) ck_12 rfl (Nat.le_of_ble_eq_true rfl) ⟨(Nat.le_of_ble_eq_true rfl), (Nat.le_of_ble_eq_true rfl)⟩ hph pl2 (show 0 + 0 = 0 from rfl) (by decide) (fun rh2 Lh2 clh2 lnh2 ivh2 rvh2 h2 => ?_)
            obtain ⟨f2, rfl, rfl, rfl, rfl, rfl, fl2, W2, rgf2, exf2, kp11f2, kp12f2, kp13f2, kp14f2, kp15f2, kp16f2⟩ := h2
            have ri6 : 1 ≤ ivh1 a0 11 ∧ ivh1 a0 11 ≤ 100 := W1.int ty14 11
            have ie4 : ivh1 a0 11 = ivb1 a0 11 := fl1.i ty1 rfl 11
            have ri7 : 1 ≤ ivh1 a0 12 ∧ ivh1 a0 12 ≤ 50 := W1.int ty14 12
            have ie6 : ivh1 a0 12 = ivb1 a0 12 := fl1.i ty1 rfl 12
            have ri8 : (-2147483648) ≤ ivh1 a0 13 ∧ ivh1 a0 13 ≤ 2147483647 := W1.int ty14 13
            have ie8 : ivh1 a0 13 = ivb1 a0 13 := fl1.i ty1 rfl 13
            have ri9 : (-2147483648) ≤ ivh1 a0 14 ∧ ivh1 a0 14 ≤ 2147483647 := W1.int ty14 14
            have ie10 : ivh1 a0 14 = ivb1 a0 14 := fl1.i ty1 rfl 14
            have ri10 : (-2147483648) ≤ ivh1 a0 15 ∧ ivh1 a0 15 ≤ 2147483647 := W1.int ty14 15
            have ie12 : ivh1 a0 15 = ivb1 a0 15 := fl1.i ty1 rfl 15
            have ri11 : (-2147483648) ≤ ivh1 a0 16 ∧ ivh1 a0 16 ≤ 2147483647 := W1.int ty14 16
            have ie14 : ivh1 a0 16 = ivb1 a0 16 := fl1.i ty1 rfl 16
            have F2 := F1.call X1 fl2 rfl
            refine c_st (st2 := [.int (iI f2)]) rfl ?_
            have gk11f2 : ivh2 a0 11 = ivh1 a0 11 := kp11f2
            have gk12f2 : ivh2 a0 12 = ivh1 a0 12 := kp12f2
            have gk13f2 : ivh2 a0 13 = ivh1 a0 13 := kp13f2
            have gk14f2 : ivh2 a0 14 = ivh1 a0 14 := kp14f2
            have gk15f2 : ivh2 a0 15 = ivh1 a0 15 := kp15f2
            have gk16f2 : ivh2 a0 16 = ivh1 a0 16 := kp16f2
            have gf2 : f2 = (ivh1 (sk 3) 2) := exf2
            have ri12 : 1 ≤ ivh2 a0 11 ∧ ivh2 a0 11 ≤ 100 := W2.int ty14 11
            have ri13 : 1 ≤ ivh2 a0 12 ∧ ivh2 a0 12 ≤ 50 := W2.int ty14 12
            have ri14 : (-2147483648) ≤ ivh2 a0 13 ∧ ivh2 a0 13 ≤ 2147483647 := W2.int ty14 13
            have ri15 : (-2147483648) ≤ ivh2 a0 14 ∧ ivh2 a0 14 ≤ 2147483647 := W2.int ty14 14
            have ri16 : (-2147483648) ≤ ivh2 a0 15 ∧ ivh2 a0 15 ≤ 2147483647 := W2.int ty14 15
            have ri17 : (-2147483648) ≤ ivh2 a0 16 ∧ ivh2 a0 16 ≤ 2147483647 := W2.int ty14 16
            have ri18 : 0 ≤ ivh2 (sk 3) 2 ∧ ivh2 (sk 3) 2 ≤ 500 := W2.int ty13 2
            have ie22 : ivh2 (sk 3) 2 = ivh1 (sk 3) 2 := fl2.i ty13 rfl 2
            have ty15 := xl1.ty ty2
            have ri19 : 0 ≤ ivh2 (sk 2) 2 ∧ ivh2 (sk 2) 2 ≤ 3000 := W2.int ty15 2
            have ie23 : ivh2 (sk 2) 2 = ivh1 (sk 2) 2 := fl2.i ty15 rfl 2
            have ie24 : ivh1 (sk 2) 2 = ivb1 (sk 2) 2 := fl1.i ty2 rfl 2
            exact c_iret C dX11_addText_120 rfl (by decide) (rom0 hph pl2 (by decide)) ⟨f2, rfl, X1, F2, W2, ⟨by omega, by omega⟩, (fun ss hs => Or.inr ⟨by omega, fun j hj => htk ss hs j (by omega), by omega, by omega⟩), (by omega), (by omega), (by omega), (by omega), (by omega), (by omega), (fun ss tt hs ht => ⟨fun q => absurd q (by omega), fun _ => by
                have q := gf1.2 ss tt (CT.fr hs hW tsk2 Fb1 rfl rfl rfl rfl rfl) (hc3 tt ht) (by omega)
                rw [show ivb1 (sk 3) 2 = iv (sk 3) 2 by omega] at q
                exact CT.fr (q) W1 ty13 fl2 rfl rfl rfl rfl rfl⟩), (Eq.trans (show rvh1 a0 9 = rvb1 a0 9 from (fl1.r ty1 rfl 9)) (show rvb1 a0 9 = rv a0 9 from hkr9)), (Eq.trans (show rvh1 a0 10 = rvb1 a0 10 from (fl1.r ty1 rfl 10)) (show rvb1 a0 10 = rv a0 10 from hkr10))⟩
          · refine c_aload_n (j := 1) (x := a0) C dX11_addText_91 rfl ?_
            refine c_getr (k := 1) C ck_12 dX11_addText_92 w2_45 (by decide) ty1 rfl rfl (by decide) rfl rq2 ?_
            refine c_st (st2 := [.ref (sk 3)]) rfl ?_
            have pl3 := Phi.le Wb1 skb1
            refine d_callV (As := []) (rest := []) C hM (C_clear_3 (a0 := (sk 3)) Wb1 skb1 ty3  ) dX11_addText_95 kV_X11_164 rfl ty3 rfl rfl (by decide) ck_2 rfl (Nat.le_of_ble_eq_true rfl) ⟨(Nat.le_of_ble_eq_true rfl), (Nat.le_of_ble_eq_true rfl)⟩ hph pl3 (show 0 + 0 = 0 from rfl) (by decide) (fun rh3 Lh3 clh3 lnh3 ivh3 rvh3 h3 => ?_)
            obtain ⟨rfl, rfl, rfl, rfl, rfl, fl3, W3, exf3⟩ := h3
            have F3 := Fb1.call Xb1 fl3 rfl
            refine c_st (st2 := []) rfl ?_
            have ri20 : 0 ≤ ivh3 (sk 3) 2 ∧ ivh3 (sk 3) 2 ≤ 500 := W3.int ty3 2
            have gf3 : ivh3 (sk 3) 2 = 0 := exf3
            refine c_aload_n (j := 1) (x := a0) C dX11_addText_98 rfl ?_
            refine c_getr (k := 1) C ck_12 dX11_addText_99 w2_45 (by decide) ty1 rfl rfl (by decide) rfl rq2 ?_
            refine c_st (st2 := [.ref (sk 3)]) rfl ?_
            refine c_aload_n (j := 1) (x := a0) C dX11_addText_102 rfl ?_
            refine c_getr (k := 0) C ck_12 dX11_addText_103 w2_44 (by decide) ty1 rfl rfl (by decide) rfl rq1 ?_
            refine c_st (st2 := [.ref (sk 2), .ref (sk 3)]) rfl ?_
            have ri21 : 0 ≤ ivh3 (sk 2) 2 ∧ ivh3 (sk 2) 2 ≤ 3000 := W3.int ty2 2
            have ie26 : ivh3 (sk 2) 2 = ivb1 (sk 2) 2 := fl3.i ty2 rfl 2
            refine d_callV (As := [.ref (sk 2)]) (rest := []) C hM (C_addAll_3 (a0 := (sk 3)) (a1 := (sk 2)) W3 skb1 ty3 ty2  ) dX11_addText_106 kV_X11_227 rfl ty3 rfl rfl (by decide) ck_2 rfl (Nat.le_of_ble_eq_true rfl) ⟨(Nat.le_of_ble_eq_true rfl), (Nat.le_of_ble_eq_true rfl)⟩ hph pl3 (show 0 + 0 = 0 from rfl) (by decide) (fun rh4 Lh4 clh4 lnh4 ivh4 rvh4 h4 => ?_)
            obtain ⟨rfl, xl4, fl4, W4, exf4⟩ := h4
            have F4 := F3.call Xb1 fl4 rfl
            have ty16 := Xb1.ty tsk4
            have ty17 := Xb1.ty tsk5
            have ty18 := Xb1.ty tsk13
            have ty19 := Xb1.ty tsk14
            have ty20 := Xb1.ty tsk15
            have ty21 := Xb1.ty tsk16
            have ty22 := Xb1.ty tsk17
            have ty23 := Xb1.ty tsk22
            have ty24 := Xb1.ty tsk23
            have X2 := Xb1.trans xl4
            have sk2 := xl4.skl skb1
            refine c_st (st2 := []) rfl ?_
            have ty25 := xl4.ty ty3
            have ri22 : 0 ≤ ivh4 (sk 3) 2 ∧ ivh4 (sk 3) 2 ≤ 500 := W4.int ty25 2
            have gf4 : ivh4 (sk 3) 2 = min (ivh3 (sk 3) 2 + ivh3 (sk 2) 2) 500 ∧ APD ivh3 rvb1 (sk 3) (sk 2) ivh4 rvh4 := exf4
            refine c_aload_n (j := 1) (x := a0) C dX11_addText_109 rfl ?_
            refine c_aload_n (j := 1) (x := a0) C dX11_addText_110 rfl ?_
            have ty26 := xl4.ty ty1
            have re2 : rvh4 a0 1 = rvb1 a0 1 := (fl4.r ty1 rfl 1)
            rw [rq2] at re2
            refine c_getr (k := 1) C ck_12 dX11_addText_111 w2_45 (by decide) ty26 rfl rfl (by decide) rfl re2 ?_
            refine c_st (st2 := [.ref (sk 3), .ref a0]) rfl ?_
            refine c_get (k := 2) C ck_2 dX11_addText_114 w1_44 (by decide) ty25 rfl rfl (by decide) rfl ?_
            have pl4 := Phi.le W4 sk2
            refine d_callV (As := [.int (iI (ivh4 (sk 3) 2))]) (rest := []) C hM (C_done (a0 := a0) (x := ivh4 (sk 3) 2) W4 sk2 ty26 (by omega) ) dX11_addText_117 kV_X11_109 rfl ty26 rfl rfl (by decide) ck_12 rfl (Nat.le_of_ble_eq_true rfl) ⟨(Nat.le_of_ble_eq_true rfl), (Nat.le_of_ble_eq_true rfl)⟩ hph pl4 (show 0 + 0 = 0 from rfl) (by decide) (fun rh5 Lh5 clh5 lnh5 ivh5 rvh5 h5 => ?_)
            obtain ⟨f5, rfl, rfl, rfl, rfl, rfl, fl5, W5, rgf5, exf5, kp11f5, kp12f5, kp13f5, kp14f5, kp15f5, kp16f5⟩ := h5
            have ri23 : 1 ≤ ivh4 a0 11 ∧ ivh4 a0 11 ≤ 100 := W4.int ty26 11
            have ie28 : ivh4 a0 11 = ivh3 a0 11 := fl4.i ty1 rfl 11
            have ie29 : ivh3 a0 11 = ivb1 a0 11 := fl3.i ty1 rfl 11
            have ri24 : 1 ≤ ivh4 a0 12 ∧ ivh4 a0 12 ≤ 50 := W4.int ty26 12
            have ie31 : ivh4 a0 12 = ivh3 a0 12 := fl4.i ty1 rfl 12
            have ie32 : ivh3 a0 12 = ivb1 a0 12 := fl3.i ty1 rfl 12
            have ri25 : (-2147483648) ≤ ivh4 a0 13 ∧ ivh4 a0 13 ≤ 2147483647 := W4.int ty26 13
            have ie34 : ivh4 a0 13 = ivh3 a0 13 := fl4.i ty1 rfl 13
            have ie35 : ivh3 a0 13 = ivb1 a0 13 := fl3.i ty1 rfl 13
            have ri26 : (-2147483648) ≤ ivh4 a0 14 ∧ ivh4 a0 14 ≤ 2147483647 := W4.int ty26 14
            have ie37 : ivh4 a0 14 = ivh3 a0 14 := fl4.i ty1 rfl 14
            have ie38 : ivh3 a0 14 = ivb1 a0 14 := fl3.i ty1 rfl 14
            have ri27 : (-2147483648) ≤ ivh4 a0 15 ∧ ivh4 a0 15 ≤ 2147483647 := W4.int ty26 15
            have ie40 : ivh4 a0 15 = ivh3 a0 15 := fl4.i ty1 rfl 15
            have ie41 : ivh3 a0 15 = ivb1 a0 15 := fl3.i ty1 rfl 15
            have ri28 : (-2147483648) ≤ ivh4 a0 16 ∧ ivh4 a0 16 ≤ 2147483647 := W4.int ty26 16
            have ie43 : ivh4 a0 16 = ivh3 a0 16 := fl4.i ty1 rfl 16
            have ie44 : ivh3 a0 16 = ivb1 a0 16 := fl3.i ty1 rfl 16
            have F5 := F4.call X2 fl5 rfl
            refine c_st (st2 := [.int (iI f5)]) rfl ?_
            have gk11f5 : ivh5 a0 11 = ivh4 a0 11 := kp11f5
            have gk12f5 : ivh5 a0 12 = ivh4 a0 12 := kp12f5
            have gk13f5 : ivh5 a0 13 = ivh4 a0 13 := kp13f5
            have gk14f5 : ivh5 a0 14 = ivh4 a0 14 := kp14f5
            have gk15f5 : ivh5 a0 15 = ivh4 a0 15 := kp15f5
            have gk16f5 : ivh5 a0 16 = ivh4 a0 16 := kp16f5
            have gf5 : f5 = (ivh4 (sk 3) 2) := exf5
            have ri29 : 1 ≤ ivh5 a0 11 ∧ ivh5 a0 11 ≤ 100 := W5.int ty26 11
            have ri30 : 1 ≤ ivh5 a0 12 ∧ ivh5 a0 12 ≤ 50 := W5.int ty26 12
            have ri31 : (-2147483648) ≤ ivh5 a0 13 ∧ ivh5 a0 13 ≤ 2147483647 := W5.int ty26 13
            have ri32 : (-2147483648) ≤ ivh5 a0 14 ∧ ivh5 a0 14 ≤ 2147483647 := W5.int ty26 14
            have ri33 : (-2147483648) ≤ ivh5 a0 15 ∧ ivh5 a0 15 ≤ 2147483647 := W5.int ty26 15
            have ri34 : (-2147483648) ≤ ivh5 a0 16 ∧ ivh5 a0 16 ≤ 2147483647 := W5.int ty26 16
            have ri35 : 0 ≤ ivh5 (sk 3) 2 ∧ ivh5 (sk 3) 2 ≤ 500 := W5.int ty25 2
            have ie52 : ivh5 (sk 3) 2 = ivh4 (sk 3) 2 := fl5.i ty25 rfl 2
            have ty27 := xl4.ty ty2
            have ri36 : 0 ≤ ivh5 (sk 2) 2 ∧ ivh5 (sk 2) 2 ≤ 3000 := W5.int ty27 2
            have ie53 : ivh5 (sk 2) 2 = ivh4 (sk 2) 2 := fl5.i ty27 rfl 2
            have ie54 : ivh4 (sk 2) 2 = ivh3 (sk 2) 2 := fl4.i ty2 rfl 2
            exact c_iret C dX11_addText_120 rfl (by decide) (rom0 hph pl4 (by decide)) ⟨f5, rfl, X2, F5, W5, ⟨by omega, by omega⟩, (fun ss hs => Or.inr ⟨by omega, fun j hj => htk ss hs j (by omega), by omega, by omega⟩), (by omega), (by omega), (by omega), (by omega), (by omega), (by omega), (fun ss tt hs ht => ⟨fun q => absurd q (by omega), fun _ => CT.zero (by omega)⟩), (Eq.trans (show rvh4 a0 9 = rvb1 a0 9 from (fl4.r ty1 rfl 9)) (show rvb1 a0 9 = rv a0 9 from hkr9)), (Eq.trans (show rvh4 a0 10 = rvb1 a0 10 from (fl4.r ty1 rfl 10)) (show rvb1 a0 10 = rv a0 10 from hkr10))⟩
        · refine c_aload_n (j := 1) (x := a0) C dX11_addText_74 rfl ?_
          refine c_bipush (z := 6) C dX11_addText_75 (by decide) ?_
          have pl5 := Phi.le Wb1 skb1
          refine d_callV (As := [.int (iI 6)]) (rest := []) C hM (C_refuse (a0 := a0) (x := 6) Wb1 skb1 ty1 ⟨by decide, by decide⟩ ) dX11_addText_77 kV_X11_102 rfl ty1 rfl rfl (by decide) ck_12 rfl (Nat.le_of_ble_eq_true rfl) ⟨(Nat.le_of_ble_eq_true rfl), (Nat.le_of_ble_eq_true rfl)⟩ hph pl5 (show 0 + 0 = 0 from rfl) (by decide) (fun rh6 Lh6 clh6 lnh6 ivh6 rvh6 h6 => ?_)
          obtain ⟨f6, rfl, rfl, rfl, rfl, rfl, fl6, W6, rgf6, exf6, kp11f6, kp12f6, kp13f6, kp14f6, kp15f6, kp16f6⟩ := h6
          have ri37 : 1 ≤ ivb1 a0 11 ∧ ivb1 a0 11 ≤ 100 := Wb1.int ty1 11
          have ri38 : 1 ≤ ivb1 a0 12 ∧ ivb1 a0 12 ≤ 50 := Wb1.int ty1 12
          have ri39 : (-2147483648) ≤ ivb1 a0 13 ∧ ivb1 a0 13 ≤ 2147483647 := Wb1.int ty1 13
          have ri40 : (-2147483648) ≤ ivb1 a0 14 ∧ ivb1 a0 14 ≤ 2147483647 := Wb1.int ty1 14
          have ri41 : (-2147483648) ≤ ivb1 a0 15 ∧ ivb1 a0 15 ≤ 2147483647 := Wb1.int ty1 15
          have ri42 : (-2147483648) ≤ ivb1 a0 16 ∧ ivb1 a0 16 ≤ 2147483647 := Wb1.int ty1 16
          have F6 := Fb1.call Xb1 fl6 rfl
          refine c_st (st2 := [.int (iI f6)]) rfl ?_
          have gk11f6 : ivh6 a0 11 = ivb1 a0 11 := kp11f6
          have gk12f6 : ivh6 a0 12 = ivb1 a0 12 := kp12f6
          have gk13f6 : ivh6 a0 13 = ivb1 a0 13 := kp13f6
          have gk14f6 : ivh6 a0 14 = ivb1 a0 14 := kp14f6
          have gk15f6 : ivh6 a0 15 = ivb1 a0 15 := kp15f6
          have gk16f6 : ivh6 a0 16 = ivb1 a0 16 := kp16f6
          have gf6 : f6 = -1 := exf6
          have ri43 : 1 ≤ ivh6 a0 11 ∧ ivh6 a0 11 ≤ 100 := W6.int ty1 11
          have ri44 : 1 ≤ ivh6 a0 12 ∧ ivh6 a0 12 ≤ 50 := W6.int ty1 12
          have ri45 : (-2147483648) ≤ ivh6 a0 13 ∧ ivh6 a0 13 ≤ 2147483647 := W6.int ty1 13
          have ri46 : (-2147483648) ≤ ivh6 a0 14 ∧ ivh6 a0 14 ≤ 2147483647 := W6.int ty1 14
          have ri47 : (-2147483648) ≤ ivh6 a0 15 ∧ ivh6 a0 15 ≤ 2147483647 := W6.int ty1 15
          have ri48 : (-2147483648) ≤ ivh6 a0 16 ∧ ivh6 a0 16 ≤ 2147483647 := W6.int ty1 16
          have ri49 : 0 ≤ ivh6 (sk 3) 2 ∧ ivh6 (sk 3) 2 ≤ 500 := W6.int ty3 2
          have ie67 : ivh6 (sk 3) 2 = ivb1 (sk 3) 2 := fl6.i ty3 rfl 2
          have ri50 : 0 ≤ ivh6 (sk 2) 2 ∧ ivh6 (sk 2) 2 ≤ 3000 := W6.int ty2 2
          have ie68 : ivh6 (sk 2) 2 = ivb1 (sk 2) 2 := fl6.i ty2 rfl 2
          exact c_iret C dX11_addText_80 rfl (by decide) (rom0 hph pl5 (by decide)) ⟨f6, rfl, Xb1, F6, W6, ⟨by omega, by omega⟩, (fun ss hs => Or.inl ⟨by omega, by omega, fun q => absurd q.2 (by omega)⟩), (by omega), (by omega), (by omega), (by omega), (by omega), (by omega), (fun ss tt hs ht => ⟨fun _ => CT.fr (hc3 tt ht) Wb1 ty3 fl6 rfl rfl rfl rfl rfl, fun q => absurd (by omega) q⟩), (show rvb1 a0 9 = rv a0 9 from hkr9), (show rvb1 a0 10 = rv a0 10 from hkr10)⟩
      · refine c_aload_n (j := 1) (x := a0) C dX11_addText_13 rfl ?_
        refine c_getr (k := 0) C ck_12 dX11_addText_14 w2_44 (by decide) ty1 rfl rfl (by decide) rfl rq1 ?_
        refine c_st (st2 := [.ref (sk 2)]) rfl ?_
        refine c_iload_n (j := 0) C dX11_addText_17 rfl ?_
        have pl6 := Phi.le Wb1 skb1
        refine d_callV (As := [.int (iI k)]) (rest := []) C hM (C_at_2 (a0 := (sk 2)) (i := k) Wb1 skb1 ty2 (by omega) ) dX11_addText_18 kV_X11_224 rfl ty2 rfl rfl (by decide) ck_2 rfl (Nat.le_of_ble_eq_true rfl) ⟨(Nat.le_of_ble_eq_true rfl), (Nat.le_of_ble_eq_true rfl)⟩ hph pl6 (show 0 + 0 = 0 from rfl) (by decide) (fun rh7 Lh7 clh7 lnh7 ivh7 rvh7 h7 => ?_)
        obtain ⟨f7, rfl, rfl, rfl, rfl, rfl, rfl, rgf7, exf7⟩ := h7
        refine c_st (st2 := [.int (iI f7)]) rfl ?_
        have gf7 : ((0 ≤ k ∧ k < ivb1 (sk 2) 2) ∨ f7 = 0) ∧ ∀ ss, CT ivb1 rvb1 (sk 2) ss → 0 ≤ k → k < ivb1 (sk 2) 2 → f7 = ss k.toNat := exf7
        refine c_istore_n (lv2 := [(2, .int (iI f7)), (1, .int (iI k)), (0, .ref a0)]) C dX11_addText_21 (by decide) rfl ?_
        refine c_iload_n (j := 0) C dX11_addText_22 rfl ?_
        refine c_bipush (z := 10) C dX11_addText_23 (by decide) ?_
        refine c_icmp_eq (tgt := 47) C ⟨by omega, by omega⟩ ⟨by decide, by decide⟩ dX11_addText_25 (by decide) (fun c4 => ?_) (fun c4 => ?_)
        · refine c_iinc (z := k) (j := 1) (lv2 := [(1, .int (iI (k + 1))), (2, .int (iI f7)), (0, .ref a0)]) C dX11_addText_47 rfl (by decide) rfl ?_
          refine c_goto (tgt := 2) C dX11_addText_50 (by decide) ?_
          have ty28 := Xb1.ty tsk3
          have ri51 : 0 ≤ ivb1 (sk 3) 2 ∧ ivb1 (sk 3) 2 ≤ 500 := Wb1.int ty28 2
          have ri52 : 1 ≤ ivb1 a0 11 ∧ ivb1 a0 11 ≤ 100 := Wb1.int ty1 11
          have ri53 : 1 ≤ ivb1 a0 12 ∧ ivb1 a0 12 ≤ 50 := Wb1.int ty1 12
          have ri54 : (-2147483648) ≤ ivb1 a0 13 ∧ ivb1 a0 13 ≤ 2147483647 := Wb1.int ty1 13
          have ri55 : (-2147483648) ≤ ivb1 a0 14 ∧ ivb1 a0 14 ≤ 2147483647 := Wb1.int ty1 14
          have ri56 : (-2147483648) ≤ ivb1 a0 15 ∧ ivb1 a0 15 ≤ 2147483647 := Wb1.int ty1 15
          have ri57 : (-2147483648) ≤ ivb1 a0 16 ∧ ivb1 a0 16 ≤ 2147483647 := Wb1.int ty1 16
          refine c_lv (lv2 := [(1, .int (iI (k + 1))), (0, .ref a0)]) [0, 2] rfl ?_
          exact ih1  (k + 1) _ _ _ _ _ (by omega) Xb1 Wb1 Fb1  (by omega) (by show ivb1 (sk 3) 2 = iv (sk 3) 2; omega) (fun ss hs => TOK.snoc (htk ss hs) (by omega) (by have e := gf7.2 ss (CT.fr hs hW tsk2 Fb1 rfl rfl rfl rfl rfl) (by omega) (by omega); rw [← e]; omega)) hc3 (by show ivb1 a0 11 = iv a0 11; omega) (by show ivb1 a0 12 = iv a0 12; omega) (by show ivb1 a0 13 = iv a0 13; omega) (by show ivb1 a0 14 = iv a0 14; omega) (by show ivb1 a0 15 = iv a0 15; omega) (by show ivb1 a0 16 = iv a0 16; omega) (show rvb1 a0 9 = rv a0 9 from hkr9) (show rvb1 a0 10 = rv a0 10 from hkr10)
        · refine c_iload_n (j := 0) C dX11_addText_28 rfl ?_
          refine c_bipush (z := 32) C dX11_addText_29 (by decide) ?_
          refine c_icmp_lt (tgt := 40) C ⟨by omega, by omega⟩ ⟨by decide, by decide⟩ dX11_addText_31 (by decide) (fun c5 => ?_) (fun c5 => ?_)
          · refine c_aload_n (j := 2) (x := a0) C dX11_addText_40 rfl ?_
            refine c_bipush (z := 6) C dX11_addText_41 (by decide) ?_
            have ty29 := Xb1.ty tsk3
            refine d_callV (As := [.int (iI 6)]) (rest := []) C hM (C_refuse (a0 := a0) (x := 6) Wb1 skb1 ty1 ⟨by decide, by decide⟩ ) dX11_addText_43 kV_X11_102 rfl ty1 rfl rfl (by decide) ck_12 rfl (Nat.le_of_ble_eq_true rfl) ⟨(Nat.le_of_ble_eq_true rfl), (Nat.le_of_ble_eq_true rfl)⟩ hph pl6 (show 0 + 0 = 0 from rfl) (by decide) (fun rh8 Lh8 clh8 lnh8 ivh8 rvh8 h8 => ?_)
            obtain ⟨f8, rfl, rfl, rfl, rfl, rfl, fl8, W8, rgf8, exf8, kp11f8, kp12f8, kp13f8, kp14f8, kp15f8, kp16f8⟩ := h8
            have ri58 : 1 ≤ ivb1 a0 11 ∧ ivb1 a0 11 ≤ 100 := Wb1.int ty1 11
            have ri59 : 1 ≤ ivb1 a0 12 ∧ ivb1 a0 12 ≤ 50 := Wb1.int ty1 12
            have ri60 : (-2147483648) ≤ ivb1 a0 13 ∧ ivb1 a0 13 ≤ 2147483647 := Wb1.int ty1 13
            have ri61 : (-2147483648) ≤ ivb1 a0 14 ∧ ivb1 a0 14 ≤ 2147483647 := Wb1.int ty1 14
            have ri62 : (-2147483648) ≤ ivb1 a0 15 ∧ ivb1 a0 15 ≤ 2147483647 := Wb1.int ty1 15
            have ri63 : (-2147483648) ≤ ivb1 a0 16 ∧ ivb1 a0 16 ≤ 2147483647 := Wb1.int ty1 16
            have F7 := Fb1.call Xb1 fl8 rfl
            refine c_st (st2 := [.int (iI f8)]) rfl ?_
            have gk11f8 : ivh8 a0 11 = ivb1 a0 11 := kp11f8
            have gk12f8 : ivh8 a0 12 = ivb1 a0 12 := kp12f8
            have gk13f8 : ivh8 a0 13 = ivb1 a0 13 := kp13f8
            have gk14f8 : ivh8 a0 14 = ivb1 a0 14 := kp14f8
            have gk15f8 : ivh8 a0 15 = ivb1 a0 15 := kp15f8
            have gk16f8 : ivh8 a0 16 = ivb1 a0 16 := kp16f8
            have gf8 : f8 = -1 := exf8
            have ri64 : 1 ≤ ivh8 a0 11 ∧ ivh8 a0 11 ≤ 100 := W8.int ty1 11
            have ri65 : 1 ≤ ivh8 a0 12 ∧ ivh8 a0 12 ≤ 50 := W8.int ty1 12
            have ri66 : (-2147483648) ≤ ivh8 a0 13 ∧ ivh8 a0 13 ≤ 2147483647 := W8.int ty1 13
            have ri67 : (-2147483648) ≤ ivh8 a0 14 ∧ ivh8 a0 14 ≤ 2147483647 := W8.int ty1 14
            have ri68 : (-2147483648) ≤ ivh8 a0 15 ∧ ivh8 a0 15 ≤ 2147483647 := W8.int ty1 15
            have ri69 : (-2147483648) ≤ ivh8 a0 16 ∧ ivh8 a0 16 ≤ 2147483647 := W8.int ty1 16
            have ri70 : 0 ≤ ivh8 (sk 3) 2 ∧ ivh8 (sk 3) 2 ≤ 500 := W8.int ty29 2
            have ie88 : ivh8 (sk 3) 2 = ivb1 (sk 3) 2 := fl8.i ty29 rfl 2
            have ri71 : 0 ≤ ivh8 (sk 2) 2 ∧ ivh8 (sk 2) 2 ≤ 3000 := W8.int ty2 2
            have ie90 : ivh8 (sk 2) 2 = ivb1 (sk 2) 2 := fl8.i ty2 rfl 2
            exact c_iret C dX11_addText_46 rfl (by decide) (rom0 hph pl6 (by decide)) ⟨f8, rfl, Xb1, F7, W8, ⟨by omega, by omega⟩, (fun ss hs => Or.inl ⟨by omega, by omega, fun q => absurd (q.1 k.toNat (by omega)) (by have e := gf7.2 ss (CT.fr hs hW tsk2 Fb1 rfl rfl rfl rfl rfl) (by omega) (by omega); rw [← e]; omega)⟩), (by omega), (by omega), (by omega), (by omega), (by omega), (by omega), (fun ss tt hs ht => ⟨fun _ => CT.fr (hc3 tt ht) Wb1 ty29 fl8 rfl rfl rfl rfl rfl, fun q => absurd (by omega) q⟩), (show rvb1 a0 9 = rv a0 9 from hkr9), (show rvb1 a0 10 = rv a0 10 from hkr10)⟩
          · refine c_iload_n (j := 0) C dX11_addText_34 rfl ?_
            refine c_bipush (z := 126) C dX11_addText_35 (by decide) ?_
            refine c_icmp_le (tgt := 47) C ⟨by omega, by omega⟩ ⟨by decide, by decide⟩ dX11_addText_37 (by decide) (fun c6 => ?_) (fun c6 => ?_)
            · refine c_iinc (z := k) (j := 1) (lv2 := [(1, .int (iI (k + 1))), (2, .int (iI f7)), (0, .ref a0)]) C dX11_addText_47 rfl (by decide) rfl ?_
              refine c_goto (tgt := 2) C dX11_addText_50 (by decide) ?_
              have ty30 := Xb1.ty tsk3
              have ri72 : 0 ≤ ivb1 (sk 3) 2 ∧ ivb1 (sk 3) 2 ≤ 500 := Wb1.int ty30 2
              have ri73 : 1 ≤ ivb1 a0 11 ∧ ivb1 a0 11 ≤ 100 := Wb1.int ty1 11
              have ri74 : 1 ≤ ivb1 a0 12 ∧ ivb1 a0 12 ≤ 50 := Wb1.int ty1 12
              have ri75 : (-2147483648) ≤ ivb1 a0 13 ∧ ivb1 a0 13 ≤ 2147483647 := Wb1.int ty1 13
              have ri76 : (-2147483648) ≤ ivb1 a0 14 ∧ ivb1 a0 14 ≤ 2147483647 := Wb1.int ty1 14
              have ri77 : (-2147483648) ≤ ivb1 a0 15 ∧ ivb1 a0 15 ≤ 2147483647 := Wb1.int ty1 15
              have ri78 : (-2147483648) ≤ ivb1 a0 16 ∧ ivb1 a0 16 ≤ 2147483647 := Wb1.int ty1 16
              refine c_lv (lv2 := [(1, .int (iI (k + 1))), (0, .ref a0)]) [0, 2] rfl ?_
              exact ih1  (k + 1) _ _ _ _ _ (by omega) Xb1 Wb1 Fb1  (by omega) (by show ivb1 (sk 3) 2 = iv (sk 3) 2; omega) (fun ss hs => TOK.snoc (htk ss hs) (by omega) (by have e := gf7.2 ss (CT.fr hs hW tsk2 Fb1 rfl rfl rfl rfl rfl) (by omega) (by omega); rw [← e]; omega)) hc3 (by show ivb1 a0 11 = iv a0 11; omega) (by show ivb1 a0 12 = iv a0 12; omega) (by show ivb1 a0 13 = iv a0 13; omega) (by show ivb1 a0 14 = iv a0 14; omega) (by show ivb1 a0 15 = iv a0 15; omega) (by show ivb1 a0 16 = iv a0 16; omega) (show rvb1 a0 9 = rv a0 9 from hkr9) (show rvb1 a0 10 = rv a0 10 from hkr10)
            · refine c_aload_n (j := 2) (x := a0) C dX11_addText_40 rfl ?_
              refine c_bipush (z := 6) C dX11_addText_41 (by decide) ?_
              have ty31 := Xb1.ty tsk3
              refine d_callV (As := [.int (iI 6)]) (rest := []) C hM (C_refuse (a0 := a0) (x := 6) Wb1 skb1 ty1 ⟨by decide, by decide⟩ ) dX11_addText_43 kV_X11_102 rfl ty1 rfl rfl (by decide) ck_12 rfl (Nat.le_of_ble_eq_true rfl) ⟨(Nat.le_of_ble_eq_true rfl), (Nat.le_of_ble_eq_true rfl)⟩ hph pl6 (show 0 + 0 = 0 from rfl) (by decide) (fun rh9 Lh9 clh9 lnh9 ivh9 rvh9 h9 => ?_)
              obtain ⟨f9, rfl, rfl, rfl, rfl, rfl, fl9, W9, rgf9, exf9, kp11f9, kp12f9, kp13f9, kp14f9, kp15f9, kp16f9⟩ := h9
              have ri79 : 1 ≤ ivb1 a0 11 ∧ ivb1 a0 11 ≤ 100 := Wb1.int ty1 11
              have ri80 : 1 ≤ ivb1 a0 12 ∧ ivb1 a0 12 ≤ 50 := Wb1.int ty1 12
              have ri81 : (-2147483648) ≤ ivb1 a0 13 ∧ ivb1 a0 13 ≤ 2147483647 := Wb1.int ty1 13
              have ri82 : (-2147483648) ≤ ivb1 a0 14 ∧ ivb1 a0 14 ≤ 2147483647 := Wb1.int ty1 14
              have ri83 : (-2147483648) ≤ ivb1 a0 15 ∧ ivb1 a0 15 ≤ 2147483647 := Wb1.int ty1 15
              have ri84 : (-2147483648) ≤ ivb1 a0 16 ∧ ivb1 a0 16 ≤ 2147483647 := Wb1.int ty1 16
              have F8 := Fb1.call Xb1 fl9 rfl
              refine c_st (st2 := [.int (iI f9)]) rfl ?_
              have gk11f9 : ivh9 a0 11 = ivb1 a0 11 := kp11f9
              have gk12f9 : ivh9 a0 12 = ivb1 a0 12 := kp12f9
              have gk13f9 : ivh9 a0 13 = ivb1 a0 13 := kp13f9
              have gk14f9 : ivh9 a0 14 = ivb1 a0 14 := kp14f9
              have gk15f9 : ivh9 a0 15 = ivb1 a0 15 := kp15f9
              have gk16f9 : ivh9 a0 16 = ivb1 a0 16 := kp16f9
              have gf9 : f9 = -1 := exf9
              have ri85 : 1 ≤ ivh9 a0 11 ∧ ivh9 a0 11 ≤ 100 := W9.int ty1 11
              have ri86 : 1 ≤ ivh9 a0 12 ∧ ivh9 a0 12 ≤ 50 := W9.int ty1 12
              have ri87 : (-2147483648) ≤ ivh9 a0 13 ∧ ivh9 a0 13 ≤ 2147483647 := W9.int ty1 13
              have ri88 : (-2147483648) ≤ ivh9 a0 14 ∧ ivh9 a0 14 ≤ 2147483647 := W9.int ty1 14
              have ri89 : (-2147483648) ≤ ivh9 a0 15 ∧ ivh9 a0 15 ≤ 2147483647 := W9.int ty1 15
              have ri90 : (-2147483648) ≤ ivh9 a0 16 ∧ ivh9 a0 16 ≤ 2147483647 := W9.int ty1 16
              have ri91 : 0 ≤ ivh9 (sk 3) 2 ∧ ivh9 (sk 3) 2 ≤ 500 := W9.int ty31 2
              have ie110 : ivh9 (sk 3) 2 = ivb1 (sk 3) 2 := fl9.i ty31 rfl 2
              have ri92 : 0 ≤ ivh9 (sk 2) 2 ∧ ivh9 (sk 2) 2 ≤ 3000 := W9.int ty2 2
              have ie112 : ivh9 (sk 2) 2 = ivb1 (sk 2) 2 := fl9.i ty2 rfl 2
              exact c_iret C dX11_addText_46 rfl (by decide) (rom0 hph pl6 (by decide)) ⟨f9, rfl, Xb1, F8, W9, ⟨by omega, by omega⟩, (fun ss hs => Or.inl ⟨by omega, by omega, fun q => absurd (q.1 k.toNat (by omega)) (by have e := gf7.2 ss (CT.fr hs hW tsk2 Fb1 rfl rfl rfl rfl rfl) (by omega) (by omega); rw [← e]; omega)⟩), (by omega), (by omega), (by omega), (by omega), (by omega), (by omega), (fun ss tt hs ht => ⟨fun _ => CT.fr (hc3 tt ht) Wb1 ty31 fl9 rfl rfl rfl rfl rfl, fun q => absurd (by omega) q⟩), (show rvb1 a0 9 = rv a0 9 from hkr9), (show rvb1 a0 10 = rv a0 10 from hkr10)⟩
  have ri93 : 1 ≤ iv a0 11 ∧ iv a0 11 ≤ 100 := hW.int t_a0 11
  have ri94 : 1 ≤ iv a0 12 ∧ iv a0 12 ≤ 50 := hW.int t_a0 12
  have ri95 : (-2147483648) ≤ iv a0 13 ∧ iv a0 13 ≤ 2147483647 := hW.int t_a0 13
  have ri96 : (-2147483648) ≤ iv a0 14 ∧ iv a0 14 ≤ 2147483647 := hW.int t_a0 14
  have ri97 : (-2147483648) ≤ iv a0 15 ∧ iv a0 15 ≤ 2147483647 := hW.int t_a0 15
  have ri98 : (-2147483648) ≤ iv a0 16 ∧ iv a0 16 ≤ 2147483647 := hW.int t_a0 16
  refine c_lv (lv2 := [(1, .int (iI 0)), (0, .ref a0)]) [0, 1] rfl ?_
  exact Lp1 3003 0 _ _ _ _ _ (by omega) hX0 hW hF0  (by omega) (by show iv (sk 3) 2 = iv (sk 3) 2; omega) (fun ss hs => TOK.zero) (fun tt ht => ht) (by show iv a0 11 = iv a0 11; omega) (by show iv a0 12 = iv a0 12; omega) (by show iv a0 13 = iv a0 13; omega) (by show iv a0 14 = iv a0 14; omega) (by show iv a0 15 = iv a0 15; omega) (by show iv a0 16 = iv a0 16; omega) rfl rfl
set_option maxHeartbeats 4000000 in
set_option maxRecDepth 100000 in
theorem C_text {l : Launch} {G : GT} {mi : Nat} {sk : Nat → Nat} {L : List Nat} {cl ln : Nat → Nat} {iv : Nat → Nat → Int} {rv : Nat → Nat → Option Nat}  {a0 : Nat} (hW : WT (g0 G) sk L cl ln iv rv) (hS : SKL sk L cl) (t_a0 : ty L cl a0 1)  : Mc l G mi (Phi (g0 G) sk) PHM yX11_text cX11_text 2 (some .int) 5 [.ref a0] L cl ln iv rv 0 (fun v L2 cl2 ln2 iv2 rv2 => ∃ f : Int, v = some (.int (iI f)) ∧ XT L cl ln L2 cl2 ln2 ∧ fT [1, 2, 3, 33] L cl iv rv iv2 rv2 ∧ WT (g0 G) sk L2 cl2 ln2 iv2 rv2 ∧ (-2147483648 ≤ f ∧ f ≤ 2147483647) ∧ (∀ ss, CT iv rv (sk 2) ss → ((f = -1 ∧ iv2 (sk 3) 2 = iv (sk 3) 2 ∧ ¬ (TOK ss (iv (sk 2) 2) ∧ iv (sk 3) 2 + iv (sk 2) 2 ≤ 500)) ∨ (f = iv2 (sk 3) 2 ∧ TOK ss (iv (sk 2) 2) ∧ iv (sk 3) 2 + iv (sk 2) 2 ≤ 500 ∧ ((iv (sk 2) 2 = 0 ∧ iv2 (sk 3) 2 = 0) ∨ (iv (sk 2) 2 ≠ 0 ∧ iv2 (sk 3) 2 = iv (sk 3) 2 + iv (sk 2) 2))))) ∧ iv2 a0 11 = iv a0 11 ∧ iv2 a0 12 = iv a0 12 ∧ iv2 a0 13 = iv a0 13 ∧ iv2 a0 14 = iv a0 14 ∧ iv2 a0 15 = iv a0 15 ∧ iv2 a0 16 = iv a0 16 ∧ iv2 (sk 2) 2 = 0 ∧ (∀ ss tt, CT iv rv (sk 2) ss → CT iv rv (sk 3) tt → (f = -1 → CT iv2 rv2 (sk 3) tt) ∧ (f ≠ -1 → CT iv2 rv2 (sk 3) (apd tt (iv (sk 3) 2).toNat ss))) ∧ rv2 a0 9 = rv a0 9 ∧ rv2 a0 10 = rv a0 10) := by
  refine Mc.mk (by decide) (Nat.le_of_ble_eq_true rfl) ?_
  intro p e s m args below meth c A C hM
  have hph := Phi.le hW hS
  have tsk2 : ty L cl (sk 2) 2 := ⟨(hS 2 rfl).1, by rw [(hS 2 rfl).2]; rfl⟩
  have tsk3 : ty L cl (sk 3) 3 := ⟨(hS 3 rfl).1, by rw [(hS 3 rfl).2]; rfl⟩
  have tsk4 : ty L cl (sk 4) 4 := ⟨(hS 4 rfl).1, by rw [(hS 4 rfl).2]; rfl⟩
  have tsk5 : ty L cl (sk 5) 5 := ⟨(hS 5 rfl).1, by rw [(hS 5 rfl).2]; rfl⟩
  have tsk13 : ty L cl (sk 13) 13 := ⟨(hS 13 rfl).1, by rw [(hS 13 rfl).2]; rfl⟩
  have tsk14 : ty L cl (sk 14) 14 := ⟨(hS 14 rfl).1, by rw [(hS 14 rfl).2]; rfl⟩
  have tsk15 : ty L cl (sk 15) 15 := ⟨(hS 15 rfl).1, by rw [(hS 15 rfl).2]; rfl⟩
  have tsk16 : ty L cl (sk 16) 16 := ⟨(hS 16 rfl).1, by rw [(hS 16 rfl).2]; rfl⟩
  have tsk17 : ty L cl (sk 17) 17 := ⟨(hS 17 rfl).1, by rw [(hS 17 rfl).2]; rfl⟩
  have tsk22 : ty L cl (sk 22) 22 := ⟨(hS 22 rfl).1, by rw [(hS 22 rfl).2]; rfl⟩
  have tsk23 : ty L cl (sk 23) 23 := ⟨(hS 23 rfl).1, by rw [(hS 23 rfl).2]; rfl⟩
  have hX0 : XT L cl ln L cl ln := XT.refl
  have hF0 : fT [1, 2, 3, 33] L cl iv rv iv rv := fT.refl
  refine c_aload_n (j := 0) (x := a0) C dX11_text_0 rfl ?_
  have ri1 : 0 ≤ iv (sk 3) 2 ∧ iv (sk 3) 2 ≤ 500 := hW.int tsk3 2
  have ri2 : 0 ≤ iv (sk 2) 2 ∧ iv (sk 2) 2 ≤ 3000 := hW.int tsk2 2
  refine d_callV (As := []) (rest := []) C hM (C_addText (a0 := a0) hW hS t_a0  ) dX11_text_1 kV_X11_221 rfl t_a0 rfl rfl (by decide) ck_12 rfl (Nat.le_of_ble_eq_true rfl) ⟨(Nat.le_of_ble_eq_true rfl), (Nat.le_of_ble_eq_true rfl)⟩ hph hph (show 0 + 0 = 0 from rfl) (by decide) (fun rh1 Lh1 clh1 lnh1 ivh1 rvh1 h1 => ?_)
  obtain ⟨f1, rfl, xl1, fl1, W1, rgf1, exf1, kp11f1, kp12f1, kp13f1, kp14f1, kp15f1, kp16f1, txkf1, kr9f1, kr10f1⟩ := h1
  have ri3 : 1 ≤ iv a0 11 ∧ iv a0 11 ≤ 100 := hW.int t_a0 11
  have ri4 : 1 ≤ iv a0 12 ∧ iv a0 12 ≤ 50 := hW.int t_a0 12
  have ri5 : (-2147483648) ≤ iv a0 13 ∧ iv a0 13 ≤ 2147483647 := hW.int t_a0 13
  have ri6 : (-2147483648) ≤ iv a0 14 ∧ iv a0 14 ≤ 2147483647 := hW.int t_a0 14
  have ri7 : (-2147483648) ≤ iv a0 15 ∧ iv a0 15 ≤ 2147483647 := hW.int t_a0 15
  have ri8 : (-2147483648) ≤ iv a0 16 ∧ iv a0 16 ≤ 2147483647 := hW.int t_a0 16
  have F1 := hF0.call hX0 fl1 rfl
  have X1 := hX0.trans xl1
  have sk1 := xl1.skl hS
  refine c_st (st2 := [.int (iI f1)]) rfl ?_
  have gk11f1 : ivh1 a0 11 = iv a0 11 := kp11f1
  have gk12f1 : ivh1 a0 12 = iv a0 12 := kp12f1
  have gk13f1 : ivh1 a0 13 = iv a0 13 := kp13f1
  have gk14f1 : ivh1 a0 14 = iv a0 14 := kp14f1
  have gk15f1 : ivh1 a0 15 = iv a0 15 := kp15f1
  have gk16f1 : ivh1 a0 16 = iv a0 16 := kp16f1
  have ty1 := xl1.ty tsk3
  have ri9 : 0 ≤ ivh1 (sk 3) 2 ∧ ivh1 (sk 3) 2 ≤ 500 := W1.int ty1 2
  have gf1 : ∀ ss, CT iv rv (sk 2) ss → ((f1 = -1 ∧ ivh1 (sk 3) 2 = iv (sk 3) 2 ∧ ¬ (TOK ss (iv (sk 2) 2) ∧ iv (sk 3) 2 + iv (sk 2) 2 ≤ 500)) ∨ (f1 = ivh1 (sk 3) 2 ∧ TOK ss (iv (sk 2) 2) ∧ iv (sk 3) 2 + iv (sk 2) 2 ≤ 500 ∧ ((iv (sk 2) 2 = 0 ∧ ivh1 (sk 3) 2 = 0) ∨ (iv (sk 2) 2 ≠ 0 ∧ ivh1 (sk 3) 2 = iv (sk 3) 2 + iv (sk 2) 2)))) := exf1
  refine c_istore_n (lv2 := [(1, .int (iI f1)), (0, .ref a0)]) C dX11_text_4 (by decide) rfl ?_
  refine c_aload_n (j := 1) (x := a0) C dX11_text_5 rfl ?_
  have ty2 := xl1.ty t_a0
  obtain ⟨rb1, rq1, trb1⟩ := W1.ref ty2 0 rfl rfl rfl
  have erb1 := W1.sk trb1 (by decide) rfl
  subst erb1
  refine c_getr (k := 0) C ck_12 dX11_text_6 w2_44 (by decide) ty2 rfl rfl (by decide) rfl rq1 ?_
  refine c_st (st2 := [.ref (sk 2)]) rfl ?_
  have ty3 := xl1.ty tsk2
  have pl1 := Phi.le W1 sk1
  refine d_callV (As := []) (rest := []) C hM (C_clear_2 (a0 := (sk 2)) W1 sk1 ty3  ) dX11_text_9 kV_X11_164 rfl ty3 rfl rfl (by decide) ck_2 rfl (Nat.le_of_ble_eq_true rfl) ⟨(Nat.le_of_ble_eq_true rfl), (Nat.le_of_ble_eq_true rfl)⟩ hph pl1 (show 0 + 0 = 0 from rfl) (by decide) (fun rh2 Lh2 clh2 lnh2 ivh2 rvh2 h2 => ?_)
  obtain ⟨rfl, rfl, rfl, rfl, rfl, fl2, W2, exf2⟩ := h2
  have F2 := F1.call X1 fl2 rfl
  refine c_st (st2 := []) rfl ?_
  have ri10 : 0 ≤ ivh2 (sk 2) 2 ∧ ivh2 (sk 2) 2 ≤ 3000 := W2.int ty3 2
  have gf2 : ivh2 (sk 2) 2 = 0 := exf2
  refine c_iload_n (j := 0) C dX11_text_12 rfl ?_
  have ri11 : 1 ≤ ivh2 a0 11 ∧ ivh2 a0 11 ≤ 100 := W2.int ty2 11
  have ie3 : ivh2 a0 11 = ivh1 a0 11 := fl2.i ty2 rfl 11
  have ri12 : 1 ≤ ivh2 a0 12 ∧ ivh2 a0 12 ≤ 50 := W2.int ty2 12
  have ie5 : ivh2 a0 12 = ivh1 a0 12 := fl2.i ty2 rfl 12
  have ri13 : (-2147483648) ≤ ivh2 a0 13 ∧ ivh2 a0 13 ≤ 2147483647 := W2.int ty2 13
  have ie7 : ivh2 a0 13 = ivh1 a0 13 := fl2.i ty2 rfl 13
  have ri14 : (-2147483648) ≤ ivh2 a0 14 ∧ ivh2 a0 14 ≤ 2147483647 := W2.int ty2 14
  have ie9 : ivh2 a0 14 = ivh1 a0 14 := fl2.i ty2 rfl 14
  have ri15 : (-2147483648) ≤ ivh2 a0 15 ∧ ivh2 a0 15 ≤ 2147483647 := W2.int ty2 15
  have ie11 : ivh2 a0 15 = ivh1 a0 15 := fl2.i ty2 rfl 15
  have ri16 : (-2147483648) ≤ ivh2 a0 16 ∧ ivh2 a0 16 ≤ 2147483647 := W2.int ty2 16
  have ie13 : ivh2 a0 16 = ivh1 a0 16 := fl2.i ty2 rfl 16
  have ri17 : 0 ≤ ivh2 (sk 3) 2 ∧ ivh2 (sk 3) 2 ≤ 500 := W2.int ty1 2
  have ie15 : ivh2 (sk 3) 2 = ivh1 (sk 3) 2 := fl2.i ty1 rfl 2
  exact c_iret C dX11_text_13 rfl (by decide) (rom0 hph pl1 (by decide)) ⟨f1, rfl, X1, F2, W2, ⟨by omega, by omega⟩, (fun ss hs => by rw [show ivh2 (sk 3) 2 = ivh1 (sk 3) 2 by omega]; exact gf1 ss hs), (by omega), (by omega), (by omega), (by omega), (by omega), (by omega), (by omega), (fun ss tt hs ht => ⟨fun e => CT.fr ((txkf1 ss tt hs ht).1 e) W1 ty1 fl2 rfl rfl rfl rfl rfl, fun e => CT.fr ((txkf1 ss tt hs ht).2 e) W1 ty1 fl2 rfl rfl rfl rfl rfl⟩), (show rvh1 a0 9 = rv a0 9 from kr9f1), (show rvh1 a0 10 = rv a0 10 from kr10f1)⟩
set_option maxHeartbeats 4000000 in
set_option maxRecDepth 100000 in
theorem C_publish {l : Launch} {G : GT} {mi : Nat} {sk : Nat → Nat} {L : List Nat} {cl ln : Nat → Nat} {iv : Nat → Nat → Int} {rv : Nat → Nat → Option Nat}  {a0 : Nat} (hW : WT (g0 G) sk L cl ln iv rv) (hS : SKL sk L cl) (t_a0 : ty L cl a0 1)  : Mc l G mi (Phi (g0 G) sk) PHM yX11_publish cX11_publish 2 (some .int) 1 [.ref a0] L cl ln iv rv 0 (fun v L2 cl2 ln2 iv2 rv2 => ∃ f : Int, v = some (.int (iI f)) ∧ L = L2 ∧ cl = cl2 ∧ ln = ln2 ∧ fT [1] L cl iv rv iv2 rv2 ∧ WT (g0 G) sk L2 cl2 ln2 iv2 rv2 ∧ (-2147483648 ≤ f ∧ f ≤ 2147483647) ∧ (True) ∧ iv2 a0 11 = iv a0 11 ∧ iv2 a0 12 = iv a0 12 ∧ iv2 a0 13 = iv a0 13 ∧ iv2 a0 14 = iv a0 14 ∧ iv2 a0 15 = iv a0 15 ∧ iv2 a0 16 = iv a0 16) := by
  refine Mc.mk (by decide) (Nat.le_of_ble_eq_true rfl) ?_
  intro p e s m args below meth c A C hM
  have hph := Phi.le hW hS
  have hX0 : XT L cl ln L cl ln := XT.refl
  have hF0 : fT [1] L cl iv rv iv rv := fT.refl
  refine c_aload_n (j := 0) (x := a0) C dX11_publish_0 rfl ?_
  obtain ⟨rb1, rq1, trb1⟩ := hW.ref t_a0 9 rfl rfl rfl
  refine c_getr (k := 9) C ck_12 dX11_publish_1 w2_53 (by decide) t_a0 rfl rfl (by decide) rfl rq1 ?_
  refine c_st (st2 := [.ref rb1]) rfl ?_
  refine c_astore_n (lv2 := [(1, .ref rb1), (0, .ref a0)]) C dX11_publish_4 (by decide) rfl ?_
  refine c_aload_n (j := 1) (x := a0) C dX11_publish_5 rfl ?_
  refine c_aload_n (j := 1) (x := a0) C dX11_publish_6 rfl ?_
  obtain ⟨rb2, rq2, trb2⟩ := hW.ref t_a0 10 rfl rfl rfl
  refine c_getr (k := 10) C ck_12 dX11_publish_7 w2_54 (by decide) t_a0 rfl rfl (by decide) rfl rq2 ?_
  refine c_st (st2 := [.ref rb2, .ref a0]) rfl ?_
  refine c_putr (x := (some rb2)) (k := 9) C ck_12 dX11_publish_10 w2_53 (by decide) rfl t_a0 rfl rfl (by decide) rfl (by rfl) (by rfl) (fun rv1 pq1 => ⟨0, (by rw [Phi.putr hS pq1 t_a0 rfl]; exact Nat.le_refl _), ?_⟩)
  have W1 := hW.putr pq1 t_a0 (rok_some t_a0 trb2 rfl (by decide) rfl) rfl (by decide)
  have F1 := hF0.putr hX0 pq1 t_a0 rfl
  refine c_aload_n (j := 1) (x := a0) C dX11_publish_13 rfl ?_
  refine c_aload_n (j := 0) (x := rb1) C dX11_publish_14 rfl ?_
  refine c_putr (x := (some rb1)) (k := 10) C ck_12 dX11_publish_15 w2_54 (by decide) rfl t_a0 rfl rfl (by decide) rfl (by rfl) (by rfl) (fun rv2 pq2 => ⟨0, (by rw [Phi.putr hS pq2 t_a0 rfl]; exact Nat.le_refl _), ?_⟩)
  have W2 := W1.putr pq2 t_a0 (rok_some t_a0 trb1 rfl (by decide) rfl) rfl (by decide)
  have F2 := F1.putr hX0 pq2 t_a0 rfl
  refine c_aload_n (j := 1) (x := a0) C dX11_publish_18 rfl ?_
  refine c_aload_n (j := 1) (x := a0) C dX11_publish_19 rfl ?_
  have rp1 : rv1 a0 9 = (some rb2) := by rw [pq1]; exact upr_s
  have re1 : rv2 a0 9 = rv1 a0 9 := (by rw [pq2]; exact upr_j (by decide))
  rw [rp1] at re1
  refine c_getr (k := 9) C ck_12 dX11_publish_20 w2_53 (by decide) t_a0 rfl rfl (by decide) rfl re1 ?_
  refine c_st (st2 := [.ref rb2, .ref a0]) rfl ?_
  have ri1 : 0 ≤ iv rb2 1 ∧ iv rb2 1 ≤ 200 := W2.int trb2 1
  refine c_get (k := 1) C ck_8 dX11_publish_23 w2_35 (by decide) trb2 rfl rfl (by decide) rfl ?_
  have pl1 := Phi.le W2 hS
  refine d_callV (As := [.int (iI (iv rb2 1))]) (rest := []) C hM (C_done (a0 := a0) (x := iv rb2 1) W2 hS t_a0 (by omega) ) dX11_publish_26 kV_X11_109 rfl t_a0 rfl rfl (by decide) ck_12 rfl (Nat.le_of_ble_eq_true rfl) ⟨(Nat.le_of_ble_eq_true rfl), (Nat.le_of_ble_eq_true rfl)⟩ hph pl1 (show 0 + 0 = 0 from rfl) (by decide) (fun rh1 Lh1 clh1 lnh1 ivh1 rvh1 h1 => ?_)
  obtain ⟨f1, rfl, rfl, rfl, rfl, rfl, fl1, W3, rgf1, exf1, kp11f1, kp12f1, kp13f1, kp14f1, kp15f1, kp16f1⟩ := h1
  have ri2 : 1 ≤ iv a0 11 ∧ iv a0 11 ≤ 100 := W2.int t_a0 11
  have ri3 : 1 ≤ iv a0 12 ∧ iv a0 12 ≤ 50 := W2.int t_a0 12
  have ri4 : (-2147483648) ≤ iv a0 13 ∧ iv a0 13 ≤ 2147483647 := W2.int t_a0 13
  have ri5 : (-2147483648) ≤ iv a0 14 ∧ iv a0 14 ≤ 2147483647 := W2.int t_a0 14
  have ri6 : (-2147483648) ≤ iv a0 15 ∧ iv a0 15 ≤ 2147483647 := W2.int t_a0 15
  have ri7 : (-2147483648) ≤ iv a0 16 ∧ iv a0 16 ≤ 2147483647 := W2.int t_a0 16
  have F3 := F2.call hX0 fl1 rfl
  refine c_st (st2 := [.int (iI f1)]) rfl ?_
  have gk11f1 : ivh1 a0 11 = iv a0 11 := kp11f1
  have gk12f1 : ivh1 a0 12 = iv a0 12 := kp12f1
  have gk13f1 : ivh1 a0 13 = iv a0 13 := kp13f1
  have gk14f1 : ivh1 a0 14 = iv a0 14 := kp14f1
  have gk15f1 : ivh1 a0 15 = iv a0 15 := kp15f1
  have gk16f1 : ivh1 a0 16 = iv a0 16 := kp16f1
  have gf1 : f1 = (iv rb2 1) := exf1
  have ri8 : 1 ≤ ivh1 a0 11 ∧ ivh1 a0 11 ≤ 100 := W3.int t_a0 11
  have ri9 : 1 ≤ ivh1 a0 12 ∧ ivh1 a0 12 ≤ 50 := W3.int t_a0 12
  have ri10 : (-2147483648) ≤ ivh1 a0 13 ∧ ivh1 a0 13 ≤ 2147483647 := W3.int t_a0 13
  have ri11 : (-2147483648) ≤ ivh1 a0 14 ∧ ivh1 a0 14 ≤ 2147483647 := W3.int t_a0 14
  have ri12 : (-2147483648) ≤ ivh1 a0 15 ∧ ivh1 a0 15 ≤ 2147483647 := W3.int t_a0 15
  have ri13 : (-2147483648) ≤ ivh1 a0 16 ∧ ivh1 a0 16 ≤ 2147483647 := W3.int t_a0 16
  exact c_iret C dX11_publish_29 rfl (by decide) (rom0 hph pl1 (by decide)) ⟨f1, rfl, rfl, rfl, rfl, F3, W3, ⟨by omega, by omega⟩, trivial, (by omega), (by omega), (by omega), (by omega), (by omega), (by omega)⟩
set_option maxHeartbeats 4000000 in
set_option maxRecDepth 100000 in
theorem C_set {l : Launch} {G : GT} {mi : Nat} {sk : Nat → Nat} {L : List Nat} {cl ln : Nat → Nat} {iv : Nat → Nat → Int} {rv : Nat → Nat → Option Nat}  {a0 : Nat} {i : Int} (hW : WT (g0 G) sk L cl ln iv rv) (hS : SKL sk L cl) (t_a0 : ty L cl a0 1) (h_i : -2147483648 ≤ i ∧ i ≤ 2147483647) (hmr : MRK sk cl iv rv) : Mc l G mi (Phi (g0 G) sk) PHM yX11_set cX11_set 7 (some .int) 8 [.ref a0, .int (iI i)] L cl ln iv rv 0 (fun v L2 cl2 ln2 iv2 rv2 => ∃ f : Int, v = some (.int (iI f)) ∧ XT L cl ln L2 cl2 ln2 ∧ fT [1, 14, 15, 50, 51, 52, 53, 54, 55, 18, 19, 64, 67, 203] L cl iv rv iv2 rv2 ∧ WT (g0 G) sk L2 cl2 ln2 iv2 rv2 ∧ (-2147483648 ≤ f ∧ f ≤ 2147483647) ∧ (True) ∧ iv2 a0 11 = iv a0 11 ∧ iv2 a0 12 = iv a0 12 ∧ iv2 a0 13 = iv a0 13 ∧ iv2 a0 14 = iv a0 14 ∧ iv2 a0 15 = iv a0 15 ∧ iv2 a0 16 = iv a0 16) := by
  refine Mc.mk (by decide) (Nat.le_of_ble_eq_true rfl) ?_
  intro p e s m args below meth c A C hM
  have hph := Phi.le hW hS
  have tsk2 : ty L cl (sk 2) 2 := ⟨(hS 2 rfl).1, by rw [(hS 2 rfl).2]; rfl⟩
  have tsk3 : ty L cl (sk 3) 3 := ⟨(hS 3 rfl).1, by rw [(hS 3 rfl).2]; rfl⟩
  have tsk4 : ty L cl (sk 4) 4 := ⟨(hS 4 rfl).1, by rw [(hS 4 rfl).2]; rfl⟩
  have tsk5 : ty L cl (sk 5) 5 := ⟨(hS 5 rfl).1, by rw [(hS 5 rfl).2]; rfl⟩
  have tsk13 : ty L cl (sk 13) 13 := ⟨(hS 13 rfl).1, by rw [(hS 13 rfl).2]; rfl⟩
  have tsk14 : ty L cl (sk 14) 14 := ⟨(hS 14 rfl).1, by rw [(hS 14 rfl).2]; rfl⟩
  have tsk15 : ty L cl (sk 15) 15 := ⟨(hS 15 rfl).1, by rw [(hS 15 rfl).2]; rfl⟩
  have tsk16 : ty L cl (sk 16) 16 := ⟨(hS 16 rfl).1, by rw [(hS 16 rfl).2]; rfl⟩
  have tsk17 : ty L cl (sk 17) 17 := ⟨(hS 17 rfl).1, by rw [(hS 17 rfl).2]; rfl⟩
  have tsk22 : ty L cl (sk 22) 22 := ⟨(hS 22 rfl).1, by rw [(hS 22 rfl).2]; rfl⟩
  have tsk23 : ty L cl (sk 23) 23 := ⟨(hS 23 rfl).1, by rw [(hS 23 rfl).2]; rfl⟩
  have hX0 : XT L cl ln L cl ln := XT.refl
  have hF0 : fT [1, 14, 15, 50, 51, 52, 53, 54, 55, 18, 19, 64, 67, 203] L cl iv rv iv rv := fT.refl
  refine c_aload_n (j := 0) (x := a0) C dX11_set_0 rfl ?_
  obtain ⟨rb1, rq1, trb1⟩ := hW.ref t_a0 4 rfl rfl rfl
  have erb1 := hW.sk trb1 (by decide) rfl
  subst erb1
  refine c_getr (k := 4) C ck_12 dX11_set_1 w2_48 (by decide) t_a0 rfl rfl (by decide) rfl rq1 ?_
  refine c_st (st2 := [.ref (sk 13)]) rfl ?_
  refine c_iload_n (j := 1) C dX11_set_4 rfl ?_
  refine d_callV (As := [.int (iI i)]) (rest := []) C hM (C_whole (a0 := (sk 13)) (i := i) hW hS tsk13 (by omega) hmr) dX11_set_5 kV_X11_231 rfl tsk13 rfl rfl (by decide) ck_11 rfl (Nat.le_of_ble_eq_true rfl) ⟨(Nat.le_of_ble_eq_true rfl), (Nat.le_of_ble_eq_true rfl)⟩ hph hph (show 0 + 0 = 0 from rfl) (by decide) (fun rh1 Lh1 clh1 lnh1 ivh1 rvh1 h1 => ?_)
  obtain ⟨f1, rfl, rfl, rfl, rfl, rfl, rfl, rgf1, exf1⟩ := h1
  refine c_st (st2 := [(va_rf f1)]) rfl ?_
  refine c_astorer_n (r := f1) (lv2 := [(2, (va_rf f1)), (0, .ref a0), (1, .int (iI i))]) C dX11_set_8 (by decide) rfl ?_
  refine c_aloadr_n (j := 0) (r := f1) C dX11_set_9 rfl ?_
  refine c_ifnonnull (r := f1) (tgt := 19) C dX11_set_10 (by decide) (fun ob1 oq1 => ?_) (fun oq1 => ?_)
  · subst oq1
    have tob1 := rgf1 ob1 rfl
    refine c_lv (lv2 := [(2, .ref ob1), (0, .ref a0), (1, .int (iI i))]) [0, 1, 2] rfl ?_
    refine c_st (st2 := []) rfl ?_
    refine c_aload_n (j := 1) (x := a0) C dX11_set_19 rfl ?_
    obtain ⟨rb2, rq2, trb2⟩ := hW.ref t_a0 10 rfl rfl rfl
    refine c_getr (k := 10) C ck_12 dX11_set_20 w2_54 (by decide) t_a0 rfl rfl (by decide) rfl rq2 ?_
    refine c_st (st2 := [.ref rb2]) rfl ?_
    refine d_callV (As := []) (rest := []) C hM (C_sclear (a0 := rb2) hW hS trb2  ) dX11_set_23 kV_X11_234 rfl trb2 rfl rfl (by decide) ck_8 rfl (Nat.le_of_ble_eq_true rfl) ⟨(Nat.le_of_ble_eq_true rfl), (Nat.le_of_ble_eq_true rfl)⟩ hph hph (show 0 + 0 = 0 from rfl) (by decide) (fun rh2 Lh2 clh2 lnh2 ivh2 rvh2 h2 => ?_)
    obtain ⟨rfl, rfl, rfl, rfl, rfl, fl2, W2, exf2⟩ := h2
    have F1 := hF0.call hX0 fl2 rfl
    have mr1 := MRK.call hmr hW hS XT.refl fl2 rfl rfl
    refine c_st (st2 := []) rfl ?_
    refine c_aload_n (j := 1) (x := a0) C dX11_set_26 rfl ?_
    obtain ⟨rb3, rq3, trb3⟩ := W2.ref t_a0 5 rfl rfl rfl
    have erb3 := W2.sk trb3 (by decide) rfl
    subst erb3
    refine c_getr (k := 5) C ck_12 dX11_set_27 w2_49 (by decide) t_a0 rfl rfl (by decide) rfl rq3 ?_
    refine c_st (st2 := [.ref (sk 14)]) rfl ?_
    refine d_callV (As := []) (rest := []) C hM (C_restart (a0 := (sk 14)) W2 hS tsk14  ) dX11_set_30 kV_X11_235 rfl tsk14 rfl rfl (by decide) ck_9 rfl (Nat.le_of_ble_eq_true rfl) ⟨(Nat.le_of_ble_eq_true rfl), (Nat.le_of_ble_eq_true rfl)⟩ hph hph (show 0 + 0 = 0 from rfl) (by decide) (fun rh3 Lh3 clh3 lnh3 ivh3 rvh3 h3 => ?_)
    obtain ⟨rfl, rfl, rfl, rfl, rfl, fl3, W3, exf3⟩ := h3
    have F2 := F1.call hX0 fl3 rfl
    have mr2 := MRK.call mr1 W2 hS XT.refl fl3 rfl rfl
    refine c_st (st2 := []) rfl ?_
    have ri1 : (-2147483648) ≤ ivh3 (sk 14) 0 ∧ ivh3 (sk 14) 0 ≤ 2147483647 := W3.int tsk14 0
    have ri2 : 0 ≤ ivh3 (sk 14) 1 ∧ ivh3 (sk 14) 1 ≤ 1 := W3.int tsk14 1
    have gf3 : ivh3 (sk 14) 0 = 0 ∧ ivh3 (sk 14) 1 = 0 := exf3
    refine c_iconst C dX11_set_33 ?_
    refine c_istore_n (lv2 := [(3, .int (iI 0)), (2, .ref ob1), (0, .ref a0), (1, .int (iI i))]) C dX11_set_34 (by decide) rfl ?_
    refine c_aload_n (j := 2) (x := a0) C dX11_set_35 rfl ?_
    refine c_getr (k := 5) C ck_12 dX11_set_36 w2_49 (by decide) t_a0 rfl rfl (by decide) rfl rq3 ?_
    refine c_st (st2 := [.ref (sk 14)]) rfl ?_
    refine c_aload_n (j := 2) (x := a0) C dX11_set_39 rfl ?_
    obtain ⟨rb4, rq4, trb4⟩ := W3.ref t_a0 1 rfl rfl rfl
    have erb4 := W3.sk trb4 (by decide) rfl
    subst erb4
    refine c_getr (k := 1) C ck_12 dX11_set_40 w2_45 (by decide) t_a0 rfl rfl (by decide) rfl rq4 ?_
    refine c_st (st2 := [.ref (sk 3), .ref (sk 14)]) rfl ?_
    refine c_aload_n (j := 2) (x := a0) C dX11_set_43 rfl ?_
    obtain ⟨rb5, rq5, trb5⟩ := W3.ref t_a0 6 rfl rfl rfl
    have erb5 := W3.sk trb5 (by decide) rfl
    subst erb5
    refine c_getr (k := 6) C ck_12 dX11_set_44 w2_50 (by decide) t_a0 rfl rfl (by decide) rfl rq5 ?_
    refine c_st (st2 := [.ref (sk 15), .ref (sk 3), .ref (sk 14)]) rfl ?_
    refine d_callV (As := [.ref (sk 3), .ref (sk 15)]) (rest := []) C hM (C_sstep (a0 := (sk 14)) (a1 := (sk 3)) (a2 := (sk 15)) W3 hS tsk14 tsk3 tsk15  (by show 0 ≤ ivh3 (sk 14) 0 ∧ ivh3 (sk 14) 0 ≤ 501 ∧ (ivh3 (sk 14) 1 = 0 ∨ ivh3 (sk 14) 0 ≤ 500); omega)) dX11_set_47 kV_X11_238 rfl tsk14 rfl rfl (by decide) ck_9 rfl (Nat.le_of_ble_eq_true rfl) ⟨(Nat.le_of_ble_eq_true rfl), (Nat.le_of_ble_eq_true rfl)⟩ hph hph (show 0 + 0 = 0 from rfl) (by decide) (fun rh4 Lh4 clh4 lnh4 ivh4 rvh4 h4 => ?_)
    obtain ⟨f4, rfl, rfl, rfl, rfl, rfl, fl4, W4, rgf4, exf4⟩ := h4
    have F3 := F2.call hX0 fl4 rfl
    have mr3 := MRK.call mr2 W3 hS XT.refl fl4 rfl rfl
    refine c_st (st2 := [.int (iI f4)]) rfl ?_
    have ri3 : (-2147483648) ≤ ivh4 (sk 14) 0 ∧ ivh4 (sk 14) 0 ≤ 2147483647 := W4.int tsk14 0
    have ri4 : 0 ≤ ivh4 (sk 14) 1 ∧ ivh4 (sk 14) 1 ≤ 1 := W4.int tsk14 1
    have gf4 : (0 ≤ f4 ∧ f4 ≤ 3) ∧ 0 ≤ ivh4 (sk 14) 0 ∧ ivh4 (sk 14) 0 ≤ 501 ∧ (ivh4 (sk 14) 1 = 0 ∨ ivh4 (sk 14) 0 ≤ 500) := exf4
    refine c_istore (lv2 := [(4, .int (iI f4)), (3, .int (iI 0)), (2, .ref ob1), (0, .ref a0), (1, .int (iI i))]) C dX11_set_50 (by decide) rfl ?_
    refine c_iconst C dX11_set_52 ?_
    refine c_istore (lv2 := [(5, .int (iI 0)), (4, .int (iI f4)), (3, .int (iI 0)), (2, .ref ob1), (0, .ref a0), (1, .int (iI i))]) C dX11_set_53 (by decide) rfl ?_
    have Lp1 : ∀ (nn : Nat) (wy cm k : Int) (Lb1 : List Nat) (clb1 lnb1 : Nat → Nat) (ivb1 : Nat → Nat → Int) (rvb1 : Nat → Nat → Option Nat) , 1000001 - k < (nn : Int) → XT L cl ln Lb1 clb1 lnb1 → WT (g0 G) sk Lb1 clb1 lnb1 ivb1 rvb1 → fT [1, 14, 15, 50, 51, 52, 53, 54, 55, 18, 19, 64, 67, 203] L cl iv rv ivb1 rvb1 → (0 ≤ wy ∧ wy ≤ 9) → (0 ≤ cm ∧ cm ≤ 3) → (0 ≤ k ∧ k ≤ 1000000) → (0 ≤ ivb1 (sk 14) 0 ∧ ivb1 (sk 14) 0 ≤ 501 ∧ (ivb1 (sk 14) 1 = 0 ∨ ivb1 (sk 14) 0 ≤ 500)) → (ivb1 a0 11 = iv a0 11) → (ivb1 a0 12 = iv a0 12) → (ivb1 a0 13 = iv a0 13) → (ivb1 a0 14 = iv a0 14) → (ivb1 a0 15 = iv a0 15) → (ivb1 a0 16 = iv a0 16) → cw p l e 8 ((PHM) + 0 - ((Phi (g0 G) sk) ln rv)) s m args below meth c G A 7 (MQ below (Qu G A (Qp G (Phi (g0 G) sk) ((Phi (g0 G) sk) ln rv) 0 (fun v L2 cl2 ln2 iv2 rv2 => ∃ f : Int, v = some (.int (iI f)) ∧ XT L cl ln L2 cl2 ln2 ∧ fT [1, 14, 15, 50, 51, 52, 53, 54, 55, 18, 19, 64, 67, 203] L cl iv rv iv2 rv2 ∧ WT (g0 G) sk L2 cl2 ln2 iv2 rv2 ∧ (-2147483648 ≤ f ∧ f ≤ 2147483647) ∧ (True) ∧ iv2 a0 11 = iv a0 11 ∧ iv2 a0 12 = iv a0 12 ∧ iv2 a0 13 = iv a0 13 ∧ iv2 a0 14 = iv a0 14 ∧ iv2 a0 15 = iv a0 15 ∧ iv2 a0 16 = iv a0 16))) args s (((PHM) + 0 - ((Phi (g0 G) sk) ln rv)) / 16) ((PHM) + 0 - ((Phi (g0 G) sk) ln rv)) A) (Phi (g0 G) sk) ((Phi (g0 G) sk) ln rv) Lb1 clb1 lnb1 ivb1 rvb1 0 55 [(3, .int (iI wy)), (4, .int (iI cm)), (5, .int (iI k)), (2, .ref ob1), (0, .ref a0), (1, .int (iI i))] [] := by
      intro nn
      induction nn with
      | zero =>
        intro  wy cm k Lb1 clb1 lnb1 ivb1 rvb1 hm Xb1 Wb1 Fb1  hwy hcm hk hsr hkp11 hkp12 hkp13 hkp14 hkp15 hkp16
        have skb1 := Xb1.skl hS
        exact absurd hm (by omega)
      | succ nn ih1 =>
        intro  wy cm k Lb1 clb1 lnb1 ivb1 rvb1 hm Xb1 Wb1 Fb1  hwy hcm hk hsr hkp11 hkp12 hkp13 hkp14 hkp15 hkp16
        have skb1 := Xb1.skl hS
        have mrb1 := MRK.call hmr hW hS Xb1 Fb1 rfl rfl
        refine c_iload_n (j := 0) C dX11_set_55 rfl ?_
        refine c_if_ne (tgt := 203) C ⟨by omega, by omega⟩ dX11_set_56 (by decide) (fun c1 => ?_) (fun c1 => ?_)
        · refine c_iload_n (j := 0) C dX11_set_203 rfl ?_
          refine c_if_ne (tgt := 214) C ⟨by omega, by omega⟩ dX11_set_204 (by decide) (fun c2 => ?_) (fun c2 => ?_)
          · refine c_aload_n (j := 4) (x := a0) C dX11_set_214 rfl ?_
            refine c_iload_n (j := 0) C dX11_set_215 rfl ?_
            refine c_aload_n (j := 4) (x := a0) C dX11_set_216 rfl ?_
            have ty1 := Xb1.ty t_a0
            obtain ⟨rb6, rq6, trb6⟩ := Wb1.ref ty1 6 rfl rfl rfl
            have erb6 := Wb1.sk trb6 (by decide) rfl
            subst erb6
            refine c_getr (k := 6) C ck_12 dX11_set_217 w2_50 (by decide) ty1 rfl rfl (by decide) rfl rq6 ?_
            refine c_st (st2 := [.ref (sk 15), .int (iI wy), .ref a0]) rfl ?_
            have ty2 := Xb1.ty tsk15
            have pl1 := Phi.le Wb1 skb1
            refine d_callV (As := []) (rest := [.int (iI wy), .ref a0]) C hM (C_placeOfUnknown (a0 := (sk 15)) Wb1 skb1 ty2  ) dX11_set_220 kV_X11_263 rfl ty2 rfl rfl (by decide) ck_7 rfl (Nat.le_of_ble_eq_true rfl) ⟨(Nat.le_of_ble_eq_true rfl), (Nat.le_of_ble_eq_true rfl)⟩ hph pl1 (show 0 + 0 = 0 from rfl) (by decide) (fun rh5 Lh5 clh5 lnh5 ivh5 rvh5 h5 => ?_)
            obtain ⟨f5, rfl, rfl, rfl, rfl, rfl, rfl, rgf5, exf5⟩ := h5
            refine c_st (st2 := [.int (iI f5), .int (iI wy), .ref a0]) rfl ?_
            refine d_callV (As := [.int (iI wy), .int (iI f5)]) (rest := []) C hM (C_refuseAt (a0 := a0) (x := wy) (y := f5) Wb1 skb1 ty1 (by omega) (by omega) ) dX11_set_223 kV_X11_266 rfl ty1 rfl rfl (by decide) ck_12 rfl (Nat.le_of_ble_eq_true rfl) ⟨(Nat.le_of_ble_eq_true rfl), (Nat.le_of_ble_eq_true rfl)⟩ hph pl1 (show 0 + 0 = 0 from rfl) (by decide) (fun rh6 Lh6 clh6 lnh6 ivh6 rvh6 h6 => ?_)
            obtain ⟨f6, rfl, rfl, rfl, rfl, rfl, fl6, W6, rgf6, exf6, kp11f6, kp12f6, kp13f6, kp14f6, kp15f6, kp16f6⟩ := h6
            have ri5 : 1 ≤ ivb1 a0 11 ∧ ivb1 a0 11 ≤ 100 := Wb1.int ty1 11
            have ri6 : 1 ≤ ivb1 a0 12 ∧ ivb1 a0 12 ≤ 50 := Wb1.int ty1 12
            have ri7 : (-2147483648) ≤ ivb1 a0 13 ∧ ivb1 a0 13 ≤ 2147483647 := Wb1.int ty1 13
            have ri8 : (-2147483648) ≤ ivb1 a0 14 ∧ ivb1 a0 14 ≤ 2147483647 := Wb1.int ty1 14
            have ri9 : (-2147483648) ≤ ivb1 a0 15 ∧ ivb1 a0 15 ≤ 2147483647 := Wb1.int ty1 15
            have ri10 : (-2147483648) ≤ ivb1 a0 16 ∧ ivb1 a0 16 ≤ 2147483647 := Wb1.int ty1 16
            have F4 := Fb1.call Xb1 fl6 rfl
            have mr4 := MRK.call mrb1 Wb1 skb1 XT.refl fl6 rfl rfl
            refine c_st (st2 := [.int (iI f6)]) rfl ?_
            have gk11f6 : ivh6 a0 11 = ivb1 a0 11 := kp11f6
            have gk12f6 : ivh6 a0 12 = ivb1 a0 12 := kp12f6
            have gk13f6 : ivh6 a0 13 = ivb1 a0 13 := kp13f6
            have gk14f6 : ivh6 a0 14 = ivb1 a0 14 := kp14f6
            have gk15f6 : ivh6 a0 15 = ivb1 a0 15 := kp15f6
            have gk16f6 : ivh6 a0 16 = ivb1 a0 16 := kp16f6
            have gf6 : f6 = -1 := exf6
            have ri11 : 1 ≤ ivh6 a0 11 ∧ ivh6 a0 11 ≤ 100 := W6.int ty1 11
            have ri12 : 1 ≤ ivh6 a0 12 ∧ ivh6 a0 12 ≤ 50 := W6.int ty1 12
            have ri13 : (-2147483648) ≤ ivh6 a0 13 ∧ ivh6 a0 13 ≤ 2147483647 := W6.int ty1 13
            have ri14 : (-2147483648) ≤ ivh6 a0 14 ∧ ivh6 a0 14 ≤ 2147483647 := W6.int ty1 14
            have ri15 : (-2147483648) ≤ ivh6 a0 15 ∧ ivh6 a0 15 ≤ 2147483647 := W6.int ty1 15
            have ri16 : (-2147483648) ≤ ivh6 a0 16 ∧ ivh6 a0 16 ≤ 2147483647 := W6.int ty1 16
            exact c_iret C dX11_set_226 rfl (by decide) (rom0 hph pl1 (by decide)) ⟨f6, rfl, Xb1, F4, W6, ⟨by omega, by omega⟩, trivial, (by omega), (by omega), (by omega), (by omega), (by omega), (by omega)⟩
          · refine c_aload_n (j := 4) (x := a0) C dX11_set_207 rfl ?_
            have ty3 := Xb1.ty t_a0
            have pl2 := Phi.le Wb1 skb1
            refine d_callV (As := []) (rest := []) C hM (C_publish (a0 := a0) Wb1 skb1 ty3  ) dX11_set_208 kV_X11_260 rfl ty3 rfl rfl (by decide) ck_12 rfl (Nat.le_of_ble_eq_true rfl) ⟨(Nat.le_of_ble_eq_true rfl), (Nat.le_of_ble_eq_true rfl)⟩ hph pl2 (show 0 + 0 = 0 from rfl) (by decide) (fun rh7 Lh7 clh7 lnh7 ivh7 rvh7 h7 => ?_)
            obtain ⟨f7, rfl, rfl, rfl, rfl, fl7, W7, rgf7, exf7, kp11f7, kp12f7, kp13f7, kp14f7, kp15f7, kp16f7⟩ := h7
            have ri17 : 1 ≤ ivb1 a0 11 ∧ ivb1 a0 11 ≤ 100 := Wb1.int ty3 11
            have ri18 : 1 ≤ ivb1 a0 12 ∧ ivb1 a0 12 ≤ 50 := Wb1.int ty3 12
            have ri19 : (-2147483648) ≤ ivb1 a0 13 ∧ ivb1 a0 13 ≤ 2147483647 := Wb1.int ty3 13
            have ri20 : (-2147483648) ≤ ivb1 a0 14 ∧ ivb1 a0 14 ≤ 2147483647 := Wb1.int ty3 14
            have ri21 : (-2147483648) ≤ ivb1 a0 15 ∧ ivb1 a0 15 ≤ 2147483647 := Wb1.int ty3 15
            have ri22 : (-2147483648) ≤ ivb1 a0 16 ∧ ivb1 a0 16 ≤ 2147483647 := Wb1.int ty3 16
            have F5 := Fb1.call Xb1 fl7 rfl
            have mr5 := MRK.call mrb1 Wb1 skb1 XT.refl fl7 rfl rfl
            refine c_st (st2 := [.int (iI f7)]) rfl ?_
            have gk11f7 : ivh7 a0 11 = ivb1 a0 11 := kp11f7
            have gk12f7 : ivh7 a0 12 = ivb1 a0 12 := kp12f7
            have gk13f7 : ivh7 a0 13 = ivb1 a0 13 := kp13f7
            have gk14f7 : ivh7 a0 14 = ivb1 a0 14 := kp14f7
            have gk15f7 : ivh7 a0 15 = ivb1 a0 15 := kp15f7
            have gk16f7 : ivh7 a0 16 = ivb1 a0 16 := kp16f7
            refine c_goto (tgt := 226) C dX11_set_211 (by decide) ?_
            have ri23 : 1 ≤ ivh7 a0 11 ∧ ivh7 a0 11 ≤ 100 := W7.int ty3 11
            have ri24 : 1 ≤ ivh7 a0 12 ∧ ivh7 a0 12 ≤ 50 := W7.int ty3 12
            have ri25 : (-2147483648) ≤ ivh7 a0 13 ∧ ivh7 a0 13 ≤ 2147483647 := W7.int ty3 13
            have ri26 : (-2147483648) ≤ ivh7 a0 14 ∧ ivh7 a0 14 ≤ 2147483647 := W7.int ty3 14
            have ri27 : (-2147483648) ≤ ivh7 a0 15 ∧ ivh7 a0 15 ≤ 2147483647 := W7.int ty3 15
            have ri28 : (-2147483648) ≤ ivh7 a0 16 ∧ ivh7 a0 16 ≤ 2147483647 := W7.int ty3 16
            have pl3 := Phi.le W7 skb1
            exact c_iret C dX11_set_226 rfl (by decide) (rom0 hph pl3 (by decide)) ⟨f7, rfl, Xb1, F5, W7, ⟨by omega, by omega⟩, trivial, (by omega), (by omega), (by omega), (by omega), (by omega), (by omega)⟩
        · refine c_iload (j := 1) C dX11_set_59 rfl ?_
          refine c_if_eq (tgt := 203) C ⟨by omega, by omega⟩ dX11_set_61 (by decide) (fun c3 => ?_) (fun c3 => ?_)
          · refine c_iload_n (j := 0) C dX11_set_203 rfl ?_
            refine c_if_ne (tgt := 214) C ⟨by omega, by omega⟩ dX11_set_204 (by decide) (fun c4 => ?_) (fun c4 => ?_)
            · refine c_aload_n (j := 4) (x := a0) C dX11_set_214 rfl ?_
              refine c_iload_n (j := 0) C dX11_set_215 rfl ?_
              refine c_aload_n (j := 4) (x := a0) C dX11_set_216 rfl ?_
              have ty4 := Xb1.ty t_a0
              obtain ⟨rb7, rq7, trb7⟩ := Wb1.ref ty4 6 rfl rfl rfl
              have erb7 := Wb1.sk trb7 (by decide) rfl
              subst erb7
              refine c_getr (k := 6) C ck_12 dX11_set_217 w2_50 (by decide) ty4 rfl rfl (by decide) rfl rq7 ?_
              refine c_st (st2 := [.ref (sk 15), .int (iI wy), .ref a0]) rfl ?_
              have ty5 := Xb1.ty tsk15
              have pl4 := Phi.le Wb1 skb1
              refine d_callV (As := []) (rest := [.int (iI wy), .ref a0]) C hM (C_placeOfUnknown (a0 := (sk 15)) Wb1 skb1 ty5  ) dX11_set_220 kV_X11_263 rfl ty5 rfl rfl (by decide) ck_7 rfl (Nat.le_of_ble_eq_true rfl) ⟨(Nat.le_of_ble_eq_true rfl), (Nat.le_of_ble_eq_true rfl)⟩ hph pl4 (show 0 + 0 = 0 from rfl) (by decide) (fun rh8 Lh8 clh8 lnh8 ivh8 rvh8 h8 => ?_)
              obtain ⟨f8, rfl, rfl, rfl, rfl, rfl, rfl, rgf8, exf8⟩ := h8
              refine c_st (st2 := [.int (iI f8), .int (iI wy), .ref a0]) rfl ?_
              refine d_callV (As := [.int (iI wy), .int (iI f8)]) (rest := []) C hM (C_refuseAt (a0 := a0) (x := wy) (y := f8) Wb1 skb1 ty4 (by omega) (by omega) ) dX11_set_223 kV_X11_266 rfl ty4 rfl rfl (by decide) ck_12 rfl (Nat.le_of_ble_eq_true rfl) ⟨(Nat.le_of_ble_eq_true rfl), (Nat.le_of_ble_eq_true rfl)⟩ hph pl4 (show 0 + 0 = 0 from rfl) (by decide) (fun rh9 Lh9 clh9 lnh9 ivh9 rvh9 h9 => ?_)
              obtain ⟨f9, rfl, rfl, rfl, rfl, rfl, fl9, W9, rgf9, exf9, kp11f9, kp12f9, kp13f9, kp14f9, kp15f9, kp16f9⟩ := h9
              have ri29 : 1 ≤ ivb1 a0 11 ∧ ivb1 a0 11 ≤ 100 := Wb1.int ty4 11
              have ri30 : 1 ≤ ivb1 a0 12 ∧ ivb1 a0 12 ≤ 50 := Wb1.int ty4 12
              have ri31 : (-2147483648) ≤ ivb1 a0 13 ∧ ivb1 a0 13 ≤ 2147483647 := Wb1.int ty4 13
              have ri32 : (-2147483648) ≤ ivb1 a0 14 ∧ ivb1 a0 14 ≤ 2147483647 := Wb1.int ty4 14
              have ri33 : (-2147483648) ≤ ivb1 a0 15 ∧ ivb1 a0 15 ≤ 2147483647 := Wb1.int ty4 15
              have ri34 : (-2147483648) ≤ ivb1 a0 16 ∧ ivb1 a0 16 ≤ 2147483647 := Wb1.int ty4 16
              have F6 := Fb1.call Xb1 fl9 rfl
              have mr6 := MRK.call mrb1 Wb1 skb1 XT.refl fl9 rfl rfl
              refine c_st (st2 := [.int (iI f9)]) rfl ?_
              have gk11f9 : ivh9 a0 11 = ivb1 a0 11 := kp11f9
              have gk12f9 : ivh9 a0 12 = ivb1 a0 12 := kp12f9
              have gk13f9 : ivh9 a0 13 = ivb1 a0 13 := kp13f9
              have gk14f9 : ivh9 a0 14 = ivb1 a0 14 := kp14f9
              have gk15f9 : ivh9 a0 15 = ivb1 a0 15 := kp15f9
              have gk16f9 : ivh9 a0 16 = ivb1 a0 16 := kp16f9
              have gf9 : f9 = -1 := exf9
              have ri35 : 1 ≤ ivh9 a0 11 ∧ ivh9 a0 11 ≤ 100 := W9.int ty4 11
              have ri36 : 1 ≤ ivh9 a0 12 ∧ ivh9 a0 12 ≤ 50 := W9.int ty4 12
              have ri37 : (-2147483648) ≤ ivh9 a0 13 ∧ ivh9 a0 13 ≤ 2147483647 := W9.int ty4 13
              have ri38 : (-2147483648) ≤ ivh9 a0 14 ∧ ivh9 a0 14 ≤ 2147483647 := W9.int ty4 14
              have ri39 : (-2147483648) ≤ ivh9 a0 15 ∧ ivh9 a0 15 ≤ 2147483647 := W9.int ty4 15
              have ri40 : (-2147483648) ≤ ivh9 a0 16 ∧ ivh9 a0 16 ≤ 2147483647 := W9.int ty4 16
              exact c_iret C dX11_set_226 rfl (by decide) (rom0 hph pl4 (by decide)) ⟨f9, rfl, Xb1, F6, W9, ⟨by omega, by omega⟩, trivial, (by omega), (by omega), (by omega), (by omega), (by omega), (by omega)⟩
            · refine c_aload_n (j := 4) (x := a0) C dX11_set_207 rfl ?_
              have ty6 := Xb1.ty t_a0
              have pl5 := Phi.le Wb1 skb1
              refine d_callV (As := []) (rest := []) C hM (C_publish (a0 := a0) Wb1 skb1 ty6  ) dX11_set_208 kV_X11_260 rfl ty6 rfl rfl (by decide) ck_12 rfl (Nat.le_of_ble_eq_true rfl) ⟨(Nat.le_of_ble_eq_true rfl), (Nat.le_of_ble_eq_true rfl)⟩ hph pl5 (show 0 + 0 = 0 from rfl) (by decide) (fun rh10 Lh10 clh10 lnh10 ivh10 rvh10 h10 => ?_)
              obtain ⟨f10, rfl, rfl, rfl, rfl, fl10, W10, rgf10, exf10, kp11f10, kp12f10, kp13f10, kp14f10, kp15f10, kp16f10⟩ := h10
              have ri41 : 1 ≤ ivb1 a0 11 ∧ ivb1 a0 11 ≤ 100 := Wb1.int ty6 11
              have ri42 : 1 ≤ ivb1 a0 12 ∧ ivb1 a0 12 ≤ 50 := Wb1.int ty6 12
              have ri43 : (-2147483648) ≤ ivb1 a0 13 ∧ ivb1 a0 13 ≤ 2147483647 := Wb1.int ty6 13
              have ri44 : (-2147483648) ≤ ivb1 a0 14 ∧ ivb1 a0 14 ≤ 2147483647 := Wb1.int ty6 14
              have ri45 : (-2147483648) ≤ ivb1 a0 15 ∧ ivb1 a0 15 ≤ 2147483647 := Wb1.int ty6 15
              have ri46 : (-2147483648) ≤ ivb1 a0 16 ∧ ivb1 a0 16 ≤ 2147483647 := Wb1.int ty6 16
              have F7 := Fb1.call Xb1 fl10 rfl
              have mr7 := MRK.call mrb1 Wb1 skb1 XT.refl fl10 rfl rfl
              refine c_st (st2 := [.int (iI f10)]) rfl ?_
              have gk11f10 : ivh10 a0 11 = ivb1 a0 11 := kp11f10
              have gk12f10 : ivh10 a0 12 = ivb1 a0 12 := kp12f10
              have gk13f10 : ivh10 a0 13 = ivb1 a0 13 := kp13f10
              have gk14f10 : ivh10 a0 14 = ivb1 a0 14 := kp14f10
              have gk15f10 : ivh10 a0 15 = ivb1 a0 15 := kp15f10
              have gk16f10 : ivh10 a0 16 = ivb1 a0 16 := kp16f10
              refine c_goto (tgt := 226) C dX11_set_211 (by decide) ?_
              have ri47 : 1 ≤ ivh10 a0 11 ∧ ivh10 a0 11 ≤ 100 := W10.int ty6 11
              have ri48 : 1 ≤ ivh10 a0 12 ∧ ivh10 a0 12 ≤ 50 := W10.int ty6 12
              have ri49 : (-2147483648) ≤ ivh10 a0 13 ∧ ivh10 a0 13 ≤ 2147483647 := W10.int ty6 13
              have ri50 : (-2147483648) ≤ ivh10 a0 14 ∧ ivh10 a0 14 ≤ 2147483647 := W10.int ty6 14
              have ri51 : (-2147483648) ≤ ivh10 a0 15 ∧ ivh10 a0 15 ≤ 2147483647 := W10.int ty6 15
              have ri52 : (-2147483648) ≤ ivh10 a0 16 ∧ ivh10 a0 16 ≤ 2147483647 := W10.int ty6 16
              have pl6 := Phi.le W10 skb1
              exact c_iret C dX11_set_226 rfl (by decide) (rom0 hph pl6 (by decide)) ⟨f10, rfl, Xb1, F7, W10, ⟨by omega, by omega⟩, trivial, (by omega), (by omega), (by omega), (by omega), (by omega), (by omega)⟩
          · refine c_iload (j := 2) C dX11_set_64 rfl ?_
            refine c_ldc (z := 1000000) C dX11_set_66 w4_30 rfl ?_
            refine c_icmp_ge (tgt := 203) C ⟨by omega, by omega⟩ ⟨by decide, by decide⟩ dX11_set_68 (by decide) (fun c5 => ?_) (fun c5 => ?_)
            · refine c_iload_n (j := 0) C dX11_set_203 rfl ?_
              refine c_if_ne (tgt := 214) C ⟨by omega, by omega⟩ dX11_set_204 (by decide) (fun c6 => ?_) (fun c6 => ?_)
              · refine c_aload_n (j := 4) (x := a0) C dX11_set_214 rfl ?_
                refine c_iload_n (j := 0) C dX11_set_215 rfl ?_
                refine c_aload_n (j := 4) (x := a0) C dX11_set_216 rfl ?_
                have ty7 := Xb1.ty t_a0
                obtain ⟨rb8, rq8, trb8⟩ := Wb1.ref ty7 6 rfl rfl rfl
                have erb8 := Wb1.sk trb8 (by decide) rfl
                subst erb8
                refine c_getr (k := 6) C ck_12 dX11_set_217 w2_50 (by decide) ty7 rfl rfl (by decide) rfl rq8 ?_
                refine c_st (st2 := [.ref (sk 15), .int (iI wy), .ref a0]) rfl ?_
                have ty8 := Xb1.ty tsk15
                have pl7 := Phi.le Wb1 skb1
                refine d_callV (As := []) (rest := [.int (iI wy), .ref a0]) C hM (C_placeOfUnknown (a0 := (sk 15)) Wb1 skb1 ty8  ) dX11_set_220 kV_X11_263 rfl ty8 rfl rfl (by decide) ck_7 rfl (Nat.le_of_ble_eq_true rfl) ⟨(Nat.le_of_ble_eq_true rfl), (Nat.le_of_ble_eq_true rfl)⟩ hph pl7 (show 0 + 0 = 0 from rfl) (by decide) (fun rh11 Lh11 clh11 lnh11 ivh11 rvh11 h11 => ?_)
                obtain ⟨f11, rfl, rfl, rfl, rfl, rfl, rfl, rgf11, exf11⟩ := h11
                refine c_st (st2 := [.int (iI f11), .int (iI wy), .ref a0]) rfl ?_
                refine d_callV (As := [.int (iI wy), .int (iI f11)]) (rest := []) C hM (C_refuseAt (a0 := a0) (x := wy) (y := f11) Wb1 skb1 ty7 (by omega) (by omega) ) dX11_set_223 kV_X11_266 rfl ty7 rfl rfl (by decide) ck_12 rfl (Nat.le_of_ble_eq_true rfl) ⟨(Nat.le_of_ble_eq_true rfl), (Nat.le_of_ble_eq_true rfl)⟩ hph pl7 (show 0 + 0 = 0 from rfl) (by decide) (fun rh12 Lh12 clh12 lnh12 ivh12 rvh12 h12 => ?_)
                obtain ⟨f12, rfl, rfl, rfl, rfl, rfl, fl12, W12, rgf12, exf12, kp11f12, kp12f12, kp13f12, kp14f12, kp15f12, kp16f12⟩ := h12
                have ri53 : 1 ≤ ivb1 a0 11 ∧ ivb1 a0 11 ≤ 100 := Wb1.int ty7 11
                have ri54 : 1 ≤ ivb1 a0 12 ∧ ivb1 a0 12 ≤ 50 := Wb1.int ty7 12
                have ri55 : (-2147483648) ≤ ivb1 a0 13 ∧ ivb1 a0 13 ≤ 2147483647 := Wb1.int ty7 13
                have ri56 : (-2147483648) ≤ ivb1 a0 14 ∧ ivb1 a0 14 ≤ 2147483647 := Wb1.int ty7 14
                have ri57 : (-2147483648) ≤ ivb1 a0 15 ∧ ivb1 a0 15 ≤ 2147483647 := Wb1.int ty7 15
                have ri58 : (-2147483648) ≤ ivb1 a0 16 ∧ ivb1 a0 16 ≤ 2147483647 := Wb1.int ty7 16
                have F8 := Fb1.call Xb1 fl12 rfl
                have mr8 := MRK.call mrb1 Wb1 skb1 XT.refl fl12 rfl rfl
                refine c_st (st2 := [.int (iI f12)]) rfl ?_
                have gk11f12 : ivh12 a0 11 = ivb1 a0 11 := kp11f12
                have gk12f12 : ivh12 a0 12 = ivb1 a0 12 := kp12f12
                have gk13f12 : ivh12 a0 13 = ivb1 a0 13 := kp13f12
                have gk14f12 : ivh12 a0 14 = ivb1 a0 14 := kp14f12
                have gk15f12 : ivh12 a0 15 = ivb1 a0 15 := kp15f12
                have gk16f12 : ivh12 a0 16 = ivb1 a0 16 := kp16f12
                have gf12 : f12 = -1 := exf12
                have ri59 : 1 ≤ ivh12 a0 11 ∧ ivh12 a0 11 ≤ 100 := W12.int ty7 11
                have ri60 : 1 ≤ ivh12 a0 12 ∧ ivh12 a0 12 ≤ 50 := W12.int ty7 12
                have ri61 : (-2147483648) ≤ ivh12 a0 13 ∧ ivh12 a0 13 ≤ 2147483647 := W12.int ty7 13
                have ri62 : (-2147483648) ≤ ivh12 a0 14 ∧ ivh12 a0 14 ≤ 2147483647 := W12.int ty7 14
                have ri63 : (-2147483648) ≤ ivh12 a0 15 ∧ ivh12 a0 15 ≤ 2147483647 := W12.int ty7 15
                have ri64 : (-2147483648) ≤ ivh12 a0 16 ∧ ivh12 a0 16 ≤ 2147483647 := W12.int ty7 16
                exact c_iret C dX11_set_226 rfl (by decide) (rom0 hph pl7 (by decide)) ⟨f12, rfl, Xb1, F8, W12, ⟨by omega, by omega⟩, trivial, (by omega), (by omega), (by omega), (by omega), (by omega), (by omega)⟩
              · refine c_aload_n (j := 4) (x := a0) C dX11_set_207 rfl ?_
                have ty9 := Xb1.ty t_a0
                have pl8 := Phi.le Wb1 skb1
                refine d_callV (As := []) (rest := []) C hM (C_publish (a0 := a0) Wb1 skb1 ty9  ) dX11_set_208 kV_X11_260 rfl ty9 rfl rfl (by decide) ck_12 rfl (Nat.le_of_ble_eq_true rfl) ⟨(Nat.le_of_ble_eq_true rfl), (Nat.le_of_ble_eq_true rfl)⟩ hph pl8 (show 0 + 0 = 0 from rfl) (by decide) (fun rh13 Lh13 clh13 lnh13 ivh13 rvh13 h13 => ?_)
                obtain ⟨f13, rfl, rfl, rfl, rfl, fl13, W13, rgf13, exf13, kp11f13, kp12f13, kp13f13, kp14f13, kp15f13, kp16f13⟩ := h13
                have ri65 : 1 ≤ ivb1 a0 11 ∧ ivb1 a0 11 ≤ 100 := Wb1.int ty9 11
                have ri66 : 1 ≤ ivb1 a0 12 ∧ ivb1 a0 12 ≤ 50 := Wb1.int ty9 12
                have ri67 : (-2147483648) ≤ ivb1 a0 13 ∧ ivb1 a0 13 ≤ 2147483647 := Wb1.int ty9 13
                have ri68 : (-2147483648) ≤ ivb1 a0 14 ∧ ivb1 a0 14 ≤ 2147483647 := Wb1.int ty9 14
                have ri69 : (-2147483648) ≤ ivb1 a0 15 ∧ ivb1 a0 15 ≤ 2147483647 := Wb1.int ty9 15
                have ri70 : (-2147483648) ≤ ivb1 a0 16 ∧ ivb1 a0 16 ≤ 2147483647 := Wb1.int ty9 16
                have F9 := Fb1.call Xb1 fl13 rfl
                have mr9 := MRK.call mrb1 Wb1 skb1 XT.refl fl13 rfl rfl
                refine c_st (st2 := [.int (iI f13)]) rfl ?_
                have gk11f13 : ivh13 a0 11 = ivb1 a0 11 := kp11f13
                have gk12f13 : ivh13 a0 12 = ivb1 a0 12 := kp12f13
                have gk13f13 : ivh13 a0 13 = ivb1 a0 13 := kp13f13
                have gk14f13 : ivh13 a0 14 = ivb1 a0 14 := kp14f13
                have gk15f13 : ivh13 a0 15 = ivb1 a0 15 := kp15f13
                have gk16f13 : ivh13 a0 16 = ivb1 a0 16 := kp16f13
                refine c_goto (tgt := 226) C dX11_set_211 (by decide) ?_
                have ri71 : 1 ≤ ivh13 a0 11 ∧ ivh13 a0 11 ≤ 100 := W13.int ty9 11
                have ri72 : 1 ≤ ivh13 a0 12 ∧ ivh13 a0 12 ≤ 50 := W13.int ty9 12
                have ri73 : (-2147483648) ≤ ivh13 a0 13 ∧ ivh13 a0 13 ≤ 2147483647 := W13.int ty9 13
                have ri74 : (-2147483648) ≤ ivh13 a0 14 ∧ ivh13 a0 14 ≤ 2147483647 := W13.int ty9 14
                have ri75 : (-2147483648) ≤ ivh13 a0 15 ∧ ivh13 a0 15 ≤ 2147483647 := W13.int ty9 15
                have ri76 : (-2147483648) ≤ ivh13 a0 16 ∧ ivh13 a0 16 ≤ 2147483647 := W13.int ty9 16
                have pl9 := Phi.le W13 skb1
                exact c_iret C dX11_set_226 rfl (by decide) (rom0 hph pl9 (by decide)) ⟨f13, rfl, Xb1, F9, W13, ⟨by omega, by omega⟩, trivial, (by omega), (by omega), (by omega), (by omega), (by omega), (by omega)⟩
            · have J1 : ∀ (wy2 ok : Int) (Lb2 : List Nat) (clb2 lnb2 : Nat → Nat) (ivb2 : Nat → Nat → Int) (rvb2 : Nat → Nat → Option Nat) , XT L cl ln Lb2 clb2 lnb2 → WT (g0 G) sk Lb2 clb2 lnb2 ivb2 rvb2 → fT [1, 14, 15, 50, 51, 52, 53, 54, 55, 18, 19, 64, 67, 203] L cl iv rv ivb2 rvb2 → (0 ≤ wy2 ∧ wy2 ≤ 9) → (0 ≤ ok ∧ ok ≤ 1) → (0 ≤ ivb2 (sk 14) 0 ∧ ivb2 (sk 14) 0 ≤ 501 ∧ (ivb2 (sk 14) 1 = 0 ∨ ivb2 (sk 14) 0 ≤ 500)) → (ivb2 a0 11 = iv a0 11) → (ivb2 a0 12 = iv a0 12) → (ivb2 a0 13 = iv a0 13) → (ivb2 a0 14 = iv a0 14) → (ivb2 a0 15 = iv a0 15) → (ivb2 a0 16 = iv a0 16) → cw p l e 8 ((PHM) + 0 - ((Phi (g0 G) sk) ln rv)) s m args below meth c G A 7 (MQ below (Qu G A (Qp G (Phi (g0 G) sk) ((Phi (g0 G) sk) ln rv) 0 (fun v L2 cl2 ln2 iv2 rv2 => ∃ f : Int, v = some (.int (iI f)) ∧ XT L cl ln L2 cl2 ln2 ∧ fT [1, 14, 15, 50, 51, 52, 53, 54, 55, 18, 19, 64, 67, 203] L cl iv rv iv2 rv2 ∧ WT (g0 G) sk L2 cl2 ln2 iv2 rv2 ∧ (-2147483648 ≤ f ∧ f ≤ 2147483647) ∧ (True) ∧ iv2 a0 11 = iv a0 11 ∧ iv2 a0 12 = iv a0 12 ∧ iv2 a0 13 = iv a0 13 ∧ iv2 a0 14 = iv a0 14 ∧ iv2 a0 15 = iv a0 15 ∧ iv2 a0 16 = iv a0 16))) args s (((PHM) + 0 - ((Phi (g0 G) sk) ln rv)) / 16) ((PHM) + 0 - ((Phi (g0 G) sk) ln rv)) A) (Phi (g0 G) sk) ((Phi (g0 G) sk) ln rv) Lb2 clb2 lnb2 ivb2 rvb2 0 165 [(3, .int (iI wy2)), (6, .int (iI ok)), (4, .int (iI cm)), (5, .int (iI k)), (2, .ref ob1), (0, .ref a0), (1, .int (iI i))] [] := by
                intro  wy2 ok Lb2 clb2 lnb2 ivb2 rvb2 Xb2 Wb2 Fb2  hwy2 hok hsr2 hkp11 hkp12 hkp13 hkp14 hkp15 hkp16
                have skb2 := Xb2.skl hS
                have mrb2 := MRK.call hmr hW hS Xb2 Fb2 rfl rfl
                refine c_iload (j := 1) C dX11_set_165 rfl ?_
                refine c_if_ne (tgt := 176) C ⟨by omega, by omega⟩ dX11_set_167 (by decide) (fun c7 => ?_) (fun c7 => ?_)
                · refine c_iload_n (j := 0) C dX11_set_176 rfl ?_
                  refine c_if_ne (tgt := 197) C ⟨by omega, by omega⟩ dX11_set_177 (by decide) (fun c8 => ?_) (fun c8 => ?_)
                  · refine c_iinc (z := k) (j := 3) (lv2 := [(5, .int (iI (k + 1))), (3, .int (iI wy2)), (6, .int (iI ok)), (4, .int (iI cm)), (2, .ref ob1), (0, .ref a0), (1, .int (iI i))]) C dX11_set_197 rfl (by decide) rfl ?_
                    refine c_goto (tgt := 55) C dX11_set_200 (by decide) ?_
                    have ty10 := Xb2.ty tsk14
                    have ri77 : (-2147483648) ≤ ivb2 (sk 14) 0 ∧ ivb2 (sk 14) 0 ≤ 2147483647 := Wb2.int ty10 0
                    have ri78 : 0 ≤ ivb2 (sk 14) 1 ∧ ivb2 (sk 14) 1 ≤ 1 := Wb2.int ty10 1
                    have ty11 := Xb2.ty t_a0
                    have ri79 : 1 ≤ ivb2 a0 11 ∧ ivb2 a0 11 ≤ 100 := Wb2.int ty11 11
                    have ri80 : 1 ≤ ivb2 a0 12 ∧ ivb2 a0 12 ≤ 50 := Wb2.int ty11 12
                    have ri81 : (-2147483648) ≤ ivb2 a0 13 ∧ ivb2 a0 13 ≤ 2147483647 := Wb2.int ty11 13
                    have ri82 : (-2147483648) ≤ ivb2 a0 14 ∧ ivb2 a0 14 ≤ 2147483647 := Wb2.int ty11 14
                    have ri83 : (-2147483648) ≤ ivb2 a0 15 ∧ ivb2 a0 15 ≤ 2147483647 := Wb2.int ty11 15
                    have ri84 : (-2147483648) ≤ ivb2 a0 16 ∧ ivb2 a0 16 ≤ 2147483647 := Wb2.int ty11 16
                    refine c_lv (lv2 := [(3, .int (iI wy2)), (4, .int (iI cm)), (5, .int (iI (k + 1))), (2, .ref ob1), (0, .ref a0), (1, .int (iI i))]) [1, 3, 0, 4, 5, 6] rfl ?_
                    exact ih1  wy2 cm (k + 1) _ _ _ _ _ (by omega) Xb2 Wb2 Fb2  (by omega) (by omega) (by omega) (by show 0 ≤ ivb2 (sk 14) 0 ∧ ivb2 (sk 14) 0 ≤ 501 ∧ (ivb2 (sk 14) 1 = 0 ∨ ivb2 (sk 14) 0 ≤ 500); omega) (by show ivb2 a0 11 = iv a0 11; omega) (by show ivb2 a0 12 = iv a0 12; omega) (by show ivb2 a0 13 = iv a0 13; omega) (by show ivb2 a0 14 = iv a0 14; omega) (by show ivb2 a0 15 = iv a0 15; omega) (by show ivb2 a0 16 = iv a0 16; omega)
                  · refine c_aload_n (j := 5) (x := a0) C dX11_set_180 rfl ?_
                    have ty12 := Xb2.ty t_a0
                    obtain ⟨rb9, rq9, trb9⟩ := Wb2.ref ty12 5 rfl rfl rfl
                    have erb9 := Wb2.sk trb9 (by decide) rfl
                    subst erb9
                    refine c_getr (k := 5) C ck_12 dX11_set_181 w2_49 (by decide) ty12 rfl rfl (by decide) rfl rq9 ?_
                    refine c_st (st2 := [.ref (sk 14)]) rfl ?_
                    refine c_aload_n (j := 5) (x := a0) C dX11_set_184 rfl ?_
                    obtain ⟨rb10, rq10, trb10⟩ := Wb2.ref ty12 1 rfl rfl rfl
                    have erb10 := Wb2.sk trb10 (by decide) rfl
                    subst erb10
                    refine c_getr (k := 1) C ck_12 dX11_set_185 w2_45 (by decide) ty12 rfl rfl (by decide) rfl rq10 ?_
                    refine c_st (st2 := [.ref (sk 3), .ref (sk 14)]) rfl ?_
                    refine c_aload_n (j := 5) (x := a0) C dX11_set_188 rfl ?_
                    obtain ⟨rb11, rq11, trb11⟩ := Wb2.ref ty12 6 rfl rfl rfl
                    have erb11 := Wb2.sk trb11 (by decide) rfl
                    subst erb11
                    refine c_getr (k := 6) C ck_12 dX11_set_189 w2_50 (by decide) ty12 rfl rfl (by decide) rfl rq11 ?_
                    refine c_st (st2 := [.ref (sk 15), .ref (sk 3), .ref (sk 14)]) rfl ?_
                    have ty13 := Xb2.ty tsk14
                    have ty14 := Xb2.ty tsk3
                    have ty15 := Xb2.ty tsk15
                    have ri85 : (-2147483648) ≤ ivb2 (sk 14) 0 ∧ ivb2 (sk 14) 0 ≤ 2147483647 := Wb2.int ty13 0
                    have ri86 : 0 ≤ ivb2 (sk 14) 1 ∧ ivb2 (sk 14) 1 ≤ 1 := Wb2.int ty13 1
                    have pl10 := Phi.le Wb2 skb2
                    refine d_callV (As := [.ref (sk 3), .ref (sk 15)]) (rest := []) C hM (C_sstep (a0 := (sk 14)) (a1 := (sk 3)) (a2 := (sk 15)) Wb2 skb2 ty13 ty14 ty15  (by show 0 ≤ ivb2 (sk 14) 0 ∧ ivb2 (sk 14) 0 ≤ 501 ∧ (ivb2 (sk 14) 1 = 0 ∨ ivb2 (sk 14) 0 ≤ 500); omega)) dX11_set_192 kV_X11_238 rfl ty13 rfl rfl (by decide) ck_9 rfl (Nat.le_of_ble_eq_true rfl) ⟨(Nat.le_of_ble_eq_true rfl), (Nat.le_of_ble_eq_true rfl)⟩ hph pl10 (show 0 + 0 = 0 from rfl) (by decide) (fun rh14 Lh14 clh14 lnh14 ivh14 rvh14 h14 => ?_)
                    obtain ⟨f14, rfl, rfl, rfl, rfl, rfl, fl14, W14, rgf14, exf14⟩ := h14
                    have F10 := Fb2.call Xb2 fl14 rfl
                    have mr10 := MRK.call mrb2 Wb2 skb2 XT.refl fl14 rfl rfl
                    refine c_st (st2 := [.int (iI f14)]) rfl ?_
                    have ri87 : (-2147483648) ≤ ivh14 (sk 14) 0 ∧ ivh14 (sk 14) 0 ≤ 2147483647 := W14.int ty13 0
                    have ri88 : 0 ≤ ivh14 (sk 14) 1 ∧ ivh14 (sk 14) 1 ≤ 1 := W14.int ty13 1
                    have gf14 : (0 ≤ f14 ∧ f14 ≤ 3) ∧ 0 ≤ ivh14 (sk 14) 0 ∧ ivh14 (sk 14) 0 ≤ 501 ∧ (ivh14 (sk 14) 1 = 0 ∨ ivh14 (sk 14) 0 ≤ 500) := exf14
                    refine c_istore (lv2 := [(4, .int (iI f14)), (3, .int (iI wy2)), (6, .int (iI ok)), (5, .int (iI k)), (2, .ref ob1), (0, .ref a0), (1, .int (iI i))]) C dX11_set_195 (by decide) rfl ?_
                    refine c_iinc (z := k) (j := 3) (lv2 := [(5, .int (iI (k + 1))), (4, .int (iI f14)), (3, .int (iI wy2)), (6, .int (iI ok)), (2, .ref ob1), (0, .ref a0), (1, .int (iI i))]) C dX11_set_197 rfl (by decide) rfl ?_
                    refine c_goto (tgt := 55) C dX11_set_200 (by decide) ?_
                    have ri89 : 1 ≤ ivh14 a0 11 ∧ ivh14 a0 11 ≤ 100 := W14.int ty12 11
                    have ie89 : ivh14 a0 11 = ivb2 a0 11 := fl14.i ty12 rfl 11
                    have ri90 : 1 ≤ ivh14 a0 12 ∧ ivh14 a0 12 ≤ 50 := W14.int ty12 12
                    have ie91 : ivh14 a0 12 = ivb2 a0 12 := fl14.i ty12 rfl 12
                    have ri91 : (-2147483648) ≤ ivh14 a0 13 ∧ ivh14 a0 13 ≤ 2147483647 := W14.int ty12 13
                    have ie93 : ivh14 a0 13 = ivb2 a0 13 := fl14.i ty12 rfl 13
                    have ri92 : (-2147483648) ≤ ivh14 a0 14 ∧ ivh14 a0 14 ≤ 2147483647 := W14.int ty12 14
                    have ie95 : ivh14 a0 14 = ivb2 a0 14 := fl14.i ty12 rfl 14
                    have ri93 : (-2147483648) ≤ ivh14 a0 15 ∧ ivh14 a0 15 ≤ 2147483647 := W14.int ty12 15
                    have ie97 : ivh14 a0 15 = ivb2 a0 15 := fl14.i ty12 rfl 15
                    have ri94 : (-2147483648) ≤ ivh14 a0 16 ∧ ivh14 a0 16 ≤ 2147483647 := W14.int ty12 16
                    have ie99 : ivh14 a0 16 = ivb2 a0 16 := fl14.i ty12 rfl 16
                    refine c_lv (lv2 := [(3, .int (iI wy2)), (4, .int (iI f14)), (5, .int (iI (k + 1))), (2, .ref ob1), (0, .ref a0), (1, .int (iI i))]) [2, 1, 0, 4, 5, 6] rfl ?_
                    exact ih1  wy2 f14 (k + 1) _ _ _ _ _ (by omega) Xb2 W14 F10  (by omega) (by omega) (by omega) (by show 0 ≤ ivh14 (sk 14) 0 ∧ ivh14 (sk 14) 0 ≤ 501 ∧ (ivh14 (sk 14) 1 = 0 ∨ ivh14 (sk 14) 0 ≤ 500); omega) (by show ivh14 a0 11 = iv a0 11; omega) (by show ivh14 a0 12 = iv a0 12; omega) (by show ivh14 a0 13 = iv a0 13; omega) (by show ivh14 a0 14 = iv a0 14; omega) (by show ivh14 a0 15 = iv a0 15; omega) (by show ivh14 a0 16 = iv a0 16; omega)
                · refine c_bipush (z := 6) C dX11_set_170 (by decide) ?_
                  refine c_istore_n (lv2 := [(3, .int (iI 6)), (6, .int (iI ok)), (4, .int (iI cm)), (5, .int (iI k)), (2, .ref ob1), (0, .ref a0), (1, .int (iI i))]) C dX11_set_172 (by decide) rfl ?_
                  refine c_goto (tgt := 197) C dX11_set_173 (by decide) ?_
                  refine c_iinc (z := k) (j := 3) (lv2 := [(5, .int (iI (k + 1))), (3, .int (iI 6)), (6, .int (iI ok)), (4, .int (iI cm)), (2, .ref ob1), (0, .ref a0), (1, .int (iI i))]) C dX11_set_197 rfl (by decide) rfl ?_
                  refine c_goto (tgt := 55) C dX11_set_200 (by decide) ?_
                  have ty16 := Xb2.ty tsk14
                  have ri95 : (-2147483648) ≤ ivb2 (sk 14) 0 ∧ ivb2 (sk 14) 0 ≤ 2147483647 := Wb2.int ty16 0
                  have ri96 : 0 ≤ ivb2 (sk 14) 1 ∧ ivb2 (sk 14) 1 ≤ 1 := Wb2.int ty16 1
                  have ty17 := Xb2.ty t_a0
                  have ri97 : 1 ≤ ivb2 a0 11 ∧ ivb2 a0 11 ≤ 100 := Wb2.int ty17 11
                  have ri98 : 1 ≤ ivb2 a0 12 ∧ ivb2 a0 12 ≤ 50 := Wb2.int ty17 12
                  have ri99 : (-2147483648) ≤ ivb2 a0 13 ∧ ivb2 a0 13 ≤ 2147483647 := Wb2.int ty17 13
                  have ri100 : (-2147483648) ≤ ivb2 a0 14 ∧ ivb2 a0 14 ≤ 2147483647 := Wb2.int ty17 14
                  have ri101 : (-2147483648) ≤ ivb2 a0 15 ∧ ivb2 a0 15 ≤ 2147483647 := Wb2.int ty17 15
                  have ri102 : (-2147483648) ≤ ivb2 a0 16 ∧ ivb2 a0 16 ≤ 2147483647 := Wb2.int ty17 16
                  refine c_lv (lv2 := [(3, .int (iI 6)), (4, .int (iI cm)), (5, .int (iI (k + 1))), (2, .ref ob1), (0, .ref a0), (1, .int (iI i))]) [1, 3, 0, 4, 5, 6] rfl ?_
                  exact ih1  6 cm (k + 1) _ _ _ _ _ (by omega) Xb2 Wb2 Fb2  (by omega) (by omega) (by omega) (by show 0 ≤ ivb2 (sk 14) 0 ∧ ivb2 (sk 14) 0 ≤ 501 ∧ (ivb2 (sk 14) 1 = 0 ∨ ivb2 (sk 14) 0 ≤ 500); omega) (by show ivb2 a0 11 = iv a0 11; omega) (by show ivb2 a0 12 = iv a0 12; omega) (by show ivb2 a0 13 = iv a0 13; omega) (by show ivb2 a0 14 = iv a0 14; omega) (by show ivb2 a0 15 = iv a0 15; omega) (by show ivb2 a0 16 = iv a0 16; omega)
              refine c_iconst C dX11_set_71 ?_
              refine c_istore (lv2 := [(6, .int (iI 1)), (3, .int (iI wy)), (4, .int (iI cm)), (5, .int (iI k)), (2, .ref ob1), (0, .ref a0), (1, .int (iI i))]) C dX11_set_72 (by decide) rfl ?_
              refine c_iload (j := 2) C dX11_set_74 rfl ?_
              refine c_iconst C dX11_set_76 ?_
              refine c_icmp_ne (tgt := 92) C ⟨by omega, by omega⟩ ⟨by decide, by decide⟩ dX11_set_77 (by decide) (fun c9 => ?_) (fun c9 => ?_)
              · refine c_iload (j := 2) C dX11_set_92 rfl ?_
                refine c_iconst C dX11_set_94 ?_
                refine c_icmp_ne (tgt := 119) C ⟨by omega, by omega⟩ ⟨by decide, by decide⟩ dX11_set_95 (by decide) (fun c10 => ?_) (fun c10 => ?_)
                · refine c_aload_n (j := 5) (x := a0) C dX11_set_119 rfl ?_
                  have ty18 := Xb1.ty t_a0
                  obtain ⟨rb12, rq12, trb12⟩ := Wb1.ref ty18 6 rfl rfl rfl
                  have erb12 := Wb1.sk trb12 (by decide) rfl
                  subst erb12
                  refine c_getr (k := 6) C ck_12 dX11_set_120 w2_50 (by decide) ty18 rfl rfl (by decide) rfl rq12 ?_
                  refine c_st (st2 := [.ref (sk 15)]) rfl ?_
                  refine c_aload_n (j := 4) (x := ob1) C dX11_set_123 rfl ?_
                  have ty19 := Xb1.ty tsk15
                  have ty20 := Xb1.ty tob1
                  have ri103 : 0 ≤ ivb1 (sk 15) 4 ∧ ivb1 (sk 15) 4 ≤ 500 := Wb1.int ty19 4
                  have pl11 := Phi.le Wb1 skb1
                  refine d_callV (As := [.ref ob1]) (rest := []) C hM (C_setBy (a0 := (sk 15)) (a1 := ob1) Wb1 skb1 ty19 ty20  ) dX11_set_124 kV_X11_253 rfl ty19 rfl rfl (by decide) ck_7 rfl (Nat.le_of_ble_eq_true rfl) ⟨(Nat.le_of_ble_eq_true rfl), (Nat.le_of_ble_eq_true rfl)⟩ hph pl11 (show 0 + 0 = 0 from rfl) (by decide) (fun rh15 Lh15 clh15 lnh15 ivh15 rvh15 h15 => ?_)
                  obtain ⟨f15, rfl, rfl, rfl, rfl, rfl, fl15, W15, rgf15, exf15⟩ := h15
                  have F11 := Fb1.call Xb1 fl15 rfl
                  have mr11 := MRK.call mrb1 Wb1 skb1 XT.refl fl15 rfl rfl
                  refine c_st (st2 := [.int (iI f15)]) rfl ?_
                  have ri104 : 0 ≤ ivh15 (sk 15) 4 ∧ ivh15 (sk 15) 4 ≤ 500 := W15.int ty19 4
                  have ri105 : 0 ≤ ivh15 (sk 15) 7 ∧ ivh15 (sk 15) 7 ≤ 100000 := W15.int ty19 7
                  have gf15 : (f15 = 0 ∨ f15 = 6 ∨ f15 = 7) ∧ ivh15 (sk 15) 4 = ivb1 (sk 15) 4 ∧ (f15 = 0 → ivh15 (sk 15) 7 ≤ 200) := exf15
                  refine c_istore_n (lv2 := [(3, .int (iI f15)), (6, .int (iI 1)), (4, .int (iI cm)), (5, .int (iI k)), (2, .ref ob1), (0, .ref a0), (1, .int (iI i))]) C dX11_set_127 (by decide) rfl ?_
                  refine c_iload_n (j := 0) C dX11_set_128 rfl ?_
                  refine c_if_ne (tgt := 158) C ⟨by omega, by omega⟩ dX11_set_129 (by decide) (fun c11 => ?_) (fun c11 => ?_)
                  · refine c_iconst C dX11_set_158 ?_
                    refine c_goto (tgt := 163) C dX11_set_159 (by decide) ?_
                    refine c_istore (lv2 := [(6, .int (iI 1)), (3, .int (iI f15)), (4, .int (iI cm)), (5, .int (iI k)), (2, .ref ob1), (0, .ref a0), (1, .int (iI i))]) C dX11_set_163 (by decide) rfl ?_
                    have ty21 := Xb1.ty tsk14
                    have ri106 : (-2147483648) ≤ ivh15 (sk 14) 0 ∧ ivh15 (sk 14) 0 ≤ 2147483647 := W15.int ty21 0
                    have ie112 : ivh15 (sk 14) 0 = ivb1 (sk 14) 0 := fl15.i ty21 rfl 0
                    have ri107 : 0 ≤ ivh15 (sk 14) 1 ∧ ivh15 (sk 14) 1 ≤ 1 := W15.int ty21 1
                    have ie114 : ivh15 (sk 14) 1 = ivb1 (sk 14) 1 := fl15.i ty21 rfl 1
                    have ri108 : 1 ≤ ivh15 a0 11 ∧ ivh15 a0 11 ≤ 100 := W15.int ty18 11
                    have ie116 : ivh15 a0 11 = ivb1 a0 11 := fl15.i ty18 rfl 11
                    have ri109 : 1 ≤ ivh15 a0 12 ∧ ivh15 a0 12 ≤ 50 := W15.int ty18 12
                    have ie118 : ivh15 a0 12 = ivb1 a0 12 := fl15.i ty18 rfl 12
                    have ri110 : (-2147483648) ≤ ivh15 a0 13 ∧ ivh15 a0 13 ≤ 2147483647 := W15.int ty18 13
                    have ie120 : ivh15 a0 13 = ivb1 a0 13 := fl15.i ty18 rfl 13
                    have ri111 : (-2147483648) ≤ ivh15 a0 14 ∧ ivh15 a0 14 ≤ 2147483647 := W15.int ty18 14
                    have ie122 : ivh15 a0 14 = ivb1 a0 14 := fl15.i ty18 rfl 14
                    have ri112 : (-2147483648) ≤ ivh15 a0 15 ∧ ivh15 a0 15 ≤ 2147483647 := W15.int ty18 15
                    have ie124 : ivh15 a0 15 = ivb1 a0 15 := fl15.i ty18 rfl 15
                    have ri113 : (-2147483648) ≤ ivh15 a0 16 ∧ ivh15 a0 16 ≤ 2147483647 := W15.int ty18 16
                    have ie126 : ivh15 a0 16 = ivb1 a0 16 := fl15.i ty18 rfl 16
                    refine c_lv (lv2 := [(3, .int (iI f15)), (6, .int (iI 1)), (4, .int (iI cm)), (5, .int (iI k)), (2, .ref ob1), (0, .ref a0), (1, .int (iI i))]) [1, 0, 2, 3, 4, 5, 6] rfl ?_
                    exact J1  f15 1 _ _ _ _ _  Xb1 W15 F11  (by omega) (by omega) (by show 0 ≤ ivh15 (sk 14) 0 ∧ ivh15 (sk 14) 0 ≤ 501 ∧ (ivh15 (sk 14) 1 = 0 ∨ ivh15 (sk 14) 0 ≤ 500); omega) (by show ivh15 a0 11 = iv a0 11; omega) (by show ivh15 a0 12 = iv a0 12; omega) (by show ivh15 a0 13 = iv a0 13; omega) (by show ivh15 a0 14 = iv a0 14; omega) (by show ivh15 a0 15 = iv a0 15; omega) (by show ivh15 a0 16 = iv a0 16; omega)
                  · refine c_aload_n (j := 5) (x := a0) C dX11_set_132 rfl ?_
                    obtain ⟨rb13, rq13, trb13⟩ := W15.ref ty18 10 rfl rfl rfl
                    refine c_getr (k := 10) C ck_12 dX11_set_133 w2_54 (by decide) ty18 rfl rfl (by decide) rfl rq13 ?_
                    refine c_st (st2 := [.ref rb13]) rfl ?_
                    refine c_aload_n (j := 5) (x := a0) C dX11_set_136 rfl ?_
                    refine c_getr (k := 6) C ck_12 dX11_set_137 w2_50 (by decide) ty18 rfl rfl (by decide) rfl rq12 ?_
                    refine c_st (st2 := [.ref (sk 15), .ref rb13]) rfl ?_
                    refine c_aload_n (j := 4) (x := ob1) C dX11_set_140 rfl ?_
                    have ri114 : (-2147483648) ≤ ivh15 ob1 0 ∧ ivh15 ob1 0 ≤ 2147483647 := W15.int ty20 0
                    have ie128 : ivh15 ob1 0 = ivb1 ob1 0 := fl15.i ty20 rfl 0
                    have ie129 : ivb1 ob1 0 = iv ob1 0 := Fb1.i tob1 rfl 0
                    refine c_get (k := 0) C ck_10 dX11_set_141 w2_176 (by decide) ty20 rfl rfl (by decide) rfl ?_
                    refine c_aload_n (j := 5) (x := a0) C dX11_set_144 rfl ?_
                    have ri115 : 1 ≤ ivh15 a0 11 ∧ ivh15 a0 11 ≤ 100 := W15.int ty18 11
                    have ie130 : ivh15 a0 11 = ivb1 a0 11 := fl15.i ty18 rfl 11
                    refine c_get (k := 11) C ck_12 dX11_set_145 w2_55 (by decide) ty18 rfl rfl (by decide) rfl ?_
                    refine c_aload_n (j := 5) (x := a0) C dX11_set_148 rfl ?_
                    have ri116 : (-2147483648) ≤ ivh15 a0 13 ∧ ivh15 a0 13 ≤ 2147483647 := W15.int ty18 13
                    have ie132 : ivh15 a0 13 = ivb1 a0 13 := fl15.i ty18 rfl 13
                    refine c_get (k := 13) C ck_12 dX11_set_149 w2_57 (by decide) ty18 rfl rfl (by decide) rfl ?_
                    refine d_callV (As := [.ref (sk 15), .int (iI (ivh15 ob1 0)), .int (iI (ivh15 a0 11)), .int (iI (ivh15 a0 13))]) (rest := []) C hM (C_take (a0 := rb13) (a1 := (sk 15)) (x := ivh15 ob1 0) (w1 := ivh15 a0 11) (h1 := ivh15 a0 13) W15 skb1 trb13 ty19 (by omega) (by omega) (by omega) (by show 1 ≤ (ivh15 a0 11) ∧ (ivh15 a0 11) ≤ 100; omega)) dX11_set_152 kV_X11_256 rfl trb13 rfl rfl (by decide) ck_8 rfl (Nat.le_of_ble_eq_true rfl) ⟨(Nat.le_of_ble_eq_true rfl), (Nat.le_of_ble_eq_true rfl)⟩ hph pl11 (show 0 + 0 = 0 from rfl) (by decide) (fun rh16 Lh16 clh16 lnh16 ivh16 rvh16 h16 => ?_)
                    obtain ⟨f16, rfl, xl16, fl16, W16, rgf16, exf16⟩ := h16
                    have F12 := F11.call Xb1 fl16 rfl
                    have mr12 := MRK.call mr11 W15 skb1 xl16 fl16 rfl rfl
                    have ty22 := Xb1.ty tsk2
                    have ty23 := Xb1.ty tsk3
                    have ty24 := Xb1.ty tsk4
                    have ty25 := Xb1.ty tsk5
                    have ty26 := Xb1.ty tsk13
                    have ty27 := Xb1.ty tsk14
                    have ty28 := Xb1.ty tsk16
                    have ty29 := Xb1.ty tsk17
                    have ty30 := Xb1.ty tsk22
                    have ty31 := Xb1.ty tsk23
                    have ty32 := Xb1.ty trb2
                    have X1 := Xb1.trans xl16
                    have sk1 := xl16.skl skb1
                    refine c_st (st2 := [.int (iI f16)]) rfl ?_
                    refine c_if_eq (tgt := 162) C ⟨by omega, by omega⟩ dX11_set_155 (by decide) (fun c12 => ?_) (fun c12 => ?_)
                    · refine c_iconst C dX11_set_162 ?_
                      refine c_istore (lv2 := [(6, .int (iI 0)), (3, .int (iI f15)), (4, .int (iI cm)), (5, .int (iI k)), (2, .ref ob1), (0, .ref a0), (1, .int (iI i))]) C dX11_set_163 (by decide) rfl ?_
                      have ty33 := xl16.ty ty27
                      have ri117 : (-2147483648) ≤ ivh16 (sk 14) 0 ∧ ivh16 (sk 14) 0 ≤ 2147483647 := W16.int ty33 0
                      have ie134 : ivh16 (sk 14) 0 = ivh15 (sk 14) 0 := fl16.i ty27 rfl 0
                      have ie135 : ivh15 (sk 14) 0 = ivb1 (sk 14) 0 := fl15.i ty27 rfl 0
                      have ri118 : 0 ≤ ivh16 (sk 14) 1 ∧ ivh16 (sk 14) 1 ≤ 1 := W16.int ty33 1
                      have ie137 : ivh16 (sk 14) 1 = ivh15 (sk 14) 1 := fl16.i ty27 rfl 1
                      have ie138 : ivh15 (sk 14) 1 = ivb1 (sk 14) 1 := fl15.i ty27 rfl 1
                      have ty34 := xl16.ty ty18
                      have ri119 : 1 ≤ ivh16 a0 11 ∧ ivh16 a0 11 ≤ 100 := W16.int ty34 11
                      have ie140 : ivh16 a0 11 = ivh15 a0 11 := fl16.i ty18 rfl 11
                      have ri120 : 1 ≤ ivh16 a0 12 ∧ ivh16 a0 12 ≤ 50 := W16.int ty34 12
                      have ie141 : ivh16 a0 12 = ivh15 a0 12 := fl16.i ty18 rfl 12
                      have ie142 : ivh15 a0 12 = ivb1 a0 12 := fl15.i ty18 rfl 12
                      have ri121 : (-2147483648) ≤ ivh16 a0 13 ∧ ivh16 a0 13 ≤ 2147483647 := W16.int ty34 13
                      have ie144 : ivh16 a0 13 = ivh15 a0 13 := fl16.i ty18 rfl 13
                      have ri122 : (-2147483648) ≤ ivh16 a0 14 ∧ ivh16 a0 14 ≤ 2147483647 := W16.int ty34 14
                      have ie145 : ivh16 a0 14 = ivh15 a0 14 := fl16.i ty18 rfl 14
                      have ie146 : ivh15 a0 14 = ivb1 a0 14 := fl15.i ty18 rfl 14
                      have ri123 : (-2147483648) ≤ ivh16 a0 15 ∧ ivh16 a0 15 ≤ 2147483647 := W16.int ty34 15
                      have ie148 : ivh16 a0 15 = ivh15 a0 15 := fl16.i ty18 rfl 15
                      have ie149 : ivh15 a0 15 = ivb1 a0 15 := fl15.i ty18 rfl 15
                      have ri124 : (-2147483648) ≤ ivh16 a0 16 ∧ ivh16 a0 16 ≤ 2147483647 := W16.int ty34 16
                      have ie151 : ivh16 a0 16 = ivh15 a0 16 := fl16.i ty18 rfl 16
                      have ie152 : ivh15 a0 16 = ivb1 a0 16 := fl15.i ty18 rfl 16
                      refine c_lv (lv2 := [(3, .int (iI f15)), (6, .int (iI 0)), (4, .int (iI cm)), (5, .int (iI k)), (2, .ref ob1), (0, .ref a0), (1, .int (iI i))]) [1, 0, 2, 3, 4, 5, 6] rfl ?_
                      exact J1  f15 0 _ _ _ _ _  X1 W16 F12  (by omega) (by omega) (by show 0 ≤ ivh16 (sk 14) 0 ∧ ivh16 (sk 14) 0 ≤ 501 ∧ (ivh16 (sk 14) 1 = 0 ∨ ivh16 (sk 14) 0 ≤ 500); omega) (by show ivh16 a0 11 = iv a0 11; omega) (by show ivh16 a0 12 = iv a0 12; omega) (by show ivh16 a0 13 = iv a0 13; omega) (by show ivh16 a0 14 = iv a0 14; omega) (by show ivh16 a0 15 = iv a0 15; omega) (by show ivh16 a0 16 = iv a0 16; omega)
                    · refine c_iconst C dX11_set_158 ?_
                      refine c_goto (tgt := 163) C dX11_set_159 (by decide) ?_
                      refine c_istore (lv2 := [(6, .int (iI 1)), (3, .int (iI f15)), (4, .int (iI cm)), (5, .int (iI k)), (2, .ref ob1), (0, .ref a0), (1, .int (iI i))]) C dX11_set_163 (by decide) rfl ?_
                      have ty35 := xl16.ty ty27
                      have ri125 : (-2147483648) ≤ ivh16 (sk 14) 0 ∧ ivh16 (sk 14) 0 ≤ 2147483647 := W16.int ty35 0
                      have ie154 : ivh16 (sk 14) 0 = ivh15 (sk 14) 0 := fl16.i ty27 rfl 0
                      have ie155 : ivh15 (sk 14) 0 = ivb1 (sk 14) 0 := fl15.i ty27 rfl 0
                      have ri126 : 0 ≤ ivh16 (sk 14) 1 ∧ ivh16 (sk 14) 1 ≤ 1 := W16.int ty35 1
                      have ie157 : ivh16 (sk 14) 1 = ivh15 (sk 14) 1 := fl16.i ty27 rfl 1
                      have ie158 : ivh15 (sk 14) 1 = ivb1 (sk 14) 1 := fl15.i ty27 rfl 1
                      have ty36 := xl16.ty ty18
                      have ri127 : 1 ≤ ivh16 a0 11 ∧ ivh16 a0 11 ≤ 100 := W16.int ty36 11
                      have ie160 : ivh16 a0 11 = ivh15 a0 11 := fl16.i ty18 rfl 11
                      have ri128 : 1 ≤ ivh16 a0 12 ∧ ivh16 a0 12 ≤ 50 := W16.int ty36 12
                      have ie161 : ivh16 a0 12 = ivh15 a0 12 := fl16.i ty18 rfl 12
                      have ie162 : ivh15 a0 12 = ivb1 a0 12 := fl15.i ty18 rfl 12
                      have ri129 : (-2147483648) ≤ ivh16 a0 13 ∧ ivh16 a0 13 ≤ 2147483647 := W16.int ty36 13
                      have ie164 : ivh16 a0 13 = ivh15 a0 13 := fl16.i ty18 rfl 13
                      have ri130 : (-2147483648) ≤ ivh16 a0 14 ∧ ivh16 a0 14 ≤ 2147483647 := W16.int ty36 14
                      have ie165 : ivh16 a0 14 = ivh15 a0 14 := fl16.i ty18 rfl 14
                      have ie166 : ivh15 a0 14 = ivb1 a0 14 := fl15.i ty18 rfl 14
                      have ri131 : (-2147483648) ≤ ivh16 a0 15 ∧ ivh16 a0 15 ≤ 2147483647 := W16.int ty36 15
                      have ie168 : ivh16 a0 15 = ivh15 a0 15 := fl16.i ty18 rfl 15
                      have ie169 : ivh15 a0 15 = ivb1 a0 15 := fl15.i ty18 rfl 15
                      have ri132 : (-2147483648) ≤ ivh16 a0 16 ∧ ivh16 a0 16 ≤ 2147483647 := W16.int ty36 16
                      have ie171 : ivh16 a0 16 = ivh15 a0 16 := fl16.i ty18 rfl 16
                      have ie172 : ivh15 a0 16 = ivb1 a0 16 := fl15.i ty18 rfl 16
                      refine c_lv (lv2 := [(3, .int (iI f15)), (6, .int (iI 1)), (4, .int (iI cm)), (5, .int (iI k)), (2, .ref ob1), (0, .ref a0), (1, .int (iI i))]) [1, 0, 2, 3, 4, 5, 6] rfl ?_
                      exact J1  f15 1 _ _ _ _ _  X1 W16 F12  (by omega) (by omega) (by show 0 ≤ ivh16 (sk 14) 0 ∧ ivh16 (sk 14) 0 ≤ 501 ∧ (ivh16 (sk 14) 1 = 0 ∨ ivh16 (sk 14) 0 ≤ 500); omega) (by show ivh16 a0 11 = iv a0 11; omega) (by show ivh16 a0 12 = iv a0 12; omega) (by show ivh16 a0 13 = iv a0 13; omega) (by show ivh16 a0 14 = iv a0 14; omega) (by show ivh16 a0 15 = iv a0 15; omega) (by show ivh16 a0 16 = iv a0 16; omega)
                · refine c_aload_n (j := 5) (x := a0) C dX11_set_98 rfl ?_
                  have ty37 := Xb1.ty t_a0
                  obtain ⟨rb14, rq14, trb14⟩ := Wb1.ref ty37 10 rfl rfl rfl
                  refine c_getr (k := 10) C ck_12 dX11_set_99 w2_54 (by decide) ty37 rfl rfl (by decide) rfl rq14 ?_
                  refine c_st (st2 := [.ref rb14]) rfl ?_
                  refine c_aload_n (j := 5) (x := a0) C dX11_set_102 rfl ?_
                  obtain ⟨rb15, rq15, trb15⟩ := Wb1.ref ty37 5 rfl rfl rfl
                  have erb15 := Wb1.sk trb15 (by decide) rfl
                  subst erb15
                  refine c_getr (k := 5) C ck_12 dX11_set_103 w2_49 (by decide) ty37 rfl rfl (by decide) rfl rq15 ?_
                  refine c_st (st2 := [.ref (sk 14), .ref rb14]) rfl ?_
                  have ty38 := Xb1.ty tsk14
                  have ri133 : 0 ≤ ivb1 (sk 14) 2 ∧ ivb1 (sk 14) 2 ≤ 1 := Wb1.int ty38 2
                  refine c_get (k := 2) C ck_9 dX11_set_106 w1_106 (by decide) ty38 rfl rfl (by decide) rfl ?_
                  refine c_aload_n (j := 5) (x := a0) C dX11_set_109 rfl ?_
                  have ri134 : 1 ≤ ivb1 a0 11 ∧ ivb1 a0 11 ≤ 100 := Wb1.int ty37 11
                  refine c_get (k := 11) C ck_12 dX11_set_110 w2_55 (by decide) ty37 rfl rfl (by decide) rfl ?_
                  have pl12 := Phi.le Wb1 skb1
                  refine d_callV (As := [.int (iI (ivb1 (sk 14) 2)), .int (iI (ivb1 a0 11))]) (rest := []) C hM (C_endText (a0 := rb14) (g := ivb1 (sk 14) 2) (w1 := ivb1 a0 11) Wb1 skb1 trb14 (by omega) (by omega) (by show 1 ≤ (ivb1 a0 11) ∧ (ivb1 a0 11) ≤ 100; omega)) dX11_set_113 kV_X11_249 rfl trb14 rfl rfl (by decide) ck_8 rfl (Nat.le_of_ble_eq_true rfl) ⟨(Nat.le_of_ble_eq_true rfl), (Nat.le_of_ble_eq_true rfl)⟩ hph pl12 (show 0 + 0 = 0 from rfl) (by decide) (fun rh17 Lh17 clh17 lnh17 ivh17 rvh17 h17 => ?_)
                  obtain ⟨rfl, rfl, rfl, rfl, rfl, fl17, W17, exf17⟩ := h17
                  have F13 := Fb1.call Xb1 fl17 rfl
                  have mr13 := MRK.call mrb1 Wb1 skb1 XT.refl fl17 rfl rfl
                  refine c_st (st2 := []) rfl ?_
                  refine c_goto (tgt := 165) C dX11_set_116 (by decide) ?_
                  have ri135 : (-2147483648) ≤ ivh17 (sk 14) 0 ∧ ivh17 (sk 14) 0 ≤ 2147483647 := W17.int ty38 0
                  have ie176 : ivh17 (sk 14) 0 = ivb1 (sk 14) 0 := fl17.i ty38 rfl 0
                  have ri136 : 0 ≤ ivh17 (sk 14) 1 ∧ ivh17 (sk 14) 1 ≤ 1 := W17.int ty38 1
                  have ie178 : ivh17 (sk 14) 1 = ivb1 (sk 14) 1 := fl17.i ty38 rfl 1
                  have ri137 : 1 ≤ ivh17 a0 11 ∧ ivh17 a0 11 ≤ 100 := W17.int ty37 11
                  have ie180 : ivh17 a0 11 = ivb1 a0 11 := fl17.i ty37 rfl 11
                  have ri138 : 1 ≤ ivh17 a0 12 ∧ ivh17 a0 12 ≤ 50 := W17.int ty37 12
                  have ie181 : ivh17 a0 12 = ivb1 a0 12 := fl17.i ty37 rfl 12
                  have ri139 : (-2147483648) ≤ ivh17 a0 13 ∧ ivh17 a0 13 ≤ 2147483647 := W17.int ty37 13
                  have ie183 : ivh17 a0 13 = ivb1 a0 13 := fl17.i ty37 rfl 13
                  have ri140 : (-2147483648) ≤ ivh17 a0 14 ∧ ivh17 a0 14 ≤ 2147483647 := W17.int ty37 14
                  have ie185 : ivh17 a0 14 = ivb1 a0 14 := fl17.i ty37 rfl 14
                  have ri141 : (-2147483648) ≤ ivh17 a0 15 ∧ ivh17 a0 15 ≤ 2147483647 := W17.int ty37 15
                  have ie187 : ivh17 a0 15 = ivb1 a0 15 := fl17.i ty37 rfl 15
                  have ri142 : (-2147483648) ≤ ivh17 a0 16 ∧ ivh17 a0 16 ≤ 2147483647 := W17.int ty37 16
                  have ie189 : ivh17 a0 16 = ivb1 a0 16 := fl17.i ty37 rfl 16
                  refine c_lv (lv2 := [(3, .int (iI wy)), (6, .int (iI 1)), (4, .int (iI cm)), (5, .int (iI k)), (2, .ref ob1), (0, .ref a0), (1, .int (iI i))]) [1, 0, 2, 3, 4, 5, 6] rfl ?_
                  exact J1  wy 1 _ _ _ _ _  Xb1 W17 F13  (by omega) (by omega) (by show 0 ≤ ivh17 (sk 14) 0 ∧ ivh17 (sk 14) 0 ≤ 501 ∧ (ivh17 (sk 14) 1 = 0 ∨ ivh17 (sk 14) 0 ≤ 500); omega) (by show ivh17 a0 11 = iv a0 11; omega) (by show ivh17 a0 12 = iv a0 12; omega) (by show ivh17 a0 13 = iv a0 13; omega) (by show ivh17 a0 14 = iv a0 14; omega) (by show ivh17 a0 15 = iv a0 15; omega) (by show ivh17 a0 16 = iv a0 16; omega)
              · refine c_aload_n (j := 5) (x := a0) C dX11_set_80 rfl ?_
                have ty39 := Xb1.ty t_a0
                obtain ⟨rb16, rq16, trb16⟩ := Wb1.ref ty39 10 rfl rfl rfl
                refine c_getr (k := 10) C ck_12 dX11_set_81 w2_54 (by decide) ty39 rfl rfl (by decide) rfl rq16 ?_
                refine c_st (st2 := [.ref rb16]) rfl ?_
                have pl13 := Phi.le Wb1 skb1
                refine d_callV (As := []) (rest := []) C hM (C_beginText (a0 := rb16) Wb1 skb1 trb16  ) dX11_set_84 kV_X11_243 rfl trb16 rfl rfl (by decide) ck_8 rfl (Nat.le_of_ble_eq_true rfl) ⟨(Nat.le_of_ble_eq_true rfl), (Nat.le_of_ble_eq_true rfl)⟩ hph pl13 (show 0 + 0 = 0 from rfl) (by decide) (fun rh18 Lh18 clh18 lnh18 ivh18 rvh18 h18 => ?_)
                obtain ⟨f18, rfl, xl18, fl18, W18, rgf18, exf18⟩ := h18
                have F14 := Fb1.call Xb1 fl18 rfl
                have mr14 := MRK.call mrb1 Wb1 skb1 xl18 fl18 rfl rfl
                have ty40 := Xb1.ty tsk2
                have ty41 := Xb1.ty tsk3
                have ty42 := Xb1.ty tsk4
                have ty43 := Xb1.ty tsk5
                have ty44 := Xb1.ty tsk13
                have ty45 := Xb1.ty tsk14
                have ty46 := Xb1.ty tsk15
                have ty47 := Xb1.ty tsk16
                have ty48 := Xb1.ty tsk17
                have ty49 := Xb1.ty tsk22
                have ty50 := Xb1.ty tsk23
                have ty51 := Xb1.ty tob1
                have ty52 := Xb1.ty trb2
                have X2 := Xb1.trans xl18
                have sk2 := xl18.skl skb1
                refine c_st (st2 := [.int (iI f18)]) rfl ?_
                refine c_istore (lv2 := [(6, .int (iI f18)), (3, .int (iI wy)), (4, .int (iI cm)), (5, .int (iI k)), (2, .ref ob1), (0, .ref a0), (1, .int (iI i))]) C dX11_set_87 (by decide) rfl ?_
                refine c_goto (tgt := 165) C dX11_set_89 (by decide) ?_
                have ty53 := xl18.ty ty45
                have ri143 : (-2147483648) ≤ ivh18 (sk 14) 0 ∧ ivh18 (sk 14) 0 ≤ 2147483647 := W18.int ty53 0
                have ie191 : ivh18 (sk 14) 0 = ivb1 (sk 14) 0 := fl18.i ty45 rfl 0
                have ri144 : 0 ≤ ivh18 (sk 14) 1 ∧ ivh18 (sk 14) 1 ≤ 1 := W18.int ty53 1
                have ie193 : ivh18 (sk 14) 1 = ivb1 (sk 14) 1 := fl18.i ty45 rfl 1
                have ty54 := xl18.ty ty39
                have ri145 : 1 ≤ ivh18 a0 11 ∧ ivh18 a0 11 ≤ 100 := W18.int ty54 11
                have ie195 : ivh18 a0 11 = ivb1 a0 11 := fl18.i ty39 rfl 11
                have ri146 : 1 ≤ ivh18 a0 12 ∧ ivh18 a0 12 ≤ 50 := W18.int ty54 12
                have ie197 : ivh18 a0 12 = ivb1 a0 12 := fl18.i ty39 rfl 12
                have ri147 : (-2147483648) ≤ ivh18 a0 13 ∧ ivh18 a0 13 ≤ 2147483647 := W18.int ty54 13
                have ie199 : ivh18 a0 13 = ivb1 a0 13 := fl18.i ty39 rfl 13
                have ri148 : (-2147483648) ≤ ivh18 a0 14 ∧ ivh18 a0 14 ≤ 2147483647 := W18.int ty54 14
                have ie201 : ivh18 a0 14 = ivb1 a0 14 := fl18.i ty39 rfl 14
                have ri149 : (-2147483648) ≤ ivh18 a0 15 ∧ ivh18 a0 15 ≤ 2147483647 := W18.int ty54 15
                have ie203 : ivh18 a0 15 = ivb1 a0 15 := fl18.i ty39 rfl 15
                have ri150 : (-2147483648) ≤ ivh18 a0 16 ∧ ivh18 a0 16 ≤ 2147483647 := W18.int ty54 16
                have ie205 : ivh18 a0 16 = ivb1 a0 16 := fl18.i ty39 rfl 16
                refine c_lv (lv2 := [(3, .int (iI wy)), (6, .int (iI f18)), (4, .int (iI cm)), (5, .int (iI k)), (2, .ref ob1), (0, .ref a0), (1, .int (iI i))]) [1, 0, 2, 3, 4, 5, 6] rfl ?_
                exact J1  wy f18 _ _ _ _ _  X2 W18 F14  (by omega) (by omega) (by show 0 ≤ ivh18 (sk 14) 0 ∧ ivh18 (sk 14) 0 ≤ 501 ∧ (ivh18 (sk 14) 1 = 0 ∨ ivh18 (sk 14) 0 ≤ 500); omega) (by show ivh18 a0 11 = iv a0 11; omega) (by show ivh18 a0 12 = iv a0 12; omega) (by show ivh18 a0 13 = iv a0 13; omega) (by show ivh18 a0 14 = iv a0 14; omega) (by show ivh18 a0 15 = iv a0 15; omega) (by show ivh18 a0 16 = iv a0 16; omega)
    have ri151 : 1 ≤ ivh4 a0 11 ∧ ivh4 a0 11 ≤ 100 := W4.int t_a0 11
    have ie207 : ivh4 a0 11 = ivh3 a0 11 := fl4.i t_a0 rfl 11
    have ie208 : ivh3 a0 11 = ivh2 a0 11 := fl3.i t_a0 rfl 11
    have ie209 : ivh2 a0 11 = iv a0 11 := fl2.i t_a0 rfl 11
    have ri152 : 1 ≤ ivh4 a0 12 ∧ ivh4 a0 12 ≤ 50 := W4.int t_a0 12
    have ie210 : ivh4 a0 12 = ivh3 a0 12 := fl4.i t_a0 rfl 12
    have ie211 : ivh3 a0 12 = ivh2 a0 12 := fl3.i t_a0 rfl 12
    have ie212 : ivh2 a0 12 = iv a0 12 := fl2.i t_a0 rfl 12
    have ri153 : (-2147483648) ≤ ivh4 a0 13 ∧ ivh4 a0 13 ≤ 2147483647 := W4.int t_a0 13
    have ie213 : ivh4 a0 13 = ivh3 a0 13 := fl4.i t_a0 rfl 13
    have ie214 : ivh3 a0 13 = ivh2 a0 13 := fl3.i t_a0 rfl 13
    have ie215 : ivh2 a0 13 = iv a0 13 := fl2.i t_a0 rfl 13
    have ri154 : (-2147483648) ≤ ivh4 a0 14 ∧ ivh4 a0 14 ≤ 2147483647 := W4.int t_a0 14
    have ie216 : ivh4 a0 14 = ivh3 a0 14 := fl4.i t_a0 rfl 14
    have ie217 : ivh3 a0 14 = ivh2 a0 14 := fl3.i t_a0 rfl 14
    have ie218 : ivh2 a0 14 = iv a0 14 := fl2.i t_a0 rfl 14
    have ri155 : (-2147483648) ≤ ivh4 a0 15 ∧ ivh4 a0 15 ≤ 2147483647 := W4.int t_a0 15
    have ie219 : ivh4 a0 15 = ivh3 a0 15 := fl4.i t_a0 rfl 15
    have ie220 : ivh3 a0 15 = ivh2 a0 15 := fl3.i t_a0 rfl 15
    have ie221 : ivh2 a0 15 = iv a0 15 := fl2.i t_a0 rfl 15
    have ri156 : (-2147483648) ≤ ivh4 a0 16 ∧ ivh4 a0 16 ≤ 2147483647 := W4.int t_a0 16
    have ie222 : ivh4 a0 16 = ivh3 a0 16 := fl4.i t_a0 rfl 16
    have ie223 : ivh3 a0 16 = ivh2 a0 16 := fl3.i t_a0 rfl 16
    have ie224 : ivh2 a0 16 = iv a0 16 := fl2.i t_a0 rfl 16
    refine c_lv (lv2 := [(3, .int (iI 0)), (4, .int (iI f4)), (5, .int (iI 0)), (2, .ref ob1), (0, .ref a0), (1, .int (iI i))]) [2, 1, 0, 3, 4, 5] rfl ?_
    exact Lp1 1000003 0 f4 0 _ _ _ _ _ (by omega) hX0 W4 F3  (by omega) (by omega) (by omega) (by show 0 ≤ ivh4 (sk 14) 0 ∧ ivh4 (sk 14) 0 ≤ 501 ∧ (ivh4 (sk 14) 1 = 0 ∨ ivh4 (sk 14) 0 ≤ 500); omega) (by show ivh4 a0 11 = iv a0 11; omega) (by show ivh4 a0 12 = iv a0 12; omega) (by show ivh4 a0 13 = iv a0 13; omega) (by show ivh4 a0 14 = iv a0 14; omega) (by show ivh4 a0 15 = iv a0 15; omega) (by show ivh4 a0 16 = iv a0 16; omega)
  · subst oq1
    refine c_lv (lv2 := [(2, .null), (0, .ref a0), (1, .int (iI i))]) [0, 1, 2] rfl ?_
    refine c_st (st2 := []) rfl ?_
    refine c_aload_n (j := 1) (x := a0) C dX11_set_13 rfl ?_
    refine c_iconst C dX11_set_14 ?_
    refine d_callV (As := [.int (iI 3)]) (rest := []) C hM (C_refuse (a0 := a0) (x := 3) hW hS t_a0 ⟨by decide, by decide⟩ ) dX11_set_15 kV_X11_102 rfl t_a0 rfl rfl (by decide) ck_12 rfl (Nat.le_of_ble_eq_true rfl) ⟨(Nat.le_of_ble_eq_true rfl), (Nat.le_of_ble_eq_true rfl)⟩ hph hph (show 0 + 0 = 0 from rfl) (by decide) (fun rh19 Lh19 clh19 lnh19 ivh19 rvh19 h19 => ?_)
    obtain ⟨f19, rfl, rfl, rfl, rfl, rfl, fl19, W19, rgf19, exf19, kp11f19, kp12f19, kp13f19, kp14f19, kp15f19, kp16f19⟩ := h19
    have ri157 : 1 ≤ iv a0 11 ∧ iv a0 11 ≤ 100 := hW.int t_a0 11
    have ri158 : 1 ≤ iv a0 12 ∧ iv a0 12 ≤ 50 := hW.int t_a0 12
    have ri159 : (-2147483648) ≤ iv a0 13 ∧ iv a0 13 ≤ 2147483647 := hW.int t_a0 13
    have ri160 : (-2147483648) ≤ iv a0 14 ∧ iv a0 14 ≤ 2147483647 := hW.int t_a0 14
    have ri161 : (-2147483648) ≤ iv a0 15 ∧ iv a0 15 ≤ 2147483647 := hW.int t_a0 15
    have ri162 : (-2147483648) ≤ iv a0 16 ∧ iv a0 16 ≤ 2147483647 := hW.int t_a0 16
    have F15 := hF0.call hX0 fl19 rfl
    have mr15 := MRK.call hmr hW hS XT.refl fl19 rfl rfl
    refine c_st (st2 := [.int (iI f19)]) rfl ?_
    have gk11f19 : ivh19 a0 11 = iv a0 11 := kp11f19
    have gk12f19 : ivh19 a0 12 = iv a0 12 := kp12f19
    have gk13f19 : ivh19 a0 13 = iv a0 13 := kp13f19
    have gk14f19 : ivh19 a0 14 = iv a0 14 := kp14f19
    have gk15f19 : ivh19 a0 15 = iv a0 15 := kp15f19
    have gk16f19 : ivh19 a0 16 = iv a0 16 := kp16f19
    have gf19 : f19 = -1 := exf19
    have ri163 : 1 ≤ ivh19 a0 11 ∧ ivh19 a0 11 ≤ 100 := W19.int t_a0 11
    have ri164 : 1 ≤ ivh19 a0 12 ∧ ivh19 a0 12 ≤ 50 := W19.int t_a0 12
    have ri165 : (-2147483648) ≤ ivh19 a0 13 ∧ ivh19 a0 13 ≤ 2147483647 := W19.int t_a0 13
    have ri166 : (-2147483648) ≤ ivh19 a0 14 ∧ ivh19 a0 14 ≤ 2147483647 := W19.int t_a0 14
    have ri167 : (-2147483648) ≤ ivh19 a0 15 ∧ ivh19 a0 15 ≤ 2147483647 := W19.int t_a0 15
    have ri168 : (-2147483648) ≤ ivh19 a0 16 ∧ ivh19 a0 16 ≤ 2147483647 := W19.int t_a0 16
    exact c_iret C dX11_set_18 rfl (by decide) (rom0 hph hph (by decide)) ⟨f19, rfl, hX0, F15, W19, ⟨by omega, by omega⟩, trivial, (by omega), (by omega), (by omega), (by omega), (by omega), (by omega)⟩
set_option maxHeartbeats 4000000 in
set_option maxRecDepth 100000 in
theorem C_lines {l : Launch} {G : GT} {mi : Nat} {sk : Nat → Nat} {L : List Nat} {cl ln : Nat → Nat} {iv : Nat → Nat → Int} {rv : Nat → Nat → Option Nat}  {a0 : Nat} (hW : WT (g0 G) sk L cl ln iv rv) (hS : SKL sk L cl) (t_a0 : ty L cl a0 1)  : Mc l G mi (Phi (g0 G) sk) PHM yX11_lines cX11_lines 1 (some .int) 0 [.ref a0] L cl ln iv rv 0 (fun v L2 cl2 ln2 iv2 rv2 => ∃ f : Int, v = some (.int (iI f)) ∧ L = L2 ∧ cl = cl2 ∧ ln = ln2 ∧ iv = iv2 ∧ rv = rv2 ∧ (-2147483648 ≤ f ∧ f ≤ 2147483647) ∧ (True)) := by
  refine Mc.mk (by decide) (Nat.le_of_ble_eq_true rfl) ?_
  intro p e s m args below meth c A C hM
  have hph := Phi.le hW hS
  have hX0 : XT L cl ln L cl ln := XT.refl
  have hF0 : fT [] L cl iv rv iv rv := fT.refl
  refine c_aload_n (j := 0) (x := a0) C dX11_lines_0 rfl ?_
  obtain ⟨rb1, rq1, trb1⟩ := hW.ref t_a0 9 rfl rfl rfl
  refine c_getr (k := 9) C ck_12 dX11_lines_1 w2_53 (by decide) t_a0 rfl rfl (by decide) rfl rq1 ?_
  refine c_st (st2 := [.ref rb1]) rfl ?_
  have ri1 : 0 ≤ iv rb1 1 ∧ iv rb1 1 ≤ 200 := hW.int trb1 1
  refine c_get (k := 1) C ck_8 dX11_lines_4 w2_35 (by decide) trb1 rfl rfl (by decide) rfl ?_
  exact c_iret C dX11_lines_7 rfl (by decide) (rom0 hph hph (by decide)) ⟨(iv rb1 1), rfl, rfl, rfl, rfl, rfl, rfl, ⟨by omega, by omega⟩, trivial⟩
set_option maxHeartbeats 4000000 in
set_option maxRecDepth 100000 in
theorem C_hasHeader {l : Launch} {G : GT} {mi : Nat} {sk : Nat → Nat} {L : List Nat} {cl ln : Nat → Nat} {iv : Nat → Nat → Int} {rv : Nat → Nat → Option Nat}  {a0 : Nat} (hW : WT (g0 G) sk L cl ln iv rv) (hS : SKL sk L cl) (t_a0 : ty L cl a0 1)  : Mc l G mi (Phi (g0 G) sk) PHM yX11_pagesHaveHeader cX11_pagesHaveHeader 1 (some .boolean) 0 [.ref a0] L cl ln iv rv 0 (fun v L2 cl2 ln2 iv2 rv2 => ∃ f : Int, v = some (.int (iI f)) ∧ L = L2 ∧ cl = cl2 ∧ ln = ln2 ∧ iv = iv2 ∧ rv = rv2 ∧ (f = 0 ∨ f = 1) ∧ (f = 0 ∨ 2 ≤ iv a0 12)) := by
  refine Mc.mk (by decide) (Nat.le_of_ble_eq_true rfl) ?_
  intro p e s m args below meth c A C hM
  have hph := Phi.le hW hS
  have tsk2 : ty L cl (sk 2) 2 := ⟨(hS 2 rfl).1, by rw [(hS 2 rfl).2]; rfl⟩
  have tsk3 : ty L cl (sk 3) 3 := ⟨(hS 3 rfl).1, by rw [(hS 3 rfl).2]; rfl⟩
  have tsk4 : ty L cl (sk 4) 4 := ⟨(hS 4 rfl).1, by rw [(hS 4 rfl).2]; rfl⟩
  have tsk5 : ty L cl (sk 5) 5 := ⟨(hS 5 rfl).1, by rw [(hS 5 rfl).2]; rfl⟩
  have tsk13 : ty L cl (sk 13) 13 := ⟨(hS 13 rfl).1, by rw [(hS 13 rfl).2]; rfl⟩
  have tsk14 : ty L cl (sk 14) 14 := ⟨(hS 14 rfl).1, by rw [(hS 14 rfl).2]; rfl⟩
  have tsk15 : ty L cl (sk 15) 15 := ⟨(hS 15 rfl).1, by rw [(hS 15 rfl).2]; rfl⟩
  have tsk16 : ty L cl (sk 16) 16 := ⟨(hS 16 rfl).1, by rw [(hS 16 rfl).2]; rfl⟩
  have tsk17 : ty L cl (sk 17) 17 := ⟨(hS 17 rfl).1, by rw [(hS 17 rfl).2]; rfl⟩
  have tsk22 : ty L cl (sk 22) 22 := ⟨(hS 22 rfl).1, by rw [(hS 22 rfl).2]; rfl⟩
  have tsk23 : ty L cl (sk 23) 23 := ⟨(hS 23 rfl).1, by rw [(hS 23 rfl).2]; rfl⟩
  have hX0 : XT L cl ln L cl ln := XT.refl
  have hF0 : fT [] L cl iv rv iv rv := fT.refl
  refine c_aload_n (j := 0) (x := a0) C dX11_pagesHaveHeader_0 rfl ?_
  obtain ⟨rb1, rq1, trb1⟩ := hW.ref t_a0 3 rfl rfl rfl
  have erb1 := hW.sk trb1 (by decide) rfl
  subst erb1
  refine c_getr (k := 3) C ck_12 dX11_pagesHaveHeader_1 w2_47 (by decide) t_a0 rfl rfl (by decide) rfl rq1 ?_
  refine c_st (st2 := [.ref (sk 5)]) rfl ?_
  have ri1 : 0 ≤ iv (sk 5) 2 ∧ iv (sk 5) 2 ≤ 200 := hW.int tsk5 2
  refine c_get (k := 2) C ck_2 dX11_pagesHaveHeader_4 w1_44 (by decide) tsk5 rfl rfl (by decide) rfl ?_
  refine c_if_le (tgt := 22) C ⟨by omega, by omega⟩ dX11_pagesHaveHeader_7 (by decide) (fun c1 => ?_) (fun c1 => ?_)
  · refine c_iconst C dX11_pagesHaveHeader_22 ?_
    exact c_zret C dX11_pagesHaveHeader_23 rfl (Or.inl rfl) (by decide) (rom0 hph hph (by decide)) ⟨0, rfl, rfl, rfl, rfl, rfl, rfl, (Or.inl rfl), (by omega)⟩
  · refine c_aload_n (j := 0) (x := a0) C dX11_pagesHaveHeader_10 rfl ?_
    have ri2 : 1 ≤ iv a0 12 ∧ iv a0 12 ≤ 50 := hW.int t_a0 12
    refine c_get (k := 12) C ck_12 dX11_pagesHaveHeader_11 w2_56 (by decide) t_a0 rfl rfl (by decide) rfl ?_
    refine c_iconst C dX11_pagesHaveHeader_14 ?_
    refine c_icmp_lt (tgt := 22) C ⟨by omega, by omega⟩ ⟨by decide, by decide⟩ dX11_pagesHaveHeader_15 (by decide) (fun c2 => ?_) (fun c2 => ?_)
    · refine c_iconst C dX11_pagesHaveHeader_22 ?_
      exact c_zret C dX11_pagesHaveHeader_23 rfl (Or.inl rfl) (by decide) (rom0 hph hph (by decide)) ⟨0, rfl, rfl, rfl, rfl, rfl, rfl, (Or.inl rfl), (by omega)⟩
    · refine c_iconst C dX11_pagesHaveHeader_18 ?_
      refine c_goto (tgt := 23) C dX11_pagesHaveHeader_19 (by decide) ?_
      exact c_zret C dX11_pagesHaveHeader_23 rfl (Or.inr rfl) (by decide) (rom0 hph hph (by decide)) ⟨1, rfl, rfl, rfl, rfl, rfl, rfl, (Or.inr rfl), (by omega)⟩
set_option maxHeartbeats 4000000 in
set_option maxRecDepth 100000 in
theorem C_linesOfPage {l : Launch} {G : GT} {mi : Nat} {sk : Nat → Nat} {L : List Nat} {cl ln : Nat → Nat} {iv : Nat → Nat → Int} {rv : Nat → Nat → Option Nat}  {a0 : Nat} (hW : WT (g0 G) sk L cl ln iv rv) (hS : SKL sk L cl) (t_a0 : ty L cl a0 1)  : Mc l G mi (Phi (g0 G) sk) PHM yX11_linesOfPage cX11_linesOfPage 1 (some .int) 1 [.ref a0] L cl ln iv rv 0 (fun v L2 cl2 ln2 iv2 rv2 => ∃ f : Int, v = some (.int (iI f)) ∧ L = L2 ∧ cl = cl2 ∧ ln = ln2 ∧ iv = iv2 ∧ rv = rv2 ∧ (-2147483648 ≤ f ∧ f ≤ 2147483647) ∧ (1 ≤ f ∧ f ≤ 50)) := by
  refine Mc.mk (by decide) (Nat.le_of_ble_eq_true rfl) ?_
  intro p e s m args below meth c A C hM
  have hph := Phi.le hW hS
  have hX0 : XT L cl ln L cl ln := XT.refl
  have hF0 : fT [] L cl iv rv iv rv := fT.refl
  refine c_iconst C dX11_linesOfPage_0 ?_
  refine c_aload_n (j := 0) (x := a0) C dX11_linesOfPage_1 rfl ?_
  have ri1 : 1 ≤ iv a0 12 ∧ iv a0 12 ≤ 50 := hW.int t_a0 12
  refine d_callV (As := []) (rest := [.int (iI 1)]) C hM (C_hasHeader (a0 := a0) hW hS t_a0  ) dX11_linesOfPage_2 kV_X11_285 rfl t_a0 rfl rfl (by decide) ck_12 rfl (Nat.le_of_ble_eq_true rfl) ⟨(Nat.le_of_ble_eq_true rfl), (Nat.le_of_ble_eq_true rfl)⟩ hph hph (show 0 + 0 = 0 from rfl) (by decide) (fun rh1 Lh1 clh1 lnh1 ivh1 rvh1 h1 => ?_)
  obtain ⟨f1, rfl, rfl, rfl, rfl, rfl, rfl, rgf1, exf1⟩ := h1
  refine c_st (st2 := [.int (iI f1), .int (iI 1)]) rfl ?_
  have gf1 : f1 = 0 ∨ 2 ≤ iv a0 12 := exf1
  refine c_if_eq (tgt := 17) C ⟨by omega, by omega⟩ dX11_linesOfPage_5 (by decide) (fun c1 => ?_) (fun c1 => ?_)
  · refine c_aload_n (j := 0) (x := a0) C dX11_linesOfPage_17 rfl ?_
    refine c_get (k := 12) C ck_12 dX11_linesOfPage_18 w2_56 (by decide) t_a0 rfl rfl (by decide) rfl ?_
    obtain ⟨mn1, hmn1, emn1⟩ := mmax_c (x := 1) (y := iv a0 12) ⟨by decide, by decide⟩ ⟨by omega, by omega⟩
    refine c_mmax (w := iI mn1) C dX11_linesOfPage_21 w3_93 w2_148 w1_14 w2_149 (by decide) (rom0 hph hph (by decide)) (Nat.le_of_ble_eq_true rfl) emn1 ?_
    exact c_iret C dX11_linesOfPage_24 rfl (by decide) (rom0 hph hph (by decide)) ⟨mn1, rfl, rfl, rfl, rfl, rfl, rfl, ⟨by omega, by omega⟩, (by omega)⟩
  · refine c_aload_n (j := 0) (x := a0) C dX11_linesOfPage_8 rfl ?_
    refine c_get (k := 12) C ck_12 dX11_linesOfPage_9 w2_56 (by decide) t_a0 rfl rfl (by decide) rfl ?_
    refine c_iconst C dX11_linesOfPage_12 ?_
    refine c_isub C dX11_linesOfPage_13 ?_
    refine c_goto (tgt := 21) C dX11_linesOfPage_14 (by decide) ?_
    obtain ⟨mn2, hmn2, emn2⟩ := mmax_c (x := 1) (y := (iv a0 12) - 1) ⟨by decide, by decide⟩ ⟨by omega, by omega⟩
    refine c_mmax (w := iI mn2) C dX11_linesOfPage_21 w3_93 w2_148 w1_14 w2_149 (by decide) (rom0 hph hph (by decide)) (Nat.le_of_ble_eq_true rfl) emn2 ?_
    exact c_iret C dX11_linesOfPage_24 rfl (by decide) (rom0 hph hph (by decide)) ⟨mn2, rfl, rfl, rfl, rfl, rfl, rfl, ⟨by omega, by omega⟩, (by omega)⟩
set_option maxHeartbeats 4000000 in
set_option maxRecDepth 100000 in
theorem C_pages {l : Launch} {G : GT} {mi : Nat} {sk : Nat → Nat} {L : List Nat} {cl ln : Nat → Nat} {iv : Nat → Nat → Int} {rv : Nat → Nat → Option Nat}  {a0 : Nat} (hW : WT (g0 G) sk L cl ln iv rv) (hS : SKL sk L cl) (t_a0 : ty L cl a0 1)  : Mc l G mi (Phi (g0 G) sk) PHM yX11_pages cX11_pages 2 (some .int) 2 [.ref a0] L cl ln iv rv 0 (fun v L2 cl2 ln2 iv2 rv2 => ∃ f : Int, v = some (.int (iI f)) ∧ L = L2 ∧ cl = cl2 ∧ ln = ln2 ∧ iv = iv2 ∧ rv = rv2 ∧ (-2147483648 ≤ f ∧ f ≤ 2147483647) ∧ (True)) := by
  refine Mc.mk (by decide) (Nat.le_of_ble_eq_true rfl) ?_
  intro p e s m args below meth c A C hM
  have hph := Phi.le hW hS
  have hX0 : XT L cl ln L cl ln := XT.refl
  have hF0 : fT [] L cl iv rv iv rv := fT.refl
  refine c_aload_n (j := 0) (x := a0) C dX11_pages_0 rfl ?_
  refine d_callV (As := []) (rest := []) C hM (C_linesOfPage (a0 := a0) hW hS t_a0  ) dX11_pages_1 kV_X11_282 rfl t_a0 rfl rfl (by decide) ck_12 rfl (Nat.le_of_ble_eq_true rfl) ⟨(Nat.le_of_ble_eq_true rfl), (Nat.le_of_ble_eq_true rfl)⟩ hph hph (show 0 + 0 = 0 from rfl) (by decide) (fun rh1 Lh1 clh1 lnh1 ivh1 rvh1 h1 => ?_)
  obtain ⟨f1, rfl, rfl, rfl, rfl, rfl, rfl, rgf1, exf1⟩ := h1
  refine c_st (st2 := [.int (iI f1)]) rfl ?_
  have gf1 : 1 ≤ f1 ∧ f1 ≤ 50 := exf1
  refine c_istore_n (lv2 := [(1, .int (iI f1)), (0, .ref a0)]) C dX11_pages_4 (by decide) rfl ?_
  refine c_aload_n (j := 1) (x := a0) C dX11_pages_5 rfl ?_
  obtain ⟨rb1, rq1, trb1⟩ := hW.ref t_a0 9 rfl rfl rfl
  refine c_getr (k := 9) C ck_12 dX11_pages_6 w2_53 (by decide) t_a0 rfl rfl (by decide) rfl rq1 ?_
  refine c_st (st2 := [.ref rb1]) rfl ?_
  have ri1 : 0 ≤ iv rb1 1 ∧ iv rb1 1 ≤ 200 := hW.int trb1 1
  refine c_get (k := 1) C ck_8 dX11_pages_9 w2_35 (by decide) trb1 rfl rfl (by decide) rfl ?_
  refine c_iload_n (j := 0) C dX11_pages_12 rfl ?_
  refine c_iadd C dX11_pages_13 ?_
  refine c_iconst C dX11_pages_14 ?_
  refine c_isub C dX11_pages_15 ?_
  refine c_iload_n (j := 0) C dX11_pages_16 rfl ?_
  obtain ⟨dq1, hdq1⟩ : ∃ q : Int, q = (((iv rb1 1) + f1) - 1) / f1 := ⟨_, rfl⟩
  have rdq1 := ediv_r (x := ((iv rb1 1) + f1) - 1) (y := f1) (by omega) (by omega)
  rw [← hdq1] at rdq1
  refine c_idiv (w := iI dq1) C dX11_pages_17 (iI_ne0 ⟨by omega, by omega⟩) (by rw [hdq1]; exact iI_div ⟨by omega, by omega⟩ ⟨by omega, by omega⟩) ?_
  exact c_iret C dX11_pages_18 rfl (by decide) (rom0 hph hph (by decide)) ⟨dq1, rfl, rfl, rfl, rfl, rfl, rfl, ⟨by omega, by omega⟩, trivial⟩
set_option maxHeartbeats 4000000 in
set_option maxRecDepth 100000 in
theorem C_length {l : Launch} {G : GT} {mi : Nat} {sk : Nat → Nat} {L : List Nat} {cl ln : Nat → Nat} {iv : Nat → Nat → Int} {rv : Nat → Nat → Option Nat}  {a0 : Nat} {i : Int} (hW : WT (g0 G) sk L cl ln iv rv) (hS : SKL sk L cl) (t_a0 : ty L cl a0 1) (h_i : -2147483648 ≤ i ∧ i ≤ 2147483647)  : Mc l G mi (Phi (g0 G) sk) PHM yX11_length cX11_length 3 (some .int) 2 [.ref a0, .int (iI i)] L cl ln iv rv 0 (fun v L2 cl2 ln2 iv2 rv2 => ∃ f : Int, v = some (.int (iI f)) ∧ L = L2 ∧ cl = cl2 ∧ ln = ln2 ∧ rv = rv2 ∧ fT [1] L cl iv rv iv2 rv2 ∧ WT (g0 G) sk L2 cl2 ln2 iv2 rv2 ∧ (-2147483648 ≤ f ∧ f ≤ 2147483647) ∧ (True) ∧ iv2 a0 11 = iv a0 11 ∧ iv2 a0 12 = iv a0 12 ∧ iv2 a0 13 = iv a0 13 ∧ iv2 a0 14 = iv a0 14 ∧ iv2 a0 15 = iv a0 15 ∧ iv2 a0 16 = iv a0 16) := by
  refine Mc.mk (by decide) (Nat.le_of_ble_eq_true rfl) ?_
  intro p e s m args below meth c A C hM
  have hph := Phi.le hW hS
  have hX0 : XT L cl ln L cl ln := XT.refl
  have hF0 : fT [1] L cl iv rv iv rv := fT.refl
  refine c_aload_n (j := 0) (x := a0) C dX11_length_0 rfl ?_
  obtain ⟨rb1, rq1, trb1⟩ := hW.ref t_a0 9 rfl rfl rfl
  refine c_getr (k := 9) C ck_12 dX11_length_1 w2_53 (by decide) t_a0 rfl rfl (by decide) rfl rq1 ?_
  refine c_st (st2 := [.ref rb1]) rfl ?_
  refine c_iload_n (j := 1) C dX11_length_4 rfl ?_
  have ri1 : 0 ≤ iv rb1 1 ∧ iv rb1 1 ≤ 200 := hW.int trb1 1
  refine d_callV (As := [.int (iI i)]) (rest := []) C hM (C_present (a0 := rb1) (i := i) hW hS trb1 (by omega) ) dX11_length_5 kV_X11_288 rfl trb1 rfl rfl (by decide) ck_8 rfl (Nat.le_of_ble_eq_true rfl) ⟨(Nat.le_of_ble_eq_true rfl), (Nat.le_of_ble_eq_true rfl)⟩ hph hph (show 0 + 0 = 0 from rfl) (by decide) (fun rh1 Lh1 clh1 lnh1 ivh1 rvh1 h1 => ?_)
  obtain ⟨f1, rfl, rfl, rfl, rfl, rfl, rfl, rgf1, exf1⟩ := h1
  refine c_st (st2 := [(va_rf f1)]) rfl ?_
  have gf1 : f1 = none ∨ (0 ≤ i ∧ i < iv rb1 1) := exf1
  refine c_astorer_n (r := f1) (lv2 := [(2, (va_rf f1)), (0, .ref a0), (1, .int (iI i))]) C dX11_length_8 (by decide) rfl ?_
  refine c_aloadr_n (j := 0) (r := f1) C dX11_length_9 rfl ?_
  refine c_ifnonnull (r := f1) (tgt := 28) C dX11_length_10 (by decide) (fun ob1 oq1 => ?_) (fun oq1 => ?_)
  · subst oq1
    have tob1 := rgf1 ob1 rfl
    refine c_lv (lv2 := [(2, .ref ob1), (0, .ref a0), (1, .int (iI i))]) [0, 1, 2] rfl ?_
    refine c_st (st2 := []) rfl ?_
    refine c_aload_n (j := 1) (x := a0) C dX11_length_28 rfl ?_
    refine c_aload_n (j := 0) (x := ob1) C dX11_length_29 rfl ?_
    have ri2 : 0 ≤ iv ob1 1 ∧ iv ob1 1 ≤ 200 := hW.int tob1 1
    refine c_get (k := 1) C ck_3 dX11_length_30 w4_53 (by decide) tob1 rfl rfl (by decide) rfl ?_
    refine d_callV (As := [.int (iI (iv ob1 1))]) (rest := []) C hM (C_done (a0 := a0) (x := iv ob1 1) hW hS t_a0 (by omega) ) dX11_length_33 kV_X11_109 rfl t_a0 rfl rfl (by decide) ck_12 rfl (Nat.le_of_ble_eq_true rfl) ⟨(Nat.le_of_ble_eq_true rfl), (Nat.le_of_ble_eq_true rfl)⟩ hph hph (show 0 + 0 = 0 from rfl) (by decide) (fun rh2 Lh2 clh2 lnh2 ivh2 rvh2 h2 => ?_)
    obtain ⟨f2, rfl, rfl, rfl, rfl, rfl, fl2, W2, rgf2, exf2, kp11f2, kp12f2, kp13f2, kp14f2, kp15f2, kp16f2⟩ := h2
    have ri3 : 1 ≤ iv a0 11 ∧ iv a0 11 ≤ 100 := hW.int t_a0 11
    have ri4 : 1 ≤ iv a0 12 ∧ iv a0 12 ≤ 50 := hW.int t_a0 12
    have ri5 : (-2147483648) ≤ iv a0 13 ∧ iv a0 13 ≤ 2147483647 := hW.int t_a0 13
    have ri6 : (-2147483648) ≤ iv a0 14 ∧ iv a0 14 ≤ 2147483647 := hW.int t_a0 14
    have ri7 : (-2147483648) ≤ iv a0 15 ∧ iv a0 15 ≤ 2147483647 := hW.int t_a0 15
    have ri8 : (-2147483648) ≤ iv a0 16 ∧ iv a0 16 ≤ 2147483647 := hW.int t_a0 16
    have F1 := hF0.call hX0 fl2 rfl
    refine c_st (st2 := [.int (iI f2)]) rfl ?_
    have gk11f2 : ivh2 a0 11 = iv a0 11 := kp11f2
    have gk12f2 : ivh2 a0 12 = iv a0 12 := kp12f2
    have gk13f2 : ivh2 a0 13 = iv a0 13 := kp13f2
    have gk14f2 : ivh2 a0 14 = iv a0 14 := kp14f2
    have gk15f2 : ivh2 a0 15 = iv a0 15 := kp15f2
    have gk16f2 : ivh2 a0 16 = iv a0 16 := kp16f2
    have gf2 : f2 = (iv ob1 1) := exf2
    have ri9 : 1 ≤ ivh2 a0 11 ∧ ivh2 a0 11 ≤ 100 := W2.int t_a0 11
    have ri10 : 1 ≤ ivh2 a0 12 ∧ ivh2 a0 12 ≤ 50 := W2.int t_a0 12
    have ri11 : (-2147483648) ≤ ivh2 a0 13 ∧ ivh2 a0 13 ≤ 2147483647 := W2.int t_a0 13
    have ri12 : (-2147483648) ≤ ivh2 a0 14 ∧ ivh2 a0 14 ≤ 2147483647 := W2.int t_a0 14
    have ri13 : (-2147483648) ≤ ivh2 a0 15 ∧ ivh2 a0 15 ≤ 2147483647 := W2.int t_a0 15
    have ri14 : (-2147483648) ≤ ivh2 a0 16 ∧ ivh2 a0 16 ≤ 2147483647 := W2.int t_a0 16
    exact c_iret C dX11_length_36 rfl (by decide) (rom0 hph hph (by decide)) ⟨f2, rfl, rfl, rfl, rfl, rfl, F1, W2, ⟨by omega, by omega⟩, trivial, (by omega), (by omega), (by omega), (by omega), (by omega), (by omega)⟩
  · subst oq1
    refine c_lv (lv2 := [(2, .null), (0, .ref a0), (1, .int (iI i))]) [0, 1, 2] rfl ?_
    refine c_st (st2 := []) rfl ?_
    refine c_aload_n (j := 1) (x := a0) C dX11_length_13 rfl ?_
    refine c_aload_n (j := 1) (x := a0) C dX11_length_14 rfl ?_
    refine c_getr (k := 9) C ck_12 dX11_length_15 w2_53 (by decide) t_a0 rfl rfl (by decide) rfl rq1 ?_
    refine c_st (st2 := [.ref rb1, .ref a0]) rfl ?_
    refine c_iload_n (j := 2) C dX11_length_18 rfl ?_
    refine d_callV (As := [.int (iI i)]) (rest := [.ref a0]) C hM (C_whyNone (a0 := rb1) (i := i) hW hS trb1 (by omega) ) dX11_length_19 kV_X11_292 rfl trb1 rfl rfl (by decide) ck_8 rfl (Nat.le_of_ble_eq_true rfl) ⟨(Nat.le_of_ble_eq_true rfl), (Nat.le_of_ble_eq_true rfl)⟩ hph hph (show 0 + 0 = 0 from rfl) (by decide) (fun rh3 Lh3 clh3 lnh3 ivh3 rvh3 h3 => ?_)
    obtain ⟨f3, rfl, rfl, rfl, rfl, rfl, rfl, rgf3, exf3⟩ := h3
    refine c_st (st2 := [.int (iI f3), .ref a0]) rfl ?_
    have gf3 : f3 = 1 ∨ f3 = 2 := exf3
    refine d_callV (As := [.int (iI f3)]) (rest := []) C hM (C_refuse (a0 := a0) (x := f3) hW hS t_a0 (by omega) ) dX11_length_22 kV_X11_102 rfl t_a0 rfl rfl (by decide) ck_12 rfl (Nat.le_of_ble_eq_true rfl) ⟨(Nat.le_of_ble_eq_true rfl), (Nat.le_of_ble_eq_true rfl)⟩ hph hph (show 0 + 0 = 0 from rfl) (by decide) (fun rh4 Lh4 clh4 lnh4 ivh4 rvh4 h4 => ?_)
    obtain ⟨f4, rfl, rfl, rfl, rfl, rfl, fl4, W4, rgf4, exf4, kp11f4, kp12f4, kp13f4, kp14f4, kp15f4, kp16f4⟩ := h4
    have ri15 : 1 ≤ iv a0 11 ∧ iv a0 11 ≤ 100 := hW.int t_a0 11
    have ri16 : 1 ≤ iv a0 12 ∧ iv a0 12 ≤ 50 := hW.int t_a0 12
    have ri17 : (-2147483648) ≤ iv a0 13 ∧ iv a0 13 ≤ 2147483647 := hW.int t_a0 13
    have ri18 : (-2147483648) ≤ iv a0 14 ∧ iv a0 14 ≤ 2147483647 := hW.int t_a0 14
    have ri19 : (-2147483648) ≤ iv a0 15 ∧ iv a0 15 ≤ 2147483647 := hW.int t_a0 15
    have ri20 : (-2147483648) ≤ iv a0 16 ∧ iv a0 16 ≤ 2147483647 := hW.int t_a0 16
    have F2 := hF0.call hX0 fl4 rfl
    refine c_st (st2 := [.int (iI f4)]) rfl ?_
    have gk11f4 : ivh4 a0 11 = iv a0 11 := kp11f4
    have gk12f4 : ivh4 a0 12 = iv a0 12 := kp12f4
    have gk13f4 : ivh4 a0 13 = iv a0 13 := kp13f4
    have gk14f4 : ivh4 a0 14 = iv a0 14 := kp14f4
    have gk15f4 : ivh4 a0 15 = iv a0 15 := kp15f4
    have gk16f4 : ivh4 a0 16 = iv a0 16 := kp16f4
    have gf4 : f4 = -1 := exf4
    refine c_goto (tgt := 36) C dX11_length_25 (by decide) ?_
    have ri21 : 1 ≤ ivh4 a0 11 ∧ ivh4 a0 11 ≤ 100 := W4.int t_a0 11
    have ri22 : 1 ≤ ivh4 a0 12 ∧ ivh4 a0 12 ≤ 50 := W4.int t_a0 12
    have ri23 : (-2147483648) ≤ ivh4 a0 13 ∧ ivh4 a0 13 ≤ 2147483647 := W4.int t_a0 13
    have ri24 : (-2147483648) ≤ ivh4 a0 14 ∧ ivh4 a0 14 ≤ 2147483647 := W4.int t_a0 14
    have ri25 : (-2147483648) ≤ ivh4 a0 15 ∧ ivh4 a0 15 ≤ 2147483647 := W4.int t_a0 15
    have ri26 : (-2147483648) ≤ ivh4 a0 16 ∧ ivh4 a0 16 ≤ 2147483647 := W4.int t_a0 16
    exact c_iret C dX11_length_36 rfl (by decide) (rom0 hph hph (by decide)) ⟨f4, rfl, rfl, rfl, rfl, rfl, F2, W4, ⟨by omega, by omega⟩, trivial, (by omega), (by omega), (by omega), (by omega), (by omega), (by omega)⟩
set_option maxHeartbeats 4000000 in
set_option maxRecDepth 100000 in
theorem C_cellOfLine {l : Launch} {G : GT} {mi : Nat} {sk : Nat → Nat} {L : List Nat} {cl ln : Nat → Nat} {iv : Nat → Nat → Int} {rv : Nat → Nat → Option Nat}  {a0 : Nat} {i : Int} {j : Int} (hW : WT (g0 G) sk L cl ln iv rv) (hS : SKL sk L cl) (t_a0 : ty L cl a0 1) (h_i : -2147483648 ≤ i ∧ i ≤ 2147483647) (h_j : -2147483648 ≤ j ∧ j ≤ 2147483647)  : Mc l G mi (Phi (g0 G) sk) PHM yX11_cellOfLine cX11_cellOfLine 4 (some .int) 2 [.ref a0, .int (iI i), .int (iI j)] L cl ln iv rv 0 (fun v L2 cl2 ln2 iv2 rv2 => ∃ f : Int, v = some (.int (iI f)) ∧ L = L2 ∧ cl = cl2 ∧ ln = ln2 ∧ rv = rv2 ∧ fT [1] L cl iv rv iv2 rv2 ∧ WT (g0 G) sk L2 cl2 ln2 iv2 rv2 ∧ (-2147483648 ≤ f ∧ f ≤ 2147483647) ∧ (True) ∧ iv2 a0 11 = iv a0 11 ∧ iv2 a0 12 = iv a0 12 ∧ iv2 a0 13 = iv a0 13 ∧ iv2 a0 14 = iv a0 14 ∧ iv2 a0 15 = iv a0 15 ∧ iv2 a0 16 = iv a0 16) := by
  refine Mc.mk (by decide) (Nat.le_of_ble_eq_true rfl) ?_
  intro p e s m args below meth c A C hM
  have hph := Phi.le hW hS
  have hX0 : XT L cl ln L cl ln := XT.refl
  have hF0 : fT [1] L cl iv rv iv rv := fT.refl
  refine c_aload_n (j := 0) (x := a0) C dX11_cellOfLine_0 rfl ?_
  obtain ⟨rb1, rq1, trb1⟩ := hW.ref t_a0 9 rfl rfl rfl
  refine c_getr (k := 9) C ck_12 dX11_cellOfLine_1 w2_53 (by decide) t_a0 rfl rfl (by decide) rfl rq1 ?_
  refine c_st (st2 := [.ref rb1]) rfl ?_
  refine c_iload_n (j := 1) C dX11_cellOfLine_4 rfl ?_
  have ri1 : 0 ≤ iv rb1 1 ∧ iv rb1 1 ≤ 200 := hW.int trb1 1
  refine d_callV (As := [.int (iI i)]) (rest := []) C hM (C_present (a0 := rb1) (i := i) hW hS trb1 (by omega) ) dX11_cellOfLine_5 kV_X11_288 rfl trb1 rfl rfl (by decide) ck_8 rfl (Nat.le_of_ble_eq_true rfl) ⟨(Nat.le_of_ble_eq_true rfl), (Nat.le_of_ble_eq_true rfl)⟩ hph hph (show 0 + 0 = 0 from rfl) (by decide) (fun rh1 Lh1 clh1 lnh1 ivh1 rvh1 h1 => ?_)
  obtain ⟨f1, rfl, rfl, rfl, rfl, rfl, rfl, rgf1, exf1⟩ := h1
  refine c_st (st2 := [(va_rf f1)]) rfl ?_
  have gf1 : f1 = none ∨ (0 ≤ i ∧ i < iv rb1 1) := exf1
  refine c_astorer_n (r := f1) (lv2 := [(3, (va_rf f1)), (0, .ref a0), (1, .int (iI i)), (2, .int (iI j))]) C dX11_cellOfLine_8 (by decide) rfl ?_
  refine c_aloadr_n (j := 0) (r := f1) C dX11_cellOfLine_9 rfl ?_
  refine c_ifnonnull (r := f1) (tgt := 26) C dX11_cellOfLine_10 (by decide) (fun ob1 oq1 => ?_) (fun oq1 => ?_)
  · subst oq1
    have tob1 := rgf1 ob1 rfl
    refine c_lv (lv2 := [(3, .ref ob1), (0, .ref a0), (1, .int (iI i)), (2, .int (iI j))]) [0, 1, 2, 3] rfl ?_
    refine c_st (st2 := []) rfl ?_
    refine c_iload_n (j := 3) C dX11_cellOfLine_26 rfl ?_
    refine c_if_lt (tgt := 38) C ⟨by omega, by omega⟩ dX11_cellOfLine_27 (by decide) (fun c1 => ?_) (fun c1 => ?_)
    · refine c_aload_n (j := 1) (x := a0) C dX11_cellOfLine_38 rfl ?_
      refine c_iconst C dX11_cellOfLine_39 ?_
      refine d_callV (As := [.int (iI 2)]) (rest := []) C hM (C_refuse (a0 := a0) (x := 2) hW hS t_a0 ⟨by decide, by decide⟩ ) dX11_cellOfLine_40 kV_X11_102 rfl t_a0 rfl rfl (by decide) ck_12 rfl (Nat.le_of_ble_eq_true rfl) ⟨(Nat.le_of_ble_eq_true rfl), (Nat.le_of_ble_eq_true rfl)⟩ hph hph (show 0 + 0 = 0 from rfl) (by decide) (fun rh2 Lh2 clh2 lnh2 ivh2 rvh2 h2 => ?_)
      obtain ⟨f2, rfl, rfl, rfl, rfl, rfl, fl2, W2, rgf2, exf2, kp11f2, kp12f2, kp13f2, kp14f2, kp15f2, kp16f2⟩ := h2
      have ri2 : 1 ≤ iv a0 11 ∧ iv a0 11 ≤ 100 := hW.int t_a0 11
      have ri3 : 1 ≤ iv a0 12 ∧ iv a0 12 ≤ 50 := hW.int t_a0 12
      have ri4 : (-2147483648) ≤ iv a0 13 ∧ iv a0 13 ≤ 2147483647 := hW.int t_a0 13
      have ri5 : (-2147483648) ≤ iv a0 14 ∧ iv a0 14 ≤ 2147483647 := hW.int t_a0 14
      have ri6 : (-2147483648) ≤ iv a0 15 ∧ iv a0 15 ≤ 2147483647 := hW.int t_a0 15
      have ri7 : (-2147483648) ≤ iv a0 16 ∧ iv a0 16 ≤ 2147483647 := hW.int t_a0 16
      have F1 := hF0.call hX0 fl2 rfl
      refine c_st (st2 := [.int (iI f2)]) rfl ?_
      have gk11f2 : ivh2 a0 11 = iv a0 11 := kp11f2
      have gk12f2 : ivh2 a0 12 = iv a0 12 := kp12f2
      have gk13f2 : ivh2 a0 13 = iv a0 13 := kp13f2
      have gk14f2 : ivh2 a0 14 = iv a0 14 := kp14f2
      have gk15f2 : ivh2 a0 15 = iv a0 15 := kp15f2
      have gk16f2 : ivh2 a0 16 = iv a0 16 := kp16f2
      have gf2 : f2 = -1 := exf2
      refine c_goto (tgt := 56) C dX11_cellOfLine_43 (by decide) ?_
      have ri8 : 1 ≤ ivh2 a0 11 ∧ ivh2 a0 11 ≤ 100 := W2.int t_a0 11
      have ri9 : 1 ≤ ivh2 a0 12 ∧ ivh2 a0 12 ≤ 50 := W2.int t_a0 12
      have ri10 : (-2147483648) ≤ ivh2 a0 13 ∧ ivh2 a0 13 ≤ 2147483647 := W2.int t_a0 13
      have ri11 : (-2147483648) ≤ ivh2 a0 14 ∧ ivh2 a0 14 ≤ 2147483647 := W2.int t_a0 14
      have ri12 : (-2147483648) ≤ ivh2 a0 15 ∧ ivh2 a0 15 ≤ 2147483647 := W2.int t_a0 15
      have ri13 : (-2147483648) ≤ ivh2 a0 16 ∧ ivh2 a0 16 ≤ 2147483647 := W2.int t_a0 16
      exact c_iret C dX11_cellOfLine_56 rfl (by decide) (rom0 hph hph (by decide)) ⟨f2, rfl, rfl, rfl, rfl, rfl, F1, W2, ⟨by omega, by omega⟩, trivial, (by omega), (by omega), (by omega), (by omega), (by omega), (by omega)⟩
    · refine c_iload_n (j := 3) C dX11_cellOfLine_30 rfl ?_
      refine c_aload_n (j := 0) (x := ob1) C dX11_cellOfLine_31 rfl ?_
      have ri14 : 0 ≤ iv ob1 1 ∧ iv ob1 1 ≤ 200 := hW.int tob1 1
      refine c_get (k := 1) C ck_3 dX11_cellOfLine_32 w4_53 (by decide) tob1 rfl rfl (by decide) rfl ?_
      refine c_icmp_lt (tgt := 46) C ⟨by omega, by omega⟩ ⟨by omega, by omega⟩ dX11_cellOfLine_35 (by decide) (fun c2 => ?_) (fun c2 => ?_)
      · refine c_aload_n (j := 1) (x := a0) C dX11_cellOfLine_46 rfl ?_
        refine c_aload_n (j := 0) (x := ob1) C dX11_cellOfLine_47 rfl ?_
        obtain ⟨rb2, rq2, trb2⟩ := hW.ref tob1 0 rfl rfl rfl
        have lnrb2 : 200 ≤ ln rb2 ∧ ln rb2 ≤ 200 := hW.len trb2 rfl
        refine c_getr (k := 0) C ck_3 dX11_cellOfLine_48 w4_48 (by decide) tob1 rfl rfl (by decide) rfl rq2 ?_
        refine c_st (st2 := [.ref rb2, .ref a0]) rfl ?_
        refine c_iload_n (j := 3) C dX11_cellOfLine_51 rfl ?_
        have ll1 : 200 ≤ ln rb2 ∧ ln rb2 ≤ 200 := hW.len trb2 rfl
        refine c_iald C dX11_cellOfLine_52 trb2 rfl (by omega) (by omega) (by omega) ?_
        have ri15 : (-2147483648) ≤ iv rb2 j.toNat ∧ iv rb2 j.toNat ≤ 2147483647 := hW.int trb2 j.toNat
        refine d_callV (As := [.int (iI (iv rb2 j.toNat))]) (rest := []) C hM (C_done (a0 := a0) (x := iv rb2 j.toNat) hW hS t_a0 (by omega) ) dX11_cellOfLine_53 kV_X11_109 rfl t_a0 rfl rfl (by decide) ck_12 rfl (Nat.le_of_ble_eq_true rfl) ⟨(Nat.le_of_ble_eq_true rfl), (Nat.le_of_ble_eq_true rfl)⟩ hph hph (show 0 + 0 = 0 from rfl) (by decide) (fun rh3 Lh3 clh3 lnh3 ivh3 rvh3 h3 => ?_)
        obtain ⟨f3, rfl, rfl, rfl, rfl, rfl, fl3, W3, rgf3, exf3, kp11f3, kp12f3, kp13f3, kp14f3, kp15f3, kp16f3⟩ := h3
        have ri16 : 1 ≤ iv a0 11 ∧ iv a0 11 ≤ 100 := hW.int t_a0 11
        have ri17 : 1 ≤ iv a0 12 ∧ iv a0 12 ≤ 50 := hW.int t_a0 12
        have ri18 : (-2147483648) ≤ iv a0 13 ∧ iv a0 13 ≤ 2147483647 := hW.int t_a0 13
        have ri19 : (-2147483648) ≤ iv a0 14 ∧ iv a0 14 ≤ 2147483647 := hW.int t_a0 14
        have ri20 : (-2147483648) ≤ iv a0 15 ∧ iv a0 15 ≤ 2147483647 := hW.int t_a0 15
        have ri21 : (-2147483648) ≤ iv a0 16 ∧ iv a0 16 ≤ 2147483647 := hW.int t_a0 16
        have F2 := hF0.call hX0 fl3 rfl
        refine c_st (st2 := [.int (iI f3)]) rfl ?_
        have gk11f3 : ivh3 a0 11 = iv a0 11 := kp11f3
        have gk12f3 : ivh3 a0 12 = iv a0 12 := kp12f3
        have gk13f3 : ivh3 a0 13 = iv a0 13 := kp13f3
        have gk14f3 : ivh3 a0 14 = iv a0 14 := kp14f3
        have gk15f3 : ivh3 a0 15 = iv a0 15 := kp15f3
        have gk16f3 : ivh3 a0 16 = iv a0 16 := kp16f3
        have gf3 : f3 = (iv rb2 j.toNat) := exf3
        have ri22 : 1 ≤ ivh3 a0 11 ∧ ivh3 a0 11 ≤ 100 := W3.int t_a0 11
        have ri23 : 1 ≤ ivh3 a0 12 ∧ ivh3 a0 12 ≤ 50 := W3.int t_a0 12
        have ri24 : (-2147483648) ≤ ivh3 a0 13 ∧ ivh3 a0 13 ≤ 2147483647 := W3.int t_a0 13
        have ri25 : (-2147483648) ≤ ivh3 a0 14 ∧ ivh3 a0 14 ≤ 2147483647 := W3.int t_a0 14
        have ri26 : (-2147483648) ≤ ivh3 a0 15 ∧ ivh3 a0 15 ≤ 2147483647 := W3.int t_a0 15
        have ri27 : (-2147483648) ≤ ivh3 a0 16 ∧ ivh3 a0 16 ≤ 2147483647 := W3.int t_a0 16
        exact c_iret C dX11_cellOfLine_56 rfl (by decide) (rom0 hph hph (by decide)) ⟨f3, rfl, rfl, rfl, rfl, rfl, F2, W3, ⟨by omega, by omega⟩, trivial, (by omega), (by omega), (by omega), (by omega), (by omega), (by omega)⟩
      · refine c_aload_n (j := 1) (x := a0) C dX11_cellOfLine_38 rfl ?_
        refine c_iconst C dX11_cellOfLine_39 ?_
        refine d_callV (As := [.int (iI 2)]) (rest := []) C hM (C_refuse (a0 := a0) (x := 2) hW hS t_a0 ⟨by decide, by decide⟩ ) dX11_cellOfLine_40 kV_X11_102 rfl t_a0 rfl rfl (by decide) ck_12 rfl (Nat.le_of_ble_eq_true rfl) ⟨(Nat.le_of_ble_eq_true rfl), (Nat.le_of_ble_eq_true rfl)⟩ hph hph (show 0 + 0 = 0 from rfl) (by decide) (fun rh4 Lh4 clh4 lnh4 ivh4 rvh4 h4 => ?_)
        obtain ⟨f4, rfl, rfl, rfl, rfl, rfl, fl4, W4, rgf4, exf4, kp11f4, kp12f4, kp13f4, kp14f4, kp15f4, kp16f4⟩ := h4
        have ri28 : 1 ≤ iv a0 11 ∧ iv a0 11 ≤ 100 := hW.int t_a0 11
        have ri29 : 1 ≤ iv a0 12 ∧ iv a0 12 ≤ 50 := hW.int t_a0 12
        have ri30 : (-2147483648) ≤ iv a0 13 ∧ iv a0 13 ≤ 2147483647 := hW.int t_a0 13
        have ri31 : (-2147483648) ≤ iv a0 14 ∧ iv a0 14 ≤ 2147483647 := hW.int t_a0 14
        have ri32 : (-2147483648) ≤ iv a0 15 ∧ iv a0 15 ≤ 2147483647 := hW.int t_a0 15
        have ri33 : (-2147483648) ≤ iv a0 16 ∧ iv a0 16 ≤ 2147483647 := hW.int t_a0 16
        have F3 := hF0.call hX0 fl4 rfl
        refine c_st (st2 := [.int (iI f4)]) rfl ?_
        have gk11f4 : ivh4 a0 11 = iv a0 11 := kp11f4
        have gk12f4 : ivh4 a0 12 = iv a0 12 := kp12f4
        have gk13f4 : ivh4 a0 13 = iv a0 13 := kp13f4
        have gk14f4 : ivh4 a0 14 = iv a0 14 := kp14f4
        have gk15f4 : ivh4 a0 15 = iv a0 15 := kp15f4
        have gk16f4 : ivh4 a0 16 = iv a0 16 := kp16f4
        have gf4 : f4 = -1 := exf4
        refine c_goto (tgt := 56) C dX11_cellOfLine_43 (by decide) ?_
        have ri34 : 1 ≤ ivh4 a0 11 ∧ ivh4 a0 11 ≤ 100 := W4.int t_a0 11
        have ri35 : 1 ≤ ivh4 a0 12 ∧ ivh4 a0 12 ≤ 50 := W4.int t_a0 12
        have ri36 : (-2147483648) ≤ ivh4 a0 13 ∧ ivh4 a0 13 ≤ 2147483647 := W4.int t_a0 13
        have ri37 : (-2147483648) ≤ ivh4 a0 14 ∧ ivh4 a0 14 ≤ 2147483647 := W4.int t_a0 14
        have ri38 : (-2147483648) ≤ ivh4 a0 15 ∧ ivh4 a0 15 ≤ 2147483647 := W4.int t_a0 15
        have ri39 : (-2147483648) ≤ ivh4 a0 16 ∧ ivh4 a0 16 ≤ 2147483647 := W4.int t_a0 16
        exact c_iret C dX11_cellOfLine_56 rfl (by decide) (rom0 hph hph (by decide)) ⟨f4, rfl, rfl, rfl, rfl, rfl, F3, W4, ⟨by omega, by omega⟩, trivial, (by omega), (by omega), (by omega), (by omega), (by omega), (by omega)⟩
  · subst oq1
    refine c_lv (lv2 := [(3, .null), (0, .ref a0), (1, .int (iI i)), (2, .int (iI j))]) [0, 1, 2, 3] rfl ?_
    refine c_st (st2 := []) rfl ?_
    refine c_aload_n (j := 1) (x := a0) C dX11_cellOfLine_13 rfl ?_
    refine c_aload_n (j := 1) (x := a0) C dX11_cellOfLine_14 rfl ?_
    refine c_getr (k := 9) C ck_12 dX11_cellOfLine_15 w2_53 (by decide) t_a0 rfl rfl (by decide) rfl rq1 ?_
    refine c_st (st2 := [.ref rb1, .ref a0]) rfl ?_
    refine c_iload_n (j := 2) C dX11_cellOfLine_18 rfl ?_
    refine d_callV (As := [.int (iI i)]) (rest := [.ref a0]) C hM (C_whyNone (a0 := rb1) (i := i) hW hS trb1 (by omega) ) dX11_cellOfLine_19 kV_X11_292 rfl trb1 rfl rfl (by decide) ck_8 rfl (Nat.le_of_ble_eq_true rfl) ⟨(Nat.le_of_ble_eq_true rfl), (Nat.le_of_ble_eq_true rfl)⟩ hph hph (show 0 + 0 = 0 from rfl) (by decide) (fun rh5 Lh5 clh5 lnh5 ivh5 rvh5 h5 => ?_)
    obtain ⟨f5, rfl, rfl, rfl, rfl, rfl, rfl, rgf5, exf5⟩ := h5
    refine c_st (st2 := [.int (iI f5), .ref a0]) rfl ?_
    have gf5 : f5 = 1 ∨ f5 = 2 := exf5
    refine d_callV (As := [.int (iI f5)]) (rest := []) C hM (C_refuse (a0 := a0) (x := f5) hW hS t_a0 (by omega) ) dX11_cellOfLine_22 kV_X11_102 rfl t_a0 rfl rfl (by decide) ck_12 rfl (Nat.le_of_ble_eq_true rfl) ⟨(Nat.le_of_ble_eq_true rfl), (Nat.le_of_ble_eq_true rfl)⟩ hph hph (show 0 + 0 = 0 from rfl) (by decide) (fun rh6 Lh6 clh6 lnh6 ivh6 rvh6 h6 => ?_)
    obtain ⟨f6, rfl, rfl, rfl, rfl, rfl, fl6, W6, rgf6, exf6, kp11f6, kp12f6, kp13f6, kp14f6, kp15f6, kp16f6⟩ := h6
    have ri40 : 1 ≤ iv a0 11 ∧ iv a0 11 ≤ 100 := hW.int t_a0 11
    have ri41 : 1 ≤ iv a0 12 ∧ iv a0 12 ≤ 50 := hW.int t_a0 12
    have ri42 : (-2147483648) ≤ iv a0 13 ∧ iv a0 13 ≤ 2147483647 := hW.int t_a0 13
    have ri43 : (-2147483648) ≤ iv a0 14 ∧ iv a0 14 ≤ 2147483647 := hW.int t_a0 14
    have ri44 : (-2147483648) ≤ iv a0 15 ∧ iv a0 15 ≤ 2147483647 := hW.int t_a0 15
    have ri45 : (-2147483648) ≤ iv a0 16 ∧ iv a0 16 ≤ 2147483647 := hW.int t_a0 16
    have F4 := hF0.call hX0 fl6 rfl
    refine c_st (st2 := [.int (iI f6)]) rfl ?_
    have gk11f6 : ivh6 a0 11 = iv a0 11 := kp11f6
    have gk12f6 : ivh6 a0 12 = iv a0 12 := kp12f6
    have gk13f6 : ivh6 a0 13 = iv a0 13 := kp13f6
    have gk14f6 : ivh6 a0 14 = iv a0 14 := kp14f6
    have gk15f6 : ivh6 a0 15 = iv a0 15 := kp15f6
    have gk16f6 : ivh6 a0 16 = iv a0 16 := kp16f6
    have gf6 : f6 = -1 := exf6
    have ri46 : 1 ≤ ivh6 a0 11 ∧ ivh6 a0 11 ≤ 100 := W6.int t_a0 11
    have ri47 : 1 ≤ ivh6 a0 12 ∧ ivh6 a0 12 ≤ 50 := W6.int t_a0 12
    have ri48 : (-2147483648) ≤ ivh6 a0 13 ∧ ivh6 a0 13 ≤ 2147483647 := W6.int t_a0 13
    have ri49 : (-2147483648) ≤ ivh6 a0 14 ∧ ivh6 a0 14 ≤ 2147483647 := W6.int t_a0 14
    have ri50 : (-2147483648) ≤ ivh6 a0 15 ∧ ivh6 a0 15 ≤ 2147483647 := W6.int t_a0 15
    have ri51 : (-2147483648) ≤ ivh6 a0 16 ∧ ivh6 a0 16 ≤ 2147483647 := W6.int t_a0 16
    exact c_iret C dX11_cellOfLine_25 rfl (by decide) (rom0 hph hph (by decide)) ⟨f6, rfl, rfl, rfl, rfl, rfl, F4, W6, ⟨by omega, by omega⟩, trivial, (by omega), (by omega), (by omega), (by omega), (by omega), (by omega)⟩
set_option maxHeartbeats 4000000 in
set_option maxRecDepth 100000 in
theorem C_cell {l : Launch} {G : GT} {mi : Nat} {sk : Nat → Nat} {L : List Nat} {cl ln : Nat → Nat} {iv : Nat → Nat → Int} {rv : Nat → Nat → Option Nat}  {a0 : Nat} {i : Int} {j : Int} (hW : WT (g0 G) sk L cl ln iv rv) (hS : SKL sk L cl) (t_a0 : ty L cl a0 1) (h_i : -2147483648 ≤ i ∧ i ≤ 2147483647) (h_j : -2147483648 ≤ j ∧ j ≤ 2147483647)  : Mc l G mi (Phi (g0 G) sk) PHM yX11_cell cX11_cell 3 (some .int) 3 [.ref a0, .int (iI i), .int (iI j)] L cl ln iv rv 0 (fun v L2 cl2 ln2 iv2 rv2 => ∃ f : Int, v = some (.int (iI f)) ∧ L = L2 ∧ cl = cl2 ∧ ln = ln2 ∧ rv = rv2 ∧ fT [1] L cl iv rv iv2 rv2 ∧ WT (g0 G) sk L2 cl2 ln2 iv2 rv2 ∧ (-2147483648 ≤ f ∧ f ≤ 2147483647) ∧ (True) ∧ iv2 a0 11 = iv a0 11 ∧ iv2 a0 12 = iv a0 12 ∧ iv2 a0 13 = iv a0 13 ∧ iv2 a0 14 = iv a0 14 ∧ iv2 a0 15 = iv a0 15 ∧ iv2 a0 16 = iv a0 16) := by
  refine Mc.mk (by decide) (Nat.le_of_ble_eq_true rfl) ?_
  intro p e s m args below meth c A C hM
  have hph := Phi.le hW hS
  have hX0 : XT L cl ln L cl ln := XT.refl
  have hF0 : fT [1] L cl iv rv iv rv := fT.refl
  refine c_aload_n (j := 0) (x := a0) C dX11_cell_0 rfl ?_
  refine c_iload_n (j := 1) C dX11_cell_1 rfl ?_
  refine c_iload_n (j := 2) C dX11_cell_2 rfl ?_
  refine d_callV (As := [.int (iI i), .int (iI j)]) (rest := []) C hM (C_cellOfLine (a0 := a0) (i := i) (j := j) hW hS t_a0 (by omega) (by omega) ) dX11_cell_3 kV_X11_298 rfl t_a0 rfl rfl (by decide) ck_12 rfl (Nat.le_of_ble_eq_true rfl) ⟨(Nat.le_of_ble_eq_true rfl), (Nat.le_of_ble_eq_true rfl)⟩ hph hph (show 0 + 0 = 0 from rfl) (by decide) (fun rh1 Lh1 clh1 lnh1 ivh1 rvh1 h1 => ?_)
  obtain ⟨f1, rfl, rfl, rfl, rfl, rfl, fl1, W1, rgf1, exf1, kp11f1, kp12f1, kp13f1, kp14f1, kp15f1, kp16f1⟩ := h1
  have ri1 : 1 ≤ iv a0 11 ∧ iv a0 11 ≤ 100 := hW.int t_a0 11
  have ri2 : 1 ≤ iv a0 12 ∧ iv a0 12 ≤ 50 := hW.int t_a0 12
  have ri3 : (-2147483648) ≤ iv a0 13 ∧ iv a0 13 ≤ 2147483647 := hW.int t_a0 13
  have ri4 : (-2147483648) ≤ iv a0 14 ∧ iv a0 14 ≤ 2147483647 := hW.int t_a0 14
  have ri5 : (-2147483648) ≤ iv a0 15 ∧ iv a0 15 ≤ 2147483647 := hW.int t_a0 15
  have ri6 : (-2147483648) ≤ iv a0 16 ∧ iv a0 16 ≤ 2147483647 := hW.int t_a0 16
  have F1 := hF0.call hX0 fl1 rfl
  refine c_st (st2 := [.int (iI f1)]) rfl ?_
  have gk11f1 : ivh1 a0 11 = iv a0 11 := kp11f1
  have gk12f1 : ivh1 a0 12 = iv a0 12 := kp12f1
  have gk13f1 : ivh1 a0 13 = iv a0 13 := kp13f1
  have gk14f1 : ivh1 a0 14 = iv a0 14 := kp14f1
  have gk15f1 : ivh1 a0 15 = iv a0 15 := kp15f1
  have gk16f1 : ivh1 a0 16 = iv a0 16 := kp16f1
  have ri7 : 1 ≤ ivh1 a0 11 ∧ ivh1 a0 11 ≤ 100 := W1.int t_a0 11
  have ri8 : 1 ≤ ivh1 a0 12 ∧ ivh1 a0 12 ≤ 50 := W1.int t_a0 12
  have ri9 : (-2147483648) ≤ ivh1 a0 13 ∧ ivh1 a0 13 ≤ 2147483647 := W1.int t_a0 13
  have ri10 : (-2147483648) ≤ ivh1 a0 14 ∧ ivh1 a0 14 ≤ 2147483647 := W1.int t_a0 14
  have ri11 : (-2147483648) ≤ ivh1 a0 15 ∧ ivh1 a0 15 ≤ 2147483647 := W1.int t_a0 15
  have ri12 : (-2147483648) ≤ ivh1 a0 16 ∧ ivh1 a0 16 ≤ 2147483647 := W1.int t_a0 16
  exact c_iret C dX11_cell_6 rfl (by decide) (rom0 hph hph (by decide)) ⟨f1, rfl, rfl, rfl, rfl, rfl, F1, W1, ⟨by omega, by omega⟩, trivial, (by omega), (by omega), (by omega), (by omega), (by omega), (by omega)⟩
set_option maxHeartbeats 4000000 in
set_option maxRecDepth 100000 in
theorem C_page {l : Launch} {G : GT} {mi : Nat} {sk : Nat → Nat} {L : List Nat} {cl ln : Nat → Nat} {iv : Nat → Nat → Int} {rv : Nat → Nat → Option Nat}  {a0 : Nat} {i : Int} {j : Int} {k : Int} (hW : WT (g0 G) sk L cl ln iv rv) (hS : SKL sk L cl) (t_a0 : ty L cl a0 1) (h_i : -2147483648 ≤ i ∧ i ≤ 2147483647) (h_j : -2147483648 ≤ j ∧ j ≤ 2147483647) (h_k : -2147483648 ≤ k ∧ k ≤ 2147483647)  : Mc l G mi (Phi (g0 G) sk) PHM yX11_page cX11_page 5 (some .int) 3 [.ref a0, .int (iI i), .int (iI j), .int (iI k)] L cl ln iv rv 0 (fun v L2 cl2 ln2 iv2 rv2 => ∃ f : Int, v = some (.int (iI f)) ∧ L = L2 ∧ cl = cl2 ∧ ln = ln2 ∧ rv = rv2 ∧ fT [1] L cl iv rv iv2 rv2 ∧ WT (g0 G) sk L2 cl2 ln2 iv2 rv2 ∧ (-2147483648 ≤ f ∧ f ≤ 2147483647) ∧ (True) ∧ iv2 a0 11 = iv a0 11 ∧ iv2 a0 12 = iv a0 12 ∧ iv2 a0 13 = iv a0 13 ∧ iv2 a0 14 = iv a0 14 ∧ iv2 a0 15 = iv a0 15 ∧ iv2 a0 16 = iv a0 16) := by
  refine Mc.mk (by decide) (Nat.le_of_ble_eq_true rfl) ?_
  intro p e s m args below meth c A C hM
  have hph := Phi.le hW hS
  have tsk2 : ty L cl (sk 2) 2 := ⟨(hS 2 rfl).1, by rw [(hS 2 rfl).2]; rfl⟩
  have tsk3 : ty L cl (sk 3) 3 := ⟨(hS 3 rfl).1, by rw [(hS 3 rfl).2]; rfl⟩
  have tsk4 : ty L cl (sk 4) 4 := ⟨(hS 4 rfl).1, by rw [(hS 4 rfl).2]; rfl⟩
  have tsk5 : ty L cl (sk 5) 5 := ⟨(hS 5 rfl).1, by rw [(hS 5 rfl).2]; rfl⟩
  have tsk13 : ty L cl (sk 13) 13 := ⟨(hS 13 rfl).1, by rw [(hS 13 rfl).2]; rfl⟩
  have tsk14 : ty L cl (sk 14) 14 := ⟨(hS 14 rfl).1, by rw [(hS 14 rfl).2]; rfl⟩
  have tsk15 : ty L cl (sk 15) 15 := ⟨(hS 15 rfl).1, by rw [(hS 15 rfl).2]; rfl⟩
  have tsk16 : ty L cl (sk 16) 16 := ⟨(hS 16 rfl).1, by rw [(hS 16 rfl).2]; rfl⟩
  have tsk17 : ty L cl (sk 17) 17 := ⟨(hS 17 rfl).1, by rw [(hS 17 rfl).2]; rfl⟩
  have tsk22 : ty L cl (sk 22) 22 := ⟨(hS 22 rfl).1, by rw [(hS 22 rfl).2]; rfl⟩
  have tsk23 : ty L cl (sk 23) 23 := ⟨(hS 23 rfl).1, by rw [(hS 23 rfl).2]; rfl⟩
  have hX0 : XT L cl ln L cl ln := XT.refl
  have hF0 : fT [1] L cl iv rv iv rv := fT.refl
  refine c_iload_n (j := 1) C dX11_page_0 rfl ?_
  refine c_if_lt (tgt := 24) C ⟨by omega, by omega⟩ dX11_page_1 (by decide) (fun c1 => ?_) (fun c1 => ?_)
  · refine c_aload_n (j := 0) (x := a0) C dX11_page_24 rfl ?_
    refine c_iconst C dX11_page_25 ?_
    refine d_callV (As := [.int (iI 2)]) (rest := []) C hM (C_refuse (a0 := a0) (x := 2) hW hS t_a0 ⟨by decide, by decide⟩ ) dX11_page_26 kV_X11_102 rfl t_a0 rfl rfl (by decide) ck_12 rfl (Nat.le_of_ble_eq_true rfl) ⟨(Nat.le_of_ble_eq_true rfl), (Nat.le_of_ble_eq_true rfl)⟩ hph hph (show 0 + 0 = 0 from rfl) (by decide) (fun rh1 Lh1 clh1 lnh1 ivh1 rvh1 h1 => ?_)
    obtain ⟨f1, rfl, rfl, rfl, rfl, rfl, fl1, W1, rgf1, exf1, kp11f1, kp12f1, kp13f1, kp14f1, kp15f1, kp16f1⟩ := h1
    have ri1 : 1 ≤ iv a0 11 ∧ iv a0 11 ≤ 100 := hW.int t_a0 11
    have ri2 : 1 ≤ iv a0 12 ∧ iv a0 12 ≤ 50 := hW.int t_a0 12
    have ri3 : (-2147483648) ≤ iv a0 13 ∧ iv a0 13 ≤ 2147483647 := hW.int t_a0 13
    have ri4 : (-2147483648) ≤ iv a0 14 ∧ iv a0 14 ≤ 2147483647 := hW.int t_a0 14
    have ri5 : (-2147483648) ≤ iv a0 15 ∧ iv a0 15 ≤ 2147483647 := hW.int t_a0 15
    have ri6 : (-2147483648) ≤ iv a0 16 ∧ iv a0 16 ≤ 2147483647 := hW.int t_a0 16
    have F1 := hF0.call hX0 fl1 rfl
    refine c_st (st2 := [.int (iI f1)]) rfl ?_
    have gk11f1 : ivh1 a0 11 = iv a0 11 := kp11f1
    have gk12f1 : ivh1 a0 12 = iv a0 12 := kp12f1
    have gk13f1 : ivh1 a0 13 = iv a0 13 := kp13f1
    have gk14f1 : ivh1 a0 14 = iv a0 14 := kp14f1
    have gk15f1 : ivh1 a0 15 = iv a0 15 := kp15f1
    have gk16f1 : ivh1 a0 16 = iv a0 16 := kp16f1
    have gf1 : f1 = -1 := exf1
    have ri7 : 1 ≤ ivh1 a0 11 ∧ ivh1 a0 11 ≤ 100 := W1.int t_a0 11
    have ri8 : 1 ≤ ivh1 a0 12 ∧ ivh1 a0 12 ≤ 50 := W1.int t_a0 12
    have ri9 : (-2147483648) ≤ ivh1 a0 13 ∧ ivh1 a0 13 ≤ 2147483647 := W1.int t_a0 13
    have ri10 : (-2147483648) ≤ ivh1 a0 14 ∧ ivh1 a0 14 ≤ 2147483647 := W1.int t_a0 14
    have ri11 : (-2147483648) ≤ ivh1 a0 15 ∧ ivh1 a0 15 ≤ 2147483647 := W1.int t_a0 15
    have ri12 : (-2147483648) ≤ ivh1 a0 16 ∧ ivh1 a0 16 ≤ 2147483647 := W1.int t_a0 16
    exact c_iret C dX11_page_29 rfl (by decide) (rom0 hph hph (by decide)) ⟨f1, rfl, rfl, rfl, rfl, rfl, F1, W1, ⟨by omega, by omega⟩, trivial, (by omega), (by omega), (by omega), (by omega), (by omega), (by omega)⟩
  · refine c_iload_n (j := 1) C dX11_page_4 rfl ?_
    refine c_aload_n (j := 0) (x := a0) C dX11_page_5 rfl ?_
    refine d_callV (As := []) (rest := [.int (iI i)]) C hM (C_pages (a0 := a0) hW hS t_a0  ) dX11_page_6 kV_X11_302 rfl t_a0 rfl rfl (by decide) ck_12 rfl (Nat.le_of_ble_eq_true rfl) ⟨(Nat.le_of_ble_eq_true rfl), (Nat.le_of_ble_eq_true rfl)⟩ hph hph (show 0 + 0 = 0 from rfl) (by decide) (fun rh2 Lh2 clh2 lnh2 ivh2 rvh2 h2 => ?_)
    obtain ⟨f2, rfl, rfl, rfl, rfl, rfl, rfl, rgf2, exf2⟩ := h2
    refine c_st (st2 := [.int (iI f2), .int (iI i)]) rfl ?_
    refine c_icmp_ge (tgt := 24) C ⟨by omega, by omega⟩ ⟨by omega, by omega⟩ dX11_page_9 (by decide) (fun c2 => ?_) (fun c2 => ?_)
    · refine c_aload_n (j := 0) (x := a0) C dX11_page_24 rfl ?_
      refine c_iconst C dX11_page_25 ?_
      refine d_callV (As := [.int (iI 2)]) (rest := []) C hM (C_refuse (a0 := a0) (x := 2) hW hS t_a0 ⟨by decide, by decide⟩ ) dX11_page_26 kV_X11_102 rfl t_a0 rfl rfl (by decide) ck_12 rfl (Nat.le_of_ble_eq_true rfl) ⟨(Nat.le_of_ble_eq_true rfl), (Nat.le_of_ble_eq_true rfl)⟩ hph hph (show 0 + 0 = 0 from rfl) (by decide) (fun rh3 Lh3 clh3 lnh3 ivh3 rvh3 h3 => ?_)
      obtain ⟨f3, rfl, rfl, rfl, rfl, rfl, fl3, W3, rgf3, exf3, kp11f3, kp12f3, kp13f3, kp14f3, kp15f3, kp16f3⟩ := h3
      have ri13 : 1 ≤ iv a0 11 ∧ iv a0 11 ≤ 100 := hW.int t_a0 11
      have ri14 : 1 ≤ iv a0 12 ∧ iv a0 12 ≤ 50 := hW.int t_a0 12
      have ri15 : (-2147483648) ≤ iv a0 13 ∧ iv a0 13 ≤ 2147483647 := hW.int t_a0 13
      have ri16 : (-2147483648) ≤ iv a0 14 ∧ iv a0 14 ≤ 2147483647 := hW.int t_a0 14
      have ri17 : (-2147483648) ≤ iv a0 15 ∧ iv a0 15 ≤ 2147483647 := hW.int t_a0 15
      have ri18 : (-2147483648) ≤ iv a0 16 ∧ iv a0 16 ≤ 2147483647 := hW.int t_a0 16
      have F2 := hF0.call hX0 fl3 rfl
      refine c_st (st2 := [.int (iI f3)]) rfl ?_
      have gk11f3 : ivh3 a0 11 = iv a0 11 := kp11f3
      have gk12f3 : ivh3 a0 12 = iv a0 12 := kp12f3
      have gk13f3 : ivh3 a0 13 = iv a0 13 := kp13f3
      have gk14f3 : ivh3 a0 14 = iv a0 14 := kp14f3
      have gk15f3 : ivh3 a0 15 = iv a0 15 := kp15f3
      have gk16f3 : ivh3 a0 16 = iv a0 16 := kp16f3
      have gf3 : f3 = -1 := exf3
      have ri19 : 1 ≤ ivh3 a0 11 ∧ ivh3 a0 11 ≤ 100 := W3.int t_a0 11
      have ri20 : 1 ≤ ivh3 a0 12 ∧ ivh3 a0 12 ≤ 50 := W3.int t_a0 12
      have ri21 : (-2147483648) ≤ ivh3 a0 13 ∧ ivh3 a0 13 ≤ 2147483647 := W3.int t_a0 13
      have ri22 : (-2147483648) ≤ ivh3 a0 14 ∧ ivh3 a0 14 ≤ 2147483647 := W3.int t_a0 14
      have ri23 : (-2147483648) ≤ ivh3 a0 15 ∧ ivh3 a0 15 ≤ 2147483647 := W3.int t_a0 15
      have ri24 : (-2147483648) ≤ ivh3 a0 16 ∧ ivh3 a0 16 ≤ 2147483647 := W3.int t_a0 16
      exact c_iret C dX11_page_29 rfl (by decide) (rom0 hph hph (by decide)) ⟨f3, rfl, rfl, rfl, rfl, rfl, F2, W3, ⟨by omega, by omega⟩, trivial, (by omega), (by omega), (by omega), (by omega), (by omega), (by omega)⟩
    · refine c_iload_n (j := 2) C dX11_page_12 rfl ?_
      refine c_if_lt (tgt := 24) C ⟨by omega, by omega⟩ dX11_page_13 (by decide) (fun c3 => ?_) (fun c3 => ?_)
      · refine c_aload_n (j := 0) (x := a0) C dX11_page_24 rfl ?_
        refine c_iconst C dX11_page_25 ?_
        refine d_callV (As := [.int (iI 2)]) (rest := []) C hM (C_refuse (a0 := a0) (x := 2) hW hS t_a0 ⟨by decide, by decide⟩ ) dX11_page_26 kV_X11_102 rfl t_a0 rfl rfl (by decide) ck_12 rfl (Nat.le_of_ble_eq_true rfl) ⟨(Nat.le_of_ble_eq_true rfl), (Nat.le_of_ble_eq_true rfl)⟩ hph hph (show 0 + 0 = 0 from rfl) (by decide) (fun rh4 Lh4 clh4 lnh4 ivh4 rvh4 h4 => ?_)
        obtain ⟨f4, rfl, rfl, rfl, rfl, rfl, fl4, W4, rgf4, exf4, kp11f4, kp12f4, kp13f4, kp14f4, kp15f4, kp16f4⟩ := h4
        have ri25 : 1 ≤ iv a0 11 ∧ iv a0 11 ≤ 100 := hW.int t_a0 11
        have ri26 : 1 ≤ iv a0 12 ∧ iv a0 12 ≤ 50 := hW.int t_a0 12
        have ri27 : (-2147483648) ≤ iv a0 13 ∧ iv a0 13 ≤ 2147483647 := hW.int t_a0 13
        have ri28 : (-2147483648) ≤ iv a0 14 ∧ iv a0 14 ≤ 2147483647 := hW.int t_a0 14
        have ri29 : (-2147483648) ≤ iv a0 15 ∧ iv a0 15 ≤ 2147483647 := hW.int t_a0 15
        have ri30 : (-2147483648) ≤ iv a0 16 ∧ iv a0 16 ≤ 2147483647 := hW.int t_a0 16
        have F3 := hF0.call hX0 fl4 rfl
        refine c_st (st2 := [.int (iI f4)]) rfl ?_
        have gk11f4 : ivh4 a0 11 = iv a0 11 := kp11f4
        have gk12f4 : ivh4 a0 12 = iv a0 12 := kp12f4
        have gk13f4 : ivh4 a0 13 = iv a0 13 := kp13f4
        have gk14f4 : ivh4 a0 14 = iv a0 14 := kp14f4
        have gk15f4 : ivh4 a0 15 = iv a0 15 := kp15f4
        have gk16f4 : ivh4 a0 16 = iv a0 16 := kp16f4
        have gf4 : f4 = -1 := exf4
        have ri31 : 1 ≤ ivh4 a0 11 ∧ ivh4 a0 11 ≤ 100 := W4.int t_a0 11
        have ri32 : 1 ≤ ivh4 a0 12 ∧ ivh4 a0 12 ≤ 50 := W4.int t_a0 12
        have ri33 : (-2147483648) ≤ ivh4 a0 13 ∧ ivh4 a0 13 ≤ 2147483647 := W4.int t_a0 13
        have ri34 : (-2147483648) ≤ ivh4 a0 14 ∧ ivh4 a0 14 ≤ 2147483647 := W4.int t_a0 14
        have ri35 : (-2147483648) ≤ ivh4 a0 15 ∧ ivh4 a0 15 ≤ 2147483647 := W4.int t_a0 15
        have ri36 : (-2147483648) ≤ ivh4 a0 16 ∧ ivh4 a0 16 ≤ 2147483647 := W4.int t_a0 16
        exact c_iret C dX11_page_29 rfl (by decide) (rom0 hph hph (by decide)) ⟨f4, rfl, rfl, rfl, rfl, rfl, F3, W4, ⟨by omega, by omega⟩, trivial, (by omega), (by omega), (by omega), (by omega), (by omega), (by omega)⟩
      · refine c_iload_n (j := 2) C dX11_page_16 rfl ?_
        refine c_aload_n (j := 0) (x := a0) C dX11_page_17 rfl ?_
        have ri37 : 1 ≤ iv a0 12 ∧ iv a0 12 ≤ 50 := hW.int t_a0 12
        refine c_get (k := 12) C ck_12 dX11_page_18 w2_56 (by decide) t_a0 rfl rfl (by decide) rfl ?_
        refine c_icmp_lt (tgt := 30) C ⟨by omega, by omega⟩ ⟨by omega, by omega⟩ dX11_page_21 (by decide) (fun c4 => ?_) (fun c4 => ?_)
        · refine c_aload_n (j := 0) (x := a0) C dX11_page_30 rfl ?_
          refine d_callV (As := []) (rest := []) C hM (C_hasHeader (a0 := a0) hW hS t_a0  ) dX11_page_31 kV_X11_285 rfl t_a0 rfl rfl (by decide) ck_12 rfl (Nat.le_of_ble_eq_true rfl) ⟨(Nat.le_of_ble_eq_true rfl), (Nat.le_of_ble_eq_true rfl)⟩ hph hph (show 0 + 0 = 0 from rfl) (by decide) (fun rh5 Lh5 clh5 lnh5 ivh5 rvh5 h5 => ?_)
          obtain ⟨f5, rfl, rfl, rfl, rfl, rfl, rfl, rgf5, exf5⟩ := h5
          refine c_st (st2 := [.int (iI f5)]) rfl ?_
          have gf5 : f5 = 0 ∨ 2 ≤ iv a0 12 := exf5
          refine c_if_eq (tgt := 41) C ⟨by omega, by omega⟩ dX11_page_34 (by decide) (fun c5 => ?_) (fun c5 => ?_)
          · refine c_iconst C dX11_page_41 ?_
            refine c_istore (lv2 := [(4, .int (iI 0)), (0, .ref a0), (1, .int (iI i)), (2, .int (iI j)), (3, .int (iI k))]) C dX11_page_42 (by decide) rfl ?_
            refine c_iload_n (j := 3) C dX11_page_44 rfl ?_
            refine c_iload (j := 0) C dX11_page_45 rfl ?_
            refine c_icmp_ge (tgt := 86) C ⟨by omega, by omega⟩ ⟨by decide, by decide⟩ dX11_page_47 (by decide) (fun c6 => ?_) (fun c6 => ?_)
            · refine c_aload_n (j := 1) (x := a0) C dX11_page_86 rfl ?_
              refine c_iload_n (j := 2) C dX11_page_87 rfl ?_
              refine c_aload_n (j := 1) (x := a0) C dX11_page_88 rfl ?_
              refine d_callV (As := []) (rest := [.int (iI i), .ref a0]) C hM (C_linesOfPage (a0 := a0) hW hS t_a0  ) dX11_page_89 kV_X11_282 rfl t_a0 rfl rfl (by decide) ck_12 rfl (Nat.le_of_ble_eq_true rfl) ⟨(Nat.le_of_ble_eq_true rfl), (Nat.le_of_ble_eq_true rfl)⟩ hph hph (show 0 + 0 = 0 from rfl) (by decide) (fun rh6 Lh6 clh6 lnh6 ivh6 rvh6 h6 => ?_)
              obtain ⟨f6, rfl, rfl, rfl, rfl, rfl, rfl, rgf6, exf6⟩ := h6
              refine c_st (st2 := [.int (iI f6), .int (iI i), .ref a0]) rfl ?_
              have gf6 : 1 ≤ f6 ∧ f6 ≤ 50 := exf6
              refine c_imul C dX11_page_92 ?_
              obtain ⟨zz1, hzz1, ezz1⟩ := iI_of (iI (i * f6))
              refine c_st (st2 := [.int (iI zz1), .ref a0]) (by rw [ezz1]) ?_
              refine c_iload_n (j := 3) C dX11_page_93 rfl ?_
              refine c_iadd C dX11_page_94 ?_
              obtain ⟨zz2, hzz2, ezz2⟩ := iI_of (iI (zz1 + j))
              refine c_st (st2 := [.int (iI zz2), .ref a0]) (by rw [ezz2]) ?_
              refine c_iload (j := 0) C dX11_page_95 rfl ?_
              refine c_isub C dX11_page_97 ?_
              obtain ⟨zz3, hzz3, ezz3⟩ := iI_of (iI (zz2 - 0))
              refine c_st (st2 := [.int (iI zz3), .ref a0]) (by rw [ezz3]) ?_
              refine c_iload_n (j := 4) C dX11_page_98 rfl ?_
              refine d_callV (As := [.int (iI zz3), .int (iI k)]) (rest := []) C hM (C_cellOfLine (a0 := a0) (i := zz3) (j := k) hW hS t_a0 (by omega) (by omega) ) dX11_page_99 kV_X11_298 rfl t_a0 rfl rfl (by decide) ck_12 rfl (Nat.le_of_ble_eq_true rfl) ⟨(Nat.le_of_ble_eq_true rfl), (Nat.le_of_ble_eq_true rfl)⟩ hph hph (show 0 + 0 = 0 from rfl) (by decide) (fun rh7 Lh7 clh7 lnh7 ivh7 rvh7 h7 => ?_)
              obtain ⟨f7, rfl, rfl, rfl, rfl, rfl, fl7, W7, rgf7, exf7, kp11f7, kp12f7, kp13f7, kp14f7, kp15f7, kp16f7⟩ := h7
              have ri38 : 1 ≤ iv a0 11 ∧ iv a0 11 ≤ 100 := hW.int t_a0 11
              have ri39 : (-2147483648) ≤ iv a0 13 ∧ iv a0 13 ≤ 2147483647 := hW.int t_a0 13
              have ri40 : (-2147483648) ≤ iv a0 14 ∧ iv a0 14 ≤ 2147483647 := hW.int t_a0 14
              have ri41 : (-2147483648) ≤ iv a0 15 ∧ iv a0 15 ≤ 2147483647 := hW.int t_a0 15
              have ri42 : (-2147483648) ≤ iv a0 16 ∧ iv a0 16 ≤ 2147483647 := hW.int t_a0 16
              have F4 := hF0.call hX0 fl7 rfl
              refine c_st (st2 := [.int (iI f7)]) rfl ?_
              have gk11f7 : ivh7 a0 11 = iv a0 11 := kp11f7
              have gk12f7 : ivh7 a0 12 = iv a0 12 := kp12f7
              have gk13f7 : ivh7 a0 13 = iv a0 13 := kp13f7
              have gk14f7 : ivh7 a0 14 = iv a0 14 := kp14f7
              have gk15f7 : ivh7 a0 15 = iv a0 15 := kp15f7
              have gk16f7 : ivh7 a0 16 = iv a0 16 := kp16f7
              have ri43 : 1 ≤ ivh7 a0 11 ∧ ivh7 a0 11 ≤ 100 := W7.int t_a0 11
              have ri44 : 1 ≤ ivh7 a0 12 ∧ ivh7 a0 12 ≤ 50 := W7.int t_a0 12
              have ri45 : (-2147483648) ≤ ivh7 a0 13 ∧ ivh7 a0 13 ≤ 2147483647 := W7.int t_a0 13
              have ri46 : (-2147483648) ≤ ivh7 a0 14 ∧ ivh7 a0 14 ≤ 2147483647 := W7.int t_a0 14
              have ri47 : (-2147483648) ≤ ivh7 a0 15 ∧ ivh7 a0 15 ≤ 2147483647 := W7.int t_a0 15
              have ri48 : (-2147483648) ≤ ivh7 a0 16 ∧ ivh7 a0 16 ≤ 2147483647 := W7.int t_a0 16
              exact c_iret C dX11_page_102 rfl (by decide) (rom0 hph hph (by decide)) ⟨f7, rfl, rfl, rfl, rfl, rfl, F4, W7, ⟨by omega, by omega⟩, trivial, (by omega), (by omega), (by omega), (by omega), (by omega), (by omega)⟩
            · refine c_iload_n (j := 4) C dX11_page_50 rfl ?_
              refine c_if_lt (tgt := 65) C ⟨by omega, by omega⟩ dX11_page_51 (by decide) (fun c7 => ?_) (fun c7 => ?_)
              · refine c_aload_n (j := 1) (x := a0) C dX11_page_65 rfl ?_
                refine c_iconst C dX11_page_66 ?_
                refine d_callV (As := [.int (iI 2)]) (rest := []) C hM (C_refuse (a0 := a0) (x := 2) hW hS t_a0 ⟨by decide, by decide⟩ ) dX11_page_67 kV_X11_102 rfl t_a0 rfl rfl (by decide) ck_12 rfl (Nat.le_of_ble_eq_true rfl) ⟨(Nat.le_of_ble_eq_true rfl), (Nat.le_of_ble_eq_true rfl)⟩ hph hph (show 0 + 0 = 0 from rfl) (by decide) (fun rh8 Lh8 clh8 lnh8 ivh8 rvh8 h8 => ?_)
                obtain ⟨f8, rfl, rfl, rfl, rfl, rfl, fl8, W8, rgf8, exf8, kp11f8, kp12f8, kp13f8, kp14f8, kp15f8, kp16f8⟩ := h8
                have ri49 : 1 ≤ iv a0 11 ∧ iv a0 11 ≤ 100 := hW.int t_a0 11
                have ri50 : (-2147483648) ≤ iv a0 13 ∧ iv a0 13 ≤ 2147483647 := hW.int t_a0 13
                have ri51 : (-2147483648) ≤ iv a0 14 ∧ iv a0 14 ≤ 2147483647 := hW.int t_a0 14
                have ri52 : (-2147483648) ≤ iv a0 15 ∧ iv a0 15 ≤ 2147483647 := hW.int t_a0 15
                have ri53 : (-2147483648) ≤ iv a0 16 ∧ iv a0 16 ≤ 2147483647 := hW.int t_a0 16
                have F5 := hF0.call hX0 fl8 rfl
                refine c_st (st2 := [.int (iI f8)]) rfl ?_
                have gk11f8 : ivh8 a0 11 = iv a0 11 := kp11f8
                have gk12f8 : ivh8 a0 12 = iv a0 12 := kp12f8
                have gk13f8 : ivh8 a0 13 = iv a0 13 := kp13f8
                have gk14f8 : ivh8 a0 14 = iv a0 14 := kp14f8
                have gk15f8 : ivh8 a0 15 = iv a0 15 := kp15f8
                have gk16f8 : ivh8 a0 16 = iv a0 16 := kp16f8
                have gf8 : f8 = -1 := exf8
                refine c_goto (tgt := 85) C dX11_page_70 (by decide) ?_
                have ri54 : 1 ≤ ivh8 a0 11 ∧ ivh8 a0 11 ≤ 100 := W8.int t_a0 11
                have ri55 : 1 ≤ ivh8 a0 12 ∧ ivh8 a0 12 ≤ 50 := W8.int t_a0 12
                have ri56 : (-2147483648) ≤ ivh8 a0 13 ∧ ivh8 a0 13 ≤ 2147483647 := W8.int t_a0 13
                have ri57 : (-2147483648) ≤ ivh8 a0 14 ∧ ivh8 a0 14 ≤ 2147483647 := W8.int t_a0 14
                have ri58 : (-2147483648) ≤ ivh8 a0 15 ∧ ivh8 a0 15 ≤ 2147483647 := W8.int t_a0 15
                have ri59 : (-2147483648) ≤ ivh8 a0 16 ∧ ivh8 a0 16 ≤ 2147483647 := W8.int t_a0 16
                exact c_iret C dX11_page_85 rfl (by decide) (rom0 hph hph (by decide)) ⟨f8, rfl, rfl, rfl, rfl, rfl, F5, W8, ⟨by omega, by omega⟩, trivial, (by omega), (by omega), (by omega), (by omega), (by omega), (by omega)⟩
              · refine c_iload_n (j := 4) C dX11_page_54 rfl ?_
                refine c_aload_n (j := 1) (x := a0) C dX11_page_55 rfl ?_
                obtain ⟨rb1, rq1, trb1⟩ := hW.ref t_a0 3 rfl rfl rfl
                have erb1 := hW.sk trb1 (by decide) rfl
                subst erb1
                refine c_getr (k := 3) C ck_12 dX11_page_56 w2_47 (by decide) t_a0 rfl rfl (by decide) rfl rq1 ?_
                refine c_st (st2 := [.ref (sk 5), .int (iI k)]) rfl ?_
                have ri60 : 0 ≤ iv (sk 5) 2 ∧ iv (sk 5) 2 ≤ 200 := hW.int tsk5 2
                refine c_get (k := 2) C ck_2 dX11_page_59 w1_44 (by decide) tsk5 rfl rfl (by decide) rfl ?_
                refine c_icmp_lt (tgt := 73) C ⟨by omega, by omega⟩ ⟨by omega, by omega⟩ dX11_page_62 (by decide) (fun c8 => ?_) (fun c8 => ?_)
                · refine c_aload_n (j := 1) (x := a0) C dX11_page_73 rfl ?_
                  refine c_aload_n (j := 1) (x := a0) C dX11_page_74 rfl ?_
                  refine c_getr (k := 3) C ck_12 dX11_page_75 w2_47 (by decide) t_a0 rfl rfl (by decide) rfl rq1 ?_
                  refine c_st (st2 := [.ref (sk 5), .ref a0]) rfl ?_
                  refine c_iload_n (j := 4) C dX11_page_78 rfl ?_
                  refine d_callV (As := [.int (iI k)]) (rest := [.ref a0]) C hM (C_at_5 (a0 := (sk 5)) (i := k) hW hS tsk5 (by omega) ) dX11_page_79 kV_X11_224 rfl tsk5 rfl rfl (by decide) ck_2 rfl (Nat.le_of_ble_eq_true rfl) ⟨(Nat.le_of_ble_eq_true rfl), (Nat.le_of_ble_eq_true rfl)⟩ hph hph (show 0 + 0 = 0 from rfl) (by decide) (fun rh9 Lh9 clh9 lnh9 ivh9 rvh9 h9 => ?_)
                  obtain ⟨f9, rfl, rfl, rfl, rfl, rfl, rfl, rgf9, exf9⟩ := h9
                  refine c_st (st2 := [.int (iI f9), .ref a0]) rfl ?_
                  have gf9 : ((0 ≤ k ∧ k < iv (sk 5) 2) ∨ f9 = 0) ∧ ∀ ss, CT iv rv (sk 5) ss → 0 ≤ k → k < iv (sk 5) 2 → f9 = ss k.toNat := exf9
                  refine d_callV (As := [.int (iI f9)]) (rest := []) C hM (C_done (a0 := a0) (x := f9) hW hS t_a0 (by omega) ) dX11_page_82 kV_X11_109 rfl t_a0 rfl rfl (by decide) ck_12 rfl (Nat.le_of_ble_eq_true rfl) ⟨(Nat.le_of_ble_eq_true rfl), (Nat.le_of_ble_eq_true rfl)⟩ hph hph (show 0 + 0 = 0 from rfl) (by decide) (fun rh10 Lh10 clh10 lnh10 ivh10 rvh10 h10 => ?_)
                  obtain ⟨f10, rfl, rfl, rfl, rfl, rfl, fl10, W10, rgf10, exf10, kp11f10, kp12f10, kp13f10, kp14f10, kp15f10, kp16f10⟩ := h10
                  have ri61 : 1 ≤ iv a0 11 ∧ iv a0 11 ≤ 100 := hW.int t_a0 11
                  have ri62 : (-2147483648) ≤ iv a0 13 ∧ iv a0 13 ≤ 2147483647 := hW.int t_a0 13
                  have ri63 : (-2147483648) ≤ iv a0 14 ∧ iv a0 14 ≤ 2147483647 := hW.int t_a0 14
                  have ri64 : (-2147483648) ≤ iv a0 15 ∧ iv a0 15 ≤ 2147483647 := hW.int t_a0 15
                  have ri65 : (-2147483648) ≤ iv a0 16 ∧ iv a0 16 ≤ 2147483647 := hW.int t_a0 16
                  have F6 := hF0.call hX0 fl10 rfl
                  refine c_st (st2 := [.int (iI f10)]) rfl ?_
                  have gk11f10 : ivh10 a0 11 = iv a0 11 := kp11f10
                  have gk12f10 : ivh10 a0 12 = iv a0 12 := kp12f10
                  have gk13f10 : ivh10 a0 13 = iv a0 13 := kp13f10
                  have gk14f10 : ivh10 a0 14 = iv a0 14 := kp14f10
                  have gk15f10 : ivh10 a0 15 = iv a0 15 := kp15f10
                  have gk16f10 : ivh10 a0 16 = iv a0 16 := kp16f10
                  have gf10 : f10 = f9 := exf10
                  have ri66 : 1 ≤ ivh10 a0 11 ∧ ivh10 a0 11 ≤ 100 := W10.int t_a0 11
                  have ri67 : 1 ≤ ivh10 a0 12 ∧ ivh10 a0 12 ≤ 50 := W10.int t_a0 12
                  have ri68 : (-2147483648) ≤ ivh10 a0 13 ∧ ivh10 a0 13 ≤ 2147483647 := W10.int t_a0 13
                  have ri69 : (-2147483648) ≤ ivh10 a0 14 ∧ ivh10 a0 14 ≤ 2147483647 := W10.int t_a0 14
                  have ri70 : (-2147483648) ≤ ivh10 a0 15 ∧ ivh10 a0 15 ≤ 2147483647 := W10.int t_a0 15
                  have ri71 : (-2147483648) ≤ ivh10 a0 16 ∧ ivh10 a0 16 ≤ 2147483647 := W10.int t_a0 16
                  exact c_iret C dX11_page_85 rfl (by decide) (rom0 hph hph (by decide)) ⟨f10, rfl, rfl, rfl, rfl, rfl, F6, W10, ⟨by omega, by omega⟩, trivial, (by omega), (by omega), (by omega), (by omega), (by omega), (by omega)⟩
                · refine c_aload_n (j := 1) (x := a0) C dX11_page_65 rfl ?_
                  refine c_iconst C dX11_page_66 ?_
                  refine d_callV (As := [.int (iI 2)]) (rest := []) C hM (C_refuse (a0 := a0) (x := 2) hW hS t_a0 ⟨by decide, by decide⟩ ) dX11_page_67 kV_X11_102 rfl t_a0 rfl rfl (by decide) ck_12 rfl (Nat.le_of_ble_eq_true rfl) ⟨(Nat.le_of_ble_eq_true rfl), (Nat.le_of_ble_eq_true rfl)⟩ hph hph (show 0 + 0 = 0 from rfl) (by decide) (fun rh11 Lh11 clh11 lnh11 ivh11 rvh11 h11 => ?_)
                  obtain ⟨f11, rfl, rfl, rfl, rfl, rfl, fl11, W11, rgf11, exf11, kp11f11, kp12f11, kp13f11, kp14f11, kp15f11, kp16f11⟩ := h11
                  have ri72 : 1 ≤ iv a0 11 ∧ iv a0 11 ≤ 100 := hW.int t_a0 11
                  have ri73 : (-2147483648) ≤ iv a0 13 ∧ iv a0 13 ≤ 2147483647 := hW.int t_a0 13
                  have ri74 : (-2147483648) ≤ iv a0 14 ∧ iv a0 14 ≤ 2147483647 := hW.int t_a0 14
                  have ri75 : (-2147483648) ≤ iv a0 15 ∧ iv a0 15 ≤ 2147483647 := hW.int t_a0 15
                  have ri76 : (-2147483648) ≤ iv a0 16 ∧ iv a0 16 ≤ 2147483647 := hW.int t_a0 16
                  have F7 := hF0.call hX0 fl11 rfl
                  refine c_st (st2 := [.int (iI f11)]) rfl ?_
                  have gk11f11 : ivh11 a0 11 = iv a0 11 := kp11f11
                  have gk12f11 : ivh11 a0 12 = iv a0 12 := kp12f11
                  have gk13f11 : ivh11 a0 13 = iv a0 13 := kp13f11
                  have gk14f11 : ivh11 a0 14 = iv a0 14 := kp14f11
                  have gk15f11 : ivh11 a0 15 = iv a0 15 := kp15f11
                  have gk16f11 : ivh11 a0 16 = iv a0 16 := kp16f11
                  have gf11 : f11 = -1 := exf11
                  refine c_goto (tgt := 85) C dX11_page_70 (by decide) ?_
                  have ri77 : 1 ≤ ivh11 a0 11 ∧ ivh11 a0 11 ≤ 100 := W11.int t_a0 11
                  have ri78 : 1 ≤ ivh11 a0 12 ∧ ivh11 a0 12 ≤ 50 := W11.int t_a0 12
                  have ri79 : (-2147483648) ≤ ivh11 a0 13 ∧ ivh11 a0 13 ≤ 2147483647 := W11.int t_a0 13
                  have ri80 : (-2147483648) ≤ ivh11 a0 14 ∧ ivh11 a0 14 ≤ 2147483647 := W11.int t_a0 14
                  have ri81 : (-2147483648) ≤ ivh11 a0 15 ∧ ivh11 a0 15 ≤ 2147483647 := W11.int t_a0 15
                  have ri82 : (-2147483648) ≤ ivh11 a0 16 ∧ ivh11 a0 16 ≤ 2147483647 := W11.int t_a0 16
                  exact c_iret C dX11_page_85 rfl (by decide) (rom0 hph hph (by decide)) ⟨f11, rfl, rfl, rfl, rfl, rfl, F7, W11, ⟨by omega, by omega⟩, trivial, (by omega), (by omega), (by omega), (by omega), (by omega), (by omega)⟩
          · refine c_iconst C dX11_page_37 ?_
            refine c_goto (tgt := 42) C dX11_page_38 (by decide) ?_
            refine c_istore (lv2 := [(4, .int (iI 1)), (0, .ref a0), (1, .int (iI i)), (2, .int (iI j)), (3, .int (iI k))]) C dX11_page_42 (by decide) rfl ?_
            refine c_iload_n (j := 3) C dX11_page_44 rfl ?_
            refine c_iload (j := 0) C dX11_page_45 rfl ?_
            refine c_icmp_ge (tgt := 86) C ⟨by omega, by omega⟩ ⟨by decide, by decide⟩ dX11_page_47 (by decide) (fun c9 => ?_) (fun c9 => ?_)
            · refine c_aload_n (j := 1) (x := a0) C dX11_page_86 rfl ?_
              refine c_iload_n (j := 2) C dX11_page_87 rfl ?_
              refine c_aload_n (j := 1) (x := a0) C dX11_page_88 rfl ?_
              refine d_callV (As := []) (rest := [.int (iI i), .ref a0]) C hM (C_linesOfPage (a0 := a0) hW hS t_a0  ) dX11_page_89 kV_X11_282 rfl t_a0 rfl rfl (by decide) ck_12 rfl (Nat.le_of_ble_eq_true rfl) ⟨(Nat.le_of_ble_eq_true rfl), (Nat.le_of_ble_eq_true rfl)⟩ hph hph (show 0 + 0 = 0 from rfl) (by decide) (fun rh12 Lh12 clh12 lnh12 ivh12 rvh12 h12 => ?_)
              obtain ⟨f12, rfl, rfl, rfl, rfl, rfl, rfl, rgf12, exf12⟩ := h12
              refine c_st (st2 := [.int (iI f12), .int (iI i), .ref a0]) rfl ?_
              have gf12 : 1 ≤ f12 ∧ f12 ≤ 50 := exf12
              refine c_imul C dX11_page_92 ?_
              obtain ⟨zz4, hzz4, ezz4⟩ := iI_of (iI (i * f12))
              refine c_st (st2 := [.int (iI zz4), .ref a0]) (by rw [ezz4]) ?_
              refine c_iload_n (j := 3) C dX11_page_93 rfl ?_
              refine c_iadd C dX11_page_94 ?_
              obtain ⟨zz5, hzz5, ezz5⟩ := iI_of (iI (zz4 + j))
              refine c_st (st2 := [.int (iI zz5), .ref a0]) (by rw [ezz5]) ?_
              refine c_iload (j := 0) C dX11_page_95 rfl ?_
              refine c_isub C dX11_page_97 ?_
              obtain ⟨zz6, hzz6, ezz6⟩ := iI_of (iI (zz5 - 1))
              refine c_st (st2 := [.int (iI zz6), .ref a0]) (by rw [ezz6]) ?_
              refine c_iload_n (j := 4) C dX11_page_98 rfl ?_
              refine d_callV (As := [.int (iI zz6), .int (iI k)]) (rest := []) C hM (C_cellOfLine (a0 := a0) (i := zz6) (j := k) hW hS t_a0 (by omega) (by omega) ) dX11_page_99 kV_X11_298 rfl t_a0 rfl rfl (by decide) ck_12 rfl (Nat.le_of_ble_eq_true rfl) ⟨(Nat.le_of_ble_eq_true rfl), (Nat.le_of_ble_eq_true rfl)⟩ hph hph (show 0 + 0 = 0 from rfl) (by decide) (fun rh13 Lh13 clh13 lnh13 ivh13 rvh13 h13 => ?_)
              obtain ⟨f13, rfl, rfl, rfl, rfl, rfl, fl13, W13, rgf13, exf13, kp11f13, kp12f13, kp13f13, kp14f13, kp15f13, kp16f13⟩ := h13
              have ri83 : 1 ≤ iv a0 11 ∧ iv a0 11 ≤ 100 := hW.int t_a0 11
              have ri84 : (-2147483648) ≤ iv a0 13 ∧ iv a0 13 ≤ 2147483647 := hW.int t_a0 13
              have ri85 : (-2147483648) ≤ iv a0 14 ∧ iv a0 14 ≤ 2147483647 := hW.int t_a0 14
              have ri86 : (-2147483648) ≤ iv a0 15 ∧ iv a0 15 ≤ 2147483647 := hW.int t_a0 15
              have ri87 : (-2147483648) ≤ iv a0 16 ∧ iv a0 16 ≤ 2147483647 := hW.int t_a0 16
              have F8 := hF0.call hX0 fl13 rfl
              refine c_st (st2 := [.int (iI f13)]) rfl ?_
              have gk11f13 : ivh13 a0 11 = iv a0 11 := kp11f13
              have gk12f13 : ivh13 a0 12 = iv a0 12 := kp12f13
              have gk13f13 : ivh13 a0 13 = iv a0 13 := kp13f13
              have gk14f13 : ivh13 a0 14 = iv a0 14 := kp14f13
              have gk15f13 : ivh13 a0 15 = iv a0 15 := kp15f13
              have gk16f13 : ivh13 a0 16 = iv a0 16 := kp16f13
              have ri88 : 1 ≤ ivh13 a0 11 ∧ ivh13 a0 11 ≤ 100 := W13.int t_a0 11
              have ri89 : 1 ≤ ivh13 a0 12 ∧ ivh13 a0 12 ≤ 50 := W13.int t_a0 12
              have ri90 : (-2147483648) ≤ ivh13 a0 13 ∧ ivh13 a0 13 ≤ 2147483647 := W13.int t_a0 13
              have ri91 : (-2147483648) ≤ ivh13 a0 14 ∧ ivh13 a0 14 ≤ 2147483647 := W13.int t_a0 14
              have ri92 : (-2147483648) ≤ ivh13 a0 15 ∧ ivh13 a0 15 ≤ 2147483647 := W13.int t_a0 15
              have ri93 : (-2147483648) ≤ ivh13 a0 16 ∧ ivh13 a0 16 ≤ 2147483647 := W13.int t_a0 16
              exact c_iret C dX11_page_102 rfl (by decide) (rom0 hph hph (by decide)) ⟨f13, rfl, rfl, rfl, rfl, rfl, F8, W13, ⟨by omega, by omega⟩, trivial, (by omega), (by omega), (by omega), (by omega), (by omega), (by omega)⟩
            · refine c_iload_n (j := 4) C dX11_page_50 rfl ?_
              refine c_if_lt (tgt := 65) C ⟨by omega, by omega⟩ dX11_page_51 (by decide) (fun c10 => ?_) (fun c10 => ?_)
              · refine c_aload_n (j := 1) (x := a0) C dX11_page_65 rfl ?_
                refine c_iconst C dX11_page_66 ?_
                refine d_callV (As := [.int (iI 2)]) (rest := []) C hM (C_refuse (a0 := a0) (x := 2) hW hS t_a0 ⟨by decide, by decide⟩ ) dX11_page_67 kV_X11_102 rfl t_a0 rfl rfl (by decide) ck_12 rfl (Nat.le_of_ble_eq_true rfl) ⟨(Nat.le_of_ble_eq_true rfl), (Nat.le_of_ble_eq_true rfl)⟩ hph hph (show 0 + 0 = 0 from rfl) (by decide) (fun rh14 Lh14 clh14 lnh14 ivh14 rvh14 h14 => ?_)
                obtain ⟨f14, rfl, rfl, rfl, rfl, rfl, fl14, W14, rgf14, exf14, kp11f14, kp12f14, kp13f14, kp14f14, kp15f14, kp16f14⟩ := h14
                have ri94 : 1 ≤ iv a0 11 ∧ iv a0 11 ≤ 100 := hW.int t_a0 11
                have ri95 : (-2147483648) ≤ iv a0 13 ∧ iv a0 13 ≤ 2147483647 := hW.int t_a0 13
                have ri96 : (-2147483648) ≤ iv a0 14 ∧ iv a0 14 ≤ 2147483647 := hW.int t_a0 14
                have ri97 : (-2147483648) ≤ iv a0 15 ∧ iv a0 15 ≤ 2147483647 := hW.int t_a0 15
                have ri98 : (-2147483648) ≤ iv a0 16 ∧ iv a0 16 ≤ 2147483647 := hW.int t_a0 16
                have F9 := hF0.call hX0 fl14 rfl
                refine c_st (st2 := [.int (iI f14)]) rfl ?_
                have gk11f14 : ivh14 a0 11 = iv a0 11 := kp11f14
                have gk12f14 : ivh14 a0 12 = iv a0 12 := kp12f14
                have gk13f14 : ivh14 a0 13 = iv a0 13 := kp13f14
                have gk14f14 : ivh14 a0 14 = iv a0 14 := kp14f14
                have gk15f14 : ivh14 a0 15 = iv a0 15 := kp15f14
                have gk16f14 : ivh14 a0 16 = iv a0 16 := kp16f14
                have gf14 : f14 = -1 := exf14
                refine c_goto (tgt := 85) C dX11_page_70 (by decide) ?_
                have ri99 : 1 ≤ ivh14 a0 11 ∧ ivh14 a0 11 ≤ 100 := W14.int t_a0 11
                have ri100 : 1 ≤ ivh14 a0 12 ∧ ivh14 a0 12 ≤ 50 := W14.int t_a0 12
                have ri101 : (-2147483648) ≤ ivh14 a0 13 ∧ ivh14 a0 13 ≤ 2147483647 := W14.int t_a0 13
                have ri102 : (-2147483648) ≤ ivh14 a0 14 ∧ ivh14 a0 14 ≤ 2147483647 := W14.int t_a0 14
                have ri103 : (-2147483648) ≤ ivh14 a0 15 ∧ ivh14 a0 15 ≤ 2147483647 := W14.int t_a0 15
                have ri104 : (-2147483648) ≤ ivh14 a0 16 ∧ ivh14 a0 16 ≤ 2147483647 := W14.int t_a0 16
                exact c_iret C dX11_page_85 rfl (by decide) (rom0 hph hph (by decide)) ⟨f14, rfl, rfl, rfl, rfl, rfl, F9, W14, ⟨by omega, by omega⟩, trivial, (by omega), (by omega), (by omega), (by omega), (by omega), (by omega)⟩
              · refine c_iload_n (j := 4) C dX11_page_54 rfl ?_
                refine c_aload_n (j := 1) (x := a0) C dX11_page_55 rfl ?_
                obtain ⟨rb2, rq2, trb2⟩ := hW.ref t_a0 3 rfl rfl rfl
                have erb2 := hW.sk trb2 (by decide) rfl
                subst erb2
                refine c_getr (k := 3) C ck_12 dX11_page_56 w2_47 (by decide) t_a0 rfl rfl (by decide) rfl rq2 ?_
                refine c_st (st2 := [.ref (sk 5), .int (iI k)]) rfl ?_
                have ri105 : 0 ≤ iv (sk 5) 2 ∧ iv (sk 5) 2 ≤ 200 := hW.int tsk5 2
                refine c_get (k := 2) C ck_2 dX11_page_59 w1_44 (by decide) tsk5 rfl rfl (by decide) rfl ?_
                refine c_icmp_lt (tgt := 73) C ⟨by omega, by omega⟩ ⟨by omega, by omega⟩ dX11_page_62 (by decide) (fun c11 => ?_) (fun c11 => ?_)
                · refine c_aload_n (j := 1) (x := a0) C dX11_page_73 rfl ?_
                  refine c_aload_n (j := 1) (x := a0) C dX11_page_74 rfl ?_
                  refine c_getr (k := 3) C ck_12 dX11_page_75 w2_47 (by decide) t_a0 rfl rfl (by decide) rfl rq2 ?_
                  refine c_st (st2 := [.ref (sk 5), .ref a0]) rfl ?_
                  refine c_iload_n (j := 4) C dX11_page_78 rfl ?_
                  refine d_callV (As := [.int (iI k)]) (rest := [.ref a0]) C hM (C_at_5 (a0 := (sk 5)) (i := k) hW hS tsk5 (by omega) ) dX11_page_79 kV_X11_224 rfl tsk5 rfl rfl (by decide) ck_2 rfl (Nat.le_of_ble_eq_true rfl) ⟨(Nat.le_of_ble_eq_true rfl), (Nat.le_of_ble_eq_true rfl)⟩ hph hph (show 0 + 0 = 0 from rfl) (by decide) (fun rh15 Lh15 clh15 lnh15 ivh15 rvh15 h15 => ?_)
                  obtain ⟨f15, rfl, rfl, rfl, rfl, rfl, rfl, rgf15, exf15⟩ := h15
                  refine c_st (st2 := [.int (iI f15), .ref a0]) rfl ?_
                  have gf15 : ((0 ≤ k ∧ k < iv (sk 5) 2) ∨ f15 = 0) ∧ ∀ ss, CT iv rv (sk 5) ss → 0 ≤ k → k < iv (sk 5) 2 → f15 = ss k.toNat := exf15
                  refine d_callV (As := [.int (iI f15)]) (rest := []) C hM (C_done (a0 := a0) (x := f15) hW hS t_a0 (by omega) ) dX11_page_82 kV_X11_109 rfl t_a0 rfl rfl (by decide) ck_12 rfl (Nat.le_of_ble_eq_true rfl) ⟨(Nat.le_of_ble_eq_true rfl), (Nat.le_of_ble_eq_true rfl)⟩ hph hph (show 0 + 0 = 0 from rfl) (by decide) (fun rh16 Lh16 clh16 lnh16 ivh16 rvh16 h16 => ?_)
                  obtain ⟨f16, rfl, rfl, rfl, rfl, rfl, fl16, W16, rgf16, exf16, kp11f16, kp12f16, kp13f16, kp14f16, kp15f16, kp16f16⟩ := h16
                  have ri106 : 1 ≤ iv a0 11 ∧ iv a0 11 ≤ 100 := hW.int t_a0 11
                  have ri107 : (-2147483648) ≤ iv a0 13 ∧ iv a0 13 ≤ 2147483647 := hW.int t_a0 13
                  have ri108 : (-2147483648) ≤ iv a0 14 ∧ iv a0 14 ≤ 2147483647 := hW.int t_a0 14
                  have ri109 : (-2147483648) ≤ iv a0 15 ∧ iv a0 15 ≤ 2147483647 := hW.int t_a0 15
                  have ri110 : (-2147483648) ≤ iv a0 16 ∧ iv a0 16 ≤ 2147483647 := hW.int t_a0 16
                  have F10 := hF0.call hX0 fl16 rfl
                  refine c_st (st2 := [.int (iI f16)]) rfl ?_
                  have gk11f16 : ivh16 a0 11 = iv a0 11 := kp11f16
                  have gk12f16 : ivh16 a0 12 = iv a0 12 := kp12f16
                  have gk13f16 : ivh16 a0 13 = iv a0 13 := kp13f16
                  have gk14f16 : ivh16 a0 14 = iv a0 14 := kp14f16
                  have gk15f16 : ivh16 a0 15 = iv a0 15 := kp15f16
                  have gk16f16 : ivh16 a0 16 = iv a0 16 := kp16f16
                  have gf16 : f16 = f15 := exf16
                  have ri111 : 1 ≤ ivh16 a0 11 ∧ ivh16 a0 11 ≤ 100 := W16.int t_a0 11
                  have ri112 : 1 ≤ ivh16 a0 12 ∧ ivh16 a0 12 ≤ 50 := W16.int t_a0 12
                  have ri113 : (-2147483648) ≤ ivh16 a0 13 ∧ ivh16 a0 13 ≤ 2147483647 := W16.int t_a0 13
                  have ri114 : (-2147483648) ≤ ivh16 a0 14 ∧ ivh16 a0 14 ≤ 2147483647 := W16.int t_a0 14
                  have ri115 : (-2147483648) ≤ ivh16 a0 15 ∧ ivh16 a0 15 ≤ 2147483647 := W16.int t_a0 15
                  have ri116 : (-2147483648) ≤ ivh16 a0 16 ∧ ivh16 a0 16 ≤ 2147483647 := W16.int t_a0 16
                  exact c_iret C dX11_page_85 rfl (by decide) (rom0 hph hph (by decide)) ⟨f16, rfl, rfl, rfl, rfl, rfl, F10, W16, ⟨by omega, by omega⟩, trivial, (by omega), (by omega), (by omega), (by omega), (by omega), (by omega)⟩
                · refine c_aload_n (j := 1) (x := a0) C dX11_page_65 rfl ?_
                  refine c_iconst C dX11_page_66 ?_
                  refine d_callV (As := [.int (iI 2)]) (rest := []) C hM (C_refuse (a0 := a0) (x := 2) hW hS t_a0 ⟨by decide, by decide⟩ ) dX11_page_67 kV_X11_102 rfl t_a0 rfl rfl (by decide) ck_12 rfl (Nat.le_of_ble_eq_true rfl) ⟨(Nat.le_of_ble_eq_true rfl), (Nat.le_of_ble_eq_true rfl)⟩ hph hph (show 0 + 0 = 0 from rfl) (by decide) (fun rh17 Lh17 clh17 lnh17 ivh17 rvh17 h17 => ?_)
                  obtain ⟨f17, rfl, rfl, rfl, rfl, rfl, fl17, W17, rgf17, exf17, kp11f17, kp12f17, kp13f17, kp14f17, kp15f17, kp16f17⟩ := h17
                  have ri117 : 1 ≤ iv a0 11 ∧ iv a0 11 ≤ 100 := hW.int t_a0 11
                  have ri118 : (-2147483648) ≤ iv a0 13 ∧ iv a0 13 ≤ 2147483647 := hW.int t_a0 13
                  have ri119 : (-2147483648) ≤ iv a0 14 ∧ iv a0 14 ≤ 2147483647 := hW.int t_a0 14
                  have ri120 : (-2147483648) ≤ iv a0 15 ∧ iv a0 15 ≤ 2147483647 := hW.int t_a0 15
                  have ri121 : (-2147483648) ≤ iv a0 16 ∧ iv a0 16 ≤ 2147483647 := hW.int t_a0 16
                  have F11 := hF0.call hX0 fl17 rfl
                  refine c_st (st2 := [.int (iI f17)]) rfl ?_
                  have gk11f17 : ivh17 a0 11 = iv a0 11 := kp11f17
                  have gk12f17 : ivh17 a0 12 = iv a0 12 := kp12f17
                  have gk13f17 : ivh17 a0 13 = iv a0 13 := kp13f17
                  have gk14f17 : ivh17 a0 14 = iv a0 14 := kp14f17
                  have gk15f17 : ivh17 a0 15 = iv a0 15 := kp15f17
                  have gk16f17 : ivh17 a0 16 = iv a0 16 := kp16f17
                  have gf17 : f17 = -1 := exf17
                  refine c_goto (tgt := 85) C dX11_page_70 (by decide) ?_
                  have ri122 : 1 ≤ ivh17 a0 11 ∧ ivh17 a0 11 ≤ 100 := W17.int t_a0 11
                  have ri123 : 1 ≤ ivh17 a0 12 ∧ ivh17 a0 12 ≤ 50 := W17.int t_a0 12
                  have ri124 : (-2147483648) ≤ ivh17 a0 13 ∧ ivh17 a0 13 ≤ 2147483647 := W17.int t_a0 13
                  have ri125 : (-2147483648) ≤ ivh17 a0 14 ∧ ivh17 a0 14 ≤ 2147483647 := W17.int t_a0 14
                  have ri126 : (-2147483648) ≤ ivh17 a0 15 ∧ ivh17 a0 15 ≤ 2147483647 := W17.int t_a0 15
                  have ri127 : (-2147483648) ≤ ivh17 a0 16 ∧ ivh17 a0 16 ≤ 2147483647 := W17.int t_a0 16
                  exact c_iret C dX11_page_85 rfl (by decide) (rom0 hph hph (by decide)) ⟨f17, rfl, rfl, rfl, rfl, rfl, F11, W17, ⟨by omega, by omega⟩, trivial, (by omega), (by omega), (by omega), (by omega), (by omega), (by omega)⟩
        · refine c_aload_n (j := 0) (x := a0) C dX11_page_24 rfl ?_
          refine c_iconst C dX11_page_25 ?_
          refine d_callV (As := [.int (iI 2)]) (rest := []) C hM (C_refuse (a0 := a0) (x := 2) hW hS t_a0 ⟨by decide, by decide⟩ ) dX11_page_26 kV_X11_102 rfl t_a0 rfl rfl (by decide) ck_12 rfl (Nat.le_of_ble_eq_true rfl) ⟨(Nat.le_of_ble_eq_true rfl), (Nat.le_of_ble_eq_true rfl)⟩ hph hph (show 0 + 0 = 0 from rfl) (by decide) (fun rh18 Lh18 clh18 lnh18 ivh18 rvh18 h18 => ?_)
          obtain ⟨f18, rfl, rfl, rfl, rfl, rfl, fl18, W18, rgf18, exf18, kp11f18, kp12f18, kp13f18, kp14f18, kp15f18, kp16f18⟩ := h18
          have ri128 : 1 ≤ iv a0 11 ∧ iv a0 11 ≤ 100 := hW.int t_a0 11
          have ri129 : (-2147483648) ≤ iv a0 13 ∧ iv a0 13 ≤ 2147483647 := hW.int t_a0 13
          have ri130 : (-2147483648) ≤ iv a0 14 ∧ iv a0 14 ≤ 2147483647 := hW.int t_a0 14
          have ri131 : (-2147483648) ≤ iv a0 15 ∧ iv a0 15 ≤ 2147483647 := hW.int t_a0 15
          have ri132 : (-2147483648) ≤ iv a0 16 ∧ iv a0 16 ≤ 2147483647 := hW.int t_a0 16
          have F12 := hF0.call hX0 fl18 rfl
          refine c_st (st2 := [.int (iI f18)]) rfl ?_
          have gk11f18 : ivh18 a0 11 = iv a0 11 := kp11f18
          have gk12f18 : ivh18 a0 12 = iv a0 12 := kp12f18
          have gk13f18 : ivh18 a0 13 = iv a0 13 := kp13f18
          have gk14f18 : ivh18 a0 14 = iv a0 14 := kp14f18
          have gk15f18 : ivh18 a0 15 = iv a0 15 := kp15f18
          have gk16f18 : ivh18 a0 16 = iv a0 16 := kp16f18
          have gf18 : f18 = -1 := exf18
          have ri133 : 1 ≤ ivh18 a0 11 ∧ ivh18 a0 11 ≤ 100 := W18.int t_a0 11
          have ri134 : 1 ≤ ivh18 a0 12 ∧ ivh18 a0 12 ≤ 50 := W18.int t_a0 12
          have ri135 : (-2147483648) ≤ ivh18 a0 13 ∧ ivh18 a0 13 ≤ 2147483647 := W18.int t_a0 13
          have ri136 : (-2147483648) ≤ ivh18 a0 14 ∧ ivh18 a0 14 ≤ 2147483647 := W18.int t_a0 14
          have ri137 : (-2147483648) ≤ ivh18 a0 15 ∧ ivh18 a0 15 ≤ 2147483647 := W18.int t_a0 15
          have ri138 : (-2147483648) ≤ ivh18 a0 16 ∧ ivh18 a0 16 ≤ 2147483647 := W18.int t_a0 16
          exact c_iret C dX11_page_29 rfl (by decide) (rom0 hph hph (by decide)) ⟨f18, rfl, rfl, rfl, rfl, rfl, F12, W18, ⟨by omega, by omega⟩, trivial, (by omega), (by omega), (by omega), (by omega), (by omega), (by omega)⟩
set_option maxHeartbeats 4000000 in
set_option maxRecDepth 100000 in
theorem C_cut {l : Launch} {G : GT} {mi : Nat} {sk : Nat → Nat} {L : List Nat} {cl ln : Nat → Nat} {iv : Nat → Nat → Int} {rv : Nat → Nat → Option Nat}  {a0 : Nat} {i : Int} {n : Int} (hW : WT (g0 G) sk L cl ln iv rv) (hS : SKL sk L cl) (t_a0 : ty L cl a0 1) (h_i : -2147483648 ≤ i ∧ i ≤ 2147483647) (h_n : -2147483648 ≤ n ∧ n ≤ 2147483647)  : Mc l G mi (Phi (g0 G) sk) PHM yX11_cut cX11_cut 4 (some .int) 2 [.ref a0, .int (iI i), .int (iI n)] L cl ln iv rv 0 (fun v L2 cl2 ln2 iv2 rv2 => ∃ f : Int, v = some (.int (iI f)) ∧ L = L2 ∧ cl = cl2 ∧ ln = ln2 ∧ rv = rv2 ∧ fT [1, 19, 64] L cl iv rv iv2 rv2 ∧ WT (g0 G) sk L2 cl2 ln2 iv2 rv2 ∧ (-2147483648 ≤ f ∧ f ≤ 2147483647) ∧ (True) ∧ iv2 a0 11 = iv a0 11 ∧ iv2 a0 12 = iv a0 12 ∧ iv2 a0 13 = iv a0 13 ∧ iv2 a0 14 = iv a0 14 ∧ iv2 a0 15 = iv a0 15 ∧ iv2 a0 16 = iv a0 16) := by
  refine Mc.mk (by decide) (Nat.le_of_ble_eq_true rfl) ?_
  intro p e s m args below meth c A C hM
  have hph := Phi.le hW hS
  have hX0 : XT L cl ln L cl ln := XT.refl
  have hF0 : fT [1, 19, 64] L cl iv rv iv rv := fT.refl
  refine c_iload_n (j := 2) C dX11_cut_0 rfl ?_
  refine c_sipush (z := 200) C dX11_cut_1 (by decide) ?_
  refine c_icmp_le (tgt := 14) C ⟨by omega, by omega⟩ ⟨by decide, by decide⟩ dX11_cut_4 (by decide) (fun c1 => ?_) (fun c1 => ?_)
  · refine c_iload_n (j := 2) C dX11_cut_14 rfl ?_
    refine c_if_ge (tgt := 24) C ⟨by omega, by omega⟩ dX11_cut_15 (by decide) (fun c2 => ?_) (fun c2 => ?_)
    · refine c_aload_n (j := 0) (x := a0) C dX11_cut_24 rfl ?_
      obtain ⟨rb1, rq1, trb1⟩ := hW.ref t_a0 9 rfl rfl rfl
      refine c_getr (k := 9) C ck_12 dX11_cut_25 w2_53 (by decide) t_a0 rfl rfl (by decide) rfl rq1 ?_
      refine c_st (st2 := [.ref rb1]) rfl ?_
      refine c_iload_n (j := 1) C dX11_cut_28 rfl ?_
      have ri1 : 0 ≤ iv rb1 1 ∧ iv rb1 1 ≤ 200 := hW.int trb1 1
      refine d_callV (As := [.int (iI i)]) (rest := []) C hM (C_present (a0 := rb1) (i := i) hW hS trb1 (by omega) ) dX11_cut_29 kV_X11_288 rfl trb1 rfl rfl (by decide) ck_8 rfl (Nat.le_of_ble_eq_true rfl) ⟨(Nat.le_of_ble_eq_true rfl), (Nat.le_of_ble_eq_true rfl)⟩ hph hph (show 0 + 0 = 0 from rfl) (by decide) (fun rh1 Lh1 clh1 lnh1 ivh1 rvh1 h1 => ?_)
      obtain ⟨f1, rfl, rfl, rfl, rfl, rfl, rfl, rgf1, exf1⟩ := h1
      refine c_st (st2 := [(va_rf f1)]) rfl ?_
      have gf1 : f1 = none ∨ (0 ≤ i ∧ i < iv rb1 1) := exf1
      refine c_astorer_n (r := f1) (lv2 := [(3, (va_rf f1)), (0, .ref a0), (1, .int (iI i)), (2, .int (iI n))]) C dX11_cut_32 (by decide) rfl ?_
      refine c_aloadr_n (j := 0) (r := f1) C dX11_cut_33 rfl ?_
      refine c_ifnonnull (r := f1) (tgt := 50) C dX11_cut_34 (by decide) (fun ob1 oq1 => ?_) (fun oq1 => ?_)
      · subst oq1
        have tob1 := rgf1 ob1 rfl
        refine c_lv (lv2 := [(3, .ref ob1), (0, .ref a0), (1, .int (iI i)), (2, .int (iI n))]) [0, 1, 2, 3] rfl ?_
        refine c_st (st2 := []) rfl ?_
        refine c_aload_n (j := 0) (x := ob1) C dX11_cut_50 rfl ?_
        refine c_iload_n (j := 3) C dX11_cut_51 rfl ?_
        refine d_callV (As := [.int (iI n)]) (rest := []) C hM (C_resize (a0 := ob1) (n := n) hW hS tob1 (by omega) (by show 0 ≤ n ∧ n ≤ 200; omega)) dX11_cut_52 kV_X11_305 rfl tob1 rfl rfl (by decide) ck_3 rfl (Nat.le_of_ble_eq_true rfl) ⟨(Nat.le_of_ble_eq_true rfl), (Nat.le_of_ble_eq_true rfl)⟩ hph hph (show 0 + 0 = 0 from rfl) (by decide) (fun rh2 Lh2 clh2 lnh2 ivh2 rvh2 h2 => ?_)
        obtain ⟨rfl, rfl, rfl, rfl, rfl, fl2, W2, exf2⟩ := h2
        have F1 := hF0.call hX0 fl2 rfl
        refine c_st (st2 := []) rfl ?_
        refine c_aload_n (j := 1) (x := a0) C dX11_cut_55 rfl ?_
        refine c_iload_n (j := 3) C dX11_cut_56 rfl ?_
        refine d_callV (As := [.int (iI n)]) (rest := []) C hM (C_done (a0 := a0) (x := n) W2 hS t_a0 (by omega) ) dX11_cut_57 kV_X11_109 rfl t_a0 rfl rfl (by decide) ck_12 rfl (Nat.le_of_ble_eq_true rfl) ⟨(Nat.le_of_ble_eq_true rfl), (Nat.le_of_ble_eq_true rfl)⟩ hph hph (show 0 + 0 = 0 from rfl) (by decide) (fun rh3 Lh3 clh3 lnh3 ivh3 rvh3 h3 => ?_)
        obtain ⟨f3, rfl, rfl, rfl, rfl, rfl, fl3, W3, rgf3, exf3, kp11f3, kp12f3, kp13f3, kp14f3, kp15f3, kp16f3⟩ := h3
        have ri2 : 1 ≤ ivh2 a0 11 ∧ ivh2 a0 11 ≤ 100 := W2.int t_a0 11
        have ie1 : ivh2 a0 11 = iv a0 11 := fl2.i t_a0 rfl 11
        have ri3 : 1 ≤ ivh2 a0 12 ∧ ivh2 a0 12 ≤ 50 := W2.int t_a0 12
        have ie2 : ivh2 a0 12 = iv a0 12 := fl2.i t_a0 rfl 12
        have ri4 : (-2147483648) ≤ ivh2 a0 13 ∧ ivh2 a0 13 ≤ 2147483647 := W2.int t_a0 13
        have ie3 : ivh2 a0 13 = iv a0 13 := fl2.i t_a0 rfl 13
        have ri5 : (-2147483648) ≤ ivh2 a0 14 ∧ ivh2 a0 14 ≤ 2147483647 := W2.int t_a0 14
        have ie4 : ivh2 a0 14 = iv a0 14 := fl2.i t_a0 rfl 14
        have ri6 : (-2147483648) ≤ ivh2 a0 15 ∧ ivh2 a0 15 ≤ 2147483647 := W2.int t_a0 15
        have ie5 : ivh2 a0 15 = iv a0 15 := fl2.i t_a0 rfl 15
        have ri7 : (-2147483648) ≤ ivh2 a0 16 ∧ ivh2 a0 16 ≤ 2147483647 := W2.int t_a0 16
        have ie6 : ivh2 a0 16 = iv a0 16 := fl2.i t_a0 rfl 16
        have F2 := F1.call hX0 fl3 rfl
        refine c_st (st2 := [.int (iI f3)]) rfl ?_
        have gk11f3 : ivh3 a0 11 = ivh2 a0 11 := kp11f3
        have gk12f3 : ivh3 a0 12 = ivh2 a0 12 := kp12f3
        have gk13f3 : ivh3 a0 13 = ivh2 a0 13 := kp13f3
        have gk14f3 : ivh3 a0 14 = ivh2 a0 14 := kp14f3
        have gk15f3 : ivh3 a0 15 = ivh2 a0 15 := kp15f3
        have gk16f3 : ivh3 a0 16 = ivh2 a0 16 := kp16f3
        have gf3 : f3 = n := exf3
        have ri8 : 1 ≤ ivh3 a0 11 ∧ ivh3 a0 11 ≤ 100 := W3.int t_a0 11
        have ri9 : 1 ≤ ivh3 a0 12 ∧ ivh3 a0 12 ≤ 50 := W3.int t_a0 12
        have ri10 : (-2147483648) ≤ ivh3 a0 13 ∧ ivh3 a0 13 ≤ 2147483647 := W3.int t_a0 13
        have ri11 : (-2147483648) ≤ ivh3 a0 14 ∧ ivh3 a0 14 ≤ 2147483647 := W3.int t_a0 14
        have ri12 : (-2147483648) ≤ ivh3 a0 15 ∧ ivh3 a0 15 ≤ 2147483647 := W3.int t_a0 15
        have ri13 : (-2147483648) ≤ ivh3 a0 16 ∧ ivh3 a0 16 ≤ 2147483647 := W3.int t_a0 16
        exact c_iret C dX11_cut_60 rfl (by decide) (rom0 hph hph (by decide)) ⟨f3, rfl, rfl, rfl, rfl, rfl, F2, W3, ⟨by omega, by omega⟩, trivial, (by omega), (by omega), (by omega), (by omega), (by omega), (by omega)⟩
      · subst oq1
        refine c_lv (lv2 := [(3, .null), (0, .ref a0), (1, .int (iI i)), (2, .int (iI n))]) [0, 1, 2, 3] rfl ?_
        refine c_st (st2 := []) rfl ?_
        refine c_aload_n (j := 1) (x := a0) C dX11_cut_37 rfl ?_
        refine c_aload_n (j := 1) (x := a0) C dX11_cut_38 rfl ?_
        refine c_getr (k := 9) C ck_12 dX11_cut_39 w2_53 (by decide) t_a0 rfl rfl (by decide) rfl rq1 ?_
        refine c_st (st2 := [.ref rb1, .ref a0]) rfl ?_
        refine c_iload_n (j := 2) C dX11_cut_42 rfl ?_
        refine d_callV (As := [.int (iI i)]) (rest := [.ref a0]) C hM (C_whyNone (a0 := rb1) (i := i) hW hS trb1 (by omega) ) dX11_cut_43 kV_X11_292 rfl trb1 rfl rfl (by decide) ck_8 rfl (Nat.le_of_ble_eq_true rfl) ⟨(Nat.le_of_ble_eq_true rfl), (Nat.le_of_ble_eq_true rfl)⟩ hph hph (show 0 + 0 = 0 from rfl) (by decide) (fun rh4 Lh4 clh4 lnh4 ivh4 rvh4 h4 => ?_)
        obtain ⟨f4, rfl, rfl, rfl, rfl, rfl, rfl, rgf4, exf4⟩ := h4
        refine c_st (st2 := [.int (iI f4), .ref a0]) rfl ?_
        have gf4 : f4 = 1 ∨ f4 = 2 := exf4
        refine d_callV (As := [.int (iI f4)]) (rest := []) C hM (C_refuse (a0 := a0) (x := f4) hW hS t_a0 (by omega) ) dX11_cut_46 kV_X11_102 rfl t_a0 rfl rfl (by decide) ck_12 rfl (Nat.le_of_ble_eq_true rfl) ⟨(Nat.le_of_ble_eq_true rfl), (Nat.le_of_ble_eq_true rfl)⟩ hph hph (show 0 + 0 = 0 from rfl) (by decide) (fun rh5 Lh5 clh5 lnh5 ivh5 rvh5 h5 => ?_)
        obtain ⟨f5, rfl, rfl, rfl, rfl, rfl, fl5, W5, rgf5, exf5, kp11f5, kp12f5, kp13f5, kp14f5, kp15f5, kp16f5⟩ := h5
        have ri14 : 1 ≤ iv a0 11 ∧ iv a0 11 ≤ 100 := hW.int t_a0 11
        have ri15 : 1 ≤ iv a0 12 ∧ iv a0 12 ≤ 50 := hW.int t_a0 12
        have ri16 : (-2147483648) ≤ iv a0 13 ∧ iv a0 13 ≤ 2147483647 := hW.int t_a0 13
        have ri17 : (-2147483648) ≤ iv a0 14 ∧ iv a0 14 ≤ 2147483647 := hW.int t_a0 14
        have ri18 : (-2147483648) ≤ iv a0 15 ∧ iv a0 15 ≤ 2147483647 := hW.int t_a0 15
        have ri19 : (-2147483648) ≤ iv a0 16 ∧ iv a0 16 ≤ 2147483647 := hW.int t_a0 16
        have F3 := hF0.call hX0 fl5 rfl
        refine c_st (st2 := [.int (iI f5)]) rfl ?_
        have gk11f5 : ivh5 a0 11 = iv a0 11 := kp11f5
        have gk12f5 : ivh5 a0 12 = iv a0 12 := kp12f5
        have gk13f5 : ivh5 a0 13 = iv a0 13 := kp13f5
        have gk14f5 : ivh5 a0 14 = iv a0 14 := kp14f5
        have gk15f5 : ivh5 a0 15 = iv a0 15 := kp15f5
        have gk16f5 : ivh5 a0 16 = iv a0 16 := kp16f5
        have gf5 : f5 = -1 := exf5
        have ri20 : 1 ≤ ivh5 a0 11 ∧ ivh5 a0 11 ≤ 100 := W5.int t_a0 11
        have ri21 : 1 ≤ ivh5 a0 12 ∧ ivh5 a0 12 ≤ 50 := W5.int t_a0 12
        have ri22 : (-2147483648) ≤ ivh5 a0 13 ∧ ivh5 a0 13 ≤ 2147483647 := W5.int t_a0 13
        have ri23 : (-2147483648) ≤ ivh5 a0 14 ∧ ivh5 a0 14 ≤ 2147483647 := W5.int t_a0 14
        have ri24 : (-2147483648) ≤ ivh5 a0 15 ∧ ivh5 a0 15 ≤ 2147483647 := W5.int t_a0 15
        have ri25 : (-2147483648) ≤ ivh5 a0 16 ∧ ivh5 a0 16 ≤ 2147483647 := W5.int t_a0 16
        exact c_iret C dX11_cut_49 rfl (by decide) (rom0 hph hph (by decide)) ⟨f5, rfl, rfl, rfl, rfl, rfl, F3, W5, ⟨by omega, by omega⟩, trivial, (by omega), (by omega), (by omega), (by omega), (by omega), (by omega)⟩
    · refine c_aload_n (j := 0) (x := a0) C dX11_cut_18 rfl ?_
      refine c_iconst C dX11_cut_19 ?_
      refine d_callV (As := [.int (iI 5)]) (rest := []) C hM (C_refuse (a0 := a0) (x := 5) hW hS t_a0 ⟨by decide, by decide⟩ ) dX11_cut_20 kV_X11_102 rfl t_a0 rfl rfl (by decide) ck_12 rfl (Nat.le_of_ble_eq_true rfl) ⟨(Nat.le_of_ble_eq_true rfl), (Nat.le_of_ble_eq_true rfl)⟩ hph hph (show 0 + 0 = 0 from rfl) (by decide) (fun rh6 Lh6 clh6 lnh6 ivh6 rvh6 h6 => ?_)
      obtain ⟨f6, rfl, rfl, rfl, rfl, rfl, fl6, W6, rgf6, exf6, kp11f6, kp12f6, kp13f6, kp14f6, kp15f6, kp16f6⟩ := h6
      have ri26 : 1 ≤ iv a0 11 ∧ iv a0 11 ≤ 100 := hW.int t_a0 11
      have ri27 : 1 ≤ iv a0 12 ∧ iv a0 12 ≤ 50 := hW.int t_a0 12
      have ri28 : (-2147483648) ≤ iv a0 13 ∧ iv a0 13 ≤ 2147483647 := hW.int t_a0 13
      have ri29 : (-2147483648) ≤ iv a0 14 ∧ iv a0 14 ≤ 2147483647 := hW.int t_a0 14
      have ri30 : (-2147483648) ≤ iv a0 15 ∧ iv a0 15 ≤ 2147483647 := hW.int t_a0 15
      have ri31 : (-2147483648) ≤ iv a0 16 ∧ iv a0 16 ≤ 2147483647 := hW.int t_a0 16
      have F4 := hF0.call hX0 fl6 rfl
      refine c_st (st2 := [.int (iI f6)]) rfl ?_
      have gk11f6 : ivh6 a0 11 = iv a0 11 := kp11f6
      have gk12f6 : ivh6 a0 12 = iv a0 12 := kp12f6
      have gk13f6 : ivh6 a0 13 = iv a0 13 := kp13f6
      have gk14f6 : ivh6 a0 14 = iv a0 14 := kp14f6
      have gk15f6 : ivh6 a0 15 = iv a0 15 := kp15f6
      have gk16f6 : ivh6 a0 16 = iv a0 16 := kp16f6
      have gf6 : f6 = -1 := exf6
      have ri32 : 1 ≤ ivh6 a0 11 ∧ ivh6 a0 11 ≤ 100 := W6.int t_a0 11
      have ri33 : 1 ≤ ivh6 a0 12 ∧ ivh6 a0 12 ≤ 50 := W6.int t_a0 12
      have ri34 : (-2147483648) ≤ ivh6 a0 13 ∧ ivh6 a0 13 ≤ 2147483647 := W6.int t_a0 13
      have ri35 : (-2147483648) ≤ ivh6 a0 14 ∧ ivh6 a0 14 ≤ 2147483647 := W6.int t_a0 14
      have ri36 : (-2147483648) ≤ ivh6 a0 15 ∧ ivh6 a0 15 ≤ 2147483647 := W6.int t_a0 15
      have ri37 : (-2147483648) ≤ ivh6 a0 16 ∧ ivh6 a0 16 ≤ 2147483647 := W6.int t_a0 16
      exact c_iret C dX11_cut_23 rfl (by decide) (rom0 hph hph (by decide)) ⟨f6, rfl, rfl, rfl, rfl, rfl, F4, W6, ⟨by omega, by omega⟩, trivial, (by omega), (by omega), (by omega), (by omega), (by omega), (by omega)⟩
  · refine c_aload_n (j := 0) (x := a0) C dX11_cut_7 rfl ?_
    refine c_bipush (z := 6) C dX11_cut_8 (by decide) ?_
    refine d_callV (As := [.int (iI 6)]) (rest := []) C hM (C_refuse (a0 := a0) (x := 6) hW hS t_a0 ⟨by decide, by decide⟩ ) dX11_cut_10 kV_X11_102 rfl t_a0 rfl rfl (by decide) ck_12 rfl (Nat.le_of_ble_eq_true rfl) ⟨(Nat.le_of_ble_eq_true rfl), (Nat.le_of_ble_eq_true rfl)⟩ hph hph (show 0 + 0 = 0 from rfl) (by decide) (fun rh7 Lh7 clh7 lnh7 ivh7 rvh7 h7 => ?_)
    obtain ⟨f7, rfl, rfl, rfl, rfl, rfl, fl7, W7, rgf7, exf7, kp11f7, kp12f7, kp13f7, kp14f7, kp15f7, kp16f7⟩ := h7
    have ri38 : 1 ≤ iv a0 11 ∧ iv a0 11 ≤ 100 := hW.int t_a0 11
    have ri39 : 1 ≤ iv a0 12 ∧ iv a0 12 ≤ 50 := hW.int t_a0 12
    have ri40 : (-2147483648) ≤ iv a0 13 ∧ iv a0 13 ≤ 2147483647 := hW.int t_a0 13
    have ri41 : (-2147483648) ≤ iv a0 14 ∧ iv a0 14 ≤ 2147483647 := hW.int t_a0 14
    have ri42 : (-2147483648) ≤ iv a0 15 ∧ iv a0 15 ≤ 2147483647 := hW.int t_a0 15
    have ri43 : (-2147483648) ≤ iv a0 16 ∧ iv a0 16 ≤ 2147483647 := hW.int t_a0 16
    have F5 := hF0.call hX0 fl7 rfl
    refine c_st (st2 := [.int (iI f7)]) rfl ?_
    have gk11f7 : ivh7 a0 11 = iv a0 11 := kp11f7
    have gk12f7 : ivh7 a0 12 = iv a0 12 := kp12f7
    have gk13f7 : ivh7 a0 13 = iv a0 13 := kp13f7
    have gk14f7 : ivh7 a0 14 = iv a0 14 := kp14f7
    have gk15f7 : ivh7 a0 15 = iv a0 15 := kp15f7
    have gk16f7 : ivh7 a0 16 = iv a0 16 := kp16f7
    have gf7 : f7 = -1 := exf7
    have ri44 : 1 ≤ ivh7 a0 11 ∧ ivh7 a0 11 ≤ 100 := W7.int t_a0 11
    have ri45 : 1 ≤ ivh7 a0 12 ∧ ivh7 a0 12 ≤ 50 := W7.int t_a0 12
    have ri46 : (-2147483648) ≤ ivh7 a0 13 ∧ ivh7 a0 13 ≤ 2147483647 := W7.int t_a0 13
    have ri47 : (-2147483648) ≤ ivh7 a0 14 ∧ ivh7 a0 14 ≤ 2147483647 := W7.int t_a0 14
    have ri48 : (-2147483648) ≤ ivh7 a0 15 ∧ ivh7 a0 15 ≤ 2147483647 := W7.int t_a0 15
    have ri49 : (-2147483648) ≤ ivh7 a0 16 ∧ ivh7 a0 16 ≤ 2147483647 := W7.int t_a0 16
    exact c_iret C dX11_cut_13 rfl (by decide) (rom0 hph hph (by decide)) ⟨f7, rfl, rfl, rfl, rfl, rfl, F5, W7, ⟨by omega, by omega⟩, trivial, (by omega), (by omega), (by omega), (by omega), (by omega), (by omega)⟩
set_option maxHeartbeats 4000000 in
set_option maxRecDepth 100000 in
theorem C_lose {l : Launch} {G : GT} {mi : Nat} {sk : Nat → Nat} {L : List Nat} {cl ln : Nat → Nat} {iv : Nat → Nat → Int} {rv : Nat → Nat → Option Nat}  {a0 : Nat} {i : Int} (hW : WT (g0 G) sk L cl ln iv rv) (hS : SKL sk L cl) (t_a0 : ty L cl a0 1) (h_i : -2147483648 ≤ i ∧ i ≤ 2147483647)  : Mc l G mi (Phi (g0 G) sk) PHM yX11_lose cX11_lose 3 (some .int) 1 [.ref a0, .int (iI i)] L cl ln iv rv 0 (fun v L2 cl2 ln2 iv2 rv2 => ∃ f : Int, v = some (.int (iI f)) ∧ L = L2 ∧ cl = cl2 ∧ ln = ln2 ∧ rv = rv2 ∧ fT [1, 19] L cl iv rv iv2 rv2 ∧ WT (g0 G) sk L2 cl2 ln2 iv2 rv2 ∧ (-2147483648 ≤ f ∧ f ≤ 2147483647) ∧ (True) ∧ iv2 a0 11 = iv a0 11 ∧ iv2 a0 12 = iv a0 12 ∧ iv2 a0 13 = iv a0 13 ∧ iv2 a0 14 = iv a0 14 ∧ iv2 a0 15 = iv a0 15 ∧ iv2 a0 16 = iv a0 16) := by
  refine Mc.mk (by decide) (Nat.le_of_ble_eq_true rfl) ?_
  intro p e s m args below meth c A C hM
  have hph := Phi.le hW hS
  have hX0 : XT L cl ln L cl ln := XT.refl
  have hF0 : fT [1, 19] L cl iv rv iv rv := fT.refl
  refine c_aload_n (j := 0) (x := a0) C dX11_lose_0 rfl ?_
  obtain ⟨rb1, rq1, trb1⟩ := hW.ref t_a0 9 rfl rfl rfl
  refine c_getr (k := 9) C ck_12 dX11_lose_1 w2_53 (by decide) t_a0 rfl rfl (by decide) rfl rq1 ?_
  refine c_st (st2 := [.ref rb1]) rfl ?_
  refine c_iload_n (j := 1) C dX11_lose_4 rfl ?_
  have ri1 : 0 ≤ iv rb1 1 ∧ iv rb1 1 ≤ 200 := hW.int trb1 1
  refine d_callV (As := [.int (iI i)]) (rest := []) C hM (C_sat (a0 := rb1) (i := i) hW hS trb1 (by omega) ) dX11_lose_5 kV_X11_308 rfl trb1 rfl rfl (by decide) ck_8 rfl (Nat.le_of_ble_eq_true rfl) ⟨(Nat.le_of_ble_eq_true rfl), (Nat.le_of_ble_eq_true rfl)⟩ hph hph (show 0 + 0 = 0 from rfl) (by decide) (fun rh1 Lh1 clh1 lnh1 ivh1 rvh1 h1 => ?_)
  obtain ⟨f1, rfl, rfl, rfl, rfl, rfl, rfl, rgf1, exf1⟩ := h1
  refine c_st (st2 := [(va_rf f1)]) rfl ?_
  have gf1 : f1 = none ∨ (0 ≤ i ∧ i < iv rb1 1) := exf1
  refine c_astorer_n (r := f1) (lv2 := [(2, (va_rf f1)), (0, .ref a0), (1, .int (iI i))]) C dX11_lose_8 (by decide) rfl ?_
  refine c_aloadr_n (j := 0) (r := f1) C dX11_lose_9 rfl ?_
  refine c_ifnonnull (r := f1) (tgt := 19) C dX11_lose_10 (by decide) (fun ob1 oq1 => ?_) (fun oq1 => ?_)
  · subst oq1
    have tob1 := rgf1 ob1 rfl
    refine c_lv (lv2 := [(2, .ref ob1), (0, .ref a0), (1, .int (iI i))]) [0, 1, 2] rfl ?_
    refine c_st (st2 := []) rfl ?_
    refine c_aload_n (j := 0) (x := ob1) C dX11_lose_19 rfl ?_
    refine c_iconst C dX11_lose_20 ?_
    refine c_put (z := 1) (k := 2) C ck_3 dX11_lose_21 w4_56 (by decide) rfl tob1 rfl rfl (by decide) rfl (by decide) (by decide) (fun iv1 pq1 => ?_)
    have W2 := hW.puti pq1 tob1 ⟨by decide, by decide⟩ rfl
    have F1 := hF0.puti hX0 pq1 tob1 rfl
    refine c_aload_n (j := 1) (x := a0) C dX11_lose_24 rfl ?_
    refine c_iconst C dX11_lose_25 ?_
    refine d_callV (As := [.int (iI 1)]) (rest := []) C hM (C_done (a0 := a0) (x := 1) W2 hS t_a0 ⟨by decide, by decide⟩ ) dX11_lose_26 kV_X11_109 rfl t_a0 rfl rfl (by decide) ck_12 rfl (Nat.le_of_ble_eq_true rfl) ⟨(Nat.le_of_ble_eq_true rfl), (Nat.le_of_ble_eq_true rfl)⟩ hph hph (show 0 + 0 = 0 from rfl) (by decide) (fun rh2 Lh2 clh2 lnh2 ivh2 rvh2 h2 => ?_)
    obtain ⟨f2, rfl, rfl, rfl, rfl, rfl, fl2, W3, rgf2, exf2, kp11f2, kp12f2, kp13f2, kp14f2, kp15f2, kp16f2⟩ := h2
    have ri2 : 1 ≤ iv1 a0 11 ∧ iv1 a0 11 ≤ 100 := W2.int t_a0 11
    have ie1 : iv1 a0 11 = iv a0 11 := by rw [pq1]; exact up2_k (ne_ty t_a0 tob1 (by decide))
    have ri3 : 1 ≤ iv1 a0 12 ∧ iv1 a0 12 ≤ 50 := W2.int t_a0 12
    have ie2 : iv1 a0 12 = iv a0 12 := by rw [pq1]; exact up2_k (ne_ty t_a0 tob1 (by decide))
    have ri4 : (-2147483648) ≤ iv1 a0 13 ∧ iv1 a0 13 ≤ 2147483647 := W2.int t_a0 13
    have ie3 : iv1 a0 13 = iv a0 13 := by rw [pq1]; exact up2_k (ne_ty t_a0 tob1 (by decide))
    have ri5 : (-2147483648) ≤ iv1 a0 14 ∧ iv1 a0 14 ≤ 2147483647 := W2.int t_a0 14
    have ie4 : iv1 a0 14 = iv a0 14 := by rw [pq1]; exact up2_k (ne_ty t_a0 tob1 (by decide))
    have ri6 : (-2147483648) ≤ iv1 a0 15 ∧ iv1 a0 15 ≤ 2147483647 := W2.int t_a0 15
    have ie5 : iv1 a0 15 = iv a0 15 := by rw [pq1]; exact up2_k (ne_ty t_a0 tob1 (by decide))
    have ri7 : (-2147483648) ≤ iv1 a0 16 ∧ iv1 a0 16 ≤ 2147483647 := W2.int t_a0 16
    have ie6 : iv1 a0 16 = iv a0 16 := by rw [pq1]; exact up2_k (ne_ty t_a0 tob1 (by decide))
    have F2 := F1.call hX0 fl2 rfl
    refine c_st (st2 := [.int (iI f2)]) rfl ?_
    have gk11f2 : ivh2 a0 11 = iv1 a0 11 := kp11f2
    have gk12f2 : ivh2 a0 12 = iv1 a0 12 := kp12f2
    have gk13f2 : ivh2 a0 13 = iv1 a0 13 := kp13f2
    have gk14f2 : ivh2 a0 14 = iv1 a0 14 := kp14f2
    have gk15f2 : ivh2 a0 15 = iv1 a0 15 := kp15f2
    have gk16f2 : ivh2 a0 16 = iv1 a0 16 := kp16f2
    have gf2 : f2 = (1 : Int) := exf2
    have ri8 : 1 ≤ ivh2 a0 11 ∧ ivh2 a0 11 ≤ 100 := W3.int t_a0 11
    have ri9 : 1 ≤ ivh2 a0 12 ∧ ivh2 a0 12 ≤ 50 := W3.int t_a0 12
    have ri10 : (-2147483648) ≤ ivh2 a0 13 ∧ ivh2 a0 13 ≤ 2147483647 := W3.int t_a0 13
    have ri11 : (-2147483648) ≤ ivh2 a0 14 ∧ ivh2 a0 14 ≤ 2147483647 := W3.int t_a0 14
    have ri12 : (-2147483648) ≤ ivh2 a0 15 ∧ ivh2 a0 15 ≤ 2147483647 := W3.int t_a0 15
    have ri13 : (-2147483648) ≤ ivh2 a0 16 ∧ ivh2 a0 16 ≤ 2147483647 := W3.int t_a0 16
    exact c_iret C dX11_lose_29 rfl (by decide) (rom0 hph hph (by decide)) ⟨f2, rfl, rfl, rfl, rfl, rfl, F2, W3, ⟨by omega, by omega⟩, trivial, (by omega), (by omega), (by omega), (by omega), (by omega), (by omega)⟩
  · subst oq1
    refine c_lv (lv2 := [(2, .null), (0, .ref a0), (1, .int (iI i))]) [0, 1, 2] rfl ?_
    refine c_st (st2 := []) rfl ?_
    refine c_aload_n (j := 1) (x := a0) C dX11_lose_13 rfl ?_
    refine c_iconst C dX11_lose_14 ?_
    refine d_callV (As := [.int (iI 2)]) (rest := []) C hM (C_refuse (a0 := a0) (x := 2) hW hS t_a0 ⟨by decide, by decide⟩ ) dX11_lose_15 kV_X11_102 rfl t_a0 rfl rfl (by decide) ck_12 rfl (Nat.le_of_ble_eq_true rfl) ⟨(Nat.le_of_ble_eq_true rfl), (Nat.le_of_ble_eq_true rfl)⟩ hph hph (show 0 + 0 = 0 from rfl) (by decide) (fun rh3 Lh3 clh3 lnh3 ivh3 rvh3 h3 => ?_)
    obtain ⟨f3, rfl, rfl, rfl, rfl, rfl, fl3, W4, rgf3, exf3, kp11f3, kp12f3, kp13f3, kp14f3, kp15f3, kp16f3⟩ := h3
    have ri14 : 1 ≤ iv a0 11 ∧ iv a0 11 ≤ 100 := hW.int t_a0 11
    have ri15 : 1 ≤ iv a0 12 ∧ iv a0 12 ≤ 50 := hW.int t_a0 12
    have ri16 : (-2147483648) ≤ iv a0 13 ∧ iv a0 13 ≤ 2147483647 := hW.int t_a0 13
    have ri17 : (-2147483648) ≤ iv a0 14 ∧ iv a0 14 ≤ 2147483647 := hW.int t_a0 14
    have ri18 : (-2147483648) ≤ iv a0 15 ∧ iv a0 15 ≤ 2147483647 := hW.int t_a0 15
    have ri19 : (-2147483648) ≤ iv a0 16 ∧ iv a0 16 ≤ 2147483647 := hW.int t_a0 16
    have F3 := hF0.call hX0 fl3 rfl
    refine c_st (st2 := [.int (iI f3)]) rfl ?_
    have gk11f3 : ivh3 a0 11 = iv a0 11 := kp11f3
    have gk12f3 : ivh3 a0 12 = iv a0 12 := kp12f3
    have gk13f3 : ivh3 a0 13 = iv a0 13 := kp13f3
    have gk14f3 : ivh3 a0 14 = iv a0 14 := kp14f3
    have gk15f3 : ivh3 a0 15 = iv a0 15 := kp15f3
    have gk16f3 : ivh3 a0 16 = iv a0 16 := kp16f3
    have gf3 : f3 = -1 := exf3
    have ri20 : 1 ≤ ivh3 a0 11 ∧ ivh3 a0 11 ≤ 100 := W4.int t_a0 11
    have ri21 : 1 ≤ ivh3 a0 12 ∧ ivh3 a0 12 ≤ 50 := W4.int t_a0 12
    have ri22 : (-2147483648) ≤ ivh3 a0 13 ∧ ivh3 a0 13 ≤ 2147483647 := W4.int t_a0 13
    have ri23 : (-2147483648) ≤ ivh3 a0 14 ∧ ivh3 a0 14 ≤ 2147483647 := W4.int t_a0 14
    have ri24 : (-2147483648) ≤ ivh3 a0 15 ∧ ivh3 a0 15 ≤ 2147483647 := W4.int t_a0 15
    have ri25 : (-2147483648) ≤ ivh3 a0 16 ∧ ivh3 a0 16 ≤ 2147483647 := W4.int t_a0 16
    exact c_iret C dX11_lose_18 rfl (by decide) (rom0 hph hph (by decide)) ⟨f3, rfl, rfl, rfl, rfl, rfl, F3, W4, ⟨by omega, by omega⟩, trivial, (by omega), (by omega), (by omega), (by omega), (by omega), (by omega)⟩
set_option maxHeartbeats 4000000 in
set_option maxRecDepth 100000 in
theorem C_copyRow {l : Launch} {G : GT} {mi : Nat} {sk : Nat → Nat} {L : List Nat} {cl ln : Nat → Nat} {iv : Nat → Nat → Int} {rv : Nat → Nat → Option Nat}  {a0 : Nat} {i : Int} {i2 : Int} {j : Int} {j2 : Int} {n : Int} (hW : WT (g0 G) sk L cl ln iv rv) (hS : SKL sk L cl) (t_a0 : ty L cl a0 1) (h_i : -2147483648 ≤ i ∧ i ≤ 2147483647) (h_i2 : -2147483648 ≤ i2 ∧ i2 ≤ 2147483647) (h_j : -2147483648 ≤ j ∧ j ≤ 2147483647) (h_j2 : -2147483648 ≤ j2 ∧ j2 ≤ 2147483647) (h_n : -2147483648 ≤ n ∧ n ≤ 2147483647)  : Mc l G mi (Phi (g0 G) sk) PHM yX11_copyRow cX11_copyRow 8 (some .int) 1 [.ref a0, .int (iI i), .int (iI i2), .int (iI j), .int (iI j2), .int (iI n)] L cl ln iv rv 0 (fun v L2 cl2 ln2 iv2 rv2 => ∃ f : Int, v = some (.int (iI f)) ∧ L = L2 ∧ cl = cl2 ∧ ln = ln2 ∧ rv = rv2 ∧ fT [1, 64] L cl iv rv iv2 rv2 ∧ WT (g0 G) sk L2 cl2 ln2 iv2 rv2 ∧ (-2147483648 ≤ f ∧ f ≤ 2147483647) ∧ (True) ∧ iv2 a0 11 = iv a0 11 ∧ iv2 a0 12 = iv a0 12 ∧ iv2 a0 13 = iv a0 13 ∧ iv2 a0 14 = iv a0 14 ∧ iv2 a0 15 = iv a0 15 ∧ iv2 a0 16 = iv a0 16) := by
  refine Mc.mk (by decide) (Nat.le_of_ble_eq_true rfl) ?_
  intro p e s m args below meth c A C hM
  have hph := Phi.le hW hS
  have hX0 : XT L cl ln L cl ln := XT.refl
  have hF0 : fT [1, 64] L cl iv rv iv rv := fT.refl
  refine c_aload_n (j := 0) (x := a0) C dX11_copyRow_0 rfl ?_
  obtain ⟨rb1, rq1, trb1⟩ := hW.ref t_a0 9 rfl rfl rfl
  refine c_getr (k := 9) C ck_12 dX11_copyRow_1 w2_53 (by decide) t_a0 rfl rfl (by decide) rfl rq1 ?_
  refine c_st (st2 := [.ref rb1]) rfl ?_
  refine c_iload_n (j := 1) C dX11_copyRow_4 rfl ?_
  have ri1 : 0 ≤ iv rb1 1 ∧ iv rb1 1 ≤ 200 := hW.int trb1 1
  refine d_callV (As := [.int (iI i)]) (rest := []) C hM (C_sat (a0 := rb1) (i := i) hW hS trb1 (by omega) ) dX11_copyRow_5 kV_X11_308 rfl trb1 rfl rfl (by decide) ck_8 rfl (Nat.le_of_ble_eq_true rfl) ⟨(Nat.le_of_ble_eq_true rfl), (Nat.le_of_ble_eq_true rfl)⟩ hph hph (show 0 + 0 = 0 from rfl) (by decide) (fun rh1 Lh1 clh1 lnh1 ivh1 rvh1 h1 => ?_)
  obtain ⟨f1, rfl, rfl, rfl, rfl, rfl, rfl, rgf1, exf1⟩ := h1
  refine c_st (st2 := [(va_rf f1)]) rfl ?_
  have gf1 : f1 = none ∨ (0 ≤ i ∧ i < iv rb1 1) := exf1
  refine c_astorer (r := f1) (lv2 := [(6, (va_rf f1)), (0, .ref a0), (1, .int (iI i)), (2, .int (iI i2)), (3, .int (iI j)), (4, .int (iI j2)), (5, .int (iI n))]) C dX11_copyRow_8 (by decide) rfl ?_
  refine c_aload_n (j := 1) (x := a0) C dX11_copyRow_10 rfl ?_
  refine c_getr (k := 9) C ck_12 dX11_copyRow_11 w2_53 (by decide) t_a0 rfl rfl (by decide) rfl rq1 ?_
  refine c_st (st2 := [.ref rb1]) rfl ?_
  refine c_iload_n (j := 4) C dX11_copyRow_14 rfl ?_
  refine d_callV (As := [.int (iI j)]) (rest := []) C hM (C_sat (a0 := rb1) (i := j) hW hS trb1 (by omega) ) dX11_copyRow_15 kV_X11_308 rfl trb1 rfl rfl (by decide) ck_8 rfl (Nat.le_of_ble_eq_true rfl) ⟨(Nat.le_of_ble_eq_true rfl), (Nat.le_of_ble_eq_true rfl)⟩ hph hph (show 0 + 0 = 0 from rfl) (by decide) (fun rh2 Lh2 clh2 lnh2 ivh2 rvh2 h2 => ?_)
  obtain ⟨f2, rfl, rfl, rfl, rfl, rfl, rfl, rgf2, exf2⟩ := h2
  refine c_st (st2 := [(va_rf f2)]) rfl ?_
  have gf2 : f2 = none ∨ (0 ≤ j ∧ j < iv rb1 1) := exf2
  refine c_astorer (r := f2) (lv2 := [(7, (va_rf f2)), (6, (va_rf f1)), (0, .ref a0), (1, .int (iI i)), (2, .int (iI i2)), (3, .int (iI j)), (4, .int (iI j2)), (5, .int (iI n))]) C dX11_copyRow_18 (by decide) (by cases f1 <;> rfl) ?_
  refine c_aloadr (j := 1) (r := f1) C dX11_copyRow_20 rfl ?_
  refine c_ifnull (r := f1) (tgt := 30) C dX11_copyRow_22 (by decide) (fun oq1 => ?_) (fun ob1 oq1 => ?_)
  · subst oq1
    refine c_lv (lv2 := [(7, (va_rf f2)), (6, .null), (0, .ref a0), (1, .int (iI i)), (2, .int (iI i2)), (3, .int (iI j)), (4, .int (iI j2)), (5, .int (iI n))]) [0, 1, 2, 3, 4, 5, 6, 7] rfl ?_
    refine c_st (st2 := []) rfl ?_
    refine c_aload_n (j := 2) (x := a0) C dX11_copyRow_30 rfl ?_
    refine c_iconst C dX11_copyRow_31 ?_
    refine d_callV (As := [.int (iI 2)]) (rest := []) C hM (C_refuse (a0 := a0) (x := 2) hW hS t_a0 ⟨by decide, by decide⟩ ) dX11_copyRow_32 kV_X11_102 rfl t_a0 rfl rfl (by decide) ck_12 rfl (Nat.le_of_ble_eq_true rfl) ⟨(Nat.le_of_ble_eq_true rfl), (Nat.le_of_ble_eq_true rfl)⟩ hph hph (show 0 + 0 = 0 from rfl) (by decide) (fun rh3 Lh3 clh3 lnh3 ivh3 rvh3 h3 => ?_)
    obtain ⟨f3, rfl, rfl, rfl, rfl, rfl, fl3, W3, rgf3, exf3, kp11f3, kp12f3, kp13f3, kp14f3, kp15f3, kp16f3⟩ := h3
    have ri2 : 1 ≤ iv a0 11 ∧ iv a0 11 ≤ 100 := hW.int t_a0 11
    have ri3 : 1 ≤ iv a0 12 ∧ iv a0 12 ≤ 50 := hW.int t_a0 12
    have ri4 : (-2147483648) ≤ iv a0 13 ∧ iv a0 13 ≤ 2147483647 := hW.int t_a0 13
    have ri5 : (-2147483648) ≤ iv a0 14 ∧ iv a0 14 ≤ 2147483647 := hW.int t_a0 14
    have ri6 : (-2147483648) ≤ iv a0 15 ∧ iv a0 15 ≤ 2147483647 := hW.int t_a0 15
    have ri7 : (-2147483648) ≤ iv a0 16 ∧ iv a0 16 ≤ 2147483647 := hW.int t_a0 16
    have F1 := hF0.call hX0 fl3 rfl
    refine c_st (st2 := [.int (iI f3)]) rfl ?_
    have gk11f3 : ivh3 a0 11 = iv a0 11 := kp11f3
    have gk12f3 : ivh3 a0 12 = iv a0 12 := kp12f3
    have gk13f3 : ivh3 a0 13 = iv a0 13 := kp13f3
    have gk14f3 : ivh3 a0 14 = iv a0 14 := kp14f3
    have gk15f3 : ivh3 a0 15 = iv a0 15 := kp15f3
    have gk16f3 : ivh3 a0 16 = iv a0 16 := kp16f3
    have gf3 : f3 = -1 := exf3
    have ri8 : 1 ≤ ivh3 a0 11 ∧ ivh3 a0 11 ≤ 100 := W3.int t_a0 11
    have ri9 : 1 ≤ ivh3 a0 12 ∧ ivh3 a0 12 ≤ 50 := W3.int t_a0 12
    have ri10 : (-2147483648) ≤ ivh3 a0 13 ∧ ivh3 a0 13 ≤ 2147483647 := W3.int t_a0 13
    have ri11 : (-2147483648) ≤ ivh3 a0 14 ∧ ivh3 a0 14 ≤ 2147483647 := W3.int t_a0 14
    have ri12 : (-2147483648) ≤ ivh3 a0 15 ∧ ivh3 a0 15 ≤ 2147483647 := W3.int t_a0 15
    have ri13 : (-2147483648) ≤ ivh3 a0 16 ∧ ivh3 a0 16 ≤ 2147483647 := W3.int t_a0 16
    exact c_iret C dX11_copyRow_35 rfl (by decide) (rom0 hph hph (by decide)) ⟨f3, rfl, rfl, rfl, rfl, rfl, F1, W3, ⟨by omega, by omega⟩, trivial, (by omega), (by omega), (by omega), (by omega), (by omega), (by omega)⟩
  · subst oq1
    have tob1 := rgf1 ob1 rfl
    refine c_lv (lv2 := [(7, (va_rf f2)), (6, .ref ob1), (0, .ref a0), (1, .int (iI i)), (2, .int (iI i2)), (3, .int (iI j)), (4, .int (iI j2)), (5, .int (iI n))]) [0, 1, 2, 3, 4, 5, 6, 7] rfl ?_
    refine c_st (st2 := []) rfl ?_
    refine c_aloadr (j := 0) (r := f2) C dX11_copyRow_25 rfl ?_
    refine c_ifnonnull (r := f2) (tgt := 36) C dX11_copyRow_27 (by decide) (fun ob2 oq2 => ?_) (fun oq2 => ?_)
    · subst oq2
      have tob2 := rgf2 ob2 rfl
      refine c_lv (lv2 := [(7, .ref ob2), (6, .ref ob1), (0, .ref a0), (1, .int (iI i)), (2, .int (iI i2)), (3, .int (iI j)), (4, .int (iI j2)), (5, .int (iI n))]) [0, 1, 2, 3, 4, 5, 6, 7] rfl ?_
      refine c_st (st2 := []) rfl ?_
      refine c_aload (j := 1) (x := ob1) C dX11_copyRow_36 rfl ?_
      have ri14 : 0 ≤ iv ob1 2 ∧ iv ob1 2 ≤ 1 := hW.int tob1 2
      refine c_get (k := 2) C ck_3 dX11_copyRow_38 w4_56 (by decide) tob1 rfl rfl (by decide) rfl ?_
      refine c_if_ne (tgt := 52) C ⟨by omega, by omega⟩ dX11_copyRow_41 (by decide) (fun c1 => ?_) (fun c1 => ?_)
      · refine c_aload_n (j := 2) (x := a0) C dX11_copyRow_52 rfl ?_
        refine c_iconst C dX11_copyRow_53 ?_
        refine d_callV (As := [.int (iI 1)]) (rest := []) C hM (C_refuse (a0 := a0) (x := 1) hW hS t_a0 ⟨by decide, by decide⟩ ) dX11_copyRow_54 kV_X11_102 rfl t_a0 rfl rfl (by decide) ck_12 rfl (Nat.le_of_ble_eq_true rfl) ⟨(Nat.le_of_ble_eq_true rfl), (Nat.le_of_ble_eq_true rfl)⟩ hph hph (show 0 + 0 = 0 from rfl) (by decide) (fun rh4 Lh4 clh4 lnh4 ivh4 rvh4 h4 => ?_)
        obtain ⟨f4, rfl, rfl, rfl, rfl, rfl, fl4, W4, rgf4, exf4, kp11f4, kp12f4, kp13f4, kp14f4, kp15f4, kp16f4⟩ := h4
        have ri15 : 1 ≤ iv a0 11 ∧ iv a0 11 ≤ 100 := hW.int t_a0 11
        have ri16 : 1 ≤ iv a0 12 ∧ iv a0 12 ≤ 50 := hW.int t_a0 12
        have ri17 : (-2147483648) ≤ iv a0 13 ∧ iv a0 13 ≤ 2147483647 := hW.int t_a0 13
        have ri18 : (-2147483648) ≤ iv a0 14 ∧ iv a0 14 ≤ 2147483647 := hW.int t_a0 14
        have ri19 : (-2147483648) ≤ iv a0 15 ∧ iv a0 15 ≤ 2147483647 := hW.int t_a0 15
        have ri20 : (-2147483648) ≤ iv a0 16 ∧ iv a0 16 ≤ 2147483647 := hW.int t_a0 16
        have F2 := hF0.call hX0 fl4 rfl
        refine c_st (st2 := [.int (iI f4)]) rfl ?_
        have gk11f4 : ivh4 a0 11 = iv a0 11 := kp11f4
        have gk12f4 : ivh4 a0 12 = iv a0 12 := kp12f4
        have gk13f4 : ivh4 a0 13 = iv a0 13 := kp13f4
        have gk14f4 : ivh4 a0 14 = iv a0 14 := kp14f4
        have gk15f4 : ivh4 a0 15 = iv a0 15 := kp15f4
        have gk16f4 : ivh4 a0 16 = iv a0 16 := kp16f4
        have gf4 : f4 = -1 := exf4
        have ri21 : 1 ≤ ivh4 a0 11 ∧ ivh4 a0 11 ≤ 100 := W4.int t_a0 11
        have ri22 : 1 ≤ ivh4 a0 12 ∧ ivh4 a0 12 ≤ 50 := W4.int t_a0 12
        have ri23 : (-2147483648) ≤ ivh4 a0 13 ∧ ivh4 a0 13 ≤ 2147483647 := W4.int t_a0 13
        have ri24 : (-2147483648) ≤ ivh4 a0 14 ∧ ivh4 a0 14 ≤ 2147483647 := W4.int t_a0 14
        have ri25 : (-2147483648) ≤ ivh4 a0 15 ∧ ivh4 a0 15 ≤ 2147483647 := W4.int t_a0 15
        have ri26 : (-2147483648) ≤ ivh4 a0 16 ∧ ivh4 a0 16 ≤ 2147483647 := W4.int t_a0 16
        exact c_iret C dX11_copyRow_57 rfl (by decide) (rom0 hph hph (by decide)) ⟨f4, rfl, rfl, rfl, rfl, rfl, F2, W4, ⟨by omega, by omega⟩, trivial, (by omega), (by omega), (by omega), (by omega), (by omega), (by omega)⟩
      · refine c_aload (j := 0) (x := ob2) C dX11_copyRow_44 rfl ?_
        have ri27 : 0 ≤ iv ob2 2 ∧ iv ob2 2 ≤ 1 := hW.int tob2 2
        refine c_get (k := 2) C ck_3 dX11_copyRow_46 w4_56 (by decide) tob2 rfl rfl (by decide) rfl ?_
        refine c_if_eq (tgt := 58) C ⟨by omega, by omega⟩ dX11_copyRow_49 (by decide) (fun c2 => ?_) (fun c2 => ?_)
        · refine c_aload (j := 1) (x := ob1) C dX11_copyRow_58 rfl ?_
          refine c_iload_n (j := 4) C dX11_copyRow_60 rfl ?_
          refine c_iload (j := 7) C dX11_copyRow_61 rfl ?_
          have ri28 : 0 ≤ iv ob1 1 ∧ iv ob1 1 ≤ 200 := hW.int tob1 1
          refine d_callV (As := [.int (iI i2), .int (iI n)]) (rest := []) C hM (C_hasCells (a0 := ob1) (i := i2) (n := n) hW hS tob1 (by omega) (by omega) ) dX11_copyRow_63 kV_X11_313 rfl tob1 rfl rfl (by decide) ck_3 rfl (Nat.le_of_ble_eq_true rfl) ⟨(Nat.le_of_ble_eq_true rfl), (Nat.le_of_ble_eq_true rfl)⟩ hph hph (show 0 + 0 = 0 from rfl) (by decide) (fun rh5 Lh5 clh5 lnh5 ivh5 rvh5 h5 => ?_)
          obtain ⟨f5, rfl, rfl, rfl, rfl, rfl, rfl, rgf5, exf5⟩ := h5
          refine c_st (st2 := [.int (iI f5)]) rfl ?_
          have gf5 : f5 = 0 ∨ (0 ≤ n ∧ 0 ≤ i2 ∧ i2 + n ≤ iv ob1 1) := exf5
          refine c_if_eq (tgt := 81) C ⟨by omega, by omega⟩ dX11_copyRow_66 (by decide) (fun c3 => ?_) (fun c3 => ?_)
          · refine c_aload_n (j := 2) (x := a0) C dX11_copyRow_81 rfl ?_
            refine c_iconst C dX11_copyRow_82 ?_
            refine d_callV (As := [.int (iI 2)]) (rest := []) C hM (C_refuse (a0 := a0) (x := 2) hW hS t_a0 ⟨by decide, by decide⟩ ) dX11_copyRow_83 kV_X11_102 rfl t_a0 rfl rfl (by decide) ck_12 rfl (Nat.le_of_ble_eq_true rfl) ⟨(Nat.le_of_ble_eq_true rfl), (Nat.le_of_ble_eq_true rfl)⟩ hph hph (show 0 + 0 = 0 from rfl) (by decide) (fun rh6 Lh6 clh6 lnh6 ivh6 rvh6 h6 => ?_)
            obtain ⟨f6, rfl, rfl, rfl, rfl, rfl, fl6, W6, rgf6, exf6, kp11f6, kp12f6, kp13f6, kp14f6, kp15f6, kp16f6⟩ := h6
            have ri29 : 1 ≤ iv a0 11 ∧ iv a0 11 ≤ 100 := hW.int t_a0 11
            have ri30 : 1 ≤ iv a0 12 ∧ iv a0 12 ≤ 50 := hW.int t_a0 12
            have ri31 : (-2147483648) ≤ iv a0 13 ∧ iv a0 13 ≤ 2147483647 := hW.int t_a0 13
            have ri32 : (-2147483648) ≤ iv a0 14 ∧ iv a0 14 ≤ 2147483647 := hW.int t_a0 14
            have ri33 : (-2147483648) ≤ iv a0 15 ∧ iv a0 15 ≤ 2147483647 := hW.int t_a0 15
            have ri34 : (-2147483648) ≤ iv a0 16 ∧ iv a0 16 ≤ 2147483647 := hW.int t_a0 16
            have F3 := hF0.call hX0 fl6 rfl
            refine c_st (st2 := [.int (iI f6)]) rfl ?_
            have gk11f6 : ivh6 a0 11 = iv a0 11 := kp11f6
            have gk12f6 : ivh6 a0 12 = iv a0 12 := kp12f6
            have gk13f6 : ivh6 a0 13 = iv a0 13 := kp13f6
            have gk14f6 : ivh6 a0 14 = iv a0 14 := kp14f6
            have gk15f6 : ivh6 a0 15 = iv a0 15 := kp15f6
            have gk16f6 : ivh6 a0 16 = iv a0 16 := kp16f6
            have gf6 : f6 = -1 := exf6
            have ri35 : 1 ≤ ivh6 a0 11 ∧ ivh6 a0 11 ≤ 100 := W6.int t_a0 11
            have ri36 : 1 ≤ ivh6 a0 12 ∧ ivh6 a0 12 ≤ 50 := W6.int t_a0 12
            have ri37 : (-2147483648) ≤ ivh6 a0 13 ∧ ivh6 a0 13 ≤ 2147483647 := W6.int t_a0 13
            have ri38 : (-2147483648) ≤ ivh6 a0 14 ∧ ivh6 a0 14 ≤ 2147483647 := W6.int t_a0 14
            have ri39 : (-2147483648) ≤ ivh6 a0 15 ∧ ivh6 a0 15 ≤ 2147483647 := W6.int t_a0 15
            have ri40 : (-2147483648) ≤ ivh6 a0 16 ∧ ivh6 a0 16 ≤ 2147483647 := W6.int t_a0 16
            exact c_iret C dX11_copyRow_86 rfl (by decide) (rom0 hph hph (by decide)) ⟨f6, rfl, rfl, rfl, rfl, rfl, F3, W6, ⟨by omega, by omega⟩, trivial, (by omega), (by omega), (by omega), (by omega), (by omega), (by omega)⟩
          · refine c_aload (j := 0) (x := ob2) C dX11_copyRow_69 rfl ?_
            refine c_iload (j := 6) C dX11_copyRow_71 rfl ?_
            refine c_iload (j := 7) C dX11_copyRow_73 rfl ?_
            have ri41 : 0 ≤ iv ob2 1 ∧ iv ob2 1 ≤ 200 := hW.int tob2 1
            refine d_callV (As := [.int (iI j2), .int (iI n)]) (rest := []) C hM (C_hasCells (a0 := ob2) (i := j2) (n := n) hW hS tob2 (by omega) (by omega) ) dX11_copyRow_75 kV_X11_313 rfl tob2 rfl rfl (by decide) ck_3 rfl (Nat.le_of_ble_eq_true rfl) ⟨(Nat.le_of_ble_eq_true rfl), (Nat.le_of_ble_eq_true rfl)⟩ hph hph (show 0 + 0 = 0 from rfl) (by decide) (fun rh7 Lh7 clh7 lnh7 ivh7 rvh7 h7 => ?_)
            obtain ⟨f7, rfl, rfl, rfl, rfl, rfl, rfl, rgf7, exf7⟩ := h7
            refine c_st (st2 := [.int (iI f7)]) rfl ?_
            have gf7 : f7 = 0 ∨ (0 ≤ n ∧ 0 ≤ j2 ∧ j2 + n ≤ iv ob2 1) := exf7
            refine c_if_ne (tgt := 87) C ⟨by omega, by omega⟩ dX11_copyRow_78 (by decide) (fun c4 => ?_) (fun c4 => ?_)
            · refine c_aload (j := 1) (x := ob1) C dX11_copyRow_87 rfl ?_
              obtain ⟨rb2, rq2, trb2⟩ := hW.ref tob1 0 rfl rfl rfl
              have lnrb2 : 200 ≤ ln rb2 ∧ ln rb2 ≤ 200 := hW.len trb2 rfl
              refine c_getr (k := 0) C ck_3 dX11_copyRow_89 w4_48 (by decide) tob1 rfl rfl (by decide) rfl rq2 ?_
              refine c_st (st2 := [.ref rb2]) rfl ?_
              refine c_iload_n (j := 4) C dX11_copyRow_92 rfl ?_
              refine c_aload (j := 0) (x := ob2) C dX11_copyRow_93 rfl ?_
              obtain ⟨rb3, rq3, trb3⟩ := hW.ref tob2 0 rfl rfl rfl
              have lnrb3 : 200 ≤ ln rb3 ∧ ln rb3 ≤ 200 := hW.len trb3 rfl
              refine c_getr (k := 0) C ck_3 dX11_copyRow_95 w4_48 (by decide) tob2 rfl rfl (by decide) rfl rq3 ?_
              refine c_st (st2 := [.ref rb3, .int (iI i2), .ref rb2]) rfl ?_
              refine c_iload (j := 6) C dX11_copyRow_98 rfl ?_
              refine c_iload (j := 7) C dX11_copyRow_100 rfl ?_
              have ll1 : 200 ≤ ln rb2 ∧ ln rb2 ≤ 200 := hW.len trb2 rfl
              have ll2 : 200 ≤ ln rb3 ∧ ln rb3 ≤ 200 := hW.len trb3 rfl
              refine c_copyi (sp := i2) (dp := j2) (n := n) C dX11_copyRow_102 w4_233 w2_133 w2_132 w1_15 trb2 rfl trb3 rfl (by omega) (by omega) (by omega) (by omega) (by omega) (by omega) (by omega) (by decide) (Nat.le_of_ble_eq_true rfl) (fun iv1 pq1 => ?_)
              have W8 := hW.copy pq1 trb3 trb2 (fun _ => rfl) (fun _ => rfl) (fun _ => rfl) (fun _ => rfl) rfl
              have F4 := hF0.copy hX0 pq1 trb3 rfl
              refine c_aload_n (j := 2) (x := a0) C dX11_copyRow_105 rfl ?_
              refine c_iload (j := 7) C dX11_copyRow_106 rfl ?_
              refine d_callV (As := [.int (iI n)]) (rest := []) C hM (C_done (a0 := a0) (x := n) W8 hS t_a0 (by omega) ) dX11_copyRow_108 kV_X11_109 rfl t_a0 rfl rfl (by decide) ck_12 rfl (Nat.le_of_ble_eq_true rfl) ⟨(Nat.le_of_ble_eq_true rfl), (Nat.le_of_ble_eq_true rfl)⟩ hph hph (show 0 + 0 = 0 from rfl) (by decide) (fun rh8 Lh8 clh8 lnh8 ivh8 rvh8 h8 => ?_)
              obtain ⟨f8, rfl, rfl, rfl, rfl, rfl, fl8, W9, rgf8, exf8, kp11f8, kp12f8, kp13f8, kp14f8, kp15f8, kp16f8⟩ := h8
              have ri42 : 1 ≤ iv1 a0 11 ∧ iv1 a0 11 ≤ 100 := W8.int t_a0 11
              have ie19 : iv1 a0 11 = iv a0 11 := by rw [pq1]; exact if_neg (ne_ty t_a0 trb3 (by decide))
              have ri43 : 1 ≤ iv1 a0 12 ∧ iv1 a0 12 ≤ 50 := W8.int t_a0 12
              have ie20 : iv1 a0 12 = iv a0 12 := by rw [pq1]; exact if_neg (ne_ty t_a0 trb3 (by decide))
              have ri44 : (-2147483648) ≤ iv1 a0 13 ∧ iv1 a0 13 ≤ 2147483647 := W8.int t_a0 13
              have ie21 : iv1 a0 13 = iv a0 13 := by rw [pq1]; exact if_neg (ne_ty t_a0 trb3 (by decide))
              have ri45 : (-2147483648) ≤ iv1 a0 14 ∧ iv1 a0 14 ≤ 2147483647 := W8.int t_a0 14
              have ie22 : iv1 a0 14 = iv a0 14 := by rw [pq1]; exact if_neg (ne_ty t_a0 trb3 (by decide))
              have ri46 : (-2147483648) ≤ iv1 a0 15 ∧ iv1 a0 15 ≤ 2147483647 := W8.int t_a0 15
              have ie23 : iv1 a0 15 = iv a0 15 := by rw [pq1]; exact if_neg (ne_ty t_a0 trb3 (by decide))
              have ri47 : (-2147483648) ≤ iv1 a0 16 ∧ iv1 a0 16 ≤ 2147483647 := W8.int t_a0 16
              have ie24 : iv1 a0 16 = iv a0 16 := by rw [pq1]; exact if_neg (ne_ty t_a0 trb3 (by decide))
              have F5 := F4.call hX0 fl8 rfl
              refine c_st (st2 := [.int (iI f8)]) rfl ?_
              have gk11f8 : ivh8 a0 11 = iv1 a0 11 := kp11f8
              have gk12f8 : ivh8 a0 12 = iv1 a0 12 := kp12f8
              have gk13f8 : ivh8 a0 13 = iv1 a0 13 := kp13f8
              have gk14f8 : ivh8 a0 14 = iv1 a0 14 := kp14f8
              have gk15f8 : ivh8 a0 15 = iv1 a0 15 := kp15f8
              have gk16f8 : ivh8 a0 16 = iv1 a0 16 := kp16f8
              have gf8 : f8 = n := exf8
              have ri48 : 1 ≤ ivh8 a0 11 ∧ ivh8 a0 11 ≤ 100 := W9.int t_a0 11
              have ri49 : 1 ≤ ivh8 a0 12 ∧ ivh8 a0 12 ≤ 50 := W9.int t_a0 12
              have ri50 : (-2147483648) ≤ ivh8 a0 13 ∧ ivh8 a0 13 ≤ 2147483647 := W9.int t_a0 13
              have ri51 : (-2147483648) ≤ ivh8 a0 14 ∧ ivh8 a0 14 ≤ 2147483647 := W9.int t_a0 14
              have ri52 : (-2147483648) ≤ ivh8 a0 15 ∧ ivh8 a0 15 ≤ 2147483647 := W9.int t_a0 15
              have ri53 : (-2147483648) ≤ ivh8 a0 16 ∧ ivh8 a0 16 ≤ 2147483647 := W9.int t_a0 16
              exact c_iret C dX11_copyRow_111 rfl (by decide) (rom0 hph hph (by decide)) ⟨f8, rfl, rfl, rfl, rfl, rfl, F5, W9, ⟨by omega, by omega⟩, trivial, (by omega), (by omega), (by omega), (by omega), (by omega), (by omega)⟩
            · refine c_aload_n (j := 2) (x := a0) C dX11_copyRow_81 rfl ?_
              refine c_iconst C dX11_copyRow_82 ?_
              refine d_callV (As := [.int (iI 2)]) (rest := []) C hM (C_refuse (a0 := a0) (x := 2) hW hS t_a0 ⟨by decide, by decide⟩ ) dX11_copyRow_83 kV_X11_102 rfl t_a0 rfl rfl (by decide) ck_12 rfl (Nat.le_of_ble_eq_true rfl) ⟨(Nat.le_of_ble_eq_true rfl), (Nat.le_of_ble_eq_true rfl)⟩ hph hph (show 0 + 0 = 0 from rfl) (by decide) (fun rh9 Lh9 clh9 lnh9 ivh9 rvh9 h9 => ?_)
              obtain ⟨f9, rfl, rfl, rfl, rfl, rfl, fl9, W10, rgf9, exf9, kp11f9, kp12f9, kp13f9, kp14f9, kp15f9, kp16f9⟩ := h9
              have ri54 : 1 ≤ iv a0 11 ∧ iv a0 11 ≤ 100 := hW.int t_a0 11
              have ri55 : 1 ≤ iv a0 12 ∧ iv a0 12 ≤ 50 := hW.int t_a0 12
              have ri56 : (-2147483648) ≤ iv a0 13 ∧ iv a0 13 ≤ 2147483647 := hW.int t_a0 13
              have ri57 : (-2147483648) ≤ iv a0 14 ∧ iv a0 14 ≤ 2147483647 := hW.int t_a0 14
              have ri58 : (-2147483648) ≤ iv a0 15 ∧ iv a0 15 ≤ 2147483647 := hW.int t_a0 15
              have ri59 : (-2147483648) ≤ iv a0 16 ∧ iv a0 16 ≤ 2147483647 := hW.int t_a0 16
              have F6 := hF0.call hX0 fl9 rfl
              refine c_st (st2 := [.int (iI f9)]) rfl ?_
              have gk11f9 : ivh9 a0 11 = iv a0 11 := kp11f9
              have gk12f9 : ivh9 a0 12 = iv a0 12 := kp12f9
              have gk13f9 : ivh9 a0 13 = iv a0 13 := kp13f9
              have gk14f9 : ivh9 a0 14 = iv a0 14 := kp14f9
              have gk15f9 : ivh9 a0 15 = iv a0 15 := kp15f9
              have gk16f9 : ivh9 a0 16 = iv a0 16 := kp16f9
              have gf9 : f9 = -1 := exf9
              have ri60 : 1 ≤ ivh9 a0 11 ∧ ivh9 a0 11 ≤ 100 := W10.int t_a0 11
              have ri61 : 1 ≤ ivh9 a0 12 ∧ ivh9 a0 12 ≤ 50 := W10.int t_a0 12
              have ri62 : (-2147483648) ≤ ivh9 a0 13 ∧ ivh9 a0 13 ≤ 2147483647 := W10.int t_a0 13
              have ri63 : (-2147483648) ≤ ivh9 a0 14 ∧ ivh9 a0 14 ≤ 2147483647 := W10.int t_a0 14
              have ri64 : (-2147483648) ≤ ivh9 a0 15 ∧ ivh9 a0 15 ≤ 2147483647 := W10.int t_a0 15
              have ri65 : (-2147483648) ≤ ivh9 a0 16 ∧ ivh9 a0 16 ≤ 2147483647 := W10.int t_a0 16
              exact c_iret C dX11_copyRow_86 rfl (by decide) (rom0 hph hph (by decide)) ⟨f9, rfl, rfl, rfl, rfl, rfl, F6, W10, ⟨by omega, by omega⟩, trivial, (by omega), (by omega), (by omega), (by omega), (by omega), (by omega)⟩
        · refine c_aload_n (j := 2) (x := a0) C dX11_copyRow_52 rfl ?_
          refine c_iconst C dX11_copyRow_53 ?_
          refine d_callV (As := [.int (iI 1)]) (rest := []) C hM (C_refuse (a0 := a0) (x := 1) hW hS t_a0 ⟨by decide, by decide⟩ ) dX11_copyRow_54 kV_X11_102 rfl t_a0 rfl rfl (by decide) ck_12 rfl (Nat.le_of_ble_eq_true rfl) ⟨(Nat.le_of_ble_eq_true rfl), (Nat.le_of_ble_eq_true rfl)⟩ hph hph (show 0 + 0 = 0 from rfl) (by decide) (fun rh10 Lh10 clh10 lnh10 ivh10 rvh10 h10 => ?_)
          obtain ⟨f10, rfl, rfl, rfl, rfl, rfl, fl10, W11, rgf10, exf10, kp11f10, kp12f10, kp13f10, kp14f10, kp15f10, kp16f10⟩ := h10
          have ri66 : 1 ≤ iv a0 11 ∧ iv a0 11 ≤ 100 := hW.int t_a0 11
          have ri67 : 1 ≤ iv a0 12 ∧ iv a0 12 ≤ 50 := hW.int t_a0 12
          have ri68 : (-2147483648) ≤ iv a0 13 ∧ iv a0 13 ≤ 2147483647 := hW.int t_a0 13
          have ri69 : (-2147483648) ≤ iv a0 14 ∧ iv a0 14 ≤ 2147483647 := hW.int t_a0 14
          have ri70 : (-2147483648) ≤ iv a0 15 ∧ iv a0 15 ≤ 2147483647 := hW.int t_a0 15
          have ri71 : (-2147483648) ≤ iv a0 16 ∧ iv a0 16 ≤ 2147483647 := hW.int t_a0 16
          have F7 := hF0.call hX0 fl10 rfl
          refine c_st (st2 := [.int (iI f10)]) rfl ?_
          have gk11f10 : ivh10 a0 11 = iv a0 11 := kp11f10
          have gk12f10 : ivh10 a0 12 = iv a0 12 := kp12f10
          have gk13f10 : ivh10 a0 13 = iv a0 13 := kp13f10
          have gk14f10 : ivh10 a0 14 = iv a0 14 := kp14f10
          have gk15f10 : ivh10 a0 15 = iv a0 15 := kp15f10
          have gk16f10 : ivh10 a0 16 = iv a0 16 := kp16f10
          have gf10 : f10 = -1 := exf10
          have ri72 : 1 ≤ ivh10 a0 11 ∧ ivh10 a0 11 ≤ 100 := W11.int t_a0 11
          have ri73 : 1 ≤ ivh10 a0 12 ∧ ivh10 a0 12 ≤ 50 := W11.int t_a0 12
          have ri74 : (-2147483648) ≤ ivh10 a0 13 ∧ ivh10 a0 13 ≤ 2147483647 := W11.int t_a0 13
          have ri75 : (-2147483648) ≤ ivh10 a0 14 ∧ ivh10 a0 14 ≤ 2147483647 := W11.int t_a0 14
          have ri76 : (-2147483648) ≤ ivh10 a0 15 ∧ ivh10 a0 15 ≤ 2147483647 := W11.int t_a0 15
          have ri77 : (-2147483648) ≤ ivh10 a0 16 ∧ ivh10 a0 16 ≤ 2147483647 := W11.int t_a0 16
          exact c_iret C dX11_copyRow_57 rfl (by decide) (rom0 hph hph (by decide)) ⟨f10, rfl, rfl, rfl, rfl, rfl, F7, W11, ⟨by omega, by omega⟩, trivial, (by omega), (by omega), (by omega), (by omega), (by omega), (by omega)⟩
    · subst oq2
      refine c_lv (lv2 := [(7, .null), (6, .ref ob1), (0, .ref a0), (1, .int (iI i)), (2, .int (iI i2)), (3, .int (iI j)), (4, .int (iI j2)), (5, .int (iI n))]) [0, 1, 2, 3, 4, 5, 6, 7] rfl ?_
      refine c_st (st2 := []) rfl ?_
      refine c_aload_n (j := 2) (x := a0) C dX11_copyRow_30 rfl ?_
      refine c_iconst C dX11_copyRow_31 ?_
      refine d_callV (As := [.int (iI 2)]) (rest := []) C hM (C_refuse (a0 := a0) (x := 2) hW hS t_a0 ⟨by decide, by decide⟩ ) dX11_copyRow_32 kV_X11_102 rfl t_a0 rfl rfl (by decide) ck_12 rfl (Nat.le_of_ble_eq_true rfl) ⟨(Nat.le_of_ble_eq_true rfl), (Nat.le_of_ble_eq_true rfl)⟩ hph hph (show 0 + 0 = 0 from rfl) (by decide) (fun rh11 Lh11 clh11 lnh11 ivh11 rvh11 h11 => ?_)
      obtain ⟨f11, rfl, rfl, rfl, rfl, rfl, fl11, W12, rgf11, exf11, kp11f11, kp12f11, kp13f11, kp14f11, kp15f11, kp16f11⟩ := h11
      have ri78 : 1 ≤ iv a0 11 ∧ iv a0 11 ≤ 100 := hW.int t_a0 11
      have ri79 : 1 ≤ iv a0 12 ∧ iv a0 12 ≤ 50 := hW.int t_a0 12
      have ri80 : (-2147483648) ≤ iv a0 13 ∧ iv a0 13 ≤ 2147483647 := hW.int t_a0 13
      have ri81 : (-2147483648) ≤ iv a0 14 ∧ iv a0 14 ≤ 2147483647 := hW.int t_a0 14
      have ri82 : (-2147483648) ≤ iv a0 15 ∧ iv a0 15 ≤ 2147483647 := hW.int t_a0 15
      have ri83 : (-2147483648) ≤ iv a0 16 ∧ iv a0 16 ≤ 2147483647 := hW.int t_a0 16
      have F8 := hF0.call hX0 fl11 rfl
      refine c_st (st2 := [.int (iI f11)]) rfl ?_
      have gk11f11 : ivh11 a0 11 = iv a0 11 := kp11f11
      have gk12f11 : ivh11 a0 12 = iv a0 12 := kp12f11
      have gk13f11 : ivh11 a0 13 = iv a0 13 := kp13f11
      have gk14f11 : ivh11 a0 14 = iv a0 14 := kp14f11
      have gk15f11 : ivh11 a0 15 = iv a0 15 := kp15f11
      have gk16f11 : ivh11 a0 16 = iv a0 16 := kp16f11
      have gf11 : f11 = -1 := exf11
      have ri84 : 1 ≤ ivh11 a0 11 ∧ ivh11 a0 11 ≤ 100 := W12.int t_a0 11
      have ri85 : 1 ≤ ivh11 a0 12 ∧ ivh11 a0 12 ≤ 50 := W12.int t_a0 12
      have ri86 : (-2147483648) ≤ ivh11 a0 13 ∧ ivh11 a0 13 ≤ 2147483647 := W12.int t_a0 13
      have ri87 : (-2147483648) ≤ ivh11 a0 14 ∧ ivh11 a0 14 ≤ 2147483647 := W12.int t_a0 14
      have ri88 : (-2147483648) ≤ ivh11 a0 15 ∧ ivh11 a0 15 ≤ 2147483647 := W12.int t_a0 15
      have ri89 : (-2147483648) ≤ ivh11 a0 16 ∧ ivh11 a0 16 ≤ 2147483647 := W12.int t_a0 16
      exact c_iret C dX11_copyRow_35 rfl (by decide) (rom0 hph hph (by decide)) ⟨f11, rfl, rfl, rfl, rfl, rfl, F8, W12, ⟨by omega, by omega⟩, trivial, (by omega), (by omega), (by omega), (by omega), (by omega), (by omega)⟩
set_option maxHeartbeats 4000000 in
set_option maxRecDepth 100000 in
theorem C_copyLines {l : Launch} {G : GT} {mi : Nat} {sk : Nat → Nat} {L : List Nat} {cl ln : Nat → Nat} {iv : Nat → Nat → Int} {rv : Nat → Nat → Option Nat}  {a0 : Nat} {i : Int} {j : Int} {n : Int} (hW : WT (g0 G) sk L cl ln iv rv) (hS : SKL sk L cl) (t_a0 : ty L cl a0 1) (h_i : -2147483648 ≤ i ∧ i ≤ 2147483647) (h_j : -2147483648 ≤ j ∧ j ≤ 2147483647) (h_n : -2147483648 ≤ n ∧ n ≤ 2147483647)  : Mc l G mi (Phi (g0 G) sk) PHM yX11_copyLines cX11_copyLines 7 (some .int) 2 [.ref a0, .int (iI i), .int (iI j), .int (iI n)] L cl ln iv rv 0 (fun v L2 cl2 ln2 iv2 rv2 => ∃ f : Int, v = some (.int (iI f)) ∧ L = L2 ∧ cl = cl2 ∧ ln = ln2 ∧ rv = rv2 ∧ fT [1, 19, 64] L cl iv rv iv2 rv2 ∧ WT (g0 G) sk L2 cl2 ln2 iv2 rv2 ∧ (-2147483648 ≤ f ∧ f ≤ 2147483647) ∧ (True) ∧ iv2 a0 11 = iv a0 11 ∧ iv2 a0 12 = iv a0 12 ∧ iv2 a0 13 = iv a0 13 ∧ iv2 a0 14 = iv a0 14 ∧ iv2 a0 16 = iv a0 16) := by
  refine Mc.mk (by decide) (Nat.le_of_ble_eq_true rfl) ?_
  intro p e s m args below meth c A C hM
  have hph := Phi.le hW hS
  have hX0 : XT L cl ln L cl ln := XT.refl
  have hF0 : fT [1, 19, 64] L cl iv rv iv rv := fT.refl
  refine c_iload_n (j := 3) C dX11_copyLines_0 rfl ?_
  refine c_bipush (z := 10) C dX11_copyLines_1 (by decide) ?_
  refine c_icmp_le (tgt := 13) C ⟨by omega, by omega⟩ ⟨by decide, by decide⟩ dX11_copyLines_3 (by decide) (fun c1 => ?_) (fun c1 => ?_)
  · refine c_iload_n (j := 3) C dX11_copyLines_13 rfl ?_
    refine c_if_ge (tgt := 23) C ⟨by omega, by omega⟩ dX11_copyLines_14 (by decide) (fun c2 => ?_) (fun c2 => ?_)
    · refine c_aload_n (j := 0) (x := a0) C dX11_copyLines_23 rfl ?_
      refine c_iconst C dX11_copyLines_24 ?_
      refine c_put (z := 0) (k := 15) C ck_12 dX11_copyLines_25 w2_59 (by decide) rfl t_a0 rfl rfl (by decide) rfl (by rfl) (by rfl) (fun iv1 pq1 => ?_)
      have W1 := hW.puti pq1 t_a0 ⟨by decide, by decide⟩ rfl
      have F1 := hF0.puti hX0 pq1 t_a0 rfl
      refine c_iconst C dX11_copyLines_28 ?_
      refine c_istore (lv2 := [(4, .int (iI 0)), (0, .ref a0), (1, .int (iI i)), (2, .int (iI j)), (3, .int (iI n))]) C dX11_copyLines_29 (by decide) rfl ?_
      have Lp1 : ∀ (nn : Nat) (k : Int) (ivb1 : Nat → Nat → Int) , 201 - k < (nn : Int) → WT (g0 G) sk L cl ln ivb1 rv → fT [1, 19, 64] L cl iv rv ivb1 rv → (0 ≤ k ∧ k ≤ 200) → (ivb1 a0 11 = iv a0 11) → (ivb1 a0 12 = iv a0 12) → (ivb1 a0 13 = iv a0 13) → (ivb1 a0 14 = iv a0 14) → (ivb1 a0 16 = iv a0 16) → cw p l e 2 ((PHM) + 0 - ((Phi (g0 G) sk) ln rv)) s m args below meth c G A 7 (MQ below (Qu G A (Qp G (Phi (g0 G) sk) ((Phi (g0 G) sk) ln rv) 0 (fun v L2 cl2 ln2 iv2 rv2 => ∃ f : Int, v = some (.int (iI f)) ∧ L = L2 ∧ cl = cl2 ∧ ln = ln2 ∧ rv = rv2 ∧ fT [1, 19, 64] L cl iv rv iv2 rv2 ∧ WT (g0 G) sk L2 cl2 ln2 iv2 rv2 ∧ (-2147483648 ≤ f ∧ f ≤ 2147483647) ∧ (True) ∧ iv2 a0 11 = iv a0 11 ∧ iv2 a0 12 = iv a0 12 ∧ iv2 a0 13 = iv a0 13 ∧ iv2 a0 14 = iv a0 14 ∧ iv2 a0 16 = iv a0 16))) args s (((PHM) + 0 - ((Phi (g0 G) sk) ln rv)) / 16) ((PHM) + 0 - ((Phi (g0 G) sk) ln rv)) A) (Phi (g0 G) sk) ((Phi (g0 G) sk) ln rv) L cl ln ivb1 rv 0 31 [(4, .int (iI k)), (0, .ref a0), (1, .int (iI i)), (2, .int (iI j)), (3, .int (iI n))] [] := by
        intro nn
        induction nn with
        | zero =>
          intro  k ivb1 hm Wb1 Fb1  hk hkp11 hkp12 hkp13 hkp14 hkp16
          exact absurd hm (by omega)
        | succ nn ih1 =>
          intro  k ivb1 hm Wb1 Fb1  hk hkp11 hkp12 hkp13 hkp14 hkp16
          refine c_iload (j := 0) C dX11_copyLines_31 rfl ?_
          refine c_iload_n (j := 4) C dX11_copyLines_33 rfl ?_
          refine c_icmp_ge (tgt := 116) C ⟨by omega, by omega⟩ ⟨by omega, by omega⟩ dX11_copyLines_34 (by decide) (fun c3 => ?_) (fun c3 => ?_)
          · refine c_aload_n (j := 1) (x := a0) C dX11_copyLines_116 rfl ?_
            refine c_iload_n (j := 4) C dX11_copyLines_117 rfl ?_
            refine d_callV (As := [.int (iI n)]) (rest := []) C hM (C_done (a0 := a0) (x := n) Wb1 hS t_a0 (by omega) ) dX11_copyLines_118 kV_X11_109 rfl t_a0 rfl rfl (by decide) ck_12 rfl (Nat.le_of_ble_eq_true rfl) ⟨(Nat.le_of_ble_eq_true rfl), (Nat.le_of_ble_eq_true rfl)⟩ hph hph (show 0 + 0 = 0 from rfl) (by decide) (fun rh1 Lh1 clh1 lnh1 ivh1 rvh1 h1 => ?_)
            obtain ⟨f1, rfl, rfl, rfl, rfl, rfl, fl1, W2, rgf1, exf1, kp11f1, kp12f1, kp13f1, kp14f1, kp15f1, kp16f1⟩ := h1
            have ri1 : 1 ≤ ivb1 a0 11 ∧ ivb1 a0 11 ≤ 100 := Wb1.int t_a0 11
            have ri2 : 1 ≤ ivb1 a0 12 ∧ ivb1 a0 12 ≤ 50 := Wb1.int t_a0 12
            have ri3 : (-2147483648) ≤ ivb1 a0 13 ∧ ivb1 a0 13 ≤ 2147483647 := Wb1.int t_a0 13
            have ri4 : (-2147483648) ≤ ivb1 a0 14 ∧ ivb1 a0 14 ≤ 2147483647 := Wb1.int t_a0 14
            have ri5 : (-2147483648) ≤ ivb1 a0 15 ∧ ivb1 a0 15 ≤ 2147483647 := Wb1.int t_a0 15
            have ri6 : (-2147483648) ≤ ivb1 a0 16 ∧ ivb1 a0 16 ≤ 2147483647 := Wb1.int t_a0 16
            have F2 := Fb1.call hX0 fl1 rfl
            refine c_st (st2 := [.int (iI f1)]) rfl ?_
            have gk11f1 : ivh1 a0 11 = ivb1 a0 11 := kp11f1
            have gk12f1 : ivh1 a0 12 = ivb1 a0 12 := kp12f1
            have gk13f1 : ivh1 a0 13 = ivb1 a0 13 := kp13f1
            have gk14f1 : ivh1 a0 14 = ivb1 a0 14 := kp14f1
            have gk15f1 : ivh1 a0 15 = ivb1 a0 15 := kp15f1
            have gk16f1 : ivh1 a0 16 = ivb1 a0 16 := kp16f1
            have gf1 : f1 = n := exf1
            have ri7 : 1 ≤ ivh1 a0 11 ∧ ivh1 a0 11 ≤ 100 := W2.int t_a0 11
            have ri8 : 1 ≤ ivh1 a0 12 ∧ ivh1 a0 12 ≤ 50 := W2.int t_a0 12
            have ri9 : (-2147483648) ≤ ivh1 a0 13 ∧ ivh1 a0 13 ≤ 2147483647 := W2.int t_a0 13
            have ri10 : (-2147483648) ≤ ivh1 a0 14 ∧ ivh1 a0 14 ≤ 2147483647 := W2.int t_a0 14
            have ri11 : (-2147483648) ≤ ivh1 a0 16 ∧ ivh1 a0 16 ≤ 2147483647 := W2.int t_a0 16
            exact c_iret C dX11_copyLines_121 rfl (by decide) (rom0 hph hph (by decide)) ⟨f1, rfl, rfl, rfl, rfl, rfl, F2, W2, ⟨by omega, by omega⟩, trivial, (by omega), (by omega), (by omega), (by omega), (by omega)⟩
          · refine c_aload_n (j := 1) (x := a0) C dX11_copyLines_37 rfl ?_
            obtain ⟨rb1, rq1, trb1⟩ := Wb1.ref t_a0 9 rfl rfl rfl
            refine c_getr (k := 9) C ck_12 dX11_copyLines_38 w2_53 (by decide) t_a0 rfl rfl (by decide) rfl rq1 ?_
            refine c_st (st2 := [.ref rb1]) rfl ?_
            refine c_iload_n (j := 2) C dX11_copyLines_41 rfl ?_
            refine c_iload (j := 0) C dX11_copyLines_42 rfl ?_
            refine c_iadd C dX11_copyLines_44 ?_
            obtain ⟨zz1, hzz1, ezz1⟩ := iI_of (iI (i + k))
            refine c_st (st2 := [.int (iI zz1), .ref rb1]) (by rw [ezz1]) ?_
            have ri12 : 0 ≤ ivb1 rb1 1 ∧ ivb1 rb1 1 ≤ 200 := Wb1.int trb1 1
            have ie12 : ivb1 rb1 1 = iv rb1 1 := Fb1.i trb1 rfl 1
            refine d_callV (As := [.int (iI zz1)]) (rest := []) C hM (C_sat (a0 := rb1) (i := zz1) Wb1 hS trb1 (by omega) ) dX11_copyLines_45 kV_X11_308 rfl trb1 rfl rfl (by decide) ck_8 rfl (Nat.le_of_ble_eq_true rfl) ⟨(Nat.le_of_ble_eq_true rfl), (Nat.le_of_ble_eq_true rfl)⟩ hph hph (show 0 + 0 = 0 from rfl) (by decide) (fun rh2 Lh2 clh2 lnh2 ivh2 rvh2 h2 => ?_)
            obtain ⟨f2, rfl, rfl, rfl, rfl, rfl, rfl, rgf2, exf2⟩ := h2
            refine c_st (st2 := [(va_rf f2)]) rfl ?_
            have gf2 : f2 = none ∨ (0 ≤ zz1 ∧ zz1 < ivb1 rb1 1) := exf2
            refine c_astorer (r := f2) (lv2 := [(5, (va_rf f2)), (4, .int (iI k)), (0, .ref a0), (1, .int (iI i)), (2, .int (iI j)), (3, .int (iI n))]) C dX11_copyLines_48 (by decide) rfl ?_
            refine c_aload_n (j := 2) (x := a0) C dX11_copyLines_50 rfl ?_
            refine c_getr (k := 9) C ck_12 dX11_copyLines_51 w2_53 (by decide) t_a0 rfl rfl (by decide) rfl rq1 ?_
            refine c_st (st2 := [.ref rb1]) rfl ?_
            refine c_iload_n (j := 4) C dX11_copyLines_54 rfl ?_
            refine c_iload (j := 1) C dX11_copyLines_55 rfl ?_
            refine c_iadd C dX11_copyLines_57 ?_
            obtain ⟨zz2, hzz2, ezz2⟩ := iI_of (iI (j + k))
            refine c_st (st2 := [.int (iI zz2), .ref rb1]) (by rw [ezz2]) ?_
            refine d_callV (As := [.int (iI zz2)]) (rest := []) C hM (C_sat (a0 := rb1) (i := zz2) Wb1 hS trb1 (by omega) ) dX11_copyLines_58 kV_X11_308 rfl trb1 rfl rfl (by decide) ck_8 rfl (Nat.le_of_ble_eq_true rfl) ⟨(Nat.le_of_ble_eq_true rfl), (Nat.le_of_ble_eq_true rfl)⟩ hph hph (show 0 + 0 = 0 from rfl) (by decide) (fun rh3 Lh3 clh3 lnh3 ivh3 rvh3 h3 => ?_)
            obtain ⟨f3, rfl, rfl, rfl, rfl, rfl, rfl, rgf3, exf3⟩ := h3
            refine c_st (st2 := [(va_rf f3)]) rfl ?_
            have gf3 : f3 = none ∨ (0 ≤ zz2 ∧ zz2 < ivb1 rb1 1) := exf3
            refine c_astorer (r := f3) (lv2 := [(6, (va_rf f3)), (5, (va_rf f2)), (4, .int (iI k)), (0, .ref a0), (1, .int (iI i)), (2, .int (iI j)), (3, .int (iI n))]) C dX11_copyLines_61 (by decide) (by cases f2 <;> rfl) ?_
            refine c_aloadr (j := 1) (r := f2) C dX11_copyLines_63 rfl ?_
            refine c_ifnull (r := f2) (tgt := 73) C dX11_copyLines_65 (by decide) (fun oq1 => ?_) (fun ob1 oq1 => ?_)
            · subst oq1
              refine c_lv (lv2 := [(6, (va_rf f3)), (5, .null), (4, .int (iI k)), (0, .ref a0), (1, .int (iI i)), (2, .int (iI j)), (3, .int (iI n))]) [0, 1, 2, 3, 4, 5, 6] rfl ?_
              refine c_st (st2 := []) rfl ?_
              refine c_aload_n (j := 3) (x := a0) C dX11_copyLines_73 rfl ?_
              refine c_iconst C dX11_copyLines_74 ?_
              refine d_callV (As := [.int (iI 2)]) (rest := []) C hM (C_refuse (a0 := a0) (x := 2) Wb1 hS t_a0 ⟨by decide, by decide⟩ ) dX11_copyLines_75 kV_X11_102 rfl t_a0 rfl rfl (by decide) ck_12 rfl (Nat.le_of_ble_eq_true rfl) ⟨(Nat.le_of_ble_eq_true rfl), (Nat.le_of_ble_eq_true rfl)⟩ hph hph (show 0 + 0 = 0 from rfl) (by decide) (fun rh4 Lh4 clh4 lnh4 ivh4 rvh4 h4 => ?_)
              obtain ⟨f4, rfl, rfl, rfl, rfl, rfl, fl4, W5, rgf4, exf4, kp11f4, kp12f4, kp13f4, kp14f4, kp15f4, kp16f4⟩ := h4
              have ri13 : 1 ≤ ivb1 a0 11 ∧ ivb1 a0 11 ≤ 100 := Wb1.int t_a0 11
              have ri14 : 1 ≤ ivb1 a0 12 ∧ ivb1 a0 12 ≤ 50 := Wb1.int t_a0 12
              have ri15 : (-2147483648) ≤ ivb1 a0 13 ∧ ivb1 a0 13 ≤ 2147483647 := Wb1.int t_a0 13
              have ri16 : (-2147483648) ≤ ivb1 a0 14 ∧ ivb1 a0 14 ≤ 2147483647 := Wb1.int t_a0 14
              have ri17 : (-2147483648) ≤ ivb1 a0 15 ∧ ivb1 a0 15 ≤ 2147483647 := Wb1.int t_a0 15
              have ri18 : (-2147483648) ≤ ivb1 a0 16 ∧ ivb1 a0 16 ≤ 2147483647 := Wb1.int t_a0 16
              have F3 := Fb1.call hX0 fl4 rfl
              refine c_st (st2 := [.int (iI f4)]) rfl ?_
              have gk11f4 : ivh4 a0 11 = ivb1 a0 11 := kp11f4
              have gk12f4 : ivh4 a0 12 = ivb1 a0 12 := kp12f4
              have gk13f4 : ivh4 a0 13 = ivb1 a0 13 := kp13f4
              have gk14f4 : ivh4 a0 14 = ivb1 a0 14 := kp14f4
              have gk15f4 : ivh4 a0 15 = ivb1 a0 15 := kp15f4
              have gk16f4 : ivh4 a0 16 = ivb1 a0 16 := kp16f4
              have gf4 : f4 = -1 := exf4
              have ri19 : 1 ≤ ivh4 a0 11 ∧ ivh4 a0 11 ≤ 100 := W5.int t_a0 11
              have ri20 : 1 ≤ ivh4 a0 12 ∧ ivh4 a0 12 ≤ 50 := W5.int t_a0 12
              have ri21 : (-2147483648) ≤ ivh4 a0 13 ∧ ivh4 a0 13 ≤ 2147483647 := W5.int t_a0 13
              have ri22 : (-2147483648) ≤ ivh4 a0 14 ∧ ivh4 a0 14 ≤ 2147483647 := W5.int t_a0 14
              have ri23 : (-2147483648) ≤ ivh4 a0 16 ∧ ivh4 a0 16 ≤ 2147483647 := W5.int t_a0 16
              exact c_iret C dX11_copyLines_78 rfl (by decide) (rom0 hph hph (by decide)) ⟨f4, rfl, rfl, rfl, rfl, rfl, F3, W5, ⟨by omega, by omega⟩, trivial, (by omega), (by omega), (by omega), (by omega), (by omega)⟩
            · subst oq1
              have tob1 := rgf2 ob1 rfl
              refine c_lv (lv2 := [(6, (va_rf f3)), (5, .ref ob1), (4, .int (iI k)), (0, .ref a0), (1, .int (iI i)), (2, .int (iI j)), (3, .int (iI n))]) [0, 1, 2, 3, 4, 5, 6] rfl ?_
              refine c_st (st2 := []) rfl ?_
              refine c_aloadr (j := 0) (r := f3) C dX11_copyLines_68 rfl ?_
              refine c_ifnonnull (r := f3) (tgt := 79) C dX11_copyLines_70 (by decide) (fun ob2 oq2 => ?_) (fun oq2 => ?_)
              · subst oq2
                have tob2 := rgf3 ob2 rfl
                refine c_lv (lv2 := [(6, .ref ob2), (5, .ref ob1), (4, .int (iI k)), (0, .ref a0), (1, .int (iI i)), (2, .int (iI j)), (3, .int (iI n))]) [0, 1, 2, 3, 4, 5, 6] rfl ?_
                refine c_st (st2 := []) rfl ?_
                refine c_aload (j := 1) (x := ob1) C dX11_copyLines_79 rfl ?_
                have ri24 : 0 ≤ ivb1 ob1 2 ∧ ivb1 ob1 2 ≤ 1 := Wb1.int tob1 2
                refine c_get (k := 2) C ck_3 dX11_copyLines_81 w4_56 (by decide) tob1 rfl rfl (by decide) rfl ?_
                refine c_if_eq (tgt := 93) C ⟨by omega, by omega⟩ dX11_copyLines_84 (by decide) (fun c4 => ?_) (fun c4 => ?_)
                · refine c_aload (j := 0) (x := ob2) C dX11_copyLines_93 rfl ?_
                  refine c_aload (j := 1) (x := ob1) C dX11_copyLines_95 rfl ?_
                  refine d_callV (As := [.ref ob1]) (rest := []) C hM (C_become (a0 := ob2) (a1 := ob1) Wb1 hS tob2 tob1  ) dX11_copyLines_97 kV_X11_322 rfl tob2 rfl rfl (by decide) ck_3 rfl (Nat.le_of_ble_eq_true rfl) ⟨(Nat.le_of_ble_eq_true rfl), (Nat.le_of_ble_eq_true rfl)⟩ hph hph (show 0 + 0 = 0 from rfl) (by decide) (fun rh5 Lh5 clh5 lnh5 ivh5 rvh5 h5 => ?_)
                  obtain ⟨rfl, rfl, rfl, rfl, rfl, fl5, W6, exf5⟩ := h5
                  have F4 := Fb1.call hX0 fl5 rfl
                  refine c_st (st2 := []) rfl ?_
                  refine c_aload_n (j := 3) (x := a0) C dX11_copyLines_100 rfl ?_
                  refine c_dup C dX11_copyLines_101 rfl ?_
                  have ri25 : (-2147483648) ≤ ivh5 a0 15 ∧ ivh5 a0 15 ≤ 2147483647 := W6.int t_a0 15
                  have ie25 : ivh5 a0 15 = ivb1 a0 15 := fl5.i t_a0 rfl 15
                  refine c_get (k := 15) C ck_12 dX11_copyLines_102 w2_59 (by decide) t_a0 rfl rfl (by decide) rfl ?_
                  refine c_iconst C dX11_copyLines_105 ?_
                  refine c_iadd C dX11_copyLines_106 ?_
                  obtain ⟨zz3, hzz3, ezz3⟩ := iI_of (iI ((ivh5 a0 15) + 1))
                  refine c_st (st2 := [.int (iI zz3), .ref a0]) (by rw [ezz3]) ?_
                  refine c_put (z := zz3) (k := 15) C ck_12 dX11_copyLines_107 w2_59 (by decide) rfl t_a0 rfl rfl (by decide) rfl (by rfl) (by rfl) (fun iv2 pq2 => ?_)
                  have W7 := W6.puti pq2 t_a0 (show (-2147483648) ≤ zz3 ∧ zz3 ≤ 2147483647 by omega) rfl
                  have F5 := F4.puti hX0 pq2 t_a0 rfl
                  refine c_iinc (z := k) (j := 2) (lv2 := [(4, .int (iI (k + 1))), (6, .ref ob2), (5, .ref ob1), (0, .ref a0), (1, .int (iI i)), (2, .int (iI j)), (3, .int (iI n))]) C dX11_copyLines_110 rfl (by decide) rfl ?_
                  refine c_goto (tgt := 31) C dX11_copyLines_113 (by decide) ?_
                  have ri26 : 1 ≤ iv2 a0 11 ∧ iv2 a0 11 ≤ 100 := W7.int t_a0 11
                  have ie27 : iv2 a0 11 = ivh5 a0 11 := by rw [pq2]; exact up2_j (by decide)
                  have ie28 : ivh5 a0 11 = ivb1 a0 11 := fl5.i t_a0 rfl 11
                  have ri27 : 1 ≤ iv2 a0 12 ∧ iv2 a0 12 ≤ 50 := W7.int t_a0 12
                  have ie30 : iv2 a0 12 = ivh5 a0 12 := by rw [pq2]; exact up2_j (by decide)
                  have ie31 : ivh5 a0 12 = ivb1 a0 12 := fl5.i t_a0 rfl 12
                  have ri28 : (-2147483648) ≤ iv2 a0 13 ∧ iv2 a0 13 ≤ 2147483647 := W7.int t_a0 13
                  have ie33 : iv2 a0 13 = ivh5 a0 13 := by rw [pq2]; exact up2_j (by decide)
                  have ie34 : ivh5 a0 13 = ivb1 a0 13 := fl5.i t_a0 rfl 13
                  have ri29 : (-2147483648) ≤ iv2 a0 14 ∧ iv2 a0 14 ≤ 2147483647 := W7.int t_a0 14
                  have ie36 : iv2 a0 14 = ivh5 a0 14 := by rw [pq2]; exact up2_j (by decide)
                  have ie37 : ivh5 a0 14 = ivb1 a0 14 := fl5.i t_a0 rfl 14
                  have ri30 : (-2147483648) ≤ iv2 a0 16 ∧ iv2 a0 16 ≤ 2147483647 := W7.int t_a0 16
                  have ie39 : iv2 a0 16 = ivh5 a0 16 := by rw [pq2]; exact up2_j (by decide)
                  have ie40 : ivh5 a0 16 = ivb1 a0 16 := fl5.i t_a0 rfl 16
                  refine c_lv (lv2 := [(4, .int (iI (k + 1))), (0, .ref a0), (1, .int (iI i)), (2, .int (iI j)), (3, .int (iI n))]) [0, 3, 4, 5, 6] rfl ?_
                  exact ih1  (k + 1) _ (by omega) W7 F5  (by omega) (by show iv2 a0 11 = iv a0 11; omega) (by show iv2 a0 12 = iv a0 12; omega) (by show iv2 a0 13 = iv a0 13; omega) (by show iv2 a0 14 = iv a0 14; omega) (by show iv2 a0 16 = iv a0 16; omega)
                · refine c_aload_n (j := 3) (x := a0) C dX11_copyLines_87 rfl ?_
                  refine c_iconst C dX11_copyLines_88 ?_
                  refine d_callV (As := [.int (iI 1)]) (rest := []) C hM (C_refuse (a0 := a0) (x := 1) Wb1 hS t_a0 ⟨by decide, by decide⟩ ) dX11_copyLines_89 kV_X11_102 rfl t_a0 rfl rfl (by decide) ck_12 rfl (Nat.le_of_ble_eq_true rfl) ⟨(Nat.le_of_ble_eq_true rfl), (Nat.le_of_ble_eq_true rfl)⟩ hph hph (show 0 + 0 = 0 from rfl) (by decide) (fun rh6 Lh6 clh6 lnh6 ivh6 rvh6 h6 => ?_)
                  obtain ⟨f6, rfl, rfl, rfl, rfl, rfl, fl6, W8, rgf6, exf6, kp11f6, kp12f6, kp13f6, kp14f6, kp15f6, kp16f6⟩ := h6
                  have ri31 : 1 ≤ ivb1 a0 11 ∧ ivb1 a0 11 ≤ 100 := Wb1.int t_a0 11
                  have ri32 : 1 ≤ ivb1 a0 12 ∧ ivb1 a0 12 ≤ 50 := Wb1.int t_a0 12
                  have ri33 : (-2147483648) ≤ ivb1 a0 13 ∧ ivb1 a0 13 ≤ 2147483647 := Wb1.int t_a0 13
                  have ri34 : (-2147483648) ≤ ivb1 a0 14 ∧ ivb1 a0 14 ≤ 2147483647 := Wb1.int t_a0 14
                  have ri35 : (-2147483648) ≤ ivb1 a0 15 ∧ ivb1 a0 15 ≤ 2147483647 := Wb1.int t_a0 15
                  have ri36 : (-2147483648) ≤ ivb1 a0 16 ∧ ivb1 a0 16 ≤ 2147483647 := Wb1.int t_a0 16
                  have F6 := Fb1.call hX0 fl6 rfl
                  refine c_st (st2 := [.int (iI f6)]) rfl ?_
                  have gk11f6 : ivh6 a0 11 = ivb1 a0 11 := kp11f6
                  have gk12f6 : ivh6 a0 12 = ivb1 a0 12 := kp12f6
                  have gk13f6 : ivh6 a0 13 = ivb1 a0 13 := kp13f6
                  have gk14f6 : ivh6 a0 14 = ivb1 a0 14 := kp14f6
                  have gk15f6 : ivh6 a0 15 = ivb1 a0 15 := kp15f6
                  have gk16f6 : ivh6 a0 16 = ivb1 a0 16 := kp16f6
                  have gf6 : f6 = -1 := exf6
                  have ri37 : 1 ≤ ivh6 a0 11 ∧ ivh6 a0 11 ≤ 100 := W8.int t_a0 11
                  have ri38 : 1 ≤ ivh6 a0 12 ∧ ivh6 a0 12 ≤ 50 := W8.int t_a0 12
                  have ri39 : (-2147483648) ≤ ivh6 a0 13 ∧ ivh6 a0 13 ≤ 2147483647 := W8.int t_a0 13
                  have ri40 : (-2147483648) ≤ ivh6 a0 14 ∧ ivh6 a0 14 ≤ 2147483647 := W8.int t_a0 14
                  have ri41 : (-2147483648) ≤ ivh6 a0 16 ∧ ivh6 a0 16 ≤ 2147483647 := W8.int t_a0 16
                  exact c_iret C dX11_copyLines_92 rfl (by decide) (rom0 hph hph (by decide)) ⟨f6, rfl, rfl, rfl, rfl, rfl, F6, W8, ⟨by omega, by omega⟩, trivial, (by omega), (by omega), (by omega), (by omega), (by omega)⟩
              · subst oq2
                refine c_lv (lv2 := [(6, .null), (5, .ref ob1), (4, .int (iI k)), (0, .ref a0), (1, .int (iI i)), (2, .int (iI j)), (3, .int (iI n))]) [0, 1, 2, 3, 4, 5, 6] rfl ?_
                refine c_st (st2 := []) rfl ?_
                refine c_aload_n (j := 3) (x := a0) C dX11_copyLines_73 rfl ?_
                refine c_iconst C dX11_copyLines_74 ?_
                refine d_callV (As := [.int (iI 2)]) (rest := []) C hM (C_refuse (a0 := a0) (x := 2) Wb1 hS t_a0 ⟨by decide, by decide⟩ ) dX11_copyLines_75 kV_X11_102 rfl t_a0 rfl rfl (by decide) ck_12 rfl (Nat.le_of_ble_eq_true rfl) ⟨(Nat.le_of_ble_eq_true rfl), (Nat.le_of_ble_eq_true rfl)⟩ hph hph (show 0 + 0 = 0 from rfl) (by decide) (fun rh7 Lh7 clh7 lnh7 ivh7 rvh7 h7 => ?_)
                obtain ⟨f7, rfl, rfl, rfl, rfl, rfl, fl7, W9, rgf7, exf7, kp11f7, kp12f7, kp13f7, kp14f7, kp15f7, kp16f7⟩ := h7
                have ri42 : 1 ≤ ivb1 a0 11 ∧ ivb1 a0 11 ≤ 100 := Wb1.int t_a0 11
                have ri43 : 1 ≤ ivb1 a0 12 ∧ ivb1 a0 12 ≤ 50 := Wb1.int t_a0 12
                have ri44 : (-2147483648) ≤ ivb1 a0 13 ∧ ivb1 a0 13 ≤ 2147483647 := Wb1.int t_a0 13
                have ri45 : (-2147483648) ≤ ivb1 a0 14 ∧ ivb1 a0 14 ≤ 2147483647 := Wb1.int t_a0 14
                have ri46 : (-2147483648) ≤ ivb1 a0 15 ∧ ivb1 a0 15 ≤ 2147483647 := Wb1.int t_a0 15
                have ri47 : (-2147483648) ≤ ivb1 a0 16 ∧ ivb1 a0 16 ≤ 2147483647 := Wb1.int t_a0 16
                have F7 := Fb1.call hX0 fl7 rfl
                refine c_st (st2 := [.int (iI f7)]) rfl ?_
                have gk11f7 : ivh7 a0 11 = ivb1 a0 11 := kp11f7
                have gk12f7 : ivh7 a0 12 = ivb1 a0 12 := kp12f7
                have gk13f7 : ivh7 a0 13 = ivb1 a0 13 := kp13f7
                have gk14f7 : ivh7 a0 14 = ivb1 a0 14 := kp14f7
                have gk15f7 : ivh7 a0 15 = ivb1 a0 15 := kp15f7
                have gk16f7 : ivh7 a0 16 = ivb1 a0 16 := kp16f7
                have gf7 : f7 = -1 := exf7
                have ri48 : 1 ≤ ivh7 a0 11 ∧ ivh7 a0 11 ≤ 100 := W9.int t_a0 11
                have ri49 : 1 ≤ ivh7 a0 12 ∧ ivh7 a0 12 ≤ 50 := W9.int t_a0 12
                have ri50 : (-2147483648) ≤ ivh7 a0 13 ∧ ivh7 a0 13 ≤ 2147483647 := W9.int t_a0 13
                have ri51 : (-2147483648) ≤ ivh7 a0 14 ∧ ivh7 a0 14 ≤ 2147483647 := W9.int t_a0 14
                have ri52 : (-2147483648) ≤ ivh7 a0 16 ∧ ivh7 a0 16 ≤ 2147483647 := W9.int t_a0 16
                exact c_iret C dX11_copyLines_78 rfl (by decide) (rom0 hph hph (by decide)) ⟨f7, rfl, rfl, rfl, rfl, rfl, F7, W9, ⟨by omega, by omega⟩, trivial, (by omega), (by omega), (by omega), (by omega), (by omega)⟩
      have ri53 : 1 ≤ iv1 a0 11 ∧ iv1 a0 11 ≤ 100 := W1.int t_a0 11
      have ie64 : iv1 a0 11 = iv a0 11 := by rw [pq1]; exact up2_j (by decide)
      have ri54 : 1 ≤ iv1 a0 12 ∧ iv1 a0 12 ≤ 50 := W1.int t_a0 12
      have ie65 : iv1 a0 12 = iv a0 12 := by rw [pq1]; exact up2_j (by decide)
      have ri55 : (-2147483648) ≤ iv1 a0 13 ∧ iv1 a0 13 ≤ 2147483647 := W1.int t_a0 13
      have ie66 : iv1 a0 13 = iv a0 13 := by rw [pq1]; exact up2_j (by decide)
      have ri56 : (-2147483648) ≤ iv1 a0 14 ∧ iv1 a0 14 ≤ 2147483647 := W1.int t_a0 14
      have ie67 : iv1 a0 14 = iv a0 14 := by rw [pq1]; exact up2_j (by decide)
      have ri57 : (-2147483648) ≤ iv1 a0 16 ∧ iv1 a0 16 ≤ 2147483647 := W1.int t_a0 16
      have ie68 : iv1 a0 16 = iv a0 16 := by rw [pq1]; exact up2_j (by decide)
      refine c_lv (lv2 := [(4, .int (iI 0)), (0, .ref a0), (1, .int (iI i)), (2, .int (iI j)), (3, .int (iI n))]) [0, 1, 2, 3, 4] rfl ?_
      exact Lp1 203 0 _ (by omega) W1 F1  (by omega) (by show iv1 a0 11 = iv a0 11; omega) (by show iv1 a0 12 = iv a0 12; omega) (by show iv1 a0 13 = iv a0 13; omega) (by show iv1 a0 14 = iv a0 14; omega) (by show iv1 a0 16 = iv a0 16; omega)
    · refine c_aload_n (j := 0) (x := a0) C dX11_copyLines_17 rfl ?_
      refine c_iconst C dX11_copyLines_18 ?_
      refine d_callV (As := [.int (iI 5)]) (rest := []) C hM (C_refuse (a0 := a0) (x := 5) hW hS t_a0 ⟨by decide, by decide⟩ ) dX11_copyLines_19 kV_X11_102 rfl t_a0 rfl rfl (by decide) ck_12 rfl (Nat.le_of_ble_eq_true rfl) ⟨(Nat.le_of_ble_eq_true rfl), (Nat.le_of_ble_eq_true rfl)⟩ hph hph (show 0 + 0 = 0 from rfl) (by decide) (fun rh8 Lh8 clh8 lnh8 ivh8 rvh8 h8 => ?_)
      obtain ⟨f8, rfl, rfl, rfl, rfl, rfl, fl8, W10, rgf8, exf8, kp11f8, kp12f8, kp13f8, kp14f8, kp15f8, kp16f8⟩ := h8
      have ri58 : 1 ≤ iv a0 11 ∧ iv a0 11 ≤ 100 := hW.int t_a0 11
      have ri59 : 1 ≤ iv a0 12 ∧ iv a0 12 ≤ 50 := hW.int t_a0 12
      have ri60 : (-2147483648) ≤ iv a0 13 ∧ iv a0 13 ≤ 2147483647 := hW.int t_a0 13
      have ri61 : (-2147483648) ≤ iv a0 14 ∧ iv a0 14 ≤ 2147483647 := hW.int t_a0 14
      have ri62 : (-2147483648) ≤ iv a0 15 ∧ iv a0 15 ≤ 2147483647 := hW.int t_a0 15
      have ri63 : (-2147483648) ≤ iv a0 16 ∧ iv a0 16 ≤ 2147483647 := hW.int t_a0 16
      have F8 := hF0.call hX0 fl8 rfl
      refine c_st (st2 := [.int (iI f8)]) rfl ?_
      have gk11f8 : ivh8 a0 11 = iv a0 11 := kp11f8
      have gk12f8 : ivh8 a0 12 = iv a0 12 := kp12f8
      have gk13f8 : ivh8 a0 13 = iv a0 13 := kp13f8
      have gk14f8 : ivh8 a0 14 = iv a0 14 := kp14f8
      have gk15f8 : ivh8 a0 15 = iv a0 15 := kp15f8
      have gk16f8 : ivh8 a0 16 = iv a0 16 := kp16f8
      have gf8 : f8 = -1 := exf8
      have ri64 : 1 ≤ ivh8 a0 11 ∧ ivh8 a0 11 ≤ 100 := W10.int t_a0 11
      have ri65 : 1 ≤ ivh8 a0 12 ∧ ivh8 a0 12 ≤ 50 := W10.int t_a0 12
      have ri66 : (-2147483648) ≤ ivh8 a0 13 ∧ ivh8 a0 13 ≤ 2147483647 := W10.int t_a0 13
      have ri67 : (-2147483648) ≤ ivh8 a0 14 ∧ ivh8 a0 14 ≤ 2147483647 := W10.int t_a0 14
      have ri68 : (-2147483648) ≤ ivh8 a0 16 ∧ ivh8 a0 16 ≤ 2147483647 := W10.int t_a0 16
      exact c_iret C dX11_copyLines_22 rfl (by decide) (rom0 hph hph (by decide)) ⟨f8, rfl, rfl, rfl, rfl, rfl, F8, W10, ⟨by omega, by omega⟩, trivial, (by omega), (by omega), (by omega), (by omega), (by omega)⟩
  · refine c_aload_n (j := 0) (x := a0) C dX11_copyLines_6 rfl ?_
    refine c_bipush (z := 6) C dX11_copyLines_7 (by decide) ?_
    refine d_callV (As := [.int (iI 6)]) (rest := []) C hM (C_refuse (a0 := a0) (x := 6) hW hS t_a0 ⟨by decide, by decide⟩ ) dX11_copyLines_9 kV_X11_102 rfl t_a0 rfl rfl (by decide) ck_12 rfl (Nat.le_of_ble_eq_true rfl) ⟨(Nat.le_of_ble_eq_true rfl), (Nat.le_of_ble_eq_true rfl)⟩ hph hph (show 0 + 0 = 0 from rfl) (by decide) (fun rh9 Lh9 clh9 lnh9 ivh9 rvh9 h9 => ?_)
    obtain ⟨f9, rfl, rfl, rfl, rfl, rfl, fl9, W11, rgf9, exf9, kp11f9, kp12f9, kp13f9, kp14f9, kp15f9, kp16f9⟩ := h9
    have ri69 : 1 ≤ iv a0 11 ∧ iv a0 11 ≤ 100 := hW.int t_a0 11
    have ri70 : 1 ≤ iv a0 12 ∧ iv a0 12 ≤ 50 := hW.int t_a0 12
    have ri71 : (-2147483648) ≤ iv a0 13 ∧ iv a0 13 ≤ 2147483647 := hW.int t_a0 13
    have ri72 : (-2147483648) ≤ iv a0 14 ∧ iv a0 14 ≤ 2147483647 := hW.int t_a0 14
    have ri73 : (-2147483648) ≤ iv a0 15 ∧ iv a0 15 ≤ 2147483647 := hW.int t_a0 15
    have ri74 : (-2147483648) ≤ iv a0 16 ∧ iv a0 16 ≤ 2147483647 := hW.int t_a0 16
    have F9 := hF0.call hX0 fl9 rfl
    refine c_st (st2 := [.int (iI f9)]) rfl ?_
    have gk11f9 : ivh9 a0 11 = iv a0 11 := kp11f9
    have gk12f9 : ivh9 a0 12 = iv a0 12 := kp12f9
    have gk13f9 : ivh9 a0 13 = iv a0 13 := kp13f9
    have gk14f9 : ivh9 a0 14 = iv a0 14 := kp14f9
    have gk15f9 : ivh9 a0 15 = iv a0 15 := kp15f9
    have gk16f9 : ivh9 a0 16 = iv a0 16 := kp16f9
    have gf9 : f9 = -1 := exf9
    have ri75 : 1 ≤ ivh9 a0 11 ∧ ivh9 a0 11 ≤ 100 := W11.int t_a0 11
    have ri76 : 1 ≤ ivh9 a0 12 ∧ ivh9 a0 12 ≤ 50 := W11.int t_a0 12
    have ri77 : (-2147483648) ≤ ivh9 a0 13 ∧ ivh9 a0 13 ≤ 2147483647 := W11.int t_a0 13
    have ri78 : (-2147483648) ≤ ivh9 a0 14 ∧ ivh9 a0 14 ≤ 2147483647 := W11.int t_a0 14
    have ri79 : (-2147483648) ≤ ivh9 a0 16 ∧ ivh9 a0 16 ≤ 2147483647 := W11.int t_a0 16
    exact c_iret C dX11_copyLines_12 rfl (by decide) (rom0 hph hph (by decide)) ⟨f9, rfl, rfl, rfl, rfl, rfl, F9, W11, ⟨by omega, by omega⟩, trivial, (by omega), (by omega), (by omega), (by omega), (by omega)⟩
set_option maxHeartbeats 4000000 in
set_option maxRecDepth 100000 in
theorem C_emboss {l : Launch} {G : GT} {mi : Nat} {sk : Nat → Nat} {L : List Nat} {cl ln : Nat → Nat} {iv : Nat → Nat → Int} {rv : Nat → Nat → Option Nat}  {a0 : Nat} {i : Int} {n : Int} (hW : WT (g0 G) sk L cl ln iv rv) (hS : SKL sk L cl) (t_a0 : ty L cl a0 1) (h_i : -2147483648 ≤ i ∧ i ≤ 2147483647) (h_n : -2147483648 ≤ n ∧ n ≤ 2147483647)  : Mc l G mi (Phi (g0 G) sk) PHM yX11_emboss cX11_emboss 6 (some .int) 2 [.ref a0, .int (iI i), .int (iI n)] L cl ln iv rv 0 (fun v L2 cl2 ln2 iv2 rv2 => ∃ f : Int, v = some (.int (iI f)) ∧ L = L2 ∧ cl = cl2 ∧ ln = ln2 ∧ rv = rv2 ∧ fT [1] L cl iv rv iv2 rv2 ∧ WT (g0 G) sk L2 cl2 ln2 iv2 rv2 ∧ (-2147483648 ≤ f ∧ f ≤ 2147483647) ∧ (True) ∧ iv2 a0 11 = iv a0 11 ∧ iv2 a0 12 = iv a0 12 ∧ iv2 a0 13 = iv a0 13 ∧ iv2 a0 14 = iv a0 14 ∧ iv2 a0 15 = iv a0 15) := by
  refine Mc.mk (by decide) (Nat.le_of_ble_eq_true rfl) ?_
  intro p e s m args below meth c A C hM
  have hph := Phi.le hW hS
  have hX0 : XT L cl ln L cl ln := XT.refl
  have hF0 : fT [1] L cl iv rv iv rv := fT.refl
  refine c_iload_n (j := 2) C dX11_emboss_0 rfl ?_
  refine c_sipush (z := 200) C dX11_emboss_1 (by decide) ?_
  refine c_icmp_le (tgt := 14) C ⟨by omega, by omega⟩ ⟨by decide, by decide⟩ dX11_emboss_4 (by decide) (fun c1 => ?_) (fun c1 => ?_)
  · refine c_iload_n (j := 2) C dX11_emboss_14 rfl ?_
    refine c_if_ge (tgt := 24) C ⟨by omega, by omega⟩ dX11_emboss_15 (by decide) (fun c2 => ?_) (fun c2 => ?_)
    · refine c_iconst C dX11_emboss_24 ?_
      refine c_istore_n (lv2 := [(3, .int (iI 0)), (0, .ref a0), (1, .int (iI i)), (2, .int (iI n))]) C dX11_emboss_25 (by decide) rfl ?_
      refine c_iconst C dX11_emboss_26 ?_
      refine c_istore (lv2 := [(4, .int (iI 0)), (3, .int (iI 0)), (0, .ref a0), (1, .int (iI i)), (2, .int (iI n))]) C dX11_emboss_27 (by decide) rfl ?_
      have Lp1 : ∀ (nn : Nat) (s1 k : Int) (ivb1 : Nat → Nat → Int) , 201 - k < (nn : Int) → WT (g0 G) sk L cl ln ivb1 rv → fT [1] L cl iv rv ivb1 rv → (-2147483648 ≤ s1 ∧ s1 ≤ 2147483647) → (0 ≤ k ∧ k ≤ 200) → (ivb1 a0 11 = iv a0 11) → (ivb1 a0 12 = iv a0 12) → (ivb1 a0 13 = iv a0 13) → (ivb1 a0 14 = iv a0 14) → (ivb1 a0 15 = iv a0 15) → cw p l e 2 ((PHM) + 0 - ((Phi (g0 G) sk) ln rv)) s m args below meth c G A 6 (MQ below (Qu G A (Qp G (Phi (g0 G) sk) ((Phi (g0 G) sk) ln rv) 0 (fun v L2 cl2 ln2 iv2 rv2 => ∃ f : Int, v = some (.int (iI f)) ∧ L = L2 ∧ cl = cl2 ∧ ln = ln2 ∧ rv = rv2 ∧ fT [1] L cl iv rv iv2 rv2 ∧ WT (g0 G) sk L2 cl2 ln2 iv2 rv2 ∧ (-2147483648 ≤ f ∧ f ≤ 2147483647) ∧ (True) ∧ iv2 a0 11 = iv a0 11 ∧ iv2 a0 12 = iv a0 12 ∧ iv2 a0 13 = iv a0 13 ∧ iv2 a0 14 = iv a0 14 ∧ iv2 a0 15 = iv a0 15))) args s (((PHM) + 0 - ((Phi (g0 G) sk) ln rv)) / 16) ((PHM) + 0 - ((Phi (g0 G) sk) ln rv)) A) (Phi (g0 G) sk) ((Phi (g0 G) sk) ln rv) L cl ln ivb1 rv 0 29 [(3, .int (iI s1)), (4, .int (iI k)), (0, .ref a0), (1, .int (iI i)), (2, .int (iI n))] [] := by
        intro nn
        induction nn with
        | zero =>
          intro  s1 k ivb1 hm Wb1 Fb1  hs1 hk hkp11 hkp12 hkp13 hkp14 hkp15
          exact absurd hm (by omega)
        | succ nn ih1 =>
          intro  s1 k ivb1 hm Wb1 Fb1  hs1 hk hkp11 hkp12 hkp13 hkp14 hkp15
          refine c_iload (j := 1) C dX11_emboss_29 rfl ?_
          refine c_iload_n (j := 4) C dX11_emboss_31 rfl ?_
          refine c_icmp_ge (tgt := 121) C ⟨by omega, by omega⟩ ⟨by omega, by omega⟩ dX11_emboss_32 (by decide) (fun c3 => ?_) (fun c3 => ?_)
          · refine c_aload_n (j := 2) (x := a0) C dX11_emboss_121 rfl ?_
            refine c_iload_n (j := 0) C dX11_emboss_122 rfl ?_
            refine d_callV (As := [.int (iI s1)]) (rest := []) C hM (C_done (a0 := a0) (x := s1) Wb1 hS t_a0 (by omega) ) dX11_emboss_123 kV_X11_109 rfl t_a0 rfl rfl (by decide) ck_12 rfl (Nat.le_of_ble_eq_true rfl) ⟨(Nat.le_of_ble_eq_true rfl), (Nat.le_of_ble_eq_true rfl)⟩ hph hph (show 0 + 0 = 0 from rfl) (by decide) (fun rh1 Lh1 clh1 lnh1 ivh1 rvh1 h1 => ?_)
            obtain ⟨f1, rfl, rfl, rfl, rfl, rfl, fl1, W1, rgf1, exf1, kp11f1, kp12f1, kp13f1, kp14f1, kp15f1, kp16f1⟩ := h1
            have ri1 : 1 ≤ ivb1 a0 11 ∧ ivb1 a0 11 ≤ 100 := Wb1.int t_a0 11
            have ri2 : 1 ≤ ivb1 a0 12 ∧ ivb1 a0 12 ≤ 50 := Wb1.int t_a0 12
            have ri3 : (-2147483648) ≤ ivb1 a0 13 ∧ ivb1 a0 13 ≤ 2147483647 := Wb1.int t_a0 13
            have ri4 : (-2147483648) ≤ ivb1 a0 14 ∧ ivb1 a0 14 ≤ 2147483647 := Wb1.int t_a0 14
            have ri5 : (-2147483648) ≤ ivb1 a0 15 ∧ ivb1 a0 15 ≤ 2147483647 := Wb1.int t_a0 15
            have ri6 : (-2147483648) ≤ ivb1 a0 16 ∧ ivb1 a0 16 ≤ 2147483647 := Wb1.int t_a0 16
            have F1 := Fb1.call hX0 fl1 rfl
            refine c_st (st2 := [.int (iI f1)]) rfl ?_
            have gk11f1 : ivh1 a0 11 = ivb1 a0 11 := kp11f1
            have gk12f1 : ivh1 a0 12 = ivb1 a0 12 := kp12f1
            have gk13f1 : ivh1 a0 13 = ivb1 a0 13 := kp13f1
            have gk14f1 : ivh1 a0 14 = ivb1 a0 14 := kp14f1
            have gk15f1 : ivh1 a0 15 = ivb1 a0 15 := kp15f1
            have gk16f1 : ivh1 a0 16 = ivb1 a0 16 := kp16f1
            have gf1 : f1 = s1 := exf1
            have ri7 : 1 ≤ ivh1 a0 11 ∧ ivh1 a0 11 ≤ 100 := W1.int t_a0 11
            have ri8 : 1 ≤ ivh1 a0 12 ∧ ivh1 a0 12 ≤ 50 := W1.int t_a0 12
            have ri9 : (-2147483648) ≤ ivh1 a0 13 ∧ ivh1 a0 13 ≤ 2147483647 := W1.int t_a0 13
            have ri10 : (-2147483648) ≤ ivh1 a0 14 ∧ ivh1 a0 14 ≤ 2147483647 := W1.int t_a0 14
            have ri11 : (-2147483648) ≤ ivh1 a0 15 ∧ ivh1 a0 15 ≤ 2147483647 := W1.int t_a0 15
            exact c_iret C dX11_emboss_126 rfl (by decide) (rom0 hph hph (by decide)) ⟨f1, rfl, rfl, rfl, rfl, rfl, F1, W1, ⟨by omega, by omega⟩, trivial, (by omega), (by omega), (by omega), (by omega), (by omega)⟩
          · refine c_aload_n (j := 2) (x := a0) C dX11_emboss_35 rfl ?_
            refine c_dup C dX11_emboss_36 rfl ?_
            have ri12 : (-2147483648) ≤ ivb1 a0 16 ∧ ivb1 a0 16 ≤ 2147483647 := Wb1.int t_a0 16
            refine c_get (k := 16) C ck_12 dX11_emboss_37 w2_60 (by decide) t_a0 rfl rfl (by decide) rfl ?_
            refine c_iconst C dX11_emboss_40 ?_
            refine c_iadd C dX11_emboss_41 ?_
            obtain ⟨zz1, hzz1, ezz1⟩ := iI_of (iI ((ivb1 a0 16) + 1))
            refine c_st (st2 := [.int (iI zz1), .ref a0]) (by rw [ezz1]) ?_
            refine c_put (z := zz1) (k := 16) C ck_12 dX11_emboss_42 w2_60 (by decide) rfl t_a0 rfl rfl (by decide) rfl (by rfl) (by rfl) (fun iv1 pq1 => ?_)
            have W2 := Wb1.puti pq1 t_a0 (show (-2147483648) ≤ zz1 ∧ zz1 ≤ 2147483647 by omega) rfl
            have F2 := Fb1.puti hX0 pq1 t_a0 rfl
            refine c_aload_n (j := 2) (x := a0) C dX11_emboss_45 rfl ?_
            obtain ⟨rb1, rq1, trb1⟩ := W2.ref t_a0 9 rfl rfl rfl
            refine c_getr (k := 9) C ck_12 dX11_emboss_46 w2_53 (by decide) t_a0 rfl rfl (by decide) rfl rq1 ?_
            refine c_st (st2 := [.ref rb1]) rfl ?_
            refine c_iload_n (j := 3) C dX11_emboss_49 rfl ?_
            refine c_iload (j := 1) C dX11_emboss_50 rfl ?_
            refine c_iadd C dX11_emboss_52 ?_
            obtain ⟨zz2, hzz2, ezz2⟩ := iI_of (iI (i + k))
            refine c_st (st2 := [.int (iI zz2), .ref rb1]) (by rw [ezz2]) ?_
            have ri13 : 0 ≤ iv1 rb1 1 ∧ iv1 rb1 1 ≤ 200 := W2.int trb1 1
            have ie13 : iv1 rb1 1 = ivb1 rb1 1 := by rw [pq1]; exact up2_k (ne_ty trb1 t_a0 (by decide))
            have ie14 : ivb1 rb1 1 = iv rb1 1 := Fb1.i trb1 rfl 1
            refine d_callV (As := [.int (iI zz2)]) (rest := []) C hM (C_sat (a0 := rb1) (i := zz2) W2 hS trb1 (by omega) ) dX11_emboss_53 kV_X11_308 rfl trb1 rfl rfl (by decide) ck_8 rfl (Nat.le_of_ble_eq_true rfl) ⟨(Nat.le_of_ble_eq_true rfl), (Nat.le_of_ble_eq_true rfl)⟩ hph hph (show 0 + 0 = 0 from rfl) (by decide) (fun rh2 Lh2 clh2 lnh2 ivh2 rvh2 h2 => ?_)
            obtain ⟨f2, rfl, rfl, rfl, rfl, rfl, rfl, rgf2, exf2⟩ := h2
            refine c_st (st2 := [(va_rf f2)]) rfl ?_
            have gf2 : f2 = none ∨ (0 ≤ zz2 ∧ zz2 < iv1 rb1 1) := exf2
            refine c_astorer (r := f2) (lv2 := [(5, (va_rf f2)), (3, .int (iI s1)), (4, .int (iI k)), (0, .ref a0), (1, .int (iI i)), (2, .int (iI n))]) C dX11_emboss_56 (by decide) rfl ?_
            refine c_aloadr (j := 0) (r := f2) C dX11_emboss_58 rfl ?_
            refine c_ifnonnull (r := f2) (tgt := 69) C dX11_emboss_60 (by decide) (fun ob1 oq1 => ?_) (fun oq1 => ?_)
            · subst oq1
              have tob1 := rgf2 ob1 rfl
              refine c_lv (lv2 := [(5, .ref ob1), (3, .int (iI s1)), (4, .int (iI k)), (0, .ref a0), (1, .int (iI i)), (2, .int (iI n))]) [0, 1, 2, 3, 4, 5] rfl ?_
              refine c_st (st2 := []) rfl ?_
              refine c_aload (j := 0) (x := ob1) C dX11_emboss_69 rfl ?_
              have ri14 : 0 ≤ iv1 ob1 2 ∧ iv1 ob1 2 ≤ 1 := W2.int tob1 2
              have ie15 : iv1 ob1 2 = ivb1 ob1 2 := by rw [pq1]; exact up2_k (ne_ty tob1 t_a0 (by decide))
              have ie16 : ivb1 ob1 2 = iv ob1 2 := Fb1.i tob1 rfl 2
              refine c_get (k := 2) C ck_3 dX11_emboss_71 w4_56 (by decide) tob1 rfl rfl (by decide) rfl ?_
              refine c_if_ne (tgt := 95) C ⟨by omega, by omega⟩ dX11_emboss_74 (by decide) (fun c4 => ?_) (fun c4 => ?_)
              · refine c_iload_n (j := 1) C dX11_emboss_95 rfl ?_
                refine c_aload (j := 0) (x := ob1) C dX11_emboss_96 rfl ?_
                refine c_get (k := 2) C ck_3 dX11_emboss_98 w4_56 (by decide) tob1 rfl rfl (by decide) rfl ?_
                refine c_if_eq (tgt := 108) C ⟨by omega, by omega⟩ dX11_emboss_101 (by decide) (fun c5 => ?_) (fun c5 => ?_)
                · refine c_aload (j := 0) (x := ob1) C dX11_emboss_108 rfl ?_
                  refine d_callV (As := []) (rest := [.int (iI s1)]) C hM (C_dots (a0 := ob1) W2 hS tob1  ) dX11_emboss_110 kV_X11_326 rfl tob1 rfl rfl (by decide) ck_3 rfl (Nat.le_of_ble_eq_true rfl) ⟨(Nat.le_of_ble_eq_true rfl), (Nat.le_of_ble_eq_true rfl)⟩ hph hph (show 0 + 0 = 0 from rfl) (by decide) (fun rh3 Lh3 clh3 lnh3 ivh3 rvh3 h3 => ?_)
                  obtain ⟨f3, rfl, rfl, rfl, rfl, rfl, rfl, rgf3, exf3⟩ := h3
                  refine c_st (st2 := [.int (iI f3), .int (iI s1)]) rfl ?_
                  refine c_iadd C dX11_emboss_113 ?_
                  obtain ⟨zz3, hzz3, ezz3⟩ := iI_of (iI (s1 + f3))
                  refine c_st (st2 := [.int (iI zz3)]) (by rw [ezz3]) ?_
                  refine c_istore_n (lv2 := [(3, .int (iI zz3)), (5, .ref ob1), (4, .int (iI k)), (0, .ref a0), (1, .int (iI i)), (2, .int (iI n))]) C dX11_emboss_114 (by decide) rfl ?_
                  refine c_iinc (z := k) (j := 2) (lv2 := [(4, .int (iI (k + 1))), (3, .int (iI zz3)), (5, .ref ob1), (0, .ref a0), (1, .int (iI i)), (2, .int (iI n))]) C dX11_emboss_115 rfl (by decide) rfl ?_
                  refine c_goto (tgt := 29) C dX11_emboss_118 (by decide) ?_
                  have ri15 : 1 ≤ iv1 a0 11 ∧ iv1 a0 11 ≤ 100 := W2.int t_a0 11
                  have ie17 : iv1 a0 11 = ivb1 a0 11 := by rw [pq1]; exact up2_j (by decide)
                  have ri16 : 1 ≤ iv1 a0 12 ∧ iv1 a0 12 ≤ 50 := W2.int t_a0 12
                  have ie19 : iv1 a0 12 = ivb1 a0 12 := by rw [pq1]; exact up2_j (by decide)
                  have ri17 : (-2147483648) ≤ iv1 a0 13 ∧ iv1 a0 13 ≤ 2147483647 := W2.int t_a0 13
                  have ie21 : iv1 a0 13 = ivb1 a0 13 := by rw [pq1]; exact up2_j (by decide)
                  have ri18 : (-2147483648) ≤ iv1 a0 14 ∧ iv1 a0 14 ≤ 2147483647 := W2.int t_a0 14
                  have ie23 : iv1 a0 14 = ivb1 a0 14 := by rw [pq1]; exact up2_j (by decide)
                  have ri19 : (-2147483648) ≤ iv1 a0 15 ∧ iv1 a0 15 ≤ 2147483647 := W2.int t_a0 15
                  have ie25 : iv1 a0 15 = ivb1 a0 15 := by rw [pq1]; exact up2_j (by decide)
                  refine c_lv (lv2 := [(3, .int (iI zz3)), (4, .int (iI (k + 1))), (0, .ref a0), (1, .int (iI i)), (2, .int (iI n))]) [1, 0, 3, 4, 5] rfl ?_
                  exact ih1  zz3 (k + 1) _ (by omega) W2 F2  (by omega) (by omega) (by show iv1 a0 11 = iv a0 11; omega) (by show iv1 a0 12 = iv a0 12; omega) (by show iv1 a0 13 = iv a0 13; omega) (by show iv1 a0 14 = iv a0 14; omega) (by show iv1 a0 15 = iv a0 15; omega)
                · refine c_iconst C dX11_emboss_104 ?_
                  refine c_goto (tgt := 113) C dX11_emboss_105 (by decide) ?_
                  refine c_iadd C dX11_emboss_113 ?_
                  obtain ⟨zz4, hzz4, ezz4⟩ := iI_of (iI (s1 + 0))
                  refine c_st (st2 := [.int (iI zz4)]) (by rw [ezz4]) ?_
                  refine c_istore_n (lv2 := [(3, .int (iI zz4)), (5, .ref ob1), (4, .int (iI k)), (0, .ref a0), (1, .int (iI i)), (2, .int (iI n))]) C dX11_emboss_114 (by decide) rfl ?_
                  refine c_iinc (z := k) (j := 2) (lv2 := [(4, .int (iI (k + 1))), (3, .int (iI zz4)), (5, .ref ob1), (0, .ref a0), (1, .int (iI i)), (2, .int (iI n))]) C dX11_emboss_115 rfl (by decide) rfl ?_
                  refine c_goto (tgt := 29) C dX11_emboss_118 (by decide) ?_
                  have ri20 : 1 ≤ iv1 a0 11 ∧ iv1 a0 11 ≤ 100 := W2.int t_a0 11
                  have ie27 : iv1 a0 11 = ivb1 a0 11 := by rw [pq1]; exact up2_j (by decide)
                  have ri21 : 1 ≤ iv1 a0 12 ∧ iv1 a0 12 ≤ 50 := W2.int t_a0 12
                  have ie29 : iv1 a0 12 = ivb1 a0 12 := by rw [pq1]; exact up2_j (by decide)
                  have ri22 : (-2147483648) ≤ iv1 a0 13 ∧ iv1 a0 13 ≤ 2147483647 := W2.int t_a0 13
                  have ie31 : iv1 a0 13 = ivb1 a0 13 := by rw [pq1]; exact up2_j (by decide)
                  have ri23 : (-2147483648) ≤ iv1 a0 14 ∧ iv1 a0 14 ≤ 2147483647 := W2.int t_a0 14
                  have ie33 : iv1 a0 14 = ivb1 a0 14 := by rw [pq1]; exact up2_j (by decide)
                  have ri24 : (-2147483648) ≤ iv1 a0 15 ∧ iv1 a0 15 ≤ 2147483647 := W2.int t_a0 15
                  have ie35 : iv1 a0 15 = ivb1 a0 15 := by rw [pq1]; exact up2_j (by decide)
                  refine c_lv (lv2 := [(3, .int (iI zz4)), (4, .int (iI (k + 1))), (0, .ref a0), (1, .int (iI i)), (2, .int (iI n))]) [1, 0, 3, 4, 5] rfl ?_
                  exact ih1  zz4 (k + 1) _ (by omega) W2 F2  (by omega) (by omega) (by show iv1 a0 11 = iv a0 11; omega) (by show iv1 a0 12 = iv a0 12; omega) (by show iv1 a0 13 = iv a0 13; omega) (by show iv1 a0 14 = iv a0 14; omega) (by show iv1 a0 15 = iv a0 15; omega)
              · refine c_aload (j := 0) (x := ob1) C dX11_emboss_77 rfl ?_
                have ri25 : 0 ≤ iv1 ob1 1 ∧ iv1 ob1 1 ≤ 200 := W2.int tob1 1
                have ie37 : iv1 ob1 1 = ivb1 ob1 1 := by rw [pq1]; exact up2_k (ne_ty tob1 t_a0 (by decide))
                have ie38 : ivb1 ob1 1 = iv ob1 1 := Fb1.i tob1 rfl 1
                refine c_get (k := 1) C ck_3 dX11_emboss_79 w4_53 (by decide) tob1 rfl rfl (by decide) rfl ?_
                refine c_aload_n (j := 3) (x := a0) C dX11_emboss_82 rfl ?_
                have ri26 : 1 ≤ iv1 a0 11 ∧ iv1 a0 11 ≤ 100 := W2.int t_a0 11
                have ie39 : iv1 a0 11 = ivb1 a0 11 := by rw [pq1]; exact up2_j (by decide)
                refine c_get (k := 11) C ck_12 dX11_emboss_83 w2_55 (by decide) t_a0 rfl rfl (by decide) rfl ?_
                refine c_icmp_le (tgt := 95) C ⟨by omega, by omega⟩ ⟨by omega, by omega⟩ dX11_emboss_86 (by decide) (fun c6 => ?_) (fun c6 => ?_)
                · refine c_iload_n (j := 1) C dX11_emboss_95 rfl ?_
                  refine c_aload (j := 0) (x := ob1) C dX11_emboss_96 rfl ?_
                  refine c_get (k := 2) C ck_3 dX11_emboss_98 w4_56 (by decide) tob1 rfl rfl (by decide) rfl ?_
                  refine c_if_eq (tgt := 108) C ⟨by omega, by omega⟩ dX11_emboss_101 (by decide) (fun c7 => ?_) (fun c7 => ?_)
                  · refine c_aload (j := 0) (x := ob1) C dX11_emboss_108 rfl ?_
                    refine d_callV (As := []) (rest := [.int (iI s1)]) C hM (C_dots (a0 := ob1) W2 hS tob1  ) dX11_emboss_110 kV_X11_326 rfl tob1 rfl rfl (by decide) ck_3 rfl (Nat.le_of_ble_eq_true rfl) ⟨(Nat.le_of_ble_eq_true rfl), (Nat.le_of_ble_eq_true rfl)⟩ hph hph (show 0 + 0 = 0 from rfl) (by decide) (fun rh4 Lh4 clh4 lnh4 ivh4 rvh4 h4 => ?_)
                    obtain ⟨f4, rfl, rfl, rfl, rfl, rfl, rfl, rgf4, exf4⟩ := h4
                    refine c_st (st2 := [.int (iI f4), .int (iI s1)]) rfl ?_
                    refine c_iadd C dX11_emboss_113 ?_
                    obtain ⟨zz5, hzz5, ezz5⟩ := iI_of (iI (s1 + f4))
                    refine c_st (st2 := [.int (iI zz5)]) (by rw [ezz5]) ?_
                    refine c_istore_n (lv2 := [(3, .int (iI zz5)), (5, .ref ob1), (4, .int (iI k)), (0, .ref a0), (1, .int (iI i)), (2, .int (iI n))]) C dX11_emboss_114 (by decide) rfl ?_
                    refine c_iinc (z := k) (j := 2) (lv2 := [(4, .int (iI (k + 1))), (3, .int (iI zz5)), (5, .ref ob1), (0, .ref a0), (1, .int (iI i)), (2, .int (iI n))]) C dX11_emboss_115 rfl (by decide) rfl ?_
                    refine c_goto (tgt := 29) C dX11_emboss_118 (by decide) ?_
                    have ri27 : 1 ≤ iv1 a0 12 ∧ iv1 a0 12 ≤ 50 := W2.int t_a0 12
                    have ie41 : iv1 a0 12 = ivb1 a0 12 := by rw [pq1]; exact up2_j (by decide)
                    have ri28 : (-2147483648) ≤ iv1 a0 13 ∧ iv1 a0 13 ≤ 2147483647 := W2.int t_a0 13
                    have ie43 : iv1 a0 13 = ivb1 a0 13 := by rw [pq1]; exact up2_j (by decide)
                    have ri29 : (-2147483648) ≤ iv1 a0 14 ∧ iv1 a0 14 ≤ 2147483647 := W2.int t_a0 14
                    have ie45 : iv1 a0 14 = ivb1 a0 14 := by rw [pq1]; exact up2_j (by decide)
                    have ri30 : (-2147483648) ≤ iv1 a0 15 ∧ iv1 a0 15 ≤ 2147483647 := W2.int t_a0 15
                    have ie47 : iv1 a0 15 = ivb1 a0 15 := by rw [pq1]; exact up2_j (by decide)
                    refine c_lv (lv2 := [(3, .int (iI zz5)), (4, .int (iI (k + 1))), (0, .ref a0), (1, .int (iI i)), (2, .int (iI n))]) [1, 0, 3, 4, 5] rfl ?_
                    exact ih1  zz5 (k + 1) _ (by omega) W2 F2  (by omega) (by omega) (by show iv1 a0 11 = iv a0 11; omega) (by show iv1 a0 12 = iv a0 12; omega) (by show iv1 a0 13 = iv a0 13; omega) (by show iv1 a0 14 = iv a0 14; omega) (by show iv1 a0 15 = iv a0 15; omega)
                  · refine c_iconst C dX11_emboss_104 ?_
                    refine c_goto (tgt := 113) C dX11_emboss_105 (by decide) ?_
                    refine c_iadd C dX11_emboss_113 ?_
                    obtain ⟨zz6, hzz6, ezz6⟩ := iI_of (iI (s1 + 0))
                    refine c_st (st2 := [.int (iI zz6)]) (by rw [ezz6]) ?_
                    refine c_istore_n (lv2 := [(3, .int (iI zz6)), (5, .ref ob1), (4, .int (iI k)), (0, .ref a0), (1, .int (iI i)), (2, .int (iI n))]) C dX11_emboss_114 (by decide) rfl ?_
                    refine c_iinc (z := k) (j := 2) (lv2 := [(4, .int (iI (k + 1))), (3, .int (iI zz6)), (5, .ref ob1), (0, .ref a0), (1, .int (iI i)), (2, .int (iI n))]) C dX11_emboss_115 rfl (by decide) rfl ?_
                    refine c_goto (tgt := 29) C dX11_emboss_118 (by decide) ?_
                    have ri31 : 1 ≤ iv1 a0 12 ∧ iv1 a0 12 ≤ 50 := W2.int t_a0 12
                    have ie49 : iv1 a0 12 = ivb1 a0 12 := by rw [pq1]; exact up2_j (by decide)
                    have ri32 : (-2147483648) ≤ iv1 a0 13 ∧ iv1 a0 13 ≤ 2147483647 := W2.int t_a0 13
                    have ie51 : iv1 a0 13 = ivb1 a0 13 := by rw [pq1]; exact up2_j (by decide)
                    have ri33 : (-2147483648) ≤ iv1 a0 14 ∧ iv1 a0 14 ≤ 2147483647 := W2.int t_a0 14
                    have ie53 : iv1 a0 14 = ivb1 a0 14 := by rw [pq1]; exact up2_j (by decide)
                    have ri34 : (-2147483648) ≤ iv1 a0 15 ∧ iv1 a0 15 ≤ 2147483647 := W2.int t_a0 15
                    have ie55 : iv1 a0 15 = ivb1 a0 15 := by rw [pq1]; exact up2_j (by decide)
                    refine c_lv (lv2 := [(3, .int (iI zz6)), (4, .int (iI (k + 1))), (0, .ref a0), (1, .int (iI i)), (2, .int (iI n))]) [1, 0, 3, 4, 5] rfl ?_
                    exact ih1  zz6 (k + 1) _ (by omega) W2 F2  (by omega) (by omega) (by show iv1 a0 11 = iv a0 11; omega) (by show iv1 a0 12 = iv a0 12; omega) (by show iv1 a0 13 = iv a0 13; omega) (by show iv1 a0 14 = iv a0 14; omega) (by show iv1 a0 15 = iv a0 15; omega)
                · refine c_aload_n (j := 3) (x := a0) C dX11_emboss_89 rfl ?_
                  refine c_iload_n (j := 1) C dX11_emboss_90 rfl ?_
                  refine d_callV (As := [.int (iI s1)]) (rest := []) C hM (C_done (a0 := a0) (x := s1) W2 hS t_a0 (by omega) ) dX11_emboss_91 kV_X11_109 rfl t_a0 rfl rfl (by decide) ck_12 rfl (Nat.le_of_ble_eq_true rfl) ⟨(Nat.le_of_ble_eq_true rfl), (Nat.le_of_ble_eq_true rfl)⟩ hph hph (show 0 + 0 = 0 from rfl) (by decide) (fun rh5 Lh5 clh5 lnh5 ivh5 rvh5 h5 => ?_)
                  obtain ⟨f5, rfl, rfl, rfl, rfl, rfl, fl5, W6, rgf5, exf5, kp11f5, kp12f5, kp13f5, kp14f5, kp15f5, kp16f5⟩ := h5
                  have ri35 : 1 ≤ iv1 a0 12 ∧ iv1 a0 12 ≤ 50 := W2.int t_a0 12
                  have ie57 : iv1 a0 12 = ivb1 a0 12 := by rw [pq1]; exact up2_j (by decide)
                  have ri36 : (-2147483648) ≤ iv1 a0 13 ∧ iv1 a0 13 ≤ 2147483647 := W2.int t_a0 13
                  have ie59 : iv1 a0 13 = ivb1 a0 13 := by rw [pq1]; exact up2_j (by decide)
                  have ri37 : (-2147483648) ≤ iv1 a0 14 ∧ iv1 a0 14 ≤ 2147483647 := W2.int t_a0 14
                  have ie61 : iv1 a0 14 = ivb1 a0 14 := by rw [pq1]; exact up2_j (by decide)
                  have ri38 : (-2147483648) ≤ iv1 a0 15 ∧ iv1 a0 15 ≤ 2147483647 := W2.int t_a0 15
                  have ie63 : iv1 a0 15 = ivb1 a0 15 := by rw [pq1]; exact up2_j (by decide)
                  have ri39 : (-2147483648) ≤ iv1 a0 16 ∧ iv1 a0 16 ≤ 2147483647 := W2.int t_a0 16
                  have ie65 : iv1 a0 16 = zz1 := by rw [pq1]; exact up2_s
                  have F3 := F2.call hX0 fl5 rfl
                  refine c_st (st2 := [.int (iI f5)]) rfl ?_
                  have gk11f5 : ivh5 a0 11 = iv1 a0 11 := kp11f5
                  have gk12f5 : ivh5 a0 12 = iv1 a0 12 := kp12f5
                  have gk13f5 : ivh5 a0 13 = iv1 a0 13 := kp13f5
                  have gk14f5 : ivh5 a0 14 = iv1 a0 14 := kp14f5
                  have gk15f5 : ivh5 a0 15 = iv1 a0 15 := kp15f5
                  have gk16f5 : ivh5 a0 16 = iv1 a0 16 := kp16f5
                  have gf5 : f5 = s1 := exf5
                  have ri40 : 1 ≤ ivh5 a0 11 ∧ ivh5 a0 11 ≤ 100 := W6.int t_a0 11
                  have ri41 : 1 ≤ ivh5 a0 12 ∧ ivh5 a0 12 ≤ 50 := W6.int t_a0 12
                  have ri42 : (-2147483648) ≤ ivh5 a0 13 ∧ ivh5 a0 13 ≤ 2147483647 := W6.int t_a0 13
                  have ri43 : (-2147483648) ≤ ivh5 a0 14 ∧ ivh5 a0 14 ≤ 2147483647 := W6.int t_a0 14
                  have ri44 : (-2147483648) ≤ ivh5 a0 15 ∧ ivh5 a0 15 ≤ 2147483647 := W6.int t_a0 15
                  exact c_iret C dX11_emboss_94 rfl (by decide) (rom0 hph hph (by decide)) ⟨f5, rfl, rfl, rfl, rfl, rfl, F3, W6, ⟨by omega, by omega⟩, trivial, (by omega), (by omega), (by omega), (by omega), (by omega)⟩
            · subst oq1
              refine c_lv (lv2 := [(5, .null), (3, .int (iI s1)), (4, .int (iI k)), (0, .ref a0), (1, .int (iI i)), (2, .int (iI n))]) [0, 1, 2, 3, 4, 5] rfl ?_
              refine c_st (st2 := []) rfl ?_
              refine c_aload_n (j := 3) (x := a0) C dX11_emboss_63 rfl ?_
              refine c_iconst C dX11_emboss_64 ?_
              refine d_callV (As := [.int (iI 2)]) (rest := []) C hM (C_refuse (a0 := a0) (x := 2) W2 hS t_a0 ⟨by decide, by decide⟩ ) dX11_emboss_65 kV_X11_102 rfl t_a0 rfl rfl (by decide) ck_12 rfl (Nat.le_of_ble_eq_true rfl) ⟨(Nat.le_of_ble_eq_true rfl), (Nat.le_of_ble_eq_true rfl)⟩ hph hph (show 0 + 0 = 0 from rfl) (by decide) (fun rh6 Lh6 clh6 lnh6 ivh6 rvh6 h6 => ?_)
              obtain ⟨f6, rfl, rfl, rfl, rfl, rfl, fl6, W7, rgf6, exf6, kp11f6, kp12f6, kp13f6, kp14f6, kp15f6, kp16f6⟩ := h6
              have ri45 : 1 ≤ iv1 a0 11 ∧ iv1 a0 11 ≤ 100 := W2.int t_a0 11
              have ie71 : iv1 a0 11 = ivb1 a0 11 := by rw [pq1]; exact up2_j (by decide)
              have ri46 : 1 ≤ iv1 a0 12 ∧ iv1 a0 12 ≤ 50 := W2.int t_a0 12
              have ie73 : iv1 a0 12 = ivb1 a0 12 := by rw [pq1]; exact up2_j (by decide)
              have ri47 : (-2147483648) ≤ iv1 a0 13 ∧ iv1 a0 13 ≤ 2147483647 := W2.int t_a0 13
              have ie75 : iv1 a0 13 = ivb1 a0 13 := by rw [pq1]; exact up2_j (by decide)
              have ri48 : (-2147483648) ≤ iv1 a0 14 ∧ iv1 a0 14 ≤ 2147483647 := W2.int t_a0 14
              have ie77 : iv1 a0 14 = ivb1 a0 14 := by rw [pq1]; exact up2_j (by decide)
              have ri49 : (-2147483648) ≤ iv1 a0 15 ∧ iv1 a0 15 ≤ 2147483647 := W2.int t_a0 15
              have ie79 : iv1 a0 15 = ivb1 a0 15 := by rw [pq1]; exact up2_j (by decide)
              have ri50 : (-2147483648) ≤ iv1 a0 16 ∧ iv1 a0 16 ≤ 2147483647 := W2.int t_a0 16
              have ie81 : iv1 a0 16 = zz1 := by rw [pq1]; exact up2_s
              have F4 := F2.call hX0 fl6 rfl
              refine c_st (st2 := [.int (iI f6)]) rfl ?_
              have gk11f6 : ivh6 a0 11 = iv1 a0 11 := kp11f6
              have gk12f6 : ivh6 a0 12 = iv1 a0 12 := kp12f6
              have gk13f6 : ivh6 a0 13 = iv1 a0 13 := kp13f6
              have gk14f6 : ivh6 a0 14 = iv1 a0 14 := kp14f6
              have gk15f6 : ivh6 a0 15 = iv1 a0 15 := kp15f6
              have gk16f6 : ivh6 a0 16 = iv1 a0 16 := kp16f6
              have gf6 : f6 = -1 := exf6
              have ri51 : 1 ≤ ivh6 a0 11 ∧ ivh6 a0 11 ≤ 100 := W7.int t_a0 11
              have ri52 : 1 ≤ ivh6 a0 12 ∧ ivh6 a0 12 ≤ 50 := W7.int t_a0 12
              have ri53 : (-2147483648) ≤ ivh6 a0 13 ∧ ivh6 a0 13 ≤ 2147483647 := W7.int t_a0 13
              have ri54 : (-2147483648) ≤ ivh6 a0 14 ∧ ivh6 a0 14 ≤ 2147483647 := W7.int t_a0 14
              have ri55 : (-2147483648) ≤ ivh6 a0 15 ∧ ivh6 a0 15 ≤ 2147483647 := W7.int t_a0 15
              exact c_iret C dX11_emboss_68 rfl (by decide) (rom0 hph hph (by decide)) ⟨f6, rfl, rfl, rfl, rfl, rfl, F4, W7, ⟨by omega, by omega⟩, trivial, (by omega), (by omega), (by omega), (by omega), (by omega)⟩
      have ri56 : 1 ≤ iv a0 11 ∧ iv a0 11 ≤ 100 := hW.int t_a0 11
      have ri57 : 1 ≤ iv a0 12 ∧ iv a0 12 ≤ 50 := hW.int t_a0 12
      have ri58 : (-2147483648) ≤ iv a0 13 ∧ iv a0 13 ≤ 2147483647 := hW.int t_a0 13
      have ri59 : (-2147483648) ≤ iv a0 14 ∧ iv a0 14 ≤ 2147483647 := hW.int t_a0 14
      have ri60 : (-2147483648) ≤ iv a0 15 ∧ iv a0 15 ≤ 2147483647 := hW.int t_a0 15
      refine c_lv (lv2 := [(3, .int (iI 0)), (4, .int (iI 0)), (0, .ref a0), (1, .int (iI i)), (2, .int (iI n))]) [1, 0, 2, 3, 4] rfl ?_
      exact Lp1 203 0 0 _ (by omega) hW hF0  (by omega) (by omega) (by show iv a0 11 = iv a0 11; omega) (by show iv a0 12 = iv a0 12; omega) (by show iv a0 13 = iv a0 13; omega) (by show iv a0 14 = iv a0 14; omega) (by show iv a0 15 = iv a0 15; omega)
    · refine c_aload_n (j := 0) (x := a0) C dX11_emboss_18 rfl ?_
      refine c_iconst C dX11_emboss_19 ?_
      refine d_callV (As := [.int (iI 5)]) (rest := []) C hM (C_refuse (a0 := a0) (x := 5) hW hS t_a0 ⟨by decide, by decide⟩ ) dX11_emboss_20 kV_X11_102 rfl t_a0 rfl rfl (by decide) ck_12 rfl (Nat.le_of_ble_eq_true rfl) ⟨(Nat.le_of_ble_eq_true rfl), (Nat.le_of_ble_eq_true rfl)⟩ hph hph (show 0 + 0 = 0 from rfl) (by decide) (fun rh7 Lh7 clh7 lnh7 ivh7 rvh7 h7 => ?_)
      obtain ⟨f7, rfl, rfl, rfl, rfl, rfl, fl7, W8, rgf7, exf7, kp11f7, kp12f7, kp13f7, kp14f7, kp15f7, kp16f7⟩ := h7
      have ri61 : 1 ≤ iv a0 11 ∧ iv a0 11 ≤ 100 := hW.int t_a0 11
      have ri62 : 1 ≤ iv a0 12 ∧ iv a0 12 ≤ 50 := hW.int t_a0 12
      have ri63 : (-2147483648) ≤ iv a0 13 ∧ iv a0 13 ≤ 2147483647 := hW.int t_a0 13
      have ri64 : (-2147483648) ≤ iv a0 14 ∧ iv a0 14 ≤ 2147483647 := hW.int t_a0 14
      have ri65 : (-2147483648) ≤ iv a0 15 ∧ iv a0 15 ≤ 2147483647 := hW.int t_a0 15
      have ri66 : (-2147483648) ≤ iv a0 16 ∧ iv a0 16 ≤ 2147483647 := hW.int t_a0 16
      have F5 := hF0.call hX0 fl7 rfl
      refine c_st (st2 := [.int (iI f7)]) rfl ?_
      have gk11f7 : ivh7 a0 11 = iv a0 11 := kp11f7
      have gk12f7 : ivh7 a0 12 = iv a0 12 := kp12f7
      have gk13f7 : ivh7 a0 13 = iv a0 13 := kp13f7
      have gk14f7 : ivh7 a0 14 = iv a0 14 := kp14f7
      have gk15f7 : ivh7 a0 15 = iv a0 15 := kp15f7
      have gk16f7 : ivh7 a0 16 = iv a0 16 := kp16f7
      have gf7 : f7 = -1 := exf7
      have ri67 : 1 ≤ ivh7 a0 11 ∧ ivh7 a0 11 ≤ 100 := W8.int t_a0 11
      have ri68 : 1 ≤ ivh7 a0 12 ∧ ivh7 a0 12 ≤ 50 := W8.int t_a0 12
      have ri69 : (-2147483648) ≤ ivh7 a0 13 ∧ ivh7 a0 13 ≤ 2147483647 := W8.int t_a0 13
      have ri70 : (-2147483648) ≤ ivh7 a0 14 ∧ ivh7 a0 14 ≤ 2147483647 := W8.int t_a0 14
      have ri71 : (-2147483648) ≤ ivh7 a0 15 ∧ ivh7 a0 15 ≤ 2147483647 := W8.int t_a0 15
      exact c_iret C dX11_emboss_23 rfl (by decide) (rom0 hph hph (by decide)) ⟨f7, rfl, rfl, rfl, rfl, rfl, F5, W8, ⟨by omega, by omega⟩, trivial, (by omega), (by omega), (by omega), (by omega), (by omega)⟩
  · refine c_aload_n (j := 0) (x := a0) C dX11_emboss_7 rfl ?_
    refine c_bipush (z := 6) C dX11_emboss_8 (by decide) ?_
    refine d_callV (As := [.int (iI 6)]) (rest := []) C hM (C_refuse (a0 := a0) (x := 6) hW hS t_a0 ⟨by decide, by decide⟩ ) dX11_emboss_10 kV_X11_102 rfl t_a0 rfl rfl (by decide) ck_12 rfl (Nat.le_of_ble_eq_true rfl) ⟨(Nat.le_of_ble_eq_true rfl), (Nat.le_of_ble_eq_true rfl)⟩ hph hph (show 0 + 0 = 0 from rfl) (by decide) (fun rh8 Lh8 clh8 lnh8 ivh8 rvh8 h8 => ?_)
    obtain ⟨f8, rfl, rfl, rfl, rfl, rfl, fl8, W9, rgf8, exf8, kp11f8, kp12f8, kp13f8, kp14f8, kp15f8, kp16f8⟩ := h8
    have ri72 : 1 ≤ iv a0 11 ∧ iv a0 11 ≤ 100 := hW.int t_a0 11
    have ri73 : 1 ≤ iv a0 12 ∧ iv a0 12 ≤ 50 := hW.int t_a0 12
    have ri74 : (-2147483648) ≤ iv a0 13 ∧ iv a0 13 ≤ 2147483647 := hW.int t_a0 13
    have ri75 : (-2147483648) ≤ iv a0 14 ∧ iv a0 14 ≤ 2147483647 := hW.int t_a0 14
    have ri76 : (-2147483648) ≤ iv a0 15 ∧ iv a0 15 ≤ 2147483647 := hW.int t_a0 15
    have ri77 : (-2147483648) ≤ iv a0 16 ∧ iv a0 16 ≤ 2147483647 := hW.int t_a0 16
    have F6 := hF0.call hX0 fl8 rfl
    refine c_st (st2 := [.int (iI f8)]) rfl ?_
    have gk11f8 : ivh8 a0 11 = iv a0 11 := kp11f8
    have gk12f8 : ivh8 a0 12 = iv a0 12 := kp12f8
    have gk13f8 : ivh8 a0 13 = iv a0 13 := kp13f8
    have gk14f8 : ivh8 a0 14 = iv a0 14 := kp14f8
    have gk15f8 : ivh8 a0 15 = iv a0 15 := kp15f8
    have gk16f8 : ivh8 a0 16 = iv a0 16 := kp16f8
    have gf8 : f8 = -1 := exf8
    have ri78 : 1 ≤ ivh8 a0 11 ∧ ivh8 a0 11 ≤ 100 := W9.int t_a0 11
    have ri79 : 1 ≤ ivh8 a0 12 ∧ ivh8 a0 12 ≤ 50 := W9.int t_a0 12
    have ri80 : (-2147483648) ≤ ivh8 a0 13 ∧ ivh8 a0 13 ≤ 2147483647 := W9.int t_a0 13
    have ri81 : (-2147483648) ≤ ivh8 a0 14 ∧ ivh8 a0 14 ≤ 2147483647 := W9.int t_a0 14
    have ri82 : (-2147483648) ≤ ivh8 a0 15 ∧ ivh8 a0 15 ≤ 2147483647 := W9.int t_a0 15
    exact c_iret C dX11_emboss_13 rfl (by decide) (rom0 hph hph (by decide)) ⟨f8, rfl, rfl, rfl, rfl, rfl, F6, W9, ⟨by omega, by omega⟩, trivial, (by omega), (by omega), (by omega), (by omega), (by omega)⟩
set_option maxHeartbeats 4000000 in
set_option maxRecDepth 100000 in
theorem C_copied {l : Launch} {G : GT} {mi : Nat} {sk : Nat → Nat} {L : List Nat} {cl ln : Nat → Nat} {iv : Nat → Nat → Int} {rv : Nat → Nat → Option Nat}  {a0 : Nat} (hW : WT (g0 G) sk L cl ln iv rv) (hS : SKL sk L cl) (t_a0 : ty L cl a0 1)  : Mc l G mi (Phi (g0 G) sk) PHM yX11_copied cX11_copied 1 (some .int) 0 [.ref a0] L cl ln iv rv 0 (fun v L2 cl2 ln2 iv2 rv2 => ∃ f : Int, v = some (.int (iI f)) ∧ L = L2 ∧ cl = cl2 ∧ ln = ln2 ∧ iv = iv2 ∧ rv = rv2 ∧ (-2147483648 ≤ f ∧ f ≤ 2147483647) ∧ (True)) := by
  refine Mc.mk (by decide) (Nat.le_of_ble_eq_true rfl) ?_
  intro p e s m args below meth c A C hM
  have hph := Phi.le hW hS
  have hX0 : XT L cl ln L cl ln := XT.refl
  have hF0 : fT [] L cl iv rv iv rv := fT.refl
  refine c_aload_n (j := 0) (x := a0) C dX11_copied_0 rfl ?_
  have ri1 : (-2147483648) ≤ iv a0 15 ∧ iv a0 15 ≤ 2147483647 := hW.int t_a0 15
  refine c_get (k := 15) C ck_12 dX11_copied_1 w2_59 (by decide) t_a0 rfl rfl (by decide) rfl ?_
  exact c_iret C dX11_copied_4 rfl (by decide) (rom0 hph hph (by decide)) ⟨(iv a0 15), rfl, rfl, rfl, rfl, rfl, rfl, ⟨by omega, by omega⟩, trivial⟩
set_option maxHeartbeats 4000000 in
set_option maxRecDepth 100000 in
theorem C_closed {l : Launch} {G : GT} {mi : Nat} {sk : Nat → Nat} {L : List Nat} {cl ln : Nat → Nat} {iv : Nat → Nat → Int} {rv : Nat → Nat → Option Nat}  {a0 : Nat} (hW : WT (g0 G) sk L cl ln iv rv) (hS : SKL sk L cl) (t_a0 : ty L cl a0 1)  : Mc l G mi (Phi (g0 G) sk) PHM yX11_closed cX11_closed 1 (some .int) 0 [.ref a0] L cl ln iv rv 0 (fun v L2 cl2 ln2 iv2 rv2 => ∃ f : Int, v = some (.int (iI f)) ∧ L = L2 ∧ cl = cl2 ∧ ln = ln2 ∧ iv = iv2 ∧ rv = rv2 ∧ (-2147483648 ≤ f ∧ f ≤ 2147483647) ∧ (True)) := by
  refine Mc.mk (by decide) (Nat.le_of_ble_eq_true rfl) ?_
  intro p e s m args below meth c A C hM
  have hph := Phi.le hW hS
  have hX0 : XT L cl ln L cl ln := XT.refl
  have hF0 : fT [] L cl iv rv iv rv := fT.refl
  refine c_aload_n (j := 0) (x := a0) C dX11_closed_0 rfl ?_
  have ri1 : (-2147483648) ≤ iv a0 16 ∧ iv a0 16 ≤ 2147483647 := hW.int t_a0 16
  refine c_get (k := 16) C ck_12 dX11_closed_1 w2_60 (by decide) t_a0 rfl rfl (by decide) rfl ?_
  exact c_iret C dX11_closed_4 rfl (by decide) (rom0 hph hph (by decide)) ⟨(iv a0 16), rfl, rfl, rfl, rfl, rfl, rfl, ⟨by omega, by omega⟩, trivial⟩
set_option maxHeartbeats 4000000 in
set_option maxRecDepth 100000 in
theorem C_status {l : Launch} {G : GT} {mi : Nat} {sk : Nat → Nat} {L : List Nat} {cl ln : Nat → Nat} {iv : Nat → Nat → Int} {rv : Nat → Nat → Option Nat}  {a0 : Nat} (hW : WT (g0 G) sk L cl ln iv rv) (hS : SKL sk L cl) (t_a0 : ty L cl a0 1)  : Mc l G mi (Phi (g0 G) sk) PHM yX11_status cX11_status 1 (some .int) 0 [.ref a0] L cl ln iv rv 0 (fun v L2 cl2 ln2 iv2 rv2 => ∃ f : Int, v = some (.int (iI f)) ∧ L = L2 ∧ cl = cl2 ∧ ln = ln2 ∧ iv = iv2 ∧ rv = rv2 ∧ (-2147483648 ≤ f ∧ f ≤ 2147483647) ∧ (True)) := by
  refine Mc.mk (by decide) (Nat.le_of_ble_eq_true rfl) ?_
  intro p e s m args below meth c A C hM
  have hph := Phi.le hW hS
  have hX0 : XT L cl ln L cl ln := XT.refl
  have hF0 : fT [] L cl iv rv iv rv := fT.refl
  refine c_aload_n (j := 0) (x := a0) C dX11_status_0 rfl ?_
  have ri1 : (-2147483648) ≤ iv a0 17 ∧ iv a0 17 ≤ 2147483647 := hW.int t_a0 17
  refine c_get (k := 17) C ck_12 dX11_status_1 w2_61 (by decide) t_a0 rfl rfl (by decide) rfl ?_
  exact c_iret C dX11_status_4 rfl (by decide) (rom0 hph hph (by decide)) ⟨(iv a0 17), rfl, rfl, rfl, rfl, rfl, rfl, ⟨by omega, by omega⟩, trivial⟩
set_option maxHeartbeats 4000000 in
set_option maxRecDepth 100000 in
theorem C_place {l : Launch} {G : GT} {mi : Nat} {sk : Nat → Nat} {L : List Nat} {cl ln : Nat → Nat} {iv : Nat → Nat → Int} {rv : Nat → Nat → Option Nat}  {a0 : Nat} (hW : WT (g0 G) sk L cl ln iv rv) (hS : SKL sk L cl) (t_a0 : ty L cl a0 1)  : Mc l G mi (Phi (g0 G) sk) PHM yX11_place cX11_place 1 (some .int) 0 [.ref a0] L cl ln iv rv 0 (fun v L2 cl2 ln2 iv2 rv2 => ∃ f : Int, v = some (.int (iI f)) ∧ L = L2 ∧ cl = cl2 ∧ ln = ln2 ∧ iv = iv2 ∧ rv = rv2 ∧ (-2147483648 ≤ f ∧ f ≤ 2147483647) ∧ (True)) := by
  refine Mc.mk (by decide) (Nat.le_of_ble_eq_true rfl) ?_
  intro p e s m args below meth c A C hM
  have hph := Phi.le hW hS
  have hX0 : XT L cl ln L cl ln := XT.refl
  have hF0 : fT [] L cl iv rv iv rv := fT.refl
  refine c_aload_n (j := 0) (x := a0) C dX11_place_0 rfl ?_
  have ri1 : (-2147483648) ≤ iv a0 18 ∧ iv a0 18 ≤ 2147483647 := hW.int t_a0 18
  refine c_get (k := 18) C ck_12 dX11_place_1 w2_62 (by decide) t_a0 rfl rfl (by decide) rfl ?_
  exact c_iret C dX11_place_4 rfl (by decide) (rom0 hph hph (by decide)) ⟨(iv a0 18), rfl, rfl, rfl, rfl, rfl, rfl, ⟨by omega, by omega⟩, trivial⟩
set_option maxHeartbeats 4000000 in
set_option maxRecDepth 100000 in
theorem C_finds {l : Launch} {G : GT} {mi : Nat} {sk : Nat → Nat} {L : List Nat} {cl ln : Nat → Nat} {iv : Nat → Nat → Int} {rv : Nat → Nat → Option Nat}  {a0 : Nat} {i : Int} (hW : WT (g0 G) sk L cl ln iv rv) (hS : SKL sk L cl) (t_a0 : ty L cl a0 1) (h_i : -2147483648 ≤ i ∧ i ≤ 2147483647)  : Mc l G mi (Phi (g0 G) sk) PHM yX11_finds cX11_finds 2 (some .int) 1 [.ref a0, .int (iI i)] L cl ln iv rv 0 (fun v L2 cl2 ln2 iv2 rv2 => ∃ f : Int, v = some (.int (iI f)) ∧ L = L2 ∧ cl = cl2 ∧ ln = ln2 ∧ iv = iv2 ∧ rv = rv2 ∧ (-2147483648 ≤ f ∧ f ≤ 2147483647) ∧ (True)) := by
  refine Mc.mk (by decide) (Nat.le_of_ble_eq_true rfl) ?_
  intro p e s m args below meth c A C hM
  have hph := Phi.le hW hS
  have hX0 : XT L cl ln L cl ln := XT.refl
  have hF0 : fT [] L cl iv rv iv rv := fT.refl
  refine c_aload_n (j := 0) (x := a0) C dX11_finds_0 rfl ?_
  obtain ⟨rb1, rq1, trb1⟩ := hW.ref t_a0 6 rfl rfl rfl
  refine c_getr (k := 6) C ck_12 dX11_finds_1 w2_50 (by decide) t_a0 rfl rfl (by decide) rfl rq1 ?_
  refine c_st (st2 := [.ref rb1]) rfl ?_
  refine c_iload_n (j := 1) C dX11_finds_4 rfl ?_
  refine d_callV (As := [.int (iI i)]) (rest := []) C hM (C_findsOf (a0 := rb1) (i := i) hW hS trb1 (by omega) ) dX11_finds_5 kV_X11_413 rfl trb1 rfl rfl (by decide) ck_7 rfl (Nat.le_of_ble_eq_true rfl) ⟨(Nat.le_of_ble_eq_true rfl), (Nat.le_of_ble_eq_true rfl)⟩ hph hph (show 0 + 0 = 0 from rfl) (by decide) (fun rh1 Lh1 clh1 lnh1 ivh1 rvh1 h1 => ?_)
  obtain ⟨f1, rfl, rfl, rfl, rfl, rfl, rfl, rgf1, exf1⟩ := h1
  refine c_st (st2 := [.int (iI f1)]) rfl ?_
  exact c_iret C dX11_finds_8 rfl (by decide) (rom0 hph hph (by decide)) ⟨f1, rfl, rfl, rfl, rfl, rfl, rfl, ⟨by omega, by omega⟩, trivial⟩
