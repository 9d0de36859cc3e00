set_option maxHeartbeats 4000000 in
set_option maxRecDepth 100000 in
theorem C_addText {l : Launch} {G : GT} {mi : Nat} {sk : Nat → Nat} {L : List Nat} {cl ln : Nat → Nat} {iv : Nat → Nat → Int} {rv : Nat → Nat → Option Nat}  {a0 : Nat} (hW : WT (g0 G) sk L cl ln iv rv) (hS : SKL sk L cl) (t_a0 : ty L cl a0 1)  : Mc l G mi (Phi (g0 G) sk) PHM yX11_addText cX11_addText 3 (some .int) 4 [.ref a0] L cl ln iv rv 0 (fun v L2 cl2 ln2 iv2 rv2 => ∃ f : Int, v = some (.int (iI f)) ∧ XT L cl ln L2 cl2 ln2 ∧ fT [1, 3, 33] L cl iv rv iv2 rv2 ∧ WT (g0 G) sk L2 cl2 ln2 iv2 rv2 ∧ (-2147483648 ≤ f ∧ f ≤ 2147483647) ∧ (∀ ss, CT iv rv (sk 2) ss → ((f = -1 ∧ iv2 (sk 3) 2 = iv (sk 3) 2 ∧ ¬ (TOK ss (iv (sk 2) 2) ∧ iv (sk 3) 2 + iv (sk 2) 2 ≤ 500)) ∨ (f = iv2 (sk 3) 2 ∧ TOK ss (iv (sk 2) 2) ∧ iv (sk 3) 2 + iv (sk 2) 2 ≤ 500 ∧ ((iv (sk 2) 2 = 0 ∧ iv2 (sk 3) 2 = 0) ∨ (iv (sk 2) 2 ≠ 0 ∧ iv2 (sk 3) 2 = iv (sk 3) 2 + iv (sk 2) 2))))) ∧ iv2 a0 11 = iv a0 11 ∧ iv2 a0 12 = iv a0 12 ∧ iv2 a0 13 = iv a0 13 ∧ iv2 a0 14 = iv a0 14 ∧ iv2 a0 15 = iv a0 15 ∧ iv2 a0 16 = iv a0 16 ∧ (∀ ss tt, CT iv rv (sk 2) ss → CT iv rv (sk 3) tt → (f = -1 → CT iv2 rv2 (sk 3) tt) ∧ (f ≠ -1 → CT iv2 rv2 (sk 3) (apd tt (iv (sk 3) 2).toNat ss))) ∧ rv2 a0 9 = rv a0 9 ∧ rv2 a0 10 = rv a0 10) := by
  refine Mc.mk (by decide) (Nat.le_of_ble_eq_true rfl) ?_
  intro p e s m args below meth c A C hM
  have hph := Phi.le hW hS
  have tsk2 : ty L cl (sk 2) 2 := ⟨(hS 2 rfl).1, by rw [(hS 2 rfl).2]; rfl⟩
  have tsk3 : ty L cl (sk 3) 3 := ⟨(hS 3 rfl).1, by rw [(hS 3 rfl).2]; rfl⟩
  have tsk4 : ty L cl (sk 4) 4 := ⟨(hS 4 rfl).1, by rw [(hS 4 rfl).2]; rfl⟩
  have tsk5 : ty L cl (sk 5) 5 := ⟨(hS 5 rfl).1, by rw [(hS 5 rfl).2]; rfl⟩
  have tsk13 : ty L cl (sk 13) 13 := ⟨(hS 13 rfl).1, by rw [(hS 13 rfl).2]; rfl⟩
  have tsk14 : ty L cl (sk 14) 14 := ⟨(hS 14 rfl).1, by rw [(hS 14 rfl).2]; rfl⟩
  have tsk15 : ty L cl (sk 15) 15 := ⟨(hS 15 rfl).1, by rw [(hS 15 rfl).2]; rfl⟩
  have tsk16 : ty L cl (sk 16) 16 := ⟨(hS 16 rfl).1, by rw [(hS 16 rfl).2]; rfl⟩
  have tsk17 : ty L cl (sk 17) 17 := ⟨(hS 17 rfl).1, by rw [(hS 17 rfl).2]; rfl⟩
  have tsk22 : ty L cl (sk 22) 22 := ⟨(hS 22 rfl).1, by rw [(hS 22 rfl).2]; rfl⟩
  have tsk23 : ty L cl (sk 23) 23 := ⟨(hS 23 rfl).1, by rw [(hS 23 rfl).2]; rfl⟩
  have hX0 : XT L cl ln L cl ln := XT.refl
  have hF0 : fT [1, 3, 33] L cl iv rv iv rv := fT.refl
  have ri1 : 0 ≤ iv (sk 2) 2 ∧ iv (sk 2) 2 ≤ 3000 := hW.int tsk2 2
  have ri2 : 0 ≤ iv (sk 3) 2 ∧ iv (sk 3) 2 ≤ 500 := hW.int tsk3 2
  refine c_iconst C dX11_addText_0 ?_
  refine c_istore_n (lv2 := [(1, .int (iI 0)), (0, .ref a0)]) C dX11_addText_1 (by decide) rfl ?_
  have Lp1 : ∀ (nn : Nat) (k : Int) (Lb1 : List Nat) (clb1 lnb1 : Nat → Nat) (ivb1 : Nat → Nat → Int) (rvb1 : Nat → Nat → Option Nat) , 3001 - k < (nn : Int) → XT L cl ln Lb1 clb1 lnb1 → WT (g0 G) sk Lb1 clb1 lnb1 ivb1 rvb1 → fT [1, 3, 33] L cl iv rv ivb1 rvb1 → (0 ≤ k ∧ k ≤ 3000) → (ivb1 (sk 3) 2 = iv (sk 3) 2) → (∀ ss, CT iv rv (sk 2) ss → TOK ss k) → (∀ tt, CT iv rv (sk 3) tt → CT ivb1 rvb1 (sk 3) tt) → (ivb1 a0 11 = iv a0 11) → (ivb1 a0 12 = iv a0 12) → (ivb1 a0 13 = iv a0 13) → (ivb1 a0 14 = iv a0 14) → (ivb1 a0 15 = iv a0 15) → (ivb1 a0 16 = iv a0 16) → (rvb1 a0 9 = rv a0 9) → (rvb1 a0 10 = rv a0 10) → cw p l e 4 ((PHM) + 0 - ((Phi (g0 G) sk) ln rv)) s m args below meth c G A 3 (MQ below (Qu G A (Qp G (Phi (g0 G) sk) ((Phi (g0 G) sk) ln rv) 0 (fun v L2 cl2 ln2 iv2 rv2 => ∃ f : Int, v = some (.int (iI f)) ∧ XT L cl ln L2 cl2 ln2 ∧ fT [1, 3, 33] L cl iv rv iv2 rv2 ∧ WT (g0 G) sk L2 cl2 ln2 iv2 rv2 ∧ (-2147483648 ≤ f ∧ f ≤ 2147483647) ∧ (∀ ss, CT iv rv (sk 2) ss → ((f = -1 ∧ iv2 (sk 3) 2 = iv (sk 3) 2 ∧ ¬ (TOK ss (iv (sk 2) 2) ∧ iv (sk 3) 2 + iv (sk 2) 2 ≤ 500)) ∨ (f = iv2 (sk 3) 2 ∧ TOK ss (iv (sk 2) 2) ∧ iv (sk 3) 2 + iv (sk 2) 2 ≤ 500 ∧ ((iv (sk 2) 2 = 0 ∧ iv2 (sk 3) 2 = 0) ∨ (iv (sk 2) 2 ≠ 0 ∧ iv2 (sk 3) 2 = iv (sk 3) 2 + iv (sk 2) 2))))) ∧ iv2 a0 11 = iv a0 11 ∧ iv2 a0 12 = iv a0 12 ∧ iv2 a0 13 = iv a0 13 ∧ iv2 a0 14 = iv a0 14 ∧ iv2 a0 15 = iv a0 15 ∧ iv2 a0 16 = iv a0 16 ∧ (∀ ss tt, CT iv rv (sk 2) ss → CT iv rv (sk 3) tt → (f = -1 → CT iv2 rv2 (sk 3) tt) ∧ (f ≠ -1 → CT iv2 rv2 (sk 3) (apd tt (iv (sk 3) 2).toNat ss))) ∧ rv2 a0 9 = rv a0 9 ∧ rv2 a0 10 = rv a0 10))) args s (((PHM) + 0 - ((Phi (g0 G) sk) ln rv)) / 16) ((PHM) + 0 - ((Phi (g0 G) sk) ln rv)) A) (Phi (g0 G) sk) ((Phi (g0 G) sk) ln rv) Lb1 clb1 lnb1 ivb1 rvb1 0 2 [(1, .int (iI k)), (0, .ref a0)] [] := by
    intro nn
    induction nn with
    | zero =>
      intro  k Lb1 clb1 lnb1 ivb1 rvb1 hm Xb1 Wb1 Fb1  hk h33 htk hc3 hkp11 hkp12 hkp13 hkp14 hkp15 hkp16 hkr9 hkr10
      have skb1 := Xb1.skl hS
      exact absurd hm (by omega)
    | succ nn ih1 =>
      intro  k Lb1 clb1 lnb1 ivb1 rvb1 hm Xb1 Wb1 Fb1  hk h33 htk hc3 hkp11 hkp12 hkp13 hkp14 hkp15 hkp16 hkr9 hkr10
      have skb1 := Xb1.skl hS
      refine c_iload_n (j := 0) C dX11_addText_2 rfl ?_
      refine c_aload_n (j := 1) (x := a0) C dX11_addText_3 rfl ?_
      have ty1 := Xb1.ty t_a0
      obtain ⟨rb1, rq1, trb1⟩ := Wb1.ref ty1 0 rfl rfl rfl
      have erb1 := Wb1.sk trb1 (by decide) rfl
      subst erb1
      refine c_getr (k := 0) C ck_12 dX11_addText_4 w2_44 (by decide) ty1 rfl rfl (by decide) rfl rq1 ?_
      refine c_st (st2 := [.ref (sk 2), .int (iI k)]) rfl ?_
      have ty2 := Xb1.ty tsk2
      have ri3 : 0 ≤ ivb1 (sk 2) 2 ∧ ivb1 (sk 2) 2 ≤ 3000 := Wb1.int ty2 2
      have ie1 : ivb1 (sk 2) 2 = iv (sk 2) 2 := Fb1.i tsk2 rfl 2
      refine c_get (k := 2) C ck_2 dX11_addText_7 w1_44 (by decide) ty2 rfl rfl (by decide) rfl ?_
      refine c_icmp_ge (tgt := 53) C ⟨by omega, by omega⟩ ⟨by omega, by omega⟩ dX11_addText_10 (by decide) (fun c1 => ?_) (fun c1 => ?_)
      · refine c_aload_n (j := 1) (x := a0) C dX11_addText_53 rfl ?_
        obtain ⟨rb2, rq2, trb2⟩ := Wb1.ref ty1 1 rfl rfl rfl
        have erb2 := Wb1.sk trb2 (by decide) rfl
        subst erb2
        refine c_getr (k := 1) C ck_12 dX11_addText_54 w2_45 (by decide) ty1 rfl rfl (by decide) rfl rq2 ?_
        refine c_st (st2 := [.ref (sk 3)]) rfl ?_
        have ty3 := Xb1.ty tsk3
        have ri4 : 0 ≤ ivb1 (sk 3) 2 ∧ ivb1 (sk 3) 2 ≤ 500 := Wb1.int ty3 2
        refine c_get (k := 2) C ck_2 dX11_addText_57 w1_44 (by decide) ty3 rfl rfl (by decide) rfl ?_
        refine c_aload_n (j := 1) (x := a0) C dX11_addText_60 rfl ?_
        refine c_getr (k := 0) C ck_12 dX11_addText_61 w2_44 (by decide) ty1 rfl rfl (by decide) rfl rq1 ?_
        refine c_st (st2 := [.ref (sk 2), .int (iI (ivb1 (sk 3) 2))]) rfl ?_
        refine c_get (k := 2) C ck_2 dX11_addText_64 w1_44 (by decide) ty2 rfl rfl (by decide) rfl ?_
        refine c_iadd C dX11_addText_67 ?_
        refine c_sipush (z := 500) C dX11_addText_68 (by decide) ?_
        refine c_icmp_le (tgt := 81) C ⟨by omega, by omega⟩ ⟨by decide, by decide⟩ dX11_addText_71 (by decide) (fun c2 => ?_) (fun c2 => ?_)
        · refine c_aload_n (j := 1) (x := a0) C dX11_addText_81 rfl ?_
          refine c_getr (k := 0) C ck_12 dX11_addText_82 w2_44 (by decide) ty1 rfl rfl (by decide) rfl rq1 ?_
          refine c_st (st2 := [.ref (sk 2)]) rfl ?_
          refine c_get (k := 2) C ck_2 dX11_addText_85 w1_44 (by decide) ty2 rfl rfl (by decide) rfl ?_
          refine c_if_ne (tgt := 98) C ⟨by omega, by omega⟩ dX11_addText_88 (by decide) (fun c3 => ?_) (fun c3 => ?_)
          · refine c_aload_n (j := 1) (x := a0) C dX11_addText_98 rfl ?_
            refine c_getr (k := 1) C ck_12 dX11_addText_99 w2_45 (by decide) ty1 rfl rfl (by decide) rfl rq2 ?_
            refine c_st (st2 := [.ref (sk 3)]) rfl ?_
            refine c_aload_n (j := 1) (x := a0) C dX11_addText_102 rfl ?_
            refine c_getr (k := 0) C ck_12 dX11_addText_103 w2_44 (by decide) ty1 rfl rfl (by decide) rfl rq1 ?_
            refine c_st (st2 := [.ref (sk 2), .ref (sk 3)]) rfl ?_
            have pl1 := Phi.le Wb1 skb1
            refine d_callV (As := [.ref (sk 2)]) (rest := []) C hM (C_addAll_3 (a0 := (sk 3)) (a1 := (sk 2)) Wb1 skb1 ty3 ty2  ) dX11_addText_106 kV_X11_227 rfl ty3 rfl rfl (by decide) ck_2 rfl (Nat.le_of_ble_eq_true rfl) ⟨(Nat.le_of_ble_eq_true rfl), (Nat.le_of_ble_eq_true rfl)⟩ hph pl1 (show 0 + 0 = 0 from rfl) (by decide) (fun rh1 Lh1 clh1 lnh1 ivh1 rvh1 h1 => ?_)
            obtain ⟨rfl, xl1, fl1, W1, exf1⟩ := h1
            have F1 := Fb1.call Xb1 fl1 rfl
            have ty4 := Xb1.ty tsk4
            have ty5 := Xb1.ty tsk5
            have ty6 := Xb1.ty tsk13
            have ty7 := Xb1.ty tsk14
            have ty8 := Xb1.ty tsk15
            have ty9 := Xb1.ty tsk16
            have ty10 := Xb1.ty tsk17
            have ty11 := Xb1.ty tsk22
            have ty12 := Xb1.ty tsk23
            have X1 := Xb1.trans xl1
            have sk1 := xl1.skl skb1
            refine c_st (st2 := []) rfl ?_
            have ty13 := xl1.ty ty3
            have ri5 : 0 ≤ ivh1 (sk 3) 2 ∧ ivh1 (sk 3) 2 ≤ 500 := W1.int ty13 2
            have gf1 : ivh1 (sk 3) 2 = min (ivb1 (sk 3) 2 + ivb1 (sk 2) 2) 500 ∧ APD ivb1 rvb1 (sk 3) (sk 2) ivh1 rvh1 := exf1
            refine c_aload_n (j := 1) (x := a0) C dX11_addText_109 rfl ?_
            refine c_aload_n (j := 1) (x := a0) C dX11_addText_110 rfl ?_
            have ty14 := xl1.ty ty1
            have re1 : rvh1 a0 1 = rvb1 a0 1 := (fl1.r ty1 rfl 1)
            rw [rq2] at re1
            refine c_getr (k := 1) C ck_12 dX11_addText_111 w2_45 (by decide) ty14 rfl rfl (by decide) rfl re1 ?_
            refine c_st (st2 := [.ref (sk 3), .ref a0]) rfl ?_
            refine c_get (k := 2) C ck_2 dX11_addText_114 w1_44 (by decide) ty13 rfl rfl (by decide) rfl ?_
            have pl2 := Phi.le W1 sk1
            refine d_callV (As := [.int (iI (ivh1 (sk 3) 2))]) (rest := []) C hM (C_done (a0 := a0) (x := ivh1 (sk 3) 2) W1 sk1 ty14 (by omega) ) dX11_addText_117 kV_X11_109 rfl ty14 rfl rfl (by decide) ck_12 rfl (Nat.le_of_ble_eq_true rfl) ⟨(Nat.le_of_ble_eq_true rfl), (Nat.le_of_ble_eq_true rfl)⟩ hph pl2 (show 0 + 0 = 0 from rfl) (by decide) (fun rh2 Lh2 clh2 lnh2 ivh2 rvh2 h2 => ?_)
            obtain ⟨f2, rfl, rfl, rfl, rfl, rfl, fl2, W2, rgf2, exf2, kp11f2, kp12f2, kp13f2, kp14f2, kp15f2, kp16f2⟩ := h2
            have ri6 : 1 ≤ ivh1 a0 11 ∧ ivh1 a0 11 ≤ 100 := W1.int ty14 11
            have ie4 : ivh1 a0 11 = ivb1 a0 11 := fl1.i ty1 rfl 11
            have ri7 : 1 ≤ ivh1 a0 12 ∧ ivh1 a0 12 ≤ 50 := W1.int ty14 12
            have ie6 : ivh1 a0 12 = ivb1 a0 12 := fl1.i ty1 rfl 12
            have ri8 : (-2147483648) ≤ ivh1 a0 13 ∧ ivh1 a0 13 ≤ 2147483647 := W1.int ty14 13
            have ie8 : ivh1 a0 13 = ivb1 a0 13 := fl1.i ty1 rfl 13
            have ri9 : (-2147483648) ≤ ivh1 a0 14 ∧ ivh1 a0 14 ≤ 2147483647 := W1.int ty14 14
            have ie10 : ivh1 a0 14 = ivb1 a0 14 := fl1.i ty1 rfl 14
            have ri10 : (-2147483648) ≤ ivh1 a0 15 ∧ ivh1 a0 15 ≤ 2147483647 := W1.int ty14 15
            have ie12 : ivh1 a0 15 = ivb1 a0 15 := fl1.i ty1 rfl 15
            have ri11 : (-2147483648) ≤ ivh1 a0 16 ∧ ivh1 a0 16 ≤ 2147483647 := W1.int ty14 16
            have ie14 : ivh1 a0 16 = ivb1 a0 16 := fl1.i ty1 rfl 16
            have F2 := F1.call X1 fl2 rfl
            refine c_st (st2 := [.int (iI f2)]) rfl ?_
            have gk11f2 : ivh2 a0 11 = ivh1 a0 11 := kp11f2
            have gk12f2 : ivh2 a0 12 = ivh1 a0 12 := kp12f2
            have gk13f2 : ivh2 a0 13 = ivh1 a0 13 := kp13f2
            have gk14f2 : ivh2 a0 14 = ivh1 a0 14 := kp14f2
            have gk15f2 : ivh2 a0 15 = ivh1 a0 15 := kp15f2
            have gk16f2 : ivh2 a0 16 = ivh1 a0 16 := kp16f2
            have gf2 : f2 = (ivh1 (sk 3) 2) := exf2
            have ri12 : 1 ≤ ivh2 a0 11 ∧ ivh2 a0 11 ≤ 100 := W2.int ty14 11
            have ri13 : 1 ≤ ivh2 a0 12 ∧ ivh2 a0 12 ≤ 50 := W2.int ty14 12
            have ri14 : (-2147483648) ≤ ivh2 a0 13 ∧ ivh2 a0 13 ≤ 2147483647 := W2.int ty14 13
            have ri15 : (-2147483648) ≤ ivh2 a0 14 ∧ ivh2 a0 14 ≤ 2147483647 := W2.int ty14 14
            have ri16 : (-2147483648) ≤ ivh2 a0 15 ∧ ivh2 a0 15 ≤ 2147483647 := W2.int ty14 15
            have ri17 : (-2147483648) ≤ ivh2 a0 16 ∧ ivh2 a0 16 ≤ 2147483647 := W2.int ty14 16
            have ri18 : 0 ≤ ivh2 (sk 3) 2 ∧ ivh2 (sk 3) 2 ≤ 500 := W2.int ty13 2
            have ie22 : ivh2 (sk 3) 2 = ivh1 (sk 3) 2 := fl2.i ty13 rfl 2
            have ty15 := xl1.ty ty2
            have ri19 : 0 ≤ ivh2 (sk 2) 2 ∧ ivh2 (sk 2) 2 ≤ 3000 := W2.int ty15 2
            have ie23 : ivh2 (sk 2) 2 = ivh1 (sk 2) 2 := fl2.i ty15 rfl 2
            have ie24 : ivh1 (sk 2) 2 = ivb1 (sk 2) 2 := fl1.i ty2 rfl 2
            exact c_iret C dX11_addText_120 rfl (by decide) (rom0 hph pl2 (by decide)) ⟨f2, rfl, X1, F2, W2, ⟨by omega, by omega⟩, (fun ss hs => Or.inr ⟨by omega, fun j hj => htk ss hs j (by omega), by omega, by omega⟩), (by omega), (by omega), (by omega), (by omega), (by omega), (by omega), (fun ss tt hs ht => ⟨fun q => absurd q (by omega), fun _ => by
                have q := gf1.2 ss tt (CT.fr hs hW tsk2 Fb1 rfl rfl rfl rfl rfl) (hc3 tt ht) (by omega)
                rw [show ivb1 (sk 3) 2 = iv (sk 3) 2 by omega] at q
                exact CT.fr (q) W1 ty13 fl2 rfl rfl rfl rfl rfl⟩), (Eq.trans (show rvh1 a0 9 = rvb1 a0 9 from (fl1.r ty1 rfl 9)) (show rvb1 a0 9 = rv a0 9 from hkr9)), (Eq.trans (show rvh1 a0 10 = rvb1 a0 10 from (fl1.r ty1 rfl 10)) (show rvb1 a0 10 = rv a0 10 from hkr10))⟩
          · refine c_aload_n (j := 1) (x := a0) C dX11_addText_91 rfl ?_
            refine c_getr (k := 1) C ck_12 dX11_addText_92 w2_45 (by decide) ty1 rfl rfl (by decide) rfl rq2 ?_
            refine c_st (st2 := [.ref (sk 3)]) rfl ?_
            have pl3 := Phi.le Wb1 skb1
            refine d_callV (As := []) (rest := []) C hM (C_clear_3 (a0 := (sk 3)) Wb1 skb1 ty3  ) dX11_addText_95 kV_X11_164 rfl ty3 rfl rfl (by decide) ck_2 rfl (Nat.le_of_ble_eq_true rfl) ⟨(Nat.le_of_ble_eq_true rfl), (Nat.le_of_ble_eq_true rfl)⟩ hph pl3 (show 0 + 0 = 0 from rfl) (by decide) (fun rh3 Lh3 clh3 lnh3 ivh3 rvh3 h3 => ?_)
            obtain ⟨rfl, rfl, rfl, rfl, rfl, fl3, W3, exf3⟩ := h3
            have F3 := Fb1.call Xb1 fl3 rfl
            refine c_st (st2 := []) rfl ?_
            have ri20 : 0 ≤ ivh3 (sk 3) 2 ∧ ivh3 (sk 3) 2 ≤ 500 := W3.int ty3 2
            have gf3 : ivh3 (sk 3) 2 = 0 := exf3
            refine c_aload_n (j := 1) (x := a0) C dX11_addText_98 rfl ?_
            refine c_getr (k := 1) C ck_12 dX11_addText_99 w2_45 (by decide) ty1 rfl rfl (by decide) rfl rq2 ?_
            refine c_st (st2 := [.ref (sk 3)]) rfl ?_
            refine c_aload_n (j := 1) (x := a0) C dX11_addText_102 rfl ?_
            refine c_getr (k := 0) C ck_12 dX11_addText_103 w2_44 (by decide) ty1 rfl rfl (by decide) rfl rq1 ?_
            refine c_st (st2 := [.ref (sk 2), .ref (sk 3)]) rfl ?_
            have ri21 : 0 ≤ ivh3 (sk 2) 2 ∧ ivh3 (sk 2) 2 ≤ 3000 := W3.int ty2 2
            have ie26 : ivh3 (sk 2) 2 = ivb1 (sk 2) 2 := fl3.i ty2 rfl 2
            refine d_callV (As := [.ref (sk 2)]) (rest := []) C hM (C_addAll_3 (a0 := (sk 3)) (a1 := (sk 2)) W3 skb1 ty3 ty2  ) dX11_addText_106 kV_X11_227 rfl ty3 rfl rfl (by decide) ck_2 rfl (Nat.le_of_ble_eq_true rfl) ⟨(Nat.le_of_ble_eq_true rfl), (Nat.le_of_ble_eq_true rfl)⟩ hph pl3 (show 0 + 0 = 0 from rfl) (by decide) (fun rh4 Lh4 clh4 lnh4 ivh4 rvh4 h4 => ?_)
            obtain ⟨rfl, xl4, fl4, W4, exf4⟩ := h4
            have F4 := F3.call Xb1 fl4 rfl
            have ty16 := Xb1.ty tsk4
            have ty17 := Xb1.ty tsk5
            have ty18 := Xb1.ty tsk13
            have ty19 := Xb1.ty tsk14
            have ty20 := Xb1.ty tsk15
            have ty21 := Xb1.ty tsk16
            have ty22 := Xb1.ty tsk17
            have ty23 := Xb1.ty tsk22
            have ty24 := Xb1.ty tsk23
            have X2 := Xb1.trans xl4
            have sk2 := xl4.skl skb1
            refine c_st (st2 := []) rfl ?_
            have ty25 := xl4.ty ty3
            have ri22 : 0 ≤ ivh4 (sk 3) 2 ∧ ivh4 (sk 3) 2 ≤ 500 := W4.int ty25 2
            have gf4 : ivh4 (sk 3) 2 = min (ivh3 (sk 3) 2 + ivh3 (sk 2) 2) 500 ∧ APD ivh3 rvb1 (sk 3) (sk 2) ivh4 rvh4 := exf4
            refine c_aload_n (j := 1) (x := a0) C dX11_addText_109 rfl ?_
            refine c_aload_n (j := 1) (x := a0) C dX11_addText_110 rfl ?_
            have ty26 := xl4.ty ty1
            have re2 : rvh4 a0 1 = rvb1 a0 1 := (fl4.r ty1 rfl 1)
            rw [rq2] at re2
            refine c_getr (k := 1) C ck_12 dX11_addText_111 w2_45 (by decide) ty26 rfl rfl (by decide) rfl re2 ?_
            refine c_st (st2 := [.ref (sk 3), .ref a0]) rfl ?_
            refine c_get (k := 2) C ck_2 dX11_addText_114 w1_44 (by decide) ty25 rfl rfl (by decide) rfl ?_
            have pl4 := Phi.le W4 sk2
            refine d_callV (As := [.int (iI (ivh4 (sk 3) 2))]) (rest := []) C hM (C_done (a0 := a0) (x := ivh4 (sk 3) 2) W4 sk2 ty26 (by omega) ) dX11_addText_117 kV_X11_109 rfl ty26 rfl rfl (by decide) ck_12 rfl (Nat.le_of_ble_eq_true rfl) ⟨(Nat.le_of_ble_eq_true rfl), (Nat.le_of_ble_eq_true rfl)⟩ hph pl4 (show 0 + 0 = 0 from rfl) (by decide) (fun rh5 Lh5 clh5 lnh5 ivh5 rvh5 h5 => ?_)
            obtain ⟨f5, rfl, rfl, rfl, rfl, rfl, fl5, W5, rgf5, exf5, kp11f5, kp12f5, kp13f5, kp14f5, kp15f5, kp16f5⟩ := h5
            have ri23 : 1 ≤ ivh4 a0 11 ∧ ivh4 a0 11 ≤ 100 := W4.int ty26 11
            have ie28 : ivh4 a0 11 = ivh3 a0 11 := fl4.i ty1 rfl 11
            have ie29 : ivh3 a0 11 = ivb1 a0 11 := fl3.i ty1 rfl 11
            have ri24 : 1 ≤ ivh4 a0 12 ∧ ivh4 a0 12 ≤ 50 := W4.int ty26 12
            have ie31 : ivh4 a0 12 = ivh3 a0 12 := fl4.i ty1 rfl 12
            have ie32 : ivh3 a0 12 = ivb1 a0 12 := fl3.i ty1 rfl 12
            have ri25 : (-2147483648) ≤ ivh4 a0 13 ∧ ivh4 a0 13 ≤ 2147483647 := W4.int ty26 13
            have ie34 : ivh4 a0 13 = ivh3 a0 13 := fl4.i ty1 rfl 13
            have ie35 : ivh3 a0 13 = ivb1 a0 13 := fl3.i ty1 rfl 13
            have ri26 : (-2147483648) ≤ ivh4 a0 14 ∧ ivh4 a0 14 ≤ 2147483647 := W4.int ty26 14
            have ie37 : ivh4 a0 14 = ivh3 a0 14 := fl4.i ty1 rfl 14
            have ie38 : ivh3 a0 14 = ivb1 a0 14 := fl3.i ty1 rfl 14
            have ri27 : (-2147483648) ≤ ivh4 a0 15 ∧ ivh4 a0 15 ≤ 2147483647 := W4.int ty26 15
            have ie40 : ivh4 a0 15 = ivh3 a0 15 := fl4.i ty1 rfl 15
            have ie41 : ivh3 a0 15 = ivb1 a0 15 := fl3.i ty1 rfl 15
            have ri28 : (-2147483648) ≤ ivh4 a0 16 ∧ ivh4 a0 16 ≤ 2147483647 := W4.int ty26 16
            have ie43 : ivh4 a0 16 = ivh3 a0 16 := fl4.i ty1 rfl 16
            have ie44 : ivh3 a0 16 = ivb1 a0 16 := fl3.i ty1 rfl 16
            have F5 := F4.call X2 fl5 rfl
            refine c_st (st2 := [.int (iI f5)]) rfl ?_
            have gk11f5 : ivh5 a0 11 = ivh4 a0 11 := kp11f5
            have gk12f5 : ivh5 a0 12 = ivh4 a0 12 := kp12f5
            have gk13f5 : ivh5 a0 13 = ivh4 a0 13 := kp13f5
            have gk14f5 : ivh5 a0 14 = ivh4 a0 14 := kp14f5
            have gk15f5 : ivh5 a0 15 = ivh4 a0 15 := kp15f5
            have gk16f5 : ivh5 a0 16 = ivh4 a0 16 := kp16f5
            have gf5 : f5 = (ivh4 (sk 3) 2) := exf5
            have ri29 : 1 ≤ ivh5 a0 11 ∧ ivh5 a0 11 ≤ 100 := W5.int ty26 11
            have ri30 : 1 ≤ ivh5 a0 12 ∧ ivh5 a0 12 ≤ 50 := W5.int ty26 12
            have ri31 : (-2147483648) ≤ ivh5 a0 13 ∧ ivh5 a0 13 ≤ 2147483647 := W5.int ty26 13
            have ri32 : (-2147483648) ≤ ivh5 a0 14 ∧ ivh5 a0 14 ≤ 2147483647 := W5.int ty26 14
            have ri33 : (-2147483648) ≤ ivh5 a0 15 ∧ ivh5 a0 15 ≤ 2147483647 := W5.int ty26 15
            have ri34 : (-2147483648) ≤ ivh5 a0 16 ∧ ivh5 a0 16 ≤ 2147483647 := W5.int ty26 16
            have ri35 : 0 ≤ ivh5 (sk 3) 2 ∧ ivh5 (sk 3) 2 ≤ 500 := W5.int ty25 2
            have ie52 : ivh5 (sk 3) 2 = ivh4 (sk 3) 2 := fl5.i ty25 rfl 2
            have ty27 := xl4.ty ty2
            have ri36 : 0 ≤ ivh5 (sk 2) 2 ∧ ivh5 (sk 2) 2 ≤ 3000 := W5.int ty27 2
            have ie53 : ivh5 (sk 2) 2 = ivh4 (sk 2) 2 := fl5.i ty27 rfl 2
            have ie54 : ivh4 (sk 2) 2 = ivh3 (sk 2) 2 := fl4.i ty2 rfl 2
            exact c_iret C dX11_addText_120 rfl (by decide) (rom0 hph pl4 (by decide)) ⟨f5, rfl, X2, F5, W5, ⟨by omega, by omega⟩, (fun ss hs => Or.inr ⟨by omega, fun j hj => htk ss hs j (by omega), by omega, by omega⟩), (by omega), (by omega), (by omega), (by omega), (by omega), (by omega), (fun ss tt hs ht => ⟨fun q => absurd q (by omega), fun _ => CT.zero (by omega)⟩), (Eq.trans (show rvh4 a0 9 = rvb1 a0 9 from (fl4.r ty1 rfl 9)) (show rvb1 a0 9 = rv a0 9 from hkr9)), (Eq.trans (show rvh4 a0 10 = rvb1 a0 10 from (fl4.r ty1 rfl 10)) (show rvb1 a0 10 = rv a0 10 from hkr10))⟩
        · refine c_aload_n (j := 1) (x := a0) C dX11_addText_74 rfl ?_
          refine c_bipush (z := 6) C dX11_addText_75 (by decide) ?_
          have pl5 := Phi.le Wb1 skb1
          refine d_callV (As := [.int (iI 6)]) (rest := []) C hM (C_refuse (a0 := a0) (x := 6) Wb1 skb1 ty1 ⟨by decide, by decide⟩ ) dX11_addText_77 kV_X11_102 rfl ty1 rfl rfl (by decide) ck_12 rfl (Nat.le_of_ble_eq_true rfl) ⟨(Nat.le_of_ble_eq_true rfl), (Nat.le_of_ble_eq_true rfl)⟩ hph pl5 (show 0 + 0 = 0 from rfl) (by decide) (fun rh6 Lh6 clh6 lnh6 ivh6 rvh6 h6 => ?_)
          obtain ⟨f6, rfl, rfl, rfl, rfl, rfl, fl6, W6, rgf6, exf6, kp11f6, kp12f6, kp13f6, kp14f6, kp15f6, kp16f6⟩ := h6
          have ri37 : 1 ≤ ivb1 a0 11 ∧ ivb1 a0 11 ≤ 100 := Wb1.int ty1 11
          have ri38 : 1 ≤ ivb1 a0 12 ∧ ivb1 a0 12 ≤ 50 := Wb1.int ty1 12
          have ri39 : (-2147483648) ≤ ivb1 a0 13 ∧ ivb1 a0 13 ≤ 2147483647 := Wb1.int ty1 13
          have ri40 : (-2147483648) ≤ ivb1 a0 14 ∧ ivb1 a0 14 ≤ 2147483647 := Wb1.int ty1 14
          have ri41 : (-2147483648) ≤ ivb1 a0 15 ∧ ivb1 a0 15 ≤ 2147483647 := Wb1.int ty1 15
          have ri42 : (-2147483648) ≤ ivb1 a0 16 ∧ ivb1 a0 16 ≤ 2147483647 := Wb1.int ty1 16
          have F6 := Fb1.call Xb1 fl6 rfl
          refine c_st (st2 := [.int (iI f6)]) rfl ?_
          have gk11f6 : ivh6 a0 11 = ivb1 a0 11 := kp11f6
          have gk12f6 : ivh6 a0 12 = ivb1 a0 12 := kp12f6
          have gk13f6 : ivh6 a0 13 = ivb1 a0 13 := kp13f6
          have gk14f6 : ivh6 a0 14 = ivb1 a0 14 := kp14f6
          have gk15f6 : ivh6 a0 15 = ivb1 a0 15 := kp15f6
          have gk16f6 : ivh6 a0 16 = ivb1 a0 16 := kp16f6
          have gf6 : f6 = -1 := exf6
          have ri43 : 1 ≤ ivh6 a0 11 ∧ ivh6 a0 11 ≤ 100 := W6.int ty1 11
          have ri44 : 1 ≤ ivh6 a0 12 ∧ ivh6 a0 12 ≤ 50 := W6.int ty1 12
          have ri45 : (-2147483648) ≤ ivh6 a0 13 ∧ ivh6 a0 13 ≤ 2147483647 := W6.int ty1 13
          have ri46 : (-2147483648) ≤ ivh6 a0 14 ∧ ivh6 a0 14 ≤ 2147483647 := W6.int ty1 14
          have ri47 : (-2147483648) ≤ ivh6 a0 15 ∧ ivh6 a0 15 ≤ 2147483647 := W6.int ty1 15
          have ri48 : (-2147483648) ≤ ivh6 a0 16 ∧ ivh6 a0 16 ≤ 2147483647 := W6.int ty1 16
          have ri49 : 0 ≤ ivh6 (sk 3) 2 ∧ ivh6 (sk 3) 2 ≤ 500 := W6.int ty3 2
          have ie67 : ivh6 (sk 3) 2 = ivb1 (sk 3) 2 := fl6.i ty3 rfl 2
          have ri50 : 0 ≤ ivh6 (sk 2) 2 ∧ ivh6 (sk 2) 2 ≤ 3000 := W6.int ty2 2
          have ie68 : ivh6 (sk 2) 2 = ivb1 (sk 2) 2 := fl6.i ty2 rfl 2
          exact c_iret C dX11_addText_80 rfl (by decide) (rom0 hph pl5 (by decide)) ⟨f6, rfl, Xb1, F6, W6, ⟨by omega, by omega⟩, (fun ss hs => Or.inl ⟨by omega, by omega, fun q => absurd q.2 (by omega)⟩), (by omega), (by omega), (by omega), (by omega), (by omega), (by omega), (fun ss tt hs ht => ⟨fun _ => CT.fr (hc3 tt ht) Wb1 ty3 fl6 rfl rfl rfl rfl rfl, fun q => absurd (by omega) q⟩), (show rvb1 a0 9 = rv a0 9 from hkr9), (show rvb1 a0 10 = rv a0 10 from hkr10)⟩
      · refine c_aload_n (j := 1) (x := a0) C dX11_addText_13 rfl ?_
        refine c_getr (k := 0) C ck_12 dX11_addText_14 w2_44 (by decide) ty1 rfl rfl (by decide) rfl rq1 ?_
        refine c_st (st2 := [.ref (sk 2)]) rfl ?_
        refine c_iload_n (j := 0) C dX11_addText_17 rfl ?_
        have pl6 := Phi.le Wb1 skb1
        refine d_callV (As := [.int (iI k)]) (rest := []) C hM (C_at_2 (a0 := (sk 2)) (i := k) Wb1 skb1 ty2 (by omega) ) dX11_addText_18 kV_X11_224 rfl ty2 rfl rfl (by decide) ck_2 rfl (Nat.le_of_ble_eq_true rfl) ⟨(Nat.le_of_ble_eq_true rfl), (Nat.le_of_ble_eq_true rfl)⟩ hph pl6 (show 0 + 0 = 0 from rfl) (by decide) (fun rh7 Lh7 clh7 lnh7 ivh7 rvh7 h7 => ?_)
        obtain ⟨f7, rfl, rfl, rfl, rfl, rfl, rfl, rgf7, exf7⟩ := h7
        refine c_st (st2 := [.int (iI f7)]) rfl ?_
        have gf7 : ((0 ≤ k ∧ k < ivb1 (sk 2) 2) ∨ f7 = 0) ∧ ∀ ss, CT ivb1 rvb1 (sk 2) ss → 0 ≤ k → k < ivb1 (sk 2) 2 → f7 = ss k.toNat := exf7
        refine c_istore_n (lv2 := [(2, .int (iI f7)), (1, .int (iI k)), (0, .ref a0)]) C dX11_addText_21 (by decide) rfl ?_
        refine c_iload_n (j := 0) C dX11_addText_22 rfl ?_
        refine c_bipush (z := 10) C dX11_addText_23 (by decide) ?_
        refine c_icmp_eq (tgt := 47) C ⟨by omega, by omega⟩ ⟨by decide, by decide⟩ dX11_addText_25 (by decide) (fun c4 => ?_) (fun c4 => ?_)
        · refine c_iinc (z := k) (j := 1) (lv2 := [(1, .int (iI (k + 1))), (2, .int (iI f7)), (0, .ref a0)]) C dX11_addText_47 rfl (by decide) rfl ?_
          refine c_goto (tgt := 2) C dX11_addText_50 (by decide) ?_
          have ty28 := Xb1.ty tsk3
          have ri51 : 0 ≤ ivb1 (sk 3) 2 ∧ ivb1 (sk 3) 2 ≤ 500 := Wb1.int ty28 2
          have ri52 : 1 ≤ ivb1 a0 11 ∧ ivb1 a0 11 ≤ 100 := Wb1.int ty1 11
          have ri53 : 1 ≤ ivb1 a0 12 ∧ ivb1 a0 12 ≤ 50 := Wb1.int ty1 12
          have ri54 : (-2147483648) ≤ ivb1 a0 13 ∧ ivb1 a0 13 ≤ 2147483647 := Wb1.int ty1 13
          have ri55 : (-2147483648) ≤ ivb1 a0 14 ∧ ivb1 a0 14 ≤ 2147483647 := Wb1.int ty1 14
          have ri56 : (-2147483648) ≤ ivb1 a0 15 ∧ ivb1 a0 15 ≤ 2147483647 := Wb1.int ty1 15
          have ri57 : (-2147483648) ≤ ivb1 a0 16 ∧ ivb1 a0 16 ≤ 2147483647 := Wb1.int ty1 16
          refine c_lv (lv2 := [(1, .int (iI (k + 1))), (0, .ref a0)]) [0, 2] rfl ?_
          exact ih1  (k + 1) _ _ _ _ _ (by omega) Xb1 Wb1 Fb1  (by omega) (by show ivb1 (sk 3) 2 = iv (sk 3) 2; omega) (fun ss hs => TOK.snoc (htk ss hs) (by omega) (by have e := gf7.2 ss (CT.fr hs hW tsk2 Fb1 rfl rfl rfl rfl rfl) (by omega) (by omega); rw [← e]; omega)) hc3 (by show ivb1 a0 11 = iv a0 11; omega) (by show ivb1 a0 12 = iv a0 12; omega) (by show ivb1 a0 13 = iv a0 13; omega) (by show ivb1 a0 14 = iv a0 14; omega) (by show ivb1 a0 15 = iv a0 15; omega) (by show ivb1 a0 16 = iv a0 16; omega) (show rvb1 a0 9 = rv a0 9 from hkr9) (show rvb1 a0 10 = rv a0 10 from hkr10)
        · refine c_iload_n (j := 0) C dX11_addText_28 rfl ?_
          refine c_bipush (z := 32) C dX11_addText_29 (by decide) ?_
          refine c_icmp_lt (tgt := 40) C ⟨by omega, by omega⟩ ⟨by decide, by decide⟩ dX11_addText_31 (by decide) (fun c5 => ?_) (fun c5 => ?_)
          · refine c_aload_n (j := 2) (x := a0) C dX11_addText_40 rfl ?_
            refine c_bipush (z := 6) C dX11_addText_41 (by decide) ?_
            have ty29 := Xb1.ty tsk3
            refine d_callV (As := [.int (iI 6)]) (rest := []) C hM (C_refuse (a0 := a0) (x := 6) Wb1 skb1 ty1 ⟨by decide, by decide⟩ ) dX11_addText_43 kV_X11_102 rfl ty1 rfl rfl (by decide) ck_12 rfl (Nat.le_of_ble_eq_true rfl) ⟨(Nat.le_of_ble_eq_true rfl), (Nat.le_of_ble_eq_true rfl)⟩ hph pl6 (show 0 + 0 = 0 from rfl) (by decide) (fun rh8 Lh8 clh8 lnh8 ivh8 rvh8 h8 => ?_)
            obtain ⟨f8, rfl, rfl, rfl, rfl, rfl, fl8, W8, rgf8, exf8, kp11f8, kp12f8, kp13f8, kp14f8, kp15f8, kp16f8⟩ := h8
            have ri58 : 1 ≤ ivb1 a0 11 ∧ ivb1 a0 11 ≤ 100 := Wb1.int ty1 11
            have ri59 : 1 ≤ ivb1 a0 12 ∧ ivb1 a0 12 ≤ 50 := Wb1.int ty1 12
            have ri60 : (-2147483648) ≤ ivb1 a0 13 ∧ ivb1 a0 13 ≤ 2147483647 := Wb1.int ty1 13
            have ri61 : (-2147483648) ≤ ivb1 a0 14 ∧ ivb1 a0 14 ≤ 2147483647 := Wb1.int ty1 14
            have ri62 : (-2147483648) ≤ ivb1 a0 15 ∧ ivb1 a0 15 ≤ 2147483647 := Wb1.int ty1 15
            have ri63 : (-2147483648) ≤ ivb1 a0 16 ∧ ivb1 a0 16 ≤ 2147483647 := Wb1.int ty1 16
            have F7 := Fb1.call Xb1 fl8 rfl
            refine c_st (st2 := [.int (iI f8)]) rfl ?_
            have gk11f8 : ivh8 a0 11 = ivb1 a0 11 := kp11f8
            have gk12f8 : ivh8 a0 12 = ivb1 a0 12 := kp12f8
            have gk13f8 : ivh8 a0 13 = ivb1 a0 13 := kp13f8
            have gk14f8 : ivh8 a0 14 = ivb1 a0 14 := kp14f8
            have gk15f8 : ivh8 a0 15 = ivb1 a0 15 := kp15f8
            have gk16f8 : ivh8 a0 16 = ivb1 a0 16 := kp16f8
            have gf8 : f8 = -1 := exf8
            have ri64 : 1 ≤ ivh8 a0 11 ∧ ivh8 a0 11 ≤ 100 := W8.int ty1 11
            have ri65 : 1 ≤ ivh8 a0 12 ∧ ivh8 a0 12 ≤ 50 := W8.int ty1 12
            have ri66 : (-2147483648) ≤ ivh8 a0 13 ∧ ivh8 a0 13 ≤ 2147483647 := W8.int ty1 13
            have ri67 : (-2147483648) ≤ ivh8 a0 14 ∧ ivh8 a0 14 ≤ 2147483647 := W8.int ty1 14
            have ri68 : (-2147483648) ≤ ivh8 a0 15 ∧ ivh8 a0 15 ≤ 2147483647 := W8.int ty1 15
            have ri69 : (-2147483648) ≤ ivh8 a0 16 ∧ ivh8 a0 16 ≤ 2147483647 := W8.int ty1 16
            have ri70 : 0 ≤ ivh8 (sk 3) 2 ∧ ivh8 (sk 3) 2 ≤ 500 := W8.int ty29 2
            have ie88 : ivh8 (sk 3) 2 = ivb1 (sk 3) 2 := fl8.i ty29 rfl 2
            have ri71 : 0 ≤ ivh8 (sk 2) 2 ∧ ivh8 (sk 2) 2 ≤ 3000 := W8.int ty2 2
            have ie90 : ivh8 (sk 2) 2 = ivb1 (sk 2) 2 := fl8.i ty2 rfl 2
            exact c_iret C dX11_addText_46 rfl (by decide) (rom0 hph pl6 (by decide)) ⟨f8, rfl, Xb1, F7, W8, ⟨by omega, by omega⟩, (fun ss hs => Or.inl ⟨by omega, by omega, fun q => absurd (q.1 k.toNat (by omega)) (by have e := gf7.2 ss (CT.fr hs hW tsk2 Fb1 rfl rfl rfl rfl rfl) (by omega) (by omega); rw [← e]; omega)⟩), (by omega), (by omega), (by omega), (by omega), (by omega), (by omega), (fun ss tt hs ht => ⟨fun _ => CT.fr (hc3 tt ht) Wb1 ty29 fl8 rfl rfl rfl rfl rfl, fun q => absurd (by omega) q⟩), (show rvb1 a0 9 = rv a0 9 from hkr9), (show rvb1 a0 10 = rv a0 10 from hkr10)⟩
          · refine c_iload_n (j := 0) C dX11_addText_34 rfl ?_
            refine c_bipush (z := 126) C dX11_addText_35 (by decide) ?_
            refine c_icmp_le (tgt := 47) C ⟨by omega, by omega⟩ ⟨by decide, by decide⟩ dX11_addText_37 (by decide) (fun c6 => ?_) (fun c6 => ?_)
            · refine c_iinc (z := k) (j := 1) (lv2 := [(1, .int (iI (k + 1))), (2, .int (iI f7)), (0, .ref a0)]) C dX11_addText_47 rfl (by decide) rfl ?_
              refine c_goto (tgt := 2) C dX11_addText_50 (by decide) ?_
              have ty30 := Xb1.ty tsk3
              have ri72 : 0 ≤ ivb1 (sk 3) 2 ∧ ivb1 (sk 3) 2 ≤ 500 := Wb1.int ty30 2
              have ri73 : 1 ≤ ivb1 a0 11 ∧ ivb1 a0 11 ≤ 100 := Wb1.int ty1 11
              have ri74 : 1 ≤ ivb1 a0 12 ∧ ivb1 a0 12 ≤ 50 := Wb1.int ty1 12
              have ri75 : (-2147483648) ≤ ivb1 a0 13 ∧ ivb1 a0 13 ≤ 2147483647 := Wb1.int ty1 13
              have ri76 : (-2147483648) ≤ ivb1 a0 14 ∧ ivb1 a0 14 ≤ 2147483647 := Wb1.int ty1 14
              have ri77 : (-2147483648) ≤ ivb1 a0 15 ∧ ivb1 a0 15 ≤ 2147483647 := Wb1.int ty1 15
              have ri78 : (-2147483648) ≤ ivb1 a0 16 ∧ ivb1 a0 16 ≤ 2147483647 := Wb1.int ty1 16
              refine c_lv (lv2 := [(1, .int (iI (k + 1))), (0, .ref a0)]) [0, 2] rfl ?_
              exact ih1  (k + 1) _ _ _ _ _ (by omega) Xb1 Wb1 Fb1  (by omega) (by show ivb1 (sk 3) 2 = iv (sk 3) 2; omega) (fun ss hs => TOK.snoc (htk ss hs) (by omega) (by have e := gf7.2 ss (CT.fr hs hW tsk2 Fb1 rfl rfl rfl rfl rfl) (by omega) (by omega); rw [← e]; omega)) hc3 (by show ivb1 a0 11 = iv a0 11; omega) (by show ivb1 a0 12 = iv a0 12; omega) (by show ivb1 a0 13 = iv a0 13; omega) (by show ivb1 a0 14 = iv a0 14; omega) (by show ivb1 a0 15 = iv a0 15; omega) (by show ivb1 a0 16 = iv a0 16; omega) (show rvb1 a0 9 = rv a0 9 from hkr9) (show rvb1 a0 10 = rv a0 10 from hkr10)
            · refine c_aload_n (j := 2) (x := a0) C dX11_addText_40 rfl ?_
              refine c_bipush (z := 6) C dX11_addText_41 (by decide) ?_
              have ty31 := Xb1.ty tsk3
              refine d_callV (As := [.int (iI 6)]) (rest := []) C hM (C_refuse (a0 := a0) (x := 6) Wb1 skb1 ty1 ⟨by decide, by decide⟩ ) dX11_addText_43 kV_X11_102 rfl ty1 rfl rfl (by decide) ck_12 rfl (Nat.le_of_ble_eq_true rfl) ⟨(Nat.le_of_ble_eq_true rfl), (Nat.le_of_ble_eq_true rfl)⟩ hph pl6 (show 0 + 0 = 0 from rfl) (by decide) (fun rh9 Lh9 clh9 lnh9 ivh9 rvh9 h9 => ?_)
              obtain ⟨f9, rfl, rfl, rfl, rfl, rfl, fl9, W9, rgf9, exf9, kp11f9, kp12f9, kp13f9, kp14f9, kp15f9, kp16f9⟩ := h9
              have ri79 : 1 ≤ ivb1 a0 11 ∧ ivb1 a0 11 ≤ 100 := Wb1.int ty1 11
              have ri80 : 1 ≤ ivb1 a0 12 ∧ ivb1 a0 12 ≤ 50 := Wb1.int ty1 12
              have ri81 : (-2147483648) ≤ ivb1 a0 13 ∧ ivb1 a0 13 ≤ 2147483647 := Wb1.int ty1 13
              have ri82 : (-2147483648) ≤ ivb1 a0 14 ∧ ivb1 a0 14 ≤ 2147483647 := Wb1.int ty1 14
              have ri83 : (-2147483648) ≤ ivb1 a0 15 ∧ ivb1 a0 15 ≤ 2147483647 := Wb1.int ty1 15
              have ri84 : (-2147483648) ≤ ivb1 a0 16 ∧ ivb1 a0 16 ≤ 2147483647 := Wb1.int ty1 16
              have F8 := Fb1.call Xb1 fl9 rfl
              refine c_st (st2 := [.int (iI f9)]) rfl ?_
              have gk11f9 : ivh9 a0 11 = ivb1 a0 11 := kp11f9
              have gk12f9 : ivh9 a0 12 = ivb1 a0 12 := kp12f9
              have gk13f9 : ivh9 a0 13 = ivb1 a0 13 := kp13f9
              have gk14f9 : ivh9 a0 14 = ivb1 a0 14 := kp14f9
              have gk15f9 : ivh9 a0 15 = ivb1 a0 15 := kp15f9
              have gk16f9 : ivh9 a0 16 = ivb1 a0 16 := kp16f9
              have gf9 : f9 = -1 := exf9
              have ri85 : 1 ≤ ivh9 a0 11 ∧ ivh9 a0 11 ≤ 100 := W9.int ty1 11
              have ri86 : 1 ≤ ivh9 a0 12 ∧ ivh9 a0 12 ≤ 50 := W9.int ty1 12
              have ri87 : (-2147483648) ≤ ivh9 a0 13 ∧ ivh9 a0 13 ≤ 2147483647 := W9.int ty1 13
              have ri88 : (-2147483648) ≤ ivh9 a0 14 ∧ ivh9 a0 14 ≤ 2147483647 := W9.int ty1 14
              have ri89 : (-2147483648) ≤ ivh9 a0 15 ∧ ivh9 a0 15 ≤ 2147483647 := W9.int ty1 15
              have ri90 : (-2147483648) ≤ ivh9 a0 16 ∧ ivh9 a0 16 ≤ 2147483647 := W9.int ty1 16
              have ri91 : 0 ≤ ivh9 (sk 3) 2 ∧ ivh9 (sk 3) 2 ≤ 500 := W9.int ty31 2
              have ie110 : ivh9 (sk 3) 2 = ivb1 (sk 3) 2 := fl9.i ty31 rfl 2
              have ri92 : 0 ≤ ivh9 (sk 2) 2 ∧ ivh9 (sk 2) 2 ≤ 3000 := W9.int ty2 2
              have ie112 : ivh9 (sk 2) 2 = ivb1 (sk 2) 2 := fl9.i ty2 rfl 2
              exact c_iret C dX11_addText_46 rfl (by decide) (rom0 hph pl6 (by decide)) ⟨f9, rfl, Xb1, F8, W9, ⟨by omega, by omega⟩, (fun ss hs => Or.inl ⟨by omega, by omega, fun q => absurd (q.1 k.toNat (by omega)) (by have e := gf7.2 ss (CT.fr hs hW tsk2 Fb1 rfl rfl rfl rfl rfl) (by omega) (by omega); rw [← e]; omega)⟩), (by omega), (by omega), (by omega), (by omega), (by omega), (by omega), (fun ss tt hs ht => ⟨fun _ => CT.fr (hc3 tt ht) Wb1 ty31 fl9 rfl rfl rfl rfl rfl, fun q => absurd (by omega) q⟩), (show rvb1 a0 9 = rv a0 9 from hkr9), (show rvb1 a0 10 = rv a0 10 from hkr10)⟩
  have ri93 : 1 ≤ iv a0 11 ∧ iv a0 11 ≤ 100 := hW.int t_a0 11
  have ri94 : 1 ≤ iv a0 12 ∧ iv a0 12 ≤ 50 := hW.int t_a0 12
  have ri95 : (-2147483648) ≤ iv a0 13 ∧ iv a0 13 ≤ 2147483647 := hW.int t_a0 13
  have ri96 : (-2147483648) ≤ iv a0 14 ∧ iv a0 14 ≤ 2147483647 := hW.int t_a0 14
  have ri97 : (-2147483648) ≤ iv a0 15 ∧ iv a0 15 ≤ 2147483647 := hW.int t_a0 15
  have ri98 : (-2147483648) ≤ iv a0 16 ∧ iv a0 16 ≤ 2147483647 := hW.int t_a0 16
  refine c_lv (lv2 := [(1, .int (iI 0)), (0, .ref a0)]) [0, 1] rfl ?_
  exact Lp1 3003 0 _ _ _ _ _ (by omega) hX0 hW hF0  (by omega) (by show iv (sk 3) 2 = iv (sk 3) 2; omega) (fun ss hs => TOK.zero) (fun tt ht => ht) (by show iv a0 11 = iv a0 11; omega) (by show iv a0 12 = iv a0 12; omega) (by show iv a0 13 = iv a0 13; omega) (by show iv a0 14 = iv a0 14; omega) (by show iv a0 15 = iv a0 15; omega) (by show iv a0 16 = iv a0 16; omega) rfl rfl
set_option maxHeartbeats 4000000 in
set_option maxRecDepth 100000 in
theorem C_text {l : Launch} {G : GT} {mi : Nat} {sk : Nat → Nat} {L : List Nat} {cl ln : Nat → Nat} {iv : Nat → Nat → Int} {rv : Nat → Nat → Option Nat}  {a0 : Nat} (hW : WT (g0 G) sk L cl ln iv rv) (hS : SKL sk L cl) (t_a0 : ty L cl a0 1)  : Mc l G mi (Phi (g0 G) sk) PHM yX11_text cX11_text 2 (some .int) 5 [.ref a0] L cl ln iv rv 0 (fun v L2 cl2 ln2 iv2 rv2 => ∃ f : Int, v = some (.int (iI f)) ∧ XT L cl ln L2 cl2 ln2 ∧ fT [1, 2, 3, 33] L cl iv rv iv2 rv2 ∧ WT (g0 G) sk L2 cl2 ln2 iv2 rv2 ∧ (-2147483648 ≤ f ∧ f ≤ 2147483647) ∧ (∀ ss, CT iv rv (sk 2) ss → ((f = -1 ∧ iv2 (sk 3) 2 = iv (sk 3) 2 ∧ ¬ (TOK ss (iv (sk 2) 2) ∧ iv (sk 3) 2 + iv (sk 2) 2 ≤ 500)) ∨ (f = iv2 (sk 3) 2 ∧ TOK ss (iv (sk 2) 2) ∧ iv (sk 3) 2 + iv (sk 2) 2 ≤ 500 ∧ ((iv (sk 2) 2 = 0 ∧ iv2 (sk 3) 2 = 0) ∨ (iv (sk 2) 2 ≠ 0 ∧ iv2 (sk 3) 2 = iv (sk 3) 2 + iv (sk 2) 2))))) ∧ iv2 a0 11 = iv a0 11 ∧ iv2 a0 12 = iv a0 12 ∧ iv2 a0 13 = iv a0 13 ∧ iv2 a0 14 = iv a0 14 ∧ iv2 a0 15 = iv a0 15 ∧ iv2 a0 16 = iv a0 16 ∧ iv2 (sk 2) 2 = 0 ∧ (∀ ss tt, CT iv rv (sk 2) ss → CT iv rv (sk 3) tt → (f = -1 → CT iv2 rv2 (sk 3) tt) ∧ (f ≠ -1 → CT iv2 rv2 (sk 3) (apd tt (iv (sk 3) 2).toNat ss))) ∧ rv2 a0 9 = rv a0 9 ∧ rv2 a0 10 = rv a0 10) := by
  refine Mc.mk (by decide) (Nat.le_of_ble_eq_true rfl) ?_
  intro p e s m args below meth c A C hM
  have hph := Phi.le hW hS
  have tsk2 : ty L cl (sk 2) 2 := ⟨(hS 2 rfl).1, by rw [(hS 2 rfl).2]; rfl⟩
  have tsk3 : ty L cl (sk 3) 3 := ⟨(hS 3 rfl).1, by rw [(hS 3 rfl).2]; rfl⟩
  have tsk4 : ty L cl (sk 4) 4 := ⟨(hS 4 rfl).1, by rw [(hS 4 rfl).2]; rfl⟩
  have tsk5 : ty L cl (sk 5) 5 := ⟨(hS 5 rfl).1, by rw [(hS 5 rfl).2]; rfl⟩
  have tsk13 : ty L cl (sk 13) 13 := ⟨(hS 13 rfl).1, by rw [(hS 13 rfl).2]; rfl⟩
  have tsk14 : ty L cl (sk 14) 14 := ⟨(hS 14 rfl).1, by rw [(hS 14 rfl).2]; rfl⟩
  have tsk15 : ty L cl (sk 15) 15 := ⟨(hS 15 rfl).1, by rw [(hS 15 rfl).2]; rfl⟩
  have tsk16 : ty L cl (sk 16) 16 := ⟨(hS 16 rfl).1, by rw [(hS 16 rfl).2]; rfl⟩
  have tsk17 : ty L cl (sk 17) 17 := ⟨(hS 17 rfl).1, by rw [(hS 17 rfl).2]; rfl⟩
  have tsk22 : ty L cl (sk 22) 22 := ⟨(hS 22 rfl).1, by rw [(hS 22 rfl).2]; rfl⟩
  have tsk23 : ty L cl (sk 23) 23 := ⟨(hS 23 rfl).1, by rw [(hS 23 rfl).2]; rfl⟩
  have hX0 : XT L cl ln L cl ln := XT.refl
  have hF0 : fT [1, 2, 3, 33] L cl iv rv iv rv := fT.refl
  refine c_aload_n (j := 0) (x := a0) C dX11_text_0 rfl ?_
  have ri1 : 0 ≤ iv (sk 3) 2 ∧ iv (sk 3) 2 ≤ 500 := hW.int tsk3 2
  have ri2 : 0 ≤ iv (sk 2) 2 ∧ iv (sk 2) 2 ≤ 3000 := hW.int tsk2 2
  refine d_callV (As := []) (rest := []) C hM (C_addText (a0 := a0) hW hS t_a0  ) dX11_text_1 kV_X11_221 rfl t_a0 rfl rfl (by decide) ck_12 rfl (Nat.le_of_ble_eq_true rfl) ⟨(Nat.le_of_ble_eq_true rfl), (Nat.le_of_ble_eq_true rfl)⟩ hph hph (show 0 + 0 = 0 from rfl) (by decide) (fun rh1 Lh1 clh1 lnh1 ivh1 rvh1 h1 => ?_)
  obtain ⟨f1, rfl, xl1, fl1, W1, rgf1, exf1, kp11f1, kp12f1, kp13f1, kp14f1, kp15f1, kp16f1, txkf1, kr9f1, kr10f1⟩ := h1
  have ri3 : 1 ≤ iv a0 11 ∧ iv a0 11 ≤ 100 := hW.int t_a0 11
  have ri4 : 1 ≤ iv a0 12 ∧ iv a0 12 ≤ 50 := hW.int t_a0 12
  have ri5 : (-2147483648) ≤ iv a0 13 ∧ iv a0 13 ≤ 2147483647 := hW.int t_a0 13
  have ri6 : (-2147483648) ≤ iv a0 14 ∧ iv a0 14 ≤ 2147483647 := hW.int t_a0 14
  have ri7 : (-2147483648) ≤ iv a0 15 ∧ iv a0 15 ≤ 2147483647 := hW.int t_a0 15
  have ri8 : (-2147483648) ≤ iv a0 16 ∧ iv a0 16 ≤ 2147483647 := hW.int t_a0 16
  have F1 := hF0.call hX0 fl1 rfl
  have X1 := hX0.trans xl1
  have sk1 := xl1.skl hS
  refine c_st (st2 := [.int (iI f1)]) rfl ?_
  have gk11f1 : ivh1 a0 11 = iv a0 11 := kp11f1
  have gk12f1 : ivh1 a0 12 = iv a0 12 := kp12f1
  have gk13f1 : ivh1 a0 13 = iv a0 13 := kp13f1
  have gk14f1 : ivh1 a0 14 = iv a0 14 := kp14f1
  have gk15f1 : ivh1 a0 15 = iv a0 15 := kp15f1
  have gk16f1 : ivh1 a0 16 = iv a0 16 := kp16f1
  have ty1 := xl1.ty tsk3
  have ri9 : 0 ≤ ivh1 (sk 3) 2 ∧ ivh1 (sk 3) 2 ≤ 500 := W1.int ty1 2
  have gf1 : ∀ ss, CT iv rv (sk 2) ss → ((f1 = -1 ∧ ivh1 (sk 3) 2 = iv (sk 3) 2 ∧ ¬ (TOK ss (iv (sk 2) 2) ∧ iv (sk 3) 2 + iv (sk 2) 2 ≤ 500)) ∨ (f1 = ivh1 (sk 3) 2 ∧ TOK ss (iv (sk 2) 2) ∧ iv (sk 3) 2 + iv (sk 2) 2 ≤ 500 ∧ ((iv (sk 2) 2 = 0 ∧ ivh1 (sk 3) 2 = 0) ∨ (iv (sk 2) 2 ≠ 0 ∧ ivh1 (sk 3) 2 = iv (sk 3) 2 + iv (sk 2) 2)))) := exf1
  refine c_istore_n (lv2 := [(1, .int (iI f1)), (0, .ref a0)]) C dX11_text_4 (by decide) rfl ?_
  refine c_aload_n (j := 1) (x := a0) C dX11_text_5 rfl ?_
  have ty2 := xl1.ty t_a0
  obtain ⟨rb1, rq1, trb1⟩ := W1.ref ty2 0 rfl rfl rfl
  have erb1 := W1.sk trb1 (by decide) rfl
  subst erb1
  refine c_getr (k := 0) C ck_12 dX11_text_6 w2_44 (by decide) ty2 rfl rfl (by decide) rfl rq1 ?_
  refine c_st (st2 := [.ref (sk 2)]) rfl ?_
  have ty3 := xl1.ty tsk2
  have pl1 := Phi.le W1 sk1
  refine d_callV (As := []) (rest := []) C hM (C_clear_2 (a0 := (sk 2)) W1 sk1 ty3  ) dX11_text_9 kV_X11_164 rfl ty3 rfl rfl (by decide) ck_2 rfl (Nat.le_of_ble_eq_true rfl) ⟨(Nat.le_of_ble_eq_true rfl), (Nat.le_of_ble_eq_true rfl)⟩ hph pl1 (show 0 + 0 = 0 from rfl) (by decide) (fun rh2 Lh2 clh2 lnh2 ivh2 rvh2 h2 => ?_)
  obtain ⟨rfl, rfl, rfl, rfl, rfl, fl2, W2, exf2⟩ := h2
  have F2 := F1.call X1 fl2 rfl
  refine c_st (st2 := []) rfl ?_
  have ri10 : 0 ≤ ivh2 (sk 2) 2 ∧ ivh2 (sk 2) 2 ≤ 3000 := W2.int ty3 2
  have gf2 : ivh2 (sk 2) 2 = 0 := exf2
  refine c_iload_n (j := 0) C dX11_text_12 rfl ?_
  have ri11 : 1 ≤ ivh2 a0 11 ∧ ivh2 a0 11 ≤ 100 := W2.int ty2 11
  have ie3 : ivh2 a0 11 = ivh1 a0 11 := fl2.i ty2 rfl 11
  have ri12 : 1 ≤ ivh2 a0 12 ∧ ivh2 a0 12 ≤ 50 := W2.int ty2 12
  have ie5 : ivh2 a0 12 = ivh1 a0 12 := fl2.i ty2 rfl 12
  have ri13 : (-2147483648) ≤ ivh2 a0 13 ∧ ivh2 a0 13 ≤ 2147483647 := W2.int ty2 13
  have ie7 : ivh2 a0 13 = ivh1 a0 13 := fl2.i ty2 rfl 13
  have ri14 : (-2147483648) ≤ ivh2 a0 14 ∧ ivh2 a0 14 ≤ 2147483647 := W2.int ty2 14
  have ie9 : ivh2 a0 14 = ivh1 a0 14 := fl2.i ty2 rfl 14
  have ri15 : (-2147483648) ≤ ivh2 a0 15 ∧ ivh2 a0 15 ≤ 2147483647 := W2.int ty2 15
  have ie11 : ivh2 a0 15 = ivh1 a0 15 := fl2.i ty2 rfl 15
  have ri16 : (-2147483648) ≤ ivh2 a0 16 ∧ ivh2 a0 16 ≤ 2147483647 := W2.int ty2 16
  have ie13 : ivh2 a0 16 = ivh1 a0 16 := fl2.i ty2 rfl 16
  have ri17 : 0 ≤ ivh2 (sk 3) 2 ∧ ivh2 (sk 3) 2 ≤ 500 := W2.int ty1 2
  have ie15 : ivh2 (sk 3) 2 = ivh1 (sk 3) 2 := fl2.i ty1 rfl 2
  exact c_iret C dX11_text_13 rfl (by decide) (rom0 hph pl1 (by decide)) ⟨f1, rfl, X1, F2, W2, ⟨by omega, by omega⟩, (fun ss hs => by rw [show ivh2 (sk 3) 2 = ivh1 (sk 3) 2 by omega]; exact gf1 ss hs), (by omega), (by omega), (by omega), (by omega), (by omega), (by omega), (by omega), (fun ss tt hs ht => ⟨fun e => CT.fr ((txkf1 ss tt hs ht).1 e) W1 ty1 fl2 rfl rfl rfl rfl rfl, fun e => CT.fr ((txkf1 ss tt hs ht).2 e) W1 ty1 fl2 rfl rfl rfl rfl rfl⟩), (show rvh1 a0 9 = rv a0 9 from kr9f1), (show rvh1 a0 10 = rv a0 10 from kr10f1)⟩
set_option maxHeartbeats 4000000 in
set_option maxRecDepth 100000 in
theorem C_publish {l : Launch} {G : GT} {mi : Nat} {sk : Nat → Nat} {L : List Nat} {cl ln : Nat → Nat} {iv : Nat → Nat → Int} {rv : Nat → Nat → Option Nat}  {a0 : Nat} (hW : WT (g0 G) sk L cl ln iv rv) (hS : SKL sk L cl) (t_a0 : ty L cl a0 1)  : Mc l G mi (Phi (g0 G) sk) PHM yX11_publish cX11_publish 2 (some .int) 1 [.ref a0] L cl ln iv rv 0 (fun v L2 cl2 ln2 iv2 rv2 => ∃ f : Int, v = some (.int (iI f)) ∧ L = L2 ∧ cl = cl2 ∧ ln = ln2 ∧ fT [1] L cl iv rv iv2 rv2 ∧ WT (g0 G) sk L2 cl2 ln2 iv2 rv2 ∧ (-2147483648 ≤ f ∧ f ≤ 2147483647) ∧ (True) ∧ iv2 a0 11 = iv a0 11 ∧ iv2 a0 12 = iv a0 12 ∧ iv2 a0 13 = iv a0 13 ∧ iv2 a0 14 = iv a0 14 ∧ iv2 a0 15 = iv a0 15 ∧ iv2 a0 16 = iv a0 16) := by
  refine Mc.mk (by decide) (Nat.le_of_ble_eq_true rfl) ?_
  intro p e s m args below meth c A C hM
  have hph := Phi.le hW hS
  have hX0 : XT L cl ln L cl ln := XT.refl
  have hF0 : fT [1] L cl iv rv iv rv := fT.refl
  refine c_aload_n (j := 0) (x := a0) C dX11_publish_0 rfl ?_
  obtain ⟨rb1, rq1, trb1⟩ := hW.ref t_a0 9 rfl rfl rfl
  refine c_getr (k := 9) C ck_12 dX11_publish_1 w2_53 (by decide) t_a0 rfl rfl (by decide) rfl rq1 ?_
  refine c_st (st2 := [.ref rb1]) rfl ?_
  refine c_astore_n (lv2 := [(1, .ref rb1), (0, .ref a0)]) C dX11_publish_4 (by decide) rfl ?_
  refine c_aload_n (j := 1) (x := a0) C dX11_publish_5 rfl ?_
  refine c_aload_n (j := 1) (x := a0) C dX11_publish_6 rfl ?_
  obtain ⟨rb2, rq2, trb2⟩ := hW.ref t_a0 10 rfl rfl rfl
  refine c_getr (k := 10) C ck_12 dX11_publish_7 w2_54 (by decide) t_a0 rfl rfl (by decide) rfl rq2 ?_
  refine c_st (st2 := [.ref rb2, .ref a0]) rfl ?_
  refine c_putr (x := (some rb2)) (k := 9) C ck_12 dX11_publish_10 w2_53 (by decide) rfl t_a0 rfl rfl (by decide) rfl (by rfl) (by rfl) (fun rv1 pq1 => ⟨0, (by rw [Phi.putr hS pq1 t_a0 rfl]; exact Nat.le_refl _), ?_⟩)
  have W1 := hW.putr pq1 t_a0 (rok_some t_a0 trb2 rfl (by decide) rfl) rfl (by decide)
  have F1 := hF0.putr hX0 pq1 t_a0 rfl
  refine c_aload_n (j := 1) (x := a0) C dX11_publish_13 rfl ?_
  refine c_aload_n (j := 0) (x := rb1) C dX11_publish_14 rfl ?_
  refine c_putr (x := (some rb1)) (k := 10) C ck_12 dX11_publish_15 w2_54 (by decide) rfl t_a0 rfl rfl (by decide) rfl (by rfl) (by rfl) (fun rv2 pq2 => ⟨0, (by rw [Phi.putr hS pq2 t_a0 rfl]; exact Nat.le_refl _), ?_⟩)
  have W2 := W1.putr pq2 t_a0 (rok_some t_a0 trb1 rfl (by decide) rfl) rfl (by decide)
  have F2 := F1.putr hX0 pq2 t_a0 rfl
  refine c_aload_n (j := 1) (x := a0) C dX11_publish_18 rfl ?_
  refine c_aload_n (j := 1) (x := a0) C dX11_publish_19 rfl ?_
  have rp1 : rv1 a0 9 = (some rb2) := by rw [pq1]; exact upr_s
  have re1 : rv2 a0 9 = rv1 a0 9 := (by rw [pq2]; exact upr_j (by decide))
  rw [rp1] at re1
  refine c_getr (k := 9) C ck_12 dX11_publish_20 w2_53 (by decide) t_a0 rfl rfl (by decide) rfl re1 ?_
  refine c_st (st2 := [.ref rb2, .ref a0]) rfl ?_
  have ri1 : 0 ≤ iv rb2 1 ∧ iv rb2 1 ≤ 200 := W2.int trb2 1
  refine c_get (k := 1) C ck_8 dX11_publish_23 w2_35 (by decide) trb2 rfl rfl (by decide) rfl ?_
  have pl1 := Phi.le W2 hS
  refine d_callV (As := [.int (iI (iv rb2 1))]) (rest := []) C hM (C_done (a0 := a0) (x := iv rb2 1) W2 hS t_a0 (by omega) ) dX11_publish_26 kV_X11_109 rfl t_a0 rfl rfl (by decide) ck_12 rfl (Nat.le_of_ble_eq_true rfl) ⟨(Nat.le_of_ble_eq_true rfl), (Nat.le_of_ble_eq_true rfl)⟩ hph pl1 (show 0 + 0 = 0 from rfl) (by decide) (fun rh1 Lh1 clh1 lnh1 ivh1 rvh1 h1 => ?_)
  obtain ⟨f1, rfl, rfl, rfl, rfl, rfl, fl1, W3, rgf1, exf1, kp11f1, kp12f1, kp13f1, kp14f1, kp15f1, kp16f1⟩ := h1
  have ri2 : 1 ≤ iv a0 11 ∧ iv a0 11 ≤ 100 := W2.int t_a0 11
  have ri3 : 1 ≤ iv a0 12 ∧ iv a0 12 ≤ 50 := W2.int t_a0 12
  have ri4 : (-2147483648) ≤ iv a0 13 ∧ iv a0 13 ≤ 2147483647 := W2.int t_a0 13
  have ri5 : (-2147483648) ≤ iv a0 14 ∧ iv a0 14 ≤ 2147483647 := W2.int t_a0 14
  have ri6 : (-2147483648) ≤ iv a0 15 ∧ iv a0 15 ≤ 2147483647 := W2.int t_a0 15
  have ri7 : (-2147483648) ≤ iv a0 16 ∧ iv a0 16 ≤ 2147483647 := W2.int t_a0 16
  have F3 := F2.call hX0 fl1 rfl
  refine c_st (st2 := [.int (iI f1)]) rfl ?_
  have gk11f1 : ivh1 a0 11 = iv a0 11 := kp11f1
  have gk12f1 : ivh1 a0 12 = iv a0 12 := kp12f1
  have gk13f1 : ivh1 a0 13 = iv a0 13 := kp13f1
  have gk14f1 : ivh1 a0 14 = iv a0 14 := kp14f1
  have gk15f1 : ivh1 a0 15 = iv a0 15 := kp15f1
  have gk16f1 : ivh1 a0 16 = iv a0 16 := kp16f1
  have gf1 : f1 = (iv rb2 1) := exf1
  have ri8 : 1 ≤ ivh1 a0 11 ∧ ivh1 a0 11 ≤ 100 := W3.int t_a0 11
  have ri9 : 1 ≤ ivh1 a0 12 ∧ ivh1 a0 12 ≤ 50 := W3.int t_a0 12
  have ri10 : (-2147483648) ≤ ivh1 a0 13 ∧ ivh1 a0 13 ≤ 2147483647 := W3.int t_a0 13
  have ri11 : (-2147483648) ≤ ivh1 a0 14 ∧ ivh1 a0 14 ≤ 2147483647 := W3.int t_a0 14
  have ri12 : (-2147483648) ≤ ivh1 a0 15 ∧ ivh1 a0 15 ≤ 2147483647 := W3.int t_a0 15
  have ri13 : (-2147483648) ≤ ivh1 a0 16 ∧ ivh1 a0 16 ≤ 2147483647 := W3.int t_a0 16
  exact c_iret C dX11_publish_29 rfl (by decide) (rom0 hph pl1 (by decide)) ⟨f1, rfl, rfl, rfl, rfl, F3, W3, ⟨by omega, by omega⟩, trivial, (by omega), (by omega), (by omega), (by omega), (by omega), (by omega)⟩
set_option maxHeartbeats 4000000 in
set_option maxRecDepth 100000 in
theorem C_set {l : Launch} {G : GT} {mi : Nat} {sk : Nat → Nat} {L : List Nat} {cl ln : Nat → Nat} {iv : Nat → Nat → Int} {rv : Nat → Nat → Option Nat}  {a0 : Nat} {i : Int} (hW : WT (g0 G) sk L cl ln iv rv) (hS : SKL sk L cl) (t_a0 : ty L cl a0 1) (h_i : -2147483648 ≤ i ∧ i ≤ 2147483647) (hmr : MRK sk cl iv rv) : Mc l G mi (Phi (g0 G) sk) PHM yX11_set cX11_set 7 (some .int) 8 [.ref a0, .int (iI i)] L cl ln iv rv 0 (fun v L2 cl2 ln2 iv2 rv2 => ∃ f : Int, v = some (.int (iI f)) ∧ XT L cl ln L2 cl2 ln2 ∧ fT [1, 14, 15, 50, 51, 52, 53, 54, 55, 18, 19, 64, 67, 203] L cl iv rv iv2 rv2 ∧ WT (g0 G) sk L2 cl2 ln2 iv2 rv2 ∧ (-2147483648 ≤ f ∧ f ≤ 2147483647) ∧ (True) ∧ iv2 a0 11 = iv a0 11 ∧ iv2 a0 12 = iv a0 12 ∧ iv2 a0 13 = iv a0 13 ∧ iv2 a0 14 = iv a0 14 ∧ iv2 a0 15 = iv a0 15 ∧ iv2 a0 16 = iv a0 16) := by
  refine Mc.mk (by decide) (Nat.le_of_ble_eq_true rfl) ?_
  intro p e s m args below meth c A C hM
  have hph := Phi.le hW hS
  have tsk2 : ty L cl (sk 2) 2 := ⟨(hS 2 rfl).1, by rw [(hS 2 rfl).2]; rfl⟩
  have tsk3 : ty L cl (sk 3) 3 := ⟨(hS 3 rfl).1, by rw [(hS 3 rfl).2]; rfl⟩
  have tsk4 : ty L cl (sk 4) 4 := ⟨(hS 4 rfl).1, by rw [(hS 4 rfl).2]; rfl⟩
  have tsk5 : ty L cl (sk 5) 5 := ⟨(hS 5 rfl).1, by rw [(hS 5 rfl).2]; rfl⟩
  have tsk13 : ty L cl (sk 13) 13 := ⟨(hS 13 rfl).1, by rw [(hS 13 rfl).2]; rfl⟩
  have tsk14 : ty L cl (sk 14) 14 := ⟨(hS 14 rfl).1, by rw [(hS 14 rfl).2]; rfl⟩
  have tsk15 : ty L cl (sk 15) 15 := ⟨(hS 15 rfl).1, by rw [(hS 15 rfl).2]; rfl⟩
  have tsk16 : ty L cl (sk 16) 16 := ⟨(hS 16 rfl).1, by rw [(hS 16 rfl).2]; rfl⟩
  have tsk17 : ty L cl (sk 17) 17 := ⟨(hS 17 rfl).1, by rw [(hS 17 rfl).2]; rfl⟩
  have tsk22 : ty L cl (sk 22) 22 := ⟨(hS 22 rfl).1, by rw [(hS 22 rfl).2]; rfl⟩
  have tsk23 : ty L cl (sk 23) 23 := ⟨(hS 23 rfl).1, by rw [(hS 23 rfl).2]; rfl⟩
  have hX0 : XT L cl ln L cl ln := XT.refl
  have hF0 : fT [1, 14, 15, 50, 51, 52, 53, 54, 55, 18, 19, 64, 67, 203] L cl iv rv iv rv := fT.refl
  refine c_aload_n (j := 0) (x := a0) C dX11_set_0 rfl ?_
  obtain ⟨rb1, rq1, trb1⟩ := hW.ref t_a0 4 rfl rfl rfl
  have erb1 := hW.sk trb1 (by decide) rfl
  subst erb1
  refine c_getr (k := 4) C ck_12 dX11_set_1 w2_48 (by decide) t_a0 rfl rfl (by decide) rfl rq1 ?_
  refine c_st (st2 := [.ref (sk 13)]) rfl ?_
  refine c_iload_n (j := 1) C dX11_set_4 rfl ?_
  refine d_callV (As := [.int (iI i)]) (rest := []) C hM (C_whole (a0 := (sk 13)) (i := i) hW hS tsk13 (by omega) hmr) dX11_set_5 kV_X11_231 rfl tsk13 rfl rfl (by decide) ck_11 rfl (Nat.le_of_ble_eq_true rfl) ⟨(Nat.le_of_ble_eq_true rfl), (Nat.le_of_ble_eq_true rfl)⟩ hph hph (show 0 + 0 = 0 from rfl) (by decide) (fun rh1 Lh1 clh1 lnh1 ivh1 rvh1 h1 => ?_)
  obtain ⟨f1, rfl, rfl, rfl, rfl, rfl, rfl, rgf1, exf1⟩ := h1
  refine c_st (st2 := [(va_rf f1)]) rfl ?_
  refine c_astorer_n (r := f1) (lv2 := [(2, (va_rf f1)), (0, .ref a0), (1, .int (iI i))]) C dX11_set_8 (by decide) rfl ?_
  refine c_aloadr_n (j := 0) (r := f1) C dX11_set_9 rfl ?_
  refine c_ifnonnull (r := f1) (tgt := 19) C dX11_set_10 (by decide) (fun ob1 oq1 => ?_) (fun oq1 => ?_)
  · subst oq1
    have tob1 := rgf1 ob1 rfl
    refine c_lv (lv2 := [(2, .ref ob1), (0, .ref a0), (1, .int (iI i))]) [0, 1, 2] rfl ?_
    refine c_st (st2 := []) rfl ?_
    refine c_aload_n (j := 1) (x := a0) C dX11_set_19 rfl ?_
    obtain ⟨rb2, rq2, trb2⟩ := hW.ref t_a0 10 rfl rfl rfl
    refine c_getr (k := 10) C ck_12 dX11_set_20 w2_54 (by decide) t_a0 rfl rfl (by decide) rfl rq2 ?_
    refine c_st (st2 := [.ref rb2]) rfl ?_
    refine d_callV (As := []) (rest := []) C hM (C_sclear (a0 := rb2) hW hS trb2  ) dX11_set_23 kV_X11_234 rfl trb2 rfl rfl (by decide) ck_8 rfl (Nat.le_of_ble_eq_true rfl) ⟨(Nat.le_of_ble_eq_true rfl), (Nat.le_of_ble_eq_true rfl)⟩ hph hph (show 0 + 0 = 0 from rfl) (by decide) (fun rh2 Lh2 clh2 lnh2 ivh2 rvh2 h2 => ?_)
    obtain ⟨rfl, rfl, rfl, rfl, rfl, fl2, W2, exf2⟩ := h2
    have F1 := hF0.call hX0 fl2 rfl
    have mr1 := MRK.call hmr hW hS XT.refl fl2 rfl rfl
    refine c_st (st2 := []) rfl ?_
    refine c_aload_n (j := 1) (x := a0) C dX11_set_26 rfl ?_
    obtain ⟨rb3, rq3, trb3⟩ := W2.ref t_a0 5 rfl rfl rfl
    have erb3 := W2.sk trb3 (by decide) rfl
    subst erb3
    refine c_getr (k := 5) C ck_12 dX11_set_27 w2_49 (by decide) t_a0 rfl rfl (by decide) rfl rq3 ?_
    refine c_st (st2 := [.ref (sk 14)]) rfl ?_
    refine d_callV (As := []) (rest := []) C hM (C_restart (a0 := (sk 14)) W2 hS tsk14  ) dX11_set_30 kV_X11_235 rfl tsk14 rfl rfl (by decide) ck_9 rfl (Nat.le_of_ble_eq_true rfl) ⟨(Nat.le_of_ble_eq_true rfl), (Nat.le_of_ble_eq_true rfl)⟩ hph hph (show 0 + 0 = 0 from rfl) (by decide) (fun rh3 Lh3 clh3 lnh3 ivh3 rvh3 h3 => ?_)
    obtain ⟨rfl, rfl, rfl, rfl, rfl, fl3, W3, exf3⟩ := h3
    have F2 := F1.call hX0 fl3 rfl
    have mr2 := MRK.call mr1 W2 hS XT.refl fl3 rfl rfl
    refine c_st (st2 := []) rfl ?_
    have ri1 : (-2147483648) ≤ ivh3 (sk 14) 0 ∧ ivh3 (sk 14) 0 ≤ 2147483647 := W3.int tsk14 0
    have ri2 : 0 ≤ ivh3 (sk 14) 1 ∧ ivh3 (sk 14) 1 ≤ 1 := W3.int tsk14 1
    have gf3 : ivh3 (sk 14) 0 = 0 ∧ ivh3 (sk 14) 1 = 0 := exf3
    refine c_iconst C dX11_set_33 ?_
    refine c_istore_n (lv2 := [(3, .int (iI 0)), (2, .ref ob1), (0, .ref a0), (1, .int (iI i))]) C dX11_set_34 (by decide) rfl ?_
    refine c_aload_n (j := 2) (x := a0) C dX11_set_35 rfl ?_
    refine c_getr (k := 5) C ck_12 dX11_set_36 w2_49 (by decide) t_a0 rfl rfl (by decide) rfl rq3 ?_
    refine c_st (st2 := [.ref (sk 14)]) rfl ?_
    refine c_aload_n (j := 2) (x := a0) C dX11_set_39 rfl ?_
    obtain ⟨rb4, rq4, trb4⟩ := W3.ref t_a0 1 rfl rfl rfl
    have erb4 := W3.sk trb4 (by decide) rfl
    subst erb4
    refine c_getr (k := 1) C ck_12 dX11_set_40 w2_45 (by decide) t_a0 rfl rfl (by decide) rfl rq4 ?_
    refine c_st (st2 := [.ref (sk 3), .ref (sk 14)]) rfl ?_
    refine c_aload_n (j := 2) (x := a0) C dX11_set_43 rfl ?_
    obtain ⟨rb5, rq5, trb5⟩ := W3.ref t_a0 6 rfl rfl rfl
    have erb5 := W3.sk trb5 (by decide) rfl
    subst erb5
    refine c_getr (k := 6) C ck_12 dX11_set_44 w2_50 (by decide) t_a0 rfl rfl (by decide) rfl rq5 ?_
    refine c_st (st2 := [.ref (sk 15), .ref (sk 3), .ref (sk 14)]) rfl ?_
    refine d_callV (As := [.ref (sk 3), .ref (sk 15)]) (rest := []) C hM (C_sstep (a0 := (sk 14)) (a1 := (sk 3)) (a2 := (sk 15)) W3 hS tsk14 tsk3 tsk15  (by show 0 ≤ ivh3 (sk 14) 0 ∧ ivh3 (sk 14) 0 ≤ 501 ∧ (ivh3 (sk 14) 1 = 0 ∨ ivh3 (sk 14) 0 ≤ 500); omega)) dX11_set_47 kV_X11_238 rfl tsk14 rfl rfl (by decide) ck_9 rfl (Nat.le_of_ble_eq_true rfl) ⟨(Nat.le_of_ble_eq_true rfl), (Nat.le_of_ble_eq_true rfl)⟩ hph hph (show 0 + 0 = 0 from rfl) (by decide) (fun rh4 Lh4 clh4 lnh4 ivh4 rvh4 h4 => ?_)
    obtain ⟨f4, rfl, rfl, rfl, rfl, rfl, fl4, W4, rgf4, exf4⟩ := h4
    have F3 := F2.call hX0 fl4 rfl
    have mr3 := MRK.call mr2 W3 hS XT.refl fl4 rfl rfl
    refine c_st (st2 := [.int (iI f4)]) rfl ?_
    have ri3 : (-2147483648) ≤ ivh4 (sk 14) 0 ∧ ivh4 (sk 14) 0 ≤ 2147483647 := W4.int tsk14 0
    have ri4 : 0 ≤ ivh4 (sk 14) 1 ∧ ivh4 (sk 14) 1 ≤ 1 := W4.int tsk14 1
    have gf4 : (0 ≤ f4 ∧ f4 ≤ 3) ∧ 0 ≤ ivh4 (sk 14) 0 ∧ ivh4 (sk 14) 0 ≤ 501 ∧ (ivh4 (sk 14) 1 = 0 ∨ ivh4 (sk 14) 0 ≤ 500) := exf4
    refine c_istore (lv2 := [(4, .int (iI f4)), (3, .int (iI 0)), (2, .ref ob1), (0, .ref a0), (1, .int (iI i))]) C dX11_set_50 (by decide) rfl ?_
    refine c_iconst C dX11_set_52 ?_
    refine c_istore (lv2 := [(5, .int (iI 0)), (4, .int (iI f4)), (3, .int (iI 0)), (2, .ref ob1), (0, .ref a0), (1, .int (iI i))]) C dX11_set_53 (by decide) rfl ?_
    have Lp1 : ∀ (nn : Nat) (wy cm k : Int) (Lb1 : List Nat) (clb1 lnb1 : Nat → Nat) (ivb1 : Nat → Nat → Int) (rvb1 : Nat → Nat → Option Nat) , 1000001 - k < (nn : Int) → XT L cl ln Lb1 clb1 lnb1 → WT (g0 G) sk Lb1 clb1 lnb1 ivb1 rvb1 → fT [1, 14, 15, 50, 51, 52, 53, 54, 55, 18, 19, 64, 67, 203] L cl iv rv ivb1 rvb1 → (0 ≤ wy ∧ wy ≤ 9) → (0 ≤ cm ∧ cm ≤ 3) → (0 ≤ k ∧ k ≤ 1000000) → (0 ≤ ivb1 (sk 14) 0 ∧ ivb1 (sk 14) 0 ≤ 501 ∧ (ivb1 (sk 14) 1 = 0 ∨ ivb1 (sk 14) 0 ≤ 500)) → (ivb1 a0 11 = iv a0 11) → (ivb1 a0 12 = iv a0 12) → (ivb1 a0 13 = iv a0 13) → (ivb1 a0 14 = iv a0 14) → (ivb1 a0 15 = iv a0 15) → (ivb1 a0 16 = iv a0 16) → cw p l e 8 ((PHM) + 0 - ((Phi (g0 G) sk) ln rv)) s m args below meth c G A 7 (MQ below (Qu G A (Qp G (Phi (g0 G) sk) ((Phi (g0 G) sk) ln rv) 0 (fun v L2 cl2 ln2 iv2 rv2 => ∃ f : Int, v = some (.int (iI f)) ∧ XT L cl ln L2 cl2 ln2 ∧ fT [1, 14, 15, 50, 51, 52, 53, 54, 55, 18, 19, 64, 67, 203] L cl iv rv iv2 rv2 ∧ WT (g0 G) sk L2 cl2 ln2 iv2 rv2 ∧ (-2147483648 ≤ f ∧ f ≤ 2147483647) ∧ (True) ∧ iv2 a0 11 = iv a0 11 ∧ iv2 a0 12 = iv a0 12 ∧ iv2 a0 13 = iv a0 13 ∧ iv2 a0 14 = iv a0 14 ∧ iv2 a0 15 = iv a0 15 ∧ iv2 a0 16 = iv a0 16))) args s (((PHM) + 0 - ((Phi (g0 G) sk) ln rv)) / 16) ((PHM) + 0 - ((Phi (g0 G) sk) ln rv)) A) (Phi (g0 G) sk) ((Phi (g0 G) sk) ln rv) Lb1 clb1 lnb1 ivb1 rvb1 0 55 [(3, .int (iI wy)), (4, .int (iI cm)), (5, .int (iI k)), (2, .ref ob1), (0, .ref a0), (1, .int (iI i))] [] := by
      intro nn
      induction nn with
      | zero =>
        intro  wy cm k Lb1 clb1 lnb1 ivb1 rvb1 hm Xb1 Wb1 Fb1  hwy hcm hk hsr hkp11 hkp12 hkp13 hkp14 hkp15 hkp16
        have skb1 := Xb1.skl hS
        exact absurd hm (by omega)
      | succ nn ih1 =>
        intro  wy cm k Lb1 clb1 lnb1 ivb1 rvb1 hm Xb1 Wb1 Fb1  hwy hcm hk hsr hkp11 hkp12 hkp13 hkp14 hkp15 hkp16
        have skb1 := Xb1.skl hS
        have mrb1 := MRK.call hmr hW hS Xb1 Fb1 rfl rfl
        refine c_iload_n (j := 0) C dX11_set_55 rfl ?_
        refine c_if_ne (tgt := 203) C ⟨by omega, by omega⟩ dX11_set_56 (by decide) (fun c1 => ?_) (fun c1 => ?_)
        · refine c_iload_n (j := 0) C dX11_set_203 rfl ?_
          refine c_if_ne (tgt := 214) C ⟨by omega, by omega⟩ dX11_set_204 (by decide) (fun c2 => ?_) (fun c2 => ?_)
          · refine c_aload_n (j := 4) (x := a0) C dX11_set_214 rfl ?_
            refine c_iload_n (j := 0) C dX11_set_215 rfl ?_
            refine c_aload_n (j := 4) (x := a0) C dX11_set_216 rfl ?_
            have ty1 := Xb1.ty t_a0
            obtain ⟨rb6, rq6, trb6⟩ := Wb1.ref ty1 6 rfl rfl rfl
            have erb6 := Wb1.sk trb6 (by decide) rfl
            subst erb6
            refine c_getr (k := 6) C ck_12 dX11_set_217 w2_50 (by decide) ty1 rfl rfl (by decide) rfl rq6 ?_
            refine c_st (st2 := [.ref (sk 15), .int (iI wy), .ref a0]) rfl ?_
            have ty2 := Xb1.ty tsk15
            have pl1 := Phi.le Wb1 skb1
            refine d_callV (As := []) (rest := [.int (iI wy), .ref a0]) C hM (C_placeOfUnknown (a0 := (sk 15)) Wb1 skb1 ty2  ) dX11_set_220 kV_X11_263 rfl ty2 rfl rfl (by decide) ck_7 rfl (Nat.le_of_ble_eq_true rfl) ⟨(Nat.le_of_ble_eq_true rfl), (Nat.le_of_ble_eq_true rfl)⟩ hph pl1 (show 0 + 0 = 0 from rfl) (by decide) (fun rh5 Lh5 clh5 lnh5 ivh5 rvh5 h5 => ?_)
            obtain ⟨f5, rfl, rfl, rfl, rfl, rfl, rfl, rgf5, exf5⟩ := h5
            refine c_st (st2 := [.int (iI f5), .int (iI wy), .ref a0]) rfl ?_
            refine d_callV (As := [.int (iI wy), .int (iI f5)]) (rest := []) C hM (C_refuseAt (a0 := a0) (x := wy) (y := f5) Wb1 skb1 ty1 (by omega) (by omega) ) dX11_set_223 kV_X11_266 rfl ty1 rfl rfl (by decide) ck_12 rfl (Nat.le_of_ble_eq_true rfl) ⟨(Nat.le_of_ble_eq_true rfl), (Nat.le_of_ble_eq_true rfl)⟩ hph pl1 (show 0 + 0 = 0 from rfl) (by decide) (fun rh6 Lh6 clh6 lnh6 ivh6 rvh6 h6 => ?_)
            obtain ⟨f6, rfl, rfl, rfl, rfl, rfl, fl6, W6, rgf6, exf6, kp11f6, kp12f6, kp13f6, kp14f6, kp15f6, kp16f6⟩ := h6
            have ri5 : 1 ≤ ivb1 a0 11 ∧ ivb1 a0 11 ≤ 100 := Wb1.int ty1 11
            have ri6 : 1 ≤ ivb1 a0 12 ∧ ivb1 a0 12 ≤ 50 := Wb1.int ty1 12
            have ri7 : (-2147483648) ≤ ivb1 a0 13 ∧ ivb1 a0 13 ≤ 2147483647 := Wb1.int ty1 13
            have ri8 : (-2147483648) ≤ ivb1 a0 14 ∧ ivb1 a0 14 ≤ 2147483647 := Wb1.int ty1 14
            have ri9 : (-2147483648) ≤ ivb1 a0 15 ∧ ivb1 a0 15 ≤ 2147483647 := Wb1.int ty1 15
            have ri10 : (-2147483648) ≤ ivb1 a0 16 ∧ ivb1 a0 16 ≤ 2147483647 := Wb1.int ty1 16
            have F4 := Fb1.call Xb1 fl6 rfl
            have mr4 := MRK.call mrb1 Wb1 skb1 XT.refl fl6 rfl rfl
            refine c_st (st2 := [.int (iI f6)]) rfl ?_
            have gk11f6 : ivh6 a0 11 = ivb1 a0 11 := kp11f6
            have gk12f6 : ivh6 a0 12 = ivb1 a0 12 := kp12f6
            have gk13f6 : ivh6 a0 13 = ivb1 a0 13 := kp13f6
            have gk14f6 : ivh6 a0 14 = ivb1 a0 14 := kp14f6
            have gk15f6 : ivh6 a0 15 = ivb1 a0 15 := kp15f6
            have gk16f6 : ivh6 a0 16 = ivb1 a0 16 := kp16f6
            have gf6 : f6 = -1 := exf6
            have ri11 : 1 ≤ ivh6 a0 11 ∧ ivh6 a0 11 ≤ 100 := W6.int ty1 11
            have ri12 : 1 ≤ ivh6 a0 12 ∧ ivh6 a0 12 ≤ 50 := W6.int ty1 12
            have ri13 : (-2147483648) ≤ ivh6 a0 13 ∧ ivh6 a0 13 ≤ 2147483647 := W6.int ty1 13
            have ri14 : (-2147483648) ≤ ivh6 a0 14 ∧ ivh6 a0 14 ≤ 2147483647 := W6.int ty1 14
            have ri15 : (-2147483648) ≤ ivh6 a0 15 ∧ ivh6 a0 15 ≤ 2147483647 := W6.int ty1 15
            have ri16 : (-2147483648) ≤ ivh6 a0 16 ∧ ivh6 a0 16 ≤ 2147483647 := W6.int ty1 16
            exact c_iret C dX11_set_226 rfl (by decide) (rom0 hph pl1 (by decide)) ⟨f6, rfl, Xb1, F4, W6, ⟨by omega, by omega⟩, trivial, (by omega), (by omega), (by omega), (by omega), (by omega), (by omega)⟩
          · refine c_aload_n (j := 4) (x := a0) C dX11_set_207 rfl ?_
            have ty3 := Xb1.ty t_a0
            have pl2 := Phi.le Wb1 skb1
            refine d_callV (As := []) (rest := []) C hM (C_publish (a0 := a0) Wb1 skb1 ty3  ) dX11_set_208 kV_X11_260 rfl ty3 rfl rfl (by decide) ck_12 rfl (Nat.le_of_ble_eq_true rfl) ⟨(Nat.le_of_ble_eq_true rfl), (Nat.le_of_ble_eq_true rfl)⟩ hph pl2 (show 0 + 0 = 0 from rfl) (by decide) (fun rh7 Lh7 clh7 lnh7 ivh7 rvh7 h7 => ?_)
            obtain ⟨f7, rfl, rfl, rfl, rfl, fl7, W7, rgf7, exf7, kp11f7, kp12f7, kp13f7, kp14f7, kp15f7, kp16f7⟩ := h7
            have ri17 : 1 ≤ ivb1 a0 11 ∧ ivb1 a0 11 ≤ 100 := Wb1.int ty3 11
            have ri18 : 1 ≤ ivb1 a0 12 ∧ ivb1 a0 12 ≤ 50 := Wb1.int ty3 12
            have ri19 : (-2147483648) ≤ ivb1 a0 13 ∧ ivb1 a0 13 ≤ 2147483647 := Wb1.int ty3 13
            have ri20 : (-2147483648) ≤ ivb1 a0 14 ∧ ivb1 a0 14 ≤ 2147483647 := Wb1.int ty3 14
            have ri21 : (-2147483648) ≤ ivb1 a0 15 ∧ ivb1 a0 15 ≤ 2147483647 := Wb1.int ty3 15
            have ri22 : (-2147483648) ≤ ivb1 a0 16 ∧ ivb1 a0 16 ≤ 2147483647 := Wb1.int ty3 16
            have F5 := Fb1.call Xb1 fl7 rfl
            have mr5 := MRK.call mrb1 Wb1 skb1 XT.refl fl7 rfl rfl
            refine c_st (st2 := [.int (iI f7)]) rfl ?_
            have gk11f7 : ivh7 a0 11 = ivb1 a0 11 := kp11f7
            have gk12f7 : ivh7 a0 12 = ivb1 a0 12 := kp12f7
            have gk13f7 : ivh7 a0 13 = ivb1 a0 13 := kp13f7
            have gk14f7 : ivh7 a0 14 = ivb1 a0 14 := kp14f7
            have gk15f7 : ivh7 a0 15 = ivb1 a0 15 := kp15f7
            have gk16f7 : ivh7 a0 16 = ivb1 a0 16 := kp16f7
            refine c_goto (tgt := 226) C dX11_set_211 (by decide) ?_
            have ri23 : 1 ≤ ivh7 a0 11 ∧ ivh7 a0 11 ≤ 100 := W7.int ty3 11
            have ri24 : 1 ≤ ivh7 a0 12 ∧ ivh7 a0 12 ≤ 50 := W7.int ty3 12
            have ri25 : (-2147483648) ≤ ivh7 a0 13 ∧ ivh7 a0 13 ≤ 2147483647 := W7.int ty3 13
            have ri26 : (-2147483648) ≤ ivh7 a0 14 ∧ ivh7 a0 14 ≤ 2147483647 := W7.int ty3 14
            have ri27 : (-2147483648) ≤ ivh7 a0 15 ∧ ivh7 a0 15 ≤ 2147483647 := W7.int ty3 15
            have ri28 : (-2147483648) ≤ ivh7 a0 16 ∧ ivh7 a0 16 ≤ 2147483647 := W7.int ty3 16
            have pl3 := Phi.le W7 skb1
            exact c_iret C dX11_set_226 rfl (by decide) (rom0 hph pl3 (by decide)) ⟨f7, rfl, Xb1, F5, W7, ⟨by omega, by omega⟩, trivial, (by omega), (by omega), (by omega), (by omega), (by omega), (by omega)⟩
        · refine c_iload (j := 1) C dX11_set_59 rfl ?_
          refine c_if_eq (tgt := 203) C ⟨by omega, by omega⟩ dX11_set_61 (by decide) (fun c3 => ?_) (fun c3 => ?_)
          · refine c_iload_n (j := 0) C dX11_set_203 rfl ?_
            refine c_if_ne (tgt := 214) C ⟨by omega, by omega⟩ dX11_set_204 (by decide) (fun c4 => ?_) (fun c4 => ?_)
            · refine c_aload_n (j := 4) (x := a0) C dX11_set_214 rfl ?_
              refine c_iload_n (j := 0) C dX11_set_215 rfl ?_
              refine c_aload_n (j := 4) (x := a0) C dX11_set_216 rfl ?_
              have ty4 := Xb1.ty t_a0
              obtain ⟨rb7, rq7, trb7⟩ := Wb1.ref ty4 6 rfl rfl rfl
              have erb7 := Wb1.sk trb7 (by decide) rfl
              subst erb7
              refine c_getr (k := 6) C ck_12 dX11_set_217 w2_50 (by decide) ty4 rfl rfl (by decide) rfl rq7 ?_
              refine c_st (st2 := [.ref (sk 15), .int (iI wy), .ref a0]) rfl ?_
              have ty5 := Xb1.ty tsk15
              have pl4 := Phi.le Wb1 skb1
              refine d_callV (As := []) (rest := [.int (iI wy), .ref a0]) C hM (C_placeOfUnknown (a0 := (sk 15)) Wb1 skb1 ty5  ) dX11_set_220 kV_X11_263 rfl ty5 rfl rfl (by decide) ck_7 rfl (Nat.le_of_ble_eq_true rfl) ⟨(Nat.le_of_ble_eq_true rfl), (Nat.le_of_ble_eq_true rfl)⟩ hph pl4 (show 0 + 0 = 0 from rfl) (by decide) (fun rh8 Lh8 clh8 lnh8 ivh8 rvh8 h8 => ?_)
              obtain ⟨f8, rfl, rfl, rfl, rfl, rfl, rfl, rgf8, exf8⟩ := h8
              refine c_st (st2 := [.int (iI f8), .int (iI wy), .ref a0]) rfl ?_
              refine d_callV (As := [.int (iI wy), .int (iI f8)]) (rest := []) C hM (C_refuseAt (a0 := a0) (x := wy) (y := f8) Wb1 skb1 ty4 (by omega) (by omega) ) dX11_set_223 kV_X11_266 rfl ty4 rfl rfl (by decide) ck_12 rfl (Nat.le_of_ble_eq_true rfl) ⟨(Nat.le_of_ble_eq_true rfl), (Nat.le_of_ble_eq_true rfl)⟩ hph pl4 (show 0 + 0 = 0 from rfl) (by decide) (fun rh9 Lh9 clh9 lnh9 ivh9 rvh9 h9 => ?_)
              obtain ⟨f9, rfl, rfl, rfl, rfl, rfl, fl9, W9, rgf9, exf9, kp11f9, kp12f9, kp13f9, kp14f9, kp15f9, kp16f9⟩ := h9
              have ri29 : 1 ≤ ivb1 a0 11 ∧ ivb1 a0 11 ≤ 100 := Wb1.int ty4 11
              have ri30 : 1 ≤ ivb1 a0 12 ∧ ivb1 a0 12 ≤ 50 := Wb1.int ty4 12
              have ri31 : (-2147483648) ≤ ivb1 a0 13 ∧ ivb1 a0 13 ≤ 2147483647 := Wb1.int ty4 13
              have ri32 : (-2147483648) ≤ ivb1 a0 14 ∧ ivb1 a0 14 ≤ 2147483647 := Wb1.int ty4 14
              have ri33 : (-2147483648) ≤ ivb1 a0 15 ∧ ivb1 a0 15 ≤ 2147483647 := Wb1.int ty4 15
              have ri34 : (-2147483648) ≤ ivb1 a0 16 ∧ ivb1 a0 16 ≤ 2147483647 := Wb1.int ty4 16
              have F6 := Fb1.call Xb1 fl9 rfl
              have mr6 := MRK.call mrb1 Wb1 skb1 XT.refl fl9 rfl rfl
              refine c_st (st2 := [.int (iI f9)]) rfl ?_
              have gk11f9 : ivh9 a0 11 = ivb1 a0 11 := kp11f9
              have gk12f9 : ivh9 a0 12 = ivb1 a0 12 := kp12f9
              have gk13f9 : ivh9 a0 13 = ivb1 a0 13 := kp13f9
              have gk14f9 : ivh9 a0 14 = ivb1 a0 14 := kp14f9
              have gk15f9 : ivh9 a0 15 = ivb1 a0 15 := kp15f9
              have gk16f9 : ivh9 a0 16 = ivb1 a0 16 := kp16f9
              have gf9 : f9 = -1 := exf9
              have ri35 : 1 ≤ ivh9 a0 11 ∧ ivh9 a0 11 ≤ 100 := W9.int ty4 11
              have ri36 : 1 ≤ ivh9 a0 12 ∧ ivh9 a0 12 ≤ 50 := W9.int ty4 12
              have ri37 : (-2147483648) ≤ ivh9 a0 13 ∧ ivh9 a0 13 ≤ 2147483647 := W9.int ty4 13
              have ri38 : (-2147483648) ≤ ivh9 a0 14 ∧ ivh9 a0 14 ≤ 2147483647 := W9.int ty4 14
              have ri39 : (-2147483648) ≤ ivh9 a0 15 ∧ ivh9 a0 15 ≤ 2147483647 := W9.int ty4 15
              have ri40 : (-2147483648) ≤ ivh9 a0 16 ∧ ivh9 a0 16 ≤ 2147483647 := W9.int ty4 16
              exact c_iret C dX11_set_226 rfl (by decide) (rom0 hph pl4 (by decide)) ⟨f9, rfl, Xb1, F6, W9, ⟨by omega, by omega⟩, trivial, (by omega), (by omega), (by omega), (by omega), (by omega), (by omega)⟩
            · refine c_aload_n (j := 4) (x := a0) C dX11_set_207 rfl ?_
              have ty6 := Xb1.ty t_a0
              have pl5 := Phi.le Wb1 skb1
              refine d_callV (As := []) (rest := []) C hM (C_publish (a0 := a0) Wb1 skb1 ty6  ) dX11_set_208 kV_X11_260 rfl ty6 rfl rfl (by decide) ck_12 rfl (Nat.le_of_ble_eq_true rfl) ⟨(Nat.le_of_ble_eq_true rfl), (Nat.le_of_ble_eq_true rfl)⟩ hph pl5 (show 0 + 0 = 0 from rfl) (by decide) (fun rh10 Lh10 clh10 lnh10 ivh10 rvh10 h10 => ?_)
              obtain ⟨f10, rfl, rfl, rfl, rfl, fl10, W10, rgf10, exf10, kp11f10, kp12f10, kp13f10, kp14f10, kp15f10, kp16f10⟩ := h10
              have ri41 : 1 ≤ ivb1 a0 11 ∧ ivb1 a0 11 ≤ 100 := Wb1.int ty6 11
              have ri42 : 1 ≤ ivb1 a0 12 ∧ ivb1 a0 12 ≤ 50 := Wb1.int ty6 12
              have ri43 : (-2147483648) ≤ ivb1 a0 13 ∧ ivb1 a0 13 ≤ 2147483647 := Wb1.int ty6 13
              have ri44 : (-2147483648) ≤ ivb1 a0 14 ∧ ivb1 a0 14 ≤ 2147483647 := Wb1.int ty6 14
              have ri45 : (-2147483648) ≤ ivb1 a0 15 ∧ ivb1 a0 15 ≤ 2147483647 := Wb1.int ty6 15
              have ri46 : (-2147483648) ≤ ivb1 a0 16 ∧ ivb1 a0 16 ≤ 2147483647 := Wb1.int ty6 16
              have F7 := Fb1.call Xb1 fl10 rfl
              have mr7 := MRK.call mrb1 Wb1 skb1 XT.refl fl10 rfl rfl
              refine c_st (st2 := [.int (iI f10)]) rfl ?_
              have gk11f10 : ivh10 a0 11 = ivb1 a0 11 := kp11f10
              have gk12f10 : ivh10 a0 12 = ivb1 a0 12 := kp12f10
              have gk13f10 : ivh10 a0 13 = ivb1 a0 13 := kp13f10
              have gk14f10 : ivh10 a0 14 = ivb1 a0 14 := kp14f10
              have gk15f10 : ivh10 a0 15 = ivb1 a0 15 := kp15f10
              have gk16f10 : ivh10 a0 16 = ivb1 a0 16 := kp16f10
              refine c_goto (tgt := 226) C dX11_set_211 (by decide) ?_
              have ri47 : 1 ≤ ivh10 a0 11 ∧ ivh10 a0 11 ≤ 100 := W10.int ty6 11
              have ri48 : 1 ≤ ivh10 a0 12 ∧ ivh10 a0 12 ≤ 50 := W10.int ty6 12
              have ri49 : (-2147483648) ≤ ivh10 a0 13 ∧ ivh10 a0 13 ≤ 2147483647 := W10.int ty6 13
              have ri50 : (-2147483648) ≤ ivh10 a0 14 ∧ ivh10 a0 14 ≤ 2147483647 := W10.int ty6 14
              have ri51 : (-2147483648) ≤ ivh10 a0 15 ∧ ivh10 a0 15 ≤ 2147483647 := W10.int ty6 15
              have ri52 : (-2147483648) ≤ ivh10 a0 16 ∧ ivh10 a0 16 ≤ 2147483647 := W10.int ty6 16
              have pl6 := Phi.le W10 skb1
              exact c_iret C dX11_set_226 rfl (by decide) (rom0 hph pl6 (by decide)) ⟨f10, rfl, Xb1, F7, W10, ⟨by omega, by omega⟩, trivial, (by omega), (by omega), (by omega), (by omega), (by omega), (by omega)⟩
          · refine c_iload (j := 2) C dX11_set_64 rfl ?_
            refine c_ldc (z := 1000000) C dX11_set_66 w4_30 rfl ?_
            refine c_icmp_ge (tgt := 203) C ⟨by omega, by omega⟩ ⟨by decide, by decide⟩ dX11_set_68 (by decide) (fun c5 => ?_) (fun c5 => ?_)
            · refine c_iload_n (j := 0) C dX11_set_203 rfl ?_
              refine c_if_ne (tgt := 214) C ⟨by omega, by omega⟩ dX11_set_204 (by decide) (fun c6 => ?_) (fun c6 => ?_)
              · refine c_aload_n (j := 4) (x := a0) C dX11_set_214 rfl ?_
                refine c_iload_n (j := 0) C dX11_set_215 rfl ?_
                refine c_aload_n (j := 4) (x := a0) C dX11_set_216 rfl ?_
                have ty7 := Xb1.ty t_a0
                obtain ⟨rb8, rq8, trb8⟩ := Wb1.ref ty7 6 rfl rfl rfl
                have erb8 := Wb1.sk trb8 (by decide) rfl
                subst erb8
                refine c_getr (k := 6) C ck_12 dX11_set_217 w2_50 (by decide) ty7 rfl rfl (by decide) rfl rq8 ?_
                refine c_st (st2 := [.ref (sk 15), .int (iI wy), .ref a0]) rfl ?_
                have ty8 := Xb1.ty tsk15
                have pl7 := Phi.le Wb1 skb1
                refine d_callV (As := []) (rest := [.int (iI wy), .ref a0]) C hM (C_placeOfUnknown (a0 := (sk 15)) Wb1 skb1 ty8  ) dX11_set_220 kV_X11_263 rfl ty8 rfl rfl (by decide) ck_7 rfl (Nat.le_of_ble_eq_true rfl) ⟨(Nat.le_of_ble_eq_true rfl), (Nat.le_of_ble_eq_true rfl)⟩ hph pl7 (show 0 + 0 = 0 from rfl) (by decide) (fun rh11 Lh11 clh11 lnh11 ivh11 rvh11 h11 => ?_)
                obtain ⟨f11, rfl, rfl, rfl, rfl, rfl, rfl, rgf11, exf11⟩ := h11
                refine c_st (st2 := [.int (iI f11), .int (iI wy), .ref a0]) rfl ?_
                refine d_callV (As := [.int (iI wy), .int (iI f11)]) (rest := []) C hM (C_refuseAt (a0 := a0) (x := wy) (y := f11) Wb1 skb1 ty7 (by omega) (by omega) ) dX11_set_223 kV_X11_266 rfl ty7 rfl rfl (by decide) ck_12 rfl (Nat.le_of_ble_eq_true rfl) ⟨(Nat.le_of_ble_eq_true rfl), (Nat.le_of_ble_eq_true rfl)⟩ hph pl7 (show 0 + 0 = 0 from rfl) (by decide) (fun rh12 Lh12 clh12 lnh12 ivh12 rvh12 h12 => ?_)
                obtain ⟨f12, rfl, rfl, rfl, rfl, rfl, fl12, W12, rgf12, exf12, kp11f12, kp12f12, kp13f12, kp14f12, kp15f12, kp16f12⟩ := h12
                have ri53 : 1 ≤ ivb1 a0 11 ∧ ivb1 a0 11 ≤ 100 := Wb1.int ty7 11
                have ri54 : 1 ≤ ivb1 a0 12 ∧ ivb1 a0 12 ≤ 50 := Wb1.int ty7 12
                have ri55 : (-2147483648) ≤ ivb1 a0 13 ∧ ivb1 a0 13 ≤ 2147483647 := Wb1.int ty7 13
                have ri56 : (-2147483648) ≤ ivb1 a0 14 ∧ ivb1 a0 14 ≤ 2147483647 := Wb1.int ty7 14
                have ri57 : (-2147483648) ≤ ivb1 a0 15 ∧ ivb1 a0 15 ≤ 2147483647 := Wb1.int ty7 15
                have ri58 : (-2147483648) ≤ ivb1 a0 16 ∧ ivb1 a0 16 ≤ 2147483647 := Wb1.int ty7 16
                have F8 := Fb1.call Xb1 fl12 rfl
                have mr8 := MRK.call mrb1 Wb1 skb1 XT.refl fl12 rfl rfl
                refine c_st (st2 := [.int (iI f12)]) rfl ?_
                have gk11f12 : ivh12 a0 11 = ivb1 a0 11 := kp11f12
                have gk12f12 : ivh12 a0 12 = ivb1 a0 12 := kp12f12
                have gk13f12 : ivh12 a0 13 = ivb1 a0 13 := kp13f12
                have gk14f12 : ivh12 a0 14 = ivb1 a0 14 := kp14f12
                have gk15f12 : ivh12 a0 15 = ivb1 a0 15 := kp15f12
                have gk16f12 : ivh12 a0 16 = ivb1 a0 16 := kp16f12
                have gf12 : f12 = -1 := exf12
                have ri59 : 1 ≤ ivh12 a0 11 ∧ ivh12 a0 11 ≤ 100 := W12.int ty7 11
                have ri60 : 1 ≤ ivh12 a0 12 ∧ ivh12 a0 12 ≤ 50 := W12.int ty7 12
                have ri61 : (-2147483648) ≤ ivh12 a0 13 ∧ ivh12 a0 13 ≤ 2147483647 := W12.int ty7 13
                have ri62 : (-2147483648) ≤ ivh12 a0 14 ∧ ivh12 a0 14 ≤ 2147483647 := W12.int ty7 14
                have ri63 : (-2147483648) ≤ ivh12 a0 15 ∧ ivh12 a0 15 ≤ 2147483647 := W12.int ty7 15
                have ri64 : (-2147483648) ≤ ivh12 a0 16 ∧ ivh12 a0 16 ≤ 2147483647 := W12.int ty7 16
                exact c_iret C dX11_set_226 rfl (by decide) (rom0 hph pl7 (by decide)) ⟨f12, rfl, Xb1, F8, W12, ⟨by omega, by omega⟩, trivial, (by omega), (by omega), (by omega), (by omega), (by omega), (by omega)⟩
              · refine c_aload_n (j := 4) (x := a0) C dX11_set_207 rfl ?_
                have ty9 := Xb1.ty t_a0
                have pl8 := Phi.le Wb1 skb1
                refine d_callV (As := []) (rest := []) C hM (C_publish (a0 := a0) Wb1 skb1 ty9  ) dX11_set_208 kV_X11_260 rfl ty9 rfl rfl (by decide) ck_12 rfl (Nat.le_of_ble_eq_true rfl) ⟨(Nat.le_of_ble_eq_true rfl), (Nat.le_of_ble_eq_true rfl)⟩ hph pl8 (show 0 + 0 = 0 from rfl) (by decide) (fun rh13 Lh13 clh13 lnh13 ivh13 rvh13 h13 => ?_)
                obtain ⟨f13, rfl, rfl, rfl, rfl, fl13, W13, rgf13, exf13, kp11f13, kp12f13, kp13f13, kp14f13, kp15f13, kp16f13⟩ := h13
                have ri65 : 1 ≤ ivb1 a0 11 ∧ ivb1 a0 11 ≤ 100 := Wb1.int ty9 11
                have ri66 : 1 ≤ ivb1 a0 12 ∧ ivb1 a0 12 ≤ 50 := Wb1.int ty9 12
                have ri67 : (-2147483648) ≤ ivb1 a0 13 ∧ ivb1 a0 13 ≤ 2147483647 := Wb1.int ty9 13
                have ri68 : (-2147483648) ≤ ivb1 a0 14 ∧ ivb1 a0 14 ≤ 2147483647 := Wb1.int ty9 14
                have ri69 : (-2147483648) ≤ ivb1 a0 15 ∧ ivb1 a0 15 ≤ 2147483647 := Wb1.int ty9 15
                have ri70 : (-2147483648) ≤ ivb1 a0 16 ∧ ivb1 a0 16 ≤ 2147483647 := Wb1.int ty9 16
                have F9 := Fb1.call Xb1 fl13 rfl
                have mr9 := MRK.call mrb1 Wb1 skb1 XT.refl fl13 rfl rfl
                refine c_st (st2 := [.int (iI f13)]) rfl ?_
                have gk11f13 : ivh13 a0 11 = ivb1 a0 11 := kp11f13
                have gk12f13 : ivh13 a0 12 = ivb1 a0 12 := kp12f13
                have gk13f13 : ivh13 a0 13 = ivb1 a0 13 := kp13f13
                have gk14f13 : ivh13 a0 14 = ivb1 a0 14 := kp14f13
                have gk15f13 : ivh13 a0 15 = ivb1 a0 15 := kp15f13
                have gk16f13 : ivh13 a0 16 = ivb1 a0 16 := kp16f13
                refine c_goto (tgt := 226) C dX11_set_211 (by decide) ?_
                have ri71 : 1 ≤ ivh13 a0 11 ∧ ivh13 a0 11 ≤ 100 := W13.int ty9 11
                have ri72 : 1 ≤ ivh13 a0 12 ∧ ivh13 a0 12 ≤ 50 := W13.int ty9 12
                have ri73 : (-2147483648) ≤ ivh13 a0 13 ∧ ivh13 a0 13 ≤ 2147483647 := W13.int ty9 13
                have ri74 : (-2147483648) ≤ ivh13 a0 14 ∧ ivh13 a0 14 ≤ 2147483647 := W13.int ty9 14
                have ri75 : (-2147483648) ≤ ivh13 a0 15 ∧ ivh13 a0 15 ≤ 2147483647 := W13.int ty9 15
                have ri76 : (-2147483648) ≤ ivh13 a0 16 ∧ ivh13 a0 16 ≤ 2147483647 := W13.int ty9 16
                have pl9 := Phi.le W13 skb1
                exact c_iret C dX11_set_226 rfl (by decide) (rom0 hph pl9 (by decide)) ⟨f13, rfl, Xb1, F9, W13, ⟨by omega, by omega⟩, trivial, (by omega), (by omega), (by omega), (by omega), (by omega), (by omega)⟩
            · have J1 : ∀ (wy2 ok : Int) (Lb2 : List Nat) (clb2 lnb2 : Nat → Nat) (ivb2 : Nat → Nat → Int) (rvb2 : Nat → Nat → Option Nat) , XT L cl ln Lb2 clb2 lnb2 → WT (g0 G) sk Lb2 clb2 lnb2 ivb2 rvb2 → fT [1, 14, 15, 50, 51, 52, 53, 54, 55, 18, 19, 64, 67, 203] L cl iv rv ivb2 rvb2 → (0 ≤ wy2 ∧ wy2 ≤ 9) → (0 ≤ ok ∧ ok ≤ 1) → (0 ≤ ivb2 (sk 14) 0 ∧ ivb2 (sk 14) 0 ≤ 501 ∧ (ivb2 (sk 14) 1 = 0 ∨ ivb2 (sk 14) 0 ≤ 500)) → (ivb2 a0 11 = iv a0 11) → (ivb2 a0 12 = iv a0 12) → (ivb2 a0 13 = iv a0 13) → (ivb2 a0 14 = iv a0 14) → (ivb2 a0 15 = iv a0 15) → (ivb2 a0 16 = iv a0 16) → cw p l e 8 ((PHM) + 0 - ((Phi (g0 G) sk) ln rv)) s m args below meth c G A 7 (MQ below (Qu G A (Qp G (Phi (g0 G) sk) ((Phi (g0 G) sk) ln rv) 0 (fun v L2 cl2 ln2 iv2 rv2 => ∃ f : Int, v = some (.int (iI f)) ∧ XT L cl ln L2 cl2 ln2 ∧ fT [1, 14, 15, 50, 51, 52, 53, 54, 55, 18, 19, 64, 67, 203] L cl iv rv iv2 rv2 ∧ WT (g0 G) sk L2 cl2 ln2 iv2 rv2 ∧ (-2147483648 ≤ f ∧ f ≤ 2147483647) ∧ (True) ∧ iv2 a0 11 = iv a0 11 ∧ iv2 a0 12 = iv a0 12 ∧ iv2 a0 13 = iv a0 13 ∧ iv2 a0 14 = iv a0 14 ∧ iv2 a0 15 = iv a0 15 ∧ iv2 a0 16 = iv a0 16))) args s (((PHM) + 0 - ((Phi (g0 G) sk) ln rv)) / 16) ((PHM) + 0 - ((Phi (g0 G) sk) ln rv)) A) (Phi (g0 G) sk) ((Phi (g0 G) sk) ln rv) Lb2 clb2 lnb2 ivb2 rvb2 0 165 [(3, .int (iI wy2)), (6, .int (iI ok)), (4, .int (iI cm)), (5, .int (iI k)), (2, .ref ob1), (0, .ref a0), (1, .int (iI i))] [] := by
                intro  wy2 ok Lb2 clb2 lnb2 ivb2 rvb2 Xb2 Wb2 Fb2  hwy2 hok hsr2 hkp11 hkp12 hkp13 hkp14 hkp15 hkp16
                have skb2 := Xb2.skl hS
                have mrb2 := MRK.call hmr hW hS Xb2 Fb2 rfl rfl
                refine c_iload (j := 1) C dX11_set_165 rfl ?_
                refine c_if_ne (tgt := 176) C ⟨by omega, by omega⟩ dX11_set_167 (by decide) (fun c7 => ?_) (fun c7 => ?_)
                · refine c_iload_n (j := 0) C dX11_set_176 rfl ?_
                  refine c_if_ne (tgt := 197) C ⟨by omega, by omega⟩ dX11_set_177 (by decide) (fun c8 => ?_) (fun c8 => ?_)
                  · refine c_iinc (z := k) (j := 3) (lv2 := [(5, .int (iI (k + 1))), (3, .int (iI wy2)), (6, .int (iI ok)), (4, .int (iI cm)), (2, .ref ob1), (0, .ref a0), (1, .int (iI i))]) C dX11_set_197 rfl (by decide) rfl ?_
                    refine c_goto (tgt := 55) C dX11_set_200 (by decide) ?_
                    have ty10 := Xb2.ty tsk14
                    have ri77 : (-2147483648) ≤ ivb2 (sk 14) 0 ∧ ivb2 (sk 14) 0 ≤ 2147483647 := Wb2.int ty10 0
                    have ri78 : 0 ≤ ivb2 (sk 14) 1 ∧ ivb2 (sk 14) 1 ≤ 1 := Wb2.int ty10 1
                    have ty11 := Xb2.ty t_a0
                    have ri79 : 1 ≤ ivb2 a0 11 ∧ ivb2 a0 11 ≤ 100 := Wb2.int ty11 11
                    have ri80 : 1 ≤ ivb2 a0 12 ∧ ivb2 a0 12 ≤ 50 := Wb2.int ty11 12
                    have ri81 : (-2147483648) ≤ ivb2 a0 13 ∧ ivb2 a0 13 ≤ 2147483647 := Wb2.int ty11 13
                    have ri82 : (-2147483648) ≤ ivb2 a0 14 ∧ ivb2 a0 14 ≤ 2147483647 := Wb2.int ty11 14
                    have ri83 : (-2147483648) ≤ ivb2 a0 15 ∧ ivb2 a0 15 ≤ 2147483647 := Wb2.int ty11 15
                    have ri84 : (-2147483648) ≤ ivb2 a0 16 ∧ ivb2 a0 16 ≤ 2147483647 := Wb2.int ty11 16
                    refine c_lv (lv2 := [(3, .int (iI wy2)), (4, .int (iI cm)), (5, .int (iI (k + 1))), (2, .ref ob1), (0, .ref a0), (1, .int (iI i))]) [1, 3, 0, 4, 5, 6] rfl ?_
                    exact ih1  wy2 cm (k + 1) _ _ _ _ _ (by omega) Xb2 Wb2 Fb2  (by omega) (by omega) (by omega) (by show 0 ≤ ivb2 (sk 14) 0 ∧ ivb2 (sk 14) 0 ≤ 501 ∧ (ivb2 (sk 14) 1 = 0 ∨ ivb2 (sk 14) 0 ≤ 500); omega) (by show ivb2 a0 11 = iv a0 11; omega) (by show ivb2 a0 12 = iv a0 12; omega) (by show ivb2 a0 13 = iv a0 13; omega) (by show ivb2 a0 14 = iv a0 14; omega) (by show ivb2 a0 15 = iv a0 15; omega) (by show ivb2 a0 16 = iv a0 16; omega)
                  · refine c_aload_n (j := 5) (x := a0) C dX11_set_180 rfl ?_
                    have ty12 := Xb2.ty t_a0
                    obtain ⟨rb9, rq9, trb9⟩ := Wb2.ref ty12 5 rfl rfl rfl
                    have erb9 := Wb2.sk trb9 (by decide) rfl
                    subst erb9
                    refine c_getr (k := 5) C ck_12 dX11_set_181 w2_49 (by decide) ty12 rfl rfl (by decide) rfl rq9 ?_
                    refine c_st (st2 := [.ref (sk 14)]) rfl ?_
                    refine c_aload_n (j := 5) (x := a0) C dX11_set_184 rfl ?_
                    obtain ⟨rb10, rq10, trb10⟩ := Wb2.ref ty12 1 rfl rfl rfl
                    have erb10 := Wb2.sk trb10 (by decide) rfl
                    subst erb10
                    refine c_getr (k := 1) C ck_12 dX11_set_185 w2_45 (by decide) ty12 rfl rfl (by decide) rfl rq10 ?_
                    refine c_st (st2 := [.ref (sk 3), .ref (sk 14)]) rfl ?_
                    refine c_aload_n (j := 5) (x := a0) C dX11_set_188 rfl ?_
                    obtain ⟨rb11, rq11, trb11⟩ := Wb2.ref ty12 6 rfl rfl rfl
                    have erb11 := Wb2.sk trb11 (by decide) rfl
                    subst erb11
                    refine c_getr (k := 6) C ck_12 dX11_set_189 w2_50 (by decide) ty12 rfl rfl (by decide) rfl rq11 ?_
                    refine c_st (st2 := [.ref (sk 15), .ref (sk 3), .ref (sk 14)]) rfl ?_
                    have ty13 := Xb2.ty tsk14
                    have ty14 := Xb2.ty tsk3
                    have ty15 := Xb2.ty tsk15
                    have ri85 : (-2147483648) ≤ ivb2 (sk 14) 0 ∧ ivb2 (sk 14) 0 ≤ 2147483647 := Wb2.int ty13 0
                    have ri86 : 0 ≤ ivb2 (sk 14) 1 ∧ ivb2 (sk 14) 1 ≤ 1 := Wb2.int ty13 1
                    have pl10 := Phi.le Wb2 skb2
                    refine d_callV (As := [.ref (sk 3), .ref (sk 15)]) (rest := []) C hM (C_sstep (a0 := (sk 14)) (a1 := (sk 3)) (a2 := (sk 15)) Wb2 skb2 ty13 ty14 ty15  (by show 0 ≤ ivb2 (sk 14) 0 ∧ ivb2 (sk 14) 0 ≤ 501 ∧ (ivb2 (sk 14) 1 = 0 ∨ ivb2 (sk 14) 0 ≤ 500); omega)) dX11_set_192 kV_X11_238 rfl ty13 rfl rfl (by decide) ck_9 rfl (Nat.le_of_ble_eq_true rfl) ⟨(Nat.le_of_ble_eq_true rfl), (Nat.le_of_ble_eq_true rfl)⟩ hph pl10 (show 0 + 0 = 0 from rfl) (by decide) (fun rh14 Lh14 clh14 lnh14 ivh14 rvh14 h14 => ?_)
                    obtain ⟨f14, rfl, rfl, rfl, rfl, rfl, fl14, W14, rgf14, exf14⟩ := h14
                    have F10 := Fb2.call Xb2 fl14 rfl
                    have mr10 := MRK.call mrb2 Wb2 skb2 XT.refl fl14 rfl rfl
                    refine c_st (st2 := [.int (iI f14)]) rfl ?_
                    have ri87 : (-2147483648) ≤ ivh14 (sk 14) 0 ∧ ivh14 (sk 14) 0 ≤ 2147483647 := W14.int ty13 0
                    have ri88 : 0 ≤ ivh14 (sk 14) 1 ∧ ivh14 (sk 14) 1 ≤ 1 := W14.int ty13 1
                    have gf14 : (0 ≤ f14 ∧ f14 ≤ 3) ∧ 0 ≤ ivh14 (sk 14) 0 ∧ ivh14 (sk 14) 0 ≤ 501 ∧ (ivh14 (sk 14) 1 = 0 ∨ ivh14 (sk 14) 0 ≤ 500) := exf14
                    refine c_istore (lv2 := [(4, .int (iI f14)), (3, .int (iI wy2)), (6, .int (iI ok)), (5, .int (iI k)), (2, .ref ob1), (0, .ref a0), (1, .int (iI i))]) C dX11_set_195 (by decide) rfl ?_
                    refine c_iinc (z := k) (j := 3) (lv2 := [(5, .int (iI (k + 1))), (4, .int (iI f14)), (3, .int (iI wy2)), (6, .int (iI ok)), (2, .ref ob1), (0, .ref a0), (1, .int (iI i))]) C dX11_set_197 rfl (by decide) rfl ?_
                    refine c_goto (tgt := 55) C dX11_set_200 (by decide) ?_
                    have ri89 : 1 ≤ ivh14 a0 11 ∧ ivh14 a0 11 ≤ 100 := W14.int ty12 11
                    have ie89 : ivh14 a0 11 = ivb2 a0 11 := fl14.i ty12 rfl 11
                    have ri90 : 1 ≤ ivh14 a0 12 ∧ ivh14 a0 12 ≤ 50 := W14.int ty12 12
                    have ie91 : ivh14 a0 12 = ivb2 a0 12 := fl14.i ty12 rfl 12
                    have ri91 : (-2147483648) ≤ ivh14 a0 13 ∧ ivh14 a0 13 ≤ 2147483647 := W14.int ty12 13
                    have ie93 : ivh14 a0 13 = ivb2 a0 13 := fl14.i ty12 rfl 13
                    have ri92 : (-2147483648) ≤ ivh14 a0 14 ∧ ivh14 a0 14 ≤ 2147483647 := W14.int ty12 14
                    have ie95 : ivh14 a0 14 = ivb2 a0 14 := fl14.i ty12 rfl 14
                    have ri93 : (-2147483648) ≤ ivh14 a0 15 ∧ ivh14 a0 15 ≤ 2147483647 := W14.int ty12 15
                    have ie97 : ivh14 a0 15 = ivb2 a0 15 := fl14.i ty12 rfl 15
                    have ri94 : (-2147483648) ≤ ivh14 a0 16 ∧ ivh14 a0 16 ≤ 2147483647 := W14.int ty12 16
                    have ie99 : ivh14 a0 16 = ivb2 a0 16 := fl14.i ty12 rfl 16
                    refine c_lv (lv2 := [(3, .int (iI wy2)), (4, .int (iI f14)), (5, .int (iI (k + 1))), (2, .ref ob1), (0, .ref a0), (1, .int (iI i))]) [2, 1, 0, 4, 5, 6] rfl ?_
                    exact ih1  wy2 f14 (k + 1) _ _ _ _ _ (by omega) Xb2 W14 F10  (by omega) (by omega) (by omega) (by show 0 ≤ ivh14 (sk 14) 0 ∧ ivh14 (sk 14) 0 ≤ 501 ∧ (ivh14 (sk 14) 1 = 0 ∨ ivh14 (sk 14) 0 ≤ 500); omega) (by show ivh14 a0 11 = iv a0 11; omega) (by show ivh14 a0 12 = iv a0 12; omega) (by show ivh14 a0 13 = iv a0 13; omega) (by show ivh14 a0 14 = iv a0 14; omega) (by show ivh14 a0 15 = iv a0 15; omega) (by show ivh14 a0 16 = iv a0 16; omega)
                · refine c_bipush (z := 6) C dX11_set_170 (by decide) ?_
                  refine c_istore_n (lv2 := [(3, .int (iI 6)), (6, .int (iI ok)), (4, .int (iI cm)), (5, .int (iI k)), (2, .ref ob1), (0, .ref a0), (1, .int (iI i))]) C dX11_set_172 (by decide) rfl ?_
                  refine c_goto (tgt := 197) C dX11_set_173 (by decide) ?_
                  refine c_iinc (z := k) (j := 3) (lv2 := [(5, .int (iI (k + 1))), (3, .int (iI 6)), (6, .int (iI ok)), (4, .int (iI cm)), (2, .ref ob1), (0, .ref a0), (1, .int (iI i))]) C dX11_set_197 rfl (by decide) rfl ?_
                  refine c_goto (tgt := 55) C dX11_set_200 (by decide) ?_
                  have ty16 := Xb2.ty tsk14
                  have ri95 : (-2147483648) ≤ ivb2 (sk 14) 0 ∧ ivb2 (sk 14) 0 ≤ 2147483647 := Wb2.int ty16 0
                  have ri96 : 0 ≤ ivb2 (sk 14) 1 ∧ ivb2 (sk 14) 1 ≤ 1 := Wb2.int ty16 1
                  have ty17 := Xb2.ty t_a0
                  have ri97 : 1 ≤ ivb2 a0 11 ∧ ivb2 a0 11 ≤ 100 := Wb2.int ty17 11
                  have ri98 : 1 ≤ ivb2 a0 12 ∧ ivb2 a0 12 ≤ 50 := Wb2.int ty17 12
                  have ri99 : (-2147483648) ≤ ivb2 a0 13 ∧ ivb2 a0 13 ≤ 2147483647 := Wb2.int ty17 13
                  have ri100 : (-2147483648) ≤ ivb2 a0 14 ∧ ivb2 a0 14 ≤ 2147483647 := Wb2.int ty17 14
                  have ri101 : (-2147483648) ≤ ivb2 a0 15 ∧ ivb2 a0 15 ≤ 2147483647 := Wb2.int ty17 15
                  have ri102 : (-2147483648) ≤ ivb2 a0 16 ∧ ivb2 a0 16 ≤ 2147483647 := Wb2.int ty17 16
                  refine c_lv (lv2 := [(3, .int (iI 6)), (4, .int (iI cm)), (5, .int (iI (k + 1))), (2, .ref ob1), (0, .ref a0), (1, .int (iI i))]) [1, 3, 0, 4, 5, 6] rfl ?_
                  exact ih1  6 cm (k + 1) _ _ _ _ _ (by omega) Xb2 Wb2 Fb2  (by omega) (by omega) (by omega) (by show 0 ≤ ivb2 (sk 14) 0 ∧ ivb2 (sk 14) 0 ≤ 501 ∧ (ivb2 (sk 14) 1 = 0 ∨ ivb2 (sk 14) 0 ≤ 500); omega) (by show ivb2 a0 11 = iv a0 11; omega) (by show ivb2 a0 12 = iv a0 12; omega) (by show ivb2 a0 13 = iv a0 13; omega) (by show ivb2 a0 14 = iv a0 14; omega) (by show ivb2 a0 15 = iv a0 15; omega) (by show ivb2 a0 16 = iv a0 16; omega)
              refine c_iconst C dX11_set_71 ?_
              refine c_istore (lv2 := [(6, .int (iI 1)), (3, .int (iI wy)), (4, .int (iI cm)), (5, .int (iI k)), (2, .ref ob1), (0, .ref a0), (1, .int (iI i))]) C dX11_set_72 (by decide) rfl ?_
              refine c_iload (j := 2) C dX11_set_74 rfl ?_
              refine c_iconst C dX11_set_76 ?_
              refine c_icmp_ne (tgt := 92) C ⟨by omega, by omega⟩ ⟨by decide, by decide⟩ dX11_set_77 (by decide) (fun c9 => ?_) (fun c9 => ?_)
              · refine c_iload (j := 2) C dX11_set_92 rfl ?_
                refine c_iconst C dX11_set_94 ?_
                refine c_icmp_ne (tgt := 119) C ⟨by omega, by omega⟩ ⟨by decide, by decide⟩ dX11_set_95 (by decide) (fun c10 => ?_) (fun c10 => ?_)
                · refine c_aload_n (j := 5) (x := a0) C dX11_set_119 rfl ?_
                  have ty18 := Xb1.ty t_a0
                  obtain ⟨rb12, rq12, trb12⟩ := Wb1.ref ty18 6 rfl rfl rfl
                  have erb12 := Wb1.sk trb12 (by decide) rfl
                  subst erb12
                  refine c_getr (k := 6) C ck_12 dX11_set_120 w2_50 (by decide) ty18 rfl rfl (by decide) rfl rq12 ?_
                  refine c_st (st2 := [.ref (sk 15)]) rfl ?_
                  refine c_aload_n (j := 4) (x := ob1) C dX11_set_123 rfl ?_
                  have ty19 := Xb1.ty tsk15
                  have ty20 := Xb1.ty tob1
                  have ri103 : 0 ≤ ivb1 (sk 15) 4 ∧ ivb1 (sk 15) 4 ≤ 500 := Wb1.int ty19 4
                  have pl11 := Phi.le Wb1 skb1
                  refine d_callV (As := [.ref ob1]) (rest := []) C hM (C_setBy (a0 := (sk 15)) (a1 := ob1) Wb1 skb1 ty19 ty20  ) dX11_set_124 kV_X11_253 rfl ty19 rfl rfl (by decide) ck_7 rfl (Nat.le_of_ble_eq_true rfl) ⟨(Nat.le_of_ble_eq_true rfl), (Nat.le_of_ble_eq_true rfl)⟩ hph pl11 (show 0 + 0 = 0 from rfl) (by decide) (fun rh15 Lh15 clh15 lnh15 ivh15 rvh15 h15 => ?_)
                  obtain ⟨f15, rfl, rfl, rfl, rfl, rfl, fl15, W15, rgf15, exf15⟩ := h15
                  have F11 := Fb1.call Xb1 fl15 rfl
                  have mr11 := MRK.call mrb1 Wb1 skb1 XT.refl fl15 rfl rfl
                  refine c_st (st2 := [.int (iI f15)]) rfl ?_
                  have ri104 : 0 ≤ ivh15 (sk 15) 4 ∧ ivh15 (sk 15) 4 ≤ 500 := W15.int ty19 4
                  have ri105 : 0 ≤ ivh15 (sk 15) 7 ∧ ivh15 (sk 15) 7 ≤ 100000 := W15.int ty19 7
                  have gf15 : (f15 = 0 ∨ f15 = 6 ∨ f15 = 7) ∧ ivh15 (sk 15) 4 = ivb1 (sk 15) 4 ∧ (f15 = 0 → ivh15 (sk 15) 7 ≤ 200) := exf15
                  refine c_istore_n (lv2 := [(3, .int (iI f15)), (6, .int (iI 1)), (4, .int (iI cm)), (5, .int (iI k)), (2, .ref ob1), (0, .ref a0), (1, .int (iI i))]) C dX11_set_127 (by decide) rfl ?_
                  refine c_iload_n (j := 0) C dX11_set_128 rfl ?_
                  refine c_if_ne (tgt := 158) C ⟨by omega, by omega⟩ dX11_set_129 (by decide) (fun c11 => ?_) (fun c11 => ?_)
                  · refine c_iconst C dX11_set_158 ?_
                    refine c_goto (tgt := 163) C dX11_set_159 (by decide) ?_
                    refine c_istore (lv2 := [(6, .int (iI 1)), (3, .int (iI f15)), (4, .int (iI cm)), (5, .int (iI k)), (2, .ref ob1), (0, .ref a0), (1, .int (iI i))]) C dX11_set_163 (by decide) rfl ?_
                    have ty21 := Xb1.ty tsk14
                    have ri106 : (-2147483648) ≤ ivh15 (sk 14) 0 ∧ ivh15 (sk 14) 0 ≤ 2147483647 := W15.int ty21 0
                    have ie112 : ivh15 (sk 14) 0 = ivb1 (sk 14) 0 := fl15.i ty21 rfl 0
                    have ri107 : 0 ≤ ivh15 (sk 14) 1 ∧ ivh15 (sk 14) 1 ≤ 1 := W15.int ty21 1
                    have ie114 : ivh15 (sk 14) 1 = ivb1 (sk 14) 1 := fl15.i ty21 rfl 1
                    have ri108 : 1 ≤ ivh15 a0 11 ∧ ivh15 a0 11 ≤ 100 := W15.int ty18 11
                    have ie116 : ivh15 a0 11 = ivb1 a0 11 := fl15.i ty18 rfl 11
                    have ri109 : 1 ≤ ivh15 a0 12 ∧ ivh15 a0 12 ≤ 50 := W15.int ty18 12
                    have ie118 : ivh15 a0 12 = ivb1 a0 12 := fl15.i ty18 rfl 12
                    have ri110 : (-2147483648) ≤ ivh15 a0 13 ∧ ivh15 a0 13 ≤ 2147483647 := W15.int ty18 13
                    have ie120 : ivh15 a0 13 = ivb1 a0 13 := fl15.i ty18 rfl 13
                    have ri111 : (-2147483648) ≤ ivh15 a0 14 ∧ ivh15 a0 14 ≤ 2147483647 := W15.int ty18 14
                    have ie122 : ivh15 a0 14 = ivb1 a0 14 := fl15.i ty18 rfl 14
                    have ri112 : (-2147483648) ≤ ivh15 a0 15 ∧ ivh15 a0 15 ≤ 2147483647 := W15.int ty18 15
                    have ie124 : ivh15 a0 15 = ivb1 a0 15 := fl15.i ty18 rfl 15
                    have ri113 : (-2147483648) ≤ ivh15 a0 16 ∧ ivh15 a0 16 ≤ 2147483647 := W15.int ty18 16
                    have ie126 : ivh15 a0 16 = ivb1 a0 16 := fl15.i ty18 rfl 16
                    refine c_lv (lv2 := [(3, .int (iI f15)), (6, .int (iI 1)), (4, .int (iI cm)), (5, .int (iI k)), (2, .ref ob1), (0, .ref a0), (1, .int (iI i))]) [1, 0, 2, 3, 4, 5, 6] rfl ?_
                    exact J1  f15 1 _ _ _ _ _  Xb1 W15 F11  (by omega) (by omega) (by show 0 ≤ ivh15 (sk 14) 0 ∧ ivh15 (sk 14) 0 ≤ 501 ∧ (ivh15 (sk 14) 1 = 0 ∨ ivh15 (sk 14) 0 ≤ 500); omega) (by show ivh15 a0 11 = iv a0 11; omega) (by show ivh15 a0 12 = iv a0 12; omega) (by show ivh15 a0 13 = iv a0 13; omega) (by show ivh15 a0 14 = iv a0 14; omega) (by show ivh15 a0 15 = iv a0 15; omega) (by show ivh15 a0 16 = iv a0 16; omega)
                  · refine c_aload_n (j := 5) (x := a0) C dX11_set_132 rfl ?_
                    obtain ⟨rb13, rq13, trb13⟩ := W15.ref ty18 10 rfl rfl rfl
                    refine c_getr (k := 10) C ck_12 dX11_set_133 w2_54 (by decide) ty18 rfl rfl (by decide) rfl rq13 ?_
                    refine c_st (st2 := [.ref rb13]) rfl ?_
                    refine c_aload_n (j := 5) (x := a0) C dX11_set_136 rfl ?_
                    refine c_getr (k := 6) C ck_12 dX11_set_137 w2_50 (by decide) ty18 rfl rfl (by decide) rfl rq12 ?_
                    refine c_st (st2 := [.ref (sk 15), .ref rb13]) rfl ?_
                    refine c_aload_n (j := 4) (x := ob1) C dX11_set_140 rfl ?_
                    have ri114 : (-2147483648) ≤ ivh15 ob1 0 ∧ ivh15 ob1 0 ≤ 2147483647 := W15.int ty20 0
                    have ie128 : ivh15 ob1 0 = ivb1 ob1 0 := fl15.i ty20 rfl 0
                    have ie129 : ivb1 ob1 0 = iv ob1 0 := Fb1.i tob1 rfl 0
                    refine c_get (k := 0) C ck_10 dX11_set_141 w2_176 (by decide) ty20 rfl rfl (by decide) rfl ?_
                    refine c_aload_n (j := 5) (x := a0) C dX11_set_144 rfl ?_
                    have ri115 : 1 ≤ ivh15 a0 11 ∧ ivh15 a0 11 ≤ 100 := W15.int ty18 11
                    have ie130 : ivh15 a0 11 = ivb1 a0 11 := fl15.i ty18 rfl 11
                    refine c_get (k := 11) C ck_12 dX11_set_145 w2_55 (by decide) ty18 rfl rfl (by decide) rfl ?_
                    refine c_aload_n (j := 5) (x := a0) C dX11_set_148 rfl ?_
                    have ri116 : (-2147483648) ≤ ivh15 a0 13 ∧ ivh15 a0 13 ≤ 2147483647 := W15.int ty18 13
                    have ie132 : ivh15 a0 13 = ivb1 a0 13 := fl15.i ty18 rfl 13
                    refine c_get (k := 13) C ck_12 dX11_set_149 w2_57 (by decide) ty18 rfl rfl (by decide) rfl ?_
                    refine d_callV (As := [.ref (sk 15), .int (iI (ivh15 ob1 0)), .int (iI (ivh15 a0 11)), .int (iI (ivh15 a0 13))]) (rest := []) C hM (C_take (a0 := rb13) (a1 := (sk 15)) (x := ivh15 ob1 0) (w1 := ivh15 a0 11) (h1 := ivh15 a0 13) W15 skb1 trb13 ty19 (by omega) (by omega) (by omega) (by show 1 ≤ (ivh15 a0 11) ∧ (ivh15 a0 11) ≤ 100; omega)) dX11_set_152 kV_X11_256 rfl trb13 rfl rfl (by decide) ck_8 rfl (Nat.le_of_ble_eq_true rfl) ⟨(Nat.le_of_ble_eq_true rfl), (Nat.le_of_ble_eq_true rfl)⟩ hph pl11 (show 0 + 0 = 0 from rfl) (by decide) (fun rh16 Lh16 clh16 lnh16 ivh16 rvh16 h16 => ?_)
                    obtain ⟨f16, rfl, xl16, fl16, W16, rgf16, exf16⟩ := h16
                    have F12 := F11.call Xb1 fl16 rfl
                    have mr12 := MRK.call mr11 W15 skb1 xl16 fl16 rfl rfl
                    have ty22 := Xb1.ty tsk2
                    have ty23 := Xb1.ty tsk3
                    have ty24 := Xb1.ty tsk4
                    have ty25 := Xb1.ty tsk5
                    have ty26 := Xb1.ty tsk13
                    have ty27 := Xb1.ty tsk14
                    have ty28 := Xb1.ty tsk16
                    have ty29 := Xb1.ty tsk17
                    have ty30 := Xb1.ty tsk22
                    have ty31 := Xb1.ty tsk23
                    have ty32 := Xb1.ty trb2
                    have X1 := Xb1.trans xl16
                    have sk1 := xl16.skl skb1
                    refine c_st (st2 := [.int (iI f16)]) rfl ?_
                    refine c_if_eq (tgt := 162) C ⟨by omega, by omega⟩ dX11_set_155 (by decide) (fun c12 => ?_) (fun c12 => ?_)
                    · refine c_iconst C dX11_set_162 ?_
                      refine c_istore (lv2 := [(6, .int (iI 0)), (3, .int (iI f15)), (4, .int (iI cm)), (5, .int (iI k)), (2, .ref ob1), (0, .ref a0), (1, .int (iI i))]) C dX11_set_163 (by decide) rfl ?_
                      have ty33 := xl16.ty ty27
                      have ri117 : (-2147483648) ≤ ivh16 (sk 14) 0 ∧ ivh16 (sk 14) 0 ≤ 2147483647 := W16.int ty33 0
                      have ie134 : ivh16 (sk 14) 0 = ivh15 (sk 14) 0 := fl16.i ty27 rfl 0
                      have ie135 : ivh15 (sk 14) 0 = ivb1 (sk 14) 0 := fl15.i ty27 rfl 0
                      have ri118 : 0 ≤ ivh16 (sk 14) 1 ∧ ivh16 (sk 14) 1 ≤ 1 := W16.int ty33 1
                      have ie137 : ivh16 (sk 14) 1 = ivh15 (sk 14) 1 := fl16.i ty27 rfl 1
                      have ie138 : ivh15 (sk 14) 1 = ivb1 (sk 14) 1 := fl15.i ty27 rfl 1
                      have ty34 := xl16.ty ty18
                      have ri119 : 1 ≤ ivh16 a0 11 ∧ ivh16 a0 11 ≤ 100 := W16.int ty34 11
                      have ie140 : ivh16 a0 11 = ivh15 a0 11 := fl16.i ty18 rfl 11
                      have ri120 : 1 ≤ ivh16 a0 12 ∧ ivh16 a0 12 ≤ 50 := W16.int ty34 12
                      have ie141 : ivh16 a0 12 = ivh15 a0 12 := fl16.i ty18 rfl 12
                      have ie142 : ivh15 a0 12 = ivb1 a0 12 := fl15.i ty18 rfl 12
                      have ri121 : (-2147483648) ≤ ivh16 a0 13 ∧ ivh16 a0 13 ≤ 2147483647 := W16.int ty34 13
                      have ie144 : ivh16 a0 13 = ivh15 a0 13 := fl16.i ty18 rfl 13
                      have ri122 : (-2147483648) ≤ ivh16 a0 14 ∧ ivh16 a0 14 ≤ 2147483647 := W16.int ty34 14
                      have ie145 : ivh16 a0 14 = ivh15 a0 14 := fl16.i ty18 rfl 14
                      have ie146 : ivh15 a0 14 = ivb1 a0 14 := fl15.i ty18 rfl 14
                      have ri123 : (-2147483648) ≤ ivh16 a0 15 ∧ ivh16 a0 15 ≤ 2147483647 := W16.int ty34 15
                      have ie148 : ivh16 a0 15 = ivh15 a0 15 := fl16.i ty18 rfl 15
                      have ie149 : ivh15 a0 15 = ivb1 a0 15 := fl15.i ty18 rfl 15
                      have ri124 : (-2147483648) ≤ ivh16 a0 16 ∧ ivh16 a0 16 ≤ 2147483647 := W16.int ty34 16
                      have ie151 : ivh16 a0 16 = ivh15 a0 16 := fl16.i ty18 rfl 16
                      have ie152 : ivh15 a0 16 = ivb1 a0 16 := fl15.i ty18 rfl 16
                      refine c_lv (lv2 := [(3, .int (iI f15)), (6, .int (iI 0)), (4, .int (iI cm)), (5, .int (iI k)), (2, .ref ob1), (0, .ref a0), (1, .int (iI i))]) [1, 0, 2, 3, 4, 5, 6] rfl ?_
                      exact J1  f15 0 _ _ _ _ _  X1 W16 F12  (by omega) (by omega) (by show 0 ≤ ivh16 (sk 14) 0 ∧ ivh16 (sk 14) 0 ≤ 501 ∧ (ivh16 (sk 14) 1 = 0 ∨ ivh16 (sk 14) 0 ≤ 500); omega) (by show ivh16 a0 11 = iv a0 11; omega) (by show ivh16 a0 12 = iv a0 12; omega) (by show ivh16 a0 13 = iv a0 13; omega) (by show ivh16 a0 14 = iv a0 14; omega) (by show ivh16 a0 15 = iv a0 15; omega) (by show ivh16 a0 16 = iv a0 16; omega)
                    · refine c_iconst C dX11_set_158 ?_
                      refine c_goto (tgt := 163) C dX11_set_159 (by decide) ?_
                      refine c_istore (lv2 := [(6, .int (iI 1)), (3, .int (iI f15)), (4, .int (iI cm)), (5, .int (iI k)), (2, .ref ob1), (0, .ref a0), (1, .int (iI i))]) C dX11_set_163 (by decide) rfl ?_
                      have ty35 := xl16.ty ty27
                      have ri125 : (-2147483648) ≤ ivh16 (sk 14) 0 ∧ ivh16 (sk 14) 0 ≤ 2147483647 := W16.int ty35 0
                      have ie154 : ivh16 (sk 14) 0 = ivh15 (sk 14) 0 := fl16.i ty27 rfl 0
                      have ie155 : ivh15 (sk 14) 0 = ivb1 (sk 14) 0 := fl15.i ty27 rfl 0
                      have ri126 : 0 ≤ ivh16 (sk 14) 1 ∧ ivh16 (sk 14) 1 ≤ 1 := W16.int ty35 1
                      have ie157 : ivh16 (sk 14) 1 = ivh15 (sk 14) 1 := fl16.i ty27 rfl 1
                      have ie158 : ivh15 (sk 14) 1 = ivb1 (sk 14) 1 := fl15.i ty27 rfl 1
                      have ty36 := xl16.ty ty18
                      have ri127 : 1 ≤ ivh16 a0 11 ∧ ivh16 a0 11 ≤ 100 := W16.int ty36 11
                      have ie160 : ivh16 a0 11 = ivh15 a0 11 := fl16.i ty18 rfl 11
                      have ri128 : 1 ≤ ivh16 a0 12 ∧ ivh16 a0 12 ≤ 50 := W16.int ty36 12
                      have ie161 : ivh16 a0 12 = ivh15 a0 12 := fl16.i ty18 rfl 12
                      have ie162 : ivh15 a0 12 = ivb1 a0 12 := fl15.i ty18 rfl 12
                      have ri129 : (-2147483648) ≤ ivh16 a0 13 ∧ ivh16 a0 13 ≤ 2147483647 := W16.int ty36 13
                      have ie164 : ivh16 a0 13 = ivh15 a0 13 := fl16.i ty18 rfl 13
                      have ri130 : (-2147483648) ≤ ivh16 a0 14 ∧ ivh16 a0 14 ≤ 2147483647 := W16.int ty36 14
                      have ie165 : ivh16 a0 14 = ivh15 a0 14 := fl16.i ty18 rfl 14
                      have ie166 : ivh15 a0 14 = ivb1 a0 14 := fl15.i ty18 rfl 14
                      have ri131 : (-2147483648) ≤ ivh16 a0 15 ∧ ivh16 a0 15 ≤ 2147483647 := W16.int ty36 15
                      have ie168 : ivh16 a0 15 = ivh15 a0 15 := fl16.i ty18 rfl 15
                      have ie169 : ivh15 a0 15 = ivb1 a0 15 := fl15.i ty18 rfl 15
                      have ri132 : (-2147483648) ≤ ivh16 a0 16 ∧ ivh16 a0 16 ≤ 2147483647 := W16.int ty36 16
                      have ie171 : ivh16 a0 16 = ivh15 a0 16 := fl16.i ty18 rfl 16
                      have ie172 : ivh15 a0 16 = ivb1 a0 16 := fl15.i ty18 rfl 16
                      refine c_lv (lv2 := [(3, .int (iI f15)), (6, .int (iI 1)), (4, .int (iI cm)), (5, .int (iI k)), (2, .ref ob1), (0, .ref a0), (1, .int (iI i))]) [1, 0, 2, 3, 4, 5, 6] rfl ?_
                      exact J1  f15 1 _ _ _ _ _  X1 W16 F12  (by omega) (by omega) (by show 0 ≤ ivh16 (sk 14) 0 ∧ ivh16 (sk 14) 0 ≤ 501 ∧ (ivh16 (sk 14) 1 = 0 ∨ ivh16 (sk 14) 0 ≤ 500); omega) (by show ivh16 a0 11 = iv a0 11; omega) (by show ivh16 a0 12 = iv a0 12; omega) (by show ivh16 a0 13 = iv a0 13; omega) (by show ivh16 a0 14 = iv a0 14; omega) (by show ivh16 a0 15 = iv a0 15; omega) (by show ivh16 a0 16 = iv a0 16; omega)
                · refine c_aload_n (j := 5) (x := a0) C dX11_set_98 rfl ?_
                  have ty37 := Xb1.ty t_a0
                  obtain ⟨rb14, rq14, trb14⟩ := Wb1.ref ty37 10 rfl rfl rfl
                  refine c_getr (k := 10) C ck_12 dX11_set_99 w2_54 (by decide) ty37 rfl rfl (by decide) rfl rq14 ?_
                  refine c_st (st2 := [.ref rb14]) rfl ?_
                  refine c_aload_n (j := 5) (x := a0) C dX11_set_102 rfl ?_
                  obtain ⟨rb15, rq15, trb15⟩ := Wb1.ref ty37 5 rfl rfl rfl
                  have erb15 := Wb1.sk trb15 (by decide) rfl
                  subst erb15
                  refine c_getr (k := 5) C ck_12 dX11_set_103 w2_49 (by decide) ty37 rfl rfl (by decide) rfl rq15 ?_
                  refine c_st (st2 := [.ref (sk 14), .ref rb14]) rfl ?_
                  have ty38 := Xb1.ty tsk14
                  have ri133 : 0 ≤ ivb1 (sk 14) 2 ∧ ivb1 (sk 14) 2 ≤ 1 := Wb1.int ty38 2
                  refine c_get (k := 2) C ck_9 dX11_set_106 w1_106 (by decide) ty38 rfl rfl (by decide) rfl ?_
                  refine c_aload_n (j := 5) (x := a0) C dX11_set_109 rfl ?_
                  have ri134 : 1 ≤ ivb1 a0 11 ∧ ivb1 a0 11 ≤ 100 := Wb1.int ty37 11
                  refine c_get (k := 11) C ck_12 dX11_set_110 w2_55 (by decide) ty37 rfl rfl (by decide) rfl ?_
                  have pl12 := Phi.le Wb1 skb1
                  refine d_callV (As := [.int (iI (ivb1 (sk 14) 2)), .int (iI (ivb1 a0 11))]) (rest := []) C hM (C_endText (a0 := rb14) (g := ivb1 (sk 14) 2) (w1 := ivb1 a0 11) Wb1 skb1 trb14 (by omega) (by omega) (by show 1 ≤ (ivb1 a0 11) ∧ (ivb1 a0 11) ≤ 100; omega)) dX11_set_113 kV_X11_249 rfl trb14 rfl rfl (by decide) ck_8 rfl (Nat.le_of_ble_eq_true rfl) ⟨(Nat.le_of_ble_eq_true rfl), (Nat.le_of_ble_eq_true rfl)⟩ hph pl12 (show 0 + 0 = 0 from rfl) (by decide) (fun rh17 Lh17 clh17 lnh17 ivh17 rvh17 h17 => ?_)
                  obtain ⟨rfl, rfl, rfl, rfl, rfl, fl17, W17, exf17⟩ := h17
                  have F13 := Fb1.call Xb1 fl17 rfl
                  have mr13 := MRK.call mrb1 Wb1 skb1 XT.refl fl17 rfl rfl
                  refine c_st (st2 := []) rfl ?_
                  refine c_goto (tgt := 165) C dX11_set_116 (by decide) ?_
                  have ri135 : (-2147483648) ≤ ivh17 (sk 14) 0 ∧ ivh17 (sk 14) 0 ≤ 2147483647 := W17.int ty38 0
                  have ie176 : ivh17 (sk 14) 0 = ivb1 (sk 14) 0 := fl17.i ty38 rfl 0
                  have ri136 : 0 ≤ ivh17 (sk 14) 1 ∧ ivh17 (sk 14) 1 ≤ 1 := W17.int ty38 1
                  have ie178 : ivh17 (sk 14) 1 = ivb1 (sk 14) 1 := fl17.i ty38 rfl 1
                  have ri137 : 1 ≤ ivh17 a0 11 ∧ ivh17 a0 11 ≤ 100 := W17.int ty37 11
                  have ie180 : ivh17 a0 11 = ivb1 a0 11 := fl17.i ty37 rfl 11
                  have ri138 : 1 ≤ ivh17 a0 12 ∧ ivh17 a0 12 ≤ 50 := W17.int ty37 12
                  have ie181 : ivh17 a0 12 = ivb1 a0 12 := fl17.i ty37 rfl 12
                  have ri139 : (-2147483648) ≤ ivh17 a0 13 ∧ ivh17 a0 13 ≤ 2147483647 := W17.int ty37 13
                  have ie183 : ivh17 a0 13 = ivb1 a0 13 := fl17.i ty37 rfl 13
                  have ri140 : (-2147483648) ≤ ivh17 a0 14 ∧ ivh17 a0 14 ≤ 2147483647 := W17.int ty37 14
                  have ie185 : ivh17 a0 14 = ivb1 a0 14 := fl17.i ty37 rfl 14
                  have ri141 : (-2147483648) ≤ ivh17 a0 15 ∧ ivh17 a0 15 ≤ 2147483647 := W17.int ty37 15
                  have ie187 : ivh17 a0 15 = ivb1 a0 15 := fl17.i ty37 rfl 15
                  have ri142 : (-2147483648) ≤ ivh17 a0 16 ∧ ivh17 a0 16 ≤ 2147483647 := W17.int ty37 16
                  have ie189 : ivh17 a0 16 = ivb1 a0 16 := fl17.i ty37 rfl 16
                  refine c_lv (lv2 := [(3, .int (iI wy)), (6, .int (iI 1)), (4, .int (iI cm)), (5, .int (iI k)), (2, .ref ob1), (0, .ref a0), (1, .int (iI i))]) [1, 0, 2, 3, 4, 5, 6] rfl ?_
                  exact J1  wy 1 _ _ _ _ _  Xb1 W17 F13  (by omega) (by omega) (by show 0 ≤ ivh17 (sk 14) 0 ∧ ivh17 (sk 14) 0 ≤ 501 ∧ (ivh17 (sk 14) 1 = 0 ∨ ivh17 (sk 14) 0 ≤ 500); omega) (by show ivh17 a0 11 = iv a0 11; omega) (by show ivh17 a0 12 = iv a0 12; omega) (by show ivh17 a0 13 = iv a0 13; omega) (by show ivh17 a0 14 = iv a0 14; omega) (by show ivh17 a0 15 = iv a0 15; omega) (by show ivh17 a0 16 = iv a0 16; omega)
              · refine c_aload_n (j := 5) (x := a0) C dX11_set_80 rfl ?_
                have ty39 := Xb1.ty t_a0
                obtain ⟨rb16, rq16, trb16⟩ := Wb1.ref ty39 10 rfl rfl rfl
                refine c_getr (k := 10) C ck_12 dX11_set_81 w2_54 (by decide) ty39 rfl rfl (by decide) rfl rq16 ?_
                refine c_st (st2 := [.ref rb16]) rfl ?_
                have pl13 := Phi.le Wb1 skb1
                refine d_callV (As := []) (rest := []) C hM (C_beginText (a0 := rb16) Wb1 skb1 trb16  ) dX11_set_84 kV_X11_243 rfl trb16 rfl rfl (by decide) ck_8 rfl (Nat.le_of_ble_eq_true rfl) ⟨(Nat.le_of_ble_eq_true rfl), (Nat.le_of_ble_eq_true rfl)⟩ hph pl13 (show 0 + 0 = 0 from rfl) (by decide) (fun rh18 Lh18 clh18 lnh18 ivh18 rvh18 h18 => ?_)
                obtain ⟨f18, rfl, xl18, fl18, W18, rgf18, exf18⟩ := h18
                have F14 := Fb1.call Xb1 fl18 rfl
                have mr14 := MRK.call mrb1 Wb1 skb1 xl18 fl18 rfl rfl
                have ty40 := Xb1.ty tsk2
                have ty41 := Xb1.ty tsk3
                have ty42 := Xb1.ty tsk4
                have ty43 := Xb1.ty tsk5
                have ty44 := Xb1.ty tsk13
                have ty45 := Xb1.ty tsk14
                have ty46 := Xb1.ty tsk15
                have ty47 := Xb1.ty tsk16
                have ty48 := Xb1.ty tsk17
                have ty49 := Xb1.ty tsk22
                have ty50 := Xb1.ty tsk23
                have ty51 := Xb1.ty tob1
                have ty52 := Xb1.ty trb2
                have X2 := Xb1.trans xl18
                have sk2 := xl18.skl skb1
                refine c_st (st2 := [.int (iI f18)]) rfl ?_
                refine c_istore (lv2 := [(6, .int (iI f18)), (3, .int (iI wy)), (4, .int (iI cm)), (5, .int (iI k)), (2, .ref ob1), (0, .ref a0), (1, .int (iI i))]) C dX11_set_87 (by decide) rfl ?_
                refine c_goto (tgt := 165) C dX11_set_89 (by decide) ?_
                have ty53 := xl18.ty ty45
                have ri143 : (-2147483648) ≤ ivh18 (sk 14) 0 ∧ ivh18 (sk 14) 0 ≤ 2147483647 := W18.int ty53 0
                have ie191 : ivh18 (sk 14) 0 = ivb1 (sk 14) 0 := fl18.i ty45 rfl 0
                have ri144 : 0 ≤ ivh18 (sk 14) 1 ∧ ivh18 (sk 14) 1 ≤ 1 := W18.int ty53 1
                have ie193 : ivh18 (sk 14) 1 = ivb1 (sk 14) 1 := fl18.i ty45 rfl 1
                have ty54 := xl18.ty ty39
                have ri145 : 1 ≤ ivh18 a0 11 ∧ ivh18 a0 11 ≤ 100 := W18.int ty54 11
                have ie195 : ivh18 a0 11 = ivb1 a0 11 := fl18.i ty39 rfl 11
                have ri146 : 1 ≤ ivh18 a0 12 ∧ ivh18 a0 12 ≤ 50 := W18.int ty54 12
                have ie197 : ivh18 a0 12 = ivb1 a0 12 := fl18.i ty39 rfl 12
                have ri147 : (-2147483648) ≤ ivh18 a0 13 ∧ ivh18 a0 13 ≤ 2147483647 := W18.int ty54 13
                have ie199 : ivh18 a0 13 = ivb1 a0 13 := fl18.i ty39 rfl 13
                have ri148 : (-2147483648) ≤ ivh18 a0 14 ∧ ivh18 a0 14 ≤ 2147483647 := W18.int ty54 14
                have ie201 : ivh18 a0 14 = ivb1 a0 14 := fl18.i ty39 rfl 14
                have ri149 : (-2147483648) ≤ ivh18 a0 15 ∧ ivh18 a0 15 ≤ 2147483647 := W18.int ty54 15
                have ie203 : ivh18 a0 15 = ivb1 a0 15 := fl18.i ty39 rfl 15
                have ri150 : (-2147483648) ≤ ivh18 a0 16 ∧ ivh18 a0 16 ≤ 2147483647 := W18.int ty54 16
                have ie205 : ivh18 a0 16 = ivb1 a0 16 := fl18.i ty39 rfl 16
                refine c_lv (lv2 := [(3, .int (iI wy)), (6, .int (iI f18)), (4, .int (iI cm)), (5, .int (iI k)), (2, .ref ob1), (0, .ref a0), (1, .int (iI i))]) [1, 0, 2, 3, 4, 5, 6] rfl ?_
                exact J1  wy f18 _ _ _ _ _  X2 W18 F14  (by omega) (by omega) (by show 0 ≤ ivh18 (sk 14) 0 ∧ ivh18 (sk 14) 0 ≤ 501 ∧ (ivh18 (sk 14) 1 = 0 ∨ ivh18 (sk 14) 0 ≤ 500); omega) (by show ivh18 a0 11 = iv a0 11; omega) (by show ivh18 a0 12 = iv a0 12; omega) (by show ivh18 a0 13 = iv a0 13; omega) (by show ivh18 a0 14 = iv a0 14; omega) (by show ivh18 a0 15 = iv a0 15; omega) (by show ivh18 a0 16 = iv a0 16; omega)
    have ri151 : 1 ≤ ivh4 a0 11 ∧ ivh4 a0 11 ≤ 100 := W4.int t_a0 11
    have ie207 : ivh4 a0 11 = ivh3 a0 11 := fl4.i t_a0 rfl 11
    have ie208 : ivh3 a0 11 = ivh2 a0 11 := fl3.i t_a0 rfl 11
    have ie209 : ivh2 a0 11 = iv a0 11 := fl2.i t_a0 rfl 11
    have ri152 : 1 ≤ ivh4 a0 12 ∧ ivh4 a0 12 ≤ 50 := W4.int t_a0 12
    have ie210 : ivh4 a0 12 = ivh3 a0 12 := fl4.i t_a0 rfl 12
    have ie211 : ivh3 a0 12 = ivh2 a0 12 := fl3.i t_a0 rfl 12
    have ie212 : ivh2 a0 12 = iv a0 12 := fl2.i t_a0 rfl 12
    have ri153 : (-2147483648) ≤ ivh4 a0 13 ∧ ivh4 a0 13 ≤ 2147483647 := W4.int t_a0 13
    have ie213 : ivh4 a0 13 = ivh3 a0 13 := fl4.i t_a0 rfl 13
    have ie214 : ivh3 a0 13 = ivh2 a0 13 := fl3.i t_a0 rfl 13
    have ie215 : ivh2 a0 13 = iv a0 13 := fl2.i t_a0 rfl 13
    have ri154 : (-2147483648) ≤ ivh4 a0 14 ∧ ivh4 a0 14 ≤ 2147483647 := W4.int t_a0 14
    have ie216 : ivh4 a0 14 = ivh3 a0 14 := fl4.i t_a0 rfl 14
    have ie217 : ivh3 a0 14 = ivh2 a0 14 := fl3.i t_a0 rfl 14
    have ie218 : ivh2 a0 14 = iv a0 14 := fl2.i t_a0 rfl 14
    have ri155 : (-2147483648) ≤ ivh4 a0 15 ∧ ivh4 a0 15 ≤ 2147483647 := W4.int t_a0 15
    have ie219 : ivh4 a0 15 = ivh3 a0 15 := fl4.i t_a0 rfl 15
    have ie220 : ivh3 a0 15 = ivh2 a0 15 := fl3.i t_a0 rfl 15
    have ie221 : ivh2 a0 15 = iv a0 15 := fl2.i t_a0 rfl 15
    have ri156 : (-2147483648) ≤ ivh4 a0 16 ∧ ivh4 a0 16 ≤ 2147483647 := W4.int t_a0 16
    have ie222 : ivh4 a0 16 = ivh3 a0 16 := fl4.i t_a0 rfl 16
    have ie223 : ivh3 a0 16 = ivh2 a0 16 := fl3.i t_a0 rfl 16
    have ie224 : ivh2 a0 16 = iv a0 16 := fl2.i t_a0 rfl 16
    refine c_lv (lv2 := [(3, .int (iI 0)), (4, .int (iI f4)), (5, .int (iI 0)), (2, .ref ob1), (0, .ref a0), (1, .int (iI i))]) [2, 1, 0, 3, 4, 5] rfl ?_
    exact Lp1 1000003 0 f4 0 _ _ _ _ _ (by omega) hX0 W4 F3  (by omega) (by omega) (by omega) (by show 0 ≤ ivh4 (sk 14) 0 ∧ ivh4 (sk 14) 0 ≤ 501 ∧ (ivh4 (sk 14) 1 = 0 ∨ ivh4 (sk 14) 0 ≤ 500); omega) (by show ivh4 a0 11 = iv a0 11; omega) (by show ivh4 a0 12 = iv a0 12; omega) (by show ivh4 a0 13 = iv a0 13; omega) (by show ivh4 a0 14 = iv a0 14; omega) (by show ivh4 a0 15 = iv a0 15; omega) (by show ivh4 a0 16 = iv a0 16; omega)
  · subst oq1
    refine c_lv (lv2 := [(2, .null), (0, .ref a0), (1, .int (iI i))]) [0, 1, 2] rfl ?_
    refine c_st (st2 := []) rfl ?_
    refine c_aload_n (j := 1) (x := a0) C dX11_set_13 rfl ?_
    refine c_iconst C dX11_set_14 ?_
    refine d_callV (As := [.int (iI 3)]) (rest := []) C hM (C_refuse (a0 := a0) (x := 3) hW hS t_a0 ⟨by decide, by decide⟩ ) dX11_set_15 kV_X11_102 rfl t_a0 rfl rfl (by decide) ck_12 rfl (Nat.le_of_ble_eq_true rfl) ⟨(Nat.le_of_ble_eq_true rfl), (Nat.le_of_ble_eq_true rfl)⟩ hph hph (show 0 + 0 = 0 from rfl) (by decide) (fun rh19 Lh19 clh19 lnh19 ivh19 rvh19 h19 => ?_)
    obtain ⟨f19, rfl, rfl, rfl, rfl, rfl, fl19, W19, rgf19, exf19, kp11f19, kp12f19, kp13f19, kp14f19, kp15f19, kp16f19⟩ := h19
    have ri157 : 1 ≤ iv a0 11 ∧ iv a0 11 ≤ 100 := hW.int t_a0 11
    have ri158 : 1 ≤ iv a0 12 ∧ iv a0 12 ≤ 50 := hW.int t_a0 12
    have ri159 : (-2147483648) ≤ iv a0 13 ∧ iv a0 13 ≤ 2147483647 := hW.int t_a0 13
    have ri160 : (-2147483648) ≤ iv a0 14 ∧ iv a0 14 ≤ 2147483647 := hW.int t_a0 14
    have ri161 : (-2147483648) ≤ iv a0 15 ∧ iv a0 15 ≤ 2147483647 := hW.int t_a0 15
    have ri162 : (-2147483648) ≤ iv a0 16 ∧ iv a0 16 ≤ 2147483647 := hW.int t_a0 16
    have F15 := hF0.call hX0 fl19 rfl
    have mr15 := MRK.call hmr hW hS XT.refl fl19 rfl rfl
    refine c_st (st2 := [.int (iI f19)]) rfl ?_
    have gk11f19 : ivh19 a0 11 = iv a0 11 := kp11f19
    have gk12f19 : ivh19 a0 12 = iv a0 12 := kp12f19
    have gk13f19 : ivh19 a0 13 = iv a0 13 := kp13f19
    have gk14f19 : ivh19 a0 14 = iv a0 14 := kp14f19
    have gk15f19 : ivh19 a0 15 = iv a0 15 := kp15f19
    have gk16f19 : ivh19 a0 16 = iv a0 16 := kp16f19
    have gf19 : f19 = -1 := exf19
    have ri163 : 1 ≤ ivh19 a0 11 ∧ ivh19 a0 11 ≤ 100 := W19.int t_a0 11
    have ri164 : 1 ≤ ivh19 a0 12 ∧ ivh19 a0 12 ≤ 50 := W19.int t_a0 12
    have ri165 : (-2147483648) ≤ ivh19 a0 13 ∧ ivh19 a0 13 ≤ 2147483647 := W19.int t_a0 13
    have ri166 : (-2147483648) ≤ ivh19 a0 14 ∧ ivh19 a0 14 ≤ 2147483647 := W19.int t_a0 14
    have ri167 : (-2147483648) ≤ ivh19 a0 15 ∧ ivh19 a0 15 ≤ 2147483647 := W19.int t_a0 15
    have ri168 : (-2147483648) ≤ ivh19 a0 16 ∧ ivh19 a0 16 ≤ 2147483647 := W19.int t_a0 16
    exact c_iret C dX11_set_18 rfl (by decide) (rom0 hph hph (by decide)) ⟨f19, rfl, hX0, F15, W19, ⟨by omega, by omega⟩, trivial, (by omega), (by omega), (by omega), (by omega), (by omega), (by omega)⟩
set_option maxHeartbeats 4000000 in
set_option maxRecDepth 100000 in
theorem C_head {l : Launch} {G : GT} {mi : Nat} {sk : Nat → Nat} {L : List Nat} {cl ln : Nat → Nat} {iv : Nat → Nat → Int} {rv : Nat → Nat → Option Nat}  {a0 : Nat} {i : Int} (hW : WT (g0 G) sk L cl ln iv rv) (hS : SKL sk L cl) (t_a0 : ty L cl a0 1) (h_i : -2147483648 ≤ i ∧ i ≤ 2147483647) (hmr : MRK sk cl iv rv) : Mc l G mi (Phi (g0 G) sk) PHM yX11_head cX11_head 6 (some .int) 8 [.ref a0, .int (iI i)] L cl ln iv rv 0 (fun v L2 cl2 ln2 iv2 rv2 => ∃ f : Int, v = some (.int (iI f)) ∧ XT L cl ln L2 cl2 ln2 ∧ fT [1, 2, 5, 35, 15, 50, 51, 52, 53, 54, 55] L cl iv rv iv2 rv2 ∧ WT (g0 G) sk L2 cl2 ln2 iv2 rv2 ∧ (-2147483648 ≤ f ∧ f ≤ 2147483647) ∧ (True) ∧ iv2 a0 11 = iv a0 11 ∧ iv2 a0 12 = iv a0 12 ∧ iv2 a0 13 = iv a0 13 ∧ iv2 a0 14 = iv a0 14 ∧ iv2 a0 15 = iv a0 15 ∧ iv2 a0 16 = iv a0 16 ∧ iv2 (sk 2) 2 = 0 ∧ rv2 a0 9 = rv a0 9 ∧ rv2 a0 10 = rv a0 10) := by
  refine Mc.mk (by decide) (Nat.le_of_ble_eq_true rfl) ?_
  intro p e s m args below meth c A C hM
  have hph := Phi.le hW hS
  have tsk2 : ty L cl (sk 2) 2 := ⟨(hS 2 rfl).1, by rw [(hS 2 rfl).2]; rfl⟩
  have tsk3 : ty L cl (sk 3) 3 := ⟨(hS 3 rfl).1, by rw [(hS 3 rfl).2]; rfl⟩
  have tsk4 : ty L cl (sk 4) 4 := ⟨(hS 4 rfl).1, by rw [(hS 4 rfl).2]; rfl⟩
  have tsk5 : ty L cl (sk 5) 5 := ⟨(hS 5 rfl).1, by rw [(hS 5 rfl).2]; rfl⟩
  have tsk13 : ty L cl (sk 13) 13 := ⟨(hS 13 rfl).1, by rw [(hS 13 rfl).2]; rfl⟩
  have tsk14 : ty L cl (sk 14) 14 := ⟨(hS 14 rfl).1, by rw [(hS 14 rfl).2]; rfl⟩
  have tsk15 : ty L cl (sk 15) 15 := ⟨(hS 15 rfl).1, by rw [(hS 15 rfl).2]; rfl⟩
  have tsk16 : ty L cl (sk 16) 16 := ⟨(hS 16 rfl).1, by rw [(hS 16 rfl).2]; rfl⟩
  have tsk17 : ty L cl (sk 17) 17 := ⟨(hS 17 rfl).1, by rw [(hS 17 rfl).2]; rfl⟩
  have tsk22 : ty L cl (sk 22) 22 := ⟨(hS 22 rfl).1, by rw [(hS 22 rfl).2]; rfl⟩
  have tsk23 : ty L cl (sk 23) 23 := ⟨(hS 23 rfl).1, by rw [(hS 23 rfl).2]; rfl⟩
  have hX0 : XT L cl ln L cl ln := XT.refl
  have hF0 : fT [1, 2, 5, 35, 15, 50, 51, 52, 53, 54, 55] L cl iv rv iv rv := fT.refl
  refine c_aload_n (j := 0) (x := a0) C dX11_head_0 rfl ?_
  obtain ⟨rb1, rq1, trb1⟩ := hW.ref t_a0 0 rfl rfl rfl
  have erb1 := hW.sk trb1 (by decide) rfl
  subst erb1
  refine c_getr (k := 0) C ck_12 dX11_head_1 w2_44 (by decide) t_a0 rfl rfl (by decide) rfl rq1 ?_
  refine c_st (st2 := [.ref (sk 2)]) rfl ?_
  have ri1 : 0 ≤ iv (sk 2) 2 ∧ iv (sk 2) 2 ≤ 3000 := hW.int tsk2 2
  refine c_get (k := 2) C ck_2 dX11_head_4 w1_44 (by decide) tsk2 rfl rfl (by decide) rfl ?_
  refine c_bipush (z := 40) C dX11_head_7 (by decide) ?_
  refine c_icmp_gt (tgt := 38) C ⟨by omega, by omega⟩ ⟨by decide, by decide⟩ dX11_head_9 (by decide) (fun c1 => ?_) (fun c1 => ?_)
  · refine c_iconst C dX11_head_38 ?_
    refine c_istore_n (lv2 := [(2, .int (iI 0)), (0, .ref a0), (1, .int (iI i))]) C dX11_head_39 (by decide) rfl ?_
    refine c_aload_n (j := 1) (x := a0) C dX11_head_40 rfl ?_
    obtain ⟨rb2, rq2, trb2⟩ := hW.ref t_a0 6 rfl rfl rfl
    have erb2 := hW.sk trb2 (by decide) rfl
    subst erb2
    refine c_getr (k := 6) C ck_12 dX11_head_41 w2_50 (by decide) t_a0 rfl rfl (by decide) rfl rq2 ?_
    refine c_st (st2 := [.ref (sk 15)]) rfl ?_
    refine d_callV (As := []) (rest := []) C hM (C_wclear (a0 := (sk 15)) hW hS tsk15  ) dX11_head_44 kV_X11_272 rfl tsk15 rfl rfl (by decide) ck_7 rfl (Nat.le_of_ble_eq_true rfl) ⟨(Nat.le_of_ble_eq_true rfl), (Nat.le_of_ble_eq_true rfl)⟩ hph hph (show 0 + 0 = 0 from rfl) (by decide) (fun rh1 Lh1 clh1 lnh1 ivh1 rvh1 h1 => ?_)
    obtain ⟨rfl, rfl, rfl, rfl, rfl, fl1, W1, exf1⟩ := h1
    have F1 := hF0.call hX0 fl1 rfl
    have mr1 := MRK.call hmr hW hS XT.refl fl1 rfl rfl
    refine c_st (st2 := []) rfl ?_
    refine c_iconst C dX11_head_47 ?_
    refine c_istore_n (lv2 := [(3, .int (iI 0)), (2, .int (iI 0)), (0, .ref a0), (1, .int (iI i))]) C dX11_head_48 (by decide) rfl ?_
    have Lp1 : ∀ (nn : Nat) (fl k : Int) (Lb1 : List Nat) (clb1 lnb1 : Nat → Nat) (ivb1 : Nat → Nat → Int) (rvb1 : Nat → Nat → Option Nat) , 3001 - k < (nn : Int) → XT L cl ln Lb1 clb1 lnb1 → WT (g0 G) sk Lb1 clb1 lnb1 ivb1 rvb1 → fT [1, 2, 5, 35, 15, 50, 51, 52, 53, 54, 55] L cl iv rv ivb1 rvb1 → (fl = 0 ∨ fl = 1) → (0 ≤ k ∧ k ≤ 3000) → (ivb1 a0 11 = iv a0 11) → (ivb1 a0 12 = iv a0 12) → (ivb1 a0 13 = iv a0 13) → (ivb1 a0 14 = iv a0 14) → (ivb1 a0 15 = iv a0 15) → (ivb1 a0 16 = iv a0 16) → (rvb1 a0 9 = rv a0 9) → (rvb1 a0 10 = rv a0 10) → cw p l e 8 ((PHM) + 0 - ((Phi (g0 G) sk) ln rv)) s m args below meth c G A 6 (MQ below (Qu G A (Qp G (Phi (g0 G) sk) ((Phi (g0 G) sk) ln rv) 0 (fun v L2 cl2 ln2 iv2 rv2 => ∃ f : Int, v = some (.int (iI f)) ∧ XT L cl ln L2 cl2 ln2 ∧ fT [1, 2, 5, 35, 15, 50, 51, 52, 53, 54, 55] L cl iv rv iv2 rv2 ∧ WT (g0 G) sk L2 cl2 ln2 iv2 rv2 ∧ (-2147483648 ≤ f ∧ f ≤ 2147483647) ∧ (True) ∧ iv2 a0 11 = iv a0 11 ∧ iv2 a0 12 = iv a0 12 ∧ iv2 a0 13 = iv a0 13 ∧ iv2 a0 14 = iv a0 14 ∧ iv2 a0 15 = iv a0 15 ∧ iv2 a0 16 = iv a0 16 ∧ iv2 (sk 2) 2 = 0 ∧ rv2 a0 9 = rv a0 9 ∧ rv2 a0 10 = rv a0 10))) args s (((PHM) + 0 - ((Phi (g0 G) sk) ln rv)) / 16) ((PHM) + 0 - ((Phi (g0 G) sk) ln rv)) A) (Phi (g0 G) sk) ((Phi (g0 G) sk) ln rv) Lb1 clb1 lnb1 ivb1 rvb1 0 49 [(2, .int (iI fl)), (3, .int (iI k)), (0, .ref a0), (1, .int (iI i))] [] := by
      intro nn
      induction nn with
      | zero =>
        intro  fl k Lb1 clb1 lnb1 ivb1 rvb1 hm Xb1 Wb1 Fb1  hfl hk hkp11 hkp12 hkp13 hkp14 hkp15 hkp16 hkr9 hkr10
        have skb1 := Xb1.skl hS
        exact absurd hm (by omega)
      | succ nn ih1 =>
        intro  fl k Lb1 clb1 lnb1 ivb1 rvb1 hm Xb1 Wb1 Fb1  hfl hk hkp11 hkp12 hkp13 hkp14 hkp15 hkp16 hkr9 hkr10
        have skb1 := Xb1.skl hS
        have mrb1 := MRK.call hmr hW hS Xb1 Fb1 rfl rfl
        refine c_iload_n (j := 0) C dX11_head_49 rfl ?_
        refine c_if_eq (tgt := 86) C ⟨by omega, by omega⟩ dX11_head_50 (by decide) (fun c2 => ?_) (fun c2 => ?_)
        · refine c_aload_n (j := 2) (x := a0) C dX11_head_86 rfl ?_
          have ty1 := Xb1.ty t_a0
          obtain ⟨rb3, rq3, trb3⟩ := Wb1.ref ty1 0 rfl rfl rfl
          have erb3 := Wb1.sk trb3 (by decide) rfl
          subst erb3
          refine c_getr (k := 0) C ck_12 dX11_head_87 w2_44 (by decide) ty1 rfl rfl (by decide) rfl rq3 ?_
          refine c_st (st2 := [.ref (sk 2)]) rfl ?_
          have ty2 := Xb1.ty tsk2
          have pl1 := Phi.le Wb1 skb1
          refine d_callV (As := []) (rest := []) C hM (C_clear_2 (a0 := (sk 2)) Wb1 skb1 ty2  ) dX11_head_90 kV_X11_164 rfl ty2 rfl rfl (by decide) ck_2 rfl (Nat.le_of_ble_eq_true rfl) ⟨(Nat.le_of_ble_eq_true rfl), (Nat.le_of_ble_eq_true rfl)⟩ hph pl1 (show 0 + 0 = 0 from rfl) (by decide) (fun rh2 Lh2 clh2 lnh2 ivh2 rvh2 h2 => ?_)
          obtain ⟨rfl, rfl, rfl, rfl, rfl, fl2, W2, exf2⟩ := h2
          have F2 := Fb1.call Xb1 fl2 rfl
          have mr2 := MRK.call mrb1 Wb1 skb1 XT.refl fl2 rfl rfl
          refine c_st (st2 := []) rfl ?_
          have ri2 : 0 ≤ ivh2 (sk 2) 2 ∧ ivh2 (sk 2) 2 ≤ 3000 := W2.int ty2 2
          have gf2 : ivh2 (sk 2) 2 = 0 := exf2
          refine c_iload_n (j := 0) C dX11_head_93 rfl ?_
          refine c_if_ne (tgt := 104) C ⟨by omega, by omega⟩ dX11_head_94 (by decide) (fun c3 => ?_) (fun c3 => ?_)
          · refine c_aload_n (j := 2) (x := a0) C dX11_head_104 rfl ?_
            obtain ⟨rb4, rq4, trb4⟩ := W2.ref ty1 4 rfl rfl rfl
            have erb4 := W2.sk trb4 (by decide) rfl
            subst erb4
            refine c_getr (k := 4) C ck_12 dX11_head_105 w2_48 (by decide) ty1 rfl rfl (by decide) rfl rq4 ?_
            refine c_st (st2 := [.ref (sk 13)]) rfl ?_
            refine c_iload_n (j := 3) C dX11_head_108 rfl ?_
            have ty3 := Xb1.ty tsk13
            refine d_callV (As := [.int (iI i)]) (rest := []) C hM (C_whole (a0 := (sk 13)) (i := i) W2 skb1 ty3 (by omega) mr2) dX11_head_109 kV_X11_231 rfl ty3 rfl rfl (by decide) ck_11 rfl (Nat.le_of_ble_eq_true rfl) ⟨(Nat.le_of_ble_eq_true rfl), (Nat.le_of_ble_eq_true rfl)⟩ hph pl1 (show 0 + 0 = 0 from rfl) (by decide) (fun rh3 Lh3 clh3 lnh3 ivh3 rvh3 h3 => ?_)
            obtain ⟨f3, rfl, rfl, rfl, rfl, rfl, rfl, rgf3, exf3⟩ := h3
            refine c_st (st2 := [(va_rf f3)]) rfl ?_
            refine c_astorer_n (r := f3) (lv2 := [(3, (va_rf f3)), (2, .int (iI fl)), (0, .ref a0), (1, .int (iI i))]) C dX11_head_112 (by decide) rfl ?_
            refine c_aloadr_n (j := 0) (r := f3) C dX11_head_113 rfl ?_
            refine c_ifnonnull (r := f3) (tgt := 123) C dX11_head_114 (by decide) (fun ob1 oq1 => ?_) (fun oq1 => ?_)
            · subst oq1
              have tob1 := rgf3 ob1 rfl
              refine c_lv (lv2 := [(3, .ref ob1), (2, .int (iI fl)), (0, .ref a0), (1, .int (iI i))]) [0, 1, 2, 3] rfl ?_
              refine c_st (st2 := []) rfl ?_
              refine c_aload_n (j := 2) (x := a0) C dX11_head_123 rfl ?_
              obtain ⟨rb5, rq5, trb5⟩ := W2.ref ty1 6 rfl rfl rfl
              have erb5 := W2.sk trb5 (by decide) rfl
              subst erb5
              refine c_getr (k := 6) C ck_12 dX11_head_124 w2_50 (by decide) ty1 rfl rfl (by decide) rfl rq5 ?_
              refine c_st (st2 := [.ref (sk 15)]) rfl ?_
              refine c_aload_n (j := 0) (x := ob1) C dX11_head_127 rfl ?_
              have ty4 := Xb1.ty tsk15
              have ri3 : 0 ≤ ivh2 (sk 15) 4 ∧ ivh2 (sk 15) 4 ≤ 500 := W2.int ty4 4
              have ie2 : ivh2 (sk 15) 4 = ivb1 (sk 15) 4 := fl2.i ty4 rfl 4
              refine d_callV (As := [.ref ob1]) (rest := []) C hM (C_setBy (a0 := (sk 15)) (a1 := ob1) W2 skb1 ty4 tob1  ) dX11_head_128 kV_X11_253 rfl ty4 rfl rfl (by decide) ck_7 rfl (Nat.le_of_ble_eq_true rfl) ⟨(Nat.le_of_ble_eq_true rfl), (Nat.le_of_ble_eq_true rfl)⟩ hph pl1 (show 0 + 0 = 0 from rfl) (by decide) (fun rh4 Lh4 clh4 lnh4 ivh4 rvh4 h4 => ?_)
              obtain ⟨f4, rfl, rfl, rfl, rfl, rfl, fl4, W4, rgf4, exf4⟩ := h4
              have F3 := F2.call Xb1 fl4 rfl
              have mr3 := MRK.call mr2 W2 skb1 XT.refl fl4 rfl rfl
              refine c_st (st2 := [.int (iI f4)]) rfl ?_
              have ri4 : 0 ≤ ivh4 (sk 15) 4 ∧ ivh4 (sk 15) 4 ≤ 500 := W4.int ty4 4
              have ri5 : 0 ≤ ivh4 (sk 15) 7 ∧ ivh4 (sk 15) 7 ≤ 100000 := W4.int ty4 7
              have gf4 : (f4 = 0 ∨ f4 = 6 ∨ f4 = 7) ∧ ivh4 (sk 15) 4 = ivh2 (sk 15) 4 ∧ (f4 = 0 → ivh4 (sk 15) 7 ≤ 200) := exf4
              refine c_istore (lv2 := [(4, .int (iI f4)), (3, .ref ob1), (2, .int (iI fl)), (0, .ref a0), (1, .int (iI i))]) C dX11_head_131 (by decide) rfl ?_
              refine c_iload (j := 0) C dX11_head_133 rfl ?_
              refine c_if_eq (tgt := 152) C ⟨by omega, by omega⟩ dX11_head_135 (by decide) (fun c4 => ?_) (fun c4 => ?_)
              · refine c_aload_n (j := 3) (x := a0) C dX11_head_152 rfl ?_
                obtain ⟨rb6, rq6, trb6⟩ := W4.ref ty1 3 rfl rfl rfl
                have erb6 := W4.sk trb6 (by decide) rfl
                subst erb6
                refine c_getr (k := 3) C ck_12 dX11_head_153 w2_47 (by decide) ty1 rfl rfl (by decide) rfl rq6 ?_
                refine c_st (st2 := [.ref (sk 5)]) rfl ?_
                have ty5 := Xb1.ty tsk5
                refine d_callV (As := []) (rest := []) C hM (C_clear_5 (a0 := (sk 5)) W4 skb1 ty5  ) dX11_head_156 kV_X11_164 rfl ty5 rfl rfl (by decide) ck_2 rfl (Nat.le_of_ble_eq_true rfl) ⟨(Nat.le_of_ble_eq_true rfl), (Nat.le_of_ble_eq_true rfl)⟩ hph pl1 (show 0 + 0 = 0 from rfl) (by decide) (fun rh5 Lh5 clh5 lnh5 ivh5 rvh5 h5 => ?_)
                obtain ⟨rfl, rfl, rfl, rfl, rfl, fl5, W5, exf5⟩ := h5
                have F4 := F3.call Xb1 fl5 rfl
                have mr4 := MRK.call mr3 W4 skb1 XT.refl fl5 rfl rfl
                refine c_st (st2 := []) rfl ?_
                have ri6 : 0 ≤ ivh5 (sk 5) 2 ∧ ivh5 (sk 5) 2 ≤ 200 := W5.int ty5 2
                have gf5 : ivh5 (sk 5) 2 = 0 := exf5
                refine c_iconst C dX11_head_159 ?_
                refine c_istore (lv2 := [(5, .int (iI 0)), (4, .int (iI f4)), (3, .ref ob1), (2, .int (iI fl)), (0, .ref a0), (1, .int (iI i))]) C dX11_head_160 (by decide) rfl ?_
                have Lp2 : ∀ (nn : Nat) (k2 : Int) (Lb2 : List Nat) (clb2 lnb2 : Nat → Nat) (ivb2 : Nat → Nat → Int) (rvb2 : Nat → Nat → Option Nat) , 101 - k2 < (nn : Int) → XT L cl ln Lb2 clb2 lnb2 → WT (g0 G) sk Lb2 clb2 lnb2 ivb2 rvb2 → fT [1, 2, 5, 35, 15, 50, 51, 52, 53, 54, 55] L cl iv rv ivb2 rvb2 → (0 ≤ k2 ∧ k2 ≤ 100) → (ivb2 (sk 15) 7 ≤ 200) → (ivb2 (sk 2) 2 = 0) → (ivb2 a0 11 = iv a0 11) → (ivb2 a0 12 = iv a0 12) → (ivb2 a0 13 = iv a0 13) → (ivb2 a0 14 = iv a0 14) → (ivb2 a0 15 = iv a0 15) → (ivb2 a0 16 = iv a0 16) → (rvb2 a0 9 = rv a0 9) → (rvb2 a0 10 = rv a0 10) → cw p l e 8 ((PHM) + 0 - ((Phi (g0 G) sk) ln rv)) s m args below meth c G A 6 (MQ below (Qu G A (Qp G (Phi (g0 G) sk) ((Phi (g0 G) sk) ln rv) 0 (fun v L2 cl2 ln2 iv2 rv2 => ∃ f : Int, v = some (.int (iI f)) ∧ XT L cl ln L2 cl2 ln2 ∧ fT [1, 2, 5, 35, 15, 50, 51, 52, 53, 54, 55] L cl iv rv iv2 rv2 ∧ WT (g0 G) sk L2 cl2 ln2 iv2 rv2 ∧ (-2147483648 ≤ f ∧ f ≤ 2147483647) ∧ (True) ∧ iv2 a0 11 = iv a0 11 ∧ iv2 a0 12 = iv a0 12 ∧ iv2 a0 13 = iv a0 13 ∧ iv2 a0 14 = iv a0 14 ∧ iv2 a0 15 = iv a0 15 ∧ iv2 a0 16 = iv a0 16 ∧ iv2 (sk 2) 2 = 0 ∧ rv2 a0 9 = rv a0 9 ∧ rv2 a0 10 = rv a0 10))) args s (((PHM) + 0 - ((Phi (g0 G) sk) ln rv)) / 16) ((PHM) + 0 - ((Phi (g0 G) sk) ln rv)) A) (Phi (g0 G) sk) ((Phi (g0 G) sk) ln rv) Lb2 clb2 lnb2 ivb2 rvb2 0 162 [(5, .int (iI k2)), (4, .int (iI f4)), (3, .ref ob1), (2, .int (iI fl)), (0, .ref a0), (1, .int (iI i))] [] := by
                  intro nn
                  induction nn with
                  | zero =>
                    intro  k2 Lb2 clb2 lnb2 ivb2 rvb2 hm Xb2 Wb2 Fb2  hk2 hco htz hkp11 hkp12 hkp13 hkp14 hkp15 hkp16 hkr9 hkr10
                    have skb2 := Xb2.skl hS
                    exact absurd hm (by omega)
                  | succ nn ih2 =>
                    intro  k2 Lb2 clb2 lnb2 ivb2 rvb2 hm Xb2 Wb2 Fb2  hk2 hco htz hkp11 hkp12 hkp13 hkp14 hkp15 hkp16 hkr9 hkr10
                    have skb2 := Xb2.skl hS
                    have mrb2 := MRK.call hmr hW hS Xb2 Fb2 rfl rfl
                    refine c_iload (j := 0) C dX11_head_162 rfl ?_
                    refine c_aload_n (j := 4) (x := a0) C dX11_head_164 rfl ?_
                    have ty6 := Xb2.ty t_a0
                    obtain ⟨rb7, rq7, trb7⟩ := Wb2.ref ty6 6 rfl rfl rfl
                    have erb7 := Wb2.sk trb7 (by decide) rfl
                    subst erb7
                    refine c_getr (k := 6) C ck_12 dX11_head_165 w2_50 (by decide) ty6 rfl rfl (by decide) rfl rq7 ?_
                    refine c_st (st2 := [.ref (sk 15), .int (iI k2)]) rfl ?_
                    have ty7 := Xb2.ty tsk15
                    have ri7 : 0 ≤ ivb2 (sk 15) 7 ∧ ivb2 (sk 15) 7 ≤ 100000 := Wb2.int ty7 7
                    refine c_get (k := 7) C ck_7 dX11_head_168 w1_149 (by decide) ty7 rfl rfl (by decide) rfl ?_
                    refine c_icmp_ge (tgt := 206) C ⟨by omega, by omega⟩ ⟨by omega, by omega⟩ dX11_head_171 (by decide) (fun c5 => ?_) (fun c5 => ?_)
                    · refine c_aload_n (j := 4) (x := a0) C dX11_head_206 rfl ?_
                      refine c_aload_n (j := 4) (x := a0) C dX11_head_207 rfl ?_
                      obtain ⟨rb8, rq8, trb8⟩ := Wb2.ref ty6 3 rfl rfl rfl
                      have erb8 := Wb2.sk trb8 (by decide) rfl
                      subst erb8
                      refine c_getr (k := 3) C ck_12 dX11_head_208 w2_47 (by decide) ty6 rfl rfl (by decide) rfl rq8 ?_
                      refine c_st (st2 := [.ref (sk 5), .ref a0]) rfl ?_
                      have ty8 := Xb2.ty tsk5
                      have ri8 : 0 ≤ ivb2 (sk 5) 2 ∧ ivb2 (sk 5) 2 ≤ 200 := Wb2.int ty8 2
                      refine c_get (k := 2) C ck_2 dX11_head_211 w1_44 (by decide) ty8 rfl rfl (by decide) rfl ?_
                      have pl2 := Phi.le Wb2 skb2
                      refine d_callV (As := [.int (iI (ivb2 (sk 5) 2))]) (rest := []) C hM (C_done (a0 := a0) (x := ivb2 (sk 5) 2) Wb2 skb2 ty6 (by omega) ) dX11_head_214 kV_X11_109 rfl ty6 rfl rfl (by decide) ck_12 rfl (Nat.le_of_ble_eq_true rfl) ⟨(Nat.le_of_ble_eq_true rfl), (Nat.le_of_ble_eq_true rfl)⟩ hph pl2 (show 0 + 0 = 0 from rfl) (by decide) (fun rh6 Lh6 clh6 lnh6 ivh6 rvh6 h6 => ?_)
                      obtain ⟨f6, rfl, rfl, rfl, rfl, rfl, fl6, W6, rgf6, exf6, kp11f6, kp12f6, kp13f6, kp14f6, kp15f6, kp16f6⟩ := h6
                      have ri9 : 1 ≤ ivb2 a0 11 ∧ ivb2 a0 11 ≤ 100 := Wb2.int ty6 11
                      have ri10 : 1 ≤ ivb2 a0 12 ∧ ivb2 a0 12 ≤ 50 := Wb2.int ty6 12
                      have ri11 : (-2147483648) ≤ ivb2 a0 13 ∧ ivb2 a0 13 ≤ 2147483647 := Wb2.int ty6 13
                      have ri12 : (-2147483648) ≤ ivb2 a0 14 ∧ ivb2 a0 14 ≤ 2147483647 := Wb2.int ty6 14
                      have ri13 : (-2147483648) ≤ ivb2 a0 15 ∧ ivb2 a0 15 ≤ 2147483647 := Wb2.int ty6 15
                      have ri14 : (-2147483648) ≤ ivb2 a0 16 ∧ ivb2 a0 16 ≤ 2147483647 := Wb2.int ty6 16
                      have F5 := Fb2.call Xb2 fl6 rfl
                      have mr5 := MRK.call mrb2 Wb2 skb2 XT.refl fl6 rfl rfl
                      refine c_st (st2 := [.int (iI f6)]) rfl ?_
                      have gk11f6 : ivh6 a0 11 = ivb2 a0 11 := kp11f6
                      have gk12f6 : ivh6 a0 12 = ivb2 a0 12 := kp12f6
                      have gk13f6 : ivh6 a0 13 = ivb2 a0 13 := kp13f6
                      have gk14f6 : ivh6 a0 14 = ivb2 a0 14 := kp14f6
                      have gk15f6 : ivh6 a0 15 = ivb2 a0 15 := kp15f6
                      have gk16f6 : ivh6 a0 16 = ivb2 a0 16 := kp16f6
                      have gf6 : f6 = (ivb2 (sk 5) 2) := exf6
                      have ty9 := Xb2.ty tsk2
                      have ri15 : 0 ≤ ivh6 (sk 2) 2 ∧ ivh6 (sk 2) 2 ≤ 3000 := W6.int ty9 2
                      have ie15 : ivh6 (sk 2) 2 = ivb2 (sk 2) 2 := fl6.i ty9 rfl 2
                      have ri16 : 1 ≤ ivh6 a0 11 ∧ ivh6 a0 11 ≤ 100 := W6.int ty6 11
                      have ri17 : 1 ≤ ivh6 a0 12 ∧ ivh6 a0 12 ≤ 50 := W6.int ty6 12
                      have ri18 : (-2147483648) ≤ ivh6 a0 13 ∧ ivh6 a0 13 ≤ 2147483647 := W6.int ty6 13
                      have ri19 : (-2147483648) ≤ ivh6 a0 14 ∧ ivh6 a0 14 ≤ 2147483647 := W6.int ty6 14
                      have ri20 : (-2147483648) ≤ ivh6 a0 15 ∧ ivh6 a0 15 ≤ 2147483647 := W6.int ty6 15
                      have ri21 : (-2147483648) ≤ ivh6 a0 16 ∧ ivh6 a0 16 ≤ 2147483647 := W6.int ty6 16
                      exact c_iret C dX11_head_217 rfl (by decide) (rom0 hph pl2 (by decide)) ⟨f6, rfl, Xb2, F5, W6, ⟨by omega, by omega⟩, trivial, (by omega), (by omega), (by omega), (by omega), (by omega), (by omega), (by omega), (show rvb2 a0 9 = rv a0 9 from hkr9), (show rvb2 a0 10 = rv a0 10 from hkr10)⟩
                    · refine c_iload (j := 0) C dX11_head_174 rfl ?_
                      refine c_aload_n (j := 4) (x := a0) C dX11_head_176 rfl ?_
                      have ri22 : 1 ≤ ivb2 a0 11 ∧ ivb2 a0 11 ≤ 100 := Wb2.int ty6 11
                      refine c_get (k := 11) C ck_12 dX11_head_177 w2_55 (by decide) ty6 rfl rfl (by decide) rfl ?_
                      refine c_icmp_ge (tgt := 206) C ⟨by omega, by omega⟩ ⟨by omega, by omega⟩ dX11_head_180 (by decide) (fun c6 => ?_) (fun c6 => ?_)
                      · refine c_aload_n (j := 4) (x := a0) C dX11_head_206 rfl ?_
                        refine c_aload_n (j := 4) (x := a0) C dX11_head_207 rfl ?_
                        obtain ⟨rb9, rq9, trb9⟩ := Wb2.ref ty6 3 rfl rfl rfl
                        have erb9 := Wb2.sk trb9 (by decide) rfl
                        subst erb9
                        refine c_getr (k := 3) C ck_12 dX11_head_208 w2_47 (by decide) ty6 rfl rfl (by decide) rfl rq9 ?_
                        refine c_st (st2 := [.ref (sk 5), .ref a0]) rfl ?_
                        have ty10 := Xb2.ty tsk5
                        have ri23 : 0 ≤ ivb2 (sk 5) 2 ∧ ivb2 (sk 5) 2 ≤ 200 := Wb2.int ty10 2
                        refine c_get (k := 2) C ck_2 dX11_head_211 w1_44 (by decide) ty10 rfl rfl (by decide) rfl ?_
                        have pl3 := Phi.le Wb2 skb2
                        refine d_callV (As := [.int (iI (ivb2 (sk 5) 2))]) (rest := []) C hM (C_done (a0 := a0) (x := ivb2 (sk 5) 2) Wb2 skb2 ty6 (by omega) ) dX11_head_214 kV_X11_109 rfl ty6 rfl rfl (by decide) ck_12 rfl (Nat.le_of_ble_eq_true rfl) ⟨(Nat.le_of_ble_eq_true rfl), (Nat.le_of_ble_eq_true rfl)⟩ hph pl3 (show 0 + 0 = 0 from rfl) (by decide) (fun rh7 Lh7 clh7 lnh7 ivh7 rvh7 h7 => ?_)
                        obtain ⟨f7, rfl, rfl, rfl, rfl, rfl, fl7, W7, rgf7, exf7, kp11f7, kp12f7, kp13f7, kp14f7, kp15f7, kp16f7⟩ := h7
                        have ri24 : 1 ≤ ivb2 a0 12 ∧ ivb2 a0 12 ≤ 50 := Wb2.int ty6 12
                        have ri25 : (-2147483648) ≤ ivb2 a0 13 ∧ ivb2 a0 13 ≤ 2147483647 := Wb2.int ty6 13
                        have ri26 : (-2147483648) ≤ ivb2 a0 14 ∧ ivb2 a0 14 ≤ 2147483647 := Wb2.int ty6 14
                        have ri27 : (-2147483648) ≤ ivb2 a0 15 ∧ ivb2 a0 15 ≤ 2147483647 := Wb2.int ty6 15
                        have ri28 : (-2147483648) ≤ ivb2 a0 16 ∧ ivb2 a0 16 ≤ 2147483647 := Wb2.int ty6 16
                        have F6 := Fb2.call Xb2 fl7 rfl
                        have mr6 := MRK.call mrb2 Wb2 skb2 XT.refl fl7 rfl rfl
                        refine c_st (st2 := [.int (iI f7)]) rfl ?_
                        have gk11f7 : ivh7 a0 11 = ivb2 a0 11 := kp11f7
                        have gk12f7 : ivh7 a0 12 = ivb2 a0 12 := kp12f7
                        have gk13f7 : ivh7 a0 13 = ivb2 a0 13 := kp13f7
                        have gk14f7 : ivh7 a0 14 = ivb2 a0 14 := kp14f7
                        have gk15f7 : ivh7 a0 15 = ivb2 a0 15 := kp15f7
                        have gk16f7 : ivh7 a0 16 = ivb2 a0 16 := kp16f7
                        have gf7 : f7 = (ivb2 (sk 5) 2) := exf7
                        have ty11 := Xb2.ty tsk2
                        have ri29 : 0 ≤ ivh7 (sk 2) 2 ∧ ivh7 (sk 2) 2 ≤ 3000 := W7.int ty11 2
                        have ie30 : ivh7 (sk 2) 2 = ivb2 (sk 2) 2 := fl7.i ty11 rfl 2
                        have ri30 : 1 ≤ ivh7 a0 11 ∧ ivh7 a0 11 ≤ 100 := W7.int ty6 11
                        have ri31 : 1 ≤ ivh7 a0 12 ∧ ivh7 a0 12 ≤ 50 := W7.int ty6 12
                        have ri32 : (-2147483648) ≤ ivh7 a0 13 ∧ ivh7 a0 13 ≤ 2147483647 := W7.int ty6 13
                        have ri33 : (-2147483648) ≤ ivh7 a0 14 ∧ ivh7 a0 14 ≤ 2147483647 := W7.int ty6 14
                        have ri34 : (-2147483648) ≤ ivh7 a0 15 ∧ ivh7 a0 15 ≤ 2147483647 := W7.int ty6 15
                        have ri35 : (-2147483648) ≤ ivh7 a0 16 ∧ ivh7 a0 16 ≤ 2147483647 := W7.int ty6 16
                        exact c_iret C dX11_head_217 rfl (by decide) (rom0 hph pl3 (by decide)) ⟨f7, rfl, Xb2, F6, W7, ⟨by omega, by omega⟩, trivial, (by omega), (by omega), (by omega), (by omega), (by omega), (by omega), (by omega), (show rvb2 a0 9 = rv a0 9 from hkr9), (show rvb2 a0 10 = rv a0 10 from hkr10)⟩
                      · refine c_aload_n (j := 4) (x := a0) C dX11_head_183 rfl ?_
                        obtain ⟨rb10, rq10, trb10⟩ := Wb2.ref ty6 3 rfl rfl rfl
                        have erb10 := Wb2.sk trb10 (by decide) rfl
                        subst erb10
                        refine c_getr (k := 3) C ck_12 dX11_head_184 w2_47 (by decide) ty6 rfl rfl (by decide) rfl rq10 ?_
                        refine c_st (st2 := [.ref (sk 5)]) rfl ?_
                        refine c_aload_n (j := 4) (x := a0) C dX11_head_187 rfl ?_
                        refine c_getr (k := 6) C ck_12 dX11_head_188 w2_50 (by decide) ty6 rfl rfl (by decide) rfl rq7 ?_
                        refine c_st (st2 := [.ref (sk 15), .ref (sk 5)]) rfl ?_
                        obtain ⟨rb11, rq11, trb11⟩ := Wb2.ref ty7 6 rfl rfl rfl
                        have lnrb11 : 200 ≤ lnb2 rb11 ∧ lnb2 rb11 ≤ 200 := Wb2.len trb11 rfl
                        refine c_getr (k := 6) C ck_7 dX11_head_191 w1_146 (by decide) ty7 rfl rfl (by decide) rfl rq11 ?_
                        refine c_st (st2 := [.ref rb11, .ref (sk 5)]) rfl ?_
                        refine c_iload (j := 0) C dX11_head_194 rfl ?_
                        have ll1 : 200 ≤ lnb2 rb11 ∧ lnb2 rb11 ≤ 200 := Wb2.len trb11 rfl
                        refine c_iald C dX11_head_196 trb11 rfl (by omega) (by omega) (by omega) ?_
                        have ri36 : (-2147483648) ≤ ivb2 rb11 k2.toNat ∧ ivb2 rb11 k2.toNat ≤ 2147483647 := Wb2.int trb11 k2.toNat
                        have ty12 := Xb2.ty tsk5
                        have ri37 : 0 ≤ ivb2 (sk 5) 2 ∧ ivb2 (sk 5) 2 ≤ 200 := Wb2.int ty12 2
                        have pl4 := Phi.le Wb2 skb2
                        refine d_callV (As := [.int (iI (ivb2 rb11 k2.toNat))]) (rest := []) C hM (C_add_5 (a0 := (sk 5)) (x := ivb2 rb11 k2.toNat) Wb2 skb2 ty12 (by omega) ) dX11_head_197 kV_X11_112 rfl ty12 rfl rfl (by decide) ck_2 rfl (Nat.le_of_ble_eq_true rfl) ⟨(Nat.le_of_ble_eq_true rfl), (Nat.le_of_ble_eq_true rfl)⟩ hph pl4 (show 0 + 0 = 0 from rfl) (by decide) (fun rh8 Lh8 clh8 lnh8 ivh8 rvh8 h8 => ?_)
                        obtain ⟨rfl, xl8, fl8, W8, exf8⟩ := h8
                        have F7 := Fb2.call Xb2 fl8 rfl
                        have mr7 := MRK.call mrb2 Wb2 skb2 xl8 fl8 rfl rfl
                        have ty13 := Xb2.ty tsk2
                        have ty14 := Xb2.ty tsk3
                        have ty15 := Xb2.ty tsk4
                        have ty16 := Xb2.ty tsk13
                        have ty17 := Xb2.ty tsk14
                        have ty18 := Xb2.ty tsk16
                        have ty19 := Xb2.ty tsk17
                        have ty20 := Xb2.ty tsk22
                        have ty21 := Xb2.ty tsk23
                        have X1 := Xb2.trans xl8
                        have sk1 := xl8.skl skb2
                        refine c_st (st2 := []) rfl ?_
                        have ty22 := xl8.ty ty12
                        have ri38 : 0 ≤ ivh8 (sk 5) 2 ∧ ivh8 (sk 5) 2 ≤ 200 := W8.int ty22 2
                        have gf8 : ((ivh8 (sk 5) 2 = ivb2 (sk 5) 2 ∧ ivb2 (sk 5) 2 = 200) ∨ (ivh8 (sk 5) 2 = ivb2 (sk 5) 2 + 1 ∧ ivb2 (sk 5) 2 < 200)) := exf8
                        refine c_iinc (z := k2) (j := 0) (lv2 := [(5, .int (iI (k2 + 1))), (4, .int (iI f4)), (3, .ref ob1), (2, .int (iI fl)), (0, .ref a0), (1, .int (iI i))]) C dX11_head_200 rfl (by decide) rfl ?_
                        refine c_goto (tgt := 162) C dX11_head_203 (by decide) ?_
                        have ty23 := xl8.ty ty7
                        have ri39 : 0 ≤ ivh8 (sk 15) 7 ∧ ivh8 (sk 15) 7 ≤ 100000 := W8.int ty23 7
                        have ie41 : ivh8 (sk 15) 7 = ivb2 (sk 15) 7 := fl8.i ty7 rfl 7
                        have ty24 := xl8.ty ty13
                        have ri40 : 0 ≤ ivh8 (sk 2) 2 ∧ ivh8 (sk 2) 2 ≤ 3000 := W8.int ty24 2
                        have ie42 : ivh8 (sk 2) 2 = ivb2 (sk 2) 2 := fl8.i ty13 rfl 2
                        have ty25 := xl8.ty ty6
                        have ri41 : 1 ≤ ivh8 a0 11 ∧ ivh8 a0 11 ≤ 100 := W8.int ty25 11
                        have ie44 : ivh8 a0 11 = ivb2 a0 11 := fl8.i ty6 rfl 11
                        have ri42 : 1 ≤ ivh8 a0 12 ∧ ivh8 a0 12 ≤ 50 := W8.int ty25 12
                        have ie45 : ivh8 a0 12 = ivb2 a0 12 := fl8.i ty6 rfl 12
                        have ri43 : (-2147483648) ≤ ivh8 a0 13 ∧ ivh8 a0 13 ≤ 2147483647 := W8.int ty25 13
                        have ie47 : ivh8 a0 13 = ivb2 a0 13 := fl8.i ty6 rfl 13
                        have ri44 : (-2147483648) ≤ ivh8 a0 14 ∧ ivh8 a0 14 ≤ 2147483647 := W8.int ty25 14
                        have ie49 : ivh8 a0 14 = ivb2 a0 14 := fl8.i ty6 rfl 14
                        have ri45 : (-2147483648) ≤ ivh8 a0 15 ∧ ivh8 a0 15 ≤ 2147483647 := W8.int ty25 15
                        have ie51 : ivh8 a0 15 = ivb2 a0 15 := fl8.i ty6 rfl 15
                        have ri46 : (-2147483648) ≤ ivh8 a0 16 ∧ ivh8 a0 16 ≤ 2147483647 := W8.int ty25 16
                        have ie53 : ivh8 a0 16 = ivb2 a0 16 := fl8.i ty6 rfl 16
                        refine c_lv (lv2 := [(5, .int (iI (k2 + 1))), (4, .int (iI f4)), (3, .ref ob1), (2, .int (iI fl)), (0, .ref a0), (1, .int (iI i))]) [0, 1, 2, 3, 4, 5] rfl ?_
                        exact ih2  (k2 + 1) _ _ _ _ _ (by omega) X1 W8 F7  (by omega) (by show ivh8 (sk 15) 7 ≤ 200; omega) (by show ivh8 (sk 2) 2 = 0; omega) (by show ivh8 a0 11 = iv a0 11; omega) (by show ivh8 a0 12 = iv a0 12; omega) (by show ivh8 a0 13 = iv a0 13; omega) (by show ivh8 a0 14 = iv a0 14; omega) (by show ivh8 a0 15 = iv a0 15; omega) (by show ivh8 a0 16 = iv a0 16; omega) (Eq.trans (show rvh8 a0 9 = rvb2 a0 9 from (fl8.r ty6 rfl 9)) (show rvb2 a0 9 = rv a0 9 from hkr9)) (Eq.trans (show rvh8 a0 10 = rvb2 a0 10 from (fl8.r ty6 rfl 10)) (show rvb2 a0 10 = rv a0 10 from hkr10))
                have ri47 : 0 ≤ ivh5 (sk 15) 7 ∧ ivh5 (sk 15) 7 ≤ 100000 := W5.int ty4 7
                have ie55 : ivh5 (sk 15) 7 = ivh4 (sk 15) 7 := fl5.i ty4 rfl 7
                have ri48 : 0 ≤ ivh5 (sk 2) 2 ∧ ivh5 (sk 2) 2 ≤ 3000 := W5.int ty2 2
                have ie56 : ivh5 (sk 2) 2 = ivh4 (sk 2) 2 := fl5.i ty2 rfl 2
                have ie57 : ivh4 (sk 2) 2 = ivh2 (sk 2) 2 := fl4.i ty2 rfl 2
                have ri49 : 1 ≤ ivh5 a0 11 ∧ ivh5 a0 11 ≤ 100 := W5.int ty1 11
                have ie58 : ivh5 a0 11 = ivh4 a0 11 := fl5.i ty1 rfl 11
                have ie59 : ivh4 a0 11 = ivh2 a0 11 := fl4.i ty1 rfl 11
                have ie60 : ivh2 a0 11 = ivb1 a0 11 := fl2.i ty1 rfl 11
                have ri50 : 1 ≤ ivh5 a0 12 ∧ ivh5 a0 12 ≤ 50 := W5.int ty1 12
                have ie62 : ivh5 a0 12 = ivh4 a0 12 := fl5.i ty1 rfl 12
                have ie63 : ivh4 a0 12 = ivh2 a0 12 := fl4.i ty1 rfl 12
                have ie64 : ivh2 a0 12 = ivb1 a0 12 := fl2.i ty1 rfl 12
                have ri51 : (-2147483648) ≤ ivh5 a0 13 ∧ ivh5 a0 13 ≤ 2147483647 := W5.int ty1 13
                have ie66 : ivh5 a0 13 = ivh4 a0 13 := fl5.i ty1 rfl 13
                have ie67 : ivh4 a0 13 = ivh2 a0 13 := fl4.i ty1 rfl 13
                have ie68 : ivh2 a0 13 = ivb1 a0 13 := fl2.i ty1 rfl 13
                have ri52 : (-2147483648) ≤ ivh5 a0 14 ∧ ivh5 a0 14 ≤ 2147483647 := W5.int ty1 14
                have ie70 : ivh5 a0 14 = ivh4 a0 14 := fl5.i ty1 rfl 14
                have ie71 : ivh4 a0 14 = ivh2 a0 14 := fl4.i ty1 rfl 14
                have ie72 : ivh2 a0 14 = ivb1 a0 14 := fl2.i ty1 rfl 14
                have ri53 : (-2147483648) ≤ ivh5 a0 15 ∧ ivh5 a0 15 ≤ 2147483647 := W5.int ty1 15
                have ie74 : ivh5 a0 15 = ivh4 a0 15 := fl5.i ty1 rfl 15
                have ie75 : ivh4 a0 15 = ivh2 a0 15 := fl4.i ty1 rfl 15
                have ie76 : ivh2 a0 15 = ivb1 a0 15 := fl2.i ty1 rfl 15
                have ri54 : (-2147483648) ≤ ivh5 a0 16 ∧ ivh5 a0 16 ≤ 2147483647 := W5.int ty1 16
                have ie78 : ivh5 a0 16 = ivh4 a0 16 := fl5.i ty1 rfl 16
                have ie79 : ivh4 a0 16 = ivh2 a0 16 := fl4.i ty1 rfl 16
                have ie80 : ivh2 a0 16 = ivb1 a0 16 := fl2.i ty1 rfl 16
                refine c_lv (lv2 := [(5, .int (iI 0)), (4, .int (iI f4)), (3, .ref ob1), (2, .int (iI fl)), (0, .ref a0), (1, .int (iI i))]) [0, 1, 2, 3, 4, 5] rfl ?_
                exact Lp2 103 0 _ _ _ _ _ (by omega) Xb1 W5 F4  (by omega) (by show ivh5 (sk 15) 7 ≤ 200; omega) (by show ivh5 (sk 2) 2 = 0; omega) (by show ivh5 a0 11 = iv a0 11; omega) (by show ivh5 a0 12 = iv a0 12; omega) (by show ivh5 a0 13 = iv a0 13; omega) (by show ivh5 a0 14 = iv a0 14; omega) (by show ivh5 a0 15 = iv a0 15; omega) (by show ivh5 a0 16 = iv a0 16; omega) (show rvb1 a0 9 = rv a0 9 from hkr9) (show rvb1 a0 10 = rv a0 10 from hkr10)
              · refine c_aload_n (j := 3) (x := a0) C dX11_head_138 rfl ?_
                refine c_iload (j := 0) C dX11_head_139 rfl ?_
                refine c_aload_n (j := 3) (x := a0) C dX11_head_141 rfl ?_
                refine c_getr (k := 6) C ck_12 dX11_head_142 w2_50 (by decide) ty1 rfl rfl (by decide) rfl rq5 ?_
                refine c_st (st2 := [.ref (sk 15), .int (iI f4), .ref a0]) rfl ?_
                refine d_callV (As := []) (rest := [.int (iI f4), .ref a0]) C hM (C_placeOfUnknown (a0 := (sk 15)) W4 skb1 ty4  ) dX11_head_145 kV_X11_263 rfl ty4 rfl rfl (by decide) ck_7 rfl (Nat.le_of_ble_eq_true rfl) ⟨(Nat.le_of_ble_eq_true rfl), (Nat.le_of_ble_eq_true rfl)⟩ hph pl1 (show 0 + 0 = 0 from rfl) (by decide) (fun rh9 Lh9 clh9 lnh9 ivh9 rvh9 h9 => ?_)
                obtain ⟨f9, rfl, rfl, rfl, rfl, rfl, rfl, rgf9, exf9⟩ := h9
                refine c_st (st2 := [.int (iI f9), .int (iI f4), .ref a0]) rfl ?_
                refine d_callV (As := [.int (iI f4), .int (iI f9)]) (rest := []) C hM (C_refuseAt (a0 := a0) (x := f4) (y := f9) W4 skb1 ty1 (by omega) (by omega) ) dX11_head_148 kV_X11_266 rfl ty1 rfl rfl (by decide) ck_12 rfl (Nat.le_of_ble_eq_true rfl) ⟨(Nat.le_of_ble_eq_true rfl), (Nat.le_of_ble_eq_true rfl)⟩ hph pl1 (show 0 + 0 = 0 from rfl) (by decide) (fun rh10 Lh10 clh10 lnh10 ivh10 rvh10 h10 => ?_)
                obtain ⟨f10, rfl, rfl, rfl, rfl, rfl, fl10, W10, rgf10, exf10, kp11f10, kp12f10, kp13f10, kp14f10, kp15f10, kp16f10⟩ := h10
                have ri55 : 1 ≤ ivh4 a0 11 ∧ ivh4 a0 11 ≤ 100 := W4.int ty1 11
                have ie82 : ivh4 a0 11 = ivh2 a0 11 := fl4.i ty1 rfl 11
                have ie83 : ivh2 a0 11 = ivb1 a0 11 := fl2.i ty1 rfl 11
                have ri56 : 1 ≤ ivh4 a0 12 ∧ ivh4 a0 12 ≤ 50 := W4.int ty1 12
                have ie85 : ivh4 a0 12 = ivh2 a0 12 := fl4.i ty1 rfl 12
                have ie86 : ivh2 a0 12 = ivb1 a0 12 := fl2.i ty1 rfl 12
                have ri57 : (-2147483648) ≤ ivh4 a0 13 ∧ ivh4 a0 13 ≤ 2147483647 := W4.int ty1 13
                have ie88 : ivh4 a0 13 = ivh2 a0 13 := fl4.i ty1 rfl 13
                have ie89 : ivh2 a0 13 = ivb1 a0 13 := fl2.i ty1 rfl 13
                have ri58 : (-2147483648) ≤ ivh4 a0 14 ∧ ivh4 a0 14 ≤ 2147483647 := W4.int ty1 14
                have ie91 : ivh4 a0 14 = ivh2 a0 14 := fl4.i ty1 rfl 14
                have ie92 : ivh2 a0 14 = ivb1 a0 14 := fl2.i ty1 rfl 14
                have ri59 : (-2147483648) ≤ ivh4 a0 15 ∧ ivh4 a0 15 ≤ 2147483647 := W4.int ty1 15
                have ie94 : ivh4 a0 15 = ivh2 a0 15 := fl4.i ty1 rfl 15
                have ie95 : ivh2 a0 15 = ivb1 a0 15 := fl2.i ty1 rfl 15
                have ri60 : (-2147483648) ≤ ivh4 a0 16 ∧ ivh4 a0 16 ≤ 2147483647 := W4.int ty1 16
                have ie97 : ivh4 a0 16 = ivh2 a0 16 := fl4.i ty1 rfl 16
                have ie98 : ivh2 a0 16 = ivb1 a0 16 := fl2.i ty1 rfl 16
                have F8 := F3.call Xb1 fl10 rfl
                have mr8 := MRK.call mr3 W4 skb1 XT.refl fl10 rfl rfl
                refine c_st (st2 := [.int (iI f10)]) rfl ?_
                have gk11f10 : ivh10 a0 11 = ivh4 a0 11 := kp11f10
                have gk12f10 : ivh10 a0 12 = ivh4 a0 12 := kp12f10
                have gk13f10 : ivh10 a0 13 = ivh4 a0 13 := kp13f10
                have gk14f10 : ivh10 a0 14 = ivh4 a0 14 := kp14f10
                have gk15f10 : ivh10 a0 15 = ivh4 a0 15 := kp15f10
                have gk16f10 : ivh10 a0 16 = ivh4 a0 16 := kp16f10
                have gf10 : f10 = -1 := exf10
                have ri61 : 0 ≤ ivh10 (sk 2) 2 ∧ ivh10 (sk 2) 2 ≤ 3000 := W10.int ty2 2
                have ie100 : ivh10 (sk 2) 2 = ivh4 (sk 2) 2 := fl10.i ty2 rfl 2
                have ie101 : ivh4 (sk 2) 2 = ivh2 (sk 2) 2 := fl4.i ty2 rfl 2
                have ri62 : 1 ≤ ivh10 a0 11 ∧ ivh10 a0 11 ≤ 100 := W10.int ty1 11
                have ri63 : 1 ≤ ivh10 a0 12 ∧ ivh10 a0 12 ≤ 50 := W10.int ty1 12
                have ri64 : (-2147483648) ≤ ivh10 a0 13 ∧ ivh10 a0 13 ≤ 2147483647 := W10.int ty1 13
                have ri65 : (-2147483648) ≤ ivh10 a0 14 ∧ ivh10 a0 14 ≤ 2147483647 := W10.int ty1 14
                have ri66 : (-2147483648) ≤ ivh10 a0 15 ∧ ivh10 a0 15 ≤ 2147483647 := W10.int ty1 15
                have ri67 : (-2147483648) ≤ ivh10 a0 16 ∧ ivh10 a0 16 ≤ 2147483647 := W10.int ty1 16
                exact c_iret C dX11_head_151 rfl (by decide) (rom0 hph pl1 (by decide)) ⟨f10, rfl, Xb1, F8, W10, ⟨by omega, by omega⟩, trivial, (by omega), (by omega), (by omega), (by omega), (by omega), (by omega), (by omega), (show rvb1 a0 9 = rv a0 9 from hkr9), (show rvb1 a0 10 = rv a0 10 from hkr10)⟩
            · subst oq1
              refine c_lv (lv2 := [(3, .null), (2, .int (iI fl)), (0, .ref a0), (1, .int (iI i))]) [0, 1, 2, 3] rfl ?_
              refine c_st (st2 := []) rfl ?_
              refine c_aload_n (j := 2) (x := a0) C dX11_head_117 rfl ?_
              refine c_iconst C dX11_head_118 ?_
              refine d_callV (As := [.int (iI 3)]) (rest := []) C hM (C_refuse (a0 := a0) (x := 3) W2 skb1 ty1 ⟨by decide, by decide⟩ ) dX11_head_119 kV_X11_102 rfl ty1 rfl rfl (by decide) ck_12 rfl (Nat.le_of_ble_eq_true rfl) ⟨(Nat.le_of_ble_eq_true rfl), (Nat.le_of_ble_eq_true rfl)⟩ hph pl1 (show 0 + 0 = 0 from rfl) (by decide) (fun rh11 Lh11 clh11 lnh11 ivh11 rvh11 h11 => ?_)
              obtain ⟨f11, rfl, rfl, rfl, rfl, rfl, fl11, W11, rgf11, exf11, kp11f11, kp12f11, kp13f11, kp14f11, kp15f11, kp16f11⟩ := h11
              have ri68 : 1 ≤ ivh2 a0 11 ∧ ivh2 a0 11 ≤ 100 := W2.int ty1 11
              have ie108 : ivh2 a0 11 = ivb1 a0 11 := fl2.i ty1 rfl 11
              have ri69 : 1 ≤ ivh2 a0 12 ∧ ivh2 a0 12 ≤ 50 := W2.int ty1 12
              have ie110 : ivh2 a0 12 = ivb1 a0 12 := fl2.i ty1 rfl 12
              have ri70 : (-2147483648) ≤ ivh2 a0 13 ∧ ivh2 a0 13 ≤ 2147483647 := W2.int ty1 13
              have ie112 : ivh2 a0 13 = ivb1 a0 13 := fl2.i ty1 rfl 13
              have ri71 : (-2147483648) ≤ ivh2 a0 14 ∧ ivh2 a0 14 ≤ 2147483647 := W2.int ty1 14
              have ie114 : ivh2 a0 14 = ivb1 a0 14 := fl2.i ty1 rfl 14
              have ri72 : (-2147483648) ≤ ivh2 a0 15 ∧ ivh2 a0 15 ≤ 2147483647 := W2.int ty1 15
              have ie116 : ivh2 a0 15 = ivb1 a0 15 := fl2.i ty1 rfl 15
              have ri73 : (-2147483648) ≤ ivh2 a0 16 ∧ ivh2 a0 16 ≤ 2147483647 := W2.int ty1 16
              have ie118 : ivh2 a0 16 = ivb1 a0 16 := fl2.i ty1 rfl 16
              have F9 := F2.call Xb1 fl11 rfl
              have mr9 := MRK.call mr2 W2 skb1 XT.refl fl11 rfl rfl
              refine c_st (st2 := [.int (iI f11)]) rfl ?_
              have gk11f11 : ivh11 a0 11 = ivh2 a0 11 := kp11f11
              have gk12f11 : ivh11 a0 12 = ivh2 a0 12 := kp12f11
              have gk13f11 : ivh11 a0 13 = ivh2 a0 13 := kp13f11
              have gk14f11 : ivh11 a0 14 = ivh2 a0 14 := kp14f11
              have gk15f11 : ivh11 a0 15 = ivh2 a0 15 := kp15f11
              have gk16f11 : ivh11 a0 16 = ivh2 a0 16 := kp16f11
              have gf11 : f11 = -1 := exf11
              have ri74 : 0 ≤ ivh11 (sk 2) 2 ∧ ivh11 (sk 2) 2 ≤ 3000 := W11.int ty2 2
              have ie120 : ivh11 (sk 2) 2 = ivh2 (sk 2) 2 := fl11.i ty2 rfl 2
              have ri75 : 1 ≤ ivh11 a0 11 ∧ ivh11 a0 11 ≤ 100 := W11.int ty1 11
              have ri76 : 1 ≤ ivh11 a0 12 ∧ ivh11 a0 12 ≤ 50 := W11.int ty1 12
              have ri77 : (-2147483648) ≤ ivh11 a0 13 ∧ ivh11 a0 13 ≤ 2147483647 := W11.int ty1 13
              have ri78 : (-2147483648) ≤ ivh11 a0 14 ∧ ivh11 a0 14 ≤ 2147483647 := W11.int ty1 14
              have ri79 : (-2147483648) ≤ ivh11 a0 15 ∧ ivh11 a0 15 ≤ 2147483647 := W11.int ty1 15
              have ri80 : (-2147483648) ≤ ivh11 a0 16 ∧ ivh11 a0 16 ≤ 2147483647 := W11.int ty1 16
              exact c_iret C dX11_head_122 rfl (by decide) (rom0 hph pl1 (by decide)) ⟨f11, rfl, Xb1, F9, W11, ⟨by omega, by omega⟩, trivial, (by omega), (by omega), (by omega), (by omega), (by omega), (by omega), (by omega), (show rvb1 a0 9 = rv a0 9 from hkr9), (show rvb1 a0 10 = rv a0 10 from hkr10)⟩
          · refine c_aload_n (j := 2) (x := a0) C dX11_head_97 rfl ?_
            refine c_bipush (z := 6) C dX11_head_98 (by decide) ?_
            refine d_callV (As := [.int (iI 6)]) (rest := []) C hM (C_refuse (a0 := a0) (x := 6) W2 skb1 ty1 ⟨by decide, by decide⟩ ) dX11_head_100 kV_X11_102 rfl ty1 rfl rfl (by decide) ck_12 rfl (Nat.le_of_ble_eq_true rfl) ⟨(Nat.le_of_ble_eq_true rfl), (Nat.le_of_ble_eq_true rfl)⟩ hph pl1 (show 0 + 0 = 0 from rfl) (by decide) (fun rh12 Lh12 clh12 lnh12 ivh12 rvh12 h12 => ?_)
            obtain ⟨f12, rfl, rfl, rfl, rfl, rfl, fl12, W12, rgf12, exf12, kp11f12, kp12f12, kp13f12, kp14f12, kp15f12, kp16f12⟩ := h12
            have ri81 : 1 ≤ ivh2 a0 11 ∧ ivh2 a0 11 ≤ 100 := W2.int ty1 11
            have ie127 : ivh2 a0 11 = ivb1 a0 11 := fl2.i ty1 rfl 11
            have ri82 : 1 ≤ ivh2 a0 12 ∧ ivh2 a0 12 ≤ 50 := W2.int ty1 12
            have ie129 : ivh2 a0 12 = ivb1 a0 12 := fl2.i ty1 rfl 12
            have ri83 : (-2147483648) ≤ ivh2 a0 13 ∧ ivh2 a0 13 ≤ 2147483647 := W2.int ty1 13
            have ie131 : ivh2 a0 13 = ivb1 a0 13 := fl2.i ty1 rfl 13
            have ri84 : (-2147483648) ≤ ivh2 a0 14 ∧ ivh2 a0 14 ≤ 2147483647 := W2.int ty1 14
            have ie133 : ivh2 a0 14 = ivb1 a0 14 := fl2.i ty1 rfl 14
            have ri85 : (-2147483648) ≤ ivh2 a0 15 ∧ ivh2 a0 15 ≤ 2147483647 := W2.int ty1 15
            have ie135 : ivh2 a0 15 = ivb1 a0 15 := fl2.i ty1 rfl 15
            have ri86 : (-2147483648) ≤ ivh2 a0 16 ∧ ivh2 a0 16 ≤ 2147483647 := W2.int ty1 16
            have ie137 : ivh2 a0 16 = ivb1 a0 16 := fl2.i ty1 rfl 16
            have F10 := F2.call Xb1 fl12 rfl
            have mr10 := MRK.call mr2 W2 skb1 XT.refl fl12 rfl rfl
            refine c_st (st2 := [.int (iI f12)]) rfl ?_
            have gk11f12 : ivh12 a0 11 = ivh2 a0 11 := kp11f12
            have gk12f12 : ivh12 a0 12 = ivh2 a0 12 := kp12f12
            have gk13f12 : ivh12 a0 13 = ivh2 a0 13 := kp13f12
            have gk14f12 : ivh12 a0 14 = ivh2 a0 14 := kp14f12
            have gk15f12 : ivh12 a0 15 = ivh2 a0 15 := kp15f12
            have gk16f12 : ivh12 a0 16 = ivh2 a0 16 := kp16f12
            have gf12 : f12 = -1 := exf12
            have ri87 : 0 ≤ ivh12 (sk 2) 2 ∧ ivh12 (sk 2) 2 ≤ 3000 := W12.int ty2 2
            have ie139 : ivh12 (sk 2) 2 = ivh2 (sk 2) 2 := fl12.i ty2 rfl 2
            have ri88 : 1 ≤ ivh12 a0 11 ∧ ivh12 a0 11 ≤ 100 := W12.int ty1 11
            have ri89 : 1 ≤ ivh12 a0 12 ∧ ivh12 a0 12 ≤ 50 := W12.int ty1 12
            have ri90 : (-2147483648) ≤ ivh12 a0 13 ∧ ivh12 a0 13 ≤ 2147483647 := W12.int ty1 13
            have ri91 : (-2147483648) ≤ ivh12 a0 14 ∧ ivh12 a0 14 ≤ 2147483647 := W12.int ty1 14
            have ri92 : (-2147483648) ≤ ivh12 a0 15 ∧ ivh12 a0 15 ≤ 2147483647 := W12.int ty1 15
            have ri93 : (-2147483648) ≤ ivh12 a0 16 ∧ ivh12 a0 16 ≤ 2147483647 := W12.int ty1 16
            exact c_iret C dX11_head_103 rfl (by decide) (rom0 hph pl1 (by decide)) ⟨f12, rfl, Xb1, F10, W12, ⟨by omega, by omega⟩, trivial, (by omega), (by omega), (by omega), (by omega), (by omega), (by omega), (by omega), (show rvb1 a0 9 = rv a0 9 from hkr9), (show rvb1 a0 10 = rv a0 10 from hkr10)⟩
        · refine c_iload_n (j := 1) C dX11_head_53 rfl ?_
          refine c_aload_n (j := 2) (x := a0) C dX11_head_54 rfl ?_
          have ty26 := Xb1.ty t_a0
          obtain ⟨rb12, rq12, trb12⟩ := Wb1.ref ty26 0 rfl rfl rfl
          have erb12 := Wb1.sk trb12 (by decide) rfl
          subst erb12
          refine c_getr (k := 0) C ck_12 dX11_head_55 w2_44 (by decide) ty26 rfl rfl (by decide) rfl rq12 ?_
          refine c_st (st2 := [.ref (sk 2), .int (iI k)]) rfl ?_
          have ty27 := Xb1.ty tsk2
          have ri94 : 0 ≤ ivb1 (sk 2) 2 ∧ ivb1 (sk 2) 2 ≤ 3000 := Wb1.int ty27 2
          refine c_get (k := 2) C ck_2 dX11_head_58 w1_44 (by decide) ty27 rfl rfl (by decide) rfl ?_
          refine c_icmp_ge (tgt := 86) C ⟨by omega, by omega⟩ ⟨by omega, by omega⟩ dX11_head_61 (by decide) (fun c7 => ?_) (fun c7 => ?_)
          · refine c_aload_n (j := 2) (x := a0) C dX11_head_86 rfl ?_
            refine c_getr (k := 0) C ck_12 dX11_head_87 w2_44 (by decide) ty26 rfl rfl (by decide) rfl rq12 ?_
            refine c_st (st2 := [.ref (sk 2)]) rfl ?_
            have pl5 := Phi.le Wb1 skb1
            refine d_callV (As := []) (rest := []) C hM (C_clear_2 (a0 := (sk 2)) Wb1 skb1 ty27  ) dX11_head_90 kV_X11_164 rfl ty27 rfl rfl (by decide) ck_2 rfl (Nat.le_of_ble_eq_true rfl) ⟨(Nat.le_of_ble_eq_true rfl), (Nat.le_of_ble_eq_true rfl)⟩ hph pl5 (show 0 + 0 = 0 from rfl) (by decide) (fun rh13 Lh13 clh13 lnh13 ivh13 rvh13 h13 => ?_)
            obtain ⟨rfl, rfl, rfl, rfl, rfl, fl13, W13, exf13⟩ := h13
            have F11 := Fb1.call Xb1 fl13 rfl
            have mr11 := MRK.call mrb1 Wb1 skb1 XT.refl fl13 rfl rfl
            refine c_st (st2 := []) rfl ?_
            have ri95 : 0 ≤ ivh13 (sk 2) 2 ∧ ivh13 (sk 2) 2 ≤ 3000 := W13.int ty27 2
            have gf13 : ivh13 (sk 2) 2 = 0 := exf13
            refine c_iload_n (j := 0) C dX11_head_93 rfl ?_
            refine c_if_ne (tgt := 104) C ⟨by omega, by omega⟩ dX11_head_94 (by decide) (fun c8 => ?_) (fun c8 => ?_)
            · refine c_aload_n (j := 2) (x := a0) C dX11_head_104 rfl ?_
              obtain ⟨rb13, rq13, trb13⟩ := W13.ref ty26 4 rfl rfl rfl
              have erb13 := W13.sk trb13 (by decide) rfl
              subst erb13
              refine c_getr (k := 4) C ck_12 dX11_head_105 w2_48 (by decide) ty26 rfl rfl (by decide) rfl rq13 ?_
              refine c_st (st2 := [.ref (sk 13)]) rfl ?_
              refine c_iload_n (j := 3) C dX11_head_108 rfl ?_
              have ty28 := Xb1.ty tsk13
              refine d_callV (As := [.int (iI i)]) (rest := []) C hM (C_whole (a0 := (sk 13)) (i := i) W13 skb1 ty28 (by omega) mr11) dX11_head_109 kV_X11_231 rfl ty28 rfl rfl (by decide) ck_11 rfl (Nat.le_of_ble_eq_true rfl) ⟨(Nat.le_of_ble_eq_true rfl), (Nat.le_of_ble_eq_true rfl)⟩ hph pl5 (show 0 + 0 = 0 from rfl) (by decide) (fun rh14 Lh14 clh14 lnh14 ivh14 rvh14 h14 => ?_)
              obtain ⟨f14, rfl, rfl, rfl, rfl, rfl, rfl, rgf14, exf14⟩ := h14
              refine c_st (st2 := [(va_rf f14)]) rfl ?_
              refine c_astorer_n (r := f14) (lv2 := [(3, (va_rf f14)), (2, .int (iI fl)), (0, .ref a0), (1, .int (iI i))]) C dX11_head_112 (by decide) rfl ?_
              refine c_aloadr_n (j := 0) (r := f14) C dX11_head_113 rfl ?_
              refine c_ifnonnull (r := f14) (tgt := 123) C dX11_head_114 (by decide) (fun ob2 oq2 => ?_) (fun oq2 => ?_)
              · subst oq2
                have tob2 := rgf14 ob2 rfl
                refine c_lv (lv2 := [(3, .ref ob2), (2, .int (iI fl)), (0, .ref a0), (1, .int (iI i))]) [0, 1, 2, 3] rfl ?_
                refine c_st (st2 := []) rfl ?_
                refine c_aload_n (j := 2) (x := a0) C dX11_head_123 rfl ?_
                obtain ⟨rb14, rq14, trb14⟩ := W13.ref ty26 6 rfl rfl rfl
                have erb14 := W13.sk trb14 (by decide) rfl
                subst erb14
                refine c_getr (k := 6) C ck_12 dX11_head_124 w2_50 (by decide) ty26 rfl rfl (by decide) rfl rq14 ?_
                refine c_st (st2 := [.ref (sk 15)]) rfl ?_
                refine c_aload_n (j := 0) (x := ob2) C dX11_head_127 rfl ?_
                have ty29 := Xb1.ty tsk15
                have ri96 : 0 ≤ ivh13 (sk 15) 4 ∧ ivh13 (sk 15) 4 ≤ 500 := W13.int ty29 4
                have ie148 : ivh13 (sk 15) 4 = ivb1 (sk 15) 4 := fl13.i ty29 rfl 4
                refine d_callV (As := [.ref ob2]) (rest := []) C hM (C_setBy (a0 := (sk 15)) (a1 := ob2) W13 skb1 ty29 tob2  ) dX11_head_128 kV_X11_253 rfl ty29 rfl rfl (by decide) ck_7 rfl (Nat.le_of_ble_eq_true rfl) ⟨(Nat.le_of_ble_eq_true rfl), (Nat.le_of_ble_eq_true rfl)⟩ hph pl5 (show 0 + 0 = 0 from rfl) (by decide) (fun rh15 Lh15 clh15 lnh15 ivh15 rvh15 h15 => ?_)
                obtain ⟨f15, rfl, rfl, rfl, rfl, rfl, fl15, W15, rgf15, exf15⟩ := h15
                have F12 := F11.call Xb1 fl15 rfl
                have mr12 := MRK.call mr11 W13 skb1 XT.refl fl15 rfl rfl
                refine c_st (st2 := [.int (iI f15)]) rfl ?_
                have ri97 : 0 ≤ ivh15 (sk 15) 4 ∧ ivh15 (sk 15) 4 ≤ 500 := W15.int ty29 4
                have ri98 : 0 ≤ ivh15 (sk 15) 7 ∧ ivh15 (sk 15) 7 ≤ 100000 := W15.int ty29 7
                have gf15 : (f15 = 0 ∨ f15 = 6 ∨ f15 = 7) ∧ ivh15 (sk 15) 4 = ivh13 (sk 15) 4 ∧ (f15 = 0 → ivh15 (sk 15) 7 ≤ 200) := exf15
                refine c_istore (lv2 := [(4, .int (iI f15)), (3, .ref ob2), (2, .int (iI fl)), (0, .ref a0), (1, .int (iI i))]) C dX11_head_131 (by decide) rfl ?_
                refine c_iload (j := 0) C dX11_head_133 rfl ?_
                refine c_if_eq (tgt := 152) C ⟨by omega, by omega⟩ dX11_head_135 (by decide) (fun c9 => ?_) (fun c9 => ?_)
                · refine c_aload_n (j := 3) (x := a0) C dX11_head_152 rfl ?_
                  obtain ⟨rb15, rq15, trb15⟩ := W15.ref ty26 3 rfl rfl rfl
                  have erb15 := W15.sk trb15 (by decide) rfl
                  subst erb15
                  refine c_getr (k := 3) C ck_12 dX11_head_153 w2_47 (by decide) ty26 rfl rfl (by decide) rfl rq15 ?_
                  refine c_st (st2 := [.ref (sk 5)]) rfl ?_
                  have ty30 := Xb1.ty tsk5
                  refine d_callV (As := []) (rest := []) C hM (C_clear_5 (a0 := (sk 5)) W15 skb1 ty30  ) dX11_head_156 kV_X11_164 rfl ty30 rfl rfl (by decide) ck_2 rfl (Nat.le_of_ble_eq_true rfl) ⟨(Nat.le_of_ble_eq_true rfl), (Nat.le_of_ble_eq_true rfl)⟩ hph pl5 (show 0 + 0 = 0 from rfl) (by decide) (fun rh16 Lh16 clh16 lnh16 ivh16 rvh16 h16 => ?_)
                  obtain ⟨rfl, rfl, rfl, rfl, rfl, fl16, W16, exf16⟩ := h16
                  have F13 := F12.call Xb1 fl16 rfl
                  have mr13 := MRK.call mr12 W15 skb1 XT.refl fl16 rfl rfl
                  refine c_st (st2 := []) rfl ?_
                  have ri99 : 0 ≤ ivh16 (sk 5) 2 ∧ ivh16 (sk 5) 2 ≤ 200 := W16.int ty30 2
                  have gf16 : ivh16 (sk 5) 2 = 0 := exf16
                  refine c_iconst C dX11_head_159 ?_
                  refine c_istore (lv2 := [(5, .int (iI 0)), (4, .int (iI f15)), (3, .ref ob2), (2, .int (iI fl)), (0, .ref a0), (1, .int (iI i))]) C dX11_head_160 (by decide) rfl ?_
                  have Lp3 : ∀ (nn : Nat) (k2 : Int) (Lb3 : List Nat) (clb3 lnb3 : Nat → Nat) (ivb3 : Nat → Nat → Int) (rvb3 : Nat → Nat → Option Nat) , 101 - k2 < (nn : Int) → XT L cl ln Lb3 clb3 lnb3 → WT (g0 G) sk Lb3 clb3 lnb3 ivb3 rvb3 → fT [1, 2, 5, 35, 15, 50, 51, 52, 53, 54, 55] L cl iv rv ivb3 rvb3 → (0 ≤ k2 ∧ k2 ≤ 100) → (ivb3 (sk 15) 7 ≤ 200) → (ivb3 (sk 2) 2 = 0) → (ivb3 a0 11 = iv a0 11) → (ivb3 a0 12 = iv a0 12) → (ivb3 a0 13 = iv a0 13) → (ivb3 a0 14 = iv a0 14) → (ivb3 a0 15 = iv a0 15) → (ivb3 a0 16 = iv a0 16) → (rvb3 a0 9 = rv a0 9) → (rvb3 a0 10 = rv a0 10) → cw p l e 8 ((PHM) + 0 - ((Phi (g0 G) sk) ln rv)) s m args below meth c G A 6 (MQ below (Qu G A (Qp G (Phi (g0 G) sk) ((Phi (g0 G) sk) ln rv) 0 (fun v L2 cl2 ln2 iv2 rv2 => ∃ f : Int, v = some (.int (iI f)) ∧ XT L cl ln L2 cl2 ln2 ∧ fT [1, 2, 5, 35, 15, 50, 51, 52, 53, 54, 55] L cl iv rv iv2 rv2 ∧ WT (g0 G) sk L2 cl2 ln2 iv2 rv2 ∧ (-2147483648 ≤ f ∧ f ≤ 2147483647) ∧ (True) ∧ iv2 a0 11 = iv a0 11 ∧ iv2 a0 12 = iv a0 12 ∧ iv2 a0 13 = iv a0 13 ∧ iv2 a0 14 = iv a0 14 ∧ iv2 a0 15 = iv a0 15 ∧ iv2 a0 16 = iv a0 16 ∧ iv2 (sk 2) 2 = 0 ∧ rv2 a0 9 = rv a0 9 ∧ rv2 a0 10 = rv a0 10))) args s (((PHM) + 0 - ((Phi (g0 G) sk) ln rv)) / 16) ((PHM) + 0 - ((Phi (g0 G) sk) ln rv)) A) (Phi (g0 G) sk) ((Phi (g0 G) sk) ln rv) Lb3 clb3 lnb3 ivb3 rvb3 0 162 [(5, .int (iI k2)), (4, .int (iI f15)), (3, .ref ob2), (2, .int (iI fl)), (0, .ref a0), (1, .int (iI i))] [] := by
                    intro nn
                    induction nn with
                    | zero =>
                      intro  k2 Lb3 clb3 lnb3 ivb3 rvb3 hm Xb3 Wb3 Fb3  hk2 hco htz hkp11 hkp12 hkp13 hkp14 hkp15 hkp16 hkr9 hkr10
                      have skb3 := Xb3.skl hS
                      exact absurd hm (by omega)
                    | succ nn ih3 =>
                      intro  k2 Lb3 clb3 lnb3 ivb3 rvb3 hm Xb3 Wb3 Fb3  hk2 hco htz hkp11 hkp12 hkp13 hkp14 hkp15 hkp16 hkr9 hkr10
                      have skb3 := Xb3.skl hS
                      have mrb3 := MRK.call hmr hW hS Xb3 Fb3 rfl rfl
                      refine c_iload (j := 0) C dX11_head_162 rfl ?_
                      refine c_aload_n (j := 4) (x := a0) C dX11_head_164 rfl ?_
                      have ty31 := Xb3.ty t_a0
                      obtain ⟨rb16, rq16, trb16⟩ := Wb3.ref ty31 6 rfl rfl rfl
                      have erb16 := Wb3.sk trb16 (by decide) rfl
                      subst erb16
                      refine c_getr (k := 6) C ck_12 dX11_head_165 w2_50 (by decide) ty31 rfl rfl (by decide) rfl rq16 ?_
                      refine c_st (st2 := [.ref (sk 15), .int (iI k2)]) rfl ?_
                      have ty32 := Xb3.ty tsk15
                      have ri100 : 0 ≤ ivb3 (sk 15) 7 ∧ ivb3 (sk 15) 7 ≤ 100000 := Wb3.int ty32 7
                      refine c_get (k := 7) C ck_7 dX11_head_168 w1_149 (by decide) ty32 rfl rfl (by decide) rfl ?_
                      refine c_icmp_ge (tgt := 206) C ⟨by omega, by omega⟩ ⟨by omega, by omega⟩ dX11_head_171 (by decide) (fun c10 => ?_) (fun c10 => ?_)
                      · refine c_aload_n (j := 4) (x := a0) C dX11_head_206 rfl ?_
                        refine c_aload_n (j := 4) (x := a0) C dX11_head_207 rfl ?_
                        obtain ⟨rb17, rq17, trb17⟩ := Wb3.ref ty31 3 rfl rfl rfl
                        have erb17 := Wb3.sk trb17 (by decide) rfl
                        subst erb17
                        refine c_getr (k := 3) C ck_12 dX11_head_208 w2_47 (by decide) ty31 rfl rfl (by decide) rfl rq17 ?_
                        refine c_st (st2 := [.ref (sk 5), .ref a0]) rfl ?_
                        have ty33 := Xb3.ty tsk5
                        have ri101 : 0 ≤ ivb3 (sk 5) 2 ∧ ivb3 (sk 5) 2 ≤ 200 := Wb3.int ty33 2
                        refine c_get (k := 2) C ck_2 dX11_head_211 w1_44 (by decide) ty33 rfl rfl (by decide) rfl ?_
                        have pl6 := Phi.le Wb3 skb3
                        refine d_callV (As := [.int (iI (ivb3 (sk 5) 2))]) (rest := []) C hM (C_done (a0 := a0) (x := ivb3 (sk 5) 2) Wb3 skb3 ty31 (by omega) ) dX11_head_214 kV_X11_109 rfl ty31 rfl rfl (by decide) ck_12 rfl (Nat.le_of_ble_eq_true rfl) ⟨(Nat.le_of_ble_eq_true rfl), (Nat.le_of_ble_eq_true rfl)⟩ hph pl6 (show 0 + 0 = 0 from rfl) (by decide) (fun rh17 Lh17 clh17 lnh17 ivh17 rvh17 h17 => ?_)
                        obtain ⟨f17, rfl, rfl, rfl, rfl, rfl, fl17, W17, rgf17, exf17, kp11f17, kp12f17, kp13f17, kp14f17, kp15f17, kp16f17⟩ := h17
                        have ri102 : 1 ≤ ivb3 a0 11 ∧ ivb3 a0 11 ≤ 100 := Wb3.int ty31 11
                        have ri103 : 1 ≤ ivb3 a0 12 ∧ ivb3 a0 12 ≤ 50 := Wb3.int ty31 12
                        have ri104 : (-2147483648) ≤ ivb3 a0 13 ∧ ivb3 a0 13 ≤ 2147483647 := Wb3.int ty31 13
                        have ri105 : (-2147483648) ≤ ivb3 a0 14 ∧ ivb3 a0 14 ≤ 2147483647 := Wb3.int ty31 14
                        have ri106 : (-2147483648) ≤ ivb3 a0 15 ∧ ivb3 a0 15 ≤ 2147483647 := Wb3.int ty31 15
                        have ri107 : (-2147483648) ≤ ivb3 a0 16 ∧ ivb3 a0 16 ≤ 2147483647 := Wb3.int ty31 16
                        have F14 := Fb3.call Xb3 fl17 rfl
                        have mr14 := MRK.call mrb3 Wb3 skb3 XT.refl fl17 rfl rfl
                        refine c_st (st2 := [.int (iI f17)]) rfl ?_
                        have gk11f17 : ivh17 a0 11 = ivb3 a0 11 := kp11f17
                        have gk12f17 : ivh17 a0 12 = ivb3 a0 12 := kp12f17
                        have gk13f17 : ivh17 a0 13 = ivb3 a0 13 := kp13f17
                        have gk14f17 : ivh17 a0 14 = ivb3 a0 14 := kp14f17
                        have gk15f17 : ivh17 a0 15 = ivb3 a0 15 := kp15f17
                        have gk16f17 : ivh17 a0 16 = ivb3 a0 16 := kp16f17
                        have gf17 : f17 = (ivb3 (sk 5) 2) := exf17
                        have ty34 := Xb3.ty tsk2
                        have ri108 : 0 ≤ ivh17 (sk 2) 2 ∧ ivh17 (sk 2) 2 ≤ 3000 := W17.int ty34 2
                        have ie161 : ivh17 (sk 2) 2 = ivb3 (sk 2) 2 := fl17.i ty34 rfl 2
                        have ri109 : 1 ≤ ivh17 a0 11 ∧ ivh17 a0 11 ≤ 100 := W17.int ty31 11
                        have ri110 : 1 ≤ ivh17 a0 12 ∧ ivh17 a0 12 ≤ 50 := W17.int ty31 12
                        have ri111 : (-2147483648) ≤ ivh17 a0 13 ∧ ivh17 a0 13 ≤ 2147483647 := W17.int ty31 13
                        have ri112 : (-2147483648) ≤ ivh17 a0 14 ∧ ivh17 a0 14 ≤ 2147483647 := W17.int ty31 14
                        have ri113 : (-2147483648) ≤ ivh17 a0 15 ∧ ivh17 a0 15 ≤ 2147483647 := W17.int ty31 15
                        have ri114 : (-2147483648) ≤ ivh17 a0 16 ∧ ivh17 a0 16 ≤ 2147483647 := W17.int ty31 16
                        exact c_iret C dX11_head_217 rfl (by decide) (rom0 hph pl6 (by decide)) ⟨f17, rfl, Xb3, F14, W17, ⟨by omega, by omega⟩, trivial, (by omega), (by omega), (by omega), (by omega), (by omega), (by omega), (by omega), (show rvb3 a0 9 = rv a0 9 from hkr9), (show rvb3 a0 10 = rv a0 10 from hkr10)⟩
                      · refine c_iload (j := 0) C dX11_head_174 rfl ?_
                        refine c_aload_n (j := 4) (x := a0) C dX11_head_176 rfl ?_
                        have ri115 : 1 ≤ ivb3 a0 11 ∧ ivb3 a0 11 ≤ 100 := Wb3.int ty31 11
                        refine c_get (k := 11) C ck_12 dX11_head_177 w2_55 (by decide) ty31 rfl rfl (by decide) rfl ?_
                        refine c_icmp_ge (tgt := 206) C ⟨by omega, by omega⟩ ⟨by omega, by omega⟩ dX11_head_180 (by decide) (fun c11 => ?_) (fun c11 => ?_)
                        · refine c_aload_n (j := 4) (x := a0) C dX11_head_206 rfl ?_
                          refine c_aload_n (j := 4) (x := a0) C dX11_head_207 rfl ?_
                          obtain ⟨rb18, rq18, trb18⟩ := Wb3.ref ty31 3 rfl rfl rfl
                          have erb18 := Wb3.sk trb18 (by decide) rfl
                          subst erb18
                          refine c_getr (k := 3) C ck_12 dX11_head_208 w2_47 (by decide) ty31 rfl rfl (by decide) rfl rq18 ?_
                          refine c_st (st2 := [.ref (sk 5), .ref a0]) rfl ?_
                          have ty35 := Xb3.ty tsk5
                          have ri116 : 0 ≤ ivb3 (sk 5) 2 ∧ ivb3 (sk 5) 2 ≤ 200 := Wb3.int ty35 2
                          refine c_get (k := 2) C ck_2 dX11_head_211 w1_44 (by decide) ty35 rfl rfl (by decide) rfl ?_
                          have pl7 := Phi.le Wb3 skb3
                          refine d_callV (As := [.int (iI (ivb3 (sk 5) 2))]) (rest := []) C hM (C_done (a0 := a0) (x := ivb3 (sk 5) 2) Wb3 skb3 ty31 (by omega) ) dX11_head_214 kV_X11_109 rfl ty31 rfl rfl (by decide) ck_12 rfl (Nat.le_of_ble_eq_true rfl) ⟨(Nat.le_of_ble_eq_true rfl), (Nat.le_of_ble_eq_true rfl)⟩ hph pl7 (show 0 + 0 = 0 from rfl) (by decide) (fun rh18 Lh18 clh18 lnh18 ivh18 rvh18 h18 => ?_)
                          obtain ⟨f18, rfl, rfl, rfl, rfl, rfl, fl18, W18, rgf18, exf18, kp11f18, kp12f18, kp13f18, kp14f18, kp15f18, kp16f18⟩ := h18
                          have ri117 : 1 ≤ ivb3 a0 12 ∧ ivb3 a0 12 ≤ 50 := Wb3.int ty31 12
                          have ri118 : (-2147483648) ≤ ivb3 a0 13 ∧ ivb3 a0 13 ≤ 2147483647 := Wb3.int ty31 13
                          have ri119 : (-2147483648) ≤ ivb3 a0 14 ∧ ivb3 a0 14 ≤ 2147483647 := Wb3.int ty31 14
                          have ri120 : (-2147483648) ≤ ivb3 a0 15 ∧ ivb3 a0 15 ≤ 2147483647 := Wb3.int ty31 15
                          have ri121 : (-2147483648) ≤ ivb3 a0 16 ∧ ivb3 a0 16 ≤ 2147483647 := Wb3.int ty31 16
                          have F15 := Fb3.call Xb3 fl18 rfl
                          have mr15 := MRK.call mrb3 Wb3 skb3 XT.refl fl18 rfl rfl
                          refine c_st (st2 := [.int (iI f18)]) rfl ?_
                          have gk11f18 : ivh18 a0 11 = ivb3 a0 11 := kp11f18
                          have gk12f18 : ivh18 a0 12 = ivb3 a0 12 := kp12f18
                          have gk13f18 : ivh18 a0 13 = ivb3 a0 13 := kp13f18
                          have gk14f18 : ivh18 a0 14 = ivb3 a0 14 := kp14f18
                          have gk15f18 : ivh18 a0 15 = ivb3 a0 15 := kp15f18
                          have gk16f18 : ivh18 a0 16 = ivb3 a0 16 := kp16f18
                          have gf18 : f18 = (ivb3 (sk 5) 2) := exf18
                          have ty36 := Xb3.ty tsk2
                          have ri122 : 0 ≤ ivh18 (sk 2) 2 ∧ ivh18 (sk 2) 2 ≤ 3000 := W18.int ty36 2
                          have ie176 : ivh18 (sk 2) 2 = ivb3 (sk 2) 2 := fl18.i ty36 rfl 2
                          have ri123 : 1 ≤ ivh18 a0 11 ∧ ivh18 a0 11 ≤ 100 := W18.int ty31 11
                          have ri124 : 1 ≤ ivh18 a0 12 ∧ ivh18 a0 12 ≤ 50 := W18.int ty31 12
                          have ri125 : (-2147483648) ≤ ivh18 a0 13 ∧ ivh18 a0 13 ≤ 2147483647 := W18.int ty31 13
                          have ri126 : (-2147483648) ≤ ivh18 a0 14 ∧ ivh18 a0 14 ≤ 2147483647 := W18.int ty31 14
                          have ri127 : (-2147483648) ≤ ivh18 a0 15 ∧ ivh18 a0 15 ≤ 2147483647 := W18.int ty31 15
                          have ri128 : (-2147483648) ≤ ivh18 a0 16 ∧ ivh18 a0 16 ≤ 2147483647 := W18.int ty31 16
                          exact c_iret C dX11_head_217 rfl (by decide) (rom0 hph pl7 (by decide)) ⟨f18, rfl, Xb3, F15, W18, ⟨by omega, by omega⟩, trivial, (by omega), (by omega), (by omega), (by omega), (by omega), (by omega), (by omega), (show rvb3 a0 9 = rv a0 9 from hkr9), (show rvb3 a0 10 = rv a0 10 from hkr10)⟩
                        · refine c_aload_n (j := 4) (x := a0) C dX11_head_183 rfl ?_
                          obtain ⟨rb19, rq19, trb19⟩ := Wb3.ref ty31 3 rfl rfl rfl
                          have erb19 := Wb3.sk trb19 (by decide) rfl
                          subst erb19
                          refine c_getr (k := 3) C ck_12 dX11_head_184 w2_47 (by decide) ty31 rfl rfl (by decide) rfl rq19 ?_
                          refine c_st (st2 := [.ref (sk 5)]) rfl ?_
                          refine c_aload_n (j := 4) (x := a0) C dX11_head_187 rfl ?_
                          refine c_getr (k := 6) C ck_12 dX11_head_188 w2_50 (by decide) ty31 rfl rfl (by decide) rfl rq16 ?_
                          refine c_st (st2 := [.ref (sk 15), .ref (sk 5)]) rfl ?_
                          obtain ⟨rb20, rq20, trb20⟩ := Wb3.ref ty32 6 rfl rfl rfl
                          have lnrb20 : 200 ≤ lnb3 rb20 ∧ lnb3 rb20 ≤ 200 := Wb3.len trb20 rfl
                          refine c_getr (k := 6) C ck_7 dX11_head_191 w1_146 (by decide) ty32 rfl rfl (by decide) rfl rq20 ?_
                          refine c_st (st2 := [.ref rb20, .ref (sk 5)]) rfl ?_
                          refine c_iload (j := 0) C dX11_head_194 rfl ?_
                          have ll2 : 200 ≤ lnb3 rb20 ∧ lnb3 rb20 ≤ 200 := Wb3.len trb20 rfl
                          refine c_iald C dX11_head_196 trb20 rfl (by omega) (by omega) (by omega) ?_
                          have ri129 : (-2147483648) ≤ ivb3 rb20 k2.toNat ∧ ivb3 rb20 k2.toNat ≤ 2147483647 := Wb3.int trb20 k2.toNat
                          have ty37 := Xb3.ty tsk5
                          have ri130 : 0 ≤ ivb3 (sk 5) 2 ∧ ivb3 (sk 5) 2 ≤ 200 := Wb3.int ty37 2
                          have pl8 := Phi.le Wb3 skb3
                          refine d_callV (As := [.int (iI (ivb3 rb20 k2.toNat))]) (rest := []) C hM (C_add_5 (a0 := (sk 5)) (x := ivb3 rb20 k2.toNat) Wb3 skb3 ty37 (by omega) ) dX11_head_197 kV_X11_112 rfl ty37 rfl rfl (by decide) ck_2 rfl (Nat.le_of_ble_eq_true rfl) ⟨(Nat.le_of_ble_eq_true rfl), (Nat.le_of_ble_eq_true rfl)⟩ hph pl8 (show 0 + 0 = 0 from rfl) (by decide) (fun rh19 Lh19 clh19 lnh19 ivh19 rvh19 h19 => ?_)
                          obtain ⟨rfl, xl19, fl19, W19, exf19⟩ := h19
                          have F16 := Fb3.call Xb3 fl19 rfl
                          have mr16 := MRK.call mrb3 Wb3 skb3 xl19 fl19 rfl rfl
                          have ty38 := Xb3.ty tsk2
                          have ty39 := Xb3.ty tsk3
                          have ty40 := Xb3.ty tsk4
                          have ty41 := Xb3.ty tsk13
                          have ty42 := Xb3.ty tsk14
                          have ty43 := Xb3.ty tsk16
                          have ty44 := Xb3.ty tsk17
                          have ty45 := Xb3.ty tsk22
                          have ty46 := Xb3.ty tsk23
                          have X2 := Xb3.trans xl19
                          have sk2 := xl19.skl skb3
                          refine c_st (st2 := []) rfl ?_
                          have ty47 := xl19.ty ty37
                          have ri131 : 0 ≤ ivh19 (sk 5) 2 ∧ ivh19 (sk 5) 2 ≤ 200 := W19.int ty47 2
                          have gf19 : ((ivh19 (sk 5) 2 = ivb3 (sk 5) 2 ∧ ivb3 (sk 5) 2 = 200) ∨ (ivh19 (sk 5) 2 = ivb3 (sk 5) 2 + 1 ∧ ivb3 (sk 5) 2 < 200)) := exf19
                          refine c_iinc (z := k2) (j := 0) (lv2 := [(5, .int (iI (k2 + 1))), (4, .int (iI f15)), (3, .ref ob2), (2, .int (iI fl)), (0, .ref a0), (1, .int (iI i))]) C dX11_head_200 rfl (by decide) rfl ?_
                          refine c_goto (tgt := 162) C dX11_head_203 (by decide) ?_
                          have ty48 := xl19.ty ty32
                          have ri132 : 0 ≤ ivh19 (sk 15) 7 ∧ ivh19 (sk 15) 7 ≤ 100000 := W19.int ty48 7
                          have ie187 : ivh19 (sk 15) 7 = ivb3 (sk 15) 7 := fl19.i ty32 rfl 7
                          have ty49 := xl19.ty ty38
                          have ri133 : 0 ≤ ivh19 (sk 2) 2 ∧ ivh19 (sk 2) 2 ≤ 3000 := W19.int ty49 2
                          have ie188 : ivh19 (sk 2) 2 = ivb3 (sk 2) 2 := fl19.i ty38 rfl 2
                          have ty50 := xl19.ty ty31
                          have ri134 : 1 ≤ ivh19 a0 11 ∧ ivh19 a0 11 ≤ 100 := W19.int ty50 11
                          have ie190 : ivh19 a0 11 = ivb3 a0 11 := fl19.i ty31 rfl 11
                          have ri135 : 1 ≤ ivh19 a0 12 ∧ ivh19 a0 12 ≤ 50 := W19.int ty50 12
                          have ie191 : ivh19 a0 12 = ivb3 a0 12 := fl19.i ty31 rfl 12
                          have ri136 : (-2147483648) ≤ ivh19 a0 13 ∧ ivh19 a0 13 ≤ 2147483647 := W19.int ty50 13
                          have ie193 : ivh19 a0 13 = ivb3 a0 13 := fl19.i ty31 rfl 13
                          have ri137 : (-2147483648) ≤ ivh19 a0 14 ∧ ivh19 a0 14 ≤ 2147483647 := W19.int ty50 14
                          have ie195 : ivh19 a0 14 = ivb3 a0 14 := fl19.i ty31 rfl 14
                          have ri138 : (-2147483648) ≤ ivh19 a0 15 ∧ ivh19 a0 15 ≤ 2147483647 := W19.int ty50 15
                          have ie197 : ivh19 a0 15 = ivb3 a0 15 := fl19.i ty31 rfl 15
                          have ri139 : (-2147483648) ≤ ivh19 a0 16 ∧ ivh19 a0 16 ≤ 2147483647 := W19.int ty50 16
                          have ie199 : ivh19 a0 16 = ivb3 a0 16 := fl19.i ty31 rfl 16
                          refine c_lv (lv2 := [(5, .int (iI (k2 + 1))), (4, .int (iI f15)), (3, .ref ob2), (2, .int (iI fl)), (0, .ref a0), (1, .int (iI i))]) [0, 1, 2, 3, 4, 5] rfl ?_
                          exact ih3  (k2 + 1) _ _ _ _ _ (by omega) X2 W19 F16  (by omega) (by show ivh19 (sk 15) 7 ≤ 200; omega) (by show ivh19 (sk 2) 2 = 0; omega) (by show ivh19 a0 11 = iv a0 11; omega) (by show ivh19 a0 12 = iv a0 12; omega) (by show ivh19 a0 13 = iv a0 13; omega) (by show ivh19 a0 14 = iv a0 14; omega) (by show ivh19 a0 15 = iv a0 15; omega) (by show ivh19 a0 16 = iv a0 16; omega) (Eq.trans (show rvh19 a0 9 = rvb3 a0 9 from (fl19.r ty31 rfl 9)) (show rvb3 a0 9 = rv a0 9 from hkr9)) (Eq.trans (show rvh19 a0 10 = rvb3 a0 10 from (fl19.r ty31 rfl 10)) (show rvb3 a0 10 = rv a0 10 from hkr10))
                  have ri140 : 0 ≤ ivh16 (sk 15) 7 ∧ ivh16 (sk 15) 7 ≤ 100000 := W16.int ty29 7
                  have ie201 : ivh16 (sk 15) 7 = ivh15 (sk 15) 7 := fl16.i ty29 rfl 7
                  have ri141 : 0 ≤ ivh16 (sk 2) 2 ∧ ivh16 (sk 2) 2 ≤ 3000 := W16.int ty27 2
                  have ie202 : ivh16 (sk 2) 2 = ivh15 (sk 2) 2 := fl16.i ty27 rfl 2
                  have ie203 : ivh15 (sk 2) 2 = ivh13 (sk 2) 2 := fl15.i ty27 rfl 2
                  have ri142 : 1 ≤ ivh16 a0 11 ∧ ivh16 a0 11 ≤ 100 := W16.int ty26 11
                  have ie204 : ivh16 a0 11 = ivh15 a0 11 := fl16.i ty26 rfl 11
                  have ie205 : ivh15 a0 11 = ivh13 a0 11 := fl15.i ty26 rfl 11
                  have ie206 : ivh13 a0 11 = ivb1 a0 11 := fl13.i ty26 rfl 11
                  have ri143 : 1 ≤ ivh16 a0 12 ∧ ivh16 a0 12 ≤ 50 := W16.int ty26 12
                  have ie208 : ivh16 a0 12 = ivh15 a0 12 := fl16.i ty26 rfl 12
                  have ie209 : ivh15 a0 12 = ivh13 a0 12 := fl15.i ty26 rfl 12
                  have ie210 : ivh13 a0 12 = ivb1 a0 12 := fl13.i ty26 rfl 12
                  have ri144 : (-2147483648) ≤ ivh16 a0 13 ∧ ivh16 a0 13 ≤ 2147483647 := W16.int ty26 13
                  have ie212 : ivh16 a0 13 = ivh15 a0 13 := fl16.i ty26 rfl 13
                  have ie213 : ivh15 a0 13 = ivh13 a0 13 := fl15.i ty26 rfl 13
                  have ie214 : ivh13 a0 13 = ivb1 a0 13 := fl13.i ty26 rfl 13
                  have ri145 : (-2147483648) ≤ ivh16 a0 14 ∧ ivh16 a0 14 ≤ 2147483647 := W16.int ty26 14
                  have ie216 : ivh16 a0 14 = ivh15 a0 14 := fl16.i ty26 rfl 14
                  have ie217 : ivh15 a0 14 = ivh13 a0 14 := fl15.i ty26 rfl 14
                  have ie218 : ivh13 a0 14 = ivb1 a0 14 := fl13.i ty26 rfl 14
                  have ri146 : (-2147483648) ≤ ivh16 a0 15 ∧ ivh16 a0 15 ≤ 2147483647 := W16.int ty26 15
                  have ie220 : ivh16 a0 15 = ivh15 a0 15 := fl16.i ty26 rfl 15
                  have ie221 : ivh15 a0 15 = ivh13 a0 15 := fl15.i ty26 rfl 15
                  have ie222 : ivh13 a0 15 = ivb1 a0 15 := fl13.i ty26 rfl 15
                  have ri147 : (-2147483648) ≤ ivh16 a0 16 ∧ ivh16 a0 16 ≤ 2147483647 := W16.int ty26 16
                  have ie224 : ivh16 a0 16 = ivh15 a0 16 := fl16.i ty26 rfl 16
                  have ie225 : ivh15 a0 16 = ivh13 a0 16 := fl15.i ty26 rfl 16
                  have ie226 : ivh13 a0 16 = ivb1 a0 16 := fl13.i ty26 rfl 16
                  refine c_lv (lv2 := [(5, .int (iI 0)), (4, .int (iI f15)), (3, .ref ob2), (2, .int (iI fl)), (0, .ref a0), (1, .int (iI i))]) [0, 1, 2, 3, 4, 5] rfl ?_
                  exact Lp3 103 0 _ _ _ _ _ (by omega) Xb1 W16 F13  (by omega) (by show ivh16 (sk 15) 7 ≤ 200; omega) (by show ivh16 (sk 2) 2 = 0; omega) (by show ivh16 a0 11 = iv a0 11; omega) (by show ivh16 a0 12 = iv a0 12; omega) (by show ivh16 a0 13 = iv a0 13; omega) (by show ivh16 a0 14 = iv a0 14; omega) (by show ivh16 a0 15 = iv a0 15; omega) (by show ivh16 a0 16 = iv a0 16; omega) (show rvb1 a0 9 = rv a0 9 from hkr9) (show rvb1 a0 10 = rv a0 10 from hkr10)
                · refine c_aload_n (j := 3) (x := a0) C dX11_head_138 rfl ?_
                  refine c_iload (j := 0) C dX11_head_139 rfl ?_
                  refine c_aload_n (j := 3) (x := a0) C dX11_head_141 rfl ?_
                  refine c_getr (k := 6) C ck_12 dX11_head_142 w2_50 (by decide) ty26 rfl rfl (by decide) rfl rq14 ?_
                  refine c_st (st2 := [.ref (sk 15), .int (iI f15), .ref a0]) rfl ?_
                  refine d_callV (As := []) (rest := [.int (iI f15), .ref a0]) C hM (C_placeOfUnknown (a0 := (sk 15)) W15 skb1 ty29  ) dX11_head_145 kV_X11_263 rfl ty29 rfl rfl (by decide) ck_7 rfl (Nat.le_of_ble_eq_true rfl) ⟨(Nat.le_of_ble_eq_true rfl), (Nat.le_of_ble_eq_true rfl)⟩ hph pl5 (show 0 + 0 = 0 from rfl) (by decide) (fun rh20 Lh20 clh20 lnh20 ivh20 rvh20 h20 => ?_)
                  obtain ⟨f20, rfl, rfl, rfl, rfl, rfl, rfl, rgf20, exf20⟩ := h20
                  refine c_st (st2 := [.int (iI f20), .int (iI f15), .ref a0]) rfl ?_
                  refine d_callV (As := [.int (iI f15), .int (iI f20)]) (rest := []) C hM (C_refuseAt (a0 := a0) (x := f15) (y := f20) W15 skb1 ty26 (by omega) (by omega) ) dX11_head_148 kV_X11_266 rfl ty26 rfl rfl (by decide) ck_12 rfl (Nat.le_of_ble_eq_true rfl) ⟨(Nat.le_of_ble_eq_true rfl), (Nat.le_of_ble_eq_true rfl)⟩ hph pl5 (show 0 + 0 = 0 from rfl) (by decide) (fun rh21 Lh21 clh21 lnh21 ivh21 rvh21 h21 => ?_)
                  obtain ⟨f21, rfl, rfl, rfl, rfl, rfl, fl21, W21, rgf21, exf21, kp11f21, kp12f21, kp13f21, kp14f21, kp15f21, kp16f21⟩ := h21
                  have ri148 : 1 ≤ ivh15 a0 11 ∧ ivh15 a0 11 ≤ 100 := W15.int ty26 11
                  have ie228 : ivh15 a0 11 = ivh13 a0 11 := fl15.i ty26 rfl 11
                  have ie229 : ivh13 a0 11 = ivb1 a0 11 := fl13.i ty26 rfl 11
                  have ri149 : 1 ≤ ivh15 a0 12 ∧ ivh15 a0 12 ≤ 50 := W15.int ty26 12
                  have ie231 : ivh15 a0 12 = ivh13 a0 12 := fl15.i ty26 rfl 12
                  have ie232 : ivh13 a0 12 = ivb1 a0 12 := fl13.i ty26 rfl 12
                  have ri150 : (-2147483648) ≤ ivh15 a0 13 ∧ ivh15 a0 13 ≤ 2147483647 := W15.int ty26 13
                  have ie234 : ivh15 a0 13 = ivh13 a0 13 := fl15.i ty26 rfl 13
                  have ie235 : ivh13 a0 13 = ivb1 a0 13 := fl13.i ty26 rfl 13
                  have ri151 : (-2147483648) ≤ ivh15 a0 14 ∧ ivh15 a0 14 ≤ 2147483647 := W15.int ty26 14
                  have ie237 : ivh15 a0 14 = ivh13 a0 14 := fl15.i ty26 rfl 14
                  have ie238 : ivh13 a0 14 = ivb1 a0 14 := fl13.i ty26 rfl 14
                  have ri152 : (-2147483648) ≤ ivh15 a0 15 ∧ ivh15 a0 15 ≤ 2147483647 := W15.int ty26 15
                  have ie240 : ivh15 a0 15 = ivh13 a0 15 := fl15.i ty26 rfl 15
                  have ie241 : ivh13 a0 15 = ivb1 a0 15 := fl13.i ty26 rfl 15
                  have ri153 : (-2147483648) ≤ ivh15 a0 16 ∧ ivh15 a0 16 ≤ 2147483647 := W15.int ty26 16
                  have ie243 : ivh15 a0 16 = ivh13 a0 16 := fl15.i ty26 rfl 16
                  have ie244 : ivh13 a0 16 = ivb1 a0 16 := fl13.i ty26 rfl 16
                  have F17 := F12.call Xb1 fl21 rfl
                  have mr17 := MRK.call mr12 W15 skb1 XT.refl fl21 rfl rfl
                  refine c_st (st2 := [.int (iI f21)]) rfl ?_
                  have gk11f21 : ivh21 a0 11 = ivh15 a0 11 := kp11f21
                  have gk12f21 : ivh21 a0 12 = ivh15 a0 12 := kp12f21
                  have gk13f21 : ivh21 a0 13 = ivh15 a0 13 := kp13f21
                  have gk14f21 : ivh21 a0 14 = ivh15 a0 14 := kp14f21
                  have gk15f21 : ivh21 a0 15 = ivh15 a0 15 := kp15f21
                  have gk16f21 : ivh21 a0 16 = ivh15 a0 16 := kp16f21
                  have gf21 : f21 = -1 := exf21
                  have ri154 : 0 ≤ ivh21 (sk 2) 2 ∧ ivh21 (sk 2) 2 ≤ 3000 := W21.int ty27 2
                  have ie246 : ivh21 (sk 2) 2 = ivh15 (sk 2) 2 := fl21.i ty27 rfl 2
                  have ie247 : ivh15 (sk 2) 2 = ivh13 (sk 2) 2 := fl15.i ty27 rfl 2
                  have ri155 : 1 ≤ ivh21 a0 11 ∧ ivh21 a0 11 ≤ 100 := W21.int ty26 11
                  have ri156 : 1 ≤ ivh21 a0 12 ∧ ivh21 a0 12 ≤ 50 := W21.int ty26 12
                  have ri157 : (-2147483648) ≤ ivh21 a0 13 ∧ ivh21 a0 13 ≤ 2147483647 := W21.int ty26 13
                  have ri158 : (-2147483648) ≤ ivh21 a0 14 ∧ ivh21 a0 14 ≤ 2147483647 := W21.int ty26 14
                  have ri159 : (-2147483648) ≤ ivh21 a0 15 ∧ ivh21 a0 15 ≤ 2147483647 := W21.int ty26 15
                  have ri160 : (-2147483648) ≤ ivh21 a0 16 ∧ ivh21 a0 16 ≤ 2147483647 := W21.int ty26 16
                  exact c_iret C dX11_head_151 rfl (by decide) (rom0 hph pl5 (by decide)) ⟨f21, rfl, Xb1, F17, W21, ⟨by omega, by omega⟩, trivial, (by omega), (by omega), (by omega), (by omega), (by omega), (by omega), (by omega), (show rvb1 a0 9 = rv a0 9 from hkr9), (show rvb1 a0 10 = rv a0 10 from hkr10)⟩
              · subst oq2
                refine c_lv (lv2 := [(3, .null), (2, .int (iI fl)), (0, .ref a0), (1, .int (iI i))]) [0, 1, 2, 3] rfl ?_
                refine c_st (st2 := []) rfl ?_
                refine c_aload_n (j := 2) (x := a0) C dX11_head_117 rfl ?_
                refine c_iconst C dX11_head_118 ?_
                refine d_callV (As := [.int (iI 3)]) (rest := []) C hM (C_refuse (a0 := a0) (x := 3) W13 skb1 ty26 ⟨by decide, by decide⟩ ) dX11_head_119 kV_X11_102 rfl ty26 rfl rfl (by decide) ck_12 rfl (Nat.le_of_ble_eq_true rfl) ⟨(Nat.le_of_ble_eq_true rfl), (Nat.le_of_ble_eq_true rfl)⟩ hph pl5 (show 0 + 0 = 0 from rfl) (by decide) (fun rh22 Lh22 clh22 lnh22 ivh22 rvh22 h22 => ?_)
                obtain ⟨f22, rfl, rfl, rfl, rfl, rfl, fl22, W22, rgf22, exf22, kp11f22, kp12f22, kp13f22, kp14f22, kp15f22, kp16f22⟩ := h22
                have ri161 : 1 ≤ ivh13 a0 11 ∧ ivh13 a0 11 ≤ 100 := W13.int ty26 11
                have ie254 : ivh13 a0 11 = ivb1 a0 11 := fl13.i ty26 rfl 11
                have ri162 : 1 ≤ ivh13 a0 12 ∧ ivh13 a0 12 ≤ 50 := W13.int ty26 12
                have ie256 : ivh13 a0 12 = ivb1 a0 12 := fl13.i ty26 rfl 12
                have ri163 : (-2147483648) ≤ ivh13 a0 13 ∧ ivh13 a0 13 ≤ 2147483647 := W13.int ty26 13
                have ie258 : ivh13 a0 13 = ivb1 a0 13 := fl13.i ty26 rfl 13
                have ri164 : (-2147483648) ≤ ivh13 a0 14 ∧ ivh13 a0 14 ≤ 2147483647 := W13.int ty26 14
                have ie260 : ivh13 a0 14 = ivb1 a0 14 := fl13.i ty26 rfl 14
                have ri165 : (-2147483648) ≤ ivh13 a0 15 ∧ ivh13 a0 15 ≤ 2147483647 := W13.int ty26 15
                have ie262 : ivh13 a0 15 = ivb1 a0 15 := fl13.i ty26 rfl 15
                have ri166 : (-2147483648) ≤ ivh13 a0 16 ∧ ivh13 a0 16 ≤ 2147483647 := W13.int ty26 16
                have ie264 : ivh13 a0 16 = ivb1 a0 16 := fl13.i ty26 rfl 16
                have F18 := F11.call Xb1 fl22 rfl
                have mr18 := MRK.call mr11 W13 skb1 XT.refl fl22 rfl rfl
                refine c_st (st2 := [.int (iI f22)]) rfl ?_
                have gk11f22 : ivh22 a0 11 = ivh13 a0 11 := kp11f22
                have gk12f22 : ivh22 a0 12 = ivh13 a0 12 := kp12f22
                have gk13f22 : ivh22 a0 13 = ivh13 a0 13 := kp13f22
                have gk14f22 : ivh22 a0 14 = ivh13 a0 14 := kp14f22
                have gk15f22 : ivh22 a0 15 = ivh13 a0 15 := kp15f22
                have gk16f22 : ivh22 a0 16 = ivh13 a0 16 := kp16f22
                have gf22 : f22 = -1 := exf22
                have ri167 : 0 ≤ ivh22 (sk 2) 2 ∧ ivh22 (sk 2) 2 ≤ 3000 := W22.int ty27 2
                have ie266 : ivh22 (sk 2) 2 = ivh13 (sk 2) 2 := fl22.i ty27 rfl 2
                have ri168 : 1 ≤ ivh22 a0 11 ∧ ivh22 a0 11 ≤ 100 := W22.int ty26 11
                have ri169 : 1 ≤ ivh22 a0 12 ∧ ivh22 a0 12 ≤ 50 := W22.int ty26 12
                have ri170 : (-2147483648) ≤ ivh22 a0 13 ∧ ivh22 a0 13 ≤ 2147483647 := W22.int ty26 13
                have ri171 : (-2147483648) ≤ ivh22 a0 14 ∧ ivh22 a0 14 ≤ 2147483647 := W22.int ty26 14
                have ri172 : (-2147483648) ≤ ivh22 a0 15 ∧ ivh22 a0 15 ≤ 2147483647 := W22.int ty26 15
                have ri173 : (-2147483648) ≤ ivh22 a0 16 ∧ ivh22 a0 16 ≤ 2147483647 := W22.int ty26 16
                exact c_iret C dX11_head_122 rfl (by decide) (rom0 hph pl5 (by decide)) ⟨f22, rfl, Xb1, F18, W22, ⟨by omega, by omega⟩, trivial, (by omega), (by omega), (by omega), (by omega), (by omega), (by omega), (by omega), (show rvb1 a0 9 = rv a0 9 from hkr9), (show rvb1 a0 10 = rv a0 10 from hkr10)⟩
            · refine c_aload_n (j := 2) (x := a0) C dX11_head_97 rfl ?_
              refine c_bipush (z := 6) C dX11_head_98 (by decide) ?_
              refine d_callV (As := [.int (iI 6)]) (rest := []) C hM (C_refuse (a0 := a0) (x := 6) W13 skb1 ty26 ⟨by decide, by decide⟩ ) dX11_head_100 kV_X11_102 rfl ty26 rfl rfl (by decide) ck_12 rfl (Nat.le_of_ble_eq_true rfl) ⟨(Nat.le_of_ble_eq_true rfl), (Nat.le_of_ble_eq_true rfl)⟩ hph pl5 (show 0 + 0 = 0 from rfl) (by decide) (fun rh23 Lh23 clh23 lnh23 ivh23 rvh23 h23 => ?_)
              obtain ⟨f23, rfl, rfl, rfl, rfl, rfl, fl23, W23, rgf23, exf23, kp11f23, kp12f23, kp13f23, kp14f23, kp15f23, kp16f23⟩ := h23
              have ri174 : 1 ≤ ivh13 a0 11 ∧ ivh13 a0 11 ≤ 100 := W13.int ty26 11
              have ie273 : ivh13 a0 11 = ivb1 a0 11 := fl13.i ty26 rfl 11
              have ri175 : 1 ≤ ivh13 a0 12 ∧ ivh13 a0 12 ≤ 50 := W13.int ty26 12
              have ie275 : ivh13 a0 12 = ivb1 a0 12 := fl13.i ty26 rfl 12
              have ri176 : (-2147483648) ≤ ivh13 a0 13 ∧ ivh13 a0 13 ≤ 2147483647 := W13.int ty26 13
              have ie277 : ivh13 a0 13 = ivb1 a0 13 := fl13.i ty26 rfl 13
              have ri177 : (-2147483648) ≤ ivh13 a0 14 ∧ ivh13 a0 14 ≤ 2147483647 := W13.int ty26 14
              have ie279 : ivh13 a0 14 = ivb1 a0 14 := fl13.i ty26 rfl 14
              have ri178 : (-2147483648) ≤ ivh13 a0 15 ∧ ivh13 a0 15 ≤ 2147483647 := W13.int ty26 15
              have ie281 : ivh13 a0 15 = ivb1 a0 15 := fl13.i ty26 rfl 15
              have ri179 : (-2147483648) ≤ ivh13 a0 16 ∧ ivh13 a0 16 ≤ 2147483647 := W13.int ty26 16
              have ie283 : ivh13 a0 16 = ivb1 a0 16 := fl13.i ty26 rfl 16
              have F19 := F11.call Xb1 fl23 rfl
              have mr19 := MRK.call mr11 W13 skb1 XT.refl fl23 rfl rfl
              refine c_st (st2 := [.int (iI f23)]) rfl ?_
              have gk11f23 : ivh23 a0 11 = ivh13 a0 11 := kp11f23
              have gk12f23 : ivh23 a0 12 = ivh13 a0 12 := kp12f23
              have gk13f23 : ivh23 a0 13 = ivh13 a0 13 := kp13f23
              have gk14f23 : ivh23 a0 14 = ivh13 a0 14 := kp14f23
              have gk15f23 : ivh23 a0 15 = ivh13 a0 15 := kp15f23
              have gk16f23 : ivh23 a0 16 = ivh13 a0 16 := kp16f23
              have gf23 : f23 = -1 := exf23
              have ri180 : 0 ≤ ivh23 (sk 2) 2 ∧ ivh23 (sk 2) 2 ≤ 3000 := W23.int ty27 2
              have ie285 : ivh23 (sk 2) 2 = ivh13 (sk 2) 2 := fl23.i ty27 rfl 2
              have ri181 : 1 ≤ ivh23 a0 11 ∧ ivh23 a0 11 ≤ 100 := W23.int ty26 11
              have ri182 : 1 ≤ ivh23 a0 12 ∧ ivh23 a0 12 ≤ 50 := W23.int ty26 12
              have ri183 : (-2147483648) ≤ ivh23 a0 13 ∧ ivh23 a0 13 ≤ 2147483647 := W23.int ty26 13
              have ri184 : (-2147483648) ≤ ivh23 a0 14 ∧ ivh23 a0 14 ≤ 2147483647 := W23.int ty26 14
              have ri185 : (-2147483648) ≤ ivh23 a0 15 ∧ ivh23 a0 15 ≤ 2147483647 := W23.int ty26 15
              have ri186 : (-2147483648) ≤ ivh23 a0 16 ∧ ivh23 a0 16 ≤ 2147483647 := W23.int ty26 16
              exact c_iret C dX11_head_103 rfl (by decide) (rom0 hph pl5 (by decide)) ⟨f23, rfl, Xb1, F19, W23, ⟨by omega, by omega⟩, trivial, (by omega), (by omega), (by omega), (by omega), (by omega), (by omega), (by omega), (show rvb1 a0 9 = rv a0 9 from hkr9), (show rvb1 a0 10 = rv a0 10 from hkr10)⟩
          · refine c_aload_n (j := 2) (x := a0) C dX11_head_64 rfl ?_
            obtain ⟨rb21, rq21, trb21⟩ := Wb1.ref ty26 6 rfl rfl rfl
            have erb21 := Wb1.sk trb21 (by decide) rfl
            subst erb21
            refine c_getr (k := 6) C ck_12 dX11_head_65 w2_50 (by decide) ty26 rfl rfl (by decide) rfl rq21 ?_
            refine c_st (st2 := [.ref (sk 15)]) rfl ?_
            refine c_aload_n (j := 2) (x := a0) C dX11_head_68 rfl ?_
            refine c_getr (k := 0) C ck_12 dX11_head_69 w2_44 (by decide) ty26 rfl rfl (by decide) rfl rq12 ?_
            refine c_st (st2 := [.ref (sk 2), .ref (sk 15)]) rfl ?_
            refine c_iload_n (j := 1) C dX11_head_72 rfl ?_
            have pl9 := Phi.le Wb1 skb1
            refine d_callV (As := [.int (iI k)]) (rest := [.ref (sk 15)]) C hM (C_at_2 (a0 := (sk 2)) (i := k) Wb1 skb1 ty27 (by omega) ) dX11_head_73 kV_X11_224 rfl ty27 rfl rfl (by decide) ck_2 rfl (Nat.le_of_ble_eq_true rfl) ⟨(Nat.le_of_ble_eq_true rfl), (Nat.le_of_ble_eq_true rfl)⟩ hph pl9 (show 0 + 0 = 0 from rfl) (by decide) (fun rh24 Lh24 clh24 lnh24 ivh24 rvh24 h24 => ?_)
            obtain ⟨f24, rfl, rfl, rfl, rfl, rfl, rfl, rgf24, exf24⟩ := h24
            refine c_st (st2 := [.int (iI f24), .ref (sk 15)]) rfl ?_
            have gf24 : ((0 ≤ k ∧ k < ivb1 (sk 2) 2) ∨ f24 = 0) ∧ ∀ ss, CT ivb1 rvb1 (sk 2) ss → 0 ≤ k → k < ivb1 (sk 2) 2 → f24 = ss k.toNat := exf24
            refine c_iload_n (j := 1) C dX11_head_76 rfl ?_
            have ty51 := Xb1.ty tsk15
            refine d_callV (As := [.int (iI f24), .int (iI k)]) (rest := []) C hM (C_put (a0 := (sk 15)) (x := f24) (y := k) Wb1 skb1 ty51 (by omega) (by omega) ) dX11_head_77 kV_X11_273 rfl ty51 rfl rfl (by decide) ck_7 rfl (Nat.le_of_ble_eq_true rfl) ⟨(Nat.le_of_ble_eq_true rfl), (Nat.le_of_ble_eq_true rfl)⟩ hph pl9 (show 0 + 0 = 0 from rfl) (by decide) (fun rh25 Lh25 clh25 lnh25 ivh25 rvh25 h25 => ?_)
            obtain ⟨rfl, rfl, rfl, rfl, rfl, fl25, W25, exf25⟩ := h25
            have F20 := Fb1.call Xb1 fl25 rfl
            have mr20 := MRK.call mrb1 Wb1 skb1 XT.refl fl25 rfl rfl
            refine c_st (st2 := []) rfl ?_
            refine c_iinc (z := k) (j := 1) (lv2 := [(3, .int (iI (k + 1))), (2, .int (iI fl)), (0, .ref a0), (1, .int (iI i))]) C dX11_head_80 rfl (by decide) rfl ?_
            refine c_goto (tgt := 49) C dX11_head_83 (by decide) ?_
            have ri187 : 1 ≤ ivh25 a0 11 ∧ ivh25 a0 11 ≤ 100 := W25.int ty26 11
            have ie292 : ivh25 a0 11 = ivb1 a0 11 := fl25.i ty26 rfl 11
            have ri188 : 1 ≤ ivh25 a0 12 ∧ ivh25 a0 12 ≤ 50 := W25.int ty26 12
            have ie294 : ivh25 a0 12 = ivb1 a0 12 := fl25.i ty26 rfl 12
            have ri189 : (-2147483648) ≤ ivh25 a0 13 ∧ ivh25 a0 13 ≤ 2147483647 := W25.int ty26 13
            have ie296 : ivh25 a0 13 = ivb1 a0 13 := fl25.i ty26 rfl 13
            have ri190 : (-2147483648) ≤ ivh25 a0 14 ∧ ivh25 a0 14 ≤ 2147483647 := W25.int ty26 14
            have ie298 : ivh25 a0 14 = ivb1 a0 14 := fl25.i ty26 rfl 14
            have ri191 : (-2147483648) ≤ ivh25 a0 15 ∧ ivh25 a0 15 ≤ 2147483647 := W25.int ty26 15
            have ie300 : ivh25 a0 15 = ivb1 a0 15 := fl25.i ty26 rfl 15
            have ri192 : (-2147483648) ≤ ivh25 a0 16 ∧ ivh25 a0 16 ≤ 2147483647 := W25.int ty26 16
            have ie302 : ivh25 a0 16 = ivb1 a0 16 := fl25.i ty26 rfl 16
            refine c_lv (lv2 := [(2, .int (iI fl)), (3, .int (iI (k + 1))), (0, .ref a0), (1, .int (iI i))]) [1, 0, 2, 3] rfl ?_
            exact ih1  fl (k + 1) _ _ _ _ _ (by omega) Xb1 W25 F20  (by omega) (by omega) (by show ivh25 a0 11 = iv a0 11; omega) (by show ivh25 a0 12 = iv a0 12; omega) (by show ivh25 a0 13 = iv a0 13; omega) (by show ivh25 a0 14 = iv a0 14; omega) (by show ivh25 a0 15 = iv a0 15; omega) (by show ivh25 a0 16 = iv a0 16; omega) (show rvb1 a0 9 = rv a0 9 from hkr9) (show rvb1 a0 10 = rv a0 10 from hkr10)
    have ri193 : 1 ≤ ivh1 a0 11 ∧ ivh1 a0 11 ≤ 100 := W1.int t_a0 11
    have ie304 : ivh1 a0 11 = iv a0 11 := fl1.i t_a0 rfl 11
    have ri194 : 1 ≤ ivh1 a0 12 ∧ ivh1 a0 12 ≤ 50 := W1.int t_a0 12
    have ie305 : ivh1 a0 12 = iv a0 12 := fl1.i t_a0 rfl 12
    have ri195 : (-2147483648) ≤ ivh1 a0 13 ∧ ivh1 a0 13 ≤ 2147483647 := W1.int t_a0 13
    have ie306 : ivh1 a0 13 = iv a0 13 := fl1.i t_a0 rfl 13
    have ri196 : (-2147483648) ≤ ivh1 a0 14 ∧ ivh1 a0 14 ≤ 2147483647 := W1.int t_a0 14
    have ie307 : ivh1 a0 14 = iv a0 14 := fl1.i t_a0 rfl 14
    have ri197 : (-2147483648) ≤ ivh1 a0 15 ∧ ivh1 a0 15 ≤ 2147483647 := W1.int t_a0 15
    have ie308 : ivh1 a0 15 = iv a0 15 := fl1.i t_a0 rfl 15
    have ri198 : (-2147483648) ≤ ivh1 a0 16 ∧ ivh1 a0 16 ≤ 2147483647 := W1.int t_a0 16
    have ie309 : ivh1 a0 16 = iv a0 16 := fl1.i t_a0 rfl 16
    refine c_lv (lv2 := [(2, .int (iI 0)), (3, .int (iI 0)), (0, .ref a0), (1, .int (iI i))]) [1, 0, 2, 3] rfl ?_
    exact Lp1 3003 0 0 _ _ _ _ _ (by omega) hX0 W1 F1  (by omega) (by omega) (by show ivh1 a0 11 = iv a0 11; omega) (by show ivh1 a0 12 = iv a0 12; omega) (by show ivh1 a0 13 = iv a0 13; omega) (by show ivh1 a0 14 = iv a0 14; omega) (by show ivh1 a0 15 = iv a0 15; omega) (by show ivh1 a0 16 = iv a0 16; omega) rfl rfl
  · refine c_aload_n (j := 0) (x := a0) C dX11_head_12 rfl ?_
    refine c_getr (k := 0) C ck_12 dX11_head_13 w2_44 (by decide) t_a0 rfl rfl (by decide) rfl rq1 ?_
    refine c_st (st2 := [.ref (sk 2)]) rfl ?_
    refine c_iconst C dX11_head_16 ?_
    refine c_aload_n (j := 0) (x := a0) C dX11_head_17 rfl ?_
    refine c_getr (k := 0) C ck_12 dX11_head_18 w2_44 (by decide) t_a0 rfl rfl (by decide) rfl rq1 ?_
    refine c_st (st2 := [.ref (sk 2), .int (iI 0), .ref (sk 2)]) rfl ?_
    refine c_get (k := 2) C ck_2 dX11_head_21 w1_44 (by decide) tsk2 rfl rfl (by decide) rfl ?_
    refine c_bipush (z := 33) C dX11_head_24 (by decide) ?_
    refine c_bipush (z := 125) C dX11_head_26 (by decide) ?_
    refine d_callV (As := [.int (iI 0), .int (iI (iv (sk 2) 2)), .int (iI 33), .int (iI 125)]) (rest := []) C hM (C_isWithin_2 (a0 := (sk 2)) (i := 0) (j := iv (sk 2) 2) (lo := 33) (hi := 125) hW hS tsk2 ⟨by decide, by decide⟩ (by omega) ⟨by decide, by decide⟩ ⟨by decide, by decide⟩ ) dX11_head_28 kV_X11_171 rfl tsk2 rfl rfl (by decide) ck_2 rfl (Nat.le_of_ble_eq_true rfl) ⟨(Nat.le_of_ble_eq_true rfl), (Nat.le_of_ble_eq_true rfl)⟩ hph hph (show 0 + 0 = 0 from rfl) (by decide) (fun rh26 Lh26 clh26 lnh26 ivh26 rvh26 h26 => ?_)
    obtain ⟨f26, rfl, rfl, rfl, rfl, rfl, rfl, rgf26, exf26⟩ := h26
    refine c_st (st2 := [.int (iI f26)]) rfl ?_
    have gf26 : ∀ ss, CT iv rv (sk 2) ss → 0 ≤ (0 : Int) → (iv (sk 2) 2) ≤ iv (sk 2) 2 → (f26 = 1 ↔ ∀ x : Nat, (0 : Int) ≤ (x : Int) → (x : Int) < (iv (sk 2) 2) → (33 : Int) ≤ ss x ∧ ss x ≤ (125 : Int)) := exf26
    refine c_if_eq (tgt := 38) C ⟨by omega, by omega⟩ dX11_head_31 (by decide) (fun c12 => ?_) (fun c12 => ?_)
    · refine c_iconst C dX11_head_38 ?_
      refine c_istore_n (lv2 := [(2, .int (iI 0)), (0, .ref a0), (1, .int (iI i))]) C dX11_head_39 (by decide) rfl ?_
      refine c_aload_n (j := 1) (x := a0) C dX11_head_40 rfl ?_
      obtain ⟨rb22, rq22, trb22⟩ := hW.ref t_a0 6 rfl rfl rfl
      have erb22 := hW.sk trb22 (by decide) rfl
      subst erb22
      refine c_getr (k := 6) C ck_12 dX11_head_41 w2_50 (by decide) t_a0 rfl rfl (by decide) rfl rq22 ?_
      refine c_st (st2 := [.ref (sk 15)]) rfl ?_
      refine d_callV (As := []) (rest := []) C hM (C_wclear (a0 := (sk 15)) hW hS tsk15  ) dX11_head_44 kV_X11_272 rfl tsk15 rfl rfl (by decide) ck_7 rfl (Nat.le_of_ble_eq_true rfl) ⟨(Nat.le_of_ble_eq_true rfl), (Nat.le_of_ble_eq_true rfl)⟩ hph hph (show 0 + 0 = 0 from rfl) (by decide) (fun rh27 Lh27 clh27 lnh27 ivh27 rvh27 h27 => ?_)
      obtain ⟨rfl, rfl, rfl, rfl, rfl, fl27, W27, exf27⟩ := h27
      have F21 := hF0.call hX0 fl27 rfl
      have mr21 := MRK.call hmr hW hS XT.refl fl27 rfl rfl
      refine c_st (st2 := []) rfl ?_
      refine c_iconst C dX11_head_47 ?_
      refine c_istore_n (lv2 := [(3, .int (iI 0)), (2, .int (iI 0)), (0, .ref a0), (1, .int (iI i))]) C dX11_head_48 (by decide) rfl ?_
      have Lp4 : ∀ (nn : Nat) (fl k : Int) (Lb4 : List Nat) (clb4 lnb4 : Nat → Nat) (ivb4 : Nat → Nat → Int) (rvb4 : Nat → Nat → Option Nat) , 3001 - k < (nn : Int) → XT L cl ln Lb4 clb4 lnb4 → WT (g0 G) sk Lb4 clb4 lnb4 ivb4 rvb4 → fT [1, 2, 5, 35, 15, 50, 51, 52, 53, 54, 55] L cl iv rv ivb4 rvb4 → (fl = 0 ∨ fl = 1) → (0 ≤ k ∧ k ≤ 3000) → (ivb4 a0 11 = iv a0 11) → (ivb4 a0 12 = iv a0 12) → (ivb4 a0 13 = iv a0 13) → (ivb4 a0 14 = iv a0 14) → (ivb4 a0 15 = iv a0 15) → (ivb4 a0 16 = iv a0 16) → (rvb4 a0 9 = rv a0 9) → (rvb4 a0 10 = rv a0 10) → cw p l e 8 ((PHM) + 0 - ((Phi (g0 G) sk) ln rv)) s m args below meth c G A 6 (MQ below (Qu G A (Qp G (Phi (g0 G) sk) ((Phi (g0 G) sk) ln rv) 0 (fun v L2 cl2 ln2 iv2 rv2 => ∃ f : Int, v = some (.int (iI f)) ∧ XT L cl ln L2 cl2 ln2 ∧ fT [1, 2, 5, 35, 15, 50, 51, 52, 53, 54, 55] L cl iv rv iv2 rv2 ∧ WT (g0 G) sk L2 cl2 ln2 iv2 rv2 ∧ (-2147483648 ≤ f ∧ f ≤ 2147483647) ∧ (True) ∧ iv2 a0 11 = iv a0 11 ∧ iv2 a0 12 = iv a0 12 ∧ iv2 a0 13 = iv a0 13 ∧ iv2 a0 14 = iv a0 14 ∧ iv2 a0 15 = iv a0 15 ∧ iv2 a0 16 = iv a0 16 ∧ iv2 (sk 2) 2 = 0 ∧ rv2 a0 9 = rv a0 9 ∧ rv2 a0 10 = rv a0 10))) args s (((PHM) + 0 - ((Phi (g0 G) sk) ln rv)) / 16) ((PHM) + 0 - ((Phi (g0 G) sk) ln rv)) A) (Phi (g0 G) sk) ((Phi (g0 G) sk) ln rv) Lb4 clb4 lnb4 ivb4 rvb4 0 49 [(2, .int (iI fl)), (3, .int (iI k)), (0, .ref a0), (1, .int (iI i))] [] := by
        intro nn
        induction nn with
        | zero =>
          intro  fl k Lb4 clb4 lnb4 ivb4 rvb4 hm Xb4 Wb4 Fb4  hfl hk hkp11 hkp12 hkp13 hkp14 hkp15 hkp16 hkr9 hkr10
          have skb4 := Xb4.skl hS
          exact absurd hm (by omega)
        | succ nn ih4 =>
          intro  fl k Lb4 clb4 lnb4 ivb4 rvb4 hm Xb4 Wb4 Fb4  hfl hk hkp11 hkp12 hkp13 hkp14 hkp15 hkp16 hkr9 hkr10
          have skb4 := Xb4.skl hS
          have mrb4 := MRK.call hmr hW hS Xb4 Fb4 rfl rfl
          refine c_iload_n (j := 0) C dX11_head_49 rfl ?_
          refine c_if_eq (tgt := 86) C ⟨by omega, by omega⟩ dX11_head_50 (by decide) (fun c13 => ?_) (fun c13 => ?_)
          · refine c_aload_n (j := 2) (x := a0) C dX11_head_86 rfl ?_
            have ty52 := Xb4.ty t_a0
            obtain ⟨rb23, rq23, trb23⟩ := Wb4.ref ty52 0 rfl rfl rfl
            have erb23 := Wb4.sk trb23 (by decide) rfl
            subst erb23
            refine c_getr (k := 0) C ck_12 dX11_head_87 w2_44 (by decide) ty52 rfl rfl (by decide) rfl rq23 ?_
            refine c_st (st2 := [.ref (sk 2)]) rfl ?_
            have ty53 := Xb4.ty tsk2
            have pl10 := Phi.le Wb4 skb4
            refine d_callV (As := []) (rest := []) C hM (C_clear_2 (a0 := (sk 2)) Wb4 skb4 ty53  ) dX11_head_90 kV_X11_164 rfl ty53 rfl rfl (by decide) ck_2 rfl (Nat.le_of_ble_eq_true rfl) ⟨(Nat.le_of_ble_eq_true rfl), (Nat.le_of_ble_eq_true rfl)⟩ hph pl10 (show 0 + 0 = 0 from rfl) (by decide) (fun rh28 Lh28 clh28 lnh28 ivh28 rvh28 h28 => ?_)
            obtain ⟨rfl, rfl, rfl, rfl, rfl, fl28, W28, exf28⟩ := h28
            have F22 := Fb4.call Xb4 fl28 rfl
            have mr22 := MRK.call mrb4 Wb4 skb4 XT.refl fl28 rfl rfl
            refine c_st (st2 := []) rfl ?_
            have ri199 : 0 ≤ ivh28 (sk 2) 2 ∧ ivh28 (sk 2) 2 ≤ 3000 := W28.int ty53 2
            have gf28 : ivh28 (sk 2) 2 = 0 := exf28
            refine c_iload_n (j := 0) C dX11_head_93 rfl ?_
            refine c_if_ne (tgt := 104) C ⟨by omega, by omega⟩ dX11_head_94 (by decide) (fun c14 => ?_) (fun c14 => ?_)
            · refine c_aload_n (j := 2) (x := a0) C dX11_head_104 rfl ?_
              obtain ⟨rb24, rq24, trb24⟩ := W28.ref ty52 4 rfl rfl rfl
              have erb24 := W28.sk trb24 (by decide) rfl
              subst erb24
              refine c_getr (k := 4) C ck_12 dX11_head_105 w2_48 (by decide) ty52 rfl rfl (by decide) rfl rq24 ?_
              refine c_st (st2 := [.ref (sk 13)]) rfl ?_
              refine c_iload_n (j := 3) C dX11_head_108 rfl ?_
              have ty54 := Xb4.ty tsk13
              refine d_callV (As := [.int (iI i)]) (rest := []) C hM (C_whole (a0 := (sk 13)) (i := i) W28 skb4 ty54 (by omega) mr22) dX11_head_109 kV_X11_231 rfl ty54 rfl rfl (by decide) ck_11 rfl (Nat.le_of_ble_eq_true rfl) ⟨(Nat.le_of_ble_eq_true rfl), (Nat.le_of_ble_eq_true rfl)⟩ hph pl10 (show 0 + 0 = 0 from rfl) (by decide) (fun rh29 Lh29 clh29 lnh29 ivh29 rvh29 h29 => ?_)
              obtain ⟨f29, rfl, rfl, rfl, rfl, rfl, rfl, rgf29, exf29⟩ := h29
              refine c_st (st2 := [(va_rf f29)]) rfl ?_
              refine c_astorer_n (r := f29) (lv2 := [(3, (va_rf f29)), (2, .int (iI fl)), (0, .ref a0), (1, .int (iI i))]) C dX11_head_112 (by decide) rfl ?_
              refine c_aloadr_n (j := 0) (r := f29) C dX11_head_113 rfl ?_
              refine c_ifnonnull (r := f29) (tgt := 123) C dX11_head_114 (by decide) (fun ob3 oq3 => ?_) (fun oq3 => ?_)
              · subst oq3
                have tob3 := rgf29 ob3 rfl
                refine c_lv (lv2 := [(3, .ref ob3), (2, .int (iI fl)), (0, .ref a0), (1, .int (iI i))]) [0, 1, 2, 3] rfl ?_
                refine c_st (st2 := []) rfl ?_
                refine c_aload_n (j := 2) (x := a0) C dX11_head_123 rfl ?_
                obtain ⟨rb25, rq25, trb25⟩ := W28.ref ty52 6 rfl rfl rfl
                have erb25 := W28.sk trb25 (by decide) rfl
                subst erb25
                refine c_getr (k := 6) C ck_12 dX11_head_124 w2_50 (by decide) ty52 rfl rfl (by decide) rfl rq25 ?_
                refine c_st (st2 := [.ref (sk 15)]) rfl ?_
                refine c_aload_n (j := 0) (x := ob3) C dX11_head_127 rfl ?_
                have ty55 := Xb4.ty tsk15
                have ri200 : 0 ≤ ivh28 (sk 15) 4 ∧ ivh28 (sk 15) 4 ≤ 500 := W28.int ty55 4
                have ie311 : ivh28 (sk 15) 4 = ivb4 (sk 15) 4 := fl28.i ty55 rfl 4
                refine d_callV (As := [.ref ob3]) (rest := []) C hM (C_setBy (a0 := (sk 15)) (a1 := ob3) W28 skb4 ty55 tob3  ) dX11_head_128 kV_X11_253 rfl ty55 rfl rfl (by decide) ck_7 rfl (Nat.le_of_ble_eq_true rfl) ⟨(Nat.le_of_ble_eq_true rfl), (Nat.le_of_ble_eq_true rfl)⟩ hph pl10 (show 0 + 0 = 0 from rfl) (by decide) (fun rh30 Lh30 clh30 lnh30 ivh30 rvh30 h30 => ?_)
                obtain ⟨f30, rfl, rfl, rfl, rfl, rfl, fl30, W30, rgf30, exf30⟩ := h30
                have F23 := F22.call Xb4 fl30 rfl
                have mr23 := MRK.call mr22 W28 skb4 XT.refl fl30 rfl rfl
                refine c_st (st2 := [.int (iI f30)]) rfl ?_
                have ri201 : 0 ≤ ivh30 (sk 15) 4 ∧ ivh30 (sk 15) 4 ≤ 500 := W30.int ty55 4
                have ri202 : 0 ≤ ivh30 (sk 15) 7 ∧ ivh30 (sk 15) 7 ≤ 100000 := W30.int ty55 7
                have gf30 : (f30 = 0 ∨ f30 = 6 ∨ f30 = 7) ∧ ivh30 (sk 15) 4 = ivh28 (sk 15) 4 ∧ (f30 = 0 → ivh30 (sk 15) 7 ≤ 200) := exf30
                refine c_istore (lv2 := [(4, .int (iI f30)), (3, .ref ob3), (2, .int (iI fl)), (0, .ref a0), (1, .int (iI i))]) C dX11_head_131 (by decide) rfl ?_
                refine c_iload (j := 0) C dX11_head_133 rfl ?_
                refine c_if_eq (tgt := 152) C ⟨by omega, by omega⟩ dX11_head_135 (by decide) (fun c15 => ?_) (fun c15 => ?_)
                · refine c_aload_n (j := 3) (x := a0) C dX11_head_152 rfl ?_
                  obtain ⟨rb26, rq26, trb26⟩ := W30.ref ty52 3 rfl rfl rfl
                  have erb26 := W30.sk trb26 (by decide) rfl
                  subst erb26
                  refine c_getr (k := 3) C ck_12 dX11_head_153 w2_47 (by decide) ty52 rfl rfl (by decide) rfl rq26 ?_
                  refine c_st (st2 := [.ref (sk 5)]) rfl ?_
                  have ty56 := Xb4.ty tsk5
                  refine d_callV (As := []) (rest := []) C hM (C_clear_5 (a0 := (sk 5)) W30 skb4 ty56  ) dX11_head_156 kV_X11_164 rfl ty56 rfl rfl (by decide) ck_2 rfl (Nat.le_of_ble_eq_true rfl) ⟨(Nat.le_of_ble_eq_true rfl), (Nat.le_of_ble_eq_true rfl)⟩ hph pl10 (show 0 + 0 = 0 from rfl) (by decide) (fun rh31 Lh31 clh31 lnh31 ivh31 rvh31 h31 => ?_)
                  obtain ⟨rfl, rfl, rfl, rfl, rfl, fl31, W31, exf31⟩ := h31
                  have F24 := F23.call Xb4 fl31 rfl
                  have mr24 := MRK.call mr23 W30 skb4 XT.refl fl31 rfl rfl
                  refine c_st (st2 := []) rfl ?_
                  have ri203 : 0 ≤ ivh31 (sk 5) 2 ∧ ivh31 (sk 5) 2 ≤ 200 := W31.int ty56 2
                  have gf31 : ivh31 (sk 5) 2 = 0 := exf31
                  refine c_iconst C dX11_head_159 ?_
                  refine c_istore (lv2 := [(5, .int (iI 0)), (4, .int (iI f30)), (3, .ref ob3), (2, .int (iI fl)), (0, .ref a0), (1, .int (iI i))]) C dX11_head_160 (by decide) rfl ?_
                  have Lp5 : ∀ (nn : Nat) (k2 : Int) (Lb5 : List Nat) (clb5 lnb5 : Nat → Nat) (ivb5 : Nat → Nat → Int) (rvb5 : Nat → Nat → Option Nat) , 101 - k2 < (nn : Int) → XT L cl ln Lb5 clb5 lnb5 → WT (g0 G) sk Lb5 clb5 lnb5 ivb5 rvb5 → fT [1, 2, 5, 35, 15, 50, 51, 52, 53, 54, 55] L cl iv rv ivb5 rvb5 → (0 ≤ k2 ∧ k2 ≤ 100) → (ivb5 (sk 15) 7 ≤ 200) → (ivb5 (sk 2) 2 = 0) → (ivb5 a0 11 = iv a0 11) → (ivb5 a0 12 = iv a0 12) → (ivb5 a0 13 = iv a0 13) → (ivb5 a0 14 = iv a0 14) → (ivb5 a0 15 = iv a0 15) → (ivb5 a0 16 = iv a0 16) → (rvb5 a0 9 = rv a0 9) → (rvb5 a0 10 = rv a0 10) → cw p l e 8 ((PHM) + 0 - ((Phi (g0 G) sk) ln rv)) s m args below meth c G A 6 (MQ below (Qu G A (Qp G (Phi (g0 G) sk) ((Phi (g0 G) sk) ln rv) 0 (fun v L2 cl2 ln2 iv2 rv2 => ∃ f : Int, v = some (.int (iI f)) ∧ XT L cl ln L2 cl2 ln2 ∧ fT [1, 2, 5, 35, 15, 50, 51, 52, 53, 54, 55] L cl iv rv iv2 rv2 ∧ WT (g0 G) sk L2 cl2 ln2 iv2 rv2 ∧ (-2147483648 ≤ f ∧ f ≤ 2147483647) ∧ (True) ∧ iv2 a0 11 = iv a0 11 ∧ iv2 a0 12 = iv a0 12 ∧ iv2 a0 13 = iv a0 13 ∧ iv2 a0 14 = iv a0 14 ∧ iv2 a0 15 = iv a0 15 ∧ iv2 a0 16 = iv a0 16 ∧ iv2 (sk 2) 2 = 0 ∧ rv2 a0 9 = rv a0 9 ∧ rv2 a0 10 = rv a0 10))) args s (((PHM) + 0 - ((Phi (g0 G) sk) ln rv)) / 16) ((PHM) + 0 - ((Phi (g0 G) sk) ln rv)) A) (Phi (g0 G) sk) ((Phi (g0 G) sk) ln rv) Lb5 clb5 lnb5 ivb5 rvb5 0 162 [(5, .int (iI k2)), (4, .int (iI f30)), (3, .ref ob3), (2, .int (iI fl)), (0, .ref a0), (1, .int (iI i))] [] := by
                    intro nn
                    induction nn with
                    | zero =>
                      intro  k2 Lb5 clb5 lnb5 ivb5 rvb5 hm Xb5 Wb5 Fb5  hk2 hco htz hkp11 hkp12 hkp13 hkp14 hkp15 hkp16 hkr9 hkr10
                      have skb5 := Xb5.skl hS
                      exact absurd hm (by omega)
                    | succ nn ih5 =>
                      intro  k2 Lb5 clb5 lnb5 ivb5 rvb5 hm Xb5 Wb5 Fb5  hk2 hco htz hkp11 hkp12 hkp13 hkp14 hkp15 hkp16 hkr9 hkr10
                      have skb5 := Xb5.skl hS
                      have mrb5 := MRK.call hmr hW hS Xb5 Fb5 rfl rfl
                      refine c_iload (j := 0) C dX11_head_162 rfl ?_
                      refine c_aload_n (j := 4) (x := a0) C dX11_head_164 rfl ?_
                      have ty57 := Xb5.ty t_a0
                      obtain ⟨rb27, rq27, trb27⟩ := Wb5.ref ty57 6 rfl rfl rfl
                      have erb27 := Wb5.sk trb27 (by decide) rfl
                      subst erb27
                      refine c_getr (k := 6) C ck_12 dX11_head_165 w2_50 (by decide) ty57 rfl rfl (by decide) rfl rq27 ?_
                      refine c_st (st2 := [.ref (sk 15), .int (iI k2)]) rfl ?_
                      have ty58 := Xb5.ty tsk15
                      have ri204 : 0 ≤ ivb5 (sk 15) 7 ∧ ivb5 (sk 15) 7 ≤ 100000 := Wb5.int ty58 7
                      refine c_get (k := 7) C ck_7 dX11_head_168 w1_149 (by decide) ty58 rfl rfl (by decide) rfl ?_
                      refine c_icmp_ge (tgt := 206) C ⟨by omega, by omega⟩ ⟨by omega, by omega⟩ dX11_head_171 (by decide) (fun c16 => ?_) (fun c16 => ?_)
                      · refine c_aload_n (j := 4) (x := a0) C dX11_head_206 rfl ?_
                        refine c_aload_n (j := 4) (x := a0) C dX11_head_207 rfl ?_
                        obtain ⟨rb28, rq28, trb28⟩ := Wb5.ref ty57 3 rfl rfl rfl
                        have erb28 := Wb5.sk trb28 (by decide) rfl
                        subst erb28
                        refine c_getr (k := 3) C ck_12 dX11_head_208 w2_47 (by decide) ty57 rfl rfl (by decide) rfl rq28 ?_
                        refine c_st (st2 := [.ref (sk 5), .ref a0]) rfl ?_
                        have ty59 := Xb5.ty tsk5
                        have ri205 : 0 ≤ ivb5 (sk 5) 2 ∧ ivb5 (sk 5) 2 ≤ 200 := Wb5.int ty59 2
                        refine c_get (k := 2) C ck_2 dX11_head_211 w1_44 (by decide) ty59 rfl rfl (by decide) rfl ?_
                        have pl11 := Phi.le Wb5 skb5
                        refine d_callV (As := [.int (iI (ivb5 (sk 5) 2))]) (rest := []) C hM (C_done (a0 := a0) (x := ivb5 (sk 5) 2) Wb5 skb5 ty57 (by omega) ) dX11_head_214 kV_X11_109 rfl ty57 rfl rfl (by decide) ck_12 rfl (Nat.le_of_ble_eq_true rfl) ⟨(Nat.le_of_ble_eq_true rfl), (Nat.le_of_ble_eq_true rfl)⟩ hph pl11 (show 0 + 0 = 0 from rfl) (by decide) (fun rh32 Lh32 clh32 lnh32 ivh32 rvh32 h32 => ?_)
                        obtain ⟨f32, rfl, rfl, rfl, rfl, rfl, fl32, W32, rgf32, exf32, kp11f32, kp12f32, kp13f32, kp14f32, kp15f32, kp16f32⟩ := h32
                        have ri206 : 1 ≤ ivb5 a0 11 ∧ ivb5 a0 11 ≤ 100 := Wb5.int ty57 11
                        have ri207 : 1 ≤ ivb5 a0 12 ∧ ivb5 a0 12 ≤ 50 := Wb5.int ty57 12
                        have ri208 : (-2147483648) ≤ ivb5 a0 13 ∧ ivb5 a0 13 ≤ 2147483647 := Wb5.int ty57 13
                        have ri209 : (-2147483648) ≤ ivb5 a0 14 ∧ ivb5 a0 14 ≤ 2147483647 := Wb5.int ty57 14
                        have ri210 : (-2147483648) ≤ ivb5 a0 15 ∧ ivb5 a0 15 ≤ 2147483647 := Wb5.int ty57 15
                        have ri211 : (-2147483648) ≤ ivb5 a0 16 ∧ ivb5 a0 16 ≤ 2147483647 := Wb5.int ty57 16
                        have F25 := Fb5.call Xb5 fl32 rfl
                        have mr25 := MRK.call mrb5 Wb5 skb5 XT.refl fl32 rfl rfl
                        refine c_st (st2 := [.int (iI f32)]) rfl ?_
                        have gk11f32 : ivh32 a0 11 = ivb5 a0 11 := kp11f32
                        have gk12f32 : ivh32 a0 12 = ivb5 a0 12 := kp12f32
                        have gk13f32 : ivh32 a0 13 = ivb5 a0 13 := kp13f32
                        have gk14f32 : ivh32 a0 14 = ivb5 a0 14 := kp14f32
                        have gk15f32 : ivh32 a0 15 = ivb5 a0 15 := kp15f32
                        have gk16f32 : ivh32 a0 16 = ivb5 a0 16 := kp16f32
                        have gf32 : f32 = (ivb5 (sk 5) 2) := exf32
                        have ty60 := Xb5.ty tsk2
                        have ri212 : 0 ≤ ivh32 (sk 2) 2 ∧ ivh32 (sk 2) 2 ≤ 3000 := W32.int ty60 2
                        have ie324 : ivh32 (sk 2) 2 = ivb5 (sk 2) 2 := fl32.i ty60 rfl 2
                        have ri213 : 1 ≤ ivh32 a0 11 ∧ ivh32 a0 11 ≤ 100 := W32.int ty57 11
                        have ri214 : 1 ≤ ivh32 a0 12 ∧ ivh32 a0 12 ≤ 50 := W32.int ty57 12
                        have ri215 : (-2147483648) ≤ ivh32 a0 13 ∧ ivh32 a0 13 ≤ 2147483647 := W32.int ty57 13
                        have ri216 : (-2147483648) ≤ ivh32 a0 14 ∧ ivh32 a0 14 ≤ 2147483647 := W32.int ty57 14
                        have ri217 : (-2147483648) ≤ ivh32 a0 15 ∧ ivh32 a0 15 ≤ 2147483647 := W32.int ty57 15
                        have ri218 : (-2147483648) ≤ ivh32 a0 16 ∧ ivh32 a0 16 ≤ 2147483647 := W32.int ty57 16
                        exact c_iret C dX11_head_217 rfl (by decide) (rom0 hph pl11 (by decide)) ⟨f32, rfl, Xb5, F25, W32, ⟨by omega, by omega⟩, trivial, (by omega), (by omega), (by omega), (by omega), (by omega), (by omega), (by omega), (show rvb5 a0 9 = rv a0 9 from hkr9), (show rvb5 a0 10 = rv a0 10 from hkr10)⟩
                      · refine c_iload (j := 0) C dX11_head_174 rfl ?_
                        refine c_aload_n (j := 4) (x := a0) C dX11_head_176 rfl ?_
                        have ri219 : 1 ≤ ivb5 a0 11 ∧ ivb5 a0 11 ≤ 100 := Wb5.int ty57 11
                        refine c_get (k := 11) C ck_12 dX11_head_177 w2_55 (by decide) ty57 rfl rfl (by decide) rfl ?_
                        refine c_icmp_ge (tgt := 206) C ⟨by omega, by omega⟩ ⟨by omega, by omega⟩ dX11_head_180 (by decide) (fun c17 => ?_) (fun c17 => ?_)
                        · refine c_aload_n (j := 4) (x := a0) C dX11_head_206 rfl ?_
                          refine c_aload_n (j := 4) (x := a0) C dX11_head_207 rfl ?_
                          obtain ⟨rb29, rq29, trb29⟩ := Wb5.ref ty57 3 rfl rfl rfl
                          have erb29 := Wb5.sk trb29 (by decide) rfl
                          subst erb29
                          refine c_getr (k := 3) C ck_12 dX11_head_208 w2_47 (by decide) ty57 rfl rfl (by decide) rfl rq29 ?_
                          refine c_st (st2 := [.ref (sk 5), .ref a0]) rfl ?_
                          have ty61 := Xb5.ty tsk5
                          have ri220 : 0 ≤ ivb5 (sk 5) 2 ∧ ivb5 (sk 5) 2 ≤ 200 := Wb5.int ty61 2
                          refine c_get (k := 2) C ck_2 dX11_head_211 w1_44 (by decide) ty61 rfl rfl (by decide) rfl ?_
                          have pl12 := Phi.le Wb5 skb5
                          refine d_callV (As := [.int (iI (ivb5 (sk 5) 2))]) (rest := []) C hM (C_done (a0 := a0) (x := ivb5 (sk 5) 2) Wb5 skb5 ty57 (by omega) ) dX11_head_214 kV_X11_109 rfl ty57 rfl rfl (by decide) ck_12 rfl (Nat.le_of_ble_eq_true rfl) ⟨(Nat.le_of_ble_eq_true rfl), (Nat.le_of_ble_eq_true rfl)⟩ hph pl12 (show 0 + 0 = 0 from rfl) (by decide) (fun rh33 Lh33 clh33 lnh33 ivh33 rvh33 h33 => ?_)
                          obtain ⟨f33, rfl, rfl, rfl, rfl, rfl, fl33, W33, rgf33, exf33, kp11f33, kp12f33, kp13f33, kp14f33, kp15f33, kp16f33⟩ := h33
                          have ri221 : 1 ≤ ivb5 a0 12 ∧ ivb5 a0 12 ≤ 50 := Wb5.int ty57 12
                          have ri222 : (-2147483648) ≤ ivb5 a0 13 ∧ ivb5 a0 13 ≤ 2147483647 := Wb5.int ty57 13
                          have ri223 : (-2147483648) ≤ ivb5 a0 14 ∧ ivb5 a0 14 ≤ 2147483647 := Wb5.int ty57 14
                          have ri224 : (-2147483648) ≤ ivb5 a0 15 ∧ ivb5 a0 15 ≤ 2147483647 := Wb5.int ty57 15
                          have ri225 : (-2147483648) ≤ ivb5 a0 16 ∧ ivb5 a0 16 ≤ 2147483647 := Wb5.int ty57 16
                          have F26 := Fb5.call Xb5 fl33 rfl
                          have mr26 := MRK.call mrb5 Wb5 skb5 XT.refl fl33 rfl rfl
                          refine c_st (st2 := [.int (iI f33)]) rfl ?_
                          have gk11f33 : ivh33 a0 11 = ivb5 a0 11 := kp11f33
                          have gk12f33 : ivh33 a0 12 = ivb5 a0 12 := kp12f33
                          have gk13f33 : ivh33 a0 13 = ivb5 a0 13 := kp13f33
                          have gk14f33 : ivh33 a0 14 = ivb5 a0 14 := kp14f33
                          have gk15f33 : ivh33 a0 15 = ivb5 a0 15 := kp15f33
                          have gk16f33 : ivh33 a0 16 = ivb5 a0 16 := kp16f33
                          have gf33 : f33 = (ivb5 (sk 5) 2) := exf33
                          have ty62 := Xb5.ty tsk2
                          have ri226 : 0 ≤ ivh33 (sk 2) 2 ∧ ivh33 (sk 2) 2 ≤ 3000 := W33.int ty62 2
                          have ie339 : ivh33 (sk 2) 2 = ivb5 (sk 2) 2 := fl33.i ty62 rfl 2
                          have ri227 : 1 ≤ ivh33 a0 11 ∧ ivh33 a0 11 ≤ 100 := W33.int ty57 11
                          have ri228 : 1 ≤ ivh33 a0 12 ∧ ivh33 a0 12 ≤ 50 := W33.int ty57 12
                          have ri229 : (-2147483648) ≤ ivh33 a0 13 ∧ ivh33 a0 13 ≤ 2147483647 := W33.int ty57 13
                          have ri230 : (-2147483648) ≤ ivh33 a0 14 ∧ ivh33 a0 14 ≤ 2147483647 := W33.int ty57 14
                          have ri231 : (-2147483648) ≤ ivh33 a0 15 ∧ ivh33 a0 15 ≤ 2147483647 := W33.int ty57 15
                          have ri232 : (-2147483648) ≤ ivh33 a0 16 ∧ ivh33 a0 16 ≤ 2147483647 := W33.int ty57 16
                          exact c_iret C dX11_head_217 rfl (by decide) (rom0 hph pl12 (by decide)) ⟨f33, rfl, Xb5, F26, W33, ⟨by omega, by omega⟩, trivial, (by omega), (by omega), (by omega), (by omega), (by omega), (by omega), (by omega), (show rvb5 a0 9 = rv a0 9 from hkr9), (show rvb5 a0 10 = rv a0 10 from hkr10)⟩
                        · refine c_aload_n (j := 4) (x := a0) C dX11_head_183 rfl ?_
                          obtain ⟨rb30, rq30, trb30⟩ := Wb5.ref ty57 3 rfl rfl rfl
                          have erb30 := Wb5.sk trb30 (by decide) rfl
                          subst erb30
                          refine c_getr (k := 3) C ck_12 dX11_head_184 w2_47 (by decide) ty57 rfl rfl (by decide) rfl rq30 ?_
                          refine c_st (st2 := [.ref (sk 5)]) rfl ?_
                          refine c_aload_n (j := 4) (x := a0) C dX11_head_187 rfl ?_
                          refine c_getr (k := 6) C ck_12 dX11_head_188 w2_50 (by decide) ty57 rfl rfl (by decide) rfl rq27 ?_
                          refine c_st (st2 := [.ref (sk 15), .ref (sk 5)]) rfl ?_
                          obtain ⟨rb31, rq31, trb31⟩ := Wb5.ref ty58 6 rfl rfl rfl
                          have lnrb31 : 200 ≤ lnb5 rb31 ∧ lnb5 rb31 ≤ 200 := Wb5.len trb31 rfl
                          refine c_getr (k := 6) C ck_7 dX11_head_191 w1_146 (by decide) ty58 rfl rfl (by decide) rfl rq31 ?_
                          refine c_st (st2 := [.ref rb31, .ref (sk 5)]) rfl ?_
                          refine c_iload (j := 0) C dX11_head_194 rfl ?_
                          have ll3 : 200 ≤ lnb5 rb31 ∧ lnb5 rb31 ≤ 200 := Wb5.len trb31 rfl
                          refine c_iald C dX11_head_196 trb31 rfl (by omega) (by omega) (by omega) ?_
                          have ri233 : (-2147483648) ≤ ivb5 rb31 k2.toNat ∧ ivb5 rb31 k2.toNat ≤ 2147483647 := Wb5.int trb31 k2.toNat
                          have ty63 := Xb5.ty tsk5
                          have ri234 : 0 ≤ ivb5 (sk 5) 2 ∧ ivb5 (sk 5) 2 ≤ 200 := Wb5.int ty63 2
                          have pl13 := Phi.le Wb5 skb5
                          refine d_callV (As := [.int (iI (ivb5 rb31 k2.toNat))]) (rest := []) C hM (C_add_5 (a0 := (sk 5)) (x := ivb5 rb31 k2.toNat) Wb5 skb5 ty63 (by omega) ) dX11_head_197 kV_X11_112 rfl ty63 rfl rfl (by decide) ck_2 rfl (Nat.le_of_ble_eq_true rfl) ⟨(Nat.le_of_ble_eq_true rfl), (Nat.le_of_ble_eq_true rfl)⟩ hph pl13 (show 0 + 0 = 0 from rfl) (by decide) (fun rh34 Lh34 clh34 lnh34 ivh34 rvh34 h34 => ?_)
                          obtain ⟨rfl, xl34, fl34, W34, exf34⟩ := h34
                          have F27 := Fb5.call Xb5 fl34 rfl
                          have mr27 := MRK.call mrb5 Wb5 skb5 xl34 fl34 rfl rfl
                          have ty64 := Xb5.ty tsk2
                          have ty65 := Xb5.ty tsk3
                          have ty66 := Xb5.ty tsk4
                          have ty67 := Xb5.ty tsk13
                          have ty68 := Xb5.ty tsk14
                          have ty69 := Xb5.ty tsk16
                          have ty70 := Xb5.ty tsk17
                          have ty71 := Xb5.ty tsk22
                          have ty72 := Xb5.ty tsk23
                          have X3 := Xb5.trans xl34
                          have sk3 := xl34.skl skb5
                          refine c_st (st2 := []) rfl ?_
                          have ty73 := xl34.ty ty63
                          have ri235 : 0 ≤ ivh34 (sk 5) 2 ∧ ivh34 (sk 5) 2 ≤ 200 := W34.int ty73 2
                          have gf34 : ((ivh34 (sk 5) 2 = ivb5 (sk 5) 2 ∧ ivb5 (sk 5) 2 = 200) ∨ (ivh34 (sk 5) 2 = ivb5 (sk 5) 2 + 1 ∧ ivb5 (sk 5) 2 < 200)) := exf34
                          refine c_iinc (z := k2) (j := 0) (lv2 := [(5, .int (iI (k2 + 1))), (4, .int (iI f30)), (3, .ref ob3), (2, .int (iI fl)), (0, .ref a0), (1, .int (iI i))]) C dX11_head_200 rfl (by decide) rfl ?_
                          refine c_goto (tgt := 162) C dX11_head_203 (by decide) ?_
                          have ty74 := xl34.ty ty58
                          have ri236 : 0 ≤ ivh34 (sk 15) 7 ∧ ivh34 (sk 15) 7 ≤ 100000 := W34.int ty74 7
                          have ie350 : ivh34 (sk 15) 7 = ivb5 (sk 15) 7 := fl34.i ty58 rfl 7
                          have ty75 := xl34.ty ty64
                          have ri237 : 0 ≤ ivh34 (sk 2) 2 ∧ ivh34 (sk 2) 2 ≤ 3000 := W34.int ty75 2
                          have ie351 : ivh34 (sk 2) 2 = ivb5 (sk 2) 2 := fl34.i ty64 rfl 2
                          have ty76 := xl34.ty ty57
                          have ri238 : 1 ≤ ivh34 a0 11 ∧ ivh34 a0 11 ≤ 100 := W34.int ty76 11
                          have ie353 : ivh34 a0 11 = ivb5 a0 11 := fl34.i ty57 rfl 11
                          have ri239 : 1 ≤ ivh34 a0 12 ∧ ivh34 a0 12 ≤ 50 := W34.int ty76 12
                          have ie354 : ivh34 a0 12 = ivb5 a0 12 := fl34.i ty57 rfl 12
                          have ri240 : (-2147483648) ≤ ivh34 a0 13 ∧ ivh34 a0 13 ≤ 2147483647 := W34.int ty76 13
                          have ie356 : ivh34 a0 13 = ivb5 a0 13 := fl34.i ty57 rfl 13
                          have ri241 : (-2147483648) ≤ ivh34 a0 14 ∧ ivh34 a0 14 ≤ 2147483647 := W34.int ty76 14
                          have ie358 : ivh34 a0 14 = ivb5 a0 14 := fl34.i ty57 rfl 14
                          have ri242 : (-2147483648) ≤ ivh34 a0 15 ∧ ivh34 a0 15 ≤ 2147483647 := W34.int ty76 15
                          have ie360 : ivh34 a0 15 = ivb5 a0 15 := fl34.i ty57 rfl 15
                          have ri243 : (-2147483648) ≤ ivh34 a0 16 ∧ ivh34 a0 16 ≤ 2147483647 := W34.int ty76 16
                          have ie362 : ivh34 a0 16 = ivb5 a0 16 := fl34.i ty57 rfl 16
                          refine c_lv (lv2 := [(5, .int (iI (k2 + 1))), (4, .int (iI f30)), (3, .ref ob3), (2, .int (iI fl)), (0, .ref a0), (1, .int (iI i))]) [0, 1, 2, 3, 4, 5] rfl ?_
                          exact ih5  (k2 + 1) _ _ _ _ _ (by omega) X3 W34 F27  (by omega) (by show ivh34 (sk 15) 7 ≤ 200; omega) (by show ivh34 (sk 2) 2 = 0; omega) (by show ivh34 a0 11 = iv a0 11; omega) (by show ivh34 a0 12 = iv a0 12; omega) (by show ivh34 a0 13 = iv a0 13; omega) (by show ivh34 a0 14 = iv a0 14; omega) (by show ivh34 a0 15 = iv a0 15; omega) (by show ivh34 a0 16 = iv a0 16; omega) (Eq.trans (show rvh34 a0 9 = rvb5 a0 9 from (fl34.r ty57 rfl 9)) (show rvb5 a0 9 = rv a0 9 from hkr9)) (Eq.trans (show rvh34 a0 10 = rvb5 a0 10 from (fl34.r ty57 rfl 10)) (show rvb5 a0 10 = rv a0 10 from hkr10))
                  have ri244 : 0 ≤ ivh31 (sk 15) 7 ∧ ivh31 (sk 15) 7 ≤ 100000 := W31.int ty55 7
                  have ie364 : ivh31 (sk 15) 7 = ivh30 (sk 15) 7 := fl31.i ty55 rfl 7
                  have ri245 : 0 ≤ ivh31 (sk 2) 2 ∧ ivh31 (sk 2) 2 ≤ 3000 := W31.int ty53 2
                  have ie365 : ivh31 (sk 2) 2 = ivh30 (sk 2) 2 := fl31.i ty53 rfl 2
                  have ie366 : ivh30 (sk 2) 2 = ivh28 (sk 2) 2 := fl30.i ty53 rfl 2
                  have ri246 : 1 ≤ ivh31 a0 11 ∧ ivh31 a0 11 ≤ 100 := W31.int ty52 11
                  have ie367 : ivh31 a0 11 = ivh30 a0 11 := fl31.i ty52 rfl 11
                  have ie368 : ivh30 a0 11 = ivh28 a0 11 := fl30.i ty52 rfl 11
                  have ie369 : ivh28 a0 11 = ivb4 a0 11 := fl28.i ty52 rfl 11
                  have ri247 : 1 ≤ ivh31 a0 12 ∧ ivh31 a0 12 ≤ 50 := W31.int ty52 12
                  have ie371 : ivh31 a0 12 = ivh30 a0 12 := fl31.i ty52 rfl 12
                  have ie372 : ivh30 a0 12 = ivh28 a0 12 := fl30.i ty52 rfl 12
                  have ie373 : ivh28 a0 12 = ivb4 a0 12 := fl28.i ty52 rfl 12
                  have ri248 : (-2147483648) ≤ ivh31 a0 13 ∧ ivh31 a0 13 ≤ 2147483647 := W31.int ty52 13
                  have ie375 : ivh31 a0 13 = ivh30 a0 13 := fl31.i ty52 rfl 13
                  have ie376 : ivh30 a0 13 = ivh28 a0 13 := fl30.i ty52 rfl 13
                  have ie377 : ivh28 a0 13 = ivb4 a0 13 := fl28.i ty52 rfl 13
                  have ri249 : (-2147483648) ≤ ivh31 a0 14 ∧ ivh31 a0 14 ≤ 2147483647 := W31.int ty52 14
                  have ie379 : ivh31 a0 14 = ivh30 a0 14 := fl31.i ty52 rfl 14
                  have ie380 : ivh30 a0 14 = ivh28 a0 14 := fl30.i ty52 rfl 14
                  have ie381 : ivh28 a0 14 = ivb4 a0 14 := fl28.i ty52 rfl 14
                  have ri250 : (-2147483648) ≤ ivh31 a0 15 ∧ ivh31 a0 15 ≤ 2147483647 := W31.int ty52 15
                  have ie383 : ivh31 a0 15 = ivh30 a0 15 := fl31.i ty52 rfl 15
                  have ie384 : ivh30 a0 15 = ivh28 a0 15 := fl30.i ty52 rfl 15
                  have ie385 : ivh28 a0 15 = ivb4 a0 15 := fl28.i ty52 rfl 15
                  have ri251 : (-2147483648) ≤ ivh31 a0 16 ∧ ivh31 a0 16 ≤ 2147483647 := W31.int ty52 16
                  have ie387 : ivh31 a0 16 = ivh30 a0 16 := fl31.i ty52 rfl 16
                  have ie388 : ivh30 a0 16 = ivh28 a0 16 := fl30.i ty52 rfl 16
                  have ie389 : ivh28 a0 16 = ivb4 a0 16 := fl28.i ty52 rfl 16
                  refine c_lv (lv2 := [(5, .int (iI 0)), (4, .int (iI f30)), (3, .ref ob3), (2, .int (iI fl)), (0, .ref a0), (1, .int (iI i))]) [0, 1, 2, 3, 4, 5] rfl ?_
                  exact Lp5 103 0 _ _ _ _ _ (by omega) Xb4 W31 F24  (by omega) (by show ivh31 (sk 15) 7 ≤ 200; omega) (by show ivh31 (sk 2) 2 = 0; omega) (by show ivh31 a0 11 = iv a0 11; omega) (by show ivh31 a0 12 = iv a0 12; omega) (by show ivh31 a0 13 = iv a0 13; omega) (by show ivh31 a0 14 = iv a0 14; omega) (by show ivh31 a0 15 = iv a0 15; omega) (by show ivh31 a0 16 = iv a0 16; omega) (show rvb4 a0 9 = rv a0 9 from hkr9) (show rvb4 a0 10 = rv a0 10 from hkr10)
                · refine c_aload_n (j := 3) (x := a0) C dX11_head_138 rfl ?_
                  refine c_iload (j := 0) C dX11_head_139 rfl ?_
                  refine c_aload_n (j := 3) (x := a0) C dX11_head_141 rfl ?_
                  refine c_getr (k := 6) C ck_12 dX11_head_142 w2_50 (by decide) ty52 rfl rfl (by decide) rfl rq25 ?_
                  refine c_st (st2 := [.ref (sk 15), .int (iI f30), .ref a0]) rfl ?_
                  refine d_callV (As := []) (rest := [.int (iI f30), .ref a0]) C hM (C_placeOfUnknown (a0 := (sk 15)) W30 skb4 ty55  ) dX11_head_145 kV_X11_263 rfl ty55 rfl rfl (by decide) ck_7 rfl (Nat.le_of_ble_eq_true rfl) ⟨(Nat.le_of_ble_eq_true rfl), (Nat.le_of_ble_eq_true rfl)⟩ hph pl10 (show 0 + 0 = 0 from rfl) (by decide) (fun rh35 Lh35 clh35 lnh35 ivh35 rvh35 h35 => ?_)
                  obtain ⟨f35, rfl, rfl, rfl, rfl, rfl, rfl, rgf35, exf35⟩ := h35
                  refine c_st (st2 := [.int (iI f35), .int (iI f30), .ref a0]) rfl ?_
                  refine d_callV (As := [.int (iI f30), .int (iI f35)]) (rest := []) C hM (C_refuseAt (a0 := a0) (x := f30) (y := f35) W30 skb4 ty52 (by omega) (by omega) ) dX11_head_148 kV_X11_266 rfl ty52 rfl rfl (by decide) ck_12 rfl (Nat.le_of_ble_eq_true rfl) ⟨(Nat.le_of_ble_eq_true rfl), (Nat.le_of_ble_eq_true rfl)⟩ hph pl10 (show 0 + 0 = 0 from rfl) (by decide) (fun rh36 Lh36 clh36 lnh36 ivh36 rvh36 h36 => ?_)
                  obtain ⟨f36, rfl, rfl, rfl, rfl, rfl, fl36, W36, rgf36, exf36, kp11f36, kp12f36, kp13f36, kp14f36, kp15f36, kp16f36⟩ := h36
                  have ri252 : 1 ≤ ivh30 a0 11 ∧ ivh30 a0 11 ≤ 100 := W30.int ty52 11
                  have ie391 : ivh30 a0 11 = ivh28 a0 11 := fl30.i ty52 rfl 11
                  have ie392 : ivh28 a0 11 = ivb4 a0 11 := fl28.i ty52 rfl 11
                  have ri253 : 1 ≤ ivh30 a0 12 ∧ ivh30 a0 12 ≤ 50 := W30.int ty52 12
                  have ie394 : ivh30 a0 12 = ivh28 a0 12 := fl30.i ty52 rfl 12
                  have ie395 : ivh28 a0 12 = ivb4 a0 12 := fl28.i ty52 rfl 12
                  have ri254 : (-2147483648) ≤ ivh30 a0 13 ∧ ivh30 a0 13 ≤ 2147483647 := W30.int ty52 13
                  have ie397 : ivh30 a0 13 = ivh28 a0 13 := fl30.i ty52 rfl 13
                  have ie398 : ivh28 a0 13 = ivb4 a0 13 := fl28.i ty52 rfl 13
                  have ri255 : (-2147483648) ≤ ivh30 a0 14 ∧ ivh30 a0 14 ≤ 2147483647 := W30.int ty52 14
                  have ie400 : ivh30 a0 14 = ivh28 a0 14 := fl30.i ty52 rfl 14
                  have ie401 : ivh28 a0 14 = ivb4 a0 14 := fl28.i ty52 rfl 14
                  have ri256 : (-2147483648) ≤ ivh30 a0 15 ∧ ivh30 a0 15 ≤ 2147483647 := W30.int ty52 15
                  have ie403 : ivh30 a0 15 = ivh28 a0 15 := fl30.i ty52 rfl 15
                  have ie404 : ivh28 a0 15 = ivb4 a0 15 := fl28.i ty52 rfl 15
                  have ri257 : (-2147483648) ≤ ivh30 a0 16 ∧ ivh30 a0 16 ≤ 2147483647 := W30.int ty52 16
                  have ie406 : ivh30 a0 16 = ivh28 a0 16 := fl30.i ty52 rfl 16
                  have ie407 : ivh28 a0 16 = ivb4 a0 16 := fl28.i ty52 rfl 16
                  have F28 := F23.call Xb4 fl36 rfl
                  have mr28 := MRK.call mr23 W30 skb4 XT.refl fl36 rfl rfl
                  refine c_st (st2 := [.int (iI f36)]) rfl ?_
                  have gk11f36 : ivh36 a0 11 = ivh30 a0 11 := kp11f36
                  have gk12f36 : ivh36 a0 12 = ivh30 a0 12 := kp12f36
                  have gk13f36 : ivh36 a0 13 = ivh30 a0 13 := kp13f36
                  have gk14f36 : ivh36 a0 14 = ivh30 a0 14 := kp14f36
                  have gk15f36 : ivh36 a0 15 = ivh30 a0 15 := kp15f36
                  have gk16f36 : ivh36 a0 16 = ivh30 a0 16 := kp16f36
                  have gf36 : f36 = -1 := exf36
                  have ri258 : 0 ≤ ivh36 (sk 2) 2 ∧ ivh36 (sk 2) 2 ≤ 3000 := W36.int ty53 2
                  have ie409 : ivh36 (sk 2) 2 = ivh30 (sk 2) 2 := fl36.i ty53 rfl 2
                  have ie410 : ivh30 (sk 2) 2 = ivh28 (sk 2) 2 := fl30.i ty53 rfl 2
                  have ri259 : 1 ≤ ivh36 a0 11 ∧ ivh36 a0 11 ≤ 100 := W36.int ty52 11
                  have ri260 : 1 ≤ ivh36 a0 12 ∧ ivh36 a0 12 ≤ 50 := W36.int ty52 12
                  have ri261 : (-2147483648) ≤ ivh36 a0 13 ∧ ivh36 a0 13 ≤ 2147483647 := W36.int ty52 13
                  have ri262 : (-2147483648) ≤ ivh36 a0 14 ∧ ivh36 a0 14 ≤ 2147483647 := W36.int ty52 14
                  have ri263 : (-2147483648) ≤ ivh36 a0 15 ∧ ivh36 a0 15 ≤ 2147483647 := W36.int ty52 15
                  have ri264 : (-2147483648) ≤ ivh36 a0 16 ∧ ivh36 a0 16 ≤ 2147483647 := W36.int ty52 16
                  exact c_iret C dX11_head_151 rfl (by decide) (rom0 hph pl10 (by decide)) ⟨f36, rfl, Xb4, F28, W36, ⟨by omega, by omega⟩, trivial, (by omega), (by omega), (by omega), (by omega), (by omega), (by omega), (by omega), (show rvb4 a0 9 = rv a0 9 from hkr9), (show rvb4 a0 10 = rv a0 10 from hkr10)⟩
              · subst oq3
                refine c_lv (lv2 := [(3, .null), (2, .int (iI fl)), (0, .ref a0), (1, .int (iI i))]) [0, 1, 2, 3] rfl ?_
                refine c_st (st2 := []) rfl ?_
                refine c_aload_n (j := 2) (x := a0) C dX11_head_117 rfl ?_
                refine c_iconst C dX11_head_118 ?_
                refine d_callV (As := [.int (iI 3)]) (rest := []) C hM (C_refuse (a0 := a0) (x := 3) W28 skb4 ty52 ⟨by decide, by decide⟩ ) dX11_head_119 kV_X11_102 rfl ty52 rfl rfl (by decide) ck_12 rfl (Nat.le_of_ble_eq_true rfl) ⟨(Nat.le_of_ble_eq_true rfl), (Nat.le_of_ble_eq_true rfl)⟩ hph pl10 (show 0 + 0 = 0 from rfl) (by decide) (fun rh37 Lh37 clh37 lnh37 ivh37 rvh37 h37 => ?_)
                obtain ⟨f37, rfl, rfl, rfl, rfl, rfl, fl37, W37, rgf37, exf37, kp11f37, kp12f37, kp13f37, kp14f37, kp15f37, kp16f37⟩ := h37
                have ri265 : 1 ≤ ivh28 a0 11 ∧ ivh28 a0 11 ≤ 100 := W28.int ty52 11
                have ie417 : ivh28 a0 11 = ivb4 a0 11 := fl28.i ty52 rfl 11
                have ri266 : 1 ≤ ivh28 a0 12 ∧ ivh28 a0 12 ≤ 50 := W28.int ty52 12
                have ie419 : ivh28 a0 12 = ivb4 a0 12 := fl28.i ty52 rfl 12
                have ri267 : (-2147483648) ≤ ivh28 a0 13 ∧ ivh28 a0 13 ≤ 2147483647 := W28.int ty52 13
                have ie421 : ivh28 a0 13 = ivb4 a0 13 := fl28.i ty52 rfl 13
                have ri268 : (-2147483648) ≤ ivh28 a0 14 ∧ ivh28 a0 14 ≤ 2147483647 := W28.int ty52 14
                have ie423 : ivh28 a0 14 = ivb4 a0 14 := fl28.i ty52 rfl 14
                have ri269 : (-2147483648) ≤ ivh28 a0 15 ∧ ivh28 a0 15 ≤ 2147483647 := W28.int ty52 15
                have ie425 : ivh28 a0 15 = ivb4 a0 15 := fl28.i ty52 rfl 15
                have ri270 : (-2147483648) ≤ ivh28 a0 16 ∧ ivh28 a0 16 ≤ 2147483647 := W28.int ty52 16
                have ie427 : ivh28 a0 16 = ivb4 a0 16 := fl28.i ty52 rfl 16
                have F29 := F22.call Xb4 fl37 rfl
                have mr29 := MRK.call mr22 W28 skb4 XT.refl fl37 rfl rfl
                refine c_st (st2 := [.int (iI f37)]) rfl ?_
                have gk11f37 : ivh37 a0 11 = ivh28 a0 11 := kp11f37
                have gk12f37 : ivh37 a0 12 = ivh28 a0 12 := kp12f37
                have gk13f37 : ivh37 a0 13 = ivh28 a0 13 := kp13f37
                have gk14f37 : ivh37 a0 14 = ivh28 a0 14 := kp14f37
                have gk15f37 : ivh37 a0 15 = ivh28 a0 15 := kp15f37
                have gk16f37 : ivh37 a0 16 = ivh28 a0 16 := kp16f37
                have gf37 : f37 = -1 := exf37
                have ri271 : 0 ≤ ivh37 (sk 2) 2 ∧ ivh37 (sk 2) 2 ≤ 3000 := W37.int ty53 2
                have ie429 : ivh37 (sk 2) 2 = ivh28 (sk 2) 2 := fl37.i ty53 rfl 2
                have ri272 : 1 ≤ ivh37 a0 11 ∧ ivh37 a0 11 ≤ 100 := W37.int ty52 11
                have ri273 : 1 ≤ ivh37 a0 12 ∧ ivh37 a0 12 ≤ 50 := W37.int ty52 12
                have ri274 : (-2147483648) ≤ ivh37 a0 13 ∧ ivh37 a0 13 ≤ 2147483647 := W37.int ty52 13
                have ri275 : (-2147483648) ≤ ivh37 a0 14 ∧ ivh37 a0 14 ≤ 2147483647 := W37.int ty52 14
                have ri276 : (-2147483648) ≤ ivh37 a0 15 ∧ ivh37 a0 15 ≤ 2147483647 := W37.int ty52 15
                have ri277 : (-2147483648) ≤ ivh37 a0 16 ∧ ivh37 a0 16 ≤ 2147483647 := W37.int ty52 16
                exact c_iret C dX11_head_122 rfl (by decide) (rom0 hph pl10 (by decide)) ⟨f37, rfl, Xb4, F29, W37, ⟨by omega, by omega⟩, trivial, (by omega), (by omega), (by omega), (by omega), (by omega), (by omega), (by omega), (show rvb4 a0 9 = rv a0 9 from hkr9), (show rvb4 a0 10 = rv a0 10 from hkr10)⟩
            · refine c_aload_n (j := 2) (x := a0) C dX11_head_97 rfl ?_
              refine c_bipush (z := 6) C dX11_head_98 (by decide) ?_
              refine d_callV (As := [.int (iI 6)]) (rest := []) C hM (C_refuse (a0 := a0) (x := 6) W28 skb4 ty52 ⟨by decide, by decide⟩ ) dX11_head_100 kV_X11_102 rfl ty52 rfl rfl (by decide) ck_12 rfl (Nat.le_of_ble_eq_true rfl) ⟨(Nat.le_of_ble_eq_true rfl), (Nat.le_of_ble_eq_true rfl)⟩ hph pl10 (show 0 + 0 = 0 from rfl) (by decide) (fun rh38 Lh38 clh38 lnh38 ivh38 rvh38 h38 => ?_)
              obtain ⟨f38, rfl, rfl, rfl, rfl, rfl, fl38, W38, rgf38, exf38, kp11f38, kp12f38, kp13f38, kp14f38, kp15f38, kp16f38⟩ := h38
              have ri278 : 1 ≤ ivh28 a0 11 ∧ ivh28 a0 11 ≤ 100 := W28.int ty52 11
              have ie436 : ivh28 a0 11 = ivb4 a0 11 := fl28.i ty52 rfl 11
              have ri279 : 1 ≤ ivh28 a0 12 ∧ ivh28 a0 12 ≤ 50 := W28.int ty52 12
              have ie438 : ivh28 a0 12 = ivb4 a0 12 := fl28.i ty52 rfl 12
              have ri280 : (-2147483648) ≤ ivh28 a0 13 ∧ ivh28 a0 13 ≤ 2147483647 := W28.int ty52 13
              have ie440 : ivh28 a0 13 = ivb4 a0 13 := fl28.i ty52 rfl 13
              have ri281 : (-2147483648) ≤ ivh28 a0 14 ∧ ivh28 a0 14 ≤ 2147483647 := W28.int ty52 14
              have ie442 : ivh28 a0 14 = ivb4 a0 14 := fl28.i ty52 rfl 14
              have ri282 : (-2147483648) ≤ ivh28 a0 15 ∧ ivh28 a0 15 ≤ 2147483647 := W28.int ty52 15
              have ie444 : ivh28 a0 15 = ivb4 a0 15 := fl28.i ty52 rfl 15
              have ri283 : (-2147483648) ≤ ivh28 a0 16 ∧ ivh28 a0 16 ≤ 2147483647 := W28.int ty52 16
              have ie446 : ivh28 a0 16 = ivb4 a0 16 := fl28.i ty52 rfl 16
              have F30 := F22.call Xb4 fl38 rfl
              have mr30 := MRK.call mr22 W28 skb4 XT.refl fl38 rfl rfl
              refine c_st (st2 := [.int (iI f38)]) rfl ?_
              have gk11f38 : ivh38 a0 11 = ivh28 a0 11 := kp11f38
              have gk12f38 : ivh38 a0 12 = ivh28 a0 12 := kp12f38
              have gk13f38 : ivh38 a0 13 = ivh28 a0 13 := kp13f38
              have gk14f38 : ivh38 a0 14 = ivh28 a0 14 := kp14f38
              have gk15f38 : ivh38 a0 15 = ivh28 a0 15 := kp15f38
              have gk16f38 : ivh38 a0 16 = ivh28 a0 16 := kp16f38
              have gf38 : f38 = -1 := exf38
              have ri284 : 0 ≤ ivh38 (sk 2) 2 ∧ ivh38 (sk 2) 2 ≤ 3000 := W38.int ty53 2
              have ie448 : ivh38 (sk 2) 2 = ivh28 (sk 2) 2 := fl38.i ty53 rfl 2
              have ri285 : 1 ≤ ivh38 a0 11 ∧ ivh38 a0 11 ≤ 100 := W38.int ty52 11
              have ri286 : 1 ≤ ivh38 a0 12 ∧ ivh38 a0 12 ≤ 50 := W38.int ty52 12
              have ri287 : (-2147483648) ≤ ivh38 a0 13 ∧ ivh38 a0 13 ≤ 2147483647 := W38.int ty52 13
              have ri288 : (-2147483648) ≤ ivh38 a0 14 ∧ ivh38 a0 14 ≤ 2147483647 := W38.int ty52 14
              have ri289 : (-2147483648) ≤ ivh38 a0 15 ∧ ivh38 a0 15 ≤ 2147483647 := W38.int ty52 15
              have ri290 : (-2147483648) ≤ ivh38 a0 16 ∧ ivh38 a0 16 ≤ 2147483647 := W38.int ty52 16
              exact c_iret C dX11_head_103 rfl (by decide) (rom0 hph pl10 (by decide)) ⟨f38, rfl, Xb4, F30, W38, ⟨by omega, by omega⟩, trivial, (by omega), (by omega), (by omega), (by omega), (by omega), (by omega), (by omega), (show rvb4 a0 9 = rv a0 9 from hkr9), (show rvb4 a0 10 = rv a0 10 from hkr10)⟩
          · refine c_iload_n (j := 1) C dX11_head_53 rfl ?_
            refine c_aload_n (j := 2) (x := a0) C dX11_head_54 rfl ?_
            have ty77 := Xb4.ty t_a0
            obtain ⟨rb32, rq32, trb32⟩ := Wb4.ref ty77 0 rfl rfl rfl
            have erb32 := Wb4.sk trb32 (by decide) rfl
            subst erb32
            refine c_getr (k := 0) C ck_12 dX11_head_55 w2_44 (by decide) ty77 rfl rfl (by decide) rfl rq32 ?_
            refine c_st (st2 := [.ref (sk 2), .int (iI k)]) rfl ?_
            have ty78 := Xb4.ty tsk2
            have ri291 : 0 ≤ ivb4 (sk 2) 2 ∧ ivb4 (sk 2) 2 ≤ 3000 := Wb4.int ty78 2
            refine c_get (k := 2) C ck_2 dX11_head_58 w1_44 (by decide) ty78 rfl rfl (by decide) rfl ?_
            refine c_icmp_ge (tgt := 86) C ⟨by omega, by omega⟩ ⟨by omega, by omega⟩ dX11_head_61 (by decide) (fun c18 => ?_) (fun c18 => ?_)
            · refine c_aload_n (j := 2) (x := a0) C dX11_head_86 rfl ?_
              refine c_getr (k := 0) C ck_12 dX11_head_87 w2_44 (by decide) ty77 rfl rfl (by decide) rfl rq32 ?_
              refine c_st (st2 := [.ref (sk 2)]) rfl ?_
              have pl14 := Phi.le Wb4 skb4
              refine d_callV (As := []) (rest := []) C hM (C_clear_2 (a0 := (sk 2)) Wb4 skb4 ty78  ) dX11_head_90 kV_X11_164 rfl ty78 rfl rfl (by decide) ck_2 rfl (Nat.le_of_ble_eq_true rfl) ⟨(Nat.le_of_ble_eq_true rfl), (Nat.le_of_ble_eq_true rfl)⟩ hph pl14 (show 0 + 0 = 0 from rfl) (by decide) (fun rh39 Lh39 clh39 lnh39 ivh39 rvh39 h39 => ?_)
              obtain ⟨rfl, rfl, rfl, rfl, rfl, fl39, W39, exf39⟩ := h39
              have F31 := Fb4.call Xb4 fl39 rfl
              have mr31 := MRK.call mrb4 Wb4 skb4 XT.refl fl39 rfl rfl
              refine c_st (st2 := []) rfl ?_
              have ri292 : 0 ≤ ivh39 (sk 2) 2 ∧ ivh39 (sk 2) 2 ≤ 3000 := W39.int ty78 2
              have gf39 : ivh39 (sk 2) 2 = 0 := exf39
              refine c_iload_n (j := 0) C dX11_head_93 rfl ?_
              refine c_if_ne (tgt := 104) C ⟨by omega, by omega⟩ dX11_head_94 (by decide) (fun c19 => ?_) (fun c19 => ?_)
              · refine c_aload_n (j := 2) (x := a0) C dX11_head_104 rfl ?_
                obtain ⟨rb33, rq33, trb33⟩ := W39.ref ty77 4 rfl rfl rfl
                have erb33 := W39.sk trb33 (by decide) rfl
                subst erb33
                refine c_getr (k := 4) C ck_12 dX11_head_105 w2_48 (by decide) ty77 rfl rfl (by decide) rfl rq33 ?_
                refine c_st (st2 := [.ref (sk 13)]) rfl ?_
                refine c_iload_n (j := 3) C dX11_head_108 rfl ?_
                have ty79 := Xb4.ty tsk13
                refine d_callV (As := [.int (iI i)]) (rest := []) C hM (C_whole (a0 := (sk 13)) (i := i) W39 skb4 ty79 (by omega) mr31) dX11_head_109 kV_X11_231 rfl ty79 rfl rfl (by decide) ck_11 rfl (Nat.le_of_ble_eq_true rfl) ⟨(Nat.le_of_ble_eq_true rfl), (Nat.le_of_ble_eq_true rfl)⟩ hph pl14 (show 0 + 0 = 0 from rfl) (by decide) (fun rh40 Lh40 clh40 lnh40 ivh40 rvh40 h40 => ?_)
                obtain ⟨f40, rfl, rfl, rfl, rfl, rfl, rfl, rgf40, exf40⟩ := h40
                refine c_st (st2 := [(va_rf f40)]) rfl ?_
                refine c_astorer_n (r := f40) (lv2 := [(3, (va_rf f40)), (2, .int (iI fl)), (0, .ref a0), (1, .int (iI i))]) C dX11_head_112 (by decide) rfl ?_
                refine c_aloadr_n (j := 0) (r := f40) C dX11_head_113 rfl ?_
                refine c_ifnonnull (r := f40) (tgt := 123) C dX11_head_114 (by decide) (fun ob4 oq4 => ?_) (fun oq4 => ?_)
                · subst oq4
                  have tob4 := rgf40 ob4 rfl
                  refine c_lv (lv2 := [(3, .ref ob4), (2, .int (iI fl)), (0, .ref a0), (1, .int (iI i))]) [0, 1, 2, 3] rfl ?_
                  refine c_st (st2 := []) rfl ?_
                  refine c_aload_n (j := 2) (x := a0) C dX11_head_123 rfl ?_
                  obtain ⟨rb34, rq34, trb34⟩ := W39.ref ty77 6 rfl rfl rfl
                  have erb34 := W39.sk trb34 (by decide) rfl
                  subst erb34
                  refine c_getr (k := 6) C ck_12 dX11_head_124 w2_50 (by decide) ty77 rfl rfl (by decide) rfl rq34 ?_
                  refine c_st (st2 := [.ref (sk 15)]) rfl ?_
                  refine c_aload_n (j := 0) (x := ob4) C dX11_head_127 rfl ?_
                  have ty80 := Xb4.ty tsk15
                  have ri293 : 0 ≤ ivh39 (sk 15) 4 ∧ ivh39 (sk 15) 4 ≤ 500 := W39.int ty80 4
                  have ie457 : ivh39 (sk 15) 4 = ivb4 (sk 15) 4 := fl39.i ty80 rfl 4
                  refine d_callV (As := [.ref ob4]) (rest := []) C hM (C_setBy (a0 := (sk 15)) (a1 := ob4) W39 skb4 ty80 tob4  ) dX11_head_128 kV_X11_253 rfl ty80 rfl rfl (by decide) ck_7 rfl (Nat.le_of_ble_eq_true rfl) ⟨(Nat.le_of_ble_eq_true rfl), (Nat.le_of_ble_eq_true rfl)⟩ hph pl14 (show 0 + 0 = 0 from rfl) (by decide) (fun rh41 Lh41 clh41 lnh41 ivh41 rvh41 h41 => ?_)
                  obtain ⟨f41, rfl, rfl, rfl, rfl, rfl, fl41, W41, rgf41, exf41⟩ := h41
                  have F32 := F31.call Xb4 fl41 rfl
                  have mr32 := MRK.call mr31 W39 skb4 XT.refl fl41 rfl rfl
                  refine c_st (st2 := [.int (iI f41)]) rfl ?_
                  have ri294 : 0 ≤ ivh41 (sk 15) 4 ∧ ivh41 (sk 15) 4 ≤ 500 := W41.int ty80 4
                  have ri295 : 0 ≤ ivh41 (sk 15) 7 ∧ ivh41 (sk 15) 7 ≤ 100000 := W41.int ty80 7
                  have gf41 : (f41 = 0 ∨ f41 = 6 ∨ f41 = 7) ∧ ivh41 (sk 15) 4 = ivh39 (sk 15) 4 ∧ (f41 = 0 → ivh41 (sk 15) 7 ≤ 200) := exf41
                  refine c_istore (lv2 := [(4, .int (iI f41)), (3, .ref ob4), (2, .int (iI fl)), (0, .ref a0), (1, .int (iI i))]) C dX11_head_131 (by decide) rfl ?_
                  refine c_iload (j := 0) C dX11_head_133 rfl ?_
                  refine c_if_eq (tgt := 152) C ⟨by omega, by omega⟩ dX11_head_135 (by decide) (fun c20 => ?_) (fun c20 => ?_)
                  · refine c_aload_n (j := 3) (x := a0) C dX11_head_152 rfl ?_
                    obtain ⟨rb35, rq35, trb35⟩ := W41.ref ty77 3 rfl rfl rfl
                    have erb35 := W41.sk trb35 (by decide) rfl
                    subst erb35
                    refine c_getr (k := 3) C ck_12 dX11_head_153 w2_47 (by decide) ty77 rfl rfl (by decide) rfl rq35 ?_
                    refine c_st (st2 := [.ref (sk 5)]) rfl ?_
                    have ty81 := Xb4.ty tsk5
                    refine d_callV (As := []) (rest := []) C hM (C_clear_5 (a0 := (sk 5)) W41 skb4 ty81  ) dX11_head_156 kV_X11_164 rfl ty81 rfl rfl (by decide) ck_2 rfl (Nat.le_of_ble_eq_true rfl) ⟨(Nat.le_of_ble_eq_true rfl), (Nat.le_of_ble_eq_true rfl)⟩ hph pl14 (show 0 + 0 = 0 from rfl) (by decide) (fun rh42 Lh42 clh42 lnh42 ivh42 rvh42 h42 => ?_)
                    obtain ⟨rfl, rfl, rfl, rfl, rfl, fl42, W42, exf42⟩ := h42
                    have F33 := F32.call Xb4 fl42 rfl
                    have mr33 := MRK.call mr32 W41 skb4 XT.refl fl42 rfl rfl
                    refine c_st (st2 := []) rfl ?_
                    have ri296 : 0 ≤ ivh42 (sk 5) 2 ∧ ivh42 (sk 5) 2 ≤ 200 := W42.int ty81 2
                    have gf42 : ivh42 (sk 5) 2 = 0 := exf42
                    refine c_iconst C dX11_head_159 ?_
                    refine c_istore (lv2 := [(5, .int (iI 0)), (4, .int (iI f41)), (3, .ref ob4), (2, .int (iI fl)), (0, .ref a0), (1, .int (iI i))]) C dX11_head_160 (by decide) rfl ?_
                    have Lp6 : ∀ (nn : Nat) (k2 : Int) (Lb6 : List Nat) (clb6 lnb6 : Nat → Nat) (ivb6 : Nat → Nat → Int) (rvb6 : Nat → Nat → Option Nat) , 101 - k2 < (nn : Int) → XT L cl ln Lb6 clb6 lnb6 → WT (g0 G) sk Lb6 clb6 lnb6 ivb6 rvb6 → fT [1, 2, 5, 35, 15, 50, 51, 52, 53, 54, 55] L cl iv rv ivb6 rvb6 → (0 ≤ k2 ∧ k2 ≤ 100) → (ivb6 (sk 15) 7 ≤ 200) → (ivb6 (sk 2) 2 = 0) → (ivb6 a0 11 = iv a0 11) → (ivb6 a0 12 = iv a0 12) → (ivb6 a0 13 = iv a0 13) → (ivb6 a0 14 = iv a0 14) → (ivb6 a0 15 = iv a0 15) → (ivb6 a0 16 = iv a0 16) → (rvb6 a0 9 = rv a0 9) → (rvb6 a0 10 = rv a0 10) → cw p l e 8 ((PHM) + 0 - ((Phi (g0 G) sk) ln rv)) s m args below meth c G A 6 (MQ below (Qu G A (Qp G (Phi (g0 G) sk) ((Phi (g0 G) sk) ln rv) 0 (fun v L2 cl2 ln2 iv2 rv2 => ∃ f : Int, v = some (.int (iI f)) ∧ XT L cl ln L2 cl2 ln2 ∧ fT [1, 2, 5, 35, 15, 50, 51, 52, 53, 54, 55] L cl iv rv iv2 rv2 ∧ WT (g0 G) sk L2 cl2 ln2 iv2 rv2 ∧ (-2147483648 ≤ f ∧ f ≤ 2147483647) ∧ (True) ∧ iv2 a0 11 = iv a0 11 ∧ iv2 a0 12 = iv a0 12 ∧ iv2 a0 13 = iv a0 13 ∧ iv2 a0 14 = iv a0 14 ∧ iv2 a0 15 = iv a0 15 ∧ iv2 a0 16 = iv a0 16 ∧ iv2 (sk 2) 2 = 0 ∧ rv2 a0 9 = rv a0 9 ∧ rv2 a0 10 = rv a0 10))) args s (((PHM) + 0 - ((Phi (g0 G) sk) ln rv)) / 16) ((PHM) + 0 - ((Phi (g0 G) sk) ln rv)) A) (Phi (g0 G) sk) ((Phi (g0 G) sk) ln rv) Lb6 clb6 lnb6 ivb6 rvb6 0 162 [(5, .int (iI k2)), (4, .int (iI f41)), (3, .ref ob4), (2, .int (iI fl)), (0, .ref a0), (1, .int (iI i))] [] := by
                      intro nn
                      induction nn with
                      | zero =>
                        intro  k2 Lb6 clb6 lnb6 ivb6 rvb6 hm Xb6 Wb6 Fb6  hk2 hco htz hkp11 hkp12 hkp13 hkp14 hkp15 hkp16 hkr9 hkr10
                        have skb6 := Xb6.skl hS
                        exact absurd hm (by omega)
                      | succ nn ih6 =>
                        intro  k2 Lb6 clb6 lnb6 ivb6 rvb6 hm Xb6 Wb6 Fb6  hk2 hco htz hkp11 hkp12 hkp13 hkp14 hkp15 hkp16 hkr9 hkr10
                        have skb6 := Xb6.skl hS
                        have mrb6 := MRK.call hmr hW hS Xb6 Fb6 rfl rfl
                        refine c_iload (j := 0) C dX11_head_162 rfl ?_
                        refine c_aload_n (j := 4) (x := a0) C dX11_head_164 rfl ?_
                        have ty82 := Xb6.ty t_a0
                        obtain ⟨rb36, rq36, trb36⟩ := Wb6.ref ty82 6 rfl rfl rfl
                        have erb36 := Wb6.sk trb36 (by decide) rfl
                        subst erb36
                        refine c_getr (k := 6) C ck_12 dX11_head_165 w2_50 (by decide) ty82 rfl rfl (by decide) rfl rq36 ?_
                        refine c_st (st2 := [.ref (sk 15), .int (iI k2)]) rfl ?_
                        have ty83 := Xb6.ty tsk15
                        have ri297 : 0 ≤ ivb6 (sk 15) 7 ∧ ivb6 (sk 15) 7 ≤ 100000 := Wb6.int ty83 7
                        refine c_get (k := 7) C ck_7 dX11_head_168 w1_149 (by decide) ty83 rfl rfl (by decide) rfl ?_
                        refine c_icmp_ge (tgt := 206) C ⟨by omega, by omega⟩ ⟨by omega, by omega⟩ dX11_head_171 (by decide) (fun c21 => ?_) (fun c21 => ?_)
                        · refine c_aload_n (j := 4) (x := a0) C dX11_head_206 rfl ?_
                          refine c_aload_n (j := 4) (x := a0) C dX11_head_207 rfl ?_
                          obtain ⟨rb37, rq37, trb37⟩ := Wb6.ref ty82 3 rfl rfl rfl
                          have erb37 := Wb6.sk trb37 (by decide) rfl
                          subst erb37
                          refine c_getr (k := 3) C ck_12 dX11_head_208 w2_47 (by decide) ty82 rfl rfl (by decide) rfl rq37 ?_
                          refine c_st (st2 := [.ref (sk 5), .ref a0]) rfl ?_
                          have ty84 := Xb6.ty tsk5
                          have ri298 : 0 ≤ ivb6 (sk 5) 2 ∧ ivb6 (sk 5) 2 ≤ 200 := Wb6.int ty84 2
                          refine c_get (k := 2) C ck_2 dX11_head_211 w1_44 (by decide) ty84 rfl rfl (by decide) rfl ?_
                          have pl15 := Phi.le Wb6 skb6
                          refine d_callV (As := [.int (iI (ivb6 (sk 5) 2))]) (rest := []) C hM (C_done (a0 := a0) (x := ivb6 (sk 5) 2) Wb6 skb6 ty82 (by omega) ) dX11_head_214 kV_X11_109 rfl ty82 rfl rfl (by decide) ck_12 rfl (Nat.le_of_ble_eq_true rfl) ⟨(Nat.le_of_ble_eq_true rfl), (Nat.le_of_ble_eq_true rfl)⟩ hph pl15 (show 0 + 0 = 0 from rfl) (by decide) (fun rh43 Lh43 clh43 lnh43 ivh43 rvh43 h43 => ?_)
                          obtain ⟨f43, rfl, rfl, rfl, rfl, rfl, fl43, W43, rgf43, exf43, kp11f43, kp12f43, kp13f43, kp14f43, kp15f43, kp16f43⟩ := h43
                          have ri299 : 1 ≤ ivb6 a0 11 ∧ ivb6 a0 11 ≤ 100 := Wb6.int ty82 11
                          have ri300 : 1 ≤ ivb6 a0 12 ∧ ivb6 a0 12 ≤ 50 := Wb6.int ty82 12
                          have ri301 : (-2147483648) ≤ ivb6 a0 13 ∧ ivb6 a0 13 ≤ 2147483647 := Wb6.int ty82 13
                          have ri302 : (-2147483648) ≤ ivb6 a0 14 ∧ ivb6 a0 14 ≤ 2147483647 := Wb6.int ty82 14
                          have ri303 : (-2147483648) ≤ ivb6 a0 15 ∧ ivb6 a0 15 ≤ 2147483647 := Wb6.int ty82 15
                          have ri304 : (-2147483648) ≤ ivb6 a0 16 ∧ ivb6 a0 16 ≤ 2147483647 := Wb6.int ty82 16
                          have F34 := Fb6.call Xb6 fl43 rfl
                          have mr34 := MRK.call mrb6 Wb6 skb6 XT.refl fl43 rfl rfl
                          refine c_st (st2 := [.int (iI f43)]) rfl ?_
                          have gk11f43 : ivh43 a0 11 = ivb6 a0 11 := kp11f43
                          have gk12f43 : ivh43 a0 12 = ivb6 a0 12 := kp12f43
                          have gk13f43 : ivh43 a0 13 = ivb6 a0 13 := kp13f43
                          have gk14f43 : ivh43 a0 14 = ivb6 a0 14 := kp14f43
                          have gk15f43 : ivh43 a0 15 = ivb6 a0 15 := kp15f43
                          have gk16f43 : ivh43 a0 16 = ivb6 a0 16 := kp16f43
                          have gf43 : f43 = (ivb6 (sk 5) 2) := exf43
                          have ty85 := Xb6.ty tsk2
                          have ri305 : 0 ≤ ivh43 (sk 2) 2 ∧ ivh43 (sk 2) 2 ≤ 3000 := W43.int ty85 2
                          have ie470 : ivh43 (sk 2) 2 = ivb6 (sk 2) 2 := fl43.i ty85 rfl 2
                          have ri306 : 1 ≤ ivh43 a0 11 ∧ ivh43 a0 11 ≤ 100 := W43.int ty82 11
                          have ri307 : 1 ≤ ivh43 a0 12 ∧ ivh43 a0 12 ≤ 50 := W43.int ty82 12
                          have ri308 : (-2147483648) ≤ ivh43 a0 13 ∧ ivh43 a0 13 ≤ 2147483647 := W43.int ty82 13
                          have ri309 : (-2147483648) ≤ ivh43 a0 14 ∧ ivh43 a0 14 ≤ 2147483647 := W43.int ty82 14
                          have ri310 : (-2147483648) ≤ ivh43 a0 15 ∧ ivh43 a0 15 ≤ 2147483647 := W43.int ty82 15
                          have ri311 : (-2147483648) ≤ ivh43 a0 16 ∧ ivh43 a0 16 ≤ 2147483647 := W43.int ty82 16
                          exact c_iret C dX11_head_217 rfl (by decide) (rom0 hph pl15 (by decide)) ⟨f43, rfl, Xb6, F34, W43, ⟨by omega, by omega⟩, trivial, (by omega), (by omega), (by omega), (by omega), (by omega), (by omega), (by omega), (show rvb6 a0 9 = rv a0 9 from hkr9), (show rvb6 a0 10 = rv a0 10 from hkr10)⟩
                        · refine c_iload (j := 0) C dX11_head_174 rfl ?_
                          refine c_aload_n (j := 4) (x := a0) C dX11_head_176 rfl ?_
                          have ri312 : 1 ≤ ivb6 a0 11 ∧ ivb6 a0 11 ≤ 100 := Wb6.int ty82 11
                          refine c_get (k := 11) C ck_12 dX11_head_177 w2_55 (by decide) ty82 rfl rfl (by decide) rfl ?_
                          refine c_icmp_ge (tgt := 206) C ⟨by omega, by omega⟩ ⟨by omega, by omega⟩ dX11_head_180 (by decide) (fun c22 => ?_) (fun c22 => ?_)
                          · refine c_aload_n (j := 4) (x := a0) C dX11_head_206 rfl ?_
                            refine c_aload_n (j := 4) (x := a0) C dX11_head_207 rfl ?_
                            obtain ⟨rb38, rq38, trb38⟩ := Wb6.ref ty82 3 rfl rfl rfl
                            have erb38 := Wb6.sk trb38 (by decide) rfl
                            subst erb38
                            refine c_getr (k := 3) C ck_12 dX11_head_208 w2_47 (by decide) ty82 rfl rfl (by decide) rfl rq38 ?_
                            refine c_st (st2 := [.ref (sk 5), .ref a0]) rfl ?_
                            have ty86 := Xb6.ty tsk5
                            have ri313 : 0 ≤ ivb6 (sk 5) 2 ∧ ivb6 (sk 5) 2 ≤ 200 := Wb6.int ty86 2
                            refine c_get (k := 2) C ck_2 dX11_head_211 w1_44 (by decide) ty86 rfl rfl (by decide) rfl ?_
                            have pl16 := Phi.le Wb6 skb6
                            refine d_callV (As := [.int (iI (ivb6 (sk 5) 2))]) (rest := []) C hM (C_done (a0 := a0) (x := ivb6 (sk 5) 2) Wb6 skb6 ty82 (by omega) ) dX11_head_214 kV_X11_109 rfl ty82 rfl rfl (by decide) ck_12 rfl (Nat.le_of_ble_eq_true rfl) ⟨(Nat.le_of_ble_eq_true rfl), (Nat.le_of_ble_eq_true rfl)⟩ hph pl16 (show 0 + 0 = 0 from rfl) (by decide) (fun rh44 Lh44 clh44 lnh44 ivh44 rvh44 h44 => ?_)
                            obtain ⟨f44, rfl, rfl, rfl, rfl, rfl, fl44, W44, rgf44, exf44, kp11f44, kp12f44, kp13f44, kp14f44, kp15f44, kp16f44⟩ := h44
                            have ri314 : 1 ≤ ivb6 a0 12 ∧ ivb6 a0 12 ≤ 50 := Wb6.int ty82 12
                            have ri315 : (-2147483648) ≤ ivb6 a0 13 ∧ ivb6 a0 13 ≤ 2147483647 := Wb6.int ty82 13
                            have ri316 : (-2147483648) ≤ ivb6 a0 14 ∧ ivb6 a0 14 ≤ 2147483647 := Wb6.int ty82 14
                            have ri317 : (-2147483648) ≤ ivb6 a0 15 ∧ ivb6 a0 15 ≤ 2147483647 := Wb6.int ty82 15
                            have ri318 : (-2147483648) ≤ ivb6 a0 16 ∧ ivb6 a0 16 ≤ 2147483647 := Wb6.int ty82 16
                            have F35 := Fb6.call Xb6 fl44 rfl
                            have mr35 := MRK.call mrb6 Wb6 skb6 XT.refl fl44 rfl rfl
                            refine c_st (st2 := [.int (iI f44)]) rfl ?_
                            have gk11f44 : ivh44 a0 11 = ivb6 a0 11 := kp11f44
                            have gk12f44 : ivh44 a0 12 = ivb6 a0 12 := kp12f44
                            have gk13f44 : ivh44 a0 13 = ivb6 a0 13 := kp13f44
                            have gk14f44 : ivh44 a0 14 = ivb6 a0 14 := kp14f44
                            have gk15f44 : ivh44 a0 15 = ivb6 a0 15 := kp15f44
                            have gk16f44 : ivh44 a0 16 = ivb6 a0 16 := kp16f44
                            have gf44 : f44 = (ivb6 (sk 5) 2) := exf44
                            have ty87 := Xb6.ty tsk2
                            have ri319 : 0 ≤ ivh44 (sk 2) 2 ∧ ivh44 (sk 2) 2 ≤ 3000 := W44.int ty87 2
                            have ie485 : ivh44 (sk 2) 2 = ivb6 (sk 2) 2 := fl44.i ty87 rfl 2
                            have ri320 : 1 ≤ ivh44 a0 11 ∧ ivh44 a0 11 ≤ 100 := W44.int ty82 11
                            have ri321 : 1 ≤ ivh44 a0 12 ∧ ivh44 a0 12 ≤ 50 := W44.int ty82 12
                            have ri322 : (-2147483648) ≤ ivh44 a0 13 ∧ ivh44 a0 13 ≤ 2147483647 := W44.int ty82 13
                            have ri323 : (-2147483648) ≤ ivh44 a0 14 ∧ ivh44 a0 14 ≤ 2147483647 := W44.int ty82 14
                            have ri324 : (-2147483648) ≤ ivh44 a0 15 ∧ ivh44 a0 15 ≤ 2147483647 := W44.int ty82 15
                            have ri325 : (-2147483648) ≤ ivh44 a0 16 ∧ ivh44 a0 16 ≤ 2147483647 := W44.int ty82 16
                            exact c_iret C dX11_head_217 rfl (by decide) (rom0 hph pl16 (by decide)) ⟨f44, rfl, Xb6, F35, W44, ⟨by omega, by omega⟩, trivial, (by omega), (by omega), (by omega), (by omega), (by omega), (by omega), (by omega), (show rvb6 a0 9 = rv a0 9 from hkr9), (show rvb6 a0 10 = rv a0 10 from hkr10)⟩
                          · refine c_aload_n (j := 4) (x := a0) C dX11_head_183 rfl ?_
                            obtain ⟨rb39, rq39, trb39⟩ := Wb6.ref ty82 3 rfl rfl rfl
                            have erb39 := Wb6.sk trb39 (by decide) rfl
                            subst erb39
                            refine c_getr (k := 3) C ck_12 dX11_head_184 w2_47 (by decide) ty82 rfl rfl (by decide) rfl rq39 ?_
                            refine c_st (st2 := [.ref (sk 5)]) rfl ?_
                            refine c_aload_n (j := 4) (x := a0) C dX11_head_187 rfl ?_
                            refine c_getr (k := 6) C ck_12 dX11_head_188 w2_50 (by decide) ty82 rfl rfl (by decide) rfl rq36 ?_
                            refine c_st (st2 := [.ref (sk 15), .ref (sk 5)]) rfl ?_
                            obtain ⟨rb40, rq40, trb40⟩ := Wb6.ref ty83 6 rfl rfl rfl
                            have lnrb40 : 200 ≤ lnb6 rb40 ∧ lnb6 rb40 ≤ 200 := Wb6.len trb40 rfl
                            refine c_getr (k := 6) C ck_7 dX11_head_191 w1_146 (by decide) ty83 rfl rfl (by decide) rfl rq40 ?_
                            refine c_st (st2 := [.ref rb40, .ref (sk 5)]) rfl ?_
                            refine c_iload (j := 0) C dX11_head_194 rfl ?_
                            have ll4 : 200 ≤ lnb6 rb40 ∧ lnb6 rb40 ≤ 200 := Wb6.len trb40 rfl
                            refine c_iald C dX11_head_196 trb40 rfl (by omega) (by omega) (by omega) ?_
                            have ri326 : (-2147483648) ≤ ivb6 rb40 k2.toNat ∧ ivb6 rb40 k2.toNat ≤ 2147483647 := Wb6.int trb40 k2.toNat
                            have ty88 := Xb6.ty tsk5
                            have ri327 : 0 ≤ ivb6 (sk 5) 2 ∧ ivb6 (sk 5) 2 ≤ 200 := Wb6.int ty88 2
                            have pl17 := Phi.le Wb6 skb6
                            refine d_callV (As := [.int (iI (ivb6 rb40 k2.toNat))]) (rest := []) C hM (C_add_5 (a0 := (sk 5)) (x := ivb6 rb40 k2.toNat) Wb6 skb6 ty88 (by omega) ) dX11_head_197 kV_X11_112 rfl ty88 rfl rfl (by decide) ck_2 rfl (Nat.le_of_ble_eq_true rfl) ⟨(Nat.le_of_ble_eq_true rfl), (Nat.le_of_ble_eq_true rfl)⟩ hph pl17 (show 0 + 0 = 0 from rfl) (by decide) (fun rh45 Lh45 clh45 lnh45 ivh45 rvh45 h45 => ?_)
                            obtain ⟨rfl, xl45, fl45, W45, exf45⟩ := h45
                            have F36 := Fb6.call Xb6 fl45 rfl
                            have mr36 := MRK.call mrb6 Wb6 skb6 xl45 fl45 rfl rfl
                            have ty89 := Xb6.ty tsk2
                            have ty90 := Xb6.ty tsk3
                            have ty91 := Xb6.ty tsk4
                            have ty92 := Xb6.ty tsk13
                            have ty93 := Xb6.ty tsk14
                            have ty94 := Xb6.ty tsk16
                            have ty95 := Xb6.ty tsk17
                            have ty96 := Xb6.ty tsk22
                            have ty97 := Xb6.ty tsk23
                            have X4 := Xb6.trans xl45
                            have sk4 := xl45.skl skb6
                            refine c_st (st2 := []) rfl ?_
                            have ty98 := xl45.ty ty88
                            have ri328 : 0 ≤ ivh45 (sk 5) 2 ∧ ivh45 (sk 5) 2 ≤ 200 := W45.int ty98 2
                            have gf45 : ((ivh45 (sk 5) 2 = ivb6 (sk 5) 2 ∧ ivb6 (sk 5) 2 = 200) ∨ (ivh45 (sk 5) 2 = ivb6 (sk 5) 2 + 1 ∧ ivb6 (sk 5) 2 < 200)) := exf45
                            refine c_iinc (z := k2) (j := 0) (lv2 := [(5, .int (iI (k2 + 1))), (4, .int (iI f41)), (3, .ref ob4), (2, .int (iI fl)), (0, .ref a0), (1, .int (iI i))]) C dX11_head_200 rfl (by decide) rfl ?_
                            refine c_goto (tgt := 162) C dX11_head_203 (by decide) ?_
                            have ty99 := xl45.ty ty83
                            have ri329 : 0 ≤ ivh45 (sk 15) 7 ∧ ivh45 (sk 15) 7 ≤ 100000 := W45.int ty99 7
                            have ie496 : ivh45 (sk 15) 7 = ivb6 (sk 15) 7 := fl45.i ty83 rfl 7
                            have ty100 := xl45.ty ty89
                            have ri330 : 0 ≤ ivh45 (sk 2) 2 ∧ ivh45 (sk 2) 2 ≤ 3000 := W45.int ty100 2
                            have ie497 : ivh45 (sk 2) 2 = ivb6 (sk 2) 2 := fl45.i ty89 rfl 2
                            have ty101 := xl45.ty ty82
                            have ri331 : 1 ≤ ivh45 a0 11 ∧ ivh45 a0 11 ≤ 100 := W45.int ty101 11
                            have ie499 : ivh45 a0 11 = ivb6 a0 11 := fl45.i ty82 rfl 11
                            have ri332 : 1 ≤ ivh45 a0 12 ∧ ivh45 a0 12 ≤ 50 := W45.int ty101 12
                            have ie500 : ivh45 a0 12 = ivb6 a0 12 := fl45.i ty82 rfl 12
                            have ri333 : (-2147483648) ≤ ivh45 a0 13 ∧ ivh45 a0 13 ≤ 2147483647 := W45.int ty101 13
                            have ie502 : ivh45 a0 13 = ivb6 a0 13 := fl45.i ty82 rfl 13
                            have ri334 : (-2147483648) ≤ ivh45 a0 14 ∧ ivh45 a0 14 ≤ 2147483647 := W45.int ty101 14
                            have ie504 : ivh45 a0 14 = ivb6 a0 14 := fl45.i ty82 rfl 14
                            have ri335 : (-2147483648) ≤ ivh45 a0 15 ∧ ivh45 a0 15 ≤ 2147483647 := W45.int ty101 15
                            have ie506 : ivh45 a0 15 = ivb6 a0 15 := fl45.i ty82 rfl 15
                            have ri336 : (-2147483648) ≤ ivh45 a0 16 ∧ ivh45 a0 16 ≤ 2147483647 := W45.int ty101 16
                            have ie508 : ivh45 a0 16 = ivb6 a0 16 := fl45.i ty82 rfl 16
                            refine c_lv (lv2 := [(5, .int (iI (k2 + 1))), (4, .int (iI f41)), (3, .ref ob4), (2, .int (iI fl)), (0, .ref a0), (1, .int (iI i))]) [0, 1, 2, 3, 4, 5] rfl ?_
                            exact ih6  (k2 + 1) _ _ _ _ _ (by omega) X4 W45 F36  (by omega) (by show ivh45 (sk 15) 7 ≤ 200; omega) (by show ivh45 (sk 2) 2 = 0; omega) (by show ivh45 a0 11 = iv a0 11; omega) (by show ivh45 a0 12 = iv a0 12; omega) (by show ivh45 a0 13 = iv a0 13; omega) (by show ivh45 a0 14 = iv a0 14; omega) (by show ivh45 a0 15 = iv a0 15; omega) (by show ivh45 a0 16 = iv a0 16; omega) (Eq.trans (show rvh45 a0 9 = rvb6 a0 9 from (fl45.r ty82 rfl 9)) (show rvb6 a0 9 = rv a0 9 from hkr9)) (Eq.trans (show rvh45 a0 10 = rvb6 a0 10 from (fl45.r ty82 rfl 10)) (show rvb6 a0 10 = rv a0 10 from hkr10))
                    have ri337 : 0 ≤ ivh42 (sk 15) 7 ∧ ivh42 (sk 15) 7 ≤ 100000 := W42.int ty80 7
                    have ie510 : ivh42 (sk 15) 7 = ivh41 (sk 15) 7 := fl42.i ty80 rfl 7
                    have ri338 : 0 ≤ ivh42 (sk 2) 2 ∧ ivh42 (sk 2) 2 ≤ 3000 := W42.int ty78 2
                    have ie511 : ivh42 (sk 2) 2 = ivh41 (sk 2) 2 := fl42.i ty78 rfl 2
                    have ie512 : ivh41 (sk 2) 2 = ivh39 (sk 2) 2 := fl41.i ty78 rfl 2
                    have ri339 : 1 ≤ ivh42 a0 11 ∧ ivh42 a0 11 ≤ 100 := W42.int ty77 11
                    have ie513 : ivh42 a0 11 = ivh41 a0 11 := fl42.i ty77 rfl 11
                    have ie514 : ivh41 a0 11 = ivh39 a0 11 := fl41.i ty77 rfl 11
                    have ie515 : ivh39 a0 11 = ivb4 a0 11 := fl39.i ty77 rfl 11
                    have ri340 : 1 ≤ ivh42 a0 12 ∧ ivh42 a0 12 ≤ 50 := W42.int ty77 12
                    have ie517 : ivh42 a0 12 = ivh41 a0 12 := fl42.i ty77 rfl 12
                    have ie518 : ivh41 a0 12 = ivh39 a0 12 := fl41.i ty77 rfl 12
                    have ie519 : ivh39 a0 12 = ivb4 a0 12 := fl39.i ty77 rfl 12
                    have ri341 : (-2147483648) ≤ ivh42 a0 13 ∧ ivh42 a0 13 ≤ 2147483647 := W42.int ty77 13
                    have ie521 : ivh42 a0 13 = ivh41 a0 13 := fl42.i ty77 rfl 13
                    have ie522 : ivh41 a0 13 = ivh39 a0 13 := fl41.i ty77 rfl 13
                    have ie523 : ivh39 a0 13 = ivb4 a0 13 := fl39.i ty77 rfl 13
                    have ri342 : (-2147483648) ≤ ivh42 a0 14 ∧ ivh42 a0 14 ≤ 2147483647 := W42.int ty77 14
                    have ie525 : ivh42 a0 14 = ivh41 a0 14 := fl42.i ty77 rfl 14
                    have ie526 : ivh41 a0 14 = ivh39 a0 14 := fl41.i ty77 rfl 14
                    have ie527 : ivh39 a0 14 = ivb4 a0 14 := fl39.i ty77 rfl 14
                    have ri343 : (-2147483648) ≤ ivh42 a0 15 ∧ ivh42 a0 15 ≤ 2147483647 := W42.int ty77 15
                    have ie529 : ivh42 a0 15 = ivh41 a0 15 := fl42.i ty77 rfl 15
                    have ie530 : ivh41 a0 15 = ivh39 a0 15 := fl41.i ty77 rfl 15
                    have ie531 : ivh39 a0 15 = ivb4 a0 15 := fl39.i ty77 rfl 15
                    have ri344 : (-2147483648) ≤ ivh42 a0 16 ∧ ivh42 a0 16 ≤ 2147483647 := W42.int ty77 16
                    have ie533 : ivh42 a0 16 = ivh41 a0 16 := fl42.i ty77 rfl 16
                    have ie534 : ivh41 a0 16 = ivh39 a0 16 := fl41.i ty77 rfl 16
                    have ie535 : ivh39 a0 16 = ivb4 a0 16 := fl39.i ty77 rfl 16
                    refine c_lv (lv2 := [(5, .int (iI 0)), (4, .int (iI f41)), (3, .ref ob4), (2, .int (iI fl)), (0, .ref a0), (1, .int (iI i))]) [0, 1, 2, 3, 4, 5] rfl ?_
                    exact Lp6 103 0 _ _ _ _ _ (by omega) Xb4 W42 F33  (by omega) (by show ivh42 (sk 15) 7 ≤ 200; omega) (by show ivh42 (sk 2) 2 = 0; omega) (by show ivh42 a0 11 = iv a0 11; omega) (by show ivh42 a0 12 = iv a0 12; omega) (by show ivh42 a0 13 = iv a0 13; omega) (by show ivh42 a0 14 = iv a0 14; omega) (by show ivh42 a0 15 = iv a0 15; omega) (by show ivh42 a0 16 = iv a0 16; omega) (show rvb4 a0 9 = rv a0 9 from hkr9) (show rvb4 a0 10 = rv a0 10 from hkr10)
                  · refine c_aload_n (j := 3) (x := a0) C dX11_head_138 rfl ?_
                    refine c_iload (j := 0) C dX11_head_139 rfl ?_
                    refine c_aload_n (j := 3) (x := a0) C dX11_head_141 rfl ?_
                    refine c_getr (k := 6) C ck_12 dX11_head_142 w2_50 (by decide) ty77 rfl rfl (by decide) rfl rq34 ?_
                    refine c_st (st2 := [.ref (sk 15), .int (iI f41), .ref a0]) rfl ?_
                    refine d_callV (As := []) (rest := [.int (iI f41), .ref a0]) C hM (C_placeOfUnknown (a0 := (sk 15)) W41 skb4 ty80  ) dX11_head_145 kV_X11_263 rfl ty80 rfl rfl (by decide) ck_7 rfl (Nat.le_of_ble_eq_true rfl) ⟨(Nat.le_of_ble_eq_true rfl), (Nat.le_of_ble_eq_true rfl)⟩ hph pl14 (show 0 + 0 = 0 from rfl) (by decide) (fun rh46 Lh46 clh46 lnh46 ivh46 rvh46 h46 => ?_)
                    obtain ⟨f46, rfl, rfl, rfl, rfl, rfl, rfl, rgf46, exf46⟩ := h46
                    refine c_st (st2 := [.int (iI f46), .int (iI f41), .ref a0]) rfl ?_
                    refine d_callV (As := [.int (iI f41), .int (iI f46)]) (rest := []) C hM (C_refuseAt (a0 := a0) (x := f41) (y := f46) W41 skb4 ty77 (by omega) (by omega) ) dX11_head_148 kV_X11_266 rfl ty77 rfl rfl (by decide) ck_12 rfl (Nat.le_of_ble_eq_true rfl) ⟨(Nat.le_of_ble_eq_true rfl), (Nat.le_of_ble_eq_true rfl)⟩ hph pl14 (show 0 + 0 = 0 from rfl) (by decide) (fun rh47 Lh47 clh47 lnh47 ivh47 rvh47 h47 => ?_)
                    obtain ⟨f47, rfl, rfl, rfl, rfl, rfl, fl47, W47, rgf47, exf47, kp11f47, kp12f47, kp13f47, kp14f47, kp15f47, kp16f47⟩ := h47
                    have ri345 : 1 ≤ ivh41 a0 11 ∧ ivh41 a0 11 ≤ 100 := W41.int ty77 11
                    have ie537 : ivh41 a0 11 = ivh39 a0 11 := fl41.i ty77 rfl 11
                    have ie538 : ivh39 a0 11 = ivb4 a0 11 := fl39.i ty77 rfl 11
                    have ri346 : 1 ≤ ivh41 a0 12 ∧ ivh41 a0 12 ≤ 50 := W41.int ty77 12
                    have ie540 : ivh41 a0 12 = ivh39 a0 12 := fl41.i ty77 rfl 12
                    have ie541 : ivh39 a0 12 = ivb4 a0 12 := fl39.i ty77 rfl 12
                    have ri347 : (-2147483648) ≤ ivh41 a0 13 ∧ ivh41 a0 13 ≤ 2147483647 := W41.int ty77 13
                    have ie543 : ivh41 a0 13 = ivh39 a0 13 := fl41.i ty77 rfl 13
                    have ie544 : ivh39 a0 13 = ivb4 a0 13 := fl39.i ty77 rfl 13
                    have ri348 : (-2147483648) ≤ ivh41 a0 14 ∧ ivh41 a0 14 ≤ 2147483647 := W41.int ty77 14
                    have ie546 : ivh41 a0 14 = ivh39 a0 14 := fl41.i ty77 rfl 14
                    have ie547 : ivh39 a0 14 = ivb4 a0 14 := fl39.i ty77 rfl 14
                    have ri349 : (-2147483648) ≤ ivh41 a0 15 ∧ ivh41 a0 15 ≤ 2147483647 := W41.int ty77 15
                    have ie549 : ivh41 a0 15 = ivh39 a0 15 := fl41.i ty77 rfl 15
                    have ie550 : ivh39 a0 15 = ivb4 a0 15 := fl39.i ty77 rfl 15
                    have ri350 : (-2147483648) ≤ ivh41 a0 16 ∧ ivh41 a0 16 ≤ 2147483647 := W41.int ty77 16
                    have ie552 : ivh41 a0 16 = ivh39 a0 16 := fl41.i ty77 rfl 16
                    have ie553 : ivh39 a0 16 = ivb4 a0 16 := fl39.i ty77 rfl 16
                    have F37 := F32.call Xb4 fl47 rfl
                    have mr37 := MRK.call mr32 W41 skb4 XT.refl fl47 rfl rfl
                    refine c_st (st2 := [.int (iI f47)]) rfl ?_
                    have gk11f47 : ivh47 a0 11 = ivh41 a0 11 := kp11f47
                    have gk12f47 : ivh47 a0 12 = ivh41 a0 12 := kp12f47
                    have gk13f47 : ivh47 a0 13 = ivh41 a0 13 := kp13f47
                    have gk14f47 : ivh47 a0 14 = ivh41 a0 14 := kp14f47
                    have gk15f47 : ivh47 a0 15 = ivh41 a0 15 := kp15f47
                    have gk16f47 : ivh47 a0 16 = ivh41 a0 16 := kp16f47
                    have gf47 : f47 = -1 := exf47
                    have ri351 : 0 ≤ ivh47 (sk 2) 2 ∧ ivh47 (sk 2) 2 ≤ 3000 := W47.int ty78 2
                    have ie555 : ivh47 (sk 2) 2 = ivh41 (sk 2) 2 := fl47.i ty78 rfl 2
                    have ie556 : ivh41 (sk 2) 2 = ivh39 (sk 2) 2 := fl41.i ty78 rfl 2
                    have ri352 : 1 ≤ ivh47 a0 11 ∧ ivh47 a0 11 ≤ 100 := W47.int ty77 11
                    have ri353 : 1 ≤ ivh47 a0 12 ∧ ivh47 a0 12 ≤ 50 := W47.int ty77 12
                    have ri354 : (-2147483648) ≤ ivh47 a0 13 ∧ ivh47 a0 13 ≤ 2147483647 := W47.int ty77 13
                    have ri355 : (-2147483648) ≤ ivh47 a0 14 ∧ ivh47 a0 14 ≤ 2147483647 := W47.int ty77 14
                    have ri356 : (-2147483648) ≤ ivh47 a0 15 ∧ ivh47 a0 15 ≤ 2147483647 := W47.int ty77 15
                    have ri357 : (-2147483648) ≤ ivh47 a0 16 ∧ ivh47 a0 16 ≤ 2147483647 := W47.int ty77 16
                    exact c_iret C dX11_head_151 rfl (by decide) (rom0 hph pl14 (by decide)) ⟨f47, rfl, Xb4, F37, W47, ⟨by omega, by omega⟩, trivial, (by omega), (by omega), (by omega), (by omega), (by omega), (by omega), (by omega), (show rvb4 a0 9 = rv a0 9 from hkr9), (show rvb4 a0 10 = rv a0 10 from hkr10)⟩
                · subst oq4
                  refine c_lv (lv2 := [(3, .null), (2, .int (iI fl)), (0, .ref a0), (1, .int (iI i))]) [0, 1, 2, 3] rfl ?_
                  refine c_st (st2 := []) rfl ?_
                  refine c_aload_n (j := 2) (x := a0) C dX11_head_117 rfl ?_
                  refine c_iconst C dX11_head_118 ?_
                  refine d_callV (As := [.int (iI 3)]) (rest := []) C hM (C_refuse (a0 := a0) (x := 3) W39 skb4 ty77 ⟨by decide, by decide⟩ ) dX11_head_119 kV_X11_102 rfl ty77 rfl rfl (by decide) ck_12 rfl (Nat.le_of_ble_eq_true rfl) ⟨(Nat.le_of_ble_eq_true rfl), (Nat.le_of_ble_eq_true rfl)⟩ hph pl14 (show 0 + 0 = 0 from rfl) (by decide) (fun rh48 Lh48 clh48 lnh48 ivh48 rvh48 h48 => ?_)
                  obtain ⟨f48, rfl, rfl, rfl, rfl, rfl, fl48, W48, rgf48, exf48, kp11f48, kp12f48, kp13f48, kp14f48, kp15f48, kp16f48⟩ := h48
                  have ri358 : 1 ≤ ivh39 a0 11 ∧ ivh39 a0 11 ≤ 100 := W39.int ty77 11
                  have ie563 : ivh39 a0 11 = ivb4 a0 11 := fl39.i ty77 rfl 11
                  have ri359 : 1 ≤ ivh39 a0 12 ∧ ivh39 a0 12 ≤ 50 := W39.int ty77 12
                  have ie565 : ivh39 a0 12 = ivb4 a0 12 := fl39.i ty77 rfl 12
                  have ri360 : (-2147483648) ≤ ivh39 a0 13 ∧ ivh39 a0 13 ≤ 2147483647 := W39.int ty77 13
                  have ie567 : ivh39 a0 13 = ivb4 a0 13 := fl39.i ty77 rfl 13
                  have ri361 : (-2147483648) ≤ ivh39 a0 14 ∧ ivh39 a0 14 ≤ 2147483647 := W39.int ty77 14
                  have ie569 : ivh39 a0 14 = ivb4 a0 14 := fl39.i ty77 rfl 14
                  have ri362 : (-2147483648) ≤ ivh39 a0 15 ∧ ivh39 a0 15 ≤ 2147483647 := W39.int ty77 15
                  have ie571 : ivh39 a0 15 = ivb4 a0 15 := fl39.i ty77 rfl 15
                  have ri363 : (-2147483648) ≤ ivh39 a0 16 ∧ ivh39 a0 16 ≤ 2147483647 := W39.int ty77 16
                  have ie573 : ivh39 a0 16 = ivb4 a0 16 := fl39.i ty77 rfl 16
                  have F38 := F31.call Xb4 fl48 rfl
                  have mr38 := MRK.call mr31 W39 skb4 XT.refl fl48 rfl rfl
                  refine c_st (st2 := [.int (iI f48)]) rfl ?_
                  have gk11f48 : ivh48 a0 11 = ivh39 a0 11 := kp11f48
                  have gk12f48 : ivh48 a0 12 = ivh39 a0 12 := kp12f48
                  have gk13f48 : ivh48 a0 13 = ivh39 a0 13 := kp13f48
                  have gk14f48 : ivh48 a0 14 = ivh39 a0 14 := kp14f48
                  have gk15f48 : ivh48 a0 15 = ivh39 a0 15 := kp15f48
                  have gk16f48 : ivh48 a0 16 = ivh39 a0 16 := kp16f48
                  have gf48 : f48 = -1 := exf48
                  have ri364 : 0 ≤ ivh48 (sk 2) 2 ∧ ivh48 (sk 2) 2 ≤ 3000 := W48.int ty78 2
                  have ie575 : ivh48 (sk 2) 2 = ivh39 (sk 2) 2 := fl48.i ty78 rfl 2
                  have ri365 : 1 ≤ ivh48 a0 11 ∧ ivh48 a0 11 ≤ 100 := W48.int ty77 11
                  have ri366 : 1 ≤ ivh48 a0 12 ∧ ivh48 a0 12 ≤ 50 := W48.int ty77 12
                  have ri367 : (-2147483648) ≤ ivh48 a0 13 ∧ ivh48 a0 13 ≤ 2147483647 := W48.int ty77 13
                  have ri368 : (-2147483648) ≤ ivh48 a0 14 ∧ ivh48 a0 14 ≤ 2147483647 := W48.int ty77 14
                  have ri369 : (-2147483648) ≤ ivh48 a0 15 ∧ ivh48 a0 15 ≤ 2147483647 := W48.int ty77 15
                  have ri370 : (-2147483648) ≤ ivh48 a0 16 ∧ ivh48 a0 16 ≤ 2147483647 := W48.int ty77 16
                  exact c_iret C dX11_head_122 rfl (by decide) (rom0 hph pl14 (by decide)) ⟨f48, rfl, Xb4, F38, W48, ⟨by omega, by omega⟩, trivial, (by omega), (by omega), (by omega), (by omega), (by omega), (by omega), (by omega), (show rvb4 a0 9 = rv a0 9 from hkr9), (show rvb4 a0 10 = rv a0 10 from hkr10)⟩
              · refine c_aload_n (j := 2) (x := a0) C dX11_head_97 rfl ?_
                refine c_bipush (z := 6) C dX11_head_98 (by decide) ?_
                refine d_callV (As := [.int (iI 6)]) (rest := []) C hM (C_refuse (a0 := a0) (x := 6) W39 skb4 ty77 ⟨by decide, by decide⟩ ) dX11_head_100 kV_X11_102 rfl ty77 rfl rfl (by decide) ck_12 rfl (Nat.le_of_ble_eq_true rfl) ⟨(Nat.le_of_ble_eq_true rfl), (Nat.le_of_ble_eq_true rfl)⟩ hph pl14 (show 0 + 0 = 0 from rfl) (by decide) (fun rh49 Lh49 clh49 lnh49 ivh49 rvh49 h49 => ?_)
                obtain ⟨f49, rfl, rfl, rfl, rfl, rfl, fl49, W49, rgf49, exf49, kp11f49, kp12f49, kp13f49, kp14f49, kp15f49, kp16f49⟩ := h49
                have ri371 : 1 ≤ ivh39 a0 11 ∧ ivh39 a0 11 ≤ 100 := W39.int ty77 11
                have ie582 : ivh39 a0 11 = ivb4 a0 11 := fl39.i ty77 rfl 11
                have ri372 : 1 ≤ ivh39 a0 12 ∧ ivh39 a0 12 ≤ 50 := W39.int ty77 12
                have ie584 : ivh39 a0 12 = ivb4 a0 12 := fl39.i ty77 rfl 12
                have ri373 : (-2147483648) ≤ ivh39 a0 13 ∧ ivh39 a0 13 ≤ 2147483647 := W39.int ty77 13
                have ie586 : ivh39 a0 13 = ivb4 a0 13 := fl39.i ty77 rfl 13
                have ri374 : (-2147483648) ≤ ivh39 a0 14 ∧ ivh39 a0 14 ≤ 2147483647 := W39.int ty77 14
                have ie588 : ivh39 a0 14 = ivb4 a0 14 := fl39.i ty77 rfl 14
                have ri375 : (-2147483648) ≤ ivh39 a0 15 ∧ ivh39 a0 15 ≤ 2147483647 := W39.int ty77 15
                have ie590 : ivh39 a0 15 = ivb4 a0 15 := fl39.i ty77 rfl 15
                have ri376 : (-2147483648) ≤ ivh39 a0 16 ∧ ivh39 a0 16 ≤ 2147483647 := W39.int ty77 16
                have ie592 : ivh39 a0 16 = ivb4 a0 16 := fl39.i ty77 rfl 16
                have F39 := F31.call Xb4 fl49 rfl
                have mr39 := MRK.call mr31 W39 skb4 XT.refl fl49 rfl rfl
                refine c_st (st2 := [.int (iI f49)]) rfl ?_
                have gk11f49 : ivh49 a0 11 = ivh39 a0 11 := kp11f49
                have gk12f49 : ivh49 a0 12 = ivh39 a0 12 := kp12f49
                have gk13f49 : ivh49 a0 13 = ivh39 a0 13 := kp13f49
                have gk14f49 : ivh49 a0 14 = ivh39 a0 14 := kp14f49
                have gk15f49 : ivh49 a0 15 = ivh39 a0 15 := kp15f49
                have gk16f49 : ivh49 a0 16 = ivh39 a0 16 := kp16f49
                have gf49 : f49 = -1 := exf49
                have ri377 : 0 ≤ ivh49 (sk 2) 2 ∧ ivh49 (sk 2) 2 ≤ 3000 := W49.int ty78 2
                have ie594 : ivh49 (sk 2) 2 = ivh39 (sk 2) 2 := fl49.i ty78 rfl 2
                have ri378 : 1 ≤ ivh49 a0 11 ∧ ivh49 a0 11 ≤ 100 := W49.int ty77 11
                have ri379 : 1 ≤ ivh49 a0 12 ∧ ivh49 a0 12 ≤ 50 := W49.int ty77 12
                have ri380 : (-2147483648) ≤ ivh49 a0 13 ∧ ivh49 a0 13 ≤ 2147483647 := W49.int ty77 13
                have ri381 : (-2147483648) ≤ ivh49 a0 14 ∧ ivh49 a0 14 ≤ 2147483647 := W49.int ty77 14
                have ri382 : (-2147483648) ≤ ivh49 a0 15 ∧ ivh49 a0 15 ≤ 2147483647 := W49.int ty77 15
                have ri383 : (-2147483648) ≤ ivh49 a0 16 ∧ ivh49 a0 16 ≤ 2147483647 := W49.int ty77 16
                exact c_iret C dX11_head_103 rfl (by decide) (rom0 hph pl14 (by decide)) ⟨f49, rfl, Xb4, F39, W49, ⟨by omega, by omega⟩, trivial, (by omega), (by omega), (by omega), (by omega), (by omega), (by omega), (by omega), (show rvb4 a0 9 = rv a0 9 from hkr9), (show rvb4 a0 10 = rv a0 10 from hkr10)⟩
            · refine c_aload_n (j := 2) (x := a0) C dX11_head_64 rfl ?_
              obtain ⟨rb41, rq41, trb41⟩ := Wb4.ref ty77 6 rfl rfl rfl
              have erb41 := Wb4.sk trb41 (by decide) rfl
              subst erb41
              refine c_getr (k := 6) C ck_12 dX11_head_65 w2_50 (by decide) ty77 rfl rfl (by decide) rfl rq41 ?_
              refine c_st (st2 := [.ref (sk 15)]) rfl ?_
              refine c_aload_n (j := 2) (x := a0) C dX11_head_68 rfl ?_
              refine c_getr (k := 0) C ck_12 dX11_head_69 w2_44 (by decide) ty77 rfl rfl (by decide) rfl rq32 ?_
              refine c_st (st2 := [.ref (sk 2), .ref (sk 15)]) rfl ?_
              refine c_iload_n (j := 1) C dX11_head_72 rfl ?_
              have pl18 := Phi.le Wb4 skb4
              refine d_callV (As := [.int (iI k)]) (rest := [.ref (sk 15)]) C hM (C_at_2 (a0 := (sk 2)) (i := k) Wb4 skb4 ty78 (by omega) ) dX11_head_73 kV_X11_224 rfl ty78 rfl rfl (by decide) ck_2 rfl (Nat.le_of_ble_eq_true rfl) ⟨(Nat.le_of_ble_eq_true rfl), (Nat.le_of_ble_eq_true rfl)⟩ hph pl18 (show 0 + 0 = 0 from rfl) (by decide) (fun rh50 Lh50 clh50 lnh50 ivh50 rvh50 h50 => ?_)
              obtain ⟨f50, rfl, rfl, rfl, rfl, rfl, rfl, rgf50, exf50⟩ := h50
              refine c_st (st2 := [.int (iI f50), .ref (sk 15)]) rfl ?_
              have gf50 : ((0 ≤ k ∧ k < ivb4 (sk 2) 2) ∨ f50 = 0) ∧ ∀ ss, CT ivb4 rvb4 (sk 2) ss → 0 ≤ k → k < ivb4 (sk 2) 2 → f50 = ss k.toNat := exf50
              refine c_iload_n (j := 1) C dX11_head_76 rfl ?_
              have ty102 := Xb4.ty tsk15
              refine d_callV (As := [.int (iI f50), .int (iI k)]) (rest := []) C hM (C_put (a0 := (sk 15)) (x := f50) (y := k) Wb4 skb4 ty102 (by omega) (by omega) ) dX11_head_77 kV_X11_273 rfl ty102 rfl rfl (by decide) ck_7 rfl (Nat.le_of_ble_eq_true rfl) ⟨(Nat.le_of_ble_eq_true rfl), (Nat.le_of_ble_eq_true rfl)⟩ hph pl18 (show 0 + 0 = 0 from rfl) (by decide) (fun rh51 Lh51 clh51 lnh51 ivh51 rvh51 h51 => ?_)
              obtain ⟨rfl, rfl, rfl, rfl, rfl, fl51, W51, exf51⟩ := h51
              have F40 := Fb4.call Xb4 fl51 rfl
              have mr40 := MRK.call mrb4 Wb4 skb4 XT.refl fl51 rfl rfl
              refine c_st (st2 := []) rfl ?_
              refine c_iinc (z := k) (j := 1) (lv2 := [(3, .int (iI (k + 1))), (2, .int (iI fl)), (0, .ref a0), (1, .int (iI i))]) C dX11_head_80 rfl (by decide) rfl ?_
              refine c_goto (tgt := 49) C dX11_head_83 (by decide) ?_
              have ri384 : 1 ≤ ivh51 a0 11 ∧ ivh51 a0 11 ≤ 100 := W51.int ty77 11
              have ie601 : ivh51 a0 11 = ivb4 a0 11 := fl51.i ty77 rfl 11
              have ri385 : 1 ≤ ivh51 a0 12 ∧ ivh51 a0 12 ≤ 50 := W51.int ty77 12
              have ie603 : ivh51 a0 12 = ivb4 a0 12 := fl51.i ty77 rfl 12
              have ri386 : (-2147483648) ≤ ivh51 a0 13 ∧ ivh51 a0 13 ≤ 2147483647 := W51.int ty77 13
              have ie605 : ivh51 a0 13 = ivb4 a0 13 := fl51.i ty77 rfl 13
              have ri387 : (-2147483648) ≤ ivh51 a0 14 ∧ ivh51 a0 14 ≤ 2147483647 := W51.int ty77 14
              have ie607 : ivh51 a0 14 = ivb4 a0 14 := fl51.i ty77 rfl 14
              have ri388 : (-2147483648) ≤ ivh51 a0 15 ∧ ivh51 a0 15 ≤ 2147483647 := W51.int ty77 15
              have ie609 : ivh51 a0 15 = ivb4 a0 15 := fl51.i ty77 rfl 15
              have ri389 : (-2147483648) ≤ ivh51 a0 16 ∧ ivh51 a0 16 ≤ 2147483647 := W51.int ty77 16
              have ie611 : ivh51 a0 16 = ivb4 a0 16 := fl51.i ty77 rfl 16
              refine c_lv (lv2 := [(2, .int (iI fl)), (3, .int (iI (k + 1))), (0, .ref a0), (1, .int (iI i))]) [1, 0, 2, 3] rfl ?_
              exact ih4  fl (k + 1) _ _ _ _ _ (by omega) Xb4 W51 F40  (by omega) (by omega) (by show ivh51 a0 11 = iv a0 11; omega) (by show ivh51 a0 12 = iv a0 12; omega) (by show ivh51 a0 13 = iv a0 13; omega) (by show ivh51 a0 14 = iv a0 14; omega) (by show ivh51 a0 15 = iv a0 15; omega) (by show ivh51 a0 16 = iv a0 16; omega) (show rvb4 a0 9 = rv a0 9 from hkr9) (show rvb4 a0 10 = rv a0 10 from hkr10)
      have ri390 : 1 ≤ ivh27 a0 11 ∧ ivh27 a0 11 ≤ 100 := W27.int t_a0 11
      have ie613 : ivh27 a0 11 = iv a0 11 := fl27.i t_a0 rfl 11
      have ri391 : 1 ≤ ivh27 a0 12 ∧ ivh27 a0 12 ≤ 50 := W27.int t_a0 12
      have ie614 : ivh27 a0 12 = iv a0 12 := fl27.i t_a0 rfl 12
      have ri392 : (-2147483648) ≤ ivh27 a0 13 ∧ ivh27 a0 13 ≤ 2147483647 := W27.int t_a0 13
      have ie615 : ivh27 a0 13 = iv a0 13 := fl27.i t_a0 rfl 13
      have ri393 : (-2147483648) ≤ ivh27 a0 14 ∧ ivh27 a0 14 ≤ 2147483647 := W27.int t_a0 14
      have ie616 : ivh27 a0 14 = iv a0 14 := fl27.i t_a0 rfl 14
      have ri394 : (-2147483648) ≤ ivh27 a0 15 ∧ ivh27 a0 15 ≤ 2147483647 := W27.int t_a0 15
      have ie617 : ivh27 a0 15 = iv a0 15 := fl27.i t_a0 rfl 15
      have ri395 : (-2147483648) ≤ ivh27 a0 16 ∧ ivh27 a0 16 ≤ 2147483647 := W27.int t_a0 16
      have ie618 : ivh27 a0 16 = iv a0 16 := fl27.i t_a0 rfl 16
      refine c_lv (lv2 := [(2, .int (iI 0)), (3, .int (iI 0)), (0, .ref a0), (1, .int (iI i))]) [1, 0, 2, 3] rfl ?_
      exact Lp4 3003 0 0 _ _ _ _ _ (by omega) hX0 W27 F21  (by omega) (by omega) (by show ivh27 a0 11 = iv a0 11; omega) (by show ivh27 a0 12 = iv a0 12; omega) (by show ivh27 a0 13 = iv a0 13; omega) (by show ivh27 a0 14 = iv a0 14; omega) (by show ivh27 a0 15 = iv a0 15; omega) (by show ivh27 a0 16 = iv a0 16; omega) rfl rfl
    · refine c_iconst C dX11_head_34 ?_
      refine c_goto (tgt := 39) C dX11_head_35 (by decide) ?_
      refine c_istore_n (lv2 := [(2, .int (iI 1)), (0, .ref a0), (1, .int (iI i))]) C dX11_head_39 (by decide) rfl ?_
      refine c_aload_n (j := 1) (x := a0) C dX11_head_40 rfl ?_
      obtain ⟨rb42, rq42, trb42⟩ := hW.ref t_a0 6 rfl rfl rfl
      have erb42 := hW.sk trb42 (by decide) rfl
      subst erb42
      refine c_getr (k := 6) C ck_12 dX11_head_41 w2_50 (by decide) t_a0 rfl rfl (by decide) rfl rq42 ?_
      refine c_st (st2 := [.ref (sk 15)]) rfl ?_
      refine d_callV (As := []) (rest := []) C hM (C_wclear (a0 := (sk 15)) hW hS tsk15  ) dX11_head_44 kV_X11_272 rfl tsk15 rfl rfl (by decide) ck_7 rfl (Nat.le_of_ble_eq_true rfl) ⟨(Nat.le_of_ble_eq_true rfl), (Nat.le_of_ble_eq_true rfl)⟩ hph hph (show 0 + 0 = 0 from rfl) (by decide) (fun rh52 Lh52 clh52 lnh52 ivh52 rvh52 h52 => ?_)
      obtain ⟨rfl, rfl, rfl, rfl, rfl, fl52, W52, exf52⟩ := h52
      have F41 := hF0.call hX0 fl52 rfl
      have mr41 := MRK.call hmr hW hS XT.refl fl52 rfl rfl
      refine c_st (st2 := []) rfl ?_
      refine c_iconst C dX11_head_47 ?_
      refine c_istore_n (lv2 := [(3, .int (iI 0)), (2, .int (iI 1)), (0, .ref a0), (1, .int (iI i))]) C dX11_head_48 (by decide) rfl ?_
      have Lp7 : ∀ (nn : Nat) (fl k : Int) (Lb7 : List Nat) (clb7 lnb7 : Nat → Nat) (ivb7 : Nat → Nat → Int) (rvb7 : Nat → Nat → Option Nat) , 3001 - k < (nn : Int) → XT L cl ln Lb7 clb7 lnb7 → WT (g0 G) sk Lb7 clb7 lnb7 ivb7 rvb7 → fT [1, 2, 5, 35, 15, 50, 51, 52, 53, 54, 55] L cl iv rv ivb7 rvb7 → (fl = 0 ∨ fl = 1) → (0 ≤ k ∧ k ≤ 3000) → (ivb7 a0 11 = iv a0 11) → (ivb7 a0 12 = iv a0 12) → (ivb7 a0 13 = iv a0 13) → (ivb7 a0 14 = iv a0 14) → (ivb7 a0 15 = iv a0 15) → (ivb7 a0 16 = iv a0 16) → (rvb7 a0 9 = rv a0 9) → (rvb7 a0 10 = rv a0 10) → cw p l e 8 ((PHM) + 0 - ((Phi (g0 G) sk) ln rv)) s m args below meth c G A 6 (MQ below (Qu G A (Qp G (Phi (g0 G) sk) ((Phi (g0 G) sk) ln rv) 0 (fun v L2 cl2 ln2 iv2 rv2 => ∃ f : Int, v = some (.int (iI f)) ∧ XT L cl ln L2 cl2 ln2 ∧ fT [1, 2, 5, 35, 15, 50, 51, 52, 53, 54, 55] L cl iv rv iv2 rv2 ∧ WT (g0 G) sk L2 cl2 ln2 iv2 rv2 ∧ (-2147483648 ≤ f ∧ f ≤ 2147483647) ∧ (True) ∧ iv2 a0 11 = iv a0 11 ∧ iv2 a0 12 = iv a0 12 ∧ iv2 a0 13 = iv a0 13 ∧ iv2 a0 14 = iv a0 14 ∧ iv2 a0 15 = iv a0 15 ∧ iv2 a0 16 = iv a0 16 ∧ iv2 (sk 2) 2 = 0 ∧ rv2 a0 9 = rv a0 9 ∧ rv2 a0 10 = rv a0 10))) args s (((PHM) + 0 - ((Phi (g0 G) sk) ln rv)) / 16) ((PHM) + 0 - ((Phi (g0 G) sk) ln rv)) A) (Phi (g0 G) sk) ((Phi (g0 G) sk) ln rv) Lb7 clb7 lnb7 ivb7 rvb7 0 49 [(2, .int (iI fl)), (3, .int (iI k)), (0, .ref a0), (1, .int (iI i))] [] := by
        intro nn
        induction nn with
        | zero =>
          intro  fl k Lb7 clb7 lnb7 ivb7 rvb7 hm Xb7 Wb7 Fb7  hfl hk hkp11 hkp12 hkp13 hkp14 hkp15 hkp16 hkr9 hkr10
          have skb7 := Xb7.skl hS
          exact absurd hm (by omega)
        | succ nn ih7 =>
          intro  fl k Lb7 clb7 lnb7 ivb7 rvb7 hm Xb7 Wb7 Fb7  hfl hk hkp11 hkp12 hkp13 hkp14 hkp15 hkp16 hkr9 hkr10
          have skb7 := Xb7.skl hS
          have mrb7 := MRK.call hmr hW hS Xb7 Fb7 rfl rfl
          refine c_iload_n (j := 0) C dX11_head_49 rfl ?_
          refine c_if_eq (tgt := 86) C ⟨by omega, by omega⟩ dX11_head_50 (by decide) (fun c23 => ?_) (fun c23 => ?_)
          · refine c_aload_n (j := 2) (x := a0) C dX11_head_86 rfl ?_
            have ty103 := Xb7.ty t_a0
            obtain ⟨rb43, rq43, trb43⟩ := Wb7.ref ty103 0 rfl rfl rfl
            have erb43 := Wb7.sk trb43 (by decide) rfl
            subst erb43
            refine c_getr (k := 0) C ck_12 dX11_head_87 w2_44 (by decide) ty103 rfl rfl (by decide) rfl rq43 ?_
            refine c_st (st2 := [.ref (sk 2)]) rfl ?_
            have ty104 := Xb7.ty tsk2
            have pl19 := Phi.le Wb7 skb7
            refine d_callV (As := []) (rest := []) C hM (C_clear_2 (a0 := (sk 2)) Wb7 skb7 ty104  ) dX11_head_90 kV_X11_164 rfl ty104 rfl rfl (by decide) ck_2 rfl (Nat.le_of_ble_eq_true rfl) ⟨(Nat.le_of_ble_eq_true rfl), (Nat.le_of_ble_eq_true rfl)⟩ hph pl19 (show 0 + 0 = 0 from rfl) (by decide) (fun rh53 Lh53 clh53 lnh53 ivh53 rvh53 h53 => ?_)
            obtain ⟨rfl, rfl, rfl, rfl, rfl, fl53, W53, exf53⟩ := h53
            have F42 := Fb7.call Xb7 fl53 rfl
            have mr42 := MRK.call mrb7 Wb7 skb7 XT.refl fl53 rfl rfl
            refine c_st (st2 := []) rfl ?_
            have ri396 : 0 ≤ ivh53 (sk 2) 2 ∧ ivh53 (sk 2) 2 ≤ 3000 := W53.int ty104 2
            have gf53 : ivh53 (sk 2) 2 = 0 := exf53
            refine c_iload_n (j := 0) C dX11_head_93 rfl ?_
            refine c_if_ne (tgt := 104) C ⟨by omega, by omega⟩ dX11_head_94 (by decide) (fun c24 => ?_) (fun c24 => ?_)
            · refine c_aload_n (j := 2) (x := a0) C dX11_head_104 rfl ?_
              obtain ⟨rb44, rq44, trb44⟩ := W53.ref ty103 4 rfl rfl rfl
              have erb44 := W53.sk trb44 (by decide) rfl
              subst erb44
              refine c_getr (k := 4) C ck_12 dX11_head_105 w2_48 (by decide) ty103 rfl rfl (by decide) rfl rq44 ?_
              refine c_st (st2 := [.ref (sk 13)]) rfl ?_
              refine c_iload_n (j := 3) C dX11_head_108 rfl ?_
              have ty105 := Xb7.ty tsk13
              refine d_callV (As := [.int (iI i)]) (rest := []) C hM (C_whole (a0 := (sk 13)) (i := i) W53 skb7 ty105 (by omega) mr42) dX11_head_109 kV_X11_231 rfl ty105 rfl rfl (by decide) ck_11 rfl (Nat.le_of_ble_eq_true rfl) ⟨(Nat.le_of_ble_eq_true rfl), (Nat.le_of_ble_eq_true rfl)⟩ hph pl19 (show 0 + 0 = 0 from rfl) (by decide) (fun rh54 Lh54 clh54 lnh54 ivh54 rvh54 h54 => ?_)
              obtain ⟨f54, rfl, rfl, rfl, rfl, rfl, rfl, rgf54, exf54⟩ := h54
              refine c_st (st2 := [(va_rf f54)]) rfl ?_
              refine c_astorer_n (r := f54) (lv2 := [(3, (va_rf f54)), (2, .int (iI fl)), (0, .ref a0), (1, .int (iI i))]) C dX11_head_112 (by decide) rfl ?_
              refine c_aloadr_n (j := 0) (r := f54) C dX11_head_113 rfl ?_
              refine c_ifnonnull (r := f54) (tgt := 123) C dX11_head_114 (by decide) (fun ob5 oq5 => ?_) (fun oq5 => ?_)
              · subst oq5
                have tob5 := rgf54 ob5 rfl
                refine c_lv (lv2 := [(3, .ref ob5), (2, .int (iI fl)), (0, .ref a0), (1, .int (iI i))]) [0, 1, 2, 3] rfl ?_
                refine c_st (st2 := []) rfl ?_
                refine c_aload_n (j := 2) (x := a0) C dX11_head_123 rfl ?_
                obtain ⟨rb45, rq45, trb45⟩ := W53.ref ty103 6 rfl rfl rfl
                have erb45 := W53.sk trb45 (by decide) rfl
                subst erb45
                refine c_getr (k := 6) C ck_12 dX11_head_124 w2_50 (by decide) ty103 rfl rfl (by decide) rfl rq45 ?_
                refine c_st (st2 := [.ref (sk 15)]) rfl ?_
                refine c_aload_n (j := 0) (x := ob5) C dX11_head_127 rfl ?_
                have ty106 := Xb7.ty tsk15
                have ri397 : 0 ≤ ivh53 (sk 15) 4 ∧ ivh53 (sk 15) 4 ≤ 500 := W53.int ty106 4
                have ie620 : ivh53 (sk 15) 4 = ivb7 (sk 15) 4 := fl53.i ty106 rfl 4
                refine d_callV (As := [.ref ob5]) (rest := []) C hM (C_setBy (a0 := (sk 15)) (a1 := ob5) W53 skb7 ty106 tob5  ) dX11_head_128 kV_X11_253 rfl ty106 rfl rfl (by decide) ck_7 rfl (Nat.le_of_ble_eq_true rfl) ⟨(Nat.le_of_ble_eq_true rfl), (Nat.le_of_ble_eq_true rfl)⟩ hph pl19 (show 0 + 0 = 0 from rfl) (by decide) (fun rh55 Lh55 clh55 lnh55 ivh55 rvh55 h55 => ?_)
                obtain ⟨f55, rfl, rfl, rfl, rfl, rfl, fl55, W55, rgf55, exf55⟩ := h55
                have F43 := F42.call Xb7 fl55 rfl
                have mr43 := MRK.call mr42 W53 skb7 XT.refl fl55 rfl rfl
                refine c_st (st2 := [.int (iI f55)]) rfl ?_
                have ri398 : 0 ≤ ivh55 (sk 15) 4 ∧ ivh55 (sk 15) 4 ≤ 500 := W55.int ty106 4
                have ri399 : 0 ≤ ivh55 (sk 15) 7 ∧ ivh55 (sk 15) 7 ≤ 100000 := W55.int ty106 7
                have gf55 : (f55 = 0 ∨ f55 = 6 ∨ f55 = 7) ∧ ivh55 (sk 15) 4 = ivh53 (sk 15) 4 ∧ (f55 = 0 → ivh55 (sk 15) 7 ≤ 200) := exf55
                refine c_istore (lv2 := [(4, .int (iI f55)), (3, .ref ob5), (2, .int (iI fl)), (0, .ref a0), (1, .int (iI i))]) C dX11_head_131 (by decide) rfl ?_
                refine c_iload (j := 0) C dX11_head_133 rfl ?_
                refine c_if_eq (tgt := 152) C ⟨by omega, by omega⟩ dX11_head_135 (by decide) (fun c25 => ?_) (fun c25 => ?_)
                · refine c_aload_n (j := 3) (x := a0) C dX11_head_152 rfl ?_
                  obtain ⟨rb46, rq46, trb46⟩ := W55.ref ty103 3 rfl rfl rfl
                  have erb46 := W55.sk trb46 (by decide) rfl
                  subst erb46
                  refine c_getr (k := 3) C ck_12 dX11_head_153 w2_47 (by decide) ty103 rfl rfl (by decide) rfl rq46 ?_
                  refine c_st (st2 := [.ref (sk 5)]) rfl ?_
                  have ty107 := Xb7.ty tsk5
                  refine d_callV (As := []) (rest := []) C hM (C_clear_5 (a0 := (sk 5)) W55 skb7 ty107  ) dX11_head_156 kV_X11_164 rfl ty107 rfl rfl (by decide) ck_2 rfl (Nat.le_of_ble_eq_true rfl) ⟨(Nat.le_of_ble_eq_true rfl), (Nat.le_of_ble_eq_true rfl)⟩ hph pl19 (show 0 + 0 = 0 from rfl) (by decide) (fun rh56 Lh56 clh56 lnh56 ivh56 rvh56 h56 => ?_)
                  obtain ⟨rfl, rfl, rfl, rfl, rfl, fl56, W56, exf56⟩ := h56
                  have F44 := F43.call Xb7 fl56 rfl
                  have mr44 := MRK.call mr43 W55 skb7 XT.refl fl56 rfl rfl
                  refine c_st (st2 := []) rfl ?_
                  have ri400 : 0 ≤ ivh56 (sk 5) 2 ∧ ivh56 (sk 5) 2 ≤ 200 := W56.int ty107 2
                  have gf56 : ivh56 (sk 5) 2 = 0 := exf56
                  refine c_iconst C dX11_head_159 ?_
                  refine c_istore (lv2 := [(5, .int (iI 0)), (4, .int (iI f55)), (3, .ref ob5), (2, .int (iI fl)), (0, .ref a0), (1, .int (iI i))]) C dX11_head_160 (by decide) rfl ?_
                  have Lp8 : ∀ (nn : Nat) (k2 : Int) (Lb8 : List Nat) (clb8 lnb8 : Nat → Nat) (ivb8 : Nat → Nat → Int) (rvb8 : Nat → Nat → Option Nat) , 101 - k2 < (nn : Int) → XT L cl ln Lb8 clb8 lnb8 → WT (g0 G) sk Lb8 clb8 lnb8 ivb8 rvb8 → fT [1, 2, 5, 35, 15, 50, 51, 52, 53, 54, 55] L cl iv rv ivb8 rvb8 → (0 ≤ k2 ∧ k2 ≤ 100) → (ivb8 (sk 15) 7 ≤ 200) → (ivb8 (sk 2) 2 = 0) → (ivb8 a0 11 = iv a0 11) → (ivb8 a0 12 = iv a0 12) → (ivb8 a0 13 = iv a0 13) → (ivb8 a0 14 = iv a0 14) → (ivb8 a0 15 = iv a0 15) → (ivb8 a0 16 = iv a0 16) → (rvb8 a0 9 = rv a0 9) → (rvb8 a0 10 = rv a0 10) → cw p l e 8 ((PHM) + 0 - ((Phi (g0 G) sk) ln rv)) s m args below meth c G A 6 (MQ below (Qu G A (Qp G (Phi (g0 G) sk) ((Phi (g0 G) sk) ln rv) 0 (fun v L2 cl2 ln2 iv2 rv2 => ∃ f : Int, v = some (.int (iI f)) ∧ XT L cl ln L2 cl2 ln2 ∧ fT [1, 2, 5, 35, 15, 50, 51, 52, 53, 54, 55] L cl iv rv iv2 rv2 ∧ WT (g0 G) sk L2 cl2 ln2 iv2 rv2 ∧ (-2147483648 ≤ f ∧ f ≤ 2147483647) ∧ (True) ∧ iv2 a0 11 = iv a0 11 ∧ iv2 a0 12 = iv a0 12 ∧ iv2 a0 13 = iv a0 13 ∧ iv2 a0 14 = iv a0 14 ∧ iv2 a0 15 = iv a0 15 ∧ iv2 a0 16 = iv a0 16 ∧ iv2 (sk 2) 2 = 0 ∧ rv2 a0 9 = rv a0 9 ∧ rv2 a0 10 = rv a0 10))) args s (((PHM) + 0 - ((Phi (g0 G) sk) ln rv)) / 16) ((PHM) + 0 - ((Phi (g0 G) sk) ln rv)) A) (Phi (g0 G) sk) ((Phi (g0 G) sk) ln rv) Lb8 clb8 lnb8 ivb8 rvb8 0 162 [(5, .int (iI k2)), (4, .int (iI f55)), (3, .ref ob5), (2, .int (iI fl)), (0, .ref a0), (1, .int (iI i))] [] := by
                    intro nn
                    induction nn with
                    | zero =>
                      intro  k2 Lb8 clb8 lnb8 ivb8 rvb8 hm Xb8 Wb8 Fb8  hk2 hco htz hkp11 hkp12 hkp13 hkp14 hkp15 hkp16 hkr9 hkr10
                      have skb8 := Xb8.skl hS
                      exact absurd hm (by omega)
                    | succ nn ih8 =>
                      intro  k2 Lb8 clb8 lnb8 ivb8 rvb8 hm Xb8 Wb8 Fb8  hk2 hco htz hkp11 hkp12 hkp13 hkp14 hkp15 hkp16 hkr9 hkr10
                      have skb8 := Xb8.skl hS
                      have mrb8 := MRK.call hmr hW hS Xb8 Fb8 rfl rfl
                      refine c_iload (j := 0) C dX11_head_162 rfl ?_
                      refine c_aload_n (j := 4) (x := a0) C dX11_head_164 rfl ?_
                      have ty108 := Xb8.ty t_a0
                      obtain ⟨rb47, rq47, trb47⟩ := Wb8.ref ty108 6 rfl rfl rfl
                      have erb47 := Wb8.sk trb47 (by decide) rfl
                      subst erb47
                      refine c_getr (k := 6) C ck_12 dX11_head_165 w2_50 (by decide) ty108 rfl rfl (by decide) rfl rq47 ?_
                      refine c_st (st2 := [.ref (sk 15), .int (iI k2)]) rfl ?_
                      have ty109 := Xb8.ty tsk15
                      have ri401 : 0 ≤ ivb8 (sk 15) 7 ∧ ivb8 (sk 15) 7 ≤ 100000 := Wb8.int ty109 7
                      refine c_get (k := 7) C ck_7 dX11_head_168 w1_149 (by decide) ty109 rfl rfl (by decide) rfl ?_
                      refine c_icmp_ge (tgt := 206) C ⟨by omega, by omega⟩ ⟨by omega, by omega⟩ dX11_head_171 (by decide) (fun c26 => ?_) (fun c26 => ?_)
                      · refine c_aload_n (j := 4) (x := a0) C dX11_head_206 rfl ?_
                        refine c_aload_n (j := 4) (x := a0) C dX11_head_207 rfl ?_
                        obtain ⟨rb48, rq48, trb48⟩ := Wb8.ref ty108 3 rfl rfl rfl
                        have erb48 := Wb8.sk trb48 (by decide) rfl
                        subst erb48
                        refine c_getr (k := 3) C ck_12 dX11_head_208 w2_47 (by decide) ty108 rfl rfl (by decide) rfl rq48 ?_
                        refine c_st (st2 := [.ref (sk 5), .ref a0]) rfl ?_
                        have ty110 := Xb8.ty tsk5
                        have ri402 : 0 ≤ ivb8 (sk 5) 2 ∧ ivb8 (sk 5) 2 ≤ 200 := Wb8.int ty110 2
                        refine c_get (k := 2) C ck_2 dX11_head_211 w1_44 (by decide) ty110 rfl rfl (by decide) rfl ?_
                        have pl20 := Phi.le Wb8 skb8
                        refine d_callV (As := [.int (iI (ivb8 (sk 5) 2))]) (rest := []) C hM (C_done (a0 := a0) (x := ivb8 (sk 5) 2) Wb8 skb8 ty108 (by omega) ) dX11_head_214 kV_X11_109 rfl ty108 rfl rfl (by decide) ck_12 rfl (Nat.le_of_ble_eq_true rfl) ⟨(Nat.le_of_ble_eq_true rfl), (Nat.le_of_ble_eq_true rfl)⟩ hph pl20 (show 0 + 0 = 0 from rfl) (by decide) (fun rh57 Lh57 clh57 lnh57 ivh57 rvh57 h57 => ?_)
                        obtain ⟨f57, rfl, rfl, rfl, rfl, rfl, fl57, W57, rgf57, exf57, kp11f57, kp12f57, kp13f57, kp14f57, kp15f57, kp16f57⟩ := h57
                        have ri403 : 1 ≤ ivb8 a0 11 ∧ ivb8 a0 11 ≤ 100 := Wb8.int ty108 11
                        have ri404 : 1 ≤ ivb8 a0 12 ∧ ivb8 a0 12 ≤ 50 := Wb8.int ty108 12
                        have ri405 : (-2147483648) ≤ ivb8 a0 13 ∧ ivb8 a0 13 ≤ 2147483647 := Wb8.int ty108 13
                        have ri406 : (-2147483648) ≤ ivb8 a0 14 ∧ ivb8 a0 14 ≤ 2147483647 := Wb8.int ty108 14
                        have ri407 : (-2147483648) ≤ ivb8 a0 15 ∧ ivb8 a0 15 ≤ 2147483647 := Wb8.int ty108 15
                        have ri408 : (-2147483648) ≤ ivb8 a0 16 ∧ ivb8 a0 16 ≤ 2147483647 := Wb8.int ty108 16
                        have F45 := Fb8.call Xb8 fl57 rfl
                        have mr45 := MRK.call mrb8 Wb8 skb8 XT.refl fl57 rfl rfl
                        refine c_st (st2 := [.int (iI f57)]) rfl ?_
                        have gk11f57 : ivh57 a0 11 = ivb8 a0 11 := kp11f57
                        have gk12f57 : ivh57 a0 12 = ivb8 a0 12 := kp12f57
                        have gk13f57 : ivh57 a0 13 = ivb8 a0 13 := kp13f57
                        have gk14f57 : ivh57 a0 14 = ivb8 a0 14 := kp14f57
                        have gk15f57 : ivh57 a0 15 = ivb8 a0 15 := kp15f57
                        have gk16f57 : ivh57 a0 16 = ivb8 a0 16 := kp16f57
                        have gf57 : f57 = (ivb8 (sk 5) 2) := exf57
                        have ty111 := Xb8.ty tsk2
                        have ri409 : 0 ≤ ivh57 (sk 2) 2 ∧ ivh57 (sk 2) 2 ≤ 3000 := W57.int ty111 2
                        have ie633 : ivh57 (sk 2) 2 = ivb8 (sk 2) 2 := fl57.i ty111 rfl 2
                        have ri410 : 1 ≤ ivh57 a0 11 ∧ ivh57 a0 11 ≤ 100 := W57.int ty108 11
                        have ri411 : 1 ≤ ivh57 a0 12 ∧ ivh57 a0 12 ≤ 50 := W57.int ty108 12
                        have ri412 : (-2147483648) ≤ ivh57 a0 13 ∧ ivh57 a0 13 ≤ 2147483647 := W57.int ty108 13
                        have ri413 : (-2147483648) ≤ ivh57 a0 14 ∧ ivh57 a0 14 ≤ 2147483647 := W57.int ty108 14
                        have ri414 : (-2147483648) ≤ ivh57 a0 15 ∧ ivh57 a0 15 ≤ 2147483647 := W57.int ty108 15
                        have ri415 : (-2147483648) ≤ ivh57 a0 16 ∧ ivh57 a0 16 ≤ 2147483647 := W57.int ty108 16
                        exact c_iret C dX11_head_217 rfl (by decide) (rom0 hph pl20 (by decide)) ⟨f57, rfl, Xb8, F45, W57, ⟨by omega, by omega⟩, trivial, (by omega), (by omega), (by omega), (by omega), (by omega), (by omega), (by omega), (show rvb8 a0 9 = rv a0 9 from hkr9), (show rvb8 a0 10 = rv a0 10 from hkr10)⟩
                      · refine c_iload (j := 0) C dX11_head_174 rfl ?_
                        refine c_aload_n (j := 4) (x := a0) C dX11_head_176 rfl ?_
                        have ri416 : 1 ≤ ivb8 a0 11 ∧ ivb8 a0 11 ≤ 100 := Wb8.int ty108 11
                        refine c_get (k := 11) C ck_12 dX11_head_177 w2_55 (by decide) ty108 rfl rfl (by decide) rfl ?_
                        refine c_icmp_ge (tgt := 206) C ⟨by omega, by omega⟩ ⟨by omega, by omega⟩ dX11_head_180 (by decide) (fun c27 => ?_) (fun c27 => ?_)
                        · refine c_aload_n (j := 4) (x := a0) C dX11_head_206 rfl ?_
                          refine c_aload_n (j := 4) (x := a0) C dX11_head_207 rfl ?_
                          obtain ⟨rb49, rq49, trb49⟩ := Wb8.ref ty108 3 rfl rfl rfl
                          have erb49 := Wb8.sk trb49 (by decide) rfl
                          subst erb49
                          refine c_getr (k := 3) C ck_12 dX11_head_208 w2_47 (by decide) ty108 rfl rfl (by decide) rfl rq49 ?_
                          refine c_st (st2 := [.ref (sk 5), .ref a0]) rfl ?_
                          have ty112 := Xb8.ty tsk5
                          have ri417 : 0 ≤ ivb8 (sk 5) 2 ∧ ivb8 (sk 5) 2 ≤ 200 := Wb8.int ty112 2
                          refine c_get (k := 2) C ck_2 dX11_head_211 w1_44 (by decide) ty112 rfl rfl (by decide) rfl ?_
                          have pl21 := Phi.le Wb8 skb8
                          refine d_callV (As := [.int (iI (ivb8 (sk 5) 2))]) (rest := []) C hM (C_done (a0 := a0) (x := ivb8 (sk 5) 2) Wb8 skb8 ty108 (by omega) ) dX11_head_214 kV_X11_109 rfl ty108 rfl rfl (by decide) ck_12 rfl (Nat.le_of_ble_eq_true rfl) ⟨(Nat.le_of_ble_eq_true rfl), (Nat.le_of_ble_eq_true rfl)⟩ hph pl21 (show 0 + 0 = 0 from rfl) (by decide) (fun rh58 Lh58 clh58 lnh58 ivh58 rvh58 h58 => ?_)
                          obtain ⟨f58, rfl, rfl, rfl, rfl, rfl, fl58, W58, rgf58, exf58, kp11f58, kp12f58, kp13f58, kp14f58, kp15f58, kp16f58⟩ := h58
                          have ri418 : 1 ≤ ivb8 a0 12 ∧ ivb8 a0 12 ≤ 50 := Wb8.int ty108 12
                          have ri419 : (-2147483648) ≤ ivb8 a0 13 ∧ ivb8 a0 13 ≤ 2147483647 := Wb8.int ty108 13
                          have ri420 : (-2147483648) ≤ ivb8 a0 14 ∧ ivb8 a0 14 ≤ 2147483647 := Wb8.int ty108 14
                          have ri421 : (-2147483648) ≤ ivb8 a0 15 ∧ ivb8 a0 15 ≤ 2147483647 := Wb8.int ty108 15
                          have ri422 : (-2147483648) ≤ ivb8 a0 16 ∧ ivb8 a0 16 ≤ 2147483647 := Wb8.int ty108 16
                          have F46 := Fb8.call Xb8 fl58 rfl
                          have mr46 := MRK.call mrb8 Wb8 skb8 XT.refl fl58 rfl rfl
                          refine c_st (st2 := [.int (iI f58)]) rfl ?_
                          have gk11f58 : ivh58 a0 11 = ivb8 a0 11 := kp11f58
                          have gk12f58 : ivh58 a0 12 = ivb8 a0 12 := kp12f58
                          have gk13f58 : ivh58 a0 13 = ivb8 a0 13 := kp13f58
                          have gk14f58 : ivh58 a0 14 = ivb8 a0 14 := kp14f58
                          have gk15f58 : ivh58 a0 15 = ivb8 a0 15 := kp15f58
                          have gk16f58 : ivh58 a0 16 = ivb8 a0 16 := kp16f58
                          have gf58 : f58 = (ivb8 (sk 5) 2) := exf58
                          have ty113 := Xb8.ty tsk2
                          have ri423 : 0 ≤ ivh58 (sk 2) 2 ∧ ivh58 (sk 2) 2 ≤ 3000 := W58.int ty113 2
                          have ie648 : ivh58 (sk 2) 2 = ivb8 (sk 2) 2 := fl58.i ty113 rfl 2
                          have ri424 : 1 ≤ ivh58 a0 11 ∧ ivh58 a0 11 ≤ 100 := W58.int ty108 11
                          have ri425 : 1 ≤ ivh58 a0 12 ∧ ivh58 a0 12 ≤ 50 := W58.int ty108 12
                          have ri426 : (-2147483648) ≤ ivh58 a0 13 ∧ ivh58 a0 13 ≤ 2147483647 := W58.int ty108 13
                          have ri427 : (-2147483648) ≤ ivh58 a0 14 ∧ ivh58 a0 14 ≤ 2147483647 := W58.int ty108 14
                          have ri428 : (-2147483648) ≤ ivh58 a0 15 ∧ ivh58 a0 15 ≤ 2147483647 := W58.int ty108 15
                          have ri429 : (-2147483648) ≤ ivh58 a0 16 ∧ ivh58 a0 16 ≤ 2147483647 := W58.int ty108 16
                          exact c_iret C dX11_head_217 rfl (by decide) (rom0 hph pl21 (by decide)) ⟨f58, rfl, Xb8, F46, W58, ⟨by omega, by omega⟩, trivial, (by omega), (by omega), (by omega), (by omega), (by omega), (by omega), (by omega), (show rvb8 a0 9 = rv a0 9 from hkr9), (show rvb8 a0 10 = rv a0 10 from hkr10)⟩
                        · refine c_aload_n (j := 4) (x := a0) C dX11_head_183 rfl ?_
                          obtain ⟨rb50, rq50, trb50⟩ := Wb8.ref ty108 3 rfl rfl rfl
                          have erb50 := Wb8.sk trb50 (by decide) rfl
                          subst erb50
                          refine c_getr (k := 3) C ck_12 dX11_head_184 w2_47 (by decide) ty108 rfl rfl (by decide) rfl rq50 ?_
                          refine c_st (st2 := [.ref (sk 5)]) rfl ?_
                          refine c_aload_n (j := 4) (x := a0) C dX11_head_187 rfl ?_
                          refine c_getr (k := 6) C ck_12 dX11_head_188 w2_50 (by decide) ty108 rfl rfl (by decide) rfl rq47 ?_
                          refine c_st (st2 := [.ref (sk 15), .ref (sk 5)]) rfl ?_
                          obtain ⟨rb51, rq51, trb51⟩ := Wb8.ref ty109 6 rfl rfl rfl
                          have lnrb51 : 200 ≤ lnb8 rb51 ∧ lnb8 rb51 ≤ 200 := Wb8.len trb51 rfl
                          refine c_getr (k := 6) C ck_7 dX11_head_191 w1_146 (by decide) ty109 rfl rfl (by decide) rfl rq51 ?_
                          refine c_st (st2 := [.ref rb51, .ref (sk 5)]) rfl ?_
                          refine c_iload (j := 0) C dX11_head_194 rfl ?_
                          have ll5 : 200 ≤ lnb8 rb51 ∧ lnb8 rb51 ≤ 200 := Wb8.len trb51 rfl
                          refine c_iald C dX11_head_196 trb51 rfl (by omega) (by omega) (by omega) ?_
                          have ri430 : (-2147483648) ≤ ivb8 rb51 k2.toNat ∧ ivb8 rb51 k2.toNat ≤ 2147483647 := Wb8.int trb51 k2.toNat
                          have ty114 := Xb8.ty tsk5
                          have ri431 : 0 ≤ ivb8 (sk 5) 2 ∧ ivb8 (sk 5) 2 ≤ 200 := Wb8.int ty114 2
                          have pl22 := Phi.le Wb8 skb8
                          refine d_callV (As := [.int (iI (ivb8 rb51 k2.toNat))]) (rest := []) C hM (C_add_5 (a0 := (sk 5)) (x := ivb8 rb51 k2.toNat) Wb8 skb8 ty114 (by omega) ) dX11_head_197 kV_X11_112 rfl ty114 rfl rfl (by decide) ck_2 rfl (Nat.le_of_ble_eq_true rfl) ⟨(Nat.le_of_ble_eq_true rfl), (Nat.le_of_ble_eq_true rfl)⟩ hph pl22 (show 0 + 0 = 0 from rfl) (by decide) (fun rh59 Lh59 clh59 lnh59 ivh59 rvh59 h59 => ?_)
                          obtain ⟨rfl, xl59, fl59, W59, exf59⟩ := h59
                          have F47 := Fb8.call Xb8 fl59 rfl
                          have mr47 := MRK.call mrb8 Wb8 skb8 xl59 fl59 rfl rfl
                          have ty115 := Xb8.ty tsk2
                          have ty116 := Xb8.ty tsk3
                          have ty117 := Xb8.ty tsk4
                          have ty118 := Xb8.ty tsk13
                          have ty119 := Xb8.ty tsk14
                          have ty120 := Xb8.ty tsk16
                          have ty121 := Xb8.ty tsk17
                          have ty122 := Xb8.ty tsk22
                          have ty123 := Xb8.ty tsk23
                          have X5 := Xb8.trans xl59
                          have sk5 := xl59.skl skb8
                          refine c_st (st2 := []) rfl ?_
                          have ty124 := xl59.ty ty114
                          have ri432 : 0 ≤ ivh59 (sk 5) 2 ∧ ivh59 (sk 5) 2 ≤ 200 := W59.int ty124 2
                          have gf59 : ((ivh59 (sk 5) 2 = ivb8 (sk 5) 2 ∧ ivb8 (sk 5) 2 = 200) ∨ (ivh59 (sk 5) 2 = ivb8 (sk 5) 2 + 1 ∧ ivb8 (sk 5) 2 < 200)) := exf59
                          refine c_iinc (z := k2) (j := 0) (lv2 := [(5, .int (iI (k2 + 1))), (4, .int (iI f55)), (3, .ref ob5), (2, .int (iI fl)), (0, .ref a0), (1, .int (iI i))]) C dX11_head_200 rfl (by decide) rfl ?_
                          refine c_goto (tgt := 162) C dX11_head_203 (by decide) ?_
                          have ty125 := xl59.ty ty109
                          have ri433 : 0 ≤ ivh59 (sk 15) 7 ∧ ivh59 (sk 15) 7 ≤ 100000 := W59.int ty125 7
                          have ie659 : ivh59 (sk 15) 7 = ivb8 (sk 15) 7 := fl59.i ty109 rfl 7
                          have ty126 := xl59.ty ty115
                          have ri434 : 0 ≤ ivh59 (sk 2) 2 ∧ ivh59 (sk 2) 2 ≤ 3000 := W59.int ty126 2
                          have ie660 : ivh59 (sk 2) 2 = ivb8 (sk 2) 2 := fl59.i ty115 rfl 2
                          have ty127 := xl59.ty ty108
                          have ri435 : 1 ≤ ivh59 a0 11 ∧ ivh59 a0 11 ≤ 100 := W59.int ty127 11
                          have ie662 : ivh59 a0 11 = ivb8 a0 11 := fl59.i ty108 rfl 11
                          have ri436 : 1 ≤ ivh59 a0 12 ∧ ivh59 a0 12 ≤ 50 := W59.int ty127 12
                          have ie663 : ivh59 a0 12 = ivb8 a0 12 := fl59.i ty108 rfl 12
                          have ri437 : (-2147483648) ≤ ivh59 a0 13 ∧ ivh59 a0 13 ≤ 2147483647 := W59.int ty127 13
                          have ie665 : ivh59 a0 13 = ivb8 a0 13 := fl59.i ty108 rfl 13
                          have ri438 : (-2147483648) ≤ ivh59 a0 14 ∧ ivh59 a0 14 ≤ 2147483647 := W59.int ty127 14
                          have ie667 : ivh59 a0 14 = ivb8 a0 14 := fl59.i ty108 rfl 14
                          have ri439 : (-2147483648) ≤ ivh59 a0 15 ∧ ivh59 a0 15 ≤ 2147483647 := W59.int ty127 15
                          have ie669 : ivh59 a0 15 = ivb8 a0 15 := fl59.i ty108 rfl 15
                          have ri440 : (-2147483648) ≤ ivh59 a0 16 ∧ ivh59 a0 16 ≤ 2147483647 := W59.int ty127 16
                          have ie671 : ivh59 a0 16 = ivb8 a0 16 := fl59.i ty108 rfl 16
                          refine c_lv (lv2 := [(5, .int (iI (k2 + 1))), (4, .int (iI f55)), (3, .ref ob5), (2, .int (iI fl)), (0, .ref a0), (1, .int (iI i))]) [0, 1, 2, 3, 4, 5] rfl ?_
                          exact ih8  (k2 + 1) _ _ _ _ _ (by omega) X5 W59 F47  (by omega) (by show ivh59 (sk 15) 7 ≤ 200; omega) (by show ivh59 (sk 2) 2 = 0; omega) (by show ivh59 a0 11 = iv a0 11; omega) (by show ivh59 a0 12 = iv a0 12; omega) (by show ivh59 a0 13 = iv a0 13; omega) (by show ivh59 a0 14 = iv a0 14; omega) (by show ivh59 a0 15 = iv a0 15; omega) (by show ivh59 a0 16 = iv a0 16; omega) (Eq.trans (show rvh59 a0 9 = rvb8 a0 9 from (fl59.r ty108 rfl 9)) (show rvb8 a0 9 = rv a0 9 from hkr9)) (Eq.trans (show rvh59 a0 10 = rvb8 a0 10 from (fl59.r ty108 rfl 10)) (show rvb8 a0 10 = rv a0 10 from hkr10))
                  have ri441 : 0 ≤ ivh56 (sk 15) 7 ∧ ivh56 (sk 15) 7 ≤ 100000 := W56.int ty106 7
                  have ie673 : ivh56 (sk 15) 7 = ivh55 (sk 15) 7 := fl56.i ty106 rfl 7
                  have ri442 : 0 ≤ ivh56 (sk 2) 2 ∧ ivh56 (sk 2) 2 ≤ 3000 := W56.int ty104 2
                  have ie674 : ivh56 (sk 2) 2 = ivh55 (sk 2) 2 := fl56.i ty104 rfl 2
                  have ie675 : ivh55 (sk 2) 2 = ivh53 (sk 2) 2 := fl55.i ty104 rfl 2
                  have ri443 : 1 ≤ ivh56 a0 11 ∧ ivh56 a0 11 ≤ 100 := W56.int ty103 11
                  have ie676 : ivh56 a0 11 = ivh55 a0 11 := fl56.i ty103 rfl 11
                  have ie677 : ivh55 a0 11 = ivh53 a0 11 := fl55.i ty103 rfl 11
                  have ie678 : ivh53 a0 11 = ivb7 a0 11 := fl53.i ty103 rfl 11
                  have ri444 : 1 ≤ ivh56 a0 12 ∧ ivh56 a0 12 ≤ 50 := W56.int ty103 12
                  have ie680 : ivh56 a0 12 = ivh55 a0 12 := fl56.i ty103 rfl 12
                  have ie681 : ivh55 a0 12 = ivh53 a0 12 := fl55.i ty103 rfl 12
                  have ie682 : ivh53 a0 12 = ivb7 a0 12 := fl53.i ty103 rfl 12
                  have ri445 : (-2147483648) ≤ ivh56 a0 13 ∧ ivh56 a0 13 ≤ 2147483647 := W56.int ty103 13
                  have ie684 : ivh56 a0 13 = ivh55 a0 13 := fl56.i ty103 rfl 13
                  have ie685 : ivh55 a0 13 = ivh53 a0 13 := fl55.i ty103 rfl 13
                  have ie686 : ivh53 a0 13 = ivb7 a0 13 := fl53.i ty103 rfl 13
                  have ri446 : (-2147483648) ≤ ivh56 a0 14 ∧ ivh56 a0 14 ≤ 2147483647 := W56.int ty103 14
                  have ie688 : ivh56 a0 14 = ivh55 a0 14 := fl56.i ty103 rfl 14
                  have ie689 : ivh55 a0 14 = ivh53 a0 14 := fl55.i ty103 rfl 14
                  have ie690 : ivh53 a0 14 = ivb7 a0 14 := fl53.i ty103 rfl 14
                  have ri447 : (-2147483648) ≤ ivh56 a0 15 ∧ ivh56 a0 15 ≤ 2147483647 := W56.int ty103 15
                  have ie692 : ivh56 a0 15 = ivh55 a0 15 := fl56.i ty103 rfl 15
                  have ie693 : ivh55 a0 15 = ivh53 a0 15 := fl55.i ty103 rfl 15
                  have ie694 : ivh53 a0 15 = ivb7 a0 15 := fl53.i ty103 rfl 15
                  have ri448 : (-2147483648) ≤ ivh56 a0 16 ∧ ivh56 a0 16 ≤ 2147483647 := W56.int ty103 16
                  have ie696 : ivh56 a0 16 = ivh55 a0 16 := fl56.i ty103 rfl 16
                  have ie697 : ivh55 a0 16 = ivh53 a0 16 := fl55.i ty103 rfl 16
                  have ie698 : ivh53 a0 16 = ivb7 a0 16 := fl53.i ty103 rfl 16
                  refine c_lv (lv2 := [(5, .int (iI 0)), (4, .int (iI f55)), (3, .ref ob5), (2, .int (iI fl)), (0, .ref a0), (1, .int (iI i))]) [0, 1, 2, 3, 4, 5] rfl ?_
                  exact Lp8 103 0 _ _ _ _ _ (by omega) Xb7 W56 F44  (by omega) (by show ivh56 (sk 15) 7 ≤ 200; omega) (by show ivh56 (sk 2) 2 = 0; omega) (by show ivh56 a0 11 = iv a0 11; omega) (by show ivh56 a0 12 = iv a0 12; omega) (by show ivh56 a0 13 = iv a0 13; omega) (by show ivh56 a0 14 = iv a0 14; omega) (by show ivh56 a0 15 = iv a0 15; omega) (by show ivh56 a0 16 = iv a0 16; omega) (show rvb7 a0 9 = rv a0 9 from hkr9) (show rvb7 a0 10 = rv a0 10 from hkr10)
                · refine c_aload_n (j := 3) (x := a0) C dX11_head_138 rfl ?_
                  refine c_iload (j := 0) C dX11_head_139 rfl ?_
                  refine c_aload_n (j := 3) (x := a0) C dX11_head_141 rfl ?_
                  refine c_getr (k := 6) C ck_12 dX11_head_142 w2_50 (by decide) ty103 rfl rfl (by decide) rfl rq45 ?_
                  refine c_st (st2 := [.ref (sk 15), .int (iI f55), .ref a0]) rfl ?_
                  refine d_callV (As := []) (rest := [.int (iI f55), .ref a0]) C hM (C_placeOfUnknown (a0 := (sk 15)) W55 skb7 ty106  ) dX11_head_145 kV_X11_263 rfl ty106 rfl rfl (by decide) ck_7 rfl (Nat.le_of_ble_eq_true rfl) ⟨(Nat.le_of_ble_eq_true rfl), (Nat.le_of_ble_eq_true rfl)⟩ hph pl19 (show 0 + 0 = 0 from rfl) (by decide) (fun rh60 Lh60 clh60 lnh60 ivh60 rvh60 h60 => ?_)
                  obtain ⟨f60, rfl, rfl, rfl, rfl, rfl, rfl, rgf60, exf60⟩ := h60
                  refine c_st (st2 := [.int (iI f60), .int (iI f55), .ref a0]) rfl ?_
                  refine d_callV (As := [.int (iI f55), .int (iI f60)]) (rest := []) C hM (C_refuseAt (a0 := a0) (x := f55) (y := f60) W55 skb7 ty103 (by omega) (by omega) ) dX11_head_148 kV_X11_266 rfl ty103 rfl rfl (by decide) ck_12 rfl (Nat.le_of_ble_eq_true rfl) ⟨(Nat.le_of_ble_eq_true rfl), (Nat.le_of_ble_eq_true rfl)⟩ hph pl19 (show 0 + 0 = 0 from rfl) (by decide) (fun rh61 Lh61 clh61 lnh61 ivh61 rvh61 h61 => ?_)
                  obtain ⟨f61, rfl, rfl, rfl, rfl, rfl, fl61, W61, rgf61, exf61, kp11f61, kp12f61, kp13f61, kp14f61, kp15f61, kp16f61⟩ := h61
                  have ri449 : 1 ≤ ivh55 a0 11 ∧ ivh55 a0 11 ≤ 100 := W55.int ty103 11
                  have ie700 : ivh55 a0 11 = ivh53 a0 11 := fl55.i ty103 rfl 11
                  have ie701 : ivh53 a0 11 = ivb7 a0 11 := fl53.i ty103 rfl 11
                  have ri450 : 1 ≤ ivh55 a0 12 ∧ ivh55 a0 12 ≤ 50 := W55.int ty103 12
                  have ie703 : ivh55 a0 12 = ivh53 a0 12 := fl55.i ty103 rfl 12
                  have ie704 : ivh53 a0 12 = ivb7 a0 12 := fl53.i ty103 rfl 12
                  have ri451 : (-2147483648) ≤ ivh55 a0 13 ∧ ivh55 a0 13 ≤ 2147483647 := W55.int ty103 13
                  have ie706 : ivh55 a0 13 = ivh53 a0 13 := fl55.i ty103 rfl 13
                  have ie707 : ivh53 a0 13 = ivb7 a0 13 := fl53.i ty103 rfl 13
                  have ri452 : (-2147483648) ≤ ivh55 a0 14 ∧ ivh55 a0 14 ≤ 2147483647 := W55.int ty103 14
                  have ie709 : ivh55 a0 14 = ivh53 a0 14 := fl55.i ty103 rfl 14
                  have ie710 : ivh53 a0 14 = ivb7 a0 14 := fl53.i ty103 rfl 14
                  have ri453 : (-2147483648) ≤ ivh55 a0 15 ∧ ivh55 a0 15 ≤ 2147483647 := W55.int ty103 15
                  have ie712 : ivh55 a0 15 = ivh53 a0 15 := fl55.i ty103 rfl 15
                  have ie713 : ivh53 a0 15 = ivb7 a0 15 := fl53.i ty103 rfl 15
                  have ri454 : (-2147483648) ≤ ivh55 a0 16 ∧ ivh55 a0 16 ≤ 2147483647 := W55.int ty103 16
                  have ie715 : ivh55 a0 16 = ivh53 a0 16 := fl55.i ty103 rfl 16
                  have ie716 : ivh53 a0 16 = ivb7 a0 16 := fl53.i ty103 rfl 16
                  have F48 := F43.call Xb7 fl61 rfl
                  have mr48 := MRK.call mr43 W55 skb7 XT.refl fl61 rfl rfl
                  refine c_st (st2 := [.int (iI f61)]) rfl ?_
                  have gk11f61 : ivh61 a0 11 = ivh55 a0 11 := kp11f61
                  have gk12f61 : ivh61 a0 12 = ivh55 a0 12 := kp12f61
                  have gk13f61 : ivh61 a0 13 = ivh55 a0 13 := kp13f61
                  have gk14f61 : ivh61 a0 14 = ivh55 a0 14 := kp14f61
                  have gk15f61 : ivh61 a0 15 = ivh55 a0 15 := kp15f61
                  have gk16f61 : ivh61 a0 16 = ivh55 a0 16 := kp16f61
                  have gf61 : f61 = -1 := exf61
                  have ri455 : 0 ≤ ivh61 (sk 2) 2 ∧ ivh61 (sk 2) 2 ≤ 3000 := W61.int ty104 2
                  have ie718 : ivh61 (sk 2) 2 = ivh55 (sk 2) 2 := fl61.i ty104 rfl 2
                  have ie719 : ivh55 (sk 2) 2 = ivh53 (sk 2) 2 := fl55.i ty104 rfl 2
                  have ri456 : 1 ≤ ivh61 a0 11 ∧ ivh61 a0 11 ≤ 100 := W61.int ty103 11
                  have ri457 : 1 ≤ ivh61 a0 12 ∧ ivh61 a0 12 ≤ 50 := W61.int ty103 12
                  have ri458 : (-2147483648) ≤ ivh61 a0 13 ∧ ivh61 a0 13 ≤ 2147483647 := W61.int ty103 13
                  have ri459 : (-2147483648) ≤ ivh61 a0 14 ∧ ivh61 a0 14 ≤ 2147483647 := W61.int ty103 14
                  have ri460 : (-2147483648) ≤ ivh61 a0 15 ∧ ivh61 a0 15 ≤ 2147483647 := W61.int ty103 15
                  have ri461 : (-2147483648) ≤ ivh61 a0 16 ∧ ivh61 a0 16 ≤ 2147483647 := W61.int ty103 16
                  exact c_iret C dX11_head_151 rfl (by decide) (rom0 hph pl19 (by decide)) ⟨f61, rfl, Xb7, F48, W61, ⟨by omega, by omega⟩, trivial, (by omega), (by omega), (by omega), (by omega), (by omega), (by omega), (by omega), (show rvb7 a0 9 = rv a0 9 from hkr9), (show rvb7 a0 10 = rv a0 10 from hkr10)⟩
              · subst oq5
                refine c_lv (lv2 := [(3, .null), (2, .int (iI fl)), (0, .ref a0), (1, .int (iI i))]) [0, 1, 2, 3] rfl ?_
                refine c_st (st2 := []) rfl ?_
                refine c_aload_n (j := 2) (x := a0) C dX11_head_117 rfl ?_
                refine c_iconst C dX11_head_118 ?_
                refine d_callV (As := [.int (iI 3)]) (rest := []) C hM (C_refuse (a0 := a0) (x := 3) W53 skb7 ty103 ⟨by decide, by decide⟩ ) dX11_head_119 kV_X11_102 rfl ty103 rfl rfl (by decide) ck_12 rfl (Nat.le_of_ble_eq_true rfl) ⟨(Nat.le_of_ble_eq_true rfl), (Nat.le_of_ble_eq_true rfl)⟩ hph pl19 (show 0 + 0 = 0 from rfl) (by decide) (fun rh62 Lh62 clh62 lnh62 ivh62 rvh62 h62 => ?_)
                obtain ⟨f62, rfl, rfl, rfl, rfl, rfl, fl62, W62, rgf62, exf62, kp11f62, kp12f62, kp13f62, kp14f62, kp15f62, kp16f62⟩ := h62
                have ri462 : 1 ≤ ivh53 a0 11 ∧ ivh53 a0 11 ≤ 100 := W53.int ty103 11
                have ie726 : ivh53 a0 11 = ivb7 a0 11 := fl53.i ty103 rfl 11
                have ri463 : 1 ≤ ivh53 a0 12 ∧ ivh53 a0 12 ≤ 50 := W53.int ty103 12
                have ie728 : ivh53 a0 12 = ivb7 a0 12 := fl53.i ty103 rfl 12
                have ri464 : (-2147483648) ≤ ivh53 a0 13 ∧ ivh53 a0 13 ≤ 2147483647 := W53.int ty103 13
                have ie730 : ivh53 a0 13 = ivb7 a0 13 := fl53.i ty103 rfl 13
                have ri465 : (-2147483648) ≤ ivh53 a0 14 ∧ ivh53 a0 14 ≤ 2147483647 := W53.int ty103 14
                have ie732 : ivh53 a0 14 = ivb7 a0 14 := fl53.i ty103 rfl 14
                have ri466 : (-2147483648) ≤ ivh53 a0 15 ∧ ivh53 a0 15 ≤ 2147483647 := W53.int ty103 15
                have ie734 : ivh53 a0 15 = ivb7 a0 15 := fl53.i ty103 rfl 15
                have ri467 : (-2147483648) ≤ ivh53 a0 16 ∧ ivh53 a0 16 ≤ 2147483647 := W53.int ty103 16
                have ie736 : ivh53 a0 16 = ivb7 a0 16 := fl53.i ty103 rfl 16
                have F49 := F42.call Xb7 fl62 rfl
                have mr49 := MRK.call mr42 W53 skb7 XT.refl fl62 rfl rfl
                refine c_st (st2 := [.int (iI f62)]) rfl ?_
                have gk11f62 : ivh62 a0 11 = ivh53 a0 11 := kp11f62
                have gk12f62 : ivh62 a0 12 = ivh53 a0 12 := kp12f62
                have gk13f62 : ivh62 a0 13 = ivh53 a0 13 := kp13f62
                have gk14f62 : ivh62 a0 14 = ivh53 a0 14 := kp14f62
                have gk15f62 : ivh62 a0 15 = ivh53 a0 15 := kp15f62
                have gk16f62 : ivh62 a0 16 = ivh53 a0 16 := kp16f62
                have gf62 : f62 = -1 := exf62
                have ri468 : 0 ≤ ivh62 (sk 2) 2 ∧ ivh62 (sk 2) 2 ≤ 3000 := W62.int ty104 2
                have ie738 : ivh62 (sk 2) 2 = ivh53 (sk 2) 2 := fl62.i ty104 rfl 2
                have ri469 : 1 ≤ ivh62 a0 11 ∧ ivh62 a0 11 ≤ 100 := W62.int ty103 11
                have ri470 : 1 ≤ ivh62 a0 12 ∧ ivh62 a0 12 ≤ 50 := W62.int ty103 12
                have ri471 : (-2147483648) ≤ ivh62 a0 13 ∧ ivh62 a0 13 ≤ 2147483647 := W62.int ty103 13
                have ri472 : (-2147483648) ≤ ivh62 a0 14 ∧ ivh62 a0 14 ≤ 2147483647 := W62.int ty103 14
                have ri473 : (-2147483648) ≤ ivh62 a0 15 ∧ ivh62 a0 15 ≤ 2147483647 := W62.int ty103 15
                have ri474 : (-2147483648) ≤ ivh62 a0 16 ∧ ivh62 a0 16 ≤ 2147483647 := W62.int ty103 16
                exact c_iret C dX11_head_122 rfl (by decide) (rom0 hph pl19 (by decide)) ⟨f62, rfl, Xb7, F49, W62, ⟨by omega, by omega⟩, trivial, (by omega), (by omega), (by omega), (by omega), (by omega), (by omega), (by omega), (show rvb7 a0 9 = rv a0 9 from hkr9), (show rvb7 a0 10 = rv a0 10 from hkr10)⟩
            · refine c_aload_n (j := 2) (x := a0) C dX11_head_97 rfl ?_
              refine c_bipush (z := 6) C dX11_head_98 (by decide) ?_
              refine d_callV (As := [.int (iI 6)]) (rest := []) C hM (C_refuse (a0 := a0) (x := 6) W53 skb7 ty103 ⟨by decide, by decide⟩ ) dX11_head_100 kV_X11_102 rfl ty103 rfl rfl (by decide) ck_12 rfl (Nat.le_of_ble_eq_true rfl) ⟨(Nat.le_of_ble_eq_true rfl), (Nat.le_of_ble_eq_true rfl)⟩ hph pl19 (show 0 + 0 = 0 from rfl) (by decide) (fun rh63 Lh63 clh63 lnh63 ivh63 rvh63 h63 => ?_)
              obtain ⟨f63, rfl, rfl, rfl, rfl, rfl, fl63, W63, rgf63, exf63, kp11f63, kp12f63, kp13f63, kp14f63, kp15f63, kp16f63⟩ := h63
              have ri475 : 1 ≤ ivh53 a0 11 ∧ ivh53 a0 11 ≤ 100 := W53.int ty103 11
              have ie745 : ivh53 a0 11 = ivb7 a0 11 := fl53.i ty103 rfl 11
              have ri476 : 1 ≤ ivh53 a0 12 ∧ ivh53 a0 12 ≤ 50 := W53.int ty103 12
              have ie747 : ivh53 a0 12 = ivb7 a0 12 := fl53.i ty103 rfl 12
              have ri477 : (-2147483648) ≤ ivh53 a0 13 ∧ ivh53 a0 13 ≤ 2147483647 := W53.int ty103 13
              have ie749 : ivh53 a0 13 = ivb7 a0 13 := fl53.i ty103 rfl 13
              have ri478 : (-2147483648) ≤ ivh53 a0 14 ∧ ivh53 a0 14 ≤ 2147483647 := W53.int ty103 14
              have ie751 : ivh53 a0 14 = ivb7 a0 14 := fl53.i ty103 rfl 14
              have ri479 : (-2147483648) ≤ ivh53 a0 15 ∧ ivh53 a0 15 ≤ 2147483647 := W53.int ty103 15
              have ie753 : ivh53 a0 15 = ivb7 a0 15 := fl53.i ty103 rfl 15
              have ri480 : (-2147483648) ≤ ivh53 a0 16 ∧ ivh53 a0 16 ≤ 2147483647 := W53.int ty103 16
              have ie755 : ivh53 a0 16 = ivb7 a0 16 := fl53.i ty103 rfl 16
              have F50 := F42.call Xb7 fl63 rfl
              have mr50 := MRK.call mr42 W53 skb7 XT.refl fl63 rfl rfl
              refine c_st (st2 := [.int (iI f63)]) rfl ?_
              have gk11f63 : ivh63 a0 11 = ivh53 a0 11 := kp11f63
              have gk12f63 : ivh63 a0 12 = ivh53 a0 12 := kp12f63
              have gk13f63 : ivh63 a0 13 = ivh53 a0 13 := kp13f63
              have gk14f63 : ivh63 a0 14 = ivh53 a0 14 := kp14f63
              have gk15f63 : ivh63 a0 15 = ivh53 a0 15 := kp15f63
              have gk16f63 : ivh63 a0 16 = ivh53 a0 16 := kp16f63
              have gf63 : f63 = -1 := exf63
              have ri481 : 0 ≤ ivh63 (sk 2) 2 ∧ ivh63 (sk 2) 2 ≤ 3000 := W63.int ty104 2
              have ie757 : ivh63 (sk 2) 2 = ivh53 (sk 2) 2 := fl63.i ty104 rfl 2
              have ri482 : 1 ≤ ivh63 a0 11 ∧ ivh63 a0 11 ≤ 100 := W63.int ty103 11
              have ri483 : 1 ≤ ivh63 a0 12 ∧ ivh63 a0 12 ≤ 50 := W63.int ty103 12
              have ri484 : (-2147483648) ≤ ivh63 a0 13 ∧ ivh63 a0 13 ≤ 2147483647 := W63.int ty103 13
              have ri485 : (-2147483648) ≤ ivh63 a0 14 ∧ ivh63 a0 14 ≤ 2147483647 := W63.int ty103 14
              have ri486 : (-2147483648) ≤ ivh63 a0 15 ∧ ivh63 a0 15 ≤ 2147483647 := W63.int ty103 15
              have ri487 : (-2147483648) ≤ ivh63 a0 16 ∧ ivh63 a0 16 ≤ 2147483647 := W63.int ty103 16
              exact c_iret C dX11_head_103 rfl (by decide) (rom0 hph pl19 (by decide)) ⟨f63, rfl, Xb7, F50, W63, ⟨by omega, by omega⟩, trivial, (by omega), (by omega), (by omega), (by omega), (by omega), (by omega), (by omega), (show rvb7 a0 9 = rv a0 9 from hkr9), (show rvb7 a0 10 = rv a0 10 from hkr10)⟩
          · refine c_iload_n (j := 1) C dX11_head_53 rfl ?_
            refine c_aload_n (j := 2) (x := a0) C dX11_head_54 rfl ?_
            have ty128 := Xb7.ty t_a0
            obtain ⟨rb52, rq52, trb52⟩ := Wb7.ref ty128 0 rfl rfl rfl
            have erb52 := Wb7.sk trb52 (by decide) rfl
            subst erb52
            refine c_getr (k := 0) C ck_12 dX11_head_55 w2_44 (by decide) ty128 rfl rfl (by decide) rfl rq52 ?_
            refine c_st (st2 := [.ref (sk 2), .int (iI k)]) rfl ?_
            have ty129 := Xb7.ty tsk2
            have ri488 : 0 ≤ ivb7 (sk 2) 2 ∧ ivb7 (sk 2) 2 ≤ 3000 := Wb7.int ty129 2
            refine c_get (k := 2) C ck_2 dX11_head_58 w1_44 (by decide) ty129 rfl rfl (by decide) rfl ?_
            refine c_icmp_ge (tgt := 86) C ⟨by omega, by omega⟩ ⟨by omega, by omega⟩ dX11_head_61 (by decide) (fun c28 => ?_) (fun c28 => ?_)
            · refine c_aload_n (j := 2) (x := a0) C dX11_head_86 rfl ?_
              refine c_getr (k := 0) C ck_12 dX11_head_87 w2_44 (by decide) ty128 rfl rfl (by decide) rfl rq52 ?_
              refine c_st (st2 := [.ref (sk 2)]) rfl ?_
              have pl23 := Phi.le Wb7 skb7
              refine d_callV (As := []) (rest := []) C hM (C_clear_2 (a0 := (sk 2)) Wb7 skb7 ty129  ) dX11_head_90 kV_X11_164 rfl ty129 rfl rfl (by decide) ck_2 rfl (Nat.le_of_ble_eq_true rfl) ⟨(Nat.le_of_ble_eq_true rfl), (Nat.le_of_ble_eq_true rfl)⟩ hph pl23 (show 0 + 0 = 0 from rfl) (by decide) (fun rh64 Lh64 clh64 lnh64 ivh64 rvh64 h64 => ?_)
              obtain ⟨rfl, rfl, rfl, rfl, rfl, fl64, W64, exf64⟩ := h64
              have F51 := Fb7.call Xb7 fl64 rfl
              have mr51 := MRK.call mrb7 Wb7 skb7 XT.refl fl64 rfl rfl
              refine c_st (st2 := []) rfl ?_
              have ri489 : 0 ≤ ivh64 (sk 2) 2 ∧ ivh64 (sk 2) 2 ≤ 3000 := W64.int ty129 2
              have gf64 : ivh64 (sk 2) 2 = 0 := exf64
              refine c_iload_n (j := 0) C dX11_head_93 rfl ?_
              refine c_if_ne (tgt := 104) C ⟨by omega, by omega⟩ dX11_head_94 (by decide) (fun c29 => ?_) (fun c29 => ?_)
              · refine c_aload_n (j := 2) (x := a0) C dX11_head_104 rfl ?_
                obtain ⟨rb53, rq53, trb53⟩ := W64.ref ty128 4 rfl rfl rfl
                have erb53 := W64.sk trb53 (by decide) rfl
                subst erb53
                refine c_getr (k := 4) C ck_12 dX11_head_105 w2_48 (by decide) ty128 rfl rfl (by decide) rfl rq53 ?_
                refine c_st (st2 := [.ref (sk 13)]) rfl ?_
                refine c_iload_n (j := 3) C dX11_head_108 rfl ?_
                have ty130 := Xb7.ty tsk13
                refine d_callV (As := [.int (iI i)]) (rest := []) C hM (C_whole (a0 := (sk 13)) (i := i) W64 skb7 ty130 (by omega) mr51) dX11_head_109 kV_X11_231 rfl ty130 rfl rfl (by decide) ck_11 rfl (Nat.le_of_ble_eq_true rfl) ⟨(Nat.le_of_ble_eq_true rfl), (Nat.le_of_ble_eq_true rfl)⟩ hph pl23 (show 0 + 0 = 0 from rfl) (by decide) (fun rh65 Lh65 clh65 lnh65 ivh65 rvh65 h65 => ?_)
                obtain ⟨f65, rfl, rfl, rfl, rfl, rfl, rfl, rgf65, exf65⟩ := h65
                refine c_st (st2 := [(va_rf f65)]) rfl ?_
                refine c_astorer_n (r := f65) (lv2 := [(3, (va_rf f65)), (2, .int (iI fl)), (0, .ref a0), (1, .int (iI i))]) C dX11_head_112 (by decide) rfl ?_
                refine c_aloadr_n (j := 0) (r := f65) C dX11_head_113 rfl ?_
                refine c_ifnonnull (r := f65) (tgt := 123) C dX11_head_114 (by decide) (fun ob6 oq6 => ?_) (fun oq6 => ?_)
                · subst oq6
                  have tob6 := rgf65 ob6 rfl
                  refine c_lv (lv2 := [(3, .ref ob6), (2, .int (iI fl)), (0, .ref a0), (1, .int (iI i))]) [0, 1, 2, 3] rfl ?_
                  refine c_st (st2 := []) rfl ?_
                  refine c_aload_n (j := 2) (x := a0) C dX11_head_123 rfl ?_
                  obtain ⟨rb54, rq54, trb54⟩ := W64.ref ty128 6 rfl rfl rfl
                  have erb54 := W64.sk trb54 (by decide) rfl
                  subst erb54
                  refine c_getr (k := 6) C ck_12 dX11_head_124 w2_50 (by decide) ty128 rfl rfl (by decide) rfl rq54 ?_
                  refine c_st (st2 := [.ref (sk 15)]) rfl ?_
                  refine c_aload_n (j := 0) (x := ob6) C dX11_head_127 rfl ?_
                  have ty131 := Xb7.ty tsk15
                  have ri490 : 0 ≤ ivh64 (sk 15) 4 ∧ ivh64 (sk 15) 4 ≤ 500 := W64.int ty131 4
                  have ie766 : ivh64 (sk 15) 4 = ivb7 (sk 15) 4 := fl64.i ty131 rfl 4
                  refine d_callV (As := [.ref ob6]) (rest := []) C hM (C_setBy (a0 := (sk 15)) (a1 := ob6) W64 skb7 ty131 tob6  ) dX11_head_128 kV_X11_253 rfl ty131 rfl rfl (by decide) ck_7 rfl (Nat.le_of_ble_eq_true rfl) ⟨(Nat.le_of_ble_eq_true rfl), (Nat.le_of_ble_eq_true rfl)⟩ hph pl23 (show 0 + 0 = 0 from rfl) (by decide) (fun rh66 Lh66 clh66 lnh66 ivh66 rvh66 h66 => ?_)
                  obtain ⟨f66, rfl, rfl, rfl, rfl, rfl, fl66, W66, rgf66, exf66⟩ := h66
                  have F52 := F51.call Xb7 fl66 rfl
                  have mr52 := MRK.call mr51 W64 skb7 XT.refl fl66 rfl rfl
                  refine c_st (st2 := [.int (iI f66)]) rfl ?_
                  have ri491 : 0 ≤ ivh66 (sk 15) 4 ∧ ivh66 (sk 15) 4 ≤ 500 := W66.int ty131 4
                  have ri492 : 0 ≤ ivh66 (sk 15) 7 ∧ ivh66 (sk 15) 7 ≤ 100000 := W66.int ty131 7
                  have gf66 : (f66 = 0 ∨ f66 = 6 ∨ f66 = 7) ∧ ivh66 (sk 15) 4 = ivh64 (sk 15) 4 ∧ (f66 = 0 → ivh66 (sk 15) 7 ≤ 200) := exf66
                  refine c_istore (lv2 := [(4, .int (iI f66)), (3, .ref ob6), (2, .int (iI fl)), (0, .ref a0), (1, .int (iI i))]) C dX11_head_131 (by decide) rfl ?_
                  refine c_iload (j := 0) C dX11_head_133 rfl ?_
                  refine c_if_eq (tgt := 152) C ⟨by omega, by omega⟩ dX11_head_135 (by decide) (fun c30 => ?_) (fun c30 => ?_)
                  · refine c_aload_n (j := 3) (x := a0) C dX11_head_152 rfl ?_
                    obtain ⟨rb55, rq55, trb55⟩ := W66.ref ty128 3 rfl rfl rfl
                    have erb55 := W66.sk trb55 (by decide) rfl
                    subst erb55
                    refine c_getr (k := 3) C ck_12 dX11_head_153 w2_47 (by decide) ty128 rfl rfl (by decide) rfl rq55 ?_
                    refine c_st (st2 := [.ref (sk 5)]) rfl ?_
                    have ty132 := Xb7.ty tsk5
                    refine d_callV (As := []) (rest := []) C hM (C_clear_5 (a0 := (sk 5)) W66 skb7 ty132  ) dX11_head_156 kV_X11_164 rfl ty132 rfl rfl (by decide) ck_2 rfl (Nat.le_of_ble_eq_true rfl) ⟨(Nat.le_of_ble_eq_true rfl), (Nat.le_of_ble_eq_true rfl)⟩ hph pl23 (show 0 + 0 = 0 from rfl) (by decide) (fun rh67 Lh67 clh67 lnh67 ivh67 rvh67 h67 => ?_)
                    obtain ⟨rfl, rfl, rfl, rfl, rfl, fl67, W67, exf67⟩ := h67
                    have F53 := F52.call Xb7 fl67 rfl
                    have mr53 := MRK.call mr52 W66 skb7 XT.refl fl67 rfl rfl
                    refine c_st (st2 := []) rfl ?_
                    have ri493 : 0 ≤ ivh67 (sk 5) 2 ∧ ivh67 (sk 5) 2 ≤ 200 := W67.int ty132 2
                    have gf67 : ivh67 (sk 5) 2 = 0 := exf67
                    refine c_iconst C dX11_head_159 ?_
                    refine c_istore (lv2 := [(5, .int (iI 0)), (4, .int (iI f66)), (3, .ref ob6), (2, .int (iI fl)), (0, .ref a0), (1, .int (iI i))]) C dX11_head_160 (by decide) rfl ?_
                    have Lp9 : ∀ (nn : Nat) (k2 : Int) (Lb9 : List Nat) (clb9 lnb9 : Nat → Nat) (ivb9 : Nat → Nat → Int) (rvb9 : Nat → Nat → Option Nat) , 101 - k2 < (nn : Int) → XT L cl ln Lb9 clb9 lnb9 → WT (g0 G) sk Lb9 clb9 lnb9 ivb9 rvb9 → fT [1, 2, 5, 35, 15, 50, 51, 52, 53, 54, 55] L cl iv rv ivb9 rvb9 → (0 ≤ k2 ∧ k2 ≤ 100) → (ivb9 (sk 15) 7 ≤ 200) → (ivb9 (sk 2) 2 = 0) → (ivb9 a0 11 = iv a0 11) → (ivb9 a0 12 = iv a0 12) → (ivb9 a0 13 = iv a0 13) → (ivb9 a0 14 = iv a0 14) → (ivb9 a0 15 = iv a0 15) → (ivb9 a0 16 = iv a0 16) → (rvb9 a0 9 = rv a0 9) → (rvb9 a0 10 = rv a0 10) → cw p l e 8 ((PHM) + 0 - ((Phi (g0 G) sk) ln rv)) s m args below meth c G A 6 (MQ below (Qu G A (Qp G (Phi (g0 G) sk) ((Phi (g0 G) sk) ln rv) 0 (fun v L2 cl2 ln2 iv2 rv2 => ∃ f : Int, v = some (.int (iI f)) ∧ XT L cl ln L2 cl2 ln2 ∧ fT [1, 2, 5, 35, 15, 50, 51, 52, 53, 54, 55] L cl iv rv iv2 rv2 ∧ WT (g0 G) sk L2 cl2 ln2 iv2 rv2 ∧ (-2147483648 ≤ f ∧ f ≤ 2147483647) ∧ (True) ∧ iv2 a0 11 = iv a0 11 ∧ iv2 a0 12 = iv a0 12 ∧ iv2 a0 13 = iv a0 13 ∧ iv2 a0 14 = iv a0 14 ∧ iv2 a0 15 = iv a0 15 ∧ iv2 a0 16 = iv a0 16 ∧ iv2 (sk 2) 2 = 0 ∧ rv2 a0 9 = rv a0 9 ∧ rv2 a0 10 = rv a0 10))) args s (((PHM) + 0 - ((Phi (g0 G) sk) ln rv)) / 16) ((PHM) + 0 - ((Phi (g0 G) sk) ln rv)) A) (Phi (g0 G) sk) ((Phi (g0 G) sk) ln rv) Lb9 clb9 lnb9 ivb9 rvb9 0 162 [(5, .int (iI k2)), (4, .int (iI f66)), (3, .ref ob6), (2, .int (iI fl)), (0, .ref a0), (1, .int (iI i))] [] := by
                      intro nn
                      induction nn with
                      | zero =>
                        intro  k2 Lb9 clb9 lnb9 ivb9 rvb9 hm Xb9 Wb9 Fb9  hk2 hco htz hkp11 hkp12 hkp13 hkp14 hkp15 hkp16 hkr9 hkr10
                        have skb9 := Xb9.skl hS
                        exact absurd hm (by omega)
                      | succ nn ih9 =>
                        intro  k2 Lb9 clb9 lnb9 ivb9 rvb9 hm Xb9 Wb9 Fb9  hk2 hco htz hkp11 hkp12 hkp13 hkp14 hkp15 hkp16 hkr9 hkr10
                        have skb9 := Xb9.skl hS
                        have mrb9 := MRK.call hmr hW hS Xb9 Fb9 rfl rfl
                        refine c_iload (j := 0) C dX11_head_162 rfl ?_
                        refine c_aload_n (j := 4) (x := a0) C dX11_head_164 rfl ?_
                        have ty133 := Xb9.ty t_a0
                        obtain ⟨rb56, rq56, trb56⟩ := Wb9.ref ty133 6 rfl rfl rfl
                        have erb56 := Wb9.sk trb56 (by decide) rfl
                        subst erb56
                        refine c_getr (k := 6) C ck_12 dX11_head_165 w2_50 (by decide) ty133 rfl rfl (by decide) rfl rq56 ?_
                        refine c_st (st2 := [.ref (sk 15), .int (iI k2)]) rfl ?_
                        have ty134 := Xb9.ty tsk15
                        have ri494 : 0 ≤ ivb9 (sk 15) 7 ∧ ivb9 (sk 15) 7 ≤ 100000 := Wb9.int ty134 7
                        refine c_get (k := 7) C ck_7 dX11_head_168 w1_149 (by decide) ty134 rfl rfl (by decide) rfl ?_
                        refine c_icmp_ge (tgt := 206) C ⟨by omega, by omega⟩ ⟨by omega, by omega⟩ dX11_head_171 (by decide) (fun c31 => ?_) (fun c31 => ?_)
                        · refine c_aload_n (j := 4) (x := a0) C dX11_head_206 rfl ?_
                          refine c_aload_n (j := 4) (x := a0) C dX11_head_207 rfl ?_
                          obtain ⟨rb57, rq57, trb57⟩ := Wb9.ref ty133 3 rfl rfl rfl
                          have erb57 := Wb9.sk trb57 (by decide) rfl
                          subst erb57
                          refine c_getr (k := 3) C ck_12 dX11_head_208 w2_47 (by decide) ty133 rfl rfl (by decide) rfl rq57 ?_
                          refine c_st (st2 := [.ref (sk 5), .ref a0]) rfl ?_
                          have ty135 := Xb9.ty tsk5
                          have ri495 : 0 ≤ ivb9 (sk 5) 2 ∧ ivb9 (sk 5) 2 ≤ 200 := Wb9.int ty135 2
                          refine c_get (k := 2) C ck_2 dX11_head_211 w1_44 (by decide) ty135 rfl rfl (by decide) rfl ?_
                          have pl24 := Phi.le Wb9 skb9
                          refine d_callV (As := [.int (iI (ivb9 (sk 5) 2))]) (rest := []) C hM (C_done (a0 := a0) (x := ivb9 (sk 5) 2) Wb9 skb9 ty133 (by omega) ) dX11_head_214 kV_X11_109 rfl ty133 rfl rfl (by decide) ck_12 rfl (Nat.le_of_ble_eq_true rfl) ⟨(Nat.le_of_ble_eq_true rfl), (Nat.le_of_ble_eq_true rfl)⟩ hph pl24 (show 0 + 0 = 0 from rfl) (by decide) (fun rh68 Lh68 clh68 lnh68 ivh68 rvh68 h68 => ?_)
                          obtain ⟨f68, rfl, rfl, rfl, rfl, rfl, fl68, W68, rgf68, exf68, kp11f68, kp12f68, kp13f68, kp14f68, kp15f68, kp16f68⟩ := h68
                          have ri496 : 1 ≤ ivb9 a0 11 ∧ ivb9 a0 11 ≤ 100 := Wb9.int ty133 11
                          have ri497 : 1 ≤ ivb9 a0 12 ∧ ivb9 a0 12 ≤ 50 := Wb9.int ty133 12
                          have ri498 : (-2147483648) ≤ ivb9 a0 13 ∧ ivb9 a0 13 ≤ 2147483647 := Wb9.int ty133 13
                          have ri499 : (-2147483648) ≤ ivb9 a0 14 ∧ ivb9 a0 14 ≤ 2147483647 := Wb9.int ty133 14
                          have ri500 : (-2147483648) ≤ ivb9 a0 15 ∧ ivb9 a0 15 ≤ 2147483647 := Wb9.int ty133 15
                          have ri501 : (-2147483648) ≤ ivb9 a0 16 ∧ ivb9 a0 16 ≤ 2147483647 := Wb9.int ty133 16
                          have F54 := Fb9.call Xb9 fl68 rfl
                          have mr54 := MRK.call mrb9 Wb9 skb9 XT.refl fl68 rfl rfl
                          refine c_st (st2 := [.int (iI f68)]) rfl ?_
                          have gk11f68 : ivh68 a0 11 = ivb9 a0 11 := kp11f68
                          have gk12f68 : ivh68 a0 12 = ivb9 a0 12 := kp12f68
                          have gk13f68 : ivh68 a0 13 = ivb9 a0 13 := kp13f68
                          have gk14f68 : ivh68 a0 14 = ivb9 a0 14 := kp14f68
                          have gk15f68 : ivh68 a0 15 = ivb9 a0 15 := kp15f68
                          have gk16f68 : ivh68 a0 16 = ivb9 a0 16 := kp16f68
                          have gf68 : f68 = (ivb9 (sk 5) 2) := exf68
                          have ty136 := Xb9.ty tsk2
                          have ri502 : 0 ≤ ivh68 (sk 2) 2 ∧ ivh68 (sk 2) 2 ≤ 3000 := W68.int ty136 2
                          have ie779 : ivh68 (sk 2) 2 = ivb9 (sk 2) 2 := fl68.i ty136 rfl 2
                          have ri503 : 1 ≤ ivh68 a0 11 ∧ ivh68 a0 11 ≤ 100 := W68.int ty133 11
                          have ri504 : 1 ≤ ivh68 a0 12 ∧ ivh68 a0 12 ≤ 50 := W68.int ty133 12
                          have ri505 : (-2147483648) ≤ ivh68 a0 13 ∧ ivh68 a0 13 ≤ 2147483647 := W68.int ty133 13
                          have ri506 : (-2147483648) ≤ ivh68 a0 14 ∧ ivh68 a0 14 ≤ 2147483647 := W68.int ty133 14
                          have ri507 : (-2147483648) ≤ ivh68 a0 15 ∧ ivh68 a0 15 ≤ 2147483647 := W68.int ty133 15
                          have ri508 : (-2147483648) ≤ ivh68 a0 16 ∧ ivh68 a0 16 ≤ 2147483647 := W68.int ty133 16
                          exact c_iret C dX11_head_217 rfl (by decide) (rom0 hph pl24 (by decide)) ⟨f68, rfl, Xb9, F54, W68, ⟨by omega, by omega⟩, trivial, (by omega), (by omega), (by omega), (by omega), (by omega), (by omega), (by omega), (show rvb9 a0 9 = rv a0 9 from hkr9), (show rvb9 a0 10 = rv a0 10 from hkr10)⟩
                        · refine c_iload (j := 0) C dX11_head_174 rfl ?_
                          refine c_aload_n (j := 4) (x := a0) C dX11_head_176 rfl ?_
                          have ri509 : 1 ≤ ivb9 a0 11 ∧ ivb9 a0 11 ≤ 100 := Wb9.int ty133 11
                          refine c_get (k := 11) C ck_12 dX11_head_177 w2_55 (by decide) ty133 rfl rfl (by decide) rfl ?_
                          refine c_icmp_ge (tgt := 206) C ⟨by omega, by omega⟩ ⟨by omega, by omega⟩ dX11_head_180 (by decide) (fun c32 => ?_) (fun c32 => ?_)
                          · refine c_aload_n (j := 4) (x := a0) C dX11_head_206 rfl ?_
                            refine c_aload_n (j := 4) (x := a0) C dX11_head_207 rfl ?_
                            obtain ⟨rb58, rq58, trb58⟩ := Wb9.ref ty133 3 rfl rfl rfl
                            have erb58 := Wb9.sk trb58 (by decide) rfl
                            subst erb58
                            refine c_getr (k := 3) C ck_12 dX11_head_208 w2_47 (by decide) ty133 rfl rfl (by decide) rfl rq58 ?_
                            refine c_st (st2 := [.ref (sk 5), .ref a0]) rfl ?_
                            have ty137 := Xb9.ty tsk5
                            have ri510 : 0 ≤ ivb9 (sk 5) 2 ∧ ivb9 (sk 5) 2 ≤ 200 := Wb9.int ty137 2
                            refine c_get (k := 2) C ck_2 dX11_head_211 w1_44 (by decide) ty137 rfl rfl (by decide) rfl ?_
                            have pl25 := Phi.le Wb9 skb9
                            refine d_callV (As := [.int (iI (ivb9 (sk 5) 2))]) (rest := []) C hM (C_done (a0 := a0) (x := ivb9 (sk 5) 2) Wb9 skb9 ty133 (by omega) ) dX11_head_214 kV_X11_109 rfl ty133 rfl rfl (by decide) ck_12 rfl (Nat.le_of_ble_eq_true rfl) ⟨(Nat.le_of_ble_eq_true rfl), (Nat.le_of_ble_eq_true rfl)⟩ hph pl25 (show 0 + 0 = 0 from rfl) (by decide) (fun rh69 Lh69 clh69 lnh69 ivh69 rvh69 h69 => ?_)
                            obtain ⟨f69, rfl, rfl, rfl, rfl, rfl, fl69, W69, rgf69, exf69, kp11f69, kp12f69, kp13f69, kp14f69, kp15f69, kp16f69⟩ := h69
                            have ri511 : 1 ≤ ivb9 a0 12 ∧ ivb9 a0 12 ≤ 50 := Wb9.int ty133 12
                            have ri512 : (-2147483648) ≤ ivb9 a0 13 ∧ ivb9 a0 13 ≤ 2147483647 := Wb9.int ty133 13
                            have ri513 : (-2147483648) ≤ ivb9 a0 14 ∧ ivb9 a0 14 ≤ 2147483647 := Wb9.int ty133 14
                            have ri514 : (-2147483648) ≤ ivb9 a0 15 ∧ ivb9 a0 15 ≤ 2147483647 := Wb9.int ty133 15
                            have ri515 : (-2147483648) ≤ ivb9 a0 16 ∧ ivb9 a0 16 ≤ 2147483647 := Wb9.int ty133 16
                            have F55 := Fb9.call Xb9 fl69 rfl
                            have mr55 := MRK.call mrb9 Wb9 skb9 XT.refl fl69 rfl rfl
                            refine c_st (st2 := [.int (iI f69)]) rfl ?_
                            have gk11f69 : ivh69 a0 11 = ivb9 a0 11 := kp11f69
                            have gk12f69 : ivh69 a0 12 = ivb9 a0 12 := kp12f69
                            have gk13f69 : ivh69 a0 13 = ivb9 a0 13 := kp13f69
                            have gk14f69 : ivh69 a0 14 = ivb9 a0 14 := kp14f69
                            have gk15f69 : ivh69 a0 15 = ivb9 a0 15 := kp15f69
                            have gk16f69 : ivh69 a0 16 = ivb9 a0 16 := kp16f69
                            have gf69 : f69 = (ivb9 (sk 5) 2) := exf69
                            have ty138 := Xb9.ty tsk2
                            have ri516 : 0 ≤ ivh69 (sk 2) 2 ∧ ivh69 (sk 2) 2 ≤ 3000 := W69.int ty138 2
                            have ie794 : ivh69 (sk 2) 2 = ivb9 (sk 2) 2 := fl69.i ty138 rfl 2
                            have ri517 : 1 ≤ ivh69 a0 11 ∧ ivh69 a0 11 ≤ 100 := W69.int ty133 11
                            have ri518 : 1 ≤ ivh69 a0 12 ∧ ivh69 a0 12 ≤ 50 := W69.int ty133 12
                            have ri519 : (-2147483648) ≤ ivh69 a0 13 ∧ ivh69 a0 13 ≤ 2147483647 := W69.int ty133 13
                            have ri520 : (-2147483648) ≤ ivh69 a0 14 ∧ ivh69 a0 14 ≤ 2147483647 := W69.int ty133 14
                            have ri521 : (-2147483648) ≤ ivh69 a0 15 ∧ ivh69 a0 15 ≤ 2147483647 := W69.int ty133 15
                            have ri522 : (-2147483648) ≤ ivh69 a0 16 ∧ ivh69 a0 16 ≤ 2147483647 := W69.int ty133 16
                            exact c_iret C dX11_head_217 rfl (by decide) (rom0 hph pl25 (by decide)) ⟨f69, rfl, Xb9, F55, W69, ⟨by omega, by omega⟩, trivial, (by omega), (by omega), (by omega), (by omega), (by omega), (by omega), (by omega), (show rvb9 a0 9 = rv a0 9 from hkr9), (show rvb9 a0 10 = rv a0 10 from hkr10)⟩
                          · refine c_aload_n (j := 4) (x := a0) C dX11_head_183 rfl ?_
                            obtain ⟨rb59, rq59, trb59⟩ := Wb9.ref ty133 3 rfl rfl rfl
                            have erb59 := Wb9.sk trb59 (by decide) rfl
                            subst erb59
                            refine c_getr (k := 3) C ck_12 dX11_head_184 w2_47 (by decide) ty133 rfl rfl (by decide) rfl rq59 ?_
                            refine c_st (st2 := [.ref (sk 5)]) rfl ?_
                            refine c_aload_n (j := 4) (x := a0) C dX11_head_187 rfl ?_
                            refine c_getr (k := 6) C ck_12 dX11_head_188 w2_50 (by decide) ty133 rfl rfl (by decide) rfl rq56 ?_
                            refine c_st (st2 := [.ref (sk 15), .ref (sk 5)]) rfl ?_
                            obtain ⟨rb60, rq60, trb60⟩ := Wb9.ref ty134 6 rfl rfl rfl
                            have lnrb60 : 200 ≤ lnb9 rb60 ∧ lnb9 rb60 ≤ 200 := Wb9.len trb60 rfl
                            refine c_getr (k := 6) C ck_7 dX11_head_191 w1_146 (by decide) ty134 rfl rfl (by decide) rfl rq60 ?_
                            refine c_st (st2 := [.ref rb60, .ref (sk 5)]) rfl ?_
                            refine c_iload (j := 0) C dX11_head_194 rfl ?_
                            have ll6 : 200 ≤ lnb9 rb60 ∧ lnb9 rb60 ≤ 200 := Wb9.len trb60 rfl
                            refine c_iald C dX11_head_196 trb60 rfl (by omega) (by omega) (by omega) ?_
                            have ri523 : (-2147483648) ≤ ivb9 rb60 k2.toNat ∧ ivb9 rb60 k2.toNat ≤ 2147483647 := Wb9.int trb60 k2.toNat
                            have ty139 := Xb9.ty tsk5
                            have ri524 : 0 ≤ ivb9 (sk 5) 2 ∧ ivb9 (sk 5) 2 ≤ 200 := Wb9.int ty139 2
                            have pl26 := Phi.le Wb9 skb9
                            refine d_callV (As := [.int (iI (ivb9 rb60 k2.toNat))]) (rest := []) C hM (C_add_5 (a0 := (sk 5)) (x := ivb9 rb60 k2.toNat) Wb9 skb9 ty139 (by omega) ) dX11_head_197 kV_X11_112 rfl ty139 rfl rfl (by decide) ck_2 rfl (Nat.le_of_ble_eq_true rfl) ⟨(Nat.le_of_ble_eq_true rfl), (Nat.le_of_ble_eq_true rfl)⟩ hph pl26 (show 0 + 0 = 0 from rfl) (by decide) (fun rh70 Lh70 clh70 lnh70 ivh70 rvh70 h70 => ?_)
                            obtain ⟨rfl, xl70, fl70, W70, exf70⟩ := h70
                            have F56 := Fb9.call Xb9 fl70 rfl
                            have mr56 := MRK.call mrb9 Wb9 skb9 xl70 fl70 rfl rfl
                            have ty140 := Xb9.ty tsk2
                            have ty141 := Xb9.ty tsk3
                            have ty142 := Xb9.ty tsk4
                            have ty143 := Xb9.ty tsk13
                            have ty144 := Xb9.ty tsk14
                            have ty145 := Xb9.ty tsk16
                            have ty146 := Xb9.ty tsk17
                            have ty147 := Xb9.ty tsk22
                            have ty148 := Xb9.ty tsk23
                            have X6 := Xb9.trans xl70
                            have sk6 := xl70.skl skb9
                            refine c_st (st2 := []) rfl ?_
                            have ty149 := xl70.ty ty139
                            have ri525 : 0 ≤ ivh70 (sk 5) 2 ∧ ivh70 (sk 5) 2 ≤ 200 := W70.int ty149 2
                            have gf70 : ((ivh70 (sk 5) 2 = ivb9 (sk 5) 2 ∧ ivb9 (sk 5) 2 = 200) ∨ (ivh70 (sk 5) 2 = ivb9 (sk 5) 2 + 1 ∧ ivb9 (sk 5) 2 < 200)) := exf70
                            refine c_iinc (z := k2) (j := 0) (lv2 := [(5, .int (iI (k2 + 1))), (4, .int (iI f66)), (3, .ref ob6), (2, .int (iI fl)), (0, .ref a0), (1, .int (iI i))]) C dX11_head_200 rfl (by decide) rfl ?_
                            refine c_goto (tgt := 162) C dX11_head_203 (by decide) ?_
                            have ty150 := xl70.ty ty134
                            have ri526 : 0 ≤ ivh70 (sk 15) 7 ∧ ivh70 (sk 15) 7 ≤ 100000 := W70.int ty150 7
                            have ie805 : ivh70 (sk 15) 7 = ivb9 (sk 15) 7 := fl70.i ty134 rfl 7
                            have ty151 := xl70.ty ty140
                            have ri527 : 0 ≤ ivh70 (sk 2) 2 ∧ ivh70 (sk 2) 2 ≤ 3000 := W70.int ty151 2
                            have ie806 : ivh70 (sk 2) 2 = ivb9 (sk 2) 2 := fl70.i ty140 rfl 2
                            have ty152 := xl70.ty ty133
                            have ri528 : 1 ≤ ivh70 a0 11 ∧ ivh70 a0 11 ≤ 100 := W70.int ty152 11
                            have ie808 : ivh70 a0 11 = ivb9 a0 11 := fl70.i ty133 rfl 11
                            have ri529 : 1 ≤ ivh70 a0 12 ∧ ivh70 a0 12 ≤ 50 := W70.int ty152 12
                            have ie809 : ivh70 a0 12 = ivb9 a0 12 := fl70.i ty133 rfl 12
                            have ri530 : (-2147483648) ≤ ivh70 a0 13 ∧ ivh70 a0 13 ≤ 2147483647 := W70.int ty152 13
                            have ie811 : ivh70 a0 13 = ivb9 a0 13 := fl70.i ty133 rfl 13
                            have ri531 : (-2147483648) ≤ ivh70 a0 14 ∧ ivh70 a0 14 ≤ 2147483647 := W70.int ty152 14
                            have ie813 : ivh70 a0 14 = ivb9 a0 14 := fl70.i ty133 rfl 14
                            have ri532 : (-2147483648) ≤ ivh70 a0 15 ∧ ivh70 a0 15 ≤ 2147483647 := W70.int ty152 15
                            have ie815 : ivh70 a0 15 = ivb9 a0 15 := fl70.i ty133 rfl 15
                            have ri533 : (-2147483648) ≤ ivh70 a0 16 ∧ ivh70 a0 16 ≤ 2147483647 := W70.int ty152 16
                            have ie817 : ivh70 a0 16 = ivb9 a0 16 := fl70.i ty133 rfl 16
                            refine c_lv (lv2 := [(5, .int (iI (k2 + 1))), (4, .int (iI f66)), (3, .ref ob6), (2, .int (iI fl)), (0, .ref a0), (1, .int (iI i))]) [0, 1, 2, 3, 4, 5] rfl ?_
                            exact ih9  (k2 + 1) _ _ _ _ _ (by omega) X6 W70 F56  (by omega) (by show ivh70 (sk 15) 7 ≤ 200; omega) (by show ivh70 (sk 2) 2 = 0; omega) (by show ivh70 a0 11 = iv a0 11; omega) (by show ivh70 a0 12 = iv a0 12; omega) (by show ivh70 a0 13 = iv a0 13; omega) (by show ivh70 a0 14 = iv a0 14; omega) (by show ivh70 a0 15 = iv a0 15; omega) (by show ivh70 a0 16 = iv a0 16; omega) (Eq.trans (show rvh70 a0 9 = rvb9 a0 9 from (fl70.r ty133 rfl 9)) (show rvb9 a0 9 = rv a0 9 from hkr9)) (Eq.trans (show rvh70 a0 10 = rvb9 a0 10 from (fl70.r ty133 rfl 10)) (show rvb9 a0 10 = rv a0 10 from hkr10))
                    have ri534 : 0 ≤ ivh67 (sk 15) 7 ∧ ivh67 (sk 15) 7 ≤ 100000 := W67.int ty131 7
                    have ie819 : ivh67 (sk 15) 7 = ivh66 (sk 15) 7 := fl67.i ty131 rfl 7
                    have ri535 : 0 ≤ ivh67 (sk 2) 2 ∧ ivh67 (sk 2) 2 ≤ 3000 := W67.int ty129 2
                    have ie820 : ivh67 (sk 2) 2 = ivh66 (sk 2) 2 := fl67.i ty129 rfl 2
                    have ie821 : ivh66 (sk 2) 2 = ivh64 (sk 2) 2 := fl66.i ty129 rfl 2
                    have ri536 : 1 ≤ ivh67 a0 11 ∧ ivh67 a0 11 ≤ 100 := W67.int ty128 11
                    have ie822 : ivh67 a0 11 = ivh66 a0 11 := fl67.i ty128 rfl 11
                    have ie823 : ivh66 a0 11 = ivh64 a0 11 := fl66.i ty128 rfl 11
                    have ie824 : ivh64 a0 11 = ivb7 a0 11 := fl64.i ty128 rfl 11
                    have ri537 : 1 ≤ ivh67 a0 12 ∧ ivh67 a0 12 ≤ 50 := W67.int ty128 12
                    have ie826 : ivh67 a0 12 = ivh66 a0 12 := fl67.i ty128 rfl 12
                    have ie827 : ivh66 a0 12 = ivh64 a0 12 := fl66.i ty128 rfl 12
                    have ie828 : ivh64 a0 12 = ivb7 a0 12 := fl64.i ty128 rfl 12
                    have ri538 : (-2147483648) ≤ ivh67 a0 13 ∧ ivh67 a0 13 ≤ 2147483647 := W67.int ty128 13
                    have ie830 : ivh67 a0 13 = ivh66 a0 13 := fl67.i ty128 rfl 13
                    have ie831 : ivh66 a0 13 = ivh64 a0 13 := fl66.i ty128 rfl 13
                    have ie832 : ivh64 a0 13 = ivb7 a0 13 := fl64.i ty128 rfl 13
                    have ri539 : (-2147483648) ≤ ivh67 a0 14 ∧ ivh67 a0 14 ≤ 2147483647 := W67.int ty128 14
                    have ie834 : ivh67 a0 14 = ivh66 a0 14 := fl67.i ty128 rfl 14
                    have ie835 : ivh66 a0 14 = ivh64 a0 14 := fl66.i ty128 rfl 14
                    have ie836 : ivh64 a0 14 = ivb7 a0 14 := fl64.i ty128 rfl 14
                    have ri540 : (-2147483648) ≤ ivh67 a0 15 ∧ ivh67 a0 15 ≤ 2147483647 := W67.int ty128 15
                    have ie838 : ivh67 a0 15 = ivh66 a0 15 := fl67.i ty128 rfl 15
                    have ie839 : ivh66 a0 15 = ivh64 a0 15 := fl66.i ty128 rfl 15
                    have ie840 : ivh64 a0 15 = ivb7 a0 15 := fl64.i ty128 rfl 15
                    have ri541 : (-2147483648) ≤ ivh67 a0 16 ∧ ivh67 a0 16 ≤ 2147483647 := W67.int ty128 16
                    have ie842 : ivh67 a0 16 = ivh66 a0 16 := fl67.i ty128 rfl 16
                    have ie843 : ivh66 a0 16 = ivh64 a0 16 := fl66.i ty128 rfl 16
                    have ie844 : ivh64 a0 16 = ivb7 a0 16 := fl64.i ty128 rfl 16
                    refine c_lv (lv2 := [(5, .int (iI 0)), (4, .int (iI f66)), (3, .ref ob6), (2, .int (iI fl)), (0, .ref a0), (1, .int (iI i))]) [0, 1, 2, 3, 4, 5] rfl ?_
                    exact Lp9 103 0 _ _ _ _ _ (by omega) Xb7 W67 F53  (by omega) (by show ivh67 (sk 15) 7 ≤ 200; omega) (by show ivh67 (sk 2) 2 = 0; omega) (by show ivh67 a0 11 = iv a0 11; omega) (by show ivh67 a0 12 = iv a0 12; omega) (by show ivh67 a0 13 = iv a0 13; omega) (by show ivh67 a0 14 = iv a0 14; omega) (by show ivh67 a0 15 = iv a0 15; omega) (by show ivh67 a0 16 = iv a0 16; omega) (show rvb7 a0 9 = rv a0 9 from hkr9) (show rvb7 a0 10 = rv a0 10 from hkr10)
                  · refine c_aload_n (j := 3) (x := a0) C dX11_head_138 rfl ?_
                    refine c_iload (j := 0) C dX11_head_139 rfl ?_
                    refine c_aload_n (j := 3) (x := a0) C dX11_head_141 rfl ?_
                    refine c_getr (k := 6) C ck_12 dX11_head_142 w2_50 (by decide) ty128 rfl rfl (by decide) rfl rq54 ?_
                    refine c_st (st2 := [.ref (sk 15), .int (iI f66), .ref a0]) rfl ?_
                    refine d_callV (As := []) (rest := [.int (iI f66), .ref a0]) C hM (C_placeOfUnknown (a0 := (sk 15)) W66 skb7 ty131  ) dX11_head_145 kV_X11_263 rfl ty131 rfl rfl (by decide) ck_7 rfl (Nat.le_of_ble_eq_true rfl) ⟨(Nat.le_of_ble_eq_true rfl), (Nat.le_of_ble_eq_true rfl)⟩ hph pl23 (show 0 + 0 = 0 from rfl) (by decide) (fun rh71 Lh71 clh71 lnh71 ivh71 rvh71 h71 => ?_)
                    obtain ⟨f71, rfl, rfl, rfl, rfl, rfl, rfl, rgf71, exf71⟩ := h71
                    refine c_st (st2 := [.int (iI f71), .int (iI f66), .ref a0]) rfl ?_
                    refine d_callV (As := [.int (iI f66), .int (iI f71)]) (rest := []) C hM (C_refuseAt (a0 := a0) (x := f66) (y := f71) W66 skb7 ty128 (by omega) (by omega) ) dX11_head_148 kV_X11_266 rfl ty128 rfl rfl (by decide) ck_12 rfl (Nat.le_of_ble_eq_true rfl) ⟨(Nat.le_of_ble_eq_true rfl), (Nat.le_of_ble_eq_true rfl)⟩ hph pl23 (show 0 + 0 = 0 from rfl) (by decide) (fun rh72 Lh72 clh72 lnh72 ivh72 rvh72 h72 => ?_)
                    obtain ⟨f72, rfl, rfl, rfl, rfl, rfl, fl72, W72, rgf72, exf72, kp11f72, kp12f72, kp13f72, kp14f72, kp15f72, kp16f72⟩ := h72
                    have ri542 : 1 ≤ ivh66 a0 11 ∧ ivh66 a0 11 ≤ 100 := W66.int ty128 11
                    have ie846 : ivh66 a0 11 = ivh64 a0 11 := fl66.i ty128 rfl 11
                    have ie847 : ivh64 a0 11 = ivb7 a0 11 := fl64.i ty128 rfl 11
                    have ri543 : 1 ≤ ivh66 a0 12 ∧ ivh66 a0 12 ≤ 50 := W66.int ty128 12
                    have ie849 : ivh66 a0 12 = ivh64 a0 12 := fl66.i ty128 rfl 12
                    have ie850 : ivh64 a0 12 = ivb7 a0 12 := fl64.i ty128 rfl 12
                    have ri544 : (-2147483648) ≤ ivh66 a0 13 ∧ ivh66 a0 13 ≤ 2147483647 := W66.int ty128 13
                    have ie852 : ivh66 a0 13 = ivh64 a0 13 := fl66.i ty128 rfl 13
                    have ie853 : ivh64 a0 13 = ivb7 a0 13 := fl64.i ty128 rfl 13
                    have ri545 : (-2147483648) ≤ ivh66 a0 14 ∧ ivh66 a0 14 ≤ 2147483647 := W66.int ty128 14
                    have ie855 : ivh66 a0 14 = ivh64 a0 14 := fl66.i ty128 rfl 14
                    have ie856 : ivh64 a0 14 = ivb7 a0 14 := fl64.i ty128 rfl 14
                    have ri546 : (-2147483648) ≤ ivh66 a0 15 ∧ ivh66 a0 15 ≤ 2147483647 := W66.int ty128 15
                    have ie858 : ivh66 a0 15 = ivh64 a0 15 := fl66.i ty128 rfl 15
                    have ie859 : ivh64 a0 15 = ivb7 a0 15 := fl64.i ty128 rfl 15
                    have ri547 : (-2147483648) ≤ ivh66 a0 16 ∧ ivh66 a0 16 ≤ 2147483647 := W66.int ty128 16
                    have ie861 : ivh66 a0 16 = ivh64 a0 16 := fl66.i ty128 rfl 16
                    have ie862 : ivh64 a0 16 = ivb7 a0 16 := fl64.i ty128 rfl 16
                    have F57 := F52.call Xb7 fl72 rfl
                    have mr57 := MRK.call mr52 W66 skb7 XT.refl fl72 rfl rfl
                    refine c_st (st2 := [.int (iI f72)]) rfl ?_
                    have gk11f72 : ivh72 a0 11 = ivh66 a0 11 := kp11f72
                    have gk12f72 : ivh72 a0 12 = ivh66 a0 12 := kp12f72
                    have gk13f72 : ivh72 a0 13 = ivh66 a0 13 := kp13f72
                    have gk14f72 : ivh72 a0 14 = ivh66 a0 14 := kp14f72
                    have gk15f72 : ivh72 a0 15 = ivh66 a0 15 := kp15f72
                    have gk16f72 : ivh72 a0 16 = ivh66 a0 16 := kp16f72
                    have gf72 : f72 = -1 := exf72
                    have ri548 : 0 ≤ ivh72 (sk 2) 2 ∧ ivh72 (sk 2) 2 ≤ 3000 := W72.int ty129 2
                    have ie864 : ivh72 (sk 2) 2 = ivh66 (sk 2) 2 := fl72.i ty129 rfl 2
                    have ie865 : ivh66 (sk 2) 2 = ivh64 (sk 2) 2 := fl66.i ty129 rfl 2
                    have ri549 : 1 ≤ ivh72 a0 11 ∧ ivh72 a0 11 ≤ 100 := W72.int ty128 11
                    have ri550 : 1 ≤ ivh72 a0 12 ∧ ivh72 a0 12 ≤ 50 := W72.int ty128 12
                    have ri551 : (-2147483648) ≤ ivh72 a0 13 ∧ ivh72 a0 13 ≤ 2147483647 := W72.int ty128 13
                    have ri552 : (-2147483648) ≤ ivh72 a0 14 ∧ ivh72 a0 14 ≤ 2147483647 := W72.int ty128 14
                    have ri553 : (-2147483648) ≤ ivh72 a0 15 ∧ ivh72 a0 15 ≤ 2147483647 := W72.int ty128 15
                    have ri554 : (-2147483648) ≤ ivh72 a0 16 ∧ ivh72 a0 16 ≤ 2147483647 := W72.int ty128 16
                    exact c_iret C dX11_head_151 rfl (by decide) (rom0 hph pl23 (by decide)) ⟨f72, rfl, Xb7, F57, W72, ⟨by omega, by omega⟩, trivial, (by omega), (by omega), (by omega), (by omega), (by omega), (by omega), (by omega), (show rvb7 a0 9 = rv a0 9 from hkr9), (show rvb7 a0 10 = rv a0 10 from hkr10)⟩
                · subst oq6
                  refine c_lv (lv2 := [(3, .null), (2, .int (iI fl)), (0, .ref a0), (1, .int (iI i))]) [0, 1, 2, 3] rfl ?_
                  refine c_st (st2 := []) rfl ?_
                  refine c_aload_n (j := 2) (x := a0) C dX11_head_117 rfl ?_
                  refine c_iconst C dX11_head_118 ?_
                  refine d_callV (As := [.int (iI 3)]) (rest := []) C hM (C_refuse (a0 := a0) (x := 3) W64 skb7 ty128 ⟨by decide, by decide⟩ ) dX11_head_119 kV_X11_102 rfl ty128 rfl rfl (by decide) ck_12 rfl (Nat.le_of_ble_eq_true rfl) ⟨(Nat.le_of_ble_eq_true rfl), (Nat.le_of_ble_eq_true rfl)⟩ hph pl23 (show 0 + 0 = 0 from rfl) (by decide) (fun rh73 Lh73 clh73 lnh73 ivh73 rvh73 h73 => ?_)
                  obtain ⟨f73, rfl, rfl, rfl, rfl, rfl, fl73, W73, rgf73, exf73, kp11f73, kp12f73, kp13f73, kp14f73, kp15f73, kp16f73⟩ := h73
                  have ri555 : 1 ≤ ivh64 a0 11 ∧ ivh64 a0 11 ≤ 100 := W64.int ty128 11
                  have ie872 : ivh64 a0 11 = ivb7 a0 11 := fl64.i ty128 rfl 11
                  have ri556 : 1 ≤ ivh64 a0 12 ∧ ivh64 a0 12 ≤ 50 := W64.int ty128 12
                  have ie874 : ivh64 a0 12 = ivb7 a0 12 := fl64.i ty128 rfl 12
                  have ri557 : (-2147483648) ≤ ivh64 a0 13 ∧ ivh64 a0 13 ≤ 2147483647 := W64.int ty128 13
                  have ie876 : ivh64 a0 13 = ivb7 a0 13 := fl64.i ty128 rfl 13
                  have ri558 : (-2147483648) ≤ ivh64 a0 14 ∧ ivh64 a0 14 ≤ 2147483647 := W64.int ty128 14
                  have ie878 : ivh64 a0 14 = ivb7 a0 14 := fl64.i ty128 rfl 14
                  have ri559 : (-2147483648) ≤ ivh64 a0 15 ∧ ivh64 a0 15 ≤ 2147483647 := W64.int ty128 15
                  have ie880 : ivh64 a0 15 = ivb7 a0 15 := fl64.i ty128 rfl 15
                  have ri560 : (-2147483648) ≤ ivh64 a0 16 ∧ ivh64 a0 16 ≤ 2147483647 := W64.int ty128 16
                  have ie882 : ivh64 a0 16 = ivb7 a0 16 := fl64.i ty128 rfl 16
                  have F58 := F51.call Xb7 fl73 rfl
                  have mr58 := MRK.call mr51 W64 skb7 XT.refl fl73 rfl rfl
                  refine c_st (st2 := [.int (iI f73)]) rfl ?_
                  have gk11f73 : ivh73 a0 11 = ivh64 a0 11 := kp11f73
                  have gk12f73 : ivh73 a0 12 = ivh64 a0 12 := kp12f73
                  have gk13f73 : ivh73 a0 13 = ivh64 a0 13 := kp13f73
                  have gk14f73 : ivh73 a0 14 = ivh64 a0 14 := kp14f73
                  have gk15f73 : ivh73 a0 15 = ivh64 a0 15 := kp15f73
                  have gk16f73 : ivh73 a0 16 = ivh64 a0 16 := kp16f73
                  have gf73 : f73 = -1 := exf73
                  have ri561 : 0 ≤ ivh73 (sk 2) 2 ∧ ivh73 (sk 2) 2 ≤ 3000 := W73.int ty129 2
                  have ie884 : ivh73 (sk 2) 2 = ivh64 (sk 2) 2 := fl73.i ty129 rfl 2
                  have ri562 : 1 ≤ ivh73 a0 11 ∧ ivh73 a0 11 ≤ 100 := W73.int ty128 11
                  have ri563 : 1 ≤ ivh73 a0 12 ∧ ivh73 a0 12 ≤ 50 := W73.int ty128 12
                  have ri564 : (-2147483648) ≤ ivh73 a0 13 ∧ ivh73 a0 13 ≤ 2147483647 := W73.int ty128 13
                  have ri565 : (-2147483648) ≤ ivh73 a0 14 ∧ ivh73 a0 14 ≤ 2147483647 := W73.int ty128 14
                  have ri566 : (-2147483648) ≤ ivh73 a0 15 ∧ ivh73 a0 15 ≤ 2147483647 := W73.int ty128 15
                  have ri567 : (-2147483648) ≤ ivh73 a0 16 ∧ ivh73 a0 16 ≤ 2147483647 := W73.int ty128 16
                  exact c_iret C dX11_head_122 rfl (by decide) (rom0 hph pl23 (by decide)) ⟨f73, rfl, Xb7, F58, W73, ⟨by omega, by omega⟩, trivial, (by omega), (by omega), (by omega), (by omega), (by omega), (by omega), (by omega), (show rvb7 a0 9 = rv a0 9 from hkr9), (show rvb7 a0 10 = rv a0 10 from hkr10)⟩
              · refine c_aload_n (j := 2) (x := a0) C dX11_head_97 rfl ?_
                refine c_bipush (z := 6) C dX11_head_98 (by decide) ?_
                refine d_callV (As := [.int (iI 6)]) (rest := []) C hM (C_refuse (a0 := a0) (x := 6) W64 skb7 ty128 ⟨by decide, by decide⟩ ) dX11_head_100 kV_X11_102 rfl ty128 rfl rfl (by decide) ck_12 rfl (Nat.le_of_ble_eq_true rfl) ⟨(Nat.le_of_ble_eq_true rfl), (Nat.le_of_ble_eq_true rfl)⟩ hph pl23 (show 0 + 0 = 0 from rfl) (by decide) (fun rh74 Lh74 clh74 lnh74 ivh74 rvh74 h74 => ?_)
                obtain ⟨f74, rfl, rfl, rfl, rfl, rfl, fl74, W74, rgf74, exf74, kp11f74, kp12f74, kp13f74, kp14f74, kp15f74, kp16f74⟩ := h74
                have ri568 : 1 ≤ ivh64 a0 11 ∧ ivh64 a0 11 ≤ 100 := W64.int ty128 11
                have ie891 : ivh64 a0 11 = ivb7 a0 11 := fl64.i ty128 rfl 11
                have ri569 : 1 ≤ ivh64 a0 12 ∧ ivh64 a0 12 ≤ 50 := W64.int ty128 12
                have ie893 : ivh64 a0 12 = ivb7 a0 12 := fl64.i ty128 rfl 12
                have ri570 : (-2147483648) ≤ ivh64 a0 13 ∧ ivh64 a0 13 ≤ 2147483647 := W64.int ty128 13
                have ie895 : ivh64 a0 13 = ivb7 a0 13 := fl64.i ty128 rfl 13
                have ri571 : (-2147483648) ≤ ivh64 a0 14 ∧ ivh64 a0 14 ≤ 2147483647 := W64.int ty128 14
                have ie897 : ivh64 a0 14 = ivb7 a0 14 := fl64.i ty128 rfl 14
                have ri572 : (-2147483648) ≤ ivh64 a0 15 ∧ ivh64 a0 15 ≤ 2147483647 := W64.int ty128 15
                have ie899 : ivh64 a0 15 = ivb7 a0 15 := fl64.i ty128 rfl 15
                have ri573 : (-2147483648) ≤ ivh64 a0 16 ∧ ivh64 a0 16 ≤ 2147483647 := W64.int ty128 16
                have ie901 : ivh64 a0 16 = ivb7 a0 16 := fl64.i ty128 rfl 16
                have F59 := F51.call Xb7 fl74 rfl
                have mr59 := MRK.call mr51 W64 skb7 XT.refl fl74 rfl rfl
                refine c_st (st2 := [.int (iI f74)]) rfl ?_
                have gk11f74 : ivh74 a0 11 = ivh64 a0 11 := kp11f74
                have gk12f74 : ivh74 a0 12 = ivh64 a0 12 := kp12f74
                have gk13f74 : ivh74 a0 13 = ivh64 a0 13 := kp13f74
                have gk14f74 : ivh74 a0 14 = ivh64 a0 14 := kp14f74
                have gk15f74 : ivh74 a0 15 = ivh64 a0 15 := kp15f74
                have gk16f74 : ivh74 a0 16 = ivh64 a0 16 := kp16f74
                have gf74 : f74 = -1 := exf74
                have ri574 : 0 ≤ ivh74 (sk 2) 2 ∧ ivh74 (sk 2) 2 ≤ 3000 := W74.int ty129 2
                have ie903 : ivh74 (sk 2) 2 = ivh64 (sk 2) 2 := fl74.i ty129 rfl 2
                have ri575 : 1 ≤ ivh74 a0 11 ∧ ivh74 a0 11 ≤ 100 := W74.int ty128 11
                have ri576 : 1 ≤ ivh74 a0 12 ∧ ivh74 a0 12 ≤ 50 := W74.int ty128 12
                have ri577 : (-2147483648) ≤ ivh74 a0 13 ∧ ivh74 a0 13 ≤ 2147483647 := W74.int ty128 13
                have ri578 : (-2147483648) ≤ ivh74 a0 14 ∧ ivh74 a0 14 ≤ 2147483647 := W74.int ty128 14
                have ri579 : (-2147483648) ≤ ivh74 a0 15 ∧ ivh74 a0 15 ≤ 2147483647 := W74.int ty128 15
                have ri580 : (-2147483648) ≤ ivh74 a0 16 ∧ ivh74 a0 16 ≤ 2147483647 := W74.int ty128 16
                exact c_iret C dX11_head_103 rfl (by decide) (rom0 hph pl23 (by decide)) ⟨f74, rfl, Xb7, F59, W74, ⟨by omega, by omega⟩, trivial, (by omega), (by omega), (by omega), (by omega), (by omega), (by omega), (by omega), (show rvb7 a0 9 = rv a0 9 from hkr9), (show rvb7 a0 10 = rv a0 10 from hkr10)⟩
            · refine c_aload_n (j := 2) (x := a0) C dX11_head_64 rfl ?_
              obtain ⟨rb61, rq61, trb61⟩ := Wb7.ref ty128 6 rfl rfl rfl
              have erb61 := Wb7.sk trb61 (by decide) rfl
              subst erb61
              refine c_getr (k := 6) C ck_12 dX11_head_65 w2_50 (by decide) ty128 rfl rfl (by decide) rfl rq61 ?_
              refine c_st (st2 := [.ref (sk 15)]) rfl ?_
              refine c_aload_n (j := 2) (x := a0) C dX11_head_68 rfl ?_
              refine c_getr (k := 0) C ck_12 dX11_head_69 w2_44 (by decide) ty128 rfl rfl (by decide) rfl rq52 ?_
              refine c_st (st2 := [.ref (sk 2), .ref (sk 15)]) rfl ?_
              refine c_iload_n (j := 1) C dX11_head_72 rfl ?_
              have pl27 := Phi.le Wb7 skb7
              refine d_callV (As := [.int (iI k)]) (rest := [.ref (sk 15)]) C hM (C_at_2 (a0 := (sk 2)) (i := k) Wb7 skb7 ty129 (by omega) ) dX11_head_73 kV_X11_224 rfl ty129 rfl rfl (by decide) ck_2 rfl (Nat.le_of_ble_eq_true rfl) ⟨(Nat.le_of_ble_eq_true rfl), (Nat.le_of_ble_eq_true rfl)⟩ hph pl27 (show 0 + 0 = 0 from rfl) (by decide) (fun rh75 Lh75 clh75 lnh75 ivh75 rvh75 h75 => ?_)
              obtain ⟨f75, rfl, rfl, rfl, rfl, rfl, rfl, rgf75, exf75⟩ := h75
              refine c_st (st2 := [.int (iI f75), .ref (sk 15)]) rfl ?_
              have gf75 : ((0 ≤ k ∧ k < ivb7 (sk 2) 2) ∨ f75 = 0) ∧ ∀ ss, CT ivb7 rvb7 (sk 2) ss → 0 ≤ k → k < ivb7 (sk 2) 2 → f75 = ss k.toNat := exf75
              refine c_iload_n (j := 1) C dX11_head_76 rfl ?_
              have ty153 := Xb7.ty tsk15
              refine d_callV (As := [.int (iI f75), .int (iI k)]) (rest := []) C hM (C_put (a0 := (sk 15)) (x := f75) (y := k) Wb7 skb7 ty153 (by omega) (by omega) ) dX11_head_77 kV_X11_273 rfl ty153 rfl rfl (by decide) ck_7 rfl (Nat.le_of_ble_eq_true rfl) ⟨(Nat.le_of_ble_eq_true rfl), (Nat.le_of_ble_eq_true rfl)⟩ hph pl27 (show 0 + 0 = 0 from rfl) (by decide) (fun rh76 Lh76 clh76 lnh76 ivh76 rvh76 h76 => ?_)
              obtain ⟨rfl, rfl, rfl, rfl, rfl, fl76, W76, exf76⟩ := h76
              have F60 := Fb7.call Xb7 fl76 rfl
              have mr60 := MRK.call mrb7 Wb7 skb7 XT.refl fl76 rfl rfl
              refine c_st (st2 := []) rfl ?_
              refine c_iinc (z := k) (j := 1) (lv2 := [(3, .int (iI (k + 1))), (2, .int (iI fl)), (0, .ref a0), (1, .int (iI i))]) C dX11_head_80 rfl (by decide) rfl ?_
              refine c_goto (tgt := 49) C dX11_head_83 (by decide) ?_
              have ri581 : 1 ≤ ivh76 a0 11 ∧ ivh76 a0 11 ≤ 100 := W76.int ty128 11
              have ie910 : ivh76 a0 11 = ivb7 a0 11 := fl76.i ty128 rfl 11
              have ri582 : 1 ≤ ivh76 a0 12 ∧ ivh76 a0 12 ≤ 50 := W76.int ty128 12
              have ie912 : ivh76 a0 12 = ivb7 a0 12 := fl76.i ty128 rfl 12
              have ri583 : (-2147483648) ≤ ivh76 a0 13 ∧ ivh76 a0 13 ≤ 2147483647 := W76.int ty128 13
              have ie914 : ivh76 a0 13 = ivb7 a0 13 := fl76.i ty128 rfl 13
              have ri584 : (-2147483648) ≤ ivh76 a0 14 ∧ ivh76 a0 14 ≤ 2147483647 := W76.int ty128 14
              have ie916 : ivh76 a0 14 = ivb7 a0 14 := fl76.i ty128 rfl 14
              have ri585 : (-2147483648) ≤ ivh76 a0 15 ∧ ivh76 a0 15 ≤ 2147483647 := W76.int ty128 15
              have ie918 : ivh76 a0 15 = ivb7 a0 15 := fl76.i ty128 rfl 15
              have ri586 : (-2147483648) ≤ ivh76 a0 16 ∧ ivh76 a0 16 ≤ 2147483647 := W76.int ty128 16
              have ie920 : ivh76 a0 16 = ivb7 a0 16 := fl76.i ty128 rfl 16
              refine c_lv (lv2 := [(2, .int (iI fl)), (3, .int (iI (k + 1))), (0, .ref a0), (1, .int (iI i))]) [1, 0, 2, 3] rfl ?_
              exact ih7  fl (k + 1) _ _ _ _ _ (by omega) Xb7 W76 F60  (by omega) (by omega) (by show ivh76 a0 11 = iv a0 11; omega) (by show ivh76 a0 12 = iv a0 12; omega) (by show ivh76 a0 13 = iv a0 13; omega) (by show ivh76 a0 14 = iv a0 14; omega) (by show ivh76 a0 15 = iv a0 15; omega) (by show ivh76 a0 16 = iv a0 16; omega) (show rvb7 a0 9 = rv a0 9 from hkr9) (show rvb7 a0 10 = rv a0 10 from hkr10)
      have ri587 : 1 ≤ ivh52 a0 11 ∧ ivh52 a0 11 ≤ 100 := W52.int t_a0 11
      have ie922 : ivh52 a0 11 = iv a0 11 := fl52.i t_a0 rfl 11
      have ri588 : 1 ≤ ivh52 a0 12 ∧ ivh52 a0 12 ≤ 50 := W52.int t_a0 12
      have ie923 : ivh52 a0 12 = iv a0 12 := fl52.i t_a0 rfl 12
      have ri589 : (-2147483648) ≤ ivh52 a0 13 ∧ ivh52 a0 13 ≤ 2147483647 := W52.int t_a0 13
      have ie924 : ivh52 a0 13 = iv a0 13 := fl52.i t_a0 rfl 13
      have ri590 : (-2147483648) ≤ ivh52 a0 14 ∧ ivh52 a0 14 ≤ 2147483647 := W52.int t_a0 14
      have ie925 : ivh52 a0 14 = iv a0 14 := fl52.i t_a0 rfl 14
      have ri591 : (-2147483648) ≤ ivh52 a0 15 ∧ ivh52 a0 15 ≤ 2147483647 := W52.int t_a0 15
      have ie926 : ivh52 a0 15 = iv a0 15 := fl52.i t_a0 rfl 15
      have ri592 : (-2147483648) ≤ ivh52 a0 16 ∧ ivh52 a0 16 ≤ 2147483647 := W52.int t_a0 16
      have ie927 : ivh52 a0 16 = iv a0 16 := fl52.i t_a0 rfl 16
      refine c_lv (lv2 := [(2, .int (iI 1)), (3, .int (iI 0)), (0, .ref a0), (1, .int (iI i))]) [1, 0, 2, 3] rfl ?_
      exact Lp7 3003 1 0 _ _ _ _ _ (by omega) hX0 W52 F41  (by omega) (by omega) (by show ivh52 a0 11 = iv a0 11; omega) (by show ivh52 a0 12 = iv a0 12; omega) (by show ivh52 a0 13 = iv a0 13; omega) (by show ivh52 a0 14 = iv a0 14; omega) (by show ivh52 a0 15 = iv a0 15; omega) (by show ivh52 a0 16 = iv a0 16; omega) rfl rfl
set_option maxHeartbeats 4000000 in
set_option maxRecDepth 100000 in
theorem C_lines {l : Launch} {G : GT} {mi : Nat} {sk : Nat → Nat} {L : List Nat} {cl ln : Nat → Nat} {iv : Nat → Nat → Int} {rv : Nat → Nat → Option Nat}  {a0 : Nat} (hW : WT (g0 G) sk L cl ln iv rv) (hS : SKL sk L cl) (t_a0 : ty L cl a0 1)  : Mc l G mi (Phi (g0 G) sk) PHM yX11_lines cX11_lines 1 (some .int) 0 [.ref a0] L cl ln iv rv 0 (fun v L2 cl2 ln2 iv2 rv2 => ∃ f : Int, v = some (.int (iI f)) ∧ L = L2 ∧ cl = cl2 ∧ ln = ln2 ∧ iv = iv2 ∧ rv = rv2 ∧ (-2147483648 ≤ f ∧ f ≤ 2147483647) ∧ (True)) := by
  refine Mc.mk (by decide) (Nat.le_of_ble_eq_true rfl) ?_
  intro p e s m args below meth c A C hM
  have hph := Phi.le hW hS
  have hX0 : XT L cl ln L cl ln := XT.refl
  have hF0 : fT [] L cl iv rv iv rv := fT.refl
  refine c_aload_n (j := 0) (x := a0) C dX11_lines_0 rfl ?_
  obtain ⟨rb1, rq1, trb1⟩ := hW.ref t_a0 9 rfl rfl rfl
  refine c_getr (k := 9) C ck_12 dX11_lines_1 w2_53 (by decide) t_a0 rfl rfl (by decide) rfl rq1 ?_
  refine c_st (st2 := [.ref rb1]) rfl ?_
  have ri1 : 0 ≤ iv rb1 1 ∧ iv rb1 1 ≤ 200 := hW.int trb1 1
  refine c_get (k := 1) C ck_8 dX11_lines_4 w2_35 (by decide) trb1 rfl rfl (by decide) rfl ?_
  exact c_iret C dX11_lines_7 rfl (by decide) (rom0 hph hph (by decide)) ⟨(iv rb1 1), rfl, rfl, rfl, rfl, rfl, rfl, ⟨by omega, by omega⟩, trivial⟩
set_option maxHeartbeats 4000000 in
set_option maxRecDepth 100000 in
theorem C_hasHeader {l : Launch} {G : GT} {mi : Nat} {sk : Nat → Nat} {L : List Nat} {cl ln : Nat → Nat} {iv : Nat → Nat → Int} {rv : Nat → Nat → Option Nat}  {a0 : Nat} (hW : WT (g0 G) sk L cl ln iv rv) (hS : SKL sk L cl) (t_a0 : ty L cl a0 1)  : Mc l G mi (Phi (g0 G) sk) PHM yX11_pagesHaveHeader cX11_pagesHaveHeader 1 (some .boolean) 0 [.ref a0] L cl ln iv rv 0 (fun v L2 cl2 ln2 iv2 rv2 => ∃ f : Int, v = some (.int (iI f)) ∧ L = L2 ∧ cl = cl2 ∧ ln = ln2 ∧ iv = iv2 ∧ rv = rv2 ∧ (f = 0 ∨ f = 1) ∧ (f = 0 ∨ 2 ≤ iv a0 12)) := by
  refine Mc.mk (by decide) (Nat.le_of_ble_eq_true rfl) ?_
  intro p e s m args below meth c A C hM
  have hph := Phi.le hW hS
  have tsk2 : ty L cl (sk 2) 2 := ⟨(hS 2 rfl).1, by rw [(hS 2 rfl).2]; rfl⟩
  have tsk3 : ty L cl (sk 3) 3 := ⟨(hS 3 rfl).1, by rw [(hS 3 rfl).2]; rfl⟩
  have tsk4 : ty L cl (sk 4) 4 := ⟨(hS 4 rfl).1, by rw [(hS 4 rfl).2]; rfl⟩
  have tsk5 : ty L cl (sk 5) 5 := ⟨(hS 5 rfl).1, by rw [(hS 5 rfl).2]; rfl⟩
  have tsk13 : ty L cl (sk 13) 13 := ⟨(hS 13 rfl).1, by rw [(hS 13 rfl).2]; rfl⟩
  have tsk14 : ty L cl (sk 14) 14 := ⟨(hS 14 rfl).1, by rw [(hS 14 rfl).2]; rfl⟩
  have tsk15 : ty L cl (sk 15) 15 := ⟨(hS 15 rfl).1, by rw [(hS 15 rfl).2]; rfl⟩
  have tsk16 : ty L cl (sk 16) 16 := ⟨(hS 16 rfl).1, by rw [(hS 16 rfl).2]; rfl⟩
  have tsk17 : ty L cl (sk 17) 17 := ⟨(hS 17 rfl).1, by rw [(hS 17 rfl).2]; rfl⟩
  have tsk22 : ty L cl (sk 22) 22 := ⟨(hS 22 rfl).1, by rw [(hS 22 rfl).2]; rfl⟩
  have tsk23 : ty L cl (sk 23) 23 := ⟨(hS 23 rfl).1, by rw [(hS 23 rfl).2]; rfl⟩
  have hX0 : XT L cl ln L cl ln := XT.refl
  have hF0 : fT [] L cl iv rv iv rv := fT.refl
  refine c_aload_n (j := 0) (x := a0) C dX11_pagesHaveHeader_0 rfl ?_
  obtain ⟨rb1, rq1, trb1⟩ := hW.ref t_a0 3 rfl rfl rfl
  have erb1 := hW.sk trb1 (by decide) rfl
  subst erb1
  refine c_getr (k := 3) C ck_12 dX11_pagesHaveHeader_1 w2_47 (by decide) t_a0 rfl rfl (by decide) rfl rq1 ?_
  refine c_st (st2 := [.ref (sk 5)]) rfl ?_
  have ri1 : 0 ≤ iv (sk 5) 2 ∧ iv (sk 5) 2 ≤ 200 := hW.int tsk5 2
  refine c_get (k := 2) C ck_2 dX11_pagesHaveHeader_4 w1_44 (by decide) tsk5 rfl rfl (by decide) rfl ?_
  refine c_if_le (tgt := 22) C ⟨by omega, by omega⟩ dX11_pagesHaveHeader_7 (by decide) (fun c1 => ?_) (fun c1 => ?_)
  · refine c_iconst C dX11_pagesHaveHeader_22 ?_
    exact c_zret C dX11_pagesHaveHeader_23 rfl (Or.inl rfl) (by decide) (rom0 hph hph (by decide)) ⟨0, rfl, rfl, rfl, rfl, rfl, rfl, (Or.inl rfl), (by omega)⟩
  · refine c_aload_n (j := 0) (x := a0) C dX11_pagesHaveHeader_10 rfl ?_
    have ri2 : 1 ≤ iv a0 12 ∧ iv a0 12 ≤ 50 := hW.int t_a0 12
    refine c_get (k := 12) C ck_12 dX11_pagesHaveHeader_11 w2_56 (by decide) t_a0 rfl rfl (by decide) rfl ?_
    refine c_iconst C dX11_pagesHaveHeader_14 ?_
    refine c_icmp_lt (tgt := 22) C ⟨by omega, by omega⟩ ⟨by decide, by decide⟩ dX11_pagesHaveHeader_15 (by decide) (fun c2 => ?_) (fun c2 => ?_)
    · refine c_iconst C dX11_pagesHaveHeader_22 ?_
      exact c_zret C dX11_pagesHaveHeader_23 rfl (Or.inl rfl) (by decide) (rom0 hph hph (by decide)) ⟨0, rfl, rfl, rfl, rfl, rfl, rfl, (Or.inl rfl), (by omega)⟩
    · refine c_iconst C dX11_pagesHaveHeader_18 ?_
      refine c_goto (tgt := 23) C dX11_pagesHaveHeader_19 (by decide) ?_
      exact c_zret C dX11_pagesHaveHeader_23 rfl (Or.inr rfl) (by decide) (rom0 hph hph (by decide)) ⟨1, rfl, rfl, rfl, rfl, rfl, rfl, (Or.inr rfl), (by omega)⟩
set_option maxHeartbeats 4000000 in
set_option maxRecDepth 100000 in
theorem C_linesOfPage {l : Launch} {G : GT} {mi : Nat} {sk : Nat → Nat} {L : List Nat} {cl ln : Nat → Nat} {iv : Nat → Nat → Int} {rv : Nat → Nat → Option Nat}  {a0 : Nat} (hW : WT (g0 G) sk L cl ln iv rv) (hS : SKL sk L cl) (t_a0 : ty L cl a0 1)  : Mc l G mi (Phi (g0 G) sk) PHM yX11_linesOfPage cX11_linesOfPage 1 (some .int) 1 [.ref a0] L cl ln iv rv 0 (fun v L2 cl2 ln2 iv2 rv2 => ∃ f : Int, v = some (.int (iI f)) ∧ L = L2 ∧ cl = cl2 ∧ ln = ln2 ∧ iv = iv2 ∧ rv = rv2 ∧ (-2147483648 ≤ f ∧ f ≤ 2147483647) ∧ (1 ≤ f ∧ f ≤ 50)) := by
  refine Mc.mk (by decide) (Nat.le_of_ble_eq_true rfl) ?_
  intro p e s m args below meth c A C hM
  have hph := Phi.le hW hS
  have hX0 : XT L cl ln L cl ln := XT.refl
  have hF0 : fT [] L cl iv rv iv rv := fT.refl
  refine c_iconst C dX11_linesOfPage_0 ?_
  refine c_aload_n (j := 0) (x := a0) C dX11_linesOfPage_1 rfl ?_
  have ri1 : 1 ≤ iv a0 12 ∧ iv a0 12 ≤ 50 := hW.int t_a0 12
  refine d_callV (As := []) (rest := [.int (iI 1)]) C hM (C_hasHeader (a0 := a0) hW hS t_a0  ) dX11_linesOfPage_2 kV_X11_285 rfl t_a0 rfl rfl (by decide) ck_12 rfl (Nat.le_of_ble_eq_true rfl) ⟨(Nat.le_of_ble_eq_true rfl), (Nat.le_of_ble_eq_true rfl)⟩ hph hph (show 0 + 0 = 0 from rfl) (by decide) (fun rh1 Lh1 clh1 lnh1 ivh1 rvh1 h1 => ?_)
  obtain ⟨f1, rfl, rfl, rfl, rfl, rfl, rfl, rgf1, exf1⟩ := h1
  refine c_st (st2 := [.int (iI f1), .int (iI 1)]) rfl ?_
  have gf1 : f1 = 0 ∨ 2 ≤ iv a0 12 := exf1
  refine c_if_eq (tgt := 17) C ⟨by omega, by omega⟩ dX11_linesOfPage_5 (by decide) (fun c1 => ?_) (fun c1 => ?_)
  · refine c_aload_n (j := 0) (x := a0) C dX11_linesOfPage_17 rfl ?_
    refine c_get (k := 12) C ck_12 dX11_linesOfPage_18 w2_56 (by decide) t_a0 rfl rfl (by decide) rfl ?_
    obtain ⟨mn1, hmn1, emn1⟩ := mmax_c (x := 1) (y := iv a0 12) ⟨by decide, by decide⟩ ⟨by omega, by omega⟩
    refine c_mmax (w := iI mn1) C dX11_linesOfPage_21 w3_93 w2_148 w1_14 w2_149 (by decide) (rom0 hph hph (by decide)) (Nat.le_of_ble_eq_true rfl) emn1 ?_
    exact c_iret C dX11_linesOfPage_24 rfl (by decide) (rom0 hph hph (by decide)) ⟨mn1, rfl, rfl, rfl, rfl, rfl, rfl, ⟨by omega, by omega⟩, (by omega)⟩
  · refine c_aload_n (j := 0) (x := a0) C dX11_linesOfPage_8 rfl ?_
    refine c_get (k := 12) C ck_12 dX11_linesOfPage_9 w2_56 (by decide) t_a0 rfl rfl (by decide) rfl ?_
    refine c_iconst C dX11_linesOfPage_12 ?_
    refine c_isub C dX11_linesOfPage_13 ?_
    refine c_goto (tgt := 21) C dX11_linesOfPage_14 (by decide) ?_
    obtain ⟨mn2, hmn2, emn2⟩ := mmax_c (x := 1) (y := (iv a0 12) - 1) ⟨by decide, by decide⟩ ⟨by omega, by omega⟩
    refine c_mmax (w := iI mn2) C dX11_linesOfPage_21 w3_93 w2_148 w1_14 w2_149 (by decide) (rom0 hph hph (by decide)) (Nat.le_of_ble_eq_true rfl) emn2 ?_
    exact c_iret C dX11_linesOfPage_24 rfl (by decide) (rom0 hph hph (by decide)) ⟨mn2, rfl, rfl, rfl, rfl, rfl, rfl, ⟨by omega, by omega⟩, (by omega)⟩
set_option maxHeartbeats 4000000 in
set_option maxRecDepth 100000 in
theorem C_pages {l : Launch} {G : GT} {mi : Nat} {sk : Nat → Nat} {L : List Nat} {cl ln : Nat → Nat} {iv : Nat → Nat → Int} {rv : Nat → Nat → Option Nat}  {a0 : Nat} (hW : WT (g0 G) sk L cl ln iv rv) (hS : SKL sk L cl) (t_a0 : ty L cl a0 1)  : Mc l G mi (Phi (g0 G) sk) PHM yX11_pages cX11_pages 2 (some .int) 2 [.ref a0] L cl ln iv rv 0 (fun v L2 cl2 ln2 iv2 rv2 => ∃ f : Int, v = some (.int (iI f)) ∧ L = L2 ∧ cl = cl2 ∧ ln = ln2 ∧ iv = iv2 ∧ rv = rv2 ∧ (-2147483648 ≤ f ∧ f ≤ 2147483647) ∧ (True)) := by
  refine Mc.mk (by decide) (Nat.le_of_ble_eq_true rfl) ?_
  intro p e s m args below meth c A C hM
  have hph := Phi.le hW hS
  have hX0 : XT L cl ln L cl ln := XT.refl
  have hF0 : fT [] L cl iv rv iv rv := fT.refl
  refine c_aload_n (j := 0) (x := a0) C dX11_pages_0 rfl ?_
  refine d_callV (As := []) (rest := []) C hM (C_linesOfPage (a0 := a0) hW hS t_a0  ) dX11_pages_1 kV_X11_282 rfl t_a0 rfl rfl (by decide) ck_12 rfl (Nat.le_of_ble_eq_true rfl) ⟨(Nat.le_of_ble_eq_true rfl), (Nat.le_of_ble_eq_true rfl)⟩ hph hph (show 0 + 0 = 0 from rfl) (by decide) (fun rh1 Lh1 clh1 lnh1 ivh1 rvh1 h1 => ?_)
  obtain ⟨f1, rfl, rfl, rfl, rfl, rfl, rfl, rgf1, exf1⟩ := h1
  refine c_st (st2 := [.int (iI f1)]) rfl ?_
  have gf1 : 1 ≤ f1 ∧ f1 ≤ 50 := exf1
  refine c_istore_n (lv2 := [(1, .int (iI f1)), (0, .ref a0)]) C dX11_pages_4 (by decide) rfl ?_
  refine c_aload_n (j := 1) (x := a0) C dX11_pages_5 rfl ?_
  obtain ⟨rb1, rq1, trb1⟩ := hW.ref t_a0 9 rfl rfl rfl
  refine c_getr (k := 9) C ck_12 dX11_pages_6 w2_53 (by decide) t_a0 rfl rfl (by decide) rfl rq1 ?_
  refine c_st (st2 := [.ref rb1]) rfl ?_
  have ri1 : 0 ≤ iv rb1 1 ∧ iv rb1 1 ≤ 200 := hW.int trb1 1
  refine c_get (k := 1) C ck_8 dX11_pages_9 w2_35 (by decide) trb1 rfl rfl (by decide) rfl ?_
  refine c_iload_n (j := 0) C dX11_pages_12 rfl ?_
  refine c_iadd C dX11_pages_13 ?_
  refine c_iconst C dX11_pages_14 ?_
  refine c_isub C dX11_pages_15 ?_
  refine c_iload_n (j := 0) C dX11_pages_16 rfl ?_
  obtain ⟨dq1, hdq1⟩ : ∃ q : Int, q = (((iv rb1 1) + f1) - 1) / f1 := ⟨_, rfl⟩
  have rdq1 := ediv_r (x := ((iv rb1 1) + f1) - 1) (y := f1) (by omega) (by omega)
  rw [← hdq1] at rdq1
  refine c_idiv (w := iI dq1) C dX11_pages_17 (iI_ne0 ⟨by omega, by omega⟩) (by rw [hdq1]; exact iI_div ⟨by omega, by omega⟩ ⟨by omega, by omega⟩) ?_
  exact c_iret C dX11_pages_18 rfl (by decide) (rom0 hph hph (by decide)) ⟨dq1, rfl, rfl, rfl, rfl, rfl, rfl, ⟨by omega, by omega⟩, trivial⟩
set_option maxHeartbeats 4000000 in
set_option maxRecDepth 100000 in
theorem C_length {l : Launch} {G : GT} {mi : Nat} {sk : Nat → Nat} {L : List Nat} {cl ln : Nat → Nat} {iv : Nat → Nat → Int} {rv : Nat → Nat → Option Nat}  {a0 : Nat} {i : Int} (hW : WT (g0 G) sk L cl ln iv rv) (hS : SKL sk L cl) (t_a0 : ty L cl a0 1) (h_i : -2147483648 ≤ i ∧ i ≤ 2147483647)  : Mc l G mi (Phi (g0 G) sk) PHM yX11_length cX11_length 3 (some .int) 2 [.ref a0, .int (iI i)] L cl ln iv rv 0 (fun v L2 cl2 ln2 iv2 rv2 => ∃ f : Int, v = some (.int (iI f)) ∧ L = L2 ∧ cl = cl2 ∧ ln = ln2 ∧ rv = rv2 ∧ fT [1] L cl iv rv iv2 rv2 ∧ WT (g0 G) sk L2 cl2 ln2 iv2 rv2 ∧ (-2147483648 ≤ f ∧ f ≤ 2147483647) ∧ (True) ∧ iv2 a0 11 = iv a0 11 ∧ iv2 a0 12 = iv a0 12 ∧ iv2 a0 13 = iv a0 13 ∧ iv2 a0 14 = iv a0 14 ∧ iv2 a0 15 = iv a0 15 ∧ iv2 a0 16 = iv a0 16) := by
  refine Mc.mk (by decide) (Nat.le_of_ble_eq_true rfl) ?_
  intro p e s m args below meth c A C hM
  have hph := Phi.le hW hS
  have hX0 : XT L cl ln L cl ln := XT.refl
  have hF0 : fT [1] L cl iv rv iv rv := fT.refl
  refine c_aload_n (j := 0) (x := a0) C dX11_length_0 rfl ?_
  obtain ⟨rb1, rq1, trb1⟩ := hW.ref t_a0 9 rfl rfl rfl
  refine c_getr (k := 9) C ck_12 dX11_length_1 w2_53 (by decide) t_a0 rfl rfl (by decide) rfl rq1 ?_
  refine c_st (st2 := [.ref rb1]) rfl ?_
  refine c_iload_n (j := 1) C dX11_length_4 rfl ?_
  have ri1 : 0 ≤ iv rb1 1 ∧ iv rb1 1 ≤ 200 := hW.int trb1 1
  refine d_callV (As := [.int (iI i)]) (rest := []) C hM (C_present (a0 := rb1) (i := i) hW hS trb1 (by omega) ) dX11_length_5 kV_X11_288 rfl trb1 rfl rfl (by decide) ck_8 rfl (Nat.le_of_ble_eq_true rfl) ⟨(Nat.le_of_ble_eq_true rfl), (Nat.le_of_ble_eq_true rfl)⟩ hph hph (show 0 + 0 = 0 from rfl) (by decide) (fun rh1 Lh1 clh1 lnh1 ivh1 rvh1 h1 => ?_)
  obtain ⟨f1, rfl, rfl, rfl, rfl, rfl, rfl, rgf1, exf1⟩ := h1
  refine c_st (st2 := [(va_rf f1)]) rfl ?_
  have gf1 : f1 = none ∨ (0 ≤ i ∧ i < iv rb1 1) := exf1
  refine c_astorer_n (r := f1) (lv2 := [(2, (va_rf f1)), (0, .ref a0), (1, .int (iI i))]) C dX11_length_8 (by decide) rfl ?_
  refine c_aloadr_n (j := 0) (r := f1) C dX11_length_9 rfl ?_
  refine c_ifnonnull (r := f1) (tgt := 28) C dX11_length_10 (by decide) (fun ob1 oq1 => ?_) (fun oq1 => ?_)
  · subst oq1
    have tob1 := rgf1 ob1 rfl
    refine c_lv (lv2 := [(2, .ref ob1), (0, .ref a0), (1, .int (iI i))]) [0, 1, 2] rfl ?_
    refine c_st (st2 := []) rfl ?_
    refine c_aload_n (j := 1) (x := a0) C dX11_length_28 rfl ?_
    refine c_aload_n (j := 0) (x := ob1) C dX11_length_29 rfl ?_
    have ri2 : 0 ≤ iv ob1 1 ∧ iv ob1 1 ≤ 200 := hW.int tob1 1
    refine c_get (k := 1) C ck_3 dX11_length_30 w4_53 (by decide) tob1 rfl rfl (by decide) rfl ?_
    refine d_callV (As := [.int (iI (iv ob1 1))]) (rest := []) C hM (C_done (a0 := a0) (x := iv ob1 1) hW hS t_a0 (by omega) ) dX11_length_33 kV_X11_109 rfl t_a0 rfl rfl (by decide) ck_12 rfl (Nat.le_of_ble_eq_true rfl) ⟨(Nat.le_of_ble_eq_true rfl), (Nat.le_of_ble_eq_true rfl)⟩ hph hph (show 0 + 0 = 0 from rfl) (by decide) (fun rh2 Lh2 clh2 lnh2 ivh2 rvh2 h2 => ?_)
    obtain ⟨f2, rfl, rfl, rfl, rfl, rfl, fl2, W2, rgf2, exf2, kp11f2, kp12f2, kp13f2, kp14f2, kp15f2, kp16f2⟩ := h2
    have ri3 : 1 ≤ iv a0 11 ∧ iv a0 11 ≤ 100 := hW.int t_a0 11
    have ri4 : 1 ≤ iv a0 12 ∧ iv a0 12 ≤ 50 := hW.int t_a0 12
    have ri5 : (-2147483648) ≤ iv a0 13 ∧ iv a0 13 ≤ 2147483647 := hW.int t_a0 13
    have ri6 : (-2147483648) ≤ iv a0 14 ∧ iv a0 14 ≤ 2147483647 := hW.int t_a0 14
    have ri7 : (-2147483648) ≤ iv a0 15 ∧ iv a0 15 ≤ 2147483647 := hW.int t_a0 15
    have ri8 : (-2147483648) ≤ iv a0 16 ∧ iv a0 16 ≤ 2147483647 := hW.int t_a0 16
    have F1 := hF0.call hX0 fl2 rfl
    refine c_st (st2 := [.int (iI f2)]) rfl ?_
    have gk11f2 : ivh2 a0 11 = iv a0 11 := kp11f2
    have gk12f2 : ivh2 a0 12 = iv a0 12 := kp12f2
    have gk13f2 : ivh2 a0 13 = iv a0 13 := kp13f2
    have gk14f2 : ivh2 a0 14 = iv a0 14 := kp14f2
    have gk15f2 : ivh2 a0 15 = iv a0 15 := kp15f2
    have gk16f2 : ivh2 a0 16 = iv a0 16 := kp16f2
    have gf2 : f2 = (iv ob1 1) := exf2
    have ri9 : 1 ≤ ivh2 a0 11 ∧ ivh2 a0 11 ≤ 100 := W2.int t_a0 11
    have ri10 : 1 ≤ ivh2 a0 12 ∧ ivh2 a0 12 ≤ 50 := W2.int t_a0 12
    have ri11 : (-2147483648) ≤ ivh2 a0 13 ∧ ivh2 a0 13 ≤ 2147483647 := W2.int t_a0 13
    have ri12 : (-2147483648) ≤ ivh2 a0 14 ∧ ivh2 a0 14 ≤ 2147483647 := W2.int t_a0 14
    have ri13 : (-2147483648) ≤ ivh2 a0 15 ∧ ivh2 a0 15 ≤ 2147483647 := W2.int t_a0 15
    have ri14 : (-2147483648) ≤ ivh2 a0 16 ∧ ivh2 a0 16 ≤ 2147483647 := W2.int t_a0 16
    exact c_iret C dX11_length_36 rfl (by decide) (rom0 hph hph (by decide)) ⟨f2, rfl, rfl, rfl, rfl, rfl, F1, W2, ⟨by omega, by omega⟩, trivial, (by omega), (by omega), (by omega), (by omega), (by omega), (by omega)⟩
  · subst oq1
    refine c_lv (lv2 := [(2, .null), (0, .ref a0), (1, .int (iI i))]) [0, 1, 2] rfl ?_
    refine c_st (st2 := []) rfl ?_
    refine c_aload_n (j := 1) (x := a0) C dX11_length_13 rfl ?_
    refine c_aload_n (j := 1) (x := a0) C dX11_length_14 rfl ?_
    refine c_getr (k := 9) C ck_12 dX11_length_15 w2_53 (by decide) t_a0 rfl rfl (by decide) rfl rq1 ?_
    refine c_st (st2 := [.ref rb1, .ref a0]) rfl ?_
    refine c_iload_n (j := 2) C dX11_length_18 rfl ?_
    refine d_callV (As := [.int (iI i)]) (rest := [.ref a0]) C hM (C_whyNone (a0 := rb1) (i := i) hW hS trb1 (by omega) ) dX11_length_19 kV_X11_292 rfl trb1 rfl rfl (by decide) ck_8 rfl (Nat.le_of_ble_eq_true rfl) ⟨(Nat.le_of_ble_eq_true rfl), (Nat.le_of_ble_eq_true rfl)⟩ hph hph (show 0 + 0 = 0 from rfl) (by decide) (fun rh3 Lh3 clh3 lnh3 ivh3 rvh3 h3 => ?_)
    obtain ⟨f3, rfl, rfl, rfl, rfl, rfl, rfl, rgf3, exf3⟩ := h3
    refine c_st (st2 := [.int (iI f3), .ref a0]) rfl ?_
    have gf3 : f3 = 1 ∨ f3 = 2 := exf3
    refine d_callV (As := [.int (iI f3)]) (rest := []) C hM (C_refuse (a0 := a0) (x := f3) hW hS t_a0 (by omega) ) dX11_length_22 kV_X11_102 rfl t_a0 rfl rfl (by decide) ck_12 rfl (Nat.le_of_ble_eq_true rfl) ⟨(Nat.le_of_ble_eq_true rfl), (Nat.le_of_ble_eq_true rfl)⟩ hph hph (show 0 + 0 = 0 from rfl) (by decide) (fun rh4 Lh4 clh4 lnh4 ivh4 rvh4 h4 => ?_)
    obtain ⟨f4, rfl, rfl, rfl, rfl, rfl, fl4, W4, rgf4, exf4, kp11f4, kp12f4, kp13f4, kp14f4, kp15f4, kp16f4⟩ := h4
    have ri15 : 1 ≤ iv a0 11 ∧ iv a0 11 ≤ 100 := hW.int t_a0 11
    have ri16 : 1 ≤ iv a0 12 ∧ iv a0 12 ≤ 50 := hW.int t_a0 12
    have ri17 : (-2147483648) ≤ iv a0 13 ∧ iv a0 13 ≤ 2147483647 := hW.int t_a0 13
    have ri18 : (-2147483648) ≤ iv a0 14 ∧ iv a0 14 ≤ 2147483647 := hW.int t_a0 14
    have ri19 : (-2147483648) ≤ iv a0 15 ∧ iv a0 15 ≤ 2147483647 := hW.int t_a0 15
    have ri20 : (-2147483648) ≤ iv a0 16 ∧ iv a0 16 ≤ 2147483647 := hW.int t_a0 16
    have F2 := hF0.call hX0 fl4 rfl
    refine c_st (st2 := [.int (iI f4)]) rfl ?_
    have gk11f4 : ivh4 a0 11 = iv a0 11 := kp11f4
    have gk12f4 : ivh4 a0 12 = iv a0 12 := kp12f4
    have gk13f4 : ivh4 a0 13 = iv a0 13 := kp13f4
    have gk14f4 : ivh4 a0 14 = iv a0 14 := kp14f4
    have gk15f4 : ivh4 a0 15 = iv a0 15 := kp15f4
    have gk16f4 : ivh4 a0 16 = iv a0 16 := kp16f4
    have gf4 : f4 = -1 := exf4
    refine c_goto (tgt := 36) C dX11_length_25 (by decide) ?_
    have ri21 : 1 ≤ ivh4 a0 11 ∧ ivh4 a0 11 ≤ 100 := W4.int t_a0 11
    have ri22 : 1 ≤ ivh4 a0 12 ∧ ivh4 a0 12 ≤ 50 := W4.int t_a0 12
    have ri23 : (-2147483648) ≤ ivh4 a0 13 ∧ ivh4 a0 13 ≤ 2147483647 := W4.int t_a0 13
    have ri24 : (-2147483648) ≤ ivh4 a0 14 ∧ ivh4 a0 14 ≤ 2147483647 := W4.int t_a0 14
    have ri25 : (-2147483648) ≤ ivh4 a0 15 ∧ ivh4 a0 15 ≤ 2147483647 := W4.int t_a0 15
    have ri26 : (-2147483648) ≤ ivh4 a0 16 ∧ ivh4 a0 16 ≤ 2147483647 := W4.int t_a0 16
    exact c_iret C dX11_length_36 rfl (by decide) (rom0 hph hph (by decide)) ⟨f4, rfl, rfl, rfl, rfl, rfl, F2, W4, ⟨by omega, by omega⟩, trivial, (by omega), (by omega), (by omega), (by omega), (by omega), (by omega)⟩
set_option maxHeartbeats 4000000 in
set_option maxRecDepth 100000 in
theorem C_cellOfLine {l : Launch} {G : GT} {mi : Nat} {sk : Nat → Nat} {L : List Nat} {cl ln : Nat → Nat} {iv : Nat → Nat → Int} {rv : Nat → Nat → Option Nat}  {a0 : Nat} {i : Int} {j : Int} (hW : WT (g0 G) sk L cl ln iv rv) (hS : SKL sk L cl) (t_a0 : ty L cl a0 1) (h_i : -2147483648 ≤ i ∧ i ≤ 2147483647) (h_j : -2147483648 ≤ j ∧ j ≤ 2147483647)  : Mc l G mi (Phi (g0 G) sk) PHM yX11_cellOfLine cX11_cellOfLine 4 (some .int) 2 [.ref a0, .int (iI i), .int (iI j)] L cl ln iv rv 0 (fun v L2 cl2 ln2 iv2 rv2 => ∃ f : Int, v = some (.int (iI f)) ∧ L = L2 ∧ cl = cl2 ∧ ln = ln2 ∧ rv = rv2 ∧ fT [1] L cl iv rv iv2 rv2 ∧ WT (g0 G) sk L2 cl2 ln2 iv2 rv2 ∧ (-2147483648 ≤ f ∧ f ≤ 2147483647) ∧ (True) ∧ iv2 a0 11 = iv a0 11 ∧ iv2 a0 12 = iv a0 12 ∧ iv2 a0 13 = iv a0 13 ∧ iv2 a0 14 = iv a0 14 ∧ iv2 a0 15 = iv a0 15 ∧ iv2 a0 16 = iv a0 16) := by
  refine Mc.mk (by decide) (Nat.le_of_ble_eq_true rfl) ?_
  intro p e s m args below meth c A C hM
  have hph := Phi.le hW hS
  have hX0 : XT L cl ln L cl ln := XT.refl
  have hF0 : fT [1] L cl iv rv iv rv := fT.refl
  refine c_aload_n (j := 0) (x := a0) C dX11_cellOfLine_0 rfl ?_
  obtain ⟨rb1, rq1, trb1⟩ := hW.ref t_a0 9 rfl rfl rfl
  refine c_getr (k := 9) C ck_12 dX11_cellOfLine_1 w2_53 (by decide) t_a0 rfl rfl (by decide) rfl rq1 ?_
  refine c_st (st2 := [.ref rb1]) rfl ?_
  refine c_iload_n (j := 1) C dX11_cellOfLine_4 rfl ?_
  have ri1 : 0 ≤ iv rb1 1 ∧ iv rb1 1 ≤ 200 := hW.int trb1 1
  refine d_callV (As := [.int (iI i)]) (rest := []) C hM (C_present (a0 := rb1) (i := i) hW hS trb1 (by omega) ) dX11_cellOfLine_5 kV_X11_288 rfl trb1 rfl rfl (by decide) ck_8 rfl (Nat.le_of_ble_eq_true rfl) ⟨(Nat.le_of_ble_eq_true rfl), (Nat.le_of_ble_eq_true rfl)⟩ hph hph (show 0 + 0 = 0 from rfl) (by decide) (fun rh1 Lh1 clh1 lnh1 ivh1 rvh1 h1 => ?_)
  obtain ⟨f1, rfl, rfl, rfl, rfl, rfl, rfl, rgf1, exf1⟩ := h1
  refine c_st (st2 := [(va_rf f1)]) rfl ?_
  have gf1 : f1 = none ∨ (0 ≤ i ∧ i < iv rb1 1) := exf1
  refine c_astorer_n (r := f1) (lv2 := [(3, (va_rf f1)), (0, .ref a0), (1, .int (iI i)), (2, .int (iI j))]) C dX11_cellOfLine_8 (by decide) rfl ?_
  refine c_aloadr_n (j := 0) (r := f1) C dX11_cellOfLine_9 rfl ?_
  refine c_ifnonnull (r := f1) (tgt := 26) C dX11_cellOfLine_10 (by decide) (fun ob1 oq1 => ?_) (fun oq1 => ?_)
  · subst oq1
    have tob1 := rgf1 ob1 rfl
    refine c_lv (lv2 := [(3, .ref ob1), (0, .ref a0), (1, .int (iI i)), (2, .int (iI j))]) [0, 1, 2, 3] rfl ?_
    refine c_st (st2 := []) rfl ?_
    refine c_iload_n (j := 3) C dX11_cellOfLine_26 rfl ?_
    refine c_if_lt (tgt := 38) C ⟨by omega, by omega⟩ dX11_cellOfLine_27 (by decide) (fun c1 => ?_) (fun c1 => ?_)
    · refine c_aload_n (j := 1) (x := a0) C dX11_cellOfLine_38 rfl ?_
      refine c_iconst C dX11_cellOfLine_39 ?_
      refine d_callV (As := [.int (iI 2)]) (rest := []) C hM (C_refuse (a0 := a0) (x := 2) hW hS t_a0 ⟨by decide, by decide⟩ ) dX11_cellOfLine_40 kV_X11_102 rfl t_a0 rfl rfl (by decide) ck_12 rfl (Nat.le_of_ble_eq_true rfl) ⟨(Nat.le_of_ble_eq_true rfl), (Nat.le_of_ble_eq_true rfl)⟩ hph hph (show 0 + 0 = 0 from rfl) (by decide) (fun rh2 Lh2 clh2 lnh2 ivh2 rvh2 h2 => ?_)
      obtain ⟨f2, rfl, rfl, rfl, rfl, rfl, fl2, W2, rgf2, exf2, kp11f2, kp12f2, kp13f2, kp14f2, kp15f2, kp16f2⟩ := h2
      have ri2 : 1 ≤ iv a0 11 ∧ iv a0 11 ≤ 100 := hW.int t_a0 11
      have ri3 : 1 ≤ iv a0 12 ∧ iv a0 12 ≤ 50 := hW.int t_a0 12
      have ri4 : (-2147483648) ≤ iv a0 13 ∧ iv a0 13 ≤ 2147483647 := hW.int t_a0 13
      have ri5 : (-2147483648) ≤ iv a0 14 ∧ iv a0 14 ≤ 2147483647 := hW.int t_a0 14
      have ri6 : (-2147483648) ≤ iv a0 15 ∧ iv a0 15 ≤ 2147483647 := hW.int t_a0 15
      have ri7 : (-2147483648) ≤ iv a0 16 ∧ iv a0 16 ≤ 2147483647 := hW.int t_a0 16
      have F1 := hF0.call hX0 fl2 rfl
      refine c_st (st2 := [.int (iI f2)]) rfl ?_
      have gk11f2 : ivh2 a0 11 = iv a0 11 := kp11f2
      have gk12f2 : ivh2 a0 12 = iv a0 12 := kp12f2
      have gk13f2 : ivh2 a0 13 = iv a0 13 := kp13f2
      have gk14f2 : ivh2 a0 14 = iv a0 14 := kp14f2
      have gk15f2 : ivh2 a0 15 = iv a0 15 := kp15f2
      have gk16f2 : ivh2 a0 16 = iv a0 16 := kp16f2
      have gf2 : f2 = -1 := exf2
      refine c_goto (tgt := 56) C dX11_cellOfLine_43 (by decide) ?_
      have ri8 : 1 ≤ ivh2 a0 11 ∧ ivh2 a0 11 ≤ 100 := W2.int t_a0 11
      have ri9 : 1 ≤ ivh2 a0 12 ∧ ivh2 a0 12 ≤ 50 := W2.int t_a0 12
      have ri10 : (-2147483648) ≤ ivh2 a0 13 ∧ ivh2 a0 13 ≤ 2147483647 := W2.int t_a0 13
      have ri11 : (-2147483648) ≤ ivh2 a0 14 ∧ ivh2 a0 14 ≤ 2147483647 := W2.int t_a0 14
      have ri12 : (-2147483648) ≤ ivh2 a0 15 ∧ ivh2 a0 15 ≤ 2147483647 := W2.int t_a0 15
      have ri13 : (-2147483648) ≤ ivh2 a0 16 ∧ ivh2 a0 16 ≤ 2147483647 := W2.int t_a0 16
      exact c_iret C dX11_cellOfLine_56 rfl (by decide) (rom0 hph hph (by decide)) ⟨f2, rfl, rfl, rfl, rfl, rfl, F1, W2, ⟨by omega, by omega⟩, trivial, (by omega), (by omega), (by omega), (by omega), (by omega), (by omega)⟩
    · refine c_iload_n (j := 3) C dX11_cellOfLine_30 rfl ?_
      refine c_aload_n (j := 0) (x := ob1) C dX11_cellOfLine_31 rfl ?_
      have ri14 : 0 ≤ iv ob1 1 ∧ iv ob1 1 ≤ 200 := hW.int tob1 1
      refine c_get (k := 1) C ck_3 dX11_cellOfLine_32 w4_53 (by decide) tob1 rfl rfl (by decide) rfl ?_
      refine c_icmp_lt (tgt := 46) C ⟨by omega, by omega⟩ ⟨by omega, by omega⟩ dX11_cellOfLine_35 (by decide) (fun c2 => ?_) (fun c2 => ?_)
      · refine c_aload_n (j := 1) (x := a0) C dX11_cellOfLine_46 rfl ?_
        refine c_aload_n (j := 0) (x := ob1) C dX11_cellOfLine_47 rfl ?_
        obtain ⟨rb2, rq2, trb2⟩ := hW.ref tob1 0 rfl rfl rfl
        have lnrb2 : 200 ≤ ln rb2 ∧ ln rb2 ≤ 200 := hW.len trb2 rfl
        refine c_getr (k := 0) C ck_3 dX11_cellOfLine_48 w4_48 (by decide) tob1 rfl rfl (by decide) rfl rq2 ?_
        refine c_st (st2 := [.ref rb2, .ref a0]) rfl ?_
        refine c_iload_n (j := 3) C dX11_cellOfLine_51 rfl ?_
        have ll1 : 200 ≤ ln rb2 ∧ ln rb2 ≤ 200 := hW.len trb2 rfl
        refine c_iald C dX11_cellOfLine_52 trb2 rfl (by omega) (by omega) (by omega) ?_
        have ri15 : (-2147483648) ≤ iv rb2 j.toNat ∧ iv rb2 j.toNat ≤ 2147483647 := hW.int trb2 j.toNat
        refine d_callV (As := [.int (iI (iv rb2 j.toNat))]) (rest := []) C hM (C_done (a0 := a0) (x := iv rb2 j.toNat) hW hS t_a0 (by omega) ) dX11_cellOfLine_53 kV_X11_109 rfl t_a0 rfl rfl (by decide) ck_12 rfl (Nat.le_of_ble_eq_true rfl) ⟨(Nat.le_of_ble_eq_true rfl), (Nat.le_of_ble_eq_true rfl)⟩ hph hph (show 0 + 0 = 0 from rfl) (by decide) (fun rh3 Lh3 clh3 lnh3 ivh3 rvh3 h3 => ?_)
        obtain ⟨f3, rfl, rfl, rfl, rfl, rfl, fl3, W3, rgf3, exf3, kp11f3, kp12f3, kp13f3, kp14f3, kp15f3, kp16f3⟩ := h3
        have ri16 : 1 ≤ iv a0 11 ∧ iv a0 11 ≤ 100 := hW.int t_a0 11
        have ri17 : 1 ≤ iv a0 12 ∧ iv a0 12 ≤ 50 := hW.int t_a0 12
        have ri18 : (-2147483648) ≤ iv a0 13 ∧ iv a0 13 ≤ 2147483647 := hW.int t_a0 13
        have ri19 : (-2147483648) ≤ iv a0 14 ∧ iv a0 14 ≤ 2147483647 := hW.int t_a0 14
        have ri20 : (-2147483648) ≤ iv a0 15 ∧ iv a0 15 ≤ 2147483647 := hW.int t_a0 15
        have ri21 : (-2147483648) ≤ iv a0 16 ∧ iv a0 16 ≤ 2147483647 := hW.int t_a0 16
        have F2 := hF0.call hX0 fl3 rfl
        refine c_st (st2 := [.int (iI f3)]) rfl ?_
        have gk11f3 : ivh3 a0 11 = iv a0 11 := kp11f3
        have gk12f3 : ivh3 a0 12 = iv a0 12 := kp12f3
        have gk13f3 : ivh3 a0 13 = iv a0 13 := kp13f3
        have gk14f3 : ivh3 a0 14 = iv a0 14 := kp14f3
        have gk15f3 : ivh3 a0 15 = iv a0 15 := kp15f3
        have gk16f3 : ivh3 a0 16 = iv a0 16 := kp16f3
        have gf3 : f3 = (iv rb2 j.toNat) := exf3
        have ri22 : 1 ≤ ivh3 a0 11 ∧ ivh3 a0 11 ≤ 100 := W3.int t_a0 11
        have ri23 : 1 ≤ ivh3 a0 12 ∧ ivh3 a0 12 ≤ 50 := W3.int t_a0 12
        have ri24 : (-2147483648) ≤ ivh3 a0 13 ∧ ivh3 a0 13 ≤ 2147483647 := W3.int t_a0 13
        have ri25 : (-2147483648) ≤ ivh3 a0 14 ∧ ivh3 a0 14 ≤ 2147483647 := W3.int t_a0 14
        have ri26 : (-2147483648) ≤ ivh3 a0 15 ∧ ivh3 a0 15 ≤ 2147483647 := W3.int t_a0 15
        have ri27 : (-2147483648) ≤ ivh3 a0 16 ∧ ivh3 a0 16 ≤ 2147483647 := W3.int t_a0 16
        exact c_iret C dX11_cellOfLine_56 rfl (by decide) (rom0 hph hph (by decide)) ⟨f3, rfl, rfl, rfl, rfl, rfl, F2, W3, ⟨by omega, by omega⟩, trivial, (by omega), (by omega), (by omega), (by omega), (by omega), (by omega)⟩
      · refine c_aload_n (j := 1) (x := a0) C dX11_cellOfLine_38 rfl ?_
        refine c_iconst C dX11_cellOfLine_39 ?_
        refine d_callV (As := [.int (iI 2)]) (rest := []) C hM (C_refuse (a0 := a0) (x := 2) hW hS t_a0 ⟨by decide, by decide⟩ ) dX11_cellOfLine_40 kV_X11_102 rfl t_a0 rfl rfl (by decide) ck_12 rfl (Nat.le_of_ble_eq_true rfl) ⟨(Nat.le_of_ble_eq_true rfl), (Nat.le_of_ble_eq_true rfl)⟩ hph hph (show 0 + 0 = 0 from rfl) (by decide) (fun rh4 Lh4 clh4 lnh4 ivh4 rvh4 h4 => ?_)
        obtain ⟨f4, rfl, rfl, rfl, rfl, rfl, fl4, W4, rgf4, exf4, kp11f4, kp12f4, kp13f4, kp14f4, kp15f4, kp16f4⟩ := h4
        have ri28 : 1 ≤ iv a0 11 ∧ iv a0 11 ≤ 100 := hW.int t_a0 11
        have ri29 : 1 ≤ iv a0 12 ∧ iv a0 12 ≤ 50 := hW.int t_a0 12
        have ri30 : (-2147483648) ≤ iv a0 13 ∧ iv a0 13 ≤ 2147483647 := hW.int t_a0 13
        have ri31 : (-2147483648) ≤ iv a0 14 ∧ iv a0 14 ≤ 2147483647 := hW.int t_a0 14
        have ri32 : (-2147483648) ≤ iv a0 15 ∧ iv a0 15 ≤ 2147483647 := hW.int t_a0 15
        have ri33 : (-2147483648) ≤ iv a0 16 ∧ iv a0 16 ≤ 2147483647 := hW.int t_a0 16
        have F3 := hF0.call hX0 fl4 rfl
        refine c_st (st2 := [.int (iI f4)]) rfl ?_
        have gk11f4 : ivh4 a0 11 = iv a0 11 := kp11f4
        have gk12f4 : ivh4 a0 12 = iv a0 12 := kp12f4
        have gk13f4 : ivh4 a0 13 = iv a0 13 := kp13f4
        have gk14f4 : ivh4 a0 14 = iv a0 14 := kp14f4
        have gk15f4 : ivh4 a0 15 = iv a0 15 := kp15f4
        have gk16f4 : ivh4 a0 16 = iv a0 16 := kp16f4
        have gf4 : f4 = -1 := exf4
        refine c_goto (tgt := 56) C dX11_cellOfLine_43 (by decide) ?_
        have ri34 : 1 ≤ ivh4 a0 11 ∧ ivh4 a0 11 ≤ 100 := W4.int t_a0 11
        have ri35 : 1 ≤ ivh4 a0 12 ∧ ivh4 a0 12 ≤ 50 := W4.int t_a0 12
        have ri36 : (-2147483648) ≤ ivh4 a0 13 ∧ ivh4 a0 13 ≤ 2147483647 := W4.int t_a0 13
        have ri37 : (-2147483648) ≤ ivh4 a0 14 ∧ ivh4 a0 14 ≤ 2147483647 := W4.int t_a0 14
        have ri38 : (-2147483648) ≤ ivh4 a0 15 ∧ ivh4 a0 15 ≤ 2147483647 := W4.int t_a0 15
        have ri39 : (-2147483648) ≤ ivh4 a0 16 ∧ ivh4 a0 16 ≤ 2147483647 := W4.int t_a0 16
        exact c_iret C dX11_cellOfLine_56 rfl (by decide) (rom0 hph hph (by decide)) ⟨f4, rfl, rfl, rfl, rfl, rfl, F3, W4, ⟨by omega, by omega⟩, trivial, (by omega), (by omega), (by omega), (by omega), (by omega), (by omega)⟩
  · subst oq1
    refine c_lv (lv2 := [(3, .null), (0, .ref a0), (1, .int (iI i)), (2, .int (iI j))]) [0, 1, 2, 3] rfl ?_
    refine c_st (st2 := []) rfl ?_
    refine c_aload_n (j := 1) (x := a0) C dX11_cellOfLine_13 rfl ?_
    refine c_aload_n (j := 1) (x := a0) C dX11_cellOfLine_14 rfl ?_
    refine c_getr (k := 9) C ck_12 dX11_cellOfLine_15 w2_53 (by decide) t_a0 rfl rfl (by decide) rfl rq1 ?_
    refine c_st (st2 := [.ref rb1, .ref a0]) rfl ?_
    refine c_iload_n (j := 2) C dX11_cellOfLine_18 rfl ?_
    refine d_callV (As := [.int (iI i)]) (rest := [.ref a0]) C hM (C_whyNone (a0 := rb1) (i := i) hW hS trb1 (by omega) ) dX11_cellOfLine_19 kV_X11_292 rfl trb1 rfl rfl (by decide) ck_8 rfl (Nat.le_of_ble_eq_true rfl) ⟨(Nat.le_of_ble_eq_true rfl), (Nat.le_of_ble_eq_true rfl)⟩ hph hph (show 0 + 0 = 0 from rfl) (by decide) (fun rh5 Lh5 clh5 lnh5 ivh5 rvh5 h5 => ?_)
    obtain ⟨f5, rfl, rfl, rfl, rfl, rfl, rfl, rgf5, exf5⟩ := h5
    refine c_st (st2 := [.int (iI f5), .ref a0]) rfl ?_
    have gf5 : f5 = 1 ∨ f5 = 2 := exf5
    refine d_callV (As := [.int (iI f5)]) (rest := []) C hM (C_refuse (a0 := a0) (x := f5) hW hS t_a0 (by omega) ) dX11_cellOfLine_22 kV_X11_102 rfl t_a0 rfl rfl (by decide) ck_12 rfl (Nat.le_of_ble_eq_true rfl) ⟨(Nat.le_of_ble_eq_true rfl), (Nat.le_of_ble_eq_true rfl)⟩ hph hph (show 0 + 0 = 0 from rfl) (by decide) (fun rh6 Lh6 clh6 lnh6 ivh6 rvh6 h6 => ?_)
    obtain ⟨f6, rfl, rfl, rfl, rfl, rfl, fl6, W6, rgf6, exf6, kp11f6, kp12f6, kp13f6, kp14f6, kp15f6, kp16f6⟩ := h6
    have ri40 : 1 ≤ iv a0 11 ∧ iv a0 11 ≤ 100 := hW.int t_a0 11
    have ri41 : 1 ≤ iv a0 12 ∧ iv a0 12 ≤ 50 := hW.int t_a0 12
    have ri42 : (-2147483648) ≤ iv a0 13 ∧ iv a0 13 ≤ 2147483647 := hW.int t_a0 13
    have ri43 : (-2147483648) ≤ iv a0 14 ∧ iv a0 14 ≤ 2147483647 := hW.int t_a0 14
    have ri44 : (-2147483648) ≤ iv a0 15 ∧ iv a0 15 ≤ 2147483647 := hW.int t_a0 15
    have ri45 : (-2147483648) ≤ iv a0 16 ∧ iv a0 16 ≤ 2147483647 := hW.int t_a0 16
    have F4 := hF0.call hX0 fl6 rfl
    refine c_st (st2 := [.int (iI f6)]) rfl ?_
    have gk11f6 : ivh6 a0 11 = iv a0 11 := kp11f6
    have gk12f6 : ivh6 a0 12 = iv a0 12 := kp12f6
    have gk13f6 : ivh6 a0 13 = iv a0 13 := kp13f6
    have gk14f6 : ivh6 a0 14 = iv a0 14 := kp14f6
    have gk15f6 : ivh6 a0 15 = iv a0 15 := kp15f6
    have gk16f6 : ivh6 a0 16 = iv a0 16 := kp16f6
    have gf6 : f6 = -1 := exf6
    have ri46 : 1 ≤ ivh6 a0 11 ∧ ivh6 a0 11 ≤ 100 := W6.int t_a0 11
    have ri47 : 1 ≤ ivh6 a0 12 ∧ ivh6 a0 12 ≤ 50 := W6.int t_a0 12
    have ri48 : (-2147483648) ≤ ivh6 a0 13 ∧ ivh6 a0 13 ≤ 2147483647 := W6.int t_a0 13
    have ri49 : (-2147483648) ≤ ivh6 a0 14 ∧ ivh6 a0 14 ≤ 2147483647 := W6.int t_a0 14
    have ri50 : (-2147483648) ≤ ivh6 a0 15 ∧ ivh6 a0 15 ≤ 2147483647 := W6.int t_a0 15
    have ri51 : (-2147483648) ≤ ivh6 a0 16 ∧ ivh6 a0 16 ≤ 2147483647 := W6.int t_a0 16
    exact c_iret C dX11_cellOfLine_25 rfl (by decide) (rom0 hph hph (by decide)) ⟨f6, rfl, rfl, rfl, rfl, rfl, F4, W6, ⟨by omega, by omega⟩, trivial, (by omega), (by omega), (by omega), (by omega), (by omega), (by omega)⟩
set_option maxHeartbeats 4000000 in
set_option maxRecDepth 100000 in
theorem C_cell {l : Launch} {G : GT} {mi : Nat} {sk : Nat → Nat} {L : List Nat} {cl ln : Nat → Nat} {iv : Nat → Nat → Int} {rv : Nat → Nat → Option Nat}  {a0 : Nat} {i : Int} {j : Int} (hW : WT (g0 G) sk L cl ln iv rv) (hS : SKL sk L cl) (t_a0 : ty L cl a0 1) (h_i : -2147483648 ≤ i ∧ i ≤ 2147483647) (h_j : -2147483648 ≤ j ∧ j ≤ 2147483647)  : Mc l G mi (Phi (g0 G) sk) PHM yX11_cell cX11_cell 3 (some .int) 3 [.ref a0, .int (iI i), .int (iI j)] L cl ln iv rv 0 (fun v L2 cl2 ln2 iv2 rv2 => ∃ f : Int, v = some (.int (iI f)) ∧ L = L2 ∧ cl = cl2 ∧ ln = ln2 ∧ rv = rv2 ∧ fT [1] L cl iv rv iv2 rv2 ∧ WT (g0 G) sk L2 cl2 ln2 iv2 rv2 ∧ (-2147483648 ≤ f ∧ f ≤ 2147483647) ∧ (True) ∧ iv2 a0 11 = iv a0 11 ∧ iv2 a0 12 = iv a0 12 ∧ iv2 a0 13 = iv a0 13 ∧ iv2 a0 14 = iv a0 14 ∧ iv2 a0 15 = iv a0 15 ∧ iv2 a0 16 = iv a0 16) := by
  refine Mc.mk (by decide) (Nat.le_of_ble_eq_true rfl) ?_
  intro p e s m args below meth c A C hM
  have hph := Phi.le hW hS
  have hX0 : XT L cl ln L cl ln := XT.refl
  have hF0 : fT [1] L cl iv rv iv rv := fT.refl
  refine c_aload_n (j := 0) (x := a0) C dX11_cell_0 rfl ?_
  refine c_iload_n (j := 1) C dX11_cell_1 rfl ?_
  refine c_iload_n (j := 2) C dX11_cell_2 rfl ?_
  refine d_callV (As := [.int (iI i), .int (iI j)]) (rest := []) C hM (C_cellOfLine (a0 := a0) (i := i) (j := j) hW hS t_a0 (by omega) (by omega) ) dX11_cell_3 kV_X11_298 rfl t_a0 rfl rfl (by decide) ck_12 rfl (Nat.le_of_ble_eq_true rfl) ⟨(Nat.le_of_ble_eq_true rfl), (Nat.le_of_ble_eq_true rfl)⟩ hph hph (show 0 + 0 = 0 from rfl) (by decide) (fun rh1 Lh1 clh1 lnh1 ivh1 rvh1 h1 => ?_)
  obtain ⟨f1, rfl, rfl, rfl, rfl, rfl, fl1, W1, rgf1, exf1, kp11f1, kp12f1, kp13f1, kp14f1, kp15f1, kp16f1⟩ := h1
  have ri1 : 1 ≤ iv a0 11 ∧ iv a0 11 ≤ 100 := hW.int t_a0 11
  have ri2 : 1 ≤ iv a0 12 ∧ iv a0 12 ≤ 50 := hW.int t_a0 12
  have ri3 : (-2147483648) ≤ iv a0 13 ∧ iv a0 13 ≤ 2147483647 := hW.int t_a0 13
  have ri4 : (-2147483648) ≤ iv a0 14 ∧ iv a0 14 ≤ 2147483647 := hW.int t_a0 14
  have ri5 : (-2147483648) ≤ iv a0 15 ∧ iv a0 15 ≤ 2147483647 := hW.int t_a0 15
  have ri6 : (-2147483648) ≤ iv a0 16 ∧ iv a0 16 ≤ 2147483647 := hW.int t_a0 16
  have F1 := hF0.call hX0 fl1 rfl
  refine c_st (st2 := [.int (iI f1)]) rfl ?_
  have gk11f1 : ivh1 a0 11 = iv a0 11 := kp11f1
  have gk12f1 : ivh1 a0 12 = iv a0 12 := kp12f1
  have gk13f1 : ivh1 a0 13 = iv a0 13 := kp13f1
  have gk14f1 : ivh1 a0 14 = iv a0 14 := kp14f1
  have gk15f1 : ivh1 a0 15 = iv a0 15 := kp15f1
  have gk16f1 : ivh1 a0 16 = iv a0 16 := kp16f1
  have ri7 : 1 ≤ ivh1 a0 11 ∧ ivh1 a0 11 ≤ 100 := W1.int t_a0 11
  have ri8 : 1 ≤ ivh1 a0 12 ∧ ivh1 a0 12 ≤ 50 := W1.int t_a0 12
  have ri9 : (-2147483648) ≤ ivh1 a0 13 ∧ ivh1 a0 13 ≤ 2147483647 := W1.int t_a0 13
  have ri10 : (-2147483648) ≤ ivh1 a0 14 ∧ ivh1 a0 14 ≤ 2147483647 := W1.int t_a0 14
  have ri11 : (-2147483648) ≤ ivh1 a0 15 ∧ ivh1 a0 15 ≤ 2147483647 := W1.int t_a0 15
  have ri12 : (-2147483648) ≤ ivh1 a0 16 ∧ ivh1 a0 16 ≤ 2147483647 := W1.int t_a0 16
  exact c_iret C dX11_cell_6 rfl (by decide) (rom0 hph hph (by decide)) ⟨f1, rfl, rfl, rfl, rfl, rfl, F1, W1, ⟨by omega, by omega⟩, trivial, (by omega), (by omega), (by omega), (by omega), (by omega), (by omega)⟩
set_option maxHeartbeats 4000000 in
set_option maxRecDepth 100000 in
theorem C_page {l : Launch} {G : GT} {mi : Nat} {sk : Nat → Nat} {L : List Nat} {cl ln : Nat → Nat} {iv : Nat → Nat → Int} {rv : Nat → Nat → Option Nat}  {a0 : Nat} {i : Int} {j : Int} {k : Int} (hW : WT (g0 G) sk L cl ln iv rv) (hS : SKL sk L cl) (t_a0 : ty L cl a0 1) (h_i : -2147483648 ≤ i ∧ i ≤ 2147483647) (h_j : -2147483648 ≤ j ∧ j ≤ 2147483647) (h_k : -2147483648 ≤ k ∧ k ≤ 2147483647)  : Mc l G mi (Phi (g0 G) sk) PHM yX11_page cX11_page 5 (some .int) 3 [.ref a0, .int (iI i), .int (iI j), .int (iI k)] L cl ln iv rv 0 (fun v L2 cl2 ln2 iv2 rv2 => ∃ f : Int, v = some (.int (iI f)) ∧ L = L2 ∧ cl = cl2 ∧ ln = ln2 ∧ rv = rv2 ∧ fT [1] L cl iv rv iv2 rv2 ∧ WT (g0 G) sk L2 cl2 ln2 iv2 rv2 ∧ (-2147483648 ≤ f ∧ f ≤ 2147483647) ∧ (True) ∧ iv2 a0 11 = iv a0 11 ∧ iv2 a0 12 = iv a0 12 ∧ iv2 a0 13 = iv a0 13 ∧ iv2 a0 14 = iv a0 14 ∧ iv2 a0 15 = iv a0 15 ∧ iv2 a0 16 = iv a0 16) := by
  refine Mc.mk (by decide) (Nat.le_of_ble_eq_true rfl) ?_
  intro p e s m args below meth c A C hM
  have hph := Phi.le hW hS
  have tsk2 : ty L cl (sk 2) 2 := ⟨(hS 2 rfl).1, by rw [(hS 2 rfl).2]; rfl⟩
  have tsk3 : ty L cl (sk 3) 3 := ⟨(hS 3 rfl).1, by rw [(hS 3 rfl).2]; rfl⟩
  have tsk4 : ty L cl (sk 4) 4 := ⟨(hS 4 rfl).1, by rw [(hS 4 rfl).2]; rfl⟩
  have tsk5 : ty L cl (sk 5) 5 := ⟨(hS 5 rfl).1, by rw [(hS 5 rfl).2]; rfl⟩
  have tsk13 : ty L cl (sk 13) 13 := ⟨(hS 13 rfl).1, by rw [(hS 13 rfl).2]; rfl⟩
  have tsk14 : ty L cl (sk 14) 14 := ⟨(hS 14 rfl).1, by rw [(hS 14 rfl).2]; rfl⟩
  have tsk15 : ty L cl (sk 15) 15 := ⟨(hS 15 rfl).1, by rw [(hS 15 rfl).2]; rfl⟩
  have tsk16 : ty L cl (sk 16) 16 := ⟨(hS 16 rfl).1, by rw [(hS 16 rfl).2]; rfl⟩
  have tsk17 : ty L cl (sk 17) 17 := ⟨(hS 17 rfl).1, by rw [(hS 17 rfl).2]; rfl⟩
  have tsk22 : ty L cl (sk 22) 22 := ⟨(hS 22 rfl).1, by rw [(hS 22 rfl).2]; rfl⟩
  have tsk23 : ty L cl (sk 23) 23 := ⟨(hS 23 rfl).1, by rw [(hS 23 rfl).2]; rfl⟩
  have hX0 : XT L cl ln L cl ln := XT.refl
  have hF0 : fT [1] L cl iv rv iv rv := fT.refl
  refine c_iload_n (j := 1) C dX11_page_0 rfl ?_
  refine c_if_lt (tgt := 24) C ⟨by omega, by omega⟩ dX11_page_1 (by decide) (fun c1 => ?_) (fun c1 => ?_)
  · refine c_aload_n (j := 0) (x := a0) C dX11_page_24 rfl ?_
    refine c_iconst C dX11_page_25 ?_
    refine d_callV (As := [.int (iI 2)]) (rest := []) C hM (C_refuse (a0 := a0) (x := 2) hW hS t_a0 ⟨by decide, by decide⟩ ) dX11_page_26 kV_X11_102 rfl t_a0 rfl rfl (by decide) ck_12 rfl (Nat.le_of_ble_eq_true rfl) ⟨(Nat.le_of_ble_eq_true rfl), (Nat.le_of_ble_eq_true rfl)⟩ hph hph (show 0 + 0 = 0 from rfl) (by decide) (fun rh1 Lh1 clh1 lnh1 ivh1 rvh1 h1 => ?_)
    obtain ⟨f1, rfl, rfl, rfl, rfl, rfl, fl1, W1, rgf1, exf1, kp11f1, kp12f1, kp13f1, kp14f1, kp15f1, kp16f1⟩ := h1
    have ri1 : 1 ≤ iv a0 11 ∧ iv a0 11 ≤ 100 := hW.int t_a0 11
    have ri2 : 1 ≤ iv a0 12 ∧ iv a0 12 ≤ 50 := hW.int t_a0 12
    have ri3 : (-2147483648) ≤ iv a0 13 ∧ iv a0 13 ≤ 2147483647 := hW.int t_a0 13
    have ri4 : (-2147483648) ≤ iv a0 14 ∧ iv a0 14 ≤ 2147483647 := hW.int t_a0 14
    have ri5 : (-2147483648) ≤ iv a0 15 ∧ iv a0 15 ≤ 2147483647 := hW.int t_a0 15
    have ri6 : (-2147483648) ≤ iv a0 16 ∧ iv a0 16 ≤ 2147483647 := hW.int t_a0 16
    have F1 := hF0.call hX0 fl1 rfl
    refine c_st (st2 := [.int (iI f1)]) rfl ?_
    have gk11f1 : ivh1 a0 11 = iv a0 11 := kp11f1
    have gk12f1 : ivh1 a0 12 = iv a0 12 := kp12f1
    have gk13f1 : ivh1 a0 13 = iv a0 13 := kp13f1
    have gk14f1 : ivh1 a0 14 = iv a0 14 := kp14f1
    have gk15f1 : ivh1 a0 15 = iv a0 15 := kp15f1
    have gk16f1 : ivh1 a0 16 = iv a0 16 := kp16f1
    have gf1 : f1 = -1 := exf1
    have ri7 : 1 ≤ ivh1 a0 11 ∧ ivh1 a0 11 ≤ 100 := W1.int t_a0 11
    have ri8 : 1 ≤ ivh1 a0 12 ∧ ivh1 a0 12 ≤ 50 := W1.int t_a0 12
    have ri9 : (-2147483648) ≤ ivh1 a0 13 ∧ ivh1 a0 13 ≤ 2147483647 := W1.int t_a0 13
    have ri10 : (-2147483648) ≤ ivh1 a0 14 ∧ ivh1 a0 14 ≤ 2147483647 := W1.int t_a0 14
    have ri11 : (-2147483648) ≤ ivh1 a0 15 ∧ ivh1 a0 15 ≤ 2147483647 := W1.int t_a0 15
    have ri12 : (-2147483648) ≤ ivh1 a0 16 ∧ ivh1 a0 16 ≤ 2147483647 := W1.int t_a0 16
    exact c_iret C dX11_page_29 rfl (by decide) (rom0 hph hph (by decide)) ⟨f1, rfl, rfl, rfl, rfl, rfl, F1, W1, ⟨by omega, by omega⟩, trivial, (by omega), (by omega), (by omega), (by omega), (by omega), (by omega)⟩
  · refine c_iload_n (j := 1) C dX11_page_4 rfl ?_
    refine c_aload_n (j := 0) (x := a0) C dX11_page_5 rfl ?_
    refine d_callV (As := []) (rest := [.int (iI i)]) C hM (C_pages (a0 := a0) hW hS t_a0  ) dX11_page_6 kV_X11_302 rfl t_a0 rfl rfl (by decide) ck_12 rfl (Nat.le_of_ble_eq_true rfl) ⟨(Nat.le_of_ble_eq_true rfl), (Nat.le_of_ble_eq_true rfl)⟩ hph hph (show 0 + 0 = 0 from rfl) (by decide) (fun rh2 Lh2 clh2 lnh2 ivh2 rvh2 h2 => ?_)
    obtain ⟨f2, rfl, rfl, rfl, rfl, rfl, rfl, rgf2, exf2⟩ := h2
    refine c_st (st2 := [.int (iI f2), .int (iI i)]) rfl ?_
    refine c_icmp_ge (tgt := 24) C ⟨by omega, by omega⟩ ⟨by omega, by omega⟩ dX11_page_9 (by decide) (fun c2 => ?_) (fun c2 => ?_)
    · refine c_aload_n (j := 0) (x := a0) C dX11_page_24 rfl ?_
      refine c_iconst C dX11_page_25 ?_
      refine d_callV (As := [.int (iI 2)]) (rest := []) C hM (C_refuse (a0 := a0) (x := 2) hW hS t_a0 ⟨by decide, by decide⟩ ) dX11_page_26 kV_X11_102 rfl t_a0 rfl rfl (by decide) ck_12 rfl (Nat.le_of_ble_eq_true rfl) ⟨(Nat.le_of_ble_eq_true rfl), (Nat.le_of_ble_eq_true rfl)⟩ hph hph (show 0 + 0 = 0 from rfl) (by decide) (fun rh3 Lh3 clh3 lnh3 ivh3 rvh3 h3 => ?_)
      obtain ⟨f3, rfl, rfl, rfl, rfl, rfl, fl3, W3, rgf3, exf3, kp11f3, kp12f3, kp13f3, kp14f3, kp15f3, kp16f3⟩ := h3
      have ri13 : 1 ≤ iv a0 11 ∧ iv a0 11 ≤ 100 := hW.int t_a0 11
      have ri14 : 1 ≤ iv a0 12 ∧ iv a0 12 ≤ 50 := hW.int t_a0 12
      have ri15 : (-2147483648) ≤ iv a0 13 ∧ iv a0 13 ≤ 2147483647 := hW.int t_a0 13
      have ri16 : (-2147483648) ≤ iv a0 14 ∧ iv a0 14 ≤ 2147483647 := hW.int t_a0 14
      have ri17 : (-2147483648) ≤ iv a0 15 ∧ iv a0 15 ≤ 2147483647 := hW.int t_a0 15
      have ri18 : (-2147483648) ≤ iv a0 16 ∧ iv a0 16 ≤ 2147483647 := hW.int t_a0 16
      have F2 := hF0.call hX0 fl3 rfl
      refine c_st (st2 := [.int (iI f3)]) rfl ?_
      have gk11f3 : ivh3 a0 11 = iv a0 11 := kp11f3
      have gk12f3 : ivh3 a0 12 = iv a0 12 := kp12f3
      have gk13f3 : ivh3 a0 13 = iv a0 13 := kp13f3
      have gk14f3 : ivh3 a0 14 = iv a0 14 := kp14f3
      have gk15f3 : ivh3 a0 15 = iv a0 15 := kp15f3
      have gk16f3 : ivh3 a0 16 = iv a0 16 := kp16f3
      have gf3 : f3 = -1 := exf3
      have ri19 : 1 ≤ ivh3 a0 11 ∧ ivh3 a0 11 ≤ 100 := W3.int t_a0 11
      have ri20 : 1 ≤ ivh3 a0 12 ∧ ivh3 a0 12 ≤ 50 := W3.int t_a0 12
      have ri21 : (-2147483648) ≤ ivh3 a0 13 ∧ ivh3 a0 13 ≤ 2147483647 := W3.int t_a0 13
      have ri22 : (-2147483648) ≤ ivh3 a0 14 ∧ ivh3 a0 14 ≤ 2147483647 := W3.int t_a0 14
      have ri23 : (-2147483648) ≤ ivh3 a0 15 ∧ ivh3 a0 15 ≤ 2147483647 := W3.int t_a0 15
      have ri24 : (-2147483648) ≤ ivh3 a0 16 ∧ ivh3 a0 16 ≤ 2147483647 := W3.int t_a0 16
      exact c_iret C dX11_page_29 rfl (by decide) (rom0 hph hph (by decide)) ⟨f3, rfl, rfl, rfl, rfl, rfl, F2, W3, ⟨by omega, by omega⟩, trivial, (by omega), (by omega), (by omega), (by omega), (by omega), (by omega)⟩
    · refine c_iload_n (j := 2) C dX11_page_12 rfl ?_
      refine c_if_lt (tgt := 24) C ⟨by omega, by omega⟩ dX11_page_13 (by decide) (fun c3 => ?_) (fun c3 => ?_)
      · refine c_aload_n (j := 0) (x := a0) C dX11_page_24 rfl ?_
        refine c_iconst C dX11_page_25 ?_
        refine d_callV (As := [.int (iI 2)]) (rest := []) C hM (C_refuse (a0 := a0) (x := 2) hW hS t_a0 ⟨by decide, by decide⟩ ) dX11_page_26 kV_X11_102 rfl t_a0 rfl rfl (by decide) ck_12 rfl (Nat.le_of_ble_eq_true rfl) ⟨(Nat.le_of_ble_eq_true rfl), (Nat.le_of_ble_eq_true rfl)⟩ hph hph (show 0 + 0 = 0 from rfl) (by decide) (fun rh4 Lh4 clh4 lnh4 ivh4 rvh4 h4 => ?_)
        obtain ⟨f4, rfl, rfl, rfl, rfl, rfl, fl4, W4, rgf4, exf4, kp11f4, kp12f4, kp13f4, kp14f4, kp15f4, kp16f4⟩ := h4
        have ri25 : 1 ≤ iv a0 11 ∧ iv a0 11 ≤ 100 := hW.int t_a0 11
        have ri26 : 1 ≤ iv a0 12 ∧ iv a0 12 ≤ 50 := hW.int t_a0 12
        have ri27 : (-2147483648) ≤ iv a0 13 ∧ iv a0 13 ≤ 2147483647 := hW.int t_a0 13
        have ri28 : (-2147483648) ≤ iv a0 14 ∧ iv a0 14 ≤ 2147483647 := hW.int t_a0 14
        have ri29 : (-2147483648) ≤ iv a0 15 ∧ iv a0 15 ≤ 2147483647 := hW.int t_a0 15
        have ri30 : (-2147483648) ≤ iv a0 16 ∧ iv a0 16 ≤ 2147483647 := hW.int t_a0 16
        have F3 := hF0.call hX0 fl4 rfl
        refine c_st (st2 := [.int (iI f4)]) rfl ?_
        have gk11f4 : ivh4 a0 11 = iv a0 11 := kp11f4
        have gk12f4 : ivh4 a0 12 = iv a0 12 := kp12f4
        have gk13f4 : ivh4 a0 13 = iv a0 13 := kp13f4
        have gk14f4 : ivh4 a0 14 = iv a0 14 := kp14f4
        have gk15f4 : ivh4 a0 15 = iv a0 15 := kp15f4
        have gk16f4 : ivh4 a0 16 = iv a0 16 := kp16f4
        have gf4 : f4 = -1 := exf4
        have ri31 : 1 ≤ ivh4 a0 11 ∧ ivh4 a0 11 ≤ 100 := W4.int t_a0 11
        have ri32 : 1 ≤ ivh4 a0 12 ∧ ivh4 a0 12 ≤ 50 := W4.int t_a0 12
        have ri33 : (-2147483648) ≤ ivh4 a0 13 ∧ ivh4 a0 13 ≤ 2147483647 := W4.int t_a0 13
        have ri34 : (-2147483648) ≤ ivh4 a0 14 ∧ ivh4 a0 14 ≤ 2147483647 := W4.int t_a0 14
        have ri35 : (-2147483648) ≤ ivh4 a0 15 ∧ ivh4 a0 15 ≤ 2147483647 := W4.int t_a0 15
        have ri36 : (-2147483648) ≤ ivh4 a0 16 ∧ ivh4 a0 16 ≤ 2147483647 := W4.int t_a0 16
        exact c_iret C dX11_page_29 rfl (by decide) (rom0 hph hph (by decide)) ⟨f4, rfl, rfl, rfl, rfl, rfl, F3, W4, ⟨by omega, by omega⟩, trivial, (by omega), (by omega), (by omega), (by omega), (by omega), (by omega)⟩
      · refine c_iload_n (j := 2) C dX11_page_16 rfl ?_
        refine c_aload_n (j := 0) (x := a0) C dX11_page_17 rfl ?_
        have ri37 : 1 ≤ iv a0 12 ∧ iv a0 12 ≤ 50 := hW.int t_a0 12
        refine c_get (k := 12) C ck_12 dX11_page_18 w2_56 (by decide) t_a0 rfl rfl (by decide) rfl ?_
        refine c_icmp_lt (tgt := 30) C ⟨by omega, by omega⟩ ⟨by omega, by omega⟩ dX11_page_21 (by decide) (fun c4 => ?_) (fun c4 => ?_)
        · refine c_aload_n (j := 0) (x := a0) C dX11_page_30 rfl ?_
          refine d_callV (As := []) (rest := []) C hM (C_hasHeader (a0 := a0) hW hS t_a0  ) dX11_page_31 kV_X11_285 rfl t_a0 rfl rfl (by decide) ck_12 rfl (Nat.le_of_ble_eq_true rfl) ⟨(Nat.le_of_ble_eq_true rfl), (Nat.le_of_ble_eq_true rfl)⟩ hph hph (show 0 + 0 = 0 from rfl) (by decide) (fun rh5 Lh5 clh5 lnh5 ivh5 rvh5 h5 => ?_)
          obtain ⟨f5, rfl, rfl, rfl, rfl, rfl, rfl, rgf5, exf5⟩ := h5
          refine c_st (st2 := [.int (iI f5)]) rfl ?_
          have gf5 : f5 = 0 ∨ 2 ≤ iv a0 12 := exf5
          refine c_if_eq (tgt := 41) C ⟨by omega, by omega⟩ dX11_page_34 (by decide) (fun c5 => ?_) (fun c5 => ?_)
          · refine c_iconst C dX11_page_41 ?_
            refine c_istore (lv2 := [(4, .int (iI 0)), (0, .ref a0), (1, .int (iI i)), (2, .int (iI j)), (3, .int (iI k))]) C dX11_page_42 (by decide) rfl ?_
            refine c_iload_n (j := 3) C dX11_page_44 rfl ?_
            refine c_iload (j := 0) C dX11_page_45 rfl ?_
            refine c_icmp_ge (tgt := 86) C ⟨by omega, by omega⟩ ⟨by decide, by decide⟩ dX11_page_47 (by decide) (fun c6 => ?_) (fun c6 => ?_)
            · refine c_aload_n (j := 1) (x := a0) C dX11_page_86 rfl ?_
              refine c_iload_n (j := 2) C dX11_page_87 rfl ?_
              refine c_aload_n (j := 1) (x := a0) C dX11_page_88 rfl ?_
              refine d_callV (As := []) (rest := [.int (iI i), .ref a0]) C hM (C_linesOfPage (a0 := a0) hW hS t_a0  ) dX11_page_89 kV_X11_282 rfl t_a0 rfl rfl (by decide) ck_12 rfl (Nat.le_of_ble_eq_true rfl) ⟨(Nat.le_of_ble_eq_true rfl), (Nat.le_of_ble_eq_true rfl)⟩ hph hph (show 0 + 0 = 0 from rfl) (by decide) (fun rh6 Lh6 clh6 lnh6 ivh6 rvh6 h6 => ?_)
              obtain ⟨f6, rfl, rfl, rfl, rfl, rfl, rfl, rgf6, exf6⟩ := h6
              refine c_st (st2 := [.int (iI f6), .int (iI i), .ref a0]) rfl ?_
              have gf6 : 1 ≤ f6 ∧ f6 ≤ 50 := exf6
              refine c_imul C dX11_page_92 ?_
              obtain ⟨zz1, hzz1, ezz1⟩ := iI_of (iI (i * f6))
              refine c_st (st2 := [.int (iI zz1), .ref a0]) (by rw [ezz1]) ?_
              refine c_iload_n (j := 3) C dX11_page_93 rfl ?_
              refine c_iadd C dX11_page_94 ?_
              obtain ⟨zz2, hzz2, ezz2⟩ := iI_of (iI (zz1 + j))
              refine c_st (st2 := [.int (iI zz2), .ref a0]) (by rw [ezz2]) ?_
              refine c_iload (j := 0) C dX11_page_95 rfl ?_
              refine c_isub C dX11_page_97 ?_
              obtain ⟨zz3, hzz3, ezz3⟩ := iI_of (iI (zz2 - 0))
              refine c_st (st2 := [.int (iI zz3), .ref a0]) (by rw [ezz3]) ?_
              refine c_iload_n (j := 4) C dX11_page_98 rfl ?_
              refine d_callV (As := [.int (iI zz3), .int (iI k)]) (rest := []) C hM (C_cellOfLine (a0 := a0) (i := zz3) (j := k) hW hS t_a0 (by omega) (by omega) ) dX11_page_99 kV_X11_298 rfl t_a0 rfl rfl (by decide) ck_12 rfl (Nat.le_of_ble_eq_true rfl) ⟨(Nat.le_of_ble_eq_true rfl), (Nat.le_of_ble_eq_true rfl)⟩ hph hph (show 0 + 0 = 0 from rfl) (by decide) (fun rh7 Lh7 clh7 lnh7 ivh7 rvh7 h7 => ?_)
              obtain ⟨f7, rfl, rfl, rfl, rfl, rfl, fl7, W7, rgf7, exf7, kp11f7, kp12f7, kp13f7, kp14f7, kp15f7, kp16f7⟩ := h7
              have ri38 : 1 ≤ iv a0 11 ∧ iv a0 11 ≤ 100 := hW.int t_a0 11
              have ri39 : (-2147483648) ≤ iv a0 13 ∧ iv a0 13 ≤ 2147483647 := hW.int t_a0 13
              have ri40 : (-2147483648) ≤ iv a0 14 ∧ iv a0 14 ≤ 2147483647 := hW.int t_a0 14
              have ri41 : (-2147483648) ≤ iv a0 15 ∧ iv a0 15 ≤ 2147483647 := hW.int t_a0 15
              have ri42 : (-2147483648) ≤ iv a0 16 ∧ iv a0 16 ≤ 2147483647 := hW.int t_a0 16
              have F4 := hF0.call hX0 fl7 rfl
              refine c_st (st2 := [.int (iI f7)]) rfl ?_
              have gk11f7 : ivh7 a0 11 = iv a0 11 := kp11f7
              have gk12f7 : ivh7 a0 12 = iv a0 12 := kp12f7
              have gk13f7 : ivh7 a0 13 = iv a0 13 := kp13f7
              have gk14f7 : ivh7 a0 14 = iv a0 14 := kp14f7
              have gk15f7 : ivh7 a0 15 = iv a0 15 := kp15f7
              have gk16f7 : ivh7 a0 16 = iv a0 16 := kp16f7
              have ri43 : 1 ≤ ivh7 a0 11 ∧ ivh7 a0 11 ≤ 100 := W7.int t_a0 11
              have ri44 : 1 ≤ ivh7 a0 12 ∧ ivh7 a0 12 ≤ 50 := W7.int t_a0 12
              have ri45 : (-2147483648) ≤ ivh7 a0 13 ∧ ivh7 a0 13 ≤ 2147483647 := W7.int t_a0 13
              have ri46 : (-2147483648) ≤ ivh7 a0 14 ∧ ivh7 a0 14 ≤ 2147483647 := W7.int t_a0 14
              have ri47 : (-2147483648) ≤ ivh7 a0 15 ∧ ivh7 a0 15 ≤ 2147483647 := W7.int t_a0 15
              have ri48 : (-2147483648) ≤ ivh7 a0 16 ∧ ivh7 a0 16 ≤ 2147483647 := W7.int t_a0 16
              exact c_iret C dX11_page_102 rfl (by decide) (rom0 hph hph (by decide)) ⟨f7, rfl, rfl, rfl, rfl, rfl, F4, W7, ⟨by omega, by omega⟩, trivial, (by omega), (by omega), (by omega), (by omega), (by omega), (by omega)⟩
            · refine c_iload_n (j := 4) C dX11_page_50 rfl ?_
              refine c_if_lt (tgt := 65) C ⟨by omega, by omega⟩ dX11_page_51 (by decide) (fun c7 => ?_) (fun c7 => ?_)
              · refine c_aload_n (j := 1) (x := a0) C dX11_page_65 rfl ?_
                refine c_iconst C dX11_page_66 ?_
                refine d_callV (As := [.int (iI 2)]) (rest := []) C hM (C_refuse (a0 := a0) (x := 2) hW hS t_a0 ⟨by decide, by decide⟩ ) dX11_page_67 kV_X11_102 rfl t_a0 rfl rfl (by decide) ck_12 rfl (Nat.le_of_ble_eq_true rfl) ⟨(Nat.le_of_ble_eq_true rfl), (Nat.le_of_ble_eq_true rfl)⟩ hph hph (show 0 + 0 = 0 from rfl) (by decide) (fun rh8 Lh8 clh8 lnh8 ivh8 rvh8 h8 => ?_)
                obtain ⟨f8, rfl, rfl, rfl, rfl, rfl, fl8, W8, rgf8, exf8, kp11f8, kp12f8, kp13f8, kp14f8, kp15f8, kp16f8⟩ := h8
                have ri49 : 1 ≤ iv a0 11 ∧ iv a0 11 ≤ 100 := hW.int t_a0 11
                have ri50 : (-2147483648) ≤ iv a0 13 ∧ iv a0 13 ≤ 2147483647 := hW.int t_a0 13
                have ri51 : (-2147483648) ≤ iv a0 14 ∧ iv a0 14 ≤ 2147483647 := hW.int t_a0 14
                have ri52 : (-2147483648) ≤ iv a0 15 ∧ iv a0 15 ≤ 2147483647 := hW.int t_a0 15
                have ri53 : (-2147483648) ≤ iv a0 16 ∧ iv a0 16 ≤ 2147483647 := hW.int t_a0 16
                have F5 := hF0.call hX0 fl8 rfl
                refine c_st (st2 := [.int (iI f8)]) rfl ?_
                have gk11f8 : ivh8 a0 11 = iv a0 11 := kp11f8
                have gk12f8 : ivh8 a0 12 = iv a0 12 := kp12f8
                have gk13f8 : ivh8 a0 13 = iv a0 13 := kp13f8
                have gk14f8 : ivh8 a0 14 = iv a0 14 := kp14f8
                have gk15f8 : ivh8 a0 15 = iv a0 15 := kp15f8
                have gk16f8 : ivh8 a0 16 = iv a0 16 := kp16f8
                have gf8 : f8 = -1 := exf8
                refine c_goto (tgt := 85) C dX11_page_70 (by decide) ?_
                have ri54 : 1 ≤ ivh8 a0 11 ∧ ivh8 a0 11 ≤ 100 := W8.int t_a0 11
                have ri55 : 1 ≤ ivh8 a0 12 ∧ ivh8 a0 12 ≤ 50 := W8.int t_a0 12
                have ri56 : (-2147483648) ≤ ivh8 a0 13 ∧ ivh8 a0 13 ≤ 2147483647 := W8.int t_a0 13
                have ri57 : (-2147483648) ≤ ivh8 a0 14 ∧ ivh8 a0 14 ≤ 2147483647 := W8.int t_a0 14
                have ri58 : (-2147483648) ≤ ivh8 a0 15 ∧ ivh8 a0 15 ≤ 2147483647 := W8.int t_a0 15
                have ri59 : (-2147483648) ≤ ivh8 a0 16 ∧ ivh8 a0 16 ≤ 2147483647 := W8.int t_a0 16
                exact c_iret C dX11_page_85 rfl (by decide) (rom0 hph hph (by decide)) ⟨f8, rfl, rfl, rfl, rfl, rfl, F5, W8, ⟨by omega, by omega⟩, trivial, (by omega), (by omega), (by omega), (by omega), (by omega), (by omega)⟩
              · refine c_iload_n (j := 4) C dX11_page_54 rfl ?_
                refine c_aload_n (j := 1) (x := a0) C dX11_page_55 rfl ?_
                obtain ⟨rb1, rq1, trb1⟩ := hW.ref t_a0 3 rfl rfl rfl
                have erb1 := hW.sk trb1 (by decide) rfl
                subst erb1
                refine c_getr (k := 3) C ck_12 dX11_page_56 w2_47 (by decide) t_a0 rfl rfl (by decide) rfl rq1 ?_
                refine c_st (st2 := [.ref (sk 5), .int (iI k)]) rfl ?_
                have ri60 : 0 ≤ iv (sk 5) 2 ∧ iv (sk 5) 2 ≤ 200 := hW.int tsk5 2
                refine c_get (k := 2) C ck_2 dX11_page_59 w1_44 (by decide) tsk5 rfl rfl (by decide) rfl ?_
                refine c_icmp_lt (tgt := 73) C ⟨by omega, by omega⟩ ⟨by omega, by omega⟩ dX11_page_62 (by decide) (fun c8 => ?_) (fun c8 => ?_)
                · refine c_aload_n (j := 1) (x := a0) C dX11_page_73 rfl ?_
                  refine c_aload_n (j := 1) (x := a0) C dX11_page_74 rfl ?_
                  refine c_getr (k := 3) C ck_12 dX11_page_75 w2_47 (by decide) t_a0 rfl rfl (by decide) rfl rq1 ?_
                  refine c_st (st2 := [.ref (sk 5), .ref a0]) rfl ?_
                  refine c_iload_n (j := 4) C dX11_page_78 rfl ?_
                  refine d_callV (As := [.int (iI k)]) (rest := [.ref a0]) C hM (C_at_5 (a0 := (sk 5)) (i := k) hW hS tsk5 (by omega) ) dX11_page_79 kV_X11_224 rfl tsk5 rfl rfl (by decide) ck_2 rfl (Nat.le_of_ble_eq_true rfl) ⟨(Nat.le_of_ble_eq_true rfl), (Nat.le_of_ble_eq_true rfl)⟩ hph hph (show 0 + 0 = 0 from rfl) (by decide) (fun rh9 Lh9 clh9 lnh9 ivh9 rvh9 h9 => ?_)
                  obtain ⟨f9, rfl, rfl, rfl, rfl, rfl, rfl, rgf9, exf9⟩ := h9
                  refine c_st (st2 := [.int (iI f9), .ref a0]) rfl ?_
                  have gf9 : ((0 ≤ k ∧ k < iv (sk 5) 2) ∨ f9 = 0) ∧ ∀ ss, CT iv rv (sk 5) ss → 0 ≤ k → k < iv (sk 5) 2 → f9 = ss k.toNat := exf9
                  refine d_callV (As := [.int (iI f9)]) (rest := []) C hM (C_done (a0 := a0) (x := f9) hW hS t_a0 (by omega) ) dX11_page_82 kV_X11_109 rfl t_a0 rfl rfl (by decide) ck_12 rfl (Nat.le_of_ble_eq_true rfl) ⟨(Nat.le_of_ble_eq_true rfl), (Nat.le_of_ble_eq_true rfl)⟩ hph hph (show 0 + 0 = 0 from rfl) (by decide) (fun rh10 Lh10 clh10 lnh10 ivh10 rvh10 h10 => ?_)
                  obtain ⟨f10, rfl, rfl, rfl, rfl, rfl, fl10, W10, rgf10, exf10, kp11f10, kp12f10, kp13f10, kp14f10, kp15f10, kp16f10⟩ := h10
                  have ri61 : 1 ≤ iv a0 11 ∧ iv a0 11 ≤ 100 := hW.int t_a0 11
                  have ri62 : (-2147483648) ≤ iv a0 13 ∧ iv a0 13 ≤ 2147483647 := hW.int t_a0 13
                  have ri63 : (-2147483648) ≤ iv a0 14 ∧ iv a0 14 ≤ 2147483647 := hW.int t_a0 14
                  have ri64 : (-2147483648) ≤ iv a0 15 ∧ iv a0 15 ≤ 2147483647 := hW.int t_a0 15
                  have ri65 : (-2147483648) ≤ iv a0 16 ∧ iv a0 16 ≤ 2147483647 := hW.int t_a0 16
                  have F6 := hF0.call hX0 fl10 rfl
                  refine c_st (st2 := [.int (iI f10)]) rfl ?_
                  have gk11f10 : ivh10 a0 11 = iv a0 11 := kp11f10
                  have gk12f10 : ivh10 a0 12 = iv a0 12 := kp12f10
                  have gk13f10 : ivh10 a0 13 = iv a0 13 := kp13f10
                  have gk14f10 : ivh10 a0 14 = iv a0 14 := kp14f10
                  have gk15f10 : ivh10 a0 15 = iv a0 15 := kp15f10
                  have gk16f10 : ivh10 a0 16 = iv a0 16 := kp16f10
                  have gf10 : f10 = f9 := exf10
                  have ri66 : 1 ≤ ivh10 a0 11 ∧ ivh10 a0 11 ≤ 100 := W10.int t_a0 11
                  have ri67 : 1 ≤ ivh10 a0 12 ∧ ivh10 a0 12 ≤ 50 := W10.int t_a0 12
                  have ri68 : (-2147483648) ≤ ivh10 a0 13 ∧ ivh10 a0 13 ≤ 2147483647 := W10.int t_a0 13
                  have ri69 : (-2147483648) ≤ ivh10 a0 14 ∧ ivh10 a0 14 ≤ 2147483647 := W10.int t_a0 14
                  have ri70 : (-2147483648) ≤ ivh10 a0 15 ∧ ivh10 a0 15 ≤ 2147483647 := W10.int t_a0 15
                  have ri71 : (-2147483648) ≤ ivh10 a0 16 ∧ ivh10 a0 16 ≤ 2147483647 := W10.int t_a0 16
                  exact c_iret C dX11_page_85 rfl (by decide) (rom0 hph hph (by decide)) ⟨f10, rfl, rfl, rfl, rfl, rfl, F6, W10, ⟨by omega, by omega⟩, trivial, (by omega), (by omega), (by omega), (by omega), (by omega), (by omega)⟩
                · refine c_aload_n (j := 1) (x := a0) C dX11_page_65 rfl ?_
                  refine c_iconst C dX11_page_66 ?_
                  refine d_callV (As := [.int (iI 2)]) (rest := []) C hM (C_refuse (a0 := a0) (x := 2) hW hS t_a0 ⟨by decide, by decide⟩ ) dX11_page_67 kV_X11_102 rfl t_a0 rfl rfl (by decide) ck_12 rfl (Nat.le_of_ble_eq_true rfl) ⟨(Nat.le_of_ble_eq_true rfl), (Nat.le_of_ble_eq_true rfl)⟩ hph hph (show 0 + 0 = 0 from rfl) (by decide) (fun rh11 Lh11 clh11 lnh11 ivh11 rvh11 h11 => ?_)
                  obtain ⟨f11, rfl, rfl, rfl, rfl, rfl, fl11, W11, rgf11, exf11, kp11f11, kp12f11, kp13f11, kp14f11, kp15f11, kp16f11⟩ := h11
                  have ri72 : 1 ≤ iv a0 11 ∧ iv a0 11 ≤ 100 := hW.int t_a0 11
                  have ri73 : (-2147483648) ≤ iv a0 13 ∧ iv a0 13 ≤ 2147483647 := hW.int t_a0 13
                  have ri74 : (-2147483648) ≤ iv a0 14 ∧ iv a0 14 ≤ 2147483647 := hW.int t_a0 14
                  have ri75 : (-2147483648) ≤ iv a0 15 ∧ iv a0 15 ≤ 2147483647 := hW.int t_a0 15
                  have ri76 : (-2147483648) ≤ iv a0 16 ∧ iv a0 16 ≤ 2147483647 := hW.int t_a0 16
                  have F7 := hF0.call hX0 fl11 rfl
                  refine c_st (st2 := [.int (iI f11)]) rfl ?_
                  have gk11f11 : ivh11 a0 11 = iv a0 11 := kp11f11
                  have gk12f11 : ivh11 a0 12 = iv a0 12 := kp12f11
                  have gk13f11 : ivh11 a0 13 = iv a0 13 := kp13f11
                  have gk14f11 : ivh11 a0 14 = iv a0 14 := kp14f11
                  have gk15f11 : ivh11 a0 15 = iv a0 15 := kp15f11
                  have gk16f11 : ivh11 a0 16 = iv a0 16 := kp16f11
                  have gf11 : f11 = -1 := exf11
                  refine c_goto (tgt := 85) C dX11_page_70 (by decide) ?_
                  have ri77 : 1 ≤ ivh11 a0 11 ∧ ivh11 a0 11 ≤ 100 := W11.int t_a0 11
                  have ri78 : 1 ≤ ivh11 a0 12 ∧ ivh11 a0 12 ≤ 50 := W11.int t_a0 12
                  have ri79 : (-2147483648) ≤ ivh11 a0 13 ∧ ivh11 a0 13 ≤ 2147483647 := W11.int t_a0 13
                  have ri80 : (-2147483648) ≤ ivh11 a0 14 ∧ ivh11 a0 14 ≤ 2147483647 := W11.int t_a0 14
                  have ri81 : (-2147483648) ≤ ivh11 a0 15 ∧ ivh11 a0 15 ≤ 2147483647 := W11.int t_a0 15
                  have ri82 : (-2147483648) ≤ ivh11 a0 16 ∧ ivh11 a0 16 ≤ 2147483647 := W11.int t_a0 16
                  exact c_iret C dX11_page_85 rfl (by decide) (rom0 hph hph (by decide)) ⟨f11, rfl, rfl, rfl, rfl, rfl, F7, W11, ⟨by omega, by omega⟩, trivial, (by omega), (by omega), (by omega), (by omega), (by omega), (by omega)⟩
          · refine c_iconst C dX11_page_37 ?_
            refine c_goto (tgt := 42) C dX11_page_38 (by decide) ?_
            refine c_istore (lv2 := [(4, .int (iI 1)), (0, .ref a0), (1, .int (iI i)), (2, .int (iI j)), (3, .int (iI k))]) C dX11_page_42 (by decide) rfl ?_
            refine c_iload_n (j := 3) C dX11_page_44 rfl ?_
            refine c_iload (j := 0) C dX11_page_45 rfl ?_
            refine c_icmp_ge (tgt := 86) C ⟨by omega, by omega⟩ ⟨by decide, by decide⟩ dX11_page_47 (by decide) (fun c9 => ?_) (fun c9 => ?_)
            · refine c_aload_n (j := 1) (x := a0) C dX11_page_86 rfl ?_
              refine c_iload_n (j := 2) C dX11_page_87 rfl ?_
              refine c_aload_n (j := 1) (x := a0) C dX11_page_88 rfl ?_
              refine d_callV (As := []) (rest := [.int (iI i), .ref a0]) C hM (C_linesOfPage (a0 := a0) hW hS t_a0  ) dX11_page_89 kV_X11_282 rfl t_a0 rfl rfl (by decide) ck_12 rfl (Nat.le_of_ble_eq_true rfl) ⟨(Nat.le_of_ble_eq_true rfl), (Nat.le_of_ble_eq_true rfl)⟩ hph hph (show 0 + 0 = 0 from rfl) (by decide) (fun rh12 Lh12 clh12 lnh12 ivh12 rvh12 h12 => ?_)
              obtain ⟨f12, rfl, rfl, rfl, rfl, rfl, rfl, rgf12, exf12⟩ := h12
              refine c_st (st2 := [.int (iI f12), .int (iI i), .ref a0]) rfl ?_
              have gf12 : 1 ≤ f12 ∧ f12 ≤ 50 := exf12
              refine c_imul C dX11_page_92 ?_
              obtain ⟨zz4, hzz4, ezz4⟩ := iI_of (iI (i * f12))
              refine c_st (st2 := [.int (iI zz4), .ref a0]) (by rw [ezz4]) ?_
              refine c_iload_n (j := 3) C dX11_page_93 rfl ?_
              refine c_iadd C dX11_page_94 ?_
              obtain ⟨zz5, hzz5, ezz5⟩ := iI_of (iI (zz4 + j))
              refine c_st (st2 := [.int (iI zz5), .ref a0]) (by rw [ezz5]) ?_
              refine c_iload (j := 0) C dX11_page_95 rfl ?_
              refine c_isub C dX11_page_97 ?_
              obtain ⟨zz6, hzz6, ezz6⟩ := iI_of (iI (zz5 - 1))
              refine c_st (st2 := [.int (iI zz6), .ref a0]) (by rw [ezz6]) ?_
              refine c_iload_n (j := 4) C dX11_page_98 rfl ?_
              refine d_callV (As := [.int (iI zz6), .int (iI k)]) (rest := []) C hM (C_cellOfLine (a0 := a0) (i := zz6) (j := k) hW hS t_a0 (by omega) (by omega) ) dX11_page_99 kV_X11_298 rfl t_a0 rfl rfl (by decide) ck_12 rfl (Nat.le_of_ble_eq_true rfl) ⟨(Nat.le_of_ble_eq_true rfl), (Nat.le_of_ble_eq_true rfl)⟩ hph hph (show 0 + 0 = 0 from rfl) (by decide) (fun rh13 Lh13 clh13 lnh13 ivh13 rvh13 h13 => ?_)
              obtain ⟨f13, rfl, rfl, rfl, rfl, rfl, fl13, W13, rgf13, exf13, kp11f13, kp12f13, kp13f13, kp14f13, kp15f13, kp16f13⟩ := h13
              have ri83 : 1 ≤ iv a0 11 ∧ iv a0 11 ≤ 100 := hW.int t_a0 11
              have ri84 : (-2147483648) ≤ iv a0 13 ∧ iv a0 13 ≤ 2147483647 := hW.int t_a0 13
              have ri85 : (-2147483648) ≤ iv a0 14 ∧ iv a0 14 ≤ 2147483647 := hW.int t_a0 14
              have ri86 : (-2147483648) ≤ iv a0 15 ∧ iv a0 15 ≤ 2147483647 := hW.int t_a0 15
              have ri87 : (-2147483648) ≤ iv a0 16 ∧ iv a0 16 ≤ 2147483647 := hW.int t_a0 16
              have F8 := hF0.call hX0 fl13 rfl
              refine c_st (st2 := [.int (iI f13)]) rfl ?_
              have gk11f13 : ivh13 a0 11 = iv a0 11 := kp11f13
              have gk12f13 : ivh13 a0 12 = iv a0 12 := kp12f13
              have gk13f13 : ivh13 a0 13 = iv a0 13 := kp13f13
              have gk14f13 : ivh13 a0 14 = iv a0 14 := kp14f13
              have gk15f13 : ivh13 a0 15 = iv a0 15 := kp15f13
              have gk16f13 : ivh13 a0 16 = iv a0 16 := kp16f13
              have ri88 : 1 ≤ ivh13 a0 11 ∧ ivh13 a0 11 ≤ 100 := W13.int t_a0 11
              have ri89 : 1 ≤ ivh13 a0 12 ∧ ivh13 a0 12 ≤ 50 := W13.int t_a0 12
              have ri90 : (-2147483648) ≤ ivh13 a0 13 ∧ ivh13 a0 13 ≤ 2147483647 := W13.int t_a0 13
              have ri91 : (-2147483648) ≤ ivh13 a0 14 ∧ ivh13 a0 14 ≤ 2147483647 := W13.int t_a0 14
              have ri92 : (-2147483648) ≤ ivh13 a0 15 ∧ ivh13 a0 15 ≤ 2147483647 := W13.int t_a0 15
              have ri93 : (-2147483648) ≤ ivh13 a0 16 ∧ ivh13 a0 16 ≤ 2147483647 := W13.int t_a0 16
              exact c_iret C dX11_page_102 rfl (by decide) (rom0 hph hph (by decide)) ⟨f13, rfl, rfl, rfl, rfl, rfl, F8, W13, ⟨by omega, by omega⟩, trivial, (by omega), (by omega), (by omega), (by omega), (by omega), (by omega)⟩
            · refine c_iload_n (j := 4) C dX11_page_50 rfl ?_
              refine c_if_lt (tgt := 65) C ⟨by omega, by omega⟩ dX11_page_51 (by decide) (fun c10 => ?_) (fun c10 => ?_)
              · refine c_aload_n (j := 1) (x := a0) C dX11_page_65 rfl ?_
                refine c_iconst C dX11_page_66 ?_
                refine d_callV (As := [.int (iI 2)]) (rest := []) C hM (C_refuse (a0 := a0) (x := 2) hW hS t_a0 ⟨by decide, by decide⟩ ) dX11_page_67 kV_X11_102 rfl t_a0 rfl rfl (by decide) ck_12 rfl (Nat.le_of_ble_eq_true rfl) ⟨(Nat.le_of_ble_eq_true rfl), (Nat.le_of_ble_eq_true rfl)⟩ hph hph (show 0 + 0 = 0 from rfl) (by decide) (fun rh14 Lh14 clh14 lnh14 ivh14 rvh14 h14 => ?_)
                obtain ⟨f14, rfl, rfl, rfl, rfl, rfl, fl14, W14, rgf14, exf14, kp11f14, kp12f14, kp13f14, kp14f14, kp15f14, kp16f14⟩ := h14
                have ri94 : 1 ≤ iv a0 11 ∧ iv a0 11 ≤ 100 := hW.int t_a0 11
                have ri95 : (-2147483648) ≤ iv a0 13 ∧ iv a0 13 ≤ 2147483647 := hW.int t_a0 13
                have ri96 : (-2147483648) ≤ iv a0 14 ∧ iv a0 14 ≤ 2147483647 := hW.int t_a0 14
                have ri97 : (-2147483648) ≤ iv a0 15 ∧ iv a0 15 ≤ 2147483647 := hW.int t_a0 15
                have ri98 : (-2147483648) ≤ iv a0 16 ∧ iv a0 16 ≤ 2147483647 := hW.int t_a0 16
                have F9 := hF0.call hX0 fl14 rfl
                refine c_st (st2 := [.int (iI f14)]) rfl ?_
                have gk11f14 : ivh14 a0 11 = iv a0 11 := kp11f14
                have gk12f14 : ivh14 a0 12 = iv a0 12 := kp12f14
                have gk13f14 : ivh14 a0 13 = iv a0 13 := kp13f14
                have gk14f14 : ivh14 a0 14 = iv a0 14 := kp14f14
                have gk15f14 : ivh14 a0 15 = iv a0 15 := kp15f14
                have gk16f14 : ivh14 a0 16 = iv a0 16 := kp16f14
                have gf14 : f14 = -1 := exf14
                refine c_goto (tgt := 85) C dX11_page_70 (by decide) ?_
                have ri99 : 1 ≤ ivh14 a0 11 ∧ ivh14 a0 11 ≤ 100 := W14.int t_a0 11
                have ri100 : 1 ≤ ivh14 a0 12 ∧ ivh14 a0 12 ≤ 50 := W14.int t_a0 12
                have ri101 : (-2147483648) ≤ ivh14 a0 13 ∧ ivh14 a0 13 ≤ 2147483647 := W14.int t_a0 13
                have ri102 : (-2147483648) ≤ ivh14 a0 14 ∧ ivh14 a0 14 ≤ 2147483647 := W14.int t_a0 14
                have ri103 : (-2147483648) ≤ ivh14 a0 15 ∧ ivh14 a0 15 ≤ 2147483647 := W14.int t_a0 15
                have ri104 : (-2147483648) ≤ ivh14 a0 16 ∧ ivh14 a0 16 ≤ 2147483647 := W14.int t_a0 16
                exact c_iret C dX11_page_85 rfl (by decide) (rom0 hph hph (by decide)) ⟨f14, rfl, rfl, rfl, rfl, rfl, F9, W14, ⟨by omega, by omega⟩, trivial, (by omega), (by omega), (by omega), (by omega), (by omega), (by omega)⟩
              · refine c_iload_n (j := 4) C dX11_page_54 rfl ?_
                refine c_aload_n (j := 1) (x := a0) C dX11_page_55 rfl ?_
                obtain ⟨rb2, rq2, trb2⟩ := hW.ref t_a0 3 rfl rfl rfl
                have erb2 := hW.sk trb2 (by decide) rfl
                subst erb2
                refine c_getr (k := 3) C ck_12 dX11_page_56 w2_47 (by decide) t_a0 rfl rfl (by decide) rfl rq2 ?_
                refine c_st (st2 := [.ref (sk 5), .int (iI k)]) rfl ?_
                have ri105 : 0 ≤ iv (sk 5) 2 ∧ iv (sk 5) 2 ≤ 200 := hW.int tsk5 2
                refine c_get (k := 2) C ck_2 dX11_page_59 w1_44 (by decide) tsk5 rfl rfl (by decide) rfl ?_
                refine c_icmp_lt (tgt := 73) C ⟨by omega, by omega⟩ ⟨by omega, by omega⟩ dX11_page_62 (by decide) (fun c11 => ?_) (fun c11 => ?_)
                · refine c_aload_n (j := 1) (x := a0) C dX11_page_73 rfl ?_
                  refine c_aload_n (j := 1) (x := a0) C dX11_page_74 rfl ?_
                  refine c_getr (k := 3) C ck_12 dX11_page_75 w2_47 (by decide) t_a0 rfl rfl (by decide) rfl rq2 ?_
                  refine c_st (st2 := [.ref (sk 5), .ref a0]) rfl ?_
                  refine c_iload_n (j := 4) C dX11_page_78 rfl ?_
                  refine d_callV (As := [.int (iI k)]) (rest := [.ref a0]) C hM (C_at_5 (a0 := (sk 5)) (i := k) hW hS tsk5 (by omega) ) dX11_page_79 kV_X11_224 rfl tsk5 rfl rfl (by decide) ck_2 rfl (Nat.le_of_ble_eq_true rfl) ⟨(Nat.le_of_ble_eq_true rfl), (Nat.le_of_ble_eq_true rfl)⟩ hph hph (show 0 + 0 = 0 from rfl) (by decide) (fun rh15 Lh15 clh15 lnh15 ivh15 rvh15 h15 => ?_)
                  obtain ⟨f15, rfl, rfl, rfl, rfl, rfl, rfl, rgf15, exf15⟩ := h15
                  refine c_st (st2 := [.int (iI f15), .ref a0]) rfl ?_
                  have gf15 : ((0 ≤ k ∧ k < iv (sk 5) 2) ∨ f15 = 0) ∧ ∀ ss, CT iv rv (sk 5) ss → 0 ≤ k → k < iv (sk 5) 2 → f15 = ss k.toNat := exf15
                  refine d_callV (As := [.int (iI f15)]) (rest := []) C hM (C_done (a0 := a0) (x := f15) hW hS t_a0 (by omega) ) dX11_page_82 kV_X11_109 rfl t_a0 rfl rfl (by decide) ck_12 rfl (Nat.le_of_ble_eq_true rfl) ⟨(Nat.le_of_ble_eq_true rfl), (Nat.le_of_ble_eq_true rfl)⟩ hph hph (show 0 + 0 = 0 from rfl) (by decide) (fun rh16 Lh16 clh16 lnh16 ivh16 rvh16 h16 => ?_)
                  obtain ⟨f16, rfl, rfl, rfl, rfl, rfl, fl16, W16, rgf16, exf16, kp11f16, kp12f16, kp13f16, kp14f16, kp15f16, kp16f16⟩ := h16
                  have ri106 : 1 ≤ iv a0 11 ∧ iv a0 11 ≤ 100 := hW.int t_a0 11
                  have ri107 : (-2147483648) ≤ iv a0 13 ∧ iv a0 13 ≤ 2147483647 := hW.int t_a0 13
                  have ri108 : (-2147483648) ≤ iv a0 14 ∧ iv a0 14 ≤ 2147483647 := hW.int t_a0 14
                  have ri109 : (-2147483648) ≤ iv a0 15 ∧ iv a0 15 ≤ 2147483647 := hW.int t_a0 15
                  have ri110 : (-2147483648) ≤ iv a0 16 ∧ iv a0 16 ≤ 2147483647 := hW.int t_a0 16
                  have F10 := hF0.call hX0 fl16 rfl
                  refine c_st (st2 := [.int (iI f16)]) rfl ?_
                  have gk11f16 : ivh16 a0 11 = iv a0 11 := kp11f16
                  have gk12f16 : ivh16 a0 12 = iv a0 12 := kp12f16
                  have gk13f16 : ivh16 a0 13 = iv a0 13 := kp13f16
                  have gk14f16 : ivh16 a0 14 = iv a0 14 := kp14f16
                  have gk15f16 : ivh16 a0 15 = iv a0 15 := kp15f16
                  have gk16f16 : ivh16 a0 16 = iv a0 16 := kp16f16
                  have gf16 : f16 = f15 := exf16
                  have ri111 : 1 ≤ ivh16 a0 11 ∧ ivh16 a0 11 ≤ 100 := W16.int t_a0 11
                  have ri112 : 1 ≤ ivh16 a0 12 ∧ ivh16 a0 12 ≤ 50 := W16.int t_a0 12
                  have ri113 : (-2147483648) ≤ ivh16 a0 13 ∧ ivh16 a0 13 ≤ 2147483647 := W16.int t_a0 13
                  have ri114 : (-2147483648) ≤ ivh16 a0 14 ∧ ivh16 a0 14 ≤ 2147483647 := W16.int t_a0 14
                  have ri115 : (-2147483648) ≤ ivh16 a0 15 ∧ ivh16 a0 15 ≤ 2147483647 := W16.int t_a0 15
                  have ri116 : (-2147483648) ≤ ivh16 a0 16 ∧ ivh16 a0 16 ≤ 2147483647 := W16.int t_a0 16
                  exact c_iret C dX11_page_85 rfl (by decide) (rom0 hph hph (by decide)) ⟨f16, rfl, rfl, rfl, rfl, rfl, F10, W16, ⟨by omega, by omega⟩, trivial, (by omega), (by omega), (by omega), (by omega), (by omega), (by omega)⟩
                · refine c_aload_n (j := 1) (x := a0) C dX11_page_65 rfl ?_
                  refine c_iconst C dX11_page_66 ?_
                  refine d_callV (As := [.int (iI 2)]) (rest := []) C hM (C_refuse (a0 := a0) (x := 2) hW hS t_a0 ⟨by decide, by decide⟩ ) dX11_page_67 kV_X11_102 rfl t_a0 rfl rfl (by decide) ck_12 rfl (Nat.le_of_ble_eq_true rfl) ⟨(Nat.le_of_ble_eq_true rfl), (Nat.le_of_ble_eq_true rfl)⟩ hph hph (show 0 + 0 = 0 from rfl) (by decide) (fun rh17 Lh17 clh17 lnh17 ivh17 rvh17 h17 => ?_)
                  obtain ⟨f17, rfl, rfl, rfl, rfl, rfl, fl17, W17, rgf17, exf17, kp11f17, kp12f17, kp13f17, kp14f17, kp15f17, kp16f17⟩ := h17
                  have ri117 : 1 ≤ iv a0 11 ∧ iv a0 11 ≤ 100 := hW.int t_a0 11
                  have ri118 : (-2147483648) ≤ iv a0 13 ∧ iv a0 13 ≤ 2147483647 := hW.int t_a0 13
                  have ri119 : (-2147483648) ≤ iv a0 14 ∧ iv a0 14 ≤ 2147483647 := hW.int t_a0 14
                  have ri120 : (-2147483648) ≤ iv a0 15 ∧ iv a0 15 ≤ 2147483647 := hW.int t_a0 15
                  have ri121 : (-2147483648) ≤ iv a0 16 ∧ iv a0 16 ≤ 2147483647 := hW.int t_a0 16
                  have F11 := hF0.call hX0 fl17 rfl
                  refine c_st (st2 := [.int (iI f17)]) rfl ?_
                  have gk11f17 : ivh17 a0 11 = iv a0 11 := kp11f17
                  have gk12f17 : ivh17 a0 12 = iv a0 12 := kp12f17
                  have gk13f17 : ivh17 a0 13 = iv a0 13 := kp13f17
                  have gk14f17 : ivh17 a0 14 = iv a0 14 := kp14f17
                  have gk15f17 : ivh17 a0 15 = iv a0 15 := kp15f17
                  have gk16f17 : ivh17 a0 16 = iv a0 16 := kp16f17
                  have gf17 : f17 = -1 := exf17
                  refine c_goto (tgt := 85) C dX11_page_70 (by decide) ?_
                  have ri122 : 1 ≤ ivh17 a0 11 ∧ ivh17 a0 11 ≤ 100 := W17.int t_a0 11
                  have ri123 : 1 ≤ ivh17 a0 12 ∧ ivh17 a0 12 ≤ 50 := W17.int t_a0 12
                  have ri124 : (-2147483648) ≤ ivh17 a0 13 ∧ ivh17 a0 13 ≤ 2147483647 := W17.int t_a0 13
                  have ri125 : (-2147483648) ≤ ivh17 a0 14 ∧ ivh17 a0 14 ≤ 2147483647 := W17.int t_a0 14
                  have ri126 : (-2147483648) ≤ ivh17 a0 15 ∧ ivh17 a0 15 ≤ 2147483647 := W17.int t_a0 15
                  have ri127 : (-2147483648) ≤ ivh17 a0 16 ∧ ivh17 a0 16 ≤ 2147483647 := W17.int t_a0 16
                  exact c_iret C dX11_page_85 rfl (by decide) (rom0 hph hph (by decide)) ⟨f17, rfl, rfl, rfl, rfl, rfl, F11, W17, ⟨by omega, by omega⟩, trivial, (by omega), (by omega), (by omega), (by omega), (by omega), (by omega)⟩
        · refine c_aload_n (j := 0) (x := a0) C dX11_page_24 rfl ?_
          refine c_iconst C dX11_page_25 ?_
          refine d_callV (As := [.int (iI 2)]) (rest := []) C hM (C_refuse (a0 := a0) (x := 2) hW hS t_a0 ⟨by decide, by decide⟩ ) dX11_page_26 kV_X11_102 rfl t_a0 rfl rfl (by decide) ck_12 rfl (Nat.le_of_ble_eq_true rfl) ⟨(Nat.le_of_ble_eq_true rfl), (Nat.le_of_ble_eq_true rfl)⟩ hph hph (show 0 + 0 = 0 from rfl) (by decide) (fun rh18 Lh18 clh18 lnh18 ivh18 rvh18 h18 => ?_)
          obtain ⟨f18, rfl, rfl, rfl, rfl, rfl, fl18, W18, rgf18, exf18, kp11f18, kp12f18, kp13f18, kp14f18, kp15f18, kp16f18⟩ := h18
          have ri128 : 1 ≤ iv a0 11 ∧ iv a0 11 ≤ 100 := hW.int t_a0 11
          have ri129 : (-2147483648) ≤ iv a0 13 ∧ iv a0 13 ≤ 2147483647 := hW.int t_a0 13
          have ri130 : (-2147483648) ≤ iv a0 14 ∧ iv a0 14 ≤ 2147483647 := hW.int t_a0 14
          have ri131 : (-2147483648) ≤ iv a0 15 ∧ iv a0 15 ≤ 2147483647 := hW.int t_a0 15
          have ri132 : (-2147483648) ≤ iv a0 16 ∧ iv a0 16 ≤ 2147483647 := hW.int t_a0 16
          have F12 := hF0.call hX0 fl18 rfl
          refine c_st (st2 := [.int (iI f18)]) rfl ?_
          have gk11f18 : ivh18 a0 11 = iv a0 11 := kp11f18
          have gk12f18 : ivh18 a0 12 = iv a0 12 := kp12f18
          have gk13f18 : ivh18 a0 13 = iv a0 13 := kp13f18
          have gk14f18 : ivh18 a0 14 = iv a0 14 := kp14f18
          have gk15f18 : ivh18 a0 15 = iv a0 15 := kp15f18
          have gk16f18 : ivh18 a0 16 = iv a0 16 := kp16f18
          have gf18 : f18 = -1 := exf18
          have ri133 : 1 ≤ ivh18 a0 11 ∧ ivh18 a0 11 ≤ 100 := W18.int t_a0 11
          have ri134 : 1 ≤ ivh18 a0 12 ∧ ivh18 a0 12 ≤ 50 := W18.int t_a0 12
          have ri135 : (-2147483648) ≤ ivh18 a0 13 ∧ ivh18 a0 13 ≤ 2147483647 := W18.int t_a0 13
          have ri136 : (-2147483648) ≤ ivh18 a0 14 ∧ ivh18 a0 14 ≤ 2147483647 := W18.int t_a0 14
          have ri137 : (-2147483648) ≤ ivh18 a0 15 ∧ ivh18 a0 15 ≤ 2147483647 := W18.int t_a0 15
          have ri138 : (-2147483648) ≤ ivh18 a0 16 ∧ ivh18 a0 16 ≤ 2147483647 := W18.int t_a0 16
          exact c_iret C dX11_page_29 rfl (by decide) (rom0 hph hph (by decide)) ⟨f18, rfl, rfl, rfl, rfl, rfl, F12, W18, ⟨by omega, by omega⟩, trivial, (by omega), (by omega), (by omega), (by omega), (by omega), (by omega)⟩
set_option maxHeartbeats 4000000 in
set_option maxRecDepth 100000 in
theorem C_cut {l : Launch} {G : GT} {mi : Nat} {sk : Nat → Nat} {L : List Nat} {cl ln : Nat → Nat} {iv : Nat → Nat → Int} {rv : Nat → Nat → Option Nat}  {a0 : Nat} {i : Int} {n : Int} (hW : WT (g0 G) sk L cl ln iv rv) (hS : SKL sk L cl) (t_a0 : ty L cl a0 1) (h_i : -2147483648 ≤ i ∧ i ≤ 2147483647) (h_n : -2147483648 ≤ n ∧ n ≤ 2147483647)  : Mc l G mi (Phi (g0 G) sk) PHM yX11_cut cX11_cut 4 (some .int) 2 [.ref a0, .int (iI i), .int (iI n)] L cl ln iv rv 0 (fun v L2 cl2 ln2 iv2 rv2 => ∃ f : Int, v = some (.int (iI f)) ∧ L = L2 ∧ cl = cl2 ∧ ln = ln2 ∧ rv = rv2 ∧ fT [1, 19, 64] L cl iv rv iv2 rv2 ∧ WT (g0 G) sk L2 cl2 ln2 iv2 rv2 ∧ (-2147483648 ≤ f ∧ f ≤ 2147483647) ∧ (True) ∧ iv2 a0 11 = iv a0 11 ∧ iv2 a0 12 = iv a0 12 ∧ iv2 a0 13 = iv a0 13 ∧ iv2 a0 14 = iv a0 14 ∧ iv2 a0 15 = iv a0 15 ∧ iv2 a0 16 = iv a0 16) := by
  refine Mc.mk (by decide) (Nat.le_of_ble_eq_true rfl) ?_
  intro p e s m args below meth c A C hM
  have hph := Phi.le hW hS
  have hX0 : XT L cl ln L cl ln := XT.refl
  have hF0 : fT [1, 19, 64] L cl iv rv iv rv := fT.refl
  refine c_iload_n (j := 2) C dX11_cut_0 rfl ?_
  refine c_sipush (z := 200) C dX11_cut_1 (by decide) ?_
  refine c_icmp_le (tgt := 14) C ⟨by omega, by omega⟩ ⟨by decide, by decide⟩ dX11_cut_4 (by decide) (fun c1 => ?_) (fun c1 => ?_)
  · refine c_iload_n (j := 2) C dX11_cut_14 rfl ?_
    refine c_if_ge (tgt := 24) C ⟨by omega, by omega⟩ dX11_cut_15 (by decide) (fun c2 => ?_) (fun c2 => ?_)
    · refine c_aload_n (j := 0) (x := a0) C dX11_cut_24 rfl ?_
      obtain ⟨rb1, rq1, trb1⟩ := hW.ref t_a0 9 rfl rfl rfl
      refine c_getr (k := 9) C ck_12 dX11_cut_25 w2_53 (by decide) t_a0 rfl rfl (by decide) rfl rq1 ?_
      refine c_st (st2 := [.ref rb1]) rfl ?_
      refine c_iload_n (j := 1) C dX11_cut_28 rfl ?_
      have ri1 : 0 ≤ iv rb1 1 ∧ iv rb1 1 ≤ 200 := hW.int trb1 1
      refine d_callV (As := [.int (iI i)]) (rest := []) C hM (C_present (a0 := rb1) (i := i) hW hS trb1 (by omega) ) dX11_cut_29 kV_X11_288 rfl trb1 rfl rfl (by decide) ck_8 rfl (Nat.le_of_ble_eq_true rfl) ⟨(Nat.le_of_ble_eq_true rfl), (Nat.le_of_ble_eq_true rfl)⟩ hph hph (show 0 + 0 = 0 from rfl) (by decide) (fun rh1 Lh1 clh1 lnh1 ivh1 rvh1 h1 => ?_)
      obtain ⟨f1, rfl, rfl, rfl, rfl, rfl, rfl, rgf1, exf1⟩ := h1
      refine c_st (st2 := [(va_rf f1)]) rfl ?_
      have gf1 : f1 = none ∨ (0 ≤ i ∧ i < iv rb1 1) := exf1
      refine c_astorer_n (r := f1) (lv2 := [(3, (va_rf f1)), (0, .ref a0), (1, .int (iI i)), (2, .int (iI n))]) C dX11_cut_32 (by decide) rfl ?_
      refine c_aloadr_n (j := 0) (r := f1) C dX11_cut_33 rfl ?_
      refine c_ifnonnull (r := f1) (tgt := 50) C dX11_cut_34 (by decide) (fun ob1 oq1 => ?_) (fun oq1 => ?_)
      · subst oq1
        have tob1 := rgf1 ob1 rfl
        refine c_lv (lv2 := [(3, .ref ob1), (0, .ref a0), (1, .int (iI i)), (2, .int (iI n))]) [0, 1, 2, 3] rfl ?_
        refine c_st (st2 := []) rfl ?_
        refine c_aload_n (j := 0) (x := ob1) C dX11_cut_50 rfl ?_
        refine c_iload_n (j := 3) C dX11_cut_51 rfl ?_
        refine d_callV (As := [.int (iI n)]) (rest := []) C hM (C_resize (a0 := ob1) (n := n) hW hS tob1 (by omega) (by show 0 ≤ n ∧ n ≤ 200; omega)) dX11_cut_52 kV_X11_305 rfl tob1 rfl rfl (by decide) ck_3 rfl (Nat.le_of_ble_eq_true rfl) ⟨(Nat.le_of_ble_eq_true rfl), (Nat.le_of_ble_eq_true rfl)⟩ hph hph (show 0 + 0 = 0 from rfl) (by decide) (fun rh2 Lh2 clh2 lnh2 ivh2 rvh2 h2 => ?_)
        obtain ⟨rfl, rfl, rfl, rfl, rfl, fl2, W2, exf2⟩ := h2
        have F1 := hF0.call hX0 fl2 rfl
        refine c_st (st2 := []) rfl ?_
        refine c_aload_n (j := 1) (x := a0) C dX11_cut_55 rfl ?_
        refine c_iload_n (j := 3) C dX11_cut_56 rfl ?_
        refine d_callV (As := [.int (iI n)]) (rest := []) C hM (C_done (a0 := a0) (x := n) W2 hS t_a0 (by omega) ) dX11_cut_57 kV_X11_109 rfl t_a0 rfl rfl (by decide) ck_12 rfl (Nat.le_of_ble_eq_true rfl) ⟨(Nat.le_of_ble_eq_true rfl), (Nat.le_of_ble_eq_true rfl)⟩ hph hph (show 0 + 0 = 0 from rfl) (by decide) (fun rh3 Lh3 clh3 lnh3 ivh3 rvh3 h3 => ?_)
        obtain ⟨f3, rfl, rfl, rfl, rfl, rfl, fl3, W3, rgf3, exf3, kp11f3, kp12f3, kp13f3, kp14f3, kp15f3, kp16f3⟩ := h3
        have ri2 : 1 ≤ ivh2 a0 11 ∧ ivh2 a0 11 ≤ 100 := W2.int t_a0 11
        have ie1 : ivh2 a0 11 = iv a0 11 := fl2.i t_a0 rfl 11
        have ri3 : 1 ≤ ivh2 a0 12 ∧ ivh2 a0 12 ≤ 50 := W2.int t_a0 12
        have ie2 : ivh2 a0 12 = iv a0 12 := fl2.i t_a0 rfl 12
        have ri4 : (-2147483648) ≤ ivh2 a0 13 ∧ ivh2 a0 13 ≤ 2147483647 := W2.int t_a0 13
        have ie3 : ivh2 a0 13 = iv a0 13 := fl2.i t_a0 rfl 13
        have ri5 : (-2147483648) ≤ ivh2 a0 14 ∧ ivh2 a0 14 ≤ 2147483647 := W2.int t_a0 14
        have ie4 : ivh2 a0 14 = iv a0 14 := fl2.i t_a0 rfl 14
        have ri6 : (-2147483648) ≤ ivh2 a0 15 ∧ ivh2 a0 15 ≤ 2147483647 := W2.int t_a0 15
        have ie5 : ivh2 a0 15 = iv a0 15 := fl2.i t_a0 rfl 15
        have ri7 : (-2147483648) ≤ ivh2 a0 16 ∧ ivh2 a0 16 ≤ 2147483647 := W2.int t_a0 16
        have ie6 : ivh2 a0 16 = iv a0 16 := fl2.i t_a0 rfl 16
        have F2 := F1.call hX0 fl3 rfl
        refine c_st (st2 := [.int (iI f3)]) rfl ?_
        have gk11f3 : ivh3 a0 11 = ivh2 a0 11 := kp11f3
        have gk12f3 : ivh3 a0 12 = ivh2 a0 12 := kp12f3
        have gk13f3 : ivh3 a0 13 = ivh2 a0 13 := kp13f3
        have gk14f3 : ivh3 a0 14 = ivh2 a0 14 := kp14f3
        have gk15f3 : ivh3 a0 15 = ivh2 a0 15 := kp15f3
        have gk16f3 : ivh3 a0 16 = ivh2 a0 16 := kp16f3
        have gf3 : f3 = n := exf3
        have ri8 : 1 ≤ ivh3 a0 11 ∧ ivh3 a0 11 ≤ 100 := W3.int t_a0 11
        have ri9 : 1 ≤ ivh3 a0 12 ∧ ivh3 a0 12 ≤ 50 := W3.int t_a0 12
        have ri10 : (-2147483648) ≤ ivh3 a0 13 ∧ ivh3 a0 13 ≤ 2147483647 := W3.int t_a0 13
        have ri11 : (-2147483648) ≤ ivh3 a0 14 ∧ ivh3 a0 14 ≤ 2147483647 := W3.int t_a0 14
        have ri12 : (-2147483648) ≤ ivh3 a0 15 ∧ ivh3 a0 15 ≤ 2147483647 := W3.int t_a0 15
        have ri13 : (-2147483648) ≤ ivh3 a0 16 ∧ ivh3 a0 16 ≤ 2147483647 := W3.int t_a0 16
        exact c_iret C dX11_cut_60 rfl (by decide) (rom0 hph hph (by decide)) ⟨f3, rfl, rfl, rfl, rfl, rfl, F2, W3, ⟨by omega, by omega⟩, trivial, (by omega), (by omega), (by omega), (by omega), (by omega), (by omega)⟩
      · subst oq1
        refine c_lv (lv2 := [(3, .null), (0, .ref a0), (1, .int (iI i)), (2, .int (iI n))]) [0, 1, 2, 3] rfl ?_
        refine c_st (st2 := []) rfl ?_
        refine c_aload_n (j := 1) (x := a0) C dX11_cut_37 rfl ?_
        refine c_aload_n (j := 1) (x := a0) C dX11_cut_38 rfl ?_
        refine c_getr (k := 9) C ck_12 dX11_cut_39 w2_53 (by decide) t_a0 rfl rfl (by decide) rfl rq1 ?_
        refine c_st (st2 := [.ref rb1, .ref a0]) rfl ?_
        refine c_iload_n (j := 2) C dX11_cut_42 rfl ?_
        refine d_callV (As := [.int (iI i)]) (rest := [.ref a0]) C hM (C_whyNone (a0 := rb1) (i := i) hW hS trb1 (by omega) ) dX11_cut_43 kV_X11_292 rfl trb1 rfl rfl (by decide) ck_8 rfl (Nat.le_of_ble_eq_true rfl) ⟨(Nat.le_of_ble_eq_true rfl), (Nat.le_of_ble_eq_true rfl)⟩ hph hph (show 0 + 0 = 0 from rfl) (by decide) (fun rh4 Lh4 clh4 lnh4 ivh4 rvh4 h4 => ?_)
        obtain ⟨f4, rfl, rfl, rfl, rfl, rfl, rfl, rgf4, exf4⟩ := h4
        refine c_st (st2 := [.int (iI f4), .ref a0]) rfl ?_
        have gf4 : f4 = 1 ∨ f4 = 2 := exf4
        refine d_callV (As := [.int (iI f4)]) (rest := []) C hM (C_refuse (a0 := a0) (x := f4) hW hS t_a0 (by omega) ) dX11_cut_46 kV_X11_102 rfl t_a0 rfl rfl (by decide) ck_12 rfl (Nat.le_of_ble_eq_true rfl) ⟨(Nat.le_of_ble_eq_true rfl), (Nat.le_of_ble_eq_true rfl)⟩ hph hph (show 0 + 0 = 0 from rfl) (by decide) (fun rh5 Lh5 clh5 lnh5 ivh5 rvh5 h5 => ?_)
        obtain ⟨f5, rfl, rfl, rfl, rfl, rfl, fl5, W5, rgf5, exf5, kp11f5, kp12f5, kp13f5, kp14f5, kp15f5, kp16f5⟩ := h5
        have ri14 : 1 ≤ iv a0 11 ∧ iv a0 11 ≤ 100 := hW.int t_a0 11
        have ri15 : 1 ≤ iv a0 12 ∧ iv a0 12 ≤ 50 := hW.int t_a0 12
        have ri16 : (-2147483648) ≤ iv a0 13 ∧ iv a0 13 ≤ 2147483647 := hW.int t_a0 13
        have ri17 : (-2147483648) ≤ iv a0 14 ∧ iv a0 14 ≤ 2147483647 := hW.int t_a0 14
        have ri18 : (-2147483648) ≤ iv a0 15 ∧ iv a0 15 ≤ 2147483647 := hW.int t_a0 15
        have ri19 : (-2147483648) ≤ iv a0 16 ∧ iv a0 16 ≤ 2147483647 := hW.int t_a0 16
        have F3 := hF0.call hX0 fl5 rfl
        refine c_st (st2 := [.int (iI f5)]) rfl ?_
        have gk11f5 : ivh5 a0 11 = iv a0 11 := kp11f5
        have gk12f5 : ivh5 a0 12 = iv a0 12 := kp12f5
        have gk13f5 : ivh5 a0 13 = iv a0 13 := kp13f5
        have gk14f5 : ivh5 a0 14 = iv a0 14 := kp14f5
        have gk15f5 : ivh5 a0 15 = iv a0 15 := kp15f5
        have gk16f5 : ivh5 a0 16 = iv a0 16 := kp16f5
        have gf5 : f5 = -1 := exf5
        have ri20 : 1 ≤ ivh5 a0 11 ∧ ivh5 a0 11 ≤ 100 := W5.int t_a0 11
        have ri21 : 1 ≤ ivh5 a0 12 ∧ ivh5 a0 12 ≤ 50 := W5.int t_a0 12
        have ri22 : (-2147483648) ≤ ivh5 a0 13 ∧ ivh5 a0 13 ≤ 2147483647 := W5.int t_a0 13
        have ri23 : (-2147483648) ≤ ivh5 a0 14 ∧ ivh5 a0 14 ≤ 2147483647 := W5.int t_a0 14
        have ri24 : (-2147483648) ≤ ivh5 a0 15 ∧ ivh5 a0 15 ≤ 2147483647 := W5.int t_a0 15
        have ri25 : (-2147483648) ≤ ivh5 a0 16 ∧ ivh5 a0 16 ≤ 2147483647 := W5.int t_a0 16
        exact c_iret C dX11_cut_49 rfl (by decide) (rom0 hph hph (by decide)) ⟨f5, rfl, rfl, rfl, rfl, rfl, F3, W5, ⟨by omega, by omega⟩, trivial, (by omega), (by omega), (by omega), (by omega), (by omega), (by omega)⟩
    · refine c_aload_n (j := 0) (x := a0) C dX11_cut_18 rfl ?_
      refine c_iconst C dX11_cut_19 ?_
      refine d_callV (As := [.int (iI 5)]) (rest := []) C hM (C_refuse (a0 := a0) (x := 5) hW hS t_a0 ⟨by decide, by decide⟩ ) dX11_cut_20 kV_X11_102 rfl t_a0 rfl rfl (by decide) ck_12 rfl (Nat.le_of_ble_eq_true rfl) ⟨(Nat.le_of_ble_eq_true rfl), (Nat.le_of_ble_eq_true rfl)⟩ hph hph (show 0 + 0 = 0 from rfl) (by decide) (fun rh6 Lh6 clh6 lnh6 ivh6 rvh6 h6 => ?_)
      obtain ⟨f6, rfl, rfl, rfl, rfl, rfl, fl6, W6, rgf6, exf6, kp11f6, kp12f6, kp13f6, kp14f6, kp15f6, kp16f6⟩ := h6
      have ri26 : 1 ≤ iv a0 11 ∧ iv a0 11 ≤ 100 := hW.int t_a0 11
      have ri27 : 1 ≤ iv a0 12 ∧ iv a0 12 ≤ 50 := hW.int t_a0 12
      have ri28 : (-2147483648) ≤ iv a0 13 ∧ iv a0 13 ≤ 2147483647 := hW.int t_a0 13
      have ri29 : (-2147483648) ≤ iv a0 14 ∧ iv a0 14 ≤ 2147483647 := hW.int t_a0 14
      have ri30 : (-2147483648) ≤ iv a0 15 ∧ iv a0 15 ≤ 2147483647 := hW.int t_a0 15
      have ri31 : (-2147483648) ≤ iv a0 16 ∧ iv a0 16 ≤ 2147483647 := hW.int t_a0 16
      have F4 := hF0.call hX0 fl6 rfl
      refine c_st (st2 := [.int (iI f6)]) rfl ?_
      have gk11f6 : ivh6 a0 11 = iv a0 11 := kp11f6
      have gk12f6 : ivh6 a0 12 = iv a0 12 := kp12f6
      have gk13f6 : ivh6 a0 13 = iv a0 13 := kp13f6
      have gk14f6 : ivh6 a0 14 = iv a0 14 := kp14f6
      have gk15f6 : ivh6 a0 15 = iv a0 15 := kp15f6
      have gk16f6 : ivh6 a0 16 = iv a0 16 := kp16f6
      have gf6 : f6 = -1 := exf6
      have ri32 : 1 ≤ ivh6 a0 11 ∧ ivh6 a0 11 ≤ 100 := W6.int t_a0 11
      have ri33 : 1 ≤ ivh6 a0 12 ∧ ivh6 a0 12 ≤ 50 := W6.int t_a0 12
      have ri34 : (-2147483648) ≤ ivh6 a0 13 ∧ ivh6 a0 13 ≤ 2147483647 := W6.int t_a0 13
      have ri35 : (-2147483648) ≤ ivh6 a0 14 ∧ ivh6 a0 14 ≤ 2147483647 := W6.int t_a0 14
      have ri36 : (-2147483648) ≤ ivh6 a0 15 ∧ ivh6 a0 15 ≤ 2147483647 := W6.int t_a0 15
      have ri37 : (-2147483648) ≤ ivh6 a0 16 ∧ ivh6 a0 16 ≤ 2147483647 := W6.int t_a0 16
      exact c_iret C dX11_cut_23 rfl (by decide) (rom0 hph hph (by decide)) ⟨f6, rfl, rfl, rfl, rfl, rfl, F4, W6, ⟨by omega, by omega⟩, trivial, (by omega), (by omega), (by omega), (by omega), (by omega), (by omega)⟩
  · refine c_aload_n (j := 0) (x := a0) C dX11_cut_7 rfl ?_
    refine c_bipush (z := 6) C dX11_cut_8 (by decide) ?_
    refine d_callV (As := [.int (iI 6)]) (rest := []) C hM (C_refuse (a0 := a0) (x := 6) hW hS t_a0 ⟨by decide, by decide⟩ ) dX11_cut_10 kV_X11_102 rfl t_a0 rfl rfl (by decide) ck_12 rfl (Nat.le_of_ble_eq_true rfl) ⟨(Nat.le_of_ble_eq_true rfl), (Nat.le_of_ble_eq_true rfl)⟩ hph hph (show 0 + 0 = 0 from rfl) (by decide) (fun rh7 Lh7 clh7 lnh7 ivh7 rvh7 h7 => ?_)
    obtain ⟨f7, rfl, rfl, rfl, rfl, rfl, fl7, W7, rgf7, exf7, kp11f7, kp12f7, kp13f7, kp14f7, kp15f7, kp16f7⟩ := h7
    have ri38 : 1 ≤ iv a0 11 ∧ iv a0 11 ≤ 100 := hW.int t_a0 11
    have ri39 : 1 ≤ iv a0 12 ∧ iv a0 12 ≤ 50 := hW.int t_a0 12
    have ri40 : (-2147483648) ≤ iv a0 13 ∧ iv a0 13 ≤ 2147483647 := hW.int t_a0 13
    have ri41 : (-2147483648) ≤ iv a0 14 ∧ iv a0 14 ≤ 2147483647 := hW.int t_a0 14
    have ri42 : (-2147483648) ≤ iv a0 15 ∧ iv a0 15 ≤ 2147483647 := hW.int t_a0 15
    have ri43 : (-2147483648) ≤ iv a0 16 ∧ iv a0 16 ≤ 2147483647 := hW.int t_a0 16
    have F5 := hF0.call hX0 fl7 rfl
    refine c_st (st2 := [.int (iI f7)]) rfl ?_
    have gk11f7 : ivh7 a0 11 = iv a0 11 := kp11f7
    have gk12f7 : ivh7 a0 12 = iv a0 12 := kp12f7
    have gk13f7 : ivh7 a0 13 = iv a0 13 := kp13f7
    have gk14f7 : ivh7 a0 14 = iv a0 14 := kp14f7
    have gk15f7 : ivh7 a0 15 = iv a0 15 := kp15f7
    have gk16f7 : ivh7 a0 16 = iv a0 16 := kp16f7
    have gf7 : f7 = -1 := exf7
    have ri44 : 1 ≤ ivh7 a0 11 ∧ ivh7 a0 11 ≤ 100 := W7.int t_a0 11
    have ri45 : 1 ≤ ivh7 a0 12 ∧ ivh7 a0 12 ≤ 50 := W7.int t_a0 12
    have ri46 : (-2147483648) ≤ ivh7 a0 13 ∧ ivh7 a0 13 ≤ 2147483647 := W7.int t_a0 13
    have ri47 : (-2147483648) ≤ ivh7 a0 14 ∧ ivh7 a0 14 ≤ 2147483647 := W7.int t_a0 14
    have ri48 : (-2147483648) ≤ ivh7 a0 15 ∧ ivh7 a0 15 ≤ 2147483647 := W7.int t_a0 15
    have ri49 : (-2147483648) ≤ ivh7 a0 16 ∧ ivh7 a0 16 ≤ 2147483647 := W7.int t_a0 16
    exact c_iret C dX11_cut_13 rfl (by decide) (rom0 hph hph (by decide)) ⟨f7, rfl, rfl, rfl, rfl, rfl, F5, W7, ⟨by omega, by omega⟩, trivial, (by omega), (by omega), (by omega), (by omega), (by omega), (by omega)⟩
set_option maxHeartbeats 4000000 in
set_option maxRecDepth 100000 in
theorem C_lose {l : Launch} {G : GT} {mi : Nat} {sk : Nat → Nat} {L : List Nat} {cl ln : Nat → Nat} {iv : Nat → Nat → Int} {rv : Nat → Nat → Option Nat}  {a0 : Nat} {i : Int} (hW : WT (g0 G) sk L cl ln iv rv) (hS : SKL sk L cl) (t_a0 : ty L cl a0 1) (h_i : -2147483648 ≤ i ∧ i ≤ 2147483647)  : Mc l G mi (Phi (g0 G) sk) PHM yX11_lose cX11_lose 3 (some .int) 1 [.ref a0, .int (iI i)] L cl ln iv rv 0 (fun v L2 cl2 ln2 iv2 rv2 => ∃ f : Int, v = some (.int (iI f)) ∧ L = L2 ∧ cl = cl2 ∧ ln = ln2 ∧ rv = rv2 ∧ fT [1, 19] L cl iv rv iv2 rv2 ∧ WT (g0 G) sk L2 cl2 ln2 iv2 rv2 ∧ (-2147483648 ≤ f ∧ f ≤ 2147483647) ∧ (True) ∧ iv2 a0 11 = iv a0 11 ∧ iv2 a0 12 = iv a0 12 ∧ iv2 a0 13 = iv a0 13 ∧ iv2 a0 14 = iv a0 14 ∧ iv2 a0 15 = iv a0 15 ∧ iv2 a0 16 = iv a0 16) := by
  refine Mc.mk (by decide) (Nat.le_of_ble_eq_true rfl) ?_
  intro p e s m args below meth c A C hM
  have hph := Phi.le hW hS
  have hX0 : XT L cl ln L cl ln := XT.refl
  have hF0 : fT [1, 19] L cl iv rv iv rv := fT.refl
  refine c_aload_n (j := 0) (x := a0) C dX11_lose_0 rfl ?_
  obtain ⟨rb1, rq1, trb1⟩ := hW.ref t_a0 9 rfl rfl rfl
  refine c_getr (k := 9) C ck_12 dX11_lose_1 w2_53 (by decide) t_a0 rfl rfl (by decide) rfl rq1 ?_
  refine c_st (st2 := [.ref rb1]) rfl ?_
  refine c_iload_n (j := 1) C dX11_lose_4 rfl ?_
  have ri1 : 0 ≤ iv rb1 1 ∧ iv rb1 1 ≤ 200 := hW.int trb1 1
  refine d_callV (As := [.int (iI i)]) (rest := []) C hM (C_sat (a0 := rb1) (i := i) hW hS trb1 (by omega) ) dX11_lose_5 kV_X11_308 rfl trb1 rfl rfl (by decide) ck_8 rfl (Nat.le_of_ble_eq_true rfl) ⟨(Nat.le_of_ble_eq_true rfl), (Nat.le_of_ble_eq_true rfl)⟩ hph hph (show 0 + 0 = 0 from rfl) (by decide) (fun rh1 Lh1 clh1 lnh1 ivh1 rvh1 h1 => ?_)
  obtain ⟨f1, rfl, rfl, rfl, rfl, rfl, rfl, rgf1, exf1⟩ := h1
  refine c_st (st2 := [(va_rf f1)]) rfl ?_
  have gf1 : f1 = none ∨ (0 ≤ i ∧ i < iv rb1 1) := exf1
  refine c_astorer_n (r := f1) (lv2 := [(2, (va_rf f1)), (0, .ref a0), (1, .int (iI i))]) C dX11_lose_8 (by decide) rfl ?_
  refine c_aloadr_n (j := 0) (r := f1) C dX11_lose_9 rfl ?_
  refine c_ifnonnull (r := f1) (tgt := 19) C dX11_lose_10 (by decide) (fun ob1 oq1 => ?_) (fun oq1 => ?_)
  · subst oq1
    have tob1 := rgf1 ob1 rfl
    refine c_lv (lv2 := [(2, .ref ob1), (0, .ref a0), (1, .int (iI i))]) [0, 1, 2] rfl ?_
    refine c_st (st2 := []) rfl ?_
    refine c_aload_n (j := 0) (x := ob1) C dX11_lose_19 rfl ?_
    refine c_iconst C dX11_lose_20 ?_
    refine c_put (z := 1) (k := 2) C ck_3 dX11_lose_21 w4_56 (by decide) rfl tob1 rfl rfl (by decide) rfl (by decide) (by decide) (fun iv1 pq1 => ?_)
    have W2 := hW.puti pq1 tob1 ⟨by decide, by decide⟩ rfl
    have F1 := hF0.puti hX0 pq1 tob1 rfl
    refine c_aload_n (j := 1) (x := a0) C dX11_lose_24 rfl ?_
    refine c_iconst C dX11_lose_25 ?_
    refine d_callV (As := [.int (iI 1)]) (rest := []) C hM (C_done (a0 := a0) (x := 1) W2 hS t_a0 ⟨by decide, by decide⟩ ) dX11_lose_26 kV_X11_109 rfl t_a0 rfl rfl (by decide) ck_12 rfl (Nat.le_of_ble_eq_true rfl) ⟨(Nat.le_of_ble_eq_true rfl), (Nat.le_of_ble_eq_true rfl)⟩ hph hph (show 0 + 0 = 0 from rfl) (by decide) (fun rh2 Lh2 clh2 lnh2 ivh2 rvh2 h2 => ?_)
    obtain ⟨f2, rfl, rfl, rfl, rfl, rfl, fl2, W3, rgf2, exf2, kp11f2, kp12f2, kp13f2, kp14f2, kp15f2, kp16f2⟩ := h2
    have ri2 : 1 ≤ iv1 a0 11 ∧ iv1 a0 11 ≤ 100 := W2.int t_a0 11
    have ie1 : iv1 a0 11 = iv a0 11 := by rw [pq1]; exact up2_k (ne_ty t_a0 tob1 (by decide))
    have ri3 : 1 ≤ iv1 a0 12 ∧ iv1 a0 12 ≤ 50 := W2.int t_a0 12
    have ie2 : iv1 a0 12 = iv a0 12 := by rw [pq1]; exact up2_k (ne_ty t_a0 tob1 (by decide))
    have ri4 : (-2147483648) ≤ iv1 a0 13 ∧ iv1 a0 13 ≤ 2147483647 := W2.int t_a0 13
    have ie3 : iv1 a0 13 = iv a0 13 := by rw [pq1]; exact up2_k (ne_ty t_a0 tob1 (by decide))
    have ri5 : (-2147483648) ≤ iv1 a0 14 ∧ iv1 a0 14 ≤ 2147483647 := W2.int t_a0 14
    have ie4 : iv1 a0 14 = iv a0 14 := by rw [pq1]; exact up2_k (ne_ty t_a0 tob1 (by decide))
    have ri6 : (-2147483648) ≤ iv1 a0 15 ∧ iv1 a0 15 ≤ 2147483647 := W2.int t_a0 15
    have ie5 : iv1 a0 15 = iv a0 15 := by rw [pq1]; exact up2_k (ne_ty t_a0 tob1 (by decide))
    have ri7 : (-2147483648) ≤ iv1 a0 16 ∧ iv1 a0 16 ≤ 2147483647 := W2.int t_a0 16
    have ie6 : iv1 a0 16 = iv a0 16 := by rw [pq1]; exact up2_k (ne_ty t_a0 tob1 (by decide))
    have F2 := F1.call hX0 fl2 rfl
    refine c_st (st2 := [.int (iI f2)]) rfl ?_
    have gk11f2 : ivh2 a0 11 = iv1 a0 11 := kp11f2
    have gk12f2 : ivh2 a0 12 = iv1 a0 12 := kp12f2
    have gk13f2 : ivh2 a0 13 = iv1 a0 13 := kp13f2
    have gk14f2 : ivh2 a0 14 = iv1 a0 14 := kp14f2
    have gk15f2 : ivh2 a0 15 = iv1 a0 15 := kp15f2
    have gk16f2 : ivh2 a0 16 = iv1 a0 16 := kp16f2
    have gf2 : f2 = (1 : Int) := exf2
    have ri8 : 1 ≤ ivh2 a0 11 ∧ ivh2 a0 11 ≤ 100 := W3.int t_a0 11
    have ri9 : 1 ≤ ivh2 a0 12 ∧ ivh2 a0 12 ≤ 50 := W3.int t_a0 12
    have ri10 : (-2147483648) ≤ ivh2 a0 13 ∧ ivh2 a0 13 ≤ 2147483647 := W3.int t_a0 13
    have ri11 : (-2147483648) ≤ ivh2 a0 14 ∧ ivh2 a0 14 ≤ 2147483647 := W3.int t_a0 14
    have ri12 : (-2147483648) ≤ ivh2 a0 15 ∧ ivh2 a0 15 ≤ 2147483647 := W3.int t_a0 15
    have ri13 : (-2147483648) ≤ ivh2 a0 16 ∧ ivh2 a0 16 ≤ 2147483647 := W3.int t_a0 16
    exact c_iret C dX11_lose_29 rfl (by decide) (rom0 hph hph (by decide)) ⟨f2, rfl, rfl, rfl, rfl, rfl, F2, W3, ⟨by omega, by omega⟩, trivial, (by omega), (by omega), (by omega), (by omega), (by omega), (by omega)⟩
  · subst oq1
    refine c_lv (lv2 := [(2, .null), (0, .ref a0), (1, .int (iI i))]) [0, 1, 2] rfl ?_
    refine c_st (st2 := []) rfl ?_
    refine c_aload_n (j := 1) (x := a0) C dX11_lose_13 rfl ?_
    refine c_iconst C dX11_lose_14 ?_
    refine d_callV (As := [.int (iI 2)]) (rest := []) C hM (C_refuse (a0 := a0) (x := 2) hW hS t_a0 ⟨by decide, by decide⟩ ) dX11_lose_15 kV_X11_102 rfl t_a0 rfl rfl (by decide) ck_12 rfl (Nat.le_of_ble_eq_true rfl) ⟨(Nat.le_of_ble_eq_true rfl), (Nat.le_of_ble_eq_true rfl)⟩ hph hph (show 0 + 0 = 0 from rfl) (by decide) (fun rh3 Lh3 clh3 lnh3 ivh3 rvh3 h3 => ?_)
    obtain ⟨f3, rfl, rfl, rfl, rfl, rfl, fl3, W4, rgf3, exf3, kp11f3, kp12f3, kp13f3, kp14f3, kp15f3, kp16f3⟩ := h3
    have ri14 : 1 ≤ iv a0 11 ∧ iv a0 11 ≤ 100 := hW.int t_a0 11
    have ri15 : 1 ≤ iv a0 12 ∧ iv a0 12 ≤ 50 := hW.int t_a0 12
    have ri16 : (-2147483648) ≤ iv a0 13 ∧ iv a0 13 ≤ 2147483647 := hW.int t_a0 13
    have ri17 : (-2147483648) ≤ iv a0 14 ∧ iv a0 14 ≤ 2147483647 := hW.int t_a0 14
    have ri18 : (-2147483648) ≤ iv a0 15 ∧ iv a0 15 ≤ 2147483647 := hW.int t_a0 15
    have ri19 : (-2147483648) ≤ iv a0 16 ∧ iv a0 16 ≤ 2147483647 := hW.int t_a0 16
    have F3 := hF0.call hX0 fl3 rfl
    refine c_st (st2 := [.int (iI f3)]) rfl ?_
    have gk11f3 : ivh3 a0 11 = iv a0 11 := kp11f3
    have gk12f3 : ivh3 a0 12 = iv a0 12 := kp12f3
    have gk13f3 : ivh3 a0 13 = iv a0 13 := kp13f3
    have gk14f3 : ivh3 a0 14 = iv a0 14 := kp14f3
    have gk15f3 : ivh3 a0 15 = iv a0 15 := kp15f3
    have gk16f3 : ivh3 a0 16 = iv a0 16 := kp16f3
    have gf3 : f3 = -1 := exf3
    have ri20 : 1 ≤ ivh3 a0 11 ∧ ivh3 a0 11 ≤ 100 := W4.int t_a0 11
    have ri21 : 1 ≤ ivh3 a0 12 ∧ ivh3 a0 12 ≤ 50 := W4.int t_a0 12
    have ri22 : (-2147483648) ≤ ivh3 a0 13 ∧ ivh3 a0 13 ≤ 2147483647 := W4.int t_a0 13
    have ri23 : (-2147483648) ≤ ivh3 a0 14 ∧ ivh3 a0 14 ≤ 2147483647 := W4.int t_a0 14
    have ri24 : (-2147483648) ≤ ivh3 a0 15 ∧ ivh3 a0 15 ≤ 2147483647 := W4.int t_a0 15
    have ri25 : (-2147483648) ≤ ivh3 a0 16 ∧ ivh3 a0 16 ≤ 2147483647 := W4.int t_a0 16
    exact c_iret C dX11_lose_18 rfl (by decide) (rom0 hph hph (by decide)) ⟨f3, rfl, rfl, rfl, rfl, rfl, F3, W4, ⟨by omega, by omega⟩, trivial, (by omega), (by omega), (by omega), (by omega), (by omega), (by omega)⟩
set_option maxHeartbeats 4000000 in
set_option maxRecDepth 100000 in
theorem C_copyRow {l : Launch} {G : GT} {mi : Nat} {sk : Nat → Nat} {L : List Nat} {cl ln : Nat → Nat} {iv : Nat → Nat → Int} {rv : Nat → Nat → Option Nat}  {a0 : Nat} {i : Int} {i2 : Int} {j : Int} {j2 : Int} {n : Int} (hW : WT (g0 G) sk L cl ln iv rv) (hS : SKL sk L cl) (t_a0 : ty L cl a0 1) (h_i : -2147483648 ≤ i ∧ i ≤ 2147483647) (h_i2 : -2147483648 ≤ i2 ∧ i2 ≤ 2147483647) (h_j : -2147483648 ≤ j ∧ j ≤ 2147483647) (h_j2 : -2147483648 ≤ j2 ∧ j2 ≤ 2147483647) (h_n : -2147483648 ≤ n ∧ n ≤ 2147483647)  : Mc l G mi (Phi (g0 G) sk) PHM yX11_copyRow cX11_copyRow 8 (some .int) 1 [.ref a0, .int (iI i), .int (iI i2), .int (iI j), .int (iI j2), .int (iI n)] L cl ln iv rv 0 (fun v L2 cl2 ln2 iv2 rv2 => ∃ f : Int, v = some (.int (iI f)) ∧ L = L2 ∧ cl = cl2 ∧ ln = ln2 ∧ rv = rv2 ∧ fT [1, 64] L cl iv rv iv2 rv2 ∧ WT (g0 G) sk L2 cl2 ln2 iv2 rv2 ∧ (-2147483648 ≤ f ∧ f ≤ 2147483647) ∧ (True) ∧ iv2 a0 11 = iv a0 11 ∧ iv2 a0 12 = iv a0 12 ∧ iv2 a0 13 = iv a0 13 ∧ iv2 a0 14 = iv a0 14 ∧ iv2 a0 15 = iv a0 15 ∧ iv2 a0 16 = iv a0 16) := by
  refine Mc.mk (by decide) (Nat.le_of_ble_eq_true rfl) ?_
  intro p e s m args below meth c A C hM
  have hph := Phi.le hW hS
  have hX0 : XT L cl ln L cl ln := XT.refl
  have hF0 : fT [1, 64] L cl iv rv iv rv := fT.refl
  refine c_aload_n (j := 0) (x := a0) C dX11_copyRow_0 rfl ?_
  obtain ⟨rb1, rq1, trb1⟩ := hW.ref t_a0 9 rfl rfl rfl
  refine c_getr (k := 9) C ck_12 dX11_copyRow_1 w2_53 (by decide) t_a0 rfl rfl (by decide) rfl rq1 ?_
  refine c_st (st2 := [.ref rb1]) rfl ?_
  refine c_iload_n (j := 1) C dX11_copyRow_4 rfl ?_
  have ri1 : 0 ≤ iv rb1 1 ∧ iv rb1 1 ≤ 200 := hW.int trb1 1
  refine d_callV (As := [.int (iI i)]) (rest := []) C hM (C_sat (a0 := rb1) (i := i) hW hS trb1 (by omega) ) dX11_copyRow_5 kV_X11_308 rfl trb1 rfl rfl (by decide) ck_8 rfl (Nat.le_of_ble_eq_true rfl) ⟨(Nat.le_of_ble_eq_true rfl), (Nat.le_of_ble_eq_true rfl)⟩ hph hph (show 0 + 0 = 0 from rfl) (by decide) (fun rh1 Lh1 clh1 lnh1 ivh1 rvh1 h1 => ?_)
  obtain ⟨f1, rfl, rfl, rfl, rfl, rfl, rfl, rgf1, exf1⟩ := h1
  refine c_st (st2 := [(va_rf f1)]) rfl ?_
  have gf1 : f1 = none ∨ (0 ≤ i ∧ i < iv rb1 1) := exf1
  refine c_astorer (r := f1) (lv2 := [(6, (va_rf f1)), (0, .ref a0), (1, .int (iI i)), (2, .int (iI i2)), (3, .int (iI j)), (4, .int (iI j2)), (5, .int (iI n))]) C dX11_copyRow_8 (by decide) rfl ?_
  refine c_aload_n (j := 1) (x := a0) C dX11_copyRow_10 rfl ?_
  refine c_getr (k := 9) C ck_12 dX11_copyRow_11 w2_53 (by decide) t_a0 rfl rfl (by decide) rfl rq1 ?_
  refine c_st (st2 := [.ref rb1]) rfl ?_
  refine c_iload_n (j := 4) C dX11_copyRow_14 rfl ?_
  refine d_callV (As := [.int (iI j)]) (rest := []) C hM (C_sat (a0 := rb1) (i := j) hW hS trb1 (by omega) ) dX11_copyRow_15 kV_X11_308 rfl trb1 rfl rfl (by decide) ck_8 rfl (Nat.le_of_ble_eq_true rfl) ⟨(Nat.le_of_ble_eq_true rfl), (Nat.le_of_ble_eq_true rfl)⟩ hph hph (show 0 + 0 = 0 from rfl) (by decide) (fun rh2 Lh2 clh2 lnh2 ivh2 rvh2 h2 => ?_)
  obtain ⟨f2, rfl, rfl, rfl, rfl, rfl, rfl, rgf2, exf2⟩ := h2
  refine c_st (st2 := [(va_rf f2)]) rfl ?_
  have gf2 : f2 = none ∨ (0 ≤ j ∧ j < iv rb1 1) := exf2
  refine c_astorer (r := f2) (lv2 := [(7, (va_rf f2)), (6, (va_rf f1)), (0, .ref a0), (1, .int (iI i)), (2, .int (iI i2)), (3, .int (iI j)), (4, .int (iI j2)), (5, .int (iI n))]) C dX11_copyRow_18 (by decide) (by cases f1 <;> rfl) ?_
  refine c_aloadr (j := 1) (r := f1) C dX11_copyRow_20 rfl ?_
  refine c_ifnull (r := f1) (tgt := 30) C dX11_copyRow_22 (by decide) (fun oq1 => ?_) (fun ob1 oq1 => ?_)
  · subst oq1
    refine c_lv (lv2 := [(7, (va_rf f2)), (6, .null), (0, .ref a0), (1, .int (iI i)), (2, .int (iI i2)), (3, .int (iI j)), (4, .int (iI j2)), (5, .int (iI n))]) [0, 1, 2, 3, 4, 5, 6, 7] rfl ?_
    refine c_st (st2 := []) rfl ?_
    refine c_aload_n (j := 2) (x := a0) C dX11_copyRow_30 rfl ?_
    refine c_iconst C dX11_copyRow_31 ?_
    refine d_callV (As := [.int (iI 2)]) (rest := []) C hM (C_refuse (a0 := a0) (x := 2) hW hS t_a0 ⟨by decide, by decide⟩ ) dX11_copyRow_32 kV_X11_102 rfl t_a0 rfl rfl (by decide) ck_12 rfl (Nat.le_of_ble_eq_true rfl) ⟨(Nat.le_of_ble_eq_true rfl), (Nat.le_of_ble_eq_true rfl)⟩ hph hph (show 0 + 0 = 0 from rfl) (by decide) (fun rh3 Lh3 clh3 lnh3 ivh3 rvh3 h3 => ?_)
    obtain ⟨f3, rfl, rfl, rfl, rfl, rfl, fl3, W3, rgf3, exf3, kp11f3, kp12f3, kp13f3, kp14f3, kp15f3, kp16f3⟩ := h3
    have ri2 : 1 ≤ iv a0 11 ∧ iv a0 11 ≤ 100 := hW.int t_a0 11
    have ri3 : 1 ≤ iv a0 12 ∧ iv a0 12 ≤ 50 := hW.int t_a0 12
    have ri4 : (-2147483648) ≤ iv a0 13 ∧ iv a0 13 ≤ 2147483647 := hW.int t_a0 13
    have ri5 : (-2147483648) ≤ iv a0 14 ∧ iv a0 14 ≤ 2147483647 := hW.int t_a0 14
    have ri6 : (-2147483648) ≤ iv a0 15 ∧ iv a0 15 ≤ 2147483647 := hW.int t_a0 15
    have ri7 : (-2147483648) ≤ iv a0 16 ∧ iv a0 16 ≤ 2147483647 := hW.int t_a0 16
    have F1 := hF0.call hX0 fl3 rfl
    refine c_st (st2 := [.int (iI f3)]) rfl ?_
    have gk11f3 : ivh3 a0 11 = iv a0 11 := kp11f3
    have gk12f3 : ivh3 a0 12 = iv a0 12 := kp12f3
    have gk13f3 : ivh3 a0 13 = iv a0 13 := kp13f3
    have gk14f3 : ivh3 a0 14 = iv a0 14 := kp14f3
    have gk15f3 : ivh3 a0 15 = iv a0 15 := kp15f3
    have gk16f3 : ivh3 a0 16 = iv a0 16 := kp16f3
    have gf3 : f3 = -1 := exf3
    have ri8 : 1 ≤ ivh3 a0 11 ∧ ivh3 a0 11 ≤ 100 := W3.int t_a0 11
    have ri9 : 1 ≤ ivh3 a0 12 ∧ ivh3 a0 12 ≤ 50 := W3.int t_a0 12
    have ri10 : (-2147483648) ≤ ivh3 a0 13 ∧ ivh3 a0 13 ≤ 2147483647 := W3.int t_a0 13
    have ri11 : (-2147483648) ≤ ivh3 a0 14 ∧ ivh3 a0 14 ≤ 2147483647 := W3.int t_a0 14
    have ri12 : (-2147483648) ≤ ivh3 a0 15 ∧ ivh3 a0 15 ≤ 2147483647 := W3.int t_a0 15
    have ri13 : (-2147483648) ≤ ivh3 a0 16 ∧ ivh3 a0 16 ≤ 2147483647 := W3.int t_a0 16
    exact c_iret C dX11_copyRow_35 rfl (by decide) (rom0 hph hph (by decide)) ⟨f3, rfl, rfl, rfl, rfl, rfl, F1, W3, ⟨by omega, by omega⟩, trivial, (by omega), (by omega), (by omega), (by omega), (by omega), (by omega)⟩
  · subst oq1
    have tob1 := rgf1 ob1 rfl
    refine c_lv (lv2 := [(7, (va_rf f2)), (6, .ref ob1), (0, .ref a0), (1, .int (iI i)), (2, .int (iI i2)), (3, .int (iI j)), (4, .int (iI j2)), (5, .int (iI n))]) [0, 1, 2, 3, 4, 5, 6, 7] rfl ?_
    refine c_st (st2 := []) rfl ?_
    refine c_aloadr (j := 0) (r := f2) C dX11_copyRow_25 rfl ?_
    refine c_ifnonnull (r := f2) (tgt := 36) C dX11_copyRow_27 (by decide) (fun ob2 oq2 => ?_) (fun oq2 => ?_)
    · subst oq2
      have tob2 := rgf2 ob2 rfl
      refine c_lv (lv2 := [(7, .ref ob2), (6, .ref ob1), (0, .ref a0), (1, .int (iI i)), (2, .int (iI i2)), (3, .int (iI j)), (4, .int (iI j2)), (5, .int (iI n))]) [0, 1, 2, 3, 4, 5, 6, 7] rfl ?_
      refine c_st (st2 := []) rfl ?_
      refine c_aload (j := 1) (x := ob1) C dX11_copyRow_36 rfl ?_
      have ri14 : 0 ≤ iv ob1 2 ∧ iv ob1 2 ≤ 1 := hW.int tob1 2
      refine c_get (k := 2) C ck_3 dX11_copyRow_38 w4_56 (by decide) tob1 rfl rfl (by decide) rfl ?_
      refine c_if_ne (tgt := 52) C ⟨by omega, by omega⟩ dX11_copyRow_41 (by decide) (fun c1 => ?_) (fun c1 => ?_)
      · refine c_aload_n (j := 2) (x := a0) C dX11_copyRow_52 rfl ?_
        refine c_iconst C dX11_copyRow_53 ?_
        refine d_callV (As := [.int (iI 1)]) (rest := []) C hM (C_refuse (a0 := a0) (x := 1) hW hS t_a0 ⟨by decide, by decide⟩ ) dX11_copyRow_54 kV_X11_102 rfl t_a0 rfl rfl (by decide) ck_12 rfl (Nat.le_of_ble_eq_true rfl) ⟨(Nat.le_of_ble_eq_true rfl), (Nat.le_of_ble_eq_true rfl)⟩ hph hph (show 0 + 0 = 0 from rfl) (by decide) (fun rh4 Lh4 clh4 lnh4 ivh4 rvh4 h4 => ?_)
        obtain ⟨f4, rfl, rfl, rfl, rfl, rfl, fl4, W4, rgf4, exf4, kp11f4, kp12f4, kp13f4, kp14f4, kp15f4, kp16f4⟩ := h4
        have ri15 : 1 ≤ iv a0 11 ∧ iv a0 11 ≤ 100 := hW.int t_a0 11
        have ri16 : 1 ≤ iv a0 12 ∧ iv a0 12 ≤ 50 := hW.int t_a0 12
        have ri17 : (-2147483648) ≤ iv a0 13 ∧ iv a0 13 ≤ 2147483647 := hW.int t_a0 13
        have ri18 : (-2147483648) ≤ iv a0 14 ∧ iv a0 14 ≤ 2147483647 := hW.int t_a0 14
        have ri19 : (-2147483648) ≤ iv a0 15 ∧ iv a0 15 ≤ 2147483647 := hW.int t_a0 15
        have ri20 : (-2147483648) ≤ iv a0 16 ∧ iv a0 16 ≤ 2147483647 := hW.int t_a0 16
        have F2 := hF0.call hX0 fl4 rfl
        refine c_st (st2 := [.int (iI f4)]) rfl ?_
        have gk11f4 : ivh4 a0 11 = iv a0 11 := kp11f4
        have gk12f4 : ivh4 a0 12 = iv a0 12 := kp12f4
        have gk13f4 : ivh4 a0 13 = iv a0 13 := kp13f4
        have gk14f4 : ivh4 a0 14 = iv a0 14 := kp14f4
        have gk15f4 : ivh4 a0 15 = iv a0 15 := kp15f4
        have gk16f4 : ivh4 a0 16 = iv a0 16 := kp16f4
        have gf4 : f4 = -1 := exf4
        have ri21 : 1 ≤ ivh4 a0 11 ∧ ivh4 a0 11 ≤ 100 := W4.int t_a0 11
        have ri22 : 1 ≤ ivh4 a0 12 ∧ ivh4 a0 12 ≤ 50 := W4.int t_a0 12
        have ri23 : (-2147483648) ≤ ivh4 a0 13 ∧ ivh4 a0 13 ≤ 2147483647 := W4.int t_a0 13
        have ri24 : (-2147483648) ≤ ivh4 a0 14 ∧ ivh4 a0 14 ≤ 2147483647 := W4.int t_a0 14
        have ri25 : (-2147483648) ≤ ivh4 a0 15 ∧ ivh4 a0 15 ≤ 2147483647 := W4.int t_a0 15
        have ri26 : (-2147483648) ≤ ivh4 a0 16 ∧ ivh4 a0 16 ≤ 2147483647 := W4.int t_a0 16
        exact c_iret C dX11_copyRow_57 rfl (by decide) (rom0 hph hph (by decide)) ⟨f4, rfl, rfl, rfl, rfl, rfl, F2, W4, ⟨by omega, by omega⟩, trivial, (by omega), (by omega), (by omega), (by omega), (by omega), (by omega)⟩
      · refine c_aload (j := 0) (x := ob2) C dX11_copyRow_44 rfl ?_
        have ri27 : 0 ≤ iv ob2 2 ∧ iv ob2 2 ≤ 1 := hW.int tob2 2
        refine c_get (k := 2) C ck_3 dX11_copyRow_46 w4_56 (by decide) tob2 rfl rfl (by decide) rfl ?_
        refine c_if_eq (tgt := 58) C ⟨by omega, by omega⟩ dX11_copyRow_49 (by decide) (fun c2 => ?_) (fun c2 => ?_)
        · refine c_aload (j := 1) (x := ob1) C dX11_copyRow_58 rfl ?_
          refine c_iload_n (j := 4) C dX11_copyRow_60 rfl ?_
          refine c_iload (j := 7) C dX11_copyRow_61 rfl ?_
          have ri28 : 0 ≤ iv ob1 1 ∧ iv ob1 1 ≤ 200 := hW.int tob1 1
          refine d_callV (As := [.int (iI i2), .int (iI n)]) (rest := []) C hM (C_hasCells (a0 := ob1) (i := i2) (n := n) hW hS tob1 (by omega) (by omega) ) dX11_copyRow_63 kV_X11_313 rfl tob1 rfl rfl (by decide) ck_3 rfl (Nat.le_of_ble_eq_true rfl) ⟨(Nat.le_of_ble_eq_true rfl), (Nat.le_of_ble_eq_true rfl)⟩ hph hph (show 0 + 0 = 0 from rfl) (by decide) (fun rh5 Lh5 clh5 lnh5 ivh5 rvh5 h5 => ?_)
          obtain ⟨f5, rfl, rfl, rfl, rfl, rfl, rfl, rgf5, exf5⟩ := h5
          refine c_st (st2 := [.int (iI f5)]) rfl ?_
          have gf5 : f5 = 0 ∨ (0 ≤ n ∧ 0 ≤ i2 ∧ i2 + n ≤ iv ob1 1) := exf5
          refine c_if_eq (tgt := 81) C ⟨by omega, by omega⟩ dX11_copyRow_66 (by decide) (fun c3 => ?_) (fun c3 => ?_)
          · refine c_aload_n (j := 2) (x := a0) C dX11_copyRow_81 rfl ?_
            refine c_iconst C dX11_copyRow_82 ?_
            refine d_callV (As := [.int (iI 2)]) (rest := []) C hM (C_refuse (a0 := a0) (x := 2) hW hS t_a0 ⟨by decide, by decide⟩ ) dX11_copyRow_83 kV_X11_102 rfl t_a0 rfl rfl (by decide) ck_12 rfl (Nat.le_of_ble_eq_true rfl) ⟨(Nat.le_of_ble_eq_true rfl), (Nat.le_of_ble_eq_true rfl)⟩ hph hph (show 0 + 0 = 0 from rfl) (by decide) (fun rh6 Lh6 clh6 lnh6 ivh6 rvh6 h6 => ?_)
            obtain ⟨f6, rfl, rfl, rfl, rfl, rfl, fl6, W6, rgf6, exf6, kp11f6, kp12f6, kp13f6, kp14f6, kp15f6, kp16f6⟩ := h6
            have ri29 : 1 ≤ iv a0 11 ∧ iv a0 11 ≤ 100 := hW.int t_a0 11
            have ri30 : 1 ≤ iv a0 12 ∧ iv a0 12 ≤ 50 := hW.int t_a0 12
            have ri31 : (-2147483648) ≤ iv a0 13 ∧ iv a0 13 ≤ 2147483647 := hW.int t_a0 13
            have ri32 : (-2147483648) ≤ iv a0 14 ∧ iv a0 14 ≤ 2147483647 := hW.int t_a0 14
            have ri33 : (-2147483648) ≤ iv a0 15 ∧ iv a0 15 ≤ 2147483647 := hW.int t_a0 15
            have ri34 : (-2147483648) ≤ iv a0 16 ∧ iv a0 16 ≤ 2147483647 := hW.int t_a0 16
            have F3 := hF0.call hX0 fl6 rfl
            refine c_st (st2 := [.int (iI f6)]) rfl ?_
            have gk11f6 : ivh6 a0 11 = iv a0 11 := kp11f6
            have gk12f6 : ivh6 a0 12 = iv a0 12 := kp12f6
            have gk13f6 : ivh6 a0 13 = iv a0 13 := kp13f6
            have gk14f6 : ivh6 a0 14 = iv a0 14 := kp14f6
            have gk15f6 : ivh6 a0 15 = iv a0 15 := kp15f6
            have gk16f6 : ivh6 a0 16 = iv a0 16 := kp16f6
            have gf6 : f6 = -1 := exf6
            have ri35 : 1 ≤ ivh6 a0 11 ∧ ivh6 a0 11 ≤ 100 := W6.int t_a0 11
            have ri36 : 1 ≤ ivh6 a0 12 ∧ ivh6 a0 12 ≤ 50 := W6.int t_a0 12
            have ri37 : (-2147483648) ≤ ivh6 a0 13 ∧ ivh6 a0 13 ≤ 2147483647 := W6.int t_a0 13
            have ri38 : (-2147483648) ≤ ivh6 a0 14 ∧ ivh6 a0 14 ≤ 2147483647 := W6.int t_a0 14
            have ri39 : (-2147483648) ≤ ivh6 a0 15 ∧ ivh6 a0 15 ≤ 2147483647 := W6.int t_a0 15
            have ri40 : (-2147483648) ≤ ivh6 a0 16 ∧ ivh6 a0 16 ≤ 2147483647 := W6.int t_a0 16
            exact c_iret C dX11_copyRow_86 rfl (by decide) (rom0 hph hph (by decide)) ⟨f6, rfl, rfl, rfl, rfl, rfl, F3, W6, ⟨by omega, by omega⟩, trivial, (by omega), (by omega), (by omega), (by omega), (by omega), (by omega)⟩
          · refine c_aload (j := 0) (x := ob2) C dX11_copyRow_69 rfl ?_
            refine c_iload (j := 6) C dX11_copyRow_71 rfl ?_
            refine c_iload (j := 7) C dX11_copyRow_73 rfl ?_
            have ri41 : 0 ≤ iv ob2 1 ∧ iv ob2 1 ≤ 200 := hW.int tob2 1
            refine d_callV (As := [.int (iI j2), .int (iI n)]) (rest := []) C hM (C_hasCells (a0 := ob2) (i := j2) (n := n) hW hS tob2 (by omega) (by omega) ) dX11_copyRow_75 kV_X11_313 rfl tob2 rfl rfl (by decide) ck_3 rfl (Nat.le_of_ble_eq_true rfl) ⟨(Nat.le_of_ble_eq_true rfl), (Nat.le_of_ble_eq_true rfl)⟩ hph hph (show 0 + 0 = 0 from rfl) (by decide) (fun rh7 Lh7 clh7 lnh7 ivh7 rvh7 h7 => ?_)
            obtain ⟨f7, rfl, rfl, rfl, rfl, rfl, rfl, rgf7, exf7⟩ := h7
            refine c_st (st2 := [.int (iI f7)]) rfl ?_
            have gf7 : f7 = 0 ∨ (0 ≤ n ∧ 0 ≤ j2 ∧ j2 + n ≤ iv ob2 1) := exf7
            refine c_if_ne (tgt := 87) C ⟨by omega, by omega⟩ dX11_copyRow_78 (by decide) (fun c4 => ?_) (fun c4 => ?_)
            · refine c_aload (j := 1) (x := ob1) C dX11_copyRow_87 rfl ?_
              obtain ⟨rb2, rq2, trb2⟩ := hW.ref tob1 0 rfl rfl rfl
              have lnrb2 : 200 ≤ ln rb2 ∧ ln rb2 ≤ 200 := hW.len trb2 rfl
              refine c_getr (k := 0) C ck_3 dX11_copyRow_89 w4_48 (by decide) tob1 rfl rfl (by decide) rfl rq2 ?_
              refine c_st (st2 := [.ref rb2]) rfl ?_
              refine c_iload_n (j := 4) C dX11_copyRow_92 rfl ?_
              refine c_aload (j := 0) (x := ob2) C dX11_copyRow_93 rfl ?_
              obtain ⟨rb3, rq3, trb3⟩ := hW.ref tob2 0 rfl rfl rfl
              have lnrb3 : 200 ≤ ln rb3 ∧ ln rb3 ≤ 200 := hW.len trb3 rfl
              refine c_getr (k := 0) C ck_3 dX11_copyRow_95 w4_48 (by decide) tob2 rfl rfl (by decide) rfl rq3 ?_
              refine c_st (st2 := [.ref rb3, .int (iI i2), .ref rb2]) rfl ?_
              refine c_iload (j := 6) C dX11_copyRow_98 rfl ?_
              refine c_iload (j := 7) C dX11_copyRow_100 rfl ?_
              have ll1 : 200 ≤ ln rb2 ∧ ln rb2 ≤ 200 := hW.len trb2 rfl
              have ll2 : 200 ≤ ln rb3 ∧ ln rb3 ≤ 200 := hW.len trb3 rfl
              refine c_copyi (sp := i2) (dp := j2) (n := n) C dX11_copyRow_102 w4_233 w2_133 w2_132 w1_15 trb2 rfl trb3 rfl (by omega) (by omega) (by omega) (by omega) (by omega) (by omega) (by omega) (by decide) (Nat.le_of_ble_eq_true rfl) (fun iv1 pq1 => ?_)
              have W8 := hW.copy pq1 trb3 trb2 (fun _ => rfl) (fun _ => rfl) (fun _ => rfl) (fun _ => rfl) rfl
              have F4 := hF0.copy hX0 pq1 trb3 rfl
              refine c_aload_n (j := 2) (x := a0) C dX11_copyRow_105 rfl ?_
              refine c_iload (j := 7) C dX11_copyRow_106 rfl ?_
              refine d_callV (As := [.int (iI n)]) (rest := []) C hM (C_done (a0 := a0) (x := n) W8 hS t_a0 (by omega) ) dX11_copyRow_108 kV_X11_109 rfl t_a0 rfl rfl (by decide) ck_12 rfl (Nat.le_of_ble_eq_true rfl) ⟨(Nat.le_of_ble_eq_true rfl), (Nat.le_of_ble_eq_true rfl)⟩ hph hph (show 0 + 0 = 0 from rfl) (by decide) (fun rh8 Lh8 clh8 lnh8 ivh8 rvh8 h8 => ?_)
              obtain ⟨f8, rfl, rfl, rfl, rfl, rfl, fl8, W9, rgf8, exf8, kp11f8, kp12f8, kp13f8, kp14f8, kp15f8, kp16f8⟩ := h8
              have ri42 : 1 ≤ iv1 a0 11 ∧ iv1 a0 11 ≤ 100 := W8.int t_a0 11
              have ie19 : iv1 a0 11 = iv a0 11 := by rw [pq1]; exact if_neg (ne_ty t_a0 trb3 (by decide))
              have ri43 : 1 ≤ iv1 a0 12 ∧ iv1 a0 12 ≤ 50 := W8.int t_a0 12
              have ie20 : iv1 a0 12 = iv a0 12 := by rw [pq1]; exact if_neg (ne_ty t_a0 trb3 (by decide))
              have ri44 : (-2147483648) ≤ iv1 a0 13 ∧ iv1 a0 13 ≤ 2147483647 := W8.int t_a0 13
              have ie21 : iv1 a0 13 = iv a0 13 := by rw [pq1]; exact if_neg (ne_ty t_a0 trb3 (by decide))
              have ri45 : (-2147483648) ≤ iv1 a0 14 ∧ iv1 a0 14 ≤ 2147483647 := W8.int t_a0 14
              have ie22 : iv1 a0 14 = iv a0 14 := by rw [pq1]; exact if_neg (ne_ty t_a0 trb3 (by decide))
              have ri46 : (-2147483648) ≤ iv1 a0 15 ∧ iv1 a0 15 ≤ 2147483647 := W8.int t_a0 15
              have ie23 : iv1 a0 15 = iv a0 15 := by rw [pq1]; exact if_neg (ne_ty t_a0 trb3 (by decide))
              have ri47 : (-2147483648) ≤ iv1 a0 16 ∧ iv1 a0 16 ≤ 2147483647 := W8.int t_a0 16
              have ie24 : iv1 a0 16 = iv a0 16 := by rw [pq1]; exact if_neg (ne_ty t_a0 trb3 (by decide))
              have F5 := F4.call hX0 fl8 rfl
              refine c_st (st2 := [.int (iI f8)]) rfl ?_
              have gk11f8 : ivh8 a0 11 = iv1 a0 11 := kp11f8
              have gk12f8 : ivh8 a0 12 = iv1 a0 12 := kp12f8
              have gk13f8 : ivh8 a0 13 = iv1 a0 13 := kp13f8
              have gk14f8 : ivh8 a0 14 = iv1 a0 14 := kp14f8
              have gk15f8 : ivh8 a0 15 = iv1 a0 15 := kp15f8
              have gk16f8 : ivh8 a0 16 = iv1 a0 16 := kp16f8
              have gf8 : f8 = n := exf8
              have ri48 : 1 ≤ ivh8 a0 11 ∧ ivh8 a0 11 ≤ 100 := W9.int t_a0 11
              have ri49 : 1 ≤ ivh8 a0 12 ∧ ivh8 a0 12 ≤ 50 := W9.int t_a0 12
              have ri50 : (-2147483648) ≤ ivh8 a0 13 ∧ ivh8 a0 13 ≤ 2147483647 := W9.int t_a0 13
              have ri51 : (-2147483648) ≤ ivh8 a0 14 ∧ ivh8 a0 14 ≤ 2147483647 := W9.int t_a0 14
              have ri52 : (-2147483648) ≤ ivh8 a0 15 ∧ ivh8 a0 15 ≤ 2147483647 := W9.int t_a0 15
              have ri53 : (-2147483648) ≤ ivh8 a0 16 ∧ ivh8 a0 16 ≤ 2147483647 := W9.int t_a0 16
              exact c_iret C dX11_copyRow_111 rfl (by decide) (rom0 hph hph (by decide)) ⟨f8, rfl, rfl, rfl, rfl, rfl, F5, W9, ⟨by omega, by omega⟩, trivial, (by omega), (by omega), (by omega), (by omega), (by omega), (by omega)⟩
            · refine c_aload_n (j := 2) (x := a0) C dX11_copyRow_81 rfl ?_
              refine c_iconst C dX11_copyRow_82 ?_
              refine d_callV (As := [.int (iI 2)]) (rest := []) C hM (C_refuse (a0 := a0) (x := 2) hW hS t_a0 ⟨by decide, by decide⟩ ) dX11_copyRow_83 kV_X11_102 rfl t_a0 rfl rfl (by decide) ck_12 rfl (Nat.le_of_ble_eq_true rfl) ⟨(Nat.le_of_ble_eq_true rfl), (Nat.le_of_ble_eq_true rfl)⟩ hph hph (show 0 + 0 = 0 from rfl) (by decide) (fun rh9 Lh9 clh9 lnh9 ivh9 rvh9 h9 => ?_)
              obtain ⟨f9, rfl, rfl, rfl, rfl, rfl, fl9, W10, rgf9, exf9, kp11f9, kp12f9, kp13f9, kp14f9, kp15f9, kp16f9⟩ := h9
              have ri54 : 1 ≤ iv a0 11 ∧ iv a0 11 ≤ 100 := hW.int t_a0 11
              have ri55 : 1 ≤ iv a0 12 ∧ iv a0 12 ≤ 50 := hW.int t_a0 12
              have ri56 : (-2147483648) ≤ iv a0 13 ∧ iv a0 13 ≤ 2147483647 := hW.int t_a0 13
              have ri57 : (-2147483648) ≤ iv a0 14 ∧ iv a0 14 ≤ 2147483647 := hW.int t_a0 14
              have ri58 : (-2147483648) ≤ iv a0 15 ∧ iv a0 15 ≤ 2147483647 := hW.int t_a0 15
              have ri59 : (-2147483648) ≤ iv a0 16 ∧ iv a0 16 ≤ 2147483647 := hW.int t_a0 16
              have F6 := hF0.call hX0 fl9 rfl
              refine c_st (st2 := [.int (iI f9)]) rfl ?_
              have gk11f9 : ivh9 a0 11 = iv a0 11 := kp11f9
              have gk12f9 : ivh9 a0 12 = iv a0 12 := kp12f9
              have gk13f9 : ivh9 a0 13 = iv a0 13 := kp13f9
              have gk14f9 : ivh9 a0 14 = iv a0 14 := kp14f9
              have gk15f9 : ivh9 a0 15 = iv a0 15 := kp15f9
              have gk16f9 : ivh9 a0 16 = iv a0 16 := kp16f9
              have gf9 : f9 = -1 := exf9
              have ri60 : 1 ≤ ivh9 a0 11 ∧ ivh9 a0 11 ≤ 100 := W10.int t_a0 11
              have ri61 : 1 ≤ ivh9 a0 12 ∧ ivh9 a0 12 ≤ 50 := W10.int t_a0 12
              have ri62 : (-2147483648) ≤ ivh9 a0 13 ∧ ivh9 a0 13 ≤ 2147483647 := W10.int t_a0 13
              have ri63 : (-2147483648) ≤ ivh9 a0 14 ∧ ivh9 a0 14 ≤ 2147483647 := W10.int t_a0 14
              have ri64 : (-2147483648) ≤ ivh9 a0 15 ∧ ivh9 a0 15 ≤ 2147483647 := W10.int t_a0 15
              have ri65 : (-2147483648) ≤ ivh9 a0 16 ∧ ivh9 a0 16 ≤ 2147483647 := W10.int t_a0 16
              exact c_iret C dX11_copyRow_86 rfl (by decide) (rom0 hph hph (by decide)) ⟨f9, rfl, rfl, rfl, rfl, rfl, F6, W10, ⟨by omega, by omega⟩, trivial, (by omega), (by omega), (by omega), (by omega), (by omega), (by omega)⟩
        · refine c_aload_n (j := 2) (x := a0) C dX11_copyRow_52 rfl ?_
          refine c_iconst C dX11_copyRow_53 ?_
          refine d_callV (As := [.int (iI 1)]) (rest := []) C hM (C_refuse (a0 := a0) (x := 1) hW hS t_a0 ⟨by decide, by decide⟩ ) dX11_copyRow_54 kV_X11_102 rfl t_a0 rfl rfl (by decide) ck_12 rfl (Nat.le_of_ble_eq_true rfl) ⟨(Nat.le_of_ble_eq_true rfl), (Nat.le_of_ble_eq_true rfl)⟩ hph hph (show 0 + 0 = 0 from rfl) (by decide) (fun rh10 Lh10 clh10 lnh10 ivh10 rvh10 h10 => ?_)
          obtain ⟨f10, rfl, rfl, rfl, rfl, rfl, fl10, W11, rgf10, exf10, kp11f10, kp12f10, kp13f10, kp14f10, kp15f10, kp16f10⟩ := h10
          have ri66 : 1 ≤ iv a0 11 ∧ iv a0 11 ≤ 100 := hW.int t_a0 11
          have ri67 : 1 ≤ iv a0 12 ∧ iv a0 12 ≤ 50 := hW.int t_a0 12
          have ri68 : (-2147483648) ≤ iv a0 13 ∧ iv a0 13 ≤ 2147483647 := hW.int t_a0 13
          have ri69 : (-2147483648) ≤ iv a0 14 ∧ iv a0 14 ≤ 2147483647 := hW.int t_a0 14
          have ri70 : (-2147483648) ≤ iv a0 15 ∧ iv a0 15 ≤ 2147483647 := hW.int t_a0 15
          have ri71 : (-2147483648) ≤ iv a0 16 ∧ iv a0 16 ≤ 2147483647 := hW.int t_a0 16
          have F7 := hF0.call hX0 fl10 rfl
          refine c_st (st2 := [.int (iI f10)]) rfl ?_
          have gk11f10 : ivh10 a0 11 = iv a0 11 := kp11f10
          have gk12f10 : ivh10 a0 12 = iv a0 12 := kp12f10
          have gk13f10 : ivh10 a0 13 = iv a0 13 := kp13f10
          have gk14f10 : ivh10 a0 14 = iv a0 14 := kp14f10
          have gk15f10 : ivh10 a0 15 = iv a0 15 := kp15f10
          have gk16f10 : ivh10 a0 16 = iv a0 16 := kp16f10
          have gf10 : f10 = -1 := exf10
          have ri72 : 1 ≤ ivh10 a0 11 ∧ ivh10 a0 11 ≤ 100 := W11.int t_a0 11
          have ri73 : 1 ≤ ivh10 a0 12 ∧ ivh10 a0 12 ≤ 50 := W11.int t_a0 12
          have ri74 : (-2147483648) ≤ ivh10 a0 13 ∧ ivh10 a0 13 ≤ 2147483647 := W11.int t_a0 13
          have ri75 : (-2147483648) ≤ ivh10 a0 14 ∧ ivh10 a0 14 ≤ 2147483647 := W11.int t_a0 14
          have ri76 : (-2147483648) ≤ ivh10 a0 15 ∧ ivh10 a0 15 ≤ 2147483647 := W11.int t_a0 15
          have ri77 : (-2147483648) ≤ ivh10 a0 16 ∧ ivh10 a0 16 ≤ 2147483647 := W11.int t_a0 16
          exact c_iret C dX11_copyRow_57 rfl (by decide) (rom0 hph hph (by decide)) ⟨f10, rfl, rfl, rfl, rfl, rfl, F7, W11, ⟨by omega, by omega⟩, trivial, (by omega), (by omega), (by omega), (by omega), (by omega), (by omega)⟩
    · subst oq2
      refine c_lv (lv2 := [(7, .null), (6, .ref ob1), (0, .ref a0), (1, .int (iI i)), (2, .int (iI i2)), (3, .int (iI j)), (4, .int (iI j2)), (5, .int (iI n))]) [0, 1, 2, 3, 4, 5, 6, 7] rfl ?_
      refine c_st (st2 := []) rfl ?_
      refine c_aload_n (j := 2) (x := a0) C dX11_copyRow_30 rfl ?_
      refine c_iconst C dX11_copyRow_31 ?_
      refine d_callV (As := [.int (iI 2)]) (rest := []) C hM (C_refuse (a0 := a0) (x := 2) hW hS t_a0 ⟨by decide, by decide⟩ ) dX11_copyRow_32 kV_X11_102 rfl t_a0 rfl rfl (by decide) ck_12 rfl (Nat.le_of_ble_eq_true rfl) ⟨(Nat.le_of_ble_eq_true rfl), (Nat.le_of_ble_eq_true rfl)⟩ hph hph (show 0 + 0 = 0 from rfl) (by decide) (fun rh11 Lh11 clh11 lnh11 ivh11 rvh11 h11 => ?_)
      obtain ⟨f11, rfl, rfl, rfl, rfl, rfl, fl11, W12, rgf11, exf11, kp11f11, kp12f11, kp13f11, kp14f11, kp15f11, kp16f11⟩ := h11
      have ri78 : 1 ≤ iv a0 11 ∧ iv a0 11 ≤ 100 := hW.int t_a0 11
      have ri79 : 1 ≤ iv a0 12 ∧ iv a0 12 ≤ 50 := hW.int t_a0 12
      have ri80 : (-2147483648) ≤ iv a0 13 ∧ iv a0 13 ≤ 2147483647 := hW.int t_a0 13
      have ri81 : (-2147483648) ≤ iv a0 14 ∧ iv a0 14 ≤ 2147483647 := hW.int t_a0 14
      have ri82 : (-2147483648) ≤ iv a0 15 ∧ iv a0 15 ≤ 2147483647 := hW.int t_a0 15
      have ri83 : (-2147483648) ≤ iv a0 16 ∧ iv a0 16 ≤ 2147483647 := hW.int t_a0 16
      have F8 := hF0.call hX0 fl11 rfl
      refine c_st (st2 := [.int (iI f11)]) rfl ?_
      have gk11f11 : ivh11 a0 11 = iv a0 11 := kp11f11
      have gk12f11 : ivh11 a0 12 = iv a0 12 := kp12f11
      have gk13f11 : ivh11 a0 13 = iv a0 13 := kp13f11
      have gk14f11 : ivh11 a0 14 = iv a0 14 := kp14f11
      have gk15f11 : ivh11 a0 15 = iv a0 15 := kp15f11
      have gk16f11 : ivh11 a0 16 = iv a0 16 := kp16f11
      have gf11 : f11 = -1 := exf11
      have ri84 : 1 ≤ ivh11 a0 11 ∧ ivh11 a0 11 ≤ 100 := W12.int t_a0 11
      have ri85 : 1 ≤ ivh11 a0 12 ∧ ivh11 a0 12 ≤ 50 := W12.int t_a0 12
      have ri86 : (-2147483648) ≤ ivh11 a0 13 ∧ ivh11 a0 13 ≤ 2147483647 := W12.int t_a0 13
      have ri87 : (-2147483648) ≤ ivh11 a0 14 ∧ ivh11 a0 14 ≤ 2147483647 := W12.int t_a0 14
      have ri88 : (-2147483648) ≤ ivh11 a0 15 ∧ ivh11 a0 15 ≤ 2147483647 := W12.int t_a0 15
      have ri89 : (-2147483648) ≤ ivh11 a0 16 ∧ ivh11 a0 16 ≤ 2147483647 := W12.int t_a0 16
      exact c_iret C dX11_copyRow_35 rfl (by decide) (rom0 hph hph (by decide)) ⟨f11, rfl, rfl, rfl, rfl, rfl, F8, W12, ⟨by omega, by omega⟩, trivial, (by omega), (by omega), (by omega), (by omega), (by omega), (by omega)⟩
set_option maxHeartbeats 4000000 in
set_option maxRecDepth 100000 in
theorem C_copyLines {l : Launch} {G : GT} {mi : Nat} {sk : Nat → Nat} {L : List Nat} {cl ln : Nat → Nat} {iv : Nat → Nat → Int} {rv : Nat → Nat → Option Nat}  {a0 : Nat} {i : Int} {j : Int} {n : Int} (hW : WT (g0 G) sk L cl ln iv rv) (hS : SKL sk L cl) (t_a0 : ty L cl a0 1) (h_i : -2147483648 ≤ i ∧ i ≤ 2147483647) (h_j : -2147483648 ≤ j ∧ j ≤ 2147483647) (h_n : -2147483648 ≤ n ∧ n ≤ 2147483647)  : Mc l G mi (Phi (g0 G) sk) PHM yX11_copyLines cX11_copyLines 7 (some .int) 2 [.ref a0, .int (iI i), .int (iI j), .int (iI n)] L cl ln iv rv 0 (fun v L2 cl2 ln2 iv2 rv2 => ∃ f : Int, v = some (.int (iI f)) ∧ L = L2 ∧ cl = cl2 ∧ ln = ln2 ∧ rv = rv2 ∧ fT [1, 19, 64] L cl iv rv iv2 rv2 ∧ WT (g0 G) sk L2 cl2 ln2 iv2 rv2 ∧ (-2147483648 ≤ f ∧ f ≤ 2147483647) ∧ (True) ∧ iv2 a0 11 = iv a0 11 ∧ iv2 a0 12 = iv a0 12 ∧ iv2 a0 13 = iv a0 13 ∧ iv2 a0 14 = iv a0 14 ∧ iv2 a0 16 = iv a0 16) := by
  refine Mc.mk (by decide) (Nat.le_of_ble_eq_true rfl) ?_
  intro p e s m args below meth c A C hM
  have hph := Phi.le hW hS
  have hX0 : XT L cl ln L cl ln := XT.refl
  have hF0 : fT [1, 19, 64] L cl iv rv iv rv := fT.refl
  refine c_iload_n (j := 3) C dX11_copyLines_0 rfl ?_
  refine c_bipush (z := 10) C dX11_copyLines_1 (by decide) ?_
  refine c_icmp_le (tgt := 13) C ⟨by omega, by omega⟩ ⟨by decide, by decide⟩ dX11_copyLines_3 (by decide) (fun c1 => ?_) (fun c1 => ?_)
  · refine c_iload_n (j := 3) C dX11_copyLines_13 rfl ?_
    refine c_if_ge (tgt := 23) C ⟨by omega, by omega⟩ dX11_copyLines_14 (by decide) (fun c2 => ?_) (fun c2 => ?_)
    · refine c_aload_n (j := 0) (x := a0) C dX11_copyLines_23 rfl ?_
      refine c_iconst C dX11_copyLines_24 ?_
      refine c_put (z := 0) (k := 15) C ck_12 dX11_copyLines_25 w2_59 (by decide) rfl t_a0 rfl rfl (by decide) rfl (by rfl) (by rfl) (fun iv1 pq1 => ?_)
      have W1 := hW.puti pq1 t_a0 ⟨by decide, by decide⟩ rfl
      have F1 := hF0.puti hX0 pq1 t_a0 rfl
      refine c_iconst C dX11_copyLines_28 ?_
      refine c_istore (lv2 := [(4, .int (iI 0)), (0, .ref a0), (1, .int (iI i)), (2, .int (iI j)), (3, .int (iI n))]) C dX11_copyLines_29 (by decide) rfl ?_
      have Lp1 : ∀ (nn : Nat) (k : Int) (ivb1 : Nat → Nat → Int) , 201 - k < (nn : Int) → WT (g0 G) sk L cl ln ivb1 rv → fT [1, 19, 64] L cl iv rv ivb1 rv → (0 ≤ k ∧ k ≤ 200) → (ivb1 a0 11 = iv a0 11) → (ivb1 a0 12 = iv a0 12) → (ivb1 a0 13 = iv a0 13) → (ivb1 a0 14 = iv a0 14) → (ivb1 a0 16 = iv a0 16) → cw p l e 2 ((PHM) + 0 - ((Phi (g0 G) sk) ln rv)) s m args below meth c G A 7 (MQ below (Qu G A (Qp G (Phi (g0 G) sk) ((Phi (g0 G) sk) ln rv) 0 (fun v L2 cl2 ln2 iv2 rv2 => ∃ f : Int, v = some (.int (iI f)) ∧ L = L2 ∧ cl = cl2 ∧ ln = ln2 ∧ rv = rv2 ∧ fT [1, 19, 64] L cl iv rv iv2 rv2 ∧ WT (g0 G) sk L2 cl2 ln2 iv2 rv2 ∧ (-2147483648 ≤ f ∧ f ≤ 2147483647) ∧ (True) ∧ iv2 a0 11 = iv a0 11 ∧ iv2 a0 12 = iv a0 12 ∧ iv2 a0 13 = iv a0 13 ∧ iv2 a0 14 = iv a0 14 ∧ iv2 a0 16 = iv a0 16))) args s (((PHM) + 0 - ((Phi (g0 G) sk) ln rv)) / 16) ((PHM) + 0 - ((Phi (g0 G) sk) ln rv)) A) (Phi (g0 G) sk) ((Phi (g0 G) sk) ln rv) L cl ln ivb1 rv 0 31 [(4, .int (iI k)), (0, .ref a0), (1, .int (iI i)), (2, .int (iI j)), (3, .int (iI n))] [] := by
        intro nn
        induction nn with
        | zero =>
          intro  k ivb1 hm Wb1 Fb1  hk hkp11 hkp12 hkp13 hkp14 hkp16
          exact absurd hm (by omega)
        | succ nn ih1 =>
          intro  k ivb1 hm Wb1 Fb1  hk hkp11 hkp12 hkp13 hkp14 hkp16
          refine c_iload (j := 0) C dX11_copyLines_31 rfl ?_
          refine c_iload_n (j := 4) C dX11_copyLines_33 rfl ?_
          refine c_icmp_ge (tgt := 116) C ⟨by omega, by omega⟩ ⟨by omega, by omega⟩ dX11_copyLines_34 (by decide) (fun c3 => ?_) (fun c3 => ?_)
          · refine c_aload_n (j := 1) (x := a0) C dX11_copyLines_116 rfl ?_
            refine c_iload_n (j := 4) C dX11_copyLines_117 rfl ?_
            refine d_callV (As := [.int (iI n)]) (rest := []) C hM (C_done (a0 := a0) (x := n) Wb1 hS t_a0 (by omega) ) dX11_copyLines_118 kV_X11_109 rfl t_a0 rfl rfl (by decide) ck_12 rfl (Nat.le_of_ble_eq_true rfl) ⟨(Nat.le_of_ble_eq_true rfl), (Nat.le_of_ble_eq_true rfl)⟩ hph hph (show 0 + 0 = 0 from rfl) (by decide) (fun rh1 Lh1 clh1 lnh1 ivh1 rvh1 h1 => ?_)
            obtain ⟨f1, rfl, rfl, rfl, rfl, rfl, fl1, W2, rgf1, exf1, kp11f1, kp12f1, kp13f1, kp14f1, kp15f1, kp16f1⟩ := h1
            have ri1 : 1 ≤ ivb1 a0 11 ∧ ivb1 a0 11 ≤ 100 := Wb1.int t_a0 11
            have ri2 : 1 ≤ ivb1 a0 12 ∧ ivb1 a0 12 ≤ 50 := Wb1.int t_a0 12
            have ri3 : (-2147483648) ≤ ivb1 a0 13 ∧ ivb1 a0 13 ≤ 2147483647 := Wb1.int t_a0 13
            have ri4 : (-2147483648) ≤ ivb1 a0 14 ∧ ivb1 a0 14 ≤ 2147483647 := Wb1.int t_a0 14
            have ri5 : (-2147483648) ≤ ivb1 a0 15 ∧ ivb1 a0 15 ≤ 2147483647 := Wb1.int t_a0 15
            have ri6 : (-2147483648) ≤ ivb1 a0 16 ∧ ivb1 a0 16 ≤ 2147483647 := Wb1.int t_a0 16
            have F2 := Fb1.call hX0 fl1 rfl
            refine c_st (st2 := [.int (iI f1)]) rfl ?_
            have gk11f1 : ivh1 a0 11 = ivb1 a0 11 := kp11f1
            have gk12f1 : ivh1 a0 12 = ivb1 a0 12 := kp12f1
            have gk13f1 : ivh1 a0 13 = ivb1 a0 13 := kp13f1
            have gk14f1 : ivh1 a0 14 = ivb1 a0 14 := kp14f1
            have gk15f1 : ivh1 a0 15 = ivb1 a0 15 := kp15f1
            have gk16f1 : ivh1 a0 16 = ivb1 a0 16 := kp16f1
            have gf1 : f1 = n := exf1
            have ri7 : 1 ≤ ivh1 a0 11 ∧ ivh1 a0 11 ≤ 100 := W2.int t_a0 11
            have ri8 : 1 ≤ ivh1 a0 12 ∧ ivh1 a0 12 ≤ 50 := W2.int t_a0 12
            have ri9 : (-2147483648) ≤ ivh1 a0 13 ∧ ivh1 a0 13 ≤ 2147483647 := W2.int t_a0 13
            have ri10 : (-2147483648) ≤ ivh1 a0 14 ∧ ivh1 a0 14 ≤ 2147483647 := W2.int t_a0 14
            have ri11 : (-2147483648) ≤ ivh1 a0 16 ∧ ivh1 a0 16 ≤ 2147483647 := W2.int t_a0 16
            exact c_iret C dX11_copyLines_121 rfl (by decide) (rom0 hph hph (by decide)) ⟨f1, rfl, rfl, rfl, rfl, rfl, F2, W2, ⟨by omega, by omega⟩, trivial, (by omega), (by omega), (by omega), (by omega), (by omega)⟩
          · refine c_aload_n (j := 1) (x := a0) C dX11_copyLines_37 rfl ?_
            obtain ⟨rb1, rq1, trb1⟩ := Wb1.ref t_a0 9 rfl rfl rfl
            refine c_getr (k := 9) C ck_12 dX11_copyLines_38 w2_53 (by decide) t_a0 rfl rfl (by decide) rfl rq1 ?_
            refine c_st (st2 := [.ref rb1]) rfl ?_
            refine c_iload_n (j := 2) C dX11_copyLines_41 rfl ?_
            refine c_iload (j := 0) C dX11_copyLines_42 rfl ?_
            refine c_iadd C dX11_copyLines_44 ?_
            obtain ⟨zz1, hzz1, ezz1⟩ := iI_of (iI (i + k))
            refine c_st (st2 := [.int (iI zz1), .ref rb1]) (by rw [ezz1]) ?_
            have ri12 : 0 ≤ ivb1 rb1 1 ∧ ivb1 rb1 1 ≤ 200 := Wb1.int trb1 1
            have ie12 : ivb1 rb1 1 = iv rb1 1 := Fb1.i trb1 rfl 1
            refine d_callV (As := [.int (iI zz1)]) (rest := []) C hM (C_sat (a0 := rb1) (i := zz1) Wb1 hS trb1 (by omega) ) dX11_copyLines_45 kV_X11_308 rfl trb1 rfl rfl (by decide) ck_8 rfl (Nat.le_of_ble_eq_true rfl) ⟨(Nat.le_of_ble_eq_true rfl), (Nat.le_of_ble_eq_true rfl)⟩ hph hph (show 0 + 0 = 0 from rfl) (by decide) (fun rh2 Lh2 clh2 lnh2 ivh2 rvh2 h2 => ?_)
            obtain ⟨f2, rfl, rfl, rfl, rfl, rfl, rfl, rgf2, exf2⟩ := h2
            refine c_st (st2 := [(va_rf f2)]) rfl ?_
            have gf2 : f2 = none ∨ (0 ≤ zz1 ∧ zz1 < ivb1 rb1 1) := exf2
            refine c_astorer (r := f2) (lv2 := [(5, (va_rf f2)), (4, .int (iI k)), (0, .ref a0), (1, .int (iI i)), (2, .int (iI j)), (3, .int (iI n))]) C dX11_copyLines_48 (by decide) rfl ?_
            refine c_aload_n (j := 2) (x := a0) C dX11_copyLines_50 rfl ?_
            refine c_getr (k := 9) C ck_12 dX11_copyLines_51 w2_53 (by decide) t_a0 rfl rfl (by decide) rfl rq1 ?_
            refine c_st (st2 := [.ref rb1]) rfl ?_
            refine c_iload_n (j := 4) C dX11_copyLines_54 rfl ?_
            refine c_iload (j := 1) C dX11_copyLines_55 rfl ?_
            refine c_iadd C dX11_copyLines_57 ?_
            obtain ⟨zz2, hzz2, ezz2⟩ := iI_of (iI (j + k))
            refine c_st (st2 := [.int (iI zz2), .ref rb1]) (by rw [ezz2]) ?_
            refine d_callV (As := [.int (iI zz2)]) (rest := []) C hM (C_sat (a0 := rb1) (i := zz2) Wb1 hS trb1 (by omega) ) dX11_copyLines_58 kV_X11_308 rfl trb1 rfl rfl (by decide) ck_8 rfl (Nat.le_of_ble_eq_true rfl) ⟨(Nat.le_of_ble_eq_true rfl), (Nat.le_of_ble_eq_true rfl)⟩ hph hph (show 0 + 0 = 0 from rfl) (by decide) (fun rh3 Lh3 clh3 lnh3 ivh3 rvh3 h3 => ?_)
            obtain ⟨f3, rfl, rfl, rfl, rfl, rfl, rfl, rgf3, exf3⟩ := h3
            refine c_st (st2 := [(va_rf f3)]) rfl ?_
            have gf3 : f3 = none ∨ (0 ≤ zz2 ∧ zz2 < ivb1 rb1 1) := exf3
            refine c_astorer (r := f3) (lv2 := [(6, (va_rf f3)), (5, (va_rf f2)), (4, .int (iI k)), (0, .ref a0), (1, .int (iI i)), (2, .int (iI j)), (3, .int (iI n))]) C dX11_copyLines_61 (by decide) (by cases f2 <;> rfl) ?_
            refine c_aloadr (j := 1) (r := f2) C dX11_copyLines_63 rfl ?_
            refine c_ifnull (r := f2) (tgt := 73) C dX11_copyLines_65 (by decide) (fun oq1 => ?_) (fun ob1 oq1 => ?_)
            · subst oq1
              refine c_lv (lv2 := [(6, (va_rf f3)), (5, .null), (4, .int (iI k)), (0, .ref a0), (1, .int (iI i)), (2, .int (iI j)), (3, .int (iI n))]) [0, 1, 2, 3, 4, 5, 6] rfl ?_
              refine c_st (st2 := []) rfl ?_
              refine c_aload_n (j := 3) (x := a0) C dX11_copyLines_73 rfl ?_
              refine c_iconst C dX11_copyLines_74 ?_
              refine d_callV (As := [.int (iI 2)]) (rest := []) C hM (C_refuse (a0 := a0) (x := 2) Wb1 hS t_a0 ⟨by decide, by decide⟩ ) dX11_copyLines_75 kV_X11_102 rfl t_a0 rfl rfl (by decide) ck_12 rfl (Nat.le_of_ble_eq_true rfl) ⟨(Nat.le_of_ble_eq_true rfl), (Nat.le_of_ble_eq_true rfl)⟩ hph hph (show 0 + 0 = 0 from rfl) (by decide) (fun rh4 Lh4 clh4 lnh4 ivh4 rvh4 h4 => ?_)
              obtain ⟨f4, rfl, rfl, rfl, rfl, rfl, fl4, W5, rgf4, exf4, kp11f4, kp12f4, kp13f4, kp14f4, kp15f4, kp16f4⟩ := h4
              have ri13 : 1 ≤ ivb1 a0 11 ∧ ivb1 a0 11 ≤ 100 := Wb1.int t_a0 11
              have ri14 : 1 ≤ ivb1 a0 12 ∧ ivb1 a0 12 ≤ 50 := Wb1.int t_a0 12
              have ri15 : (-2147483648) ≤ ivb1 a0 13 ∧ ivb1 a0 13 ≤ 2147483647 := Wb1.int t_a0 13
              have ri16 : (-2147483648) ≤ ivb1 a0 14 ∧ ivb1 a0 14 ≤ 2147483647 := Wb1.int t_a0 14
              have ri17 : (-2147483648) ≤ ivb1 a0 15 ∧ ivb1 a0 15 ≤ 2147483647 := Wb1.int t_a0 15
              have ri18 : (-2147483648) ≤ ivb1 a0 16 ∧ ivb1 a0 16 ≤ 2147483647 := Wb1.int t_a0 16
              have F3 := Fb1.call hX0 fl4 rfl
              refine c_st (st2 := [.int (iI f4)]) rfl ?_
              have gk11f4 : ivh4 a0 11 = ivb1 a0 11 := kp11f4
              have gk12f4 : ivh4 a0 12 = ivb1 a0 12 := kp12f4
              have gk13f4 : ivh4 a0 13 = ivb1 a0 13 := kp13f4
              have gk14f4 : ivh4 a0 14 = ivb1 a0 14 := kp14f4
              have gk15f4 : ivh4 a0 15 = ivb1 a0 15 := kp15f4
              have gk16f4 : ivh4 a0 16 = ivb1 a0 16 := kp16f4
              have gf4 : f4 = -1 := exf4
              have ri19 : 1 ≤ ivh4 a0 11 ∧ ivh4 a0 11 ≤ 100 := W5.int t_a0 11
              have ri20 : 1 ≤ ivh4 a0 12 ∧ ivh4 a0 12 ≤ 50 := W5.int t_a0 12
              have ri21 : (-2147483648) ≤ ivh4 a0 13 ∧ ivh4 a0 13 ≤ 2147483647 := W5.int t_a0 13
              have ri22 : (-2147483648) ≤ ivh4 a0 14 ∧ ivh4 a0 14 ≤ 2147483647 := W5.int t_a0 14
              have ri23 : (-2147483648) ≤ ivh4 a0 16 ∧ ivh4 a0 16 ≤ 2147483647 := W5.int t_a0 16
              exact c_iret C dX11_copyLines_78 rfl (by decide) (rom0 hph hph (by decide)) ⟨f4, rfl, rfl, rfl, rfl, rfl, F3, W5, ⟨by omega, by omega⟩, trivial, (by omega), (by omega), (by omega), (by omega), (by omega)⟩
            · subst oq1
              have tob1 := rgf2 ob1 rfl
              refine c_lv (lv2 := [(6, (va_rf f3)), (5, .ref ob1), (4, .int (iI k)), (0, .ref a0), (1, .int (iI i)), (2, .int (iI j)), (3, .int (iI n))]) [0, 1, 2, 3, 4, 5, 6] rfl ?_
              refine c_st (st2 := []) rfl ?_
              refine c_aloadr (j := 0) (r := f3) C dX11_copyLines_68 rfl ?_
              refine c_ifnonnull (r := f3) (tgt := 79) C dX11_copyLines_70 (by decide) (fun ob2 oq2 => ?_) (fun oq2 => ?_)
              · subst oq2
                have tob2 := rgf3 ob2 rfl
                refine c_lv (lv2 := [(6, .ref ob2), (5, .ref ob1), (4, .int (iI k)), (0, .ref a0), (1, .int (iI i)), (2, .int (iI j)), (3, .int (iI n))]) [0, 1, 2, 3, 4, 5, 6] rfl ?_
                refine c_st (st2 := []) rfl ?_
                refine c_aload (j := 1) (x := ob1) C dX11_copyLines_79 rfl ?_
                have ri24 : 0 ≤ ivb1 ob1 2 ∧ ivb1 ob1 2 ≤ 1 := Wb1.int tob1 2
                refine c_get (k := 2) C ck_3 dX11_copyLines_81 w4_56 (by decide) tob1 rfl rfl (by decide) rfl ?_
                refine c_if_eq (tgt := 93) C ⟨by omega, by omega⟩ dX11_copyLines_84 (by decide) (fun c4 => ?_) (fun c4 => ?_)
                · refine c_aload (j := 0) (x := ob2) C dX11_copyLines_93 rfl ?_
                  refine c_aload (j := 1) (x := ob1) C dX11_copyLines_95 rfl ?_
                  refine d_callV (As := [.ref ob1]) (rest := []) C hM (C_become (a0 := ob2) (a1 := ob1) Wb1 hS tob2 tob1  ) dX11_copyLines_97 kV_X11_322 rfl tob2 rfl rfl (by decide) ck_3 rfl (Nat.le_of_ble_eq_true rfl) ⟨(Nat.le_of_ble_eq_true rfl), (Nat.le_of_ble_eq_true rfl)⟩ hph hph (show 0 + 0 = 0 from rfl) (by decide) (fun rh5 Lh5 clh5 lnh5 ivh5 rvh5 h5 => ?_)
                  obtain ⟨rfl, rfl, rfl, rfl, rfl, fl5, W6, exf5⟩ := h5
                  have F4 := Fb1.call hX0 fl5 rfl
                  refine c_st (st2 := []) rfl ?_
                  refine c_aload_n (j := 3) (x := a0) C dX11_copyLines_100 rfl ?_
                  refine c_dup C dX11_copyLines_101 rfl ?_
                  have ri25 : (-2147483648) ≤ ivh5 a0 15 ∧ ivh5 a0 15 ≤ 2147483647 := W6.int t_a0 15
                  have ie25 : ivh5 a0 15 = ivb1 a0 15 := fl5.i t_a0 rfl 15
                  refine c_get (k := 15) C ck_12 dX11_copyLines_102 w2_59 (by decide) t_a0 rfl rfl (by decide) rfl ?_
                  refine c_iconst C dX11_copyLines_105 ?_
                  refine c_iadd C dX11_copyLines_106 ?_
                  obtain ⟨zz3, hzz3, ezz3⟩ := iI_of (iI ((ivh5 a0 15) + 1))
                  refine c_st (st2 := [.int (iI zz3), .ref a0]) (by rw [ezz3]) ?_
                  refine c_put (z := zz3) (k := 15) C ck_12 dX11_copyLines_107 w2_59 (by decide) rfl t_a0 rfl rfl (by decide) rfl (by rfl) (by rfl) (fun iv2 pq2 => ?_)
                  have W7 := W6.puti pq2 t_a0 (show (-2147483648) ≤ zz3 ∧ zz3 ≤ 2147483647 by omega) rfl
                  have F5 := F4.puti hX0 pq2 t_a0 rfl
                  refine c_iinc (z := k) (j := 2) (lv2 := [(4, .int (iI (k + 1))), (6, .ref ob2), (5, .ref ob1), (0, .ref a0), (1, .int (iI i)), (2, .int (iI j)), (3, .int (iI n))]) C dX11_copyLines_110 rfl (by decide) rfl ?_
                  refine c_goto (tgt := 31) C dX11_copyLines_113 (by decide) ?_
                  have ri26 : 1 ≤ iv2 a0 11 ∧ iv2 a0 11 ≤ 100 := W7.int t_a0 11
                  have ie27 : iv2 a0 11 = ivh5 a0 11 := by rw [pq2]; exact up2_j (by decide)
                  have ie28 : ivh5 a0 11 = ivb1 a0 11 := fl5.i t_a0 rfl 11
                  have ri27 : 1 ≤ iv2 a0 12 ∧ iv2 a0 12 ≤ 50 := W7.int t_a0 12
                  have ie30 : iv2 a0 12 = ivh5 a0 12 := by rw [pq2]; exact up2_j (by decide)
                  have ie31 : ivh5 a0 12 = ivb1 a0 12 := fl5.i t_a0 rfl 12
                  have ri28 : (-2147483648) ≤ iv2 a0 13 ∧ iv2 a0 13 ≤ 2147483647 := W7.int t_a0 13
                  have ie33 : iv2 a0 13 = ivh5 a0 13 := by rw [pq2]; exact up2_j (by decide)
                  have ie34 : ivh5 a0 13 = ivb1 a0 13 := fl5.i t_a0 rfl 13
                  have ri29 : (-2147483648) ≤ iv2 a0 14 ∧ iv2 a0 14 ≤ 2147483647 := W7.int t_a0 14
                  have ie36 : iv2 a0 14 = ivh5 a0 14 := by rw [pq2]; exact up2_j (by decide)
                  have ie37 : ivh5 a0 14 = ivb1 a0 14 := fl5.i t_a0 rfl 14
                  have ri30 : (-2147483648) ≤ iv2 a0 16 ∧ iv2 a0 16 ≤ 2147483647 := W7.int t_a0 16
                  have ie39 : iv2 a0 16 = ivh5 a0 16 := by rw [pq2]; exact up2_j (by decide)
                  have ie40 : ivh5 a0 16 = ivb1 a0 16 := fl5.i t_a0 rfl 16
                  refine c_lv (lv2 := [(4, .int (iI (k + 1))), (0, .ref a0), (1, .int (iI i)), (2, .int (iI j)), (3, .int (iI n))]) [0, 3, 4, 5, 6] rfl ?_
                  exact ih1  (k + 1) _ (by omega) W7 F5  (by omega) (by show iv2 a0 11 = iv a0 11; omega) (by show iv2 a0 12 = iv a0 12; omega) (by show iv2 a0 13 = iv a0 13; omega) (by show iv2 a0 14 = iv a0 14; omega) (by show iv2 a0 16 = iv a0 16; omega)
                · refine c_aload_n (j := 3) (x := a0) C dX11_copyLines_87 rfl ?_
                  refine c_iconst C dX11_copyLines_88 ?_
                  refine d_callV (As := [.int (iI 1)]) (rest := []) C hM (C_refuse (a0 := a0) (x := 1) Wb1 hS t_a0 ⟨by decide, by decide⟩ ) dX11_copyLines_89 kV_X11_102 rfl t_a0 rfl rfl (by decide) ck_12 rfl (Nat.le_of_ble_eq_true rfl) ⟨(Nat.le_of_ble_eq_true rfl), (Nat.le_of_ble_eq_true rfl)⟩ hph hph (show 0 + 0 = 0 from rfl) (by decide) (fun rh6 Lh6 clh6 lnh6 ivh6 rvh6 h6 => ?_)
                  obtain ⟨f6, rfl, rfl, rfl, rfl, rfl, fl6, W8, rgf6, exf6, kp11f6, kp12f6, kp13f6, kp14f6, kp15f6, kp16f6⟩ := h6
                  have ri31 : 1 ≤ ivb1 a0 11 ∧ ivb1 a0 11 ≤ 100 := Wb1.int t_a0 11
                  have ri32 : 1 ≤ ivb1 a0 12 ∧ ivb1 a0 12 ≤ 50 := Wb1.int t_a0 12
                  have ri33 : (-2147483648) ≤ ivb1 a0 13 ∧ ivb1 a0 13 ≤ 2147483647 := Wb1.int t_a0 13
                  have ri34 : (-2147483648) ≤ ivb1 a0 14 ∧ ivb1 a0 14 ≤ 2147483647 := Wb1.int t_a0 14
                  have ri35 : (-2147483648) ≤ ivb1 a0 15 ∧ ivb1 a0 15 ≤ 2147483647 := Wb1.int t_a0 15
                  have ri36 : (-2147483648) ≤ ivb1 a0 16 ∧ ivb1 a0 16 ≤ 2147483647 := Wb1.int t_a0 16
                  have F6 := Fb1.call hX0 fl6 rfl
                  refine c_st (st2 := [.int (iI f6)]) rfl ?_
                  have gk11f6 : ivh6 a0 11 = ivb1 a0 11 := kp11f6
                  have gk12f6 : ivh6 a0 12 = ivb1 a0 12 := kp12f6
                  have gk13f6 : ivh6 a0 13 = ivb1 a0 13 := kp13f6
                  have gk14f6 : ivh6 a0 14 = ivb1 a0 14 := kp14f6
                  have gk15f6 : ivh6 a0 15 = ivb1 a0 15 := kp15f6
                  have gk16f6 : ivh6 a0 16 = ivb1 a0 16 := kp16f6
                  have gf6 : f6 = -1 := exf6
                  have ri37 : 1 ≤ ivh6 a0 11 ∧ ivh6 a0 11 ≤ 100 := W8.int t_a0 11
                  have ri38 : 1 ≤ ivh6 a0 12 ∧ ivh6 a0 12 ≤ 50 := W8.int t_a0 12
                  have ri39 : (-2147483648) ≤ ivh6 a0 13 ∧ ivh6 a0 13 ≤ 2147483647 := W8.int t_a0 13
                  have ri40 : (-2147483648) ≤ ivh6 a0 14 ∧ ivh6 a0 14 ≤ 2147483647 := W8.int t_a0 14
                  have ri41 : (-2147483648) ≤ ivh6 a0 16 ∧ ivh6 a0 16 ≤ 2147483647 := W8.int t_a0 16
                  exact c_iret C dX11_copyLines_92 rfl (by decide) (rom0 hph hph (by decide)) ⟨f6, rfl, rfl, rfl, rfl, rfl, F6, W8, ⟨by omega, by omega⟩, trivial, (by omega), (by omega), (by omega), (by omega), (by omega)⟩
              · subst oq2
                refine c_lv (lv2 := [(6, .null), (5, .ref ob1), (4, .int (iI k)), (0, .ref a0), (1, .int (iI i)), (2, .int (iI j)), (3, .int (iI n))]) [0, 1, 2, 3, 4, 5, 6] rfl ?_
                refine c_st (st2 := []) rfl ?_
                refine c_aload_n (j := 3) (x := a0) C dX11_copyLines_73 rfl ?_
                refine c_iconst C dX11_copyLines_74 ?_
                refine d_callV (As := [.int (iI 2)]) (rest := []) C hM (C_refuse (a0 := a0) (x := 2) Wb1 hS t_a0 ⟨by decide, by decide⟩ ) dX11_copyLines_75 kV_X11_102 rfl t_a0 rfl rfl (by decide) ck_12 rfl (Nat.le_of_ble_eq_true rfl) ⟨(Nat.le_of_ble_eq_true rfl), (Nat.le_of_ble_eq_true rfl)⟩ hph hph (show 0 + 0 = 0 from rfl) (by decide) (fun rh7 Lh7 clh7 lnh7 ivh7 rvh7 h7 => ?_)
                obtain ⟨f7, rfl, rfl, rfl, rfl, rfl, fl7, W9, rgf7, exf7, kp11f7, kp12f7, kp13f7, kp14f7, kp15f7, kp16f7⟩ := h7
                have ri42 : 1 ≤ ivb1 a0 11 ∧ ivb1 a0 11 ≤ 100 := Wb1.int t_a0 11
                have ri43 : 1 ≤ ivb1 a0 12 ∧ ivb1 a0 12 ≤ 50 := Wb1.int t_a0 12
                have ri44 : (-2147483648) ≤ ivb1 a0 13 ∧ ivb1 a0 13 ≤ 2147483647 := Wb1.int t_a0 13
                have ri45 : (-2147483648) ≤ ivb1 a0 14 ∧ ivb1 a0 14 ≤ 2147483647 := Wb1.int t_a0 14
                have ri46 : (-2147483648) ≤ ivb1 a0 15 ∧ ivb1 a0 15 ≤ 2147483647 := Wb1.int t_a0 15
                have ri47 : (-2147483648) ≤ ivb1 a0 16 ∧ ivb1 a0 16 ≤ 2147483647 := Wb1.int t_a0 16
                have F7 := Fb1.call hX0 fl7 rfl
                refine c_st (st2 := [.int (iI f7)]) rfl ?_
                have gk11f7 : ivh7 a0 11 = ivb1 a0 11 := kp11f7
                have gk12f7 : ivh7 a0 12 = ivb1 a0 12 := kp12f7
                have gk13f7 : ivh7 a0 13 = ivb1 a0 13 := kp13f7
                have gk14f7 : ivh7 a0 14 = ivb1 a0 14 := kp14f7
                have gk15f7 : ivh7 a0 15 = ivb1 a0 15 := kp15f7
                have gk16f7 : ivh7 a0 16 = ivb1 a0 16 := kp16f7
                have gf7 : f7 = -1 := exf7
                have ri48 : 1 ≤ ivh7 a0 11 ∧ ivh7 a0 11 ≤ 100 := W9.int t_a0 11
                have ri49 : 1 ≤ ivh7 a0 12 ∧ ivh7 a0 12 ≤ 50 := W9.int t_a0 12
                have ri50 : (-2147483648) ≤ ivh7 a0 13 ∧ ivh7 a0 13 ≤ 2147483647 := W9.int t_a0 13
                have ri51 : (-2147483648) ≤ ivh7 a0 14 ∧ ivh7 a0 14 ≤ 2147483647 := W9.int t_a0 14
                have ri52 : (-2147483648) ≤ ivh7 a0 16 ∧ ivh7 a0 16 ≤ 2147483647 := W9.int t_a0 16
                exact c_iret C dX11_copyLines_78 rfl (by decide) (rom0 hph hph (by decide)) ⟨f7, rfl, rfl, rfl, rfl, rfl, F7, W9, ⟨by omega, by omega⟩, trivial, (by omega), (by omega), (by omega), (by omega), (by omega)⟩
      have ri53 : 1 ≤ iv1 a0 11 ∧ iv1 a0 11 ≤ 100 := W1.int t_a0 11
      have ie64 : iv1 a0 11 = iv a0 11 := by rw [pq1]; exact up2_j (by decide)
      have ri54 : 1 ≤ iv1 a0 12 ∧ iv1 a0 12 ≤ 50 := W1.int t_a0 12
      have ie65 : iv1 a0 12 = iv a0 12 := by rw [pq1]; exact up2_j (by decide)
      have ri55 : (-2147483648) ≤ iv1 a0 13 ∧ iv1 a0 13 ≤ 2147483647 := W1.int t_a0 13
      have ie66 : iv1 a0 13 = iv a0 13 := by rw [pq1]; exact up2_j (by decide)
      have ri56 : (-2147483648) ≤ iv1 a0 14 ∧ iv1 a0 14 ≤ 2147483647 := W1.int t_a0 14
      have ie67 : iv1 a0 14 = iv a0 14 := by rw [pq1]; exact up2_j (by decide)
      have ri57 : (-2147483648) ≤ iv1 a0 16 ∧ iv1 a0 16 ≤ 2147483647 := W1.int t_a0 16
      have ie68 : iv1 a0 16 = iv a0 16 := by rw [pq1]; exact up2_j (by decide)
      refine c_lv (lv2 := [(4, .int (iI 0)), (0, .ref a0), (1, .int (iI i)), (2, .int (iI j)), (3, .int (iI n))]) [0, 1, 2, 3, 4] rfl ?_
      exact Lp1 203 0 _ (by omega) W1 F1  (by omega) (by show iv1 a0 11 = iv a0 11; omega) (by show iv1 a0 12 = iv a0 12; omega) (by show iv1 a0 13 = iv a0 13; omega) (by show iv1 a0 14 = iv a0 14; omega) (by show iv1 a0 16 = iv a0 16; omega)
    · refine c_aload_n (j := 0) (x := a0) C dX11_copyLines_17 rfl ?_
      refine c_iconst C dX11_copyLines_18 ?_
      refine d_callV (As := [.int (iI 5)]) (rest := []) C hM (C_refuse (a0 := a0) (x := 5) hW hS t_a0 ⟨by decide, by decide⟩ ) dX11_copyLines_19 kV_X11_102 rfl t_a0 rfl rfl (by decide) ck_12 rfl (Nat.le_of_ble_eq_true rfl) ⟨(Nat.le_of_ble_eq_true rfl), (Nat.le_of_ble_eq_true rfl)⟩ hph hph (show 0 + 0 = 0 from rfl) (by decide) (fun rh8 Lh8 clh8 lnh8 ivh8 rvh8 h8 => ?_)
      obtain ⟨f8, rfl, rfl, rfl, rfl, rfl, fl8, W10, rgf8, exf8, kp11f8, kp12f8, kp13f8, kp14f8, kp15f8, kp16f8⟩ := h8
      have ri58 : 1 ≤ iv a0 11 ∧ iv a0 11 ≤ 100 := hW.int t_a0 11
      have ri59 : 1 ≤ iv a0 12 ∧ iv a0 12 ≤ 50 := hW.int t_a0 12
      have ri60 : (-2147483648) ≤ iv a0 13 ∧ iv a0 13 ≤ 2147483647 := hW.int t_a0 13
      have ri61 : (-2147483648) ≤ iv a0 14 ∧ iv a0 14 ≤ 2147483647 := hW.int t_a0 14
      have ri62 : (-2147483648) ≤ iv a0 15 ∧ iv a0 15 ≤ 2147483647 := hW.int t_a0 15
      have ri63 : (-2147483648) ≤ iv a0 16 ∧ iv a0 16 ≤ 2147483647 := hW.int t_a0 16
      have F8 := hF0.call hX0 fl8 rfl
      refine c_st (st2 := [.int (iI f8)]) rfl ?_
      have gk11f8 : ivh8 a0 11 = iv a0 11 := kp11f8
      have gk12f8 : ivh8 a0 12 = iv a0 12 := kp12f8
      have gk13f8 : ivh8 a0 13 = iv a0 13 := kp13f8
      have gk14f8 : ivh8 a0 14 = iv a0 14 := kp14f8
      have gk15f8 : ivh8 a0 15 = iv a0 15 := kp15f8
      have gk16f8 : ivh8 a0 16 = iv a0 16 := kp16f8
      have gf8 : f8 = -1 := exf8
      have ri64 : 1 ≤ ivh8 a0 11 ∧ ivh8 a0 11 ≤ 100 := W10.int t_a0 11
      have ri65 : 1 ≤ ivh8 a0 12 ∧ ivh8 a0 12 ≤ 50 := W10.int t_a0 12
      have ri66 : (-2147483648) ≤ ivh8 a0 13 ∧ ivh8 a0 13 ≤ 2147483647 := W10.int t_a0 13
      have ri67 : (-2147483648) ≤ ivh8 a0 14 ∧ ivh8 a0 14 ≤ 2147483647 := W10.int t_a0 14
      have ri68 : (-2147483648) ≤ ivh8 a0 16 ∧ ivh8 a0 16 ≤ 2147483647 := W10.int t_a0 16
      exact c_iret C dX11_copyLines_22 rfl (by decide) (rom0 hph hph (by decide)) ⟨f8, rfl, rfl, rfl, rfl, rfl, F8, W10, ⟨by omega, by omega⟩, trivial, (by omega), (by omega), (by omega), (by omega), (by omega)⟩
  · refine c_aload_n (j := 0) (x := a0) C dX11_copyLines_6 rfl ?_
    refine c_bipush (z := 6) C dX11_copyLines_7 (by decide) ?_
    refine d_callV (As := [.int (iI 6)]) (rest := []) C hM (C_refuse (a0 := a0) (x := 6) hW hS t_a0 ⟨by decide, by decide⟩ ) dX11_copyLines_9 kV_X11_102 rfl t_a0 rfl rfl (by decide) ck_12 rfl (Nat.le_of_ble_eq_true rfl) ⟨(Nat.le_of_ble_eq_true rfl), (Nat.le_of_ble_eq_true rfl)⟩ hph hph (show 0 + 0 = 0 from rfl) (by decide) (fun rh9 Lh9 clh9 lnh9 ivh9 rvh9 h9 => ?_)
    obtain ⟨f9, rfl, rfl, rfl, rfl, rfl, fl9, W11, rgf9, exf9, kp11f9, kp12f9, kp13f9, kp14f9, kp15f9, kp16f9⟩ := h9
    have ri69 : 1 ≤ iv a0 11 ∧ iv a0 11 ≤ 100 := hW.int t_a0 11
    have ri70 : 1 ≤ iv a0 12 ∧ iv a0 12 ≤ 50 := hW.int t_a0 12
    have ri71 : (-2147483648) ≤ iv a0 13 ∧ iv a0 13 ≤ 2147483647 := hW.int t_a0 13
    have ri72 : (-2147483648) ≤ iv a0 14 ∧ iv a0 14 ≤ 2147483647 := hW.int t_a0 14
    have ri73 : (-2147483648) ≤ iv a0 15 ∧ iv a0 15 ≤ 2147483647 := hW.int t_a0 15
    have ri74 : (-2147483648) ≤ iv a0 16 ∧ iv a0 16 ≤ 2147483647 := hW.int t_a0 16
    have F9 := hF0.call hX0 fl9 rfl
    refine c_st (st2 := [.int (iI f9)]) rfl ?_
    have gk11f9 : ivh9 a0 11 = iv a0 11 := kp11f9
    have gk12f9 : ivh9 a0 12 = iv a0 12 := kp12f9
    have gk13f9 : ivh9 a0 13 = iv a0 13 := kp13f9
    have gk14f9 : ivh9 a0 14 = iv a0 14 := kp14f9
    have gk15f9 : ivh9 a0 15 = iv a0 15 := kp15f9
    have gk16f9 : ivh9 a0 16 = iv a0 16 := kp16f9
    have gf9 : f9 = -1 := exf9
    have ri75 : 1 ≤ ivh9 a0 11 ∧ ivh9 a0 11 ≤ 100 := W11.int t_a0 11
    have ri76 : 1 ≤ ivh9 a0 12 ∧ ivh9 a0 12 ≤ 50 := W11.int t_a0 12
    have ri77 : (-2147483648) ≤ ivh9 a0 13 ∧ ivh9 a0 13 ≤ 2147483647 := W11.int t_a0 13
    have ri78 : (-2147483648) ≤ ivh9 a0 14 ∧ ivh9 a0 14 ≤ 2147483647 := W11.int t_a0 14
    have ri79 : (-2147483648) ≤ ivh9 a0 16 ∧ ivh9 a0 16 ≤ 2147483647 := W11.int t_a0 16
    exact c_iret C dX11_copyLines_12 rfl (by decide) (rom0 hph hph (by decide)) ⟨f9, rfl, rfl, rfl, rfl, rfl, F9, W11, ⟨by omega, by omega⟩, trivial, (by omega), (by omega), (by omega), (by omega), (by omega)⟩
set_option maxHeartbeats 4000000 in
set_option maxRecDepth 100000 in
theorem C_emboss {l : Launch} {G : GT} {mi : Nat} {sk : Nat → Nat} {L : List Nat} {cl ln : Nat → Nat} {iv : Nat → Nat → Int} {rv : Nat → Nat → Option Nat}  {a0 : Nat} {i : Int} {n : Int} (hW : WT (g0 G) sk L cl ln iv rv) (hS : SKL sk L cl) (t_a0 : ty L cl a0 1) (h_i : -2147483648 ≤ i ∧ i ≤ 2147483647) (h_n : -2147483648 ≤ n ∧ n ≤ 2147483647)  : Mc l G mi (Phi (g0 G) sk) PHM yX11_emboss cX11_emboss 6 (some .int) 2 [.ref a0, .int (iI i), .int (iI n)] L cl ln iv rv 0 (fun v L2 cl2 ln2 iv2 rv2 => ∃ f : Int, v = some (.int (iI f)) ∧ L = L2 ∧ cl = cl2 ∧ ln = ln2 ∧ rv = rv2 ∧ fT [1] L cl iv rv iv2 rv2 ∧ WT (g0 G) sk L2 cl2 ln2 iv2 rv2 ∧ (-2147483648 ≤ f ∧ f ≤ 2147483647) ∧ (True) ∧ iv2 a0 11 = iv a0 11 ∧ iv2 a0 12 = iv a0 12 ∧ iv2 a0 13 = iv a0 13 ∧ iv2 a0 14 = iv a0 14 ∧ iv2 a0 15 = iv a0 15) := by
  refine Mc.mk (by decide) (Nat.le_of_ble_eq_true rfl) ?_
  intro p e s m args below meth c A C hM
  have hph := Phi.le hW hS
  have hX0 : XT L cl ln L cl ln := XT.refl
  have hF0 : fT [1] L cl iv rv iv rv := fT.refl
  refine c_iload_n (j := 2) C dX11_emboss_0 rfl ?_
  refine c_sipush (z := 200) C dX11_emboss_1 (by decide) ?_
  refine c_icmp_le (tgt := 14) C ⟨by omega, by omega⟩ ⟨by decide, by decide⟩ dX11_emboss_4 (by decide) (fun c1 => ?_) (fun c1 => ?_)
  · refine c_iload_n (j := 2) C dX11_emboss_14 rfl ?_
    refine c_if_ge (tgt := 24) C ⟨by omega, by omega⟩ dX11_emboss_15 (by decide) (fun c2 => ?_) (fun c2 => ?_)
    · refine c_iconst C dX11_emboss_24 ?_
      refine c_istore_n (lv2 := [(3, .int (iI 0)), (0, .ref a0), (1, .int (iI i)), (2, .int (iI n))]) C dX11_emboss_25 (by decide) rfl ?_
      refine c_iconst C dX11_emboss_26 ?_
      refine c_istore (lv2 := [(4, .int (iI 0)), (3, .int (iI 0)), (0, .ref a0), (1, .int (iI i)), (2, .int (iI n))]) C dX11_emboss_27 (by decide) rfl ?_
      have Lp1 : ∀ (nn : Nat) (s1 k : Int) (ivb1 : Nat → Nat → Int) , 201 - k < (nn : Int) → WT (g0 G) sk L cl ln ivb1 rv → fT [1] L cl iv rv ivb1 rv → (-2147483648 ≤ s1 ∧ s1 ≤ 2147483647) → (0 ≤ k ∧ k ≤ 200) → (ivb1 a0 11 = iv a0 11) → (ivb1 a0 12 = iv a0 12) → (ivb1 a0 13 = iv a0 13) → (ivb1 a0 14 = iv a0 14) → (ivb1 a0 15 = iv a0 15) → cw p l e 2 ((PHM) + 0 - ((Phi (g0 G) sk) ln rv)) s m args below meth c G A 6 (MQ below (Qu G A (Qp G (Phi (g0 G) sk) ((Phi (g0 G) sk) ln rv) 0 (fun v L2 cl2 ln2 iv2 rv2 => ∃ f : Int, v = some (.int (iI f)) ∧ L = L2 ∧ cl = cl2 ∧ ln = ln2 ∧ rv = rv2 ∧ fT [1] L cl iv rv iv2 rv2 ∧ WT (g0 G) sk L2 cl2 ln2 iv2 rv2 ∧ (-2147483648 ≤ f ∧ f ≤ 2147483647) ∧ (True) ∧ iv2 a0 11 = iv a0 11 ∧ iv2 a0 12 = iv a0 12 ∧ iv2 a0 13 = iv a0 13 ∧ iv2 a0 14 = iv a0 14 ∧ iv2 a0 15 = iv a0 15))) args s (((PHM) + 0 - ((Phi (g0 G) sk) ln rv)) / 16) ((PHM) + 0 - ((Phi (g0 G) sk) ln rv)) A) (Phi (g0 G) sk) ((Phi (g0 G) sk) ln rv) L cl ln ivb1 rv 0 29 [(3, .int (iI s1)), (4, .int (iI k)), (0, .ref a0), (1, .int (iI i)), (2, .int (iI n))] [] := by
        intro nn
        induction nn with
        | zero =>
          intro  s1 k ivb1 hm Wb1 Fb1  hs1 hk hkp11 hkp12 hkp13 hkp14 hkp15
          exact absurd hm (by omega)
        | succ nn ih1 =>
          intro  s1 k ivb1 hm Wb1 Fb1  hs1 hk hkp11 hkp12 hkp13 hkp14 hkp15
          refine c_iload (j := 1) C dX11_emboss_29 rfl ?_
          refine c_iload_n (j := 4) C dX11_emboss_31 rfl ?_
          refine c_icmp_ge (tgt := 121) C ⟨by omega, by omega⟩ ⟨by omega, by omega⟩ dX11_emboss_32 (by decide) (fun c3 => ?_) (fun c3 => ?_)
          · refine c_aload_n (j := 2) (x := a0) C dX11_emboss_121 rfl ?_
            refine c_iload_n (j := 0) C dX11_emboss_122 rfl ?_
            refine d_callV (As := [.int (iI s1)]) (rest := []) C hM (C_done (a0 := a0) (x := s1) Wb1 hS t_a0 (by omega) ) dX11_emboss_123 kV_X11_109 rfl t_a0 rfl rfl (by decide) ck_12 rfl (Nat.le_of_ble_eq_true rfl) ⟨(Nat.le_of_ble_eq_true rfl), (Nat.le_of_ble_eq_true rfl)⟩ hph hph (show 0 + 0 = 0 from rfl) (by decide) (fun rh1 Lh1 clh1 lnh1 ivh1 rvh1 h1 => ?_)
            obtain ⟨f1, rfl, rfl, rfl, rfl, rfl, fl1, W1, rgf1, exf1, kp11f1, kp12f1, kp13f1, kp14f1, kp15f1, kp16f1⟩ := h1
            have ri1 : 1 ≤ ivb1 a0 11 ∧ ivb1 a0 11 ≤ 100 := Wb1.int t_a0 11
            have ri2 : 1 ≤ ivb1 a0 12 ∧ ivb1 a0 12 ≤ 50 := Wb1.int t_a0 12
            have ri3 : (-2147483648) ≤ ivb1 a0 13 ∧ ivb1 a0 13 ≤ 2147483647 := Wb1.int t_a0 13
            have ri4 : (-2147483648) ≤ ivb1 a0 14 ∧ ivb1 a0 14 ≤ 2147483647 := Wb1.int t_a0 14
            have ri5 : (-2147483648) ≤ ivb1 a0 15 ∧ ivb1 a0 15 ≤ 2147483647 := Wb1.int t_a0 15
            have ri6 : (-2147483648) ≤ ivb1 a0 16 ∧ ivb1 a0 16 ≤ 2147483647 := Wb1.int t_a0 16
            have F1 := Fb1.call hX0 fl1 rfl
            refine c_st (st2 := [.int (iI f1)]) rfl ?_
            have gk11f1 : ivh1 a0 11 = ivb1 a0 11 := kp11f1
            have gk12f1 : ivh1 a0 12 = ivb1 a0 12 := kp12f1
            have gk13f1 : ivh1 a0 13 = ivb1 a0 13 := kp13f1
            have gk14f1 : ivh1 a0 14 = ivb1 a0 14 := kp14f1
            have gk15f1 : ivh1 a0 15 = ivb1 a0 15 := kp15f1
            have gk16f1 : ivh1 a0 16 = ivb1 a0 16 := kp16f1
            have gf1 : f1 = s1 := exf1
            have ri7 : 1 ≤ ivh1 a0 11 ∧ ivh1 a0 11 ≤ 100 := W1.int t_a0 11
            have ri8 : 1 ≤ ivh1 a0 12 ∧ ivh1 a0 12 ≤ 50 := W1.int t_a0 12
            have ri9 : (-2147483648) ≤ ivh1 a0 13 ∧ ivh1 a0 13 ≤ 2147483647 := W1.int t_a0 13
            have ri10 : (-2147483648) ≤ ivh1 a0 14 ∧ ivh1 a0 14 ≤ 2147483647 := W1.int t_a0 14
            have ri11 : (-2147483648) ≤ ivh1 a0 15 ∧ ivh1 a0 15 ≤ 2147483647 := W1.int t_a0 15
            exact c_iret C dX11_emboss_126 rfl (by decide) (rom0 hph hph (by decide)) ⟨f1, rfl, rfl, rfl, rfl, rfl, F1, W1, ⟨by omega, by omega⟩, trivial, (by omega), (by omega), (by omega), (by omega), (by omega)⟩
          · refine c_aload_n (j := 2) (x := a0) C dX11_emboss_35 rfl ?_
            refine c_dup C dX11_emboss_36 rfl ?_
            have ri12 : (-2147483648) ≤ ivb1 a0 16 ∧ ivb1 a0 16 ≤ 2147483647 := Wb1.int t_a0 16
            refine c_get (k := 16) C ck_12 dX11_emboss_37 w2_60 (by decide) t_a0 rfl rfl (by decide) rfl ?_
            refine c_iconst C dX11_emboss_40 ?_
            refine c_iadd C dX11_emboss_41 ?_
            obtain ⟨zz1, hzz1, ezz1⟩ := iI_of (iI ((ivb1 a0 16) + 1))
            refine c_st (st2 := [.int (iI zz1), .ref a0]) (by rw [ezz1]) ?_
            refine c_put (z := zz1) (k := 16) C ck_12 dX11_emboss_42 w2_60 (by decide) rfl t_a0 rfl rfl (by decide) rfl (by rfl) (by rfl) (fun iv1 pq1 => ?_)
            have W2 := Wb1.puti pq1 t_a0 (show (-2147483648) ≤ zz1 ∧ zz1 ≤ 2147483647 by omega) rfl
            have F2 := Fb1.puti hX0 pq1 t_a0 rfl
            refine c_aload_n (j := 2) (x := a0) C dX11_emboss_45 rfl ?_
            obtain ⟨rb1, rq1, trb1⟩ := W2.ref t_a0 9 rfl rfl rfl
            refine c_getr (k := 9) C ck_12 dX11_emboss_46 w2_53 (by decide) t_a0 rfl rfl (by decide) rfl rq1 ?_
            refine c_st (st2 := [.ref rb1]) rfl ?_
            refine c_iload_n (j := 3) C dX11_emboss_49 rfl ?_
            refine c_iload (j := 1) C dX11_emboss_50 rfl ?_
            refine c_iadd C dX11_emboss_52 ?_
            obtain ⟨zz2, hzz2, ezz2⟩ := iI_of (iI (i + k))
            refine c_st (st2 := [.int (iI zz2), .ref rb1]) (by rw [ezz2]) ?_
            have ri13 : 0 ≤ iv1 rb1 1 ∧ iv1 rb1 1 ≤ 200 := W2.int trb1 1
            have ie13 : iv1 rb1 1 = ivb1 rb1 1 := by rw [pq1]; exact up2_k (ne_ty trb1 t_a0 (by decide))
            have ie14 : ivb1 rb1 1 = iv rb1 1 := Fb1.i trb1 rfl 1
            refine d_callV (As := [.int (iI zz2)]) (rest := []) C hM (C_sat (a0 := rb1) (i := zz2) W2 hS trb1 (by omega) ) dX11_emboss_53 kV_X11_308 rfl trb1 rfl rfl (by decide) ck_8 rfl (Nat.le_of_ble_eq_true rfl) ⟨(Nat.le_of_ble_eq_true rfl), (Nat.le_of_ble_eq_true rfl)⟩ hph hph (show 0 + 0 = 0 from rfl) (by decide) (fun rh2 Lh2 clh2 lnh2 ivh2 rvh2 h2 => ?_)
            obtain ⟨f2, rfl, rfl, rfl, rfl, rfl, rfl, rgf2, exf2⟩ := h2
            refine c_st (st2 := [(va_rf f2)]) rfl ?_
            have gf2 : f2 = none ∨ (0 ≤ zz2 ∧ zz2 < iv1 rb1 1) := exf2
            refine c_astorer (r := f2) (lv2 := [(5, (va_rf f2)), (3, .int (iI s1)), (4, .int (iI k)), (0, .ref a0), (1, .int (iI i)), (2, .int (iI n))]) C dX11_emboss_56 (by decide) rfl ?_
            refine c_aloadr (j := 0) (r := f2) C dX11_emboss_58 rfl ?_
            refine c_ifnonnull (r := f2) (tgt := 69) C dX11_emboss_60 (by decide) (fun ob1 oq1 => ?_) (fun oq1 => ?_)
            · subst oq1
              have tob1 := rgf2 ob1 rfl
              refine c_lv (lv2 := [(5, .ref ob1), (3, .int (iI s1)), (4, .int (iI k)), (0, .ref a0), (1, .int (iI i)), (2, .int (iI n))]) [0, 1, 2, 3, 4, 5] rfl ?_
              refine c_st (st2 := []) rfl ?_
              refine c_aload (j := 0) (x := ob1) C dX11_emboss_69 rfl ?_
              have ri14 : 0 ≤ iv1 ob1 2 ∧ iv1 ob1 2 ≤ 1 := W2.int tob1 2
              have ie15 : iv1 ob1 2 = ivb1 ob1 2 := by rw [pq1]; exact up2_k (ne_ty tob1 t_a0 (by decide))
              have ie16 : ivb1 ob1 2 = iv ob1 2 := Fb1.i tob1 rfl 2
              refine c_get (k := 2) C ck_3 dX11_emboss_71 w4_56 (by decide) tob1 rfl rfl (by decide) rfl ?_
              refine c_if_ne (tgt := 95) C ⟨by omega, by omega⟩ dX11_emboss_74 (by decide) (fun c4 => ?_) (fun c4 => ?_)
              · refine c_iload_n (j := 1) C dX11_emboss_95 rfl ?_
                refine c_aload (j := 0) (x := ob1) C dX11_emboss_96 rfl ?_
                refine c_get (k := 2) C ck_3 dX11_emboss_98 w4_56 (by decide) tob1 rfl rfl (by decide) rfl ?_
                refine c_if_eq (tgt := 108) C ⟨by omega, by omega⟩ dX11_emboss_101 (by decide) (fun c5 => ?_) (fun c5 => ?_)
                · refine c_aload (j := 0) (x := ob1) C dX11_emboss_108 rfl ?_
                  refine d_callV (As := []) (rest := [.int (iI s1)]) C hM (C_dots (a0 := ob1) W2 hS tob1  ) dX11_emboss_110 kV_X11_326 rfl tob1 rfl rfl (by decide) ck_3 rfl (Nat.le_of_ble_eq_true rfl) ⟨(Nat.le_of_ble_eq_true rfl), (Nat.le_of_ble_eq_true rfl)⟩ hph hph (show 0 + 0 = 0 from rfl) (by decide) (fun rh3 Lh3 clh3 lnh3 ivh3 rvh3 h3 => ?_)
                  obtain ⟨f3, rfl, rfl, rfl, rfl, rfl, rfl, rgf3, exf3⟩ := h3
                  refine c_st (st2 := [.int (iI f3), .int (iI s1)]) rfl ?_
                  refine c_iadd C dX11_emboss_113 ?_
                  obtain ⟨zz3, hzz3, ezz3⟩ := iI_of (iI (s1 + f3))
                  refine c_st (st2 := [.int (iI zz3)]) (by rw [ezz3]) ?_
                  refine c_istore_n (lv2 := [(3, .int (iI zz3)), (5, .ref ob1), (4, .int (iI k)), (0, .ref a0), (1, .int (iI i)), (2, .int (iI n))]) C dX11_emboss_114 (by decide) rfl ?_
                  refine c_iinc (z := k) (j := 2) (lv2 := [(4, .int (iI (k + 1))), (3, .int (iI zz3)), (5, .ref ob1), (0, .ref a0), (1, .int (iI i)), (2, .int (iI n))]) C dX11_emboss_115 rfl (by decide) rfl ?_
                  refine c_goto (tgt := 29) C dX11_emboss_118 (by decide) ?_
                  have ri15 : 1 ≤ iv1 a0 11 ∧ iv1 a0 11 ≤ 100 := W2.int t_a0 11
                  have ie17 : iv1 a0 11 = ivb1 a0 11 := by rw [pq1]; exact up2_j (by decide)
                  have ri16 : 1 ≤ iv1 a0 12 ∧ iv1 a0 12 ≤ 50 := W2.int t_a0 12
                  have ie19 : iv1 a0 12 = ivb1 a0 12 := by rw [pq1]; exact up2_j (by decide)
                  have ri17 : (-2147483648) ≤ iv1 a0 13 ∧ iv1 a0 13 ≤ 2147483647 := W2.int t_a0 13
                  have ie21 : iv1 a0 13 = ivb1 a0 13 := by rw [pq1]; exact up2_j (by decide)
                  have ri18 : (-2147483648) ≤ iv1 a0 14 ∧ iv1 a0 14 ≤ 2147483647 := W2.int t_a0 14
                  have ie23 : iv1 a0 14 = ivb1 a0 14 := by rw [pq1]; exact up2_j (by decide)
                  have ri19 : (-2147483648) ≤ iv1 a0 15 ∧ iv1 a0 15 ≤ 2147483647 := W2.int t_a0 15
                  have ie25 : iv1 a0 15 = ivb1 a0 15 := by rw [pq1]; exact up2_j (by decide)
                  refine c_lv (lv2 := [(3, .int (iI zz3)), (4, .int (iI (k + 1))), (0, .ref a0), (1, .int (iI i)), (2, .int (iI n))]) [1, 0, 3, 4, 5] rfl ?_
                  exact ih1  zz3 (k + 1) _ (by omega) W2 F2  (by omega) (by omega) (by show iv1 a0 11 = iv a0 11; omega) (by show iv1 a0 12 = iv a0 12; omega) (by show iv1 a0 13 = iv a0 13; omega) (by show iv1 a0 14 = iv a0 14; omega) (by show iv1 a0 15 = iv a0 15; omega)
                · refine c_iconst C dX11_emboss_104 ?_
                  refine c_goto (tgt := 113) C dX11_emboss_105 (by decide) ?_
                  refine c_iadd C dX11_emboss_113 ?_
                  obtain ⟨zz4, hzz4, ezz4⟩ := iI_of (iI (s1 + 0))
                  refine c_st (st2 := [.int (iI zz4)]) (by rw [ezz4]) ?_
                  refine c_istore_n (lv2 := [(3, .int (iI zz4)), (5, .ref ob1), (4, .int (iI k)), (0, .ref a0), (1, .int (iI i)), (2, .int (iI n))]) C dX11_emboss_114 (by decide) rfl ?_
                  refine c_iinc (z := k) (j := 2) (lv2 := [(4, .int (iI (k + 1))), (3, .int (iI zz4)), (5, .ref ob1), (0, .ref a0), (1, .int (iI i)), (2, .int (iI n))]) C dX11_emboss_115 rfl (by decide) rfl ?_
                  refine c_goto (tgt := 29) C dX11_emboss_118 (by decide) ?_
                  have ri20 : 1 ≤ iv1 a0 11 ∧ iv1 a0 11 ≤ 100 := W2.int t_a0 11
                  have ie27 : iv1 a0 11 = ivb1 a0 11 := by rw [pq1]; exact up2_j (by decide)
                  have ri21 : 1 ≤ iv1 a0 12 ∧ iv1 a0 12 ≤ 50 := W2.int t_a0 12
                  have ie29 : iv1 a0 12 = ivb1 a0 12 := by rw [pq1]; exact up2_j (by decide)
                  have ri22 : (-2147483648) ≤ iv1 a0 13 ∧ iv1 a0 13 ≤ 2147483647 := W2.int t_a0 13
                  have ie31 : iv1 a0 13 = ivb1 a0 13 := by rw [pq1]; exact up2_j (by decide)
                  have ri23 : (-2147483648) ≤ iv1 a0 14 ∧ iv1 a0 14 ≤ 2147483647 := W2.int t_a0 14
                  have ie33 : iv1 a0 14 = ivb1 a0 14 := by rw [pq1]; exact up2_j (by decide)
                  have ri24 : (-2147483648) ≤ iv1 a0 15 ∧ iv1 a0 15 ≤ 2147483647 := W2.int t_a0 15
                  have ie35 : iv1 a0 15 = ivb1 a0 15 := by rw [pq1]; exact up2_j (by decide)
                  refine c_lv (lv2 := [(3, .int (iI zz4)), (4, .int (iI (k + 1))), (0, .ref a0), (1, .int (iI i)), (2, .int (iI n))]) [1, 0, 3, 4, 5] rfl ?_
                  exact ih1  zz4 (k + 1) _ (by omega) W2 F2  (by omega) (by omega) (by show iv1 a0 11 = iv a0 11; omega) (by show iv1 a0 12 = iv a0 12; omega) (by show iv1 a0 13 = iv a0 13; omega) (by show iv1 a0 14 = iv a0 14; omega) (by show iv1 a0 15 = iv a0 15; omega)
              · refine c_aload (j := 0) (x := ob1) C dX11_emboss_77 rfl ?_
                have ri25 : 0 ≤ iv1 ob1 1 ∧ iv1 ob1 1 ≤ 200 := W2.int tob1 1
                have ie37 : iv1 ob1 1 = ivb1 ob1 1 := by rw [pq1]; exact up2_k (ne_ty tob1 t_a0 (by decide))
                have ie38 : ivb1 ob1 1 = iv ob1 1 := Fb1.i tob1 rfl 1
                refine c_get (k := 1) C ck_3 dX11_emboss_79 w4_53 (by decide) tob1 rfl rfl (by decide) rfl ?_
                refine c_aload_n (j := 3) (x := a0) C dX11_emboss_82 rfl ?_
                have ri26 : 1 ≤ iv1 a0 11 ∧ iv1 a0 11 ≤ 100 := W2.int t_a0 11
                have ie39 : iv1 a0 11 = ivb1 a0 11 := by rw [pq1]; exact up2_j (by decide)
                refine c_get (k := 11) C ck_12 dX11_emboss_83 w2_55 (by decide) t_a0 rfl rfl (by decide) rfl ?_
                refine c_icmp_le (tgt := 95) C ⟨by omega, by omega⟩ ⟨by omega, by omega⟩ dX11_emboss_86 (by decide) (fun c6 => ?_) (fun c6 => ?_)
                · refine c_iload_n (j := 1) C dX11_emboss_95 rfl ?_
                  refine c_aload (j := 0) (x := ob1) C dX11_emboss_96 rfl ?_
                  refine c_get (k := 2) C ck_3 dX11_emboss_98 w4_56 (by decide) tob1 rfl rfl (by decide) rfl ?_
                  refine c_if_eq (tgt := 108) C ⟨by omega, by omega⟩ dX11_emboss_101 (by decide) (fun c7 => ?_) (fun c7 => ?_)
                  · refine c_aload (j := 0) (x := ob1) C dX11_emboss_108 rfl ?_
                    refine d_callV (As := []) (rest := [.int (iI s1)]) C hM (C_dots (a0 := ob1) W2 hS tob1  ) dX11_emboss_110 kV_X11_326 rfl tob1 rfl rfl (by decide) ck_3 rfl (Nat.le_of_ble_eq_true rfl) ⟨(Nat.le_of_ble_eq_true rfl), (Nat.le_of_ble_eq_true rfl)⟩ hph hph (show 0 + 0 = 0 from rfl) (by decide) (fun rh4 Lh4 clh4 lnh4 ivh4 rvh4 h4 => ?_)
                    obtain ⟨f4, rfl, rfl, rfl, rfl, rfl, rfl, rgf4, exf4⟩ := h4
                    refine c_st (st2 := [.int (iI f4), .int (iI s1)]) rfl ?_
                    refine c_iadd C dX11_emboss_113 ?_
                    obtain ⟨zz5, hzz5, ezz5⟩ := iI_of (iI (s1 + f4))
                    refine c_st (st2 := [.int (iI zz5)]) (by rw [ezz5]) ?_
                    refine c_istore_n (lv2 := [(3, .int (iI zz5)), (5, .ref ob1), (4, .int (iI k)), (0, .ref a0), (1, .int (iI i)), (2, .int (iI n))]) C dX11_emboss_114 (by decide) rfl ?_
                    refine c_iinc (z := k) (j := 2) (lv2 := [(4, .int (iI (k + 1))), (3, .int (iI zz5)), (5, .ref ob1), (0, .ref a0), (1, .int (iI i)), (2, .int (iI n))]) C dX11_emboss_115 rfl (by decide) rfl ?_
                    refine c_goto (tgt := 29) C dX11_emboss_118 (by decide) ?_
                    have ri27 : 1 ≤ iv1 a0 12 ∧ iv1 a0 12 ≤ 50 := W2.int t_a0 12
                    have ie41 : iv1 a0 12 = ivb1 a0 12 := by rw [pq1]; exact up2_j (by decide)
                    have ri28 : (-2147483648) ≤ iv1 a0 13 ∧ iv1 a0 13 ≤ 2147483647 := W2.int t_a0 13
                    have ie43 : iv1 a0 13 = ivb1 a0 13 := by rw [pq1]; exact up2_j (by decide)
                    have ri29 : (-2147483648) ≤ iv1 a0 14 ∧ iv1 a0 14 ≤ 2147483647 := W2.int t_a0 14
                    have ie45 : iv1 a0 14 = ivb1 a0 14 := by rw [pq1]; exact up2_j (by decide)
                    have ri30 : (-2147483648) ≤ iv1 a0 15 ∧ iv1 a0 15 ≤ 2147483647 := W2.int t_a0 15
                    have ie47 : iv1 a0 15 = ivb1 a0 15 := by rw [pq1]; exact up2_j (by decide)
                    refine c_lv (lv2 := [(3, .int (iI zz5)), (4, .int (iI (k + 1))), (0, .ref a0), (1, .int (iI i)), (2, .int (iI n))]) [1, 0, 3, 4, 5] rfl ?_
                    exact ih1  zz5 (k + 1) _ (by omega) W2 F2  (by omega) (by omega) (by show iv1 a0 11 = iv a0 11; omega) (by show iv1 a0 12 = iv a0 12; omega) (by show iv1 a0 13 = iv a0 13; omega) (by show iv1 a0 14 = iv a0 14; omega) (by show iv1 a0 15 = iv a0 15; omega)
                  · refine c_iconst C dX11_emboss_104 ?_
                    refine c_goto (tgt := 113) C dX11_emboss_105 (by decide) ?_
                    refine c_iadd C dX11_emboss_113 ?_
                    obtain ⟨zz6, hzz6, ezz6⟩ := iI_of (iI (s1 + 0))
                    refine c_st (st2 := [.int (iI zz6)]) (by rw [ezz6]) ?_
                    refine c_istore_n (lv2 := [(3, .int (iI zz6)), (5, .ref ob1), (4, .int (iI k)), (0, .ref a0), (1, .int (iI i)), (2, .int (iI n))]) C dX11_emboss_114 (by decide) rfl ?_
                    refine c_iinc (z := k) (j := 2) (lv2 := [(4, .int (iI (k + 1))), (3, .int (iI zz6)), (5, .ref ob1), (0, .ref a0), (1, .int (iI i)), (2, .int (iI n))]) C dX11_emboss_115 rfl (by decide) rfl ?_
                    refine c_goto (tgt := 29) C dX11_emboss_118 (by decide) ?_
                    have ri31 : 1 ≤ iv1 a0 12 ∧ iv1 a0 12 ≤ 50 := W2.int t_a0 12
                    have ie49 : iv1 a0 12 = ivb1 a0 12 := by rw [pq1]; exact up2_j (by decide)
                    have ri32 : (-2147483648) ≤ iv1 a0 13 ∧ iv1 a0 13 ≤ 2147483647 := W2.int t_a0 13
                    have ie51 : iv1 a0 13 = ivb1 a0 13 := by rw [pq1]; exact up2_j (by decide)
                    have ri33 : (-2147483648) ≤ iv1 a0 14 ∧ iv1 a0 14 ≤ 2147483647 := W2.int t_a0 14
                    have ie53 : iv1 a0 14 = ivb1 a0 14 := by rw [pq1]; exact up2_j (by decide)
                    have ri34 : (-2147483648) ≤ iv1 a0 15 ∧ iv1 a0 15 ≤ 2147483647 := W2.int t_a0 15
                    have ie55 : iv1 a0 15 = ivb1 a0 15 := by rw [pq1]; exact up2_j (by decide)
                    refine c_lv (lv2 := [(3, .int (iI zz6)), (4, .int (iI (k + 1))), (0, .ref a0), (1, .int (iI i)), (2, .int (iI n))]) [1, 0, 3, 4, 5] rfl ?_
                    exact ih1  zz6 (k + 1) _ (by omega) W2 F2  (by omega) (by omega) (by show iv1 a0 11 = iv a0 11; omega) (by show iv1 a0 12 = iv a0 12; omega) (by show iv1 a0 13 = iv a0 13; omega) (by show iv1 a0 14 = iv a0 14; omega) (by show iv1 a0 15 = iv a0 15; omega)
                · refine c_aload_n (j := 3) (x := a0) C dX11_emboss_89 rfl ?_
                  refine c_iload_n (j := 1) C dX11_emboss_90 rfl ?_
                  refine d_callV (As := [.int (iI s1)]) (rest := []) C hM (C_done (a0 := a0) (x := s1) W2 hS t_a0 (by omega) ) dX11_emboss_91 kV_X11_109 rfl t_a0 rfl rfl (by decide) ck_12 rfl (Nat.le_of_ble_eq_true rfl) ⟨(Nat.le_of_ble_eq_true rfl), (Nat.le_of_ble_eq_true rfl)⟩ hph hph (show 0 + 0 = 0 from rfl) (by decide) (fun rh5 Lh5 clh5 lnh5 ivh5 rvh5 h5 => ?_)
                  obtain ⟨f5, rfl, rfl, rfl, rfl, rfl, fl5, W6, rgf5, exf5, kp11f5, kp12f5, kp13f5, kp14f5, kp15f5, kp16f5⟩ := h5
                  have ri35 : 1 ≤ iv1 a0 12 ∧ iv1 a0 12 ≤ 50 := W2.int t_a0 12
                  have ie57 : iv1 a0 12 = ivb1 a0 12 := by rw [pq1]; exact up2_j (by decide)
                  have ri36 : (-2147483648) ≤ iv1 a0 13 ∧ iv1 a0 13 ≤ 2147483647 := W2.int t_a0 13
                  have ie59 : iv1 a0 13 = ivb1 a0 13 := by rw [pq1]; exact up2_j (by decide)
                  have ri37 : (-2147483648) ≤ iv1 a0 14 ∧ iv1 a0 14 ≤ 2147483647 := W2.int t_a0 14
                  have ie61 : iv1 a0 14 = ivb1 a0 14 := by rw [pq1]; exact up2_j (by decide)
                  have ri38 : (-2147483648) ≤ iv1 a0 15 ∧ iv1 a0 15 ≤ 2147483647 := W2.int t_a0 15
                  have ie63 : iv1 a0 15 = ivb1 a0 15 := by rw [pq1]; exact up2_j (by decide)
                  have ri39 : (-2147483648) ≤ iv1 a0 16 ∧ iv1 a0 16 ≤ 2147483647 := W2.int t_a0 16
                  have ie65 : iv1 a0 16 = zz1 := by rw [pq1]; exact up2_s
                  have F3 := F2.call hX0 fl5 rfl
                  refine c_st (st2 := [.int (iI f5)]) rfl ?_
                  have gk11f5 : ivh5 a0 11 = iv1 a0 11 := kp11f5
                  have gk12f5 : ivh5 a0 12 = iv1 a0 12 := kp12f5
                  have gk13f5 : ivh5 a0 13 = iv1 a0 13 := kp13f5
                  have gk14f5 : ivh5 a0 14 = iv1 a0 14 := kp14f5
                  have gk15f5 : ivh5 a0 15 = iv1 a0 15 := kp15f5
                  have gk16f5 : ivh5 a0 16 = iv1 a0 16 := kp16f5
                  have gf5 : f5 = s1 := exf5
                  have ri40 : 1 ≤ ivh5 a0 11 ∧ ivh5 a0 11 ≤ 100 := W6.int t_a0 11
                  have ri41 : 1 ≤ ivh5 a0 12 ∧ ivh5 a0 12 ≤ 50 := W6.int t_a0 12
                  have ri42 : (-2147483648) ≤ ivh5 a0 13 ∧ ivh5 a0 13 ≤ 2147483647 := W6.int t_a0 13
                  have ri43 : (-2147483648) ≤ ivh5 a0 14 ∧ ivh5 a0 14 ≤ 2147483647 := W6.int t_a0 14
                  have ri44 : (-2147483648) ≤ ivh5 a0 15 ∧ ivh5 a0 15 ≤ 2147483647 := W6.int t_a0 15
                  exact c_iret C dX11_emboss_94 rfl (by decide) (rom0 hph hph (by decide)) ⟨f5, rfl, rfl, rfl, rfl, rfl, F3, W6, ⟨by omega, by omega⟩, trivial, (by omega), (by omega), (by omega), (by omega), (by omega)⟩
            · subst oq1
              refine c_lv (lv2 := [(5, .null), (3, .int (iI s1)), (4, .int (iI k)), (0, .ref a0), (1, .int (iI i)), (2, .int (iI n))]) [0, 1, 2, 3, 4, 5] rfl ?_
              refine c_st (st2 := []) rfl ?_
              refine c_aload_n (j := 3) (x := a0) C dX11_emboss_63 rfl ?_
              refine c_iconst C dX11_emboss_64 ?_
              refine d_callV (As := [.int (iI 2)]) (rest := []) C hM (C_refuse (a0 := a0) (x := 2) W2 hS t_a0 ⟨by decide, by decide⟩ ) dX11_emboss_65 kV_X11_102 rfl t_a0 rfl rfl (by decide) ck_12 rfl (Nat.le_of_ble_eq_true rfl) ⟨(Nat.le_of_ble_eq_true rfl), (Nat.le_of_ble_eq_true rfl)⟩ hph hph (show 0 + 0 = 0 from rfl) (by decide) (fun rh6 Lh6 clh6 lnh6 ivh6 rvh6 h6 => ?_)
              obtain ⟨f6, rfl, rfl, rfl, rfl, rfl, fl6, W7, rgf6, exf6, kp11f6, kp12f6, kp13f6, kp14f6, kp15f6, kp16f6⟩ := h6
              have ri45 : 1 ≤ iv1 a0 11 ∧ iv1 a0 11 ≤ 100 := W2.int t_a0 11
              have ie71 : iv1 a0 11 = ivb1 a0 11 := by rw [pq1]; exact up2_j (by decide)
              have ri46 : 1 ≤ iv1 a0 12 ∧ iv1 a0 12 ≤ 50 := W2.int t_a0 12
              have ie73 : iv1 a0 12 = ivb1 a0 12 := by rw [pq1]; exact up2_j (by decide)
              have ri47 : (-2147483648) ≤ iv1 a0 13 ∧ iv1 a0 13 ≤ 2147483647 := W2.int t_a0 13
              have ie75 : iv1 a0 13 = ivb1 a0 13 := by rw [pq1]; exact up2_j (by decide)
              have ri48 : (-2147483648) ≤ iv1 a0 14 ∧ iv1 a0 14 ≤ 2147483647 := W2.int t_a0 14
              have ie77 : iv1 a0 14 = ivb1 a0 14 := by rw [pq1]; exact up2_j (by decide)
              have ri49 : (-2147483648) ≤ iv1 a0 15 ∧ iv1 a0 15 ≤ 2147483647 := W2.int t_a0 15
              have ie79 : iv1 a0 15 = ivb1 a0 15 := by rw [pq1]; exact up2_j (by decide)
              have ri50 : (-2147483648) ≤ iv1 a0 16 ∧ iv1 a0 16 ≤ 2147483647 := W2.int t_a0 16
              have ie81 : iv1 a0 16 = zz1 := by rw [pq1]; exact up2_s
              have F4 := F2.call hX0 fl6 rfl
              refine c_st (st2 := [.int (iI f6)]) rfl ?_
              have gk11f6 : ivh6 a0 11 = iv1 a0 11 := kp11f6
              have gk12f6 : ivh6 a0 12 = iv1 a0 12 := kp12f6
              have gk13f6 : ivh6 a0 13 = iv1 a0 13 := kp13f6
              have gk14f6 : ivh6 a0 14 = iv1 a0 14 := kp14f6
              have gk15f6 : ivh6 a0 15 = iv1 a0 15 := kp15f6
              have gk16f6 : ivh6 a0 16 = iv1 a0 16 := kp16f6
              have gf6 : f6 = -1 := exf6
              have ri51 : 1 ≤ ivh6 a0 11 ∧ ivh6 a0 11 ≤ 100 := W7.int t_a0 11
              have ri52 : 1 ≤ ivh6 a0 12 ∧ ivh6 a0 12 ≤ 50 := W7.int t_a0 12
              have ri53 : (-2147483648) ≤ ivh6 a0 13 ∧ ivh6 a0 13 ≤ 2147483647 := W7.int t_a0 13
              have ri54 : (-2147483648) ≤ ivh6 a0 14 ∧ ivh6 a0 14 ≤ 2147483647 := W7.int t_a0 14
              have ri55 : (-2147483648) ≤ ivh6 a0 15 ∧ ivh6 a0 15 ≤ 2147483647 := W7.int t_a0 15
              exact c_iret C dX11_emboss_68 rfl (by decide) (rom0 hph hph (by decide)) ⟨f6, rfl, rfl, rfl, rfl, rfl, F4, W7, ⟨by omega, by omega⟩, trivial, (by omega), (by omega), (by omega), (by omega), (by omega)⟩
      have ri56 : 1 ≤ iv a0 11 ∧ iv a0 11 ≤ 100 := hW.int t_a0 11
      have ri57 : 1 ≤ iv a0 12 ∧ iv a0 12 ≤ 50 := hW.int t_a0 12
      have ri58 : (-2147483648) ≤ iv a0 13 ∧ iv a0 13 ≤ 2147483647 := hW.int t_a0 13
      have ri59 : (-2147483648) ≤ iv a0 14 ∧ iv a0 14 ≤ 2147483647 := hW.int t_a0 14
      have ri60 : (-2147483648) ≤ iv a0 15 ∧ iv a0 15 ≤ 2147483647 := hW.int t_a0 15
      refine c_lv (lv2 := [(3, .int (iI 0)), (4, .int (iI 0)), (0, .ref a0), (1, .int (iI i)), (2, .int (iI n))]) [1, 0, 2, 3, 4] rfl ?_
      exact Lp1 203 0 0 _ (by omega) hW hF0  (by omega) (by omega) (by show iv a0 11 = iv a0 11; omega) (by show iv a0 12 = iv a0 12; omega) (by show iv a0 13 = iv a0 13; omega) (by show iv a0 14 = iv a0 14; omega) (by show iv a0 15 = iv a0 15; omega)
    · refine c_aload_n (j := 0) (x := a0) C dX11_emboss_18 rfl ?_
      refine c_iconst C dX11_emboss_19 ?_
      refine d_callV (As := [.int (iI 5)]) (rest := []) C hM (C_refuse (a0 := a0) (x := 5) hW hS t_a0 ⟨by decide, by decide⟩ ) dX11_emboss_20 kV_X11_102 rfl t_a0 rfl rfl (by decide) ck_12 rfl (Nat.le_of_ble_eq_true rfl) ⟨(Nat.le_of_ble_eq_true rfl), (Nat.le_of_ble_eq_true rfl)⟩ hph hph (show 0 + 0 = 0 from rfl) (by decide) (fun rh7 Lh7 clh7 lnh7 ivh7 rvh7 h7 => ?_)
      obtain ⟨f7, rfl, rfl, rfl, rfl, rfl, fl7, W8, rgf7, exf7, kp11f7, kp12f7, kp13f7, kp14f7, kp15f7, kp16f7⟩ := h7
      have ri61 : 1 ≤ iv a0 11 ∧ iv a0 11 ≤ 100 := hW.int t_a0 11
      have ri62 : 1 ≤ iv a0 12 ∧ iv a0 12 ≤ 50 := hW.int t_a0 12
      have ri63 : (-2147483648) ≤ iv a0 13 ∧ iv a0 13 ≤ 2147483647 := hW.int t_a0 13
      have ri64 : (-2147483648) ≤ iv a0 14 ∧ iv a0 14 ≤ 2147483647 := hW.int t_a0 14
      have ri65 : (-2147483648) ≤ iv a0 15 ∧ iv a0 15 ≤ 2147483647 := hW.int t_a0 15
      have ri66 : (-2147483648) ≤ iv a0 16 ∧ iv a0 16 ≤ 2147483647 := hW.int t_a0 16
      have F5 := hF0.call hX0 fl7 rfl
      refine c_st (st2 := [.int (iI f7)]) rfl ?_
      have gk11f7 : ivh7 a0 11 = iv a0 11 := kp11f7
      have gk12f7 : ivh7 a0 12 = iv a0 12 := kp12f7
      have gk13f7 : ivh7 a0 13 = iv a0 13 := kp13f7
      have gk14f7 : ivh7 a0 14 = iv a0 14 := kp14f7
      have gk15f7 : ivh7 a0 15 = iv a0 15 := kp15f7
      have gk16f7 : ivh7 a0 16 = iv a0 16 := kp16f7
      have gf7 : f7 = -1 := exf7
      have ri67 : 1 ≤ ivh7 a0 11 ∧ ivh7 a0 11 ≤ 100 := W8.int t_a0 11
      have ri68 : 1 ≤ ivh7 a0 12 ∧ ivh7 a0 12 ≤ 50 := W8.int t_a0 12
      have ri69 : (-2147483648) ≤ ivh7 a0 13 ∧ ivh7 a0 13 ≤ 2147483647 := W8.int t_a0 13
      have ri70 : (-2147483648) ≤ ivh7 a0 14 ∧ ivh7 a0 14 ≤ 2147483647 := W8.int t_a0 14
      have ri71 : (-2147483648) ≤ ivh7 a0 15 ∧ ivh7 a0 15 ≤ 2147483647 := W8.int t_a0 15
      exact c_iret C dX11_emboss_23 rfl (by decide) (rom0 hph hph (by decide)) ⟨f7, rfl, rfl, rfl, rfl, rfl, F5, W8, ⟨by omega, by omega⟩, trivial, (by omega), (by omega), (by omega), (by omega), (by omega)⟩
  · refine c_aload_n (j := 0) (x := a0) C dX11_emboss_7 rfl ?_
    refine c_bipush (z := 6) C dX11_emboss_8 (by decide) ?_
    refine d_callV (As := [.int (iI 6)]) (rest := []) C hM (C_refuse (a0 := a0) (x := 6) hW hS t_a0 ⟨by decide, by decide⟩ ) dX11_emboss_10 kV_X11_102 rfl t_a0 rfl rfl (by decide) ck_12 rfl (Nat.le_of_ble_eq_true rfl) ⟨(Nat.le_of_ble_eq_true rfl), (Nat.le_of_ble_eq_true rfl)⟩ hph hph (show 0 + 0 = 0 from rfl) (by decide) (fun rh8 Lh8 clh8 lnh8 ivh8 rvh8 h8 => ?_)
    obtain ⟨f8, rfl, rfl, rfl, rfl, rfl, fl8, W9, rgf8, exf8, kp11f8, kp12f8, kp13f8, kp14f8, kp15f8, kp16f8⟩ := h8
    have ri72 : 1 ≤ iv a0 11 ∧ iv a0 11 ≤ 100 := hW.int t_a0 11
    have ri73 : 1 ≤ iv a0 12 ∧ iv a0 12 ≤ 50 := hW.int t_a0 12
    have ri74 : (-2147483648) ≤ iv a0 13 ∧ iv a0 13 ≤ 2147483647 := hW.int t_a0 13
    have ri75 : (-2147483648) ≤ iv a0 14 ∧ iv a0 14 ≤ 2147483647 := hW.int t_a0 14
    have ri76 : (-2147483648) ≤ iv a0 15 ∧ iv a0 15 ≤ 2147483647 := hW.int t_a0 15
    have ri77 : (-2147483648) ≤ iv a0 16 ∧ iv a0 16 ≤ 2147483647 := hW.int t_a0 16
    have F6 := hF0.call hX0 fl8 rfl
    refine c_st (st2 := [.int (iI f8)]) rfl ?_
    have gk11f8 : ivh8 a0 11 = iv a0 11 := kp11f8
    have gk12f8 : ivh8 a0 12 = iv a0 12 := kp12f8
    have gk13f8 : ivh8 a0 13 = iv a0 13 := kp13f8
    have gk14f8 : ivh8 a0 14 = iv a0 14 := kp14f8
    have gk15f8 : ivh8 a0 15 = iv a0 15 := kp15f8
    have gk16f8 : ivh8 a0 16 = iv a0 16 := kp16f8
    have gf8 : f8 = -1 := exf8
    have ri78 : 1 ≤ ivh8 a0 11 ∧ ivh8 a0 11 ≤ 100 := W9.int t_a0 11
    have ri79 : 1 ≤ ivh8 a0 12 ∧ ivh8 a0 12 ≤ 50 := W9.int t_a0 12
    have ri80 : (-2147483648) ≤ ivh8 a0 13 ∧ ivh8 a0 13 ≤ 2147483647 := W9.int t_a0 13
    have ri81 : (-2147483648) ≤ ivh8 a0 14 ∧ ivh8 a0 14 ≤ 2147483647 := W9.int t_a0 14
    have ri82 : (-2147483648) ≤ ivh8 a0 15 ∧ ivh8 a0 15 ≤ 2147483647 := W9.int t_a0 15
    exact c_iret C dX11_emboss_13 rfl (by decide) (rom0 hph hph (by decide)) ⟨f8, rfl, rfl, rfl, rfl, rfl, F6, W9, ⟨by omega, by omega⟩, trivial, (by omega), (by omega), (by omega), (by omega), (by omega)⟩
set_option maxHeartbeats 4000000 in
set_option maxRecDepth 100000 in
theorem C_copied {l : Launch} {G : GT} {mi : Nat} {sk : Nat → Nat} {L : List Nat} {cl ln : Nat → Nat} {iv : Nat → Nat → Int} {rv : Nat → Nat → Option Nat}  {a0 : Nat} (hW : WT (g0 G) sk L cl ln iv rv) (hS : SKL sk L cl) (t_a0 : ty L cl a0 1)  : Mc l G mi (Phi (g0 G) sk) PHM yX11_copied cX11_copied 1 (some .int) 0 [.ref a0] L cl ln iv rv 0 (fun v L2 cl2 ln2 iv2 rv2 => ∃ f : Int, v = some (.int (iI f)) ∧ L = L2 ∧ cl = cl2 ∧ ln = ln2 ∧ iv = iv2 ∧ rv = rv2 ∧ (-2147483648 ≤ f ∧ f ≤ 2147483647) ∧ (True)) := by
  refine Mc.mk (by decide) (Nat.le_of_ble_eq_true rfl) ?_
  intro p e s m args below meth c A C hM
  have hph := Phi.le hW hS
  have hX0 : XT L cl ln L cl ln := XT.refl
  have hF0 : fT [] L cl iv rv iv rv := fT.refl
  refine c_aload_n (j := 0) (x := a0) C dX11_copied_0 rfl ?_
  have ri1 : (-2147483648) ≤ iv a0 15 ∧ iv a0 15 ≤ 2147483647 := hW.int t_a0 15
  refine c_get (k := 15) C ck_12 dX11_copied_1 w2_59 (by decide) t_a0 rfl rfl (by decide) rfl ?_
  exact c_iret C dX11_copied_4 rfl (by decide) (rom0 hph hph (by decide)) ⟨(iv a0 15), rfl, rfl, rfl, rfl, rfl, rfl, ⟨by omega, by omega⟩, trivial⟩
set_option maxHeartbeats 4000000 in
set_option maxRecDepth 100000 in
theorem C_closed {l : Launch} {G : GT} {mi : Nat} {sk : Nat → Nat} {L : List Nat} {cl ln : Nat → Nat} {iv : Nat → Nat → Int} {rv : Nat → Nat → Option Nat}  {a0 : Nat} (hW : WT (g0 G) sk L cl ln iv rv) (hS : SKL sk L cl) (t_a0 : ty L cl a0 1)  : Mc l G mi (Phi (g0 G) sk) PHM yX11_closed cX11_closed 1 (some .int) 0 [.ref a0] L cl ln iv rv 0 (fun v L2 cl2 ln2 iv2 rv2 => ∃ f : Int, v = some (.int (iI f)) ∧ L = L2 ∧ cl = cl2 ∧ ln = ln2 ∧ iv = iv2 ∧ rv = rv2 ∧ (-2147483648 ≤ f ∧ f ≤ 2147483647) ∧ (True)) := by
  refine Mc.mk (by decide) (Nat.le_of_ble_eq_true rfl) ?_
  intro p e s m args below meth c A C hM
  have hph := Phi.le hW hS
  have hX0 : XT L cl ln L cl ln := XT.refl
  have hF0 : fT [] L cl iv rv iv rv := fT.refl
  refine c_aload_n (j := 0) (x := a0) C dX11_closed_0 rfl ?_
  have ri1 : (-2147483648) ≤ iv a0 16 ∧ iv a0 16 ≤ 2147483647 := hW.int t_a0 16
  refine c_get (k := 16) C ck_12 dX11_closed_1 w2_60 (by decide) t_a0 rfl rfl (by decide) rfl ?_
  exact c_iret C dX11_closed_4 rfl (by decide) (rom0 hph hph (by decide)) ⟨(iv a0 16), rfl, rfl, rfl, rfl, rfl, rfl, ⟨by omega, by omega⟩, trivial⟩
set_option maxHeartbeats 4000000 in
set_option maxRecDepth 100000 in
theorem C_status {l : Launch} {G : GT} {mi : Nat} {sk : Nat → Nat} {L : List Nat} {cl ln : Nat → Nat} {iv : Nat → Nat → Int} {rv : Nat → Nat → Option Nat}  {a0 : Nat} (hW : WT (g0 G) sk L cl ln iv rv) (hS : SKL sk L cl) (t_a0 : ty L cl a0 1)  : Mc l G mi (Phi (g0 G) sk) PHM yX11_status cX11_status 1 (some .int) 0 [.ref a0] L cl ln iv rv 0 (fun v L2 cl2 ln2 iv2 rv2 => ∃ f : Int, v = some (.int (iI f)) ∧ L = L2 ∧ cl = cl2 ∧ ln = ln2 ∧ iv = iv2 ∧ rv = rv2 ∧ (-2147483648 ≤ f ∧ f ≤ 2147483647) ∧ (True)) := by
  refine Mc.mk (by decide) (Nat.le_of_ble_eq_true rfl) ?_
  intro p e s m args below meth c A C hM
  have hph := Phi.le hW hS
  have hX0 : XT L cl ln L cl ln := XT.refl
  have hF0 : fT [] L cl iv rv iv rv := fT.refl
  refine c_aload_n (j := 0) (x := a0) C dX11_status_0 rfl ?_
  have ri1 : (-2147483648) ≤ iv a0 17 ∧ iv a0 17 ≤ 2147483647 := hW.int t_a0 17
  refine c_get (k := 17) C ck_12 dX11_status_1 w2_61 (by decide) t_a0 rfl rfl (by decide) rfl ?_
  exact c_iret C dX11_status_4 rfl (by decide) (rom0 hph hph (by decide)) ⟨(iv a0 17), rfl, rfl, rfl, rfl, rfl, rfl, ⟨by omega, by omega⟩, trivial⟩
set_option maxHeartbeats 4000000 in
set_option maxRecDepth 100000 in
theorem C_place {l : Launch} {G : GT} {mi : Nat} {sk : Nat → Nat} {L : List Nat} {cl ln : Nat → Nat} {iv : Nat → Nat → Int} {rv : Nat → Nat → Option Nat}  {a0 : Nat} (hW : WT (g0 G) sk L cl ln iv rv) (hS : SKL sk L cl) (t_a0 : ty L cl a0 1)  : Mc l G mi (Phi (g0 G) sk) PHM yX11_place cX11_place 1 (some .int) 0 [.ref a0] L cl ln iv rv 0 (fun v L2 cl2 ln2 iv2 rv2 => ∃ f : Int, v = some (.int (iI f)) ∧ L = L2 ∧ cl = cl2 ∧ ln = ln2 ∧ iv = iv2 ∧ rv = rv2 ∧ (-2147483648 ≤ f ∧ f ≤ 2147483647) ∧ (True)) := by
  refine Mc.mk (by decide) (Nat.le_of_ble_eq_true rfl) ?_
  intro p e s m args below meth c A C hM
  have hph := Phi.le hW hS
  have hX0 : XT L cl ln L cl ln := XT.refl
  have hF0 : fT [] L cl iv rv iv rv := fT.refl
  refine c_aload_n (j := 0) (x := a0) C dX11_place_0 rfl ?_
  have ri1 : (-2147483648) ≤ iv a0 18 ∧ iv a0 18 ≤ 2147483647 := hW.int t_a0 18
  refine c_get (k := 18) C ck_12 dX11_place_1 w2_62 (by decide) t_a0 rfl rfl (by decide) rfl ?_
  exact c_iret C dX11_place_4 rfl (by decide) (rom0 hph hph (by decide)) ⟨(iv a0 18), rfl, rfl, rfl, rfl, rfl, rfl, ⟨by omega, by omega⟩, trivial⟩
set_option maxHeartbeats 4000000 in
set_option maxRecDepth 100000 in
theorem C_finds {l : Launch} {G : GT} {mi : Nat} {sk : Nat → Nat} {L : List Nat} {cl ln : Nat → Nat} {iv : Nat → Nat → Int} {rv : Nat → Nat → Option Nat}  {a0 : Nat} {i : Int} (hW : WT (g0 G) sk L cl ln iv rv) (hS : SKL sk L cl) (t_a0 : ty L cl a0 1) (h_i : -2147483648 ≤ i ∧ i ≤ 2147483647)  : Mc l G mi (Phi (g0 G) sk) PHM yX11_finds cX11_finds 2 (some .int) 1 [.ref a0, .int (iI i)] L cl ln iv rv 0 (fun v L2 cl2 ln2 iv2 rv2 => ∃ f : Int, v = some (.int (iI f)) ∧ L = L2 ∧ cl = cl2 ∧ ln = ln2 ∧ iv = iv2 ∧ rv = rv2 ∧ (-2147483648 ≤ f ∧ f ≤ 2147483647) ∧ (True)) := by
  refine Mc.mk (by decide) (Nat.le_of_ble_eq_true rfl) ?_
  intro p e s m args below meth c A C hM
  have hph := Phi.le hW hS
  have hX0 : XT L cl ln L cl ln := XT.refl
  have hF0 : fT [] L cl iv rv iv rv := fT.refl
  refine c_aload_n (j := 0) (x := a0) C dX11_finds_0 rfl ?_
  obtain ⟨rb1, rq1, trb1⟩ := hW.ref t_a0 6 rfl rfl rfl
  refine c_getr (k := 6) C ck_12 dX11_finds_1 w2_50 (by decide) t_a0 rfl rfl (by decide) rfl rq1 ?_
  refine c_st (st2 := [.ref rb1]) rfl ?_
  refine c_iload_n (j := 1) C dX11_finds_4 rfl ?_
  refine d_callV (As := [.int (iI i)]) (rest := []) C hM (C_findsOf (a0 := rb1) (i := i) hW hS trb1 (by omega) ) dX11_finds_5 kV_X11_413 rfl trb1 rfl rfl (by decide) ck_7 rfl (Nat.le_of_ble_eq_true rfl) ⟨(Nat.le_of_ble_eq_true rfl), (Nat.le_of_ble_eq_true rfl)⟩ hph hph (show 0 + 0 = 0 from rfl) (by decide) (fun rh1 Lh1 clh1 lnh1 ivh1 rvh1 h1 => ?_)
  obtain ⟨f1, rfl, rfl, rfl, rfl, rfl, rfl, rgf1, exf1⟩ := h1
  refine c_st (st2 := [.int (iI f1)]) rfl ?_
  exact c_iret C dX11_finds_8 rfl (by decide) (rom0 hph hph (by decide)) ⟨f1, rfl, rfl, rfl, rfl, rfl, rfl, ⟨by omega, by omega⟩, trivial⟩
