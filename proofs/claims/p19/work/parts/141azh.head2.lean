section
set_option maxHeartbeats 4000000 in
set_option maxRecDepth 100000 in
theorem G_head2 {l : Launch} {G : GT} {mi : Nat} {sk : Nat → Nat} {L : List Nat} {cl ln : Nat → Nat} {iv : Nat → Nat → Int} {rv : Nat → Nat → Option Nat}  {a0 : Nat} {i : Int} (hW : WT (g0 G) sk L cl ln iv rv) (hS : SKL sk L cl) (t_a0 : ty L cl a0 1) (h_i : -2147483648 ≤ i ∧ i ≤ 2147483647) (hmr : MRK sk cl iv rv) : Mc l G mi (Phi (g0 G) sk) PHM yX11_head cX11_head 6 (some .int) 8 [.ref a0, .int (iI i)] L cl ln iv rv 0 (fun v L2 cl2 ln2 iv2 rv2 => ∃ f : Int, v = some (.int (iI f)) ∧ XT L cl ln L2 cl2 ln2 ∧ fT [1, 2, 5, 35, 15, 50, 51, 52, 53, 54, 55] L cl iv rv iv2 rv2 ∧ WT (g0 G) sk L2 cl2 ln2 iv2 rv2 ∧ (-2147483648 ≤ f ∧ f ≤ 2147483647) ∧ (True) ∧ iv2 a0 11 = iv a0 11 ∧ iv2 a0 12 = iv a0 12 ∧ iv2 a0 13 = iv a0 13 ∧ iv2 a0 14 = iv a0 14 ∧ iv2 a0 15 = iv a0 15 ∧ iv2 a0 16 = iv a0 16 ∧ iv2 (sk 2) 2 = 0 ∧ (HDX sk ln iv rv (iv a0 11) i f) ∧ (HDY sk ln iv rv iv2 rv2 i f) ∧ rv2 a0 9 = rv a0 9 ∧ rv2 a0 10 = rv a0 10) := by
  refine Mc.mk (by decide) (Nat.le_of_ble_eq_true rfl) ?_
  intro p e s m args below meth c A C hM
  refine hv15 (Phi.le hW hS) (show ty L cl (sk 2) 2 from ⟨(hS 2 rfl).1, by rw [(hS 2 rfl).2]; rfl⟩) (show ty L cl (sk 3) 3 from ⟨(hS 3 rfl).1, by rw [(hS 3 rfl).2]; rfl⟩) (show ty L cl (sk 4) 4 from ⟨(hS 4 rfl).1, by rw [(hS 4 rfl).2]; rfl⟩) (show ty L cl (sk 5) 5 from ⟨(hS 5 rfl).1, by rw [(hS 5 rfl).2]; rfl⟩) (show ty L cl (sk 13) 13 from ⟨(hS 13 rfl).1, by rw [(hS 13 rfl).2]; rfl⟩) (show ty L cl (sk 14) 14 from ⟨(hS 14 rfl).1, by rw [(hS 14 rfl).2]; rfl⟩) (show ty L cl (sk 15) 15 from ⟨(hS 15 rfl).1, by rw [(hS 15 rfl).2]; rfl⟩) (show ty L cl (sk 16) 16 from ⟨(hS 16 rfl).1, by rw [(hS 16 rfl).2]; rfl⟩) (show ty L cl (sk 17) 17 from ⟨(hS 17 rfl).1, by rw [(hS 17 rfl).2]; rfl⟩) (show ty L cl (sk 22) 22 from ⟨(hS 22 rfl).1, by rw [(hS 22 rfl).2]; rfl⟩) (show ty L cl (sk 23) 23 from ⟨(hS 23 rfl).1, by rw [(hS 23 rfl).2]; rfl⟩) (show XT L cl ln L cl ln from XT.refl) (show fT [1, 2, 5, 35, 15, 50, 51, 52, 53, 54, 55] L cl iv rv iv rv from fT.refl) (show 1 ≤ iv a0 11 ∧ iv a0 11 ≤ 100 from hW.int t_a0 11) (fun hph tsk2 tsk3 tsk4 tsk5 tsk13 tsk14 tsk15 tsk16 tsk17 tsk22 tsk23 hX0 hF0 ri2 => ?_)
  refine hv2 (show 0 ≤ iv (sk 2) 2 ∧ iv (sk 2) 2 ≤ 3000 from hW.int tsk2 2) (show 0 ≤ iv (sk 5) 2 ∧ iv (sk 5) 2 ≤ 200 from hW.int tsk5 2) (fun ri1 ri3 => ?_)
  refine c_aload_n (j := 0) (x := a0) C dX11_head_0 rfl ?_
  obtain ⟨rb1, rq1, trb1⟩ := hW.ref t_a0 0 rfl rfl rfl
  have erb1 := hW.sk trb1 (by decide) rfl
  subst erb1
  refine c_getr (k := 0) C ck_12 dX11_head_1 w2_44 (by decide) t_a0 rfl rfl (by decide) rfl rq1 ?_
  refine c_st (st2 := [.ref (sk 2)]) rfl ?_
  refine c_get (k := 2) C ck_2 dX11_head_4 w1_44 (by decide) tsk2 rfl rfl (by decide) rfl ?_
  refine c_bipush (z := 40) C dX11_head_7 (by decide) ?_
  refine c_icmp_gt (tgt := 38) C (r32_c (lo := 0) (hi := 3000) ri1.1 ri1.2 (by decide) (by decide)) ⟨by decide, by decide⟩ dX11_head_9 (by decide) (fun c1 => ?_) (fun c1 => ?_)
  · refine c_iconst C dX11_head_38 ?_
    refine c_istore_n (lv2 := [(2, .int (iI 0)), (0, .ref a0), (1, .int (iI i))]) C dX11_head_39 (by decide) rfl ?_
    refine c_aload_n (j := 1) (x := a0) C dX11_head_40 rfl ?_
    obtain ⟨rb2, rq2, trb2⟩ := hW.ref t_a0 6 rfl rfl rfl
    have erb2 := hW.sk trb2 (by decide) rfl
    subst erb2
    refine c_getr (k := 6) C ck_12 dX11_head_41 w2_50 (by decide) t_a0 rfl rfl (by decide) rfl rq2 ?_
    refine c_st (st2 := [.ref (sk 15)]) rfl ?_
    refine d_callV (As := []) (rest := []) C hM (G_wclear (a0 := (sk 15)) hW hS tsk15  ) dX11_head_44 kV_X11_272 rfl tsk15 rfl rfl (by decide) ck_7 rfl (Nat.le_of_ble_eq_true rfl) ⟨(Nat.le_of_ble_eq_true rfl), (Nat.le_of_ble_eq_true rfl)⟩ hph hph (show 0 + 0 = 0 from rfl) (by decide) (fun rh1 Lh1 clh1 lnh1 ivh1 rvh1 h1 => ?_)
    obtain ⟨rfl, rfl, rfl, rfl, rfl, fl1, W1, exf1⟩ := h1
    refine hv2 (hF0.call hX0 fl1 rfl) (MRK.call hmr hW hS XT.refl fl1 rfl rfl) (fun F1 mr1 => ?_)
    refine c_st (st2 := []) rfl ?_
    refine hv2 (show 0 ≤ ivh1 (sk 15) 4 ∧ ivh1 (sk 15) 4 ≤ 500 from W1.int tsk15 4) (show ivh1 (sk 15) 4 = 0 from exf1) (fun ri4 gf1 => ?_)
    refine c_iconst C dX11_head_47 ?_
    refine c_istore_n (lv2 := [(3, .int (iI 0)), (2, .int (iI 0)), (0, .ref a0), (1, .int (iI i))]) C dX11_head_48 (by decide) rfl ?_
    have Lp1 : ∀ (nn : Nat) (fl k : Int) (Lb1 : List Nat) (clb1 lnb1 : Nat → Nat) (ivb1 : Nat → Nat → Int) (rvb1 : Nat → Nat → Option Nat) , 3001 - k < (nn : Int) → XT L cl ln Lb1 clb1 lnb1 → WT (g0 G) sk Lb1 clb1 lnb1 ivb1 rvb1 → fT [1, 2, 5, 35, 15, 50, 51, 52, 53, 54, 55] L cl iv rv ivb1 rvb1 → (fl = 0 ∨ fl = 1) → (0 ≤ k ∧ k ≤ 3000 ∧ k ≤ iv (sk 2) 2) → (ivb1 (sk 15) 4 = k) → ((fl = 0 ∧ k = 0) ∨ fl = 1) → (ivb1 (sk 2) 2 = iv (sk 2) 2) → (fl = 1 → iv (sk 2) 2 ≤ 40) → (HWD iv rv (sk 2) fl) → (∀ ss, CT iv rv (sk 2) ss → CT ivb1 rvb1 (sk 2) ss) → (LTA sk ln iv rv ivb1 rvb1 k) → (ivb1 (sk 5) 2 = iv (sk 5) 2) → (∀ ss, CT iv rv (sk 5) ss → CT ivb1 rvb1 (sk 5) ss) → (ivb1 a0 11 = iv a0 11) → (ivb1 a0 12 = iv a0 12) → (ivb1 a0 13 = iv a0 13) → (ivb1 a0 14 = iv a0 14) → (ivb1 a0 15 = iv a0 15) → (ivb1 a0 16 = iv a0 16) → (rvb1 a0 9 = rv a0 9) → (rvb1 a0 10 = rv a0 10) → cw p l e 8 ((PHM) + 0 - ((Phi (g0 G) sk) ln rv)) s m args below meth c G A 6 (MQ below (Qu G A (Qp G (Phi (g0 G) sk) ((Phi (g0 G) sk) ln rv) 0 (fun v L2 cl2 ln2 iv2 rv2 => ∃ f : Int, v = some (.int (iI f)) ∧ XT L cl ln L2 cl2 ln2 ∧ fT [1, 2, 5, 35, 15, 50, 51, 52, 53, 54, 55] L cl iv rv iv2 rv2 ∧ WT (g0 G) sk L2 cl2 ln2 iv2 rv2 ∧ (-2147483648 ≤ f ∧ f ≤ 2147483647) ∧ (True) ∧ iv2 a0 11 = iv a0 11 ∧ iv2 a0 12 = iv a0 12 ∧ iv2 a0 13 = iv a0 13 ∧ iv2 a0 14 = iv a0 14 ∧ iv2 a0 15 = iv a0 15 ∧ iv2 a0 16 = iv a0 16 ∧ iv2 (sk 2) 2 = 0 ∧ (HDX sk ln iv rv (iv a0 11) i f) ∧ (HDY sk ln iv rv iv2 rv2 i f) ∧ rv2 a0 9 = rv a0 9 ∧ rv2 a0 10 = rv a0 10))) args s (((PHM) + 0 - ((Phi (g0 G) sk) ln rv)) / 16) ((PHM) + 0 - ((Phi (g0 G) sk) ln rv)) A) (Phi (g0 G) sk) ((Phi (g0 G) sk) ln rv) Lb1 clb1 lnb1 ivb1 rvb1 0 49 [(2, .int (iI fl)), (3, .int (iI k)), (0, .ref a0), (1, .int (iI i))] [] := by
      intro nn
      induction nn with
      | zero =>
        intro  fl k Lb1 clb1 lnb1 ivb1 rvb1 hm Xb1 Wb1 Fb1  hfl hk h15 hnm h22 hf40 hWD hCT hLT hH5 hHC hkp11 hkp12 hkp13 hkp14 hkp15 hkp16 hkr9 hkr10
        have skb1 := Xb1.skl hS
        exact absurd hm (by omega)
      | succ nn ih1 =>
        intro  fl k Lb1 clb1 lnb1 ivb1 rvb1 hm Xb1 Wb1 Fb1  hfl hk h15 hnm h22 hf40 hWD hCT hLT hH5 hHC hkp11 hkp12 hkp13 hkp14 hkp15 hkp16 hkr9 hkr10
        refine hv2 (Xb1.skl hS) (MRK.call hmr hW hS Xb1 Fb1 rfl rfl) (fun skb1 mrb1 => ?_)
        refine c_iload_n (j := 0) C dX11_head_49 rfl ?_
        refine c_if_eq (tgt := 86) C (r32_01 hfl) dX11_head_50 (by decide) (fun c2 => ?_) (fun c2 => ?_)
        · clear hfl
          refine c_aload_n (j := 2) (x := a0) C dX11_head_86 rfl ?_
          have ty1 := Xb1.ty t_a0
          obtain ⟨rb3, rq3, trb3⟩ := Wb1.ref ty1 0 rfl rfl rfl
          have erb3 := Wb1.sk trb3 (by decide) rfl
          subst erb3
          refine c_getr (k := 0) C ck_12 dX11_head_87 w2_44 (by decide) ty1 rfl rfl (by decide) rfl rq3 ?_
          refine c_st (st2 := [.ref (sk 2)]) rfl ?_
          refine hv3 (Xb1.ty tsk2) (Xb1.ty tsk15) (Phi.le Wb1 skb1) (fun ty2 ty3 pl1 => ?_)
          refine d_callV (As := []) (rest := []) C hM (C_clear_2 (a0 := (sk 2)) Wb1 skb1 ty2  ) dX11_head_90 kV_X11_164 rfl ty2 rfl rfl (by decide) ck_2 rfl (Nat.le_of_ble_eq_true rfl) ⟨(Nat.le_of_ble_eq_true rfl), (Nat.le_of_ble_eq_true rfl)⟩ hph pl1 (show 0 + 0 = 0 from rfl) (by decide) (fun rh2 Lh2 clh2 lnh2 ivh2 rvh2 h2 => ?_)
          obtain ⟨rfl, rfl, rfl, rfl, rfl, fl2, W2, exf2⟩ := h2
          refine hv2 (Fb1.call Xb1 fl2 rfl) (MRK.call mrb1 Wb1 skb1 XT.refl fl2 rfl rfl) (fun F2 mr2 => ?_)
          refine c_st (st2 := []) rfl ?_
          refine hv5 (show 0 ≤ ivh2 (sk 2) 2 ∧ ivh2 (sk 2) 2 ≤ 3000 from W2.int ty2 2) (show ivh2 (sk 2) 2 = 0 from exf2) (hLT.ni Wb1 fl2 rfl ty3) (show 0 ≤ ivh2 (sk 15) 4 ∧ ivh2 (sk 15) 4 ≤ 500 from W2.int ty3 4) (show ivh2 (sk 15) 4 = ivb1 (sk 15) 4 from fl2.i ty3 rfl 4) (fun ri5 gf2 hLC ri6 ie3 => ?_)
          refine c_iload_n (j := 0) C dX11_head_93 rfl ?_
          refine c_if_ne (tgt := 104) C ⟨by omega, by omega⟩ dX11_head_94 (by decide) (fun z => absurd z (by omega)) (fun _ => ?_)
          refine c_aload_n (j := 2) (x := a0) C dX11_head_97 rfl ?_
          refine c_bipush (z := 6) C dX11_head_98 (by decide) ?_
          refine d_callV (As := [.int (iI 6)]) (rest := []) C hM (C_refuse (a0 := a0) (x := 6) W2 skb1 ty1 ⟨by decide, by decide⟩ ) dX11_head_100 kV_X11_102 rfl ty1 rfl rfl (by decide) ck_12 rfl (Nat.le_of_ble_eq_true rfl) ⟨(Nat.le_of_ble_eq_true rfl), (Nat.le_of_ble_eq_true rfl)⟩ hph pl1 (show 0 + 0 = 0 from rfl) (by decide) (fun rh3 Lh3 clh3 lnh3 ivh3 rvh3 h3 => ?_)
          obtain ⟨f3, rfl, rfl, rfl, rfl, rfl, fl3, W3, rgf3, exf3, kp11f3, kp12f3, kp13f3, kp14f3, kp15f3, kp16f3⟩ := h3
          refine hv14 (show 1 ≤ ivh2 a0 11 ∧ ivh2 a0 11 ≤ 100 from W2.int ty1 11) (show ivh2 a0 11 = ivb1 a0 11 from fl2.i ty1 rfl 11) (show 1 ≤ ivh2 a0 12 ∧ ivh2 a0 12 ≤ 50 from W2.int ty1 12) (show ivh2 a0 12 = ivb1 a0 12 from fl2.i ty1 rfl 12) (show (-2147483648) ≤ ivh2 a0 13 ∧ ivh2 a0 13 ≤ 2147483647 from W2.int ty1 13) (show ivh2 a0 13 = ivb1 a0 13 from fl2.i ty1 rfl 13) (show (-2147483648) ≤ ivh2 a0 14 ∧ ivh2 a0 14 ≤ 2147483647 from W2.int ty1 14) (show ivh2 a0 14 = ivb1 a0 14 from fl2.i ty1 rfl 14) (show (-2147483648) ≤ ivh2 a0 15 ∧ ivh2 a0 15 ≤ 2147483647 from W2.int ty1 15) (show ivh2 a0 15 = ivb1 a0 15 from fl2.i ty1 rfl 15) (show (-2147483648) ≤ ivh2 a0 16 ∧ ivh2 a0 16 ≤ 2147483647 from W2.int ty1 16) (show ivh2 a0 16 = ivb1 a0 16 from fl2.i ty1 rfl 16) (F2.call Xb1 fl3 rfl) (MRK.call mr2 W2 skb1 XT.refl fl3 rfl rfl) (fun ri7 ie5 ri8 ie7 ri9 ie9 ri10 ie11 ri11 ie13 ri12 ie15 F3 mr3 => ?_)
          refine c_st (st2 := [.int (iI f3)]) rfl ?_
          refine hv16 (show ivh3 a0 11 = ivh2 a0 11 from kp11f3) (show ivh3 a0 12 = ivh2 a0 12 from kp12f3) (show ivh3 a0 13 = ivh2 a0 13 from kp13f3) (show ivh3 a0 14 = ivh2 a0 14 from kp14f3) (show ivh3 a0 15 = ivh2 a0 15 from kp15f3) (show ivh3 a0 16 = ivh2 a0 16 from kp16f3) (show f3 = -1 from exf3) (show 0 ≤ ivh3 (sk 2) 2 ∧ ivh3 (sk 2) 2 ≤ 3000 from W3.int ty2 2) (show ivh3 (sk 2) 2 = ivh2 (sk 2) 2 from fl3.i ty2 rfl 2) (show 1 ≤ ivh3 a0 11 ∧ ivh3 a0 11 ≤ 100 from W3.int ty1 11) (show 1 ≤ ivh3 a0 12 ∧ ivh3 a0 12 ≤ 50 from W3.int ty1 12) (show (-2147483648) ≤ ivh3 a0 13 ∧ ivh3 a0 13 ≤ 2147483647 from W3.int ty1 13) (show (-2147483648) ≤ ivh3 a0 14 ∧ ivh3 a0 14 ≤ 2147483647 from W3.int ty1 14) (show (-2147483648) ≤ ivh3 a0 15 ∧ ivh3 a0 15 ≤ 2147483647 from W3.int ty1 15) (show (-2147483648) ≤ ivh3 a0 16 ∧ ivh3 a0 16 ≤ 2147483647 from W3.int ty1 16) (Xb1.ty tsk5) (fun gk11f3 gk12f3 gk13f3 gk14f3 gk15f3 gk16f3 gf3 ri13 ie17 ri14 ri15 ri16 ri17 ri18 ri19 ty4 => ?_)
          refine hv3 (show 0 ≤ ivh3 (sk 5) 2 ∧ ivh3 (sk 5) 2 ≤ 200 from W3.int ty4 2) (show ivh3 (sk 5) 2 = ivh2 (sk 5) 2 from fl3.i ty4 rfl 2) (show ivh2 (sk 5) 2 = ivb1 (sk 5) 2 from fl2.i ty4 rfl 2) (fun ri20 ie24 ie25 => ?_)
          exact c_iret C dX11_head_103 rfl (by decide) (rom0 hph pl1 (by decide)) ⟨f3, rfl, Xb1, F3, W3, ⟨by omega, by omega⟩, trivial, (gk11f3.trans (ie5.trans hkp11)), (gk12f3.trans (ie7.trans hkp12)), (gk13f3.trans (ie9.trans hkp13)), (gk14f3.trans (ie11.trans hkp14)), (gk15f3.trans (ie13.trans hkp15)), (gk16f3.trans (ie15.trans hkp16)), (ie17.trans gf2), (HDX.bad hWD (by omega) (by omega)), (Or.inl ⟨by omega, by omega, fun ss hs => (CT.fr (CT.fr (hHC ss hs) Wb1 ty4 fl2 rfl rfl rfl rfl rfl) W2 ty4 fl3 rfl rfl rfl rfl rfl)⟩), (show rvb1 a0 9 = rv a0 9 from hkr9), (show rvb1 a0 10 = rv a0 10 from hkr10)⟩
        · replace hfl := (hfl.resolve_left c2)
          refine c_iload_n (j := 1) C dX11_head_53 rfl ?_
          refine c_aload_n (j := 2) (x := a0) C dX11_head_54 rfl ?_
          have ty5 := Xb1.ty t_a0
          obtain ⟨rb4, rq4, trb4⟩ := Wb1.ref ty5 0 rfl rfl rfl
          have erb4 := Wb1.sk trb4 (by decide) rfl
          subst erb4
          refine c_getr (k := 0) C ck_12 dX11_head_55 w2_44 (by decide) ty5 rfl rfl (by decide) rfl rq4 ?_
          refine c_st (st2 := [.ref (sk 2), .int (iI k)]) rfl ?_
          have ty6 := Xb1.ty tsk2
          have ri21 : 0 ≤ ivb1 (sk 2) 2 ∧ ivb1 (sk 2) 2 ≤ 3000 := Wb1.int ty6 2
          refine c_get (k := 2) C ck_2 dX11_head_58 w1_44 (by decide) ty6 rfl rfl (by decide) rfl ?_
          refine c_icmp_ge (tgt := 86) C (r32_c (lo := 0) (hi := 3000) hk.1 hk.2.1 (by decide) (by decide)) (r32_c (lo := 0) (hi := 3000) ri21.1 ri21.2 (by decide) (by decide)) dX11_head_61 (by decide) (fun c3 => ?_) (fun c3 => ?_)
          · refine c_aload_n (j := 2) (x := a0) C dX11_head_86 rfl ?_
            refine c_getr (k := 0) C ck_12 dX11_head_87 w2_44 (by decide) ty5 rfl rfl (by decide) rfl rq4 ?_
            refine c_st (st2 := [.ref (sk 2)]) rfl ?_
            refine hv2 (Xb1.ty tsk15) (Phi.le Wb1 skb1) (fun ty7 pl2 => ?_)
            refine d_callV (As := []) (rest := []) C hM (C_clear_2 (a0 := (sk 2)) Wb1 skb1 ty6  ) dX11_head_90 kV_X11_164 rfl ty6 rfl rfl (by decide) ck_2 rfl (Nat.le_of_ble_eq_true rfl) ⟨(Nat.le_of_ble_eq_true rfl), (Nat.le_of_ble_eq_true rfl)⟩ hph pl2 (show 0 + 0 = 0 from rfl) (by decide) (fun rh4 Lh4 clh4 lnh4 ivh4 rvh4 h4 => ?_)
            obtain ⟨rfl, rfl, rfl, rfl, rfl, fl4, W4, exf4⟩ := h4
            refine hv2 (Fb1.call Xb1 fl4 rfl) (MRK.call mrb1 Wb1 skb1 XT.refl fl4 rfl rfl) (fun F4 mr4 => ?_)
            refine c_st (st2 := []) rfl ?_
            refine hv5 (show 0 ≤ ivh4 (sk 2) 2 ∧ ivh4 (sk 2) 2 ≤ 3000 from W4.int ty6 2) (show ivh4 (sk 2) 2 = 0 from exf4) (hLT.ni Wb1 fl4 rfl ty7) (show 0 ≤ ivh4 (sk 15) 4 ∧ ivh4 (sk 15) 4 ≤ 500 from W4.int ty7 4) (show ivh4 (sk 15) 4 = ivb1 (sk 15) 4 from fl4.i ty7 rfl 4) (fun ri22 gf4 hLC ri23 ie29 => ?_)
            refine c_iload_n (j := 0) C dX11_head_93 rfl ?_
            refine c_if_ne (tgt := 104) C ⟨by omega, by omega⟩ dX11_head_94 (by decide) (fun _ => ?_) (fun z => absurd z (by omega))
            refine c_aload_n (j := 2) (x := a0) C dX11_head_104 rfl ?_
            obtain ⟨rb5, rq5, trb5⟩ := W4.ref ty5 4 rfl rfl rfl
            have erb5 := W4.sk trb5 (by decide) rfl
            subst erb5
            refine c_getr (k := 4) C ck_12 dX11_head_105 w2_48 (by decide) ty5 rfl rfl (by decide) rfl rq5 ?_
            refine c_st (st2 := [.ref (sk 13)]) rfl ?_
            refine c_iload_n (j := 3) C dX11_head_108 rfl ?_
            have ty8 := Xb1.ty tsk13
            refine d_callV (As := [.int (iI i)]) (rest := []) C hM (G_whole (a0 := (sk 13)) (i := i) W4 skb1 ty8 (by omega) mr4) dX11_head_109 kV_X11_231 rfl ty8 rfl rfl (by decide) ck_11 rfl (Nat.le_of_ble_eq_true rfl) ⟨(Nat.le_of_ble_eq_true rfl), (Nat.le_of_ble_eq_true rfl)⟩ hph pl2 (show 0 + 0 = 0 from rfl) (by decide) (fun rh5 Lh5 clh5 lnh5 ivh5 rvh5 h5 => ?_)
            obtain ⟨f5, rfl, rfl, rfl, rfl, rfl, rfl, rgf5, exf5⟩ := h5
            refine c_st (st2 := [(va_rf f5)]) rfl ?_
            have gf5 : WOX sk lnb1 ivh4 rvb1 i f5 := exf5
            refine c_astorer_n (r := f5) (lv2 := [(3, (va_rf f5)), (2, .int (iI fl)), (0, .ref a0), (1, .int (iI i))]) C dX11_head_112 (by decide) rfl ?_
            refine c_aloadr_n (j := 0) (r := f5) C dX11_head_113 rfl ?_
            refine c_ifnonnull (r := f5) (tgt := 123) C dX11_head_114 (by decide) (fun ob1 oq1 => ?_) (fun oq1 => ?_)
            · subst oq1
              refine hv2 (rgf5 ob1 rfl) (gf5) (fun tob1 wkob1 => ?_)
              refine c_lv (lv2 := [(3, .ref ob1), (2, .int (iI fl)), (0, .ref a0), (1, .int (iI i))]) [0, 1, 2, 3] rfl ?_
              refine c_st (st2 := []) rfl ?_
              refine c_aload_n (j := 2) (x := a0) C dX11_head_123 rfl ?_
              obtain ⟨rb6, rq6, trb6⟩ := W4.ref ty5 6 rfl rfl rfl
              have erb6 := W4.sk trb6 (by decide) rfl
              subst erb6
              refine c_getr (k := 6) C ck_12 dX11_head_124 w2_50 (by decide) ty5 rfl rfl (by decide) rfl rq6 ?_
              refine c_st (st2 := [.ref (sk 15)]) rfl ?_
              refine c_aload_n (j := 0) (x := ob1) C dX11_head_127 rfl ?_
              refine d_callV (As := [.ref ob1]) (rest := []) C hM (G_setBy (a0 := (sk 15)) (a1 := ob1) W4 skb1 ty7 tob1  ) dX11_head_128 kV_X11_253 rfl ty7 rfl rfl (by decide) ck_7 rfl (Nat.le_of_ble_eq_true rfl) ⟨(Nat.le_of_ble_eq_true rfl), (Nat.le_of_ble_eq_true rfl)⟩ hph pl2 (show 0 + 0 = 0 from rfl) (by decide) (fun rh6 Lh6 clh6 lnh6 ivh6 rvh6 h6 => ?_)
              obtain ⟨f6, rfl, rfl, rfl, rfl, rfl, fl6, W6, rgf6, exf6⟩ := h6
              refine hv2 (F4.call Xb1 fl6 rfl) (MRK.call mr4 W4 skb1 XT.refl fl6 rfl rfl) (fun F5 mr5 => ?_)
              refine c_st (st2 := [.int (iI f6)]) rfl ?_
              refine hv3 (show 0 ≤ ivh6 (sk 15) 4 ∧ ivh6 (sk 15) 4 ≤ 500 from W6.int ty7 4) (show 0 ≤ ivh6 (sk 15) 7 ∧ ivh6 (sk 15) 7 ≤ 100000 from W6.int ty7 7) (show ((f6 = 0 ∨ f6 = 6 ∨ f6 = 7) ∧ ivh6 (sk 15) 4 = ivh4 (sk 15) 4 ∧ (f6 = 0 → ivh6 (sk 15) 7 ≤ 200)) ∧ SBX sk lnb1 ivh4 rvb1 ivh6 (sk 15) ob1 f6 from exf6) (fun ri24 ri25 gf6 => ?_)
              refine c_istore (lv2 := [(4, .int (iI f6)), (3, .ref ob1), (2, .int (iI fl)), (0, .ref a0), (1, .int (iI i))]) C dX11_head_131 (by decide) rfl ?_
              refine c_iload (j := 0) C dX11_head_133 rfl ?_
              refine c_if_eq (tgt := 152) C (r32_067 gf6.1.1) dX11_head_135 (by decide) (fun c4 => ?_) (fun c4 => ?_)
              · replace gf6 := (And.intro (And.intro c4 (And.intro gf6.1.2.1 (gf6.1.2.2 c4))) gf6.2)
                refine c_aload_n (j := 3) (x := a0) C dX11_head_152 rfl ?_
                obtain ⟨rb7, rq7, trb7⟩ := W6.ref ty5 3 rfl rfl rfl
                have erb7 := W6.sk trb7 (by decide) rfl
                subst erb7
                refine c_getr (k := 3) C ck_12 dX11_head_153 w2_47 (by decide) ty5 rfl rfl (by decide) rfl rq7 ?_
                refine c_st (st2 := [.ref (sk 5)]) rfl ?_
                have ty9 := Xb1.ty tsk5
                refine d_callV (As := []) (rest := []) C hM (C_clear_5 (a0 := (sk 5)) W6 skb1 ty9  ) dX11_head_156 kV_X11_164 rfl ty9 rfl rfl (by decide) ck_2 rfl (Nat.le_of_ble_eq_true rfl) ⟨(Nat.le_of_ble_eq_true rfl), (Nat.le_of_ble_eq_true rfl)⟩ hph pl2 (show 0 + 0 = 0 from rfl) (by decide) (fun rh7 Lh7 clh7 lnh7 ivh7 rvh7 h7 => ?_)
                obtain ⟨rfl, rfl, rfl, rfl, rfl, fl7, W7, exf7⟩ := h7
                refine hv2 (F5.call Xb1 fl7 rfl) (MRK.call mr5 W6 skb1 XT.refl fl7 rfl rfl) (fun F6 mr6 => ?_)
                refine c_st (st2 := []) rfl ?_
                refine hv2 (show 0 ≤ ivh7 (sk 5) 2 ∧ ivh7 (sk 5) 2 ≤ 200 from W7.int ty9 2) (show ivh7 (sk 5) 2 = 0 from exf7) (fun ri26 gf7 => ?_)
                refine c_iconst C dX11_head_159 ?_
                refine c_istore (lv2 := [(5, .int (iI 0)), (4, .int (iI f6)), (3, .ref ob1), (2, .int (iI fl)), (0, .ref a0), (1, .int (iI i))]) C dX11_head_160 (by decide) rfl ?_
                have Lp2 : ∀ (nn : Nat) (k2 : Int) (Lb2 : List Nat) (clb2 lnb2 : Nat → Nat) (ivb2 : Nat → Nat → Int) (rvb2 : Nat → Nat → Option Nat) , 101 - k2 < (nn : Int) → XT L cl ln Lb2 clb2 lnb2 → WT (g0 G) sk Lb2 clb2 lnb2 ivb2 rvb2 → fT [1, 2, 5, 35, 15, 50, 51, 52, 53, 54, 55] L cl iv rv ivb2 rvb2 → (0 ≤ k2 ∧ k2 ≤ 100) → (ivb2 (sk 15) 7 ≤ 200) → (ivb2 (sk 2) 2 = 0) → (ivb2 (sk 5) 2 = k2) → (k2 ≤ ivb2 (sk 15) 7 ∧ k2 ≤ iv a0 11) → (HDP sk ln iv rv i (ivb2 (sk 15) 7)) → (HDB sk ln iv rv ivb2 rvb2 i) → (ivb2 a0 11 = iv a0 11) → (ivb2 a0 12 = iv a0 12) → (ivb2 a0 13 = iv a0 13) → (ivb2 a0 14 = iv a0 14) → (ivb2 a0 15 = iv a0 15) → (ivb2 a0 16 = iv a0 16) → (rvb2 a0 9 = rv a0 9) → (rvb2 a0 10 = rv a0 10) → cw p l e 8 ((PHM) + 0 - ((Phi (g0 G) sk) ln rv)) s m args below meth c G A 6 (MQ below (Qu G A (Qp G (Phi (g0 G) sk) ((Phi (g0 G) sk) ln rv) 0 (fun v L2 cl2 ln2 iv2 rv2 => ∃ f : Int, v = some (.int (iI f)) ∧ XT L cl ln L2 cl2 ln2 ∧ fT [1, 2, 5, 35, 15, 50, 51, 52, 53, 54, 55] L cl iv rv iv2 rv2 ∧ WT (g0 G) sk L2 cl2 ln2 iv2 rv2 ∧ (-2147483648 ≤ f ∧ f ≤ 2147483647) ∧ (True) ∧ iv2 a0 11 = iv a0 11 ∧ iv2 a0 12 = iv a0 12 ∧ iv2 a0 13 = iv a0 13 ∧ iv2 a0 14 = iv a0 14 ∧ iv2 a0 15 = iv a0 15 ∧ iv2 a0 16 = iv a0 16 ∧ iv2 (sk 2) 2 = 0 ∧ (HDX sk ln iv rv (iv a0 11) i f) ∧ (HDY sk ln iv rv iv2 rv2 i f) ∧ rv2 a0 9 = rv a0 9 ∧ rv2 a0 10 = rv a0 10))) args s (((PHM) + 0 - ((Phi (g0 G) sk) ln rv)) / 16) ((PHM) + 0 - ((Phi (g0 G) sk) ln rv)) A) (Phi (g0 G) sk) ((Phi (g0 G) sk) ln rv) Lb2 clb2 lnb2 ivb2 rvb2 0 162 [(5, .int (iI k2)), (4, .int (iI f6)), (3, .ref ob1), (2, .int (iI fl)), (0, .ref a0), (1, .int (iI i))] [] := by
                  intro nn
                  induction nn with
                  | zero =>
                    intro  k2 Lb2 clb2 lnb2 ivb2 rvb2 hm Xb2 Wb2 Fb2  hk2 hco htz h52 hk3 hHD hHB hkp11 hkp12 hkp13 hkp14 hkp15 hkp16 hkr9 hkr10
                    have skb2 := Xb2.skl hS
                    exact absurd hm (by omega)
                  | succ nn ih2 =>
                    intro  k2 Lb2 clb2 lnb2 ivb2 rvb2 hm Xb2 Wb2 Fb2  hk2 hco htz h52 hk3 hHD hHB hkp11 hkp12 hkp13 hkp14 hkp15 hkp16 hkr9 hkr10
                    refine hv2 (Xb2.skl hS) (MRK.call hmr hW hS Xb2 Fb2 rfl rfl) (fun skb2 mrb2 => ?_)
                    refine c_iload (j := 0) C dX11_head_162 rfl ?_
                    refine c_aload_n (j := 4) (x := a0) C dX11_head_164 rfl ?_
                    have ty10 := Xb2.ty t_a0
                    obtain ⟨rb8, rq8, trb8⟩ := Wb2.ref ty10 6 rfl rfl rfl
                    have erb8 := Wb2.sk trb8 (by decide) rfl
                    subst erb8
                    refine c_getr (k := 6) C ck_12 dX11_head_165 w2_50 (by decide) ty10 rfl rfl (by decide) rfl rq8 ?_
                    refine c_st (st2 := [.ref (sk 15), .int (iI k2)]) rfl ?_
                    have ty11 := Xb2.ty tsk15
                    have ri27 : 0 ≤ ivb2 (sk 15) 7 ∧ ivb2 (sk 15) 7 ≤ 100000 := Wb2.int ty11 7
                    refine c_get (k := 7) C ck_7 dX11_head_168 w1_149 (by decide) ty11 rfl rfl (by decide) rfl ?_
                    refine c_icmp_ge (tgt := 206) C (r32_c (lo := 0) (hi := 100) hk2.1 hk2.2 (by decide) (by decide)) (r32_c (lo := 0) (hi := 100000) ri27.1 ri27.2 (by decide) (by decide)) dX11_head_171 (by decide) (fun c5 => ?_) (fun c5 => ?_)
                    · refine c_aload_n (j := 4) (x := a0) C dX11_head_206 rfl ?_
                      refine c_aload_n (j := 4) (x := a0) C dX11_head_207 rfl ?_
                      obtain ⟨rb9, rq9, trb9⟩ := Wb2.ref ty10 3 rfl rfl rfl
                      have erb9 := Wb2.sk trb9 (by decide) rfl
                      subst erb9
                      refine c_getr (k := 3) C ck_12 dX11_head_208 w2_47 (by decide) ty10 rfl rfl (by decide) rfl rq9 ?_
                      refine c_st (st2 := [.ref (sk 5), .ref a0]) rfl ?_
                      have ty12 := Xb2.ty tsk5
                      have ri28 : 0 ≤ ivb2 (sk 5) 2 ∧ ivb2 (sk 5) 2 ≤ 200 := Wb2.int ty12 2
                      refine c_get (k := 2) C ck_2 dX11_head_211 w1_44 (by decide) ty12 rfl rfl (by decide) rfl ?_
                      have pl3 := Phi.le Wb2 skb2
                      refine d_callV (As := [.int (iI (ivb2 (sk 5) 2))]) (rest := []) C hM (C_done (a0 := a0) (x := ivb2 (sk 5) 2) Wb2 skb2 ty10 (by omega) ) dX11_head_214 kV_X11_109 rfl ty10 rfl rfl (by decide) ck_12 rfl (Nat.le_of_ble_eq_true rfl) ⟨(Nat.le_of_ble_eq_true rfl), (Nat.le_of_ble_eq_true rfl)⟩ hph pl3 (show 0 + 0 = 0 from rfl) (by decide) (fun rh8 Lh8 clh8 lnh8 ivh8 rvh8 h8 => ?_)
                      obtain ⟨f8, rfl, rfl, rfl, rfl, rfl, fl8, W8, rgf8, exf8, kp11f8, kp12f8, kp13f8, kp14f8, kp15f8, kp16f8⟩ := h8
                      refine hv8 (show 1 ≤ ivb2 a0 11 ∧ ivb2 a0 11 ≤ 100 from Wb2.int ty10 11) (show 1 ≤ ivb2 a0 12 ∧ ivb2 a0 12 ≤ 50 from Wb2.int ty10 12) (show (-2147483648) ≤ ivb2 a0 13 ∧ ivb2 a0 13 ≤ 2147483647 from Wb2.int ty10 13) (show (-2147483648) ≤ ivb2 a0 14 ∧ ivb2 a0 14 ≤ 2147483647 from Wb2.int ty10 14) (show (-2147483648) ≤ ivb2 a0 15 ∧ ivb2 a0 15 ≤ 2147483647 from Wb2.int ty10 15) (show (-2147483648) ≤ ivb2 a0 16 ∧ ivb2 a0 16 ≤ 2147483647 from Wb2.int ty10 16) (Fb2.call Xb2 fl8 rfl) (MRK.call mrb2 Wb2 skb2 XT.refl fl8 rfl rfl) (fun ri29 ri30 ri31 ri32 ri33 ri34 F7 mr7 => ?_)
                      refine c_st (st2 := [.int (iI f8)]) rfl ?_
                      refine hv19 (show ivh8 a0 11 = ivb2 a0 11 from kp11f8) (show ivh8 a0 12 = ivb2 a0 12 from kp12f8) (show ivh8 a0 13 = ivb2 a0 13 from kp13f8) (show ivh8 a0 14 = ivb2 a0 14 from kp14f8) (show ivh8 a0 15 = ivb2 a0 15 from kp15f8) (show ivh8 a0 16 = ivb2 a0 16 from kp16f8) (show f8 = (ivb2 (sk 5) 2) from exf8) (hHB.fr Wb2 fl8 ty11 ty12 rfl rfl rfl rfl) (Xb2.ty tsk2) (show 1 ≤ ivh8 a0 11 ∧ ivh8 a0 11 ≤ 100 from W8.int ty10 11) (show 1 ≤ ivh8 a0 12 ∧ ivh8 a0 12 ≤ 50 from W8.int ty10 12) (show (-2147483648) ≤ ivh8 a0 13 ∧ ivh8 a0 13 ≤ 2147483647 from W8.int ty10 13) (show (-2147483648) ≤ ivh8 a0 14 ∧ ivh8 a0 14 ≤ 2147483647 from W8.int ty10 14) (show (-2147483648) ≤ ivh8 a0 15 ∧ ivh8 a0 15 ≤ 2147483647 from W8.int ty10 15) (show (-2147483648) ≤ ivh8 a0 16 ∧ ivh8 a0 16 ≤ 2147483647 from W8.int ty10 16) (show 0 ≤ ivh8 (sk 15) 7 ∧ ivh8 (sk 15) 7 ≤ 100000 from W8.int ty11 7) (show ivh8 (sk 15) 7 = ivb2 (sk 15) 7 from fl8.i ty11 rfl 7) (show 0 ≤ ivh8 (sk 5) 2 ∧ ivh8 (sk 5) 2 ≤ 200 from W8.int ty12 2) (show ivh8 (sk 5) 2 = ivb2 (sk 5) 2 from fl8.i ty12 rfl 2) (fun gk11f8 gk12f8 gk13f8 gk14f8 gk15f8 gk16f8 gf8 hDF ty13 ri36 ri37 ri38 ri39 ri40 ri41 ri42 ie50 ri43 ie51 => ?_)
                      refine hv2 (show 0 ≤ ivh8 (sk 2) 2 ∧ ivh8 (sk 2) 2 ≤ 3000 from W8.int ty13 2) (show ivh8 (sk 2) 2 = ivb2 (sk 2) 2 from fl8.i ty13 rfl 2) (fun ri35 ie42 => ?_)
                      exact c_iret C dX11_head_217 rfl (by decide) (rom0 hph pl3 (by decide)) ⟨f8, rfl, Xb2, F7, W8, ⟨by omega, by omega⟩, trivial, (gk11f8.trans hkp11), (gk12f8.trans hkp12), (gk13f8.trans hkp13), (gk14f8.trans hkp14), (gk15f8.trans hkp15), (gk16f8.trans hkp16), (ie42.trans htz), (HDX.ok hHD (by omega)), (Or.inr ⟨by omega, by omega, hDF⟩), (show rvb2 a0 9 = rv a0 9 from hkr9), (show rvb2 a0 10 = rv a0 10 from hkr10)⟩
                    · refine c_iload (j := 0) C dX11_head_174 rfl ?_
                      refine c_aload_n (j := 4) (x := a0) C dX11_head_176 rfl ?_
                      have ri44 : 1 ≤ ivb2 a0 11 ∧ ivb2 a0 11 ≤ 100 := Wb2.int ty10 11
                      refine c_get (k := 11) C ck_12 dX11_head_177 w2_55 (by decide) ty10 rfl rfl (by decide) rfl ?_
                      refine c_icmp_ge (tgt := 206) C (r32_c (lo := 0) (hi := 100) hk2.1 hk2.2 (by decide) (by decide)) (r32_c (lo := 1) (hi := 100) ri44.1 ri44.2 (by decide) (by decide)) dX11_head_180 (by decide) (fun c6 => ?_) (fun c6 => ?_)
                      · refine c_aload_n (j := 4) (x := a0) C dX11_head_206 rfl ?_
                        refine c_aload_n (j := 4) (x := a0) C dX11_head_207 rfl ?_
                        obtain ⟨rb10, rq10, trb10⟩ := Wb2.ref ty10 3 rfl rfl rfl
                        have erb10 := Wb2.sk trb10 (by decide) rfl
                        subst erb10
                        refine c_getr (k := 3) C ck_12 dX11_head_208 w2_47 (by decide) ty10 rfl rfl (by decide) rfl rq10 ?_
                        refine c_st (st2 := [.ref (sk 5), .ref a0]) rfl ?_
                        have ty14 := Xb2.ty tsk5
                        have ri45 : 0 ≤ ivb2 (sk 5) 2 ∧ ivb2 (sk 5) 2 ≤ 200 := Wb2.int ty14 2
                        refine c_get (k := 2) C ck_2 dX11_head_211 w1_44 (by decide) ty14 rfl rfl (by decide) rfl ?_
                        have pl4 := Phi.le Wb2 skb2
                        refine d_callV (As := [.int (iI (ivb2 (sk 5) 2))]) (rest := []) C hM (C_done (a0 := a0) (x := ivb2 (sk 5) 2) Wb2 skb2 ty10 (by omega) ) dX11_head_214 kV_X11_109 rfl ty10 rfl rfl (by decide) ck_12 rfl (Nat.le_of_ble_eq_true rfl) ⟨(Nat.le_of_ble_eq_true rfl), (Nat.le_of_ble_eq_true rfl)⟩ hph pl4 (show 0 + 0 = 0 from rfl) (by decide) (fun rh9 Lh9 clh9 lnh9 ivh9 rvh9 h9 => ?_)
                        obtain ⟨f9, rfl, rfl, rfl, rfl, rfl, fl9, W9, rgf9, exf9, kp11f9, kp12f9, kp13f9, kp14f9, kp15f9, kp16f9⟩ := h9
                        refine hv7 (show 1 ≤ ivb2 a0 12 ∧ ivb2 a0 12 ≤ 50 from Wb2.int ty10 12) (show (-2147483648) ≤ ivb2 a0 13 ∧ ivb2 a0 13 ≤ 2147483647 from Wb2.int ty10 13) (show (-2147483648) ≤ ivb2 a0 14 ∧ ivb2 a0 14 ≤ 2147483647 from Wb2.int ty10 14) (show (-2147483648) ≤ ivb2 a0 15 ∧ ivb2 a0 15 ≤ 2147483647 from Wb2.int ty10 15) (show (-2147483648) ≤ ivb2 a0 16 ∧ ivb2 a0 16 ≤ 2147483647 from Wb2.int ty10 16) (Fb2.call Xb2 fl9 rfl) (MRK.call mrb2 Wb2 skb2 XT.refl fl9 rfl rfl) (fun ri46 ri47 ri48 ri49 ri50 F8 mr8 => ?_)
                        refine c_st (st2 := [.int (iI f9)]) rfl ?_
                        refine hv19 (show ivh9 a0 11 = ivb2 a0 11 from kp11f9) (show ivh9 a0 12 = ivb2 a0 12 from kp12f9) (show ivh9 a0 13 = ivb2 a0 13 from kp13f9) (show ivh9 a0 14 = ivb2 a0 14 from kp14f9) (show ivh9 a0 15 = ivb2 a0 15 from kp15f9) (show ivh9 a0 16 = ivb2 a0 16 from kp16f9) (show f9 = (ivb2 (sk 5) 2) from exf9) (hHB.fr Wb2 fl9 ty11 ty14 rfl rfl rfl rfl) (Xb2.ty tsk2) (show 1 ≤ ivh9 a0 11 ∧ ivh9 a0 11 ≤ 100 from W9.int ty10 11) (show 1 ≤ ivh9 a0 12 ∧ ivh9 a0 12 ≤ 50 from W9.int ty10 12) (show (-2147483648) ≤ ivh9 a0 13 ∧ ivh9 a0 13 ≤ 2147483647 from W9.int ty10 13) (show (-2147483648) ≤ ivh9 a0 14 ∧ ivh9 a0 14 ≤ 2147483647 from W9.int ty10 14) (show (-2147483648) ≤ ivh9 a0 15 ∧ ivh9 a0 15 ≤ 2147483647 from W9.int ty10 15) (show (-2147483648) ≤ ivh9 a0 16 ∧ ivh9 a0 16 ≤ 2147483647 from W9.int ty10 16) (show 0 ≤ ivh9 (sk 15) 7 ∧ ivh9 (sk 15) 7 ≤ 100000 from W9.int ty11 7) (show ivh9 (sk 15) 7 = ivb2 (sk 15) 7 from fl9.i ty11 rfl 7) (show 0 ≤ ivh9 (sk 5) 2 ∧ ivh9 (sk 5) 2 ≤ 200 from W9.int ty14 2) (show ivh9 (sk 5) 2 = ivb2 (sk 5) 2 from fl9.i ty14 rfl 2) (fun gk11f9 gk12f9 gk13f9 gk14f9 gk15f9 gk16f9 gf9 hDF ty15 ri52 ri53 ri54 ri55 ri56 ri57 ri58 ie67 ri59 ie68 => ?_)
                        refine hv2 (show 0 ≤ ivh9 (sk 2) 2 ∧ ivh9 (sk 2) 2 ≤ 3000 from W9.int ty15 2) (show ivh9 (sk 2) 2 = ivb2 (sk 2) 2 from fl9.i ty15 rfl 2) (fun ri51 ie59 => ?_)
                        exact c_iret C dX11_head_217 rfl (by decide) (rom0 hph pl4 (by decide)) ⟨f9, rfl, Xb2, F8, W9, ⟨by omega, by omega⟩, trivial, (gk11f9.trans hkp11), (gk12f9.trans hkp12), (gk13f9.trans hkp13), (gk14f9.trans hkp14), (gk15f9.trans hkp15), (gk16f9.trans hkp16), (ie59.trans htz), (HDX.ok hHD (by omega)), (Or.inr ⟨by omega, by omega, hDF⟩), (show rvb2 a0 9 = rv a0 9 from hkr9), (show rvb2 a0 10 = rv a0 10 from hkr10)⟩
                      · refine c_aload_n (j := 4) (x := a0) C dX11_head_183 rfl ?_
                        obtain ⟨rb11, rq11, trb11⟩ := Wb2.ref ty10 3 rfl rfl rfl
                        have erb11 := Wb2.sk trb11 (by decide) rfl
                        subst erb11
                        refine c_getr (k := 3) C ck_12 dX11_head_184 w2_47 (by decide) ty10 rfl rfl (by decide) rfl rq11 ?_
                        refine c_st (st2 := [.ref (sk 5)]) rfl ?_
                        refine c_aload_n (j := 4) (x := a0) C dX11_head_187 rfl ?_
                        refine c_getr (k := 6) C ck_12 dX11_head_188 w2_50 (by decide) ty10 rfl rfl (by decide) rfl rq8 ?_
                        refine c_st (st2 := [.ref (sk 15), .ref (sk 5)]) rfl ?_
                        obtain ⟨rb12, rq12, trb12⟩ := Wb2.ref ty11 6 rfl rfl rfl
                        have lnrb12 : 200 ≤ lnb2 rb12 ∧ lnb2 rb12 ≤ 200 := Wb2.len trb12 rfl
                        refine c_getr (k := 6) C ck_7 dX11_head_191 w1_146 (by decide) ty11 rfl rfl (by decide) rfl rq12 ?_
                        refine c_st (st2 := [.ref rb12, .ref (sk 5)]) rfl ?_
                        refine c_iload (j := 0) C dX11_head_194 rfl ?_
                        have ll1 : 200 ≤ lnb2 rb12 ∧ lnb2 rb12 ≤ 200 := Wb2.len trb12 rfl
                        refine c_iald C dX11_head_196 trb12 rfl (by omega) (by omega) (by omega) ?_
                        refine hv3 (show (-2147483648) ≤ ivb2 rb12 k2.toNat ∧ ivb2 rb12 k2.toNat ≤ 2147483647 from Wb2.int trb12 k2.toNat) (Xb2.ty tsk5) (Phi.le Wb2 skb2) (fun ri60 ty16 pl5 => ?_)
                        have ri61 : 0 ≤ ivb2 (sk 5) 2 ∧ ivb2 (sk 5) 2 ≤ 200 := Wb2.int ty16 2
                        refine d_callV (As := [.int (iI (ivb2 rb12 k2.toNat))]) (rest := []) C hM (G_add_5 (a0 := (sk 5)) (x := ivb2 rb12 k2.toNat) Wb2 skb2 ty16 (by omega) ) dX11_head_197 kV_X11_112 rfl ty16 rfl rfl (by decide) ck_2 rfl (Nat.le_of_ble_eq_true rfl) ⟨(Nat.le_of_ble_eq_true rfl), (Nat.le_of_ble_eq_true rfl)⟩ hph pl5 (show 0 + 0 = 0 from rfl) (by decide) (fun rh10 Lh10 clh10 lnh10 ivh10 rvh10 h10 => ?_)
                        obtain ⟨rfl, xl10, fl10, W10, exf10⟩ := h10
                        refine hv13 (Fb2.call Xb2 fl10 rfl) (MRK.call mrb2 Wb2 skb2 xl10 fl10 rfl rfl) (Xb2.ty tsk2) (Xb2.ty tsk3) (Xb2.ty tsk4) (Xb2.ty tsk13) (Xb2.ty tsk14) (Xb2.ty tsk16) (Xb2.ty tsk17) (Xb2.ty tsk22) (Xb2.ty tsk23) (Xb2.trans xl10) (xl10.skl skb2) (fun F9 mr9 ty17 ty18 ty19 ty20 ty21 ty22 ty23 ty24 ty25 X1 sk1 => ?_)
                        refine c_st (st2 := []) rfl ?_
                        refine hv2 (xl10.ty ty16) (show ((ivh10 (sk 5) 2 = ivb2 (sk 5) 2 ∧ ivb2 (sk 5) 2 = 200) ∨ (ivh10 (sk 5) 2 = ivb2 (sk 5) 2 + 1 ∧ ivb2 (sk 5) 2 < 200)) ∧ (∀ ss, CT ivb2 rvb2 (sk 5) ss → ivb2 (sk 5) 2 < 200 → CT ivh10 rvh10 (sk 5) (va_up ss (ivb2 (sk 5) 2).toNat (ivb2 rb12 k2.toNat))) ∧ (ivb2 (sk 5) 2 = 200 → ∀ ss, CT ivb2 rvb2 (sk 5) ss → CT ivh10 rvh10 (sk 5) ss) from exf10) (fun ty26 gf10 => ?_)
                        have ri62 : 0 ≤ ivh10 (sk 5) 2 ∧ ivh10 (sk 5) 2 ≤ 200 := W10.int ty26 2
                        refine c_iinc (z := k2) (j := 0) (lv2 := [(5, .int (iI (k2 + 1))), (4, .int (iI f6)), (3, .ref ob1), (2, .int (iI fl)), (0, .ref a0), (1, .int (iI i))]) C dX11_head_200 rfl (by decide) rfl ?_
                        refine c_goto (tgt := 162) C dX11_head_203 (by decide) ?_
                        refine hv11 (xl10.ty ty11) (show ivh10 (sk 15) 7 = ivb2 (sk 15) 7 from fl10.i ty11 rfl 7) (xl10.ty ty17) (show ivh10 (sk 2) 2 = ivb2 (sk 2) 2 from fl10.i ty17 rfl 2) (xl10.ty ty10) (show ivh10 a0 11 = ivb2 a0 11 from fl10.i ty10 rfl 11) (show ivh10 a0 12 = ivb2 a0 12 from fl10.i ty10 rfl 12) (show ivh10 a0 13 = ivb2 a0 13 from fl10.i ty10 rfl 13) (show ivh10 a0 14 = ivb2 a0 14 from fl10.i ty10 rfl 14) (show ivh10 a0 15 = ivb2 a0 15 from fl10.i ty10 rfl 15) (show ivh10 a0 16 = ivb2 a0 16 from fl10.i ty10 rfl 16) (fun ty27 ie72 ty28 ie73 ty29 ie75 ie76 ie78 ie80 ie82 ie84 => ?_)
                        refine hv8 (show 0 ≤ ivh10 (sk 15) 7 ∧ ivh10 (sk 15) 7 ≤ 100000 from W10.int ty27 7) (show 0 ≤ ivh10 (sk 2) 2 ∧ ivh10 (sk 2) 2 ≤ 3000 from W10.int ty28 2) (show 1 ≤ ivh10 a0 11 ∧ ivh10 a0 11 ≤ 100 from W10.int ty29 11) (show 1 ≤ ivh10 a0 12 ∧ ivh10 a0 12 ≤ 50 from W10.int ty29 12) (show (-2147483648) ≤ ivh10 a0 13 ∧ ivh10 a0 13 ≤ 2147483647 from W10.int ty29 13) (show (-2147483648) ≤ ivh10 a0 14 ∧ ivh10 a0 14 ≤ 2147483647 from W10.int ty29 14) (show (-2147483648) ≤ ivh10 a0 15 ∧ ivh10 a0 15 ≤ 2147483647 from W10.int ty29 15) (show (-2147483648) ≤ ivh10 a0 16 ∧ ivh10 a0 16 ≤ 2147483647 from W10.int ty29 16) (fun ri63 ri64 ri65 ri66 ri67 ri68 ri69 ri70 => ?_)
                        refine c_lv (lv2 := [(5, .int (iI (k2 + 1))), (4, .int (iI f6)), (3, .ref ob1), (2, .int (iI fl)), (0, .ref a0), (1, .int (iI i))]) [0, 1, 2, 3, 4, 5] rfl ?_
                        exact ih2  (k2 + 1) _ _ _ _ _ (by omega) X1 W10 F9  (by omega) (by show ivh10 (sk 15) 7 ≤ 200; omega) (ie73.trans htz) (by show ivh10 (sk 5) 2 = (k2 + 1); omega) (by show (k2 + 1) ≤ ivh10 (sk 15) 7 ∧ (k2 + 1) ≤ iv a0 11; omega) (by rw [show ivh10 (sk 15) 7 = ivb2 (sk 15) 7 by omega]; exact hHD) (hHB.step Wb2 fl10 ty11 rfl rfl gf10.2.1 rq12 (by rw [show ivb2 (sk 5) 2 = k2 by omega]) ⟨by omega, by omega, by omega⟩) (ie75.trans hkp11) (ie76.trans hkp12) (ie78.trans hkp13) (ie80.trans hkp14) (ie82.trans hkp15) (ie84.trans hkp16) (Eq.trans (show rvh10 a0 9 = rvb2 a0 9 from (fl10.r ty10 rfl 9)) (show rvb2 a0 9 = rv a0 9 from hkr9)) (Eq.trans (show rvh10 a0 10 = rvb2 a0 10 from (fl10.r ty10 rfl 10)) (show rvb2 a0 10 = rv a0 10 from hkr10))
                refine hv29 (show 0 ≤ ivh7 (sk 15) 7 ∧ ivh7 (sk 15) 7 ≤ 100000 from W7.int ty7 7) (show ivh7 (sk 15) 7 = ivh6 (sk 15) 7 from fl7.i ty7 rfl 7) (show 0 ≤ ivh7 (sk 2) 2 ∧ ivh7 (sk 2) 2 ≤ 3000 from W7.int ty6 2) (show ivh7 (sk 2) 2 = ivh6 (sk 2) 2 from fl7.i ty6 rfl 2) (show ivh6 (sk 2) 2 = ivh4 (sk 2) 2 from fl6.i ty6 rfl 2) (show 1 ≤ ivh7 a0 11 ∧ ivh7 a0 11 ≤ 100 from W7.int ty5 11) (show ivh7 a0 11 = ivh6 a0 11 from fl7.i ty5 rfl 11) (show ivh6 a0 11 = ivh4 a0 11 from fl6.i ty5 rfl 11) (show ivh4 a0 11 = ivb1 a0 11 from fl4.i ty5 rfl 11) (show 1 ≤ ivh7 a0 12 ∧ ivh7 a0 12 ≤ 50 from W7.int ty5 12) (show ivh7 a0 12 = ivh6 a0 12 from fl7.i ty5 rfl 12) (show ivh6 a0 12 = ivh4 a0 12 from fl6.i ty5 rfl 12) (show ivh4 a0 12 = ivb1 a0 12 from fl4.i ty5 rfl 12) (show (-2147483648) ≤ ivh7 a0 13 ∧ ivh7 a0 13 ≤ 2147483647 from W7.int ty5 13) (show ivh7 a0 13 = ivh6 a0 13 from fl7.i ty5 rfl 13) (show ivh6 a0 13 = ivh4 a0 13 from fl6.i ty5 rfl 13) (show ivh4 a0 13 = ivb1 a0 13 from fl4.i ty5 rfl 13) (show (-2147483648) ≤ ivh7 a0 14 ∧ ivh7 a0 14 ≤ 2147483647 from W7.int ty5 14) (show ivh7 a0 14 = ivh6 a0 14 from fl7.i ty5 rfl 14) (show ivh6 a0 14 = ivh4 a0 14 from fl6.i ty5 rfl 14) (show ivh4 a0 14 = ivb1 a0 14 from fl4.i ty5 rfl 14) (show (-2147483648) ≤ ivh7 a0 15 ∧ ivh7 a0 15 ≤ 2147483647 from W7.int ty5 15) (show ivh7 a0 15 = ivh6 a0 15 from fl7.i ty5 rfl 15) (show ivh6 a0 15 = ivh4 a0 15 from fl6.i ty5 rfl 15) (show ivh4 a0 15 = ivb1 a0 15 from fl4.i ty5 rfl 15) (show (-2147483648) ≤ ivh7 a0 16 ∧ ivh7 a0 16 ≤ 2147483647 from W7.int ty5 16) (show ivh7 a0 16 = ivh6 a0 16 from fl7.i ty5 rfl 16) (show ivh6 a0 16 = ivh4 a0 16 from fl6.i ty5 rfl 16) (show ivh4 a0 16 = ivb1 a0 16 from fl4.i ty5 rfl 16) (fun ri71 ie86 ri72 ie87 ie88 ri73 ie89 ie90 ie91 ri74 ie93 ie94 ie95 ri75 ie97 ie98 ie99 ri76 ie101 ie102 ie103 ri77 ie105 ie106 ie107 ri78 ie109 ie110 ie111 => ?_)
                refine c_lv (lv2 := [(5, .int (iI 0)), (4, .int (iI f6)), (3, .ref ob1), (2, .int (iI fl)), (0, .ref a0), (1, .int (iI i))]) [0, 1, 2, 3, 4, 5] rfl ?_
                exact Lp2 103 0 _ _ _ _ _ (by omega) Xb1 W7 F6  (by omega) (by show ivh7 (sk 15) 7 ≤ 200; omega) (ie87.trans (ie88.trans gf4)) gf7 (by show 0 ≤ ivh7 (sk 15) 7 ∧ 0 ≤ iv a0 11; omega) (HDP.mk wkob1 (QT.of hW hS Xb1 F4 rfl rfl rfl rfl rfl) hLC (by omega) (by omega) hWD (by omega) gf6.2 (by omega) (by omega)) (HDB.mk wkob1 (QT.of hW hS Xb1 F4 rfl rfl rfl rfl rfl) hLC (by omega) (by omega) gf6.2 (by omega) W6 fl7 ty7 rfl rfl (by omega)) (ie89.trans (ie90.trans (ie91.trans hkp11))) (ie93.trans (ie94.trans (ie95.trans hkp12))) (ie97.trans (ie98.trans (ie99.trans hkp13))) (ie101.trans (ie102.trans (ie103.trans hkp14))) (ie105.trans (ie106.trans (ie107.trans hkp15))) (ie109.trans (ie110.trans (ie111.trans hkp16))) (show rvb1 a0 9 = rv a0 9 from hkr9) (show rvb1 a0 10 = rv a0 10 from hkr10)
              · replace gf6 := (And.intro (And.intro (gf6.1.1.resolve_left c4) (And.intro gf6.1.2.1 trivial)) gf6.2)
                refine c_aload_n (j := 3) (x := a0) C dX11_head_138 rfl ?_
                refine c_iload (j := 0) C dX11_head_139 rfl ?_
                refine c_aload_n (j := 3) (x := a0) C dX11_head_141 rfl ?_
                refine c_getr (k := 6) C ck_12 dX11_head_142 w2_50 (by decide) ty5 rfl rfl (by decide) rfl rq6 ?_
                refine c_st (st2 := [.ref (sk 15), .int (iI f6), .ref a0]) rfl ?_
                refine d_callV (As := []) (rest := [.int (iI f6), .ref a0]) C hM (C_placeOfUnknown (a0 := (sk 15)) W6 skb1 ty7  ) dX11_head_145 kV_X11_263 rfl ty7 rfl rfl (by decide) ck_7 rfl (Nat.le_of_ble_eq_true rfl) ⟨(Nat.le_of_ble_eq_true rfl), (Nat.le_of_ble_eq_true rfl)⟩ hph pl2 (show 0 + 0 = 0 from rfl) (by decide) (fun rh11 Lh11 clh11 lnh11 ivh11 rvh11 h11 => ?_)
                obtain ⟨f11, rfl, rfl, rfl, rfl, rfl, rfl, rgf11, exf11⟩ := h11
                refine c_st (st2 := [.int (iI f11), .int (iI f6), .ref a0]) rfl ?_
                refine d_callV (As := [.int (iI f6), .int (iI f11)]) (rest := []) C hM (C_refuseAt (a0 := a0) (x := f6) (y := f11) W6 skb1 ty5 (by omega) (by omega) ) dX11_head_148 kV_X11_266 rfl ty5 rfl rfl (by decide) ck_12 rfl (Nat.le_of_ble_eq_true rfl) ⟨(Nat.le_of_ble_eq_true rfl), (Nat.le_of_ble_eq_true rfl)⟩ hph pl2 (show 0 + 0 = 0 from rfl) (by decide) (fun rh12 Lh12 clh12 lnh12 ivh12 rvh12 h12 => ?_)
                obtain ⟨f12, rfl, rfl, rfl, rfl, rfl, fl12, W12, rgf12, exf12, kp11f12, kp12f12, kp13f12, kp14f12, kp15f12, kp16f12⟩ := h12
                refine hv20 (show 1 ≤ ivh6 a0 11 ∧ ivh6 a0 11 ≤ 100 from W6.int ty5 11) (show ivh6 a0 11 = ivh4 a0 11 from fl6.i ty5 rfl 11) (show ivh4 a0 11 = ivb1 a0 11 from fl4.i ty5 rfl 11) (show 1 ≤ ivh6 a0 12 ∧ ivh6 a0 12 ≤ 50 from W6.int ty5 12) (show ivh6 a0 12 = ivh4 a0 12 from fl6.i ty5 rfl 12) (show ivh4 a0 12 = ivb1 a0 12 from fl4.i ty5 rfl 12) (show (-2147483648) ≤ ivh6 a0 13 ∧ ivh6 a0 13 ≤ 2147483647 from W6.int ty5 13) (show ivh6 a0 13 = ivh4 a0 13 from fl6.i ty5 rfl 13) (show ivh4 a0 13 = ivb1 a0 13 from fl4.i ty5 rfl 13) (show (-2147483648) ≤ ivh6 a0 14 ∧ ivh6 a0 14 ≤ 2147483647 from W6.int ty5 14) (show ivh6 a0 14 = ivh4 a0 14 from fl6.i ty5 rfl 14) (show ivh4 a0 14 = ivb1 a0 14 from fl4.i ty5 rfl 14) (show (-2147483648) ≤ ivh6 a0 15 ∧ ivh6 a0 15 ≤ 2147483647 from W6.int ty5 15) (show ivh6 a0 15 = ivh4 a0 15 from fl6.i ty5 rfl 15) (show ivh4 a0 15 = ivb1 a0 15 from fl4.i ty5 rfl 15) (show (-2147483648) ≤ ivh6 a0 16 ∧ ivh6 a0 16 ≤ 2147483647 from W6.int ty5 16) (show ivh6 a0 16 = ivh4 a0 16 from fl6.i ty5 rfl 16) (show ivh4 a0 16 = ivb1 a0 16 from fl4.i ty5 rfl 16) (F5.call Xb1 fl12 rfl) (MRK.call mr5 W6 skb1 XT.refl fl12 rfl rfl) (fun ri79 ie113 ie114 ri80 ie116 ie117 ri81 ie119 ie120 ri82 ie122 ie123 ri83 ie125 ie126 ri84 ie128 ie129 F10 mr10 => ?_)
                refine c_st (st2 := [.int (iI f12)]) rfl ?_
                refine hv17 (show ivh12 a0 11 = ivh6 a0 11 from kp11f12) (show ivh12 a0 12 = ivh6 a0 12 from kp12f12) (show ivh12 a0 13 = ivh6 a0 13 from kp13f12) (show ivh12 a0 14 = ivh6 a0 14 from kp14f12) (show ivh12 a0 15 = ivh6 a0 15 from kp15f12) (show ivh12 a0 16 = ivh6 a0 16 from kp16f12) (show f12 = -1 from exf12) (show 0 ≤ ivh12 (sk 2) 2 ∧ ivh12 (sk 2) 2 ≤ 3000 from W12.int ty6 2) (show ivh12 (sk 2) 2 = ivh6 (sk 2) 2 from fl12.i ty6 rfl 2) (show ivh6 (sk 2) 2 = ivh4 (sk 2) 2 from fl6.i ty6 rfl 2) (show 1 ≤ ivh12 a0 11 ∧ ivh12 a0 11 ≤ 100 from W12.int ty5 11) (show 1 ≤ ivh12 a0 12 ∧ ivh12 a0 12 ≤ 50 from W12.int ty5 12) (show (-2147483648) ≤ ivh12 a0 13 ∧ ivh12 a0 13 ≤ 2147483647 from W12.int ty5 13) (show (-2147483648) ≤ ivh12 a0 14 ∧ ivh12 a0 14 ≤ 2147483647 from W12.int ty5 14) (show (-2147483648) ≤ ivh12 a0 15 ∧ ivh12 a0 15 ≤ 2147483647 from W12.int ty5 15) (show (-2147483648) ≤ ivh12 a0 16 ∧ ivh12 a0 16 ≤ 2147483647 from W12.int ty5 16) (Xb1.ty tsk5) (fun gk11f12 gk12f12 gk13f12 gk14f12 gk15f12 gk16f12 gf12 ri85 ie131 ie132 ri86 ri87 ri88 ri89 ri90 ri91 ty30 => ?_)
                refine hv4 (show 0 ≤ ivh12 (sk 5) 2 ∧ ivh12 (sk 5) 2 ≤ 200 from W12.int ty30 2) (show ivh12 (sk 5) 2 = ivh6 (sk 5) 2 from fl12.i ty30 rfl 2) (show ivh6 (sk 5) 2 = ivh4 (sk 5) 2 from fl6.i ty30 rfl 2) (show ivh4 (sk 5) 2 = ivb1 (sk 5) 2 from fl4.i ty30 rfl 2) (fun ri92 ie139 ie140 ie141 => ?_)
                exact c_iret C dX11_head_151 rfl (by decide) (rom0 hph pl2 (by decide)) ⟨f12, rfl, Xb1, F10, W12, ⟨by omega, by omega⟩, trivial, (gk11f12.trans (ie113.trans (ie114.trans hkp11))), (gk12f12.trans (ie116.trans (ie117.trans hkp12))), (gk13f12.trans (ie119.trans (ie120.trans hkp13))), (gk14f12.trans (ie122.trans (ie123.trans hkp14))), (gk15f12.trans (ie125.trans (ie126.trans hkp15))), (gk16f12.trans (ie128.trans (ie129.trans hkp16))), (ie131.trans (ie132.trans gf4)), (HDX.ns wkob1 (QT.of hW hS Xb1 F4 rfl rfl rfl rfl rfl) hLC (by omega) (by omega) gf6.2 (by omega) (by omega)), (Or.inl ⟨by omega, by omega, fun ss hs => (CT.fr (CT.fr (CT.fr (hHC ss hs) Wb1 ty30 fl4 rfl rfl rfl rfl rfl) W4 ty30 fl6 rfl rfl rfl rfl rfl) W6 ty30 fl12 rfl rfl rfl rfl rfl)⟩), (show rvb1 a0 9 = rv a0 9 from hkr9), (show rvb1 a0 10 = rv a0 10 from hkr10)⟩
            · subst oq1
              refine c_lv (lv2 := [(3, .null), (2, .int (iI fl)), (0, .ref a0), (1, .int (iI i))]) [0, 1, 2, 3] rfl ?_
              refine c_st (st2 := []) rfl ?_
              refine c_aload_n (j := 2) (x := a0) C dX11_head_117 rfl ?_
              refine c_iconst C dX11_head_118 ?_
              refine d_callV (As := [.int (iI 3)]) (rest := []) C hM (C_refuse (a0 := a0) (x := 3) W4 skb1 ty5 ⟨by decide, by decide⟩ ) dX11_head_119 kV_X11_102 rfl ty5 rfl rfl (by decide) ck_12 rfl (Nat.le_of_ble_eq_true rfl) ⟨(Nat.le_of_ble_eq_true rfl), (Nat.le_of_ble_eq_true rfl)⟩ hph pl2 (show 0 + 0 = 0 from rfl) (by decide) (fun rh13 Lh13 clh13 lnh13 ivh13 rvh13 h13 => ?_)
              obtain ⟨f13, rfl, rfl, rfl, rfl, rfl, fl13, W13, rgf13, exf13, kp11f13, kp12f13, kp13f13, kp14f13, kp15f13, kp16f13⟩ := h13
              refine hv14 (show 1 ≤ ivh4 a0 11 ∧ ivh4 a0 11 ≤ 100 from W4.int ty5 11) (show ivh4 a0 11 = ivb1 a0 11 from fl4.i ty5 rfl 11) (show 1 ≤ ivh4 a0 12 ∧ ivh4 a0 12 ≤ 50 from W4.int ty5 12) (show ivh4 a0 12 = ivb1 a0 12 from fl4.i ty5 rfl 12) (show (-2147483648) ≤ ivh4 a0 13 ∧ ivh4 a0 13 ≤ 2147483647 from W4.int ty5 13) (show ivh4 a0 13 = ivb1 a0 13 from fl4.i ty5 rfl 13) (show (-2147483648) ≤ ivh4 a0 14 ∧ ivh4 a0 14 ≤ 2147483647 from W4.int ty5 14) (show ivh4 a0 14 = ivb1 a0 14 from fl4.i ty5 rfl 14) (show (-2147483648) ≤ ivh4 a0 15 ∧ ivh4 a0 15 ≤ 2147483647 from W4.int ty5 15) (show ivh4 a0 15 = ivb1 a0 15 from fl4.i ty5 rfl 15) (show (-2147483648) ≤ ivh4 a0 16 ∧ ivh4 a0 16 ≤ 2147483647 from W4.int ty5 16) (show ivh4 a0 16 = ivb1 a0 16 from fl4.i ty5 rfl 16) (F4.call Xb1 fl13 rfl) (MRK.call mr4 W4 skb1 XT.refl fl13 rfl rfl) (fun ri93 ie143 ri94 ie145 ri95 ie147 ri96 ie149 ri97 ie151 ri98 ie153 F11 mr11 => ?_)
              refine c_st (st2 := [.int (iI f13)]) rfl ?_
              refine hv16 (show ivh13 a0 11 = ivh4 a0 11 from kp11f13) (show ivh13 a0 12 = ivh4 a0 12 from kp12f13) (show ivh13 a0 13 = ivh4 a0 13 from kp13f13) (show ivh13 a0 14 = ivh4 a0 14 from kp14f13) (show ivh13 a0 15 = ivh4 a0 15 from kp15f13) (show ivh13 a0 16 = ivh4 a0 16 from kp16f13) (show f13 = -1 from exf13) (show 0 ≤ ivh13 (sk 2) 2 ∧ ivh13 (sk 2) 2 ≤ 3000 from W13.int ty6 2) (show ivh13 (sk 2) 2 = ivh4 (sk 2) 2 from fl13.i ty6 rfl 2) (show 1 ≤ ivh13 a0 11 ∧ ivh13 a0 11 ≤ 100 from W13.int ty5 11) (show 1 ≤ ivh13 a0 12 ∧ ivh13 a0 12 ≤ 50 from W13.int ty5 12) (show (-2147483648) ≤ ivh13 a0 13 ∧ ivh13 a0 13 ≤ 2147483647 from W13.int ty5 13) (show (-2147483648) ≤ ivh13 a0 14 ∧ ivh13 a0 14 ≤ 2147483647 from W13.int ty5 14) (show (-2147483648) ≤ ivh13 a0 15 ∧ ivh13 a0 15 ≤ 2147483647 from W13.int ty5 15) (show (-2147483648) ≤ ivh13 a0 16 ∧ ivh13 a0 16 ≤ 2147483647 from W13.int ty5 16) (Xb1.ty tsk5) (fun gk11f13 gk12f13 gk13f13 gk14f13 gk15f13 gk16f13 gf13 ri99 ie155 ri100 ri101 ri102 ri103 ri104 ri105 ty31 => ?_)
              refine hv3 (show 0 ≤ ivh13 (sk 5) 2 ∧ ivh13 (sk 5) 2 ≤ 200 from W13.int ty31 2) (show ivh13 (sk 5) 2 = ivh4 (sk 5) 2 from fl13.i ty31 rfl 2) (show ivh4 (sk 5) 2 = ivb1 (sk 5) 2 from fl4.i ty31 rfl 2) (fun ri106 ie162 ie163 => ?_)
              exact c_iret C dX11_head_122 rfl (by decide) (rom0 hph pl2 (by decide)) ⟨f13, rfl, Xb1, F11, W13, ⟨by omega, by omega⟩, trivial, (gk11f13.trans (ie143.trans hkp11)), (gk12f13.trans (ie145.trans hkp12)), (gk13f13.trans (ie147.trans hkp13)), (gk14f13.trans (ie149.trans hkp14)), (gk15f13.trans (ie151.trans hkp15)), (gk16f13.trans (ie153.trans hkp16)), (ie155.trans gf4), (HDX.nw gf5 (QT.of hW hS Xb1 F4 rfl rfl rfl rfl rfl) (by omega)), (Or.inl ⟨by omega, by omega, fun ss hs => (CT.fr (CT.fr (hHC ss hs) Wb1 ty31 fl4 rfl rfl rfl rfl rfl) W4 ty31 fl13 rfl rfl rfl rfl rfl)⟩), (show rvb1 a0 9 = rv a0 9 from hkr9), (show rvb1 a0 10 = rv a0 10 from hkr10)⟩
          · refine c_aload_n (j := 2) (x := a0) C dX11_head_64 rfl ?_
            obtain ⟨rb13, rq13, trb13⟩ := Wb1.ref ty5 6 rfl rfl rfl
            have erb13 := Wb1.sk trb13 (by decide) rfl
            subst erb13
            refine c_getr (k := 6) C ck_12 dX11_head_65 w2_50 (by decide) ty5 rfl rfl (by decide) rfl rq13 ?_
            refine c_st (st2 := [.ref (sk 15)]) rfl ?_
            refine c_aload_n (j := 2) (x := a0) C dX11_head_68 rfl ?_
            refine c_getr (k := 0) C ck_12 dX11_head_69 w2_44 (by decide) ty5 rfl rfl (by decide) rfl rq4 ?_
            refine c_st (st2 := [.ref (sk 2), .ref (sk 15)]) rfl ?_
            refine c_iload_n (j := 1) C dX11_head_72 rfl ?_
            have pl6 := Phi.le Wb1 skb1
            refine d_callV (As := [.int (iI k)]) (rest := [.ref (sk 15)]) C hM (C_at_2 (a0 := (sk 2)) (i := k) Wb1 skb1 ty6 (by omega) ) dX11_head_73 kV_X11_224 rfl ty6 rfl rfl (by decide) ck_2 rfl (Nat.le_of_ble_eq_true rfl) ⟨(Nat.le_of_ble_eq_true rfl), (Nat.le_of_ble_eq_true rfl)⟩ hph pl6 (show 0 + 0 = 0 from rfl) (by decide) (fun rh14 Lh14 clh14 lnh14 ivh14 rvh14 h14 => ?_)
            obtain ⟨f14, rfl, rfl, rfl, rfl, rfl, rfl, rgf14, exf14⟩ := h14
            refine c_st (st2 := [.int (iI f14), .ref (sk 15)]) rfl ?_
            have gf14 : ((0 ≤ k ∧ k < ivb1 (sk 2) 2) ∨ f14 = 0) ∧ ∀ ss, CT ivb1 rvb1 (sk 2) ss → 0 ≤ k → k < ivb1 (sk 2) 2 → f14 = ss k.toNat := exf14
            refine c_iload_n (j := 1) C dX11_head_76 rfl ?_
            have ty32 := Xb1.ty tsk15
            have ri107 : 0 ≤ ivb1 (sk 15) 4 ∧ ivb1 (sk 15) 4 ≤ 500 := Wb1.int ty32 4
            refine d_callV (As := [.int (iI f14), .int (iI k)]) (rest := []) C hM (G_put (a0 := (sk 15)) (x := f14) (y := k) Wb1 skb1 ty32 (by omega) (by omega) ) dX11_head_77 kV_X11_273 rfl ty32 rfl rfl (by decide) ck_7 rfl (Nat.le_of_ble_eq_true rfl) ⟨(Nat.le_of_ble_eq_true rfl), (Nat.le_of_ble_eq_true rfl)⟩ hph pl6 (show 0 + 0 = 0 from rfl) (by decide) (fun rh16 Lh16 clh16 lnh16 ivh16 rvh16 h16 => ?_)
            obtain ⟨rfl, rfl, rfl, rfl, rfl, fl15, W15, exf15⟩ := h16
            refine hv2 (Fb1.call Xb1 fl15 rfl) (MRK.call mrb1 Wb1 skb1 XT.refl fl15 rfl rfl) (fun F12 mr12 => ?_)
            refine c_st (st2 := []) rfl ?_
            refine hv2 (show 0 ≤ ivh16 (sk 15) 4 ∧ ivh16 (sk 15) 4 ≤ 500 from W15.int ty32 4) (show (ivb1 (sk 15) 4 < 500 → ivh16 (sk 15) 4 = ivb1 (sk 15) 4 + 1) ∧ PTL ivb1 rvb1 ivh16 (sk 15) f14 from exf15) (fun ri108 gf15 => ?_)
            refine c_iinc (z := k) (j := 1) (lv2 := [(3, .int (iI (k + 1))), (2, .int (iI fl)), (0, .ref a0), (1, .int (iI i))]) C dX11_head_80 rfl (by decide) rfl ?_
            refine c_goto (tgt := 49) C dX11_head_83 (by decide) ?_
            refine hv15 (show 0 ≤ ivh16 (sk 2) 2 ∧ ivh16 (sk 2) 2 ≤ 3000 from W15.int ty6 2) (show ivh16 (sk 2) 2 = ivb1 (sk 2) 2 from fl15.i ty6 rfl 2) (Xb1.ty tsk5) (show 1 ≤ ivh16 a0 11 ∧ ivh16 a0 11 ≤ 100 from W15.int ty5 11) (show ivh16 a0 11 = ivb1 a0 11 from fl15.i ty5 rfl 11) (show 1 ≤ ivh16 a0 12 ∧ ivh16 a0 12 ≤ 50 from W15.int ty5 12) (show ivh16 a0 12 = ivb1 a0 12 from fl15.i ty5 rfl 12) (show (-2147483648) ≤ ivh16 a0 13 ∧ ivh16 a0 13 ≤ 2147483647 from W15.int ty5 13) (show ivh16 a0 13 = ivb1 a0 13 from fl15.i ty5 rfl 13) (show (-2147483648) ≤ ivh16 a0 14 ∧ ivh16 a0 14 ≤ 2147483647 from W15.int ty5 14) (show ivh16 a0 14 = ivb1 a0 14 from fl15.i ty5 rfl 14) (show (-2147483648) ≤ ivh16 a0 15 ∧ ivh16 a0 15 ≤ 2147483647 from W15.int ty5 15) (show ivh16 a0 15 = ivb1 a0 15 from fl15.i ty5 rfl 15) (show (-2147483648) ≤ ivh16 a0 16 ∧ ivh16 a0 16 ≤ 2147483647 from W15.int ty5 16) (show ivh16 a0 16 = ivb1 a0 16 from fl15.i ty5 rfl 16) (fun ri109 ie167 ty33 ri111 ie170 ri112 ie172 ri113 ie174 ri114 ie176 ri115 ie178 ri116 ie180 => ?_)
            refine hv2 (show 0 ≤ ivh16 (sk 5) 2 ∧ ivh16 (sk 5) 2 ≤ 200 from W15.int ty33 2) (show ivh16 (sk 5) 2 = ivb1 (sk 5) 2 from fl15.i ty33 rfl 2) (fun ri110 ie168 => ?_)
            refine c_lv (lv2 := [(2, .int (iI fl)), (3, .int (iI (k + 1))), (0, .ref a0), (1, .int (iI i))]) [1, 0, 2, 3] rfl ?_
            exact ih1  fl (k + 1) _ _ _ _ _ (by omega) Xb1 W15 F12  (by omega) (by omega) (by show ivh16 (sk 15) 4 = (k + 1); omega) (by omega) (ie167.trans h22) hf40 hWD (fun ss hs => CT.fr (hCT ss hs) Wb1 ty6 fl15 rfl rfl rfl rfl rfl) (hLT.put gf15.2 (by omega) ⟨by omega, by omega⟩ (fun ss hs => gf14.2 ss (hCT ss hs) (by omega) (by omega))) (ie168.trans hH5) (fun ss hs => CT.fr (hHC ss hs) Wb1 ty33 fl15 rfl rfl rfl rfl rfl) (ie170.trans hkp11) (ie172.trans hkp12) (ie174.trans hkp13) (ie176.trans hkp14) (ie178.trans hkp15) (ie180.trans hkp16) (show rvb1 a0 9 = rv a0 9 from hkr9) (show rvb1 a0 10 = rv a0 10 from hkr10)
    refine hv16 (show 0 ≤ ivh1 (sk 2) 2 ∧ ivh1 (sk 2) 2 ≤ 3000 from W1.int tsk2 2) (show ivh1 (sk 2) 2 = iv (sk 2) 2 from fl1.i tsk2 rfl 2) (show 0 ≤ ivh1 (sk 5) 2 ∧ ivh1 (sk 5) 2 ≤ 200 from W1.int tsk5 2) (show ivh1 (sk 5) 2 = iv (sk 5) 2 from fl1.i tsk5 rfl 2) (show 1 ≤ ivh1 a0 11 ∧ ivh1 a0 11 ≤ 100 from W1.int t_a0 11) (show ivh1 a0 11 = iv a0 11 from fl1.i t_a0 rfl 11) (show 1 ≤ ivh1 a0 12 ∧ ivh1 a0 12 ≤ 50 from W1.int t_a0 12) (show ivh1 a0 12 = iv a0 12 from fl1.i t_a0 rfl 12) (show (-2147483648) ≤ ivh1 a0 13 ∧ ivh1 a0 13 ≤ 2147483647 from W1.int t_a0 13) (show ivh1 a0 13 = iv a0 13 from fl1.i t_a0 rfl 13) (show (-2147483648) ≤ ivh1 a0 14 ∧ ivh1 a0 14 ≤ 2147483647 from W1.int t_a0 14) (show ivh1 a0 14 = iv a0 14 from fl1.i t_a0 rfl 14) (show (-2147483648) ≤ ivh1 a0 15 ∧ ivh1 a0 15 ≤ 2147483647 from W1.int t_a0 15) (show ivh1 a0 15 = iv a0 15 from fl1.i t_a0 rfl 15) (show (-2147483648) ≤ ivh1 a0 16 ∧ ivh1 a0 16 ≤ 2147483647 from W1.int t_a0 16) (show ivh1 a0 16 = iv a0 16 from fl1.i t_a0 rfl 16) (fun ri117 ie182 ri118 ie183 ri119 ie184 ri120 ie185 ri121 ie186 ri122 ie187 ri123 ie188 ri124 ie189 => ?_)
    refine c_lv (lv2 := [(2, .int (iI 0)), (3, .int (iI 0)), (0, .ref a0), (1, .int (iI i))]) [1, 0, 2, 3] rfl ?_
    exact Lp1 3003 0 0 _ _ _ _ _ (by omega) hX0 W1 F1  (by omega) (by omega) gf1 (by omega) ie182 (fun q => absurd q (by decide)) (fun ss hs => ⟨fun q => absurd q (by decide), fun q => absurd q.1 (by omega)⟩) (fun ss hs => CT.fr hs hW tsk2 fl1 rfl rfl rfl rfl rfl) LTA.zero ie183 (fun ss hs => CT.fr hs hW tsk5 fl1 rfl rfl rfl rfl rfl) ie184 ie185 ie186 ie187 ie188 ie189 rfl rfl
  · refine c_aload_n (j := 0) (x := a0) C dX11_head_12 rfl ?_
    refine c_getr (k := 0) C ck_12 dX11_head_13 w2_44 (by decide) t_a0 rfl rfl (by decide) rfl rq1 ?_
    refine c_st (st2 := [.ref (sk 2)]) rfl ?_
    refine c_iconst C dX11_head_16 ?_
    refine c_aload_n (j := 0) (x := a0) C dX11_head_17 rfl ?_
    refine c_getr (k := 0) C ck_12 dX11_head_18 w2_44 (by decide) t_a0 rfl rfl (by decide) rfl rq1 ?_
    refine c_st (st2 := [.ref (sk 2), .int (iI 0), .ref (sk 2)]) rfl ?_
    refine c_get (k := 2) C ck_2 dX11_head_21 w1_44 (by decide) tsk2 rfl rfl (by decide) rfl ?_
    refine c_bipush (z := 33) C dX11_head_24 (by decide) ?_
    refine c_bipush (z := 125) C dX11_head_26 (by decide) ?_
    refine d_callV (As := [.int (iI 0), .int (iI (iv (sk 2) 2)), .int (iI 33), .int (iI 125)]) (rest := []) C hM (C_isWithin_2 (a0 := (sk 2)) (i := 0) (j := iv (sk 2) 2) (lo := 33) (hi := 125) hW hS tsk2 ⟨by decide, by decide⟩ (by omega) ⟨by decide, by decide⟩ ⟨by decide, by decide⟩ ) dX11_head_28 kV_X11_171 rfl tsk2 rfl rfl (by decide) ck_2 rfl (Nat.le_of_ble_eq_true rfl) ⟨(Nat.le_of_ble_eq_true rfl), (Nat.le_of_ble_eq_true rfl)⟩ hph hph (show 0 + 0 = 0 from rfl) (by decide) (fun rh17 Lh17 clh17 lnh17 ivh17 rvh17 h17 => ?_)
    obtain ⟨f16, rfl, rfl, rfl, rfl, rfl, rfl, rgf16, exf16⟩ := h17
    refine c_st (st2 := [.int (iI f16)]) rfl ?_
    have gf16 : ∀ ss, CT iv rv (sk 2) ss → 0 ≤ (0 : Int) → (iv (sk 2) 2) ≤ iv (sk 2) 2 → (f16 = 1 ↔ ∀ x : Nat, (0 : Int) ≤ (x : Int) → (x : Int) < (iv (sk 2) 2) → (33 : Int) ≤ ss x ∧ ss x ≤ (125 : Int)) := exf16
    refine c_if_eq (tgt := 38) C ⟨by omega, by omega⟩ dX11_head_31 (by decide) (fun c7 => ?_) (fun c7 => ?_)
    · refine c_iconst C dX11_head_38 ?_
      refine c_istore_n (lv2 := [(2, .int (iI 0)), (0, .ref a0), (1, .int (iI i))]) C dX11_head_39 (by decide) rfl ?_
      refine c_aload_n (j := 1) (x := a0) C dX11_head_40 rfl ?_
      obtain ⟨rb14, rq14, trb14⟩ := hW.ref t_a0 6 rfl rfl rfl
      have erb14 := hW.sk trb14 (by decide) rfl
      subst erb14
      refine c_getr (k := 6) C ck_12 dX11_head_41 w2_50 (by decide) t_a0 rfl rfl (by decide) rfl rq14 ?_
      refine c_st (st2 := [.ref (sk 15)]) rfl ?_
      refine d_callV (As := []) (rest := []) C hM (G_wclear (a0 := (sk 15)) hW hS tsk15  ) dX11_head_44 kV_X11_272 rfl tsk15 rfl rfl (by decide) ck_7 rfl (Nat.le_of_ble_eq_true rfl) ⟨(Nat.le_of_ble_eq_true rfl), (Nat.le_of_ble_eq_true rfl)⟩ hph hph (show 0 + 0 = 0 from rfl) (by decide) (fun rh18 Lh18 clh18 lnh18 ivh18 rvh18 h18 => ?_)
      obtain ⟨rfl, rfl, rfl, rfl, rfl, fl17, W17, exf17⟩ := h18
      refine hv2 (hF0.call hX0 fl17 rfl) (MRK.call hmr hW hS XT.refl fl17 rfl rfl) (fun F13 mr13 => ?_)
      refine c_st (st2 := []) rfl ?_
      refine hv2 (show 0 ≤ ivh18 (sk 15) 4 ∧ ivh18 (sk 15) 4 ≤ 500 from W17.int tsk15 4) (show ivh18 (sk 15) 4 = 0 from exf17) (fun ri125 gf17 => ?_)
      refine c_iconst C dX11_head_47 ?_
      refine c_istore_n (lv2 := [(3, .int (iI 0)), (2, .int (iI 0)), (0, .ref a0), (1, .int (iI i))]) C dX11_head_48 (by decide) rfl ?_
      have Lp3 : ∀ (nn : Nat) (fl k : Int) (Lb3 : List Nat) (clb3 lnb3 : Nat → Nat) (ivb3 : Nat → Nat → Int) (rvb3 : Nat → Nat → Option Nat) , 3001 - k < (nn : Int) → XT L cl ln Lb3 clb3 lnb3 → WT (g0 G) sk Lb3 clb3 lnb3 ivb3 rvb3 → fT [1, 2, 5, 35, 15, 50, 51, 52, 53, 54, 55] L cl iv rv ivb3 rvb3 → (fl = 0 ∨ fl = 1) → (0 ≤ k ∧ k ≤ 3000 ∧ k ≤ iv (sk 2) 2) → (ivb3 (sk 15) 4 = k) → ((fl = 0 ∧ k = 0) ∨ fl = 1) → (ivb3 (sk 2) 2 = iv (sk 2) 2) → (fl = 1 → iv (sk 2) 2 ≤ 40) → (HWD iv rv (sk 2) fl) → (∀ ss, CT iv rv (sk 2) ss → CT ivb3 rvb3 (sk 2) ss) → (LTA sk ln iv rv ivb3 rvb3 k) → (ivb3 (sk 5) 2 = iv (sk 5) 2) → (∀ ss, CT iv rv (sk 5) ss → CT ivb3 rvb3 (sk 5) ss) → (ivb3 a0 11 = iv a0 11) → (ivb3 a0 12 = iv a0 12) → (ivb3 a0 13 = iv a0 13) → (ivb3 a0 14 = iv a0 14) → (ivb3 a0 15 = iv a0 15) → (ivb3 a0 16 = iv a0 16) → (rvb3 a0 9 = rv a0 9) → (rvb3 a0 10 = rv a0 10) → cw p l e 8 ((PHM) + 0 - ((Phi (g0 G) sk) ln rv)) s m args below meth c G A 6 (MQ below (Qu G A (Qp G (Phi (g0 G) sk) ((Phi (g0 G) sk) ln rv) 0 (fun v L2 cl2 ln2 iv2 rv2 => ∃ f : Int, v = some (.int (iI f)) ∧ XT L cl ln L2 cl2 ln2 ∧ fT [1, 2, 5, 35, 15, 50, 51, 52, 53, 54, 55] L cl iv rv iv2 rv2 ∧ WT (g0 G) sk L2 cl2 ln2 iv2 rv2 ∧ (-2147483648 ≤ f ∧ f ≤ 2147483647) ∧ (True) ∧ iv2 a0 11 = iv a0 11 ∧ iv2 a0 12 = iv a0 12 ∧ iv2 a0 13 = iv a0 13 ∧ iv2 a0 14 = iv a0 14 ∧ iv2 a0 15 = iv a0 15 ∧ iv2 a0 16 = iv a0 16 ∧ iv2 (sk 2) 2 = 0 ∧ (HDX sk ln iv rv (iv a0 11) i f) ∧ (HDY sk ln iv rv iv2 rv2 i f) ∧ rv2 a0 9 = rv a0 9 ∧ rv2 a0 10 = rv a0 10))) args s (((PHM) + 0 - ((Phi (g0 G) sk) ln rv)) / 16) ((PHM) + 0 - ((Phi (g0 G) sk) ln rv)) A) (Phi (g0 G) sk) ((Phi (g0 G) sk) ln rv) Lb3 clb3 lnb3 ivb3 rvb3 0 49 [(2, .int (iI fl)), (3, .int (iI k)), (0, .ref a0), (1, .int (iI i))] [] := by
        intro nn
        induction nn with
        | zero =>
          intro  fl k Lb3 clb3 lnb3 ivb3 rvb3 hm Xb3 Wb3 Fb3  hfl hk h15 hnm h22 hf40 hWD hCT hLT hH5 hHC hkp11 hkp12 hkp13 hkp14 hkp15 hkp16 hkr9 hkr10
          have skb3 := Xb3.skl hS
          exact absurd hm (by omega)
        | succ nn ih3 =>
          intro  fl k Lb3 clb3 lnb3 ivb3 rvb3 hm Xb3 Wb3 Fb3  hfl hk h15 hnm h22 hf40 hWD hCT hLT hH5 hHC hkp11 hkp12 hkp13 hkp14 hkp15 hkp16 hkr9 hkr10
          refine hv2 (Xb3.skl hS) (MRK.call hmr hW hS Xb3 Fb3 rfl rfl) (fun skb3 mrb3 => ?_)
          refine c_iload_n (j := 0) C dX11_head_49 rfl ?_
          refine c_if_eq (tgt := 86) C (r32_01 hfl) dX11_head_50 (by decide) (fun c8 => ?_) (fun c8 => ?_)
          · clear hfl
            refine c_aload_n (j := 2) (x := a0) C dX11_head_86 rfl ?_
            have ty34 := Xb3.ty t_a0
            obtain ⟨rb15, rq15, trb15⟩ := Wb3.ref ty34 0 rfl rfl rfl
            have erb15 := Wb3.sk trb15 (by decide) rfl
            subst erb15
            refine c_getr (k := 0) C ck_12 dX11_head_87 w2_44 (by decide) ty34 rfl rfl (by decide) rfl rq15 ?_
            refine c_st (st2 := [.ref (sk 2)]) rfl ?_
            refine hv3 (Xb3.ty tsk2) (Xb3.ty tsk15) (Phi.le Wb3 skb3) (fun ty35 ty36 pl7 => ?_)
            refine d_callV (As := []) (rest := []) C hM (C_clear_2 (a0 := (sk 2)) Wb3 skb3 ty35  ) dX11_head_90 kV_X11_164 rfl ty35 rfl rfl (by decide) ck_2 rfl (Nat.le_of_ble_eq_true rfl) ⟨(Nat.le_of_ble_eq_true rfl), (Nat.le_of_ble_eq_true rfl)⟩ hph pl7 (show 0 + 0 = 0 from rfl) (by decide) (fun rh19 Lh19 clh19 lnh19 ivh19 rvh19 h19 => ?_)
            obtain ⟨rfl, rfl, rfl, rfl, rfl, fl18, W18, exf18⟩ := h19
            refine hv2 (Fb3.call Xb3 fl18 rfl) (MRK.call mrb3 Wb3 skb3 XT.refl fl18 rfl rfl) (fun F14 mr14 => ?_)
            refine c_st (st2 := []) rfl ?_
            refine hv5 (show 0 ≤ ivh19 (sk 2) 2 ∧ ivh19 (sk 2) 2 ≤ 3000 from W18.int ty35 2) (show ivh19 (sk 2) 2 = 0 from exf18) (hLT.ni Wb3 fl18 rfl ty36) (show 0 ≤ ivh19 (sk 15) 4 ∧ ivh19 (sk 15) 4 ≤ 500 from W18.int ty36 4) (show ivh19 (sk 15) 4 = ivb3 (sk 15) 4 from fl18.i ty36 rfl 4) (fun ri126 gf18 hLC ri127 ie192 => ?_)
            refine c_iload_n (j := 0) C dX11_head_93 rfl ?_
            refine c_if_ne (tgt := 104) C ⟨by omega, by omega⟩ dX11_head_94 (by decide) (fun z => absurd z (by omega)) (fun _ => ?_)
            refine c_aload_n (j := 2) (x := a0) C dX11_head_97 rfl ?_
            refine c_bipush (z := 6) C dX11_head_98 (by decide) ?_
            refine d_callV (As := [.int (iI 6)]) (rest := []) C hM (C_refuse (a0 := a0) (x := 6) W18 skb3 ty34 ⟨by decide, by decide⟩ ) dX11_head_100 kV_X11_102 rfl ty34 rfl rfl (by decide) ck_12 rfl (Nat.le_of_ble_eq_true rfl) ⟨(Nat.le_of_ble_eq_true rfl), (Nat.le_of_ble_eq_true rfl)⟩ hph pl7 (show 0 + 0 = 0 from rfl) (by decide) (fun rh20 Lh20 clh20 lnh20 ivh20 rvh20 h20 => ?_)
            obtain ⟨f19, rfl, rfl, rfl, rfl, rfl, fl19, W19, rgf19, exf19, kp11f19, kp12f19, kp13f19, kp14f19, kp15f19, kp16f19⟩ := h20
            refine hv14 (show 1 ≤ ivh19 a0 11 ∧ ivh19 a0 11 ≤ 100 from W18.int ty34 11) (show ivh19 a0 11 = ivb3 a0 11 from fl18.i ty34 rfl 11) (show 1 ≤ ivh19 a0 12 ∧ ivh19 a0 12 ≤ 50 from W18.int ty34 12) (show ivh19 a0 12 = ivb3 a0 12 from fl18.i ty34 rfl 12) (show (-2147483648) ≤ ivh19 a0 13 ∧ ivh19 a0 13 ≤ 2147483647 from W18.int ty34 13) (show ivh19 a0 13 = ivb3 a0 13 from fl18.i ty34 rfl 13) (show (-2147483648) ≤ ivh19 a0 14 ∧ ivh19 a0 14 ≤ 2147483647 from W18.int ty34 14) (show ivh19 a0 14 = ivb3 a0 14 from fl18.i ty34 rfl 14) (show (-2147483648) ≤ ivh19 a0 15 ∧ ivh19 a0 15 ≤ 2147483647 from W18.int ty34 15) (show ivh19 a0 15 = ivb3 a0 15 from fl18.i ty34 rfl 15) (show (-2147483648) ≤ ivh19 a0 16 ∧ ivh19 a0 16 ≤ 2147483647 from W18.int ty34 16) (show ivh19 a0 16 = ivb3 a0 16 from fl18.i ty34 rfl 16) (F14.call Xb3 fl19 rfl) (MRK.call mr14 W18 skb3 XT.refl fl19 rfl rfl) (fun ri128 ie194 ri129 ie196 ri130 ie198 ri131 ie200 ri132 ie202 ri133 ie204 F15 mr15 => ?_)
            refine c_st (st2 := [.int (iI f19)]) rfl ?_
            refine hv16 (show ivh20 a0 11 = ivh19 a0 11 from kp11f19) (show ivh20 a0 12 = ivh19 a0 12 from kp12f19) (show ivh20 a0 13 = ivh19 a0 13 from kp13f19) (show ivh20 a0 14 = ivh19 a0 14 from kp14f19) (show ivh20 a0 15 = ivh19 a0 15 from kp15f19) (show ivh20 a0 16 = ivh19 a0 16 from kp16f19) (show f19 = -1 from exf19) (show 0 ≤ ivh20 (sk 2) 2 ∧ ivh20 (sk 2) 2 ≤ 3000 from W19.int ty35 2) (show ivh20 (sk 2) 2 = ivh19 (sk 2) 2 from fl19.i ty35 rfl 2) (show 1 ≤ ivh20 a0 11 ∧ ivh20 a0 11 ≤ 100 from W19.int ty34 11) (show 1 ≤ ivh20 a0 12 ∧ ivh20 a0 12 ≤ 50 from W19.int ty34 12) (show (-2147483648) ≤ ivh20 a0 13 ∧ ivh20 a0 13 ≤ 2147483647 from W19.int ty34 13) (show (-2147483648) ≤ ivh20 a0 14 ∧ ivh20 a0 14 ≤ 2147483647 from W19.int ty34 14) (show (-2147483648) ≤ ivh20 a0 15 ∧ ivh20 a0 15 ≤ 2147483647 from W19.int ty34 15) (show (-2147483648) ≤ ivh20 a0 16 ∧ ivh20 a0 16 ≤ 2147483647 from W19.int ty34 16) (Xb3.ty tsk5) (fun gk11f19 gk12f19 gk13f19 gk14f19 gk15f19 gk16f19 gf19 ri134 ie206 ri135 ri136 ri137 ri138 ri139 ri140 ty37 => ?_)
            refine hv3 (show 0 ≤ ivh20 (sk 5) 2 ∧ ivh20 (sk 5) 2 ≤ 200 from W19.int ty37 2) (show ivh20 (sk 5) 2 = ivh19 (sk 5) 2 from fl19.i ty37 rfl 2) (show ivh19 (sk 5) 2 = ivb3 (sk 5) 2 from fl18.i ty37 rfl 2) (fun ri141 ie213 ie214 => ?_)
            exact c_iret C dX11_head_103 rfl (by decide) (rom0 hph pl7 (by decide)) ⟨f19, rfl, Xb3, F15, W19, ⟨by omega, by omega⟩, trivial, (gk11f19.trans (ie194.trans hkp11)), (gk12f19.trans (ie196.trans hkp12)), (gk13f19.trans (ie198.trans hkp13)), (gk14f19.trans (ie200.trans hkp14)), (gk15f19.trans (ie202.trans hkp15)), (gk16f19.trans (ie204.trans hkp16)), (ie206.trans gf18), (HDX.bad hWD (by omega) (by omega)), (Or.inl ⟨by omega, by omega, fun ss hs => (CT.fr (CT.fr (hHC ss hs) Wb3 ty37 fl18 rfl rfl rfl rfl rfl) W18 ty37 fl19 rfl rfl rfl rfl rfl)⟩), (show rvb3 a0 9 = rv a0 9 from hkr9), (show rvb3 a0 10 = rv a0 10 from hkr10)⟩
          · replace hfl := (hfl.resolve_left c8)
            refine c_iload_n (j := 1) C dX11_head_53 rfl ?_
            refine c_aload_n (j := 2) (x := a0) C dX11_head_54 rfl ?_
            have ty38 := Xb3.ty t_a0
            obtain ⟨rb16, rq16, trb16⟩ := Wb3.ref ty38 0 rfl rfl rfl
            have erb16 := Wb3.sk trb16 (by decide) rfl
            subst erb16
            refine c_getr (k := 0) C ck_12 dX11_head_55 w2_44 (by decide) ty38 rfl rfl (by decide) rfl rq16 ?_
            refine c_st (st2 := [.ref (sk 2), .int (iI k)]) rfl ?_
            have ty39 := Xb3.ty tsk2
            have ri142 : 0 ≤ ivb3 (sk 2) 2 ∧ ivb3 (sk 2) 2 ≤ 3000 := Wb3.int ty39 2
            refine c_get (k := 2) C ck_2 dX11_head_58 w1_44 (by decide) ty39 rfl rfl (by decide) rfl ?_
            refine c_icmp_ge (tgt := 86) C (r32_c (lo := 0) (hi := 3000) hk.1 hk.2.1 (by decide) (by decide)) (r32_c (lo := 0) (hi := 3000) ri142.1 ri142.2 (by decide) (by decide)) dX11_head_61 (by decide) (fun c9 => ?_) (fun c9 => ?_)
            · refine c_aload_n (j := 2) (x := a0) C dX11_head_86 rfl ?_
              refine c_getr (k := 0) C ck_12 dX11_head_87 w2_44 (by decide) ty38 rfl rfl (by decide) rfl rq16 ?_
              refine c_st (st2 := [.ref (sk 2)]) rfl ?_
              refine hv2 (Xb3.ty tsk15) (Phi.le Wb3 skb3) (fun ty40 pl8 => ?_)
              refine d_callV (As := []) (rest := []) C hM (C_clear_2 (a0 := (sk 2)) Wb3 skb3 ty39  ) dX11_head_90 kV_X11_164 rfl ty39 rfl rfl (by decide) ck_2 rfl (Nat.le_of_ble_eq_true rfl) ⟨(Nat.le_of_ble_eq_true rfl), (Nat.le_of_ble_eq_true rfl)⟩ hph pl8 (show 0 + 0 = 0 from rfl) (by decide) (fun rh21 Lh21 clh21 lnh21 ivh21 rvh21 h21 => ?_)
              obtain ⟨rfl, rfl, rfl, rfl, rfl, fl20, W20, exf20⟩ := h21
              refine hv2 (Fb3.call Xb3 fl20 rfl) (MRK.call mrb3 Wb3 skb3 XT.refl fl20 rfl rfl) (fun F16 mr16 => ?_)
              refine c_st (st2 := []) rfl ?_
              refine hv5 (show 0 ≤ ivh21 (sk 2) 2 ∧ ivh21 (sk 2) 2 ≤ 3000 from W20.int ty39 2) (show ivh21 (sk 2) 2 = 0 from exf20) (hLT.ni Wb3 fl20 rfl ty40) (show 0 ≤ ivh21 (sk 15) 4 ∧ ivh21 (sk 15) 4 ≤ 500 from W20.int ty40 4) (show ivh21 (sk 15) 4 = ivb3 (sk 15) 4 from fl20.i ty40 rfl 4) (fun ri143 gf20 hLC ri144 ie218 => ?_)
              refine c_iload_n (j := 0) C dX11_head_93 rfl ?_
              refine c_if_ne (tgt := 104) C ⟨by omega, by omega⟩ dX11_head_94 (by decide) (fun _ => ?_) (fun z => absurd z (by omega))
              refine c_aload_n (j := 2) (x := a0) C dX11_head_104 rfl ?_
              obtain ⟨rb17, rq17, trb17⟩ := W20.ref ty38 4 rfl rfl rfl
              have erb17 := W20.sk trb17 (by decide) rfl
              subst erb17
              refine c_getr (k := 4) C ck_12 dX11_head_105 w2_48 (by decide) ty38 rfl rfl (by decide) rfl rq17 ?_
              refine c_st (st2 := [.ref (sk 13)]) rfl ?_
              refine c_iload_n (j := 3) C dX11_head_108 rfl ?_
              have ty41 := Xb3.ty tsk13
              refine d_callV (As := [.int (iI i)]) (rest := []) C hM (G_whole (a0 := (sk 13)) (i := i) W20 skb3 ty41 (by omega) mr16) dX11_head_109 kV_X11_231 rfl ty41 rfl rfl (by decide) ck_11 rfl (Nat.le_of_ble_eq_true rfl) ⟨(Nat.le_of_ble_eq_true rfl), (Nat.le_of_ble_eq_true rfl)⟩ hph pl8 (show 0 + 0 = 0 from rfl) (by decide) (fun rh23 Lh23 clh23 lnh23 ivh23 rvh23 h23 => ?_)
              obtain ⟨f21, rfl, rfl, rfl, rfl, rfl, rfl, rgf21, exf21⟩ := h23
              refine c_st (st2 := [(va_rf f21)]) rfl ?_
              have gf21 : WOX sk lnb3 ivh21 rvb3 i f21 := exf21
              refine c_astorer_n (r := f21) (lv2 := [(3, (va_rf f21)), (2, .int (iI fl)), (0, .ref a0), (1, .int (iI i))]) C dX11_head_112 (by decide) rfl ?_
              refine c_aloadr_n (j := 0) (r := f21) C dX11_head_113 rfl ?_
              refine c_ifnonnull (r := f21) (tgt := 123) C dX11_head_114 (by decide) (fun ob2 oq2 => ?_) (fun oq2 => ?_)
              · subst oq2
                refine hv2 (rgf21 ob2 rfl) (gf21) (fun tob2 wkob2 => ?_)
                refine c_lv (lv2 := [(3, .ref ob2), (2, .int (iI fl)), (0, .ref a0), (1, .int (iI i))]) [0, 1, 2, 3] rfl ?_
                refine c_st (st2 := []) rfl ?_
                refine c_aload_n (j := 2) (x := a0) C dX11_head_123 rfl ?_
                obtain ⟨rb18, rq18, trb18⟩ := W20.ref ty38 6 rfl rfl rfl
                have erb18 := W20.sk trb18 (by decide) rfl
                subst erb18
                refine c_getr (k := 6) C ck_12 dX11_head_124 w2_50 (by decide) ty38 rfl rfl (by decide) rfl rq18 ?_
                refine c_st (st2 := [.ref (sk 15)]) rfl ?_
                refine c_aload_n (j := 0) (x := ob2) C dX11_head_127 rfl ?_
                refine d_callV (As := [.ref ob2]) (rest := []) C hM (G_setBy (a0 := (sk 15)) (a1 := ob2) W20 skb3 ty40 tob2  ) dX11_head_128 kV_X11_253 rfl ty40 rfl rfl (by decide) ck_7 rfl (Nat.le_of_ble_eq_true rfl) ⟨(Nat.le_of_ble_eq_true rfl), (Nat.le_of_ble_eq_true rfl)⟩ hph pl8 (show 0 + 0 = 0 from rfl) (by decide) (fun rh24 Lh24 clh24 lnh24 ivh24 rvh24 h24 => ?_)
                obtain ⟨f22, rfl, rfl, rfl, rfl, rfl, fl22, W22, rgf22, exf22⟩ := h24
                refine hv2 (F16.call Xb3 fl22 rfl) (MRK.call mr16 W20 skb3 XT.refl fl22 rfl rfl) (fun F17 mr17 => ?_)
                refine c_st (st2 := [.int (iI f22)]) rfl ?_
                refine hv3 (show 0 ≤ ivh24 (sk 15) 4 ∧ ivh24 (sk 15) 4 ≤ 500 from W22.int ty40 4) (show 0 ≤ ivh24 (sk 15) 7 ∧ ivh24 (sk 15) 7 ≤ 100000 from W22.int ty40 7) (show ((f22 = 0 ∨ f22 = 6 ∨ f22 = 7) ∧ ivh24 (sk 15) 4 = ivh21 (sk 15) 4 ∧ (f22 = 0 → ivh24 (sk 15) 7 ≤ 200)) ∧ SBX sk lnb3 ivh21 rvb3 ivh24 (sk 15) ob2 f22 from exf22) (fun ri145 ri146 gf22 => ?_)
                refine c_istore (lv2 := [(4, .int (iI f22)), (3, .ref ob2), (2, .int (iI fl)), (0, .ref a0), (1, .int (iI i))]) C dX11_head_131 (by decide) rfl ?_
                refine c_iload (j := 0) C dX11_head_133 rfl ?_
                refine c_if_eq (tgt := 152) C (r32_067 gf22.1.1) dX11_head_135 (by decide) (fun c10 => ?_) (fun c10 => ?_)
                · replace gf22 := (And.intro (And.intro c10 (And.intro gf22.1.2.1 (gf22.1.2.2 c10))) gf22.2)
                  refine c_aload_n (j := 3) (x := a0) C dX11_head_152 rfl ?_
                  obtain ⟨rb19, rq19, trb19⟩ := W22.ref ty38 3 rfl rfl rfl
                  have erb19 := W22.sk trb19 (by decide) rfl
                  subst erb19
                  refine c_getr (k := 3) C ck_12 dX11_head_153 w2_47 (by decide) ty38 rfl rfl (by decide) rfl rq19 ?_
                  refine c_st (st2 := [.ref (sk 5)]) rfl ?_
                  have ty42 := Xb3.ty tsk5
                  refine d_callV (As := []) (rest := []) C hM (C_clear_5 (a0 := (sk 5)) W22 skb3 ty42  ) dX11_head_156 kV_X11_164 rfl ty42 rfl rfl (by decide) ck_2 rfl (Nat.le_of_ble_eq_true rfl) ⟨(Nat.le_of_ble_eq_true rfl), (Nat.le_of_ble_eq_true rfl)⟩ hph pl8 (show 0 + 0 = 0 from rfl) (by decide) (fun rh25 Lh25 clh25 lnh25 ivh25 rvh25 h25 => ?_)
                  obtain ⟨rfl, rfl, rfl, rfl, rfl, fl23, W23, exf23⟩ := h25
                  refine hv2 (F17.call Xb3 fl23 rfl) (MRK.call mr17 W22 skb3 XT.refl fl23 rfl rfl) (fun F18 mr18 => ?_)
                  refine c_st (st2 := []) rfl ?_
                  refine hv2 (show 0 ≤ ivh25 (sk 5) 2 ∧ ivh25 (sk 5) 2 ≤ 200 from W23.int ty42 2) (show ivh25 (sk 5) 2 = 0 from exf23) (fun ri147 gf23 => ?_)
                  refine c_iconst C dX11_head_159 ?_
                  refine c_istore (lv2 := [(5, .int (iI 0)), (4, .int (iI f22)), (3, .ref ob2), (2, .int (iI fl)), (0, .ref a0), (1, .int (iI i))]) C dX11_head_160 (by decide) rfl ?_
                  have Lp4 : ∀ (nn : Nat) (k2 : Int) (Lb4 : List Nat) (clb4 lnb4 : Nat → Nat) (ivb4 : Nat → Nat → Int) (rvb4 : Nat → Nat → Option Nat) , 101 - k2 < (nn : Int) → XT L cl ln Lb4 clb4 lnb4 → WT (g0 G) sk Lb4 clb4 lnb4 ivb4 rvb4 → fT [1, 2, 5, 35, 15, 50, 51, 52, 53, 54, 55] L cl iv rv ivb4 rvb4 → (0 ≤ k2 ∧ k2 ≤ 100) → (ivb4 (sk 15) 7 ≤ 200) → (ivb4 (sk 2) 2 = 0) → (ivb4 (sk 5) 2 = k2) → (k2 ≤ ivb4 (sk 15) 7 ∧ k2 ≤ iv a0 11) → (HDP sk ln iv rv i (ivb4 (sk 15) 7)) → (HDB sk ln iv rv ivb4 rvb4 i) → (ivb4 a0 11 = iv a0 11) → (ivb4 a0 12 = iv a0 12) → (ivb4 a0 13 = iv a0 13) → (ivb4 a0 14 = iv a0 14) → (ivb4 a0 15 = iv a0 15) → (ivb4 a0 16 = iv a0 16) → (rvb4 a0 9 = rv a0 9) → (rvb4 a0 10 = rv a0 10) → cw p l e 8 ((PHM) + 0 - ((Phi (g0 G) sk) ln rv)) s m args below meth c G A 6 (MQ below (Qu G A (Qp G (Phi (g0 G) sk) ((Phi (g0 G) sk) ln rv) 0 (fun v L2 cl2 ln2 iv2 rv2 => ∃ f : Int, v = some (.int (iI f)) ∧ XT L cl ln L2 cl2 ln2 ∧ fT [1, 2, 5, 35, 15, 50, 51, 52, 53, 54, 55] L cl iv rv iv2 rv2 ∧ WT (g0 G) sk L2 cl2 ln2 iv2 rv2 ∧ (-2147483648 ≤ f ∧ f ≤ 2147483647) ∧ (True) ∧ iv2 a0 11 = iv a0 11 ∧ iv2 a0 12 = iv a0 12 ∧ iv2 a0 13 = iv a0 13 ∧ iv2 a0 14 = iv a0 14 ∧ iv2 a0 15 = iv a0 15 ∧ iv2 a0 16 = iv a0 16 ∧ iv2 (sk 2) 2 = 0 ∧ (HDX sk ln iv rv (iv a0 11) i f) ∧ (HDY sk ln iv rv iv2 rv2 i f) ∧ rv2 a0 9 = rv a0 9 ∧ rv2 a0 10 = rv a0 10))) args s (((PHM) + 0 - ((Phi (g0 G) sk) ln rv)) / 16) ((PHM) + 0 - ((Phi (g0 G) sk) ln rv)) A) (Phi (g0 G) sk) ((Phi (g0 G) sk) ln rv) Lb4 clb4 lnb4 ivb4 rvb4 0 162 [(5, .int (iI k2)), (4, .int (iI f22)), (3, .ref ob2), (2, .int (iI fl)), (0, .ref a0), (1, .int (iI i))] [] := by
                    intro nn
                    induction nn with
                    | zero =>
                      intro  k2 Lb4 clb4 lnb4 ivb4 rvb4 hm Xb4 Wb4 Fb4  hk2 hco htz h52 hk3 hHD hHB hkp11 hkp12 hkp13 hkp14 hkp15 hkp16 hkr9 hkr10
                      have skb4 := Xb4.skl hS
                      exact absurd hm (by omega)
                    | succ nn ih4 =>
                      intro  k2 Lb4 clb4 lnb4 ivb4 rvb4 hm Xb4 Wb4 Fb4  hk2 hco htz h52 hk3 hHD hHB hkp11 hkp12 hkp13 hkp14 hkp15 hkp16 hkr9 hkr10
                      refine hv2 (Xb4.skl hS) (MRK.call hmr hW hS Xb4 Fb4 rfl rfl) (fun skb4 mrb4 => ?_)
                      refine c_iload (j := 0) C dX11_head_162 rfl ?_
                      refine c_aload_n (j := 4) (x := a0) C dX11_head_164 rfl ?_
                      have ty43 := Xb4.ty t_a0
                      obtain ⟨rb20, rq20, trb20⟩ := Wb4.ref ty43 6 rfl rfl rfl
                      have erb20 := Wb4.sk trb20 (by decide) rfl
                      subst erb20
                      refine c_getr (k := 6) C ck_12 dX11_head_165 w2_50 (by decide) ty43 rfl rfl (by decide) rfl rq20 ?_
                      refine c_st (st2 := [.ref (sk 15), .int (iI k2)]) rfl ?_
                      have ty44 := Xb4.ty tsk15
                      have ri148 : 0 ≤ ivb4 (sk 15) 7 ∧ ivb4 (sk 15) 7 ≤ 100000 := Wb4.int ty44 7
                      refine c_get (k := 7) C ck_7 dX11_head_168 w1_149 (by decide) ty44 rfl rfl (by decide) rfl ?_
                      refine c_icmp_ge (tgt := 206) C (r32_c (lo := 0) (hi := 100) hk2.1 hk2.2 (by decide) (by decide)) (r32_c (lo := 0) (hi := 100000) ri148.1 ri148.2 (by decide) (by decide)) dX11_head_171 (by decide) (fun c11 => ?_) (fun c11 => ?_)
                      · refine c_aload_n (j := 4) (x := a0) C dX11_head_206 rfl ?_
                        refine c_aload_n (j := 4) (x := a0) C dX11_head_207 rfl ?_
                        obtain ⟨rb21, rq21, trb21⟩ := Wb4.ref ty43 3 rfl rfl rfl
                        have erb21 := Wb4.sk trb21 (by decide) rfl
                        subst erb21
                        refine c_getr (k := 3) C ck_12 dX11_head_208 w2_47 (by decide) ty43 rfl rfl (by decide) rfl rq21 ?_
                        refine c_st (st2 := [.ref (sk 5), .ref a0]) rfl ?_
                        have ty45 := Xb4.ty tsk5
                        have ri149 : 0 ≤ ivb4 (sk 5) 2 ∧ ivb4 (sk 5) 2 ≤ 200 := Wb4.int ty45 2
                        refine c_get (k := 2) C ck_2 dX11_head_211 w1_44 (by decide) ty45 rfl rfl (by decide) rfl ?_
                        have pl9 := Phi.le Wb4 skb4
                        refine d_callV (As := [.int (iI (ivb4 (sk 5) 2))]) (rest := []) C hM (C_done (a0 := a0) (x := ivb4 (sk 5) 2) Wb4 skb4 ty43 (by omega) ) dX11_head_214 kV_X11_109 rfl ty43 rfl rfl (by decide) ck_12 rfl (Nat.le_of_ble_eq_true rfl) ⟨(Nat.le_of_ble_eq_true rfl), (Nat.le_of_ble_eq_true rfl)⟩ hph pl9 (show 0 + 0 = 0 from rfl) (by decide) (fun rh26 Lh26 clh26 lnh26 ivh26 rvh26 h26 => ?_)
                        obtain ⟨f24, rfl, rfl, rfl, rfl, rfl, fl24, W24, rgf24, exf24, kp11f24, kp12f24, kp13f24, kp14f24, kp15f24, kp16f24⟩ := h26
                        refine hv8 (show 1 ≤ ivb4 a0 11 ∧ ivb4 a0 11 ≤ 100 from Wb4.int ty43 11) (show 1 ≤ ivb4 a0 12 ∧ ivb4 a0 12 ≤ 50 from Wb4.int ty43 12) (show (-2147483648) ≤ ivb4 a0 13 ∧ ivb4 a0 13 ≤ 2147483647 from Wb4.int ty43 13) (show (-2147483648) ≤ ivb4 a0 14 ∧ ivb4 a0 14 ≤ 2147483647 from Wb4.int ty43 14) (show (-2147483648) ≤ ivb4 a0 15 ∧ ivb4 a0 15 ≤ 2147483647 from Wb4.int ty43 15) (show (-2147483648) ≤ ivb4 a0 16 ∧ ivb4 a0 16 ≤ 2147483647 from Wb4.int ty43 16) (Fb4.call Xb4 fl24 rfl) (MRK.call mrb4 Wb4 skb4 XT.refl fl24 rfl rfl) (fun ri150 ri151 ri152 ri153 ri154 ri155 F19 mr19 => ?_)
                        refine c_st (st2 := [.int (iI f24)]) rfl ?_
                        refine hv19 (show ivh26 a0 11 = ivb4 a0 11 from kp11f24) (show ivh26 a0 12 = ivb4 a0 12 from kp12f24) (show ivh26 a0 13 = ivb4 a0 13 from kp13f24) (show ivh26 a0 14 = ivb4 a0 14 from kp14f24) (show ivh26 a0 15 = ivb4 a0 15 from kp15f24) (show ivh26 a0 16 = ivb4 a0 16 from kp16f24) (show f24 = (ivb4 (sk 5) 2) from exf24) (hHB.fr Wb4 fl24 ty44 ty45 rfl rfl rfl rfl) (Xb4.ty tsk2) (show 1 ≤ ivh26 a0 11 ∧ ivh26 a0 11 ≤ 100 from W24.int ty43 11) (show 1 ≤ ivh26 a0 12 ∧ ivh26 a0 12 ≤ 50 from W24.int ty43 12) (show (-2147483648) ≤ ivh26 a0 13 ∧ ivh26 a0 13 ≤ 2147483647 from W24.int ty43 13) (show (-2147483648) ≤ ivh26 a0 14 ∧ ivh26 a0 14 ≤ 2147483647 from W24.int ty43 14) (show (-2147483648) ≤ ivh26 a0 15 ∧ ivh26 a0 15 ≤ 2147483647 from W24.int ty43 15) (show (-2147483648) ≤ ivh26 a0 16 ∧ ivh26 a0 16 ≤ 2147483647 from W24.int ty43 16) (show 0 ≤ ivh26 (sk 15) 7 ∧ ivh26 (sk 15) 7 ≤ 100000 from W24.int ty44 7) (show ivh26 (sk 15) 7 = ivb4 (sk 15) 7 from fl24.i ty44 rfl 7) (show 0 ≤ ivh26 (sk 5) 2 ∧ ivh26 (sk 5) 2 ≤ 200 from W24.int ty45 2) (show ivh26 (sk 5) 2 = ivb4 (sk 5) 2 from fl24.i ty45 rfl 2) (fun gk11f24 gk12f24 gk13f24 gk14f24 gk15f24 gk16f24 gf24 hDF ty46 ri157 ri158 ri159 ri160 ri161 ri162 ri163 ie239 ri164 ie240 => ?_)
                        refine hv2 (show 0 ≤ ivh26 (sk 2) 2 ∧ ivh26 (sk 2) 2 ≤ 3000 from W24.int ty46 2) (show ivh26 (sk 2) 2 = ivb4 (sk 2) 2 from fl24.i ty46 rfl 2) (fun ri156 ie231 => ?_)
                        exact c_iret C dX11_head_217 rfl (by decide) (rom0 hph pl9 (by decide)) ⟨f24, rfl, Xb4, F19, W24, ⟨by omega, by omega⟩, trivial, (gk11f24.trans hkp11), (gk12f24.trans hkp12), (gk13f24.trans hkp13), (gk14f24.trans hkp14), (gk15f24.trans hkp15), (gk16f24.trans hkp16), (ie231.trans htz), (HDX.ok hHD (by omega)), (Or.inr ⟨by omega, by omega, hDF⟩), (show rvb4 a0 9 = rv a0 9 from hkr9), (show rvb4 a0 10 = rv a0 10 from hkr10)⟩
                      · refine c_iload (j := 0) C dX11_head_174 rfl ?_
                        refine c_aload_n (j := 4) (x := a0) C dX11_head_176 rfl ?_
                        have ri165 : 1 ≤ ivb4 a0 11 ∧ ivb4 a0 11 ≤ 100 := Wb4.int ty43 11
                        refine c_get (k := 11) C ck_12 dX11_head_177 w2_55 (by decide) ty43 rfl rfl (by decide) rfl ?_
                        refine c_icmp_ge (tgt := 206) C (r32_c (lo := 0) (hi := 100) hk2.1 hk2.2 (by decide) (by decide)) (r32_c (lo := 1) (hi := 100) ri165.1 ri165.2 (by decide) (by decide)) dX11_head_180 (by decide) (fun c12 => ?_) (fun c12 => ?_)
                        · refine c_aload_n (j := 4) (x := a0) C dX11_head_206 rfl ?_
                          refine c_aload_n (j := 4) (x := a0) C dX11_head_207 rfl ?_
                          obtain ⟨rb22, rq22, trb22⟩ := Wb4.ref ty43 3 rfl rfl rfl
                          have erb22 := Wb4.sk trb22 (by decide) rfl
                          subst erb22
                          refine c_getr (k := 3) C ck_12 dX11_head_208 w2_47 (by decide) ty43 rfl rfl (by decide) rfl rq22 ?_
                          refine c_st (st2 := [.ref (sk 5), .ref a0]) rfl ?_
                          have ty47 := Xb4.ty tsk5
                          have ri166 : 0 ≤ ivb4 (sk 5) 2 ∧ ivb4 (sk 5) 2 ≤ 200 := Wb4.int ty47 2
                          refine c_get (k := 2) C ck_2 dX11_head_211 w1_44 (by decide) ty47 rfl rfl (by decide) rfl ?_
                          have pl10 := Phi.le Wb4 skb4
                          refine d_callV (As := [.int (iI (ivb4 (sk 5) 2))]) (rest := []) C hM (C_done (a0 := a0) (x := ivb4 (sk 5) 2) Wb4 skb4 ty43 (by omega) ) dX11_head_214 kV_X11_109 rfl ty43 rfl rfl (by decide) ck_12 rfl (Nat.le_of_ble_eq_true rfl) ⟨(Nat.le_of_ble_eq_true rfl), (Nat.le_of_ble_eq_true rfl)⟩ hph pl10 (show 0 + 0 = 0 from rfl) (by decide) (fun rh27 Lh27 clh27 lnh27 ivh27 rvh27 h27 => ?_)
                          obtain ⟨f25, rfl, rfl, rfl, rfl, rfl, fl25, W25, rgf25, exf25, kp11f25, kp12f25, kp13f25, kp14f25, kp15f25, kp16f25⟩ := h27
                          refine hv7 (show 1 ≤ ivb4 a0 12 ∧ ivb4 a0 12 ≤ 50 from Wb4.int ty43 12) (show (-2147483648) ≤ ivb4 a0 13 ∧ ivb4 a0 13 ≤ 2147483647 from Wb4.int ty43 13) (show (-2147483648) ≤ ivb4 a0 14 ∧ ivb4 a0 14 ≤ 2147483647 from Wb4.int ty43 14) (show (-2147483648) ≤ ivb4 a0 15 ∧ ivb4 a0 15 ≤ 2147483647 from Wb4.int ty43 15) (show (-2147483648) ≤ ivb4 a0 16 ∧ ivb4 a0 16 ≤ 2147483647 from Wb4.int ty43 16) (Fb4.call Xb4 fl25 rfl) (MRK.call mrb4 Wb4 skb4 XT.refl fl25 rfl rfl) (fun ri167 ri168 ri169 ri170 ri171 F20 mr20 => ?_)
                          refine c_st (st2 := [.int (iI f25)]) rfl ?_
                          refine hv19 (show ivh27 a0 11 = ivb4 a0 11 from kp11f25) (show ivh27 a0 12 = ivb4 a0 12 from kp12f25) (show ivh27 a0 13 = ivb4 a0 13 from kp13f25) (show ivh27 a0 14 = ivb4 a0 14 from kp14f25) (show ivh27 a0 15 = ivb4 a0 15 from kp15f25) (show ivh27 a0 16 = ivb4 a0 16 from kp16f25) (show f25 = (ivb4 (sk 5) 2) from exf25) (hHB.fr Wb4 fl25 ty44 ty47 rfl rfl rfl rfl) (Xb4.ty tsk2) (show 1 ≤ ivh27 a0 11 ∧ ivh27 a0 11 ≤ 100 from W25.int ty43 11) (show 1 ≤ ivh27 a0 12 ∧ ivh27 a0 12 ≤ 50 from W25.int ty43 12) (show (-2147483648) ≤ ivh27 a0 13 ∧ ivh27 a0 13 ≤ 2147483647 from W25.int ty43 13) (show (-2147483648) ≤ ivh27 a0 14 ∧ ivh27 a0 14 ≤ 2147483647 from W25.int ty43 14) (show (-2147483648) ≤ ivh27 a0 15 ∧ ivh27 a0 15 ≤ 2147483647 from W25.int ty43 15) (show (-2147483648) ≤ ivh27 a0 16 ∧ ivh27 a0 16 ≤ 2147483647 from W25.int ty43 16) (show 0 ≤ ivh27 (sk 15) 7 ∧ ivh27 (sk 15) 7 ≤ 100000 from W25.int ty44 7) (show ivh27 (sk 15) 7 = ivb4 (sk 15) 7 from fl25.i ty44 rfl 7) (show 0 ≤ ivh27 (sk 5) 2 ∧ ivh27 (sk 5) 2 ≤ 200 from W25.int ty47 2) (show ivh27 (sk 5) 2 = ivb4 (sk 5) 2 from fl25.i ty47 rfl 2) (fun gk11f25 gk12f25 gk13f25 gk14f25 gk15f25 gk16f25 gf25 hDF ty48 ri173 ri174 ri175 ri176 ri177 ri178 ri179 ie256 ri180 ie257 => ?_)
                          refine hv2 (show 0 ≤ ivh27 (sk 2) 2 ∧ ivh27 (sk 2) 2 ≤ 3000 from W25.int ty48 2) (show ivh27 (sk 2) 2 = ivb4 (sk 2) 2 from fl25.i ty48 rfl 2) (fun ri172 ie248 => ?_)
                          exact c_iret C dX11_head_217 rfl (by decide) (rom0 hph pl10 (by decide)) ⟨f25, rfl, Xb4, F20, W25, ⟨by omega, by omega⟩, trivial, (gk11f25.trans hkp11), (gk12f25.trans hkp12), (gk13f25.trans hkp13), (gk14f25.trans hkp14), (gk15f25.trans hkp15), (gk16f25.trans hkp16), (ie248.trans htz), (HDX.ok hHD (by omega)), (Or.inr ⟨by omega, by omega, hDF⟩), (show rvb4 a0 9 = rv a0 9 from hkr9), (show rvb4 a0 10 = rv a0 10 from hkr10)⟩
                        · refine c_aload_n (j := 4) (x := a0) C dX11_head_183 rfl ?_
                          obtain ⟨rb23, rq23, trb23⟩ := Wb4.ref ty43 3 rfl rfl rfl
                          have erb23 := Wb4.sk trb23 (by decide) rfl
                          subst erb23
                          refine c_getr (k := 3) C ck_12 dX11_head_184 w2_47 (by decide) ty43 rfl rfl (by decide) rfl rq23 ?_
                          refine c_st (st2 := [.ref (sk 5)]) rfl ?_
                          refine c_aload_n (j := 4) (x := a0) C dX11_head_187 rfl ?_
                          refine c_getr (k := 6) C ck_12 dX11_head_188 w2_50 (by decide) ty43 rfl rfl (by decide) rfl rq20 ?_
                          refine c_st (st2 := [.ref (sk 15), .ref (sk 5)]) rfl ?_
                          obtain ⟨rb24, rq24, trb24⟩ := Wb4.ref ty44 6 rfl rfl rfl
                          have lnrb24 : 200 ≤ lnb4 rb24 ∧ lnb4 rb24 ≤ 200 := Wb4.len trb24 rfl
                          refine c_getr (k := 6) C ck_7 dX11_head_191 w1_146 (by decide) ty44 rfl rfl (by decide) rfl rq24 ?_
                          refine c_st (st2 := [.ref rb24, .ref (sk 5)]) rfl ?_
                          refine c_iload (j := 0) C dX11_head_194 rfl ?_
                          have ll2 : 200 ≤ lnb4 rb24 ∧ lnb4 rb24 ≤ 200 := Wb4.len trb24 rfl
                          refine c_iald C dX11_head_196 trb24 rfl (by omega) (by omega) (by omega) ?_
                          refine hv3 (show (-2147483648) ≤ ivb4 rb24 k2.toNat ∧ ivb4 rb24 k2.toNat ≤ 2147483647 from Wb4.int trb24 k2.toNat) (Xb4.ty tsk5) (Phi.le Wb4 skb4) (fun ri181 ty49 pl11 => ?_)
                          have ri182 : 0 ≤ ivb4 (sk 5) 2 ∧ ivb4 (sk 5) 2 ≤ 200 := Wb4.int ty49 2
                          refine d_callV (As := [.int (iI (ivb4 rb24 k2.toNat))]) (rest := []) C hM (G_add_5 (a0 := (sk 5)) (x := ivb4 rb24 k2.toNat) Wb4 skb4 ty49 (by omega) ) dX11_head_197 kV_X11_112 rfl ty49 rfl rfl (by decide) ck_2 rfl (Nat.le_of_ble_eq_true rfl) ⟨(Nat.le_of_ble_eq_true rfl), (Nat.le_of_ble_eq_true rfl)⟩ hph pl11 (show 0 + 0 = 0 from rfl) (by decide) (fun rh28 Lh28 clh28 lnh28 ivh28 rvh28 h28 => ?_)
                          obtain ⟨rfl, xl26, fl26, W26, exf26⟩ := h28
                          refine hv13 (Fb4.call Xb4 fl26 rfl) (MRK.call mrb4 Wb4 skb4 xl26 fl26 rfl rfl) (Xb4.ty tsk2) (Xb4.ty tsk3) (Xb4.ty tsk4) (Xb4.ty tsk13) (Xb4.ty tsk14) (Xb4.ty tsk16) (Xb4.ty tsk17) (Xb4.ty tsk22) (Xb4.ty tsk23) (Xb4.trans xl26) (xl26.skl skb4) (fun F21 mr21 ty50 ty51 ty52 ty53 ty54 ty55 ty56 ty57 ty58 X2 sk2 => ?_)
                          refine c_st (st2 := []) rfl ?_
                          refine hv2 (xl26.ty ty49) (show ((ivh28 (sk 5) 2 = ivb4 (sk 5) 2 ∧ ivb4 (sk 5) 2 = 200) ∨ (ivh28 (sk 5) 2 = ivb4 (sk 5) 2 + 1 ∧ ivb4 (sk 5) 2 < 200)) ∧ (∀ ss, CT ivb4 rvb4 (sk 5) ss → ivb4 (sk 5) 2 < 200 → CT ivh28 rvh28 (sk 5) (va_up ss (ivb4 (sk 5) 2).toNat (ivb4 rb24 k2.toNat))) ∧ (ivb4 (sk 5) 2 = 200 → ∀ ss, CT ivb4 rvb4 (sk 5) ss → CT ivh28 rvh28 (sk 5) ss) from exf26) (fun ty59 gf26 => ?_)
                          have ri183 : 0 ≤ ivh28 (sk 5) 2 ∧ ivh28 (sk 5) 2 ≤ 200 := W26.int ty59 2
                          refine c_iinc (z := k2) (j := 0) (lv2 := [(5, .int (iI (k2 + 1))), (4, .int (iI f22)), (3, .ref ob2), (2, .int (iI fl)), (0, .ref a0), (1, .int (iI i))]) C dX11_head_200 rfl (by decide) rfl ?_
                          refine c_goto (tgt := 162) C dX11_head_203 (by decide) ?_
                          refine hv11 (xl26.ty ty44) (show ivh28 (sk 15) 7 = ivb4 (sk 15) 7 from fl26.i ty44 rfl 7) (xl26.ty ty50) (show ivh28 (sk 2) 2 = ivb4 (sk 2) 2 from fl26.i ty50 rfl 2) (xl26.ty ty43) (show ivh28 a0 11 = ivb4 a0 11 from fl26.i ty43 rfl 11) (show ivh28 a0 12 = ivb4 a0 12 from fl26.i ty43 rfl 12) (show ivh28 a0 13 = ivb4 a0 13 from fl26.i ty43 rfl 13) (show ivh28 a0 14 = ivb4 a0 14 from fl26.i ty43 rfl 14) (show ivh28 a0 15 = ivb4 a0 15 from fl26.i ty43 rfl 15) (show ivh28 a0 16 = ivb4 a0 16 from fl26.i ty43 rfl 16) (fun ty60 ie261 ty61 ie262 ty62 ie264 ie265 ie267 ie269 ie271 ie273 => ?_)
                          refine hv8 (show 0 ≤ ivh28 (sk 15) 7 ∧ ivh28 (sk 15) 7 ≤ 100000 from W26.int ty60 7) (show 0 ≤ ivh28 (sk 2) 2 ∧ ivh28 (sk 2) 2 ≤ 3000 from W26.int ty61 2) (show 1 ≤ ivh28 a0 11 ∧ ivh28 a0 11 ≤ 100 from W26.int ty62 11) (show 1 ≤ ivh28 a0 12 ∧ ivh28 a0 12 ≤ 50 from W26.int ty62 12) (show (-2147483648) ≤ ivh28 a0 13 ∧ ivh28 a0 13 ≤ 2147483647 from W26.int ty62 13) (show (-2147483648) ≤ ivh28 a0 14 ∧ ivh28 a0 14 ≤ 2147483647 from W26.int ty62 14) (show (-2147483648) ≤ ivh28 a0 15 ∧ ivh28 a0 15 ≤ 2147483647 from W26.int ty62 15) (show (-2147483648) ≤ ivh28 a0 16 ∧ ivh28 a0 16 ≤ 2147483647 from W26.int ty62 16) (fun ri184 ri185 ri186 ri187 ri188 ri189 ri190 ri191 => ?_)
                          refine c_lv (lv2 := [(5, .int (iI (k2 + 1))), (4, .int (iI f22)), (3, .ref ob2), (2, .int (iI fl)), (0, .ref a0), (1, .int (iI i))]) [0, 1, 2, 3, 4, 5] rfl ?_
                          exact ih4  (k2 + 1) _ _ _ _ _ (by omega) X2 W26 F21  (by omega) (by show ivh28 (sk 15) 7 ≤ 200; omega) (ie262.trans htz) (by show ivh28 (sk 5) 2 = (k2 + 1); omega) (by show (k2 + 1) ≤ ivh28 (sk 15) 7 ∧ (k2 + 1) ≤ iv a0 11; omega) (by rw [show ivh28 (sk 15) 7 = ivb4 (sk 15) 7 by omega]; exact hHD) (hHB.step Wb4 fl26 ty44 rfl rfl gf26.2.1 rq24 (by rw [show ivb4 (sk 5) 2 = k2 by omega]) ⟨by omega, by omega, by omega⟩) (ie264.trans hkp11) (ie265.trans hkp12) (ie267.trans hkp13) (ie269.trans hkp14) (ie271.trans hkp15) (ie273.trans hkp16) (Eq.trans (show rvh28 a0 9 = rvb4 a0 9 from (fl26.r ty43 rfl 9)) (show rvb4 a0 9 = rv a0 9 from hkr9)) (Eq.trans (show rvh28 a0 10 = rvb4 a0 10 from (fl26.r ty43 rfl 10)) (show rvb4 a0 10 = rv a0 10 from hkr10))
                  refine hv29 (show 0 ≤ ivh25 (sk 15) 7 ∧ ivh25 (sk 15) 7 ≤ 100000 from W23.int ty40 7) (show ivh25 (sk 15) 7 = ivh24 (sk 15) 7 from fl23.i ty40 rfl 7) (show 0 ≤ ivh25 (sk 2) 2 ∧ ivh25 (sk 2) 2 ≤ 3000 from W23.int ty39 2) (show ivh25 (sk 2) 2 = ivh24 (sk 2) 2 from fl23.i ty39 rfl 2) (show ivh24 (sk 2) 2 = ivh21 (sk 2) 2 from fl22.i ty39 rfl 2) (show 1 ≤ ivh25 a0 11 ∧ ivh25 a0 11 ≤ 100 from W23.int ty38 11) (show ivh25 a0 11 = ivh24 a0 11 from fl23.i ty38 rfl 11) (show ivh24 a0 11 = ivh21 a0 11 from fl22.i ty38 rfl 11) (show ivh21 a0 11 = ivb3 a0 11 from fl20.i ty38 rfl 11) (show 1 ≤ ivh25 a0 12 ∧ ivh25 a0 12 ≤ 50 from W23.int ty38 12) (show ivh25 a0 12 = ivh24 a0 12 from fl23.i ty38 rfl 12) (show ivh24 a0 12 = ivh21 a0 12 from fl22.i ty38 rfl 12) (show ivh21 a0 12 = ivb3 a0 12 from fl20.i ty38 rfl 12) (show (-2147483648) ≤ ivh25 a0 13 ∧ ivh25 a0 13 ≤ 2147483647 from W23.int ty38 13) (show ivh25 a0 13 = ivh24 a0 13 from fl23.i ty38 rfl 13) (show ivh24 a0 13 = ivh21 a0 13 from fl22.i ty38 rfl 13) (show ivh21 a0 13 = ivb3 a0 13 from fl20.i ty38 rfl 13) (show (-2147483648) ≤ ivh25 a0 14 ∧ ivh25 a0 14 ≤ 2147483647 from W23.int ty38 14) (show ivh25 a0 14 = ivh24 a0 14 from fl23.i ty38 rfl 14) (show ivh24 a0 14 = ivh21 a0 14 from fl22.i ty38 rfl 14) (show ivh21 a0 14 = ivb3 a0 14 from fl20.i ty38 rfl 14) (show (-2147483648) ≤ ivh25 a0 15 ∧ ivh25 a0 15 ≤ 2147483647 from W23.int ty38 15) (show ivh25 a0 15 = ivh24 a0 15 from fl23.i ty38 rfl 15) (show ivh24 a0 15 = ivh21 a0 15 from fl22.i ty38 rfl 15) (show ivh21 a0 15 = ivb3 a0 15 from fl20.i ty38 rfl 15) (show (-2147483648) ≤ ivh25 a0 16 ∧ ivh25 a0 16 ≤ 2147483647 from W23.int ty38 16) (show ivh25 a0 16 = ivh24 a0 16 from fl23.i ty38 rfl 16) (show ivh24 a0 16 = ivh21 a0 16 from fl22.i ty38 rfl 16) (show ivh21 a0 16 = ivb3 a0 16 from fl20.i ty38 rfl 16) (fun ri192 ie275 ri193 ie276 ie277 ri194 ie278 ie279 ie280 ri195 ie282 ie283 ie284 ri196 ie286 ie287 ie288 ri197 ie290 ie291 ie292 ri198 ie294 ie295 ie296 ri199 ie298 ie299 ie300 => ?_)
                  refine c_lv (lv2 := [(5, .int (iI 0)), (4, .int (iI f22)), (3, .ref ob2), (2, .int (iI fl)), (0, .ref a0), (1, .int (iI i))]) [0, 1, 2, 3, 4, 5] rfl ?_
                  exact Lp4 103 0 _ _ _ _ _ (by omega) Xb3 W23 F18  (by omega) (by show ivh25 (sk 15) 7 ≤ 200; omega) (ie276.trans (ie277.trans gf20)) gf23 (by show 0 ≤ ivh25 (sk 15) 7 ∧ 0 ≤ iv a0 11; omega) (HDP.mk wkob2 (QT.of hW hS Xb3 F16 rfl rfl rfl rfl rfl) hLC (by omega) (by omega) hWD (by omega) gf22.2 (by omega) (by omega)) (HDB.mk wkob2 (QT.of hW hS Xb3 F16 rfl rfl rfl rfl rfl) hLC (by omega) (by omega) gf22.2 (by omega) W22 fl23 ty40 rfl rfl (by omega)) (ie278.trans (ie279.trans (ie280.trans hkp11))) (ie282.trans (ie283.trans (ie284.trans hkp12))) (ie286.trans (ie287.trans (ie288.trans hkp13))) (ie290.trans (ie291.trans (ie292.trans hkp14))) (ie294.trans (ie295.trans (ie296.trans hkp15))) (ie298.trans (ie299.trans (ie300.trans hkp16))) (show rvb3 a0 9 = rv a0 9 from hkr9) (show rvb3 a0 10 = rv a0 10 from hkr10)
                · replace gf22 := (And.intro (And.intro (gf22.1.1.resolve_left c10) (And.intro gf22.1.2.1 trivial)) gf22.2)
                  refine c_aload_n (j := 3) (x := a0) C dX11_head_138 rfl ?_
                  refine c_iload (j := 0) C dX11_head_139 rfl ?_
                  refine c_aload_n (j := 3) (x := a0) C dX11_head_141 rfl ?_
                  refine c_getr (k := 6) C ck_12 dX11_head_142 w2_50 (by decide) ty38 rfl rfl (by decide) rfl rq18 ?_
                  refine c_st (st2 := [.ref (sk 15), .int (iI f22), .ref a0]) rfl ?_
                  refine d_callV (As := []) (rest := [.int (iI f22), .ref a0]) C hM (C_placeOfUnknown (a0 := (sk 15)) W22 skb3 ty40  ) dX11_head_145 kV_X11_263 rfl ty40 rfl rfl (by decide) ck_7 rfl (Nat.le_of_ble_eq_true rfl) ⟨(Nat.le_of_ble_eq_true rfl), (Nat.le_of_ble_eq_true rfl)⟩ hph pl8 (show 0 + 0 = 0 from rfl) (by decide) (fun rh29 Lh29 clh29 lnh29 ivh29 rvh29 h29 => ?_)
                  obtain ⟨f27, rfl, rfl, rfl, rfl, rfl, rfl, rgf27, exf27⟩ := h29
                  refine c_st (st2 := [.int (iI f27), .int (iI f22), .ref a0]) rfl ?_
                  refine d_callV (As := [.int (iI f22), .int (iI f27)]) (rest := []) C hM (C_refuseAt (a0 := a0) (x := f22) (y := f27) W22 skb3 ty38 (by omega) (by omega) ) dX11_head_148 kV_X11_266 rfl ty38 rfl rfl (by decide) ck_12 rfl (Nat.le_of_ble_eq_true rfl) ⟨(Nat.le_of_ble_eq_true rfl), (Nat.le_of_ble_eq_true rfl)⟩ hph pl8 (show 0 + 0 = 0 from rfl) (by decide) (fun rh30 Lh30 clh30 lnh30 ivh30 rvh30 h30 => ?_)
                  obtain ⟨f28, rfl, rfl, rfl, rfl, rfl, fl28, W28, rgf28, exf28, kp11f28, kp12f28, kp13f28, kp14f28, kp15f28, kp16f28⟩ := h30
                  refine hv20 (show 1 ≤ ivh24 a0 11 ∧ ivh24 a0 11 ≤ 100 from W22.int ty38 11) (show ivh24 a0 11 = ivh21 a0 11 from fl22.i ty38 rfl 11) (show ivh21 a0 11 = ivb3 a0 11 from fl20.i ty38 rfl 11) (show 1 ≤ ivh24 a0 12 ∧ ivh24 a0 12 ≤ 50 from W22.int ty38 12) (show ivh24 a0 12 = ivh21 a0 12 from fl22.i ty38 rfl 12) (show ivh21 a0 12 = ivb3 a0 12 from fl20.i ty38 rfl 12) (show (-2147483648) ≤ ivh24 a0 13 ∧ ivh24 a0 13 ≤ 2147483647 from W22.int ty38 13) (show ivh24 a0 13 = ivh21 a0 13 from fl22.i ty38 rfl 13) (show ivh21 a0 13 = ivb3 a0 13 from fl20.i ty38 rfl 13) (show (-2147483648) ≤ ivh24 a0 14 ∧ ivh24 a0 14 ≤ 2147483647 from W22.int ty38 14) (show ivh24 a0 14 = ivh21 a0 14 from fl22.i ty38 rfl 14) (show ivh21 a0 14 = ivb3 a0 14 from fl20.i ty38 rfl 14) (show (-2147483648) ≤ ivh24 a0 15 ∧ ivh24 a0 15 ≤ 2147483647 from W22.int ty38 15) (show ivh24 a0 15 = ivh21 a0 15 from fl22.i ty38 rfl 15) (show ivh21 a0 15 = ivb3 a0 15 from fl20.i ty38 rfl 15) (show (-2147483648) ≤ ivh24 a0 16 ∧ ivh24 a0 16 ≤ 2147483647 from W22.int ty38 16) (show ivh24 a0 16 = ivh21 a0 16 from fl22.i ty38 rfl 16) (show ivh21 a0 16 = ivb3 a0 16 from fl20.i ty38 rfl 16) (F17.call Xb3 fl28 rfl) (MRK.call mr17 W22 skb3 XT.refl fl28 rfl rfl) (fun ri200 ie302 ie303 ri201 ie305 ie306 ri202 ie308 ie309 ri203 ie311 ie312 ri204 ie314 ie315 ri205 ie317 ie318 F22 mr22 => ?_)
                  refine c_st (st2 := [.int (iI f28)]) rfl ?_
                  refine hv17 (show ivh30 a0 11 = ivh24 a0 11 from kp11f28) (show ivh30 a0 12 = ivh24 a0 12 from kp12f28) (show ivh30 a0 13 = ivh24 a0 13 from kp13f28) (show ivh30 a0 14 = ivh24 a0 14 from kp14f28) (show ivh30 a0 15 = ivh24 a0 15 from kp15f28) (show ivh30 a0 16 = ivh24 a0 16 from kp16f28) (show f28 = -1 from exf28) (show 0 ≤ ivh30 (sk 2) 2 ∧ ivh30 (sk 2) 2 ≤ 3000 from W28.int ty39 2) (show ivh30 (sk 2) 2 = ivh24 (sk 2) 2 from fl28.i ty39 rfl 2) (show ivh24 (sk 2) 2 = ivh21 (sk 2) 2 from fl22.i ty39 rfl 2) (show 1 ≤ ivh30 a0 11 ∧ ivh30 a0 11 ≤ 100 from W28.int ty38 11) (show 1 ≤ ivh30 a0 12 ∧ ivh30 a0 12 ≤ 50 from W28.int ty38 12) (show (-2147483648) ≤ ivh30 a0 13 ∧ ivh30 a0 13 ≤ 2147483647 from W28.int ty38 13) (show (-2147483648) ≤ ivh30 a0 14 ∧ ivh30 a0 14 ≤ 2147483647 from W28.int ty38 14) (show (-2147483648) ≤ ivh30 a0 15 ∧ ivh30 a0 15 ≤ 2147483647 from W28.int ty38 15) (show (-2147483648) ≤ ivh30 a0 16 ∧ ivh30 a0 16 ≤ 2147483647 from W28.int ty38 16) (Xb3.ty tsk5) (fun gk11f28 gk12f28 gk13f28 gk14f28 gk15f28 gk16f28 gf28 ri206 ie320 ie321 ri207 ri208 ri209 ri210 ri211 ri212 ty63 => ?_)
                  refine hv4 (show 0 ≤ ivh30 (sk 5) 2 ∧ ivh30 (sk 5) 2 ≤ 200 from W28.int ty63 2) (show ivh30 (sk 5) 2 = ivh24 (sk 5) 2 from fl28.i ty63 rfl 2) (show ivh24 (sk 5) 2 = ivh21 (sk 5) 2 from fl22.i ty63 rfl 2) (show ivh21 (sk 5) 2 = ivb3 (sk 5) 2 from fl20.i ty63 rfl 2) (fun ri213 ie328 ie329 ie330 => ?_)
                  exact c_iret C dX11_head_151 rfl (by decide) (rom0 hph pl8 (by decide)) ⟨f28, rfl, Xb3, F22, W28, ⟨by omega, by omega⟩, trivial, (gk11f28.trans (ie302.trans (ie303.trans hkp11))), (gk12f28.trans (ie305.trans (ie306.trans hkp12))), (gk13f28.trans (ie308.trans (ie309.trans hkp13))), (gk14f28.trans (ie311.trans (ie312.trans hkp14))), (gk15f28.trans (ie314.trans (ie315.trans hkp15))), (gk16f28.trans (ie317.trans (ie318.trans hkp16))), (ie320.trans (ie321.trans gf20)), (HDX.ns wkob2 (QT.of hW hS Xb3 F16 rfl rfl rfl rfl rfl) hLC (by omega) (by omega) gf22.2 (by omega) (by omega)), (Or.inl ⟨by omega, by omega, fun ss hs => (CT.fr (CT.fr (CT.fr (hHC ss hs) Wb3 ty63 fl20 rfl rfl rfl rfl rfl) W20 ty63 fl22 rfl rfl rfl rfl rfl) W22 ty63 fl28 rfl rfl rfl rfl rfl)⟩), (show rvb3 a0 9 = rv a0 9 from hkr9), (show rvb3 a0 10 = rv a0 10 from hkr10)⟩
              · subst oq2
                refine c_lv (lv2 := [(3, .null), (2, .int (iI fl)), (0, .ref a0), (1, .int (iI i))]) [0, 1, 2, 3] rfl ?_
                refine c_st (st2 := []) rfl ?_
                refine c_aload_n (j := 2) (x := a0) C dX11_head_117 rfl ?_
                refine c_iconst C dX11_head_118 ?_
                refine d_callV (As := [.int (iI 3)]) (rest := []) C hM (C_refuse (a0 := a0) (x := 3) W20 skb3 ty38 ⟨by decide, by decide⟩ ) dX11_head_119 kV_X11_102 rfl ty38 rfl rfl (by decide) ck_12 rfl (Nat.le_of_ble_eq_true rfl) ⟨(Nat.le_of_ble_eq_true rfl), (Nat.le_of_ble_eq_true rfl)⟩ hph pl8 (show 0 + 0 = 0 from rfl) (by decide) (fun rh31 Lh31 clh31 lnh31 ivh31 rvh31 h31 => ?_)
                obtain ⟨f29, rfl, rfl, rfl, rfl, rfl, fl29, W29, rgf29, exf29, kp11f29, kp12f29, kp13f29, kp14f29, kp15f29, kp16f29⟩ := h31
                refine hv14 (show 1 ≤ ivh21 a0 11 ∧ ivh21 a0 11 ≤ 100 from W20.int ty38 11) (show ivh21 a0 11 = ivb3 a0 11 from fl20.i ty38 rfl 11) (show 1 ≤ ivh21 a0 12 ∧ ivh21 a0 12 ≤ 50 from W20.int ty38 12) (show ivh21 a0 12 = ivb3 a0 12 from fl20.i ty38 rfl 12) (show (-2147483648) ≤ ivh21 a0 13 ∧ ivh21 a0 13 ≤ 2147483647 from W20.int ty38 13) (show ivh21 a0 13 = ivb3 a0 13 from fl20.i ty38 rfl 13) (show (-2147483648) ≤ ivh21 a0 14 ∧ ivh21 a0 14 ≤ 2147483647 from W20.int ty38 14) (show ivh21 a0 14 = ivb3 a0 14 from fl20.i ty38 rfl 14) (show (-2147483648) ≤ ivh21 a0 15 ∧ ivh21 a0 15 ≤ 2147483647 from W20.int ty38 15) (show ivh21 a0 15 = ivb3 a0 15 from fl20.i ty38 rfl 15) (show (-2147483648) ≤ ivh21 a0 16 ∧ ivh21 a0 16 ≤ 2147483647 from W20.int ty38 16) (show ivh21 a0 16 = ivb3 a0 16 from fl20.i ty38 rfl 16) (F16.call Xb3 fl29 rfl) (MRK.call mr16 W20 skb3 XT.refl fl29 rfl rfl) (fun ri214 ie332 ri215 ie334 ri216 ie336 ri217 ie338 ri218 ie340 ri219 ie342 F23 mr23 => ?_)
                refine c_st (st2 := [.int (iI f29)]) rfl ?_
                refine hv16 (show ivh31 a0 11 = ivh21 a0 11 from kp11f29) (show ivh31 a0 12 = ivh21 a0 12 from kp12f29) (show ivh31 a0 13 = ivh21 a0 13 from kp13f29) (show ivh31 a0 14 = ivh21 a0 14 from kp14f29) (show ivh31 a0 15 = ivh21 a0 15 from kp15f29) (show ivh31 a0 16 = ivh21 a0 16 from kp16f29) (show f29 = -1 from exf29) (show 0 ≤ ivh31 (sk 2) 2 ∧ ivh31 (sk 2) 2 ≤ 3000 from W29.int ty39 2) (show ivh31 (sk 2) 2 = ivh21 (sk 2) 2 from fl29.i ty39 rfl 2) (show 1 ≤ ivh31 a0 11 ∧ ivh31 a0 11 ≤ 100 from W29.int ty38 11) (show 1 ≤ ivh31 a0 12 ∧ ivh31 a0 12 ≤ 50 from W29.int ty38 12) (show (-2147483648) ≤ ivh31 a0 13 ∧ ivh31 a0 13 ≤ 2147483647 from W29.int ty38 13) (show (-2147483648) ≤ ivh31 a0 14 ∧ ivh31 a0 14 ≤ 2147483647 from W29.int ty38 14) (show (-2147483648) ≤ ivh31 a0 15 ∧ ivh31 a0 15 ≤ 2147483647 from W29.int ty38 15) (show (-2147483648) ≤ ivh31 a0 16 ∧ ivh31 a0 16 ≤ 2147483647 from W29.int ty38 16) (Xb3.ty tsk5) (fun gk11f29 gk12f29 gk13f29 gk14f29 gk15f29 gk16f29 gf29 ri220 ie344 ri221 ri222 ri223 ri224 ri225 ri226 ty64 => ?_)
                refine hv3 (show 0 ≤ ivh31 (sk 5) 2 ∧ ivh31 (sk 5) 2 ≤ 200 from W29.int ty64 2) (show ivh31 (sk 5) 2 = ivh21 (sk 5) 2 from fl29.i ty64 rfl 2) (show ivh21 (sk 5) 2 = ivb3 (sk 5) 2 from fl20.i ty64 rfl 2) (fun ri227 ie351 ie352 => ?_)
                exact c_iret C dX11_head_122 rfl (by decide) (rom0 hph pl8 (by decide)) ⟨f29, rfl, Xb3, F23, W29, ⟨by omega, by omega⟩, trivial, (gk11f29.trans (ie332.trans hkp11)), (gk12f29.trans (ie334.trans hkp12)), (gk13f29.trans (ie336.trans hkp13)), (gk14f29.trans (ie338.trans hkp14)), (gk15f29.trans (ie340.trans hkp15)), (gk16f29.trans (ie342.trans hkp16)), (ie344.trans gf20), (HDX.nw gf21 (QT.of hW hS Xb3 F16 rfl rfl rfl rfl rfl) (by omega)), (Or.inl ⟨by omega, by omega, fun ss hs => (CT.fr (CT.fr (hHC ss hs) Wb3 ty64 fl20 rfl rfl rfl rfl rfl) W20 ty64 fl29 rfl rfl rfl rfl rfl)⟩), (show rvb3 a0 9 = rv a0 9 from hkr9), (show rvb3 a0 10 = rv a0 10 from hkr10)⟩
            · refine c_aload_n (j := 2) (x := a0) C dX11_head_64 rfl ?_
              obtain ⟨rb25, rq25, trb25⟩ := Wb3.ref ty38 6 rfl rfl rfl
              have erb25 := Wb3.sk trb25 (by decide) rfl
              subst erb25
              refine c_getr (k := 6) C ck_12 dX11_head_65 w2_50 (by decide) ty38 rfl rfl (by decide) rfl rq25 ?_
              refine c_st (st2 := [.ref (sk 15)]) rfl ?_
              refine c_aload_n (j := 2) (x := a0) C dX11_head_68 rfl ?_
              refine c_getr (k := 0) C ck_12 dX11_head_69 w2_44 (by decide) ty38 rfl rfl (by decide) rfl rq16 ?_
              refine c_st (st2 := [.ref (sk 2), .ref (sk 15)]) rfl ?_
              refine c_iload_n (j := 1) C dX11_head_72 rfl ?_
              have pl12 := Phi.le Wb3 skb3
              refine d_callV (As := [.int (iI k)]) (rest := [.ref (sk 15)]) C hM (C_at_2 (a0 := (sk 2)) (i := k) Wb3 skb3 ty39 (by omega) ) dX11_head_73 kV_X11_224 rfl ty39 rfl rfl (by decide) ck_2 rfl (Nat.le_of_ble_eq_true rfl) ⟨(Nat.le_of_ble_eq_true rfl), (Nat.le_of_ble_eq_true rfl)⟩ hph pl12 (show 0 + 0 = 0 from rfl) (by decide) (fun rh32 Lh32 clh32 lnh32 ivh32 rvh32 h32 => ?_)
              obtain ⟨f30, rfl, rfl, rfl, rfl, rfl, rfl, rgf30, exf30⟩ := h32
              refine c_st (st2 := [.int (iI f30), .ref (sk 15)]) rfl ?_
              have gf30 : ((0 ≤ k ∧ k < ivb3 (sk 2) 2) ∨ f30 = 0) ∧ ∀ ss, CT ivb3 rvb3 (sk 2) ss → 0 ≤ k → k < ivb3 (sk 2) 2 → f30 = ss k.toNat := exf30
              refine c_iload_n (j := 1) C dX11_head_76 rfl ?_
              have ty65 := Xb3.ty tsk15
              have ri228 : 0 ≤ ivb3 (sk 15) 4 ∧ ivb3 (sk 15) 4 ≤ 500 := Wb3.int ty65 4
              refine d_callV (As := [.int (iI f30), .int (iI k)]) (rest := []) C hM (G_put (a0 := (sk 15)) (x := f30) (y := k) Wb3 skb3 ty65 (by omega) (by omega) ) dX11_head_77 kV_X11_273 rfl ty65 rfl rfl (by decide) ck_7 rfl (Nat.le_of_ble_eq_true rfl) ⟨(Nat.le_of_ble_eq_true rfl), (Nat.le_of_ble_eq_true rfl)⟩ hph pl12 (show 0 + 0 = 0 from rfl) (by decide) (fun rh33 Lh33 clh33 lnh33 ivh33 rvh33 h33 => ?_)
              obtain ⟨rfl, rfl, rfl, rfl, rfl, fl31, W31, exf31⟩ := h33
              refine hv2 (Fb3.call Xb3 fl31 rfl) (MRK.call mrb3 Wb3 skb3 XT.refl fl31 rfl rfl) (fun F24 mr24 => ?_)
              refine c_st (st2 := []) rfl ?_
              refine hv2 (show 0 ≤ ivh33 (sk 15) 4 ∧ ivh33 (sk 15) 4 ≤ 500 from W31.int ty65 4) (show (ivb3 (sk 15) 4 < 500 → ivh33 (sk 15) 4 = ivb3 (sk 15) 4 + 1) ∧ PTL ivb3 rvb3 ivh33 (sk 15) f30 from exf31) (fun ri229 gf31 => ?_)
              refine c_iinc (z := k) (j := 1) (lv2 := [(3, .int (iI (k + 1))), (2, .int (iI fl)), (0, .ref a0), (1, .int (iI i))]) C dX11_head_80 rfl (by decide) rfl ?_
              refine c_goto (tgt := 49) C dX11_head_83 (by decide) ?_
              refine hv15 (show 0 ≤ ivh33 (sk 2) 2 ∧ ivh33 (sk 2) 2 ≤ 3000 from W31.int ty39 2) (show ivh33 (sk 2) 2 = ivb3 (sk 2) 2 from fl31.i ty39 rfl 2) (Xb3.ty tsk5) (show 1 ≤ ivh33 a0 11 ∧ ivh33 a0 11 ≤ 100 from W31.int ty38 11) (show ivh33 a0 11 = ivb3 a0 11 from fl31.i ty38 rfl 11) (show 1 ≤ ivh33 a0 12 ∧ ivh33 a0 12 ≤ 50 from W31.int ty38 12) (show ivh33 a0 12 = ivb3 a0 12 from fl31.i ty38 rfl 12) (show (-2147483648) ≤ ivh33 a0 13 ∧ ivh33 a0 13 ≤ 2147483647 from W31.int ty38 13) (show ivh33 a0 13 = ivb3 a0 13 from fl31.i ty38 rfl 13) (show (-2147483648) ≤ ivh33 a0 14 ∧ ivh33 a0 14 ≤ 2147483647 from W31.int ty38 14) (show ivh33 a0 14 = ivb3 a0 14 from fl31.i ty38 rfl 14) (show (-2147483648) ≤ ivh33 a0 15 ∧ ivh33 a0 15 ≤ 2147483647 from W31.int ty38 15) (show ivh33 a0 15 = ivb3 a0 15 from fl31.i ty38 rfl 15) (show (-2147483648) ≤ ivh33 a0 16 ∧ ivh33 a0 16 ≤ 2147483647 from W31.int ty38 16) (show ivh33 a0 16 = ivb3 a0 16 from fl31.i ty38 rfl 16) (fun ri230 ie356 ty66 ri232 ie359 ri233 ie361 ri234 ie363 ri235 ie365 ri236 ie367 ri237 ie369 => ?_)
              refine hv2 (show 0 ≤ ivh33 (sk 5) 2 ∧ ivh33 (sk 5) 2 ≤ 200 from W31.int ty66 2) (show ivh33 (sk 5) 2 = ivb3 (sk 5) 2 from fl31.i ty66 rfl 2) (fun ri231 ie357 => ?_)
              refine c_lv (lv2 := [(2, .int (iI fl)), (3, .int (iI (k + 1))), (0, .ref a0), (1, .int (iI i))]) [1, 0, 2, 3] rfl ?_
              exact ih3  fl (k + 1) _ _ _ _ _ (by omega) Xb3 W31 F24  (by omega) (by omega) (by show ivh33 (sk 15) 4 = (k + 1); omega) (by omega) (ie356.trans h22) hf40 hWD (fun ss hs => CT.fr (hCT ss hs) Wb3 ty39 fl31 rfl rfl rfl rfl rfl) (hLT.put gf31.2 (by omega) ⟨by omega, by omega⟩ (fun ss hs => gf30.2 ss (hCT ss hs) (by omega) (by omega))) (ie357.trans hH5) (fun ss hs => CT.fr (hHC ss hs) Wb3 ty66 fl31 rfl rfl rfl rfl rfl) (ie359.trans hkp11) (ie361.trans hkp12) (ie363.trans hkp13) (ie365.trans hkp14) (ie367.trans hkp15) (ie369.trans hkp16) (show rvb3 a0 9 = rv a0 9 from hkr9) (show rvb3 a0 10 = rv a0 10 from hkr10)
      refine hv16 (show 0 ≤ ivh18 (sk 2) 2 ∧ ivh18 (sk 2) 2 ≤ 3000 from W17.int tsk2 2) (show ivh18 (sk 2) 2 = iv (sk 2) 2 from fl17.i tsk2 rfl 2) (show 0 ≤ ivh18 (sk 5) 2 ∧ ivh18 (sk 5) 2 ≤ 200 from W17.int tsk5 2) (show ivh18 (sk 5) 2 = iv (sk 5) 2 from fl17.i tsk5 rfl 2) (show 1 ≤ ivh18 a0 11 ∧ ivh18 a0 11 ≤ 100 from W17.int t_a0 11) (show ivh18 a0 11 = iv a0 11 from fl17.i t_a0 rfl 11) (show 1 ≤ ivh18 a0 12 ∧ ivh18 a0 12 ≤ 50 from W17.int t_a0 12) (show ivh18 a0 12 = iv a0 12 from fl17.i t_a0 rfl 12) (show (-2147483648) ≤ ivh18 a0 13 ∧ ivh18 a0 13 ≤ 2147483647 from W17.int t_a0 13) (show ivh18 a0 13 = iv a0 13 from fl17.i t_a0 rfl 13) (show (-2147483648) ≤ ivh18 a0 14 ∧ ivh18 a0 14 ≤ 2147483647 from W17.int t_a0 14) (show ivh18 a0 14 = iv a0 14 from fl17.i t_a0 rfl 14) (show (-2147483648) ≤ ivh18 a0 15 ∧ ivh18 a0 15 ≤ 2147483647 from W17.int t_a0 15) (show ivh18 a0 15 = iv a0 15 from fl17.i t_a0 rfl 15) (show (-2147483648) ≤ ivh18 a0 16 ∧ ivh18 a0 16 ≤ 2147483647 from W17.int t_a0 16) (show ivh18 a0 16 = iv a0 16 from fl17.i t_a0 rfl 16) (fun ri238 ie371 ri239 ie372 ri240 ie373 ri241 ie374 ri242 ie375 ri243 ie376 ri244 ie377 ri245 ie378 => ?_)
      refine c_lv (lv2 := [(2, .int (iI 0)), (3, .int (iI 0)), (0, .ref a0), (1, .int (iI i))]) [1, 0, 2, 3] rfl ?_
      exact Lp3 3003 0 0 _ _ _ _ _ (by omega) hX0 W17 F13  (by omega) (by omega) gf17 (by omega) ie371 (fun q => absurd q (by decide)) (fun ss hs => by
          have e := gf16 ss hs (by omega) (by omega)
          refine ⟨fun q => absurd q (by decide), fun q => ?_⟩
          have e2 := e.mpr (fun x q1 q2 => by
            have q3 := q.2 x (by omega) q2
            rw [Int.toNat_natCast] at q3
            exact q3)
          omega) (fun ss hs => CT.fr hs hW tsk2 fl17 rfl rfl rfl rfl rfl) LTA.zero ie372 (fun ss hs => CT.fr hs hW tsk5 fl17 rfl rfl rfl rfl rfl) ie373 ie374 ie375 ie376 ie377 ie378 rfl rfl
    · refine c_iconst C dX11_head_34 ?_
      refine c_goto (tgt := 39) C dX11_head_35 (by decide) ?_
      refine c_istore_n (lv2 := [(2, .int (iI 1)), (0, .ref a0), (1, .int (iI i))]) C dX11_head_39 (by decide) rfl ?_
      refine c_aload_n (j := 1) (x := a0) C dX11_head_40 rfl ?_
      obtain ⟨rb26, rq26, trb26⟩ := hW.ref t_a0 6 rfl rfl rfl
      have erb26 := hW.sk trb26 (by decide) rfl
      subst erb26
      refine c_getr (k := 6) C ck_12 dX11_head_41 w2_50 (by decide) t_a0 rfl rfl (by decide) rfl rq26 ?_
      refine c_st (st2 := [.ref (sk 15)]) rfl ?_
      refine d_callV (As := []) (rest := []) C hM (G_wclear (a0 := (sk 15)) hW hS tsk15  ) dX11_head_44 kV_X11_272 rfl tsk15 rfl rfl (by decide) ck_7 rfl (Nat.le_of_ble_eq_true rfl) ⟨(Nat.le_of_ble_eq_true rfl), (Nat.le_of_ble_eq_true rfl)⟩ hph hph (show 0 + 0 = 0 from rfl) (by decide) (fun rh34 Lh34 clh34 lnh34 ivh34 rvh34 h34 => ?_)
      obtain ⟨rfl, rfl, rfl, rfl, rfl, fl32, W32, exf32⟩ := h34
      refine hv2 (hF0.call hX0 fl32 rfl) (MRK.call hmr hW hS XT.refl fl32 rfl rfl) (fun F25 mr25 => ?_)
      refine c_st (st2 := []) rfl ?_
      refine hv2 (show 0 ≤ ivh34 (sk 15) 4 ∧ ivh34 (sk 15) 4 ≤ 500 from W32.int tsk15 4) (show ivh34 (sk 15) 4 = 0 from exf32) (fun ri246 gf32 => ?_)
      refine c_iconst C dX11_head_47 ?_
      refine c_istore_n (lv2 := [(3, .int (iI 0)), (2, .int (iI 1)), (0, .ref a0), (1, .int (iI i))]) C dX11_head_48 (by decide) rfl ?_
      have Lp5 : ∀ (nn : Nat) (fl k : Int) (Lb5 : List Nat) (clb5 lnb5 : Nat → Nat) (ivb5 : Nat → Nat → Int) (rvb5 : Nat → Nat → Option Nat) , 3001 - k < (nn : Int) → XT L cl ln Lb5 clb5 lnb5 → WT (g0 G) sk Lb5 clb5 lnb5 ivb5 rvb5 → fT [1, 2, 5, 35, 15, 50, 51, 52, 53, 54, 55] L cl iv rv ivb5 rvb5 → (fl = 0 ∨ fl = 1) → (0 ≤ k ∧ k ≤ 3000 ∧ k ≤ iv (sk 2) 2) → (ivb5 (sk 15) 4 = k) → ((fl = 0 ∧ k = 0) ∨ fl = 1) → (ivb5 (sk 2) 2 = iv (sk 2) 2) → (fl = 1 → iv (sk 2) 2 ≤ 40) → (HWD iv rv (sk 2) fl) → (∀ ss, CT iv rv (sk 2) ss → CT ivb5 rvb5 (sk 2) ss) → (LTA sk ln iv rv ivb5 rvb5 k) → (ivb5 (sk 5) 2 = iv (sk 5) 2) → (∀ ss, CT iv rv (sk 5) ss → CT ivb5 rvb5 (sk 5) ss) → (ivb5 a0 11 = iv a0 11) → (ivb5 a0 12 = iv a0 12) → (ivb5 a0 13 = iv a0 13) → (ivb5 a0 14 = iv a0 14) → (ivb5 a0 15 = iv a0 15) → (ivb5 a0 16 = iv a0 16) → (rvb5 a0 9 = rv a0 9) → (rvb5 a0 10 = rv a0 10) → cw p l e 8 ((PHM) + 0 - ((Phi (g0 G) sk) ln rv)) s m args below meth c G A 6 (MQ below (Qu G A (Qp G (Phi (g0 G) sk) ((Phi (g0 G) sk) ln rv) 0 (fun v L2 cl2 ln2 iv2 rv2 => ∃ f : Int, v = some (.int (iI f)) ∧ XT L cl ln L2 cl2 ln2 ∧ fT [1, 2, 5, 35, 15, 50, 51, 52, 53, 54, 55] L cl iv rv iv2 rv2 ∧ WT (g0 G) sk L2 cl2 ln2 iv2 rv2 ∧ (-2147483648 ≤ f ∧ f ≤ 2147483647) ∧ (True) ∧ iv2 a0 11 = iv a0 11 ∧ iv2 a0 12 = iv a0 12 ∧ iv2 a0 13 = iv a0 13 ∧ iv2 a0 14 = iv a0 14 ∧ iv2 a0 15 = iv a0 15 ∧ iv2 a0 16 = iv a0 16 ∧ iv2 (sk 2) 2 = 0 ∧ (HDX sk ln iv rv (iv a0 11) i f) ∧ (HDY sk ln iv rv iv2 rv2 i f) ∧ rv2 a0 9 = rv a0 9 ∧ rv2 a0 10 = rv a0 10))) args s (((PHM) + 0 - ((Phi (g0 G) sk) ln rv)) / 16) ((PHM) + 0 - ((Phi (g0 G) sk) ln rv)) A) (Phi (g0 G) sk) ((Phi (g0 G) sk) ln rv) Lb5 clb5 lnb5 ivb5 rvb5 0 49 [(2, .int (iI fl)), (3, .int (iI k)), (0, .ref a0), (1, .int (iI i))] [] := by
        intro nn
        induction nn with
        | zero =>
          intro  fl k Lb5 clb5 lnb5 ivb5 rvb5 hm Xb5 Wb5 Fb5  hfl hk h15 hnm h22 hf40 hWD hCT hLT hH5 hHC hkp11 hkp12 hkp13 hkp14 hkp15 hkp16 hkr9 hkr10
          have skb5 := Xb5.skl hS
          exact absurd hm (by omega)
        | succ nn ih5 =>
          intro  fl k Lb5 clb5 lnb5 ivb5 rvb5 hm Xb5 Wb5 Fb5  hfl hk h15 hnm h22 hf40 hWD hCT hLT hH5 hHC hkp11 hkp12 hkp13 hkp14 hkp15 hkp16 hkr9 hkr10
          refine hv2 (Xb5.skl hS) (MRK.call hmr hW hS Xb5 Fb5 rfl rfl) (fun skb5 mrb5 => ?_)
          refine c_iload_n (j := 0) C dX11_head_49 rfl ?_
          refine c_if_eq (tgt := 86) C (r32_01 hfl) dX11_head_50 (by decide) (fun c13 => ?_) (fun c13 => ?_)
          · clear hfl
            refine c_aload_n (j := 2) (x := a0) C dX11_head_86 rfl ?_
            have ty67 := Xb5.ty t_a0
            obtain ⟨rb27, rq27, trb27⟩ := Wb5.ref ty67 0 rfl rfl rfl
            have erb27 := Wb5.sk trb27 (by decide) rfl
            subst erb27
            refine c_getr (k := 0) C ck_12 dX11_head_87 w2_44 (by decide) ty67 rfl rfl (by decide) rfl rq27 ?_
            refine c_st (st2 := [.ref (sk 2)]) rfl ?_
            refine hv3 (Xb5.ty tsk2) (Xb5.ty tsk15) (Phi.le Wb5 skb5) (fun ty68 ty69 pl13 => ?_)
            refine d_callV (As := []) (rest := []) C hM (C_clear_2 (a0 := (sk 2)) Wb5 skb5 ty68  ) dX11_head_90 kV_X11_164 rfl ty68 rfl rfl (by decide) ck_2 rfl (Nat.le_of_ble_eq_true rfl) ⟨(Nat.le_of_ble_eq_true rfl), (Nat.le_of_ble_eq_true rfl)⟩ hph pl13 (show 0 + 0 = 0 from rfl) (by decide) (fun rh35 Lh35 clh35 lnh35 ivh35 rvh35 h35 => ?_)
            obtain ⟨rfl, rfl, rfl, rfl, rfl, fl33, W33, exf33⟩ := h35
            refine hv2 (Fb5.call Xb5 fl33 rfl) (MRK.call mrb5 Wb5 skb5 XT.refl fl33 rfl rfl) (fun F26 mr26 => ?_)
            refine c_st (st2 := []) rfl ?_
            refine hv5 (show 0 ≤ ivh35 (sk 2) 2 ∧ ivh35 (sk 2) 2 ≤ 3000 from W33.int ty68 2) (show ivh35 (sk 2) 2 = 0 from exf33) (hLT.ni Wb5 fl33 rfl ty69) (show 0 ≤ ivh35 (sk 15) 4 ∧ ivh35 (sk 15) 4 ≤ 500 from W33.int ty69 4) (show ivh35 (sk 15) 4 = ivb5 (sk 15) 4 from fl33.i ty69 rfl 4) (fun ri247 gf33 hLC ri248 ie381 => ?_)
            refine c_iload_n (j := 0) C dX11_head_93 rfl ?_
            refine c_if_ne (tgt := 104) C ⟨by omega, by omega⟩ dX11_head_94 (by decide) (fun z => absurd z (by omega)) (fun _ => ?_)
            refine c_aload_n (j := 2) (x := a0) C dX11_head_97 rfl ?_
            refine c_bipush (z := 6) C dX11_head_98 (by decide) ?_
            refine d_callV (As := [.int (iI 6)]) (rest := []) C hM (C_refuse (a0 := a0) (x := 6) W33 skb5 ty67 ⟨by decide, by decide⟩ ) dX11_head_100 kV_X11_102 rfl ty67 rfl rfl (by decide) ck_12 rfl (Nat.le_of_ble_eq_true rfl) ⟨(Nat.le_of_ble_eq_true rfl), (Nat.le_of_ble_eq_true rfl)⟩ hph pl13 (show 0 + 0 = 0 from rfl) (by decide) (fun rh36 Lh36 clh36 lnh36 ivh36 rvh36 h36 => ?_)
            obtain ⟨f34, rfl, rfl, rfl, rfl, rfl, fl34, W34, rgf34, exf34, kp11f34, kp12f34, kp13f34, kp14f34, kp15f34, kp16f34⟩ := h36
            refine hv14 (show 1 ≤ ivh35 a0 11 ∧ ivh35 a0 11 ≤ 100 from W33.int ty67 11) (show ivh35 a0 11 = ivb5 a0 11 from fl33.i ty67 rfl 11) (show 1 ≤ ivh35 a0 12 ∧ ivh35 a0 12 ≤ 50 from W33.int ty67 12) (show ivh35 a0 12 = ivb5 a0 12 from fl33.i ty67 rfl 12) (show (-2147483648) ≤ ivh35 a0 13 ∧ ivh35 a0 13 ≤ 2147483647 from W33.int ty67 13) (show ivh35 a0 13 = ivb5 a0 13 from fl33.i ty67 rfl 13) (show (-2147483648) ≤ ivh35 a0 14 ∧ ivh35 a0 14 ≤ 2147483647 from W33.int ty67 14) (show ivh35 a0 14 = ivb5 a0 14 from fl33.i ty67 rfl 14) (show (-2147483648) ≤ ivh35 a0 15 ∧ ivh35 a0 15 ≤ 2147483647 from W33.int ty67 15) (show ivh35 a0 15 = ivb5 a0 15 from fl33.i ty67 rfl 15) (show (-2147483648) ≤ ivh35 a0 16 ∧ ivh35 a0 16 ≤ 2147483647 from W33.int ty67 16) (show ivh35 a0 16 = ivb5 a0 16 from fl33.i ty67 rfl 16) (F26.call Xb5 fl34 rfl) (MRK.call mr26 W33 skb5 XT.refl fl34 rfl rfl) (fun ri249 ie383 ri250 ie385 ri251 ie387 ri252 ie389 ri253 ie391 ri254 ie393 F27 mr27 => ?_)
            refine c_st (st2 := [.int (iI f34)]) rfl ?_
            refine hv16 (show ivh36 a0 11 = ivh35 a0 11 from kp11f34) (show ivh36 a0 12 = ivh35 a0 12 from kp12f34) (show ivh36 a0 13 = ivh35 a0 13 from kp13f34) (show ivh36 a0 14 = ivh35 a0 14 from kp14f34) (show ivh36 a0 15 = ivh35 a0 15 from kp15f34) (show ivh36 a0 16 = ivh35 a0 16 from kp16f34) (show f34 = -1 from exf34) (show 0 ≤ ivh36 (sk 2) 2 ∧ ivh36 (sk 2) 2 ≤ 3000 from W34.int ty68 2) (show ivh36 (sk 2) 2 = ivh35 (sk 2) 2 from fl34.i ty68 rfl 2) (show 1 ≤ ivh36 a0 11 ∧ ivh36 a0 11 ≤ 100 from W34.int ty67 11) (show 1 ≤ ivh36 a0 12 ∧ ivh36 a0 12 ≤ 50 from W34.int ty67 12) (show (-2147483648) ≤ ivh36 a0 13 ∧ ivh36 a0 13 ≤ 2147483647 from W34.int ty67 13) (show (-2147483648) ≤ ivh36 a0 14 ∧ ivh36 a0 14 ≤ 2147483647 from W34.int ty67 14) (show (-2147483648) ≤ ivh36 a0 15 ∧ ivh36 a0 15 ≤ 2147483647 from W34.int ty67 15) (show (-2147483648) ≤ ivh36 a0 16 ∧ ivh36 a0 16 ≤ 2147483647 from W34.int ty67 16) (Xb5.ty tsk5) (fun gk11f34 gk12f34 gk13f34 gk14f34 gk15f34 gk16f34 gf34 ri255 ie395 ri256 ri257 ri258 ri259 ri260 ri261 ty70 => ?_)
            refine hv3 (show 0 ≤ ivh36 (sk 5) 2 ∧ ivh36 (sk 5) 2 ≤ 200 from W34.int ty70 2) (show ivh36 (sk 5) 2 = ivh35 (sk 5) 2 from fl34.i ty70 rfl 2) (show ivh35 (sk 5) 2 = ivb5 (sk 5) 2 from fl33.i ty70 rfl 2) (fun ri262 ie402 ie403 => ?_)
            exact c_iret C dX11_head_103 rfl (by decide) (rom0 hph pl13 (by decide)) ⟨f34, rfl, Xb5, F27, W34, ⟨by omega, by omega⟩, trivial, (gk11f34.trans (ie383.trans hkp11)), (gk12f34.trans (ie385.trans hkp12)), (gk13f34.trans (ie387.trans hkp13)), (gk14f34.trans (ie389.trans hkp14)), (gk15f34.trans (ie391.trans hkp15)), (gk16f34.trans (ie393.trans hkp16)), (ie395.trans gf33), (HDX.bad hWD (by omega) (by omega)), (Or.inl ⟨by omega, by omega, fun ss hs => (CT.fr (CT.fr (hHC ss hs) Wb5 ty70 fl33 rfl rfl rfl rfl rfl) W33 ty70 fl34 rfl rfl rfl rfl rfl)⟩), (show rvb5 a0 9 = rv a0 9 from hkr9), (show rvb5 a0 10 = rv a0 10 from hkr10)⟩
          · replace hfl := (hfl.resolve_left c13)
            refine c_iload_n (j := 1) C dX11_head_53 rfl ?_
            refine c_aload_n (j := 2) (x := a0) C dX11_head_54 rfl ?_
            have ty71 := Xb5.ty t_a0
            obtain ⟨rb28, rq28, trb28⟩ := Wb5.ref ty71 0 rfl rfl rfl
            have erb28 := Wb5.sk trb28 (by decide) rfl
            subst erb28
            refine c_getr (k := 0) C ck_12 dX11_head_55 w2_44 (by decide) ty71 rfl rfl (by decide) rfl rq28 ?_
            refine c_st (st2 := [.ref (sk 2), .int (iI k)]) rfl ?_
            have ty72 := Xb5.ty tsk2
            have ri263 : 0 ≤ ivb5 (sk 2) 2 ∧ ivb5 (sk 2) 2 ≤ 3000 := Wb5.int ty72 2
            refine c_get (k := 2) C ck_2 dX11_head_58 w1_44 (by decide) ty72 rfl rfl (by decide) rfl ?_
            refine c_icmp_ge (tgt := 86) C (r32_c (lo := 0) (hi := 3000) hk.1 hk.2.1 (by decide) (by decide)) (r32_c (lo := 0) (hi := 3000) ri263.1 ri263.2 (by decide) (by decide)) dX11_head_61 (by decide) (fun c14 => ?_) (fun c14 => ?_)
            · refine c_aload_n (j := 2) (x := a0) C dX11_head_86 rfl ?_
              refine c_getr (k := 0) C ck_12 dX11_head_87 w2_44 (by decide) ty71 rfl rfl (by decide) rfl rq28 ?_
              refine c_st (st2 := [.ref (sk 2)]) rfl ?_
              refine hv2 (Xb5.ty tsk15) (Phi.le Wb5 skb5) (fun ty73 pl14 => ?_)
              refine d_callV (As := []) (rest := []) C hM (C_clear_2 (a0 := (sk 2)) Wb5 skb5 ty72  ) dX11_head_90 kV_X11_164 rfl ty72 rfl rfl (by decide) ck_2 rfl (Nat.le_of_ble_eq_true rfl) ⟨(Nat.le_of_ble_eq_true rfl), (Nat.le_of_ble_eq_true rfl)⟩ hph pl14 (show 0 + 0 = 0 from rfl) (by decide) (fun rh37 Lh37 clh37 lnh37 ivh37 rvh37 h37 => ?_)
              obtain ⟨rfl, rfl, rfl, rfl, rfl, fl35, W35, exf35⟩ := h37
              refine hv2 (Fb5.call Xb5 fl35 rfl) (MRK.call mrb5 Wb5 skb5 XT.refl fl35 rfl rfl) (fun F28 mr28 => ?_)
              refine c_st (st2 := []) rfl ?_
              refine hv5 (show 0 ≤ ivh37 (sk 2) 2 ∧ ivh37 (sk 2) 2 ≤ 3000 from W35.int ty72 2) (show ivh37 (sk 2) 2 = 0 from exf35) (hLT.ni Wb5 fl35 rfl ty73) (show 0 ≤ ivh37 (sk 15) 4 ∧ ivh37 (sk 15) 4 ≤ 500 from W35.int ty73 4) (show ivh37 (sk 15) 4 = ivb5 (sk 15) 4 from fl35.i ty73 rfl 4) (fun ri264 gf35 hLC ri265 ie407 => ?_)
              refine c_iload_n (j := 0) C dX11_head_93 rfl ?_
              refine c_if_ne (tgt := 104) C ⟨by omega, by omega⟩ dX11_head_94 (by decide) (fun _ => ?_) (fun z => absurd z (by omega))
              refine c_aload_n (j := 2) (x := a0) C dX11_head_104 rfl ?_
              obtain ⟨rb29, rq29, trb29⟩ := W35.ref ty71 4 rfl rfl rfl
              have erb29 := W35.sk trb29 (by decide) rfl
              subst erb29
              refine c_getr (k := 4) C ck_12 dX11_head_105 w2_48 (by decide) ty71 rfl rfl (by decide) rfl rq29 ?_
              refine c_st (st2 := [.ref (sk 13)]) rfl ?_
              refine c_iload_n (j := 3) C dX11_head_108 rfl ?_
              have ty74 := Xb5.ty tsk13
              refine d_callV (As := [.int (iI i)]) (rest := []) C hM (G_whole (a0 := (sk 13)) (i := i) W35 skb5 ty74 (by omega) mr28) dX11_head_109 kV_X11_231 rfl ty74 rfl rfl (by decide) ck_11 rfl (Nat.le_of_ble_eq_true rfl) ⟨(Nat.le_of_ble_eq_true rfl), (Nat.le_of_ble_eq_true rfl)⟩ hph pl14 (show 0 + 0 = 0 from rfl) (by decide) (fun rh38 Lh38 clh38 lnh38 ivh38 rvh38 h38 => ?_)
              obtain ⟨f36, rfl, rfl, rfl, rfl, rfl, rfl, rgf36, exf36⟩ := h38
              refine c_st (st2 := [(va_rf f36)]) rfl ?_
              have gf36 : WOX sk lnb5 ivh37 rvb5 i f36 := exf36
              refine c_astorer_n (r := f36) (lv2 := [(3, (va_rf f36)), (2, .int (iI fl)), (0, .ref a0), (1, .int (iI i))]) C dX11_head_112 (by decide) rfl ?_
              refine c_aloadr_n (j := 0) (r := f36) C dX11_head_113 rfl ?_
              refine c_ifnonnull (r := f36) (tgt := 123) C dX11_head_114 (by decide) (fun ob3 oq3 => ?_) (fun oq3 => ?_)
              · subst oq3
                refine hv2 (rgf36 ob3 rfl) (gf36) (fun tob3 wkob3 => ?_)
                refine c_lv (lv2 := [(3, .ref ob3), (2, .int (iI fl)), (0, .ref a0), (1, .int (iI i))]) [0, 1, 2, 3] rfl ?_
                refine c_st (st2 := []) rfl ?_
                refine c_aload_n (j := 2) (x := a0) C dX11_head_123 rfl ?_
                obtain ⟨rb30, rq30, trb30⟩ := W35.ref ty71 6 rfl rfl rfl
                have erb30 := W35.sk trb30 (by decide) rfl
                subst erb30
                refine c_getr (k := 6) C ck_12 dX11_head_124 w2_50 (by decide) ty71 rfl rfl (by decide) rfl rq30 ?_
                refine c_st (st2 := [.ref (sk 15)]) rfl ?_
                refine c_aload_n (j := 0) (x := ob3) C dX11_head_127 rfl ?_
                refine d_callV (As := [.ref ob3]) (rest := []) C hM (G_setBy (a0 := (sk 15)) (a1 := ob3) W35 skb5 ty73 tob3  ) dX11_head_128 kV_X11_253 rfl ty73 rfl rfl (by decide) ck_7 rfl (Nat.le_of_ble_eq_true rfl) ⟨(Nat.le_of_ble_eq_true rfl), (Nat.le_of_ble_eq_true rfl)⟩ hph pl14 (show 0 + 0 = 0 from rfl) (by decide) (fun rh39 Lh39 clh39 lnh39 ivh39 rvh39 h39 => ?_)
                obtain ⟨f37, rfl, rfl, rfl, rfl, rfl, fl37, W37, rgf37, exf37⟩ := h39
                refine hv2 (F28.call Xb5 fl37 rfl) (MRK.call mr28 W35 skb5 XT.refl fl37 rfl rfl) (fun F29 mr29 => ?_)
                refine c_st (st2 := [.int (iI f37)]) rfl ?_
                refine hv3 (show 0 ≤ ivh39 (sk 15) 4 ∧ ivh39 (sk 15) 4 ≤ 500 from W37.int ty73 4) (show 0 ≤ ivh39 (sk 15) 7 ∧ ivh39 (sk 15) 7 ≤ 100000 from W37.int ty73 7) (show ((f37 = 0 ∨ f37 = 6 ∨ f37 = 7) ∧ ivh39 (sk 15) 4 = ivh37 (sk 15) 4 ∧ (f37 = 0 → ivh39 (sk 15) 7 ≤ 200)) ∧ SBX sk lnb5 ivh37 rvb5 ivh39 (sk 15) ob3 f37 from exf37) (fun ri266 ri267 gf37 => ?_)
                refine c_istore (lv2 := [(4, .int (iI f37)), (3, .ref ob3), (2, .int (iI fl)), (0, .ref a0), (1, .int (iI i))]) C dX11_head_131 (by decide) rfl ?_
                refine c_iload (j := 0) C dX11_head_133 rfl ?_
                refine c_if_eq (tgt := 152) C (r32_067 gf37.1.1) dX11_head_135 (by decide) (fun c15 => ?_) (fun c15 => ?_)
                · replace gf37 := (And.intro (And.intro c15 (And.intro gf37.1.2.1 (gf37.1.2.2 c15))) gf37.2)
                  refine c_aload_n (j := 3) (x := a0) C dX11_head_152 rfl ?_
                  obtain ⟨rb31, rq31, trb31⟩ := W37.ref ty71 3 rfl rfl rfl
                  have erb31 := W37.sk trb31 (by decide) rfl
                  subst erb31
                  refine c_getr (k := 3) C ck_12 dX11_head_153 w2_47 (by decide) ty71 rfl rfl (by decide) rfl rq31 ?_
                  refine c_st (st2 := [.ref (sk 5)]) rfl ?_
                  have ty75 := Xb5.ty tsk5
                  refine d_callV (As := []) (rest := []) C hM (C_clear_5 (a0 := (sk 5)) W37 skb5 ty75  ) dX11_head_156 kV_X11_164 rfl ty75 rfl rfl (by decide) ck_2 rfl (Nat.le_of_ble_eq_true rfl) ⟨(Nat.le_of_ble_eq_true rfl), (Nat.le_of_ble_eq_true rfl)⟩ hph pl14 (show 0 + 0 = 0 from rfl) (by decide) (fun rh40 Lh40 clh40 lnh40 ivh40 rvh40 h40 => ?_)
                  obtain ⟨rfl, rfl, rfl, rfl, rfl, fl38, W38, exf38⟩ := h40
                  refine hv2 (F29.call Xb5 fl38 rfl) (MRK.call mr29 W37 skb5 XT.refl fl38 rfl rfl) (fun F30 mr30 => ?_)
                  refine c_st (st2 := []) rfl ?_
                  refine hv2 (show 0 ≤ ivh40 (sk 5) 2 ∧ ivh40 (sk 5) 2 ≤ 200 from W38.int ty75 2) (show ivh40 (sk 5) 2 = 0 from exf38) (fun ri268 gf38 => ?_)
                  refine c_iconst C dX11_head_159 ?_
                  refine c_istore (lv2 := [(5, .int (iI 0)), (4, .int (iI f37)), (3, .ref ob3), (2, .int (iI fl)), (0, .ref a0), (1, .int (iI i))]) C dX11_head_160 (by decide) rfl ?_
                  have Lp6 : ∀ (nn : Nat) (k2 : Int) (Lb6 : List Nat) (clb6 lnb6 : Nat → Nat) (ivb6 : Nat → Nat → Int) (rvb6 : Nat → Nat → Option Nat) , 101 - k2 < (nn : Int) → XT L cl ln Lb6 clb6 lnb6 → WT (g0 G) sk Lb6 clb6 lnb6 ivb6 rvb6 → fT [1, 2, 5, 35, 15, 50, 51, 52, 53, 54, 55] L cl iv rv ivb6 rvb6 → (0 ≤ k2 ∧ k2 ≤ 100) → (ivb6 (sk 15) 7 ≤ 200) → (ivb6 (sk 2) 2 = 0) → (ivb6 (sk 5) 2 = k2) → (k2 ≤ ivb6 (sk 15) 7 ∧ k2 ≤ iv a0 11) → (HDP sk ln iv rv i (ivb6 (sk 15) 7)) → (HDB sk ln iv rv ivb6 rvb6 i) → (ivb6 a0 11 = iv a0 11) → (ivb6 a0 12 = iv a0 12) → (ivb6 a0 13 = iv a0 13) → (ivb6 a0 14 = iv a0 14) → (ivb6 a0 15 = iv a0 15) → (ivb6 a0 16 = iv a0 16) → (rvb6 a0 9 = rv a0 9) → (rvb6 a0 10 = rv a0 10) → cw p l e 8 ((PHM) + 0 - ((Phi (g0 G) sk) ln rv)) s m args below meth c G A 6 (MQ below (Qu G A (Qp G (Phi (g0 G) sk) ((Phi (g0 G) sk) ln rv) 0 (fun v L2 cl2 ln2 iv2 rv2 => ∃ f : Int, v = some (.int (iI f)) ∧ XT L cl ln L2 cl2 ln2 ∧ fT [1, 2, 5, 35, 15, 50, 51, 52, 53, 54, 55] L cl iv rv iv2 rv2 ∧ WT (g0 G) sk L2 cl2 ln2 iv2 rv2 ∧ (-2147483648 ≤ f ∧ f ≤ 2147483647) ∧ (True) ∧ iv2 a0 11 = iv a0 11 ∧ iv2 a0 12 = iv a0 12 ∧ iv2 a0 13 = iv a0 13 ∧ iv2 a0 14 = iv a0 14 ∧ iv2 a0 15 = iv a0 15 ∧ iv2 a0 16 = iv a0 16 ∧ iv2 (sk 2) 2 = 0 ∧ (HDX sk ln iv rv (iv a0 11) i f) ∧ (HDY sk ln iv rv iv2 rv2 i f) ∧ rv2 a0 9 = rv a0 9 ∧ rv2 a0 10 = rv a0 10))) args s (((PHM) + 0 - ((Phi (g0 G) sk) ln rv)) / 16) ((PHM) + 0 - ((Phi (g0 G) sk) ln rv)) A) (Phi (g0 G) sk) ((Phi (g0 G) sk) ln rv) Lb6 clb6 lnb6 ivb6 rvb6 0 162 [(5, .int (iI k2)), (4, .int (iI f37)), (3, .ref ob3), (2, .int (iI fl)), (0, .ref a0), (1, .int (iI i))] [] := by
                    intro nn
                    induction nn with
                    | zero =>
                      intro  k2 Lb6 clb6 lnb6 ivb6 rvb6 hm Xb6 Wb6 Fb6  hk2 hco htz h52 hk3 hHD hHB hkp11 hkp12 hkp13 hkp14 hkp15 hkp16 hkr9 hkr10
                      have skb6 := Xb6.skl hS
                      exact absurd hm (by omega)
                    | succ nn ih6 =>
                      intro  k2 Lb6 clb6 lnb6 ivb6 rvb6 hm Xb6 Wb6 Fb6  hk2 hco htz h52 hk3 hHD hHB hkp11 hkp12 hkp13 hkp14 hkp15 hkp16 hkr9 hkr10
                      refine hv2 (Xb6.skl hS) (MRK.call hmr hW hS Xb6 Fb6 rfl rfl) (fun skb6 mrb6 => ?_)
                      refine c_iload (j := 0) C dX11_head_162 rfl ?_
                      refine c_aload_n (j := 4) (x := a0) C dX11_head_164 rfl ?_
                      have ty76 := Xb6.ty t_a0
                      obtain ⟨rb32, rq32, trb32⟩ := Wb6.ref ty76 6 rfl rfl rfl
                      have erb32 := Wb6.sk trb32 (by decide) rfl
                      subst erb32
                      refine c_getr (k := 6) C ck_12 dX11_head_165 w2_50 (by decide) ty76 rfl rfl (by decide) rfl rq32 ?_
                      refine c_st (st2 := [.ref (sk 15), .int (iI k2)]) rfl ?_
                      have ty77 := Xb6.ty tsk15
                      have ri269 : 0 ≤ ivb6 (sk 15) 7 ∧ ivb6 (sk 15) 7 ≤ 100000 := Wb6.int ty77 7
                      refine c_get (k := 7) C ck_7 dX11_head_168 w1_149 (by decide) ty77 rfl rfl (by decide) rfl ?_
                      refine c_icmp_ge (tgt := 206) C (r32_c (lo := 0) (hi := 100) hk2.1 hk2.2 (by decide) (by decide)) (r32_c (lo := 0) (hi := 100000) ri269.1 ri269.2 (by decide) (by decide)) dX11_head_171 (by decide) (fun c16 => ?_) (fun c16 => ?_)
                      · refine c_aload_n (j := 4) (x := a0) C dX11_head_206 rfl ?_
                        refine c_aload_n (j := 4) (x := a0) C dX11_head_207 rfl ?_
                        obtain ⟨rb33, rq33, trb33⟩ := Wb6.ref ty76 3 rfl rfl rfl
                        have erb33 := Wb6.sk trb33 (by decide) rfl
                        subst erb33
                        refine c_getr (k := 3) C ck_12 dX11_head_208 w2_47 (by decide) ty76 rfl rfl (by decide) rfl rq33 ?_
                        refine c_st (st2 := [.ref (sk 5), .ref a0]) rfl ?_
                        have ty78 := Xb6.ty tsk5
                        have ri270 : 0 ≤ ivb6 (sk 5) 2 ∧ ivb6 (sk 5) 2 ≤ 200 := Wb6.int ty78 2
                        refine c_get (k := 2) C ck_2 dX11_head_211 w1_44 (by decide) ty78 rfl rfl (by decide) rfl ?_
                        have pl15 := Phi.le Wb6 skb6
                        refine d_callV (As := [.int (iI (ivb6 (sk 5) 2))]) (rest := []) C hM (C_done (a0 := a0) (x := ivb6 (sk 5) 2) Wb6 skb6 ty76 (by omega) ) dX11_head_214 kV_X11_109 rfl ty76 rfl rfl (by decide) ck_12 rfl (Nat.le_of_ble_eq_true rfl) ⟨(Nat.le_of_ble_eq_true rfl), (Nat.le_of_ble_eq_true rfl)⟩ hph pl15 (show 0 + 0 = 0 from rfl) (by decide) (fun rh41 Lh41 clh41 lnh41 ivh41 rvh41 h41 => ?_)
                        obtain ⟨f39, rfl, rfl, rfl, rfl, rfl, fl39, W39, rgf39, exf39, kp11f39, kp12f39, kp13f39, kp14f39, kp15f39, kp16f39⟩ := h41
                        refine hv8 (show 1 ≤ ivb6 a0 11 ∧ ivb6 a0 11 ≤ 100 from Wb6.int ty76 11) (show 1 ≤ ivb6 a0 12 ∧ ivb6 a0 12 ≤ 50 from Wb6.int ty76 12) (show (-2147483648) ≤ ivb6 a0 13 ∧ ivb6 a0 13 ≤ 2147483647 from Wb6.int ty76 13) (show (-2147483648) ≤ ivb6 a0 14 ∧ ivb6 a0 14 ≤ 2147483647 from Wb6.int ty76 14) (show (-2147483648) ≤ ivb6 a0 15 ∧ ivb6 a0 15 ≤ 2147483647 from Wb6.int ty76 15) (show (-2147483648) ≤ ivb6 a0 16 ∧ ivb6 a0 16 ≤ 2147483647 from Wb6.int ty76 16) (Fb6.call Xb6 fl39 rfl) (MRK.call mrb6 Wb6 skb6 XT.refl fl39 rfl rfl) (fun ri271 ri272 ri273 ri274 ri275 ri276 F31 mr31 => ?_)
                        refine c_st (st2 := [.int (iI f39)]) rfl ?_
                        refine hv19 (show ivh41 a0 11 = ivb6 a0 11 from kp11f39) (show ivh41 a0 12 = ivb6 a0 12 from kp12f39) (show ivh41 a0 13 = ivb6 a0 13 from kp13f39) (show ivh41 a0 14 = ivb6 a0 14 from kp14f39) (show ivh41 a0 15 = ivb6 a0 15 from kp15f39) (show ivh41 a0 16 = ivb6 a0 16 from kp16f39) (show f39 = (ivb6 (sk 5) 2) from exf39) (hHB.fr Wb6 fl39 ty77 ty78 rfl rfl rfl rfl) (Xb6.ty tsk2) (show 1 ≤ ivh41 a0 11 ∧ ivh41 a0 11 ≤ 100 from W39.int ty76 11) (show 1 ≤ ivh41 a0 12 ∧ ivh41 a0 12 ≤ 50 from W39.int ty76 12) (show (-2147483648) ≤ ivh41 a0 13 ∧ ivh41 a0 13 ≤ 2147483647 from W39.int ty76 13) (show (-2147483648) ≤ ivh41 a0 14 ∧ ivh41 a0 14 ≤ 2147483647 from W39.int ty76 14) (show (-2147483648) ≤ ivh41 a0 15 ∧ ivh41 a0 15 ≤ 2147483647 from W39.int ty76 15) (show (-2147483648) ≤ ivh41 a0 16 ∧ ivh41 a0 16 ≤ 2147483647 from W39.int ty76 16) (show 0 ≤ ivh41 (sk 15) 7 ∧ ivh41 (sk 15) 7 ≤ 100000 from W39.int ty77 7) (show ivh41 (sk 15) 7 = ivb6 (sk 15) 7 from fl39.i ty77 rfl 7) (show 0 ≤ ivh41 (sk 5) 2 ∧ ivh41 (sk 5) 2 ≤ 200 from W39.int ty78 2) (show ivh41 (sk 5) 2 = ivb6 (sk 5) 2 from fl39.i ty78 rfl 2) (fun gk11f39 gk12f39 gk13f39 gk14f39 gk15f39 gk16f39 gf39 hDF ty79 ri278 ri279 ri280 ri281 ri282 ri283 ri284 ie428 ri285 ie429 => ?_)
                        refine hv2 (show 0 ≤ ivh41 (sk 2) 2 ∧ ivh41 (sk 2) 2 ≤ 3000 from W39.int ty79 2) (show ivh41 (sk 2) 2 = ivb6 (sk 2) 2 from fl39.i ty79 rfl 2) (fun ri277 ie420 => ?_)
                        exact c_iret C dX11_head_217 rfl (by decide) (rom0 hph pl15 (by decide)) ⟨f39, rfl, Xb6, F31, W39, ⟨by omega, by omega⟩, trivial, (gk11f39.trans hkp11), (gk12f39.trans hkp12), (gk13f39.trans hkp13), (gk14f39.trans hkp14), (gk15f39.trans hkp15), (gk16f39.trans hkp16), (ie420.trans htz), (HDX.ok hHD (by omega)), (Or.inr ⟨by omega, by omega, hDF⟩), (show rvb6 a0 9 = rv a0 9 from hkr9), (show rvb6 a0 10 = rv a0 10 from hkr10)⟩
                      · refine c_iload (j := 0) C dX11_head_174 rfl ?_
                        refine c_aload_n (j := 4) (x := a0) C dX11_head_176 rfl ?_
                        have ri286 : 1 ≤ ivb6 a0 11 ∧ ivb6 a0 11 ≤ 100 := Wb6.int ty76 11
                        refine c_get (k := 11) C ck_12 dX11_head_177 w2_55 (by decide) ty76 rfl rfl (by decide) rfl ?_
                        refine c_icmp_ge (tgt := 206) C (r32_c (lo := 0) (hi := 100) hk2.1 hk2.2 (by decide) (by decide)) (r32_c (lo := 1) (hi := 100) ri286.1 ri286.2 (by decide) (by decide)) dX11_head_180 (by decide) (fun c17 => ?_) (fun c17 => ?_)
                        · refine c_aload_n (j := 4) (x := a0) C dX11_head_206 rfl ?_
                          refine c_aload_n (j := 4) (x := a0) C dX11_head_207 rfl ?_
                          obtain ⟨rb34, rq34, trb34⟩ := Wb6.ref ty76 3 rfl rfl rfl
                          have erb34 := Wb6.sk trb34 (by decide) rfl
                          subst erb34
                          refine c_getr (k := 3) C ck_12 dX11_head_208 w2_47 (by decide) ty76 rfl rfl (by decide) rfl rq34 ?_
                          refine c_st (st2 := [.ref (sk 5), .ref a0]) rfl ?_
                          have ty80 := Xb6.ty tsk5
                          have ri287 : 0 ≤ ivb6 (sk 5) 2 ∧ ivb6 (sk 5) 2 ≤ 200 := Wb6.int ty80 2
                          refine c_get (k := 2) C ck_2 dX11_head_211 w1_44 (by decide) ty80 rfl rfl (by decide) rfl ?_
                          have pl16 := Phi.le Wb6 skb6
                          refine d_callV (As := [.int (iI (ivb6 (sk 5) 2))]) (rest := []) C hM (C_done (a0 := a0) (x := ivb6 (sk 5) 2) Wb6 skb6 ty76 (by omega) ) dX11_head_214 kV_X11_109 rfl ty76 rfl rfl (by decide) ck_12 rfl (Nat.le_of_ble_eq_true rfl) ⟨(Nat.le_of_ble_eq_true rfl), (Nat.le_of_ble_eq_true rfl)⟩ hph pl16 (show 0 + 0 = 0 from rfl) (by decide) (fun rh42 Lh42 clh42 lnh42 ivh42 rvh42 h42 => ?_)
                          obtain ⟨f40, rfl, rfl, rfl, rfl, rfl, fl40, W40, rgf40, exf40, kp11f40, kp12f40, kp13f40, kp14f40, kp15f40, kp16f40⟩ := h42
                          refine hv7 (show 1 ≤ ivb6 a0 12 ∧ ivb6 a0 12 ≤ 50 from Wb6.int ty76 12) (show (-2147483648) ≤ ivb6 a0 13 ∧ ivb6 a0 13 ≤ 2147483647 from Wb6.int ty76 13) (show (-2147483648) ≤ ivb6 a0 14 ∧ ivb6 a0 14 ≤ 2147483647 from Wb6.int ty76 14) (show (-2147483648) ≤ ivb6 a0 15 ∧ ivb6 a0 15 ≤ 2147483647 from Wb6.int ty76 15) (show (-2147483648) ≤ ivb6 a0 16 ∧ ivb6 a0 16 ≤ 2147483647 from Wb6.int ty76 16) (Fb6.call Xb6 fl40 rfl) (MRK.call mrb6 Wb6 skb6 XT.refl fl40 rfl rfl) (fun ri288 ri289 ri290 ri291 ri292 F32 mr32 => ?_)
                          refine c_st (st2 := [.int (iI f40)]) rfl ?_
                          refine hv19 (show ivh42 a0 11 = ivb6 a0 11 from kp11f40) (show ivh42 a0 12 = ivb6 a0 12 from kp12f40) (show ivh42 a0 13 = ivb6 a0 13 from kp13f40) (show ivh42 a0 14 = ivb6 a0 14 from kp14f40) (show ivh42 a0 15 = ivb6 a0 15 from kp15f40) (show ivh42 a0 16 = ivb6 a0 16 from kp16f40) (show f40 = (ivb6 (sk 5) 2) from exf40) (hHB.fr Wb6 fl40 ty77 ty80 rfl rfl rfl rfl) (Xb6.ty tsk2) (show 1 ≤ ivh42 a0 11 ∧ ivh42 a0 11 ≤ 100 from W40.int ty76 11) (show 1 ≤ ivh42 a0 12 ∧ ivh42 a0 12 ≤ 50 from W40.int ty76 12) (show (-2147483648) ≤ ivh42 a0 13 ∧ ivh42 a0 13 ≤ 2147483647 from W40.int ty76 13) (show (-2147483648) ≤ ivh42 a0 14 ∧ ivh42 a0 14 ≤ 2147483647 from W40.int ty76 14) (show (-2147483648) ≤ ivh42 a0 15 ∧ ivh42 a0 15 ≤ 2147483647 from W40.int ty76 15) (show (-2147483648) ≤ ivh42 a0 16 ∧ ivh42 a0 16 ≤ 2147483647 from W40.int ty76 16) (show 0 ≤ ivh42 (sk 15) 7 ∧ ivh42 (sk 15) 7 ≤ 100000 from W40.int ty77 7) (show ivh42 (sk 15) 7 = ivb6 (sk 15) 7 from fl40.i ty77 rfl 7) (show 0 ≤ ivh42 (sk 5) 2 ∧ ivh42 (sk 5) 2 ≤ 200 from W40.int ty80 2) (show ivh42 (sk 5) 2 = ivb6 (sk 5) 2 from fl40.i ty80 rfl 2) (fun gk11f40 gk12f40 gk13f40 gk14f40 gk15f40 gk16f40 gf40 hDF ty81 ri294 ri295 ri296 ri297 ri298 ri299 ri300 ie445 ri301 ie446 => ?_)
                          refine hv2 (show 0 ≤ ivh42 (sk 2) 2 ∧ ivh42 (sk 2) 2 ≤ 3000 from W40.int ty81 2) (show ivh42 (sk 2) 2 = ivb6 (sk 2) 2 from fl40.i ty81 rfl 2) (fun ri293 ie437 => ?_)
                          exact c_iret C dX11_head_217 rfl (by decide) (rom0 hph pl16 (by decide)) ⟨f40, rfl, Xb6, F32, W40, ⟨by omega, by omega⟩, trivial, (gk11f40.trans hkp11), (gk12f40.trans hkp12), (gk13f40.trans hkp13), (gk14f40.trans hkp14), (gk15f40.trans hkp15), (gk16f40.trans hkp16), (ie437.trans htz), (HDX.ok hHD (by omega)), (Or.inr ⟨by omega, by omega, hDF⟩), (show rvb6 a0 9 = rv a0 9 from hkr9), (show rvb6 a0 10 = rv a0 10 from hkr10)⟩
                        · refine c_aload_n (j := 4) (x := a0) C dX11_head_183 rfl ?_
                          obtain ⟨rb35, rq35, trb35⟩ := Wb6.ref ty76 3 rfl rfl rfl
                          have erb35 := Wb6.sk trb35 (by decide) rfl
                          subst erb35
                          refine c_getr (k := 3) C ck_12 dX11_head_184 w2_47 (by decide) ty76 rfl rfl (by decide) rfl rq35 ?_
                          refine c_st (st2 := [.ref (sk 5)]) rfl ?_
                          refine c_aload_n (j := 4) (x := a0) C dX11_head_187 rfl ?_
                          refine c_getr (k := 6) C ck_12 dX11_head_188 w2_50 (by decide) ty76 rfl rfl (by decide) rfl rq32 ?_
                          refine c_st (st2 := [.ref (sk 15), .ref (sk 5)]) rfl ?_
                          obtain ⟨rb36, rq36, trb36⟩ := Wb6.ref ty77 6 rfl rfl rfl
                          have lnrb36 : 200 ≤ lnb6 rb36 ∧ lnb6 rb36 ≤ 200 := Wb6.len trb36 rfl
                          refine c_getr (k := 6) C ck_7 dX11_head_191 w1_146 (by decide) ty77 rfl rfl (by decide) rfl rq36 ?_
                          refine c_st (st2 := [.ref rb36, .ref (sk 5)]) rfl ?_
                          refine c_iload (j := 0) C dX11_head_194 rfl ?_
                          have ll3 : 200 ≤ lnb6 rb36 ∧ lnb6 rb36 ≤ 200 := Wb6.len trb36 rfl
                          refine c_iald C dX11_head_196 trb36 rfl (by omega) (by omega) (by omega) ?_
                          refine hv3 (show (-2147483648) ≤ ivb6 rb36 k2.toNat ∧ ivb6 rb36 k2.toNat ≤ 2147483647 from Wb6.int trb36 k2.toNat) (Xb6.ty tsk5) (Phi.le Wb6 skb6) (fun ri302 ty82 pl17 => ?_)
                          have ri303 : 0 ≤ ivb6 (sk 5) 2 ∧ ivb6 (sk 5) 2 ≤ 200 := Wb6.int ty82 2
                          refine d_callV (As := [.int (iI (ivb6 rb36 k2.toNat))]) (rest := []) C hM (G_add_5 (a0 := (sk 5)) (x := ivb6 rb36 k2.toNat) Wb6 skb6 ty82 (by omega) ) dX11_head_197 kV_X11_112 rfl ty82 rfl rfl (by decide) ck_2 rfl (Nat.le_of_ble_eq_true rfl) ⟨(Nat.le_of_ble_eq_true rfl), (Nat.le_of_ble_eq_true rfl)⟩ hph pl17 (show 0 + 0 = 0 from rfl) (by decide) (fun rh43 Lh43 clh43 lnh43 ivh43 rvh43 h43 => ?_)
                          obtain ⟨rfl, xl41, fl41, W41, exf41⟩ := h43
                          refine hv13 (Fb6.call Xb6 fl41 rfl) (MRK.call mrb6 Wb6 skb6 xl41 fl41 rfl rfl) (Xb6.ty tsk2) (Xb6.ty tsk3) (Xb6.ty tsk4) (Xb6.ty tsk13) (Xb6.ty tsk14) (Xb6.ty tsk16) (Xb6.ty tsk17) (Xb6.ty tsk22) (Xb6.ty tsk23) (Xb6.trans xl41) (xl41.skl skb6) (fun F33 mr33 ty83 ty84 ty85 ty86 ty87 ty88 ty89 ty90 ty91 X3 sk3 => ?_)
                          refine c_st (st2 := []) rfl ?_
                          refine hv2 (xl41.ty ty82) (show ((ivh43 (sk 5) 2 = ivb6 (sk 5) 2 ∧ ivb6 (sk 5) 2 = 200) ∨ (ivh43 (sk 5) 2 = ivb6 (sk 5) 2 + 1 ∧ ivb6 (sk 5) 2 < 200)) ∧ (∀ ss, CT ivb6 rvb6 (sk 5) ss → ivb6 (sk 5) 2 < 200 → CT ivh43 rvh43 (sk 5) (va_up ss (ivb6 (sk 5) 2).toNat (ivb6 rb36 k2.toNat))) ∧ (ivb6 (sk 5) 2 = 200 → ∀ ss, CT ivb6 rvb6 (sk 5) ss → CT ivh43 rvh43 (sk 5) ss) from exf41) (fun ty92 gf41 => ?_)
                          have ri304 : 0 ≤ ivh43 (sk 5) 2 ∧ ivh43 (sk 5) 2 ≤ 200 := W41.int ty92 2
                          refine c_iinc (z := k2) (j := 0) (lv2 := [(5, .int (iI (k2 + 1))), (4, .int (iI f37)), (3, .ref ob3), (2, .int (iI fl)), (0, .ref a0), (1, .int (iI i))]) C dX11_head_200 rfl (by decide) rfl ?_
                          refine c_goto (tgt := 162) C dX11_head_203 (by decide) ?_
                          refine hv11 (xl41.ty ty77) (show ivh43 (sk 15) 7 = ivb6 (sk 15) 7 from fl41.i ty77 rfl 7) (xl41.ty ty83) (show ivh43 (sk 2) 2 = ivb6 (sk 2) 2 from fl41.i ty83 rfl 2) (xl41.ty ty76) (show ivh43 a0 11 = ivb6 a0 11 from fl41.i ty76 rfl 11) (show ivh43 a0 12 = ivb6 a0 12 from fl41.i ty76 rfl 12) (show ivh43 a0 13 = ivb6 a0 13 from fl41.i ty76 rfl 13) (show ivh43 a0 14 = ivb6 a0 14 from fl41.i ty76 rfl 14) (show ivh43 a0 15 = ivb6 a0 15 from fl41.i ty76 rfl 15) (show ivh43 a0 16 = ivb6 a0 16 from fl41.i ty76 rfl 16) (fun ty93 ie450 ty94 ie451 ty95 ie453 ie454 ie456 ie458 ie460 ie462 => ?_)
                          refine hv8 (show 0 ≤ ivh43 (sk 15) 7 ∧ ivh43 (sk 15) 7 ≤ 100000 from W41.int ty93 7) (show 0 ≤ ivh43 (sk 2) 2 ∧ ivh43 (sk 2) 2 ≤ 3000 from W41.int ty94 2) (show 1 ≤ ivh43 a0 11 ∧ ivh43 a0 11 ≤ 100 from W41.int ty95 11) (show 1 ≤ ivh43 a0 12 ∧ ivh43 a0 12 ≤ 50 from W41.int ty95 12) (show (-2147483648) ≤ ivh43 a0 13 ∧ ivh43 a0 13 ≤ 2147483647 from W41.int ty95 13) (show (-2147483648) ≤ ivh43 a0 14 ∧ ivh43 a0 14 ≤ 2147483647 from W41.int ty95 14) (show (-2147483648) ≤ ivh43 a0 15 ∧ ivh43 a0 15 ≤ 2147483647 from W41.int ty95 15) (show (-2147483648) ≤ ivh43 a0 16 ∧ ivh43 a0 16 ≤ 2147483647 from W41.int ty95 16) (fun ri305 ri306 ri307 ri308 ri309 ri310 ri311 ri312 => ?_)
                          refine c_lv (lv2 := [(5, .int (iI (k2 + 1))), (4, .int (iI f37)), (3, .ref ob3), (2, .int (iI fl)), (0, .ref a0), (1, .int (iI i))]) [0, 1, 2, 3, 4, 5] rfl ?_
                          exact ih6  (k2 + 1) _ _ _ _ _ (by omega) X3 W41 F33  (by omega) (by show ivh43 (sk 15) 7 ≤ 200; omega) (ie451.trans htz) (by show ivh43 (sk 5) 2 = (k2 + 1); omega) (by show (k2 + 1) ≤ ivh43 (sk 15) 7 ∧ (k2 + 1) ≤ iv a0 11; omega) (by rw [show ivh43 (sk 15) 7 = ivb6 (sk 15) 7 by omega]; exact hHD) (hHB.step Wb6 fl41 ty77 rfl rfl gf41.2.1 rq36 (by rw [show ivb6 (sk 5) 2 = k2 by omega]) ⟨by omega, by omega, by omega⟩) (ie453.trans hkp11) (ie454.trans hkp12) (ie456.trans hkp13) (ie458.trans hkp14) (ie460.trans hkp15) (ie462.trans hkp16) (Eq.trans (show rvh43 a0 9 = rvb6 a0 9 from (fl41.r ty76 rfl 9)) (show rvb6 a0 9 = rv a0 9 from hkr9)) (Eq.trans (show rvh43 a0 10 = rvb6 a0 10 from (fl41.r ty76 rfl 10)) (show rvb6 a0 10 = rv a0 10 from hkr10))
                  refine hv29 (show 0 ≤ ivh40 (sk 15) 7 ∧ ivh40 (sk 15) 7 ≤ 100000 from W38.int ty73 7) (show ivh40 (sk 15) 7 = ivh39 (sk 15) 7 from fl38.i ty73 rfl 7) (show 0 ≤ ivh40 (sk 2) 2 ∧ ivh40 (sk 2) 2 ≤ 3000 from W38.int ty72 2) (show ivh40 (sk 2) 2 = ivh39 (sk 2) 2 from fl38.i ty72 rfl 2) (show ivh39 (sk 2) 2 = ivh37 (sk 2) 2 from fl37.i ty72 rfl 2) (show 1 ≤ ivh40 a0 11 ∧ ivh40 a0 11 ≤ 100 from W38.int ty71 11) (show ivh40 a0 11 = ivh39 a0 11 from fl38.i ty71 rfl 11) (show ivh39 a0 11 = ivh37 a0 11 from fl37.i ty71 rfl 11) (show ivh37 a0 11 = ivb5 a0 11 from fl35.i ty71 rfl 11) (show 1 ≤ ivh40 a0 12 ∧ ivh40 a0 12 ≤ 50 from W38.int ty71 12) (show ivh40 a0 12 = ivh39 a0 12 from fl38.i ty71 rfl 12) (show ivh39 a0 12 = ivh37 a0 12 from fl37.i ty71 rfl 12) (show ivh37 a0 12 = ivb5 a0 12 from fl35.i ty71 rfl 12) (show (-2147483648) ≤ ivh40 a0 13 ∧ ivh40 a0 13 ≤ 2147483647 from W38.int ty71 13) (show ivh40 a0 13 = ivh39 a0 13 from fl38.i ty71 rfl 13) (show ivh39 a0 13 = ivh37 a0 13 from fl37.i ty71 rfl 13) (show ivh37 a0 13 = ivb5 a0 13 from fl35.i ty71 rfl 13) (show (-2147483648) ≤ ivh40 a0 14 ∧ ivh40 a0 14 ≤ 2147483647 from W38.int ty71 14) (show ivh40 a0 14 = ivh39 a0 14 from fl38.i ty71 rfl 14) (show ivh39 a0 14 = ivh37 a0 14 from fl37.i ty71 rfl 14) (show ivh37 a0 14 = ivb5 a0 14 from fl35.i ty71 rfl 14) (show (-2147483648) ≤ ivh40 a0 15 ∧ ivh40 a0 15 ≤ 2147483647 from W38.int ty71 15) (show ivh40 a0 15 = ivh39 a0 15 from fl38.i ty71 rfl 15) (show ivh39 a0 15 = ivh37 a0 15 from fl37.i ty71 rfl 15) (show ivh37 a0 15 = ivb5 a0 15 from fl35.i ty71 rfl 15) (show (-2147483648) ≤ ivh40 a0 16 ∧ ivh40 a0 16 ≤ 2147483647 from W38.int ty71 16) (show ivh40 a0 16 = ivh39 a0 16 from fl38.i ty71 rfl 16) (show ivh39 a0 16 = ivh37 a0 16 from fl37.i ty71 rfl 16) (show ivh37 a0 16 = ivb5 a0 16 from fl35.i ty71 rfl 16) (fun ri313 ie464 ri314 ie465 ie466 ri315 ie467 ie468 ie469 ri316 ie471 ie472 ie473 ri317 ie475 ie476 ie477 ri318 ie479 ie480 ie481 ri319 ie483 ie484 ie485 ri320 ie487 ie488 ie489 => ?_)
                  refine c_lv (lv2 := [(5, .int (iI 0)), (4, .int (iI f37)), (3, .ref ob3), (2, .int (iI fl)), (0, .ref a0), (1, .int (iI i))]) [0, 1, 2, 3, 4, 5] rfl ?_
                  exact Lp6 103 0 _ _ _ _ _ (by omega) Xb5 W38 F30  (by omega) (by show ivh40 (sk 15) 7 ≤ 200; omega) (ie465.trans (ie466.trans gf35)) gf38 (by show 0 ≤ ivh40 (sk 15) 7 ∧ 0 ≤ iv a0 11; omega) (HDP.mk wkob3 (QT.of hW hS Xb5 F28 rfl rfl rfl rfl rfl) hLC (by omega) (by omega) hWD (by omega) gf37.2 (by omega) (by omega)) (HDB.mk wkob3 (QT.of hW hS Xb5 F28 rfl rfl rfl rfl rfl) hLC (by omega) (by omega) gf37.2 (by omega) W37 fl38 ty73 rfl rfl (by omega)) (ie467.trans (ie468.trans (ie469.trans hkp11))) (ie471.trans (ie472.trans (ie473.trans hkp12))) (ie475.trans (ie476.trans (ie477.trans hkp13))) (ie479.trans (ie480.trans (ie481.trans hkp14))) (ie483.trans (ie484.trans (ie485.trans hkp15))) (ie487.trans (ie488.trans (ie489.trans hkp16))) (show rvb5 a0 9 = rv a0 9 from hkr9) (show rvb5 a0 10 = rv a0 10 from hkr10)
                · replace gf37 := (And.intro (And.intro (gf37.1.1.resolve_left c15) (And.intro gf37.1.2.1 trivial)) gf37.2)
                  refine c_aload_n (j := 3) (x := a0) C dX11_head_138 rfl ?_
                  refine c_iload (j := 0) C dX11_head_139 rfl ?_
                  refine c_aload_n (j := 3) (x := a0) C dX11_head_141 rfl ?_
                  refine c_getr (k := 6) C ck_12 dX11_head_142 w2_50 (by decide) ty71 rfl rfl (by decide) rfl rq30 ?_
                  refine c_st (st2 := [.ref (sk 15), .int (iI f37), .ref a0]) rfl ?_
                  refine d_callV (As := []) (rest := [.int (iI f37), .ref a0]) C hM (C_placeOfUnknown (a0 := (sk 15)) W37 skb5 ty73  ) dX11_head_145 kV_X11_263 rfl ty73 rfl rfl (by decide) ck_7 rfl (Nat.le_of_ble_eq_true rfl) ⟨(Nat.le_of_ble_eq_true rfl), (Nat.le_of_ble_eq_true rfl)⟩ hph pl14 (show 0 + 0 = 0 from rfl) (by decide) (fun rh44 Lh44 clh44 lnh44 ivh44 rvh44 h44 => ?_)
                  obtain ⟨f42, rfl, rfl, rfl, rfl, rfl, rfl, rgf42, exf42⟩ := h44
                  refine c_st (st2 := [.int (iI f42), .int (iI f37), .ref a0]) rfl ?_
                  refine d_callV (As := [.int (iI f37), .int (iI f42)]) (rest := []) C hM (C_refuseAt (a0 := a0) (x := f37) (y := f42) W37 skb5 ty71 (by omega) (by omega) ) dX11_head_148 kV_X11_266 rfl ty71 rfl rfl (by decide) ck_12 rfl (Nat.le_of_ble_eq_true rfl) ⟨(Nat.le_of_ble_eq_true rfl), (Nat.le_of_ble_eq_true rfl)⟩ hph pl14 (show 0 + 0 = 0 from rfl) (by decide) (fun rh45 Lh45 clh45 lnh45 ivh45 rvh45 h45 => ?_)
                  obtain ⟨f43, rfl, rfl, rfl, rfl, rfl, fl43, W43, rgf43, exf43, kp11f43, kp12f43, kp13f43, kp14f43, kp15f43, kp16f43⟩ := h45
                  refine hv20 (show 1 ≤ ivh39 a0 11 ∧ ivh39 a0 11 ≤ 100 from W37.int ty71 11) (show ivh39 a0 11 = ivh37 a0 11 from fl37.i ty71 rfl 11) (show ivh37 a0 11 = ivb5 a0 11 from fl35.i ty71 rfl 11) (show 1 ≤ ivh39 a0 12 ∧ ivh39 a0 12 ≤ 50 from W37.int ty71 12) (show ivh39 a0 12 = ivh37 a0 12 from fl37.i ty71 rfl 12) (show ivh37 a0 12 = ivb5 a0 12 from fl35.i ty71 rfl 12) (show (-2147483648) ≤ ivh39 a0 13 ∧ ivh39 a0 13 ≤ 2147483647 from W37.int ty71 13) (show ivh39 a0 13 = ivh37 a0 13 from fl37.i ty71 rfl 13) (show ivh37 a0 13 = ivb5 a0 13 from fl35.i ty71 rfl 13) (show (-2147483648) ≤ ivh39 a0 14 ∧ ivh39 a0 14 ≤ 2147483647 from W37.int ty71 14) (show ivh39 a0 14 = ivh37 a0 14 from fl37.i ty71 rfl 14) (show ivh37 a0 14 = ivb5 a0 14 from fl35.i ty71 rfl 14) (show (-2147483648) ≤ ivh39 a0 15 ∧ ivh39 a0 15 ≤ 2147483647 from W37.int ty71 15) (show ivh39 a0 15 = ivh37 a0 15 from fl37.i ty71 rfl 15) (show ivh37 a0 15 = ivb5 a0 15 from fl35.i ty71 rfl 15) (show (-2147483648) ≤ ivh39 a0 16 ∧ ivh39 a0 16 ≤ 2147483647 from W37.int ty71 16) (show ivh39 a0 16 = ivh37 a0 16 from fl37.i ty71 rfl 16) (show ivh37 a0 16 = ivb5 a0 16 from fl35.i ty71 rfl 16) (F29.call Xb5 fl43 rfl) (MRK.call mr29 W37 skb5 XT.refl fl43 rfl rfl) (fun ri321 ie491 ie492 ri322 ie494 ie495 ri323 ie497 ie498 ri324 ie500 ie501 ri325 ie503 ie504 ri326 ie506 ie507 F34 mr34 => ?_)
                  refine c_st (st2 := [.int (iI f43)]) rfl ?_
                  refine hv17 (show ivh45 a0 11 = ivh39 a0 11 from kp11f43) (show ivh45 a0 12 = ivh39 a0 12 from kp12f43) (show ivh45 a0 13 = ivh39 a0 13 from kp13f43) (show ivh45 a0 14 = ivh39 a0 14 from kp14f43) (show ivh45 a0 15 = ivh39 a0 15 from kp15f43) (show ivh45 a0 16 = ivh39 a0 16 from kp16f43) (show f43 = -1 from exf43) (show 0 ≤ ivh45 (sk 2) 2 ∧ ivh45 (sk 2) 2 ≤ 3000 from W43.int ty72 2) (show ivh45 (sk 2) 2 = ivh39 (sk 2) 2 from fl43.i ty72 rfl 2) (show ivh39 (sk 2) 2 = ivh37 (sk 2) 2 from fl37.i ty72 rfl 2) (show 1 ≤ ivh45 a0 11 ∧ ivh45 a0 11 ≤ 100 from W43.int ty71 11) (show 1 ≤ ivh45 a0 12 ∧ ivh45 a0 12 ≤ 50 from W43.int ty71 12) (show (-2147483648) ≤ ivh45 a0 13 ∧ ivh45 a0 13 ≤ 2147483647 from W43.int ty71 13) (show (-2147483648) ≤ ivh45 a0 14 ∧ ivh45 a0 14 ≤ 2147483647 from W43.int ty71 14) (show (-2147483648) ≤ ivh45 a0 15 ∧ ivh45 a0 15 ≤ 2147483647 from W43.int ty71 15) (show (-2147483648) ≤ ivh45 a0 16 ∧ ivh45 a0 16 ≤ 2147483647 from W43.int ty71 16) (Xb5.ty tsk5) (fun gk11f43 gk12f43 gk13f43 gk14f43 gk15f43 gk16f43 gf43 ri327 ie509 ie510 ri328 ri329 ri330 ri331 ri332 ri333 ty96 => ?_)
                  refine hv4 (show 0 ≤ ivh45 (sk 5) 2 ∧ ivh45 (sk 5) 2 ≤ 200 from W43.int ty96 2) (show ivh45 (sk 5) 2 = ivh39 (sk 5) 2 from fl43.i ty96 rfl 2) (show ivh39 (sk 5) 2 = ivh37 (sk 5) 2 from fl37.i ty96 rfl 2) (show ivh37 (sk 5) 2 = ivb5 (sk 5) 2 from fl35.i ty96 rfl 2) (fun ri334 ie517 ie518 ie519 => ?_)
                  exact c_iret C dX11_head_151 rfl (by decide) (rom0 hph pl14 (by decide)) ⟨f43, rfl, Xb5, F34, W43, ⟨by omega, by omega⟩, trivial, (gk11f43.trans (ie491.trans (ie492.trans hkp11))), (gk12f43.trans (ie494.trans (ie495.trans hkp12))), (gk13f43.trans (ie497.trans (ie498.trans hkp13))), (gk14f43.trans (ie500.trans (ie501.trans hkp14))), (gk15f43.trans (ie503.trans (ie504.trans hkp15))), (gk16f43.trans (ie506.trans (ie507.trans hkp16))), (ie509.trans (ie510.trans gf35)), (HDX.ns wkob3 (QT.of hW hS Xb5 F28 rfl rfl rfl rfl rfl) hLC (by omega) (by omega) gf37.2 (by omega) (by omega)), (Or.inl ⟨by omega, by omega, fun ss hs => (CT.fr (CT.fr (CT.fr (hHC ss hs) Wb5 ty96 fl35 rfl rfl rfl rfl rfl) W35 ty96 fl37 rfl rfl rfl rfl rfl) W37 ty96 fl43 rfl rfl rfl rfl rfl)⟩), (show rvb5 a0 9 = rv a0 9 from hkr9), (show rvb5 a0 10 = rv a0 10 from hkr10)⟩
              · subst oq3
                refine c_lv (lv2 := [(3, .null), (2, .int (iI fl)), (0, .ref a0), (1, .int (iI i))]) [0, 1, 2, 3] rfl ?_
                refine c_st (st2 := []) rfl ?_
                refine c_aload_n (j := 2) (x := a0) C dX11_head_117 rfl ?_
                refine c_iconst C dX11_head_118 ?_
                refine d_callV (As := [.int (iI 3)]) (rest := []) C hM (C_refuse (a0 := a0) (x := 3) W35 skb5 ty71 ⟨by decide, by decide⟩ ) dX11_head_119 kV_X11_102 rfl ty71 rfl rfl (by decide) ck_12 rfl (Nat.le_of_ble_eq_true rfl) ⟨(Nat.le_of_ble_eq_true rfl), (Nat.le_of_ble_eq_true rfl)⟩ hph pl14 (show 0 + 0 = 0 from rfl) (by decide) (fun rh46 Lh46 clh46 lnh46 ivh46 rvh46 h46 => ?_)
                obtain ⟨f44, rfl, rfl, rfl, rfl, rfl, fl44, W44, rgf44, exf44, kp11f44, kp12f44, kp13f44, kp14f44, kp15f44, kp16f44⟩ := h46
                refine hv14 (show 1 ≤ ivh37 a0 11 ∧ ivh37 a0 11 ≤ 100 from W35.int ty71 11) (show ivh37 a0 11 = ivb5 a0 11 from fl35.i ty71 rfl 11) (show 1 ≤ ivh37 a0 12 ∧ ivh37 a0 12 ≤ 50 from W35.int ty71 12) (show ivh37 a0 12 = ivb5 a0 12 from fl35.i ty71 rfl 12) (show (-2147483648) ≤ ivh37 a0 13 ∧ ivh37 a0 13 ≤ 2147483647 from W35.int ty71 13) (show ivh37 a0 13 = ivb5 a0 13 from fl35.i ty71 rfl 13) (show (-2147483648) ≤ ivh37 a0 14 ∧ ivh37 a0 14 ≤ 2147483647 from W35.int ty71 14) (show ivh37 a0 14 = ivb5 a0 14 from fl35.i ty71 rfl 14) (show (-2147483648) ≤ ivh37 a0 15 ∧ ivh37 a0 15 ≤ 2147483647 from W35.int ty71 15) (show ivh37 a0 15 = ivb5 a0 15 from fl35.i ty71 rfl 15) (show (-2147483648) ≤ ivh37 a0 16 ∧ ivh37 a0 16 ≤ 2147483647 from W35.int ty71 16) (show ivh37 a0 16 = ivb5 a0 16 from fl35.i ty71 rfl 16) (F28.call Xb5 fl44 rfl) (MRK.call mr28 W35 skb5 XT.refl fl44 rfl rfl) (fun ri335 ie521 ri336 ie523 ri337 ie525 ri338 ie527 ri339 ie529 ri340 ie531 F35 mr35 => ?_)
                refine c_st (st2 := [.int (iI f44)]) rfl ?_
                refine hv16 (show ivh46 a0 11 = ivh37 a0 11 from kp11f44) (show ivh46 a0 12 = ivh37 a0 12 from kp12f44) (show ivh46 a0 13 = ivh37 a0 13 from kp13f44) (show ivh46 a0 14 = ivh37 a0 14 from kp14f44) (show ivh46 a0 15 = ivh37 a0 15 from kp15f44) (show ivh46 a0 16 = ivh37 a0 16 from kp16f44) (show f44 = -1 from exf44) (show 0 ≤ ivh46 (sk 2) 2 ∧ ivh46 (sk 2) 2 ≤ 3000 from W44.int ty72 2) (show ivh46 (sk 2) 2 = ivh37 (sk 2) 2 from fl44.i ty72 rfl 2) (show 1 ≤ ivh46 a0 11 ∧ ivh46 a0 11 ≤ 100 from W44.int ty71 11) (show 1 ≤ ivh46 a0 12 ∧ ivh46 a0 12 ≤ 50 from W44.int ty71 12) (show (-2147483648) ≤ ivh46 a0 13 ∧ ivh46 a0 13 ≤ 2147483647 from W44.int ty71 13) (show (-2147483648) ≤ ivh46 a0 14 ∧ ivh46 a0 14 ≤ 2147483647 from W44.int ty71 14) (show (-2147483648) ≤ ivh46 a0 15 ∧ ivh46 a0 15 ≤ 2147483647 from W44.int ty71 15) (show (-2147483648) ≤ ivh46 a0 16 ∧ ivh46 a0 16 ≤ 2147483647 from W44.int ty71 16) (Xb5.ty tsk5) (fun gk11f44 gk12f44 gk13f44 gk14f44 gk15f44 gk16f44 gf44 ri341 ie533 ri342 ri343 ri344 ri345 ri346 ri347 ty97 => ?_)
                refine hv3 (show 0 ≤ ivh46 (sk 5) 2 ∧ ivh46 (sk 5) 2 ≤ 200 from W44.int ty97 2) (show ivh46 (sk 5) 2 = ivh37 (sk 5) 2 from fl44.i ty97 rfl 2) (show ivh37 (sk 5) 2 = ivb5 (sk 5) 2 from fl35.i ty97 rfl 2) (fun ri348 ie540 ie541 => ?_)
                exact c_iret C dX11_head_122 rfl (by decide) (rom0 hph pl14 (by decide)) ⟨f44, rfl, Xb5, F35, W44, ⟨by omega, by omega⟩, trivial, (gk11f44.trans (ie521.trans hkp11)), (gk12f44.trans (ie523.trans hkp12)), (gk13f44.trans (ie525.trans hkp13)), (gk14f44.trans (ie527.trans hkp14)), (gk15f44.trans (ie529.trans hkp15)), (gk16f44.trans (ie531.trans hkp16)), (ie533.trans gf35), (HDX.nw gf36 (QT.of hW hS Xb5 F28 rfl rfl rfl rfl rfl) (by omega)), (Or.inl ⟨by omega, by omega, fun ss hs => (CT.fr (CT.fr (hHC ss hs) Wb5 ty97 fl35 rfl rfl rfl rfl rfl) W35 ty97 fl44 rfl rfl rfl rfl rfl)⟩), (show rvb5 a0 9 = rv a0 9 from hkr9), (show rvb5 a0 10 = rv a0 10 from hkr10)⟩
            · refine c_aload_n (j := 2) (x := a0) C dX11_head_64 rfl ?_
              obtain ⟨rb37, rq37, trb37⟩ := Wb5.ref ty71 6 rfl rfl rfl
              have erb37 := Wb5.sk trb37 (by decide) rfl
              subst erb37
              refine c_getr (k := 6) C ck_12 dX11_head_65 w2_50 (by decide) ty71 rfl rfl (by decide) rfl rq37 ?_
              refine c_st (st2 := [.ref (sk 15)]) rfl ?_
              refine c_aload_n (j := 2) (x := a0) C dX11_head_68 rfl ?_
              refine c_getr (k := 0) C ck_12 dX11_head_69 w2_44 (by decide) ty71 rfl rfl (by decide) rfl rq28 ?_
              refine c_st (st2 := [.ref (sk 2), .ref (sk 15)]) rfl ?_
              refine c_iload_n (j := 1) C dX11_head_72 rfl ?_
              have pl18 := Phi.le Wb5 skb5
              refine d_callV (As := [.int (iI k)]) (rest := [.ref (sk 15)]) C hM (C_at_2 (a0 := (sk 2)) (i := k) Wb5 skb5 ty72 (by omega) ) dX11_head_73 kV_X11_224 rfl ty72 rfl rfl (by decide) ck_2 rfl (Nat.le_of_ble_eq_true rfl) ⟨(Nat.le_of_ble_eq_true rfl), (Nat.le_of_ble_eq_true rfl)⟩ hph pl18 (show 0 + 0 = 0 from rfl) (by decide) (fun rh47 Lh47 clh47 lnh47 ivh47 rvh47 h47 => ?_)
              obtain ⟨f45, rfl, rfl, rfl, rfl, rfl, rfl, rgf45, exf45⟩ := h47
              refine c_st (st2 := [.int (iI f45), .ref (sk 15)]) rfl ?_
              have gf45 : ((0 ≤ k ∧ k < ivb5 (sk 2) 2) ∨ f45 = 0) ∧ ∀ ss, CT ivb5 rvb5 (sk 2) ss → 0 ≤ k → k < ivb5 (sk 2) 2 → f45 = ss k.toNat := exf45
              refine c_iload_n (j := 1) C dX11_head_76 rfl ?_
              have ty98 := Xb5.ty tsk15
              have ri349 : 0 ≤ ivb5 (sk 15) 4 ∧ ivb5 (sk 15) 4 ≤ 500 := Wb5.int ty98 4
              refine d_callV (As := [.int (iI f45), .int (iI k)]) (rest := []) C hM (G_put (a0 := (sk 15)) (x := f45) (y := k) Wb5 skb5 ty98 (by omega) (by omega) ) dX11_head_77 kV_X11_273 rfl ty98 rfl rfl (by decide) ck_7 rfl (Nat.le_of_ble_eq_true rfl) ⟨(Nat.le_of_ble_eq_true rfl), (Nat.le_of_ble_eq_true rfl)⟩ hph pl18 (show 0 + 0 = 0 from rfl) (by decide) (fun rh48 Lh48 clh48 lnh48 ivh48 rvh48 h48 => ?_)
              obtain ⟨rfl, rfl, rfl, rfl, rfl, fl46, W46, exf46⟩ := h48
              refine hv2 (Fb5.call Xb5 fl46 rfl) (MRK.call mrb5 Wb5 skb5 XT.refl fl46 rfl rfl) (fun F36 mr36 => ?_)
              refine c_st (st2 := []) rfl ?_
              refine hv2 (show 0 ≤ ivh48 (sk 15) 4 ∧ ivh48 (sk 15) 4 ≤ 500 from W46.int ty98 4) (show (ivb5 (sk 15) 4 < 500 → ivh48 (sk 15) 4 = ivb5 (sk 15) 4 + 1) ∧ PTL ivb5 rvb5 ivh48 (sk 15) f45 from exf46) (fun ri350 gf46 => ?_)
              refine c_iinc (z := k) (j := 1) (lv2 := [(3, .int (iI (k + 1))), (2, .int (iI fl)), (0, .ref a0), (1, .int (iI i))]) C dX11_head_80 rfl (by decide) rfl ?_
              refine c_goto (tgt := 49) C dX11_head_83 (by decide) ?_
              refine hv15 (show 0 ≤ ivh48 (sk 2) 2 ∧ ivh48 (sk 2) 2 ≤ 3000 from W46.int ty72 2) (show ivh48 (sk 2) 2 = ivb5 (sk 2) 2 from fl46.i ty72 rfl 2) (Xb5.ty tsk5) (show 1 ≤ ivh48 a0 11 ∧ ivh48 a0 11 ≤ 100 from W46.int ty71 11) (show ivh48 a0 11 = ivb5 a0 11 from fl46.i ty71 rfl 11) (show 1 ≤ ivh48 a0 12 ∧ ivh48 a0 12 ≤ 50 from W46.int ty71 12) (show ivh48 a0 12 = ivb5 a0 12 from fl46.i ty71 rfl 12) (show (-2147483648) ≤ ivh48 a0 13 ∧ ivh48 a0 13 ≤ 2147483647 from W46.int ty71 13) (show ivh48 a0 13 = ivb5 a0 13 from fl46.i ty71 rfl 13) (show (-2147483648) ≤ ivh48 a0 14 ∧ ivh48 a0 14 ≤ 2147483647 from W46.int ty71 14) (show ivh48 a0 14 = ivb5 a0 14 from fl46.i ty71 rfl 14) (show (-2147483648) ≤ ivh48 a0 15 ∧ ivh48 a0 15 ≤ 2147483647 from W46.int ty71 15) (show ivh48 a0 15 = ivb5 a0 15 from fl46.i ty71 rfl 15) (show (-2147483648) ≤ ivh48 a0 16 ∧ ivh48 a0 16 ≤ 2147483647 from W46.int ty71 16) (show ivh48 a0 16 = ivb5 a0 16 from fl46.i ty71 rfl 16) (fun ri351 ie545 ty99 ri353 ie548 ri354 ie550 ri355 ie552 ri356 ie554 ri357 ie556 ri358 ie558 => ?_)
              refine hv2 (show 0 ≤ ivh48 (sk 5) 2 ∧ ivh48 (sk 5) 2 ≤ 200 from W46.int ty99 2) (show ivh48 (sk 5) 2 = ivb5 (sk 5) 2 from fl46.i ty99 rfl 2) (fun ri352 ie546 => ?_)
              refine c_lv (lv2 := [(2, .int (iI fl)), (3, .int (iI (k + 1))), (0, .ref a0), (1, .int (iI i))]) [1, 0, 2, 3] rfl ?_
              exact ih5  fl (k + 1) _ _ _ _ _ (by omega) Xb5 W46 F36  (by omega) (by omega) (by show ivh48 (sk 15) 4 = (k + 1); omega) (by omega) (ie545.trans h22) hf40 hWD (fun ss hs => CT.fr (hCT ss hs) Wb5 ty72 fl46 rfl rfl rfl rfl rfl) (hLT.put gf46.2 (by omega) ⟨by omega, by omega⟩ (fun ss hs => gf45.2 ss (hCT ss hs) (by omega) (by omega))) (ie546.trans hH5) (fun ss hs => CT.fr (hHC ss hs) Wb5 ty99 fl46 rfl rfl rfl rfl rfl) (ie548.trans hkp11) (ie550.trans hkp12) (ie552.trans hkp13) (ie554.trans hkp14) (ie556.trans hkp15) (ie558.trans hkp16) (show rvb5 a0 9 = rv a0 9 from hkr9) (show rvb5 a0 10 = rv a0 10 from hkr10)
      refine hv16 (show 0 ≤ ivh34 (sk 2) 2 ∧ ivh34 (sk 2) 2 ≤ 3000 from W32.int tsk2 2) (show ivh34 (sk 2) 2 = iv (sk 2) 2 from fl32.i tsk2 rfl 2) (show 0 ≤ ivh34 (sk 5) 2 ∧ ivh34 (sk 5) 2 ≤ 200 from W32.int tsk5 2) (show ivh34 (sk 5) 2 = iv (sk 5) 2 from fl32.i tsk5 rfl 2) (show 1 ≤ ivh34 a0 11 ∧ ivh34 a0 11 ≤ 100 from W32.int t_a0 11) (show ivh34 a0 11 = iv a0 11 from fl32.i t_a0 rfl 11) (show 1 ≤ ivh34 a0 12 ∧ ivh34 a0 12 ≤ 50 from W32.int t_a0 12) (show ivh34 a0 12 = iv a0 12 from fl32.i t_a0 rfl 12) (show (-2147483648) ≤ ivh34 a0 13 ∧ ivh34 a0 13 ≤ 2147483647 from W32.int t_a0 13) (show ivh34 a0 13 = iv a0 13 from fl32.i t_a0 rfl 13) (show (-2147483648) ≤ ivh34 a0 14 ∧ ivh34 a0 14 ≤ 2147483647 from W32.int t_a0 14) (show ivh34 a0 14 = iv a0 14 from fl32.i t_a0 rfl 14) (show (-2147483648) ≤ ivh34 a0 15 ∧ ivh34 a0 15 ≤ 2147483647 from W32.int t_a0 15) (show ivh34 a0 15 = iv a0 15 from fl32.i t_a0 rfl 15) (show (-2147483648) ≤ ivh34 a0 16 ∧ ivh34 a0 16 ≤ 2147483647 from W32.int t_a0 16) (show ivh34 a0 16 = iv a0 16 from fl32.i t_a0 rfl 16) (fun ri359 ie560 ri360 ie561 ri361 ie562 ri362 ie563 ri363 ie564 ri364 ie565 ri365 ie566 ri366 ie567 => ?_)
      refine c_lv (lv2 := [(2, .int (iI 1)), (3, .int (iI 0)), (0, .ref a0), (1, .int (iI i))]) [1, 0, 2, 3] rfl ?_
      exact Lp5 3003 1 0 _ _ _ _ _ (by omega) hX0 W32 F25  (by omega) (by omega) gf32 (by omega) ie560 (fun _ => by omega) (fun ss hs => by
          have e := gf16 ss hs (by omega) (by omega)
          exact ⟨fun _ => ⟨by omega, fun j h1 h2 => e.mp (by omega) j.toNat (by omega) (by omega)⟩, fun _ => rfl⟩) (fun ss hs => CT.fr hs hW tsk2 fl32 rfl rfl rfl rfl rfl) LTA.zero ie561 (fun ss hs => CT.fr hs hW tsk5 fl32 rfl rfl rfl rfl rfl) ie562 ie563 ie564 ie565 ie566 ie567 rfl rfl
end
section
def PGT (iv : Nat → Nat → Int) (rv : Nat → Nat → Option Nat) (sk : Nat → Nat) (h0 : Nat) (f : Int) : Prop := ∀ sA, rv h0 9 = some sA → f = (iv sA 1 + opg (iv (sk 5) 2) (iv h0 12) - 1) / opg (iv (sk 5) 2) (iv h0 12)
def PGP (iv : Nat → Nat → Int) (rv : Nat → Nat → Option Nat) (sk : Nat → Nat) (h0 : Nat) (p l i f : Int) : Prop := ∀ sA, rv h0 9 = some sA → ∀ E, SHT iv rv sA E → ∀ HD, CT iv rv (sk 5) HD → PAGX E (iv (sk 5) 2) (iv h0 12) HD p l i f
section PPAG
variable {sk : Nat → Nat} {iv : Nat → Nat → Int} {rv : Nat → Nat → Option Nat} {h0 sA : Nat} {p l i f x y z o k : Int} {E : List (Option (List Int))}
theorem PGT.mk (hA : rv h0 9 = some sA) (hd : f = (iv sA 1 + x - 1) / x) (g1 : (0 < iv (sk 5) 2 ∧ 2 ≤ iv h0 12 ∧ x = iv h0 12 - 1) ∨ (¬ (0 < iv (sk 5) 2 ∧ 2 ≤ iv h0 12) ∧ x = iv h0 12)) : PGT iv rv sk h0 f := fun sA' e => by
  rw [hA] at e; cases e
  rw [hd, opg_of g1]
theorem PGT.le (hg : PGT iv rv sk h0 x) (hA : rv h0 9 = some sA) (hE : SHT iv rv sA E) : x = (((E.length : Nat) : Int) + opg (iv (sk 5) 2) (iv h0 12) - 1) / opg (iv (sk 5) 2) (iv h0 12) := by
  rw [← hE.1]
  exact hg sA hA
theorem PGP.out (hg : PGT iv rv sk h0 x) (hn : ¬ (0 ≤ p ∧ p < x) ∨ ¬ (0 ≤ l ∧ l < iv h0 12)) (hf : f = -1) : PGP iv rv sk h0 p l i f := fun _ e _ hE _ _ => PAGX.out (hg.le e hE) hn hf
theorem PGP.neg (hp : p < 0) (hf : f = -1) : PGP iv rv sk h0 p l i f := fun _ _ _ _ _ _ => PAGX.out rfl (Or.inl (fun q => absurd q.1 (by omega))) hf
theorem PGP.hd (hg : PGT iv rv sk h0 x) (hp : 0 ≤ p ∧ p < x) (hl : l = 0) (hh : 0 < iv (sk 5) 2 ∧ 2 ≤ iv h0 12) (hi : 0 ≤ i ∧ i < iv (sk 5) 2) (hf : ∀ HD, CT iv rv (sk 5) HD → f = HD i.toNat) : PGP iv rv sk h0 p l i f := fun _ e _ hE _ hc => PAGX.hd (hg.le e hE) hp hl hh hi (hf _ hc)
theorem PGP.hn (hg : PGT iv rv sk h0 x) (hp : 0 ≤ p ∧ p < x) (hl : l = 0) (hh : 0 < iv (sk 5) 2 ∧ 2 ≤ iv h0 12) (hi : ¬ (0 ≤ i ∧ i < iv (sk 5) 2)) (hf : f = -1) : PGP iv rv sk h0 p l i f := fun _ e _ hE _ _ => PAGX.hn (hg.le e hE) hp hl hh hi hf
theorem PGP.ce (hg : PGT iv rv sk h0 x) (hp : 0 ≤ p ∧ p < x) (hl : 0 ≤ l ∧ l < iv h0 12) (hn : ¬ ((0 < iv (sk 5) 2 ∧ 2 ≤ iv h0 12) ∧ l = 0)) (ho : (0 < iv (sk 5) 2 ∧ 2 ≤ iv h0 12 ∧ o = iv h0 12 - 1) ∨ (¬ (0 < iv (sk 5) 2 ∧ 2 ≤ iv h0 12) ∧ o = iv h0 12)) (hz : z = p * o + k) (hk : (0 < iv (sk 5) 2 ∧ 2 ≤ iv h0 12 ∧ k = l - 1) ∨ (¬ (0 < iv (sk 5) 2 ∧ 2 ≤ iv h0 12) ∧ k = l)) (hc : CLP iv rv h0 z i f) : PGP iv rv sk h0 p l i f := fun sA e E hE _ _ => PAGX.ce (hg.le e hE) hp hl hn (opg_of ho) hz hk (hc sA e E hE)
end PPAG
set_option maxHeartbeats 4000000 in
set_option maxRecDepth 100000 in
theorem G_hasHeader {l : Launch} {G : GT} {mi : Nat} {sk : Nat → Nat} {L : List Nat} {cl ln : Nat → Nat} {iv : Nat → Nat → Int} {rv : Nat → Nat → Option Nat}  {a0 : Nat} (hW : WT (g0 G) sk L cl ln iv rv) (hS : SKL sk L cl) (t_a0 : ty L cl a0 1)  : Mc l G mi (Phi (g0 G) sk) PHM yX11_pagesHaveHeader cX11_pagesHaveHeader 1 (some .boolean) 0 [.ref a0] L cl ln iv rv 0 (fun v L2 cl2 ln2 iv2 rv2 => ∃ f : Int, v = some (.int (iI f)) ∧ L = L2 ∧ cl = cl2 ∧ ln = ln2 ∧ iv = iv2 ∧ rv = rv2 ∧ (f = 0 ∨ f = 1) ∧ ((f = 1 ∧ 0 < iv (sk 5) 2 ∧ 2 ≤ iv a0 12) ∨ (f = 0 ∧ ¬ (0 < iv (sk 5) 2 ∧ 2 ≤ iv a0 12)))) := by
  refine Mc.mk (by decide) (Nat.le_of_ble_eq_true rfl) ?_
  intro p e s m args below meth c A C hM
  refine hv15 (Phi.le hW hS) (show ty L cl (sk 2) 2 from ⟨(hS 2 rfl).1, by rw [(hS 2 rfl).2]; rfl⟩) (show ty L cl (sk 3) 3 from ⟨(hS 3 rfl).1, by rw [(hS 3 rfl).2]; rfl⟩) (show ty L cl (sk 4) 4 from ⟨(hS 4 rfl).1, by rw [(hS 4 rfl).2]; rfl⟩) (show ty L cl (sk 5) 5 from ⟨(hS 5 rfl).1, by rw [(hS 5 rfl).2]; rfl⟩) (show ty L cl (sk 13) 13 from ⟨(hS 13 rfl).1, by rw [(hS 13 rfl).2]; rfl⟩) (show ty L cl (sk 14) 14 from ⟨(hS 14 rfl).1, by rw [(hS 14 rfl).2]; rfl⟩) (show ty L cl (sk 15) 15 from ⟨(hS 15 rfl).1, by rw [(hS 15 rfl).2]; rfl⟩) (show ty L cl (sk 16) 16 from ⟨(hS 16 rfl).1, by rw [(hS 16 rfl).2]; rfl⟩) (show ty L cl (sk 17) 17 from ⟨(hS 17 rfl).1, by rw [(hS 17 rfl).2]; rfl⟩) (show ty L cl (sk 22) 22 from ⟨(hS 22 rfl).1, by rw [(hS 22 rfl).2]; rfl⟩) (show ty L cl (sk 23) 23 from ⟨(hS 23 rfl).1, by rw [(hS 23 rfl).2]; rfl⟩) (show XT L cl ln L cl ln from XT.refl) (show fT [] L cl iv rv iv rv from fT.refl) (show 1 ≤ iv a0 12 ∧ iv a0 12 ≤ 50 from hW.int t_a0 12) (fun hph tsk2 tsk3 tsk4 tsk5 tsk13 tsk14 tsk15 tsk16 tsk17 tsk22 tsk23 hX0 hF0 ri2 => ?_)
  have ri1 : 0 ≤ iv (sk 5) 2 ∧ iv (sk 5) 2 ≤ 200 := hW.int tsk5 2
  refine c_aload_n (j := 0) (x := a0) C dX11_pagesHaveHeader_0 rfl ?_
  obtain ⟨rb1, rq1, trb1⟩ := hW.ref t_a0 3 rfl rfl rfl
  have erb1 := hW.sk trb1 (by decide) rfl
  subst erb1
  refine c_getr (k := 3) C ck_12 dX11_pagesHaveHeader_1 w2_47 (by decide) t_a0 rfl rfl (by decide) rfl rq1 ?_
  refine c_st (st2 := [.ref (sk 5)]) rfl ?_
  refine c_get (k := 2) C ck_2 dX11_pagesHaveHeader_4 w1_44 (by decide) tsk5 rfl rfl (by decide) rfl ?_
  refine c_if_le (tgt := 22) C (r32_c (lo := 0) (hi := 200) ri1.1 ri1.2 (by decide) (by decide)) dX11_pagesHaveHeader_7 (by decide) (fun c1 => ?_) (fun c1 => ?_)
  · refine c_iconst C dX11_pagesHaveHeader_22 ?_
    exact c_zret C dX11_pagesHaveHeader_23 rfl (Or.inl rfl) (by decide) (rom0 hph hph (by decide)) ⟨0, rfl, rfl, rfl, rfl, rfl, rfl, (Or.inl rfl), (by omega)⟩
  · refine c_aload_n (j := 0) (x := a0) C dX11_pagesHaveHeader_10 rfl ?_
    refine c_get (k := 12) C ck_12 dX11_pagesHaveHeader_11 w2_56 (by decide) t_a0 rfl rfl (by decide) rfl ?_
    refine c_iconst C dX11_pagesHaveHeader_14 ?_
    refine c_icmp_lt (tgt := 22) C (r32_c (lo := 1) (hi := 50) ri2.1 ri2.2 (by decide) (by decide)) ⟨by decide, by decide⟩ dX11_pagesHaveHeader_15 (by decide) (fun c2 => ?_) (fun c2 => ?_)
    · refine c_iconst C dX11_pagesHaveHeader_22 ?_
      exact c_zret C dX11_pagesHaveHeader_23 rfl (Or.inl rfl) (by decide) (rom0 hph hph (by decide)) ⟨0, rfl, rfl, rfl, rfl, rfl, rfl, (Or.inl rfl), (by omega)⟩
    · refine c_iconst C dX11_pagesHaveHeader_18 ?_
      refine c_goto (tgt := 23) C dX11_pagesHaveHeader_19 (by decide) ?_
      exact c_zret C dX11_pagesHaveHeader_23 rfl (Or.inr rfl) (by decide) (rom0 hph hph (by decide)) ⟨1, rfl, rfl, rfl, rfl, rfl, rfl, (Or.inr rfl), (by omega)⟩
set_option maxHeartbeats 4000000 in
set_option maxRecDepth 100000 in
theorem G_linesOfPage {l : Launch} {G : GT} {mi : Nat} {sk : Nat → Nat} {L : List Nat} {cl ln : Nat → Nat} {iv : Nat → Nat → Int} {rv : Nat → Nat → Option Nat}  {a0 : Nat} (hW : WT (g0 G) sk L cl ln iv rv) (hS : SKL sk L cl) (t_a0 : ty L cl a0 1)  : Mc l G mi (Phi (g0 G) sk) PHM yX11_linesOfPage cX11_linesOfPage 1 (some .int) 1 [.ref a0] L cl ln iv rv 0 (fun v L2 cl2 ln2 iv2 rv2 => ∃ f : Int, v = some (.int (iI f)) ∧ L = L2 ∧ cl = cl2 ∧ ln = ln2 ∧ iv = iv2 ∧ rv = rv2 ∧ (-2147483648 ≤ f ∧ f ≤ 2147483647) ∧ ((0 < iv (sk 5) 2 ∧ 2 ≤ iv a0 12 ∧ f = iv a0 12 - 1) ∨ (¬ (0 < iv (sk 5) 2 ∧ 2 ≤ iv a0 12) ∧ f = iv a0 12))) := by
  refine Mc.mk (by decide) (Nat.le_of_ble_eq_true rfl) ?_
  intro p e s m args below meth c A C hM
  refine hv15 (Phi.le hW hS) (show ty L cl (sk 2) 2 from ⟨(hS 2 rfl).1, by rw [(hS 2 rfl).2]; rfl⟩) (show ty L cl (sk 3) 3 from ⟨(hS 3 rfl).1, by rw [(hS 3 rfl).2]; rfl⟩) (show ty L cl (sk 4) 4 from ⟨(hS 4 rfl).1, by rw [(hS 4 rfl).2]; rfl⟩) (show ty L cl (sk 5) 5 from ⟨(hS 5 rfl).1, by rw [(hS 5 rfl).2]; rfl⟩) (show ty L cl (sk 13) 13 from ⟨(hS 13 rfl).1, by rw [(hS 13 rfl).2]; rfl⟩) (show ty L cl (sk 14) 14 from ⟨(hS 14 rfl).1, by rw [(hS 14 rfl).2]; rfl⟩) (show ty L cl (sk 15) 15 from ⟨(hS 15 rfl).1, by rw [(hS 15 rfl).2]; rfl⟩) (show ty L cl (sk 16) 16 from ⟨(hS 16 rfl).1, by rw [(hS 16 rfl).2]; rfl⟩) (show ty L cl (sk 17) 17 from ⟨(hS 17 rfl).1, by rw [(hS 17 rfl).2]; rfl⟩) (show ty L cl (sk 22) 22 from ⟨(hS 22 rfl).1, by rw [(hS 22 rfl).2]; rfl⟩) (show ty L cl (sk 23) 23 from ⟨(hS 23 rfl).1, by rw [(hS 23 rfl).2]; rfl⟩) (show XT L cl ln L cl ln from XT.refl) (show fT [] L cl iv rv iv rv from fT.refl) (show 1 ≤ iv a0 12 ∧ iv a0 12 ≤ 50 from hW.int t_a0 12) (fun hph tsk2 tsk3 tsk4 tsk5 tsk13 tsk14 tsk15 tsk16 tsk17 tsk22 tsk23 hX0 hF0 ri2 => ?_)
  have ri1 : 0 ≤ iv (sk 5) 2 ∧ iv (sk 5) 2 ≤ 200 := hW.int tsk5 2
  refine c_iconst C dX11_linesOfPage_0 ?_
  refine c_aload_n (j := 0) (x := a0) C dX11_linesOfPage_1 rfl ?_
  refine d_callV (As := []) (rest := [.int (iI 1)]) C hM (G_hasHeader (a0 := a0) hW hS t_a0  ) dX11_linesOfPage_2 kV_X11_285 rfl t_a0 rfl rfl (by decide) ck_12 rfl (Nat.le_of_ble_eq_true rfl) ⟨(Nat.le_of_ble_eq_true rfl), (Nat.le_of_ble_eq_true rfl)⟩ hph hph (show 0 + 0 = 0 from rfl) (by decide) (fun rh1 Lh1 clh1 lnh1 ivh1 rvh1 h1 => ?_)
  obtain ⟨f1, rfl, rfl, rfl, rfl, rfl, rfl, rgf1, exf1⟩ := h1
  refine c_st (st2 := [.int (iI f1), .int (iI 1)]) rfl ?_
  have gf1 : (f1 = 1 ∧ 0 < iv (sk 5) 2 ∧ 2 ≤ iv a0 12) ∨ (f1 = 0 ∧ ¬ (0 < iv (sk 5) 2 ∧ 2 ≤ iv a0 12)) := exf1
  refine c_if_eq (tgt := 17) C (r32_qp gf1) dX11_linesOfPage_5 (by decide) (fun c1 => ?_) (fun c1 => ?_)
  · replace gf1 := (gf1.resolve_left (fun q => absurd (q.1.symm.trans c1) (by decide)))
    refine c_aload_n (j := 0) (x := a0) C dX11_linesOfPage_17 rfl ?_
    refine c_get (k := 12) C ck_12 dX11_linesOfPage_18 w2_56 (by decide) t_a0 rfl rfl (by decide) rfl ?_
    obtain ⟨mn1, hmn1, emn1⟩ := mmax_c (x := 1) (y := iv a0 12) ⟨by decide, by decide⟩ (r32_c (lo := 1) (hi := 50) ri2.1 ri2.2 (by decide) (by decide))
    refine c_mmax (w := iI mn1) C dX11_linesOfPage_21 w3_93 w2_148 w1_14 w2_149 (by decide) (rom0 hph hph (by decide)) (Nat.le_of_ble_eq_true rfl) emn1 ?_
    exact c_iret C dX11_linesOfPage_24 rfl (by decide) (rom0 hph hph (by decide)) ⟨mn1, rfl, rfl, rfl, rfl, rfl, rfl, ⟨by omega, by omega⟩, (by omega)⟩
  · replace gf1 := (gf1.resolve_right (fun q => c1 q.1))
    refine c_aload_n (j := 0) (x := a0) C dX11_linesOfPage_8 rfl ?_
    refine c_get (k := 12) C ck_12 dX11_linesOfPage_9 w2_56 (by decide) t_a0 rfl rfl (by decide) rfl ?_
    refine c_iconst C dX11_linesOfPage_12 ?_
    refine c_isub C dX11_linesOfPage_13 ?_
    refine c_goto (tgt := 21) C dX11_linesOfPage_14 (by decide) ?_
    obtain ⟨mn2, hmn2, emn2⟩ := mmax_c (x := 1) (y := (iv a0 12) - 1) ⟨by decide, by decide⟩ ⟨by omega, by omega⟩
    refine c_mmax (w := iI mn2) C dX11_linesOfPage_21 w3_93 w2_148 w1_14 w2_149 (by decide) (rom0 hph hph (by decide)) (Nat.le_of_ble_eq_true rfl) emn2 ?_
    exact c_iret C dX11_linesOfPage_24 rfl (by decide) (rom0 hph hph (by decide)) ⟨mn2, rfl, rfl, rfl, rfl, rfl, rfl, ⟨by omega, by omega⟩, (by omega)⟩
set_option maxHeartbeats 4000000 in
set_option maxRecDepth 100000 in
theorem G_pages {l : Launch} {G : GT} {mi : Nat} {sk : Nat → Nat} {L : List Nat} {cl ln : Nat → Nat} {iv : Nat → Nat → Int} {rv : Nat → Nat → Option Nat}  {a0 : Nat} (hW : WT (g0 G) sk L cl ln iv rv) (hS : SKL sk L cl) (t_a0 : ty L cl a0 1)  : Mc l G mi (Phi (g0 G) sk) PHM yX11_pages cX11_pages 2 (some .int) 2 [.ref a0] L cl ln iv rv 0 (fun v L2 cl2 ln2 iv2 rv2 => ∃ f : Int, v = some (.int (iI f)) ∧ L = L2 ∧ cl = cl2 ∧ ln = ln2 ∧ iv = iv2 ∧ rv = rv2 ∧ (-2147483648 ≤ f ∧ f ≤ 2147483647) ∧ ((0 ≤ f ∧ f ≤ 249) ∧ PGT iv rv sk a0 f)) := by
  refine Mc.mk (by decide) (Nat.le_of_ble_eq_true rfl) ?_
  intro p e s m args below meth c A C hM
  refine hv15 (Phi.le hW hS) (show ty L cl (sk 2) 2 from ⟨(hS 2 rfl).1, by rw [(hS 2 rfl).2]; rfl⟩) (show ty L cl (sk 3) 3 from ⟨(hS 3 rfl).1, by rw [(hS 3 rfl).2]; rfl⟩) (show ty L cl (sk 4) 4 from ⟨(hS 4 rfl).1, by rw [(hS 4 rfl).2]; rfl⟩) (show ty L cl (sk 5) 5 from ⟨(hS 5 rfl).1, by rw [(hS 5 rfl).2]; rfl⟩) (show ty L cl (sk 13) 13 from ⟨(hS 13 rfl).1, by rw [(hS 13 rfl).2]; rfl⟩) (show ty L cl (sk 14) 14 from ⟨(hS 14 rfl).1, by rw [(hS 14 rfl).2]; rfl⟩) (show ty L cl (sk 15) 15 from ⟨(hS 15 rfl).1, by rw [(hS 15 rfl).2]; rfl⟩) (show ty L cl (sk 16) 16 from ⟨(hS 16 rfl).1, by rw [(hS 16 rfl).2]; rfl⟩) (show ty L cl (sk 17) 17 from ⟨(hS 17 rfl).1, by rw [(hS 17 rfl).2]; rfl⟩) (show ty L cl (sk 22) 22 from ⟨(hS 22 rfl).1, by rw [(hS 22 rfl).2]; rfl⟩) (show ty L cl (sk 23) 23 from ⟨(hS 23 rfl).1, by rw [(hS 23 rfl).2]; rfl⟩) (show XT L cl ln L cl ln from XT.refl) (show fT [] L cl iv rv iv rv from fT.refl) (show 1 ≤ iv a0 12 ∧ iv a0 12 ≤ 50 from hW.int t_a0 12) (fun hph tsk2 tsk3 tsk4 tsk5 tsk13 tsk14 tsk15 tsk16 tsk17 tsk22 tsk23 hX0 hF0 ri2 => ?_)
  have ri1 : 0 ≤ iv (sk 5) 2 ∧ iv (sk 5) 2 ≤ 200 := hW.int tsk5 2
  refine c_aload_n (j := 0) (x := a0) C dX11_pages_0 rfl ?_
  refine d_callV (As := []) (rest := []) C hM (G_linesOfPage (a0 := a0) hW hS t_a0  ) dX11_pages_1 kV_X11_282 rfl t_a0 rfl rfl (by decide) ck_12 rfl (Nat.le_of_ble_eq_true rfl) ⟨(Nat.le_of_ble_eq_true rfl), (Nat.le_of_ble_eq_true rfl)⟩ hph hph (show 0 + 0 = 0 from rfl) (by decide) (fun rh1 Lh1 clh1 lnh1 ivh1 rvh1 h1 => ?_)
  obtain ⟨f1, rfl, rfl, rfl, rfl, rfl, rfl, rgf1, exf1⟩ := h1
  refine c_st (st2 := [.int (iI f1)]) rfl ?_
  have gf1 : (0 < iv (sk 5) 2 ∧ 2 ≤ iv a0 12 ∧ f1 = iv a0 12 - 1) ∨ (¬ (0 < iv (sk 5) 2 ∧ 2 ≤ iv a0 12) ∧ f1 = iv a0 12) := exf1
  refine c_istore_n (lv2 := [(1, .int (iI f1)), (0, .ref a0)]) C dX11_pages_4 (by decide) rfl ?_
  refine c_aload_n (j := 1) (x := a0) C dX11_pages_5 rfl ?_
  obtain ⟨rb1, rq1, trb1⟩ := hW.ref t_a0 9 rfl rfl rfl
  refine c_getr (k := 9) C ck_12 dX11_pages_6 w2_53 (by decide) t_a0 rfl rfl (by decide) rfl rq1 ?_
  refine c_st (st2 := [.ref rb1]) rfl ?_
  have ri3 : 0 ≤ iv rb1 1 ∧ iv rb1 1 ≤ 200 := hW.int trb1 1
  refine c_get (k := 1) C ck_8 dX11_pages_9 w2_35 (by decide) trb1 rfl rfl (by decide) rfl ?_
  refine c_iload_n (j := 0) C dX11_pages_12 rfl ?_
  refine c_iadd C dX11_pages_13 ?_
  refine c_iconst C dX11_pages_14 ?_
  refine c_isub C dX11_pages_15 ?_
  refine c_iload_n (j := 0) C dX11_pages_16 rfl ?_
  obtain ⟨dq1, hdq1⟩ : ∃ q : Int, q = (((iv rb1 1) + f1) - 1) / f1 := ⟨_, rfl⟩
  have rdq1 := ediv_r (x := ((iv rb1 1) + f1) - 1) (y := f1) (by omega) (by omega)
  rw [← hdq1] at rdq1
  refine c_idiv (w := iI dq1) C dX11_pages_17 (iI_ne0 ⟨by omega, by omega⟩) (by rw [hdq1]; exact iI_div ⟨by omega, by omega⟩ ⟨by omega, by omega⟩) ?_
  exact c_iret C dX11_pages_18 rfl (by decide) (rom0 hph hph (by decide)) ⟨dq1, rfl, rfl, rfl, rfl, rfl, rfl, ⟨by omega, by omega⟩, ⟨by omega, PGT.mk rq1 hdq1 gf1⟩⟩
set_option maxHeartbeats 4000000 in
set_option maxRecDepth 100000 in
theorem G_page {l : Launch} {G : GT} {mi : Nat} {sk : Nat → Nat} {L : List Nat} {cl ln : Nat → Nat} {iv : Nat → Nat → Int} {rv : Nat → Nat → Option Nat}  {a0 : Nat} {i : Int} {j : Int} {k : Int} (hW : WT (g0 G) sk L cl ln iv rv) (hS : SKL sk L cl) (t_a0 : ty L cl a0 1) (h_i : -2147483648 ≤ i ∧ i ≤ 2147483647) (h_j : -2147483648 ≤ j ∧ j ≤ 2147483647) (h_k : -2147483648 ≤ k ∧ k ≤ 2147483647)  : Mc l G mi (Phi (g0 G) sk) PHM yX11_page cX11_page 5 (some .int) 3 [.ref a0, .int (iI i), .int (iI j), .int (iI k)] L cl ln iv rv 0 (fun v L2 cl2 ln2 iv2 rv2 => ∃ f : Int, v = some (.int (iI f)) ∧ L = L2 ∧ cl = cl2 ∧ ln = ln2 ∧ rv = rv2 ∧ fT [1] L cl iv rv iv2 rv2 ∧ WT (g0 G) sk L2 cl2 ln2 iv2 rv2 ∧ (-2147483648 ≤ f ∧ f ≤ 2147483647) ∧ (True) ∧ iv2 a0 11 = iv a0 11 ∧ iv2 a0 12 = iv a0 12 ∧ iv2 a0 13 = iv a0 13 ∧ iv2 a0 14 = iv a0 14 ∧ iv2 a0 15 = iv a0 15 ∧ iv2 a0 16 = iv a0 16 ∧ (PGP iv rv sk a0 i j k f)) := by
  refine Mc.mk (by decide) (Nat.le_of_ble_eq_true rfl) ?_
  intro p e s m args below meth c A C hM
  refine hv15 (Phi.le hW hS) (show ty L cl (sk 2) 2 from ⟨(hS 2 rfl).1, by rw [(hS 2 rfl).2]; rfl⟩) (show ty L cl (sk 3) 3 from ⟨(hS 3 rfl).1, by rw [(hS 3 rfl).2]; rfl⟩) (show ty L cl (sk 4) 4 from ⟨(hS 4 rfl).1, by rw [(hS 4 rfl).2]; rfl⟩) (show ty L cl (sk 5) 5 from ⟨(hS 5 rfl).1, by rw [(hS 5 rfl).2]; rfl⟩) (show ty L cl (sk 13) 13 from ⟨(hS 13 rfl).1, by rw [(hS 13 rfl).2]; rfl⟩) (show ty L cl (sk 14) 14 from ⟨(hS 14 rfl).1, by rw [(hS 14 rfl).2]; rfl⟩) (show ty L cl (sk 15) 15 from ⟨(hS 15 rfl).1, by rw [(hS 15 rfl).2]; rfl⟩) (show ty L cl (sk 16) 16 from ⟨(hS 16 rfl).1, by rw [(hS 16 rfl).2]; rfl⟩) (show ty L cl (sk 17) 17 from ⟨(hS 17 rfl).1, by rw [(hS 17 rfl).2]; rfl⟩) (show ty L cl (sk 22) 22 from ⟨(hS 22 rfl).1, by rw [(hS 22 rfl).2]; rfl⟩) (show ty L cl (sk 23) 23 from ⟨(hS 23 rfl).1, by rw [(hS 23 rfl).2]; rfl⟩) (show XT L cl ln L cl ln from XT.refl) (show fT [1] L cl iv rv iv rv from fT.refl) (show 1 ≤ iv a0 12 ∧ iv a0 12 ≤ 50 from hW.int t_a0 12) (fun hph tsk2 tsk3 tsk4 tsk5 tsk13 tsk14 tsk15 tsk16 tsk17 tsk22 tsk23 hX0 hF0 ri2 => ?_)
  have ri1 : 0 ≤ iv (sk 5) 2 ∧ iv (sk 5) 2 ≤ 200 := hW.int tsk5 2
  refine c_iload_n (j := 1) C dX11_page_0 rfl ?_
  refine c_if_lt (tgt := 24) C ⟨by omega, by omega⟩ dX11_page_1 (by decide) (fun c1 => ?_) (fun c1 => ?_)
  · refine c_aload_n (j := 0) (x := a0) C dX11_page_24 rfl ?_
    refine c_iconst C dX11_page_25 ?_
    refine d_callV (As := [.int (iI 2)]) (rest := []) C hM (C_refuse (a0 := a0) (x := 2) hW hS t_a0 ⟨by decide, by decide⟩ ) dX11_page_26 kV_X11_102 rfl t_a0 rfl rfl (by decide) ck_12 rfl (Nat.le_of_ble_eq_true rfl) ⟨(Nat.le_of_ble_eq_true rfl), (Nat.le_of_ble_eq_true rfl)⟩ hph hph (show 0 + 0 = 0 from rfl) (by decide) (fun rh1 Lh1 clh1 lnh1 ivh1 rvh1 h1 => ?_)
    obtain ⟨f1, rfl, rfl, rfl, rfl, rfl, fl1, W1, rgf1, exf1, kp11f1, kp12f1, kp13f1, kp14f1, kp15f1, kp16f1⟩ := h1
    refine hv6 (show 1 ≤ iv a0 11 ∧ iv a0 11 ≤ 100 from hW.int t_a0 11) (show (-2147483648) ≤ iv a0 13 ∧ iv a0 13 ≤ 2147483647 from hW.int t_a0 13) (show (-2147483648) ≤ iv a0 14 ∧ iv a0 14 ≤ 2147483647 from hW.int t_a0 14) (show (-2147483648) ≤ iv a0 15 ∧ iv a0 15 ≤ 2147483647 from hW.int t_a0 15) (show (-2147483648) ≤ iv a0 16 ∧ iv a0 16 ≤ 2147483647 from hW.int t_a0 16) (hF0.call hX0 fl1 rfl) (fun ri3 ri4 ri5 ri6 ri7 F1 => ?_)
    refine c_st (st2 := [.int (iI f1)]) rfl ?_
    refine hv15 (show ivh1 a0 11 = iv a0 11 from kp11f1) (show ivh1 a0 12 = iv a0 12 from kp12f1) (show ivh1 a0 13 = iv a0 13 from kp13f1) (show ivh1 a0 14 = iv a0 14 from kp14f1) (show ivh1 a0 15 = iv a0 15 from kp15f1) (show ivh1 a0 16 = iv a0 16 from kp16f1) (show f1 = -1 from exf1) (show 1 ≤ ivh1 a0 11 ∧ ivh1 a0 11 ≤ 100 from W1.int t_a0 11) (show 1 ≤ ivh1 a0 12 ∧ ivh1 a0 12 ≤ 50 from W1.int t_a0 12) (show (-2147483648) ≤ ivh1 a0 13 ∧ ivh1 a0 13 ≤ 2147483647 from W1.int t_a0 13) (show (-2147483648) ≤ ivh1 a0 14 ∧ ivh1 a0 14 ≤ 2147483647 from W1.int t_a0 14) (show (-2147483648) ≤ ivh1 a0 15 ∧ ivh1 a0 15 ≤ 2147483647 from W1.int t_a0 15) (show (-2147483648) ≤ ivh1 a0 16 ∧ ivh1 a0 16 ≤ 2147483647 from W1.int t_a0 16) (show 0 ≤ ivh1 (sk 5) 2 ∧ ivh1 (sk 5) 2 ≤ 200 from W1.int tsk5 2) (show ivh1 (sk 5) 2 = iv (sk 5) 2 from fl1.i tsk5 rfl 2) (fun gk11f1 gk12f1 gk13f1 gk14f1 gk15f1 gk16f1 gf1 ri8 ri9 ri10 ri11 ri12 ri13 ri14 ie7 => ?_)
    exact c_iret C dX11_page_29 rfl (by decide) (rom0 hph hph (by decide)) ⟨f1, rfl, rfl, rfl, rfl, rfl, F1, W1, ⟨by omega, by omega⟩, trivial, gk11f1, gk12f1, gk13f1, gk14f1, gk15f1, gk16f1, (PGP.neg (by omega) (by omega))⟩
  · refine c_iload_n (j := 1) C dX11_page_4 rfl ?_
    refine c_aload_n (j := 0) (x := a0) C dX11_page_5 rfl ?_
    refine d_callV (As := []) (rest := [.int (iI i)]) C hM (G_pages (a0 := a0) hW hS t_a0  ) dX11_page_6 kV_X11_302 rfl t_a0 rfl rfl (by decide) ck_12 rfl (Nat.le_of_ble_eq_true rfl) ⟨(Nat.le_of_ble_eq_true rfl), (Nat.le_of_ble_eq_true rfl)⟩ hph hph (show 0 + 0 = 0 from rfl) (by decide) (fun rh2 Lh2 clh2 lnh2 ivh2 rvh2 h2 => ?_)
    obtain ⟨f2, rfl, rfl, rfl, rfl, rfl, rfl, rgf2, exf2⟩ := h2
    refine c_st (st2 := [.int (iI f2), .int (iI i)]) rfl ?_
    have gf2 : (0 ≤ f2 ∧ f2 ≤ 249) ∧ PGT iv rv sk a0 f2 := exf2
    refine c_icmp_ge (tgt := 24) C ⟨by omega, by omega⟩ (r32_c (lo := 0) (hi := 249) gf2.1.1 gf2.1.2 (by decide) (by decide)) dX11_page_9 (by decide) (fun c2 => ?_) (fun c2 => ?_)
    · refine c_aload_n (j := 0) (x := a0) C dX11_page_24 rfl ?_
      refine c_iconst C dX11_page_25 ?_
      refine d_callV (As := [.int (iI 2)]) (rest := []) C hM (C_refuse (a0 := a0) (x := 2) hW hS t_a0 ⟨by decide, by decide⟩ ) dX11_page_26 kV_X11_102 rfl t_a0 rfl rfl (by decide) ck_12 rfl (Nat.le_of_ble_eq_true rfl) ⟨(Nat.le_of_ble_eq_true rfl), (Nat.le_of_ble_eq_true rfl)⟩ hph hph (show 0 + 0 = 0 from rfl) (by decide) (fun rh3 Lh3 clh3 lnh3 ivh3 rvh3 h3 => ?_)
      obtain ⟨f3, rfl, rfl, rfl, rfl, rfl, fl3, W3, rgf3, exf3, kp11f3, kp12f3, kp13f3, kp14f3, kp15f3, kp16f3⟩ := h3
      refine hv6 (show 1 ≤ iv a0 11 ∧ iv a0 11 ≤ 100 from hW.int t_a0 11) (show (-2147483648) ≤ iv a0 13 ∧ iv a0 13 ≤ 2147483647 from hW.int t_a0 13) (show (-2147483648) ≤ iv a0 14 ∧ iv a0 14 ≤ 2147483647 from hW.int t_a0 14) (show (-2147483648) ≤ iv a0 15 ∧ iv a0 15 ≤ 2147483647 from hW.int t_a0 15) (show (-2147483648) ≤ iv a0 16 ∧ iv a0 16 ≤ 2147483647 from hW.int t_a0 16) (hF0.call hX0 fl3 rfl) (fun ri15 ri16 ri17 ri18 ri19 F2 => ?_)
      refine c_st (st2 := [.int (iI f3)]) rfl ?_
      refine hv15 (show ivh3 a0 11 = iv a0 11 from kp11f3) (show ivh3 a0 12 = iv a0 12 from kp12f3) (show ivh3 a0 13 = iv a0 13 from kp13f3) (show ivh3 a0 14 = iv a0 14 from kp14f3) (show ivh3 a0 15 = iv a0 15 from kp15f3) (show ivh3 a0 16 = iv a0 16 from kp16f3) (show f3 = -1 from exf3) (show 1 ≤ ivh3 a0 11 ∧ ivh3 a0 11 ≤ 100 from W3.int t_a0 11) (show 1 ≤ ivh3 a0 12 ∧ ivh3 a0 12 ≤ 50 from W3.int t_a0 12) (show (-2147483648) ≤ ivh3 a0 13 ∧ ivh3 a0 13 ≤ 2147483647 from W3.int t_a0 13) (show (-2147483648) ≤ ivh3 a0 14 ∧ ivh3 a0 14 ≤ 2147483647 from W3.int t_a0 14) (show (-2147483648) ≤ ivh3 a0 15 ∧ ivh3 a0 15 ≤ 2147483647 from W3.int t_a0 15) (show (-2147483648) ≤ ivh3 a0 16 ∧ ivh3 a0 16 ≤ 2147483647 from W3.int t_a0 16) (show 0 ≤ ivh3 (sk 5) 2 ∧ ivh3 (sk 5) 2 ≤ 200 from W3.int tsk5 2) (show ivh3 (sk 5) 2 = iv (sk 5) 2 from fl3.i tsk5 rfl 2) (fun gk11f3 gk12f3 gk13f3 gk14f3 gk15f3 gk16f3 gf3 ri20 ri21 ri22 ri23 ri24 ri25 ri26 ie14 => ?_)
      exact c_iret C dX11_page_29 rfl (by decide) (rom0 hph hph (by decide)) ⟨f3, rfl, rfl, rfl, rfl, rfl, F2, W3, ⟨by omega, by omega⟩, trivial, gk11f3, gk12f3, gk13f3, gk14f3, gk15f3, gk16f3, (PGP.out gf2.2 (by omega) (by omega))⟩
    · refine c_iload_n (j := 2) C dX11_page_12 rfl ?_
      refine c_if_lt (tgt := 24) C ⟨by omega, by omega⟩ dX11_page_13 (by decide) (fun c3 => ?_) (fun c3 => ?_)
      · refine c_aload_n (j := 0) (x := a0) C dX11_page_24 rfl ?_
        refine c_iconst C dX11_page_25 ?_
        refine d_callV (As := [.int (iI 2)]) (rest := []) C hM (C_refuse (a0 := a0) (x := 2) hW hS t_a0 ⟨by decide, by decide⟩ ) dX11_page_26 kV_X11_102 rfl t_a0 rfl rfl (by decide) ck_12 rfl (Nat.le_of_ble_eq_true rfl) ⟨(Nat.le_of_ble_eq_true rfl), (Nat.le_of_ble_eq_true rfl)⟩ hph hph (show 0 + 0 = 0 from rfl) (by decide) (fun rh4 Lh4 clh4 lnh4 ivh4 rvh4 h4 => ?_)
        obtain ⟨f4, rfl, rfl, rfl, rfl, rfl, fl4, W4, rgf4, exf4, kp11f4, kp12f4, kp13f4, kp14f4, kp15f4, kp16f4⟩ := h4
        refine hv6 (show 1 ≤ iv a0 11 ∧ iv a0 11 ≤ 100 from hW.int t_a0 11) (show (-2147483648) ≤ iv a0 13 ∧ iv a0 13 ≤ 2147483647 from hW.int t_a0 13) (show (-2147483648) ≤ iv a0 14 ∧ iv a0 14 ≤ 2147483647 from hW.int t_a0 14) (show (-2147483648) ≤ iv a0 15 ∧ iv a0 15 ≤ 2147483647 from hW.int t_a0 15) (show (-2147483648) ≤ iv a0 16 ∧ iv a0 16 ≤ 2147483647 from hW.int t_a0 16) (hF0.call hX0 fl4 rfl) (fun ri27 ri28 ri29 ri30 ri31 F3 => ?_)
        refine c_st (st2 := [.int (iI f4)]) rfl ?_
        refine hv15 (show ivh4 a0 11 = iv a0 11 from kp11f4) (show ivh4 a0 12 = iv a0 12 from kp12f4) (show ivh4 a0 13 = iv a0 13 from kp13f4) (show ivh4 a0 14 = iv a0 14 from kp14f4) (show ivh4 a0 15 = iv a0 15 from kp15f4) (show ivh4 a0 16 = iv a0 16 from kp16f4) (show f4 = -1 from exf4) (show 1 ≤ ivh4 a0 11 ∧ ivh4 a0 11 ≤ 100 from W4.int t_a0 11) (show 1 ≤ ivh4 a0 12 ∧ ivh4 a0 12 ≤ 50 from W4.int t_a0 12) (show (-2147483648) ≤ ivh4 a0 13 ∧ ivh4 a0 13 ≤ 2147483647 from W4.int t_a0 13) (show (-2147483648) ≤ ivh4 a0 14 ∧ ivh4 a0 14 ≤ 2147483647 from W4.int t_a0 14) (show (-2147483648) ≤ ivh4 a0 15 ∧ ivh4 a0 15 ≤ 2147483647 from W4.int t_a0 15) (show (-2147483648) ≤ ivh4 a0 16 ∧ ivh4 a0 16 ≤ 2147483647 from W4.int t_a0 16) (show 0 ≤ ivh4 (sk 5) 2 ∧ ivh4 (sk 5) 2 ≤ 200 from W4.int tsk5 2) (show ivh4 (sk 5) 2 = iv (sk 5) 2 from fl4.i tsk5 rfl 2) (fun gk11f4 gk12f4 gk13f4 gk14f4 gk15f4 gk16f4 gf4 ri32 ri33 ri34 ri35 ri36 ri37 ri38 ie21 => ?_)
        exact c_iret C dX11_page_29 rfl (by decide) (rom0 hph hph (by decide)) ⟨f4, rfl, rfl, rfl, rfl, rfl, F3, W4, ⟨by omega, by omega⟩, trivial, gk11f4, gk12f4, gk13f4, gk14f4, gk15f4, gk16f4, (PGP.out gf2.2 (by omega) (by omega))⟩
      · refine c_iload_n (j := 2) C dX11_page_16 rfl ?_
        refine c_aload_n (j := 0) (x := a0) C dX11_page_17 rfl ?_
        refine c_get (k := 12) C ck_12 dX11_page_18 w2_56 (by decide) t_a0 rfl rfl (by decide) rfl ?_
        refine c_icmp_lt (tgt := 30) C ⟨by omega, by omega⟩ (r32_c (lo := 1) (hi := 50) ri2.1 ri2.2 (by decide) (by decide)) dX11_page_21 (by decide) (fun c4 => ?_) (fun c4 => ?_)
        · refine c_aload_n (j := 0) (x := a0) C dX11_page_30 rfl ?_
          refine d_callV (As := []) (rest := []) C hM (G_hasHeader (a0 := a0) hW hS t_a0  ) dX11_page_31 kV_X11_285 rfl t_a0 rfl rfl (by decide) ck_12 rfl (Nat.le_of_ble_eq_true rfl) ⟨(Nat.le_of_ble_eq_true rfl), (Nat.le_of_ble_eq_true rfl)⟩ hph hph (show 0 + 0 = 0 from rfl) (by decide) (fun rh5 Lh5 clh5 lnh5 ivh5 rvh5 h5 => ?_)
          obtain ⟨f5, rfl, rfl, rfl, rfl, rfl, rfl, rgf5, exf5⟩ := h5
          refine c_st (st2 := [.int (iI f5)]) rfl ?_
          have gf5 : (f5 = 1 ∧ 0 < iv (sk 5) 2 ∧ 2 ≤ iv a0 12) ∨ (f5 = 0 ∧ ¬ (0 < iv (sk 5) 2 ∧ 2 ≤ iv a0 12)) := exf5
          refine c_if_eq (tgt := 41) C (r32_qp gf5) dX11_page_34 (by decide) (fun c5 => ?_) (fun c5 => ?_)
          · replace gf5 := (gf5.resolve_left (fun q => absurd (q.1.symm.trans c5) (by decide)))
            refine c_iconst C dX11_page_41 ?_
            refine c_istore (lv2 := [(4, .int (iI 0)), (0, .ref a0), (1, .int (iI i)), (2, .int (iI j)), (3, .int (iI k))]) C dX11_page_42 (by decide) rfl ?_
            refine c_iload_n (j := 3) C dX11_page_44 rfl ?_
            refine c_iload (j := 0) C dX11_page_45 rfl ?_
            refine c_icmp_ge (tgt := 86) C ⟨by omega, by omega⟩ ⟨by decide, by decide⟩ dX11_page_47 (by decide) (fun _ => ?_) (fun z => absurd z (by omega))
            refine c_aload_n (j := 1) (x := a0) C dX11_page_86 rfl ?_
            refine c_iload_n (j := 2) C dX11_page_87 rfl ?_
            refine c_aload_n (j := 1) (x := a0) C dX11_page_88 rfl ?_
            refine d_callV (As := []) (rest := [.int (iI i), .ref a0]) C hM (G_linesOfPage (a0 := a0) hW hS t_a0  ) dX11_page_89 kV_X11_282 rfl t_a0 rfl rfl (by decide) ck_12 rfl (Nat.le_of_ble_eq_true rfl) ⟨(Nat.le_of_ble_eq_true rfl), (Nat.le_of_ble_eq_true rfl)⟩ hph hph (show 0 + 0 = 0 from rfl) (by decide) (fun rh6 Lh6 clh6 lnh6 ivh6 rvh6 h6 => ?_)
            obtain ⟨f6, rfl, rfl, rfl, rfl, rfl, rfl, rgf6, exf6⟩ := h6
            refine c_st (st2 := [.int (iI f6), .int (iI i), .ref a0]) rfl ?_
            have gf6 : (0 < iv (sk 5) 2 ∧ 2 ≤ iv a0 12 ∧ f6 = iv a0 12 - 1) ∨ (¬ (0 < iv (sk 5) 2 ∧ 2 ≤ iv a0 12) ∧ f6 = iv a0 12) := exf6
            have mb9 := mulb (p := i) (o := f6) ⟨by omega, by omega⟩ ⟨by omega, by omega⟩
            refine c_imul C dX11_page_92 ?_
            refine c_iload_n (j := 3) C dX11_page_93 rfl ?_
            refine c_iadd C dX11_page_94 ?_
            refine c_iload (j := 0) C dX11_page_95 rfl ?_
            refine c_isub C dX11_page_97 ?_
            refine c_iload_n (j := 4) C dX11_page_98 rfl ?_
            refine d_callV (As := [.int (iI (((i * f6) + j) - 0)), .int (iI k)]) (rest := []) C hM (G_cellOfLine (a0 := a0) (i := ((i * f6) + j) - 0) (j := k) hW hS t_a0 (by omega) (by omega) ) dX11_page_99 kV_X11_298 rfl t_a0 rfl rfl (by decide) ck_12 rfl (Nat.le_of_ble_eq_true rfl) ⟨(Nat.le_of_ble_eq_true rfl), (Nat.le_of_ble_eq_true rfl)⟩ hph hph (show 0 + 0 = 0 from rfl) (by decide) (fun rh7 Lh7 clh7 lnh7 ivh7 rvh7 h7 => ?_)
            obtain ⟨f7, rfl, rfl, rfl, rfl, rfl, fl7, W7, rgf7, exf7, kp11f7, kp12f7, kp13f7, kp14f7, kp15f7, kp16f7, clpf7⟩ := h7
            refine hv6 (show 1 ≤ iv a0 11 ∧ iv a0 11 ≤ 100 from hW.int t_a0 11) (show (-2147483648) ≤ iv a0 13 ∧ iv a0 13 ≤ 2147483647 from hW.int t_a0 13) (show (-2147483648) ≤ iv a0 14 ∧ iv a0 14 ≤ 2147483647 from hW.int t_a0 14) (show (-2147483648) ≤ iv a0 15 ∧ iv a0 15 ≤ 2147483647 from hW.int t_a0 15) (show (-2147483648) ≤ iv a0 16 ∧ iv a0 16 ≤ 2147483647 from hW.int t_a0 16) (hF0.call hX0 fl7 rfl) (fun ri39 ri40 ri41 ri42 ri43 F4 => ?_)
            refine c_st (st2 := [.int (iI f7)]) rfl ?_
            refine hv14 (show ivh7 a0 11 = iv a0 11 from kp11f7) (show ivh7 a0 12 = iv a0 12 from kp12f7) (show ivh7 a0 13 = iv a0 13 from kp13f7) (show ivh7 a0 14 = iv a0 14 from kp14f7) (show ivh7 a0 15 = iv a0 15 from kp15f7) (show ivh7 a0 16 = iv a0 16 from kp16f7) (show 1 ≤ ivh7 a0 11 ∧ ivh7 a0 11 ≤ 100 from W7.int t_a0 11) (show 1 ≤ ivh7 a0 12 ∧ ivh7 a0 12 ≤ 50 from W7.int t_a0 12) (show (-2147483648) ≤ ivh7 a0 13 ∧ ivh7 a0 13 ≤ 2147483647 from W7.int t_a0 13) (show (-2147483648) ≤ ivh7 a0 14 ∧ ivh7 a0 14 ≤ 2147483647 from W7.int t_a0 14) (show (-2147483648) ≤ ivh7 a0 15 ∧ ivh7 a0 15 ≤ 2147483647 from W7.int t_a0 15) (show (-2147483648) ≤ ivh7 a0 16 ∧ ivh7 a0 16 ≤ 2147483647 from W7.int t_a0 16) (show 0 ≤ ivh7 (sk 5) 2 ∧ ivh7 (sk 5) 2 ≤ 200 from W7.int tsk5 2) (show ivh7 (sk 5) 2 = iv (sk 5) 2 from fl7.i tsk5 rfl 2) (fun gk11f7 gk12f7 gk13f7 gk14f7 gk15f7 gk16f7 ri44 ri45 ri46 ri47 ri48 ri49 ri50 ie28 => ?_)
            exact c_iret C dX11_page_102 rfl (by decide) (rom0 hph hph (by decide)) ⟨f7, rfl, rfl, rfl, rfl, rfl, F4, W7, ⟨by omega, by omega⟩, trivial, gk11f7, gk12f7, gk13f7, gk14f7, gk15f7, gk16f7, (PGP.ce gf2.2 ⟨by omega, by omega⟩ ⟨by omega, by omega⟩ (by omega) (k := j) gf6 (by omega) (by omega) clpf7)⟩
          · replace gf5 := (gf5.resolve_right (fun q => c5 q.1))
            refine c_iconst C dX11_page_37 ?_
            refine c_goto (tgt := 42) C dX11_page_38 (by decide) ?_
            refine c_istore (lv2 := [(4, .int (iI 1)), (0, .ref a0), (1, .int (iI i)), (2, .int (iI j)), (3, .int (iI k))]) C dX11_page_42 (by decide) rfl ?_
            refine c_iload_n (j := 3) C dX11_page_44 rfl ?_
            refine c_iload (j := 0) C dX11_page_45 rfl ?_
            refine c_icmp_ge (tgt := 86) C ⟨by omega, by omega⟩ ⟨by decide, by decide⟩ dX11_page_47 (by decide) (fun c6 => ?_) (fun c6 => ?_)
            · refine c_aload_n (j := 1) (x := a0) C dX11_page_86 rfl ?_
              refine c_iload_n (j := 2) C dX11_page_87 rfl ?_
              refine c_aload_n (j := 1) (x := a0) C dX11_page_88 rfl ?_
              refine d_callV (As := []) (rest := [.int (iI i), .ref a0]) C hM (G_linesOfPage (a0 := a0) hW hS t_a0  ) dX11_page_89 kV_X11_282 rfl t_a0 rfl rfl (by decide) ck_12 rfl (Nat.le_of_ble_eq_true rfl) ⟨(Nat.le_of_ble_eq_true rfl), (Nat.le_of_ble_eq_true rfl)⟩ hph hph (show 0 + 0 = 0 from rfl) (by decide) (fun rh8 Lh8 clh8 lnh8 ivh8 rvh8 h8 => ?_)
              obtain ⟨f8, rfl, rfl, rfl, rfl, rfl, rfl, rgf8, exf8⟩ := h8
              refine c_st (st2 := [.int (iI f8), .int (iI i), .ref a0]) rfl ?_
              have gf8 : (0 < iv (sk 5) 2 ∧ 2 ≤ iv a0 12 ∧ f8 = iv a0 12 - 1) ∨ (¬ (0 < iv (sk 5) 2 ∧ 2 ≤ iv a0 12) ∧ f8 = iv a0 12) := exf8
              have mb9 := mulb (p := i) (o := f8) ⟨by omega, by omega⟩ ⟨by omega, by omega⟩
              refine c_imul C dX11_page_92 ?_
              refine c_iload_n (j := 3) C dX11_page_93 rfl ?_
              refine c_iadd C dX11_page_94 ?_
              refine c_iload (j := 0) C dX11_page_95 rfl ?_
              refine c_isub C dX11_page_97 ?_
              refine c_iload_n (j := 4) C dX11_page_98 rfl ?_
              refine d_callV (As := [.int (iI (((i * f8) + j) - 1)), .int (iI k)]) (rest := []) C hM (G_cellOfLine (a0 := a0) (i := ((i * f8) + j) - 1) (j := k) hW hS t_a0 (by omega) (by omega) ) dX11_page_99 kV_X11_298 rfl t_a0 rfl rfl (by decide) ck_12 rfl (Nat.le_of_ble_eq_true rfl) ⟨(Nat.le_of_ble_eq_true rfl), (Nat.le_of_ble_eq_true rfl)⟩ hph hph (show 0 + 0 = 0 from rfl) (by decide) (fun rh9 Lh9 clh9 lnh9 ivh9 rvh9 h9 => ?_)
              obtain ⟨f9, rfl, rfl, rfl, rfl, rfl, fl9, W9, rgf9, exf9, kp11f9, kp12f9, kp13f9, kp14f9, kp15f9, kp16f9, clpf9⟩ := h9
              refine hv6 (show 1 ≤ iv a0 11 ∧ iv a0 11 ≤ 100 from hW.int t_a0 11) (show (-2147483648) ≤ iv a0 13 ∧ iv a0 13 ≤ 2147483647 from hW.int t_a0 13) (show (-2147483648) ≤ iv a0 14 ∧ iv a0 14 ≤ 2147483647 from hW.int t_a0 14) (show (-2147483648) ≤ iv a0 15 ∧ iv a0 15 ≤ 2147483647 from hW.int t_a0 15) (show (-2147483648) ≤ iv a0 16 ∧ iv a0 16 ≤ 2147483647 from hW.int t_a0 16) (hF0.call hX0 fl9 rfl) (fun ri51 ri52 ri53 ri54 ri55 F5 => ?_)
              refine c_st (st2 := [.int (iI f9)]) rfl ?_
              refine hv14 (show ivh9 a0 11 = iv a0 11 from kp11f9) (show ivh9 a0 12 = iv a0 12 from kp12f9) (show ivh9 a0 13 = iv a0 13 from kp13f9) (show ivh9 a0 14 = iv a0 14 from kp14f9) (show ivh9 a0 15 = iv a0 15 from kp15f9) (show ivh9 a0 16 = iv a0 16 from kp16f9) (show 1 ≤ ivh9 a0 11 ∧ ivh9 a0 11 ≤ 100 from W9.int t_a0 11) (show 1 ≤ ivh9 a0 12 ∧ ivh9 a0 12 ≤ 50 from W9.int t_a0 12) (show (-2147483648) ≤ ivh9 a0 13 ∧ ivh9 a0 13 ≤ 2147483647 from W9.int t_a0 13) (show (-2147483648) ≤ ivh9 a0 14 ∧ ivh9 a0 14 ≤ 2147483647 from W9.int t_a0 14) (show (-2147483648) ≤ ivh9 a0 15 ∧ ivh9 a0 15 ≤ 2147483647 from W9.int t_a0 15) (show (-2147483648) ≤ ivh9 a0 16 ∧ ivh9 a0 16 ≤ 2147483647 from W9.int t_a0 16) (show 0 ≤ ivh9 (sk 5) 2 ∧ ivh9 (sk 5) 2 ≤ 200 from W9.int tsk5 2) (show ivh9 (sk 5) 2 = iv (sk 5) 2 from fl9.i tsk5 rfl 2) (fun gk11f9 gk12f9 gk13f9 gk14f9 gk15f9 gk16f9 ri56 ri57 ri58 ri59 ri60 ri61 ri62 ie35 => ?_)
              exact c_iret C dX11_page_102 rfl (by decide) (rom0 hph hph (by decide)) ⟨f9, rfl, rfl, rfl, rfl, rfl, F5, W9, ⟨by omega, by omega⟩, trivial, gk11f9, gk12f9, gk13f9, gk14f9, gk15f9, gk16f9, (PGP.ce gf2.2 ⟨by omega, by omega⟩ ⟨by omega, by omega⟩ (by omega) (k := j - 1) gf8 (by omega) (by omega) clpf9)⟩
            · refine c_iload_n (j := 4) C dX11_page_50 rfl ?_
              refine c_if_lt (tgt := 65) C ⟨by omega, by omega⟩ dX11_page_51 (by decide) (fun c7 => ?_) (fun c7 => ?_)
              · refine c_aload_n (j := 1) (x := a0) C dX11_page_65 rfl ?_
                refine c_iconst C dX11_page_66 ?_
                refine d_callV (As := [.int (iI 2)]) (rest := []) C hM (C_refuse (a0 := a0) (x := 2) hW hS t_a0 ⟨by decide, by decide⟩ ) dX11_page_67 kV_X11_102 rfl t_a0 rfl rfl (by decide) ck_12 rfl (Nat.le_of_ble_eq_true rfl) ⟨(Nat.le_of_ble_eq_true rfl), (Nat.le_of_ble_eq_true rfl)⟩ hph hph (show 0 + 0 = 0 from rfl) (by decide) (fun rh10 Lh10 clh10 lnh10 ivh10 rvh10 h10 => ?_)
                obtain ⟨f10, rfl, rfl, rfl, rfl, rfl, fl10, W10, rgf10, exf10, kp11f10, kp12f10, kp13f10, kp14f10, kp15f10, kp16f10⟩ := h10
                refine hv6 (show 1 ≤ iv a0 11 ∧ iv a0 11 ≤ 100 from hW.int t_a0 11) (show (-2147483648) ≤ iv a0 13 ∧ iv a0 13 ≤ 2147483647 from hW.int t_a0 13) (show (-2147483648) ≤ iv a0 14 ∧ iv a0 14 ≤ 2147483647 from hW.int t_a0 14) (show (-2147483648) ≤ iv a0 15 ∧ iv a0 15 ≤ 2147483647 from hW.int t_a0 15) (show (-2147483648) ≤ iv a0 16 ∧ iv a0 16 ≤ 2147483647 from hW.int t_a0 16) (hF0.call hX0 fl10 rfl) (fun ri63 ri64 ri65 ri66 ri67 F6 => ?_)
                refine c_st (st2 := [.int (iI f10)]) rfl ?_
                refine hv7 (show ivh10 a0 11 = iv a0 11 from kp11f10) (show ivh10 a0 12 = iv a0 12 from kp12f10) (show ivh10 a0 13 = iv a0 13 from kp13f10) (show ivh10 a0 14 = iv a0 14 from kp14f10) (show ivh10 a0 15 = iv a0 15 from kp15f10) (show ivh10 a0 16 = iv a0 16 from kp16f10) (show f10 = -1 from exf10) (fun gk11f10 gk12f10 gk13f10 gk14f10 gk15f10 gk16f10 gf10 => ?_)
                refine c_goto (tgt := 85) C dX11_page_70 (by decide) ?_
                refine hv8 (show 1 ≤ ivh10 a0 11 ∧ ivh10 a0 11 ≤ 100 from W10.int t_a0 11) (show 1 ≤ ivh10 a0 12 ∧ ivh10 a0 12 ≤ 50 from W10.int t_a0 12) (show (-2147483648) ≤ ivh10 a0 13 ∧ ivh10 a0 13 ≤ 2147483647 from W10.int t_a0 13) (show (-2147483648) ≤ ivh10 a0 14 ∧ ivh10 a0 14 ≤ 2147483647 from W10.int t_a0 14) (show (-2147483648) ≤ ivh10 a0 15 ∧ ivh10 a0 15 ≤ 2147483647 from W10.int t_a0 15) (show (-2147483648) ≤ ivh10 a0 16 ∧ ivh10 a0 16 ≤ 2147483647 from W10.int t_a0 16) (show 0 ≤ ivh10 (sk 5) 2 ∧ ivh10 (sk 5) 2 ≤ 200 from W10.int tsk5 2) (show ivh10 (sk 5) 2 = iv (sk 5) 2 from fl10.i tsk5 rfl 2) (fun ri68 ri69 ri70 ri71 ri72 ri73 ri74 ie42 => ?_)
                exact c_iret C dX11_page_85 rfl (by decide) (rom0 hph hph (by decide)) ⟨f10, rfl, rfl, rfl, rfl, rfl, F6, W10, ⟨by omega, by omega⟩, trivial, gk11f10, gk12f10, gk13f10, gk14f10, gk15f10, gk16f10, (PGP.hn gf2.2 ⟨by omega, by omega⟩ (by omega) ⟨by omega, by omega⟩ (by omega) (by omega))⟩
              · refine c_iload_n (j := 4) C dX11_page_54 rfl ?_
                refine c_aload_n (j := 1) (x := a0) C dX11_page_55 rfl ?_
                obtain ⟨rb1, rq1, trb1⟩ := hW.ref t_a0 3 rfl rfl rfl
                have erb1 := hW.sk trb1 (by decide) rfl
                subst erb1
                refine c_getr (k := 3) C ck_12 dX11_page_56 w2_47 (by decide) t_a0 rfl rfl (by decide) rfl rq1 ?_
                refine c_st (st2 := [.ref (sk 5), .int (iI k)]) rfl ?_
                refine c_get (k := 2) C ck_2 dX11_page_59 w1_44 (by decide) tsk5 rfl rfl (by decide) rfl ?_
                refine c_icmp_lt (tgt := 73) C ⟨by omega, by omega⟩ (r32_c (lo := 0) (hi := 200) ri1.1 ri1.2 (by decide) (by decide)) dX11_page_62 (by decide) (fun c8 => ?_) (fun c8 => ?_)
                · refine c_aload_n (j := 1) (x := a0) C dX11_page_73 rfl ?_
                  refine c_aload_n (j := 1) (x := a0) C dX11_page_74 rfl ?_
                  refine c_getr (k := 3) C ck_12 dX11_page_75 w2_47 (by decide) t_a0 rfl rfl (by decide) rfl rq1 ?_
                  refine c_st (st2 := [.ref (sk 5), .ref a0]) rfl ?_
                  refine c_iload_n (j := 4) C dX11_page_78 rfl ?_
                  refine d_callV (As := [.int (iI k)]) (rest := [.ref a0]) C hM (C_at_5 (a0 := (sk 5)) (i := k) hW hS tsk5 (by omega) ) dX11_page_79 kV_X11_224 rfl tsk5 rfl rfl (by decide) ck_2 rfl (Nat.le_of_ble_eq_true rfl) ⟨(Nat.le_of_ble_eq_true rfl), (Nat.le_of_ble_eq_true rfl)⟩ hph hph (show 0 + 0 = 0 from rfl) (by decide) (fun rh11 Lh11 clh11 lnh11 ivh11 rvh11 h11 => ?_)
                  obtain ⟨f11, rfl, rfl, rfl, rfl, rfl, rfl, rgf11, exf11⟩ := h11
                  refine c_st (st2 := [.int (iI f11), .ref a0]) rfl ?_
                  have gf11 : ((0 ≤ k ∧ k < iv (sk 5) 2) ∨ f11 = 0) ∧ ∀ ss, CT iv rv (sk 5) ss → 0 ≤ k → k < iv (sk 5) 2 → f11 = ss k.toNat := exf11
                  refine d_callV (As := [.int (iI f11)]) (rest := []) C hM (C_done (a0 := a0) (x := f11) hW hS t_a0 (by omega) ) dX11_page_82 kV_X11_109 rfl t_a0 rfl rfl (by decide) ck_12 rfl (Nat.le_of_ble_eq_true rfl) ⟨(Nat.le_of_ble_eq_true rfl), (Nat.le_of_ble_eq_true rfl)⟩ hph hph (show 0 + 0 = 0 from rfl) (by decide) (fun rh12 Lh12 clh12 lnh12 ivh12 rvh12 h12 => ?_)
                  obtain ⟨f12, rfl, rfl, rfl, rfl, rfl, fl12, W12, rgf12, exf12, kp11f12, kp12f12, kp13f12, kp14f12, kp15f12, kp16f12⟩ := h12
                  refine hv6 (show 1 ≤ iv a0 11 ∧ iv a0 11 ≤ 100 from hW.int t_a0 11) (show (-2147483648) ≤ iv a0 13 ∧ iv a0 13 ≤ 2147483647 from hW.int t_a0 13) (show (-2147483648) ≤ iv a0 14 ∧ iv a0 14 ≤ 2147483647 from hW.int t_a0 14) (show (-2147483648) ≤ iv a0 15 ∧ iv a0 15 ≤ 2147483647 from hW.int t_a0 15) (show (-2147483648) ≤ iv a0 16 ∧ iv a0 16 ≤ 2147483647 from hW.int t_a0 16) (hF0.call hX0 fl12 rfl) (fun ri75 ri76 ri77 ri78 ri79 F7 => ?_)
                  refine c_st (st2 := [.int (iI f12)]) rfl ?_
                  refine hv15 (show ivh12 a0 11 = iv a0 11 from kp11f12) (show ivh12 a0 12 = iv a0 12 from kp12f12) (show ivh12 a0 13 = iv a0 13 from kp13f12) (show ivh12 a0 14 = iv a0 14 from kp14f12) (show ivh12 a0 15 = iv a0 15 from kp15f12) (show ivh12 a0 16 = iv a0 16 from kp16f12) (show f12 = f11 from exf12) (show 1 ≤ ivh12 a0 11 ∧ ivh12 a0 11 ≤ 100 from W12.int t_a0 11) (show 1 ≤ ivh12 a0 12 ∧ ivh12 a0 12 ≤ 50 from W12.int t_a0 12) (show (-2147483648) ≤ ivh12 a0 13 ∧ ivh12 a0 13 ≤ 2147483647 from W12.int t_a0 13) (show (-2147483648) ≤ ivh12 a0 14 ∧ ivh12 a0 14 ≤ 2147483647 from W12.int t_a0 14) (show (-2147483648) ≤ ivh12 a0 15 ∧ ivh12 a0 15 ≤ 2147483647 from W12.int t_a0 15) (show (-2147483648) ≤ ivh12 a0 16 ∧ ivh12 a0 16 ≤ 2147483647 from W12.int t_a0 16) (show 0 ≤ ivh12 (sk 5) 2 ∧ ivh12 (sk 5) 2 ≤ 200 from W12.int tsk5 2) (show ivh12 (sk 5) 2 = iv (sk 5) 2 from fl12.i tsk5 rfl 2) (fun gk11f12 gk12f12 gk13f12 gk14f12 gk15f12 gk16f12 gf12 ri80 ri81 ri82 ri83 ri84 ri85 ri86 ie49 => ?_)
                  exact c_iret C dX11_page_85 rfl (by decide) (rom0 hph hph (by decide)) ⟨f12, rfl, rfl, rfl, rfl, rfl, F7, W12, ⟨by omega, by omega⟩, trivial, gk11f12, gk12f12, gk13f12, gk14f12, gk15f12, gk16f12, (PGP.hd gf2.2 ⟨by omega, by omega⟩ (by omega) ⟨by omega, by omega⟩ ⟨by omega, by omega⟩ (fun HD hc => by have q := gf11.2 HD hc (by omega) (by omega); omega))⟩
                · refine c_aload_n (j := 1) (x := a0) C dX11_page_65 rfl ?_
                  refine c_iconst C dX11_page_66 ?_
                  refine d_callV (As := [.int (iI 2)]) (rest := []) C hM (C_refuse (a0 := a0) (x := 2) hW hS t_a0 ⟨by decide, by decide⟩ ) dX11_page_67 kV_X11_102 rfl t_a0 rfl rfl (by decide) ck_12 rfl (Nat.le_of_ble_eq_true rfl) ⟨(Nat.le_of_ble_eq_true rfl), (Nat.le_of_ble_eq_true rfl)⟩ hph hph (show 0 + 0 = 0 from rfl) (by decide) (fun rh13 Lh13 clh13 lnh13 ivh13 rvh13 h13 => ?_)
                  obtain ⟨f13, rfl, rfl, rfl, rfl, rfl, fl13, W13, rgf13, exf13, kp11f13, kp12f13, kp13f13, kp14f13, kp15f13, kp16f13⟩ := h13
                  refine hv6 (show 1 ≤ iv a0 11 ∧ iv a0 11 ≤ 100 from hW.int t_a0 11) (show (-2147483648) ≤ iv a0 13 ∧ iv a0 13 ≤ 2147483647 from hW.int t_a0 13) (show (-2147483648) ≤ iv a0 14 ∧ iv a0 14 ≤ 2147483647 from hW.int t_a0 14) (show (-2147483648) ≤ iv a0 15 ∧ iv a0 15 ≤ 2147483647 from hW.int t_a0 15) (show (-2147483648) ≤ iv a0 16 ∧ iv a0 16 ≤ 2147483647 from hW.int t_a0 16) (hF0.call hX0 fl13 rfl) (fun ri87 ri88 ri89 ri90 ri91 F8 => ?_)
                  refine c_st (st2 := [.int (iI f13)]) rfl ?_
                  refine hv7 (show ivh13 a0 11 = iv a0 11 from kp11f13) (show ivh13 a0 12 = iv a0 12 from kp12f13) (show ivh13 a0 13 = iv a0 13 from kp13f13) (show ivh13 a0 14 = iv a0 14 from kp14f13) (show ivh13 a0 15 = iv a0 15 from kp15f13) (show ivh13 a0 16 = iv a0 16 from kp16f13) (show f13 = -1 from exf13) (fun gk11f13 gk12f13 gk13f13 gk14f13 gk15f13 gk16f13 gf13 => ?_)
                  refine c_goto (tgt := 85) C dX11_page_70 (by decide) ?_
                  refine hv8 (show 1 ≤ ivh13 a0 11 ∧ ivh13 a0 11 ≤ 100 from W13.int t_a0 11) (show 1 ≤ ivh13 a0 12 ∧ ivh13 a0 12 ≤ 50 from W13.int t_a0 12) (show (-2147483648) ≤ ivh13 a0 13 ∧ ivh13 a0 13 ≤ 2147483647 from W13.int t_a0 13) (show (-2147483648) ≤ ivh13 a0 14 ∧ ivh13 a0 14 ≤ 2147483647 from W13.int t_a0 14) (show (-2147483648) ≤ ivh13 a0 15 ∧ ivh13 a0 15 ≤ 2147483647 from W13.int t_a0 15) (show (-2147483648) ≤ ivh13 a0 16 ∧ ivh13 a0 16 ≤ 2147483647 from W13.int t_a0 16) (show 0 ≤ ivh13 (sk 5) 2 ∧ ivh13 (sk 5) 2 ≤ 200 from W13.int tsk5 2) (show ivh13 (sk 5) 2 = iv (sk 5) 2 from fl13.i tsk5 rfl 2) (fun ri92 ri93 ri94 ri95 ri96 ri97 ri98 ie56 => ?_)
                  exact c_iret C dX11_page_85 rfl (by decide) (rom0 hph hph (by decide)) ⟨f13, rfl, rfl, rfl, rfl, rfl, F8, W13, ⟨by omega, by omega⟩, trivial, gk11f13, gk12f13, gk13f13, gk14f13, gk15f13, gk16f13, (PGP.hn gf2.2 ⟨by omega, by omega⟩ (by omega) ⟨by omega, by omega⟩ (by omega) (by omega))⟩
        · refine c_aload_n (j := 0) (x := a0) C dX11_page_24 rfl ?_
          refine c_iconst C dX11_page_25 ?_
          refine d_callV (As := [.int (iI 2)]) (rest := []) C hM (C_refuse (a0 := a0) (x := 2) hW hS t_a0 ⟨by decide, by decide⟩ ) dX11_page_26 kV_X11_102 rfl t_a0 rfl rfl (by decide) ck_12 rfl (Nat.le_of_ble_eq_true rfl) ⟨(Nat.le_of_ble_eq_true rfl), (Nat.le_of_ble_eq_true rfl)⟩ hph hph (show 0 + 0 = 0 from rfl) (by decide) (fun rh14 Lh14 clh14 lnh14 ivh14 rvh14 h14 => ?_)
          obtain ⟨f14, rfl, rfl, rfl, rfl, rfl, fl14, W14, rgf14, exf14, kp11f14, kp12f14, kp13f14, kp14f14, kp15f14, kp16f14⟩ := h14
          refine hv6 (show 1 ≤ iv a0 11 ∧ iv a0 11 ≤ 100 from hW.int t_a0 11) (show (-2147483648) ≤ iv a0 13 ∧ iv a0 13 ≤ 2147483647 from hW.int t_a0 13) (show (-2147483648) ≤ iv a0 14 ∧ iv a0 14 ≤ 2147483647 from hW.int t_a0 14) (show (-2147483648) ≤ iv a0 15 ∧ iv a0 15 ≤ 2147483647 from hW.int t_a0 15) (show (-2147483648) ≤ iv a0 16 ∧ iv a0 16 ≤ 2147483647 from hW.int t_a0 16) (hF0.call hX0 fl14 rfl) (fun ri99 ri100 ri101 ri102 ri103 F9 => ?_)
          refine c_st (st2 := [.int (iI f14)]) rfl ?_
          refine hv15 (show ivh14 a0 11 = iv a0 11 from kp11f14) (show ivh14 a0 12 = iv a0 12 from kp12f14) (show ivh14 a0 13 = iv a0 13 from kp13f14) (show ivh14 a0 14 = iv a0 14 from kp14f14) (show ivh14 a0 15 = iv a0 15 from kp15f14) (show ivh14 a0 16 = iv a0 16 from kp16f14) (show f14 = -1 from exf14) (show 1 ≤ ivh14 a0 11 ∧ ivh14 a0 11 ≤ 100 from W14.int t_a0 11) (show 1 ≤ ivh14 a0 12 ∧ ivh14 a0 12 ≤ 50 from W14.int t_a0 12) (show (-2147483648) ≤ ivh14 a0 13 ∧ ivh14 a0 13 ≤ 2147483647 from W14.int t_a0 13) (show (-2147483648) ≤ ivh14 a0 14 ∧ ivh14 a0 14 ≤ 2147483647 from W14.int t_a0 14) (show (-2147483648) ≤ ivh14 a0 15 ∧ ivh14 a0 15 ≤ 2147483647 from W14.int t_a0 15) (show (-2147483648) ≤ ivh14 a0 16 ∧ ivh14 a0 16 ≤ 2147483647 from W14.int t_a0 16) (show 0 ≤ ivh14 (sk 5) 2 ∧ ivh14 (sk 5) 2 ≤ 200 from W14.int tsk5 2) (show ivh14 (sk 5) 2 = iv (sk 5) 2 from fl14.i tsk5 rfl 2) (fun gk11f14 gk12f14 gk13f14 gk14f14 gk15f14 gk16f14 gf14 ri104 ri105 ri106 ri107 ri108 ri109 ri110 ie63 => ?_)
          exact c_iret C dX11_page_29 rfl (by decide) (rom0 hph hph (by decide)) ⟨f14, rfl, rfl, rfl, rfl, rfl, F9, W14, ⟨by omega, by omega⟩, trivial, gk11f14, gk12f14, gk13f14, gk14f14, gk15f14, gk16f14, (PGP.out gf2.2 (by omega) (by omega))⟩
end
section
theorem PO3_head {l : Launch} {G : GT} {mi h0 : Nat} {i : Int} (h_i : -2147483648 ≤ i ∧ i ≤ 2147483647) : PressOp l G mi yX11_head cX11_head 6 (some .int) 8 [.int (iI i)] h0 (fun sk L cl ln iv rv L2 cl2 ln2 iv2 rv2 f => ((HDX sk ln iv rv (iv h0 11) i f ∧ HDY sk ln iv rv iv2 rv2 i f) ∧ (KSQ h0 iv rv iv2 rv2 ∧ KSC h0 iv rv iv2 rv2 ∧ iv2 h0 15 = iv h0 15 ∧ iv2 h0 16 = iv h0 16 ∧ True ∧ (iv2 (sk 4) 2 = iv (sk 4) 2 ∧ ∀ ss, CT iv rv (sk 4) ss → CT iv2 rv2 (sk 4) ss) ∧ FKP sk iv rv iv2 rv2)) ∧ (iv2 h0 14 = iv h0 14 ∧ iv2 h0 11 = iv h0 11 ∧ iv2 h0 12 = iv h0 12 ∧ iv2 h0 13 = iv h0 13) ∧ iv2 (sk 2) 2 = 0 ∧ (iv2 (sk 3) 2 = iv (sk 3) 2 ∧ (∀ tt, CT iv rv (sk 3) tt → CT iv2 rv2 (sk 3) tt)) ∧ PSAME sk iv rv iv2 rv2 ∧ (∃ g, WT g sk L cl ln iv rv ∧ WT g sk L2 cl2 ln2 iv2 rv2) ∧ SKL sk L cl ∧ XT L cl ln L2 cl2 ln2 ∧ (KP L cl (fun _ => False) (fun _ => False) (fun _ => False) (fun _ => False) (fun _ _ => False) iv rv iv2 rv2)) := by
  intro n L cl ln iv rv sk hn hp
  obtain ⟨hW, hS, hm, h23, ht⟩ := hp
  refine hv3 (show ty L cl (sk 23) 23 from ⟨(hS 23 rfl).1, by rw [(hS 23 rfl).2]; rfl⟩) (show ty L cl (sk 2) 2 from ⟨(hS 2 rfl).1, by rw [(hS 2 rfl).2]; rfl⟩) (show ty L cl (sk 3) 3 from ⟨(hS 3 rfl).1, by rw [(hS 3 rfl).2]; rfl⟩) (fun t23 t2 t3 => ?_)
  refine ⟨0, _, by decide, G_head2 hW hS ht h_i hm, fun v L2 cl2 ln2 iv2 rv2 h => ?_⟩
  obtain ⟨f, rfl, hX, hF, hW2, rg, ex, kp11, kp12, kp13, kp14, kp15, kp16, ktz, hdx, hdy, kr9, kr10⟩ := h
  exact ⟨f, rfl, by omega, hX, hW2, (MRK.call hm hW hS hX hF rfl rfl), (by have q := hF.i t23 rfl 2; omega), ⟨⟨⟨hdx, hdy⟩, ⟨(KSQ.fr hW ht hF kr9 kr10 rfl rfl rfl), (KSC.fr hW ht hF kr9 kr10 rfl rfl rfl rfl), kp15, kp16, trivial, ⟨hF.i (tysq (t := 4) hS rfl rfl) rfl 2, fun ss hs => CT.fr hs hW (tysq (t := 4) hS rfl rfl) hF rfl rfl rfl rfl rfl⟩, (FKP.fr hW hS hF rfl rfl rfl rfl)⟩⟩, ⟨kp14, kp11, kp12, kp13⟩, ktz, ⟨hF.i t3 rfl 2, fun tt ht => CT.fr ht hW t3 hF rfl rfl rfl rfl rfl⟩, (PSAME.fr hW hS hF rfl rfl rfl rfl rfl rfl rfl), ⟨⟨_, hW, hW2⟩, hS, hX, (KP.fr hW hF rfl)⟩⟩⟩
theorem PO2_page {l : Launch} {G : GT} {mi h0 : Nat} {i : Int} {j : Int} {k : Int} (h_i : -2147483648 ≤ i ∧ i ≤ 2147483647) (h_j : -2147483648 ≤ j ∧ j ≤ 2147483647) (h_k : -2147483648 ≤ k ∧ k ≤ 2147483647) : PressOp l G mi yX11_page cX11_page 5 (some .int) 3 [.int (iI i), .int (iI j), .int (iI k)] h0 (fun sk L cl ln iv rv L2 cl2 ln2 iv2 rv2 f => ((PGP iv rv sk h0 i j k f) ∧ (KSQ h0 iv rv iv2 rv2 ∧ KSC h0 iv rv iv2 rv2 ∧ iv2 h0 15 = iv h0 15 ∧ iv2 h0 16 = iv h0 16 ∧ (iv2 (sk 5) 2 = iv (sk 5) 2 ∧ ∀ ss, CT iv rv (sk 5) ss → CT iv2 rv2 (sk 5) ss) ∧ (iv2 (sk 4) 2 = iv (sk 4) 2 ∧ ∀ ss, CT iv rv (sk 4) ss → CT iv2 rv2 (sk 4) ss) ∧ FKP sk iv rv iv2 rv2)) ∧ (iv2 h0 14 = iv h0 14 ∧ iv2 h0 11 = iv h0 11 ∧ iv2 h0 12 = iv h0 12 ∧ iv2 h0 13 = iv h0 13) ∧ (iv2 (sk 2) 2 = iv (sk 2) 2 ∧ (∀ ss, CT iv rv (sk 2) ss → CT iv2 rv2 (sk 2) ss)) ∧ (iv2 (sk 3) 2 = iv (sk 3) 2 ∧ (∀ tt, CT iv rv (sk 3) tt → CT iv2 rv2 (sk 3) tt)) ∧ PSAME sk iv rv iv2 rv2 ∧ (∃ g, WT g sk L cl ln iv rv ∧ WT g sk L2 cl2 ln2 iv2 rv2) ∧ SKL sk L cl ∧ XT L cl ln L2 cl2 ln2 ∧ (KP L cl (fun _ => False) (fun _ => False) (fun _ => False) (fun _ => False) (fun _ _ => False) iv rv iv2 rv2)) := by
  intro n L cl ln iv rv sk hn hp
  obtain ⟨hW, hS, hm, h23, ht⟩ := hp
  refine hv3 (show ty L cl (sk 23) 23 from ⟨(hS 23 rfl).1, by rw [(hS 23 rfl).2]; rfl⟩) (show ty L cl (sk 2) 2 from ⟨(hS 2 rfl).1, by rw [(hS 2 rfl).2]; rfl⟩) (show ty L cl (sk 3) 3 from ⟨(hS 3 rfl).1, by rw [(hS 3 rfl).2]; rfl⟩) (fun t23 t2 t3 => ?_)
  refine ⟨0, _, by decide, G_page hW hS ht h_i h_j h_k , fun v L2 cl2 ln2 iv2 rv2 h => ?_⟩
  obtain ⟨f, rfl, rfl, rfl, rfl, rfl, hF, hW2, rg, ex, kp11, kp12, kp13, kp14, kp15, kp16, pgp⟩ := h
  exact ⟨f, rfl, by omega, XT.refl, hW2, (MRK.call hm hW hS XT.refl hF rfl rfl), (by have q := hF.i t23 rfl 2; omega), ⟨⟨pgp, ⟨(KSQ.ni hW ht hF rfl), (KSC.fr hW ht hF rfl rfl rfl rfl rfl rfl), kp15, kp16, ⟨hF.i (tysq (t := 5) hS rfl rfl) rfl 2, fun ss hs => CT.fr hs hW (tysq (t := 5) hS rfl rfl) hF rfl rfl rfl rfl rfl⟩, ⟨hF.i (tysq (t := 4) hS rfl rfl) rfl 2, fun ss hs => CT.fr hs hW (tysq (t := 4) hS rfl rfl) hF rfl rfl rfl rfl rfl⟩, (FKP.fr hW hS hF rfl rfl rfl rfl)⟩⟩, ⟨kp14, kp11, kp12, kp13⟩, ⟨hF.i t2 rfl 2, fun ss hs => CT.fr hs hW t2 hF rfl rfl rfl rfl rfl⟩, ⟨hF.i t3 rfl 2, fun tt ht => CT.fr ht hW t3 hF rfl rfl rfl rfl rfl⟩, (PSAME.fr hW hS hF rfl rfl rfl rfl rfl rfl rfl), ⟨⟨_, hW, hW2⟩, hS, XT.refl, (KP.fr hW hF rfl)⟩⟩⟩
theorem MO2_page {l : Launch} {G : GT} {mm : Nat} {x1 x2 x3 : Int} (h_x1 : -2147483648 ≤ x1 ∧ x1 ≤ 2147483647) (h_x2 : -2147483648 ≤ x2 ∧ x2 ≤ 2147483647) (h_x3 : -2147483648 ≤ x3 ∧ x3 ≤ 2147483647) : ModelOp l G yX12_page cX12_page 5 (some .int) 3 [.int (iI x1), .int (iI x2), .int (iI x3)] mm 0 0 (fun v a v2 a2 f => ((PGA v a x1 x2 x3 f) ∧ (v2 36 = v 36 ∧ KSA v a v2 a2 ∧ v2 42 = v 42 ∧ v2 43 = v 43 ∧ (v2 41 = v 41 ∧ a2 40 = a 40) ∧ (v2 52 = v 52 ∧ a2 51 = a 51) ∧ (v2 60 = v 60 ∧ v2 61 = v 61 ∧ a2 58 = a 58 ∧ a2 59 = a 59))) ∧ (v2 56 = v 56 ∧ v2 31 = v 31 ∧ v2 32 = v 32 ∧ v2 33 = v 33) ∧ (v2 3 = v 3 ∧ a2 2 = a 2) ∧ (v2 30 = v 30 ∧ a2 29 = a 29) ∧ TSAME v a v2 a2) := by
  intro n ad ln v a L E hn hV hI
  obtain ⟨hB, hT, hS, hR, h19⟩ := hV
  refine ⟨_, N2_page (q := x1) (w1 := x2) (i := x3) hB h_x1 h_x2 h_x3 L E hI, fun r L2 E2 h => ?_⟩
  obtain ⟨v2, a2, hI2, f, rfl, hf, hB2, hx⟩ := h
  exact ⟨f, ad, ln, v2, a2, rfl, hI2, ⟨hB2, (hT.fr hf rfl rfl), (hS.fr hf rfl rfl), (hR.fr hf rfl), (by have q := hf.1 19 rfl; push_cast; omega)⟩, ⟨⟨hx, ⟨hf.1 36 rfl, ⟨hf.1 36 rfl, hf.2 34 rfl, hf.2 35 rfl⟩, hf.1 42 rfl, hf.1 43 rfl, ⟨hf.1 41 rfl, hf.2 40 rfl⟩, ⟨hf.1 52 rfl, hf.2 51 rfl⟩, ⟨hf.1 60 rfl, hf.1 61 rfl, hf.2 58 rfl, hf.2 59 rfl⟩⟩⟩, ⟨hf.1 56 rfl, hf.1 31 rfl, hf.1 32 rfl, hf.1 33 rfl⟩, ⟨hf.1 3 rfl, hf.2 2 rfl⟩, ⟨hf.1 30 rfl, hf.2 29 rfl⟩, ⟨hf.1 4 rfl, hf.2 5 rfl, hf.2 6 rfl, hf.2 7 rfl, hf.2 10 rfl, hf.1 19 rfl, hf.2 18 rfl, hf.2 11 rfl, hf.2 8 rfl, hf.2 9 rfl, hf.2 12 rfl, hf.2 13 rfl, hf.2 14 rfl, hf.2 15 rfl, hf.2 16 rfl, hf.2 17 rfl⟩⟩⟩
theorem MO3_head {l : Launch} {G : GT} {mm : Nat} {x1 : Int} (h_x1 : -2147483648 ≤ x1 ∧ x1 ≤ 2147483647) : ModelOp l G yX12_head cX12_head 5 (some .int) 66 [.int (iI x1)] mm 0 0 (fun v a v2 a2 f => ((HDS v a x1 f ∧ TBL v a ∧ HDT v a v2 a2 x1 f) ∧ (v2 36 = v 36 ∧ KSA v a v2 a2 ∧ v2 42 = v 42 ∧ v2 43 = v 43 ∧ True ∧ (v2 52 = v 52 ∧ a2 51 = a 51) ∧ (v2 60 = v 60 ∧ v2 61 = v 61 ∧ a2 58 = a 58 ∧ a2 59 = a 59))) ∧ (v2 56 = v 56 ∧ v2 31 = v 31 ∧ v2 32 = v 32 ∧ v2 33 = v 33) ∧ v2 3 = 0 ∧ (v2 30 = v 30 ∧ a2 29 = a 29) ∧ TSAME v a v2 a2) := by
  intro n ad ln v a L E hn hV hI
  obtain ⟨hB, hT, hS, hR, h19⟩ := hV
  refine ⟨_, N3_head (t := x1) hB hT h_x1 L E hI, fun r L2 E2 h => ?_⟩
  obtain ⟨v2, a2, hI2, f, rfl, hf, hB2, hx⟩ := h
  exact ⟨f, ad, ln, v2, a2, rfl, hI2, ⟨hB2, (hT.fr hf rfl rfl), (hS.fr hf rfl rfl), (hR.fr hf rfl), (by have q := hf.1 19 rfl; push_cast; omega)⟩, ⟨⟨⟨hx.2.1, hT, hx.2.2⟩, ⟨hf.1 36 rfl, ⟨hf.1 36 rfl, hf.2 34 rfl, hf.2 35 rfl⟩, hf.1 42 rfl, hf.1 43 rfl, trivial, ⟨hf.1 52 rfl, hf.2 51 rfl⟩, ⟨hf.1 60 rfl, hf.1 61 rfl, hf.2 58 rfl, hf.2 59 rfl⟩⟩⟩, ⟨hf.1 56 rfl, hf.1 31 rfl, hf.1 32 rfl, hf.1 33 rfl⟩, hx.1, ⟨hf.1 30 rfl, hf.2 29 rfl⟩, ⟨hf.1 4 rfl, hf.2 5 rfl, hf.2 6 rfl, hf.2 7 rfl, hf.2 10 rfl, hf.1 19 rfl, hf.2 18 rfl, hf.2 11 rfl, hf.2 8 rfl, hf.2 9 rfl, hf.2 12 rfl, hf.2 13 rfl, hf.2 14 rfl, hf.2 15 rfl, hf.2 16 rfl, hf.2 17 rfl⟩⟩⟩
end
section
section UBAC
variable {h : Nat} {sk : Nat → Nat} {L L1 L3 : List Nat} {cl ln cl1 ln1 cl3 ln3 : Nat → Nat} {iv iv1 iv2 iv3 iv4 : Nat → Nat → Int} {rv rv1 rv2 rv3 rv4 : Nat → Nat → Option Nat} {a : Nat → Nat → Int} {s cb : Nat} {k x f f1 f2 q u : Int} {l0 l1 : List Int} {R W : Nat → Int} {ls : List Nat}
theorem LTW.fx (hl : LTW iv rv s W q u) (hW : WT h sk L cl ln iv rv) (ts : ty L cl s 15) (hF : fT ls L cl iv rv iv1 rv1) (c1 : ls.contains 15 = false) (c2 : ls.contains 50 = false) : LTW iv1 rv1 s W q u := fun lb hb j h1 h2 => by
  rw [hF.r ts c1 0] at hb
  obtain ⟨b', w1, tb⟩ := hW.ref ts 0 rfl rfl rfl
  rw [hb] at w1
  cases w1
  rw [hF.i tb c2]
  exact hl lb hb j h1 h2
end UBAC
end
section
theorem bit8 {i : Nat} (h : ¬ i < 8) : (255#32 : BitVec 32).getLsbD i = false := by
  rw [show (255#32 : BitVec 32) = BitVec.setWidth 32 (255#8) from by decide, BitVec.getLsbD_setWidth, BitVec.getLsbD_of_ge (255#8) i (by omega), Bool.and_false]
theorem shr8 (x : BitVec 32) (n : Nat) (h : n ≤ 24) : (x >>> n) &&& 255#32 = (x.sshiftRight n) &&& 255#32 := by
  apply BitVec.eq_of_getLsbD_eq
  intro i hi
  rw [BitVec.getLsbD_and, BitVec.getLsbD_and]
  by_cases h8 : i < 8
  · rw [BitVec.getLsbD_ushiftRight, BitVec.getLsbD_sshiftRight]
    have h1 : ¬ (32 ≤ i) := by omega
    have h2 : n + i < 32 := by omega
    simp [h1, h2]
  · rw [bit8 h8, Bool.and_false, Bool.and_false]
theorem byx_k (x : Int) (n : Nat) (hn : n ≤ 24) (s1 : UInt32) (e1 : s1.toBitVec = BitVec.ofNat 32 n) (s2 : Int32) (e2 : s2.toBitVec = BitVec.ofNat 32 n) : ((iI x).toUInt32 >>> s1).toInt32 &&& iI 255 = (iI x >>> s2) &&& iI 255 := by
  refine hv2 (show ∀ m : Nat, m ≤ 24 → (BitVec.ofNat 32 m % 32#32).toNat = m from by decide +kernel) (show ∀ m : Nat, m ≤ 24 → ((BitVec.ofNat 32 m).smod 32#32).toNat = m from by decide +kernel) (fun h1 h2 => ?_)
  have b1 : ((iI x).toUInt32 >>> s1).toInt32.toBitVec = (iI x).toBitVec >>> n := by
    show (iI x).toBitVec >>> (s1.toBitVec % 32#32).toNat = _
    rw [e1, h1 n hn]
  have b2 : (iI x >>> s2).toBitVec = (iI x).toBitVec.sshiftRight n := by
    show (iI x).toBitVec.sshiftRight (s2.toBitVec.smod 32#32).toNat = _
    rw [e2, h2 n hn]
  apply Int32.toBitVec_inj.mp
  rw [Int32.toBitVec_and, Int32.toBitVec_and, b1, b2]
  exact shr8 _ n hn
theorem byx_r (x : Int) : byx x 0 = rby x 0 ∧ byx x 1 = rby x 1 ∧ byx x 2 = rby x 2 ∧ byx x 3 = rby x 3 := by
  refine ⟨?_, ?_, ?_, ?_⟩
  · unfold byx rby; exact congrArg Int32.toInt (byx_k x 24 (by decide) _ (by decide +kernel) _ (by decide +kernel))
  · unfold byx rby; exact congrArg Int32.toInt (byx_k x 16 (by decide) _ (by decide +kernel) _ (by decide +kernel))
  · unfold byx rby; exact congrArg Int32.toInt (byx_k x 8 (by decide) _ (by decide +kernel) _ (by decide +kernel))
  · unfold byx rby; exact congrArg Int32.toInt (byx_k x 0 (by decide) _ (by decide +kernel) _ (by decide +kernel))
theorem rby_4 (x : Int) : (rby x 4 = rby x 0 ∧ rby x 8 = rby x 0 ∧ rby x 12 = rby x 0 ∧ rby x 16 = rby x 0) ∧ (rby x 5 = rby x 1 ∧ rby x 9 = rby x 1 ∧ rby x 13 = rby x 1 ∧ rby x 17 = rby x 1) ∧ (rby x 6 = rby x 2 ∧ rby x 10 = rby x 2 ∧ rby x 14 = rby x 2 ∧ rby x 18 = rby x 2) ∧ (rby x 7 = rby x 3 ∧ rby x 11 = rby x 3 ∧ rby x 15 = rby x 3 ∧ rby x 19 = rby x 3) := by
  have k : ∀ i j : Int, (iI i &&& iI 3) = (iI j &&& iI 3) → rby x i = rby x j := fun i j h => by unfold rby; rw [h]
  exact ⟨⟨k _ _ (by decide), k _ _ (by decide), k _ _ (by decide), k _ _ (by decide)⟩, ⟨k _ _ (by decide), k _ _ (by decide), k _ _ (by decide), k _ _ (by decide)⟩, ⟨k _ _ (by decide), k _ _ (by decide), k _ _ (by decide), k _ _ (by decide)⟩, ⟨k _ _ (by decide), k _ _ (by decide), k _ _ (by decide), k _ _ (by decide)⟩⟩
theorem fd_rfd (ss : Nat → Int) (n : Nat) (x1 x2 x3 x4 x5 : Int) : fd5 ss n x1 x2 x3 x4 x5 = rfd ss n x1 x2 x3 x4 x5 20 := by
  have s0 : bsel ((0 : Nat) : Int) x1 x2 x3 x4 x5 = x1 := by unfold bsel; rw [if_pos (by decide)]
  have r1 : rfd ss n x1 x2 x3 x4 x5 1 = (va_up ss (n + 0) (rby x1 0)) := by
    show va_up (rfd ss n x1 x2 x3 x4 x5 0) (n + 0) (rby (bsel ((0 : Nat) : Int) x1 x2 x3 x4 x5) ((0 : Nat) : Int)) = _
    (rw [s0]) <;> rfl
  have s1 : bsel ((1 : Nat) : Int) x1 x2 x3 x4 x5 = x1 := by unfold bsel; rw [if_pos (by decide)]
  have r2 : rfd ss n x1 x2 x3 x4 x5 2 = (va_up (va_up ss (n + 0) (rby x1 0)) (n + 1) (rby x1 1)) := by
    show va_up (rfd ss n x1 x2 x3 x4 x5 1) (n + 1) (rby (bsel ((1 : Nat) : Int) x1 x2 x3 x4 x5) ((1 : Nat) : Int)) = _
    (rw [s1, r1]) <;> rfl
  have s2 : bsel ((2 : Nat) : Int) x1 x2 x3 x4 x5 = x1 := by unfold bsel; rw [if_pos (by decide)]
  have r3 : rfd ss n x1 x2 x3 x4 x5 3 = (va_up (va_up (va_up ss (n + 0) (rby x1 0)) (n + 1) (rby x1 1)) (n + 2) (rby x1 2)) := by
    show va_up (rfd ss n x1 x2 x3 x4 x5 2) (n + 2) (rby (bsel ((2 : Nat) : Int) x1 x2 x3 x4 x5) ((2 : Nat) : Int)) = _
    (rw [s2, r2]) <;> rfl
  have s3 : bsel ((3 : Nat) : Int) x1 x2 x3 x4 x5 = x1 := by unfold bsel; rw [if_pos (by decide)]
  have r4 : rfd ss n x1 x2 x3 x4 x5 4 = (va_up (va_up (va_up (va_up ss (n + 0) (rby x1 0)) (n + 1) (rby x1 1)) (n + 2) (rby x1 2)) (n + 3) (rby x1 3)) := by
    show va_up (rfd ss n x1 x2 x3 x4 x5 3) (n + 3) (rby (bsel ((3 : Nat) : Int) x1 x2 x3 x4 x5) ((3 : Nat) : Int)) = _
    (rw [s3, r3]) <;> rfl
  have s4 : bsel ((4 : Nat) : Int) x1 x2 x3 x4 x5 = x2 := by unfold bsel; rw [if_neg (by decide), if_pos (by decide)]
  have r5 : rfd ss n x1 x2 x3 x4 x5 5 = (va_up (va_up (va_up (va_up (va_up ss (n + 0) (rby x1 0)) (n + 1) (rby x1 1)) (n + 2) (rby x1 2)) (n + 3) (rby x1 3)) (n + 4) (rby x2 4)) := by
    show va_up (rfd ss n x1 x2 x3 x4 x5 4) (n + 4) (rby (bsel ((4 : Nat) : Int) x1 x2 x3 x4 x5) ((4 : Nat) : Int)) = _
    (rw [s4, r4]) <;> rfl
  have s5 : bsel ((5 : Nat) : Int) x1 x2 x3 x4 x5 = x2 := by unfold bsel; rw [if_neg (by decide), if_pos (by decide)]
  have r6 : rfd ss n x1 x2 x3 x4 x5 6 = (va_up (va_up (va_up (va_up (va_up (va_up ss (n + 0) (rby x1 0)) (n + 1) (rby x1 1)) (n + 2) (rby x1 2)) (n + 3) (rby x1 3)) (n + 4) (rby x2 4)) (n + 5) (rby x2 5)) := by
    show va_up (rfd ss n x1 x2 x3 x4 x5 5) (n + 5) (rby (bsel ((5 : Nat) : Int) x1 x2 x3 x4 x5) ((5 : Nat) : Int)) = _
    (rw [s5, r5]) <;> rfl
  have s6 : bsel ((6 : Nat) : Int) x1 x2 x3 x4 x5 = x2 := by unfold bsel; rw [if_neg (by decide), if_pos (by decide)]
  have r7 : rfd ss n x1 x2 x3 x4 x5 7 = (va_up (va_up (va_up (va_up (va_up (va_up (va_up ss (n + 0) (rby x1 0)) (n + 1) (rby x1 1)) (n + 2) (rby x1 2)) (n + 3) (rby x1 3)) (n + 4) (rby x2 4)) (n + 5) (rby x2 5)) (n + 6) (rby x2 6)) := by
    show va_up (rfd ss n x1 x2 x3 x4 x5 6) (n + 6) (rby (bsel ((6 : Nat) : Int) x1 x2 x3 x4 x5) ((6 : Nat) : Int)) = _
    (rw [s6, r6]) <;> rfl
  have s7 : bsel ((7 : Nat) : Int) x1 x2 x3 x4 x5 = x2 := by unfold bsel; rw [if_neg (by decide), if_pos (by decide)]
  have r8 : rfd ss n x1 x2 x3 x4 x5 8 = (va_up (va_up (va_up (va_up (va_up (va_up (va_up (va_up ss (n + 0) (rby x1 0)) (n + 1) (rby x1 1)) (n + 2) (rby x1 2)) (n + 3) (rby x1 3)) (n + 4) (rby x2 4)) (n + 5) (rby x2 5)) (n + 6) (rby x2 6)) (n + 7) (rby x2 7)) := by
    show va_up (rfd ss n x1 x2 x3 x4 x5 7) (n + 7) (rby (bsel ((7 : Nat) : Int) x1 x2 x3 x4 x5) ((7 : Nat) : Int)) = _
    (rw [s7, r7]) <;> rfl
  have s8 : bsel ((8 : Nat) : Int) x1 x2 x3 x4 x5 = x3 := by unfold bsel; rw [if_neg (by decide), if_neg (by decide), if_pos (by decide)]
  have r9 : rfd ss n x1 x2 x3 x4 x5 9 = (va_up (va_up (va_up (va_up (va_up (va_up (va_up (va_up (va_up ss (n + 0) (rby x1 0)) (n + 1) (rby x1 1)) (n + 2) (rby x1 2)) (n + 3) (rby x1 3)) (n + 4) (rby x2 4)) (n + 5) (rby x2 5)) (n + 6) (rby x2 6)) (n + 7) (rby x2 7)) (n + 8) (rby x3 8)) := by
    show va_up (rfd ss n x1 x2 x3 x4 x5 8) (n + 8) (rby (bsel ((8 : Nat) : Int) x1 x2 x3 x4 x5) ((8 : Nat) : Int)) = _
    (rw [s8, r8]) <;> rfl
  have s9 : bsel ((9 : Nat) : Int) x1 x2 x3 x4 x5 = x3 := by unfold bsel; rw [if_neg (by decide), if_neg (by decide), if_pos (by decide)]
  have r10 : rfd ss n x1 x2 x3 x4 x5 10 = (va_up (va_up (va_up (va_up (va_up (va_up (va_up (va_up (va_up (va_up ss (n + 0) (rby x1 0)) (n + 1) (rby x1 1)) (n + 2) (rby x1 2)) (n + 3) (rby x1 3)) (n + 4) (rby x2 4)) (n + 5) (rby x2 5)) (n + 6) (rby x2 6)) (n + 7) (rby x2 7)) (n + 8) (rby x3 8)) (n + 9) (rby x3 9)) := by
    show va_up (rfd ss n x1 x2 x3 x4 x5 9) (n + 9) (rby (bsel ((9 : Nat) : Int) x1 x2 x3 x4 x5) ((9 : Nat) : Int)) = _
    (rw [s9, r9]) <;> rfl
  have s10 : bsel ((10 : Nat) : Int) x1 x2 x3 x4 x5 = x3 := by unfold bsel; rw [if_neg (by decide), if_neg (by decide), if_pos (by decide)]
  have r11 : rfd ss n x1 x2 x3 x4 x5 11 = (va_up (va_up (va_up (va_up (va_up (va_up (va_up (va_up (va_up (va_up (va_up ss (n + 0) (rby x1 0)) (n + 1) (rby x1 1)) (n + 2) (rby x1 2)) (n + 3) (rby x1 3)) (n + 4) (rby x2 4)) (n + 5) (rby x2 5)) (n + 6) (rby x2 6)) (n + 7) (rby x2 7)) (n + 8) (rby x3 8)) (n + 9) (rby x3 9)) (n + 10) (rby x3 10)) := by
    show va_up (rfd ss n x1 x2 x3 x4 x5 10) (n + 10) (rby (bsel ((10 : Nat) : Int) x1 x2 x3 x4 x5) ((10 : Nat) : Int)) = _
    (rw [s10, r10]) <;> rfl
  have s11 : bsel ((11 : Nat) : Int) x1 x2 x3 x4 x5 = x3 := by unfold bsel; rw [if_neg (by decide), if_neg (by decide), if_pos (by decide)]
  have r12 : rfd ss n x1 x2 x3 x4 x5 12 = (va_up (va_up (va_up (va_up (va_up (va_up (va_up (va_up (va_up (va_up (va_up (va_up ss (n + 0) (rby x1 0)) (n + 1) (rby x1 1)) (n + 2) (rby x1 2)) (n + 3) (rby x1 3)) (n + 4) (rby x2 4)) (n + 5) (rby x2 5)) (n + 6) (rby x2 6)) (n + 7) (rby x2 7)) (n + 8) (rby x3 8)) (n + 9) (rby x3 9)) (n + 10) (rby x3 10)) (n + 11) (rby x3 11)) := by
    show va_up (rfd ss n x1 x2 x3 x4 x5 11) (n + 11) (rby (bsel ((11 : Nat) : Int) x1 x2 x3 x4 x5) ((11 : Nat) : Int)) = _
    (rw [s11, r11]) <;> rfl
  have s12 : bsel ((12 : Nat) : Int) x1 x2 x3 x4 x5 = x4 := by unfold bsel; rw [if_neg (by decide), if_neg (by decide), if_neg (by decide), if_pos (by decide)]
  have r13 : rfd ss n x1 x2 x3 x4 x5 13 = (va_up (va_up (va_up (va_up (va_up (va_up (va_up (va_up (va_up (va_up (va_up (va_up (va_up ss (n + 0) (rby x1 0)) (n + 1) (rby x1 1)) (n + 2) (rby x1 2)) (n + 3) (rby x1 3)) (n + 4) (rby x2 4)) (n + 5) (rby x2 5)) (n + 6) (rby x2 6)) (n + 7) (rby x2 7)) (n + 8) (rby x3 8)) (n + 9) (rby x3 9)) (n + 10) (rby x3 10)) (n + 11) (rby x3 11)) (n + 12) (rby x4 12)) := by
    show va_up (rfd ss n x1 x2 x3 x4 x5 12) (n + 12) (rby (bsel ((12 : Nat) : Int) x1 x2 x3 x4 x5) ((12 : Nat) : Int)) = _
    (rw [s12, r12]) <;> rfl
  have s13 : bsel ((13 : Nat) : Int) x1 x2 x3 x4 x5 = x4 := by unfold bsel; rw [if_neg (by decide), if_neg (by decide), if_neg (by decide), if_pos (by decide)]
  have r14 : rfd ss n x1 x2 x3 x4 x5 14 = (va_up (va_up (va_up (va_up (va_up (va_up (va_up (va_up (va_up (va_up (va_up (va_up (va_up (va_up ss (n + 0) (rby x1 0)) (n + 1) (rby x1 1)) (n + 2) (rby x1 2)) (n + 3) (rby x1 3)) (n + 4) (rby x2 4)) (n + 5) (rby x2 5)) (n + 6) (rby x2 6)) (n + 7) (rby x2 7)) (n + 8) (rby x3 8)) (n + 9) (rby x3 9)) (n + 10) (rby x3 10)) (n + 11) (rby x3 11)) (n + 12) (rby x4 12)) (n + 13) (rby x4 13)) := by
    show va_up (rfd ss n x1 x2 x3 x4 x5 13) (n + 13) (rby (bsel ((13 : Nat) : Int) x1 x2 x3 x4 x5) ((13 : Nat) : Int)) = _
    (rw [s13, r13]) <;> rfl
  have s14 : bsel ((14 : Nat) : Int) x1 x2 x3 x4 x5 = x4 := by unfold bsel; rw [if_neg (by decide), if_neg (by decide), if_neg (by decide), if_pos (by decide)]
  have r15 : rfd ss n x1 x2 x3 x4 x5 15 = (va_up (va_up (va_up (va_up (va_up (va_up (va_up (va_up (va_up (va_up (va_up (va_up (va_up (va_up (va_up ss (n + 0) (rby x1 0)) (n + 1) (rby x1 1)) (n + 2) (rby x1 2)) (n + 3) (rby x1 3)) (n + 4) (rby x2 4)) (n + 5) (rby x2 5)) (n + 6) (rby x2 6)) (n + 7) (rby x2 7)) (n + 8) (rby x3 8)) (n + 9) (rby x3 9)) (n + 10) (rby x3 10)) (n + 11) (rby x3 11)) (n + 12) (rby x4 12)) (n + 13) (rby x4 13)) (n + 14) (rby x4 14)) := by
    show va_up (rfd ss n x1 x2 x3 x4 x5 14) (n + 14) (rby (bsel ((14 : Nat) : Int) x1 x2 x3 x4 x5) ((14 : Nat) : Int)) = _
    (rw [s14, r14]) <;> rfl
  have s15 : bsel ((15 : Nat) : Int) x1 x2 x3 x4 x5 = x4 := by unfold bsel; rw [if_neg (by decide), if_neg (by decide), if_neg (by decide), if_pos (by decide)]
  have r16 : rfd ss n x1 x2 x3 x4 x5 16 = (va_up (va_up (va_up (va_up (va_up (va_up (va_up (va_up (va_up (va_up (va_up (va_up (va_up (va_up (va_up (va_up ss (n + 0) (rby x1 0)) (n + 1) (rby x1 1)) (n + 2) (rby x1 2)) (n + 3) (rby x1 3)) (n + 4) (rby x2 4)) (n + 5) (rby x2 5)) (n + 6) (rby x2 6)) (n + 7) (rby x2 7)) (n + 8) (rby x3 8)) (n + 9) (rby x3 9)) (n + 10) (rby x3 10)) (n + 11) (rby x3 11)) (n + 12) (rby x4 12)) (n + 13) (rby x4 13)) (n + 14) (rby x4 14)) (n + 15) (rby x4 15)) := by
    show va_up (rfd ss n x1 x2 x3 x4 x5 15) (n + 15) (rby (bsel ((15 : Nat) : Int) x1 x2 x3 x4 x5) ((15 : Nat) : Int)) = _
    (rw [s15, r15]) <;> rfl
  have s16 : bsel ((16 : Nat) : Int) x1 x2 x3 x4 x5 = x5 := by unfold bsel; rw [if_neg (by decide), if_neg (by decide), if_neg (by decide), if_neg (by decide)]
  have r17 : rfd ss n x1 x2 x3 x4 x5 17 = (va_up (va_up (va_up (va_up (va_up (va_up (va_up (va_up (va_up (va_up (va_up (va_up (va_up (va_up (va_up (va_up (va_up ss (n + 0) (rby x1 0)) (n + 1) (rby x1 1)) (n + 2) (rby x1 2)) (n + 3) (rby x1 3)) (n + 4) (rby x2 4)) (n + 5) (rby x2 5)) (n + 6) (rby x2 6)) (n + 7) (rby x2 7)) (n + 8) (rby x3 8)) (n + 9) (rby x3 9)) (n + 10) (rby x3 10)) (n + 11) (rby x3 11)) (n + 12) (rby x4 12)) (n + 13) (rby x4 13)) (n + 14) (rby x4 14)) (n + 15) (rby x4 15)) (n + 16) (rby x5 16)) := by
    show va_up (rfd ss n x1 x2 x3 x4 x5 16) (n + 16) (rby (bsel ((16 : Nat) : Int) x1 x2 x3 x4 x5) ((16 : Nat) : Int)) = _
    (rw [s16, r16]) <;> rfl
  have s17 : bsel ((17 : Nat) : Int) x1 x2 x3 x4 x5 = x5 := by unfold bsel; rw [if_neg (by decide), if_neg (by decide), if_neg (by decide), if_neg (by decide)]
  have r18 : rfd ss n x1 x2 x3 x4 x5 18 = (va_up (va_up (va_up (va_up (va_up (va_up (va_up (va_up (va_up (va_up (va_up (va_up (va_up (va_up (va_up (va_up (va_up (va_up ss (n + 0) (rby x1 0)) (n + 1) (rby x1 1)) (n + 2) (rby x1 2)) (n + 3) (rby x1 3)) (n + 4) (rby x2 4)) (n + 5) (rby x2 5)) (n + 6) (rby x2 6)) (n + 7) (rby x2 7)) (n + 8) (rby x3 8)) (n + 9) (rby x3 9)) (n + 10) (rby x3 10)) (n + 11) (rby x3 11)) (n + 12) (rby x4 12)) (n + 13) (rby x4 13)) (n + 14) (rby x4 14)) (n + 15) (rby x4 15)) (n + 16) (rby x5 16)) (n + 17) (rby x5 17)) := by
    show va_up (rfd ss n x1 x2 x3 x4 x5 17) (n + 17) (rby (bsel ((17 : Nat) : Int) x1 x2 x3 x4 x5) ((17 : Nat) : Int)) = _
    (rw [s17, r17]) <;> rfl
  have s18 : bsel ((18 : Nat) : Int) x1 x2 x3 x4 x5 = x5 := by unfold bsel; rw [if_neg (by decide), if_neg (by decide), if_neg (by decide), if_neg (by decide)]
  have r19 : rfd ss n x1 x2 x3 x4 x5 19 = (va_up (va_up (va_up (va_up (va_up (va_up (va_up (va_up (va_up (va_up (va_up (va_up (va_up (va_up (va_up (va_up (va_up (va_up (va_up ss (n + 0) (rby x1 0)) (n + 1) (rby x1 1)) (n + 2) (rby x1 2)) (n + 3) (rby x1 3)) (n + 4) (rby x2 4)) (n + 5) (rby x2 5)) (n + 6) (rby x2 6)) (n + 7) (rby x2 7)) (n + 8) (rby x3 8)) (n + 9) (rby x3 9)) (n + 10) (rby x3 10)) (n + 11) (rby x3 11)) (n + 12) (rby x4 12)) (n + 13) (rby x4 13)) (n + 14) (rby x4 14)) (n + 15) (rby x4 15)) (n + 16) (rby x5 16)) (n + 17) (rby x5 17)) (n + 18) (rby x5 18)) := by
    show va_up (rfd ss n x1 x2 x3 x4 x5 18) (n + 18) (rby (bsel ((18 : Nat) : Int) x1 x2 x3 x4 x5) ((18 : Nat) : Int)) = _
    (rw [s18, r18]) <;> rfl
  have s19 : bsel ((19 : Nat) : Int) x1 x2 x3 x4 x5 = x5 := by unfold bsel; rw [if_neg (by decide), if_neg (by decide), if_neg (by decide), if_neg (by decide)]
  have r20 : rfd ss n x1 x2 x3 x4 x5 20 = (va_up (va_up (va_up (va_up (va_up (va_up (va_up (va_up (va_up (va_up (va_up (va_up (va_up (va_up (va_up (va_up (va_up (va_up (va_up (va_up ss (n + 0) (rby x1 0)) (n + 1) (rby x1 1)) (n + 2) (rby x1 2)) (n + 3) (rby x1 3)) (n + 4) (rby x2 4)) (n + 5) (rby x2 5)) (n + 6) (rby x2 6)) (n + 7) (rby x2 7)) (n + 8) (rby x3 8)) (n + 9) (rby x3 9)) (n + 10) (rby x3 10)) (n + 11) (rby x3 11)) (n + 12) (rby x4 12)) (n + 13) (rby x4 13)) (n + 14) (rby x4 14)) (n + 15) (rby x4 15)) (n + 16) (rby x5 16)) (n + 17) (rby x5 17)) (n + 18) (rby x5 18)) (n + 19) (rby x5 19)) := by
    show va_up (rfd ss n x1 x2 x3 x4 x5 19) (n + 19) (rby (bsel ((19 : Nat) : Int) x1 x2 x3 x4 x5) ((19 : Nat) : Int)) = _
    (rw [s19, r19]) <;> rfl
  obtain ⟨y10, y11, y12, y13⟩ := byx_r x1
  obtain ⟨y20, y21, y22, y23⟩ := byx_r x2
  obtain ⟨y30, y31, y32, y33⟩ := byx_r x3
  obtain ⟨y40, y41, y42, y43⟩ := byx_r x4
  obtain ⟨y50, y51, y52, y53⟩ := byx_r x5
  obtain ⟨⟨f4, _, _, _⟩, ⟨f5, _, _, _⟩, ⟨f6, _, _, _⟩, ⟨f7, _, _, _⟩⟩ := rby_4 x2
  obtain ⟨⟨_, f8, _, _⟩, ⟨_, f9, _, _⟩, ⟨_, f10, _, _⟩, ⟨_, f11, _, _⟩⟩ := rby_4 x3
  obtain ⟨⟨_, _, f12, _⟩, ⟨_, _, f13, _⟩, ⟨_, _, f14, _⟩, ⟨_, _, f15, _⟩⟩ := rby_4 x4
  obtain ⟨⟨_, _, _, f16⟩, ⟨_, _, _, f17⟩, ⟨_, _, _, f18⟩, ⟨_, _, _, f19⟩⟩ := rby_4 x5
  have lh : fd5 ss n x1 x2 x3 x4 x5 = (va_up (va_up (va_up (va_up (va_up (va_up (va_up (va_up (va_up (va_up (va_up (va_up (va_up (va_up (va_up (va_up (va_up (va_up (va_up (va_up ss (n + 0) (byx x1 0)) (n + 1) (byx x1 1)) (n + 2) (byx x1 2)) (n + 3) (byx x1 3)) (n + 4) (byx x2 0)) (n + 5) (byx x2 1)) (n + 6) (byx x2 2)) (n + 7) (byx x2 3)) (n + 8) (byx x3 0)) (n + 9) (byx x3 1)) (n + 10) (byx x3 2)) (n + 11) (byx x3 3)) (n + 12) (byx x4 0)) (n + 13) (byx x4 1)) (n + 14) (byx x4 2)) (n + 15) (byx x4 3)) (n + 16) (byx x5 0)) (n + 17) (byx x5 1)) (n + 18) (byx x5 2)) (n + 19) (byx x5 3)) := rfl
  rw [lh, r20, f4, f5, f6, f7, f8, f9, f10, f11, f12, f13, f14, f15, f16, f17, f18, f19, y10, y11, y12, y13, y20, y21, y22, y23, y30, y31, y32, y33, y40, y41, y42, y43, y50, y51, y52, y53]
def REL (h0 : Nat) (sk : Nat → Nat) (_L : List Nat) (_cl ln : Nat → Nat) (iv : Nat → Nat → Int) (rv : Nat → Nat → Option Nat) (v : Nat → Int) (a : Nat → Nat → Int) : Prop := (iI (iv h0 14) = iI (v 56) ∧ iv h0 11 = v 31 ∧ iv h0 12 = v 32 ∧ iv h0 13 = v 33) ∧ (iv (sk 2) 2 = v 3 ∧ CT iv rv (sk 2) (a 2)) ∧ (iv (sk 3) 2 = v 30 ∧ CT iv rv (sk 3) (a 29)) ∧ TABR sk iv rv v a ∧ (∃ o, RP2 o sk ln iv rv v a) ∧ SEC v a
theorem sec_keep {v v2 : Nat → Int} {a a2 : Nat → Nat → Int} (h : SEC v a) (h4 : v2 4 ≤ v 4) (h6 : a2 6 = a 6) (h9 : a2 9 = a 9) : SEC v2 a2 := fun i hi => by rw [h6, h9]; exact h i (by omega)
theorem sec_same {v v2 : Nat → Int} {a a2 : Nat → Nat → Int} (h : SEC v a) (hq : TSAME v a v2 a2) : SEC v2 a2 := by
  obtain ⟨q4, q5, q6, q7, q10, q19, q18, q11, q8, q9, -⟩ := hq
  exact sec_keep h (Int.le_of_eq q4) q6 q9
theorem sec_new {k s : Int} {v v2 : Nat → Int} {a a2 : Nat → Nat → Int} (h : SEC v a) (h0 : 0 ≤ v 4) (q1 : v2 4 = v 4 + 1) (q3 : a2 6 = va_up (a 6) (v 4).toNat k) (q9 : a2 9 = va_up (a 9) (v 4).toNat s) (hs : k ≠ 5 → s = -1) : SEC v2 a2 := by
  intro i hi
  rw [q3, q9]
  by_cases e : i = (v 4).toNat
  · rw [e, va_up_self, va_up_self]; exact hs
  · rw [va_up_ne _ _ e, va_up_ne _ _ e]; exact h i (by omega)
theorem tbl_sec {x y i : Int} {f2 : Int} {v v2 : Nat → Int} {a a2 : Nat → Nat → Int} (h : SEC v a) (h0 : 0 ≤ v 4) (hq : ((f2 = -1 ∧ TSAME v a v2 a2 ∧ ¬ (0 ≤ x ∧ x ≤ 4 ∧ (y = 6 ∨ y = 8) ∧ v 4 ≠ 30 ∧ (x < 1 ∨ 3 < x ∨ (0 ≤ i ∧ i < v 4 ∧ a 5 i.toNat = 1 ∧ a 6 i.toNat ≤ 3)))) ∨ (f2 = v 4 ∧ (0 ≤ x ∧ x ≤ 4 ∧ (y = 6 ∨ y = 8) ∧ v 4 ≠ 30 ∧ (x < 1 ∨ 3 < x ∨ (0 ≤ i ∧ i < v 4 ∧ a 5 i.toNat = 1 ∧ a 6 i.toNat ≤ 3))) ∧ TNEW x y (if x < 1 ∨ 3 < x then -1 else i) (-1) v a v2 a2))) : SEC v2 a2 := by
  rcases hq with ⟨-, q, -⟩ | ⟨-, -, ⟨q1, q2, q3, q4, q5, q6, q7, q8, q9, -⟩⟩
  · exact sec_same h q
  · exact sec_new h h0 q1 q3 q9 (fun _ => rfl)
theorem joi_sec {i j : Int} {f2 : Int} {v v2 : Nat → Int} {a a2 : Nat → Nat → Int} (h : SEC v a) (h0 : 0 ≤ v 4) (hq : ((f2 = -1 ∧ TSAME v a v2 a2 ∧ ¬ (0 ≤ i ∧ i < v 4 ∧ a 5 i.toNat = 1 ∧ a 6 i.toNat ≤ 3 ∧ 0 ≤ j ∧ j < v 4 ∧ a 5 j.toNat = 1 ∧ a 6 j.toNat ≤ 3 ∧ v 4 ≠ 30)) ∨ (f2 = v 4 ∧ (0 ≤ i ∧ i < v 4 ∧ a 5 i.toNat = 1 ∧ a 6 i.toNat ≤ 3 ∧ 0 ≤ j ∧ j < v 4 ∧ a 5 j.toNat = 1 ∧ a 6 j.toNat ≤ 3 ∧ v 4 ≠ 30) ∧ TNEW 5 (max (a 7 i.toNat) (a 7 j.toNat)) i j v a v2 a2))) : SEC v2 a2 := by
  rcases hq with ⟨-, q, -⟩ | ⟨-, -, ⟨q1, q2, q3, q4, q5, q6, q7, q8, q9, -⟩⟩
  · exact sec_same h q
  · exact sec_new h h0 q1 q3 q9 (fun e => absurd rfl e)
theorem drp_sec {i : Int} {f2 : Int} {v v2 : Nat → Int} {a a2 : Nat → Nat → Int} (h : SEC v a) (h0 : 0 ≤ v 4) (hq : ((f2 = -1 ∧ TSAME v a v2 a2 ∧ ¬ (0 ≤ i ∧ i < v 4 ∧ a 5 i.toNat = 1)) ∨ (f2 = 1 ∧ (0 ≤ i ∧ i < v 4 ∧ a 5 i.toNat = 1) ∧ TDRP i v a v2 a2))) : SEC v2 a2 := by
  rcases hq with ⟨-, q, -⟩ | ⟨-, -, ⟨q4, q5, q6, q7, q10, qs, q11, q8, q9, -⟩⟩
  · exact sec_same h q
  · exact sec_keep h (Int.le_of_eq q4) q6 q9
theorem rul_sec {i x n : Int} {f2 : Int} {v v2 : Nat → Int} {a a2 : Nat → Nat → Int} (h : SEC v a) (h0 : 0 ≤ v 4) (hq : ((f2 = -1 ∧ TSAME v a v2 a2 ∧ ¬ ((0 ≤ i ∧ i < v 4 ∧ a 5 i.toNat = 1 ∧ a 6 i.toNat ≠ 5 ∧ 0 ≤ x ∧ x ≤ 5 ∧ 1 ≤ n ∧ n ≤ 8 ∧ 1 ≤ v 3 - n ∧ v 3 - n ≤ 4 ∧ a 10 i.toNat ≠ 200) ∧ ACL (a 2) n (v 3 - n) (DC (a 7 i.toNat)) ∧ LTK (a 2) n)) ∨ (f2 = a 10 i.toNat ∧ ((0 ≤ i ∧ i < v 4 ∧ a 5 i.toNat = 1 ∧ a 6 i.toNat ≠ 5 ∧ 0 ≤ x ∧ x ≤ 5 ∧ 1 ≤ n ∧ n ≤ 8 ∧ 1 ≤ v 3 - n ∧ v 3 - n ≤ 4 ∧ a 10 i.toNat ≠ 200) ∧ ACL (a 2) n (v 3 - n) (DC (a 7 i.toNat)) ∧ LTK (a 2) n) ∧ TRUL i x n v a v2 a2))) : SEC v2 a2 := by
  rcases hq with ⟨-, q, -⟩ | ⟨-, -, ⟨q4, q5, q6, q7, q10, qs, q11, q8, q9, -⟩⟩
  · exact sec_same h q
  · exact sec_keep h (Int.le_of_eq q4) q6 q9
theorem ind_sec {i x : Int} {f2 : Int} {v v2 : Nat → Int} {a a2 : Nat → Nat → Int} (h : SEC v a) (h0 : 0 ≤ v 4) (hq : ((f2 = -1 ∧ TSAME v a v2 a2 ∧ ¬ ((0 ≤ x ∧ x ≤ 3 ∧ 0 ≤ i ∧ i < v 4 ∧ a 5 i.toNat = 1 ∧ ((x = 0 ∧ a 6 i.toNat ≤ 2) ∨ (x = 1 ∧ a 6 i.toNat = 2) ∨ (x ≠ 0 ∧ x ≠ 1 ∧ a 6 i.toNat = 5)) ∧ v 3 ≤ 4) ∧ ACL (a 2) 0 (v 3) (DC (a 7 i.toNat)) ∧ True)) ∨ (f2 = v 3 ∧ ((0 ≤ x ∧ x ≤ 3 ∧ 0 ≤ i ∧ i < v 4 ∧ a 5 i.toNat = 1 ∧ ((x = 0 ∧ a 6 i.toNat ≤ 2) ∨ (x = 1 ∧ a 6 i.toNat = 2) ∨ (x ≠ 0 ∧ x ≠ 1 ∧ a 6 i.toNat = 5)) ∧ v 3 ≤ 4) ∧ ACL (a 2) 0 (v 3) (DC (a 7 i.toNat)) ∧ True) ∧ TIND i x v a v2 a2))) : SEC v2 a2 := by
  rcases hq with ⟨-, q, -⟩ | ⟨-, -, ⟨⟨q4, q5, q6, -⟩, q11, q8, q9, -⟩⟩
  · exact sec_same h q
  · exact sec_keep h (Int.le_of_eq q4) q6 q9
theorem und_sec  {f2 : Int} {v v2 : Nat → Int} {a a2 : Nat → Nat → Int} (h : SEC v a) (h0 : 0 ≤ v 4) (hq : (∃ ln, STK ln v a) ∧ (∃ ln, STK ln v2 a2) ∧ ((v 19 = 0 ∧ f2 = 0 ∧ TSAME v a v2 a2) ∨ (v 19 ≠ 0 ∧ f2 = 1 ∧ TUND v a v2 a2))) : SEC v2 a2 := by
  rcases hq.2.2 with ⟨-, -, q⟩ | ⟨-, -, ⟨q19, q18, q6, q7, ⟨q8, q9, -⟩, q5⟩⟩
  · exact sec_same h q
  · exact sec_keep h (by rcases q5 with q | q | q | q | q <;> omega) q6 q9
theorem cnd_sec {i r x : Int} {f2 : Int} {v v2 : Nat → Int} {a a2 : Nat → Nat → Int} (h : SEC v a) (h0 : 0 ≤ v 4) (hq : ((f2 = -1 ∧ TSAME v a v2 a2 ∧ ¬ (0 ≤ i ∧ i < v 4 ∧ a 5 i.toNat = 1 ∧ a 6 i.toNat ≠ 5 ∧ 0 ≤ r ∧ r < a 10 i.toNat ∧ 0 ≤ x ∧ x ≤ 5)) ∨ (f2 = a 11 (200 * i + r).toNat ∧ (0 ≤ i ∧ i < v 4 ∧ a 5 i.toNat = 1 ∧ a 6 i.toNat ≠ 5 ∧ 0 ≤ r ∧ r < a 10 i.toNat ∧ 0 ≤ x ∧ x ≤ 5) ∧ TCND i r x v a v2 a2))) : SEC v2 a2 := by
  rcases hq with ⟨-, q, -⟩ | ⟨-, -, ⟨⟨q4, q5, q6, -⟩, q11, q8, q9, -⟩⟩
  · exact sec_same h q
  · exact sec_keep h (Int.le_of_eq q4) q6 q9
section RELS
variable {h0 : Nat} {L L2 : List Nat} {cl ln cl2 ln2 sk : Nat → Nat} {iv iv2 : Nat → Nat → Int} {rv rv2 : Nat → Nat → Option Nat} {v v2 : Nat → Int} {a a2 : Nat → Nat → Int}
theorem fd_keep (hr : iI (iv h0 14) = iI (v 56) ∧ iv h0 11 = v 31 ∧ iv h0 12 = v 32 ∧ iv h0 13 = v 33) (hp : iv2 h0 14 = iv h0 14 ∧ iv2 h0 11 = iv h0 11 ∧ iv2 h0 12 = iv h0 12 ∧ iv2 h0 13 = iv h0 13) (hq : v2 56 = v 56 ∧ v2 31 = v 31 ∧ v2 32 = v 32 ∧ v2 33 = v 33) : iI (iv2 h0 14) = iI (v2 56) ∧ iv2 h0 11 = v2 31 ∧ iv2 h0 12 = v2 32 ∧ iv2 h0 13 = v2 33 := ⟨by rw [hp.1, hq.1]; exact hr.1, by have h1 := hr.2; have h2 := hp.2; have h3 := hq.2; omega⟩
theorem tx_keep (hr : iv (sk 3) 2 = v 30 ∧ CT iv rv (sk 3) (a 29)) (hp : iv2 (sk 3) 2 = iv (sk 3) 2 ∧ (∀ tt, CT iv rv (sk 3) tt → CT iv2 rv2 (sk 3) tt)) (hq : v2 30 = v 30 ∧ a2 29 = a 29) : iv2 (sk 3) 2 = v2 30 ∧ CT iv2 rv2 (sk 3) (a2 29) := ⟨by have h1 := hr.1; have h2 := hp.1; have h3 := hq.1; omega, by rw [hq.2]; exact hp.2 _ hr.2⟩
theorem tp_keep (hr : iv (sk 2) 2 = v 3 ∧ CT iv rv (sk 2) (a 2)) (hp : (iv2 (sk 2) 2 = iv (sk 2) 2 ∧ (∀ ss, CT iv rv (sk 2) ss → CT iv2 rv2 (sk 2) ss))) (hq : (v2 3 = v 3 ∧ a2 2 = a 2)) : iv2 (sk 2) 2 = v2 3 ∧ CT iv2 rv2 (sk 2) (a2 2) := ⟨by omega, by rw [hq.2]; exact hp.2 _ hr.2⟩
theorem rel_keep {P1 P2 : Prop} (hr : REL h0 sk L cl ln iv rv v a) (hp : P1 ∧ (iv2 h0 14 = iv h0 14 ∧ iv2 h0 11 = iv h0 11 ∧ iv2 h0 12 = iv h0 12 ∧ iv2 h0 13 = iv h0 13) ∧ ((iv2 (sk 2) 2 = iv (sk 2) 2 ∧ (∀ ss, CT iv rv (sk 2) ss → CT iv2 rv2 (sk 2) ss))) ∧ (iv2 (sk 3) 2 = iv (sk 3) 2 ∧ (∀ tt, CT iv rv (sk 3) tt → CT iv2 rv2 (sk 3) tt)) ∧ (PSAME sk iv rv iv2 rv2) ∧ (∃ g, WT g sk L cl ln iv rv ∧ WT g sk L2 cl2 ln2 iv2 rv2) ∧ SKL sk L cl ∧ XT L cl ln L2 cl2 ln2 ∧ (KP L cl (fun _ => False) (fun _ => False) (fun _ => False) (fun _ => False) (fun _ _ => False) iv rv iv2 rv2)) (hq : P2 ∧ (v2 56 = v 56 ∧ v2 31 = v 31 ∧ v2 32 = v 32 ∧ v2 33 = v 33) ∧ ((v2 3 = v 3 ∧ a2 2 = a 2)) ∧ (v2 30 = v 30 ∧ a2 29 = a 29) ∧ (TSAME v a v2 a2)) : REL h0 sk L2 cl2 ln2 iv2 rv2 v2 a2 := ⟨fd_keep hr.1 hp.2.1 hq.2.1, tp_keep hr.2.1 hp.2.2.1 hq.2.2.1, tx_keep hr.2.2.1 hp.2.2.2.1 hq.2.2.2.1, tab_same hr.2.2.2.1 hp.2.2.2.2.1 hq.2.2.2.2, rps_same ⟨hr.2.2.2.1, hr.2.2.2.2.1⟩ hp.2.2.2.2 hq.2.2.2.2, sec_same hr.2.2.2.2.2 hq.2.2.2.2⟩
theorem rel_zero {P1 P2 : Prop} (hr : REL h0 sk L cl ln iv rv v a) (hp : P1 ∧ (iv2 h0 14 = iv h0 14 ∧ iv2 h0 11 = iv h0 11 ∧ iv2 h0 12 = iv h0 12 ∧ iv2 h0 13 = iv h0 13) ∧ (iv2 (sk 2) 2 = 0) ∧ (iv2 (sk 3) 2 = iv (sk 3) 2 ∧ (∀ tt, CT iv rv (sk 3) tt → CT iv2 rv2 (sk 3) tt)) ∧ (PSAME sk iv rv iv2 rv2) ∧ (∃ g, WT g sk L cl ln iv rv ∧ WT g sk L2 cl2 ln2 iv2 rv2) ∧ SKL sk L cl ∧ XT L cl ln L2 cl2 ln2 ∧ (KP L cl (fun _ => False) (fun _ => False) (fun _ => False) (fun _ => False) (fun _ _ => False) iv rv iv2 rv2)) (hq : P2 ∧ (v2 56 = v 56 ∧ v2 31 = v 31 ∧ v2 32 = v 32 ∧ v2 33 = v 33) ∧ (v2 3 = 0) ∧ (v2 30 = v 30 ∧ a2 29 = a 29) ∧ (TSAME v a v2 a2)) : REL h0 sk L2 cl2 ln2 iv2 rv2 v2 a2 := ⟨fd_keep hr.1 hp.2.1 hq.2.1, ⟨by have h2 := hp.2.2.1; have h3 := hq.2.2.1; omega, CT.zero hp.2.2.1⟩, tx_keep hr.2.2.1 hp.2.2.2.1 hq.2.2.2.1, tab_same hr.2.2.2.1 hp.2.2.2.2.1 hq.2.2.2.2, rps_same ⟨hr.2.2.2.1, hr.2.2.2.2.1⟩ hp.2.2.2.2 hq.2.2.2.2, sec_same hr.2.2.2.2.2 hq.2.2.2.2⟩
theorem rel_feed {P1 P2 : Prop} {x1 x2 x3 x4 x5 f1 f2 : Int} (hr : REL h0 sk L cl ln iv rv v a) (hp : P1 ∧ (iv2 h0 14 = iv h0 14 ∧ iv2 h0 11 = iv h0 11 ∧ iv2 h0 12 = iv h0 12 ∧ iv2 h0 13 = iv h0 13) ∧ (((f1 = -1 ∧ 3000 < iv (sk 2) 2 + 20 ∧ iv2 (sk 2) 2 = iv (sk 2) 2) ∨ (f1 = iv2 (sk 2) 2 ∧ iv2 (sk 2) 2 = iv (sk 2) 2 + 20 ∧ iv (sk 2) 2 ≤ 2980)) ∧ ∀ ss, CT iv rv (sk 2) ss → (iv (sk 2) 2 ≤ 2980 → CT iv2 rv2 (sk 2) (fd5 ss (iv (sk 2) 2).toNat x1 x2 x3 x4 x5)) ∧ (2980 < iv (sk 2) 2 → CT iv2 rv2 (sk 2) ss)) ∧ (iv2 (sk 3) 2 = iv (sk 3) 2 ∧ (∀ tt, CT iv rv (sk 3) tt → CT iv2 rv2 (sk 3) tt)) ∧ (PSAME sk iv rv iv2 rv2) ∧ (∃ g, WT g sk L cl ln iv rv ∧ WT g sk L2 cl2 ln2 iv2 rv2) ∧ SKL sk L cl ∧ XT L cl ln L2 cl2 ln2 ∧ (KP L cl (fun _ => False) (fun _ => False) (fun _ => False) (fun _ => False) (fun _ _ => False) iv rv iv2 rv2)) (hq : P2 ∧ (v2 56 = v 56 ∧ v2 31 = v 31 ∧ v2 32 = v 32 ∧ v2 33 = v 33) ∧ ((f2 = -1 ∧ v2 3 = v 3 ∧ 2980 < v 3 ∧ a2 2 = a 2) ∨ (f2 = v 3 + 20 ∧ v2 3 = v 3 + 20 ∧ v 3 ≤ 2980 ∧ a2 2 = rfd (a 2) (v 3).toNat x1 x2 x3 x4 x5 20)) ∧ (v2 30 = v 30 ∧ a2 29 = a 29) ∧ (TSAME v a v2 a2)) : REL h0 sk L2 cl2 ln2 iv2 rv2 v2 a2 := by
  refine ⟨fd_keep hr.1 hp.2.1 hq.2.1, ?_, tx_keep hr.2.2.1 hp.2.2.2.1 hq.2.2.2.1, tab_same hr.2.2.2.1 hp.2.2.2.2.1 hq.2.2.2.2, rps_same ⟨hr.2.2.2.1, hr.2.2.2.2.1⟩ hp.2.2.2.2 hq.2.2.2.2, sec_same hr.2.2.2.2.2 hq.2.2.2.2⟩
  have h1 := hr.2.1.1; have h2 := hp.2.2.1.1; have h4 := hp.2.2.1.2 _ hr.2.1.2
  rcases hq.2.2.1 with ⟨g1, g2, g3, g4⟩ | ⟨g1, g2, g3, g4⟩
  · exact ⟨by omega, by rw [g4]; exact h4.2 (by omega)⟩
  · refine ⟨by omega, ?_⟩
    have h5 := h4.1 (by omega)
    rw [h1, fd_rfd] at h5
    rw [g4]; exact h5
theorem rel_end {n : Int} {P1 P2 : Prop} {f1 f2 : Int} (hr : REL h0 sk L cl ln iv rv v a) (hp : P1 ∧ (iv2 h0 14 = iv h0 14 ∧ iv2 h0 11 = iv h0 11 ∧ iv2 h0 12 = iv h0 12 ∧ iv2 h0 13 = iv h0 13) ∧ (((f1 = -1 ∧ iv2 (sk 2) 2 = iv (sk 2) 2 ∧ (n < 0 ∨ iv (sk 2) 2 < n)) ∨ (f1 = n ∧ iv2 (sk 2) 2 = n ∧ 0 ≤ n ∧ n ≤ iv (sk 2) 2)) ∧ (∀ ss, CT iv rv (sk 2) ss → CT iv2 rv2 (sk 2) ss)) ∧ (iv2 (sk 3) 2 = iv (sk 3) 2 ∧ (∀ tt, CT iv rv (sk 3) tt → CT iv2 rv2 (sk 3) tt)) ∧ (PSAME sk iv rv iv2 rv2) ∧ (∃ g, WT g sk L cl ln iv rv ∧ WT g sk L2 cl2 ln2 iv2 rv2) ∧ SKL sk L cl ∧ XT L cl ln L2 cl2 ln2 ∧ (KP L cl (fun _ => False) (fun _ => False) (fun _ => False) (fun _ => False) (fun _ _ => False) iv rv iv2 rv2)) (hq : P2 ∧ (v2 56 = v 56 ∧ v2 31 = v 31 ∧ v2 32 = v 32 ∧ v2 33 = v 33) ∧ (((f2 = -1 ∧ v2 3 = v 3 ∧ (n < 0 ∨ v 3 < n)) ∨ (f2 = n ∧ v2 3 = n ∧ 0 ≤ n ∧ n ≤ v 3)) ∧ a2 2 = a 2) ∧ (v2 30 = v 30 ∧ a2 29 = a 29) ∧ (TSAME v a v2 a2)) : REL h0 sk L2 cl2 ln2 iv2 rv2 v2 a2 := ⟨fd_keep hr.1 hp.2.1 hq.2.1, ⟨by have h1 := hr.2.1.1; have h2 := hp.2.2.1.1; have h3 := hq.2.2.1.1; omega, by rw [hq.2.2.1.2]; exact hp.2.2.1.2 _ hr.2.1.2⟩, tx_keep hr.2.2.1 hp.2.2.2.1 hq.2.2.2.1, tab_same hr.2.2.2.1 hp.2.2.2.2.1 hq.2.2.2.2, rps_same ⟨hr.2.2.2.1, hr.2.2.2.2.1⟩ hp.2.2.2.2 hq.2.2.2.2, sec_same hr.2.2.2.2.2 hq.2.2.2.2⟩
theorem tx_both {f1 f2 : Int} (hr : REL h0 sk L cl ln iv rv v a) (hp : (∀ ss, CT iv rv (sk 2) ss → ((f1 = -1 ∧ iv2 (sk 3) 2 = iv (sk 3) 2 ∧ ¬ (TOK ss (iv (sk 2) 2) ∧ iv (sk 3) 2 + iv (sk 2) 2 ≤ 500)) ∨ (f1 = iv2 (sk 3) 2 ∧ TOK ss (iv (sk 2) 2) ∧ iv (sk 3) 2 + iv (sk 2) 2 ≤ 500 ∧ ((iv (sk 2) 2 = 0 ∧ iv2 (sk 3) 2 = 0) ∨ (iv (sk 2) 2 ≠ 0 ∧ iv2 (sk 3) 2 = iv (sk 3) 2 + iv (sk 2) 2))))) ∧ (∀ ss tt, CT iv rv (sk 2) ss → CT iv rv (sk 3) tt → (f1 = -1 → CT iv2 rv2 (sk 3) tt) ∧ (f1 ≠ -1 → CT iv2 rv2 (sk 3) (apd tt (iv (sk 3) 2).toNat ss)))) (hq : (((f2 = -1 ∧ v2 30 = v 30 ∧ ¬ (TOK (a 2) (v 3) ∧ v 30 + v 3 ≤ 500)) ∨ (f2 = v2 30 ∧ TOK (a 2) (v 3) ∧ v 30 + v 3 ≤ 500 ∧ ((v 3 = 0 ∧ v2 30 = 0) ∨ (v 3 ≠ 0 ∧ v2 30 = v 30 + v 3))))) ∧ TXR v a v2 a2 f2) : f1 = f2 ∧ iv2 (sk 3) 2 = v2 30 ∧ CT iv2 rv2 (sk 3) (a2 29) := by
  have h1 := hr.2.1.1; have h2 := hr.2.2.1.1
  have k1 := hp.2 _ _ hr.2.1.2 hr.2.2.1.2
  rw [h2] at k1
  rcases hp.1 _ hr.2.1.2 with ⟨p1, p2, p3⟩ | ⟨p1, p2, p3, p4⟩ <;> rcases hq.1 with ⟨q1, q2, q3⟩ | ⟨q1, q2, q3, q4⟩
  · exact ⟨by omega, by omega, by rw [hq.2.1 q1]; exact k1.1 p1⟩
  · rw [h1, h2] at p3; exact absurd ⟨q2, q3⟩ p3
  · rw [h1, h2] at p3; rw [h1] at p2; exact absurd ⟨p2, p3⟩ q3
  · have e : iv2 (sk 3) 2 = v2 30 := by omega
    refine ⟨by omega, e, fun b hb j hj => ?_⟩
    by_cases c : f1 = -1
    · omega
    · by_cases c2 : f2 = -1
      · omega
      · rw [k1.2 c b hb j hj, hq.2.2 c2 j (by omega)]
theorem rel_text {P1 P2 : Prop} {f1 f2 : Int} (hr : REL h0 sk L cl ln iv rv v a) (hp : P1 ∧ (iv2 h0 14 = iv h0 14 ∧ iv2 h0 11 = iv h0 11 ∧ iv2 h0 12 = iv h0 12 ∧ iv2 h0 13 = iv h0 13) ∧ (iv2 (sk 2) 2 = 0) ∧ ((∀ ss, CT iv rv (sk 2) ss → ((f1 = -1 ∧ iv2 (sk 3) 2 = iv (sk 3) 2 ∧ ¬ (TOK ss (iv (sk 2) 2) ∧ iv (sk 3) 2 + iv (sk 2) 2 ≤ 500)) ∨ (f1 = iv2 (sk 3) 2 ∧ TOK ss (iv (sk 2) 2) ∧ iv (sk 3) 2 + iv (sk 2) 2 ≤ 500 ∧ ((iv (sk 2) 2 = 0 ∧ iv2 (sk 3) 2 = 0) ∨ (iv (sk 2) 2 ≠ 0 ∧ iv2 (sk 3) 2 = iv (sk 3) 2 + iv (sk 2) 2))))) ∧ (∀ ss tt, CT iv rv (sk 2) ss → CT iv rv (sk 3) tt → (f1 = -1 → CT iv2 rv2 (sk 3) tt) ∧ (f1 ≠ -1 → CT iv2 rv2 (sk 3) (apd tt (iv (sk 3) 2).toNat ss)))) ∧ (PSAME sk iv rv iv2 rv2) ∧ (∃ g, WT g sk L cl ln iv rv ∧ WT g sk L2 cl2 ln2 iv2 rv2) ∧ SKL sk L cl ∧ XT L cl ln L2 cl2 ln2 ∧ (KP L cl (fun _ => False) (fun _ => False) (fun _ => False) (fun _ => False) (fun _ _ => False) iv rv iv2 rv2)) (hq : P2 ∧ (v2 56 = v 56 ∧ v2 31 = v 31 ∧ v2 32 = v 32 ∧ v2 33 = v 33) ∧ (v2 3 = 0) ∧ ((((f2 = -1 ∧ v2 30 = v 30 ∧ ¬ (TOK (a 2) (v 3) ∧ v 30 + v 3 ≤ 500)) ∨ (f2 = v2 30 ∧ TOK (a 2) (v 3) ∧ v 30 + v 3 ≤ 500 ∧ ((v 3 = 0 ∧ v2 30 = 0) ∨ (v 3 ≠ 0 ∧ v2 30 = v 30 + v 3))))) ∧ TXR v a v2 a2 f2) ∧ (TSAME v a v2 a2)) : REL h0 sk L2 cl2 ln2 iv2 rv2 v2 a2 := ⟨fd_keep hr.1 hp.2.1 hq.2.1, ⟨by have h2 := hp.2.2.1; have h3 := hq.2.2.1; omega, CT.zero hp.2.2.1⟩, (tx_both hr hp.2.2.2.1 hq.2.2.2.1).2, tab_same hr.2.2.2.1 hp.2.2.2.2.1 hq.2.2.2.2, rps_same ⟨hr.2.2.2.1, hr.2.2.2.2.1⟩ hp.2.2.2.2 hq.2.2.2.2, sec_same hr.2.2.2.2.2 hq.2.2.2.2⟩
theorem rel_failed {i x : Int} {P1 P2 : Prop} {f1 f2 : Int} (hr : REL h0 sk L cl ln iv rv v a) (hp : P1 ∧ ((((i < 0 ∨ 7 < i) ∧ f1 = -1 ∧ iv2 h0 14 = iv h0 14) ∨ (0 ≤ i ∧ i ≤ 7 ∧ iI (iv2 h0 14) = fdv (iI (iv h0 14)) i x ∧ iI f1 = bcn (iI (iv2 h0 14)))) ∧ iv2 h0 11 = iv h0 11 ∧ iv2 h0 12 = iv h0 12 ∧ iv2 h0 13 = iv h0 13) ∧ ((iv2 (sk 2) 2 = iv (sk 2) 2 ∧ (∀ ss, CT iv rv (sk 2) ss → CT iv2 rv2 (sk 2) ss))) ∧ (iv2 (sk 3) 2 = iv (sk 3) 2 ∧ (∀ tt, CT iv rv (sk 3) tt → CT iv2 rv2 (sk 3) tt)) ∧ (PSAME sk iv rv iv2 rv2) ∧ (∃ g, WT g sk L cl ln iv rv ∧ WT g sk L2 cl2 ln2 iv2 rv2) ∧ SKL sk L cl ∧ XT L cl ln L2 cl2 ln2 ∧ (KP L cl (fun _ => False) (fun _ => False) (fun _ => False) (fun _ => False) (fun _ _ => False) iv rv iv2 rv2)) (hq : P2 ∧ ((((i < 0 ∨ 7 < i) ∧ f2 = -1 ∧ v2 56 = v 56) ∨ (0 ≤ i ∧ i ≤ 7 ∧ iI (v2 56) = fdv (iI (v 56)) i x ∧ iI f2 = bcn (iI (v2 56)))) ∧ v2 31 = v 31 ∧ v2 32 = v 32 ∧ v2 33 = v 33) ∧ ((v2 3 = v 3 ∧ a2 2 = a 2)) ∧ (v2 30 = v 30 ∧ a2 29 = a 29) ∧ (TSAME v a v2 a2)) : REL h0 sk L2 cl2 ln2 iv2 rv2 v2 a2 := by
  refine ⟨⟨?_, by have h1 := hr.1.2; have h2 := hp.2.1.2; have h3 := hq.2.1.2; omega⟩, tp_keep hr.2.1 hp.2.2.1 hq.2.2.1, tx_keep hr.2.2.1 hp.2.2.2.1 hq.2.2.2.1, tab_same hr.2.2.2.1 hp.2.2.2.2.1 hq.2.2.2.2, rps_same ⟨hr.2.2.2.1, hr.2.2.2.2.1⟩ hp.2.2.2.2 hq.2.2.2.2, sec_same hr.2.2.2.2.2 hq.2.2.2.2⟩
  have r1 := hr.1.1
  rcases hp.2.1.1 with ⟨p1, p2, p3⟩ | ⟨p1, p2, p3, p4⟩ <;> rcases hq.2.1.1 with ⟨q1, q2, q3⟩ | ⟨q1, q2, q3, q4⟩
  · rw [p3, q3]; exact r1
  · exact absurd p1 (by omega)
  · exact absurd q1 (by omega)
  · rw [p3, q3, r1]
theorem rel_measure {x y h : Int} {f1 f2 : Int} (hr : REL h0 sk L cl ln iv rv v a) (hp : ((f1 = 1 ∧ 1 ≤ x ∧ x ≤ 100 ∧ 1 ≤ y ∧ y ≤ 50 ∧ 1 ≤ h ∧ h ≤ 255) ∨ (f1 = -1 ∧ ¬ (1 ≤ x ∧ x ≤ 100 ∧ 1 ≤ y ∧ y ≤ 50 ∧ 1 ≤ h ∧ h ≤ 255))) ∧ (iv2 h0 14 = iv h0 14 ∧ ((f1 = 1 ∧ iv2 h0 11 = x ∧ iv2 h0 12 = y ∧ iv2 h0 13 = h) ∨ (f1 = -1 ∧ iv2 h0 11 = iv h0 11 ∧ iv2 h0 12 = iv h0 12 ∧ iv2 h0 13 = iv h0 13))) ∧ (iv2 (sk 2) 2 = iv (sk 2) 2 ∧ (∀ ss, CT iv rv (sk 2) ss → CT iv2 rv2 (sk 2) ss)) ∧ (iv2 (sk 3) 2 = iv (sk 3) 2 ∧ (∀ tt, CT iv rv (sk 3) tt → CT iv2 rv2 (sk 3) tt)) ∧ (PSAME sk iv rv iv2 rv2) ∧ (∃ g, WT g sk L cl ln iv rv ∧ WT g sk L2 cl2 ln2 iv2 rv2) ∧ SKL sk L cl ∧ XT L cl ln L2 cl2 ln2 ∧ (KP L cl (fun _ => False) (fun _ => False) (fun _ => False) (fun _ => False) (fun _ _ => False) iv rv iv2 rv2)) (hq : ((f2 = 1 ∧ 1 ≤ x ∧ x ≤ 100 ∧ 1 ≤ y ∧ y ≤ 50 ∧ 1 ≤ h ∧ h ≤ 255) ∨ (f2 = -1 ∧ ¬ (1 ≤ x ∧ x ≤ 100 ∧ 1 ≤ y ∧ y ≤ 50 ∧ 1 ≤ h ∧ h ≤ 255))) ∧ (v2 56 = v 56 ∧ ((f2 = 1 ∧ v2 31 = x ∧ v2 32 = y ∧ v2 33 = h) ∨ (f2 = -1 ∧ v2 31 = v 31 ∧ v2 32 = v 32 ∧ v2 33 = v 33))) ∧ (v2 3 = v 3 ∧ a2 2 = a 2) ∧ (v2 30 = v 30 ∧ a2 29 = a 29) ∧ (TSAME v a v2 a2)) : REL h0 sk L2 cl2 ln2 iv2 rv2 v2 a2 := by
  refine ⟨⟨by rw [hp.2.1.1, hq.2.1.1]; exact hr.1.1, ?_⟩, tp_keep hr.2.1 hp.2.2.1 hq.2.2.1, tx_keep hr.2.2.1 hp.2.2.2.1 hq.2.2.2.1, tab_same hr.2.2.2.1 hp.2.2.2.2.1 hq.2.2.2.2, rps_same ⟨hr.2.2.2.1, hr.2.2.2.2.1⟩ hp.2.2.2.2 hq.2.2.2.2, sec_same hr.2.2.2.2.2 hq.2.2.2.2⟩
  have h1 := hp.1; have h2 := hq.1; have h3 := hp.2.1.2; have h4 := hq.2.1.2; have h5 := hr.1.2
  clear hr hp hq
  omega
theorem rel_table {x y i : Int} {P1 P2 : Prop} {f1 f2 : Int} (hr : REL h0 sk L cl ln iv rv v a) (hp : P1 ∧ (iv2 h0 14 = iv h0 14 ∧ iv2 h0 11 = iv h0 11 ∧ iv2 h0 12 = iv h0 12 ∧ iv2 h0 13 = iv h0 13) ∧ ((iv2 (sk 2) 2 = iv (sk 2) 2 ∧ (∀ ss, CT iv rv (sk 2) ss → CT iv2 rv2 (sk 2) ss))) ∧ (iv2 (sk 3) 2 = iv (sk 3) 2 ∧ (∀ tt, CT iv rv (sk 3) tt → CT iv2 rv2 (sk 3) tt)) ∧ (PTBL x y i f1 sk iv rv iv2 rv2) ∧ (∃ g, WT g sk L cl ln iv rv ∧ WT g sk L2 cl2 ln2 iv2 rv2) ∧ SKL sk L cl ∧ XT L cl ln L2 cl2 ln2 ∧ ((f1 = -1 ∧ KP L cl (fun _ => False) (fun _ => False) (fun _ => False) (fun _ => False) (fun _ _ => False) iv rv iv2 rv2) ∨ (f1 ≠ -1 ∧ KP L cl (fun _ => False) (fun _ => False) (fun _ => False) (fun _ => False) (fun _ _ => False) iv rv iv2 rv2 ∧ ∃ b, (((x < 1 ∨ 3 < x) ∧ b = none) ∨ ((1 ≤ x ∧ x ≤ 3) ∧ ∃ t, ALV sk iv rv i t ∧ b = some t)) ∧ KNW L sk b none iv iv2 rv2))) (hq : P2 ∧ (v2 56 = v 56 ∧ v2 31 = v 31 ∧ v2 32 = v 32 ∧ v2 33 = v 33) ∧ ((v2 3 = v 3 ∧ a2 2 = a 2)) ∧ (v2 30 = v 30 ∧ a2 29 = a 29) ∧ (((f2 = -1 ∧ TSAME v a v2 a2 ∧ ¬ (0 ≤ x ∧ x ≤ 4 ∧ (y = 6 ∨ y = 8) ∧ v 4 ≠ 30 ∧ (x < 1 ∨ 3 < x ∨ (0 ≤ i ∧ i < v 4 ∧ a 5 i.toNat = 1 ∧ a 6 i.toNat ≤ 3)))) ∨ (f2 = v 4 ∧ (0 ≤ x ∧ x ≤ 4 ∧ (y = 6 ∨ y = 8) ∧ v 4 ≠ 30 ∧ (x < 1 ∨ 3 < x ∨ (0 ≤ i ∧ i < v 4 ∧ a 5 i.toNat = 1 ∧ a 6 i.toNat ≤ 3))) ∧ TNEW x y (if x < 1 ∨ 3 < x then -1 else i) (-1) v a v2 a2)))) : REL h0 sk L2 cl2 ln2 iv2 rv2 v2 a2 := ⟨fd_keep hr.1 hp.2.1 hq.2.1, tp_keep hr.2.1 hp.2.2.1 hq.2.2.1, tx_keep hr.2.2.1 hp.2.2.2.1 hq.2.2.2.1, (tbl_both hr.2.2.2.1 hp.2.2.2.2.1 hq.2.2.2.2).2, tbl_rp hr.2.2.2.1 hr.2.2.2.2.1 hp.2.2.2.2.1 hp.2.2.2.2.2 hq.2.2.2.2, tbl_sec hr.2.2.2.2.2 hr.2.2.2.1.2.2.2.2.2.1.1 hq.2.2.2.2⟩
theorem rel_join {i j : Int} {P1 P2 : Prop} {f1 f2 : Int} (hr : REL h0 sk L cl ln iv rv v a) (hp : P1 ∧ (iv2 h0 14 = iv h0 14 ∧ iv2 h0 11 = iv h0 11 ∧ iv2 h0 12 = iv h0 12 ∧ iv2 h0 13 = iv h0 13) ∧ ((iv2 (sk 2) 2 = iv (sk 2) 2 ∧ (∀ ss, CT iv rv (sk 2) ss → CT iv2 rv2 (sk 2) ss))) ∧ (iv2 (sk 3) 2 = iv (sk 3) 2 ∧ (∀ tt, CT iv rv (sk 3) tt → CT iv2 rv2 (sk 3) tt)) ∧ (PJOI i j f1 sk iv rv iv2 rv2) ∧ (∃ g, WT g sk L cl ln iv rv ∧ WT g sk L2 cl2 ln2 iv2 rv2) ∧ SKL sk L cl ∧ XT L cl ln L2 cl2 ln2 ∧ ((f1 = -1 ∧ KP L cl (fun _ => False) (fun _ => False) (fun _ => False) (fun _ => False) (fun _ _ => False) iv rv iv2 rv2) ∨ (f1 ≠ -1 ∧ KP L cl (fun _ => False) (fun _ => False) (fun _ => False) (fun _ => False) (fun _ _ => False) iv rv iv2 rv2 ∧ ∃ t u, ALV sk iv rv i t ∧ ALV sk iv rv j u ∧ KNW L sk (some t) (some u) iv iv2 rv2))) (hq : P2 ∧ (v2 56 = v 56 ∧ v2 31 = v 31 ∧ v2 32 = v 32 ∧ v2 33 = v 33) ∧ ((v2 3 = v 3 ∧ a2 2 = a 2)) ∧ (v2 30 = v 30 ∧ a2 29 = a 29) ∧ (((f2 = -1 ∧ TSAME v a v2 a2 ∧ ¬ (0 ≤ i ∧ i < v 4 ∧ a 5 i.toNat = 1 ∧ a 6 i.toNat ≤ 3 ∧ 0 ≤ j ∧ j < v 4 ∧ a 5 j.toNat = 1 ∧ a 6 j.toNat ≤ 3 ∧ v 4 ≠ 30)) ∨ (f2 = v 4 ∧ (0 ≤ i ∧ i < v 4 ∧ a 5 i.toNat = 1 ∧ a 6 i.toNat ≤ 3 ∧ 0 ≤ j ∧ j < v 4 ∧ a 5 j.toNat = 1 ∧ a 6 j.toNat ≤ 3 ∧ v 4 ≠ 30) ∧ TNEW 5 (max (a 7 i.toNat) (a 7 j.toNat)) i j v a v2 a2)))) : REL h0 sk L2 cl2 ln2 iv2 rv2 v2 a2 := ⟨fd_keep hr.1 hp.2.1 hq.2.1, tp_keep hr.2.1 hp.2.2.1 hq.2.2.1, tx_keep hr.2.2.1 hp.2.2.2.1 hq.2.2.2.1, (joi_both hr.2.2.2.1 hp.2.2.2.2.1 hq.2.2.2.2).2, joi_rp hr.2.2.2.1 hr.2.2.2.2.1 hp.2.2.2.2.1 hp.2.2.2.2.2 hq.2.2.2.2, joi_sec hr.2.2.2.2.2 hr.2.2.2.1.2.2.2.2.2.1.1 hq.2.2.2.2⟩
theorem rel_drop {i : Int} {P1 P2 : Prop} {f1 f2 : Int} (hr : REL h0 sk L cl ln iv rv v a) (hp : P1 ∧ (iv2 h0 14 = iv h0 14 ∧ iv2 h0 11 = iv h0 11 ∧ iv2 h0 12 = iv h0 12 ∧ iv2 h0 13 = iv h0 13) ∧ ((iv2 (sk 2) 2 = iv (sk 2) 2 ∧ (∀ ss, CT iv rv (sk 2) ss → CT iv2 rv2 (sk 2) ss))) ∧ (iv2 (sk 3) 2 = iv (sk 3) 2 ∧ (∀ tt, CT iv rv (sk 3) tt → CT iv2 rv2 (sk 3) tt)) ∧ (PDRP i f1 sk iv rv iv2 rv2) ∧ (∃ g, WT g sk L cl ln iv rv ∧ WT g sk L2 cl2 ln2 iv2 rv2) ∧ SKL sk L cl ∧ XT L cl ln L2 cl2 ln2 ∧ (KP L cl (fun _ => False) (fun _ => False) (fun _ => False) (fun _ => False) (fun _ _ => False) iv rv iv2 rv2)) (hq : P2 ∧ (v2 56 = v 56 ∧ v2 31 = v 31 ∧ v2 32 = v 32 ∧ v2 33 = v 33) ∧ ((v2 3 = v 3 ∧ a2 2 = a 2)) ∧ (v2 30 = v 30 ∧ a2 29 = a 29) ∧ (((f2 = -1 ∧ TSAME v a v2 a2 ∧ ¬ (0 ≤ i ∧ i < v 4 ∧ a 5 i.toNat = 1)) ∨ (f2 = 1 ∧ (0 ≤ i ∧ i < v 4 ∧ a 5 i.toNat = 1) ∧ TDRP i v a v2 a2)))) : REL h0 sk L2 cl2 ln2 iv2 rv2 v2 a2 := ⟨fd_keep hr.1 hp.2.1 hq.2.1, tp_keep hr.2.1 hp.2.2.1 hq.2.2.1, tx_keep hr.2.2.1 hp.2.2.2.1 hq.2.2.2.1, (drp_both hr.2.2.2.1 hp.2.2.2.2.1 hq.2.2.2.2).2, drp_rp hr.2.2.2.1 hr.2.2.2.2.1 hp.2.2.2.2.1 hp.2.2.2.2.2 hq.2.2.2.2, drp_sec hr.2.2.2.2.2 hr.2.2.2.1.2.2.2.2.2.1.1 hq.2.2.2.2⟩
theorem rel_rule {i x n : Int} {P1 P2 : Prop} {f1 f2 : Int} (hr : REL h0 sk L cl ln iv rv v a) (hp : P1 ∧ (iv2 h0 14 = iv h0 14 ∧ iv2 h0 11 = iv h0 11 ∧ iv2 h0 12 = iv h0 12 ∧ iv2 h0 13 = iv h0 13) ∧ (iv2 (sk 2) 2 = 0) ∧ (iv2 (sk 3) 2 = iv (sk 3) 2 ∧ (∀ tt, CT iv rv (sk 3) tt → CT iv2 rv2 (sk 3) tt)) ∧ (PRUL i x n f1 sk iv rv iv2 rv2) ∧ (∃ g, WT g sk L cl ln iv rv ∧ WT g sk L2 cl2 ln2 iv2 rv2) ∧ SKL sk L cl ∧ XT L cl ln L2 cl2 ln2 ∧ (KRU L cl sk iv rv L2 cl2 ln2 iv2 rv2 i x n f1)) (hq : P2 ∧ (v2 56 = v 56 ∧ v2 31 = v 31 ∧ v2 32 = v 32 ∧ v2 33 = v 33) ∧ (v2 3 = 0) ∧ (v2 30 = v 30 ∧ a2 29 = a 29) ∧ (((f2 = -1 ∧ TSAME v a v2 a2 ∧ ¬ ((0 ≤ i ∧ i < v 4 ∧ a 5 i.toNat = 1 ∧ a 6 i.toNat ≠ 5 ∧ 0 ≤ x ∧ x ≤ 5 ∧ 1 ≤ n ∧ n ≤ 8 ∧ 1 ≤ v 3 - n ∧ v 3 - n ≤ 4 ∧ a 10 i.toNat ≠ 200) ∧ ACL (a 2) n (v 3 - n) (DC (a 7 i.toNat)) ∧ LTK (a 2) n)) ∨ (f2 = a 10 i.toNat ∧ ((0 ≤ i ∧ i < v 4 ∧ a 5 i.toNat = 1 ∧ a 6 i.toNat ≠ 5 ∧ 0 ≤ x ∧ x ≤ 5 ∧ 1 ≤ n ∧ n ≤ 8 ∧ 1 ≤ v 3 - n ∧ v 3 - n ≤ 4 ∧ a 10 i.toNat ≠ 200) ∧ ACL (a 2) n (v 3 - n) (DC (a 7 i.toNat)) ∧ LTK (a 2) n) ∧ TRUL i x n v a v2 a2)))) : REL h0 sk L2 cl2 ln2 iv2 rv2 v2 a2 := ⟨fd_keep hr.1 hp.2.1 hq.2.1, ⟨by have h2 := hp.2.2.1; have h3 := hq.2.2.1; omega, CT.zero hp.2.2.1⟩, tx_keep hr.2.2.1 hp.2.2.2.1 hq.2.2.2.1, (rul_both hr.2.2.2.1 hr.2.1.1 hr.2.1.2 hp.2.2.2.2.1 hq.2.2.2.2).2, rul_rp hr.2.2.2.1 hr.2.2.2.2.1 hr.2.1.1 hr.2.1.2 hp.2.2.2.2.1 hp.2.2.2.2.2 hq.2.2.2.2, rul_sec hr.2.2.2.2.2 hr.2.2.2.1.2.2.2.2.2.1.1 hq.2.2.2.2⟩
theorem rel_indicator {i x : Int} {P1 P2 : Prop} {f1 f2 : Int} (hr : REL h0 sk L cl ln iv rv v a) (hp : P1 ∧ (iv2 h0 14 = iv h0 14 ∧ iv2 h0 11 = iv h0 11 ∧ iv2 h0 12 = iv h0 12 ∧ iv2 h0 13 = iv h0 13) ∧ (iv2 (sk 2) 2 = 0) ∧ (iv2 (sk 3) 2 = iv (sk 3) 2 ∧ (∀ tt, CT iv rv (sk 3) tt → CT iv2 rv2 (sk 3) tt)) ∧ (PIND i x f1 sk iv rv iv2 rv2) ∧ (∃ g, WT g sk L cl ln iv rv ∧ WT g sk L2 cl2 ln2 iv2 rv2) ∧ SKL sk L cl ∧ XT L cl ln L2 cl2 ln2 ∧ (KIN L cl sk iv rv L2 cl2 ln2 iv2 rv2 i x f1)) (hq : P2 ∧ (v2 56 = v 56 ∧ v2 31 = v 31 ∧ v2 32 = v 32 ∧ v2 33 = v 33) ∧ (v2 3 = 0) ∧ (v2 30 = v 30 ∧ a2 29 = a 29) ∧ (((f2 = -1 ∧ TSAME v a v2 a2 ∧ ¬ ((0 ≤ x ∧ x ≤ 3 ∧ 0 ≤ i ∧ i < v 4 ∧ a 5 i.toNat = 1 ∧ ((x = 0 ∧ a 6 i.toNat ≤ 2) ∨ (x = 1 ∧ a 6 i.toNat = 2) ∨ (x ≠ 0 ∧ x ≠ 1 ∧ a 6 i.toNat = 5)) ∧ v 3 ≤ 4) ∧ ACL (a 2) 0 (v 3) (DC (a 7 i.toNat)) ∧ True)) ∨ (f2 = v 3 ∧ ((0 ≤ x ∧ x ≤ 3 ∧ 0 ≤ i ∧ i < v 4 ∧ a 5 i.toNat = 1 ∧ ((x = 0 ∧ a 6 i.toNat ≤ 2) ∨ (x = 1 ∧ a 6 i.toNat = 2) ∨ (x ≠ 0 ∧ x ≠ 1 ∧ a 6 i.toNat = 5)) ∧ v 3 ≤ 4) ∧ ACL (a 2) 0 (v 3) (DC (a 7 i.toNat)) ∧ True) ∧ TIND i x v a v2 a2)))) : REL h0 sk L2 cl2 ln2 iv2 rv2 v2 a2 := ⟨fd_keep hr.1 hp.2.1 hq.2.1, ⟨by have h2 := hp.2.2.1; have h3 := hq.2.2.1; omega, CT.zero hp.2.2.1⟩, tx_keep hr.2.2.1 hp.2.2.2.1 hq.2.2.2.1, (ind_both hr.2.2.2.1 hr.2.1.1 hr.2.1.2 hp.2.2.2.2.1 hq.2.2.2.2).2, ind_rp hr.2.2.2.1 hr.2.2.2.2.1 hr.2.1.1 hr.2.1.2 hp.2.2.2.2.1 hp.2.2.2.2.2 hq.2.2.2.2, ind_sec hr.2.2.2.2.2 hr.2.2.2.1.2.2.2.2.2.1.1 hq.2.2.2.2⟩
theorem rel_undo  {P1 P2 : Prop} {f1 f2 : Int} (hr : REL h0 sk L cl ln iv rv v a) (hp : P1 ∧ (iv2 h0 14 = iv h0 14 ∧ iv2 h0 11 = iv h0 11 ∧ iv2 h0 12 = iv h0 12 ∧ iv2 h0 13 = iv h0 13) ∧ ((iv2 (sk 2) 2 = iv (sk 2) 2 ∧ (∀ ss, CT iv rv (sk 2) ss → CT iv2 rv2 (sk 2) ss))) ∧ (iv2 (sk 3) 2 = iv (sk 3) 2 ∧ (∀ tt, CT iv rv (sk 3) tt → CT iv2 rv2 (sk 3) tt)) ∧ (PUNX f1 sk iv rv iv2 rv2) ∧ (∃ g, WT g sk L cl ln iv rv ∧ WT g sk L2 cl2 ln2 iv2 rv2) ∧ SKL sk L cl ∧ XT L cl ln L2 cl2 ln2 ∧ ((f1 = 0 ∧ KP L cl (fun _ => False) (fun _ => False) (fun _ => False) (fun _ => False) (fun _ _ => False) iv rv iv2 rv2) ∨ (f1 = 1 ∧ ∃ ch, el rv (sk 23) (iv (sk 23) 2 - 1).toNat = some ch ∧ UKP L cl ch iv rv iv2 rv2))) (hq : P2 ∧ (v2 56 = v 56 ∧ v2 31 = v 31 ∧ v2 32 = v 32 ∧ v2 33 = v 33) ∧ ((v2 3 = v 3 ∧ a2 2 = a 2)) ∧ (v2 30 = v 30 ∧ a2 29 = a 29) ∧ ((∃ ln, STK ln v a) ∧ (∃ ln, STK ln v2 a2) ∧ ((v 19 = 0 ∧ f2 = 0 ∧ TSAME v a v2 a2) ∨ (v 19 ≠ 0 ∧ f2 = 1 ∧ TUND v a v2 a2)))) : REL h0 sk L2 cl2 ln2 iv2 rv2 v2 a2 := ⟨fd_keep hr.1 hp.2.1 hq.2.1, tp_keep hr.2.1 hp.2.2.1 hq.2.2.1, tx_keep hr.2.2.1 hp.2.2.2.1 hq.2.2.2.1, (und_both hr.2.2.2.1 hp.2.2.2.2.1 hq.2.2.2.2).2, und_rp hr.2.2.2.1 hr.2.2.2.2.1 hp.2.2.2.2.1 hp.2.2.2.2.2 hq.2.2.2.2, und_sec hr.2.2.2.2.2 hr.2.2.2.1.2.2.2.2.2.1.1 hq.2.2.2.2⟩
theorem rel_condition {i r x : Int} {P1 P2 : Prop} {f1 f2 : Int} (hr : REL h0 sk L cl ln iv rv v a) (hp : P1 ∧ (iv2 h0 14 = iv h0 14 ∧ iv2 h0 11 = iv h0 11 ∧ iv2 h0 12 = iv h0 12 ∧ iv2 h0 13 = iv h0 13) ∧ ((iv2 (sk 2) 2 = iv (sk 2) 2 ∧ (∀ ss, CT iv rv (sk 2) ss → CT iv2 rv2 (sk 2) ss))) ∧ (iv2 (sk 3) 2 = iv (sk 3) 2 ∧ (∀ tt, CT iv rv (sk 3) tt → CT iv2 rv2 (sk 3) tt)) ∧ (PCND i r x f1 sk iv rv iv2 rv2) ∧ (∃ g, WT g sk L cl ln iv rv ∧ WT g sk L2 cl2 ln2 iv2 rv2) ∧ SKL sk L cl ∧ XT L cl ln L2 cl2 ln2 ∧ (KCN L cl sk iv rv iv2 rv2 i r x f1)) (hq : P2 ∧ (v2 56 = v 56 ∧ v2 31 = v 31 ∧ v2 32 = v 32 ∧ v2 33 = v 33) ∧ ((v2 3 = v 3 ∧ a2 2 = a 2)) ∧ (v2 30 = v 30 ∧ a2 29 = a 29) ∧ (((f2 = -1 ∧ TSAME v a v2 a2 ∧ ¬ (0 ≤ i ∧ i < v 4 ∧ a 5 i.toNat = 1 ∧ a 6 i.toNat ≠ 5 ∧ 0 ≤ r ∧ r < a 10 i.toNat ∧ 0 ≤ x ∧ x ≤ 5)) ∨ (f2 = a 11 (200 * i + r).toNat ∧ (0 ≤ i ∧ i < v 4 ∧ a 5 i.toNat = 1 ∧ a 6 i.toNat ≠ 5 ∧ 0 ≤ r ∧ r < a 10 i.toNat ∧ 0 ≤ x ∧ x ≤ 5) ∧ TCND i r x v a v2 a2)))) : REL h0 sk L2 cl2 ln2 iv2 rv2 v2 a2 := ⟨fd_keep hr.1 hp.2.1 hq.2.1, tp_keep hr.2.1 hp.2.2.1 hq.2.2.1, tx_keep hr.2.2.1 hp.2.2.2.1 hq.2.2.2.1, cnd_both hr.2.2.2.1 hp.2.2.2.2.1 hq.2.2.2.2, (cnd_rp hr.2.2.2.1 hr.2.2.2.2.1 hp.2.2.2.2.1 hp.2.2.2.2.2 hq.2.2.2.2).2, cnd_sec hr.2.2.2.2.2 hr.2.2.2.1.2.2.2.2.2.1.1 hq.2.2.2.2⟩
end RELS
section RLSS
variable {h0 : Nat} {L L2 : List Nat} {cl ln cl2 ln2 sk : Nat → Nat} {iv iv2 : Nat → Nat → Int} {rv rv2 : Nat → Nat → Option Nat} {v v2 : Nat → Int} {a a2 : Nat → Nat → Int}
end RLSS
def SHB (h0 : Nat) (iv : Nat → Nat → Int) (rv : Nat → Nat → Option Nat) (v : Nat → Int) (a : Nat → Nat → Int) : Prop := ∃ sA sB E, rv h0 9 = some sA ∧ rv h0 10 = some sB ∧ LNK rv sB sA ∧ SHT iv rv sA E ∧ SHA v a E
def RLC (h0 : Nat) (sk : Nat → Nat) (L : List Nat) (cl ln : Nat → Nat) (iv : Nat → Nat → Int) (rv : Nat → Nat → Option Nat) (v : Nat → Int) (a : Nat → Nat → Int) : Prop := REL h0 sk L cl ln iv rv v a ∧ (iv h0 15 = v 42 ∧ iI (iv h0 16) = iI (v 43)) ∧ SHB h0 iv rv v a
section RLCS
variable {h0 : Nat} {L L2 : List Nat} {cl ln cl2 ln2 sk : Nat → Nat} {iv iv2 : Nat → Nat → Int} {rv rv2 : Nat → Nat → Option Nat} {v v2 : Nat → Int} {a a2 : Nat → Nat → Int}
theorem shb_keep (hr : SHB h0 iv rv v a) (hp : KSC h0 iv rv iv2 rv2) (hq : KSA v a v2 a2) : SHB h0 iv2 rv2 v2 a2 := by
  obtain ⟨sA, sB, E, q1, q2, q3, q4, q5⟩ := hr
  obtain ⟨p1, p2, p3, p4⟩ := hp sA sB q1 q2 q3
  exact ⟨sA, sB, E, p1, p2, p3, q4.sam p4, q5.cg hq⟩
theorem tch_both {A : Int → List (Option (List Int)) → List (Option (List Int)) → Prop} {f1 f2 : Int} (hu : ∀ f g E E1 E2, A f E E1 → A g E E2 → f = g ∧ E1 = E2) (hr : SHB h0 iv rv v a) (hp : TCH iv rv iv2 h0 (A f1) ∧ rv2 = rv) (hq : ∀ E, SHA v a E → ∃ E2, A f2 E E2 ∧ SHA v2 a2 E2) : f1 = f2 ∧ SHB h0 iv2 rv2 v2 a2 := by
  obtain ⟨sA, sB, E, q1, q2, q3, q4, q5⟩ := hr
  obtain ⟨E1, p1, p2⟩ := hp.1 sA sB q1 q2 q3 E q4
  obtain ⟨E2, r1, r2⟩ := hq E q5
  obtain ⟨e1, e2⟩ := hu f1 f2 E E1 E2 p1 r1
  subst e2
  rw [hp.2]
  exact ⟨e1, sA, sB, E1, q1, q2, q3, p2, r2⟩
theorem lose_both {i f1 f2 : Int} (hr : SHB h0 iv rv v a) (hp : TCH iv rv iv2 h0 (fun E E2 => LOSX E i f1 E2) ∧ rv2 = rv) (hq : LSA v a v2 a2 i f2) : f1 = f2 ∧ SHB h0 iv2 rv2 v2 a2 := tch_both (A := fun f E E2 => LOSX E i f E2) (fun _ _ _ _ _ g1 g2 => LOSX.uni g1 g2) hr hp hq
theorem cut_both {i n f1 f2 : Int} (hr : SHB h0 iv rv v a) (hp : TCH iv rv iv2 h0 (fun E E2 => CUTX E i n f1 E2) ∧ rv2 = rv) (hq : CTA v a v2 a2 i n f2) : f1 = f2 ∧ SHB h0 iv2 rv2 v2 a2 := tch_both (A := fun f E E2 => CUTX E i n f E2) (fun _ _ _ _ _ g1 g2 => CUTX.uni g1 g2) hr hp hq
theorem copyRow_both {q w u x n f1 f2 : Int} (hr : SHB h0 iv rv v a) (hp : TCH iv rv iv2 h0 (fun E E2 => CPRX E q w u x n f1 E2) ∧ rv2 = rv) (hq : CRA v a v2 a2 q w u x n f2) : f1 = f2 ∧ SHB h0 iv2 rv2 v2 a2 := tch_both (A := fun f E E2 => CPRX E q w u x n f E2) (fun _ _ _ _ _ g1 g2 => CPRX.uni g1 g2) hr hp hq
theorem copyLines_both {q u n f1 f2 : Int} (h15 : iv h0 15 = v 42) (hr : SHB h0 iv rv v a) (hp : TCH iv rv iv2 h0 (fun E E2 => CPLX E q u n (iv h0 15) f1 E2 (iv2 h0 15)) ∧ rv2 = rv) (hq : CPA v a v2 a2 q u n f2) : f1 = f2 ∧ iv2 h0 15 = v2 42 ∧ SHB h0 iv2 rv2 v2 a2 := by
  obtain ⟨sA, sB, E, q1, q2, q3, q4, q5⟩ := hr
  obtain ⟨E1, p1, p2⟩ := hp.1 sA sB q1 q2 q3 E q4
  obtain ⟨E2, r1, r2⟩ := hq E q5
  have p3 : CPLX E q u n (iv h0 15) f1 E1 (iv2 h0 15) := p1
  rw [h15] at p3
  obtain ⟨e1, e2, e3⟩ := CPLX.uni p3 r1
  subst e2
  rw [hp.2]
  exact ⟨e1, e3, sA, sB, E1, q1, q2, q3, p2, r2⟩
theorem setc_both {i f1 f2 : Int} (hr : RLC h0 sk L cl ln iv rv v a) (hp : PSX sk ln iv rv iv2 rv2 h0 (iv h0 11) (iv h0 13) i f1) (hq : SETX v a v2 a2 i f2 ∧ TBL v a ∧ ∀ j, a 10 j ≤ 200) : f1 = f2 ∧ SHB h0 iv2 rv2 v2 a2 := by
  obtain ⟨hr, _, sA, sB, E, q1, q2, q3, q4, q5⟩ := hr
  obtain ⟨hX, hT, h10⟩ := hq
  have ph : PHY sk ln iv rv sA sB (iv h0 11) (iv h0 13) v a := ⟨⟨hr.2.2.2.1, hr.2.2.2.2.1, hT, hr.2.2.2.2.2⟩, h10, hr.2.2.1, ⟨hr.1.2.1, hr.1.2.2.2⟩, q3⟩
  rcases hp sA sB q1 q2 v a ph with ⟨n1, n2, n3, n4⟩ | ⟨D, d1, d2, d3, d4, d5⟩ <;> rcases hX with ⟨m1, m2⟩ | ⟨D2, e1, e2⟩
  · exact ⟨n1.1.trans m1.1.symm, sA, sB, E, n2, n3, n4.1, q4.sam n4.2.1, q5.cg m2⟩
  · exact (SETN.no n1 e1).elim
  · exact (SETN.no m1 d1).elim
  · obtain ⟨u1, u2⟩ := SETD.uni hT d1 e1
    subst u2
    have gm : ∀ (l : Nat) (x : Option (List Int)), (D.map some)[l]? = some x → ∃ xs, x = some xs ∧ D[l]? = some xs := fun l x e => by
      rw [List.getElem?_map] at e
      cases hd : D[l]? with
      | none => rw [hd] at e; cases e
      | some xs => rw [hd] at e; cases e; exact ⟨xs, rfl, rfl⟩
    refine ⟨u1, sB, sA, D.map some, d2, d3, d4, ⟨by rw [List.length_map]; exact d5.1, fun l x e => ?_⟩, by rw [List.length_map]; exact e2.1, fun l x e => ?_⟩
    · obtain ⟨xs, g1, g2⟩ := gm l x e
      obtain ⟨rb, r, k1, k2, k3, k4⟩ := d5.2 l xs g2
      exact ⟨rb, r, k1, k2, Or.inr ⟨xs, g1, k3, k4⟩⟩
    · obtain ⟨xs, g1, g2⟩ := gm l x e
      obtain ⟨k1, k2⟩ := e2.2 l xs g2
      exact Or.inr ⟨xs, g1, k1, k2⟩
theorem emboss_both {i n f1 f2 : Int} (h16 : iI (iv h0 16) = iI (v 43)) (h11 : iv h0 11 = v 31) (hr : SHB h0 iv rv v a) (hp : EPX iv rv iv2 h0 i n (iv h0 11) f1) (hq : EMA v a v2 i n f2) : iI f1 = iI f2 ∧ iI (iv2 h0 16) = iI (v2 43) := by
  obtain ⟨sA, sB, E, q1, q2, q3, q4, q5⟩ := hr
  have p := hp sA q1 E q4
  rw [h16, h11] at p
  exact EMBX.uni p (hq E q5)
theorem shb_zero (hz : SHZ h0 iv rv) (h36 : v 36 = 0) : SHB h0 iv rv v a := by
  obtain ⟨sA, sB, q1, q2, q3, q4⟩ := hz.mk h36
  exact ⟨sA, sB, [], q1, q2, q3, ⟨by rw [q4, h36]; rfl, fun l x e => by simp at e⟩, by rw [h36]; rfl, fun l x e => by simp at e⟩
end RLCS
def HDQ (sk : Nat → Nat) (iv : Nat → Nat → Int) (rv : Nat → Nat → Option Nat) (v : Nat → Int) (a : Nat → Nat → Int) : Prop := iv (sk 5) 2 = v 41 ∧ CT iv rv (sk 5) (a 40)
def RLH (h0 : Nat) (sk : Nat → Nat) (L : List Nat) (cl ln : Nat → Nat) (iv : Nat → Nat → Int) (rv : Nat → Nat → Option Nat) (v : Nat → Int) (a : Nat → Nat → Int) : Prop := RLC h0 sk L cl ln iv rv v a ∧ HDQ sk iv rv v a
section RLHS
variable {h0 : Nat} {L L2 : List Nat} {cl ln cl2 ln2 sk : Nat → Nat} {iv iv2 : Nat → Nat → Int} {rv rv2 : Nat → Nat → Option Nat} {v v2 : Nat → Int} {a a2 : Nat → Nat → Int}
theorem hdq_keep (hr : HDQ sk iv rv v a) (hp : (iv2 (sk 5) 2 = iv (sk 5) 2 ∧ ∀ ss, CT iv rv (sk 5) ss → CT iv2 rv2 (sk 5) ss)) (hq : v2 41 = v 41 ∧ a2 40 = a 40) : HDQ sk iv2 rv2 v2 a2 := ⟨by have h1 := hr.1; have h2 := hp.1; have h3 := hq.1; omega, by rw [hq.2]; exact hp.2 _ hr.2⟩
theorem head_hdq {i f1 f2 : Int} (hr : RLH h0 sk L cl ln iv rv v a) (hp : HDX sk ln iv rv (iv h0 11) i f1 ∧ HDY sk ln iv rv iv2 rv2 i f1) (hq : HDS v a i f2 ∧ TBL v a ∧ HDT v a v2 a2 i f2) : HDQ sk iv2 rv2 v2 a2 := by
  obtain ⟨⟨hr, _⟩, q1, q2⟩ := hr
  obtain ⟨p1, p2⟩ := hp
  obtain ⟨g1, hT, g2⟩ := hq
  have tr : TRL sk ln iv rv v a := ⟨hr.2.2.2.1, hr.2.2.2.2.1, hT, hr.2.2.2.2.2⟩
  have e : f1 = f2 := HDS.uni hT (p1 v a tr hr.2.1.1 hr.2.1.2 hr.1.2.1) g1
  subst e
  rcases p2 with ⟨a1, a2, a3⟩ | ⟨a1, a2, a3⟩ <;> rcases g2 with ⟨b1, b2, b3⟩ | ⟨b1, b2, cs, b3, b4⟩
  · exact ⟨by omega, by rw [b3]; exact a3 _ q2⟩
  · omega
  · omega
  · refine ⟨by omega, ?_⟩
    obtain ⟨ds, d1, d2, d3⟩ := a3 v a tr hr.2.1.1 hr.2.1.2
    have hw : 0 ≤ i ∧ i < v 4 := by
      rcases g1 with ⟨_, w⟩ | ⟨w, _⟩
      · omega
      · have w2 := WHL.tr w.2.2
        exact ⟨w2.1, w2.2.1⟩
    have ee := SWC.uni hT hw d1 b3
    subst ee
    exact CT.cgs d3 (fun j hj => b4 j (by omega))
theorem eqh_page {p l i f1 f2 : Int} (hr : RLH h0 sk L cl ln iv rv v a) (hp : PGP iv rv sk h0 p l i f1) (hq : PGA v a p l i f2) : iI f1 = iI f2 := by
  obtain ⟨⟨hr, _, sA, sB, E, q1, q2, q3, q4, q5⟩, q6, q7⟩ := hr
  have e1 := hp sA q1 E q4 (a 40) q7
  rw [q6, hr.1.2.2.1] at e1
  rw [PAGX.uni e1 (hq E q5)]
theorem hdq_zero (h5 : iv (sk 5) 2 = 0) (h41 : v 41 = 0) : HDQ sk iv rv v a := ⟨by omega, CT.zero h5⟩
end RLHS
section RLBS
variable {h0 : Nat} {L L2 : List Nat} {cl ln cl2 ln2 sk : Nat → Nat} {iv iv2 : Nat → Nat → Int} {rv rv2 : Nat → Nat → Option Nat} {v v2 : Nat → Int} {a a2 : Nat → Nat → Int}
end RLBS
section RLFS
variable {h0 : Nat} {L L2 : List Nat} {cl ln cl2 ln2 sk : Nat → Nat} {iv iv2 : Nat → Nat → Int} {rv rv2 : Nat → Nat → Option Nat} {v v2 : Nat → Int} {a a2 : Nat → Nat → Int}
end RLFS
end
