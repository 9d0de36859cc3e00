section
set_option maxHeartbeats 4000000 in
set_option maxRecDepth 100000 in
theorem C_chainLines {l : Launch} {G : GT} {mi : Nat} {sk : Nat → Nat} {L : List Nat} {cl ln : Nat → Nat} {iv : Nat → Nat → Int} {rv : Nat → Nat → Option Nat}  {a0 : Nat} {i : Int} {n : Int} (hW : WT (g0 G) sk L cl ln iv rv) (hS : SKL sk L cl) (t_a0 : ty L cl a0 1) (h_i : -2147483648 ≤ i ∧ i ≤ 2147483647) (h_n : -2147483648 ≤ n ∧ n ≤ 2147483647) (hn : 0 ≤ n) : Mc l G mi (Phi (g0 G) sk) PHM yX11_chainLines cX11_chainLines 5 none 5 [.ref a0, .int (iI i), .int (iI n)] L cl ln iv rv 0 (fun v L2 cl2 ln2 iv2 rv2 => v = none ∧ XT L cl ln L2 cl2 ln2 ∧ fT [8, 38, 9, 39] L cl iv rv iv2 rv2 ∧ WT (g0 G) sk L2 cl2 ln2 iv2 rv2 ∧ (True)) := by
  refine Mc.mk (by decide) (Nat.le_of_ble_eq_true rfl) ?_
  intro p e s m args below meth c A C hM
  refine hv21 (Phi.le hW hS) (show ty L cl (sk 2) 2 from ⟨(hS 2 rfl).1, by rw [(hS 2 rfl).2]; rfl⟩) (show ty L cl (sk 3) 3 from ⟨(hS 3 rfl).1, by rw [(hS 3 rfl).2]; rfl⟩) (show ty L cl (sk 4) 4 from ⟨(hS 4 rfl).1, by rw [(hS 4 rfl).2]; rfl⟩) (show ty L cl (sk 5) 5 from ⟨(hS 5 rfl).1, by rw [(hS 5 rfl).2]; rfl⟩) (show ty L cl (sk 6) 6 from ⟨(hS 6 rfl).1, by rw [(hS 6 rfl).2]; rfl⟩) (show ty L cl (sk 7) 7 from ⟨(hS 7 rfl).1, by rw [(hS 7 rfl).2]; rfl⟩) (show ty L cl (sk 8) 8 from ⟨(hS 8 rfl).1, by rw [(hS 8 rfl).2]; rfl⟩) (show ty L cl (sk 9) 9 from ⟨(hS 9 rfl).1, by rw [(hS 9 rfl).2]; rfl⟩) (show ty L cl (sk 10) 10 from ⟨(hS 10 rfl).1, by rw [(hS 10 rfl).2]; rfl⟩) (show ty L cl (sk 13) 13 from ⟨(hS 13 rfl).1, by rw [(hS 13 rfl).2]; rfl⟩) (show ty L cl (sk 14) 14 from ⟨(hS 14 rfl).1, by rw [(hS 14 rfl).2]; rfl⟩) (show ty L cl (sk 15) 15 from ⟨(hS 15 rfl).1, by rw [(hS 15 rfl).2]; rfl⟩) (show ty L cl (sk 16) 16 from ⟨(hS 16 rfl).1, by rw [(hS 16 rfl).2]; rfl⟩) (show ty L cl (sk 17) 17 from ⟨(hS 17 rfl).1, by rw [(hS 17 rfl).2]; rfl⟩) (show ty L cl (sk 22) 22 from ⟨(hS 22 rfl).1, by rw [(hS 22 rfl).2]; rfl⟩) (show ty L cl (sk 23) 23 from ⟨(hS 23 rfl).1, by rw [(hS 23 rfl).2]; rfl⟩) (show ty L cl (sk 24) 24 from ⟨(hS 24 rfl).1, by rw [(hS 24 rfl).2]; rfl⟩) (show ty L cl (sk 25) 25 from ⟨(hS 25 rfl).1, by rw [(hS 25 rfl).2]; rfl⟩) (show XT L cl ln L cl ln from XT.refl) (show fT [8, 38, 9, 39] L cl iv rv iv rv from fT.refl) (fun hph tsk2 tsk3 tsk4 tsk5 tsk6 tsk7 tsk8 tsk9 tsk10 tsk13 tsk14 tsk15 tsk16 tsk17 tsk22 tsk23 tsk24 tsk25 hX0 hF0 => ?_)
  refine c_aload_n (j := 0) (x := a0) C dX11_chainLines_0 rfl ?_
  obtain ⟨rb1, rq1, trb1⟩ := hW.ref t_a0 7 rfl rfl rfl
  have erb1 := hW.sk trb1 (by decide) rfl
  subst erb1
  refine c_getr (k := 7) C ck_12 dX11_chainLines_1 w2_51 (by decide) t_a0 rfl rfl (by decide) rfl rq1 ?_
  refine c_st (st2 := [.ref (sk 16)]) rfl ?_
  refine d_callV (As := []) (rest := []) C hM (C_clearCells (a0 := (sk 16)) hW hS tsk16  ) dX11_chainLines_4 kV_X11_344 rfl tsk16 rfl rfl (by decide) ck_4 rfl (Nat.le_of_ble_eq_true rfl) ⟨(Nat.le_of_ble_eq_true rfl), (Nat.le_of_ble_eq_true rfl)⟩ hph hph (show 0 + 0 = 0 from rfl) (by decide) (fun rh1 Lh1 clh1 lnh1 ivh1 rvh1 h1 => ?_)
  obtain ⟨rfl, rfl, rfl, rfl, rfl, fl1, W1, exf1⟩ := h1
  have F1 := hF0.call hX0 fl1 rfl
  refine c_st (st2 := []) rfl ?_
  refine hv2 (show 0 ≤ ivh1 (sk 8) 2 ∧ ivh1 (sk 8) 2 ≤ 40200 from W1.int tsk8 2) (show ivh1 (sk 8) 2 = 0 from exf1) (fun ri1 gf1 => ?_)
  refine c_iconst C dX11_chainLines_7 ?_
  refine c_istore_n (lv2 := [(3, .int (iI 0)), (0, .ref a0), (1, .int (iI i)), (2, .int (iI n))]) C dX11_chainLines_8 (by decide) rfl ?_
  have Lp1 : ∀ (nn : Nat) (k : Int) (Lb1 : List Nat) (clb1 lnb1 : Nat → Nat) (ivb1 : Nat → Nat → Int) (rvb1 : Nat → Nat → Option Nat) , n + 1 - k < (nn : Int) → XT L cl ln Lb1 clb1 lnb1 → WT (g0 G) sk Lb1 clb1 lnb1 ivb1 rvb1 → fT [8, 38, 9, 39] L cl iv rv ivb1 rvb1 → (0 ≤ k ∧ k ≤ n) → cw p l e 5 ((PHM) + 0 - ((Phi (g0 G) sk) ln rv)) s m args below meth c G A 5 (MQ below (Qu G A (Qp G (Phi (g0 G) sk) ((Phi (g0 G) sk) ln rv) 0 (fun v L2 cl2 ln2 iv2 rv2 => v = none ∧ XT L cl ln L2 cl2 ln2 ∧ fT [8, 38, 9, 39] L cl iv rv iv2 rv2 ∧ WT (g0 G) sk L2 cl2 ln2 iv2 rv2 ∧ (True)))) args s (((PHM) + 0 - ((Phi (g0 G) sk) ln rv)) / 16) ((PHM) + 0 - ((Phi (g0 G) sk) ln rv)) A) (Phi (g0 G) sk) ((Phi (g0 G) sk) ln rv) Lb1 clb1 lnb1 ivb1 rvb1 0 9 [(3, .int (iI k)), (0, .ref a0), (1, .int (iI i)), (2, .int (iI n))] [] := by
    intro nn
    induction nn with
    | zero =>
      intro  k Lb1 clb1 lnb1 ivb1 rvb1 hm Xb1 Wb1 Fb1  hk
      have skb1 := Xb1.skl hS
      exact absurd hm (by omega)
    | succ nn ih1 =>
      intro  k Lb1 clb1 lnb1 ivb1 rvb1 hm Xb1 Wb1 Fb1  hk
      have skb1 := Xb1.skl hS
      refine c_iload_n (j := 0) C dX11_chainLines_9 rfl ?_
      refine c_iload_n (j := 3) C dX11_chainLines_10 rfl ?_
      refine c_icmp_ge (tgt := 65) C ⟨by omega, by omega⟩ ⟨by omega, by omega⟩ dX11_chainLines_11 (by decide) (fun c1 => ?_) (fun c1 => ?_)
      · have pl1 := Phi.le Wb1 skb1
        exact c_vret C dX11_chainLines_65 rfl (by decide) (rom0 hph pl1 (by decide)) ⟨rfl, Xb1, Fb1, Wb1, trivial⟩
      · refine c_aload_n (j := 1) (x := a0) C dX11_chainLines_14 rfl ?_
        have ty1 := Xb1.ty t_a0
        obtain ⟨rb2, rq2, trb2⟩ := Wb1.ref ty1 9 rfl rfl rfl
        refine c_getr (k := 9) C ck_12 dX11_chainLines_15 w2_53 (by decide) ty1 rfl rfl (by decide) rfl rq2 ?_
        refine c_st (st2 := [.ref rb2]) rfl ?_
        refine c_iload_n (j := 2) C dX11_chainLines_18 rfl ?_
        refine c_iload_n (j := 0) C dX11_chainLines_19 rfl ?_
        refine c_iadd C dX11_chainLines_20 ?_
        obtain ⟨zz1, hzz1, ezz1⟩ := iI_of (iI (i + k))
        refine c_st (st2 := [.int (iI zz1), .ref rb2]) (by rw [ezz1]) ?_
        refine hv2 (show 0 ≤ ivb1 rb2 1 ∧ ivb1 rb2 1 ≤ 200 from Wb1.int trb2 1) (Phi.le Wb1 skb1) (fun ri2 pl2 => ?_)
        refine d_callV (As := [.int (iI zz1)]) (rest := []) C hM (C_sat (a0 := rb2) (i := zz1) Wb1 skb1 trb2 (by omega) ) dX11_chainLines_21 kV_X11_308 rfl trb2 rfl rfl (by decide) ck_8 rfl (Nat.le_of_ble_eq_true rfl) ⟨(Nat.le_of_ble_eq_true rfl), (Nat.le_of_ble_eq_true rfl)⟩ hph pl2 (show 0 + 0 = 0 from rfl) (by decide) (fun rh2 Lh2 clh2 lnh2 ivh2 rvh2 h2 => ?_)
        obtain ⟨f2, rfl, rfl, rfl, rfl, rfl, rfl, rgf2, exf2⟩ := h2
        refine c_st (st2 := [(va_rf f2)]) rfl ?_
        have gf2 : f2 = none ∨ (0 ≤ zz1 ∧ zz1 < ivb1 rb2 1) := exf2
        refine c_astorer (r := f2) (lv2 := [(4, (va_rf f2)), (3, .int (iI k)), (0, .ref a0), (1, .int (iI i)), (2, .int (iI n))]) C dX11_chainLines_24 (by decide) rfl ?_
        refine c_aloadr (j := 0) (r := f2) C dX11_chainLines_26 rfl ?_
        refine c_ifnull (r := f2) (tgt := 59) C dX11_chainLines_28 (by decide) (fun oq1 => ?_) (fun ob1 oq1 => ?_)
        · subst oq1
          refine c_lv (lv2 := [(4, .null), (3, .int (iI k)), (0, .ref a0), (1, .int (iI i)), (2, .int (iI n))]) [0, 1, 2, 3, 4] rfl ?_
          refine c_st (st2 := []) rfl ?_
          refine c_iinc (z := k) (j := 1) (lv2 := [(3, .int (iI (k + 1))), (4, .null), (0, .ref a0), (1, .int (iI i)), (2, .int (iI n))]) C dX11_chainLines_59 rfl (by decide) rfl ?_
          refine c_goto (tgt := 9) C dX11_chainLines_62 (by decide) ?_
          refine c_lv (lv2 := [(3, .int (iI (k + 1))), (0, .ref a0), (1, .int (iI i)), (2, .int (iI n))]) [0, 2, 3, 4] rfl ?_
          exact ih1  (k + 1) _ _ _ _ _ (by omega) Xb1 Wb1 Fb1  (by omega)
        · subst oq1
          have tob1 := rgf2 ob1 rfl
          refine c_lv (lv2 := [(4, .ref ob1), (3, .int (iI k)), (0, .ref a0), (1, .int (iI i)), (2, .int (iI n))]) [0, 1, 2, 3, 4] rfl ?_
          refine c_st (st2 := []) rfl ?_
          refine c_aload_n (j := 2) (x := a0) C dX11_chainLines_31 rfl ?_
          have re1 : rvb1 a0 7 = rv a0 7 := (Fb1.r t_a0 rfl 7)
          rw [rq1] at re1
          refine c_getr (k := 7) C ck_12 dX11_chainLines_32 w2_51 (by decide) ty1 rfl rfl (by decide) rfl re1 ?_
          refine c_st (st2 := [.ref (sk 16)]) rfl ?_
          refine c_aload (j := 0) (x := ob1) C dX11_chainLines_35 rfl ?_
          refine c_iload_n (j := 3) C dX11_chainLines_37 rfl ?_
          refine c_iload_n (j := 1) C dX11_chainLines_38 rfl ?_
          refine c_iadd C dX11_chainLines_39 ?_
          obtain ⟨zz2, hzz2, ezz2⟩ := iI_of (iI (i + k))
          refine c_st (st2 := [.int (iI zz2), .ref ob1, .ref (sk 16)]) (by rw [ezz2]) ?_
          refine c_aload_n (j := 2) (x := a0) C dX11_chainLines_40 rfl ?_
          refine hv2 (show (-2147483648) ≤ ivb1 a0 13 ∧ ivb1 a0 13 ≤ 2147483647 from Wb1.int ty1 13) (show ivb1 a0 13 = iv a0 13 from Fb1.i t_a0 rfl 13) (fun ri3 ie3 => ?_)
          refine c_get (k := 13) C ck_12 dX11_chainLines_41 w2_57 (by decide) ty1 rfl rfl (by decide) rfl ?_
          refine c_iload_n (j := 1) C dX11_chainLines_44 rfl ?_
          refine c_iload_n (j := 4) C dX11_chainLines_45 rfl ?_
          refine c_iconst C dX11_chainLines_46 ?_
          refine c_isub C dX11_chainLines_47 ?_
          refine c_icmp_ne (tgt := 55) C ⟨by omega, by omega⟩ ⟨by omega, by omega⟩ dX11_chainLines_48 (by decide) (fun c2 => ?_) (fun c2 => ?_)
          · refine c_iconst C dX11_chainLines_55 ?_
            have ty2 := Xb1.ty tsk16
            refine d_callV (As := [.ref ob1, .int (iI zz2), .int (iI (ivb1 a0 13)), .int (iI 0)]) (rest := []) C hM (C_chain (a0 := (sk 16)) (a1 := ob1) (x := zz2) (y := ivb1 a0 13) (g := 0) Wb1 skb1 ty2 tob1 (by omega) (by omega) ⟨by decide, by decide⟩ ) dX11_chainLines_56 kV_X11_347 rfl ty2 rfl rfl (by decide) ck_4 rfl (Nat.le_of_ble_eq_true rfl) ⟨(Nat.le_of_ble_eq_true rfl), (Nat.le_of_ble_eq_true rfl)⟩ hph pl2 (show 0 + 0 = 0 from rfl) (by decide) (fun rh3 Lh3 clh3 lnh3 ivh3 rvh3 h3 => ?_)
            obtain ⟨rfl, xl3, fl3, W3, exf3⟩ := h3
            refine hv20 (Fb1.call Xb1 fl3 rfl) (Xb1.ty tsk2) (Xb1.ty tsk3) (Xb1.ty tsk4) (Xb1.ty tsk5) (Xb1.ty tsk6) (Xb1.ty tsk7) (Xb1.ty tsk8) (Xb1.ty tsk9) (Xb1.ty tsk10) (Xb1.ty tsk13) (Xb1.ty tsk14) (Xb1.ty tsk15) (Xb1.ty tsk17) (Xb1.ty tsk22) (Xb1.ty tsk23) (Xb1.ty tsk24) (Xb1.ty tsk25) (Xb1.trans xl3) (xl3.skl skb1) (fun F2 ty3 ty4 ty5 ty6 ty7 ty8 ty9 ty10 ty11 ty12 ty13 ty14 ty15 ty16 ty17 ty18 ty19 X1 sk1 => ?_)
            refine c_st (st2 := []) rfl ?_
            refine c_iinc (z := k) (j := 1) (lv2 := [(3, .int (iI (k + 1))), (4, .ref ob1), (0, .ref a0), (1, .int (iI i)), (2, .int (iI n))]) C dX11_chainLines_59 rfl (by decide) rfl ?_
            refine c_goto (tgt := 9) C dX11_chainLines_62 (by decide) ?_
            refine c_lv (lv2 := [(3, .int (iI (k + 1))), (0, .ref a0), (1, .int (iI i)), (2, .int (iI n))]) [0, 2, 3, 4] rfl ?_
            exact ih1  (k + 1) _ _ _ _ _ (by omega) X1 W3 F2  (by omega)
          · refine c_iconst C dX11_chainLines_51 ?_
            refine c_goto (tgt := 56) C dX11_chainLines_52 (by decide) ?_
            have ty20 := Xb1.ty tsk16
            refine d_callV (As := [.ref ob1, .int (iI zz2), .int (iI (ivb1 a0 13)), .int (iI 1)]) (rest := []) C hM (C_chain (a0 := (sk 16)) (a1 := ob1) (x := zz2) (y := ivb1 a0 13) (g := 1) Wb1 skb1 ty20 tob1 (by omega) (by omega) ⟨by decide, by decide⟩ ) dX11_chainLines_56 kV_X11_347 rfl ty20 rfl rfl (by decide) ck_4 rfl (Nat.le_of_ble_eq_true rfl) ⟨(Nat.le_of_ble_eq_true rfl), (Nat.le_of_ble_eq_true rfl)⟩ hph pl2 (show 0 + 0 = 0 from rfl) (by decide) (fun rh4 Lh4 clh4 lnh4 ivh4 rvh4 h4 => ?_)
            obtain ⟨rfl, xl4, fl4, W4, exf4⟩ := h4
            refine hv20 (Fb1.call Xb1 fl4 rfl) (Xb1.ty tsk2) (Xb1.ty tsk3) (Xb1.ty tsk4) (Xb1.ty tsk5) (Xb1.ty tsk6) (Xb1.ty tsk7) (Xb1.ty tsk8) (Xb1.ty tsk9) (Xb1.ty tsk10) (Xb1.ty tsk13) (Xb1.ty tsk14) (Xb1.ty tsk15) (Xb1.ty tsk17) (Xb1.ty tsk22) (Xb1.ty tsk23) (Xb1.ty tsk24) (Xb1.ty tsk25) (Xb1.trans xl4) (xl4.skl skb1) (fun F3 ty21 ty22 ty23 ty24 ty25 ty26 ty27 ty28 ty29 ty30 ty31 ty32 ty33 ty34 ty35 ty36 ty37 X2 sk2 => ?_)
            refine c_st (st2 := []) rfl ?_
            refine c_iinc (z := k) (j := 1) (lv2 := [(3, .int (iI (k + 1))), (4, .ref ob1), (0, .ref a0), (1, .int (iI i)), (2, .int (iI n))]) C dX11_chainLines_59 rfl (by decide) rfl ?_
            refine c_goto (tgt := 9) C dX11_chainLines_62 (by decide) ?_
            refine c_lv (lv2 := [(3, .int (iI (k + 1))), (0, .ref a0), (1, .int (iI i)), (2, .int (iI n))]) [0, 2, 3, 4] rfl ?_
            exact ih1  (k + 1) _ _ _ _ _ (by omega) X2 W4 F3  (by omega)
  refine c_lv (lv2 := [(3, .int (iI 0)), (0, .ref a0), (1, .int (iI i)), (2, .int (iI n))]) [0, 1, 2, 3] rfl ?_
  exact Lp1 2147483650 0 _ _ _ _ _ (by omega) hX0 W1 F1  (by omega)
set_option maxHeartbeats 4000000 in
set_option maxRecDepth 100000 in
theorem C_read {l : Launch} {G : GT} {mi : Nat} {sk : Nat → Nat} {L : List Nat} {cl ln : Nat → Nat} {iv : Nat → Nat → Int} {rv : Nat → Nat → Option Nat}  {a0 : Nat} {i : Int} {x : Int} {n : Int} (hW : WT (g0 G) sk L cl ln iv rv) (hS : SKL sk L cl) (t_a0 : ty L cl a0 1) (h_i : -2147483648 ≤ i ∧ i ≤ 2147483647) (h_x : -2147483648 ≤ x ∧ x ≤ 2147483647) (h_n : -2147483648 ≤ n ∧ n ≤ 2147483647) (hmr : MRK sk cl iv rv) : Mc l G mi (Phi (g0 G) sk) PHM yX11_read cX11_read 6 (some .int) 10 [.ref a0, .int (iI i), .int (iI x), .int (iI n)] L cl ln iv rv 0 (fun v L2 cl2 ln2 iv2 rv2 => ∃ f : Int, v = some (.int (iI f)) ∧ XT L cl ln L2 cl2 ln2 ∧ fT [1, 4, 34, 8, 38, 9, 39, 16, 10, 40, 24, 1002, 25, 1003, 6, 36, 7, 37] L cl iv rv iv2 rv2 ∧ WT (g0 G) sk L2 cl2 ln2 iv2 rv2 ∧ (-2147483648 ≤ f ∧ f ≤ 2147483647) ∧ (True) ∧ iv2 a0 11 = iv a0 11 ∧ iv2 a0 12 = iv a0 12 ∧ iv2 a0 13 = iv a0 13 ∧ iv2 a0 14 = iv a0 14 ∧ iv2 a0 15 = iv a0 15 ∧ iv2 a0 16 = iv a0 16 ∧ rv2 a0 9 = rv a0 9 ∧ rv2 a0 10 = rv a0 10) := by
  refine Mc.mk (by decide) (Nat.le_of_ble_eq_true rfl) ?_
  intro p e s m args below meth c A C hM
  refine hv21 (Phi.le hW hS) (show ty L cl (sk 2) 2 from ⟨(hS 2 rfl).1, by rw [(hS 2 rfl).2]; rfl⟩) (show ty L cl (sk 3) 3 from ⟨(hS 3 rfl).1, by rw [(hS 3 rfl).2]; rfl⟩) (show ty L cl (sk 4) 4 from ⟨(hS 4 rfl).1, by rw [(hS 4 rfl).2]; rfl⟩) (show ty L cl (sk 5) 5 from ⟨(hS 5 rfl).1, by rw [(hS 5 rfl).2]; rfl⟩) (show ty L cl (sk 6) 6 from ⟨(hS 6 rfl).1, by rw [(hS 6 rfl).2]; rfl⟩) (show ty L cl (sk 7) 7 from ⟨(hS 7 rfl).1, by rw [(hS 7 rfl).2]; rfl⟩) (show ty L cl (sk 8) 8 from ⟨(hS 8 rfl).1, by rw [(hS 8 rfl).2]; rfl⟩) (show ty L cl (sk 9) 9 from ⟨(hS 9 rfl).1, by rw [(hS 9 rfl).2]; rfl⟩) (show ty L cl (sk 10) 10 from ⟨(hS 10 rfl).1, by rw [(hS 10 rfl).2]; rfl⟩) (show ty L cl (sk 13) 13 from ⟨(hS 13 rfl).1, by rw [(hS 13 rfl).2]; rfl⟩) (show ty L cl (sk 14) 14 from ⟨(hS 14 rfl).1, by rw [(hS 14 rfl).2]; rfl⟩) (show ty L cl (sk 15) 15 from ⟨(hS 15 rfl).1, by rw [(hS 15 rfl).2]; rfl⟩) (show ty L cl (sk 16) 16 from ⟨(hS 16 rfl).1, by rw [(hS 16 rfl).2]; rfl⟩) (show ty L cl (sk 17) 17 from ⟨(hS 17 rfl).1, by rw [(hS 17 rfl).2]; rfl⟩) (show ty L cl (sk 22) 22 from ⟨(hS 22 rfl).1, by rw [(hS 22 rfl).2]; rfl⟩) (show ty L cl (sk 23) 23 from ⟨(hS 23 rfl).1, by rw [(hS 23 rfl).2]; rfl⟩) (show ty L cl (sk 24) 24 from ⟨(hS 24 rfl).1, by rw [(hS 24 rfl).2]; rfl⟩) (show ty L cl (sk 25) 25 from ⟨(hS 25 rfl).1, by rw [(hS 25 rfl).2]; rfl⟩) (show XT L cl ln L cl ln from XT.refl) (show fT [1, 4, 34, 8, 38, 9, 39, 16, 10, 40, 24, 1002, 25, 1003, 6, 36, 7, 37] L cl iv rv iv rv from fT.refl) (fun hph tsk2 tsk3 tsk4 tsk5 tsk6 tsk7 tsk8 tsk9 tsk10 tsk13 tsk14 tsk15 tsk16 tsk17 tsk22 tsk23 tsk24 tsk25 hX0 hF0 => ?_)
  refine c_aload_n (j := 0) (x := a0) C dX11_read_0 rfl ?_
  obtain ⟨rb1, rq1, trb1⟩ := hW.ref t_a0 4 rfl rfl rfl
  have erb1 := hW.sk trb1 (by decide) rfl
  subst erb1
  refine c_getr (k := 4) C ck_12 dX11_read_1 w2_48 (by decide) t_a0 rfl rfl (by decide) rfl rq1 ?_
  refine c_st (st2 := [.ref (sk 13)]) rfl ?_
  refine c_iload_n (j := 1) C dX11_read_4 rfl ?_
  refine d_callV (As := [.int (iI i)]) (rest := []) C hM (C_whole (a0 := (sk 13)) (i := i) hW hS tsk13 (by omega) hmr) dX11_read_5 kV_X11_231 rfl tsk13 rfl rfl (by decide) ck_11 rfl (Nat.le_of_ble_eq_true rfl) ⟨(Nat.le_of_ble_eq_true rfl), (Nat.le_of_ble_eq_true rfl)⟩ hph hph (show 0 + 0 = 0 from rfl) (by decide) (fun rh1 Lh1 clh1 lnh1 ivh1 rvh1 h1 => ?_)
  obtain ⟨f1, rfl, rfl, rfl, rfl, rfl, rfl, rgf1, exf1⟩ := h1
  refine c_st (st2 := [(va_rf f1)]) rfl ?_
  refine c_astorer (r := f1) (lv2 := [(4, (va_rf f1)), (0, .ref a0), (1, .int (iI i)), (2, .int (iI x)), (3, .int (iI n))]) C dX11_read_8 (by decide) rfl ?_
  refine c_aloadr (j := 0) (r := f1) C dX11_read_10 rfl ?_
  refine c_ifnonnull (r := f1) (tgt := 21) C dX11_read_12 (by decide) (fun ob1 oq1 => ?_) (fun oq1 => ?_)
  · subst oq1
    have tob1 := rgf1 ob1 rfl
    refine c_lv (lv2 := [(4, .ref ob1), (0, .ref a0), (1, .int (iI i)), (2, .int (iI x)), (3, .int (iI n))]) [0, 1, 2, 3, 4] rfl ?_
    refine c_st (st2 := []) rfl ?_
    refine c_iload_n (j := 4) C dX11_read_21 rfl ?_
    refine c_if_ge (tgt := 31) C ⟨by omega, by omega⟩ dX11_read_22 (by decide) (fun c1 => ?_) (fun c1 => ?_)
    · refine c_iconst C dX11_read_31 ?_
      refine c_istore (lv2 := [(5, .int (iI 0)), (4, .ref ob1), (0, .ref a0), (1, .int (iI i)), (2, .int (iI x)), (3, .int (iI n))]) C dX11_read_32 (by decide) rfl ?_
      have Lp1 : ∀ (nn : Nat) (k : Int) (Lb1 : List Nat) (clb1 lnb1 : Nat → Nat) (ivb1 : Nat → Nat → Int) (rvb1 : Nat → Nat → Option Nat) , n + 1 - k < (nn : Int) → XT L cl ln Lb1 clb1 lnb1 → WT (g0 G) sk Lb1 clb1 lnb1 ivb1 rvb1 → fT [1, 4, 34, 8, 38, 9, 39, 16, 10, 40, 24, 1002, 25, 1003, 6, 36, 7, 37] L cl iv rv ivb1 rvb1 → (0 ≤ k ∧ k ≤ n) → (ivb1 a0 11 = iv a0 11) → (ivb1 a0 12 = iv a0 12) → (ivb1 a0 13 = iv a0 13) → (ivb1 a0 14 = iv a0 14) → (ivb1 a0 15 = iv a0 15) → (ivb1 a0 16 = iv a0 16) → (rvb1 a0 9 = rv a0 9) → (rvb1 a0 10 = rv a0 10) → cw p l e 10 ((PHM) + 0 - ((Phi (g0 G) sk) ln rv)) s m args below meth c G A 6 (MQ below (Qu G A (Qp G (Phi (g0 G) sk) ((Phi (g0 G) sk) ln rv) 0 (fun v L2 cl2 ln2 iv2 rv2 => ∃ f : Int, v = some (.int (iI f)) ∧ XT L cl ln L2 cl2 ln2 ∧ fT [1, 4, 34, 8, 38, 9, 39, 16, 10, 40, 24, 1002, 25, 1003, 6, 36, 7, 37] L cl iv rv iv2 rv2 ∧ WT (g0 G) sk L2 cl2 ln2 iv2 rv2 ∧ (-2147483648 ≤ f ∧ f ≤ 2147483647) ∧ (True) ∧ iv2 a0 11 = iv a0 11 ∧ iv2 a0 12 = iv a0 12 ∧ iv2 a0 13 = iv a0 13 ∧ iv2 a0 14 = iv a0 14 ∧ iv2 a0 15 = iv a0 15 ∧ iv2 a0 16 = iv a0 16 ∧ rv2 a0 9 = rv a0 9 ∧ rv2 a0 10 = rv a0 10))) args s (((PHM) + 0 - ((Phi (g0 G) sk) ln rv)) / 16) ((PHM) + 0 - ((Phi (g0 G) sk) ln rv)) A) (Phi (g0 G) sk) ((Phi (g0 G) sk) ln rv) Lb1 clb1 lnb1 ivb1 rvb1 0 34 [(5, .int (iI k)), (4, .ref ob1), (0, .ref a0), (1, .int (iI i)), (2, .int (iI x)), (3, .int (iI n))] [] := by
        intro nn
        induction nn with
        | zero =>
          intro  k Lb1 clb1 lnb1 ivb1 rvb1 hm Xb1 Wb1 Fb1  hk hkp11 hkp12 hkp13 hkp14 hkp15 hkp16 hkr9 hkr10
          have skb1 := Xb1.skl hS
          exact absurd hm (by omega)
        | succ nn ih1 =>
          intro  k Lb1 clb1 lnb1 ivb1 rvb1 hm Xb1 Wb1 Fb1  hk hkp11 hkp12 hkp13 hkp14 hkp15 hkp16 hkr9 hkr10
          refine hv2 (Xb1.skl hS) (MRK.call hmr hW hS Xb1 Fb1 rfl rfl) (fun skb1 mrb1 => ?_)
          refine c_iload (j := 0) C dX11_read_34 rfl ?_
          refine c_iload_n (j := 5) C dX11_read_36 rfl ?_
          refine c_icmp_ge (tgt := 76) C ⟨by omega, by omega⟩ ⟨by omega, by omega⟩ dX11_read_37 (by decide) (fun c2 => ?_) (fun c2 => ?_)
          · refine c_aload_n (j := 2) (x := a0) C dX11_read_76 rfl ?_
            refine c_iload_n (j := 4) C dX11_read_77 rfl ?_
            refine c_iload_n (j := 5) C dX11_read_78 rfl ?_
            refine hv2 (Xb1.ty t_a0) (Phi.le Wb1 skb1) (fun ty1 pl1 => ?_)
            refine d_callV (As := [.int (iI x), .int (iI n)]) (rest := []) C hM (C_chainLines (a0 := a0) (i := x) (n := n) Wb1 skb1 ty1 (by omega) (by omega) (by show 0 ≤ n; omega)) dX11_read_79 kV_X11_328 rfl ty1 rfl rfl (by decide) ck_12 rfl (Nat.le_of_ble_eq_true rfl) ⟨(Nat.le_of_ble_eq_true rfl), (Nat.le_of_ble_eq_true rfl)⟩ hph pl1 (show 0 + 0 = 0 from rfl) (by decide) (fun rh2 Lh2 clh2 lnh2 ivh2 rvh2 h2 => ?_)
            obtain ⟨rfl, xl2, fl2, W2, exf2⟩ := h2
            refine hv23 (Fb1.call Xb1 fl2 rfl) (MRK.call mrb1 Wb1 skb1 xl2 fl2 rfl rfl) (Xb1.ty tsk2) (Xb1.ty tsk3) (Xb1.ty tsk4) (Xb1.ty tsk5) (Xb1.ty tsk6) (Xb1.ty tsk7) (Xb1.ty tsk8) (Xb1.ty tsk9) (Xb1.ty tsk10) (Xb1.ty tsk13) (Xb1.ty tsk14) (Xb1.ty tsk15) (Xb1.ty tsk16) (Xb1.ty tsk17) (Xb1.ty tsk22) (Xb1.ty tsk23) (Xb1.ty tsk24) (Xb1.ty tsk25) (Xb1.ty tob1) (Xb1.trans xl2) (xl2.skl skb1) (fun F1 mr1 ty2 ty3 ty4 ty5 ty6 ty7 ty8 ty9 ty10 ty11 ty12 ty13 ty14 ty15 ty16 ty17 ty18 ty19 ty20 X1 sk1 => ?_)
            refine c_st (st2 := []) rfl ?_
            refine c_aload_n (j := 2) (x := a0) C dX11_read_82 rfl ?_
            have ty21 := xl2.ty ty1
            obtain ⟨rb2, rq2, trb2⟩ := W2.ref ty21 7 rfl rfl rfl
            have erb2 := W2.sk trb2 (by decide) rfl
            subst erb2
            refine c_getr (k := 7) C ck_12 dX11_read_83 w2_51 (by decide) ty21 rfl rfl (by decide) rfl rq2 ?_
            refine c_st (st2 := [.ref (sk 16)]) rfl ?_
            refine c_aload (j := 1) (x := ob1) C dX11_read_86 rfl ?_
            refine hv3 (xl2.ty ty14) (xl2.ty ty20) (Phi.le W2 sk1) (fun ty22 ty23 pl2 => ?_)
            refine d_callV (As := [.ref ob1]) (rest := []) C hM (C_gather (a0 := (sk 16)) (a1 := ob1) W2 sk1 ty22 ty23  ) dX11_read_88 kV_X11_331 rfl ty22 rfl rfl (by decide) ck_4 rfl (Nat.le_of_ble_eq_true rfl) ⟨(Nat.le_of_ble_eq_true rfl), (Nat.le_of_ble_eq_true rfl)⟩ hph pl2 (show 0 + 0 = 0 from rfl) (by decide) (fun rh3 Lh3 clh3 lnh3 ivh3 rvh3 h3 => ?_)
            obtain ⟨rfl, xl3, fl3, W3, exf3⟩ := h3
            refine hv21 (F1.call X1 fl3 rfl) (MRK.call mr1 W2 sk1 xl3 fl3 rfl rfl) (xl2.ty ty2) (xl2.ty ty3) (xl2.ty ty4) (xl2.ty ty5) (xl2.ty ty6) (xl2.ty ty7) (xl2.ty ty8) (xl2.ty ty9) (xl2.ty ty10) (xl2.ty ty11) (xl2.ty ty12) (xl2.ty ty13) (xl2.ty ty15) (xl2.ty ty16) (xl2.ty ty17) (xl2.ty ty18) (xl2.ty ty19) (X1.trans xl3) (xl3.skl sk1) (fun F2 mr2 ty24 ty25 ty26 ty27 ty28 ty29 ty30 ty31 ty32 ty33 ty34 ty35 ty36 ty37 ty38 ty39 ty40 X2 sk2 => ?_)
            refine c_st (st2 := []) rfl ?_
            refine c_aload_n (j := 2) (x := a0) C dX11_read_91 rfl ?_
            refine hv2 (xl3.ty ty21) (show rvh3 a0 7 = rvh2 a0 7 from (fl3.r ty21 rfl 7)) (fun ty41 re1 => ?_)
            rw [rq2] at re1
            refine c_getr (k := 7) C ck_12 dX11_read_92 w2_51 (by decide) ty41 rfl rfl (by decide) rfl re1 ?_
            refine c_st (st2 := [.ref (sk 16)]) rfl ?_
            refine hv2 (xl3.ty ty22) (Phi.le W3 sk2) (fun ty42 pl3 => ?_)
            refine d_callV (As := []) (rest := []) C hM (C_decode (a0 := (sk 16)) W3 sk2 ty42  ) dX11_read_95 kV_X11_335 rfl ty42 rfl rfl (by decide) ck_4 rfl (Nat.le_of_ble_eq_true rfl) ⟨(Nat.le_of_ble_eq_true rfl), (Nat.le_of_ble_eq_true rfl)⟩ hph pl3 (show 0 + 0 = 0 from rfl) (by decide) (fun rh4 Lh4 clh4 lnh4 ivh4 rvh4 h4 => ?_)
            obtain ⟨f4, rfl, xl4, fl4, W4, rgf4, exf4⟩ := h4
            refine hv22 (F2.call X2 fl4 rfl) (MRK.call mr2 W3 sk2 xl4 fl4 rfl rfl) (xl3.ty ty24) (xl3.ty ty25) (xl3.ty ty26) (xl3.ty ty27) (xl3.ty ty28) (xl3.ty ty29) (xl3.ty ty30) (xl3.ty ty31) (xl3.ty ty32) (xl3.ty ty33) (xl3.ty ty34) (xl3.ty ty35) (xl3.ty ty36) (xl3.ty ty37) (xl3.ty ty38) (xl3.ty ty39) (xl3.ty ty40) (xl3.ty ty23) (X2.trans xl4) (xl4.skl sk2) (fun F3 mr3 ty43 ty44 ty45 ty46 ty47 ty48 ty49 ty50 ty51 ty52 ty53 ty54 ty55 ty56 ty57 ty58 ty59 ty60 X3 sk3 => ?_)
            refine c_st (st2 := [.int (iI f4)]) rfl ?_
            refine c_istore (lv2 := [(5, .int (iI f4)), (4, .ref ob1), (0, .ref a0), (1, .int (iI i)), (2, .int (iI x)), (3, .int (iI n))]) C dX11_read_98 (by decide) rfl ?_
            refine c_aload_n (j := 2) (x := a0) C dX11_read_100 rfl ?_
            have ty61 := xl4.ty ty41
            obtain ⟨rb3, rq3, trb3⟩ := W4.ref ty61 2 rfl rfl rfl
            have erb3 := W4.sk trb3 (by decide) rfl
            subst erb3
            refine c_getr (k := 2) C ck_12 dX11_read_101 w2_46 (by decide) ty61 rfl rfl (by decide) rfl rq3 ?_
            refine c_st (st2 := [.ref (sk 4)]) rfl ?_
            refine hv2 (xl4.ty ty45) (Phi.le W4 sk3) (fun ty62 pl4 => ?_)
            refine d_callV (As := []) (rest := []) C hM (C_clear_4 (a0 := (sk 4)) W4 sk3 ty62  ) dX11_read_104 kV_X11_164 rfl ty62 rfl rfl (by decide) ck_2 rfl (Nat.le_of_ble_eq_true rfl) ⟨(Nat.le_of_ble_eq_true rfl), (Nat.le_of_ble_eq_true rfl)⟩ hph pl4 (show 0 + 0 = 0 from rfl) (by decide) (fun rh5 Lh5 clh5 lnh5 ivh5 rvh5 h5 => ?_)
            obtain ⟨rfl, rfl, rfl, rfl, rfl, fl5, W5, exf5⟩ := h5
            refine hv2 (F3.call X3 fl5 rfl) (MRK.call mr3 W4 sk3 XT.refl fl5 rfl rfl) (fun F4 mr4 => ?_)
            refine c_st (st2 := []) rfl ?_
            refine hv2 (show 0 ≤ ivh5 (sk 4) 2 ∧ ivh5 (sk 4) 2 ≤ 4000 from W5.int ty62 2) (show ivh5 (sk 4) 2 = 0 from exf5) (fun ri1 gf5 => ?_)
            refine c_iload (j := 0) C dX11_read_107 rfl ?_
            refine c_if_ne (tgt := 126) C ⟨by omega, by omega⟩ dX11_read_109 (by decide) (fun c3 => ?_) (fun c3 => ?_)
            · refine c_aload_n (j := 2) (x := a0) C dX11_read_126 rfl ?_
              have re2 : rvh4 a0 7 = rvh3 a0 7 := (fl4.r ty41 rfl 7)
              rw [re1] at re2
              refine c_getr (k := 7) C ck_12 dX11_read_127 w2_51 (by decide) ty61 rfl rfl (by decide) rfl re2 ?_
              refine c_st (st2 := [.ref (sk 16)]) rfl ?_
              have ty63 := xl4.ty ty42
              obtain ⟨rb4, rq4, trb4⟩ := W5.ref ty63 6 rfl rfl rfl
              have erb4 := W5.sk trb4 (by decide) rfl
              subst erb4
              refine c_getr (k := 6) C ck_4 dX11_read_130 w1_201 (by decide) ty63 rfl rfl (by decide) rfl rq4 ?_
              refine c_st (st2 := [.ref (sk 10)]) rfl ?_
              have ty64 := xl4.ty ty51
              refine hv2 (show 0 ≤ ivh5 (sk 10) 2 ∧ ivh5 (sk 10) 2 ≤ 4001 from W5.int ty64 2) (show ivh5 (sk 10) 2 = ivh4 (sk 10) 2 from fl5.i ty64 rfl 2) (fun ri2 ie2 => ?_)
              refine c_get (k := 2) C ck_2 dX11_read_133 w1_44 (by decide) ty64 rfl rfl (by decide) rfl ?_
              refine c_sipush (z := 4000) C dX11_read_136 (by decide) ?_
              refine c_icmp_le (tgt := 149) C (r32_c (lo := 0) (hi := 4001) ri2.1 ri2.2 (by decide) (by decide)) ⟨by decide, by decide⟩ dX11_read_139 (by decide) (fun c4 => ?_) (fun c4 => ?_)
              · refine c_aload_n (j := 2) (x := a0) C dX11_read_149 rfl ?_
                refine c_getr (k := 2) C ck_12 dX11_read_150 w2_46 (by decide) ty61 rfl rfl (by decide) rfl rq3 ?_
                refine c_st (st2 := [.ref (sk 4)]) rfl ?_
                refine c_aload_n (j := 2) (x := a0) C dX11_read_153 rfl ?_
                refine c_getr (k := 7) C ck_12 dX11_read_154 w2_51 (by decide) ty61 rfl rfl (by decide) rfl re2 ?_
                refine c_st (st2 := [.ref (sk 16), .ref (sk 4)]) rfl ?_
                refine c_getr (k := 6) C ck_4 dX11_read_157 w1_201 (by decide) ty63 rfl rfl (by decide) rfl rq4 ?_
                refine c_st (st2 := [.ref (sk 10), .ref (sk 4)]) rfl ?_
                refine d_callV (As := [.ref (sk 10)]) (rest := []) C hM (C_addAll_4 (a0 := (sk 4)) (a1 := (sk 10)) W5 sk3 ty62 ty64  ) dX11_read_160 kV_X11_227 rfl ty62 rfl rfl (by decide) ck_2 rfl (Nat.le_of_ble_eq_true rfl) ⟨(Nat.le_of_ble_eq_true rfl), (Nat.le_of_ble_eq_true rfl)⟩ hph pl4 (show 0 + 0 = 0 from rfl) (by decide) (fun rh6 Lh6 clh6 lnh6 ivh6 rvh6 h6 => ?_)
                obtain ⟨rfl, xl6, fl6, W6, exf6⟩ := h6
                refine hv20 (F4.call X3 fl6 rfl) (MRK.call mr4 W5 sk3 xl6 fl6 rfl rfl) (xl4.ty ty43) (xl4.ty ty44) (xl4.ty ty46) (xl4.ty ty47) (xl4.ty ty48) (xl4.ty ty49) (xl4.ty ty50) (xl4.ty ty52) (xl4.ty ty53) (xl4.ty ty54) (xl4.ty ty55) (xl4.ty ty56) (xl4.ty ty57) (xl4.ty ty58) (xl4.ty ty59) (xl4.ty ty60) (X3.trans xl6) (xl6.skl sk3) (fun F5 mr5 ty65 ty66 ty67 ty68 ty69 ty70 ty71 ty72 ty73 ty74 ty75 ty76 ty77 ty78 ty79 ty80 X4 sk4 => ?_)
                refine c_st (st2 := []) rfl ?_
                refine hv2 (xl6.ty ty62) (show ivh6 (sk 4) 2 = min (ivh5 (sk 4) 2 + ivh5 (sk 10) 2) 4000 from exf6) (fun ty81 gf6 => ?_)
                have ri3 : 0 ≤ ivh6 (sk 4) 2 ∧ ivh6 (sk 4) 2 ≤ 4000 := W6.int ty81 2
                refine c_aload_n (j := 2) (x := a0) C dX11_read_163 rfl ?_
                refine c_aload_n (j := 2) (x := a0) C dX11_read_164 rfl ?_
                refine hv2 (xl6.ty ty61) (show rvh6 a0 2 = rvh4 a0 2 from (fl6.r ty61 rfl 2)) (fun ty82 re3 => ?_)
                rw [rq3] at re3
                refine c_getr (k := 2) C ck_12 dX11_read_165 w2_46 (by decide) ty82 rfl rfl (by decide) rfl re3 ?_
                refine c_st (st2 := [.ref (sk 4), .ref a0]) rfl ?_
                refine c_get (k := 2) C ck_2 dX11_read_168 w1_44 (by decide) ty81 rfl rfl (by decide) rfl ?_
                have pl5 := Phi.le W6 sk4
                refine d_callV (As := [.int (iI (ivh6 (sk 4) 2))]) (rest := []) C hM (C_done (a0 := a0) (x := ivh6 (sk 4) 2) W6 sk4 ty82 (by omega) ) dX11_read_171 kV_X11_109 rfl ty82 rfl rfl (by decide) ck_12 rfl (Nat.le_of_ble_eq_true rfl) ⟨(Nat.le_of_ble_eq_true rfl), (Nat.le_of_ble_eq_true rfl)⟩ hph pl5 (show 0 + 0 = 0 from rfl) (by decide) (fun rh7 Lh7 clh7 lnh7 ivh7 rvh7 h7 => ?_)
                obtain ⟨f7, rfl, rfl, rfl, rfl, rfl, fl7, W7, rgf7, exf7, kp11f7, kp12f7, kp13f7, kp14f7, kp15f7, kp16f7⟩ := h7
                refine hv38 (show 1 ≤ ivh6 a0 11 ∧ ivh6 a0 11 ≤ 100 from W6.int ty82 11) (show ivh6 a0 11 = ivh5 a0 11 from fl6.i ty61 rfl 11) (show ivh5 a0 11 = ivh4 a0 11 from fl5.i ty61 rfl 11) (show ivh4 a0 11 = ivh3 a0 11 from fl4.i ty41 rfl 11) (show ivh3 a0 11 = ivh2 a0 11 from fl3.i ty21 rfl 11) (show ivh2 a0 11 = ivb1 a0 11 from fl2.i ty1 rfl 11) (show 1 ≤ ivh6 a0 12 ∧ ivh6 a0 12 ≤ 50 from W6.int ty82 12) (show ivh6 a0 12 = ivh5 a0 12 from fl6.i ty61 rfl 12) (show ivh5 a0 12 = ivh4 a0 12 from fl5.i ty61 rfl 12) (show ivh4 a0 12 = ivh3 a0 12 from fl4.i ty41 rfl 12) (show ivh3 a0 12 = ivh2 a0 12 from fl3.i ty21 rfl 12) (show ivh2 a0 12 = ivb1 a0 12 from fl2.i ty1 rfl 12) (show (-2147483648) ≤ ivh6 a0 13 ∧ ivh6 a0 13 ≤ 2147483647 from W6.int ty82 13) (show ivh6 a0 13 = ivh5 a0 13 from fl6.i ty61 rfl 13) (show ivh5 a0 13 = ivh4 a0 13 from fl5.i ty61 rfl 13) (show ivh4 a0 13 = ivh3 a0 13 from fl4.i ty41 rfl 13) (show ivh3 a0 13 = ivh2 a0 13 from fl3.i ty21 rfl 13) (show ivh2 a0 13 = ivb1 a0 13 from fl2.i ty1 rfl 13) (show (-2147483648) ≤ ivh6 a0 14 ∧ ivh6 a0 14 ≤ 2147483647 from W6.int ty82 14) (show ivh6 a0 14 = ivh5 a0 14 from fl6.i ty61 rfl 14) (show ivh5 a0 14 = ivh4 a0 14 from fl5.i ty61 rfl 14) (show ivh4 a0 14 = ivh3 a0 14 from fl4.i ty41 rfl 14) (show ivh3 a0 14 = ivh2 a0 14 from fl3.i ty21 rfl 14) (show ivh2 a0 14 = ivb1 a0 14 from fl2.i ty1 rfl 14) (show (-2147483648) ≤ ivh6 a0 15 ∧ ivh6 a0 15 ≤ 2147483647 from W6.int ty82 15) (show ivh6 a0 15 = ivh5 a0 15 from fl6.i ty61 rfl 15) (show ivh5 a0 15 = ivh4 a0 15 from fl5.i ty61 rfl 15) (show ivh4 a0 15 = ivh3 a0 15 from fl4.i ty41 rfl 15) (show ivh3 a0 15 = ivh2 a0 15 from fl3.i ty21 rfl 15) (show ivh2 a0 15 = ivb1 a0 15 from fl2.i ty1 rfl 15) (show (-2147483648) ≤ ivh6 a0 16 ∧ ivh6 a0 16 ≤ 2147483647 from W6.int ty82 16) (show ivh6 a0 16 = ivh5 a0 16 from fl6.i ty61 rfl 16) (show ivh5 a0 16 = ivh4 a0 16 from fl5.i ty61 rfl 16) (show ivh4 a0 16 = ivh3 a0 16 from fl4.i ty41 rfl 16) (show ivh3 a0 16 = ivh2 a0 16 from fl3.i ty21 rfl 16) (show ivh2 a0 16 = ivb1 a0 16 from fl2.i ty1 rfl 16) (F5.call X4 fl7 rfl) (MRK.call mr5 W6 sk4 XT.refl fl7 rfl rfl) (fun ri4 ie5 ie6 ie7 ie8 ie9 ri5 ie11 ie12 ie13 ie14 ie15 ri6 ie17 ie18 ie19 ie20 ie21 ri7 ie23 ie24 ie25 ie26 ie27 ri8 ie29 ie30 ie31 ie32 ie33 ri9 ie35 ie36 ie37 ie38 ie39 F6 mr6 => ?_)
                refine c_st (st2 := [.int (iI f7)]) rfl ?_
                refine hv13 (show ivh7 a0 11 = ivh6 a0 11 from kp11f7) (show ivh7 a0 12 = ivh6 a0 12 from kp12f7) (show ivh7 a0 13 = ivh6 a0 13 from kp13f7) (show ivh7 a0 14 = ivh6 a0 14 from kp14f7) (show ivh7 a0 15 = ivh6 a0 15 from kp15f7) (show ivh7 a0 16 = ivh6 a0 16 from kp16f7) (show f7 = (ivh6 (sk 4) 2) from exf7) (show 1 ≤ ivh7 a0 11 ∧ ivh7 a0 11 ≤ 100 from W7.int ty82 11) (show 1 ≤ ivh7 a0 12 ∧ ivh7 a0 12 ≤ 50 from W7.int ty82 12) (show (-2147483648) ≤ ivh7 a0 13 ∧ ivh7 a0 13 ≤ 2147483647 from W7.int ty82 13) (show (-2147483648) ≤ ivh7 a0 14 ∧ ivh7 a0 14 ≤ 2147483647 from W7.int ty82 14) (show (-2147483648) ≤ ivh7 a0 15 ∧ ivh7 a0 15 ≤ 2147483647 from W7.int ty82 15) (show (-2147483648) ≤ ivh7 a0 16 ∧ ivh7 a0 16 ≤ 2147483647 from W7.int ty82 16) (fun gk11f7 gk12f7 gk13f7 gk14f7 gk15f7 gk16f7 gf7 ri10 ri11 ri12 ri13 ri14 ri15 => ?_)
                exact c_iret C dX11_read_174 rfl (by decide) (rom0 hph pl5 (by decide)) ⟨f7, rfl, X4, F6, W7, ⟨by omega, by omega⟩, trivial, (gk11f7.trans (ie5.trans (ie6.trans (ie7.trans (ie8.trans (ie9.trans hkp11)))))), (gk12f7.trans (ie11.trans (ie12.trans (ie13.trans (ie14.trans (ie15.trans hkp12)))))), (gk13f7.trans (ie17.trans (ie18.trans (ie19.trans (ie20.trans (ie21.trans hkp13)))))), (gk14f7.trans (ie23.trans (ie24.trans (ie25.trans (ie26.trans (ie27.trans hkp14)))))), (gk15f7.trans (ie29.trans (ie30.trans (ie31.trans (ie32.trans (ie33.trans hkp15)))))), (gk16f7.trans (ie35.trans (ie36.trans (ie37.trans (ie38.trans (ie39.trans hkp16)))))), (Eq.trans (show rvh6 a0 9 = rvh4 a0 9 from (fl6.r ty61 rfl 9)) (Eq.trans (show rvh4 a0 9 = rvh3 a0 9 from (fl4.r ty41 rfl 9)) (Eq.trans (show rvh3 a0 9 = rvh2 a0 9 from (fl3.r ty21 rfl 9)) (Eq.trans (show rvh2 a0 9 = rvb1 a0 9 from (fl2.r ty1 rfl 9)) (show rvb1 a0 9 = rv a0 9 from hkr9))))), (Eq.trans (show rvh6 a0 10 = rvh4 a0 10 from (fl6.r ty61 rfl 10)) (Eq.trans (show rvh4 a0 10 = rvh3 a0 10 from (fl4.r ty41 rfl 10)) (Eq.trans (show rvh3 a0 10 = rvh2 a0 10 from (fl3.r ty21 rfl 10)) (Eq.trans (show rvh2 a0 10 = rvb1 a0 10 from (fl2.r ty1 rfl 10)) (show rvb1 a0 10 = rv a0 10 from hkr10)))))⟩
              · refine c_aload_n (j := 2) (x := a0) C dX11_read_142 rfl ?_
                refine c_bipush (z := 6) C dX11_read_143 (by decide) ?_
                refine d_callV (As := [.int (iI 6)]) (rest := []) C hM (C_refuse (a0 := a0) (x := 6) W5 sk3 ty61 ⟨by decide, by decide⟩ ) dX11_read_145 kV_X11_102 rfl ty61 rfl rfl (by decide) ck_12 rfl (Nat.le_of_ble_eq_true rfl) ⟨(Nat.le_of_ble_eq_true rfl), (Nat.le_of_ble_eq_true rfl)⟩ hph pl4 (show 0 + 0 = 0 from rfl) (by decide) (fun rh8 Lh8 clh8 lnh8 ivh8 rvh8 h8 => ?_)
                obtain ⟨f8, rfl, rfl, rfl, rfl, rfl, fl8, W8, rgf8, exf8, kp11f8, kp12f8, kp13f8, kp14f8, kp15f8, kp16f8⟩ := h8
                refine hv32 (show 1 ≤ ivh5 a0 11 ∧ ivh5 a0 11 ≤ 100 from W5.int ty61 11) (show ivh5 a0 11 = ivh4 a0 11 from fl5.i ty61 rfl 11) (show ivh4 a0 11 = ivh3 a0 11 from fl4.i ty41 rfl 11) (show ivh3 a0 11 = ivh2 a0 11 from fl3.i ty21 rfl 11) (show ivh2 a0 11 = ivb1 a0 11 from fl2.i ty1 rfl 11) (show 1 ≤ ivh5 a0 12 ∧ ivh5 a0 12 ≤ 50 from W5.int ty61 12) (show ivh5 a0 12 = ivh4 a0 12 from fl5.i ty61 rfl 12) (show ivh4 a0 12 = ivh3 a0 12 from fl4.i ty41 rfl 12) (show ivh3 a0 12 = ivh2 a0 12 from fl3.i ty21 rfl 12) (show ivh2 a0 12 = ivb1 a0 12 from fl2.i ty1 rfl 12) (show (-2147483648) ≤ ivh5 a0 13 ∧ ivh5 a0 13 ≤ 2147483647 from W5.int ty61 13) (show ivh5 a0 13 = ivh4 a0 13 from fl5.i ty61 rfl 13) (show ivh4 a0 13 = ivh3 a0 13 from fl4.i ty41 rfl 13) (show ivh3 a0 13 = ivh2 a0 13 from fl3.i ty21 rfl 13) (show ivh2 a0 13 = ivb1 a0 13 from fl2.i ty1 rfl 13) (show (-2147483648) ≤ ivh5 a0 14 ∧ ivh5 a0 14 ≤ 2147483647 from W5.int ty61 14) (show ivh5 a0 14 = ivh4 a0 14 from fl5.i ty61 rfl 14) (show ivh4 a0 14 = ivh3 a0 14 from fl4.i ty41 rfl 14) (show ivh3 a0 14 = ivh2 a0 14 from fl3.i ty21 rfl 14) (show ivh2 a0 14 = ivb1 a0 14 from fl2.i ty1 rfl 14) (show (-2147483648) ≤ ivh5 a0 15 ∧ ivh5 a0 15 ≤ 2147483647 from W5.int ty61 15) (show ivh5 a0 15 = ivh4 a0 15 from fl5.i ty61 rfl 15) (show ivh4 a0 15 = ivh3 a0 15 from fl4.i ty41 rfl 15) (show ivh3 a0 15 = ivh2 a0 15 from fl3.i ty21 rfl 15) (show ivh2 a0 15 = ivb1 a0 15 from fl2.i ty1 rfl 15) (show (-2147483648) ≤ ivh5 a0 16 ∧ ivh5 a0 16 ≤ 2147483647 from W5.int ty61 16) (show ivh5 a0 16 = ivh4 a0 16 from fl5.i ty61 rfl 16) (show ivh4 a0 16 = ivh3 a0 16 from fl4.i ty41 rfl 16) (show ivh3 a0 16 = ivh2 a0 16 from fl3.i ty21 rfl 16) (show ivh2 a0 16 = ivb1 a0 16 from fl2.i ty1 rfl 16) (F4.call X3 fl8 rfl) (MRK.call mr4 W5 sk3 XT.refl fl8 rfl rfl) (fun ri16 ie47 ie48 ie49 ie50 ri17 ie52 ie53 ie54 ie55 ri18 ie57 ie58 ie59 ie60 ri19 ie62 ie63 ie64 ie65 ri20 ie67 ie68 ie69 ie70 ri21 ie72 ie73 ie74 ie75 F7 mr7 => ?_)
                refine c_st (st2 := [.int (iI f8)]) rfl ?_
                refine hv13 (show ivh8 a0 11 = ivh5 a0 11 from kp11f8) (show ivh8 a0 12 = ivh5 a0 12 from kp12f8) (show ivh8 a0 13 = ivh5 a0 13 from kp13f8) (show ivh8 a0 14 = ivh5 a0 14 from kp14f8) (show ivh8 a0 15 = ivh5 a0 15 from kp15f8) (show ivh8 a0 16 = ivh5 a0 16 from kp16f8) (show f8 = -1 from exf8) (show 1 ≤ ivh8 a0 11 ∧ ivh8 a0 11 ≤ 100 from W8.int ty61 11) (show 1 ≤ ivh8 a0 12 ∧ ivh8 a0 12 ≤ 50 from W8.int ty61 12) (show (-2147483648) ≤ ivh8 a0 13 ∧ ivh8 a0 13 ≤ 2147483647 from W8.int ty61 13) (show (-2147483648) ≤ ivh8 a0 14 ∧ ivh8 a0 14 ≤ 2147483647 from W8.int ty61 14) (show (-2147483648) ≤ ivh8 a0 15 ∧ ivh8 a0 15 ≤ 2147483647 from W8.int ty61 15) (show (-2147483648) ≤ ivh8 a0 16 ∧ ivh8 a0 16 ≤ 2147483647 from W8.int ty61 16) (fun gk11f8 gk12f8 gk13f8 gk14f8 gk15f8 gk16f8 gf8 ri22 ri23 ri24 ri25 ri26 ri27 => ?_)
                exact c_iret C dX11_read_148 rfl (by decide) (rom0 hph pl4 (by decide)) ⟨f8, rfl, X3, F7, W8, ⟨by omega, by omega⟩, trivial, (gk11f8.trans (ie47.trans (ie48.trans (ie49.trans (ie50.trans hkp11))))), (gk12f8.trans (ie52.trans (ie53.trans (ie54.trans (ie55.trans hkp12))))), (gk13f8.trans (ie57.trans (ie58.trans (ie59.trans (ie60.trans hkp13))))), (gk14f8.trans (ie62.trans (ie63.trans (ie64.trans (ie65.trans hkp14))))), (gk15f8.trans (ie67.trans (ie68.trans (ie69.trans (ie70.trans hkp15))))), (gk16f8.trans (ie72.trans (ie73.trans (ie74.trans (ie75.trans hkp16))))), (Eq.trans (show rvh4 a0 9 = rvh3 a0 9 from (fl4.r ty41 rfl 9)) (Eq.trans (show rvh3 a0 9 = rvh2 a0 9 from (fl3.r ty21 rfl 9)) (Eq.trans (show rvh2 a0 9 = rvb1 a0 9 from (fl2.r ty1 rfl 9)) (show rvb1 a0 9 = rv a0 9 from hkr9)))), (Eq.trans (show rvh4 a0 10 = rvh3 a0 10 from (fl4.r ty41 rfl 10)) (Eq.trans (show rvh3 a0 10 = rvh2 a0 10 from (fl3.r ty21 rfl 10)) (Eq.trans (show rvh2 a0 10 = rvb1 a0 10 from (fl2.r ty1 rfl 10)) (show rvb1 a0 10 = rv a0 10 from hkr10))))⟩
            · refine c_aload_n (j := 2) (x := a0) C dX11_read_112 rfl ?_
              refine c_bipush (z := 9) C dX11_read_113 (by decide) ?_
              refine c_aload_n (j := 2) (x := a0) C dX11_read_115 rfl ?_
              have re4 : rvh4 a0 7 = rvh3 a0 7 := (fl4.r ty41 rfl 7)
              rw [re1] at re4
              refine c_getr (k := 7) C ck_12 dX11_read_116 w2_51 (by decide) ty61 rfl rfl (by decide) rfl re4 ?_
              refine c_st (st2 := [.ref (sk 16), .int (iI 9), .ref a0]) rfl ?_
              have ty83 := xl4.ty ty42
              refine d_callV (As := []) (rest := [.int (iI 9), .ref a0]) C hM (C_placeOfWrong (a0 := (sk 16)) W5 sk3 ty83  ) dX11_read_119 kV_X11_338 rfl ty83 rfl rfl (by decide) ck_4 rfl (Nat.le_of_ble_eq_true rfl) ⟨(Nat.le_of_ble_eq_true rfl), (Nat.le_of_ble_eq_true rfl)⟩ hph pl4 (show 0 + 0 = 0 from rfl) (by decide) (fun rh9 Lh9 clh9 lnh9 ivh9 rvh9 h9 => ?_)
              obtain ⟨f9, rfl, rfl, rfl, rfl, rfl, rfl, rgf9, exf9⟩ := h9
              refine c_st (st2 := [.int (iI f9), .int (iI 9), .ref a0]) rfl ?_
              refine d_callV (As := [.int (iI 9), .int (iI f9)]) (rest := []) C hM (C_refuseAt (a0 := a0) (x := 9) (y := f9) W5 sk3 ty61 ⟨by decide, by decide⟩ (by omega) ) dX11_read_122 kV_X11_266 rfl ty61 rfl rfl (by decide) ck_12 rfl (Nat.le_of_ble_eq_true rfl) ⟨(Nat.le_of_ble_eq_true rfl), (Nat.le_of_ble_eq_true rfl)⟩ hph pl4 (show 0 + 0 = 0 from rfl) (by decide) (fun rh10 Lh10 clh10 lnh10 ivh10 rvh10 h10 => ?_)
              obtain ⟨f10, rfl, rfl, rfl, rfl, rfl, fl10, W10, rgf10, exf10, kp11f10, kp12f10, kp13f10, kp14f10, kp15f10, kp16f10⟩ := h10
              refine hv32 (show 1 ≤ ivh5 a0 11 ∧ ivh5 a0 11 ≤ 100 from W5.int ty61 11) (show ivh5 a0 11 = ivh4 a0 11 from fl5.i ty61 rfl 11) (show ivh4 a0 11 = ivh3 a0 11 from fl4.i ty41 rfl 11) (show ivh3 a0 11 = ivh2 a0 11 from fl3.i ty21 rfl 11) (show ivh2 a0 11 = ivb1 a0 11 from fl2.i ty1 rfl 11) (show 1 ≤ ivh5 a0 12 ∧ ivh5 a0 12 ≤ 50 from W5.int ty61 12) (show ivh5 a0 12 = ivh4 a0 12 from fl5.i ty61 rfl 12) (show ivh4 a0 12 = ivh3 a0 12 from fl4.i ty41 rfl 12) (show ivh3 a0 12 = ivh2 a0 12 from fl3.i ty21 rfl 12) (show ivh2 a0 12 = ivb1 a0 12 from fl2.i ty1 rfl 12) (show (-2147483648) ≤ ivh5 a0 13 ∧ ivh5 a0 13 ≤ 2147483647 from W5.int ty61 13) (show ivh5 a0 13 = ivh4 a0 13 from fl5.i ty61 rfl 13) (show ivh4 a0 13 = ivh3 a0 13 from fl4.i ty41 rfl 13) (show ivh3 a0 13 = ivh2 a0 13 from fl3.i ty21 rfl 13) (show ivh2 a0 13 = ivb1 a0 13 from fl2.i ty1 rfl 13) (show (-2147483648) ≤ ivh5 a0 14 ∧ ivh5 a0 14 ≤ 2147483647 from W5.int ty61 14) (show ivh5 a0 14 = ivh4 a0 14 from fl5.i ty61 rfl 14) (show ivh4 a0 14 = ivh3 a0 14 from fl4.i ty41 rfl 14) (show ivh3 a0 14 = ivh2 a0 14 from fl3.i ty21 rfl 14) (show ivh2 a0 14 = ivb1 a0 14 from fl2.i ty1 rfl 14) (show (-2147483648) ≤ ivh5 a0 15 ∧ ivh5 a0 15 ≤ 2147483647 from W5.int ty61 15) (show ivh5 a0 15 = ivh4 a0 15 from fl5.i ty61 rfl 15) (show ivh4 a0 15 = ivh3 a0 15 from fl4.i ty41 rfl 15) (show ivh3 a0 15 = ivh2 a0 15 from fl3.i ty21 rfl 15) (show ivh2 a0 15 = ivb1 a0 15 from fl2.i ty1 rfl 15) (show (-2147483648) ≤ ivh5 a0 16 ∧ ivh5 a0 16 ≤ 2147483647 from W5.int ty61 16) (show ivh5 a0 16 = ivh4 a0 16 from fl5.i ty61 rfl 16) (show ivh4 a0 16 = ivh3 a0 16 from fl4.i ty41 rfl 16) (show ivh3 a0 16 = ivh2 a0 16 from fl3.i ty21 rfl 16) (show ivh2 a0 16 = ivb1 a0 16 from fl2.i ty1 rfl 16) (F4.call X3 fl10 rfl) (MRK.call mr4 W5 sk3 XT.refl fl10 rfl rfl) (fun ri28 ie83 ie84 ie85 ie86 ri29 ie88 ie89 ie90 ie91 ri30 ie93 ie94 ie95 ie96 ri31 ie98 ie99 ie100 ie101 ri32 ie103 ie104 ie105 ie106 ri33 ie108 ie109 ie110 ie111 F8 mr8 => ?_)
              refine c_st (st2 := [.int (iI f10)]) rfl ?_
              refine hv13 (show ivh10 a0 11 = ivh5 a0 11 from kp11f10) (show ivh10 a0 12 = ivh5 a0 12 from kp12f10) (show ivh10 a0 13 = ivh5 a0 13 from kp13f10) (show ivh10 a0 14 = ivh5 a0 14 from kp14f10) (show ivh10 a0 15 = ivh5 a0 15 from kp15f10) (show ivh10 a0 16 = ivh5 a0 16 from kp16f10) (show f10 = -1 from exf10) (show 1 ≤ ivh10 a0 11 ∧ ivh10 a0 11 ≤ 100 from W10.int ty61 11) (show 1 ≤ ivh10 a0 12 ∧ ivh10 a0 12 ≤ 50 from W10.int ty61 12) (show (-2147483648) ≤ ivh10 a0 13 ∧ ivh10 a0 13 ≤ 2147483647 from W10.int ty61 13) (show (-2147483648) ≤ ivh10 a0 14 ∧ ivh10 a0 14 ≤ 2147483647 from W10.int ty61 14) (show (-2147483648) ≤ ivh10 a0 15 ∧ ivh10 a0 15 ≤ 2147483647 from W10.int ty61 15) (show (-2147483648) ≤ ivh10 a0 16 ∧ ivh10 a0 16 ≤ 2147483647 from W10.int ty61 16) (fun gk11f10 gk12f10 gk13f10 gk14f10 gk15f10 gk16f10 gf10 ri34 ri35 ri36 ri37 ri38 ri39 => ?_)
              exact c_iret C dX11_read_125 rfl (by decide) (rom0 hph pl4 (by decide)) ⟨f10, rfl, X3, F8, W10, ⟨by omega, by omega⟩, trivial, (gk11f10.trans (ie83.trans (ie84.trans (ie85.trans (ie86.trans hkp11))))), (gk12f10.trans (ie88.trans (ie89.trans (ie90.trans (ie91.trans hkp12))))), (gk13f10.trans (ie93.trans (ie94.trans (ie95.trans (ie96.trans hkp13))))), (gk14f10.trans (ie98.trans (ie99.trans (ie100.trans (ie101.trans hkp14))))), (gk15f10.trans (ie103.trans (ie104.trans (ie105.trans (ie106.trans hkp15))))), (gk16f10.trans (ie108.trans (ie109.trans (ie110.trans (ie111.trans hkp16))))), (Eq.trans (show rvh4 a0 9 = rvh3 a0 9 from (fl4.r ty41 rfl 9)) (Eq.trans (show rvh3 a0 9 = rvh2 a0 9 from (fl3.r ty21 rfl 9)) (Eq.trans (show rvh2 a0 9 = rvb1 a0 9 from (fl2.r ty1 rfl 9)) (show rvb1 a0 9 = rv a0 9 from hkr9)))), (Eq.trans (show rvh4 a0 10 = rvh3 a0 10 from (fl4.r ty41 rfl 10)) (Eq.trans (show rvh3 a0 10 = rvh2 a0 10 from (fl3.r ty21 rfl 10)) (Eq.trans (show rvh2 a0 10 = rvb1 a0 10 from (fl2.r ty1 rfl 10)) (show rvb1 a0 10 = rv a0 10 from hkr10))))⟩
          · refine c_aload_n (j := 2) (x := a0) C dX11_read_40 rfl ?_
            have ty84 := Xb1.ty t_a0
            obtain ⟨rb5, rq5, trb5⟩ := Wb1.ref ty84 9 rfl rfl rfl
            refine c_getr (k := 9) C ck_12 dX11_read_41 w2_53 (by decide) ty84 rfl rfl (by decide) rfl rq5 ?_
            refine c_st (st2 := [.ref rb5]) rfl ?_
            refine c_iload_n (j := 4) C dX11_read_44 rfl ?_
            refine c_iload (j := 0) C dX11_read_45 rfl ?_
            refine c_iadd C dX11_read_47 ?_
            obtain ⟨zz1, hzz1, ezz1⟩ := iI_of (iI (x + k))
            refine c_st (st2 := [.int (iI zz1), .ref rb5]) (by rw [ezz1]) ?_
            refine hv2 (show 0 ≤ ivb1 rb5 1 ∧ ivb1 rb5 1 ≤ 200 from Wb1.int trb5 1) (Phi.le Wb1 skb1) (fun ri40 pl6 => ?_)
            refine d_callV (As := [.int (iI zz1)]) (rest := []) C hM (C_present (a0 := rb5) (i := zz1) Wb1 skb1 trb5 (by omega) ) dX11_read_48 kV_X11_288 rfl trb5 rfl rfl (by decide) ck_8 rfl (Nat.le_of_ble_eq_true rfl) ⟨(Nat.le_of_ble_eq_true rfl), (Nat.le_of_ble_eq_true rfl)⟩ hph pl6 (show 0 + 0 = 0 from rfl) (by decide) (fun rh11 Lh11 clh11 lnh11 ivh11 rvh11 h11 => ?_)
            obtain ⟨f11, rfl, rfl, rfl, rfl, rfl, rfl, rgf11, exf11⟩ := h11
            refine c_st (st2 := [(va_rf f11)]) rfl ?_
            have gf11 : f11 = none ∨ (0 ≤ zz1 ∧ zz1 < ivb1 rb5 1) := exf11
            refine c_ifnonnull (r := f11) (tgt := 70) C dX11_read_51 (by decide) (fun ob2 oq2 => ?_) (fun oq2 => ?_)
            · subst oq2
              have tob2 := rgf11 ob2 rfl
              refine c_lv (lv2 := [(5, .int (iI k)), (4, .ref ob1), (0, .ref a0), (1, .int (iI i)), (2, .int (iI x)), (3, .int (iI n))]) [0, 1, 2, 3, 4, 5] rfl ?_
              refine c_st (st2 := []) rfl ?_
              refine c_iinc (z := k) (j := 0) (lv2 := [(5, .int (iI (k + 1))), (4, .ref ob1), (0, .ref a0), (1, .int (iI i)), (2, .int (iI x)), (3, .int (iI n))]) C dX11_read_70 rfl (by decide) rfl ?_
              refine c_goto (tgt := 34) C dX11_read_73 (by decide) ?_
              refine hv6 (show 1 ≤ ivb1 a0 11 ∧ ivb1 a0 11 ≤ 100 from Wb1.int ty84 11) (show 1 ≤ ivb1 a0 12 ∧ ivb1 a0 12 ≤ 50 from Wb1.int ty84 12) (show (-2147483648) ≤ ivb1 a0 13 ∧ ivb1 a0 13 ≤ 2147483647 from Wb1.int ty84 13) (show (-2147483648) ≤ ivb1 a0 14 ∧ ivb1 a0 14 ≤ 2147483647 from Wb1.int ty84 14) (show (-2147483648) ≤ ivb1 a0 15 ∧ ivb1 a0 15 ≤ 2147483647 from Wb1.int ty84 15) (show (-2147483648) ≤ ivb1 a0 16 ∧ ivb1 a0 16 ≤ 2147483647 from Wb1.int ty84 16) (fun ri41 ri42 ri43 ri44 ri45 ri46 => ?_)
              refine c_lv (lv2 := [(5, .int (iI (k + 1))), (4, .ref ob1), (0, .ref a0), (1, .int (iI i)), (2, .int (iI x)), (3, .int (iI n))]) [0, 1, 2, 3, 4, 5] rfl ?_
              exact ih1  (k + 1) _ _ _ _ _ (by omega) Xb1 Wb1 Fb1  (by omega) hkp11 hkp12 hkp13 hkp14 hkp15 hkp16 (show rvb1 a0 9 = rv a0 9 from hkr9) (show rvb1 a0 10 = rv a0 10 from hkr10)
            · subst oq2
              refine c_lv (lv2 := [(5, .int (iI k)), (4, .ref ob1), (0, .ref a0), (1, .int (iI i)), (2, .int (iI x)), (3, .int (iI n))]) [0, 1, 2, 3, 4, 5] rfl ?_
              refine c_st (st2 := []) rfl ?_
              refine c_aload_n (j := 2) (x := a0) C dX11_read_54 rfl ?_
              refine c_aload_n (j := 2) (x := a0) C dX11_read_55 rfl ?_
              refine c_getr (k := 9) C ck_12 dX11_read_56 w2_53 (by decide) ty84 rfl rfl (by decide) rfl rq5 ?_
              refine c_st (st2 := [.ref rb5, .ref a0]) rfl ?_
              refine c_iload_n (j := 4) C dX11_read_59 rfl ?_
              refine c_iload (j := 0) C dX11_read_60 rfl ?_
              refine c_iadd C dX11_read_62 ?_
              obtain ⟨zz2, hzz2, ezz2⟩ := iI_of (iI (x + k))
              refine c_st (st2 := [.int (iI zz2), .ref rb5, .ref a0]) (by rw [ezz2]) ?_
              refine d_callV (As := [.int (iI zz2)]) (rest := [.ref a0]) C hM (C_whyNone (a0 := rb5) (i := zz2) Wb1 skb1 trb5 (by omega) ) dX11_read_63 kV_X11_292 rfl trb5 rfl rfl (by decide) ck_8 rfl (Nat.le_of_ble_eq_true rfl) ⟨(Nat.le_of_ble_eq_true rfl), (Nat.le_of_ble_eq_true rfl)⟩ hph pl6 (show 0 + 0 = 0 from rfl) (by decide) (fun rh12 Lh12 clh12 lnh12 ivh12 rvh12 h12 => ?_)
              obtain ⟨f12, rfl, rfl, rfl, rfl, rfl, rfl, rgf12, exf12⟩ := h12
              refine c_st (st2 := [.int (iI f12), .ref a0]) rfl ?_
              have gf12 : f12 = 1 ∨ f12 = 2 := exf12
              refine d_callV (As := [.int (iI f12)]) (rest := []) C hM (C_refuse (a0 := a0) (x := f12) Wb1 skb1 ty84 (by omega) ) dX11_read_66 kV_X11_102 rfl ty84 rfl rfl (by decide) ck_12 rfl (Nat.le_of_ble_eq_true rfl) ⟨(Nat.le_of_ble_eq_true rfl), (Nat.le_of_ble_eq_true rfl)⟩ hph pl6 (show 0 + 0 = 0 from rfl) (by decide) (fun rh13 Lh13 clh13 lnh13 ivh13 rvh13 h13 => ?_)
              obtain ⟨f13, rfl, rfl, rfl, rfl, rfl, fl13, W13, rgf13, exf13, kp11f13, kp12f13, kp13f13, kp14f13, kp15f13, kp16f13⟩ := h13
              refine hv8 (show 1 ≤ ivb1 a0 11 ∧ ivb1 a0 11 ≤ 100 from Wb1.int ty84 11) (show 1 ≤ ivb1 a0 12 ∧ ivb1 a0 12 ≤ 50 from Wb1.int ty84 12) (show (-2147483648) ≤ ivb1 a0 13 ∧ ivb1 a0 13 ≤ 2147483647 from Wb1.int ty84 13) (show (-2147483648) ≤ ivb1 a0 14 ∧ ivb1 a0 14 ≤ 2147483647 from Wb1.int ty84 14) (show (-2147483648) ≤ ivb1 a0 15 ∧ ivb1 a0 15 ≤ 2147483647 from Wb1.int ty84 15) (show (-2147483648) ≤ ivb1 a0 16 ∧ ivb1 a0 16 ≤ 2147483647 from Wb1.int ty84 16) (Fb1.call Xb1 fl13 rfl) (MRK.call mrb1 Wb1 skb1 XT.refl fl13 rfl rfl) (fun ri47 ri48 ri49 ri50 ri51 ri52 F9 mr9 => ?_)
              refine c_st (st2 := [.int (iI f13)]) rfl ?_
              refine hv13 (show ivh13 a0 11 = ivb1 a0 11 from kp11f13) (show ivh13 a0 12 = ivb1 a0 12 from kp12f13) (show ivh13 a0 13 = ivb1 a0 13 from kp13f13) (show ivh13 a0 14 = ivb1 a0 14 from kp14f13) (show ivh13 a0 15 = ivb1 a0 15 from kp15f13) (show ivh13 a0 16 = ivb1 a0 16 from kp16f13) (show f13 = -1 from exf13) (show 1 ≤ ivh13 a0 11 ∧ ivh13 a0 11 ≤ 100 from W13.int ty84 11) (show 1 ≤ ivh13 a0 12 ∧ ivh13 a0 12 ≤ 50 from W13.int ty84 12) (show (-2147483648) ≤ ivh13 a0 13 ∧ ivh13 a0 13 ≤ 2147483647 from W13.int ty84 13) (show (-2147483648) ≤ ivh13 a0 14 ∧ ivh13 a0 14 ≤ 2147483647 from W13.int ty84 14) (show (-2147483648) ≤ ivh13 a0 15 ∧ ivh13 a0 15 ≤ 2147483647 from W13.int ty84 15) (show (-2147483648) ≤ ivh13 a0 16 ∧ ivh13 a0 16 ≤ 2147483647 from W13.int ty84 16) (fun gk11f13 gk12f13 gk13f13 gk14f13 gk15f13 gk16f13 gf13 ri53 ri54 ri55 ri56 ri57 ri58 => ?_)
              exact c_iret C dX11_read_69 rfl (by decide) (rom0 hph pl6 (by decide)) ⟨f13, rfl, Xb1, F9, W13, ⟨by omega, by omega⟩, trivial, (gk11f13.trans hkp11), (gk12f13.trans hkp12), (gk13f13.trans hkp13), (gk14f13.trans hkp14), (gk15f13.trans hkp15), (gk16f13.trans hkp16), (show rvb1 a0 9 = rv a0 9 from hkr9), (show rvb1 a0 10 = rv a0 10 from hkr10)⟩
      refine hv6 (show 1 ≤ iv a0 11 ∧ iv a0 11 ≤ 100 from hW.int t_a0 11) (show 1 ≤ iv a0 12 ∧ iv a0 12 ≤ 50 from hW.int t_a0 12) (show (-2147483648) ≤ iv a0 13 ∧ iv a0 13 ≤ 2147483647 from hW.int t_a0 13) (show (-2147483648) ≤ iv a0 14 ∧ iv a0 14 ≤ 2147483647 from hW.int t_a0 14) (show (-2147483648) ≤ iv a0 15 ∧ iv a0 15 ≤ 2147483647 from hW.int t_a0 15) (show (-2147483648) ≤ iv a0 16 ∧ iv a0 16 ≤ 2147483647 from hW.int t_a0 16) (fun ri59 ri60 ri61 ri62 ri63 ri64 => ?_)
      refine c_lv (lv2 := [(5, .int (iI 0)), (4, .ref ob1), (0, .ref a0), (1, .int (iI i)), (2, .int (iI x)), (3, .int (iI n))]) [0, 1, 2, 3, 4, 5] rfl ?_
      exact Lp1 2147483650 0 _ _ _ _ _ (by omega) hX0 hW hF0  (by omega) rfl rfl rfl rfl rfl rfl rfl rfl
    · refine c_aload_n (j := 1) (x := a0) C dX11_read_25 rfl ?_
      refine c_iconst C dX11_read_26 ?_
      refine d_callV (As := [.int (iI 5)]) (rest := []) C hM (C_refuse (a0 := a0) (x := 5) hW hS t_a0 ⟨by decide, by decide⟩ ) dX11_read_27 kV_X11_102 rfl t_a0 rfl rfl (by decide) ck_12 rfl (Nat.le_of_ble_eq_true rfl) ⟨(Nat.le_of_ble_eq_true rfl), (Nat.le_of_ble_eq_true rfl)⟩ hph hph (show 0 + 0 = 0 from rfl) (by decide) (fun rh14 Lh14 clh14 lnh14 ivh14 rvh14 h14 => ?_)
      obtain ⟨f14, rfl, rfl, rfl, rfl, rfl, fl14, W14, rgf14, exf14, kp11f14, kp12f14, kp13f14, kp14f14, kp15f14, kp16f14⟩ := h14
      refine hv8 (show 1 ≤ iv a0 11 ∧ iv a0 11 ≤ 100 from hW.int t_a0 11) (show 1 ≤ iv a0 12 ∧ iv a0 12 ≤ 50 from hW.int t_a0 12) (show (-2147483648) ≤ iv a0 13 ∧ iv a0 13 ≤ 2147483647 from hW.int t_a0 13) (show (-2147483648) ≤ iv a0 14 ∧ iv a0 14 ≤ 2147483647 from hW.int t_a0 14) (show (-2147483648) ≤ iv a0 15 ∧ iv a0 15 ≤ 2147483647 from hW.int t_a0 15) (show (-2147483648) ≤ iv a0 16 ∧ iv a0 16 ≤ 2147483647 from hW.int t_a0 16) (hF0.call hX0 fl14 rfl) (MRK.call hmr hW hS XT.refl fl14 rfl rfl) (fun ri65 ri66 ri67 ri68 ri69 ri70 F10 mr10 => ?_)
      refine c_st (st2 := [.int (iI f14)]) rfl ?_
      refine hv13 (show ivh14 a0 11 = iv a0 11 from kp11f14) (show ivh14 a0 12 = iv a0 12 from kp12f14) (show ivh14 a0 13 = iv a0 13 from kp13f14) (show ivh14 a0 14 = iv a0 14 from kp14f14) (show ivh14 a0 15 = iv a0 15 from kp15f14) (show ivh14 a0 16 = iv a0 16 from kp16f14) (show f14 = -1 from exf14) (show 1 ≤ ivh14 a0 11 ∧ ivh14 a0 11 ≤ 100 from W14.int t_a0 11) (show 1 ≤ ivh14 a0 12 ∧ ivh14 a0 12 ≤ 50 from W14.int t_a0 12) (show (-2147483648) ≤ ivh14 a0 13 ∧ ivh14 a0 13 ≤ 2147483647 from W14.int t_a0 13) (show (-2147483648) ≤ ivh14 a0 14 ∧ ivh14 a0 14 ≤ 2147483647 from W14.int t_a0 14) (show (-2147483648) ≤ ivh14 a0 15 ∧ ivh14 a0 15 ≤ 2147483647 from W14.int t_a0 15) (show (-2147483648) ≤ ivh14 a0 16 ∧ ivh14 a0 16 ≤ 2147483647 from W14.int t_a0 16) (fun gk11f14 gk12f14 gk13f14 gk14f14 gk15f14 gk16f14 gf14 ri71 ri72 ri73 ri74 ri75 ri76 => ?_)
      exact c_iret C dX11_read_30 rfl (by decide) (rom0 hph hph (by decide)) ⟨f14, rfl, hX0, F10, W14, ⟨by omega, by omega⟩, trivial, gk11f14, gk12f14, gk13f14, gk14f14, gk15f14, gk16f14, rfl, rfl⟩
  · subst oq1
    refine c_lv (lv2 := [(4, .null), (0, .ref a0), (1, .int (iI i)), (2, .int (iI x)), (3, .int (iI n))]) [0, 1, 2, 3, 4] rfl ?_
    refine c_st (st2 := []) rfl ?_
    refine c_aload_n (j := 1) (x := a0) C dX11_read_15 rfl ?_
    refine c_iconst C dX11_read_16 ?_
    refine d_callV (As := [.int (iI 3)]) (rest := []) C hM (C_refuse (a0 := a0) (x := 3) hW hS t_a0 ⟨by decide, by decide⟩ ) dX11_read_17 kV_X11_102 rfl t_a0 rfl rfl (by decide) ck_12 rfl (Nat.le_of_ble_eq_true rfl) ⟨(Nat.le_of_ble_eq_true rfl), (Nat.le_of_ble_eq_true rfl)⟩ hph hph (show 0 + 0 = 0 from rfl) (by decide) (fun rh15 Lh15 clh15 lnh15 ivh15 rvh15 h15 => ?_)
    obtain ⟨f15, rfl, rfl, rfl, rfl, rfl, fl15, W15, rgf15, exf15, kp11f15, kp12f15, kp13f15, kp14f15, kp15f15, kp16f15⟩ := h15
    refine hv8 (show 1 ≤ iv a0 11 ∧ iv a0 11 ≤ 100 from hW.int t_a0 11) (show 1 ≤ iv a0 12 ∧ iv a0 12 ≤ 50 from hW.int t_a0 12) (show (-2147483648) ≤ iv a0 13 ∧ iv a0 13 ≤ 2147483647 from hW.int t_a0 13) (show (-2147483648) ≤ iv a0 14 ∧ iv a0 14 ≤ 2147483647 from hW.int t_a0 14) (show (-2147483648) ≤ iv a0 15 ∧ iv a0 15 ≤ 2147483647 from hW.int t_a0 15) (show (-2147483648) ≤ iv a0 16 ∧ iv a0 16 ≤ 2147483647 from hW.int t_a0 16) (hF0.call hX0 fl15 rfl) (MRK.call hmr hW hS XT.refl fl15 rfl rfl) (fun ri77 ri78 ri79 ri80 ri81 ri82 F11 mr11 => ?_)
    refine c_st (st2 := [.int (iI f15)]) rfl ?_
    refine hv13 (show ivh15 a0 11 = iv a0 11 from kp11f15) (show ivh15 a0 12 = iv a0 12 from kp12f15) (show ivh15 a0 13 = iv a0 13 from kp13f15) (show ivh15 a0 14 = iv a0 14 from kp14f15) (show ivh15 a0 15 = iv a0 15 from kp15f15) (show ivh15 a0 16 = iv a0 16 from kp16f15) (show f15 = -1 from exf15) (show 1 ≤ ivh15 a0 11 ∧ ivh15 a0 11 ≤ 100 from W15.int t_a0 11) (show 1 ≤ ivh15 a0 12 ∧ ivh15 a0 12 ≤ 50 from W15.int t_a0 12) (show (-2147483648) ≤ ivh15 a0 13 ∧ ivh15 a0 13 ≤ 2147483647 from W15.int t_a0 13) (show (-2147483648) ≤ ivh15 a0 14 ∧ ivh15 a0 14 ≤ 2147483647 from W15.int t_a0 14) (show (-2147483648) ≤ ivh15 a0 15 ∧ ivh15 a0 15 ≤ 2147483647 from W15.int t_a0 15) (show (-2147483648) ≤ ivh15 a0 16 ∧ ivh15 a0 16 ≤ 2147483647 from W15.int t_a0 16) (fun gk11f15 gk12f15 gk13f15 gk14f15 gk15f15 gk16f15 gf15 ri83 ri84 ri85 ri86 ri87 ri88 => ?_)
    exact c_iret C dX11_read_20 rfl (by decide) (rom0 hph hph (by decide)) ⟨f15, rfl, hX0, F11, W15, ⟨by omega, by omega⟩, trivial, gk11f15, gk12f15, gk13f15, gk14f15, gk15f15, gk16f15, rfl, rfl⟩
set_option maxHeartbeats 4000000 in
set_option maxRecDepth 100000 in
theorem C_letter {l : Launch} {G : GT} {mi : Nat} {sk : Nat → Nat} {L : List Nat} {cl ln : Nat → Nat} {iv : Nat → Nat → Int} {rv : Nat → Nat → Option Nat}  {a0 : Nat} {i : Int} (hW : WT (g0 G) sk L cl ln iv rv) (hS : SKL sk L cl) (t_a0 : ty L cl a0 1) (h_i : -2147483648 ≤ i ∧ i ≤ 2147483647)  : Mc l G mi (Phi (g0 G) sk) PHM yX11_letter cX11_letter 2 (some .int) 1 [.ref a0, .int (iI i)] L cl ln iv rv 0 (fun v L2 cl2 ln2 iv2 rv2 => ∃ f : Int, v = some (.int (iI f)) ∧ L = L2 ∧ cl = cl2 ∧ ln = ln2 ∧ rv = rv2 ∧ fT [1] L cl iv rv iv2 rv2 ∧ WT (g0 G) sk L2 cl2 ln2 iv2 rv2 ∧ (-2147483648 ≤ f ∧ f ≤ 2147483647) ∧ (True) ∧ iv2 a0 11 = iv a0 11 ∧ iv2 a0 12 = iv a0 12 ∧ iv2 a0 13 = iv a0 13 ∧ iv2 a0 14 = iv a0 14 ∧ iv2 a0 15 = iv a0 15 ∧ iv2 a0 16 = iv a0 16) := by
  refine Mc.mk (by decide) (Nat.le_of_ble_eq_true rfl) ?_
  intro p e s m args below meth c A C hM
  refine hv21 (Phi.le hW hS) (show ty L cl (sk 2) 2 from ⟨(hS 2 rfl).1, by rw [(hS 2 rfl).2]; rfl⟩) (show ty L cl (sk 3) 3 from ⟨(hS 3 rfl).1, by rw [(hS 3 rfl).2]; rfl⟩) (show ty L cl (sk 4) 4 from ⟨(hS 4 rfl).1, by rw [(hS 4 rfl).2]; rfl⟩) (show ty L cl (sk 5) 5 from ⟨(hS 5 rfl).1, by rw [(hS 5 rfl).2]; rfl⟩) (show ty L cl (sk 6) 6 from ⟨(hS 6 rfl).1, by rw [(hS 6 rfl).2]; rfl⟩) (show ty L cl (sk 7) 7 from ⟨(hS 7 rfl).1, by rw [(hS 7 rfl).2]; rfl⟩) (show ty L cl (sk 8) 8 from ⟨(hS 8 rfl).1, by rw [(hS 8 rfl).2]; rfl⟩) (show ty L cl (sk 9) 9 from ⟨(hS 9 rfl).1, by rw [(hS 9 rfl).2]; rfl⟩) (show ty L cl (sk 10) 10 from ⟨(hS 10 rfl).1, by rw [(hS 10 rfl).2]; rfl⟩) (show ty L cl (sk 13) 13 from ⟨(hS 13 rfl).1, by rw [(hS 13 rfl).2]; rfl⟩) (show ty L cl (sk 14) 14 from ⟨(hS 14 rfl).1, by rw [(hS 14 rfl).2]; rfl⟩) (show ty L cl (sk 15) 15 from ⟨(hS 15 rfl).1, by rw [(hS 15 rfl).2]; rfl⟩) (show ty L cl (sk 16) 16 from ⟨(hS 16 rfl).1, by rw [(hS 16 rfl).2]; rfl⟩) (show ty L cl (sk 17) 17 from ⟨(hS 17 rfl).1, by rw [(hS 17 rfl).2]; rfl⟩) (show ty L cl (sk 22) 22 from ⟨(hS 22 rfl).1, by rw [(hS 22 rfl).2]; rfl⟩) (show ty L cl (sk 23) 23 from ⟨(hS 23 rfl).1, by rw [(hS 23 rfl).2]; rfl⟩) (show ty L cl (sk 24) 24 from ⟨(hS 24 rfl).1, by rw [(hS 24 rfl).2]; rfl⟩) (show ty L cl (sk 25) 25 from ⟨(hS 25 rfl).1, by rw [(hS 25 rfl).2]; rfl⟩) (show XT L cl ln L cl ln from XT.refl) (show fT [1] L cl iv rv iv rv from fT.refl) (fun hph tsk2 tsk3 tsk4 tsk5 tsk6 tsk7 tsk8 tsk9 tsk10 tsk13 tsk14 tsk15 tsk16 tsk17 tsk22 tsk23 tsk24 tsk25 hX0 hF0 => ?_)
  refine c_iload_n (j := 1) C dX11_letter_0 rfl ?_
  refine c_if_lt (tgt := 15) C ⟨by omega, by omega⟩ dX11_letter_1 (by decide) (fun c1 => ?_) (fun c1 => ?_)
  · refine c_aload_n (j := 0) (x := a0) C dX11_letter_15 rfl ?_
    refine c_iconst C dX11_letter_16 ?_
    refine d_callV (As := [.int (iI 2)]) (rest := []) C hM (C_refuse (a0 := a0) (x := 2) hW hS t_a0 ⟨by decide, by decide⟩ ) dX11_letter_17 kV_X11_102 rfl t_a0 rfl rfl (by decide) ck_12 rfl (Nat.le_of_ble_eq_true rfl) ⟨(Nat.le_of_ble_eq_true rfl), (Nat.le_of_ble_eq_true rfl)⟩ hph hph (show 0 + 0 = 0 from rfl) (by decide) (fun rh1 Lh1 clh1 lnh1 ivh1 rvh1 h1 => ?_)
    obtain ⟨f1, rfl, rfl, rfl, rfl, rfl, fl1, W1, rgf1, exf1, kp11f1, kp12f1, kp13f1, kp14f1, kp15f1, kp16f1⟩ := h1
    refine hv7 (show 1 ≤ iv a0 11 ∧ iv a0 11 ≤ 100 from hW.int t_a0 11) (show 1 ≤ iv a0 12 ∧ iv a0 12 ≤ 50 from hW.int t_a0 12) (show (-2147483648) ≤ iv a0 13 ∧ iv a0 13 ≤ 2147483647 from hW.int t_a0 13) (show (-2147483648) ≤ iv a0 14 ∧ iv a0 14 ≤ 2147483647 from hW.int t_a0 14) (show (-2147483648) ≤ iv a0 15 ∧ iv a0 15 ≤ 2147483647 from hW.int t_a0 15) (show (-2147483648) ≤ iv a0 16 ∧ iv a0 16 ≤ 2147483647 from hW.int t_a0 16) (hF0.call hX0 fl1 rfl) (fun ri1 ri2 ri3 ri4 ri5 ri6 F1 => ?_)
    refine c_st (st2 := [.int (iI f1)]) rfl ?_
    refine hv7 (show ivh1 a0 11 = iv a0 11 from kp11f1) (show ivh1 a0 12 = iv a0 12 from kp12f1) (show ivh1 a0 13 = iv a0 13 from kp13f1) (show ivh1 a0 14 = iv a0 14 from kp14f1) (show ivh1 a0 15 = iv a0 15 from kp15f1) (show ivh1 a0 16 = iv a0 16 from kp16f1) (show f1 = -1 from exf1) (fun gk11f1 gk12f1 gk13f1 gk14f1 gk15f1 gk16f1 gf1 => ?_)
    refine c_goto (tgt := 35) C dX11_letter_20 (by decide) ?_
    refine hv6 (show 1 ≤ ivh1 a0 11 ∧ ivh1 a0 11 ≤ 100 from W1.int t_a0 11) (show 1 ≤ ivh1 a0 12 ∧ ivh1 a0 12 ≤ 50 from W1.int t_a0 12) (show (-2147483648) ≤ ivh1 a0 13 ∧ ivh1 a0 13 ≤ 2147483647 from W1.int t_a0 13) (show (-2147483648) ≤ ivh1 a0 14 ∧ ivh1 a0 14 ≤ 2147483647 from W1.int t_a0 14) (show (-2147483648) ≤ ivh1 a0 15 ∧ ivh1 a0 15 ≤ 2147483647 from W1.int t_a0 15) (show (-2147483648) ≤ ivh1 a0 16 ∧ ivh1 a0 16 ≤ 2147483647 from W1.int t_a0 16) (fun ri7 ri8 ri9 ri10 ri11 ri12 => ?_)
    exact c_iret C dX11_letter_35 rfl (by decide) (rom0 hph hph (by decide)) ⟨f1, rfl, rfl, rfl, rfl, rfl, F1, W1, ⟨by omega, by omega⟩, trivial, gk11f1, gk12f1, gk13f1, gk14f1, gk15f1, gk16f1⟩
  · refine c_iload_n (j := 1) C dX11_letter_4 rfl ?_
    refine c_aload_n (j := 0) (x := a0) C dX11_letter_5 rfl ?_
    obtain ⟨rb1, rq1, trb1⟩ := hW.ref t_a0 2 rfl rfl rfl
    have erb1 := hW.sk trb1 (by decide) rfl
    subst erb1
    refine c_getr (k := 2) C ck_12 dX11_letter_6 w2_46 (by decide) t_a0 rfl rfl (by decide) rfl rq1 ?_
    refine c_st (st2 := [.ref (sk 4), .int (iI i)]) rfl ?_
    have ri13 : 0 ≤ iv (sk 4) 2 ∧ iv (sk 4) 2 ≤ 4000 := hW.int tsk4 2
    refine c_get (k := 2) C ck_2 dX11_letter_9 w1_44 (by decide) tsk4 rfl rfl (by decide) rfl ?_
    refine c_icmp_lt (tgt := 23) C ⟨by omega, by omega⟩ (r32_c (lo := 0) (hi := 4000) ri13.1 ri13.2 (by decide) (by decide)) dX11_letter_12 (by decide) (fun c2 => ?_) (fun c2 => ?_)
    · refine c_aload_n (j := 0) (x := a0) C dX11_letter_23 rfl ?_
      refine c_aload_n (j := 0) (x := a0) C dX11_letter_24 rfl ?_
      refine c_getr (k := 2) C ck_12 dX11_letter_25 w2_46 (by decide) t_a0 rfl rfl (by decide) rfl rq1 ?_
      refine c_st (st2 := [.ref (sk 4), .ref a0]) rfl ?_
      refine c_iload_n (j := 1) C dX11_letter_28 rfl ?_
      refine d_callV (As := [.int (iI i)]) (rest := [.ref a0]) C hM (C_at_4 (a0 := (sk 4)) (i := i) hW hS tsk4 (by omega) ) dX11_letter_29 kV_X11_224 rfl tsk4 rfl rfl (by decide) ck_2 rfl (Nat.le_of_ble_eq_true rfl) ⟨(Nat.le_of_ble_eq_true rfl), (Nat.le_of_ble_eq_true rfl)⟩ hph hph (show 0 + 0 = 0 from rfl) (by decide) (fun rh2 Lh2 clh2 lnh2 ivh2 rvh2 h2 => ?_)
      obtain ⟨f2, rfl, rfl, rfl, rfl, rfl, rfl, rgf2, exf2⟩ := h2
      refine c_st (st2 := [.int (iI f2), .ref a0]) rfl ?_
      have gf2 : ((0 ≤ i ∧ i < iv (sk 4) 2) ∨ f2 = 0) ∧ ∀ ss, CT iv rv (sk 4) ss → 0 ≤ i → i < iv (sk 4) 2 → f2 = ss i.toNat := exf2
      refine d_callV (As := [.int (iI f2)]) (rest := []) C hM (C_done (a0 := a0) (x := f2) hW hS t_a0 (by omega) ) dX11_letter_32 kV_X11_109 rfl t_a0 rfl rfl (by decide) ck_12 rfl (Nat.le_of_ble_eq_true rfl) ⟨(Nat.le_of_ble_eq_true rfl), (Nat.le_of_ble_eq_true rfl)⟩ hph hph (show 0 + 0 = 0 from rfl) (by decide) (fun rh3 Lh3 clh3 lnh3 ivh3 rvh3 h3 => ?_)
      obtain ⟨f3, rfl, rfl, rfl, rfl, rfl, fl3, W3, rgf3, exf3, kp11f3, kp12f3, kp13f3, kp14f3, kp15f3, kp16f3⟩ := h3
      refine hv7 (show 1 ≤ iv a0 11 ∧ iv a0 11 ≤ 100 from hW.int t_a0 11) (show 1 ≤ iv a0 12 ∧ iv a0 12 ≤ 50 from hW.int t_a0 12) (show (-2147483648) ≤ iv a0 13 ∧ iv a0 13 ≤ 2147483647 from hW.int t_a0 13) (show (-2147483648) ≤ iv a0 14 ∧ iv a0 14 ≤ 2147483647 from hW.int t_a0 14) (show (-2147483648) ≤ iv a0 15 ∧ iv a0 15 ≤ 2147483647 from hW.int t_a0 15) (show (-2147483648) ≤ iv a0 16 ∧ iv a0 16 ≤ 2147483647 from hW.int t_a0 16) (hF0.call hX0 fl3 rfl) (fun ri14 ri15 ri16 ri17 ri18 ri19 F2 => ?_)
      refine c_st (st2 := [.int (iI f3)]) rfl ?_
      refine hv13 (show ivh3 a0 11 = iv a0 11 from kp11f3) (show ivh3 a0 12 = iv a0 12 from kp12f3) (show ivh3 a0 13 = iv a0 13 from kp13f3) (show ivh3 a0 14 = iv a0 14 from kp14f3) (show ivh3 a0 15 = iv a0 15 from kp15f3) (show ivh3 a0 16 = iv a0 16 from kp16f3) (show f3 = f2 from exf3) (show 1 ≤ ivh3 a0 11 ∧ ivh3 a0 11 ≤ 100 from W3.int t_a0 11) (show 1 ≤ ivh3 a0 12 ∧ ivh3 a0 12 ≤ 50 from W3.int t_a0 12) (show (-2147483648) ≤ ivh3 a0 13 ∧ ivh3 a0 13 ≤ 2147483647 from W3.int t_a0 13) (show (-2147483648) ≤ ivh3 a0 14 ∧ ivh3 a0 14 ≤ 2147483647 from W3.int t_a0 14) (show (-2147483648) ≤ ivh3 a0 15 ∧ ivh3 a0 15 ≤ 2147483647 from W3.int t_a0 15) (show (-2147483648) ≤ ivh3 a0 16 ∧ ivh3 a0 16 ≤ 2147483647 from W3.int t_a0 16) (fun gk11f3 gk12f3 gk13f3 gk14f3 gk15f3 gk16f3 gf3 ri20 ri21 ri22 ri23 ri24 ri25 => ?_)
      exact c_iret C dX11_letter_35 rfl (by decide) (rom0 hph hph (by decide)) ⟨f3, rfl, rfl, rfl, rfl, rfl, F2, W3, ⟨by omega, by omega⟩, trivial, gk11f3, gk12f3, gk13f3, gk14f3, gk15f3, gk16f3⟩
    · refine c_aload_n (j := 0) (x := a0) C dX11_letter_15 rfl ?_
      refine c_iconst C dX11_letter_16 ?_
      refine d_callV (As := [.int (iI 2)]) (rest := []) C hM (C_refuse (a0 := a0) (x := 2) hW hS t_a0 ⟨by decide, by decide⟩ ) dX11_letter_17 kV_X11_102 rfl t_a0 rfl rfl (by decide) ck_12 rfl (Nat.le_of_ble_eq_true rfl) ⟨(Nat.le_of_ble_eq_true rfl), (Nat.le_of_ble_eq_true rfl)⟩ hph hph (show 0 + 0 = 0 from rfl) (by decide) (fun rh4 Lh4 clh4 lnh4 ivh4 rvh4 h4 => ?_)
      obtain ⟨f4, rfl, rfl, rfl, rfl, rfl, fl4, W4, rgf4, exf4, kp11f4, kp12f4, kp13f4, kp14f4, kp15f4, kp16f4⟩ := h4
      refine hv7 (show 1 ≤ iv a0 11 ∧ iv a0 11 ≤ 100 from hW.int t_a0 11) (show 1 ≤ iv a0 12 ∧ iv a0 12 ≤ 50 from hW.int t_a0 12) (show (-2147483648) ≤ iv a0 13 ∧ iv a0 13 ≤ 2147483647 from hW.int t_a0 13) (show (-2147483648) ≤ iv a0 14 ∧ iv a0 14 ≤ 2147483647 from hW.int t_a0 14) (show (-2147483648) ≤ iv a0 15 ∧ iv a0 15 ≤ 2147483647 from hW.int t_a0 15) (show (-2147483648) ≤ iv a0 16 ∧ iv a0 16 ≤ 2147483647 from hW.int t_a0 16) (hF0.call hX0 fl4 rfl) (fun ri26 ri27 ri28 ri29 ri30 ri31 F3 => ?_)
      refine c_st (st2 := [.int (iI f4)]) rfl ?_
      refine hv7 (show ivh4 a0 11 = iv a0 11 from kp11f4) (show ivh4 a0 12 = iv a0 12 from kp12f4) (show ivh4 a0 13 = iv a0 13 from kp13f4) (show ivh4 a0 14 = iv a0 14 from kp14f4) (show ivh4 a0 15 = iv a0 15 from kp15f4) (show ivh4 a0 16 = iv a0 16 from kp16f4) (show f4 = -1 from exf4) (fun gk11f4 gk12f4 gk13f4 gk14f4 gk15f4 gk16f4 gf4 => ?_)
      refine c_goto (tgt := 35) C dX11_letter_20 (by decide) ?_
      refine hv6 (show 1 ≤ ivh4 a0 11 ∧ ivh4 a0 11 ≤ 100 from W4.int t_a0 11) (show 1 ≤ ivh4 a0 12 ∧ ivh4 a0 12 ≤ 50 from W4.int t_a0 12) (show (-2147483648) ≤ ivh4 a0 13 ∧ ivh4 a0 13 ≤ 2147483647 from W4.int t_a0 13) (show (-2147483648) ≤ ivh4 a0 14 ∧ ivh4 a0 14 ≤ 2147483647 from W4.int t_a0 14) (show (-2147483648) ≤ ivh4 a0 15 ∧ ivh4 a0 15 ≤ 2147483647 from W4.int t_a0 15) (show (-2147483648) ≤ ivh4 a0 16 ∧ ivh4 a0 16 ≤ 2147483647 from W4.int t_a0 16) (fun ri32 ri33 ri34 ri35 ri36 ri37 => ?_)
      exact c_iret C dX11_letter_35 rfl (by decide) (rom0 hph hph (by decide)) ⟨f4, rfl, rfl, rfl, rfl, rfl, F3, W4, ⟨by omega, by omega⟩, trivial, gk11f4, gk12f4, gk13f4, gk14f4, gk15f4, gk16f4⟩
set_option maxHeartbeats 4000000 in
set_option maxRecDepth 100000 in
theorem C_more {l : Launch} {G : GT} {mi : Nat} {sk : Nat → Nat} {L : List Nat} {cl ln : Nat → Nat} {iv : Nat → Nat → Int} {rv : Nat → Nat → Option Nat}  {a0 : Nat} (hW : WT (g0 G) sk L cl ln iv rv) (hS : SKL sk L cl) (t_a0 : ty L cl a0 1)  : Mc l G mi (Phi (g0 G) sk) PHM yX11_more cX11_more 1 (some .int) 0 [.ref a0] L cl ln iv rv 0 (fun v L2 cl2 ln2 iv2 rv2 => ∃ f : Int, v = some (.int (iI f)) ∧ L = L2 ∧ cl = cl2 ∧ ln = ln2 ∧ iv = iv2 ∧ rv = rv2 ∧ (-2147483648 ≤ f ∧ f ≤ 2147483647) ∧ (True)) := by
  refine Mc.mk (by decide) (Nat.le_of_ble_eq_true rfl) ?_
  intro p e s m args below meth c A C hM
  refine hv21 (Phi.le hW hS) (show ty L cl (sk 2) 2 from ⟨(hS 2 rfl).1, by rw [(hS 2 rfl).2]; rfl⟩) (show ty L cl (sk 3) 3 from ⟨(hS 3 rfl).1, by rw [(hS 3 rfl).2]; rfl⟩) (show ty L cl (sk 4) 4 from ⟨(hS 4 rfl).1, by rw [(hS 4 rfl).2]; rfl⟩) (show ty L cl (sk 5) 5 from ⟨(hS 5 rfl).1, by rw [(hS 5 rfl).2]; rfl⟩) (show ty L cl (sk 6) 6 from ⟨(hS 6 rfl).1, by rw [(hS 6 rfl).2]; rfl⟩) (show ty L cl (sk 7) 7 from ⟨(hS 7 rfl).1, by rw [(hS 7 rfl).2]; rfl⟩) (show ty L cl (sk 8) 8 from ⟨(hS 8 rfl).1, by rw [(hS 8 rfl).2]; rfl⟩) (show ty L cl (sk 9) 9 from ⟨(hS 9 rfl).1, by rw [(hS 9 rfl).2]; rfl⟩) (show ty L cl (sk 10) 10 from ⟨(hS 10 rfl).1, by rw [(hS 10 rfl).2]; rfl⟩) (show ty L cl (sk 13) 13 from ⟨(hS 13 rfl).1, by rw [(hS 13 rfl).2]; rfl⟩) (show ty L cl (sk 14) 14 from ⟨(hS 14 rfl).1, by rw [(hS 14 rfl).2]; rfl⟩) (show ty L cl (sk 15) 15 from ⟨(hS 15 rfl).1, by rw [(hS 15 rfl).2]; rfl⟩) (show ty L cl (sk 16) 16 from ⟨(hS 16 rfl).1, by rw [(hS 16 rfl).2]; rfl⟩) (show ty L cl (sk 17) 17 from ⟨(hS 17 rfl).1, by rw [(hS 17 rfl).2]; rfl⟩) (show ty L cl (sk 22) 22 from ⟨(hS 22 rfl).1, by rw [(hS 22 rfl).2]; rfl⟩) (show ty L cl (sk 23) 23 from ⟨(hS 23 rfl).1, by rw [(hS 23 rfl).2]; rfl⟩) (show ty L cl (sk 24) 24 from ⟨(hS 24 rfl).1, by rw [(hS 24 rfl).2]; rfl⟩) (show ty L cl (sk 25) 25 from ⟨(hS 25 rfl).1, by rw [(hS 25 rfl).2]; rfl⟩) (show XT L cl ln L cl ln from XT.refl) (show fT [] L cl iv rv iv rv from fT.refl) (fun hph tsk2 tsk3 tsk4 tsk5 tsk6 tsk7 tsk8 tsk9 tsk10 tsk13 tsk14 tsk15 tsk16 tsk17 tsk22 tsk23 tsk24 tsk25 hX0 hF0 => ?_)
  refine c_aload_n (j := 0) (x := a0) C dX11_more_0 rfl ?_
  obtain ⟨rb1, rq1, trb1⟩ := hW.ref t_a0 8 rfl rfl rfl
  have erb1 := hW.sk trb1 (by decide) rfl
  subst erb1
  refine c_getr (k := 8) C ck_12 dX11_more_1 w2_52 (by decide) t_a0 rfl rfl (by decide) rfl rq1 ?_
  refine c_st (st2 := [.ref (sk 17)]) rfl ?_
  have ri1 : 0 ≤ iv (sk 17) 6 ∧ iv (sk 17) 6 ≤ 1 := hW.int tsk17 6
  refine c_get (k := 6) C ck_5 dX11_more_4 w1_237 (by decide) tsk17 rfl rfl (by decide) rfl ?_
  refine c_if_eq (tgt := 14) C (r32_c (lo := 0) (hi := 1) ri1.1 ri1.2 (by decide) (by decide)) dX11_more_7 (by decide) (fun c1 => ?_) (fun c1 => ?_)
  · refine c_iconst C dX11_more_14 ?_
    exact c_iret C dX11_more_15 rfl (by decide) (rom0 hph hph (by decide)) ⟨0, rfl, rfl, rfl, rfl, rfl, rfl, ⟨by decide, by decide⟩, trivial⟩
  · refine c_iconst C dX11_more_10 ?_
    refine c_goto (tgt := 15) C dX11_more_11 (by decide) ?_
    exact c_iret C dX11_more_15 rfl (by decide) (rom0 hph hph (by decide)) ⟨1, rfl, rfl, rfl, rfl, rfl, rfl, ⟨by decide, by decide⟩, trivial⟩
set_option maxHeartbeats 4000000 in
set_option maxRecDepth 100000 in
theorem C_judge {l : Launch} {G : GT} {mi : Nat} {sk : Nat → Nat} {L : List Nat} {cl ln : Nat → Nat} {iv : Nat → Nat → Int} {rv : Nat → Nat → Option Nat}  {a0 : Nat} {i : Int} (hW : WT (g0 G) sk L cl ln iv rv) (hS : SKL sk L cl) (t_a0 : ty L cl a0 1) (h_i : -2147483648 ≤ i ∧ i ≤ 2147483647) (hmr : MRK sk cl iv rv) : Mc l G mi (Phi (g0 G) sk) PHM yX11_judge cX11_judge 4 (some .int) 10 [.ref a0, .int (iI i)] L cl ln iv rv 0 (fun v L2 cl2 ln2 iv2 rv2 => ∃ f : Int, v = some (.int (iI f)) ∧ XT L cl ln L2 cl2 ln2 ∧ fT [1, 24, 1002, 25, 1003, 6, 36, 7, 37] L cl iv rv iv2 rv2 ∧ WT (g0 G) sk L2 cl2 ln2 iv2 rv2 ∧ (-2147483648 ≤ f ∧ f ≤ 2147483647) ∧ (True) ∧ iv2 a0 11 = iv a0 11 ∧ iv2 a0 12 = iv a0 12 ∧ iv2 a0 13 = iv a0 13 ∧ iv2 a0 14 = iv a0 14 ∧ iv2 a0 15 = iv a0 15 ∧ iv2 a0 16 = iv a0 16 ∧ rv2 a0 9 = rv a0 9 ∧ rv2 a0 10 = rv a0 10) := by
  refine Mc.mk (by decide) (Nat.le_of_ble_eq_true rfl) ?_
  intro p e s m args below meth c A C hM
  refine hv21 (Phi.le hW hS) (show ty L cl (sk 2) 2 from ⟨(hS 2 rfl).1, by rw [(hS 2 rfl).2]; rfl⟩) (show ty L cl (sk 3) 3 from ⟨(hS 3 rfl).1, by rw [(hS 3 rfl).2]; rfl⟩) (show ty L cl (sk 4) 4 from ⟨(hS 4 rfl).1, by rw [(hS 4 rfl).2]; rfl⟩) (show ty L cl (sk 5) 5 from ⟨(hS 5 rfl).1, by rw [(hS 5 rfl).2]; rfl⟩) (show ty L cl (sk 6) 6 from ⟨(hS 6 rfl).1, by rw [(hS 6 rfl).2]; rfl⟩) (show ty L cl (sk 7) 7 from ⟨(hS 7 rfl).1, by rw [(hS 7 rfl).2]; rfl⟩) (show ty L cl (sk 8) 8 from ⟨(hS 8 rfl).1, by rw [(hS 8 rfl).2]; rfl⟩) (show ty L cl (sk 9) 9 from ⟨(hS 9 rfl).1, by rw [(hS 9 rfl).2]; rfl⟩) (show ty L cl (sk 10) 10 from ⟨(hS 10 rfl).1, by rw [(hS 10 rfl).2]; rfl⟩) (show ty L cl (sk 13) 13 from ⟨(hS 13 rfl).1, by rw [(hS 13 rfl).2]; rfl⟩) (show ty L cl (sk 14) 14 from ⟨(hS 14 rfl).1, by rw [(hS 14 rfl).2]; rfl⟩) (show ty L cl (sk 15) 15 from ⟨(hS 15 rfl).1, by rw [(hS 15 rfl).2]; rfl⟩) (show ty L cl (sk 16) 16 from ⟨(hS 16 rfl).1, by rw [(hS 16 rfl).2]; rfl⟩) (show ty L cl (sk 17) 17 from ⟨(hS 17 rfl).1, by rw [(hS 17 rfl).2]; rfl⟩) (show ty L cl (sk 22) 22 from ⟨(hS 22 rfl).1, by rw [(hS 22 rfl).2]; rfl⟩) (show ty L cl (sk 23) 23 from ⟨(hS 23 rfl).1, by rw [(hS 23 rfl).2]; rfl⟩) (show ty L cl (sk 24) 24 from ⟨(hS 24 rfl).1, by rw [(hS 24 rfl).2]; rfl⟩) (show ty L cl (sk 25) 25 from ⟨(hS 25 rfl).1, by rw [(hS 25 rfl).2]; rfl⟩) (show XT L cl ln L cl ln from XT.refl) (show fT [1, 24, 1002, 25, 1003, 6, 36, 7, 37] L cl iv rv iv rv from fT.refl) (fun hph tsk2 tsk3 tsk4 tsk5 tsk6 tsk7 tsk8 tsk9 tsk10 tsk13 tsk14 tsk15 tsk16 tsk17 tsk22 tsk23 tsk24 tsk25 hX0 hF0 => ?_)
  refine c_aload_n (j := 0) (x := a0) C dX11_judge_0 rfl ?_
  obtain ⟨rb1, rq1, trb1⟩ := hW.ref t_a0 4 rfl rfl rfl
  have erb1 := hW.sk trb1 (by decide) rfl
  subst erb1
  refine c_getr (k := 4) C ck_12 dX11_judge_1 w2_48 (by decide) t_a0 rfl rfl (by decide) rfl rq1 ?_
  refine c_st (st2 := [.ref (sk 13)]) rfl ?_
  refine c_iload_n (j := 1) C dX11_judge_4 rfl ?_
  have ri1 : 0 ≤ iv (sk 22) 2 ∧ iv (sk 22) 2 ≤ 30 := hW.int tsk22 2
  refine d_callV (As := [.int (iI i)]) (rest := []) C hM (C_alive (a0 := (sk 13)) (i := i) hW hS tsk13 (by omega) hmr) dX11_judge_5 kV_X11_131 rfl tsk13 rfl rfl (by decide) ck_11 rfl (Nat.le_of_ble_eq_true rfl) ⟨(Nat.le_of_ble_eq_true rfl), (Nat.le_of_ble_eq_true rfl)⟩ hph hph (show 0 + 0 = 0 from rfl) (by decide) (fun rh1 Lh1 clh1 lnh1 ivh1 rvh1 h1 => ?_)
  obtain ⟨f1, rfl, rfl, rfl, rfl, rfl, rfl, rgf1, exf1⟩ := h1
  refine c_st (st2 := [(va_rf f1)]) rfl ?_
  have gf1 : (∀ b, f1 = some b → ((cl b : Nat) : Int) < 100 + iv (sk 22) 2 ∧ ALV sk iv rv i b) ∧ (f1 = none → ∀ b, ¬ ALV sk iv rv i b) := exf1
  refine c_astorer_n (r := f1) (lv2 := [(2, (va_rf f1)), (0, .ref a0), (1, .int (iI i))]) C dX11_judge_8 (by decide) rfl ?_
  refine c_aloadr_n (j := 0) (r := f1) C dX11_judge_9 rfl ?_
  refine c_ifnonnull (r := f1) (tgt := 19) C dX11_judge_10 (by decide) (fun ob1 oq1 => ?_) (fun oq1 => ?_)
  · subst oq1
    have tob1 := rgf1 ob1 rfl
    refine c_lv (lv2 := [(2, .ref ob1), (0, .ref a0), (1, .int (iI i))]) [0, 1, 2] rfl ?_
    refine c_st (st2 := []) rfl ?_
    refine c_aload_n (j := 0) (x := ob1) C dX11_judge_19 rfl ?_
    have ri2 : (-2147483648) ≤ iv ob1 0 ∧ iv ob1 0 ≤ 2147483647 := hW.int tob1 0
    refine c_get (k := 0) C ck_10 dX11_judge_20 w2_176 (by decide) tob1 rfl rfl (by decide) rfl ?_
    refine c_iconst C dX11_judge_23 ?_
    refine c_icmp_ne (tgt := 33) C (r32_c (lo := (-2147483648)) (hi := 2147483647) ri2.1 ri2.2 (by decide) (by decide)) ⟨by decide, by decide⟩ dX11_judge_24 (by decide) (fun c1 => ?_) (fun c1 => ?_)
    · refine c_aload_n (j := 1) (x := a0) C dX11_judge_33 rfl ?_
      refine c_getr (k := 4) C ck_12 dX11_judge_34 w2_48 (by decide) t_a0 rfl rfl (by decide) rfl rq1 ?_
      refine c_st (st2 := [.ref (sk 13)]) rfl ?_
      refine c_iload_n (j := 2) C dX11_judge_37 rfl ?_
      refine d_callV (As := [.int (iI i)]) (rest := []) C hM (C_whole (a0 := (sk 13)) (i := i) hW hS tsk13 (by omega) hmr) dX11_judge_38 kV_X11_231 rfl tsk13 rfl rfl (by decide) ck_11 rfl (Nat.le_of_ble_eq_true rfl) ⟨(Nat.le_of_ble_eq_true rfl), (Nat.le_of_ble_eq_true rfl)⟩ hph hph (show 0 + 0 = 0 from rfl) (by decide) (fun rh2 Lh2 clh2 lnh2 ivh2 rvh2 h2 => ?_)
      obtain ⟨f2, rfl, rfl, rfl, rfl, rfl, rfl, rgf2, exf2⟩ := h2
      refine c_st (st2 := [(va_rf f2)]) rfl ?_
      refine c_ifnonnull (r := f2) (tgt := 50) C dX11_judge_41 (by decide) (fun ob2 oq2 => ?_) (fun oq2 => ?_)
      · subst oq2
        have tob2 := rgf2 ob2 rfl
        refine c_lv (lv2 := [(2, .ref ob1), (0, .ref a0), (1, .int (iI i))]) [0, 1, 2] rfl ?_
        refine c_st (st2 := []) rfl ?_
        refine c_aload_n (j := 0) (x := ob1) C dX11_judge_50 rfl ?_
        refine d_callV (As := []) (rest := []) C hM (C_hasShort (a0 := ob1) hW hS tob1  ) dX11_judge_51 kV_X11_367 rfl tob1 rfl rfl (by decide) ck_10 rfl (Nat.le_of_ble_eq_true rfl) ⟨(Nat.le_of_ble_eq_true rfl), (Nat.le_of_ble_eq_true rfl)⟩ hph hph (show 0 + 0 = 0 from rfl) (by decide) (fun rh3 Lh3 clh3 lnh3 ivh3 rvh3 h3 => ?_)
        obtain ⟨f3, rfl, rfl, rfl, rfl, rfl, rfl, rgf3, exf3⟩ := h3
        refine c_st (st2 := [.int (iI f3)]) rfl ?_
        refine c_if_eq (tgt := 63) C ⟨by omega, by omega⟩ dX11_judge_54 (by decide) (fun c2 => ?_) (fun c2 => ?_)
        · refine c_aload_n (j := 1) (x := a0) C dX11_judge_63 rfl ?_
          obtain ⟨rb2, rq2, trb2⟩ := hW.ref t_a0 7 rfl rfl rfl
          have erb2 := hW.sk trb2 (by decide) rfl
          subst erb2
          refine c_getr (k := 7) C ck_12 dX11_judge_64 w2_51 (by decide) t_a0 rfl rfl (by decide) rfl rq2 ?_
          refine c_st (st2 := [.ref (sk 16)]) rfl ?_
          refine c_aload_n (j := 0) (x := ob1) C dX11_judge_67 rfl ?_
          refine d_callV (As := [.ref ob1]) (rest := []) C hM (C_gather (a0 := (sk 16)) (a1 := ob1) hW hS tsk16 tob1  ) dX11_judge_68 kV_X11_331 rfl tsk16 rfl rfl (by decide) ck_4 rfl (Nat.le_of_ble_eq_true rfl) ⟨(Nat.le_of_ble_eq_true rfl), (Nat.le_of_ble_eq_true rfl)⟩ hph hph (show 0 + 0 = 0 from rfl) (by decide) (fun rh4 Lh4 clh4 lnh4 ivh4 rvh4 h4 => ?_)
          obtain ⟨rfl, xl4, fl4, W4, exf4⟩ := h4
          refine hv4 (hF0.call hX0 fl4 rfl) (MRK.call hmr hW hS xl4 fl4 rfl rfl) (hX0.trans xl4) (xl4.skl hS) (fun F1 mr1 X1 sk1 => ?_)
          refine c_st (st2 := []) rfl ?_
          refine c_aload_n (j := 1) (x := a0) C dX11_judge_71 rfl ?_
          refine hv2 (xl4.ty t_a0) (show rvh4 a0 7 = rv a0 7 from (fl4.r t_a0 rfl 7)) (fun ty1 re1 => ?_)
          rw [rq2] at re1
          refine c_getr (k := 7) C ck_12 dX11_judge_72 w2_51 (by decide) ty1 rfl rfl (by decide) rfl re1 ?_
          refine c_st (st2 := [.ref (sk 16)]) rfl ?_
          have ty2 := xl4.ty tsk16
          obtain ⟨rb3, rq3, trb3⟩ := W4.ref ty2 0 rfl rfl rfl
          have erb3 := W4.sk trb3 (by decide) rfl
          subst erb3
          refine c_getr (k := 0) C ck_4 dX11_judge_75 w1_192 (by decide) ty2 rfl rfl (by decide) rfl rq3 ?_
          refine c_st (st2 := [.ref (sk 24)]) rfl ?_
          refine c_aload_n (j := 1) (x := a0) C dX11_judge_78 rfl ?_
          refine hv2 (show (-2147483648) ≤ ivh4 a0 13 ∧ ivh4 a0 13 ≤ 2147483647 from W4.int ty1 13) (show ivh4 a0 13 = iv a0 13 from fl4.i t_a0 rfl 13) (fun ri3 ie1 => ?_)
          refine c_get (k := 13) C ck_12 dX11_judge_79 w2_57 (by decide) ty1 rfl rfl (by decide) rfl ?_
          refine hv2 (xl4.ty tsk24) (Phi.le W4 sk1) (fun ty3 pl1 => ?_)
          refine d_callS (As := [.ref (sk 24), .int (iI (ivh4 a0 13))]) (rest := []) C hM (C_isReadable_24 (a0 := (sk 24)) (x := ivh4 a0 13) W4 sk1 ty3 (by omega) ) dX11_judge_82 kS_X11_373 rfl rfl (Nat.le_of_ble_eq_true rfl) ⟨(Nat.le_of_ble_eq_true rfl), (Nat.le_of_ble_eq_true rfl)⟩ hph pl1 (show 0 + 0 = 0 from rfl) (by decide) (fun rh5 Lh5 clh5 lnh5 ivh5 rvh5 h5 => ?_)
          obtain ⟨f5, rfl, rfl, rfl, rfl, rfl, rfl, rgf5, exf5⟩ := h5
          refine c_st (st2 := [.int (iI f5)]) rfl ?_
          refine c_if_eq (tgt := 109) C ⟨by omega, by omega⟩ dX11_judge_85 (by decide) (fun c3 => ?_) (fun c3 => ?_)
          · refine c_iconst C dX11_judge_109 ?_
            refine c_istore_n (lv2 := [(3, .int (iI 0)), (2, .ref ob1), (0, .ref a0), (1, .int (iI i))]) C dX11_judge_110 (by decide) rfl ?_
            refine c_aload_n (j := 2) (x := a0) C dX11_judge_111 rfl ?_
            refine c_iload_n (j := 0) C dX11_judge_112 rfl ?_
            refine c_if_eq (tgt := 120) C ⟨by decide, by decide⟩ dX11_judge_113 (by decide) (fun _ => ?_) (fun z => absurd z (by omega))
            refine c_iconst C dX11_judge_120 ?_
            refine d_callV (As := [.int (iI 0)]) (rest := []) C hM (C_done (a0 := a0) (x := 0) W4 sk1 ty1 ⟨by decide, by decide⟩ ) dX11_judge_121 kV_X11_109 rfl ty1 rfl rfl (by decide) ck_12 rfl (Nat.le_of_ble_eq_true rfl) ⟨(Nat.le_of_ble_eq_true rfl), (Nat.le_of_ble_eq_true rfl)⟩ hph pl1 (show 0 + 0 = 0 from rfl) (by decide) (fun rh6 Lh6 clh6 lnh6 ivh6 rvh6 h6 => ?_)
            obtain ⟨f6, rfl, rfl, rfl, rfl, rfl, fl6, W6, rgf6, exf6, kp11f6, kp12f6, kp13f6, kp14f6, kp15f6, kp16f6⟩ := h6
            refine hv12 (show 1 ≤ ivh4 a0 11 ∧ ivh4 a0 11 ≤ 100 from W4.int ty1 11) (show ivh4 a0 11 = iv a0 11 from fl4.i t_a0 rfl 11) (show 1 ≤ ivh4 a0 12 ∧ ivh4 a0 12 ≤ 50 from W4.int ty1 12) (show ivh4 a0 12 = iv a0 12 from fl4.i t_a0 rfl 12) (show (-2147483648) ≤ ivh4 a0 14 ∧ ivh4 a0 14 ≤ 2147483647 from W4.int ty1 14) (show ivh4 a0 14 = iv a0 14 from fl4.i t_a0 rfl 14) (show (-2147483648) ≤ ivh4 a0 15 ∧ ivh4 a0 15 ≤ 2147483647 from W4.int ty1 15) (show ivh4 a0 15 = iv a0 15 from fl4.i t_a0 rfl 15) (show (-2147483648) ≤ ivh4 a0 16 ∧ ivh4 a0 16 ≤ 2147483647 from W4.int ty1 16) (show ivh4 a0 16 = iv a0 16 from fl4.i t_a0 rfl 16) (F1.call X1 fl6 rfl) (MRK.call mr1 W4 sk1 XT.refl fl6 rfl rfl) (fun ri4 ie2 ri5 ie3 ri6 ie4 ri7 ie5 ri8 ie6 F2 mr2 => ?_)
            refine c_st (st2 := [.int (iI f6)]) rfl ?_
            refine hv13 (show ivh6 a0 11 = ivh4 a0 11 from kp11f6) (show ivh6 a0 12 = ivh4 a0 12 from kp12f6) (show ivh6 a0 13 = ivh4 a0 13 from kp13f6) (show ivh6 a0 14 = ivh4 a0 14 from kp14f6) (show ivh6 a0 15 = ivh4 a0 15 from kp15f6) (show ivh6 a0 16 = ivh4 a0 16 from kp16f6) (show f6 = (0 : Int) from exf6) (show 1 ≤ ivh6 a0 11 ∧ ivh6 a0 11 ≤ 100 from W6.int ty1 11) (show 1 ≤ ivh6 a0 12 ∧ ivh6 a0 12 ≤ 50 from W6.int ty1 12) (show (-2147483648) ≤ ivh6 a0 13 ∧ ivh6 a0 13 ≤ 2147483647 from W6.int ty1 13) (show (-2147483648) ≤ ivh6 a0 14 ∧ ivh6 a0 14 ≤ 2147483647 from W6.int ty1 14) (show (-2147483648) ≤ ivh6 a0 15 ∧ ivh6 a0 15 ≤ 2147483647 from W6.int ty1 15) (show (-2147483648) ≤ ivh6 a0 16 ∧ ivh6 a0 16 ≤ 2147483647 from W6.int ty1 16) (fun gk11f6 gk12f6 gk13f6 gk14f6 gk15f6 gk16f6 gf6 ri9 ri10 ri11 ri12 ri13 ri14 => ?_)
            exact c_iret C dX11_judge_124 rfl (by decide) (rom0 hph pl1 (by decide)) ⟨f6, rfl, X1, F2, W6, ⟨by omega, by omega⟩, trivial, (gk11f6.trans ie2), (gk12f6.trans ie3), (gk13f6.trans ie1), (gk14f6.trans ie4), (gk15f6.trans ie5), (gk16f6.trans ie6), (show rvh4 a0 9 = rv a0 9 from (fl4.r t_a0 rfl 9)), (show rvh4 a0 10 = rv a0 10 from (fl4.r t_a0 rfl 10))⟩
          · refine c_aload_n (j := 1) (x := a0) C dX11_judge_88 rfl ?_
            refine c_getr (k := 7) C ck_12 dX11_judge_89 w2_51 (by decide) ty1 rfl rfl (by decide) rfl re1 ?_
            refine c_st (st2 := [.ref (sk 16)]) rfl ?_
            obtain ⟨rb4, rq4, trb4⟩ := W4.ref ty2 1 rfl rfl rfl
            have erb4 := W4.sk trb4 (by decide) rfl
            subst erb4
            refine c_getr (k := 1) C ck_4 dX11_judge_92 w1_195 (by decide) ty2 rfl rfl (by decide) rfl rq4 ?_
            refine c_st (st2 := [.ref (sk 25)]) rfl ?_
            refine c_aload_n (j := 1) (x := a0) C dX11_judge_95 rfl ?_
            refine c_get (k := 13) C ck_12 dX11_judge_96 w2_57 (by decide) ty1 rfl rfl (by decide) rfl ?_
            have ty4 := xl4.ty tsk25
            refine d_callS (As := [.ref (sk 25), .int (iI (ivh4 a0 13))]) (rest := []) C hM (C_isReadable_25 (a0 := (sk 25)) (x := ivh4 a0 13) W4 sk1 ty4 (by omega) ) dX11_judge_99 kS_X11_373 rfl rfl (Nat.le_of_ble_eq_true rfl) ⟨(Nat.le_of_ble_eq_true rfl), (Nat.le_of_ble_eq_true rfl)⟩ hph pl1 (show 0 + 0 = 0 from rfl) (by decide) (fun rh7 Lh7 clh7 lnh7 ivh7 rvh7 h7 => ?_)
            obtain ⟨f7, rfl, rfl, rfl, rfl, rfl, rfl, rgf7, exf7⟩ := h7
            refine c_st (st2 := [.int (iI f7)]) rfl ?_
            refine c_if_eq (tgt := 109) C ⟨by omega, by omega⟩ dX11_judge_102 (by decide) (fun c4 => ?_) (fun c4 => ?_)
            · refine c_iconst C dX11_judge_109 ?_
              refine c_istore_n (lv2 := [(3, .int (iI 0)), (2, .ref ob1), (0, .ref a0), (1, .int (iI i))]) C dX11_judge_110 (by decide) rfl ?_
              refine c_aload_n (j := 2) (x := a0) C dX11_judge_111 rfl ?_
              refine c_iload_n (j := 0) C dX11_judge_112 rfl ?_
              refine c_if_eq (tgt := 120) C ⟨by decide, by decide⟩ dX11_judge_113 (by decide) (fun _ => ?_) (fun z => absurd z (by omega))
              refine c_iconst C dX11_judge_120 ?_
              refine d_callV (As := [.int (iI 0)]) (rest := []) C hM (C_done (a0 := a0) (x := 0) W4 sk1 ty1 ⟨by decide, by decide⟩ ) dX11_judge_121 kV_X11_109 rfl ty1 rfl rfl (by decide) ck_12 rfl (Nat.le_of_ble_eq_true rfl) ⟨(Nat.le_of_ble_eq_true rfl), (Nat.le_of_ble_eq_true rfl)⟩ hph pl1 (show 0 + 0 = 0 from rfl) (by decide) (fun rh8 Lh8 clh8 lnh8 ivh8 rvh8 h8 => ?_)
              obtain ⟨f8, rfl, rfl, rfl, rfl, rfl, fl8, W8, rgf8, exf8, kp11f8, kp12f8, kp13f8, kp14f8, kp15f8, kp16f8⟩ := h8
              refine hv12 (show 1 ≤ ivh4 a0 11 ∧ ivh4 a0 11 ≤ 100 from W4.int ty1 11) (show ivh4 a0 11 = iv a0 11 from fl4.i t_a0 rfl 11) (show 1 ≤ ivh4 a0 12 ∧ ivh4 a0 12 ≤ 50 from W4.int ty1 12) (show ivh4 a0 12 = iv a0 12 from fl4.i t_a0 rfl 12) (show (-2147483648) ≤ ivh4 a0 14 ∧ ivh4 a0 14 ≤ 2147483647 from W4.int ty1 14) (show ivh4 a0 14 = iv a0 14 from fl4.i t_a0 rfl 14) (show (-2147483648) ≤ ivh4 a0 15 ∧ ivh4 a0 15 ≤ 2147483647 from W4.int ty1 15) (show ivh4 a0 15 = iv a0 15 from fl4.i t_a0 rfl 15) (show (-2147483648) ≤ ivh4 a0 16 ∧ ivh4 a0 16 ≤ 2147483647 from W4.int ty1 16) (show ivh4 a0 16 = iv a0 16 from fl4.i t_a0 rfl 16) (F1.call X1 fl8 rfl) (MRK.call mr1 W4 sk1 XT.refl fl8 rfl rfl) (fun ri15 ie13 ri16 ie14 ri17 ie15 ri18 ie16 ri19 ie17 F3 mr3 => ?_)
              refine c_st (st2 := [.int (iI f8)]) rfl ?_
              refine hv13 (show ivh8 a0 11 = ivh4 a0 11 from kp11f8) (show ivh8 a0 12 = ivh4 a0 12 from kp12f8) (show ivh8 a0 13 = ivh4 a0 13 from kp13f8) (show ivh8 a0 14 = ivh4 a0 14 from kp14f8) (show ivh8 a0 15 = ivh4 a0 15 from kp15f8) (show ivh8 a0 16 = ivh4 a0 16 from kp16f8) (show f8 = (0 : Int) from exf8) (show 1 ≤ ivh8 a0 11 ∧ ivh8 a0 11 ≤ 100 from W8.int ty1 11) (show 1 ≤ ivh8 a0 12 ∧ ivh8 a0 12 ≤ 50 from W8.int ty1 12) (show (-2147483648) ≤ ivh8 a0 13 ∧ ivh8 a0 13 ≤ 2147483647 from W8.int ty1 13) (show (-2147483648) ≤ ivh8 a0 14 ∧ ivh8 a0 14 ≤ 2147483647 from W8.int ty1 14) (show (-2147483648) ≤ ivh8 a0 15 ∧ ivh8 a0 15 ≤ 2147483647 from W8.int ty1 15) (show (-2147483648) ≤ ivh8 a0 16 ∧ ivh8 a0 16 ≤ 2147483647 from W8.int ty1 16) (fun gk11f8 gk12f8 gk13f8 gk14f8 gk15f8 gk16f8 gf8 ri20 ri21 ri22 ri23 ri24 ri25 => ?_)
              exact c_iret C dX11_judge_124 rfl (by decide) (rom0 hph pl1 (by decide)) ⟨f8, rfl, X1, F3, W8, ⟨by omega, by omega⟩, trivial, (gk11f8.trans ie13), (gk12f8.trans ie14), (gk13f8.trans ie1), (gk14f8.trans ie15), (gk15f8.trans ie16), (gk16f8.trans ie17), (show rvh4 a0 9 = rv a0 9 from (fl4.r t_a0 rfl 9)), (show rvh4 a0 10 = rv a0 10 from (fl4.r t_a0 rfl 10))⟩
            · refine c_iconst C dX11_judge_105 ?_
              refine c_goto (tgt := 110) C dX11_judge_106 (by decide) ?_
              refine c_istore_n (lv2 := [(3, .int (iI 1)), (2, .ref ob1), (0, .ref a0), (1, .int (iI i))]) C dX11_judge_110 (by decide) rfl ?_
              refine c_aload_n (j := 2) (x := a0) C dX11_judge_111 rfl ?_
              refine c_iload_n (j := 0) C dX11_judge_112 rfl ?_
              refine c_if_eq (tgt := 120) C ⟨by decide, by decide⟩ dX11_judge_113 (by decide) (fun z => absurd z (by omega)) (fun _ => ?_)
              refine c_iconst C dX11_judge_116 ?_
              refine c_goto (tgt := 121) C dX11_judge_117 (by decide) ?_
              refine d_callV (As := [.int (iI 1)]) (rest := []) C hM (C_done (a0 := a0) (x := 1) W4 sk1 ty1 ⟨by decide, by decide⟩ ) dX11_judge_121 kV_X11_109 rfl ty1 rfl rfl (by decide) ck_12 rfl (Nat.le_of_ble_eq_true rfl) ⟨(Nat.le_of_ble_eq_true rfl), (Nat.le_of_ble_eq_true rfl)⟩ hph pl1 (show 0 + 0 = 0 from rfl) (by decide) (fun rh9 Lh9 clh9 lnh9 ivh9 rvh9 h9 => ?_)
              obtain ⟨f9, rfl, rfl, rfl, rfl, rfl, fl9, W9, rgf9, exf9, kp11f9, kp12f9, kp13f9, kp14f9, kp15f9, kp16f9⟩ := h9
              refine hv12 (show 1 ≤ ivh4 a0 11 ∧ ivh4 a0 11 ≤ 100 from W4.int ty1 11) (show ivh4 a0 11 = iv a0 11 from fl4.i t_a0 rfl 11) (show 1 ≤ ivh4 a0 12 ∧ ivh4 a0 12 ≤ 50 from W4.int ty1 12) (show ivh4 a0 12 = iv a0 12 from fl4.i t_a0 rfl 12) (show (-2147483648) ≤ ivh4 a0 14 ∧ ivh4 a0 14 ≤ 2147483647 from W4.int ty1 14) (show ivh4 a0 14 = iv a0 14 from fl4.i t_a0 rfl 14) (show (-2147483648) ≤ ivh4 a0 15 ∧ ivh4 a0 15 ≤ 2147483647 from W4.int ty1 15) (show ivh4 a0 15 = iv a0 15 from fl4.i t_a0 rfl 15) (show (-2147483648) ≤ ivh4 a0 16 ∧ ivh4 a0 16 ≤ 2147483647 from W4.int ty1 16) (show ivh4 a0 16 = iv a0 16 from fl4.i t_a0 rfl 16) (F1.call X1 fl9 rfl) (MRK.call mr1 W4 sk1 XT.refl fl9 rfl rfl) (fun ri26 ie24 ri27 ie25 ri28 ie26 ri29 ie27 ri30 ie28 F4 mr4 => ?_)
              refine c_st (st2 := [.int (iI f9)]) rfl ?_
              refine hv13 (show ivh9 a0 11 = ivh4 a0 11 from kp11f9) (show ivh9 a0 12 = ivh4 a0 12 from kp12f9) (show ivh9 a0 13 = ivh4 a0 13 from kp13f9) (show ivh9 a0 14 = ivh4 a0 14 from kp14f9) (show ivh9 a0 15 = ivh4 a0 15 from kp15f9) (show ivh9 a0 16 = ivh4 a0 16 from kp16f9) (show f9 = (1 : Int) from exf9) (show 1 ≤ ivh9 a0 11 ∧ ivh9 a0 11 ≤ 100 from W9.int ty1 11) (show 1 ≤ ivh9 a0 12 ∧ ivh9 a0 12 ≤ 50 from W9.int ty1 12) (show (-2147483648) ≤ ivh9 a0 13 ∧ ivh9 a0 13 ≤ 2147483647 from W9.int ty1 13) (show (-2147483648) ≤ ivh9 a0 14 ∧ ivh9 a0 14 ≤ 2147483647 from W9.int ty1 14) (show (-2147483648) ≤ ivh9 a0 15 ∧ ivh9 a0 15 ≤ 2147483647 from W9.int ty1 15) (show (-2147483648) ≤ ivh9 a0 16 ∧ ivh9 a0 16 ≤ 2147483647 from W9.int ty1 16) (fun gk11f9 gk12f9 gk13f9 gk14f9 gk15f9 gk16f9 gf9 ri31 ri32 ri33 ri34 ri35 ri36 => ?_)
              exact c_iret C dX11_judge_124 rfl (by decide) (rom0 hph pl1 (by decide)) ⟨f9, rfl, X1, F4, W9, ⟨by omega, by omega⟩, trivial, (gk11f9.trans ie24), (gk12f9.trans ie25), (gk13f9.trans ie1), (gk14f9.trans ie26), (gk15f9.trans ie27), (gk16f9.trans ie28), (show rvh4 a0 9 = rv a0 9 from (fl4.r t_a0 rfl 9)), (show rvh4 a0 10 = rv a0 10 from (fl4.r t_a0 rfl 10))⟩
        · refine c_aload_n (j := 1) (x := a0) C dX11_judge_57 rfl ?_
          refine c_iconst C dX11_judge_58 ?_
          refine d_callV (As := [.int (iI 0)]) (rest := []) C hM (C_done (a0 := a0) (x := 0) hW hS t_a0 ⟨by decide, by decide⟩ ) dX11_judge_59 kV_X11_109 rfl t_a0 rfl rfl (by decide) ck_12 rfl (Nat.le_of_ble_eq_true rfl) ⟨(Nat.le_of_ble_eq_true rfl), (Nat.le_of_ble_eq_true rfl)⟩ hph hph (show 0 + 0 = 0 from rfl) (by decide) (fun rh10 Lh10 clh10 lnh10 ivh10 rvh10 h10 => ?_)
          obtain ⟨f10, rfl, rfl, rfl, rfl, rfl, fl10, W10, rgf10, exf10, kp11f10, kp12f10, kp13f10, kp14f10, kp15f10, kp16f10⟩ := h10
          refine hv8 (show 1 ≤ iv a0 11 ∧ iv a0 11 ≤ 100 from hW.int t_a0 11) (show 1 ≤ iv a0 12 ∧ iv a0 12 ≤ 50 from hW.int t_a0 12) (show (-2147483648) ≤ iv a0 13 ∧ iv a0 13 ≤ 2147483647 from hW.int t_a0 13) (show (-2147483648) ≤ iv a0 14 ∧ iv a0 14 ≤ 2147483647 from hW.int t_a0 14) (show (-2147483648) ≤ iv a0 15 ∧ iv a0 15 ≤ 2147483647 from hW.int t_a0 15) (show (-2147483648) ≤ iv a0 16 ∧ iv a0 16 ≤ 2147483647 from hW.int t_a0 16) (hF0.call hX0 fl10 rfl) (MRK.call hmr hW hS XT.refl fl10 rfl rfl) (fun ri37 ri38 ri39 ri40 ri41 ri42 F5 mr5 => ?_)
          refine c_st (st2 := [.int (iI f10)]) rfl ?_
          refine hv13 (show ivh10 a0 11 = iv a0 11 from kp11f10) (show ivh10 a0 12 = iv a0 12 from kp12f10) (show ivh10 a0 13 = iv a0 13 from kp13f10) (show ivh10 a0 14 = iv a0 14 from kp14f10) (show ivh10 a0 15 = iv a0 15 from kp15f10) (show ivh10 a0 16 = iv a0 16 from kp16f10) (show f10 = (0 : Int) from exf10) (show 1 ≤ ivh10 a0 11 ∧ ivh10 a0 11 ≤ 100 from W10.int t_a0 11) (show 1 ≤ ivh10 a0 12 ∧ ivh10 a0 12 ≤ 50 from W10.int t_a0 12) (show (-2147483648) ≤ ivh10 a0 13 ∧ ivh10 a0 13 ≤ 2147483647 from W10.int t_a0 13) (show (-2147483648) ≤ ivh10 a0 14 ∧ ivh10 a0 14 ≤ 2147483647 from W10.int t_a0 14) (show (-2147483648) ≤ ivh10 a0 15 ∧ ivh10 a0 15 ≤ 2147483647 from W10.int t_a0 15) (show (-2147483648) ≤ ivh10 a0 16 ∧ ivh10 a0 16 ≤ 2147483647 from W10.int t_a0 16) (fun gk11f10 gk12f10 gk13f10 gk14f10 gk15f10 gk16f10 gf10 ri43 ri44 ri45 ri46 ri47 ri48 => ?_)
          exact c_iret C dX11_judge_62 rfl (by decide) (rom0 hph hph (by decide)) ⟨f10, rfl, hX0, F5, W10, ⟨by omega, by omega⟩, trivial, gk11f10, gk12f10, gk13f10, gk14f10, gk15f10, gk16f10, rfl, rfl⟩
      · subst oq2
        refine c_lv (lv2 := [(2, .ref ob1), (0, .ref a0), (1, .int (iI i))]) [0, 1, 2] rfl ?_
        refine c_st (st2 := []) rfl ?_
        refine c_aload_n (j := 1) (x := a0) C dX11_judge_44 rfl ?_
        refine c_iconst C dX11_judge_45 ?_
        refine d_callV (As := [.int (iI 3)]) (rest := []) C hM (C_refuse (a0 := a0) (x := 3) hW hS t_a0 ⟨by decide, by decide⟩ ) dX11_judge_46 kV_X11_102 rfl t_a0 rfl rfl (by decide) ck_12 rfl (Nat.le_of_ble_eq_true rfl) ⟨(Nat.le_of_ble_eq_true rfl), (Nat.le_of_ble_eq_true rfl)⟩ hph hph (show 0 + 0 = 0 from rfl) (by decide) (fun rh11 Lh11 clh11 lnh11 ivh11 rvh11 h11 => ?_)
        obtain ⟨f11, rfl, rfl, rfl, rfl, rfl, fl11, W11, rgf11, exf11, kp11f11, kp12f11, kp13f11, kp14f11, kp15f11, kp16f11⟩ := h11
        refine hv8 (show 1 ≤ iv a0 11 ∧ iv a0 11 ≤ 100 from hW.int t_a0 11) (show 1 ≤ iv a0 12 ∧ iv a0 12 ≤ 50 from hW.int t_a0 12) (show (-2147483648) ≤ iv a0 13 ∧ iv a0 13 ≤ 2147483647 from hW.int t_a0 13) (show (-2147483648) ≤ iv a0 14 ∧ iv a0 14 ≤ 2147483647 from hW.int t_a0 14) (show (-2147483648) ≤ iv a0 15 ∧ iv a0 15 ≤ 2147483647 from hW.int t_a0 15) (show (-2147483648) ≤ iv a0 16 ∧ iv a0 16 ≤ 2147483647 from hW.int t_a0 16) (hF0.call hX0 fl11 rfl) (MRK.call hmr hW hS XT.refl fl11 rfl rfl) (fun ri49 ri50 ri51 ri52 ri53 ri54 F6 mr6 => ?_)
        refine c_st (st2 := [.int (iI f11)]) rfl ?_
        refine hv13 (show ivh11 a0 11 = iv a0 11 from kp11f11) (show ivh11 a0 12 = iv a0 12 from kp12f11) (show ivh11 a0 13 = iv a0 13 from kp13f11) (show ivh11 a0 14 = iv a0 14 from kp14f11) (show ivh11 a0 15 = iv a0 15 from kp15f11) (show ivh11 a0 16 = iv a0 16 from kp16f11) (show f11 = -1 from exf11) (show 1 ≤ ivh11 a0 11 ∧ ivh11 a0 11 ≤ 100 from W11.int t_a0 11) (show 1 ≤ ivh11 a0 12 ∧ ivh11 a0 12 ≤ 50 from W11.int t_a0 12) (show (-2147483648) ≤ ivh11 a0 13 ∧ ivh11 a0 13 ≤ 2147483647 from W11.int t_a0 13) (show (-2147483648) ≤ ivh11 a0 14 ∧ ivh11 a0 14 ≤ 2147483647 from W11.int t_a0 14) (show (-2147483648) ≤ ivh11 a0 15 ∧ ivh11 a0 15 ≤ 2147483647 from W11.int t_a0 15) (show (-2147483648) ≤ ivh11 a0 16 ∧ ivh11 a0 16 ≤ 2147483647 from W11.int t_a0 16) (fun gk11f11 gk12f11 gk13f11 gk14f11 gk15f11 gk16f11 gf11 ri55 ri56 ri57 ri58 ri59 ri60 => ?_)
        exact c_iret C dX11_judge_49 rfl (by decide) (rom0 hph hph (by decide)) ⟨f11, rfl, hX0, F6, W11, ⟨by omega, by omega⟩, trivial, gk11f11, gk12f11, gk13f11, gk14f11, gk15f11, gk16f11, rfl, rfl⟩
    · refine c_aload_n (j := 1) (x := a0) C dX11_judge_27 rfl ?_
      refine c_iconst C dX11_judge_28 ?_
      refine d_callV (As := [.int (iI 4)]) (rest := []) C hM (C_refuse (a0 := a0) (x := 4) hW hS t_a0 ⟨by decide, by decide⟩ ) dX11_judge_29 kV_X11_102 rfl t_a0 rfl rfl (by decide) ck_12 rfl (Nat.le_of_ble_eq_true rfl) ⟨(Nat.le_of_ble_eq_true rfl), (Nat.le_of_ble_eq_true rfl)⟩ hph hph (show 0 + 0 = 0 from rfl) (by decide) (fun rh12 Lh12 clh12 lnh12 ivh12 rvh12 h12 => ?_)
      obtain ⟨f12, rfl, rfl, rfl, rfl, rfl, fl12, W12, rgf12, exf12, kp11f12, kp12f12, kp13f12, kp14f12, kp15f12, kp16f12⟩ := h12
      refine hv8 (show 1 ≤ iv a0 11 ∧ iv a0 11 ≤ 100 from hW.int t_a0 11) (show 1 ≤ iv a0 12 ∧ iv a0 12 ≤ 50 from hW.int t_a0 12) (show (-2147483648) ≤ iv a0 13 ∧ iv a0 13 ≤ 2147483647 from hW.int t_a0 13) (show (-2147483648) ≤ iv a0 14 ∧ iv a0 14 ≤ 2147483647 from hW.int t_a0 14) (show (-2147483648) ≤ iv a0 15 ∧ iv a0 15 ≤ 2147483647 from hW.int t_a0 15) (show (-2147483648) ≤ iv a0 16 ∧ iv a0 16 ≤ 2147483647 from hW.int t_a0 16) (hF0.call hX0 fl12 rfl) (MRK.call hmr hW hS XT.refl fl12 rfl rfl) (fun ri61 ri62 ri63 ri64 ri65 ri66 F7 mr7 => ?_)
      refine c_st (st2 := [.int (iI f12)]) rfl ?_
      refine hv13 (show ivh12 a0 11 = iv a0 11 from kp11f12) (show ivh12 a0 12 = iv a0 12 from kp12f12) (show ivh12 a0 13 = iv a0 13 from kp13f12) (show ivh12 a0 14 = iv a0 14 from kp14f12) (show ivh12 a0 15 = iv a0 15 from kp15f12) (show ivh12 a0 16 = iv a0 16 from kp16f12) (show f12 = -1 from exf12) (show 1 ≤ ivh12 a0 11 ∧ ivh12 a0 11 ≤ 100 from W12.int t_a0 11) (show 1 ≤ ivh12 a0 12 ∧ ivh12 a0 12 ≤ 50 from W12.int t_a0 12) (show (-2147483648) ≤ ivh12 a0 13 ∧ ivh12 a0 13 ≤ 2147483647 from W12.int t_a0 13) (show (-2147483648) ≤ ivh12 a0 14 ∧ ivh12 a0 14 ≤ 2147483647 from W12.int t_a0 14) (show (-2147483648) ≤ ivh12 a0 15 ∧ ivh12 a0 15 ≤ 2147483647 from W12.int t_a0 15) (show (-2147483648) ≤ ivh12 a0 16 ∧ ivh12 a0 16 ≤ 2147483647 from W12.int t_a0 16) (fun gk11f12 gk12f12 gk13f12 gk14f12 gk15f12 gk16f12 gf12 ri67 ri68 ri69 ri70 ri71 ri72 => ?_)
      exact c_iret C dX11_judge_32 rfl (by decide) (rom0 hph hph (by decide)) ⟨f12, rfl, hX0, F7, W12, ⟨by omega, by omega⟩, trivial, gk11f12, gk12f12, gk13f12, gk14f12, gk15f12, gk16f12, rfl, rfl⟩
  · subst oq1
    refine c_lv (lv2 := [(2, .null), (0, .ref a0), (1, .int (iI i))]) [0, 1, 2] rfl ?_
    refine c_st (st2 := []) rfl ?_
    refine c_aload_n (j := 1) (x := a0) C dX11_judge_13 rfl ?_
    refine c_iconst C dX11_judge_14 ?_
    refine d_callV (As := [.int (iI 3)]) (rest := []) C hM (C_refuse (a0 := a0) (x := 3) hW hS t_a0 ⟨by decide, by decide⟩ ) dX11_judge_15 kV_X11_102 rfl t_a0 rfl rfl (by decide) ck_12 rfl (Nat.le_of_ble_eq_true rfl) ⟨(Nat.le_of_ble_eq_true rfl), (Nat.le_of_ble_eq_true rfl)⟩ hph hph (show 0 + 0 = 0 from rfl) (by decide) (fun rh13 Lh13 clh13 lnh13 ivh13 rvh13 h13 => ?_)
    obtain ⟨f13, rfl, rfl, rfl, rfl, rfl, fl13, W13, rgf13, exf13, kp11f13, kp12f13, kp13f13, kp14f13, kp15f13, kp16f13⟩ := h13
    refine hv8 (show 1 ≤ iv a0 11 ∧ iv a0 11 ≤ 100 from hW.int t_a0 11) (show 1 ≤ iv a0 12 ∧ iv a0 12 ≤ 50 from hW.int t_a0 12) (show (-2147483648) ≤ iv a0 13 ∧ iv a0 13 ≤ 2147483647 from hW.int t_a0 13) (show (-2147483648) ≤ iv a0 14 ∧ iv a0 14 ≤ 2147483647 from hW.int t_a0 14) (show (-2147483648) ≤ iv a0 15 ∧ iv a0 15 ≤ 2147483647 from hW.int t_a0 15) (show (-2147483648) ≤ iv a0 16 ∧ iv a0 16 ≤ 2147483647 from hW.int t_a0 16) (hF0.call hX0 fl13 rfl) (MRK.call hmr hW hS XT.refl fl13 rfl rfl) (fun ri73 ri74 ri75 ri76 ri77 ri78 F8 mr8 => ?_)
    refine c_st (st2 := [.int (iI f13)]) rfl ?_
    refine hv13 (show ivh13 a0 11 = iv a0 11 from kp11f13) (show ivh13 a0 12 = iv a0 12 from kp12f13) (show ivh13 a0 13 = iv a0 13 from kp13f13) (show ivh13 a0 14 = iv a0 14 from kp14f13) (show ivh13 a0 15 = iv a0 15 from kp15f13) (show ivh13 a0 16 = iv a0 16 from kp16f13) (show f13 = -1 from exf13) (show 1 ≤ ivh13 a0 11 ∧ ivh13 a0 11 ≤ 100 from W13.int t_a0 11) (show 1 ≤ ivh13 a0 12 ∧ ivh13 a0 12 ≤ 50 from W13.int t_a0 12) (show (-2147483648) ≤ ivh13 a0 13 ∧ ivh13 a0 13 ≤ 2147483647 from W13.int t_a0 13) (show (-2147483648) ≤ ivh13 a0 14 ∧ ivh13 a0 14 ≤ 2147483647 from W13.int t_a0 14) (show (-2147483648) ≤ ivh13 a0 15 ∧ ivh13 a0 15 ≤ 2147483647 from W13.int t_a0 15) (show (-2147483648) ≤ ivh13 a0 16 ∧ ivh13 a0 16 ≤ 2147483647 from W13.int t_a0 16) (fun gk11f13 gk12f13 gk13f13 gk14f13 gk15f13 gk16f13 gf13 ri79 ri80 ri81 ri82 ri83 ri84 => ?_)
    exact c_iret C dX11_judge_18 rfl (by decide) (rom0 hph hph (by decide)) ⟨f13, rfl, hX0, F8, W13, ⟨by omega, by omega⟩, trivial, gk11f13, gk12f13, gk13f13, gk14f13, gk15f13, gk16f13, rfl, rfl⟩
set_option maxHeartbeats 4000000 in
set_option maxRecDepth 100000 in
theorem C_parts {l : Launch} {G : GT} {mi : Nat} {sk : Nat → Nat} {L : List Nat} {cl ln : Nat → Nat} {iv : Nat → Nat → Int} {rv : Nat → Nat → Option Nat}  {a0 : Nat} {i : Int} {j : Int} {k : Int} (hW : WT (g0 G) sk L cl ln iv rv) (hS : SKL sk L cl) (t_a0 : ty L cl a0 1) (h_i : -2147483648 ≤ i ∧ i ≤ 2147483647) (h_j : -2147483648 ≤ j ∧ j ≤ 2147483647) (h_k : -2147483648 ≤ k ∧ k ≤ 2147483647) (hmr : MRK sk cl iv rv) : Mc l G mi (Phi (g0 G) sk) PHM yX11_parts cX11_parts 10 (some .int) 10 [.ref a0, .int (iI i), .int (iI j), .int (iI k)] L cl ln iv rv 0 (fun v L2 cl2 ln2 iv2 rv2 => ∃ f : Int, v = some (.int (iI f)) ∧ XT L cl ln L2 cl2 ln2 ∧ fT [1, 24, 1002, 25, 1003, 6, 36, 7, 37] L cl iv rv iv2 rv2 ∧ WT (g0 G) sk L2 cl2 ln2 iv2 rv2 ∧ (-2147483648 ≤ f ∧ f ≤ 2147483647) ∧ (True) ∧ iv2 a0 11 = iv a0 11 ∧ iv2 a0 12 = iv a0 12 ∧ iv2 a0 13 = iv a0 13 ∧ iv2 a0 14 = iv a0 14 ∧ iv2 a0 15 = iv a0 15 ∧ iv2 a0 16 = iv a0 16 ∧ rv2 a0 9 = rv a0 9 ∧ rv2 a0 10 = rv a0 10) := by
  refine Mc.mk (by decide) (Nat.le_of_ble_eq_true rfl) ?_
  intro p e s m args below meth c A C hM
  refine hv21 (Phi.le hW hS) (show ty L cl (sk 2) 2 from ⟨(hS 2 rfl).1, by rw [(hS 2 rfl).2]; rfl⟩) (show ty L cl (sk 3) 3 from ⟨(hS 3 rfl).1, by rw [(hS 3 rfl).2]; rfl⟩) (show ty L cl (sk 4) 4 from ⟨(hS 4 rfl).1, by rw [(hS 4 rfl).2]; rfl⟩) (show ty L cl (sk 5) 5 from ⟨(hS 5 rfl).1, by rw [(hS 5 rfl).2]; rfl⟩) (show ty L cl (sk 6) 6 from ⟨(hS 6 rfl).1, by rw [(hS 6 rfl).2]; rfl⟩) (show ty L cl (sk 7) 7 from ⟨(hS 7 rfl).1, by rw [(hS 7 rfl).2]; rfl⟩) (show ty L cl (sk 8) 8 from ⟨(hS 8 rfl).1, by rw [(hS 8 rfl).2]; rfl⟩) (show ty L cl (sk 9) 9 from ⟨(hS 9 rfl).1, by rw [(hS 9 rfl).2]; rfl⟩) (show ty L cl (sk 10) 10 from ⟨(hS 10 rfl).1, by rw [(hS 10 rfl).2]; rfl⟩) (show ty L cl (sk 13) 13 from ⟨(hS 13 rfl).1, by rw [(hS 13 rfl).2]; rfl⟩) (show ty L cl (sk 14) 14 from ⟨(hS 14 rfl).1, by rw [(hS 14 rfl).2]; rfl⟩) (show ty L cl (sk 15) 15 from ⟨(hS 15 rfl).1, by rw [(hS 15 rfl).2]; rfl⟩) (show ty L cl (sk 16) 16 from ⟨(hS 16 rfl).1, by rw [(hS 16 rfl).2]; rfl⟩) (show ty L cl (sk 17) 17 from ⟨(hS 17 rfl).1, by rw [(hS 17 rfl).2]; rfl⟩) (show ty L cl (sk 22) 22 from ⟨(hS 22 rfl).1, by rw [(hS 22 rfl).2]; rfl⟩) (show ty L cl (sk 23) 23 from ⟨(hS 23 rfl).1, by rw [(hS 23 rfl).2]; rfl⟩) (show ty L cl (sk 24) 24 from ⟨(hS 24 rfl).1, by rw [(hS 24 rfl).2]; rfl⟩) (show ty L cl (sk 25) 25 from ⟨(hS 25 rfl).1, by rw [(hS 25 rfl).2]; rfl⟩) (show XT L cl ln L cl ln from XT.refl) (show fT [1, 24, 1002, 25, 1003, 6, 36, 7, 37] L cl iv rv iv rv from fT.refl) (fun hph tsk2 tsk3 tsk4 tsk5 tsk6 tsk7 tsk8 tsk9 tsk10 tsk13 tsk14 tsk15 tsk16 tsk17 tsk22 tsk23 tsk24 tsk25 hX0 hF0 => ?_)
  refine c_aload_n (j := 0) (x := a0) C dX11_parts_0 rfl ?_
  obtain ⟨rb1, rq1, trb1⟩ := hW.ref t_a0 4 rfl rfl rfl
  have erb1 := hW.sk trb1 (by decide) rfl
  subst erb1
  refine c_getr (k := 4) C ck_12 dX11_parts_1 w2_48 (by decide) t_a0 rfl rfl (by decide) rfl rq1 ?_
  refine c_st (st2 := [.ref (sk 13)]) rfl ?_
  refine c_iload_n (j := 1) C dX11_parts_4 rfl ?_
  refine d_callV (As := [.int (iI i)]) (rest := []) C hM (C_whole (a0 := (sk 13)) (i := i) hW hS tsk13 (by omega) hmr) dX11_parts_5 kV_X11_231 rfl tsk13 rfl rfl (by decide) ck_11 rfl (Nat.le_of_ble_eq_true rfl) ⟨(Nat.le_of_ble_eq_true rfl), (Nat.le_of_ble_eq_true rfl)⟩ hph hph (show 0 + 0 = 0 from rfl) (by decide) (fun rh1 Lh1 clh1 lnh1 ivh1 rvh1 h1 => ?_)
  obtain ⟨f1, rfl, rfl, rfl, rfl, rfl, rfl, rgf1, exf1⟩ := h1
  refine c_st (st2 := [(va_rf f1)]) rfl ?_
  refine c_astorer (r := f1) (lv2 := [(4, (va_rf f1)), (0, .ref a0), (1, .int (iI i)), (2, .int (iI j)), (3, .int (iI k))]) C dX11_parts_8 (by decide) rfl ?_
  refine c_aloadr (j := 0) (r := f1) C dX11_parts_10 rfl ?_
  refine c_ifnonnull (r := f1) (tgt := 21) C dX11_parts_12 (by decide) (fun ob1 oq1 => ?_) (fun oq1 => ?_)
  · subst oq1
    have tob1 := rgf1 ob1 rfl
    refine c_lv (lv2 := [(4, .ref ob1), (0, .ref a0), (1, .int (iI i)), (2, .int (iI j)), (3, .int (iI k))]) [0, 1, 2, 3, 4] rfl ?_
    refine c_st (st2 := []) rfl ?_
    refine c_aload_n (j := 1) (x := a0) C dX11_parts_21 rfl ?_
    obtain ⟨rb2, rq2, trb2⟩ := hW.ref t_a0 7 rfl rfl rfl
    have erb2 := hW.sk trb2 (by decide) rfl
    subst erb2
    refine c_getr (k := 7) C ck_12 dX11_parts_22 w2_51 (by decide) t_a0 rfl rfl (by decide) rfl rq2 ?_
    refine c_st (st2 := [.ref (sk 16)]) rfl ?_
    refine c_aload (j := 0) (x := ob1) C dX11_parts_25 rfl ?_
    refine d_callV (As := [.ref ob1]) (rest := []) C hM (C_gather (a0 := (sk 16)) (a1 := ob1) hW hS tsk16 tob1  ) dX11_parts_27 kV_X11_331 rfl tsk16 rfl rfl (by decide) ck_4 rfl (Nat.le_of_ble_eq_true rfl) ⟨(Nat.le_of_ble_eq_true rfl), (Nat.le_of_ble_eq_true rfl)⟩ hph hph (show 0 + 0 = 0 from rfl) (by decide) (fun rh2 Lh2 clh2 lnh2 ivh2 rvh2 h2 => ?_)
    obtain ⟨rfl, xl2, fl2, W2, exf2⟩ := h2
    refine hv4 (hF0.call hX0 fl2 rfl) (MRK.call hmr hW hS xl2 fl2 rfl rfl) (hX0.trans xl2) (xl2.skl hS) (fun F1 mr1 X1 sk1 => ?_)
    refine c_st (st2 := []) rfl ?_
    refine c_aload_n (j := 1) (x := a0) C dX11_parts_30 rfl ?_
    refine hv2 (xl2.ty t_a0) (show rvh2 a0 7 = rv a0 7 from (fl2.r t_a0 rfl 7)) (fun ty1 re1 => ?_)
    rw [rq2] at re1
    refine c_getr (k := 7) C ck_12 dX11_parts_31 w2_51 (by decide) ty1 rfl rfl (by decide) rfl re1 ?_
    refine c_st (st2 := [.ref (sk 16)]) rfl ?_
    have ty2 := xl2.ty tsk16
    obtain ⟨rb3, rq3, trb3⟩ := W2.ref ty2 0 rfl rfl rfl
    have erb3 := W2.sk trb3 (by decide) rfl
    subst erb3
    refine c_getr (k := 0) C ck_4 dX11_parts_34 w1_192 (by decide) ty2 rfl rfl (by decide) rfl rq3 ?_
    refine c_st (st2 := [.ref (sk 24)]) rfl ?_
    refine hv2 (xl2.ty tsk24) (Phi.le W2 sk1) (fun ty3 pl1 => ?_)
    have ri1 : 0 ≤ ivh2 (sk 24) 2 ∧ ivh2 (sk 24) 2 ≤ 6003 := W2.int ty3 2
    refine d_callV (As := []) (rest := []) C hM (C_size_24 (a0 := (sk 24)) W2 sk1 ty3  ) dX11_parts_37 kV_X11_183 rfl ty3 rfl rfl (by decide) ck_0 rfl (Nat.le_of_ble_eq_true rfl) ⟨(Nat.le_of_ble_eq_true rfl), (Nat.le_of_ble_eq_true rfl)⟩ hph pl1 (show 0 + 0 = 0 from rfl) (by decide) (fun rh3 Lh3 clh3 lnh3 ivh3 rvh3 h3 => ?_)
    obtain ⟨f3, rfl, rfl, rfl, rfl, rfl, rfl, rgf3, exf3⟩ := h3
    refine c_st (st2 := [.int (iI f3)]) rfl ?_
    have gf3 : f3 = ivh2 (sk 24) 2 := exf3
    refine c_istore (lv2 := [(5, .int (iI f3)), (4, .ref ob1), (0, .ref a0), (1, .int (iI i)), (2, .int (iI j)), (3, .int (iI k))]) C dX11_parts_40 (by decide) rfl ?_
    refine c_iload_n (j := 4) C dX11_parts_42 rfl ?_
    refine c_if_lt (tgt := 62) C ⟨by omega, by omega⟩ dX11_parts_43 (by decide) (fun c1 => ?_) (fun c1 => ?_)
    · refine c_aload_n (j := 2) (x := a0) C dX11_parts_62 rfl ?_
      refine c_iconst C dX11_parts_63 ?_
      refine d_callV (As := [.int (iI 2)]) (rest := []) C hM (C_refuse (a0 := a0) (x := 2) W2 sk1 ty1 ⟨by decide, by decide⟩ ) dX11_parts_64 kV_X11_102 rfl ty1 rfl rfl (by decide) ck_12 rfl (Nat.le_of_ble_eq_true rfl) ⟨(Nat.le_of_ble_eq_true rfl), (Nat.le_of_ble_eq_true rfl)⟩ hph pl1 (show 0 + 0 = 0 from rfl) (by decide) (fun rh4 Lh4 clh4 lnh4 ivh4 rvh4 h4 => ?_)
      obtain ⟨f4, rfl, rfl, rfl, rfl, rfl, fl4, W4, rgf4, exf4, kp11f4, kp12f4, kp13f4, kp14f4, kp15f4, kp16f4⟩ := h4
      refine hv14 (show 1 ≤ ivh2 a0 11 ∧ ivh2 a0 11 ≤ 100 from W2.int ty1 11) (show ivh2 a0 11 = iv a0 11 from fl2.i t_a0 rfl 11) (show 1 ≤ ivh2 a0 12 ∧ ivh2 a0 12 ≤ 50 from W2.int ty1 12) (show ivh2 a0 12 = iv a0 12 from fl2.i t_a0 rfl 12) (show (-2147483648) ≤ ivh2 a0 13 ∧ ivh2 a0 13 ≤ 2147483647 from W2.int ty1 13) (show ivh2 a0 13 = iv a0 13 from fl2.i t_a0 rfl 13) (show (-2147483648) ≤ ivh2 a0 14 ∧ ivh2 a0 14 ≤ 2147483647 from W2.int ty1 14) (show ivh2 a0 14 = iv a0 14 from fl2.i t_a0 rfl 14) (show (-2147483648) ≤ ivh2 a0 15 ∧ ivh2 a0 15 ≤ 2147483647 from W2.int ty1 15) (show ivh2 a0 15 = iv a0 15 from fl2.i t_a0 rfl 15) (show (-2147483648) ≤ ivh2 a0 16 ∧ ivh2 a0 16 ≤ 2147483647 from W2.int ty1 16) (show ivh2 a0 16 = iv a0 16 from fl2.i t_a0 rfl 16) (F1.call X1 fl4 rfl) (MRK.call mr1 W2 sk1 XT.refl fl4 rfl rfl) (fun ri2 ie2 ri3 ie3 ri4 ie4 ri5 ie5 ri6 ie6 ri7 ie7 F2 mr2 => ?_)
      refine c_st (st2 := [.int (iI f4)]) rfl ?_
      refine hv13 (show ivh4 a0 11 = ivh2 a0 11 from kp11f4) (show ivh4 a0 12 = ivh2 a0 12 from kp12f4) (show ivh4 a0 13 = ivh2 a0 13 from kp13f4) (show ivh4 a0 14 = ivh2 a0 14 from kp14f4) (show ivh4 a0 15 = ivh2 a0 15 from kp15f4) (show ivh4 a0 16 = ivh2 a0 16 from kp16f4) (show f4 = -1 from exf4) (show 1 ≤ ivh4 a0 11 ∧ ivh4 a0 11 ≤ 100 from W4.int ty1 11) (show 1 ≤ ivh4 a0 12 ∧ ivh4 a0 12 ≤ 50 from W4.int ty1 12) (show (-2147483648) ≤ ivh4 a0 13 ∧ ivh4 a0 13 ≤ 2147483647 from W4.int ty1 13) (show (-2147483648) ≤ ivh4 a0 14 ∧ ivh4 a0 14 ≤ 2147483647 from W4.int ty1 14) (show (-2147483648) ≤ ivh4 a0 15 ∧ ivh4 a0 15 ≤ 2147483647 from W4.int ty1 15) (show (-2147483648) ≤ ivh4 a0 16 ∧ ivh4 a0 16 ≤ 2147483647 from W4.int ty1 16) (fun gk11f4 gk12f4 gk13f4 gk14f4 gk15f4 gk16f4 gf4 ri8 ri9 ri10 ri11 ri12 ri13 => ?_)
      exact c_iret C dX11_parts_67 rfl (by decide) (rom0 hph pl1 (by decide)) ⟨f4, rfl, X1, F2, W4, ⟨by omega, by omega⟩, trivial, (gk11f4.trans ie2), (gk12f4.trans ie3), (gk13f4.trans ie4), (gk14f4.trans ie5), (gk15f4.trans ie6), (gk16f4.trans ie7), (show rvh2 a0 9 = rv a0 9 from (fl2.r t_a0 rfl 9)), (show rvh2 a0 10 = rv a0 10 from (fl2.r t_a0 rfl 10))⟩
    · refine c_iload_n (j := 4) C dX11_parts_46 rfl ?_
      refine c_iload (j := 0) C dX11_parts_47 rfl ?_
      refine c_icmp_ge (tgt := 62) C ⟨by omega, by omega⟩ ⟨by omega, by omega⟩ dX11_parts_49 (by decide) (fun c2 => ?_) (fun c2 => ?_)
      · refine c_aload_n (j := 2) (x := a0) C dX11_parts_62 rfl ?_
        refine c_iconst C dX11_parts_63 ?_
        refine d_callV (As := [.int (iI 2)]) (rest := []) C hM (C_refuse (a0 := a0) (x := 2) W2 sk1 ty1 ⟨by decide, by decide⟩ ) dX11_parts_64 kV_X11_102 rfl ty1 rfl rfl (by decide) ck_12 rfl (Nat.le_of_ble_eq_true rfl) ⟨(Nat.le_of_ble_eq_true rfl), (Nat.le_of_ble_eq_true rfl)⟩ hph pl1 (show 0 + 0 = 0 from rfl) (by decide) (fun rh5 Lh5 clh5 lnh5 ivh5 rvh5 h5 => ?_)
        obtain ⟨f5, rfl, rfl, rfl, rfl, rfl, fl5, W5, rgf5, exf5, kp11f5, kp12f5, kp13f5, kp14f5, kp15f5, kp16f5⟩ := h5
        refine hv14 (show 1 ≤ ivh2 a0 11 ∧ ivh2 a0 11 ≤ 100 from W2.int ty1 11) (show ivh2 a0 11 = iv a0 11 from fl2.i t_a0 rfl 11) (show 1 ≤ ivh2 a0 12 ∧ ivh2 a0 12 ≤ 50 from W2.int ty1 12) (show ivh2 a0 12 = iv a0 12 from fl2.i t_a0 rfl 12) (show (-2147483648) ≤ ivh2 a0 13 ∧ ivh2 a0 13 ≤ 2147483647 from W2.int ty1 13) (show ivh2 a0 13 = iv a0 13 from fl2.i t_a0 rfl 13) (show (-2147483648) ≤ ivh2 a0 14 ∧ ivh2 a0 14 ≤ 2147483647 from W2.int ty1 14) (show ivh2 a0 14 = iv a0 14 from fl2.i t_a0 rfl 14) (show (-2147483648) ≤ ivh2 a0 15 ∧ ivh2 a0 15 ≤ 2147483647 from W2.int ty1 15) (show ivh2 a0 15 = iv a0 15 from fl2.i t_a0 rfl 15) (show (-2147483648) ≤ ivh2 a0 16 ∧ ivh2 a0 16 ≤ 2147483647 from W2.int ty1 16) (show ivh2 a0 16 = iv a0 16 from fl2.i t_a0 rfl 16) (F1.call X1 fl5 rfl) (MRK.call mr1 W2 sk1 XT.refl fl5 rfl rfl) (fun ri14 ie14 ri15 ie15 ri16 ie16 ri17 ie17 ri18 ie18 ri19 ie19 F3 mr3 => ?_)
        refine c_st (st2 := [.int (iI f5)]) rfl ?_
        refine hv13 (show ivh5 a0 11 = ivh2 a0 11 from kp11f5) (show ivh5 a0 12 = ivh2 a0 12 from kp12f5) (show ivh5 a0 13 = ivh2 a0 13 from kp13f5) (show ivh5 a0 14 = ivh2 a0 14 from kp14f5) (show ivh5 a0 15 = ivh2 a0 15 from kp15f5) (show ivh5 a0 16 = ivh2 a0 16 from kp16f5) (show f5 = -1 from exf5) (show 1 ≤ ivh5 a0 11 ∧ ivh5 a0 11 ≤ 100 from W5.int ty1 11) (show 1 ≤ ivh5 a0 12 ∧ ivh5 a0 12 ≤ 50 from W5.int ty1 12) (show (-2147483648) ≤ ivh5 a0 13 ∧ ivh5 a0 13 ≤ 2147483647 from W5.int ty1 13) (show (-2147483648) ≤ ivh5 a0 14 ∧ ivh5 a0 14 ≤ 2147483647 from W5.int ty1 14) (show (-2147483648) ≤ ivh5 a0 15 ∧ ivh5 a0 15 ≤ 2147483647 from W5.int ty1 15) (show (-2147483648) ≤ ivh5 a0 16 ∧ ivh5 a0 16 ≤ 2147483647 from W5.int ty1 16) (fun gk11f5 gk12f5 gk13f5 gk14f5 gk15f5 gk16f5 gf5 ri20 ri21 ri22 ri23 ri24 ri25 => ?_)
        exact c_iret C dX11_parts_67 rfl (by decide) (rom0 hph pl1 (by decide)) ⟨f5, rfl, X1, F3, W5, ⟨by omega, by omega⟩, trivial, (gk11f5.trans ie14), (gk12f5.trans ie15), (gk13f5.trans ie16), (gk14f5.trans ie17), (gk15f5.trans ie18), (gk16f5.trans ie19), (show rvh2 a0 9 = rv a0 9 from (fl2.r t_a0 rfl 9)), (show rvh2 a0 10 = rv a0 10 from (fl2.r t_a0 rfl 10))⟩
      · refine c_iload_n (j := 5) C dX11_parts_52 rfl ?_
        refine c_if_lt (tgt := 62) C ⟨by omega, by omega⟩ dX11_parts_53 (by decide) (fun c3 => ?_) (fun c3 => ?_)
        · refine c_aload_n (j := 2) (x := a0) C dX11_parts_62 rfl ?_
          refine c_iconst C dX11_parts_63 ?_
          refine d_callV (As := [.int (iI 2)]) (rest := []) C hM (C_refuse (a0 := a0) (x := 2) W2 sk1 ty1 ⟨by decide, by decide⟩ ) dX11_parts_64 kV_X11_102 rfl ty1 rfl rfl (by decide) ck_12 rfl (Nat.le_of_ble_eq_true rfl) ⟨(Nat.le_of_ble_eq_true rfl), (Nat.le_of_ble_eq_true rfl)⟩ hph pl1 (show 0 + 0 = 0 from rfl) (by decide) (fun rh6 Lh6 clh6 lnh6 ivh6 rvh6 h6 => ?_)
          obtain ⟨f6, rfl, rfl, rfl, rfl, rfl, fl6, W6, rgf6, exf6, kp11f6, kp12f6, kp13f6, kp14f6, kp15f6, kp16f6⟩ := h6
          refine hv14 (show 1 ≤ ivh2 a0 11 ∧ ivh2 a0 11 ≤ 100 from W2.int ty1 11) (show ivh2 a0 11 = iv a0 11 from fl2.i t_a0 rfl 11) (show 1 ≤ ivh2 a0 12 ∧ ivh2 a0 12 ≤ 50 from W2.int ty1 12) (show ivh2 a0 12 = iv a0 12 from fl2.i t_a0 rfl 12) (show (-2147483648) ≤ ivh2 a0 13 ∧ ivh2 a0 13 ≤ 2147483647 from W2.int ty1 13) (show ivh2 a0 13 = iv a0 13 from fl2.i t_a0 rfl 13) (show (-2147483648) ≤ ivh2 a0 14 ∧ ivh2 a0 14 ≤ 2147483647 from W2.int ty1 14) (show ivh2 a0 14 = iv a0 14 from fl2.i t_a0 rfl 14) (show (-2147483648) ≤ ivh2 a0 15 ∧ ivh2 a0 15 ≤ 2147483647 from W2.int ty1 15) (show ivh2 a0 15 = iv a0 15 from fl2.i t_a0 rfl 15) (show (-2147483648) ≤ ivh2 a0 16 ∧ ivh2 a0 16 ≤ 2147483647 from W2.int ty1 16) (show ivh2 a0 16 = iv a0 16 from fl2.i t_a0 rfl 16) (F1.call X1 fl6 rfl) (MRK.call mr1 W2 sk1 XT.refl fl6 rfl rfl) (fun ri26 ie26 ri27 ie27 ri28 ie28 ri29 ie29 ri30 ie30 ri31 ie31 F4 mr4 => ?_)
          refine c_st (st2 := [.int (iI f6)]) rfl ?_
          refine hv13 (show ivh6 a0 11 = ivh2 a0 11 from kp11f6) (show ivh6 a0 12 = ivh2 a0 12 from kp12f6) (show ivh6 a0 13 = ivh2 a0 13 from kp13f6) (show ivh6 a0 14 = ivh2 a0 14 from kp14f6) (show ivh6 a0 15 = ivh2 a0 15 from kp15f6) (show ivh6 a0 16 = ivh2 a0 16 from kp16f6) (show f6 = -1 from exf6) (show 1 ≤ ivh6 a0 11 ∧ ivh6 a0 11 ≤ 100 from W6.int ty1 11) (show 1 ≤ ivh6 a0 12 ∧ ivh6 a0 12 ≤ 50 from W6.int ty1 12) (show (-2147483648) ≤ ivh6 a0 13 ∧ ivh6 a0 13 ≤ 2147483647 from W6.int ty1 13) (show (-2147483648) ≤ ivh6 a0 14 ∧ ivh6 a0 14 ≤ 2147483647 from W6.int ty1 14) (show (-2147483648) ≤ ivh6 a0 15 ∧ ivh6 a0 15 ≤ 2147483647 from W6.int ty1 15) (show (-2147483648) ≤ ivh6 a0 16 ∧ ivh6 a0 16 ≤ 2147483647 from W6.int ty1 16) (fun gk11f6 gk12f6 gk13f6 gk14f6 gk15f6 gk16f6 gf6 ri32 ri33 ri34 ri35 ri36 ri37 => ?_)
          exact c_iret C dX11_parts_67 rfl (by decide) (rom0 hph pl1 (by decide)) ⟨f6, rfl, X1, F4, W6, ⟨by omega, by omega⟩, trivial, (gk11f6.trans ie26), (gk12f6.trans ie27), (gk13f6.trans ie28), (gk14f6.trans ie29), (gk15f6.trans ie30), (gk16f6.trans ie31), (show rvh2 a0 9 = rv a0 9 from (fl2.r t_a0 rfl 9)), (show rvh2 a0 10 = rv a0 10 from (fl2.r t_a0 rfl 10))⟩
        · refine c_iload_n (j := 5) C dX11_parts_56 rfl ?_
          refine c_iload (j := 0) C dX11_parts_57 rfl ?_
          refine c_icmp_lt (tgt := 68) C ⟨by omega, by omega⟩ ⟨by omega, by omega⟩ dX11_parts_59 (by decide) (fun c4 => ?_) (fun c4 => ?_)
          · refine c_aload_n (j := 2) (x := a0) C dX11_parts_68 rfl ?_
            refine c_getr (k := 7) C ck_12 dX11_parts_69 w2_51 (by decide) ty1 rfl rfl (by decide) rfl re1 ?_
            refine c_st (st2 := [.ref (sk 16)]) rfl ?_
            refine c_getr (k := 0) C ck_4 dX11_parts_72 w1_192 (by decide) ty2 rfl rfl (by decide) rfl rq3 ?_
            refine c_st (st2 := [.ref (sk 24)]) rfl ?_
            refine c_iload_n (j := 4) C dX11_parts_75 rfl ?_
            refine d_callV (As := [.int (iI j)]) (rest := []) C hM (C_get_24 (a0 := (sk 24)) (i := j) W2 sk1 ty3 (by omega) (by show 0 ≤ j ∧ j < ivh2 (sk 24) 2; omega)) dX11_parts_76 kV_X11_204 rfl ty3 rfl rfl (by decide) ck_0 rfl (Nat.le_of_ble_eq_true rfl) ⟨(Nat.le_of_ble_eq_true rfl), (Nat.le_of_ble_eq_true rfl)⟩ hph pl1 (show 0 + 0 = 0 from rfl) (by decide) (fun rh7 Lh7 clh7 lnh7 ivh7 rvh7 h7 => ?_)
            obtain ⟨f7, rfl, rfl, rfl, rfl, rfl, rfl, rgf7, exf7⟩ := h7
            refine c_st (st2 := [.ref f7]) rfl ?_
            have gf7 : el rvh2 (sk 24) j.toNat = some f7 := exf7
            refine c_cast C ck_6 dX11_parts_79 w3_125 w8_169t rgf7 rfl rfl (by decide) ?_
            refine c_astore (lv2 := [(6, .ref f7), (5, .int (iI f3)), (4, .ref ob1), (0, .ref a0), (1, .int (iI i)), (2, .int (iI j)), (3, .int (iI k))]) C dX11_parts_82 (by decide) rfl ?_
            refine c_aload_n (j := 3) (x := a0) C dX11_parts_84 rfl ?_
            refine c_getr (k := 7) C ck_12 dX11_parts_85 w2_51 (by decide) ty1 rfl rfl (by decide) rfl re1 ?_
            refine c_st (st2 := [.ref (sk 16)]) rfl ?_
            refine c_getr (k := 0) C ck_4 dX11_parts_88 w1_192 (by decide) ty2 rfl rfl (by decide) rfl rq3 ?_
            refine c_st (st2 := [.ref (sk 24)]) rfl ?_
            refine c_iload_n (j := 6) C dX11_parts_91 rfl ?_
            refine d_callV (As := [.int (iI k)]) (rest := []) C hM (C_get_24 (a0 := (sk 24)) (i := k) W2 sk1 ty3 (by omega) (by show 0 ≤ k ∧ k < ivh2 (sk 24) 2; omega)) dX11_parts_92 kV_X11_204 rfl ty3 rfl rfl (by decide) ck_0 rfl (Nat.le_of_ble_eq_true rfl) ⟨(Nat.le_of_ble_eq_true rfl), (Nat.le_of_ble_eq_true rfl)⟩ hph pl1 (show 0 + 0 = 0 from rfl) (by decide) (fun rh8 Lh8 clh8 lnh8 ivh8 rvh8 h8 => ?_)
            obtain ⟨f8, rfl, rfl, rfl, rfl, rfl, rfl, rgf8, exf8⟩ := h8
            refine c_st (st2 := [.ref f8]) rfl ?_
            have gf8 : el rvh2 (sk 24) k.toNat = some f8 := exf8
            refine c_cast C ck_6 dX11_parts_95 w3_125 w8_169t rgf8 rfl rfl (by decide) ?_
            refine c_astore (lv2 := [(7, .ref f8), (6, .ref f7), (5, .int (iI f3)), (4, .ref ob1), (0, .ref a0), (1, .int (iI i)), (2, .int (iI j)), (3, .int (iI k))]) C dX11_parts_98 (by decide) rfl ?_
            refine c_aload (j := 1) (x := f7) C dX11_parts_100 rfl ?_
            refine c_aload (j := 0) (x := f8) C dX11_parts_102 rfl ?_
            refine d_callV (As := [.ref f8]) (rest := []) C hM (C_alike (a0 := f7) (a1 := f8) W2 sk1 rgf7 rgf8  ) dX11_parts_104 kV_X11_380 rfl rgf7 rfl rfl (by decide) ck_6 rfl (Nat.le_of_ble_eq_true rfl) ⟨(Nat.le_of_ble_eq_true rfl), (Nat.le_of_ble_eq_true rfl)⟩ hph pl1 (show 0 + 0 = 0 from rfl) (by decide) (fun rh9 Lh9 clh9 lnh9 ivh9 rvh9 h9 => ?_)
            obtain ⟨f9, rfl, rfl, rfl, rfl, rfl, rfl, rgf9, exf9⟩ := h9
            refine c_st (st2 := [.int (iI f9)]) rfl ?_
            have gf9 : 0 ≤ f9 ∧ f9 ≤ 4 := exf9
            refine c_istore (lv2 := [(8, .int (iI f9)), (7, .ref f8), (6, .ref f7), (5, .int (iI f3)), (4, .ref ob1), (0, .ref a0), (1, .int (iI i)), (2, .int (iI j)), (3, .int (iI k))]) C dX11_parts_107 (by decide) rfl ?_
            refine c_iload (j := 0) C dX11_parts_109 rfl ?_
            refine c_aload (j := 2) (x := f7) C dX11_parts_111 rfl ?_
            obtain ⟨rb4, rq4, trb4⟩ := W2.ref rgf7 2 rfl rfl rfl
            have lnrb4 : 1 ≤ lnh2 rb4 ∧ lnh2 rb4 ≤ 4 := W2.len trb4 rfl
            refine c_getr (k := 2) C ck_6 dX11_parts_113 w3_146 (by decide) rgf7 rfl rfl (by decide) rfl rq4 ?_
            refine c_st (st2 := [.ref rb4, .int (iI f9)]) rfl ?_
            have ll1 : 1 ≤ lnh2 rb4 ∧ lnh2 rb4 ≤ 4 := W2.len trb4 rfl
            refine c_alenI C dX11_parts_116 trb4 rfl ?_
            refine c_icmp_eq (tgt := 131) C (r32_c (lo := 0) (hi := 4) gf9.1 gf9.2 (by decide) (by decide)) ⟨by omega, by omega⟩ dX11_parts_117 (by decide) (fun c5 => ?_) (fun c5 => ?_)
            · refine c_iconst C dX11_parts_131 ?_
              refine c_goto (tgt := 136) C dX11_parts_132 (by decide) ?_
              refine c_istore (lv2 := [(9, .int (iI 1)), (8, .int (iI f9)), (7, .ref f8), (6, .ref f7), (5, .int (iI f3)), (4, .ref ob1), (0, .ref a0), (1, .int (iI i)), (2, .int (iI j)), (3, .int (iI k))]) C dX11_parts_136 (by decide) rfl ?_
              refine c_aload_n (j := 6) (x := a0) C dX11_parts_138 rfl ?_
              refine c_iload (j := 0) C dX11_parts_139 rfl ?_
              refine c_if_eq (tgt := 151) C ⟨by decide, by decide⟩ dX11_parts_141 (by decide) (fun z => absurd z (by omega)) (fun _ => ?_)
              refine c_iconst C dX11_parts_144 ?_
              refine c_iload (j := 1) C dX11_parts_145 rfl ?_
              refine c_isub C dX11_parts_147 ?_
              refine c_goto (tgt := 153) C dX11_parts_148 (by decide) ?_
              refine d_callV (As := [.int (iI ((-1) - f9))]) (rest := []) C hM (C_done (a0 := a0) (x := (-1) - f9) W2 sk1 ty1 (by omega) ) dX11_parts_153 kV_X11_109 rfl ty1 rfl rfl (by decide) ck_12 rfl (Nat.le_of_ble_eq_true rfl) ⟨(Nat.le_of_ble_eq_true rfl), (Nat.le_of_ble_eq_true rfl)⟩ hph pl1 (show 0 + 0 = 0 from rfl) (by decide) (fun rh10 Lh10 clh10 lnh10 ivh10 rvh10 h10 => ?_)
              obtain ⟨f10, rfl, rfl, rfl, rfl, rfl, fl10, W10, rgf10, exf10, kp11f10, kp12f10, kp13f10, kp14f10, kp15f10, kp16f10⟩ := h10
              refine hv14 (show 1 ≤ ivh2 a0 11 ∧ ivh2 a0 11 ≤ 100 from W2.int ty1 11) (show ivh2 a0 11 = iv a0 11 from fl2.i t_a0 rfl 11) (show 1 ≤ ivh2 a0 12 ∧ ivh2 a0 12 ≤ 50 from W2.int ty1 12) (show ivh2 a0 12 = iv a0 12 from fl2.i t_a0 rfl 12) (show (-2147483648) ≤ ivh2 a0 13 ∧ ivh2 a0 13 ≤ 2147483647 from W2.int ty1 13) (show ivh2 a0 13 = iv a0 13 from fl2.i t_a0 rfl 13) (show (-2147483648) ≤ ivh2 a0 14 ∧ ivh2 a0 14 ≤ 2147483647 from W2.int ty1 14) (show ivh2 a0 14 = iv a0 14 from fl2.i t_a0 rfl 14) (show (-2147483648) ≤ ivh2 a0 15 ∧ ivh2 a0 15 ≤ 2147483647 from W2.int ty1 15) (show ivh2 a0 15 = iv a0 15 from fl2.i t_a0 rfl 15) (show (-2147483648) ≤ ivh2 a0 16 ∧ ivh2 a0 16 ≤ 2147483647 from W2.int ty1 16) (show ivh2 a0 16 = iv a0 16 from fl2.i t_a0 rfl 16) (F1.call X1 fl10 rfl) (MRK.call mr1 W2 sk1 XT.refl fl10 rfl rfl) (fun ri38 ie38 ri39 ie39 ri40 ie40 ri41 ie41 ri42 ie42 ri43 ie43 F5 mr5 => ?_)
              refine c_st (st2 := [.int (iI f10)]) rfl ?_
              refine hv13 (show ivh10 a0 11 = ivh2 a0 11 from kp11f10) (show ivh10 a0 12 = ivh2 a0 12 from kp12f10) (show ivh10 a0 13 = ivh2 a0 13 from kp13f10) (show ivh10 a0 14 = ivh2 a0 14 from kp14f10) (show ivh10 a0 15 = ivh2 a0 15 from kp15f10) (show ivh10 a0 16 = ivh2 a0 16 from kp16f10) (show f10 = ((-1) - f9) from exf10) (show 1 ≤ ivh10 a0 11 ∧ ivh10 a0 11 ≤ 100 from W10.int ty1 11) (show 1 ≤ ivh10 a0 12 ∧ ivh10 a0 12 ≤ 50 from W10.int ty1 12) (show (-2147483648) ≤ ivh10 a0 13 ∧ ivh10 a0 13 ≤ 2147483647 from W10.int ty1 13) (show (-2147483648) ≤ ivh10 a0 14 ∧ ivh10 a0 14 ≤ 2147483647 from W10.int ty1 14) (show (-2147483648) ≤ ivh10 a0 15 ∧ ivh10 a0 15 ≤ 2147483647 from W10.int ty1 15) (show (-2147483648) ≤ ivh10 a0 16 ∧ ivh10 a0 16 ≤ 2147483647 from W10.int ty1 16) (fun gk11f10 gk12f10 gk13f10 gk14f10 gk15f10 gk16f10 gf10 ri44 ri45 ri46 ri47 ri48 ri49 => ?_)
              exact c_iret C dX11_parts_156 rfl (by decide) (rom0 hph pl1 (by decide)) ⟨f10, rfl, X1, F5, W10, ⟨by omega, by omega⟩, trivial, (gk11f10.trans ie38), (gk12f10.trans ie39), (gk13f10.trans ie40), (gk14f10.trans ie41), (gk15f10.trans ie42), (gk16f10.trans ie43), (show rvh2 a0 9 = rv a0 9 from (fl2.r t_a0 rfl 9)), (show rvh2 a0 10 = rv a0 10 from (fl2.r t_a0 rfl 10))⟩
            · refine c_iload (j := 0) C dX11_parts_120 rfl ?_
              refine c_aload (j := 1) (x := f8) C dX11_parts_122 rfl ?_
              obtain ⟨rb5, rq5, trb5⟩ := W2.ref rgf8 2 rfl rfl rfl
              have lnrb5 : 1 ≤ lnh2 rb5 ∧ lnh2 rb5 ≤ 4 := W2.len trb5 rfl
              refine c_getr (k := 2) C ck_6 dX11_parts_124 w3_146 (by decide) rgf8 rfl rfl (by decide) rfl rq5 ?_
              refine c_st (st2 := [.ref rb5, .int (iI f9)]) rfl ?_
              have ll2 : 1 ≤ lnh2 rb5 ∧ lnh2 rb5 ≤ 4 := W2.len trb5 rfl
              refine c_alenI C dX11_parts_127 trb5 rfl ?_
              refine c_icmp_ne (tgt := 135) C (r32_c (lo := 0) (hi := 4) gf9.1 gf9.2 (by decide) (by decide)) ⟨by omega, by omega⟩ dX11_parts_128 (by decide) (fun c6 => ?_) (fun c6 => ?_)
              · refine c_iconst C dX11_parts_135 ?_
                refine c_istore (lv2 := [(9, .int (iI 0)), (8, .int (iI f9)), (7, .ref f8), (6, .ref f7), (5, .int (iI f3)), (4, .ref ob1), (0, .ref a0), (1, .int (iI i)), (2, .int (iI j)), (3, .int (iI k))]) C dX11_parts_136 (by decide) rfl ?_
                refine c_aload_n (j := 6) (x := a0) C dX11_parts_138 rfl ?_
                refine c_iload (j := 0) C dX11_parts_139 rfl ?_
                refine c_if_eq (tgt := 151) C ⟨by decide, by decide⟩ dX11_parts_141 (by decide) (fun _ => ?_) (fun z => absurd z (by omega))
                refine c_iload (j := 1) C dX11_parts_151 rfl ?_
                refine d_callV (As := [.int (iI f9)]) (rest := []) C hM (C_done (a0 := a0) (x := f9) W2 sk1 ty1 (by omega) ) dX11_parts_153 kV_X11_109 rfl ty1 rfl rfl (by decide) ck_12 rfl (Nat.le_of_ble_eq_true rfl) ⟨(Nat.le_of_ble_eq_true rfl), (Nat.le_of_ble_eq_true rfl)⟩ hph pl1 (show 0 + 0 = 0 from rfl) (by decide) (fun rh11 Lh11 clh11 lnh11 ivh11 rvh11 h11 => ?_)
                obtain ⟨f11, rfl, rfl, rfl, rfl, rfl, fl11, W11, rgf11, exf11, kp11f11, kp12f11, kp13f11, kp14f11, kp15f11, kp16f11⟩ := h11
                refine hv14 (show 1 ≤ ivh2 a0 11 ∧ ivh2 a0 11 ≤ 100 from W2.int ty1 11) (show ivh2 a0 11 = iv a0 11 from fl2.i t_a0 rfl 11) (show 1 ≤ ivh2 a0 12 ∧ ivh2 a0 12 ≤ 50 from W2.int ty1 12) (show ivh2 a0 12 = iv a0 12 from fl2.i t_a0 rfl 12) (show (-2147483648) ≤ ivh2 a0 13 ∧ ivh2 a0 13 ≤ 2147483647 from W2.int ty1 13) (show ivh2 a0 13 = iv a0 13 from fl2.i t_a0 rfl 13) (show (-2147483648) ≤ ivh2 a0 14 ∧ ivh2 a0 14 ≤ 2147483647 from W2.int ty1 14) (show ivh2 a0 14 = iv a0 14 from fl2.i t_a0 rfl 14) (show (-2147483648) ≤ ivh2 a0 15 ∧ ivh2 a0 15 ≤ 2147483647 from W2.int ty1 15) (show ivh2 a0 15 = iv a0 15 from fl2.i t_a0 rfl 15) (show (-2147483648) ≤ ivh2 a0 16 ∧ ivh2 a0 16 ≤ 2147483647 from W2.int ty1 16) (show ivh2 a0 16 = iv a0 16 from fl2.i t_a0 rfl 16) (F1.call X1 fl11 rfl) (MRK.call mr1 W2 sk1 XT.refl fl11 rfl rfl) (fun ri50 ie50 ri51 ie51 ri52 ie52 ri53 ie53 ri54 ie54 ri55 ie55 F6 mr6 => ?_)
                refine c_st (st2 := [.int (iI f11)]) rfl ?_
                refine hv13 (show ivh11 a0 11 = ivh2 a0 11 from kp11f11) (show ivh11 a0 12 = ivh2 a0 12 from kp12f11) (show ivh11 a0 13 = ivh2 a0 13 from kp13f11) (show ivh11 a0 14 = ivh2 a0 14 from kp14f11) (show ivh11 a0 15 = ivh2 a0 15 from kp15f11) (show ivh11 a0 16 = ivh2 a0 16 from kp16f11) (show f11 = f9 from exf11) (show 1 ≤ ivh11 a0 11 ∧ ivh11 a0 11 ≤ 100 from W11.int ty1 11) (show 1 ≤ ivh11 a0 12 ∧ ivh11 a0 12 ≤ 50 from W11.int ty1 12) (show (-2147483648) ≤ ivh11 a0 13 ∧ ivh11 a0 13 ≤ 2147483647 from W11.int ty1 13) (show (-2147483648) ≤ ivh11 a0 14 ∧ ivh11 a0 14 ≤ 2147483647 from W11.int ty1 14) (show (-2147483648) ≤ ivh11 a0 15 ∧ ivh11 a0 15 ≤ 2147483647 from W11.int ty1 15) (show (-2147483648) ≤ ivh11 a0 16 ∧ ivh11 a0 16 ≤ 2147483647 from W11.int ty1 16) (fun gk11f11 gk12f11 gk13f11 gk14f11 gk15f11 gk16f11 gf11 ri56 ri57 ri58 ri59 ri60 ri61 => ?_)
                exact c_iret C dX11_parts_156 rfl (by decide) (rom0 hph pl1 (by decide)) ⟨f11, rfl, X1, F6, W11, ⟨by omega, by omega⟩, trivial, (gk11f11.trans ie50), (gk12f11.trans ie51), (gk13f11.trans ie52), (gk14f11.trans ie53), (gk15f11.trans ie54), (gk16f11.trans ie55), (show rvh2 a0 9 = rv a0 9 from (fl2.r t_a0 rfl 9)), (show rvh2 a0 10 = rv a0 10 from (fl2.r t_a0 rfl 10))⟩
              · refine c_iconst C dX11_parts_131 ?_
                refine c_goto (tgt := 136) C dX11_parts_132 (by decide) ?_
                refine c_istore (lv2 := [(9, .int (iI 1)), (8, .int (iI f9)), (7, .ref f8), (6, .ref f7), (5, .int (iI f3)), (4, .ref ob1), (0, .ref a0), (1, .int (iI i)), (2, .int (iI j)), (3, .int (iI k))]) C dX11_parts_136 (by decide) rfl ?_
                refine c_aload_n (j := 6) (x := a0) C dX11_parts_138 rfl ?_
                refine c_iload (j := 0) C dX11_parts_139 rfl ?_
                refine c_if_eq (tgt := 151) C ⟨by decide, by decide⟩ dX11_parts_141 (by decide) (fun z => absurd z (by omega)) (fun _ => ?_)
                refine c_iconst C dX11_parts_144 ?_
                refine c_iload (j := 1) C dX11_parts_145 rfl ?_
                refine c_isub C dX11_parts_147 ?_
                refine c_goto (tgt := 153) C dX11_parts_148 (by decide) ?_
                refine d_callV (As := [.int (iI ((-1) - f9))]) (rest := []) C hM (C_done (a0 := a0) (x := (-1) - f9) W2 sk1 ty1 (by omega) ) dX11_parts_153 kV_X11_109 rfl ty1 rfl rfl (by decide) ck_12 rfl (Nat.le_of_ble_eq_true rfl) ⟨(Nat.le_of_ble_eq_true rfl), (Nat.le_of_ble_eq_true rfl)⟩ hph pl1 (show 0 + 0 = 0 from rfl) (by decide) (fun rh12 Lh12 clh12 lnh12 ivh12 rvh12 h12 => ?_)
                obtain ⟨f12, rfl, rfl, rfl, rfl, rfl, fl12, W12, rgf12, exf12, kp11f12, kp12f12, kp13f12, kp14f12, kp15f12, kp16f12⟩ := h12
                refine hv14 (show 1 ≤ ivh2 a0 11 ∧ ivh2 a0 11 ≤ 100 from W2.int ty1 11) (show ivh2 a0 11 = iv a0 11 from fl2.i t_a0 rfl 11) (show 1 ≤ ivh2 a0 12 ∧ ivh2 a0 12 ≤ 50 from W2.int ty1 12) (show ivh2 a0 12 = iv a0 12 from fl2.i t_a0 rfl 12) (show (-2147483648) ≤ ivh2 a0 13 ∧ ivh2 a0 13 ≤ 2147483647 from W2.int ty1 13) (show ivh2 a0 13 = iv a0 13 from fl2.i t_a0 rfl 13) (show (-2147483648) ≤ ivh2 a0 14 ∧ ivh2 a0 14 ≤ 2147483647 from W2.int ty1 14) (show ivh2 a0 14 = iv a0 14 from fl2.i t_a0 rfl 14) (show (-2147483648) ≤ ivh2 a0 15 ∧ ivh2 a0 15 ≤ 2147483647 from W2.int ty1 15) (show ivh2 a0 15 = iv a0 15 from fl2.i t_a0 rfl 15) (show (-2147483648) ≤ ivh2 a0 16 ∧ ivh2 a0 16 ≤ 2147483647 from W2.int ty1 16) (show ivh2 a0 16 = iv a0 16 from fl2.i t_a0 rfl 16) (F1.call X1 fl12 rfl) (MRK.call mr1 W2 sk1 XT.refl fl12 rfl rfl) (fun ri62 ie62 ri63 ie63 ri64 ie64 ri65 ie65 ri66 ie66 ri67 ie67 F7 mr7 => ?_)
                refine c_st (st2 := [.int (iI f12)]) rfl ?_
                refine hv13 (show ivh12 a0 11 = ivh2 a0 11 from kp11f12) (show ivh12 a0 12 = ivh2 a0 12 from kp12f12) (show ivh12 a0 13 = ivh2 a0 13 from kp13f12) (show ivh12 a0 14 = ivh2 a0 14 from kp14f12) (show ivh12 a0 15 = ivh2 a0 15 from kp15f12) (show ivh12 a0 16 = ivh2 a0 16 from kp16f12) (show f12 = ((-1) - f9) from exf12) (show 1 ≤ ivh12 a0 11 ∧ ivh12 a0 11 ≤ 100 from W12.int ty1 11) (show 1 ≤ ivh12 a0 12 ∧ ivh12 a0 12 ≤ 50 from W12.int ty1 12) (show (-2147483648) ≤ ivh12 a0 13 ∧ ivh12 a0 13 ≤ 2147483647 from W12.int ty1 13) (show (-2147483648) ≤ ivh12 a0 14 ∧ ivh12 a0 14 ≤ 2147483647 from W12.int ty1 14) (show (-2147483648) ≤ ivh12 a0 15 ∧ ivh12 a0 15 ≤ 2147483647 from W12.int ty1 15) (show (-2147483648) ≤ ivh12 a0 16 ∧ ivh12 a0 16 ≤ 2147483647 from W12.int ty1 16) (fun gk11f12 gk12f12 gk13f12 gk14f12 gk15f12 gk16f12 gf12 ri68 ri69 ri70 ri71 ri72 ri73 => ?_)
                exact c_iret C dX11_parts_156 rfl (by decide) (rom0 hph pl1 (by decide)) ⟨f12, rfl, X1, F7, W12, ⟨by omega, by omega⟩, trivial, (gk11f12.trans ie62), (gk12f12.trans ie63), (gk13f12.trans ie64), (gk14f12.trans ie65), (gk15f12.trans ie66), (gk16f12.trans ie67), (show rvh2 a0 9 = rv a0 9 from (fl2.r t_a0 rfl 9)), (show rvh2 a0 10 = rv a0 10 from (fl2.r t_a0 rfl 10))⟩
          · refine c_aload_n (j := 2) (x := a0) C dX11_parts_62 rfl ?_
            refine c_iconst C dX11_parts_63 ?_
            refine d_callV (As := [.int (iI 2)]) (rest := []) C hM (C_refuse (a0 := a0) (x := 2) W2 sk1 ty1 ⟨by decide, by decide⟩ ) dX11_parts_64 kV_X11_102 rfl ty1 rfl rfl (by decide) ck_12 rfl (Nat.le_of_ble_eq_true rfl) ⟨(Nat.le_of_ble_eq_true rfl), (Nat.le_of_ble_eq_true rfl)⟩ hph pl1 (show 0 + 0 = 0 from rfl) (by decide) (fun rh13 Lh13 clh13 lnh13 ivh13 rvh13 h13 => ?_)
            obtain ⟨f13, rfl, rfl, rfl, rfl, rfl, fl13, W13, rgf13, exf13, kp11f13, kp12f13, kp13f13, kp14f13, kp15f13, kp16f13⟩ := h13
            refine hv14 (show 1 ≤ ivh2 a0 11 ∧ ivh2 a0 11 ≤ 100 from W2.int ty1 11) (show ivh2 a0 11 = iv a0 11 from fl2.i t_a0 rfl 11) (show 1 ≤ ivh2 a0 12 ∧ ivh2 a0 12 ≤ 50 from W2.int ty1 12) (show ivh2 a0 12 = iv a0 12 from fl2.i t_a0 rfl 12) (show (-2147483648) ≤ ivh2 a0 13 ∧ ivh2 a0 13 ≤ 2147483647 from W2.int ty1 13) (show ivh2 a0 13 = iv a0 13 from fl2.i t_a0 rfl 13) (show (-2147483648) ≤ ivh2 a0 14 ∧ ivh2 a0 14 ≤ 2147483647 from W2.int ty1 14) (show ivh2 a0 14 = iv a0 14 from fl2.i t_a0 rfl 14) (show (-2147483648) ≤ ivh2 a0 15 ∧ ivh2 a0 15 ≤ 2147483647 from W2.int ty1 15) (show ivh2 a0 15 = iv a0 15 from fl2.i t_a0 rfl 15) (show (-2147483648) ≤ ivh2 a0 16 ∧ ivh2 a0 16 ≤ 2147483647 from W2.int ty1 16) (show ivh2 a0 16 = iv a0 16 from fl2.i t_a0 rfl 16) (F1.call X1 fl13 rfl) (MRK.call mr1 W2 sk1 XT.refl fl13 rfl rfl) (fun ri74 ie74 ri75 ie75 ri76 ie76 ri77 ie77 ri78 ie78 ri79 ie79 F8 mr8 => ?_)
            refine c_st (st2 := [.int (iI f13)]) rfl ?_
            refine hv13 (show ivh13 a0 11 = ivh2 a0 11 from kp11f13) (show ivh13 a0 12 = ivh2 a0 12 from kp12f13) (show ivh13 a0 13 = ivh2 a0 13 from kp13f13) (show ivh13 a0 14 = ivh2 a0 14 from kp14f13) (show ivh13 a0 15 = ivh2 a0 15 from kp15f13) (show ivh13 a0 16 = ivh2 a0 16 from kp16f13) (show f13 = -1 from exf13) (show 1 ≤ ivh13 a0 11 ∧ ivh13 a0 11 ≤ 100 from W13.int ty1 11) (show 1 ≤ ivh13 a0 12 ∧ ivh13 a0 12 ≤ 50 from W13.int ty1 12) (show (-2147483648) ≤ ivh13 a0 13 ∧ ivh13 a0 13 ≤ 2147483647 from W13.int ty1 13) (show (-2147483648) ≤ ivh13 a0 14 ∧ ivh13 a0 14 ≤ 2147483647 from W13.int ty1 14) (show (-2147483648) ≤ ivh13 a0 15 ∧ ivh13 a0 15 ≤ 2147483647 from W13.int ty1 15) (show (-2147483648) ≤ ivh13 a0 16 ∧ ivh13 a0 16 ≤ 2147483647 from W13.int ty1 16) (fun gk11f13 gk12f13 gk13f13 gk14f13 gk15f13 gk16f13 gf13 ri80 ri81 ri82 ri83 ri84 ri85 => ?_)
            exact c_iret C dX11_parts_67 rfl (by decide) (rom0 hph pl1 (by decide)) ⟨f13, rfl, X1, F8, W13, ⟨by omega, by omega⟩, trivial, (gk11f13.trans ie74), (gk12f13.trans ie75), (gk13f13.trans ie76), (gk14f13.trans ie77), (gk15f13.trans ie78), (gk16f13.trans ie79), (show rvh2 a0 9 = rv a0 9 from (fl2.r t_a0 rfl 9)), (show rvh2 a0 10 = rv a0 10 from (fl2.r t_a0 rfl 10))⟩
  · subst oq1
    refine c_lv (lv2 := [(4, .null), (0, .ref a0), (1, .int (iI i)), (2, .int (iI j)), (3, .int (iI k))]) [0, 1, 2, 3, 4] rfl ?_
    refine c_st (st2 := []) rfl ?_
    refine c_aload_n (j := 1) (x := a0) C dX11_parts_15 rfl ?_
    refine c_iconst C dX11_parts_16 ?_
    refine d_callV (As := [.int (iI 3)]) (rest := []) C hM (C_refuse (a0 := a0) (x := 3) hW hS t_a0 ⟨by decide, by decide⟩ ) dX11_parts_17 kV_X11_102 rfl t_a0 rfl rfl (by decide) ck_12 rfl (Nat.le_of_ble_eq_true rfl) ⟨(Nat.le_of_ble_eq_true rfl), (Nat.le_of_ble_eq_true rfl)⟩ hph hph (show 0 + 0 = 0 from rfl) (by decide) (fun rh14 Lh14 clh14 lnh14 ivh14 rvh14 h14 => ?_)
    obtain ⟨f14, rfl, rfl, rfl, rfl, rfl, fl14, W14, rgf14, exf14, kp11f14, kp12f14, kp13f14, kp14f14, kp15f14, kp16f14⟩ := h14
    refine hv8 (show 1 ≤ iv a0 11 ∧ iv a0 11 ≤ 100 from hW.int t_a0 11) (show 1 ≤ iv a0 12 ∧ iv a0 12 ≤ 50 from hW.int t_a0 12) (show (-2147483648) ≤ iv a0 13 ∧ iv a0 13 ≤ 2147483647 from hW.int t_a0 13) (show (-2147483648) ≤ iv a0 14 ∧ iv a0 14 ≤ 2147483647 from hW.int t_a0 14) (show (-2147483648) ≤ iv a0 15 ∧ iv a0 15 ≤ 2147483647 from hW.int t_a0 15) (show (-2147483648) ≤ iv a0 16 ∧ iv a0 16 ≤ 2147483647 from hW.int t_a0 16) (hF0.call hX0 fl14 rfl) (MRK.call hmr hW hS XT.refl fl14 rfl rfl) (fun ri86 ri87 ri88 ri89 ri90 ri91 F9 mr9 => ?_)
    refine c_st (st2 := [.int (iI f14)]) rfl ?_
    refine hv13 (show ivh14 a0 11 = iv a0 11 from kp11f14) (show ivh14 a0 12 = iv a0 12 from kp12f14) (show ivh14 a0 13 = iv a0 13 from kp13f14) (show ivh14 a0 14 = iv a0 14 from kp14f14) (show ivh14 a0 15 = iv a0 15 from kp15f14) (show ivh14 a0 16 = iv a0 16 from kp16f14) (show f14 = -1 from exf14) (show 1 ≤ ivh14 a0 11 ∧ ivh14 a0 11 ≤ 100 from W14.int t_a0 11) (show 1 ≤ ivh14 a0 12 ∧ ivh14 a0 12 ≤ 50 from W14.int t_a0 12) (show (-2147483648) ≤ ivh14 a0 13 ∧ ivh14 a0 13 ≤ 2147483647 from W14.int t_a0 13) (show (-2147483648) ≤ ivh14 a0 14 ∧ ivh14 a0 14 ≤ 2147483647 from W14.int t_a0 14) (show (-2147483648) ≤ ivh14 a0 15 ∧ ivh14 a0 15 ≤ 2147483647 from W14.int t_a0 15) (show (-2147483648) ≤ ivh14 a0 16 ∧ ivh14 a0 16 ≤ 2147483647 from W14.int t_a0 16) (fun gk11f14 gk12f14 gk13f14 gk14f14 gk15f14 gk16f14 gf14 ri92 ri93 ri94 ri95 ri96 ri97 => ?_)
    exact c_iret C dX11_parts_20 rfl (by decide) (rom0 hph hph (by decide)) ⟨f14, rfl, hX0, F9, W14, ⟨by omega, by omega⟩, trivial, gk11f14, gk12f14, gk13f14, gk14f14, gk15f14, gk16f14, rfl, rfl⟩
set_option maxHeartbeats 4000000 in
set_option maxRecDepth 100000 in
theorem C_isReadBack {l : Launch} {G : GT} {mi : Nat} {sk : Nat → Nat} {L : List Nat} {cl ln : Nat → Nat} {iv : Nat → Nat → Int} {rv : Nat → Nat → Option Nat}  {a0 : Nat} (hW : WT (g0 G) sk L cl ln iv rv) (hS : SKL sk L cl) (t_a0 : ty L cl a0 1) (hc7 : iv (sk 15) 7 ≤ 200) : Mc l G mi (Phi (g0 G) sk) PHM yX11_isReadBack cX11_isReadBack 2 (some .boolean) 6 [.ref a0] L cl ln iv rv 0 (fun v L2 cl2 ln2 iv2 rv2 => ∃ f : Int, v = some (.int (iI f)) ∧ XT L cl ln L2 cl2 ln2 ∧ fT [8, 38, 9, 39, 16, 10, 40] L cl iv rv iv2 rv2 ∧ WT (g0 G) sk L2 cl2 ln2 iv2 rv2 ∧ (f = 0 ∨ f = 1) ∧ (True)) := by
  refine Mc.mk (by decide) (Nat.le_of_ble_eq_true rfl) ?_
  intro p e s m args below meth c A C hM
  refine hv21 (Phi.le hW hS) (show ty L cl (sk 2) 2 from ⟨(hS 2 rfl).1, by rw [(hS 2 rfl).2]; rfl⟩) (show ty L cl (sk 3) 3 from ⟨(hS 3 rfl).1, by rw [(hS 3 rfl).2]; rfl⟩) (show ty L cl (sk 4) 4 from ⟨(hS 4 rfl).1, by rw [(hS 4 rfl).2]; rfl⟩) (show ty L cl (sk 5) 5 from ⟨(hS 5 rfl).1, by rw [(hS 5 rfl).2]; rfl⟩) (show ty L cl (sk 6) 6 from ⟨(hS 6 rfl).1, by rw [(hS 6 rfl).2]; rfl⟩) (show ty L cl (sk 7) 7 from ⟨(hS 7 rfl).1, by rw [(hS 7 rfl).2]; rfl⟩) (show ty L cl (sk 8) 8 from ⟨(hS 8 rfl).1, by rw [(hS 8 rfl).2]; rfl⟩) (show ty L cl (sk 9) 9 from ⟨(hS 9 rfl).1, by rw [(hS 9 rfl).2]; rfl⟩) (show ty L cl (sk 10) 10 from ⟨(hS 10 rfl).1, by rw [(hS 10 rfl).2]; rfl⟩) (show ty L cl (sk 13) 13 from ⟨(hS 13 rfl).1, by rw [(hS 13 rfl).2]; rfl⟩) (show ty L cl (sk 14) 14 from ⟨(hS 14 rfl).1, by rw [(hS 14 rfl).2]; rfl⟩) (show ty L cl (sk 15) 15 from ⟨(hS 15 rfl).1, by rw [(hS 15 rfl).2]; rfl⟩) (show ty L cl (sk 16) 16 from ⟨(hS 16 rfl).1, by rw [(hS 16 rfl).2]; rfl⟩) (show ty L cl (sk 17) 17 from ⟨(hS 17 rfl).1, by rw [(hS 17 rfl).2]; rfl⟩) (show ty L cl (sk 22) 22 from ⟨(hS 22 rfl).1, by rw [(hS 22 rfl).2]; rfl⟩) (show ty L cl (sk 23) 23 from ⟨(hS 23 rfl).1, by rw [(hS 23 rfl).2]; rfl⟩) (show ty L cl (sk 24) 24 from ⟨(hS 24 rfl).1, by rw [(hS 24 rfl).2]; rfl⟩) (show ty L cl (sk 25) 25 from ⟨(hS 25 rfl).1, by rw [(hS 25 rfl).2]; rfl⟩) (show XT L cl ln L cl ln from XT.refl) (show fT [8, 38, 9, 39, 16, 10, 40] L cl iv rv iv rv from fT.refl) (fun hph tsk2 tsk3 tsk4 tsk5 tsk6 tsk7 tsk8 tsk9 tsk10 tsk13 tsk14 tsk15 tsk16 tsk17 tsk22 tsk23 tsk24 tsk25 hX0 hF0 => ?_)
  refine c_aload_n (j := 0) (x := a0) C dX11_isReadBack_0 rfl ?_
  obtain ⟨rb1, rq1, trb1⟩ := hW.ref t_a0 7 rfl rfl rfl
  have erb1 := hW.sk trb1 (by decide) rfl
  subst erb1
  refine c_getr (k := 7) C ck_12 dX11_isReadBack_1 w2_51 (by decide) t_a0 rfl rfl (by decide) rfl rq1 ?_
  refine c_st (st2 := [.ref (sk 16)]) rfl ?_
  refine d_callV (As := []) (rest := []) C hM (C_clearCells (a0 := (sk 16)) hW hS tsk16  ) dX11_isReadBack_4 kV_X11_344 rfl tsk16 rfl rfl (by decide) ck_4 rfl (Nat.le_of_ble_eq_true rfl) ⟨(Nat.le_of_ble_eq_true rfl), (Nat.le_of_ble_eq_true rfl)⟩ hph hph (show 0 + 0 = 0 from rfl) (by decide) (fun rh1 Lh1 clh1 lnh1 ivh1 rvh1 h1 => ?_)
  obtain ⟨rfl, rfl, rfl, rfl, rfl, fl1, W1, exf1⟩ := h1
  have F1 := hF0.call hX0 fl1 rfl
  refine c_st (st2 := []) rfl ?_
  refine hv2 (show 0 ≤ ivh1 (sk 8) 2 ∧ ivh1 (sk 8) 2 ≤ 40200 from W1.int tsk8 2) (show ivh1 (sk 8) 2 = 0 from exf1) (fun ri1 gf1 => ?_)
  refine c_iconst C dX11_isReadBack_7 ?_
  refine c_istore_n (lv2 := [(1, .int (iI 0)), (0, .ref a0)]) C dX11_isReadBack_8 (by decide) rfl ?_
  have Lp1 : ∀ (nn : Nat) (k : Int) (Lb1 : List Nat) (clb1 lnb1 : Nat → Nat) (ivb1 : Nat → Nat → Int) (rvb1 : Nat → Nat → Option Nat) , 201 - k < (nn : Int) → XT L cl ln Lb1 clb1 lnb1 → WT (g0 G) sk Lb1 clb1 lnb1 ivb1 rvb1 → fT [8, 38, 9, 39, 16, 10, 40] L cl iv rv ivb1 rvb1 → (0 ≤ k ∧ k ≤ 200) → (ivb1 (sk 15) 7 ≤ 200) → cw p l e 6 ((PHM) + 0 - ((Phi (g0 G) sk) ln rv)) s m args below meth c G A 2 (MQ below (Qu G A (Qp G (Phi (g0 G) sk) ((Phi (g0 G) sk) ln rv) 0 (fun v L2 cl2 ln2 iv2 rv2 => ∃ f : Int, v = some (.int (iI f)) ∧ XT L cl ln L2 cl2 ln2 ∧ fT [8, 38, 9, 39, 16, 10, 40] L cl iv rv iv2 rv2 ∧ WT (g0 G) sk L2 cl2 ln2 iv2 rv2 ∧ (f = 0 ∨ f = 1) ∧ (True)))) args s (((PHM) + 0 - ((Phi (g0 G) sk) ln rv)) / 16) ((PHM) + 0 - ((Phi (g0 G) sk) ln rv)) A) (Phi (g0 G) sk) ((Phi (g0 G) sk) ln rv) Lb1 clb1 lnb1 ivb1 rvb1 0 9 [(1, .int (iI k)), (0, .ref a0)] [] := by
    intro nn
    induction nn with
    | zero =>
      intro  k Lb1 clb1 lnb1 ivb1 rvb1 hm Xb1 Wb1 Fb1  hk hco
      have skb1 := Xb1.skl hS
      exact absurd hm (by omega)
    | succ nn ih1 =>
      intro  k Lb1 clb1 lnb1 ivb1 rvb1 hm Xb1 Wb1 Fb1  hk hco
      have skb1 := Xb1.skl hS
      refine c_iload_n (j := 0) C dX11_isReadBack_9 rfl ?_
      refine c_aload_n (j := 1) (x := a0) C dX11_isReadBack_10 rfl ?_
      have ty1 := Xb1.ty t_a0
      obtain ⟨rb2, rq2, trb2⟩ := Wb1.ref ty1 6 rfl rfl rfl
      have erb2 := Wb1.sk trb2 (by decide) rfl
      subst erb2
      refine c_getr (k := 6) C ck_12 dX11_isReadBack_11 w2_50 (by decide) ty1 rfl rfl (by decide) rfl rq2 ?_
      refine c_st (st2 := [.ref (sk 15), .int (iI k)]) rfl ?_
      refine hv2 (Xb1.ty tsk15) (show ivb1 (sk 15) 7 = iv (sk 15) 7 from Fb1.i tsk15 rfl 7) (fun ty2 ie2 => ?_)
      have ri2 : 0 ≤ ivb1 (sk 15) 7 ∧ ivb1 (sk 15) 7 ≤ 100000 := Wb1.int ty2 7
      refine c_get (k := 7) C ck_7 dX11_isReadBack_14 w1_149 (by decide) ty2 rfl rfl (by decide) rfl ?_
      refine c_icmp_ge (tgt := 43) C (r32_c (lo := 0) (hi := 200) hk.1 hk.2 (by decide) (by decide)) (r32_c (lo := 0) (hi := 100000) ri2.1 ri2.2 (by decide) (by decide)) dX11_isReadBack_17 (by decide) (fun c1 => ?_) (fun c1 => ?_)
      · refine c_aload_n (j := 1) (x := a0) C dX11_isReadBack_43 rfl ?_
        have re1 : rvb1 a0 7 = rv a0 7 := (Fb1.r t_a0 rfl 7)
        rw [rq1] at re1
        refine c_getr (k := 7) C ck_12 dX11_isReadBack_44 w2_51 (by decide) ty1 rfl rfl (by decide) rfl re1 ?_
        refine c_st (st2 := [.ref (sk 16)]) rfl ?_
        refine hv2 (Xb1.ty tsk16) (Phi.le Wb1 skb1) (fun ty3 pl1 => ?_)
        refine d_callV (As := []) (rest := []) C hM (C_decode (a0 := (sk 16)) Wb1 skb1 ty3  ) dX11_isReadBack_47 kV_X11_335 rfl ty3 rfl rfl (by decide) ck_4 rfl (Nat.le_of_ble_eq_true rfl) ⟨(Nat.le_of_ble_eq_true rfl), (Nat.le_of_ble_eq_true rfl)⟩ hph pl1 (show 0 + 0 = 0 from rfl) (by decide) (fun rh2 Lh2 clh2 lnh2 ivh2 rvh2 h2 => ?_)
        obtain ⟨f2, rfl, xl2, fl2, W2, rgf2, exf2⟩ := h2
        refine hv19 (Fb1.call Xb1 fl2 rfl) (Xb1.ty tsk2) (Xb1.ty tsk3) (Xb1.ty tsk4) (Xb1.ty tsk5) (Xb1.ty tsk6) (Xb1.ty tsk7) (Xb1.ty tsk8) (Xb1.ty tsk9) (Xb1.ty tsk10) (Xb1.ty tsk13) (Xb1.ty tsk14) (Xb1.ty tsk17) (Xb1.ty tsk22) (Xb1.ty tsk23) (Xb1.ty tsk24) (Xb1.ty tsk25) (Xb1.trans xl2) (xl2.skl skb1) (fun F2 ty4 ty5 ty6 ty7 ty8 ty9 ty10 ty11 ty12 ty13 ty14 ty15 ty16 ty17 ty18 ty19 X1 sk1 => ?_)
        refine c_st (st2 := [.int (iI f2)]) rfl ?_
        refine c_if_eq (tgt := 74) C ⟨by omega, by omega⟩ dX11_isReadBack_50 (by decide) (fun c2 => ?_) (fun c2 => ?_)
        · refine c_iconst C dX11_isReadBack_74 ?_
          have pl2 := Phi.le W2 sk1
          exact c_zret C dX11_isReadBack_75 rfl (Or.inl rfl) (by decide) (rom0 hph pl2 (by decide)) ⟨0, rfl, X1, F2, W2, (Or.inl rfl), trivial⟩
        · refine c_aload_n (j := 1) (x := a0) C dX11_isReadBack_53 rfl ?_
          refine hv2 (xl2.ty ty1) (show rvh2 a0 6 = rvb1 a0 6 from (fl2.r ty1 rfl 6)) (fun ty20 re2 => ?_)
          rw [rq2] at re2
          refine c_getr (k := 6) C ck_12 dX11_isReadBack_54 w2_50 (by decide) ty20 rfl rfl (by decide) rfl re2 ?_
          refine c_st (st2 := [.ref (sk 15)]) rfl ?_
          refine c_aload_n (j := 1) (x := a0) C dX11_isReadBack_57 rfl ?_
          have re3 : rvh2 a0 7 = rvb1 a0 7 := (fl2.r ty1 rfl 7)
          rw [re1] at re3
          refine c_getr (k := 7) C ck_12 dX11_isReadBack_58 w2_51 (by decide) ty20 rfl rfl (by decide) rfl re3 ?_
          refine c_st (st2 := [.ref (sk 16), .ref (sk 15)]) rfl ?_
          have ty21 := xl2.ty ty3
          obtain ⟨rb3, rq3, trb3⟩ := W2.ref ty21 6 rfl rfl rfl
          have erb3 := W2.sk trb3 (by decide) rfl
          subst erb3
          refine c_getr (k := 6) C ck_4 dX11_isReadBack_61 w1_201 (by decide) ty21 rfl rfl (by decide) rfl rq3 ?_
          refine c_st (st2 := [.ref (sk 10), .ref (sk 15)]) rfl ?_
          refine hv3 (xl2.ty ty2) (xl2.ty ty12) (Phi.le W2 sk1) (fun ty22 ty23 pl3 => ?_)
          refine d_callV (As := [.ref (sk 10)]) (rest := []) C hM (C_hasLetters (a0 := (sk 15)) (a1 := (sk 10)) W2 sk1 ty22 ty23  ) dX11_isReadBack_64 kV_X11_409 rfl ty22 rfl rfl (by decide) ck_7 rfl (Nat.le_of_ble_eq_true rfl) ⟨(Nat.le_of_ble_eq_true rfl), (Nat.le_of_ble_eq_true rfl)⟩ hph pl3 (show 0 + 0 = 0 from rfl) (by decide) (fun rh3 Lh3 clh3 lnh3 ivh3 rvh3 h3 => ?_)
          obtain ⟨f3, rfl, rfl, rfl, rfl, rfl, rfl, rgf3, exf3⟩ := h3
          refine c_st (st2 := [.int (iI f3)]) rfl ?_
          refine c_if_eq (tgt := 74) C ⟨by omega, by omega⟩ dX11_isReadBack_67 (by decide) (fun c3 => ?_) (fun c3 => ?_)
          · refine c_iconst C dX11_isReadBack_74 ?_
            exact c_zret C dX11_isReadBack_75 rfl (Or.inl rfl) (by decide) (rom0 hph pl3 (by decide)) ⟨0, rfl, X1, F2, W2, (Or.inl rfl), trivial⟩
          · refine c_iconst C dX11_isReadBack_70 ?_
            refine c_goto (tgt := 75) C dX11_isReadBack_71 (by decide) ?_
            exact c_zret C dX11_isReadBack_75 rfl (Or.inr rfl) (by decide) (rom0 hph pl3 (by decide)) ⟨1, rfl, X1, F2, W2, (Or.inr rfl), trivial⟩
      · refine c_aload_n (j := 1) (x := a0) C dX11_isReadBack_20 rfl ?_
        have re4 : rvb1 a0 7 = rv a0 7 := (Fb1.r t_a0 rfl 7)
        rw [rq1] at re4
        refine c_getr (k := 7) C ck_12 dX11_isReadBack_21 w2_51 (by decide) ty1 rfl rfl (by decide) rfl re4 ?_
        refine c_st (st2 := [.ref (sk 16)]) rfl ?_
        refine c_aload_n (j := 1) (x := a0) C dX11_isReadBack_24 rfl ?_
        refine c_getr (k := 6) C ck_12 dX11_isReadBack_25 w2_50 (by decide) ty1 rfl rfl (by decide) rfl rq2 ?_
        refine c_st (st2 := [.ref (sk 15), .ref (sk 16)]) rfl ?_
        obtain ⟨rb4, rq4, trb4⟩ := Wb1.ref ty2 6 rfl rfl rfl
        have lnrb4 : 200 ≤ lnb1 rb4 ∧ lnb1 rb4 ≤ 200 := Wb1.len trb4 rfl
        refine c_getr (k := 6) C ck_7 dX11_isReadBack_28 w1_146 (by decide) ty2 rfl rfl (by decide) rfl rq4 ?_
        refine c_st (st2 := [.ref rb4, .ref (sk 16)]) rfl ?_
        refine c_iload_n (j := 0) C dX11_isReadBack_31 rfl ?_
        have ll1 : 200 ≤ lnb1 rb4 ∧ lnb1 rb4 ≤ 200 := Wb1.len trb4 rfl
        refine c_iald C dX11_isReadBack_32 trb4 rfl (by omega) (by omega) (by omega) ?_
        have ri3 : (-2147483648) ≤ ivb1 rb4 k.toNat ∧ ivb1 rb4 k.toNat ≤ 2147483647 := Wb1.int trb4 k.toNat
        refine c_iload_n (j := 0) C dX11_isReadBack_33 rfl ?_
        refine hv2 (Xb1.ty tsk16) (Phi.le Wb1 skb1) (fun ty24 pl4 => ?_)
        refine d_callV (As := [.int (iI (ivb1 rb4 k.toNat)), .int (iI k)]) (rest := []) C hM (C_addCell (a0 := (sk 16)) (x := ivb1 rb4 k.toNat) (y := k) Wb1 skb1 ty24 (by omega) (by omega) ) dX11_isReadBack_34 kV_X11_406 rfl ty24 rfl rfl (by decide) ck_4 rfl (Nat.le_of_ble_eq_true rfl) ⟨(Nat.le_of_ble_eq_true rfl), (Nat.le_of_ble_eq_true rfl)⟩ hph pl4 (show 0 + 0 = 0 from rfl) (by decide) (fun rh4 Lh4 clh4 lnh4 ivh4 rvh4 h4 => ?_)
        obtain ⟨rfl, xl4, fl4, W4, exf4⟩ := h4
        refine hv19 (Fb1.call Xb1 fl4 rfl) (Xb1.ty tsk2) (Xb1.ty tsk3) (Xb1.ty tsk4) (Xb1.ty tsk5) (Xb1.ty tsk6) (Xb1.ty tsk7) (Xb1.ty tsk8) (Xb1.ty tsk9) (Xb1.ty tsk10) (Xb1.ty tsk13) (Xb1.ty tsk14) (Xb1.ty tsk17) (Xb1.ty tsk22) (Xb1.ty tsk23) (Xb1.ty tsk24) (Xb1.ty tsk25) (Xb1.trans xl4) (xl4.skl skb1) (fun F3 ty25 ty26 ty27 ty28 ty29 ty30 ty31 ty32 ty33 ty34 ty35 ty36 ty37 ty38 ty39 ty40 X2 sk2 => ?_)
        refine c_st (st2 := []) rfl ?_
        refine c_iinc (z := k) (j := 0) (lv2 := [(1, .int (iI (k + 1))), (0, .ref a0)]) C dX11_isReadBack_37 rfl (by decide) rfl ?_
        refine c_goto (tgt := 9) C dX11_isReadBack_40 (by decide) ?_
        refine hv2 (xl4.ty ty2) (show ivh4 (sk 15) 7 = ivb1 (sk 15) 7 from fl4.i ty2 rfl 7) (fun ty41 ie4 => ?_)
        have ri4 : 0 ≤ ivh4 (sk 15) 7 ∧ ivh4 (sk 15) 7 ≤ 100000 := W4.int ty41 7
        refine c_lv (lv2 := [(1, .int (iI (k + 1))), (0, .ref a0)]) [0, 1] rfl ?_
        exact ih1  (k + 1) _ _ _ _ _ (by omega) X2 W4 F3  (by omega) (by show ivh4 (sk 15) 7 ≤ 200; omega)
  refine hv2 (show 0 ≤ ivh1 (sk 15) 7 ∧ ivh1 (sk 15) 7 ≤ 100000 from W1.int tsk15 7) (show ivh1 (sk 15) 7 = iv (sk 15) 7 from fl1.i tsk15 rfl 7) (fun ri5 ie5 => ?_)
  refine c_lv (lv2 := [(1, .int (iI 0)), (0, .ref a0)]) [0, 1] rfl ?_
  exact Lp1 203 0 _ _ _ _ _ (by omega) hX0 W1 F1  (by omega) (by show ivh1 (sk 15) 7 ≤ 200; omega)
set_option maxHeartbeats 4000000 in
set_option maxRecDepth 100000 in
theorem C_saved {l : Launch} {G : GT} {mi : Nat} {sk : Nat → Nat} {L : List Nat} {cl ln : Nat → Nat} {iv : Nat → Nat → Int} {rv : Nat → Nat → Option Nat}  {a0 : Nat} {i : Int} {j : Int} (hW : WT (g0 G) sk L cl ln iv rv) (hS : SKL sk L cl) (t_a0 : ty L cl a0 1) (h_i : -2147483648 ≤ i ∧ i ≤ 2147483647) (h_j : -2147483648 ≤ j ∧ j ≤ 2147483647) (hmr : MRK sk cl iv rv) : Mc l G mi (Phi (g0 G) sk) PHM yX11_saved cX11_saved 10 (some .int) 8 [.ref a0, .int (iI i), .int (iI j)] L cl ln iv rv 0 (fun v L2 cl2 ln2 iv2 rv2 => ∃ f : Int, v = some (.int (iI f)) ∧ L = L2 ∧ cl = cl2 ∧ ln = ln2 ∧ rv = rv2 ∧ fT [1, 14, 15, 50, 51, 52, 53, 54, 55] L cl iv rv iv2 rv2 ∧ WT (g0 G) sk L2 cl2 ln2 iv2 rv2 ∧ (-2147483648 ≤ f ∧ f ≤ 2147483647) ∧ (True) ∧ iv2 a0 11 = iv a0 11 ∧ iv2 a0 12 = iv a0 12 ∧ iv2 a0 13 = iv a0 13 ∧ iv2 a0 14 = iv a0 14 ∧ iv2 a0 15 = iv a0 15 ∧ iv2 a0 16 = iv a0 16) := by
  refine Mc.mk (by decide) (Nat.le_of_ble_eq_true rfl) ?_
  intro p e s m args below meth c A C hM
  refine hv14 (Phi.le hW hS) (show ty L cl (sk 2) 2 from ⟨(hS 2 rfl).1, by rw [(hS 2 rfl).2]; rfl⟩) (show ty L cl (sk 3) 3 from ⟨(hS 3 rfl).1, by rw [(hS 3 rfl).2]; rfl⟩) (show ty L cl (sk 4) 4 from ⟨(hS 4 rfl).1, by rw [(hS 4 rfl).2]; rfl⟩) (show ty L cl (sk 5) 5 from ⟨(hS 5 rfl).1, by rw [(hS 5 rfl).2]; rfl⟩) (show ty L cl (sk 13) 13 from ⟨(hS 13 rfl).1, by rw [(hS 13 rfl).2]; rfl⟩) (show ty L cl (sk 14) 14 from ⟨(hS 14 rfl).1, by rw [(hS 14 rfl).2]; rfl⟩) (show ty L cl (sk 15) 15 from ⟨(hS 15 rfl).1, by rw [(hS 15 rfl).2]; rfl⟩) (show ty L cl (sk 16) 16 from ⟨(hS 16 rfl).1, by rw [(hS 16 rfl).2]; rfl⟩) (show ty L cl (sk 17) 17 from ⟨(hS 17 rfl).1, by rw [(hS 17 rfl).2]; rfl⟩) (show ty L cl (sk 22) 22 from ⟨(hS 22 rfl).1, by rw [(hS 22 rfl).2]; rfl⟩) (show ty L cl (sk 23) 23 from ⟨(hS 23 rfl).1, by rw [(hS 23 rfl).2]; rfl⟩) (show XT L cl ln L cl ln from XT.refl) (show fT [1, 14, 15, 50, 51, 52, 53, 54, 55] L cl iv rv iv rv from fT.refl) (fun hph tsk2 tsk3 tsk4 tsk5 tsk13 tsk14 tsk15 tsk16 tsk17 tsk22 tsk23 hX0 hF0 => ?_)
  refine c_aload_n (j := 0) (x := a0) C dX11_saved_0 rfl ?_
  obtain ⟨rb1, rq1, trb1⟩ := hW.ref t_a0 4 rfl rfl rfl
  have erb1 := hW.sk trb1 (by decide) rfl
  subst erb1
  refine c_getr (k := 4) C ck_12 dX11_saved_1 w2_48 (by decide) t_a0 rfl rfl (by decide) rfl rq1 ?_
  refine c_st (st2 := [.ref (sk 13)]) rfl ?_
  refine c_iload_n (j := 1) C dX11_saved_4 rfl ?_
  refine d_callV (As := [.int (iI i)]) (rest := []) C hM (C_whole (a0 := (sk 13)) (i := i) hW hS tsk13 (by omega) hmr) dX11_saved_5 kV_X11_231 rfl tsk13 rfl rfl (by decide) ck_11 rfl (Nat.le_of_ble_eq_true rfl) ⟨(Nat.le_of_ble_eq_true rfl), (Nat.le_of_ble_eq_true rfl)⟩ hph hph (show 0 + 0 = 0 from rfl) (by decide) (fun rh1 Lh1 clh1 lnh1 ivh1 rvh1 h1 => ?_)
  obtain ⟨f1, rfl, rfl, rfl, rfl, rfl, rfl, rgf1, exf1⟩ := h1
  refine c_st (st2 := [(va_rf f1)]) rfl ?_
  refine c_astorer_n (r := f1) (lv2 := [(3, (va_rf f1)), (0, .ref a0), (1, .int (iI i)), (2, .int (iI j))]) C dX11_saved_8 (by decide) rfl ?_
  refine c_aload_n (j := 1) (x := a0) C dX11_saved_9 rfl ?_
  refine c_getr (k := 4) C ck_12 dX11_saved_10 w2_48 (by decide) t_a0 rfl rfl (by decide) rfl rq1 ?_
  refine c_st (st2 := [.ref (sk 13)]) rfl ?_
  refine c_iload_n (j := 3) C dX11_saved_13 rfl ?_
  refine d_callV (As := [.int (iI j)]) (rest := []) C hM (C_whole (a0 := (sk 13)) (i := j) hW hS tsk13 (by omega) hmr) dX11_saved_14 kV_X11_231 rfl tsk13 rfl rfl (by decide) ck_11 rfl (Nat.le_of_ble_eq_true rfl) ⟨(Nat.le_of_ble_eq_true rfl), (Nat.le_of_ble_eq_true rfl)⟩ hph hph (show 0 + 0 = 0 from rfl) (by decide) (fun rh2 Lh2 clh2 lnh2 ivh2 rvh2 h2 => ?_)
  obtain ⟨f2, rfl, rfl, rfl, rfl, rfl, rfl, rgf2, exf2⟩ := h2
  refine c_st (st2 := [(va_rf f2)]) rfl ?_
  refine c_astorer (r := f2) (lv2 := [(4, (va_rf f2)), (3, (va_rf f1)), (0, .ref a0), (1, .int (iI i)), (2, .int (iI j))]) C dX11_saved_17 (by decide) (by cases f1 <;> rfl) ?_
  refine c_aloadr_n (j := 1) (r := f1) C dX11_saved_19 rfl ?_
  refine c_ifnull (r := f1) (tgt := 28) C dX11_saved_20 (by decide) (fun oq1 => ?_) (fun ob1 oq1 => ?_)
  · subst oq1
    refine c_lv (lv2 := [(4, (va_rf f2)), (3, .null), (0, .ref a0), (1, .int (iI i)), (2, .int (iI j))]) [0, 1, 2, 3, 4] rfl ?_
    refine c_st (st2 := []) rfl ?_
    refine c_aload_n (j := 2) (x := a0) C dX11_saved_28 rfl ?_
    refine c_iconst C dX11_saved_29 ?_
    refine d_callV (As := [.int (iI 3)]) (rest := []) C hM (C_refuse (a0 := a0) (x := 3) hW hS t_a0 ⟨by decide, by decide⟩ ) dX11_saved_30 kV_X11_102 rfl t_a0 rfl rfl (by decide) ck_12 rfl (Nat.le_of_ble_eq_true rfl) ⟨(Nat.le_of_ble_eq_true rfl), (Nat.le_of_ble_eq_true rfl)⟩ hph hph (show 0 + 0 = 0 from rfl) (by decide) (fun rh3 Lh3 clh3 lnh3 ivh3 rvh3 h3 => ?_)
    obtain ⟨f3, rfl, rfl, rfl, rfl, rfl, fl3, W3, rgf3, exf3, kp11f3, kp12f3, kp13f3, kp14f3, kp15f3, kp16f3⟩ := h3
    refine hv8 (show 1 ≤ iv a0 11 ∧ iv a0 11 ≤ 100 from hW.int t_a0 11) (show 1 ≤ iv a0 12 ∧ iv a0 12 ≤ 50 from hW.int t_a0 12) (show (-2147483648) ≤ iv a0 13 ∧ iv a0 13 ≤ 2147483647 from hW.int t_a0 13) (show (-2147483648) ≤ iv a0 14 ∧ iv a0 14 ≤ 2147483647 from hW.int t_a0 14) (show (-2147483648) ≤ iv a0 15 ∧ iv a0 15 ≤ 2147483647 from hW.int t_a0 15) (show (-2147483648) ≤ iv a0 16 ∧ iv a0 16 ≤ 2147483647 from hW.int t_a0 16) (hF0.call hX0 fl3 rfl) (MRK.call hmr hW hS XT.refl fl3 rfl rfl) (fun ri1 ri2 ri3 ri4 ri5 ri6 F1 mr1 => ?_)
    refine c_st (st2 := [.int (iI f3)]) rfl ?_
    refine hv13 (show ivh3 a0 11 = iv a0 11 from kp11f3) (show ivh3 a0 12 = iv a0 12 from kp12f3) (show ivh3 a0 13 = iv a0 13 from kp13f3) (show ivh3 a0 14 = iv a0 14 from kp14f3) (show ivh3 a0 15 = iv a0 15 from kp15f3) (show ivh3 a0 16 = iv a0 16 from kp16f3) (show f3 = -1 from exf3) (show 1 ≤ ivh3 a0 11 ∧ ivh3 a0 11 ≤ 100 from W3.int t_a0 11) (show 1 ≤ ivh3 a0 12 ∧ ivh3 a0 12 ≤ 50 from W3.int t_a0 12) (show (-2147483648) ≤ ivh3 a0 13 ∧ ivh3 a0 13 ≤ 2147483647 from W3.int t_a0 13) (show (-2147483648) ≤ ivh3 a0 14 ∧ ivh3 a0 14 ≤ 2147483647 from W3.int t_a0 14) (show (-2147483648) ≤ ivh3 a0 15 ∧ ivh3 a0 15 ≤ 2147483647 from W3.int t_a0 15) (show (-2147483648) ≤ ivh3 a0 16 ∧ ivh3 a0 16 ≤ 2147483647 from W3.int t_a0 16) (fun gk11f3 gk12f3 gk13f3 gk14f3 gk15f3 gk16f3 gf3 ri7 ri8 ri9 ri10 ri11 ri12 => ?_)
    exact c_iret C dX11_saved_33 rfl (by decide) (rom0 hph hph (by decide)) ⟨f3, rfl, rfl, rfl, rfl, rfl, F1, W3, ⟨by omega, by omega⟩, trivial, gk11f3, gk12f3, gk13f3, gk14f3, gk15f3, gk16f3⟩
  · subst oq1
    have tob1 := rgf1 ob1 rfl
    refine c_lv (lv2 := [(4, (va_rf f2)), (3, .ref ob1), (0, .ref a0), (1, .int (iI i)), (2, .int (iI j))]) [0, 1, 2, 3, 4] rfl ?_
    refine c_st (st2 := []) rfl ?_
    refine c_aloadr (j := 0) (r := f2) C dX11_saved_23 rfl ?_
    refine c_ifnonnull (r := f2) (tgt := 34) C dX11_saved_25 (by decide) (fun ob2 oq2 => ?_) (fun oq2 => ?_)
    · subst oq2
      have tob2 := rgf2 ob2 rfl
      refine c_lv (lv2 := [(4, .ref ob2), (3, .ref ob1), (0, .ref a0), (1, .int (iI i)), (2, .int (iI j))]) [0, 1, 2, 3, 4] rfl ?_
      refine c_st (st2 := []) rfl ?_
      refine c_iconst C dX11_saved_34 ?_
      refine c_istore (lv2 := [(5, .int (iI 0)), (4, .ref ob2), (3, .ref ob1), (0, .ref a0), (1, .int (iI i)), (2, .int (iI j))]) C dX11_saved_35 (by decide) rfl ?_
      refine c_iconst C dX11_saved_37 ?_
      refine c_istore (lv2 := [(6, .int (iI 0)), (5, .int (iI 0)), (4, .ref ob2), (3, .ref ob1), (0, .ref a0), (1, .int (iI i)), (2, .int (iI j))]) C dX11_saved_38 (by decide) rfl ?_
      refine c_iconst C dX11_saved_40 ?_
      refine c_istore (lv2 := [(7, .int (iI 0)), (6, .int (iI 0)), (5, .int (iI 0)), (4, .ref ob2), (3, .ref ob1), (0, .ref a0), (1, .int (iI i)), (2, .int (iI j))]) C dX11_saved_41 (by decide) rfl ?_
      have Lp1 : ∀ (nn : Nat) (s1 wy sd : Int) (ivb1 : Nat → Nat → Int) , 3 - sd < (nn : Int) → WT (g0 G) sk L cl ln ivb1 rv → fT [1, 14, 15, 50, 51, 52, 53, 54, 55] L cl iv rv ivb1 rv → (-2147483648 ≤ s1 ∧ s1 ≤ 2147483647) → (0 ≤ wy ∧ wy ≤ 9) → (0 ≤ sd ∧ sd ≤ 2) → (ivb1 a0 11 = iv a0 11) → (ivb1 a0 12 = iv a0 12) → (ivb1 a0 13 = iv a0 13) → (ivb1 a0 14 = iv a0 14) → (ivb1 a0 15 = iv a0 15) → (ivb1 a0 16 = iv a0 16) → cw p l e 8 ((PHM) + 0 - ((Phi (g0 G) sk) ln rv)) s m args below meth c G A 10 (MQ below (Qu G A (Qp G (Phi (g0 G) sk) ((Phi (g0 G) sk) ln rv) 0 (fun v L2 cl2 ln2 iv2 rv2 => ∃ f : Int, v = some (.int (iI f)) ∧ L = L2 ∧ cl = cl2 ∧ ln = ln2 ∧ rv = rv2 ∧ fT [1, 14, 15, 50, 51, 52, 53, 54, 55] L cl iv rv iv2 rv2 ∧ WT (g0 G) sk L2 cl2 ln2 iv2 rv2 ∧ (-2147483648 ≤ f ∧ f ≤ 2147483647) ∧ (True) ∧ iv2 a0 11 = iv a0 11 ∧ iv2 a0 12 = iv a0 12 ∧ iv2 a0 13 = iv a0 13 ∧ iv2 a0 14 = iv a0 14 ∧ iv2 a0 15 = iv a0 15 ∧ iv2 a0 16 = iv a0 16))) args s (((PHM) + 0 - ((Phi (g0 G) sk) ln rv)) / 16) ((PHM) + 0 - ((Phi (g0 G) sk) ln rv)) A) (Phi (g0 G) sk) ((Phi (g0 G) sk) ln rv) L cl ln ivb1 rv 0 43 [(5, .int (iI s1)), (6, .int (iI wy)), (7, .int (iI sd)), (4, .ref ob2), (3, .ref ob1), (0, .ref a0), (1, .int (iI i)), (2, .int (iI j))] [] := by
        intro nn
        induction nn with
        | zero =>
          intro  s1 wy sd ivb1 hm Wb1 Fb1  hs1 hwy hsd hkp11 hkp12 hkp13 hkp14 hkp15 hkp16
          exact absurd hm (by omega)
        | succ nn ih1 =>
          intro  s1 wy sd ivb1 hm Wb1 Fb1  hs1 hwy hsd hkp11 hkp12 hkp13 hkp14 hkp15 hkp16
          have mrb1 := MRK.call hmr hW hS XT.refl Fb1 rfl rfl
          refine c_iload (j := 1) C dX11_saved_43 rfl ?_
          refine c_if_ne (tgt := 186) C (r32_c (lo := 0) (hi := 9) hwy.1 hwy.2 (by decide) (by decide)) dX11_saved_45 (by decide) (fun c1 => ?_) (fun c1 => ?_)
          · refine c_iload (j := 1) C dX11_saved_186 rfl ?_
            refine c_if_eq (tgt := 207) C (r32_c (lo := 0) (hi := 9) hwy.1 hwy.2 (by decide) (by decide)) dX11_saved_188 (by decide) (fun z => absurd z (by omega)) (fun _ => ?_)
            refine c_aload_n (j := 5) (x := a0) C dX11_saved_191 rfl ?_
            refine c_iload (j := 1) C dX11_saved_192 rfl ?_
            refine c_aload_n (j := 5) (x := a0) C dX11_saved_194 rfl ?_
            obtain ⟨rb2, rq2, trb2⟩ := Wb1.ref t_a0 6 rfl rfl rfl
            have erb2 := Wb1.sk trb2 (by decide) rfl
            subst erb2
            refine c_getr (k := 6) C ck_12 dX11_saved_195 w2_50 (by decide) t_a0 rfl rfl (by decide) rfl rq2 ?_
            refine c_st (st2 := [.ref (sk 15), .int (iI wy), .ref a0]) rfl ?_
            refine d_callV (As := []) (rest := [.int (iI wy), .ref a0]) C hM (C_placeOfUnknown (a0 := (sk 15)) Wb1 hS tsk15  ) dX11_saved_198 kV_X11_263 rfl tsk15 rfl rfl (by decide) ck_7 rfl (Nat.le_of_ble_eq_true rfl) ⟨(Nat.le_of_ble_eq_true rfl), (Nat.le_of_ble_eq_true rfl)⟩ hph hph (show 0 + 0 = 0 from rfl) (by decide) (fun rh4 Lh4 clh4 lnh4 ivh4 rvh4 h4 => ?_)
            obtain ⟨f4, rfl, rfl, rfl, rfl, rfl, rfl, rgf4, exf4⟩ := h4
            refine c_st (st2 := [.int (iI f4), .int (iI wy), .ref a0]) rfl ?_
            refine d_callV (As := [.int (iI wy), .int (iI f4)]) (rest := []) C hM (C_refuseAt (a0 := a0) (x := wy) (y := f4) Wb1 hS t_a0 (by omega) (by omega) ) dX11_saved_201 kV_X11_266 rfl t_a0 rfl rfl (by decide) ck_12 rfl (Nat.le_of_ble_eq_true rfl) ⟨(Nat.le_of_ble_eq_true rfl), (Nat.le_of_ble_eq_true rfl)⟩ hph hph (show 0 + 0 = 0 from rfl) (by decide) (fun rh5 Lh5 clh5 lnh5 ivh5 rvh5 h5 => ?_)
            obtain ⟨f5, rfl, rfl, rfl, rfl, rfl, fl5, W5, rgf5, exf5, kp11f5, kp12f5, kp13f5, kp14f5, kp15f5, kp16f5⟩ := h5
            refine hv8 (show 1 ≤ ivb1 a0 11 ∧ ivb1 a0 11 ≤ 100 from Wb1.int t_a0 11) (show 1 ≤ ivb1 a0 12 ∧ ivb1 a0 12 ≤ 50 from Wb1.int t_a0 12) (show (-2147483648) ≤ ivb1 a0 13 ∧ ivb1 a0 13 ≤ 2147483647 from Wb1.int t_a0 13) (show (-2147483648) ≤ ivb1 a0 14 ∧ ivb1 a0 14 ≤ 2147483647 from Wb1.int t_a0 14) (show (-2147483648) ≤ ivb1 a0 15 ∧ ivb1 a0 15 ≤ 2147483647 from Wb1.int t_a0 15) (show (-2147483648) ≤ ivb1 a0 16 ∧ ivb1 a0 16 ≤ 2147483647 from Wb1.int t_a0 16) (Fb1.call hX0 fl5 rfl) (MRK.call mrb1 Wb1 hS XT.refl fl5 rfl rfl) (fun ri13 ri14 ri15 ri16 ri17 ri18 F2 mr2 => ?_)
            refine c_st (st2 := [.int (iI f5)]) rfl ?_
            refine hv7 (show ivh5 a0 11 = ivb1 a0 11 from kp11f5) (show ivh5 a0 12 = ivb1 a0 12 from kp12f5) (show ivh5 a0 13 = ivb1 a0 13 from kp13f5) (show ivh5 a0 14 = ivb1 a0 14 from kp14f5) (show ivh5 a0 15 = ivb1 a0 15 from kp15f5) (show ivh5 a0 16 = ivb1 a0 16 from kp16f5) (show f5 = -1 from exf5) (fun gk11f5 gk12f5 gk13f5 gk14f5 gk15f5 gk16f5 gf5 => ?_)
            refine c_pop C dX11_saved_204 rfl ?_
            refine c_iconst C dX11_saved_205 ?_
            refine hv6 (show 1 ≤ ivh5 a0 11 ∧ ivh5 a0 11 ≤ 100 from W5.int t_a0 11) (show 1 ≤ ivh5 a0 12 ∧ ivh5 a0 12 ≤ 50 from W5.int t_a0 12) (show (-2147483648) ≤ ivh5 a0 13 ∧ ivh5 a0 13 ≤ 2147483647 from W5.int t_a0 13) (show (-2147483648) ≤ ivh5 a0 14 ∧ ivh5 a0 14 ≤ 2147483647 from W5.int t_a0 14) (show (-2147483648) ≤ ivh5 a0 15 ∧ ivh5 a0 15 ≤ 2147483647 from W5.int t_a0 15) (show (-2147483648) ≤ ivh5 a0 16 ∧ ivh5 a0 16 ≤ 2147483647 from W5.int t_a0 16) (fun ri19 ri20 ri21 ri22 ri23 ri24 => ?_)
            exact c_iret C dX11_saved_206 rfl (by decide) (rom0 hph hph (by decide)) ⟨0, rfl, rfl, rfl, rfl, rfl, F2, W5, ⟨by decide, by decide⟩, trivial, (gk11f5.trans hkp11), (gk12f5.trans hkp12), (gk13f5.trans hkp13), (gk14f5.trans hkp14), (gk15f5.trans hkp15), (gk16f5.trans hkp16)⟩
          · refine c_iload (j := 2) C dX11_saved_48 rfl ?_
            refine c_iconst C dX11_saved_50 ?_
            refine c_icmp_ge (tgt := 186) C (r32_c (lo := 0) (hi := 2) hsd.1 hsd.2 (by decide) (by decide)) ⟨by decide, by decide⟩ dX11_saved_51 (by decide) (fun c2 => ?_) (fun c2 => ?_)
            · refine c_iload (j := 1) C dX11_saved_186 rfl ?_
              refine c_if_eq (tgt := 207) C (r32_c (lo := 0) (hi := 9) hwy.1 hwy.2 (by decide) (by decide)) dX11_saved_188 (by decide) (fun _ => ?_) (fun z => absurd z (by omega))
              refine c_aload_n (j := 5) (x := a0) C dX11_saved_207 rfl ?_
              refine c_iload (j := 0) C dX11_saved_208 rfl ?_
              refine d_callV (As := [.int (iI s1)]) (rest := []) C hM (C_done (a0 := a0) (x := s1) Wb1 hS t_a0 (by omega) ) dX11_saved_210 kV_X11_109 rfl t_a0 rfl rfl (by decide) ck_12 rfl (Nat.le_of_ble_eq_true rfl) ⟨(Nat.le_of_ble_eq_true rfl), (Nat.le_of_ble_eq_true rfl)⟩ hph hph (show 0 + 0 = 0 from rfl) (by decide) (fun rh6 Lh6 clh6 lnh6 ivh6 rvh6 h6 => ?_)
              obtain ⟨f6, rfl, rfl, rfl, rfl, rfl, fl6, W6, rgf6, exf6, kp11f6, kp12f6, kp13f6, kp14f6, kp15f6, kp16f6⟩ := h6
              refine hv8 (show 1 ≤ ivb1 a0 11 ∧ ivb1 a0 11 ≤ 100 from Wb1.int t_a0 11) (show 1 ≤ ivb1 a0 12 ∧ ivb1 a0 12 ≤ 50 from Wb1.int t_a0 12) (show (-2147483648) ≤ ivb1 a0 13 ∧ ivb1 a0 13 ≤ 2147483647 from Wb1.int t_a0 13) (show (-2147483648) ≤ ivb1 a0 14 ∧ ivb1 a0 14 ≤ 2147483647 from Wb1.int t_a0 14) (show (-2147483648) ≤ ivb1 a0 15 ∧ ivb1 a0 15 ≤ 2147483647 from Wb1.int t_a0 15) (show (-2147483648) ≤ ivb1 a0 16 ∧ ivb1 a0 16 ≤ 2147483647 from Wb1.int t_a0 16) (Fb1.call hX0 fl6 rfl) (MRK.call mrb1 Wb1 hS XT.refl fl6 rfl rfl) (fun ri25 ri26 ri27 ri28 ri29 ri30 F3 mr3 => ?_)
              refine c_st (st2 := [.int (iI f6)]) rfl ?_
              refine hv13 (show ivh6 a0 11 = ivb1 a0 11 from kp11f6) (show ivh6 a0 12 = ivb1 a0 12 from kp12f6) (show ivh6 a0 13 = ivb1 a0 13 from kp13f6) (show ivh6 a0 14 = ivb1 a0 14 from kp14f6) (show ivh6 a0 15 = ivb1 a0 15 from kp15f6) (show ivh6 a0 16 = ivb1 a0 16 from kp16f6) (show f6 = s1 from exf6) (show 1 ≤ ivh6 a0 11 ∧ ivh6 a0 11 ≤ 100 from W6.int t_a0 11) (show 1 ≤ ivh6 a0 12 ∧ ivh6 a0 12 ≤ 50 from W6.int t_a0 12) (show (-2147483648) ≤ ivh6 a0 13 ∧ ivh6 a0 13 ≤ 2147483647 from W6.int t_a0 13) (show (-2147483648) ≤ ivh6 a0 14 ∧ ivh6 a0 14 ≤ 2147483647 from W6.int t_a0 14) (show (-2147483648) ≤ ivh6 a0 15 ∧ ivh6 a0 15 ≤ 2147483647 from W6.int t_a0 15) (show (-2147483648) ≤ ivh6 a0 16 ∧ ivh6 a0 16 ≤ 2147483647 from W6.int t_a0 16) (fun gk11f6 gk12f6 gk13f6 gk14f6 gk15f6 gk16f6 gf6 ri31 ri32 ri33 ri34 ri35 ri36 => ?_)
              exact c_iret C dX11_saved_213 rfl (by decide) (rom0 hph hph (by decide)) ⟨f6, rfl, rfl, rfl, rfl, rfl, F3, W6, ⟨by omega, by omega⟩, trivial, (gk11f6.trans hkp11), (gk12f6.trans hkp12), (gk13f6.trans hkp13), (gk14f6.trans hkp14), (gk15f6.trans hkp15), (gk16f6.trans hkp16)⟩
            · refine c_aload_n (j := 5) (x := a0) C dX11_saved_54 rfl ?_
              obtain ⟨rb3, rq3, trb3⟩ := Wb1.ref t_a0 5 rfl rfl rfl
              have erb3 := Wb1.sk trb3 (by decide) rfl
              subst erb3
              refine c_getr (k := 5) C ck_12 dX11_saved_55 w2_49 (by decide) t_a0 rfl rfl (by decide) rfl rq3 ?_
              refine c_st (st2 := [.ref (sk 14)]) rfl ?_
              refine d_callV (As := []) (rest := []) C hM (C_restart (a0 := (sk 14)) Wb1 hS tsk14  ) dX11_saved_58 kV_X11_235 rfl tsk14 rfl rfl (by decide) ck_9 rfl (Nat.le_of_ble_eq_true rfl) ⟨(Nat.le_of_ble_eq_true rfl), (Nat.le_of_ble_eq_true rfl)⟩ hph hph (show 0 + 0 = 0 from rfl) (by decide) (fun rh7 Lh7 clh7 lnh7 ivh7 rvh7 h7 => ?_)
              obtain ⟨rfl, rfl, rfl, rfl, rfl, fl7, W7, exf7⟩ := h7
              refine hv2 (Fb1.call hX0 fl7 rfl) (MRK.call mrb1 Wb1 hS XT.refl fl7 rfl rfl) (fun F4 mr4 => ?_)
              refine c_st (st2 := []) rfl ?_
              refine hv3 (show (-2147483648) ≤ ivh7 (sk 14) 0 ∧ ivh7 (sk 14) 0 ≤ 2147483647 from W7.int tsk14 0) (show 0 ≤ ivh7 (sk 14) 1 ∧ ivh7 (sk 14) 1 ≤ 1 from W7.int tsk14 1) (show ivh7 (sk 14) 0 = 0 ∧ ivh7 (sk 14) 1 = 0 from exf7) (fun ri37 ri38 gf7 => ?_)
              refine c_aload_n (j := 5) (x := a0) C dX11_saved_61 rfl ?_
              refine c_getr (k := 5) C ck_12 dX11_saved_62 w2_49 (by decide) t_a0 rfl rfl (by decide) rfl rq3 ?_
              refine c_st (st2 := [.ref (sk 14)]) rfl ?_
              refine c_aload_n (j := 5) (x := a0) C dX11_saved_65 rfl ?_
              obtain ⟨rb4, rq4, trb4⟩ := W7.ref t_a0 1 rfl rfl rfl
              have erb4 := W7.sk trb4 (by decide) rfl
              subst erb4
              refine c_getr (k := 1) C ck_12 dX11_saved_66 w2_45 (by decide) t_a0 rfl rfl (by decide) rfl rq4 ?_
              refine c_st (st2 := [.ref (sk 3), .ref (sk 14)]) rfl ?_
              refine c_aload_n (j := 5) (x := a0) C dX11_saved_69 rfl ?_
              obtain ⟨rb5, rq5, trb5⟩ := W7.ref t_a0 6 rfl rfl rfl
              have erb5 := W7.sk trb5 (by decide) rfl
              subst erb5
              refine c_getr (k := 6) C ck_12 dX11_saved_70 w2_50 (by decide) t_a0 rfl rfl (by decide) rfl rq5 ?_
              refine c_st (st2 := [.ref (sk 15), .ref (sk 3), .ref (sk 14)]) rfl ?_
              refine d_callV (As := [.ref (sk 3), .ref (sk 15)]) (rest := []) C hM (C_sstep (a0 := (sk 14)) (a1 := (sk 3)) (a2 := (sk 15)) W7 hS tsk14 tsk3 tsk15  (by show 0 ≤ ivh7 (sk 14) 0 ∧ ivh7 (sk 14) 0 ≤ 501 ∧ (ivh7 (sk 14) 1 = 0 ∨ ivh7 (sk 14) 0 ≤ 500); omega)) dX11_saved_73 kV_X11_238 rfl tsk14 rfl rfl (by decide) ck_9 rfl (Nat.le_of_ble_eq_true rfl) ⟨(Nat.le_of_ble_eq_true rfl), (Nat.le_of_ble_eq_true rfl)⟩ hph hph (show 0 + 0 = 0 from rfl) (by decide) (fun rh8 Lh8 clh8 lnh8 ivh8 rvh8 h8 => ?_)
              obtain ⟨f8, rfl, rfl, rfl, rfl, rfl, fl8, W8, rgf8, exf8⟩ := h8
              refine hv2 (F4.call hX0 fl8 rfl) (MRK.call mr4 W7 hS XT.refl fl8 rfl rfl) (fun F5 mr5 => ?_)
              refine c_st (st2 := [.int (iI f8)]) rfl ?_
              refine hv3 (show (-2147483648) ≤ ivh8 (sk 14) 0 ∧ ivh8 (sk 14) 0 ≤ 2147483647 from W8.int tsk14 0) (show 0 ≤ ivh8 (sk 14) 1 ∧ ivh8 (sk 14) 1 ≤ 1 from W8.int tsk14 1) (show (0 ≤ f8 ∧ f8 ≤ 3) ∧ 0 ≤ ivh8 (sk 14) 0 ∧ ivh8 (sk 14) 0 ≤ 501 ∧ (ivh8 (sk 14) 1 = 0 ∨ ivh8 (sk 14) 0 ≤ 500) from exf8) (fun ri39 ri40 gf8 => ?_)
              refine c_istore (lv2 := [(8, .int (iI f8)), (5, .int (iI s1)), (6, .int (iI wy)), (7, .int (iI sd)), (4, .ref ob2), (3, .ref ob1), (0, .ref a0), (1, .int (iI i)), (2, .int (iI j))]) C dX11_saved_76 (by decide) rfl ?_
              refine c_iconst C dX11_saved_78 ?_
              refine c_istore (lv2 := [(9, .int (iI 0)), (8, .int (iI f8)), (5, .int (iI s1)), (6, .int (iI wy)), (7, .int (iI sd)), (4, .ref ob2), (3, .ref ob1), (0, .ref a0), (1, .int (iI i)), (2, .int (iI j))]) C dX11_saved_79 (by decide) rfl ?_
              have Lp2 : ∀ (nn : Nat) (s2 wy2 cm k : Int) (ivb2 : Nat → Nat → Int) , 1000001 - k < (nn : Int) → WT (g0 G) sk L cl ln ivb2 rv → fT [1, 14, 15, 50, 51, 52, 53, 54, 55] L cl iv rv ivb2 rv → (-2147483648 ≤ s2 ∧ s2 ≤ 2147483647) → (0 ≤ wy2 ∧ wy2 ≤ 9) → (0 ≤ cm ∧ cm ≤ 3) → (0 ≤ k ∧ k ≤ 1000000) → (0 ≤ ivb2 (sk 14) 0 ∧ ivb2 (sk 14) 0 ≤ 501 ∧ (ivb2 (sk 14) 1 = 0 ∨ ivb2 (sk 14) 0 ≤ 500)) → (ivb2 a0 11 = iv a0 11) → (ivb2 a0 12 = iv a0 12) → (ivb2 a0 13 = iv a0 13) → (ivb2 a0 14 = iv a0 14) → (ivb2 a0 15 = iv a0 15) → (ivb2 a0 16 = iv a0 16) → cw p l e 8 ((PHM) + 0 - ((Phi (g0 G) sk) ln rv)) s m args below meth c G A 10 (MQ below (Qu G A (Qp G (Phi (g0 G) sk) ((Phi (g0 G) sk) ln rv) 0 (fun v L2 cl2 ln2 iv2 rv2 => ∃ f : Int, v = some (.int (iI f)) ∧ L = L2 ∧ cl = cl2 ∧ ln = ln2 ∧ rv = rv2 ∧ fT [1, 14, 15, 50, 51, 52, 53, 54, 55] L cl iv rv iv2 rv2 ∧ WT (g0 G) sk L2 cl2 ln2 iv2 rv2 ∧ (-2147483648 ≤ f ∧ f ≤ 2147483647) ∧ (True) ∧ iv2 a0 11 = iv a0 11 ∧ iv2 a0 12 = iv a0 12 ∧ iv2 a0 13 = iv a0 13 ∧ iv2 a0 14 = iv a0 14 ∧ iv2 a0 15 = iv a0 15 ∧ iv2 a0 16 = iv a0 16))) args s (((PHM) + 0 - ((Phi (g0 G) sk) ln rv)) / 16) ((PHM) + 0 - ((Phi (g0 G) sk) ln rv)) A) (Phi (g0 G) sk) ((Phi (g0 G) sk) ln rv) L cl ln ivb2 rv 0 81 [(5, .int (iI s2)), (6, .int (iI wy2)), (8, .int (iI cm)), (9, .int (iI k)), (7, .int (iI sd)), (4, .ref ob2), (3, .ref ob1), (0, .ref a0), (1, .int (iI i)), (2, .int (iI j))] [] := by
                intro nn
                induction nn with
                | zero =>
                  intro  s2 wy2 cm k ivb2 hm Wb2 Fb2  hs2 hwy2 hcm hk hsr hkp11 hkp12 hkp13 hkp14 hkp15 hkp16
                  exact absurd hm (by omega)
                | succ nn ih2 =>
                  intro  s2 wy2 cm k ivb2 hm Wb2 Fb2  hs2 hwy2 hcm hk hsr hkp11 hkp12 hkp13 hkp14 hkp15 hkp16
                  have mrb2 := MRK.call hmr hW hS XT.refl Fb2 rfl rfl
                  refine c_iload (j := 1) C dX11_saved_81 rfl ?_
                  refine c_if_ne (tgt := 180) C (r32_c (lo := 0) (hi := 9) hwy2.1 hwy2.2 (by decide) (by decide)) dX11_saved_83 (by decide) (fun c3 => ?_) (fun c3 => ?_)
                  · refine c_iinc (z := sd) (j := 4) (lv2 := [(7, .int (iI (sd + 1))), (5, .int (iI s2)), (6, .int (iI wy2)), (8, .int (iI cm)), (9, .int (iI k)), (4, .ref ob2), (3, .ref ob1), (0, .ref a0), (1, .int (iI i)), (2, .int (iI j))]) C dX11_saved_180 rfl (by decide) rfl ?_
                    refine c_goto (tgt := 43) C dX11_saved_183 (by decide) ?_
                    refine hv6 (show 1 ≤ ivb2 a0 11 ∧ ivb2 a0 11 ≤ 100 from Wb2.int t_a0 11) (show 1 ≤ ivb2 a0 12 ∧ ivb2 a0 12 ≤ 50 from Wb2.int t_a0 12) (show (-2147483648) ≤ ivb2 a0 13 ∧ ivb2 a0 13 ≤ 2147483647 from Wb2.int t_a0 13) (show (-2147483648) ≤ ivb2 a0 14 ∧ ivb2 a0 14 ≤ 2147483647 from Wb2.int t_a0 14) (show (-2147483648) ≤ ivb2 a0 15 ∧ ivb2 a0 15 ≤ 2147483647 from Wb2.int t_a0 15) (show (-2147483648) ≤ ivb2 a0 16 ∧ ivb2 a0 16 ≤ 2147483647 from Wb2.int t_a0 16) (fun ri41 ri42 ri43 ri44 ri45 ri46 => ?_)
                    refine c_lv (lv2 := [(5, .int (iI s2)), (6, .int (iI wy2)), (7, .int (iI (sd + 1))), (4, .ref ob2), (3, .ref ob1), (0, .ref a0), (1, .int (iI i)), (2, .int (iI j))]) [1, 2, 0, 5, 6, 7, 8, 9] rfl ?_
                    exact ih1  s2 wy2 (sd + 1) _ (by omega) Wb2 Fb2  (by omega) (by omega) (by omega) hkp11 hkp12 hkp13 hkp14 hkp15 hkp16
                  · refine c_iload (j := 2) C dX11_saved_86 rfl ?_
                    refine c_if_eq (tgt := 180) C (r32_c (lo := 0) (hi := 3) hcm.1 hcm.2 (by decide) (by decide)) dX11_saved_88 (by decide) (fun c4 => ?_) (fun c4 => ?_)
                    · refine c_iinc (z := sd) (j := 4) (lv2 := [(7, .int (iI (sd + 1))), (5, .int (iI s2)), (6, .int (iI wy2)), (8, .int (iI cm)), (9, .int (iI k)), (4, .ref ob2), (3, .ref ob1), (0, .ref a0), (1, .int (iI i)), (2, .int (iI j))]) C dX11_saved_180 rfl (by decide) rfl ?_
                      refine c_goto (tgt := 43) C dX11_saved_183 (by decide) ?_
                      refine hv6 (show 1 ≤ ivb2 a0 11 ∧ ivb2 a0 11 ≤ 100 from Wb2.int t_a0 11) (show 1 ≤ ivb2 a0 12 ∧ ivb2 a0 12 ≤ 50 from Wb2.int t_a0 12) (show (-2147483648) ≤ ivb2 a0 13 ∧ ivb2 a0 13 ≤ 2147483647 from Wb2.int t_a0 13) (show (-2147483648) ≤ ivb2 a0 14 ∧ ivb2 a0 14 ≤ 2147483647 from Wb2.int t_a0 14) (show (-2147483648) ≤ ivb2 a0 15 ∧ ivb2 a0 15 ≤ 2147483647 from Wb2.int t_a0 15) (show (-2147483648) ≤ ivb2 a0 16 ∧ ivb2 a0 16 ≤ 2147483647 from Wb2.int t_a0 16) (fun ri47 ri48 ri49 ri50 ri51 ri52 => ?_)
                      refine c_lv (lv2 := [(5, .int (iI s2)), (6, .int (iI wy2)), (7, .int (iI (sd + 1))), (4, .ref ob2), (3, .ref ob1), (0, .ref a0), (1, .int (iI i)), (2, .int (iI j))]) [1, 2, 0, 5, 6, 7, 8, 9] rfl ?_
                      exact ih1  s2 wy2 (sd + 1) _ (by omega) Wb2 Fb2  (by omega) (by omega) (by omega) hkp11 hkp12 hkp13 hkp14 hkp15 hkp16
                    · refine c_iload (j := 3) C dX11_saved_91 rfl ?_
                      refine c_ldc (z := 1000000) C dX11_saved_93 w4_30 rfl ?_
                      refine c_icmp_ge (tgt := 180) C (r32_c (lo := 0) (hi := 1000000) hk.1 hk.2 (by decide) (by decide)) ⟨by decide, by decide⟩ dX11_saved_95 (by decide) (fun c5 => ?_) (fun c5 => ?_)
                      · refine c_iinc (z := sd) (j := 4) (lv2 := [(7, .int (iI (sd + 1))), (5, .int (iI s2)), (6, .int (iI wy2)), (8, .int (iI cm)), (9, .int (iI k)), (4, .ref ob2), (3, .ref ob1), (0, .ref a0), (1, .int (iI i)), (2, .int (iI j))]) C dX11_saved_180 rfl (by decide) rfl ?_
                        refine c_goto (tgt := 43) C dX11_saved_183 (by decide) ?_
                        refine hv6 (show 1 ≤ ivb2 a0 11 ∧ ivb2 a0 11 ≤ 100 from Wb2.int t_a0 11) (show 1 ≤ ivb2 a0 12 ∧ ivb2 a0 12 ≤ 50 from Wb2.int t_a0 12) (show (-2147483648) ≤ ivb2 a0 13 ∧ ivb2 a0 13 ≤ 2147483647 from Wb2.int t_a0 13) (show (-2147483648) ≤ ivb2 a0 14 ∧ ivb2 a0 14 ≤ 2147483647 from Wb2.int t_a0 14) (show (-2147483648) ≤ ivb2 a0 15 ∧ ivb2 a0 15 ≤ 2147483647 from Wb2.int t_a0 15) (show (-2147483648) ≤ ivb2 a0 16 ∧ ivb2 a0 16 ≤ 2147483647 from Wb2.int t_a0 16) (fun ri53 ri54 ri55 ri56 ri57 ri58 => ?_)
                        refine c_lv (lv2 := [(5, .int (iI s2)), (6, .int (iI wy2)), (7, .int (iI (sd + 1))), (4, .ref ob2), (3, .ref ob1), (0, .ref a0), (1, .int (iI i)), (2, .int (iI j))]) [1, 2, 0, 5, 6, 7, 8, 9] rfl ?_
                        exact ih1  s2 wy2 (sd + 1) _ (by omega) Wb2 Fb2  (by omega) (by omega) (by omega) hkp11 hkp12 hkp13 hkp14 hkp15 hkp16
                      · refine c_iload (j := 2) C dX11_saved_98 rfl ?_
                        refine c_iconst C dX11_saved_100 ?_
                        refine c_icmp_ne (tgt := 152) C (r32_c (lo := 0) (hi := 3) hcm.1 hcm.2 (by decide) (by decide)) ⟨by decide, by decide⟩ dX11_saved_101 (by decide) (fun c6 => ?_) (fun c6 => ?_)
                        · refine c_iload (j := 1) C dX11_saved_152 rfl ?_
                          refine c_if_ne (tgt := 174) C (r32_c (lo := 0) (hi := 9) hwy2.1 hwy2.2 (by decide) (by decide)) dX11_saved_154 (by decide) (fun z => absurd z (by omega)) (fun _ => ?_)
                          refine c_aload_n (j := 7) (x := a0) C dX11_saved_157 rfl ?_
                          refine c_getr (k := 5) C ck_12 dX11_saved_158 w2_49 (by decide) t_a0 rfl rfl (by decide) rfl rq3 ?_
                          refine c_st (st2 := [.ref (sk 14)]) rfl ?_
                          refine c_aload_n (j := 7) (x := a0) C dX11_saved_161 rfl ?_
                          refine c_getr (k := 1) C ck_12 dX11_saved_162 w2_45 (by decide) t_a0 rfl rfl (by decide) rfl rq4 ?_
                          refine c_st (st2 := [.ref (sk 3), .ref (sk 14)]) rfl ?_
                          refine c_aload_n (j := 7) (x := a0) C dX11_saved_165 rfl ?_
                          refine c_getr (k := 6) C ck_12 dX11_saved_166 w2_50 (by decide) t_a0 rfl rfl (by decide) rfl rq5 ?_
                          refine c_st (st2 := [.ref (sk 15), .ref (sk 3), .ref (sk 14)]) rfl ?_
                          refine hv2 (show (-2147483648) ≤ ivb2 (sk 14) 0 ∧ ivb2 (sk 14) 0 ≤ 2147483647 from Wb2.int tsk14 0) (show 0 ≤ ivb2 (sk 14) 1 ∧ ivb2 (sk 14) 1 ≤ 1 from Wb2.int tsk14 1) (fun ri59 ri60 => ?_)
                          refine d_callV (As := [.ref (sk 3), .ref (sk 15)]) (rest := []) C hM (C_sstep (a0 := (sk 14)) (a1 := (sk 3)) (a2 := (sk 15)) Wb2 hS tsk14 tsk3 tsk15  (by show 0 ≤ ivb2 (sk 14) 0 ∧ ivb2 (sk 14) 0 ≤ 501 ∧ (ivb2 (sk 14) 1 = 0 ∨ ivb2 (sk 14) 0 ≤ 500); omega)) dX11_saved_169 kV_X11_238 rfl tsk14 rfl rfl (by decide) ck_9 rfl (Nat.le_of_ble_eq_true rfl) ⟨(Nat.le_of_ble_eq_true rfl), (Nat.le_of_ble_eq_true rfl)⟩ hph hph (show 0 + 0 = 0 from rfl) (by decide) (fun rh9 Lh9 clh9 lnh9 ivh9 rvh9 h9 => ?_)
                          obtain ⟨f9, rfl, rfl, rfl, rfl, rfl, fl9, W9, rgf9, exf9⟩ := h9
                          refine hv2 (Fb2.call hX0 fl9 rfl) (MRK.call mrb2 Wb2 hS XT.refl fl9 rfl rfl) (fun F6 mr6 => ?_)
                          refine c_st (st2 := [.int (iI f9)]) rfl ?_
                          refine hv3 (show (-2147483648) ≤ ivh9 (sk 14) 0 ∧ ivh9 (sk 14) 0 ≤ 2147483647 from W9.int tsk14 0) (show 0 ≤ ivh9 (sk 14) 1 ∧ ivh9 (sk 14) 1 ≤ 1 from W9.int tsk14 1) (show (0 ≤ f9 ∧ f9 ≤ 3) ∧ 0 ≤ ivh9 (sk 14) 0 ∧ ivh9 (sk 14) 0 ≤ 501 ∧ (ivh9 (sk 14) 1 = 0 ∨ ivh9 (sk 14) 0 ≤ 500) from exf9) (fun ri61 ri62 gf9 => ?_)
                          refine c_istore (lv2 := [(8, .int (iI f9)), (5, .int (iI s2)), (6, .int (iI wy2)), (9, .int (iI k)), (7, .int (iI sd)), (4, .ref ob2), (3, .ref ob1), (0, .ref a0), (1, .int (iI i)), (2, .int (iI j))]) C dX11_saved_172 (by decide) rfl ?_
                          refine c_iinc (z := k) (j := 3) (lv2 := [(9, .int (iI (k + 1))), (8, .int (iI f9)), (5, .int (iI s2)), (6, .int (iI wy2)), (7, .int (iI sd)), (4, .ref ob2), (3, .ref ob1), (0, .ref a0), (1, .int (iI i)), (2, .int (iI j))]) C dX11_saved_174 rfl (by decide) rfl ?_
                          refine c_goto (tgt := 81) C dX11_saved_177 (by decide) ?_
                          refine hv12 (show 1 ≤ ivh9 a0 11 ∧ ivh9 a0 11 ≤ 100 from W9.int t_a0 11) (show ivh9 a0 11 = ivb2 a0 11 from fl9.i t_a0 rfl 11) (show 1 ≤ ivh9 a0 12 ∧ ivh9 a0 12 ≤ 50 from W9.int t_a0 12) (show ivh9 a0 12 = ivb2 a0 12 from fl9.i t_a0 rfl 12) (show (-2147483648) ≤ ivh9 a0 13 ∧ ivh9 a0 13 ≤ 2147483647 from W9.int t_a0 13) (show ivh9 a0 13 = ivb2 a0 13 from fl9.i t_a0 rfl 13) (show (-2147483648) ≤ ivh9 a0 14 ∧ ivh9 a0 14 ≤ 2147483647 from W9.int t_a0 14) (show ivh9 a0 14 = ivb2 a0 14 from fl9.i t_a0 rfl 14) (show (-2147483648) ≤ ivh9 a0 15 ∧ ivh9 a0 15 ≤ 2147483647 from W9.int t_a0 15) (show ivh9 a0 15 = ivb2 a0 15 from fl9.i t_a0 rfl 15) (show (-2147483648) ≤ ivh9 a0 16 ∧ ivh9 a0 16 ≤ 2147483647 from W9.int t_a0 16) (show ivh9 a0 16 = ivb2 a0 16 from fl9.i t_a0 rfl 16) (fun ri63 ie57 ri64 ie59 ri65 ie61 ri66 ie63 ri67 ie65 ri68 ie67 => ?_)
                          refine c_lv (lv2 := [(5, .int (iI s2)), (6, .int (iI wy2)), (8, .int (iI f9)), (9, .int (iI (k + 1))), (7, .int (iI sd)), (4, .ref ob2), (3, .ref ob1), (0, .ref a0), (1, .int (iI i)), (2, .int (iI j))]) [2, 3, 1, 0, 4, 5, 6, 7, 8, 9] rfl ?_
                          exact ih2  s2 wy2 f9 (k + 1) _ (by omega) W9 F6  (by omega) (by omega) (by omega) (by omega) (by show 0 ≤ ivh9 (sk 14) 0 ∧ ivh9 (sk 14) 0 ≤ 501 ∧ (ivh9 (sk 14) 1 = 0 ∨ ivh9 (sk 14) 0 ≤ 500); omega) (ie57.trans hkp11) (ie59.trans hkp12) (ie61.trans hkp13) (ie63.trans hkp14) (ie65.trans hkp15) (ie67.trans hkp16)
                        · refine c_aload_n (j := 7) (x := a0) C dX11_saved_104 rfl ?_
                          refine c_getr (k := 6) C ck_12 dX11_saved_105 w2_50 (by decide) t_a0 rfl rfl (by decide) rfl rq5 ?_
                          refine c_st (st2 := [.ref (sk 15)]) rfl ?_
                          refine c_iload (j := 4) C dX11_saved_108 rfl ?_
                          refine c_if_ne (tgt := 117) C (r32_c (lo := 0) (hi := 2) hsd.1 hsd.2 (by decide) (by decide)) dX11_saved_110 (by decide) (fun c7 => ?_) (fun c7 => ?_)
                          · refine c_aload (j := 5) (x := ob2) C dX11_saved_117 rfl ?_
                            have ri69 : 0 ≤ ivb2 (sk 15) 4 ∧ ivb2 (sk 15) 4 ≤ 500 := Wb2.int tsk15 4
                            refine d_callV (As := [.ref ob2]) (rest := []) C hM (C_setBy (a0 := (sk 15)) (a1 := ob2) Wb2 hS tsk15 tob2  ) dX11_saved_119 kV_X11_253 rfl tsk15 rfl rfl (by decide) ck_7 rfl (Nat.le_of_ble_eq_true rfl) ⟨(Nat.le_of_ble_eq_true rfl), (Nat.le_of_ble_eq_true rfl)⟩ hph hph (show 0 + 0 = 0 from rfl) (by decide) (fun rh10 Lh10 clh10 lnh10 ivh10 rvh10 h10 => ?_)
                            obtain ⟨f10, rfl, rfl, rfl, rfl, rfl, fl10, W10, rgf10, exf10⟩ := h10
                            refine hv2 (Fb2.call hX0 fl10 rfl) (MRK.call mrb2 Wb2 hS XT.refl fl10 rfl rfl) (fun F7 mr7 => ?_)
                            refine c_st (st2 := [.int (iI f10)]) rfl ?_
                            refine hv3 (show 0 ≤ ivh10 (sk 15) 4 ∧ ivh10 (sk 15) 4 ≤ 500 from W10.int tsk15 4) (show 0 ≤ ivh10 (sk 15) 7 ∧ ivh10 (sk 15) 7 ≤ 100000 from W10.int tsk15 7) (show (f10 = 0 ∨ f10 = 6 ∨ f10 = 7) ∧ ivh10 (sk 15) 4 = ivb2 (sk 15) 4 ∧ (f10 = 0 → ivh10 (sk 15) 7 ≤ 200) from exf10) (fun ri70 ri71 gf10 => ?_)
                            refine c_istore (lv2 := [(6, .int (iI f10)), (5, .int (iI s2)), (8, .int (iI cm)), (9, .int (iI k)), (7, .int (iI sd)), (4, .ref ob2), (3, .ref ob1), (0, .ref a0), (1, .int (iI i)), (2, .int (iI j))]) C dX11_saved_122 (by decide) rfl ?_
                            refine c_iload (j := 1) C dX11_saved_124 rfl ?_
                            refine c_iload (j := 4) C dX11_saved_126 rfl ?_
                            refine c_if_ne (tgt := 141) C (r32_c (lo := 0) (hi := 2) hsd.1 hsd.2 (by decide) (by decide)) dX11_saved_128 (by decide) (fun _ => ?_) (fun z => absurd z (by omega))
                            refine c_aload_n (j := 7) (x := a0) C dX11_saved_141 rfl ?_
                            refine c_getr (k := 6) C ck_12 dX11_saved_142 w2_50 (by decide) t_a0 rfl rfl (by decide) rfl rq5 ?_
                            refine c_st (st2 := [.ref (sk 15), .int (iI s2)]) rfl ?_
                            refine c_get (k := 7) C ck_7 dX11_saved_145 w1_149 (by decide) tsk15 rfl rfl (by decide) rfl ?_
                            refine c_ineg C dX11_saved_148 ?_
                            refine c_iadd C dX11_saved_149 ?_
                            obtain ⟨zz1, hzz1, ezz1⟩ := iI_of (iI (s2 + (-(ivh10 (sk 15) 7))))
                            refine c_st (st2 := [.int (iI zz1)]) (by rw [ezz1]) ?_
                            refine c_istore (lv2 := [(5, .int (iI zz1)), (6, .int (iI f10)), (8, .int (iI cm)), (9, .int (iI k)), (7, .int (iI sd)), (4, .ref ob2), (3, .ref ob1), (0, .ref a0), (1, .int (iI i)), (2, .int (iI j))]) C dX11_saved_150 (by decide) rfl ?_
                            refine c_iload (j := 1) C dX11_saved_152 rfl ?_
                            refine c_if_ne (tgt := 174) C (r32_067 gf10.1) dX11_saved_154 (by decide) (fun c8 => ?_) (fun c8 => ?_)
                            · replace gf10 := (And.intro (gf10.1.resolve_left c8) (And.intro gf10.2.1 trivial))
                              refine c_iinc (z := k) (j := 3) (lv2 := [(9, .int (iI (k + 1))), (5, .int (iI zz1)), (6, .int (iI f10)), (8, .int (iI cm)), (7, .int (iI sd)), (4, .ref ob2), (3, .ref ob1), (0, .ref a0), (1, .int (iI i)), (2, .int (iI j))]) C dX11_saved_174 rfl (by decide) rfl ?_
                              refine c_goto (tgt := 81) C dX11_saved_177 (by decide) ?_
                              refine hv16 (show (-2147483648) ≤ ivh10 (sk 14) 0 ∧ ivh10 (sk 14) 0 ≤ 2147483647 from W10.int tsk14 0) (show ivh10 (sk 14) 0 = ivb2 (sk 14) 0 from fl10.i tsk14 rfl 0) (show 0 ≤ ivh10 (sk 14) 1 ∧ ivh10 (sk 14) 1 ≤ 1 from W10.int tsk14 1) (show ivh10 (sk 14) 1 = ivb2 (sk 14) 1 from fl10.i tsk14 rfl 1) (show 1 ≤ ivh10 a0 11 ∧ ivh10 a0 11 ≤ 100 from W10.int t_a0 11) (show ivh10 a0 11 = ivb2 a0 11 from fl10.i t_a0 rfl 11) (show 1 ≤ ivh10 a0 12 ∧ ivh10 a0 12 ≤ 50 from W10.int t_a0 12) (show ivh10 a0 12 = ivb2 a0 12 from fl10.i t_a0 rfl 12) (show (-2147483648) ≤ ivh10 a0 13 ∧ ivh10 a0 13 ≤ 2147483647 from W10.int t_a0 13) (show ivh10 a0 13 = ivb2 a0 13 from fl10.i t_a0 rfl 13) (show (-2147483648) ≤ ivh10 a0 14 ∧ ivh10 a0 14 ≤ 2147483647 from W10.int t_a0 14) (show ivh10 a0 14 = ivb2 a0 14 from fl10.i t_a0 rfl 14) (show (-2147483648) ≤ ivh10 a0 15 ∧ ivh10 a0 15 ≤ 2147483647 from W10.int t_a0 15) (show ivh10 a0 15 = ivb2 a0 15 from fl10.i t_a0 rfl 15) (show (-2147483648) ≤ ivh10 a0 16 ∧ ivh10 a0 16 ≤ 2147483647 from W10.int t_a0 16) (show ivh10 a0 16 = ivb2 a0 16 from fl10.i t_a0 rfl 16) (fun ri72 ie72 ri73 ie74 ri74 ie76 ri75 ie78 ri76 ie80 ri77 ie82 ri78 ie84 ri79 ie86 => ?_)
                              refine c_lv (lv2 := [(5, .int (iI zz1)), (6, .int (iI f10)), (8, .int (iI cm)), (9, .int (iI (k + 1))), (7, .int (iI sd)), (4, .ref ob2), (3, .ref ob1), (0, .ref a0), (1, .int (iI i)), (2, .int (iI j))]) [1, 2, 3, 0, 4, 5, 6, 7, 8, 9] rfl ?_
                              exact ih2  zz1 f10 cm (k + 1) _ (by omega) W10 F7  (by omega) (by omega) (by omega) (by omega) (by show 0 ≤ ivh10 (sk 14) 0 ∧ ivh10 (sk 14) 0 ≤ 501 ∧ (ivh10 (sk 14) 1 = 0 ∨ ivh10 (sk 14) 0 ≤ 500); omega) (ie76.trans hkp11) (ie78.trans hkp12) (ie80.trans hkp13) (ie82.trans hkp14) (ie84.trans hkp15) (ie86.trans hkp16)
                            · replace gf10 := (And.intro c8 (And.intro gf10.2.1 (gf10.2.2 c8)))
                              refine c_aload_n (j := 7) (x := a0) C dX11_saved_157 rfl ?_
                              refine c_getr (k := 5) C ck_12 dX11_saved_158 w2_49 (by decide) t_a0 rfl rfl (by decide) rfl rq3 ?_
                              refine c_st (st2 := [.ref (sk 14)]) rfl ?_
                              refine c_aload_n (j := 7) (x := a0) C dX11_saved_161 rfl ?_
                              refine c_getr (k := 1) C ck_12 dX11_saved_162 w2_45 (by decide) t_a0 rfl rfl (by decide) rfl rq4 ?_
                              refine c_st (st2 := [.ref (sk 3), .ref (sk 14)]) rfl ?_
                              refine c_aload_n (j := 7) (x := a0) C dX11_saved_165 rfl ?_
                              refine c_getr (k := 6) C ck_12 dX11_saved_166 w2_50 (by decide) t_a0 rfl rfl (by decide) rfl rq5 ?_
                              refine c_st (st2 := [.ref (sk 15), .ref (sk 3), .ref (sk 14)]) rfl ?_
                              refine hv4 (show (-2147483648) ≤ ivh10 (sk 14) 0 ∧ ivh10 (sk 14) 0 ≤ 2147483647 from W10.int tsk14 0) (show ivh10 (sk 14) 0 = ivb2 (sk 14) 0 from fl10.i tsk14 rfl 0) (show 0 ≤ ivh10 (sk 14) 1 ∧ ivh10 (sk 14) 1 ≤ 1 from W10.int tsk14 1) (show ivh10 (sk 14) 1 = ivb2 (sk 14) 1 from fl10.i tsk14 rfl 1) (fun ri80 ie88 ri81 ie90 => ?_)
                              refine d_callV (As := [.ref (sk 3), .ref (sk 15)]) (rest := []) C hM (C_sstep (a0 := (sk 14)) (a1 := (sk 3)) (a2 := (sk 15)) W10 hS tsk14 tsk3 tsk15  (by show 0 ≤ ivh10 (sk 14) 0 ∧ ivh10 (sk 14) 0 ≤ 501 ∧ (ivh10 (sk 14) 1 = 0 ∨ ivh10 (sk 14) 0 ≤ 500); omega)) dX11_saved_169 kV_X11_238 rfl tsk14 rfl rfl (by decide) ck_9 rfl (Nat.le_of_ble_eq_true rfl) ⟨(Nat.le_of_ble_eq_true rfl), (Nat.le_of_ble_eq_true rfl)⟩ hph hph (show 0 + 0 = 0 from rfl) (by decide) (fun rh11 Lh11 clh11 lnh11 ivh11 rvh11 h11 => ?_)
                              obtain ⟨f11, rfl, rfl, rfl, rfl, rfl, fl11, W11, rgf11, exf11⟩ := h11
                              refine hv2 (F7.call hX0 fl11 rfl) (MRK.call mr7 W10 hS XT.refl fl11 rfl rfl) (fun F8 mr8 => ?_)
                              refine c_st (st2 := [.int (iI f11)]) rfl ?_
                              refine hv3 (show (-2147483648) ≤ ivh11 (sk 14) 0 ∧ ivh11 (sk 14) 0 ≤ 2147483647 from W11.int tsk14 0) (show 0 ≤ ivh11 (sk 14) 1 ∧ ivh11 (sk 14) 1 ≤ 1 from W11.int tsk14 1) (show (0 ≤ f11 ∧ f11 ≤ 3) ∧ 0 ≤ ivh11 (sk 14) 0 ∧ ivh11 (sk 14) 0 ≤ 501 ∧ (ivh11 (sk 14) 1 = 0 ∨ ivh11 (sk 14) 0 ≤ 500) from exf11) (fun ri82 ri83 gf11 => ?_)
                              refine c_istore (lv2 := [(8, .int (iI f11)), (5, .int (iI zz1)), (6, .int (iI f10)), (9, .int (iI k)), (7, .int (iI sd)), (4, .ref ob2), (3, .ref ob1), (0, .ref a0), (1, .int (iI i)), (2, .int (iI j))]) C dX11_saved_172 (by decide) rfl ?_
                              refine c_iinc (z := k) (j := 3) (lv2 := [(9, .int (iI (k + 1))), (8, .int (iI f11)), (5, .int (iI zz1)), (6, .int (iI f10)), (7, .int (iI sd)), (4, .ref ob2), (3, .ref ob1), (0, .ref a0), (1, .int (iI i)), (2, .int (iI j))]) C dX11_saved_174 rfl (by decide) rfl ?_
                              refine c_goto (tgt := 81) C dX11_saved_177 (by decide) ?_
                              refine hv18 (show 1 ≤ ivh11 a0 11 ∧ ivh11 a0 11 ≤ 100 from W11.int t_a0 11) (show ivh11 a0 11 = ivh10 a0 11 from fl11.i t_a0 rfl 11) (show ivh10 a0 11 = ivb2 a0 11 from fl10.i t_a0 rfl 11) (show 1 ≤ ivh11 a0 12 ∧ ivh11 a0 12 ≤ 50 from W11.int t_a0 12) (show ivh11 a0 12 = ivh10 a0 12 from fl11.i t_a0 rfl 12) (show ivh10 a0 12 = ivb2 a0 12 from fl10.i t_a0 rfl 12) (show (-2147483648) ≤ ivh11 a0 13 ∧ ivh11 a0 13 ≤ 2147483647 from W11.int t_a0 13) (show ivh11 a0 13 = ivh10 a0 13 from fl11.i t_a0 rfl 13) (show ivh10 a0 13 = ivb2 a0 13 from fl10.i t_a0 rfl 13) (show (-2147483648) ≤ ivh11 a0 14 ∧ ivh11 a0 14 ≤ 2147483647 from W11.int t_a0 14) (show ivh11 a0 14 = ivh10 a0 14 from fl11.i t_a0 rfl 14) (show ivh10 a0 14 = ivb2 a0 14 from fl10.i t_a0 rfl 14) (show (-2147483648) ≤ ivh11 a0 15 ∧ ivh11 a0 15 ≤ 2147483647 from W11.int t_a0 15) (show ivh11 a0 15 = ivh10 a0 15 from fl11.i t_a0 rfl 15) (show ivh10 a0 15 = ivb2 a0 15 from fl10.i t_a0 rfl 15) (show (-2147483648) ≤ ivh11 a0 16 ∧ ivh11 a0 16 ≤ 2147483647 from W11.int t_a0 16) (show ivh11 a0 16 = ivh10 a0 16 from fl11.i t_a0 rfl 16) (show ivh10 a0 16 = ivb2 a0 16 from fl10.i t_a0 rfl 16) (fun ri84 ie94 ie95 ri85 ie97 ie98 ri86 ie100 ie101 ri87 ie103 ie104 ri88 ie106 ie107 ri89 ie109 ie110 => ?_)
                              refine c_lv (lv2 := [(5, .int (iI zz1)), (6, .int (iI f10)), (8, .int (iI f11)), (9, .int (iI (k + 1))), (7, .int (iI sd)), (4, .ref ob2), (3, .ref ob1), (0, .ref a0), (1, .int (iI i)), (2, .int (iI j))]) [2, 3, 1, 0, 4, 5, 6, 7, 8, 9] rfl ?_
                              exact ih2  zz1 f10 f11 (k + 1) _ (by omega) W11 F8  (by omega) (by omega) (by omega) (by omega) (by show 0 ≤ ivh11 (sk 14) 0 ∧ ivh11 (sk 14) 0 ≤ 501 ∧ (ivh11 (sk 14) 1 = 0 ∨ ivh11 (sk 14) 0 ≤ 500); omega) (ie94.trans (ie95.trans hkp11)) (ie97.trans (ie98.trans hkp12)) (ie100.trans (ie101.trans hkp13)) (ie103.trans (ie104.trans hkp14)) (ie106.trans (ie107.trans hkp15)) (ie109.trans (ie110.trans hkp16))
                          · refine c_aload_n (j := 6) (x := ob1) C dX11_saved_113 rfl ?_
                            refine c_goto (tgt := 119) C dX11_saved_114 (by decide) ?_
                            have ri90 : 0 ≤ ivb2 (sk 15) 4 ∧ ivb2 (sk 15) 4 ≤ 500 := Wb2.int tsk15 4
                            refine d_callV (As := [.ref ob1]) (rest := []) C hM (C_setBy (a0 := (sk 15)) (a1 := ob1) Wb2 hS tsk15 tob1  ) dX11_saved_119 kV_X11_253 rfl tsk15 rfl rfl (by decide) ck_7 rfl (Nat.le_of_ble_eq_true rfl) ⟨(Nat.le_of_ble_eq_true rfl), (Nat.le_of_ble_eq_true rfl)⟩ hph hph (show 0 + 0 = 0 from rfl) (by decide) (fun rh12 Lh12 clh12 lnh12 ivh12 rvh12 h12 => ?_)
                            obtain ⟨f12, rfl, rfl, rfl, rfl, rfl, fl12, W12, rgf12, exf12⟩ := h12
                            refine hv2 (Fb2.call hX0 fl12 rfl) (MRK.call mrb2 Wb2 hS XT.refl fl12 rfl rfl) (fun F9 mr9 => ?_)
                            refine c_st (st2 := [.int (iI f12)]) rfl ?_
                            refine hv3 (show 0 ≤ ivh12 (sk 15) 4 ∧ ivh12 (sk 15) 4 ≤ 500 from W12.int tsk15 4) (show 0 ≤ ivh12 (sk 15) 7 ∧ ivh12 (sk 15) 7 ≤ 100000 from W12.int tsk15 7) (show (f12 = 0 ∨ f12 = 6 ∨ f12 = 7) ∧ ivh12 (sk 15) 4 = ivb2 (sk 15) 4 ∧ (f12 = 0 → ivh12 (sk 15) 7 ≤ 200) from exf12) (fun ri91 ri92 gf12 => ?_)
                            refine c_istore (lv2 := [(6, .int (iI f12)), (5, .int (iI s2)), (8, .int (iI cm)), (9, .int (iI k)), (7, .int (iI sd)), (4, .ref ob2), (3, .ref ob1), (0, .ref a0), (1, .int (iI i)), (2, .int (iI j))]) C dX11_saved_122 (by decide) rfl ?_
                            refine c_iload (j := 1) C dX11_saved_124 rfl ?_
                            refine c_iload (j := 4) C dX11_saved_126 rfl ?_
                            refine c_if_ne (tgt := 141) C (r32_c (lo := 0) (hi := 2) hsd.1 hsd.2 (by decide) (by decide)) dX11_saved_128 (by decide) (fun z => absurd z (by omega)) (fun _ => ?_)
                            refine c_aload_n (j := 7) (x := a0) C dX11_saved_131 rfl ?_
                            refine c_getr (k := 6) C ck_12 dX11_saved_132 w2_50 (by decide) t_a0 rfl rfl (by decide) rfl rq5 ?_
                            refine c_st (st2 := [.ref (sk 15), .int (iI s2)]) rfl ?_
                            refine c_get (k := 7) C ck_7 dX11_saved_135 w1_149 (by decide) tsk15 rfl rfl (by decide) rfl ?_
                            refine c_goto (tgt := 149) C dX11_saved_138 (by decide) ?_
                            refine c_iadd C dX11_saved_149 ?_
                            obtain ⟨zz2, hzz2, ezz2⟩ := iI_of (iI (s2 + (ivh12 (sk 15) 7)))
                            refine c_st (st2 := [.int (iI zz2)]) (by rw [ezz2]) ?_
                            refine c_istore (lv2 := [(5, .int (iI zz2)), (6, .int (iI f12)), (8, .int (iI cm)), (9, .int (iI k)), (7, .int (iI sd)), (4, .ref ob2), (3, .ref ob1), (0, .ref a0), (1, .int (iI i)), (2, .int (iI j))]) C dX11_saved_150 (by decide) rfl ?_
                            refine c_iload (j := 1) C dX11_saved_152 rfl ?_
                            refine c_if_ne (tgt := 174) C (r32_067 gf12.1) dX11_saved_154 (by decide) (fun c9 => ?_) (fun c9 => ?_)
                            · replace gf12 := (And.intro (gf12.1.resolve_left c9) (And.intro gf12.2.1 trivial))
                              refine c_iinc (z := k) (j := 3) (lv2 := [(9, .int (iI (k + 1))), (5, .int (iI zz2)), (6, .int (iI f12)), (8, .int (iI cm)), (7, .int (iI sd)), (4, .ref ob2), (3, .ref ob1), (0, .ref a0), (1, .int (iI i)), (2, .int (iI j))]) C dX11_saved_174 rfl (by decide) rfl ?_
                              refine c_goto (tgt := 81) C dX11_saved_177 (by decide) ?_
                              refine hv16 (show (-2147483648) ≤ ivh12 (sk 14) 0 ∧ ivh12 (sk 14) 0 ≤ 2147483647 from W12.int tsk14 0) (show ivh12 (sk 14) 0 = ivb2 (sk 14) 0 from fl12.i tsk14 rfl 0) (show 0 ≤ ivh12 (sk 14) 1 ∧ ivh12 (sk 14) 1 ≤ 1 from W12.int tsk14 1) (show ivh12 (sk 14) 1 = ivb2 (sk 14) 1 from fl12.i tsk14 rfl 1) (show 1 ≤ ivh12 a0 11 ∧ ivh12 a0 11 ≤ 100 from W12.int t_a0 11) (show ivh12 a0 11 = ivb2 a0 11 from fl12.i t_a0 rfl 11) (show 1 ≤ ivh12 a0 12 ∧ ivh12 a0 12 ≤ 50 from W12.int t_a0 12) (show ivh12 a0 12 = ivb2 a0 12 from fl12.i t_a0 rfl 12) (show (-2147483648) ≤ ivh12 a0 13 ∧ ivh12 a0 13 ≤ 2147483647 from W12.int t_a0 13) (show ivh12 a0 13 = ivb2 a0 13 from fl12.i t_a0 rfl 13) (show (-2147483648) ≤ ivh12 a0 14 ∧ ivh12 a0 14 ≤ 2147483647 from W12.int t_a0 14) (show ivh12 a0 14 = ivb2 a0 14 from fl12.i t_a0 rfl 14) (show (-2147483648) ≤ ivh12 a0 15 ∧ ivh12 a0 15 ≤ 2147483647 from W12.int t_a0 15) (show ivh12 a0 15 = ivb2 a0 15 from fl12.i t_a0 rfl 15) (show (-2147483648) ≤ ivh12 a0 16 ∧ ivh12 a0 16 ≤ 2147483647 from W12.int t_a0 16) (show ivh12 a0 16 = ivb2 a0 16 from fl12.i t_a0 rfl 16) (fun ri93 ie115 ri94 ie117 ri95 ie119 ri96 ie121 ri97 ie123 ri98 ie125 ri99 ie127 ri100 ie129 => ?_)
                              refine c_lv (lv2 := [(5, .int (iI zz2)), (6, .int (iI f12)), (8, .int (iI cm)), (9, .int (iI (k + 1))), (7, .int (iI sd)), (4, .ref ob2), (3, .ref ob1), (0, .ref a0), (1, .int (iI i)), (2, .int (iI j))]) [1, 2, 3, 0, 4, 5, 6, 7, 8, 9] rfl ?_
                              exact ih2  zz2 f12 cm (k + 1) _ (by omega) W12 F9  (by omega) (by omega) (by omega) (by omega) (by show 0 ≤ ivh12 (sk 14) 0 ∧ ivh12 (sk 14) 0 ≤ 501 ∧ (ivh12 (sk 14) 1 = 0 ∨ ivh12 (sk 14) 0 ≤ 500); omega) (ie119.trans hkp11) (ie121.trans hkp12) (ie123.trans hkp13) (ie125.trans hkp14) (ie127.trans hkp15) (ie129.trans hkp16)
                            · replace gf12 := (And.intro c9 (And.intro gf12.2.1 (gf12.2.2 c9)))
                              refine c_aload_n (j := 7) (x := a0) C dX11_saved_157 rfl ?_
                              refine c_getr (k := 5) C ck_12 dX11_saved_158 w2_49 (by decide) t_a0 rfl rfl (by decide) rfl rq3 ?_
                              refine c_st (st2 := [.ref (sk 14)]) rfl ?_
                              refine c_aload_n (j := 7) (x := a0) C dX11_saved_161 rfl ?_
                              refine c_getr (k := 1) C ck_12 dX11_saved_162 w2_45 (by decide) t_a0 rfl rfl (by decide) rfl rq4 ?_
                              refine c_st (st2 := [.ref (sk 3), .ref (sk 14)]) rfl ?_
                              refine c_aload_n (j := 7) (x := a0) C dX11_saved_165 rfl ?_
                              refine c_getr (k := 6) C ck_12 dX11_saved_166 w2_50 (by decide) t_a0 rfl rfl (by decide) rfl rq5 ?_
                              refine c_st (st2 := [.ref (sk 15), .ref (sk 3), .ref (sk 14)]) rfl ?_
                              refine hv4 (show (-2147483648) ≤ ivh12 (sk 14) 0 ∧ ivh12 (sk 14) 0 ≤ 2147483647 from W12.int tsk14 0) (show ivh12 (sk 14) 0 = ivb2 (sk 14) 0 from fl12.i tsk14 rfl 0) (show 0 ≤ ivh12 (sk 14) 1 ∧ ivh12 (sk 14) 1 ≤ 1 from W12.int tsk14 1) (show ivh12 (sk 14) 1 = ivb2 (sk 14) 1 from fl12.i tsk14 rfl 1) (fun ri101 ie131 ri102 ie133 => ?_)
                              refine d_callV (As := [.ref (sk 3), .ref (sk 15)]) (rest := []) C hM (C_sstep (a0 := (sk 14)) (a1 := (sk 3)) (a2 := (sk 15)) W12 hS tsk14 tsk3 tsk15  (by show 0 ≤ ivh12 (sk 14) 0 ∧ ivh12 (sk 14) 0 ≤ 501 ∧ (ivh12 (sk 14) 1 = 0 ∨ ivh12 (sk 14) 0 ≤ 500); omega)) dX11_saved_169 kV_X11_238 rfl tsk14 rfl rfl (by decide) ck_9 rfl (Nat.le_of_ble_eq_true rfl) ⟨(Nat.le_of_ble_eq_true rfl), (Nat.le_of_ble_eq_true rfl)⟩ hph hph (show 0 + 0 = 0 from rfl) (by decide) (fun rh13 Lh13 clh13 lnh13 ivh13 rvh13 h13 => ?_)
                              obtain ⟨f13, rfl, rfl, rfl, rfl, rfl, fl13, W13, rgf13, exf13⟩ := h13
                              refine hv2 (F9.call hX0 fl13 rfl) (MRK.call mr9 W12 hS XT.refl fl13 rfl rfl) (fun F10 mr10 => ?_)
                              refine c_st (st2 := [.int (iI f13)]) rfl ?_
                              refine hv3 (show (-2147483648) ≤ ivh13 (sk 14) 0 ∧ ivh13 (sk 14) 0 ≤ 2147483647 from W13.int tsk14 0) (show 0 ≤ ivh13 (sk 14) 1 ∧ ivh13 (sk 14) 1 ≤ 1 from W13.int tsk14 1) (show (0 ≤ f13 ∧ f13 ≤ 3) ∧ 0 ≤ ivh13 (sk 14) 0 ∧ ivh13 (sk 14) 0 ≤ 501 ∧ (ivh13 (sk 14) 1 = 0 ∨ ivh13 (sk 14) 0 ≤ 500) from exf13) (fun ri103 ri104 gf13 => ?_)
                              refine c_istore (lv2 := [(8, .int (iI f13)), (5, .int (iI zz2)), (6, .int (iI f12)), (9, .int (iI k)), (7, .int (iI sd)), (4, .ref ob2), (3, .ref ob1), (0, .ref a0), (1, .int (iI i)), (2, .int (iI j))]) C dX11_saved_172 (by decide) rfl ?_
                              refine c_iinc (z := k) (j := 3) (lv2 := [(9, .int (iI (k + 1))), (8, .int (iI f13)), (5, .int (iI zz2)), (6, .int (iI f12)), (7, .int (iI sd)), (4, .ref ob2), (3, .ref ob1), (0, .ref a0), (1, .int (iI i)), (2, .int (iI j))]) C dX11_saved_174 rfl (by decide) rfl ?_
                              refine c_goto (tgt := 81) C dX11_saved_177 (by decide) ?_
                              refine hv18 (show 1 ≤ ivh13 a0 11 ∧ ivh13 a0 11 ≤ 100 from W13.int t_a0 11) (show ivh13 a0 11 = ivh12 a0 11 from fl13.i t_a0 rfl 11) (show ivh12 a0 11 = ivb2 a0 11 from fl12.i t_a0 rfl 11) (show 1 ≤ ivh13 a0 12 ∧ ivh13 a0 12 ≤ 50 from W13.int t_a0 12) (show ivh13 a0 12 = ivh12 a0 12 from fl13.i t_a0 rfl 12) (show ivh12 a0 12 = ivb2 a0 12 from fl12.i t_a0 rfl 12) (show (-2147483648) ≤ ivh13 a0 13 ∧ ivh13 a0 13 ≤ 2147483647 from W13.int t_a0 13) (show ivh13 a0 13 = ivh12 a0 13 from fl13.i t_a0 rfl 13) (show ivh12 a0 13 = ivb2 a0 13 from fl12.i t_a0 rfl 13) (show (-2147483648) ≤ ivh13 a0 14 ∧ ivh13 a0 14 ≤ 2147483647 from W13.int t_a0 14) (show ivh13 a0 14 = ivh12 a0 14 from fl13.i t_a0 rfl 14) (show ivh12 a0 14 = ivb2 a0 14 from fl12.i t_a0 rfl 14) (show (-2147483648) ≤ ivh13 a0 15 ∧ ivh13 a0 15 ≤ 2147483647 from W13.int t_a0 15) (show ivh13 a0 15 = ivh12 a0 15 from fl13.i t_a0 rfl 15) (show ivh12 a0 15 = ivb2 a0 15 from fl12.i t_a0 rfl 15) (show (-2147483648) ≤ ivh13 a0 16 ∧ ivh13 a0 16 ≤ 2147483647 from W13.int t_a0 16) (show ivh13 a0 16 = ivh12 a0 16 from fl13.i t_a0 rfl 16) (show ivh12 a0 16 = ivb2 a0 16 from fl12.i t_a0 rfl 16) (fun ri105 ie137 ie138 ri106 ie140 ie141 ri107 ie143 ie144 ri108 ie146 ie147 ri109 ie149 ie150 ri110 ie152 ie153 => ?_)
                              refine c_lv (lv2 := [(5, .int (iI zz2)), (6, .int (iI f12)), (8, .int (iI f13)), (9, .int (iI (k + 1))), (7, .int (iI sd)), (4, .ref ob2), (3, .ref ob1), (0, .ref a0), (1, .int (iI i)), (2, .int (iI j))]) [2, 3, 1, 0, 4, 5, 6, 7, 8, 9] rfl ?_
                              exact ih2  zz2 f12 f13 (k + 1) _ (by omega) W13 F10  (by omega) (by omega) (by omega) (by omega) (by show 0 ≤ ivh13 (sk 14) 0 ∧ ivh13 (sk 14) 0 ≤ 501 ∧ (ivh13 (sk 14) 1 = 0 ∨ ivh13 (sk 14) 0 ≤ 500); omega) (ie137.trans (ie138.trans hkp11)) (ie140.trans (ie141.trans hkp12)) (ie143.trans (ie144.trans hkp13)) (ie146.trans (ie147.trans hkp14)) (ie149.trans (ie150.trans hkp15)) (ie152.trans (ie153.trans hkp16))
              refine hv18 (show 1 ≤ ivh8 a0 11 ∧ ivh8 a0 11 ≤ 100 from W8.int t_a0 11) (show ivh8 a0 11 = ivh7 a0 11 from fl8.i t_a0 rfl 11) (show ivh7 a0 11 = ivb1 a0 11 from fl7.i t_a0 rfl 11) (show 1 ≤ ivh8 a0 12 ∧ ivh8 a0 12 ≤ 50 from W8.int t_a0 12) (show ivh8 a0 12 = ivh7 a0 12 from fl8.i t_a0 rfl 12) (show ivh7 a0 12 = ivb1 a0 12 from fl7.i t_a0 rfl 12) (show (-2147483648) ≤ ivh8 a0 13 ∧ ivh8 a0 13 ≤ 2147483647 from W8.int t_a0 13) (show ivh8 a0 13 = ivh7 a0 13 from fl8.i t_a0 rfl 13) (show ivh7 a0 13 = ivb1 a0 13 from fl7.i t_a0 rfl 13) (show (-2147483648) ≤ ivh8 a0 14 ∧ ivh8 a0 14 ≤ 2147483647 from W8.int t_a0 14) (show ivh8 a0 14 = ivh7 a0 14 from fl8.i t_a0 rfl 14) (show ivh7 a0 14 = ivb1 a0 14 from fl7.i t_a0 rfl 14) (show (-2147483648) ≤ ivh8 a0 15 ∧ ivh8 a0 15 ≤ 2147483647 from W8.int t_a0 15) (show ivh8 a0 15 = ivh7 a0 15 from fl8.i t_a0 rfl 15) (show ivh7 a0 15 = ivb1 a0 15 from fl7.i t_a0 rfl 15) (show (-2147483648) ≤ ivh8 a0 16 ∧ ivh8 a0 16 ≤ 2147483647 from W8.int t_a0 16) (show ivh8 a0 16 = ivh7 a0 16 from fl8.i t_a0 rfl 16) (show ivh7 a0 16 = ivb1 a0 16 from fl7.i t_a0 rfl 16) (fun ri111 ie155 ie156 ri112 ie158 ie159 ri113 ie161 ie162 ri114 ie164 ie165 ri115 ie167 ie168 ri116 ie170 ie171 => ?_)
              refine c_lv (lv2 := [(5, .int (iI s1)), (6, .int (iI wy)), (8, .int (iI f8)), (9, .int (iI 0)), (7, .int (iI sd)), (4, .ref ob2), (3, .ref ob1), (0, .ref a0), (1, .int (iI i)), (2, .int (iI j))]) [2, 3, 1, 0, 4, 5, 6, 7, 8, 9] rfl ?_
              exact Lp2 1000003 s1 wy f8 0 _ (by omega) W8 F5  (by omega) (by omega) (by omega) (by omega) (by show 0 ≤ ivh8 (sk 14) 0 ∧ ivh8 (sk 14) 0 ≤ 501 ∧ (ivh8 (sk 14) 1 = 0 ∨ ivh8 (sk 14) 0 ≤ 500); omega) (ie155.trans (ie156.trans hkp11)) (ie158.trans (ie159.trans hkp12)) (ie161.trans (ie162.trans hkp13)) (ie164.trans (ie165.trans hkp14)) (ie167.trans (ie168.trans hkp15)) (ie170.trans (ie171.trans hkp16))
      refine hv6 (show 1 ≤ iv a0 11 ∧ iv a0 11 ≤ 100 from hW.int t_a0 11) (show 1 ≤ iv a0 12 ∧ iv a0 12 ≤ 50 from hW.int t_a0 12) (show (-2147483648) ≤ iv a0 13 ∧ iv a0 13 ≤ 2147483647 from hW.int t_a0 13) (show (-2147483648) ≤ iv a0 14 ∧ iv a0 14 ≤ 2147483647 from hW.int t_a0 14) (show (-2147483648) ≤ iv a0 15 ∧ iv a0 15 ≤ 2147483647 from hW.int t_a0 15) (show (-2147483648) ≤ iv a0 16 ∧ iv a0 16 ≤ 2147483647 from hW.int t_a0 16) (fun ri117 ri118 ri119 ri120 ri121 ri122 => ?_)
      refine c_lv (lv2 := [(5, .int (iI 0)), (6, .int (iI 0)), (7, .int (iI 0)), (4, .ref ob2), (3, .ref ob1), (0, .ref a0), (1, .int (iI i)), (2, .int (iI j))]) [2, 1, 0, 3, 4, 5, 6, 7] rfl ?_
      exact Lp1 5 0 0 0 _ (by omega) hW hF0  (by omega) (by omega) (by omega) rfl rfl rfl rfl rfl rfl
    · subst oq2
      refine c_lv (lv2 := [(4, .null), (3, .ref ob1), (0, .ref a0), (1, .int (iI i)), (2, .int (iI j))]) [0, 1, 2, 3, 4] rfl ?_
      refine c_st (st2 := []) rfl ?_
      refine c_aload_n (j := 2) (x := a0) C dX11_saved_28 rfl ?_
      refine c_iconst C dX11_saved_29 ?_
      refine d_callV (As := [.int (iI 3)]) (rest := []) C hM (C_refuse (a0 := a0) (x := 3) hW hS t_a0 ⟨by decide, by decide⟩ ) dX11_saved_30 kV_X11_102 rfl t_a0 rfl rfl (by decide) ck_12 rfl (Nat.le_of_ble_eq_true rfl) ⟨(Nat.le_of_ble_eq_true rfl), (Nat.le_of_ble_eq_true rfl)⟩ hph hph (show 0 + 0 = 0 from rfl) (by decide) (fun rh14 Lh14 clh14 lnh14 ivh14 rvh14 h14 => ?_)
      obtain ⟨f14, rfl, rfl, rfl, rfl, rfl, fl14, W14, rgf14, exf14, kp11f14, kp12f14, kp13f14, kp14f14, kp15f14, kp16f14⟩ := h14
      refine hv8 (show 1 ≤ iv a0 11 ∧ iv a0 11 ≤ 100 from hW.int t_a0 11) (show 1 ≤ iv a0 12 ∧ iv a0 12 ≤ 50 from hW.int t_a0 12) (show (-2147483648) ≤ iv a0 13 ∧ iv a0 13 ≤ 2147483647 from hW.int t_a0 13) (show (-2147483648) ≤ iv a0 14 ∧ iv a0 14 ≤ 2147483647 from hW.int t_a0 14) (show (-2147483648) ≤ iv a0 15 ∧ iv a0 15 ≤ 2147483647 from hW.int t_a0 15) (show (-2147483648) ≤ iv a0 16 ∧ iv a0 16 ≤ 2147483647 from hW.int t_a0 16) (hF0.call hX0 fl14 rfl) (MRK.call hmr hW hS XT.refl fl14 rfl rfl) (fun ri123 ri124 ri125 ri126 ri127 ri128 F11 mr11 => ?_)
      refine c_st (st2 := [.int (iI f14)]) rfl ?_
      refine hv13 (show ivh14 a0 11 = iv a0 11 from kp11f14) (show ivh14 a0 12 = iv a0 12 from kp12f14) (show ivh14 a0 13 = iv a0 13 from kp13f14) (show ivh14 a0 14 = iv a0 14 from kp14f14) (show ivh14 a0 15 = iv a0 15 from kp15f14) (show ivh14 a0 16 = iv a0 16 from kp16f14) (show f14 = -1 from exf14) (show 1 ≤ ivh14 a0 11 ∧ ivh14 a0 11 ≤ 100 from W14.int t_a0 11) (show 1 ≤ ivh14 a0 12 ∧ ivh14 a0 12 ≤ 50 from W14.int t_a0 12) (show (-2147483648) ≤ ivh14 a0 13 ∧ ivh14 a0 13 ≤ 2147483647 from W14.int t_a0 13) (show (-2147483648) ≤ ivh14 a0 14 ∧ ivh14 a0 14 ≤ 2147483647 from W14.int t_a0 14) (show (-2147483648) ≤ ivh14 a0 15 ∧ ivh14 a0 15 ≤ 2147483647 from W14.int t_a0 15) (show (-2147483648) ≤ ivh14 a0 16 ∧ ivh14 a0 16 ≤ 2147483647 from W14.int t_a0 16) (fun gk11f14 gk12f14 gk13f14 gk14f14 gk15f14 gk16f14 gf14 ri129 ri130 ri131 ri132 ri133 ri134 => ?_)
      exact c_iret C dX11_saved_33 rfl (by decide) (rom0 hph hph (by decide)) ⟨f14, rfl, rfl, rfl, rfl, rfl, F11, W14, ⟨by omega, by omega⟩, trivial, gk11f14, gk12f14, gk13f14, gk14f14, gk15f14, gk16f14⟩
set_option maxHeartbeats 4000000 in
set_option maxRecDepth 100000 in
theorem C_digest {l : Launch} {G : GT} {mi : Nat} {sk : Nat → Nat} {L : List Nat} {cl ln : Nat → Nat} {iv : Nat → Nat → Int} {rv : Nat → Nat → Option Nat}  {a0 : Nat} (hW : WT (g0 G) sk L cl ln iv rv) (hS : SKL sk L cl) (t_a0 : ty L cl a0 1)  : Mc l G mi (Phi (g0 G) sk) PHM yX11_digest cX11_digest 3 (some .int) 3 [.ref a0] L cl ln iv rv 0 (fun v L2 cl2 ln2 iv2 rv2 => ∃ f : Int, v = some (.int (iI f)) ∧ L = L2 ∧ cl = cl2 ∧ ln = ln2 ∧ iv = iv2 ∧ rv = rv2 ∧ (-2147483648 ≤ f ∧ f ≤ 2147483647) ∧ (True)) := by
  refine Mc.mk (by decide) (Nat.le_of_ble_eq_true rfl) ?_
  intro p e s m args below meth c A C hM
  refine hv21 (Phi.le hW hS) (show ty L cl (sk 2) 2 from ⟨(hS 2 rfl).1, by rw [(hS 2 rfl).2]; rfl⟩) (show ty L cl (sk 3) 3 from ⟨(hS 3 rfl).1, by rw [(hS 3 rfl).2]; rfl⟩) (show ty L cl (sk 4) 4 from ⟨(hS 4 rfl).1, by rw [(hS 4 rfl).2]; rfl⟩) (show ty L cl (sk 5) 5 from ⟨(hS 5 rfl).1, by rw [(hS 5 rfl).2]; rfl⟩) (show ty L cl (sk 6) 6 from ⟨(hS 6 rfl).1, by rw [(hS 6 rfl).2]; rfl⟩) (show ty L cl (sk 7) 7 from ⟨(hS 7 rfl).1, by rw [(hS 7 rfl).2]; rfl⟩) (show ty L cl (sk 8) 8 from ⟨(hS 8 rfl).1, by rw [(hS 8 rfl).2]; rfl⟩) (show ty L cl (sk 9) 9 from ⟨(hS 9 rfl).1, by rw [(hS 9 rfl).2]; rfl⟩) (show ty L cl (sk 10) 10 from ⟨(hS 10 rfl).1, by rw [(hS 10 rfl).2]; rfl⟩) (show ty L cl (sk 13) 13 from ⟨(hS 13 rfl).1, by rw [(hS 13 rfl).2]; rfl⟩) (show ty L cl (sk 14) 14 from ⟨(hS 14 rfl).1, by rw [(hS 14 rfl).2]; rfl⟩) (show ty L cl (sk 15) 15 from ⟨(hS 15 rfl).1, by rw [(hS 15 rfl).2]; rfl⟩) (show ty L cl (sk 16) 16 from ⟨(hS 16 rfl).1, by rw [(hS 16 rfl).2]; rfl⟩) (show ty L cl (sk 17) 17 from ⟨(hS 17 rfl).1, by rw [(hS 17 rfl).2]; rfl⟩) (show ty L cl (sk 22) 22 from ⟨(hS 22 rfl).1, by rw [(hS 22 rfl).2]; rfl⟩) (show ty L cl (sk 23) 23 from ⟨(hS 23 rfl).1, by rw [(hS 23 rfl).2]; rfl⟩) (show ty L cl (sk 24) 24 from ⟨(hS 24 rfl).1, by rw [(hS 24 rfl).2]; rfl⟩) (show ty L cl (sk 25) 25 from ⟨(hS 25 rfl).1, by rw [(hS 25 rfl).2]; rfl⟩) (show XT L cl ln L cl ln from XT.refl) (show fT [] L cl iv rv iv rv from fT.refl) (fun hph tsk2 tsk3 tsk4 tsk5 tsk6 tsk7 tsk8 tsk9 tsk10 tsk13 tsk14 tsk15 tsk16 tsk17 tsk22 tsk23 tsk24 tsk25 hX0 hF0 => ?_)
  refine c_aload_n (j := 0) (x := a0) C dX11_digest_0 rfl ?_
  obtain ⟨rb1, rq1, trb1⟩ := hW.ref t_a0 9 rfl rfl rfl
  refine c_getr (k := 9) C ck_12 dX11_digest_1 w2_53 (by decide) t_a0 rfl rfl (by decide) rfl rq1 ?_
  refine c_st (st2 := [.ref rb1]) rfl ?_
  refine c_sipush (z := 527) C dX11_digest_4 (by decide) ?_
  refine c_aload_n (j := 0) (x := a0) C dX11_digest_7 rfl ?_
  refine c_getr (k := 9) C ck_12 dX11_digest_8 w2_53 (by decide) t_a0 rfl rfl (by decide) rfl rq1 ?_
  refine c_st (st2 := [.ref rb1, .int (iI 527), .ref rb1]) rfl ?_
  have ri1 : 0 ≤ iv rb1 1 ∧ iv rb1 1 ≤ 200 := hW.int trb1 1
  refine c_get (k := 1) C ck_8 dX11_digest_11 w2_35 (by decide) trb1 rfl rfl (by decide) rfl ?_
  refine c_iadd C dX11_digest_14 ?_
  obtain ⟨zz1, hzz1, ezz1⟩ := iI_of (iI (527 + (iv rb1 1)))
  refine c_st (st2 := [.int (iI zz1), .ref rb1]) (by rw [ezz1]) ?_
  refine d_callV (As := [.int (iI zz1)]) (rest := []) C hM (C_goOver (a0 := rb1) (x := zz1) hW hS trb1 (by omega) ) dX11_digest_15 kV_X11_416 rfl trb1 rfl rfl (by decide) ck_8 rfl (Nat.le_of_ble_eq_true rfl) ⟨(Nat.le_of_ble_eq_true rfl), (Nat.le_of_ble_eq_true rfl)⟩ hph hph (show 0 + 0 = 0 from rfl) (by decide) (fun rh3 Lh3 clh3 lnh3 ivh3 rvh3 h3 => ?_)
  obtain ⟨f1, rfl, rfl, rfl, rfl, rfl, rfl, rgf1, exf1⟩ := h3
  refine c_st (st2 := [.int (iI f1)]) rfl ?_
  refine c_istore_n (lv2 := [(1, .int (iI f1)), (0, .ref a0)]) C dX11_digest_18 (by decide) rfl ?_
  refine c_iload_n (j := 0) C dX11_digest_19 rfl ?_
  refine c_bipush (z := 31) C dX11_digest_20 (by decide) ?_
  refine c_imul C dX11_digest_22 ?_
  obtain ⟨zz2, hzz2, ezz2⟩ := iI_of (iI (f1 * 31))
  refine c_st (st2 := [.int (iI zz2)]) (by rw [ezz2]) ?_
  refine c_aload_n (j := 1) (x := a0) C dX11_digest_23 rfl ?_
  obtain ⟨rb2, rq2, trb2⟩ := hW.ref t_a0 2 rfl rfl rfl
  have erb2 := hW.sk trb2 (by decide) rfl
  subst erb2
  refine c_getr (k := 2) C ck_12 dX11_digest_24 w2_46 (by decide) t_a0 rfl rfl (by decide) rfl rq2 ?_
  refine c_st (st2 := [.ref (sk 4), .int (iI zz2)]) rfl ?_
  have ri2 : 0 ≤ iv (sk 4) 2 ∧ iv (sk 4) 2 ≤ 4000 := hW.int tsk4 2
  refine c_get (k := 2) C ck_2 dX11_digest_27 w1_44 (by decide) tsk4 rfl rfl (by decide) rfl ?_
  refine c_iadd C dX11_digest_30 ?_
  obtain ⟨zz3, hzz3, ezz3⟩ := iI_of (iI (zz2 + (iv (sk 4) 2)))
  refine c_st (st2 := [.int (iI zz3)]) (by rw [ezz3]) ?_
  refine c_istore_n (lv2 := [(1, .int (iI zz3)), (0, .ref a0)]) C dX11_digest_31 (by decide) rfl ?_
  refine c_iconst C dX11_digest_32 ?_
  refine c_istore_n (lv2 := [(2, .int (iI 0)), (1, .int (iI zz3)), (0, .ref a0)]) C dX11_digest_33 (by decide) rfl ?_
  have Lp1 : ∀ (nn : Nat) (h1 k : Int) , 4001 - k < (nn : Int) → (-2147483648 ≤ h1 ∧ h1 ≤ 2147483647) → (0 ≤ k ∧ k ≤ 4000) → cw p l e 3 ((PHM) + 0 - ((Phi (g0 G) sk) ln rv)) s m args below meth c G A 3 (MQ below (Qu G A (Qp G (Phi (g0 G) sk) ((Phi (g0 G) sk) ln rv) 0 (fun v L2 cl2 ln2 iv2 rv2 => ∃ f : Int, v = some (.int (iI f)) ∧ L = L2 ∧ cl = cl2 ∧ ln = ln2 ∧ iv = iv2 ∧ rv = rv2 ∧ (-2147483648 ≤ f ∧ f ≤ 2147483647) ∧ (True)))) args s (((PHM) + 0 - ((Phi (g0 G) sk) ln rv)) / 16) ((PHM) + 0 - ((Phi (g0 G) sk) ln rv)) A) (Phi (g0 G) sk) ((Phi (g0 G) sk) ln rv) L cl ln iv rv 0 34 [(1, .int (iI h1)), (2, .int (iI k)), (0, .ref a0)] [] := by
    intro nn
    induction nn with
    | zero =>
      intro  h1 k  hm   hh1 hk
      exact absurd hm (by omega)
    | succ nn ih1 =>
      intro  h1 k  hm   hh1 hk
      refine c_iload_n (j := 1) C dX11_digest_34 rfl ?_
      refine c_aload_n (j := 2) (x := a0) C dX11_digest_35 rfl ?_
      refine c_getr (k := 2) C ck_12 dX11_digest_36 w2_46 (by decide) t_a0 rfl rfl (by decide) rfl rq2 ?_
      refine c_st (st2 := [.ref (sk 4), .int (iI k)]) rfl ?_
      refine c_get (k := 2) C ck_2 dX11_digest_39 w1_44 (by decide) tsk4 rfl rfl (by decide) rfl ?_
      refine c_icmp_ge (tgt := 65) C (r32_c (lo := 0) (hi := 4000) hk.1 hk.2 (by decide) (by decide)) (r32_c (lo := 0) (hi := 4000) ri2.1 ri2.2 (by decide) (by decide)) dX11_digest_42 (by decide) (fun c1 => ?_) (fun c1 => ?_)
      · refine c_iconst C dX11_digest_65 ?_
        refine c_istore_n (lv2 := [(2, .int (iI 0)), (1, .int (iI h1)), (0, .ref a0)]) C dX11_digest_66 (by decide) rfl ?_
        have Lp2 : ∀ (nn : Nat) (h2 k2 : Int) , 6 - k2 < (nn : Int) → (-2147483648 ≤ h2 ∧ h2 ≤ 2147483647) → (0 ≤ k2 ∧ k2 ≤ 5) → cw p l e 3 ((PHM) + 0 - ((Phi (g0 G) sk) ln rv)) s m args below meth c G A 3 (MQ below (Qu G A (Qp G (Phi (g0 G) sk) ((Phi (g0 G) sk) ln rv) 0 (fun v L2 cl2 ln2 iv2 rv2 => ∃ f : Int, v = some (.int (iI f)) ∧ L = L2 ∧ cl = cl2 ∧ ln = ln2 ∧ iv = iv2 ∧ rv = rv2 ∧ (-2147483648 ≤ f ∧ f ≤ 2147483647) ∧ (True)))) args s (((PHM) + 0 - ((Phi (g0 G) sk) ln rv)) / 16) ((PHM) + 0 - ((Phi (g0 G) sk) ln rv)) A) (Phi (g0 G) sk) ((Phi (g0 G) sk) ln rv) L cl ln iv rv 0 67 [(1, .int (iI h2)), (2, .int (iI k2)), (0, .ref a0)] [] := by
          intro nn
          induction nn with
          | zero =>
            intro  h2 k2  hm   hh2 hk2
            exact absurd hm (by omega)
          | succ nn ih2 =>
            intro  h2 k2  hm   hh2 hk2
            refine c_iload_n (j := 1) C dX11_digest_67 rfl ?_
            refine c_iconst C dX11_digest_68 ?_
            refine c_icmp_gt (tgt := 92) C (r32_c (lo := 0) (hi := 5) hk2.1 hk2.2 (by decide) (by decide)) ⟨by decide, by decide⟩ dX11_digest_69 (by decide) (fun c2 => ?_) (fun c2 => ?_)
            · refine c_iload_n (j := 0) C dX11_digest_92 rfl ?_
              refine c_bipush (z := 31) C dX11_digest_93 (by decide) ?_
              refine c_imul C dX11_digest_95 ?_
              obtain ⟨zz4, hzz4, ezz4⟩ := iI_of (iI (h2 * 31))
              refine c_st (st2 := [.int (iI zz4)]) (by rw [ezz4]) ?_
              refine c_aload_n (j := 2) (x := a0) C dX11_digest_96 rfl ?_
              have ri3 : (-2147483648) ≤ iv a0 15 ∧ iv a0 15 ≤ 2147483647 := hW.int t_a0 15
              refine c_get (k := 15) C ck_12 dX11_digest_97 w2_59 (by decide) t_a0 rfl rfl (by decide) rfl ?_
              refine c_iadd C dX11_digest_100 ?_
              obtain ⟨zz5, hzz5, ezz5⟩ := iI_of (iI (zz4 + (iv a0 15)))
              refine c_st (st2 := [.int (iI zz5)]) (by rw [ezz5]) ?_
              refine c_istore_n (lv2 := [(1, .int (iI zz5)), (2, .int (iI k2)), (0, .ref a0)]) C dX11_digest_101 (by decide) rfl ?_
              refine c_iload_n (j := 0) C dX11_digest_102 rfl ?_
              refine c_bipush (z := 31) C dX11_digest_103 (by decide) ?_
              refine c_imul C dX11_digest_105 ?_
              obtain ⟨zz6, hzz6, ezz6⟩ := iI_of (iI (zz5 * 31))
              refine c_st (st2 := [.int (iI zz6)]) (by rw [ezz6]) ?_
              refine c_aload_n (j := 2) (x := a0) C dX11_digest_106 rfl ?_
              have ri4 : (-2147483648) ≤ iv a0 16 ∧ iv a0 16 ≤ 2147483647 := hW.int t_a0 16
              refine c_get (k := 16) C ck_12 dX11_digest_107 w2_60 (by decide) t_a0 rfl rfl (by decide) rfl ?_
              refine c_iadd C dX11_digest_110 ?_
              obtain ⟨zz7, hzz7, ezz7⟩ := iI_of (iI (zz6 + (iv a0 16)))
              refine c_st (st2 := [.int (iI zz7)]) (by rw [ezz7]) ?_
              exact c_iret C dX11_digest_111 rfl (by decide) (rom0 hph hph (by decide)) ⟨zz7, rfl, rfl, rfl, rfl, rfl, rfl, ⟨by omega, by omega⟩, trivial⟩
            · refine c_iload_n (j := 0) C dX11_digest_72 rfl ?_
              refine c_bipush (z := 31) C dX11_digest_73 (by decide) ?_
              refine c_imul C dX11_digest_75 ?_
              obtain ⟨zz8, hzz8, ezz8⟩ := iI_of (iI (h2 * 31))
              refine c_st (st2 := [.int (iI zz8)]) (by rw [ezz8]) ?_
              refine c_aload_n (j := 2) (x := a0) C dX11_digest_76 rfl ?_
              obtain ⟨rb3, rq3, trb3⟩ := hW.ref t_a0 6 rfl rfl rfl
              have erb3 := hW.sk trb3 (by decide) rfl
              subst erb3
              refine c_getr (k := 6) C ck_12 dX11_digest_77 w2_50 (by decide) t_a0 rfl rfl (by decide) rfl rq3 ?_
              refine c_st (st2 := [.ref (sk 15), .int (iI zz8)]) rfl ?_
              refine c_iload_n (j := 1) C dX11_digest_80 rfl ?_
              refine d_callV (As := [.int (iI k2)]) (rest := [.int (iI zz8)]) C hM (C_findsOf (a0 := (sk 15)) (i := k2) hW hS tsk15 (by omega) ) dX11_digest_81 kV_X11_413 rfl tsk15 rfl rfl (by decide) ck_7 rfl (Nat.le_of_ble_eq_true rfl) ⟨(Nat.le_of_ble_eq_true rfl), (Nat.le_of_ble_eq_true rfl)⟩ hph hph (show 0 + 0 = 0 from rfl) (by decide) (fun rh4 Lh4 clh4 lnh4 ivh4 rvh4 h4 => ?_)
              obtain ⟨f2, rfl, rfl, rfl, rfl, rfl, rfl, rgf2, exf2⟩ := h4
              refine c_st (st2 := [.int (iI f2), .int (iI zz8)]) rfl ?_
              refine c_iadd C dX11_digest_84 ?_
              obtain ⟨zz9, hzz9, ezz9⟩ := iI_of (iI (zz8 + f2))
              refine c_st (st2 := [.int (iI zz9)]) (by rw [ezz9]) ?_
              refine c_istore_n (lv2 := [(1, .int (iI zz9)), (2, .int (iI k2)), (0, .ref a0)]) C dX11_digest_85 (by decide) rfl ?_
              refine c_iinc (z := k2) (j := 1) (lv2 := [(2, .int (iI (k2 + 1))), (1, .int (iI zz9)), (0, .ref a0)]) C dX11_digest_86 rfl (by decide) rfl ?_
              refine c_goto (tgt := 67) C dX11_digest_89 (by decide) ?_
              refine c_lv (lv2 := [(1, .int (iI zz9)), (2, .int (iI (k2 + 1))), (0, .ref a0)]) [1, 0, 2] rfl ?_
              exact ih2  zz9 (k2 + 1)  (by omega)   (by omega) (by omega)
        refine c_lv (lv2 := [(1, .int (iI h1)), (2, .int (iI 0)), (0, .ref a0)]) [1, 0, 2] rfl ?_
        exact Lp2 8 h1 0  (by omega)   (by omega) (by omega)
      · refine c_iload_n (j := 0) C dX11_digest_45 rfl ?_
        refine c_bipush (z := 31) C dX11_digest_46 (by decide) ?_
        refine c_imul C dX11_digest_48 ?_
        obtain ⟨zz10, hzz10, ezz10⟩ := iI_of (iI (h1 * 31))
        refine c_st (st2 := [.int (iI zz10)]) (by rw [ezz10]) ?_
        refine c_aload_n (j := 2) (x := a0) C dX11_digest_49 rfl ?_
        refine c_getr (k := 2) C ck_12 dX11_digest_50 w2_46 (by decide) t_a0 rfl rfl (by decide) rfl rq2 ?_
        refine c_st (st2 := [.ref (sk 4), .int (iI zz10)]) rfl ?_
        refine c_iload_n (j := 1) C dX11_digest_53 rfl ?_
        refine d_callV (As := [.int (iI k)]) (rest := [.int (iI zz10)]) C hM (C_at_4 (a0 := (sk 4)) (i := k) hW hS tsk4 (by omega) ) dX11_digest_54 kV_X11_224 rfl tsk4 rfl rfl (by decide) ck_2 rfl (Nat.le_of_ble_eq_true rfl) ⟨(Nat.le_of_ble_eq_true rfl), (Nat.le_of_ble_eq_true rfl)⟩ hph hph (show 0 + 0 = 0 from rfl) (by decide) (fun rh5 Lh5 clh5 lnh5 ivh5 rvh5 h5 => ?_)
        obtain ⟨f3, rfl, rfl, rfl, rfl, rfl, rfl, rgf3, exf3⟩ := h5
        refine c_st (st2 := [.int (iI f3), .int (iI zz10)]) rfl ?_
        have gf3 : ((0 ≤ k ∧ k < iv (sk 4) 2) ∨ f3 = 0) ∧ ∀ ss, CT iv rv (sk 4) ss → 0 ≤ k → k < iv (sk 4) 2 → f3 = ss k.toNat := exf3
        refine c_iadd C dX11_digest_57 ?_
        obtain ⟨zz11, hzz11, ezz11⟩ := iI_of (iI (zz10 + f3))
        refine c_st (st2 := [.int (iI zz11)]) (by rw [ezz11]) ?_
        refine c_istore_n (lv2 := [(1, .int (iI zz11)), (2, .int (iI k)), (0, .ref a0)]) C dX11_digest_58 (by decide) rfl ?_
        refine c_iinc (z := k) (j := 1) (lv2 := [(2, .int (iI (k + 1))), (1, .int (iI zz11)), (0, .ref a0)]) C dX11_digest_59 rfl (by decide) rfl ?_
        refine c_goto (tgt := 34) C dX11_digest_62 (by decide) ?_
        refine c_lv (lv2 := [(1, .int (iI zz11)), (2, .int (iI (k + 1))), (0, .ref a0)]) [1, 0, 2] rfl ?_
        exact ih1  zz11 (k + 1)  (by omega)   (by omega) (by omega)
  refine c_lv (lv2 := [(1, .int (iI zz3)), (2, .int (iI 0)), (0, .ref a0)]) [1, 0, 2] rfl ?_
  exact Lp1 4003 zz3 0  (by omega)   (by omega) (by omega)
end
section
theorem bz_iff {i zz n : Int} (e : iI i &&& iI n = iI zz) (h : R32 zz) : (iI i &&& iI n = iI 0) ↔ zz = 0 := by rw [e]; exact iI_eq h ⟨by decide, by decide⟩
theorem and1' (x : Int32) : x &&& 1 = 0 ∨ x &&& 1 = 1 := by
  have e : (x &&& 1).toBitVec = (BitVec.ofBool (x.toBitVec.getLsbD 0)).setWidth 32 := by
    rw [Int32.toBitVec_and]; exact BitVec.and_one_eq_setWidth_ofBool_getLsbD
  cases hb : x.toBitVec.getLsbD 0
  · left; apply Int32.toBitVec_inj.mp; rw [e, hb]; rfl
  · right; apply Int32.toBitVec_inj.mp; rw [e, hb]; rfl
theorem and1 {i zz : Int} (e : iI i &&& iI 1 = iI zz) (h : R32 zz) : zz = 0 ∨ zz = 1 := by
  rcases and1' (iI i) with q | q
  · left; exact (iI_eq h ⟨by decide, by decide⟩).mp (e.symm.trans q)
  · right; exact (iI_eq h ⟨by decide, by decide⟩).mp (e.symm.trans q)
theorem or2 {zz w : Int} (h : zz = 0 ∨ zz = 1) (e : iI zz ||| iI 2 = iI w) (hw : R32 w) : w = 2 ∨ w = 3 := by
  rcases h with rfl | rfl
  · left; exact (iI_eq hw ⟨by decide, by decide⟩).mp (e.symm.trans (by decide))
  · right; exact (iI_eq hw ⟨by decide, by decide⟩).mp (e.symm.trans (by decide))
def bz (i : Int) : Prop := iI i &&& iI 1 = iI 0
def b2 (i : Int) : Prop := iI i &&& iI 2 = iI 0
def LLw (iv : Nat → Nat → Int) (rv : Nat → Nat → Option Nat) (a : Nat) (c t : Int) : Prop := t < iv a 9 ∧ ∀ b, rv a 8 = some b → (iI c ^^^ iI (iv b t.toNat)) &&& iI (iv a 10) = iI 0
def LRw (ln : Nat → Nat) (iv : Nat → Nat → Int) (rv : Nat → Nat → Option Nat) (a row : Nat) (t : Int) : Prop := ∀ cb, rv row 2 = some cb → ∀ k : Nat, k < ln cb → LLw iv rv a (iv cb k) (t + k)
def BSw (ln : Nat → Nat) (iv : Nat → Nat → Int) (rv : Nat → Nat → Option Nat) (row : Nat) : Prop := ∀ b, rv row 1 = some b → iv row 0 = 4 ∧ 0 < ln b ∧ 97 ≤ iv b 0 ∧ iv b 0 ≤ 122
def RWx (sk : Nat → Nat) (rv : Nat → Nat → Option Nat) (i x : Int) (row : Nat) : Prop := (bz i ∧ el rv (sk 24) (x - 1).toNat = some row) ∨ (¬ bz i ∧ el rv (sk 25) (x - 1).toNat = some row)
def GD (sk ln : Nat → Nat) (iv : Nat → Nat → Int) (rv : Nat → Nat → Option Nat) (a : Nat) (i t x : Int) : Prop := (x ≤ 0 → b2 i ∧ LLw iv rv a 0 t) ∧ (0 < x → ∀ row, RWx sk rv i x row → LRw ln iv rv a row t ∧ (b2 i ∨ BSw ln iv rv row))
def VL (sk : Nat → Nat) (iv : Nat → Nat → Int) (i x : Int) : Prop := x ≤ 0 ∨ (bz i ∧ x ≤ iv (sk 24) 2) ∨ (¬ bz i ∧ x ≤ iv (sk 25) 2)
section GDS
variable {g : Nat} {sk : Nat → Nat} {L : List Nat} {cl ln : Nat → Nat} {iv iv1 iv2 iv3 : Nat → Nat → Int} {rv : Nat → Nat → Option Nat} {a row row2 c k nb cb : Nat} {i t x z dp f nd zz : Int}
theorem RWx.uni (h : RWx sk rv i x row) (h2 : RWx sk rv i x row2) : row2 = row := by
  rcases h with ⟨q1, q2⟩ | ⟨q1, q2⟩ <;> rcases h2 with ⟨w1, w2⟩ | ⟨w1, w2⟩
  · rw [q2] at w2; cases w2; rfl
  · exact absurd q1 w1
  · exact absurd w1 q1
  · rw [q2] at w2; cases w2; rfl
theorem GD.mk0 (hx : x ≤ 0) (h1 : b2 i) (h2 : LLw iv rv a 0 t) : GD sk ln iv rv a i t x := ⟨fun _ => ⟨h1, h2⟩, fun q => absurd q (by omega)⟩
theorem GD.no0 (hx : x ≤ 0) (h : b2 i → LLw iv rv a 0 t → False) : ¬ GD sk ln iv rv a i t x := fun q => h (q.1 hx).1 (q.1 hx).2
theorem GD.mk1 (hx : 0 < x) (hr : RWx sk rv i x row) (h1 : LRw ln iv rv a row t) (h2 : b2 i ∨ BSw ln iv rv row) : GD sk ln iv rv a i t x := ⟨fun q => absurd hx (by omega), fun _ r2 q => by rw [hr.uni q]; exact ⟨h1, h2⟩⟩
theorem GD.no1 (hx : 0 < x) (hr : RWx sk rv i x row) (h : LRw ln iv rv a row t → (b2 i ∨ BSw ln iv rv row) → False) : ¬ GD sk ln iv rv a i t x := fun q => h (q.2 hx row hr).1 (q.2 hx row hr).2
theorem VL.put (h : VL sk iv i x) (hS : SKL sk L cl) (he : iv1 = up2 iv c k z) (hc : ty L cl c 61) : VL sk iv1 i x := by
  refine hv2 (show ty L cl (sk 24) 24 from ⟨(hS 24 rfl).1, by rw [(hS 24 rfl).2]; rfl⟩) (show ty L cl (sk 25) 25 from ⟨(hS 25 rfl).1, by rw [(hS 25 rfl).2]; rfl⟩) (fun h24 h25 => ?_)
  unfold VL at *
  rw [he, up2_k (ne_ty h24 hc (by decide)), up2_k (ne_ty h25 hc (by decide))]; exact h
theorem VL.zed (h : VL sk iv i x) (e : iI i &&& iI 1 = iI zz) (hz : R32 zz) : x ≤ 0 ∨ (zz = 0 ∧ x ≤ iv (sk 24) 2) ∨ (zz ≠ 0 ∧ x ≤ iv (sk 25) 2) := by
  rcases h with q | ⟨q, w⟩ | ⟨q, w⟩
  · exact Or.inl q
  · exact Or.inr (Or.inl ⟨(bz_iff e hz).mp q, w⟩)
  · exact Or.inr (Or.inr ⟨fun y => q ((bz_iff e hz).mpr y), w⟩)
theorem VL.rowt (h : VL sk iv i x) (hx : 0 < x) (hW : WT g sk L cl ln iv rv) (hS : SKL sk L cl) (hr : RWx sk rv i x row) : ty L cl row 20 := by
  refine hv2 (show ty L cl (sk 24) 24 from ⟨(hS 24 rfl).1, by rw [(hS 24 rfl).2]; rfl⟩) (show ty L cl (sk 25) 25 from ⟨(hS 25 rfl).1, by rw [(hS 25 rfl).2]; rfl⟩) (fun h24 h25 => ?_)
  rcases hr with ⟨q1, q2⟩ | ⟨q1, q2⟩
  · rcases h with w | ⟨_, w⟩ | ⟨w, _⟩
    · omega
    · obtain ⟨b, e1, e2, e3, e4⟩ := hW.ed2 h24 rfl rfl (by omega)
      rw [el_of e1] at q2
      obtain ⟨d, w1, w2⟩ := hW.elem h24 rfl e1 e2 rfl rfl (i := (x - 1).toNat) (by omega)
      rw [q2] at w1; cases w1; exact w2
    · exact absurd q1 w
  · rcases h with w | ⟨w, _⟩ | ⟨_, w⟩
    · omega
    · exact absurd w q1
    · obtain ⟨b, e1, e2, e3, e4⟩ := hW.ed2 h25 rfl rfl (by omega)
      rw [el_of e1] at q2
      obtain ⟨d, w1, w2⟩ := hW.elem h25 rfl e1 e2 rfl rfl (i := (x - 1).toNat) (by omega)
      rw [q2] at w1; cases w1; exact w2
theorem LLw.put (h : LLw iv rv a z t) (hW : WT g sk L cl ln iv rv) (ha : ty L cl a 17) (he : iv1 = up2 iv c k f) (hc : ty L cl c 61) : LLw iv1 rv a z t := by
  have e0 := ne_ty ha hc (by decide)
  refine ⟨by rw [he, up2_k e0]; exact h.1, fun b hb => ?_⟩
  obtain ⟨b2, q1, q2⟩ := hW.ref ha 8 rfl rfl rfl
  rw [q1] at hb; cases hb
  rw [he, up2_k e0, up2_k (ne_ty q2 hc (by decide))]
  exact h.2 _ q1
theorem GD.put (h : GD sk ln iv rv a i t x) (hv : VL sk iv i x) (hW : WT g sk L cl ln iv rv) (hS : SKL sk L cl) (ha : ty L cl a 17) (he : iv1 = up2 iv c k f) (hc : ty L cl c 61) : GD sk ln iv1 rv a i t x := by
  refine ⟨fun q => ⟨(h.1 q).1, (h.1 q).2.put hW ha he hc⟩, fun q row hr => ?_⟩
  have tr := hv.rowt q hW hS hr
  obtain ⟨w1, w2⟩ := h.2 q row hr
  refine ⟨fun cb hb n hn => ?_, ?_⟩
  · obtain ⟨d, q1, q2⟩ := hW.ref tr 2 rfl rfl rfl
    rw [q1] at hb; cases hb
    have e1 : iv1 cb n = iv cb n := by rw [he, up2_k (ne_ty q2 hc (by decide))]
    rw [e1]
    exact (w1 cb q1 n hn).put hW ha he hc
  · rcases w2 with w2 | w2
    · exact Or.inl w2
    · refine Or.inr (fun b hb => ?_)
      obtain ⟨d, q1, q2⟩ := hW.ref tr 1 rfl rfl rfl
      have w3 := w2 b hb
      rw [q1] at hb; cases hb
      rw [he, up2_k (ne_ty tr hc (by decide)), up2_k (ne_ty q2 hc (by decide))]
      exact w3
def WKI (sk : Nat → Nat) (iv : Nat → Nat → Int) (nb cb : Nat) (dp : Int) : Prop := ∀ d : Nat, (d : Int) ≤ dp → 4 * (d : Int) ≤ iv nb d ∧ iv nb d ≤ 403 ∧ -1 ≤ iv cb d ∧ ((d : Int) < dp → 0 ≤ iv cb d) ∧ VL sk iv (iv nb d) (iv cb d)
theorem WKI.init (h1 : iv nb 0 = 0) (h2 : iv cb 0 = -1) : WKI sk iv nb cb 0 := by
  intro d hd
  have e : d = 0 := by omega
  subst e
  rw [h1, h2]
  exact ⟨by decide, by decide, by decide, fun q => absurd q (by decide), Or.inl (by decide)⟩
theorem WKI.back (h : WKI sk iv nb cb dp) : WKI sk iv nb cb (dp + (-1)) := fun d hd => by
  obtain ⟨q1, q2, q3, q4, q5⟩ := h d (by omega)
  exact ⟨q1, q2, q3, fun _ => q4 (by omega), q5⟩
theorem WKI.fr (h : WKI sk iv nb cb dp) (h1 : ∀ d, iv2 nb d = iv nb d) (h2 : ∀ d, iv2 cb d = iv cb d) (h3 : iv2 (sk 24) 2 = iv (sk 24) 2) (h4 : iv2 (sk 25) 2 = iv (sk 25) 2) : WKI sk iv2 nb cb dp := fun d hd => by
  unfold VL; rw [h1, h2, h3, h4]; exact h d hd
theorem WKI.next (h : WKI sk iv nb cb dp) (e1 : iv1 = up2 iv cb dp.toNat f) (e2 : iv2 = up2 iv1 nb (dp + 1).toNat nd) (e3 : iv3 = up2 iv2 cb (dp + 1).toNat (-1)) (hne : nb ≠ cb) (h0 : 0 ≤ dp) (hv : VL sk iv (iv nb dp.toNat) f) (hf : 0 ≤ f) (hn : 4 * (dp + 1) ≤ nd ∧ nd ≤ 403) (n24n : sk 24 ≠ nb) (n24c : sk 24 ≠ cb) (n25n : sk 25 ≠ nb) (n25c : sk 25 ≠ cb) : WKI sk iv3 nb cb (dp + 1) := by
  intro d hd
  refine hv2 (show iv3 (sk 24) 2 = iv (sk 24) 2 from by rw [e3, up2_k n24c, e2, up2_k n24n, e1, up2_k n24c]) (show iv3 (sk 25) 2 = iv (sk 25) 2 from by rw [e3, up2_k n25c, e2, up2_k n25n, e1, up2_k n25c]) (fun s24 s25 => ?_)
  by_cases hl : d = (dp + 1).toNat
  · have a1 : iv3 nb d = nd := by rw [e3, up2_k hne, e2, hl]; exact up2_s
    have a2 : iv3 cb d = -1 := by rw [e3, hl]; exact up2_s
    rw [a1, a2]
    exact ⟨by omega, hn.2, by decide, fun q => absurd q (by omega), Or.inl (by decide)⟩
  · have a1 : iv3 nb d = iv nb d := by rw [e3, up2_k hne, e2, up2_j hl, e1, up2_k hne]
    obtain ⟨q1, q2, q3, q4, q5⟩ := h d (by omega)
    by_cases hm : d = dp.toNat
    · have a2 : iv3 cb d = f := by rw [e3, up2_j hl, e2, up2_k (Ne.symm hne), e1, hm]; exact up2_s
      unfold VL; rw [a1, a2, s24, s25]
      refine ⟨q1, q2, by omega, fun _ => hf, ?_⟩
      have hv2 := hv; unfold VL at hv2; rw [hm]; exact hv2
    · have a2 : iv3 cb d = iv cb d := by rw [e3, up2_j hl, e2, up2_k (Ne.symm hne), e1, up2_j hm]
      unfold VL; rw [a1, a2, s24, s25]
      exact ⟨q1, q2, q3, fun _ => q4 (by omega), q5⟩
end GDS
end
section
set_option maxHeartbeats 4000000 in
set_option maxRecDepth 100000 in
theorem C_bsmall {l : Launch} {G : GT} {mi : Nat} {sk : Nat → Nat} {L : List Nat} {cl ln : Nat → Nat} {iv : Nat → Nat → Int} {rv : Nat → Nat → Option Nat}  {a0 : Nat} (hW : WT (g0 G) sk L cl ln iv rv) (hS : SKL sk L cl) (t_a0 : ty L cl a0 20)  : Mc l G mi (Phi (g0 G) sk) PHM yX5_beginsSmall cX5_beginsSmall 1 (some .boolean) 1 [.ref a0] L cl ln iv rv 0 (fun v L2 cl2 ln2 iv2 rv2 => ∃ f : Int, v = some (.int (iI f)) ∧ L = L2 ∧ cl = cl2 ∧ ln = ln2 ∧ iv = iv2 ∧ rv = rv2 ∧ (f = 0 ∨ f = 1) ∧ (f = 1 ↔ BSw ln iv rv a0)) := by
  refine Mc.mk (by decide) (Nat.le_of_ble_eq_true rfl) ?_
  intro p e s m args below meth c A C hM
  refine hv3 (Phi.le hW hS) (show XT L cl ln L cl ln from XT.refl) (show fT [] L cl iv rv iv rv from fT.refl) (fun hph hX0 hF0 => ?_)
  refine c_aload_n (j := 0) (x := a0) C dX5_beginsSmall_0 rfl ?_
  have ri1 : (-2147483648) ≤ iv a0 0 ∧ iv a0 0 ≤ 2147483647 := hW.int t_a0 0
  refine c_get (k := 0) C ck_6 dX5_beginsSmall_1 w3_135 (by decide) t_a0 rfl rfl (by decide) rfl ?_
  refine c_iconst C dX5_beginsSmall_4 ?_
  refine c_icmp_ne (tgt := 32) C (r32_c (lo := (-2147483648)) (hi := 2147483647) ri1.1 ri1.2 (by decide) (by decide)) ⟨by decide, by decide⟩ dX5_beginsSmall_5 (by decide) (fun c1 => ?_) (fun c1 => ?_)
  · refine c_iconst C dX5_beginsSmall_32 ?_
    obtain ⟨bl, hbl, tbl⟩ := hW.ref t_a0 1 rfl rfl rfl
    have e00 : (iv a0 0 : Int) = iv a0 0 := rfl
    exact c_zret C dX5_beginsSmall_33 rfl (Or.inl rfl) (by decide) (rom0 hph hph (by decide)) ⟨0, rfl, rfl, rfl, rfl, rfl, rfl, (Or.inl rfl), ⟨fun q => absurd q (by decide), fun q => by have q2 := q bl hbl; have q0 : iv bl 0 = iv bl (0 : Int).toNat := rfl; omega⟩⟩
  · refine c_aload_n (j := 0) (x := a0) C dX5_beginsSmall_8 rfl ?_
    obtain ⟨rb1, rq1, trb1⟩ := hW.ref t_a0 1 rfl rfl rfl
    have lnrb1 : 0 ≤ ln rb1 ∧ ln rb1 ≤ 8 := hW.len trb1 rfl
    refine c_getr (k := 1) C ck_6 dX5_beginsSmall_9 w3_138 (by decide) t_a0 rfl rfl (by decide) rfl rq1 ?_
    refine c_st (st2 := [.ref rb1]) rfl ?_
    have ll1 : 0 ≤ ln rb1 ∧ ln rb1 ≤ 8 := hW.len trb1 rfl
    refine c_alenI C dX5_beginsSmall_12 trb1 rfl ?_
    refine c_if_le (tgt := 32) C ⟨by omega, by omega⟩ dX5_beginsSmall_13 (by decide) (fun c2 => ?_) (fun c2 => ?_)
    · refine c_iconst C dX5_beginsSmall_32 ?_
      exact c_zret C dX5_beginsSmall_33 rfl (Or.inl rfl) (by decide) (rom0 hph hph (by decide)) ⟨0, rfl, rfl, rfl, rfl, rfl, rfl, (Or.inl rfl), ⟨fun q => absurd q (by decide), fun q => by have q2 := q rb1 rq1; have q0 : iv rb1 0 = iv rb1 (0 : Int).toNat := rfl; omega⟩⟩
    · refine c_aload_n (j := 0) (x := a0) C dX5_beginsSmall_16 rfl ?_
      refine c_getr (k := 1) C ck_6 dX5_beginsSmall_17 w3_138 (by decide) t_a0 rfl rfl (by decide) rfl rq1 ?_
      refine c_st (st2 := [.ref rb1]) rfl ?_
      refine c_iconst C dX5_beginsSmall_20 ?_
      refine c_iald C dX5_beginsSmall_21 trb1 rfl (by omega) (by omega) (by omega) ?_
      have ri2 : (-2147483648) ≤ iv rb1 ((0 : Int).toNat) ∧ iv rb1 ((0 : Int).toNat) ≤ 2147483647 := hW.int trb1 ((0 : Int).toNat)
      refine c_callSN0 (As := [.int (iI (iv rb1 (0 : Int).toNat))]) (rest := []) C (fun L E => s11_isSmall (iI (iv rb1 (0 : Int).toNat))) dX5_beginsSmall_22 kSN_X5_25 rfl rfl (Nat.le_of_ble_eq_true rfl) ⟨(Nat.le_of_ble_eq_true rfl), (Nat.le_of_ble_eq_true rfl)⟩ (rom0 hph hph (by decide)) ?_
      rcases inn_c (x := iv rb1 (0 : Int).toNat) (lo := 97) (hi := 122) ⟨by omega, by omega⟩ ⟨by decide, by decide⟩ ⟨by decide, by decide⟩ with ⟨hs1a, hs1b, hs1e⟩ | ⟨hs1a, hs1e⟩
      · refine c_st (st2 := [.int (iI 1)]) (by rw [show inn (iI (iv rb1 (0 : Int).toNat)) 97 122 = iI 1 from hs1e]) ?_
        refine c_if_eq (tgt := 32) C ⟨by decide, by decide⟩ dX5_beginsSmall_25 (by decide) (fun z => absurd z (by omega)) (fun _ => ?_)
        refine c_iconst C dX5_beginsSmall_28 ?_
        refine c_goto (tgt := 33) C dX5_beginsSmall_29 (by decide) ?_
        exact c_zret C dX5_beginsSmall_33 rfl (Or.inr rfl) (by decide) (rom0 hph hph (by decide)) ⟨1, rfl, rfl, rfl, rfl, rfl, rfl, (Or.inr rfl), ⟨fun _ b hb => by rw [rq1] at hb; cases hb; have q0 : iv rb1 0 = iv rb1 (0 : Int).toNat := rfl; exact ⟨by omega, by omega, by omega, by omega⟩, fun _ => rfl⟩⟩
      · refine c_st (st2 := [.int (iI 0)]) (by rw [show inn (iI (iv rb1 (0 : Int).toNat)) 97 122 = iI 0 from hs1e]) ?_
        refine c_if_eq (tgt := 32) C ⟨by decide, by decide⟩ dX5_beginsSmall_25 (by decide) (fun _ => ?_) (fun z => absurd z (by omega))
        refine c_iconst C dX5_beginsSmall_32 ?_
        exact c_zret C dX5_beginsSmall_33 rfl (Or.inl rfl) (by decide) (rom0 hph hph (by decide)) ⟨0, rfl, rfl, rfl, rfl, rfl, rfl, (Or.inl rfl), ⟨fun q => absurd q (by decide), fun q => by have q2 := q rb1 rq1; have q0 : iv rb1 0 = iv rb1 (0 : Int).toNat := rfl; omega⟩⟩
set_option maxHeartbeats 4000000 in
set_option maxRecDepth 100000 in
theorem C_looksLike {l : Launch} {G : GT} {mi : Nat} {sk : Nat → Nat} {L : List Nat} {cl ln : Nat → Nat} {iv : Nat → Nat → Int} {rv : Nat → Nat → Option Nat}  {a0 : Nat} {x : Int} {i : Int} (hW : WT (g0 G) sk L cl ln iv rv) (hS : SKL sk L cl) (t_a0 : ty L cl a0 17) (h_x : -2147483648 ≤ x ∧ x ≤ 2147483647) (h_i : -2147483648 ≤ i ∧ i ≤ 2147483647) (hi : 0 ≤ i) : Mc l G mi (Phi (g0 G) sk) PHM yX4_looksLike cX4_looksLike 3 (some .boolean) 0 [.ref a0, .int (iI x), .int (iI i)] L cl ln iv rv 0 (fun v L2 cl2 ln2 iv2 rv2 => ∃ f : Int, v = some (.int (iI f)) ∧ L = L2 ∧ cl = cl2 ∧ ln = ln2 ∧ iv = iv2 ∧ rv = rv2 ∧ (f = 0 ∨ f = 1) ∧ (f = 1 ↔ LLw iv rv a0 x i)) := by
  refine Mc.mk (by decide) (Nat.le_of_ble_eq_true rfl) ?_
  intro p e s m args below meth c A C hM
  refine hv3 (Phi.le hW hS) (show XT L cl ln L cl ln from XT.refl) (show fT [] L cl iv rv iv rv from fT.refl) (fun hph hX0 hF0 => ?_)
  refine c_iload_n (j := 2) C dX4_looksLike_0 rfl ?_
  refine c_aload_n (j := 0) (x := a0) C dX4_looksLike_1 rfl ?_
  have ri1 : 0 ≤ iv a0 9 ∧ iv a0 9 ≤ 100 := hW.int t_a0 9
  refine c_get (k := 9) C ck_5 dX4_looksLike_2 w2_0 (by decide) t_a0 rfl rfl (by decide) rfl ?_
  refine c_icmp_ge (tgt := 28) C ⟨by omega, by omega⟩ (r32_c (lo := 0) (hi := 100) ri1.1 ri1.2 (by decide) (by decide)) dX4_looksLike_5 (by decide) (fun c1 => ?_) (fun c1 => ?_)
  · refine c_iconst C dX4_looksLike_28 ?_
    exact c_zret C dX4_looksLike_29 rfl (Or.inl rfl) (by decide) (rom0 hph hph (by decide)) ⟨0, rfl, rfl, rfl, rfl, rfl, rfl, (Or.inl rfl), ⟨fun q => absurd q (by decide), fun q => absurd q.1 (by omega)⟩⟩
  · refine c_iload_n (j := 1) C dX4_looksLike_8 rfl ?_
    refine c_aload_n (j := 0) (x := a0) C dX4_looksLike_9 rfl ?_
    obtain ⟨rb1, rq1, trb1⟩ := hW.ref t_a0 8 rfl rfl rfl
    have lnrb1 : 100 ≤ ln rb1 ∧ ln rb1 ≤ 100 := hW.len trb1 rfl
    refine c_getr (k := 8) C ck_5 dX4_looksLike_10 w1_239 (by decide) t_a0 rfl rfl (by decide) rfl rq1 ?_
    refine c_st (st2 := [.ref rb1, .int (iI x)]) rfl ?_
    refine c_iload_n (j := 2) C dX4_looksLike_13 rfl ?_
    have ll1 : 100 ≤ ln rb1 ∧ ln rb1 ≤ 100 := hW.len trb1 rfl
    refine c_iald C dX4_looksLike_14 trb1 rfl (by omega) (by omega) (by omega) ?_
    have ri2 : (-2147483648) ≤ iv rb1 i.toNat ∧ iv rb1 i.toNat ≤ 2147483647 := hW.int trb1 i.toNat
    obtain ⟨zz1, hzz1, ezz1⟩ := iI_of (iI x ^^^ iI (iv rb1 i.toNat))
    refine c_ixor (w := iI zz1) C dX4_looksLike_15 ezz1 ?_
    refine c_aload_n (j := 0) (x := a0) C dX4_looksLike_16 rfl ?_
    have ri3 : (-2147483648) ≤ iv a0 10 ∧ iv a0 10 ≤ 2147483647 := hW.int t_a0 10
    refine c_get (k := 10) C ck_5 dX4_looksLike_17 w2_1 (by decide) t_a0 rfl rfl (by decide) rfl ?_
    obtain ⟨zz2, hzz2, ezz2⟩ := iI_of (iI zz1 &&& iI (iv a0 10))
    refine c_iand (w := iI zz2) C dX4_looksLike_20 ezz2 ?_
    refine c_if_ne (tgt := 28) C ⟨by omega, by omega⟩ dX4_looksLike_21 (by decide) (fun c2 => ?_) (fun c2 => ?_)
    · refine c_iconst C dX4_looksLike_28 ?_
      exact c_zret C dX4_looksLike_29 rfl (Or.inl rfl) (by decide) (rom0 hph hph (by decide)) ⟨0, rfl, rfl, rfl, rfl, rfl, rfl, (Or.inl rfl), ⟨fun q => absurd q (by decide), fun q => by have q2 := q.2 rb1 rq1; rw [ezz1] at q2; have q3 := (bz_iff ezz2 hzz2).mp q2; omega⟩⟩
    · refine c_iconst C dX4_looksLike_24 ?_
      refine c_goto (tgt := 29) C dX4_looksLike_25 (by decide) ?_
      exact c_zret C dX4_looksLike_29 rfl (Or.inr rfl) (by decide) (rom0 hph hph (by decide)) ⟨1, rfl, rfl, rfl, rfl, rfl, rfl, (Or.inr rfl), ⟨fun _ => ⟨by omega, fun b hb => by rw [rq1] at hb; cases hb; rw [ezz1, ezz2]; exact congrArg iI (show zz2 = 0 by omega)⟩, fun _ => rfl⟩⟩
set_option maxHeartbeats 4000000 in
set_option maxRecDepth 100000 in
theorem C_looksLikeRow {l : Launch} {G : GT} {mi : Nat} {sk : Nat → Nat} {L : List Nat} {cl ln : Nat → Nat} {iv : Nat → Nat → Int} {rv : Nat → Nat → Option Nat}  {a0 : Nat} {a1 : Nat} {i : Int} (hW : WT (g0 G) sk L cl ln iv rv) (hS : SKL sk L cl) (t_a0 : ty L cl a0 17) (t_a1 : ty L cl a1 20) (h_i : -2147483648 ≤ i ∧ i ≤ 2147483647) (hi : 0 ≤ i ∧ i ≤ 1000) : Mc l G mi (Phi (g0 G) sk) PHM yX4_looksLikeRow cX4_looksLikeRow 4 (some .boolean) 1 [.ref a0, .ref a1, .int (iI i)] L cl ln iv rv 0 (fun v L2 cl2 ln2 iv2 rv2 => ∃ f : Int, v = some (.int (iI f)) ∧ L = L2 ∧ cl = cl2 ∧ ln = ln2 ∧ iv = iv2 ∧ rv = rv2 ∧ (f = 0 ∨ f = 1) ∧ (f = 1 ↔ LRw ln iv rv a0 a1 i)) := by
  refine Mc.mk (by decide) (Nat.le_of_ble_eq_true rfl) ?_
  intro p e s m args below meth c A C hM
  refine hv3 (Phi.le hW hS) (show XT L cl ln L cl ln from XT.refl) (show fT [] L cl iv rv iv rv from fT.refl) (fun hph hX0 hF0 => ?_)
  refine c_iconst C dX4_looksLikeRow_0 ?_
  refine c_istore_n (lv2 := [(3, .int (iI 0)), (0, .ref a0), (1, .ref a1), (2, .int (iI i))]) C dX4_looksLikeRow_1 (by decide) rfl ?_
  have Lp1 : ∀ (nn : Nat) (k : Int) , 5 - k < (nn : Int) → (0 ≤ k ∧ k ≤ 4) → (∀ cb, rv a1 2 = some cb → ∀ j : Nat, (j : Int) < k → LLw iv rv a0 (iv cb j) (i + j)) → cw p l e 1 ((PHM) + 0 - ((Phi (g0 G) sk) ln rv)) s m args below meth c G A 4 (MQ below (Qu G A (Qp G (Phi (g0 G) sk) ((Phi (g0 G) sk) ln rv) 0 (fun v L2 cl2 ln2 iv2 rv2 => ∃ f : Int, v = some (.int (iI f)) ∧ L = L2 ∧ cl = cl2 ∧ ln = ln2 ∧ iv = iv2 ∧ rv = rv2 ∧ (f = 0 ∨ f = 1) ∧ (f = 1 ↔ LRw ln iv rv a0 a1 i)))) args s (((PHM) + 0 - ((Phi (g0 G) sk) ln rv)) / 16) ((PHM) + 0 - ((Phi (g0 G) sk) ln rv)) A) (Phi (g0 G) sk) ((Phi (g0 G) sk) ln rv) L cl ln iv rv 0 2 [(3, .int (iI k)), (0, .ref a0), (1, .ref a1), (2, .int (iI i))] [] := by
    intro nn
    induction nn with
    | zero =>
      intro  k  hm   hk hall
      exact absurd hm (by omega)
    | succ nn ih1 =>
      intro  k  hm   hk hall
      refine c_iload_n (j := 0) C dX4_looksLikeRow_2 rfl ?_
      refine c_aload_n (j := 2) (x := a1) C dX4_looksLikeRow_3 rfl ?_
      obtain ⟨rb1, rq1, trb1⟩ := hW.ref t_a1 2 rfl rfl rfl
      have lnrb1 : 1 ≤ ln rb1 ∧ ln rb1 ≤ 4 := hW.len trb1 rfl
      refine c_getr (k := 2) C ck_6 dX4_looksLikeRow_4 w3_144 (by decide) t_a1 rfl rfl (by decide) rfl rq1 ?_
      refine c_st (st2 := [.ref rb1, .int (iI k)]) rfl ?_
      have ll1 : 1 ≤ ln rb1 ∧ ln rb1 ≤ 4 := hW.len trb1 rfl
      refine c_alenI C dX4_looksLikeRow_7 trb1 rfl ?_
      refine c_icmp_ge (tgt := 35) C (r32_c (lo := 0) (hi := 4) hk.1 hk.2 (by decide) (by decide)) ⟨by omega, by omega⟩ dX4_looksLikeRow_8 (by decide) (fun c1 => ?_) (fun c1 => ?_)
      · refine c_iconst C dX4_looksLikeRow_35 ?_
        exact c_zret C dX4_looksLikeRow_36 rfl (Or.inr rfl) (by decide) (rom0 hph hph (by decide)) ⟨1, rfl, rfl, rfl, rfl, rfl, rfl, (Or.inr rfl), ⟨fun _ cb hb j hj => hall cb hb j (by rw [rq1] at hb; cases hb; omega), fun _ => rfl⟩⟩
      · refine c_aload_n (j := 1) (x := a0) C dX4_looksLikeRow_11 rfl ?_
        refine c_aload_n (j := 2) (x := a1) C dX4_looksLikeRow_12 rfl ?_
        refine c_getr (k := 2) C ck_6 dX4_looksLikeRow_13 w3_144 (by decide) t_a1 rfl rfl (by decide) rfl rq1 ?_
        refine c_st (st2 := [.ref rb1, .ref a0]) rfl ?_
        refine c_iload_n (j := 0) C dX4_looksLikeRow_16 rfl ?_
        refine c_iald C dX4_looksLikeRow_17 trb1 rfl (by omega) (by omega) (by omega) ?_
        have ri1 : (-2147483648) ≤ iv rb1 k.toNat ∧ iv rb1 k.toNat ≤ 2147483647 := hW.int trb1 k.toNat
        refine c_iload_n (j := 3) C dX4_looksLikeRow_18 rfl ?_
        refine c_iload_n (j := 0) C dX4_looksLikeRow_19 rfl ?_
        refine c_iadd C dX4_looksLikeRow_20 ?_
        refine d_callV (As := [.int (iI (iv rb1 k.toNat)), .int (iI (i + k))]) (rest := []) C hM (C_looksLike (a0 := a0) (x := iv rb1 k.toNat) (i := i + k) hW hS t_a0 (by omega) (by omega) (by show 0 ≤ (i + k); omega)) dX4_looksLikeRow_21 kV_X4_106 rfl t_a0 rfl rfl (by decide) ck_5 rfl (Nat.le_of_ble_eq_true rfl) ⟨(Nat.le_of_ble_eq_true rfl), (Nat.le_of_ble_eq_true rfl)⟩ hph hph (show 0 + 0 = 0 from rfl) (by decide) (fun rh1 Lh1 clh1 lnh1 ivh1 rvh1 h1 => ?_)
        obtain ⟨f1, rfl, rfl, rfl, rfl, rfl, rfl, rgf1, exf1⟩ := h1
        refine c_st (st2 := [.int (iI f1)]) rfl ?_
        have gf1 : f1 = 1 ↔ LLw iv rv a0 (iv rb1 k.toNat) (i + k) := exf1
        refine c_if_ne (tgt := 29) C ⟨by omega, by omega⟩ dX4_looksLikeRow_24 (by decide) (fun c2 => ?_) (fun c2 => ?_)
        · refine c_iinc (z := k) (j := 0) (lv2 := [(3, .int (iI (k + 1))), (0, .ref a0), (1, .ref a1), (2, .int (iI i))]) C dX4_looksLikeRow_29 rfl (by decide) rfl ?_
          refine c_goto (tgt := 2) C dX4_looksLikeRow_32 (by decide) ?_
          refine c_lv (lv2 := [(3, .int (iI (k + 1))), (0, .ref a0), (1, .ref a1), (2, .int (iI i))]) [0, 1, 2, 3] rfl ?_
          exact ih1  (k + 1)  (by omega)   (by omega) (fun cb hb j hj => by
              by_cases e : (j : Int) < k
              · exact hall cb hb j e
              · have e2 : j = k.toNat := by omega
                rw [rq1] at hb; cases hb; subst e2; rw [show i + ((k.toNat : Nat) : Int) = i + k by omega]; exact gf1.mp (by omega))
        · refine c_iconst C dX4_looksLikeRow_27 ?_
          exact c_zret C dX4_looksLikeRow_28 rfl (Or.inl rfl) (by decide) (rom0 hph hph (by decide)) ⟨0, rfl, rfl, rfl, rfl, rfl, rfl, (Or.inl rfl), ⟨fun q => absurd q (by decide), fun q => by have q2 := q rb1 rq1 k.toNat (by omega); rw [show i + ((k.toNat : Nat) : Int) = i + k by omega] at q2; have q3 := gf1.mpr q2; omega⟩⟩
  refine c_lv (lv2 := [(3, .int (iI 0)), (0, .ref a0), (1, .ref a1), (2, .int (iI i))]) [0, 1, 2, 3] rfl ?_
  exact Lp1 7 0  (by omega)   (by omega) (fun _ _ j hj => absurd hj (by omega))
end
section
theorem up2_up {a : Nat → Nat → Int} {k i : Nat} {z z2 : Int} : up2 (up2 a k i z) k i z2 = up2 a k i z2 := by
  funext x y
  unfold up2
  by_cases h : x = k
  · by_cases h2 : y = i
    · simp only [h, h2, if_true]
    · simp only [h, h2, if_true, if_false]
  · simp only [h, if_false]
set_option maxHeartbeats 4000000 in
set_option maxRecDepth 100000 in
theorem C_spellNext {l : Launch} {G : GT} {mi : Nat} {sk : Nat → Nat} {L : List Nat} {cl ln : Nat → Nat} {iv : Nat → Nat → Int} {rv : Nat → Nat → Option Nat}  {a0 : Nat} {n : Int} (hW : WT (g0 G) sk L cl ln iv rv) (hS : SKL sk L cl) (t_a0 : ty L cl a0 14) (h_n : -2147483648 ≤ n ∧ n ≤ 2147483647)  : Mc l G mi (Phi (g0 G) sk) PHM yX8_spellNext cX8_spellNext 3 (some .boolean) 3 [.ref a0, .int (iI n)] L cl ln iv rv 0 (fun v L2 cl2 ln2 iv2 rv2 => ∃ f : Int, v = some (.int (iI f)) ∧ L = L2 ∧ cl = cl2 ∧ ln = ln2 ∧ rv = rv2 ∧ fT [14, 58] L cl iv rv iv2 rv2 ∧ WT (g0 G) sk L2 cl2 ln2 iv2 rv2 ∧ (f = 0 ∨ f = 1) ∧ (True)) := by
  refine Mc.mk (by decide) (Nat.le_of_ble_eq_true rfl) ?_
  intro p e s m args below meth c A C hM
  refine hv3 (Phi.le hW hS) (show XT L cl ln L cl ln from XT.refl) (show fT [14, 58] L cl iv rv iv rv from fT.refl) (fun hph hX0 hF0 => ?_)
  refine c_aload_n (j := 0) (x := a0) C dX8_spellNext_0 rfl ?_
  have ri1 : 0 ≤ iv a0 7 ∧ iv a0 7 ≤ 6 := hW.int t_a0 7
  refine c_get (k := 7) C ck_9 dX8_spellNext_1 w1_111 (by decide) t_a0 rfl rfl (by decide) rfl ?_
  refine c_iconst C dX8_spellNext_4 ?_
  refine c_isub C dX8_spellNext_5 ?_
  refine c_istore_n (lv2 := [(2, .int (iI ((iv a0 7) - 1))), (0, .ref a0), (1, .int (iI n))]) C dX8_spellNext_6 (by decide) rfl ?_
  have Lp1 : ∀ (nn : Nat) (k : Int) (ivb1 : Nat → Nat → Int) , k + 2 < (nn : Int) → WT (g0 G) sk L cl ln ivb1 rv → fT [14, 58] L cl iv rv ivb1 rv → (-1 ≤ k ∧ k ≤ 5) → cw p l e 3 ((PHM) + 0 - ((Phi (g0 G) sk) ln rv)) s m args below meth c G A 3 (MQ below (Qu G A (Qp G (Phi (g0 G) sk) ((Phi (g0 G) sk) ln rv) 0 (fun v L2 cl2 ln2 iv2 rv2 => ∃ f : Int, v = some (.int (iI f)) ∧ L = L2 ∧ cl = cl2 ∧ ln = ln2 ∧ rv = rv2 ∧ fT [14, 58] L cl iv rv iv2 rv2 ∧ WT (g0 G) sk L2 cl2 ln2 iv2 rv2 ∧ (f = 0 ∨ f = 1) ∧ (True)))) args s (((PHM) + 0 - ((Phi (g0 G) sk) ln rv)) / 16) ((PHM) + 0 - ((Phi (g0 G) sk) ln rv)) A) (Phi (g0 G) sk) ((Phi (g0 G) sk) ln rv) L cl ln ivb1 rv 0 7 [(2, .int (iI k)), (0, .ref a0), (1, .int (iI n))] [] := by
    intro nn
    induction nn with
    | zero =>
      intro  k ivb1 hm Wb1 Fb1  hk
      exact absurd hm (by omega)
    | succ nn ih1 =>
      intro  k ivb1 hm Wb1 Fb1  hk
      refine c_iload_n (j := 0) C dX8_spellNext_7 rfl ?_
      refine c_if_lt (tgt := 49) C (r32_c (lo := (-1)) (hi := 5) hk.1 hk.2 (by decide) (by decide)) dX8_spellNext_8 (by decide) (fun c1 => ?_) (fun c1 => ?_)
      · refine c_aload_n (j := 1) (x := a0) C dX8_spellNext_49 rfl ?_
        refine c_iload_n (j := 2) C dX8_spellNext_50 rfl ?_
        have ri2 : 0 ≤ ivb1 a0 5 ∧ ivb1 a0 5 ≤ 126 := Wb1.int t_a0 5
        refine d_callV (As := [.int (iI n)]) (rest := []) C hM (C_lengthen (a0 := a0) (n := n) Wb1 hS t_a0 (by omega) ) dX8_spellNext_51 kV_X8_91 rfl t_a0 rfl rfl (by decide) ck_9 rfl (Nat.le_of_ble_eq_true rfl) ⟨(Nat.le_of_ble_eq_true rfl), (Nat.le_of_ble_eq_true rfl)⟩ hph hph (show 0 + 0 = 0 from rfl) (by decide) (fun rh1 Lh1 clh1 lnh1 ivh1 rvh1 h1 => ?_)
        obtain ⟨f1, rfl, rfl, rfl, rfl, rfl, fl1, W1, rgf1, exf1⟩ := h1
        have F1 := Fb1.call hX0 fl1 rfl
        refine c_st (st2 := [.int (iI f1)]) rfl ?_
        refine hv2 (show 0 ≤ ivh1 a0 5 ∧ ivh1 a0 5 ≤ 126 from W1.int t_a0 5) (show ivh1 a0 5 = ivb1 a0 5 from exf1) (fun ri3 gf1 => ?_)
        exact c_zret C dX8_spellNext_54 rfl (by omega) (by decide) (rom0 hph hph (by decide)) ⟨f1, rfl, rfl, rfl, rfl, rfl, F1, W1, (by omega), trivial⟩
      · refine c_aload_n (j := 1) (x := a0) C dX8_spellNext_11 rfl ?_
        obtain ⟨rb1, rq1, trb1⟩ := Wb1.ref t_a0 6 rfl rfl rfl
        have lnrb1 : 6 ≤ ln rb1 ∧ ln rb1 ≤ 6 := Wb1.len trb1 rfl
        refine c_getr (k := 6) C ck_9 dX8_spellNext_12 w1_110 (by decide) t_a0 rfl rfl (by decide) rfl rq1 ?_
        refine c_st (st2 := [.ref rb1]) rfl ?_
        refine c_iload_n (j := 0) C dX8_spellNext_15 rfl ?_
        refine c_dup2 C dX8_spellNext_16 rfl rfl ?_
        have ll1 : 6 ≤ ln rb1 ∧ ln rb1 ≤ 6 := Wb1.len trb1 rfl
        refine c_iald C dX8_spellNext_17 trb1 rfl (by omega) (by omega) (by omega) ?_
        have ri4 : 0 ≤ ivb1 rb1 k.toNat ∧ ivb1 rb1 k.toNat ≤ 125 := Wb1.int trb1 k.toNat
        refine c_iconst C dX8_spellNext_18 ?_
        refine c_iadd C dX8_spellNext_19 ?_
        have ri5 : 0 ≤ ivb1 a0 5 ∧ ivb1 a0 5 ≤ 126 := Wb1.int t_a0 5
        by_cases hsp : (ivb1 rb1 k.toNat) + 1 ≤ 125
        · refine c_iast (x := (ivb1 rb1 k.toNat) + 1) C dX8_spellNext_20 trb1 rfl (by omega) (by omega) (by omega) (fun iv1 pq1 => ?_)
          refine hv2 (Wb1.puti pq1 trb1 (show 0 ≤ ((ivb1 rb1 k.toNat) + 1) ∧ ((ivb1 rb1 k.toNat) + 1) ≤ 125 by omega) rfl) (Fb1.puti hX0 pq1 trb1 rfl) (fun W2 F2 => ?_)
          refine c_aload_n (j := 1) (x := a0) C dX8_spellNext_21 rfl ?_
          refine c_getr (k := 6) C ck_9 dX8_spellNext_22 w1_110 (by decide) t_a0 rfl rfl (by decide) rfl rq1 ?_
          refine c_st (st2 := [.ref rb1]) rfl ?_
          refine c_iload_n (j := 0) C dX8_spellNext_25 rfl ?_
          refine c_iald C dX8_spellNext_26 trb1 rfl (by omega) (by omega) (by omega) ?_
          refine hv2 (show 0 ≤ iv1 rb1 k.toNat ∧ iv1 rb1 k.toNat ≤ 125 from W2.int trb1 k.toNat) (show iv1 rb1 k.toNat = (ivb1 rb1 k.toNat) + 1 from by rw [pq1]; exact up2_s) (fun ri6 ie5 => ?_)
          refine c_aload_n (j := 1) (x := a0) C dX8_spellNext_27 rfl ?_
          refine hv2 (show 0 ≤ iv1 a0 5 ∧ iv1 a0 5 ≤ 126 from W2.int t_a0 5) (show iv1 a0 5 = ivb1 a0 5 from by rw [pq1]; exact up2_k (ne_ty t_a0 trb1 (by decide))) (fun ri7 ie6 => ?_)
          refine c_get (k := 5) C ck_9 dX8_spellNext_28 w1_109 (by decide) t_a0 rfl rfl (by decide) rfl ?_
          refine c_icmp_ge (tgt := 36) C (r32_c (lo := 0) (hi := 125) ri6.1 ri6.2 (by decide) (by decide)) (r32_c (lo := 0) (hi := 126) ri7.1 ri7.2 (by decide) (by decide)) dX8_spellNext_31 (by decide) (fun c2 => ?_) (fun c2 => ?_)
          · refine c_aload_n (j := 1) (x := a0) C dX8_spellNext_36 rfl ?_
            refine c_getr (k := 6) C ck_9 dX8_spellNext_37 w1_110 (by decide) t_a0 rfl rfl (by decide) rfl rq1 ?_
            refine c_st (st2 := [.ref rb1]) rfl ?_
            refine c_iload_n (j := 0) C dX8_spellNext_40 rfl ?_
            refine c_iconst C dX8_spellNext_41 ?_
            refine c_iast (x := 0) C dX8_spellNext_42 trb1 rfl (by omega) (by omega) (by omega) (fun iv2 pq2 => ?_)
            refine hv2 (W2.puti pq2 trb1 (show 0 ≤ 0 ∧ 0 ≤ 125 by omega) rfl) (F2.puti hX0 pq2 trb1 rfl) (fun W3 F3 => ?_)
            refine c_iinc (z := k) (j := 0) (lv2 := [(2, .int (iI (k + (-1)))), (0, .ref a0), (1, .int (iI n))]) C dX8_spellNext_43 rfl (by decide) rfl ?_
            refine c_goto (tgt := 7) C dX8_spellNext_46 (by decide) ?_
            refine c_lv (lv2 := [(2, .int (iI (k + (-1)))), (0, .ref a0), (1, .int (iI n))]) [0, 1, 2] rfl ?_
            exact ih1  (k + (-1)) _ (by omega) W3 F3  (by omega)
          · refine c_iconst C dX8_spellNext_34 ?_
            exact c_zret C dX8_spellNext_35 rfl (Or.inr rfl) (by decide) (rom0 hph hph (by decide)) ⟨1, rfl, rfl, rfl, rfl, rfl, F2, W2, (Or.inr rfl), trivial⟩
        · refine c_iast (x := (ivb1 rb1 k.toNat) + 1) C dX8_spellNext_20 trb1 rfl (by omega) (by omega) (by omega) (fun iv3 pq3 => ?_)
          refine hv2 (show iv3 rb1 k.toNat = (ivb1 rb1 k.toNat) + 1 from by rw [pq3]; exact up2_s) (show iv3 a0 5 = ivb1 a0 5 from by rw [pq3]; exact up2_k (ne_ty t_a0 trb1 (by decide))) (fun sb1 sb2 => ?_)
          refine c_aload_n (j := 1) (x := a0) C dX8_spellNext_21 rfl ?_
          refine c_getr (k := 6) C ck_9 dX8_spellNext_22 w1_110 (by decide) t_a0 rfl rfl (by decide) rfl rq1 ?_
          refine c_st (st2 := [.ref rb1]) rfl ?_
          refine c_iload_n (j := 0) C dX8_spellNext_25 rfl ?_
          refine c_iald C dX8_spellNext_26 trb1 rfl (by omega) (by omega) (by omega) ?_
          refine c_aload_n (j := 1) (x := a0) C dX8_spellNext_27 rfl ?_
          refine c_get (k := 5) C ck_9 dX8_spellNext_28 w1_109 (by decide) t_a0 rfl rfl (by decide) rfl ?_
          refine c_icmp_ge (tgt := 36) C ⟨by omega, by omega⟩ ⟨by omega, by omega⟩ dX8_spellNext_31 (by decide) (fun _ => ?_) (fun z => absurd z (by omega))
          refine c_aload_n (j := 1) (x := a0) C dX8_spellNext_36 rfl ?_
          refine c_getr (k := 6) C ck_9 dX8_spellNext_37 w1_110 (by decide) t_a0 rfl rfl (by decide) rfl rq1 ?_
          refine c_st (st2 := [.ref rb1]) rfl ?_
          refine c_iload_n (j := 0) C dX8_spellNext_40 rfl ?_
          refine c_iconst C dX8_spellNext_41 ?_
          refine c_iast (x := 0) C dX8_spellNext_42 trb1 rfl (by omega) (by omega) (by omega) (fun iv4 pq4 => ?_)
          have sb3 : iv4 = up2 ivb1 rb1 k.toNat 0 := by rw [pq4, pq3]; exact up2_up
          refine hv2 (Wb1.puti sb3 trb1 (show 0 ≤ 0 ∧ 0 ≤ 125 by omega) rfl) (Fb1.puti hX0 sb3 trb1 rfl) (fun W4 F4 => ?_)
          refine c_iinc (z := k) (j := 0) (lv2 := [(2, .int (iI (k + (-1)))), (0, .ref a0), (1, .int (iI n))]) C dX8_spellNext_43 rfl (by decide) rfl ?_
          refine c_goto (tgt := 7) C dX8_spellNext_46 (by decide) ?_
          refine c_lv (lv2 := [(2, .int (iI (k + (-1)))), (0, .ref a0), (1, .int (iI n))]) [0, 1, 2] rfl ?_
          exact ih1  (k + (-1)) _ (by omega) W4 F4  (by omega)
  refine c_lv (lv2 := [(2, .int (iI ((iv a0 7) - 1))), (0, .ref a0), (1, .int (iI n))]) [0, 1, 2] rfl ?_
  exact Lp1 10 ((iv a0 7) - 1) _ (by omega) hW hF0  (by omega)
end
section
set_option maxHeartbeats 4000000 in
set_option maxRecDepth 100000 in
theorem C_unreadable {l : Launch} {G : GT} {mi : Nat} {sk : Nat → Nat} {L : List Nat} {cl ln : Nat → Nat} {iv : Nat → Nat → Int} {rv : Nat → Nat → Option Nat}  {a0 : Nat} {i : Int} {n : Int} {lim : Int} (hW : WT (g0 G) sk L cl ln iv rv) (hS : SKL sk L cl) (t_a0 : ty L cl a0 1) (h_i : -2147483648 ≤ i ∧ i ≤ 2147483647) (h_n : -2147483648 ≤ n ∧ n ≤ 2147483647) (h_lim : -2147483648 ≤ lim ∧ lim ≤ 2147483647) (hmr : MRK sk cl iv rv) : Mc l G mi (Phi (g0 G) sk) PHM yX11_unreadable cX11_unreadable 7 (some .int) 10 [.ref a0, .int (iI i), .int (iI n), .int (iI lim)] L cl ln iv rv 0 (fun v L2 cl2 ln2 iv2 rv2 => ∃ f : Int, v = some (.int (iI f)) ∧ XT L cl ln L2 cl2 ln2 ∧ fT [1, 4, 34, 14, 56, 57, 58, 15, 50, 51, 52, 53, 54, 55, 8, 38, 9, 39, 16, 10, 40, 24, 1002, 25, 1003, 6, 36, 7, 37] L cl iv rv iv2 rv2 ∧ WT (g0 G) sk L2 cl2 ln2 iv2 rv2 ∧ (-2147483648 ≤ f ∧ f ≤ 2147483647) ∧ (True) ∧ iv2 a0 11 = iv a0 11 ∧ iv2 a0 12 = iv a0 12 ∧ iv2 a0 13 = iv a0 13 ∧ iv2 a0 14 = iv a0 14 ∧ iv2 a0 15 = iv a0 15 ∧ iv2 a0 16 = iv a0 16 ∧ rv2 a0 9 = rv a0 9 ∧ rv2 a0 10 = rv a0 10) := by
  refine Mc.mk (by decide) (Nat.le_of_ble_eq_true rfl) ?_
  intro p e s m args below meth c A C hM
  refine hv21 (Phi.le hW hS) (show ty L cl (sk 2) 2 from ⟨(hS 2 rfl).1, by rw [(hS 2 rfl).2]; rfl⟩) (show ty L cl (sk 3) 3 from ⟨(hS 3 rfl).1, by rw [(hS 3 rfl).2]; rfl⟩) (show ty L cl (sk 4) 4 from ⟨(hS 4 rfl).1, by rw [(hS 4 rfl).2]; rfl⟩) (show ty L cl (sk 5) 5 from ⟨(hS 5 rfl).1, by rw [(hS 5 rfl).2]; rfl⟩) (show ty L cl (sk 6) 6 from ⟨(hS 6 rfl).1, by rw [(hS 6 rfl).2]; rfl⟩) (show ty L cl (sk 7) 7 from ⟨(hS 7 rfl).1, by rw [(hS 7 rfl).2]; rfl⟩) (show ty L cl (sk 8) 8 from ⟨(hS 8 rfl).1, by rw [(hS 8 rfl).2]; rfl⟩) (show ty L cl (sk 9) 9 from ⟨(hS 9 rfl).1, by rw [(hS 9 rfl).2]; rfl⟩) (show ty L cl (sk 10) 10 from ⟨(hS 10 rfl).1, by rw [(hS 10 rfl).2]; rfl⟩) (show ty L cl (sk 13) 13 from ⟨(hS 13 rfl).1, by rw [(hS 13 rfl).2]; rfl⟩) (show ty L cl (sk 14) 14 from ⟨(hS 14 rfl).1, by rw [(hS 14 rfl).2]; rfl⟩) (show ty L cl (sk 15) 15 from ⟨(hS 15 rfl).1, by rw [(hS 15 rfl).2]; rfl⟩) (show ty L cl (sk 16) 16 from ⟨(hS 16 rfl).1, by rw [(hS 16 rfl).2]; rfl⟩) (show ty L cl (sk 17) 17 from ⟨(hS 17 rfl).1, by rw [(hS 17 rfl).2]; rfl⟩) (show ty L cl (sk 22) 22 from ⟨(hS 22 rfl).1, by rw [(hS 22 rfl).2]; rfl⟩) (show ty L cl (sk 23) 23 from ⟨(hS 23 rfl).1, by rw [(hS 23 rfl).2]; rfl⟩) (show ty L cl (sk 24) 24 from ⟨(hS 24 rfl).1, by rw [(hS 24 rfl).2]; rfl⟩) (show ty L cl (sk 25) 25 from ⟨(hS 25 rfl).1, by rw [(hS 25 rfl).2]; rfl⟩) (show XT L cl ln L cl ln from XT.refl) (show fT [1, 4, 34, 14, 56, 57, 58, 15, 50, 51, 52, 53, 54, 55, 8, 38, 9, 39, 16, 10, 40, 24, 1002, 25, 1003, 6, 36, 7, 37] L cl iv rv iv rv from fT.refl) (fun hph tsk2 tsk3 tsk4 tsk5 tsk6 tsk7 tsk8 tsk9 tsk10 tsk13 tsk14 tsk15 tsk16 tsk17 tsk22 tsk23 tsk24 tsk25 hX0 hF0 => ?_)
  refine c_iload_n (j := 2) C dX11_unreadable_0 rfl ?_
  refine c_iconst C dX11_unreadable_1 ?_
  refine c_icmp_lt (tgt := 23) C ⟨by omega, by omega⟩ ⟨by decide, by decide⟩ dX11_unreadable_2 (by decide) (fun c1 => ?_) (fun c1 => ?_)
  · refine c_aload_n (j := 0) (x := a0) C dX11_unreadable_23 rfl ?_
    refine c_bipush (z := 6) C dX11_unreadable_24 (by decide) ?_
    refine d_callV (As := [.int (iI 6)]) (rest := []) C hM (C_refuse (a0 := a0) (x := 6) hW hS t_a0 ⟨by decide, by decide⟩ ) dX11_unreadable_26 kV_X11_102 rfl t_a0 rfl rfl (by decide) ck_12 rfl (Nat.le_of_ble_eq_true rfl) ⟨(Nat.le_of_ble_eq_true rfl), (Nat.le_of_ble_eq_true rfl)⟩ hph hph (show 0 + 0 = 0 from rfl) (by decide) (fun rh1 Lh1 clh1 lnh1 ivh1 rvh1 h1 => ?_)
    obtain ⟨f1, rfl, rfl, rfl, rfl, rfl, fl1, W1, rgf1, exf1, kp11f1, kp12f1, kp13f1, kp14f1, kp15f1, kp16f1⟩ := h1
    refine hv8 (show 1 ≤ iv a0 11 ∧ iv a0 11 ≤ 100 from hW.int t_a0 11) (show 1 ≤ iv a0 12 ∧ iv a0 12 ≤ 50 from hW.int t_a0 12) (show (-2147483648) ≤ iv a0 13 ∧ iv a0 13 ≤ 2147483647 from hW.int t_a0 13) (show (-2147483648) ≤ iv a0 14 ∧ iv a0 14 ≤ 2147483647 from hW.int t_a0 14) (show (-2147483648) ≤ iv a0 15 ∧ iv a0 15 ≤ 2147483647 from hW.int t_a0 15) (show (-2147483648) ≤ iv a0 16 ∧ iv a0 16 ≤ 2147483647 from hW.int t_a0 16) (hF0.call hX0 fl1 rfl) (MRK.call hmr hW hS XT.refl fl1 rfl rfl) (fun ri1 ri2 ri3 ri4 ri5 ri6 F1 mr1 => ?_)
    refine c_st (st2 := [.int (iI f1)]) rfl ?_
    refine hv13 (show ivh1 a0 11 = iv a0 11 from kp11f1) (show ivh1 a0 12 = iv a0 12 from kp12f1) (show ivh1 a0 13 = iv a0 13 from kp13f1) (show ivh1 a0 14 = iv a0 14 from kp14f1) (show ivh1 a0 15 = iv a0 15 from kp15f1) (show ivh1 a0 16 = iv a0 16 from kp16f1) (show f1 = -1 from exf1) (show 1 ≤ ivh1 a0 11 ∧ ivh1 a0 11 ≤ 100 from W1.int t_a0 11) (show 1 ≤ ivh1 a0 12 ∧ ivh1 a0 12 ≤ 50 from W1.int t_a0 12) (show (-2147483648) ≤ ivh1 a0 13 ∧ ivh1 a0 13 ≤ 2147483647 from W1.int t_a0 13) (show (-2147483648) ≤ ivh1 a0 14 ∧ ivh1 a0 14 ≤ 2147483647 from W1.int t_a0 14) (show (-2147483648) ≤ ivh1 a0 15 ∧ ivh1 a0 15 ≤ 2147483647 from W1.int t_a0 15) (show (-2147483648) ≤ ivh1 a0 16 ∧ ivh1 a0 16 ≤ 2147483647 from W1.int t_a0 16) (fun gk11f1 gk12f1 gk13f1 gk14f1 gk15f1 gk16f1 gf1 ri7 ri8 ri9 ri10 ri11 ri12 => ?_)
    exact c_iret C dX11_unreadable_29 rfl (by decide) (rom0 hph hph (by decide)) ⟨f1, rfl, hX0, F1, W1, ⟨by omega, by omega⟩, trivial, gk11f1, gk12f1, gk13f1, gk14f1, gk15f1, gk16f1, rfl, rfl⟩
  · refine c_iload_n (j := 2) C dX11_unreadable_5 rfl ?_
    refine c_bipush (z := 6) C dX11_unreadable_6 (by decide) ?_
    refine c_icmp_gt (tgt := 23) C ⟨by omega, by omega⟩ ⟨by decide, by decide⟩ dX11_unreadable_8 (by decide) (fun c2 => ?_) (fun c2 => ?_)
    · refine c_aload_n (j := 0) (x := a0) C dX11_unreadable_23 rfl ?_
      refine c_bipush (z := 6) C dX11_unreadable_24 (by decide) ?_
      refine d_callV (As := [.int (iI 6)]) (rest := []) C hM (C_refuse (a0 := a0) (x := 6) hW hS t_a0 ⟨by decide, by decide⟩ ) dX11_unreadable_26 kV_X11_102 rfl t_a0 rfl rfl (by decide) ck_12 rfl (Nat.le_of_ble_eq_true rfl) ⟨(Nat.le_of_ble_eq_true rfl), (Nat.le_of_ble_eq_true rfl)⟩ hph hph (show 0 + 0 = 0 from rfl) (by decide) (fun rh2 Lh2 clh2 lnh2 ivh2 rvh2 h2 => ?_)
      obtain ⟨f2, rfl, rfl, rfl, rfl, rfl, fl2, W2, rgf2, exf2, kp11f2, kp12f2, kp13f2, kp14f2, kp15f2, kp16f2⟩ := h2
      refine hv8 (show 1 ≤ iv a0 11 ∧ iv a0 11 ≤ 100 from hW.int t_a0 11) (show 1 ≤ iv a0 12 ∧ iv a0 12 ≤ 50 from hW.int t_a0 12) (show (-2147483648) ≤ iv a0 13 ∧ iv a0 13 ≤ 2147483647 from hW.int t_a0 13) (show (-2147483648) ≤ iv a0 14 ∧ iv a0 14 ≤ 2147483647 from hW.int t_a0 14) (show (-2147483648) ≤ iv a0 15 ∧ iv a0 15 ≤ 2147483647 from hW.int t_a0 15) (show (-2147483648) ≤ iv a0 16 ∧ iv a0 16 ≤ 2147483647 from hW.int t_a0 16) (hF0.call hX0 fl2 rfl) (MRK.call hmr hW hS XT.refl fl2 rfl rfl) (fun ri13 ri14 ri15 ri16 ri17 ri18 F2 mr2 => ?_)
      refine c_st (st2 := [.int (iI f2)]) rfl ?_
      refine hv13 (show ivh2 a0 11 = iv a0 11 from kp11f2) (show ivh2 a0 12 = iv a0 12 from kp12f2) (show ivh2 a0 13 = iv a0 13 from kp13f2) (show ivh2 a0 14 = iv a0 14 from kp14f2) (show ivh2 a0 15 = iv a0 15 from kp15f2) (show ivh2 a0 16 = iv a0 16 from kp16f2) (show f2 = -1 from exf2) (show 1 ≤ ivh2 a0 11 ∧ ivh2 a0 11 ≤ 100 from W2.int t_a0 11) (show 1 ≤ ivh2 a0 12 ∧ ivh2 a0 12 ≤ 50 from W2.int t_a0 12) (show (-2147483648) ≤ ivh2 a0 13 ∧ ivh2 a0 13 ≤ 2147483647 from W2.int t_a0 13) (show (-2147483648) ≤ ivh2 a0 14 ∧ ivh2 a0 14 ≤ 2147483647 from W2.int t_a0 14) (show (-2147483648) ≤ ivh2 a0 15 ∧ ivh2 a0 15 ≤ 2147483647 from W2.int t_a0 15) (show (-2147483648) ≤ ivh2 a0 16 ∧ ivh2 a0 16 ≤ 2147483647 from W2.int t_a0 16) (fun gk11f2 gk12f2 gk13f2 gk14f2 gk15f2 gk16f2 gf2 ri19 ri20 ri21 ri22 ri23 ri24 => ?_)
      exact c_iret C dX11_unreadable_29 rfl (by decide) (rom0 hph hph (by decide)) ⟨f2, rfl, hX0, F2, W2, ⟨by omega, by omega⟩, trivial, gk11f2, gk12f2, gk13f2, gk14f2, gk15f2, gk16f2, rfl, rfl⟩
    · refine c_iload_n (j := 3) C dX11_unreadable_11 rfl ?_
      refine c_iconst C dX11_unreadable_12 ?_
      refine c_icmp_lt (tgt := 23) C ⟨by omega, by omega⟩ ⟨by decide, by decide⟩ dX11_unreadable_13 (by decide) (fun c3 => ?_) (fun c3 => ?_)
      · refine c_aload_n (j := 0) (x := a0) C dX11_unreadable_23 rfl ?_
        refine c_bipush (z := 6) C dX11_unreadable_24 (by decide) ?_
        refine d_callV (As := [.int (iI 6)]) (rest := []) C hM (C_refuse (a0 := a0) (x := 6) hW hS t_a0 ⟨by decide, by decide⟩ ) dX11_unreadable_26 kV_X11_102 rfl t_a0 rfl rfl (by decide) ck_12 rfl (Nat.le_of_ble_eq_true rfl) ⟨(Nat.le_of_ble_eq_true rfl), (Nat.le_of_ble_eq_true rfl)⟩ hph hph (show 0 + 0 = 0 from rfl) (by decide) (fun rh3 Lh3 clh3 lnh3 ivh3 rvh3 h3 => ?_)
        obtain ⟨f3, rfl, rfl, rfl, rfl, rfl, fl3, W3, rgf3, exf3, kp11f3, kp12f3, kp13f3, kp14f3, kp15f3, kp16f3⟩ := h3
        refine hv8 (show 1 ≤ iv a0 11 ∧ iv a0 11 ≤ 100 from hW.int t_a0 11) (show 1 ≤ iv a0 12 ∧ iv a0 12 ≤ 50 from hW.int t_a0 12) (show (-2147483648) ≤ iv a0 13 ∧ iv a0 13 ≤ 2147483647 from hW.int t_a0 13) (show (-2147483648) ≤ iv a0 14 ∧ iv a0 14 ≤ 2147483647 from hW.int t_a0 14) (show (-2147483648) ≤ iv a0 15 ∧ iv a0 15 ≤ 2147483647 from hW.int t_a0 15) (show (-2147483648) ≤ iv a0 16 ∧ iv a0 16 ≤ 2147483647 from hW.int t_a0 16) (hF0.call hX0 fl3 rfl) (MRK.call hmr hW hS XT.refl fl3 rfl rfl) (fun ri25 ri26 ri27 ri28 ri29 ri30 F3 mr3 => ?_)
        refine c_st (st2 := [.int (iI f3)]) rfl ?_
        refine hv13 (show ivh3 a0 11 = iv a0 11 from kp11f3) (show ivh3 a0 12 = iv a0 12 from kp12f3) (show ivh3 a0 13 = iv a0 13 from kp13f3) (show ivh3 a0 14 = iv a0 14 from kp14f3) (show ivh3 a0 15 = iv a0 15 from kp15f3) (show ivh3 a0 16 = iv a0 16 from kp16f3) (show f3 = -1 from exf3) (show 1 ≤ ivh3 a0 11 ∧ ivh3 a0 11 ≤ 100 from W3.int t_a0 11) (show 1 ≤ ivh3 a0 12 ∧ ivh3 a0 12 ≤ 50 from W3.int t_a0 12) (show (-2147483648) ≤ ivh3 a0 13 ∧ ivh3 a0 13 ≤ 2147483647 from W3.int t_a0 13) (show (-2147483648) ≤ ivh3 a0 14 ∧ ivh3 a0 14 ≤ 2147483647 from W3.int t_a0 14) (show (-2147483648) ≤ ivh3 a0 15 ∧ ivh3 a0 15 ≤ 2147483647 from W3.int t_a0 15) (show (-2147483648) ≤ ivh3 a0 16 ∧ ivh3 a0 16 ≤ 2147483647 from W3.int t_a0 16) (fun gk11f3 gk12f3 gk13f3 gk14f3 gk15f3 gk16f3 gf3 ri31 ri32 ri33 ri34 ri35 ri36 => ?_)
        exact c_iret C dX11_unreadable_29 rfl (by decide) (rom0 hph hph (by decide)) ⟨f3, rfl, hX0, F3, W3, ⟨by omega, by omega⟩, trivial, gk11f3, gk12f3, gk13f3, gk14f3, gk15f3, gk16f3, rfl, rfl⟩
      · refine c_iload_n (j := 3) C dX11_unreadable_16 rfl ?_
        refine c_sipush (z := 5000) C dX11_unreadable_17 (by decide) ?_
        refine c_icmp_le (tgt := 30) C ⟨by omega, by omega⟩ ⟨by decide, by decide⟩ dX11_unreadable_20 (by decide) (fun c4 => ?_) (fun c4 => ?_)
        · refine c_aload_n (j := 0) (x := a0) C dX11_unreadable_30 rfl ?_
          obtain ⟨rb1, rq1, trb1⟩ := hW.ref t_a0 4 rfl rfl rfl
          have erb1 := hW.sk trb1 (by decide) rfl
          subst erb1
          refine c_getr (k := 4) C ck_12 dX11_unreadable_31 w2_48 (by decide) t_a0 rfl rfl (by decide) rfl rq1 ?_
          refine c_st (st2 := [.ref (sk 13)]) rfl ?_
          refine c_iload_n (j := 1) C dX11_unreadable_34 rfl ?_
          refine d_callV (As := [.int (iI i)]) (rest := []) C hM (C_whole (a0 := (sk 13)) (i := i) hW hS tsk13 (by omega) hmr) dX11_unreadable_35 kV_X11_231 rfl tsk13 rfl rfl (by decide) ck_11 rfl (Nat.le_of_ble_eq_true rfl) ⟨(Nat.le_of_ble_eq_true rfl), (Nat.le_of_ble_eq_true rfl)⟩ hph hph (show 0 + 0 = 0 from rfl) (by decide) (fun rh4 Lh4 clh4 lnh4 ivh4 rvh4 h4 => ?_)
          obtain ⟨f4, rfl, rfl, rfl, rfl, rfl, rfl, rgf4, exf4⟩ := h4
          refine c_st (st2 := [(va_rf f4)]) rfl ?_
          refine c_astorer (r := f4) (lv2 := [(4, (va_rf f4)), (0, .ref a0), (1, .int (iI i)), (2, .int (iI n)), (3, .int (iI lim))]) C dX11_unreadable_38 (by decide) rfl ?_
          refine c_aloadr (j := 0) (r := f4) C dX11_unreadable_40 rfl ?_
          refine c_ifnonnull (r := f4) (tgt := 51) C dX11_unreadable_42 (by decide) (fun ob1 oq1 => ?_) (fun oq1 => ?_)
          · subst oq1
            have tob1 := rgf4 ob1 rfl
            refine c_lv (lv2 := [(4, .ref ob1), (0, .ref a0), (1, .int (iI i)), (2, .int (iI n)), (3, .int (iI lim))]) [0, 1, 2, 3, 4] rfl ?_
            refine c_st (st2 := []) rfl ?_
            refine c_aload_n (j := 1) (x := a0) C dX11_unreadable_51 rfl ?_
            obtain ⟨rb2, rq2, trb2⟩ := hW.ref t_a0 7 rfl rfl rfl
            have erb2 := hW.sk trb2 (by decide) rfl
            subst erb2
            refine c_getr (k := 7) C ck_12 dX11_unreadable_52 w2_51 (by decide) t_a0 rfl rfl (by decide) rfl rq2 ?_
            refine c_st (st2 := [.ref (sk 16)]) rfl ?_
            refine c_aload (j := 0) (x := ob1) C dX11_unreadable_55 rfl ?_
            refine d_callV (As := [.ref ob1]) (rest := []) C hM (C_gather (a0 := (sk 16)) (a1 := ob1) hW hS tsk16 tob1  ) dX11_unreadable_57 kV_X11_331 rfl tsk16 rfl rfl (by decide) ck_4 rfl (Nat.le_of_ble_eq_true rfl) ⟨(Nat.le_of_ble_eq_true rfl), (Nat.le_of_ble_eq_true rfl)⟩ hph hph (show 0 + 0 = 0 from rfl) (by decide) (fun rh5 Lh5 clh5 lnh5 ivh5 rvh5 h5 => ?_)
            obtain ⟨rfl, xl5, fl5, W5, exf5⟩ := h5
            refine hv4 (hF0.call hX0 fl5 rfl) (MRK.call hmr hW hS xl5 fl5 rfl rfl) (hX0.trans xl5) (xl5.skl hS) (fun F4 mr4 X1 sk1 => ?_)
            refine c_st (st2 := []) rfl ?_
            refine c_aload_n (j := 1) (x := a0) C dX11_unreadable_60 rfl ?_
            have ty1 := xl5.ty t_a0
            obtain ⟨rb3, rq3, trb3⟩ := W5.ref ty1 5 rfl rfl rfl
            have erb3 := W5.sk trb3 (by decide) rfl
            subst erb3
            refine c_getr (k := 5) C ck_12 dX11_unreadable_61 w2_49 (by decide) ty1 rfl rfl (by decide) rfl rq3 ?_
            refine c_st (st2 := [.ref (sk 14)]) rfl ?_
            refine c_aload_n (j := 1) (x := a0) C dX11_unreadable_64 rfl ?_
            have re1 : rvh5 a0 7 = rv a0 7 := (fl5.r t_a0 rfl 7)
            rw [rq2] at re1
            refine c_getr (k := 7) C ck_12 dX11_unreadable_65 w2_51 (by decide) ty1 rfl rfl (by decide) rfl re1 ?_
            refine c_st (st2 := [.ref (sk 16), .ref (sk 14)]) rfl ?_
            refine c_aload (j := 0) (x := ob1) C dX11_unreadable_68 rfl ?_
            refine hv2 (xl5.ty tob1) (show ivh5 ob1 0 = iv ob1 0 from fl5.i tob1 rfl 0) (fun ty2 ie19 => ?_)
            have ri37 : (-2147483648) ≤ ivh5 ob1 0 ∧ ivh5 ob1 0 ≤ 2147483647 := W5.int ty2 0
            refine c_get (k := 0) C ck_10 dX11_unreadable_70 w2_176 (by decide) ty2 rfl rfl (by decide) rfl ?_
            refine c_iconst C dX11_unreadable_73 ?_
            refine c_icmp_ne (tgt := 81) C (r32_c (lo := (-2147483648)) (hi := 2147483647) ri37.1 ri37.2 (by decide) (by decide)) ⟨by decide, by decide⟩ dX11_unreadable_74 (by decide) (fun c5 => ?_) (fun c5 => ?_)
            · refine c_iconst C dX11_unreadable_81 ?_
              refine hv4 (xl5.ty tsk14) (xl5.ty tsk16) (show ivh5 (sk 14) 7 = iv (sk 14) 7 from fl5.i tsk14 rfl 7) (Phi.le W5 sk1) (fun ty3 ty4 ie20 pl1 => ?_)
              have ri38 : 0 ≤ ivh5 (sk 14) 7 ∧ ivh5 (sk 14) 7 ≤ 6 := W5.int ty3 7
              refine d_callV (As := [.ref (sk 16), .int (iI 0)]) (rest := []) C hM (C_gatherAlphabet (a0 := (sk 14)) (a1 := (sk 16)) (g := 0) W5 sk1 ty3 ty4 ⟨by decide, by decide⟩ ) dX11_unreadable_82 kV_X11_385 rfl ty3 rfl rfl (by decide) ck_9 rfl (Nat.le_of_ble_eq_true rfl) ⟨(Nat.le_of_ble_eq_true rfl), (Nat.le_of_ble_eq_true rfl)⟩ hph pl1 (show 0 + 0 = 0 from rfl) (by decide) (fun rh6 Lh6 clh6 lnh6 ivh6 rvh6 h6 => ?_)
              obtain ⟨rfl, rfl, rfl, rfl, rfl, fl6, W6, exf6⟩ := h6
              refine hv2 (F4.call X1 fl6 rfl) (MRK.call mr4 W5 sk1 XT.refl fl6 rfl rfl) (fun F5 mr5 => ?_)
              refine c_st (st2 := []) rfl ?_
              refine hv2 (show 0 ≤ ivh6 (sk 14) 7 ∧ ivh6 (sk 14) 7 ≤ 6 from W6.int ty3 7) (show ivh6 (sk 14) 7 = ivh5 (sk 14) 7 from exf6) (fun ri39 gf6 => ?_)
              refine c_aload_n (j := 1) (x := a0) C dX11_unreadable_85 rfl ?_
              refine c_getr (k := 5) C ck_12 dX11_unreadable_86 w2_49 (by decide) ty1 rfl rfl (by decide) rfl rq3 ?_
              refine c_st (st2 := [.ref (sk 14)]) rfl ?_
              refine c_iload_n (j := 3) C dX11_unreadable_89 rfl ?_
              refine d_callV (As := [.int (iI n)]) (rest := []) C hM (C_startSpelling (a0 := (sk 14)) (n := n) W6 sk1 ty3 (by omega) ) dX11_unreadable_90 kV_X11_389 rfl ty3 rfl rfl (by decide) ck_9 rfl (Nat.le_of_ble_eq_true rfl) ⟨(Nat.le_of_ble_eq_true rfl), (Nat.le_of_ble_eq_true rfl)⟩ hph pl1 (show 0 + 0 = 0 from rfl) (by decide) (fun rh7 Lh7 clh7 lnh7 ivh7 rvh7 h7 => ?_)
              obtain ⟨f7, rfl, rfl, rfl, rfl, rfl, fl7, W7, rgf7, exf7⟩ := h7
              refine hv2 (F5.call X1 fl7 rfl) (MRK.call mr5 W6 sk1 XT.refl fl7 rfl rfl) (fun F6 mr6 => ?_)
              refine c_st (st2 := [.int (iI f7)]) rfl ?_
              refine c_istore (lv2 := [(5, .int (iI f7)), (4, .ref ob1), (0, .ref a0), (1, .int (iI i)), (2, .int (iI n)), (3, .int (iI lim))]) C dX11_unreadable_93 (by decide) rfl ?_
              refine c_iconst C dX11_unreadable_95 ?_
              refine c_istore (lv2 := [(6, .int (iI 0)), (5, .int (iI f7)), (4, .ref ob1), (0, .ref a0), (1, .int (iI i)), (2, .int (iI n)), (3, .int (iI lim))]) C dX11_unreadable_96 (by decide) rfl ?_
              have Lp1 : ∀ (nn : Nat) (ok k : Int) (Lb1 : List Nat) (clb1 lnb1 : Nat → Nat) (ivb1 : Nat → Nat → Int) (rvb1 : Nat → Nat → Option Nat) , 5002 - k < (nn : Int) → XT L cl ln Lb1 clb1 lnb1 → WT (g0 G) sk Lb1 clb1 lnb1 ivb1 rvb1 → fT [1, 4, 34, 14, 56, 57, 58, 15, 50, 51, 52, 53, 54, 55, 8, 38, 9, 39, 16, 10, 40, 24, 1002, 25, 1003, 6, 36, 7, 37] L cl iv rv ivb1 rvb1 → (ok = 0 ∨ ok = 1) → (0 ≤ k ∧ k ≤ 5001) → (ivb1 a0 11 = iv a0 11) → (ivb1 a0 12 = iv a0 12) → (ivb1 a0 13 = iv a0 13) → (ivb1 a0 14 = iv a0 14) → (ivb1 a0 15 = iv a0 15) → (ivb1 a0 16 = iv a0 16) → (rvb1 a0 9 = rv a0 9) → (rvb1 a0 10 = rv a0 10) → cw p l e 10 ((PHM) + 0 - ((Phi (g0 G) sk) ln rv)) s m args below meth c G A 7 (MQ below (Qu G A (Qp G (Phi (g0 G) sk) ((Phi (g0 G) sk) ln rv) 0 (fun v L2 cl2 ln2 iv2 rv2 => ∃ f : Int, v = some (.int (iI f)) ∧ XT L cl ln L2 cl2 ln2 ∧ fT [1, 4, 34, 14, 56, 57, 58, 15, 50, 51, 52, 53, 54, 55, 8, 38, 9, 39, 16, 10, 40, 24, 1002, 25, 1003, 6, 36, 7, 37] L cl iv rv iv2 rv2 ∧ WT (g0 G) sk L2 cl2 ln2 iv2 rv2 ∧ (-2147483648 ≤ f ∧ f ≤ 2147483647) ∧ (True) ∧ iv2 a0 11 = iv a0 11 ∧ iv2 a0 12 = iv a0 12 ∧ iv2 a0 13 = iv a0 13 ∧ iv2 a0 14 = iv a0 14 ∧ iv2 a0 15 = iv a0 15 ∧ iv2 a0 16 = iv a0 16 ∧ rv2 a0 9 = rv a0 9 ∧ rv2 a0 10 = rv a0 10))) args s (((PHM) + 0 - ((Phi (g0 G) sk) ln rv)) / 16) ((PHM) + 0 - ((Phi (g0 G) sk) ln rv)) A) (Phi (g0 G) sk) ((Phi (g0 G) sk) ln rv) Lb1 clb1 lnb1 ivb1 rvb1 0 98 [(5, .int (iI ok)), (6, .int (iI k)), (4, .ref ob1), (0, .ref a0), (1, .int (iI i)), (2, .int (iI n)), (3, .int (iI lim))] [] := by
                intro nn
                induction nn with
                | zero =>
                  intro  ok k Lb1 clb1 lnb1 ivb1 rvb1 hm Xb1 Wb1 Fb1  hok hk hkp11 hkp12 hkp13 hkp14 hkp15 hkp16 hkr9 hkr10
                  have skb1 := Xb1.skl hS
                  exact absurd hm (by omega)
                | succ nn ih1 =>
                  intro  ok k Lb1 clb1 lnb1 ivb1 rvb1 hm Xb1 Wb1 Fb1  hok hk hkp11 hkp12 hkp13 hkp14 hkp15 hkp16 hkr9 hkr10
                  refine hv2 (Xb1.skl hS) (MRK.call hmr hW hS Xb1 Fb1 rfl rfl) (fun skb1 mrb1 => ?_)
                  refine c_iload (j := 0) C dX11_unreadable_98 rfl ?_
                  refine c_if_eq (tgt := 200) C (r32_01 hok) dX11_unreadable_100 (by decide) (fun c6 => ?_) (fun c6 => ?_)
                  · clear hok
                    refine c_aload_n (j := 3) (x := a0) C dX11_unreadable_200 rfl ?_
                    refine c_iconst C dX11_unreadable_201 ?_
                    refine hv2 (Xb1.ty t_a0) (Phi.le Wb1 skb1) (fun ty5 pl2 => ?_)
                    refine d_callV (As := [.int (iI 0)]) (rest := []) C hM (C_done (a0 := a0) (x := 0) Wb1 skb1 ty5 ⟨by decide, by decide⟩ ) dX11_unreadable_202 kV_X11_109 rfl ty5 rfl rfl (by decide) ck_12 rfl (Nat.le_of_ble_eq_true rfl) ⟨(Nat.le_of_ble_eq_true rfl), (Nat.le_of_ble_eq_true rfl)⟩ hph pl2 (show 0 + 0 = 0 from rfl) (by decide) (fun rh8 Lh8 clh8 lnh8 ivh8 rvh8 h8 => ?_)
                    obtain ⟨f8, rfl, rfl, rfl, rfl, rfl, fl8, W8, rgf8, exf8, kp11f8, kp12f8, kp13f8, kp14f8, kp15f8, kp16f8⟩ := h8
                    refine hv8 (show 1 ≤ ivb1 a0 11 ∧ ivb1 a0 11 ≤ 100 from Wb1.int ty5 11) (show 1 ≤ ivb1 a0 12 ∧ ivb1 a0 12 ≤ 50 from Wb1.int ty5 12) (show (-2147483648) ≤ ivb1 a0 13 ∧ ivb1 a0 13 ≤ 2147483647 from Wb1.int ty5 13) (show (-2147483648) ≤ ivb1 a0 14 ∧ ivb1 a0 14 ≤ 2147483647 from Wb1.int ty5 14) (show (-2147483648) ≤ ivb1 a0 15 ∧ ivb1 a0 15 ≤ 2147483647 from Wb1.int ty5 15) (show (-2147483648) ≤ ivb1 a0 16 ∧ ivb1 a0 16 ≤ 2147483647 from Wb1.int ty5 16) (Fb1.call Xb1 fl8 rfl) (MRK.call mrb1 Wb1 skb1 XT.refl fl8 rfl rfl) (fun ri40 ri41 ri42 ri43 ri44 ri45 F7 mr7 => ?_)
                    refine c_st (st2 := [.int (iI f8)]) rfl ?_
                    refine hv13 (show ivh8 a0 11 = ivb1 a0 11 from kp11f8) (show ivh8 a0 12 = ivb1 a0 12 from kp12f8) (show ivh8 a0 13 = ivb1 a0 13 from kp13f8) (show ivh8 a0 14 = ivb1 a0 14 from kp14f8) (show ivh8 a0 15 = ivb1 a0 15 from kp15f8) (show ivh8 a0 16 = ivb1 a0 16 from kp16f8) (show f8 = (0 : Int) from exf8) (show 1 ≤ ivh8 a0 11 ∧ ivh8 a0 11 ≤ 100 from W8.int ty5 11) (show 1 ≤ ivh8 a0 12 ∧ ivh8 a0 12 ≤ 50 from W8.int ty5 12) (show (-2147483648) ≤ ivh8 a0 13 ∧ ivh8 a0 13 ≤ 2147483647 from W8.int ty5 13) (show (-2147483648) ≤ ivh8 a0 14 ∧ ivh8 a0 14 ≤ 2147483647 from W8.int ty5 14) (show (-2147483648) ≤ ivh8 a0 15 ∧ ivh8 a0 15 ≤ 2147483647 from W8.int ty5 15) (show (-2147483648) ≤ ivh8 a0 16 ∧ ivh8 a0 16 ≤ 2147483647 from W8.int ty5 16) (fun gk11f8 gk12f8 gk13f8 gk14f8 gk15f8 gk16f8 gf8 ri46 ri47 ri48 ri49 ri50 ri51 => ?_)
                    exact c_iret C dX11_unreadable_205 rfl (by decide) (rom0 hph pl2 (by decide)) ⟨f8, rfl, Xb1, F7, W8, ⟨by omega, by omega⟩, trivial, (gk11f8.trans hkp11), (gk12f8.trans hkp12), (gk13f8.trans hkp13), (gk14f8.trans hkp14), (gk15f8.trans hkp15), (gk16f8.trans hkp16), (show rvb1 a0 9 = rv a0 9 from hkr9), (show rvb1 a0 10 = rv a0 10 from hkr10)⟩
                  · replace hok := (hok.resolve_left c6)
                    refine c_iload (j := 1) C dX11_unreadable_103 rfl ?_
                    refine c_sipush (z := 5000) C dX11_unreadable_105 (by decide) ?_
                    refine c_icmp_gt (tgt := 200) C (r32_c (lo := 0) (hi := 5001) hk.1 hk.2 (by decide) (by decide)) ⟨by decide, by decide⟩ dX11_unreadable_108 (by decide) (fun c7 => ?_) (fun c7 => ?_)
                    · refine c_aload_n (j := 3) (x := a0) C dX11_unreadable_200 rfl ?_
                      refine c_iconst C dX11_unreadable_201 ?_
                      refine hv2 (Xb1.ty t_a0) (Phi.le Wb1 skb1) (fun ty6 pl3 => ?_)
                      refine d_callV (As := [.int (iI 0)]) (rest := []) C hM (C_done (a0 := a0) (x := 0) Wb1 skb1 ty6 ⟨by decide, by decide⟩ ) dX11_unreadable_202 kV_X11_109 rfl ty6 rfl rfl (by decide) ck_12 rfl (Nat.le_of_ble_eq_true rfl) ⟨(Nat.le_of_ble_eq_true rfl), (Nat.le_of_ble_eq_true rfl)⟩ hph pl3 (show 0 + 0 = 0 from rfl) (by decide) (fun rh9 Lh9 clh9 lnh9 ivh9 rvh9 h9 => ?_)
                      obtain ⟨f9, rfl, rfl, rfl, rfl, rfl, fl9, W9, rgf9, exf9, kp11f9, kp12f9, kp13f9, kp14f9, kp15f9, kp16f9⟩ := h9
                      refine hv8 (show 1 ≤ ivb1 a0 11 ∧ ivb1 a0 11 ≤ 100 from Wb1.int ty6 11) (show 1 ≤ ivb1 a0 12 ∧ ivb1 a0 12 ≤ 50 from Wb1.int ty6 12) (show (-2147483648) ≤ ivb1 a0 13 ∧ ivb1 a0 13 ≤ 2147483647 from Wb1.int ty6 13) (show (-2147483648) ≤ ivb1 a0 14 ∧ ivb1 a0 14 ≤ 2147483647 from Wb1.int ty6 14) (show (-2147483648) ≤ ivb1 a0 15 ∧ ivb1 a0 15 ≤ 2147483647 from Wb1.int ty6 15) (show (-2147483648) ≤ ivb1 a0 16 ∧ ivb1 a0 16 ≤ 2147483647 from Wb1.int ty6 16) (Fb1.call Xb1 fl9 rfl) (MRK.call mrb1 Wb1 skb1 XT.refl fl9 rfl rfl) (fun ri52 ri53 ri54 ri55 ri56 ri57 F8 mr8 => ?_)
                      refine c_st (st2 := [.int (iI f9)]) rfl ?_
                      refine hv13 (show ivh9 a0 11 = ivb1 a0 11 from kp11f9) (show ivh9 a0 12 = ivb1 a0 12 from kp12f9) (show ivh9 a0 13 = ivb1 a0 13 from kp13f9) (show ivh9 a0 14 = ivb1 a0 14 from kp14f9) (show ivh9 a0 15 = ivb1 a0 15 from kp15f9) (show ivh9 a0 16 = ivb1 a0 16 from kp16f9) (show f9 = (0 : Int) from exf9) (show 1 ≤ ivh9 a0 11 ∧ ivh9 a0 11 ≤ 100 from W9.int ty6 11) (show 1 ≤ ivh9 a0 12 ∧ ivh9 a0 12 ≤ 50 from W9.int ty6 12) (show (-2147483648) ≤ ivh9 a0 13 ∧ ivh9 a0 13 ≤ 2147483647 from W9.int ty6 13) (show (-2147483648) ≤ ivh9 a0 14 ∧ ivh9 a0 14 ≤ 2147483647 from W9.int ty6 14) (show (-2147483648) ≤ ivh9 a0 15 ∧ ivh9 a0 15 ≤ 2147483647 from W9.int ty6 15) (show (-2147483648) ≤ ivh9 a0 16 ∧ ivh9 a0 16 ≤ 2147483647 from W9.int ty6 16) (fun gk11f9 gk12f9 gk13f9 gk14f9 gk15f9 gk16f9 gf9 ri58 ri59 ri60 ri61 ri62 ri63 => ?_)
                      exact c_iret C dX11_unreadable_205 rfl (by decide) (rom0 hph pl3 (by decide)) ⟨f9, rfl, Xb1, F8, W9, ⟨by omega, by omega⟩, trivial, (gk11f9.trans hkp11), (gk12f9.trans hkp12), (gk13f9.trans hkp13), (gk14f9.trans hkp14), (gk15f9.trans hkp15), (gk16f9.trans hkp16), (show rvb1 a0 9 = rv a0 9 from hkr9), (show rvb1 a0 10 = rv a0 10 from hkr10)⟩
                    · refine c_iload (j := 1) C dX11_unreadable_111 rfl ?_
                      refine c_iload_n (j := 6) C dX11_unreadable_113 rfl ?_
                      refine c_icmp_lt (tgt := 124) C (r32_c (lo := 0) (hi := 5001) hk.1 hk.2 (by decide) (by decide)) ⟨by omega, by omega⟩ dX11_unreadable_114 (by decide) (fun c8 => ?_) (fun c8 => ?_)
                      · refine c_aload_n (j := 3) (x := a0) C dX11_unreadable_124 rfl ?_
                        have ty7 := Xb1.ty t_a0
                        obtain ⟨rb4, rq4, trb4⟩ := Wb1.ref ty7 5 rfl rfl rfl
                        have erb4 := Wb1.sk trb4 (by decide) rfl
                        subst erb4
                        refine c_getr (k := 5) C ck_12 dX11_unreadable_125 w2_49 (by decide) ty7 rfl rfl (by decide) rfl rq4 ?_
                        refine c_st (st2 := [.ref (sk 14)]) rfl ?_
                        refine c_aload_n (j := 3) (x := a0) C dX11_unreadable_128 rfl ?_
                        obtain ⟨rb5, rq5, trb5⟩ := Wb1.ref ty7 6 rfl rfl rfl
                        have erb5 := Wb1.sk trb5 (by decide) rfl
                        subst erb5
                        refine c_getr (k := 6) C ck_12 dX11_unreadable_129 w2_50 (by decide) ty7 rfl rfl (by decide) rfl rq5 ?_
                        refine c_st (st2 := [.ref (sk 15), .ref (sk 14)]) rfl ?_
                        refine hv3 (Xb1.ty tsk14) (Xb1.ty tsk15) (Phi.le Wb1 skb1) (fun ty8 ty9 pl4 => ?_)
                        refine d_callV (As := [.ref (sk 15)]) (rest := []) C hM (C_spell (a0 := (sk 14)) (a1 := (sk 15)) Wb1 skb1 ty8 ty9  ) dX11_unreadable_132 kV_X11_392 rfl ty8 rfl rfl (by decide) ck_9 rfl (Nat.le_of_ble_eq_true rfl) ⟨(Nat.le_of_ble_eq_true rfl), (Nat.le_of_ble_eq_true rfl)⟩ hph pl4 (show 0 + 0 = 0 from rfl) (by decide) (fun rh10 Lh10 clh10 lnh10 ivh10 rvh10 h10 => ?_)
                        obtain ⟨rfl, rfl, rfl, rfl, rfl, fl10, W10, exf10⟩ := h10
                        refine hv2 (Fb1.call Xb1 fl10 rfl) (MRK.call mrb1 Wb1 skb1 XT.refl fl10 rfl rfl) (fun F9 mr9 => ?_)
                        refine c_st (st2 := []) rfl ?_
                        refine c_aload_n (j := 3) (x := a0) C dX11_unreadable_135 rfl ?_
                        refine c_getr (k := 6) C ck_12 dX11_unreadable_136 w2_50 (by decide) ty7 rfl rfl (by decide) rfl rq5 ?_
                        refine c_st (st2 := [.ref (sk 15)]) rfl ?_
                        refine c_aload (j := 2) (x := ob1) C dX11_unreadable_139 rfl ?_
                        refine hv2 (Xb1.ty tob1) (show 0 ≤ ivh10 (sk 15) 4 ∧ ivh10 (sk 15) 4 ≤ 500 from W10.int ty9 4) (fun ty10 ri64 => ?_)
                        refine d_callV (As := [.ref ob1]) (rest := []) C hM (C_setBy (a0 := (sk 15)) (a1 := ob1) W10 skb1 ty9 ty10  ) dX11_unreadable_141 kV_X11_253 rfl ty9 rfl rfl (by decide) ck_7 rfl (Nat.le_of_ble_eq_true rfl) ⟨(Nat.le_of_ble_eq_true rfl), (Nat.le_of_ble_eq_true rfl)⟩ hph pl4 (show 0 + 0 = 0 from rfl) (by decide) (fun rh11 Lh11 clh11 lnh11 ivh11 rvh11 h11 => ?_)
                        obtain ⟨f11, rfl, rfl, rfl, rfl, rfl, fl11, W11, rgf11, exf11⟩ := h11
                        refine hv2 (F9.call Xb1 fl11 rfl) (MRK.call mr9 W10 skb1 XT.refl fl11 rfl rfl) (fun F10 mr10 => ?_)
                        refine c_st (st2 := [.int (iI f11)]) rfl ?_
                        refine hv3 (show 0 ≤ ivh11 (sk 15) 4 ∧ ivh11 (sk 15) 4 ≤ 500 from W11.int ty9 4) (show 0 ≤ ivh11 (sk 15) 7 ∧ ivh11 (sk 15) 7 ≤ 100000 from W11.int ty9 7) (show (f11 = 0 ∨ f11 = 6 ∨ f11 = 7) ∧ ivh11 (sk 15) 4 = ivh10 (sk 15) 4 ∧ (f11 = 0 → ivh11 (sk 15) 7 ≤ 200) from exf11) (fun ri65 ri66 gf11 => ?_)
                        refine c_if_ne (tgt := 184) C (r32_067 gf11.1) dX11_unreadable_144 (by decide) (fun c9 => ?_) (fun c9 => ?_)
                        · replace gf11 := (And.intro (gf11.1.resolve_left c9) (And.intro gf11.2.1 trivial))
                          refine c_aload_n (j := 3) (x := a0) C dX11_unreadable_184 rfl ?_
                          refine c_getr (k := 5) C ck_12 dX11_unreadable_185 w2_49 (by decide) ty7 rfl rfl (by decide) rfl rq4 ?_
                          refine c_st (st2 := [.ref (sk 14)]) rfl ?_
                          refine c_iload_n (j := 5) C dX11_unreadable_188 rfl ?_
                          refine d_callV (As := [.int (iI n)]) (rest := []) C hM (C_spellNext (a0 := (sk 14)) (n := n) W11 skb1 ty8 (by omega) ) dX11_unreadable_189 kV_X11_403 rfl ty8 rfl rfl (by decide) ck_9 rfl (Nat.le_of_ble_eq_true rfl) ⟨(Nat.le_of_ble_eq_true rfl), (Nat.le_of_ble_eq_true rfl)⟩ hph pl4 (show 0 + 0 = 0 from rfl) (by decide) (fun rh12 Lh12 clh12 lnh12 ivh12 rvh12 h12 => ?_)
                          obtain ⟨f12, rfl, rfl, rfl, rfl, rfl, fl12, W12, rgf12, exf12⟩ := h12
                          refine hv2 (F10.call Xb1 fl12 rfl) (MRK.call mr10 W11 skb1 XT.refl fl12 rfl rfl) (fun F11 mr11 => ?_)
                          refine c_st (st2 := [.int (iI f12)]) rfl ?_
                          refine c_istore (lv2 := [(5, .int (iI f12)), (6, .int (iI k)), (4, .ref ob1), (0, .ref a0), (1, .int (iI i)), (2, .int (iI n)), (3, .int (iI lim))]) C dX11_unreadable_192 (by decide) rfl ?_
                          refine c_iinc (z := k) (j := 1) (lv2 := [(6, .int (iI (k + 1))), (5, .int (iI f12)), (4, .ref ob1), (0, .ref a0), (1, .int (iI i)), (2, .int (iI n)), (3, .int (iI lim))]) C dX11_unreadable_194 rfl (by decide) rfl ?_
                          refine c_goto (tgt := 98) C dX11_unreadable_197 (by decide) ?_
                          refine hv24 (show 1 ≤ ivh12 a0 11 ∧ ivh12 a0 11 ≤ 100 from W12.int ty7 11) (show ivh12 a0 11 = ivh11 a0 11 from fl12.i ty7 rfl 11) (show ivh11 a0 11 = ivh10 a0 11 from fl11.i ty7 rfl 11) (show ivh10 a0 11 = ivb1 a0 11 from fl10.i ty7 rfl 11) (show 1 ≤ ivh12 a0 12 ∧ ivh12 a0 12 ≤ 50 from W12.int ty7 12) (show ivh12 a0 12 = ivh11 a0 12 from fl12.i ty7 rfl 12) (show ivh11 a0 12 = ivh10 a0 12 from fl11.i ty7 rfl 12) (show ivh10 a0 12 = ivb1 a0 12 from fl10.i ty7 rfl 12) (show (-2147483648) ≤ ivh12 a0 13 ∧ ivh12 a0 13 ≤ 2147483647 from W12.int ty7 13) (show ivh12 a0 13 = ivh11 a0 13 from fl12.i ty7 rfl 13) (show ivh11 a0 13 = ivh10 a0 13 from fl11.i ty7 rfl 13) (show ivh10 a0 13 = ivb1 a0 13 from fl10.i ty7 rfl 13) (show (-2147483648) ≤ ivh12 a0 14 ∧ ivh12 a0 14 ≤ 2147483647 from W12.int ty7 14) (show ivh12 a0 14 = ivh11 a0 14 from fl12.i ty7 rfl 14) (show ivh11 a0 14 = ivh10 a0 14 from fl11.i ty7 rfl 14) (show ivh10 a0 14 = ivb1 a0 14 from fl10.i ty7 rfl 14) (show (-2147483648) ≤ ivh12 a0 15 ∧ ivh12 a0 15 ≤ 2147483647 from W12.int ty7 15) (show ivh12 a0 15 = ivh11 a0 15 from fl12.i ty7 rfl 15) (show ivh11 a0 15 = ivh10 a0 15 from fl11.i ty7 rfl 15) (show ivh10 a0 15 = ivb1 a0 15 from fl10.i ty7 rfl 15) (show (-2147483648) ≤ ivh12 a0 16 ∧ ivh12 a0 16 ≤ 2147483647 from W12.int ty7 16) (show ivh12 a0 16 = ivh11 a0 16 from fl12.i ty7 rfl 16) (show ivh11 a0 16 = ivh10 a0 16 from fl11.i ty7 rfl 16) (show ivh10 a0 16 = ivb1 a0 16 from fl10.i ty7 rfl 16) (fun ri67 ie49 ie50 ie51 ri68 ie53 ie54 ie55 ri69 ie57 ie58 ie59 ri70 ie61 ie62 ie63 ri71 ie65 ie66 ie67 ri72 ie69 ie70 ie71 => ?_)
                          refine c_lv (lv2 := [(5, .int (iI f12)), (6, .int (iI (k + 1))), (4, .ref ob1), (0, .ref a0), (1, .int (iI i)), (2, .int (iI n)), (3, .int (iI lim))]) [1, 0, 2, 3, 4, 5, 6] rfl ?_
                          exact ih1  f12 (k + 1) _ _ _ _ _ (by omega) Xb1 W12 F11  (by omega) (by omega) (ie49.trans (ie50.trans (ie51.trans hkp11))) (ie53.trans (ie54.trans (ie55.trans hkp12))) (ie57.trans (ie58.trans (ie59.trans hkp13))) (ie61.trans (ie62.trans (ie63.trans hkp14))) (ie65.trans (ie66.trans (ie67.trans hkp15))) (ie69.trans (ie70.trans (ie71.trans hkp16))) (show rvb1 a0 9 = rv a0 9 from hkr9) (show rvb1 a0 10 = rv a0 10 from hkr10)
                        · replace gf11 := (And.intro c9 (And.intro gf11.2.1 (gf11.2.2 c9)))
                          refine c_aload_n (j := 3) (x := a0) C dX11_unreadable_147 rfl ?_
                          refine d_callV (As := []) (rest := []) C hM (C_isReadBack (a0 := a0) W11 skb1 ty7  (by show ivh11 (sk 15) 7 ≤ 200; omega)) dX11_unreadable_148 kV_X11_396 rfl ty7 rfl rfl (by decide) ck_12 rfl (Nat.le_of_ble_eq_true rfl) ⟨(Nat.le_of_ble_eq_true rfl), (Nat.le_of_ble_eq_true rfl)⟩ hph pl4 (show 0 + 0 = 0 from rfl) (by decide) (fun rh13 Lh13 clh13 lnh13 ivh13 rvh13 h13 => ?_)
                          obtain ⟨f13, rfl, xl13, fl13, W13, rgf13, exf13⟩ := h13
                          refine hv20 (F10.call Xb1 fl13 rfl) (MRK.call mr10 W11 skb1 xl13 fl13 rfl rfl) (Xb1.ty tsk2) (Xb1.ty tsk3) (Xb1.ty tsk4) (Xb1.ty tsk5) (Xb1.ty tsk6) (Xb1.ty tsk7) (Xb1.ty tsk8) (Xb1.ty tsk9) (Xb1.ty tsk10) (Xb1.ty tsk13) (Xb1.ty tsk16) (Xb1.ty tsk17) (Xb1.ty tsk22) (Xb1.ty tsk23) (Xb1.ty tsk24) (Xb1.ty tsk25) (Xb1.trans xl13) (xl13.skl skb1) (fun F12 mr12 ty11 ty12 ty13 ty14 ty15 ty16 ty17 ty18 ty19 ty20 ty21 ty22 ty23 ty24 ty25 ty26 X2 sk2 => ?_)
                          refine c_st (st2 := [.int (iI f13)]) rfl ?_
                          refine c_if_ne (tgt := 184) C ⟨by omega, by omega⟩ dX11_unreadable_151 (by decide) (fun c10 => ?_) (fun c10 => ?_)
                          · refine c_aload_n (j := 3) (x := a0) C dX11_unreadable_184 rfl ?_
                            refine hv2 (xl13.ty ty7) (show rvh13 a0 5 = rvb1 a0 5 from (fl13.r ty7 rfl 5)) (fun ty27 re2 => ?_)
                            rw [rq4] at re2
                            refine c_getr (k := 5) C ck_12 dX11_unreadable_185 w2_49 (by decide) ty27 rfl rfl (by decide) rfl re2 ?_
                            refine c_st (st2 := [.ref (sk 14)]) rfl ?_
                            refine c_iload_n (j := 5) C dX11_unreadable_188 rfl ?_
                            refine hv2 (xl13.ty ty8) (Phi.le W13 sk2) (fun ty28 pl5 => ?_)
                            refine d_callV (As := [.int (iI n)]) (rest := []) C hM (C_spellNext (a0 := (sk 14)) (n := n) W13 sk2 ty28 (by omega) ) dX11_unreadable_189 kV_X11_403 rfl ty28 rfl rfl (by decide) ck_9 rfl (Nat.le_of_ble_eq_true rfl) ⟨(Nat.le_of_ble_eq_true rfl), (Nat.le_of_ble_eq_true rfl)⟩ hph pl5 (show 0 + 0 = 0 from rfl) (by decide) (fun rh14 Lh14 clh14 lnh14 ivh14 rvh14 h14 => ?_)
                            obtain ⟨f14, rfl, rfl, rfl, rfl, rfl, fl14, W14, rgf14, exf14⟩ := h14
                            refine hv2 (F12.call X2 fl14 rfl) (MRK.call mr12 W13 sk2 XT.refl fl14 rfl rfl) (fun F13 mr13 => ?_)
                            refine c_st (st2 := [.int (iI f14)]) rfl ?_
                            refine c_istore (lv2 := [(5, .int (iI f14)), (6, .int (iI k)), (4, .ref ob1), (0, .ref a0), (1, .int (iI i)), (2, .int (iI n)), (3, .int (iI lim))]) C dX11_unreadable_192 (by decide) rfl ?_
                            refine c_iinc (z := k) (j := 1) (lv2 := [(6, .int (iI (k + 1))), (5, .int (iI f14)), (4, .ref ob1), (0, .ref a0), (1, .int (iI i)), (2, .int (iI n)), (3, .int (iI lim))]) C dX11_unreadable_194 rfl (by decide) rfl ?_
                            refine c_goto (tgt := 98) C dX11_unreadable_197 (by decide) ?_
                            refine hv30 (show 1 ≤ ivh14 a0 11 ∧ ivh14 a0 11 ≤ 100 from W14.int ty27 11) (show ivh14 a0 11 = ivh13 a0 11 from fl14.i ty27 rfl 11) (show ivh13 a0 11 = ivh11 a0 11 from fl13.i ty7 rfl 11) (show ivh11 a0 11 = ivh10 a0 11 from fl11.i ty7 rfl 11) (show ivh10 a0 11 = ivb1 a0 11 from fl10.i ty7 rfl 11) (show 1 ≤ ivh14 a0 12 ∧ ivh14 a0 12 ≤ 50 from W14.int ty27 12) (show ivh14 a0 12 = ivh13 a0 12 from fl14.i ty27 rfl 12) (show ivh13 a0 12 = ivh11 a0 12 from fl13.i ty7 rfl 12) (show ivh11 a0 12 = ivh10 a0 12 from fl11.i ty7 rfl 12) (show ivh10 a0 12 = ivb1 a0 12 from fl10.i ty7 rfl 12) (show (-2147483648) ≤ ivh14 a0 13 ∧ ivh14 a0 13 ≤ 2147483647 from W14.int ty27 13) (show ivh14 a0 13 = ivh13 a0 13 from fl14.i ty27 rfl 13) (show ivh13 a0 13 = ivh11 a0 13 from fl13.i ty7 rfl 13) (show ivh11 a0 13 = ivh10 a0 13 from fl11.i ty7 rfl 13) (show ivh10 a0 13 = ivb1 a0 13 from fl10.i ty7 rfl 13) (show (-2147483648) ≤ ivh14 a0 14 ∧ ivh14 a0 14 ≤ 2147483647 from W14.int ty27 14) (show ivh14 a0 14 = ivh13 a0 14 from fl14.i ty27 rfl 14) (show ivh13 a0 14 = ivh11 a0 14 from fl13.i ty7 rfl 14) (show ivh11 a0 14 = ivh10 a0 14 from fl11.i ty7 rfl 14) (show ivh10 a0 14 = ivb1 a0 14 from fl10.i ty7 rfl 14) (show (-2147483648) ≤ ivh14 a0 15 ∧ ivh14 a0 15 ≤ 2147483647 from W14.int ty27 15) (show ivh14 a0 15 = ivh13 a0 15 from fl14.i ty27 rfl 15) (show ivh13 a0 15 = ivh11 a0 15 from fl13.i ty7 rfl 15) (show ivh11 a0 15 = ivh10 a0 15 from fl11.i ty7 rfl 15) (show ivh10 a0 15 = ivb1 a0 15 from fl10.i ty7 rfl 15) (show (-2147483648) ≤ ivh14 a0 16 ∧ ivh14 a0 16 ≤ 2147483647 from W14.int ty27 16) (show ivh14 a0 16 = ivh13 a0 16 from fl14.i ty27 rfl 16) (show ivh13 a0 16 = ivh11 a0 16 from fl13.i ty7 rfl 16) (show ivh11 a0 16 = ivh10 a0 16 from fl11.i ty7 rfl 16) (show ivh10 a0 16 = ivb1 a0 16 from fl10.i ty7 rfl 16) (fun ri73 ie73 ie74 ie75 ie76 ri74 ie78 ie79 ie80 ie81 ri75 ie83 ie84 ie85 ie86 ri76 ie88 ie89 ie90 ie91 ri77 ie93 ie94 ie95 ie96 ri78 ie98 ie99 ie100 ie101 => ?_)
                            refine c_lv (lv2 := [(5, .int (iI f14)), (6, .int (iI (k + 1))), (4, .ref ob1), (0, .ref a0), (1, .int (iI i)), (2, .int (iI n)), (3, .int (iI lim))]) [1, 0, 2, 3, 4, 5, 6] rfl ?_
                            exact ih1  f14 (k + 1) _ _ _ _ _ (by omega) X2 W14 F13  (by omega) (by omega) (ie73.trans (ie74.trans (ie75.trans (ie76.trans hkp11)))) (ie78.trans (ie79.trans (ie80.trans (ie81.trans hkp12)))) (ie83.trans (ie84.trans (ie85.trans (ie86.trans hkp13)))) (ie88.trans (ie89.trans (ie90.trans (ie91.trans hkp14)))) (ie93.trans (ie94.trans (ie95.trans (ie96.trans hkp15)))) (ie98.trans (ie99.trans (ie100.trans (ie101.trans hkp16)))) (Eq.trans (show rvh13 a0 9 = rvb1 a0 9 from (fl13.r ty7 rfl 9)) (show rvb1 a0 9 = rv a0 9 from hkr9)) (Eq.trans (show rvh13 a0 10 = rvb1 a0 10 from (fl13.r ty7 rfl 10)) (show rvb1 a0 10 = rv a0 10 from hkr10))
                          · refine c_aload_n (j := 3) (x := a0) C dX11_unreadable_154 rfl ?_
                            have ty29 := xl13.ty ty7
                            obtain ⟨rb6, rq6, trb6⟩ := W13.ref ty29 2 rfl rfl rfl
                            have erb6 := W13.sk trb6 (by decide) rfl
                            subst erb6
                            refine c_getr (k := 2) C ck_12 dX11_unreadable_155 w2_46 (by decide) ty29 rfl rfl (by decide) rfl rq6 ?_
                            refine c_st (st2 := [.ref (sk 4)]) rfl ?_
                            refine hv2 (xl13.ty ty13) (Phi.le W13 sk2) (fun ty30 pl6 => ?_)
                            refine d_callV (As := []) (rest := []) C hM (C_clear_4 (a0 := (sk 4)) W13 sk2 ty30  ) dX11_unreadable_158 kV_X11_164 rfl ty30 rfl rfl (by decide) ck_2 rfl (Nat.le_of_ble_eq_true rfl) ⟨(Nat.le_of_ble_eq_true rfl), (Nat.le_of_ble_eq_true rfl)⟩ hph pl6 (show 0 + 0 = 0 from rfl) (by decide) (fun rh15 Lh15 clh15 lnh15 ivh15 rvh15 h15 => ?_)
                            obtain ⟨rfl, rfl, rfl, rfl, rfl, fl15, W15, exf15⟩ := h15
                            refine hv2 (F12.call X2 fl15 rfl) (MRK.call mr12 W13 sk2 XT.refl fl15 rfl rfl) (fun F14 mr14 => ?_)
                            refine c_st (st2 := []) rfl ?_
                            refine hv2 (show 0 ≤ ivh15 (sk 4) 2 ∧ ivh15 (sk 4) 2 ≤ 4000 from W15.int ty30 2) (show ivh15 (sk 4) 2 = 0 from exf15) (fun ri79 gf15 => ?_)
                            refine c_aload_n (j := 3) (x := a0) C dX11_unreadable_161 rfl ?_
                            have re3 : rvh13 a0 6 = rvb1 a0 6 := (fl13.r ty7 rfl 6)
                            rw [rq5] at re3
                            refine c_getr (k := 6) C ck_12 dX11_unreadable_162 w2_50 (by decide) ty29 rfl rfl (by decide) rfl re3 ?_
                            refine c_st (st2 := [.ref (sk 15)]) rfl ?_
                            refine c_aload_n (j := 3) (x := a0) C dX11_unreadable_165 rfl ?_
                            refine c_getr (k := 2) C ck_12 dX11_unreadable_166 w2_46 (by decide) ty29 rfl rfl (by decide) rfl rq6 ?_
                            refine c_st (st2 := [.ref (sk 4), .ref (sk 15)]) rfl ?_
                            have ty31 := xl13.ty ty9
                            refine d_callV (As := [.ref (sk 4)]) (rest := []) C hM (C_wwl (a0 := (sk 15)) (a1 := (sk 4)) W15 sk2 ty31 ty30  ) dX11_unreadable_169 kV_X11_399 rfl ty31 rfl rfl (by decide) ck_7 rfl (Nat.le_of_ble_eq_true rfl) ⟨(Nat.le_of_ble_eq_true rfl), (Nat.le_of_ble_eq_true rfl)⟩ hph pl6 (show 0 + 0 = 0 from rfl) (by decide) (fun rh16 Lh16 clh16 lnh16 ivh16 rvh16 h16 => ?_)
                            obtain ⟨rfl, xl16, fl16, W16, exf16⟩ := h16
                            refine hv21 (F14.call X2 fl16 rfl) (MRK.call mr14 W15 sk2 xl16 fl16 rfl rfl) (xl13.ty ty11) (xl13.ty ty12) (xl13.ty ty14) (xl13.ty ty15) (xl13.ty ty16) (xl13.ty ty17) (xl13.ty ty18) (xl13.ty ty19) (xl13.ty ty20) (xl13.ty ty8) (xl13.ty ty21) (xl13.ty ty22) (xl13.ty ty23) (xl13.ty ty24) (xl13.ty ty25) (xl13.ty ty26) (xl13.ty ty10) (X2.trans xl16) (xl16.skl sk2) (fun F15 mr15 ty32 ty33 ty34 ty35 ty36 ty37 ty38 ty39 ty40 ty41 ty42 ty43 ty44 ty45 ty46 ty47 ty48 X3 sk3 => ?_)
                            refine c_st (st2 := []) rfl ?_
                            refine c_aload_n (j := 3) (x := a0) C dX11_unreadable_172 rfl ?_
                            refine c_aload_n (j := 3) (x := a0) C dX11_unreadable_173 rfl ?_
                            refine hv2 (xl16.ty ty29) (show rvh16 a0 6 = rvh13 a0 6 from (fl16.r ty29 rfl 6)) (fun ty49 re4 => ?_)
                            rw [re3] at re4
                            refine c_getr (k := 6) C ck_12 dX11_unreadable_174 w2_50 (by decide) ty49 rfl rfl (by decide) rfl re4 ?_
                            refine c_st (st2 := [.ref (sk 15), .ref a0]) rfl ?_
                            refine hv4 (xl16.ty ty31) (show ivh16 (sk 15) 4 = ivh15 (sk 15) 4 from fl16.i ty31 rfl 4) (show ivh15 (sk 15) 4 = ivh13 (sk 15) 4 from fl15.i ty31 rfl 4) (show ivh13 (sk 15) 4 = ivh11 (sk 15) 4 from fl13.i ty9 rfl 4) (fun ty50 ie104 ie105 ie106 => ?_)
                            have ri80 : 0 ≤ ivh16 (sk 15) 4 ∧ ivh16 (sk 15) 4 ≤ 500 := W16.int ty50 4
                            refine c_get (k := 4) C ck_7 dX11_unreadable_177 w1_142 (by decide) ty50 rfl rfl (by decide) rfl ?_
                            have pl7 := Phi.le W16 sk3
                            refine d_callV (As := [.int (iI (ivh16 (sk 15) 4))]) (rest := []) C hM (C_done (a0 := a0) (x := ivh16 (sk 15) 4) W16 sk3 ty49 (by omega) ) dX11_unreadable_180 kV_X11_109 rfl ty49 rfl rfl (by decide) ck_12 rfl (Nat.le_of_ble_eq_true rfl) ⟨(Nat.le_of_ble_eq_true rfl), (Nat.le_of_ble_eq_true rfl)⟩ hph pl7 (show 0 + 0 = 0 from rfl) (by decide) (fun rh17 Lh17 clh17 lnh17 ivh17 rvh17 h17 => ?_)
                            obtain ⟨f17, rfl, rfl, rfl, rfl, rfl, fl17, W17, rgf17, exf17, kp11f17, kp12f17, kp13f17, kp14f17, kp15f17, kp16f17⟩ := h17
                            refine hv38 (show 1 ≤ ivh16 a0 11 ∧ ivh16 a0 11 ≤ 100 from W16.int ty49 11) (show ivh16 a0 11 = ivh15 a0 11 from fl16.i ty29 rfl 11) (show ivh15 a0 11 = ivh13 a0 11 from fl15.i ty29 rfl 11) (show ivh13 a0 11 = ivh11 a0 11 from fl13.i ty7 rfl 11) (show ivh11 a0 11 = ivh10 a0 11 from fl11.i ty7 rfl 11) (show ivh10 a0 11 = ivb1 a0 11 from fl10.i ty7 rfl 11) (show 1 ≤ ivh16 a0 12 ∧ ivh16 a0 12 ≤ 50 from W16.int ty49 12) (show ivh16 a0 12 = ivh15 a0 12 from fl16.i ty29 rfl 12) (show ivh15 a0 12 = ivh13 a0 12 from fl15.i ty29 rfl 12) (show ivh13 a0 12 = ivh11 a0 12 from fl13.i ty7 rfl 12) (show ivh11 a0 12 = ivh10 a0 12 from fl11.i ty7 rfl 12) (show ivh10 a0 12 = ivb1 a0 12 from fl10.i ty7 rfl 12) (show (-2147483648) ≤ ivh16 a0 13 ∧ ivh16 a0 13 ≤ 2147483647 from W16.int ty49 13) (show ivh16 a0 13 = ivh15 a0 13 from fl16.i ty29 rfl 13) (show ivh15 a0 13 = ivh13 a0 13 from fl15.i ty29 rfl 13) (show ivh13 a0 13 = ivh11 a0 13 from fl13.i ty7 rfl 13) (show ivh11 a0 13 = ivh10 a0 13 from fl11.i ty7 rfl 13) (show ivh10 a0 13 = ivb1 a0 13 from fl10.i ty7 rfl 13) (show (-2147483648) ≤ ivh16 a0 14 ∧ ivh16 a0 14 ≤ 2147483647 from W16.int ty49 14) (show ivh16 a0 14 = ivh15 a0 14 from fl16.i ty29 rfl 14) (show ivh15 a0 14 = ivh13 a0 14 from fl15.i ty29 rfl 14) (show ivh13 a0 14 = ivh11 a0 14 from fl13.i ty7 rfl 14) (show ivh11 a0 14 = ivh10 a0 14 from fl11.i ty7 rfl 14) (show ivh10 a0 14 = ivb1 a0 14 from fl10.i ty7 rfl 14) (show (-2147483648) ≤ ivh16 a0 15 ∧ ivh16 a0 15 ≤ 2147483647 from W16.int ty49 15) (show ivh16 a0 15 = ivh15 a0 15 from fl16.i ty29 rfl 15) (show ivh15 a0 15 = ivh13 a0 15 from fl15.i ty29 rfl 15) (show ivh13 a0 15 = ivh11 a0 15 from fl13.i ty7 rfl 15) (show ivh11 a0 15 = ivh10 a0 15 from fl11.i ty7 rfl 15) (show ivh10 a0 15 = ivb1 a0 15 from fl10.i ty7 rfl 15) (show (-2147483648) ≤ ivh16 a0 16 ∧ ivh16 a0 16 ≤ 2147483647 from W16.int ty49 16) (show ivh16 a0 16 = ivh15 a0 16 from fl16.i ty29 rfl 16) (show ivh15 a0 16 = ivh13 a0 16 from fl15.i ty29 rfl 16) (show ivh13 a0 16 = ivh11 a0 16 from fl13.i ty7 rfl 16) (show ivh11 a0 16 = ivh10 a0 16 from fl11.i ty7 rfl 16) (show ivh10 a0 16 = ivb1 a0 16 from fl10.i ty7 rfl 16) (F15.call X3 fl17 rfl) (MRK.call mr15 W16 sk3 XT.refl fl17 rfl rfl) (fun ri81 ie107 ie108 ie109 ie110 ie111 ri82 ie113 ie114 ie115 ie116 ie117 ri83 ie119 ie120 ie121 ie122 ie123 ri84 ie125 ie126 ie127 ie128 ie129 ri85 ie131 ie132 ie133 ie134 ie135 ri86 ie137 ie138 ie139 ie140 ie141 F16 mr16 => ?_)
                            refine c_st (st2 := [.int (iI f17)]) rfl ?_
                            refine hv13 (show ivh17 a0 11 = ivh16 a0 11 from kp11f17) (show ivh17 a0 12 = ivh16 a0 12 from kp12f17) (show ivh17 a0 13 = ivh16 a0 13 from kp13f17) (show ivh17 a0 14 = ivh16 a0 14 from kp14f17) (show ivh17 a0 15 = ivh16 a0 15 from kp15f17) (show ivh17 a0 16 = ivh16 a0 16 from kp16f17) (show f17 = (ivh16 (sk 15) 4) from exf17) (show 1 ≤ ivh17 a0 11 ∧ ivh17 a0 11 ≤ 100 from W17.int ty49 11) (show 1 ≤ ivh17 a0 12 ∧ ivh17 a0 12 ≤ 50 from W17.int ty49 12) (show (-2147483648) ≤ ivh17 a0 13 ∧ ivh17 a0 13 ≤ 2147483647 from W17.int ty49 13) (show (-2147483648) ≤ ivh17 a0 14 ∧ ivh17 a0 14 ≤ 2147483647 from W17.int ty49 14) (show (-2147483648) ≤ ivh17 a0 15 ∧ ivh17 a0 15 ≤ 2147483647 from W17.int ty49 15) (show (-2147483648) ≤ ivh17 a0 16 ∧ ivh17 a0 16 ≤ 2147483647 from W17.int ty49 16) (fun gk11f17 gk12f17 gk13f17 gk14f17 gk15f17 gk16f17 gf17 ri87 ri88 ri89 ri90 ri91 ri92 => ?_)
                            exact c_iret C dX11_unreadable_183 rfl (by decide) (rom0 hph pl7 (by decide)) ⟨f17, rfl, X3, F16, W17, ⟨by omega, by omega⟩, trivial, (gk11f17.trans (ie107.trans (ie108.trans (ie109.trans (ie110.trans (ie111.trans hkp11)))))), (gk12f17.trans (ie113.trans (ie114.trans (ie115.trans (ie116.trans (ie117.trans hkp12)))))), (gk13f17.trans (ie119.trans (ie120.trans (ie121.trans (ie122.trans (ie123.trans hkp13)))))), (gk14f17.trans (ie125.trans (ie126.trans (ie127.trans (ie128.trans (ie129.trans hkp14)))))), (gk15f17.trans (ie131.trans (ie132.trans (ie133.trans (ie134.trans (ie135.trans hkp15)))))), (gk16f17.trans (ie137.trans (ie138.trans (ie139.trans (ie140.trans (ie141.trans hkp16)))))), (Eq.trans (show rvh16 a0 9 = rvh13 a0 9 from (fl16.r ty29 rfl 9)) (Eq.trans (show rvh13 a0 9 = rvb1 a0 9 from (fl13.r ty7 rfl 9)) (show rvb1 a0 9 = rv a0 9 from hkr9))), (Eq.trans (show rvh16 a0 10 = rvh13 a0 10 from (fl16.r ty29 rfl 10)) (Eq.trans (show rvh13 a0 10 = rvb1 a0 10 from (fl13.r ty7 rfl 10)) (show rvb1 a0 10 = rv a0 10 from hkr10)))⟩
                      · refine c_aload_n (j := 3) (x := a0) C dX11_unreadable_117 rfl ?_
                        refine c_bipush (z := 8) C dX11_unreadable_118 (by decide) ?_
                        refine hv2 (Xb1.ty t_a0) (Phi.le Wb1 skb1) (fun ty51 pl8 => ?_)
                        refine d_callV (As := [.int (iI 8)]) (rest := []) C hM (C_refuse (a0 := a0) (x := 8) Wb1 skb1 ty51 ⟨by decide, by decide⟩ ) dX11_unreadable_120 kV_X11_102 rfl ty51 rfl rfl (by decide) ck_12 rfl (Nat.le_of_ble_eq_true rfl) ⟨(Nat.le_of_ble_eq_true rfl), (Nat.le_of_ble_eq_true rfl)⟩ hph pl8 (show 0 + 0 = 0 from rfl) (by decide) (fun rh18 Lh18 clh18 lnh18 ivh18 rvh18 h18 => ?_)
                        obtain ⟨f18, rfl, rfl, rfl, rfl, rfl, fl18, W18, rgf18, exf18, kp11f18, kp12f18, kp13f18, kp14f18, kp15f18, kp16f18⟩ := h18
                        refine hv8 (show 1 ≤ ivb1 a0 11 ∧ ivb1 a0 11 ≤ 100 from Wb1.int ty51 11) (show 1 ≤ ivb1 a0 12 ∧ ivb1 a0 12 ≤ 50 from Wb1.int ty51 12) (show (-2147483648) ≤ ivb1 a0 13 ∧ ivb1 a0 13 ≤ 2147483647 from Wb1.int ty51 13) (show (-2147483648) ≤ ivb1 a0 14 ∧ ivb1 a0 14 ≤ 2147483647 from Wb1.int ty51 14) (show (-2147483648) ≤ ivb1 a0 15 ∧ ivb1 a0 15 ≤ 2147483647 from Wb1.int ty51 15) (show (-2147483648) ≤ ivb1 a0 16 ∧ ivb1 a0 16 ≤ 2147483647 from Wb1.int ty51 16) (Fb1.call Xb1 fl18 rfl) (MRK.call mrb1 Wb1 skb1 XT.refl fl18 rfl rfl) (fun ri93 ri94 ri95 ri96 ri97 ri98 F17 mr17 => ?_)
                        refine c_st (st2 := [.int (iI f18)]) rfl ?_
                        refine hv13 (show ivh18 a0 11 = ivb1 a0 11 from kp11f18) (show ivh18 a0 12 = ivb1 a0 12 from kp12f18) (show ivh18 a0 13 = ivb1 a0 13 from kp13f18) (show ivh18 a0 14 = ivb1 a0 14 from kp14f18) (show ivh18 a0 15 = ivb1 a0 15 from kp15f18) (show ivh18 a0 16 = ivb1 a0 16 from kp16f18) (show f18 = -1 from exf18) (show 1 ≤ ivh18 a0 11 ∧ ivh18 a0 11 ≤ 100 from W18.int ty51 11) (show 1 ≤ ivh18 a0 12 ∧ ivh18 a0 12 ≤ 50 from W18.int ty51 12) (show (-2147483648) ≤ ivh18 a0 13 ∧ ivh18 a0 13 ≤ 2147483647 from W18.int ty51 13) (show (-2147483648) ≤ ivh18 a0 14 ∧ ivh18 a0 14 ≤ 2147483647 from W18.int ty51 14) (show (-2147483648) ≤ ivh18 a0 15 ∧ ivh18 a0 15 ≤ 2147483647 from W18.int ty51 15) (show (-2147483648) ≤ ivh18 a0 16 ∧ ivh18 a0 16 ≤ 2147483647 from W18.int ty51 16) (fun gk11f18 gk12f18 gk13f18 gk14f18 gk15f18 gk16f18 gf18 ri99 ri100 ri101 ri102 ri103 ri104 => ?_)
                        exact c_iret C dX11_unreadable_123 rfl (by decide) (rom0 hph pl8 (by decide)) ⟨f18, rfl, Xb1, F17, W18, ⟨by omega, by omega⟩, trivial, (gk11f18.trans hkp11), (gk12f18.trans hkp12), (gk13f18.trans hkp13), (gk14f18.trans hkp14), (gk15f18.trans hkp15), (gk16f18.trans hkp16), (show rvb1 a0 9 = rv a0 9 from hkr9), (show rvb1 a0 10 = rv a0 10 from hkr10)⟩
              refine hv24 (show 1 ≤ ivh7 a0 11 ∧ ivh7 a0 11 ≤ 100 from W7.int ty1 11) (show ivh7 a0 11 = ivh6 a0 11 from fl7.i ty1 rfl 11) (show ivh6 a0 11 = ivh5 a0 11 from fl6.i ty1 rfl 11) (show ivh5 a0 11 = iv a0 11 from fl5.i t_a0 rfl 11) (show 1 ≤ ivh7 a0 12 ∧ ivh7 a0 12 ≤ 50 from W7.int ty1 12) (show ivh7 a0 12 = ivh6 a0 12 from fl7.i ty1 rfl 12) (show ivh6 a0 12 = ivh5 a0 12 from fl6.i ty1 rfl 12) (show ivh5 a0 12 = iv a0 12 from fl5.i t_a0 rfl 12) (show (-2147483648) ≤ ivh7 a0 13 ∧ ivh7 a0 13 ≤ 2147483647 from W7.int ty1 13) (show ivh7 a0 13 = ivh6 a0 13 from fl7.i ty1 rfl 13) (show ivh6 a0 13 = ivh5 a0 13 from fl6.i ty1 rfl 13) (show ivh5 a0 13 = iv a0 13 from fl5.i t_a0 rfl 13) (show (-2147483648) ≤ ivh7 a0 14 ∧ ivh7 a0 14 ≤ 2147483647 from W7.int ty1 14) (show ivh7 a0 14 = ivh6 a0 14 from fl7.i ty1 rfl 14) (show ivh6 a0 14 = ivh5 a0 14 from fl6.i ty1 rfl 14) (show ivh5 a0 14 = iv a0 14 from fl5.i t_a0 rfl 14) (show (-2147483648) ≤ ivh7 a0 15 ∧ ivh7 a0 15 ≤ 2147483647 from W7.int ty1 15) (show ivh7 a0 15 = ivh6 a0 15 from fl7.i ty1 rfl 15) (show ivh6 a0 15 = ivh5 a0 15 from fl6.i ty1 rfl 15) (show ivh5 a0 15 = iv a0 15 from fl5.i t_a0 rfl 15) (show (-2147483648) ≤ ivh7 a0 16 ∧ ivh7 a0 16 ≤ 2147483647 from W7.int ty1 16) (show ivh7 a0 16 = ivh6 a0 16 from fl7.i ty1 rfl 16) (show ivh6 a0 16 = ivh5 a0 16 from fl6.i ty1 rfl 16) (show ivh5 a0 16 = iv a0 16 from fl5.i t_a0 rfl 16) (fun ri105 ie161 ie162 ie163 ri106 ie164 ie165 ie166 ri107 ie167 ie168 ie169 ri108 ie170 ie171 ie172 ri109 ie173 ie174 ie175 ri110 ie176 ie177 ie178 => ?_)
              refine c_lv (lv2 := [(5, .int (iI f7)), (6, .int (iI 0)), (4, .ref ob1), (0, .ref a0), (1, .int (iI i)), (2, .int (iI n)), (3, .int (iI lim))]) [1, 0, 2, 3, 4, 5, 6] rfl ?_
              exact Lp1 5004 f7 0 _ _ _ _ _ (by omega) X1 W7 F6  (by omega) (by omega) (ie161.trans (ie162.trans ie163)) (ie164.trans (ie165.trans ie166)) (ie167.trans (ie168.trans ie169)) (ie170.trans (ie171.trans ie172)) (ie173.trans (ie174.trans ie175)) (ie176.trans (ie177.trans ie178)) (show rvh5 a0 9 = rv a0 9 from (fl5.r t_a0 rfl 9)) (show rvh5 a0 10 = rv a0 10 from (fl5.r t_a0 rfl 10))
            · refine c_iconst C dX11_unreadable_77 ?_
              refine c_goto (tgt := 82) C dX11_unreadable_78 (by decide) ?_
              refine hv4 (xl5.ty tsk14) (xl5.ty tsk16) (show ivh5 (sk 14) 7 = iv (sk 14) 7 from fl5.i tsk14 rfl 7) (Phi.le W5 sk1) (fun ty52 ty53 ie179 pl9 => ?_)
              have ri111 : 0 ≤ ivh5 (sk 14) 7 ∧ ivh5 (sk 14) 7 ≤ 6 := W5.int ty52 7
              refine d_callV (As := [.ref (sk 16), .int (iI 1)]) (rest := []) C hM (C_gatherAlphabet (a0 := (sk 14)) (a1 := (sk 16)) (g := 1) W5 sk1 ty52 ty53 ⟨by decide, by decide⟩ ) dX11_unreadable_82 kV_X11_385 rfl ty52 rfl rfl (by decide) ck_9 rfl (Nat.le_of_ble_eq_true rfl) ⟨(Nat.le_of_ble_eq_true rfl), (Nat.le_of_ble_eq_true rfl)⟩ hph pl9 (show 0 + 0 = 0 from rfl) (by decide) (fun rh19 Lh19 clh19 lnh19 ivh19 rvh19 h19 => ?_)
              obtain ⟨rfl, rfl, rfl, rfl, rfl, fl19, W19, exf19⟩ := h19
              refine hv2 (F4.call X1 fl19 rfl) (MRK.call mr4 W5 sk1 XT.refl fl19 rfl rfl) (fun F18 mr18 => ?_)
              refine c_st (st2 := []) rfl ?_
              refine hv2 (show 0 ≤ ivh19 (sk 14) 7 ∧ ivh19 (sk 14) 7 ≤ 6 from W19.int ty52 7) (show ivh19 (sk 14) 7 = ivh5 (sk 14) 7 from exf19) (fun ri112 gf19 => ?_)
              refine c_aload_n (j := 1) (x := a0) C dX11_unreadable_85 rfl ?_
              refine c_getr (k := 5) C ck_12 dX11_unreadable_86 w2_49 (by decide) ty1 rfl rfl (by decide) rfl rq3 ?_
              refine c_st (st2 := [.ref (sk 14)]) rfl ?_
              refine c_iload_n (j := 3) C dX11_unreadable_89 rfl ?_
              refine d_callV (As := [.int (iI n)]) (rest := []) C hM (C_startSpelling (a0 := (sk 14)) (n := n) W19 sk1 ty52 (by omega) ) dX11_unreadable_90 kV_X11_389 rfl ty52 rfl rfl (by decide) ck_9 rfl (Nat.le_of_ble_eq_true rfl) ⟨(Nat.le_of_ble_eq_true rfl), (Nat.le_of_ble_eq_true rfl)⟩ hph pl9 (show 0 + 0 = 0 from rfl) (by decide) (fun rh20 Lh20 clh20 lnh20 ivh20 rvh20 h20 => ?_)
              obtain ⟨f20, rfl, rfl, rfl, rfl, rfl, fl20, W20, rgf20, exf20⟩ := h20
              refine hv2 (F18.call X1 fl20 rfl) (MRK.call mr18 W19 sk1 XT.refl fl20 rfl rfl) (fun F19 mr19 => ?_)
              refine c_st (st2 := [.int (iI f20)]) rfl ?_
              refine c_istore (lv2 := [(5, .int (iI f20)), (4, .ref ob1), (0, .ref a0), (1, .int (iI i)), (2, .int (iI n)), (3, .int (iI lim))]) C dX11_unreadable_93 (by decide) rfl ?_
              refine c_iconst C dX11_unreadable_95 ?_
              refine c_istore (lv2 := [(6, .int (iI 0)), (5, .int (iI f20)), (4, .ref ob1), (0, .ref a0), (1, .int (iI i)), (2, .int (iI n)), (3, .int (iI lim))]) C dX11_unreadable_96 (by decide) rfl ?_
              have Lp2 : ∀ (nn : Nat) (ok k : Int) (Lb2 : List Nat) (clb2 lnb2 : Nat → Nat) (ivb2 : Nat → Nat → Int) (rvb2 : Nat → Nat → Option Nat) , 5002 - k < (nn : Int) → XT L cl ln Lb2 clb2 lnb2 → WT (g0 G) sk Lb2 clb2 lnb2 ivb2 rvb2 → fT [1, 4, 34, 14, 56, 57, 58, 15, 50, 51, 52, 53, 54, 55, 8, 38, 9, 39, 16, 10, 40, 24, 1002, 25, 1003, 6, 36, 7, 37] L cl iv rv ivb2 rvb2 → (ok = 0 ∨ ok = 1) → (0 ≤ k ∧ k ≤ 5001) → (ivb2 a0 11 = iv a0 11) → (ivb2 a0 12 = iv a0 12) → (ivb2 a0 13 = iv a0 13) → (ivb2 a0 14 = iv a0 14) → (ivb2 a0 15 = iv a0 15) → (ivb2 a0 16 = iv a0 16) → (rvb2 a0 9 = rv a0 9) → (rvb2 a0 10 = rv a0 10) → cw p l e 10 ((PHM) + 0 - ((Phi (g0 G) sk) ln rv)) s m args below meth c G A 7 (MQ below (Qu G A (Qp G (Phi (g0 G) sk) ((Phi (g0 G) sk) ln rv) 0 (fun v L2 cl2 ln2 iv2 rv2 => ∃ f : Int, v = some (.int (iI f)) ∧ XT L cl ln L2 cl2 ln2 ∧ fT [1, 4, 34, 14, 56, 57, 58, 15, 50, 51, 52, 53, 54, 55, 8, 38, 9, 39, 16, 10, 40, 24, 1002, 25, 1003, 6, 36, 7, 37] L cl iv rv iv2 rv2 ∧ WT (g0 G) sk L2 cl2 ln2 iv2 rv2 ∧ (-2147483648 ≤ f ∧ f ≤ 2147483647) ∧ (True) ∧ iv2 a0 11 = iv a0 11 ∧ iv2 a0 12 = iv a0 12 ∧ iv2 a0 13 = iv a0 13 ∧ iv2 a0 14 = iv a0 14 ∧ iv2 a0 15 = iv a0 15 ∧ iv2 a0 16 = iv a0 16 ∧ rv2 a0 9 = rv a0 9 ∧ rv2 a0 10 = rv a0 10))) args s (((PHM) + 0 - ((Phi (g0 G) sk) ln rv)) / 16) ((PHM) + 0 - ((Phi (g0 G) sk) ln rv)) A) (Phi (g0 G) sk) ((Phi (g0 G) sk) ln rv) Lb2 clb2 lnb2 ivb2 rvb2 0 98 [(5, .int (iI ok)), (6, .int (iI k)), (4, .ref ob1), (0, .ref a0), (1, .int (iI i)), (2, .int (iI n)), (3, .int (iI lim))] [] := by
                intro nn
                induction nn with
                | zero =>
                  intro  ok k Lb2 clb2 lnb2 ivb2 rvb2 hm Xb2 Wb2 Fb2  hok hk hkp11 hkp12 hkp13 hkp14 hkp15 hkp16 hkr9 hkr10
                  have skb2 := Xb2.skl hS
                  exact absurd hm (by omega)
                | succ nn ih2 =>
                  intro  ok k Lb2 clb2 lnb2 ivb2 rvb2 hm Xb2 Wb2 Fb2  hok hk hkp11 hkp12 hkp13 hkp14 hkp15 hkp16 hkr9 hkr10
                  refine hv2 (Xb2.skl hS) (MRK.call hmr hW hS Xb2 Fb2 rfl rfl) (fun skb2 mrb2 => ?_)
                  refine c_iload (j := 0) C dX11_unreadable_98 rfl ?_
                  refine c_if_eq (tgt := 200) C (r32_01 hok) dX11_unreadable_100 (by decide) (fun c11 => ?_) (fun c11 => ?_)
                  · clear hok
                    refine c_aload_n (j := 3) (x := a0) C dX11_unreadable_200 rfl ?_
                    refine c_iconst C dX11_unreadable_201 ?_
                    refine hv2 (Xb2.ty t_a0) (Phi.le Wb2 skb2) (fun ty54 pl10 => ?_)
                    refine d_callV (As := [.int (iI 0)]) (rest := []) C hM (C_done (a0 := a0) (x := 0) Wb2 skb2 ty54 ⟨by decide, by decide⟩ ) dX11_unreadable_202 kV_X11_109 rfl ty54 rfl rfl (by decide) ck_12 rfl (Nat.le_of_ble_eq_true rfl) ⟨(Nat.le_of_ble_eq_true rfl), (Nat.le_of_ble_eq_true rfl)⟩ hph pl10 (show 0 + 0 = 0 from rfl) (by decide) (fun rh21 Lh21 clh21 lnh21 ivh21 rvh21 h21 => ?_)
                    obtain ⟨f21, rfl, rfl, rfl, rfl, rfl, fl21, W21, rgf21, exf21, kp11f21, kp12f21, kp13f21, kp14f21, kp15f21, kp16f21⟩ := h21
                    refine hv8 (show 1 ≤ ivb2 a0 11 ∧ ivb2 a0 11 ≤ 100 from Wb2.int ty54 11) (show 1 ≤ ivb2 a0 12 ∧ ivb2 a0 12 ≤ 50 from Wb2.int ty54 12) (show (-2147483648) ≤ ivb2 a0 13 ∧ ivb2 a0 13 ≤ 2147483647 from Wb2.int ty54 13) (show (-2147483648) ≤ ivb2 a0 14 ∧ ivb2 a0 14 ≤ 2147483647 from Wb2.int ty54 14) (show (-2147483648) ≤ ivb2 a0 15 ∧ ivb2 a0 15 ≤ 2147483647 from Wb2.int ty54 15) (show (-2147483648) ≤ ivb2 a0 16 ∧ ivb2 a0 16 ≤ 2147483647 from Wb2.int ty54 16) (Fb2.call Xb2 fl21 rfl) (MRK.call mrb2 Wb2 skb2 XT.refl fl21 rfl rfl) (fun ri113 ri114 ri115 ri116 ri117 ri118 F20 mr20 => ?_)
                    refine c_st (st2 := [.int (iI f21)]) rfl ?_
                    refine hv13 (show ivh21 a0 11 = ivb2 a0 11 from kp11f21) (show ivh21 a0 12 = ivb2 a0 12 from kp12f21) (show ivh21 a0 13 = ivb2 a0 13 from kp13f21) (show ivh21 a0 14 = ivb2 a0 14 from kp14f21) (show ivh21 a0 15 = ivb2 a0 15 from kp15f21) (show ivh21 a0 16 = ivb2 a0 16 from kp16f21) (show f21 = (0 : Int) from exf21) (show 1 ≤ ivh21 a0 11 ∧ ivh21 a0 11 ≤ 100 from W21.int ty54 11) (show 1 ≤ ivh21 a0 12 ∧ ivh21 a0 12 ≤ 50 from W21.int ty54 12) (show (-2147483648) ≤ ivh21 a0 13 ∧ ivh21 a0 13 ≤ 2147483647 from W21.int ty54 13) (show (-2147483648) ≤ ivh21 a0 14 ∧ ivh21 a0 14 ≤ 2147483647 from W21.int ty54 14) (show (-2147483648) ≤ ivh21 a0 15 ∧ ivh21 a0 15 ≤ 2147483647 from W21.int ty54 15) (show (-2147483648) ≤ ivh21 a0 16 ∧ ivh21 a0 16 ≤ 2147483647 from W21.int ty54 16) (fun gk11f21 gk12f21 gk13f21 gk14f21 gk15f21 gk16f21 gf21 ri119 ri120 ri121 ri122 ri123 ri124 => ?_)
                    exact c_iret C dX11_unreadable_205 rfl (by decide) (rom0 hph pl10 (by decide)) ⟨f21, rfl, Xb2, F20, W21, ⟨by omega, by omega⟩, trivial, (gk11f21.trans hkp11), (gk12f21.trans hkp12), (gk13f21.trans hkp13), (gk14f21.trans hkp14), (gk15f21.trans hkp15), (gk16f21.trans hkp16), (show rvb2 a0 9 = rv a0 9 from hkr9), (show rvb2 a0 10 = rv a0 10 from hkr10)⟩
                  · replace hok := (hok.resolve_left c11)
                    refine c_iload (j := 1) C dX11_unreadable_103 rfl ?_
                    refine c_sipush (z := 5000) C dX11_unreadable_105 (by decide) ?_
                    refine c_icmp_gt (tgt := 200) C (r32_c (lo := 0) (hi := 5001) hk.1 hk.2 (by decide) (by decide)) ⟨by decide, by decide⟩ dX11_unreadable_108 (by decide) (fun c12 => ?_) (fun c12 => ?_)
                    · refine c_aload_n (j := 3) (x := a0) C dX11_unreadable_200 rfl ?_
                      refine c_iconst C dX11_unreadable_201 ?_
                      refine hv2 (Xb2.ty t_a0) (Phi.le Wb2 skb2) (fun ty55 pl11 => ?_)
                      refine d_callV (As := [.int (iI 0)]) (rest := []) C hM (C_done (a0 := a0) (x := 0) Wb2 skb2 ty55 ⟨by decide, by decide⟩ ) dX11_unreadable_202 kV_X11_109 rfl ty55 rfl rfl (by decide) ck_12 rfl (Nat.le_of_ble_eq_true rfl) ⟨(Nat.le_of_ble_eq_true rfl), (Nat.le_of_ble_eq_true rfl)⟩ hph pl11 (show 0 + 0 = 0 from rfl) (by decide) (fun rh22 Lh22 clh22 lnh22 ivh22 rvh22 h22 => ?_)
                      obtain ⟨f22, rfl, rfl, rfl, rfl, rfl, fl22, W22, rgf22, exf22, kp11f22, kp12f22, kp13f22, kp14f22, kp15f22, kp16f22⟩ := h22
                      refine hv8 (show 1 ≤ ivb2 a0 11 ∧ ivb2 a0 11 ≤ 100 from Wb2.int ty55 11) (show 1 ≤ ivb2 a0 12 ∧ ivb2 a0 12 ≤ 50 from Wb2.int ty55 12) (show (-2147483648) ≤ ivb2 a0 13 ∧ ivb2 a0 13 ≤ 2147483647 from Wb2.int ty55 13) (show (-2147483648) ≤ ivb2 a0 14 ∧ ivb2 a0 14 ≤ 2147483647 from Wb2.int ty55 14) (show (-2147483648) ≤ ivb2 a0 15 ∧ ivb2 a0 15 ≤ 2147483647 from Wb2.int ty55 15) (show (-2147483648) ≤ ivb2 a0 16 ∧ ivb2 a0 16 ≤ 2147483647 from Wb2.int ty55 16) (Fb2.call Xb2 fl22 rfl) (MRK.call mrb2 Wb2 skb2 XT.refl fl22 rfl rfl) (fun ri125 ri126 ri127 ri128 ri129 ri130 F21 mr21 => ?_)
                      refine c_st (st2 := [.int (iI f22)]) rfl ?_
                      refine hv13 (show ivh22 a0 11 = ivb2 a0 11 from kp11f22) (show ivh22 a0 12 = ivb2 a0 12 from kp12f22) (show ivh22 a0 13 = ivb2 a0 13 from kp13f22) (show ivh22 a0 14 = ivb2 a0 14 from kp14f22) (show ivh22 a0 15 = ivb2 a0 15 from kp15f22) (show ivh22 a0 16 = ivb2 a0 16 from kp16f22) (show f22 = (0 : Int) from exf22) (show 1 ≤ ivh22 a0 11 ∧ ivh22 a0 11 ≤ 100 from W22.int ty55 11) (show 1 ≤ ivh22 a0 12 ∧ ivh22 a0 12 ≤ 50 from W22.int ty55 12) (show (-2147483648) ≤ ivh22 a0 13 ∧ ivh22 a0 13 ≤ 2147483647 from W22.int ty55 13) (show (-2147483648) ≤ ivh22 a0 14 ∧ ivh22 a0 14 ≤ 2147483647 from W22.int ty55 14) (show (-2147483648) ≤ ivh22 a0 15 ∧ ivh22 a0 15 ≤ 2147483647 from W22.int ty55 15) (show (-2147483648) ≤ ivh22 a0 16 ∧ ivh22 a0 16 ≤ 2147483647 from W22.int ty55 16) (fun gk11f22 gk12f22 gk13f22 gk14f22 gk15f22 gk16f22 gf22 ri131 ri132 ri133 ri134 ri135 ri136 => ?_)
                      exact c_iret C dX11_unreadable_205 rfl (by decide) (rom0 hph pl11 (by decide)) ⟨f22, rfl, Xb2, F21, W22, ⟨by omega, by omega⟩, trivial, (gk11f22.trans hkp11), (gk12f22.trans hkp12), (gk13f22.trans hkp13), (gk14f22.trans hkp14), (gk15f22.trans hkp15), (gk16f22.trans hkp16), (show rvb2 a0 9 = rv a0 9 from hkr9), (show rvb2 a0 10 = rv a0 10 from hkr10)⟩
                    · refine c_iload (j := 1) C dX11_unreadable_111 rfl ?_
                      refine c_iload_n (j := 6) C dX11_unreadable_113 rfl ?_
                      refine c_icmp_lt (tgt := 124) C (r32_c (lo := 0) (hi := 5001) hk.1 hk.2 (by decide) (by decide)) ⟨by omega, by omega⟩ dX11_unreadable_114 (by decide) (fun c13 => ?_) (fun c13 => ?_)
                      · refine c_aload_n (j := 3) (x := a0) C dX11_unreadable_124 rfl ?_
                        have ty56 := Xb2.ty t_a0
                        obtain ⟨rb7, rq7, trb7⟩ := Wb2.ref ty56 5 rfl rfl rfl
                        have erb7 := Wb2.sk trb7 (by decide) rfl
                        subst erb7
                        refine c_getr (k := 5) C ck_12 dX11_unreadable_125 w2_49 (by decide) ty56 rfl rfl (by decide) rfl rq7 ?_
                        refine c_st (st2 := [.ref (sk 14)]) rfl ?_
                        refine c_aload_n (j := 3) (x := a0) C dX11_unreadable_128 rfl ?_
                        obtain ⟨rb8, rq8, trb8⟩ := Wb2.ref ty56 6 rfl rfl rfl
                        have erb8 := Wb2.sk trb8 (by decide) rfl
                        subst erb8
                        refine c_getr (k := 6) C ck_12 dX11_unreadable_129 w2_50 (by decide) ty56 rfl rfl (by decide) rfl rq8 ?_
                        refine c_st (st2 := [.ref (sk 15), .ref (sk 14)]) rfl ?_
                        refine hv3 (Xb2.ty tsk14) (Xb2.ty tsk15) (Phi.le Wb2 skb2) (fun ty57 ty58 pl12 => ?_)
                        refine d_callV (As := [.ref (sk 15)]) (rest := []) C hM (C_spell (a0 := (sk 14)) (a1 := (sk 15)) Wb2 skb2 ty57 ty58  ) dX11_unreadable_132 kV_X11_392 rfl ty57 rfl rfl (by decide) ck_9 rfl (Nat.le_of_ble_eq_true rfl) ⟨(Nat.le_of_ble_eq_true rfl), (Nat.le_of_ble_eq_true rfl)⟩ hph pl12 (show 0 + 0 = 0 from rfl) (by decide) (fun rh23 Lh23 clh23 lnh23 ivh23 rvh23 h23 => ?_)
                        obtain ⟨rfl, rfl, rfl, rfl, rfl, fl23, W23, exf23⟩ := h23
                        refine hv2 (Fb2.call Xb2 fl23 rfl) (MRK.call mrb2 Wb2 skb2 XT.refl fl23 rfl rfl) (fun F22 mr22 => ?_)
                        refine c_st (st2 := []) rfl ?_
                        refine c_aload_n (j := 3) (x := a0) C dX11_unreadable_135 rfl ?_
                        refine c_getr (k := 6) C ck_12 dX11_unreadable_136 w2_50 (by decide) ty56 rfl rfl (by decide) rfl rq8 ?_
                        refine c_st (st2 := [.ref (sk 15)]) rfl ?_
                        refine c_aload (j := 2) (x := ob1) C dX11_unreadable_139 rfl ?_
                        refine hv2 (Xb2.ty tob1) (show 0 ≤ ivh23 (sk 15) 4 ∧ ivh23 (sk 15) 4 ≤ 500 from W23.int ty58 4) (fun ty59 ri137 => ?_)
                        refine d_callV (As := [.ref ob1]) (rest := []) C hM (C_setBy (a0 := (sk 15)) (a1 := ob1) W23 skb2 ty58 ty59  ) dX11_unreadable_141 kV_X11_253 rfl ty58 rfl rfl (by decide) ck_7 rfl (Nat.le_of_ble_eq_true rfl) ⟨(Nat.le_of_ble_eq_true rfl), (Nat.le_of_ble_eq_true rfl)⟩ hph pl12 (show 0 + 0 = 0 from rfl) (by decide) (fun rh24 Lh24 clh24 lnh24 ivh24 rvh24 h24 => ?_)
                        obtain ⟨f24, rfl, rfl, rfl, rfl, rfl, fl24, W24, rgf24, exf24⟩ := h24
                        refine hv2 (F22.call Xb2 fl24 rfl) (MRK.call mr22 W23 skb2 XT.refl fl24 rfl rfl) (fun F23 mr23 => ?_)
                        refine c_st (st2 := [.int (iI f24)]) rfl ?_
                        refine hv3 (show 0 ≤ ivh24 (sk 15) 4 ∧ ivh24 (sk 15) 4 ≤ 500 from W24.int ty58 4) (show 0 ≤ ivh24 (sk 15) 7 ∧ ivh24 (sk 15) 7 ≤ 100000 from W24.int ty58 7) (show (f24 = 0 ∨ f24 = 6 ∨ f24 = 7) ∧ ivh24 (sk 15) 4 = ivh23 (sk 15) 4 ∧ (f24 = 0 → ivh24 (sk 15) 7 ≤ 200) from exf24) (fun ri138 ri139 gf24 => ?_)
                        refine c_if_ne (tgt := 184) C (r32_067 gf24.1) dX11_unreadable_144 (by decide) (fun c14 => ?_) (fun c14 => ?_)
                        · replace gf24 := (And.intro (gf24.1.resolve_left c14) (And.intro gf24.2.1 trivial))
                          refine c_aload_n (j := 3) (x := a0) C dX11_unreadable_184 rfl ?_
                          refine c_getr (k := 5) C ck_12 dX11_unreadable_185 w2_49 (by decide) ty56 rfl rfl (by decide) rfl rq7 ?_
                          refine c_st (st2 := [.ref (sk 14)]) rfl ?_
                          refine c_iload_n (j := 5) C dX11_unreadable_188 rfl ?_
                          refine d_callV (As := [.int (iI n)]) (rest := []) C hM (C_spellNext (a0 := (sk 14)) (n := n) W24 skb2 ty57 (by omega) ) dX11_unreadable_189 kV_X11_403 rfl ty57 rfl rfl (by decide) ck_9 rfl (Nat.le_of_ble_eq_true rfl) ⟨(Nat.le_of_ble_eq_true rfl), (Nat.le_of_ble_eq_true rfl)⟩ hph pl12 (show 0 + 0 = 0 from rfl) (by decide) (fun rh25 Lh25 clh25 lnh25 ivh25 rvh25 h25 => ?_)
                          obtain ⟨f25, rfl, rfl, rfl, rfl, rfl, fl25, W25, rgf25, exf25⟩ := h25
                          refine hv2 (F23.call Xb2 fl25 rfl) (MRK.call mr23 W24 skb2 XT.refl fl25 rfl rfl) (fun F24 mr24 => ?_)
                          refine c_st (st2 := [.int (iI f25)]) rfl ?_
                          refine c_istore (lv2 := [(5, .int (iI f25)), (6, .int (iI k)), (4, .ref ob1), (0, .ref a0), (1, .int (iI i)), (2, .int (iI n)), (3, .int (iI lim))]) C dX11_unreadable_192 (by decide) rfl ?_
                          refine c_iinc (z := k) (j := 1) (lv2 := [(6, .int (iI (k + 1))), (5, .int (iI f25)), (4, .ref ob1), (0, .ref a0), (1, .int (iI i)), (2, .int (iI n)), (3, .int (iI lim))]) C dX11_unreadable_194 rfl (by decide) rfl ?_
                          refine c_goto (tgt := 98) C dX11_unreadable_197 (by decide) ?_
                          refine hv24 (show 1 ≤ ivh25 a0 11 ∧ ivh25 a0 11 ≤ 100 from W25.int ty56 11) (show ivh25 a0 11 = ivh24 a0 11 from fl25.i ty56 rfl 11) (show ivh24 a0 11 = ivh23 a0 11 from fl24.i ty56 rfl 11) (show ivh23 a0 11 = ivb2 a0 11 from fl23.i ty56 rfl 11) (show 1 ≤ ivh25 a0 12 ∧ ivh25 a0 12 ≤ 50 from W25.int ty56 12) (show ivh25 a0 12 = ivh24 a0 12 from fl25.i ty56 rfl 12) (show ivh24 a0 12 = ivh23 a0 12 from fl24.i ty56 rfl 12) (show ivh23 a0 12 = ivb2 a0 12 from fl23.i ty56 rfl 12) (show (-2147483648) ≤ ivh25 a0 13 ∧ ivh25 a0 13 ≤ 2147483647 from W25.int ty56 13) (show ivh25 a0 13 = ivh24 a0 13 from fl25.i ty56 rfl 13) (show ivh24 a0 13 = ivh23 a0 13 from fl24.i ty56 rfl 13) (show ivh23 a0 13 = ivb2 a0 13 from fl23.i ty56 rfl 13) (show (-2147483648) ≤ ivh25 a0 14 ∧ ivh25 a0 14 ≤ 2147483647 from W25.int ty56 14) (show ivh25 a0 14 = ivh24 a0 14 from fl25.i ty56 rfl 14) (show ivh24 a0 14 = ivh23 a0 14 from fl24.i ty56 rfl 14) (show ivh23 a0 14 = ivb2 a0 14 from fl23.i ty56 rfl 14) (show (-2147483648) ≤ ivh25 a0 15 ∧ ivh25 a0 15 ≤ 2147483647 from W25.int ty56 15) (show ivh25 a0 15 = ivh24 a0 15 from fl25.i ty56 rfl 15) (show ivh24 a0 15 = ivh23 a0 15 from fl24.i ty56 rfl 15) (show ivh23 a0 15 = ivb2 a0 15 from fl23.i ty56 rfl 15) (show (-2147483648) ≤ ivh25 a0 16 ∧ ivh25 a0 16 ≤ 2147483647 from W25.int ty56 16) (show ivh25 a0 16 = ivh24 a0 16 from fl25.i ty56 rfl 16) (show ivh24 a0 16 = ivh23 a0 16 from fl24.i ty56 rfl 16) (show ivh23 a0 16 = ivb2 a0 16 from fl23.i ty56 rfl 16) (fun ri140 ie208 ie209 ie210 ri141 ie212 ie213 ie214 ri142 ie216 ie217 ie218 ri143 ie220 ie221 ie222 ri144 ie224 ie225 ie226 ri145 ie228 ie229 ie230 => ?_)
                          refine c_lv (lv2 := [(5, .int (iI f25)), (6, .int (iI (k + 1))), (4, .ref ob1), (0, .ref a0), (1, .int (iI i)), (2, .int (iI n)), (3, .int (iI lim))]) [1, 0, 2, 3, 4, 5, 6] rfl ?_
                          exact ih2  f25 (k + 1) _ _ _ _ _ (by omega) Xb2 W25 F24  (by omega) (by omega) (ie208.trans (ie209.trans (ie210.trans hkp11))) (ie212.trans (ie213.trans (ie214.trans hkp12))) (ie216.trans (ie217.trans (ie218.trans hkp13))) (ie220.trans (ie221.trans (ie222.trans hkp14))) (ie224.trans (ie225.trans (ie226.trans hkp15))) (ie228.trans (ie229.trans (ie230.trans hkp16))) (show rvb2 a0 9 = rv a0 9 from hkr9) (show rvb2 a0 10 = rv a0 10 from hkr10)
                        · replace gf24 := (And.intro c14 (And.intro gf24.2.1 (gf24.2.2 c14)))
                          refine c_aload_n (j := 3) (x := a0) C dX11_unreadable_147 rfl ?_
                          refine d_callV (As := []) (rest := []) C hM (C_isReadBack (a0 := a0) W24 skb2 ty56  (by show ivh24 (sk 15) 7 ≤ 200; omega)) dX11_unreadable_148 kV_X11_396 rfl ty56 rfl rfl (by decide) ck_12 rfl (Nat.le_of_ble_eq_true rfl) ⟨(Nat.le_of_ble_eq_true rfl), (Nat.le_of_ble_eq_true rfl)⟩ hph pl12 (show 0 + 0 = 0 from rfl) (by decide) (fun rh26 Lh26 clh26 lnh26 ivh26 rvh26 h26 => ?_)
                          obtain ⟨f26, rfl, xl26, fl26, W26, rgf26, exf26⟩ := h26
                          refine hv20 (F23.call Xb2 fl26 rfl) (MRK.call mr23 W24 skb2 xl26 fl26 rfl rfl) (Xb2.ty tsk2) (Xb2.ty tsk3) (Xb2.ty tsk4) (Xb2.ty tsk5) (Xb2.ty tsk6) (Xb2.ty tsk7) (Xb2.ty tsk8) (Xb2.ty tsk9) (Xb2.ty tsk10) (Xb2.ty tsk13) (Xb2.ty tsk16) (Xb2.ty tsk17) (Xb2.ty tsk22) (Xb2.ty tsk23) (Xb2.ty tsk24) (Xb2.ty tsk25) (Xb2.trans xl26) (xl26.skl skb2) (fun F25 mr25 ty60 ty61 ty62 ty63 ty64 ty65 ty66 ty67 ty68 ty69 ty70 ty71 ty72 ty73 ty74 ty75 X4 sk4 => ?_)
                          refine c_st (st2 := [.int (iI f26)]) rfl ?_
                          refine c_if_ne (tgt := 184) C ⟨by omega, by omega⟩ dX11_unreadable_151 (by decide) (fun c15 => ?_) (fun c15 => ?_)
                          · refine c_aload_n (j := 3) (x := a0) C dX11_unreadable_184 rfl ?_
                            refine hv2 (xl26.ty ty56) (show rvh26 a0 5 = rvb2 a0 5 from (fl26.r ty56 rfl 5)) (fun ty76 re5 => ?_)
                            rw [rq7] at re5
                            refine c_getr (k := 5) C ck_12 dX11_unreadable_185 w2_49 (by decide) ty76 rfl rfl (by decide) rfl re5 ?_
                            refine c_st (st2 := [.ref (sk 14)]) rfl ?_
                            refine c_iload_n (j := 5) C dX11_unreadable_188 rfl ?_
                            refine hv2 (xl26.ty ty57) (Phi.le W26 sk4) (fun ty77 pl13 => ?_)
                            refine d_callV (As := [.int (iI n)]) (rest := []) C hM (C_spellNext (a0 := (sk 14)) (n := n) W26 sk4 ty77 (by omega) ) dX11_unreadable_189 kV_X11_403 rfl ty77 rfl rfl (by decide) ck_9 rfl (Nat.le_of_ble_eq_true rfl) ⟨(Nat.le_of_ble_eq_true rfl), (Nat.le_of_ble_eq_true rfl)⟩ hph pl13 (show 0 + 0 = 0 from rfl) (by decide) (fun rh27 Lh27 clh27 lnh27 ivh27 rvh27 h27 => ?_)
                            obtain ⟨f27, rfl, rfl, rfl, rfl, rfl, fl27, W27, rgf27, exf27⟩ := h27
                            refine hv2 (F25.call X4 fl27 rfl) (MRK.call mr25 W26 sk4 XT.refl fl27 rfl rfl) (fun F26 mr26 => ?_)
                            refine c_st (st2 := [.int (iI f27)]) rfl ?_
                            refine c_istore (lv2 := [(5, .int (iI f27)), (6, .int (iI k)), (4, .ref ob1), (0, .ref a0), (1, .int (iI i)), (2, .int (iI n)), (3, .int (iI lim))]) C dX11_unreadable_192 (by decide) rfl ?_
                            refine c_iinc (z := k) (j := 1) (lv2 := [(6, .int (iI (k + 1))), (5, .int (iI f27)), (4, .ref ob1), (0, .ref a0), (1, .int (iI i)), (2, .int (iI n)), (3, .int (iI lim))]) C dX11_unreadable_194 rfl (by decide) rfl ?_
                            refine c_goto (tgt := 98) C dX11_unreadable_197 (by decide) ?_
                            refine hv30 (show 1 ≤ ivh27 a0 11 ∧ ivh27 a0 11 ≤ 100 from W27.int ty76 11) (show ivh27 a0 11 = ivh26 a0 11 from fl27.i ty76 rfl 11) (show ivh26 a0 11 = ivh24 a0 11 from fl26.i ty56 rfl 11) (show ivh24 a0 11 = ivh23 a0 11 from fl24.i ty56 rfl 11) (show ivh23 a0 11 = ivb2 a0 11 from fl23.i ty56 rfl 11) (show 1 ≤ ivh27 a0 12 ∧ ivh27 a0 12 ≤ 50 from W27.int ty76 12) (show ivh27 a0 12 = ivh26 a0 12 from fl27.i ty76 rfl 12) (show ivh26 a0 12 = ivh24 a0 12 from fl26.i ty56 rfl 12) (show ivh24 a0 12 = ivh23 a0 12 from fl24.i ty56 rfl 12) (show ivh23 a0 12 = ivb2 a0 12 from fl23.i ty56 rfl 12) (show (-2147483648) ≤ ivh27 a0 13 ∧ ivh27 a0 13 ≤ 2147483647 from W27.int ty76 13) (show ivh27 a0 13 = ivh26 a0 13 from fl27.i ty76 rfl 13) (show ivh26 a0 13 = ivh24 a0 13 from fl26.i ty56 rfl 13) (show ivh24 a0 13 = ivh23 a0 13 from fl24.i ty56 rfl 13) (show ivh23 a0 13 = ivb2 a0 13 from fl23.i ty56 rfl 13) (show (-2147483648) ≤ ivh27 a0 14 ∧ ivh27 a0 14 ≤ 2147483647 from W27.int ty76 14) (show ivh27 a0 14 = ivh26 a0 14 from fl27.i ty76 rfl 14) (show ivh26 a0 14 = ivh24 a0 14 from fl26.i ty56 rfl 14) (show ivh24 a0 14 = ivh23 a0 14 from fl24.i ty56 rfl 14) (show ivh23 a0 14 = ivb2 a0 14 from fl23.i ty56 rfl 14) (show (-2147483648) ≤ ivh27 a0 15 ∧ ivh27 a0 15 ≤ 2147483647 from W27.int ty76 15) (show ivh27 a0 15 = ivh26 a0 15 from fl27.i ty76 rfl 15) (show ivh26 a0 15 = ivh24 a0 15 from fl26.i ty56 rfl 15) (show ivh24 a0 15 = ivh23 a0 15 from fl24.i ty56 rfl 15) (show ivh23 a0 15 = ivb2 a0 15 from fl23.i ty56 rfl 15) (show (-2147483648) ≤ ivh27 a0 16 ∧ ivh27 a0 16 ≤ 2147483647 from W27.int ty76 16) (show ivh27 a0 16 = ivh26 a0 16 from fl27.i ty76 rfl 16) (show ivh26 a0 16 = ivh24 a0 16 from fl26.i ty56 rfl 16) (show ivh24 a0 16 = ivh23 a0 16 from fl24.i ty56 rfl 16) (show ivh23 a0 16 = ivb2 a0 16 from fl23.i ty56 rfl 16) (fun ri146 ie232 ie233 ie234 ie235 ri147 ie237 ie238 ie239 ie240 ri148 ie242 ie243 ie244 ie245 ri149 ie247 ie248 ie249 ie250 ri150 ie252 ie253 ie254 ie255 ri151 ie257 ie258 ie259 ie260 => ?_)
                            refine c_lv (lv2 := [(5, .int (iI f27)), (6, .int (iI (k + 1))), (4, .ref ob1), (0, .ref a0), (1, .int (iI i)), (2, .int (iI n)), (3, .int (iI lim))]) [1, 0, 2, 3, 4, 5, 6] rfl ?_
                            exact ih2  f27 (k + 1) _ _ _ _ _ (by omega) X4 W27 F26  (by omega) (by omega) (ie232.trans (ie233.trans (ie234.trans (ie235.trans hkp11)))) (ie237.trans (ie238.trans (ie239.trans (ie240.trans hkp12)))) (ie242.trans (ie243.trans (ie244.trans (ie245.trans hkp13)))) (ie247.trans (ie248.trans (ie249.trans (ie250.trans hkp14)))) (ie252.trans (ie253.trans (ie254.trans (ie255.trans hkp15)))) (ie257.trans (ie258.trans (ie259.trans (ie260.trans hkp16)))) (Eq.trans (show rvh26 a0 9 = rvb2 a0 9 from (fl26.r ty56 rfl 9)) (show rvb2 a0 9 = rv a0 9 from hkr9)) (Eq.trans (show rvh26 a0 10 = rvb2 a0 10 from (fl26.r ty56 rfl 10)) (show rvb2 a0 10 = rv a0 10 from hkr10))
                          · refine c_aload_n (j := 3) (x := a0) C dX11_unreadable_154 rfl ?_
                            have ty78 := xl26.ty ty56
                            obtain ⟨rb9, rq9, trb9⟩ := W26.ref ty78 2 rfl rfl rfl
                            have erb9 := W26.sk trb9 (by decide) rfl
                            subst erb9
                            refine c_getr (k := 2) C ck_12 dX11_unreadable_155 w2_46 (by decide) ty78 rfl rfl (by decide) rfl rq9 ?_
                            refine c_st (st2 := [.ref (sk 4)]) rfl ?_
                            refine hv2 (xl26.ty ty62) (Phi.le W26 sk4) (fun ty79 pl14 => ?_)
                            refine d_callV (As := []) (rest := []) C hM (C_clear_4 (a0 := (sk 4)) W26 sk4 ty79  ) dX11_unreadable_158 kV_X11_164 rfl ty79 rfl rfl (by decide) ck_2 rfl (Nat.le_of_ble_eq_true rfl) ⟨(Nat.le_of_ble_eq_true rfl), (Nat.le_of_ble_eq_true rfl)⟩ hph pl14 (show 0 + 0 = 0 from rfl) (by decide) (fun rh28 Lh28 clh28 lnh28 ivh28 rvh28 h28 => ?_)
                            obtain ⟨rfl, rfl, rfl, rfl, rfl, fl28, W28, exf28⟩ := h28
                            refine hv2 (F25.call X4 fl28 rfl) (MRK.call mr25 W26 sk4 XT.refl fl28 rfl rfl) (fun F27 mr27 => ?_)
                            refine c_st (st2 := []) rfl ?_
                            refine hv2 (show 0 ≤ ivh28 (sk 4) 2 ∧ ivh28 (sk 4) 2 ≤ 4000 from W28.int ty79 2) (show ivh28 (sk 4) 2 = 0 from exf28) (fun ri152 gf28 => ?_)
                            refine c_aload_n (j := 3) (x := a0) C dX11_unreadable_161 rfl ?_
                            have re6 : rvh26 a0 6 = rvb2 a0 6 := (fl26.r ty56 rfl 6)
                            rw [rq8] at re6
                            refine c_getr (k := 6) C ck_12 dX11_unreadable_162 w2_50 (by decide) ty78 rfl rfl (by decide) rfl re6 ?_
                            refine c_st (st2 := [.ref (sk 15)]) rfl ?_
                            refine c_aload_n (j := 3) (x := a0) C dX11_unreadable_165 rfl ?_
                            refine c_getr (k := 2) C ck_12 dX11_unreadable_166 w2_46 (by decide) ty78 rfl rfl (by decide) rfl rq9 ?_
                            refine c_st (st2 := [.ref (sk 4), .ref (sk 15)]) rfl ?_
                            have ty80 := xl26.ty ty58
                            refine d_callV (As := [.ref (sk 4)]) (rest := []) C hM (C_wwl (a0 := (sk 15)) (a1 := (sk 4)) W28 sk4 ty80 ty79  ) dX11_unreadable_169 kV_X11_399 rfl ty80 rfl rfl (by decide) ck_7 rfl (Nat.le_of_ble_eq_true rfl) ⟨(Nat.le_of_ble_eq_true rfl), (Nat.le_of_ble_eq_true rfl)⟩ hph pl14 (show 0 + 0 = 0 from rfl) (by decide) (fun rh29 Lh29 clh29 lnh29 ivh29 rvh29 h29 => ?_)
                            obtain ⟨rfl, xl29, fl29, W29, exf29⟩ := h29
                            refine hv21 (F27.call X4 fl29 rfl) (MRK.call mr27 W28 sk4 xl29 fl29 rfl rfl) (xl26.ty ty60) (xl26.ty ty61) (xl26.ty ty63) (xl26.ty ty64) (xl26.ty ty65) (xl26.ty ty66) (xl26.ty ty67) (xl26.ty ty68) (xl26.ty ty69) (xl26.ty ty57) (xl26.ty ty70) (xl26.ty ty71) (xl26.ty ty72) (xl26.ty ty73) (xl26.ty ty74) (xl26.ty ty75) (xl26.ty ty59) (X4.trans xl29) (xl29.skl sk4) (fun F28 mr28 ty81 ty82 ty83 ty84 ty85 ty86 ty87 ty88 ty89 ty90 ty91 ty92 ty93 ty94 ty95 ty96 ty97 X5 sk5 => ?_)
                            refine c_st (st2 := []) rfl ?_
                            refine c_aload_n (j := 3) (x := a0) C dX11_unreadable_172 rfl ?_
                            refine c_aload_n (j := 3) (x := a0) C dX11_unreadable_173 rfl ?_
                            refine hv2 (xl29.ty ty78) (show rvh29 a0 6 = rvh26 a0 6 from (fl29.r ty78 rfl 6)) (fun ty98 re7 => ?_)
                            rw [re6] at re7
                            refine c_getr (k := 6) C ck_12 dX11_unreadable_174 w2_50 (by decide) ty98 rfl rfl (by decide) rfl re7 ?_
                            refine c_st (st2 := [.ref (sk 15), .ref a0]) rfl ?_
                            refine hv4 (xl29.ty ty80) (show ivh29 (sk 15) 4 = ivh28 (sk 15) 4 from fl29.i ty80 rfl 4) (show ivh28 (sk 15) 4 = ivh26 (sk 15) 4 from fl28.i ty80 rfl 4) (show ivh26 (sk 15) 4 = ivh24 (sk 15) 4 from fl26.i ty58 rfl 4) (fun ty99 ie263 ie264 ie265 => ?_)
                            have ri153 : 0 ≤ ivh29 (sk 15) 4 ∧ ivh29 (sk 15) 4 ≤ 500 := W29.int ty99 4
                            refine c_get (k := 4) C ck_7 dX11_unreadable_177 w1_142 (by decide) ty99 rfl rfl (by decide) rfl ?_
                            have pl15 := Phi.le W29 sk5
                            refine d_callV (As := [.int (iI (ivh29 (sk 15) 4))]) (rest := []) C hM (C_done (a0 := a0) (x := ivh29 (sk 15) 4) W29 sk5 ty98 (by omega) ) dX11_unreadable_180 kV_X11_109 rfl ty98 rfl rfl (by decide) ck_12 rfl (Nat.le_of_ble_eq_true rfl) ⟨(Nat.le_of_ble_eq_true rfl), (Nat.le_of_ble_eq_true rfl)⟩ hph pl15 (show 0 + 0 = 0 from rfl) (by decide) (fun rh30 Lh30 clh30 lnh30 ivh30 rvh30 h30 => ?_)
                            obtain ⟨f30, rfl, rfl, rfl, rfl, rfl, fl30, W30, rgf30, exf30, kp11f30, kp12f30, kp13f30, kp14f30, kp15f30, kp16f30⟩ := h30
                            refine hv38 (show 1 ≤ ivh29 a0 11 ∧ ivh29 a0 11 ≤ 100 from W29.int ty98 11) (show ivh29 a0 11 = ivh28 a0 11 from fl29.i ty78 rfl 11) (show ivh28 a0 11 = ivh26 a0 11 from fl28.i ty78 rfl 11) (show ivh26 a0 11 = ivh24 a0 11 from fl26.i ty56 rfl 11) (show ivh24 a0 11 = ivh23 a0 11 from fl24.i ty56 rfl 11) (show ivh23 a0 11 = ivb2 a0 11 from fl23.i ty56 rfl 11) (show 1 ≤ ivh29 a0 12 ∧ ivh29 a0 12 ≤ 50 from W29.int ty98 12) (show ivh29 a0 12 = ivh28 a0 12 from fl29.i ty78 rfl 12) (show ivh28 a0 12 = ivh26 a0 12 from fl28.i ty78 rfl 12) (show ivh26 a0 12 = ivh24 a0 12 from fl26.i ty56 rfl 12) (show ivh24 a0 12 = ivh23 a0 12 from fl24.i ty56 rfl 12) (show ivh23 a0 12 = ivb2 a0 12 from fl23.i ty56 rfl 12) (show (-2147483648) ≤ ivh29 a0 13 ∧ ivh29 a0 13 ≤ 2147483647 from W29.int ty98 13) (show ivh29 a0 13 = ivh28 a0 13 from fl29.i ty78 rfl 13) (show ivh28 a0 13 = ivh26 a0 13 from fl28.i ty78 rfl 13) (show ivh26 a0 13 = ivh24 a0 13 from fl26.i ty56 rfl 13) (show ivh24 a0 13 = ivh23 a0 13 from fl24.i ty56 rfl 13) (show ivh23 a0 13 = ivb2 a0 13 from fl23.i ty56 rfl 13) (show (-2147483648) ≤ ivh29 a0 14 ∧ ivh29 a0 14 ≤ 2147483647 from W29.int ty98 14) (show ivh29 a0 14 = ivh28 a0 14 from fl29.i ty78 rfl 14) (show ivh28 a0 14 = ivh26 a0 14 from fl28.i ty78 rfl 14) (show ivh26 a0 14 = ivh24 a0 14 from fl26.i ty56 rfl 14) (show ivh24 a0 14 = ivh23 a0 14 from fl24.i ty56 rfl 14) (show ivh23 a0 14 = ivb2 a0 14 from fl23.i ty56 rfl 14) (show (-2147483648) ≤ ivh29 a0 15 ∧ ivh29 a0 15 ≤ 2147483647 from W29.int ty98 15) (show ivh29 a0 15 = ivh28 a0 15 from fl29.i ty78 rfl 15) (show ivh28 a0 15 = ivh26 a0 15 from fl28.i ty78 rfl 15) (show ivh26 a0 15 = ivh24 a0 15 from fl26.i ty56 rfl 15) (show ivh24 a0 15 = ivh23 a0 15 from fl24.i ty56 rfl 15) (show ivh23 a0 15 = ivb2 a0 15 from fl23.i ty56 rfl 15) (show (-2147483648) ≤ ivh29 a0 16 ∧ ivh29 a0 16 ≤ 2147483647 from W29.int ty98 16) (show ivh29 a0 16 = ivh28 a0 16 from fl29.i ty78 rfl 16) (show ivh28 a0 16 = ivh26 a0 16 from fl28.i ty78 rfl 16) (show ivh26 a0 16 = ivh24 a0 16 from fl26.i ty56 rfl 16) (show ivh24 a0 16 = ivh23 a0 16 from fl24.i ty56 rfl 16) (show ivh23 a0 16 = ivb2 a0 16 from fl23.i ty56 rfl 16) (F28.call X5 fl30 rfl) (MRK.call mr28 W29 sk5 XT.refl fl30 rfl rfl) (fun ri154 ie266 ie267 ie268 ie269 ie270 ri155 ie272 ie273 ie274 ie275 ie276 ri156 ie278 ie279 ie280 ie281 ie282 ri157 ie284 ie285 ie286 ie287 ie288 ri158 ie290 ie291 ie292 ie293 ie294 ri159 ie296 ie297 ie298 ie299 ie300 F29 mr29 => ?_)
                            refine c_st (st2 := [.int (iI f30)]) rfl ?_
                            refine hv13 (show ivh30 a0 11 = ivh29 a0 11 from kp11f30) (show ivh30 a0 12 = ivh29 a0 12 from kp12f30) (show ivh30 a0 13 = ivh29 a0 13 from kp13f30) (show ivh30 a0 14 = ivh29 a0 14 from kp14f30) (show ivh30 a0 15 = ivh29 a0 15 from kp15f30) (show ivh30 a0 16 = ivh29 a0 16 from kp16f30) (show f30 = (ivh29 (sk 15) 4) from exf30) (show 1 ≤ ivh30 a0 11 ∧ ivh30 a0 11 ≤ 100 from W30.int ty98 11) (show 1 ≤ ivh30 a0 12 ∧ ivh30 a0 12 ≤ 50 from W30.int ty98 12) (show (-2147483648) ≤ ivh30 a0 13 ∧ ivh30 a0 13 ≤ 2147483647 from W30.int ty98 13) (show (-2147483648) ≤ ivh30 a0 14 ∧ ivh30 a0 14 ≤ 2147483647 from W30.int ty98 14) (show (-2147483648) ≤ ivh30 a0 15 ∧ ivh30 a0 15 ≤ 2147483647 from W30.int ty98 15) (show (-2147483648) ≤ ivh30 a0 16 ∧ ivh30 a0 16 ≤ 2147483647 from W30.int ty98 16) (fun gk11f30 gk12f30 gk13f30 gk14f30 gk15f30 gk16f30 gf30 ri160 ri161 ri162 ri163 ri164 ri165 => ?_)
                            exact c_iret C dX11_unreadable_183 rfl (by decide) (rom0 hph pl15 (by decide)) ⟨f30, rfl, X5, F29, W30, ⟨by omega, by omega⟩, trivial, (gk11f30.trans (ie266.trans (ie267.trans (ie268.trans (ie269.trans (ie270.trans hkp11)))))), (gk12f30.trans (ie272.trans (ie273.trans (ie274.trans (ie275.trans (ie276.trans hkp12)))))), (gk13f30.trans (ie278.trans (ie279.trans (ie280.trans (ie281.trans (ie282.trans hkp13)))))), (gk14f30.trans (ie284.trans (ie285.trans (ie286.trans (ie287.trans (ie288.trans hkp14)))))), (gk15f30.trans (ie290.trans (ie291.trans (ie292.trans (ie293.trans (ie294.trans hkp15)))))), (gk16f30.trans (ie296.trans (ie297.trans (ie298.trans (ie299.trans (ie300.trans hkp16)))))), (Eq.trans (show rvh29 a0 9 = rvh26 a0 9 from (fl29.r ty78 rfl 9)) (Eq.trans (show rvh26 a0 9 = rvb2 a0 9 from (fl26.r ty56 rfl 9)) (show rvb2 a0 9 = rv a0 9 from hkr9))), (Eq.trans (show rvh29 a0 10 = rvh26 a0 10 from (fl29.r ty78 rfl 10)) (Eq.trans (show rvh26 a0 10 = rvb2 a0 10 from (fl26.r ty56 rfl 10)) (show rvb2 a0 10 = rv a0 10 from hkr10)))⟩
                      · refine c_aload_n (j := 3) (x := a0) C dX11_unreadable_117 rfl ?_
                        refine c_bipush (z := 8) C dX11_unreadable_118 (by decide) ?_
                        refine hv2 (Xb2.ty t_a0) (Phi.le Wb2 skb2) (fun ty100 pl16 => ?_)
                        refine d_callV (As := [.int (iI 8)]) (rest := []) C hM (C_refuse (a0 := a0) (x := 8) Wb2 skb2 ty100 ⟨by decide, by decide⟩ ) dX11_unreadable_120 kV_X11_102 rfl ty100 rfl rfl (by decide) ck_12 rfl (Nat.le_of_ble_eq_true rfl) ⟨(Nat.le_of_ble_eq_true rfl), (Nat.le_of_ble_eq_true rfl)⟩ hph pl16 (show 0 + 0 = 0 from rfl) (by decide) (fun rh31 Lh31 clh31 lnh31 ivh31 rvh31 h31 => ?_)
                        obtain ⟨f31, rfl, rfl, rfl, rfl, rfl, fl31, W31, rgf31, exf31, kp11f31, kp12f31, kp13f31, kp14f31, kp15f31, kp16f31⟩ := h31
                        refine hv8 (show 1 ≤ ivb2 a0 11 ∧ ivb2 a0 11 ≤ 100 from Wb2.int ty100 11) (show 1 ≤ ivb2 a0 12 ∧ ivb2 a0 12 ≤ 50 from Wb2.int ty100 12) (show (-2147483648) ≤ ivb2 a0 13 ∧ ivb2 a0 13 ≤ 2147483647 from Wb2.int ty100 13) (show (-2147483648) ≤ ivb2 a0 14 ∧ ivb2 a0 14 ≤ 2147483647 from Wb2.int ty100 14) (show (-2147483648) ≤ ivb2 a0 15 ∧ ivb2 a0 15 ≤ 2147483647 from Wb2.int ty100 15) (show (-2147483648) ≤ ivb2 a0 16 ∧ ivb2 a0 16 ≤ 2147483647 from Wb2.int ty100 16) (Fb2.call Xb2 fl31 rfl) (MRK.call mrb2 Wb2 skb2 XT.refl fl31 rfl rfl) (fun ri166 ri167 ri168 ri169 ri170 ri171 F30 mr30 => ?_)
                        refine c_st (st2 := [.int (iI f31)]) rfl ?_
                        refine hv13 (show ivh31 a0 11 = ivb2 a0 11 from kp11f31) (show ivh31 a0 12 = ivb2 a0 12 from kp12f31) (show ivh31 a0 13 = ivb2 a0 13 from kp13f31) (show ivh31 a0 14 = ivb2 a0 14 from kp14f31) (show ivh31 a0 15 = ivb2 a0 15 from kp15f31) (show ivh31 a0 16 = ivb2 a0 16 from kp16f31) (show f31 = -1 from exf31) (show 1 ≤ ivh31 a0 11 ∧ ivh31 a0 11 ≤ 100 from W31.int ty100 11) (show 1 ≤ ivh31 a0 12 ∧ ivh31 a0 12 ≤ 50 from W31.int ty100 12) (show (-2147483648) ≤ ivh31 a0 13 ∧ ivh31 a0 13 ≤ 2147483647 from W31.int ty100 13) (show (-2147483648) ≤ ivh31 a0 14 ∧ ivh31 a0 14 ≤ 2147483647 from W31.int ty100 14) (show (-2147483648) ≤ ivh31 a0 15 ∧ ivh31 a0 15 ≤ 2147483647 from W31.int ty100 15) (show (-2147483648) ≤ ivh31 a0 16 ∧ ivh31 a0 16 ≤ 2147483647 from W31.int ty100 16) (fun gk11f31 gk12f31 gk13f31 gk14f31 gk15f31 gk16f31 gf31 ri172 ri173 ri174 ri175 ri176 ri177 => ?_)
                        exact c_iret C dX11_unreadable_123 rfl (by decide) (rom0 hph pl16 (by decide)) ⟨f31, rfl, Xb2, F30, W31, ⟨by omega, by omega⟩, trivial, (gk11f31.trans hkp11), (gk12f31.trans hkp12), (gk13f31.trans hkp13), (gk14f31.trans hkp14), (gk15f31.trans hkp15), (gk16f31.trans hkp16), (show rvb2 a0 9 = rv a0 9 from hkr9), (show rvb2 a0 10 = rv a0 10 from hkr10)⟩
              refine hv24 (show 1 ≤ ivh20 a0 11 ∧ ivh20 a0 11 ≤ 100 from W20.int ty1 11) (show ivh20 a0 11 = ivh19 a0 11 from fl20.i ty1 rfl 11) (show ivh19 a0 11 = ivh5 a0 11 from fl19.i ty1 rfl 11) (show ivh5 a0 11 = iv a0 11 from fl5.i t_a0 rfl 11) (show 1 ≤ ivh20 a0 12 ∧ ivh20 a0 12 ≤ 50 from W20.int ty1 12) (show ivh20 a0 12 = ivh19 a0 12 from fl20.i ty1 rfl 12) (show ivh19 a0 12 = ivh5 a0 12 from fl19.i ty1 rfl 12) (show ivh5 a0 12 = iv a0 12 from fl5.i t_a0 rfl 12) (show (-2147483648) ≤ ivh20 a0 13 ∧ ivh20 a0 13 ≤ 2147483647 from W20.int ty1 13) (show ivh20 a0 13 = ivh19 a0 13 from fl20.i ty1 rfl 13) (show ivh19 a0 13 = ivh5 a0 13 from fl19.i ty1 rfl 13) (show ivh5 a0 13 = iv a0 13 from fl5.i t_a0 rfl 13) (show (-2147483648) ≤ ivh20 a0 14 ∧ ivh20 a0 14 ≤ 2147483647 from W20.int ty1 14) (show ivh20 a0 14 = ivh19 a0 14 from fl20.i ty1 rfl 14) (show ivh19 a0 14 = ivh5 a0 14 from fl19.i ty1 rfl 14) (show ivh5 a0 14 = iv a0 14 from fl5.i t_a0 rfl 14) (show (-2147483648) ≤ ivh20 a0 15 ∧ ivh20 a0 15 ≤ 2147483647 from W20.int ty1 15) (show ivh20 a0 15 = ivh19 a0 15 from fl20.i ty1 rfl 15) (show ivh19 a0 15 = ivh5 a0 15 from fl19.i ty1 rfl 15) (show ivh5 a0 15 = iv a0 15 from fl5.i t_a0 rfl 15) (show (-2147483648) ≤ ivh20 a0 16 ∧ ivh20 a0 16 ≤ 2147483647 from W20.int ty1 16) (show ivh20 a0 16 = ivh19 a0 16 from fl20.i ty1 rfl 16) (show ivh19 a0 16 = ivh5 a0 16 from fl19.i ty1 rfl 16) (show ivh5 a0 16 = iv a0 16 from fl5.i t_a0 rfl 16) (fun ri178 ie320 ie321 ie322 ri179 ie323 ie324 ie325 ri180 ie326 ie327 ie328 ri181 ie329 ie330 ie331 ri182 ie332 ie333 ie334 ri183 ie335 ie336 ie337 => ?_)
              refine c_lv (lv2 := [(5, .int (iI f20)), (6, .int (iI 0)), (4, .ref ob1), (0, .ref a0), (1, .int (iI i)), (2, .int (iI n)), (3, .int (iI lim))]) [1, 0, 2, 3, 4, 5, 6] rfl ?_
              exact Lp2 5004 f20 0 _ _ _ _ _ (by omega) X1 W20 F19  (by omega) (by omega) (ie320.trans (ie321.trans ie322)) (ie323.trans (ie324.trans ie325)) (ie326.trans (ie327.trans ie328)) (ie329.trans (ie330.trans ie331)) (ie332.trans (ie333.trans ie334)) (ie335.trans (ie336.trans ie337)) (show rvh5 a0 9 = rv a0 9 from (fl5.r t_a0 rfl 9)) (show rvh5 a0 10 = rv a0 10 from (fl5.r t_a0 rfl 10))
          · subst oq1
            refine c_lv (lv2 := [(4, .null), (0, .ref a0), (1, .int (iI i)), (2, .int (iI n)), (3, .int (iI lim))]) [0, 1, 2, 3, 4] rfl ?_
            refine c_st (st2 := []) rfl ?_
            refine c_aload_n (j := 1) (x := a0) C dX11_unreadable_45 rfl ?_
            refine c_iconst C dX11_unreadable_46 ?_
            refine d_callV (As := [.int (iI 3)]) (rest := []) C hM (C_refuse (a0 := a0) (x := 3) hW hS t_a0 ⟨by decide, by decide⟩ ) dX11_unreadable_47 kV_X11_102 rfl t_a0 rfl rfl (by decide) ck_12 rfl (Nat.le_of_ble_eq_true rfl) ⟨(Nat.le_of_ble_eq_true rfl), (Nat.le_of_ble_eq_true rfl)⟩ hph hph (show 0 + 0 = 0 from rfl) (by decide) (fun rh32 Lh32 clh32 lnh32 ivh32 rvh32 h32 => ?_)
            obtain ⟨f32, rfl, rfl, rfl, rfl, rfl, fl32, W32, rgf32, exf32, kp11f32, kp12f32, kp13f32, kp14f32, kp15f32, kp16f32⟩ := h32
            refine hv8 (show 1 ≤ iv a0 11 ∧ iv a0 11 ≤ 100 from hW.int t_a0 11) (show 1 ≤ iv a0 12 ∧ iv a0 12 ≤ 50 from hW.int t_a0 12) (show (-2147483648) ≤ iv a0 13 ∧ iv a0 13 ≤ 2147483647 from hW.int t_a0 13) (show (-2147483648) ≤ iv a0 14 ∧ iv a0 14 ≤ 2147483647 from hW.int t_a0 14) (show (-2147483648) ≤ iv a0 15 ∧ iv a0 15 ≤ 2147483647 from hW.int t_a0 15) (show (-2147483648) ≤ iv a0 16 ∧ iv a0 16 ≤ 2147483647 from hW.int t_a0 16) (hF0.call hX0 fl32 rfl) (MRK.call hmr hW hS XT.refl fl32 rfl rfl) (fun ri184 ri185 ri186 ri187 ri188 ri189 F31 mr31 => ?_)
            refine c_st (st2 := [.int (iI f32)]) rfl ?_
            refine hv13 (show ivh32 a0 11 = iv a0 11 from kp11f32) (show ivh32 a0 12 = iv a0 12 from kp12f32) (show ivh32 a0 13 = iv a0 13 from kp13f32) (show ivh32 a0 14 = iv a0 14 from kp14f32) (show ivh32 a0 15 = iv a0 15 from kp15f32) (show ivh32 a0 16 = iv a0 16 from kp16f32) (show f32 = -1 from exf32) (show 1 ≤ ivh32 a0 11 ∧ ivh32 a0 11 ≤ 100 from W32.int t_a0 11) (show 1 ≤ ivh32 a0 12 ∧ ivh32 a0 12 ≤ 50 from W32.int t_a0 12) (show (-2147483648) ≤ ivh32 a0 13 ∧ ivh32 a0 13 ≤ 2147483647 from W32.int t_a0 13) (show (-2147483648) ≤ ivh32 a0 14 ∧ ivh32 a0 14 ≤ 2147483647 from W32.int t_a0 14) (show (-2147483648) ≤ ivh32 a0 15 ∧ ivh32 a0 15 ≤ 2147483647 from W32.int t_a0 15) (show (-2147483648) ≤ ivh32 a0 16 ∧ ivh32 a0 16 ≤ 2147483647 from W32.int t_a0 16) (fun gk11f32 gk12f32 gk13f32 gk14f32 gk15f32 gk16f32 gf32 ri190 ri191 ri192 ri193 ri194 ri195 => ?_)
            exact c_iret C dX11_unreadable_50 rfl (by decide) (rom0 hph hph (by decide)) ⟨f32, rfl, hX0, F31, W32, ⟨by omega, by omega⟩, trivial, gk11f32, gk12f32, gk13f32, gk14f32, gk15f32, gk16f32, rfl, rfl⟩
        · refine c_aload_n (j := 0) (x := a0) C dX11_unreadable_23 rfl ?_
          refine c_bipush (z := 6) C dX11_unreadable_24 (by decide) ?_
          refine d_callV (As := [.int (iI 6)]) (rest := []) C hM (C_refuse (a0 := a0) (x := 6) hW hS t_a0 ⟨by decide, by decide⟩ ) dX11_unreadable_26 kV_X11_102 rfl t_a0 rfl rfl (by decide) ck_12 rfl (Nat.le_of_ble_eq_true rfl) ⟨(Nat.le_of_ble_eq_true rfl), (Nat.le_of_ble_eq_true rfl)⟩ hph hph (show 0 + 0 = 0 from rfl) (by decide) (fun rh33 Lh33 clh33 lnh33 ivh33 rvh33 h33 => ?_)
          obtain ⟨f33, rfl, rfl, rfl, rfl, rfl, fl33, W33, rgf33, exf33, kp11f33, kp12f33, kp13f33, kp14f33, kp15f33, kp16f33⟩ := h33
          refine hv8 (show 1 ≤ iv a0 11 ∧ iv a0 11 ≤ 100 from hW.int t_a0 11) (show 1 ≤ iv a0 12 ∧ iv a0 12 ≤ 50 from hW.int t_a0 12) (show (-2147483648) ≤ iv a0 13 ∧ iv a0 13 ≤ 2147483647 from hW.int t_a0 13) (show (-2147483648) ≤ iv a0 14 ∧ iv a0 14 ≤ 2147483647 from hW.int t_a0 14) (show (-2147483648) ≤ iv a0 15 ∧ iv a0 15 ≤ 2147483647 from hW.int t_a0 15) (show (-2147483648) ≤ iv a0 16 ∧ iv a0 16 ≤ 2147483647 from hW.int t_a0 16) (hF0.call hX0 fl33 rfl) (MRK.call hmr hW hS XT.refl fl33 rfl rfl) (fun ri196 ri197 ri198 ri199 ri200 ri201 F32 mr32 => ?_)
          refine c_st (st2 := [.int (iI f33)]) rfl ?_
          refine hv13 (show ivh33 a0 11 = iv a0 11 from kp11f33) (show ivh33 a0 12 = iv a0 12 from kp12f33) (show ivh33 a0 13 = iv a0 13 from kp13f33) (show ivh33 a0 14 = iv a0 14 from kp14f33) (show ivh33 a0 15 = iv a0 15 from kp15f33) (show ivh33 a0 16 = iv a0 16 from kp16f33) (show f33 = -1 from exf33) (show 1 ≤ ivh33 a0 11 ∧ ivh33 a0 11 ≤ 100 from W33.int t_a0 11) (show 1 ≤ ivh33 a0 12 ∧ ivh33 a0 12 ≤ 50 from W33.int t_a0 12) (show (-2147483648) ≤ ivh33 a0 13 ∧ ivh33 a0 13 ≤ 2147483647 from W33.int t_a0 13) (show (-2147483648) ≤ ivh33 a0 14 ∧ ivh33 a0 14 ≤ 2147483647 from W33.int t_a0 14) (show (-2147483648) ≤ ivh33 a0 15 ∧ ivh33 a0 15 ≤ 2147483647 from W33.int t_a0 15) (show (-2147483648) ≤ ivh33 a0 16 ∧ ivh33 a0 16 ≤ 2147483647 from W33.int t_a0 16) (fun gk11f33 gk12f33 gk13f33 gk14f33 gk15f33 gk16f33 gf33 ri202 ri203 ri204 ri205 ri206 ri207 => ?_)
          exact c_iret C dX11_unreadable_29 rfl (by decide) (rom0 hph hph (by decide)) ⟨f33, rfl, hX0, F32, W33, ⟨by omega, by omega⟩, trivial, gk11f33, gk12f33, gk13f33, gk14f33, gk15f33, gk16f33, rfl, rfl⟩
end
section
def NW (cs : List Nat) (L L2 : List Nat) (cl2 : Nat → Nat) : Prop := ∀ a ∈ L2, a ∈ L ∨ cs.contains (cl2 a) = true
section NWS
variable {g : Nat} {sk : Nat → Nat} {L L2 L3 : List Nat} {cl ln cl2 ln2 cl3 ln3 : Nat → Nat} {iv : Nat → Nat → Int} {rv : Nat → Nat → Option Nat} {q t : Nat} {cs cs2 : List Nat}
theorem NW.refl : NW [] L L cl := fun _ h => Or.inl h
theorem mem_c {x : Nat} (h : cs.contains x = true) : (t :: cs).contains x = true := by rw [List.contains_cons, h, Bool.or_true]
theorem NW.new (h : NW cs L L2 cl2) (hX : XT L2 cl2 ln2 (L2 ++ [q]) cl3 ln3) (hc : cl3 = va_up cl2 q t) : NW (t :: cs) L (L2 ++ [q]) cl3 := by
  intro a ha
  rcases List.mem_append.mp ha with h1 | h1
  · rcases h a h1 with w | w
    · exact Or.inl w
    · exact Or.inr (by rw [(hX a h1).2.1]; exact mem_c w)
  · rw [List.mem_singleton] at h1
    subst h1
    exact Or.inr (by rw [hc, va_up_self, List.contains_cons, beq_self_eq_true, Bool.true_or])
theorem NW.rt (h : NW cs L L2 cl2) (hc : cl3 = va_up cl2 q t) : NW (t :: cs) L L2 cl3 := by
  intro a ha
  by_cases e : a = q
  · subst e; exact Or.inr (by rw [hc, va_up_self, List.contains_cons, beq_self_eq_true, Bool.true_or])
  · rcases h a ha with w | w
    · exact Or.inl w
    · exact Or.inr (by rw [hc, va_up_ne _ _ e]; exact mem_c w)
theorem NW.call (h : NW cs L L2 cl2) (hX : XT L2 cl2 ln2 L3 cl3 ln3) (h2 : NW cs2 L2 L3 cl3) : NW (cs2 ++ cs) L L3 cl3 := by
  intro a ha
  rcases h2 a ha with w | w
  · rcases h a w with v | v
    · exact Or.inl v
    · exact Or.inr (by rw [(hX a w).2.1]; exact List.contains_iff_mem.mpr (List.mem_append_right _ (List.contains_iff_mem.mp v)))
  · exact Or.inr (List.contains_iff_mem.mpr (List.mem_append_left _ (List.contains_iff_mem.mp w)))
theorem NW.sub (h : NW cs L L2 cl2) (hs : cs.all (fun t => cs2.contains t) = true) : NW cs2 L L2 cl2 := by
  intro a ha
  rcases h a ha with w | w
  · exact Or.inl w
  · exact Or.inr (List.all_eq_true.mp hs _ (List.contains_iff_mem.mp w))
theorem NW.no (h : NW cs L L2 cl2) (hX : XT L cl ln L2 cl2 ln2) (h0 : ∀ a ∈ L, cl a ≠ t) (hc : cs.contains t = false) : ∀ a ∈ L2, cl2 a ≠ t := by
  intro a ha e
  rcases h a ha with w | w
  · exact h0 a w ((hX a w).2.1.symm.trans e)
  · rw [e, hc] at w; cases w
theorem NW.nos {P : Nat → Bool} {B : List Nat} (h : NW cs L L2 cl2) (hX : XT L cl ln L2 cl2 ln2) (h0 : ∀ t, P t = true → ∀ a ∈ L, cl a ≠ t) (hc : B.all (fun t => P t && !cs.contains t) = true) : ∀ t, B.contains t = true → ∀ a ∈ L2, cl2 a ≠ t := by
  intro t ht
  have q := List.all_eq_true.mp hc t (List.contains_iff_mem.mp ht)
  simp only [Bool.and_eq_true, Bool.not_eq_true'] at q
  exact NW.no h hX (h0 t q.1) q.2
theorem WT.retagU (h : WT g sk L cl ln iv rv) (hq : q ∈ L) (hraw : raw (bt (cl q)) = true) (hcl : cl2 = va_up cl q t) (hb : ∀ k, ilo (bt t) k ≤ iv q k ∧ iv q k ≤ ihi (bt t) k) (hr : ∀ k, rok L cl2 g q k (rv q k)) (ha : arr (bt t) = true → llo (bt t) ≤ ln q ∧ ln q ≤ lhi (bt t)) (hs : szd (bt t) = true → ∀ b, rv q 1 = some b → (b = g ∧ iv q 2 = 0) ∨ (b ∈ L ∧ iv q 2 ≤ ((ln b : Nat) : Int))) (hl : lst (bt t) = true → ∀ b, rv q 1 = some b → ∀ i : Nat, (i : Int) < iv q 2 → rv b i ≠ none) (hno : ∀ a ∈ L, cl a ≠ t) : WT g (va_up sk t q) L cl2 ln iv rv := by
  subst hcl
  have ho : ∀ w, w ≠ q → va_up cl q t w = cl w := fun w hw => va_up_ne _ _ hw
  obtain ⟨h1, h2, h3, h4, h5, h6, h7⟩ := id h
  have tg0 : ∀ T k, raw (tgt T k) = false := by
    intro T k
    unfold tgt raw
    split <;> (try split) <;> rfl
  refine ⟨fun w hw j => ?_, fun w hw j => ?_, fun w hw => ?_, fun w hw => ?_, fun w hw => ?_, fun w hw => ?_, h7⟩
  · by_cases e : w = q
    · subst e; rw [va_up_self]; exact hb j
    · rw [ho w e]; exact h1 w hw j
  · by_cases e : w = q
    · subst e; exact hr j
    · intro hrw
      rw [ho w e] at hrw ⊢
      obtain ⟨g1, g2⟩ := h2 w hw j hrw
      refine ⟨g1, fun b hb => ?_⟩
      rcases g2 b hb with c1 | c1
      · have hbq : b ≠ q := fun e2 => by rw [← e2, c1.2.1, tg0] at hraw; cases hraw
        refine Or.inl ⟨c1.1, by rw [ho b hbq]; exact c1.2.1, ?_, ?_⟩
        · rw [ho w e, ho b hbq]; exact c1.2.2.1
        · rw [ho w e, ho b hbq]; exact c1.2.2.2
      · exact Or.inr c1
  · by_cases e : w = q
    · subst e; rw [va_up_self]; exact ha
    · rw [ho w e]; exact h3 w hw
  · by_cases e : w = q
    · subst e; rw [va_up_self]; exact hs
    · rw [ho w e]; exact h4 w hw
  · by_cases e : w = q
    · subst e; rw [va_up_self]; exact hl
    · rw [ho w e]; exact h5 w hw
  · by_cases e : w = q
    · subst e; rw [va_up_self]; intro _; exact (va_up_self _ _ _).symm
    · rw [ho w e]; intro z; rw [va_up_ne _ _ (hno w hw)]; exact h6 w hw z
end NWS
end
section
set_option maxHeartbeats 4000000 in
set_option maxRecDepth 100000 in
theorem Y_acoll {l : Launch} {G : GT} {mi : Nat} {sk : Nat → Nat} {L : List Nat} {cl ln : Nat → Nat} {iv : Nat → Nat → Int} {rv : Nat → Nat → Option Nat}  {a0 : Nat} (hW : WT (g0 G) sk L cl ln iv rv) (t_a0 : ty L cl a0 200)  : Mc l G mi zPf 0 yJxa1e45_init_da8c8 cJxa1e45_init_da8c8 1 none 1 [.ref a0] L cl ln iv rv 0 (fun v L2 cl2 ln2 iv2 rv2 => v = none ∧ L = L2 ∧ cl = cl2 ∧ ln = ln2 ∧ iv = iv2 ∧ rv = rv2 ∧ (True)) := by
  refine Mc.mk (by decide) (Nat.le_of_ble_eq_true rfl) ?_
  intro p e s m args below meth c A C hM
  refine hv4 ((show zPf ln rv ≤ 0 from Nat.le_refl 0)) (show NW [] L L cl from NW.refl) (show XT L cl ln L cl ln from XT.refl) (show fT [] L cl iv rv iv rv from fT.refl) (fun hph nw0 hX0 hF0 => ?_)
  refine c_aload_n (j := 0) (x := a0) C dJxa1e45_init_da8c8_0 rfl ?_
  refine c_objInit C dJxa1e45_init_da8c8_1 w1_75 w1_30 w1_31 (by decide) (Nat.le_of_ble_eq_true rfl) ?_
  exact c_vret C dJxa1e45_init_da8c8_4 rfl (by decide) (rom0 hph hph (by decide)) ⟨rfl, rfl, rfl, rfl, rfl, rfl, trivial⟩
set_option maxHeartbeats 4000000 in
set_option maxRecDepth 100000 in
theorem Y_alist {l : Launch} {G : GT} {mi : Nat} {sk : Nat → Nat} {L : List Nat} {cl ln : Nat → Nat} {iv : Nat → Nat → Int} {rv : Nat → Nat → Option Nat}  {a0 : Nat} (hW : WT (g0 G) sk L cl ln iv rv) (t_a0 : ty L cl a0 200)  : Mc l G mi zPf 0 yJxc12de_init_da8c8 cJxc12de_init_da8c8 1 none 2 [.ref a0] L cl ln iv rv 0 (fun v L2 cl2 ln2 iv2 rv2 => v = none ∧ L = L2 ∧ cl = cl2 ∧ ln = ln2 ∧ rv = rv2 ∧ fT [200] L cl iv rv iv2 rv2 ∧ WT (g0 G) sk L2 cl2 ln2 iv2 rv2 ∧ (iv2 a0 2 = iv a0 2)) := by
  refine Mc.mk (by decide) (Nat.le_of_ble_eq_true rfl) ?_
  intro p e s m args below meth c A C hM
  refine hv4 ((show zPf ln rv ≤ 0 from Nat.le_refl 0)) (show NW [] L L cl from NW.refl) (show XT L cl ln L cl ln from XT.refl) (show fT [200] L cl iv rv iv rv from fT.refl) (fun hph nw0 hX0 hF0 => ?_)
  refine c_aload_n (j := 0) (x := a0) C dJxc12de_init_da8c8_0 rfl ?_
  refine c_callI (As := []) (rest := []) C hM (Y_acoll (a0 := a0) hW  t_a0  ) dJxc12de_init_da8c8_1 kI_Jxc12de_1 rfl rfl (Nat.le_of_ble_eq_true rfl) ⟨(Nat.le_of_ble_eq_true rfl), (Nat.le_of_ble_eq_true rfl)⟩ (rz0 hph (by decide)) (fun rh1 Lh1 clh1 lnh1 ivh1 rvh1 h1 => ⟨0, zk0, ?_⟩)
  obtain ⟨rfl, rfl, rfl, rfl, rfl, rfl, exf1⟩ := h1
  refine c_st (st2 := []) rfl ?_
  refine c_aload_n (j := 0) (x := a0) C dJxc12de_init_da8c8_4 rfl ?_
  refine c_iconst C dJxc12de_init_da8c8_5 ?_
  refine c_put (z := 0) (k := 0) C ck_0 dJxc12de_init_da8c8_6 w1_80 (by decide) rfl t_a0 rfl rfl (by decide) rfl (by rfl) (by rfl) (fun iv1 pq1 => ?_)
  refine hv3 (hW.puti pq1 t_a0 ⟨by decide, by decide⟩ rfl) (hF0.puti hX0 pq1 t_a0 rfl) (show iv1 a0 2 = iv a0 2 from by rw [pq1]; exact up2_j (by decide)) (fun W2 F1 ie1 => ?_)
  have ri1 : (-2147483648) ≤ iv1 a0 2 ∧ iv1 a0 2 ≤ 2147483647 := W2.int t_a0 2
  exact c_vret C dJxc12de_init_da8c8_9 rfl (by decide) (rom0 hph hph (by decide)) ⟨rfl, rfl, rfl, rfl, rfl, F1, W2, (by omega)⟩
set_option maxHeartbeats 4000000 in
set_option maxRecDepth 100000 in
theorem Y_list {l : Launch} {G : GT} {mi : Nat} {sk : Nat → Nat} {L : List Nat} {cl ln : Nat → Nat} {iv : Nat → Nat → Int} {rv : Nat → Nat → Option Nat}  {a0 : Nat} (hW : WT (g0 G) sk L cl ln iv rv) (t_a0 : ty L cl a0 200)  : Mc l G mi zPf 0 yJx4a65c_init_da8c8 cJx4a65c_init_da8c8 1 none 3 [.ref a0] L cl ln iv rv 0 (fun v L2 cl2 ln2 iv2 rv2 => v = none ∧ L = L2 ∧ cl = cl2 ∧ ln = ln2 ∧ fT [200] L cl iv rv iv2 rv2 ∧ WT (g0 G) sk L2 cl2 ln2 iv2 rv2 ∧ (rv2 a0 1 = some (g0 G) ∧ iv2 a0 2 = iv a0 2 ∧ (∀ k, ([1] : List Nat).contains k = false → rv2 a0 k = rv a0 k))) := by
  refine Mc.mk (by decide) (Nat.le_of_ble_eq_true rfl) ?_
  intro p e s m args below meth c A C hM
  refine hv4 ((show zPf ln rv ≤ 0 from Nat.le_refl 0)) (show NW [] L L cl from NW.refl) (show XT L cl ln L cl ln from XT.refl) (show fT [200] L cl iv rv iv rv from fT.refl) (fun hph nw0 hX0 hF0 => ?_)
  refine c_aload_n (j := 0) (x := a0) C dJx4a65c_init_da8c8_0 rfl ?_
  have ri1 : (-2147483648) ≤ iv a0 2 ∧ iv a0 2 ≤ 2147483647 := hW.int t_a0 2
  refine c_callI (As := []) (rest := []) C hM (Y_alist (a0 := a0) hW  t_a0  ) dJx4a65c_init_da8c8_1 kI_Jx4a65c_1 rfl rfl (Nat.le_of_ble_eq_true rfl) ⟨(Nat.le_of_ble_eq_true rfl), (Nat.le_of_ble_eq_true rfl)⟩ (rz0 hph (by decide)) (fun rh1 Lh1 clh1 lnh1 ivh1 rvh1 h1 => ⟨0, zk0, ?_⟩)
  obtain ⟨rfl, rfl, rfl, rfl, rfl, fl1, W1, exf1⟩ := h1
  have F1 := hF0.call hX0 fl1 rfl
  refine c_st (st2 := []) rfl ?_
  refine hv2 (show (-2147483648) ≤ ivh1 a0 2 ∧ ivh1 a0 2 ≤ 2147483647 from W1.int t_a0 2) (show ivh1 a0 2 = iv a0 2 from exf1) (fun ri2 gf1 => ?_)
  refine c_aload_n (j := 0) (x := a0) C dJx4a65c_init_da8c8_4 rfl ?_
  refine c_gets C dJx4a65c_init_da8c8_5 w1_76 ?_
  refine c_putr (x := (some (g0 G))) (k := 1) C ck_0 dJx4a65c_init_da8c8_8 w1_78 (by decide) rfl t_a0 rfl rfl (by decide) rfl (by rfl) (by rfl) (fun rv1 pq1 => ⟨0, (zp2 (Nat.le_refl _)), ?_⟩)
  refine hv4 (W1.putr pq1 t_a0 (fun qr => by rw [t_a0.2] at qr; cases qr) rfl (by decide)) (F1.putr hX0 pq1 t_a0 rfl) (show rv1 a0 1 = (some (g0 G)) from by rw [pq1]; exact upr_s) (show ∀ k, ([1] : List Nat).contains k = false → rv1 a0 k = rv a0 k from fun k hk => (show rv1 a0 k = rv a0 k from (by rw [pq1]; exact upr_j (fun e => by subst e; exact absurd hk (by decide))))) (fun W2 F2 rp1 rn1 => ?_)
  exact c_vret C dJx4a65c_init_da8c8_11 rfl (by decide) (rom0 hph (Nat.le_refl 0) (by decide)) ⟨rfl, rfl, rfl, rfl, F2, W2, ⟨rp1, (by omega), rn1⟩⟩
set_option maxHeartbeats 4000000 in
set_option maxRecDepth 100000 in
theorem Y_ints_2 {l : Launch} {G : GT} {mi : Nat} {sk : Nat → Nat} {L : List Nat} {cl ln : Nat → Nat} {iv : Nat → Nat → Int} {rv : Nat → Nat → Option Nat}  {a0 : Nat} {i : Int} (hW : WT (g0 G) sk L cl ln iv rv) (t_a0 : ty L cl a0 202) (h_i : -2147483648 ≤ i ∧ i ≤ 2147483647)  : Mc l G mi zPf 0 yX1_init cX1_init 2 none 1 [.ref a0, .int (iI i)] L cl ln iv rv 32 (fun v L2 cl2 ln2 iv2 rv2 => v = none ∧ XT L cl ln L2 cl2 ln2 ∧ fT [202] L cl iv rv iv2 rv2 ∧ WT (g0 G) sk L2 cl2 ln2 iv2 rv2 ∧ (∃ b, (∀ k, ([1] : List Nat).contains k = false → rv2 a0 k = rv a0 k) ∧ rv2 a0 1 = some b ∧ ty L2 cl2 b 32 ∧ ln2 b = 16 ∧ iv2 a0 0 = i ∧ iv2 a0 2 = 0) ∧ NW [32] L L2 cl2) := by
  refine Mc.mk (by decide) (Nat.le_of_ble_eq_true rfl) ?_
  intro p e s m args below meth c A C hM
  refine hv4 ((show zPf ln rv ≤ 0 from Nat.le_refl 0)) (show NW [] L L cl from NW.refl) (show XT L cl ln L cl ln from XT.refl) (show fT [202] L cl iv rv iv rv from fT.refl) (fun hph nw0 hX0 hF0 => ?_)
  refine c_aload_n (j := 0) (x := a0) C dX1_init_0 rfl ?_
  refine c_objInit C dX1_init_1 w1_37 w1_30 w1_31 (by decide) (Nat.le_of_ble_eq_true rfl) ?_
  refine c_aload_n (j := 0) (x := a0) C dX1_init_4 rfl ?_
  refine c_iconst C dX1_init_5 ?_
  refine c_put (z := 0) (k := 2) C ck_2 dX1_init_6 w1_43 (by decide) rfl t_a0 rfl rfl (by decide) rfl (by rfl) (by rfl) (fun iv1 pq1 => ?_)
  refine hv2 (hW.puti pq1 t_a0 ⟨by decide, by decide⟩ rfl) (hF0.puti hX0 pq1 t_a0 rfl) (fun W1 F1 => ?_)
  refine c_aload_n (j := 0) (x := a0) C dX1_init_9 rfl ?_
  refine c_iload_n (j := 1) C dX1_init_10 rfl ?_
  refine c_putF (z := i) (k := 0) C ck_2 dX1_init_11 w1_38 (by decide) rfl rfl rfl t_a0 rfl rfl (by decide) rfl (by rfl) (by rfl) (fun iv2 pq2 => ?_)
  refine hv2 (W1.puti pq2 t_a0 (show (-2147483648) ≤ i ∧ i ≤ 2147483647 by omega) rfl) (F1.puti hX0 pq2 t_a0 rfl) (fun W2 F2 => ?_)
  refine c_aload_n (j := 0) (x := a0) C dX1_init_14 rfl ?_
  refine c_bipush (z := 16) C dX1_init_15 (by decide) ?_
  refine c_newaI (z := 16) (N := 16) C 32 dX1_init_17 w1_57 rfl (by omega) (by omega) (rom2 hph hph (by decide)) (fun qn1 cln1 lnn1 ivn1 rvn1 hqn1 hcn1 hln1 hin1 hrn1 => ⟨32, (z_in (by omega)), ?_⟩)
  refine c_g0 C (fun hg1 => ?_)
  refine hv5 (show ∀ b, b ≠ qn1 → lnn1 b = ln b from (fun b hb => by rw [hln1]; exact va_up_ne _ _ hb)) (show lnn1 qn1 = 16 from by rw [hln1]; exact va_up_self _ _ _) (F2.new hX0 hqn1 hin1 hrn1) (show ty (L ++ [qn1]) cln1 qn1 32 from ty_new hcn1) (show qn1 ∉ L from fun h => hqn1 ((hX0 qn1 h).1)) (fun hxn1 lqn1 F3 tqn1 h0qn1 => ?_)
  refine hv2 (W2.new (ln2 := lnn1) hqn1 (hg1 qn1 (List.mem_append_right _ List.mem_cons_self)) hcn1 hxn1 hin1 hrn1 (fun _ => ⟨(show (-2147483648 : Int) ≤ 0 by decide), (show (0 : Int) ≤ 2147483647 by decide)⟩) (Or.inr (fun _ => rfl)) (fun _ => by show 16 ≤ lnn1 qn1 ∧ lnn1 qn1 ≤ 6000; omega) rfl rfl) (XT.new hqn1 hcn1 hxn1) (fun W3 xl1 => ?_)
  refine hv3 (hX0.trans xl1) (nw0.new xl1 hcn1) (xl1.ty t_a0) (fun X1 nw1 ty1 => ?_)
  refine c_putr (x := (some qn1)) (k := 1) C ck_2 dX1_init_19 w1_39 (by decide) rfl ty1 rfl rfl (by decide) rfl (by rfl) (by rfl) (fun rv1 pq3 => ⟨32, (zp2 (Nat.le_refl _)), ?_⟩)
  refine hv9 (W3.putr pq3 ty1 (fun qr => by rw [ty1.2] at qr; cases qr) rfl (by decide)) (F3.putr X1 pq3 ty1 rfl) (show rv1 a0 1 = (some qn1) from by rw [pq3]; exact upr_s) (show ∀ k, ([1] : List Nat).contains k = false → rv1 a0 k = rv a0 k from fun k hk => (Eq.trans (show rv1 a0 k = rvn1 a0 k from (by rw [pq3]; exact upr_j (fun e => by subst e; exact absurd hk (by decide)))) (show rvn1 a0 k = rv a0 k from (by rw [hrn1]; exact congrFun (up0_a (ne_in t_a0.1 hqn1)) _)))) (show ivn1 a0 0 = iv2 a0 0 from by rw [hin1]; exact congrFun (up0_a (ne_in t_a0.1 hqn1)) _) (show iv2 a0 0 = i from by rw [pq2]; exact up2_s) (show ivn1 a0 2 = iv2 a0 2 from by rw [hin1]; exact congrFun (up0_a (ne_in t_a0.1 hqn1)) _) (show iv2 a0 2 = iv1 a0 2 from by rw [pq2]; exact up2_j (by decide)) (show iv1 a0 2 = 0 from by rw [pq1]; exact up2_s) (fun W4 F4 rp1 rn1 ie1 ie2 ie3 ie4 ie5 => ?_)
  refine hv2 (show (-2147483648) ≤ ivn1 a0 0 ∧ ivn1 a0 0 ≤ 2147483647 from W4.int ty1 0) (show (-2147483648) ≤ ivn1 a0 2 ∧ ivn1 a0 2 ≤ 2147483647 from W4.int ty1 2) (fun ri1 ri2 => ?_)
  exact c_vret C dX1_init_22 rfl (by decide) (rom0 hph (Nat.le_refl 0) (by decide)) ⟨rfl, X1, F4, W4, ⟨qn1, rn1, rp1, tqn1, (by omega), (by omega), (by omega)⟩, nw1.sub (by decide)⟩
set_option maxHeartbeats 4000000 in
set_option maxRecDepth 100000 in
theorem Y_ints_3 {l : Launch} {G : GT} {mi : Nat} {sk : Nat → Nat} {L : List Nat} {cl ln : Nat → Nat} {iv : Nat → Nat → Int} {rv : Nat → Nat → Option Nat}  {a0 : Nat} {i : Int} (hW : WT (g0 G) sk L cl ln iv rv) (t_a0 : ty L cl a0 202) (h_i : -2147483648 ≤ i ∧ i ≤ 2147483647)  : Mc l G mi zPf 0 yX1_init cX1_init 2 none 1 [.ref a0, .int (iI i)] L cl ln iv rv 32 (fun v L2 cl2 ln2 iv2 rv2 => v = none ∧ XT L cl ln L2 cl2 ln2 ∧ fT [202] L cl iv rv iv2 rv2 ∧ WT (g0 G) sk L2 cl2 ln2 iv2 rv2 ∧ (∃ b, (∀ k, ([1] : List Nat).contains k = false → rv2 a0 k = rv a0 k) ∧ rv2 a0 1 = some b ∧ ty L2 cl2 b 33 ∧ ln2 b = 16 ∧ iv2 a0 0 = i ∧ iv2 a0 2 = 0) ∧ NW [33] L L2 cl2) := by
  refine Mc.mk (by decide) (Nat.le_of_ble_eq_true rfl) ?_
  intro p e s m args below meth c A C hM
  refine hv4 ((show zPf ln rv ≤ 0 from Nat.le_refl 0)) (show NW [] L L cl from NW.refl) (show XT L cl ln L cl ln from XT.refl) (show fT [202] L cl iv rv iv rv from fT.refl) (fun hph nw0 hX0 hF0 => ?_)
  refine c_aload_n (j := 0) (x := a0) C dX1_init_0 rfl ?_
  refine c_objInit C dX1_init_1 w1_37 w1_30 w1_31 (by decide) (Nat.le_of_ble_eq_true rfl) ?_
  refine c_aload_n (j := 0) (x := a0) C dX1_init_4 rfl ?_
  refine c_iconst C dX1_init_5 ?_
  refine c_put (z := 0) (k := 2) C ck_2 dX1_init_6 w1_43 (by decide) rfl t_a0 rfl rfl (by decide) rfl (by rfl) (by rfl) (fun iv1 pq1 => ?_)
  refine hv2 (hW.puti pq1 t_a0 ⟨by decide, by decide⟩ rfl) (hF0.puti hX0 pq1 t_a0 rfl) (fun W1 F1 => ?_)
  refine c_aload_n (j := 0) (x := a0) C dX1_init_9 rfl ?_
  refine c_iload_n (j := 1) C dX1_init_10 rfl ?_
  refine c_putF (z := i) (k := 0) C ck_2 dX1_init_11 w1_38 (by decide) rfl rfl rfl t_a0 rfl rfl (by decide) rfl (by rfl) (by rfl) (fun iv2 pq2 => ?_)
  refine hv2 (W1.puti pq2 t_a0 (show (-2147483648) ≤ i ∧ i ≤ 2147483647 by omega) rfl) (F1.puti hX0 pq2 t_a0 rfl) (fun W2 F2 => ?_)
  refine c_aload_n (j := 0) (x := a0) C dX1_init_14 rfl ?_
  refine c_bipush (z := 16) C dX1_init_15 (by decide) ?_
  refine c_newaI (z := 16) (N := 16) C 33 dX1_init_17 w1_57 rfl (by omega) (by omega) (rom2 hph hph (by decide)) (fun qn1 cln1 lnn1 ivn1 rvn1 hqn1 hcn1 hln1 hin1 hrn1 => ⟨32, (z_in (by omega)), ?_⟩)
  refine c_g0 C (fun hg1 => ?_)
  refine hv5 (show ∀ b, b ≠ qn1 → lnn1 b = ln b from (fun b hb => by rw [hln1]; exact va_up_ne _ _ hb)) (show lnn1 qn1 = 16 from by rw [hln1]; exact va_up_self _ _ _) (F2.new hX0 hqn1 hin1 hrn1) (show ty (L ++ [qn1]) cln1 qn1 33 from ty_new hcn1) (show qn1 ∉ L from fun h => hqn1 ((hX0 qn1 h).1)) (fun hxn1 lqn1 F3 tqn1 h0qn1 => ?_)
  refine hv2 (W2.new (ln2 := lnn1) hqn1 (hg1 qn1 (List.mem_append_right _ List.mem_cons_self)) hcn1 hxn1 hin1 hrn1 (fun _ => ⟨(show (-2147483648 : Int) ≤ 0 by decide), (show (0 : Int) ≤ 2147483647 by decide)⟩) (Or.inr (fun _ => rfl)) (fun _ => by show 16 ≤ lnn1 qn1 ∧ lnn1 qn1 ≤ 1000; omega) rfl rfl) (XT.new hqn1 hcn1 hxn1) (fun W3 xl1 => ?_)
  refine hv3 (hX0.trans xl1) (nw0.new xl1 hcn1) (xl1.ty t_a0) (fun X1 nw1 ty1 => ?_)
  refine c_putr (x := (some qn1)) (k := 1) C ck_2 dX1_init_19 w1_39 (by decide) rfl ty1 rfl rfl (by decide) rfl (by rfl) (by rfl) (fun rv1 pq3 => ⟨32, (zp2 (Nat.le_refl _)), ?_⟩)
  refine hv9 (W3.putr pq3 ty1 (fun qr => by rw [ty1.2] at qr; cases qr) rfl (by decide)) (F3.putr X1 pq3 ty1 rfl) (show rv1 a0 1 = (some qn1) from by rw [pq3]; exact upr_s) (show ∀ k, ([1] : List Nat).contains k = false → rv1 a0 k = rv a0 k from fun k hk => (Eq.trans (show rv1 a0 k = rvn1 a0 k from (by rw [pq3]; exact upr_j (fun e => by subst e; exact absurd hk (by decide)))) (show rvn1 a0 k = rv a0 k from (by rw [hrn1]; exact congrFun (up0_a (ne_in t_a0.1 hqn1)) _)))) (show ivn1 a0 0 = iv2 a0 0 from by rw [hin1]; exact congrFun (up0_a (ne_in t_a0.1 hqn1)) _) (show iv2 a0 0 = i from by rw [pq2]; exact up2_s) (show ivn1 a0 2 = iv2 a0 2 from by rw [hin1]; exact congrFun (up0_a (ne_in t_a0.1 hqn1)) _) (show iv2 a0 2 = iv1 a0 2 from by rw [pq2]; exact up2_j (by decide)) (show iv1 a0 2 = 0 from by rw [pq1]; exact up2_s) (fun W4 F4 rp1 rn1 ie1 ie2 ie3 ie4 ie5 => ?_)
  refine hv2 (show (-2147483648) ≤ ivn1 a0 0 ∧ ivn1 a0 0 ≤ 2147483647 from W4.int ty1 0) (show (-2147483648) ≤ ivn1 a0 2 ∧ ivn1 a0 2 ≤ 2147483647 from W4.int ty1 2) (fun ri1 ri2 => ?_)
  exact c_vret C dX1_init_22 rfl (by decide) (rom0 hph (Nat.le_refl 0) (by decide)) ⟨rfl, X1, F4, W4, ⟨qn1, rn1, rp1, tqn1, (by omega), (by omega), (by omega)⟩, nw1.sub (by decide)⟩
set_option maxHeartbeats 4000000 in
set_option maxRecDepth 100000 in
theorem Y_ints_4 {l : Launch} {G : GT} {mi : Nat} {sk : Nat → Nat} {L : List Nat} {cl ln : Nat → Nat} {iv : Nat → Nat → Int} {rv : Nat → Nat → Option Nat}  {a0 : Nat} {i : Int} (hW : WT (g0 G) sk L cl ln iv rv) (t_a0 : ty L cl a0 202) (h_i : -2147483648 ≤ i ∧ i ≤ 2147483647)  : Mc l G mi zPf 0 yX1_init cX1_init 2 none 1 [.ref a0, .int (iI i)] L cl ln iv rv 32 (fun v L2 cl2 ln2 iv2 rv2 => v = none ∧ XT L cl ln L2 cl2 ln2 ∧ fT [202] L cl iv rv iv2 rv2 ∧ WT (g0 G) sk L2 cl2 ln2 iv2 rv2 ∧ (∃ b, (∀ k, ([1] : List Nat).contains k = false → rv2 a0 k = rv a0 k) ∧ rv2 a0 1 = some b ∧ ty L2 cl2 b 34 ∧ ln2 b = 16 ∧ iv2 a0 0 = i ∧ iv2 a0 2 = 0) ∧ NW [34] L L2 cl2) := by
  refine Mc.mk (by decide) (Nat.le_of_ble_eq_true rfl) ?_
  intro p e s m args below meth c A C hM
  refine hv4 ((show zPf ln rv ≤ 0 from Nat.le_refl 0)) (show NW [] L L cl from NW.refl) (show XT L cl ln L cl ln from XT.refl) (show fT [202] L cl iv rv iv rv from fT.refl) (fun hph nw0 hX0 hF0 => ?_)
  refine c_aload_n (j := 0) (x := a0) C dX1_init_0 rfl ?_
  refine c_objInit C dX1_init_1 w1_37 w1_30 w1_31 (by decide) (Nat.le_of_ble_eq_true rfl) ?_
  refine c_aload_n (j := 0) (x := a0) C dX1_init_4 rfl ?_
  refine c_iconst C dX1_init_5 ?_
  refine c_put (z := 0) (k := 2) C ck_2 dX1_init_6 w1_43 (by decide) rfl t_a0 rfl rfl (by decide) rfl (by rfl) (by rfl) (fun iv1 pq1 => ?_)
  refine hv2 (hW.puti pq1 t_a0 ⟨by decide, by decide⟩ rfl) (hF0.puti hX0 pq1 t_a0 rfl) (fun W1 F1 => ?_)
  refine c_aload_n (j := 0) (x := a0) C dX1_init_9 rfl ?_
  refine c_iload_n (j := 1) C dX1_init_10 rfl ?_
  refine c_putF (z := i) (k := 0) C ck_2 dX1_init_11 w1_38 (by decide) rfl rfl rfl t_a0 rfl rfl (by decide) rfl (by rfl) (by rfl) (fun iv2 pq2 => ?_)
  refine hv2 (W1.puti pq2 t_a0 (show (-2147483648) ≤ i ∧ i ≤ 2147483647 by omega) rfl) (F1.puti hX0 pq2 t_a0 rfl) (fun W2 F2 => ?_)
  refine c_aload_n (j := 0) (x := a0) C dX1_init_14 rfl ?_
  refine c_bipush (z := 16) C dX1_init_15 (by decide) ?_
  refine c_newaI (z := 16) (N := 16) C 34 dX1_init_17 w1_57 rfl (by omega) (by omega) (rom2 hph hph (by decide)) (fun qn1 cln1 lnn1 ivn1 rvn1 hqn1 hcn1 hln1 hin1 hrn1 => ⟨32, (z_in (by omega)), ?_⟩)
  refine c_g0 C (fun hg1 => ?_)
  refine hv5 (show ∀ b, b ≠ qn1 → lnn1 b = ln b from (fun b hb => by rw [hln1]; exact va_up_ne _ _ hb)) (show lnn1 qn1 = 16 from by rw [hln1]; exact va_up_self _ _ _) (F2.new hX0 hqn1 hin1 hrn1) (show ty (L ++ [qn1]) cln1 qn1 34 from ty_new hcn1) (show qn1 ∉ L from fun h => hqn1 ((hX0 qn1 h).1)) (fun hxn1 lqn1 F3 tqn1 h0qn1 => ?_)
  refine hv2 (W2.new (ln2 := lnn1) hqn1 (hg1 qn1 (List.mem_append_right _ List.mem_cons_self)) hcn1 hxn1 hin1 hrn1 (fun _ => ⟨(show (-2147483648 : Int) ≤ 0 by decide), (show (0 : Int) ≤ 2147483647 by decide)⟩) (Or.inr (fun _ => rfl)) (fun _ => by show 16 ≤ lnn1 qn1 ∧ lnn1 qn1 ≤ 8000; omega) rfl rfl) (XT.new hqn1 hcn1 hxn1) (fun W3 xl1 => ?_)
  refine hv3 (hX0.trans xl1) (nw0.new xl1 hcn1) (xl1.ty t_a0) (fun X1 nw1 ty1 => ?_)
  refine c_putr (x := (some qn1)) (k := 1) C ck_2 dX1_init_19 w1_39 (by decide) rfl ty1 rfl rfl (by decide) rfl (by rfl) (by rfl) (fun rv1 pq3 => ⟨32, (zp2 (Nat.le_refl _)), ?_⟩)
  refine hv9 (W3.putr pq3 ty1 (fun qr => by rw [ty1.2] at qr; cases qr) rfl (by decide)) (F3.putr X1 pq3 ty1 rfl) (show rv1 a0 1 = (some qn1) from by rw [pq3]; exact upr_s) (show ∀ k, ([1] : List Nat).contains k = false → rv1 a0 k = rv a0 k from fun k hk => (Eq.trans (show rv1 a0 k = rvn1 a0 k from (by rw [pq3]; exact upr_j (fun e => by subst e; exact absurd hk (by decide)))) (show rvn1 a0 k = rv a0 k from (by rw [hrn1]; exact congrFun (up0_a (ne_in t_a0.1 hqn1)) _)))) (show ivn1 a0 0 = iv2 a0 0 from by rw [hin1]; exact congrFun (up0_a (ne_in t_a0.1 hqn1)) _) (show iv2 a0 0 = i from by rw [pq2]; exact up2_s) (show ivn1 a0 2 = iv2 a0 2 from by rw [hin1]; exact congrFun (up0_a (ne_in t_a0.1 hqn1)) _) (show iv2 a0 2 = iv1 a0 2 from by rw [pq2]; exact up2_j (by decide)) (show iv1 a0 2 = 0 from by rw [pq1]; exact up2_s) (fun W4 F4 rp1 rn1 ie1 ie2 ie3 ie4 ie5 => ?_)
  refine hv2 (show (-2147483648) ≤ ivn1 a0 0 ∧ ivn1 a0 0 ≤ 2147483647 from W4.int ty1 0) (show (-2147483648) ≤ ivn1 a0 2 ∧ ivn1 a0 2 ≤ 2147483647 from W4.int ty1 2) (fun ri1 ri2 => ?_)
  exact c_vret C dX1_init_22 rfl (by decide) (rom0 hph (Nat.le_refl 0) (by decide)) ⟨rfl, X1, F4, W4, ⟨qn1, rn1, rp1, tqn1, (by omega), (by omega), (by omega)⟩, nw1.sub (by decide)⟩
set_option maxHeartbeats 4000000 in
set_option maxRecDepth 100000 in
theorem Y_ints_5 {l : Launch} {G : GT} {mi : Nat} {sk : Nat → Nat} {L : List Nat} {cl ln : Nat → Nat} {iv : Nat → Nat → Int} {rv : Nat → Nat → Option Nat}  {a0 : Nat} {i : Int} (hW : WT (g0 G) sk L cl ln iv rv) (t_a0 : ty L cl a0 202) (h_i : -2147483648 ≤ i ∧ i ≤ 2147483647)  : Mc l G mi zPf 0 yX1_init cX1_init 2 none 1 [.ref a0, .int (iI i)] L cl ln iv rv 32 (fun v L2 cl2 ln2 iv2 rv2 => v = none ∧ XT L cl ln L2 cl2 ln2 ∧ fT [202] L cl iv rv iv2 rv2 ∧ WT (g0 G) sk L2 cl2 ln2 iv2 rv2 ∧ (∃ b, (∀ k, ([1] : List Nat).contains k = false → rv2 a0 k = rv a0 k) ∧ rv2 a0 1 = some b ∧ ty L2 cl2 b 35 ∧ ln2 b = 16 ∧ iv2 a0 0 = i ∧ iv2 a0 2 = 0) ∧ NW [35] L L2 cl2) := by
  refine Mc.mk (by decide) (Nat.le_of_ble_eq_true rfl) ?_
  intro p e s m args below meth c A C hM
  refine hv4 ((show zPf ln rv ≤ 0 from Nat.le_refl 0)) (show NW [] L L cl from NW.refl) (show XT L cl ln L cl ln from XT.refl) (show fT [202] L cl iv rv iv rv from fT.refl) (fun hph nw0 hX0 hF0 => ?_)
  refine c_aload_n (j := 0) (x := a0) C dX1_init_0 rfl ?_
  refine c_objInit C dX1_init_1 w1_37 w1_30 w1_31 (by decide) (Nat.le_of_ble_eq_true rfl) ?_
  refine c_aload_n (j := 0) (x := a0) C dX1_init_4 rfl ?_
  refine c_iconst C dX1_init_5 ?_
  refine c_put (z := 0) (k := 2) C ck_2 dX1_init_6 w1_43 (by decide) rfl t_a0 rfl rfl (by decide) rfl (by rfl) (by rfl) (fun iv1 pq1 => ?_)
  refine hv2 (hW.puti pq1 t_a0 ⟨by decide, by decide⟩ rfl) (hF0.puti hX0 pq1 t_a0 rfl) (fun W1 F1 => ?_)
  refine c_aload_n (j := 0) (x := a0) C dX1_init_9 rfl ?_
  refine c_iload_n (j := 1) C dX1_init_10 rfl ?_
  refine c_putF (z := i) (k := 0) C ck_2 dX1_init_11 w1_38 (by decide) rfl rfl rfl t_a0 rfl rfl (by decide) rfl (by rfl) (by rfl) (fun iv2 pq2 => ?_)
  refine hv2 (W1.puti pq2 t_a0 (show (-2147483648) ≤ i ∧ i ≤ 2147483647 by omega) rfl) (F1.puti hX0 pq2 t_a0 rfl) (fun W2 F2 => ?_)
  refine c_aload_n (j := 0) (x := a0) C dX1_init_14 rfl ?_
  refine c_bipush (z := 16) C dX1_init_15 (by decide) ?_
  refine c_newaI (z := 16) (N := 16) C 35 dX1_init_17 w1_57 rfl (by omega) (by omega) (rom2 hph hph (by decide)) (fun qn1 cln1 lnn1 ivn1 rvn1 hqn1 hcn1 hln1 hin1 hrn1 => ⟨32, (z_in (by omega)), ?_⟩)
  refine c_g0 C (fun hg1 => ?_)
  refine hv5 (show ∀ b, b ≠ qn1 → lnn1 b = ln b from (fun b hb => by rw [hln1]; exact va_up_ne _ _ hb)) (show lnn1 qn1 = 16 from by rw [hln1]; exact va_up_self _ _ _) (F2.new hX0 hqn1 hin1 hrn1) (show ty (L ++ [qn1]) cln1 qn1 35 from ty_new hcn1) (show qn1 ∉ L from fun h => hqn1 ((hX0 qn1 h).1)) (fun hxn1 lqn1 F3 tqn1 h0qn1 => ?_)
  refine hv2 (W2.new (ln2 := lnn1) hqn1 (hg1 qn1 (List.mem_append_right _ List.mem_cons_self)) hcn1 hxn1 hin1 hrn1 (fun _ => ⟨(show (-2147483648 : Int) ≤ 0 by decide), (show (0 : Int) ≤ 2147483647 by decide)⟩) (Or.inr (fun _ => rfl)) (fun _ => by show 16 ≤ lnn1 qn1 ∧ lnn1 qn1 ≤ 400; omega) rfl rfl) (XT.new hqn1 hcn1 hxn1) (fun W3 xl1 => ?_)
  refine hv3 (hX0.trans xl1) (nw0.new xl1 hcn1) (xl1.ty t_a0) (fun X1 nw1 ty1 => ?_)
  refine c_putr (x := (some qn1)) (k := 1) C ck_2 dX1_init_19 w1_39 (by decide) rfl ty1 rfl rfl (by decide) rfl (by rfl) (by rfl) (fun rv1 pq3 => ⟨32, (zp2 (Nat.le_refl _)), ?_⟩)
  refine hv9 (W3.putr pq3 ty1 (fun qr => by rw [ty1.2] at qr; cases qr) rfl (by decide)) (F3.putr X1 pq3 ty1 rfl) (show rv1 a0 1 = (some qn1) from by rw [pq3]; exact upr_s) (show ∀ k, ([1] : List Nat).contains k = false → rv1 a0 k = rv a0 k from fun k hk => (Eq.trans (show rv1 a0 k = rvn1 a0 k from (by rw [pq3]; exact upr_j (fun e => by subst e; exact absurd hk (by decide)))) (show rvn1 a0 k = rv a0 k from (by rw [hrn1]; exact congrFun (up0_a (ne_in t_a0.1 hqn1)) _)))) (show ivn1 a0 0 = iv2 a0 0 from by rw [hin1]; exact congrFun (up0_a (ne_in t_a0.1 hqn1)) _) (show iv2 a0 0 = i from by rw [pq2]; exact up2_s) (show ivn1 a0 2 = iv2 a0 2 from by rw [hin1]; exact congrFun (up0_a (ne_in t_a0.1 hqn1)) _) (show iv2 a0 2 = iv1 a0 2 from by rw [pq2]; exact up2_j (by decide)) (show iv1 a0 2 = 0 from by rw [pq1]; exact up2_s) (fun W4 F4 rp1 rn1 ie1 ie2 ie3 ie4 ie5 => ?_)
  refine hv2 (show (-2147483648) ≤ ivn1 a0 0 ∧ ivn1 a0 0 ≤ 2147483647 from W4.int ty1 0) (show (-2147483648) ≤ ivn1 a0 2 ∧ ivn1 a0 2 ≤ 2147483647 from W4.int ty1 2) (fun ri1 ri2 => ?_)
  exact c_vret C dX1_init_22 rfl (by decide) (rom0 hph (Nat.le_refl 0) (by decide)) ⟨rfl, X1, F4, W4, ⟨qn1, rn1, rp1, tqn1, (by omega), (by omega), (by omega)⟩, nw1.sub (by decide)⟩
set_option maxHeartbeats 4000000 in
set_option maxRecDepth 100000 in
theorem Y_ints_6 {l : Launch} {G : GT} {mi : Nat} {sk : Nat → Nat} {L : List Nat} {cl ln : Nat → Nat} {iv : Nat → Nat → Int} {rv : Nat → Nat → Option Nat}  {a0 : Nat} {i : Int} (hW : WT (g0 G) sk L cl ln iv rv) (t_a0 : ty L cl a0 202) (h_i : -2147483648 ≤ i ∧ i ≤ 2147483647)  : Mc l G mi zPf 0 yX1_init cX1_init 2 none 1 [.ref a0, .int (iI i)] L cl ln iv rv 32 (fun v L2 cl2 ln2 iv2 rv2 => v = none ∧ XT L cl ln L2 cl2 ln2 ∧ fT [202] L cl iv rv iv2 rv2 ∧ WT (g0 G) sk L2 cl2 ln2 iv2 rv2 ∧ (∃ b, (∀ k, ([1] : List Nat).contains k = false → rv2 a0 k = rv a0 k) ∧ rv2 a0 1 = some b ∧ ty L2 cl2 b 36 ∧ ln2 b = 16 ∧ iv2 a0 0 = i ∧ iv2 a0 2 = 0) ∧ NW [36] L L2 cl2) := by
  refine Mc.mk (by decide) (Nat.le_of_ble_eq_true rfl) ?_
  intro p e s m args below meth c A C hM
  refine hv4 ((show zPf ln rv ≤ 0 from Nat.le_refl 0)) (show NW [] L L cl from NW.refl) (show XT L cl ln L cl ln from XT.refl) (show fT [202] L cl iv rv iv rv from fT.refl) (fun hph nw0 hX0 hF0 => ?_)
  refine c_aload_n (j := 0) (x := a0) C dX1_init_0 rfl ?_
  refine c_objInit C dX1_init_1 w1_37 w1_30 w1_31 (by decide) (Nat.le_of_ble_eq_true rfl) ?_
  refine c_aload_n (j := 0) (x := a0) C dX1_init_4 rfl ?_
  refine c_iconst C dX1_init_5 ?_
  refine c_put (z := 0) (k := 2) C ck_2 dX1_init_6 w1_43 (by decide) rfl t_a0 rfl rfl (by decide) rfl (by rfl) (by rfl) (fun iv1 pq1 => ?_)
  refine hv2 (hW.puti pq1 t_a0 ⟨by decide, by decide⟩ rfl) (hF0.puti hX0 pq1 t_a0 rfl) (fun W1 F1 => ?_)
  refine c_aload_n (j := 0) (x := a0) C dX1_init_9 rfl ?_
  refine c_iload_n (j := 1) C dX1_init_10 rfl ?_
  refine c_putF (z := i) (k := 0) C ck_2 dX1_init_11 w1_38 (by decide) rfl rfl rfl t_a0 rfl rfl (by decide) rfl (by rfl) (by rfl) (fun iv2 pq2 => ?_)
  refine hv2 (W1.puti pq2 t_a0 (show (-2147483648) ≤ i ∧ i ≤ 2147483647 by omega) rfl) (F1.puti hX0 pq2 t_a0 rfl) (fun W2 F2 => ?_)
  refine c_aload_n (j := 0) (x := a0) C dX1_init_14 rfl ?_
  refine c_bipush (z := 16) C dX1_init_15 (by decide) ?_
  refine c_newaI (z := 16) (N := 16) C 36 dX1_init_17 w1_57 rfl (by omega) (by omega) (rom2 hph hph (by decide)) (fun qn1 cln1 lnn1 ivn1 rvn1 hqn1 hcn1 hln1 hin1 hrn1 => ⟨32, (z_in (by omega)), ?_⟩)
  refine c_g0 C (fun hg1 => ?_)
  refine hv5 (show ∀ b, b ≠ qn1 → lnn1 b = ln b from (fun b hb => by rw [hln1]; exact va_up_ne _ _ hb)) (show lnn1 qn1 = 16 from by rw [hln1]; exact va_up_self _ _ _) (F2.new hX0 hqn1 hin1 hrn1) (show ty (L ++ [qn1]) cln1 qn1 36 from ty_new hcn1) (show qn1 ∉ L from fun h => hqn1 ((hX0 qn1 h).1)) (fun hxn1 lqn1 F3 tqn1 h0qn1 => ?_)
  refine hv2 (W2.new (ln2 := lnn1) hqn1 (hg1 qn1 (List.mem_append_right _ List.mem_cons_self)) hcn1 hxn1 hin1 hrn1 (fun _ => ⟨(show (-2147483648 : Int) ≤ 0 by decide), (show (0 : Int) ≤ 2147483647 by decide)⟩) (Or.inr (fun _ => rfl)) (fun _ => by show 16 ≤ lnn1 qn1 ∧ lnn1 qn1 ≤ 12006; omega) rfl rfl) (XT.new hqn1 hcn1 hxn1) (fun W3 xl1 => ?_)
  refine hv3 (hX0.trans xl1) (nw0.new xl1 hcn1) (xl1.ty t_a0) (fun X1 nw1 ty1 => ?_)
  refine c_putr (x := (some qn1)) (k := 1) C ck_2 dX1_init_19 w1_39 (by decide) rfl ty1 rfl rfl (by decide) rfl (by rfl) (by rfl) (fun rv1 pq3 => ⟨32, (zp2 (Nat.le_refl _)), ?_⟩)
  refine hv9 (W3.putr pq3 ty1 (fun qr => by rw [ty1.2] at qr; cases qr) rfl (by decide)) (F3.putr X1 pq3 ty1 rfl) (show rv1 a0 1 = (some qn1) from by rw [pq3]; exact upr_s) (show ∀ k, ([1] : List Nat).contains k = false → rv1 a0 k = rv a0 k from fun k hk => (Eq.trans (show rv1 a0 k = rvn1 a0 k from (by rw [pq3]; exact upr_j (fun e => by subst e; exact absurd hk (by decide)))) (show rvn1 a0 k = rv a0 k from (by rw [hrn1]; exact congrFun (up0_a (ne_in t_a0.1 hqn1)) _)))) (show ivn1 a0 0 = iv2 a0 0 from by rw [hin1]; exact congrFun (up0_a (ne_in t_a0.1 hqn1)) _) (show iv2 a0 0 = i from by rw [pq2]; exact up2_s) (show ivn1 a0 2 = iv2 a0 2 from by rw [hin1]; exact congrFun (up0_a (ne_in t_a0.1 hqn1)) _) (show iv2 a0 2 = iv1 a0 2 from by rw [pq2]; exact up2_j (by decide)) (show iv1 a0 2 = 0 from by rw [pq1]; exact up2_s) (fun W4 F4 rp1 rn1 ie1 ie2 ie3 ie4 ie5 => ?_)
  refine hv2 (show (-2147483648) ≤ ivn1 a0 0 ∧ ivn1 a0 0 ≤ 2147483647 from W4.int ty1 0) (show (-2147483648) ≤ ivn1 a0 2 ∧ ivn1 a0 2 ≤ 2147483647 from W4.int ty1 2) (fun ri1 ri2 => ?_)
  exact c_vret C dX1_init_22 rfl (by decide) (rom0 hph (Nat.le_refl 0) (by decide)) ⟨rfl, X1, F4, W4, ⟨qn1, rn1, rp1, tqn1, (by omega), (by omega), (by omega)⟩, nw1.sub (by decide)⟩
set_option maxHeartbeats 4000000 in
set_option maxRecDepth 100000 in
theorem Y_ints_7 {l : Launch} {G : GT} {mi : Nat} {sk : Nat → Nat} {L : List Nat} {cl ln : Nat → Nat} {iv : Nat → Nat → Int} {rv : Nat → Nat → Option Nat}  {a0 : Nat} {i : Int} (hW : WT (g0 G) sk L cl ln iv rv) (t_a0 : ty L cl a0 202) (h_i : -2147483648 ≤ i ∧ i ≤ 2147483647)  : Mc l G mi zPf 0 yX1_init cX1_init 2 none 1 [.ref a0, .int (iI i)] L cl ln iv rv 32 (fun v L2 cl2 ln2 iv2 rv2 => v = none ∧ XT L cl ln L2 cl2 ln2 ∧ fT [202] L cl iv rv iv2 rv2 ∧ WT (g0 G) sk L2 cl2 ln2 iv2 rv2 ∧ (∃ b, (∀ k, ([1] : List Nat).contains k = false → rv2 a0 k = rv a0 k) ∧ rv2 a0 1 = some b ∧ ty L2 cl2 b 37 ∧ ln2 b = 16 ∧ iv2 a0 0 = i ∧ iv2 a0 2 = 0) ∧ NW [37] L L2 cl2) := by
  refine Mc.mk (by decide) (Nat.le_of_ble_eq_true rfl) ?_
  intro p e s m args below meth c A C hM
  refine hv4 ((show zPf ln rv ≤ 0 from Nat.le_refl 0)) (show NW [] L L cl from NW.refl) (show XT L cl ln L cl ln from XT.refl) (show fT [202] L cl iv rv iv rv from fT.refl) (fun hph nw0 hX0 hF0 => ?_)
  refine c_aload_n (j := 0) (x := a0) C dX1_init_0 rfl ?_
  refine c_objInit C dX1_init_1 w1_37 w1_30 w1_31 (by decide) (Nat.le_of_ble_eq_true rfl) ?_
  refine c_aload_n (j := 0) (x := a0) C dX1_init_4 rfl ?_
  refine c_iconst C dX1_init_5 ?_
  refine c_put (z := 0) (k := 2) C ck_2 dX1_init_6 w1_43 (by decide) rfl t_a0 rfl rfl (by decide) rfl (by rfl) (by rfl) (fun iv1 pq1 => ?_)
  refine hv2 (hW.puti pq1 t_a0 ⟨by decide, by decide⟩ rfl) (hF0.puti hX0 pq1 t_a0 rfl) (fun W1 F1 => ?_)
  refine c_aload_n (j := 0) (x := a0) C dX1_init_9 rfl ?_
  refine c_iload_n (j := 1) C dX1_init_10 rfl ?_
  refine c_putF (z := i) (k := 0) C ck_2 dX1_init_11 w1_38 (by decide) rfl rfl rfl t_a0 rfl rfl (by decide) rfl (by rfl) (by rfl) (fun iv2 pq2 => ?_)
  refine hv2 (W1.puti pq2 t_a0 (show (-2147483648) ≤ i ∧ i ≤ 2147483647 by omega) rfl) (F1.puti hX0 pq2 t_a0 rfl) (fun W2 F2 => ?_)
  refine c_aload_n (j := 0) (x := a0) C dX1_init_14 rfl ?_
  refine c_bipush (z := 16) C dX1_init_15 (by decide) ?_
  refine c_newaI (z := 16) (N := 16) C 37 dX1_init_17 w1_57 rfl (by omega) (by omega) (rom2 hph hph (by decide)) (fun qn1 cln1 lnn1 ivn1 rvn1 hqn1 hcn1 hln1 hin1 hrn1 => ⟨32, (z_in (by omega)), ?_⟩)
  refine c_g0 C (fun hg1 => ?_)
  refine hv5 (show ∀ b, b ≠ qn1 → lnn1 b = ln b from (fun b hb => by rw [hln1]; exact va_up_ne _ _ hb)) (show lnn1 qn1 = 16 from by rw [hln1]; exact va_up_self _ _ _) (F2.new hX0 hqn1 hin1 hrn1) (show ty (L ++ [qn1]) cln1 qn1 37 from ty_new hcn1) (show qn1 ∉ L from fun h => hqn1 ((hX0 qn1 h).1)) (fun hxn1 lqn1 F3 tqn1 h0qn1 => ?_)
  refine hv2 (W2.new (ln2 := lnn1) hqn1 (hg1 qn1 (List.mem_append_right _ List.mem_cons_self)) hcn1 hxn1 hin1 hrn1 (fun _ => ⟨(show (-2147483648 : Int) ≤ 0 by decide), (show (0 : Int) ≤ 2147483647 by decide)⟩) (Or.inr (fun _ => rfl)) (fun _ => by show 16 ≤ lnn1 qn1 ∧ lnn1 qn1 ≤ 12006; omega) rfl rfl) (XT.new hqn1 hcn1 hxn1) (fun W3 xl1 => ?_)
  refine hv3 (hX0.trans xl1) (nw0.new xl1 hcn1) (xl1.ty t_a0) (fun X1 nw1 ty1 => ?_)
  refine c_putr (x := (some qn1)) (k := 1) C ck_2 dX1_init_19 w1_39 (by decide) rfl ty1 rfl rfl (by decide) rfl (by rfl) (by rfl) (fun rv1 pq3 => ⟨32, (zp2 (Nat.le_refl _)), ?_⟩)
  refine hv9 (W3.putr pq3 ty1 (fun qr => by rw [ty1.2] at qr; cases qr) rfl (by decide)) (F3.putr X1 pq3 ty1 rfl) (show rv1 a0 1 = (some qn1) from by rw [pq3]; exact upr_s) (show ∀ k, ([1] : List Nat).contains k = false → rv1 a0 k = rv a0 k from fun k hk => (Eq.trans (show rv1 a0 k = rvn1 a0 k from (by rw [pq3]; exact upr_j (fun e => by subst e; exact absurd hk (by decide)))) (show rvn1 a0 k = rv a0 k from (by rw [hrn1]; exact congrFun (up0_a (ne_in t_a0.1 hqn1)) _)))) (show ivn1 a0 0 = iv2 a0 0 from by rw [hin1]; exact congrFun (up0_a (ne_in t_a0.1 hqn1)) _) (show iv2 a0 0 = i from by rw [pq2]; exact up2_s) (show ivn1 a0 2 = iv2 a0 2 from by rw [hin1]; exact congrFun (up0_a (ne_in t_a0.1 hqn1)) _) (show iv2 a0 2 = iv1 a0 2 from by rw [pq2]; exact up2_j (by decide)) (show iv1 a0 2 = 0 from by rw [pq1]; exact up2_s) (fun W4 F4 rp1 rn1 ie1 ie2 ie3 ie4 ie5 => ?_)
  refine hv2 (show (-2147483648) ≤ ivn1 a0 0 ∧ ivn1 a0 0 ≤ 2147483647 from W4.int ty1 0) (show (-2147483648) ≤ ivn1 a0 2 ∧ ivn1 a0 2 ≤ 2147483647 from W4.int ty1 2) (fun ri1 ri2 => ?_)
  exact c_vret C dX1_init_22 rfl (by decide) (rom0 hph (Nat.le_refl 0) (by decide)) ⟨rfl, X1, F4, W4, ⟨qn1, rn1, rp1, tqn1, (by omega), (by omega), (by omega)⟩, nw1.sub (by decide)⟩
set_option maxHeartbeats 4000000 in
set_option maxRecDepth 100000 in
theorem Y_ints_8 {l : Launch} {G : GT} {mi : Nat} {sk : Nat → Nat} {L : List Nat} {cl ln : Nat → Nat} {iv : Nat → Nat → Int} {rv : Nat → Nat → Option Nat}  {a0 : Nat} {i : Int} (hW : WT (g0 G) sk L cl ln iv rv) (t_a0 : ty L cl a0 202) (h_i : -2147483648 ≤ i ∧ i ≤ 2147483647)  : Mc l G mi zPf 0 yX1_init cX1_init 2 none 1 [.ref a0, .int (iI i)] L cl ln iv rv 32 (fun v L2 cl2 ln2 iv2 rv2 => v = none ∧ XT L cl ln L2 cl2 ln2 ∧ fT [202] L cl iv rv iv2 rv2 ∧ WT (g0 G) sk L2 cl2 ln2 iv2 rv2 ∧ (∃ b, (∀ k, ([1] : List Nat).contains k = false → rv2 a0 k = rv a0 k) ∧ rv2 a0 1 = some b ∧ ty L2 cl2 b 38 ∧ ln2 b = 16 ∧ iv2 a0 0 = i ∧ iv2 a0 2 = 0) ∧ NW [38] L L2 cl2) := by
  refine Mc.mk (by decide) (Nat.le_of_ble_eq_true rfl) ?_
  intro p e s m args below meth c A C hM
  refine hv4 ((show zPf ln rv ≤ 0 from Nat.le_refl 0)) (show NW [] L L cl from NW.refl) (show XT L cl ln L cl ln from XT.refl) (show fT [202] L cl iv rv iv rv from fT.refl) (fun hph nw0 hX0 hF0 => ?_)
  refine c_aload_n (j := 0) (x := a0) C dX1_init_0 rfl ?_
  refine c_objInit C dX1_init_1 w1_37 w1_30 w1_31 (by decide) (Nat.le_of_ble_eq_true rfl) ?_
  refine c_aload_n (j := 0) (x := a0) C dX1_init_4 rfl ?_
  refine c_iconst C dX1_init_5 ?_
  refine c_put (z := 0) (k := 2) C ck_2 dX1_init_6 w1_43 (by decide) rfl t_a0 rfl rfl (by decide) rfl (by rfl) (by rfl) (fun iv1 pq1 => ?_)
  refine hv2 (hW.puti pq1 t_a0 ⟨by decide, by decide⟩ rfl) (hF0.puti hX0 pq1 t_a0 rfl) (fun W1 F1 => ?_)
  refine c_aload_n (j := 0) (x := a0) C dX1_init_9 rfl ?_
  refine c_iload_n (j := 1) C dX1_init_10 rfl ?_
  refine c_putF (z := i) (k := 0) C ck_2 dX1_init_11 w1_38 (by decide) rfl rfl rfl t_a0 rfl rfl (by decide) rfl (by rfl) (by rfl) (fun iv2 pq2 => ?_)
  refine hv2 (W1.puti pq2 t_a0 (show (-2147483648) ≤ i ∧ i ≤ 2147483647 by omega) rfl) (F1.puti hX0 pq2 t_a0 rfl) (fun W2 F2 => ?_)
  refine c_aload_n (j := 0) (x := a0) C dX1_init_14 rfl ?_
  refine c_bipush (z := 16) C dX1_init_15 (by decide) ?_
  refine c_newaI (z := 16) (N := 16) C 38 dX1_init_17 w1_57 rfl (by omega) (by omega) (rom2 hph hph (by decide)) (fun qn1 cln1 lnn1 ivn1 rvn1 hqn1 hcn1 hln1 hin1 hrn1 => ⟨32, (z_in (by omega)), ?_⟩)
  refine c_g0 C (fun hg1 => ?_)
  refine hv5 (show ∀ b, b ≠ qn1 → lnn1 b = ln b from (fun b hb => by rw [hln1]; exact va_up_ne _ _ hb)) (show lnn1 qn1 = 16 from by rw [hln1]; exact va_up_self _ _ _) (F2.new hX0 hqn1 hin1 hrn1) (show ty (L ++ [qn1]) cln1 qn1 38 from ty_new hcn1) (show qn1 ∉ L from fun h => hqn1 ((hX0 qn1 h).1)) (fun hxn1 lqn1 F3 tqn1 h0qn1 => ?_)
  refine hv2 (W2.new (ln2 := lnn1) hqn1 (hg1 qn1 (List.mem_append_right _ List.mem_cons_self)) hcn1 hxn1 hin1 hrn1 (fun _ => ⟨(show (-2147483648 : Int) ≤ 0 by decide), (show (0 : Int) ≤ 2147483647 by decide)⟩) (Or.inr (fun _ => rfl)) (fun _ => by show 16 ≤ lnn1 qn1 ∧ lnn1 qn1 ≤ 80400; omega) rfl rfl) (XT.new hqn1 hcn1 hxn1) (fun W3 xl1 => ?_)
  refine hv3 (hX0.trans xl1) (nw0.new xl1 hcn1) (xl1.ty t_a0) (fun X1 nw1 ty1 => ?_)
  refine c_putr (x := (some qn1)) (k := 1) C ck_2 dX1_init_19 w1_39 (by decide) rfl ty1 rfl rfl (by decide) rfl (by rfl) (by rfl) (fun rv1 pq3 => ⟨32, (zp2 (Nat.le_refl _)), ?_⟩)
  refine hv9 (W3.putr pq3 ty1 (fun qr => by rw [ty1.2] at qr; cases qr) rfl (by decide)) (F3.putr X1 pq3 ty1 rfl) (show rv1 a0 1 = (some qn1) from by rw [pq3]; exact upr_s) (show ∀ k, ([1] : List Nat).contains k = false → rv1 a0 k = rv a0 k from fun k hk => (Eq.trans (show rv1 a0 k = rvn1 a0 k from (by rw [pq3]; exact upr_j (fun e => by subst e; exact absurd hk (by decide)))) (show rvn1 a0 k = rv a0 k from (by rw [hrn1]; exact congrFun (up0_a (ne_in t_a0.1 hqn1)) _)))) (show ivn1 a0 0 = iv2 a0 0 from by rw [hin1]; exact congrFun (up0_a (ne_in t_a0.1 hqn1)) _) (show iv2 a0 0 = i from by rw [pq2]; exact up2_s) (show ivn1 a0 2 = iv2 a0 2 from by rw [hin1]; exact congrFun (up0_a (ne_in t_a0.1 hqn1)) _) (show iv2 a0 2 = iv1 a0 2 from by rw [pq2]; exact up2_j (by decide)) (show iv1 a0 2 = 0 from by rw [pq1]; exact up2_s) (fun W4 F4 rp1 rn1 ie1 ie2 ie3 ie4 ie5 => ?_)
  refine hv2 (show (-2147483648) ≤ ivn1 a0 0 ∧ ivn1 a0 0 ≤ 2147483647 from W4.int ty1 0) (show (-2147483648) ≤ ivn1 a0 2 ∧ ivn1 a0 2 ≤ 2147483647 from W4.int ty1 2) (fun ri1 ri2 => ?_)
  exact c_vret C dX1_init_22 rfl (by decide) (rom0 hph (Nat.le_refl 0) (by decide)) ⟨rfl, X1, F4, W4, ⟨qn1, rn1, rp1, tqn1, (by omega), (by omega), (by omega)⟩, nw1.sub (by decide)⟩
set_option maxHeartbeats 4000000 in
set_option maxRecDepth 100000 in
theorem Y_ints_9 {l : Launch} {G : GT} {mi : Nat} {sk : Nat → Nat} {L : List Nat} {cl ln : Nat → Nat} {iv : Nat → Nat → Int} {rv : Nat → Nat → Option Nat}  {a0 : Nat} {i : Int} (hW : WT (g0 G) sk L cl ln iv rv) (t_a0 : ty L cl a0 202) (h_i : -2147483648 ≤ i ∧ i ≤ 2147483647)  : Mc l G mi zPf 0 yX1_init cX1_init 2 none 1 [.ref a0, .int (iI i)] L cl ln iv rv 32 (fun v L2 cl2 ln2 iv2 rv2 => v = none ∧ XT L cl ln L2 cl2 ln2 ∧ fT [202] L cl iv rv iv2 rv2 ∧ WT (g0 G) sk L2 cl2 ln2 iv2 rv2 ∧ (∃ b, (∀ k, ([1] : List Nat).contains k = false → rv2 a0 k = rv a0 k) ∧ rv2 a0 1 = some b ∧ ty L2 cl2 b 39 ∧ ln2 b = 16 ∧ iv2 a0 0 = i ∧ iv2 a0 2 = 0) ∧ NW [39] L L2 cl2) := by
  refine Mc.mk (by decide) (Nat.le_of_ble_eq_true rfl) ?_
  intro p e s m args below meth c A C hM
  refine hv4 ((show zPf ln rv ≤ 0 from Nat.le_refl 0)) (show NW [] L L cl from NW.refl) (show XT L cl ln L cl ln from XT.refl) (show fT [202] L cl iv rv iv rv from fT.refl) (fun hph nw0 hX0 hF0 => ?_)
  refine c_aload_n (j := 0) (x := a0) C dX1_init_0 rfl ?_
  refine c_objInit C dX1_init_1 w1_37 w1_30 w1_31 (by decide) (Nat.le_of_ble_eq_true rfl) ?_
  refine c_aload_n (j := 0) (x := a0) C dX1_init_4 rfl ?_
  refine c_iconst C dX1_init_5 ?_
  refine c_put (z := 0) (k := 2) C ck_2 dX1_init_6 w1_43 (by decide) rfl t_a0 rfl rfl (by decide) rfl (by rfl) (by rfl) (fun iv1 pq1 => ?_)
  refine hv2 (hW.puti pq1 t_a0 ⟨by decide, by decide⟩ rfl) (hF0.puti hX0 pq1 t_a0 rfl) (fun W1 F1 => ?_)
  refine c_aload_n (j := 0) (x := a0) C dX1_init_9 rfl ?_
  refine c_iload_n (j := 1) C dX1_init_10 rfl ?_
  refine c_putF (z := i) (k := 0) C ck_2 dX1_init_11 w1_38 (by decide) rfl rfl rfl t_a0 rfl rfl (by decide) rfl (by rfl) (by rfl) (fun iv2 pq2 => ?_)
  refine hv2 (W1.puti pq2 t_a0 (show (-2147483648) ≤ i ∧ i ≤ 2147483647 by omega) rfl) (F1.puti hX0 pq2 t_a0 rfl) (fun W2 F2 => ?_)
  refine c_aload_n (j := 0) (x := a0) C dX1_init_14 rfl ?_
  refine c_bipush (z := 16) C dX1_init_15 (by decide) ?_
  refine c_newaI (z := 16) (N := 16) C 39 dX1_init_17 w1_57 rfl (by omega) (by omega) (rom2 hph hph (by decide)) (fun qn1 cln1 lnn1 ivn1 rvn1 hqn1 hcn1 hln1 hin1 hrn1 => ⟨32, (z_in (by omega)), ?_⟩)
  refine c_g0 C (fun hg1 => ?_)
  refine hv5 (show ∀ b, b ≠ qn1 → lnn1 b = ln b from (fun b hb => by rw [hln1]; exact va_up_ne _ _ hb)) (show lnn1 qn1 = 16 from by rw [hln1]; exact va_up_self _ _ _) (F2.new hX0 hqn1 hin1 hrn1) (show ty (L ++ [qn1]) cln1 qn1 39 from ty_new hcn1) (show qn1 ∉ L from fun h => hqn1 ((hX0 qn1 h).1)) (fun hxn1 lqn1 F3 tqn1 h0qn1 => ?_)
  refine hv2 (W2.new (ln2 := lnn1) hqn1 (hg1 qn1 (List.mem_append_right _ List.mem_cons_self)) hcn1 hxn1 hin1 hrn1 (fun _ => ⟨(show (-2147483648 : Int) ≤ 0 by decide), (show (0 : Int) ≤ 2147483647 by decide)⟩) (Or.inr (fun _ => rfl)) (fun _ => by show 16 ≤ lnn1 qn1 ∧ lnn1 qn1 ≤ 80400; omega) rfl rfl) (XT.new hqn1 hcn1 hxn1) (fun W3 xl1 => ?_)
  refine hv3 (hX0.trans xl1) (nw0.new xl1 hcn1) (xl1.ty t_a0) (fun X1 nw1 ty1 => ?_)
  refine c_putr (x := (some qn1)) (k := 1) C ck_2 dX1_init_19 w1_39 (by decide) rfl ty1 rfl rfl (by decide) rfl (by rfl) (by rfl) (fun rv1 pq3 => ⟨32, (zp2 (Nat.le_refl _)), ?_⟩)
  refine hv9 (W3.putr pq3 ty1 (fun qr => by rw [ty1.2] at qr; cases qr) rfl (by decide)) (F3.putr X1 pq3 ty1 rfl) (show rv1 a0 1 = (some qn1) from by rw [pq3]; exact upr_s) (show ∀ k, ([1] : List Nat).contains k = false → rv1 a0 k = rv a0 k from fun k hk => (Eq.trans (show rv1 a0 k = rvn1 a0 k from (by rw [pq3]; exact upr_j (fun e => by subst e; exact absurd hk (by decide)))) (show rvn1 a0 k = rv a0 k from (by rw [hrn1]; exact congrFun (up0_a (ne_in t_a0.1 hqn1)) _)))) (show ivn1 a0 0 = iv2 a0 0 from by rw [hin1]; exact congrFun (up0_a (ne_in t_a0.1 hqn1)) _) (show iv2 a0 0 = i from by rw [pq2]; exact up2_s) (show ivn1 a0 2 = iv2 a0 2 from by rw [hin1]; exact congrFun (up0_a (ne_in t_a0.1 hqn1)) _) (show iv2 a0 2 = iv1 a0 2 from by rw [pq2]; exact up2_j (by decide)) (show iv1 a0 2 = 0 from by rw [pq1]; exact up2_s) (fun W4 F4 rp1 rn1 ie1 ie2 ie3 ie4 ie5 => ?_)
  refine hv2 (show (-2147483648) ≤ ivn1 a0 0 ∧ ivn1 a0 0 ≤ 2147483647 from W4.int ty1 0) (show (-2147483648) ≤ ivn1 a0 2 ∧ ivn1 a0 2 ≤ 2147483647 from W4.int ty1 2) (fun ri1 ri2 => ?_)
  exact c_vret C dX1_init_22 rfl (by decide) (rom0 hph (Nat.le_refl 0) (by decide)) ⟨rfl, X1, F4, W4, ⟨qn1, rn1, rp1, tqn1, (by omega), (by omega), (by omega)⟩, nw1.sub (by decide)⟩
set_option maxHeartbeats 4000000 in
set_option maxRecDepth 100000 in
theorem Y_ints_10 {l : Launch} {G : GT} {mi : Nat} {sk : Nat → Nat} {L : List Nat} {cl ln : Nat → Nat} {iv : Nat → Nat → Int} {rv : Nat → Nat → Option Nat}  {a0 : Nat} {i : Int} (hW : WT (g0 G) sk L cl ln iv rv) (t_a0 : ty L cl a0 202) (h_i : -2147483648 ≤ i ∧ i ≤ 2147483647)  : Mc l G mi zPf 0 yX1_init cX1_init 2 none 1 [.ref a0, .int (iI i)] L cl ln iv rv 32 (fun v L2 cl2 ln2 iv2 rv2 => v = none ∧ XT L cl ln L2 cl2 ln2 ∧ fT [202] L cl iv rv iv2 rv2 ∧ WT (g0 G) sk L2 cl2 ln2 iv2 rv2 ∧ (∃ b, (∀ k, ([1] : List Nat).contains k = false → rv2 a0 k = rv a0 k) ∧ rv2 a0 1 = some b ∧ ty L2 cl2 b 40 ∧ ln2 b = 16 ∧ iv2 a0 0 = i ∧ iv2 a0 2 = 0) ∧ NW [40] L L2 cl2) := by
  refine Mc.mk (by decide) (Nat.le_of_ble_eq_true rfl) ?_
  intro p e s m args below meth c A C hM
  refine hv4 ((show zPf ln rv ≤ 0 from Nat.le_refl 0)) (show NW [] L L cl from NW.refl) (show XT L cl ln L cl ln from XT.refl) (show fT [202] L cl iv rv iv rv from fT.refl) (fun hph nw0 hX0 hF0 => ?_)
  refine c_aload_n (j := 0) (x := a0) C dX1_init_0 rfl ?_
  refine c_objInit C dX1_init_1 w1_37 w1_30 w1_31 (by decide) (Nat.le_of_ble_eq_true rfl) ?_
  refine c_aload_n (j := 0) (x := a0) C dX1_init_4 rfl ?_
  refine c_iconst C dX1_init_5 ?_
  refine c_put (z := 0) (k := 2) C ck_2 dX1_init_6 w1_43 (by decide) rfl t_a0 rfl rfl (by decide) rfl (by rfl) (by rfl) (fun iv1 pq1 => ?_)
  refine hv2 (hW.puti pq1 t_a0 ⟨by decide, by decide⟩ rfl) (hF0.puti hX0 pq1 t_a0 rfl) (fun W1 F1 => ?_)
  refine c_aload_n (j := 0) (x := a0) C dX1_init_9 rfl ?_
  refine c_iload_n (j := 1) C dX1_init_10 rfl ?_
  refine c_putF (z := i) (k := 0) C ck_2 dX1_init_11 w1_38 (by decide) rfl rfl rfl t_a0 rfl rfl (by decide) rfl (by rfl) (by rfl) (fun iv2 pq2 => ?_)
  refine hv2 (W1.puti pq2 t_a0 (show (-2147483648) ≤ i ∧ i ≤ 2147483647 by omega) rfl) (F1.puti hX0 pq2 t_a0 rfl) (fun W2 F2 => ?_)
  refine c_aload_n (j := 0) (x := a0) C dX1_init_14 rfl ?_
  refine c_bipush (z := 16) C dX1_init_15 (by decide) ?_
  refine c_newaI (z := 16) (N := 16) C 40 dX1_init_17 w1_57 rfl (by omega) (by omega) (rom2 hph hph (by decide)) (fun qn1 cln1 lnn1 ivn1 rvn1 hqn1 hcn1 hln1 hin1 hrn1 => ⟨32, (z_in (by omega)), ?_⟩)
  refine c_g0 C (fun hg1 => ?_)
  refine hv5 (show ∀ b, b ≠ qn1 → lnn1 b = ln b from (fun b hb => by rw [hln1]; exact va_up_ne _ _ hb)) (show lnn1 qn1 = 16 from by rw [hln1]; exact va_up_self _ _ _) (F2.new hX0 hqn1 hin1 hrn1) (show ty (L ++ [qn1]) cln1 qn1 40 from ty_new hcn1) (show qn1 ∉ L from fun h => hqn1 ((hX0 qn1 h).1)) (fun hxn1 lqn1 F3 tqn1 h0qn1 => ?_)
  refine hv2 (W2.new (ln2 := lnn1) hqn1 (hg1 qn1 (List.mem_append_right _ List.mem_cons_self)) hcn1 hxn1 hin1 hrn1 (fun _ => ⟨(show (-2147483648 : Int) ≤ 0 by decide), (show (0 : Int) ≤ 2147483647 by decide)⟩) (Or.inr (fun _ => rfl)) (fun _ => by show 16 ≤ lnn1 qn1 ∧ lnn1 qn1 ≤ 8002; omega) rfl rfl) (XT.new hqn1 hcn1 hxn1) (fun W3 xl1 => ?_)
  refine hv3 (hX0.trans xl1) (nw0.new xl1 hcn1) (xl1.ty t_a0) (fun X1 nw1 ty1 => ?_)
  refine c_putr (x := (some qn1)) (k := 1) C ck_2 dX1_init_19 w1_39 (by decide) rfl ty1 rfl rfl (by decide) rfl (by rfl) (by rfl) (fun rv1 pq3 => ⟨32, (zp2 (Nat.le_refl _)), ?_⟩)
  refine hv9 (W3.putr pq3 ty1 (fun qr => by rw [ty1.2] at qr; cases qr) rfl (by decide)) (F3.putr X1 pq3 ty1 rfl) (show rv1 a0 1 = (some qn1) from by rw [pq3]; exact upr_s) (show ∀ k, ([1] : List Nat).contains k = false → rv1 a0 k = rv a0 k from fun k hk => (Eq.trans (show rv1 a0 k = rvn1 a0 k from (by rw [pq3]; exact upr_j (fun e => by subst e; exact absurd hk (by decide)))) (show rvn1 a0 k = rv a0 k from (by rw [hrn1]; exact congrFun (up0_a (ne_in t_a0.1 hqn1)) _)))) (show ivn1 a0 0 = iv2 a0 0 from by rw [hin1]; exact congrFun (up0_a (ne_in t_a0.1 hqn1)) _) (show iv2 a0 0 = i from by rw [pq2]; exact up2_s) (show ivn1 a0 2 = iv2 a0 2 from by rw [hin1]; exact congrFun (up0_a (ne_in t_a0.1 hqn1)) _) (show iv2 a0 2 = iv1 a0 2 from by rw [pq2]; exact up2_j (by decide)) (show iv1 a0 2 = 0 from by rw [pq1]; exact up2_s) (fun W4 F4 rp1 rn1 ie1 ie2 ie3 ie4 ie5 => ?_)
  refine hv2 (show (-2147483648) ≤ ivn1 a0 0 ∧ ivn1 a0 0 ≤ 2147483647 from W4.int ty1 0) (show (-2147483648) ≤ ivn1 a0 2 ∧ ivn1 a0 2 ≤ 2147483647 from W4.int ty1 2) (fun ri1 ri2 => ?_)
  exact c_vret C dX1_init_22 rfl (by decide) (rom0 hph (Nat.le_refl 0) (by decide)) ⟨rfl, X1, F4, W4, ⟨qn1, rn1, rp1, tqn1, (by omega), (by omega), (by omega)⟩, nw1.sub (by decide)⟩
set_option maxHeartbeats 4000000 in
set_option maxRecDepth 100000 in
theorem Y_ints_11 {l : Launch} {G : GT} {mi : Nat} {sk : Nat → Nat} {L : List Nat} {cl ln : Nat → Nat} {iv : Nat → Nat → Int} {rv : Nat → Nat → Option Nat}  {a0 : Nat} {i : Int} (hW : WT (g0 G) sk L cl ln iv rv) (t_a0 : ty L cl a0 202) (h_i : -2147483648 ≤ i ∧ i ≤ 2147483647)  : Mc l G mi zPf 0 yX1_init cX1_init 2 none 1 [.ref a0, .int (iI i)] L cl ln iv rv 32 (fun v L2 cl2 ln2 iv2 rv2 => v = none ∧ XT L cl ln L2 cl2 ln2 ∧ fT [202] L cl iv rv iv2 rv2 ∧ WT (g0 G) sk L2 cl2 ln2 iv2 rv2 ∧ (∃ b, (∀ k, ([1] : List Nat).contains k = false → rv2 a0 k = rv a0 k) ∧ rv2 a0 1 = some b ∧ ty L2 cl2 b 41 ∧ ln2 b = 16 ∧ iv2 a0 0 = i ∧ iv2 a0 2 = 0) ∧ NW [41] L L2 cl2) := by
  refine Mc.mk (by decide) (Nat.le_of_ble_eq_true rfl) ?_
  intro p e s m args below meth c A C hM
  refine hv4 ((show zPf ln rv ≤ 0 from Nat.le_refl 0)) (show NW [] L L cl from NW.refl) (show XT L cl ln L cl ln from XT.refl) (show fT [202] L cl iv rv iv rv from fT.refl) (fun hph nw0 hX0 hF0 => ?_)
  refine c_aload_n (j := 0) (x := a0) C dX1_init_0 rfl ?_
  refine c_objInit C dX1_init_1 w1_37 w1_30 w1_31 (by decide) (Nat.le_of_ble_eq_true rfl) ?_
  refine c_aload_n (j := 0) (x := a0) C dX1_init_4 rfl ?_
  refine c_iconst C dX1_init_5 ?_
  refine c_put (z := 0) (k := 2) C ck_2 dX1_init_6 w1_43 (by decide) rfl t_a0 rfl rfl (by decide) rfl (by rfl) (by rfl) (fun iv1 pq1 => ?_)
  refine hv2 (hW.puti pq1 t_a0 ⟨by decide, by decide⟩ rfl) (hF0.puti hX0 pq1 t_a0 rfl) (fun W1 F1 => ?_)
  refine c_aload_n (j := 0) (x := a0) C dX1_init_9 rfl ?_
  refine c_iload_n (j := 1) C dX1_init_10 rfl ?_
  refine c_putF (z := i) (k := 0) C ck_2 dX1_init_11 w1_38 (by decide) rfl rfl rfl t_a0 rfl rfl (by decide) rfl (by rfl) (by rfl) (fun iv2 pq2 => ?_)
  refine hv2 (W1.puti pq2 t_a0 (show (-2147483648) ≤ i ∧ i ≤ 2147483647 by omega) rfl) (F1.puti hX0 pq2 t_a0 rfl) (fun W2 F2 => ?_)
  refine c_aload_n (j := 0) (x := a0) C dX1_init_14 rfl ?_
  refine c_bipush (z := 16) C dX1_init_15 (by decide) ?_
  refine c_newaI (z := 16) (N := 16) C 41 dX1_init_17 w1_57 rfl (by omega) (by omega) (rom2 hph hph (by decide)) (fun qn1 cln1 lnn1 ivn1 rvn1 hqn1 hcn1 hln1 hin1 hrn1 => ⟨32, (z_in (by omega)), ?_⟩)
  refine c_g0 C (fun hg1 => ?_)
  refine hv5 (show ∀ b, b ≠ qn1 → lnn1 b = ln b from (fun b hb => by rw [hln1]; exact va_up_ne _ _ hb)) (show lnn1 qn1 = 16 from by rw [hln1]; exact va_up_self _ _ _) (F2.new hX0 hqn1 hin1 hrn1) (show ty (L ++ [qn1]) cln1 qn1 41 from ty_new hcn1) (show qn1 ∉ L from fun h => hqn1 ((hX0 qn1 h).1)) (fun hxn1 lqn1 F3 tqn1 h0qn1 => ?_)
  refine hv2 (W2.new (ln2 := lnn1) hqn1 (hg1 qn1 (List.mem_append_right _ List.mem_cons_self)) hcn1 hxn1 hin1 hrn1 (fun _ => ⟨(show (-2147483648 : Int) ≤ 0 by decide), (show (0 : Int) ≤ 2147483647 by decide)⟩) (Or.inr (fun _ => rfl)) (fun _ => by show 16 ≤ lnn1 qn1 ∧ lnn1 qn1 ≤ 80000; omega) rfl rfl) (XT.new hqn1 hcn1 hxn1) (fun W3 xl1 => ?_)
  refine hv3 (hX0.trans xl1) (nw0.new xl1 hcn1) (xl1.ty t_a0) (fun X1 nw1 ty1 => ?_)
  refine c_putr (x := (some qn1)) (k := 1) C ck_2 dX1_init_19 w1_39 (by decide) rfl ty1 rfl rfl (by decide) rfl (by rfl) (by rfl) (fun rv1 pq3 => ⟨32, (zp2 (Nat.le_refl _)), ?_⟩)
  refine hv9 (W3.putr pq3 ty1 (fun qr => by rw [ty1.2] at qr; cases qr) rfl (by decide)) (F3.putr X1 pq3 ty1 rfl) (show rv1 a0 1 = (some qn1) from by rw [pq3]; exact upr_s) (show ∀ k, ([1] : List Nat).contains k = false → rv1 a0 k = rv a0 k from fun k hk => (Eq.trans (show rv1 a0 k = rvn1 a0 k from (by rw [pq3]; exact upr_j (fun e => by subst e; exact absurd hk (by decide)))) (show rvn1 a0 k = rv a0 k from (by rw [hrn1]; exact congrFun (up0_a (ne_in t_a0.1 hqn1)) _)))) (show ivn1 a0 0 = iv2 a0 0 from by rw [hin1]; exact congrFun (up0_a (ne_in t_a0.1 hqn1)) _) (show iv2 a0 0 = i from by rw [pq2]; exact up2_s) (show ivn1 a0 2 = iv2 a0 2 from by rw [hin1]; exact congrFun (up0_a (ne_in t_a0.1 hqn1)) _) (show iv2 a0 2 = iv1 a0 2 from by rw [pq2]; exact up2_j (by decide)) (show iv1 a0 2 = 0 from by rw [pq1]; exact up2_s) (fun W4 F4 rp1 rn1 ie1 ie2 ie3 ie4 ie5 => ?_)
  refine hv2 (show (-2147483648) ≤ ivn1 a0 0 ∧ ivn1 a0 0 ≤ 2147483647 from W4.int ty1 0) (show (-2147483648) ≤ ivn1 a0 2 ∧ ivn1 a0 2 ≤ 2147483647 from W4.int ty1 2) (fun ri1 ri2 => ?_)
  exact c_vret C dX1_init_22 rfl (by decide) (rom0 hph (Nat.le_refl 0) (by decide)) ⟨rfl, X1, F4, W4, ⟨qn1, rn1, rp1, tqn1, (by omega), (by omega), (by omega)⟩, nw1.sub (by decide)⟩
set_option maxHeartbeats 4000000 in
set_option maxRecDepth 100000 in
theorem Y_source {l : Launch} {G : GT} {mi : Nat} {sk : Nat → Nat} {L : List Nat} {cl ln : Nat → Nat} {iv : Nat → Nat → Int} {rv : Nat → Nat → Option Nat}  {a0 : Nat} (hW : WT (g0 G) sk L cl ln iv rv) (t_a0 : ty L cl a0 209)  : Mc l G mi zPf 0 yX8_init cX8_init 1 none 1 [.ref a0] L cl ln iv rv 306 (fun v L2 cl2 ln2 iv2 rv2 => v = none ∧ XT L cl ln L2 cl2 ln2 ∧ fT [209] L cl iv rv iv2 rv2 ∧ WT (g0 G) sk L2 cl2 ln2 iv2 rv2 ∧ (∃ b3 b4 b6, (∀ k, ([3, 4, 6] : List Nat).contains k = false → rv2 a0 k = rv a0 k) ∧ rv2 a0 3 = some b3 ∧ ty L2 cl2 b3 56 ∧ rv2 a0 4 = some b4 ∧ ty L2 cl2 b4 57 ∧ rv2 a0 6 = some b6 ∧ ty L2 cl2 b6 58 ∧ iv2 a0 0 = 0 ∧ iv2 a0 1 = 0 ∧ iv2 a0 2 = 0 ∧ iv2 a0 5 = 0 ∧ iv2 a0 7 = 0) ∧ NW [56, 57, 58] L L2 cl2) := by
  refine Mc.mk (by decide) (Nat.le_of_ble_eq_true rfl) ?_
  intro p e s m args below meth c A C hM
  refine hv4 ((show zPf ln rv ≤ 0 from Nat.le_refl 0)) (show NW [] L L cl from NW.refl) (show XT L cl ln L cl ln from XT.refl) (show fT [209] L cl iv rv iv rv from fT.refl) (fun hph nw0 hX0 hF0 => ?_)
  refine c_aload_n (j := 0) (x := a0) C dX8_init_0 rfl ?_
  refine c_objInit C dX8_init_1 w1_102 w1_30 w1_31 (by decide) (Nat.le_of_ble_eq_true rfl) ?_
  refine c_aload_n (j := 0) (x := a0) C dX8_init_4 rfl ?_
  refine c_iconst C dX8_init_5 ?_
  refine c_put (z := 0) (k := 0) C ck_9 dX8_init_6 w1_103 (by decide) rfl t_a0 rfl rfl (by decide) rfl (by rfl) (by rfl) (fun iv1 pq1 => ?_)
  refine hv2 (hW.puti pq1 t_a0 ⟨by decide, by decide⟩ rfl) (hF0.puti hX0 pq1 t_a0 rfl) (fun W1 F1 => ?_)
  refine c_aload_n (j := 0) (x := a0) C dX8_init_9 rfl ?_
  refine c_iconst C dX8_init_10 ?_
  refine c_put (z := 0) (k := 1) C ck_9 dX8_init_11 w1_104 (by decide) rfl t_a0 rfl rfl (by decide) rfl (by decide) (by decide) (fun iv2 pq2 => ?_)
  refine hv2 (W1.puti pq2 t_a0 ⟨by decide, by decide⟩ rfl) (F1.puti hX0 pq2 t_a0 rfl) (fun W2 F2 => ?_)
  refine c_aload_n (j := 0) (x := a0) C dX8_init_14 rfl ?_
  refine c_iconst C dX8_init_15 ?_
  refine c_put (z := 0) (k := 2) C ck_9 dX8_init_16 w1_105 (by decide) rfl t_a0 rfl rfl (by decide) rfl (by decide) (by decide) (fun iv3 pq3 => ?_)
  refine hv2 (W2.puti pq3 t_a0 ⟨by decide, by decide⟩ rfl) (F2.puti hX0 pq3 t_a0 rfl) (fun W3 F3 => ?_)
  refine c_aload_n (j := 0) (x := a0) C dX8_init_19 rfl ?_
  refine c_bipush (z := 126) C dX8_init_20 (by decide) ?_
  refine c_newaZ (z := 126) (N := 126) C 56 dX8_init_22 w1_129 rfl (by omega) (by omega) (rom2 hph hph (by decide)) (fun qn1 cln1 lnn1 ivn1 rvn1 hqn1 hcn1 hln1 hin1 hrn1 => ⟨142, (z_in (by omega)), ?_⟩)
  refine c_g0 C (fun hg1 => ?_)
  refine hv5 (show ∀ b, b ≠ qn1 → lnn1 b = ln b from (fun b hb => by rw [hln1]; exact va_up_ne _ _ hb)) (show lnn1 qn1 = 126 from by rw [hln1]; exact va_up_self _ _ _) (F3.new hX0 hqn1 hin1 hrn1) (show ty (L ++ [qn1]) cln1 qn1 56 from ty_new hcn1) (show qn1 ∉ L from fun h => hqn1 ((hX0 qn1 h).1)) (fun hxn1 lqn1 F4 tqn1 h0qn1 => ?_)
  refine hv2 (W3.new (ln2 := lnn1) hqn1 (hg1 qn1 (List.mem_append_right _ List.mem_cons_self)) hcn1 hxn1 hin1 hrn1 (fun _ => ⟨(show (0 : Int) ≤ 0 by decide), (show (0 : Int) ≤ 1 by decide)⟩) (Or.inr (fun _ => rfl)) (fun _ => by show 126 ≤ lnn1 qn1 ∧ lnn1 qn1 ≤ 126; omega) rfl rfl) (XT.new hqn1 hcn1 hxn1) (fun W4 xl1 => ?_)
  refine hv3 (hX0.trans xl1) (nw0.new xl1 hcn1) (xl1.ty t_a0) (fun X1 nw1 ty1 => ?_)
  refine c_putrF (x := (some qn1)) (k := 3) C ck_9 dX8_init_24 w1_107 (by decide) rfl rfl rfl ty1 rfl rfl (by decide) rfl (by rfl) (by rfl) (fun rv1 pq4 => ⟨142, (zp2 (Nat.le_refl _)), ?_⟩)
  refine hv2 (W4.putr pq4 ty1 (fun qr => by rw [ty1.2] at qr; cases qr) rfl (by decide)) (F4.putr X1 pq4 ty1 rfl) (fun W5 F5 => ?_)
  refine c_aload_n (j := 0) (x := a0) C dX8_init_27 rfl ?_
  refine c_bipush (z := 126) C dX8_init_28 (by decide) ?_
  refine c_newaI (z := 126) (N := 126) C 57 dX8_init_30 w1_57 rfl (by omega) (by omega) (rom2 hph (Nat.le_refl 0) (by decide)) (fun qn2 cln2 lnn2 ivn2 rvn2 hqn2 hcn2 hln2 hin2 hrn2 => ⟨284, (z_in (by omega)), ?_⟩)
  refine c_g0 C (fun hg2 => ?_)
  refine hv5 (show ∀ b, b ≠ qn2 → lnn2 b = lnn1 b from (fun b hb => by rw [hln2]; exact va_up_ne _ _ hb)) (show lnn2 qn2 = 126 from by rw [hln2]; exact va_up_self _ _ _) (F5.new X1 hqn2 hin2 hrn2) (show ty ((L ++ [qn1]) ++ [qn2]) cln2 qn2 57 from ty_new hcn2) (show qn2 ∉ L from fun h => hqn2 ((X1 qn2 h).1)) (fun hxn2 lqn2 F6 tqn2 h0qn2 => ?_)
  refine hv2 (W5.new (ln2 := lnn2) hqn2 (hg2 qn2 (List.mem_append_right _ List.mem_cons_self)) hcn2 hxn2 hin2 hrn2 (fun _ => ⟨(show (-2147483648 : Int) ≤ 0 by decide), (show (0 : Int) ≤ 2147483647 by decide)⟩) (Or.inr (fun _ => rfl)) (fun _ => by show 126 ≤ lnn2 qn2 ∧ lnn2 qn2 ≤ 126; omega) rfl rfl) (XT.new hqn2 hcn2 hxn2) (fun W6 xl2 => ?_)
  refine hv3 (X1.trans xl2) (nw1.new xl2 hcn2) (xl2.ty ty1) (fun X2 nw2 ty2 => ?_)
  refine c_putrF (x := (some qn2)) (k := 4) C ck_9 dX8_init_32 w1_108 (by decide) rfl rfl rfl ty2 rfl rfl (by decide) rfl (by rfl) (by rfl) (fun rv2 pq5 => ⟨284, (zp2 (Nat.le_refl _)), ?_⟩)
  refine hv2 (W6.putr pq5 ty2 (fun qr => by rw [ty2.2] at qr; cases qr) rfl (by decide)) (F6.putr X2 pq5 ty2 rfl) (fun W7 F7 => ?_)
  refine c_aload_n (j := 0) (x := a0) C dX8_init_35 rfl ?_
  refine c_iconst C dX8_init_36 ?_
  refine c_put (z := 0) (k := 5) C ck_9 dX8_init_37 w1_109 (by decide) rfl ty2 rfl rfl (by decide) rfl (by rfl) (by rfl) (fun iv4 pq6 => ?_)
  refine hv2 (W7.puti pq6 ty2 ⟨by decide, by decide⟩ rfl) (F7.puti X2 pq6 ty2 rfl) (fun W8 F8 => ?_)
  refine c_aload_n (j := 0) (x := a0) C dX8_init_40 rfl ?_
  refine c_bipush (z := 6) C dX8_init_41 (by decide) ?_
  have ty3 := xl2.ty tqn1
  refine c_newaI (z := 6) (N := 6) C 58 dX8_init_43 w1_57 rfl (by omega) (by omega) (rom2 hph (Nat.le_refl 0) (by decide)) (fun qn3 cln3 lnn3 ivn3 rvn3 hqn3 hcn3 hln3 hin3 hrn3 => ⟨306, (z_in (by omega)), ?_⟩)
  refine c_g0 C (fun hg3 => ?_)
  refine hv5 (show ∀ b, b ≠ qn3 → lnn3 b = lnn2 b from (fun b hb => by rw [hln3]; exact va_up_ne _ _ hb)) (show lnn3 qn3 = 6 from by rw [hln3]; exact va_up_self _ _ _) (F8.new X2 hqn3 hin3 hrn3) (show ty (((L ++ [qn1]) ++ [qn2]) ++ [qn3]) cln3 qn3 58 from ty_new hcn3) (show qn3 ∉ L from fun h => hqn3 ((X2 qn3 h).1)) (fun hxn3 lqn3 F9 tqn3 h0qn3 => ?_)
  refine hv2 (W8.new (ln2 := lnn3) hqn3 (hg3 qn3 (List.mem_append_right _ List.mem_cons_self)) hcn3 hxn3 hin3 hrn3 (fun _ => ⟨(show (0 : Int) ≤ 0 by decide), (show (0 : Int) ≤ 125 by decide)⟩) (Or.inr (fun _ => rfl)) (fun _ => by show 6 ≤ lnn3 qn3 ∧ lnn3 qn3 ≤ 6; omega) rfl rfl) (XT.new hqn3 hcn3 hxn3) (fun W9 xl3 => ?_)
  refine hv3 (X2.trans xl3) (nw2.new xl3 hcn3) (xl3.ty ty2) (fun X3 nw3 ty4 => ?_)
  refine c_putrF (x := (some qn3)) (k := 6) C ck_9 dX8_init_45 w1_110 (by decide) rfl rfl rfl ty4 rfl rfl (by decide) rfl (by rfl) (by rfl) (fun rv3 pq7 => ⟨306, (zp2 (Nat.le_refl _)), ?_⟩)
  refine hv2 (W9.putr pq7 ty4 (fun qr => by rw [ty4.2] at qr; cases qr) rfl (by decide)) (F9.putr X3 pq7 ty4 rfl) (fun W10 F10 => ?_)
  refine c_aload_n (j := 0) (x := a0) C dX8_init_48 rfl ?_
  refine c_iconst C dX8_init_49 ?_
  refine c_put (z := 0) (k := 7) C ck_9 dX8_init_50 w1_111 (by decide) rfl ty4 rfl rfl (by decide) rfl (by rfl) (by rfl) (fun iv5 pq8 => ?_)
  refine hv4 (W10.puti pq8 ty4 ⟨by decide, by decide⟩ rfl) (F10.puti X3 pq8 ty4 rfl) (show rv1 a0 3 = (some qn1) from by rw [pq4]; exact upr_s) (show rvn2 a0 3 = rv1 a0 3 from (by rw [hrn2]; exact congrFun (up0_a (ne_in ty1.1 hqn2)) _)) (fun W11 F11 rp1 re1 => ?_)
  rw [rp1] at re1
  have re2 : rv2 a0 3 = rvn2 a0 3 := (by rw [pq5]; exact upr_j (by decide))
  rw [re1] at re2
  have re3 : rvn3 a0 3 = rv2 a0 3 := (by rw [hrn3]; exact congrFun (up0_a (ne_in ty2.1 hqn3)) _)
  rw [re2] at re3
  have re4 : rv3 a0 3 = rvn3 a0 3 := (by rw [pq7]; exact upr_j (by decide))
  rw [re3] at re4
  refine hv2 (show rv2 a0 4 = (some qn2) from by rw [pq5]; exact upr_s) (show rvn3 a0 4 = rv2 a0 4 from (by rw [hrn3]; exact congrFun (up0_a (ne_in ty2.1 hqn3)) _)) (fun rp2 re5 => ?_)
  rw [rp2] at re5
  have re6 : rv3 a0 4 = rvn3 a0 4 := (by rw [pq7]; exact upr_j (by decide))
  rw [re5] at re6
  refine hv34 (show rv3 a0 6 = (some qn3) from by rw [pq7]; exact upr_s) (show ∀ k, ([3, 4, 6] : List Nat).contains k = false → rv3 a0 k = rv a0 k from fun k hk => (Eq.trans (show rv3 a0 k = rvn3 a0 k from (by rw [pq7]; exact upr_j (fun e => by subst e; exact absurd hk (by decide)))) (Eq.trans (show rvn3 a0 k = rv2 a0 k from (by rw [hrn3]; exact congrFun (up0_a (ne_in ty2.1 hqn3)) _)) (Eq.trans (show rv2 a0 k = rvn2 a0 k from (by rw [pq5]; exact upr_j (fun e => by subst e; exact absurd hk (by decide)))) (Eq.trans (show rvn2 a0 k = rv1 a0 k from (by rw [hrn2]; exact congrFun (up0_a (ne_in ty1.1 hqn2)) _)) (Eq.trans (show rv1 a0 k = rvn1 a0 k from (by rw [pq4]; exact upr_j (fun e => by subst e; exact absurd hk (by decide)))) (show rvn1 a0 k = rv a0 k from (by rw [hrn1]; exact congrFun (up0_a (ne_in t_a0.1 hqn1)) _)))))))) (xl3.ty ty3) (xl3.ty tqn2) (show (-2147483648) ≤ iv5 a0 0 ∧ iv5 a0 0 ≤ 2147483647 from W11.int ty4 0) (show iv5 a0 0 = ivn3 a0 0 from by rw [pq8]; exact up2_j (by decide)) (show ivn3 a0 0 = iv4 a0 0 from by rw [hin3]; exact congrFun (up0_a (ne_in ty2.1 hqn3)) _) (show iv4 a0 0 = ivn2 a0 0 from by rw [pq6]; exact up2_j (by decide)) (show ivn2 a0 0 = ivn1 a0 0 from by rw [hin2]; exact congrFun (up0_a (ne_in ty1.1 hqn2)) _) (show ivn1 a0 0 = iv3 a0 0 from by rw [hin1]; exact congrFun (up0_a (ne_in t_a0.1 hqn1)) _) (show iv3 a0 0 = iv2 a0 0 from by rw [pq3]; exact up2_j (by decide)) (show iv2 a0 0 = iv1 a0 0 from by rw [pq2]; exact up2_j (by decide)) (show iv1 a0 0 = 0 from by rw [pq1]; exact up2_s) (show (-2147483648) ≤ iv5 a0 1 ∧ iv5 a0 1 ≤ 2147483647 from W11.int ty4 1) (show iv5 a0 1 = ivn3 a0 1 from by rw [pq8]; exact up2_j (by decide)) (show ivn3 a0 1 = iv4 a0 1 from by rw [hin3]; exact congrFun (up0_a (ne_in ty2.1 hqn3)) _) (show iv4 a0 1 = ivn2 a0 1 from by rw [pq6]; exact up2_j (by decide)) (show ivn2 a0 1 = ivn1 a0 1 from by rw [hin2]; exact congrFun (up0_a (ne_in ty1.1 hqn2)) _) (show ivn1 a0 1 = iv3 a0 1 from by rw [hin1]; exact congrFun (up0_a (ne_in t_a0.1 hqn1)) _) (show iv3 a0 1 = iv2 a0 1 from by rw [pq3]; exact up2_j (by decide)) (show iv2 a0 1 = 0 from by rw [pq2]; exact up2_s) (show (-2147483648) ≤ iv5 a0 2 ∧ iv5 a0 2 ≤ 2147483647 from W11.int ty4 2) (show iv5 a0 2 = ivn3 a0 2 from by rw [pq8]; exact up2_j (by decide)) (show ivn3 a0 2 = iv4 a0 2 from by rw [hin3]; exact congrFun (up0_a (ne_in ty2.1 hqn3)) _) (show iv4 a0 2 = ivn2 a0 2 from by rw [pq6]; exact up2_j (by decide)) (show ivn2 a0 2 = ivn1 a0 2 from by rw [hin2]; exact congrFun (up0_a (ne_in ty1.1 hqn2)) _) (show ivn1 a0 2 = iv3 a0 2 from by rw [hin1]; exact congrFun (up0_a (ne_in t_a0.1 hqn1)) _) (show iv3 a0 2 = 0 from by rw [pq3]; exact up2_s) (show (-2147483648) ≤ iv5 a0 5 ∧ iv5 a0 5 ≤ 2147483647 from W11.int ty4 5) (show iv5 a0 5 = ivn3 a0 5 from by rw [pq8]; exact up2_j (by decide)) (show ivn3 a0 5 = iv4 a0 5 from by rw [hin3]; exact congrFun (up0_a (ne_in ty2.1 hqn3)) _) (show iv4 a0 5 = 0 from by rw [pq6]; exact up2_s) (show (-2147483648) ≤ iv5 a0 7 ∧ iv5 a0 7 ≤ 2147483647 from W11.int ty4 7) (show iv5 a0 7 = 0 from by rw [pq8]; exact up2_s) (fun rp3 rn1 ty5 ty6 ri1 ie1 ie2 ie3 ie4 ie5 ie6 ie7 ie8 ri2 ie9 ie10 ie11 ie12 ie13 ie14 ie15 ri3 ie16 ie17 ie18 ie19 ie20 ie21 ri4 ie22 ie23 ie24 ri5 ie25 => ?_)
  exact c_vret C dX8_init_53 rfl (by decide) (rom0 hph (Nat.le_refl 0) (by decide)) ⟨rfl, X3, F11, W11, ⟨qn1, qn2, qn3, rn1, re4, ty5, re6, ty6, rp3, tqn3, (by omega), (by omega), (by omega), (by omega), (by omega)⟩, nw3.sub (by decide)⟩
set_option maxHeartbeats 4000000 in
set_option maxRecDepth 100000 in
theorem Y_setting {l : Launch} {G : GT} {mi : Nat} {sk : Nat → Nat} {L : List Nat} {cl ln : Nat → Nat} {iv : Nat → Nat → Int} {rv : Nat → Nat → Option Nat}  {a0 : Nat} (hW : WT (g0 G) sk L cl ln iv rv) (t_a0 : ty L cl a0 207)  : Mc l G mi zPf 0 yX6_init cX6_init 1 none 1 [.ref a0] L cl ln iv rv 2301 (fun v L2 cl2 ln2 iv2 rv2 => v = none ∧ XT L cl ln L2 cl2 ln2 ∧ fT [207] L cl iv rv iv2 rv2 ∧ WT (g0 G) sk L2 cl2 ln2 iv2 rv2 ∧ (∃ b0 b1 b2 b3 b6 b8, (∀ k, ([0, 1, 2, 3, 6, 8] : List Nat).contains k = false → rv2 a0 k = rv a0 k) ∧ rv2 a0 0 = some b0 ∧ ty L2 cl2 b0 50 ∧ rv2 a0 1 = some b1 ∧ ty L2 cl2 b1 51 ∧ rv2 a0 2 = some b2 ∧ ty L2 cl2 b2 52 ∧ rv2 a0 3 = some b3 ∧ ty L2 cl2 b3 53 ∧ rv2 a0 6 = some b6 ∧ ty L2 cl2 b6 54 ∧ rv2 a0 8 = some b8 ∧ ty L2 cl2 b8 55 ∧ iv2 a0 4 = 0 ∧ iv2 a0 5 = 0 ∧ iv2 a0 7 = 0 ∧ iv2 a0 9 = 0 ∧ iv2 a0 10 = 0 ∧ iv2 a0 11 = 0) ∧ NW [50, 51, 52, 53, 54, 55] L L2 cl2) := by
  refine Mc.mk (by decide) (Nat.le_of_ble_eq_true rfl) ?_
  intro p e s m args below meth c A C hM
  refine hv4 ((show zPf ln rv ≤ 0 from Nat.le_refl 0)) (show NW [] L L cl from NW.refl) (show XT L cl ln L cl ln from XT.refl) (show fT [207] L cl iv rv iv rv from fT.refl) (fun hph nw0 hX0 hF0 => ?_)
  refine c_aload_n (j := 0) (x := a0) C dX6_init_0 rfl ?_
  refine c_objInit C dX6_init_1 w1_135 w1_30 w1_31 (by decide) (Nat.le_of_ble_eq_true rfl) ?_
  refine c_aload_n (j := 0) (x := a0) C dX6_init_4 rfl ?_
  refine c_sipush (z := 500) C dX6_init_5 (by decide) ?_
  refine c_newaI (z := 500) (N := 500) C 50 dX6_init_8 w1_57 rfl (by omega) (by omega) (rom2 hph hph (by decide)) (fun qn1 cln1 lnn1 ivn1 rvn1 hqn1 hcn1 hln1 hin1 hrn1 => ⟨516, (z_in (by omega)), ?_⟩)
  refine c_g0 C (fun hg1 => ?_)
  refine hv5 (show ∀ b, b ≠ qn1 → lnn1 b = ln b from (fun b hb => by rw [hln1]; exact va_up_ne _ _ hb)) (show lnn1 qn1 = 500 from by rw [hln1]; exact va_up_self _ _ _) (hF0.new hX0 hqn1 hin1 hrn1) (show ty (L ++ [qn1]) cln1 qn1 50 from ty_new hcn1) (show qn1 ∉ L from fun h => hqn1 ((hX0 qn1 h).1)) (fun hxn1 lqn1 F1 tqn1 h0qn1 => ?_)
  refine hv2 (hW.new (ln2 := lnn1) hqn1 (hg1 qn1 (List.mem_append_right _ List.mem_cons_self)) hcn1 hxn1 hin1 hrn1 (fun _ => ⟨(show (-2147483648 : Int) ≤ 0 by decide), (show (0 : Int) ≤ 2147483647 by decide)⟩) (Or.inr (fun _ => rfl)) (fun _ => by show 500 ≤ lnn1 qn1 ∧ lnn1 qn1 ≤ 500; omega) rfl rfl) (XT.new hqn1 hcn1 hxn1) (fun W1 xl1 => ?_)
  refine hv3 (hX0.trans xl1) (nw0.new xl1 hcn1) (xl1.ty t_a0) (fun X1 nw1 ty1 => ?_)
  refine c_putrF (x := (some qn1)) (k := 0) C ck_7 dX6_init_10 w1_136 (by decide) rfl rfl rfl ty1 rfl rfl (by decide) rfl (by rfl) (by rfl) (fun rv1 pq1 => ⟨516, (zp2 (Nat.le_refl _)), ?_⟩)
  refine hv2 (W1.putr pq1 ty1 (fun qr => by rw [ty1.2] at qr; cases qr) rfl (by decide)) (F1.putr X1 pq1 ty1 rfl) (fun W2 F2 => ?_)
  refine c_aload_n (j := 0) (x := a0) C dX6_init_13 rfl ?_
  refine c_sipush (z := 500) C dX6_init_14 (by decide) ?_
  refine c_newaI (z := 500) (N := 500) C 51 dX6_init_17 w1_57 rfl (by omega) (by omega) (rom2 hph (Nat.le_refl 0) (by decide)) (fun qn2 cln2 lnn2 ivn2 rvn2 hqn2 hcn2 hln2 hin2 hrn2 => ⟨1032, (z_in (by omega)), ?_⟩)
  refine c_g0 C (fun hg2 => ?_)
  refine hv5 (show ∀ b, b ≠ qn2 → lnn2 b = lnn1 b from (fun b hb => by rw [hln2]; exact va_up_ne _ _ hb)) (show lnn2 qn2 = 500 from by rw [hln2]; exact va_up_self _ _ _) (F2.new X1 hqn2 hin2 hrn2) (show ty ((L ++ [qn1]) ++ [qn2]) cln2 qn2 51 from ty_new hcn2) (show qn2 ∉ L from fun h => hqn2 ((X1 qn2 h).1)) (fun hxn2 lqn2 F3 tqn2 h0qn2 => ?_)
  refine hv2 (W2.new (ln2 := lnn2) hqn2 (hg2 qn2 (List.mem_append_right _ List.mem_cons_self)) hcn2 hxn2 hin2 hrn2 (fun _ => ⟨(show (-2147483648 : Int) ≤ 0 by decide), (show (0 : Int) ≤ 2147483647 by decide)⟩) (Or.inr (fun _ => rfl)) (fun _ => by show 500 ≤ lnn2 qn2 ∧ lnn2 qn2 ≤ 500; omega) rfl rfl) (XT.new hqn2 hcn2 hxn2) (fun W3 xl2 => ?_)
  refine hv3 (X1.trans xl2) (nw1.new xl2 hcn2) (xl2.ty ty1) (fun X2 nw2 ty2 => ?_)
  refine c_putrF (x := (some qn2)) (k := 1) C ck_7 dX6_init_19 w1_137 (by decide) rfl rfl rfl ty2 rfl rfl (by decide) rfl (by rfl) (by rfl) (fun rv2 pq2 => ⟨1032, (zp2 (Nat.le_refl _)), ?_⟩)
  refine hv2 (W3.putr pq2 ty2 (fun qr => by rw [ty2.2] at qr; cases qr) rfl (by decide)) (F3.putr X2 pq2 ty2 rfl) (fun W4 F4 => ?_)
  refine c_aload_n (j := 0) (x := a0) C dX6_init_22 rfl ?_
  refine c_sipush (z := 500) C dX6_init_23 (by decide) ?_
  have ty3 := xl2.ty tqn1
  refine c_newaZ (z := 500) (N := 500) C 52 dX6_init_26 w1_129 rfl (by omega) (by omega) (rom2 hph (Nat.le_refl 0) (by decide)) (fun qn3 cln3 lnn3 ivn3 rvn3 hqn3 hcn3 hln3 hin3 hrn3 => ⟨1548, (z_in (by omega)), ?_⟩)
  refine c_g0 C (fun hg3 => ?_)
  refine hv5 (show ∀ b, b ≠ qn3 → lnn3 b = lnn2 b from (fun b hb => by rw [hln3]; exact va_up_ne _ _ hb)) (show lnn3 qn3 = 500 from by rw [hln3]; exact va_up_self _ _ _) (F4.new X2 hqn3 hin3 hrn3) (show ty (((L ++ [qn1]) ++ [qn2]) ++ [qn3]) cln3 qn3 52 from ty_new hcn3) (show qn3 ∉ L from fun h => hqn3 ((X2 qn3 h).1)) (fun hxn3 lqn3 F5 tqn3 h0qn3 => ?_)
  refine hv2 (W4.new (ln2 := lnn3) hqn3 (hg3 qn3 (List.mem_append_right _ List.mem_cons_self)) hcn3 hxn3 hin3 hrn3 (fun _ => ⟨(show (0 : Int) ≤ 0 by decide), (show (0 : Int) ≤ 1 by decide)⟩) (Or.inr (fun _ => rfl)) (fun _ => by show 500 ≤ lnn3 qn3 ∧ lnn3 qn3 ≤ 500; omega) rfl rfl) (XT.new hqn3 hcn3 hxn3) (fun W5 xl3 => ?_)
  refine hv3 (X2.trans xl3) (nw2.new xl3 hcn3) (xl3.ty ty2) (fun X3 nw3 ty4 => ?_)
  refine c_putrF (x := (some qn3)) (k := 2) C ck_7 dX6_init_28 w1_138 (by decide) rfl rfl rfl ty4 rfl rfl (by decide) rfl (by rfl) (by rfl) (fun rv3 pq3 => ⟨1548, (zp2 (Nat.le_refl _)), ?_⟩)
  refine hv2 (W5.putr pq3 ty4 (fun qr => by rw [ty4.2] at qr; cases qr) rfl (by decide)) (F5.putr X3 pq3 ty4 rfl) (fun W6 F6 => ?_)
  refine c_aload_n (j := 0) (x := a0) C dX6_init_31 rfl ?_
  refine c_sipush (z := 500) C dX6_init_32 (by decide) ?_
  refine hv2 (xl3.ty ty3) (xl3.ty tqn2) (fun ty5 ty6 => ?_)
  refine c_newaI (z := 500) (N := 500) C 53 dX6_init_35 w1_57 rfl (by omega) (by omega) (rom2 hph (Nat.le_refl 0) (by decide)) (fun qn4 cln4 lnn4 ivn4 rvn4 hqn4 hcn4 hln4 hin4 hrn4 => ⟨2064, (z_in (by omega)), ?_⟩)
  refine c_g0 C (fun hg4 => ?_)
  refine hv5 (show ∀ b, b ≠ qn4 → lnn4 b = lnn3 b from (fun b hb => by rw [hln4]; exact va_up_ne _ _ hb)) (show lnn4 qn4 = 500 from by rw [hln4]; exact va_up_self _ _ _) (F6.new X3 hqn4 hin4 hrn4) (show ty ((((L ++ [qn1]) ++ [qn2]) ++ [qn3]) ++ [qn4]) cln4 qn4 53 from ty_new hcn4) (show qn4 ∉ L from fun h => hqn4 ((X3 qn4 h).1)) (fun hxn4 lqn4 F7 tqn4 h0qn4 => ?_)
  refine hv2 (W6.new (ln2 := lnn4) hqn4 (hg4 qn4 (List.mem_append_right _ List.mem_cons_self)) hcn4 hxn4 hin4 hrn4 (fun _ => ⟨(show (-2147483648 : Int) ≤ 0 by decide), (show (0 : Int) ≤ 2147483647 by decide)⟩) (Or.inr (fun _ => rfl)) (fun _ => by show 500 ≤ lnn4 qn4 ∧ lnn4 qn4 ≤ 500; omega) rfl rfl) (XT.new hqn4 hcn4 hxn4) (fun W7 xl4 => ?_)
  refine hv3 (X3.trans xl4) (nw3.new xl4 hcn4) (xl4.ty ty4) (fun X4 nw4 ty7 => ?_)
  refine c_putrF (x := (some qn4)) (k := 3) C ck_7 dX6_init_37 w1_139 (by decide) rfl rfl rfl ty7 rfl rfl (by decide) rfl (by rfl) (by rfl) (fun rv4 pq4 => ⟨2064, (zp2 (Nat.le_refl _)), ?_⟩)
  refine hv2 (W7.putr pq4 ty7 (fun qr => by rw [ty7.2] at qr; cases qr) rfl (by decide)) (F7.putr X4 pq4 ty7 rfl) (fun W8 F8 => ?_)
  refine c_aload_n (j := 0) (x := a0) C dX6_init_40 rfl ?_
  refine c_iconst C dX6_init_41 ?_
  refine c_put (z := 0) (k := 4) C ck_7 dX6_init_42 w1_140 (by decide) rfl ty7 rfl rfl (by decide) rfl (by rfl) (by rfl) (fun iv1 pq5 => ?_)
  refine hv2 (W8.puti pq5 ty7 ⟨by decide, by decide⟩ rfl) (F8.puti X4 pq5 ty7 rfl) (fun W9 F9 => ?_)
  refine c_aload_n (j := 0) (x := a0) C dX6_init_45 rfl ?_
  refine c_iconst C dX6_init_46 ?_
  refine c_put (z := 0) (k := 5) C ck_7 dX6_init_47 w1_143 (by decide) rfl ty7 rfl rfl (by decide) rfl (by decide) (by decide) (fun iv2 pq6 => ?_)
  refine hv2 (W9.puti pq6 ty7 ⟨by decide, by decide⟩ rfl) (F9.puti X4 pq6 ty7 rfl) (fun W10 F10 => ?_)
  refine c_aload_n (j := 0) (x := a0) C dX6_init_50 rfl ?_
  refine c_sipush (z := 200) C dX6_init_51 (by decide) ?_
  refine hv3 (xl4.ty ty5) (xl4.ty ty6) (xl4.ty tqn3) (fun ty8 ty9 ty10 => ?_)
  refine c_newaI (z := 200) (N := 200) C 54 dX6_init_54 w1_57 rfl (by omega) (by omega) (rom2 hph (Nat.le_refl 0) (by decide)) (fun qn5 cln5 lnn5 ivn5 rvn5 hqn5 hcn5 hln5 hin5 hrn5 => ⟨2280, (z_in (by omega)), ?_⟩)
  refine c_g0 C (fun hg5 => ?_)
  refine hv5 (show ∀ b, b ≠ qn5 → lnn5 b = lnn4 b from (fun b hb => by rw [hln5]; exact va_up_ne _ _ hb)) (show lnn5 qn5 = 200 from by rw [hln5]; exact va_up_self _ _ _) (F10.new X4 hqn5 hin5 hrn5) (show ty (((((L ++ [qn1]) ++ [qn2]) ++ [qn3]) ++ [qn4]) ++ [qn5]) cln5 qn5 54 from ty_new hcn5) (show qn5 ∉ L from fun h => hqn5 ((X4 qn5 h).1)) (fun hxn5 lqn5 F11 tqn5 h0qn5 => ?_)
  refine hv2 (W10.new (ln2 := lnn5) hqn5 (hg5 qn5 (List.mem_append_right _ List.mem_cons_self)) hcn5 hxn5 hin5 hrn5 (fun _ => ⟨(show (-2147483648 : Int) ≤ 0 by decide), (show (0 : Int) ≤ 2147483647 by decide)⟩) (Or.inr (fun _ => rfl)) (fun _ => by show 200 ≤ lnn5 qn5 ∧ lnn5 qn5 ≤ 200; omega) rfl rfl) (XT.new hqn5 hcn5 hxn5) (fun W11 xl5 => ?_)
  refine hv3 (X4.trans xl5) (nw4.new xl5 hcn5) (xl5.ty ty7) (fun X5 nw5 ty11 => ?_)
  refine c_putrF (x := (some qn5)) (k := 6) C ck_7 dX6_init_56 w1_144 (by decide) rfl rfl rfl ty11 rfl rfl (by decide) rfl (by rfl) (by rfl) (fun rv5 pq7 => ⟨2280, (zp2 (Nat.le_refl _)), ?_⟩)
  refine hv2 (W11.putr pq7 ty11 (fun qr => by rw [ty11.2] at qr; cases qr) rfl (by decide)) (F11.putr X5 pq7 ty11 rfl) (fun W12 F12 => ?_)
  refine c_aload_n (j := 0) (x := a0) C dX6_init_59 rfl ?_
  refine c_iconst C dX6_init_60 ?_
  refine c_put (z := 0) (k := 7) C ck_7 dX6_init_61 w1_147 (by decide) rfl ty11 rfl rfl (by decide) rfl (by rfl) (by rfl) (fun iv3 pq8 => ?_)
  refine hv2 (W12.puti pq8 ty11 ⟨by decide, by decide⟩ rfl) (F12.puti X5 pq8 ty11 rfl) (fun W13 F13 => ?_)
  refine c_aload_n (j := 0) (x := a0) C dX6_init_64 rfl ?_
  refine c_iconst C dX6_init_65 ?_
  refine hv4 (xl5.ty ty8) (xl5.ty ty9) (xl5.ty ty10) (xl5.ty tqn4) (fun ty12 ty13 ty14 ty15 => ?_)
  refine c_newaI (z := 5) (N := 5) C 55 dX6_init_66 w1_57 rfl (by omega) (by omega) (rom2 hph (Nat.le_refl 0) (by decide)) (fun qn6 cln6 lnn6 ivn6 rvn6 hqn6 hcn6 hln6 hin6 hrn6 => ⟨2301, (z_in (by omega)), ?_⟩)
  refine c_g0 C (fun hg6 => ?_)
  refine hv5 (show ∀ b, b ≠ qn6 → lnn6 b = lnn5 b from (fun b hb => by rw [hln6]; exact va_up_ne _ _ hb)) (show lnn6 qn6 = 5 from by rw [hln6]; exact va_up_self _ _ _) (F13.new X5 hqn6 hin6 hrn6) (show ty ((((((L ++ [qn1]) ++ [qn2]) ++ [qn3]) ++ [qn4]) ++ [qn5]) ++ [qn6]) cln6 qn6 55 from ty_new hcn6) (show qn6 ∉ L from fun h => hqn6 ((X5 qn6 h).1)) (fun hxn6 lqn6 F14 tqn6 h0qn6 => ?_)
  refine hv2 (W13.new (ln2 := lnn6) hqn6 (hg6 qn6 (List.mem_append_right _ List.mem_cons_self)) hcn6 hxn6 hin6 hrn6 (fun _ => ⟨(show (-2147483648 : Int) ≤ 0 by decide), (show (0 : Int) ≤ 2147483647 by decide)⟩) (Or.inr (fun _ => rfl)) (fun _ => by show 5 ≤ lnn6 qn6 ∧ lnn6 qn6 ≤ 5; omega) rfl rfl) (XT.new hqn6 hcn6 hxn6) (fun W14 xl6 => ?_)
  refine hv3 (X5.trans xl6) (nw5.new xl6 hcn6) (xl6.ty ty11) (fun X6 nw6 ty16 => ?_)
  refine c_putrF (x := (some qn6)) (k := 8) C ck_7 dX6_init_68 w1_150 (by decide) rfl rfl rfl ty16 rfl rfl (by decide) rfl (by rfl) (by rfl) (fun rv6 pq9 => ⟨2301, (zp2 (Nat.le_refl _)), ?_⟩)
  refine hv2 (W14.putr pq9 ty16 (fun qr => by rw [ty16.2] at qr; cases qr) rfl (by decide)) (F14.putr X6 pq9 ty16 rfl) (fun W15 F15 => ?_)
  refine c_aload_n (j := 0) (x := a0) C dX6_init_71 rfl ?_
  refine c_iconst C dX6_init_72 ?_
  refine c_put (z := 0) (k := 9) C ck_7 dX6_init_73 w1_151 (by decide) rfl ty16 rfl rfl (by decide) rfl (by rfl) (by rfl) (fun iv4 pq10 => ?_)
  refine hv2 (W15.puti pq10 ty16 ⟨by decide, by decide⟩ rfl) (F15.puti X6 pq10 ty16 rfl) (fun W16 F16 => ?_)
  refine c_aload_n (j := 0) (x := a0) C dX6_init_76 rfl ?_
  refine c_iconst C dX6_init_77 ?_
  refine c_put (z := 0) (k := 10) C ck_7 dX6_init_78 w1_152 (by decide) rfl ty16 rfl rfl (by decide) rfl (by rfl) (by rfl) (fun iv5 pq11 => ?_)
  refine hv2 (W16.puti pq11 ty16 ⟨by decide, by decide⟩ rfl) (F16.puti X6 pq11 ty16 rfl) (fun W17 F17 => ?_)
  refine c_aload_n (j := 0) (x := a0) C dX6_init_81 rfl ?_
  refine c_iconst C dX6_init_82 ?_
  refine c_put (z := 0) (k := 11) C ck_7 dX6_init_83 w1_153 (by decide) rfl ty16 rfl rfl (by decide) rfl (by rfl) (by rfl) (fun iv6 pq12 => ?_)
  refine hv4 (W17.puti pq12 ty16 ⟨by decide, by decide⟩ rfl) (F17.puti X6 pq12 ty16 rfl) (show rv1 a0 0 = (some qn1) from by rw [pq1]; exact upr_s) (show rvn2 a0 0 = rv1 a0 0 from (by rw [hrn2]; exact congrFun (up0_a (ne_in ty1.1 hqn2)) _)) (fun W18 F18 rp1 re1 => ?_)
  rw [rp1] at re1
  have re2 : rv2 a0 0 = rvn2 a0 0 := (by rw [pq2]; exact upr_j (by decide))
  rw [re1] at re2
  have re3 : rvn3 a0 0 = rv2 a0 0 := (by rw [hrn3]; exact congrFun (up0_a (ne_in ty2.1 hqn3)) _)
  rw [re2] at re3
  have re4 : rv3 a0 0 = rvn3 a0 0 := (by rw [pq3]; exact upr_j (by decide))
  rw [re3] at re4
  have re5 : rvn4 a0 0 = rv3 a0 0 := (by rw [hrn4]; exact congrFun (up0_a (ne_in ty4.1 hqn4)) _)
  rw [re4] at re5
  have re6 : rv4 a0 0 = rvn4 a0 0 := (by rw [pq4]; exact upr_j (by decide))
  rw [re5] at re6
  have re7 : rvn5 a0 0 = rv4 a0 0 := (by rw [hrn5]; exact congrFun (up0_a (ne_in ty7.1 hqn5)) _)
  rw [re6] at re7
  have re8 : rv5 a0 0 = rvn5 a0 0 := (by rw [pq7]; exact upr_j (by decide))
  rw [re7] at re8
  have re9 : rvn6 a0 0 = rv5 a0 0 := (by rw [hrn6]; exact congrFun (up0_a (ne_in ty11.1 hqn6)) _)
  rw [re8] at re9
  have re10 : rv6 a0 0 = rvn6 a0 0 := (by rw [pq9]; exact upr_j (by decide))
  rw [re9] at re10
  refine hv2 (show rv2 a0 1 = (some qn2) from by rw [pq2]; exact upr_s) (show rvn3 a0 1 = rv2 a0 1 from (by rw [hrn3]; exact congrFun (up0_a (ne_in ty2.1 hqn3)) _)) (fun rp2 re11 => ?_)
  rw [rp2] at re11
  have re12 : rv3 a0 1 = rvn3 a0 1 := (by rw [pq3]; exact upr_j (by decide))
  rw [re11] at re12
  have re13 : rvn4 a0 1 = rv3 a0 1 := (by rw [hrn4]; exact congrFun (up0_a (ne_in ty4.1 hqn4)) _)
  rw [re12] at re13
  have re14 : rv4 a0 1 = rvn4 a0 1 := (by rw [pq4]; exact upr_j (by decide))
  rw [re13] at re14
  have re15 : rvn5 a0 1 = rv4 a0 1 := (by rw [hrn5]; exact congrFun (up0_a (ne_in ty7.1 hqn5)) _)
  rw [re14] at re15
  have re16 : rv5 a0 1 = rvn5 a0 1 := (by rw [pq7]; exact upr_j (by decide))
  rw [re15] at re16
  have re17 : rvn6 a0 1 = rv5 a0 1 := (by rw [hrn6]; exact congrFun (up0_a (ne_in ty11.1 hqn6)) _)
  rw [re16] at re17
  have re18 : rv6 a0 1 = rvn6 a0 1 := (by rw [pq9]; exact upr_j (by decide))
  rw [re17] at re18
  refine hv2 (show rv3 a0 2 = (some qn3) from by rw [pq3]; exact upr_s) (show rvn4 a0 2 = rv3 a0 2 from (by rw [hrn4]; exact congrFun (up0_a (ne_in ty4.1 hqn4)) _)) (fun rp3 re19 => ?_)
  rw [rp3] at re19
  have re20 : rv4 a0 2 = rvn4 a0 2 := (by rw [pq4]; exact upr_j (by decide))
  rw [re19] at re20
  have re21 : rvn5 a0 2 = rv4 a0 2 := (by rw [hrn5]; exact congrFun (up0_a (ne_in ty7.1 hqn5)) _)
  rw [re20] at re21
  have re22 : rv5 a0 2 = rvn5 a0 2 := (by rw [pq7]; exact upr_j (by decide))
  rw [re21] at re22
  have re23 : rvn6 a0 2 = rv5 a0 2 := (by rw [hrn6]; exact congrFun (up0_a (ne_in ty11.1 hqn6)) _)
  rw [re22] at re23
  have re24 : rv6 a0 2 = rvn6 a0 2 := (by rw [pq9]; exact upr_j (by decide))
  rw [re23] at re24
  refine hv2 (show rv4 a0 3 = (some qn4) from by rw [pq4]; exact upr_s) (show rvn5 a0 3 = rv4 a0 3 from (by rw [hrn5]; exact congrFun (up0_a (ne_in ty7.1 hqn5)) _)) (fun rp4 re25 => ?_)
  rw [rp4] at re25
  have re26 : rv5 a0 3 = rvn5 a0 3 := (by rw [pq7]; exact upr_j (by decide))
  rw [re25] at re26
  have re27 : rvn6 a0 3 = rv5 a0 3 := (by rw [hrn6]; exact congrFun (up0_a (ne_in ty11.1 hqn6)) _)
  rw [re26] at re27
  have re28 : rv6 a0 3 = rvn6 a0 3 := (by rw [pq9]; exact upr_j (by decide))
  rw [re27] at re28
  refine hv2 (show rv5 a0 6 = (some qn5) from by rw [pq7]; exact upr_s) (show rvn6 a0 6 = rv5 a0 6 from (by rw [hrn6]; exact congrFun (up0_a (ne_in ty11.1 hqn6)) _)) (fun rp5 re29 => ?_)
  rw [rp5] at re29
  have re30 : rv6 a0 6 = rvn6 a0 6 := (by rw [pq9]; exact upr_j (by decide))
  rw [re29] at re30
  refine hv39 (show rv6 a0 8 = (some qn6) from by rw [pq9]; exact upr_s) (show ∀ k, ([0, 1, 2, 3, 6, 8] : List Nat).contains k = false → rv6 a0 k = rv a0 k from fun k hk => (Eq.trans (show rv6 a0 k = rvn6 a0 k from (by rw [pq9]; exact upr_j (fun e => by subst e; exact absurd hk (by decide)))) (Eq.trans (show rvn6 a0 k = rv5 a0 k from (by rw [hrn6]; exact congrFun (up0_a (ne_in ty11.1 hqn6)) _)) (Eq.trans (show rv5 a0 k = rvn5 a0 k from (by rw [pq7]; exact upr_j (fun e => by subst e; exact absurd hk (by decide)))) (Eq.trans (show rvn5 a0 k = rv4 a0 k from (by rw [hrn5]; exact congrFun (up0_a (ne_in ty7.1 hqn5)) _)) (Eq.trans (show rv4 a0 k = rvn4 a0 k from (by rw [pq4]; exact upr_j (fun e => by subst e; exact absurd hk (by decide)))) (Eq.trans (show rvn4 a0 k = rv3 a0 k from (by rw [hrn4]; exact congrFun (up0_a (ne_in ty4.1 hqn4)) _)) (Eq.trans (show rv3 a0 k = rvn3 a0 k from (by rw [pq3]; exact upr_j (fun e => by subst e; exact absurd hk (by decide)))) (Eq.trans (show rvn3 a0 k = rv2 a0 k from (by rw [hrn3]; exact congrFun (up0_a (ne_in ty2.1 hqn3)) _)) (Eq.trans (show rv2 a0 k = rvn2 a0 k from (by rw [pq2]; exact upr_j (fun e => by subst e; exact absurd hk (by decide)))) (Eq.trans (show rvn2 a0 k = rv1 a0 k from (by rw [hrn2]; exact congrFun (up0_a (ne_in ty1.1 hqn2)) _)) (Eq.trans (show rv1 a0 k = rvn1 a0 k from (by rw [pq1]; exact upr_j (fun e => by subst e; exact absurd hk (by decide)))) (show rvn1 a0 k = rv a0 k from (by rw [hrn1]; exact congrFun (up0_a (ne_in t_a0.1 hqn1)) _)))))))))))))) (xl6.ty ty12) (xl6.ty ty13) (xl6.ty ty14) (xl6.ty ty15) (xl6.ty tqn5) (show (-2147483648) ≤ iv6 a0 4 ∧ iv6 a0 4 ≤ 2147483647 from W18.int ty16 4) (show iv6 a0 4 = iv5 a0 4 from by rw [pq12]; exact up2_j (by decide)) (show iv5 a0 4 = iv4 a0 4 from by rw [pq11]; exact up2_j (by decide)) (show iv4 a0 4 = ivn6 a0 4 from by rw [pq10]; exact up2_j (by decide)) (show ivn6 a0 4 = iv3 a0 4 from by rw [hin6]; exact congrFun (up0_a (ne_in ty11.1 hqn6)) _) (show iv3 a0 4 = ivn5 a0 4 from by rw [pq8]; exact up2_j (by decide)) (show ivn5 a0 4 = iv2 a0 4 from by rw [hin5]; exact congrFun (up0_a (ne_in ty7.1 hqn5)) _) (show iv2 a0 4 = iv1 a0 4 from by rw [pq6]; exact up2_j (by decide)) (show iv1 a0 4 = 0 from by rw [pq5]; exact up2_s) (show (-2147483648) ≤ iv6 a0 5 ∧ iv6 a0 5 ≤ 2147483647 from W18.int ty16 5) (show iv6 a0 5 = iv5 a0 5 from by rw [pq12]; exact up2_j (by decide)) (show iv5 a0 5 = iv4 a0 5 from by rw [pq11]; exact up2_j (by decide)) (show iv4 a0 5 = ivn6 a0 5 from by rw [pq10]; exact up2_j (by decide)) (show ivn6 a0 5 = iv3 a0 5 from by rw [hin6]; exact congrFun (up0_a (ne_in ty11.1 hqn6)) _) (show iv3 a0 5 = ivn5 a0 5 from by rw [pq8]; exact up2_j (by decide)) (show ivn5 a0 5 = iv2 a0 5 from by rw [hin5]; exact congrFun (up0_a (ne_in ty7.1 hqn5)) _) (show iv2 a0 5 = 0 from by rw [pq6]; exact up2_s) (show (-2147483648) ≤ iv6 a0 7 ∧ iv6 a0 7 ≤ 2147483647 from W18.int ty16 7) (show iv6 a0 7 = iv5 a0 7 from by rw [pq12]; exact up2_j (by decide)) (show iv5 a0 7 = iv4 a0 7 from by rw [pq11]; exact up2_j (by decide)) (show iv4 a0 7 = ivn6 a0 7 from by rw [pq10]; exact up2_j (by decide)) (show ivn6 a0 7 = iv3 a0 7 from by rw [hin6]; exact congrFun (up0_a (ne_in ty11.1 hqn6)) _) (show iv3 a0 7 = 0 from by rw [pq8]; exact up2_s) (show (-2147483648) ≤ iv6 a0 9 ∧ iv6 a0 9 ≤ 2147483647 from W18.int ty16 9) (show iv6 a0 9 = iv5 a0 9 from by rw [pq12]; exact up2_j (by decide)) (show iv5 a0 9 = iv4 a0 9 from by rw [pq11]; exact up2_j (by decide)) (show iv4 a0 9 = 0 from by rw [pq10]; exact up2_s) (show (-2147483648) ≤ iv6 a0 10 ∧ iv6 a0 10 ≤ 2147483647 from W18.int ty16 10) (show iv6 a0 10 = iv5 a0 10 from by rw [pq12]; exact up2_j (by decide)) (show iv5 a0 10 = 0 from by rw [pq11]; exact up2_s) (show (-2147483648) ≤ iv6 a0 11 ∧ iv6 a0 11 ≤ 2147483647 from W18.int ty16 11) (show iv6 a0 11 = 0 from by rw [pq12]; exact up2_s) (fun rp6 rn1 ty17 ty18 ty19 ty20 ty21 ri1 ie1 ie2 ie3 ie4 ie5 ie6 ie7 ie8 ri2 ie9 ie10 ie11 ie12 ie13 ie14 ie15 ri3 ie16 ie17 ie18 ie19 ie20 ri4 ie21 ie22 ie23 ri5 ie24 ie25 ri6 ie26 => ?_)
  exact c_vret C dX6_init_86 rfl (by decide) (rom0 hph (Nat.le_refl 0) (by decide)) ⟨rfl, X6, F18, W18, ⟨qn1, qn2, qn3, qn4, qn5, qn6, rn1, re10, ty17, re18, ty18, re24, ty19, re28, ty20, re30, ty21, rp6, tqn6, (by omega), (by omega), (by omega), (by omega), (by omega), (by omega)⟩, nw6.sub (by decide)⟩
set_option maxHeartbeats 4000000 in
set_option maxRecDepth 100000 in
theorem Y_sheet {l : Launch} {G : GT} {mi : Nat} {sk : Nat → Nat} {L : List Nat} {cl ln : Nat → Nat} {iv : Nat → Nat → Int} {rv : Nat → Nat → Option Nat}  {a0 : Nat} (hW : WT (g0 G) sk L cl ln iv rv) (t_a0 : ty L cl a0 208)  : Mc l G mi zPf 0 yX7_init cX7_init 1 none 1 [.ref a0] L cl ln iv rv 216 (fun v L2 cl2 ln2 iv2 rv2 => v = none ∧ XT L cl ln L2 cl2 ln2 ∧ fT [208] L cl iv rv iv2 rv2 ∧ WT (g0 G) sk L2 cl2 ln2 iv2 rv2 ∧ (∃ b, (∀ k, ([0] : List Nat).contains k = false → rv2 a0 k = rv a0 k) ∧ rv2 a0 0 = some b ∧ ty L2 cl2 b 213 ∧ ln2 b = 200 ∧ (∀ k, rv2 b k = none) ∧ b ∉ L ∧ iv2 a0 1 = 0) ∧ NW [213] L L2 cl2) := by
  refine Mc.mk (by decide) (Nat.le_of_ble_eq_true rfl) ?_
  intro p e s m args below meth c A C hM
  refine hv4 ((show zPf ln rv ≤ 0 from Nat.le_refl 0)) (show NW [] L L cl from NW.refl) (show XT L cl ln L cl ln from XT.refl) (show fT [208] L cl iv rv iv rv from fT.refl) (fun hph nw0 hX0 hF0 => ?_)
  refine c_aload_n (j := 0) (x := a0) C dX7_init_0 rfl ?_
  refine c_objInit C dX7_init_1 w2_30 w1_30 w1_31 (by decide) (Nat.le_of_ble_eq_true rfl) ?_
  refine c_aload_n (j := 0) (x := a0) C dX7_init_4 rfl ?_
  refine c_sipush (z := 200) C dX7_init_5 (by decide) ?_
  refine c_newaL (z := 200) (N := 200) C 213 dX7_init_8 w2_31 w2_32t rfl (by omega) (by omega) (rom2 hph hph (by decide)) (fun qn1 cln1 lnn1 ivn1 rvn1 hqn1 hcn1 hln1 hin1 hrn1 => ⟨216, (z_in (by omega)), ?_⟩)
  refine c_g0 C (fun hg1 => ?_)
  refine hv5 (show ∀ b, b ≠ qn1 → lnn1 b = ln b from (fun b hb => by rw [hln1]; exact va_up_ne _ _ hb)) (show lnn1 qn1 = 200 from by rw [hln1]; exact va_up_self _ _ _) (hF0.new hX0 hqn1 hin1 hrn1) (show ty (L ++ [qn1]) cln1 qn1 213 from ty_new hcn1) (show qn1 ∉ L from fun h => hqn1 ((hX0 qn1 h).1)) (fun hxn1 lqn1 F1 tqn1 h0qn1 => ?_)
  refine hv2 (hW.new (ln2 := lnn1) hqn1 (hg1 qn1 (List.mem_append_right _ List.mem_cons_self)) hcn1 hxn1 hin1 hrn1 (fun _ => ⟨(show (-2147483648 : Int) ≤ 0 by decide), (show (0 : Int) ≤ 2147483647 by decide)⟩) (Or.inl rfl) (fun q => by cases q) rfl rfl) (XT.new hqn1 hcn1 hxn1) (fun W1 xl1 => ?_)
  refine hv3 (hX0.trans xl1) (nw0.new xl1 hcn1) (xl1.ty t_a0) (fun X1 nw1 ty1 => ?_)
  refine c_putrF (x := (some qn1)) (k := 0) C ck_8 dX7_init_11 w2_33 (by decide) rfl rfl rfl ty1 rfl rfl (by decide) rfl (by rfl) (by rfl) (fun rv1 pq1 => ⟨216, (zp2 (Nat.le_refl _)), ?_⟩)
  refine hv2 (W1.putr pq1 ty1 (fun qr => by rw [ty1.2] at qr; cases qr) rfl (by decide)) (F1.putr X1 pq1 ty1 rfl) (fun W2 F2 => ?_)
  refine c_aload_n (j := 0) (x := a0) C dX7_init_14 rfl ?_
  refine c_iconst C dX7_init_15 ?_
  refine c_put (z := 0) (k := 1) C ck_8 dX7_init_16 w2_34 (by decide) rfl ty1 rfl rfl (by decide) rfl (by rfl) (by rfl) (fun iv1 pq2 => ?_)
  refine hv2 (W2.puti pq2 ty1 ⟨by decide, by decide⟩ rfl) (F2.puti X1 pq2 ty1 rfl) (fun W3 F3 => ?_)
  refine c_aload_n (j := 0) (x := a0) C dX7_init_19 rfl ?_
  refine c_iconst C dX7_init_20 ?_
  refine c_put (z := 0) (k := 2) C ck_8 dX7_init_21 w2_36 (by decide) rfl ty1 rfl rfl (by decide) rfl (by rfl) (by rfl) (fun iv2 pq3 => ?_)
  refine hv7 (W3.puti pq3 ty1 ⟨by decide, by decide⟩ rfl) (F3.puti X1 pq3 ty1 rfl) (show rv1 a0 0 = (some qn1) from by rw [pq1]; exact upr_s) (show ∀ k, ([] : List Nat).contains k = false → rv1 qn1 k = none from fun k hk => (Eq.trans (show rv1 qn1 k = rvn1 qn1 k from (by rw [pq1]; exact congrFun (upr_a (ne_ty tqn1 ty1 (by decide))) _)) (show rvn1 qn1 k = none from (by rw [hrn1]; exact up0_s)))) (show iv2 a0 1 = iv1 a0 1 from by rw [pq3]; exact up2_j (by decide)) (show iv1 a0 1 = 0 from by rw [pq2]; exact up2_s) (show ∀ k, ([0] : List Nat).contains k = false → rv1 a0 k = rv a0 k from fun k hk => (Eq.trans (show rv1 a0 k = rvn1 a0 k from (by rw [pq1]; exact upr_j (fun e => by subst e; exact absurd hk (by decide)))) (show rvn1 a0 k = rv a0 k from (by rw [hrn1]; exact congrFun (up0_a (ne_in t_a0.1 hqn1)) _)))) (fun W4 F4 rp1 rn1 ie1 ie2 rn2 => ?_)
  have ri1 : (-2147483648) ≤ iv2 a0 1 ∧ iv2 a0 1 ≤ 2147483647 := W4.int ty1 1
  exact c_vret C dX7_init_24 rfl (by decide) (rom0 hph (Nat.le_refl 0) (by decide)) ⟨rfl, X1, F4, W4, ⟨qn1, rn2, rp1, tqn1, (by omega), (fun k => rn1 k rfl), h0qn1, (by omega)⟩, nw1.sub (by decide)⟩
end
