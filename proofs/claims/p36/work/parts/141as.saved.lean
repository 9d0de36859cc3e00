set_option maxHeartbeats 4000000 in
set_option maxRecDepth 100000 in
theorem G_saved {l : Launch} {G : GT} {mi : Nat} {sk : Nat → Nat} {L : List Nat} {cl ln : Nat → Nat} {iv : Nat → Nat → Int} {rv : Nat → Nat → Option Nat}  {a0 : Nat} {i : Int} {j : Int} (hW : WT (g0 G) sk L cl ln iv rv) (hS : SKL sk L cl) (t_a0 : ty L cl a0 1) (h_i : -2147483648 ≤ i ∧ i ≤ 2147483647) (h_j : -2147483648 ≤ j ∧ j ≤ 2147483647) (hmr : MRK sk cl iv rv) : Mc l G mi (Phi (g0 G) sk) PHM yX11_saved cX11_saved 10 (some .int) 8 [.ref a0, .int (iI i), .int (iI j)] L cl ln iv rv 0 (fun v L2 cl2 ln2 iv2 rv2 => ∃ f : Int, v = some (.int (iI f)) ∧ L = L2 ∧ cl = cl2 ∧ ln = ln2 ∧ rv = rv2 ∧ fT [1, 14, 15, 50, 51, 52, 53, 54, 55] L cl iv rv iv2 rv2 ∧ WT (g0 G) sk L2 cl2 ln2 iv2 rv2 ∧ (-2147483648 ≤ f ∧ f ≤ 2147483647) ∧ (True) ∧ iv2 a0 11 = iv a0 11 ∧ iv2 a0 12 = iv a0 12 ∧ iv2 a0 13 = iv a0 13 ∧ iv2 a0 14 = iv a0 14 ∧ iv2 a0 15 = iv a0 15 ∧ iv2 a0 16 = iv a0 16 ∧ (SVX sk ln iv rv i j f)) := by
  refine Mc.mk (by decide) (Nat.le_of_ble_eq_true rfl) ?_
  intro p e s m args below meth c A C hM
  have hph := Phi.le hW hS
  have tsk2 : ty L cl (sk 2) 2 := ⟨(hS 2 rfl).1, by rw [(hS 2 rfl).2]; rfl⟩
  have tsk3 : ty L cl (sk 3) 3 := ⟨(hS 3 rfl).1, by rw [(hS 3 rfl).2]; rfl⟩
  have tsk4 : ty L cl (sk 4) 4 := ⟨(hS 4 rfl).1, by rw [(hS 4 rfl).2]; rfl⟩
  have tsk5 : ty L cl (sk 5) 5 := ⟨(hS 5 rfl).1, by rw [(hS 5 rfl).2]; rfl⟩
  have tsk13 : ty L cl (sk 13) 13 := ⟨(hS 13 rfl).1, by rw [(hS 13 rfl).2]; rfl⟩
  have tsk14 : ty L cl (sk 14) 14 := ⟨(hS 14 rfl).1, by rw [(hS 14 rfl).2]; rfl⟩
  have tsk15 : ty L cl (sk 15) 15 := ⟨(hS 15 rfl).1, by rw [(hS 15 rfl).2]; rfl⟩
  have tsk16 : ty L cl (sk 16) 16 := ⟨(hS 16 rfl).1, by rw [(hS 16 rfl).2]; rfl⟩
  have tsk17 : ty L cl (sk 17) 17 := ⟨(hS 17 rfl).1, by rw [(hS 17 rfl).2]; rfl⟩
  have tsk22 : ty L cl (sk 22) 22 := ⟨(hS 22 rfl).1, by rw [(hS 22 rfl).2]; rfl⟩
  have tsk23 : ty L cl (sk 23) 23 := ⟨(hS 23 rfl).1, by rw [(hS 23 rfl).2]; rfl⟩
  have hX0 : XT L cl ln L cl ln := XT.refl
  have hF0 : fT [1, 14, 15, 50, 51, 52, 53, 54, 55] L cl iv rv iv rv := fT.refl
  refine c_aload_n (j := 0) (x := a0) C dX11_saved_0 rfl ?_
  obtain ⟨rb1, rq1, trb1⟩ := hW.ref t_a0 4 rfl rfl rfl
  have erb1 := hW.sk trb1 (by decide) rfl
  subst erb1
  refine c_getr (k := 4) C ck_12 dX11_saved_1 w2_48 (by decide) t_a0 rfl rfl (by decide) rfl rq1 ?_
  refine c_st (st2 := [.ref (sk 13)]) rfl ?_
  refine c_iload_n (j := 1) C dX11_saved_4 rfl ?_
  refine d_callV (As := [.int (iI i)]) (rest := []) C hM (G_whole (a0 := (sk 13)) (i := i) hW hS tsk13 (by omega) hmr) dX11_saved_5 kV_X11_231 rfl tsk13 rfl rfl (by decide) ck_11 rfl (Nat.le_of_ble_eq_true rfl) ⟨(Nat.le_of_ble_eq_true rfl), (Nat.le_of_ble_eq_true rfl)⟩ hph hph (show 0 + 0 = 0 from rfl) (by decide) (fun rh1 Lh1 clh1 lnh1 ivh1 rvh1 h1 => ?_)
  obtain ⟨f1, rfl, rfl, rfl, rfl, rfl, rfl, rgf1, exf1⟩ := h1
  refine c_st (st2 := [(va_rf f1)]) rfl ?_
  have gf1 : WOX sk ln iv rv i f1 := exf1
  refine c_astorer_n (r := f1) (lv2 := [(3, (va_rf f1)), (0, .ref a0), (1, .int (iI i)), (2, .int (iI j))]) C dX11_saved_8 (by decide) rfl ?_
  refine c_aload_n (j := 1) (x := a0) C dX11_saved_9 rfl ?_
  refine c_getr (k := 4) C ck_12 dX11_saved_10 w2_48 (by decide) t_a0 rfl rfl (by decide) rfl rq1 ?_
  refine c_st (st2 := [.ref (sk 13)]) rfl ?_
  refine c_iload_n (j := 3) C dX11_saved_13 rfl ?_
  refine d_callV (As := [.int (iI j)]) (rest := []) C hM (G_whole (a0 := (sk 13)) (i := j) hW hS tsk13 (by omega) hmr) dX11_saved_14 kV_X11_231 rfl tsk13 rfl rfl (by decide) ck_11 rfl (Nat.le_of_ble_eq_true rfl) ⟨(Nat.le_of_ble_eq_true rfl), (Nat.le_of_ble_eq_true rfl)⟩ hph hph (show 0 + 0 = 0 from rfl) (by decide) (fun rh2 Lh2 clh2 lnh2 ivh2 rvh2 h2 => ?_)
  obtain ⟨f2, rfl, rfl, rfl, rfl, rfl, rfl, rgf2, exf2⟩ := h2
  refine c_st (st2 := [(va_rf f2)]) rfl ?_
  have gf2 : WOX sk ln iv rv j f2 := exf2
  refine c_astorer (r := f2) (lv2 := [(4, (va_rf f2)), (3, (va_rf f1)), (0, .ref a0), (1, .int (iI i)), (2, .int (iI j))]) C dX11_saved_17 (by decide) (by cases f1 <;> rfl) ?_
  refine c_aloadr_n (j := 1) (r := f1) C dX11_saved_19 rfl ?_
  refine c_ifnull (r := f1) (tgt := 28) C dX11_saved_20 (by decide) (fun oq1 => ?_) (fun ob1 oq1 => ?_)
  · subst oq1
    refine c_lv (lv2 := [(4, (va_rf f2)), (3, .null), (0, .ref a0), (1, .int (iI i)), (2, .int (iI j))]) [0, 1, 2, 3, 4] rfl ?_
    refine c_st (st2 := []) rfl ?_
    refine c_aload_n (j := 2) (x := a0) C dX11_saved_28 rfl ?_
    refine c_iconst C dX11_saved_29 ?_
    refine d_callV (As := [.int (iI 3)]) (rest := []) C hM (C_refuse (a0 := a0) (x := 3) hW hS t_a0 ⟨by decide, by decide⟩ ) dX11_saved_30 kV_X11_102 rfl t_a0 rfl rfl (by decide) ck_12 rfl (Nat.le_of_ble_eq_true rfl) ⟨(Nat.le_of_ble_eq_true rfl), (Nat.le_of_ble_eq_true rfl)⟩ hph hph (show 0 + 0 = 0 from rfl) (by decide) (fun rh3 Lh3 clh3 lnh3 ivh3 rvh3 h3 => ?_)
    obtain ⟨f3, rfl, rfl, rfl, rfl, rfl, fl3, W3, rgf3, exf3, kp11f3, kp12f3, kp13f3, kp14f3, kp15f3, kp16f3⟩ := h3
    have ri1 : 1 ≤ iv a0 11 ∧ iv a0 11 ≤ 100 := hW.int t_a0 11
    have ri2 : 1 ≤ iv a0 12 ∧ iv a0 12 ≤ 50 := hW.int t_a0 12
    have ri3 : (-2147483648) ≤ iv a0 13 ∧ iv a0 13 ≤ 2147483647 := hW.int t_a0 13
    have ri4 : (-2147483648) ≤ iv a0 14 ∧ iv a0 14 ≤ 2147483647 := hW.int t_a0 14
    have ri5 : (-2147483648) ≤ iv a0 15 ∧ iv a0 15 ≤ 2147483647 := hW.int t_a0 15
    have ri6 : (-2147483648) ≤ iv a0 16 ∧ iv a0 16 ≤ 2147483647 := hW.int t_a0 16
    have F1 := hF0.call hX0 fl3 rfl
    have mr1 := MRK.call hmr hW hS XT.refl fl3 rfl rfl
    refine c_st (st2 := [.int (iI f3)]) rfl ?_
    have gk11f3 : ivh3 a0 11 = iv a0 11 := kp11f3
    have gk12f3 : ivh3 a0 12 = iv a0 12 := kp12f3
    have gk13f3 : ivh3 a0 13 = iv a0 13 := kp13f3
    have gk14f3 : ivh3 a0 14 = iv a0 14 := kp14f3
    have gk15f3 : ivh3 a0 15 = iv a0 15 := kp15f3
    have gk16f3 : ivh3 a0 16 = iv a0 16 := kp16f3
    have gf3 : f3 = -1 := exf3
    have ri7 : 1 ≤ ivh3 a0 11 ∧ ivh3 a0 11 ≤ 100 := W3.int t_a0 11
    have ri8 : 1 ≤ ivh3 a0 12 ∧ ivh3 a0 12 ≤ 50 := W3.int t_a0 12
    have ri9 : (-2147483648) ≤ ivh3 a0 13 ∧ ivh3 a0 13 ≤ 2147483647 := W3.int t_a0 13
    have ri10 : (-2147483648) ≤ ivh3 a0 14 ∧ ivh3 a0 14 ≤ 2147483647 := W3.int t_a0 14
    have ri11 : (-2147483648) ≤ ivh3 a0 15 ∧ ivh3 a0 15 ≤ 2147483647 := W3.int t_a0 15
    have ri12 : (-2147483648) ≤ ivh3 a0 16 ∧ ivh3 a0 16 ≤ 2147483647 := W3.int t_a0 16
    exact c_iret C dX11_saved_33 rfl (by decide) (rom0 hph hph (by decide)) ⟨f3, rfl, rfl, rfl, rfl, rfl, F1, W3, ⟨by omega, by omega⟩, trivial, (by omega), (by omega), (by omega), (by omega), (by omega), (by omega), (SVX.n1 (Or.inl gf1) (by omega))⟩
  · subst oq1
    have tob1 := rgf1 ob1 rfl
    have wkob1 := gf1
    refine c_lv (lv2 := [(4, (va_rf f2)), (3, .ref ob1), (0, .ref a0), (1, .int (iI i)), (2, .int (iI j))]) [0, 1, 2, 3, 4] rfl ?_
    refine c_st (st2 := []) rfl ?_
    refine c_aloadr (j := 0) (r := f2) C dX11_saved_23 rfl ?_
    refine c_ifnonnull (r := f2) (tgt := 34) C dX11_saved_25 (by decide) (fun ob2 oq2 => ?_) (fun oq2 => ?_)
    · subst oq2
      have tob2 := rgf2 ob2 rfl
      have wkob2 := gf2
      refine c_lv (lv2 := [(4, .ref ob2), (3, .ref ob1), (0, .ref a0), (1, .int (iI i)), (2, .int (iI j))]) [0, 1, 2, 3, 4] rfl ?_
      refine c_st (st2 := []) rfl ?_
      refine c_iconst C dX11_saved_34 ?_
      refine c_istore (lv2 := [(5, .int (iI 0)), (4, .ref ob2), (3, .ref ob1), (0, .ref a0), (1, .int (iI i)), (2, .int (iI j))]) C dX11_saved_35 (by decide) rfl ?_
      refine c_iconst C dX11_saved_37 ?_
      refine c_istore (lv2 := [(6, .int (iI 0)), (5, .int (iI 0)), (4, .ref ob2), (3, .ref ob1), (0, .ref a0), (1, .int (iI i)), (2, .int (iI j))]) C dX11_saved_38 (by decide) rfl ?_
      refine c_iconst C dX11_saved_40 ?_
      refine c_istore (lv2 := [(7, .int (iI 0)), (6, .int (iI 0)), (5, .int (iI 0)), (4, .ref ob2), (3, .ref ob1), (0, .ref a0), (1, .int (iI i)), (2, .int (iI j))]) C dX11_saved_41 (by decide) rfl ?_
      have Lp1 : ∀ (nn : Nat) (s1 wy sd : Int) (ivb1 : Nat → Nat → Int) , 3 - sd < (nn : Int) → WT (g0 G) sk L cl ln ivb1 rv → fT [1, 14, 15, 50, 51, 52, 53, 54, 55] L cl iv rv ivb1 rv → (-1000000 ≤ s1 ∧ s1 ≤ 1000000) → (0 ≤ wy ∧ wy ≤ 9) → (0 ≤ sd ∧ sd ≤ 2) → (wy ≠ 0 ∨ (-220000 * sd ≤ s1 ∧ s1 ≤ 220000 * sd)) → (PVA sk ln iv rv i j sd s1 wy) → (ivb1 a0 11 = iv a0 11) → (ivb1 a0 12 = iv a0 12) → (ivb1 a0 13 = iv a0 13) → (ivb1 a0 14 = iv a0 14) → (ivb1 a0 15 = iv a0 15) → (ivb1 a0 16 = iv a0 16) → cw p l e 8 ((PHM) + 0 - ((Phi (g0 G) sk) ln rv)) s m args below meth c G A 10 (MQ below (Qu G A (Qp G (Phi (g0 G) sk) ((Phi (g0 G) sk) ln rv) 0 (fun v L2 cl2 ln2 iv2 rv2 => ∃ f : Int, v = some (.int (iI f)) ∧ L = L2 ∧ cl = cl2 ∧ ln = ln2 ∧ rv = rv2 ∧ fT [1, 14, 15, 50, 51, 52, 53, 54, 55] L cl iv rv iv2 rv2 ∧ WT (g0 G) sk L2 cl2 ln2 iv2 rv2 ∧ (-2147483648 ≤ f ∧ f ≤ 2147483647) ∧ (True) ∧ iv2 a0 11 = iv a0 11 ∧ iv2 a0 12 = iv a0 12 ∧ iv2 a0 13 = iv a0 13 ∧ iv2 a0 14 = iv a0 14 ∧ iv2 a0 15 = iv a0 15 ∧ iv2 a0 16 = iv a0 16 ∧ (SVX sk ln iv rv i j f)))) args s (((PHM) + 0 - ((Phi (g0 G) sk) ln rv)) / 16) ((PHM) + 0 - ((Phi (g0 G) sk) ln rv)) A) (Phi (g0 G) sk) ((Phi (g0 G) sk) ln rv) L cl ln ivb1 rv 0 43 [(5, .int (iI s1)), (6, .int (iI wy)), (7, .int (iI sd)), (4, .ref ob2), (3, .ref ob1), (0, .ref a0), (1, .int (iI i)), (2, .int (iI j))] [] := by
        intro nn
        induction nn with
        | zero =>
          intro  s1 wy sd ivb1 hm Wb1 Fb1  hs1 hwy hsd hs4 hV1 hkp11 hkp12 hkp13 hkp14 hkp15 hkp16
          exact absurd hm (by omega)
        | succ nn ih1 =>
          intro  s1 wy sd ivb1 hm Wb1 Fb1  hs1 hwy hsd hs4 hV1 hkp11 hkp12 hkp13 hkp14 hkp15 hkp16
          have mrb1 := MRK.call hmr hW hS XT.refl Fb1 rfl rfl
          refine c_iload (j := 1) C dX11_saved_43 rfl ?_
          refine c_if_ne (tgt := 186) C ⟨by omega, by omega⟩ dX11_saved_45 (by decide) (fun c1 => ?_) (fun c1 => ?_)
          · refine c_iload (j := 1) C dX11_saved_186 rfl ?_
            refine c_if_eq (tgt := 207) C ⟨by omega, by omega⟩ dX11_saved_188 (by decide) (fun c2 => ?_) (fun c2 => ?_)
            · refine c_aload_n (j := 5) (x := a0) C dX11_saved_207 rfl ?_
              refine c_iload (j := 0) C dX11_saved_208 rfl ?_
              refine d_callV (As := [.int (iI s1)]) (rest := []) C hM (C_done (a0 := a0) (x := s1) Wb1 hS t_a0 (by omega) ) dX11_saved_210 kV_X11_109 rfl t_a0 rfl rfl (by decide) ck_12 rfl (Nat.le_of_ble_eq_true rfl) ⟨(Nat.le_of_ble_eq_true rfl), (Nat.le_of_ble_eq_true rfl)⟩ hph hph (show 0 + 0 = 0 from rfl) (by decide) (fun rh4 Lh4 clh4 lnh4 ivh4 rvh4 h4 => ?_)
              obtain ⟨f4, rfl, rfl, rfl, rfl, rfl, fl4, W4, rgf4, exf4, kp11f4, kp12f4, kp13f4, kp14f4, kp15f4, kp16f4⟩ := h4
              have ri13 : 1 ≤ ivb1 a0 11 ∧ ivb1 a0 11 ≤ 100 := Wb1.int t_a0 11
              have ri14 : 1 ≤ ivb1 a0 12 ∧ ivb1 a0 12 ≤ 50 := Wb1.int t_a0 12
              have ri15 : (-2147483648) ≤ ivb1 a0 13 ∧ ivb1 a0 13 ≤ 2147483647 := Wb1.int t_a0 13
              have ri16 : (-2147483648) ≤ ivb1 a0 14 ∧ ivb1 a0 14 ≤ 2147483647 := Wb1.int t_a0 14
              have ri17 : (-2147483648) ≤ ivb1 a0 15 ∧ ivb1 a0 15 ≤ 2147483647 := Wb1.int t_a0 15
              have ri18 : (-2147483648) ≤ ivb1 a0 16 ∧ ivb1 a0 16 ≤ 2147483647 := Wb1.int t_a0 16
              have F2 := Fb1.call hX0 fl4 rfl
              have mr2 := MRK.call mrb1 Wb1 hS XT.refl fl4 rfl rfl
              refine c_st (st2 := [.int (iI f4)]) rfl ?_
              have gk11f4 : ivh4 a0 11 = ivb1 a0 11 := kp11f4
              have gk12f4 : ivh4 a0 12 = ivb1 a0 12 := kp12f4
              have gk13f4 : ivh4 a0 13 = ivb1 a0 13 := kp13f4
              have gk14f4 : ivh4 a0 14 = ivb1 a0 14 := kp14f4
              have gk15f4 : ivh4 a0 15 = ivb1 a0 15 := kp15f4
              have gk16f4 : ivh4 a0 16 = ivb1 a0 16 := kp16f4
              have gf4 : f4 = s1 := exf4
              have ri19 : 1 ≤ ivh4 a0 11 ∧ ivh4 a0 11 ≤ 100 := W4.int t_a0 11
              have ri20 : 1 ≤ ivh4 a0 12 ∧ ivh4 a0 12 ≤ 50 := W4.int t_a0 12
              have ri21 : (-2147483648) ≤ ivh4 a0 13 ∧ ivh4 a0 13 ≤ 2147483647 := W4.int t_a0 13
              have ri22 : (-2147483648) ≤ ivh4 a0 14 ∧ ivh4 a0 14 ≤ 2147483647 := W4.int t_a0 14
              have ri23 : (-2147483648) ≤ ivh4 a0 15 ∧ ivh4 a0 15 ≤ 2147483647 := W4.int t_a0 15
              have ri24 : (-2147483648) ≤ ivh4 a0 16 ∧ ivh4 a0 16 ≤ 2147483647 := W4.int t_a0 16
              exact c_iret C dX11_saved_213 rfl (by decide) (rom0 hph hph (by decide)) ⟨f4, rfl, rfl, rfl, rfl, rfl, F2, W4, ⟨by omega, by omega⟩, trivial, (by omega), (by omega), (by omega), (by omega), (by omega), (by omega), (SVX.ok wkob1 wkob2 hV1 (by omega) (by omega) (by omega))⟩
            · refine c_aload_n (j := 5) (x := a0) C dX11_saved_191 rfl ?_
              refine c_iload (j := 1) C dX11_saved_192 rfl ?_
              refine c_aload_n (j := 5) (x := a0) C dX11_saved_194 rfl ?_
              obtain ⟨rb2, rq2, trb2⟩ := Wb1.ref t_a0 6 rfl rfl rfl
              have erb2 := Wb1.sk trb2 (by decide) rfl
              subst erb2
              refine c_getr (k := 6) C ck_12 dX11_saved_195 w2_50 (by decide) t_a0 rfl rfl (by decide) rfl rq2 ?_
              refine c_st (st2 := [.ref (sk 15), .int (iI wy), .ref a0]) rfl ?_
              refine d_callV (As := []) (rest := [.int (iI wy), .ref a0]) C hM (C_placeOfUnknown (a0 := (sk 15)) Wb1 hS tsk15  ) dX11_saved_198 kV_X11_263 rfl tsk15 rfl rfl (by decide) ck_7 rfl (Nat.le_of_ble_eq_true rfl) ⟨(Nat.le_of_ble_eq_true rfl), (Nat.le_of_ble_eq_true rfl)⟩ hph hph (show 0 + 0 = 0 from rfl) (by decide) (fun rh5 Lh5 clh5 lnh5 ivh5 rvh5 h5 => ?_)
              obtain ⟨f5, rfl, rfl, rfl, rfl, rfl, rfl, rgf5, exf5⟩ := h5
              refine c_st (st2 := [.int (iI f5), .int (iI wy), .ref a0]) rfl ?_
              refine d_callV (As := [.int (iI wy), .int (iI f5)]) (rest := []) C hM (C_refuseAt (a0 := a0) (x := wy) (y := f5) Wb1 hS t_a0 (by omega) (by omega) ) dX11_saved_201 kV_X11_266 rfl t_a0 rfl rfl (by decide) ck_12 rfl (Nat.le_of_ble_eq_true rfl) ⟨(Nat.le_of_ble_eq_true rfl), (Nat.le_of_ble_eq_true rfl)⟩ hph hph (show 0 + 0 = 0 from rfl) (by decide) (fun rh6 Lh6 clh6 lnh6 ivh6 rvh6 h6 => ?_)
              obtain ⟨f6, rfl, rfl, rfl, rfl, rfl, fl6, W6, rgf6, exf6, kp11f6, kp12f6, kp13f6, kp14f6, kp15f6, kp16f6⟩ := h6
              have ri25 : 1 ≤ ivb1 a0 11 ∧ ivb1 a0 11 ≤ 100 := Wb1.int t_a0 11
              have ri26 : 1 ≤ ivb1 a0 12 ∧ ivb1 a0 12 ≤ 50 := Wb1.int t_a0 12
              have ri27 : (-2147483648) ≤ ivb1 a0 13 ∧ ivb1 a0 13 ≤ 2147483647 := Wb1.int t_a0 13
              have ri28 : (-2147483648) ≤ ivb1 a0 14 ∧ ivb1 a0 14 ≤ 2147483647 := Wb1.int t_a0 14
              have ri29 : (-2147483648) ≤ ivb1 a0 15 ∧ ivb1 a0 15 ≤ 2147483647 := Wb1.int t_a0 15
              have ri30 : (-2147483648) ≤ ivb1 a0 16 ∧ ivb1 a0 16 ≤ 2147483647 := Wb1.int t_a0 16
              have F3 := Fb1.call hX0 fl6 rfl
              have mr3 := MRK.call mrb1 Wb1 hS XT.refl fl6 rfl rfl
              refine c_st (st2 := [.int (iI f6)]) rfl ?_
              have gk11f6 : ivh6 a0 11 = ivb1 a0 11 := kp11f6
              have gk12f6 : ivh6 a0 12 = ivb1 a0 12 := kp12f6
              have gk13f6 : ivh6 a0 13 = ivb1 a0 13 := kp13f6
              have gk14f6 : ivh6 a0 14 = ivb1 a0 14 := kp14f6
              have gk15f6 : ivh6 a0 15 = ivb1 a0 15 := kp15f6
              have gk16f6 : ivh6 a0 16 = ivb1 a0 16 := kp16f6
              have gf6 : f6 = -1 := exf6
              refine c_pop C dX11_saved_204 rfl ?_
              refine c_iconst C dX11_saved_205 ?_
              have ri31 : 1 ≤ ivh6 a0 11 ∧ ivh6 a0 11 ≤ 100 := W6.int t_a0 11
              have ri32 : 1 ≤ ivh6 a0 12 ∧ ivh6 a0 12 ≤ 50 := W6.int t_a0 12
              have ri33 : (-2147483648) ≤ ivh6 a0 13 ∧ ivh6 a0 13 ≤ 2147483647 := W6.int t_a0 13
              have ri34 : (-2147483648) ≤ ivh6 a0 14 ∧ ivh6 a0 14 ≤ 2147483647 := W6.int t_a0 14
              have ri35 : (-2147483648) ≤ ivh6 a0 15 ∧ ivh6 a0 15 ≤ 2147483647 := W6.int t_a0 15
              have ri36 : (-2147483648) ≤ ivh6 a0 16 ∧ ivh6 a0 16 ≤ 2147483647 := W6.int t_a0 16
              exact c_iret C dX11_saved_206 rfl (by decide) (rom0 hph hph (by decide)) ⟨0, rfl, rfl, rfl, rfl, rfl, F3, W6, ⟨by decide, by decide⟩, trivial, (by omega), (by omega), (by omega), (by omega), (by omega), (by omega), (SVX.bad wkob1 wkob2 hV1 (by omega) (by omega))⟩
          · refine c_iload (j := 2) C dX11_saved_48 rfl ?_
            refine c_iconst C dX11_saved_50 ?_
            refine c_icmp_ge (tgt := 186) C ⟨by omega, by omega⟩ ⟨by decide, by decide⟩ dX11_saved_51 (by decide) (fun c3 => ?_) (fun c3 => ?_)
            · refine c_iload (j := 1) C dX11_saved_186 rfl ?_
              refine c_if_eq (tgt := 207) C ⟨by omega, by omega⟩ dX11_saved_188 (by decide) (fun c4 => ?_) (fun c4 => ?_)
              · refine c_aload_n (j := 5) (x := a0) C dX11_saved_207 rfl ?_
                refine c_iload (j := 0) C dX11_saved_208 rfl ?_
                refine d_callV (As := [.int (iI s1)]) (rest := []) C hM (C_done (a0 := a0) (x := s1) Wb1 hS t_a0 (by omega) ) dX11_saved_210 kV_X11_109 rfl t_a0 rfl rfl (by decide) ck_12 rfl (Nat.le_of_ble_eq_true rfl) ⟨(Nat.le_of_ble_eq_true rfl), (Nat.le_of_ble_eq_true rfl)⟩ hph hph (show 0 + 0 = 0 from rfl) (by decide) (fun rh7 Lh7 clh7 lnh7 ivh7 rvh7 h7 => ?_)
                obtain ⟨f7, rfl, rfl, rfl, rfl, rfl, fl7, W7, rgf7, exf7, kp11f7, kp12f7, kp13f7, kp14f7, kp15f7, kp16f7⟩ := h7
                have ri37 : 1 ≤ ivb1 a0 11 ∧ ivb1 a0 11 ≤ 100 := Wb1.int t_a0 11
                have ri38 : 1 ≤ ivb1 a0 12 ∧ ivb1 a0 12 ≤ 50 := Wb1.int t_a0 12
                have ri39 : (-2147483648) ≤ ivb1 a0 13 ∧ ivb1 a0 13 ≤ 2147483647 := Wb1.int t_a0 13
                have ri40 : (-2147483648) ≤ ivb1 a0 14 ∧ ivb1 a0 14 ≤ 2147483647 := Wb1.int t_a0 14
                have ri41 : (-2147483648) ≤ ivb1 a0 15 ∧ ivb1 a0 15 ≤ 2147483647 := Wb1.int t_a0 15
                have ri42 : (-2147483648) ≤ ivb1 a0 16 ∧ ivb1 a0 16 ≤ 2147483647 := Wb1.int t_a0 16
                have F4 := Fb1.call hX0 fl7 rfl
                have mr4 := MRK.call mrb1 Wb1 hS XT.refl fl7 rfl rfl
                refine c_st (st2 := [.int (iI f7)]) rfl ?_
                have gk11f7 : ivh7 a0 11 = ivb1 a0 11 := kp11f7
                have gk12f7 : ivh7 a0 12 = ivb1 a0 12 := kp12f7
                have gk13f7 : ivh7 a0 13 = ivb1 a0 13 := kp13f7
                have gk14f7 : ivh7 a0 14 = ivb1 a0 14 := kp14f7
                have gk15f7 : ivh7 a0 15 = ivb1 a0 15 := kp15f7
                have gk16f7 : ivh7 a0 16 = ivb1 a0 16 := kp16f7
                have gf7 : f7 = s1 := exf7
                have ri43 : 1 ≤ ivh7 a0 11 ∧ ivh7 a0 11 ≤ 100 := W7.int t_a0 11
                have ri44 : 1 ≤ ivh7 a0 12 ∧ ivh7 a0 12 ≤ 50 := W7.int t_a0 12
                have ri45 : (-2147483648) ≤ ivh7 a0 13 ∧ ivh7 a0 13 ≤ 2147483647 := W7.int t_a0 13
                have ri46 : (-2147483648) ≤ ivh7 a0 14 ∧ ivh7 a0 14 ≤ 2147483647 := W7.int t_a0 14
                have ri47 : (-2147483648) ≤ ivh7 a0 15 ∧ ivh7 a0 15 ≤ 2147483647 := W7.int t_a0 15
                have ri48 : (-2147483648) ≤ ivh7 a0 16 ∧ ivh7 a0 16 ≤ 2147483647 := W7.int t_a0 16
                exact c_iret C dX11_saved_213 rfl (by decide) (rom0 hph hph (by decide)) ⟨f7, rfl, rfl, rfl, rfl, rfl, F4, W7, ⟨by omega, by omega⟩, trivial, (by omega), (by omega), (by omega), (by omega), (by omega), (by omega), (SVX.ok wkob1 wkob2 hV1 (by omega) (by omega) (by omega))⟩
              · refine c_aload_n (j := 5) (x := a0) C dX11_saved_191 rfl ?_
                refine c_iload (j := 1) C dX11_saved_192 rfl ?_
                refine c_aload_n (j := 5) (x := a0) C dX11_saved_194 rfl ?_
                obtain ⟨rb3, rq3, trb3⟩ := Wb1.ref t_a0 6 rfl rfl rfl
                have erb3 := Wb1.sk trb3 (by decide) rfl
                subst erb3
                refine c_getr (k := 6) C ck_12 dX11_saved_195 w2_50 (by decide) t_a0 rfl rfl (by decide) rfl rq3 ?_
                refine c_st (st2 := [.ref (sk 15), .int (iI wy), .ref a0]) rfl ?_
                refine d_callV (As := []) (rest := [.int (iI wy), .ref a0]) C hM (C_placeOfUnknown (a0 := (sk 15)) Wb1 hS tsk15  ) dX11_saved_198 kV_X11_263 rfl tsk15 rfl rfl (by decide) ck_7 rfl (Nat.le_of_ble_eq_true rfl) ⟨(Nat.le_of_ble_eq_true rfl), (Nat.le_of_ble_eq_true rfl)⟩ hph hph (show 0 + 0 = 0 from rfl) (by decide) (fun rh8 Lh8 clh8 lnh8 ivh8 rvh8 h8 => ?_)
                obtain ⟨f8, rfl, rfl, rfl, rfl, rfl, rfl, rgf8, exf8⟩ := h8
                refine c_st (st2 := [.int (iI f8), .int (iI wy), .ref a0]) rfl ?_
                refine d_callV (As := [.int (iI wy), .int (iI f8)]) (rest := []) C hM (C_refuseAt (a0 := a0) (x := wy) (y := f8) Wb1 hS t_a0 (by omega) (by omega) ) dX11_saved_201 kV_X11_266 rfl t_a0 rfl rfl (by decide) ck_12 rfl (Nat.le_of_ble_eq_true rfl) ⟨(Nat.le_of_ble_eq_true rfl), (Nat.le_of_ble_eq_true rfl)⟩ hph hph (show 0 + 0 = 0 from rfl) (by decide) (fun rh9 Lh9 clh9 lnh9 ivh9 rvh9 h9 => ?_)
                obtain ⟨f9, rfl, rfl, rfl, rfl, rfl, fl9, W9, rgf9, exf9, kp11f9, kp12f9, kp13f9, kp14f9, kp15f9, kp16f9⟩ := h9
                have ri49 : 1 ≤ ivb1 a0 11 ∧ ivb1 a0 11 ≤ 100 := Wb1.int t_a0 11
                have ri50 : 1 ≤ ivb1 a0 12 ∧ ivb1 a0 12 ≤ 50 := Wb1.int t_a0 12
                have ri51 : (-2147483648) ≤ ivb1 a0 13 ∧ ivb1 a0 13 ≤ 2147483647 := Wb1.int t_a0 13
                have ri52 : (-2147483648) ≤ ivb1 a0 14 ∧ ivb1 a0 14 ≤ 2147483647 := Wb1.int t_a0 14
                have ri53 : (-2147483648) ≤ ivb1 a0 15 ∧ ivb1 a0 15 ≤ 2147483647 := Wb1.int t_a0 15
                have ri54 : (-2147483648) ≤ ivb1 a0 16 ∧ ivb1 a0 16 ≤ 2147483647 := Wb1.int t_a0 16
                have F5 := Fb1.call hX0 fl9 rfl
                have mr5 := MRK.call mrb1 Wb1 hS XT.refl fl9 rfl rfl
                refine c_st (st2 := [.int (iI f9)]) rfl ?_
                have gk11f9 : ivh9 a0 11 = ivb1 a0 11 := kp11f9
                have gk12f9 : ivh9 a0 12 = ivb1 a0 12 := kp12f9
                have gk13f9 : ivh9 a0 13 = ivb1 a0 13 := kp13f9
                have gk14f9 : ivh9 a0 14 = ivb1 a0 14 := kp14f9
                have gk15f9 : ivh9 a0 15 = ivb1 a0 15 := kp15f9
                have gk16f9 : ivh9 a0 16 = ivb1 a0 16 := kp16f9
                have gf9 : f9 = -1 := exf9
                refine c_pop C dX11_saved_204 rfl ?_
                refine c_iconst C dX11_saved_205 ?_
                have ri55 : 1 ≤ ivh9 a0 11 ∧ ivh9 a0 11 ≤ 100 := W9.int t_a0 11
                have ri56 : 1 ≤ ivh9 a0 12 ∧ ivh9 a0 12 ≤ 50 := W9.int t_a0 12
                have ri57 : (-2147483648) ≤ ivh9 a0 13 ∧ ivh9 a0 13 ≤ 2147483647 := W9.int t_a0 13
                have ri58 : (-2147483648) ≤ ivh9 a0 14 ∧ ivh9 a0 14 ≤ 2147483647 := W9.int t_a0 14
                have ri59 : (-2147483648) ≤ ivh9 a0 15 ∧ ivh9 a0 15 ≤ 2147483647 := W9.int t_a0 15
                have ri60 : (-2147483648) ≤ ivh9 a0 16 ∧ ivh9 a0 16 ≤ 2147483647 := W9.int t_a0 16
                exact c_iret C dX11_saved_206 rfl (by decide) (rom0 hph hph (by decide)) ⟨0, rfl, rfl, rfl, rfl, rfl, F5, W9, ⟨by decide, by decide⟩, trivial, (by omega), (by omega), (by omega), (by omega), (by omega), (by omega), (SVX.bad wkob1 wkob2 hV1 (by omega) (by omega))⟩
            · refine c_aload_n (j := 5) (x := a0) C dX11_saved_54 rfl ?_
              obtain ⟨rb4, rq4, trb4⟩ := Wb1.ref t_a0 5 rfl rfl rfl
              have erb4 := Wb1.sk trb4 (by decide) rfl
              subst erb4
              refine c_getr (k := 5) C ck_12 dX11_saved_55 w2_49 (by decide) t_a0 rfl rfl (by decide) rfl rq4 ?_
              refine c_st (st2 := [.ref (sk 14)]) rfl ?_
              refine d_callV (As := []) (rest := []) C hM (C_restart (a0 := (sk 14)) Wb1 hS tsk14  ) dX11_saved_58 kV_X11_235 rfl tsk14 rfl rfl (by decide) ck_9 rfl (Nat.le_of_ble_eq_true rfl) ⟨(Nat.le_of_ble_eq_true rfl), (Nat.le_of_ble_eq_true rfl)⟩ hph hph (show 0 + 0 = 0 from rfl) (by decide) (fun rh10 Lh10 clh10 lnh10 ivh10 rvh10 h10 => ?_)
              obtain ⟨rfl, rfl, rfl, rfl, rfl, fl10, W10, exf10⟩ := h10
              have F6 := Fb1.call hX0 fl10 rfl
              have mr6 := MRK.call mrb1 Wb1 hS XT.refl fl10 rfl rfl
              refine c_st (st2 := []) rfl ?_
              have ri61 : (-2147483648) ≤ ivh10 (sk 14) 0 ∧ ivh10 (sk 14) 0 ≤ 2147483647 := W10.int tsk14 0
              have ri62 : 0 ≤ ivh10 (sk 14) 1 ∧ ivh10 (sk 14) 1 ≤ 1 := W10.int tsk14 1
              have gf10 : ivh10 (sk 14) 0 = 0 ∧ ivh10 (sk 14) 1 = 0 := exf10
              refine c_aload_n (j := 5) (x := a0) C dX11_saved_61 rfl ?_
              refine c_getr (k := 5) C ck_12 dX11_saved_62 w2_49 (by decide) t_a0 rfl rfl (by decide) rfl rq4 ?_
              refine c_st (st2 := [.ref (sk 14)]) rfl ?_
              refine c_aload_n (j := 5) (x := a0) C dX11_saved_65 rfl ?_
              obtain ⟨rb5, rq5, trb5⟩ := W10.ref t_a0 1 rfl rfl rfl
              have erb5 := W10.sk trb5 (by decide) rfl
              subst erb5
              refine c_getr (k := 1) C ck_12 dX11_saved_66 w2_45 (by decide) t_a0 rfl rfl (by decide) rfl rq5 ?_
              refine c_st (st2 := [.ref (sk 3), .ref (sk 14)]) rfl ?_
              refine c_aload_n (j := 5) (x := a0) C dX11_saved_69 rfl ?_
              obtain ⟨rb6, rq6, trb6⟩ := W10.ref t_a0 6 rfl rfl rfl
              have erb6 := W10.sk trb6 (by decide) rfl
              subst erb6
              refine c_getr (k := 6) C ck_12 dX11_saved_70 w2_50 (by decide) t_a0 rfl rfl (by decide) rfl rq6 ?_
              refine c_st (st2 := [.ref (sk 15), .ref (sk 3), .ref (sk 14)]) rfl ?_
              have ri63 : 0 ≤ ivh10 (sk 15) 7 ∧ ivh10 (sk 15) 7 ≤ 100000 := W10.int tsk15 7
              have ie57 : ivh10 (sk 15) 7 = ivb1 (sk 15) 7 := fl10.i tsk15 rfl 7
              refine d_callV (As := [.ref (sk 3), .ref (sk 15)]) (rest := []) C hM (G_step (a0 := (sk 14)) (a1 := (sk 3)) (a2 := (sk 15)) W10 hS tsk14 tsk3 tsk15  (by show 0 ≤ ivh10 (sk 14) 0 ∧ ivh10 (sk 14) 0 ≤ 501 ∧ (ivh10 (sk 14) 1 = 0 ∨ ivh10 (sk 14) 0 ≤ 500); omega)) dX11_saved_73 kV_X11_238 rfl tsk14 rfl rfl (by decide) ck_9 rfl (Nat.le_of_ble_eq_true rfl) ⟨(Nat.le_of_ble_eq_true rfl), (Nat.le_of_ble_eq_true rfl)⟩ hph hph (show 0 + 0 = 0 from rfl) (by decide) (fun rh11 Lh11 clh11 lnh11 ivh11 rvh11 h11 => ?_)
              obtain ⟨f11, rfl, rfl, rfl, rfl, rfl, fl11, W11, rgf11, exf11⟩ := h11
              have F7 := F6.call hX0 fl11 rfl
              have mr7 := MRK.call mr6 W10 hS XT.refl fl11 rfl rfl
              refine c_st (st2 := [.int (iI f11)]) rfl ?_
              have ri64 : (-2147483648) ≤ ivh11 (sk 14) 0 ∧ ivh11 (sk 14) 0 ≤ 2147483647 := W11.int tsk14 0
              have ri65 : 0 ≤ ivh11 (sk 14) 1 ∧ ivh11 (sk 14) 1 ≤ 1 := W11.int tsk14 1
              have gf11 : ((0 ≤ f11 ∧ f11 ≤ 3) ∧ 0 ≤ ivh11 (sk 14) 0 ∧ ivh11 (sk 14) 0 ≤ 501 ∧ (ivh11 (sk 14) 1 = 0 ∨ ivh11 (sk 14) 0 ≤ 500) ∧ (f11 = 0 ∨ 2 * ivh10 (sk 14) 0 + ivh10 (sk 14) 1 < 2 * ivh11 (sk 14) 0 + ivh11 (sk 14) 1)) ∧ STP ivh10 rv ivh11 (sk 3) (sk 14) (sk 15) f11 := exf11
              have ri66 : 0 ≤ ivh11 (sk 15) 7 ∧ ivh11 (sk 15) 7 ≤ 100000 := W11.int tsk15 7
              refine c_istore (lv2 := [(8, .int (iI f11)), (5, .int (iI s1)), (6, .int (iI wy)), (7, .int (iI sd)), (4, .ref ob2), (3, .ref ob1), (0, .ref a0), (1, .int (iI i)), (2, .int (iI j))]) C dX11_saved_76 (by decide) rfl ?_
              refine c_iconst C dX11_saved_78 ?_
              refine c_istore (lv2 := [(9, .int (iI 0)), (8, .int (iI f11)), (5, .int (iI s1)), (6, .int (iI wy)), (7, .int (iI sd)), (4, .ref ob2), (3, .ref ob1), (0, .ref a0), (1, .int (iI i)), (2, .int (iI j))]) C dX11_saved_79 (by decide) rfl ?_
              have Lp2 : ∀ (nn : Nat) (s2 wy2 cm k : Int) (ivb2 : Nat → Nat → Int) , 1101 - k < (nn : Int) → WT (g0 G) sk L cl ln ivb2 rv → fT [1, 14, 15, 50, 51, 52, 53, 54, 55] L cl iv rv ivb2 rv → (-1000000 ≤ s2 ∧ s2 ≤ 1000000) → (0 ≤ wy2 ∧ wy2 ≤ 9) → (0 ≤ cm ∧ cm ≤ 3) → (0 ≤ k ∧ k ≤ 1100) → (0 ≤ ivb2 (sk 14) 0 ∧ ivb2 (sk 14) 0 ≤ 501 ∧ (ivb2 (sk 14) 1 = 0 ∨ ivb2 (sk 14) 0 ≤ 500)) → (wy2 ≠ 0 ∨ (-200 * (1100 * sd + k) ≤ s2 ∧ s2 ≤ 200 * (1100 * sd + k))) → (cm = 0 ∨ wy2 ≠ 0 ∨ k < 2 * ivb2 (sk 14) 0 + ivb2 (sk 14) 1) → (PVD sk ln iv rv ivb2 i j sd s2 wy2 cm) → (ivb2 a0 11 = iv a0 11) → (ivb2 a0 12 = iv a0 12) → (ivb2 a0 13 = iv a0 13) → (ivb2 a0 14 = iv a0 14) → (ivb2 a0 15 = iv a0 15) → (ivb2 a0 16 = iv a0 16) → cw p l e 8 ((PHM) + 0 - ((Phi (g0 G) sk) ln rv)) s m args below meth c G A 10 (MQ below (Qu G A (Qp G (Phi (g0 G) sk) ((Phi (g0 G) sk) ln rv) 0 (fun v L2 cl2 ln2 iv2 rv2 => ∃ f : Int, v = some (.int (iI f)) ∧ L = L2 ∧ cl = cl2 ∧ ln = ln2 ∧ rv = rv2 ∧ fT [1, 14, 15, 50, 51, 52, 53, 54, 55] L cl iv rv iv2 rv2 ∧ WT (g0 G) sk L2 cl2 ln2 iv2 rv2 ∧ (-2147483648 ≤ f ∧ f ≤ 2147483647) ∧ (True) ∧ iv2 a0 11 = iv a0 11 ∧ iv2 a0 12 = iv a0 12 ∧ iv2 a0 13 = iv a0 13 ∧ iv2 a0 14 = iv a0 14 ∧ iv2 a0 15 = iv a0 15 ∧ iv2 a0 16 = iv a0 16 ∧ (SVX sk ln iv rv i j f)))) args s (((PHM) + 0 - ((Phi (g0 G) sk) ln rv)) / 16) ((PHM) + 0 - ((Phi (g0 G) sk) ln rv)) A) (Phi (g0 G) sk) ((Phi (g0 G) sk) ln rv) L cl ln ivb2 rv 0 81 [(5, .int (iI s2)), (6, .int (iI wy2)), (8, .int (iI cm)), (9, .int (iI k)), (7, .int (iI sd)), (4, .ref ob2), (3, .ref ob1), (0, .ref a0), (1, .int (iI i)), (2, .int (iI j))] [] := by
                intro nn
                induction nn with
                | zero =>
                  intro  s2 wy2 cm k ivb2 hm Wb2 Fb2  hs2 hwy2 hcm hk hsr hs3 hkn hV2 hkp11 hkp12 hkp13 hkp14 hkp15 hkp16
                  exact absurd hm (by omega)
                | succ nn ih2 =>
                  intro  s2 wy2 cm k ivb2 hm Wb2 Fb2  hs2 hwy2 hcm hk hsr hs3 hkn hV2 hkp11 hkp12 hkp13 hkp14 hkp15 hkp16
                  have mrb2 := MRK.call hmr hW hS XT.refl Fb2 rfl rfl
                  refine c_iload (j := 1) C dX11_saved_81 rfl ?_
                  refine c_if_ne (tgt := 180) C ⟨by omega, by omega⟩ dX11_saved_83 (by decide) (fun c5 => ?_) (fun c5 => ?_)
                  · refine c_iinc (z := sd) (j := 4) (lv2 := [(7, .int (iI (sd + 1))), (5, .int (iI s2)), (6, .int (iI wy2)), (8, .int (iI cm)), (9, .int (iI k)), (4, .ref ob2), (3, .ref ob1), (0, .ref a0), (1, .int (iI i)), (2, .int (iI j))]) C dX11_saved_180 rfl (by decide) rfl ?_
                    refine c_goto (tgt := 43) C dX11_saved_183 (by decide) ?_
                    have ri67 : 1 ≤ ivb2 a0 11 ∧ ivb2 a0 11 ≤ 100 := Wb2.int t_a0 11
                    have ri68 : 1 ≤ ivb2 a0 12 ∧ ivb2 a0 12 ≤ 50 := Wb2.int t_a0 12
                    have ri69 : (-2147483648) ≤ ivb2 a0 13 ∧ ivb2 a0 13 ≤ 2147483647 := Wb2.int t_a0 13
                    have ri70 : (-2147483648) ≤ ivb2 a0 14 ∧ ivb2 a0 14 ≤ 2147483647 := Wb2.int t_a0 14
                    have ri71 : (-2147483648) ≤ ivb2 a0 15 ∧ ivb2 a0 15 ≤ 2147483647 := Wb2.int t_a0 15
                    have ri72 : (-2147483648) ≤ ivb2 a0 16 ∧ ivb2 a0 16 ≤ 2147483647 := Wb2.int t_a0 16
                    have ri73 : (-2147483648) ≤ ivb2 (sk 14) 0 ∧ ivb2 (sk 14) 0 ≤ 2147483647 := Wb2.int tsk14 0
                    have ri74 : 0 ≤ ivb2 (sk 14) 1 ∧ ivb2 (sk 14) 1 ≤ 1 := Wb2.int tsk14 1
                    have ri75 : 0 ≤ ivb2 (sk 15) 7 ∧ ivb2 (sk 15) 7 ≤ 100000 := Wb2.int tsk15 7
                    refine c_lv (lv2 := [(5, .int (iI s2)), (6, .int (iI wy2)), (7, .int (iI (sd + 1))), (4, .ref ob2), (3, .ref ob1), (0, .ref a0), (1, .int (iI i)), (2, .int (iI j))]) [1, 2, 0, 5, 6, 7, 8, 9] rfl ?_
                    exact ih1  s2 wy2 (sd + 1) _ (by omega) Wb2 Fb2  (by omega) (by omega) (by omega) (by omega) (PVD.fin hV2 (by omega) (by omega)) (by show ivb2 a0 11 = iv a0 11; omega) (by show ivb2 a0 12 = iv a0 12; omega) (by show ivb2 a0 13 = iv a0 13; omega) (by show ivb2 a0 14 = iv a0 14; omega) (by show ivb2 a0 15 = iv a0 15; omega) (by show ivb2 a0 16 = iv a0 16; omega)
                  · refine c_iload (j := 2) C dX11_saved_86 rfl ?_
                    refine c_if_eq (tgt := 180) C ⟨by omega, by omega⟩ dX11_saved_88 (by decide) (fun c6 => ?_) (fun c6 => ?_)
                    · refine c_iinc (z := sd) (j := 4) (lv2 := [(7, .int (iI (sd + 1))), (5, .int (iI s2)), (6, .int (iI wy2)), (8, .int (iI cm)), (9, .int (iI k)), (4, .ref ob2), (3, .ref ob1), (0, .ref a0), (1, .int (iI i)), (2, .int (iI j))]) C dX11_saved_180 rfl (by decide) rfl ?_
                      refine c_goto (tgt := 43) C dX11_saved_183 (by decide) ?_
                      have ri76 : 1 ≤ ivb2 a0 11 ∧ ivb2 a0 11 ≤ 100 := Wb2.int t_a0 11
                      have ri77 : 1 ≤ ivb2 a0 12 ∧ ivb2 a0 12 ≤ 50 := Wb2.int t_a0 12
                      have ri78 : (-2147483648) ≤ ivb2 a0 13 ∧ ivb2 a0 13 ≤ 2147483647 := Wb2.int t_a0 13
                      have ri79 : (-2147483648) ≤ ivb2 a0 14 ∧ ivb2 a0 14 ≤ 2147483647 := Wb2.int t_a0 14
                      have ri80 : (-2147483648) ≤ ivb2 a0 15 ∧ ivb2 a0 15 ≤ 2147483647 := Wb2.int t_a0 15
                      have ri81 : (-2147483648) ≤ ivb2 a0 16 ∧ ivb2 a0 16 ≤ 2147483647 := Wb2.int t_a0 16
                      have ri82 : (-2147483648) ≤ ivb2 (sk 14) 0 ∧ ivb2 (sk 14) 0 ≤ 2147483647 := Wb2.int tsk14 0
                      have ri83 : 0 ≤ ivb2 (sk 14) 1 ∧ ivb2 (sk 14) 1 ≤ 1 := Wb2.int tsk14 1
                      have ri84 : 0 ≤ ivb2 (sk 15) 7 ∧ ivb2 (sk 15) 7 ≤ 100000 := Wb2.int tsk15 7
                      refine c_lv (lv2 := [(5, .int (iI s2)), (6, .int (iI wy2)), (7, .int (iI (sd + 1))), (4, .ref ob2), (3, .ref ob1), (0, .ref a0), (1, .int (iI i)), (2, .int (iI j))]) [1, 2, 0, 5, 6, 7, 8, 9] rfl ?_
                      exact ih1  s2 wy2 (sd + 1) _ (by omega) Wb2 Fb2  (by omega) (by omega) (by omega) (by omega) (PVD.fin hV2 (by omega) (by omega)) (by show ivb2 a0 11 = iv a0 11; omega) (by show ivb2 a0 12 = iv a0 12; omega) (by show ivb2 a0 13 = iv a0 13; omega) (by show ivb2 a0 14 = iv a0 14; omega) (by show ivb2 a0 15 = iv a0 15; omega) (by show ivb2 a0 16 = iv a0 16; omega)
                    · refine c_iload (j := 3) C dX11_saved_91 rfl ?_
                      refine c_ldc (z := 1000000) C dX11_saved_93 w4_30 rfl ?_
                      refine c_icmp_ge (tgt := 180) C ⟨by omega, by omega⟩ ⟨by decide, by decide⟩ dX11_saved_95 (by decide) (fun c7 => ?_) (fun c7 => ?_)
                      · refine c_iinc (z := sd) (j := 4) (lv2 := [(7, .int (iI (sd + 1))), (5, .int (iI s2)), (6, .int (iI wy2)), (8, .int (iI cm)), (9, .int (iI k)), (4, .ref ob2), (3, .ref ob1), (0, .ref a0), (1, .int (iI i)), (2, .int (iI j))]) C dX11_saved_180 rfl (by decide) rfl ?_
                        refine c_goto (tgt := 43) C dX11_saved_183 (by decide) ?_
                        have ri85 : 1 ≤ ivb2 a0 11 ∧ ivb2 a0 11 ≤ 100 := Wb2.int t_a0 11
                        have ri86 : 1 ≤ ivb2 a0 12 ∧ ivb2 a0 12 ≤ 50 := Wb2.int t_a0 12
                        have ri87 : (-2147483648) ≤ ivb2 a0 13 ∧ ivb2 a0 13 ≤ 2147483647 := Wb2.int t_a0 13
                        have ri88 : (-2147483648) ≤ ivb2 a0 14 ∧ ivb2 a0 14 ≤ 2147483647 := Wb2.int t_a0 14
                        have ri89 : (-2147483648) ≤ ivb2 a0 15 ∧ ivb2 a0 15 ≤ 2147483647 := Wb2.int t_a0 15
                        have ri90 : (-2147483648) ≤ ivb2 a0 16 ∧ ivb2 a0 16 ≤ 2147483647 := Wb2.int t_a0 16
                        have ri91 : (-2147483648) ≤ ivb2 (sk 14) 0 ∧ ivb2 (sk 14) 0 ≤ 2147483647 := Wb2.int tsk14 0
                        have ri92 : 0 ≤ ivb2 (sk 14) 1 ∧ ivb2 (sk 14) 1 ≤ 1 := Wb2.int tsk14 1
                        have ri93 : 0 ≤ ivb2 (sk 15) 7 ∧ ivb2 (sk 15) 7 ≤ 100000 := Wb2.int tsk15 7
                        refine c_lv (lv2 := [(5, .int (iI s2)), (6, .int (iI wy2)), (7, .int (iI (sd + 1))), (4, .ref ob2), (3, .ref ob1), (0, .ref a0), (1, .int (iI i)), (2, .int (iI j))]) [1, 2, 0, 5, 6, 7, 8, 9] rfl ?_
                        exact ih1  s2 wy2 (sd + 1) _ (by omega) Wb2 Fb2  (by omega) (by omega) (by omega) (by omega) (PVD.fin hV2 (by omega) (by omega)) (by show ivb2 a0 11 = iv a0 11; omega) (by show ivb2 a0 12 = iv a0 12; omega) (by show ivb2 a0 13 = iv a0 13; omega) (by show ivb2 a0 14 = iv a0 14; omega) (by show ivb2 a0 15 = iv a0 15; omega) (by show ivb2 a0 16 = iv a0 16; omega)
                      · refine c_iload (j := 2) C dX11_saved_98 rfl ?_
                        refine c_iconst C dX11_saved_100 ?_
                        refine c_icmp_ne (tgt := 152) C ⟨by omega, by omega⟩ ⟨by decide, by decide⟩ dX11_saved_101 (by decide) (fun c8 => ?_) (fun c8 => ?_)
                        · refine c_iload (j := 1) C dX11_saved_152 rfl ?_
                          refine c_if_ne (tgt := 174) C ⟨by omega, by omega⟩ dX11_saved_154 (by decide) (fun c9 => ?_) (fun c9 => ?_)
                          · refine c_iinc (z := k) (j := 3) (lv2 := [(9, .int (iI (k + 1))), (5, .int (iI s2)), (6, .int (iI wy2)), (8, .int (iI cm)), (7, .int (iI sd)), (4, .ref ob2), (3, .ref ob1), (0, .ref a0), (1, .int (iI i)), (2, .int (iI j))]) C dX11_saved_174 rfl (by decide) rfl ?_
                            refine c_goto (tgt := 81) C dX11_saved_177 (by decide) ?_
                            have ri94 : (-2147483648) ≤ ivb2 (sk 14) 0 ∧ ivb2 (sk 14) 0 ≤ 2147483647 := Wb2.int tsk14 0
                            have ri95 : 0 ≤ ivb2 (sk 14) 1 ∧ ivb2 (sk 14) 1 ≤ 1 := Wb2.int tsk14 1
                            have ri96 : 1 ≤ ivb2 a0 11 ∧ ivb2 a0 11 ≤ 100 := Wb2.int t_a0 11
                            have ri97 : 1 ≤ ivb2 a0 12 ∧ ivb2 a0 12 ≤ 50 := Wb2.int t_a0 12
                            have ri98 : (-2147483648) ≤ ivb2 a0 13 ∧ ivb2 a0 13 ≤ 2147483647 := Wb2.int t_a0 13
                            have ri99 : (-2147483648) ≤ ivb2 a0 14 ∧ ivb2 a0 14 ≤ 2147483647 := Wb2.int t_a0 14
                            have ri100 : (-2147483648) ≤ ivb2 a0 15 ∧ ivb2 a0 15 ≤ 2147483647 := Wb2.int t_a0 15
                            have ri101 : (-2147483648) ≤ ivb2 a0 16 ∧ ivb2 a0 16 ≤ 2147483647 := Wb2.int t_a0 16
                            have ri102 : 0 ≤ ivb2 (sk 15) 7 ∧ ivb2 (sk 15) 7 ≤ 100000 := Wb2.int tsk15 7
                            refine c_lv (lv2 := [(5, .int (iI s2)), (6, .int (iI wy2)), (8, .int (iI cm)), (9, .int (iI (k + 1))), (7, .int (iI sd)), (4, .ref ob2), (3, .ref ob1), (0, .ref a0), (1, .int (iI i)), (2, .int (iI j))]) [1, 2, 3, 0, 4, 5, 6, 7, 8, 9] rfl ?_
                            exact ih2  s2 wy2 cm (k + 1) _ (by omega) Wb2 Fb2  (by omega) (by omega) (by omega) (by omega) (by show 0 ≤ ivb2 (sk 14) 0 ∧ ivb2 (sk 14) 0 ≤ 501 ∧ (ivb2 (sk 14) 1 = 0 ∨ ivb2 (sk 14) 0 ≤ 500); omega) (by omega) (by show cm = 0 ∨ wy2 ≠ 0 ∨ (k + 1) < 2 * ivb2 (sk 14) 0 + ivb2 (sk 14) 1; omega) (by exfalso; omega) (by show ivb2 a0 11 = iv a0 11; omega) (by show ivb2 a0 12 = iv a0 12; omega) (by show ivb2 a0 13 = iv a0 13; omega) (by show ivb2 a0 14 = iv a0 14; omega) (by show ivb2 a0 15 = iv a0 15; omega) (by show ivb2 a0 16 = iv a0 16; omega)
                          · refine c_aload_n (j := 7) (x := a0) C dX11_saved_157 rfl ?_
                            refine c_getr (k := 5) C ck_12 dX11_saved_158 w2_49 (by decide) t_a0 rfl rfl (by decide) rfl rq4 ?_
                            refine c_st (st2 := [.ref (sk 14)]) rfl ?_
                            refine c_aload_n (j := 7) (x := a0) C dX11_saved_161 rfl ?_
                            refine c_getr (k := 1) C ck_12 dX11_saved_162 w2_45 (by decide) t_a0 rfl rfl (by decide) rfl rq5 ?_
                            refine c_st (st2 := [.ref (sk 3), .ref (sk 14)]) rfl ?_
                            refine c_aload_n (j := 7) (x := a0) C dX11_saved_165 rfl ?_
                            refine c_getr (k := 6) C ck_12 dX11_saved_166 w2_50 (by decide) t_a0 rfl rfl (by decide) rfl rq6 ?_
                            refine c_st (st2 := [.ref (sk 15), .ref (sk 3), .ref (sk 14)]) rfl ?_
                            have ri103 : (-2147483648) ≤ ivb2 (sk 14) 0 ∧ ivb2 (sk 14) 0 ≤ 2147483647 := Wb2.int tsk14 0
                            have ri104 : 0 ≤ ivb2 (sk 14) 1 ∧ ivb2 (sk 14) 1 ≤ 1 := Wb2.int tsk14 1
                            have ri105 : 0 ≤ ivb2 (sk 15) 7 ∧ ivb2 (sk 15) 7 ≤ 100000 := Wb2.int tsk15 7
                            refine d_callV (As := [.ref (sk 3), .ref (sk 15)]) (rest := []) C hM (G_step (a0 := (sk 14)) (a1 := (sk 3)) (a2 := (sk 15)) Wb2 hS tsk14 tsk3 tsk15  (by show 0 ≤ ivb2 (sk 14) 0 ∧ ivb2 (sk 14) 0 ≤ 501 ∧ (ivb2 (sk 14) 1 = 0 ∨ ivb2 (sk 14) 0 ≤ 500); omega)) dX11_saved_169 kV_X11_238 rfl tsk14 rfl rfl (by decide) ck_9 rfl (Nat.le_of_ble_eq_true rfl) ⟨(Nat.le_of_ble_eq_true rfl), (Nat.le_of_ble_eq_true rfl)⟩ hph hph (show 0 + 0 = 0 from rfl) (by decide) (fun rh12 Lh12 clh12 lnh12 ivh12 rvh12 h12 => ?_)
                            obtain ⟨f12, rfl, rfl, rfl, rfl, rfl, fl12, W12, rgf12, exf12⟩ := h12
                            have F8 := Fb2.call hX0 fl12 rfl
                            have mr8 := MRK.call mrb2 Wb2 hS XT.refl fl12 rfl rfl
                            refine c_st (st2 := [.int (iI f12)]) rfl ?_
                            have ri106 : (-2147483648) ≤ ivh12 (sk 14) 0 ∧ ivh12 (sk 14) 0 ≤ 2147483647 := W12.int tsk14 0
                            have ri107 : 0 ≤ ivh12 (sk 14) 1 ∧ ivh12 (sk 14) 1 ≤ 1 := W12.int tsk14 1
                            have gf12 : ((0 ≤ f12 ∧ f12 ≤ 3) ∧ 0 ≤ ivh12 (sk 14) 0 ∧ ivh12 (sk 14) 0 ≤ 501 ∧ (ivh12 (sk 14) 1 = 0 ∨ ivh12 (sk 14) 0 ≤ 500) ∧ (f12 = 0 ∨ 2 * ivb2 (sk 14) 0 + ivb2 (sk 14) 1 < 2 * ivh12 (sk 14) 0 + ivh12 (sk 14) 1)) ∧ STP ivb2 rv ivh12 (sk 3) (sk 14) (sk 15) f12 := exf12
                            have ri108 : 0 ≤ ivh12 (sk 15) 7 ∧ ivh12 (sk 15) 7 ≤ 100000 := W12.int tsk15 7
                            refine c_istore (lv2 := [(8, .int (iI f12)), (5, .int (iI s2)), (6, .int (iI wy2)), (9, .int (iI k)), (7, .int (iI sd)), (4, .ref ob2), (3, .ref ob1), (0, .ref a0), (1, .int (iI i)), (2, .int (iI j))]) C dX11_saved_172 (by decide) rfl ?_
                            refine c_iinc (z := k) (j := 3) (lv2 := [(9, .int (iI (k + 1))), (8, .int (iI f12)), (5, .int (iI s2)), (6, .int (iI wy2)), (7, .int (iI sd)), (4, .ref ob2), (3, .ref ob1), (0, .ref a0), (1, .int (iI i)), (2, .int (iI j))]) C dX11_saved_174 rfl (by decide) rfl ?_
                            refine c_goto (tgt := 81) C dX11_saved_177 (by decide) ?_
                            have ri109 : 1 ≤ ivh12 a0 11 ∧ ivh12 a0 11 ≤ 100 := W12.int t_a0 11
                            have ie104 : ivh12 a0 11 = ivb2 a0 11 := fl12.i t_a0 rfl 11
                            have ri110 : 1 ≤ ivh12 a0 12 ∧ ivh12 a0 12 ≤ 50 := W12.int t_a0 12
                            have ie106 : ivh12 a0 12 = ivb2 a0 12 := fl12.i t_a0 rfl 12
                            have ri111 : (-2147483648) ≤ ivh12 a0 13 ∧ ivh12 a0 13 ≤ 2147483647 := W12.int t_a0 13
                            have ie108 : ivh12 a0 13 = ivb2 a0 13 := fl12.i t_a0 rfl 13
                            have ri112 : (-2147483648) ≤ ivh12 a0 14 ∧ ivh12 a0 14 ≤ 2147483647 := W12.int t_a0 14
                            have ie110 : ivh12 a0 14 = ivb2 a0 14 := fl12.i t_a0 rfl 14
                            have ri113 : (-2147483648) ≤ ivh12 a0 15 ∧ ivh12 a0 15 ≤ 2147483647 := W12.int t_a0 15
                            have ie112 : ivh12 a0 15 = ivb2 a0 15 := fl12.i t_a0 rfl 15
                            have ri114 : (-2147483648) ≤ ivh12 a0 16 ∧ ivh12 a0 16 ≤ 2147483647 := W12.int t_a0 16
                            have ie114 : ivh12 a0 16 = ivb2 a0 16 := fl12.i t_a0 rfl 16
                            refine c_lv (lv2 := [(5, .int (iI s2)), (6, .int (iI wy2)), (8, .int (iI f12)), (9, .int (iI (k + 1))), (7, .int (iI sd)), (4, .ref ob2), (3, .ref ob1), (0, .ref a0), (1, .int (iI i)), (2, .int (iI j))]) [2, 3, 1, 0, 4, 5, 6, 7, 8, 9] rfl ?_
                            exact ih2  s2 wy2 f12 (k + 1) _ (by omega) W12 F8  (by omega) (by omega) (by omega) (by omega) (by show 0 ≤ ivh12 (sk 14) 0 ∧ ivh12 (sk 14) 0 ≤ 501 ∧ (ivh12 (sk 14) 1 = 0 ∨ ivh12 (sk 14) 0 ≤ 500); omega) (by omega) (by show f12 = 0 ∨ wy2 ≠ 0 ∨ (k + 1) < 2 * ivh12 (sk 14) 0 + ivh12 (sk 14) 1; omega) (PVD.go hV2 (by omega) (by omega) Wb2 Fb2 tsk3 rfl rfl gf12.2 (by omega)) (by show ivh12 a0 11 = iv a0 11; omega) (by show ivh12 a0 12 = iv a0 12; omega) (by show ivh12 a0 13 = iv a0 13; omega) (by show ivh12 a0 14 = iv a0 14; omega) (by show ivh12 a0 15 = iv a0 15; omega) (by show ivh12 a0 16 = iv a0 16; omega)
                        · refine c_aload_n (j := 7) (x := a0) C dX11_saved_104 rfl ?_
                          refine c_getr (k := 6) C ck_12 dX11_saved_105 w2_50 (by decide) t_a0 rfl rfl (by decide) rfl rq6 ?_
                          refine c_st (st2 := [.ref (sk 15)]) rfl ?_
                          refine c_iload (j := 4) C dX11_saved_108 rfl ?_
                          refine c_if_ne (tgt := 117) C ⟨by omega, by omega⟩ dX11_saved_110 (by decide) (fun c10 => ?_) (fun c10 => ?_)
                          · refine c_aload (j := 5) (x := ob2) C dX11_saved_117 rfl ?_
                            have ri115 : (-2147483648) ≤ ivb2 (sk 14) 0 ∧ ivb2 (sk 14) 0 ≤ 2147483647 := Wb2.int tsk14 0
                            have ri116 : 0 ≤ ivb2 (sk 14) 1 ∧ ivb2 (sk 14) 1 ≤ 1 := Wb2.int tsk14 1
                            have ri117 : 0 ≤ ivb2 (sk 15) 7 ∧ ivb2 (sk 15) 7 ≤ 100000 := Wb2.int tsk15 7
                            have ri118 : 0 ≤ ivb2 (sk 15) 4 ∧ ivb2 (sk 15) 4 ≤ 500 := Wb2.int tsk15 4
                            refine d_callV (As := [.ref ob2]) (rest := []) C hM (G_setBy (a0 := (sk 15)) (a1 := ob2) Wb2 hS tsk15 tob2  ) dX11_saved_119 kV_X11_253 rfl tsk15 rfl rfl (by decide) ck_7 rfl (Nat.le_of_ble_eq_true rfl) ⟨(Nat.le_of_ble_eq_true rfl), (Nat.le_of_ble_eq_true rfl)⟩ hph hph (show 0 + 0 = 0 from rfl) (by decide) (fun rh13 Lh13 clh13 lnh13 ivh13 rvh13 h13 => ?_)
                            obtain ⟨f13, rfl, rfl, rfl, rfl, rfl, fl13, W13, rgf13, exf13⟩ := h13
                            have F9 := Fb2.call hX0 fl13 rfl
                            have mr9 := MRK.call mrb2 Wb2 hS XT.refl fl13 rfl rfl
                            refine c_st (st2 := [.int (iI f13)]) rfl ?_
                            have ri119 : 0 ≤ ivh13 (sk 15) 4 ∧ ivh13 (sk 15) 4 ≤ 500 := W13.int tsk15 4
                            have ri120 : 0 ≤ ivh13 (sk 15) 7 ∧ ivh13 (sk 15) 7 ≤ 100000 := W13.int tsk15 7
                            have gf13 : ((f13 = 0 ∨ f13 = 6 ∨ f13 = 7) ∧ ivh13 (sk 15) 4 = ivb2 (sk 15) 4 ∧ (f13 = 0 → ivh13 (sk 15) 7 ≤ 200)) ∧ SBX sk ln ivb2 rv ivh13 (sk 15) ob2 f13 := exf13
                            have ri121 : (-2147483648) ≤ ivh13 (sk 14) 0 ∧ ivh13 (sk 14) 0 ≤ 2147483647 := W13.int tsk14 0
                            have ie122 : ivh13 (sk 14) 0 = ivb2 (sk 14) 0 := fl13.i tsk14 rfl 0
                            have ri122 : 0 ≤ ivh13 (sk 14) 1 ∧ ivh13 (sk 14) 1 ≤ 1 := W13.int tsk14 1
                            have ie123 : ivh13 (sk 14) 1 = ivb2 (sk 14) 1 := fl13.i tsk14 rfl 1
                            refine c_istore (lv2 := [(6, .int (iI f13)), (5, .int (iI s2)), (8, .int (iI cm)), (9, .int (iI k)), (7, .int (iI sd)), (4, .ref ob2), (3, .ref ob1), (0, .ref a0), (1, .int (iI i)), (2, .int (iI j))]) C dX11_saved_122 (by decide) rfl ?_
                            refine c_iload (j := 1) C dX11_saved_124 rfl ?_
                            refine c_iload (j := 4) C dX11_saved_126 rfl ?_
                            refine c_if_ne (tgt := 141) C ⟨by omega, by omega⟩ dX11_saved_128 (by decide) (fun c11 => ?_) (fun c11 => ?_)
                            · refine c_aload_n (j := 7) (x := a0) C dX11_saved_141 rfl ?_
                              refine c_getr (k := 6) C ck_12 dX11_saved_142 w2_50 (by decide) t_a0 rfl rfl (by decide) rfl rq6 ?_
                              refine c_st (st2 := [.ref (sk 15), .int (iI s2)]) rfl ?_
                              refine c_get (k := 7) C ck_7 dX11_saved_145 w1_149 (by decide) tsk15 rfl rfl (by decide) rfl ?_
                              refine c_ineg C dX11_saved_148 ?_
                              refine c_iadd C dX11_saved_149 ?_
                              refine c_istore (lv2 := [(5, .int (iI (s2 + (-(ivh13 (sk 15) 7))))), (6, .int (iI f13)), (8, .int (iI cm)), (9, .int (iI k)), (7, .int (iI sd)), (4, .ref ob2), (3, .ref ob1), (0, .ref a0), (1, .int (iI i)), (2, .int (iI j))]) C dX11_saved_150 (by decide) rfl ?_
                              have pv : PVD sk ln iv rv ivh13 i j sd (s2 + (-(ivh13 (sk 15) 7))) f13 1 := PVD.set (t := j) hV2 (by omega) (by omega) hW hS Wb2 Fb2 tsk15 wkob2 (by omega) gf13.2 ⟨by omega, by omega⟩ (by omega) (by omega)
                              refine c_iload (j := 1) C dX11_saved_152 rfl ?_
                              refine c_if_ne (tgt := 174) C ⟨by omega, by omega⟩ dX11_saved_154 (by decide) (fun c12 => ?_) (fun c12 => ?_)
                              · refine c_iinc (z := k) (j := 3) (lv2 := [(9, .int (iI (k + 1))), (5, .int (iI (s2 + (-(ivh13 (sk 15) 7))))), (6, .int (iI f13)), (8, .int (iI cm)), (7, .int (iI sd)), (4, .ref ob2), (3, .ref ob1), (0, .ref a0), (1, .int (iI i)), (2, .int (iI j))]) C dX11_saved_174 rfl (by decide) rfl ?_
                                refine c_goto (tgt := 81) C dX11_saved_177 (by decide) ?_
                                have ri123 : 1 ≤ ivh13 a0 11 ∧ ivh13 a0 11 ≤ 100 := W13.int t_a0 11
                                have ie124 : ivh13 a0 11 = ivb2 a0 11 := fl13.i t_a0 rfl 11
                                have ri124 : 1 ≤ ivh13 a0 12 ∧ ivh13 a0 12 ≤ 50 := W13.int t_a0 12
                                have ie126 : ivh13 a0 12 = ivb2 a0 12 := fl13.i t_a0 rfl 12
                                have ri125 : (-2147483648) ≤ ivh13 a0 13 ∧ ivh13 a0 13 ≤ 2147483647 := W13.int t_a0 13
                                have ie128 : ivh13 a0 13 = ivb2 a0 13 := fl13.i t_a0 rfl 13
                                have ri126 : (-2147483648) ≤ ivh13 a0 14 ∧ ivh13 a0 14 ≤ 2147483647 := W13.int t_a0 14
                                have ie130 : ivh13 a0 14 = ivb2 a0 14 := fl13.i t_a0 rfl 14
                                have ri127 : (-2147483648) ≤ ivh13 a0 15 ∧ ivh13 a0 15 ≤ 2147483647 := W13.int t_a0 15
                                have ie132 : ivh13 a0 15 = ivb2 a0 15 := fl13.i t_a0 rfl 15
                                have ri128 : (-2147483648) ≤ ivh13 a0 16 ∧ ivh13 a0 16 ≤ 2147483647 := W13.int t_a0 16
                                have ie134 : ivh13 a0 16 = ivb2 a0 16 := fl13.i t_a0 rfl 16
                                refine c_lv (lv2 := [(5, .int (iI (s2 + (-(ivh13 (sk 15) 7))))), (6, .int (iI f13)), (8, .int (iI cm)), (9, .int (iI (k + 1))), (7, .int (iI sd)), (4, .ref ob2), (3, .ref ob1), (0, .ref a0), (1, .int (iI i)), (2, .int (iI j))]) [1, 2, 3, 0, 4, 5, 6, 7, 8, 9] rfl ?_
                                exact ih2  (s2 + (-(ivh13 (sk 15) 7))) f13 cm (k + 1) _ (by omega) W13 F9  (by omega) (by omega) (by omega) (by omega) (by show 0 ≤ ivh13 (sk 14) 0 ∧ ivh13 (sk 14) 0 ≤ 501 ∧ (ivh13 (sk 14) 1 = 0 ∨ ivh13 (sk 14) 0 ≤ 500); omega) (by omega) (by show cm = 0 ∨ f13 ≠ 0 ∨ (k + 1) < 2 * ivh13 (sk 14) 0 + ivh13 (sk 14) 1; omega) (pv.cmm (by omega)) (by show ivh13 a0 11 = iv a0 11; omega) (by show ivh13 a0 12 = iv a0 12; omega) (by show ivh13 a0 13 = iv a0 13; omega) (by show ivh13 a0 14 = iv a0 14; omega) (by show ivh13 a0 15 = iv a0 15; omega) (by show ivh13 a0 16 = iv a0 16; omega)
                              · refine c_aload_n (j := 7) (x := a0) C dX11_saved_157 rfl ?_
                                refine c_getr (k := 5) C ck_12 dX11_saved_158 w2_49 (by decide) t_a0 rfl rfl (by decide) rfl rq4 ?_
                                refine c_st (st2 := [.ref (sk 14)]) rfl ?_
                                refine c_aload_n (j := 7) (x := a0) C dX11_saved_161 rfl ?_
                                refine c_getr (k := 1) C ck_12 dX11_saved_162 w2_45 (by decide) t_a0 rfl rfl (by decide) rfl rq5 ?_
                                refine c_st (st2 := [.ref (sk 3), .ref (sk 14)]) rfl ?_
                                refine c_aload_n (j := 7) (x := a0) C dX11_saved_165 rfl ?_
                                refine c_getr (k := 6) C ck_12 dX11_saved_166 w2_50 (by decide) t_a0 rfl rfl (by decide) rfl rq6 ?_
                                refine c_st (st2 := [.ref (sk 15), .ref (sk 3), .ref (sk 14)]) rfl ?_
                                refine d_callV (As := [.ref (sk 3), .ref (sk 15)]) (rest := []) C hM (G_step (a0 := (sk 14)) (a1 := (sk 3)) (a2 := (sk 15)) W13 hS tsk14 tsk3 tsk15  (by show 0 ≤ ivh13 (sk 14) 0 ∧ ivh13 (sk 14) 0 ≤ 501 ∧ (ivh13 (sk 14) 1 = 0 ∨ ivh13 (sk 14) 0 ≤ 500); omega)) dX11_saved_169 kV_X11_238 rfl tsk14 rfl rfl (by decide) ck_9 rfl (Nat.le_of_ble_eq_true rfl) ⟨(Nat.le_of_ble_eq_true rfl), (Nat.le_of_ble_eq_true rfl)⟩ hph hph (show 0 + 0 = 0 from rfl) (by decide) (fun rh14 Lh14 clh14 lnh14 ivh14 rvh14 h14 => ?_)
                                obtain ⟨f14, rfl, rfl, rfl, rfl, rfl, fl14, W14, rgf14, exf14⟩ := h14
                                have F10 := F9.call hX0 fl14 rfl
                                have mr10 := MRK.call mr9 W13 hS XT.refl fl14 rfl rfl
                                refine c_st (st2 := [.int (iI f14)]) rfl ?_
                                have ri129 : (-2147483648) ≤ ivh14 (sk 14) 0 ∧ ivh14 (sk 14) 0 ≤ 2147483647 := W14.int tsk14 0
                                have ri130 : 0 ≤ ivh14 (sk 14) 1 ∧ ivh14 (sk 14) 1 ≤ 1 := W14.int tsk14 1
                                have gf14 : ((0 ≤ f14 ∧ f14 ≤ 3) ∧ 0 ≤ ivh14 (sk 14) 0 ∧ ivh14 (sk 14) 0 ≤ 501 ∧ (ivh14 (sk 14) 1 = 0 ∨ ivh14 (sk 14) 0 ≤ 500) ∧ (f14 = 0 ∨ 2 * ivh13 (sk 14) 0 + ivh13 (sk 14) 1 < 2 * ivh14 (sk 14) 0 + ivh14 (sk 14) 1)) ∧ STP ivh13 rv ivh14 (sk 3) (sk 14) (sk 15) f14 := exf14
                                have ri131 : 0 ≤ ivh14 (sk 15) 7 ∧ ivh14 (sk 15) 7 ≤ 100000 := W14.int tsk15 7
                                refine c_istore (lv2 := [(8, .int (iI f14)), (5, .int (iI (s2 + (-(ivh13 (sk 15) 7))))), (6, .int (iI f13)), (9, .int (iI k)), (7, .int (iI sd)), (4, .ref ob2), (3, .ref ob1), (0, .ref a0), (1, .int (iI i)), (2, .int (iI j))]) C dX11_saved_172 (by decide) rfl ?_
                                refine c_iinc (z := k) (j := 3) (lv2 := [(9, .int (iI (k + 1))), (8, .int (iI f14)), (5, .int (iI (s2 + (-(ivh13 (sk 15) 7))))), (6, .int (iI f13)), (7, .int (iI sd)), (4, .ref ob2), (3, .ref ob1), (0, .ref a0), (1, .int (iI i)), (2, .int (iI j))]) C dX11_saved_174 rfl (by decide) rfl ?_
                                refine c_goto (tgt := 81) C dX11_saved_177 (by decide) ?_
                                have ri132 : 1 ≤ ivh14 a0 11 ∧ ivh14 a0 11 ≤ 100 := W14.int t_a0 11
                                have ie139 : ivh14 a0 11 = ivh13 a0 11 := fl14.i t_a0 rfl 11
                                have ie140 : ivh13 a0 11 = ivb2 a0 11 := fl13.i t_a0 rfl 11
                                have ri133 : 1 ≤ ivh14 a0 12 ∧ ivh14 a0 12 ≤ 50 := W14.int t_a0 12
                                have ie142 : ivh14 a0 12 = ivh13 a0 12 := fl14.i t_a0 rfl 12
                                have ie143 : ivh13 a0 12 = ivb2 a0 12 := fl13.i t_a0 rfl 12
                                have ri134 : (-2147483648) ≤ ivh14 a0 13 ∧ ivh14 a0 13 ≤ 2147483647 := W14.int t_a0 13
                                have ie145 : ivh14 a0 13 = ivh13 a0 13 := fl14.i t_a0 rfl 13
                                have ie146 : ivh13 a0 13 = ivb2 a0 13 := fl13.i t_a0 rfl 13
                                have ri135 : (-2147483648) ≤ ivh14 a0 14 ∧ ivh14 a0 14 ≤ 2147483647 := W14.int t_a0 14
                                have ie148 : ivh14 a0 14 = ivh13 a0 14 := fl14.i t_a0 rfl 14
                                have ie149 : ivh13 a0 14 = ivb2 a0 14 := fl13.i t_a0 rfl 14
                                have ri136 : (-2147483648) ≤ ivh14 a0 15 ∧ ivh14 a0 15 ≤ 2147483647 := W14.int t_a0 15
                                have ie151 : ivh14 a0 15 = ivh13 a0 15 := fl14.i t_a0 rfl 15
                                have ie152 : ivh13 a0 15 = ivb2 a0 15 := fl13.i t_a0 rfl 15
                                have ri137 : (-2147483648) ≤ ivh14 a0 16 ∧ ivh14 a0 16 ≤ 2147483647 := W14.int t_a0 16
                                have ie154 : ivh14 a0 16 = ivh13 a0 16 := fl14.i t_a0 rfl 16
                                have ie155 : ivh13 a0 16 = ivb2 a0 16 := fl13.i t_a0 rfl 16
                                refine c_lv (lv2 := [(5, .int (iI (s2 + (-(ivh13 (sk 15) 7))))), (6, .int (iI f13)), (8, .int (iI f14)), (9, .int (iI (k + 1))), (7, .int (iI sd)), (4, .ref ob2), (3, .ref ob1), (0, .ref a0), (1, .int (iI i)), (2, .int (iI j))]) [2, 3, 1, 0, 4, 5, 6, 7, 8, 9] rfl ?_
                                exact ih2  (s2 + (-(ivh13 (sk 15) 7))) f13 f14 (k + 1) _ (by omega) W14 F10  (by omega) (by omega) (by omega) (by omega) (by show 0 ≤ ivh14 (sk 14) 0 ∧ ivh14 (sk 14) 0 ≤ 501 ∧ (ivh14 (sk 14) 1 = 0 ∨ ivh14 (sk 14) 0 ≤ 500); omega) (by omega) (by show f14 = 0 ∨ f13 ≠ 0 ∨ (k + 1) < 2 * ivh14 (sk 14) 0 + ivh14 (sk 14) 1; omega) (PVD.go pv (by omega) (by omega) W13 F9 tsk3 rfl rfl gf14.2 (by omega)) (by show ivh14 a0 11 = iv a0 11; omega) (by show ivh14 a0 12 = iv a0 12; omega) (by show ivh14 a0 13 = iv a0 13; omega) (by show ivh14 a0 14 = iv a0 14; omega) (by show ivh14 a0 15 = iv a0 15; omega) (by show ivh14 a0 16 = iv a0 16; omega)
                            · refine c_aload_n (j := 7) (x := a0) C dX11_saved_131 rfl ?_
                              refine c_getr (k := 6) C ck_12 dX11_saved_132 w2_50 (by decide) t_a0 rfl rfl (by decide) rfl rq6 ?_
                              refine c_st (st2 := [.ref (sk 15), .int (iI s2)]) rfl ?_
                              refine c_get (k := 7) C ck_7 dX11_saved_135 w1_149 (by decide) tsk15 rfl rfl (by decide) rfl ?_
                              refine c_goto (tgt := 149) C dX11_saved_138 (by decide) ?_
                              refine c_iadd C dX11_saved_149 ?_
                              refine c_istore (lv2 := [(5, .int (iI (s2 + (ivh13 (sk 15) 7)))), (6, .int (iI f13)), (8, .int (iI cm)), (9, .int (iI k)), (7, .int (iI sd)), (4, .ref ob2), (3, .ref ob1), (0, .ref a0), (1, .int (iI i)), (2, .int (iI j))]) C dX11_saved_150 (by decide) rfl ?_
                              have pv : PVD sk ln iv rv ivh13 i j sd (s2 + (ivh13 (sk 15) 7)) f13 1 := PVD.set (t := j) hV2 (by omega) (by omega) hW hS Wb2 Fb2 tsk15 wkob2 (by omega) gf13.2 ⟨by omega, by omega⟩ (by omega) (by omega)
                              refine c_iload (j := 1) C dX11_saved_152 rfl ?_
                              refine c_if_ne (tgt := 174) C ⟨by omega, by omega⟩ dX11_saved_154 (by decide) (fun c13 => ?_) (fun c13 => ?_)
                              · refine c_iinc (z := k) (j := 3) (lv2 := [(9, .int (iI (k + 1))), (5, .int (iI (s2 + (ivh13 (sk 15) 7)))), (6, .int (iI f13)), (8, .int (iI cm)), (7, .int (iI sd)), (4, .ref ob2), (3, .ref ob1), (0, .ref a0), (1, .int (iI i)), (2, .int (iI j))]) C dX11_saved_174 rfl (by decide) rfl ?_
                                refine c_goto (tgt := 81) C dX11_saved_177 (by decide) ?_
                                have ri138 : 1 ≤ ivh13 a0 11 ∧ ivh13 a0 11 ≤ 100 := W13.int t_a0 11
                                have ie157 : ivh13 a0 11 = ivb2 a0 11 := fl13.i t_a0 rfl 11
                                have ri139 : 1 ≤ ivh13 a0 12 ∧ ivh13 a0 12 ≤ 50 := W13.int t_a0 12
                                have ie159 : ivh13 a0 12 = ivb2 a0 12 := fl13.i t_a0 rfl 12
                                have ri140 : (-2147483648) ≤ ivh13 a0 13 ∧ ivh13 a0 13 ≤ 2147483647 := W13.int t_a0 13
                                have ie161 : ivh13 a0 13 = ivb2 a0 13 := fl13.i t_a0 rfl 13
                                have ri141 : (-2147483648) ≤ ivh13 a0 14 ∧ ivh13 a0 14 ≤ 2147483647 := W13.int t_a0 14
                                have ie163 : ivh13 a0 14 = ivb2 a0 14 := fl13.i t_a0 rfl 14
                                have ri142 : (-2147483648) ≤ ivh13 a0 15 ∧ ivh13 a0 15 ≤ 2147483647 := W13.int t_a0 15
                                have ie165 : ivh13 a0 15 = ivb2 a0 15 := fl13.i t_a0 rfl 15
                                have ri143 : (-2147483648) ≤ ivh13 a0 16 ∧ ivh13 a0 16 ≤ 2147483647 := W13.int t_a0 16
                                have ie167 : ivh13 a0 16 = ivb2 a0 16 := fl13.i t_a0 rfl 16
                                refine c_lv (lv2 := [(5, .int (iI (s2 + (ivh13 (sk 15) 7)))), (6, .int (iI f13)), (8, .int (iI cm)), (9, .int (iI (k + 1))), (7, .int (iI sd)), (4, .ref ob2), (3, .ref ob1), (0, .ref a0), (1, .int (iI i)), (2, .int (iI j))]) [1, 2, 3, 0, 4, 5, 6, 7, 8, 9] rfl ?_
                                exact ih2  (s2 + (ivh13 (sk 15) 7)) f13 cm (k + 1) _ (by omega) W13 F9  (by omega) (by omega) (by omega) (by omega) (by show 0 ≤ ivh13 (sk 14) 0 ∧ ivh13 (sk 14) 0 ≤ 501 ∧ (ivh13 (sk 14) 1 = 0 ∨ ivh13 (sk 14) 0 ≤ 500); omega) (by omega) (by show cm = 0 ∨ f13 ≠ 0 ∨ (k + 1) < 2 * ivh13 (sk 14) 0 + ivh13 (sk 14) 1; omega) (pv.cmm (by omega)) (by show ivh13 a0 11 = iv a0 11; omega) (by show ivh13 a0 12 = iv a0 12; omega) (by show ivh13 a0 13 = iv a0 13; omega) (by show ivh13 a0 14 = iv a0 14; omega) (by show ivh13 a0 15 = iv a0 15; omega) (by show ivh13 a0 16 = iv a0 16; omega)
                              · refine c_aload_n (j := 7) (x := a0) C dX11_saved_157 rfl ?_
                                refine c_getr (k := 5) C ck_12 dX11_saved_158 w2_49 (by decide) t_a0 rfl rfl (by decide) rfl rq4 ?_
                                refine c_st (st2 := [.ref (sk 14)]) rfl ?_
                                refine c_aload_n (j := 7) (x := a0) C dX11_saved_161 rfl ?_
                                refine c_getr (k := 1) C ck_12 dX11_saved_162 w2_45 (by decide) t_a0 rfl rfl (by decide) rfl rq5 ?_
                                refine c_st (st2 := [.ref (sk 3), .ref (sk 14)]) rfl ?_
                                refine c_aload_n (j := 7) (x := a0) C dX11_saved_165 rfl ?_
                                refine c_getr (k := 6) C ck_12 dX11_saved_166 w2_50 (by decide) t_a0 rfl rfl (by decide) rfl rq6 ?_
                                refine c_st (st2 := [.ref (sk 15), .ref (sk 3), .ref (sk 14)]) rfl ?_
                                refine d_callV (As := [.ref (sk 3), .ref (sk 15)]) (rest := []) C hM (G_step (a0 := (sk 14)) (a1 := (sk 3)) (a2 := (sk 15)) W13 hS tsk14 tsk3 tsk15  (by show 0 ≤ ivh13 (sk 14) 0 ∧ ivh13 (sk 14) 0 ≤ 501 ∧ (ivh13 (sk 14) 1 = 0 ∨ ivh13 (sk 14) 0 ≤ 500); omega)) dX11_saved_169 kV_X11_238 rfl tsk14 rfl rfl (by decide) ck_9 rfl (Nat.le_of_ble_eq_true rfl) ⟨(Nat.le_of_ble_eq_true rfl), (Nat.le_of_ble_eq_true rfl)⟩ hph hph (show 0 + 0 = 0 from rfl) (by decide) (fun rh15 Lh15 clh15 lnh15 ivh15 rvh15 h15 => ?_)
                                obtain ⟨f15, rfl, rfl, rfl, rfl, rfl, fl15, W15, rgf15, exf15⟩ := h15
                                have F11 := F9.call hX0 fl15 rfl
                                have mr11 := MRK.call mr9 W13 hS XT.refl fl15 rfl rfl
                                refine c_st (st2 := [.int (iI f15)]) rfl ?_
                                have ri144 : (-2147483648) ≤ ivh15 (sk 14) 0 ∧ ivh15 (sk 14) 0 ≤ 2147483647 := W15.int tsk14 0
                                have ri145 : 0 ≤ ivh15 (sk 14) 1 ∧ ivh15 (sk 14) 1 ≤ 1 := W15.int tsk14 1
                                have gf15 : ((0 ≤ f15 ∧ f15 ≤ 3) ∧ 0 ≤ ivh15 (sk 14) 0 ∧ ivh15 (sk 14) 0 ≤ 501 ∧ (ivh15 (sk 14) 1 = 0 ∨ ivh15 (sk 14) 0 ≤ 500) ∧ (f15 = 0 ∨ 2 * ivh13 (sk 14) 0 + ivh13 (sk 14) 1 < 2 * ivh15 (sk 14) 0 + ivh15 (sk 14) 1)) ∧ STP ivh13 rv ivh15 (sk 3) (sk 14) (sk 15) f15 := exf15
                                have ri146 : 0 ≤ ivh15 (sk 15) 7 ∧ ivh15 (sk 15) 7 ≤ 100000 := W15.int tsk15 7
                                refine c_istore (lv2 := [(8, .int (iI f15)), (5, .int (iI (s2 + (ivh13 (sk 15) 7)))), (6, .int (iI f13)), (9, .int (iI k)), (7, .int (iI sd)), (4, .ref ob2), (3, .ref ob1), (0, .ref a0), (1, .int (iI i)), (2, .int (iI j))]) C dX11_saved_172 (by decide) rfl ?_
                                refine c_iinc (z := k) (j := 3) (lv2 := [(9, .int (iI (k + 1))), (8, .int (iI f15)), (5, .int (iI (s2 + (ivh13 (sk 15) 7)))), (6, .int (iI f13)), (7, .int (iI sd)), (4, .ref ob2), (3, .ref ob1), (0, .ref a0), (1, .int (iI i)), (2, .int (iI j))]) C dX11_saved_174 rfl (by decide) rfl ?_
                                refine c_goto (tgt := 81) C dX11_saved_177 (by decide) ?_
                                have ri147 : 1 ≤ ivh15 a0 11 ∧ ivh15 a0 11 ≤ 100 := W15.int t_a0 11
                                have ie172 : ivh15 a0 11 = ivh13 a0 11 := fl15.i t_a0 rfl 11
                                have ie173 : ivh13 a0 11 = ivb2 a0 11 := fl13.i t_a0 rfl 11
                                have ri148 : 1 ≤ ivh15 a0 12 ∧ ivh15 a0 12 ≤ 50 := W15.int t_a0 12
                                have ie175 : ivh15 a0 12 = ivh13 a0 12 := fl15.i t_a0 rfl 12
                                have ie176 : ivh13 a0 12 = ivb2 a0 12 := fl13.i t_a0 rfl 12
                                have ri149 : (-2147483648) ≤ ivh15 a0 13 ∧ ivh15 a0 13 ≤ 2147483647 := W15.int t_a0 13
                                have ie178 : ivh15 a0 13 = ivh13 a0 13 := fl15.i t_a0 rfl 13
                                have ie179 : ivh13 a0 13 = ivb2 a0 13 := fl13.i t_a0 rfl 13
                                have ri150 : (-2147483648) ≤ ivh15 a0 14 ∧ ivh15 a0 14 ≤ 2147483647 := W15.int t_a0 14
                                have ie181 : ivh15 a0 14 = ivh13 a0 14 := fl15.i t_a0 rfl 14
                                have ie182 : ivh13 a0 14 = ivb2 a0 14 := fl13.i t_a0 rfl 14
                                have ri151 : (-2147483648) ≤ ivh15 a0 15 ∧ ivh15 a0 15 ≤ 2147483647 := W15.int t_a0 15
                                have ie184 : ivh15 a0 15 = ivh13 a0 15 := fl15.i t_a0 rfl 15
                                have ie185 : ivh13 a0 15 = ivb2 a0 15 := fl13.i t_a0 rfl 15
                                have ri152 : (-2147483648) ≤ ivh15 a0 16 ∧ ivh15 a0 16 ≤ 2147483647 := W15.int t_a0 16
                                have ie187 : ivh15 a0 16 = ivh13 a0 16 := fl15.i t_a0 rfl 16
                                have ie188 : ivh13 a0 16 = ivb2 a0 16 := fl13.i t_a0 rfl 16
                                refine c_lv (lv2 := [(5, .int (iI (s2 + (ivh13 (sk 15) 7)))), (6, .int (iI f13)), (8, .int (iI f15)), (9, .int (iI (k + 1))), (7, .int (iI sd)), (4, .ref ob2), (3, .ref ob1), (0, .ref a0), (1, .int (iI i)), (2, .int (iI j))]) [2, 3, 1, 0, 4, 5, 6, 7, 8, 9] rfl ?_
                                exact ih2  (s2 + (ivh13 (sk 15) 7)) f13 f15 (k + 1) _ (by omega) W15 F11  (by omega) (by omega) (by omega) (by omega) (by show 0 ≤ ivh15 (sk 14) 0 ∧ ivh15 (sk 14) 0 ≤ 501 ∧ (ivh15 (sk 14) 1 = 0 ∨ ivh15 (sk 14) 0 ≤ 500); omega) (by omega) (by show f15 = 0 ∨ f13 ≠ 0 ∨ (k + 1) < 2 * ivh15 (sk 14) 0 + ivh15 (sk 14) 1; omega) (PVD.go pv (by omega) (by omega) W13 F9 tsk3 rfl rfl gf15.2 (by omega)) (by show ivh15 a0 11 = iv a0 11; omega) (by show ivh15 a0 12 = iv a0 12; omega) (by show ivh15 a0 13 = iv a0 13; omega) (by show ivh15 a0 14 = iv a0 14; omega) (by show ivh15 a0 15 = iv a0 15; omega) (by show ivh15 a0 16 = iv a0 16; omega)
                          · refine c_aload_n (j := 6) (x := ob1) C dX11_saved_113 rfl ?_
                            refine c_goto (tgt := 119) C dX11_saved_114 (by decide) ?_
                            have ri153 : (-2147483648) ≤ ivb2 (sk 14) 0 ∧ ivb2 (sk 14) 0 ≤ 2147483647 := Wb2.int tsk14 0
                            have ri154 : 0 ≤ ivb2 (sk 14) 1 ∧ ivb2 (sk 14) 1 ≤ 1 := Wb2.int tsk14 1
                            have ri155 : 0 ≤ ivb2 (sk 15) 7 ∧ ivb2 (sk 15) 7 ≤ 100000 := Wb2.int tsk15 7
                            have ri156 : 0 ≤ ivb2 (sk 15) 4 ∧ ivb2 (sk 15) 4 ≤ 500 := Wb2.int tsk15 4
                            refine d_callV (As := [.ref ob1]) (rest := []) C hM (G_setBy (a0 := (sk 15)) (a1 := ob1) Wb2 hS tsk15 tob1  ) dX11_saved_119 kV_X11_253 rfl tsk15 rfl rfl (by decide) ck_7 rfl (Nat.le_of_ble_eq_true rfl) ⟨(Nat.le_of_ble_eq_true rfl), (Nat.le_of_ble_eq_true rfl)⟩ hph hph (show 0 + 0 = 0 from rfl) (by decide) (fun rh16 Lh16 clh16 lnh16 ivh16 rvh16 h16 => ?_)
                            obtain ⟨f16, rfl, rfl, rfl, rfl, rfl, fl16, W16, rgf16, exf16⟩ := h16
                            have F12 := Fb2.call hX0 fl16 rfl
                            have mr12 := MRK.call mrb2 Wb2 hS XT.refl fl16 rfl rfl
                            refine c_st (st2 := [.int (iI f16)]) rfl ?_
                            have ri157 : 0 ≤ ivh16 (sk 15) 4 ∧ ivh16 (sk 15) 4 ≤ 500 := W16.int tsk15 4
                            have ri158 : 0 ≤ ivh16 (sk 15) 7 ∧ ivh16 (sk 15) 7 ≤ 100000 := W16.int tsk15 7
                            have gf16 : ((f16 = 0 ∨ f16 = 6 ∨ f16 = 7) ∧ ivh16 (sk 15) 4 = ivb2 (sk 15) 4 ∧ (f16 = 0 → ivh16 (sk 15) 7 ≤ 200)) ∧ SBX sk ln ivb2 rv ivh16 (sk 15) ob1 f16 := exf16
                            have ri159 : (-2147483648) ≤ ivh16 (sk 14) 0 ∧ ivh16 (sk 14) 0 ≤ 2147483647 := W16.int tsk14 0
                            have ie196 : ivh16 (sk 14) 0 = ivb2 (sk 14) 0 := fl16.i tsk14 rfl 0
                            have ri160 : 0 ≤ ivh16 (sk 14) 1 ∧ ivh16 (sk 14) 1 ≤ 1 := W16.int tsk14 1
                            have ie197 : ivh16 (sk 14) 1 = ivb2 (sk 14) 1 := fl16.i tsk14 rfl 1
                            refine c_istore (lv2 := [(6, .int (iI f16)), (5, .int (iI s2)), (8, .int (iI cm)), (9, .int (iI k)), (7, .int (iI sd)), (4, .ref ob2), (3, .ref ob1), (0, .ref a0), (1, .int (iI i)), (2, .int (iI j))]) C dX11_saved_122 (by decide) rfl ?_
                            refine c_iload (j := 1) C dX11_saved_124 rfl ?_
                            refine c_iload (j := 4) C dX11_saved_126 rfl ?_
                            refine c_if_ne (tgt := 141) C ⟨by omega, by omega⟩ dX11_saved_128 (by decide) (fun c14 => ?_) (fun c14 => ?_)
                            · refine c_aload_n (j := 7) (x := a0) C dX11_saved_141 rfl ?_
                              refine c_getr (k := 6) C ck_12 dX11_saved_142 w2_50 (by decide) t_a0 rfl rfl (by decide) rfl rq6 ?_
                              refine c_st (st2 := [.ref (sk 15), .int (iI s2)]) rfl ?_
                              refine c_get (k := 7) C ck_7 dX11_saved_145 w1_149 (by decide) tsk15 rfl rfl (by decide) rfl ?_
                              refine c_ineg C dX11_saved_148 ?_
                              refine c_iadd C dX11_saved_149 ?_
                              refine c_istore (lv2 := [(5, .int (iI (s2 + (-(ivh16 (sk 15) 7))))), (6, .int (iI f16)), (8, .int (iI cm)), (9, .int (iI k)), (7, .int (iI sd)), (4, .ref ob2), (3, .ref ob1), (0, .ref a0), (1, .int (iI i)), (2, .int (iI j))]) C dX11_saved_150 (by decide) rfl ?_
                              have pv : PVD sk ln iv rv ivh16 i j sd (s2 + (-(ivh16 (sk 15) 7))) f16 1 := PVD.set (t := i) hV2 (by omega) (by omega) hW hS Wb2 Fb2 tsk15 wkob1 (by omega) gf16.2 ⟨by omega, by omega⟩ (by omega) (by omega)
                              refine c_iload (j := 1) C dX11_saved_152 rfl ?_
                              refine c_if_ne (tgt := 174) C ⟨by omega, by omega⟩ dX11_saved_154 (by decide) (fun c15 => ?_) (fun c15 => ?_)
                              · refine c_iinc (z := k) (j := 3) (lv2 := [(9, .int (iI (k + 1))), (5, .int (iI (s2 + (-(ivh16 (sk 15) 7))))), (6, .int (iI f16)), (8, .int (iI cm)), (7, .int (iI sd)), (4, .ref ob2), (3, .ref ob1), (0, .ref a0), (1, .int (iI i)), (2, .int (iI j))]) C dX11_saved_174 rfl (by decide) rfl ?_
                                refine c_goto (tgt := 81) C dX11_saved_177 (by decide) ?_
                                have ri161 : 1 ≤ ivh16 a0 11 ∧ ivh16 a0 11 ≤ 100 := W16.int t_a0 11
                                have ie198 : ivh16 a0 11 = ivb2 a0 11 := fl16.i t_a0 rfl 11
                                have ri162 : 1 ≤ ivh16 a0 12 ∧ ivh16 a0 12 ≤ 50 := W16.int t_a0 12
                                have ie200 : ivh16 a0 12 = ivb2 a0 12 := fl16.i t_a0 rfl 12
                                have ri163 : (-2147483648) ≤ ivh16 a0 13 ∧ ivh16 a0 13 ≤ 2147483647 := W16.int t_a0 13
                                have ie202 : ivh16 a0 13 = ivb2 a0 13 := fl16.i t_a0 rfl 13
                                have ri164 : (-2147483648) ≤ ivh16 a0 14 ∧ ivh16 a0 14 ≤ 2147483647 := W16.int t_a0 14
                                have ie204 : ivh16 a0 14 = ivb2 a0 14 := fl16.i t_a0 rfl 14
                                have ri165 : (-2147483648) ≤ ivh16 a0 15 ∧ ivh16 a0 15 ≤ 2147483647 := W16.int t_a0 15
                                have ie206 : ivh16 a0 15 = ivb2 a0 15 := fl16.i t_a0 rfl 15
                                have ri166 : (-2147483648) ≤ ivh16 a0 16 ∧ ivh16 a0 16 ≤ 2147483647 := W16.int t_a0 16
                                have ie208 : ivh16 a0 16 = ivb2 a0 16 := fl16.i t_a0 rfl 16
                                refine c_lv (lv2 := [(5, .int (iI (s2 + (-(ivh16 (sk 15) 7))))), (6, .int (iI f16)), (8, .int (iI cm)), (9, .int (iI (k + 1))), (7, .int (iI sd)), (4, .ref ob2), (3, .ref ob1), (0, .ref a0), (1, .int (iI i)), (2, .int (iI j))]) [1, 2, 3, 0, 4, 5, 6, 7, 8, 9] rfl ?_
                                exact ih2  (s2 + (-(ivh16 (sk 15) 7))) f16 cm (k + 1) _ (by omega) W16 F12  (by omega) (by omega) (by omega) (by omega) (by show 0 ≤ ivh16 (sk 14) 0 ∧ ivh16 (sk 14) 0 ≤ 501 ∧ (ivh16 (sk 14) 1 = 0 ∨ ivh16 (sk 14) 0 ≤ 500); omega) (by omega) (by show cm = 0 ∨ f16 ≠ 0 ∨ (k + 1) < 2 * ivh16 (sk 14) 0 + ivh16 (sk 14) 1; omega) (pv.cmm (by omega)) (by show ivh16 a0 11 = iv a0 11; omega) (by show ivh16 a0 12 = iv a0 12; omega) (by show ivh16 a0 13 = iv a0 13; omega) (by show ivh16 a0 14 = iv a0 14; omega) (by show ivh16 a0 15 = iv a0 15; omega) (by show ivh16 a0 16 = iv a0 16; omega)
                              · refine c_aload_n (j := 7) (x := a0) C dX11_saved_157 rfl ?_
                                refine c_getr (k := 5) C ck_12 dX11_saved_158 w2_49 (by decide) t_a0 rfl rfl (by decide) rfl rq4 ?_
                                refine c_st (st2 := [.ref (sk 14)]) rfl ?_
                                refine c_aload_n (j := 7) (x := a0) C dX11_saved_161 rfl ?_
                                refine c_getr (k := 1) C ck_12 dX11_saved_162 w2_45 (by decide) t_a0 rfl rfl (by decide) rfl rq5 ?_
                                refine c_st (st2 := [.ref (sk 3), .ref (sk 14)]) rfl ?_
                                refine c_aload_n (j := 7) (x := a0) C dX11_saved_165 rfl ?_
                                refine c_getr (k := 6) C ck_12 dX11_saved_166 w2_50 (by decide) t_a0 rfl rfl (by decide) rfl rq6 ?_
                                refine c_st (st2 := [.ref (sk 15), .ref (sk 3), .ref (sk 14)]) rfl ?_
                                refine d_callV (As := [.ref (sk 3), .ref (sk 15)]) (rest := []) C hM (G_step (a0 := (sk 14)) (a1 := (sk 3)) (a2 := (sk 15)) W16 hS tsk14 tsk3 tsk15  (by show 0 ≤ ivh16 (sk 14) 0 ∧ ivh16 (sk 14) 0 ≤ 501 ∧ (ivh16 (sk 14) 1 = 0 ∨ ivh16 (sk 14) 0 ≤ 500); omega)) dX11_saved_169 kV_X11_238 rfl tsk14 rfl rfl (by decide) ck_9 rfl (Nat.le_of_ble_eq_true rfl) ⟨(Nat.le_of_ble_eq_true rfl), (Nat.le_of_ble_eq_true rfl)⟩ hph hph (show 0 + 0 = 0 from rfl) (by decide) (fun rh17 Lh17 clh17 lnh17 ivh17 rvh17 h17 => ?_)
                                obtain ⟨f17, rfl, rfl, rfl, rfl, rfl, fl17, W17, rgf17, exf17⟩ := h17
                                have F13 := F12.call hX0 fl17 rfl
                                have mr13 := MRK.call mr12 W16 hS XT.refl fl17 rfl rfl
                                refine c_st (st2 := [.int (iI f17)]) rfl ?_
                                have ri167 : (-2147483648) ≤ ivh17 (sk 14) 0 ∧ ivh17 (sk 14) 0 ≤ 2147483647 := W17.int tsk14 0
                                have ri168 : 0 ≤ ivh17 (sk 14) 1 ∧ ivh17 (sk 14) 1 ≤ 1 := W17.int tsk14 1
                                have gf17 : ((0 ≤ f17 ∧ f17 ≤ 3) ∧ 0 ≤ ivh17 (sk 14) 0 ∧ ivh17 (sk 14) 0 ≤ 501 ∧ (ivh17 (sk 14) 1 = 0 ∨ ivh17 (sk 14) 0 ≤ 500) ∧ (f17 = 0 ∨ 2 * ivh16 (sk 14) 0 + ivh16 (sk 14) 1 < 2 * ivh17 (sk 14) 0 + ivh17 (sk 14) 1)) ∧ STP ivh16 rv ivh17 (sk 3) (sk 14) (sk 15) f17 := exf17
                                have ri169 : 0 ≤ ivh17 (sk 15) 7 ∧ ivh17 (sk 15) 7 ≤ 100000 := W17.int tsk15 7
                                refine c_istore (lv2 := [(8, .int (iI f17)), (5, .int (iI (s2 + (-(ivh16 (sk 15) 7))))), (6, .int (iI f16)), (9, .int (iI k)), (7, .int (iI sd)), (4, .ref ob2), (3, .ref ob1), (0, .ref a0), (1, .int (iI i)), (2, .int (iI j))]) C dX11_saved_172 (by decide) rfl ?_
                                refine c_iinc (z := k) (j := 3) (lv2 := [(9, .int (iI (k + 1))), (8, .int (iI f17)), (5, .int (iI (s2 + (-(ivh16 (sk 15) 7))))), (6, .int (iI f16)), (7, .int (iI sd)), (4, .ref ob2), (3, .ref ob1), (0, .ref a0), (1, .int (iI i)), (2, .int (iI j))]) C dX11_saved_174 rfl (by decide) rfl ?_
                                refine c_goto (tgt := 81) C dX11_saved_177 (by decide) ?_
                                have ri170 : 1 ≤ ivh17 a0 11 ∧ ivh17 a0 11 ≤ 100 := W17.int t_a0 11
                                have ie213 : ivh17 a0 11 = ivh16 a0 11 := fl17.i t_a0 rfl 11
                                have ie214 : ivh16 a0 11 = ivb2 a0 11 := fl16.i t_a0 rfl 11
                                have ri171 : 1 ≤ ivh17 a0 12 ∧ ivh17 a0 12 ≤ 50 := W17.int t_a0 12
                                have ie216 : ivh17 a0 12 = ivh16 a0 12 := fl17.i t_a0 rfl 12
                                have ie217 : ivh16 a0 12 = ivb2 a0 12 := fl16.i t_a0 rfl 12
                                have ri172 : (-2147483648) ≤ ivh17 a0 13 ∧ ivh17 a0 13 ≤ 2147483647 := W17.int t_a0 13
                                have ie219 : ivh17 a0 13 = ivh16 a0 13 := fl17.i t_a0 rfl 13
                                have ie220 : ivh16 a0 13 = ivb2 a0 13 := fl16.i t_a0 rfl 13
                                have ri173 : (-2147483648) ≤ ivh17 a0 14 ∧ ivh17 a0 14 ≤ 2147483647 := W17.int t_a0 14
                                have ie222 : ivh17 a0 14 = ivh16 a0 14 := fl17.i t_a0 rfl 14
                                have ie223 : ivh16 a0 14 = ivb2 a0 14 := fl16.i t_a0 rfl 14
                                have ri174 : (-2147483648) ≤ ivh17 a0 15 ∧ ivh17 a0 15 ≤ 2147483647 := W17.int t_a0 15
                                have ie225 : ivh17 a0 15 = ivh16 a0 15 := fl17.i t_a0 rfl 15
                                have ie226 : ivh16 a0 15 = ivb2 a0 15 := fl16.i t_a0 rfl 15
                                have ri175 : (-2147483648) ≤ ivh17 a0 16 ∧ ivh17 a0 16 ≤ 2147483647 := W17.int t_a0 16
                                have ie228 : ivh17 a0 16 = ivh16 a0 16 := fl17.i t_a0 rfl 16
                                have ie229 : ivh16 a0 16 = ivb2 a0 16 := fl16.i t_a0 rfl 16
                                refine c_lv (lv2 := [(5, .int (iI (s2 + (-(ivh16 (sk 15) 7))))), (6, .int (iI f16)), (8, .int (iI f17)), (9, .int (iI (k + 1))), (7, .int (iI sd)), (4, .ref ob2), (3, .ref ob1), (0, .ref a0), (1, .int (iI i)), (2, .int (iI j))]) [2, 3, 1, 0, 4, 5, 6, 7, 8, 9] rfl ?_
                                exact ih2  (s2 + (-(ivh16 (sk 15) 7))) f16 f17 (k + 1) _ (by omega) W17 F13  (by omega) (by omega) (by omega) (by omega) (by show 0 ≤ ivh17 (sk 14) 0 ∧ ivh17 (sk 14) 0 ≤ 501 ∧ (ivh17 (sk 14) 1 = 0 ∨ ivh17 (sk 14) 0 ≤ 500); omega) (by omega) (by show f17 = 0 ∨ f16 ≠ 0 ∨ (k + 1) < 2 * ivh17 (sk 14) 0 + ivh17 (sk 14) 1; omega) (PVD.go pv (by omega) (by omega) W16 F12 tsk3 rfl rfl gf17.2 (by omega)) (by show ivh17 a0 11 = iv a0 11; omega) (by show ivh17 a0 12 = iv a0 12; omega) (by show ivh17 a0 13 = iv a0 13; omega) (by show ivh17 a0 14 = iv a0 14; omega) (by show ivh17 a0 15 = iv a0 15; omega) (by show ivh17 a0 16 = iv a0 16; omega)
                            · refine c_aload_n (j := 7) (x := a0) C dX11_saved_131 rfl ?_
                              refine c_getr (k := 6) C ck_12 dX11_saved_132 w2_50 (by decide) t_a0 rfl rfl (by decide) rfl rq6 ?_
                              refine c_st (st2 := [.ref (sk 15), .int (iI s2)]) rfl ?_
                              refine c_get (k := 7) C ck_7 dX11_saved_135 w1_149 (by decide) tsk15 rfl rfl (by decide) rfl ?_
                              refine c_goto (tgt := 149) C dX11_saved_138 (by decide) ?_
                              refine c_iadd C dX11_saved_149 ?_
                              refine c_istore (lv2 := [(5, .int (iI (s2 + (ivh16 (sk 15) 7)))), (6, .int (iI f16)), (8, .int (iI cm)), (9, .int (iI k)), (7, .int (iI sd)), (4, .ref ob2), (3, .ref ob1), (0, .ref a0), (1, .int (iI i)), (2, .int (iI j))]) C dX11_saved_150 (by decide) rfl ?_
                              have pv : PVD sk ln iv rv ivh16 i j sd (s2 + (ivh16 (sk 15) 7)) f16 1 := PVD.set (t := i) hV2 (by omega) (by omega) hW hS Wb2 Fb2 tsk15 wkob1 (by omega) gf16.2 ⟨by omega, by omega⟩ (by omega) (by omega)
                              refine c_iload (j := 1) C dX11_saved_152 rfl ?_
                              refine c_if_ne (tgt := 174) C ⟨by omega, by omega⟩ dX11_saved_154 (by decide) (fun c16 => ?_) (fun c16 => ?_)
                              · refine c_iinc (z := k) (j := 3) (lv2 := [(9, .int (iI (k + 1))), (5, .int (iI (s2 + (ivh16 (sk 15) 7)))), (6, .int (iI f16)), (8, .int (iI cm)), (7, .int (iI sd)), (4, .ref ob2), (3, .ref ob1), (0, .ref a0), (1, .int (iI i)), (2, .int (iI j))]) C dX11_saved_174 rfl (by decide) rfl ?_
                                refine c_goto (tgt := 81) C dX11_saved_177 (by decide) ?_
                                have ri176 : 1 ≤ ivh16 a0 11 ∧ ivh16 a0 11 ≤ 100 := W16.int t_a0 11
                                have ie231 : ivh16 a0 11 = ivb2 a0 11 := fl16.i t_a0 rfl 11
                                have ri177 : 1 ≤ ivh16 a0 12 ∧ ivh16 a0 12 ≤ 50 := W16.int t_a0 12
                                have ie233 : ivh16 a0 12 = ivb2 a0 12 := fl16.i t_a0 rfl 12
                                have ri178 : (-2147483648) ≤ ivh16 a0 13 ∧ ivh16 a0 13 ≤ 2147483647 := W16.int t_a0 13
                                have ie235 : ivh16 a0 13 = ivb2 a0 13 := fl16.i t_a0 rfl 13
                                have ri179 : (-2147483648) ≤ ivh16 a0 14 ∧ ivh16 a0 14 ≤ 2147483647 := W16.int t_a0 14
                                have ie237 : ivh16 a0 14 = ivb2 a0 14 := fl16.i t_a0 rfl 14
                                have ri180 : (-2147483648) ≤ ivh16 a0 15 ∧ ivh16 a0 15 ≤ 2147483647 := W16.int t_a0 15
                                have ie239 : ivh16 a0 15 = ivb2 a0 15 := fl16.i t_a0 rfl 15
                                have ri181 : (-2147483648) ≤ ivh16 a0 16 ∧ ivh16 a0 16 ≤ 2147483647 := W16.int t_a0 16
                                have ie241 : ivh16 a0 16 = ivb2 a0 16 := fl16.i t_a0 rfl 16
                                refine c_lv (lv2 := [(5, .int (iI (s2 + (ivh16 (sk 15) 7)))), (6, .int (iI f16)), (8, .int (iI cm)), (9, .int (iI (k + 1))), (7, .int (iI sd)), (4, .ref ob2), (3, .ref ob1), (0, .ref a0), (1, .int (iI i)), (2, .int (iI j))]) [1, 2, 3, 0, 4, 5, 6, 7, 8, 9] rfl ?_
                                exact ih2  (s2 + (ivh16 (sk 15) 7)) f16 cm (k + 1) _ (by omega) W16 F12  (by omega) (by omega) (by omega) (by omega) (by show 0 ≤ ivh16 (sk 14) 0 ∧ ivh16 (sk 14) 0 ≤ 501 ∧ (ivh16 (sk 14) 1 = 0 ∨ ivh16 (sk 14) 0 ≤ 500); omega) (by omega) (by show cm = 0 ∨ f16 ≠ 0 ∨ (k + 1) < 2 * ivh16 (sk 14) 0 + ivh16 (sk 14) 1; omega) (pv.cmm (by omega)) (by show ivh16 a0 11 = iv a0 11; omega) (by show ivh16 a0 12 = iv a0 12; omega) (by show ivh16 a0 13 = iv a0 13; omega) (by show ivh16 a0 14 = iv a0 14; omega) (by show ivh16 a0 15 = iv a0 15; omega) (by show ivh16 a0 16 = iv a0 16; omega)
                              · refine c_aload_n (j := 7) (x := a0) C dX11_saved_157 rfl ?_
                                refine c_getr (k := 5) C ck_12 dX11_saved_158 w2_49 (by decide) t_a0 rfl rfl (by decide) rfl rq4 ?_
                                refine c_st (st2 := [.ref (sk 14)]) rfl ?_
                                refine c_aload_n (j := 7) (x := a0) C dX11_saved_161 rfl ?_
                                refine c_getr (k := 1) C ck_12 dX11_saved_162 w2_45 (by decide) t_a0 rfl rfl (by decide) rfl rq5 ?_
                                refine c_st (st2 := [.ref (sk 3), .ref (sk 14)]) rfl ?_
                                refine c_aload_n (j := 7) (x := a0) C dX11_saved_165 rfl ?_
                                refine c_getr (k := 6) C ck_12 dX11_saved_166 w2_50 (by decide) t_a0 rfl rfl (by decide) rfl rq6 ?_
                                refine c_st (st2 := [.ref (sk 15), .ref (sk 3), .ref (sk 14)]) rfl ?_
                                refine d_callV (As := [.ref (sk 3), .ref (sk 15)]) (rest := []) C hM (G_step (a0 := (sk 14)) (a1 := (sk 3)) (a2 := (sk 15)) W16 hS tsk14 tsk3 tsk15  (by show 0 ≤ ivh16 (sk 14) 0 ∧ ivh16 (sk 14) 0 ≤ 501 ∧ (ivh16 (sk 14) 1 = 0 ∨ ivh16 (sk 14) 0 ≤ 500); omega)) dX11_saved_169 kV_X11_238 rfl tsk14 rfl rfl (by decide) ck_9 rfl (Nat.le_of_ble_eq_true rfl) ⟨(Nat.le_of_ble_eq_true rfl), (Nat.le_of_ble_eq_true rfl)⟩ hph hph (show 0 + 0 = 0 from rfl) (by decide) (fun rh18 Lh18 clh18 lnh18 ivh18 rvh18 h18 => ?_)
                                obtain ⟨f18, rfl, rfl, rfl, rfl, rfl, fl18, W18, rgf18, exf18⟩ := h18
                                have F14 := F12.call hX0 fl18 rfl
                                have mr14 := MRK.call mr12 W16 hS XT.refl fl18 rfl rfl
                                refine c_st (st2 := [.int (iI f18)]) rfl ?_
                                have ri182 : (-2147483648) ≤ ivh18 (sk 14) 0 ∧ ivh18 (sk 14) 0 ≤ 2147483647 := W18.int tsk14 0
                                have ri183 : 0 ≤ ivh18 (sk 14) 1 ∧ ivh18 (sk 14) 1 ≤ 1 := W18.int tsk14 1
                                have gf18 : ((0 ≤ f18 ∧ f18 ≤ 3) ∧ 0 ≤ ivh18 (sk 14) 0 ∧ ivh18 (sk 14) 0 ≤ 501 ∧ (ivh18 (sk 14) 1 = 0 ∨ ivh18 (sk 14) 0 ≤ 500) ∧ (f18 = 0 ∨ 2 * ivh16 (sk 14) 0 + ivh16 (sk 14) 1 < 2 * ivh18 (sk 14) 0 + ivh18 (sk 14) 1)) ∧ STP ivh16 rv ivh18 (sk 3) (sk 14) (sk 15) f18 := exf18
                                have ri184 : 0 ≤ ivh18 (sk 15) 7 ∧ ivh18 (sk 15) 7 ≤ 100000 := W18.int tsk15 7
                                refine c_istore (lv2 := [(8, .int (iI f18)), (5, .int (iI (s2 + (ivh16 (sk 15) 7)))), (6, .int (iI f16)), (9, .int (iI k)), (7, .int (iI sd)), (4, .ref ob2), (3, .ref ob1), (0, .ref a0), (1, .int (iI i)), (2, .int (iI j))]) C dX11_saved_172 (by decide) rfl ?_
                                refine c_iinc (z := k) (j := 3) (lv2 := [(9, .int (iI (k + 1))), (8, .int (iI f18)), (5, .int (iI (s2 + (ivh16 (sk 15) 7)))), (6, .int (iI f16)), (7, .int (iI sd)), (4, .ref ob2), (3, .ref ob1), (0, .ref a0), (1, .int (iI i)), (2, .int (iI j))]) C dX11_saved_174 rfl (by decide) rfl ?_
                                refine c_goto (tgt := 81) C dX11_saved_177 (by decide) ?_
                                have ri185 : 1 ≤ ivh18 a0 11 ∧ ivh18 a0 11 ≤ 100 := W18.int t_a0 11
                                have ie246 : ivh18 a0 11 = ivh16 a0 11 := fl18.i t_a0 rfl 11
                                have ie247 : ivh16 a0 11 = ivb2 a0 11 := fl16.i t_a0 rfl 11
                                have ri186 : 1 ≤ ivh18 a0 12 ∧ ivh18 a0 12 ≤ 50 := W18.int t_a0 12
                                have ie249 : ivh18 a0 12 = ivh16 a0 12 := fl18.i t_a0 rfl 12
                                have ie250 : ivh16 a0 12 = ivb2 a0 12 := fl16.i t_a0 rfl 12
                                have ri187 : (-2147483648) ≤ ivh18 a0 13 ∧ ivh18 a0 13 ≤ 2147483647 := W18.int t_a0 13
                                have ie252 : ivh18 a0 13 = ivh16 a0 13 := fl18.i t_a0 rfl 13
                                have ie253 : ivh16 a0 13 = ivb2 a0 13 := fl16.i t_a0 rfl 13
                                have ri188 : (-2147483648) ≤ ivh18 a0 14 ∧ ivh18 a0 14 ≤ 2147483647 := W18.int t_a0 14
                                have ie255 : ivh18 a0 14 = ivh16 a0 14 := fl18.i t_a0 rfl 14
                                have ie256 : ivh16 a0 14 = ivb2 a0 14 := fl16.i t_a0 rfl 14
                                have ri189 : (-2147483648) ≤ ivh18 a0 15 ∧ ivh18 a0 15 ≤ 2147483647 := W18.int t_a0 15
                                have ie258 : ivh18 a0 15 = ivh16 a0 15 := fl18.i t_a0 rfl 15
                                have ie259 : ivh16 a0 15 = ivb2 a0 15 := fl16.i t_a0 rfl 15
                                have ri190 : (-2147483648) ≤ ivh18 a0 16 ∧ ivh18 a0 16 ≤ 2147483647 := W18.int t_a0 16
                                have ie261 : ivh18 a0 16 = ivh16 a0 16 := fl18.i t_a0 rfl 16
                                have ie262 : ivh16 a0 16 = ivb2 a0 16 := fl16.i t_a0 rfl 16
                                refine c_lv (lv2 := [(5, .int (iI (s2 + (ivh16 (sk 15) 7)))), (6, .int (iI f16)), (8, .int (iI f18)), (9, .int (iI (k + 1))), (7, .int (iI sd)), (4, .ref ob2), (3, .ref ob1), (0, .ref a0), (1, .int (iI i)), (2, .int (iI j))]) [2, 3, 1, 0, 4, 5, 6, 7, 8, 9] rfl ?_
                                exact ih2  (s2 + (ivh16 (sk 15) 7)) f16 f18 (k + 1) _ (by omega) W18 F14  (by omega) (by omega) (by omega) (by omega) (by show 0 ≤ ivh18 (sk 14) 0 ∧ ivh18 (sk 14) 0 ≤ 501 ∧ (ivh18 (sk 14) 1 = 0 ∨ ivh18 (sk 14) 0 ≤ 500); omega) (by omega) (by show f18 = 0 ∨ f16 ≠ 0 ∨ (k + 1) < 2 * ivh18 (sk 14) 0 + ivh18 (sk 14) 1; omega) (PVD.go pv (by omega) (by omega) W16 F12 tsk3 rfl rfl gf18.2 (by omega)) (by show ivh18 a0 11 = iv a0 11; omega) (by show ivh18 a0 12 = iv a0 12; omega) (by show ivh18 a0 13 = iv a0 13; omega) (by show ivh18 a0 14 = iv a0 14; omega) (by show ivh18 a0 15 = iv a0 15; omega) (by show ivh18 a0 16 = iv a0 16; omega)
              have ri191 : 1 ≤ ivh11 a0 11 ∧ ivh11 a0 11 ≤ 100 := W11.int t_a0 11
              have ie264 : ivh11 a0 11 = ivh10 a0 11 := fl11.i t_a0 rfl 11
              have ie265 : ivh10 a0 11 = ivb1 a0 11 := fl10.i t_a0 rfl 11
              have ri192 : 1 ≤ ivh11 a0 12 ∧ ivh11 a0 12 ≤ 50 := W11.int t_a0 12
              have ie267 : ivh11 a0 12 = ivh10 a0 12 := fl11.i t_a0 rfl 12
              have ie268 : ivh10 a0 12 = ivb1 a0 12 := fl10.i t_a0 rfl 12
              have ri193 : (-2147483648) ≤ ivh11 a0 13 ∧ ivh11 a0 13 ≤ 2147483647 := W11.int t_a0 13
              have ie270 : ivh11 a0 13 = ivh10 a0 13 := fl11.i t_a0 rfl 13
              have ie271 : ivh10 a0 13 = ivb1 a0 13 := fl10.i t_a0 rfl 13
              have ri194 : (-2147483648) ≤ ivh11 a0 14 ∧ ivh11 a0 14 ≤ 2147483647 := W11.int t_a0 14
              have ie273 : ivh11 a0 14 = ivh10 a0 14 := fl11.i t_a0 rfl 14
              have ie274 : ivh10 a0 14 = ivb1 a0 14 := fl10.i t_a0 rfl 14
              have ri195 : (-2147483648) ≤ ivh11 a0 15 ∧ ivh11 a0 15 ≤ 2147483647 := W11.int t_a0 15
              have ie276 : ivh11 a0 15 = ivh10 a0 15 := fl11.i t_a0 rfl 15
              have ie277 : ivh10 a0 15 = ivb1 a0 15 := fl10.i t_a0 rfl 15
              have ri196 : (-2147483648) ≤ ivh11 a0 16 ∧ ivh11 a0 16 ≤ 2147483647 := W11.int t_a0 16
              have ie279 : ivh11 a0 16 = ivh10 a0 16 := fl11.i t_a0 rfl 16
              have ie280 : ivh10 a0 16 = ivb1 a0 16 := fl10.i t_a0 rfl 16
              refine c_lv (lv2 := [(5, .int (iI s1)), (6, .int (iI wy)), (8, .int (iI f11)), (9, .int (iI 0)), (7, .int (iI sd)), (4, .ref ob2), (3, .ref ob1), (0, .ref a0), (1, .int (iI i)), (2, .int (iI j))]) [2, 3, 1, 0, 4, 5, 6, 7, 8, 9] rfl ?_
              exact Lp2 1103 s1 wy f11 0 _ (by omega) W11 F7  (by omega) (by omega) (by omega) (by omega) (by show 0 ≤ ivh11 (sk 14) 0 ∧ ivh11 (sk 14) 0 ≤ 501 ∧ (ivh11 (sk 14) 1 = 0 ∨ ivh11 (sk 14) 0 ≤ 500); omega) (by omega) (by show f11 = 0 ∨ wy ≠ 0 ∨ 0 < 2 * ivh11 (sk 14) 0 + ivh11 (sk 14) 1; omega) (PVA.begin hV1 (by omega) (by omega) W10 F6 tsk3 rfl rfl (by omega) (by omega) gf11.2 (by omega)) (by show ivh11 a0 11 = iv a0 11; omega) (by show ivh11 a0 12 = iv a0 12; omega) (by show ivh11 a0 13 = iv a0 13; omega) (by show ivh11 a0 14 = iv a0 14; omega) (by show ivh11 a0 15 = iv a0 15; omega) (by show ivh11 a0 16 = iv a0 16; omega)
      have ri197 : 1 ≤ iv a0 11 ∧ iv a0 11 ≤ 100 := hW.int t_a0 11
      have ri198 : 1 ≤ iv a0 12 ∧ iv a0 12 ≤ 50 := hW.int t_a0 12
      have ri199 : (-2147483648) ≤ iv a0 13 ∧ iv a0 13 ≤ 2147483647 := hW.int t_a0 13
      have ri200 : (-2147483648) ≤ iv a0 14 ∧ iv a0 14 ≤ 2147483647 := hW.int t_a0 14
      have ri201 : (-2147483648) ≤ iv a0 15 ∧ iv a0 15 ≤ 2147483647 := hW.int t_a0 15
      have ri202 : (-2147483648) ≤ iv a0 16 ∧ iv a0 16 ≤ 2147483647 := hW.int t_a0 16
      refine c_lv (lv2 := [(5, .int (iI 0)), (6, .int (iI 0)), (7, .int (iI 0)), (4, .ref ob2), (3, .ref ob1), (0, .ref a0), (1, .int (iI i)), (2, .int (iI j))]) [2, 1, 0, 3, 4, 5, 6, 7] rfl ?_
      exact Lp1 5 0 0 0 _ (by omega) hW hF0  (by omega) (by omega) (by omega) (by omega) PVA.init (by show iv a0 11 = iv a0 11; omega) (by show iv a0 12 = iv a0 12; omega) (by show iv a0 13 = iv a0 13; omega) (by show iv a0 14 = iv a0 14; omega) (by show iv a0 15 = iv a0 15; omega) (by show iv a0 16 = iv a0 16; omega)
    · subst oq2
      refine c_lv (lv2 := [(4, .null), (3, .ref ob1), (0, .ref a0), (1, .int (iI i)), (2, .int (iI j))]) [0, 1, 2, 3, 4] rfl ?_
      refine c_st (st2 := []) rfl ?_
      refine c_aload_n (j := 2) (x := a0) C dX11_saved_28 rfl ?_
      refine c_iconst C dX11_saved_29 ?_
      refine d_callV (As := [.int (iI 3)]) (rest := []) C hM (C_refuse (a0 := a0) (x := 3) hW hS t_a0 ⟨by decide, by decide⟩ ) dX11_saved_30 kV_X11_102 rfl t_a0 rfl rfl (by decide) ck_12 rfl (Nat.le_of_ble_eq_true rfl) ⟨(Nat.le_of_ble_eq_true rfl), (Nat.le_of_ble_eq_true rfl)⟩ hph hph (show 0 + 0 = 0 from rfl) (by decide) (fun rh19 Lh19 clh19 lnh19 ivh19 rvh19 h19 => ?_)
      obtain ⟨f19, rfl, rfl, rfl, rfl, rfl, fl19, W19, rgf19, exf19, kp11f19, kp12f19, kp13f19, kp14f19, kp15f19, kp16f19⟩ := h19
      have ri203 : 1 ≤ iv a0 11 ∧ iv a0 11 ≤ 100 := hW.int t_a0 11
      have ri204 : 1 ≤ iv a0 12 ∧ iv a0 12 ≤ 50 := hW.int t_a0 12
      have ri205 : (-2147483648) ≤ iv a0 13 ∧ iv a0 13 ≤ 2147483647 := hW.int t_a0 13
      have ri206 : (-2147483648) ≤ iv a0 14 ∧ iv a0 14 ≤ 2147483647 := hW.int t_a0 14
      have ri207 : (-2147483648) ≤ iv a0 15 ∧ iv a0 15 ≤ 2147483647 := hW.int t_a0 15
      have ri208 : (-2147483648) ≤ iv a0 16 ∧ iv a0 16 ≤ 2147483647 := hW.int t_a0 16
      have F15 := hF0.call hX0 fl19 rfl
      have mr15 := MRK.call hmr hW hS XT.refl fl19 rfl rfl
      refine c_st (st2 := [.int (iI f19)]) rfl ?_
      have gk11f19 : ivh19 a0 11 = iv a0 11 := kp11f19
      have gk12f19 : ivh19 a0 12 = iv a0 12 := kp12f19
      have gk13f19 : ivh19 a0 13 = iv a0 13 := kp13f19
      have gk14f19 : ivh19 a0 14 = iv a0 14 := kp14f19
      have gk15f19 : ivh19 a0 15 = iv a0 15 := kp15f19
      have gk16f19 : ivh19 a0 16 = iv a0 16 := kp16f19
      have gf19 : f19 = -1 := exf19
      have ri209 : 1 ≤ ivh19 a0 11 ∧ ivh19 a0 11 ≤ 100 := W19.int t_a0 11
      have ri210 : 1 ≤ ivh19 a0 12 ∧ ivh19 a0 12 ≤ 50 := W19.int t_a0 12
      have ri211 : (-2147483648) ≤ ivh19 a0 13 ∧ ivh19 a0 13 ≤ 2147483647 := W19.int t_a0 13
      have ri212 : (-2147483648) ≤ ivh19 a0 14 ∧ ivh19 a0 14 ≤ 2147483647 := W19.int t_a0 14
      have ri213 : (-2147483648) ≤ ivh19 a0 15 ∧ ivh19 a0 15 ≤ 2147483647 := W19.int t_a0 15
      have ri214 : (-2147483648) ≤ ivh19 a0 16 ∧ ivh19 a0 16 ≤ 2147483647 := W19.int t_a0 16
      exact c_iret C dX11_saved_33 rfl (by decide) (rom0 hph hph (by decide)) ⟨f19, rfl, rfl, rfl, rfl, rfl, F15, W19, ⟨by omega, by omega⟩, trivial, (by omega), (by omega), (by omega), (by omega), (by omega), (by omega), (SVX.n1 (Or.inr gf2) (by omega))⟩
