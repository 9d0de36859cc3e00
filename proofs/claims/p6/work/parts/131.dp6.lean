set_option maxHeartbeats 4000000 in
set_option maxRecDepth 100000 in
theorem C_unreadable {l : Launch} {G : GT} {mi : Nat} {sk : Nat → Nat} {L : List Nat} {cl ln : Nat → Nat} {iv : Nat → Nat → Int} {rv : Nat → Nat → Option Nat}  {a0 : Nat} {i : Int} {n : Int} {lim : Int} (hW : WT (g0 G) sk L cl ln iv rv) (hS : SKL sk L cl) (t_a0 : ty L cl a0 1) (h_i : -2147483648 ≤ i ∧ i ≤ 2147483647) (h_n : -2147483648 ≤ n ∧ n ≤ 2147483647) (h_lim : -2147483648 ≤ lim ∧ lim ≤ 2147483647) (hmr : MRK sk cl iv rv) : Mc l G mi (Phi (g0 G) sk) PHM yX11_unreadable cX11_unreadable 7 (some .int) 10 [.ref a0, .int (iI i), .int (iI n), .int (iI lim)] L cl ln iv rv 0 (fun v L2 cl2 ln2 iv2 rv2 => ∃ f : Int, v = some (.int (iI f)) ∧ XT L cl ln L2 cl2 ln2 ∧ fT [1, 4, 34, 14, 56, 57, 58, 15, 50, 51, 52, 53, 54, 55, 8, 38, 9, 39, 16, 10, 40, 24, 1002, 25, 1003, 6, 36, 7, 37] L cl iv rv iv2 rv2 ∧ WT (g0 G) sk L2 cl2 ln2 iv2 rv2 ∧ (-2147483648 ≤ f ∧ f ≤ 2147483647) ∧ (True) ∧ iv2 a0 11 = iv a0 11 ∧ iv2 a0 12 = iv a0 12 ∧ iv2 a0 13 = iv a0 13 ∧ iv2 a0 14 = iv a0 14 ∧ iv2 a0 15 = iv a0 15 ∧ iv2 a0 16 = iv a0 16 ∧ rv2 a0 9 = rv a0 9 ∧ rv2 a0 10 = rv a0 10) := by
  refine Mc.mk (by decide) (Nat.le_of_ble_eq_true rfl) ?_
  intro p e s m args below meth c A C hM
  have hph := Phi.le hW hS
  have tsk2 : ty L cl (sk 2) 2 := ⟨(hS 2 rfl).1, by rw [(hS 2 rfl).2]; rfl⟩
  have tsk3 : ty L cl (sk 3) 3 := ⟨(hS 3 rfl).1, by rw [(hS 3 rfl).2]; rfl⟩
  have tsk4 : ty L cl (sk 4) 4 := ⟨(hS 4 rfl).1, by rw [(hS 4 rfl).2]; rfl⟩
  have tsk5 : ty L cl (sk 5) 5 := ⟨(hS 5 rfl).1, by rw [(hS 5 rfl).2]; rfl⟩
  have tsk6 : ty L cl (sk 6) 6 := ⟨(hS 6 rfl).1, by rw [(hS 6 rfl).2]; rfl⟩
  have tsk7 : ty L cl (sk 7) 7 := ⟨(hS 7 rfl).1, by rw [(hS 7 rfl).2]; rfl⟩
  have tsk8 : ty L cl (sk 8) 8 := ⟨(hS 8 rfl).1, by rw [(hS 8 rfl).2]; rfl⟩
  have tsk9 : ty L cl (sk 9) 9 := ⟨(hS 9 rfl).1, by rw [(hS 9 rfl).2]; rfl⟩
  have tsk10 : ty L cl (sk 10) 10 := ⟨(hS 10 rfl).1, by rw [(hS 10 rfl).2]; rfl⟩
  have tsk13 : ty L cl (sk 13) 13 := ⟨(hS 13 rfl).1, by rw [(hS 13 rfl).2]; rfl⟩
  have tsk14 : ty L cl (sk 14) 14 := ⟨(hS 14 rfl).1, by rw [(hS 14 rfl).2]; rfl⟩
  have tsk15 : ty L cl (sk 15) 15 := ⟨(hS 15 rfl).1, by rw [(hS 15 rfl).2]; rfl⟩
  have tsk16 : ty L cl (sk 16) 16 := ⟨(hS 16 rfl).1, by rw [(hS 16 rfl).2]; rfl⟩
  have tsk17 : ty L cl (sk 17) 17 := ⟨(hS 17 rfl).1, by rw [(hS 17 rfl).2]; rfl⟩
  have tsk22 : ty L cl (sk 22) 22 := ⟨(hS 22 rfl).1, by rw [(hS 22 rfl).2]; rfl⟩
  have tsk23 : ty L cl (sk 23) 23 := ⟨(hS 23 rfl).1, by rw [(hS 23 rfl).2]; rfl⟩
  have tsk24 : ty L cl (sk 24) 24 := ⟨(hS 24 rfl).1, by rw [(hS 24 rfl).2]; rfl⟩
  have tsk25 : ty L cl (sk 25) 25 := ⟨(hS 25 rfl).1, by rw [(hS 25 rfl).2]; rfl⟩
  have hX0 : XT L cl ln L cl ln := XT.refl
  have hF0 : fT [1, 4, 34, 14, 56, 57, 58, 15, 50, 51, 52, 53, 54, 55, 8, 38, 9, 39, 16, 10, 40, 24, 1002, 25, 1003, 6, 36, 7, 37] L cl iv rv iv rv := fT.refl
  refine c_iload_n (j := 2) C dX11_unreadable_0 rfl ?_
  refine c_iconst C dX11_unreadable_1 ?_
  refine c_icmp_lt (tgt := 23) C ⟨by omega, by omega⟩ ⟨by decide, by decide⟩ dX11_unreadable_2 (by decide) (fun c1 => ?_) (fun c1 => ?_)
  · refine c_aload_n (j := 0) (x := a0) C dX11_unreadable_23 rfl ?_
    refine c_bipush (z := 6) C dX11_unreadable_24 (by decide) ?_
    refine d_callV (As := [.int (iI 6)]) (rest := []) C hM (C_refuse (a0 := a0) (x := 6) hW hS t_a0 ⟨by decide, by decide⟩ ) dX11_unreadable_26 kV_X11_102 rfl t_a0 rfl rfl (by decide) ck_12 rfl (Nat.le_of_ble_eq_true rfl) ⟨(Nat.le_of_ble_eq_true rfl), (Nat.le_of_ble_eq_true rfl)⟩ hph hph (show 0 + 0 = 0 from rfl) (by decide) (fun rh1 Lh1 clh1 lnh1 ivh1 rvh1 h1 => ?_)
    obtain ⟨f1, rfl, rfl, rfl, rfl, rfl, fl1, W1, rgf1, exf1, kp11f1, kp12f1, kp13f1, kp14f1, kp15f1, kp16f1⟩ := h1
    have ri1 : 1 ≤ iv a0 11 ∧ iv a0 11 ≤ 100 := hW.int t_a0 11
    have ri2 : 1 ≤ iv a0 12 ∧ iv a0 12 ≤ 50 := hW.int t_a0 12
    have ri3 : (-2147483648) ≤ iv a0 13 ∧ iv a0 13 ≤ 2147483647 := hW.int t_a0 13
    have ri4 : (-2147483648) ≤ iv a0 14 ∧ iv a0 14 ≤ 2147483647 := hW.int t_a0 14
    have ri5 : (-2147483648) ≤ iv a0 15 ∧ iv a0 15 ≤ 2147483647 := hW.int t_a0 15
    have ri6 : (-2147483648) ≤ iv a0 16 ∧ iv a0 16 ≤ 2147483647 := hW.int t_a0 16
    have F1 := hF0.call hX0 fl1 rfl
    have mr1 := MRK.call hmr hW hS XT.refl fl1 rfl rfl
    refine c_st (st2 := [.int (iI f1)]) rfl ?_
    have gk11f1 : ivh1 a0 11 = iv a0 11 := kp11f1
    have gk12f1 : ivh1 a0 12 = iv a0 12 := kp12f1
    have gk13f1 : ivh1 a0 13 = iv a0 13 := kp13f1
    have gk14f1 : ivh1 a0 14 = iv a0 14 := kp14f1
    have gk15f1 : ivh1 a0 15 = iv a0 15 := kp15f1
    have gk16f1 : ivh1 a0 16 = iv a0 16 := kp16f1
    have gf1 : f1 = -1 := exf1
    have ri7 : 1 ≤ ivh1 a0 11 ∧ ivh1 a0 11 ≤ 100 := W1.int t_a0 11
    have ri8 : 1 ≤ ivh1 a0 12 ∧ ivh1 a0 12 ≤ 50 := W1.int t_a0 12
    have ri9 : (-2147483648) ≤ ivh1 a0 13 ∧ ivh1 a0 13 ≤ 2147483647 := W1.int t_a0 13
    have ri10 : (-2147483648) ≤ ivh1 a0 14 ∧ ivh1 a0 14 ≤ 2147483647 := W1.int t_a0 14
    have ri11 : (-2147483648) ≤ ivh1 a0 15 ∧ ivh1 a0 15 ≤ 2147483647 := W1.int t_a0 15
    have ri12 : (-2147483648) ≤ ivh1 a0 16 ∧ ivh1 a0 16 ≤ 2147483647 := W1.int t_a0 16
    exact c_iret C dX11_unreadable_29 rfl (by decide) (rom0 hph hph (by decide)) ⟨f1, rfl, hX0, F1, W1, ⟨by omega, by omega⟩, trivial, (by omega), (by omega), (by omega), (by omega), (by omega), (by omega), rfl, rfl⟩
  · refine c_iload_n (j := 2) C dX11_unreadable_5 rfl ?_
    refine c_bipush (z := 6) C dX11_unreadable_6 (by decide) ?_
    refine c_icmp_gt (tgt := 23) C ⟨by omega, by omega⟩ ⟨by decide, by decide⟩ dX11_unreadable_8 (by decide) (fun c2 => ?_) (fun c2 => ?_)
    · refine c_aload_n (j := 0) (x := a0) C dX11_unreadable_23 rfl ?_
      refine c_bipush (z := 6) C dX11_unreadable_24 (by decide) ?_
      refine d_callV (As := [.int (iI 6)]) (rest := []) C hM (C_refuse (a0 := a0) (x := 6) hW hS t_a0 ⟨by decide, by decide⟩ ) dX11_unreadable_26 kV_X11_102 rfl t_a0 rfl rfl (by decide) ck_12 rfl (Nat.le_of_ble_eq_true rfl) ⟨(Nat.le_of_ble_eq_true rfl), (Nat.le_of_ble_eq_true rfl)⟩ hph hph (show 0 + 0 = 0 from rfl) (by decide) (fun rh2 Lh2 clh2 lnh2 ivh2 rvh2 h2 => ?_)
      obtain ⟨f2, rfl, rfl, rfl, rfl, rfl, fl2, W2, rgf2, exf2, kp11f2, kp12f2, kp13f2, kp14f2, kp15f2, kp16f2⟩ := h2
      have ri13 : 1 ≤ iv a0 11 ∧ iv a0 11 ≤ 100 := hW.int t_a0 11
      have ri14 : 1 ≤ iv a0 12 ∧ iv a0 12 ≤ 50 := hW.int t_a0 12
      have ri15 : (-2147483648) ≤ iv a0 13 ∧ iv a0 13 ≤ 2147483647 := hW.int t_a0 13
      have ri16 : (-2147483648) ≤ iv a0 14 ∧ iv a0 14 ≤ 2147483647 := hW.int t_a0 14
      have ri17 : (-2147483648) ≤ iv a0 15 ∧ iv a0 15 ≤ 2147483647 := hW.int t_a0 15
      have ri18 : (-2147483648) ≤ iv a0 16 ∧ iv a0 16 ≤ 2147483647 := hW.int t_a0 16
      have F2 := hF0.call hX0 fl2 rfl
      have mr2 := MRK.call hmr hW hS XT.refl fl2 rfl rfl
      refine c_st (st2 := [.int (iI f2)]) rfl ?_
      have gk11f2 : ivh2 a0 11 = iv a0 11 := kp11f2
      have gk12f2 : ivh2 a0 12 = iv a0 12 := kp12f2
      have gk13f2 : ivh2 a0 13 = iv a0 13 := kp13f2
      have gk14f2 : ivh2 a0 14 = iv a0 14 := kp14f2
      have gk15f2 : ivh2 a0 15 = iv a0 15 := kp15f2
      have gk16f2 : ivh2 a0 16 = iv a0 16 := kp16f2
      have gf2 : f2 = -1 := exf2
      have ri19 : 1 ≤ ivh2 a0 11 ∧ ivh2 a0 11 ≤ 100 := W2.int t_a0 11
      have ri20 : 1 ≤ ivh2 a0 12 ∧ ivh2 a0 12 ≤ 50 := W2.int t_a0 12
      have ri21 : (-2147483648) ≤ ivh2 a0 13 ∧ ivh2 a0 13 ≤ 2147483647 := W2.int t_a0 13
      have ri22 : (-2147483648) ≤ ivh2 a0 14 ∧ ivh2 a0 14 ≤ 2147483647 := W2.int t_a0 14
      have ri23 : (-2147483648) ≤ ivh2 a0 15 ∧ ivh2 a0 15 ≤ 2147483647 := W2.int t_a0 15
      have ri24 : (-2147483648) ≤ ivh2 a0 16 ∧ ivh2 a0 16 ≤ 2147483647 := W2.int t_a0 16
      exact c_iret C dX11_unreadable_29 rfl (by decide) (rom0 hph hph (by decide)) ⟨f2, rfl, hX0, F2, W2, ⟨by omega, by omega⟩, trivial, (by omega), (by omega), (by omega), (by omega), (by omega), (by omega), rfl, rfl⟩
    · refine c_iload_n (j := 3) C dX11_unreadable_11 rfl ?_
      refine c_iconst C dX11_unreadable_12 ?_
      refine c_icmp_lt (tgt := 23) C ⟨by omega, by omega⟩ ⟨by decide, by decide⟩ dX11_unreadable_13 (by decide) (fun c3 => ?_) (fun c3 => ?_)
      · refine c_aload_n (j := 0) (x := a0) C dX11_unreadable_23 rfl ?_
        refine c_bipush (z := 6) C dX11_unreadable_24 (by decide) ?_
        refine d_callV (As := [.int (iI 6)]) (rest := []) C hM (C_refuse (a0 := a0) (x := 6) hW hS t_a0 ⟨by decide, by decide⟩ ) dX11_unreadable_26 kV_X11_102 rfl t_a0 rfl rfl (by decide) ck_12 rfl (Nat.le_of_ble_eq_true rfl) ⟨(Nat.le_of_ble_eq_true rfl), (Nat.le_of_ble_eq_true rfl)⟩ hph hph (show 0 + 0 = 0 from rfl) (by decide) (fun rh3 Lh3 clh3 lnh3 ivh3 rvh3 h3 => ?_)
        obtain ⟨f3, rfl, rfl, rfl, rfl, rfl, fl3, W3, rgf3, exf3, kp11f3, kp12f3, kp13f3, kp14f3, kp15f3, kp16f3⟩ := h3
        have ri25 : 1 ≤ iv a0 11 ∧ iv a0 11 ≤ 100 := hW.int t_a0 11
        have ri26 : 1 ≤ iv a0 12 ∧ iv a0 12 ≤ 50 := hW.int t_a0 12
        have ri27 : (-2147483648) ≤ iv a0 13 ∧ iv a0 13 ≤ 2147483647 := hW.int t_a0 13
        have ri28 : (-2147483648) ≤ iv a0 14 ∧ iv a0 14 ≤ 2147483647 := hW.int t_a0 14
        have ri29 : (-2147483648) ≤ iv a0 15 ∧ iv a0 15 ≤ 2147483647 := hW.int t_a0 15
        have ri30 : (-2147483648) ≤ iv a0 16 ∧ iv a0 16 ≤ 2147483647 := hW.int t_a0 16
        have F3 := hF0.call hX0 fl3 rfl
        have mr3 := MRK.call hmr hW hS XT.refl fl3 rfl rfl
        refine c_st (st2 := [.int (iI f3)]) rfl ?_
        have gk11f3 : ivh3 a0 11 = iv a0 11 := kp11f3
        have gk12f3 : ivh3 a0 12 = iv a0 12 := kp12f3
        have gk13f3 : ivh3 a0 13 = iv a0 13 := kp13f3
        have gk14f3 : ivh3 a0 14 = iv a0 14 := kp14f3
        have gk15f3 : ivh3 a0 15 = iv a0 15 := kp15f3
        have gk16f3 : ivh3 a0 16 = iv a0 16 := kp16f3
        have gf3 : f3 = -1 := exf3
        have ri31 : 1 ≤ ivh3 a0 11 ∧ ivh3 a0 11 ≤ 100 := W3.int t_a0 11
        have ri32 : 1 ≤ ivh3 a0 12 ∧ ivh3 a0 12 ≤ 50 := W3.int t_a0 12
        have ri33 : (-2147483648) ≤ ivh3 a0 13 ∧ ivh3 a0 13 ≤ 2147483647 := W3.int t_a0 13
        have ri34 : (-2147483648) ≤ ivh3 a0 14 ∧ ivh3 a0 14 ≤ 2147483647 := W3.int t_a0 14
        have ri35 : (-2147483648) ≤ ivh3 a0 15 ∧ ivh3 a0 15 ≤ 2147483647 := W3.int t_a0 15
        have ri36 : (-2147483648) ≤ ivh3 a0 16 ∧ ivh3 a0 16 ≤ 2147483647 := W3.int t_a0 16
        exact c_iret C dX11_unreadable_29 rfl (by decide) (rom0 hph hph (by decide)) ⟨f3, rfl, hX0, F3, W3, ⟨by omega, by omega⟩, trivial, (by omega), (by omega), (by omega), (by omega), (by omega), (by omega), rfl, rfl⟩
      · refine c_iload_n (j := 3) C dX11_unreadable_16 rfl ?_
        refine c_sipush (z := 5000) C dX11_unreadable_17 (by decide) ?_
        refine c_icmp_le (tgt := 30) C ⟨by omega, by omega⟩ ⟨by decide, by decide⟩ dX11_unreadable_20 (by decide) (fun c4 => ?_) (fun c4 => ?_)
        · refine c_aload_n (j := 0) (x := a0) C dX11_unreadable_30 rfl ?_
          obtain ⟨rb1, rq1, trb1⟩ := hW.ref t_a0 4 rfl rfl rfl
          have erb1 := hW.sk trb1 (by decide) rfl
          subst erb1
          refine c_getr (k := 4) C ck_12 dX11_unreadable_31 w2_48 (by decide) t_a0 rfl rfl (by decide) rfl rq1 ?_
          refine c_st (st2 := [.ref (sk 13)]) rfl ?_
          refine c_iload_n (j := 1) C dX11_unreadable_34 rfl ?_
          refine d_callV (As := [.int (iI i)]) (rest := []) C hM (C_whole (a0 := (sk 13)) (i := i) hW hS tsk13 (by omega) hmr) dX11_unreadable_35 kV_X11_231 rfl tsk13 rfl rfl (by decide) ck_11 rfl (Nat.le_of_ble_eq_true rfl) ⟨(Nat.le_of_ble_eq_true rfl), (Nat.le_of_ble_eq_true rfl)⟩ hph hph (show 0 + 0 = 0 from rfl) (by decide) (fun rh4 Lh4 clh4 lnh4 ivh4 rvh4 h4 => ?_)
          obtain ⟨f4, rfl, rfl, rfl, rfl, rfl, rfl, rgf4, exf4⟩ := h4
          refine c_st (st2 := [(va_rf f4)]) rfl ?_
          refine c_astorer (r := f4) (lv2 := [(4, (va_rf f4)), (0, .ref a0), (1, .int (iI i)), (2, .int (iI n)), (3, .int (iI lim))]) C dX11_unreadable_38 (by decide) rfl ?_
          refine c_aloadr (j := 0) (r := f4) C dX11_unreadable_40 rfl ?_
          refine c_ifnonnull (r := f4) (tgt := 51) C dX11_unreadable_42 (by decide) (fun ob1 oq1 => ?_) (fun oq1 => ?_)
          · subst oq1
            have tob1 := rgf4 ob1 rfl
            refine c_lv (lv2 := [(4, .ref ob1), (0, .ref a0), (1, .int (iI i)), (2, .int (iI n)), (3, .int (iI lim))]) [0, 1, 2, 3, 4] rfl ?_
            refine c_st (st2 := []) rfl ?_
            refine c_aload_n (j := 1) (x := a0) C dX11_unreadable_51 rfl ?_
            obtain ⟨rb2, rq2, trb2⟩ := hW.ref t_a0 7 rfl rfl rfl
            have erb2 := hW.sk trb2 (by decide) rfl
            subst erb2
            refine c_getr (k := 7) C ck_12 dX11_unreadable_52 w2_51 (by decide) t_a0 rfl rfl (by decide) rfl rq2 ?_
            refine c_st (st2 := [.ref (sk 16)]) rfl ?_
            refine c_aload (j := 0) (x := ob1) C dX11_unreadable_55 rfl ?_
            refine d_callV (As := [.ref ob1]) (rest := []) C hM (C_gather (a0 := (sk 16)) (a1 := ob1) hW hS tsk16 tob1  ) dX11_unreadable_57 kV_X11_331 rfl tsk16 rfl rfl (by decide) ck_4 rfl (Nat.le_of_ble_eq_true rfl) ⟨(Nat.le_of_ble_eq_true rfl), (Nat.le_of_ble_eq_true rfl)⟩ hph hph (show 0 + 0 = 0 from rfl) (by decide) (fun rh5 Lh5 clh5 lnh5 ivh5 rvh5 h5 => ?_)
            obtain ⟨rfl, xl5, fl5, W5, exf5⟩ := h5
            have F4 := hF0.call hX0 fl5 rfl
            have mr4 := MRK.call hmr hW hS xl5 fl5 rfl rfl
            have X1 := hX0.trans xl5
            have sk1 := xl5.skl hS
            refine c_st (st2 := []) rfl ?_
            refine c_aload_n (j := 1) (x := a0) C dX11_unreadable_60 rfl ?_
            have ty1 := xl5.ty t_a0
            obtain ⟨rb3, rq3, trb3⟩ := W5.ref ty1 5 rfl rfl rfl
            have erb3 := W5.sk trb3 (by decide) rfl
            subst erb3
            refine c_getr (k := 5) C ck_12 dX11_unreadable_61 w2_49 (by decide) ty1 rfl rfl (by decide) rfl rq3 ?_
            refine c_st (st2 := [.ref (sk 14)]) rfl ?_
            refine c_aload_n (j := 1) (x := a0) C dX11_unreadable_64 rfl ?_
            have re1 : rvh5 a0 7 = rv a0 7 := (fl5.r t_a0 rfl 7)
            rw [rq2] at re1
            refine c_getr (k := 7) C ck_12 dX11_unreadable_65 w2_51 (by decide) ty1 rfl rfl (by decide) rfl re1 ?_
            refine c_st (st2 := [.ref (sk 16), .ref (sk 14)]) rfl ?_
            refine c_aload (j := 0) (x := ob1) C dX11_unreadable_68 rfl ?_
            have ty2 := xl5.ty tob1
            have ri37 : (-2147483648) ≤ ivh5 ob1 0 ∧ ivh5 ob1 0 ≤ 2147483647 := W5.int ty2 0
            have ie19 : ivh5 ob1 0 = iv ob1 0 := fl5.i tob1 rfl 0
            refine c_get (k := 0) C ck_10 dX11_unreadable_70 w2_176 (by decide) ty2 rfl rfl (by decide) rfl ?_
            refine c_iconst C dX11_unreadable_73 ?_
            refine c_icmp_ne (tgt := 81) C ⟨by omega, by omega⟩ ⟨by decide, by decide⟩ dX11_unreadable_74 (by decide) (fun c5 => ?_) (fun c5 => ?_)
            · refine c_iconst C dX11_unreadable_81 ?_
              have ty3 := xl5.ty tsk14
              have ty4 := xl5.ty tsk16
              have ri38 : 0 ≤ ivh5 (sk 14) 7 ∧ ivh5 (sk 14) 7 ≤ 6 := W5.int ty3 7
              have ie20 : ivh5 (sk 14) 7 = iv (sk 14) 7 := fl5.i tsk14 rfl 7
              have pl1 := Phi.le W5 sk1
              refine d_callV (As := [.ref (sk 16), .int (iI 0)]) (rest := []) C hM (C_gatherAlphabet (a0 := (sk 14)) (a1 := (sk 16)) (g := 0) W5 sk1 ty3 ty4 ⟨by decide, by decide⟩ ) dX11_unreadable_82 kV_X11_385 rfl ty3 rfl rfl (by decide) ck_9 rfl (Nat.le_of_ble_eq_true rfl) ⟨(Nat.le_of_ble_eq_true rfl), (Nat.le_of_ble_eq_true rfl)⟩ hph pl1 (show 0 + 0 = 0 from rfl) (by decide) (fun rh6 Lh6 clh6 lnh6 ivh6 rvh6 h6 => ?_)
              obtain ⟨rfl, rfl, rfl, rfl, rfl, fl6, W6, exf6⟩ := h6
              have F5 := F4.call X1 fl6 rfl
              have mr5 := MRK.call mr4 W5 sk1 XT.refl fl6 rfl rfl
              refine c_st (st2 := []) rfl ?_
              have ri39 : 0 ≤ ivh6 (sk 14) 7 ∧ ivh6 (sk 14) 7 ≤ 6 := W6.int ty3 7
              have gf6 : ivh6 (sk 14) 7 = ivh5 (sk 14) 7 := exf6
              refine c_aload_n (j := 1) (x := a0) C dX11_unreadable_85 rfl ?_
              refine c_getr (k := 5) C ck_12 dX11_unreadable_86 w2_49 (by decide) ty1 rfl rfl (by decide) rfl rq3 ?_
              refine c_st (st2 := [.ref (sk 14)]) rfl ?_
              refine c_iload_n (j := 3) C dX11_unreadable_89 rfl ?_
              refine d_callV (As := [.int (iI n)]) (rest := []) C hM (C_startSpelling (a0 := (sk 14)) (n := n) W6 sk1 ty3 (by omega) ) dX11_unreadable_90 kV_X11_389 rfl ty3 rfl rfl (by decide) ck_9 rfl (Nat.le_of_ble_eq_true rfl) ⟨(Nat.le_of_ble_eq_true rfl), (Nat.le_of_ble_eq_true rfl)⟩ hph pl1 (show 0 + 0 = 0 from rfl) (by decide) (fun rh7 Lh7 clh7 lnh7 ivh7 rvh7 h7 => ?_)
              obtain ⟨f7, rfl, rfl, rfl, rfl, rfl, fl7, W7, rgf7, exf7⟩ := h7
              have F6 := F5.call X1 fl7 rfl
              have mr6 := MRK.call mr5 W6 sk1 XT.refl fl7 rfl rfl
              refine c_st (st2 := [.int (iI f7)]) rfl ?_
              refine c_istore (lv2 := [(5, .int (iI f7)), (4, .ref ob1), (0, .ref a0), (1, .int (iI i)), (2, .int (iI n)), (3, .int (iI lim))]) C dX11_unreadable_93 (by decide) rfl ?_
              refine c_iconst C dX11_unreadable_95 ?_
              refine c_istore (lv2 := [(6, .int (iI 0)), (5, .int (iI f7)), (4, .ref ob1), (0, .ref a0), (1, .int (iI i)), (2, .int (iI n)), (3, .int (iI lim))]) C dX11_unreadable_96 (by decide) rfl ?_
              have Lp1 : ∀ (nn : Nat) (ok k : Int) (Lb1 : List Nat) (clb1 lnb1 : Nat → Nat) (ivb1 : Nat → Nat → Int) (rvb1 : Nat → Nat → Option Nat) , 5002 - k < (nn : Int) → XT L cl ln Lb1 clb1 lnb1 → WT (g0 G) sk Lb1 clb1 lnb1 ivb1 rvb1 → fT [1, 4, 34, 14, 56, 57, 58, 15, 50, 51, 52, 53, 54, 55, 8, 38, 9, 39, 16, 10, 40, 24, 1002, 25, 1003, 6, 36, 7, 37] L cl iv rv ivb1 rvb1 → (ok = 0 ∨ ok = 1) → (0 ≤ k ∧ k ≤ 5001) → (ivb1 a0 11 = iv a0 11) → (ivb1 a0 12 = iv a0 12) → (ivb1 a0 13 = iv a0 13) → (ivb1 a0 14 = iv a0 14) → (ivb1 a0 15 = iv a0 15) → (ivb1 a0 16 = iv a0 16) → (rvb1 a0 9 = rv a0 9) → (rvb1 a0 10 = rv a0 10) → cw p l e 10 ((PHM) + 0 - ((Phi (g0 G) sk) ln rv)) s m args below meth c G A 7 (MQ below (Qu G A (Qp G (Phi (g0 G) sk) ((Phi (g0 G) sk) ln rv) 0 (fun v L2 cl2 ln2 iv2 rv2 => ∃ f : Int, v = some (.int (iI f)) ∧ XT L cl ln L2 cl2 ln2 ∧ fT [1, 4, 34, 14, 56, 57, 58, 15, 50, 51, 52, 53, 54, 55, 8, 38, 9, 39, 16, 10, 40, 24, 1002, 25, 1003, 6, 36, 7, 37] L cl iv rv iv2 rv2 ∧ WT (g0 G) sk L2 cl2 ln2 iv2 rv2 ∧ (-2147483648 ≤ f ∧ f ≤ 2147483647) ∧ (True) ∧ iv2 a0 11 = iv a0 11 ∧ iv2 a0 12 = iv a0 12 ∧ iv2 a0 13 = iv a0 13 ∧ iv2 a0 14 = iv a0 14 ∧ iv2 a0 15 = iv a0 15 ∧ iv2 a0 16 = iv a0 16 ∧ rv2 a0 9 = rv a0 9 ∧ rv2 a0 10 = rv a0 10))) args s (((PHM) + 0 - ((Phi (g0 G) sk) ln rv)) / 16) ((PHM) + 0 - ((Phi (g0 G) sk) ln rv)) A) (Phi (g0 G) sk) ((Phi (g0 G) sk) ln rv) Lb1 clb1 lnb1 ivb1 rvb1 0 98 [(5, .int (iI ok)), (6, .int (iI k)), (4, .ref ob1), (0, .ref a0), (1, .int (iI i)), (2, .int (iI n)), (3, .int (iI lim))] [] := by
                intro nn
                induction nn with
                | zero =>
                  intro  ok k Lb1 clb1 lnb1 ivb1 rvb1 hm Xb1 Wb1 Fb1  hok hk hkp11 hkp12 hkp13 hkp14 hkp15 hkp16 hkr9 hkr10
                  have skb1 := Xb1.skl hS
                  exact absurd hm (by omega)
                | succ nn ih1 =>
                  intro  ok k Lb1 clb1 lnb1 ivb1 rvb1 hm Xb1 Wb1 Fb1  hok hk hkp11 hkp12 hkp13 hkp14 hkp15 hkp16 hkr9 hkr10
                  have skb1 := Xb1.skl hS
                  have mrb1 := MRK.call hmr hW hS Xb1 Fb1 rfl rfl
                  refine c_iload (j := 0) C dX11_unreadable_98 rfl ?_
                  refine c_if_eq (tgt := 200) C ⟨by omega, by omega⟩ dX11_unreadable_100 (by decide) (fun c6 => ?_) (fun c6 => ?_)
                  · refine c_aload_n (j := 3) (x := a0) C dX11_unreadable_200 rfl ?_
                    refine c_iconst C dX11_unreadable_201 ?_
                    have ty5 := Xb1.ty t_a0
                    have pl2 := Phi.le Wb1 skb1
                    refine d_callV (As := [.int (iI 0)]) (rest := []) C hM (C_done (a0 := a0) (x := 0) Wb1 skb1 ty5 ⟨by decide, by decide⟩ ) dX11_unreadable_202 kV_X11_109 rfl ty5 rfl rfl (by decide) ck_12 rfl (Nat.le_of_ble_eq_true rfl) ⟨(Nat.le_of_ble_eq_true rfl), (Nat.le_of_ble_eq_true rfl)⟩ hph pl2 (show 0 + 0 = 0 from rfl) (by decide) (fun rh8 Lh8 clh8 lnh8 ivh8 rvh8 h8 => ?_)
                    obtain ⟨f8, rfl, rfl, rfl, rfl, rfl, fl8, W8, rgf8, exf8, kp11f8, kp12f8, kp13f8, kp14f8, kp15f8, kp16f8⟩ := h8
                    have ri40 : 1 ≤ ivb1 a0 11 ∧ ivb1 a0 11 ≤ 100 := Wb1.int ty5 11
                    have ri41 : 1 ≤ ivb1 a0 12 ∧ ivb1 a0 12 ≤ 50 := Wb1.int ty5 12
                    have ri42 : (-2147483648) ≤ ivb1 a0 13 ∧ ivb1 a0 13 ≤ 2147483647 := Wb1.int ty5 13
                    have ri43 : (-2147483648) ≤ ivb1 a0 14 ∧ ivb1 a0 14 ≤ 2147483647 := Wb1.int ty5 14
                    have ri44 : (-2147483648) ≤ ivb1 a0 15 ∧ ivb1 a0 15 ≤ 2147483647 := Wb1.int ty5 15
                    have ri45 : (-2147483648) ≤ ivb1 a0 16 ∧ ivb1 a0 16 ≤ 2147483647 := Wb1.int ty5 16
                    have F7 := Fb1.call Xb1 fl8 rfl
                    have mr7 := MRK.call mrb1 Wb1 skb1 XT.refl fl8 rfl rfl
                    refine c_st (st2 := [.int (iI f8)]) rfl ?_
                    have gk11f8 : ivh8 a0 11 = ivb1 a0 11 := kp11f8
                    have gk12f8 : ivh8 a0 12 = ivb1 a0 12 := kp12f8
                    have gk13f8 : ivh8 a0 13 = ivb1 a0 13 := kp13f8
                    have gk14f8 : ivh8 a0 14 = ivb1 a0 14 := kp14f8
                    have gk15f8 : ivh8 a0 15 = ivb1 a0 15 := kp15f8
                    have gk16f8 : ivh8 a0 16 = ivb1 a0 16 := kp16f8
                    have gf8 : f8 = (0 : Int) := exf8
                    have ri46 : 1 ≤ ivh8 a0 11 ∧ ivh8 a0 11 ≤ 100 := W8.int ty5 11
                    have ri47 : 1 ≤ ivh8 a0 12 ∧ ivh8 a0 12 ≤ 50 := W8.int ty5 12
                    have ri48 : (-2147483648) ≤ ivh8 a0 13 ∧ ivh8 a0 13 ≤ 2147483647 := W8.int ty5 13
                    have ri49 : (-2147483648) ≤ ivh8 a0 14 ∧ ivh8 a0 14 ≤ 2147483647 := W8.int ty5 14
                    have ri50 : (-2147483648) ≤ ivh8 a0 15 ∧ ivh8 a0 15 ≤ 2147483647 := W8.int ty5 15
                    have ri51 : (-2147483648) ≤ ivh8 a0 16 ∧ ivh8 a0 16 ≤ 2147483647 := W8.int ty5 16
                    exact c_iret C dX11_unreadable_205 rfl (by decide) (rom0 hph pl2 (by decide)) ⟨f8, rfl, Xb1, F7, W8, ⟨by omega, by omega⟩, trivial, (by omega), (by omega), (by omega), (by omega), (by omega), (by omega), (show rvb1 a0 9 = rv a0 9 from hkr9), (show rvb1 a0 10 = rv a0 10 from hkr10)⟩
                  · refine c_iload (j := 1) C dX11_unreadable_103 rfl ?_
                    refine c_sipush (z := 5000) C dX11_unreadable_105 (by decide) ?_
                    refine c_icmp_gt (tgt := 200) C ⟨by omega, by omega⟩ ⟨by decide, by decide⟩ dX11_unreadable_108 (by decide) (fun c7 => ?_) (fun c7 => ?_)
                    · refine c_aload_n (j := 3) (x := a0) C dX11_unreadable_200 rfl ?_
                      refine c_iconst C dX11_unreadable_201 ?_
                      have ty6 := Xb1.ty t_a0
                      have pl3 := Phi.le Wb1 skb1
                      refine d_callV (As := [.int (iI 0)]) (rest := []) C hM (C_done (a0 := a0) (x := 0) Wb1 skb1 ty6 ⟨by decide, by decide⟩ ) dX11_unreadable_202 kV_X11_109 rfl ty6 rfl rfl (by decide) ck_12 rfl (Nat.le_of_ble_eq_true rfl) ⟨(Nat.le_of_ble_eq_true rfl), (Nat.le_of_ble_eq_true rfl)⟩ hph pl3 (show 0 + 0 = 0 from rfl) (by decide) (fun rh9 Lh9 clh9 lnh9 ivh9 rvh9 h9 => ?_)
                      obtain ⟨f9, rfl, rfl, rfl, rfl, rfl, fl9, W9, rgf9, exf9, kp11f9, kp12f9, kp13f9, kp14f9, kp15f9, kp16f9⟩ := h9
                      have ri52 : 1 ≤ ivb1 a0 11 ∧ ivb1 a0 11 ≤ 100 := Wb1.int ty6 11
                      have ri53 : 1 ≤ ivb1 a0 12 ∧ ivb1 a0 12 ≤ 50 := Wb1.int ty6 12
                      have ri54 : (-2147483648) ≤ ivb1 a0 13 ∧ ivb1 a0 13 ≤ 2147483647 := Wb1.int ty6 13
                      have ri55 : (-2147483648) ≤ ivb1 a0 14 ∧ ivb1 a0 14 ≤ 2147483647 := Wb1.int ty6 14
                      have ri56 : (-2147483648) ≤ ivb1 a0 15 ∧ ivb1 a0 15 ≤ 2147483647 := Wb1.int ty6 15
                      have ri57 : (-2147483648) ≤ ivb1 a0 16 ∧ ivb1 a0 16 ≤ 2147483647 := Wb1.int ty6 16
                      have F8 := Fb1.call Xb1 fl9 rfl
                      have mr8 := MRK.call mrb1 Wb1 skb1 XT.refl fl9 rfl rfl
                      refine c_st (st2 := [.int (iI f9)]) rfl ?_
                      have gk11f9 : ivh9 a0 11 = ivb1 a0 11 := kp11f9
                      have gk12f9 : ivh9 a0 12 = ivb1 a0 12 := kp12f9
                      have gk13f9 : ivh9 a0 13 = ivb1 a0 13 := kp13f9
                      have gk14f9 : ivh9 a0 14 = ivb1 a0 14 := kp14f9
                      have gk15f9 : ivh9 a0 15 = ivb1 a0 15 := kp15f9
                      have gk16f9 : ivh9 a0 16 = ivb1 a0 16 := kp16f9
                      have gf9 : f9 = (0 : Int) := exf9
                      have ri58 : 1 ≤ ivh9 a0 11 ∧ ivh9 a0 11 ≤ 100 := W9.int ty6 11
                      have ri59 : 1 ≤ ivh9 a0 12 ∧ ivh9 a0 12 ≤ 50 := W9.int ty6 12
                      have ri60 : (-2147483648) ≤ ivh9 a0 13 ∧ ivh9 a0 13 ≤ 2147483647 := W9.int ty6 13
                      have ri61 : (-2147483648) ≤ ivh9 a0 14 ∧ ivh9 a0 14 ≤ 2147483647 := W9.int ty6 14
                      have ri62 : (-2147483648) ≤ ivh9 a0 15 ∧ ivh9 a0 15 ≤ 2147483647 := W9.int ty6 15
                      have ri63 : (-2147483648) ≤ ivh9 a0 16 ∧ ivh9 a0 16 ≤ 2147483647 := W9.int ty6 16
                      exact c_iret C dX11_unreadable_205 rfl (by decide) (rom0 hph pl3 (by decide)) ⟨f9, rfl, Xb1, F8, W9, ⟨by omega, by omega⟩, trivial, (by omega), (by omega), (by omega), (by omega), (by omega), (by omega), (show rvb1 a0 9 = rv a0 9 from hkr9), (show rvb1 a0 10 = rv a0 10 from hkr10)⟩
                    · refine c_iload (j := 1) C dX11_unreadable_111 rfl ?_
                      refine c_iload_n (j := 6) C dX11_unreadable_113 rfl ?_
                      refine c_icmp_lt (tgt := 124) C ⟨by omega, by omega⟩ ⟨by omega, by omega⟩ dX11_unreadable_114 (by decide) (fun c8 => ?_) (fun c8 => ?_)
                      · refine c_aload_n (j := 3) (x := a0) C dX11_unreadable_124 rfl ?_
                        have ty7 := Xb1.ty t_a0
                        obtain ⟨rb4, rq4, trb4⟩ := Wb1.ref ty7 5 rfl rfl rfl
                        have erb4 := Wb1.sk trb4 (by decide) rfl
                        subst erb4
                        refine c_getr (k := 5) C ck_12 dX11_unreadable_125 w2_49 (by decide) ty7 rfl rfl (by decide) rfl rq4 ?_
                        refine c_st (st2 := [.ref (sk 14)]) rfl ?_
                        refine c_aload_n (j := 3) (x := a0) C dX11_unreadable_128 rfl ?_
                        obtain ⟨rb5, rq5, trb5⟩ := Wb1.ref ty7 6 rfl rfl rfl
                        have erb5 := Wb1.sk trb5 (by decide) rfl
                        subst erb5
                        refine c_getr (k := 6) C ck_12 dX11_unreadable_129 w2_50 (by decide) ty7 rfl rfl (by decide) rfl rq5 ?_
                        refine c_st (st2 := [.ref (sk 15), .ref (sk 14)]) rfl ?_
                        have ty8 := Xb1.ty tsk14
                        have ty9 := Xb1.ty tsk15
                        have pl4 := Phi.le Wb1 skb1
                        refine d_callV (As := [.ref (sk 15)]) (rest := []) C hM (C_spell (a0 := (sk 14)) (a1 := (sk 15)) Wb1 skb1 ty8 ty9  ) dX11_unreadable_132 kV_X11_392 rfl ty8 rfl rfl (by decide) ck_9 rfl (Nat.le_of_ble_eq_true rfl) ⟨(Nat.le_of_ble_eq_true rfl), (Nat.le_of_ble_eq_true rfl)⟩ hph pl4 (show 0 + 0 = 0 from rfl) (by decide) (fun rh10 Lh10 clh10 lnh10 ivh10 rvh10 h10 => ?_)
                        obtain ⟨rfl, rfl, rfl, rfl, rfl, fl10, W10, exf10⟩ := h10
                        have F9 := Fb1.call Xb1 fl10 rfl
                        have mr9 := MRK.call mrb1 Wb1 skb1 XT.refl fl10 rfl rfl
                        refine c_st (st2 := []) rfl ?_
                        refine c_aload_n (j := 3) (x := a0) C dX11_unreadable_135 rfl ?_
                        refine c_getr (k := 6) C ck_12 dX11_unreadable_136 w2_50 (by decide) ty7 rfl rfl (by decide) rfl rq5 ?_
                        refine c_st (st2 := [.ref (sk 15)]) rfl ?_
                        refine c_aload (j := 2) (x := ob1) C dX11_unreadable_139 rfl ?_
                        have ty10 := Xb1.ty tob1
                        have ri64 : 0 ≤ ivh10 (sk 15) 4 ∧ ivh10 (sk 15) 4 ≤ 500 := W10.int ty9 4
                        refine d_callV (As := [.ref ob1]) (rest := []) C hM (C_setBy (a0 := (sk 15)) (a1 := ob1) W10 skb1 ty9 ty10  ) dX11_unreadable_141 kV_X11_253 rfl ty9 rfl rfl (by decide) ck_7 rfl (Nat.le_of_ble_eq_true rfl) ⟨(Nat.le_of_ble_eq_true rfl), (Nat.le_of_ble_eq_true rfl)⟩ hph pl4 (show 0 + 0 = 0 from rfl) (by decide) (fun rh11 Lh11 clh11 lnh11 ivh11 rvh11 h11 => ?_)
                        obtain ⟨f11, rfl, rfl, rfl, rfl, rfl, fl11, W11, rgf11, exf11⟩ := h11
                        have F10 := F9.call Xb1 fl11 rfl
                        have mr10 := MRK.call mr9 W10 skb1 XT.refl fl11 rfl rfl
                        refine c_st (st2 := [.int (iI f11)]) rfl ?_
                        have ri65 : 0 ≤ ivh11 (sk 15) 4 ∧ ivh11 (sk 15) 4 ≤ 500 := W11.int ty9 4
                        have ri66 : 0 ≤ ivh11 (sk 15) 7 ∧ ivh11 (sk 15) 7 ≤ 100000 := W11.int ty9 7
                        have gf11 : (f11 = 0 ∨ f11 = 6 ∨ f11 = 7) ∧ ivh11 (sk 15) 4 = ivh10 (sk 15) 4 ∧ (f11 = 0 → ivh11 (sk 15) 7 ≤ 200) := exf11
                        refine c_if_ne (tgt := 184) C ⟨by omega, by omega⟩ dX11_unreadable_144 (by decide) (fun c9 => ?_) (fun c9 => ?_)
                        · refine c_aload_n (j := 3) (x := a0) C dX11_unreadable_184 rfl ?_
                          refine c_getr (k := 5) C ck_12 dX11_unreadable_185 w2_49 (by decide) ty7 rfl rfl (by decide) rfl rq4 ?_
                          refine c_st (st2 := [.ref (sk 14)]) rfl ?_
                          refine c_iload_n (j := 5) C dX11_unreadable_188 rfl ?_
                          refine d_callV (As := [.int (iI n)]) (rest := []) C hM (C_spellNext (a0 := (sk 14)) (n := n) W11 skb1 ty8 (by omega) ) dX11_unreadable_189 kV_X11_403 rfl ty8 rfl rfl (by decide) ck_9 rfl (Nat.le_of_ble_eq_true rfl) ⟨(Nat.le_of_ble_eq_true rfl), (Nat.le_of_ble_eq_true rfl)⟩ hph pl4 (show 0 + 0 = 0 from rfl) (by decide) (fun rh12 Lh12 clh12 lnh12 ivh12 rvh12 h12 => ?_)
                          obtain ⟨f12, rfl, rfl, rfl, rfl, rfl, fl12, W12, rgf12, exf12⟩ := h12
                          have F11 := F10.call Xb1 fl12 rfl
                          have mr11 := MRK.call mr10 W11 skb1 XT.refl fl12 rfl rfl
                          refine c_st (st2 := [.int (iI f12)]) rfl ?_
                          refine c_istore (lv2 := [(5, .int (iI f12)), (6, .int (iI k)), (4, .ref ob1), (0, .ref a0), (1, .int (iI i)), (2, .int (iI n)), (3, .int (iI lim))]) C dX11_unreadable_192 (by decide) rfl ?_
                          refine c_iinc (z := k) (j := 1) (lv2 := [(6, .int (iI (k + 1))), (5, .int (iI f12)), (4, .ref ob1), (0, .ref a0), (1, .int (iI i)), (2, .int (iI n)), (3, .int (iI lim))]) C dX11_unreadable_194 rfl (by decide) rfl ?_
                          refine c_goto (tgt := 98) C dX11_unreadable_197 (by decide) ?_
                          have ri67 : 1 ≤ ivh12 a0 11 ∧ ivh12 a0 11 ≤ 100 := W12.int ty7 11
                          have ie49 : ivh12 a0 11 = ivh11 a0 11 := fl12.i ty7 rfl 11
                          have ie50 : ivh11 a0 11 = ivh10 a0 11 := fl11.i ty7 rfl 11
                          have ie51 : ivh10 a0 11 = ivb1 a0 11 := fl10.i ty7 rfl 11
                          have ri68 : 1 ≤ ivh12 a0 12 ∧ ivh12 a0 12 ≤ 50 := W12.int ty7 12
                          have ie53 : ivh12 a0 12 = ivh11 a0 12 := fl12.i ty7 rfl 12
                          have ie54 : ivh11 a0 12 = ivh10 a0 12 := fl11.i ty7 rfl 12
                          have ie55 : ivh10 a0 12 = ivb1 a0 12 := fl10.i ty7 rfl 12
                          have ri69 : (-2147483648) ≤ ivh12 a0 13 ∧ ivh12 a0 13 ≤ 2147483647 := W12.int ty7 13
                          have ie57 : ivh12 a0 13 = ivh11 a0 13 := fl12.i ty7 rfl 13
                          have ie58 : ivh11 a0 13 = ivh10 a0 13 := fl11.i ty7 rfl 13
                          have ie59 : ivh10 a0 13 = ivb1 a0 13 := fl10.i ty7 rfl 13
                          have ri70 : (-2147483648) ≤ ivh12 a0 14 ∧ ivh12 a0 14 ≤ 2147483647 := W12.int ty7 14
                          have ie61 : ivh12 a0 14 = ivh11 a0 14 := fl12.i ty7 rfl 14
                          have ie62 : ivh11 a0 14 = ivh10 a0 14 := fl11.i ty7 rfl 14
                          have ie63 : ivh10 a0 14 = ivb1 a0 14 := fl10.i ty7 rfl 14
                          have ri71 : (-2147483648) ≤ ivh12 a0 15 ∧ ivh12 a0 15 ≤ 2147483647 := W12.int ty7 15
                          have ie65 : ivh12 a0 15 = ivh11 a0 15 := fl12.i ty7 rfl 15
                          have ie66 : ivh11 a0 15 = ivh10 a0 15 := fl11.i ty7 rfl 15
                          have ie67 : ivh10 a0 15 = ivb1 a0 15 := fl10.i ty7 rfl 15
                          have ri72 : (-2147483648) ≤ ivh12 a0 16 ∧ ivh12 a0 16 ≤ 2147483647 := W12.int ty7 16
                          have ie69 : ivh12 a0 16 = ivh11 a0 16 := fl12.i ty7 rfl 16
                          have ie70 : ivh11 a0 16 = ivh10 a0 16 := fl11.i ty7 rfl 16
                          have ie71 : ivh10 a0 16 = ivb1 a0 16 := fl10.i ty7 rfl 16
                          refine c_lv (lv2 := [(5, .int (iI f12)), (6, .int (iI (k + 1))), (4, .ref ob1), (0, .ref a0), (1, .int (iI i)), (2, .int (iI n)), (3, .int (iI lim))]) [1, 0, 2, 3, 4, 5, 6] rfl ?_
                          exact ih1  f12 (k + 1) _ _ _ _ _ (by omega) Xb1 W12 F11  (by omega) (by omega) (by show ivh12 a0 11 = iv a0 11; omega) (by show ivh12 a0 12 = iv a0 12; omega) (by show ivh12 a0 13 = iv a0 13; omega) (by show ivh12 a0 14 = iv a0 14; omega) (by show ivh12 a0 15 = iv a0 15; omega) (by show ivh12 a0 16 = iv a0 16; omega) (show rvb1 a0 9 = rv a0 9 from hkr9) (show rvb1 a0 10 = rv a0 10 from hkr10)
                        · refine c_aload_n (j := 3) (x := a0) C dX11_unreadable_147 rfl ?_
                          refine d_callV (As := []) (rest := []) C hM (C_isReadBack (a0 := a0) W11 skb1 ty7  (by show ivh11 (sk 15) 7 ≤ 200; omega)) dX11_unreadable_148 kV_X11_396 rfl ty7 rfl rfl (by decide) ck_12 rfl (Nat.le_of_ble_eq_true rfl) ⟨(Nat.le_of_ble_eq_true rfl), (Nat.le_of_ble_eq_true rfl)⟩ hph pl4 (show 0 + 0 = 0 from rfl) (by decide) (fun rh13 Lh13 clh13 lnh13 ivh13 rvh13 h13 => ?_)
                          obtain ⟨f13, rfl, xl13, fl13, W13, rgf13, exf13⟩ := h13
                          have F12 := F10.call Xb1 fl13 rfl
                          have mr12 := MRK.call mr10 W11 skb1 xl13 fl13 rfl rfl
                          have ty11 := Xb1.ty tsk2
                          have ty12 := Xb1.ty tsk3
                          have ty13 := Xb1.ty tsk4
                          have ty14 := Xb1.ty tsk5
                          have ty15 := Xb1.ty tsk6
                          have ty16 := Xb1.ty tsk7
                          have ty17 := Xb1.ty tsk8
                          have ty18 := Xb1.ty tsk9
                          have ty19 := Xb1.ty tsk10
                          have ty20 := Xb1.ty tsk13
                          have ty21 := Xb1.ty tsk16
                          have ty22 := Xb1.ty tsk17
                          have ty23 := Xb1.ty tsk22
                          have ty24 := Xb1.ty tsk23
                          have ty25 := Xb1.ty tsk24
                          have ty26 := Xb1.ty tsk25
                          have X2 := Xb1.trans xl13
                          have sk2 := xl13.skl skb1
                          refine c_st (st2 := [.int (iI f13)]) rfl ?_
                          refine c_if_ne (tgt := 184) C ⟨by omega, by omega⟩ dX11_unreadable_151 (by decide) (fun c10 => ?_) (fun c10 => ?_)
                          · refine c_aload_n (j := 3) (x := a0) C dX11_unreadable_184 rfl ?_
                            have ty27 := xl13.ty ty7
                            have re2 : rvh13 a0 5 = rvb1 a0 5 := (fl13.r ty7 rfl 5)
                            rw [rq4] at re2
                            refine c_getr (k := 5) C ck_12 dX11_unreadable_185 w2_49 (by decide) ty27 rfl rfl (by decide) rfl re2 ?_
                            refine c_st (st2 := [.ref (sk 14)]) rfl ?_
                            refine c_iload_n (j := 5) C dX11_unreadable_188 rfl ?_
                            have ty28 := xl13.ty ty8
                            have pl5 := Phi.le W13 sk2
                            refine d_callV (As := [.int (iI n)]) (rest := []) C hM (C_spellNext (a0 := (sk 14)) (n := n) W13 sk2 ty28 (by omega) ) dX11_unreadable_189 kV_X11_403 rfl ty28 rfl rfl (by decide) ck_9 rfl (Nat.le_of_ble_eq_true rfl) ⟨(Nat.le_of_ble_eq_true rfl), (Nat.le_of_ble_eq_true rfl)⟩ hph pl5 (show 0 + 0 = 0 from rfl) (by decide) (fun rh14 Lh14 clh14 lnh14 ivh14 rvh14 h14 => ?_)
                            obtain ⟨f14, rfl, rfl, rfl, rfl, rfl, fl14, W14, rgf14, exf14⟩ := h14
                            have F13 := F12.call X2 fl14 rfl
                            have mr13 := MRK.call mr12 W13 sk2 XT.refl fl14 rfl rfl
                            refine c_st (st2 := [.int (iI f14)]) rfl ?_
                            refine c_istore (lv2 := [(5, .int (iI f14)), (6, .int (iI k)), (4, .ref ob1), (0, .ref a0), (1, .int (iI i)), (2, .int (iI n)), (3, .int (iI lim))]) C dX11_unreadable_192 (by decide) rfl ?_
                            refine c_iinc (z := k) (j := 1) (lv2 := [(6, .int (iI (k + 1))), (5, .int (iI f14)), (4, .ref ob1), (0, .ref a0), (1, .int (iI i)), (2, .int (iI n)), (3, .int (iI lim))]) C dX11_unreadable_194 rfl (by decide) rfl ?_
                            refine c_goto (tgt := 98) C dX11_unreadable_197 (by decide) ?_
                            have ri73 : 1 ≤ ivh14 a0 11 ∧ ivh14 a0 11 ≤ 100 := W14.int ty27 11
                            have ie73 : ivh14 a0 11 = ivh13 a0 11 := fl14.i ty27 rfl 11
                            have ie74 : ivh13 a0 11 = ivh11 a0 11 := fl13.i ty7 rfl 11
                            have ie75 : ivh11 a0 11 = ivh10 a0 11 := fl11.i ty7 rfl 11
                            have ie76 : ivh10 a0 11 = ivb1 a0 11 := fl10.i ty7 rfl 11
                            have ri74 : 1 ≤ ivh14 a0 12 ∧ ivh14 a0 12 ≤ 50 := W14.int ty27 12
                            have ie78 : ivh14 a0 12 = ivh13 a0 12 := fl14.i ty27 rfl 12
                            have ie79 : ivh13 a0 12 = ivh11 a0 12 := fl13.i ty7 rfl 12
                            have ie80 : ivh11 a0 12 = ivh10 a0 12 := fl11.i ty7 rfl 12
                            have ie81 : ivh10 a0 12 = ivb1 a0 12 := fl10.i ty7 rfl 12
                            have ri75 : (-2147483648) ≤ ivh14 a0 13 ∧ ivh14 a0 13 ≤ 2147483647 := W14.int ty27 13
                            have ie83 : ivh14 a0 13 = ivh13 a0 13 := fl14.i ty27 rfl 13
                            have ie84 : ivh13 a0 13 = ivh11 a0 13 := fl13.i ty7 rfl 13
                            have ie85 : ivh11 a0 13 = ivh10 a0 13 := fl11.i ty7 rfl 13
                            have ie86 : ivh10 a0 13 = ivb1 a0 13 := fl10.i ty7 rfl 13
                            have ri76 : (-2147483648) ≤ ivh14 a0 14 ∧ ivh14 a0 14 ≤ 2147483647 := W14.int ty27 14
                            have ie88 : ivh14 a0 14 = ivh13 a0 14 := fl14.i ty27 rfl 14
                            have ie89 : ivh13 a0 14 = ivh11 a0 14 := fl13.i ty7 rfl 14
                            have ie90 : ivh11 a0 14 = ivh10 a0 14 := fl11.i ty7 rfl 14
                            have ie91 : ivh10 a0 14 = ivb1 a0 14 := fl10.i ty7 rfl 14
                            have ri77 : (-2147483648) ≤ ivh14 a0 15 ∧ ivh14 a0 15 ≤ 2147483647 := W14.int ty27 15
                            have ie93 : ivh14 a0 15 = ivh13 a0 15 := fl14.i ty27 rfl 15
                            have ie94 : ivh13 a0 15 = ivh11 a0 15 := fl13.i ty7 rfl 15
                            have ie95 : ivh11 a0 15 = ivh10 a0 15 := fl11.i ty7 rfl 15
                            have ie96 : ivh10 a0 15 = ivb1 a0 15 := fl10.i ty7 rfl 15
                            have ri78 : (-2147483648) ≤ ivh14 a0 16 ∧ ivh14 a0 16 ≤ 2147483647 := W14.int ty27 16
                            have ie98 : ivh14 a0 16 = ivh13 a0 16 := fl14.i ty27 rfl 16
                            have ie99 : ivh13 a0 16 = ivh11 a0 16 := fl13.i ty7 rfl 16
                            have ie100 : ivh11 a0 16 = ivh10 a0 16 := fl11.i ty7 rfl 16
                            have ie101 : ivh10 a0 16 = ivb1 a0 16 := fl10.i ty7 rfl 16
                            refine c_lv (lv2 := [(5, .int (iI f14)), (6, .int (iI (k + 1))), (4, .ref ob1), (0, .ref a0), (1, .int (iI i)), (2, .int (iI n)), (3, .int (iI lim))]) [1, 0, 2, 3, 4, 5, 6] rfl ?_
                            exact ih1  f14 (k + 1) _ _ _ _ _ (by omega) X2 W14 F13  (by omega) (by omega) (by show ivh14 a0 11 = iv a0 11; omega) (by show ivh14 a0 12 = iv a0 12; omega) (by show ivh14 a0 13 = iv a0 13; omega) (by show ivh14 a0 14 = iv a0 14; omega) (by show ivh14 a0 15 = iv a0 15; omega) (by show ivh14 a0 16 = iv a0 16; omega) (Eq.trans (show rvh13 a0 9 = rvb1 a0 9 from (fl13.r ty7 rfl 9)) (show rvb1 a0 9 = rv a0 9 from hkr9)) (Eq.trans (show rvh13 a0 10 = rvb1 a0 10 from (fl13.r ty7 rfl 10)) (show rvb1 a0 10 = rv a0 10 from hkr10))
                          · refine c_aload_n (j := 3) (x := a0) C dX11_unreadable_154 rfl ?_
                            have ty29 := xl13.ty ty7
                            obtain ⟨rb6, rq6, trb6⟩ := W13.ref ty29 2 rfl rfl rfl
                            have erb6 := W13.sk trb6 (by decide) rfl
                            subst erb6
                            refine c_getr (k := 2) C ck_12 dX11_unreadable_155 w2_46 (by decide) ty29 rfl rfl (by decide) rfl rq6 ?_
                            refine c_st (st2 := [.ref (sk 4)]) rfl ?_
                            have ty30 := xl13.ty ty13
                            have pl6 := Phi.le W13 sk2
                            refine d_callV (As := []) (rest := []) C hM (C_clear_4 (a0 := (sk 4)) W13 sk2 ty30  ) dX11_unreadable_158 kV_X11_164 rfl ty30 rfl rfl (by decide) ck_2 rfl (Nat.le_of_ble_eq_true rfl) ⟨(Nat.le_of_ble_eq_true rfl), (Nat.le_of_ble_eq_true rfl)⟩ hph pl6 (show 0 + 0 = 0 from rfl) (by decide) (fun rh15 Lh15 clh15 lnh15 ivh15 rvh15 h15 => ?_)
                            obtain ⟨rfl, rfl, rfl, rfl, rfl, fl15, W15, exf15⟩ := h15
                            have F14 := F12.call X2 fl15 rfl
                            have mr14 := MRK.call mr12 W13 sk2 XT.refl fl15 rfl rfl
                            refine c_st (st2 := []) rfl ?_
                            have ri79 : 0 ≤ ivh15 (sk 4) 2 ∧ ivh15 (sk 4) 2 ≤ 4000 := W15.int ty30 2
                            have gf15 : ivh15 (sk 4) 2 = 0 := exf15
                            refine c_aload_n (j := 3) (x := a0) C dX11_unreadable_161 rfl ?_
                            have re3 : rvh13 a0 6 = rvb1 a0 6 := (fl13.r ty7 rfl 6)
                            rw [rq5] at re3
                            refine c_getr (k := 6) C ck_12 dX11_unreadable_162 w2_50 (by decide) ty29 rfl rfl (by decide) rfl re3 ?_
                            refine c_st (st2 := [.ref (sk 15)]) rfl ?_
                            refine c_aload_n (j := 3) (x := a0) C dX11_unreadable_165 rfl ?_
                            refine c_getr (k := 2) C ck_12 dX11_unreadable_166 w2_46 (by decide) ty29 rfl rfl (by decide) rfl rq6 ?_
                            refine c_st (st2 := [.ref (sk 4), .ref (sk 15)]) rfl ?_
                            have ty31 := xl13.ty ty9
                            refine d_callV (As := [.ref (sk 4)]) (rest := []) C hM (C_wwl (a0 := (sk 15)) (a1 := (sk 4)) W15 sk2 ty31 ty30  ) dX11_unreadable_169 kV_X11_399 rfl ty31 rfl rfl (by decide) ck_7 rfl (Nat.le_of_ble_eq_true rfl) ⟨(Nat.le_of_ble_eq_true rfl), (Nat.le_of_ble_eq_true rfl)⟩ hph pl6 (show 0 + 0 = 0 from rfl) (by decide) (fun rh16 Lh16 clh16 lnh16 ivh16 rvh16 h16 => ?_)
                            obtain ⟨rfl, xl16, fl16, W16, exf16⟩ := h16
                            have F15 := F14.call X2 fl16 rfl
                            have mr15 := MRK.call mr14 W15 sk2 xl16 fl16 rfl rfl
                            have ty32 := xl13.ty ty11
                            have ty33 := xl13.ty ty12
                            have ty34 := xl13.ty ty14
                            have ty35 := xl13.ty ty15
                            have ty36 := xl13.ty ty16
                            have ty37 := xl13.ty ty17
                            have ty38 := xl13.ty ty18
                            have ty39 := xl13.ty ty19
                            have ty40 := xl13.ty ty20
                            have ty41 := xl13.ty ty8
                            have ty42 := xl13.ty ty21
                            have ty43 := xl13.ty ty22
                            have ty44 := xl13.ty ty23
                            have ty45 := xl13.ty ty24
                            have ty46 := xl13.ty ty25
                            have ty47 := xl13.ty ty26
                            have ty48 := xl13.ty ty10
                            have X3 := X2.trans xl16
                            have sk3 := xl16.skl sk2
                            refine c_st (st2 := []) rfl ?_
                            refine c_aload_n (j := 3) (x := a0) C dX11_unreadable_172 rfl ?_
                            refine c_aload_n (j := 3) (x := a0) C dX11_unreadable_173 rfl ?_
                            have ty49 := xl16.ty ty29
                            have re4 : rvh16 a0 6 = rvh13 a0 6 := (fl16.r ty29 rfl 6)
                            rw [re3] at re4
                            refine c_getr (k := 6) C ck_12 dX11_unreadable_174 w2_50 (by decide) ty49 rfl rfl (by decide) rfl re4 ?_
                            refine c_st (st2 := [.ref (sk 15), .ref a0]) rfl ?_
                            have ty50 := xl16.ty ty31
                            have ri80 : 0 ≤ ivh16 (sk 15) 4 ∧ ivh16 (sk 15) 4 ≤ 500 := W16.int ty50 4
                            have ie104 : ivh16 (sk 15) 4 = ivh15 (sk 15) 4 := fl16.i ty31 rfl 4
                            have ie105 : ivh15 (sk 15) 4 = ivh13 (sk 15) 4 := fl15.i ty31 rfl 4
                            have ie106 : ivh13 (sk 15) 4 = ivh11 (sk 15) 4 := fl13.i ty9 rfl 4
                            refine c_get (k := 4) C ck_7 dX11_unreadable_177 w1_142 (by decide) ty50 rfl rfl (by decide) rfl ?_
                            have pl7 := Phi.le W16 sk3
                            refine d_callV (As := [.int (iI (ivh16 (sk 15) 4))]) (rest := []) C hM (C_done (a0 := a0) (x := ivh16 (sk 15) 4) W16 sk3 ty49 (by omega) ) dX11_unreadable_180 kV_X11_109 rfl ty49 rfl rfl (by decide) ck_12 rfl (Nat.le_of_ble_eq_true rfl) ⟨(Nat.le_of_ble_eq_true rfl), (Nat.le_of_ble_eq_true rfl)⟩ hph pl7 (show 0 + 0 = 0 from rfl) (by decide) (fun rh17 Lh17 clh17 lnh17 ivh17 rvh17 h17 => ?_)
                            obtain ⟨f17, rfl, rfl, rfl, rfl, rfl, fl17, W17, rgf17, exf17, kp11f17, kp12f17, kp13f17, kp14f17, kp15f17, kp16f17⟩ := h17
                            have ri81 : 1 ≤ ivh16 a0 11 ∧ ivh16 a0 11 ≤ 100 := W16.int ty49 11
                            have ie107 : ivh16 a0 11 = ivh15 a0 11 := fl16.i ty29 rfl 11
                            have ie108 : ivh15 a0 11 = ivh13 a0 11 := fl15.i ty29 rfl 11
                            have ie109 : ivh13 a0 11 = ivh11 a0 11 := fl13.i ty7 rfl 11
                            have ie110 : ivh11 a0 11 = ivh10 a0 11 := fl11.i ty7 rfl 11
                            have ie111 : ivh10 a0 11 = ivb1 a0 11 := fl10.i ty7 rfl 11
                            have ri82 : 1 ≤ ivh16 a0 12 ∧ ivh16 a0 12 ≤ 50 := W16.int ty49 12
                            have ie113 : ivh16 a0 12 = ivh15 a0 12 := fl16.i ty29 rfl 12
                            have ie114 : ivh15 a0 12 = ivh13 a0 12 := fl15.i ty29 rfl 12
                            have ie115 : ivh13 a0 12 = ivh11 a0 12 := fl13.i ty7 rfl 12
                            have ie116 : ivh11 a0 12 = ivh10 a0 12 := fl11.i ty7 rfl 12
                            have ie117 : ivh10 a0 12 = ivb1 a0 12 := fl10.i ty7 rfl 12
                            have ri83 : (-2147483648) ≤ ivh16 a0 13 ∧ ivh16 a0 13 ≤ 2147483647 := W16.int ty49 13
                            have ie119 : ivh16 a0 13 = ivh15 a0 13 := fl16.i ty29 rfl 13
                            have ie120 : ivh15 a0 13 = ivh13 a0 13 := fl15.i ty29 rfl 13
                            have ie121 : ivh13 a0 13 = ivh11 a0 13 := fl13.i ty7 rfl 13
                            have ie122 : ivh11 a0 13 = ivh10 a0 13 := fl11.i ty7 rfl 13
                            have ie123 : ivh10 a0 13 = ivb1 a0 13 := fl10.i ty7 rfl 13
                            have ri84 : (-2147483648) ≤ ivh16 a0 14 ∧ ivh16 a0 14 ≤ 2147483647 := W16.int ty49 14
                            have ie125 : ivh16 a0 14 = ivh15 a0 14 := fl16.i ty29 rfl 14
                            have ie126 : ivh15 a0 14 = ivh13 a0 14 := fl15.i ty29 rfl 14
                            have ie127 : ivh13 a0 14 = ivh11 a0 14 := fl13.i ty7 rfl 14
                            have ie128 : ivh11 a0 14 = ivh10 a0 14 := fl11.i ty7 rfl 14
                            have ie129 : ivh10 a0 14 = ivb1 a0 14 := fl10.i ty7 rfl 14
                            have ri85 : (-2147483648) ≤ ivh16 a0 15 ∧ ivh16 a0 15 ≤ 2147483647 := W16.int ty49 15
                            have ie131 : ivh16 a0 15 = ivh15 a0 15 := fl16.i ty29 rfl 15
                            have ie132 : ivh15 a0 15 = ivh13 a0 15 := fl15.i ty29 rfl 15
                            have ie133 : ivh13 a0 15 = ivh11 a0 15 := fl13.i ty7 rfl 15
                            have ie134 : ivh11 a0 15 = ivh10 a0 15 := fl11.i ty7 rfl 15
                            have ie135 : ivh10 a0 15 = ivb1 a0 15 := fl10.i ty7 rfl 15
                            have ri86 : (-2147483648) ≤ ivh16 a0 16 ∧ ivh16 a0 16 ≤ 2147483647 := W16.int ty49 16
                            have ie137 : ivh16 a0 16 = ivh15 a0 16 := fl16.i ty29 rfl 16
                            have ie138 : ivh15 a0 16 = ivh13 a0 16 := fl15.i ty29 rfl 16
                            have ie139 : ivh13 a0 16 = ivh11 a0 16 := fl13.i ty7 rfl 16
                            have ie140 : ivh11 a0 16 = ivh10 a0 16 := fl11.i ty7 rfl 16
                            have ie141 : ivh10 a0 16 = ivb1 a0 16 := fl10.i ty7 rfl 16
                            have F16 := F15.call X3 fl17 rfl
                            have mr16 := MRK.call mr15 W16 sk3 XT.refl fl17 rfl rfl
                            refine c_st (st2 := [.int (iI f17)]) rfl ?_
                            have gk11f17 : ivh17 a0 11 = ivh16 a0 11 := kp11f17
                            have gk12f17 : ivh17 a0 12 = ivh16 a0 12 := kp12f17
                            have gk13f17 : ivh17 a0 13 = ivh16 a0 13 := kp13f17
                            have gk14f17 : ivh17 a0 14 = ivh16 a0 14 := kp14f17
                            have gk15f17 : ivh17 a0 15 = ivh16 a0 15 := kp15f17
                            have gk16f17 : ivh17 a0 16 = ivh16 a0 16 := kp16f17
                            have gf17 : f17 = (ivh16 (sk 15) 4) := exf17
                            have ri87 : 1 ≤ ivh17 a0 11 ∧ ivh17 a0 11 ≤ 100 := W17.int ty49 11
                            have ri88 : 1 ≤ ivh17 a0 12 ∧ ivh17 a0 12 ≤ 50 := W17.int ty49 12
                            have ri89 : (-2147483648) ≤ ivh17 a0 13 ∧ ivh17 a0 13 ≤ 2147483647 := W17.int ty49 13
                            have ri90 : (-2147483648) ≤ ivh17 a0 14 ∧ ivh17 a0 14 ≤ 2147483647 := W17.int ty49 14
                            have ri91 : (-2147483648) ≤ ivh17 a0 15 ∧ ivh17 a0 15 ≤ 2147483647 := W17.int ty49 15
                            have ri92 : (-2147483648) ≤ ivh17 a0 16 ∧ ivh17 a0 16 ≤ 2147483647 := W17.int ty49 16
                            exact c_iret C dX11_unreadable_183 rfl (by decide) (rom0 hph pl7 (by decide)) ⟨f17, rfl, X3, F16, W17, ⟨by omega, by omega⟩, trivial, (by omega), (by omega), (by omega), (by omega), (by omega), (by omega), (Eq.trans (show rvh16 a0 9 = rvh13 a0 9 from (fl16.r ty29 rfl 9)) (Eq.trans (show rvh13 a0 9 = rvb1 a0 9 from (fl13.r ty7 rfl 9)) (show rvb1 a0 9 = rv a0 9 from hkr9))), (Eq.trans (show rvh16 a0 10 = rvh13 a0 10 from (fl16.r ty29 rfl 10)) (Eq.trans (show rvh13 a0 10 = rvb1 a0 10 from (fl13.r ty7 rfl 10)) (show rvb1 a0 10 = rv a0 10 from hkr10)))⟩
                      · refine c_aload_n (j := 3) (x := a0) C dX11_unreadable_117 rfl ?_
                        refine c_bipush (z := 8) C dX11_unreadable_118 (by decide) ?_
                        have ty51 := Xb1.ty t_a0
                        have pl8 := Phi.le Wb1 skb1
                        refine d_callV (As := [.int (iI 8)]) (rest := []) C hM (C_refuse (a0 := a0) (x := 8) Wb1 skb1 ty51 ⟨by decide, by decide⟩ ) dX11_unreadable_120 kV_X11_102 rfl ty51 rfl rfl (by decide) ck_12 rfl (Nat.le_of_ble_eq_true rfl) ⟨(Nat.le_of_ble_eq_true rfl), (Nat.le_of_ble_eq_true rfl)⟩ hph pl8 (show 0 + 0 = 0 from rfl) (by decide) (fun rh18 Lh18 clh18 lnh18 ivh18 rvh18 h18 => ?_)
                        obtain ⟨f18, rfl, rfl, rfl, rfl, rfl, fl18, W18, rgf18, exf18, kp11f18, kp12f18, kp13f18, kp14f18, kp15f18, kp16f18⟩ := h18
                        have ri93 : 1 ≤ ivb1 a0 11 ∧ ivb1 a0 11 ≤ 100 := Wb1.int ty51 11
                        have ri94 : 1 ≤ ivb1 a0 12 ∧ ivb1 a0 12 ≤ 50 := Wb1.int ty51 12
                        have ri95 : (-2147483648) ≤ ivb1 a0 13 ∧ ivb1 a0 13 ≤ 2147483647 := Wb1.int ty51 13
                        have ri96 : (-2147483648) ≤ ivb1 a0 14 ∧ ivb1 a0 14 ≤ 2147483647 := Wb1.int ty51 14
                        have ri97 : (-2147483648) ≤ ivb1 a0 15 ∧ ivb1 a0 15 ≤ 2147483647 := Wb1.int ty51 15
                        have ri98 : (-2147483648) ≤ ivb1 a0 16 ∧ ivb1 a0 16 ≤ 2147483647 := Wb1.int ty51 16
                        have F17 := Fb1.call Xb1 fl18 rfl
                        have mr17 := MRK.call mrb1 Wb1 skb1 XT.refl fl18 rfl rfl
                        refine c_st (st2 := [.int (iI f18)]) rfl ?_
                        have gk11f18 : ivh18 a0 11 = ivb1 a0 11 := kp11f18
                        have gk12f18 : ivh18 a0 12 = ivb1 a0 12 := kp12f18
                        have gk13f18 : ivh18 a0 13 = ivb1 a0 13 := kp13f18
                        have gk14f18 : ivh18 a0 14 = ivb1 a0 14 := kp14f18
                        have gk15f18 : ivh18 a0 15 = ivb1 a0 15 := kp15f18
                        have gk16f18 : ivh18 a0 16 = ivb1 a0 16 := kp16f18
                        have gf18 : f18 = -1 := exf18
                        have ri99 : 1 ≤ ivh18 a0 11 ∧ ivh18 a0 11 ≤ 100 := W18.int ty51 11
                        have ri100 : 1 ≤ ivh18 a0 12 ∧ ivh18 a0 12 ≤ 50 := W18.int ty51 12
                        have ri101 : (-2147483648) ≤ ivh18 a0 13 ∧ ivh18 a0 13 ≤ 2147483647 := W18.int ty51 13
                        have ri102 : (-2147483648) ≤ ivh18 a0 14 ∧ ivh18 a0 14 ≤ 2147483647 := W18.int ty51 14
                        have ri103 : (-2147483648) ≤ ivh18 a0 15 ∧ ivh18 a0 15 ≤ 2147483647 := W18.int ty51 15
                        have ri104 : (-2147483648) ≤ ivh18 a0 16 ∧ ivh18 a0 16 ≤ 2147483647 := W18.int ty51 16
                        exact c_iret C dX11_unreadable_123 rfl (by decide) (rom0 hph pl8 (by decide)) ⟨f18, rfl, Xb1, F17, W18, ⟨by omega, by omega⟩, trivial, (by omega), (by omega), (by omega), (by omega), (by omega), (by omega), (show rvb1 a0 9 = rv a0 9 from hkr9), (show rvb1 a0 10 = rv a0 10 from hkr10)⟩
              have ri105 : 1 ≤ ivh7 a0 11 ∧ ivh7 a0 11 ≤ 100 := W7.int ty1 11
              have ie161 : ivh7 a0 11 = ivh6 a0 11 := fl7.i ty1 rfl 11
              have ie162 : ivh6 a0 11 = ivh5 a0 11 := fl6.i ty1 rfl 11
              have ie163 : ivh5 a0 11 = iv a0 11 := fl5.i t_a0 rfl 11
              have ri106 : 1 ≤ ivh7 a0 12 ∧ ivh7 a0 12 ≤ 50 := W7.int ty1 12
              have ie164 : ivh7 a0 12 = ivh6 a0 12 := fl7.i ty1 rfl 12
              have ie165 : ivh6 a0 12 = ivh5 a0 12 := fl6.i ty1 rfl 12
              have ie166 : ivh5 a0 12 = iv a0 12 := fl5.i t_a0 rfl 12
              have ri107 : (-2147483648) ≤ ivh7 a0 13 ∧ ivh7 a0 13 ≤ 2147483647 := W7.int ty1 13
              have ie167 : ivh7 a0 13 = ivh6 a0 13 := fl7.i ty1 rfl 13
              have ie168 : ivh6 a0 13 = ivh5 a0 13 := fl6.i ty1 rfl 13
              have ie169 : ivh5 a0 13 = iv a0 13 := fl5.i t_a0 rfl 13
              have ri108 : (-2147483648) ≤ ivh7 a0 14 ∧ ivh7 a0 14 ≤ 2147483647 := W7.int ty1 14
              have ie170 : ivh7 a0 14 = ivh6 a0 14 := fl7.i ty1 rfl 14
              have ie171 : ivh6 a0 14 = ivh5 a0 14 := fl6.i ty1 rfl 14
              have ie172 : ivh5 a0 14 = iv a0 14 := fl5.i t_a0 rfl 14
              have ri109 : (-2147483648) ≤ ivh7 a0 15 ∧ ivh7 a0 15 ≤ 2147483647 := W7.int ty1 15
              have ie173 : ivh7 a0 15 = ivh6 a0 15 := fl7.i ty1 rfl 15
              have ie174 : ivh6 a0 15 = ivh5 a0 15 := fl6.i ty1 rfl 15
              have ie175 : ivh5 a0 15 = iv a0 15 := fl5.i t_a0 rfl 15
              have ri110 : (-2147483648) ≤ ivh7 a0 16 ∧ ivh7 a0 16 ≤ 2147483647 := W7.int ty1 16
              have ie176 : ivh7 a0 16 = ivh6 a0 16 := fl7.i ty1 rfl 16
              have ie177 : ivh6 a0 16 = ivh5 a0 16 := fl6.i ty1 rfl 16
              have ie178 : ivh5 a0 16 = iv a0 16 := fl5.i t_a0 rfl 16
              refine c_lv (lv2 := [(5, .int (iI f7)), (6, .int (iI 0)), (4, .ref ob1), (0, .ref a0), (1, .int (iI i)), (2, .int (iI n)), (3, .int (iI lim))]) [1, 0, 2, 3, 4, 5, 6] rfl ?_
              exact Lp1 5004 f7 0 _ _ _ _ _ (by omega) X1 W7 F6  (by omega) (by omega) (by show ivh7 a0 11 = iv a0 11; omega) (by show ivh7 a0 12 = iv a0 12; omega) (by show ivh7 a0 13 = iv a0 13; omega) (by show ivh7 a0 14 = iv a0 14; omega) (by show ivh7 a0 15 = iv a0 15; omega) (by show ivh7 a0 16 = iv a0 16; omega) (show rvh5 a0 9 = rv a0 9 from (fl5.r t_a0 rfl 9)) (show rvh5 a0 10 = rv a0 10 from (fl5.r t_a0 rfl 10))
            · refine c_iconst C dX11_unreadable_77 ?_
              refine c_goto (tgt := 82) C dX11_unreadable_78 (by decide) ?_
              have ty52 := xl5.ty tsk14
              have ty53 := xl5.ty tsk16
              have ri111 : 0 ≤ ivh5 (sk 14) 7 ∧ ivh5 (sk 14) 7 ≤ 6 := W5.int ty52 7
              have ie179 : ivh5 (sk 14) 7 = iv (sk 14) 7 := fl5.i tsk14 rfl 7
              have pl9 := Phi.le W5 sk1
              refine d_callV (As := [.ref (sk 16), .int (iI 1)]) (rest := []) C hM (C_gatherAlphabet (a0 := (sk 14)) (a1 := (sk 16)) (g := 1) W5 sk1 ty52 ty53 ⟨by decide, by decide⟩ ) dX11_unreadable_82 kV_X11_385 rfl ty52 rfl rfl (by decide) ck_9 rfl (Nat.le_of_ble_eq_true rfl) ⟨(Nat.le_of_ble_eq_true rfl), (Nat.le_of_ble_eq_true rfl)⟩ hph pl9 (show 0 + 0 = 0 from rfl) (by decide) (fun rh19 Lh19 clh19 lnh19 ivh19 rvh19 h19 => ?_)
              obtain ⟨rfl, rfl, rfl, rfl, rfl, fl19, W19, exf19⟩ := h19
              have F18 := F4.call X1 fl19 rfl
              have mr18 := MRK.call mr4 W5 sk1 XT.refl fl19 rfl rfl
              refine c_st (st2 := []) rfl ?_
              have ri112 : 0 ≤ ivh19 (sk 14) 7 ∧ ivh19 (sk 14) 7 ≤ 6 := W19.int ty52 7
              have gf19 : ivh19 (sk 14) 7 = ivh5 (sk 14) 7 := exf19
              refine c_aload_n (j := 1) (x := a0) C dX11_unreadable_85 rfl ?_
              refine c_getr (k := 5) C ck_12 dX11_unreadable_86 w2_49 (by decide) ty1 rfl rfl (by decide) rfl rq3 ?_
              refine c_st (st2 := [.ref (sk 14)]) rfl ?_
              refine c_iload_n (j := 3) C dX11_unreadable_89 rfl ?_
              refine d_callV (As := [.int (iI n)]) (rest := []) C hM (C_startSpelling (a0 := (sk 14)) (n := n) W19 sk1 ty52 (by omega) ) dX11_unreadable_90 kV_X11_389 rfl ty52 rfl rfl (by decide) ck_9 rfl (Nat.le_of_ble_eq_true rfl) ⟨(Nat.le_of_ble_eq_true rfl), (Nat.le_of_ble_eq_true rfl)⟩ hph pl9 (show 0 + 0 = 0 from rfl) (by decide) (fun rh20 Lh20 clh20 lnh20 ivh20 rvh20 h20 => ?_)
              obtain ⟨f20, rfl, rfl, rfl, rfl, rfl, fl20, W20, rgf20, exf20⟩ := h20
              have F19 := F18.call X1 fl20 rfl
              have mr19 := MRK.call mr18 W19 sk1 XT.refl fl20 rfl rfl
              refine c_st (st2 := [.int (iI f20)]) rfl ?_
              refine c_istore (lv2 := [(5, .int (iI f20)), (4, .ref ob1), (0, .ref a0), (1, .int (iI i)), (2, .int (iI n)), (3, .int (iI lim))]) C dX11_unreadable_93 (by decide) rfl ?_
              refine c_iconst C dX11_unreadable_95 ?_
              refine c_istore (lv2 := [(6, .int (iI 0)), (5, .int (iI f20)), (4, .ref ob1), (0, .ref a0), (1, .int (iI i)), (2, .int (iI n)), (3, .int (iI lim))]) C dX11_unreadable_96 (by decide) rfl ?_
              have Lp2 : ∀ (nn : Nat) (ok k : Int) (Lb2 : List Nat) (clb2 lnb2 : Nat → Nat) (ivb2 : Nat → Nat → Int) (rvb2 : Nat → Nat → Option Nat) , 5002 - k < (nn : Int) → XT L cl ln Lb2 clb2 lnb2 → WT (g0 G) sk Lb2 clb2 lnb2 ivb2 rvb2 → fT [1, 4, 34, 14, 56, 57, 58, 15, 50, 51, 52, 53, 54, 55, 8, 38, 9, 39, 16, 10, 40, 24, 1002, 25, 1003, 6, 36, 7, 37] L cl iv rv ivb2 rvb2 → (ok = 0 ∨ ok = 1) → (0 ≤ k ∧ k ≤ 5001) → (ivb2 a0 11 = iv a0 11) → (ivb2 a0 12 = iv a0 12) → (ivb2 a0 13 = iv a0 13) → (ivb2 a0 14 = iv a0 14) → (ivb2 a0 15 = iv a0 15) → (ivb2 a0 16 = iv a0 16) → (rvb2 a0 9 = rv a0 9) → (rvb2 a0 10 = rv a0 10) → cw p l e 10 ((PHM) + 0 - ((Phi (g0 G) sk) ln rv)) s m args below meth c G A 7 (MQ below (Qu G A (Qp G (Phi (g0 G) sk) ((Phi (g0 G) sk) ln rv) 0 (fun v L2 cl2 ln2 iv2 rv2 => ∃ f : Int, v = some (.int (iI f)) ∧ XT L cl ln L2 cl2 ln2 ∧ fT [1, 4, 34, 14, 56, 57, 58, 15, 50, 51, 52, 53, 54, 55, 8, 38, 9, 39, 16, 10, 40, 24, 1002, 25, 1003, 6, 36, 7, 37] L cl iv rv iv2 rv2 ∧ WT (g0 G) sk L2 cl2 ln2 iv2 rv2 ∧ (-2147483648 ≤ f ∧ f ≤ 2147483647) ∧ (True) ∧ iv2 a0 11 = iv a0 11 ∧ iv2 a0 12 = iv a0 12 ∧ iv2 a0 13 = iv a0 13 ∧ iv2 a0 14 = iv a0 14 ∧ iv2 a0 15 = iv a0 15 ∧ iv2 a0 16 = iv a0 16 ∧ rv2 a0 9 = rv a0 9 ∧ rv2 a0 10 = rv a0 10))) args s (((PHM) + 0 - ((Phi (g0 G) sk) ln rv)) / 16) ((PHM) + 0 - ((Phi (g0 G) sk) ln rv)) A) (Phi (g0 G) sk) ((Phi (g0 G) sk) ln rv) Lb2 clb2 lnb2 ivb2 rvb2 0 98 [(5, .int (iI ok)), (6, .int (iI k)), (4, .ref ob1), (0, .ref a0), (1, .int (iI i)), (2, .int (iI n)), (3, .int (iI lim))] [] := by
                intro nn
                induction nn with
                | zero =>
                  intro  ok k Lb2 clb2 lnb2 ivb2 rvb2 hm Xb2 Wb2 Fb2  hok hk hkp11 hkp12 hkp13 hkp14 hkp15 hkp16 hkr9 hkr10
                  have skb2 := Xb2.skl hS
                  exact absurd hm (by omega)
                | succ nn ih2 =>
                  intro  ok k Lb2 clb2 lnb2 ivb2 rvb2 hm Xb2 Wb2 Fb2  hok hk hkp11 hkp12 hkp13 hkp14 hkp15 hkp16 hkr9 hkr10
                  have skb2 := Xb2.skl hS
                  have mrb2 := MRK.call hmr hW hS Xb2 Fb2 rfl rfl
                  refine c_iload (j := 0) C dX11_unreadable_98 rfl ?_
                  refine c_if_eq (tgt := 200) C ⟨by omega, by omega⟩ dX11_unreadable_100 (by decide) (fun c11 => ?_) (fun c11 => ?_)
                  · refine c_aload_n (j := 3) (x := a0) C dX11_unreadable_200 rfl ?_
                    refine c_iconst C dX11_unreadable_201 ?_
                    have ty54 := Xb2.ty t_a0
                    have pl10 := Phi.le Wb2 skb2
                    refine d_callV (As := [.int (iI 0)]) (rest := []) C hM (C_done (a0 := a0) (x := 0) Wb2 skb2 ty54 ⟨by decide, by decide⟩ ) dX11_unreadable_202 kV_X11_109 rfl ty54 rfl rfl (by decide) ck_12 rfl (Nat.le_of_ble_eq_true rfl) ⟨(Nat.le_of_ble_eq_true rfl), (Nat.le_of_ble_eq_true rfl)⟩ hph pl10 (show 0 + 0 = 0 from rfl) (by decide) (fun rh21 Lh21 clh21 lnh21 ivh21 rvh21 h21 => ?_)
                    obtain ⟨f21, rfl, rfl, rfl, rfl, rfl, fl21, W21, rgf21, exf21, kp11f21, kp12f21, kp13f21, kp14f21, kp15f21, kp16f21⟩ := h21
                    have ri113 : 1 ≤ ivb2 a0 11 ∧ ivb2 a0 11 ≤ 100 := Wb2.int ty54 11
                    have ri114 : 1 ≤ ivb2 a0 12 ∧ ivb2 a0 12 ≤ 50 := Wb2.int ty54 12
                    have ri115 : (-2147483648) ≤ ivb2 a0 13 ∧ ivb2 a0 13 ≤ 2147483647 := Wb2.int ty54 13
                    have ri116 : (-2147483648) ≤ ivb2 a0 14 ∧ ivb2 a0 14 ≤ 2147483647 := Wb2.int ty54 14
                    have ri117 : (-2147483648) ≤ ivb2 a0 15 ∧ ivb2 a0 15 ≤ 2147483647 := Wb2.int ty54 15
                    have ri118 : (-2147483648) ≤ ivb2 a0 16 ∧ ivb2 a0 16 ≤ 2147483647 := Wb2.int ty54 16
                    have F20 := Fb2.call Xb2 fl21 rfl
                    have mr20 := MRK.call mrb2 Wb2 skb2 XT.refl fl21 rfl rfl
                    refine c_st (st2 := [.int (iI f21)]) rfl ?_
                    have gk11f21 : ivh21 a0 11 = ivb2 a0 11 := kp11f21
                    have gk12f21 : ivh21 a0 12 = ivb2 a0 12 := kp12f21
                    have gk13f21 : ivh21 a0 13 = ivb2 a0 13 := kp13f21
                    have gk14f21 : ivh21 a0 14 = ivb2 a0 14 := kp14f21
                    have gk15f21 : ivh21 a0 15 = ivb2 a0 15 := kp15f21
                    have gk16f21 : ivh21 a0 16 = ivb2 a0 16 := kp16f21
                    have gf21 : f21 = (0 : Int) := exf21
                    have ri119 : 1 ≤ ivh21 a0 11 ∧ ivh21 a0 11 ≤ 100 := W21.int ty54 11
                    have ri120 : 1 ≤ ivh21 a0 12 ∧ ivh21 a0 12 ≤ 50 := W21.int ty54 12
                    have ri121 : (-2147483648) ≤ ivh21 a0 13 ∧ ivh21 a0 13 ≤ 2147483647 := W21.int ty54 13
                    have ri122 : (-2147483648) ≤ ivh21 a0 14 ∧ ivh21 a0 14 ≤ 2147483647 := W21.int ty54 14
                    have ri123 : (-2147483648) ≤ ivh21 a0 15 ∧ ivh21 a0 15 ≤ 2147483647 := W21.int ty54 15
                    have ri124 : (-2147483648) ≤ ivh21 a0 16 ∧ ivh21 a0 16 ≤ 2147483647 := W21.int ty54 16
                    exact c_iret C dX11_unreadable_205 rfl (by decide) (rom0 hph pl10 (by decide)) ⟨f21, rfl, Xb2, F20, W21, ⟨by omega, by omega⟩, trivial, (by omega), (by omega), (by omega), (by omega), (by omega), (by omega), (show rvb2 a0 9 = rv a0 9 from hkr9), (show rvb2 a0 10 = rv a0 10 from hkr10)⟩
                  · refine c_iload (j := 1) C dX11_unreadable_103 rfl ?_
                    refine c_sipush (z := 5000) C dX11_unreadable_105 (by decide) ?_
                    refine c_icmp_gt (tgt := 200) C ⟨by omega, by omega⟩ ⟨by decide, by decide⟩ dX11_unreadable_108 (by decide) (fun c12 => ?_) (fun c12 => ?_)
                    · refine c_aload_n (j := 3) (x := a0) C dX11_unreadable_200 rfl ?_
                      refine c_iconst C dX11_unreadable_201 ?_
                      have ty55 := Xb2.ty t_a0
                      have pl11 := Phi.le Wb2 skb2
                      refine d_callV (As := [.int (iI 0)]) (rest := []) C hM (C_done (a0 := a0) (x := 0) Wb2 skb2 ty55 ⟨by decide, by decide⟩ ) dX11_unreadable_202 kV_X11_109 rfl ty55 rfl rfl (by decide) ck_12 rfl (Nat.le_of_ble_eq_true rfl) ⟨(Nat.le_of_ble_eq_true rfl), (Nat.le_of_ble_eq_true rfl)⟩ hph pl11 (show 0 + 0 = 0 from rfl) (by decide) (fun rh22 Lh22 clh22 lnh22 ivh22 rvh22 h22 => ?_)
                      obtain ⟨f22, rfl, rfl, rfl, rfl, rfl, fl22, W22, rgf22, exf22, kp11f22, kp12f22, kp13f22, kp14f22, kp15f22, kp16f22⟩ := h22
                      have ri125 : 1 ≤ ivb2 a0 11 ∧ ivb2 a0 11 ≤ 100 := Wb2.int ty55 11
                      have ri126 : 1 ≤ ivb2 a0 12 ∧ ivb2 a0 12 ≤ 50 := Wb2.int ty55 12
                      have ri127 : (-2147483648) ≤ ivb2 a0 13 ∧ ivb2 a0 13 ≤ 2147483647 := Wb2.int ty55 13
                      have ri128 : (-2147483648) ≤ ivb2 a0 14 ∧ ivb2 a0 14 ≤ 2147483647 := Wb2.int ty55 14
                      have ri129 : (-2147483648) ≤ ivb2 a0 15 ∧ ivb2 a0 15 ≤ 2147483647 := Wb2.int ty55 15
                      have ri130 : (-2147483648) ≤ ivb2 a0 16 ∧ ivb2 a0 16 ≤ 2147483647 := Wb2.int ty55 16
                      have F21 := Fb2.call Xb2 fl22 rfl
                      have mr21 := MRK.call mrb2 Wb2 skb2 XT.refl fl22 rfl rfl
                      refine c_st (st2 := [.int (iI f22)]) rfl ?_
                      have gk11f22 : ivh22 a0 11 = ivb2 a0 11 := kp11f22
                      have gk12f22 : ivh22 a0 12 = ivb2 a0 12 := kp12f22
                      have gk13f22 : ivh22 a0 13 = ivb2 a0 13 := kp13f22
                      have gk14f22 : ivh22 a0 14 = ivb2 a0 14 := kp14f22
                      have gk15f22 : ivh22 a0 15 = ivb2 a0 15 := kp15f22
                      have gk16f22 : ivh22 a0 16 = ivb2 a0 16 := kp16f22
                      have gf22 : f22 = (0 : Int) := exf22
                      have ri131 : 1 ≤ ivh22 a0 11 ∧ ivh22 a0 11 ≤ 100 := W22.int ty55 11
                      have ri132 : 1 ≤ ivh22 a0 12 ∧ ivh22 a0 12 ≤ 50 := W22.int ty55 12
                      have ri133 : (-2147483648) ≤ ivh22 a0 13 ∧ ivh22 a0 13 ≤ 2147483647 := W22.int ty55 13
                      have ri134 : (-2147483648) ≤ ivh22 a0 14 ∧ ivh22 a0 14 ≤ 2147483647 := W22.int ty55 14
                      have ri135 : (-2147483648) ≤ ivh22 a0 15 ∧ ivh22 a0 15 ≤ 2147483647 := W22.int ty55 15
                      have ri136 : (-2147483648) ≤ ivh22 a0 16 ∧ ivh22 a0 16 ≤ 2147483647 := W22.int ty55 16
                      exact c_iret C dX11_unreadable_205 rfl (by decide) (rom0 hph pl11 (by decide)) ⟨f22, rfl, Xb2, F21, W22, ⟨by omega, by omega⟩, trivial, (by omega), (by omega), (by omega), (by omega), (by omega), (by omega), (show rvb2 a0 9 = rv a0 9 from hkr9), (show rvb2 a0 10 = rv a0 10 from hkr10)⟩
                    · refine c_iload (j := 1) C dX11_unreadable_111 rfl ?_
                      refine c_iload_n (j := 6) C dX11_unreadable_113 rfl ?_
                      refine c_icmp_lt (tgt := 124) C ⟨by omega, by omega⟩ ⟨by omega, by omega⟩ dX11_unreadable_114 (by decide) (fun c13 => ?_) (fun c13 => ?_)
                      · refine c_aload_n (j := 3) (x := a0) C dX11_unreadable_124 rfl ?_
                        have ty56 := Xb2.ty t_a0
                        obtain ⟨rb7, rq7, trb7⟩ := Wb2.ref ty56 5 rfl rfl rfl
                        have erb7 := Wb2.sk trb7 (by decide) rfl
                        subst erb7
                        refine c_getr (k := 5) C ck_12 dX11_unreadable_125 w2_49 (by decide) ty56 rfl rfl (by decide) rfl rq7 ?_
                        refine c_st (st2 := [.ref (sk 14)]) rfl ?_
                        refine c_aload_n (j := 3) (x := a0) C dX11_unreadable_128 rfl ?_
                        obtain ⟨rb8, rq8, trb8⟩ := Wb2.ref ty56 6 rfl rfl rfl
                        have erb8 := Wb2.sk trb8 (by decide) rfl
                        subst erb8
                        refine c_getr (k := 6) C ck_12 dX11_unreadable_129 w2_50 (by decide) ty56 rfl rfl (by decide) rfl rq8 ?_
                        refine c_st (st2 := [.ref (sk 15), .ref (sk 14)]) rfl ?_
                        have ty57 := Xb2.ty tsk14
                        have ty58 := Xb2.ty tsk15
                        have pl12 := Phi.le Wb2 skb2
                        refine d_callV (As := [.ref (sk 15)]) (rest := []) C hM (C_spell (a0 := (sk 14)) (a1 := (sk 15)) Wb2 skb2 ty57 ty58  ) dX11_unreadable_132 kV_X11_392 rfl ty57 rfl rfl (by decide) ck_9 rfl (Nat.le_of_ble_eq_true rfl) ⟨(Nat.le_of_ble_eq_true rfl), (Nat.le_of_ble_eq_true rfl)⟩ hph pl12 (show 0 + 0 = 0 from rfl) (by decide) (fun rh23 Lh23 clh23 lnh23 ivh23 rvh23 h23 => ?_)
                        obtain ⟨rfl, rfl, rfl, rfl, rfl, fl23, W23, exf23⟩ := h23
                        have F22 := Fb2.call Xb2 fl23 rfl
                        have mr22 := MRK.call mrb2 Wb2 skb2 XT.refl fl23 rfl rfl
                        refine c_st (st2 := []) rfl ?_
                        refine c_aload_n (j := 3) (x := a0) C dX11_unreadable_135 rfl ?_
                        refine c_getr (k := 6) C ck_12 dX11_unreadable_136 w2_50 (by decide) ty56 rfl rfl (by decide) rfl rq8 ?_
                        refine c_st (st2 := [.ref (sk 15)]) rfl ?_
                        refine c_aload (j := 2) (x := ob1) C dX11_unreadable_139 rfl ?_
                        have ty59 := Xb2.ty tob1
                        have ri137 : 0 ≤ ivh23 (sk 15) 4 ∧ ivh23 (sk 15) 4 ≤ 500 := W23.int ty58 4
                        refine d_callV (As := [.ref ob1]) (rest := []) C hM (C_setBy (a0 := (sk 15)) (a1 := ob1) W23 skb2 ty58 ty59  ) dX11_unreadable_141 kV_X11_253 rfl ty58 rfl rfl (by decide) ck_7 rfl (Nat.le_of_ble_eq_true rfl) ⟨(Nat.le_of_ble_eq_true rfl), (Nat.le_of_ble_eq_true rfl)⟩ hph pl12 (show 0 + 0 = 0 from rfl) (by decide) (fun rh24 Lh24 clh24 lnh24 ivh24 rvh24 h24 => ?_)
                        obtain ⟨f24, rfl, rfl, rfl, rfl, rfl, fl24, W24, rgf24, exf24⟩ := h24
                        have F23 := F22.call Xb2 fl24 rfl
                        have mr23 := MRK.call mr22 W23 skb2 XT.refl fl24 rfl rfl
                        refine c_st (st2 := [.int (iI f24)]) rfl ?_
                        have ri138 : 0 ≤ ivh24 (sk 15) 4 ∧ ivh24 (sk 15) 4 ≤ 500 := W24.int ty58 4
                        have ri139 : 0 ≤ ivh24 (sk 15) 7 ∧ ivh24 (sk 15) 7 ≤ 100000 := W24.int ty58 7
                        have gf24 : (f24 = 0 ∨ f24 = 6 ∨ f24 = 7) ∧ ivh24 (sk 15) 4 = ivh23 (sk 15) 4 ∧ (f24 = 0 → ivh24 (sk 15) 7 ≤ 200) := exf24
                        refine c_if_ne (tgt := 184) C ⟨by omega, by omega⟩ dX11_unreadable_144 (by decide) (fun c14 => ?_) (fun c14 => ?_)
                        · refine c_aload_n (j := 3) (x := a0) C dX11_unreadable_184 rfl ?_
                          refine c_getr (k := 5) C ck_12 dX11_unreadable_185 w2_49 (by decide) ty56 rfl rfl (by decide) rfl rq7 ?_
                          refine c_st (st2 := [.ref (sk 14)]) rfl ?_
                          refine c_iload_n (j := 5) C dX11_unreadable_188 rfl ?_
                          refine d_callV (As := [.int (iI n)]) (rest := []) C hM (C_spellNext (a0 := (sk 14)) (n := n) W24 skb2 ty57 (by omega) ) dX11_unreadable_189 kV_X11_403 rfl ty57 rfl rfl (by decide) ck_9 rfl (Nat.le_of_ble_eq_true rfl) ⟨(Nat.le_of_ble_eq_true rfl), (Nat.le_of_ble_eq_true rfl)⟩ hph pl12 (show 0 + 0 = 0 from rfl) (by decide) (fun rh25 Lh25 clh25 lnh25 ivh25 rvh25 h25 => ?_)
                          obtain ⟨f25, rfl, rfl, rfl, rfl, rfl, fl25, W25, rgf25, exf25⟩ := h25
                          have F24 := F23.call Xb2 fl25 rfl
                          have mr24 := MRK.call mr23 W24 skb2 XT.refl fl25 rfl rfl
                          refine c_st (st2 := [.int (iI f25)]) rfl ?_
                          refine c_istore (lv2 := [(5, .int (iI f25)), (6, .int (iI k)), (4, .ref ob1), (0, .ref a0), (1, .int (iI i)), (2, .int (iI n)), (3, .int (iI lim))]) C dX11_unreadable_192 (by decide) rfl ?_
                          refine c_iinc (z := k) (j := 1) (lv2 := [(6, .int (iI (k + 1))), (5, .int (iI f25)), (4, .ref ob1), (0, .ref a0), (1, .int (iI i)), (2, .int (iI n)), (3, .int (iI lim))]) C dX11_unreadable_194 rfl (by decide) rfl ?_
                          refine c_goto (tgt := 98) C dX11_unreadable_197 (by decide) ?_
                          have ri140 : 1 ≤ ivh25 a0 11 ∧ ivh25 a0 11 ≤ 100 := W25.int ty56 11
                          have ie208 : ivh25 a0 11 = ivh24 a0 11 := fl25.i ty56 rfl 11
                          have ie209 : ivh24 a0 11 = ivh23 a0 11 := fl24.i ty56 rfl 11
                          have ie210 : ivh23 a0 11 = ivb2 a0 11 := fl23.i ty56 rfl 11
                          have ri141 : 1 ≤ ivh25 a0 12 ∧ ivh25 a0 12 ≤ 50 := W25.int ty56 12
                          have ie212 : ivh25 a0 12 = ivh24 a0 12 := fl25.i ty56 rfl 12
                          have ie213 : ivh24 a0 12 = ivh23 a0 12 := fl24.i ty56 rfl 12
                          have ie214 : ivh23 a0 12 = ivb2 a0 12 := fl23.i ty56 rfl 12
                          have ri142 : (-2147483648) ≤ ivh25 a0 13 ∧ ivh25 a0 13 ≤ 2147483647 := W25.int ty56 13
                          have ie216 : ivh25 a0 13 = ivh24 a0 13 := fl25.i ty56 rfl 13
                          have ie217 : ivh24 a0 13 = ivh23 a0 13 := fl24.i ty56 rfl 13
                          have ie218 : ivh23 a0 13 = ivb2 a0 13 := fl23.i ty56 rfl 13
                          have ri143 : (-2147483648) ≤ ivh25 a0 14 ∧ ivh25 a0 14 ≤ 2147483647 := W25.int ty56 14
                          have ie220 : ivh25 a0 14 = ivh24 a0 14 := fl25.i ty56 rfl 14
                          have ie221 : ivh24 a0 14 = ivh23 a0 14 := fl24.i ty56 rfl 14
                          have ie222 : ivh23 a0 14 = ivb2 a0 14 := fl23.i ty56 rfl 14
                          have ri144 : (-2147483648) ≤ ivh25 a0 15 ∧ ivh25 a0 15 ≤ 2147483647 := W25.int ty56 15
                          have ie224 : ivh25 a0 15 = ivh24 a0 15 := fl25.i ty56 rfl 15
                          have ie225 : ivh24 a0 15 = ivh23 a0 15 := fl24.i ty56 rfl 15
                          have ie226 : ivh23 a0 15 = ivb2 a0 15 := fl23.i ty56 rfl 15
                          have ri145 : (-2147483648) ≤ ivh25 a0 16 ∧ ivh25 a0 16 ≤ 2147483647 := W25.int ty56 16
                          have ie228 : ivh25 a0 16 = ivh24 a0 16 := fl25.i ty56 rfl 16
                          have ie229 : ivh24 a0 16 = ivh23 a0 16 := fl24.i ty56 rfl 16
                          have ie230 : ivh23 a0 16 = ivb2 a0 16 := fl23.i ty56 rfl 16
                          refine c_lv (lv2 := [(5, .int (iI f25)), (6, .int (iI (k + 1))), (4, .ref ob1), (0, .ref a0), (1, .int (iI i)), (2, .int (iI n)), (3, .int (iI lim))]) [1, 0, 2, 3, 4, 5, 6] rfl ?_
                          exact ih2  f25 (k + 1) _ _ _ _ _ (by omega) Xb2 W25 F24  (by omega) (by omega) (by show ivh25 a0 11 = iv a0 11; omega) (by show ivh25 a0 12 = iv a0 12; omega) (by show ivh25 a0 13 = iv a0 13; omega) (by show ivh25 a0 14 = iv a0 14; omega) (by show ivh25 a0 15 = iv a0 15; omega) (by show ivh25 a0 16 = iv a0 16; omega) (show rvb2 a0 9 = rv a0 9 from hkr9) (show rvb2 a0 10 = rv a0 10 from hkr10)
                        · refine c_aload_n (j := 3) (x := a0) C dX11_unreadable_147 rfl ?_
                          refine d_callV (As := []) (rest := []) C hM (C_isReadBack (a0 := a0) W24 skb2 ty56  (by show ivh24 (sk 15) 7 ≤ 200; omega)) dX11_unreadable_148 kV_X11_396 rfl ty56 rfl rfl (by decide) ck_12 rfl (Nat.le_of_ble_eq_true rfl) ⟨(Nat.le_of_ble_eq_true rfl), (Nat.le_of_ble_eq_true rfl)⟩ hph pl12 (show 0 + 0 = 0 from rfl) (by decide) (fun rh26 Lh26 clh26 lnh26 ivh26 rvh26 h26 => ?_)
                          obtain ⟨f26, rfl, xl26, fl26, W26, rgf26, exf26⟩ := h26
                          have F25 := F23.call Xb2 fl26 rfl
                          have mr25 := MRK.call mr23 W24 skb2 xl26 fl26 rfl rfl
                          have ty60 := Xb2.ty tsk2
                          have ty61 := Xb2.ty tsk3
                          have ty62 := Xb2.ty tsk4
                          have ty63 := Xb2.ty tsk5
                          have ty64 := Xb2.ty tsk6
                          have ty65 := Xb2.ty tsk7
                          have ty66 := Xb2.ty tsk8
                          have ty67 := Xb2.ty tsk9
                          have ty68 := Xb2.ty tsk10
                          have ty69 := Xb2.ty tsk13
                          have ty70 := Xb2.ty tsk16
                          have ty71 := Xb2.ty tsk17
                          have ty72 := Xb2.ty tsk22
                          have ty73 := Xb2.ty tsk23
                          have ty74 := Xb2.ty tsk24
                          have ty75 := Xb2.ty tsk25
                          have X4 := Xb2.trans xl26
                          have sk4 := xl26.skl skb2
                          refine c_st (st2 := [.int (iI f26)]) rfl ?_
                          refine c_if_ne (tgt := 184) C ⟨by omega, by omega⟩ dX11_unreadable_151 (by decide) (fun c15 => ?_) (fun c15 => ?_)
                          · refine c_aload_n (j := 3) (x := a0) C dX11_unreadable_184 rfl ?_
                            have ty76 := xl26.ty ty56
                            have re5 : rvh26 a0 5 = rvb2 a0 5 := (fl26.r ty56 rfl 5)
                            rw [rq7] at re5
                            refine c_getr (k := 5) C ck_12 dX11_unreadable_185 w2_49 (by decide) ty76 rfl rfl (by decide) rfl re5 ?_
                            refine c_st (st2 := [.ref (sk 14)]) rfl ?_
                            refine c_iload_n (j := 5) C dX11_unreadable_188 rfl ?_
                            have ty77 := xl26.ty ty57
                            have pl13 := Phi.le W26 sk4
                            refine d_callV (As := [.int (iI n)]) (rest := []) C hM (C_spellNext (a0 := (sk 14)) (n := n) W26 sk4 ty77 (by omega) ) dX11_unreadable_189 kV_X11_403 rfl ty77 rfl rfl (by decide) ck_9 rfl (Nat.le_of_ble_eq_true rfl) ⟨(Nat.le_of_ble_eq_true rfl), (Nat.le_of_ble_eq_true rfl)⟩ hph pl13 (show 0 + 0 = 0 from rfl) (by decide) (fun rh27 Lh27 clh27 lnh27 ivh27 rvh27 h27 => ?_)
                            obtain ⟨f27, rfl, rfl, rfl, rfl, rfl, fl27, W27, rgf27, exf27⟩ := h27
                            have F26 := F25.call X4 fl27 rfl
                            have mr26 := MRK.call mr25 W26 sk4 XT.refl fl27 rfl rfl
                            refine c_st (st2 := [.int (iI f27)]) rfl ?_
                            refine c_istore (lv2 := [(5, .int (iI f27)), (6, .int (iI k)), (4, .ref ob1), (0, .ref a0), (1, .int (iI i)), (2, .int (iI n)), (3, .int (iI lim))]) C dX11_unreadable_192 (by decide) rfl ?_
                            refine c_iinc (z := k) (j := 1) (lv2 := [(6, .int (iI (k + 1))), (5, .int (iI f27)), (4, .ref ob1), (0, .ref a0), (1, .int (iI i)), (2, .int (iI n)), (3, .int (iI lim))]) C dX11_unreadable_194 rfl (by decide) rfl ?_
                            refine c_goto (tgt := 98) C dX11_unreadable_197 (by decide) ?_
                            have ri146 : 1 ≤ ivh27 a0 11 ∧ ivh27 a0 11 ≤ 100 := W27.int ty76 11
                            have ie232 : ivh27 a0 11 = ivh26 a0 11 := fl27.i ty76 rfl 11
                            have ie233 : ivh26 a0 11 = ivh24 a0 11 := fl26.i ty56 rfl 11
                            have ie234 : ivh24 a0 11 = ivh23 a0 11 := fl24.i ty56 rfl 11
                            have ie235 : ivh23 a0 11 = ivb2 a0 11 := fl23.i ty56 rfl 11
                            have ri147 : 1 ≤ ivh27 a0 12 ∧ ivh27 a0 12 ≤ 50 := W27.int ty76 12
                            have ie237 : ivh27 a0 12 = ivh26 a0 12 := fl27.i ty76 rfl 12
                            have ie238 : ivh26 a0 12 = ivh24 a0 12 := fl26.i ty56 rfl 12
                            have ie239 : ivh24 a0 12 = ivh23 a0 12 := fl24.i ty56 rfl 12
                            have ie240 : ivh23 a0 12 = ivb2 a0 12 := fl23.i ty56 rfl 12
                            have ri148 : (-2147483648) ≤ ivh27 a0 13 ∧ ivh27 a0 13 ≤ 2147483647 := W27.int ty76 13
                            have ie242 : ivh27 a0 13 = ivh26 a0 13 := fl27.i ty76 rfl 13
                            have ie243 : ivh26 a0 13 = ivh24 a0 13 := fl26.i ty56 rfl 13
                            have ie244 : ivh24 a0 13 = ivh23 a0 13 := fl24.i ty56 rfl 13
                            have ie245 : ivh23 a0 13 = ivb2 a0 13 := fl23.i ty56 rfl 13
                            have ri149 : (-2147483648) ≤ ivh27 a0 14 ∧ ivh27 a0 14 ≤ 2147483647 := W27.int ty76 14
                            have ie247 : ivh27 a0 14 = ivh26 a0 14 := fl27.i ty76 rfl 14
                            have ie248 : ivh26 a0 14 = ivh24 a0 14 := fl26.i ty56 rfl 14
                            have ie249 : ivh24 a0 14 = ivh23 a0 14 := fl24.i ty56 rfl 14
                            have ie250 : ivh23 a0 14 = ivb2 a0 14 := fl23.i ty56 rfl 14
                            have ri150 : (-2147483648) ≤ ivh27 a0 15 ∧ ivh27 a0 15 ≤ 2147483647 := W27.int ty76 15
                            have ie252 : ivh27 a0 15 = ivh26 a0 15 := fl27.i ty76 rfl 15
                            have ie253 : ivh26 a0 15 = ivh24 a0 15 := fl26.i ty56 rfl 15
                            have ie254 : ivh24 a0 15 = ivh23 a0 15 := fl24.i ty56 rfl 15
                            have ie255 : ivh23 a0 15 = ivb2 a0 15 := fl23.i ty56 rfl 15
                            have ri151 : (-2147483648) ≤ ivh27 a0 16 ∧ ivh27 a0 16 ≤ 2147483647 := W27.int ty76 16
                            have ie257 : ivh27 a0 16 = ivh26 a0 16 := fl27.i ty76 rfl 16
                            have ie258 : ivh26 a0 16 = ivh24 a0 16 := fl26.i ty56 rfl 16
                            have ie259 : ivh24 a0 16 = ivh23 a0 16 := fl24.i ty56 rfl 16
                            have ie260 : ivh23 a0 16 = ivb2 a0 16 := fl23.i ty56 rfl 16
                            refine c_lv (lv2 := [(5, .int (iI f27)), (6, .int (iI (k + 1))), (4, .ref ob1), (0, .ref a0), (1, .int (iI i)), (2, .int (iI n)), (3, .int (iI lim))]) [1, 0, 2, 3, 4, 5, 6] rfl ?_
                            exact ih2  f27 (k + 1) _ _ _ _ _ (by omega) X4 W27 F26  (by omega) (by omega) (by show ivh27 a0 11 = iv a0 11; omega) (by show ivh27 a0 12 = iv a0 12; omega) (by show ivh27 a0 13 = iv a0 13; omega) (by show ivh27 a0 14 = iv a0 14; omega) (by show ivh27 a0 15 = iv a0 15; omega) (by show ivh27 a0 16 = iv a0 16; omega) (Eq.trans (show rvh26 a0 9 = rvb2 a0 9 from (fl26.r ty56 rfl 9)) (show rvb2 a0 9 = rv a0 9 from hkr9)) (Eq.trans (show rvh26 a0 10 = rvb2 a0 10 from (fl26.r ty56 rfl 10)) (show rvb2 a0 10 = rv a0 10 from hkr10))
                          · refine c_aload_n (j := 3) (x := a0) C dX11_unreadable_154 rfl ?_
                            have ty78 := xl26.ty ty56
                            obtain ⟨rb9, rq9, trb9⟩ := W26.ref ty78 2 rfl rfl rfl
                            have erb9 := W26.sk trb9 (by decide) rfl
                            subst erb9
                            refine c_getr (k := 2) C ck_12 dX11_unreadable_155 w2_46 (by decide) ty78 rfl rfl (by decide) rfl rq9 ?_
                            refine c_st (st2 := [.ref (sk 4)]) rfl ?_
                            have ty79 := xl26.ty ty62
                            have pl14 := Phi.le W26 sk4
                            refine d_callV (As := []) (rest := []) C hM (C_clear_4 (a0 := (sk 4)) W26 sk4 ty79  ) dX11_unreadable_158 kV_X11_164 rfl ty79 rfl rfl (by decide) ck_2 rfl (Nat.le_of_ble_eq_true rfl) ⟨(Nat.le_of_ble_eq_true rfl), (Nat.le_of_ble_eq_true rfl)⟩ hph pl14 (show 0 + 0 = 0 from rfl) (by decide) (fun rh28 Lh28 clh28 lnh28 ivh28 rvh28 h28 => ?_)
                            obtain ⟨rfl, rfl, rfl, rfl, rfl, fl28, W28, exf28⟩ := h28
                            have F27 := F25.call X4 fl28 rfl
                            have mr27 := MRK.call mr25 W26 sk4 XT.refl fl28 rfl rfl
                            refine c_st (st2 := []) rfl ?_
                            have ri152 : 0 ≤ ivh28 (sk 4) 2 ∧ ivh28 (sk 4) 2 ≤ 4000 := W28.int ty79 2
                            have gf28 : ivh28 (sk 4) 2 = 0 := exf28
                            refine c_aload_n (j := 3) (x := a0) C dX11_unreadable_161 rfl ?_
                            have re6 : rvh26 a0 6 = rvb2 a0 6 := (fl26.r ty56 rfl 6)
                            rw [rq8] at re6
                            refine c_getr (k := 6) C ck_12 dX11_unreadable_162 w2_50 (by decide) ty78 rfl rfl (by decide) rfl re6 ?_
                            refine c_st (st2 := [.ref (sk 15)]) rfl ?_
                            refine c_aload_n (j := 3) (x := a0) C dX11_unreadable_165 rfl ?_
                            refine c_getr (k := 2) C ck_12 dX11_unreadable_166 w2_46 (by decide) ty78 rfl rfl (by decide) rfl rq9 ?_
                            refine c_st (st2 := [.ref (sk 4), .ref (sk 15)]) rfl ?_
                            have ty80 := xl26.ty ty58
                            refine d_callV (As := [.ref (sk 4)]) (rest := []) C hM (C_wwl (a0 := (sk 15)) (a1 := (sk 4)) W28 sk4 ty80 ty79  ) dX11_unreadable_169 kV_X11_399 rfl ty80 rfl rfl (by decide) ck_7 rfl (Nat.le_of_ble_eq_true rfl) ⟨(Nat.le_of_ble_eq_true rfl), (Nat.le_of_ble_eq_true rfl)⟩ hph pl14 (show 0 + 0 = 0 from rfl) (by decide) (fun rh29 Lh29 clh29 lnh29 ivh29 rvh29 h29 => ?_)
                            obtain ⟨rfl, xl29, fl29, W29, exf29⟩ := h29
                            have F28 := F27.call X4 fl29 rfl
                            have mr28 := MRK.call mr27 W28 sk4 xl29 fl29 rfl rfl
                            have ty81 := xl26.ty ty60
                            have ty82 := xl26.ty ty61
                            have ty83 := xl26.ty ty63
                            have ty84 := xl26.ty ty64
                            have ty85 := xl26.ty ty65
                            have ty86 := xl26.ty ty66
                            have ty87 := xl26.ty ty67
                            have ty88 := xl26.ty ty68
                            have ty89 := xl26.ty ty69
                            have ty90 := xl26.ty ty57
                            have ty91 := xl26.ty ty70
                            have ty92 := xl26.ty ty71
                            have ty93 := xl26.ty ty72
                            have ty94 := xl26.ty ty73
                            have ty95 := xl26.ty ty74
                            have ty96 := xl26.ty ty75
                            have ty97 := xl26.ty ty59
                            have X5 := X4.trans xl29
                            have sk5 := xl29.skl sk4
                            refine c_st (st2 := []) rfl ?_
                            refine c_aload_n (j := 3) (x := a0) C dX11_unreadable_172 rfl ?_
                            refine c_aload_n (j := 3) (x := a0) C dX11_unreadable_173 rfl ?_
                            have ty98 := xl29.ty ty78
                            have re7 : rvh29 a0 6 = rvh26 a0 6 := (fl29.r ty78 rfl 6)
                            rw [re6] at re7
                            refine c_getr (k := 6) C ck_12 dX11_unreadable_174 w2_50 (by decide) ty98 rfl rfl (by decide) rfl re7 ?_
                            refine c_st (st2 := [.ref (sk 15), .ref a0]) rfl ?_
                            have ty99 := xl29.ty ty80
                            have ri153 : 0 ≤ ivh29 (sk 15) 4 ∧ ivh29 (sk 15) 4 ≤ 500 := W29.int ty99 4
                            have ie263 : ivh29 (sk 15) 4 = ivh28 (sk 15) 4 := fl29.i ty80 rfl 4
                            have ie264 : ivh28 (sk 15) 4 = ivh26 (sk 15) 4 := fl28.i ty80 rfl 4
                            have ie265 : ivh26 (sk 15) 4 = ivh24 (sk 15) 4 := fl26.i ty58 rfl 4
                            refine c_get (k := 4) C ck_7 dX11_unreadable_177 w1_142 (by decide) ty99 rfl rfl (by decide) rfl ?_
                            have pl15 := Phi.le W29 sk5
                            refine d_callV (As := [.int (iI (ivh29 (sk 15) 4))]) (rest := []) C hM (C_done (a0 := a0) (x := ivh29 (sk 15) 4) W29 sk5 ty98 (by omega) ) dX11_unreadable_180 kV_X11_109 rfl ty98 rfl rfl (by decide) ck_12 rfl (Nat.le_of_ble_eq_true rfl) ⟨(Nat.le_of_ble_eq_true rfl), (Nat.le_of_ble_eq_true rfl)⟩ hph pl15 (show 0 + 0 = 0 from rfl) (by decide) (fun rh30 Lh30 clh30 lnh30 ivh30 rvh30 h30 => ?_)
                            obtain ⟨f30, rfl, rfl, rfl, rfl, rfl, fl30, W30, rgf30, exf30, kp11f30, kp12f30, kp13f30, kp14f30, kp15f30, kp16f30⟩ := h30
                            have ri154 : 1 ≤ ivh29 a0 11 ∧ ivh29 a0 11 ≤ 100 := W29.int ty98 11
                            have ie266 : ivh29 a0 11 = ivh28 a0 11 := fl29.i ty78 rfl 11
                            have ie267 : ivh28 a0 11 = ivh26 a0 11 := fl28.i ty78 rfl 11
                            have ie268 : ivh26 a0 11 = ivh24 a0 11 := fl26.i ty56 rfl 11
                            have ie269 : ivh24 a0 11 = ivh23 a0 11 := fl24.i ty56 rfl 11
                            have ie270 : ivh23 a0 11 = ivb2 a0 11 := fl23.i ty56 rfl 11
                            have ri155 : 1 ≤ ivh29 a0 12 ∧ ivh29 a0 12 ≤ 50 := W29.int ty98 12
                            have ie272 : ivh29 a0 12 = ivh28 a0 12 := fl29.i ty78 rfl 12
                            have ie273 : ivh28 a0 12 = ivh26 a0 12 := fl28.i ty78 rfl 12
                            have ie274 : ivh26 a0 12 = ivh24 a0 12 := fl26.i ty56 rfl 12
                            have ie275 : ivh24 a0 12 = ivh23 a0 12 := fl24.i ty56 rfl 12
                            have ie276 : ivh23 a0 12 = ivb2 a0 12 := fl23.i ty56 rfl 12
                            have ri156 : (-2147483648) ≤ ivh29 a0 13 ∧ ivh29 a0 13 ≤ 2147483647 := W29.int ty98 13
                            have ie278 : ivh29 a0 13 = ivh28 a0 13 := fl29.i ty78 rfl 13
                            have ie279 : ivh28 a0 13 = ivh26 a0 13 := fl28.i ty78 rfl 13
                            have ie280 : ivh26 a0 13 = ivh24 a0 13 := fl26.i ty56 rfl 13
                            have ie281 : ivh24 a0 13 = ivh23 a0 13 := fl24.i ty56 rfl 13
                            have ie282 : ivh23 a0 13 = ivb2 a0 13 := fl23.i ty56 rfl 13
                            have ri157 : (-2147483648) ≤ ivh29 a0 14 ∧ ivh29 a0 14 ≤ 2147483647 := W29.int ty98 14
                            have ie284 : ivh29 a0 14 = ivh28 a0 14 := fl29.i ty78 rfl 14
                            have ie285 : ivh28 a0 14 = ivh26 a0 14 := fl28.i ty78 rfl 14
                            have ie286 : ivh26 a0 14 = ivh24 a0 14 := fl26.i ty56 rfl 14
                            have ie287 : ivh24 a0 14 = ivh23 a0 14 := fl24.i ty56 rfl 14
                            have ie288 : ivh23 a0 14 = ivb2 a0 14 := fl23.i ty56 rfl 14
                            have ri158 : (-2147483648) ≤ ivh29 a0 15 ∧ ivh29 a0 15 ≤ 2147483647 := W29.int ty98 15
                            have ie290 : ivh29 a0 15 = ivh28 a0 15 := fl29.i ty78 rfl 15
                            have ie291 : ivh28 a0 15 = ivh26 a0 15 := fl28.i ty78 rfl 15
                            have ie292 : ivh26 a0 15 = ivh24 a0 15 := fl26.i ty56 rfl 15
                            have ie293 : ivh24 a0 15 = ivh23 a0 15 := fl24.i ty56 rfl 15
                            have ie294 : ivh23 a0 15 = ivb2 a0 15 := fl23.i ty56 rfl 15
                            have ri159 : (-2147483648) ≤ ivh29 a0 16 ∧ ivh29 a0 16 ≤ 2147483647 := W29.int ty98 16
                            have ie296 : ivh29 a0 16 = ivh28 a0 16 := fl29.i ty78 rfl 16
                            have ie297 : ivh28 a0 16 = ivh26 a0 16 := fl28.i ty78 rfl 16
                            have ie298 : ivh26 a0 16 = ivh24 a0 16 := fl26.i ty56 rfl 16
                            have ie299 : ivh24 a0 16 = ivh23 a0 16 := fl24.i ty56 rfl 16
                            have ie300 : ivh23 a0 16 = ivb2 a0 16 := fl23.i ty56 rfl 16
                            have F29 := F28.call X5 fl30 rfl
                            have mr29 := MRK.call mr28 W29 sk5 XT.refl fl30 rfl rfl
                            refine c_st (st2 := [.int (iI f30)]) rfl ?_
                            have gk11f30 : ivh30 a0 11 = ivh29 a0 11 := kp11f30
                            have gk12f30 : ivh30 a0 12 = ivh29 a0 12 := kp12f30
                            have gk13f30 : ivh30 a0 13 = ivh29 a0 13 := kp13f30
                            have gk14f30 : ivh30 a0 14 = ivh29 a0 14 := kp14f30
                            have gk15f30 : ivh30 a0 15 = ivh29 a0 15 := kp15f30
                            have gk16f30 : ivh30 a0 16 = ivh29 a0 16 := kp16f30
                            have gf30 : f30 = (ivh29 (sk 15) 4) := exf30
                            have ri160 : 1 ≤ ivh30 a0 11 ∧ ivh30 a0 11 ≤ 100 := W30.int ty98 11
                            have ri161 : 1 ≤ ivh30 a0 12 ∧ ivh30 a0 12 ≤ 50 := W30.int ty98 12
                            have ri162 : (-2147483648) ≤ ivh30 a0 13 ∧ ivh30 a0 13 ≤ 2147483647 := W30.int ty98 13
                            have ri163 : (-2147483648) ≤ ivh30 a0 14 ∧ ivh30 a0 14 ≤ 2147483647 := W30.int ty98 14
                            have ri164 : (-2147483648) ≤ ivh30 a0 15 ∧ ivh30 a0 15 ≤ 2147483647 := W30.int ty98 15
                            have ri165 : (-2147483648) ≤ ivh30 a0 16 ∧ ivh30 a0 16 ≤ 2147483647 := W30.int ty98 16
                            exact c_iret C dX11_unreadable_183 rfl (by decide) (rom0 hph pl15 (by decide)) ⟨f30, rfl, X5, F29, W30, ⟨by omega, by omega⟩, trivial, (by omega), (by omega), (by omega), (by omega), (by omega), (by omega), (Eq.trans (show rvh29 a0 9 = rvh26 a0 9 from (fl29.r ty78 rfl 9)) (Eq.trans (show rvh26 a0 9 = rvb2 a0 9 from (fl26.r ty56 rfl 9)) (show rvb2 a0 9 = rv a0 9 from hkr9))), (Eq.trans (show rvh29 a0 10 = rvh26 a0 10 from (fl29.r ty78 rfl 10)) (Eq.trans (show rvh26 a0 10 = rvb2 a0 10 from (fl26.r ty56 rfl 10)) (show rvb2 a0 10 = rv a0 10 from hkr10)))⟩
                      · refine c_aload_n (j := 3) (x := a0) C dX11_unreadable_117 rfl ?_
                        refine c_bipush (z := 8) C dX11_unreadable_118 (by decide) ?_
                        have ty100 := Xb2.ty t_a0
                        have pl16 := Phi.le Wb2 skb2
                        refine d_callV (As := [.int (iI 8)]) (rest := []) C hM (C_refuse (a0 := a0) (x := 8) Wb2 skb2 ty100 ⟨by decide, by decide⟩ ) dX11_unreadable_120 kV_X11_102 rfl ty100 rfl rfl (by decide) ck_12 rfl (Nat.le_of_ble_eq_true rfl) ⟨(Nat.le_of_ble_eq_true rfl), (Nat.le_of_ble_eq_true rfl)⟩ hph pl16 (show 0 + 0 = 0 from rfl) (by decide) (fun rh31 Lh31 clh31 lnh31 ivh31 rvh31 h31 => ?_)
                        obtain ⟨f31, rfl, rfl, rfl, rfl, rfl, fl31, W31, rgf31, exf31, kp11f31, kp12f31, kp13f31, kp14f31, kp15f31, kp16f31⟩ := h31
                        have ri166 : 1 ≤ ivb2 a0 11 ∧ ivb2 a0 11 ≤ 100 := Wb2.int ty100 11
                        have ri167 : 1 ≤ ivb2 a0 12 ∧ ivb2 a0 12 ≤ 50 := Wb2.int ty100 12
                        have ri168 : (-2147483648) ≤ ivb2 a0 13 ∧ ivb2 a0 13 ≤ 2147483647 := Wb2.int ty100 13
                        have ri169 : (-2147483648) ≤ ivb2 a0 14 ∧ ivb2 a0 14 ≤ 2147483647 := Wb2.int ty100 14
                        have ri170 : (-2147483648) ≤ ivb2 a0 15 ∧ ivb2 a0 15 ≤ 2147483647 := Wb2.int ty100 15
                        have ri171 : (-2147483648) ≤ ivb2 a0 16 ∧ ivb2 a0 16 ≤ 2147483647 := Wb2.int ty100 16
                        have F30 := Fb2.call Xb2 fl31 rfl
                        have mr30 := MRK.call mrb2 Wb2 skb2 XT.refl fl31 rfl rfl
                        refine c_st (st2 := [.int (iI f31)]) rfl ?_
                        have gk11f31 : ivh31 a0 11 = ivb2 a0 11 := kp11f31
                        have gk12f31 : ivh31 a0 12 = ivb2 a0 12 := kp12f31
                        have gk13f31 : ivh31 a0 13 = ivb2 a0 13 := kp13f31
                        have gk14f31 : ivh31 a0 14 = ivb2 a0 14 := kp14f31
                        have gk15f31 : ivh31 a0 15 = ivb2 a0 15 := kp15f31
                        have gk16f31 : ivh31 a0 16 = ivb2 a0 16 := kp16f31
                        have gf31 : f31 = -1 := exf31
                        have ri172 : 1 ≤ ivh31 a0 11 ∧ ivh31 a0 11 ≤ 100 := W31.int ty100 11
                        have ri173 : 1 ≤ ivh31 a0 12 ∧ ivh31 a0 12 ≤ 50 := W31.int ty100 12
                        have ri174 : (-2147483648) ≤ ivh31 a0 13 ∧ ivh31 a0 13 ≤ 2147483647 := W31.int ty100 13
                        have ri175 : (-2147483648) ≤ ivh31 a0 14 ∧ ivh31 a0 14 ≤ 2147483647 := W31.int ty100 14
                        have ri176 : (-2147483648) ≤ ivh31 a0 15 ∧ ivh31 a0 15 ≤ 2147483647 := W31.int ty100 15
                        have ri177 : (-2147483648) ≤ ivh31 a0 16 ∧ ivh31 a0 16 ≤ 2147483647 := W31.int ty100 16
                        exact c_iret C dX11_unreadable_123 rfl (by decide) (rom0 hph pl16 (by decide)) ⟨f31, rfl, Xb2, F30, W31, ⟨by omega, by omega⟩, trivial, (by omega), (by omega), (by omega), (by omega), (by omega), (by omega), (show rvb2 a0 9 = rv a0 9 from hkr9), (show rvb2 a0 10 = rv a0 10 from hkr10)⟩
              have ri178 : 1 ≤ ivh20 a0 11 ∧ ivh20 a0 11 ≤ 100 := W20.int ty1 11
              have ie320 : ivh20 a0 11 = ivh19 a0 11 := fl20.i ty1 rfl 11
              have ie321 : ivh19 a0 11 = ivh5 a0 11 := fl19.i ty1 rfl 11
              have ie322 : ivh5 a0 11 = iv a0 11 := fl5.i t_a0 rfl 11
              have ri179 : 1 ≤ ivh20 a0 12 ∧ ivh20 a0 12 ≤ 50 := W20.int ty1 12
              have ie323 : ivh20 a0 12 = ivh19 a0 12 := fl20.i ty1 rfl 12
              have ie324 : ivh19 a0 12 = ivh5 a0 12 := fl19.i ty1 rfl 12
              have ie325 : ivh5 a0 12 = iv a0 12 := fl5.i t_a0 rfl 12
              have ri180 : (-2147483648) ≤ ivh20 a0 13 ∧ ivh20 a0 13 ≤ 2147483647 := W20.int ty1 13
              have ie326 : ivh20 a0 13 = ivh19 a0 13 := fl20.i ty1 rfl 13
              have ie327 : ivh19 a0 13 = ivh5 a0 13 := fl19.i ty1 rfl 13
              have ie328 : ivh5 a0 13 = iv a0 13 := fl5.i t_a0 rfl 13
              have ri181 : (-2147483648) ≤ ivh20 a0 14 ∧ ivh20 a0 14 ≤ 2147483647 := W20.int ty1 14
              have ie329 : ivh20 a0 14 = ivh19 a0 14 := fl20.i ty1 rfl 14
              have ie330 : ivh19 a0 14 = ivh5 a0 14 := fl19.i ty1 rfl 14
              have ie331 : ivh5 a0 14 = iv a0 14 := fl5.i t_a0 rfl 14
              have ri182 : (-2147483648) ≤ ivh20 a0 15 ∧ ivh20 a0 15 ≤ 2147483647 := W20.int ty1 15
              have ie332 : ivh20 a0 15 = ivh19 a0 15 := fl20.i ty1 rfl 15
              have ie333 : ivh19 a0 15 = ivh5 a0 15 := fl19.i ty1 rfl 15
              have ie334 : ivh5 a0 15 = iv a0 15 := fl5.i t_a0 rfl 15
              have ri183 : (-2147483648) ≤ ivh20 a0 16 ∧ ivh20 a0 16 ≤ 2147483647 := W20.int ty1 16
              have ie335 : ivh20 a0 16 = ivh19 a0 16 := fl20.i ty1 rfl 16
              have ie336 : ivh19 a0 16 = ivh5 a0 16 := fl19.i ty1 rfl 16
              have ie337 : ivh5 a0 16 = iv a0 16 := fl5.i t_a0 rfl 16
              refine c_lv (lv2 := [(5, .int (iI f20)), (6, .int (iI 0)), (4, .ref ob1), (0, .ref a0), (1, .int (iI i)), (2, .int (iI n)), (3, .int (iI lim))]) [1, 0, 2, 3, 4, 5, 6] rfl ?_
              exact Lp2 5004 f20 0 _ _ _ _ _ (by omega) X1 W20 F19  (by omega) (by omega) (by show ivh20 a0 11 = iv a0 11; omega) (by show ivh20 a0 12 = iv a0 12; omega) (by show ivh20 a0 13 = iv a0 13; omega) (by show ivh20 a0 14 = iv a0 14; omega) (by show ivh20 a0 15 = iv a0 15; omega) (by show ivh20 a0 16 = iv a0 16; omega) (show rvh5 a0 9 = rv a0 9 from (fl5.r t_a0 rfl 9)) (show rvh5 a0 10 = rv a0 10 from (fl5.r t_a0 rfl 10))
          · subst oq1
            refine c_lv (lv2 := [(4, .null), (0, .ref a0), (1, .int (iI i)), (2, .int (iI n)), (3, .int (iI lim))]) [0, 1, 2, 3, 4] rfl ?_
            refine c_st (st2 := []) rfl ?_
            refine c_aload_n (j := 1) (x := a0) C dX11_unreadable_45 rfl ?_
            refine c_iconst C dX11_unreadable_46 ?_
            refine d_callV (As := [.int (iI 3)]) (rest := []) C hM (C_refuse (a0 := a0) (x := 3) hW hS t_a0 ⟨by decide, by decide⟩ ) dX11_unreadable_47 kV_X11_102 rfl t_a0 rfl rfl (by decide) ck_12 rfl (Nat.le_of_ble_eq_true rfl) ⟨(Nat.le_of_ble_eq_true rfl), (Nat.le_of_ble_eq_true rfl)⟩ hph hph (show 0 + 0 = 0 from rfl) (by decide) (fun rh32 Lh32 clh32 lnh32 ivh32 rvh32 h32 => ?_)
            obtain ⟨f32, rfl, rfl, rfl, rfl, rfl, fl32, W32, rgf32, exf32, kp11f32, kp12f32, kp13f32, kp14f32, kp15f32, kp16f32⟩ := h32
            have ri184 : 1 ≤ iv a0 11 ∧ iv a0 11 ≤ 100 := hW.int t_a0 11
            have ri185 : 1 ≤ iv a0 12 ∧ iv a0 12 ≤ 50 := hW.int t_a0 12
            have ri186 : (-2147483648) ≤ iv a0 13 ∧ iv a0 13 ≤ 2147483647 := hW.int t_a0 13
            have ri187 : (-2147483648) ≤ iv a0 14 ∧ iv a0 14 ≤ 2147483647 := hW.int t_a0 14
            have ri188 : (-2147483648) ≤ iv a0 15 ∧ iv a0 15 ≤ 2147483647 := hW.int t_a0 15
            have ri189 : (-2147483648) ≤ iv a0 16 ∧ iv a0 16 ≤ 2147483647 := hW.int t_a0 16
            have F31 := hF0.call hX0 fl32 rfl
            have mr31 := MRK.call hmr hW hS XT.refl fl32 rfl rfl
            refine c_st (st2 := [.int (iI f32)]) rfl ?_
            have gk11f32 : ivh32 a0 11 = iv a0 11 := kp11f32
            have gk12f32 : ivh32 a0 12 = iv a0 12 := kp12f32
            have gk13f32 : ivh32 a0 13 = iv a0 13 := kp13f32
            have gk14f32 : ivh32 a0 14 = iv a0 14 := kp14f32
            have gk15f32 : ivh32 a0 15 = iv a0 15 := kp15f32
            have gk16f32 : ivh32 a0 16 = iv a0 16 := kp16f32
            have gf32 : f32 = -1 := exf32
            have ri190 : 1 ≤ ivh32 a0 11 ∧ ivh32 a0 11 ≤ 100 := W32.int t_a0 11
            have ri191 : 1 ≤ ivh32 a0 12 ∧ ivh32 a0 12 ≤ 50 := W32.int t_a0 12
            have ri192 : (-2147483648) ≤ ivh32 a0 13 ∧ ivh32 a0 13 ≤ 2147483647 := W32.int t_a0 13
            have ri193 : (-2147483648) ≤ ivh32 a0 14 ∧ ivh32 a0 14 ≤ 2147483647 := W32.int t_a0 14
            have ri194 : (-2147483648) ≤ ivh32 a0 15 ∧ ivh32 a0 15 ≤ 2147483647 := W32.int t_a0 15
            have ri195 : (-2147483648) ≤ ivh32 a0 16 ∧ ivh32 a0 16 ≤ 2147483647 := W32.int t_a0 16
            exact c_iret C dX11_unreadable_50 rfl (by decide) (rom0 hph hph (by decide)) ⟨f32, rfl, hX0, F31, W32, ⟨by omega, by omega⟩, trivial, (by omega), (by omega), (by omega), (by omega), (by omega), (by omega), rfl, rfl⟩
        · refine c_aload_n (j := 0) (x := a0) C dX11_unreadable_23 rfl ?_
          refine c_bipush (z := 6) C dX11_unreadable_24 (by decide) ?_
          refine d_callV (As := [.int (iI 6)]) (rest := []) C hM (C_refuse (a0 := a0) (x := 6) hW hS t_a0 ⟨by decide, by decide⟩ ) dX11_unreadable_26 kV_X11_102 rfl t_a0 rfl rfl (by decide) ck_12 rfl (Nat.le_of_ble_eq_true rfl) ⟨(Nat.le_of_ble_eq_true rfl), (Nat.le_of_ble_eq_true rfl)⟩ hph hph (show 0 + 0 = 0 from rfl) (by decide) (fun rh33 Lh33 clh33 lnh33 ivh33 rvh33 h33 => ?_)
          obtain ⟨f33, rfl, rfl, rfl, rfl, rfl, fl33, W33, rgf33, exf33, kp11f33, kp12f33, kp13f33, kp14f33, kp15f33, kp16f33⟩ := h33
          have ri196 : 1 ≤ iv a0 11 ∧ iv a0 11 ≤ 100 := hW.int t_a0 11
          have ri197 : 1 ≤ iv a0 12 ∧ iv a0 12 ≤ 50 := hW.int t_a0 12
          have ri198 : (-2147483648) ≤ iv a0 13 ∧ iv a0 13 ≤ 2147483647 := hW.int t_a0 13
          have ri199 : (-2147483648) ≤ iv a0 14 ∧ iv a0 14 ≤ 2147483647 := hW.int t_a0 14
          have ri200 : (-2147483648) ≤ iv a0 15 ∧ iv a0 15 ≤ 2147483647 := hW.int t_a0 15
          have ri201 : (-2147483648) ≤ iv a0 16 ∧ iv a0 16 ≤ 2147483647 := hW.int t_a0 16
          have F32 := hF0.call hX0 fl33 rfl
          have mr32 := MRK.call hmr hW hS XT.refl fl33 rfl rfl
          refine c_st (st2 := [.int (iI f33)]) rfl ?_
          have gk11f33 : ivh33 a0 11 = iv a0 11 := kp11f33
          have gk12f33 : ivh33 a0 12 = iv a0 12 := kp12f33
          have gk13f33 : ivh33 a0 13 = iv a0 13 := kp13f33
          have gk14f33 : ivh33 a0 14 = iv a0 14 := kp14f33
          have gk15f33 : ivh33 a0 15 = iv a0 15 := kp15f33
          have gk16f33 : ivh33 a0 16 = iv a0 16 := kp16f33
          have gf33 : f33 = -1 := exf33
          have ri202 : 1 ≤ ivh33 a0 11 ∧ ivh33 a0 11 ≤ 100 := W33.int t_a0 11
          have ri203 : 1 ≤ ivh33 a0 12 ∧ ivh33 a0 12 ≤ 50 := W33.int t_a0 12
          have ri204 : (-2147483648) ≤ ivh33 a0 13 ∧ ivh33 a0 13 ≤ 2147483647 := W33.int t_a0 13
          have ri205 : (-2147483648) ≤ ivh33 a0 14 ∧ ivh33 a0 14 ≤ 2147483647 := W33.int t_a0 14
          have ri206 : (-2147483648) ≤ ivh33 a0 15 ∧ ivh33 a0 15 ≤ 2147483647 := W33.int t_a0 15
          have ri207 : (-2147483648) ≤ ivh33 a0 16 ∧ ivh33 a0 16 ≤ 2147483647 := W33.int t_a0 16
          exact c_iret C dX11_unreadable_29 rfl (by decide) (rom0 hph hph (by decide)) ⟨f33, rfl, hX0, F32, W33, ⟨by omega, by omega⟩, trivial, (by omega), (by omega), (by omega), (by omega), (by omega), (by omega), rfl, rfl⟩
set_option maxHeartbeats 4000000 in
set_option maxRecDepth 100000 in
theorem C_readings {l : Launch} {G : GT} {mi : Nat} {sk : Nat → Nat} {L : List Nat} {cl ln : Nat → Nat} {iv : Nat → Nat → Int} {rv : Nat → Nat → Option Nat}  {a0 : Nat} {i : Int} {j : Int} {n : Int} (hW : WT (g0 G) sk L cl ln iv rv) (hS : SKL sk L cl) (t_a0 : ty L cl a0 1) (h_i : -2147483648 ≤ i ∧ i ≤ 2147483647) (h_j : -2147483648 ≤ j ∧ j ≤ 2147483647) (h_n : -2147483648 ≤ n ∧ n ≤ 2147483647) (hmr : MRK sk cl iv rv) : Mc l G mi (Phi (g0 G) sk) PHM yX11_readings cX11_readings 6 (some .int) 10 [.ref a0, .int (iI i), .int (iI j), .int (iI n)] L cl ln iv rv 0 (fun v L2 cl2 ln2 iv2 rv2 => ∃ f : Int, v = some (.int (iI f)) ∧ XT L cl ln L2 cl2 ln2 ∧ fT [1, 24, 1002, 25, 1003, 6, 36, 7, 37, 17, 63, 59, 60, 61, 62, 11, 41] L cl iv rv iv2 rv2 ∧ WT (g0 G) sk L2 cl2 ln2 iv2 rv2 ∧ (-2147483648 ≤ f ∧ f ≤ 2147483647) ∧ (True) ∧ iv2 a0 11 = iv a0 11 ∧ iv2 a0 12 = iv a0 12 ∧ iv2 a0 13 = iv a0 13 ∧ iv2 a0 14 = iv a0 14 ∧ iv2 a0 15 = iv a0 15 ∧ iv2 a0 16 = iv a0 16 ∧ rv2 a0 9 = rv a0 9 ∧ rv2 a0 10 = rv a0 10) := by
  refine Mc.mk (by decide) (Nat.le_of_ble_eq_true rfl) ?_
  intro p e s m args below meth c A C hM
  have hph := Phi.le hW hS
  have tsk2 : ty L cl (sk 2) 2 := ⟨(hS 2 rfl).1, by rw [(hS 2 rfl).2]; rfl⟩
  have tsk3 : ty L cl (sk 3) 3 := ⟨(hS 3 rfl).1, by rw [(hS 3 rfl).2]; rfl⟩
  have tsk4 : ty L cl (sk 4) 4 := ⟨(hS 4 rfl).1, by rw [(hS 4 rfl).2]; rfl⟩
  have tsk5 : ty L cl (sk 5) 5 := ⟨(hS 5 rfl).1, by rw [(hS 5 rfl).2]; rfl⟩
  have tsk6 : ty L cl (sk 6) 6 := ⟨(hS 6 rfl).1, by rw [(hS 6 rfl).2]; rfl⟩
  have tsk7 : ty L cl (sk 7) 7 := ⟨(hS 7 rfl).1, by rw [(hS 7 rfl).2]; rfl⟩
  have tsk8 : ty L cl (sk 8) 8 := ⟨(hS 8 rfl).1, by rw [(hS 8 rfl).2]; rfl⟩
  have tsk9 : ty L cl (sk 9) 9 := ⟨(hS 9 rfl).1, by rw [(hS 9 rfl).2]; rfl⟩
  have tsk10 : ty L cl (sk 10) 10 := ⟨(hS 10 rfl).1, by rw [(hS 10 rfl).2]; rfl⟩
  have tsk13 : ty L cl (sk 13) 13 := ⟨(hS 13 rfl).1, by rw [(hS 13 rfl).2]; rfl⟩
  have tsk14 : ty L cl (sk 14) 14 := ⟨(hS 14 rfl).1, by rw [(hS 14 rfl).2]; rfl⟩
  have tsk15 : ty L cl (sk 15) 15 := ⟨(hS 15 rfl).1, by rw [(hS 15 rfl).2]; rfl⟩
  have tsk16 : ty L cl (sk 16) 16 := ⟨(hS 16 rfl).1, by rw [(hS 16 rfl).2]; rfl⟩
  have tsk17 : ty L cl (sk 17) 17 := ⟨(hS 17 rfl).1, by rw [(hS 17 rfl).2]; rfl⟩
  have tsk22 : ty L cl (sk 22) 22 := ⟨(hS 22 rfl).1, by rw [(hS 22 rfl).2]; rfl⟩
  have tsk23 : ty L cl (sk 23) 23 := ⟨(hS 23 rfl).1, by rw [(hS 23 rfl).2]; rfl⟩
  have tsk24 : ty L cl (sk 24) 24 := ⟨(hS 24 rfl).1, by rw [(hS 24 rfl).2]; rfl⟩
  have tsk25 : ty L cl (sk 25) 25 := ⟨(hS 25 rfl).1, by rw [(hS 25 rfl).2]; rfl⟩
  have hX0 : XT L cl ln L cl ln := XT.refl
  have hF0 : fT [1, 24, 1002, 25, 1003, 6, 36, 7, 37, 17, 63, 59, 60, 61, 62, 11, 41] L cl iv rv iv rv := fT.refl
  refine c_iload_n (j := 3) C dX11_readings_0 rfl ?_
  refine c_iconst C dX11_readings_1 ?_
  refine c_icmp_lt (tgt := 11) C ⟨by omega, by omega⟩ ⟨by decide, by decide⟩ dX11_readings_2 (by decide) (fun c1 => ?_) (fun c1 => ?_)
  · refine c_aload_n (j := 0) (x := a0) C dX11_readings_11 rfl ?_
    refine c_bipush (z := 6) C dX11_readings_12 (by decide) ?_
    refine d_callV (As := [.int (iI 6)]) (rest := []) C hM (C_refuse (a0 := a0) (x := 6) hW hS t_a0 ⟨by decide, by decide⟩ ) dX11_readings_14 kV_X11_102 rfl t_a0 rfl rfl (by decide) ck_12 rfl (Nat.le_of_ble_eq_true rfl) ⟨(Nat.le_of_ble_eq_true rfl), (Nat.le_of_ble_eq_true rfl)⟩ hph hph (show 0 + 0 = 0 from rfl) (by decide) (fun rh1 Lh1 clh1 lnh1 ivh1 rvh1 h1 => ?_)
    obtain ⟨f1, rfl, rfl, rfl, rfl, rfl, fl1, W1, rgf1, exf1, kp11f1, kp12f1, kp13f1, kp14f1, kp15f1, kp16f1⟩ := h1
    have ri1 : 1 ≤ iv a0 11 ∧ iv a0 11 ≤ 100 := hW.int t_a0 11
    have ri2 : 1 ≤ iv a0 12 ∧ iv a0 12 ≤ 50 := hW.int t_a0 12
    have ri3 : (-2147483648) ≤ iv a0 13 ∧ iv a0 13 ≤ 2147483647 := hW.int t_a0 13
    have ri4 : (-2147483648) ≤ iv a0 14 ∧ iv a0 14 ≤ 2147483647 := hW.int t_a0 14
    have ri5 : (-2147483648) ≤ iv a0 15 ∧ iv a0 15 ≤ 2147483647 := hW.int t_a0 15
    have ri6 : (-2147483648) ≤ iv a0 16 ∧ iv a0 16 ≤ 2147483647 := hW.int t_a0 16
    have F1 := hF0.call hX0 fl1 rfl
    have mr1 := MRK.call hmr hW hS XT.refl fl1 rfl rfl
    refine c_st (st2 := [.int (iI f1)]) rfl ?_
    have gk11f1 : ivh1 a0 11 = iv a0 11 := kp11f1
    have gk12f1 : ivh1 a0 12 = iv a0 12 := kp12f1
    have gk13f1 : ivh1 a0 13 = iv a0 13 := kp13f1
    have gk14f1 : ivh1 a0 14 = iv a0 14 := kp14f1
    have gk15f1 : ivh1 a0 15 = iv a0 15 := kp15f1
    have gk16f1 : ivh1 a0 16 = iv a0 16 := kp16f1
    have gf1 : f1 = -1 := exf1
    have ri7 : 1 ≤ ivh1 a0 11 ∧ ivh1 a0 11 ≤ 100 := W1.int t_a0 11
    have ri8 : 1 ≤ ivh1 a0 12 ∧ ivh1 a0 12 ≤ 50 := W1.int t_a0 12
    have ri9 : (-2147483648) ≤ ivh1 a0 13 ∧ ivh1 a0 13 ≤ 2147483647 := W1.int t_a0 13
    have ri10 : (-2147483648) ≤ ivh1 a0 14 ∧ ivh1 a0 14 ≤ 2147483647 := W1.int t_a0 14
    have ri11 : (-2147483648) ≤ ivh1 a0 15 ∧ ivh1 a0 15 ≤ 2147483647 := W1.int t_a0 15
    have ri12 : (-2147483648) ≤ ivh1 a0 16 ∧ ivh1 a0 16 ≤ 2147483647 := W1.int t_a0 16
    exact c_iret C dX11_readings_17 rfl (by decide) (rom0 hph hph (by decide)) ⟨f1, rfl, hX0, F1, W1, ⟨by omega, by omega⟩, trivial, (by omega), (by omega), (by omega), (by omega), (by omega), (by omega), rfl, rfl⟩
  · refine c_iload_n (j := 3) C dX11_readings_5 rfl ?_
    refine c_bipush (z := 50) C dX11_readings_6 (by decide) ?_
    refine c_icmp_le (tgt := 18) C ⟨by omega, by omega⟩ ⟨by decide, by decide⟩ dX11_readings_8 (by decide) (fun c2 => ?_) (fun c2 => ?_)
    · refine c_aload_n (j := 0) (x := a0) C dX11_readings_18 rfl ?_
      obtain ⟨rb1, rq1, trb1⟩ := hW.ref t_a0 4 rfl rfl rfl
      have erb1 := hW.sk trb1 (by decide) rfl
      subst erb1
      refine c_getr (k := 4) C ck_12 dX11_readings_19 w2_48 (by decide) t_a0 rfl rfl (by decide) rfl rq1 ?_
      refine c_st (st2 := [.ref (sk 13)]) rfl ?_
      refine c_iload_n (j := 1) C dX11_readings_22 rfl ?_
      refine d_callV (As := [.int (iI i)]) (rest := []) C hM (C_whole (a0 := (sk 13)) (i := i) hW hS tsk13 (by omega) hmr) dX11_readings_23 kV_X11_231 rfl tsk13 rfl rfl (by decide) ck_11 rfl (Nat.le_of_ble_eq_true rfl) ⟨(Nat.le_of_ble_eq_true rfl), (Nat.le_of_ble_eq_true rfl)⟩ hph hph (show 0 + 0 = 0 from rfl) (by decide) (fun rh2 Lh2 clh2 lnh2 ivh2 rvh2 h2 => ?_)
      obtain ⟨f2, rfl, rfl, rfl, rfl, rfl, rfl, rgf2, exf2⟩ := h2
      refine c_st (st2 := [(va_rf f2)]) rfl ?_
      refine c_astorer (r := f2) (lv2 := [(4, (va_rf f2)), (0, .ref a0), (1, .int (iI i)), (2, .int (iI j)), (3, .int (iI n))]) C dX11_readings_26 (by decide) rfl ?_
      refine c_aloadr (j := 0) (r := f2) C dX11_readings_28 rfl ?_
      refine c_ifnonnull (r := f2) (tgt := 39) C dX11_readings_30 (by decide) (fun ob1 oq1 => ?_) (fun oq1 => ?_)
      · subst oq1
        have tob1 := rgf2 ob1 rfl
        refine c_lv (lv2 := [(4, .ref ob1), (0, .ref a0), (1, .int (iI i)), (2, .int (iI j)), (3, .int (iI n))]) [0, 1, 2, 3, 4] rfl ?_
        refine c_st (st2 := []) rfl ?_
        refine c_aload_n (j := 1) (x := a0) C dX11_readings_39 rfl ?_
        obtain ⟨rb2, rq2, trb2⟩ := hW.ref t_a0 9 rfl rfl rfl
        refine c_getr (k := 9) C ck_12 dX11_readings_40 w2_53 (by decide) t_a0 rfl rfl (by decide) rfl rq2 ?_
        refine c_st (st2 := [.ref rb2]) rfl ?_
        refine c_iload_n (j := 3) C dX11_readings_43 rfl ?_
        have ri13 : 0 ≤ iv rb2 1 ∧ iv rb2 1 ≤ 200 := hW.int trb2 1
        refine d_callV (As := [.int (iI j)]) (rest := []) C hM (C_present (a0 := rb2) (i := j) hW hS trb2 (by omega) ) dX11_readings_44 kV_X11_288 rfl trb2 rfl rfl (by decide) ck_8 rfl (Nat.le_of_ble_eq_true rfl) ⟨(Nat.le_of_ble_eq_true rfl), (Nat.le_of_ble_eq_true rfl)⟩ hph hph (show 0 + 0 = 0 from rfl) (by decide) (fun rh3 Lh3 clh3 lnh3 ivh3 rvh3 h3 => ?_)
        obtain ⟨f3, rfl, rfl, rfl, rfl, rfl, rfl, rgf3, exf3⟩ := h3
        refine c_st (st2 := [(va_rf f3)]) rfl ?_
        have gf3 : f3 = none ∨ (0 ≤ j ∧ j < iv rb2 1) := exf3
        refine c_astorer (r := f3) (lv2 := [(5, (va_rf f3)), (4, .ref ob1), (0, .ref a0), (1, .int (iI i)), (2, .int (iI j)), (3, .int (iI n))]) C dX11_readings_47 (by decide) rfl ?_
        refine c_aloadr (j := 0) (r := f3) C dX11_readings_49 rfl ?_
        refine c_ifnonnull (r := f3) (tgt := 67) C dX11_readings_51 (by decide) (fun ob2 oq2 => ?_) (fun oq2 => ?_)
        · subst oq2
          have tob2 := rgf3 ob2 rfl
          refine c_lv (lv2 := [(5, .ref ob2), (4, .ref ob1), (0, .ref a0), (1, .int (iI i)), (2, .int (iI j)), (3, .int (iI n))]) [0, 1, 2, 3, 4, 5] rfl ?_
          refine c_st (st2 := []) rfl ?_
          refine c_aload (j := 0) (x := ob2) C dX11_readings_67 rfl ?_
          have ri14 : 0 ≤ iv ob2 1 ∧ iv ob2 1 ≤ 200 := hW.int tob2 1
          refine c_get (k := 1) C ck_3 dX11_readings_69 w4_53 (by decide) tob2 rfl rfl (by decide) rfl ?_
          refine c_bipush (z := 100) C dX11_readings_72 (by decide) ?_
          refine c_icmp_le (tgt := 84) C ⟨by omega, by omega⟩ ⟨by decide, by decide⟩ dX11_readings_74 (by decide) (fun c3 => ?_) (fun c3 => ?_)
          · refine c_aload_n (j := 2) (x := a0) C dX11_readings_84 rfl ?_
            obtain ⟨rb3, rq3, trb3⟩ := hW.ref t_a0 7 rfl rfl rfl
            have erb3 := hW.sk trb3 (by decide) rfl
            subst erb3
            refine c_getr (k := 7) C ck_12 dX11_readings_85 w2_51 (by decide) t_a0 rfl rfl (by decide) rfl rq3 ?_
            refine c_st (st2 := [.ref (sk 16)]) rfl ?_
            refine c_aload (j := 1) (x := ob1) C dX11_readings_88 rfl ?_
            refine d_callV (As := [.ref ob1]) (rest := []) C hM (C_gather (a0 := (sk 16)) (a1 := ob1) hW hS tsk16 tob1  ) dX11_readings_90 kV_X11_331 rfl tsk16 rfl rfl (by decide) ck_4 rfl (Nat.le_of_ble_eq_true rfl) ⟨(Nat.le_of_ble_eq_true rfl), (Nat.le_of_ble_eq_true rfl)⟩ hph hph (show 0 + 0 = 0 from rfl) (by decide) (fun rh4 Lh4 clh4 lnh4 ivh4 rvh4 h4 => ?_)
            obtain ⟨rfl, xl4, fl4, W4, exf4⟩ := h4
            have F2 := hF0.call hX0 fl4 rfl
            have mr2 := MRK.call hmr hW hS xl4 fl4 rfl rfl
            have X1 := hX0.trans xl4
            have sk1 := xl4.skl hS
            refine c_st (st2 := []) rfl ?_
            refine c_aload_n (j := 2) (x := a0) C dX11_readings_93 rfl ?_
            have ty1 := xl4.ty t_a0
            obtain ⟨rb4, rq4, trb4⟩ := W4.ref ty1 8 rfl rfl rfl
            have erb4 := W4.sk trb4 (by decide) rfl
            subst erb4
            refine c_getr (k := 8) C ck_12 dX11_readings_94 w2_52 (by decide) ty1 rfl rfl (by decide) rfl rq4 ?_
            refine c_st (st2 := [.ref (sk 17)]) rfl ?_
            refine c_aload (j := 0) (x := ob2) C dX11_readings_97 rfl ?_
            refine c_sipush (z := 255) C dX11_readings_99 (by decide) ?_
            refine c_aload_n (j := 2) (x := a0) C dX11_readings_102 rfl ?_
            have ri15 : (-2147483648) ≤ ivh4 a0 14 ∧ ivh4 a0 14 ≤ 2147483647 := W4.int ty1 14
            have ie7 : ivh4 a0 14 = iv a0 14 := fl4.i t_a0 rfl 14
            refine c_get (k := 14) C ck_12 dX11_readings_103 w2_58 (by decide) ty1 rfl rfl (by decide) rfl ?_
            refine c_iconst C dX11_readings_106 ?_
            obtain ⟨zz1, hzz1, ezz1⟩ := iI_of (iI (ivh4 a0 14) ^^^ iI (-1))
            refine c_ixor (w := iI zz1) C dX11_readings_107 ezz1 ?_
            obtain ⟨zz2, hzz2, ezz2⟩ := iI_of (iI 255 &&& iI zz1)
            refine c_iand (w := iI zz2) C dX11_readings_108 ezz2 ?_
            refine c_iload_n (j := 5) C dX11_readings_109 rfl ?_
            have ty2 := xl4.ty tsk17
            have ty3 := xl4.ty tob2
            have pl1 := Phi.le W4 sk1
            refine d_callV (As := [.ref ob2, .int (iI zz2), .int (iI n)]) (rest := []) C hM (C_collect (a0 := (sk 17)) (a1 := ob2) (x := zz2) (y := n) W4 sk1 ty2 ty3 (by omega) (by omega) ) dX11_readings_110 kV_X11_356 rfl ty2 rfl rfl (by decide) ck_5 rfl (Nat.le_of_ble_eq_true rfl) ⟨(Nat.le_of_ble_eq_true rfl), (Nat.le_of_ble_eq_true rfl)⟩ hph pl1 (show 0 + 0 = 0 from rfl) (by decide) (fun rh5 Lh5 clh5 lnh5 ivh5 rvh5 h5 => ?_)
            obtain ⟨rfl, xl5, fl5, W5, exf5⟩ := h5
            have F3 := F2.call X1 fl5 rfl
            have mr3 := MRK.call mr2 W4 sk1 xl5 fl5 rfl rfl
            have ty4 := xl4.ty tsk2
            have ty5 := xl4.ty tsk3
            have ty6 := xl4.ty tsk4
            have ty7 := xl4.ty tsk5
            have ty8 := xl4.ty tsk6
            have ty9 := xl4.ty tsk7
            have ty10 := xl4.ty tsk8
            have ty11 := xl4.ty tsk9
            have ty12 := xl4.ty tsk10
            have ty13 := xl4.ty tsk13
            have ty14 := xl4.ty tsk14
            have ty15 := xl4.ty tsk15
            have ty16 := xl4.ty tsk16
            have ty17 := xl4.ty tsk22
            have ty18 := xl4.ty tsk23
            have ty19 := xl4.ty tsk24
            have ty20 := xl4.ty tsk25
            have ty21 := xl4.ty tob1
            have ty22 := xl4.ty trb2
            have X2 := X1.trans xl5
            have sk2 := xl5.skl sk1
            refine c_st (st2 := []) rfl ?_
            refine c_aload_n (j := 2) (x := a0) C dX11_readings_113 rfl ?_
            refine c_aload_n (j := 2) (x := a0) C dX11_readings_114 rfl ?_
            have ty23 := xl5.ty ty1
            have re1 : rvh5 a0 8 = rvh4 a0 8 := (fl5.r ty1 rfl 8)
            rw [rq4] at re1
            refine c_getr (k := 8) C ck_12 dX11_readings_115 w2_52 (by decide) ty23 rfl rfl (by decide) rfl re1 ?_
            refine c_st (st2 := [.ref (sk 17), .ref a0]) rfl ?_
            have ty24 := xl5.ty ty2
            have ri16 : 0 ≤ ivh5 (sk 17) 5 ∧ ivh5 (sk 17) 5 ≤ 50 := W5.int ty24 5
            refine c_get (k := 5) C ck_5 dX11_readings_118 w1_235 (by decide) ty24 rfl rfl (by decide) rfl ?_
            have pl2 := Phi.le W5 sk2
            refine d_callV (As := [.int (iI (ivh5 (sk 17) 5))]) (rest := []) C hM (C_done (a0 := a0) (x := ivh5 (sk 17) 5) W5 sk2 ty23 (by omega) ) dX11_readings_121 kV_X11_109 rfl ty23 rfl rfl (by decide) ck_12 rfl (Nat.le_of_ble_eq_true rfl) ⟨(Nat.le_of_ble_eq_true rfl), (Nat.le_of_ble_eq_true rfl)⟩ hph pl2 (show 0 + 0 = 0 from rfl) (by decide) (fun rh6 Lh6 clh6 lnh6 ivh6 rvh6 h6 => ?_)
            obtain ⟨f6, rfl, rfl, rfl, rfl, rfl, fl6, W6, rgf6, exf6, kp11f6, kp12f6, kp13f6, kp14f6, kp15f6, kp16f6⟩ := h6
            have ri17 : 1 ≤ ivh5 a0 11 ∧ ivh5 a0 11 ≤ 100 := W5.int ty23 11
            have ie9 : ivh5 a0 11 = ivh4 a0 11 := fl5.i ty1 rfl 11
            have ie10 : ivh4 a0 11 = iv a0 11 := fl4.i t_a0 rfl 11
            have ri18 : 1 ≤ ivh5 a0 12 ∧ ivh5 a0 12 ≤ 50 := W5.int ty23 12
            have ie11 : ivh5 a0 12 = ivh4 a0 12 := fl5.i ty1 rfl 12
            have ie12 : ivh4 a0 12 = iv a0 12 := fl4.i t_a0 rfl 12
            have ri19 : (-2147483648) ≤ ivh5 a0 13 ∧ ivh5 a0 13 ≤ 2147483647 := W5.int ty23 13
            have ie13 : ivh5 a0 13 = ivh4 a0 13 := fl5.i ty1 rfl 13
            have ie14 : ivh4 a0 13 = iv a0 13 := fl4.i t_a0 rfl 13
            have ri20 : (-2147483648) ≤ ivh5 a0 14 ∧ ivh5 a0 14 ≤ 2147483647 := W5.int ty23 14
            have ie15 : ivh5 a0 14 = ivh4 a0 14 := fl5.i ty1 rfl 14
            have ri21 : (-2147483648) ≤ ivh5 a0 15 ∧ ivh5 a0 15 ≤ 2147483647 := W5.int ty23 15
            have ie16 : ivh5 a0 15 = ivh4 a0 15 := fl5.i ty1 rfl 15
            have ie17 : ivh4 a0 15 = iv a0 15 := fl4.i t_a0 rfl 15
            have ri22 : (-2147483648) ≤ ivh5 a0 16 ∧ ivh5 a0 16 ≤ 2147483647 := W5.int ty23 16
            have ie18 : ivh5 a0 16 = ivh4 a0 16 := fl5.i ty1 rfl 16
            have ie19 : ivh4 a0 16 = iv a0 16 := fl4.i t_a0 rfl 16
            have F4 := F3.call X2 fl6 rfl
            have mr4 := MRK.call mr3 W5 sk2 XT.refl fl6 rfl rfl
            refine c_st (st2 := [.int (iI f6)]) rfl ?_
            have gk11f6 : ivh6 a0 11 = ivh5 a0 11 := kp11f6
            have gk12f6 : ivh6 a0 12 = ivh5 a0 12 := kp12f6
            have gk13f6 : ivh6 a0 13 = ivh5 a0 13 := kp13f6
            have gk14f6 : ivh6 a0 14 = ivh5 a0 14 := kp14f6
            have gk15f6 : ivh6 a0 15 = ivh5 a0 15 := kp15f6
            have gk16f6 : ivh6 a0 16 = ivh5 a0 16 := kp16f6
            have gf6 : f6 = (ivh5 (sk 17) 5) := exf6
            have ri23 : 1 ≤ ivh6 a0 11 ∧ ivh6 a0 11 ≤ 100 := W6.int ty23 11
            have ri24 : 1 ≤ ivh6 a0 12 ∧ ivh6 a0 12 ≤ 50 := W6.int ty23 12
            have ri25 : (-2147483648) ≤ ivh6 a0 13 ∧ ivh6 a0 13 ≤ 2147483647 := W6.int ty23 13
            have ri26 : (-2147483648) ≤ ivh6 a0 14 ∧ ivh6 a0 14 ≤ 2147483647 := W6.int ty23 14
            have ri27 : (-2147483648) ≤ ivh6 a0 15 ∧ ivh6 a0 15 ≤ 2147483647 := W6.int ty23 15
            have ri28 : (-2147483648) ≤ ivh6 a0 16 ∧ ivh6 a0 16 ≤ 2147483647 := W6.int ty23 16
            exact c_iret C dX11_readings_124 rfl (by decide) (rom0 hph pl2 (by decide)) ⟨f6, rfl, X2, F4, W6, ⟨by omega, by omega⟩, trivial, (by omega), (by omega), (by omega), (by omega), (by omega), (by omega), (Eq.trans (show rvh5 a0 9 = rvh4 a0 9 from (fl5.r ty1 rfl 9)) (show rvh4 a0 9 = rv a0 9 from (fl4.r t_a0 rfl 9))), (Eq.trans (show rvh5 a0 10 = rvh4 a0 10 from (fl5.r ty1 rfl 10)) (show rvh4 a0 10 = rv a0 10 from (fl4.r t_a0 rfl 10)))⟩
          · refine c_aload_n (j := 2) (x := a0) C dX11_readings_77 rfl ?_
            refine c_bipush (z := 6) C dX11_readings_78 (by decide) ?_
            refine d_callV (As := [.int (iI 6)]) (rest := []) C hM (C_refuse (a0 := a0) (x := 6) hW hS t_a0 ⟨by decide, by decide⟩ ) dX11_readings_80 kV_X11_102 rfl t_a0 rfl rfl (by decide) ck_12 rfl (Nat.le_of_ble_eq_true rfl) ⟨(Nat.le_of_ble_eq_true rfl), (Nat.le_of_ble_eq_true rfl)⟩ hph hph (show 0 + 0 = 0 from rfl) (by decide) (fun rh7 Lh7 clh7 lnh7 ivh7 rvh7 h7 => ?_)
            obtain ⟨f7, rfl, rfl, rfl, rfl, rfl, fl7, W7, rgf7, exf7, kp11f7, kp12f7, kp13f7, kp14f7, kp15f7, kp16f7⟩ := h7
            have ri29 : 1 ≤ iv a0 11 ∧ iv a0 11 ≤ 100 := hW.int t_a0 11
            have ri30 : 1 ≤ iv a0 12 ∧ iv a0 12 ≤ 50 := hW.int t_a0 12
            have ri31 : (-2147483648) ≤ iv a0 13 ∧ iv a0 13 ≤ 2147483647 := hW.int t_a0 13
            have ri32 : (-2147483648) ≤ iv a0 14 ∧ iv a0 14 ≤ 2147483647 := hW.int t_a0 14
            have ri33 : (-2147483648) ≤ iv a0 15 ∧ iv a0 15 ≤ 2147483647 := hW.int t_a0 15
            have ri34 : (-2147483648) ≤ iv a0 16 ∧ iv a0 16 ≤ 2147483647 := hW.int t_a0 16
            have F5 := hF0.call hX0 fl7 rfl
            have mr5 := MRK.call hmr hW hS XT.refl fl7 rfl rfl
            refine c_st (st2 := [.int (iI f7)]) rfl ?_
            have gk11f7 : ivh7 a0 11 = iv a0 11 := kp11f7
            have gk12f7 : ivh7 a0 12 = iv a0 12 := kp12f7
            have gk13f7 : ivh7 a0 13 = iv a0 13 := kp13f7
            have gk14f7 : ivh7 a0 14 = iv a0 14 := kp14f7
            have gk15f7 : ivh7 a0 15 = iv a0 15 := kp15f7
            have gk16f7 : ivh7 a0 16 = iv a0 16 := kp16f7
            have gf7 : f7 = -1 := exf7
            have ri35 : 1 ≤ ivh7 a0 11 ∧ ivh7 a0 11 ≤ 100 := W7.int t_a0 11
            have ri36 : 1 ≤ ivh7 a0 12 ∧ ivh7 a0 12 ≤ 50 := W7.int t_a0 12
            have ri37 : (-2147483648) ≤ ivh7 a0 13 ∧ ivh7 a0 13 ≤ 2147483647 := W7.int t_a0 13
            have ri38 : (-2147483648) ≤ ivh7 a0 14 ∧ ivh7 a0 14 ≤ 2147483647 := W7.int t_a0 14
            have ri39 : (-2147483648) ≤ ivh7 a0 15 ∧ ivh7 a0 15 ≤ 2147483647 := W7.int t_a0 15
            have ri40 : (-2147483648) ≤ ivh7 a0 16 ∧ ivh7 a0 16 ≤ 2147483647 := W7.int t_a0 16
            exact c_iret C dX11_readings_83 rfl (by decide) (rom0 hph hph (by decide)) ⟨f7, rfl, hX0, F5, W7, ⟨by omega, by omega⟩, trivial, (by omega), (by omega), (by omega), (by omega), (by omega), (by omega), rfl, rfl⟩
        · subst oq2
          refine c_lv (lv2 := [(5, .null), (4, .ref ob1), (0, .ref a0), (1, .int (iI i)), (2, .int (iI j)), (3, .int (iI n))]) [0, 1, 2, 3, 4, 5] rfl ?_
          refine c_st (st2 := []) rfl ?_
          refine c_aload_n (j := 2) (x := a0) C dX11_readings_54 rfl ?_
          refine c_aload_n (j := 2) (x := a0) C dX11_readings_55 rfl ?_
          refine c_getr (k := 9) C ck_12 dX11_readings_56 w2_53 (by decide) t_a0 rfl rfl (by decide) rfl rq2 ?_
          refine c_st (st2 := [.ref rb2, .ref a0]) rfl ?_
          refine c_iload_n (j := 4) C dX11_readings_59 rfl ?_
          refine d_callV (As := [.int (iI j)]) (rest := [.ref a0]) C hM (C_whyNone (a0 := rb2) (i := j) hW hS trb2 (by omega) ) dX11_readings_60 kV_X11_292 rfl trb2 rfl rfl (by decide) ck_8 rfl (Nat.le_of_ble_eq_true rfl) ⟨(Nat.le_of_ble_eq_true rfl), (Nat.le_of_ble_eq_true rfl)⟩ hph hph (show 0 + 0 = 0 from rfl) (by decide) (fun rh8 Lh8 clh8 lnh8 ivh8 rvh8 h8 => ?_)
          obtain ⟨f8, rfl, rfl, rfl, rfl, rfl, rfl, rgf8, exf8⟩ := h8
          refine c_st (st2 := [.int (iI f8), .ref a0]) rfl ?_
          have gf8 : f8 = 1 ∨ f8 = 2 := exf8
          refine d_callV (As := [.int (iI f8)]) (rest := []) C hM (C_refuse (a0 := a0) (x := f8) hW hS t_a0 (by omega) ) dX11_readings_63 kV_X11_102 rfl t_a0 rfl rfl (by decide) ck_12 rfl (Nat.le_of_ble_eq_true rfl) ⟨(Nat.le_of_ble_eq_true rfl), (Nat.le_of_ble_eq_true rfl)⟩ hph hph (show 0 + 0 = 0 from rfl) (by decide) (fun rh9 Lh9 clh9 lnh9 ivh9 rvh9 h9 => ?_)
          obtain ⟨f9, rfl, rfl, rfl, rfl, rfl, fl9, W9, rgf9, exf9, kp11f9, kp12f9, kp13f9, kp14f9, kp15f9, kp16f9⟩ := h9
          have ri41 : 1 ≤ iv a0 11 ∧ iv a0 11 ≤ 100 := hW.int t_a0 11
          have ri42 : 1 ≤ iv a0 12 ∧ iv a0 12 ≤ 50 := hW.int t_a0 12
          have ri43 : (-2147483648) ≤ iv a0 13 ∧ iv a0 13 ≤ 2147483647 := hW.int t_a0 13
          have ri44 : (-2147483648) ≤ iv a0 14 ∧ iv a0 14 ≤ 2147483647 := hW.int t_a0 14
          have ri45 : (-2147483648) ≤ iv a0 15 ∧ iv a0 15 ≤ 2147483647 := hW.int t_a0 15
          have ri46 : (-2147483648) ≤ iv a0 16 ∧ iv a0 16 ≤ 2147483647 := hW.int t_a0 16
          have F6 := hF0.call hX0 fl9 rfl
          have mr6 := MRK.call hmr hW hS XT.refl fl9 rfl rfl
          refine c_st (st2 := [.int (iI f9)]) rfl ?_
          have gk11f9 : ivh9 a0 11 = iv a0 11 := kp11f9
          have gk12f9 : ivh9 a0 12 = iv a0 12 := kp12f9
          have gk13f9 : ivh9 a0 13 = iv a0 13 := kp13f9
          have gk14f9 : ivh9 a0 14 = iv a0 14 := kp14f9
          have gk15f9 : ivh9 a0 15 = iv a0 15 := kp15f9
          have gk16f9 : ivh9 a0 16 = iv a0 16 := kp16f9
          have gf9 : f9 = -1 := exf9
          have ri47 : 1 ≤ ivh9 a0 11 ∧ ivh9 a0 11 ≤ 100 := W9.int t_a0 11
          have ri48 : 1 ≤ ivh9 a0 12 ∧ ivh9 a0 12 ≤ 50 := W9.int t_a0 12
          have ri49 : (-2147483648) ≤ ivh9 a0 13 ∧ ivh9 a0 13 ≤ 2147483647 := W9.int t_a0 13
          have ri50 : (-2147483648) ≤ ivh9 a0 14 ∧ ivh9 a0 14 ≤ 2147483647 := W9.int t_a0 14
          have ri51 : (-2147483648) ≤ ivh9 a0 15 ∧ ivh9 a0 15 ≤ 2147483647 := W9.int t_a0 15
          have ri52 : (-2147483648) ≤ ivh9 a0 16 ∧ ivh9 a0 16 ≤ 2147483647 := W9.int t_a0 16
          exact c_iret C dX11_readings_66 rfl (by decide) (rom0 hph hph (by decide)) ⟨f9, rfl, hX0, F6, W9, ⟨by omega, by omega⟩, trivial, (by omega), (by omega), (by omega), (by omega), (by omega), (by omega), rfl, rfl⟩
      · subst oq1
        refine c_lv (lv2 := [(4, .null), (0, .ref a0), (1, .int (iI i)), (2, .int (iI j)), (3, .int (iI n))]) [0, 1, 2, 3, 4] rfl ?_
        refine c_st (st2 := []) rfl ?_
        refine c_aload_n (j := 1) (x := a0) C dX11_readings_33 rfl ?_
        refine c_iconst C dX11_readings_34 ?_
        refine d_callV (As := [.int (iI 3)]) (rest := []) C hM (C_refuse (a0 := a0) (x := 3) hW hS t_a0 ⟨by decide, by decide⟩ ) dX11_readings_35 kV_X11_102 rfl t_a0 rfl rfl (by decide) ck_12 rfl (Nat.le_of_ble_eq_true rfl) ⟨(Nat.le_of_ble_eq_true rfl), (Nat.le_of_ble_eq_true rfl)⟩ hph hph (show 0 + 0 = 0 from rfl) (by decide) (fun rh10 Lh10 clh10 lnh10 ivh10 rvh10 h10 => ?_)
        obtain ⟨f10, rfl, rfl, rfl, rfl, rfl, fl10, W10, rgf10, exf10, kp11f10, kp12f10, kp13f10, kp14f10, kp15f10, kp16f10⟩ := h10
        have ri53 : 1 ≤ iv a0 11 ∧ iv a0 11 ≤ 100 := hW.int t_a0 11
        have ri54 : 1 ≤ iv a0 12 ∧ iv a0 12 ≤ 50 := hW.int t_a0 12
        have ri55 : (-2147483648) ≤ iv a0 13 ∧ iv a0 13 ≤ 2147483647 := hW.int t_a0 13
        have ri56 : (-2147483648) ≤ iv a0 14 ∧ iv a0 14 ≤ 2147483647 := hW.int t_a0 14
        have ri57 : (-2147483648) ≤ iv a0 15 ∧ iv a0 15 ≤ 2147483647 := hW.int t_a0 15
        have ri58 : (-2147483648) ≤ iv a0 16 ∧ iv a0 16 ≤ 2147483647 := hW.int t_a0 16
        have F7 := hF0.call hX0 fl10 rfl
        have mr7 := MRK.call hmr hW hS XT.refl fl10 rfl rfl
        refine c_st (st2 := [.int (iI f10)]) rfl ?_
        have gk11f10 : ivh10 a0 11 = iv a0 11 := kp11f10
        have gk12f10 : ivh10 a0 12 = iv a0 12 := kp12f10
        have gk13f10 : ivh10 a0 13 = iv a0 13 := kp13f10
        have gk14f10 : ivh10 a0 14 = iv a0 14 := kp14f10
        have gk15f10 : ivh10 a0 15 = iv a0 15 := kp15f10
        have gk16f10 : ivh10 a0 16 = iv a0 16 := kp16f10
        have gf10 : f10 = -1 := exf10
        have ri59 : 1 ≤ ivh10 a0 11 ∧ ivh10 a0 11 ≤ 100 := W10.int t_a0 11
        have ri60 : 1 ≤ ivh10 a0 12 ∧ ivh10 a0 12 ≤ 50 := W10.int t_a0 12
        have ri61 : (-2147483648) ≤ ivh10 a0 13 ∧ ivh10 a0 13 ≤ 2147483647 := W10.int t_a0 13
        have ri62 : (-2147483648) ≤ ivh10 a0 14 ∧ ivh10 a0 14 ≤ 2147483647 := W10.int t_a0 14
        have ri63 : (-2147483648) ≤ ivh10 a0 15 ∧ ivh10 a0 15 ≤ 2147483647 := W10.int t_a0 15
        have ri64 : (-2147483648) ≤ ivh10 a0 16 ∧ ivh10 a0 16 ≤ 2147483647 := W10.int t_a0 16
        exact c_iret C dX11_readings_38 rfl (by decide) (rom0 hph hph (by decide)) ⟨f10, rfl, hX0, F7, W10, ⟨by omega, by omega⟩, trivial, (by omega), (by omega), (by omega), (by omega), (by omega), (by omega), rfl, rfl⟩
    · refine c_aload_n (j := 0) (x := a0) C dX11_readings_11 rfl ?_
      refine c_bipush (z := 6) C dX11_readings_12 (by decide) ?_
      refine d_callV (As := [.int (iI 6)]) (rest := []) C hM (C_refuse (a0 := a0) (x := 6) hW hS t_a0 ⟨by decide, by decide⟩ ) dX11_readings_14 kV_X11_102 rfl t_a0 rfl rfl (by decide) ck_12 rfl (Nat.le_of_ble_eq_true rfl) ⟨(Nat.le_of_ble_eq_true rfl), (Nat.le_of_ble_eq_true rfl)⟩ hph hph (show 0 + 0 = 0 from rfl) (by decide) (fun rh11 Lh11 clh11 lnh11 ivh11 rvh11 h11 => ?_)
      obtain ⟨f11, rfl, rfl, rfl, rfl, rfl, fl11, W11, rgf11, exf11, kp11f11, kp12f11, kp13f11, kp14f11, kp15f11, kp16f11⟩ := h11
      have ri65 : 1 ≤ iv a0 11 ∧ iv a0 11 ≤ 100 := hW.int t_a0 11
      have ri66 : 1 ≤ iv a0 12 ∧ iv a0 12 ≤ 50 := hW.int t_a0 12
      have ri67 : (-2147483648) ≤ iv a0 13 ∧ iv a0 13 ≤ 2147483647 := hW.int t_a0 13
      have ri68 : (-2147483648) ≤ iv a0 14 ∧ iv a0 14 ≤ 2147483647 := hW.int t_a0 14
      have ri69 : (-2147483648) ≤ iv a0 15 ∧ iv a0 15 ≤ 2147483647 := hW.int t_a0 15
      have ri70 : (-2147483648) ≤ iv a0 16 ∧ iv a0 16 ≤ 2147483647 := hW.int t_a0 16
      have F8 := hF0.call hX0 fl11 rfl
      have mr8 := MRK.call hmr hW hS XT.refl fl11 rfl rfl
      refine c_st (st2 := [.int (iI f11)]) rfl ?_
      have gk11f11 : ivh11 a0 11 = iv a0 11 := kp11f11
      have gk12f11 : ivh11 a0 12 = iv a0 12 := kp12f11
      have gk13f11 : ivh11 a0 13 = iv a0 13 := kp13f11
      have gk14f11 : ivh11 a0 14 = iv a0 14 := kp14f11
      have gk15f11 : ivh11 a0 15 = iv a0 15 := kp15f11
      have gk16f11 : ivh11 a0 16 = iv a0 16 := kp16f11
      have gf11 : f11 = -1 := exf11
      have ri71 : 1 ≤ ivh11 a0 11 ∧ ivh11 a0 11 ≤ 100 := W11.int t_a0 11
      have ri72 : 1 ≤ ivh11 a0 12 ∧ ivh11 a0 12 ≤ 50 := W11.int t_a0 12
      have ri73 : (-2147483648) ≤ ivh11 a0 13 ∧ ivh11 a0 13 ≤ 2147483647 := W11.int t_a0 13
      have ri74 : (-2147483648) ≤ ivh11 a0 14 ∧ ivh11 a0 14 ≤ 2147483647 := W11.int t_a0 14
      have ri75 : (-2147483648) ≤ ivh11 a0 15 ∧ ivh11 a0 15 ≤ 2147483647 := W11.int t_a0 15
      have ri76 : (-2147483648) ≤ ivh11 a0 16 ∧ ivh11 a0 16 ≤ 2147483647 := W11.int t_a0 16
      exact c_iret C dX11_readings_17 rfl (by decide) (rom0 hph hph (by decide)) ⟨f11, rfl, hX0, F8, W11, ⟨by omega, by omega⟩, trivial, (by omega), (by omega), (by omega), (by omega), (by omega), (by omega), rfl, rfl⟩
set_option maxHeartbeats 4000000 in
set_option maxRecDepth 100000 in
theorem C_reading {l : Launch} {G : GT} {mi : Nat} {sk : Nat → Nat} {L : List Nat} {cl ln : Nat → Nat} {iv : Nat → Nat → Int} {rv : Nat → Nat → Option Nat}  {a0 : Nat} {i : Int} {j : Int} (hW : WT (g0 G) sk L cl ln iv rv) (hS : SKL sk L cl) (t_a0 : ty L cl a0 1) (h_i : -2147483648 ≤ i ∧ i ≤ 2147483647) (h_j : -2147483648 ≤ j ∧ j ≤ 2147483647)  : Mc l G mi (Phi (g0 G) sk) PHM yX11_reading cX11_reading 4 (some .int) 2 [.ref a0, .int (iI i), .int (iI j)] L cl ln iv rv 0 (fun v L2 cl2 ln2 iv2 rv2 => ∃ f : Int, v = some (.int (iI f)) ∧ L = L2 ∧ cl = cl2 ∧ ln = ln2 ∧ rv = rv2 ∧ fT [1] L cl iv rv iv2 rv2 ∧ WT (g0 G) sk L2 cl2 ln2 iv2 rv2 ∧ (-2147483648 ≤ f ∧ f ≤ 2147483647) ∧ (True) ∧ iv2 a0 11 = iv a0 11 ∧ iv2 a0 12 = iv a0 12 ∧ iv2 a0 13 = iv a0 13 ∧ iv2 a0 14 = iv a0 14 ∧ iv2 a0 15 = iv a0 15 ∧ iv2 a0 16 = iv a0 16) := by
  refine Mc.mk (by decide) (Nat.le_of_ble_eq_true rfl) ?_
  intro p e s m args below meth c A C hM
  have hph := Phi.le hW hS
  have tsk2 : ty L cl (sk 2) 2 := ⟨(hS 2 rfl).1, by rw [(hS 2 rfl).2]; rfl⟩
  have tsk3 : ty L cl (sk 3) 3 := ⟨(hS 3 rfl).1, by rw [(hS 3 rfl).2]; rfl⟩
  have tsk4 : ty L cl (sk 4) 4 := ⟨(hS 4 rfl).1, by rw [(hS 4 rfl).2]; rfl⟩
  have tsk5 : ty L cl (sk 5) 5 := ⟨(hS 5 rfl).1, by rw [(hS 5 rfl).2]; rfl⟩
  have tsk6 : ty L cl (sk 6) 6 := ⟨(hS 6 rfl).1, by rw [(hS 6 rfl).2]; rfl⟩
  have tsk7 : ty L cl (sk 7) 7 := ⟨(hS 7 rfl).1, by rw [(hS 7 rfl).2]; rfl⟩
  have tsk8 : ty L cl (sk 8) 8 := ⟨(hS 8 rfl).1, by rw [(hS 8 rfl).2]; rfl⟩
  have tsk9 : ty L cl (sk 9) 9 := ⟨(hS 9 rfl).1, by rw [(hS 9 rfl).2]; rfl⟩
  have tsk10 : ty L cl (sk 10) 10 := ⟨(hS 10 rfl).1, by rw [(hS 10 rfl).2]; rfl⟩
  have tsk13 : ty L cl (sk 13) 13 := ⟨(hS 13 rfl).1, by rw [(hS 13 rfl).2]; rfl⟩
  have tsk14 : ty L cl (sk 14) 14 := ⟨(hS 14 rfl).1, by rw [(hS 14 rfl).2]; rfl⟩
  have tsk15 : ty L cl (sk 15) 15 := ⟨(hS 15 rfl).1, by rw [(hS 15 rfl).2]; rfl⟩
  have tsk16 : ty L cl (sk 16) 16 := ⟨(hS 16 rfl).1, by rw [(hS 16 rfl).2]; rfl⟩
  have tsk17 : ty L cl (sk 17) 17 := ⟨(hS 17 rfl).1, by rw [(hS 17 rfl).2]; rfl⟩
  have tsk22 : ty L cl (sk 22) 22 := ⟨(hS 22 rfl).1, by rw [(hS 22 rfl).2]; rfl⟩
  have tsk23 : ty L cl (sk 23) 23 := ⟨(hS 23 rfl).1, by rw [(hS 23 rfl).2]; rfl⟩
  have tsk24 : ty L cl (sk 24) 24 := ⟨(hS 24 rfl).1, by rw [(hS 24 rfl).2]; rfl⟩
  have tsk25 : ty L cl (sk 25) 25 := ⟨(hS 25 rfl).1, by rw [(hS 25 rfl).2]; rfl⟩
  have hX0 : XT L cl ln L cl ln := XT.refl
  have hF0 : fT [1] L cl iv rv iv rv := fT.refl
  refine c_aload_n (j := 0) (x := a0) C dX11_reading_0 rfl ?_
  obtain ⟨rb1, rq1, trb1⟩ := hW.ref t_a0 8 rfl rfl rfl
  have erb1 := hW.sk trb1 (by decide) rfl
  subst erb1
  refine c_getr (k := 8) C ck_12 dX11_reading_1 w2_52 (by decide) t_a0 rfl rfl (by decide) rfl rq1 ?_
  refine c_st (st2 := [.ref (sk 17)]) rfl ?_
  refine c_iload_n (j := 1) C dX11_reading_4 rfl ?_
  refine c_iload_n (j := 2) C dX11_reading_5 rfl ?_
  refine d_callV (As := [.int (iI i), .int (iI j)]) (rest := []) C hM (C_byteOf (a0 := (sk 17)) (i := i) (j := j) hW hS tsk17 (by omega) (by omega) ) dX11_reading_6 kV_X11_364 rfl tsk17 rfl rfl (by decide) ck_5 rfl (Nat.le_of_ble_eq_true rfl) ⟨(Nat.le_of_ble_eq_true rfl), (Nat.le_of_ble_eq_true rfl)⟩ hph hph (show 0 + 0 = 0 from rfl) (by decide) (fun rh1 Lh1 clh1 lnh1 ivh1 rvh1 h1 => ?_)
  obtain ⟨f1, rfl, rfl, rfl, rfl, rfl, rfl, rgf1, exf1⟩ := h1
  refine c_st (st2 := [.int (iI f1)]) rfl ?_
  refine c_istore_n (lv2 := [(3, .int (iI f1)), (0, .ref a0), (1, .int (iI i)), (2, .int (iI j))]) C dX11_reading_9 (by decide) rfl ?_
  refine c_iload_n (j := 0) C dX11_reading_10 rfl ?_
  refine c_if_ge (tgt := 22) C ⟨by omega, by omega⟩ dX11_reading_11 (by decide) (fun c1 => ?_) (fun c1 => ?_)
  · refine c_aload_n (j := 1) (x := a0) C dX11_reading_22 rfl ?_
    refine c_iload_n (j := 0) C dX11_reading_23 rfl ?_
    refine d_callV (As := [.int (iI f1)]) (rest := []) C hM (C_done (a0 := a0) (x := f1) hW hS t_a0 (by omega) ) dX11_reading_24 kV_X11_109 rfl t_a0 rfl rfl (by decide) ck_12 rfl (Nat.le_of_ble_eq_true rfl) ⟨(Nat.le_of_ble_eq_true rfl), (Nat.le_of_ble_eq_true rfl)⟩ hph hph (show 0 + 0 = 0 from rfl) (by decide) (fun rh2 Lh2 clh2 lnh2 ivh2 rvh2 h2 => ?_)
    obtain ⟨f2, rfl, rfl, rfl, rfl, rfl, fl2, W2, rgf2, exf2, kp11f2, kp12f2, kp13f2, kp14f2, kp15f2, kp16f2⟩ := h2
    have ri1 : 1 ≤ iv a0 11 ∧ iv a0 11 ≤ 100 := hW.int t_a0 11
    have ri2 : 1 ≤ iv a0 12 ∧ iv a0 12 ≤ 50 := hW.int t_a0 12
    have ri3 : (-2147483648) ≤ iv a0 13 ∧ iv a0 13 ≤ 2147483647 := hW.int t_a0 13
    have ri4 : (-2147483648) ≤ iv a0 14 ∧ iv a0 14 ≤ 2147483647 := hW.int t_a0 14
    have ri5 : (-2147483648) ≤ iv a0 15 ∧ iv a0 15 ≤ 2147483647 := hW.int t_a0 15
    have ri6 : (-2147483648) ≤ iv a0 16 ∧ iv a0 16 ≤ 2147483647 := hW.int t_a0 16
    have F1 := hF0.call hX0 fl2 rfl
    refine c_st (st2 := [.int (iI f2)]) rfl ?_
    have gk11f2 : ivh2 a0 11 = iv a0 11 := kp11f2
    have gk12f2 : ivh2 a0 12 = iv a0 12 := kp12f2
    have gk13f2 : ivh2 a0 13 = iv a0 13 := kp13f2
    have gk14f2 : ivh2 a0 14 = iv a0 14 := kp14f2
    have gk15f2 : ivh2 a0 15 = iv a0 15 := kp15f2
    have gk16f2 : ivh2 a0 16 = iv a0 16 := kp16f2
    have gf2 : f2 = f1 := exf2
    have ri7 : 1 ≤ ivh2 a0 11 ∧ ivh2 a0 11 ≤ 100 := W2.int t_a0 11
    have ri8 : 1 ≤ ivh2 a0 12 ∧ ivh2 a0 12 ≤ 50 := W2.int t_a0 12
    have ri9 : (-2147483648) ≤ ivh2 a0 13 ∧ ivh2 a0 13 ≤ 2147483647 := W2.int t_a0 13
    have ri10 : (-2147483648) ≤ ivh2 a0 14 ∧ ivh2 a0 14 ≤ 2147483647 := W2.int t_a0 14
    have ri11 : (-2147483648) ≤ ivh2 a0 15 ∧ ivh2 a0 15 ≤ 2147483647 := W2.int t_a0 15
    have ri12 : (-2147483648) ≤ ivh2 a0 16 ∧ ivh2 a0 16 ≤ 2147483647 := W2.int t_a0 16
    exact c_iret C dX11_reading_27 rfl (by decide) (rom0 hph hph (by decide)) ⟨f2, rfl, rfl, rfl, rfl, rfl, F1, W2, ⟨by omega, by omega⟩, trivial, (by omega), (by omega), (by omega), (by omega), (by omega), (by omega)⟩
  · refine c_aload_n (j := 1) (x := a0) C dX11_reading_14 rfl ?_
    refine c_iconst C dX11_reading_15 ?_
    refine d_callV (As := [.int (iI 2)]) (rest := []) C hM (C_refuse (a0 := a0) (x := 2) hW hS t_a0 ⟨by decide, by decide⟩ ) dX11_reading_16 kV_X11_102 rfl t_a0 rfl rfl (by decide) ck_12 rfl (Nat.le_of_ble_eq_true rfl) ⟨(Nat.le_of_ble_eq_true rfl), (Nat.le_of_ble_eq_true rfl)⟩ hph hph (show 0 + 0 = 0 from rfl) (by decide) (fun rh3 Lh3 clh3 lnh3 ivh3 rvh3 h3 => ?_)
    obtain ⟨f3, rfl, rfl, rfl, rfl, rfl, fl3, W3, rgf3, exf3, kp11f3, kp12f3, kp13f3, kp14f3, kp15f3, kp16f3⟩ := h3
    have ri13 : 1 ≤ iv a0 11 ∧ iv a0 11 ≤ 100 := hW.int t_a0 11
    have ri14 : 1 ≤ iv a0 12 ∧ iv a0 12 ≤ 50 := hW.int t_a0 12
    have ri15 : (-2147483648) ≤ iv a0 13 ∧ iv a0 13 ≤ 2147483647 := hW.int t_a0 13
    have ri16 : (-2147483648) ≤ iv a0 14 ∧ iv a0 14 ≤ 2147483647 := hW.int t_a0 14
    have ri17 : (-2147483648) ≤ iv a0 15 ∧ iv a0 15 ≤ 2147483647 := hW.int t_a0 15
    have ri18 : (-2147483648) ≤ iv a0 16 ∧ iv a0 16 ≤ 2147483647 := hW.int t_a0 16
    have F2 := hF0.call hX0 fl3 rfl
    refine c_st (st2 := [.int (iI f3)]) rfl ?_
    have gk11f3 : ivh3 a0 11 = iv a0 11 := kp11f3
    have gk12f3 : ivh3 a0 12 = iv a0 12 := kp12f3
    have gk13f3 : ivh3 a0 13 = iv a0 13 := kp13f3
    have gk14f3 : ivh3 a0 14 = iv a0 14 := kp14f3
    have gk15f3 : ivh3 a0 15 = iv a0 15 := kp15f3
    have gk16f3 : ivh3 a0 16 = iv a0 16 := kp16f3
    have gf3 : f3 = -1 := exf3
    refine c_goto (tgt := 27) C dX11_reading_19 (by decide) ?_
    have ri19 : 1 ≤ ivh3 a0 11 ∧ ivh3 a0 11 ≤ 100 := W3.int t_a0 11
    have ri20 : 1 ≤ ivh3 a0 12 ∧ ivh3 a0 12 ≤ 50 := W3.int t_a0 12
    have ri21 : (-2147483648) ≤ ivh3 a0 13 ∧ ivh3 a0 13 ≤ 2147483647 := W3.int t_a0 13
    have ri22 : (-2147483648) ≤ ivh3 a0 14 ∧ ivh3 a0 14 ≤ 2147483647 := W3.int t_a0 14
    have ri23 : (-2147483648) ≤ ivh3 a0 15 ∧ ivh3 a0 15 ≤ 2147483647 := W3.int t_a0 15
    have ri24 : (-2147483648) ≤ ivh3 a0 16 ∧ ivh3 a0 16 ≤ 2147483647 := W3.int t_a0 16
    exact c_iret C dX11_reading_27 rfl (by decide) (rom0 hph hph (by decide)) ⟨f3, rfl, rfl, rfl, rfl, rfl, F2, W3, ⟨by omega, by omega⟩, trivial, (by omega), (by omega), (by omega), (by omega), (by omega), (by omega)⟩
