section
set_option maxHeartbeats 4000000 in
set_option maxRecDepth 100000 in
theorem C_unreadable {l : Launch} {G : GT} {mi : Nat} {sk : Nat → Nat} {L : List Nat} {cl ln : Nat → Nat} {iv : Nat → Nat → Int} {rv : Nat → Nat → Option Nat}  {a0 : Nat} {i : Int} {n : Int} {lim : Int} (hW : WT (g0 G) sk L cl ln iv rv) (hS : SKL sk L cl) (t_a0 : ty L cl a0 1) (h_i : -2147483648 ≤ i ∧ i ≤ 2147483647) (h_n : -2147483648 ≤ n ∧ n ≤ 2147483647) (h_lim : -2147483648 ≤ lim ∧ lim ≤ 2147483647) (hmr : MRK sk cl iv rv) : Mc l G mi (Phi (g0 G) sk) PHM yX11_unreadable cX11_unreadable 7 (some .int) 10 [.ref a0, .int (iI i), .int (iI n), .int (iI lim)] L cl ln iv rv 0 (fun v L2 cl2 ln2 iv2 rv2 => ∃ f : Int, v = some (.int (iI f)) ∧ XT L cl ln L2 cl2 ln2 ∧ fT [1, 4, 34, 14, 56, 57, 58, 15, 50, 51, 52, 53, 54, 55, 8, 38, 9, 39, 16, 10, 40, 24, 1002, 25, 1003, 6, 36, 7, 37] L cl iv rv iv2 rv2 ∧ WT (g0 G) sk L2 cl2 ln2 iv2 rv2 ∧ (-2147483648 ≤ f ∧ f ≤ 2147483647) ∧ (True) ∧ iv2 a0 11 = iv a0 11 ∧ iv2 a0 12 = iv a0 12 ∧ iv2 a0 13 = iv a0 13 ∧ iv2 a0 14 = iv a0 14 ∧ iv2 a0 15 = iv a0 15 ∧ iv2 a0 16 = iv a0 16 ∧ rv2 a0 9 = rv a0 9 ∧ rv2 a0 10 = rv a0 10) := by
  refine Mc.mk (by decide) (Nat.le_of_ble_eq_true rfl) ?_
  intro p e s m args below meth c A C hM
  refine hv21 (Phi.le hW hS) (show ty L cl (sk 2) 2 from ⟨(hS 2 rfl).1, by rw [(hS 2 rfl).2]; rfl⟩) (show ty L cl (sk 3) 3 from ⟨(hS 3 rfl).1, by rw [(hS 3 rfl).2]; rfl⟩) (show ty L cl (sk 4) 4 from ⟨(hS 4 rfl).1, by rw [(hS 4 rfl).2]; rfl⟩) (show ty L cl (sk 5) 5 from ⟨(hS 5 rfl).1, by rw [(hS 5 rfl).2]; rfl⟩) (show ty L cl (sk 6) 6 from ⟨(hS 6 rfl).1, by rw [(hS 6 rfl).2]; rfl⟩) (show ty L cl (sk 7) 7 from ⟨(hS 7 rfl).1, by rw [(hS 7 rfl).2]; rfl⟩) (show ty L cl (sk 8) 8 from ⟨(hS 8 rfl).1, by rw [(hS 8 rfl).2]; rfl⟩) (show ty L cl (sk 9) 9 from ⟨(hS 9 rfl).1, by rw [(hS 9 rfl).2]; rfl⟩) (show ty L cl (sk 10) 10 from ⟨(hS 10 rfl).1, by rw [(hS 10 rfl).2]; rfl⟩) (show ty L cl (sk 13) 13 from ⟨(hS 13 rfl).1, by rw [(hS 13 rfl).2]; rfl⟩) (show ty L cl (sk 14) 14 from ⟨(hS 14 rfl).1, by rw [(hS 14 rfl).2]; rfl⟩) (show ty L cl (sk 15) 15 from ⟨(hS 15 rfl).1, by rw [(hS 15 rfl).2]; rfl⟩) (show ty L cl (sk 16) 16 from ⟨(hS 16 rfl).1, by rw [(hS 16 rfl).2]; rfl⟩) (show ty L cl (sk 17) 17 from ⟨(hS 17 rfl).1, by rw [(hS 17 rfl).2]; rfl⟩) (show ty L cl (sk 22) 22 from ⟨(hS 22 rfl).1, by rw [(hS 22 rfl).2]; rfl⟩) (show ty L cl (sk 23) 23 from ⟨(hS 23 rfl).1, by rw [(hS 23 rfl).2]; rfl⟩) (show ty L cl (sk 24) 24 from ⟨(hS 24 rfl).1, by rw [(hS 24 rfl).2]; rfl⟩) (show ty L cl (sk 25) 25 from ⟨(hS 25 rfl).1, by rw [(hS 25 rfl).2]; rfl⟩) (show XT L cl ln L cl ln from XT.refl) (show fT [1, 4, 34, 14, 56, 57, 58, 15, 50, 51, 52, 53, 54, 55, 8, 38, 9, 39, 16, 10, 40, 24, 1002, 25, 1003, 6, 36, 7, 37] L cl iv rv iv rv from fT.refl) (fun hph tsk2 tsk3 tsk4 tsk5 tsk6 tsk7 tsk8 tsk9 tsk10 tsk13 tsk14 tsk15 tsk16 tsk17 tsk22 tsk23 tsk24 tsk25 hX0 hF0 => ?_)
  refine c_iload_n (j := 2) C dX11_unreadable_0 rfl ?_
  refine c_iconst C dX11_unreadable_1 ?_
  refine c_icmp_lt (tgt := 23) C ⟨by omega, by omega⟩ ⟨by decide, by decide⟩ dX11_unreadable_2 (by decide) (fun c1 => ?_) (fun c1 => ?_)
  · refine c_aload_n (j := 0) (x := a0) C dX11_unreadable_23 rfl ?_
    refine c_bipush (z := 6) C dX11_unreadable_24 (by decide) ?_
    refine d_callV (As := [.int (iI 6)]) (rest := []) C hM (C_refuse (a0 := a0) (x := 6) hW hS t_a0 ⟨by decide, by decide⟩ ) dX11_unreadable_26 kV_X11_102 rfl t_a0 rfl rfl (by decide) ck_12 rfl (Nat.le_of_ble_eq_true rfl) ⟨(Nat.le_of_ble_eq_true rfl), (Nat.le_of_ble_eq_true rfl)⟩ hph hph (show 0 + 0 = 0 from rfl) (by decide) (fun rh1 Lh1 clh1 lnh1 ivh1 rvh1 h1 => ?_)
    obtain ⟨f1, rfl, rfl, rfl, rfl, rfl, fl1, W1, rgf1, exf1, kp11f1, kp12f1, kp13f1, kp14f1, kp15f1, kp16f1⟩ := h1
    refine hv8 (show 1 ≤ iv a0 11 ∧ iv a0 11 ≤ 100 from hW.int t_a0 11) (show 1 ≤ iv a0 12 ∧ iv a0 12 ≤ 50 from hW.int t_a0 12) (show (-2147483648) ≤ iv a0 13 ∧ iv a0 13 ≤ 2147483647 from hW.int t_a0 13) (show (-2147483648) ≤ iv a0 14 ∧ iv a0 14 ≤ 2147483647 from hW.int t_a0 14) (show (-2147483648) ≤ iv a0 15 ∧ iv a0 15 ≤ 2147483647 from hW.int t_a0 15) (show (-2147483648) ≤ iv a0 16 ∧ iv a0 16 ≤ 2147483647 from hW.int t_a0 16) (hF0.call hX0 fl1 rfl) (MRK.call hmr hW hS XT.refl fl1 rfl rfl) (fun ri1 ri2 ri3 ri4 ri5 ri6 F1 mr1 => ?_)
    refine c_st (st2 := [.int (iI f1)]) rfl ?_
    refine hv13 (show ivh1 a0 11 = iv a0 11 from kp11f1) (show ivh1 a0 12 = iv a0 12 from kp12f1) (show ivh1 a0 13 = iv a0 13 from kp13f1) (show ivh1 a0 14 = iv a0 14 from kp14f1) (show ivh1 a0 15 = iv a0 15 from kp15f1) (show ivh1 a0 16 = iv a0 16 from kp16f1) (show f1 = -1 from exf1) (show 1 ≤ ivh1 a0 11 ∧ ivh1 a0 11 ≤ 100 from W1.int t_a0 11) (show 1 ≤ ivh1 a0 12 ∧ ivh1 a0 12 ≤ 50 from W1.int t_a0 12) (show (-2147483648) ≤ ivh1 a0 13 ∧ ivh1 a0 13 ≤ 2147483647 from W1.int t_a0 13) (show (-2147483648) ≤ ivh1 a0 14 ∧ ivh1 a0 14 ≤ 2147483647 from W1.int t_a0 14) (show (-2147483648) ≤ ivh1 a0 15 ∧ ivh1 a0 15 ≤ 2147483647 from W1.int t_a0 15) (show (-2147483648) ≤ ivh1 a0 16 ∧ ivh1 a0 16 ≤ 2147483647 from W1.int t_a0 16) (fun gk11f1 gk12f1 gk13f1 gk14f1 gk15f1 gk16f1 gf1 ri7 ri8 ri9 ri10 ri11 ri12 => ?_)
    exact c_iret C dX11_unreadable_29 rfl (by decide) (rom0 hph hph (by decide)) ⟨f1, rfl, hX0, F1, W1, ⟨by omega, by omega⟩, trivial, gk11f1, gk12f1, gk13f1, gk14f1, gk15f1, gk16f1, rfl, rfl⟩
  · refine c_iload_n (j := 2) C dX11_unreadable_5 rfl ?_
    refine c_bipush (z := 6) C dX11_unreadable_6 (by decide) ?_
    refine c_icmp_gt (tgt := 23) C ⟨by omega, by omega⟩ ⟨by decide, by decide⟩ dX11_unreadable_8 (by decide) (fun c2 => ?_) (fun c2 => ?_)
    · refine c_aload_n (j := 0) (x := a0) C dX11_unreadable_23 rfl ?_
      refine c_bipush (z := 6) C dX11_unreadable_24 (by decide) ?_
      refine d_callV (As := [.int (iI 6)]) (rest := []) C hM (C_refuse (a0 := a0) (x := 6) hW hS t_a0 ⟨by decide, by decide⟩ ) dX11_unreadable_26 kV_X11_102 rfl t_a0 rfl rfl (by decide) ck_12 rfl (Nat.le_of_ble_eq_true rfl) ⟨(Nat.le_of_ble_eq_true rfl), (Nat.le_of_ble_eq_true rfl)⟩ hph hph (show 0 + 0 = 0 from rfl) (by decide) (fun rh2 Lh2 clh2 lnh2 ivh2 rvh2 h2 => ?_)
      obtain ⟨f2, rfl, rfl, rfl, rfl, rfl, fl2, W2, rgf2, exf2, kp11f2, kp12f2, kp13f2, kp14f2, kp15f2, kp16f2⟩ := h2
      refine hv8 (show 1 ≤ iv a0 11 ∧ iv a0 11 ≤ 100 from hW.int t_a0 11) (show 1 ≤ iv a0 12 ∧ iv a0 12 ≤ 50 from hW.int t_a0 12) (show (-2147483648) ≤ iv a0 13 ∧ iv a0 13 ≤ 2147483647 from hW.int t_a0 13) (show (-2147483648) ≤ iv a0 14 ∧ iv a0 14 ≤ 2147483647 from hW.int t_a0 14) (show (-2147483648) ≤ iv a0 15 ∧ iv a0 15 ≤ 2147483647 from hW.int t_a0 15) (show (-2147483648) ≤ iv a0 16 ∧ iv a0 16 ≤ 2147483647 from hW.int t_a0 16) (hF0.call hX0 fl2 rfl) (MRK.call hmr hW hS XT.refl fl2 rfl rfl) (fun ri13 ri14 ri15 ri16 ri17 ri18 F2 mr2 => ?_)
      refine c_st (st2 := [.int (iI f2)]) rfl ?_
      refine hv13 (show ivh2 a0 11 = iv a0 11 from kp11f2) (show ivh2 a0 12 = iv a0 12 from kp12f2) (show ivh2 a0 13 = iv a0 13 from kp13f2) (show ivh2 a0 14 = iv a0 14 from kp14f2) (show ivh2 a0 15 = iv a0 15 from kp15f2) (show ivh2 a0 16 = iv a0 16 from kp16f2) (show f2 = -1 from exf2) (show 1 ≤ ivh2 a0 11 ∧ ivh2 a0 11 ≤ 100 from W2.int t_a0 11) (show 1 ≤ ivh2 a0 12 ∧ ivh2 a0 12 ≤ 50 from W2.int t_a0 12) (show (-2147483648) ≤ ivh2 a0 13 ∧ ivh2 a0 13 ≤ 2147483647 from W2.int t_a0 13) (show (-2147483648) ≤ ivh2 a0 14 ∧ ivh2 a0 14 ≤ 2147483647 from W2.int t_a0 14) (show (-2147483648) ≤ ivh2 a0 15 ∧ ivh2 a0 15 ≤ 2147483647 from W2.int t_a0 15) (show (-2147483648) ≤ ivh2 a0 16 ∧ ivh2 a0 16 ≤ 2147483647 from W2.int t_a0 16) (fun gk11f2 gk12f2 gk13f2 gk14f2 gk15f2 gk16f2 gf2 ri19 ri20 ri21 ri22 ri23 ri24 => ?_)
      exact c_iret C dX11_unreadable_29 rfl (by decide) (rom0 hph hph (by decide)) ⟨f2, rfl, hX0, F2, W2, ⟨by omega, by omega⟩, trivial, gk11f2, gk12f2, gk13f2, gk14f2, gk15f2, gk16f2, rfl, rfl⟩
    · refine c_iload_n (j := 3) C dX11_unreadable_11 rfl ?_
      refine c_iconst C dX11_unreadable_12 ?_
      refine c_icmp_lt (tgt := 23) C ⟨by omega, by omega⟩ ⟨by decide, by decide⟩ dX11_unreadable_13 (by decide) (fun c3 => ?_) (fun c3 => ?_)
      · refine c_aload_n (j := 0) (x := a0) C dX11_unreadable_23 rfl ?_
        refine c_bipush (z := 6) C dX11_unreadable_24 (by decide) ?_
        refine d_callV (As := [.int (iI 6)]) (rest := []) C hM (C_refuse (a0 := a0) (x := 6) hW hS t_a0 ⟨by decide, by decide⟩ ) dX11_unreadable_26 kV_X11_102 rfl t_a0 rfl rfl (by decide) ck_12 rfl (Nat.le_of_ble_eq_true rfl) ⟨(Nat.le_of_ble_eq_true rfl), (Nat.le_of_ble_eq_true rfl)⟩ hph hph (show 0 + 0 = 0 from rfl) (by decide) (fun rh3 Lh3 clh3 lnh3 ivh3 rvh3 h3 => ?_)
        obtain ⟨f3, rfl, rfl, rfl, rfl, rfl, fl3, W3, rgf3, exf3, kp11f3, kp12f3, kp13f3, kp14f3, kp15f3, kp16f3⟩ := h3
        refine hv8 (show 1 ≤ iv a0 11 ∧ iv a0 11 ≤ 100 from hW.int t_a0 11) (show 1 ≤ iv a0 12 ∧ iv a0 12 ≤ 50 from hW.int t_a0 12) (show (-2147483648) ≤ iv a0 13 ∧ iv a0 13 ≤ 2147483647 from hW.int t_a0 13) (show (-2147483648) ≤ iv a0 14 ∧ iv a0 14 ≤ 2147483647 from hW.int t_a0 14) (show (-2147483648) ≤ iv a0 15 ∧ iv a0 15 ≤ 2147483647 from hW.int t_a0 15) (show (-2147483648) ≤ iv a0 16 ∧ iv a0 16 ≤ 2147483647 from hW.int t_a0 16) (hF0.call hX0 fl3 rfl) (MRK.call hmr hW hS XT.refl fl3 rfl rfl) (fun ri25 ri26 ri27 ri28 ri29 ri30 F3 mr3 => ?_)
        refine c_st (st2 := [.int (iI f3)]) rfl ?_
        refine hv13 (show ivh3 a0 11 = iv a0 11 from kp11f3) (show ivh3 a0 12 = iv a0 12 from kp12f3) (show ivh3 a0 13 = iv a0 13 from kp13f3) (show ivh3 a0 14 = iv a0 14 from kp14f3) (show ivh3 a0 15 = iv a0 15 from kp15f3) (show ivh3 a0 16 = iv a0 16 from kp16f3) (show f3 = -1 from exf3) (show 1 ≤ ivh3 a0 11 ∧ ivh3 a0 11 ≤ 100 from W3.int t_a0 11) (show 1 ≤ ivh3 a0 12 ∧ ivh3 a0 12 ≤ 50 from W3.int t_a0 12) (show (-2147483648) ≤ ivh3 a0 13 ∧ ivh3 a0 13 ≤ 2147483647 from W3.int t_a0 13) (show (-2147483648) ≤ ivh3 a0 14 ∧ ivh3 a0 14 ≤ 2147483647 from W3.int t_a0 14) (show (-2147483648) ≤ ivh3 a0 15 ∧ ivh3 a0 15 ≤ 2147483647 from W3.int t_a0 15) (show (-2147483648) ≤ ivh3 a0 16 ∧ ivh3 a0 16 ≤ 2147483647 from W3.int t_a0 16) (fun gk11f3 gk12f3 gk13f3 gk14f3 gk15f3 gk16f3 gf3 ri31 ri32 ri33 ri34 ri35 ri36 => ?_)
        exact c_iret C dX11_unreadable_29 rfl (by decide) (rom0 hph hph (by decide)) ⟨f3, rfl, hX0, F3, W3, ⟨by omega, by omega⟩, trivial, gk11f3, gk12f3, gk13f3, gk14f3, gk15f3, gk16f3, rfl, rfl⟩
      · refine c_iload_n (j := 3) C dX11_unreadable_16 rfl ?_
        refine c_sipush (z := 5000) C dX11_unreadable_17 (by decide) ?_
        refine c_icmp_le (tgt := 30) C ⟨by omega, by omega⟩ ⟨by decide, by decide⟩ dX11_unreadable_20 (by decide) (fun c4 => ?_) (fun c4 => ?_)
        · refine c_aload_n (j := 0) (x := a0) C dX11_unreadable_30 rfl ?_
          obtain ⟨rb1, rq1, trb1⟩ := hW.ref t_a0 4 rfl rfl rfl
          have erb1 := hW.sk trb1 (by decide) rfl
          subst erb1
          refine c_getr (k := 4) C ck_12 dX11_unreadable_31 w2_48 (by decide) t_a0 rfl rfl (by decide) rfl rq1 ?_
          refine c_st (st2 := [.ref (sk 13)]) rfl ?_
          refine c_iload_n (j := 1) C dX11_unreadable_34 rfl ?_
          refine d_callV (As := [.int (iI i)]) (rest := []) C hM (C_whole (a0 := (sk 13)) (i := i) hW hS tsk13 (by omega) hmr) dX11_unreadable_35 kV_X11_231 rfl tsk13 rfl rfl (by decide) ck_11 rfl (Nat.le_of_ble_eq_true rfl) ⟨(Nat.le_of_ble_eq_true rfl), (Nat.le_of_ble_eq_true rfl)⟩ hph hph (show 0 + 0 = 0 from rfl) (by decide) (fun rh4 Lh4 clh4 lnh4 ivh4 rvh4 h4 => ?_)
          obtain ⟨f4, rfl, rfl, rfl, rfl, rfl, rfl, rgf4, exf4⟩ := h4
          refine c_st (st2 := [(va_rf f4)]) rfl ?_
          refine c_astorer (r := f4) (lv2 := [(4, (va_rf f4)), (0, .ref a0), (1, .int (iI i)), (2, .int (iI n)), (3, .int (iI lim))]) C dX11_unreadable_38 (by decide) rfl ?_
          refine c_aloadr (j := 0) (r := f4) C dX11_unreadable_40 rfl ?_
          refine c_ifnonnull (r := f4) (tgt := 51) C dX11_unreadable_42 (by decide) (fun ob1 oq1 => ?_) (fun oq1 => ?_)
          · subst oq1
            have tob1 := rgf4 ob1 rfl
            refine c_lv (lv2 := [(4, .ref ob1), (0, .ref a0), (1, .int (iI i)), (2, .int (iI n)), (3, .int (iI lim))]) [0, 1, 2, 3, 4] rfl ?_
            refine c_st (st2 := []) rfl ?_
            refine c_aload_n (j := 1) (x := a0) C dX11_unreadable_51 rfl ?_
            obtain ⟨rb2, rq2, trb2⟩ := hW.ref t_a0 7 rfl rfl rfl
            have erb2 := hW.sk trb2 (by decide) rfl
            subst erb2
            refine c_getr (k := 7) C ck_12 dX11_unreadable_52 w2_51 (by decide) t_a0 rfl rfl (by decide) rfl rq2 ?_
            refine c_st (st2 := [.ref (sk 16)]) rfl ?_
            refine c_aload (j := 0) (x := ob1) C dX11_unreadable_55 rfl ?_
            refine d_callV (As := [.ref ob1]) (rest := []) C hM (C_gather (a0 := (sk 16)) (a1 := ob1) hW hS tsk16 tob1  ) dX11_unreadable_57 kV_X11_331 rfl tsk16 rfl rfl (by decide) ck_4 rfl (Nat.le_of_ble_eq_true rfl) ⟨(Nat.le_of_ble_eq_true rfl), (Nat.le_of_ble_eq_true rfl)⟩ hph hph (show 0 + 0 = 0 from rfl) (by decide) (fun rh5 Lh5 clh5 lnh5 ivh5 rvh5 h5 => ?_)
            obtain ⟨rfl, xl5, fl5, W5, exf5⟩ := h5
            refine hv4 (hF0.call hX0 fl5 rfl) (MRK.call hmr hW hS xl5 fl5 rfl rfl) (hX0.trans xl5) (xl5.skl hS) (fun F4 mr4 X1 sk1 => ?_)
            refine c_st (st2 := []) rfl ?_
            refine c_aload_n (j := 1) (x := a0) C dX11_unreadable_60 rfl ?_
            have ty1 := xl5.ty t_a0
            obtain ⟨rb3, rq3, trb3⟩ := W5.ref ty1 5 rfl rfl rfl
            have erb3 := W5.sk trb3 (by decide) rfl
            subst erb3
            refine c_getr (k := 5) C ck_12 dX11_unreadable_61 w2_49 (by decide) ty1 rfl rfl (by decide) rfl rq3 ?_
            refine c_st (st2 := [.ref (sk 14)]) rfl ?_
            refine c_aload_n (j := 1) (x := a0) C dX11_unreadable_64 rfl ?_
            have re1 : rvh5 a0 7 = rv a0 7 := (fl5.r t_a0 rfl 7)
            rw [rq2] at re1
            refine c_getr (k := 7) C ck_12 dX11_unreadable_65 w2_51 (by decide) ty1 rfl rfl (by decide) rfl re1 ?_
            refine c_st (st2 := [.ref (sk 16), .ref (sk 14)]) rfl ?_
            refine c_aload (j := 0) (x := ob1) C dX11_unreadable_68 rfl ?_
            refine hv2 (xl5.ty tob1) (show ivh5 ob1 0 = iv ob1 0 from fl5.i tob1 rfl 0) (fun ty2 ie19 => ?_)
            have ri37 : (-2147483648) ≤ ivh5 ob1 0 ∧ ivh5 ob1 0 ≤ 2147483647 := W5.int ty2 0
            refine c_get (k := 0) C ck_10 dX11_unreadable_70 w2_176 (by decide) ty2 rfl rfl (by decide) rfl ?_
            refine c_iconst C dX11_unreadable_73 ?_
            refine c_icmp_ne (tgt := 81) C (r32_c (lo := (-2147483648)) (hi := 2147483647) ri37.1 ri37.2 (by decide) (by decide)) ⟨by decide, by decide⟩ dX11_unreadable_74 (by decide) (fun c5 => ?_) (fun c5 => ?_)
            · refine c_iconst C dX11_unreadable_81 ?_
              refine hv4 (xl5.ty tsk14) (xl5.ty tsk16) (show ivh5 (sk 14) 7 = iv (sk 14) 7 from fl5.i tsk14 rfl 7) (Phi.le W5 sk1) (fun ty3 ty4 ie20 pl1 => ?_)
              have ri38 : 0 ≤ ivh5 (sk 14) 7 ∧ ivh5 (sk 14) 7 ≤ 6 := W5.int ty3 7
              refine d_callV (As := [.ref (sk 16), .int (iI 0)]) (rest := []) C hM (C_gatherAlphabet (a0 := (sk 14)) (a1 := (sk 16)) (g := 0) W5 sk1 ty3 ty4 ⟨by decide, by decide⟩ ) dX11_unreadable_82 kV_X11_385 rfl ty3 rfl rfl (by decide) ck_9 rfl (Nat.le_of_ble_eq_true rfl) ⟨(Nat.le_of_ble_eq_true rfl), (Nat.le_of_ble_eq_true rfl)⟩ hph pl1 (show 0 + 0 = 0 from rfl) (by decide) (fun rh6 Lh6 clh6 lnh6 ivh6 rvh6 h6 => ?_)
              obtain ⟨rfl, rfl, rfl, rfl, rfl, fl6, W6, exf6⟩ := h6
              refine hv2 (F4.call X1 fl6 rfl) (MRK.call mr4 W5 sk1 XT.refl fl6 rfl rfl) (fun F5 mr5 => ?_)
              refine c_st (st2 := []) rfl ?_
              refine hv2 (show 0 ≤ ivh6 (sk 14) 7 ∧ ivh6 (sk 14) 7 ≤ 6 from W6.int ty3 7) (show ivh6 (sk 14) 7 = ivh5 (sk 14) 7 from exf6) (fun ri39 gf6 => ?_)
              refine c_aload_n (j := 1) (x := a0) C dX11_unreadable_85 rfl ?_
              refine c_getr (k := 5) C ck_12 dX11_unreadable_86 w2_49 (by decide) ty1 rfl rfl (by decide) rfl rq3 ?_
              refine c_st (st2 := [.ref (sk 14)]) rfl ?_
              refine c_iload_n (j := 3) C dX11_unreadable_89 rfl ?_
              refine d_callV (As := [.int (iI n)]) (rest := []) C hM (C_startSpelling (a0 := (sk 14)) (n := n) W6 sk1 ty3 (by omega) ) dX11_unreadable_90 kV_X11_389 rfl ty3 rfl rfl (by decide) ck_9 rfl (Nat.le_of_ble_eq_true rfl) ⟨(Nat.le_of_ble_eq_true rfl), (Nat.le_of_ble_eq_true rfl)⟩ hph pl1 (show 0 + 0 = 0 from rfl) (by decide) (fun rh7 Lh7 clh7 lnh7 ivh7 rvh7 h7 => ?_)
              obtain ⟨f7, rfl, rfl, rfl, rfl, rfl, fl7, W7, rgf7, exf7⟩ := h7
              refine hv2 (F5.call X1 fl7 rfl) (MRK.call mr5 W6 sk1 XT.refl fl7 rfl rfl) (fun F6 mr6 => ?_)
              refine c_st (st2 := [.int (iI f7)]) rfl ?_
              refine c_istore (lv2 := [(5, .int (iI f7)), (4, .ref ob1), (0, .ref a0), (1, .int (iI i)), (2, .int (iI n)), (3, .int (iI lim))]) C dX11_unreadable_93 (by decide) rfl ?_
              refine c_iconst C dX11_unreadable_95 ?_
              refine c_istore (lv2 := [(6, .int (iI 0)), (5, .int (iI f7)), (4, .ref ob1), (0, .ref a0), (1, .int (iI i)), (2, .int (iI n)), (3, .int (iI lim))]) C dX11_unreadable_96 (by decide) rfl ?_
              have Lp1 : ∀ (nn : Nat) (ok k : Int) (Lb1 : List Nat) (clb1 lnb1 : Nat → Nat) (ivb1 : Nat → Nat → Int) (rvb1 : Nat → Nat → Option Nat) , 5002 - k < (nn : Int) → XT L cl ln Lb1 clb1 lnb1 → WT (g0 G) sk Lb1 clb1 lnb1 ivb1 rvb1 → fT [1, 4, 34, 14, 56, 57, 58, 15, 50, 51, 52, 53, 54, 55, 8, 38, 9, 39, 16, 10, 40, 24, 1002, 25, 1003, 6, 36, 7, 37] L cl iv rv ivb1 rvb1 → (ok = 0 ∨ ok = 1) → (0 ≤ k ∧ k ≤ 5001) → (ivb1 a0 11 = iv a0 11) → (ivb1 a0 12 = iv a0 12) → (ivb1 a0 13 = iv a0 13) → (ivb1 a0 14 = iv a0 14) → (ivb1 a0 15 = iv a0 15) → (ivb1 a0 16 = iv a0 16) → (rvb1 a0 9 = rv a0 9) → (rvb1 a0 10 = rv a0 10) → cw p l e 10 ((PHM) + 0 - ((Phi (g0 G) sk) ln rv)) s m args below meth c G A 7 (MQ below (Qu G A (Qp G (Phi (g0 G) sk) ((Phi (g0 G) sk) ln rv) 0 (fun v L2 cl2 ln2 iv2 rv2 => ∃ f : Int, v = some (.int (iI f)) ∧ XT L cl ln L2 cl2 ln2 ∧ fT [1, 4, 34, 14, 56, 57, 58, 15, 50, 51, 52, 53, 54, 55, 8, 38, 9, 39, 16, 10, 40, 24, 1002, 25, 1003, 6, 36, 7, 37] L cl iv rv iv2 rv2 ∧ WT (g0 G) sk L2 cl2 ln2 iv2 rv2 ∧ (-2147483648 ≤ f ∧ f ≤ 2147483647) ∧ (True) ∧ iv2 a0 11 = iv a0 11 ∧ iv2 a0 12 = iv a0 12 ∧ iv2 a0 13 = iv a0 13 ∧ iv2 a0 14 = iv a0 14 ∧ iv2 a0 15 = iv a0 15 ∧ iv2 a0 16 = iv a0 16 ∧ rv2 a0 9 = rv a0 9 ∧ rv2 a0 10 = rv a0 10))) args s (((PHM) + 0 - ((Phi (g0 G) sk) ln rv)) / 16) ((PHM) + 0 - ((Phi (g0 G) sk) ln rv)) A) (Phi (g0 G) sk) ((Phi (g0 G) sk) ln rv) Lb1 clb1 lnb1 ivb1 rvb1 0 98 [(5, .int (iI ok)), (6, .int (iI k)), (4, .ref ob1), (0, .ref a0), (1, .int (iI i)), (2, .int (iI n)), (3, .int (iI lim))] [] := by
                intro nn
                induction nn with
                | zero =>
                  intro  ok k Lb1 clb1 lnb1 ivb1 rvb1 hm Xb1 Wb1 Fb1  hok hk hkp11 hkp12 hkp13 hkp14 hkp15 hkp16 hkr9 hkr10
                  have skb1 := Xb1.skl hS
                  exact absurd hm (by omega)
                | succ nn ih1 =>
                  intro  ok k Lb1 clb1 lnb1 ivb1 rvb1 hm Xb1 Wb1 Fb1  hok hk hkp11 hkp12 hkp13 hkp14 hkp15 hkp16 hkr9 hkr10
                  refine hv2 (Xb1.skl hS) (MRK.call hmr hW hS Xb1 Fb1 rfl rfl) (fun skb1 mrb1 => ?_)
                  refine c_iload (j := 0) C dX11_unreadable_98 rfl ?_
                  refine c_if_eq (tgt := 200) C (r32_01 hok) dX11_unreadable_100 (by decide) (fun c6 => ?_) (fun c6 => ?_)
                  · clear hok
                    refine c_aload_n (j := 3) (x := a0) C dX11_unreadable_200 rfl ?_
                    refine c_iconst C dX11_unreadable_201 ?_
                    refine hv2 (Xb1.ty t_a0) (Phi.le Wb1 skb1) (fun ty5 pl2 => ?_)
                    refine d_callV (As := [.int (iI 0)]) (rest := []) C hM (C_done (a0 := a0) (x := 0) Wb1 skb1 ty5 ⟨by decide, by decide⟩ ) dX11_unreadable_202 kV_X11_109 rfl ty5 rfl rfl (by decide) ck_12 rfl (Nat.le_of_ble_eq_true rfl) ⟨(Nat.le_of_ble_eq_true rfl), (Nat.le_of_ble_eq_true rfl)⟩ hph pl2 (show 0 + 0 = 0 from rfl) (by decide) (fun rh8 Lh8 clh8 lnh8 ivh8 rvh8 h8 => ?_)
                    obtain ⟨f8, rfl, rfl, rfl, rfl, rfl, fl8, W8, rgf8, exf8, kp11f8, kp12f8, kp13f8, kp14f8, kp15f8, kp16f8⟩ := h8
                    refine hv8 (show 1 ≤ ivb1 a0 11 ∧ ivb1 a0 11 ≤ 100 from Wb1.int ty5 11) (show 1 ≤ ivb1 a0 12 ∧ ivb1 a0 12 ≤ 50 from Wb1.int ty5 12) (show (-2147483648) ≤ ivb1 a0 13 ∧ ivb1 a0 13 ≤ 2147483647 from Wb1.int ty5 13) (show (-2147483648) ≤ ivb1 a0 14 ∧ ivb1 a0 14 ≤ 2147483647 from Wb1.int ty5 14) (show (-2147483648) ≤ ivb1 a0 15 ∧ ivb1 a0 15 ≤ 2147483647 from Wb1.int ty5 15) (show (-2147483648) ≤ ivb1 a0 16 ∧ ivb1 a0 16 ≤ 2147483647 from Wb1.int ty5 16) (Fb1.call Xb1 fl8 rfl) (MRK.call mrb1 Wb1 skb1 XT.refl fl8 rfl rfl) (fun ri40 ri41 ri42 ri43 ri44 ri45 F7 mr7 => ?_)
                    refine c_st (st2 := [.int (iI f8)]) rfl ?_
                    refine hv13 (show ivh8 a0 11 = ivb1 a0 11 from kp11f8) (show ivh8 a0 12 = ivb1 a0 12 from kp12f8) (show ivh8 a0 13 = ivb1 a0 13 from kp13f8) (show ivh8 a0 14 = ivb1 a0 14 from kp14f8) (show ivh8 a0 15 = ivb1 a0 15 from kp15f8) (show ivh8 a0 16 = ivb1 a0 16 from kp16f8) (show f8 = (0 : Int) from exf8) (show 1 ≤ ivh8 a0 11 ∧ ivh8 a0 11 ≤ 100 from W8.int ty5 11) (show 1 ≤ ivh8 a0 12 ∧ ivh8 a0 12 ≤ 50 from W8.int ty5 12) (show (-2147483648) ≤ ivh8 a0 13 ∧ ivh8 a0 13 ≤ 2147483647 from W8.int ty5 13) (show (-2147483648) ≤ ivh8 a0 14 ∧ ivh8 a0 14 ≤ 2147483647 from W8.int ty5 14) (show (-2147483648) ≤ ivh8 a0 15 ∧ ivh8 a0 15 ≤ 2147483647 from W8.int ty5 15) (show (-2147483648) ≤ ivh8 a0 16 ∧ ivh8 a0 16 ≤ 2147483647 from W8.int ty5 16) (fun gk11f8 gk12f8 gk13f8 gk14f8 gk15f8 gk16f8 gf8 ri46 ri47 ri48 ri49 ri50 ri51 => ?_)
                    exact c_iret C dX11_unreadable_205 rfl (by decide) (rom0 hph pl2 (by decide)) ⟨f8, rfl, Xb1, F7, W8, ⟨by omega, by omega⟩, trivial, (gk11f8.trans hkp11), (gk12f8.trans hkp12), (gk13f8.trans hkp13), (gk14f8.trans hkp14), (gk15f8.trans hkp15), (gk16f8.trans hkp16), (show rvb1 a0 9 = rv a0 9 from hkr9), (show rvb1 a0 10 = rv a0 10 from hkr10)⟩
                  · replace hok := (hok.resolve_left c6)
                    refine c_iload (j := 1) C dX11_unreadable_103 rfl ?_
                    refine c_sipush (z := 5000) C dX11_unreadable_105 (by decide) ?_
                    refine c_icmp_gt (tgt := 200) C (r32_c (lo := 0) (hi := 5001) hk.1 hk.2 (by decide) (by decide)) ⟨by decide, by decide⟩ dX11_unreadable_108 (by decide) (fun c7 => ?_) (fun c7 => ?_)
                    · refine c_aload_n (j := 3) (x := a0) C dX11_unreadable_200 rfl ?_
                      refine c_iconst C dX11_unreadable_201 ?_
                      refine hv2 (Xb1.ty t_a0) (Phi.le Wb1 skb1) (fun ty6 pl3 => ?_)
                      refine d_callV (As := [.int (iI 0)]) (rest := []) C hM (C_done (a0 := a0) (x := 0) Wb1 skb1 ty6 ⟨by decide, by decide⟩ ) dX11_unreadable_202 kV_X11_109 rfl ty6 rfl rfl (by decide) ck_12 rfl (Nat.le_of_ble_eq_true rfl) ⟨(Nat.le_of_ble_eq_true rfl), (Nat.le_of_ble_eq_true rfl)⟩ hph pl3 (show 0 + 0 = 0 from rfl) (by decide) (fun rh9 Lh9 clh9 lnh9 ivh9 rvh9 h9 => ?_)
                      obtain ⟨f9, rfl, rfl, rfl, rfl, rfl, fl9, W9, rgf9, exf9, kp11f9, kp12f9, kp13f9, kp14f9, kp15f9, kp16f9⟩ := h9
                      refine hv8 (show 1 ≤ ivb1 a0 11 ∧ ivb1 a0 11 ≤ 100 from Wb1.int ty6 11) (show 1 ≤ ivb1 a0 12 ∧ ivb1 a0 12 ≤ 50 from Wb1.int ty6 12) (show (-2147483648) ≤ ivb1 a0 13 ∧ ivb1 a0 13 ≤ 2147483647 from Wb1.int ty6 13) (show (-2147483648) ≤ ivb1 a0 14 ∧ ivb1 a0 14 ≤ 2147483647 from Wb1.int ty6 14) (show (-2147483648) ≤ ivb1 a0 15 ∧ ivb1 a0 15 ≤ 2147483647 from Wb1.int ty6 15) (show (-2147483648) ≤ ivb1 a0 16 ∧ ivb1 a0 16 ≤ 2147483647 from Wb1.int ty6 16) (Fb1.call Xb1 fl9 rfl) (MRK.call mrb1 Wb1 skb1 XT.refl fl9 rfl rfl) (fun ri52 ri53 ri54 ri55 ri56 ri57 F8 mr8 => ?_)
                      refine c_st (st2 := [.int (iI f9)]) rfl ?_
                      refine hv13 (show ivh9 a0 11 = ivb1 a0 11 from kp11f9) (show ivh9 a0 12 = ivb1 a0 12 from kp12f9) (show ivh9 a0 13 = ivb1 a0 13 from kp13f9) (show ivh9 a0 14 = ivb1 a0 14 from kp14f9) (show ivh9 a0 15 = ivb1 a0 15 from kp15f9) (show ivh9 a0 16 = ivb1 a0 16 from kp16f9) (show f9 = (0 : Int) from exf9) (show 1 ≤ ivh9 a0 11 ∧ ivh9 a0 11 ≤ 100 from W9.int ty6 11) (show 1 ≤ ivh9 a0 12 ∧ ivh9 a0 12 ≤ 50 from W9.int ty6 12) (show (-2147483648) ≤ ivh9 a0 13 ∧ ivh9 a0 13 ≤ 2147483647 from W9.int ty6 13) (show (-2147483648) ≤ ivh9 a0 14 ∧ ivh9 a0 14 ≤ 2147483647 from W9.int ty6 14) (show (-2147483648) ≤ ivh9 a0 15 ∧ ivh9 a0 15 ≤ 2147483647 from W9.int ty6 15) (show (-2147483648) ≤ ivh9 a0 16 ∧ ivh9 a0 16 ≤ 2147483647 from W9.int ty6 16) (fun gk11f9 gk12f9 gk13f9 gk14f9 gk15f9 gk16f9 gf9 ri58 ri59 ri60 ri61 ri62 ri63 => ?_)
                      exact c_iret C dX11_unreadable_205 rfl (by decide) (rom0 hph pl3 (by decide)) ⟨f9, rfl, Xb1, F8, W9, ⟨by omega, by omega⟩, trivial, (gk11f9.trans hkp11), (gk12f9.trans hkp12), (gk13f9.trans hkp13), (gk14f9.trans hkp14), (gk15f9.trans hkp15), (gk16f9.trans hkp16), (show rvb1 a0 9 = rv a0 9 from hkr9), (show rvb1 a0 10 = rv a0 10 from hkr10)⟩
                    · refine c_iload (j := 1) C dX11_unreadable_111 rfl ?_
                      refine c_iload_n (j := 6) C dX11_unreadable_113 rfl ?_
                      refine c_icmp_lt (tgt := 124) C (r32_c (lo := 0) (hi := 5001) hk.1 hk.2 (by decide) (by decide)) ⟨by omega, by omega⟩ dX11_unreadable_114 (by decide) (fun c8 => ?_) (fun c8 => ?_)
                      · refine c_aload_n (j := 3) (x := a0) C dX11_unreadable_124 rfl ?_
                        have ty7 := Xb1.ty t_a0
                        obtain ⟨rb4, rq4, trb4⟩ := Wb1.ref ty7 5 rfl rfl rfl
                        have erb4 := Wb1.sk trb4 (by decide) rfl
                        subst erb4
                        refine c_getr (k := 5) C ck_12 dX11_unreadable_125 w2_49 (by decide) ty7 rfl rfl (by decide) rfl rq4 ?_
                        refine c_st (st2 := [.ref (sk 14)]) rfl ?_
                        refine c_aload_n (j := 3) (x := a0) C dX11_unreadable_128 rfl ?_
                        obtain ⟨rb5, rq5, trb5⟩ := Wb1.ref ty7 6 rfl rfl rfl
                        have erb5 := Wb1.sk trb5 (by decide) rfl
                        subst erb5
                        refine c_getr (k := 6) C ck_12 dX11_unreadable_129 w2_50 (by decide) ty7 rfl rfl (by decide) rfl rq5 ?_
                        refine c_st (st2 := [.ref (sk 15), .ref (sk 14)]) rfl ?_
                        refine hv3 (Xb1.ty tsk14) (Xb1.ty tsk15) (Phi.le Wb1 skb1) (fun ty8 ty9 pl4 => ?_)
                        refine d_callV (As := [.ref (sk 15)]) (rest := []) C hM (C_spell (a0 := (sk 14)) (a1 := (sk 15)) Wb1 skb1 ty8 ty9  ) dX11_unreadable_132 kV_X11_392 rfl ty8 rfl rfl (by decide) ck_9 rfl (Nat.le_of_ble_eq_true rfl) ⟨(Nat.le_of_ble_eq_true rfl), (Nat.le_of_ble_eq_true rfl)⟩ hph pl4 (show 0 + 0 = 0 from rfl) (by decide) (fun rh10 Lh10 clh10 lnh10 ivh10 rvh10 h10 => ?_)
                        obtain ⟨rfl, rfl, rfl, rfl, rfl, fl10, W10, exf10⟩ := h10
                        refine hv2 (Fb1.call Xb1 fl10 rfl) (MRK.call mrb1 Wb1 skb1 XT.refl fl10 rfl rfl) (fun F9 mr9 => ?_)
                        refine c_st (st2 := []) rfl ?_
                        refine c_aload_n (j := 3) (x := a0) C dX11_unreadable_135 rfl ?_
                        refine c_getr (k := 6) C ck_12 dX11_unreadable_136 w2_50 (by decide) ty7 rfl rfl (by decide) rfl rq5 ?_
                        refine c_st (st2 := [.ref (sk 15)]) rfl ?_
                        refine c_aload (j := 2) (x := ob1) C dX11_unreadable_139 rfl ?_
                        refine hv2 (Xb1.ty tob1) (show 0 ≤ ivh10 (sk 15) 4 ∧ ivh10 (sk 15) 4 ≤ 500 from W10.int ty9 4) (fun ty10 ri64 => ?_)
                        refine d_callV (As := [.ref ob1]) (rest := []) C hM (C_setBy (a0 := (sk 15)) (a1 := ob1) W10 skb1 ty9 ty10  ) dX11_unreadable_141 kV_X11_253 rfl ty9 rfl rfl (by decide) ck_7 rfl (Nat.le_of_ble_eq_true rfl) ⟨(Nat.le_of_ble_eq_true rfl), (Nat.le_of_ble_eq_true rfl)⟩ hph pl4 (show 0 + 0 = 0 from rfl) (by decide) (fun rh11 Lh11 clh11 lnh11 ivh11 rvh11 h11 => ?_)
                        obtain ⟨f11, rfl, rfl, rfl, rfl, rfl, fl11, W11, rgf11, exf11⟩ := h11
                        refine hv2 (F9.call Xb1 fl11 rfl) (MRK.call mr9 W10 skb1 XT.refl fl11 rfl rfl) (fun F10 mr10 => ?_)
                        refine c_st (st2 := [.int (iI f11)]) rfl ?_
                        refine hv3 (show 0 ≤ ivh11 (sk 15) 4 ∧ ivh11 (sk 15) 4 ≤ 500 from W11.int ty9 4) (show 0 ≤ ivh11 (sk 15) 7 ∧ ivh11 (sk 15) 7 ≤ 100000 from W11.int ty9 7) (show (f11 = 0 ∨ f11 = 6 ∨ f11 = 7) ∧ ivh11 (sk 15) 4 = ivh10 (sk 15) 4 ∧ (f11 = 0 → ivh11 (sk 15) 7 ≤ 200) from exf11) (fun ri65 ri66 gf11 => ?_)
                        refine c_if_ne (tgt := 184) C (r32_067 gf11.1) dX11_unreadable_144 (by decide) (fun c9 => ?_) (fun c9 => ?_)
                        · replace gf11 := (And.intro (gf11.1.resolve_left c9) (And.intro gf11.2.1 trivial))
                          refine c_aload_n (j := 3) (x := a0) C dX11_unreadable_184 rfl ?_
                          refine c_getr (k := 5) C ck_12 dX11_unreadable_185 w2_49 (by decide) ty7 rfl rfl (by decide) rfl rq4 ?_
                          refine c_st (st2 := [.ref (sk 14)]) rfl ?_
                          refine c_iload_n (j := 5) C dX11_unreadable_188 rfl ?_
                          refine d_callV (As := [.int (iI n)]) (rest := []) C hM (C_spellNext (a0 := (sk 14)) (n := n) W11 skb1 ty8 (by omega) ) dX11_unreadable_189 kV_X11_403 rfl ty8 rfl rfl (by decide) ck_9 rfl (Nat.le_of_ble_eq_true rfl) ⟨(Nat.le_of_ble_eq_true rfl), (Nat.le_of_ble_eq_true rfl)⟩ hph pl4 (show 0 + 0 = 0 from rfl) (by decide) (fun rh12 Lh12 clh12 lnh12 ivh12 rvh12 h12 => ?_)
                          obtain ⟨f12, rfl, rfl, rfl, rfl, rfl, fl12, W12, rgf12, exf12⟩ := h12
                          refine hv2 (F10.call Xb1 fl12 rfl) (MRK.call mr10 W11 skb1 XT.refl fl12 rfl rfl) (fun F11 mr11 => ?_)
                          refine c_st (st2 := [.int (iI f12)]) rfl ?_
                          refine c_istore (lv2 := [(5, .int (iI f12)), (6, .int (iI k)), (4, .ref ob1), (0, .ref a0), (1, .int (iI i)), (2, .int (iI n)), (3, .int (iI lim))]) C dX11_unreadable_192 (by decide) rfl ?_
                          refine c_iinc (z := k) (j := 1) (lv2 := [(6, .int (iI (k + 1))), (5, .int (iI f12)), (4, .ref ob1), (0, .ref a0), (1, .int (iI i)), (2, .int (iI n)), (3, .int (iI lim))]) C dX11_unreadable_194 rfl (by decide) rfl ?_
                          refine c_goto (tgt := 98) C dX11_unreadable_197 (by decide) ?_
                          refine hv24 (show 1 ≤ ivh12 a0 11 ∧ ivh12 a0 11 ≤ 100 from W12.int ty7 11) (show ivh12 a0 11 = ivh11 a0 11 from fl12.i ty7 rfl 11) (show ivh11 a0 11 = ivh10 a0 11 from fl11.i ty7 rfl 11) (show ivh10 a0 11 = ivb1 a0 11 from fl10.i ty7 rfl 11) (show 1 ≤ ivh12 a0 12 ∧ ivh12 a0 12 ≤ 50 from W12.int ty7 12) (show ivh12 a0 12 = ivh11 a0 12 from fl12.i ty7 rfl 12) (show ivh11 a0 12 = ivh10 a0 12 from fl11.i ty7 rfl 12) (show ivh10 a0 12 = ivb1 a0 12 from fl10.i ty7 rfl 12) (show (-2147483648) ≤ ivh12 a0 13 ∧ ivh12 a0 13 ≤ 2147483647 from W12.int ty7 13) (show ivh12 a0 13 = ivh11 a0 13 from fl12.i ty7 rfl 13) (show ivh11 a0 13 = ivh10 a0 13 from fl11.i ty7 rfl 13) (show ivh10 a0 13 = ivb1 a0 13 from fl10.i ty7 rfl 13) (show (-2147483648) ≤ ivh12 a0 14 ∧ ivh12 a0 14 ≤ 2147483647 from W12.int ty7 14) (show ivh12 a0 14 = ivh11 a0 14 from fl12.i ty7 rfl 14) (show ivh11 a0 14 = ivh10 a0 14 from fl11.i ty7 rfl 14) (show ivh10 a0 14 = ivb1 a0 14 from fl10.i ty7 rfl 14) (show (-2147483648) ≤ ivh12 a0 15 ∧ ivh12 a0 15 ≤ 2147483647 from W12.int ty7 15) (show ivh12 a0 15 = ivh11 a0 15 from fl12.i ty7 rfl 15) (show ivh11 a0 15 = ivh10 a0 15 from fl11.i ty7 rfl 15) (show ivh10 a0 15 = ivb1 a0 15 from fl10.i ty7 rfl 15) (show (-2147483648) ≤ ivh12 a0 16 ∧ ivh12 a0 16 ≤ 2147483647 from W12.int ty7 16) (show ivh12 a0 16 = ivh11 a0 16 from fl12.i ty7 rfl 16) (show ivh11 a0 16 = ivh10 a0 16 from fl11.i ty7 rfl 16) (show ivh10 a0 16 = ivb1 a0 16 from fl10.i ty7 rfl 16) (fun ri67 ie49 ie50 ie51 ri68 ie53 ie54 ie55 ri69 ie57 ie58 ie59 ri70 ie61 ie62 ie63 ri71 ie65 ie66 ie67 ri72 ie69 ie70 ie71 => ?_)
                          refine c_lv (lv2 := [(5, .int (iI f12)), (6, .int (iI (k + 1))), (4, .ref ob1), (0, .ref a0), (1, .int (iI i)), (2, .int (iI n)), (3, .int (iI lim))]) [1, 0, 2, 3, 4, 5, 6] rfl ?_
                          exact ih1  f12 (k + 1) _ _ _ _ _ (by omega) Xb1 W12 F11  (by omega) (by omega) (ie49.trans (ie50.trans (ie51.trans hkp11))) (ie53.trans (ie54.trans (ie55.trans hkp12))) (ie57.trans (ie58.trans (ie59.trans hkp13))) (ie61.trans (ie62.trans (ie63.trans hkp14))) (ie65.trans (ie66.trans (ie67.trans hkp15))) (ie69.trans (ie70.trans (ie71.trans hkp16))) (show rvb1 a0 9 = rv a0 9 from hkr9) (show rvb1 a0 10 = rv a0 10 from hkr10)
                        · replace gf11 := (And.intro c9 (And.intro gf11.2.1 (gf11.2.2 c9)))
                          refine c_aload_n (j := 3) (x := a0) C dX11_unreadable_147 rfl ?_
                          refine d_callV (As := []) (rest := []) C hM (C_isReadBack (a0 := a0) W11 skb1 ty7  (by show ivh11 (sk 15) 7 ≤ 200; omega)) dX11_unreadable_148 kV_X11_396 rfl ty7 rfl rfl (by decide) ck_12 rfl (Nat.le_of_ble_eq_true rfl) ⟨(Nat.le_of_ble_eq_true rfl), (Nat.le_of_ble_eq_true rfl)⟩ hph pl4 (show 0 + 0 = 0 from rfl) (by decide) (fun rh13 Lh13 clh13 lnh13 ivh13 rvh13 h13 => ?_)
                          obtain ⟨f13, rfl, xl13, fl13, W13, rgf13, exf13⟩ := h13
                          refine hv20 (F10.call Xb1 fl13 rfl) (MRK.call mr10 W11 skb1 xl13 fl13 rfl rfl) (Xb1.ty tsk2) (Xb1.ty tsk3) (Xb1.ty tsk4) (Xb1.ty tsk5) (Xb1.ty tsk6) (Xb1.ty tsk7) (Xb1.ty tsk8) (Xb1.ty tsk9) (Xb1.ty tsk10) (Xb1.ty tsk13) (Xb1.ty tsk16) (Xb1.ty tsk17) (Xb1.ty tsk22) (Xb1.ty tsk23) (Xb1.ty tsk24) (Xb1.ty tsk25) (Xb1.trans xl13) (xl13.skl skb1) (fun F12 mr12 ty11 ty12 ty13 ty14 ty15 ty16 ty17 ty18 ty19 ty20 ty21 ty22 ty23 ty24 ty25 ty26 X2 sk2 => ?_)
                          refine c_st (st2 := [.int (iI f13)]) rfl ?_
                          refine c_if_ne (tgt := 184) C ⟨by omega, by omega⟩ dX11_unreadable_151 (by decide) (fun c10 => ?_) (fun c10 => ?_)
                          · refine c_aload_n (j := 3) (x := a0) C dX11_unreadable_184 rfl ?_
                            refine hv2 (xl13.ty ty7) (show rvh13 a0 5 = rvb1 a0 5 from (fl13.r ty7 rfl 5)) (fun ty27 re2 => ?_)
                            rw [rq4] at re2
                            refine c_getr (k := 5) C ck_12 dX11_unreadable_185 w2_49 (by decide) ty27 rfl rfl (by decide) rfl re2 ?_
                            refine c_st (st2 := [.ref (sk 14)]) rfl ?_
                            refine c_iload_n (j := 5) C dX11_unreadable_188 rfl ?_
                            refine hv2 (xl13.ty ty8) (Phi.le W13 sk2) (fun ty28 pl5 => ?_)
                            refine d_callV (As := [.int (iI n)]) (rest := []) C hM (C_spellNext (a0 := (sk 14)) (n := n) W13 sk2 ty28 (by omega) ) dX11_unreadable_189 kV_X11_403 rfl ty28 rfl rfl (by decide) ck_9 rfl (Nat.le_of_ble_eq_true rfl) ⟨(Nat.le_of_ble_eq_true rfl), (Nat.le_of_ble_eq_true rfl)⟩ hph pl5 (show 0 + 0 = 0 from rfl) (by decide) (fun rh14 Lh14 clh14 lnh14 ivh14 rvh14 h14 => ?_)
                            obtain ⟨f14, rfl, rfl, rfl, rfl, rfl, fl14, W14, rgf14, exf14⟩ := h14
                            refine hv2 (F12.call X2 fl14 rfl) (MRK.call mr12 W13 sk2 XT.refl fl14 rfl rfl) (fun F13 mr13 => ?_)
                            refine c_st (st2 := [.int (iI f14)]) rfl ?_
                            refine c_istore (lv2 := [(5, .int (iI f14)), (6, .int (iI k)), (4, .ref ob1), (0, .ref a0), (1, .int (iI i)), (2, .int (iI n)), (3, .int (iI lim))]) C dX11_unreadable_192 (by decide) rfl ?_
                            refine c_iinc (z := k) (j := 1) (lv2 := [(6, .int (iI (k + 1))), (5, .int (iI f14)), (4, .ref ob1), (0, .ref a0), (1, .int (iI i)), (2, .int (iI n)), (3, .int (iI lim))]) C dX11_unreadable_194 rfl (by decide) rfl ?_
                            refine c_goto (tgt := 98) C dX11_unreadable_197 (by decide) ?_
                            refine hv30 (show 1 ≤ ivh14 a0 11 ∧ ivh14 a0 11 ≤ 100 from W14.int ty27 11) (show ivh14 a0 11 = ivh13 a0 11 from fl14.i ty27 rfl 11) (show ivh13 a0 11 = ivh11 a0 11 from fl13.i ty7 rfl 11) (show ivh11 a0 11 = ivh10 a0 11 from fl11.i ty7 rfl 11) (show ivh10 a0 11 = ivb1 a0 11 from fl10.i ty7 rfl 11) (show 1 ≤ ivh14 a0 12 ∧ ivh14 a0 12 ≤ 50 from W14.int ty27 12) (show ivh14 a0 12 = ivh13 a0 12 from fl14.i ty27 rfl 12) (show ivh13 a0 12 = ivh11 a0 12 from fl13.i ty7 rfl 12) (show ivh11 a0 12 = ivh10 a0 12 from fl11.i ty7 rfl 12) (show ivh10 a0 12 = ivb1 a0 12 from fl10.i ty7 rfl 12) (show (-2147483648) ≤ ivh14 a0 13 ∧ ivh14 a0 13 ≤ 2147483647 from W14.int ty27 13) (show ivh14 a0 13 = ivh13 a0 13 from fl14.i ty27 rfl 13) (show ivh13 a0 13 = ivh11 a0 13 from fl13.i ty7 rfl 13) (show ivh11 a0 13 = ivh10 a0 13 from fl11.i ty7 rfl 13) (show ivh10 a0 13 = ivb1 a0 13 from fl10.i ty7 rfl 13) (show (-2147483648) ≤ ivh14 a0 14 ∧ ivh14 a0 14 ≤ 2147483647 from W14.int ty27 14) (show ivh14 a0 14 = ivh13 a0 14 from fl14.i ty27 rfl 14) (show ivh13 a0 14 = ivh11 a0 14 from fl13.i ty7 rfl 14) (show ivh11 a0 14 = ivh10 a0 14 from fl11.i ty7 rfl 14) (show ivh10 a0 14 = ivb1 a0 14 from fl10.i ty7 rfl 14) (show (-2147483648) ≤ ivh14 a0 15 ∧ ivh14 a0 15 ≤ 2147483647 from W14.int ty27 15) (show ivh14 a0 15 = ivh13 a0 15 from fl14.i ty27 rfl 15) (show ivh13 a0 15 = ivh11 a0 15 from fl13.i ty7 rfl 15) (show ivh11 a0 15 = ivh10 a0 15 from fl11.i ty7 rfl 15) (show ivh10 a0 15 = ivb1 a0 15 from fl10.i ty7 rfl 15) (show (-2147483648) ≤ ivh14 a0 16 ∧ ivh14 a0 16 ≤ 2147483647 from W14.int ty27 16) (show ivh14 a0 16 = ivh13 a0 16 from fl14.i ty27 rfl 16) (show ivh13 a0 16 = ivh11 a0 16 from fl13.i ty7 rfl 16) (show ivh11 a0 16 = ivh10 a0 16 from fl11.i ty7 rfl 16) (show ivh10 a0 16 = ivb1 a0 16 from fl10.i ty7 rfl 16) (fun ri73 ie73 ie74 ie75 ie76 ri74 ie78 ie79 ie80 ie81 ri75 ie83 ie84 ie85 ie86 ri76 ie88 ie89 ie90 ie91 ri77 ie93 ie94 ie95 ie96 ri78 ie98 ie99 ie100 ie101 => ?_)
                            refine c_lv (lv2 := [(5, .int (iI f14)), (6, .int (iI (k + 1))), (4, .ref ob1), (0, .ref a0), (1, .int (iI i)), (2, .int (iI n)), (3, .int (iI lim))]) [1, 0, 2, 3, 4, 5, 6] rfl ?_
                            exact ih1  f14 (k + 1) _ _ _ _ _ (by omega) X2 W14 F13  (by omega) (by omega) (ie73.trans (ie74.trans (ie75.trans (ie76.trans hkp11)))) (ie78.trans (ie79.trans (ie80.trans (ie81.trans hkp12)))) (ie83.trans (ie84.trans (ie85.trans (ie86.trans hkp13)))) (ie88.trans (ie89.trans (ie90.trans (ie91.trans hkp14)))) (ie93.trans (ie94.trans (ie95.trans (ie96.trans hkp15)))) (ie98.trans (ie99.trans (ie100.trans (ie101.trans hkp16)))) (Eq.trans (show rvh13 a0 9 = rvb1 a0 9 from (fl13.r ty7 rfl 9)) (show rvb1 a0 9 = rv a0 9 from hkr9)) (Eq.trans (show rvh13 a0 10 = rvb1 a0 10 from (fl13.r ty7 rfl 10)) (show rvb1 a0 10 = rv a0 10 from hkr10))
                          · refine c_aload_n (j := 3) (x := a0) C dX11_unreadable_154 rfl ?_
                            have ty29 := xl13.ty ty7
                            obtain ⟨rb6, rq6, trb6⟩ := W13.ref ty29 2 rfl rfl rfl
                            have erb6 := W13.sk trb6 (by decide) rfl
                            subst erb6
                            refine c_getr (k := 2) C ck_12 dX11_unreadable_155 w2_46 (by decide) ty29 rfl rfl (by decide) rfl rq6 ?_
                            refine c_st (st2 := [.ref (sk 4)]) rfl ?_
                            refine hv2 (xl13.ty ty13) (Phi.le W13 sk2) (fun ty30 pl6 => ?_)
                            refine d_callV (As := []) (rest := []) C hM (C_clear_4 (a0 := (sk 4)) W13 sk2 ty30  ) dX11_unreadable_158 kV_X11_164 rfl ty30 rfl rfl (by decide) ck_2 rfl (Nat.le_of_ble_eq_true rfl) ⟨(Nat.le_of_ble_eq_true rfl), (Nat.le_of_ble_eq_true rfl)⟩ hph pl6 (show 0 + 0 = 0 from rfl) (by decide) (fun rh15 Lh15 clh15 lnh15 ivh15 rvh15 h15 => ?_)
                            obtain ⟨rfl, rfl, rfl, rfl, rfl, fl15, W15, exf15⟩ := h15
                            refine hv2 (F12.call X2 fl15 rfl) (MRK.call mr12 W13 sk2 XT.refl fl15 rfl rfl) (fun F14 mr14 => ?_)
                            refine c_st (st2 := []) rfl ?_
                            refine hv2 (show 0 ≤ ivh15 (sk 4) 2 ∧ ivh15 (sk 4) 2 ≤ 4000 from W15.int ty30 2) (show ivh15 (sk 4) 2 = 0 from exf15) (fun ri79 gf15 => ?_)
                            refine c_aload_n (j := 3) (x := a0) C dX11_unreadable_161 rfl ?_
                            have re3 : rvh13 a0 6 = rvb1 a0 6 := (fl13.r ty7 rfl 6)
                            rw [rq5] at re3
                            refine c_getr (k := 6) C ck_12 dX11_unreadable_162 w2_50 (by decide) ty29 rfl rfl (by decide) rfl re3 ?_
                            refine c_st (st2 := [.ref (sk 15)]) rfl ?_
                            refine c_aload_n (j := 3) (x := a0) C dX11_unreadable_165 rfl ?_
                            refine c_getr (k := 2) C ck_12 dX11_unreadable_166 w2_46 (by decide) ty29 rfl rfl (by decide) rfl rq6 ?_
                            refine c_st (st2 := [.ref (sk 4), .ref (sk 15)]) rfl ?_
                            have ty31 := xl13.ty ty9
                            refine d_callV (As := [.ref (sk 4)]) (rest := []) C hM (C_wwl (a0 := (sk 15)) (a1 := (sk 4)) W15 sk2 ty31 ty30  ) dX11_unreadable_169 kV_X11_399 rfl ty31 rfl rfl (by decide) ck_7 rfl (Nat.le_of_ble_eq_true rfl) ⟨(Nat.le_of_ble_eq_true rfl), (Nat.le_of_ble_eq_true rfl)⟩ hph pl6 (show 0 + 0 = 0 from rfl) (by decide) (fun rh16 Lh16 clh16 lnh16 ivh16 rvh16 h16 => ?_)
                            obtain ⟨rfl, xl16, fl16, W16, exf16⟩ := h16
                            refine hv21 (F14.call X2 fl16 rfl) (MRK.call mr14 W15 sk2 xl16 fl16 rfl rfl) (xl13.ty ty11) (xl13.ty ty12) (xl13.ty ty14) (xl13.ty ty15) (xl13.ty ty16) (xl13.ty ty17) (xl13.ty ty18) (xl13.ty ty19) (xl13.ty ty20) (xl13.ty ty8) (xl13.ty ty21) (xl13.ty ty22) (xl13.ty ty23) (xl13.ty ty24) (xl13.ty ty25) (xl13.ty ty26) (xl13.ty ty10) (X2.trans xl16) (xl16.skl sk2) (fun F15 mr15 ty32 ty33 ty34 ty35 ty36 ty37 ty38 ty39 ty40 ty41 ty42 ty43 ty44 ty45 ty46 ty47 ty48 X3 sk3 => ?_)
                            refine c_st (st2 := []) rfl ?_
                            refine c_aload_n (j := 3) (x := a0) C dX11_unreadable_172 rfl ?_
                            refine c_aload_n (j := 3) (x := a0) C dX11_unreadable_173 rfl ?_
                            refine hv2 (xl16.ty ty29) (show rvh16 a0 6 = rvh13 a0 6 from (fl16.r ty29 rfl 6)) (fun ty49 re4 => ?_)
                            rw [re3] at re4
                            refine c_getr (k := 6) C ck_12 dX11_unreadable_174 w2_50 (by decide) ty49 rfl rfl (by decide) rfl re4 ?_
                            refine c_st (st2 := [.ref (sk 15), .ref a0]) rfl ?_
                            refine hv4 (xl16.ty ty31) (show ivh16 (sk 15) 4 = ivh15 (sk 15) 4 from fl16.i ty31 rfl 4) (show ivh15 (sk 15) 4 = ivh13 (sk 15) 4 from fl15.i ty31 rfl 4) (show ivh13 (sk 15) 4 = ivh11 (sk 15) 4 from fl13.i ty9 rfl 4) (fun ty50 ie104 ie105 ie106 => ?_)
                            have ri80 : 0 ≤ ivh16 (sk 15) 4 ∧ ivh16 (sk 15) 4 ≤ 500 := W16.int ty50 4
                            refine c_get (k := 4) C ck_7 dX11_unreadable_177 w1_142 (by decide) ty50 rfl rfl (by decide) rfl ?_
                            have pl7 := Phi.le W16 sk3
                            refine d_callV (As := [.int (iI (ivh16 (sk 15) 4))]) (rest := []) C hM (C_done (a0 := a0) (x := ivh16 (sk 15) 4) W16 sk3 ty49 (by omega) ) dX11_unreadable_180 kV_X11_109 rfl ty49 rfl rfl (by decide) ck_12 rfl (Nat.le_of_ble_eq_true rfl) ⟨(Nat.le_of_ble_eq_true rfl), (Nat.le_of_ble_eq_true rfl)⟩ hph pl7 (show 0 + 0 = 0 from rfl) (by decide) (fun rh17 Lh17 clh17 lnh17 ivh17 rvh17 h17 => ?_)
                            obtain ⟨f17, rfl, rfl, rfl, rfl, rfl, fl17, W17, rgf17, exf17, kp11f17, kp12f17, kp13f17, kp14f17, kp15f17, kp16f17⟩ := h17
                            refine hv38 (show 1 ≤ ivh16 a0 11 ∧ ivh16 a0 11 ≤ 100 from W16.int ty49 11) (show ivh16 a0 11 = ivh15 a0 11 from fl16.i ty29 rfl 11) (show ivh15 a0 11 = ivh13 a0 11 from fl15.i ty29 rfl 11) (show ivh13 a0 11 = ivh11 a0 11 from fl13.i ty7 rfl 11) (show ivh11 a0 11 = ivh10 a0 11 from fl11.i ty7 rfl 11) (show ivh10 a0 11 = ivb1 a0 11 from fl10.i ty7 rfl 11) (show 1 ≤ ivh16 a0 12 ∧ ivh16 a0 12 ≤ 50 from W16.int ty49 12) (show ivh16 a0 12 = ivh15 a0 12 from fl16.i ty29 rfl 12) (show ivh15 a0 12 = ivh13 a0 12 from fl15.i ty29 rfl 12) (show ivh13 a0 12 = ivh11 a0 12 from fl13.i ty7 rfl 12) (show ivh11 a0 12 = ivh10 a0 12 from fl11.i ty7 rfl 12) (show ivh10 a0 12 = ivb1 a0 12 from fl10.i ty7 rfl 12) (show (-2147483648) ≤ ivh16 a0 13 ∧ ivh16 a0 13 ≤ 2147483647 from W16.int ty49 13) (show ivh16 a0 13 = ivh15 a0 13 from fl16.i ty29 rfl 13) (show ivh15 a0 13 = ivh13 a0 13 from fl15.i ty29 rfl 13) (show ivh13 a0 13 = ivh11 a0 13 from fl13.i ty7 rfl 13) (show ivh11 a0 13 = ivh10 a0 13 from fl11.i ty7 rfl 13) (show ivh10 a0 13 = ivb1 a0 13 from fl10.i ty7 rfl 13) (show (-2147483648) ≤ ivh16 a0 14 ∧ ivh16 a0 14 ≤ 2147483647 from W16.int ty49 14) (show ivh16 a0 14 = ivh15 a0 14 from fl16.i ty29 rfl 14) (show ivh15 a0 14 = ivh13 a0 14 from fl15.i ty29 rfl 14) (show ivh13 a0 14 = ivh11 a0 14 from fl13.i ty7 rfl 14) (show ivh11 a0 14 = ivh10 a0 14 from fl11.i ty7 rfl 14) (show ivh10 a0 14 = ivb1 a0 14 from fl10.i ty7 rfl 14) (show (-2147483648) ≤ ivh16 a0 15 ∧ ivh16 a0 15 ≤ 2147483647 from W16.int ty49 15) (show ivh16 a0 15 = ivh15 a0 15 from fl16.i ty29 rfl 15) (show ivh15 a0 15 = ivh13 a0 15 from fl15.i ty29 rfl 15) (show ivh13 a0 15 = ivh11 a0 15 from fl13.i ty7 rfl 15) (show ivh11 a0 15 = ivh10 a0 15 from fl11.i ty7 rfl 15) (show ivh10 a0 15 = ivb1 a0 15 from fl10.i ty7 rfl 15) (show (-2147483648) ≤ ivh16 a0 16 ∧ ivh16 a0 16 ≤ 2147483647 from W16.int ty49 16) (show ivh16 a0 16 = ivh15 a0 16 from fl16.i ty29 rfl 16) (show ivh15 a0 16 = ivh13 a0 16 from fl15.i ty29 rfl 16) (show ivh13 a0 16 = ivh11 a0 16 from fl13.i ty7 rfl 16) (show ivh11 a0 16 = ivh10 a0 16 from fl11.i ty7 rfl 16) (show ivh10 a0 16 = ivb1 a0 16 from fl10.i ty7 rfl 16) (F15.call X3 fl17 rfl) (MRK.call mr15 W16 sk3 XT.refl fl17 rfl rfl) (fun ri81 ie107 ie108 ie109 ie110 ie111 ri82 ie113 ie114 ie115 ie116 ie117 ri83 ie119 ie120 ie121 ie122 ie123 ri84 ie125 ie126 ie127 ie128 ie129 ri85 ie131 ie132 ie133 ie134 ie135 ri86 ie137 ie138 ie139 ie140 ie141 F16 mr16 => ?_)
                            refine c_st (st2 := [.int (iI f17)]) rfl ?_
                            refine hv13 (show ivh17 a0 11 = ivh16 a0 11 from kp11f17) (show ivh17 a0 12 = ivh16 a0 12 from kp12f17) (show ivh17 a0 13 = ivh16 a0 13 from kp13f17) (show ivh17 a0 14 = ivh16 a0 14 from kp14f17) (show ivh17 a0 15 = ivh16 a0 15 from kp15f17) (show ivh17 a0 16 = ivh16 a0 16 from kp16f17) (show f17 = (ivh16 (sk 15) 4) from exf17) (show 1 ≤ ivh17 a0 11 ∧ ivh17 a0 11 ≤ 100 from W17.int ty49 11) (show 1 ≤ ivh17 a0 12 ∧ ivh17 a0 12 ≤ 50 from W17.int ty49 12) (show (-2147483648) ≤ ivh17 a0 13 ∧ ivh17 a0 13 ≤ 2147483647 from W17.int ty49 13) (show (-2147483648) ≤ ivh17 a0 14 ∧ ivh17 a0 14 ≤ 2147483647 from W17.int ty49 14) (show (-2147483648) ≤ ivh17 a0 15 ∧ ivh17 a0 15 ≤ 2147483647 from W17.int ty49 15) (show (-2147483648) ≤ ivh17 a0 16 ∧ ivh17 a0 16 ≤ 2147483647 from W17.int ty49 16) (fun gk11f17 gk12f17 gk13f17 gk14f17 gk15f17 gk16f17 gf17 ri87 ri88 ri89 ri90 ri91 ri92 => ?_)
                            exact c_iret C dX11_unreadable_183 rfl (by decide) (rom0 hph pl7 (by decide)) ⟨f17, rfl, X3, F16, W17, ⟨by omega, by omega⟩, trivial, (gk11f17.trans (ie107.trans (ie108.trans (ie109.trans (ie110.trans (ie111.trans hkp11)))))), (gk12f17.trans (ie113.trans (ie114.trans (ie115.trans (ie116.trans (ie117.trans hkp12)))))), (gk13f17.trans (ie119.trans (ie120.trans (ie121.trans (ie122.trans (ie123.trans hkp13)))))), (gk14f17.trans (ie125.trans (ie126.trans (ie127.trans (ie128.trans (ie129.trans hkp14)))))), (gk15f17.trans (ie131.trans (ie132.trans (ie133.trans (ie134.trans (ie135.trans hkp15)))))), (gk16f17.trans (ie137.trans (ie138.trans (ie139.trans (ie140.trans (ie141.trans hkp16)))))), (Eq.trans (show rvh16 a0 9 = rvh13 a0 9 from (fl16.r ty29 rfl 9)) (Eq.trans (show rvh13 a0 9 = rvb1 a0 9 from (fl13.r ty7 rfl 9)) (show rvb1 a0 9 = rv a0 9 from hkr9))), (Eq.trans (show rvh16 a0 10 = rvh13 a0 10 from (fl16.r ty29 rfl 10)) (Eq.trans (show rvh13 a0 10 = rvb1 a0 10 from (fl13.r ty7 rfl 10)) (show rvb1 a0 10 = rv a0 10 from hkr10)))⟩
                      · refine c_aload_n (j := 3) (x := a0) C dX11_unreadable_117 rfl ?_
                        refine c_bipush (z := 8) C dX11_unreadable_118 (by decide) ?_
                        refine hv2 (Xb1.ty t_a0) (Phi.le Wb1 skb1) (fun ty51 pl8 => ?_)
                        refine d_callV (As := [.int (iI 8)]) (rest := []) C hM (C_refuse (a0 := a0) (x := 8) Wb1 skb1 ty51 ⟨by decide, by decide⟩ ) dX11_unreadable_120 kV_X11_102 rfl ty51 rfl rfl (by decide) ck_12 rfl (Nat.le_of_ble_eq_true rfl) ⟨(Nat.le_of_ble_eq_true rfl), (Nat.le_of_ble_eq_true rfl)⟩ hph pl8 (show 0 + 0 = 0 from rfl) (by decide) (fun rh18 Lh18 clh18 lnh18 ivh18 rvh18 h18 => ?_)
                        obtain ⟨f18, rfl, rfl, rfl, rfl, rfl, fl18, W18, rgf18, exf18, kp11f18, kp12f18, kp13f18, kp14f18, kp15f18, kp16f18⟩ := h18
                        refine hv8 (show 1 ≤ ivb1 a0 11 ∧ ivb1 a0 11 ≤ 100 from Wb1.int ty51 11) (show 1 ≤ ivb1 a0 12 ∧ ivb1 a0 12 ≤ 50 from Wb1.int ty51 12) (show (-2147483648) ≤ ivb1 a0 13 ∧ ivb1 a0 13 ≤ 2147483647 from Wb1.int ty51 13) (show (-2147483648) ≤ ivb1 a0 14 ∧ ivb1 a0 14 ≤ 2147483647 from Wb1.int ty51 14) (show (-2147483648) ≤ ivb1 a0 15 ∧ ivb1 a0 15 ≤ 2147483647 from Wb1.int ty51 15) (show (-2147483648) ≤ ivb1 a0 16 ∧ ivb1 a0 16 ≤ 2147483647 from Wb1.int ty51 16) (Fb1.call Xb1 fl18 rfl) (MRK.call mrb1 Wb1 skb1 XT.refl fl18 rfl rfl) (fun ri93 ri94 ri95 ri96 ri97 ri98 F17 mr17 => ?_)
                        refine c_st (st2 := [.int (iI f18)]) rfl ?_
                        refine hv13 (show ivh18 a0 11 = ivb1 a0 11 from kp11f18) (show ivh18 a0 12 = ivb1 a0 12 from kp12f18) (show ivh18 a0 13 = ivb1 a0 13 from kp13f18) (show ivh18 a0 14 = ivb1 a0 14 from kp14f18) (show ivh18 a0 15 = ivb1 a0 15 from kp15f18) (show ivh18 a0 16 = ivb1 a0 16 from kp16f18) (show f18 = -1 from exf18) (show 1 ≤ ivh18 a0 11 ∧ ivh18 a0 11 ≤ 100 from W18.int ty51 11) (show 1 ≤ ivh18 a0 12 ∧ ivh18 a0 12 ≤ 50 from W18.int ty51 12) (show (-2147483648) ≤ ivh18 a0 13 ∧ ivh18 a0 13 ≤ 2147483647 from W18.int ty51 13) (show (-2147483648) ≤ ivh18 a0 14 ∧ ivh18 a0 14 ≤ 2147483647 from W18.int ty51 14) (show (-2147483648) ≤ ivh18 a0 15 ∧ ivh18 a0 15 ≤ 2147483647 from W18.int ty51 15) (show (-2147483648) ≤ ivh18 a0 16 ∧ ivh18 a0 16 ≤ 2147483647 from W18.int ty51 16) (fun gk11f18 gk12f18 gk13f18 gk14f18 gk15f18 gk16f18 gf18 ri99 ri100 ri101 ri102 ri103 ri104 => ?_)
                        exact c_iret C dX11_unreadable_123 rfl (by decide) (rom0 hph pl8 (by decide)) ⟨f18, rfl, Xb1, F17, W18, ⟨by omega, by omega⟩, trivial, (gk11f18.trans hkp11), (gk12f18.trans hkp12), (gk13f18.trans hkp13), (gk14f18.trans hkp14), (gk15f18.trans hkp15), (gk16f18.trans hkp16), (show rvb1 a0 9 = rv a0 9 from hkr9), (show rvb1 a0 10 = rv a0 10 from hkr10)⟩
              refine hv24 (show 1 ≤ ivh7 a0 11 ∧ ivh7 a0 11 ≤ 100 from W7.int ty1 11) (show ivh7 a0 11 = ivh6 a0 11 from fl7.i ty1 rfl 11) (show ivh6 a0 11 = ivh5 a0 11 from fl6.i ty1 rfl 11) (show ivh5 a0 11 = iv a0 11 from fl5.i t_a0 rfl 11) (show 1 ≤ ivh7 a0 12 ∧ ivh7 a0 12 ≤ 50 from W7.int ty1 12) (show ivh7 a0 12 = ivh6 a0 12 from fl7.i ty1 rfl 12) (show ivh6 a0 12 = ivh5 a0 12 from fl6.i ty1 rfl 12) (show ivh5 a0 12 = iv a0 12 from fl5.i t_a0 rfl 12) (show (-2147483648) ≤ ivh7 a0 13 ∧ ivh7 a0 13 ≤ 2147483647 from W7.int ty1 13) (show ivh7 a0 13 = ivh6 a0 13 from fl7.i ty1 rfl 13) (show ivh6 a0 13 = ivh5 a0 13 from fl6.i ty1 rfl 13) (show ivh5 a0 13 = iv a0 13 from fl5.i t_a0 rfl 13) (show (-2147483648) ≤ ivh7 a0 14 ∧ ivh7 a0 14 ≤ 2147483647 from W7.int ty1 14) (show ivh7 a0 14 = ivh6 a0 14 from fl7.i ty1 rfl 14) (show ivh6 a0 14 = ivh5 a0 14 from fl6.i ty1 rfl 14) (show ivh5 a0 14 = iv a0 14 from fl5.i t_a0 rfl 14) (show (-2147483648) ≤ ivh7 a0 15 ∧ ivh7 a0 15 ≤ 2147483647 from W7.int ty1 15) (show ivh7 a0 15 = ivh6 a0 15 from fl7.i ty1 rfl 15) (show ivh6 a0 15 = ivh5 a0 15 from fl6.i ty1 rfl 15) (show ivh5 a0 15 = iv a0 15 from fl5.i t_a0 rfl 15) (show (-2147483648) ≤ ivh7 a0 16 ∧ ivh7 a0 16 ≤ 2147483647 from W7.int ty1 16) (show ivh7 a0 16 = ivh6 a0 16 from fl7.i ty1 rfl 16) (show ivh6 a0 16 = ivh5 a0 16 from fl6.i ty1 rfl 16) (show ivh5 a0 16 = iv a0 16 from fl5.i t_a0 rfl 16) (fun ri105 ie161 ie162 ie163 ri106 ie164 ie165 ie166 ri107 ie167 ie168 ie169 ri108 ie170 ie171 ie172 ri109 ie173 ie174 ie175 ri110 ie176 ie177 ie178 => ?_)
              refine c_lv (lv2 := [(5, .int (iI f7)), (6, .int (iI 0)), (4, .ref ob1), (0, .ref a0), (1, .int (iI i)), (2, .int (iI n)), (3, .int (iI lim))]) [1, 0, 2, 3, 4, 5, 6] rfl ?_
              exact Lp1 5004 f7 0 _ _ _ _ _ (by omega) X1 W7 F6  (by omega) (by omega) (ie161.trans (ie162.trans ie163)) (ie164.trans (ie165.trans ie166)) (ie167.trans (ie168.trans ie169)) (ie170.trans (ie171.trans ie172)) (ie173.trans (ie174.trans ie175)) (ie176.trans (ie177.trans ie178)) (show rvh5 a0 9 = rv a0 9 from (fl5.r t_a0 rfl 9)) (show rvh5 a0 10 = rv a0 10 from (fl5.r t_a0 rfl 10))
            · refine c_iconst C dX11_unreadable_77 ?_
              refine c_goto (tgt := 82) C dX11_unreadable_78 (by decide) ?_
              refine hv4 (xl5.ty tsk14) (xl5.ty tsk16) (show ivh5 (sk 14) 7 = iv (sk 14) 7 from fl5.i tsk14 rfl 7) (Phi.le W5 sk1) (fun ty52 ty53 ie179 pl9 => ?_)
              have ri111 : 0 ≤ ivh5 (sk 14) 7 ∧ ivh5 (sk 14) 7 ≤ 6 := W5.int ty52 7
              refine d_callV (As := [.ref (sk 16), .int (iI 1)]) (rest := []) C hM (C_gatherAlphabet (a0 := (sk 14)) (a1 := (sk 16)) (g := 1) W5 sk1 ty52 ty53 ⟨by decide, by decide⟩ ) dX11_unreadable_82 kV_X11_385 rfl ty52 rfl rfl (by decide) ck_9 rfl (Nat.le_of_ble_eq_true rfl) ⟨(Nat.le_of_ble_eq_true rfl), (Nat.le_of_ble_eq_true rfl)⟩ hph pl9 (show 0 + 0 = 0 from rfl) (by decide) (fun rh19 Lh19 clh19 lnh19 ivh19 rvh19 h19 => ?_)
              obtain ⟨rfl, rfl, rfl, rfl, rfl, fl19, W19, exf19⟩ := h19
              refine hv2 (F4.call X1 fl19 rfl) (MRK.call mr4 W5 sk1 XT.refl fl19 rfl rfl) (fun F18 mr18 => ?_)
              refine c_st (st2 := []) rfl ?_
              refine hv2 (show 0 ≤ ivh19 (sk 14) 7 ∧ ivh19 (sk 14) 7 ≤ 6 from W19.int ty52 7) (show ivh19 (sk 14) 7 = ivh5 (sk 14) 7 from exf19) (fun ri112 gf19 => ?_)
              refine c_aload_n (j := 1) (x := a0) C dX11_unreadable_85 rfl ?_
              refine c_getr (k := 5) C ck_12 dX11_unreadable_86 w2_49 (by decide) ty1 rfl rfl (by decide) rfl rq3 ?_
              refine c_st (st2 := [.ref (sk 14)]) rfl ?_
              refine c_iload_n (j := 3) C dX11_unreadable_89 rfl ?_
              refine d_callV (As := [.int (iI n)]) (rest := []) C hM (C_startSpelling (a0 := (sk 14)) (n := n) W19 sk1 ty52 (by omega) ) dX11_unreadable_90 kV_X11_389 rfl ty52 rfl rfl (by decide) ck_9 rfl (Nat.le_of_ble_eq_true rfl) ⟨(Nat.le_of_ble_eq_true rfl), (Nat.le_of_ble_eq_true rfl)⟩ hph pl9 (show 0 + 0 = 0 from rfl) (by decide) (fun rh20 Lh20 clh20 lnh20 ivh20 rvh20 h20 => ?_)
              obtain ⟨f20, rfl, rfl, rfl, rfl, rfl, fl20, W20, rgf20, exf20⟩ := h20
              refine hv2 (F18.call X1 fl20 rfl) (MRK.call mr18 W19 sk1 XT.refl fl20 rfl rfl) (fun F19 mr19 => ?_)
              refine c_st (st2 := [.int (iI f20)]) rfl ?_
              refine c_istore (lv2 := [(5, .int (iI f20)), (4, .ref ob1), (0, .ref a0), (1, .int (iI i)), (2, .int (iI n)), (3, .int (iI lim))]) C dX11_unreadable_93 (by decide) rfl ?_
              refine c_iconst C dX11_unreadable_95 ?_
              refine c_istore (lv2 := [(6, .int (iI 0)), (5, .int (iI f20)), (4, .ref ob1), (0, .ref a0), (1, .int (iI i)), (2, .int (iI n)), (3, .int (iI lim))]) C dX11_unreadable_96 (by decide) rfl ?_
              have Lp2 : ∀ (nn : Nat) (ok k : Int) (Lb2 : List Nat) (clb2 lnb2 : Nat → Nat) (ivb2 : Nat → Nat → Int) (rvb2 : Nat → Nat → Option Nat) , 5002 - k < (nn : Int) → XT L cl ln Lb2 clb2 lnb2 → WT (g0 G) sk Lb2 clb2 lnb2 ivb2 rvb2 → fT [1, 4, 34, 14, 56, 57, 58, 15, 50, 51, 52, 53, 54, 55, 8, 38, 9, 39, 16, 10, 40, 24, 1002, 25, 1003, 6, 36, 7, 37] L cl iv rv ivb2 rvb2 → (ok = 0 ∨ ok = 1) → (0 ≤ k ∧ k ≤ 5001) → (ivb2 a0 11 = iv a0 11) → (ivb2 a0 12 = iv a0 12) → (ivb2 a0 13 = iv a0 13) → (ivb2 a0 14 = iv a0 14) → (ivb2 a0 15 = iv a0 15) → (ivb2 a0 16 = iv a0 16) → (rvb2 a0 9 = rv a0 9) → (rvb2 a0 10 = rv a0 10) → cw p l e 10 ((PHM) + 0 - ((Phi (g0 G) sk) ln rv)) s m args below meth c G A 7 (MQ below (Qu G A (Qp G (Phi (g0 G) sk) ((Phi (g0 G) sk) ln rv) 0 (fun v L2 cl2 ln2 iv2 rv2 => ∃ f : Int, v = some (.int (iI f)) ∧ XT L cl ln L2 cl2 ln2 ∧ fT [1, 4, 34, 14, 56, 57, 58, 15, 50, 51, 52, 53, 54, 55, 8, 38, 9, 39, 16, 10, 40, 24, 1002, 25, 1003, 6, 36, 7, 37] L cl iv rv iv2 rv2 ∧ WT (g0 G) sk L2 cl2 ln2 iv2 rv2 ∧ (-2147483648 ≤ f ∧ f ≤ 2147483647) ∧ (True) ∧ iv2 a0 11 = iv a0 11 ∧ iv2 a0 12 = iv a0 12 ∧ iv2 a0 13 = iv a0 13 ∧ iv2 a0 14 = iv a0 14 ∧ iv2 a0 15 = iv a0 15 ∧ iv2 a0 16 = iv a0 16 ∧ rv2 a0 9 = rv a0 9 ∧ rv2 a0 10 = rv a0 10))) args s (((PHM) + 0 - ((Phi (g0 G) sk) ln rv)) / 16) ((PHM) + 0 - ((Phi (g0 G) sk) ln rv)) A) (Phi (g0 G) sk) ((Phi (g0 G) sk) ln rv) Lb2 clb2 lnb2 ivb2 rvb2 0 98 [(5, .int (iI ok)), (6, .int (iI k)), (4, .ref ob1), (0, .ref a0), (1, .int (iI i)), (2, .int (iI n)), (3, .int (iI lim))] [] := by
                intro nn
                induction nn with
                | zero =>
                  intro  ok k Lb2 clb2 lnb2 ivb2 rvb2 hm Xb2 Wb2 Fb2  hok hk hkp11 hkp12 hkp13 hkp14 hkp15 hkp16 hkr9 hkr10
                  have skb2 := Xb2.skl hS
                  exact absurd hm (by omega)
                | succ nn ih2 =>
                  intro  ok k Lb2 clb2 lnb2 ivb2 rvb2 hm Xb2 Wb2 Fb2  hok hk hkp11 hkp12 hkp13 hkp14 hkp15 hkp16 hkr9 hkr10
                  refine hv2 (Xb2.skl hS) (MRK.call hmr hW hS Xb2 Fb2 rfl rfl) (fun skb2 mrb2 => ?_)
                  refine c_iload (j := 0) C dX11_unreadable_98 rfl ?_
                  refine c_if_eq (tgt := 200) C (r32_01 hok) dX11_unreadable_100 (by decide) (fun c11 => ?_) (fun c11 => ?_)
                  · clear hok
                    refine c_aload_n (j := 3) (x := a0) C dX11_unreadable_200 rfl ?_
                    refine c_iconst C dX11_unreadable_201 ?_
                    refine hv2 (Xb2.ty t_a0) (Phi.le Wb2 skb2) (fun ty54 pl10 => ?_)
                    refine d_callV (As := [.int (iI 0)]) (rest := []) C hM (C_done (a0 := a0) (x := 0) Wb2 skb2 ty54 ⟨by decide, by decide⟩ ) dX11_unreadable_202 kV_X11_109 rfl ty54 rfl rfl (by decide) ck_12 rfl (Nat.le_of_ble_eq_true rfl) ⟨(Nat.le_of_ble_eq_true rfl), (Nat.le_of_ble_eq_true rfl)⟩ hph pl10 (show 0 + 0 = 0 from rfl) (by decide) (fun rh21 Lh21 clh21 lnh21 ivh21 rvh21 h21 => ?_)
                    obtain ⟨f21, rfl, rfl, rfl, rfl, rfl, fl21, W21, rgf21, exf21, kp11f21, kp12f21, kp13f21, kp14f21, kp15f21, kp16f21⟩ := h21
                    refine hv8 (show 1 ≤ ivb2 a0 11 ∧ ivb2 a0 11 ≤ 100 from Wb2.int ty54 11) (show 1 ≤ ivb2 a0 12 ∧ ivb2 a0 12 ≤ 50 from Wb2.int ty54 12) (show (-2147483648) ≤ ivb2 a0 13 ∧ ivb2 a0 13 ≤ 2147483647 from Wb2.int ty54 13) (show (-2147483648) ≤ ivb2 a0 14 ∧ ivb2 a0 14 ≤ 2147483647 from Wb2.int ty54 14) (show (-2147483648) ≤ ivb2 a0 15 ∧ ivb2 a0 15 ≤ 2147483647 from Wb2.int ty54 15) (show (-2147483648) ≤ ivb2 a0 16 ∧ ivb2 a0 16 ≤ 2147483647 from Wb2.int ty54 16) (Fb2.call Xb2 fl21 rfl) (MRK.call mrb2 Wb2 skb2 XT.refl fl21 rfl rfl) (fun ri113 ri114 ri115 ri116 ri117 ri118 F20 mr20 => ?_)
                    refine c_st (st2 := [.int (iI f21)]) rfl ?_
                    refine hv13 (show ivh21 a0 11 = ivb2 a0 11 from kp11f21) (show ivh21 a0 12 = ivb2 a0 12 from kp12f21) (show ivh21 a0 13 = ivb2 a0 13 from kp13f21) (show ivh21 a0 14 = ivb2 a0 14 from kp14f21) (show ivh21 a0 15 = ivb2 a0 15 from kp15f21) (show ivh21 a0 16 = ivb2 a0 16 from kp16f21) (show f21 = (0 : Int) from exf21) (show 1 ≤ ivh21 a0 11 ∧ ivh21 a0 11 ≤ 100 from W21.int ty54 11) (show 1 ≤ ivh21 a0 12 ∧ ivh21 a0 12 ≤ 50 from W21.int ty54 12) (show (-2147483648) ≤ ivh21 a0 13 ∧ ivh21 a0 13 ≤ 2147483647 from W21.int ty54 13) (show (-2147483648) ≤ ivh21 a0 14 ∧ ivh21 a0 14 ≤ 2147483647 from W21.int ty54 14) (show (-2147483648) ≤ ivh21 a0 15 ∧ ivh21 a0 15 ≤ 2147483647 from W21.int ty54 15) (show (-2147483648) ≤ ivh21 a0 16 ∧ ivh21 a0 16 ≤ 2147483647 from W21.int ty54 16) (fun gk11f21 gk12f21 gk13f21 gk14f21 gk15f21 gk16f21 gf21 ri119 ri120 ri121 ri122 ri123 ri124 => ?_)
                    exact c_iret C dX11_unreadable_205 rfl (by decide) (rom0 hph pl10 (by decide)) ⟨f21, rfl, Xb2, F20, W21, ⟨by omega, by omega⟩, trivial, (gk11f21.trans hkp11), (gk12f21.trans hkp12), (gk13f21.trans hkp13), (gk14f21.trans hkp14), (gk15f21.trans hkp15), (gk16f21.trans hkp16), (show rvb2 a0 9 = rv a0 9 from hkr9), (show rvb2 a0 10 = rv a0 10 from hkr10)⟩
                  · replace hok := (hok.resolve_left c11)
                    refine c_iload (j := 1) C dX11_unreadable_103 rfl ?_
                    refine c_sipush (z := 5000) C dX11_unreadable_105 (by decide) ?_
                    refine c_icmp_gt (tgt := 200) C (r32_c (lo := 0) (hi := 5001) hk.1 hk.2 (by decide) (by decide)) ⟨by decide, by decide⟩ dX11_unreadable_108 (by decide) (fun c12 => ?_) (fun c12 => ?_)
                    · refine c_aload_n (j := 3) (x := a0) C dX11_unreadable_200 rfl ?_
                      refine c_iconst C dX11_unreadable_201 ?_
                      refine hv2 (Xb2.ty t_a0) (Phi.le Wb2 skb2) (fun ty55 pl11 => ?_)
                      refine d_callV (As := [.int (iI 0)]) (rest := []) C hM (C_done (a0 := a0) (x := 0) Wb2 skb2 ty55 ⟨by decide, by decide⟩ ) dX11_unreadable_202 kV_X11_109 rfl ty55 rfl rfl (by decide) ck_12 rfl (Nat.le_of_ble_eq_true rfl) ⟨(Nat.le_of_ble_eq_true rfl), (Nat.le_of_ble_eq_true rfl)⟩ hph pl11 (show 0 + 0 = 0 from rfl) (by decide) (fun rh22 Lh22 clh22 lnh22 ivh22 rvh22 h22 => ?_)
                      obtain ⟨f22, rfl, rfl, rfl, rfl, rfl, fl22, W22, rgf22, exf22, kp11f22, kp12f22, kp13f22, kp14f22, kp15f22, kp16f22⟩ := h22
                      refine hv8 (show 1 ≤ ivb2 a0 11 ∧ ivb2 a0 11 ≤ 100 from Wb2.int ty55 11) (show 1 ≤ ivb2 a0 12 ∧ ivb2 a0 12 ≤ 50 from Wb2.int ty55 12) (show (-2147483648) ≤ ivb2 a0 13 ∧ ivb2 a0 13 ≤ 2147483647 from Wb2.int ty55 13) (show (-2147483648) ≤ ivb2 a0 14 ∧ ivb2 a0 14 ≤ 2147483647 from Wb2.int ty55 14) (show (-2147483648) ≤ ivb2 a0 15 ∧ ivb2 a0 15 ≤ 2147483647 from Wb2.int ty55 15) (show (-2147483648) ≤ ivb2 a0 16 ∧ ivb2 a0 16 ≤ 2147483647 from Wb2.int ty55 16) (Fb2.call Xb2 fl22 rfl) (MRK.call mrb2 Wb2 skb2 XT.refl fl22 rfl rfl) (fun ri125 ri126 ri127 ri128 ri129 ri130 F21 mr21 => ?_)
                      refine c_st (st2 := [.int (iI f22)]) rfl ?_
                      refine hv13 (show ivh22 a0 11 = ivb2 a0 11 from kp11f22) (show ivh22 a0 12 = ivb2 a0 12 from kp12f22) (show ivh22 a0 13 = ivb2 a0 13 from kp13f22) (show ivh22 a0 14 = ivb2 a0 14 from kp14f22) (show ivh22 a0 15 = ivb2 a0 15 from kp15f22) (show ivh22 a0 16 = ivb2 a0 16 from kp16f22) (show f22 = (0 : Int) from exf22) (show 1 ≤ ivh22 a0 11 ∧ ivh22 a0 11 ≤ 100 from W22.int ty55 11) (show 1 ≤ ivh22 a0 12 ∧ ivh22 a0 12 ≤ 50 from W22.int ty55 12) (show (-2147483648) ≤ ivh22 a0 13 ∧ ivh22 a0 13 ≤ 2147483647 from W22.int ty55 13) (show (-2147483648) ≤ ivh22 a0 14 ∧ ivh22 a0 14 ≤ 2147483647 from W22.int ty55 14) (show (-2147483648) ≤ ivh22 a0 15 ∧ ivh22 a0 15 ≤ 2147483647 from W22.int ty55 15) (show (-2147483648) ≤ ivh22 a0 16 ∧ ivh22 a0 16 ≤ 2147483647 from W22.int ty55 16) (fun gk11f22 gk12f22 gk13f22 gk14f22 gk15f22 gk16f22 gf22 ri131 ri132 ri133 ri134 ri135 ri136 => ?_)
                      exact c_iret C dX11_unreadable_205 rfl (by decide) (rom0 hph pl11 (by decide)) ⟨f22, rfl, Xb2, F21, W22, ⟨by omega, by omega⟩, trivial, (gk11f22.trans hkp11), (gk12f22.trans hkp12), (gk13f22.trans hkp13), (gk14f22.trans hkp14), (gk15f22.trans hkp15), (gk16f22.trans hkp16), (show rvb2 a0 9 = rv a0 9 from hkr9), (show rvb2 a0 10 = rv a0 10 from hkr10)⟩
                    · refine c_iload (j := 1) C dX11_unreadable_111 rfl ?_
                      refine c_iload_n (j := 6) C dX11_unreadable_113 rfl ?_
                      refine c_icmp_lt (tgt := 124) C (r32_c (lo := 0) (hi := 5001) hk.1 hk.2 (by decide) (by decide)) ⟨by omega, by omega⟩ dX11_unreadable_114 (by decide) (fun c13 => ?_) (fun c13 => ?_)
                      · refine c_aload_n (j := 3) (x := a0) C dX11_unreadable_124 rfl ?_
                        have ty56 := Xb2.ty t_a0
                        obtain ⟨rb7, rq7, trb7⟩ := Wb2.ref ty56 5 rfl rfl rfl
                        have erb7 := Wb2.sk trb7 (by decide) rfl
                        subst erb7
                        refine c_getr (k := 5) C ck_12 dX11_unreadable_125 w2_49 (by decide) ty56 rfl rfl (by decide) rfl rq7 ?_
                        refine c_st (st2 := [.ref (sk 14)]) rfl ?_
                        refine c_aload_n (j := 3) (x := a0) C dX11_unreadable_128 rfl ?_
                        obtain ⟨rb8, rq8, trb8⟩ := Wb2.ref ty56 6 rfl rfl rfl
                        have erb8 := Wb2.sk trb8 (by decide) rfl
                        subst erb8
                        refine c_getr (k := 6) C ck_12 dX11_unreadable_129 w2_50 (by decide) ty56 rfl rfl (by decide) rfl rq8 ?_
                        refine c_st (st2 := [.ref (sk 15), .ref (sk 14)]) rfl ?_
                        refine hv3 (Xb2.ty tsk14) (Xb2.ty tsk15) (Phi.le Wb2 skb2) (fun ty57 ty58 pl12 => ?_)
                        refine d_callV (As := [.ref (sk 15)]) (rest := []) C hM (C_spell (a0 := (sk 14)) (a1 := (sk 15)) Wb2 skb2 ty57 ty58  ) dX11_unreadable_132 kV_X11_392 rfl ty57 rfl rfl (by decide) ck_9 rfl (Nat.le_of_ble_eq_true rfl) ⟨(Nat.le_of_ble_eq_true rfl), (Nat.le_of_ble_eq_true rfl)⟩ hph pl12 (show 0 + 0 = 0 from rfl) (by decide) (fun rh23 Lh23 clh23 lnh23 ivh23 rvh23 h23 => ?_)
                        obtain ⟨rfl, rfl, rfl, rfl, rfl, fl23, W23, exf23⟩ := h23
                        refine hv2 (Fb2.call Xb2 fl23 rfl) (MRK.call mrb2 Wb2 skb2 XT.refl fl23 rfl rfl) (fun F22 mr22 => ?_)
                        refine c_st (st2 := []) rfl ?_
                        refine c_aload_n (j := 3) (x := a0) C dX11_unreadable_135 rfl ?_
                        refine c_getr (k := 6) C ck_12 dX11_unreadable_136 w2_50 (by decide) ty56 rfl rfl (by decide) rfl rq8 ?_
                        refine c_st (st2 := [.ref (sk 15)]) rfl ?_
                        refine c_aload (j := 2) (x := ob1) C dX11_unreadable_139 rfl ?_
                        refine hv2 (Xb2.ty tob1) (show 0 ≤ ivh23 (sk 15) 4 ∧ ivh23 (sk 15) 4 ≤ 500 from W23.int ty58 4) (fun ty59 ri137 => ?_)
                        refine d_callV (As := [.ref ob1]) (rest := []) C hM (C_setBy (a0 := (sk 15)) (a1 := ob1) W23 skb2 ty58 ty59  ) dX11_unreadable_141 kV_X11_253 rfl ty58 rfl rfl (by decide) ck_7 rfl (Nat.le_of_ble_eq_true rfl) ⟨(Nat.le_of_ble_eq_true rfl), (Nat.le_of_ble_eq_true rfl)⟩ hph pl12 (show 0 + 0 = 0 from rfl) (by decide) (fun rh24 Lh24 clh24 lnh24 ivh24 rvh24 h24 => ?_)
                        obtain ⟨f24, rfl, rfl, rfl, rfl, rfl, fl24, W24, rgf24, exf24⟩ := h24
                        refine hv2 (F22.call Xb2 fl24 rfl) (MRK.call mr22 W23 skb2 XT.refl fl24 rfl rfl) (fun F23 mr23 => ?_)
                        refine c_st (st2 := [.int (iI f24)]) rfl ?_
                        refine hv3 (show 0 ≤ ivh24 (sk 15) 4 ∧ ivh24 (sk 15) 4 ≤ 500 from W24.int ty58 4) (show 0 ≤ ivh24 (sk 15) 7 ∧ ivh24 (sk 15) 7 ≤ 100000 from W24.int ty58 7) (show (f24 = 0 ∨ f24 = 6 ∨ f24 = 7) ∧ ivh24 (sk 15) 4 = ivh23 (sk 15) 4 ∧ (f24 = 0 → ivh24 (sk 15) 7 ≤ 200) from exf24) (fun ri138 ri139 gf24 => ?_)
                        refine c_if_ne (tgt := 184) C (r32_067 gf24.1) dX11_unreadable_144 (by decide) (fun c14 => ?_) (fun c14 => ?_)
                        · replace gf24 := (And.intro (gf24.1.resolve_left c14) (And.intro gf24.2.1 trivial))
                          refine c_aload_n (j := 3) (x := a0) C dX11_unreadable_184 rfl ?_
                          refine c_getr (k := 5) C ck_12 dX11_unreadable_185 w2_49 (by decide) ty56 rfl rfl (by decide) rfl rq7 ?_
                          refine c_st (st2 := [.ref (sk 14)]) rfl ?_
                          refine c_iload_n (j := 5) C dX11_unreadable_188 rfl ?_
                          refine d_callV (As := [.int (iI n)]) (rest := []) C hM (C_spellNext (a0 := (sk 14)) (n := n) W24 skb2 ty57 (by omega) ) dX11_unreadable_189 kV_X11_403 rfl ty57 rfl rfl (by decide) ck_9 rfl (Nat.le_of_ble_eq_true rfl) ⟨(Nat.le_of_ble_eq_true rfl), (Nat.le_of_ble_eq_true rfl)⟩ hph pl12 (show 0 + 0 = 0 from rfl) (by decide) (fun rh25 Lh25 clh25 lnh25 ivh25 rvh25 h25 => ?_)
                          obtain ⟨f25, rfl, rfl, rfl, rfl, rfl, fl25, W25, rgf25, exf25⟩ := h25
                          refine hv2 (F23.call Xb2 fl25 rfl) (MRK.call mr23 W24 skb2 XT.refl fl25 rfl rfl) (fun F24 mr24 => ?_)
                          refine c_st (st2 := [.int (iI f25)]) rfl ?_
                          refine c_istore (lv2 := [(5, .int (iI f25)), (6, .int (iI k)), (4, .ref ob1), (0, .ref a0), (1, .int (iI i)), (2, .int (iI n)), (3, .int (iI lim))]) C dX11_unreadable_192 (by decide) rfl ?_
                          refine c_iinc (z := k) (j := 1) (lv2 := [(6, .int (iI (k + 1))), (5, .int (iI f25)), (4, .ref ob1), (0, .ref a0), (1, .int (iI i)), (2, .int (iI n)), (3, .int (iI lim))]) C dX11_unreadable_194 rfl (by decide) rfl ?_
                          refine c_goto (tgt := 98) C dX11_unreadable_197 (by decide) ?_
                          refine hv24 (show 1 ≤ ivh25 a0 11 ∧ ivh25 a0 11 ≤ 100 from W25.int ty56 11) (show ivh25 a0 11 = ivh24 a0 11 from fl25.i ty56 rfl 11) (show ivh24 a0 11 = ivh23 a0 11 from fl24.i ty56 rfl 11) (show ivh23 a0 11 = ivb2 a0 11 from fl23.i ty56 rfl 11) (show 1 ≤ ivh25 a0 12 ∧ ivh25 a0 12 ≤ 50 from W25.int ty56 12) (show ivh25 a0 12 = ivh24 a0 12 from fl25.i ty56 rfl 12) (show ivh24 a0 12 = ivh23 a0 12 from fl24.i ty56 rfl 12) (show ivh23 a0 12 = ivb2 a0 12 from fl23.i ty56 rfl 12) (show (-2147483648) ≤ ivh25 a0 13 ∧ ivh25 a0 13 ≤ 2147483647 from W25.int ty56 13) (show ivh25 a0 13 = ivh24 a0 13 from fl25.i ty56 rfl 13) (show ivh24 a0 13 = ivh23 a0 13 from fl24.i ty56 rfl 13) (show ivh23 a0 13 = ivb2 a0 13 from fl23.i ty56 rfl 13) (show (-2147483648) ≤ ivh25 a0 14 ∧ ivh25 a0 14 ≤ 2147483647 from W25.int ty56 14) (show ivh25 a0 14 = ivh24 a0 14 from fl25.i ty56 rfl 14) (show ivh24 a0 14 = ivh23 a0 14 from fl24.i ty56 rfl 14) (show ivh23 a0 14 = ivb2 a0 14 from fl23.i ty56 rfl 14) (show (-2147483648) ≤ ivh25 a0 15 ∧ ivh25 a0 15 ≤ 2147483647 from W25.int ty56 15) (show ivh25 a0 15 = ivh24 a0 15 from fl25.i ty56 rfl 15) (show ivh24 a0 15 = ivh23 a0 15 from fl24.i ty56 rfl 15) (show ivh23 a0 15 = ivb2 a0 15 from fl23.i ty56 rfl 15) (show (-2147483648) ≤ ivh25 a0 16 ∧ ivh25 a0 16 ≤ 2147483647 from W25.int ty56 16) (show ivh25 a0 16 = ivh24 a0 16 from fl25.i ty56 rfl 16) (show ivh24 a0 16 = ivh23 a0 16 from fl24.i ty56 rfl 16) (show ivh23 a0 16 = ivb2 a0 16 from fl23.i ty56 rfl 16) (fun ri140 ie208 ie209 ie210 ri141 ie212 ie213 ie214 ri142 ie216 ie217 ie218 ri143 ie220 ie221 ie222 ri144 ie224 ie225 ie226 ri145 ie228 ie229 ie230 => ?_)
                          refine c_lv (lv2 := [(5, .int (iI f25)), (6, .int (iI (k + 1))), (4, .ref ob1), (0, .ref a0), (1, .int (iI i)), (2, .int (iI n)), (3, .int (iI lim))]) [1, 0, 2, 3, 4, 5, 6] rfl ?_
                          exact ih2  f25 (k + 1) _ _ _ _ _ (by omega) Xb2 W25 F24  (by omega) (by omega) (ie208.trans (ie209.trans (ie210.trans hkp11))) (ie212.trans (ie213.trans (ie214.trans hkp12))) (ie216.trans (ie217.trans (ie218.trans hkp13))) (ie220.trans (ie221.trans (ie222.trans hkp14))) (ie224.trans (ie225.trans (ie226.trans hkp15))) (ie228.trans (ie229.trans (ie230.trans hkp16))) (show rvb2 a0 9 = rv a0 9 from hkr9) (show rvb2 a0 10 = rv a0 10 from hkr10)
                        · replace gf24 := (And.intro c14 (And.intro gf24.2.1 (gf24.2.2 c14)))
                          refine c_aload_n (j := 3) (x := a0) C dX11_unreadable_147 rfl ?_
                          refine d_callV (As := []) (rest := []) C hM (C_isReadBack (a0 := a0) W24 skb2 ty56  (by show ivh24 (sk 15) 7 ≤ 200; omega)) dX11_unreadable_148 kV_X11_396 rfl ty56 rfl rfl (by decide) ck_12 rfl (Nat.le_of_ble_eq_true rfl) ⟨(Nat.le_of_ble_eq_true rfl), (Nat.le_of_ble_eq_true rfl)⟩ hph pl12 (show 0 + 0 = 0 from rfl) (by decide) (fun rh26 Lh26 clh26 lnh26 ivh26 rvh26 h26 => ?_)
                          obtain ⟨f26, rfl, xl26, fl26, W26, rgf26, exf26⟩ := h26
                          refine hv20 (F23.call Xb2 fl26 rfl) (MRK.call mr23 W24 skb2 xl26 fl26 rfl rfl) (Xb2.ty tsk2) (Xb2.ty tsk3) (Xb2.ty tsk4) (Xb2.ty tsk5) (Xb2.ty tsk6) (Xb2.ty tsk7) (Xb2.ty tsk8) (Xb2.ty tsk9) (Xb2.ty tsk10) (Xb2.ty tsk13) (Xb2.ty tsk16) (Xb2.ty tsk17) (Xb2.ty tsk22) (Xb2.ty tsk23) (Xb2.ty tsk24) (Xb2.ty tsk25) (Xb2.trans xl26) (xl26.skl skb2) (fun F25 mr25 ty60 ty61 ty62 ty63 ty64 ty65 ty66 ty67 ty68 ty69 ty70 ty71 ty72 ty73 ty74 ty75 X4 sk4 => ?_)
                          refine c_st (st2 := [.int (iI f26)]) rfl ?_
                          refine c_if_ne (tgt := 184) C ⟨by omega, by omega⟩ dX11_unreadable_151 (by decide) (fun c15 => ?_) (fun c15 => ?_)
                          · refine c_aload_n (j := 3) (x := a0) C dX11_unreadable_184 rfl ?_
                            refine hv2 (xl26.ty ty56) (show rvh26 a0 5 = rvb2 a0 5 from (fl26.r ty56 rfl 5)) (fun ty76 re5 => ?_)
                            rw [rq7] at re5
                            refine c_getr (k := 5) C ck_12 dX11_unreadable_185 w2_49 (by decide) ty76 rfl rfl (by decide) rfl re5 ?_
                            refine c_st (st2 := [.ref (sk 14)]) rfl ?_
                            refine c_iload_n (j := 5) C dX11_unreadable_188 rfl ?_
                            refine hv2 (xl26.ty ty57) (Phi.le W26 sk4) (fun ty77 pl13 => ?_)
                            refine d_callV (As := [.int (iI n)]) (rest := []) C hM (C_spellNext (a0 := (sk 14)) (n := n) W26 sk4 ty77 (by omega) ) dX11_unreadable_189 kV_X11_403 rfl ty77 rfl rfl (by decide) ck_9 rfl (Nat.le_of_ble_eq_true rfl) ⟨(Nat.le_of_ble_eq_true rfl), (Nat.le_of_ble_eq_true rfl)⟩ hph pl13 (show 0 + 0 = 0 from rfl) (by decide) (fun rh27 Lh27 clh27 lnh27 ivh27 rvh27 h27 => ?_)
                            obtain ⟨f27, rfl, rfl, rfl, rfl, rfl, fl27, W27, rgf27, exf27⟩ := h27
                            refine hv2 (F25.call X4 fl27 rfl) (MRK.call mr25 W26 sk4 XT.refl fl27 rfl rfl) (fun F26 mr26 => ?_)
                            refine c_st (st2 := [.int (iI f27)]) rfl ?_
                            refine c_istore (lv2 := [(5, .int (iI f27)), (6, .int (iI k)), (4, .ref ob1), (0, .ref a0), (1, .int (iI i)), (2, .int (iI n)), (3, .int (iI lim))]) C dX11_unreadable_192 (by decide) rfl ?_
                            refine c_iinc (z := k) (j := 1) (lv2 := [(6, .int (iI (k + 1))), (5, .int (iI f27)), (4, .ref ob1), (0, .ref a0), (1, .int (iI i)), (2, .int (iI n)), (3, .int (iI lim))]) C dX11_unreadable_194 rfl (by decide) rfl ?_
                            refine c_goto (tgt := 98) C dX11_unreadable_197 (by decide) ?_
                            refine hv30 (show 1 ≤ ivh27 a0 11 ∧ ivh27 a0 11 ≤ 100 from W27.int ty76 11) (show ivh27 a0 11 = ivh26 a0 11 from fl27.i ty76 rfl 11) (show ivh26 a0 11 = ivh24 a0 11 from fl26.i ty56 rfl 11) (show ivh24 a0 11 = ivh23 a0 11 from fl24.i ty56 rfl 11) (show ivh23 a0 11 = ivb2 a0 11 from fl23.i ty56 rfl 11) (show 1 ≤ ivh27 a0 12 ∧ ivh27 a0 12 ≤ 50 from W27.int ty76 12) (show ivh27 a0 12 = ivh26 a0 12 from fl27.i ty76 rfl 12) (show ivh26 a0 12 = ivh24 a0 12 from fl26.i ty56 rfl 12) (show ivh24 a0 12 = ivh23 a0 12 from fl24.i ty56 rfl 12) (show ivh23 a0 12 = ivb2 a0 12 from fl23.i ty56 rfl 12) (show (-2147483648) ≤ ivh27 a0 13 ∧ ivh27 a0 13 ≤ 2147483647 from W27.int ty76 13) (show ivh27 a0 13 = ivh26 a0 13 from fl27.i ty76 rfl 13) (show ivh26 a0 13 = ivh24 a0 13 from fl26.i ty56 rfl 13) (show ivh24 a0 13 = ivh23 a0 13 from fl24.i ty56 rfl 13) (show ivh23 a0 13 = ivb2 a0 13 from fl23.i ty56 rfl 13) (show (-2147483648) ≤ ivh27 a0 14 ∧ ivh27 a0 14 ≤ 2147483647 from W27.int ty76 14) (show ivh27 a0 14 = ivh26 a0 14 from fl27.i ty76 rfl 14) (show ivh26 a0 14 = ivh24 a0 14 from fl26.i ty56 rfl 14) (show ivh24 a0 14 = ivh23 a0 14 from fl24.i ty56 rfl 14) (show ivh23 a0 14 = ivb2 a0 14 from fl23.i ty56 rfl 14) (show (-2147483648) ≤ ivh27 a0 15 ∧ ivh27 a0 15 ≤ 2147483647 from W27.int ty76 15) (show ivh27 a0 15 = ivh26 a0 15 from fl27.i ty76 rfl 15) (show ivh26 a0 15 = ivh24 a0 15 from fl26.i ty56 rfl 15) (show ivh24 a0 15 = ivh23 a0 15 from fl24.i ty56 rfl 15) (show ivh23 a0 15 = ivb2 a0 15 from fl23.i ty56 rfl 15) (show (-2147483648) ≤ ivh27 a0 16 ∧ ivh27 a0 16 ≤ 2147483647 from W27.int ty76 16) (show ivh27 a0 16 = ivh26 a0 16 from fl27.i ty76 rfl 16) (show ivh26 a0 16 = ivh24 a0 16 from fl26.i ty56 rfl 16) (show ivh24 a0 16 = ivh23 a0 16 from fl24.i ty56 rfl 16) (show ivh23 a0 16 = ivb2 a0 16 from fl23.i ty56 rfl 16) (fun ri146 ie232 ie233 ie234 ie235 ri147 ie237 ie238 ie239 ie240 ri148 ie242 ie243 ie244 ie245 ri149 ie247 ie248 ie249 ie250 ri150 ie252 ie253 ie254 ie255 ri151 ie257 ie258 ie259 ie260 => ?_)
                            refine c_lv (lv2 := [(5, .int (iI f27)), (6, .int (iI (k + 1))), (4, .ref ob1), (0, .ref a0), (1, .int (iI i)), (2, .int (iI n)), (3, .int (iI lim))]) [1, 0, 2, 3, 4, 5, 6] rfl ?_
                            exact ih2  f27 (k + 1) _ _ _ _ _ (by omega) X4 W27 F26  (by omega) (by omega) (ie232.trans (ie233.trans (ie234.trans (ie235.trans hkp11)))) (ie237.trans (ie238.trans (ie239.trans (ie240.trans hkp12)))) (ie242.trans (ie243.trans (ie244.trans (ie245.trans hkp13)))) (ie247.trans (ie248.trans (ie249.trans (ie250.trans hkp14)))) (ie252.trans (ie253.trans (ie254.trans (ie255.trans hkp15)))) (ie257.trans (ie258.trans (ie259.trans (ie260.trans hkp16)))) (Eq.trans (show rvh26 a0 9 = rvb2 a0 9 from (fl26.r ty56 rfl 9)) (show rvb2 a0 9 = rv a0 9 from hkr9)) (Eq.trans (show rvh26 a0 10 = rvb2 a0 10 from (fl26.r ty56 rfl 10)) (show rvb2 a0 10 = rv a0 10 from hkr10))
                          · refine c_aload_n (j := 3) (x := a0) C dX11_unreadable_154 rfl ?_
                            have ty78 := xl26.ty ty56
                            obtain ⟨rb9, rq9, trb9⟩ := W26.ref ty78 2 rfl rfl rfl
                            have erb9 := W26.sk trb9 (by decide) rfl
                            subst erb9
                            refine c_getr (k := 2) C ck_12 dX11_unreadable_155 w2_46 (by decide) ty78 rfl rfl (by decide) rfl rq9 ?_
                            refine c_st (st2 := [.ref (sk 4)]) rfl ?_
                            refine hv2 (xl26.ty ty62) (Phi.le W26 sk4) (fun ty79 pl14 => ?_)
                            refine d_callV (As := []) (rest := []) C hM (C_clear_4 (a0 := (sk 4)) W26 sk4 ty79  ) dX11_unreadable_158 kV_X11_164 rfl ty79 rfl rfl (by decide) ck_2 rfl (Nat.le_of_ble_eq_true rfl) ⟨(Nat.le_of_ble_eq_true rfl), (Nat.le_of_ble_eq_true rfl)⟩ hph pl14 (show 0 + 0 = 0 from rfl) (by decide) (fun rh28 Lh28 clh28 lnh28 ivh28 rvh28 h28 => ?_)
                            obtain ⟨rfl, rfl, rfl, rfl, rfl, fl28, W28, exf28⟩ := h28
                            refine hv2 (F25.call X4 fl28 rfl) (MRK.call mr25 W26 sk4 XT.refl fl28 rfl rfl) (fun F27 mr27 => ?_)
                            refine c_st (st2 := []) rfl ?_
                            refine hv2 (show 0 ≤ ivh28 (sk 4) 2 ∧ ivh28 (sk 4) 2 ≤ 4000 from W28.int ty79 2) (show ivh28 (sk 4) 2 = 0 from exf28) (fun ri152 gf28 => ?_)
                            refine c_aload_n (j := 3) (x := a0) C dX11_unreadable_161 rfl ?_
                            have re6 : rvh26 a0 6 = rvb2 a0 6 := (fl26.r ty56 rfl 6)
                            rw [rq8] at re6
                            refine c_getr (k := 6) C ck_12 dX11_unreadable_162 w2_50 (by decide) ty78 rfl rfl (by decide) rfl re6 ?_
                            refine c_st (st2 := [.ref (sk 15)]) rfl ?_
                            refine c_aload_n (j := 3) (x := a0) C dX11_unreadable_165 rfl ?_
                            refine c_getr (k := 2) C ck_12 dX11_unreadable_166 w2_46 (by decide) ty78 rfl rfl (by decide) rfl rq9 ?_
                            refine c_st (st2 := [.ref (sk 4), .ref (sk 15)]) rfl ?_
                            have ty80 := xl26.ty ty58
                            refine d_callV (As := [.ref (sk 4)]) (rest := []) C hM (C_wwl (a0 := (sk 15)) (a1 := (sk 4)) W28 sk4 ty80 ty79  ) dX11_unreadable_169 kV_X11_399 rfl ty80 rfl rfl (by decide) ck_7 rfl (Nat.le_of_ble_eq_true rfl) ⟨(Nat.le_of_ble_eq_true rfl), (Nat.le_of_ble_eq_true rfl)⟩ hph pl14 (show 0 + 0 = 0 from rfl) (by decide) (fun rh29 Lh29 clh29 lnh29 ivh29 rvh29 h29 => ?_)
                            obtain ⟨rfl, xl29, fl29, W29, exf29⟩ := h29
                            refine hv21 (F27.call X4 fl29 rfl) (MRK.call mr27 W28 sk4 xl29 fl29 rfl rfl) (xl26.ty ty60) (xl26.ty ty61) (xl26.ty ty63) (xl26.ty ty64) (xl26.ty ty65) (xl26.ty ty66) (xl26.ty ty67) (xl26.ty ty68) (xl26.ty ty69) (xl26.ty ty57) (xl26.ty ty70) (xl26.ty ty71) (xl26.ty ty72) (xl26.ty ty73) (xl26.ty ty74) (xl26.ty ty75) (xl26.ty ty59) (X4.trans xl29) (xl29.skl sk4) (fun F28 mr28 ty81 ty82 ty83 ty84 ty85 ty86 ty87 ty88 ty89 ty90 ty91 ty92 ty93 ty94 ty95 ty96 ty97 X5 sk5 => ?_)
                            refine c_st (st2 := []) rfl ?_
                            refine c_aload_n (j := 3) (x := a0) C dX11_unreadable_172 rfl ?_
                            refine c_aload_n (j := 3) (x := a0) C dX11_unreadable_173 rfl ?_
                            refine hv2 (xl29.ty ty78) (show rvh29 a0 6 = rvh26 a0 6 from (fl29.r ty78 rfl 6)) (fun ty98 re7 => ?_)
                            rw [re6] at re7
                            refine c_getr (k := 6) C ck_12 dX11_unreadable_174 w2_50 (by decide) ty98 rfl rfl (by decide) rfl re7 ?_
                            refine c_st (st2 := [.ref (sk 15), .ref a0]) rfl ?_
                            refine hv4 (xl29.ty ty80) (show ivh29 (sk 15) 4 = ivh28 (sk 15) 4 from fl29.i ty80 rfl 4) (show ivh28 (sk 15) 4 = ivh26 (sk 15) 4 from fl28.i ty80 rfl 4) (show ivh26 (sk 15) 4 = ivh24 (sk 15) 4 from fl26.i ty58 rfl 4) (fun ty99 ie263 ie264 ie265 => ?_)
                            have ri153 : 0 ≤ ivh29 (sk 15) 4 ∧ ivh29 (sk 15) 4 ≤ 500 := W29.int ty99 4
                            refine c_get (k := 4) C ck_7 dX11_unreadable_177 w1_142 (by decide) ty99 rfl rfl (by decide) rfl ?_
                            have pl15 := Phi.le W29 sk5
                            refine d_callV (As := [.int (iI (ivh29 (sk 15) 4))]) (rest := []) C hM (C_done (a0 := a0) (x := ivh29 (sk 15) 4) W29 sk5 ty98 (by omega) ) dX11_unreadable_180 kV_X11_109 rfl ty98 rfl rfl (by decide) ck_12 rfl (Nat.le_of_ble_eq_true rfl) ⟨(Nat.le_of_ble_eq_true rfl), (Nat.le_of_ble_eq_true rfl)⟩ hph pl15 (show 0 + 0 = 0 from rfl) (by decide) (fun rh30 Lh30 clh30 lnh30 ivh30 rvh30 h30 => ?_)
                            obtain ⟨f30, rfl, rfl, rfl, rfl, rfl, fl30, W30, rgf30, exf30, kp11f30, kp12f30, kp13f30, kp14f30, kp15f30, kp16f30⟩ := h30
                            refine hv38 (show 1 ≤ ivh29 a0 11 ∧ ivh29 a0 11 ≤ 100 from W29.int ty98 11) (show ivh29 a0 11 = ivh28 a0 11 from fl29.i ty78 rfl 11) (show ivh28 a0 11 = ivh26 a0 11 from fl28.i ty78 rfl 11) (show ivh26 a0 11 = ivh24 a0 11 from fl26.i ty56 rfl 11) (show ivh24 a0 11 = ivh23 a0 11 from fl24.i ty56 rfl 11) (show ivh23 a0 11 = ivb2 a0 11 from fl23.i ty56 rfl 11) (show 1 ≤ ivh29 a0 12 ∧ ivh29 a0 12 ≤ 50 from W29.int ty98 12) (show ivh29 a0 12 = ivh28 a0 12 from fl29.i ty78 rfl 12) (show ivh28 a0 12 = ivh26 a0 12 from fl28.i ty78 rfl 12) (show ivh26 a0 12 = ivh24 a0 12 from fl26.i ty56 rfl 12) (show ivh24 a0 12 = ivh23 a0 12 from fl24.i ty56 rfl 12) (show ivh23 a0 12 = ivb2 a0 12 from fl23.i ty56 rfl 12) (show (-2147483648) ≤ ivh29 a0 13 ∧ ivh29 a0 13 ≤ 2147483647 from W29.int ty98 13) (show ivh29 a0 13 = ivh28 a0 13 from fl29.i ty78 rfl 13) (show ivh28 a0 13 = ivh26 a0 13 from fl28.i ty78 rfl 13) (show ivh26 a0 13 = ivh24 a0 13 from fl26.i ty56 rfl 13) (show ivh24 a0 13 = ivh23 a0 13 from fl24.i ty56 rfl 13) (show ivh23 a0 13 = ivb2 a0 13 from fl23.i ty56 rfl 13) (show (-2147483648) ≤ ivh29 a0 14 ∧ ivh29 a0 14 ≤ 2147483647 from W29.int ty98 14) (show ivh29 a0 14 = ivh28 a0 14 from fl29.i ty78 rfl 14) (show ivh28 a0 14 = ivh26 a0 14 from fl28.i ty78 rfl 14) (show ivh26 a0 14 = ivh24 a0 14 from fl26.i ty56 rfl 14) (show ivh24 a0 14 = ivh23 a0 14 from fl24.i ty56 rfl 14) (show ivh23 a0 14 = ivb2 a0 14 from fl23.i ty56 rfl 14) (show (-2147483648) ≤ ivh29 a0 15 ∧ ivh29 a0 15 ≤ 2147483647 from W29.int ty98 15) (show ivh29 a0 15 = ivh28 a0 15 from fl29.i ty78 rfl 15) (show ivh28 a0 15 = ivh26 a0 15 from fl28.i ty78 rfl 15) (show ivh26 a0 15 = ivh24 a0 15 from fl26.i ty56 rfl 15) (show ivh24 a0 15 = ivh23 a0 15 from fl24.i ty56 rfl 15) (show ivh23 a0 15 = ivb2 a0 15 from fl23.i ty56 rfl 15) (show (-2147483648) ≤ ivh29 a0 16 ∧ ivh29 a0 16 ≤ 2147483647 from W29.int ty98 16) (show ivh29 a0 16 = ivh28 a0 16 from fl29.i ty78 rfl 16) (show ivh28 a0 16 = ivh26 a0 16 from fl28.i ty78 rfl 16) (show ivh26 a0 16 = ivh24 a0 16 from fl26.i ty56 rfl 16) (show ivh24 a0 16 = ivh23 a0 16 from fl24.i ty56 rfl 16) (show ivh23 a0 16 = ivb2 a0 16 from fl23.i ty56 rfl 16) (F28.call X5 fl30 rfl) (MRK.call mr28 W29 sk5 XT.refl fl30 rfl rfl) (fun ri154 ie266 ie267 ie268 ie269 ie270 ri155 ie272 ie273 ie274 ie275 ie276 ri156 ie278 ie279 ie280 ie281 ie282 ri157 ie284 ie285 ie286 ie287 ie288 ri158 ie290 ie291 ie292 ie293 ie294 ri159 ie296 ie297 ie298 ie299 ie300 F29 mr29 => ?_)
                            refine c_st (st2 := [.int (iI f30)]) rfl ?_
                            refine hv13 (show ivh30 a0 11 = ivh29 a0 11 from kp11f30) (show ivh30 a0 12 = ivh29 a0 12 from kp12f30) (show ivh30 a0 13 = ivh29 a0 13 from kp13f30) (show ivh30 a0 14 = ivh29 a0 14 from kp14f30) (show ivh30 a0 15 = ivh29 a0 15 from kp15f30) (show ivh30 a0 16 = ivh29 a0 16 from kp16f30) (show f30 = (ivh29 (sk 15) 4) from exf30) (show 1 ≤ ivh30 a0 11 ∧ ivh30 a0 11 ≤ 100 from W30.int ty98 11) (show 1 ≤ ivh30 a0 12 ∧ ivh30 a0 12 ≤ 50 from W30.int ty98 12) (show (-2147483648) ≤ ivh30 a0 13 ∧ ivh30 a0 13 ≤ 2147483647 from W30.int ty98 13) (show (-2147483648) ≤ ivh30 a0 14 ∧ ivh30 a0 14 ≤ 2147483647 from W30.int ty98 14) (show (-2147483648) ≤ ivh30 a0 15 ∧ ivh30 a0 15 ≤ 2147483647 from W30.int ty98 15) (show (-2147483648) ≤ ivh30 a0 16 ∧ ivh30 a0 16 ≤ 2147483647 from W30.int ty98 16) (fun gk11f30 gk12f30 gk13f30 gk14f30 gk15f30 gk16f30 gf30 ri160 ri161 ri162 ri163 ri164 ri165 => ?_)
                            exact c_iret C dX11_unreadable_183 rfl (by decide) (rom0 hph pl15 (by decide)) ⟨f30, rfl, X5, F29, W30, ⟨by omega, by omega⟩, trivial, (gk11f30.trans (ie266.trans (ie267.trans (ie268.trans (ie269.trans (ie270.trans hkp11)))))), (gk12f30.trans (ie272.trans (ie273.trans (ie274.trans (ie275.trans (ie276.trans hkp12)))))), (gk13f30.trans (ie278.trans (ie279.trans (ie280.trans (ie281.trans (ie282.trans hkp13)))))), (gk14f30.trans (ie284.trans (ie285.trans (ie286.trans (ie287.trans (ie288.trans hkp14)))))), (gk15f30.trans (ie290.trans (ie291.trans (ie292.trans (ie293.trans (ie294.trans hkp15)))))), (gk16f30.trans (ie296.trans (ie297.trans (ie298.trans (ie299.trans (ie300.trans hkp16)))))), (Eq.trans (show rvh29 a0 9 = rvh26 a0 9 from (fl29.r ty78 rfl 9)) (Eq.trans (show rvh26 a0 9 = rvb2 a0 9 from (fl26.r ty56 rfl 9)) (show rvb2 a0 9 = rv a0 9 from hkr9))), (Eq.trans (show rvh29 a0 10 = rvh26 a0 10 from (fl29.r ty78 rfl 10)) (Eq.trans (show rvh26 a0 10 = rvb2 a0 10 from (fl26.r ty56 rfl 10)) (show rvb2 a0 10 = rv a0 10 from hkr10)))⟩
                      · refine c_aload_n (j := 3) (x := a0) C dX11_unreadable_117 rfl ?_
                        refine c_bipush (z := 8) C dX11_unreadable_118 (by decide) ?_
                        refine hv2 (Xb2.ty t_a0) (Phi.le Wb2 skb2) (fun ty100 pl16 => ?_)
                        refine d_callV (As := [.int (iI 8)]) (rest := []) C hM (C_refuse (a0 := a0) (x := 8) Wb2 skb2 ty100 ⟨by decide, by decide⟩ ) dX11_unreadable_120 kV_X11_102 rfl ty100 rfl rfl (by decide) ck_12 rfl (Nat.le_of_ble_eq_true rfl) ⟨(Nat.le_of_ble_eq_true rfl), (Nat.le_of_ble_eq_true rfl)⟩ hph pl16 (show 0 + 0 = 0 from rfl) (by decide) (fun rh31 Lh31 clh31 lnh31 ivh31 rvh31 h31 => ?_)
                        obtain ⟨f31, rfl, rfl, rfl, rfl, rfl, fl31, W31, rgf31, exf31, kp11f31, kp12f31, kp13f31, kp14f31, kp15f31, kp16f31⟩ := h31
                        refine hv8 (show 1 ≤ ivb2 a0 11 ∧ ivb2 a0 11 ≤ 100 from Wb2.int ty100 11) (show 1 ≤ ivb2 a0 12 ∧ ivb2 a0 12 ≤ 50 from Wb2.int ty100 12) (show (-2147483648) ≤ ivb2 a0 13 ∧ ivb2 a0 13 ≤ 2147483647 from Wb2.int ty100 13) (show (-2147483648) ≤ ivb2 a0 14 ∧ ivb2 a0 14 ≤ 2147483647 from Wb2.int ty100 14) (show (-2147483648) ≤ ivb2 a0 15 ∧ ivb2 a0 15 ≤ 2147483647 from Wb2.int ty100 15) (show (-2147483648) ≤ ivb2 a0 16 ∧ ivb2 a0 16 ≤ 2147483647 from Wb2.int ty100 16) (Fb2.call Xb2 fl31 rfl) (MRK.call mrb2 Wb2 skb2 XT.refl fl31 rfl rfl) (fun ri166 ri167 ri168 ri169 ri170 ri171 F30 mr30 => ?_)
                        refine c_st (st2 := [.int (iI f31)]) rfl ?_
                        refine hv13 (show ivh31 a0 11 = ivb2 a0 11 from kp11f31) (show ivh31 a0 12 = ivb2 a0 12 from kp12f31) (show ivh31 a0 13 = ivb2 a0 13 from kp13f31) (show ivh31 a0 14 = ivb2 a0 14 from kp14f31) (show ivh31 a0 15 = ivb2 a0 15 from kp15f31) (show ivh31 a0 16 = ivb2 a0 16 from kp16f31) (show f31 = -1 from exf31) (show 1 ≤ ivh31 a0 11 ∧ ivh31 a0 11 ≤ 100 from W31.int ty100 11) (show 1 ≤ ivh31 a0 12 ∧ ivh31 a0 12 ≤ 50 from W31.int ty100 12) (show (-2147483648) ≤ ivh31 a0 13 ∧ ivh31 a0 13 ≤ 2147483647 from W31.int ty100 13) (show (-2147483648) ≤ ivh31 a0 14 ∧ ivh31 a0 14 ≤ 2147483647 from W31.int ty100 14) (show (-2147483648) ≤ ivh31 a0 15 ∧ ivh31 a0 15 ≤ 2147483647 from W31.int ty100 15) (show (-2147483648) ≤ ivh31 a0 16 ∧ ivh31 a0 16 ≤ 2147483647 from W31.int ty100 16) (fun gk11f31 gk12f31 gk13f31 gk14f31 gk15f31 gk16f31 gf31 ri172 ri173 ri174 ri175 ri176 ri177 => ?_)
                        exact c_iret C dX11_unreadable_123 rfl (by decide) (rom0 hph pl16 (by decide)) ⟨f31, rfl, Xb2, F30, W31, ⟨by omega, by omega⟩, trivial, (gk11f31.trans hkp11), (gk12f31.trans hkp12), (gk13f31.trans hkp13), (gk14f31.trans hkp14), (gk15f31.trans hkp15), (gk16f31.trans hkp16), (show rvb2 a0 9 = rv a0 9 from hkr9), (show rvb2 a0 10 = rv a0 10 from hkr10)⟩
              refine hv24 (show 1 ≤ ivh20 a0 11 ∧ ivh20 a0 11 ≤ 100 from W20.int ty1 11) (show ivh20 a0 11 = ivh19 a0 11 from fl20.i ty1 rfl 11) (show ivh19 a0 11 = ivh5 a0 11 from fl19.i ty1 rfl 11) (show ivh5 a0 11 = iv a0 11 from fl5.i t_a0 rfl 11) (show 1 ≤ ivh20 a0 12 ∧ ivh20 a0 12 ≤ 50 from W20.int ty1 12) (show ivh20 a0 12 = ivh19 a0 12 from fl20.i ty1 rfl 12) (show ivh19 a0 12 = ivh5 a0 12 from fl19.i ty1 rfl 12) (show ivh5 a0 12 = iv a0 12 from fl5.i t_a0 rfl 12) (show (-2147483648) ≤ ivh20 a0 13 ∧ ivh20 a0 13 ≤ 2147483647 from W20.int ty1 13) (show ivh20 a0 13 = ivh19 a0 13 from fl20.i ty1 rfl 13) (show ivh19 a0 13 = ivh5 a0 13 from fl19.i ty1 rfl 13) (show ivh5 a0 13 = iv a0 13 from fl5.i t_a0 rfl 13) (show (-2147483648) ≤ ivh20 a0 14 ∧ ivh20 a0 14 ≤ 2147483647 from W20.int ty1 14) (show ivh20 a0 14 = ivh19 a0 14 from fl20.i ty1 rfl 14) (show ivh19 a0 14 = ivh5 a0 14 from fl19.i ty1 rfl 14) (show ivh5 a0 14 = iv a0 14 from fl5.i t_a0 rfl 14) (show (-2147483648) ≤ ivh20 a0 15 ∧ ivh20 a0 15 ≤ 2147483647 from W20.int ty1 15) (show ivh20 a0 15 = ivh19 a0 15 from fl20.i ty1 rfl 15) (show ivh19 a0 15 = ivh5 a0 15 from fl19.i ty1 rfl 15) (show ivh5 a0 15 = iv a0 15 from fl5.i t_a0 rfl 15) (show (-2147483648) ≤ ivh20 a0 16 ∧ ivh20 a0 16 ≤ 2147483647 from W20.int ty1 16) (show ivh20 a0 16 = ivh19 a0 16 from fl20.i ty1 rfl 16) (show ivh19 a0 16 = ivh5 a0 16 from fl19.i ty1 rfl 16) (show ivh5 a0 16 = iv a0 16 from fl5.i t_a0 rfl 16) (fun ri178 ie320 ie321 ie322 ri179 ie323 ie324 ie325 ri180 ie326 ie327 ie328 ri181 ie329 ie330 ie331 ri182 ie332 ie333 ie334 ri183 ie335 ie336 ie337 => ?_)
              refine c_lv (lv2 := [(5, .int (iI f20)), (6, .int (iI 0)), (4, .ref ob1), (0, .ref a0), (1, .int (iI i)), (2, .int (iI n)), (3, .int (iI lim))]) [1, 0, 2, 3, 4, 5, 6] rfl ?_
              exact Lp2 5004 f20 0 _ _ _ _ _ (by omega) X1 W20 F19  (by omega) (by omega) (ie320.trans (ie321.trans ie322)) (ie323.trans (ie324.trans ie325)) (ie326.trans (ie327.trans ie328)) (ie329.trans (ie330.trans ie331)) (ie332.trans (ie333.trans ie334)) (ie335.trans (ie336.trans ie337)) (show rvh5 a0 9 = rv a0 9 from (fl5.r t_a0 rfl 9)) (show rvh5 a0 10 = rv a0 10 from (fl5.r t_a0 rfl 10))
          · subst oq1
            refine c_lv (lv2 := [(4, .null), (0, .ref a0), (1, .int (iI i)), (2, .int (iI n)), (3, .int (iI lim))]) [0, 1, 2, 3, 4] rfl ?_
            refine c_st (st2 := []) rfl ?_
            refine c_aload_n (j := 1) (x := a0) C dX11_unreadable_45 rfl ?_
            refine c_iconst C dX11_unreadable_46 ?_
            refine d_callV (As := [.int (iI 3)]) (rest := []) C hM (C_refuse (a0 := a0) (x := 3) hW hS t_a0 ⟨by decide, by decide⟩ ) dX11_unreadable_47 kV_X11_102 rfl t_a0 rfl rfl (by decide) ck_12 rfl (Nat.le_of_ble_eq_true rfl) ⟨(Nat.le_of_ble_eq_true rfl), (Nat.le_of_ble_eq_true rfl)⟩ hph hph (show 0 + 0 = 0 from rfl) (by decide) (fun rh32 Lh32 clh32 lnh32 ivh32 rvh32 h32 => ?_)
            obtain ⟨f32, rfl, rfl, rfl, rfl, rfl, fl32, W32, rgf32, exf32, kp11f32, kp12f32, kp13f32, kp14f32, kp15f32, kp16f32⟩ := h32
            refine hv8 (show 1 ≤ iv a0 11 ∧ iv a0 11 ≤ 100 from hW.int t_a0 11) (show 1 ≤ iv a0 12 ∧ iv a0 12 ≤ 50 from hW.int t_a0 12) (show (-2147483648) ≤ iv a0 13 ∧ iv a0 13 ≤ 2147483647 from hW.int t_a0 13) (show (-2147483648) ≤ iv a0 14 ∧ iv a0 14 ≤ 2147483647 from hW.int t_a0 14) (show (-2147483648) ≤ iv a0 15 ∧ iv a0 15 ≤ 2147483647 from hW.int t_a0 15) (show (-2147483648) ≤ iv a0 16 ∧ iv a0 16 ≤ 2147483647 from hW.int t_a0 16) (hF0.call hX0 fl32 rfl) (MRK.call hmr hW hS XT.refl fl32 rfl rfl) (fun ri184 ri185 ri186 ri187 ri188 ri189 F31 mr31 => ?_)
            refine c_st (st2 := [.int (iI f32)]) rfl ?_
            refine hv13 (show ivh32 a0 11 = iv a0 11 from kp11f32) (show ivh32 a0 12 = iv a0 12 from kp12f32) (show ivh32 a0 13 = iv a0 13 from kp13f32) (show ivh32 a0 14 = iv a0 14 from kp14f32) (show ivh32 a0 15 = iv a0 15 from kp15f32) (show ivh32 a0 16 = iv a0 16 from kp16f32) (show f32 = -1 from exf32) (show 1 ≤ ivh32 a0 11 ∧ ivh32 a0 11 ≤ 100 from W32.int t_a0 11) (show 1 ≤ ivh32 a0 12 ∧ ivh32 a0 12 ≤ 50 from W32.int t_a0 12) (show (-2147483648) ≤ ivh32 a0 13 ∧ ivh32 a0 13 ≤ 2147483647 from W32.int t_a0 13) (show (-2147483648) ≤ ivh32 a0 14 ∧ ivh32 a0 14 ≤ 2147483647 from W32.int t_a0 14) (show (-2147483648) ≤ ivh32 a0 15 ∧ ivh32 a0 15 ≤ 2147483647 from W32.int t_a0 15) (show (-2147483648) ≤ ivh32 a0 16 ∧ ivh32 a0 16 ≤ 2147483647 from W32.int t_a0 16) (fun gk11f32 gk12f32 gk13f32 gk14f32 gk15f32 gk16f32 gf32 ri190 ri191 ri192 ri193 ri194 ri195 => ?_)
            exact c_iret C dX11_unreadable_50 rfl (by decide) (rom0 hph hph (by decide)) ⟨f32, rfl, hX0, F31, W32, ⟨by omega, by omega⟩, trivial, gk11f32, gk12f32, gk13f32, gk14f32, gk15f32, gk16f32, rfl, rfl⟩
        · refine c_aload_n (j := 0) (x := a0) C dX11_unreadable_23 rfl ?_
          refine c_bipush (z := 6) C dX11_unreadable_24 (by decide) ?_
          refine d_callV (As := [.int (iI 6)]) (rest := []) C hM (C_refuse (a0 := a0) (x := 6) hW hS t_a0 ⟨by decide, by decide⟩ ) dX11_unreadable_26 kV_X11_102 rfl t_a0 rfl rfl (by decide) ck_12 rfl (Nat.le_of_ble_eq_true rfl) ⟨(Nat.le_of_ble_eq_true rfl), (Nat.le_of_ble_eq_true rfl)⟩ hph hph (show 0 + 0 = 0 from rfl) (by decide) (fun rh33 Lh33 clh33 lnh33 ivh33 rvh33 h33 => ?_)
          obtain ⟨f33, rfl, rfl, rfl, rfl, rfl, fl33, W33, rgf33, exf33, kp11f33, kp12f33, kp13f33, kp14f33, kp15f33, kp16f33⟩ := h33
          refine hv8 (show 1 ≤ iv a0 11 ∧ iv a0 11 ≤ 100 from hW.int t_a0 11) (show 1 ≤ iv a0 12 ∧ iv a0 12 ≤ 50 from hW.int t_a0 12) (show (-2147483648) ≤ iv a0 13 ∧ iv a0 13 ≤ 2147483647 from hW.int t_a0 13) (show (-2147483648) ≤ iv a0 14 ∧ iv a0 14 ≤ 2147483647 from hW.int t_a0 14) (show (-2147483648) ≤ iv a0 15 ∧ iv a0 15 ≤ 2147483647 from hW.int t_a0 15) (show (-2147483648) ≤ iv a0 16 ∧ iv a0 16 ≤ 2147483647 from hW.int t_a0 16) (hF0.call hX0 fl33 rfl) (MRK.call hmr hW hS XT.refl fl33 rfl rfl) (fun ri196 ri197 ri198 ri199 ri200 ri201 F32 mr32 => ?_)
          refine c_st (st2 := [.int (iI f33)]) rfl ?_
          refine hv13 (show ivh33 a0 11 = iv a0 11 from kp11f33) (show ivh33 a0 12 = iv a0 12 from kp12f33) (show ivh33 a0 13 = iv a0 13 from kp13f33) (show ivh33 a0 14 = iv a0 14 from kp14f33) (show ivh33 a0 15 = iv a0 15 from kp15f33) (show ivh33 a0 16 = iv a0 16 from kp16f33) (show f33 = -1 from exf33) (show 1 ≤ ivh33 a0 11 ∧ ivh33 a0 11 ≤ 100 from W33.int t_a0 11) (show 1 ≤ ivh33 a0 12 ∧ ivh33 a0 12 ≤ 50 from W33.int t_a0 12) (show (-2147483648) ≤ ivh33 a0 13 ∧ ivh33 a0 13 ≤ 2147483647 from W33.int t_a0 13) (show (-2147483648) ≤ ivh33 a0 14 ∧ ivh33 a0 14 ≤ 2147483647 from W33.int t_a0 14) (show (-2147483648) ≤ ivh33 a0 15 ∧ ivh33 a0 15 ≤ 2147483647 from W33.int t_a0 15) (show (-2147483648) ≤ ivh33 a0 16 ∧ ivh33 a0 16 ≤ 2147483647 from W33.int t_a0 16) (fun gk11f33 gk12f33 gk13f33 gk14f33 gk15f33 gk16f33 gf33 ri202 ri203 ri204 ri205 ri206 ri207 => ?_)
          exact c_iret C dX11_unreadable_29 rfl (by decide) (rom0 hph hph (by decide)) ⟨f33, rfl, hX0, F32, W33, ⟨by omega, by omega⟩, trivial, gk11f33, gk12f33, gk13f33, gk14f33, gk15f33, gk16f33, rfl, rfl⟩
set_option maxHeartbeats 4000000 in
set_option maxRecDepth 100000 in
theorem C_readings {l : Launch} {G : GT} {mi : Nat} {sk : Nat → Nat} {L : List Nat} {cl ln : Nat → Nat} {iv : Nat → Nat → Int} {rv : Nat → Nat → Option Nat}  {a0 : Nat} {i : Int} {j : Int} {n : Int} (hW : WT (g0 G) sk L cl ln iv rv) (hS : SKL sk L cl) (t_a0 : ty L cl a0 1) (h_i : -2147483648 ≤ i ∧ i ≤ 2147483647) (h_j : -2147483648 ≤ j ∧ j ≤ 2147483647) (h_n : -2147483648 ≤ n ∧ n ≤ 2147483647) (hmr : MRK sk cl iv rv) : Mc l G mi (Phi (g0 G) sk) PHM yX11_readings cX11_readings 6 (some .int) 10 [.ref a0, .int (iI i), .int (iI j), .int (iI n)] L cl ln iv rv 0 (fun v L2 cl2 ln2 iv2 rv2 => ∃ f : Int, v = some (.int (iI f)) ∧ XT L cl ln L2 cl2 ln2 ∧ fT [1, 24, 1002, 25, 1003, 6, 36, 7, 37, 17, 63, 59, 60, 61, 62, 11, 41] L cl iv rv iv2 rv2 ∧ WT (g0 G) sk L2 cl2 ln2 iv2 rv2 ∧ (-2147483648 ≤ f ∧ f ≤ 2147483647) ∧ (True) ∧ iv2 a0 11 = iv a0 11 ∧ iv2 a0 12 = iv a0 12 ∧ iv2 a0 13 = iv a0 13 ∧ iv2 a0 14 = iv a0 14 ∧ iv2 a0 15 = iv a0 15 ∧ iv2 a0 16 = iv a0 16 ∧ rv2 a0 9 = rv a0 9 ∧ rv2 a0 10 = rv a0 10) := by
  refine Mc.mk (by decide) (Nat.le_of_ble_eq_true rfl) ?_
  intro p e s m args below meth c A C hM
  refine hv21 (Phi.le hW hS) (show ty L cl (sk 2) 2 from ⟨(hS 2 rfl).1, by rw [(hS 2 rfl).2]; rfl⟩) (show ty L cl (sk 3) 3 from ⟨(hS 3 rfl).1, by rw [(hS 3 rfl).2]; rfl⟩) (show ty L cl (sk 4) 4 from ⟨(hS 4 rfl).1, by rw [(hS 4 rfl).2]; rfl⟩) (show ty L cl (sk 5) 5 from ⟨(hS 5 rfl).1, by rw [(hS 5 rfl).2]; rfl⟩) (show ty L cl (sk 6) 6 from ⟨(hS 6 rfl).1, by rw [(hS 6 rfl).2]; rfl⟩) (show ty L cl (sk 7) 7 from ⟨(hS 7 rfl).1, by rw [(hS 7 rfl).2]; rfl⟩) (show ty L cl (sk 8) 8 from ⟨(hS 8 rfl).1, by rw [(hS 8 rfl).2]; rfl⟩) (show ty L cl (sk 9) 9 from ⟨(hS 9 rfl).1, by rw [(hS 9 rfl).2]; rfl⟩) (show ty L cl (sk 10) 10 from ⟨(hS 10 rfl).1, by rw [(hS 10 rfl).2]; rfl⟩) (show ty L cl (sk 13) 13 from ⟨(hS 13 rfl).1, by rw [(hS 13 rfl).2]; rfl⟩) (show ty L cl (sk 14) 14 from ⟨(hS 14 rfl).1, by rw [(hS 14 rfl).2]; rfl⟩) (show ty L cl (sk 15) 15 from ⟨(hS 15 rfl).1, by rw [(hS 15 rfl).2]; rfl⟩) (show ty L cl (sk 16) 16 from ⟨(hS 16 rfl).1, by rw [(hS 16 rfl).2]; rfl⟩) (show ty L cl (sk 17) 17 from ⟨(hS 17 rfl).1, by rw [(hS 17 rfl).2]; rfl⟩) (show ty L cl (sk 22) 22 from ⟨(hS 22 rfl).1, by rw [(hS 22 rfl).2]; rfl⟩) (show ty L cl (sk 23) 23 from ⟨(hS 23 rfl).1, by rw [(hS 23 rfl).2]; rfl⟩) (show ty L cl (sk 24) 24 from ⟨(hS 24 rfl).1, by rw [(hS 24 rfl).2]; rfl⟩) (show ty L cl (sk 25) 25 from ⟨(hS 25 rfl).1, by rw [(hS 25 rfl).2]; rfl⟩) (show XT L cl ln L cl ln from XT.refl) (show fT [1, 24, 1002, 25, 1003, 6, 36, 7, 37, 17, 63, 59, 60, 61, 62, 11, 41] L cl iv rv iv rv from fT.refl) (fun hph tsk2 tsk3 tsk4 tsk5 tsk6 tsk7 tsk8 tsk9 tsk10 tsk13 tsk14 tsk15 tsk16 tsk17 tsk22 tsk23 tsk24 tsk25 hX0 hF0 => ?_)
  refine c_iload_n (j := 3) C dX11_readings_0 rfl ?_
  refine c_iconst C dX11_readings_1 ?_
  refine c_icmp_lt (tgt := 11) C ⟨by omega, by omega⟩ ⟨by decide, by decide⟩ dX11_readings_2 (by decide) (fun c1 => ?_) (fun c1 => ?_)
  · refine c_aload_n (j := 0) (x := a0) C dX11_readings_11 rfl ?_
    refine c_bipush (z := 6) C dX11_readings_12 (by decide) ?_
    refine d_callV (As := [.int (iI 6)]) (rest := []) C hM (C_refuse (a0 := a0) (x := 6) hW hS t_a0 ⟨by decide, by decide⟩ ) dX11_readings_14 kV_X11_102 rfl t_a0 rfl rfl (by decide) ck_12 rfl (Nat.le_of_ble_eq_true rfl) ⟨(Nat.le_of_ble_eq_true rfl), (Nat.le_of_ble_eq_true rfl)⟩ hph hph (show 0 + 0 = 0 from rfl) (by decide) (fun rh1 Lh1 clh1 lnh1 ivh1 rvh1 h1 => ?_)
    obtain ⟨f1, rfl, rfl, rfl, rfl, rfl, fl1, W1, rgf1, exf1, kp11f1, kp12f1, kp13f1, kp14f1, kp15f1, kp16f1⟩ := h1
    refine hv8 (show 1 ≤ iv a0 11 ∧ iv a0 11 ≤ 100 from hW.int t_a0 11) (show 1 ≤ iv a0 12 ∧ iv a0 12 ≤ 50 from hW.int t_a0 12) (show (-2147483648) ≤ iv a0 13 ∧ iv a0 13 ≤ 2147483647 from hW.int t_a0 13) (show (-2147483648) ≤ iv a0 14 ∧ iv a0 14 ≤ 2147483647 from hW.int t_a0 14) (show (-2147483648) ≤ iv a0 15 ∧ iv a0 15 ≤ 2147483647 from hW.int t_a0 15) (show (-2147483648) ≤ iv a0 16 ∧ iv a0 16 ≤ 2147483647 from hW.int t_a0 16) (hF0.call hX0 fl1 rfl) (MRK.call hmr hW hS XT.refl fl1 rfl rfl) (fun ri1 ri2 ri3 ri4 ri5 ri6 F1 mr1 => ?_)
    refine c_st (st2 := [.int (iI f1)]) rfl ?_
    refine hv13 (show ivh1 a0 11 = iv a0 11 from kp11f1) (show ivh1 a0 12 = iv a0 12 from kp12f1) (show ivh1 a0 13 = iv a0 13 from kp13f1) (show ivh1 a0 14 = iv a0 14 from kp14f1) (show ivh1 a0 15 = iv a0 15 from kp15f1) (show ivh1 a0 16 = iv a0 16 from kp16f1) (show f1 = -1 from exf1) (show 1 ≤ ivh1 a0 11 ∧ ivh1 a0 11 ≤ 100 from W1.int t_a0 11) (show 1 ≤ ivh1 a0 12 ∧ ivh1 a0 12 ≤ 50 from W1.int t_a0 12) (show (-2147483648) ≤ ivh1 a0 13 ∧ ivh1 a0 13 ≤ 2147483647 from W1.int t_a0 13) (show (-2147483648) ≤ ivh1 a0 14 ∧ ivh1 a0 14 ≤ 2147483647 from W1.int t_a0 14) (show (-2147483648) ≤ ivh1 a0 15 ∧ ivh1 a0 15 ≤ 2147483647 from W1.int t_a0 15) (show (-2147483648) ≤ ivh1 a0 16 ∧ ivh1 a0 16 ≤ 2147483647 from W1.int t_a0 16) (fun gk11f1 gk12f1 gk13f1 gk14f1 gk15f1 gk16f1 gf1 ri7 ri8 ri9 ri10 ri11 ri12 => ?_)
    exact c_iret C dX11_readings_17 rfl (by decide) (rom0 hph hph (by decide)) ⟨f1, rfl, hX0, F1, W1, ⟨by omega, by omega⟩, trivial, gk11f1, gk12f1, gk13f1, gk14f1, gk15f1, gk16f1, rfl, rfl⟩
  · refine c_iload_n (j := 3) C dX11_readings_5 rfl ?_
    refine c_bipush (z := 50) C dX11_readings_6 (by decide) ?_
    refine c_icmp_le (tgt := 18) C ⟨by omega, by omega⟩ ⟨by decide, by decide⟩ dX11_readings_8 (by decide) (fun c2 => ?_) (fun c2 => ?_)
    · refine c_aload_n (j := 0) (x := a0) C dX11_readings_18 rfl ?_
      obtain ⟨rb1, rq1, trb1⟩ := hW.ref t_a0 4 rfl rfl rfl
      have erb1 := hW.sk trb1 (by decide) rfl
      subst erb1
      refine c_getr (k := 4) C ck_12 dX11_readings_19 w2_48 (by decide) t_a0 rfl rfl (by decide) rfl rq1 ?_
      refine c_st (st2 := [.ref (sk 13)]) rfl ?_
      refine c_iload_n (j := 1) C dX11_readings_22 rfl ?_
      refine d_callV (As := [.int (iI i)]) (rest := []) C hM (C_whole (a0 := (sk 13)) (i := i) hW hS tsk13 (by omega) hmr) dX11_readings_23 kV_X11_231 rfl tsk13 rfl rfl (by decide) ck_11 rfl (Nat.le_of_ble_eq_true rfl) ⟨(Nat.le_of_ble_eq_true rfl), (Nat.le_of_ble_eq_true rfl)⟩ hph hph (show 0 + 0 = 0 from rfl) (by decide) (fun rh2 Lh2 clh2 lnh2 ivh2 rvh2 h2 => ?_)
      obtain ⟨f2, rfl, rfl, rfl, rfl, rfl, rfl, rgf2, exf2⟩ := h2
      refine c_st (st2 := [(va_rf f2)]) rfl ?_
      refine c_astorer (r := f2) (lv2 := [(4, (va_rf f2)), (0, .ref a0), (1, .int (iI i)), (2, .int (iI j)), (3, .int (iI n))]) C dX11_readings_26 (by decide) rfl ?_
      refine c_aloadr (j := 0) (r := f2) C dX11_readings_28 rfl ?_
      refine c_ifnonnull (r := f2) (tgt := 39) C dX11_readings_30 (by decide) (fun ob1 oq1 => ?_) (fun oq1 => ?_)
      · subst oq1
        have tob1 := rgf2 ob1 rfl
        refine c_lv (lv2 := [(4, .ref ob1), (0, .ref a0), (1, .int (iI i)), (2, .int (iI j)), (3, .int (iI n))]) [0, 1, 2, 3, 4] rfl ?_
        refine c_st (st2 := []) rfl ?_
        refine c_aload_n (j := 1) (x := a0) C dX11_readings_39 rfl ?_
        obtain ⟨rb2, rq2, trb2⟩ := hW.ref t_a0 9 rfl rfl rfl
        refine c_getr (k := 9) C ck_12 dX11_readings_40 w2_53 (by decide) t_a0 rfl rfl (by decide) rfl rq2 ?_
        refine c_st (st2 := [.ref rb2]) rfl ?_
        refine c_iload_n (j := 3) C dX11_readings_43 rfl ?_
        have ri13 : 0 ≤ iv rb2 1 ∧ iv rb2 1 ≤ 200 := hW.int trb2 1
        refine d_callV (As := [.int (iI j)]) (rest := []) C hM (C_present (a0 := rb2) (i := j) hW hS trb2 (by omega) ) dX11_readings_44 kV_X11_288 rfl trb2 rfl rfl (by decide) ck_8 rfl (Nat.le_of_ble_eq_true rfl) ⟨(Nat.le_of_ble_eq_true rfl), (Nat.le_of_ble_eq_true rfl)⟩ hph hph (show 0 + 0 = 0 from rfl) (by decide) (fun rh3 Lh3 clh3 lnh3 ivh3 rvh3 h3 => ?_)
        obtain ⟨f3, rfl, rfl, rfl, rfl, rfl, rfl, rgf3, exf3⟩ := h3
        refine c_st (st2 := [(va_rf f3)]) rfl ?_
        have gf3 : f3 = none ∨ (0 ≤ j ∧ j < iv rb2 1) := exf3
        refine c_astorer (r := f3) (lv2 := [(5, (va_rf f3)), (4, .ref ob1), (0, .ref a0), (1, .int (iI i)), (2, .int (iI j)), (3, .int (iI n))]) C dX11_readings_47 (by decide) rfl ?_
        refine c_aloadr (j := 0) (r := f3) C dX11_readings_49 rfl ?_
        refine c_ifnonnull (r := f3) (tgt := 67) C dX11_readings_51 (by decide) (fun ob2 oq2 => ?_) (fun oq2 => ?_)
        · subst oq2
          have tob2 := rgf3 ob2 rfl
          refine c_lv (lv2 := [(5, .ref ob2), (4, .ref ob1), (0, .ref a0), (1, .int (iI i)), (2, .int (iI j)), (3, .int (iI n))]) [0, 1, 2, 3, 4, 5] rfl ?_
          refine c_st (st2 := []) rfl ?_
          refine c_aload (j := 0) (x := ob2) C dX11_readings_67 rfl ?_
          have ri14 : 0 ≤ iv ob2 1 ∧ iv ob2 1 ≤ 200 := hW.int tob2 1
          refine c_get (k := 1) C ck_3 dX11_readings_69 w4_53 (by decide) tob2 rfl rfl (by decide) rfl ?_
          refine c_bipush (z := 100) C dX11_readings_72 (by decide) ?_
          refine c_icmp_le (tgt := 84) C (r32_c (lo := 0) (hi := 200) ri14.1 ri14.2 (by decide) (by decide)) ⟨by decide, by decide⟩ dX11_readings_74 (by decide) (fun c3 => ?_) (fun c3 => ?_)
          · refine c_aload_n (j := 2) (x := a0) C dX11_readings_84 rfl ?_
            obtain ⟨rb3, rq3, trb3⟩ := hW.ref t_a0 7 rfl rfl rfl
            have erb3 := hW.sk trb3 (by decide) rfl
            subst erb3
            refine c_getr (k := 7) C ck_12 dX11_readings_85 w2_51 (by decide) t_a0 rfl rfl (by decide) rfl rq3 ?_
            refine c_st (st2 := [.ref (sk 16)]) rfl ?_
            refine c_aload (j := 1) (x := ob1) C dX11_readings_88 rfl ?_
            refine d_callV (As := [.ref ob1]) (rest := []) C hM (C_gather (a0 := (sk 16)) (a1 := ob1) hW hS tsk16 tob1  ) dX11_readings_90 kV_X11_331 rfl tsk16 rfl rfl (by decide) ck_4 rfl (Nat.le_of_ble_eq_true rfl) ⟨(Nat.le_of_ble_eq_true rfl), (Nat.le_of_ble_eq_true rfl)⟩ hph hph (show 0 + 0 = 0 from rfl) (by decide) (fun rh4 Lh4 clh4 lnh4 ivh4 rvh4 h4 => ?_)
            obtain ⟨rfl, xl4, fl4, W4, exf4⟩ := h4
            refine hv4 (hF0.call hX0 fl4 rfl) (MRK.call hmr hW hS xl4 fl4 rfl rfl) (hX0.trans xl4) (xl4.skl hS) (fun F2 mr2 X1 sk1 => ?_)
            refine c_st (st2 := []) rfl ?_
            refine c_aload_n (j := 2) (x := a0) C dX11_readings_93 rfl ?_
            have ty1 := xl4.ty t_a0
            obtain ⟨rb4, rq4, trb4⟩ := W4.ref ty1 8 rfl rfl rfl
            have erb4 := W4.sk trb4 (by decide) rfl
            subst erb4
            refine c_getr (k := 8) C ck_12 dX11_readings_94 w2_52 (by decide) ty1 rfl rfl (by decide) rfl rq4 ?_
            refine c_st (st2 := [.ref (sk 17)]) rfl ?_
            refine c_aload (j := 0) (x := ob2) C dX11_readings_97 rfl ?_
            refine c_sipush (z := 255) C dX11_readings_99 (by decide) ?_
            refine c_aload_n (j := 2) (x := a0) C dX11_readings_102 rfl ?_
            refine hv2 (show (-2147483648) ≤ ivh4 a0 14 ∧ ivh4 a0 14 ≤ 2147483647 from W4.int ty1 14) (show ivh4 a0 14 = iv a0 14 from fl4.i t_a0 rfl 14) (fun ri15 ie7 => ?_)
            refine c_get (k := 14) C ck_12 dX11_readings_103 w2_58 (by decide) ty1 rfl rfl (by decide) rfl ?_
            refine c_iconst C dX11_readings_106 ?_
            obtain ⟨zz1, hzz1, ezz1⟩ := iI_of (iI (ivh4 a0 14) ^^^ iI (-1))
            refine c_ixor (w := iI zz1) C dX11_readings_107 ezz1 ?_
            obtain ⟨zz2, hzz2, ezz2⟩ := iI_of (iI 255 &&& iI zz1)
            refine c_iand (w := iI zz2) C dX11_readings_108 ezz2 ?_
            refine c_iload_n (j := 5) C dX11_readings_109 rfl ?_
            refine hv3 (xl4.ty tsk17) (xl4.ty tob2) (Phi.le W4 sk1) (fun ty2 ty3 pl1 => ?_)
            refine d_callV (As := [.ref ob2, .int (iI zz2), .int (iI n)]) (rest := []) C hM (C_collect (a0 := (sk 17)) (a1 := ob2) (x := zz2) (y := n) W4 sk1 ty2 ty3 (by omega) (by omega) ) dX11_readings_110 kV_X11_356 rfl ty2 rfl rfl (by decide) ck_5 rfl (Nat.le_of_ble_eq_true rfl) ⟨(Nat.le_of_ble_eq_true rfl), (Nat.le_of_ble_eq_true rfl)⟩ hph pl1 (show 0 + 0 = 0 from rfl) (by decide) (fun rh5 Lh5 clh5 lnh5 ivh5 rvh5 h5 => ?_)
            obtain ⟨rfl, xl5, fl5, W5, exf5⟩ := h5
            refine hv23 (F2.call X1 fl5 rfl) (MRK.call mr2 W4 sk1 xl5 fl5 rfl rfl) (xl4.ty tsk2) (xl4.ty tsk3) (xl4.ty tsk4) (xl4.ty tsk5) (xl4.ty tsk6) (xl4.ty tsk7) (xl4.ty tsk8) (xl4.ty tsk9) (xl4.ty tsk10) (xl4.ty tsk13) (xl4.ty tsk14) (xl4.ty tsk15) (xl4.ty tsk16) (xl4.ty tsk22) (xl4.ty tsk23) (xl4.ty tsk24) (xl4.ty tsk25) (xl4.ty tob1) (xl4.ty trb2) (X1.trans xl5) (xl5.skl sk1) (fun F3 mr3 ty4 ty5 ty6 ty7 ty8 ty9 ty10 ty11 ty12 ty13 ty14 ty15 ty16 ty17 ty18 ty19 ty20 ty21 ty22 X2 sk2 => ?_)
            refine c_st (st2 := []) rfl ?_
            refine c_aload_n (j := 2) (x := a0) C dX11_readings_113 rfl ?_
            refine c_aload_n (j := 2) (x := a0) C dX11_readings_114 rfl ?_
            refine hv2 (xl5.ty ty1) (show rvh5 a0 8 = rvh4 a0 8 from (fl5.r ty1 rfl 8)) (fun ty23 re1 => ?_)
            rw [rq4] at re1
            refine c_getr (k := 8) C ck_12 dX11_readings_115 w2_52 (by decide) ty23 rfl rfl (by decide) rfl re1 ?_
            refine c_st (st2 := [.ref (sk 17), .ref a0]) rfl ?_
            have ty24 := xl5.ty ty2
            have ri16 : 0 ≤ ivh5 (sk 17) 5 ∧ ivh5 (sk 17) 5 ≤ 50 := W5.int ty24 5
            refine c_get (k := 5) C ck_5 dX11_readings_118 w1_235 (by decide) ty24 rfl rfl (by decide) rfl ?_
            have pl2 := Phi.le W5 sk2
            refine d_callV (As := [.int (iI (ivh5 (sk 17) 5))]) (rest := []) C hM (C_done (a0 := a0) (x := ivh5 (sk 17) 5) W5 sk2 ty23 (by omega) ) dX11_readings_121 kV_X11_109 rfl ty23 rfl rfl (by decide) ck_12 rfl (Nat.le_of_ble_eq_true rfl) ⟨(Nat.le_of_ble_eq_true rfl), (Nat.le_of_ble_eq_true rfl)⟩ hph pl2 (show 0 + 0 = 0 from rfl) (by decide) (fun rh6 Lh6 clh6 lnh6 ivh6 rvh6 h6 => ?_)
            obtain ⟨f6, rfl, rfl, rfl, rfl, rfl, fl6, W6, rgf6, exf6, kp11f6, kp12f6, kp13f6, kp14f6, kp15f6, kp16f6⟩ := h6
            refine hv19 (show 1 ≤ ivh5 a0 11 ∧ ivh5 a0 11 ≤ 100 from W5.int ty23 11) (show ivh5 a0 11 = ivh4 a0 11 from fl5.i ty1 rfl 11) (show ivh4 a0 11 = iv a0 11 from fl4.i t_a0 rfl 11) (show 1 ≤ ivh5 a0 12 ∧ ivh5 a0 12 ≤ 50 from W5.int ty23 12) (show ivh5 a0 12 = ivh4 a0 12 from fl5.i ty1 rfl 12) (show ivh4 a0 12 = iv a0 12 from fl4.i t_a0 rfl 12) (show (-2147483648) ≤ ivh5 a0 13 ∧ ivh5 a0 13 ≤ 2147483647 from W5.int ty23 13) (show ivh5 a0 13 = ivh4 a0 13 from fl5.i ty1 rfl 13) (show ivh4 a0 13 = iv a0 13 from fl4.i t_a0 rfl 13) (show (-2147483648) ≤ ivh5 a0 14 ∧ ivh5 a0 14 ≤ 2147483647 from W5.int ty23 14) (show ivh5 a0 14 = ivh4 a0 14 from fl5.i ty1 rfl 14) (show (-2147483648) ≤ ivh5 a0 15 ∧ ivh5 a0 15 ≤ 2147483647 from W5.int ty23 15) (show ivh5 a0 15 = ivh4 a0 15 from fl5.i ty1 rfl 15) (show ivh4 a0 15 = iv a0 15 from fl4.i t_a0 rfl 15) (show (-2147483648) ≤ ivh5 a0 16 ∧ ivh5 a0 16 ≤ 2147483647 from W5.int ty23 16) (show ivh5 a0 16 = ivh4 a0 16 from fl5.i ty1 rfl 16) (show ivh4 a0 16 = iv a0 16 from fl4.i t_a0 rfl 16) (F3.call X2 fl6 rfl) (MRK.call mr3 W5 sk2 XT.refl fl6 rfl rfl) (fun ri17 ie9 ie10 ri18 ie11 ie12 ri19 ie13 ie14 ri20 ie15 ri21 ie16 ie17 ri22 ie18 ie19 F4 mr4 => ?_)
            refine c_st (st2 := [.int (iI f6)]) rfl ?_
            refine hv13 (show ivh6 a0 11 = ivh5 a0 11 from kp11f6) (show ivh6 a0 12 = ivh5 a0 12 from kp12f6) (show ivh6 a0 13 = ivh5 a0 13 from kp13f6) (show ivh6 a0 14 = ivh5 a0 14 from kp14f6) (show ivh6 a0 15 = ivh5 a0 15 from kp15f6) (show ivh6 a0 16 = ivh5 a0 16 from kp16f6) (show f6 = (ivh5 (sk 17) 5) from exf6) (show 1 ≤ ivh6 a0 11 ∧ ivh6 a0 11 ≤ 100 from W6.int ty23 11) (show 1 ≤ ivh6 a0 12 ∧ ivh6 a0 12 ≤ 50 from W6.int ty23 12) (show (-2147483648) ≤ ivh6 a0 13 ∧ ivh6 a0 13 ≤ 2147483647 from W6.int ty23 13) (show (-2147483648) ≤ ivh6 a0 14 ∧ ivh6 a0 14 ≤ 2147483647 from W6.int ty23 14) (show (-2147483648) ≤ ivh6 a0 15 ∧ ivh6 a0 15 ≤ 2147483647 from W6.int ty23 15) (show (-2147483648) ≤ ivh6 a0 16 ∧ ivh6 a0 16 ≤ 2147483647 from W6.int ty23 16) (fun gk11f6 gk12f6 gk13f6 gk14f6 gk15f6 gk16f6 gf6 ri23 ri24 ri25 ri26 ri27 ri28 => ?_)
            exact c_iret C dX11_readings_124 rfl (by decide) (rom0 hph pl2 (by decide)) ⟨f6, rfl, X2, F4, W6, ⟨by omega, by omega⟩, trivial, (gk11f6.trans (ie9.trans ie10)), (gk12f6.trans (ie11.trans ie12)), (gk13f6.trans (ie13.trans ie14)), (gk14f6.trans (ie15.trans ie7)), (gk15f6.trans (ie16.trans ie17)), (gk16f6.trans (ie18.trans ie19)), (Eq.trans (show rvh5 a0 9 = rvh4 a0 9 from (fl5.r ty1 rfl 9)) (show rvh4 a0 9 = rv a0 9 from (fl4.r t_a0 rfl 9))), (Eq.trans (show rvh5 a0 10 = rvh4 a0 10 from (fl5.r ty1 rfl 10)) (show rvh4 a0 10 = rv a0 10 from (fl4.r t_a0 rfl 10)))⟩
          · refine c_aload_n (j := 2) (x := a0) C dX11_readings_77 rfl ?_
            refine c_bipush (z := 6) C dX11_readings_78 (by decide) ?_
            refine d_callV (As := [.int (iI 6)]) (rest := []) C hM (C_refuse (a0 := a0) (x := 6) hW hS t_a0 ⟨by decide, by decide⟩ ) dX11_readings_80 kV_X11_102 rfl t_a0 rfl rfl (by decide) ck_12 rfl (Nat.le_of_ble_eq_true rfl) ⟨(Nat.le_of_ble_eq_true rfl), (Nat.le_of_ble_eq_true rfl)⟩ hph hph (show 0 + 0 = 0 from rfl) (by decide) (fun rh7 Lh7 clh7 lnh7 ivh7 rvh7 h7 => ?_)
            obtain ⟨f7, rfl, rfl, rfl, rfl, rfl, fl7, W7, rgf7, exf7, kp11f7, kp12f7, kp13f7, kp14f7, kp15f7, kp16f7⟩ := h7
            refine hv8 (show 1 ≤ iv a0 11 ∧ iv a0 11 ≤ 100 from hW.int t_a0 11) (show 1 ≤ iv a0 12 ∧ iv a0 12 ≤ 50 from hW.int t_a0 12) (show (-2147483648) ≤ iv a0 13 ∧ iv a0 13 ≤ 2147483647 from hW.int t_a0 13) (show (-2147483648) ≤ iv a0 14 ∧ iv a0 14 ≤ 2147483647 from hW.int t_a0 14) (show (-2147483648) ≤ iv a0 15 ∧ iv a0 15 ≤ 2147483647 from hW.int t_a0 15) (show (-2147483648) ≤ iv a0 16 ∧ iv a0 16 ≤ 2147483647 from hW.int t_a0 16) (hF0.call hX0 fl7 rfl) (MRK.call hmr hW hS XT.refl fl7 rfl rfl) (fun ri29 ri30 ri31 ri32 ri33 ri34 F5 mr5 => ?_)
            refine c_st (st2 := [.int (iI f7)]) rfl ?_
            refine hv13 (show ivh7 a0 11 = iv a0 11 from kp11f7) (show ivh7 a0 12 = iv a0 12 from kp12f7) (show ivh7 a0 13 = iv a0 13 from kp13f7) (show ivh7 a0 14 = iv a0 14 from kp14f7) (show ivh7 a0 15 = iv a0 15 from kp15f7) (show ivh7 a0 16 = iv a0 16 from kp16f7) (show f7 = -1 from exf7) (show 1 ≤ ivh7 a0 11 ∧ ivh7 a0 11 ≤ 100 from W7.int t_a0 11) (show 1 ≤ ivh7 a0 12 ∧ ivh7 a0 12 ≤ 50 from W7.int t_a0 12) (show (-2147483648) ≤ ivh7 a0 13 ∧ ivh7 a0 13 ≤ 2147483647 from W7.int t_a0 13) (show (-2147483648) ≤ ivh7 a0 14 ∧ ivh7 a0 14 ≤ 2147483647 from W7.int t_a0 14) (show (-2147483648) ≤ ivh7 a0 15 ∧ ivh7 a0 15 ≤ 2147483647 from W7.int t_a0 15) (show (-2147483648) ≤ ivh7 a0 16 ∧ ivh7 a0 16 ≤ 2147483647 from W7.int t_a0 16) (fun gk11f7 gk12f7 gk13f7 gk14f7 gk15f7 gk16f7 gf7 ri35 ri36 ri37 ri38 ri39 ri40 => ?_)
            exact c_iret C dX11_readings_83 rfl (by decide) (rom0 hph hph (by decide)) ⟨f7, rfl, hX0, F5, W7, ⟨by omega, by omega⟩, trivial, gk11f7, gk12f7, gk13f7, gk14f7, gk15f7, gk16f7, rfl, rfl⟩
        · subst oq2
          refine c_lv (lv2 := [(5, .null), (4, .ref ob1), (0, .ref a0), (1, .int (iI i)), (2, .int (iI j)), (3, .int (iI n))]) [0, 1, 2, 3, 4, 5] rfl ?_
          refine c_st (st2 := []) rfl ?_
          refine c_aload_n (j := 2) (x := a0) C dX11_readings_54 rfl ?_
          refine c_aload_n (j := 2) (x := a0) C dX11_readings_55 rfl ?_
          refine c_getr (k := 9) C ck_12 dX11_readings_56 w2_53 (by decide) t_a0 rfl rfl (by decide) rfl rq2 ?_
          refine c_st (st2 := [.ref rb2, .ref a0]) rfl ?_
          refine c_iload_n (j := 4) C dX11_readings_59 rfl ?_
          refine d_callV (As := [.int (iI j)]) (rest := [.ref a0]) C hM (C_whyNone (a0 := rb2) (i := j) hW hS trb2 (by omega) ) dX11_readings_60 kV_X11_292 rfl trb2 rfl rfl (by decide) ck_8 rfl (Nat.le_of_ble_eq_true rfl) ⟨(Nat.le_of_ble_eq_true rfl), (Nat.le_of_ble_eq_true rfl)⟩ hph hph (show 0 + 0 = 0 from rfl) (by decide) (fun rh8 Lh8 clh8 lnh8 ivh8 rvh8 h8 => ?_)
          obtain ⟨f8, rfl, rfl, rfl, rfl, rfl, rfl, rgf8, exf8⟩ := h8
          refine c_st (st2 := [.int (iI f8), .ref a0]) rfl ?_
          have gf8 : f8 = 1 ∨ f8 = 2 := exf8
          refine d_callV (As := [.int (iI f8)]) (rest := []) C hM (C_refuse (a0 := a0) (x := f8) hW hS t_a0 (by omega) ) dX11_readings_63 kV_X11_102 rfl t_a0 rfl rfl (by decide) ck_12 rfl (Nat.le_of_ble_eq_true rfl) ⟨(Nat.le_of_ble_eq_true rfl), (Nat.le_of_ble_eq_true rfl)⟩ hph hph (show 0 + 0 = 0 from rfl) (by decide) (fun rh9 Lh9 clh9 lnh9 ivh9 rvh9 h9 => ?_)
          obtain ⟨f9, rfl, rfl, rfl, rfl, rfl, fl9, W9, rgf9, exf9, kp11f9, kp12f9, kp13f9, kp14f9, kp15f9, kp16f9⟩ := h9
          refine hv8 (show 1 ≤ iv a0 11 ∧ iv a0 11 ≤ 100 from hW.int t_a0 11) (show 1 ≤ iv a0 12 ∧ iv a0 12 ≤ 50 from hW.int t_a0 12) (show (-2147483648) ≤ iv a0 13 ∧ iv a0 13 ≤ 2147483647 from hW.int t_a0 13) (show (-2147483648) ≤ iv a0 14 ∧ iv a0 14 ≤ 2147483647 from hW.int t_a0 14) (show (-2147483648) ≤ iv a0 15 ∧ iv a0 15 ≤ 2147483647 from hW.int t_a0 15) (show (-2147483648) ≤ iv a0 16 ∧ iv a0 16 ≤ 2147483647 from hW.int t_a0 16) (hF0.call hX0 fl9 rfl) (MRK.call hmr hW hS XT.refl fl9 rfl rfl) (fun ri41 ri42 ri43 ri44 ri45 ri46 F6 mr6 => ?_)
          refine c_st (st2 := [.int (iI f9)]) rfl ?_
          refine hv13 (show ivh9 a0 11 = iv a0 11 from kp11f9) (show ivh9 a0 12 = iv a0 12 from kp12f9) (show ivh9 a0 13 = iv a0 13 from kp13f9) (show ivh9 a0 14 = iv a0 14 from kp14f9) (show ivh9 a0 15 = iv a0 15 from kp15f9) (show ivh9 a0 16 = iv a0 16 from kp16f9) (show f9 = -1 from exf9) (show 1 ≤ ivh9 a0 11 ∧ ivh9 a0 11 ≤ 100 from W9.int t_a0 11) (show 1 ≤ ivh9 a0 12 ∧ ivh9 a0 12 ≤ 50 from W9.int t_a0 12) (show (-2147483648) ≤ ivh9 a0 13 ∧ ivh9 a0 13 ≤ 2147483647 from W9.int t_a0 13) (show (-2147483648) ≤ ivh9 a0 14 ∧ ivh9 a0 14 ≤ 2147483647 from W9.int t_a0 14) (show (-2147483648) ≤ ivh9 a0 15 ∧ ivh9 a0 15 ≤ 2147483647 from W9.int t_a0 15) (show (-2147483648) ≤ ivh9 a0 16 ∧ ivh9 a0 16 ≤ 2147483647 from W9.int t_a0 16) (fun gk11f9 gk12f9 gk13f9 gk14f9 gk15f9 gk16f9 gf9 ri47 ri48 ri49 ri50 ri51 ri52 => ?_)
          exact c_iret C dX11_readings_66 rfl (by decide) (rom0 hph hph (by decide)) ⟨f9, rfl, hX0, F6, W9, ⟨by omega, by omega⟩, trivial, gk11f9, gk12f9, gk13f9, gk14f9, gk15f9, gk16f9, rfl, rfl⟩
      · subst oq1
        refine c_lv (lv2 := [(4, .null), (0, .ref a0), (1, .int (iI i)), (2, .int (iI j)), (3, .int (iI n))]) [0, 1, 2, 3, 4] rfl ?_
        refine c_st (st2 := []) rfl ?_
        refine c_aload_n (j := 1) (x := a0) C dX11_readings_33 rfl ?_
        refine c_iconst C dX11_readings_34 ?_
        refine d_callV (As := [.int (iI 3)]) (rest := []) C hM (C_refuse (a0 := a0) (x := 3) hW hS t_a0 ⟨by decide, by decide⟩ ) dX11_readings_35 kV_X11_102 rfl t_a0 rfl rfl (by decide) ck_12 rfl (Nat.le_of_ble_eq_true rfl) ⟨(Nat.le_of_ble_eq_true rfl), (Nat.le_of_ble_eq_true rfl)⟩ hph hph (show 0 + 0 = 0 from rfl) (by decide) (fun rh10 Lh10 clh10 lnh10 ivh10 rvh10 h10 => ?_)
        obtain ⟨f10, rfl, rfl, rfl, rfl, rfl, fl10, W10, rgf10, exf10, kp11f10, kp12f10, kp13f10, kp14f10, kp15f10, kp16f10⟩ := h10
        refine hv8 (show 1 ≤ iv a0 11 ∧ iv a0 11 ≤ 100 from hW.int t_a0 11) (show 1 ≤ iv a0 12 ∧ iv a0 12 ≤ 50 from hW.int t_a0 12) (show (-2147483648) ≤ iv a0 13 ∧ iv a0 13 ≤ 2147483647 from hW.int t_a0 13) (show (-2147483648) ≤ iv a0 14 ∧ iv a0 14 ≤ 2147483647 from hW.int t_a0 14) (show (-2147483648) ≤ iv a0 15 ∧ iv a0 15 ≤ 2147483647 from hW.int t_a0 15) (show (-2147483648) ≤ iv a0 16 ∧ iv a0 16 ≤ 2147483647 from hW.int t_a0 16) (hF0.call hX0 fl10 rfl) (MRK.call hmr hW hS XT.refl fl10 rfl rfl) (fun ri53 ri54 ri55 ri56 ri57 ri58 F7 mr7 => ?_)
        refine c_st (st2 := [.int (iI f10)]) rfl ?_
        refine hv13 (show ivh10 a0 11 = iv a0 11 from kp11f10) (show ivh10 a0 12 = iv a0 12 from kp12f10) (show ivh10 a0 13 = iv a0 13 from kp13f10) (show ivh10 a0 14 = iv a0 14 from kp14f10) (show ivh10 a0 15 = iv a0 15 from kp15f10) (show ivh10 a0 16 = iv a0 16 from kp16f10) (show f10 = -1 from exf10) (show 1 ≤ ivh10 a0 11 ∧ ivh10 a0 11 ≤ 100 from W10.int t_a0 11) (show 1 ≤ ivh10 a0 12 ∧ ivh10 a0 12 ≤ 50 from W10.int t_a0 12) (show (-2147483648) ≤ ivh10 a0 13 ∧ ivh10 a0 13 ≤ 2147483647 from W10.int t_a0 13) (show (-2147483648) ≤ ivh10 a0 14 ∧ ivh10 a0 14 ≤ 2147483647 from W10.int t_a0 14) (show (-2147483648) ≤ ivh10 a0 15 ∧ ivh10 a0 15 ≤ 2147483647 from W10.int t_a0 15) (show (-2147483648) ≤ ivh10 a0 16 ∧ ivh10 a0 16 ≤ 2147483647 from W10.int t_a0 16) (fun gk11f10 gk12f10 gk13f10 gk14f10 gk15f10 gk16f10 gf10 ri59 ri60 ri61 ri62 ri63 ri64 => ?_)
        exact c_iret C dX11_readings_38 rfl (by decide) (rom0 hph hph (by decide)) ⟨f10, rfl, hX0, F7, W10, ⟨by omega, by omega⟩, trivial, gk11f10, gk12f10, gk13f10, gk14f10, gk15f10, gk16f10, rfl, rfl⟩
    · refine c_aload_n (j := 0) (x := a0) C dX11_readings_11 rfl ?_
      refine c_bipush (z := 6) C dX11_readings_12 (by decide) ?_
      refine d_callV (As := [.int (iI 6)]) (rest := []) C hM (C_refuse (a0 := a0) (x := 6) hW hS t_a0 ⟨by decide, by decide⟩ ) dX11_readings_14 kV_X11_102 rfl t_a0 rfl rfl (by decide) ck_12 rfl (Nat.le_of_ble_eq_true rfl) ⟨(Nat.le_of_ble_eq_true rfl), (Nat.le_of_ble_eq_true rfl)⟩ hph hph (show 0 + 0 = 0 from rfl) (by decide) (fun rh11 Lh11 clh11 lnh11 ivh11 rvh11 h11 => ?_)
      obtain ⟨f11, rfl, rfl, rfl, rfl, rfl, fl11, W11, rgf11, exf11, kp11f11, kp12f11, kp13f11, kp14f11, kp15f11, kp16f11⟩ := h11
      refine hv8 (show 1 ≤ iv a0 11 ∧ iv a0 11 ≤ 100 from hW.int t_a0 11) (show 1 ≤ iv a0 12 ∧ iv a0 12 ≤ 50 from hW.int t_a0 12) (show (-2147483648) ≤ iv a0 13 ∧ iv a0 13 ≤ 2147483647 from hW.int t_a0 13) (show (-2147483648) ≤ iv a0 14 ∧ iv a0 14 ≤ 2147483647 from hW.int t_a0 14) (show (-2147483648) ≤ iv a0 15 ∧ iv a0 15 ≤ 2147483647 from hW.int t_a0 15) (show (-2147483648) ≤ iv a0 16 ∧ iv a0 16 ≤ 2147483647 from hW.int t_a0 16) (hF0.call hX0 fl11 rfl) (MRK.call hmr hW hS XT.refl fl11 rfl rfl) (fun ri65 ri66 ri67 ri68 ri69 ri70 F8 mr8 => ?_)
      refine c_st (st2 := [.int (iI f11)]) rfl ?_
      refine hv13 (show ivh11 a0 11 = iv a0 11 from kp11f11) (show ivh11 a0 12 = iv a0 12 from kp12f11) (show ivh11 a0 13 = iv a0 13 from kp13f11) (show ivh11 a0 14 = iv a0 14 from kp14f11) (show ivh11 a0 15 = iv a0 15 from kp15f11) (show ivh11 a0 16 = iv a0 16 from kp16f11) (show f11 = -1 from exf11) (show 1 ≤ ivh11 a0 11 ∧ ivh11 a0 11 ≤ 100 from W11.int t_a0 11) (show 1 ≤ ivh11 a0 12 ∧ ivh11 a0 12 ≤ 50 from W11.int t_a0 12) (show (-2147483648) ≤ ivh11 a0 13 ∧ ivh11 a0 13 ≤ 2147483647 from W11.int t_a0 13) (show (-2147483648) ≤ ivh11 a0 14 ∧ ivh11 a0 14 ≤ 2147483647 from W11.int t_a0 14) (show (-2147483648) ≤ ivh11 a0 15 ∧ ivh11 a0 15 ≤ 2147483647 from W11.int t_a0 15) (show (-2147483648) ≤ ivh11 a0 16 ∧ ivh11 a0 16 ≤ 2147483647 from W11.int t_a0 16) (fun gk11f11 gk12f11 gk13f11 gk14f11 gk15f11 gk16f11 gf11 ri71 ri72 ri73 ri74 ri75 ri76 => ?_)
      exact c_iret C dX11_readings_17 rfl (by decide) (rom0 hph hph (by decide)) ⟨f11, rfl, hX0, F8, W11, ⟨by omega, by omega⟩, trivial, gk11f11, gk12f11, gk13f11, gk14f11, gk15f11, gk16f11, rfl, rfl⟩
set_option maxHeartbeats 4000000 in
set_option maxRecDepth 100000 in
theorem C_reading {l : Launch} {G : GT} {mi : Nat} {sk : Nat → Nat} {L : List Nat} {cl ln : Nat → Nat} {iv : Nat → Nat → Int} {rv : Nat → Nat → Option Nat}  {a0 : Nat} {i : Int} {j : Int} (hW : WT (g0 G) sk L cl ln iv rv) (hS : SKL sk L cl) (t_a0 : ty L cl a0 1) (h_i : -2147483648 ≤ i ∧ i ≤ 2147483647) (h_j : -2147483648 ≤ j ∧ j ≤ 2147483647)  : Mc l G mi (Phi (g0 G) sk) PHM yX11_reading cX11_reading 4 (some .int) 2 [.ref a0, .int (iI i), .int (iI j)] L cl ln iv rv 0 (fun v L2 cl2 ln2 iv2 rv2 => ∃ f : Int, v = some (.int (iI f)) ∧ L = L2 ∧ cl = cl2 ∧ ln = ln2 ∧ rv = rv2 ∧ fT [1] L cl iv rv iv2 rv2 ∧ WT (g0 G) sk L2 cl2 ln2 iv2 rv2 ∧ (-2147483648 ≤ f ∧ f ≤ 2147483647) ∧ (True) ∧ iv2 a0 11 = iv a0 11 ∧ iv2 a0 12 = iv a0 12 ∧ iv2 a0 13 = iv a0 13 ∧ iv2 a0 14 = iv a0 14 ∧ iv2 a0 15 = iv a0 15 ∧ iv2 a0 16 = iv a0 16) := by
  refine Mc.mk (by decide) (Nat.le_of_ble_eq_true rfl) ?_
  intro p e s m args below meth c A C hM
  refine hv21 (Phi.le hW hS) (show ty L cl (sk 2) 2 from ⟨(hS 2 rfl).1, by rw [(hS 2 rfl).2]; rfl⟩) (show ty L cl (sk 3) 3 from ⟨(hS 3 rfl).1, by rw [(hS 3 rfl).2]; rfl⟩) (show ty L cl (sk 4) 4 from ⟨(hS 4 rfl).1, by rw [(hS 4 rfl).2]; rfl⟩) (show ty L cl (sk 5) 5 from ⟨(hS 5 rfl).1, by rw [(hS 5 rfl).2]; rfl⟩) (show ty L cl (sk 6) 6 from ⟨(hS 6 rfl).1, by rw [(hS 6 rfl).2]; rfl⟩) (show ty L cl (sk 7) 7 from ⟨(hS 7 rfl).1, by rw [(hS 7 rfl).2]; rfl⟩) (show ty L cl (sk 8) 8 from ⟨(hS 8 rfl).1, by rw [(hS 8 rfl).2]; rfl⟩) (show ty L cl (sk 9) 9 from ⟨(hS 9 rfl).1, by rw [(hS 9 rfl).2]; rfl⟩) (show ty L cl (sk 10) 10 from ⟨(hS 10 rfl).1, by rw [(hS 10 rfl).2]; rfl⟩) (show ty L cl (sk 13) 13 from ⟨(hS 13 rfl).1, by rw [(hS 13 rfl).2]; rfl⟩) (show ty L cl (sk 14) 14 from ⟨(hS 14 rfl).1, by rw [(hS 14 rfl).2]; rfl⟩) (show ty L cl (sk 15) 15 from ⟨(hS 15 rfl).1, by rw [(hS 15 rfl).2]; rfl⟩) (show ty L cl (sk 16) 16 from ⟨(hS 16 rfl).1, by rw [(hS 16 rfl).2]; rfl⟩) (show ty L cl (sk 17) 17 from ⟨(hS 17 rfl).1, by rw [(hS 17 rfl).2]; rfl⟩) (show ty L cl (sk 22) 22 from ⟨(hS 22 rfl).1, by rw [(hS 22 rfl).2]; rfl⟩) (show ty L cl (sk 23) 23 from ⟨(hS 23 rfl).1, by rw [(hS 23 rfl).2]; rfl⟩) (show ty L cl (sk 24) 24 from ⟨(hS 24 rfl).1, by rw [(hS 24 rfl).2]; rfl⟩) (show ty L cl (sk 25) 25 from ⟨(hS 25 rfl).1, by rw [(hS 25 rfl).2]; rfl⟩) (show XT L cl ln L cl ln from XT.refl) (show fT [1] L cl iv rv iv rv from fT.refl) (fun hph tsk2 tsk3 tsk4 tsk5 tsk6 tsk7 tsk8 tsk9 tsk10 tsk13 tsk14 tsk15 tsk16 tsk17 tsk22 tsk23 tsk24 tsk25 hX0 hF0 => ?_)
  refine c_aload_n (j := 0) (x := a0) C dX11_reading_0 rfl ?_
  obtain ⟨rb1, rq1, trb1⟩ := hW.ref t_a0 8 rfl rfl rfl
  have erb1 := hW.sk trb1 (by decide) rfl
  subst erb1
  refine c_getr (k := 8) C ck_12 dX11_reading_1 w2_52 (by decide) t_a0 rfl rfl (by decide) rfl rq1 ?_
  refine c_st (st2 := [.ref (sk 17)]) rfl ?_
  refine c_iload_n (j := 1) C dX11_reading_4 rfl ?_
  refine c_iload_n (j := 2) C dX11_reading_5 rfl ?_
  refine d_callV (As := [.int (iI i), .int (iI j)]) (rest := []) C hM (C_byteOf (a0 := (sk 17)) (i := i) (j := j) hW hS tsk17 (by omega) (by omega) ) dX11_reading_6 kV_X11_364 rfl tsk17 rfl rfl (by decide) ck_5 rfl (Nat.le_of_ble_eq_true rfl) ⟨(Nat.le_of_ble_eq_true rfl), (Nat.le_of_ble_eq_true rfl)⟩ hph hph (show 0 + 0 = 0 from rfl) (by decide) (fun rh1 Lh1 clh1 lnh1 ivh1 rvh1 h1 => ?_)
  obtain ⟨f1, rfl, rfl, rfl, rfl, rfl, rfl, rgf1, exf1⟩ := h1
  refine c_st (st2 := [.int (iI f1)]) rfl ?_
  refine c_istore_n (lv2 := [(3, .int (iI f1)), (0, .ref a0), (1, .int (iI i)), (2, .int (iI j))]) C dX11_reading_9 (by decide) rfl ?_
  refine c_iload_n (j := 0) C dX11_reading_10 rfl ?_
  refine c_if_ge (tgt := 22) C ⟨by omega, by omega⟩ dX11_reading_11 (by decide) (fun c1 => ?_) (fun c1 => ?_)
  · refine c_aload_n (j := 1) (x := a0) C dX11_reading_22 rfl ?_
    refine c_iload_n (j := 0) C dX11_reading_23 rfl ?_
    refine d_callV (As := [.int (iI f1)]) (rest := []) C hM (C_done (a0 := a0) (x := f1) hW hS t_a0 (by omega) ) dX11_reading_24 kV_X11_109 rfl t_a0 rfl rfl (by decide) ck_12 rfl (Nat.le_of_ble_eq_true rfl) ⟨(Nat.le_of_ble_eq_true rfl), (Nat.le_of_ble_eq_true rfl)⟩ hph hph (show 0 + 0 = 0 from rfl) (by decide) (fun rh2 Lh2 clh2 lnh2 ivh2 rvh2 h2 => ?_)
    obtain ⟨f2, rfl, rfl, rfl, rfl, rfl, fl2, W2, rgf2, exf2, kp11f2, kp12f2, kp13f2, kp14f2, kp15f2, kp16f2⟩ := h2
    refine hv7 (show 1 ≤ iv a0 11 ∧ iv a0 11 ≤ 100 from hW.int t_a0 11) (show 1 ≤ iv a0 12 ∧ iv a0 12 ≤ 50 from hW.int t_a0 12) (show (-2147483648) ≤ iv a0 13 ∧ iv a0 13 ≤ 2147483647 from hW.int t_a0 13) (show (-2147483648) ≤ iv a0 14 ∧ iv a0 14 ≤ 2147483647 from hW.int t_a0 14) (show (-2147483648) ≤ iv a0 15 ∧ iv a0 15 ≤ 2147483647 from hW.int t_a0 15) (show (-2147483648) ≤ iv a0 16 ∧ iv a0 16 ≤ 2147483647 from hW.int t_a0 16) (hF0.call hX0 fl2 rfl) (fun ri1 ri2 ri3 ri4 ri5 ri6 F1 => ?_)
    refine c_st (st2 := [.int (iI f2)]) rfl ?_
    refine hv13 (show ivh2 a0 11 = iv a0 11 from kp11f2) (show ivh2 a0 12 = iv a0 12 from kp12f2) (show ivh2 a0 13 = iv a0 13 from kp13f2) (show ivh2 a0 14 = iv a0 14 from kp14f2) (show ivh2 a0 15 = iv a0 15 from kp15f2) (show ivh2 a0 16 = iv a0 16 from kp16f2) (show f2 = f1 from exf2) (show 1 ≤ ivh2 a0 11 ∧ ivh2 a0 11 ≤ 100 from W2.int t_a0 11) (show 1 ≤ ivh2 a0 12 ∧ ivh2 a0 12 ≤ 50 from W2.int t_a0 12) (show (-2147483648) ≤ ivh2 a0 13 ∧ ivh2 a0 13 ≤ 2147483647 from W2.int t_a0 13) (show (-2147483648) ≤ ivh2 a0 14 ∧ ivh2 a0 14 ≤ 2147483647 from W2.int t_a0 14) (show (-2147483648) ≤ ivh2 a0 15 ∧ ivh2 a0 15 ≤ 2147483647 from W2.int t_a0 15) (show (-2147483648) ≤ ivh2 a0 16 ∧ ivh2 a0 16 ≤ 2147483647 from W2.int t_a0 16) (fun gk11f2 gk12f2 gk13f2 gk14f2 gk15f2 gk16f2 gf2 ri7 ri8 ri9 ri10 ri11 ri12 => ?_)
    exact c_iret C dX11_reading_27 rfl (by decide) (rom0 hph hph (by decide)) ⟨f2, rfl, rfl, rfl, rfl, rfl, F1, W2, ⟨by omega, by omega⟩, trivial, gk11f2, gk12f2, gk13f2, gk14f2, gk15f2, gk16f2⟩
  · refine c_aload_n (j := 1) (x := a0) C dX11_reading_14 rfl ?_
    refine c_iconst C dX11_reading_15 ?_
    refine d_callV (As := [.int (iI 2)]) (rest := []) C hM (C_refuse (a0 := a0) (x := 2) hW hS t_a0 ⟨by decide, by decide⟩ ) dX11_reading_16 kV_X11_102 rfl t_a0 rfl rfl (by decide) ck_12 rfl (Nat.le_of_ble_eq_true rfl) ⟨(Nat.le_of_ble_eq_true rfl), (Nat.le_of_ble_eq_true rfl)⟩ hph hph (show 0 + 0 = 0 from rfl) (by decide) (fun rh3 Lh3 clh3 lnh3 ivh3 rvh3 h3 => ?_)
    obtain ⟨f3, rfl, rfl, rfl, rfl, rfl, fl3, W3, rgf3, exf3, kp11f3, kp12f3, kp13f3, kp14f3, kp15f3, kp16f3⟩ := h3
    refine hv7 (show 1 ≤ iv a0 11 ∧ iv a0 11 ≤ 100 from hW.int t_a0 11) (show 1 ≤ iv a0 12 ∧ iv a0 12 ≤ 50 from hW.int t_a0 12) (show (-2147483648) ≤ iv a0 13 ∧ iv a0 13 ≤ 2147483647 from hW.int t_a0 13) (show (-2147483648) ≤ iv a0 14 ∧ iv a0 14 ≤ 2147483647 from hW.int t_a0 14) (show (-2147483648) ≤ iv a0 15 ∧ iv a0 15 ≤ 2147483647 from hW.int t_a0 15) (show (-2147483648) ≤ iv a0 16 ∧ iv a0 16 ≤ 2147483647 from hW.int t_a0 16) (hF0.call hX0 fl3 rfl) (fun ri13 ri14 ri15 ri16 ri17 ri18 F2 => ?_)
    refine c_st (st2 := [.int (iI f3)]) rfl ?_
    refine hv7 (show ivh3 a0 11 = iv a0 11 from kp11f3) (show ivh3 a0 12 = iv a0 12 from kp12f3) (show ivh3 a0 13 = iv a0 13 from kp13f3) (show ivh3 a0 14 = iv a0 14 from kp14f3) (show ivh3 a0 15 = iv a0 15 from kp15f3) (show ivh3 a0 16 = iv a0 16 from kp16f3) (show f3 = -1 from exf3) (fun gk11f3 gk12f3 gk13f3 gk14f3 gk15f3 gk16f3 gf3 => ?_)
    refine c_goto (tgt := 27) C dX11_reading_19 (by decide) ?_
    refine hv6 (show 1 ≤ ivh3 a0 11 ∧ ivh3 a0 11 ≤ 100 from W3.int t_a0 11) (show 1 ≤ ivh3 a0 12 ∧ ivh3 a0 12 ≤ 50 from W3.int t_a0 12) (show (-2147483648) ≤ ivh3 a0 13 ∧ ivh3 a0 13 ≤ 2147483647 from W3.int t_a0 13) (show (-2147483648) ≤ ivh3 a0 14 ∧ ivh3 a0 14 ≤ 2147483647 from W3.int t_a0 14) (show (-2147483648) ≤ ivh3 a0 15 ∧ ivh3 a0 15 ≤ 2147483647 from W3.int t_a0 15) (show (-2147483648) ≤ ivh3 a0 16 ∧ ivh3 a0 16 ≤ 2147483647 from W3.int t_a0 16) (fun ri19 ri20 ri21 ri22 ri23 ri24 => ?_)
    exact c_iret C dX11_reading_27 rfl (by decide) (rom0 hph hph (by decide)) ⟨f3, rfl, rfl, rfl, rfl, rfl, F2, W3, ⟨by omega, by omega⟩, trivial, gk11f3, gk12f3, gk13f3, gk14f3, gk15f3, gk16f3⟩
end
section
def NW (cs : List Nat) (L L2 : List Nat) (cl2 : Nat → Nat) : Prop := ∀ a ∈ L2, a ∈ L ∨ cs.contains (cl2 a) = true
section NWS
variable {g : Nat} {sk : Nat → Nat} {L L2 L3 : List Nat} {cl ln cl2 ln2 cl3 ln3 : Nat → Nat} {iv : Nat → Nat → Int} {rv : Nat → Nat → Option Nat} {q t : Nat} {cs cs2 : List Nat}
theorem NW.refl : NW [] L L cl := fun _ h => Or.inl h
theorem mem_c {x : Nat} (h : cs.contains x = true) : (t :: cs).contains x = true := by rw [List.contains_cons, h, Bool.or_true]
theorem NW.new (h : NW cs L L2 cl2) (hX : XT L2 cl2 ln2 (L2 ++ [q]) cl3 ln3) (hc : cl3 = va_up cl2 q t) : NW (t :: cs) L (L2 ++ [q]) cl3 := by
  intro a ha
  rcases List.mem_append.mp ha with h1 | h1
  · rcases h a h1 with w | w
    · exact Or.inl w
    · exact Or.inr (by rw [(hX a h1).2.1]; exact mem_c w)
  · rw [List.mem_singleton] at h1
    subst h1
    exact Or.inr (by rw [hc, va_up_self, List.contains_cons, beq_self_eq_true, Bool.true_or])
theorem NW.rt (h : NW cs L L2 cl2) (hc : cl3 = va_up cl2 q t) : NW (t :: cs) L L2 cl3 := by
  intro a ha
  by_cases e : a = q
  · subst e; exact Or.inr (by rw [hc, va_up_self, List.contains_cons, beq_self_eq_true, Bool.true_or])
  · rcases h a ha with w | w
    · exact Or.inl w
    · exact Or.inr (by rw [hc, va_up_ne _ _ e]; exact mem_c w)
theorem NW.call (h : NW cs L L2 cl2) (hX : XT L2 cl2 ln2 L3 cl3 ln3) (h2 : NW cs2 L2 L3 cl3) : NW (cs2 ++ cs) L L3 cl3 := by
  intro a ha
  rcases h2 a ha with w | w
  · rcases h a w with v | v
    · exact Or.inl v
    · exact Or.inr (by rw [(hX a w).2.1]; exact List.contains_iff_mem.mpr (List.mem_append_right _ (List.contains_iff_mem.mp v)))
  · exact Or.inr (List.contains_iff_mem.mpr (List.mem_append_left _ (List.contains_iff_mem.mp w)))
theorem NW.sub (h : NW cs L L2 cl2) (hs : cs.all (fun t => cs2.contains t) = true) : NW cs2 L L2 cl2 := by
  intro a ha
  rcases h a ha with w | w
  · exact Or.inl w
  · exact Or.inr (List.all_eq_true.mp hs _ (List.contains_iff_mem.mp w))
theorem NW.no (h : NW cs L L2 cl2) (hX : XT L cl ln L2 cl2 ln2) (h0 : ∀ a ∈ L, cl a ≠ t) (hc : cs.contains t = false) : ∀ a ∈ L2, cl2 a ≠ t := by
  intro a ha e
  rcases h a ha with w | w
  · exact h0 a w ((hX a w).2.1.symm.trans e)
  · rw [e, hc] at w; cases w
theorem NW.nos {P : Nat → Bool} {B : List Nat} (h : NW cs L L2 cl2) (hX : XT L cl ln L2 cl2 ln2) (h0 : ∀ t, P t = true → ∀ a ∈ L, cl a ≠ t) (hc : B.all (fun t => P t && !cs.contains t) = true) : ∀ t, B.contains t = true → ∀ a ∈ L2, cl2 a ≠ t := by
  intro t ht
  have q := List.all_eq_true.mp hc t (List.contains_iff_mem.mp ht)
  simp only [Bool.and_eq_true, Bool.not_eq_true'] at q
  exact NW.no h hX (h0 t q.1) q.2
theorem WT.retagU (h : WT g sk L cl ln iv rv) (hq : q ∈ L) (hraw : raw (bt (cl q)) = true) (hcl : cl2 = va_up cl q t) (hb : ∀ k, ilo (bt t) k ≤ iv q k ∧ iv q k ≤ ihi (bt t) k) (hr : ∀ k, rok L cl2 g q k (rv q k)) (ha : arr (bt t) = true → llo (bt t) ≤ ln q ∧ ln q ≤ lhi (bt t)) (hs : szd (bt t) = true → ∀ b, rv q 1 = some b → (b = g ∧ iv q 2 = 0) ∨ (b ∈ L ∧ iv q 2 ≤ ((ln b : Nat) : Int))) (hl : lst (bt t) = true → ∀ b, rv q 1 = some b → ∀ i : Nat, (i : Int) < iv q 2 → rv b i ≠ none) (hno : ∀ a ∈ L, cl a ≠ t) : WT g (va_up sk t q) L cl2 ln iv rv := by
  subst hcl
  have ho : ∀ w, w ≠ q → va_up cl q t w = cl w := fun w hw => va_up_ne _ _ hw
  obtain ⟨h1, h2, h3, h4, h5, h6, h7⟩ := id h
  have tg0 : ∀ T k, raw (tgt T k) = false := by
    intro T k
    unfold tgt raw
    split <;> (try split) <;> rfl
  refine ⟨fun w hw j => ?_, fun w hw j => ?_, fun w hw => ?_, fun w hw => ?_, fun w hw => ?_, fun w hw => ?_, h7⟩
  · by_cases e : w = q
    · subst e; rw [va_up_self]; exact hb j
    · rw [ho w e]; exact h1 w hw j
  · by_cases e : w = q
    · subst e; exact hr j
    · intro hrw
      rw [ho w e] at hrw ⊢
      obtain ⟨g1, g2⟩ := h2 w hw j hrw
      refine ⟨g1, fun b hb => ?_⟩
      rcases g2 b hb with c1 | c1
      · have hbq : b ≠ q := fun e2 => by rw [← e2, c1.2.1, tg0] at hraw; cases hraw
        refine Or.inl ⟨c1.1, by rw [ho b hbq]; exact c1.2.1, ?_, ?_⟩
        · rw [ho w e, ho b hbq]; exact c1.2.2.1
        · rw [ho w e, ho b hbq]; exact c1.2.2.2
      · exact Or.inr c1
  · by_cases e : w = q
    · subst e; rw [va_up_self]; exact ha
    · rw [ho w e]; exact h3 w hw
  · by_cases e : w = q
    · subst e; rw [va_up_self]; exact hs
    · rw [ho w e]; exact h4 w hw
  · by_cases e : w = q
    · subst e; rw [va_up_self]; exact hl
    · rw [ho w e]; exact h5 w hw
  · by_cases e : w = q
    · subst e; rw [va_up_self]; intro _; exact (va_up_self _ _ _).symm
    · rw [ho w e]; intro z; rw [va_up_ne _ _ (hno w hw)]; exact h6 w hw z
end NWS
end
section
set_option maxHeartbeats 4000000 in
set_option maxRecDepth 100000 in
theorem Y_acoll {l : Launch} {G : GT} {mi : Nat} {sk : Nat → Nat} {L : List Nat} {cl ln : Nat → Nat} {iv : Nat → Nat → Int} {rv : Nat → Nat → Option Nat}  {a0 : Nat} (hW : WT (g0 G) sk L cl ln iv rv) (t_a0 : ty L cl a0 200)  : Mc l G mi zPf 0 yJxa1e45_init_da8c8 cJxa1e45_init_da8c8 1 none 1 [.ref a0] L cl ln iv rv 0 (fun v L2 cl2 ln2 iv2 rv2 => v = none ∧ L = L2 ∧ cl = cl2 ∧ ln = ln2 ∧ iv = iv2 ∧ rv = rv2 ∧ (True)) := by
  refine Mc.mk (by decide) (Nat.le_of_ble_eq_true rfl) ?_
  intro p e s m args below meth c A C hM
  refine hv4 ((show zPf ln rv ≤ 0 from Nat.le_refl 0)) (show NW [] L L cl from NW.refl) (show XT L cl ln L cl ln from XT.refl) (show fT [] L cl iv rv iv rv from fT.refl) (fun hph nw0 hX0 hF0 => ?_)
  refine c_aload_n (j := 0) (x := a0) C dJxa1e45_init_da8c8_0 rfl ?_
  refine c_objInit C dJxa1e45_init_da8c8_1 w1_75 w1_30 w1_31 (by decide) (Nat.le_of_ble_eq_true rfl) ?_
  exact c_vret C dJxa1e45_init_da8c8_4 rfl (by decide) (rom0 hph hph (by decide)) ⟨rfl, rfl, rfl, rfl, rfl, rfl, trivial⟩
set_option maxHeartbeats 4000000 in
set_option maxRecDepth 100000 in
theorem Y_alist {l : Launch} {G : GT} {mi : Nat} {sk : Nat → Nat} {L : List Nat} {cl ln : Nat → Nat} {iv : Nat → Nat → Int} {rv : Nat → Nat → Option Nat}  {a0 : Nat} (hW : WT (g0 G) sk L cl ln iv rv) (t_a0 : ty L cl a0 200)  : Mc l G mi zPf 0 yJxc12de_init_da8c8 cJxc12de_init_da8c8 1 none 2 [.ref a0] L cl ln iv rv 0 (fun v L2 cl2 ln2 iv2 rv2 => v = none ∧ L = L2 ∧ cl = cl2 ∧ ln = ln2 ∧ rv = rv2 ∧ fT [200] L cl iv rv iv2 rv2 ∧ WT (g0 G) sk L2 cl2 ln2 iv2 rv2 ∧ (iv2 a0 2 = iv a0 2)) := by
  refine Mc.mk (by decide) (Nat.le_of_ble_eq_true rfl) ?_
  intro p e s m args below meth c A C hM
  refine hv4 ((show zPf ln rv ≤ 0 from Nat.le_refl 0)) (show NW [] L L cl from NW.refl) (show XT L cl ln L cl ln from XT.refl) (show fT [200] L cl iv rv iv rv from fT.refl) (fun hph nw0 hX0 hF0 => ?_)
  refine c_aload_n (j := 0) (x := a0) C dJxc12de_init_da8c8_0 rfl ?_
  refine c_callI (As := []) (rest := []) C hM (Y_acoll (a0 := a0) hW  t_a0  ) dJxc12de_init_da8c8_1 kI_Jxc12de_1 rfl rfl (Nat.le_of_ble_eq_true rfl) ⟨(Nat.le_of_ble_eq_true rfl), (Nat.le_of_ble_eq_true rfl)⟩ (rz0 hph (by decide)) (fun rh1 Lh1 clh1 lnh1 ivh1 rvh1 h1 => ⟨0, zk0, ?_⟩)
  obtain ⟨rfl, rfl, rfl, rfl, rfl, rfl, exf1⟩ := h1
  refine c_st (st2 := []) rfl ?_
  refine c_aload_n (j := 0) (x := a0) C dJxc12de_init_da8c8_4 rfl ?_
  refine c_iconst C dJxc12de_init_da8c8_5 ?_
  refine c_put (z := 0) (k := 0) C ck_0 dJxc12de_init_da8c8_6 w1_80 (by decide) rfl t_a0 rfl rfl (by decide) rfl (by rfl) (by rfl) (fun iv1 pq1 => ?_)
  refine hv3 (hW.puti pq1 t_a0 ⟨by decide, by decide⟩ rfl) (hF0.puti hX0 pq1 t_a0 rfl) (show iv1 a0 2 = iv a0 2 from by rw [pq1]; exact up2_j (by decide)) (fun W2 F1 ie1 => ?_)
  have ri1 : (-2147483648) ≤ iv1 a0 2 ∧ iv1 a0 2 ≤ 2147483647 := W2.int t_a0 2
  exact c_vret C dJxc12de_init_da8c8_9 rfl (by decide) (rom0 hph hph (by decide)) ⟨rfl, rfl, rfl, rfl, rfl, F1, W2, (by omega)⟩
set_option maxHeartbeats 4000000 in
set_option maxRecDepth 100000 in
theorem Y_list {l : Launch} {G : GT} {mi : Nat} {sk : Nat → Nat} {L : List Nat} {cl ln : Nat → Nat} {iv : Nat → Nat → Int} {rv : Nat → Nat → Option Nat}  {a0 : Nat} (hW : WT (g0 G) sk L cl ln iv rv) (t_a0 : ty L cl a0 200)  : Mc l G mi zPf 0 yJx4a65c_init_da8c8 cJx4a65c_init_da8c8 1 none 3 [.ref a0] L cl ln iv rv 0 (fun v L2 cl2 ln2 iv2 rv2 => v = none ∧ L = L2 ∧ cl = cl2 ∧ ln = ln2 ∧ fT [200] L cl iv rv iv2 rv2 ∧ WT (g0 G) sk L2 cl2 ln2 iv2 rv2 ∧ (rv2 a0 1 = some (g0 G) ∧ iv2 a0 2 = iv a0 2 ∧ (∀ k, ([1] : List Nat).contains k = false → rv2 a0 k = rv a0 k))) := by
  refine Mc.mk (by decide) (Nat.le_of_ble_eq_true rfl) ?_
  intro p e s m args below meth c A C hM
  refine hv4 ((show zPf ln rv ≤ 0 from Nat.le_refl 0)) (show NW [] L L cl from NW.refl) (show XT L cl ln L cl ln from XT.refl) (show fT [200] L cl iv rv iv rv from fT.refl) (fun hph nw0 hX0 hF0 => ?_)
  refine c_aload_n (j := 0) (x := a0) C dJx4a65c_init_da8c8_0 rfl ?_
  have ri1 : (-2147483648) ≤ iv a0 2 ∧ iv a0 2 ≤ 2147483647 := hW.int t_a0 2
  refine c_callI (As := []) (rest := []) C hM (Y_alist (a0 := a0) hW  t_a0  ) dJx4a65c_init_da8c8_1 kI_Jx4a65c_1 rfl rfl (Nat.le_of_ble_eq_true rfl) ⟨(Nat.le_of_ble_eq_true rfl), (Nat.le_of_ble_eq_true rfl)⟩ (rz0 hph (by decide)) (fun rh1 Lh1 clh1 lnh1 ivh1 rvh1 h1 => ⟨0, zk0, ?_⟩)
  obtain ⟨rfl, rfl, rfl, rfl, rfl, fl1, W1, exf1⟩ := h1
  have F1 := hF0.call hX0 fl1 rfl
  refine c_st (st2 := []) rfl ?_
  refine hv2 (show (-2147483648) ≤ ivh1 a0 2 ∧ ivh1 a0 2 ≤ 2147483647 from W1.int t_a0 2) (show ivh1 a0 2 = iv a0 2 from exf1) (fun ri2 gf1 => ?_)
  refine c_aload_n (j := 0) (x := a0) C dJx4a65c_init_da8c8_4 rfl ?_
  refine c_gets C dJx4a65c_init_da8c8_5 w1_76 ?_
  refine c_putr (x := (some (g0 G))) (k := 1) C ck_0 dJx4a65c_init_da8c8_8 w1_78 (by decide) rfl t_a0 rfl rfl (by decide) rfl (by rfl) (by rfl) (fun rv1 pq1 => ⟨0, (zp2 (Nat.le_refl _)), ?_⟩)
  refine hv4 (W1.putr pq1 t_a0 (fun qr => by rw [t_a0.2] at qr; cases qr) rfl (by decide)) (F1.putr hX0 pq1 t_a0 rfl) (show rv1 a0 1 = (some (g0 G)) from by rw [pq1]; exact upr_s) (show ∀ k, ([1] : List Nat).contains k = false → rv1 a0 k = rv a0 k from fun k hk => (show rv1 a0 k = rv a0 k from (by rw [pq1]; exact upr_j (fun e => by subst e; exact absurd hk (by decide))))) (fun W2 F2 rp1 rn1 => ?_)
  exact c_vret C dJx4a65c_init_da8c8_11 rfl (by decide) (rom0 hph (Nat.le_refl 0) (by decide)) ⟨rfl, rfl, rfl, rfl, F2, W2, ⟨rp1, (by omega), rn1⟩⟩
set_option maxHeartbeats 4000000 in
set_option maxRecDepth 100000 in
theorem Y_ints_2 {l : Launch} {G : GT} {mi : Nat} {sk : Nat → Nat} {L : List Nat} {cl ln : Nat → Nat} {iv : Nat → Nat → Int} {rv : Nat → Nat → Option Nat}  {a0 : Nat} {i : Int} (hW : WT (g0 G) sk L cl ln iv rv) (t_a0 : ty L cl a0 202) (h_i : -2147483648 ≤ i ∧ i ≤ 2147483647)  : Mc l G mi zPf 0 yX1_init cX1_init 2 none 1 [.ref a0, .int (iI i)] L cl ln iv rv 32 (fun v L2 cl2 ln2 iv2 rv2 => v = none ∧ XT L cl ln L2 cl2 ln2 ∧ fT [202] L cl iv rv iv2 rv2 ∧ WT (g0 G) sk L2 cl2 ln2 iv2 rv2 ∧ (∃ b, (∀ k, ([1] : List Nat).contains k = false → rv2 a0 k = rv a0 k) ∧ rv2 a0 1 = some b ∧ ty L2 cl2 b 32 ∧ ln2 b = 16 ∧ iv2 a0 0 = i ∧ iv2 a0 2 = 0) ∧ NW [32] L L2 cl2) := by
  refine Mc.mk (by decide) (Nat.le_of_ble_eq_true rfl) ?_
  intro p e s m args below meth c A C hM
  refine hv4 ((show zPf ln rv ≤ 0 from Nat.le_refl 0)) (show NW [] L L cl from NW.refl) (show XT L cl ln L cl ln from XT.refl) (show fT [202] L cl iv rv iv rv from fT.refl) (fun hph nw0 hX0 hF0 => ?_)
  refine c_aload_n (j := 0) (x := a0) C dX1_init_0 rfl ?_
  refine c_objInit C dX1_init_1 w1_37 w1_30 w1_31 (by decide) (Nat.le_of_ble_eq_true rfl) ?_
  refine c_aload_n (j := 0) (x := a0) C dX1_init_4 rfl ?_
  refine c_iconst C dX1_init_5 ?_
  refine c_put (z := 0) (k := 2) C ck_2 dX1_init_6 w1_43 (by decide) rfl t_a0 rfl rfl (by decide) rfl (by rfl) (by rfl) (fun iv1 pq1 => ?_)
  refine hv2 (hW.puti pq1 t_a0 ⟨by decide, by decide⟩ rfl) (hF0.puti hX0 pq1 t_a0 rfl) (fun W1 F1 => ?_)
  refine c_aload_n (j := 0) (x := a0) C dX1_init_9 rfl ?_
  refine c_iload_n (j := 1) C dX1_init_10 rfl ?_
  refine c_putF (z := i) (k := 0) C ck_2 dX1_init_11 w1_38 (by decide) rfl rfl rfl t_a0 rfl rfl (by decide) rfl (by rfl) (by rfl) (fun iv2 pq2 => ?_)
  refine hv2 (W1.puti pq2 t_a0 (show (-2147483648) ≤ i ∧ i ≤ 2147483647 by omega) rfl) (F1.puti hX0 pq2 t_a0 rfl) (fun W2 F2 => ?_)
  refine c_aload_n (j := 0) (x := a0) C dX1_init_14 rfl ?_
  refine c_bipush (z := 16) C dX1_init_15 (by decide) ?_
  refine c_newaI (z := 16) (N := 16) C 32 dX1_init_17 w1_57 rfl (by omega) (by omega) (rom2 hph hph (by decide)) (fun qn1 cln1 lnn1 ivn1 rvn1 hqn1 hcn1 hln1 hin1 hrn1 => ⟨32, (z_in (by omega)), ?_⟩)
  refine c_g0 C (fun hg1 => ?_)
  refine hv5 (show ∀ b, b ≠ qn1 → lnn1 b = ln b from (fun b hb => by rw [hln1]; exact va_up_ne _ _ hb)) (show lnn1 qn1 = 16 from by rw [hln1]; exact va_up_self _ _ _) (F2.new hX0 hqn1 hin1 hrn1) (show ty (L ++ [qn1]) cln1 qn1 32 from ty_new hcn1) (show qn1 ∉ L from fun h => hqn1 ((hX0 qn1 h).1)) (fun hxn1 lqn1 F3 tqn1 h0qn1 => ?_)
  refine hv2 (W2.new (ln2 := lnn1) hqn1 (hg1 qn1 (List.mem_append_right _ List.mem_cons_self)) hcn1 hxn1 hin1 hrn1 (fun _ => ⟨(show (-2147483648 : Int) ≤ 0 by decide), (show (0 : Int) ≤ 2147483647 by decide)⟩) (Or.inr (fun _ => rfl)) (fun _ => by show 16 ≤ lnn1 qn1 ∧ lnn1 qn1 ≤ 6000; omega) rfl rfl) (XT.new hqn1 hcn1 hxn1) (fun W3 xl1 => ?_)
  refine hv3 (hX0.trans xl1) (nw0.new xl1 hcn1) (xl1.ty t_a0) (fun X1 nw1 ty1 => ?_)
  refine c_putr (x := (some qn1)) (k := 1) C ck_2 dX1_init_19 w1_39 (by decide) rfl ty1 rfl rfl (by decide) rfl (by rfl) (by rfl) (fun rv1 pq3 => ⟨32, (zp2 (Nat.le_refl _)), ?_⟩)
  refine hv9 (W3.putr pq3 ty1 (fun qr => by rw [ty1.2] at qr; cases qr) rfl (by decide)) (F3.putr X1 pq3 ty1 rfl) (show rv1 a0 1 = (some qn1) from by rw [pq3]; exact upr_s) (show ∀ k, ([1] : List Nat).contains k = false → rv1 a0 k = rv a0 k from fun k hk => (Eq.trans (show rv1 a0 k = rvn1 a0 k from (by rw [pq3]; exact upr_j (fun e => by subst e; exact absurd hk (by decide)))) (show rvn1 a0 k = rv a0 k from (by rw [hrn1]; exact congrFun (up0_a (ne_in t_a0.1 hqn1)) _)))) (show ivn1 a0 0 = iv2 a0 0 from by rw [hin1]; exact congrFun (up0_a (ne_in t_a0.1 hqn1)) _) (show iv2 a0 0 = i from by rw [pq2]; exact up2_s) (show ivn1 a0 2 = iv2 a0 2 from by rw [hin1]; exact congrFun (up0_a (ne_in t_a0.1 hqn1)) _) (show iv2 a0 2 = iv1 a0 2 from by rw [pq2]; exact up2_j (by decide)) (show iv1 a0 2 = 0 from by rw [pq1]; exact up2_s) (fun W4 F4 rp1 rn1 ie1 ie2 ie3 ie4 ie5 => ?_)
  refine hv2 (show (-2147483648) ≤ ivn1 a0 0 ∧ ivn1 a0 0 ≤ 2147483647 from W4.int ty1 0) (show (-2147483648) ≤ ivn1 a0 2 ∧ ivn1 a0 2 ≤ 2147483647 from W4.int ty1 2) (fun ri1 ri2 => ?_)
  exact c_vret C dX1_init_22 rfl (by decide) (rom0 hph (Nat.le_refl 0) (by decide)) ⟨rfl, X1, F4, W4, ⟨qn1, rn1, rp1, tqn1, (by omega), (by omega), (by omega)⟩, nw1.sub (by decide)⟩
set_option maxHeartbeats 4000000 in
set_option maxRecDepth 100000 in
theorem Y_ints_3 {l : Launch} {G : GT} {mi : Nat} {sk : Nat → Nat} {L : List Nat} {cl ln : Nat → Nat} {iv : Nat → Nat → Int} {rv : Nat → Nat → Option Nat}  {a0 : Nat} {i : Int} (hW : WT (g0 G) sk L cl ln iv rv) (t_a0 : ty L cl a0 202) (h_i : -2147483648 ≤ i ∧ i ≤ 2147483647)  : Mc l G mi zPf 0 yX1_init cX1_init 2 none 1 [.ref a0, .int (iI i)] L cl ln iv rv 32 (fun v L2 cl2 ln2 iv2 rv2 => v = none ∧ XT L cl ln L2 cl2 ln2 ∧ fT [202] L cl iv rv iv2 rv2 ∧ WT (g0 G) sk L2 cl2 ln2 iv2 rv2 ∧ (∃ b, (∀ k, ([1] : List Nat).contains k = false → rv2 a0 k = rv a0 k) ∧ rv2 a0 1 = some b ∧ ty L2 cl2 b 33 ∧ ln2 b = 16 ∧ iv2 a0 0 = i ∧ iv2 a0 2 = 0) ∧ NW [33] L L2 cl2) := by
  refine Mc.mk (by decide) (Nat.le_of_ble_eq_true rfl) ?_
  intro p e s m args below meth c A C hM
  refine hv4 ((show zPf ln rv ≤ 0 from Nat.le_refl 0)) (show NW [] L L cl from NW.refl) (show XT L cl ln L cl ln from XT.refl) (show fT [202] L cl iv rv iv rv from fT.refl) (fun hph nw0 hX0 hF0 => ?_)
  refine c_aload_n (j := 0) (x := a0) C dX1_init_0 rfl ?_
  refine c_objInit C dX1_init_1 w1_37 w1_30 w1_31 (by decide) (Nat.le_of_ble_eq_true rfl) ?_
  refine c_aload_n (j := 0) (x := a0) C dX1_init_4 rfl ?_
  refine c_iconst C dX1_init_5 ?_
  refine c_put (z := 0) (k := 2) C ck_2 dX1_init_6 w1_43 (by decide) rfl t_a0 rfl rfl (by decide) rfl (by rfl) (by rfl) (fun iv1 pq1 => ?_)
  refine hv2 (hW.puti pq1 t_a0 ⟨by decide, by decide⟩ rfl) (hF0.puti hX0 pq1 t_a0 rfl) (fun W1 F1 => ?_)
  refine c_aload_n (j := 0) (x := a0) C dX1_init_9 rfl ?_
  refine c_iload_n (j := 1) C dX1_init_10 rfl ?_
  refine c_putF (z := i) (k := 0) C ck_2 dX1_init_11 w1_38 (by decide) rfl rfl rfl t_a0 rfl rfl (by decide) rfl (by rfl) (by rfl) (fun iv2 pq2 => ?_)
  refine hv2 (W1.puti pq2 t_a0 (show (-2147483648) ≤ i ∧ i ≤ 2147483647 by omega) rfl) (F1.puti hX0 pq2 t_a0 rfl) (fun W2 F2 => ?_)
  refine c_aload_n (j := 0) (x := a0) C dX1_init_14 rfl ?_
  refine c_bipush (z := 16) C dX1_init_15 (by decide) ?_
  refine c_newaI (z := 16) (N := 16) C 33 dX1_init_17 w1_57 rfl (by omega) (by omega) (rom2 hph hph (by decide)) (fun qn1 cln1 lnn1 ivn1 rvn1 hqn1 hcn1 hln1 hin1 hrn1 => ⟨32, (z_in (by omega)), ?_⟩)
  refine c_g0 C (fun hg1 => ?_)
  refine hv5 (show ∀ b, b ≠ qn1 → lnn1 b = ln b from (fun b hb => by rw [hln1]; exact va_up_ne _ _ hb)) (show lnn1 qn1 = 16 from by rw [hln1]; exact va_up_self _ _ _) (F2.new hX0 hqn1 hin1 hrn1) (show ty (L ++ [qn1]) cln1 qn1 33 from ty_new hcn1) (show qn1 ∉ L from fun h => hqn1 ((hX0 qn1 h).1)) (fun hxn1 lqn1 F3 tqn1 h0qn1 => ?_)
  refine hv2 (W2.new (ln2 := lnn1) hqn1 (hg1 qn1 (List.mem_append_right _ List.mem_cons_self)) hcn1 hxn1 hin1 hrn1 (fun _ => ⟨(show (-2147483648 : Int) ≤ 0 by decide), (show (0 : Int) ≤ 2147483647 by decide)⟩) (Or.inr (fun _ => rfl)) (fun _ => by show 16 ≤ lnn1 qn1 ∧ lnn1 qn1 ≤ 1000; omega) rfl rfl) (XT.new hqn1 hcn1 hxn1) (fun W3 xl1 => ?_)
  refine hv3 (hX0.trans xl1) (nw0.new xl1 hcn1) (xl1.ty t_a0) (fun X1 nw1 ty1 => ?_)
  refine c_putr (x := (some qn1)) (k := 1) C ck_2 dX1_init_19 w1_39 (by decide) rfl ty1 rfl rfl (by decide) rfl (by rfl) (by rfl) (fun rv1 pq3 => ⟨32, (zp2 (Nat.le_refl _)), ?_⟩)
  refine hv9 (W3.putr pq3 ty1 (fun qr => by rw [ty1.2] at qr; cases qr) rfl (by decide)) (F3.putr X1 pq3 ty1 rfl) (show rv1 a0 1 = (some qn1) from by rw [pq3]; exact upr_s) (show ∀ k, ([1] : List Nat).contains k = false → rv1 a0 k = rv a0 k from fun k hk => (Eq.trans (show rv1 a0 k = rvn1 a0 k from (by rw [pq3]; exact upr_j (fun e => by subst e; exact absurd hk (by decide)))) (show rvn1 a0 k = rv a0 k from (by rw [hrn1]; exact congrFun (up0_a (ne_in t_a0.1 hqn1)) _)))) (show ivn1 a0 0 = iv2 a0 0 from by rw [hin1]; exact congrFun (up0_a (ne_in t_a0.1 hqn1)) _) (show iv2 a0 0 = i from by rw [pq2]; exact up2_s) (show ivn1 a0 2 = iv2 a0 2 from by rw [hin1]; exact congrFun (up0_a (ne_in t_a0.1 hqn1)) _) (show iv2 a0 2 = iv1 a0 2 from by rw [pq2]; exact up2_j (by decide)) (show iv1 a0 2 = 0 from by rw [pq1]; exact up2_s) (fun W4 F4 rp1 rn1 ie1 ie2 ie3 ie4 ie5 => ?_)
  refine hv2 (show (-2147483648) ≤ ivn1 a0 0 ∧ ivn1 a0 0 ≤ 2147483647 from W4.int ty1 0) (show (-2147483648) ≤ ivn1 a0 2 ∧ ivn1 a0 2 ≤ 2147483647 from W4.int ty1 2) (fun ri1 ri2 => ?_)
  exact c_vret C dX1_init_22 rfl (by decide) (rom0 hph (Nat.le_refl 0) (by decide)) ⟨rfl, X1, F4, W4, ⟨qn1, rn1, rp1, tqn1, (by omega), (by omega), (by omega)⟩, nw1.sub (by decide)⟩
set_option maxHeartbeats 4000000 in
set_option maxRecDepth 100000 in
theorem Y_ints_4 {l : Launch} {G : GT} {mi : Nat} {sk : Nat → Nat} {L : List Nat} {cl ln : Nat → Nat} {iv : Nat → Nat → Int} {rv : Nat → Nat → Option Nat}  {a0 : Nat} {i : Int} (hW : WT (g0 G) sk L cl ln iv rv) (t_a0 : ty L cl a0 202) (h_i : -2147483648 ≤ i ∧ i ≤ 2147483647)  : Mc l G mi zPf 0 yX1_init cX1_init 2 none 1 [.ref a0, .int (iI i)] L cl ln iv rv 32 (fun v L2 cl2 ln2 iv2 rv2 => v = none ∧ XT L cl ln L2 cl2 ln2 ∧ fT [202] L cl iv rv iv2 rv2 ∧ WT (g0 G) sk L2 cl2 ln2 iv2 rv2 ∧ (∃ b, (∀ k, ([1] : List Nat).contains k = false → rv2 a0 k = rv a0 k) ∧ rv2 a0 1 = some b ∧ ty L2 cl2 b 34 ∧ ln2 b = 16 ∧ iv2 a0 0 = i ∧ iv2 a0 2 = 0) ∧ NW [34] L L2 cl2) := by
  refine Mc.mk (by decide) (Nat.le_of_ble_eq_true rfl) ?_
  intro p e s m args below meth c A C hM
  refine hv4 ((show zPf ln rv ≤ 0 from Nat.le_refl 0)) (show NW [] L L cl from NW.refl) (show XT L cl ln L cl ln from XT.refl) (show fT [202] L cl iv rv iv rv from fT.refl) (fun hph nw0 hX0 hF0 => ?_)
  refine c_aload_n (j := 0) (x := a0) C dX1_init_0 rfl ?_
  refine c_objInit C dX1_init_1 w1_37 w1_30 w1_31 (by decide) (Nat.le_of_ble_eq_true rfl) ?_
  refine c_aload_n (j := 0) (x := a0) C dX1_init_4 rfl ?_
  refine c_iconst C dX1_init_5 ?_
  refine c_put (z := 0) (k := 2) C ck_2 dX1_init_6 w1_43 (by decide) rfl t_a0 rfl rfl (by decide) rfl (by rfl) (by rfl) (fun iv1 pq1 => ?_)
  refine hv2 (hW.puti pq1 t_a0 ⟨by decide, by decide⟩ rfl) (hF0.puti hX0 pq1 t_a0 rfl) (fun W1 F1 => ?_)
  refine c_aload_n (j := 0) (x := a0) C dX1_init_9 rfl ?_
  refine c_iload_n (j := 1) C dX1_init_10 rfl ?_
  refine c_putF (z := i) (k := 0) C ck_2 dX1_init_11 w1_38 (by decide) rfl rfl rfl t_a0 rfl rfl (by decide) rfl (by rfl) (by rfl) (fun iv2 pq2 => ?_)
  refine hv2 (W1.puti pq2 t_a0 (show (-2147483648) ≤ i ∧ i ≤ 2147483647 by omega) rfl) (F1.puti hX0 pq2 t_a0 rfl) (fun W2 F2 => ?_)
  refine c_aload_n (j := 0) (x := a0) C dX1_init_14 rfl ?_
  refine c_bipush (z := 16) C dX1_init_15 (by decide) ?_
  refine c_newaI (z := 16) (N := 16) C 34 dX1_init_17 w1_57 rfl (by omega) (by omega) (rom2 hph hph (by decide)) (fun qn1 cln1 lnn1 ivn1 rvn1 hqn1 hcn1 hln1 hin1 hrn1 => ⟨32, (z_in (by omega)), ?_⟩)
  refine c_g0 C (fun hg1 => ?_)
  refine hv5 (show ∀ b, b ≠ qn1 → lnn1 b = ln b from (fun b hb => by rw [hln1]; exact va_up_ne _ _ hb)) (show lnn1 qn1 = 16 from by rw [hln1]; exact va_up_self _ _ _) (F2.new hX0 hqn1 hin1 hrn1) (show ty (L ++ [qn1]) cln1 qn1 34 from ty_new hcn1) (show qn1 ∉ L from fun h => hqn1 ((hX0 qn1 h).1)) (fun hxn1 lqn1 F3 tqn1 h0qn1 => ?_)
  refine hv2 (W2.new (ln2 := lnn1) hqn1 (hg1 qn1 (List.mem_append_right _ List.mem_cons_self)) hcn1 hxn1 hin1 hrn1 (fun _ => ⟨(show (-2147483648 : Int) ≤ 0 by decide), (show (0 : Int) ≤ 2147483647 by decide)⟩) (Or.inr (fun _ => rfl)) (fun _ => by show 16 ≤ lnn1 qn1 ∧ lnn1 qn1 ≤ 8000; omega) rfl rfl) (XT.new hqn1 hcn1 hxn1) (fun W3 xl1 => ?_)
  refine hv3 (hX0.trans xl1) (nw0.new xl1 hcn1) (xl1.ty t_a0) (fun X1 nw1 ty1 => ?_)
  refine c_putr (x := (some qn1)) (k := 1) C ck_2 dX1_init_19 w1_39 (by decide) rfl ty1 rfl rfl (by decide) rfl (by rfl) (by rfl) (fun rv1 pq3 => ⟨32, (zp2 (Nat.le_refl _)), ?_⟩)
  refine hv9 (W3.putr pq3 ty1 (fun qr => by rw [ty1.2] at qr; cases qr) rfl (by decide)) (F3.putr X1 pq3 ty1 rfl) (show rv1 a0 1 = (some qn1) from by rw [pq3]; exact upr_s) (show ∀ k, ([1] : List Nat).contains k = false → rv1 a0 k = rv a0 k from fun k hk => (Eq.trans (show rv1 a0 k = rvn1 a0 k from (by rw [pq3]; exact upr_j (fun e => by subst e; exact absurd hk (by decide)))) (show rvn1 a0 k = rv a0 k from (by rw [hrn1]; exact congrFun (up0_a (ne_in t_a0.1 hqn1)) _)))) (show ivn1 a0 0 = iv2 a0 0 from by rw [hin1]; exact congrFun (up0_a (ne_in t_a0.1 hqn1)) _) (show iv2 a0 0 = i from by rw [pq2]; exact up2_s) (show ivn1 a0 2 = iv2 a0 2 from by rw [hin1]; exact congrFun (up0_a (ne_in t_a0.1 hqn1)) _) (show iv2 a0 2 = iv1 a0 2 from by rw [pq2]; exact up2_j (by decide)) (show iv1 a0 2 = 0 from by rw [pq1]; exact up2_s) (fun W4 F4 rp1 rn1 ie1 ie2 ie3 ie4 ie5 => ?_)
  refine hv2 (show (-2147483648) ≤ ivn1 a0 0 ∧ ivn1 a0 0 ≤ 2147483647 from W4.int ty1 0) (show (-2147483648) ≤ ivn1 a0 2 ∧ ivn1 a0 2 ≤ 2147483647 from W4.int ty1 2) (fun ri1 ri2 => ?_)
  exact c_vret C dX1_init_22 rfl (by decide) (rom0 hph (Nat.le_refl 0) (by decide)) ⟨rfl, X1, F4, W4, ⟨qn1, rn1, rp1, tqn1, (by omega), (by omega), (by omega)⟩, nw1.sub (by decide)⟩
set_option maxHeartbeats 4000000 in
set_option maxRecDepth 100000 in
theorem Y_ints_5 {l : Launch} {G : GT} {mi : Nat} {sk : Nat → Nat} {L : List Nat} {cl ln : Nat → Nat} {iv : Nat → Nat → Int} {rv : Nat → Nat → Option Nat}  {a0 : Nat} {i : Int} (hW : WT (g0 G) sk L cl ln iv rv) (t_a0 : ty L cl a0 202) (h_i : -2147483648 ≤ i ∧ i ≤ 2147483647)  : Mc l G mi zPf 0 yX1_init cX1_init 2 none 1 [.ref a0, .int (iI i)] L cl ln iv rv 32 (fun v L2 cl2 ln2 iv2 rv2 => v = none ∧ XT L cl ln L2 cl2 ln2 ∧ fT [202] L cl iv rv iv2 rv2 ∧ WT (g0 G) sk L2 cl2 ln2 iv2 rv2 ∧ (∃ b, (∀ k, ([1] : List Nat).contains k = false → rv2 a0 k = rv a0 k) ∧ rv2 a0 1 = some b ∧ ty L2 cl2 b 35 ∧ ln2 b = 16 ∧ iv2 a0 0 = i ∧ iv2 a0 2 = 0) ∧ NW [35] L L2 cl2) := by
  refine Mc.mk (by decide) (Nat.le_of_ble_eq_true rfl) ?_
  intro p e s m args below meth c A C hM
  refine hv4 ((show zPf ln rv ≤ 0 from Nat.le_refl 0)) (show NW [] L L cl from NW.refl) (show XT L cl ln L cl ln from XT.refl) (show fT [202] L cl iv rv iv rv from fT.refl) (fun hph nw0 hX0 hF0 => ?_)
  refine c_aload_n (j := 0) (x := a0) C dX1_init_0 rfl ?_
  refine c_objInit C dX1_init_1 w1_37 w1_30 w1_31 (by decide) (Nat.le_of_ble_eq_true rfl) ?_
  refine c_aload_n (j := 0) (x := a0) C dX1_init_4 rfl ?_
  refine c_iconst C dX1_init_5 ?_
  refine c_put (z := 0) (k := 2) C ck_2 dX1_init_6 w1_43 (by decide) rfl t_a0 rfl rfl (by decide) rfl (by rfl) (by rfl) (fun iv1 pq1 => ?_)
  refine hv2 (hW.puti pq1 t_a0 ⟨by decide, by decide⟩ rfl) (hF0.puti hX0 pq1 t_a0 rfl) (fun W1 F1 => ?_)
  refine c_aload_n (j := 0) (x := a0) C dX1_init_9 rfl ?_
  refine c_iload_n (j := 1) C dX1_init_10 rfl ?_
  refine c_putF (z := i) (k := 0) C ck_2 dX1_init_11 w1_38 (by decide) rfl rfl rfl t_a0 rfl rfl (by decide) rfl (by rfl) (by rfl) (fun iv2 pq2 => ?_)
  refine hv2 (W1.puti pq2 t_a0 (show (-2147483648) ≤ i ∧ i ≤ 2147483647 by omega) rfl) (F1.puti hX0 pq2 t_a0 rfl) (fun W2 F2 => ?_)
  refine c_aload_n (j := 0) (x := a0) C dX1_init_14 rfl ?_
  refine c_bipush (z := 16) C dX1_init_15 (by decide) ?_
  refine c_newaI (z := 16) (N := 16) C 35 dX1_init_17 w1_57 rfl (by omega) (by omega) (rom2 hph hph (by decide)) (fun qn1 cln1 lnn1 ivn1 rvn1 hqn1 hcn1 hln1 hin1 hrn1 => ⟨32, (z_in (by omega)), ?_⟩)
  refine c_g0 C (fun hg1 => ?_)
  refine hv5 (show ∀ b, b ≠ qn1 → lnn1 b = ln b from (fun b hb => by rw [hln1]; exact va_up_ne _ _ hb)) (show lnn1 qn1 = 16 from by rw [hln1]; exact va_up_self _ _ _) (F2.new hX0 hqn1 hin1 hrn1) (show ty (L ++ [qn1]) cln1 qn1 35 from ty_new hcn1) (show qn1 ∉ L from fun h => hqn1 ((hX0 qn1 h).1)) (fun hxn1 lqn1 F3 tqn1 h0qn1 => ?_)
  refine hv2 (W2.new (ln2 := lnn1) hqn1 (hg1 qn1 (List.mem_append_right _ List.mem_cons_self)) hcn1 hxn1 hin1 hrn1 (fun _ => ⟨(show (-2147483648 : Int) ≤ 0 by decide), (show (0 : Int) ≤ 2147483647 by decide)⟩) (Or.inr (fun _ => rfl)) (fun _ => by show 16 ≤ lnn1 qn1 ∧ lnn1 qn1 ≤ 400; omega) rfl rfl) (XT.new hqn1 hcn1 hxn1) (fun W3 xl1 => ?_)
  refine hv3 (hX0.trans xl1) (nw0.new xl1 hcn1) (xl1.ty t_a0) (fun X1 nw1 ty1 => ?_)
  refine c_putr (x := (some qn1)) (k := 1) C ck_2 dX1_init_19 w1_39 (by decide) rfl ty1 rfl rfl (by decide) rfl (by rfl) (by rfl) (fun rv1 pq3 => ⟨32, (zp2 (Nat.le_refl _)), ?_⟩)
  refine hv9 (W3.putr pq3 ty1 (fun qr => by rw [ty1.2] at qr; cases qr) rfl (by decide)) (F3.putr X1 pq3 ty1 rfl) (show rv1 a0 1 = (some qn1) from by rw [pq3]; exact upr_s) (show ∀ k, ([1] : List Nat).contains k = false → rv1 a0 k = rv a0 k from fun k hk => (Eq.trans (show rv1 a0 k = rvn1 a0 k from (by rw [pq3]; exact upr_j (fun e => by subst e; exact absurd hk (by decide)))) (show rvn1 a0 k = rv a0 k from (by rw [hrn1]; exact congrFun (up0_a (ne_in t_a0.1 hqn1)) _)))) (show ivn1 a0 0 = iv2 a0 0 from by rw [hin1]; exact congrFun (up0_a (ne_in t_a0.1 hqn1)) _) (show iv2 a0 0 = i from by rw [pq2]; exact up2_s) (show ivn1 a0 2 = iv2 a0 2 from by rw [hin1]; exact congrFun (up0_a (ne_in t_a0.1 hqn1)) _) (show iv2 a0 2 = iv1 a0 2 from by rw [pq2]; exact up2_j (by decide)) (show iv1 a0 2 = 0 from by rw [pq1]; exact up2_s) (fun W4 F4 rp1 rn1 ie1 ie2 ie3 ie4 ie5 => ?_)
  refine hv2 (show (-2147483648) ≤ ivn1 a0 0 ∧ ivn1 a0 0 ≤ 2147483647 from W4.int ty1 0) (show (-2147483648) ≤ ivn1 a0 2 ∧ ivn1 a0 2 ≤ 2147483647 from W4.int ty1 2) (fun ri1 ri2 => ?_)
  exact c_vret C dX1_init_22 rfl (by decide) (rom0 hph (Nat.le_refl 0) (by decide)) ⟨rfl, X1, F4, W4, ⟨qn1, rn1, rp1, tqn1, (by omega), (by omega), (by omega)⟩, nw1.sub (by decide)⟩
set_option maxHeartbeats 4000000 in
set_option maxRecDepth 100000 in
theorem Y_ints_6 {l : Launch} {G : GT} {mi : Nat} {sk : Nat → Nat} {L : List Nat} {cl ln : Nat → Nat} {iv : Nat → Nat → Int} {rv : Nat → Nat → Option Nat}  {a0 : Nat} {i : Int} (hW : WT (g0 G) sk L cl ln iv rv) (t_a0 : ty L cl a0 202) (h_i : -2147483648 ≤ i ∧ i ≤ 2147483647)  : Mc l G mi zPf 0 yX1_init cX1_init 2 none 1 [.ref a0, .int (iI i)] L cl ln iv rv 32 (fun v L2 cl2 ln2 iv2 rv2 => v = none ∧ XT L cl ln L2 cl2 ln2 ∧ fT [202] L cl iv rv iv2 rv2 ∧ WT (g0 G) sk L2 cl2 ln2 iv2 rv2 ∧ (∃ b, (∀ k, ([1] : List Nat).contains k = false → rv2 a0 k = rv a0 k) ∧ rv2 a0 1 = some b ∧ ty L2 cl2 b 36 ∧ ln2 b = 16 ∧ iv2 a0 0 = i ∧ iv2 a0 2 = 0) ∧ NW [36] L L2 cl2) := by
  refine Mc.mk (by decide) (Nat.le_of_ble_eq_true rfl) ?_
  intro p e s m args below meth c A C hM
  refine hv4 ((show zPf ln rv ≤ 0 from Nat.le_refl 0)) (show NW [] L L cl from NW.refl) (show XT L cl ln L cl ln from XT.refl) (show fT [202] L cl iv rv iv rv from fT.refl) (fun hph nw0 hX0 hF0 => ?_)
  refine c_aload_n (j := 0) (x := a0) C dX1_init_0 rfl ?_
  refine c_objInit C dX1_init_1 w1_37 w1_30 w1_31 (by decide) (Nat.le_of_ble_eq_true rfl) ?_
  refine c_aload_n (j := 0) (x := a0) C dX1_init_4 rfl ?_
  refine c_iconst C dX1_init_5 ?_
  refine c_put (z := 0) (k := 2) C ck_2 dX1_init_6 w1_43 (by decide) rfl t_a0 rfl rfl (by decide) rfl (by rfl) (by rfl) (fun iv1 pq1 => ?_)
  refine hv2 (hW.puti pq1 t_a0 ⟨by decide, by decide⟩ rfl) (hF0.puti hX0 pq1 t_a0 rfl) (fun W1 F1 => ?_)
  refine c_aload_n (j := 0) (x := a0) C dX1_init_9 rfl ?_
  refine c_iload_n (j := 1) C dX1_init_10 rfl ?_
  refine c_putF (z := i) (k := 0) C ck_2 dX1_init_11 w1_38 (by decide) rfl rfl rfl t_a0 rfl rfl (by decide) rfl (by rfl) (by rfl) (fun iv2 pq2 => ?_)
  refine hv2 (W1.puti pq2 t_a0 (show (-2147483648) ≤ i ∧ i ≤ 2147483647 by omega) rfl) (F1.puti hX0 pq2 t_a0 rfl) (fun W2 F2 => ?_)
  refine c_aload_n (j := 0) (x := a0) C dX1_init_14 rfl ?_
  refine c_bipush (z := 16) C dX1_init_15 (by decide) ?_
  refine c_newaI (z := 16) (N := 16) C 36 dX1_init_17 w1_57 rfl (by omega) (by omega) (rom2 hph hph (by decide)) (fun qn1 cln1 lnn1 ivn1 rvn1 hqn1 hcn1 hln1 hin1 hrn1 => ⟨32, (z_in (by omega)), ?_⟩)
  refine c_g0 C (fun hg1 => ?_)
  refine hv5 (show ∀ b, b ≠ qn1 → lnn1 b = ln b from (fun b hb => by rw [hln1]; exact va_up_ne _ _ hb)) (show lnn1 qn1 = 16 from by rw [hln1]; exact va_up_self _ _ _) (F2.new hX0 hqn1 hin1 hrn1) (show ty (L ++ [qn1]) cln1 qn1 36 from ty_new hcn1) (show qn1 ∉ L from fun h => hqn1 ((hX0 qn1 h).1)) (fun hxn1 lqn1 F3 tqn1 h0qn1 => ?_)
  refine hv2 (W2.new (ln2 := lnn1) hqn1 (hg1 qn1 (List.mem_append_right _ List.mem_cons_self)) hcn1 hxn1 hin1 hrn1 (fun _ => ⟨(show (-2147483648 : Int) ≤ 0 by decide), (show (0 : Int) ≤ 2147483647 by decide)⟩) (Or.inr (fun _ => rfl)) (fun _ => by show 16 ≤ lnn1 qn1 ∧ lnn1 qn1 ≤ 12006; omega) rfl rfl) (XT.new hqn1 hcn1 hxn1) (fun W3 xl1 => ?_)
  refine hv3 (hX0.trans xl1) (nw0.new xl1 hcn1) (xl1.ty t_a0) (fun X1 nw1 ty1 => ?_)
  refine c_putr (x := (some qn1)) (k := 1) C ck_2 dX1_init_19 w1_39 (by decide) rfl ty1 rfl rfl (by decide) rfl (by rfl) (by rfl) (fun rv1 pq3 => ⟨32, (zp2 (Nat.le_refl _)), ?_⟩)
  refine hv9 (W3.putr pq3 ty1 (fun qr => by rw [ty1.2] at qr; cases qr) rfl (by decide)) (F3.putr X1 pq3 ty1 rfl) (show rv1 a0 1 = (some qn1) from by rw [pq3]; exact upr_s) (show ∀ k, ([1] : List Nat).contains k = false → rv1 a0 k = rv a0 k from fun k hk => (Eq.trans (show rv1 a0 k = rvn1 a0 k from (by rw [pq3]; exact upr_j (fun e => by subst e; exact absurd hk (by decide)))) (show rvn1 a0 k = rv a0 k from (by rw [hrn1]; exact congrFun (up0_a (ne_in t_a0.1 hqn1)) _)))) (show ivn1 a0 0 = iv2 a0 0 from by rw [hin1]; exact congrFun (up0_a (ne_in t_a0.1 hqn1)) _) (show iv2 a0 0 = i from by rw [pq2]; exact up2_s) (show ivn1 a0 2 = iv2 a0 2 from by rw [hin1]; exact congrFun (up0_a (ne_in t_a0.1 hqn1)) _) (show iv2 a0 2 = iv1 a0 2 from by rw [pq2]; exact up2_j (by decide)) (show iv1 a0 2 = 0 from by rw [pq1]; exact up2_s) (fun W4 F4 rp1 rn1 ie1 ie2 ie3 ie4 ie5 => ?_)
  refine hv2 (show (-2147483648) ≤ ivn1 a0 0 ∧ ivn1 a0 0 ≤ 2147483647 from W4.int ty1 0) (show (-2147483648) ≤ ivn1 a0 2 ∧ ivn1 a0 2 ≤ 2147483647 from W4.int ty1 2) (fun ri1 ri2 => ?_)
  exact c_vret C dX1_init_22 rfl (by decide) (rom0 hph (Nat.le_refl 0) (by decide)) ⟨rfl, X1, F4, W4, ⟨qn1, rn1, rp1, tqn1, (by omega), (by omega), (by omega)⟩, nw1.sub (by decide)⟩
set_option maxHeartbeats 4000000 in
set_option maxRecDepth 100000 in
theorem Y_ints_7 {l : Launch} {G : GT} {mi : Nat} {sk : Nat → Nat} {L : List Nat} {cl ln : Nat → Nat} {iv : Nat → Nat → Int} {rv : Nat → Nat → Option Nat}  {a0 : Nat} {i : Int} (hW : WT (g0 G) sk L cl ln iv rv) (t_a0 : ty L cl a0 202) (h_i : -2147483648 ≤ i ∧ i ≤ 2147483647)  : Mc l G mi zPf 0 yX1_init cX1_init 2 none 1 [.ref a0, .int (iI i)] L cl ln iv rv 32 (fun v L2 cl2 ln2 iv2 rv2 => v = none ∧ XT L cl ln L2 cl2 ln2 ∧ fT [202] L cl iv rv iv2 rv2 ∧ WT (g0 G) sk L2 cl2 ln2 iv2 rv2 ∧ (∃ b, (∀ k, ([1] : List Nat).contains k = false → rv2 a0 k = rv a0 k) ∧ rv2 a0 1 = some b ∧ ty L2 cl2 b 37 ∧ ln2 b = 16 ∧ iv2 a0 0 = i ∧ iv2 a0 2 = 0) ∧ NW [37] L L2 cl2) := by
  refine Mc.mk (by decide) (Nat.le_of_ble_eq_true rfl) ?_
  intro p e s m args below meth c A C hM
  refine hv4 ((show zPf ln rv ≤ 0 from Nat.le_refl 0)) (show NW [] L L cl from NW.refl) (show XT L cl ln L cl ln from XT.refl) (show fT [202] L cl iv rv iv rv from fT.refl) (fun hph nw0 hX0 hF0 => ?_)
  refine c_aload_n (j := 0) (x := a0) C dX1_init_0 rfl ?_
  refine c_objInit C dX1_init_1 w1_37 w1_30 w1_31 (by decide) (Nat.le_of_ble_eq_true rfl) ?_
  refine c_aload_n (j := 0) (x := a0) C dX1_init_4 rfl ?_
  refine c_iconst C dX1_init_5 ?_
  refine c_put (z := 0) (k := 2) C ck_2 dX1_init_6 w1_43 (by decide) rfl t_a0 rfl rfl (by decide) rfl (by rfl) (by rfl) (fun iv1 pq1 => ?_)
  refine hv2 (hW.puti pq1 t_a0 ⟨by decide, by decide⟩ rfl) (hF0.puti hX0 pq1 t_a0 rfl) (fun W1 F1 => ?_)
  refine c_aload_n (j := 0) (x := a0) C dX1_init_9 rfl ?_
  refine c_iload_n (j := 1) C dX1_init_10 rfl ?_
  refine c_putF (z := i) (k := 0) C ck_2 dX1_init_11 w1_38 (by decide) rfl rfl rfl t_a0 rfl rfl (by decide) rfl (by rfl) (by rfl) (fun iv2 pq2 => ?_)
  refine hv2 (W1.puti pq2 t_a0 (show (-2147483648) ≤ i ∧ i ≤ 2147483647 by omega) rfl) (F1.puti hX0 pq2 t_a0 rfl) (fun W2 F2 => ?_)
  refine c_aload_n (j := 0) (x := a0) C dX1_init_14 rfl ?_
  refine c_bipush (z := 16) C dX1_init_15 (by decide) ?_
  refine c_newaI (z := 16) (N := 16) C 37 dX1_init_17 w1_57 rfl (by omega) (by omega) (rom2 hph hph (by decide)) (fun qn1 cln1 lnn1 ivn1 rvn1 hqn1 hcn1 hln1 hin1 hrn1 => ⟨32, (z_in (by omega)), ?_⟩)
  refine c_g0 C (fun hg1 => ?_)
  refine hv5 (show ∀ b, b ≠ qn1 → lnn1 b = ln b from (fun b hb => by rw [hln1]; exact va_up_ne _ _ hb)) (show lnn1 qn1 = 16 from by rw [hln1]; exact va_up_self _ _ _) (F2.new hX0 hqn1 hin1 hrn1) (show ty (L ++ [qn1]) cln1 qn1 37 from ty_new hcn1) (show qn1 ∉ L from fun h => hqn1 ((hX0 qn1 h).1)) (fun hxn1 lqn1 F3 tqn1 h0qn1 => ?_)
  refine hv2 (W2.new (ln2 := lnn1) hqn1 (hg1 qn1 (List.mem_append_right _ List.mem_cons_self)) hcn1 hxn1 hin1 hrn1 (fun _ => ⟨(show (-2147483648 : Int) ≤ 0 by decide), (show (0 : Int) ≤ 2147483647 by decide)⟩) (Or.inr (fun _ => rfl)) (fun _ => by show 16 ≤ lnn1 qn1 ∧ lnn1 qn1 ≤ 12006; omega) rfl rfl) (XT.new hqn1 hcn1 hxn1) (fun W3 xl1 => ?_)
  refine hv3 (hX0.trans xl1) (nw0.new xl1 hcn1) (xl1.ty t_a0) (fun X1 nw1 ty1 => ?_)
  refine c_putr (x := (some qn1)) (k := 1) C ck_2 dX1_init_19 w1_39 (by decide) rfl ty1 rfl rfl (by decide) rfl (by rfl) (by rfl) (fun rv1 pq3 => ⟨32, (zp2 (Nat.le_refl _)), ?_⟩)
  refine hv9 (W3.putr pq3 ty1 (fun qr => by rw [ty1.2] at qr; cases qr) rfl (by decide)) (F3.putr X1 pq3 ty1 rfl) (show rv1 a0 1 = (some qn1) from by rw [pq3]; exact upr_s) (show ∀ k, ([1] : List Nat).contains k = false → rv1 a0 k = rv a0 k from fun k hk => (Eq.trans (show rv1 a0 k = rvn1 a0 k from (by rw [pq3]; exact upr_j (fun e => by subst e; exact absurd hk (by decide)))) (show rvn1 a0 k = rv a0 k from (by rw [hrn1]; exact congrFun (up0_a (ne_in t_a0.1 hqn1)) _)))) (show ivn1 a0 0 = iv2 a0 0 from by rw [hin1]; exact congrFun (up0_a (ne_in t_a0.1 hqn1)) _) (show iv2 a0 0 = i from by rw [pq2]; exact up2_s) (show ivn1 a0 2 = iv2 a0 2 from by rw [hin1]; exact congrFun (up0_a (ne_in t_a0.1 hqn1)) _) (show iv2 a0 2 = iv1 a0 2 from by rw [pq2]; exact up2_j (by decide)) (show iv1 a0 2 = 0 from by rw [pq1]; exact up2_s) (fun W4 F4 rp1 rn1 ie1 ie2 ie3 ie4 ie5 => ?_)
  refine hv2 (show (-2147483648) ≤ ivn1 a0 0 ∧ ivn1 a0 0 ≤ 2147483647 from W4.int ty1 0) (show (-2147483648) ≤ ivn1 a0 2 ∧ ivn1 a0 2 ≤ 2147483647 from W4.int ty1 2) (fun ri1 ri2 => ?_)
  exact c_vret C dX1_init_22 rfl (by decide) (rom0 hph (Nat.le_refl 0) (by decide)) ⟨rfl, X1, F4, W4, ⟨qn1, rn1, rp1, tqn1, (by omega), (by omega), (by omega)⟩, nw1.sub (by decide)⟩
set_option maxHeartbeats 4000000 in
set_option maxRecDepth 100000 in
theorem Y_ints_8 {l : Launch} {G : GT} {mi : Nat} {sk : Nat → Nat} {L : List Nat} {cl ln : Nat → Nat} {iv : Nat → Nat → Int} {rv : Nat → Nat → Option Nat}  {a0 : Nat} {i : Int} (hW : WT (g0 G) sk L cl ln iv rv) (t_a0 : ty L cl a0 202) (h_i : -2147483648 ≤ i ∧ i ≤ 2147483647)  : Mc l G mi zPf 0 yX1_init cX1_init 2 none 1 [.ref a0, .int (iI i)] L cl ln iv rv 32 (fun v L2 cl2 ln2 iv2 rv2 => v = none ∧ XT L cl ln L2 cl2 ln2 ∧ fT [202] L cl iv rv iv2 rv2 ∧ WT (g0 G) sk L2 cl2 ln2 iv2 rv2 ∧ (∃ b, (∀ k, ([1] : List Nat).contains k = false → rv2 a0 k = rv a0 k) ∧ rv2 a0 1 = some b ∧ ty L2 cl2 b 38 ∧ ln2 b = 16 ∧ iv2 a0 0 = i ∧ iv2 a0 2 = 0) ∧ NW [38] L L2 cl2) := by
  refine Mc.mk (by decide) (Nat.le_of_ble_eq_true rfl) ?_
  intro p e s m args below meth c A C hM
  refine hv4 ((show zPf ln rv ≤ 0 from Nat.le_refl 0)) (show NW [] L L cl from NW.refl) (show XT L cl ln L cl ln from XT.refl) (show fT [202] L cl iv rv iv rv from fT.refl) (fun hph nw0 hX0 hF0 => ?_)
  refine c_aload_n (j := 0) (x := a0) C dX1_init_0 rfl ?_
  refine c_objInit C dX1_init_1 w1_37 w1_30 w1_31 (by decide) (Nat.le_of_ble_eq_true rfl) ?_
  refine c_aload_n (j := 0) (x := a0) C dX1_init_4 rfl ?_
  refine c_iconst C dX1_init_5 ?_
  refine c_put (z := 0) (k := 2) C ck_2 dX1_init_6 w1_43 (by decide) rfl t_a0 rfl rfl (by decide) rfl (by rfl) (by rfl) (fun iv1 pq1 => ?_)
  refine hv2 (hW.puti pq1 t_a0 ⟨by decide, by decide⟩ rfl) (hF0.puti hX0 pq1 t_a0 rfl) (fun W1 F1 => ?_)
  refine c_aload_n (j := 0) (x := a0) C dX1_init_9 rfl ?_
  refine c_iload_n (j := 1) C dX1_init_10 rfl ?_
  refine c_putF (z := i) (k := 0) C ck_2 dX1_init_11 w1_38 (by decide) rfl rfl rfl t_a0 rfl rfl (by decide) rfl (by rfl) (by rfl) (fun iv2 pq2 => ?_)
  refine hv2 (W1.puti pq2 t_a0 (show (-2147483648) ≤ i ∧ i ≤ 2147483647 by omega) rfl) (F1.puti hX0 pq2 t_a0 rfl) (fun W2 F2 => ?_)
  refine c_aload_n (j := 0) (x := a0) C dX1_init_14 rfl ?_
  refine c_bipush (z := 16) C dX1_init_15 (by decide) ?_
  refine c_newaI (z := 16) (N := 16) C 38 dX1_init_17 w1_57 rfl (by omega) (by omega) (rom2 hph hph (by decide)) (fun qn1 cln1 lnn1 ivn1 rvn1 hqn1 hcn1 hln1 hin1 hrn1 => ⟨32, (z_in (by omega)), ?_⟩)
  refine c_g0 C (fun hg1 => ?_)
  refine hv5 (show ∀ b, b ≠ qn1 → lnn1 b = ln b from (fun b hb => by rw [hln1]; exact va_up_ne _ _ hb)) (show lnn1 qn1 = 16 from by rw [hln1]; exact va_up_self _ _ _) (F2.new hX0 hqn1 hin1 hrn1) (show ty (L ++ [qn1]) cln1 qn1 38 from ty_new hcn1) (show qn1 ∉ L from fun h => hqn1 ((hX0 qn1 h).1)) (fun hxn1 lqn1 F3 tqn1 h0qn1 => ?_)
  refine hv2 (W2.new (ln2 := lnn1) hqn1 (hg1 qn1 (List.mem_append_right _ List.mem_cons_self)) hcn1 hxn1 hin1 hrn1 (fun _ => ⟨(show (-2147483648 : Int) ≤ 0 by decide), (show (0 : Int) ≤ 2147483647 by decide)⟩) (Or.inr (fun _ => rfl)) (fun _ => by show 16 ≤ lnn1 qn1 ∧ lnn1 qn1 ≤ 80400; omega) rfl rfl) (XT.new hqn1 hcn1 hxn1) (fun W3 xl1 => ?_)
  refine hv3 (hX0.trans xl1) (nw0.new xl1 hcn1) (xl1.ty t_a0) (fun X1 nw1 ty1 => ?_)
  refine c_putr (x := (some qn1)) (k := 1) C ck_2 dX1_init_19 w1_39 (by decide) rfl ty1 rfl rfl (by decide) rfl (by rfl) (by rfl) (fun rv1 pq3 => ⟨32, (zp2 (Nat.le_refl _)), ?_⟩)
  refine hv9 (W3.putr pq3 ty1 (fun qr => by rw [ty1.2] at qr; cases qr) rfl (by decide)) (F3.putr X1 pq3 ty1 rfl) (show rv1 a0 1 = (some qn1) from by rw [pq3]; exact upr_s) (show ∀ k, ([1] : List Nat).contains k = false → rv1 a0 k = rv a0 k from fun k hk => (Eq.trans (show rv1 a0 k = rvn1 a0 k from (by rw [pq3]; exact upr_j (fun e => by subst e; exact absurd hk (by decide)))) (show rvn1 a0 k = rv a0 k from (by rw [hrn1]; exact congrFun (up0_a (ne_in t_a0.1 hqn1)) _)))) (show ivn1 a0 0 = iv2 a0 0 from by rw [hin1]; exact congrFun (up0_a (ne_in t_a0.1 hqn1)) _) (show iv2 a0 0 = i from by rw [pq2]; exact up2_s) (show ivn1 a0 2 = iv2 a0 2 from by rw [hin1]; exact congrFun (up0_a (ne_in t_a0.1 hqn1)) _) (show iv2 a0 2 = iv1 a0 2 from by rw [pq2]; exact up2_j (by decide)) (show iv1 a0 2 = 0 from by rw [pq1]; exact up2_s) (fun W4 F4 rp1 rn1 ie1 ie2 ie3 ie4 ie5 => ?_)
  refine hv2 (show (-2147483648) ≤ ivn1 a0 0 ∧ ivn1 a0 0 ≤ 2147483647 from W4.int ty1 0) (show (-2147483648) ≤ ivn1 a0 2 ∧ ivn1 a0 2 ≤ 2147483647 from W4.int ty1 2) (fun ri1 ri2 => ?_)
  exact c_vret C dX1_init_22 rfl (by decide) (rom0 hph (Nat.le_refl 0) (by decide)) ⟨rfl, X1, F4, W4, ⟨qn1, rn1, rp1, tqn1, (by omega), (by omega), (by omega)⟩, nw1.sub (by decide)⟩
set_option maxHeartbeats 4000000 in
set_option maxRecDepth 100000 in
theorem Y_ints_9 {l : Launch} {G : GT} {mi : Nat} {sk : Nat → Nat} {L : List Nat} {cl ln : Nat → Nat} {iv : Nat → Nat → Int} {rv : Nat → Nat → Option Nat}  {a0 : Nat} {i : Int} (hW : WT (g0 G) sk L cl ln iv rv) (t_a0 : ty L cl a0 202) (h_i : -2147483648 ≤ i ∧ i ≤ 2147483647)  : Mc l G mi zPf 0 yX1_init cX1_init 2 none 1 [.ref a0, .int (iI i)] L cl ln iv rv 32 (fun v L2 cl2 ln2 iv2 rv2 => v = none ∧ XT L cl ln L2 cl2 ln2 ∧ fT [202] L cl iv rv iv2 rv2 ∧ WT (g0 G) sk L2 cl2 ln2 iv2 rv2 ∧ (∃ b, (∀ k, ([1] : List Nat).contains k = false → rv2 a0 k = rv a0 k) ∧ rv2 a0 1 = some b ∧ ty L2 cl2 b 39 ∧ ln2 b = 16 ∧ iv2 a0 0 = i ∧ iv2 a0 2 = 0) ∧ NW [39] L L2 cl2) := by
  refine Mc.mk (by decide) (Nat.le_of_ble_eq_true rfl) ?_
  intro p e s m args below meth c A C hM
  refine hv4 ((show zPf ln rv ≤ 0 from Nat.le_refl 0)) (show NW [] L L cl from NW.refl) (show XT L cl ln L cl ln from XT.refl) (show fT [202] L cl iv rv iv rv from fT.refl) (fun hph nw0 hX0 hF0 => ?_)
  refine c_aload_n (j := 0) (x := a0) C dX1_init_0 rfl ?_
  refine c_objInit C dX1_init_1 w1_37 w1_30 w1_31 (by decide) (Nat.le_of_ble_eq_true rfl) ?_
  refine c_aload_n (j := 0) (x := a0) C dX1_init_4 rfl ?_
  refine c_iconst C dX1_init_5 ?_
  refine c_put (z := 0) (k := 2) C ck_2 dX1_init_6 w1_43 (by decide) rfl t_a0 rfl rfl (by decide) rfl (by rfl) (by rfl) (fun iv1 pq1 => ?_)
  refine hv2 (hW.puti pq1 t_a0 ⟨by decide, by decide⟩ rfl) (hF0.puti hX0 pq1 t_a0 rfl) (fun W1 F1 => ?_)
  refine c_aload_n (j := 0) (x := a0) C dX1_init_9 rfl ?_
  refine c_iload_n (j := 1) C dX1_init_10 rfl ?_
  refine c_putF (z := i) (k := 0) C ck_2 dX1_init_11 w1_38 (by decide) rfl rfl rfl t_a0 rfl rfl (by decide) rfl (by rfl) (by rfl) (fun iv2 pq2 => ?_)
  refine hv2 (W1.puti pq2 t_a0 (show (-2147483648) ≤ i ∧ i ≤ 2147483647 by omega) rfl) (F1.puti hX0 pq2 t_a0 rfl) (fun W2 F2 => ?_)
  refine c_aload_n (j := 0) (x := a0) C dX1_init_14 rfl ?_
  refine c_bipush (z := 16) C dX1_init_15 (by decide) ?_
  refine c_newaI (z := 16) (N := 16) C 39 dX1_init_17 w1_57 rfl (by omega) (by omega) (rom2 hph hph (by decide)) (fun qn1 cln1 lnn1 ivn1 rvn1 hqn1 hcn1 hln1 hin1 hrn1 => ⟨32, (z_in (by omega)), ?_⟩)
  refine c_g0 C (fun hg1 => ?_)
  refine hv5 (show ∀ b, b ≠ qn1 → lnn1 b = ln b from (fun b hb => by rw [hln1]; exact va_up_ne _ _ hb)) (show lnn1 qn1 = 16 from by rw [hln1]; exact va_up_self _ _ _) (F2.new hX0 hqn1 hin1 hrn1) (show ty (L ++ [qn1]) cln1 qn1 39 from ty_new hcn1) (show qn1 ∉ L from fun h => hqn1 ((hX0 qn1 h).1)) (fun hxn1 lqn1 F3 tqn1 h0qn1 => ?_)
  refine hv2 (W2.new (ln2 := lnn1) hqn1 (hg1 qn1 (List.mem_append_right _ List.mem_cons_self)) hcn1 hxn1 hin1 hrn1 (fun _ => ⟨(show (-2147483648 : Int) ≤ 0 by decide), (show (0 : Int) ≤ 2147483647 by decide)⟩) (Or.inr (fun _ => rfl)) (fun _ => by show 16 ≤ lnn1 qn1 ∧ lnn1 qn1 ≤ 80400; omega) rfl rfl) (XT.new hqn1 hcn1 hxn1) (fun W3 xl1 => ?_)
  refine hv3 (hX0.trans xl1) (nw0.new xl1 hcn1) (xl1.ty t_a0) (fun X1 nw1 ty1 => ?_)
  refine c_putr (x := (some qn1)) (k := 1) C ck_2 dX1_init_19 w1_39 (by decide) rfl ty1 rfl rfl (by decide) rfl (by rfl) (by rfl) (fun rv1 pq3 => ⟨32, (zp2 (Nat.le_refl _)), ?_⟩)
  refine hv9 (W3.putr pq3 ty1 (fun qr => by rw [ty1.2] at qr; cases qr) rfl (by decide)) (F3.putr X1 pq3 ty1 rfl) (show rv1 a0 1 = (some qn1) from by rw [pq3]; exact upr_s) (show ∀ k, ([1] : List Nat).contains k = false → rv1 a0 k = rv a0 k from fun k hk => (Eq.trans (show rv1 a0 k = rvn1 a0 k from (by rw [pq3]; exact upr_j (fun e => by subst e; exact absurd hk (by decide)))) (show rvn1 a0 k = rv a0 k from (by rw [hrn1]; exact congrFun (up0_a (ne_in t_a0.1 hqn1)) _)))) (show ivn1 a0 0 = iv2 a0 0 from by rw [hin1]; exact congrFun (up0_a (ne_in t_a0.1 hqn1)) _) (show iv2 a0 0 = i from by rw [pq2]; exact up2_s) (show ivn1 a0 2 = iv2 a0 2 from by rw [hin1]; exact congrFun (up0_a (ne_in t_a0.1 hqn1)) _) (show iv2 a0 2 = iv1 a0 2 from by rw [pq2]; exact up2_j (by decide)) (show iv1 a0 2 = 0 from by rw [pq1]; exact up2_s) (fun W4 F4 rp1 rn1 ie1 ie2 ie3 ie4 ie5 => ?_)
  refine hv2 (show (-2147483648) ≤ ivn1 a0 0 ∧ ivn1 a0 0 ≤ 2147483647 from W4.int ty1 0) (show (-2147483648) ≤ ivn1 a0 2 ∧ ivn1 a0 2 ≤ 2147483647 from W4.int ty1 2) (fun ri1 ri2 => ?_)
  exact c_vret C dX1_init_22 rfl (by decide) (rom0 hph (Nat.le_refl 0) (by decide)) ⟨rfl, X1, F4, W4, ⟨qn1, rn1, rp1, tqn1, (by omega), (by omega), (by omega)⟩, nw1.sub (by decide)⟩
set_option maxHeartbeats 4000000 in
set_option maxRecDepth 100000 in
theorem Y_ints_10 {l : Launch} {G : GT} {mi : Nat} {sk : Nat → Nat} {L : List Nat} {cl ln : Nat → Nat} {iv : Nat → Nat → Int} {rv : Nat → Nat → Option Nat}  {a0 : Nat} {i : Int} (hW : WT (g0 G) sk L cl ln iv rv) (t_a0 : ty L cl a0 202) (h_i : -2147483648 ≤ i ∧ i ≤ 2147483647)  : Mc l G mi zPf 0 yX1_init cX1_init 2 none 1 [.ref a0, .int (iI i)] L cl ln iv rv 32 (fun v L2 cl2 ln2 iv2 rv2 => v = none ∧ XT L cl ln L2 cl2 ln2 ∧ fT [202] L cl iv rv iv2 rv2 ∧ WT (g0 G) sk L2 cl2 ln2 iv2 rv2 ∧ (∃ b, (∀ k, ([1] : List Nat).contains k = false → rv2 a0 k = rv a0 k) ∧ rv2 a0 1 = some b ∧ ty L2 cl2 b 40 ∧ ln2 b = 16 ∧ iv2 a0 0 = i ∧ iv2 a0 2 = 0) ∧ NW [40] L L2 cl2) := by
  refine Mc.mk (by decide) (Nat.le_of_ble_eq_true rfl) ?_
  intro p e s m args below meth c A C hM
  refine hv4 ((show zPf ln rv ≤ 0 from Nat.le_refl 0)) (show NW [] L L cl from NW.refl) (show XT L cl ln L cl ln from XT.refl) (show fT [202] L cl iv rv iv rv from fT.refl) (fun hph nw0 hX0 hF0 => ?_)
  refine c_aload_n (j := 0) (x := a0) C dX1_init_0 rfl ?_
  refine c_objInit C dX1_init_1 w1_37 w1_30 w1_31 (by decide) (Nat.le_of_ble_eq_true rfl) ?_
  refine c_aload_n (j := 0) (x := a0) C dX1_init_4 rfl ?_
  refine c_iconst C dX1_init_5 ?_
  refine c_put (z := 0) (k := 2) C ck_2 dX1_init_6 w1_43 (by decide) rfl t_a0 rfl rfl (by decide) rfl (by rfl) (by rfl) (fun iv1 pq1 => ?_)
  refine hv2 (hW.puti pq1 t_a0 ⟨by decide, by decide⟩ rfl) (hF0.puti hX0 pq1 t_a0 rfl) (fun W1 F1 => ?_)
  refine c_aload_n (j := 0) (x := a0) C dX1_init_9 rfl ?_
  refine c_iload_n (j := 1) C dX1_init_10 rfl ?_
  refine c_putF (z := i) (k := 0) C ck_2 dX1_init_11 w1_38 (by decide) rfl rfl rfl t_a0 rfl rfl (by decide) rfl (by rfl) (by rfl) (fun iv2 pq2 => ?_)
  refine hv2 (W1.puti pq2 t_a0 (show (-2147483648) ≤ i ∧ i ≤ 2147483647 by omega) rfl) (F1.puti hX0 pq2 t_a0 rfl) (fun W2 F2 => ?_)
  refine c_aload_n (j := 0) (x := a0) C dX1_init_14 rfl ?_
  refine c_bipush (z := 16) C dX1_init_15 (by decide) ?_
  refine c_newaI (z := 16) (N := 16) C 40 dX1_init_17 w1_57 rfl (by omega) (by omega) (rom2 hph hph (by decide)) (fun qn1 cln1 lnn1 ivn1 rvn1 hqn1 hcn1 hln1 hin1 hrn1 => ⟨32, (z_in (by omega)), ?_⟩)
  refine c_g0 C (fun hg1 => ?_)
  refine hv5 (show ∀ b, b ≠ qn1 → lnn1 b = ln b from (fun b hb => by rw [hln1]; exact va_up_ne _ _ hb)) (show lnn1 qn1 = 16 from by rw [hln1]; exact va_up_self _ _ _) (F2.new hX0 hqn1 hin1 hrn1) (show ty (L ++ [qn1]) cln1 qn1 40 from ty_new hcn1) (show qn1 ∉ L from fun h => hqn1 ((hX0 qn1 h).1)) (fun hxn1 lqn1 F3 tqn1 h0qn1 => ?_)
  refine hv2 (W2.new (ln2 := lnn1) hqn1 (hg1 qn1 (List.mem_append_right _ List.mem_cons_self)) hcn1 hxn1 hin1 hrn1 (fun _ => ⟨(show (-2147483648 : Int) ≤ 0 by decide), (show (0 : Int) ≤ 2147483647 by decide)⟩) (Or.inr (fun _ => rfl)) (fun _ => by show 16 ≤ lnn1 qn1 ∧ lnn1 qn1 ≤ 8002; omega) rfl rfl) (XT.new hqn1 hcn1 hxn1) (fun W3 xl1 => ?_)
  refine hv3 (hX0.trans xl1) (nw0.new xl1 hcn1) (xl1.ty t_a0) (fun X1 nw1 ty1 => ?_)
  refine c_putr (x := (some qn1)) (k := 1) C ck_2 dX1_init_19 w1_39 (by decide) rfl ty1 rfl rfl (by decide) rfl (by rfl) (by rfl) (fun rv1 pq3 => ⟨32, (zp2 (Nat.le_refl _)), ?_⟩)
  refine hv9 (W3.putr pq3 ty1 (fun qr => by rw [ty1.2] at qr; cases qr) rfl (by decide)) (F3.putr X1 pq3 ty1 rfl) (show rv1 a0 1 = (some qn1) from by rw [pq3]; exact upr_s) (show ∀ k, ([1] : List Nat).contains k = false → rv1 a0 k = rv a0 k from fun k hk => (Eq.trans (show rv1 a0 k = rvn1 a0 k from (by rw [pq3]; exact upr_j (fun e => by subst e; exact absurd hk (by decide)))) (show rvn1 a0 k = rv a0 k from (by rw [hrn1]; exact congrFun (up0_a (ne_in t_a0.1 hqn1)) _)))) (show ivn1 a0 0 = iv2 a0 0 from by rw [hin1]; exact congrFun (up0_a (ne_in t_a0.1 hqn1)) _) (show iv2 a0 0 = i from by rw [pq2]; exact up2_s) (show ivn1 a0 2 = iv2 a0 2 from by rw [hin1]; exact congrFun (up0_a (ne_in t_a0.1 hqn1)) _) (show iv2 a0 2 = iv1 a0 2 from by rw [pq2]; exact up2_j (by decide)) (show iv1 a0 2 = 0 from by rw [pq1]; exact up2_s) (fun W4 F4 rp1 rn1 ie1 ie2 ie3 ie4 ie5 => ?_)
  refine hv2 (show (-2147483648) ≤ ivn1 a0 0 ∧ ivn1 a0 0 ≤ 2147483647 from W4.int ty1 0) (show (-2147483648) ≤ ivn1 a0 2 ∧ ivn1 a0 2 ≤ 2147483647 from W4.int ty1 2) (fun ri1 ri2 => ?_)
  exact c_vret C dX1_init_22 rfl (by decide) (rom0 hph (Nat.le_refl 0) (by decide)) ⟨rfl, X1, F4, W4, ⟨qn1, rn1, rp1, tqn1, (by omega), (by omega), (by omega)⟩, nw1.sub (by decide)⟩
set_option maxHeartbeats 4000000 in
set_option maxRecDepth 100000 in
theorem Y_ints_11 {l : Launch} {G : GT} {mi : Nat} {sk : Nat → Nat} {L : List Nat} {cl ln : Nat → Nat} {iv : Nat → Nat → Int} {rv : Nat → Nat → Option Nat}  {a0 : Nat} {i : Int} (hW : WT (g0 G) sk L cl ln iv rv) (t_a0 : ty L cl a0 202) (h_i : -2147483648 ≤ i ∧ i ≤ 2147483647)  : Mc l G mi zPf 0 yX1_init cX1_init 2 none 1 [.ref a0, .int (iI i)] L cl ln iv rv 32 (fun v L2 cl2 ln2 iv2 rv2 => v = none ∧ XT L cl ln L2 cl2 ln2 ∧ fT [202] L cl iv rv iv2 rv2 ∧ WT (g0 G) sk L2 cl2 ln2 iv2 rv2 ∧ (∃ b, (∀ k, ([1] : List Nat).contains k = false → rv2 a0 k = rv a0 k) ∧ rv2 a0 1 = some b ∧ ty L2 cl2 b 41 ∧ ln2 b = 16 ∧ iv2 a0 0 = i ∧ iv2 a0 2 = 0) ∧ NW [41] L L2 cl2) := by
  refine Mc.mk (by decide) (Nat.le_of_ble_eq_true rfl) ?_
  intro p e s m args below meth c A C hM
  refine hv4 ((show zPf ln rv ≤ 0 from Nat.le_refl 0)) (show NW [] L L cl from NW.refl) (show XT L cl ln L cl ln from XT.refl) (show fT [202] L cl iv rv iv rv from fT.refl) (fun hph nw0 hX0 hF0 => ?_)
  refine c_aload_n (j := 0) (x := a0) C dX1_init_0 rfl ?_
  refine c_objInit C dX1_init_1 w1_37 w1_30 w1_31 (by decide) (Nat.le_of_ble_eq_true rfl) ?_
  refine c_aload_n (j := 0) (x := a0) C dX1_init_4 rfl ?_
  refine c_iconst C dX1_init_5 ?_
  refine c_put (z := 0) (k := 2) C ck_2 dX1_init_6 w1_43 (by decide) rfl t_a0 rfl rfl (by decide) rfl (by rfl) (by rfl) (fun iv1 pq1 => ?_)
  refine hv2 (hW.puti pq1 t_a0 ⟨by decide, by decide⟩ rfl) (hF0.puti hX0 pq1 t_a0 rfl) (fun W1 F1 => ?_)
  refine c_aload_n (j := 0) (x := a0) C dX1_init_9 rfl ?_
  refine c_iload_n (j := 1) C dX1_init_10 rfl ?_
  refine c_putF (z := i) (k := 0) C ck_2 dX1_init_11 w1_38 (by decide) rfl rfl rfl t_a0 rfl rfl (by decide) rfl (by rfl) (by rfl) (fun iv2 pq2 => ?_)
  refine hv2 (W1.puti pq2 t_a0 (show (-2147483648) ≤ i ∧ i ≤ 2147483647 by omega) rfl) (F1.puti hX0 pq2 t_a0 rfl) (fun W2 F2 => ?_)
  refine c_aload_n (j := 0) (x := a0) C dX1_init_14 rfl ?_
  refine c_bipush (z := 16) C dX1_init_15 (by decide) ?_
  refine c_newaI (z := 16) (N := 16) C 41 dX1_init_17 w1_57 rfl (by omega) (by omega) (rom2 hph hph (by decide)) (fun qn1 cln1 lnn1 ivn1 rvn1 hqn1 hcn1 hln1 hin1 hrn1 => ⟨32, (z_in (by omega)), ?_⟩)
  refine c_g0 C (fun hg1 => ?_)
  refine hv5 (show ∀ b, b ≠ qn1 → lnn1 b = ln b from (fun b hb => by rw [hln1]; exact va_up_ne _ _ hb)) (show lnn1 qn1 = 16 from by rw [hln1]; exact va_up_self _ _ _) (F2.new hX0 hqn1 hin1 hrn1) (show ty (L ++ [qn1]) cln1 qn1 41 from ty_new hcn1) (show qn1 ∉ L from fun h => hqn1 ((hX0 qn1 h).1)) (fun hxn1 lqn1 F3 tqn1 h0qn1 => ?_)
  refine hv2 (W2.new (ln2 := lnn1) hqn1 (hg1 qn1 (List.mem_append_right _ List.mem_cons_self)) hcn1 hxn1 hin1 hrn1 (fun _ => ⟨(show (-2147483648 : Int) ≤ 0 by decide), (show (0 : Int) ≤ 2147483647 by decide)⟩) (Or.inr (fun _ => rfl)) (fun _ => by show 16 ≤ lnn1 qn1 ∧ lnn1 qn1 ≤ 80000; omega) rfl rfl) (XT.new hqn1 hcn1 hxn1) (fun W3 xl1 => ?_)
  refine hv3 (hX0.trans xl1) (nw0.new xl1 hcn1) (xl1.ty t_a0) (fun X1 nw1 ty1 => ?_)
  refine c_putr (x := (some qn1)) (k := 1) C ck_2 dX1_init_19 w1_39 (by decide) rfl ty1 rfl rfl (by decide) rfl (by rfl) (by rfl) (fun rv1 pq3 => ⟨32, (zp2 (Nat.le_refl _)), ?_⟩)
  refine hv9 (W3.putr pq3 ty1 (fun qr => by rw [ty1.2] at qr; cases qr) rfl (by decide)) (F3.putr X1 pq3 ty1 rfl) (show rv1 a0 1 = (some qn1) from by rw [pq3]; exact upr_s) (show ∀ k, ([1] : List Nat).contains k = false → rv1 a0 k = rv a0 k from fun k hk => (Eq.trans (show rv1 a0 k = rvn1 a0 k from (by rw [pq3]; exact upr_j (fun e => by subst e; exact absurd hk (by decide)))) (show rvn1 a0 k = rv a0 k from (by rw [hrn1]; exact congrFun (up0_a (ne_in t_a0.1 hqn1)) _)))) (show ivn1 a0 0 = iv2 a0 0 from by rw [hin1]; exact congrFun (up0_a (ne_in t_a0.1 hqn1)) _) (show iv2 a0 0 = i from by rw [pq2]; exact up2_s) (show ivn1 a0 2 = iv2 a0 2 from by rw [hin1]; exact congrFun (up0_a (ne_in t_a0.1 hqn1)) _) (show iv2 a0 2 = iv1 a0 2 from by rw [pq2]; exact up2_j (by decide)) (show iv1 a0 2 = 0 from by rw [pq1]; exact up2_s) (fun W4 F4 rp1 rn1 ie1 ie2 ie3 ie4 ie5 => ?_)
  refine hv2 (show (-2147483648) ≤ ivn1 a0 0 ∧ ivn1 a0 0 ≤ 2147483647 from W4.int ty1 0) (show (-2147483648) ≤ ivn1 a0 2 ∧ ivn1 a0 2 ≤ 2147483647 from W4.int ty1 2) (fun ri1 ri2 => ?_)
  exact c_vret C dX1_init_22 rfl (by decide) (rom0 hph (Nat.le_refl 0) (by decide)) ⟨rfl, X1, F4, W4, ⟨qn1, rn1, rp1, tqn1, (by omega), (by omega), (by omega)⟩, nw1.sub (by decide)⟩
set_option maxHeartbeats 4000000 in
set_option maxRecDepth 100000 in
theorem Y_source {l : Launch} {G : GT} {mi : Nat} {sk : Nat → Nat} {L : List Nat} {cl ln : Nat → Nat} {iv : Nat → Nat → Int} {rv : Nat → Nat → Option Nat}  {a0 : Nat} (hW : WT (g0 G) sk L cl ln iv rv) (t_a0 : ty L cl a0 209)  : Mc l G mi zPf 0 yX8_init cX8_init 1 none 1 [.ref a0] L cl ln iv rv 306 (fun v L2 cl2 ln2 iv2 rv2 => v = none ∧ XT L cl ln L2 cl2 ln2 ∧ fT [209] L cl iv rv iv2 rv2 ∧ WT (g0 G) sk L2 cl2 ln2 iv2 rv2 ∧ (∃ b3 b4 b6, (∀ k, ([3, 4, 6] : List Nat).contains k = false → rv2 a0 k = rv a0 k) ∧ rv2 a0 3 = some b3 ∧ ty L2 cl2 b3 56 ∧ rv2 a0 4 = some b4 ∧ ty L2 cl2 b4 57 ∧ rv2 a0 6 = some b6 ∧ ty L2 cl2 b6 58 ∧ iv2 a0 0 = 0 ∧ iv2 a0 1 = 0 ∧ iv2 a0 2 = 0 ∧ iv2 a0 5 = 0 ∧ iv2 a0 7 = 0) ∧ NW [56, 57, 58] L L2 cl2) := by
  refine Mc.mk (by decide) (Nat.le_of_ble_eq_true rfl) ?_
  intro p e s m args below meth c A C hM
  refine hv4 ((show zPf ln rv ≤ 0 from Nat.le_refl 0)) (show NW [] L L cl from NW.refl) (show XT L cl ln L cl ln from XT.refl) (show fT [209] L cl iv rv iv rv from fT.refl) (fun hph nw0 hX0 hF0 => ?_)
  refine c_aload_n (j := 0) (x := a0) C dX8_init_0 rfl ?_
  refine c_objInit C dX8_init_1 w1_102 w1_30 w1_31 (by decide) (Nat.le_of_ble_eq_true rfl) ?_
  refine c_aload_n (j := 0) (x := a0) C dX8_init_4 rfl ?_
  refine c_iconst C dX8_init_5 ?_
  refine c_put (z := 0) (k := 0) C ck_9 dX8_init_6 w1_103 (by decide) rfl t_a0 rfl rfl (by decide) rfl (by rfl) (by rfl) (fun iv1 pq1 => ?_)
  refine hv2 (hW.puti pq1 t_a0 ⟨by decide, by decide⟩ rfl) (hF0.puti hX0 pq1 t_a0 rfl) (fun W1 F1 => ?_)
  refine c_aload_n (j := 0) (x := a0) C dX8_init_9 rfl ?_
  refine c_iconst C dX8_init_10 ?_
  refine c_put (z := 0) (k := 1) C ck_9 dX8_init_11 w1_104 (by decide) rfl t_a0 rfl rfl (by decide) rfl (by decide) (by decide) (fun iv2 pq2 => ?_)
  refine hv2 (W1.puti pq2 t_a0 ⟨by decide, by decide⟩ rfl) (F1.puti hX0 pq2 t_a0 rfl) (fun W2 F2 => ?_)
  refine c_aload_n (j := 0) (x := a0) C dX8_init_14 rfl ?_
  refine c_iconst C dX8_init_15 ?_
  refine c_put (z := 0) (k := 2) C ck_9 dX8_init_16 w1_105 (by decide) rfl t_a0 rfl rfl (by decide) rfl (by decide) (by decide) (fun iv3 pq3 => ?_)
  refine hv2 (W2.puti pq3 t_a0 ⟨by decide, by decide⟩ rfl) (F2.puti hX0 pq3 t_a0 rfl) (fun W3 F3 => ?_)
  refine c_aload_n (j := 0) (x := a0) C dX8_init_19 rfl ?_
  refine c_bipush (z := 126) C dX8_init_20 (by decide) ?_
  refine c_newaZ (z := 126) (N := 126) C 56 dX8_init_22 w1_129 rfl (by omega) (by omega) (rom2 hph hph (by decide)) (fun qn1 cln1 lnn1 ivn1 rvn1 hqn1 hcn1 hln1 hin1 hrn1 => ⟨142, (z_in (by omega)), ?_⟩)
  refine c_g0 C (fun hg1 => ?_)
  refine hv5 (show ∀ b, b ≠ qn1 → lnn1 b = ln b from (fun b hb => by rw [hln1]; exact va_up_ne _ _ hb)) (show lnn1 qn1 = 126 from by rw [hln1]; exact va_up_self _ _ _) (F3.new hX0 hqn1 hin1 hrn1) (show ty (L ++ [qn1]) cln1 qn1 56 from ty_new hcn1) (show qn1 ∉ L from fun h => hqn1 ((hX0 qn1 h).1)) (fun hxn1 lqn1 F4 tqn1 h0qn1 => ?_)
  refine hv2 (W3.new (ln2 := lnn1) hqn1 (hg1 qn1 (List.mem_append_right _ List.mem_cons_self)) hcn1 hxn1 hin1 hrn1 (fun _ => ⟨(show (0 : Int) ≤ 0 by decide), (show (0 : Int) ≤ 1 by decide)⟩) (Or.inr (fun _ => rfl)) (fun _ => by show 126 ≤ lnn1 qn1 ∧ lnn1 qn1 ≤ 126; omega) rfl rfl) (XT.new hqn1 hcn1 hxn1) (fun W4 xl1 => ?_)
  refine hv3 (hX0.trans xl1) (nw0.new xl1 hcn1) (xl1.ty t_a0) (fun X1 nw1 ty1 => ?_)
  refine c_putrF (x := (some qn1)) (k := 3) C ck_9 dX8_init_24 w1_107 (by decide) rfl rfl rfl ty1 rfl rfl (by decide) rfl (by rfl) (by rfl) (fun rv1 pq4 => ⟨142, (zp2 (Nat.le_refl _)), ?_⟩)
  refine hv2 (W4.putr pq4 ty1 (fun qr => by rw [ty1.2] at qr; cases qr) rfl (by decide)) (F4.putr X1 pq4 ty1 rfl) (fun W5 F5 => ?_)
  refine c_aload_n (j := 0) (x := a0) C dX8_init_27 rfl ?_
  refine c_bipush (z := 126) C dX8_init_28 (by decide) ?_
  refine c_newaI (z := 126) (N := 126) C 57 dX8_init_30 w1_57 rfl (by omega) (by omega) (rom2 hph (Nat.le_refl 0) (by decide)) (fun qn2 cln2 lnn2 ivn2 rvn2 hqn2 hcn2 hln2 hin2 hrn2 => ⟨284, (z_in (by omega)), ?_⟩)
  refine c_g0 C (fun hg2 => ?_)
  refine hv5 (show ∀ b, b ≠ qn2 → lnn2 b = lnn1 b from (fun b hb => by rw [hln2]; exact va_up_ne _ _ hb)) (show lnn2 qn2 = 126 from by rw [hln2]; exact va_up_self _ _ _) (F5.new X1 hqn2 hin2 hrn2) (show ty ((L ++ [qn1]) ++ [qn2]) cln2 qn2 57 from ty_new hcn2) (show qn2 ∉ L from fun h => hqn2 ((X1 qn2 h).1)) (fun hxn2 lqn2 F6 tqn2 h0qn2 => ?_)
  refine hv2 (W5.new (ln2 := lnn2) hqn2 (hg2 qn2 (List.mem_append_right _ List.mem_cons_self)) hcn2 hxn2 hin2 hrn2 (fun _ => ⟨(show (-2147483648 : Int) ≤ 0 by decide), (show (0 : Int) ≤ 2147483647 by decide)⟩) (Or.inr (fun _ => rfl)) (fun _ => by show 126 ≤ lnn2 qn2 ∧ lnn2 qn2 ≤ 126; omega) rfl rfl) (XT.new hqn2 hcn2 hxn2) (fun W6 xl2 => ?_)
  refine hv3 (X1.trans xl2) (nw1.new xl2 hcn2) (xl2.ty ty1) (fun X2 nw2 ty2 => ?_)
  refine c_putrF (x := (some qn2)) (k := 4) C ck_9 dX8_init_32 w1_108 (by decide) rfl rfl rfl ty2 rfl rfl (by decide) rfl (by rfl) (by rfl) (fun rv2 pq5 => ⟨284, (zp2 (Nat.le_refl _)), ?_⟩)
  refine hv2 (W6.putr pq5 ty2 (fun qr => by rw [ty2.2] at qr; cases qr) rfl (by decide)) (F6.putr X2 pq5 ty2 rfl) (fun W7 F7 => ?_)
  refine c_aload_n (j := 0) (x := a0) C dX8_init_35 rfl ?_
  refine c_iconst C dX8_init_36 ?_
  refine c_put (z := 0) (k := 5) C ck_9 dX8_init_37 w1_109 (by decide) rfl ty2 rfl rfl (by decide) rfl (by rfl) (by rfl) (fun iv4 pq6 => ?_)
  refine hv2 (W7.puti pq6 ty2 ⟨by decide, by decide⟩ rfl) (F7.puti X2 pq6 ty2 rfl) (fun W8 F8 => ?_)
  refine c_aload_n (j := 0) (x := a0) C dX8_init_40 rfl ?_
  refine c_bipush (z := 6) C dX8_init_41 (by decide) ?_
  have ty3 := xl2.ty tqn1
  refine c_newaI (z := 6) (N := 6) C 58 dX8_init_43 w1_57 rfl (by omega) (by omega) (rom2 hph (Nat.le_refl 0) (by decide)) (fun qn3 cln3 lnn3 ivn3 rvn3 hqn3 hcn3 hln3 hin3 hrn3 => ⟨306, (z_in (by omega)), ?_⟩)
  refine c_g0 C (fun hg3 => ?_)
  refine hv5 (show ∀ b, b ≠ qn3 → lnn3 b = lnn2 b from (fun b hb => by rw [hln3]; exact va_up_ne _ _ hb)) (show lnn3 qn3 = 6 from by rw [hln3]; exact va_up_self _ _ _) (F8.new X2 hqn3 hin3 hrn3) (show ty (((L ++ [qn1]) ++ [qn2]) ++ [qn3]) cln3 qn3 58 from ty_new hcn3) (show qn3 ∉ L from fun h => hqn3 ((X2 qn3 h).1)) (fun hxn3 lqn3 F9 tqn3 h0qn3 => ?_)
  refine hv2 (W8.new (ln2 := lnn3) hqn3 (hg3 qn3 (List.mem_append_right _ List.mem_cons_self)) hcn3 hxn3 hin3 hrn3 (fun _ => ⟨(show (0 : Int) ≤ 0 by decide), (show (0 : Int) ≤ 125 by decide)⟩) (Or.inr (fun _ => rfl)) (fun _ => by show 6 ≤ lnn3 qn3 ∧ lnn3 qn3 ≤ 6; omega) rfl rfl) (XT.new hqn3 hcn3 hxn3) (fun W9 xl3 => ?_)
  refine hv3 (X2.trans xl3) (nw2.new xl3 hcn3) (xl3.ty ty2) (fun X3 nw3 ty4 => ?_)
  refine c_putrF (x := (some qn3)) (k := 6) C ck_9 dX8_init_45 w1_110 (by decide) rfl rfl rfl ty4 rfl rfl (by decide) rfl (by rfl) (by rfl) (fun rv3 pq7 => ⟨306, (zp2 (Nat.le_refl _)), ?_⟩)
  refine hv2 (W9.putr pq7 ty4 (fun qr => by rw [ty4.2] at qr; cases qr) rfl (by decide)) (F9.putr X3 pq7 ty4 rfl) (fun W10 F10 => ?_)
  refine c_aload_n (j := 0) (x := a0) C dX8_init_48 rfl ?_
  refine c_iconst C dX8_init_49 ?_
  refine c_put (z := 0) (k := 7) C ck_9 dX8_init_50 w1_111 (by decide) rfl ty4 rfl rfl (by decide) rfl (by rfl) (by rfl) (fun iv5 pq8 => ?_)
  refine hv4 (W10.puti pq8 ty4 ⟨by decide, by decide⟩ rfl) (F10.puti X3 pq8 ty4 rfl) (show rv1 a0 3 = (some qn1) from by rw [pq4]; exact upr_s) (show rvn2 a0 3 = rv1 a0 3 from (by rw [hrn2]; exact congrFun (up0_a (ne_in ty1.1 hqn2)) _)) (fun W11 F11 rp1 re1 => ?_)
  rw [rp1] at re1
  have re2 : rv2 a0 3 = rvn2 a0 3 := (by rw [pq5]; exact upr_j (by decide))
  rw [re1] at re2
  have re3 : rvn3 a0 3 = rv2 a0 3 := (by rw [hrn3]; exact congrFun (up0_a (ne_in ty2.1 hqn3)) _)
  rw [re2] at re3
  have re4 : rv3 a0 3 = rvn3 a0 3 := (by rw [pq7]; exact upr_j (by decide))
  rw [re3] at re4
  refine hv2 (show rv2 a0 4 = (some qn2) from by rw [pq5]; exact upr_s) (show rvn3 a0 4 = rv2 a0 4 from (by rw [hrn3]; exact congrFun (up0_a (ne_in ty2.1 hqn3)) _)) (fun rp2 re5 => ?_)
  rw [rp2] at re5
  have re6 : rv3 a0 4 = rvn3 a0 4 := (by rw [pq7]; exact upr_j (by decide))
  rw [re5] at re6
  refine hv34 (show rv3 a0 6 = (some qn3) from by rw [pq7]; exact upr_s) (show ∀ k, ([3, 4, 6] : List Nat).contains k = false → rv3 a0 k = rv a0 k from fun k hk => (Eq.trans (show rv3 a0 k = rvn3 a0 k from (by rw [pq7]; exact upr_j (fun e => by subst e; exact absurd hk (by decide)))) (Eq.trans (show rvn3 a0 k = rv2 a0 k from (by rw [hrn3]; exact congrFun (up0_a (ne_in ty2.1 hqn3)) _)) (Eq.trans (show rv2 a0 k = rvn2 a0 k from (by rw [pq5]; exact upr_j (fun e => by subst e; exact absurd hk (by decide)))) (Eq.trans (show rvn2 a0 k = rv1 a0 k from (by rw [hrn2]; exact congrFun (up0_a (ne_in ty1.1 hqn2)) _)) (Eq.trans (show rv1 a0 k = rvn1 a0 k from (by rw [pq4]; exact upr_j (fun e => by subst e; exact absurd hk (by decide)))) (show rvn1 a0 k = rv a0 k from (by rw [hrn1]; exact congrFun (up0_a (ne_in t_a0.1 hqn1)) _)))))))) (xl3.ty ty3) (xl3.ty tqn2) (show (-2147483648) ≤ iv5 a0 0 ∧ iv5 a0 0 ≤ 2147483647 from W11.int ty4 0) (show iv5 a0 0 = ivn3 a0 0 from by rw [pq8]; exact up2_j (by decide)) (show ivn3 a0 0 = iv4 a0 0 from by rw [hin3]; exact congrFun (up0_a (ne_in ty2.1 hqn3)) _) (show iv4 a0 0 = ivn2 a0 0 from by rw [pq6]; exact up2_j (by decide)) (show ivn2 a0 0 = ivn1 a0 0 from by rw [hin2]; exact congrFun (up0_a (ne_in ty1.1 hqn2)) _) (show ivn1 a0 0 = iv3 a0 0 from by rw [hin1]; exact congrFun (up0_a (ne_in t_a0.1 hqn1)) _) (show iv3 a0 0 = iv2 a0 0 from by rw [pq3]; exact up2_j (by decide)) (show iv2 a0 0 = iv1 a0 0 from by rw [pq2]; exact up2_j (by decide)) (show iv1 a0 0 = 0 from by rw [pq1]; exact up2_s) (show (-2147483648) ≤ iv5 a0 1 ∧ iv5 a0 1 ≤ 2147483647 from W11.int ty4 1) (show iv5 a0 1 = ivn3 a0 1 from by rw [pq8]; exact up2_j (by decide)) (show ivn3 a0 1 = iv4 a0 1 from by rw [hin3]; exact congrFun (up0_a (ne_in ty2.1 hqn3)) _) (show iv4 a0 1 = ivn2 a0 1 from by rw [pq6]; exact up2_j (by decide)) (show ivn2 a0 1 = ivn1 a0 1 from by rw [hin2]; exact congrFun (up0_a (ne_in ty1.1 hqn2)) _) (show ivn1 a0 1 = iv3 a0 1 from by rw [hin1]; exact congrFun (up0_a (ne_in t_a0.1 hqn1)) _) (show iv3 a0 1 = iv2 a0 1 from by rw [pq3]; exact up2_j (by decide)) (show iv2 a0 1 = 0 from by rw [pq2]; exact up2_s) (show (-2147483648) ≤ iv5 a0 2 ∧ iv5 a0 2 ≤ 2147483647 from W11.int ty4 2) (show iv5 a0 2 = ivn3 a0 2 from by rw [pq8]; exact up2_j (by decide)) (show ivn3 a0 2 = iv4 a0 2 from by rw [hin3]; exact congrFun (up0_a (ne_in ty2.1 hqn3)) _) (show iv4 a0 2 = ivn2 a0 2 from by rw [pq6]; exact up2_j (by decide)) (show ivn2 a0 2 = ivn1 a0 2 from by rw [hin2]; exact congrFun (up0_a (ne_in ty1.1 hqn2)) _) (show ivn1 a0 2 = iv3 a0 2 from by rw [hin1]; exact congrFun (up0_a (ne_in t_a0.1 hqn1)) _) (show iv3 a0 2 = 0 from by rw [pq3]; exact up2_s) (show (-2147483648) ≤ iv5 a0 5 ∧ iv5 a0 5 ≤ 2147483647 from W11.int ty4 5) (show iv5 a0 5 = ivn3 a0 5 from by rw [pq8]; exact up2_j (by decide)) (show ivn3 a0 5 = iv4 a0 5 from by rw [hin3]; exact congrFun (up0_a (ne_in ty2.1 hqn3)) _) (show iv4 a0 5 = 0 from by rw [pq6]; exact up2_s) (show (-2147483648) ≤ iv5 a0 7 ∧ iv5 a0 7 ≤ 2147483647 from W11.int ty4 7) (show iv5 a0 7 = 0 from by rw [pq8]; exact up2_s) (fun rp3 rn1 ty5 ty6 ri1 ie1 ie2 ie3 ie4 ie5 ie6 ie7 ie8 ri2 ie9 ie10 ie11 ie12 ie13 ie14 ie15 ri3 ie16 ie17 ie18 ie19 ie20 ie21 ri4 ie22 ie23 ie24 ri5 ie25 => ?_)
  exact c_vret C dX8_init_53 rfl (by decide) (rom0 hph (Nat.le_refl 0) (by decide)) ⟨rfl, X3, F11, W11, ⟨qn1, qn2, qn3, rn1, re4, ty5, re6, ty6, rp3, tqn3, (by omega), (by omega), (by omega), (by omega), (by omega)⟩, nw3.sub (by decide)⟩
set_option maxHeartbeats 4000000 in
set_option maxRecDepth 100000 in
theorem Y_setting {l : Launch} {G : GT} {mi : Nat} {sk : Nat → Nat} {L : List Nat} {cl ln : Nat → Nat} {iv : Nat → Nat → Int} {rv : Nat → Nat → Option Nat}  {a0 : Nat} (hW : WT (g0 G) sk L cl ln iv rv) (t_a0 : ty L cl a0 207)  : Mc l G mi zPf 0 yX6_init cX6_init 1 none 1 [.ref a0] L cl ln iv rv 2301 (fun v L2 cl2 ln2 iv2 rv2 => v = none ∧ XT L cl ln L2 cl2 ln2 ∧ fT [207] L cl iv rv iv2 rv2 ∧ WT (g0 G) sk L2 cl2 ln2 iv2 rv2 ∧ (∃ b0 b1 b2 b3 b6 b8, (∀ k, ([0, 1, 2, 3, 6, 8] : List Nat).contains k = false → rv2 a0 k = rv a0 k) ∧ rv2 a0 0 = some b0 ∧ ty L2 cl2 b0 50 ∧ rv2 a0 1 = some b1 ∧ ty L2 cl2 b1 51 ∧ rv2 a0 2 = some b2 ∧ ty L2 cl2 b2 52 ∧ rv2 a0 3 = some b3 ∧ ty L2 cl2 b3 53 ∧ rv2 a0 6 = some b6 ∧ ty L2 cl2 b6 54 ∧ rv2 a0 8 = some b8 ∧ ty L2 cl2 b8 55 ∧ iv2 a0 4 = 0 ∧ iv2 a0 5 = 0 ∧ iv2 a0 7 = 0 ∧ iv2 a0 9 = 0 ∧ iv2 a0 10 = 0 ∧ iv2 a0 11 = 0) ∧ NW [50, 51, 52, 53, 54, 55] L L2 cl2) := by
  refine Mc.mk (by decide) (Nat.le_of_ble_eq_true rfl) ?_
  intro p e s m args below meth c A C hM
  refine hv4 ((show zPf ln rv ≤ 0 from Nat.le_refl 0)) (show NW [] L L cl from NW.refl) (show XT L cl ln L cl ln from XT.refl) (show fT [207] L cl iv rv iv rv from fT.refl) (fun hph nw0 hX0 hF0 => ?_)
  refine c_aload_n (j := 0) (x := a0) C dX6_init_0 rfl ?_
  refine c_objInit C dX6_init_1 w1_135 w1_30 w1_31 (by decide) (Nat.le_of_ble_eq_true rfl) ?_
  refine c_aload_n (j := 0) (x := a0) C dX6_init_4 rfl ?_
  refine c_sipush (z := 500) C dX6_init_5 (by decide) ?_
  refine c_newaI (z := 500) (N := 500) C 50 dX6_init_8 w1_57 rfl (by omega) (by omega) (rom2 hph hph (by decide)) (fun qn1 cln1 lnn1 ivn1 rvn1 hqn1 hcn1 hln1 hin1 hrn1 => ⟨516, (z_in (by omega)), ?_⟩)
  refine c_g0 C (fun hg1 => ?_)
  refine hv5 (show ∀ b, b ≠ qn1 → lnn1 b = ln b from (fun b hb => by rw [hln1]; exact va_up_ne _ _ hb)) (show lnn1 qn1 = 500 from by rw [hln1]; exact va_up_self _ _ _) (hF0.new hX0 hqn1 hin1 hrn1) (show ty (L ++ [qn1]) cln1 qn1 50 from ty_new hcn1) (show qn1 ∉ L from fun h => hqn1 ((hX0 qn1 h).1)) (fun hxn1 lqn1 F1 tqn1 h0qn1 => ?_)
  refine hv2 (hW.new (ln2 := lnn1) hqn1 (hg1 qn1 (List.mem_append_right _ List.mem_cons_self)) hcn1 hxn1 hin1 hrn1 (fun _ => ⟨(show (-2147483648 : Int) ≤ 0 by decide), (show (0 : Int) ≤ 2147483647 by decide)⟩) (Or.inr (fun _ => rfl)) (fun _ => by show 500 ≤ lnn1 qn1 ∧ lnn1 qn1 ≤ 500; omega) rfl rfl) (XT.new hqn1 hcn1 hxn1) (fun W1 xl1 => ?_)
  refine hv3 (hX0.trans xl1) (nw0.new xl1 hcn1) (xl1.ty t_a0) (fun X1 nw1 ty1 => ?_)
  refine c_putrF (x := (some qn1)) (k := 0) C ck_7 dX6_init_10 w1_136 (by decide) rfl rfl rfl ty1 rfl rfl (by decide) rfl (by rfl) (by rfl) (fun rv1 pq1 => ⟨516, (zp2 (Nat.le_refl _)), ?_⟩)
  refine hv2 (W1.putr pq1 ty1 (fun qr => by rw [ty1.2] at qr; cases qr) rfl (by decide)) (F1.putr X1 pq1 ty1 rfl) (fun W2 F2 => ?_)
  refine c_aload_n (j := 0) (x := a0) C dX6_init_13 rfl ?_
  refine c_sipush (z := 500) C dX6_init_14 (by decide) ?_
  refine c_newaI (z := 500) (N := 500) C 51 dX6_init_17 w1_57 rfl (by omega) (by omega) (rom2 hph (Nat.le_refl 0) (by decide)) (fun qn2 cln2 lnn2 ivn2 rvn2 hqn2 hcn2 hln2 hin2 hrn2 => ⟨1032, (z_in (by omega)), ?_⟩)
  refine c_g0 C (fun hg2 => ?_)
  refine hv5 (show ∀ b, b ≠ qn2 → lnn2 b = lnn1 b from (fun b hb => by rw [hln2]; exact va_up_ne _ _ hb)) (show lnn2 qn2 = 500 from by rw [hln2]; exact va_up_self _ _ _) (F2.new X1 hqn2 hin2 hrn2) (show ty ((L ++ [qn1]) ++ [qn2]) cln2 qn2 51 from ty_new hcn2) (show qn2 ∉ L from fun h => hqn2 ((X1 qn2 h).1)) (fun hxn2 lqn2 F3 tqn2 h0qn2 => ?_)
  refine hv2 (W2.new (ln2 := lnn2) hqn2 (hg2 qn2 (List.mem_append_right _ List.mem_cons_self)) hcn2 hxn2 hin2 hrn2 (fun _ => ⟨(show (-2147483648 : Int) ≤ 0 by decide), (show (0 : Int) ≤ 2147483647 by decide)⟩) (Or.inr (fun _ => rfl)) (fun _ => by show 500 ≤ lnn2 qn2 ∧ lnn2 qn2 ≤ 500; omega) rfl rfl) (XT.new hqn2 hcn2 hxn2) (fun W3 xl2 => ?_)
  refine hv3 (X1.trans xl2) (nw1.new xl2 hcn2) (xl2.ty ty1) (fun X2 nw2 ty2 => ?_)
  refine c_putrF (x := (some qn2)) (k := 1) C ck_7 dX6_init_19 w1_137 (by decide) rfl rfl rfl ty2 rfl rfl (by decide) rfl (by rfl) (by rfl) (fun rv2 pq2 => ⟨1032, (zp2 (Nat.le_refl _)), ?_⟩)
  refine hv2 (W3.putr pq2 ty2 (fun qr => by rw [ty2.2] at qr; cases qr) rfl (by decide)) (F3.putr X2 pq2 ty2 rfl) (fun W4 F4 => ?_)
  refine c_aload_n (j := 0) (x := a0) C dX6_init_22 rfl ?_
  refine c_sipush (z := 500) C dX6_init_23 (by decide) ?_
  have ty3 := xl2.ty tqn1
  refine c_newaZ (z := 500) (N := 500) C 52 dX6_init_26 w1_129 rfl (by omega) (by omega) (rom2 hph (Nat.le_refl 0) (by decide)) (fun qn3 cln3 lnn3 ivn3 rvn3 hqn3 hcn3 hln3 hin3 hrn3 => ⟨1548, (z_in (by omega)), ?_⟩)
  refine c_g0 C (fun hg3 => ?_)
  refine hv5 (show ∀ b, b ≠ qn3 → lnn3 b = lnn2 b from (fun b hb => by rw [hln3]; exact va_up_ne _ _ hb)) (show lnn3 qn3 = 500 from by rw [hln3]; exact va_up_self _ _ _) (F4.new X2 hqn3 hin3 hrn3) (show ty (((L ++ [qn1]) ++ [qn2]) ++ [qn3]) cln3 qn3 52 from ty_new hcn3) (show qn3 ∉ L from fun h => hqn3 ((X2 qn3 h).1)) (fun hxn3 lqn3 F5 tqn3 h0qn3 => ?_)
  refine hv2 (W4.new (ln2 := lnn3) hqn3 (hg3 qn3 (List.mem_append_right _ List.mem_cons_self)) hcn3 hxn3 hin3 hrn3 (fun _ => ⟨(show (0 : Int) ≤ 0 by decide), (show (0 : Int) ≤ 1 by decide)⟩) (Or.inr (fun _ => rfl)) (fun _ => by show 500 ≤ lnn3 qn3 ∧ lnn3 qn3 ≤ 500; omega) rfl rfl) (XT.new hqn3 hcn3 hxn3) (fun W5 xl3 => ?_)
  refine hv3 (X2.trans xl3) (nw2.new xl3 hcn3) (xl3.ty ty2) (fun X3 nw3 ty4 => ?_)
  refine c_putrF (x := (some qn3)) (k := 2) C ck_7 dX6_init_28 w1_138 (by decide) rfl rfl rfl ty4 rfl rfl (by decide) rfl (by rfl) (by rfl) (fun rv3 pq3 => ⟨1548, (zp2 (Nat.le_refl _)), ?_⟩)
  refine hv2 (W5.putr pq3 ty4 (fun qr => by rw [ty4.2] at qr; cases qr) rfl (by decide)) (F5.putr X3 pq3 ty4 rfl) (fun W6 F6 => ?_)
  refine c_aload_n (j := 0) (x := a0) C dX6_init_31 rfl ?_
  refine c_sipush (z := 500) C dX6_init_32 (by decide) ?_
  refine hv2 (xl3.ty ty3) (xl3.ty tqn2) (fun ty5 ty6 => ?_)
  refine c_newaI (z := 500) (N := 500) C 53 dX6_init_35 w1_57 rfl (by omega) (by omega) (rom2 hph (Nat.le_refl 0) (by decide)) (fun qn4 cln4 lnn4 ivn4 rvn4 hqn4 hcn4 hln4 hin4 hrn4 => ⟨2064, (z_in (by omega)), ?_⟩)
  refine c_g0 C (fun hg4 => ?_)
  refine hv5 (show ∀ b, b ≠ qn4 → lnn4 b = lnn3 b from (fun b hb => by rw [hln4]; exact va_up_ne _ _ hb)) (show lnn4 qn4 = 500 from by rw [hln4]; exact va_up_self _ _ _) (F6.new X3 hqn4 hin4 hrn4) (show ty ((((L ++ [qn1]) ++ [qn2]) ++ [qn3]) ++ [qn4]) cln4 qn4 53 from ty_new hcn4) (show qn4 ∉ L from fun h => hqn4 ((X3 qn4 h).1)) (fun hxn4 lqn4 F7 tqn4 h0qn4 => ?_)
  refine hv2 (W6.new (ln2 := lnn4) hqn4 (hg4 qn4 (List.mem_append_right _ List.mem_cons_self)) hcn4 hxn4 hin4 hrn4 (fun _ => ⟨(show (-2147483648 : Int) ≤ 0 by decide), (show (0 : Int) ≤ 2147483647 by decide)⟩) (Or.inr (fun _ => rfl)) (fun _ => by show 500 ≤ lnn4 qn4 ∧ lnn4 qn4 ≤ 500; omega) rfl rfl) (XT.new hqn4 hcn4 hxn4) (fun W7 xl4 => ?_)
  refine hv3 (X3.trans xl4) (nw3.new xl4 hcn4) (xl4.ty ty4) (fun X4 nw4 ty7 => ?_)
  refine c_putrF (x := (some qn4)) (k := 3) C ck_7 dX6_init_37 w1_139 (by decide) rfl rfl rfl ty7 rfl rfl (by decide) rfl (by rfl) (by rfl) (fun rv4 pq4 => ⟨2064, (zp2 (Nat.le_refl _)), ?_⟩)
  refine hv2 (W7.putr pq4 ty7 (fun qr => by rw [ty7.2] at qr; cases qr) rfl (by decide)) (F7.putr X4 pq4 ty7 rfl) (fun W8 F8 => ?_)
  refine c_aload_n (j := 0) (x := a0) C dX6_init_40 rfl ?_
  refine c_iconst C dX6_init_41 ?_
  refine c_put (z := 0) (k := 4) C ck_7 dX6_init_42 w1_140 (by decide) rfl ty7 rfl rfl (by decide) rfl (by rfl) (by rfl) (fun iv1 pq5 => ?_)
  refine hv2 (W8.puti pq5 ty7 ⟨by decide, by decide⟩ rfl) (F8.puti X4 pq5 ty7 rfl) (fun W9 F9 => ?_)
  refine c_aload_n (j := 0) (x := a0) C dX6_init_45 rfl ?_
  refine c_iconst C dX6_init_46 ?_
  refine c_put (z := 0) (k := 5) C ck_7 dX6_init_47 w1_143 (by decide) rfl ty7 rfl rfl (by decide) rfl (by decide) (by decide) (fun iv2 pq6 => ?_)
  refine hv2 (W9.puti pq6 ty7 ⟨by decide, by decide⟩ rfl) (F9.puti X4 pq6 ty7 rfl) (fun W10 F10 => ?_)
  refine c_aload_n (j := 0) (x := a0) C dX6_init_50 rfl ?_
  refine c_sipush (z := 200) C dX6_init_51 (by decide) ?_
  refine hv3 (xl4.ty ty5) (xl4.ty ty6) (xl4.ty tqn3) (fun ty8 ty9 ty10 => ?_)
  refine c_newaI (z := 200) (N := 200) C 54 dX6_init_54 w1_57 rfl (by omega) (by omega) (rom2 hph (Nat.le_refl 0) (by decide)) (fun qn5 cln5 lnn5 ivn5 rvn5 hqn5 hcn5 hln5 hin5 hrn5 => ⟨2280, (z_in (by omega)), ?_⟩)
  refine c_g0 C (fun hg5 => ?_)
  refine hv5 (show ∀ b, b ≠ qn5 → lnn5 b = lnn4 b from (fun b hb => by rw [hln5]; exact va_up_ne _ _ hb)) (show lnn5 qn5 = 200 from by rw [hln5]; exact va_up_self _ _ _) (F10.new X4 hqn5 hin5 hrn5) (show ty (((((L ++ [qn1]) ++ [qn2]) ++ [qn3]) ++ [qn4]) ++ [qn5]) cln5 qn5 54 from ty_new hcn5) (show qn5 ∉ L from fun h => hqn5 ((X4 qn5 h).1)) (fun hxn5 lqn5 F11 tqn5 h0qn5 => ?_)
  refine hv2 (W10.new (ln2 := lnn5) hqn5 (hg5 qn5 (List.mem_append_right _ List.mem_cons_self)) hcn5 hxn5 hin5 hrn5 (fun _ => ⟨(show (-2147483648 : Int) ≤ 0 by decide), (show (0 : Int) ≤ 2147483647 by decide)⟩) (Or.inr (fun _ => rfl)) (fun _ => by show 200 ≤ lnn5 qn5 ∧ lnn5 qn5 ≤ 200; omega) rfl rfl) (XT.new hqn5 hcn5 hxn5) (fun W11 xl5 => ?_)
  refine hv3 (X4.trans xl5) (nw4.new xl5 hcn5) (xl5.ty ty7) (fun X5 nw5 ty11 => ?_)
  refine c_putrF (x := (some qn5)) (k := 6) C ck_7 dX6_init_56 w1_144 (by decide) rfl rfl rfl ty11 rfl rfl (by decide) rfl (by rfl) (by rfl) (fun rv5 pq7 => ⟨2280, (zp2 (Nat.le_refl _)), ?_⟩)
  refine hv2 (W11.putr pq7 ty11 (fun qr => by rw [ty11.2] at qr; cases qr) rfl (by decide)) (F11.putr X5 pq7 ty11 rfl) (fun W12 F12 => ?_)
  refine c_aload_n (j := 0) (x := a0) C dX6_init_59 rfl ?_
  refine c_iconst C dX6_init_60 ?_
  refine c_put (z := 0) (k := 7) C ck_7 dX6_init_61 w1_147 (by decide) rfl ty11 rfl rfl (by decide) rfl (by rfl) (by rfl) (fun iv3 pq8 => ?_)
  refine hv2 (W12.puti pq8 ty11 ⟨by decide, by decide⟩ rfl) (F12.puti X5 pq8 ty11 rfl) (fun W13 F13 => ?_)
  refine c_aload_n (j := 0) (x := a0) C dX6_init_64 rfl ?_
  refine c_iconst C dX6_init_65 ?_
  refine hv4 (xl5.ty ty8) (xl5.ty ty9) (xl5.ty ty10) (xl5.ty tqn4) (fun ty12 ty13 ty14 ty15 => ?_)
  refine c_newaI (z := 5) (N := 5) C 55 dX6_init_66 w1_57 rfl (by omega) (by omega) (rom2 hph (Nat.le_refl 0) (by decide)) (fun qn6 cln6 lnn6 ivn6 rvn6 hqn6 hcn6 hln6 hin6 hrn6 => ⟨2301, (z_in (by omega)), ?_⟩)
  refine c_g0 C (fun hg6 => ?_)
  refine hv5 (show ∀ b, b ≠ qn6 → lnn6 b = lnn5 b from (fun b hb => by rw [hln6]; exact va_up_ne _ _ hb)) (show lnn6 qn6 = 5 from by rw [hln6]; exact va_up_self _ _ _) (F13.new X5 hqn6 hin6 hrn6) (show ty ((((((L ++ [qn1]) ++ [qn2]) ++ [qn3]) ++ [qn4]) ++ [qn5]) ++ [qn6]) cln6 qn6 55 from ty_new hcn6) (show qn6 ∉ L from fun h => hqn6 ((X5 qn6 h).1)) (fun hxn6 lqn6 F14 tqn6 h0qn6 => ?_)
  refine hv2 (W13.new (ln2 := lnn6) hqn6 (hg6 qn6 (List.mem_append_right _ List.mem_cons_self)) hcn6 hxn6 hin6 hrn6 (fun _ => ⟨(show (-2147483648 : Int) ≤ 0 by decide), (show (0 : Int) ≤ 2147483647 by decide)⟩) (Or.inr (fun _ => rfl)) (fun _ => by show 5 ≤ lnn6 qn6 ∧ lnn6 qn6 ≤ 5; omega) rfl rfl) (XT.new hqn6 hcn6 hxn6) (fun W14 xl6 => ?_)
  refine hv3 (X5.trans xl6) (nw5.new xl6 hcn6) (xl6.ty ty11) (fun X6 nw6 ty16 => ?_)
  refine c_putrF (x := (some qn6)) (k := 8) C ck_7 dX6_init_68 w1_150 (by decide) rfl rfl rfl ty16 rfl rfl (by decide) rfl (by rfl) (by rfl) (fun rv6 pq9 => ⟨2301, (zp2 (Nat.le_refl _)), ?_⟩)
  refine hv2 (W14.putr pq9 ty16 (fun qr => by rw [ty16.2] at qr; cases qr) rfl (by decide)) (F14.putr X6 pq9 ty16 rfl) (fun W15 F15 => ?_)
  refine c_aload_n (j := 0) (x := a0) C dX6_init_71 rfl ?_
  refine c_iconst C dX6_init_72 ?_
  refine c_put (z := 0) (k := 9) C ck_7 dX6_init_73 w1_151 (by decide) rfl ty16 rfl rfl (by decide) rfl (by rfl) (by rfl) (fun iv4 pq10 => ?_)
  refine hv2 (W15.puti pq10 ty16 ⟨by decide, by decide⟩ rfl) (F15.puti X6 pq10 ty16 rfl) (fun W16 F16 => ?_)
  refine c_aload_n (j := 0) (x := a0) C dX6_init_76 rfl ?_
  refine c_iconst C dX6_init_77 ?_
  refine c_put (z := 0) (k := 10) C ck_7 dX6_init_78 w1_152 (by decide) rfl ty16 rfl rfl (by decide) rfl (by rfl) (by rfl) (fun iv5 pq11 => ?_)
  refine hv2 (W16.puti pq11 ty16 ⟨by decide, by decide⟩ rfl) (F16.puti X6 pq11 ty16 rfl) (fun W17 F17 => ?_)
  refine c_aload_n (j := 0) (x := a0) C dX6_init_81 rfl ?_
  refine c_iconst C dX6_init_82 ?_
  refine c_put (z := 0) (k := 11) C ck_7 dX6_init_83 w1_153 (by decide) rfl ty16 rfl rfl (by decide) rfl (by rfl) (by rfl) (fun iv6 pq12 => ?_)
  refine hv4 (W17.puti pq12 ty16 ⟨by decide, by decide⟩ rfl) (F17.puti X6 pq12 ty16 rfl) (show rv1 a0 0 = (some qn1) from by rw [pq1]; exact upr_s) (show rvn2 a0 0 = rv1 a0 0 from (by rw [hrn2]; exact congrFun (up0_a (ne_in ty1.1 hqn2)) _)) (fun W18 F18 rp1 re1 => ?_)
  rw [rp1] at re1
  have re2 : rv2 a0 0 = rvn2 a0 0 := (by rw [pq2]; exact upr_j (by decide))
  rw [re1] at re2
  have re3 : rvn3 a0 0 = rv2 a0 0 := (by rw [hrn3]; exact congrFun (up0_a (ne_in ty2.1 hqn3)) _)
  rw [re2] at re3
  have re4 : rv3 a0 0 = rvn3 a0 0 := (by rw [pq3]; exact upr_j (by decide))
  rw [re3] at re4
  have re5 : rvn4 a0 0 = rv3 a0 0 := (by rw [hrn4]; exact congrFun (up0_a (ne_in ty4.1 hqn4)) _)
  rw [re4] at re5
  have re6 : rv4 a0 0 = rvn4 a0 0 := (by rw [pq4]; exact upr_j (by decide))
  rw [re5] at re6
  have re7 : rvn5 a0 0 = rv4 a0 0 := (by rw [hrn5]; exact congrFun (up0_a (ne_in ty7.1 hqn5)) _)
  rw [re6] at re7
  have re8 : rv5 a0 0 = rvn5 a0 0 := (by rw [pq7]; exact upr_j (by decide))
  rw [re7] at re8
  have re9 : rvn6 a0 0 = rv5 a0 0 := (by rw [hrn6]; exact congrFun (up0_a (ne_in ty11.1 hqn6)) _)
  rw [re8] at re9
  have re10 : rv6 a0 0 = rvn6 a0 0 := (by rw [pq9]; exact upr_j (by decide))
  rw [re9] at re10
  refine hv2 (show rv2 a0 1 = (some qn2) from by rw [pq2]; exact upr_s) (show rvn3 a0 1 = rv2 a0 1 from (by rw [hrn3]; exact congrFun (up0_a (ne_in ty2.1 hqn3)) _)) (fun rp2 re11 => ?_)
  rw [rp2] at re11
  have re12 : rv3 a0 1 = rvn3 a0 1 := (by rw [pq3]; exact upr_j (by decide))
  rw [re11] at re12
  have re13 : rvn4 a0 1 = rv3 a0 1 := (by rw [hrn4]; exact congrFun (up0_a (ne_in ty4.1 hqn4)) _)
  rw [re12] at re13
  have re14 : rv4 a0 1 = rvn4 a0 1 := (by rw [pq4]; exact upr_j (by decide))
  rw [re13] at re14
  have re15 : rvn5 a0 1 = rv4 a0 1 := (by rw [hrn5]; exact congrFun (up0_a (ne_in ty7.1 hqn5)) _)
  rw [re14] at re15
  have re16 : rv5 a0 1 = rvn5 a0 1 := (by rw [pq7]; exact upr_j (by decide))
  rw [re15] at re16
  have re17 : rvn6 a0 1 = rv5 a0 1 := (by rw [hrn6]; exact congrFun (up0_a (ne_in ty11.1 hqn6)) _)
  rw [re16] at re17
  have re18 : rv6 a0 1 = rvn6 a0 1 := (by rw [pq9]; exact upr_j (by decide))
  rw [re17] at re18
  refine hv2 (show rv3 a0 2 = (some qn3) from by rw [pq3]; exact upr_s) (show rvn4 a0 2 = rv3 a0 2 from (by rw [hrn4]; exact congrFun (up0_a (ne_in ty4.1 hqn4)) _)) (fun rp3 re19 => ?_)
  rw [rp3] at re19
  have re20 : rv4 a0 2 = rvn4 a0 2 := (by rw [pq4]; exact upr_j (by decide))
  rw [re19] at re20
  have re21 : rvn5 a0 2 = rv4 a0 2 := (by rw [hrn5]; exact congrFun (up0_a (ne_in ty7.1 hqn5)) _)
  rw [re20] at re21
  have re22 : rv5 a0 2 = rvn5 a0 2 := (by rw [pq7]; exact upr_j (by decide))
  rw [re21] at re22
  have re23 : rvn6 a0 2 = rv5 a0 2 := (by rw [hrn6]; exact congrFun (up0_a (ne_in ty11.1 hqn6)) _)
  rw [re22] at re23
  have re24 : rv6 a0 2 = rvn6 a0 2 := (by rw [pq9]; exact upr_j (by decide))
  rw [re23] at re24
  refine hv2 (show rv4 a0 3 = (some qn4) from by rw [pq4]; exact upr_s) (show rvn5 a0 3 = rv4 a0 3 from (by rw [hrn5]; exact congrFun (up0_a (ne_in ty7.1 hqn5)) _)) (fun rp4 re25 => ?_)
  rw [rp4] at re25
  have re26 : rv5 a0 3 = rvn5 a0 3 := (by rw [pq7]; exact upr_j (by decide))
  rw [re25] at re26
  have re27 : rvn6 a0 3 = rv5 a0 3 := (by rw [hrn6]; exact congrFun (up0_a (ne_in ty11.1 hqn6)) _)
  rw [re26] at re27
  have re28 : rv6 a0 3 = rvn6 a0 3 := (by rw [pq9]; exact upr_j (by decide))
  rw [re27] at re28
  refine hv2 (show rv5 a0 6 = (some qn5) from by rw [pq7]; exact upr_s) (show rvn6 a0 6 = rv5 a0 6 from (by rw [hrn6]; exact congrFun (up0_a (ne_in ty11.1 hqn6)) _)) (fun rp5 re29 => ?_)
  rw [rp5] at re29
  have re30 : rv6 a0 6 = rvn6 a0 6 := (by rw [pq9]; exact upr_j (by decide))
  rw [re29] at re30
  refine hv39 (show rv6 a0 8 = (some qn6) from by rw [pq9]; exact upr_s) (show ∀ k, ([0, 1, 2, 3, 6, 8] : List Nat).contains k = false → rv6 a0 k = rv a0 k from fun k hk => (Eq.trans (show rv6 a0 k = rvn6 a0 k from (by rw [pq9]; exact upr_j (fun e => by subst e; exact absurd hk (by decide)))) (Eq.trans (show rvn6 a0 k = rv5 a0 k from (by rw [hrn6]; exact congrFun (up0_a (ne_in ty11.1 hqn6)) _)) (Eq.trans (show rv5 a0 k = rvn5 a0 k from (by rw [pq7]; exact upr_j (fun e => by subst e; exact absurd hk (by decide)))) (Eq.trans (show rvn5 a0 k = rv4 a0 k from (by rw [hrn5]; exact congrFun (up0_a (ne_in ty7.1 hqn5)) _)) (Eq.trans (show rv4 a0 k = rvn4 a0 k from (by rw [pq4]; exact upr_j (fun e => by subst e; exact absurd hk (by decide)))) (Eq.trans (show rvn4 a0 k = rv3 a0 k from (by rw [hrn4]; exact congrFun (up0_a (ne_in ty4.1 hqn4)) _)) (Eq.trans (show rv3 a0 k = rvn3 a0 k from (by rw [pq3]; exact upr_j (fun e => by subst e; exact absurd hk (by decide)))) (Eq.trans (show rvn3 a0 k = rv2 a0 k from (by rw [hrn3]; exact congrFun (up0_a (ne_in ty2.1 hqn3)) _)) (Eq.trans (show rv2 a0 k = rvn2 a0 k from (by rw [pq2]; exact upr_j (fun e => by subst e; exact absurd hk (by decide)))) (Eq.trans (show rvn2 a0 k = rv1 a0 k from (by rw [hrn2]; exact congrFun (up0_a (ne_in ty1.1 hqn2)) _)) (Eq.trans (show rv1 a0 k = rvn1 a0 k from (by rw [pq1]; exact upr_j (fun e => by subst e; exact absurd hk (by decide)))) (show rvn1 a0 k = rv a0 k from (by rw [hrn1]; exact congrFun (up0_a (ne_in t_a0.1 hqn1)) _)))))))))))))) (xl6.ty ty12) (xl6.ty ty13) (xl6.ty ty14) (xl6.ty ty15) (xl6.ty tqn5) (show (-2147483648) ≤ iv6 a0 4 ∧ iv6 a0 4 ≤ 2147483647 from W18.int ty16 4) (show iv6 a0 4 = iv5 a0 4 from by rw [pq12]; exact up2_j (by decide)) (show iv5 a0 4 = iv4 a0 4 from by rw [pq11]; exact up2_j (by decide)) (show iv4 a0 4 = ivn6 a0 4 from by rw [pq10]; exact up2_j (by decide)) (show ivn6 a0 4 = iv3 a0 4 from by rw [hin6]; exact congrFun (up0_a (ne_in ty11.1 hqn6)) _) (show iv3 a0 4 = ivn5 a0 4 from by rw [pq8]; exact up2_j (by decide)) (show ivn5 a0 4 = iv2 a0 4 from by rw [hin5]; exact congrFun (up0_a (ne_in ty7.1 hqn5)) _) (show iv2 a0 4 = iv1 a0 4 from by rw [pq6]; exact up2_j (by decide)) (show iv1 a0 4 = 0 from by rw [pq5]; exact up2_s) (show (-2147483648) ≤ iv6 a0 5 ∧ iv6 a0 5 ≤ 2147483647 from W18.int ty16 5) (show iv6 a0 5 = iv5 a0 5 from by rw [pq12]; exact up2_j (by decide)) (show iv5 a0 5 = iv4 a0 5 from by rw [pq11]; exact up2_j (by decide)) (show iv4 a0 5 = ivn6 a0 5 from by rw [pq10]; exact up2_j (by decide)) (show ivn6 a0 5 = iv3 a0 5 from by rw [hin6]; exact congrFun (up0_a (ne_in ty11.1 hqn6)) _) (show iv3 a0 5 = ivn5 a0 5 from by rw [pq8]; exact up2_j (by decide)) (show ivn5 a0 5 = iv2 a0 5 from by rw [hin5]; exact congrFun (up0_a (ne_in ty7.1 hqn5)) _) (show iv2 a0 5 = 0 from by rw [pq6]; exact up2_s) (show (-2147483648) ≤ iv6 a0 7 ∧ iv6 a0 7 ≤ 2147483647 from W18.int ty16 7) (show iv6 a0 7 = iv5 a0 7 from by rw [pq12]; exact up2_j (by decide)) (show iv5 a0 7 = iv4 a0 7 from by rw [pq11]; exact up2_j (by decide)) (show iv4 a0 7 = ivn6 a0 7 from by rw [pq10]; exact up2_j (by decide)) (show ivn6 a0 7 = iv3 a0 7 from by rw [hin6]; exact congrFun (up0_a (ne_in ty11.1 hqn6)) _) (show iv3 a0 7 = 0 from by rw [pq8]; exact up2_s) (show (-2147483648) ≤ iv6 a0 9 ∧ iv6 a0 9 ≤ 2147483647 from W18.int ty16 9) (show iv6 a0 9 = iv5 a0 9 from by rw [pq12]; exact up2_j (by decide)) (show iv5 a0 9 = iv4 a0 9 from by rw [pq11]; exact up2_j (by decide)) (show iv4 a0 9 = 0 from by rw [pq10]; exact up2_s) (show (-2147483648) ≤ iv6 a0 10 ∧ iv6 a0 10 ≤ 2147483647 from W18.int ty16 10) (show iv6 a0 10 = iv5 a0 10 from by rw [pq12]; exact up2_j (by decide)) (show iv5 a0 10 = 0 from by rw [pq11]; exact up2_s) (show (-2147483648) ≤ iv6 a0 11 ∧ iv6 a0 11 ≤ 2147483647 from W18.int ty16 11) (show iv6 a0 11 = 0 from by rw [pq12]; exact up2_s) (fun rp6 rn1 ty17 ty18 ty19 ty20 ty21 ri1 ie1 ie2 ie3 ie4 ie5 ie6 ie7 ie8 ri2 ie9 ie10 ie11 ie12 ie13 ie14 ie15 ri3 ie16 ie17 ie18 ie19 ie20 ri4 ie21 ie22 ie23 ri5 ie24 ie25 ri6 ie26 => ?_)
  exact c_vret C dX6_init_86 rfl (by decide) (rom0 hph (Nat.le_refl 0) (by decide)) ⟨rfl, X6, F18, W18, ⟨qn1, qn2, qn3, qn4, qn5, qn6, rn1, re10, ty17, re18, ty18, re24, ty19, re28, ty20, re30, ty21, rp6, tqn6, (by omega), (by omega), (by omega), (by omega), (by omega), (by omega)⟩, nw6.sub (by decide)⟩
set_option maxHeartbeats 4000000 in
set_option maxRecDepth 100000 in
theorem Y_sheet {l : Launch} {G : GT} {mi : Nat} {sk : Nat → Nat} {L : List Nat} {cl ln : Nat → Nat} {iv : Nat → Nat → Int} {rv : Nat → Nat → Option Nat}  {a0 : Nat} (hW : WT (g0 G) sk L cl ln iv rv) (t_a0 : ty L cl a0 208)  : Mc l G mi zPf 0 yX7_init cX7_init 1 none 1 [.ref a0] L cl ln iv rv 216 (fun v L2 cl2 ln2 iv2 rv2 => v = none ∧ XT L cl ln L2 cl2 ln2 ∧ fT [208] L cl iv rv iv2 rv2 ∧ WT (g0 G) sk L2 cl2 ln2 iv2 rv2 ∧ (∃ b, (∀ k, ([0] : List Nat).contains k = false → rv2 a0 k = rv a0 k) ∧ rv2 a0 0 = some b ∧ ty L2 cl2 b 213 ∧ ln2 b = 200 ∧ (∀ k, rv2 b k = none) ∧ b ∉ L ∧ iv2 a0 1 = 0) ∧ NW [213] L L2 cl2) := by
  refine Mc.mk (by decide) (Nat.le_of_ble_eq_true rfl) ?_
  intro p e s m args below meth c A C hM
  refine hv4 ((show zPf ln rv ≤ 0 from Nat.le_refl 0)) (show NW [] L L cl from NW.refl) (show XT L cl ln L cl ln from XT.refl) (show fT [208] L cl iv rv iv rv from fT.refl) (fun hph nw0 hX0 hF0 => ?_)
  refine c_aload_n (j := 0) (x := a0) C dX7_init_0 rfl ?_
  refine c_objInit C dX7_init_1 w2_30 w1_30 w1_31 (by decide) (Nat.le_of_ble_eq_true rfl) ?_
  refine c_aload_n (j := 0) (x := a0) C dX7_init_4 rfl ?_
  refine c_sipush (z := 200) C dX7_init_5 (by decide) ?_
  refine c_newaL (z := 200) (N := 200) C 213 dX7_init_8 w2_31 w2_32t rfl (by omega) (by omega) (rom2 hph hph (by decide)) (fun qn1 cln1 lnn1 ivn1 rvn1 hqn1 hcn1 hln1 hin1 hrn1 => ⟨216, (z_in (by omega)), ?_⟩)
  refine c_g0 C (fun hg1 => ?_)
  refine hv5 (show ∀ b, b ≠ qn1 → lnn1 b = ln b from (fun b hb => by rw [hln1]; exact va_up_ne _ _ hb)) (show lnn1 qn1 = 200 from by rw [hln1]; exact va_up_self _ _ _) (hF0.new hX0 hqn1 hin1 hrn1) (show ty (L ++ [qn1]) cln1 qn1 213 from ty_new hcn1) (show qn1 ∉ L from fun h => hqn1 ((hX0 qn1 h).1)) (fun hxn1 lqn1 F1 tqn1 h0qn1 => ?_)
  refine hv2 (hW.new (ln2 := lnn1) hqn1 (hg1 qn1 (List.mem_append_right _ List.mem_cons_self)) hcn1 hxn1 hin1 hrn1 (fun _ => ⟨(show (-2147483648 : Int) ≤ 0 by decide), (show (0 : Int) ≤ 2147483647 by decide)⟩) (Or.inl rfl) (fun q => by cases q) rfl rfl) (XT.new hqn1 hcn1 hxn1) (fun W1 xl1 => ?_)
  refine hv3 (hX0.trans xl1) (nw0.new xl1 hcn1) (xl1.ty t_a0) (fun X1 nw1 ty1 => ?_)
  refine c_putrF (x := (some qn1)) (k := 0) C ck_8 dX7_init_11 w2_33 (by decide) rfl rfl rfl ty1 rfl rfl (by decide) rfl (by rfl) (by rfl) (fun rv1 pq1 => ⟨216, (zp2 (Nat.le_refl _)), ?_⟩)
  refine hv2 (W1.putr pq1 ty1 (fun qr => by rw [ty1.2] at qr; cases qr) rfl (by decide)) (F1.putr X1 pq1 ty1 rfl) (fun W2 F2 => ?_)
  refine c_aload_n (j := 0) (x := a0) C dX7_init_14 rfl ?_
  refine c_iconst C dX7_init_15 ?_
  refine c_put (z := 0) (k := 1) C ck_8 dX7_init_16 w2_34 (by decide) rfl ty1 rfl rfl (by decide) rfl (by rfl) (by rfl) (fun iv1 pq2 => ?_)
  refine hv2 (W2.puti pq2 ty1 ⟨by decide, by decide⟩ rfl) (F2.puti X1 pq2 ty1 rfl) (fun W3 F3 => ?_)
  refine c_aload_n (j := 0) (x := a0) C dX7_init_19 rfl ?_
  refine c_iconst C dX7_init_20 ?_
  refine c_put (z := 0) (k := 2) C ck_8 dX7_init_21 w2_36 (by decide) rfl ty1 rfl rfl (by decide) rfl (by rfl) (by rfl) (fun iv2 pq3 => ?_)
  refine hv7 (W3.puti pq3 ty1 ⟨by decide, by decide⟩ rfl) (F3.puti X1 pq3 ty1 rfl) (show rv1 a0 0 = (some qn1) from by rw [pq1]; exact upr_s) (show ∀ k, ([] : List Nat).contains k = false → rv1 qn1 k = none from fun k hk => (Eq.trans (show rv1 qn1 k = rvn1 qn1 k from (by rw [pq1]; exact congrFun (upr_a (ne_ty tqn1 ty1 (by decide))) _)) (show rvn1 qn1 k = none from (by rw [hrn1]; exact up0_s)))) (show iv2 a0 1 = iv1 a0 1 from by rw [pq3]; exact up2_j (by decide)) (show iv1 a0 1 = 0 from by rw [pq2]; exact up2_s) (show ∀ k, ([0] : List Nat).contains k = false → rv1 a0 k = rv a0 k from fun k hk => (Eq.trans (show rv1 a0 k = rvn1 a0 k from (by rw [pq1]; exact upr_j (fun e => by subst e; exact absurd hk (by decide)))) (show rvn1 a0 k = rv a0 k from (by rw [hrn1]; exact congrFun (up0_a (ne_in t_a0.1 hqn1)) _)))) (fun W4 F4 rp1 rn1 ie1 ie2 rn2 => ?_)
  have ri1 : (-2147483648) ≤ iv2 a0 1 ∧ iv2 a0 1 ≤ 2147483647 := W4.int ty1 1
  exact c_vret C dX7_init_24 rfl (by decide) (rom0 hph (Nat.le_refl 0) (by decide)) ⟨rfl, X1, F4, W4, ⟨qn1, rn2, rp1, tqn1, (by omega), (fun k => rn1 k rfl), h0qn1, (by omega)⟩, nw1.sub (by decide)⟩
end
