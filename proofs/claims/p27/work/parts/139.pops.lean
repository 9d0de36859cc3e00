section
set_option maxHeartbeats 4000000 in
set_option maxRecDepth 100000 in
theorem C_measure2 {l : Launch} {G : GT} {mi : Nat} {sk : Nat → Nat} {L : List Nat} {cl ln : Nat → Nat} {iv : Nat → Nat → Int} {rv : Nat → Nat → Option Nat}  {a0 : Nat} {x : Int} {y : Int} {h : Int} (hW : WT (g0 G) sk L cl ln iv rv) (hS : SKL sk L cl) (t_a0 : ty L cl a0 1) (h_x : -2147483648 ≤ x ∧ x ≤ 2147483647) (h_y : -2147483648 ≤ y ∧ y ≤ 2147483647) (h_h : -2147483648 ≤ h ∧ h ≤ 2147483647)  : Mc l G mi (Phi (g0 G) sk) PHM yX11_measure cX11_measure 4 (some .int) 1 [.ref a0, .int (iI x), .int (iI y), .int (iI h)] L cl ln iv rv 0 (fun v L2 cl2 ln2 iv2 rv2 => ∃ f : Int, v = some (.int (iI f)) ∧ L = L2 ∧ cl = cl2 ∧ ln = ln2 ∧ rv = rv2 ∧ fT [1] L cl iv rv iv2 rv2 ∧ WT (g0 G) sk L2 cl2 ln2 iv2 rv2 ∧ (-2147483648 ≤ f ∧ f ≤ 2147483647) ∧ (((f = 1 ∧ 1 ≤ x ∧ x ≤ 100 ∧ 1 ≤ y ∧ y ≤ 50 ∧ 1 ≤ h ∧ h ≤ 255) ∨ (f = -1 ∧ ¬ (1 ≤ x ∧ x ≤ 100 ∧ 1 ≤ y ∧ y ≤ 50 ∧ 1 ≤ h ∧ h ≤ 255))) ∧ ((f = 1 ∧ iv2 a0 11 = x ∧ iv2 a0 12 = y ∧ iv2 a0 13 = h) ∨ (f = -1 ∧ iv2 a0 11 = iv a0 11 ∧ iv2 a0 12 = iv a0 12 ∧ iv2 a0 13 = iv a0 13))) ∧ iv2 a0 14 = iv a0 14 ∧ iv2 a0 15 = iv a0 15 ∧ iv2 a0 16 = iv a0 16) := by
  refine Mc.mk (by decide) (Nat.le_of_ble_eq_true rfl) ?_
  intro p e s m args below meth c A C hM
  refine hv3 (Phi.le hW hS) (show XT L cl ln L cl ln from XT.refl) (show fT [1] L cl iv rv iv rv from fT.refl) (fun hph hX0 hF0 => ?_)
  refine c_iload_n (j := 1) C dX11_measure_0 rfl ?_
  refine c_iconst C dX11_measure_1 ?_
  refine c_icmp_lt (tgt := 34) C ⟨by omega, by omega⟩ ⟨by decide, by decide⟩ dX11_measure_2 (by decide) (fun c1 => ?_) (fun c1 => ?_)
  · refine c_aload_n (j := 0) (x := a0) C dX11_measure_34 rfl ?_
    refine c_bipush (z := 6) C dX11_measure_35 (by decide) ?_
    refine d_callV (As := [.int (iI 6)]) (rest := []) C hM (C_refuse (a0 := a0) (x := 6) hW hS t_a0 ⟨by decide, by decide⟩ ) dX11_measure_37 kV_X11_102 rfl t_a0 rfl rfl (by decide) ck_12 rfl (Nat.le_of_ble_eq_true rfl) ⟨(Nat.le_of_ble_eq_true rfl), (Nat.le_of_ble_eq_true rfl)⟩ hph hph (show 0 + 0 = 0 from rfl) (by decide) (fun rh1 Lh1 clh1 lnh1 ivh1 rvh1 h1 => ?_)
    obtain ⟨f1, rfl, rfl, rfl, rfl, rfl, fl1, W1, rgf1, exf1, kp11f1, kp12f1, kp13f1, kp14f1, kp15f1, kp16f1⟩ := h1
    refine hv7 (show 1 ≤ iv a0 11 ∧ iv a0 11 ≤ 100 from hW.int t_a0 11) (show 1 ≤ iv a0 12 ∧ iv a0 12 ≤ 50 from hW.int t_a0 12) (show (-2147483648) ≤ iv a0 13 ∧ iv a0 13 ≤ 2147483647 from hW.int t_a0 13) (show (-2147483648) ≤ iv a0 14 ∧ iv a0 14 ≤ 2147483647 from hW.int t_a0 14) (show (-2147483648) ≤ iv a0 15 ∧ iv a0 15 ≤ 2147483647 from hW.int t_a0 15) (show (-2147483648) ≤ iv a0 16 ∧ iv a0 16 ≤ 2147483647 from hW.int t_a0 16) (hF0.call hX0 fl1 rfl) (fun ri1 ri2 ri3 ri4 ri5 ri6 F1 => ?_)
    refine c_st (st2 := [.int (iI f1)]) rfl ?_
    refine hv13 (show ivh1 a0 11 = iv a0 11 from kp11f1) (show ivh1 a0 12 = iv a0 12 from kp12f1) (show ivh1 a0 13 = iv a0 13 from kp13f1) (show ivh1 a0 14 = iv a0 14 from kp14f1) (show ivh1 a0 15 = iv a0 15 from kp15f1) (show ivh1 a0 16 = iv a0 16 from kp16f1) (show f1 = -1 from exf1) (show (-2147483648) ≤ ivh1 a0 14 ∧ ivh1 a0 14 ≤ 2147483647 from W1.int t_a0 14) (show (-2147483648) ≤ ivh1 a0 15 ∧ ivh1 a0 15 ≤ 2147483647 from W1.int t_a0 15) (show (-2147483648) ≤ ivh1 a0 16 ∧ ivh1 a0 16 ≤ 2147483647 from W1.int t_a0 16) (show 1 ≤ ivh1 a0 11 ∧ ivh1 a0 11 ≤ 100 from W1.int t_a0 11) (show 1 ≤ ivh1 a0 12 ∧ ivh1 a0 12 ≤ 50 from W1.int t_a0 12) (show (-2147483648) ≤ ivh1 a0 13 ∧ ivh1 a0 13 ≤ 2147483647 from W1.int t_a0 13) (fun gk11f1 gk12f1 gk13f1 gk14f1 gk15f1 gk16f1 gf1 ri7 ri8 ri9 ri10 ri11 ri12 => ?_)
    exact c_iret C dX11_measure_40 rfl (by decide) (rom0 hph hph (by decide)) ⟨f1, rfl, rfl, rfl, rfl, rfl, F1, W1, ⟨by omega, by omega⟩, ⟨by omega, by omega⟩, gk14f1, gk15f1, gk16f1⟩
  · refine c_iload_n (j := 1) C dX11_measure_5 rfl ?_
    refine c_bipush (z := 100) C dX11_measure_6 (by decide) ?_
    refine c_icmp_gt (tgt := 34) C ⟨by omega, by omega⟩ ⟨by decide, by decide⟩ dX11_measure_8 (by decide) (fun c2 => ?_) (fun c2 => ?_)
    · refine c_aload_n (j := 0) (x := a0) C dX11_measure_34 rfl ?_
      refine c_bipush (z := 6) C dX11_measure_35 (by decide) ?_
      refine d_callV (As := [.int (iI 6)]) (rest := []) C hM (C_refuse (a0 := a0) (x := 6) hW hS t_a0 ⟨by decide, by decide⟩ ) dX11_measure_37 kV_X11_102 rfl t_a0 rfl rfl (by decide) ck_12 rfl (Nat.le_of_ble_eq_true rfl) ⟨(Nat.le_of_ble_eq_true rfl), (Nat.le_of_ble_eq_true rfl)⟩ hph hph (show 0 + 0 = 0 from rfl) (by decide) (fun rh2 Lh2 clh2 lnh2 ivh2 rvh2 h2 => ?_)
      obtain ⟨f2, rfl, rfl, rfl, rfl, rfl, fl2, W2, rgf2, exf2, kp11f2, kp12f2, kp13f2, kp14f2, kp15f2, kp16f2⟩ := h2
      refine hv7 (show 1 ≤ iv a0 11 ∧ iv a0 11 ≤ 100 from hW.int t_a0 11) (show 1 ≤ iv a0 12 ∧ iv a0 12 ≤ 50 from hW.int t_a0 12) (show (-2147483648) ≤ iv a0 13 ∧ iv a0 13 ≤ 2147483647 from hW.int t_a0 13) (show (-2147483648) ≤ iv a0 14 ∧ iv a0 14 ≤ 2147483647 from hW.int t_a0 14) (show (-2147483648) ≤ iv a0 15 ∧ iv a0 15 ≤ 2147483647 from hW.int t_a0 15) (show (-2147483648) ≤ iv a0 16 ∧ iv a0 16 ≤ 2147483647 from hW.int t_a0 16) (hF0.call hX0 fl2 rfl) (fun ri13 ri14 ri15 ri16 ri17 ri18 F2 => ?_)
      refine c_st (st2 := [.int (iI f2)]) rfl ?_
      refine hv13 (show ivh2 a0 11 = iv a0 11 from kp11f2) (show ivh2 a0 12 = iv a0 12 from kp12f2) (show ivh2 a0 13 = iv a0 13 from kp13f2) (show ivh2 a0 14 = iv a0 14 from kp14f2) (show ivh2 a0 15 = iv a0 15 from kp15f2) (show ivh2 a0 16 = iv a0 16 from kp16f2) (show f2 = -1 from exf2) (show (-2147483648) ≤ ivh2 a0 14 ∧ ivh2 a0 14 ≤ 2147483647 from W2.int t_a0 14) (show (-2147483648) ≤ ivh2 a0 15 ∧ ivh2 a0 15 ≤ 2147483647 from W2.int t_a0 15) (show (-2147483648) ≤ ivh2 a0 16 ∧ ivh2 a0 16 ≤ 2147483647 from W2.int t_a0 16) (show 1 ≤ ivh2 a0 11 ∧ ivh2 a0 11 ≤ 100 from W2.int t_a0 11) (show 1 ≤ ivh2 a0 12 ∧ ivh2 a0 12 ≤ 50 from W2.int t_a0 12) (show (-2147483648) ≤ ivh2 a0 13 ∧ ivh2 a0 13 ≤ 2147483647 from W2.int t_a0 13) (fun gk11f2 gk12f2 gk13f2 gk14f2 gk15f2 gk16f2 gf2 ri19 ri20 ri21 ri22 ri23 ri24 => ?_)
      exact c_iret C dX11_measure_40 rfl (by decide) (rom0 hph hph (by decide)) ⟨f2, rfl, rfl, rfl, rfl, rfl, F2, W2, ⟨by omega, by omega⟩, ⟨by omega, by omega⟩, gk14f2, gk15f2, gk16f2⟩
    · refine c_iload_n (j := 2) C dX11_measure_11 rfl ?_
      refine c_iconst C dX11_measure_12 ?_
      refine c_icmp_lt (tgt := 34) C ⟨by omega, by omega⟩ ⟨by decide, by decide⟩ dX11_measure_13 (by decide) (fun c3 => ?_) (fun c3 => ?_)
      · refine c_aload_n (j := 0) (x := a0) C dX11_measure_34 rfl ?_
        refine c_bipush (z := 6) C dX11_measure_35 (by decide) ?_
        refine d_callV (As := [.int (iI 6)]) (rest := []) C hM (C_refuse (a0 := a0) (x := 6) hW hS t_a0 ⟨by decide, by decide⟩ ) dX11_measure_37 kV_X11_102 rfl t_a0 rfl rfl (by decide) ck_12 rfl (Nat.le_of_ble_eq_true rfl) ⟨(Nat.le_of_ble_eq_true rfl), (Nat.le_of_ble_eq_true rfl)⟩ hph hph (show 0 + 0 = 0 from rfl) (by decide) (fun rh3 Lh3 clh3 lnh3 ivh3 rvh3 h3 => ?_)
        obtain ⟨f3, rfl, rfl, rfl, rfl, rfl, fl3, W3, rgf3, exf3, kp11f3, kp12f3, kp13f3, kp14f3, kp15f3, kp16f3⟩ := h3
        refine hv7 (show 1 ≤ iv a0 11 ∧ iv a0 11 ≤ 100 from hW.int t_a0 11) (show 1 ≤ iv a0 12 ∧ iv a0 12 ≤ 50 from hW.int t_a0 12) (show (-2147483648) ≤ iv a0 13 ∧ iv a0 13 ≤ 2147483647 from hW.int t_a0 13) (show (-2147483648) ≤ iv a0 14 ∧ iv a0 14 ≤ 2147483647 from hW.int t_a0 14) (show (-2147483648) ≤ iv a0 15 ∧ iv a0 15 ≤ 2147483647 from hW.int t_a0 15) (show (-2147483648) ≤ iv a0 16 ∧ iv a0 16 ≤ 2147483647 from hW.int t_a0 16) (hF0.call hX0 fl3 rfl) (fun ri25 ri26 ri27 ri28 ri29 ri30 F3 => ?_)
        refine c_st (st2 := [.int (iI f3)]) rfl ?_
        refine hv13 (show ivh3 a0 11 = iv a0 11 from kp11f3) (show ivh3 a0 12 = iv a0 12 from kp12f3) (show ivh3 a0 13 = iv a0 13 from kp13f3) (show ivh3 a0 14 = iv a0 14 from kp14f3) (show ivh3 a0 15 = iv a0 15 from kp15f3) (show ivh3 a0 16 = iv a0 16 from kp16f3) (show f3 = -1 from exf3) (show (-2147483648) ≤ ivh3 a0 14 ∧ ivh3 a0 14 ≤ 2147483647 from W3.int t_a0 14) (show (-2147483648) ≤ ivh3 a0 15 ∧ ivh3 a0 15 ≤ 2147483647 from W3.int t_a0 15) (show (-2147483648) ≤ ivh3 a0 16 ∧ ivh3 a0 16 ≤ 2147483647 from W3.int t_a0 16) (show 1 ≤ ivh3 a0 11 ∧ ivh3 a0 11 ≤ 100 from W3.int t_a0 11) (show 1 ≤ ivh3 a0 12 ∧ ivh3 a0 12 ≤ 50 from W3.int t_a0 12) (show (-2147483648) ≤ ivh3 a0 13 ∧ ivh3 a0 13 ≤ 2147483647 from W3.int t_a0 13) (fun gk11f3 gk12f3 gk13f3 gk14f3 gk15f3 gk16f3 gf3 ri31 ri32 ri33 ri34 ri35 ri36 => ?_)
        exact c_iret C dX11_measure_40 rfl (by decide) (rom0 hph hph (by decide)) ⟨f3, rfl, rfl, rfl, rfl, rfl, F3, W3, ⟨by omega, by omega⟩, ⟨by omega, by omega⟩, gk14f3, gk15f3, gk16f3⟩
      · refine c_iload_n (j := 2) C dX11_measure_16 rfl ?_
        refine c_bipush (z := 50) C dX11_measure_17 (by decide) ?_
        refine c_icmp_gt (tgt := 34) C ⟨by omega, by omega⟩ ⟨by decide, by decide⟩ dX11_measure_19 (by decide) (fun c4 => ?_) (fun c4 => ?_)
        · refine c_aload_n (j := 0) (x := a0) C dX11_measure_34 rfl ?_
          refine c_bipush (z := 6) C dX11_measure_35 (by decide) ?_
          refine d_callV (As := [.int (iI 6)]) (rest := []) C hM (C_refuse (a0 := a0) (x := 6) hW hS t_a0 ⟨by decide, by decide⟩ ) dX11_measure_37 kV_X11_102 rfl t_a0 rfl rfl (by decide) ck_12 rfl (Nat.le_of_ble_eq_true rfl) ⟨(Nat.le_of_ble_eq_true rfl), (Nat.le_of_ble_eq_true rfl)⟩ hph hph (show 0 + 0 = 0 from rfl) (by decide) (fun rh4 Lh4 clh4 lnh4 ivh4 rvh4 h4 => ?_)
          obtain ⟨f4, rfl, rfl, rfl, rfl, rfl, fl4, W4, rgf4, exf4, kp11f4, kp12f4, kp13f4, kp14f4, kp15f4, kp16f4⟩ := h4
          refine hv7 (show 1 ≤ iv a0 11 ∧ iv a0 11 ≤ 100 from hW.int t_a0 11) (show 1 ≤ iv a0 12 ∧ iv a0 12 ≤ 50 from hW.int t_a0 12) (show (-2147483648) ≤ iv a0 13 ∧ iv a0 13 ≤ 2147483647 from hW.int t_a0 13) (show (-2147483648) ≤ iv a0 14 ∧ iv a0 14 ≤ 2147483647 from hW.int t_a0 14) (show (-2147483648) ≤ iv a0 15 ∧ iv a0 15 ≤ 2147483647 from hW.int t_a0 15) (show (-2147483648) ≤ iv a0 16 ∧ iv a0 16 ≤ 2147483647 from hW.int t_a0 16) (hF0.call hX0 fl4 rfl) (fun ri37 ri38 ri39 ri40 ri41 ri42 F4 => ?_)
          refine c_st (st2 := [.int (iI f4)]) rfl ?_
          refine hv13 (show ivh4 a0 11 = iv a0 11 from kp11f4) (show ivh4 a0 12 = iv a0 12 from kp12f4) (show ivh4 a0 13 = iv a0 13 from kp13f4) (show ivh4 a0 14 = iv a0 14 from kp14f4) (show ivh4 a0 15 = iv a0 15 from kp15f4) (show ivh4 a0 16 = iv a0 16 from kp16f4) (show f4 = -1 from exf4) (show (-2147483648) ≤ ivh4 a0 14 ∧ ivh4 a0 14 ≤ 2147483647 from W4.int t_a0 14) (show (-2147483648) ≤ ivh4 a0 15 ∧ ivh4 a0 15 ≤ 2147483647 from W4.int t_a0 15) (show (-2147483648) ≤ ivh4 a0 16 ∧ ivh4 a0 16 ≤ 2147483647 from W4.int t_a0 16) (show 1 ≤ ivh4 a0 11 ∧ ivh4 a0 11 ≤ 100 from W4.int t_a0 11) (show 1 ≤ ivh4 a0 12 ∧ ivh4 a0 12 ≤ 50 from W4.int t_a0 12) (show (-2147483648) ≤ ivh4 a0 13 ∧ ivh4 a0 13 ≤ 2147483647 from W4.int t_a0 13) (fun gk11f4 gk12f4 gk13f4 gk14f4 gk15f4 gk16f4 gf4 ri43 ri44 ri45 ri46 ri47 ri48 => ?_)
          exact c_iret C dX11_measure_40 rfl (by decide) (rom0 hph hph (by decide)) ⟨f4, rfl, rfl, rfl, rfl, rfl, F4, W4, ⟨by omega, by omega⟩, ⟨by omega, by omega⟩, gk14f4, gk15f4, gk16f4⟩
        · refine c_iload_n (j := 3) C dX11_measure_22 rfl ?_
          refine c_iconst C dX11_measure_23 ?_
          refine c_icmp_lt (tgt := 34) C ⟨by omega, by omega⟩ ⟨by decide, by decide⟩ dX11_measure_24 (by decide) (fun c5 => ?_) (fun c5 => ?_)
          · refine c_aload_n (j := 0) (x := a0) C dX11_measure_34 rfl ?_
            refine c_bipush (z := 6) C dX11_measure_35 (by decide) ?_
            refine d_callV (As := [.int (iI 6)]) (rest := []) C hM (C_refuse (a0 := a0) (x := 6) hW hS t_a0 ⟨by decide, by decide⟩ ) dX11_measure_37 kV_X11_102 rfl t_a0 rfl rfl (by decide) ck_12 rfl (Nat.le_of_ble_eq_true rfl) ⟨(Nat.le_of_ble_eq_true rfl), (Nat.le_of_ble_eq_true rfl)⟩ hph hph (show 0 + 0 = 0 from rfl) (by decide) (fun rh5 Lh5 clh5 lnh5 ivh5 rvh5 h5 => ?_)
            obtain ⟨f5, rfl, rfl, rfl, rfl, rfl, fl5, W5, rgf5, exf5, kp11f5, kp12f5, kp13f5, kp14f5, kp15f5, kp16f5⟩ := h5
            refine hv7 (show 1 ≤ iv a0 11 ∧ iv a0 11 ≤ 100 from hW.int t_a0 11) (show 1 ≤ iv a0 12 ∧ iv a0 12 ≤ 50 from hW.int t_a0 12) (show (-2147483648) ≤ iv a0 13 ∧ iv a0 13 ≤ 2147483647 from hW.int t_a0 13) (show (-2147483648) ≤ iv a0 14 ∧ iv a0 14 ≤ 2147483647 from hW.int t_a0 14) (show (-2147483648) ≤ iv a0 15 ∧ iv a0 15 ≤ 2147483647 from hW.int t_a0 15) (show (-2147483648) ≤ iv a0 16 ∧ iv a0 16 ≤ 2147483647 from hW.int t_a0 16) (hF0.call hX0 fl5 rfl) (fun ri49 ri50 ri51 ri52 ri53 ri54 F5 => ?_)
            refine c_st (st2 := [.int (iI f5)]) rfl ?_
            refine hv13 (show ivh5 a0 11 = iv a0 11 from kp11f5) (show ivh5 a0 12 = iv a0 12 from kp12f5) (show ivh5 a0 13 = iv a0 13 from kp13f5) (show ivh5 a0 14 = iv a0 14 from kp14f5) (show ivh5 a0 15 = iv a0 15 from kp15f5) (show ivh5 a0 16 = iv a0 16 from kp16f5) (show f5 = -1 from exf5) (show (-2147483648) ≤ ivh5 a0 14 ∧ ivh5 a0 14 ≤ 2147483647 from W5.int t_a0 14) (show (-2147483648) ≤ ivh5 a0 15 ∧ ivh5 a0 15 ≤ 2147483647 from W5.int t_a0 15) (show (-2147483648) ≤ ivh5 a0 16 ∧ ivh5 a0 16 ≤ 2147483647 from W5.int t_a0 16) (show 1 ≤ ivh5 a0 11 ∧ ivh5 a0 11 ≤ 100 from W5.int t_a0 11) (show 1 ≤ ivh5 a0 12 ∧ ivh5 a0 12 ≤ 50 from W5.int t_a0 12) (show (-2147483648) ≤ ivh5 a0 13 ∧ ivh5 a0 13 ≤ 2147483647 from W5.int t_a0 13) (fun gk11f5 gk12f5 gk13f5 gk14f5 gk15f5 gk16f5 gf5 ri55 ri56 ri57 ri58 ri59 ri60 => ?_)
            exact c_iret C dX11_measure_40 rfl (by decide) (rom0 hph hph (by decide)) ⟨f5, rfl, rfl, rfl, rfl, rfl, F5, W5, ⟨by omega, by omega⟩, ⟨by omega, by omega⟩, gk14f5, gk15f5, gk16f5⟩
          · refine c_iload_n (j := 3) C dX11_measure_27 rfl ?_
            refine c_sipush (z := 255) C dX11_measure_28 (by decide) ?_
            refine c_icmp_le (tgt := 41) C ⟨by omega, by omega⟩ ⟨by decide, by decide⟩ dX11_measure_31 (by decide) (fun c6 => ?_) (fun c6 => ?_)
            · refine c_aload_n (j := 0) (x := a0) C dX11_measure_41 rfl ?_
              refine c_iload_n (j := 1) C dX11_measure_42 rfl ?_
              refine c_put (z := x) (k := 11) C ck_12 dX11_measure_43 w2_55 (by decide) rfl t_a0 rfl rfl (by decide) rfl (by rfl) (by rfl) (fun iv1 pq1 => ?_)
              refine hv2 (hW.puti pq1 t_a0 (show 1 ≤ x ∧ x ≤ 100 by omega) rfl) (hF0.puti hX0 pq1 t_a0 rfl) (fun W6 F6 => ?_)
              refine c_aload_n (j := 0) (x := a0) C dX11_measure_46 rfl ?_
              refine c_iload_n (j := 2) C dX11_measure_47 rfl ?_
              refine c_put (z := y) (k := 12) C ck_12 dX11_measure_48 w2_56 (by decide) rfl t_a0 rfl rfl (by decide) rfl (by rfl) (by rfl) (fun iv2 pq2 => ?_)
              refine hv2 (W6.puti pq2 t_a0 (show 1 ≤ y ∧ y ≤ 50 by omega) rfl) (F6.puti hX0 pq2 t_a0 rfl) (fun W7 F7 => ?_)
              refine c_aload_n (j := 0) (x := a0) C dX11_measure_51 rfl ?_
              refine c_iload_n (j := 3) C dX11_measure_52 rfl ?_
              refine c_put (z := h) (k := 13) C ck_12 dX11_measure_53 w2_57 (by decide) rfl t_a0 rfl rfl (by decide) rfl (by rfl) (by rfl) (fun iv3 pq3 => ?_)
              refine hv2 (W7.puti pq3 t_a0 (show (-2147483648) ≤ h ∧ h ≤ 2147483647 by omega) rfl) (F7.puti hX0 pq3 t_a0 rfl) (fun W8 F8 => ?_)
              refine c_aload_n (j := 0) (x := a0) C dX11_measure_56 rfl ?_
              refine c_iconst C dX11_measure_57 ?_
              refine d_callV (As := [.int (iI 1)]) (rest := []) C hM (C_done (a0 := a0) (x := 1) W8 hS t_a0 ⟨by decide, by decide⟩ ) dX11_measure_58 kV_X11_109 rfl t_a0 rfl rfl (by decide) ck_12 rfl (Nat.le_of_ble_eq_true rfl) ⟨(Nat.le_of_ble_eq_true rfl), (Nat.le_of_ble_eq_true rfl)⟩ hph hph (show 0 + 0 = 0 from rfl) (by decide) (fun rh6 Lh6 clh6 lnh6 ivh6 rvh6 h6 => ?_)
              obtain ⟨f6, rfl, rfl, rfl, rfl, rfl, fl6, W9, rgf6, exf6, kp11f6, kp12f6, kp13f6, kp14f6, kp15f6, kp16f6⟩ := h6
              refine hv22 (show 1 ≤ iv3 a0 11 ∧ iv3 a0 11 ≤ 100 from W8.int t_a0 11) (show iv3 a0 11 = iv2 a0 11 from by rw [pq3]; exact up2_j (by decide)) (show iv2 a0 11 = iv1 a0 11 from by rw [pq2]; exact up2_j (by decide)) (show iv1 a0 11 = x from by rw [pq1]; exact up2_s) (show 1 ≤ iv3 a0 12 ∧ iv3 a0 12 ≤ 50 from W8.int t_a0 12) (show iv3 a0 12 = iv2 a0 12 from by rw [pq3]; exact up2_j (by decide)) (show iv2 a0 12 = y from by rw [pq2]; exact up2_s) (show (-2147483648) ≤ iv3 a0 13 ∧ iv3 a0 13 ≤ 2147483647 from W8.int t_a0 13) (show iv3 a0 13 = h from by rw [pq3]; exact up2_s) (show (-2147483648) ≤ iv3 a0 14 ∧ iv3 a0 14 ≤ 2147483647 from W8.int t_a0 14) (show iv3 a0 14 = iv2 a0 14 from by rw [pq3]; exact up2_j (by decide)) (show iv2 a0 14 = iv1 a0 14 from by rw [pq2]; exact up2_j (by decide)) (show iv1 a0 14 = iv a0 14 from by rw [pq1]; exact up2_j (by decide)) (show (-2147483648) ≤ iv3 a0 15 ∧ iv3 a0 15 ≤ 2147483647 from W8.int t_a0 15) (show iv3 a0 15 = iv2 a0 15 from by rw [pq3]; exact up2_j (by decide)) (show iv2 a0 15 = iv1 a0 15 from by rw [pq2]; exact up2_j (by decide)) (show iv1 a0 15 = iv a0 15 from by rw [pq1]; exact up2_j (by decide)) (show (-2147483648) ≤ iv3 a0 16 ∧ iv3 a0 16 ≤ 2147483647 from W8.int t_a0 16) (show iv3 a0 16 = iv2 a0 16 from by rw [pq3]; exact up2_j (by decide)) (show iv2 a0 16 = iv1 a0 16 from by rw [pq2]; exact up2_j (by decide)) (show iv1 a0 16 = iv a0 16 from by rw [pq1]; exact up2_j (by decide)) (F8.call hX0 fl6 rfl) (fun ri61 ie31 ie32 ie33 ri62 ie34 ie35 ri63 ie36 ri64 ie37 ie38 ie39 ri65 ie40 ie41 ie42 ri66 ie43 ie44 ie45 F9 => ?_)
              refine c_st (st2 := [.int (iI f6)]) rfl ?_
              refine hv13 (show ivh6 a0 11 = iv3 a0 11 from kp11f6) (show ivh6 a0 12 = iv3 a0 12 from kp12f6) (show ivh6 a0 13 = iv3 a0 13 from kp13f6) (show ivh6 a0 14 = iv3 a0 14 from kp14f6) (show ivh6 a0 15 = iv3 a0 15 from kp15f6) (show ivh6 a0 16 = iv3 a0 16 from kp16f6) (show f6 = (1 : Int) from exf6) (show (-2147483648) ≤ ivh6 a0 14 ∧ ivh6 a0 14 ≤ 2147483647 from W9.int t_a0 14) (show (-2147483648) ≤ ivh6 a0 15 ∧ ivh6 a0 15 ≤ 2147483647 from W9.int t_a0 15) (show (-2147483648) ≤ ivh6 a0 16 ∧ ivh6 a0 16 ≤ 2147483647 from W9.int t_a0 16) (show 1 ≤ ivh6 a0 11 ∧ ivh6 a0 11 ≤ 100 from W9.int t_a0 11) (show 1 ≤ ivh6 a0 12 ∧ ivh6 a0 12 ≤ 50 from W9.int t_a0 12) (show (-2147483648) ≤ ivh6 a0 13 ∧ ivh6 a0 13 ≤ 2147483647 from W9.int t_a0 13) (fun gk11f6 gk12f6 gk13f6 gk14f6 gk15f6 gk16f6 gf6 ri67 ri68 ri69 ri70 ri71 ri72 => ?_)
              exact c_iret C dX11_measure_61 rfl (by decide) (rom0 hph hph (by decide)) ⟨f6, rfl, rfl, rfl, rfl, rfl, F9, W9, ⟨by omega, by omega⟩, ⟨by omega, by omega⟩, (gk14f6.trans (ie37.trans (ie38.trans ie39))), (gk15f6.trans (ie40.trans (ie41.trans ie42))), (gk16f6.trans (ie43.trans (ie44.trans ie45)))⟩
            · refine c_aload_n (j := 0) (x := a0) C dX11_measure_34 rfl ?_
              refine c_bipush (z := 6) C dX11_measure_35 (by decide) ?_
              refine d_callV (As := [.int (iI 6)]) (rest := []) C hM (C_refuse (a0 := a0) (x := 6) hW hS t_a0 ⟨by decide, by decide⟩ ) dX11_measure_37 kV_X11_102 rfl t_a0 rfl rfl (by decide) ck_12 rfl (Nat.le_of_ble_eq_true rfl) ⟨(Nat.le_of_ble_eq_true rfl), (Nat.le_of_ble_eq_true rfl)⟩ hph hph (show 0 + 0 = 0 from rfl) (by decide) (fun rh7 Lh7 clh7 lnh7 ivh7 rvh7 h7 => ?_)
              obtain ⟨f7, rfl, rfl, rfl, rfl, rfl, fl7, W10, rgf7, exf7, kp11f7, kp12f7, kp13f7, kp14f7, kp15f7, kp16f7⟩ := h7
              refine hv7 (show 1 ≤ iv a0 11 ∧ iv a0 11 ≤ 100 from hW.int t_a0 11) (show 1 ≤ iv a0 12 ∧ iv a0 12 ≤ 50 from hW.int t_a0 12) (show (-2147483648) ≤ iv a0 13 ∧ iv a0 13 ≤ 2147483647 from hW.int t_a0 13) (show (-2147483648) ≤ iv a0 14 ∧ iv a0 14 ≤ 2147483647 from hW.int t_a0 14) (show (-2147483648) ≤ iv a0 15 ∧ iv a0 15 ≤ 2147483647 from hW.int t_a0 15) (show (-2147483648) ≤ iv a0 16 ∧ iv a0 16 ≤ 2147483647 from hW.int t_a0 16) (hF0.call hX0 fl7 rfl) (fun ri73 ri74 ri75 ri76 ri77 ri78 F10 => ?_)
              refine c_st (st2 := [.int (iI f7)]) rfl ?_
              refine hv13 (show ivh7 a0 11 = iv a0 11 from kp11f7) (show ivh7 a0 12 = iv a0 12 from kp12f7) (show ivh7 a0 13 = iv a0 13 from kp13f7) (show ivh7 a0 14 = iv a0 14 from kp14f7) (show ivh7 a0 15 = iv a0 15 from kp15f7) (show ivh7 a0 16 = iv a0 16 from kp16f7) (show f7 = -1 from exf7) (show (-2147483648) ≤ ivh7 a0 14 ∧ ivh7 a0 14 ≤ 2147483647 from W10.int t_a0 14) (show (-2147483648) ≤ ivh7 a0 15 ∧ ivh7 a0 15 ≤ 2147483647 from W10.int t_a0 15) (show (-2147483648) ≤ ivh7 a0 16 ∧ ivh7 a0 16 ≤ 2147483647 from W10.int t_a0 16) (show 1 ≤ ivh7 a0 11 ∧ ivh7 a0 11 ≤ 100 from W10.int t_a0 11) (show 1 ≤ ivh7 a0 12 ∧ ivh7 a0 12 ≤ 50 from W10.int t_a0 12) (show (-2147483648) ≤ ivh7 a0 13 ∧ ivh7 a0 13 ≤ 2147483647 from W10.int t_a0 13) (fun gk11f7 gk12f7 gk13f7 gk14f7 gk15f7 gk16f7 gf7 ri79 ri80 ri81 ri82 ri83 ri84 => ?_)
              exact c_iret C dX11_measure_40 rfl (by decide) (rom0 hph hph (by decide)) ⟨f7, rfl, rfl, rfl, rfl, rfl, F10, W10, ⟨by omega, by omega⟩, ⟨by omega, by omega⟩, gk14f7, gk15f7, gk16f7⟩
set_option maxHeartbeats 4000000 in
set_option maxRecDepth 100000 in
theorem C_failed2 {l : Launch} {G : GT} {mi : Nat} {sk : Nat → Nat} {L : List Nat} {cl ln : Nat → Nat} {iv : Nat → Nat → Int} {rv : Nat → Nat → Option Nat}  {a0 : Nat} {i : Int} {x : Int} (hW : WT (g0 G) sk L cl ln iv rv) (hS : SKL sk L cl) (t_a0 : ty L cl a0 1) (h_i : -2147483648 ≤ i ∧ i ≤ 2147483647) (h_x : -2147483648 ≤ x ∧ x ≤ 2147483647)  : Mc l G mi (Phi (g0 G) sk) PHM yX11_failed cX11_failed 4 (some .int) 1 [.ref a0, .int (iI i), .int (iI x)] L cl ln iv rv 0 (fun v L2 cl2 ln2 iv2 rv2 => ∃ f : Int, v = some (.int (iI f)) ∧ L = L2 ∧ cl = cl2 ∧ ln = ln2 ∧ rv = rv2 ∧ fT [1] L cl iv rv iv2 rv2 ∧ WT (g0 G) sk L2 cl2 ln2 iv2 rv2 ∧ (-2147483648 ≤ f ∧ f ≤ 2147483647) ∧ (((i < 0 ∨ 7 < i) ∧ f = -1 ∧ iv2 a0 14 = iv a0 14) ∨ (0 ≤ i ∧ i ≤ 7 ∧ iI (iv2 a0 14) = fdv (iI (iv a0 14)) i x ∧ iI f = bcn (iI (iv2 a0 14)))) ∧ iv2 a0 11 = iv a0 11 ∧ iv2 a0 12 = iv a0 12 ∧ iv2 a0 13 = iv a0 13 ∧ iv2 a0 15 = iv a0 15 ∧ iv2 a0 16 = iv a0 16) := by
  refine Mc.mk (by decide) (Nat.le_of_ble_eq_true rfl) ?_
  intro p e s m args below meth c A C hM
  refine hv3 (Phi.le hW hS) (show XT L cl ln L cl ln from XT.refl) (show fT [1] L cl iv rv iv rv from fT.refl) (fun hph hX0 hF0 => ?_)
  refine c_iload_n (j := 1) C dX11_failed_0 rfl ?_
  refine c_if_lt (tgt := 10) C ⟨by omega, by omega⟩ dX11_failed_1 (by decide) (fun c1 => ?_) (fun c1 => ?_)
  · refine c_aload_n (j := 0) (x := a0) C dX11_failed_10 rfl ?_
    refine c_bipush (z := 6) C dX11_failed_11 (by decide) ?_
    refine d_callV (As := [.int (iI 6)]) (rest := []) C hM (C_refuse (a0 := a0) (x := 6) hW hS t_a0 ⟨by decide, by decide⟩ ) dX11_failed_13 kV_X11_102 rfl t_a0 rfl rfl (by decide) ck_12 rfl (Nat.le_of_ble_eq_true rfl) ⟨(Nat.le_of_ble_eq_true rfl), (Nat.le_of_ble_eq_true rfl)⟩ hph hph (show 0 + 0 = 0 from rfl) (by decide) (fun rh1 Lh1 clh1 lnh1 ivh1 rvh1 h1 => ?_)
    obtain ⟨f1, rfl, rfl, rfl, rfl, rfl, fl1, W1, rgf1, exf1, kp11f1, kp12f1, kp13f1, kp14f1, kp15f1, kp16f1⟩ := h1
    refine hv7 (show 1 ≤ iv a0 11 ∧ iv a0 11 ≤ 100 from hW.int t_a0 11) (show 1 ≤ iv a0 12 ∧ iv a0 12 ≤ 50 from hW.int t_a0 12) (show (-2147483648) ≤ iv a0 13 ∧ iv a0 13 ≤ 2147483647 from hW.int t_a0 13) (show (-2147483648) ≤ iv a0 14 ∧ iv a0 14 ≤ 2147483647 from hW.int t_a0 14) (show (-2147483648) ≤ iv a0 15 ∧ iv a0 15 ≤ 2147483647 from hW.int t_a0 15) (show (-2147483648) ≤ iv a0 16 ∧ iv a0 16 ≤ 2147483647 from hW.int t_a0 16) (hF0.call hX0 fl1 rfl) (fun ri1 ri2 ri3 ri4 ri5 ri6 F1 => ?_)
    refine c_st (st2 := [.int (iI f1)]) rfl ?_
    refine hv13 (show ivh1 a0 11 = iv a0 11 from kp11f1) (show ivh1 a0 12 = iv a0 12 from kp12f1) (show ivh1 a0 13 = iv a0 13 from kp13f1) (show ivh1 a0 14 = iv a0 14 from kp14f1) (show ivh1 a0 15 = iv a0 15 from kp15f1) (show ivh1 a0 16 = iv a0 16 from kp16f1) (show f1 = -1 from exf1) (show 1 ≤ ivh1 a0 11 ∧ ivh1 a0 11 ≤ 100 from W1.int t_a0 11) (show 1 ≤ ivh1 a0 12 ∧ ivh1 a0 12 ≤ 50 from W1.int t_a0 12) (show (-2147483648) ≤ ivh1 a0 13 ∧ ivh1 a0 13 ≤ 2147483647 from W1.int t_a0 13) (show (-2147483648) ≤ ivh1 a0 15 ∧ ivh1 a0 15 ≤ 2147483647 from W1.int t_a0 15) (show (-2147483648) ≤ ivh1 a0 16 ∧ ivh1 a0 16 ≤ 2147483647 from W1.int t_a0 16) (show (-2147483648) ≤ ivh1 a0 14 ∧ ivh1 a0 14 ≤ 2147483647 from W1.int t_a0 14) (fun gk11f1 gk12f1 gk13f1 gk14f1 gk15f1 gk16f1 gf1 ri7 ri8 ri9 ri10 ri11 ri12 => ?_)
    exact c_iret C dX11_failed_16 rfl (by decide) (rom0 hph hph (by decide)) ⟨f1, rfl, rfl, rfl, rfl, rfl, F1, W1, ⟨by omega, by omega⟩, (Or.inl ⟨by omega, by omega, by omega⟩), gk11f1, gk12f1, gk13f1, gk15f1, gk16f1⟩
  · refine c_iload_n (j := 1) C dX11_failed_4 rfl ?_
    refine c_bipush (z := 7) C dX11_failed_5 (by decide) ?_
    refine c_icmp_le (tgt := 17) C ⟨by omega, by omega⟩ ⟨by decide, by decide⟩ dX11_failed_7 (by decide) (fun c2 => ?_) (fun c2 => ?_)
    · refine c_iconst C dX11_failed_17 ?_
      refine c_iload_n (j := 1) C dX11_failed_18 rfl ?_
      obtain ⟨zz1, hzz1, ezz1⟩ := iI_of (iI 1 <<< (iI i &&& 31))
      refine c_ishl (w := iI zz1) C dX11_failed_19 ezz1 ?_
      refine c_istore_n (lv2 := [(3, .int (iI zz1)), (0, .ref a0), (1, .int (iI i)), (2, .int (iI x))]) C dX11_failed_20 (by decide) rfl ?_
      refine c_aload_n (j := 1) (x := a0) C dX11_failed_21 rfl ?_
      refine c_iload_n (j := 3) C dX11_failed_22 rfl ?_
      refine c_if_eq (tgt := 35) C ⟨by omega, by omega⟩ dX11_failed_23 (by decide) (fun c3 => ?_) (fun c3 => ?_)
      · refine c_aload_n (j := 1) (x := a0) C dX11_failed_35 rfl ?_
        have ri13 : (-2147483648) ≤ iv a0 14 ∧ iv a0 14 ≤ 2147483647 := hW.int t_a0 14
        refine c_get (k := 14) C ck_12 dX11_failed_36 w2_58 (by decide) t_a0 rfl rfl (by decide) rfl ?_
        refine c_iload_n (j := 0) C dX11_failed_39 rfl ?_
        refine c_iconst C dX11_failed_40 ?_
        obtain ⟨zz2, hzz2, ezz2⟩ := iI_of (iI zz1 ^^^ iI (-1))
        refine c_ixor (w := iI zz2) C dX11_failed_41 ezz2 ?_
        obtain ⟨zz3, hzz3, ezz3⟩ := iI_of (iI (iv a0 14) &&& iI zz2)
        refine c_iand (w := iI zz3) C dX11_failed_42 ezz3 ?_
        refine c_put (z := zz3) (k := 14) C ck_12 dX11_failed_43 w2_58 (by decide) rfl t_a0 rfl rfl (by decide) rfl (by rfl) (by rfl) (fun iv1 pq1 => ?_)
        refine hv2 (hW.puti pq1 t_a0 (show (-2147483648) ≤ zz3 ∧ zz3 ≤ 2147483647 by omega) rfl) (hF0.puti hX0 pq1 t_a0 rfl) (fun W2 F2 => ?_)
        refine c_aload_n (j := 1) (x := a0) C dX11_failed_46 rfl ?_
        refine c_aload_n (j := 1) (x := a0) C dX11_failed_47 rfl ?_
        refine hv2 (show (-2147483648) ≤ iv1 a0 14 ∧ iv1 a0 14 ≤ 2147483647 from W2.int t_a0 14) (show iv1 a0 14 = zz3 from by rw [pq1]; exact up2_s) (fun ri14 ie7 => ?_)
        refine c_get (k := 14) C ck_12 dX11_failed_48 w2_58 (by decide) t_a0 rfl rfl (by decide) rfl ?_
        refine c_callS0 (As := [.int (iI (iv1 a0 14))]) (rest := [.ref a0]) C (fun L E => s_bitCount (iI (iv1 a0 14))) dX11_failed_51 kS_X11_351 rfl rfl (Nat.le_of_ble_eq_true rfl) ⟨(Nat.le_of_ble_eq_true rfl), (Nat.le_of_ble_eq_true rfl)⟩ (rom0 hph hph (by decide)) ?_
        obtain ⟨zz4, hzz4, ezz4⟩ := iI_of (bcn (iI (iv1 a0 14)))
        refine c_st (st2 := [.int (iI zz4), .ref a0]) (by rw [ezz4]) ?_
        refine d_callV (As := [.int (iI zz4)]) (rest := []) C hM (C_done (a0 := a0) (x := zz4) W2 hS t_a0 (by omega) ) dX11_failed_54 kV_X11_109 rfl t_a0 rfl rfl (by decide) ck_12 rfl (Nat.le_of_ble_eq_true rfl) ⟨(Nat.le_of_ble_eq_true rfl), (Nat.le_of_ble_eq_true rfl)⟩ hph hph (show 0 + 0 = 0 from rfl) (by decide) (fun rh2 Lh2 clh2 lnh2 ivh2 rvh2 h2 => ?_)
        obtain ⟨f2, rfl, rfl, rfl, rfl, rfl, fl2, W3, rgf2, exf2, kp11f2, kp12f2, kp13f2, kp14f2, kp15f2, kp16f2⟩ := h2
        refine hv11 (show 1 ≤ iv1 a0 11 ∧ iv1 a0 11 ≤ 100 from W2.int t_a0 11) (show iv1 a0 11 = iv a0 11 from by rw [pq1]; exact up2_j (by decide)) (show 1 ≤ iv1 a0 12 ∧ iv1 a0 12 ≤ 50 from W2.int t_a0 12) (show iv1 a0 12 = iv a0 12 from by rw [pq1]; exact up2_j (by decide)) (show (-2147483648) ≤ iv1 a0 13 ∧ iv1 a0 13 ≤ 2147483647 from W2.int t_a0 13) (show iv1 a0 13 = iv a0 13 from by rw [pq1]; exact up2_j (by decide)) (show (-2147483648) ≤ iv1 a0 15 ∧ iv1 a0 15 ≤ 2147483647 from W2.int t_a0 15) (show iv1 a0 15 = iv a0 15 from by rw [pq1]; exact up2_j (by decide)) (show (-2147483648) ≤ iv1 a0 16 ∧ iv1 a0 16 ≤ 2147483647 from W2.int t_a0 16) (show iv1 a0 16 = iv a0 16 from by rw [pq1]; exact up2_j (by decide)) (F2.call hX0 fl2 rfl) (fun ri15 ie8 ri16 ie9 ri17 ie10 ri18 ie11 ri19 ie12 F3 => ?_)
        refine c_st (st2 := [.int (iI f2)]) rfl ?_
        refine hv13 (show ivh2 a0 11 = iv1 a0 11 from kp11f2) (show ivh2 a0 12 = iv1 a0 12 from kp12f2) (show ivh2 a0 13 = iv1 a0 13 from kp13f2) (show ivh2 a0 14 = iv1 a0 14 from kp14f2) (show ivh2 a0 15 = iv1 a0 15 from kp15f2) (show ivh2 a0 16 = iv1 a0 16 from kp16f2) (show f2 = zz4 from exf2) (show 1 ≤ ivh2 a0 11 ∧ ivh2 a0 11 ≤ 100 from W3.int t_a0 11) (show 1 ≤ ivh2 a0 12 ∧ ivh2 a0 12 ≤ 50 from W3.int t_a0 12) (show (-2147483648) ≤ ivh2 a0 13 ∧ ivh2 a0 13 ≤ 2147483647 from W3.int t_a0 13) (show (-2147483648) ≤ ivh2 a0 15 ∧ ivh2 a0 15 ≤ 2147483647 from W3.int t_a0 15) (show (-2147483648) ≤ ivh2 a0 16 ∧ ivh2 a0 16 ≤ 2147483647 from W3.int t_a0 16) (show (-2147483648) ≤ ivh2 a0 14 ∧ ivh2 a0 14 ≤ 2147483647 from W3.int t_a0 14) (fun gk11f2 gk12f2 gk13f2 gk14f2 gk15f2 gk16f2 gf2 ri20 ri21 ri22 ri23 ri24 ri25 => ?_)
        exact c_iret C dX11_failed_57 rfl (by decide) (rom0 hph hph (by decide)) ⟨f2, rfl, rfl, rfl, rfl, rfl, F3, W3, ⟨by omega, by omega⟩, (Or.inr ⟨by omega, by omega, by rw [show ivh2 a0 14 = zz3 by omega]; unfold fdv; rw [if_pos (show x = 0 by omega), ← ezz3, ← ezz2, ← ezz1], by rw [show f2 = zz4 by omega, ← ezz4]; exact congrArg (fun q => bcn (iI q)) (by omega)⟩), (gk11f2.trans ie8), (gk12f2.trans ie9), (gk13f2.trans ie10), (gk15f2.trans ie11), (gk16f2.trans ie12)⟩
      · refine c_aload_n (j := 1) (x := a0) C dX11_failed_26 rfl ?_
        have ri26 : (-2147483648) ≤ iv a0 14 ∧ iv a0 14 ≤ 2147483647 := hW.int t_a0 14
        refine c_get (k := 14) C ck_12 dX11_failed_27 w2_58 (by decide) t_a0 rfl rfl (by decide) rfl ?_
        refine c_iload_n (j := 0) C dX11_failed_30 rfl ?_
        obtain ⟨zz5, hzz5, ezz5⟩ := iI_of (iI (iv a0 14) ||| iI zz1)
        refine c_ior (w := iI zz5) C dX11_failed_31 ezz5 ?_
        refine c_goto (tgt := 43) C dX11_failed_32 (by decide) ?_
        refine c_put (z := zz5) (k := 14) C ck_12 dX11_failed_43 w2_58 (by decide) rfl t_a0 rfl rfl (by decide) rfl (by rfl) (by rfl) (fun iv2 pq2 => ?_)
        refine hv2 (hW.puti pq2 t_a0 (show (-2147483648) ≤ zz5 ∧ zz5 ≤ 2147483647 by omega) rfl) (hF0.puti hX0 pq2 t_a0 rfl) (fun W4 F4 => ?_)
        refine c_aload_n (j := 1) (x := a0) C dX11_failed_46 rfl ?_
        refine c_aload_n (j := 1) (x := a0) C dX11_failed_47 rfl ?_
        refine hv2 (show (-2147483648) ≤ iv2 a0 14 ∧ iv2 a0 14 ≤ 2147483647 from W4.int t_a0 14) (show iv2 a0 14 = zz5 from by rw [pq2]; exact up2_s) (fun ri27 ie19 => ?_)
        refine c_get (k := 14) C ck_12 dX11_failed_48 w2_58 (by decide) t_a0 rfl rfl (by decide) rfl ?_
        refine c_callS0 (As := [.int (iI (iv2 a0 14))]) (rest := [.ref a0]) C (fun L E => s_bitCount (iI (iv2 a0 14))) dX11_failed_51 kS_X11_351 rfl rfl (Nat.le_of_ble_eq_true rfl) ⟨(Nat.le_of_ble_eq_true rfl), (Nat.le_of_ble_eq_true rfl)⟩ (rom0 hph hph (by decide)) ?_
        obtain ⟨zz6, hzz6, ezz6⟩ := iI_of (bcn (iI (iv2 a0 14)))
        refine c_st (st2 := [.int (iI zz6), .ref a0]) (by rw [ezz6]) ?_
        refine d_callV (As := [.int (iI zz6)]) (rest := []) C hM (C_done (a0 := a0) (x := zz6) W4 hS t_a0 (by omega) ) dX11_failed_54 kV_X11_109 rfl t_a0 rfl rfl (by decide) ck_12 rfl (Nat.le_of_ble_eq_true rfl) ⟨(Nat.le_of_ble_eq_true rfl), (Nat.le_of_ble_eq_true rfl)⟩ hph hph (show 0 + 0 = 0 from rfl) (by decide) (fun rh3 Lh3 clh3 lnh3 ivh3 rvh3 h3 => ?_)
        obtain ⟨f3, rfl, rfl, rfl, rfl, rfl, fl3, W5, rgf3, exf3, kp11f3, kp12f3, kp13f3, kp14f3, kp15f3, kp16f3⟩ := h3
        refine hv11 (show 1 ≤ iv2 a0 11 ∧ iv2 a0 11 ≤ 100 from W4.int t_a0 11) (show iv2 a0 11 = iv a0 11 from by rw [pq2]; exact up2_j (by decide)) (show 1 ≤ iv2 a0 12 ∧ iv2 a0 12 ≤ 50 from W4.int t_a0 12) (show iv2 a0 12 = iv a0 12 from by rw [pq2]; exact up2_j (by decide)) (show (-2147483648) ≤ iv2 a0 13 ∧ iv2 a0 13 ≤ 2147483647 from W4.int t_a0 13) (show iv2 a0 13 = iv a0 13 from by rw [pq2]; exact up2_j (by decide)) (show (-2147483648) ≤ iv2 a0 15 ∧ iv2 a0 15 ≤ 2147483647 from W4.int t_a0 15) (show iv2 a0 15 = iv a0 15 from by rw [pq2]; exact up2_j (by decide)) (show (-2147483648) ≤ iv2 a0 16 ∧ iv2 a0 16 ≤ 2147483647 from W4.int t_a0 16) (show iv2 a0 16 = iv a0 16 from by rw [pq2]; exact up2_j (by decide)) (F4.call hX0 fl3 rfl) (fun ri28 ie20 ri29 ie21 ri30 ie22 ri31 ie23 ri32 ie24 F5 => ?_)
        refine c_st (st2 := [.int (iI f3)]) rfl ?_
        refine hv13 (show ivh3 a0 11 = iv2 a0 11 from kp11f3) (show ivh3 a0 12 = iv2 a0 12 from kp12f3) (show ivh3 a0 13 = iv2 a0 13 from kp13f3) (show ivh3 a0 14 = iv2 a0 14 from kp14f3) (show ivh3 a0 15 = iv2 a0 15 from kp15f3) (show ivh3 a0 16 = iv2 a0 16 from kp16f3) (show f3 = zz6 from exf3) (show 1 ≤ ivh3 a0 11 ∧ ivh3 a0 11 ≤ 100 from W5.int t_a0 11) (show 1 ≤ ivh3 a0 12 ∧ ivh3 a0 12 ≤ 50 from W5.int t_a0 12) (show (-2147483648) ≤ ivh3 a0 13 ∧ ivh3 a0 13 ≤ 2147483647 from W5.int t_a0 13) (show (-2147483648) ≤ ivh3 a0 15 ∧ ivh3 a0 15 ≤ 2147483647 from W5.int t_a0 15) (show (-2147483648) ≤ ivh3 a0 16 ∧ ivh3 a0 16 ≤ 2147483647 from W5.int t_a0 16) (show (-2147483648) ≤ ivh3 a0 14 ∧ ivh3 a0 14 ≤ 2147483647 from W5.int t_a0 14) (fun gk11f3 gk12f3 gk13f3 gk14f3 gk15f3 gk16f3 gf3 ri33 ri34 ri35 ri36 ri37 ri38 => ?_)
        exact c_iret C dX11_failed_57 rfl (by decide) (rom0 hph hph (by decide)) ⟨f3, rfl, rfl, rfl, rfl, rfl, F5, W5, ⟨by omega, by omega⟩, (Or.inr ⟨by omega, by omega, by rw [show ivh3 a0 14 = zz5 by omega]; unfold fdv; rw [if_neg (show ¬ x = 0 by omega), ← ezz5, ← ezz1], by rw [show f3 = zz6 by omega, ← ezz6]; exact congrArg (fun q => bcn (iI q)) (by omega)⟩), (gk11f3.trans ie20), (gk12f3.trans ie21), (gk13f3.trans ie22), (gk15f3.trans ie23), (gk16f3.trans ie24)⟩
    · refine c_aload_n (j := 0) (x := a0) C dX11_failed_10 rfl ?_
      refine c_bipush (z := 6) C dX11_failed_11 (by decide) ?_
      refine d_callV (As := [.int (iI 6)]) (rest := []) C hM (C_refuse (a0 := a0) (x := 6) hW hS t_a0 ⟨by decide, by decide⟩ ) dX11_failed_13 kV_X11_102 rfl t_a0 rfl rfl (by decide) ck_12 rfl (Nat.le_of_ble_eq_true rfl) ⟨(Nat.le_of_ble_eq_true rfl), (Nat.le_of_ble_eq_true rfl)⟩ hph hph (show 0 + 0 = 0 from rfl) (by decide) (fun rh4 Lh4 clh4 lnh4 ivh4 rvh4 h4 => ?_)
      obtain ⟨f4, rfl, rfl, rfl, rfl, rfl, fl4, W6, rgf4, exf4, kp11f4, kp12f4, kp13f4, kp14f4, kp15f4, kp16f4⟩ := h4
      refine hv7 (show 1 ≤ iv a0 11 ∧ iv a0 11 ≤ 100 from hW.int t_a0 11) (show 1 ≤ iv a0 12 ∧ iv a0 12 ≤ 50 from hW.int t_a0 12) (show (-2147483648) ≤ iv a0 13 ∧ iv a0 13 ≤ 2147483647 from hW.int t_a0 13) (show (-2147483648) ≤ iv a0 14 ∧ iv a0 14 ≤ 2147483647 from hW.int t_a0 14) (show (-2147483648) ≤ iv a0 15 ∧ iv a0 15 ≤ 2147483647 from hW.int t_a0 15) (show (-2147483648) ≤ iv a0 16 ∧ iv a0 16 ≤ 2147483647 from hW.int t_a0 16) (hF0.call hX0 fl4 rfl) (fun ri39 ri40 ri41 ri42 ri43 ri44 F6 => ?_)
      refine c_st (st2 := [.int (iI f4)]) rfl ?_
      refine hv13 (show ivh4 a0 11 = iv a0 11 from kp11f4) (show ivh4 a0 12 = iv a0 12 from kp12f4) (show ivh4 a0 13 = iv a0 13 from kp13f4) (show ivh4 a0 14 = iv a0 14 from kp14f4) (show ivh4 a0 15 = iv a0 15 from kp15f4) (show ivh4 a0 16 = iv a0 16 from kp16f4) (show f4 = -1 from exf4) (show 1 ≤ ivh4 a0 11 ∧ ivh4 a0 11 ≤ 100 from W6.int t_a0 11) (show 1 ≤ ivh4 a0 12 ∧ ivh4 a0 12 ≤ 50 from W6.int t_a0 12) (show (-2147483648) ≤ ivh4 a0 13 ∧ ivh4 a0 13 ≤ 2147483647 from W6.int t_a0 13) (show (-2147483648) ≤ ivh4 a0 15 ∧ ivh4 a0 15 ≤ 2147483647 from W6.int t_a0 15) (show (-2147483648) ≤ ivh4 a0 16 ∧ ivh4 a0 16 ≤ 2147483647 from W6.int t_a0 16) (show (-2147483648) ≤ ivh4 a0 14 ∧ ivh4 a0 14 ≤ 2147483647 from W6.int t_a0 14) (fun gk11f4 gk12f4 gk13f4 gk14f4 gk15f4 gk16f4 gf4 ri45 ri46 ri47 ri48 ri49 ri50 => ?_)
      exact c_iret C dX11_failed_16 rfl (by decide) (rom0 hph hph (by decide)) ⟨f4, rfl, rfl, rfl, rfl, rfl, F6, W6, ⟨by omega, by omega⟩, (Or.inl ⟨by omega, by omega, by omega⟩), gk11f4, gk12f4, gk13f4, gk15f4, gk16f4⟩
def PRS (G : GT) (h0 n : Nat) (L : List Nat) (cl ln : Nat → Nat) (iv : Nat → Nat → Int) (rv : Nat → Nat → Option Nat) (sk : Nat → Nat) : Prop := WT (g0 G) sk L cl ln iv rv ∧ SKL sk L cl ∧ MRK sk cl iv rv ∧ iv (sk 23) 2 ≤ n ∧ ty L cl h0 1
def POSTN (G : GT) (sk : Nat → Nat) (L : List Nat) (cl ln : Nat → Nat) (iv : Nat → Nat → Int) (rv : Nat → Nat → Option Nat) (EX : (Nat → Nat) → List Nat → (Nat → Nat) → (Nat → Nat) → (Nat → Nat → Int) → (Nat → Nat → Option Nat) → List Nat → (Nat → Nat) → (Nat → Nat) → (Nat → Nat → Int) → (Nat → Nat → Option Nat) → Int → Prop) : PC := fun r L2 cl2 ln2 iv2 rv2 => ∃ f : Int, r = some (.int (iI f)) ∧ (-2147483648 ≤ f ∧ f ≤ 2147483647) ∧ XT L cl ln L2 cl2 ln2 ∧ WT (g0 G) sk L2 cl2 ln2 iv2 rv2 ∧ MRK sk cl2 iv2 rv2 ∧ iv2 (sk 23) 2 ≤ iv (sk 23) 2 + 1 ∧ EX sk L cl ln iv rv L2 cl2 ln2 iv2 rv2 f
def PressOp (l : Launch) (G : GT) (mi : Nat) (y2 : MethodName) (cc2 : ByteArray) (n2 : Nat) (ret2 : Option FieldType) (d2 : Nat) (As : List Value) (h0 : Nat) (EX : (Nat → Nat) → List Nat → (Nat → Nat) → (Nat → Nat) → (Nat → Nat → Int) → (Nat → Nat → Option Nat) → List Nat → (Nat → Nat) → (Nat → Nat) → (Nat → Nat → Int) → (Nat → Nat → Option Nat) → Int → Prop) : Prop := ∀ (n : Nat) (L : List Nat) (cl ln : Nat → Nat) (iv : Nat → Nat → Int) (rv : Nat → Nat → Option Nat) (sk : Nat → Nat), n ≤ 511 → PRS G h0 n L cl ln iv rv sk → ∃ (c0 : Nat) (P2 : PC), c0 ≤ 2330 ∧ Mc l G mi (Phi (g0 G) sk) PHM y2 cc2 n2 ret2 d2 (.ref h0 :: As) L cl ln iv rv c0 P2 ∧ ∀ v L2 cl2 ln2 iv2 rv2, P2 v L2 cl2 ln2 iv2 rv2 → POSTN G sk L cl ln iv rv EX v L2 cl2 ln2 iv2 rv2
theorem PO_feed {l : Launch} {G : GT} {mi h0 : Nat} {x1 : Int} {x2 : Int} {x3 : Int} {x4 : Int} {x5 : Int} (h_x1 : -2147483648 ≤ x1 ∧ x1 ≤ 2147483647) (h_x2 : -2147483648 ≤ x2 ∧ x2 ≤ 2147483647) (h_x3 : -2147483648 ≤ x3 ∧ x3 ≤ 2147483647) (h_x4 : -2147483648 ≤ x4 ∧ x4 ≤ 2147483647) (h_x5 : -2147483648 ≤ x5 ∧ x5 ≤ 2147483647) : PressOp l G mi yX11_feed cX11_feed 6 (some .int) 4 [.int (iI x1), .int (iI x2), .int (iI x3), .int (iI x4), .int (iI x5)] h0 (fun sk L cl ln iv rv L2 cl2 ln2 iv2 rv2 f => (True ∧ (KSQ h0 iv rv iv2 rv2 ∧ KSC h0 iv rv iv2 rv2 ∧ iv2 h0 15 = iv h0 15 ∧ iv2 h0 16 = iv h0 16 ∧ (iv2 (sk 5) 2 = iv (sk 5) 2 ∧ ∀ ss, CT iv rv (sk 5) ss → CT iv2 rv2 (sk 5) ss) ∧ (iv2 (sk 4) 2 = iv (sk 4) 2 ∧ ∀ ss, CT iv rv (sk 4) ss → CT iv2 rv2 (sk 4) ss) ∧ FKP sk iv rv iv2 rv2)) ∧ (iv2 h0 14 = iv h0 14 ∧ iv2 h0 11 = iv h0 11 ∧ iv2 h0 12 = iv h0 12 ∧ iv2 h0 13 = iv h0 13) ∧ (((f = -1 ∧ 3000 < iv (sk 2) 2 + 20 ∧ iv2 (sk 2) 2 = iv (sk 2) 2) ∨ (f = iv2 (sk 2) 2 ∧ iv2 (sk 2) 2 = iv (sk 2) 2 + 20 ∧ iv (sk 2) 2 ≤ 2980)) ∧ ∀ ss, CT iv rv (sk 2) ss → (iv (sk 2) 2 ≤ 2980 → CT iv2 rv2 (sk 2) (fd5 ss (iv (sk 2) 2).toNat x1 x2 x3 x4 x5)) ∧ (2980 < iv (sk 2) 2 → CT iv2 rv2 (sk 2) ss)) ∧ (iv2 (sk 3) 2 = iv (sk 3) 2 ∧ (∀ tt, CT iv rv (sk 3) tt → CT iv2 rv2 (sk 3) tt)) ∧ PSAME sk iv rv iv2 rv2 ∧ (∃ g, WT g sk L cl ln iv rv ∧ WT g sk L2 cl2 ln2 iv2 rv2) ∧ SKL sk L cl ∧ XT L cl ln L2 cl2 ln2 ∧ (KP L cl (fun _ => False) (fun _ => False) (fun _ => False) (fun _ => False) (fun _ _ => False) iv rv iv2 rv2)) := by
  intro n L cl ln iv rv sk hn hp
  obtain ⟨hW, hS, hm, h23, ht⟩ := hp
  refine hv3 (show ty L cl (sk 23) 23 from ⟨(hS 23 rfl).1, by rw [(hS 23 rfl).2]; rfl⟩) (show ty L cl (sk 2) 2 from ⟨(hS 2 rfl).1, by rw [(hS 2 rfl).2]; rfl⟩) (show ty L cl (sk 3) 3 from ⟨(hS 3 rfl).1, by rw [(hS 3 rfl).2]; rfl⟩) (fun t23 t2 t3 => ?_)
  refine ⟨0, _, by decide, C_feed hW hS ht h_x1 h_x2 h_x3 h_x4 h_x5 , fun v L2 cl2 ln2 iv2 rv2 h => ?_⟩
  obtain ⟨f, rfl, hX, hF, hW2, rg, ex, kp11, kp12, kp13, kp14, kp15, kp16, kr9, kr10⟩ := h
  exact ⟨f, rfl, by omega, hX, hW2, (MRK.call hm hW hS hX hF rfl rfl), (by have q := hF.i t23 rfl 2; omega), ⟨⟨trivial, ⟨(KSQ.fr hW ht hF kr9 kr10 rfl rfl rfl), (KSC.fr hW ht hF kr9 kr10 rfl rfl rfl rfl), kp15, kp16, ⟨hF.i (tysq (t := 5) hS rfl rfl) rfl 2, fun ss hs => CT.fr hs hW (tysq (t := 5) hS rfl rfl) hF rfl rfl rfl rfl rfl⟩, ⟨hF.i (tysq (t := 4) hS rfl rfl) rfl 2, fun ss hs => CT.fr hs hW (tysq (t := 4) hS rfl rfl) hF rfl rfl rfl rfl rfl⟩, (FKP.fr hW hS hF rfl rfl rfl rfl)⟩⟩, ⟨kp14, kp11, kp12, kp13⟩, ⟨by have q : iv2 (sk 2) 2 ≤ 3000 := (hW2.int (hX.ty t2) 2).2; have w := ex.1; omega, ex.2⟩, ⟨hF.i t3 rfl 2, fun tt ht => CT.fr ht hW t3 hF rfl rfl rfl rfl rfl⟩, (PSAME.fr hW hS hF rfl rfl rfl rfl rfl rfl rfl), ⟨⟨_, hW, hW2⟩, hS, hX, (KP.fr hW hF rfl)⟩⟩⟩
theorem PO_end {l : Launch} {G : GT} {mi h0 : Nat} {n : Int} (h_n : -2147483648 ≤ n ∧ n ≤ 2147483647) : PressOp l G mi yX11_end cX11_end 2 (some .int) 2 [.int (iI n)] h0 (fun sk L cl ln iv rv L2 cl2 ln2 iv2 rv2 f => (True ∧ (KSQ h0 iv rv iv2 rv2 ∧ KSC h0 iv rv iv2 rv2 ∧ iv2 h0 15 = iv h0 15 ∧ iv2 h0 16 = iv h0 16 ∧ (iv2 (sk 5) 2 = iv (sk 5) 2 ∧ ∀ ss, CT iv rv (sk 5) ss → CT iv2 rv2 (sk 5) ss) ∧ (iv2 (sk 4) 2 = iv (sk 4) 2 ∧ ∀ ss, CT iv rv (sk 4) ss → CT iv2 rv2 (sk 4) ss) ∧ FKP sk iv rv iv2 rv2)) ∧ (iv2 h0 14 = iv h0 14 ∧ iv2 h0 11 = iv h0 11 ∧ iv2 h0 12 = iv h0 12 ∧ iv2 h0 13 = iv h0 13) ∧ (((f = -1 ∧ iv2 (sk 2) 2 = iv (sk 2) 2 ∧ (n < 0 ∨ iv (sk 2) 2 < n)) ∨ (f = n ∧ iv2 (sk 2) 2 = n ∧ 0 ≤ n ∧ n ≤ iv (sk 2) 2)) ∧ (∀ ss, CT iv rv (sk 2) ss → CT iv2 rv2 (sk 2) ss)) ∧ (iv2 (sk 3) 2 = iv (sk 3) 2 ∧ (∀ tt, CT iv rv (sk 3) tt → CT iv2 rv2 (sk 3) tt)) ∧ PSAME sk iv rv iv2 rv2 ∧ (∃ g, WT g sk L cl ln iv rv ∧ WT g sk L2 cl2 ln2 iv2 rv2) ∧ SKL sk L cl ∧ XT L cl ln L2 cl2 ln2 ∧ (KP L cl (fun _ => False) (fun _ => False) (fun _ => False) (fun _ => False) (fun _ _ => False) iv rv iv2 rv2)) := by
  intro n L cl ln iv rv sk hn hp
  obtain ⟨hW, hS, hm, h23, ht⟩ := hp
  refine hv3 (show ty L cl (sk 23) 23 from ⟨(hS 23 rfl).1, by rw [(hS 23 rfl).2]; rfl⟩) (show ty L cl (sk 2) 2 from ⟨(hS 2 rfl).1, by rw [(hS 2 rfl).2]; rfl⟩) (show ty L cl (sk 3) 3 from ⟨(hS 3 rfl).1, by rw [(hS 3 rfl).2]; rfl⟩) (fun t23 t2 t3 => ?_)
  refine ⟨0, _, by decide, C_end hW hS ht h_n , fun v L2 cl2 ln2 iv2 rv2 h => ?_⟩
  obtain ⟨f, rfl, rfl, rfl, rfl, rfl, hF, hW2, rg, ex, kp11, kp12, kp13, kp14, kp15, kp16⟩ := h
  exact ⟨f, rfl, by omega, XT.refl, hW2, (MRK.call hm hW hS XT.refl hF rfl rfl), (by have q := hF.i t23 rfl 2; omega), ⟨⟨trivial, ⟨(KSQ.ni hW ht hF rfl), (KSC.fr hW ht hF rfl rfl rfl rfl rfl rfl), kp15, kp16, ⟨hF.i (tysq (t := 5) hS rfl rfl) rfl 2, fun ss hs => CT.fr hs hW (tysq (t := 5) hS rfl rfl) hF rfl rfl rfl rfl rfl⟩, ⟨hF.i (tysq (t := 4) hS rfl rfl) rfl 2, fun ss hs => CT.fr hs hW (tysq (t := 4) hS rfl rfl) hF rfl rfl rfl rfl rfl⟩, (FKP.fr hW hS hF rfl rfl rfl rfl)⟩⟩, ⟨kp14, kp11, kp12, kp13⟩, ⟨ex, fun ss hs => CT.cut hs hW t2 hF rfl rfl rfl rfl rfl (by omega)⟩, ⟨hF.i t3 rfl 2, fun tt ht => CT.fr ht hW t3 hF rfl rfl rfl rfl rfl⟩, (PSAME.fr hW hS hF rfl rfl rfl rfl rfl rfl rfl), ⟨⟨_, hW, hW2⟩, hS, XT.refl, (KP.fr hW hF rfl)⟩⟩⟩
theorem PO_table {l : Launch} {G : GT} {mi h0 : Nat} {x : Int} {y : Int} {i : Int} (h_x : -2147483648 ≤ x ∧ x ≤ 2147483647) (h_y : -2147483648 ≤ y ∧ y ≤ 2147483647) (h_i : -2147483648 ≤ i ∧ i ≤ 2147483647) : PressOp l G mi yX11_table cX11_table 5 (some .int) 9 [.int (iI x), .int (iI y), .int (iI i)] h0 (fun sk L cl ln iv rv L2 cl2 ln2 iv2 rv2 f => (True ∧ (KSQ h0 iv rv iv2 rv2 ∧ KSC h0 iv rv iv2 rv2 ∧ iv2 h0 15 = iv h0 15 ∧ iv2 h0 16 = iv h0 16 ∧ (iv2 (sk 5) 2 = iv (sk 5) 2 ∧ ∀ ss, CT iv rv (sk 5) ss → CT iv2 rv2 (sk 5) ss) ∧ (iv2 (sk 4) 2 = iv (sk 4) 2 ∧ ∀ ss, CT iv rv (sk 4) ss → CT iv2 rv2 (sk 4) ss) ∧ FKP sk iv rv iv2 rv2)) ∧ (iv2 h0 14 = iv h0 14 ∧ iv2 h0 11 = iv h0 11 ∧ iv2 h0 12 = iv h0 12 ∧ iv2 h0 13 = iv h0 13) ∧ (iv2 (sk 2) 2 = iv (sk 2) 2 ∧ (∀ ss, CT iv rv (sk 2) ss → CT iv2 rv2 (sk 2) ss)) ∧ (iv2 (sk 3) 2 = iv (sk 3) 2 ∧ (∀ tt, CT iv rv (sk 3) tt → CT iv2 rv2 (sk 3) tt)) ∧ PTBL x y i f sk iv rv iv2 rv2 ∧ (∃ g, WT g sk L cl ln iv rv ∧ WT g sk L2 cl2 ln2 iv2 rv2) ∧ SKL sk L cl ∧ XT L cl ln L2 cl2 ln2 ∧ ((f = -1 ∧ KP L cl (fun _ => False) (fun _ => False) (fun _ => False) (fun _ => False) (fun _ _ => False) iv rv iv2 rv2) ∨ (f ≠ -1 ∧ KP L cl (fun _ => False) (fun _ => False) (fun _ => False) (fun _ => False) (fun _ _ => False) iv rv iv2 rv2 ∧ ∃ b, (((x < 1 ∨ 3 < x) ∧ b = none) ∨ ((1 ≤ x ∧ x ≤ 3) ∧ ∃ t, ALV sk iv rv i t ∧ b = some t)) ∧ KNW L sk b none iv iv2 rv2))) := by
  intro n L cl ln iv rv sk hn hp
  obtain ⟨hW, hS, hm, h23, ht⟩ := hp
  refine hv3 (show ty L cl (sk 23) 23 from ⟨(hS 23 rfl).1, by rw [(hS 23 rfl).2]; rfl⟩) (show ty L cl (sk 2) 2 from ⟨(hS 2 rfl).1, by rw [(hS 2 rfl).2]; rfl⟩) (show ty L cl (sk 3) 3 from ⟨(hS 3 rfl).1, by rw [(hS 3 rfl).2]; rfl⟩) (fun t23 t2 t3 => ?_)
  refine ⟨1434, _, by decide, C_table hW hS ht h_x h_y h_i hm (by omega), fun v L2 cl2 ln2 iv2 rv2 h => ?_⟩
  obtain ⟨f, rfl, hX, hF, hW2, rg, ex, kp11, kp12, kp13, kp14, kp15, kp16, tbx, kbx, kr9, kr10⟩ := h
  exact ⟨f, rfl, by omega, hX, hW2, ex.2, ex.1, ⟨⟨trivial, ⟨(KSQ.fr hW ht hF kr9 kr10 rfl rfl rfl), (KSC.fr hW ht hF kr9 kr10 rfl rfl rfl rfl), kp15, kp16, ⟨hF.i (tysq (t := 5) hS rfl rfl) rfl 2, fun ss hs => CT.fr hs hW (tysq (t := 5) hS rfl rfl) hF rfl rfl rfl rfl rfl⟩, ⟨hF.i (tysq (t := 4) hS rfl rfl) rfl 2, fun ss hs => CT.fr hs hW (tysq (t := 4) hS rfl rfl) hF rfl rfl rfl rfl rfl⟩, (FKP.fr hW hS hF rfl rfl rfl rfl)⟩⟩, ⟨kp14, kp11, kp12, kp13⟩, ⟨hF.i t2 rfl 2, fun ss hs => CT.fr hs hW t2 hF rfl rfl rfl rfl rfl⟩, ⟨hF.i t3 rfl 2, fun tt ht => CT.fr ht hW t3 hF rfl rfl rfl rfl rfl⟩, tbx, ⟨⟨_, hW, hW2⟩, hS, hX, kbx⟩⟩⟩
theorem PO_join {l : Launch} {G : GT} {mi h0 : Nat} {i : Int} {j : Int} (h_i : -2147483648 ≤ i ∧ i ≤ 2147483647) (h_j : -2147483648 ≤ j ∧ j ≤ 2147483647) : PressOp l G mi yX11_join cX11_join 5 (some .int) 9 [.int (iI i), .int (iI j)] h0 (fun sk L cl ln iv rv L2 cl2 ln2 iv2 rv2 f => (True ∧ (KSQ h0 iv rv iv2 rv2 ∧ KSC h0 iv rv iv2 rv2 ∧ iv2 h0 15 = iv h0 15 ∧ iv2 h0 16 = iv h0 16 ∧ (iv2 (sk 5) 2 = iv (sk 5) 2 ∧ ∀ ss, CT iv rv (sk 5) ss → CT iv2 rv2 (sk 5) ss) ∧ (iv2 (sk 4) 2 = iv (sk 4) 2 ∧ ∀ ss, CT iv rv (sk 4) ss → CT iv2 rv2 (sk 4) ss) ∧ FKP sk iv rv iv2 rv2)) ∧ (iv2 h0 14 = iv h0 14 ∧ iv2 h0 11 = iv h0 11 ∧ iv2 h0 12 = iv h0 12 ∧ iv2 h0 13 = iv h0 13) ∧ (iv2 (sk 2) 2 = iv (sk 2) 2 ∧ (∀ ss, CT iv rv (sk 2) ss → CT iv2 rv2 (sk 2) ss)) ∧ (iv2 (sk 3) 2 = iv (sk 3) 2 ∧ (∀ tt, CT iv rv (sk 3) tt → CT iv2 rv2 (sk 3) tt)) ∧ PJOI i j f sk iv rv iv2 rv2 ∧ (∃ g, WT g sk L cl ln iv rv ∧ WT g sk L2 cl2 ln2 iv2 rv2) ∧ SKL sk L cl ∧ XT L cl ln L2 cl2 ln2 ∧ ((f = -1 ∧ KP L cl (fun _ => False) (fun _ => False) (fun _ => False) (fun _ => False) (fun _ _ => False) iv rv iv2 rv2) ∨ (f ≠ -1 ∧ KP L cl (fun _ => False) (fun _ => False) (fun _ => False) (fun _ => False) (fun _ _ => False) iv rv iv2 rv2 ∧ ∃ t u, ALV sk iv rv i t ∧ ALV sk iv rv j u ∧ KNW L sk (some t) (some u) iv iv2 rv2))) := by
  intro n L cl ln iv rv sk hn hp
  obtain ⟨hW, hS, hm, h23, ht⟩ := hp
  refine hv3 (show ty L cl (sk 23) 23 from ⟨(hS 23 rfl).1, by rw [(hS 23 rfl).2]; rfl⟩) (show ty L cl (sk 2) 2 from ⟨(hS 2 rfl).1, by rw [(hS 2 rfl).2]; rfl⟩) (show ty L cl (sk 3) 3 from ⟨(hS 3 rfl).1, by rw [(hS 3 rfl).2]; rfl⟩) (fun t23 t2 t3 => ?_)
  refine ⟨1434, _, by decide, C_join hW hS ht h_i h_j hm (by omega), fun v L2 cl2 ln2 iv2 rv2 h => ?_⟩
  obtain ⟨f, rfl, hX, hF, hW2, rg, ex, kp11, kp12, kp13, kp14, kp15, kp16, tbx, kbx, kr9, kr10⟩ := h
  exact ⟨f, rfl, by omega, hX, hW2, ex.2, ex.1, ⟨⟨trivial, ⟨(KSQ.fr hW ht hF kr9 kr10 rfl rfl rfl), (KSC.fr hW ht hF kr9 kr10 rfl rfl rfl rfl), kp15, kp16, ⟨hF.i (tysq (t := 5) hS rfl rfl) rfl 2, fun ss hs => CT.fr hs hW (tysq (t := 5) hS rfl rfl) hF rfl rfl rfl rfl rfl⟩, ⟨hF.i (tysq (t := 4) hS rfl rfl) rfl 2, fun ss hs => CT.fr hs hW (tysq (t := 4) hS rfl rfl) hF rfl rfl rfl rfl rfl⟩, (FKP.fr hW hS hF rfl rfl rfl rfl)⟩⟩, ⟨kp14, kp11, kp12, kp13⟩, ⟨hF.i t2 rfl 2, fun ss hs => CT.fr hs hW t2 hF rfl rfl rfl rfl rfl⟩, ⟨hF.i t3 rfl 2, fun tt ht => CT.fr ht hW t3 hF rfl rfl rfl rfl rfl⟩, tbx, ⟨⟨_, hW, hW2⟩, hS, hX, kbx⟩⟩⟩
theorem PO_drop {l : Launch} {G : GT} {mi h0 : Nat} {i : Int} (h_i : -2147483648 ≤ i ∧ i ≤ 2147483647) : PressOp l G mi yX11_drop cX11_drop 3 (some .int) 8 [.int (iI i)] h0 (fun sk L cl ln iv rv L2 cl2 ln2 iv2 rv2 f => (True ∧ (KSQ h0 iv rv iv2 rv2 ∧ KSC h0 iv rv iv2 rv2 ∧ iv2 h0 15 = iv h0 15 ∧ iv2 h0 16 = iv h0 16 ∧ (iv2 (sk 5) 2 = iv (sk 5) 2 ∧ ∀ ss, CT iv rv (sk 5) ss → CT iv2 rv2 (sk 5) ss) ∧ (iv2 (sk 4) 2 = iv (sk 4) 2 ∧ ∀ ss, CT iv rv (sk 4) ss → CT iv2 rv2 (sk 4) ss) ∧ FKP sk iv rv iv2 rv2)) ∧ (iv2 h0 14 = iv h0 14 ∧ iv2 h0 11 = iv h0 11 ∧ iv2 h0 12 = iv h0 12 ∧ iv2 h0 13 = iv h0 13) ∧ (iv2 (sk 2) 2 = iv (sk 2) 2 ∧ (∀ ss, CT iv rv (sk 2) ss → CT iv2 rv2 (sk 2) ss)) ∧ (iv2 (sk 3) 2 = iv (sk 3) 2 ∧ (∀ tt, CT iv rv (sk 3) tt → CT iv2 rv2 (sk 3) tt)) ∧ PDRP i f sk iv rv iv2 rv2 ∧ (∃ g, WT g sk L cl ln iv rv ∧ WT g sk L2 cl2 ln2 iv2 rv2) ∧ SKL sk L cl ∧ XT L cl ln L2 cl2 ln2 ∧ (KP L cl (fun _ => False) (fun _ => False) (fun _ => False) (fun _ => False) (fun _ _ => False) iv rv iv2 rv2)) := by
  intro n L cl ln iv rv sk hn hp
  obtain ⟨hW, hS, hm, h23, ht⟩ := hp
  refine hv3 (show ty L cl (sk 23) 23 from ⟨(hS 23 rfl).1, by rw [(hS 23 rfl).2]; rfl⟩) (show ty L cl (sk 2) 2 from ⟨(hS 2 rfl).1, by rw [(hS 2 rfl).2]; rfl⟩) (show ty L cl (sk 3) 3 from ⟨(hS 3 rfl).1, by rw [(hS 3 rfl).2]; rfl⟩) (fun t23 t2 t3 => ?_)
  refine ⟨1236, _, by decide, C_drop hW hS ht h_i hm (by omega), fun v L2 cl2 ln2 iv2 rv2 h => ?_⟩
  obtain ⟨f, rfl, hX, hF, hW2, rg, ex, kp11, kp12, kp13, kp14, kp15, kp16, tbx, kbx, kr9, kr10⟩ := h
  exact ⟨f, rfl, by omega, hX, hW2, ex.2, ex.1, ⟨⟨trivial, ⟨(KSQ.fr hW ht hF kr9 kr10 rfl rfl rfl), (KSC.fr hW ht hF kr9 kr10 rfl rfl rfl rfl), kp15, kp16, ⟨hF.i (tysq (t := 5) hS rfl rfl) rfl 2, fun ss hs => CT.fr hs hW (tysq (t := 5) hS rfl rfl) hF rfl rfl rfl rfl rfl⟩, ⟨hF.i (tysq (t := 4) hS rfl rfl) rfl 2, fun ss hs => CT.fr hs hW (tysq (t := 4) hS rfl rfl) hF rfl rfl rfl rfl rfl⟩, (FKP.fr hW hS hF rfl rfl rfl rfl)⟩⟩, ⟨kp14, kp11, kp12, kp13⟩, ⟨hF.i t2 rfl 2, fun ss hs => CT.fr hs hW t2 hF rfl rfl rfl rfl rfl⟩, ⟨hF.i t3 rfl 2, fun tt ht => CT.fr ht hW t3 hF rfl rfl rfl rfl rfl⟩, tbx, ⟨⟨_, hW, hW2⟩, hS, hX, kbx⟩⟩⟩
theorem PO_rule {l : Launch} {G : GT} {mi h0 : Nat} {i : Int} {cnd : Int} {n : Int} (h_i : -2147483648 ≤ i ∧ i ≤ 2147483647) (h_cnd : -2147483648 ≤ cnd ∧ cnd ≤ 2147483647) (h_n : -2147483648 ≤ n ∧ n ≤ 2147483647) : PressOp l G mi yX11_rule cX11_rule 5 (some .int) 9 [.int (iI i), .int (iI cnd), .int (iI n)] h0 (fun sk L cl ln iv rv L2 cl2 ln2 iv2 rv2 f => (True ∧ (KSQ h0 iv rv iv2 rv2 ∧ KSC h0 iv rv iv2 rv2 ∧ iv2 h0 15 = iv h0 15 ∧ iv2 h0 16 = iv h0 16 ∧ (iv2 (sk 5) 2 = iv (sk 5) 2 ∧ ∀ ss, CT iv rv (sk 5) ss → CT iv2 rv2 (sk 5) ss) ∧ (iv2 (sk 4) 2 = iv (sk 4) 2 ∧ ∀ ss, CT iv rv (sk 4) ss → CT iv2 rv2 (sk 4) ss) ∧ FKP sk iv rv iv2 rv2)) ∧ (iv2 h0 14 = iv h0 14 ∧ iv2 h0 11 = iv h0 11 ∧ iv2 h0 12 = iv h0 12 ∧ iv2 h0 13 = iv h0 13) ∧ iv2 (sk 2) 2 = 0 ∧ (iv2 (sk 3) 2 = iv (sk 3) 2 ∧ (∀ tt, CT iv rv (sk 3) tt → CT iv2 rv2 (sk 3) tt)) ∧ PRUL i cnd n f sk iv rv iv2 rv2 ∧ (∃ g, WT g sk L cl ln iv rv ∧ WT g sk L2 cl2 ln2 iv2 rv2) ∧ SKL sk L cl ∧ XT L cl ln L2 cl2 ln2 ∧ (KRU L cl sk iv rv L2 cl2 ln2 iv2 rv2 i cnd n f)) := by
  intro n L cl ln iv rv sk hn hp
  obtain ⟨hW, hS, hm, h23, ht⟩ := hp
  refine hv3 (show ty L cl (sk 23) 23 from ⟨(hS 23 rfl).1, by rw [(hS 23 rfl).2]; rfl⟩) (show ty L cl (sk 2) 2 from ⟨(hS 2 rfl).1, by rw [(hS 2 rfl).2]; rfl⟩) (show ty L cl (sk 3) 3 from ⟨(hS 3 rfl).1, by rw [(hS 3 rfl).2]; rfl⟩) (fun t23 t2 t3 => ?_)
  refine ⟨2320, _, by decide, C_rule hW hS ht h_i h_cnd h_n hm (by omega), fun v L2 cl2 ln2 iv2 rv2 h => ?_⟩
  obtain ⟨f, rfl, hX, hF, hW2, rg, ex, kp11, kp12, kp13, kp14, kp15, kp16, ktz, tbx, kbx, kr9, kr10⟩ := h
  exact ⟨f, rfl, by omega, hX, hW2, ex.2, ex.1, ⟨⟨trivial, ⟨(KSQ.fr hW ht hF kr9 kr10 rfl rfl rfl), (KSC.fr hW ht hF kr9 kr10 rfl rfl rfl rfl), kp15, kp16, ⟨hF.i (tysq (t := 5) hS rfl rfl) rfl 2, fun ss hs => CT.fr hs hW (tysq (t := 5) hS rfl rfl) hF rfl rfl rfl rfl rfl⟩, ⟨hF.i (tysq (t := 4) hS rfl rfl) rfl 2, fun ss hs => CT.fr hs hW (tysq (t := 4) hS rfl rfl) hF rfl rfl rfl rfl rfl⟩, (FKP.fr hW hS hF rfl rfl rfl rfl)⟩⟩, ⟨kp14, kp11, kp12, kp13⟩, ktz, ⟨hF.i t3 rfl 2, fun tt ht => CT.fr ht hW t3 hF rfl rfl rfl rfl rfl⟩, tbx, ⟨⟨_, hW, hW2⟩, hS, hX, kbx⟩⟩⟩
theorem PO_condition {l : Launch} {G : GT} {mi h0 : Nat} {i : Int} {j : Int} {cnd : Int} (h_i : -2147483648 ≤ i ∧ i ≤ 2147483647) (h_j : -2147483648 ≤ j ∧ j ≤ 2147483647) (h_cnd : -2147483648 ≤ cnd ∧ cnd ≤ 2147483647) : PressOp l G mi yX11_condition cX11_condition 7 (some .int) 8 [.int (iI i), .int (iI j), .int (iI cnd)] h0 (fun sk L cl ln iv rv L2 cl2 ln2 iv2 rv2 f => (True ∧ (KSQ h0 iv rv iv2 rv2 ∧ KSC h0 iv rv iv2 rv2 ∧ iv2 h0 15 = iv h0 15 ∧ iv2 h0 16 = iv h0 16 ∧ (iv2 (sk 5) 2 = iv (sk 5) 2 ∧ ∀ ss, CT iv rv (sk 5) ss → CT iv2 rv2 (sk 5) ss) ∧ (iv2 (sk 4) 2 = iv (sk 4) 2 ∧ ∀ ss, CT iv rv (sk 4) ss → CT iv2 rv2 (sk 4) ss) ∧ FKP sk iv rv iv2 rv2)) ∧ (iv2 h0 14 = iv h0 14 ∧ iv2 h0 11 = iv h0 11 ∧ iv2 h0 12 = iv h0 12 ∧ iv2 h0 13 = iv h0 13) ∧ (iv2 (sk 2) 2 = iv (sk 2) 2 ∧ (∀ ss, CT iv rv (sk 2) ss → CT iv2 rv2 (sk 2) ss)) ∧ (iv2 (sk 3) 2 = iv (sk 3) 2 ∧ (∀ tt, CT iv rv (sk 3) tt → CT iv2 rv2 (sk 3) tt)) ∧ PCND i j cnd f sk iv rv iv2 rv2 ∧ (∃ g, WT g sk L cl ln iv rv ∧ WT g sk L2 cl2 ln2 iv2 rv2) ∧ SKL sk L cl ∧ XT L cl ln L2 cl2 ln2 ∧ (KCN L cl sk iv rv iv2 rv2 i j cnd f)) := by
  intro n L cl ln iv rv sk hn hp
  obtain ⟨hW, hS, hm, h23, ht⟩ := hp
  refine hv3 (show ty L cl (sk 23) 23 from ⟨(hS 23 rfl).1, by rw [(hS 23 rfl).2]; rfl⟩) (show ty L cl (sk 2) 2 from ⟨(hS 2 rfl).1, by rw [(hS 2 rfl).2]; rfl⟩) (show ty L cl (sk 3) 3 from ⟨(hS 3 rfl).1, by rw [(hS 3 rfl).2]; rfl⟩) (fun t23 t2 t3 => ?_)
  refine ⟨1236, _, by decide, C_condition hW hS ht h_i h_j h_cnd hm (by omega), fun v L2 cl2 ln2 iv2 rv2 h => ?_⟩
  obtain ⟨f, rfl, hX, hF, hW2, rg, ex, kp11, kp12, kp13, kp14, kp15, kp16, tbx, kbx, kr9, kr10⟩ := h
  exact ⟨f, rfl, by omega, hX, hW2, ex.2, ex.1, ⟨⟨trivial, ⟨(KSQ.fr hW ht hF kr9 kr10 rfl rfl rfl), (KSC.fr hW ht hF kr9 kr10 rfl rfl rfl rfl), kp15, kp16, ⟨hF.i (tysq (t := 5) hS rfl rfl) rfl 2, fun ss hs => CT.fr hs hW (tysq (t := 5) hS rfl rfl) hF rfl rfl rfl rfl rfl⟩, ⟨hF.i (tysq (t := 4) hS rfl rfl) rfl 2, fun ss hs => CT.fr hs hW (tysq (t := 4) hS rfl rfl) hF rfl rfl rfl rfl rfl⟩, (FKP.fr hW hS hF rfl rfl rfl rfl)⟩⟩, ⟨kp14, kp11, kp12, kp13⟩, ⟨hF.i t2 rfl 2, fun ss hs => CT.fr hs hW t2 hF rfl rfl rfl rfl rfl⟩, ⟨hF.i t3 rfl 2, fun tt ht => CT.fr ht hW t3 hF rfl rfl rfl rfl rfl⟩, tbx, ⟨⟨_, hW, hW2⟩, hS, hX, kbx⟩⟩⟩
theorem PO_indicator {l : Launch} {G : GT} {mi h0 : Nat} {i : Int} {j : Int} (h_i : -2147483648 ≤ i ∧ i ≤ 2147483647) (h_j : -2147483648 ≤ j ∧ j ≤ 2147483647) : PressOp l G mi yX11_indicator cX11_indicator 4 (some .int) 9 [.int (iI i), .int (iI j)] h0 (fun sk L cl ln iv rv L2 cl2 ln2 iv2 rv2 f => (True ∧ (KSQ h0 iv rv iv2 rv2 ∧ KSC h0 iv rv iv2 rv2 ∧ iv2 h0 15 = iv h0 15 ∧ iv2 h0 16 = iv h0 16 ∧ (iv2 (sk 5) 2 = iv (sk 5) 2 ∧ ∀ ss, CT iv rv (sk 5) ss → CT iv2 rv2 (sk 5) ss) ∧ (iv2 (sk 4) 2 = iv (sk 4) 2 ∧ ∀ ss, CT iv rv (sk 4) ss → CT iv2 rv2 (sk 4) ss) ∧ FKP sk iv rv iv2 rv2)) ∧ (iv2 h0 14 = iv h0 14 ∧ iv2 h0 11 = iv h0 11 ∧ iv2 h0 12 = iv h0 12 ∧ iv2 h0 13 = iv h0 13) ∧ iv2 (sk 2) 2 = 0 ∧ (iv2 (sk 3) 2 = iv (sk 3) 2 ∧ (∀ tt, CT iv rv (sk 3) tt → CT iv2 rv2 (sk 3) tt)) ∧ PIND i j f sk iv rv iv2 rv2 ∧ (∃ g, WT g sk L cl ln iv rv ∧ WT g sk L2 cl2 ln2 iv2 rv2) ∧ SKL sk L cl ∧ XT L cl ln L2 cl2 ln2 ∧ (KIN L cl sk iv rv L2 cl2 ln2 iv2 rv2 i j f)) := by
  intro n L cl ln iv rv sk hn hp
  obtain ⟨hW, hS, hm, h23, ht⟩ := hp
  refine hv3 (show ty L cl (sk 23) 23 from ⟨(hS 23 rfl).1, by rw [(hS 23 rfl).2]; rfl⟩) (show ty L cl (sk 2) 2 from ⟨(hS 2 rfl).1, by rw [(hS 2 rfl).2]; rfl⟩) (show ty L cl (sk 3) 3 from ⟨(hS 3 rfl).1, by rw [(hS 3 rfl).2]; rfl⟩) (fun t23 t2 t3 => ?_)
  refine ⟨1300, _, by decide, C_indicator hW hS ht h_i h_j hm (by omega), fun v L2 cl2 ln2 iv2 rv2 h => ?_⟩
  obtain ⟨f, rfl, hX, hF, hW2, rg, ex, kp11, kp12, kp13, kp14, kp15, kp16, ktz, tbx, kbx, kr9, kr10⟩ := h
  exact ⟨f, rfl, by omega, hX, hW2, ex.2, ex.1, ⟨⟨trivial, ⟨(KSQ.fr hW ht hF kr9 kr10 rfl rfl rfl), (KSC.fr hW ht hF kr9 kr10 rfl rfl rfl rfl), kp15, kp16, ⟨hF.i (tysq (t := 5) hS rfl rfl) rfl 2, fun ss hs => CT.fr hs hW (tysq (t := 5) hS rfl rfl) hF rfl rfl rfl rfl rfl⟩, ⟨hF.i (tysq (t := 4) hS rfl rfl) rfl 2, fun ss hs => CT.fr hs hW (tysq (t := 4) hS rfl rfl) hF rfl rfl rfl rfl rfl⟩, (FKP.fr hW hS hF rfl rfl rfl rfl)⟩⟩, ⟨kp14, kp11, kp12, kp13⟩, ktz, ⟨hF.i t3 rfl 2, fun tt ht => CT.fr ht hW t3 hF rfl rfl rfl rfl rfl⟩, tbx, ⟨⟨_, hW, hW2⟩, hS, hX, kbx⟩⟩⟩
theorem PO_undo {l : Launch} {G : GT} {mi h0 : Nat} : PressOp l G mi yX11_undo cX11_undo 1 (some .int) 5 [] h0 (fun sk L cl ln iv rv L2 cl2 ln2 iv2 rv2 f => (True ∧ (KSQ h0 iv rv iv2 rv2 ∧ KSC h0 iv rv iv2 rv2 ∧ iv2 h0 15 = iv h0 15 ∧ iv2 h0 16 = iv h0 16 ∧ (iv2 (sk 5) 2 = iv (sk 5) 2 ∧ ∀ ss, CT iv rv (sk 5) ss → CT iv2 rv2 (sk 5) ss) ∧ (iv2 (sk 4) 2 = iv (sk 4) 2 ∧ ∀ ss, CT iv rv (sk 4) ss → CT iv2 rv2 (sk 4) ss) ∧ FKP sk iv rv iv2 rv2)) ∧ (iv2 h0 14 = iv h0 14 ∧ iv2 h0 11 = iv h0 11 ∧ iv2 h0 12 = iv h0 12 ∧ iv2 h0 13 = iv h0 13) ∧ (iv2 (sk 2) 2 = iv (sk 2) 2 ∧ (∀ ss, CT iv rv (sk 2) ss → CT iv2 rv2 (sk 2) ss)) ∧ (iv2 (sk 3) 2 = iv (sk 3) 2 ∧ (∀ tt, CT iv rv (sk 3) tt → CT iv2 rv2 (sk 3) tt)) ∧ PUNX f sk iv rv iv2 rv2 ∧ (∃ g, WT g sk L cl ln iv rv ∧ WT g sk L2 cl2 ln2 iv2 rv2) ∧ SKL sk L cl ∧ XT L cl ln L2 cl2 ln2 ∧ ((f = 0 ∧ KP L cl (fun _ => False) (fun _ => False) (fun _ => False) (fun _ => False) (fun _ _ => False) iv rv iv2 rv2) ∨ (f = 1 ∧ ∃ ch, el rv (sk 23) (iv (sk 23) 2 - 1).toNat = some ch ∧ UKP L cl ch iv rv iv2 rv2))) := by
  intro n L cl ln iv rv sk hn hp
  obtain ⟨hW, hS, hm, h23, ht⟩ := hp
  refine hv3 (show ty L cl (sk 23) 23 from ⟨(hS 23 rfl).1, by rw [(hS 23 rfl).2]; rfl⟩) (show ty L cl (sk 2) 2 from ⟨(hS 2 rfl).1, by rw [(hS 2 rfl).2]; rfl⟩) (show ty L cl (sk 3) 3 from ⟨(hS 3 rfl).1, by rw [(hS 3 rfl).2]; rfl⟩) (fun t23 t2 t3 => ?_)
  refine ⟨0, _, by decide, C_undo hW hS ht  hm, fun v L2 cl2 ln2 iv2 rv2 h => ?_⟩
  obtain ⟨f, rfl, rfl, rfl, rfl, hF, hW2, rg, ex, kp11, kp12, kp13, kp14, kp15, kp16, tbx, kbx, kr9, kr10⟩ := h
  exact ⟨f, rfl, by omega, XT.refl, hW2, ex.2, ex.1, ⟨⟨trivial, ⟨(KSQ.fr hW ht hF kr9 kr10 rfl rfl rfl), (KSC.fr hW ht hF kr9 kr10 rfl rfl rfl rfl), kp15, kp16, ⟨hF.i (tysq (t := 5) hS rfl rfl) rfl 2, fun ss hs => CT.fr hs hW (tysq (t := 5) hS rfl rfl) hF rfl rfl rfl rfl rfl⟩, ⟨hF.i (tysq (t := 4) hS rfl rfl) rfl 2, fun ss hs => CT.fr hs hW (tysq (t := 4) hS rfl rfl) hF rfl rfl rfl rfl rfl⟩, (FKP.fr hW hS hF rfl rfl rfl rfl)⟩⟩, ⟨kp14, kp11, kp12, kp13⟩, ⟨hF.i t2 rfl 2, fun ss hs => CT.fr hs hW t2 hF rfl rfl rfl rfl rfl⟩, ⟨hF.i t3 rfl 2, fun tt ht => CT.fr ht hW t3 hF rfl rfl rfl rfl rfl⟩, tbx, ⟨⟨_, hW, hW2⟩, hS, XT.refl, kbx⟩⟩⟩
theorem PO_text {l : Launch} {G : GT} {mi h0 : Nat} : PressOp l G mi yX11_text cX11_text 2 (some .int) 5 [] h0 (fun sk L cl ln iv rv L2 cl2 ln2 iv2 rv2 f => (True ∧ (KSQ h0 iv rv iv2 rv2 ∧ KSC h0 iv rv iv2 rv2 ∧ iv2 h0 15 = iv h0 15 ∧ iv2 h0 16 = iv h0 16 ∧ (iv2 (sk 5) 2 = iv (sk 5) 2 ∧ ∀ ss, CT iv rv (sk 5) ss → CT iv2 rv2 (sk 5) ss) ∧ (iv2 (sk 4) 2 = iv (sk 4) 2 ∧ ∀ ss, CT iv rv (sk 4) ss → CT iv2 rv2 (sk 4) ss) ∧ FKP sk iv rv iv2 rv2)) ∧ (iv2 h0 14 = iv h0 14 ∧ iv2 h0 11 = iv h0 11 ∧ iv2 h0 12 = iv h0 12 ∧ iv2 h0 13 = iv h0 13) ∧ iv2 (sk 2) 2 = 0 ∧ ((∀ ss, CT iv rv (sk 2) ss → ((f = -1 ∧ iv2 (sk 3) 2 = iv (sk 3) 2 ∧ ¬ (TOK ss (iv (sk 2) 2) ∧ iv (sk 3) 2 + iv (sk 2) 2 ≤ 500)) ∨ (f = iv2 (sk 3) 2 ∧ TOK ss (iv (sk 2) 2) ∧ iv (sk 3) 2 + iv (sk 2) 2 ≤ 500 ∧ ((iv (sk 2) 2 = 0 ∧ iv2 (sk 3) 2 = 0) ∨ (iv (sk 2) 2 ≠ 0 ∧ iv2 (sk 3) 2 = iv (sk 3) 2 + iv (sk 2) 2))))) ∧ (∀ ss tt, CT iv rv (sk 2) ss → CT iv rv (sk 3) tt → (f = -1 → CT iv2 rv2 (sk 3) tt) ∧ (f ≠ -1 → CT iv2 rv2 (sk 3) (apd tt (iv (sk 3) 2).toNat ss)))) ∧ PSAME sk iv rv iv2 rv2 ∧ (∃ g, WT g sk L cl ln iv rv ∧ WT g sk L2 cl2 ln2 iv2 rv2) ∧ SKL sk L cl ∧ XT L cl ln L2 cl2 ln2 ∧ (KP L cl (fun _ => False) (fun _ => False) (fun _ => False) (fun _ => False) (fun _ _ => False) iv rv iv2 rv2)) := by
  intro n L cl ln iv rv sk hn hp
  obtain ⟨hW, hS, hm, h23, ht⟩ := hp
  refine hv3 (show ty L cl (sk 23) 23 from ⟨(hS 23 rfl).1, by rw [(hS 23 rfl).2]; rfl⟩) (show ty L cl (sk 2) 2 from ⟨(hS 2 rfl).1, by rw [(hS 2 rfl).2]; rfl⟩) (show ty L cl (sk 3) 3 from ⟨(hS 3 rfl).1, by rw [(hS 3 rfl).2]; rfl⟩) (fun t23 t2 t3 => ?_)
  refine ⟨0, _, by decide, C_text hW hS ht  , fun v L2 cl2 ln2 iv2 rv2 h => ?_⟩
  obtain ⟨f, rfl, hX, hF, hW2, rg, ex, kp11, kp12, kp13, kp14, kp15, kp16, ktz, txk, kr9, kr10⟩ := h
  exact ⟨f, rfl, by omega, hX, hW2, (MRK.call hm hW hS hX hF rfl rfl), (by have q := hF.i t23 rfl 2; omega), ⟨⟨trivial, ⟨(KSQ.fr hW ht hF kr9 kr10 rfl rfl rfl), (KSC.fr hW ht hF kr9 kr10 rfl rfl rfl rfl), kp15, kp16, ⟨hF.i (tysq (t := 5) hS rfl rfl) rfl 2, fun ss hs => CT.fr hs hW (tysq (t := 5) hS rfl rfl) hF rfl rfl rfl rfl rfl⟩, ⟨hF.i (tysq (t := 4) hS rfl rfl) rfl 2, fun ss hs => CT.fr hs hW (tysq (t := 4) hS rfl rfl) hF rfl rfl rfl rfl rfl⟩, (FKP.fr hW hS hF rfl rfl rfl rfl)⟩⟩, ⟨kp14, kp11, kp12, kp13⟩, ktz, ⟨ex, txk⟩, (PSAME.fr hW hS hF rfl rfl rfl rfl rfl rfl rfl), ⟨⟨_, hW, hW2⟩, hS, hX, (KP.fr hW hF rfl)⟩⟩⟩
theorem PO_measure {l : Launch} {G : GT} {mi h0 : Nat} {x : Int} {y : Int} {h : Int} (h_x : -2147483648 ≤ x ∧ x ≤ 2147483647) (h_y : -2147483648 ≤ y ∧ y ≤ 2147483647) (h_h : -2147483648 ≤ h ∧ h ≤ 2147483647) : PressOp l G mi yX11_measure cX11_measure 4 (some .int) 1 [.int (iI x), .int (iI y), .int (iI h)] h0 (fun sk L cl ln iv rv L2 cl2 ln2 iv2 rv2 f => (((f = 1 ∧ 1 ≤ x ∧ x ≤ 100 ∧ 1 ≤ y ∧ y ≤ 50 ∧ 1 ≤ h ∧ h ≤ 255) ∨ (f = -1 ∧ ¬ (1 ≤ x ∧ x ≤ 100 ∧ 1 ≤ y ∧ y ≤ 50 ∧ 1 ≤ h ∧ h ≤ 255))) ∧ (KSQ h0 iv rv iv2 rv2 ∧ KSC h0 iv rv iv2 rv2 ∧ iv2 h0 15 = iv h0 15 ∧ iv2 h0 16 = iv h0 16 ∧ (iv2 (sk 5) 2 = iv (sk 5) 2 ∧ ∀ ss, CT iv rv (sk 5) ss → CT iv2 rv2 (sk 5) ss) ∧ (iv2 (sk 4) 2 = iv (sk 4) 2 ∧ ∀ ss, CT iv rv (sk 4) ss → CT iv2 rv2 (sk 4) ss) ∧ FKP sk iv rv iv2 rv2)) ∧ (iv2 h0 14 = iv h0 14 ∧ ((f = 1 ∧ iv2 h0 11 = x ∧ iv2 h0 12 = y ∧ iv2 h0 13 = h) ∨ (f = -1 ∧ iv2 h0 11 = iv h0 11 ∧ iv2 h0 12 = iv h0 12 ∧ iv2 h0 13 = iv h0 13))) ∧ (iv2 (sk 2) 2 = iv (sk 2) 2 ∧ (∀ ss, CT iv rv (sk 2) ss → CT iv2 rv2 (sk 2) ss)) ∧ (iv2 (sk 3) 2 = iv (sk 3) 2 ∧ (∀ tt, CT iv rv (sk 3) tt → CT iv2 rv2 (sk 3) tt)) ∧ PSAME sk iv rv iv2 rv2 ∧ (∃ g, WT g sk L cl ln iv rv ∧ WT g sk L2 cl2 ln2 iv2 rv2) ∧ SKL sk L cl ∧ XT L cl ln L2 cl2 ln2 ∧ (KP L cl (fun _ => False) (fun _ => False) (fun _ => False) (fun _ => False) (fun _ _ => False) iv rv iv2 rv2)) := by
  intro n L cl ln iv rv sk hn hp
  obtain ⟨hW, hS, hm, h23, ht⟩ := hp
  refine hv3 (show ty L cl (sk 23) 23 from ⟨(hS 23 rfl).1, by rw [(hS 23 rfl).2]; rfl⟩) (show ty L cl (sk 2) 2 from ⟨(hS 2 rfl).1, by rw [(hS 2 rfl).2]; rfl⟩) (show ty L cl (sk 3) 3 from ⟨(hS 3 rfl).1, by rw [(hS 3 rfl).2]; rfl⟩) (fun t23 t2 t3 => ?_)
  refine ⟨0, _, by decide, C_measure2 hW hS ht h_x h_y h_h , fun v L2 cl2 ln2 iv2 rv2 h => ?_⟩
  obtain ⟨f, rfl, rfl, rfl, rfl, rfl, hF, hW2, rg, ex, kp14, kp15, kp16⟩ := h
  exact ⟨f, rfl, by omega, XT.refl, hW2, (MRK.call hm hW hS XT.refl hF rfl rfl), (by have q := hF.i t23 rfl 2; omega), ⟨⟨ex.1, ⟨(KSQ.ni hW ht hF rfl), (KSC.fr hW ht hF rfl rfl rfl rfl rfl rfl), kp15, kp16, ⟨hF.i (tysq (t := 5) hS rfl rfl) rfl 2, fun ss hs => CT.fr hs hW (tysq (t := 5) hS rfl rfl) hF rfl rfl rfl rfl rfl⟩, ⟨hF.i (tysq (t := 4) hS rfl rfl) rfl 2, fun ss hs => CT.fr hs hW (tysq (t := 4) hS rfl rfl) hF rfl rfl rfl rfl rfl⟩, (FKP.fr hW hS hF rfl rfl rfl rfl)⟩⟩, ⟨kp14, ex.2⟩, ⟨hF.i t2 rfl 2, fun ss hs => CT.fr hs hW t2 hF rfl rfl rfl rfl rfl⟩, ⟨hF.i t3 rfl 2, fun tt ht => CT.fr ht hW t3 hF rfl rfl rfl rfl rfl⟩, (PSAME.fr hW hS hF rfl rfl rfl rfl rfl rfl rfl), ⟨⟨_, hW, hW2⟩, hS, XT.refl, (KP.fr hW hF rfl)⟩⟩⟩
theorem PO_head {l : Launch} {G : GT} {mi h0 : Nat} {i : Int} (h_i : -2147483648 ≤ i ∧ i ≤ 2147483647) : PressOp l G mi yX11_head cX11_head 6 (some .int) 8 [.int (iI i)] h0 (fun sk L cl ln iv rv L2 cl2 ln2 iv2 rv2 f => (True ∧ (KSQ h0 iv rv iv2 rv2 ∧ KSC h0 iv rv iv2 rv2 ∧ iv2 h0 15 = iv h0 15 ∧ iv2 h0 16 = iv h0 16 ∧ True ∧ (iv2 (sk 4) 2 = iv (sk 4) 2 ∧ ∀ ss, CT iv rv (sk 4) ss → CT iv2 rv2 (sk 4) ss) ∧ FKP sk iv rv iv2 rv2)) ∧ (iv2 h0 14 = iv h0 14 ∧ iv2 h0 11 = iv h0 11 ∧ iv2 h0 12 = iv h0 12 ∧ iv2 h0 13 = iv h0 13) ∧ iv2 (sk 2) 2 = 0 ∧ (iv2 (sk 3) 2 = iv (sk 3) 2 ∧ (∀ tt, CT iv rv (sk 3) tt → CT iv2 rv2 (sk 3) tt)) ∧ PSAME sk iv rv iv2 rv2 ∧ (∃ g, WT g sk L cl ln iv rv ∧ WT g sk L2 cl2 ln2 iv2 rv2) ∧ SKL sk L cl ∧ XT L cl ln L2 cl2 ln2 ∧ (KP L cl (fun _ => False) (fun _ => False) (fun _ => False) (fun _ => False) (fun _ _ => False) iv rv iv2 rv2)) := by
  intro n L cl ln iv rv sk hn hp
  obtain ⟨hW, hS, hm, h23, ht⟩ := hp
  refine hv3 (show ty L cl (sk 23) 23 from ⟨(hS 23 rfl).1, by rw [(hS 23 rfl).2]; rfl⟩) (show ty L cl (sk 2) 2 from ⟨(hS 2 rfl).1, by rw [(hS 2 rfl).2]; rfl⟩) (show ty L cl (sk 3) 3 from ⟨(hS 3 rfl).1, by rw [(hS 3 rfl).2]; rfl⟩) (fun t23 t2 t3 => ?_)
  refine ⟨0, _, by decide, C_head hW hS ht h_i hm, fun v L2 cl2 ln2 iv2 rv2 h => ?_⟩
  obtain ⟨f, rfl, hX, hF, hW2, rg, ex, kp11, kp12, kp13, kp14, kp15, kp16, ktz, kr9, kr10⟩ := h
  exact ⟨f, rfl, by omega, hX, hW2, (MRK.call hm hW hS hX hF rfl rfl), (by have q := hF.i t23 rfl 2; omega), ⟨⟨trivial, ⟨(KSQ.fr hW ht hF kr9 kr10 rfl rfl rfl), (KSC.fr hW ht hF kr9 kr10 rfl rfl rfl rfl), kp15, kp16, trivial, ⟨hF.i (tysq (t := 4) hS rfl rfl) rfl 2, fun ss hs => CT.fr hs hW (tysq (t := 4) hS rfl rfl) hF rfl rfl rfl rfl rfl⟩, (FKP.fr hW hS hF rfl rfl rfl rfl)⟩⟩, ⟨kp14, kp11, kp12, kp13⟩, ktz, ⟨hF.i t3 rfl 2, fun tt ht => CT.fr ht hW t3 hF rfl rfl rfl rfl rfl⟩, (PSAME.fr hW hS hF rfl rfl rfl rfl rfl rfl rfl), ⟨⟨_, hW, hW2⟩, hS, hX, (KP.fr hW hF rfl)⟩⟩⟩
theorem PO_lines {l : Launch} {G : GT} {mi h0 : Nat} : PressOp l G mi yX11_lines cX11_lines 1 (some .int) 0 [] h0 (fun sk L cl ln iv rv L2 cl2 ln2 iv2 rv2 f => (True ∧ (KSQ h0 iv rv iv2 rv2 ∧ KSC h0 iv rv iv2 rv2 ∧ iv2 h0 15 = iv h0 15 ∧ iv2 h0 16 = iv h0 16 ∧ (iv2 (sk 5) 2 = iv (sk 5) 2 ∧ ∀ ss, CT iv rv (sk 5) ss → CT iv2 rv2 (sk 5) ss) ∧ (iv2 (sk 4) 2 = iv (sk 4) 2 ∧ ∀ ss, CT iv rv (sk 4) ss → CT iv2 rv2 (sk 4) ss) ∧ FKP sk iv rv iv2 rv2)) ∧ (iv2 h0 14 = iv h0 14 ∧ iv2 h0 11 = iv h0 11 ∧ iv2 h0 12 = iv h0 12 ∧ iv2 h0 13 = iv h0 13) ∧ (iv2 (sk 2) 2 = iv (sk 2) 2 ∧ (∀ ss, CT iv rv (sk 2) ss → CT iv2 rv2 (sk 2) ss)) ∧ (iv2 (sk 3) 2 = iv (sk 3) 2 ∧ (∀ tt, CT iv rv (sk 3) tt → CT iv2 rv2 (sk 3) tt)) ∧ PSAME sk iv rv iv2 rv2 ∧ (∃ g, WT g sk L cl ln iv rv ∧ WT g sk L2 cl2 ln2 iv2 rv2) ∧ SKL sk L cl ∧ XT L cl ln L2 cl2 ln2 ∧ (KP L cl (fun _ => False) (fun _ => False) (fun _ => False) (fun _ => False) (fun _ _ => False) iv rv iv2 rv2)) := by
  intro n L cl ln iv rv sk hn hp
  obtain ⟨hW, hS, hm, h23, ht⟩ := hp
  refine hv3 (show ty L cl (sk 23) 23 from ⟨(hS 23 rfl).1, by rw [(hS 23 rfl).2]; rfl⟩) (show ty L cl (sk 2) 2 from ⟨(hS 2 rfl).1, by rw [(hS 2 rfl).2]; rfl⟩) (show ty L cl (sk 3) 3 from ⟨(hS 3 rfl).1, by rw [(hS 3 rfl).2]; rfl⟩) (fun t23 t2 t3 => ?_)
  refine ⟨0, _, by decide, C_lines hW hS ht  , fun v L2 cl2 ln2 iv2 rv2 h => ?_⟩
  obtain ⟨f, rfl, rfl, rfl, rfl, rfl, rfl, rg, ex⟩ := h
  exact ⟨f, rfl, by omega, XT.refl, hW, hm, (by omega), ⟨⟨trivial, ⟨KSQ.refl, KSC.refl, rfl, rfl, ⟨rfl, fun ss hs => hs⟩, ⟨rfl, fun ss hs => hs⟩, FKP.refl⟩⟩, ⟨rfl, rfl, rfl, rfl⟩, ⟨rfl, fun ss hs => hs⟩, ⟨rfl, fun tt ht => ht⟩, PSAME.refl, ⟨⟨_, hW, hW⟩, hS, XT.refl, KP.refl⟩⟩⟩
theorem PO_pages {l : Launch} {G : GT} {mi h0 : Nat} : PressOp l G mi yX11_pages cX11_pages 2 (some .int) 2 [] h0 (fun sk L cl ln iv rv L2 cl2 ln2 iv2 rv2 f => (True ∧ (KSQ h0 iv rv iv2 rv2 ∧ KSC h0 iv rv iv2 rv2 ∧ iv2 h0 15 = iv h0 15 ∧ iv2 h0 16 = iv h0 16 ∧ (iv2 (sk 5) 2 = iv (sk 5) 2 ∧ ∀ ss, CT iv rv (sk 5) ss → CT iv2 rv2 (sk 5) ss) ∧ (iv2 (sk 4) 2 = iv (sk 4) 2 ∧ ∀ ss, CT iv rv (sk 4) ss → CT iv2 rv2 (sk 4) ss) ∧ FKP sk iv rv iv2 rv2)) ∧ (iv2 h0 14 = iv h0 14 ∧ iv2 h0 11 = iv h0 11 ∧ iv2 h0 12 = iv h0 12 ∧ iv2 h0 13 = iv h0 13) ∧ (iv2 (sk 2) 2 = iv (sk 2) 2 ∧ (∀ ss, CT iv rv (sk 2) ss → CT iv2 rv2 (sk 2) ss)) ∧ (iv2 (sk 3) 2 = iv (sk 3) 2 ∧ (∀ tt, CT iv rv (sk 3) tt → CT iv2 rv2 (sk 3) tt)) ∧ PSAME sk iv rv iv2 rv2 ∧ (∃ g, WT g sk L cl ln iv rv ∧ WT g sk L2 cl2 ln2 iv2 rv2) ∧ SKL sk L cl ∧ XT L cl ln L2 cl2 ln2 ∧ (KP L cl (fun _ => False) (fun _ => False) (fun _ => False) (fun _ => False) (fun _ _ => False) iv rv iv2 rv2)) := by
  intro n L cl ln iv rv sk hn hp
  obtain ⟨hW, hS, hm, h23, ht⟩ := hp
  refine hv3 (show ty L cl (sk 23) 23 from ⟨(hS 23 rfl).1, by rw [(hS 23 rfl).2]; rfl⟩) (show ty L cl (sk 2) 2 from ⟨(hS 2 rfl).1, by rw [(hS 2 rfl).2]; rfl⟩) (show ty L cl (sk 3) 3 from ⟨(hS 3 rfl).1, by rw [(hS 3 rfl).2]; rfl⟩) (fun t23 t2 t3 => ?_)
  refine ⟨0, _, by decide, C_pages hW hS ht  , fun v L2 cl2 ln2 iv2 rv2 h => ?_⟩
  obtain ⟨f, rfl, rfl, rfl, rfl, rfl, rfl, rg, ex⟩ := h
  exact ⟨f, rfl, by omega, XT.refl, hW, hm, (by omega), ⟨⟨trivial, ⟨KSQ.refl, KSC.refl, rfl, rfl, ⟨rfl, fun ss hs => hs⟩, ⟨rfl, fun ss hs => hs⟩, FKP.refl⟩⟩, ⟨rfl, rfl, rfl, rfl⟩, ⟨rfl, fun ss hs => hs⟩, ⟨rfl, fun tt ht => ht⟩, PSAME.refl, ⟨⟨_, hW, hW⟩, hS, XT.refl, KP.refl⟩⟩⟩
theorem PO_length {l : Launch} {G : GT} {mi h0 : Nat} {i : Int} (h_i : -2147483648 ≤ i ∧ i ≤ 2147483647) : PressOp l G mi yX11_length cX11_length 3 (some .int) 2 [.int (iI i)] h0 (fun sk L cl ln iv rv L2 cl2 ln2 iv2 rv2 f => (True ∧ (KSQ h0 iv rv iv2 rv2 ∧ KSC h0 iv rv iv2 rv2 ∧ iv2 h0 15 = iv h0 15 ∧ iv2 h0 16 = iv h0 16 ∧ (iv2 (sk 5) 2 = iv (sk 5) 2 ∧ ∀ ss, CT iv rv (sk 5) ss → CT iv2 rv2 (sk 5) ss) ∧ (iv2 (sk 4) 2 = iv (sk 4) 2 ∧ ∀ ss, CT iv rv (sk 4) ss → CT iv2 rv2 (sk 4) ss) ∧ FKP sk iv rv iv2 rv2)) ∧ (iv2 h0 14 = iv h0 14 ∧ iv2 h0 11 = iv h0 11 ∧ iv2 h0 12 = iv h0 12 ∧ iv2 h0 13 = iv h0 13) ∧ (iv2 (sk 2) 2 = iv (sk 2) 2 ∧ (∀ ss, CT iv rv (sk 2) ss → CT iv2 rv2 (sk 2) ss)) ∧ (iv2 (sk 3) 2 = iv (sk 3) 2 ∧ (∀ tt, CT iv rv (sk 3) tt → CT iv2 rv2 (sk 3) tt)) ∧ PSAME sk iv rv iv2 rv2 ∧ (∃ g, WT g sk L cl ln iv rv ∧ WT g sk L2 cl2 ln2 iv2 rv2) ∧ SKL sk L cl ∧ XT L cl ln L2 cl2 ln2 ∧ (KP L cl (fun _ => False) (fun _ => False) (fun _ => False) (fun _ => False) (fun _ _ => False) iv rv iv2 rv2)) := by
  intro n L cl ln iv rv sk hn hp
  obtain ⟨hW, hS, hm, h23, ht⟩ := hp
  refine hv3 (show ty L cl (sk 23) 23 from ⟨(hS 23 rfl).1, by rw [(hS 23 rfl).2]; rfl⟩) (show ty L cl (sk 2) 2 from ⟨(hS 2 rfl).1, by rw [(hS 2 rfl).2]; rfl⟩) (show ty L cl (sk 3) 3 from ⟨(hS 3 rfl).1, by rw [(hS 3 rfl).2]; rfl⟩) (fun t23 t2 t3 => ?_)
  refine ⟨0, _, by decide, C_length hW hS ht h_i , fun v L2 cl2 ln2 iv2 rv2 h => ?_⟩
  obtain ⟨f, rfl, rfl, rfl, rfl, rfl, hF, hW2, rg, ex, kp11, kp12, kp13, kp14, kp15, kp16⟩ := h
  exact ⟨f, rfl, by omega, XT.refl, hW2, (MRK.call hm hW hS XT.refl hF rfl rfl), (by have q := hF.i t23 rfl 2; omega), ⟨⟨trivial, ⟨(KSQ.ni hW ht hF rfl), (KSC.fr hW ht hF rfl rfl rfl rfl rfl rfl), kp15, kp16, ⟨hF.i (tysq (t := 5) hS rfl rfl) rfl 2, fun ss hs => CT.fr hs hW (tysq (t := 5) hS rfl rfl) hF rfl rfl rfl rfl rfl⟩, ⟨hF.i (tysq (t := 4) hS rfl rfl) rfl 2, fun ss hs => CT.fr hs hW (tysq (t := 4) hS rfl rfl) hF rfl rfl rfl rfl rfl⟩, (FKP.fr hW hS hF rfl rfl rfl rfl)⟩⟩, ⟨kp14, kp11, kp12, kp13⟩, ⟨hF.i t2 rfl 2, fun ss hs => CT.fr hs hW t2 hF rfl rfl rfl rfl rfl⟩, ⟨hF.i t3 rfl 2, fun tt ht => CT.fr ht hW t3 hF rfl rfl rfl rfl rfl⟩, (PSAME.fr hW hS hF rfl rfl rfl rfl rfl rfl rfl), ⟨⟨_, hW, hW2⟩, hS, XT.refl, (KP.fr hW hF rfl)⟩⟩⟩
theorem PO_cell {l : Launch} {G : GT} {mi h0 : Nat} {i : Int} {j : Int} (h_i : -2147483648 ≤ i ∧ i ≤ 2147483647) (h_j : -2147483648 ≤ j ∧ j ≤ 2147483647) : PressOp l G mi yX11_cell cX11_cell 3 (some .int) 3 [.int (iI i), .int (iI j)] h0 (fun sk L cl ln iv rv L2 cl2 ln2 iv2 rv2 f => (True ∧ (KSQ h0 iv rv iv2 rv2 ∧ KSC h0 iv rv iv2 rv2 ∧ iv2 h0 15 = iv h0 15 ∧ iv2 h0 16 = iv h0 16 ∧ (iv2 (sk 5) 2 = iv (sk 5) 2 ∧ ∀ ss, CT iv rv (sk 5) ss → CT iv2 rv2 (sk 5) ss) ∧ (iv2 (sk 4) 2 = iv (sk 4) 2 ∧ ∀ ss, CT iv rv (sk 4) ss → CT iv2 rv2 (sk 4) ss) ∧ FKP sk iv rv iv2 rv2)) ∧ (iv2 h0 14 = iv h0 14 ∧ iv2 h0 11 = iv h0 11 ∧ iv2 h0 12 = iv h0 12 ∧ iv2 h0 13 = iv h0 13) ∧ (iv2 (sk 2) 2 = iv (sk 2) 2 ∧ (∀ ss, CT iv rv (sk 2) ss → CT iv2 rv2 (sk 2) ss)) ∧ (iv2 (sk 3) 2 = iv (sk 3) 2 ∧ (∀ tt, CT iv rv (sk 3) tt → CT iv2 rv2 (sk 3) tt)) ∧ PSAME sk iv rv iv2 rv2 ∧ (∃ g, WT g sk L cl ln iv rv ∧ WT g sk L2 cl2 ln2 iv2 rv2) ∧ SKL sk L cl ∧ XT L cl ln L2 cl2 ln2 ∧ (KP L cl (fun _ => False) (fun _ => False) (fun _ => False) (fun _ => False) (fun _ _ => False) iv rv iv2 rv2)) := by
  intro n L cl ln iv rv sk hn hp
  obtain ⟨hW, hS, hm, h23, ht⟩ := hp
  refine hv3 (show ty L cl (sk 23) 23 from ⟨(hS 23 rfl).1, by rw [(hS 23 rfl).2]; rfl⟩) (show ty L cl (sk 2) 2 from ⟨(hS 2 rfl).1, by rw [(hS 2 rfl).2]; rfl⟩) (show ty L cl (sk 3) 3 from ⟨(hS 3 rfl).1, by rw [(hS 3 rfl).2]; rfl⟩) (fun t23 t2 t3 => ?_)
  refine ⟨0, _, by decide, C_cell hW hS ht h_i h_j , fun v L2 cl2 ln2 iv2 rv2 h => ?_⟩
  obtain ⟨f, rfl, rfl, rfl, rfl, rfl, hF, hW2, rg, ex, kp11, kp12, kp13, kp14, kp15, kp16⟩ := h
  exact ⟨f, rfl, by omega, XT.refl, hW2, (MRK.call hm hW hS XT.refl hF rfl rfl), (by have q := hF.i t23 rfl 2; omega), ⟨⟨trivial, ⟨(KSQ.ni hW ht hF rfl), (KSC.fr hW ht hF rfl rfl rfl rfl rfl rfl), kp15, kp16, ⟨hF.i (tysq (t := 5) hS rfl rfl) rfl 2, fun ss hs => CT.fr hs hW (tysq (t := 5) hS rfl rfl) hF rfl rfl rfl rfl rfl⟩, ⟨hF.i (tysq (t := 4) hS rfl rfl) rfl 2, fun ss hs => CT.fr hs hW (tysq (t := 4) hS rfl rfl) hF rfl rfl rfl rfl rfl⟩, (FKP.fr hW hS hF rfl rfl rfl rfl)⟩⟩, ⟨kp14, kp11, kp12, kp13⟩, ⟨hF.i t2 rfl 2, fun ss hs => CT.fr hs hW t2 hF rfl rfl rfl rfl rfl⟩, ⟨hF.i t3 rfl 2, fun tt ht => CT.fr ht hW t3 hF rfl rfl rfl rfl rfl⟩, (PSAME.fr hW hS hF rfl rfl rfl rfl rfl rfl rfl), ⟨⟨_, hW, hW2⟩, hS, XT.refl, (KP.fr hW hF rfl)⟩⟩⟩
theorem PO_page {l : Launch} {G : GT} {mi h0 : Nat} {i : Int} {j : Int} {k : Int} (h_i : -2147483648 ≤ i ∧ i ≤ 2147483647) (h_j : -2147483648 ≤ j ∧ j ≤ 2147483647) (h_k : -2147483648 ≤ k ∧ k ≤ 2147483647) : PressOp l G mi yX11_page cX11_page 5 (some .int) 3 [.int (iI i), .int (iI j), .int (iI k)] h0 (fun sk L cl ln iv rv L2 cl2 ln2 iv2 rv2 f => (True ∧ (KSQ h0 iv rv iv2 rv2 ∧ KSC h0 iv rv iv2 rv2 ∧ iv2 h0 15 = iv h0 15 ∧ iv2 h0 16 = iv h0 16 ∧ (iv2 (sk 5) 2 = iv (sk 5) 2 ∧ ∀ ss, CT iv rv (sk 5) ss → CT iv2 rv2 (sk 5) ss) ∧ (iv2 (sk 4) 2 = iv (sk 4) 2 ∧ ∀ ss, CT iv rv (sk 4) ss → CT iv2 rv2 (sk 4) ss) ∧ FKP sk iv rv iv2 rv2)) ∧ (iv2 h0 14 = iv h0 14 ∧ iv2 h0 11 = iv h0 11 ∧ iv2 h0 12 = iv h0 12 ∧ iv2 h0 13 = iv h0 13) ∧ (iv2 (sk 2) 2 = iv (sk 2) 2 ∧ (∀ ss, CT iv rv (sk 2) ss → CT iv2 rv2 (sk 2) ss)) ∧ (iv2 (sk 3) 2 = iv (sk 3) 2 ∧ (∀ tt, CT iv rv (sk 3) tt → CT iv2 rv2 (sk 3) tt)) ∧ PSAME sk iv rv iv2 rv2 ∧ (∃ g, WT g sk L cl ln iv rv ∧ WT g sk L2 cl2 ln2 iv2 rv2) ∧ SKL sk L cl ∧ XT L cl ln L2 cl2 ln2 ∧ (KP L cl (fun _ => False) (fun _ => False) (fun _ => False) (fun _ => False) (fun _ _ => False) iv rv iv2 rv2)) := by
  intro n L cl ln iv rv sk hn hp
  obtain ⟨hW, hS, hm, h23, ht⟩ := hp
  refine hv3 (show ty L cl (sk 23) 23 from ⟨(hS 23 rfl).1, by rw [(hS 23 rfl).2]; rfl⟩) (show ty L cl (sk 2) 2 from ⟨(hS 2 rfl).1, by rw [(hS 2 rfl).2]; rfl⟩) (show ty L cl (sk 3) 3 from ⟨(hS 3 rfl).1, by rw [(hS 3 rfl).2]; rfl⟩) (fun t23 t2 t3 => ?_)
  refine ⟨0, _, by decide, C_page hW hS ht h_i h_j h_k , fun v L2 cl2 ln2 iv2 rv2 h => ?_⟩
  obtain ⟨f, rfl, rfl, rfl, rfl, rfl, hF, hW2, rg, ex, kp11, kp12, kp13, kp14, kp15, kp16⟩ := h
  exact ⟨f, rfl, by omega, XT.refl, hW2, (MRK.call hm hW hS XT.refl hF rfl rfl), (by have q := hF.i t23 rfl 2; omega), ⟨⟨trivial, ⟨(KSQ.ni hW ht hF rfl), (KSC.fr hW ht hF rfl rfl rfl rfl rfl rfl), kp15, kp16, ⟨hF.i (tysq (t := 5) hS rfl rfl) rfl 2, fun ss hs => CT.fr hs hW (tysq (t := 5) hS rfl rfl) hF rfl rfl rfl rfl rfl⟩, ⟨hF.i (tysq (t := 4) hS rfl rfl) rfl 2, fun ss hs => CT.fr hs hW (tysq (t := 4) hS rfl rfl) hF rfl rfl rfl rfl rfl⟩, (FKP.fr hW hS hF rfl rfl rfl rfl)⟩⟩, ⟨kp14, kp11, kp12, kp13⟩, ⟨hF.i t2 rfl 2, fun ss hs => CT.fr hs hW t2 hF rfl rfl rfl rfl rfl⟩, ⟨hF.i t3 rfl 2, fun tt ht => CT.fr ht hW t3 hF rfl rfl rfl rfl rfl⟩, (PSAME.fr hW hS hF rfl rfl rfl rfl rfl rfl rfl), ⟨⟨_, hW, hW2⟩, hS, XT.refl, (KP.fr hW hF rfl)⟩⟩⟩
theorem PO_copied {l : Launch} {G : GT} {mi h0 : Nat} : PressOp l G mi yX11_copied cX11_copied 1 (some .int) 0 [] h0 (fun sk L cl ln iv rv L2 cl2 ln2 iv2 rv2 f => (True ∧ (KSQ h0 iv rv iv2 rv2 ∧ KSC h0 iv rv iv2 rv2 ∧ iv2 h0 15 = iv h0 15 ∧ iv2 h0 16 = iv h0 16 ∧ (iv2 (sk 5) 2 = iv (sk 5) 2 ∧ ∀ ss, CT iv rv (sk 5) ss → CT iv2 rv2 (sk 5) ss) ∧ (iv2 (sk 4) 2 = iv (sk 4) 2 ∧ ∀ ss, CT iv rv (sk 4) ss → CT iv2 rv2 (sk 4) ss) ∧ FKP sk iv rv iv2 rv2)) ∧ (iv2 h0 14 = iv h0 14 ∧ iv2 h0 11 = iv h0 11 ∧ iv2 h0 12 = iv h0 12 ∧ iv2 h0 13 = iv h0 13) ∧ (iv2 (sk 2) 2 = iv (sk 2) 2 ∧ (∀ ss, CT iv rv (sk 2) ss → CT iv2 rv2 (sk 2) ss)) ∧ (iv2 (sk 3) 2 = iv (sk 3) 2 ∧ (∀ tt, CT iv rv (sk 3) tt → CT iv2 rv2 (sk 3) tt)) ∧ PSAME sk iv rv iv2 rv2 ∧ (∃ g, WT g sk L cl ln iv rv ∧ WT g sk L2 cl2 ln2 iv2 rv2) ∧ SKL sk L cl ∧ XT L cl ln L2 cl2 ln2 ∧ (KP L cl (fun _ => False) (fun _ => False) (fun _ => False) (fun _ => False) (fun _ _ => False) iv rv iv2 rv2)) := by
  intro n L cl ln iv rv sk hn hp
  obtain ⟨hW, hS, hm, h23, ht⟩ := hp
  refine hv3 (show ty L cl (sk 23) 23 from ⟨(hS 23 rfl).1, by rw [(hS 23 rfl).2]; rfl⟩) (show ty L cl (sk 2) 2 from ⟨(hS 2 rfl).1, by rw [(hS 2 rfl).2]; rfl⟩) (show ty L cl (sk 3) 3 from ⟨(hS 3 rfl).1, by rw [(hS 3 rfl).2]; rfl⟩) (fun t23 t2 t3 => ?_)
  refine ⟨0, _, by decide, C_copied hW hS ht  , fun v L2 cl2 ln2 iv2 rv2 h => ?_⟩
  obtain ⟨f, rfl, rfl, rfl, rfl, rfl, rfl, rg, ex⟩ := h
  exact ⟨f, rfl, by omega, XT.refl, hW, hm, (by omega), ⟨⟨trivial, ⟨KSQ.refl, KSC.refl, rfl, rfl, ⟨rfl, fun ss hs => hs⟩, ⟨rfl, fun ss hs => hs⟩, FKP.refl⟩⟩, ⟨rfl, rfl, rfl, rfl⟩, ⟨rfl, fun ss hs => hs⟩, ⟨rfl, fun tt ht => ht⟩, PSAME.refl, ⟨⟨_, hW, hW⟩, hS, XT.refl, KP.refl⟩⟩⟩
theorem PO_closed {l : Launch} {G : GT} {mi h0 : Nat} : PressOp l G mi yX11_closed cX11_closed 1 (some .int) 0 [] h0 (fun sk L cl ln iv rv L2 cl2 ln2 iv2 rv2 f => (True ∧ (KSQ h0 iv rv iv2 rv2 ∧ KSC h0 iv rv iv2 rv2 ∧ iv2 h0 15 = iv h0 15 ∧ iv2 h0 16 = iv h0 16 ∧ (iv2 (sk 5) 2 = iv (sk 5) 2 ∧ ∀ ss, CT iv rv (sk 5) ss → CT iv2 rv2 (sk 5) ss) ∧ (iv2 (sk 4) 2 = iv (sk 4) 2 ∧ ∀ ss, CT iv rv (sk 4) ss → CT iv2 rv2 (sk 4) ss) ∧ FKP sk iv rv iv2 rv2)) ∧ (iv2 h0 14 = iv h0 14 ∧ iv2 h0 11 = iv h0 11 ∧ iv2 h0 12 = iv h0 12 ∧ iv2 h0 13 = iv h0 13) ∧ (iv2 (sk 2) 2 = iv (sk 2) 2 ∧ (∀ ss, CT iv rv (sk 2) ss → CT iv2 rv2 (sk 2) ss)) ∧ (iv2 (sk 3) 2 = iv (sk 3) 2 ∧ (∀ tt, CT iv rv (sk 3) tt → CT iv2 rv2 (sk 3) tt)) ∧ PSAME sk iv rv iv2 rv2 ∧ (∃ g, WT g sk L cl ln iv rv ∧ WT g sk L2 cl2 ln2 iv2 rv2) ∧ SKL sk L cl ∧ XT L cl ln L2 cl2 ln2 ∧ (KP L cl (fun _ => False) (fun _ => False) (fun _ => False) (fun _ => False) (fun _ _ => False) iv rv iv2 rv2)) := by
  intro n L cl ln iv rv sk hn hp
  obtain ⟨hW, hS, hm, h23, ht⟩ := hp
  refine hv3 (show ty L cl (sk 23) 23 from ⟨(hS 23 rfl).1, by rw [(hS 23 rfl).2]; rfl⟩) (show ty L cl (sk 2) 2 from ⟨(hS 2 rfl).1, by rw [(hS 2 rfl).2]; rfl⟩) (show ty L cl (sk 3) 3 from ⟨(hS 3 rfl).1, by rw [(hS 3 rfl).2]; rfl⟩) (fun t23 t2 t3 => ?_)
  refine ⟨0, _, by decide, C_closed hW hS ht  , fun v L2 cl2 ln2 iv2 rv2 h => ?_⟩
  obtain ⟨f, rfl, rfl, rfl, rfl, rfl, rfl, rg, ex⟩ := h
  exact ⟨f, rfl, by omega, XT.refl, hW, hm, (by omega), ⟨⟨trivial, ⟨KSQ.refl, KSC.refl, rfl, rfl, ⟨rfl, fun ss hs => hs⟩, ⟨rfl, fun ss hs => hs⟩, FKP.refl⟩⟩, ⟨rfl, rfl, rfl, rfl⟩, ⟨rfl, fun ss hs => hs⟩, ⟨rfl, fun tt ht => ht⟩, PSAME.refl, ⟨⟨_, hW, hW⟩, hS, XT.refl, KP.refl⟩⟩⟩
theorem PO_letter {l : Launch} {G : GT} {mi h0 : Nat} {i : Int} (h_i : -2147483648 ≤ i ∧ i ≤ 2147483647) : PressOp l G mi yX11_letter cX11_letter 2 (some .int) 1 [.int (iI i)] h0 (fun sk L cl ln iv rv L2 cl2 ln2 iv2 rv2 f => (True ∧ (KSQ h0 iv rv iv2 rv2 ∧ KSC h0 iv rv iv2 rv2 ∧ iv2 h0 15 = iv h0 15 ∧ iv2 h0 16 = iv h0 16 ∧ (iv2 (sk 5) 2 = iv (sk 5) 2 ∧ ∀ ss, CT iv rv (sk 5) ss → CT iv2 rv2 (sk 5) ss) ∧ (iv2 (sk 4) 2 = iv (sk 4) 2 ∧ ∀ ss, CT iv rv (sk 4) ss → CT iv2 rv2 (sk 4) ss) ∧ FKP sk iv rv iv2 rv2)) ∧ (iv2 h0 14 = iv h0 14 ∧ iv2 h0 11 = iv h0 11 ∧ iv2 h0 12 = iv h0 12 ∧ iv2 h0 13 = iv h0 13) ∧ (iv2 (sk 2) 2 = iv (sk 2) 2 ∧ (∀ ss, CT iv rv (sk 2) ss → CT iv2 rv2 (sk 2) ss)) ∧ (iv2 (sk 3) 2 = iv (sk 3) 2 ∧ (∀ tt, CT iv rv (sk 3) tt → CT iv2 rv2 (sk 3) tt)) ∧ PSAME sk iv rv iv2 rv2 ∧ (∃ g, WT g sk L cl ln iv rv ∧ WT g sk L2 cl2 ln2 iv2 rv2) ∧ SKL sk L cl ∧ XT L cl ln L2 cl2 ln2 ∧ (KP L cl (fun _ => False) (fun _ => False) (fun _ => False) (fun _ => False) (fun _ _ => False) iv rv iv2 rv2)) := by
  intro n L cl ln iv rv sk hn hp
  obtain ⟨hW, hS, hm, h23, ht⟩ := hp
  refine hv3 (show ty L cl (sk 23) 23 from ⟨(hS 23 rfl).1, by rw [(hS 23 rfl).2]; rfl⟩) (show ty L cl (sk 2) 2 from ⟨(hS 2 rfl).1, by rw [(hS 2 rfl).2]; rfl⟩) (show ty L cl (sk 3) 3 from ⟨(hS 3 rfl).1, by rw [(hS 3 rfl).2]; rfl⟩) (fun t23 t2 t3 => ?_)
  refine ⟨0, _, by decide, C_letter hW hS ht h_i , fun v L2 cl2 ln2 iv2 rv2 h => ?_⟩
  obtain ⟨f, rfl, rfl, rfl, rfl, rfl, hF, hW2, rg, ex, kp11, kp12, kp13, kp14, kp15, kp16⟩ := h
  exact ⟨f, rfl, by omega, XT.refl, hW2, (MRK.call hm hW hS XT.refl hF rfl rfl), (by have q := hF.i t23 rfl 2; omega), ⟨⟨trivial, ⟨(KSQ.ni hW ht hF rfl), (KSC.fr hW ht hF rfl rfl rfl rfl rfl rfl), kp15, kp16, ⟨hF.i (tysq (t := 5) hS rfl rfl) rfl 2, fun ss hs => CT.fr hs hW (tysq (t := 5) hS rfl rfl) hF rfl rfl rfl rfl rfl⟩, ⟨hF.i (tysq (t := 4) hS rfl rfl) rfl 2, fun ss hs => CT.fr hs hW (tysq (t := 4) hS rfl rfl) hF rfl rfl rfl rfl rfl⟩, (FKP.fr hW hS hF rfl rfl rfl rfl)⟩⟩, ⟨kp14, kp11, kp12, kp13⟩, ⟨hF.i t2 rfl 2, fun ss hs => CT.fr hs hW t2 hF rfl rfl rfl rfl rfl⟩, ⟨hF.i t3 rfl 2, fun tt ht => CT.fr ht hW t3 hF rfl rfl rfl rfl rfl⟩, (PSAME.fr hW hS hF rfl rfl rfl rfl rfl rfl rfl), ⟨⟨_, hW, hW2⟩, hS, XT.refl, (KP.fr hW hF rfl)⟩⟩⟩
theorem PO_failed {l : Launch} {G : GT} {mi h0 : Nat} {i : Int} {x : Int} (h_i : -2147483648 ≤ i ∧ i ≤ 2147483647) (h_x : -2147483648 ≤ x ∧ x ≤ 2147483647) : PressOp l G mi yX11_failed cX11_failed 4 (some .int) 1 [.int (iI i), .int (iI x)] h0 (fun sk L cl ln iv rv L2 cl2 ln2 iv2 rv2 f => (True ∧ (KSQ h0 iv rv iv2 rv2 ∧ KSC h0 iv rv iv2 rv2 ∧ iv2 h0 15 = iv h0 15 ∧ iv2 h0 16 = iv h0 16 ∧ (iv2 (sk 5) 2 = iv (sk 5) 2 ∧ ∀ ss, CT iv rv (sk 5) ss → CT iv2 rv2 (sk 5) ss) ∧ (iv2 (sk 4) 2 = iv (sk 4) 2 ∧ ∀ ss, CT iv rv (sk 4) ss → CT iv2 rv2 (sk 4) ss) ∧ FKP sk iv rv iv2 rv2)) ∧ ((((i < 0 ∨ 7 < i) ∧ f = -1 ∧ iv2 h0 14 = iv h0 14) ∨ (0 ≤ i ∧ i ≤ 7 ∧ iI (iv2 h0 14) = fdv (iI (iv h0 14)) i x ∧ iI f = bcn (iI (iv2 h0 14)))) ∧ iv2 h0 11 = iv h0 11 ∧ iv2 h0 12 = iv h0 12 ∧ iv2 h0 13 = iv h0 13) ∧ (iv2 (sk 2) 2 = iv (sk 2) 2 ∧ (∀ ss, CT iv rv (sk 2) ss → CT iv2 rv2 (sk 2) ss)) ∧ (iv2 (sk 3) 2 = iv (sk 3) 2 ∧ (∀ tt, CT iv rv (sk 3) tt → CT iv2 rv2 (sk 3) tt)) ∧ PSAME sk iv rv iv2 rv2 ∧ (∃ g, WT g sk L cl ln iv rv ∧ WT g sk L2 cl2 ln2 iv2 rv2) ∧ SKL sk L cl ∧ XT L cl ln L2 cl2 ln2 ∧ (KP L cl (fun _ => False) (fun _ => False) (fun _ => False) (fun _ => False) (fun _ _ => False) iv rv iv2 rv2)) := by
  intro n L cl ln iv rv sk hn hp
  obtain ⟨hW, hS, hm, h23, ht⟩ := hp
  refine hv3 (show ty L cl (sk 23) 23 from ⟨(hS 23 rfl).1, by rw [(hS 23 rfl).2]; rfl⟩) (show ty L cl (sk 2) 2 from ⟨(hS 2 rfl).1, by rw [(hS 2 rfl).2]; rfl⟩) (show ty L cl (sk 3) 3 from ⟨(hS 3 rfl).1, by rw [(hS 3 rfl).2]; rfl⟩) (fun t23 t2 t3 => ?_)
  refine ⟨0, _, by decide, C_failed2 hW hS ht h_i h_x , fun v L2 cl2 ln2 iv2 rv2 h => ?_⟩
  obtain ⟨f, rfl, rfl, rfl, rfl, rfl, hF, hW2, rg, ex, kp11, kp12, kp13, kp15, kp16⟩ := h
  exact ⟨f, rfl, by omega, XT.refl, hW2, (MRK.call hm hW hS XT.refl hF rfl rfl), (by have q := hF.i t23 rfl 2; omega), ⟨⟨trivial, ⟨(KSQ.ni hW ht hF rfl), (KSC.fr hW ht hF rfl rfl rfl rfl rfl rfl), kp15, kp16, ⟨hF.i (tysq (t := 5) hS rfl rfl) rfl 2, fun ss hs => CT.fr hs hW (tysq (t := 5) hS rfl rfl) hF rfl rfl rfl rfl rfl⟩, ⟨hF.i (tysq (t := 4) hS rfl rfl) rfl 2, fun ss hs => CT.fr hs hW (tysq (t := 4) hS rfl rfl) hF rfl rfl rfl rfl rfl⟩, (FKP.fr hW hS hF rfl rfl rfl rfl)⟩⟩, ⟨ex, kp11, kp12, kp13⟩, ⟨hF.i t2 rfl 2, fun ss hs => CT.fr hs hW t2 hF rfl rfl rfl rfl rfl⟩, ⟨hF.i t3 rfl 2, fun tt ht => CT.fr ht hW t3 hF rfl rfl rfl rfl rfl⟩, (PSAME.fr hW hS hF rfl rfl rfl rfl rfl rfl rfl), ⟨⟨_, hW, hW2⟩, hS, XT.refl, (KP.fr hW hF rfl)⟩⟩⟩
theorem PO_readings {l : Launch} {G : GT} {mi h0 : Nat} {i : Int} {j : Int} {n : Int} (h_i : -2147483648 ≤ i ∧ i ≤ 2147483647) (h_j : -2147483648 ≤ j ∧ j ≤ 2147483647) (h_n : -2147483648 ≤ n ∧ n ≤ 2147483647) : PressOp l G mi yX11_readings cX11_readings 6 (some .int) 10 [.int (iI i), .int (iI j), .int (iI n)] h0 (fun sk L cl ln iv rv L2 cl2 ln2 iv2 rv2 f => (True ∧ (KSQ h0 iv rv iv2 rv2 ∧ KSC h0 iv rv iv2 rv2 ∧ iv2 h0 15 = iv h0 15 ∧ iv2 h0 16 = iv h0 16 ∧ (iv2 (sk 5) 2 = iv (sk 5) 2 ∧ ∀ ss, CT iv rv (sk 5) ss → CT iv2 rv2 (sk 5) ss) ∧ (iv2 (sk 4) 2 = iv (sk 4) 2 ∧ ∀ ss, CT iv rv (sk 4) ss → CT iv2 rv2 (sk 4) ss) ∧ True)) ∧ (iv2 h0 14 = iv h0 14 ∧ iv2 h0 11 = iv h0 11 ∧ iv2 h0 12 = iv h0 12 ∧ iv2 h0 13 = iv h0 13) ∧ (iv2 (sk 2) 2 = iv (sk 2) 2 ∧ (∀ ss, CT iv rv (sk 2) ss → CT iv2 rv2 (sk 2) ss)) ∧ (iv2 (sk 3) 2 = iv (sk 3) 2 ∧ (∀ tt, CT iv rv (sk 3) tt → CT iv2 rv2 (sk 3) tt)) ∧ PSAME sk iv rv iv2 rv2 ∧ (∃ g, WT g sk L cl ln iv rv ∧ WT g sk L2 cl2 ln2 iv2 rv2) ∧ SKL sk L cl ∧ XT L cl ln L2 cl2 ln2 ∧ (KP L cl (fun _ => False) (fun _ => False) (fun _ => False) (fun _ => False) (fun _ _ => False) iv rv iv2 rv2)) := by
  intro n L cl ln iv rv sk hn hp
  obtain ⟨hW, hS, hm, h23, ht⟩ := hp
  refine hv3 (show ty L cl (sk 23) 23 from ⟨(hS 23 rfl).1, by rw [(hS 23 rfl).2]; rfl⟩) (show ty L cl (sk 2) 2 from ⟨(hS 2 rfl).1, by rw [(hS 2 rfl).2]; rfl⟩) (show ty L cl (sk 3) 3 from ⟨(hS 3 rfl).1, by rw [(hS 3 rfl).2]; rfl⟩) (fun t23 t2 t3 => ?_)
  refine ⟨0, _, by decide, C_readings hW hS ht h_i h_j h_n hm, fun v L2 cl2 ln2 iv2 rv2 h => ?_⟩
  obtain ⟨f, rfl, hX, hF, hW2, rg, ex, kp11, kp12, kp13, kp14, kp15, kp16, kr9, kr10⟩ := h
  exact ⟨f, rfl, by omega, hX, hW2, (MRK.call hm hW hS hX hF rfl rfl), (by have q := hF.i t23 rfl 2; omega), ⟨⟨trivial, ⟨(KSQ.fr hW ht hF kr9 kr10 rfl rfl rfl), (KSC.fr hW ht hF kr9 kr10 rfl rfl rfl rfl), kp15, kp16, ⟨hF.i (tysq (t := 5) hS rfl rfl) rfl 2, fun ss hs => CT.fr hs hW (tysq (t := 5) hS rfl rfl) hF rfl rfl rfl rfl rfl⟩, ⟨hF.i (tysq (t := 4) hS rfl rfl) rfl 2, fun ss hs => CT.fr hs hW (tysq (t := 4) hS rfl rfl) hF rfl rfl rfl rfl rfl⟩, trivial⟩⟩, ⟨kp14, kp11, kp12, kp13⟩, ⟨hF.i t2 rfl 2, fun ss hs => CT.fr hs hW t2 hF rfl rfl rfl rfl rfl⟩, ⟨hF.i t3 rfl 2, fun tt ht => CT.fr ht hW t3 hF rfl rfl rfl rfl rfl⟩, (PSAME.fr hW hS hF rfl rfl rfl rfl rfl rfl rfl), ⟨⟨_, hW, hW2⟩, hS, hX, (KP.fr hW hF rfl)⟩⟩⟩
theorem PO_more {l : Launch} {G : GT} {mi h0 : Nat} : PressOp l G mi yX11_more cX11_more 1 (some .int) 0 [] h0 (fun sk L cl ln iv rv L2 cl2 ln2 iv2 rv2 f => (True ∧ (KSQ h0 iv rv iv2 rv2 ∧ KSC h0 iv rv iv2 rv2 ∧ iv2 h0 15 = iv h0 15 ∧ iv2 h0 16 = iv h0 16 ∧ (iv2 (sk 5) 2 = iv (sk 5) 2 ∧ ∀ ss, CT iv rv (sk 5) ss → CT iv2 rv2 (sk 5) ss) ∧ (iv2 (sk 4) 2 = iv (sk 4) 2 ∧ ∀ ss, CT iv rv (sk 4) ss → CT iv2 rv2 (sk 4) ss) ∧ FKP sk iv rv iv2 rv2)) ∧ (iv2 h0 14 = iv h0 14 ∧ iv2 h0 11 = iv h0 11 ∧ iv2 h0 12 = iv h0 12 ∧ iv2 h0 13 = iv h0 13) ∧ (iv2 (sk 2) 2 = iv (sk 2) 2 ∧ (∀ ss, CT iv rv (sk 2) ss → CT iv2 rv2 (sk 2) ss)) ∧ (iv2 (sk 3) 2 = iv (sk 3) 2 ∧ (∀ tt, CT iv rv (sk 3) tt → CT iv2 rv2 (sk 3) tt)) ∧ PSAME sk iv rv iv2 rv2 ∧ (∃ g, WT g sk L cl ln iv rv ∧ WT g sk L2 cl2 ln2 iv2 rv2) ∧ SKL sk L cl ∧ XT L cl ln L2 cl2 ln2 ∧ (KP L cl (fun _ => False) (fun _ => False) (fun _ => False) (fun _ => False) (fun _ _ => False) iv rv iv2 rv2)) := by
  intro n L cl ln iv rv sk hn hp
  obtain ⟨hW, hS, hm, h23, ht⟩ := hp
  refine hv3 (show ty L cl (sk 23) 23 from ⟨(hS 23 rfl).1, by rw [(hS 23 rfl).2]; rfl⟩) (show ty L cl (sk 2) 2 from ⟨(hS 2 rfl).1, by rw [(hS 2 rfl).2]; rfl⟩) (show ty L cl (sk 3) 3 from ⟨(hS 3 rfl).1, by rw [(hS 3 rfl).2]; rfl⟩) (fun t23 t2 t3 => ?_)
  refine ⟨0, _, by decide, C_more hW hS ht  , fun v L2 cl2 ln2 iv2 rv2 h => ?_⟩
  obtain ⟨f, rfl, rfl, rfl, rfl, rfl, rfl, rg, ex⟩ := h
  exact ⟨f, rfl, by omega, XT.refl, hW, hm, (by omega), ⟨⟨trivial, ⟨KSQ.refl, KSC.refl, rfl, rfl, ⟨rfl, fun ss hs => hs⟩, ⟨rfl, fun ss hs => hs⟩, FKP.refl⟩⟩, ⟨rfl, rfl, rfl, rfl⟩, ⟨rfl, fun ss hs => hs⟩, ⟨rfl, fun tt ht => ht⟩, PSAME.refl, ⟨⟨_, hW, hW⟩, hS, XT.refl, KP.refl⟩⟩⟩
theorem PO_reading {l : Launch} {G : GT} {mi h0 : Nat} {i : Int} {j : Int} (h_i : -2147483648 ≤ i ∧ i ≤ 2147483647) (h_j : -2147483648 ≤ j ∧ j ≤ 2147483647) : PressOp l G mi yX11_reading cX11_reading 4 (some .int) 2 [.int (iI i), .int (iI j)] h0 (fun sk L cl ln iv rv L2 cl2 ln2 iv2 rv2 f => (True ∧ (KSQ h0 iv rv iv2 rv2 ∧ KSC h0 iv rv iv2 rv2 ∧ iv2 h0 15 = iv h0 15 ∧ iv2 h0 16 = iv h0 16 ∧ (iv2 (sk 5) 2 = iv (sk 5) 2 ∧ ∀ ss, CT iv rv (sk 5) ss → CT iv2 rv2 (sk 5) ss) ∧ (iv2 (sk 4) 2 = iv (sk 4) 2 ∧ ∀ ss, CT iv rv (sk 4) ss → CT iv2 rv2 (sk 4) ss) ∧ FKP sk iv rv iv2 rv2)) ∧ (iv2 h0 14 = iv h0 14 ∧ iv2 h0 11 = iv h0 11 ∧ iv2 h0 12 = iv h0 12 ∧ iv2 h0 13 = iv h0 13) ∧ (iv2 (sk 2) 2 = iv (sk 2) 2 ∧ (∀ ss, CT iv rv (sk 2) ss → CT iv2 rv2 (sk 2) ss)) ∧ (iv2 (sk 3) 2 = iv (sk 3) 2 ∧ (∀ tt, CT iv rv (sk 3) tt → CT iv2 rv2 (sk 3) tt)) ∧ PSAME sk iv rv iv2 rv2 ∧ (∃ g, WT g sk L cl ln iv rv ∧ WT g sk L2 cl2 ln2 iv2 rv2) ∧ SKL sk L cl ∧ XT L cl ln L2 cl2 ln2 ∧ (KP L cl (fun _ => False) (fun _ => False) (fun _ => False) (fun _ => False) (fun _ _ => False) iv rv iv2 rv2)) := by
  intro n L cl ln iv rv sk hn hp
  obtain ⟨hW, hS, hm, h23, ht⟩ := hp
  refine hv3 (show ty L cl (sk 23) 23 from ⟨(hS 23 rfl).1, by rw [(hS 23 rfl).2]; rfl⟩) (show ty L cl (sk 2) 2 from ⟨(hS 2 rfl).1, by rw [(hS 2 rfl).2]; rfl⟩) (show ty L cl (sk 3) 3 from ⟨(hS 3 rfl).1, by rw [(hS 3 rfl).2]; rfl⟩) (fun t23 t2 t3 => ?_)
  refine ⟨0, _, by decide, C_reading hW hS ht h_i h_j , fun v L2 cl2 ln2 iv2 rv2 h => ?_⟩
  obtain ⟨f, rfl, rfl, rfl, rfl, rfl, hF, hW2, rg, ex, kp11, kp12, kp13, kp14, kp15, kp16⟩ := h
  exact ⟨f, rfl, by omega, XT.refl, hW2, (MRK.call hm hW hS XT.refl hF rfl rfl), (by have q := hF.i t23 rfl 2; omega), ⟨⟨trivial, ⟨(KSQ.ni hW ht hF rfl), (KSC.fr hW ht hF rfl rfl rfl rfl rfl rfl), kp15, kp16, ⟨hF.i (tysq (t := 5) hS rfl rfl) rfl 2, fun ss hs => CT.fr hs hW (tysq (t := 5) hS rfl rfl) hF rfl rfl rfl rfl rfl⟩, ⟨hF.i (tysq (t := 4) hS rfl rfl) rfl 2, fun ss hs => CT.fr hs hW (tysq (t := 4) hS rfl rfl) hF rfl rfl rfl rfl rfl⟩, (FKP.fr hW hS hF rfl rfl rfl rfl)⟩⟩, ⟨kp14, kp11, kp12, kp13⟩, ⟨hF.i t2 rfl 2, fun ss hs => CT.fr hs hW t2 hF rfl rfl rfl rfl rfl⟩, ⟨hF.i t3 rfl 2, fun tt ht => CT.fr ht hW t3 hF rfl rfl rfl rfl rfl⟩, (PSAME.fr hW hS hF rfl rfl rfl rfl rfl rfl rfl), ⟨⟨_, hW, hW2⟩, hS, XT.refl, (KP.fr hW hF rfl)⟩⟩⟩
theorem PO_judge {l : Launch} {G : GT} {mi h0 : Nat} {i : Int} (h_i : -2147483648 ≤ i ∧ i ≤ 2147483647) : PressOp l G mi yX11_judge cX11_judge 4 (some .int) 10 [.int (iI i)] h0 (fun sk L cl ln iv rv L2 cl2 ln2 iv2 rv2 f => (True ∧ (KSQ h0 iv rv iv2 rv2 ∧ KSC h0 iv rv iv2 rv2 ∧ iv2 h0 15 = iv h0 15 ∧ iv2 h0 16 = iv h0 16 ∧ (iv2 (sk 5) 2 = iv (sk 5) 2 ∧ ∀ ss, CT iv rv (sk 5) ss → CT iv2 rv2 (sk 5) ss) ∧ (iv2 (sk 4) 2 = iv (sk 4) 2 ∧ ∀ ss, CT iv rv (sk 4) ss → CT iv2 rv2 (sk 4) ss) ∧ FKP sk iv rv iv2 rv2)) ∧ (iv2 h0 14 = iv h0 14 ∧ iv2 h0 11 = iv h0 11 ∧ iv2 h0 12 = iv h0 12 ∧ iv2 h0 13 = iv h0 13) ∧ (iv2 (sk 2) 2 = iv (sk 2) 2 ∧ (∀ ss, CT iv rv (sk 2) ss → CT iv2 rv2 (sk 2) ss)) ∧ (iv2 (sk 3) 2 = iv (sk 3) 2 ∧ (∀ tt, CT iv rv (sk 3) tt → CT iv2 rv2 (sk 3) tt)) ∧ PSAME sk iv rv iv2 rv2 ∧ (∃ g, WT g sk L cl ln iv rv ∧ WT g sk L2 cl2 ln2 iv2 rv2) ∧ SKL sk L cl ∧ XT L cl ln L2 cl2 ln2 ∧ (KP L cl (fun _ => False) (fun _ => False) (fun _ => False) (fun _ => False) (fun _ _ => False) iv rv iv2 rv2)) := by
  intro n L cl ln iv rv sk hn hp
  obtain ⟨hW, hS, hm, h23, ht⟩ := hp
  refine hv3 (show ty L cl (sk 23) 23 from ⟨(hS 23 rfl).1, by rw [(hS 23 rfl).2]; rfl⟩) (show ty L cl (sk 2) 2 from ⟨(hS 2 rfl).1, by rw [(hS 2 rfl).2]; rfl⟩) (show ty L cl (sk 3) 3 from ⟨(hS 3 rfl).1, by rw [(hS 3 rfl).2]; rfl⟩) (fun t23 t2 t3 => ?_)
  refine ⟨0, _, by decide, C_judge hW hS ht h_i hm, fun v L2 cl2 ln2 iv2 rv2 h => ?_⟩
  obtain ⟨f, rfl, hX, hF, hW2, rg, ex, kp11, kp12, kp13, kp14, kp15, kp16, kr9, kr10⟩ := h
  exact ⟨f, rfl, by omega, hX, hW2, (MRK.call hm hW hS hX hF rfl rfl), (by have q := hF.i t23 rfl 2; omega), ⟨⟨trivial, ⟨(KSQ.fr hW ht hF kr9 kr10 rfl rfl rfl), (KSC.fr hW ht hF kr9 kr10 rfl rfl rfl rfl), kp15, kp16, ⟨hF.i (tysq (t := 5) hS rfl rfl) rfl 2, fun ss hs => CT.fr hs hW (tysq (t := 5) hS rfl rfl) hF rfl rfl rfl rfl rfl⟩, ⟨hF.i (tysq (t := 4) hS rfl rfl) rfl 2, fun ss hs => CT.fr hs hW (tysq (t := 4) hS rfl rfl) hF rfl rfl rfl rfl rfl⟩, (FKP.fr hW hS hF rfl rfl rfl rfl)⟩⟩, ⟨kp14, kp11, kp12, kp13⟩, ⟨hF.i t2 rfl 2, fun ss hs => CT.fr hs hW t2 hF rfl rfl rfl rfl rfl⟩, ⟨hF.i t3 rfl 2, fun tt ht => CT.fr ht hW t3 hF rfl rfl rfl rfl rfl⟩, (PSAME.fr hW hS hF rfl rfl rfl rfl rfl rfl rfl), ⟨⟨_, hW, hW2⟩, hS, hX, (KP.fr hW hF rfl)⟩⟩⟩
theorem PO_parts {l : Launch} {G : GT} {mi h0 : Nat} {i : Int} {j : Int} {k : Int} (h_i : -2147483648 ≤ i ∧ i ≤ 2147483647) (h_j : -2147483648 ≤ j ∧ j ≤ 2147483647) (h_k : -2147483648 ≤ k ∧ k ≤ 2147483647) : PressOp l G mi yX11_parts cX11_parts 10 (some .int) 10 [.int (iI i), .int (iI j), .int (iI k)] h0 (fun sk L cl ln iv rv L2 cl2 ln2 iv2 rv2 f => (True ∧ (KSQ h0 iv rv iv2 rv2 ∧ KSC h0 iv rv iv2 rv2 ∧ iv2 h0 15 = iv h0 15 ∧ iv2 h0 16 = iv h0 16 ∧ (iv2 (sk 5) 2 = iv (sk 5) 2 ∧ ∀ ss, CT iv rv (sk 5) ss → CT iv2 rv2 (sk 5) ss) ∧ (iv2 (sk 4) 2 = iv (sk 4) 2 ∧ ∀ ss, CT iv rv (sk 4) ss → CT iv2 rv2 (sk 4) ss) ∧ FKP sk iv rv iv2 rv2)) ∧ (iv2 h0 14 = iv h0 14 ∧ iv2 h0 11 = iv h0 11 ∧ iv2 h0 12 = iv h0 12 ∧ iv2 h0 13 = iv h0 13) ∧ (iv2 (sk 2) 2 = iv (sk 2) 2 ∧ (∀ ss, CT iv rv (sk 2) ss → CT iv2 rv2 (sk 2) ss)) ∧ (iv2 (sk 3) 2 = iv (sk 3) 2 ∧ (∀ tt, CT iv rv (sk 3) tt → CT iv2 rv2 (sk 3) tt)) ∧ PSAME sk iv rv iv2 rv2 ∧ (∃ g, WT g sk L cl ln iv rv ∧ WT g sk L2 cl2 ln2 iv2 rv2) ∧ SKL sk L cl ∧ XT L cl ln L2 cl2 ln2 ∧ (KP L cl (fun _ => False) (fun _ => False) (fun _ => False) (fun _ => False) (fun _ _ => False) iv rv iv2 rv2)) := by
  intro n L cl ln iv rv sk hn hp
  obtain ⟨hW, hS, hm, h23, ht⟩ := hp
  refine hv3 (show ty L cl (sk 23) 23 from ⟨(hS 23 rfl).1, by rw [(hS 23 rfl).2]; rfl⟩) (show ty L cl (sk 2) 2 from ⟨(hS 2 rfl).1, by rw [(hS 2 rfl).2]; rfl⟩) (show ty L cl (sk 3) 3 from ⟨(hS 3 rfl).1, by rw [(hS 3 rfl).2]; rfl⟩) (fun t23 t2 t3 => ?_)
  refine ⟨0, _, by decide, C_parts hW hS ht h_i h_j h_k hm, fun v L2 cl2 ln2 iv2 rv2 h => ?_⟩
  obtain ⟨f, rfl, hX, hF, hW2, rg, ex, kp11, kp12, kp13, kp14, kp15, kp16, kr9, kr10⟩ := h
  exact ⟨f, rfl, by omega, hX, hW2, (MRK.call hm hW hS hX hF rfl rfl), (by have q := hF.i t23 rfl 2; omega), ⟨⟨trivial, ⟨(KSQ.fr hW ht hF kr9 kr10 rfl rfl rfl), (KSC.fr hW ht hF kr9 kr10 rfl rfl rfl rfl), kp15, kp16, ⟨hF.i (tysq (t := 5) hS rfl rfl) rfl 2, fun ss hs => CT.fr hs hW (tysq (t := 5) hS rfl rfl) hF rfl rfl rfl rfl rfl⟩, ⟨hF.i (tysq (t := 4) hS rfl rfl) rfl 2, fun ss hs => CT.fr hs hW (tysq (t := 4) hS rfl rfl) hF rfl rfl rfl rfl rfl⟩, (FKP.fr hW hS hF rfl rfl rfl rfl)⟩⟩, ⟨kp14, kp11, kp12, kp13⟩, ⟨hF.i t2 rfl 2, fun ss hs => CT.fr hs hW t2 hF rfl rfl rfl rfl rfl⟩, ⟨hF.i t3 rfl 2, fun tt ht => CT.fr ht hW t3 hF rfl rfl rfl rfl rfl⟩, (PSAME.fr hW hS hF rfl rfl rfl rfl rfl rfl rfl), ⟨⟨_, hW, hW2⟩, hS, hX, (KP.fr hW hF rfl)⟩⟩⟩
theorem PO_unreadable {l : Launch} {G : GT} {mi h0 : Nat} {i : Int} {n : Int} {lim : Int} (h_i : -2147483648 ≤ i ∧ i ≤ 2147483647) (h_n : -2147483648 ≤ n ∧ n ≤ 2147483647) (h_lim : -2147483648 ≤ lim ∧ lim ≤ 2147483647) : PressOp l G mi yX11_unreadable cX11_unreadable 7 (some .int) 10 [.int (iI i), .int (iI n), .int (iI lim)] h0 (fun sk L cl ln iv rv L2 cl2 ln2 iv2 rv2 f => (True ∧ (KSQ h0 iv rv iv2 rv2 ∧ KSC h0 iv rv iv2 rv2 ∧ iv2 h0 15 = iv h0 15 ∧ iv2 h0 16 = iv h0 16 ∧ (iv2 (sk 5) 2 = iv (sk 5) 2 ∧ ∀ ss, CT iv rv (sk 5) ss → CT iv2 rv2 (sk 5) ss) ∧ True ∧ FKP sk iv rv iv2 rv2)) ∧ (iv2 h0 14 = iv h0 14 ∧ iv2 h0 11 = iv h0 11 ∧ iv2 h0 12 = iv h0 12 ∧ iv2 h0 13 = iv h0 13) ∧ (iv2 (sk 2) 2 = iv (sk 2) 2 ∧ (∀ ss, CT iv rv (sk 2) ss → CT iv2 rv2 (sk 2) ss)) ∧ (iv2 (sk 3) 2 = iv (sk 3) 2 ∧ (∀ tt, CT iv rv (sk 3) tt → CT iv2 rv2 (sk 3) tt)) ∧ PSAME sk iv rv iv2 rv2 ∧ (∃ g, WT g sk L cl ln iv rv ∧ WT g sk L2 cl2 ln2 iv2 rv2) ∧ SKL sk L cl ∧ XT L cl ln L2 cl2 ln2 ∧ (KP L cl (fun _ => False) (fun _ => False) (fun _ => False) (fun _ => False) (fun _ _ => False) iv rv iv2 rv2)) := by
  intro n L cl ln iv rv sk hn hp
  obtain ⟨hW, hS, hm, h23, ht⟩ := hp
  refine hv3 (show ty L cl (sk 23) 23 from ⟨(hS 23 rfl).1, by rw [(hS 23 rfl).2]; rfl⟩) (show ty L cl (sk 2) 2 from ⟨(hS 2 rfl).1, by rw [(hS 2 rfl).2]; rfl⟩) (show ty L cl (sk 3) 3 from ⟨(hS 3 rfl).1, by rw [(hS 3 rfl).2]; rfl⟩) (fun t23 t2 t3 => ?_)
  refine ⟨0, _, by decide, C_unreadable hW hS ht h_i h_n h_lim hm, fun v L2 cl2 ln2 iv2 rv2 h => ?_⟩
  obtain ⟨f, rfl, hX, hF, hW2, rg, ex, kp11, kp12, kp13, kp14, kp15, kp16, kr9, kr10⟩ := h
  exact ⟨f, rfl, by omega, hX, hW2, (MRK.call hm hW hS hX hF rfl rfl), (by have q := hF.i t23 rfl 2; omega), ⟨⟨trivial, ⟨(KSQ.fr hW ht hF kr9 kr10 rfl rfl rfl), (KSC.fr hW ht hF kr9 kr10 rfl rfl rfl rfl), kp15, kp16, ⟨hF.i (tysq (t := 5) hS rfl rfl) rfl 2, fun ss hs => CT.fr hs hW (tysq (t := 5) hS rfl rfl) hF rfl rfl rfl rfl rfl⟩, trivial, (FKP.fr hW hS hF rfl rfl rfl rfl)⟩⟩, ⟨kp14, kp11, kp12, kp13⟩, ⟨hF.i t2 rfl 2, fun ss hs => CT.fr hs hW t2 hF rfl rfl rfl rfl rfl⟩, ⟨hF.i t3 rfl 2, fun tt ht => CT.fr ht hW t3 hF rfl rfl rfl rfl rfl⟩, (PSAME.fr hW hS hF rfl rfl rfl rfl rfl rfl rfl), ⟨⟨_, hW, hW2⟩, hS, hX, (KP.fr hW hF rfl)⟩⟩⟩
theorem PO_saved {l : Launch} {G : GT} {mi h0 : Nat} {i : Int} {j : Int} (h_i : -2147483648 ≤ i ∧ i ≤ 2147483647) (h_j : -2147483648 ≤ j ∧ j ≤ 2147483647) : PressOp l G mi yX11_saved cX11_saved 10 (some .int) 8 [.int (iI i), .int (iI j)] h0 (fun sk L cl ln iv rv L2 cl2 ln2 iv2 rv2 f => (True ∧ (KSQ h0 iv rv iv2 rv2 ∧ KSC h0 iv rv iv2 rv2 ∧ iv2 h0 15 = iv h0 15 ∧ iv2 h0 16 = iv h0 16 ∧ (iv2 (sk 5) 2 = iv (sk 5) 2 ∧ ∀ ss, CT iv rv (sk 5) ss → CT iv2 rv2 (sk 5) ss) ∧ (iv2 (sk 4) 2 = iv (sk 4) 2 ∧ ∀ ss, CT iv rv (sk 4) ss → CT iv2 rv2 (sk 4) ss) ∧ FKP sk iv rv iv2 rv2)) ∧ (iv2 h0 14 = iv h0 14 ∧ iv2 h0 11 = iv h0 11 ∧ iv2 h0 12 = iv h0 12 ∧ iv2 h0 13 = iv h0 13) ∧ (iv2 (sk 2) 2 = iv (sk 2) 2 ∧ (∀ ss, CT iv rv (sk 2) ss → CT iv2 rv2 (sk 2) ss)) ∧ (iv2 (sk 3) 2 = iv (sk 3) 2 ∧ (∀ tt, CT iv rv (sk 3) tt → CT iv2 rv2 (sk 3) tt)) ∧ PSAME sk iv rv iv2 rv2 ∧ (∃ g, WT g sk L cl ln iv rv ∧ WT g sk L2 cl2 ln2 iv2 rv2) ∧ SKL sk L cl ∧ XT L cl ln L2 cl2 ln2 ∧ (KP L cl (fun _ => False) (fun _ => False) (fun _ => False) (fun _ => False) (fun _ _ => False) iv rv iv2 rv2)) := by
  intro n L cl ln iv rv sk hn hp
  obtain ⟨hW, hS, hm, h23, ht⟩ := hp
  refine hv3 (show ty L cl (sk 23) 23 from ⟨(hS 23 rfl).1, by rw [(hS 23 rfl).2]; rfl⟩) (show ty L cl (sk 2) 2 from ⟨(hS 2 rfl).1, by rw [(hS 2 rfl).2]; rfl⟩) (show ty L cl (sk 3) 3 from ⟨(hS 3 rfl).1, by rw [(hS 3 rfl).2]; rfl⟩) (fun t23 t2 t3 => ?_)
  refine ⟨0, _, by decide, C_saved hW hS ht h_i h_j hm, fun v L2 cl2 ln2 iv2 rv2 h => ?_⟩
  obtain ⟨f, rfl, rfl, rfl, rfl, rfl, hF, hW2, rg, ex, kp11, kp12, kp13, kp14, kp15, kp16⟩ := h
  exact ⟨f, rfl, by omega, XT.refl, hW2, (MRK.call hm hW hS XT.refl hF rfl rfl), (by have q := hF.i t23 rfl 2; omega), ⟨⟨trivial, ⟨(KSQ.ni hW ht hF rfl), (KSC.fr hW ht hF rfl rfl rfl rfl rfl rfl), kp15, kp16, ⟨hF.i (tysq (t := 5) hS rfl rfl) rfl 2, fun ss hs => CT.fr hs hW (tysq (t := 5) hS rfl rfl) hF rfl rfl rfl rfl rfl⟩, ⟨hF.i (tysq (t := 4) hS rfl rfl) rfl 2, fun ss hs => CT.fr hs hW (tysq (t := 4) hS rfl rfl) hF rfl rfl rfl rfl rfl⟩, (FKP.fr hW hS hF rfl rfl rfl rfl)⟩⟩, ⟨kp14, kp11, kp12, kp13⟩, ⟨hF.i t2 rfl 2, fun ss hs => CT.fr hs hW t2 hF rfl rfl rfl rfl rfl⟩, ⟨hF.i t3 rfl 2, fun tt ht => CT.fr ht hW t3 hF rfl rfl rfl rfl rfl⟩, (PSAME.fr hW hS hF rfl rfl rfl rfl rfl rfl rfl), ⟨⟨_, hW, hW2⟩, hS, XT.refl, (KP.fr hW hF rfl)⟩⟩⟩
theorem PO_place {l : Launch} {G : GT} {mi h0 : Nat} : PressOp l G mi yX11_place cX11_place 1 (some .int) 0 [] h0 (fun sk L cl ln iv rv L2 cl2 ln2 iv2 rv2 f => (True ∧ (KSQ h0 iv rv iv2 rv2 ∧ KSC h0 iv rv iv2 rv2 ∧ iv2 h0 15 = iv h0 15 ∧ iv2 h0 16 = iv h0 16 ∧ (iv2 (sk 5) 2 = iv (sk 5) 2 ∧ ∀ ss, CT iv rv (sk 5) ss → CT iv2 rv2 (sk 5) ss) ∧ (iv2 (sk 4) 2 = iv (sk 4) 2 ∧ ∀ ss, CT iv rv (sk 4) ss → CT iv2 rv2 (sk 4) ss) ∧ FKP sk iv rv iv2 rv2)) ∧ (iv2 h0 14 = iv h0 14 ∧ iv2 h0 11 = iv h0 11 ∧ iv2 h0 12 = iv h0 12 ∧ iv2 h0 13 = iv h0 13) ∧ (iv2 (sk 2) 2 = iv (sk 2) 2 ∧ (∀ ss, CT iv rv (sk 2) ss → CT iv2 rv2 (sk 2) ss)) ∧ (iv2 (sk 3) 2 = iv (sk 3) 2 ∧ (∀ tt, CT iv rv (sk 3) tt → CT iv2 rv2 (sk 3) tt)) ∧ PSAME sk iv rv iv2 rv2 ∧ (∃ g, WT g sk L cl ln iv rv ∧ WT g sk L2 cl2 ln2 iv2 rv2) ∧ SKL sk L cl ∧ XT L cl ln L2 cl2 ln2 ∧ (KP L cl (fun _ => False) (fun _ => False) (fun _ => False) (fun _ => False) (fun _ _ => False) iv rv iv2 rv2)) := by
  intro n L cl ln iv rv sk hn hp
  obtain ⟨hW, hS, hm, h23, ht⟩ := hp
  refine hv3 (show ty L cl (sk 23) 23 from ⟨(hS 23 rfl).1, by rw [(hS 23 rfl).2]; rfl⟩) (show ty L cl (sk 2) 2 from ⟨(hS 2 rfl).1, by rw [(hS 2 rfl).2]; rfl⟩) (show ty L cl (sk 3) 3 from ⟨(hS 3 rfl).1, by rw [(hS 3 rfl).2]; rfl⟩) (fun t23 t2 t3 => ?_)
  refine ⟨0, _, by decide, C_place hW hS ht  , fun v L2 cl2 ln2 iv2 rv2 h => ?_⟩
  obtain ⟨f, rfl, rfl, rfl, rfl, rfl, rfl, rg, ex⟩ := h
  exact ⟨f, rfl, by omega, XT.refl, hW, hm, (by omega), ⟨⟨trivial, ⟨KSQ.refl, KSC.refl, rfl, rfl, ⟨rfl, fun ss hs => hs⟩, ⟨rfl, fun ss hs => hs⟩, FKP.refl⟩⟩, ⟨rfl, rfl, rfl, rfl⟩, ⟨rfl, fun ss hs => hs⟩, ⟨rfl, fun tt ht => ht⟩, PSAME.refl, ⟨⟨_, hW, hW⟩, hS, XT.refl, KP.refl⟩⟩⟩
theorem PO_finds {l : Launch} {G : GT} {mi h0 : Nat} {i : Int} (h_i : -2147483648 ≤ i ∧ i ≤ 2147483647) : PressOp l G mi yX11_finds cX11_finds 2 (some .int) 1 [.int (iI i)] h0 (fun sk L cl ln iv rv L2 cl2 ln2 iv2 rv2 f => (True ∧ (KSQ h0 iv rv iv2 rv2 ∧ KSC h0 iv rv iv2 rv2 ∧ iv2 h0 15 = iv h0 15 ∧ iv2 h0 16 = iv h0 16 ∧ (iv2 (sk 5) 2 = iv (sk 5) 2 ∧ ∀ ss, CT iv rv (sk 5) ss → CT iv2 rv2 (sk 5) ss) ∧ (iv2 (sk 4) 2 = iv (sk 4) 2 ∧ ∀ ss, CT iv rv (sk 4) ss → CT iv2 rv2 (sk 4) ss) ∧ FKP sk iv rv iv2 rv2)) ∧ (iv2 h0 14 = iv h0 14 ∧ iv2 h0 11 = iv h0 11 ∧ iv2 h0 12 = iv h0 12 ∧ iv2 h0 13 = iv h0 13) ∧ (iv2 (sk 2) 2 = iv (sk 2) 2 ∧ (∀ ss, CT iv rv (sk 2) ss → CT iv2 rv2 (sk 2) ss)) ∧ (iv2 (sk 3) 2 = iv (sk 3) 2 ∧ (∀ tt, CT iv rv (sk 3) tt → CT iv2 rv2 (sk 3) tt)) ∧ PSAME sk iv rv iv2 rv2 ∧ (∃ g, WT g sk L cl ln iv rv ∧ WT g sk L2 cl2 ln2 iv2 rv2) ∧ SKL sk L cl ∧ XT L cl ln L2 cl2 ln2 ∧ (KP L cl (fun _ => False) (fun _ => False) (fun _ => False) (fun _ => False) (fun _ _ => False) iv rv iv2 rv2)) := by
  intro n L cl ln iv rv sk hn hp
  obtain ⟨hW, hS, hm, h23, ht⟩ := hp
  refine hv3 (show ty L cl (sk 23) 23 from ⟨(hS 23 rfl).1, by rw [(hS 23 rfl).2]; rfl⟩) (show ty L cl (sk 2) 2 from ⟨(hS 2 rfl).1, by rw [(hS 2 rfl).2]; rfl⟩) (show ty L cl (sk 3) 3 from ⟨(hS 3 rfl).1, by rw [(hS 3 rfl).2]; rfl⟩) (fun t23 t2 t3 => ?_)
  refine ⟨0, _, by decide, C_finds hW hS ht h_i , fun v L2 cl2 ln2 iv2 rv2 h => ?_⟩
  obtain ⟨f, rfl, rfl, rfl, rfl, rfl, rfl, rg, ex⟩ := h
  exact ⟨f, rfl, by omega, XT.refl, hW, hm, (by omega), ⟨⟨trivial, ⟨KSQ.refl, KSC.refl, rfl, rfl, ⟨rfl, fun ss hs => hs⟩, ⟨rfl, fun ss hs => hs⟩, FKP.refl⟩⟩, ⟨rfl, rfl, rfl, rfl⟩, ⟨rfl, fun ss hs => hs⟩, ⟨rfl, fun tt ht => ht⟩, PSAME.refl, ⟨⟨_, hW, hW⟩, hS, XT.refl, KP.refl⟩⟩⟩
theorem PO_status {l : Launch} {G : GT} {mi h0 : Nat} : PressOp l G mi yX11_status cX11_status 1 (some .int) 0 [] h0 (fun sk L cl ln iv rv L2 cl2 ln2 iv2 rv2 f => (True ∧ (KSQ h0 iv rv iv2 rv2 ∧ KSC h0 iv rv iv2 rv2 ∧ iv2 h0 15 = iv h0 15 ∧ iv2 h0 16 = iv h0 16 ∧ (iv2 (sk 5) 2 = iv (sk 5) 2 ∧ ∀ ss, CT iv rv (sk 5) ss → CT iv2 rv2 (sk 5) ss) ∧ (iv2 (sk 4) 2 = iv (sk 4) 2 ∧ ∀ ss, CT iv rv (sk 4) ss → CT iv2 rv2 (sk 4) ss) ∧ FKP sk iv rv iv2 rv2)) ∧ (iv2 h0 14 = iv h0 14 ∧ iv2 h0 11 = iv h0 11 ∧ iv2 h0 12 = iv h0 12 ∧ iv2 h0 13 = iv h0 13) ∧ (iv2 (sk 2) 2 = iv (sk 2) 2 ∧ (∀ ss, CT iv rv (sk 2) ss → CT iv2 rv2 (sk 2) ss)) ∧ (iv2 (sk 3) 2 = iv (sk 3) 2 ∧ (∀ tt, CT iv rv (sk 3) tt → CT iv2 rv2 (sk 3) tt)) ∧ PSAME sk iv rv iv2 rv2 ∧ (∃ g, WT g sk L cl ln iv rv ∧ WT g sk L2 cl2 ln2 iv2 rv2) ∧ SKL sk L cl ∧ XT L cl ln L2 cl2 ln2 ∧ (KP L cl (fun _ => False) (fun _ => False) (fun _ => False) (fun _ => False) (fun _ _ => False) iv rv iv2 rv2)) := by
  intro n L cl ln iv rv sk hn hp
  obtain ⟨hW, hS, hm, h23, ht⟩ := hp
  refine hv3 (show ty L cl (sk 23) 23 from ⟨(hS 23 rfl).1, by rw [(hS 23 rfl).2]; rfl⟩) (show ty L cl (sk 2) 2 from ⟨(hS 2 rfl).1, by rw [(hS 2 rfl).2]; rfl⟩) (show ty L cl (sk 3) 3 from ⟨(hS 3 rfl).1, by rw [(hS 3 rfl).2]; rfl⟩) (fun t23 t2 t3 => ?_)
  refine ⟨0, _, by decide, C_status hW hS ht  , fun v L2 cl2 ln2 iv2 rv2 h => ?_⟩
  obtain ⟨f, rfl, rfl, rfl, rfl, rfl, rfl, rg, ex⟩ := h
  exact ⟨f, rfl, by omega, XT.refl, hW, hm, (by omega), ⟨⟨trivial, ⟨KSQ.refl, KSC.refl, rfl, rfl, ⟨rfl, fun ss hs => hs⟩, ⟨rfl, fun ss hs => hs⟩, FKP.refl⟩⟩, ⟨rfl, rfl, rfl, rfl⟩, ⟨rfl, fun ss hs => hs⟩, ⟨rfl, fun tt ht => ht⟩, PSAME.refl, ⟨⟨_, hW, hW⟩, hS, XT.refl, KP.refl⟩⟩⟩
theorem PO_digest {l : Launch} {G : GT} {mi h0 : Nat} : PressOp l G mi yX11_digest cX11_digest 3 (some .int) 3 [] h0 (fun sk L cl ln iv rv L2 cl2 ln2 iv2 rv2 f => (True ∧ (KSQ h0 iv rv iv2 rv2 ∧ KSC h0 iv rv iv2 rv2 ∧ iv2 h0 15 = iv h0 15 ∧ iv2 h0 16 = iv h0 16 ∧ (iv2 (sk 5) 2 = iv (sk 5) 2 ∧ ∀ ss, CT iv rv (sk 5) ss → CT iv2 rv2 (sk 5) ss) ∧ (iv2 (sk 4) 2 = iv (sk 4) 2 ∧ ∀ ss, CT iv rv (sk 4) ss → CT iv2 rv2 (sk 4) ss) ∧ FKP sk iv rv iv2 rv2)) ∧ (iv2 h0 14 = iv h0 14 ∧ iv2 h0 11 = iv h0 11 ∧ iv2 h0 12 = iv h0 12 ∧ iv2 h0 13 = iv h0 13) ∧ (iv2 (sk 2) 2 = iv (sk 2) 2 ∧ (∀ ss, CT iv rv (sk 2) ss → CT iv2 rv2 (sk 2) ss)) ∧ (iv2 (sk 3) 2 = iv (sk 3) 2 ∧ (∀ tt, CT iv rv (sk 3) tt → CT iv2 rv2 (sk 3) tt)) ∧ PSAME sk iv rv iv2 rv2 ∧ (∃ g, WT g sk L cl ln iv rv ∧ WT g sk L2 cl2 ln2 iv2 rv2) ∧ SKL sk L cl ∧ XT L cl ln L2 cl2 ln2 ∧ (KP L cl (fun _ => False) (fun _ => False) (fun _ => False) (fun _ => False) (fun _ _ => False) iv rv iv2 rv2)) := by
  intro n L cl ln iv rv sk hn hp
  obtain ⟨hW, hS, hm, h23, ht⟩ := hp
  refine hv3 (show ty L cl (sk 23) 23 from ⟨(hS 23 rfl).1, by rw [(hS 23 rfl).2]; rfl⟩) (show ty L cl (sk 2) 2 from ⟨(hS 2 rfl).1, by rw [(hS 2 rfl).2]; rfl⟩) (show ty L cl (sk 3) 3 from ⟨(hS 3 rfl).1, by rw [(hS 3 rfl).2]; rfl⟩) (fun t23 t2 t3 => ?_)
  refine ⟨0, _, by decide, C_digest hW hS ht  , fun v L2 cl2 ln2 iv2 rv2 h => ?_⟩
  obtain ⟨f, rfl, rfl, rfl, rfl, rfl, rfl, rg, ex⟩ := h
  exact ⟨f, rfl, by omega, XT.refl, hW, hm, (by omega), ⟨⟨trivial, ⟨KSQ.refl, KSC.refl, rfl, rfl, ⟨rfl, fun ss hs => hs⟩, ⟨rfl, fun ss hs => hs⟩, FKP.refl⟩⟩, ⟨rfl, rfl, rfl, rfl⟩, ⟨rfl, fun ss hs => hs⟩, ⟨rfl, fun tt ht => ht⟩, PSAME.refl, ⟨⟨_, hW, hW⟩, hS, XT.refl, KP.refl⟩⟩⟩
end
section
def MIV (n : Nat) (ln : Nat → Nat) (v : Nat → Int) (a : Nat → Nat → Int) : Prop := BX v a ∧ TBL v a ∧ STK ln v a ∧ RWS a ∧ v 19 ≤ 4 * (n : Int)
def ModelOp (l : Launch) (G : GT) (y2 : MethodName) (cc2 : ByteArray) (n2 : Nat) (ret2 : Option FieldType) (d2 : Nat) (As : List Value) (mm mc ms : Nat) (EX : (Nat → Int) → (Nat → Nat → Int) → (Nat → Int) → (Nat → Nat → Int) → Int → Prop) : Prop := ∀ (n : Nat) (ad ln : Nat → Nat) (v : Nat → Int) (a : Nat → Nat → Int) (L : List Nat) (E : Nat → va_E), n ≤ 511 → MIV n ln v a → mI G mm ad ln v a L E → ∃ P2 : PT, Mq l G y2 cc2 n2 ret2 d2 (.ref mm :: As) L E mc ms P2 ∧ ∀ r L2 E2, P2 r L2 E2 → ∃ (f : Int) (ad2 ln2 : Nat → Nat) (v2 : Nat → Int) (a2 : Nat → Nat → Int), r = some (.int (iI f)) ∧ mI G mm ad2 ln2 v2 a2 L2 E2 ∧ MIV (n + 1) ln2 v2 a2 ∧ EX v a v2 a2 f
theorem MO_feed {l : Launch} {G : GT} {mm : Nat} {x1 : Int} {x2 : Int} {x3 : Int} {x4 : Int} {x5 : Int} (h_x1 : -2147483648 ≤ x1 ∧ x1 ≤ 2147483647) (h_x2 : -2147483648 ≤ x2 ∧ x2 ≤ 2147483647) (h_x3 : -2147483648 ≤ x3 ∧ x3 ≤ 2147483647) (h_x4 : -2147483648 ≤ x4 ∧ x4 ≤ 2147483647) (h_x5 : -2147483648 ≤ x5 ∧ x5 ≤ 2147483647) : ModelOp l G yX12_feed cX12_feed 8 (some .int) 1 [.int (iI x1), .int (iI x2), .int (iI x3), .int (iI x4), .int (iI x5)] mm 0 0 (fun v a v2 a2 f => (True ∧ (v2 36 = v 36 ∧ KSA v a v2 a2 ∧ v2 42 = v 42 ∧ v2 43 = v 43 ∧ (v2 41 = v 41 ∧ a2 40 = a 40) ∧ (v2 52 = v 52 ∧ a2 51 = a 51) ∧ (v2 60 = v 60 ∧ v2 61 = v 61 ∧ a2 58 = a 58 ∧ a2 59 = a 59))) ∧ (v2 56 = v 56 ∧ v2 31 = v 31 ∧ v2 32 = v 32 ∧ v2 33 = v 33) ∧ ((f = -1 ∧ v2 3 = v 3 ∧ 2980 < v 3 ∧ a2 2 = a 2) ∨ (f = v 3 + 20 ∧ v2 3 = v 3 + 20 ∧ v 3 ≤ 2980 ∧ a2 2 = rfd (a 2) (v 3).toNat x1 x2 x3 x4 x5 20)) ∧ (v2 30 = v 30 ∧ a2 29 = a 29) ∧ TSAME v a v2 a2) := by
  intro n ad ln v a L E hn hV hI
  obtain ⟨hB, hT, hS, hR, h19⟩ := hV
  refine ⟨_, B_feed (x1 := x1) (x2 := x2) (x3 := x3) (x4 := x4) (x5 := x5) hB h_x1 h_x2 h_x3 h_x4 h_x5 L E hI, fun r L2 E2 h => ?_⟩
  obtain ⟨v2, a2, hI2, f, rfl, hf, hB2, hx⟩ := h
  exact ⟨f, ad, ln, v2, a2, rfl, hI2, ⟨hB2, (hT.fr hf rfl rfl), (hS.fr hf rfl rfl), (hR.fr hf rfl), (by have q := hf.1 19 rfl; push_cast; omega)⟩, ⟨⟨trivial, ⟨hf.1 36 rfl, ⟨hf.1 36 rfl, hf.2 34 rfl, hf.2 35 rfl⟩, hf.1 42 rfl, hf.1 43 rfl, ⟨hf.1 41 rfl, hf.2 40 rfl⟩, ⟨hf.1 52 rfl, hf.2 51 rfl⟩, ⟨hf.1 60 rfl, hf.1 61 rfl, hf.2 58 rfl, hf.2 59 rfl⟩⟩⟩, ⟨hf.1 56 rfl, hf.1 31 rfl, hf.1 32 rfl, hf.1 33 rfl⟩, hx, ⟨hf.1 30 rfl, hf.2 29 rfl⟩, ⟨hf.1 4 rfl, hf.2 5 rfl, hf.2 6 rfl, hf.2 7 rfl, hf.2 10 rfl, hf.1 19 rfl, hf.2 18 rfl, hf.2 11 rfl, hf.2 8 rfl, hf.2 9 rfl, hf.2 12 rfl, hf.2 13 rfl, hf.2 14 rfl, hf.2 15 rfl, hf.2 16 rfl, hf.2 17 rfl⟩⟩⟩
theorem MO_end {l : Launch} {G : GT} {mm : Nat} {x1 : Int} (h_x1 : -2147483648 ≤ x1 ∧ x1 ≤ 2147483647) : ModelOp l G yX12_end cX12_end 2 (some .int) 1 [.int (iI x1)] mm 0 0 (fun v a v2 a2 f => (True ∧ (v2 36 = v 36 ∧ KSA v a v2 a2 ∧ v2 42 = v 42 ∧ v2 43 = v 43 ∧ (v2 41 = v 41 ∧ a2 40 = a 40) ∧ (v2 52 = v 52 ∧ a2 51 = a 51) ∧ (v2 60 = v 60 ∧ v2 61 = v 61 ∧ a2 58 = a 58 ∧ a2 59 = a 59))) ∧ (v2 56 = v 56 ∧ v2 31 = v 31 ∧ v2 32 = v 32 ∧ v2 33 = v 33) ∧ (((f = -1 ∧ v2 3 = v 3 ∧ (x1 < 0 ∨ v 3 < x1)) ∨ (f = x1 ∧ v2 3 = x1 ∧ 0 ≤ x1 ∧ x1 ≤ v 3)) ∧ a2 2 = a 2) ∧ (v2 30 = v 30 ∧ a2 29 = a 29) ∧ TSAME v a v2 a2) := by
  intro n ad ln v a L E hn hV hI
  obtain ⟨hB, hT, hS, hR, h19⟩ := hV
  refine ⟨_, B_end (n1 := x1) hB h_x1 L E hI, fun r L2 E2 h => ?_⟩
  obtain ⟨v2, a2, hI2, f, rfl, hf, hB2, hx⟩ := h
  exact ⟨f, ad, ln, v2, a2, rfl, hI2, ⟨hB2, (hT.fr hf rfl rfl), (hS.fr hf rfl rfl), (hR.fr hf rfl), (by have q := hf.1 19 rfl; push_cast; omega)⟩, ⟨⟨trivial, ⟨hf.1 36 rfl, ⟨hf.1 36 rfl, hf.2 34 rfl, hf.2 35 rfl⟩, hf.1 42 rfl, hf.1 43 rfl, ⟨hf.1 41 rfl, hf.2 40 rfl⟩, ⟨hf.1 52 rfl, hf.2 51 rfl⟩, ⟨hf.1 60 rfl, hf.1 61 rfl, hf.2 58 rfl, hf.2 59 rfl⟩⟩⟩, ⟨hf.1 56 rfl, hf.1 31 rfl, hf.1 32 rfl, hf.1 33 rfl⟩, ⟨hx, hf.2 2 rfl⟩, ⟨hf.1 30 rfl, hf.2 29 rfl⟩, ⟨hf.1 4 rfl, hf.2 5 rfl, hf.2 6 rfl, hf.2 7 rfl, hf.2 10 rfl, hf.1 19 rfl, hf.2 18 rfl, hf.2 11 rfl, hf.2 8 rfl, hf.2 9 rfl, hf.2 12 rfl, hf.2 13 rfl, hf.2 14 rfl, hf.2 15 rfl, hf.2 16 rfl, hf.2 17 rfl⟩⟩⟩
theorem MO_table {l : Launch} {G : GT} {mm : Nat} {x1 : Int} {x2 : Int} {x3 : Int} (h_x1 : -2147483648 ≤ x1 ∧ x1 ≤ 2147483647) (h_x2 : -2147483648 ≤ x2 ∧ x2 ≤ 2147483647) (h_x3 : -2147483648 ≤ x3 ∧ x3 ≤ 2147483647) : ModelOp l G yX12_table cX12_table 5 (some .int) 2 [.int (iI x1), .int (iI x2), .int (iI x3)] mm 1 4110 (fun v a v2 a2 f => (True ∧ (v2 36 = v 36 ∧ KSA v a v2 a2 ∧ v2 42 = v 42 ∧ v2 43 = v 43 ∧ (v2 41 = v 41 ∧ a2 40 = a 40) ∧ (v2 52 = v 52 ∧ a2 51 = a 51) ∧ (v2 60 = v 60 ∧ v2 61 = v 61 ∧ a2 58 = a 58 ∧ a2 59 = a 59))) ∧ (v2 56 = v 56 ∧ v2 31 = v 31 ∧ v2 32 = v 32 ∧ v2 33 = v 33) ∧ (v2 3 = v 3 ∧ a2 2 = a 2) ∧ (v2 30 = v 30 ∧ a2 29 = a 29) ∧ ((f = -1 ∧ TSAME v a v2 a2 ∧ ¬ (0 ≤ x1 ∧ x1 ≤ 4 ∧ (x2 = 6 ∨ x2 = 8) ∧ v 4 ≠ 30 ∧ (x1 < 1 ∨ 3 < x1 ∨ (0 ≤ x3 ∧ x3 < v 4 ∧ a 5 x3.toNat = 1 ∧ a 6 x3.toNat ≤ 3)))) ∨ (f = v 4 ∧ (0 ≤ x1 ∧ x1 ≤ 4 ∧ (x2 = 6 ∨ x2 = 8) ∧ v 4 ≠ 30 ∧ (x1 < 1 ∨ 3 < x1 ∨ (0 ≤ x3 ∧ x3 < v 4 ∧ a 5 x3.toNat = 1 ∧ a 6 x3.toNat ≤ 3))) ∧ TNEW x1 x2 (if x1 < 1 ∨ 3 < x1 then -1 else x3) (-1) v a v2 a2))) := by
  intro n ad ln v a L E hn hV hI
  obtain ⟨hB, hT, hS, hR, h19⟩ := hV
  refine ⟨_, M_table (k0 := x1) (d0 := x2) (b0 := x3) hB hT hS h_x1 h_x2 h_x3 (by omega) L E hI, fun r L2 E2 h => ?_⟩
  obtain ⟨ad2, ln2, v2, a2, hI2, f, rfl, hf, hB2, hx⟩ := h
  exact ⟨f, ad2, ln2, v2, a2, rfl, hI2, ⟨hB2, hx.1, hx.2.1, (hR.fr hf rfl), (by have q := hx.2.2.1; push_cast; omega)⟩, ⟨⟨trivial, ⟨hf.1 36 rfl, ⟨hf.1 36 rfl, hf.2 34 rfl, hf.2 35 rfl⟩, hf.1 42 rfl, hf.1 43 rfl, ⟨hf.1 41 rfl, hf.2 40 rfl⟩, ⟨hf.1 52 rfl, hf.2 51 rfl⟩, ⟨hf.1 60 rfl, hf.1 61 rfl, hf.2 58 rfl, hf.2 59 rfl⟩⟩⟩, ⟨hf.1 56 rfl, hf.1 31 rfl, hf.1 32 rfl, hf.1 33 rfl⟩, ⟨hf.1 3 rfl, hf.2 2 rfl⟩, ⟨hf.1 30 rfl, hf.2 29 rfl⟩, hx.2.2.2⟩⟩
theorem MO_join {l : Launch} {G : GT} {mm : Nat} {x1 : Int} {x2 : Int} (h_x1 : -2147483648 ≤ x1 ∧ x1 ≤ 2147483647) (h_x2 : -2147483648 ≤ x2 ∧ x2 ≤ 2147483647) : ModelOp l G yX12_join cX12_join 3 (some .int) 2 [.int (iI x1), .int (iI x2)] mm 1 4110 (fun v a v2 a2 f => (True ∧ (v2 36 = v 36 ∧ KSA v a v2 a2 ∧ v2 42 = v 42 ∧ v2 43 = v 43 ∧ (v2 41 = v 41 ∧ a2 40 = a 40) ∧ (v2 52 = v 52 ∧ a2 51 = a 51) ∧ (v2 60 = v 60 ∧ v2 61 = v 61 ∧ a2 58 = a 58 ∧ a2 59 = a 59))) ∧ (v2 56 = v 56 ∧ v2 31 = v 31 ∧ v2 32 = v 32 ∧ v2 33 = v 33) ∧ (v2 3 = v 3 ∧ a2 2 = a 2) ∧ (v2 30 = v 30 ∧ a2 29 = a 29) ∧ ((f = -1 ∧ TSAME v a v2 a2 ∧ ¬ (0 ≤ x1 ∧ x1 < v 4 ∧ a 5 x1.toNat = 1 ∧ a 6 x1.toNat ≤ 3 ∧ 0 ≤ x2 ∧ x2 < v 4 ∧ a 5 x2.toNat = 1 ∧ a 6 x2.toNat ≤ 3 ∧ v 4 ≠ 30)) ∨ (f = v 4 ∧ (0 ≤ x1 ∧ x1 < v 4 ∧ a 5 x1.toNat = 1 ∧ a 6 x1.toNat ≤ 3 ∧ 0 ≤ x2 ∧ x2 < v 4 ∧ a 5 x2.toNat = 1 ∧ a 6 x2.toNat ≤ 3 ∧ v 4 ≠ 30) ∧ TNEW 5 (max (a 7 x1.toNat) (a 7 x2.toNat)) x1 x2 v a v2 a2))) := by
  intro n ad ln v a L E hn hV hI
  obtain ⟨hB, hT, hS, hR, h19⟩ := hV
  refine ⟨_, M_join (x := x1) (y := x2) hB hT hS h_x1 h_x2 (by omega) L E hI, fun r L2 E2 h => ?_⟩
  obtain ⟨ad2, ln2, v2, a2, hI2, f, rfl, hf, hB2, hx⟩ := h
  exact ⟨f, ad2, ln2, v2, a2, rfl, hI2, ⟨hB2, hx.1, hx.2.1, (hR.fr hf rfl), (by have q := hx.2.2.1; push_cast; omega)⟩, ⟨⟨trivial, ⟨hf.1 36 rfl, ⟨hf.1 36 rfl, hf.2 34 rfl, hf.2 35 rfl⟩, hf.1 42 rfl, hf.1 43 rfl, ⟨hf.1 41 rfl, hf.2 40 rfl⟩, ⟨hf.1 52 rfl, hf.2 51 rfl⟩, ⟨hf.1 60 rfl, hf.1 61 rfl, hf.2 58 rfl, hf.2 59 rfl⟩⟩⟩, ⟨hf.1 56 rfl, hf.1 31 rfl, hf.1 32 rfl, hf.1 33 rfl⟩, ⟨hf.1 3 rfl, hf.2 2 rfl⟩, ⟨hf.1 30 rfl, hf.2 29 rfl⟩, hx.2.2.2⟩⟩
theorem MO_drop {l : Launch} {G : GT} {mm : Nat} {x1 : Int} (h_x1 : -2147483648 ≤ x1 ∧ x1 ≤ 2147483647) : ModelOp l G yX12_drop cX12_drop 2 (some .int) 1 [.int (iI x1)] mm 1 4110 (fun v a v2 a2 f => (True ∧ (v2 36 = v 36 ∧ KSA v a v2 a2 ∧ v2 42 = v 42 ∧ v2 43 = v 43 ∧ (v2 41 = v 41 ∧ a2 40 = a 40) ∧ (v2 52 = v 52 ∧ a2 51 = a 51) ∧ (v2 60 = v 60 ∧ v2 61 = v 61 ∧ a2 58 = a 58 ∧ a2 59 = a 59))) ∧ (v2 56 = v 56 ∧ v2 31 = v 31 ∧ v2 32 = v 32 ∧ v2 33 = v 33) ∧ (v2 3 = v 3 ∧ a2 2 = a 2) ∧ (v2 30 = v 30 ∧ a2 29 = a 29) ∧ ((f = -1 ∧ TSAME v a v2 a2 ∧ ¬ (0 ≤ x1 ∧ x1 < v 4 ∧ a 5 x1.toNat = 1)) ∨ (f = 1 ∧ (0 ≤ x1 ∧ x1 < v 4 ∧ a 5 x1.toNat = 1) ∧ TDRP x1 v a v2 a2))) := by
  intro n ad ln v a L E hn hV hI
  obtain ⟨hB, hT, hS, hR, h19⟩ := hV
  refine ⟨_, M_drop (t := x1) hB hT hS h_x1 (by omega) L E hI, fun r L2 E2 h => ?_⟩
  obtain ⟨ad2, ln2, v2, a2, hI2, f, rfl, hf, hB2, hx⟩ := h
  exact ⟨f, ad2, ln2, v2, a2, rfl, hI2, ⟨hB2, hx.1, hx.2.1, (hR.fr hf rfl), (by have q := hx.2.2.1; push_cast; omega)⟩, ⟨⟨trivial, ⟨hf.1 36 rfl, ⟨hf.1 36 rfl, hf.2 34 rfl, hf.2 35 rfl⟩, hf.1 42 rfl, hf.1 43 rfl, ⟨hf.1 41 rfl, hf.2 40 rfl⟩, ⟨hf.1 52 rfl, hf.2 51 rfl⟩, ⟨hf.1 60 rfl, hf.1 61 rfl, hf.2 58 rfl, hf.2 59 rfl⟩⟩⟩, ⟨hf.1 56 rfl, hf.1 31 rfl, hf.1 32 rfl, hf.1 33 rfl⟩, ⟨hf.1 3 rfl, hf.2 2 rfl⟩, ⟨hf.1 30 rfl, hf.2 29 rfl⟩, hx.2.2.2⟩⟩
theorem MO_rule {l : Launch} {G : GT} {mm : Nat} {x1 : Int} {x2 : Int} {x3 : Int} (h_x1 : -2147483648 ≤ x1 ∧ x1 ≤ 2147483647) (h_x2 : -2147483648 ≤ x2 ∧ x2 ≤ 2147483647) (h_x3 : -2147483648 ≤ x3 ∧ x3 ≤ 2147483647) : ModelOp l G yX12_rule cX12_rule 8 (some .int) 2 [.int (iI x1), .int (iI x2), .int (iI x3)] mm 1 4110 (fun v a v2 a2 f => (True ∧ (v2 36 = v 36 ∧ KSA v a v2 a2 ∧ v2 42 = v 42 ∧ v2 43 = v 43 ∧ (v2 41 = v 41 ∧ a2 40 = a 40) ∧ (v2 52 = v 52 ∧ a2 51 = a 51) ∧ (v2 60 = v 60 ∧ v2 61 = v 61 ∧ a2 58 = a 58 ∧ a2 59 = a 59))) ∧ (v2 56 = v 56 ∧ v2 31 = v 31 ∧ v2 32 = v 32 ∧ v2 33 = v 33) ∧ v2 3 = 0 ∧ (v2 30 = v 30 ∧ a2 29 = a 29) ∧ ((f = -1 ∧ TSAME v a v2 a2 ∧ ¬ ((0 ≤ x1 ∧ x1 < v 4 ∧ a 5 x1.toNat = 1 ∧ a 6 x1.toNat ≠ 5 ∧ 0 ≤ x2 ∧ x2 ≤ 5 ∧ 1 ≤ x3 ∧ x3 ≤ 8 ∧ 1 ≤ v 3 - x3 ∧ v 3 - x3 ≤ 4 ∧ a 10 x1.toNat ≠ 200) ∧ ACL (a 2) x3 (v 3 - x3) (DC (a 7 x1.toNat)) ∧ LTK (a 2) x3)) ∨ (f = a 10 x1.toNat ∧ ((0 ≤ x1 ∧ x1 < v 4 ∧ a 5 x1.toNat = 1 ∧ a 6 x1.toNat ≠ 5 ∧ 0 ≤ x2 ∧ x2 ≤ 5 ∧ 1 ≤ x3 ∧ x3 ≤ 8 ∧ 1 ≤ v 3 - x3 ∧ v 3 - x3 ≤ 4 ∧ a 10 x1.toNat ≠ 200) ∧ ACL (a 2) x3 (v 3 - x3) (DC (a 7 x1.toNat)) ∧ LTK (a 2) x3) ∧ TRUL x1 x2 x3 v a v2 a2))) := by
  intro n ad ln v a L E hn hV hI
  obtain ⟨hB, hT, hS, hR, h19⟩ := hV
  refine ⟨_, M_rule (t := x1) (x := x2) (m1 := x3) hB hT hS h_x1 h_x2 h_x3 (by omega) L E hI, fun r L2 E2 h => ?_⟩
  obtain ⟨ad2, ln2, v2, a2, hI2, f, rfl, hf, hB2, hx⟩ := h
  exact ⟨f, ad2, ln2, v2, a2, rfl, hI2, ⟨hB2, hx.1, hx.2.1, (hR.fr hf rfl), (by have q := hx.2.2.1; push_cast; omega)⟩, ⟨⟨trivial, ⟨hf.1 36 rfl, ⟨hf.1 36 rfl, hf.2 34 rfl, hf.2 35 rfl⟩, hf.1 42 rfl, hf.1 43 rfl, ⟨hf.1 41 rfl, hf.2 40 rfl⟩, ⟨hf.1 52 rfl, hf.2 51 rfl⟩, ⟨hf.1 60 rfl, hf.1 61 rfl, hf.2 58 rfl, hf.2 59 rfl⟩⟩⟩, ⟨hf.1 56 rfl, hf.1 31 rfl, hf.1 32 rfl, hf.1 33 rfl⟩, hx.2.2.2.1, ⟨hf.1 30 rfl, hf.2 29 rfl⟩, hx.2.2.2.2⟩⟩
theorem MO_condition {l : Launch} {G : GT} {mm : Nat} {x1 : Int} {x2 : Int} {x3 : Int} (h_x1 : -2147483648 ≤ x1 ∧ x1 ≤ 2147483647) (h_x2 : -2147483648 ≤ x2 ∧ x2 ≤ 2147483647) (h_x3 : -2147483648 ≤ x3 ∧ x3 ≤ 2147483647) : ModelOp l G yX12_condition cX12_condition 5 (some .int) 2 [.int (iI x1), .int (iI x2), .int (iI x3)] mm 1 4110 (fun v a v2 a2 f => (True ∧ (v2 36 = v 36 ∧ KSA v a v2 a2 ∧ v2 42 = v 42 ∧ v2 43 = v 43 ∧ (v2 41 = v 41 ∧ a2 40 = a 40) ∧ (v2 52 = v 52 ∧ a2 51 = a 51) ∧ (v2 60 = v 60 ∧ v2 61 = v 61 ∧ a2 58 = a 58 ∧ a2 59 = a 59))) ∧ (v2 56 = v 56 ∧ v2 31 = v 31 ∧ v2 32 = v 32 ∧ v2 33 = v 33) ∧ (v2 3 = v 3 ∧ a2 2 = a 2) ∧ (v2 30 = v 30 ∧ a2 29 = a 29) ∧ ((f = -1 ∧ TSAME v a v2 a2 ∧ ¬ (0 ≤ x1 ∧ x1 < v 4 ∧ a 5 x1.toNat = 1 ∧ a 6 x1.toNat ≠ 5 ∧ 0 ≤ x2 ∧ x2 < a 10 x1.toNat ∧ 0 ≤ x3 ∧ x3 ≤ 5)) ∨ (f = a 11 (200 * x1 + x2).toNat ∧ (0 ≤ x1 ∧ x1 < v 4 ∧ a 5 x1.toNat = 1 ∧ a 6 x1.toNat ≠ 5 ∧ 0 ≤ x2 ∧ x2 < a 10 x1.toNat ∧ 0 ≤ x3 ∧ x3 ≤ 5) ∧ TCND x1 x2 x3 v a v2 a2))) := by
  intro n ad ln v a L E hn hV hI
  obtain ⟨hB, hT, hS, hR, h19⟩ := hV
  refine ⟨_, M_condition (t := x1) (r0 := x2) (x := x3) hB hT hS h_x1 h_x2 h_x3 (by omega) L E hI, fun r L2 E2 h => ?_⟩
  obtain ⟨ad2, ln2, v2, a2, hI2, f, rfl, hf, hB2, hx⟩ := h
  exact ⟨f, ad2, ln2, v2, a2, rfl, hI2, ⟨hB2, hx.1, hx.2.1, (hR.fr hf rfl), (by have q := hx.2.2.1; push_cast; omega)⟩, ⟨⟨trivial, ⟨hf.1 36 rfl, ⟨hf.1 36 rfl, hf.2 34 rfl, hf.2 35 rfl⟩, hf.1 42 rfl, hf.1 43 rfl, ⟨hf.1 41 rfl, hf.2 40 rfl⟩, ⟨hf.1 52 rfl, hf.2 51 rfl⟩, ⟨hf.1 60 rfl, hf.1 61 rfl, hf.2 58 rfl, hf.2 59 rfl⟩⟩⟩, ⟨hf.1 56 rfl, hf.1 31 rfl, hf.1 32 rfl, hf.1 33 rfl⟩, ⟨hf.1 3 rfl, hf.2 2 rfl⟩, ⟨hf.1 30 rfl, hf.2 29 rfl⟩, hx.2.2.2⟩⟩
theorem MO_indicator {l : Launch} {G : GT} {mm : Nat} {x1 : Int} {x2 : Int} (h_x1 : -2147483648 ≤ x1 ∧ x1 ≤ 2147483647) (h_x2 : -2147483648 ≤ x2 ∧ x2 ≤ 2147483647) : ModelOp l G yX12_indicator cX12_indicator 8 (some .int) 2 [.int (iI x1), .int (iI x2)] mm 1 4110 (fun v a v2 a2 f => (True ∧ (v2 36 = v 36 ∧ KSA v a v2 a2 ∧ v2 42 = v 42 ∧ v2 43 = v 43 ∧ (v2 41 = v 41 ∧ a2 40 = a 40) ∧ (v2 52 = v 52 ∧ a2 51 = a 51) ∧ (v2 60 = v 60 ∧ v2 61 = v 61 ∧ a2 58 = a 58 ∧ a2 59 = a 59))) ∧ (v2 56 = v 56 ∧ v2 31 = v 31 ∧ v2 32 = v 32 ∧ v2 33 = v 33) ∧ v2 3 = 0 ∧ (v2 30 = v 30 ∧ a2 29 = a 29) ∧ ((f = -1 ∧ TSAME v a v2 a2 ∧ ¬ ((0 ≤ x2 ∧ x2 ≤ 3 ∧ 0 ≤ x1 ∧ x1 < v 4 ∧ a 5 x1.toNat = 1 ∧ ((x2 = 0 ∧ a 6 x1.toNat ≤ 2) ∨ (x2 = 1 ∧ a 6 x1.toNat = 2) ∨ (x2 ≠ 0 ∧ x2 ≠ 1 ∧ a 6 x1.toNat = 5)) ∧ v 3 ≤ 4) ∧ ACL (a 2) 0 (v 3) (DC (a 7 x1.toNat)) ∧ True)) ∨ (f = v 3 ∧ ((0 ≤ x2 ∧ x2 ≤ 3 ∧ 0 ≤ x1 ∧ x1 < v 4 ∧ a 5 x1.toNat = 1 ∧ ((x2 = 0 ∧ a 6 x1.toNat ≤ 2) ∨ (x2 = 1 ∧ a 6 x1.toNat = 2) ∨ (x2 ≠ 0 ∧ x2 ≠ 1 ∧ a 6 x1.toNat = 5)) ∧ v 3 ≤ 4) ∧ ACL (a 2) 0 (v 3) (DC (a 7 x1.toNat)) ∧ True) ∧ TIND x1 x2 v a v2 a2))) := by
  intro n ad ln v a L E hn hV hI
  obtain ⟨hB, hT, hS, hR, h19⟩ := hV
  refine ⟨_, M_indicator (t := x1) (x := x2) hB hT hS h_x1 h_x2 (by omega) L E hI, fun r L2 E2 h => ?_⟩
  obtain ⟨ad2, ln2, v2, a2, hI2, f, rfl, hf, hB2, hx⟩ := h
  exact ⟨f, ad2, ln2, v2, a2, rfl, hI2, ⟨hB2, hx.1, hx.2.1, (hR.fr hf rfl), (by have q := hx.2.2.1; push_cast; omega)⟩, ⟨⟨trivial, ⟨hf.1 36 rfl, ⟨hf.1 36 rfl, hf.2 34 rfl, hf.2 35 rfl⟩, hf.1 42 rfl, hf.1 43 rfl, ⟨hf.1 41 rfl, hf.2 40 rfl⟩, ⟨hf.1 52 rfl, hf.2 51 rfl⟩, ⟨hf.1 60 rfl, hf.1 61 rfl, hf.2 58 rfl, hf.2 59 rfl⟩⟩⟩, ⟨hf.1 56 rfl, hf.1 31 rfl, hf.1 32 rfl, hf.1 33 rfl⟩, hx.2.2.2.1, ⟨hf.1 30 rfl, hf.2 29 rfl⟩, hx.2.2.2.2⟩⟩
theorem MO_undo {l : Launch} {G : GT} {mm : Nat} : ModelOp l G yX12_undo cX12_undo 5 (some .int) 1 [] mm 0 0 (fun v a v2 a2 f => (True ∧ (v2 36 = v 36 ∧ KSA v a v2 a2 ∧ v2 42 = v 42 ∧ v2 43 = v 43 ∧ (v2 41 = v 41 ∧ a2 40 = a 40) ∧ (v2 52 = v 52 ∧ a2 51 = a 51) ∧ (v2 60 = v 60 ∧ v2 61 = v 61 ∧ a2 58 = a 58 ∧ a2 59 = a 59))) ∧ (v2 56 = v 56 ∧ v2 31 = v 31 ∧ v2 32 = v 32 ∧ v2 33 = v 33) ∧ (v2 3 = v 3 ∧ a2 2 = a 2) ∧ (v2 30 = v 30 ∧ a2 29 = a 29) ∧ ((∃ ln, STK ln v a) ∧ (∃ ln, STK ln v2 a2) ∧ ((v 19 = 0 ∧ f = 0 ∧ TSAME v a v2 a2) ∨ (v 19 ≠ 0 ∧ f = 1 ∧ TUND v a v2 a2)))) := by
  intro n ad ln v a L E hn hV hI
  obtain ⟨hB, hT, hS, hR, h19⟩ := hV
  refine ⟨_, M_undo  hB hT hS (by omega) L E hI, fun r L2 E2 h => ?_⟩
  obtain ⟨ad2, ln2, v2, a2, hI2, f, rfl, hf, hB2, hx⟩ := h
  exact ⟨f, ad2, ln2, v2, a2, rfl, hI2, ⟨hB2, hx.1, hx.2.1, (hR.fr hf rfl), (by have q := hx.2.2.1; push_cast; omega)⟩, ⟨⟨trivial, ⟨hf.1 36 rfl, ⟨hf.1 36 rfl, hf.2 34 rfl, hf.2 35 rfl⟩, hf.1 42 rfl, hf.1 43 rfl, ⟨hf.1 41 rfl, hf.2 40 rfl⟩, ⟨hf.1 52 rfl, hf.2 51 rfl⟩, ⟨hf.1 60 rfl, hf.1 61 rfl, hf.2 58 rfl, hf.2 59 rfl⟩⟩⟩, ⟨hf.1 56 rfl, hf.1 31 rfl, hf.1 32 rfl, hf.1 33 rfl⟩, ⟨hf.1 3 rfl, hf.2 2 rfl⟩, ⟨hf.1 30 rfl, hf.2 29 rfl⟩, ⟨⟨ln, hS⟩, ⟨ln2, hx.2.1⟩, hx.2.2.2⟩⟩⟩
theorem MO_text {l : Launch} {G : GT} {mm : Nat} : ModelOp l G yX12_text cX12_text 4 (some .int) 1 [] mm 0 0 (fun v a v2 a2 f => (True ∧ (v2 36 = v 36 ∧ KSA v a v2 a2 ∧ v2 42 = v 42 ∧ v2 43 = v 43 ∧ (v2 41 = v 41 ∧ a2 40 = a 40) ∧ (v2 52 = v 52 ∧ a2 51 = a 51) ∧ (v2 60 = v 60 ∧ v2 61 = v 61 ∧ a2 58 = a 58 ∧ a2 59 = a 59))) ∧ (v2 56 = v 56 ∧ v2 31 = v 31 ∧ v2 32 = v 32 ∧ v2 33 = v 33) ∧ v2 3 = 0 ∧ ((((f = -1 ∧ v2 30 = v 30 ∧ ¬ (TOK (a 2) (v 3) ∧ v 30 + v 3 ≤ 500)) ∨ (f = v2 30 ∧ TOK (a 2) (v 3) ∧ v 30 + v 3 ≤ 500 ∧ ((v 3 = 0 ∧ v2 30 = 0) ∨ (v 3 ≠ 0 ∧ v2 30 = v 30 + v 3))))) ∧ TXR v a v2 a2 f) ∧ TSAME v a v2 a2) := by
  intro n ad ln v a L E hn hV hI
  obtain ⟨hB, hT, hS, hR, h19⟩ := hV
  refine ⟨_, B_text  hB L E hI, fun r L2 E2 h => ?_⟩
  obtain ⟨v2, a2, hI2, f, rfl, hf, hB2, hx⟩ := h
  exact ⟨f, ad, ln, v2, a2, rfl, hI2, ⟨hB2, (hT.fr hf rfl rfl), (hS.fr hf rfl rfl), (hR.fr hf rfl), (by have q := hf.1 19 rfl; push_cast; omega)⟩, ⟨⟨trivial, ⟨hf.1 36 rfl, ⟨hf.1 36 rfl, hf.2 34 rfl, hf.2 35 rfl⟩, hf.1 42 rfl, hf.1 43 rfl, ⟨hf.1 41 rfl, hf.2 40 rfl⟩, ⟨hf.1 52 rfl, hf.2 51 rfl⟩, ⟨hf.1 60 rfl, hf.1 61 rfl, hf.2 58 rfl, hf.2 59 rfl⟩⟩⟩, ⟨hf.1 56 rfl, hf.1 31 rfl, hf.1 32 rfl, hf.1 33 rfl⟩, hx.1.1, ⟨hx.1.2, hx.2⟩, ⟨hf.1 4 rfl, hf.2 5 rfl, hf.2 6 rfl, hf.2 7 rfl, hf.2 10 rfl, hf.1 19 rfl, hf.2 18 rfl, hf.2 11 rfl, hf.2 8 rfl, hf.2 9 rfl, hf.2 12 rfl, hf.2 13 rfl, hf.2 14 rfl, hf.2 15 rfl, hf.2 16 rfl, hf.2 17 rfl⟩⟩⟩
theorem MO_measure {l : Launch} {G : GT} {mm : Nat} {x1 : Int} {x2 : Int} {x3 : Int} (h_x1 : -2147483648 ≤ x1 ∧ x1 ≤ 2147483647) (h_x2 : -2147483648 ≤ x2 ∧ x2 ≤ 2147483647) (h_x3 : -2147483648 ≤ x3 ∧ x3 ≤ 2147483647) : ModelOp l G yX12_measure cX12_measure 4 (some .int) 1 [.int (iI x1), .int (iI x2), .int (iI x3)] mm 0 0 (fun v a v2 a2 f => (((f = 1 ∧ 1 ≤ x1 ∧ x1 ≤ 100 ∧ 1 ≤ x2 ∧ x2 ≤ 50 ∧ 1 ≤ x3 ∧ x3 ≤ 255) ∨ (f = -1 ∧ ¬ (1 ≤ x1 ∧ x1 ≤ 100 ∧ 1 ≤ x2 ∧ x2 ≤ 50 ∧ 1 ≤ x3 ∧ x3 ≤ 255))) ∧ (v2 36 = v 36 ∧ KSA v a v2 a2 ∧ v2 42 = v 42 ∧ v2 43 = v 43 ∧ (v2 41 = v 41 ∧ a2 40 = a 40) ∧ (v2 52 = v 52 ∧ a2 51 = a 51) ∧ (v2 60 = v 60 ∧ v2 61 = v 61 ∧ a2 58 = a 58 ∧ a2 59 = a 59))) ∧ (v2 56 = v 56 ∧ ((f = 1 ∧ v2 31 = x1 ∧ v2 32 = x2 ∧ v2 33 = x3) ∨ (f = -1 ∧ v2 31 = v 31 ∧ v2 32 = v 32 ∧ v2 33 = v 33))) ∧ (v2 3 = v 3 ∧ a2 2 = a 2) ∧ (v2 30 = v 30 ∧ a2 29 = a 29) ∧ TSAME v a v2 a2) := by
  intro n ad ln v a L E hn hV hI
  obtain ⟨hB, hT, hS, hR, h19⟩ := hV
  refine ⟨_, N_measure (w1 := x1) (h1 := x2) (y1 := x3) hB h_x1 h_x2 h_x3 L E hI, fun r L2 E2 h => ?_⟩
  obtain ⟨v2, a2, hI2, f, rfl, hf, hB2, hx⟩ := h
  exact ⟨f, ad, ln, v2, a2, rfl, hI2, ⟨hB2, (hT.fr hf rfl rfl), (hS.fr hf rfl rfl), (hR.fr hf rfl), (by have q := hf.1 19 rfl; push_cast; omega)⟩, ⟨⟨hx.1, ⟨hf.1 36 rfl, ⟨hf.1 36 rfl, hf.2 34 rfl, hf.2 35 rfl⟩, hf.1 42 rfl, hf.1 43 rfl, ⟨hf.1 41 rfl, hf.2 40 rfl⟩, ⟨hf.1 52 rfl, hf.2 51 rfl⟩, ⟨hf.1 60 rfl, hf.1 61 rfl, hf.2 58 rfl, hf.2 59 rfl⟩⟩⟩, ⟨hf.1 56 rfl, hx.2⟩, ⟨hf.1 3 rfl, hf.2 2 rfl⟩, ⟨hf.1 30 rfl, hf.2 29 rfl⟩, ⟨hf.1 4 rfl, hf.2 5 rfl, hf.2 6 rfl, hf.2 7 rfl, hf.2 10 rfl, hf.1 19 rfl, hf.2 18 rfl, hf.2 11 rfl, hf.2 8 rfl, hf.2 9 rfl, hf.2 12 rfl, hf.2 13 rfl, hf.2 14 rfl, hf.2 15 rfl, hf.2 16 rfl, hf.2 17 rfl⟩⟩⟩
theorem MO_head {l : Launch} {G : GT} {mm : Nat} {x1 : Int} (h_x1 : -2147483648 ≤ x1 ∧ x1 ≤ 2147483647) : ModelOp l G yX12_head cX12_head 5 (some .int) 66 [.int (iI x1)] mm 0 0 (fun v a v2 a2 f => (True ∧ (v2 36 = v 36 ∧ KSA v a v2 a2 ∧ v2 42 = v 42 ∧ v2 43 = v 43 ∧ True ∧ (v2 52 = v 52 ∧ a2 51 = a 51) ∧ (v2 60 = v 60 ∧ v2 61 = v 61 ∧ a2 58 = a 58 ∧ a2 59 = a 59))) ∧ (v2 56 = v 56 ∧ v2 31 = v 31 ∧ v2 32 = v 32 ∧ v2 33 = v 33) ∧ v2 3 = 0 ∧ (v2 30 = v 30 ∧ a2 29 = a 29) ∧ TSAME v a v2 a2) := by
  intro n ad ln v a L E hn hV hI
  obtain ⟨hB, hT, hS, hR, h19⟩ := hV
  refine ⟨_, M_head (t := x1) hB hT h_x1 L E hI, fun r L2 E2 h => ?_⟩
  obtain ⟨v2, a2, hI2, f, rfl, hf, hB2, hx⟩ := h
  exact ⟨f, ad, ln, v2, a2, rfl, hI2, ⟨hB2, (hT.fr hf rfl rfl), (hS.fr hf rfl rfl), (hR.fr hf rfl), (by have q := hf.1 19 rfl; push_cast; omega)⟩, ⟨⟨trivial, ⟨hf.1 36 rfl, ⟨hf.1 36 rfl, hf.2 34 rfl, hf.2 35 rfl⟩, hf.1 42 rfl, hf.1 43 rfl, trivial, ⟨hf.1 52 rfl, hf.2 51 rfl⟩, ⟨hf.1 60 rfl, hf.1 61 rfl, hf.2 58 rfl, hf.2 59 rfl⟩⟩⟩, ⟨hf.1 56 rfl, hf.1 31 rfl, hf.1 32 rfl, hf.1 33 rfl⟩, hx, ⟨hf.1 30 rfl, hf.2 29 rfl⟩, ⟨hf.1 4 rfl, hf.2 5 rfl, hf.2 6 rfl, hf.2 7 rfl, hf.2 10 rfl, hf.1 19 rfl, hf.2 18 rfl, hf.2 11 rfl, hf.2 8 rfl, hf.2 9 rfl, hf.2 12 rfl, hf.2 13 rfl, hf.2 14 rfl, hf.2 15 rfl, hf.2 16 rfl, hf.2 17 rfl⟩⟩⟩
theorem MO_lines {l : Launch} {G : GT} {mm : Nat} : ModelOp l G yX12_lines cX12_lines 1 (some .int) 0 [] mm 0 0 (fun v a v2 a2 f => (True ∧ (v2 36 = v 36 ∧ KSA v a v2 a2 ∧ v2 42 = v 42 ∧ v2 43 = v 43 ∧ (v2 41 = v 41 ∧ a2 40 = a 40) ∧ (v2 52 = v 52 ∧ a2 51 = a 51) ∧ (v2 60 = v 60 ∧ v2 61 = v 61 ∧ a2 58 = a 58 ∧ a2 59 = a 59))) ∧ (v2 56 = v 56 ∧ v2 31 = v 31 ∧ v2 32 = v 32 ∧ v2 33 = v 33) ∧ (v2 3 = v 3 ∧ a2 2 = a 2) ∧ (v2 30 = v 30 ∧ a2 29 = a 29) ∧ TSAME v a v2 a2) := by
  intro n ad ln v a L E hn hV hI
  obtain ⟨hB, hT, hS, hR, h19⟩ := hV
  refine ⟨_, B_lines  hB L E hI, fun r L2 E2 h => ?_⟩
  obtain ⟨v2, a2, hI2, f, rfl, hf, hB2, hx⟩ := h
  exact ⟨f, ad, ln, v2, a2, rfl, hI2, ⟨hB2, (hT.fr hf rfl rfl), (hS.fr hf rfl rfl), (hR.fr hf rfl), (by have q := hf.1 19 rfl; push_cast; omega)⟩, ⟨⟨trivial, ⟨hf.1 36 rfl, ⟨hf.1 36 rfl, hf.2 34 rfl, hf.2 35 rfl⟩, hf.1 42 rfl, hf.1 43 rfl, ⟨hf.1 41 rfl, hf.2 40 rfl⟩, ⟨hf.1 52 rfl, hf.2 51 rfl⟩, ⟨hf.1 60 rfl, hf.1 61 rfl, hf.2 58 rfl, hf.2 59 rfl⟩⟩⟩, ⟨hf.1 56 rfl, hf.1 31 rfl, hf.1 32 rfl, hf.1 33 rfl⟩, ⟨hf.1 3 rfl, hf.2 2 rfl⟩, ⟨hf.1 30 rfl, hf.2 29 rfl⟩, ⟨hf.1 4 rfl, hf.2 5 rfl, hf.2 6 rfl, hf.2 7 rfl, hf.2 10 rfl, hf.1 19 rfl, hf.2 18 rfl, hf.2 11 rfl, hf.2 8 rfl, hf.2 9 rfl, hf.2 12 rfl, hf.2 13 rfl, hf.2 14 rfl, hf.2 15 rfl, hf.2 16 rfl, hf.2 17 rfl⟩⟩⟩
theorem MO_pages {l : Launch} {G : GT} {mm : Nat} : ModelOp l G yX12_pages cX12_pages 1 (some .int) 2 [] mm 0 0 (fun v a v2 a2 f => (True ∧ (v2 36 = v 36 ∧ KSA v a v2 a2 ∧ v2 42 = v 42 ∧ v2 43 = v 43 ∧ (v2 41 = v 41 ∧ a2 40 = a 40) ∧ (v2 52 = v 52 ∧ a2 51 = a 51) ∧ (v2 60 = v 60 ∧ v2 61 = v 61 ∧ a2 58 = a 58 ∧ a2 59 = a 59))) ∧ (v2 56 = v 56 ∧ v2 31 = v 31 ∧ v2 32 = v 32 ∧ v2 33 = v 33) ∧ (v2 3 = v 3 ∧ a2 2 = a 2) ∧ (v2 30 = v 30 ∧ a2 29 = a 29) ∧ TSAME v a v2 a2) := by
  intro n ad ln v a L E hn hV hI
  obtain ⟨hB, hT, hS, hR, h19⟩ := hV
  refine ⟨_, M_pages  hB L E hI, fun r L2 E2 h => ?_⟩
  obtain ⟨v2, a2, hI2, f, rfl, hf, hB2, hx⟩ := h
  exact ⟨f, ad, ln, v2, a2, rfl, hI2, ⟨hB2, (hT.fr hf rfl rfl), (hS.fr hf rfl rfl), (hR.fr hf rfl), (by have q := hf.1 19 rfl; push_cast; omega)⟩, ⟨⟨trivial, ⟨hf.1 36 rfl, ⟨hf.1 36 rfl, hf.2 34 rfl, hf.2 35 rfl⟩, hf.1 42 rfl, hf.1 43 rfl, ⟨hf.1 41 rfl, hf.2 40 rfl⟩, ⟨hf.1 52 rfl, hf.2 51 rfl⟩, ⟨hf.1 60 rfl, hf.1 61 rfl, hf.2 58 rfl, hf.2 59 rfl⟩⟩⟩, ⟨hf.1 56 rfl, hf.1 31 rfl, hf.1 32 rfl, hf.1 33 rfl⟩, ⟨hf.1 3 rfl, hf.2 2 rfl⟩, ⟨hf.1 30 rfl, hf.2 29 rfl⟩, ⟨hf.1 4 rfl, hf.2 5 rfl, hf.2 6 rfl, hf.2 7 rfl, hf.2 10 rfl, hf.1 19 rfl, hf.2 18 rfl, hf.2 11 rfl, hf.2 8 rfl, hf.2 9 rfl, hf.2 12 rfl, hf.2 13 rfl, hf.2 14 rfl, hf.2 15 rfl, hf.2 16 rfl, hf.2 17 rfl⟩⟩⟩
theorem MO_length {l : Launch} {G : GT} {mm : Nat} {x1 : Int} (h_x1 : -2147483648 ≤ x1 ∧ x1 ≤ 2147483647) : ModelOp l G yX12_length cX12_length 2 (some .int) 2 [.int (iI x1)] mm 0 0 (fun v a v2 a2 f => (True ∧ (v2 36 = v 36 ∧ KSA v a v2 a2 ∧ v2 42 = v 42 ∧ v2 43 = v 43 ∧ (v2 41 = v 41 ∧ a2 40 = a 40) ∧ (v2 52 = v 52 ∧ a2 51 = a 51) ∧ (v2 60 = v 60 ∧ v2 61 = v 61 ∧ a2 58 = a 58 ∧ a2 59 = a 59))) ∧ (v2 56 = v 56 ∧ v2 31 = v 31 ∧ v2 32 = v 32 ∧ v2 33 = v 33) ∧ (v2 3 = v 3 ∧ a2 2 = a 2) ∧ (v2 30 = v 30 ∧ a2 29 = a 29) ∧ TSAME v a v2 a2) := by
  intro n ad ln v a L E hn hV hI
  obtain ⟨hB, hT, hS, hR, h19⟩ := hV
  refine ⟨_, B_length (l0 := x1) hB h_x1 L E hI, fun r L2 E2 h => ?_⟩
  obtain ⟨v2, a2, hI2, f, rfl, hf, hB2, hx⟩ := h
  exact ⟨f, ad, ln, v2, a2, rfl, hI2, ⟨hB2, (hT.fr hf rfl rfl), (hS.fr hf rfl rfl), (hR.fr hf rfl), (by have q := hf.1 19 rfl; push_cast; omega)⟩, ⟨⟨trivial, ⟨hf.1 36 rfl, ⟨hf.1 36 rfl, hf.2 34 rfl, hf.2 35 rfl⟩, hf.1 42 rfl, hf.1 43 rfl, ⟨hf.1 41 rfl, hf.2 40 rfl⟩, ⟨hf.1 52 rfl, hf.2 51 rfl⟩, ⟨hf.1 60 rfl, hf.1 61 rfl, hf.2 58 rfl, hf.2 59 rfl⟩⟩⟩, ⟨hf.1 56 rfl, hf.1 31 rfl, hf.1 32 rfl, hf.1 33 rfl⟩, ⟨hf.1 3 rfl, hf.2 2 rfl⟩, ⟨hf.1 30 rfl, hf.2 29 rfl⟩, ⟨hf.1 4 rfl, hf.2 5 rfl, hf.2 6 rfl, hf.2 7 rfl, hf.2 10 rfl, hf.1 19 rfl, hf.2 18 rfl, hf.2 11 rfl, hf.2 8 rfl, hf.2 9 rfl, hf.2 12 rfl, hf.2 13 rfl, hf.2 14 rfl, hf.2 15 rfl, hf.2 16 rfl, hf.2 17 rfl⟩⟩⟩
theorem MO_cell {l : Launch} {G : GT} {mm : Nat} {x1 : Int} {x2 : Int} (h_x1 : -2147483648 ≤ x1 ∧ x1 ≤ 2147483647) (h_x2 : -2147483648 ≤ x2 ∧ x2 ≤ 2147483647) : ModelOp l G yX12_cell cX12_cell 3 (some .int) 2 [.int (iI x1), .int (iI x2)] mm 0 0 (fun v a v2 a2 f => (True ∧ (v2 36 = v 36 ∧ KSA v a v2 a2 ∧ v2 42 = v 42 ∧ v2 43 = v 43 ∧ (v2 41 = v 41 ∧ a2 40 = a 40) ∧ (v2 52 = v 52 ∧ a2 51 = a 51) ∧ (v2 60 = v 60 ∧ v2 61 = v 61 ∧ a2 58 = a 58 ∧ a2 59 = a 59))) ∧ (v2 56 = v 56 ∧ v2 31 = v 31 ∧ v2 32 = v 32 ∧ v2 33 = v 33) ∧ (v2 3 = v 3 ∧ a2 2 = a 2) ∧ (v2 30 = v 30 ∧ a2 29 = a 29) ∧ TSAME v a v2 a2) := by
  intro n ad ln v a L E hn hV hI
  obtain ⟨hB, hT, hS, hR, h19⟩ := hV
  refine ⟨_, B_cell (l0 := x1) (i := x2) hB h_x1 h_x2 L E hI, fun r L2 E2 h => ?_⟩
  obtain ⟨v2, a2, hI2, f, rfl, hf, hB2, hx⟩ := h
  exact ⟨f, ad, ln, v2, a2, rfl, hI2, ⟨hB2, (hT.fr hf rfl rfl), (hS.fr hf rfl rfl), (hR.fr hf rfl), (by have q := hf.1 19 rfl; push_cast; omega)⟩, ⟨⟨trivial, ⟨hf.1 36 rfl, ⟨hf.1 36 rfl, hf.2 34 rfl, hf.2 35 rfl⟩, hf.1 42 rfl, hf.1 43 rfl, ⟨hf.1 41 rfl, hf.2 40 rfl⟩, ⟨hf.1 52 rfl, hf.2 51 rfl⟩, ⟨hf.1 60 rfl, hf.1 61 rfl, hf.2 58 rfl, hf.2 59 rfl⟩⟩⟩, ⟨hf.1 56 rfl, hf.1 31 rfl, hf.1 32 rfl, hf.1 33 rfl⟩, ⟨hf.1 3 rfl, hf.2 2 rfl⟩, ⟨hf.1 30 rfl, hf.2 29 rfl⟩, ⟨hf.1 4 rfl, hf.2 5 rfl, hf.2 6 rfl, hf.2 7 rfl, hf.2 10 rfl, hf.1 19 rfl, hf.2 18 rfl, hf.2 11 rfl, hf.2 8 rfl, hf.2 9 rfl, hf.2 12 rfl, hf.2 13 rfl, hf.2 14 rfl, hf.2 15 rfl, hf.2 16 rfl, hf.2 17 rfl⟩⟩⟩
theorem MO_page {l : Launch} {G : GT} {mm : Nat} {x1 : Int} {x2 : Int} {x3 : Int} (h_x1 : -2147483648 ≤ x1 ∧ x1 ≤ 2147483647) (h_x2 : -2147483648 ≤ x2 ∧ x2 ≤ 2147483647) (h_x3 : -2147483648 ≤ x3 ∧ x3 ≤ 2147483647) : ModelOp l G yX12_page cX12_page 5 (some .int) 3 [.int (iI x1), .int (iI x2), .int (iI x3)] mm 0 0 (fun v a v2 a2 f => (True ∧ (v2 36 = v 36 ∧ KSA v a v2 a2 ∧ v2 42 = v 42 ∧ v2 43 = v 43 ∧ (v2 41 = v 41 ∧ a2 40 = a 40) ∧ (v2 52 = v 52 ∧ a2 51 = a 51) ∧ (v2 60 = v 60 ∧ v2 61 = v 61 ∧ a2 58 = a 58 ∧ a2 59 = a 59))) ∧ (v2 56 = v 56 ∧ v2 31 = v 31 ∧ v2 32 = v 32 ∧ v2 33 = v 33) ∧ (v2 3 = v 3 ∧ a2 2 = a 2) ∧ (v2 30 = v 30 ∧ a2 29 = a 29) ∧ TSAME v a v2 a2) := by
  intro n ad ln v a L E hn hV hI
  obtain ⟨hB, hT, hS, hR, h19⟩ := hV
  refine ⟨_, M_page (q := x1) (w1 := x2) (i := x3) hB h_x1 h_x2 h_x3 L E hI, fun r L2 E2 h => ?_⟩
  obtain ⟨v2, a2, hI2, f, rfl, hf, hB2, hx⟩ := h
  exact ⟨f, ad, ln, v2, a2, rfl, hI2, ⟨hB2, (hT.fr hf rfl rfl), (hS.fr hf rfl rfl), (hR.fr hf rfl), (by have q := hf.1 19 rfl; push_cast; omega)⟩, ⟨⟨trivial, ⟨hf.1 36 rfl, ⟨hf.1 36 rfl, hf.2 34 rfl, hf.2 35 rfl⟩, hf.1 42 rfl, hf.1 43 rfl, ⟨hf.1 41 rfl, hf.2 40 rfl⟩, ⟨hf.1 52 rfl, hf.2 51 rfl⟩, ⟨hf.1 60 rfl, hf.1 61 rfl, hf.2 58 rfl, hf.2 59 rfl⟩⟩⟩, ⟨hf.1 56 rfl, hf.1 31 rfl, hf.1 32 rfl, hf.1 33 rfl⟩, ⟨hf.1 3 rfl, hf.2 2 rfl⟩, ⟨hf.1 30 rfl, hf.2 29 rfl⟩, ⟨hf.1 4 rfl, hf.2 5 rfl, hf.2 6 rfl, hf.2 7 rfl, hf.2 10 rfl, hf.1 19 rfl, hf.2 18 rfl, hf.2 11 rfl, hf.2 8 rfl, hf.2 9 rfl, hf.2 12 rfl, hf.2 13 rfl, hf.2 14 rfl, hf.2 15 rfl, hf.2 16 rfl, hf.2 17 rfl⟩⟩⟩
theorem MO_copied {l : Launch} {G : GT} {mm : Nat} : ModelOp l G yX12_copied cX12_copied 1 (some .int) 0 [] mm 0 0 (fun v a v2 a2 f => (True ∧ (v2 36 = v 36 ∧ KSA v a v2 a2 ∧ v2 42 = v 42 ∧ v2 43 = v 43 ∧ (v2 41 = v 41 ∧ a2 40 = a 40) ∧ (v2 52 = v 52 ∧ a2 51 = a 51) ∧ (v2 60 = v 60 ∧ v2 61 = v 61 ∧ a2 58 = a 58 ∧ a2 59 = a 59))) ∧ (v2 56 = v 56 ∧ v2 31 = v 31 ∧ v2 32 = v 32 ∧ v2 33 = v 33) ∧ (v2 3 = v 3 ∧ a2 2 = a 2) ∧ (v2 30 = v 30 ∧ a2 29 = a 29) ∧ TSAME v a v2 a2) := by
  intro n ad ln v a L E hn hV hI
  obtain ⟨hB, hT, hS, hR, h19⟩ := hV
  refine ⟨_, B_copied  hB L E hI, fun r L2 E2 h => ?_⟩
  obtain ⟨v2, a2, hI2, f, rfl, hf, hB2, hx⟩ := h
  exact ⟨f, ad, ln, v2, a2, rfl, hI2, ⟨hB2, (hT.fr hf rfl rfl), (hS.fr hf rfl rfl), (hR.fr hf rfl), (by have q := hf.1 19 rfl; push_cast; omega)⟩, ⟨⟨trivial, ⟨hf.1 36 rfl, ⟨hf.1 36 rfl, hf.2 34 rfl, hf.2 35 rfl⟩, hf.1 42 rfl, hf.1 43 rfl, ⟨hf.1 41 rfl, hf.2 40 rfl⟩, ⟨hf.1 52 rfl, hf.2 51 rfl⟩, ⟨hf.1 60 rfl, hf.1 61 rfl, hf.2 58 rfl, hf.2 59 rfl⟩⟩⟩, ⟨hf.1 56 rfl, hf.1 31 rfl, hf.1 32 rfl, hf.1 33 rfl⟩, ⟨hf.1 3 rfl, hf.2 2 rfl⟩, ⟨hf.1 30 rfl, hf.2 29 rfl⟩, ⟨hf.1 4 rfl, hf.2 5 rfl, hf.2 6 rfl, hf.2 7 rfl, hf.2 10 rfl, hf.1 19 rfl, hf.2 18 rfl, hf.2 11 rfl, hf.2 8 rfl, hf.2 9 rfl, hf.2 12 rfl, hf.2 13 rfl, hf.2 14 rfl, hf.2 15 rfl, hf.2 16 rfl, hf.2 17 rfl⟩⟩⟩
theorem MO_closed {l : Launch} {G : GT} {mm : Nat} : ModelOp l G yX12_closed cX12_closed 1 (some .int) 0 [] mm 0 0 (fun v a v2 a2 f => (True ∧ (v2 36 = v 36 ∧ KSA v a v2 a2 ∧ v2 42 = v 42 ∧ v2 43 = v 43 ∧ (v2 41 = v 41 ∧ a2 40 = a 40) ∧ (v2 52 = v 52 ∧ a2 51 = a 51) ∧ (v2 60 = v 60 ∧ v2 61 = v 61 ∧ a2 58 = a 58 ∧ a2 59 = a 59))) ∧ (v2 56 = v 56 ∧ v2 31 = v 31 ∧ v2 32 = v 32 ∧ v2 33 = v 33) ∧ (v2 3 = v 3 ∧ a2 2 = a 2) ∧ (v2 30 = v 30 ∧ a2 29 = a 29) ∧ TSAME v a v2 a2) := by
  intro n ad ln v a L E hn hV hI
  obtain ⟨hB, hT, hS, hR, h19⟩ := hV
  refine ⟨_, B_closed  hB L E hI, fun r L2 E2 h => ?_⟩
  obtain ⟨v2, a2, hI2, f, rfl, hf, hB2, hx⟩ := h
  exact ⟨f, ad, ln, v2, a2, rfl, hI2, ⟨hB2, (hT.fr hf rfl rfl), (hS.fr hf rfl rfl), (hR.fr hf rfl), (by have q := hf.1 19 rfl; push_cast; omega)⟩, ⟨⟨trivial, ⟨hf.1 36 rfl, ⟨hf.1 36 rfl, hf.2 34 rfl, hf.2 35 rfl⟩, hf.1 42 rfl, hf.1 43 rfl, ⟨hf.1 41 rfl, hf.2 40 rfl⟩, ⟨hf.1 52 rfl, hf.2 51 rfl⟩, ⟨hf.1 60 rfl, hf.1 61 rfl, hf.2 58 rfl, hf.2 59 rfl⟩⟩⟩, ⟨hf.1 56 rfl, hf.1 31 rfl, hf.1 32 rfl, hf.1 33 rfl⟩, ⟨hf.1 3 rfl, hf.2 2 rfl⟩, ⟨hf.1 30 rfl, hf.2 29 rfl⟩, ⟨hf.1 4 rfl, hf.2 5 rfl, hf.2 6 rfl, hf.2 7 rfl, hf.2 10 rfl, hf.1 19 rfl, hf.2 18 rfl, hf.2 11 rfl, hf.2 8 rfl, hf.2 9 rfl, hf.2 12 rfl, hf.2 13 rfl, hf.2 14 rfl, hf.2 15 rfl, hf.2 16 rfl, hf.2 17 rfl⟩⟩⟩
theorem MO_letter {l : Launch} {G : GT} {mm : Nat} {x1 : Int} (h_x1 : -2147483648 ≤ x1 ∧ x1 ≤ 2147483647) : ModelOp l G yX12_letter cX12_letter 2 (some .int) 2 [.int (iI x1)] mm 0 0 (fun v a v2 a2 f => (True ∧ (v2 36 = v 36 ∧ KSA v a v2 a2 ∧ v2 42 = v 42 ∧ v2 43 = v 43 ∧ (v2 41 = v 41 ∧ a2 40 = a 40) ∧ (v2 52 = v 52 ∧ a2 51 = a 51) ∧ (v2 60 = v 60 ∧ v2 61 = v 61 ∧ a2 58 = a 58 ∧ a2 59 = a 59))) ∧ (v2 56 = v 56 ∧ v2 31 = v 31 ∧ v2 32 = v 32 ∧ v2 33 = v 33) ∧ (v2 3 = v 3 ∧ a2 2 = a 2) ∧ (v2 30 = v 30 ∧ a2 29 = a 29) ∧ TSAME v a v2 a2) := by
  intro n ad ln v a L E hn hV hI
  obtain ⟨hB, hT, hS, hR, h19⟩ := hV
  refine ⟨_, B_letter (i := x1) hB h_x1 L E hI, fun r L2 E2 h => ?_⟩
  obtain ⟨v2, a2, hI2, f, rfl, hf, hB2, hx⟩ := h
  exact ⟨f, ad, ln, v2, a2, rfl, hI2, ⟨hB2, (hT.fr hf rfl rfl), (hS.fr hf rfl rfl), (hR.fr hf rfl), (by have q := hf.1 19 rfl; push_cast; omega)⟩, ⟨⟨trivial, ⟨hf.1 36 rfl, ⟨hf.1 36 rfl, hf.2 34 rfl, hf.2 35 rfl⟩, hf.1 42 rfl, hf.1 43 rfl, ⟨hf.1 41 rfl, hf.2 40 rfl⟩, ⟨hf.1 52 rfl, hf.2 51 rfl⟩, ⟨hf.1 60 rfl, hf.1 61 rfl, hf.2 58 rfl, hf.2 59 rfl⟩⟩⟩, ⟨hf.1 56 rfl, hf.1 31 rfl, hf.1 32 rfl, hf.1 33 rfl⟩, ⟨hf.1 3 rfl, hf.2 2 rfl⟩, ⟨hf.1 30 rfl, hf.2 29 rfl⟩, ⟨hf.1 4 rfl, hf.2 5 rfl, hf.2 6 rfl, hf.2 7 rfl, hf.2 10 rfl, hf.1 19 rfl, hf.2 18 rfl, hf.2 11 rfl, hf.2 8 rfl, hf.2 9 rfl, hf.2 12 rfl, hf.2 13 rfl, hf.2 14 rfl, hf.2 15 rfl, hf.2 16 rfl, hf.2 17 rfl⟩⟩⟩
theorem MO_failed {l : Launch} {G : GT} {mm : Nat} {x1 : Int} {x2 : Int} (h_x1 : -2147483648 ≤ x1 ∧ x1 ≤ 2147483647) (h_x2 : x2 = 0 ∨ x2 = 1) : ModelOp l G yX12_failed cX12_failed 3 (some .int) 1 [.int (iI x1), .int (iI x2)] mm 0 0 (fun v a v2 a2 f => (True ∧ (v2 36 = v 36 ∧ KSA v a v2 a2 ∧ v2 42 = v 42 ∧ v2 43 = v 43 ∧ (v2 41 = v 41 ∧ a2 40 = a 40) ∧ (v2 52 = v 52 ∧ a2 51 = a 51) ∧ (v2 60 = v 60 ∧ v2 61 = v 61 ∧ a2 58 = a 58 ∧ a2 59 = a 59))) ∧ ((((x1 < 0 ∨ 7 < x1) ∧ f = -1 ∧ v2 56 = v 56) ∨ (0 ≤ x1 ∧ x1 ≤ 7 ∧ iI (v2 56) = fdv (iI (v 56)) x1 x2 ∧ iI f = bcn (iI (v2 56)))) ∧ v2 31 = v 31 ∧ v2 32 = v 32 ∧ v2 33 = v 33) ∧ (v2 3 = v 3 ∧ a2 2 = a 2) ∧ (v2 30 = v 30 ∧ a2 29 = a 29) ∧ TSAME v a v2 a2) := by
  intro n ad ln v a L E hn hV hI
  obtain ⟨hB, hT, hS, hR, h19⟩ := hV
  refine ⟨_, N_failed (x := x1) (g := x2) hB h_x1 h_x2 L E hI, fun r L2 E2 h => ?_⟩
  obtain ⟨v2, a2, hI2, f, rfl, hf, hB2, hx⟩ := h
  exact ⟨f, ad, ln, v2, a2, rfl, hI2, ⟨hB2, (hT.fr hf rfl rfl), (hS.fr hf rfl rfl), (hR.fr hf rfl), (by have q := hf.1 19 rfl; push_cast; omega)⟩, ⟨⟨trivial, ⟨hf.1 36 rfl, ⟨hf.1 36 rfl, hf.2 34 rfl, hf.2 35 rfl⟩, hf.1 42 rfl, hf.1 43 rfl, ⟨hf.1 41 rfl, hf.2 40 rfl⟩, ⟨hf.1 52 rfl, hf.2 51 rfl⟩, ⟨hf.1 60 rfl, hf.1 61 rfl, hf.2 58 rfl, hf.2 59 rfl⟩⟩⟩, ⟨hx, hf.1 31 rfl, hf.1 32 rfl, hf.1 33 rfl⟩, ⟨hf.1 3 rfl, hf.2 2 rfl⟩, ⟨hf.1 30 rfl, hf.2 29 rfl⟩, ⟨hf.1 4 rfl, hf.2 5 rfl, hf.2 6 rfl, hf.2 7 rfl, hf.2 10 rfl, hf.1 19 rfl, hf.2 18 rfl, hf.2 11 rfl, hf.2 8 rfl, hf.2 9 rfl, hf.2 12 rfl, hf.2 13 rfl, hf.2 14 rfl, hf.2 15 rfl, hf.2 16 rfl, hf.2 17 rfl⟩⟩⟩
theorem MO_readings {l : Launch} {G : GT} {mm : Nat} {x1 : Int} {x2 : Int} {x3 : Int} (h_x1 : -2147483648 ≤ x1 ∧ x1 ≤ 2147483647) (h_x2 : -2147483648 ≤ x2 ∧ x2 ≤ 2147483647) (h_x3 : -2147483648 ≤ x3 ∧ x3 ≤ 2147483647) : ModelOp l G yX12_readings cX12_readings 5 (some .int) 105 [.int (iI x1), .int (iI x2), .int (iI x3)] mm 0 0 (fun v a v2 a2 f => (True ∧ (v2 36 = v 36 ∧ KSA v a v2 a2 ∧ v2 42 = v 42 ∧ v2 43 = v 43 ∧ (v2 41 = v 41 ∧ a2 40 = a 40) ∧ (v2 52 = v 52 ∧ a2 51 = a 51) ∧ True)) ∧ (v2 56 = v 56 ∧ v2 31 = v 31 ∧ v2 32 = v 32 ∧ v2 33 = v 33) ∧ (v2 3 = v 3 ∧ a2 2 = a 2) ∧ (v2 30 = v 30 ∧ a2 29 = a 29) ∧ TSAME v a v2 a2) := by
  intro n ad ln v a L E hn hV hI
  obtain ⟨hB, hT, hS, hR, h19⟩ := hV
  refine ⟨_, N_readings (t := x1) (l0 := x2) (n1 := x3) hB hT hR h_x1 h_x2 h_x3 L E hI, fun r L2 E2 h => ?_⟩
  obtain ⟨v2, a2, hI2, f, rfl, hf, hB2, hx⟩ := h
  exact ⟨f, ad, ln, v2, a2, rfl, hI2, ⟨hB2, (hT.fr hf rfl rfl), (hS.fr hf rfl rfl), hx, (by have q := hf.1 19 rfl; push_cast; omega)⟩, ⟨⟨trivial, ⟨hf.1 36 rfl, ⟨hf.1 36 rfl, hf.2 34 rfl, hf.2 35 rfl⟩, hf.1 42 rfl, hf.1 43 rfl, ⟨hf.1 41 rfl, hf.2 40 rfl⟩, ⟨hf.1 52 rfl, hf.2 51 rfl⟩, trivial⟩⟩, ⟨hf.1 56 rfl, hf.1 31 rfl, hf.1 32 rfl, hf.1 33 rfl⟩, ⟨hf.1 3 rfl, hf.2 2 rfl⟩, ⟨hf.1 30 rfl, hf.2 29 rfl⟩, ⟨hf.1 4 rfl, hf.2 5 rfl, hf.2 6 rfl, hf.2 7 rfl, hf.2 10 rfl, hf.1 19 rfl, hf.2 18 rfl, hf.2 11 rfl, hf.2 8 rfl, hf.2 9 rfl, hf.2 12 rfl, hf.2 13 rfl, hf.2 14 rfl, hf.2 15 rfl, hf.2 16 rfl, hf.2 17 rfl⟩⟩⟩
theorem MO_more {l : Launch} {G : GT} {mm : Nat} : ModelOp l G yX12_more cX12_more 1 (some .int) 0 [] mm 0 0 (fun v a v2 a2 f => (True ∧ (v2 36 = v 36 ∧ KSA v a v2 a2 ∧ v2 42 = v 42 ∧ v2 43 = v 43 ∧ (v2 41 = v 41 ∧ a2 40 = a 40) ∧ (v2 52 = v 52 ∧ a2 51 = a 51) ∧ (v2 60 = v 60 ∧ v2 61 = v 61 ∧ a2 58 = a 58 ∧ a2 59 = a 59))) ∧ (v2 56 = v 56 ∧ v2 31 = v 31 ∧ v2 32 = v 32 ∧ v2 33 = v 33) ∧ (v2 3 = v 3 ∧ a2 2 = a 2) ∧ (v2 30 = v 30 ∧ a2 29 = a 29) ∧ TSAME v a v2 a2) := by
  intro n ad ln v a L E hn hV hI
  obtain ⟨hB, hT, hS, hR, h19⟩ := hV
  refine ⟨_, B_more  hB L E hI, fun r L2 E2 h => ?_⟩
  obtain ⟨v2, a2, hI2, f, rfl, hf, hB2, hx⟩ := h
  exact ⟨f, ad, ln, v2, a2, rfl, hI2, ⟨hB2, (hT.fr hf rfl rfl), (hS.fr hf rfl rfl), (hR.fr hf rfl), (by have q := hf.1 19 rfl; push_cast; omega)⟩, ⟨⟨trivial, ⟨hf.1 36 rfl, ⟨hf.1 36 rfl, hf.2 34 rfl, hf.2 35 rfl⟩, hf.1 42 rfl, hf.1 43 rfl, ⟨hf.1 41 rfl, hf.2 40 rfl⟩, ⟨hf.1 52 rfl, hf.2 51 rfl⟩, ⟨hf.1 60 rfl, hf.1 61 rfl, hf.2 58 rfl, hf.2 59 rfl⟩⟩⟩, ⟨hf.1 56 rfl, hf.1 31 rfl, hf.1 32 rfl, hf.1 33 rfl⟩, ⟨hf.1 3 rfl, hf.2 2 rfl⟩, ⟨hf.1 30 rfl, hf.2 29 rfl⟩, ⟨hf.1 4 rfl, hf.2 5 rfl, hf.2 6 rfl, hf.2 7 rfl, hf.2 10 rfl, hf.1 19 rfl, hf.2 18 rfl, hf.2 11 rfl, hf.2 8 rfl, hf.2 9 rfl, hf.2 12 rfl, hf.2 13 rfl, hf.2 14 rfl, hf.2 15 rfl, hf.2 16 rfl, hf.2 17 rfl⟩⟩⟩
theorem MO_reading {l : Launch} {G : GT} {mm : Nat} {x1 : Int} {x2 : Int} (h_x1 : -2147483648 ≤ x1 ∧ x1 ≤ 2147483647) (h_x2 : -2147483648 ≤ x2 ∧ x2 ≤ 2147483647) : ModelOp l G yX12_reading cX12_reading 3 (some .int) 2 [.int (iI x1), .int (iI x2)] mm 0 0 (fun v a v2 a2 f => (True ∧ (v2 36 = v 36 ∧ KSA v a v2 a2 ∧ v2 42 = v 42 ∧ v2 43 = v 43 ∧ (v2 41 = v 41 ∧ a2 40 = a 40) ∧ (v2 52 = v 52 ∧ a2 51 = a 51) ∧ (v2 60 = v 60 ∧ v2 61 = v 61 ∧ a2 58 = a 58 ∧ a2 59 = a 59))) ∧ (v2 56 = v 56 ∧ v2 31 = v 31 ∧ v2 32 = v 32 ∧ v2 33 = v 33) ∧ (v2 3 = v 3 ∧ a2 2 = a 2) ∧ (v2 30 = v 30 ∧ a2 29 = a 29) ∧ TSAME v a v2 a2) := by
  intro n ad ln v a L E hn hV hI
  obtain ⟨hB, hT, hS, hR, h19⟩ := hV
  refine ⟨_, B_reading (k := x1) (i := x2) hB h_x1 h_x2 L E hI, fun r L2 E2 h => ?_⟩
  obtain ⟨v2, a2, hI2, f, rfl, hf, hB2, hx⟩ := h
  exact ⟨f, ad, ln, v2, a2, rfl, hI2, ⟨hB2, (hT.fr hf rfl rfl), (hS.fr hf rfl rfl), (hR.fr hf rfl), (by have q := hf.1 19 rfl; push_cast; omega)⟩, ⟨⟨trivial, ⟨hf.1 36 rfl, ⟨hf.1 36 rfl, hf.2 34 rfl, hf.2 35 rfl⟩, hf.1 42 rfl, hf.1 43 rfl, ⟨hf.1 41 rfl, hf.2 40 rfl⟩, ⟨hf.1 52 rfl, hf.2 51 rfl⟩, ⟨hf.1 60 rfl, hf.1 61 rfl, hf.2 58 rfl, hf.2 59 rfl⟩⟩⟩, ⟨hf.1 56 rfl, hf.1 31 rfl, hf.1 32 rfl, hf.1 33 rfl⟩, ⟨hf.1 3 rfl, hf.2 2 rfl⟩, ⟨hf.1 30 rfl, hf.2 29 rfl⟩, ⟨hf.1 4 rfl, hf.2 5 rfl, hf.2 6 rfl, hf.2 7 rfl, hf.2 10 rfl, hf.1 19 rfl, hf.2 18 rfl, hf.2 11 rfl, hf.2 8 rfl, hf.2 9 rfl, hf.2 12 rfl, hf.2 13 rfl, hf.2 14 rfl, hf.2 15 rfl, hf.2 16 rfl, hf.2 17 rfl⟩⟩⟩
theorem MO_judge {l : Launch} {G : GT} {mm : Nat} {x1 : Int} (h_x1 : -2147483648 ≤ x1 ∧ x1 ≤ 2147483647) : ModelOp l G yX12_judge cX12_judge 3 (some .int) 36 [.int (iI x1)] mm 0 0 (fun v a v2 a2 f => (True ∧ (v2 36 = v 36 ∧ KSA v a v2 a2 ∧ v2 42 = v 42 ∧ v2 43 = v 43 ∧ (v2 41 = v 41 ∧ a2 40 = a 40) ∧ (v2 52 = v 52 ∧ a2 51 = a 51) ∧ (v2 60 = v 60 ∧ v2 61 = v 61 ∧ a2 58 = a 58 ∧ a2 59 = a 59))) ∧ (v2 56 = v 56 ∧ v2 31 = v 31 ∧ v2 32 = v 32 ∧ v2 33 = v 33) ∧ (v2 3 = v 3 ∧ a2 2 = a 2) ∧ (v2 30 = v 30 ∧ a2 29 = a 29) ∧ TSAME v a v2 a2) := by
  intro n ad ln v a L E hn hV hI
  obtain ⟨hB, hT, hS, hR, h19⟩ := hV
  refine ⟨_, N_judge (t := x1) hB hT hR h_x1 L E hI, fun r L2 E2 h => ?_⟩
  obtain ⟨v2, a2, hI2, f, rfl, hf, hB2, hx⟩ := h
  exact ⟨f, ad, ln, v2, a2, rfl, hI2, ⟨hB2, (hT.fr hf rfl rfl), (hS.fr hf rfl rfl), hx, (by have q := hf.1 19 rfl; push_cast; omega)⟩, ⟨⟨trivial, ⟨hf.1 36 rfl, ⟨hf.1 36 rfl, hf.2 34 rfl, hf.2 35 rfl⟩, hf.1 42 rfl, hf.1 43 rfl, ⟨hf.1 41 rfl, hf.2 40 rfl⟩, ⟨hf.1 52 rfl, hf.2 51 rfl⟩, ⟨hf.1 60 rfl, hf.1 61 rfl, hf.2 58 rfl, hf.2 59 rfl⟩⟩⟩, ⟨hf.1 56 rfl, hf.1 31 rfl, hf.1 32 rfl, hf.1 33 rfl⟩, ⟨hf.1 3 rfl, hf.2 2 rfl⟩, ⟨hf.1 30 rfl, hf.2 29 rfl⟩, ⟨hf.1 4 rfl, hf.2 5 rfl, hf.2 6 rfl, hf.2 7 rfl, hf.2 10 rfl, hf.1 19 rfl, hf.2 18 rfl, hf.2 11 rfl, hf.2 8 rfl, hf.2 9 rfl, hf.2 12 rfl, hf.2 13 rfl, hf.2 14 rfl, hf.2 15 rfl, hf.2 16 rfl, hf.2 17 rfl⟩⟩⟩
theorem MO_parts {l : Launch} {G : GT} {mm : Nat} {x1 : Int} {x2 : Int} {x3 : Int} (h_x1 : -2147483648 ≤ x1 ∧ x1 ≤ 2147483647) (h_x2 : -2147483648 ≤ x2 ∧ x2 ≤ 2147483647) (h_x3 : -2147483648 ≤ x3 ∧ x3 ≤ 2147483647) : ModelOp l G yX12_parts cX12_parts 5 (some .int) 36 [.int (iI x1), .int (iI x2), .int (iI x3)] mm 0 0 (fun v a v2 a2 f => (True ∧ (v2 36 = v 36 ∧ KSA v a v2 a2 ∧ v2 42 = v 42 ∧ v2 43 = v 43 ∧ (v2 41 = v 41 ∧ a2 40 = a 40) ∧ (v2 52 = v 52 ∧ a2 51 = a 51) ∧ (v2 60 = v 60 ∧ v2 61 = v 61 ∧ a2 58 = a 58 ∧ a2 59 = a 59))) ∧ (v2 56 = v 56 ∧ v2 31 = v 31 ∧ v2 32 = v 32 ∧ v2 33 = v 33) ∧ (v2 3 = v 3 ∧ a2 2 = a 2) ∧ (v2 30 = v 30 ∧ a2 29 = a 29) ∧ TSAME v a v2 a2) := by
  intro n ad ln v a L E hn hV hI
  obtain ⟨hB, hT, hS, hR, h19⟩ := hV
  refine ⟨_, N_parts (t := x1) (x := x2) (y := x3) hB hT hR h_x1 h_x2 h_x3 L E hI, fun r L2 E2 h => ?_⟩
  obtain ⟨v2, a2, hI2, f, rfl, hf, hB2, hx⟩ := h
  exact ⟨f, ad, ln, v2, a2, rfl, hI2, ⟨hB2, (hT.fr hf rfl rfl), (hS.fr hf rfl rfl), hx, (by have q := hf.1 19 rfl; push_cast; omega)⟩, ⟨⟨trivial, ⟨hf.1 36 rfl, ⟨hf.1 36 rfl, hf.2 34 rfl, hf.2 35 rfl⟩, hf.1 42 rfl, hf.1 43 rfl, ⟨hf.1 41 rfl, hf.2 40 rfl⟩, ⟨hf.1 52 rfl, hf.2 51 rfl⟩, ⟨hf.1 60 rfl, hf.1 61 rfl, hf.2 58 rfl, hf.2 59 rfl⟩⟩⟩, ⟨hf.1 56 rfl, hf.1 31 rfl, hf.1 32 rfl, hf.1 33 rfl⟩, ⟨hf.1 3 rfl, hf.2 2 rfl⟩, ⟨hf.1 30 rfl, hf.2 29 rfl⟩, ⟨hf.1 4 rfl, hf.2 5 rfl, hf.2 6 rfl, hf.2 7 rfl, hf.2 10 rfl, hf.1 19 rfl, hf.2 18 rfl, hf.2 11 rfl, hf.2 8 rfl, hf.2 9 rfl, hf.2 12 rfl, hf.2 13 rfl, hf.2 14 rfl, hf.2 15 rfl, hf.2 16 rfl, hf.2 17 rfl⟩⟩⟩
theorem MO_unreadable {l : Launch} {G : GT} {mm : Nat} {x1 : Int} {x2 : Int} {x3 : Int} (h_x1 : -2147483648 ≤ x1 ∧ x1 ≤ 2147483647) (h_x2 : -2147483648 ≤ x2 ∧ x2 ≤ 2147483647) (h_x3 : -2147483648 ≤ x3 ∧ x3 ≤ 2147483647) : ModelOp l G yX12_unreadable cX12_unreadable 9 (some .int) 67 [.int (iI x1), .int (iI x2), .int (iI x3)] mm 2 262 (fun v a v2 a2 f => (True ∧ (v2 36 = v 36 ∧ KSA v a v2 a2 ∧ v2 42 = v 42 ∧ v2 43 = v 43 ∧ (v2 41 = v 41 ∧ a2 40 = a 40) ∧ True ∧ (v2 60 = v 60 ∧ v2 61 = v 61 ∧ a2 58 = a 58 ∧ a2 59 = a 59))) ∧ (v2 56 = v 56 ∧ v2 31 = v 31 ∧ v2 32 = v 32 ∧ v2 33 = v 33) ∧ (v2 3 = v 3 ∧ a2 2 = a 2) ∧ (v2 30 = v 30 ∧ a2 29 = a 29) ∧ TSAME v a v2 a2) := by
  intro n ad ln v a L E hn hV hI
  obtain ⟨hB, hT, hS, hR, h19⟩ := hV
  refine ⟨_, N_unreadable (t := x1) (n1 := x2) (m1 := x3) hB hT hR h_x1 h_x2 h_x3 L E hI, fun r L2 E2 h => ?_⟩
  obtain ⟨v2, a2, hI2, f, rfl, hf, hB2, hx⟩ := h
  exact ⟨f, ad, ln, v2, a2, rfl, hI2, ⟨hB2, (hT.fr hf rfl rfl), (hS.fr hf rfl rfl), hx, (by have q := hf.1 19 rfl; push_cast; omega)⟩, ⟨⟨trivial, ⟨hf.1 36 rfl, ⟨hf.1 36 rfl, hf.2 34 rfl, hf.2 35 rfl⟩, hf.1 42 rfl, hf.1 43 rfl, ⟨hf.1 41 rfl, hf.2 40 rfl⟩, trivial, ⟨hf.1 60 rfl, hf.1 61 rfl, hf.2 58 rfl, hf.2 59 rfl⟩⟩⟩, ⟨hf.1 56 rfl, hf.1 31 rfl, hf.1 32 rfl, hf.1 33 rfl⟩, ⟨hf.1 3 rfl, hf.2 2 rfl⟩, ⟨hf.1 30 rfl, hf.2 29 rfl⟩, ⟨hf.1 4 rfl, hf.2 5 rfl, hf.2 6 rfl, hf.2 7 rfl, hf.2 10 rfl, hf.1 19 rfl, hf.2 18 rfl, hf.2 11 rfl, hf.2 8 rfl, hf.2 9 rfl, hf.2 12 rfl, hf.2 13 rfl, hf.2 14 rfl, hf.2 15 rfl, hf.2 16 rfl, hf.2 17 rfl⟩⟩⟩
theorem MO_saved {l : Launch} {G : GT} {mm : Nat} {x1 : Int} {x2 : Int} (h_x1 : -2147483648 ≤ x1 ∧ x1 ≤ 2147483647) (h_x2 : -2147483648 ≤ x2 ∧ x2 ≤ 2147483647) : ModelOp l G yX12_saved cX12_saved 8 (some .int) 66 [.int (iI x1), .int (iI x2)] mm 0 0 (fun v a v2 a2 f => (True ∧ (v2 36 = v 36 ∧ KSA v a v2 a2 ∧ v2 42 = v 42 ∧ v2 43 = v 43 ∧ (v2 41 = v 41 ∧ a2 40 = a 40) ∧ (v2 52 = v 52 ∧ a2 51 = a 51) ∧ (v2 60 = v 60 ∧ v2 61 = v 61 ∧ a2 58 = a 58 ∧ a2 59 = a 59))) ∧ (v2 56 = v 56 ∧ v2 31 = v 31 ∧ v2 32 = v 32 ∧ v2 33 = v 33) ∧ (v2 3 = v 3 ∧ a2 2 = a 2) ∧ (v2 30 = v 30 ∧ a2 29 = a 29) ∧ TSAME v a v2 a2) := by
  intro n ad ln v a L E hn hV hI
  obtain ⟨hB, hT, hS, hR, h19⟩ := hV
  refine ⟨_, M_saved (x1 := x1) (y1 := x2) hB hT h_x1 h_x2 L E hI, fun r L2 E2 h => ?_⟩
  obtain ⟨v2, a2, hI2, f, rfl, hf, hB2, hx⟩ := h
  exact ⟨f, ad, ln, v2, a2, rfl, hI2, ⟨hB2, (hT.fr hf rfl rfl), (hS.fr hf rfl rfl), (hR.fr hf rfl), (by have q := hf.1 19 rfl; push_cast; omega)⟩, ⟨⟨trivial, ⟨hf.1 36 rfl, ⟨hf.1 36 rfl, hf.2 34 rfl, hf.2 35 rfl⟩, hf.1 42 rfl, hf.1 43 rfl, ⟨hf.1 41 rfl, hf.2 40 rfl⟩, ⟨hf.1 52 rfl, hf.2 51 rfl⟩, ⟨hf.1 60 rfl, hf.1 61 rfl, hf.2 58 rfl, hf.2 59 rfl⟩⟩⟩, ⟨hf.1 56 rfl, hf.1 31 rfl, hf.1 32 rfl, hf.1 33 rfl⟩, ⟨hf.1 3 rfl, hf.2 2 rfl⟩, ⟨hf.1 30 rfl, hf.2 29 rfl⟩, ⟨hf.1 4 rfl, hf.2 5 rfl, hf.2 6 rfl, hf.2 7 rfl, hf.2 10 rfl, hf.1 19 rfl, hf.2 18 rfl, hf.2 11 rfl, hf.2 8 rfl, hf.2 9 rfl, hf.2 12 rfl, hf.2 13 rfl, hf.2 14 rfl, hf.2 15 rfl, hf.2 16 rfl, hf.2 17 rfl⟩⟩⟩
theorem MO_place {l : Launch} {G : GT} {mm : Nat} : ModelOp l G yX12_place cX12_place 1 (some .int) 0 [] mm 0 0 (fun v a v2 a2 f => (True ∧ (v2 36 = v 36 ∧ KSA v a v2 a2 ∧ v2 42 = v 42 ∧ v2 43 = v 43 ∧ (v2 41 = v 41 ∧ a2 40 = a 40) ∧ (v2 52 = v 52 ∧ a2 51 = a 51) ∧ (v2 60 = v 60 ∧ v2 61 = v 61 ∧ a2 58 = a 58 ∧ a2 59 = a 59))) ∧ (v2 56 = v 56 ∧ v2 31 = v 31 ∧ v2 32 = v 32 ∧ v2 33 = v 33) ∧ (v2 3 = v 3 ∧ a2 2 = a 2) ∧ (v2 30 = v 30 ∧ a2 29 = a 29) ∧ TSAME v a v2 a2) := by
  intro n ad ln v a L E hn hV hI
  obtain ⟨hB, hT, hS, hR, h19⟩ := hV
  refine ⟨_, B_place  hB L E hI, fun r L2 E2 h => ?_⟩
  obtain ⟨v2, a2, hI2, f, rfl, hf, hB2, hx⟩ := h
  exact ⟨f, ad, ln, v2, a2, rfl, hI2, ⟨hB2, (hT.fr hf rfl rfl), (hS.fr hf rfl rfl), (hR.fr hf rfl), (by have q := hf.1 19 rfl; push_cast; omega)⟩, ⟨⟨trivial, ⟨hf.1 36 rfl, ⟨hf.1 36 rfl, hf.2 34 rfl, hf.2 35 rfl⟩, hf.1 42 rfl, hf.1 43 rfl, ⟨hf.1 41 rfl, hf.2 40 rfl⟩, ⟨hf.1 52 rfl, hf.2 51 rfl⟩, ⟨hf.1 60 rfl, hf.1 61 rfl, hf.2 58 rfl, hf.2 59 rfl⟩⟩⟩, ⟨hf.1 56 rfl, hf.1 31 rfl, hf.1 32 rfl, hf.1 33 rfl⟩, ⟨hf.1 3 rfl, hf.2 2 rfl⟩, ⟨hf.1 30 rfl, hf.2 29 rfl⟩, ⟨hf.1 4 rfl, hf.2 5 rfl, hf.2 6 rfl, hf.2 7 rfl, hf.2 10 rfl, hf.1 19 rfl, hf.2 18 rfl, hf.2 11 rfl, hf.2 8 rfl, hf.2 9 rfl, hf.2 12 rfl, hf.2 13 rfl, hf.2 14 rfl, hf.2 15 rfl, hf.2 16 rfl, hf.2 17 rfl⟩⟩⟩
theorem MO_finds {l : Launch} {G : GT} {mm : Nat} {x1 : Int} (h_x1 : -2147483648 ≤ x1 ∧ x1 ≤ 2147483647) : ModelOp l G yX12_finds cX12_finds 2 (some .int) 1 [.int (iI x1)] mm 0 0 (fun v a v2 a2 f => (True ∧ (v2 36 = v 36 ∧ KSA v a v2 a2 ∧ v2 42 = v 42 ∧ v2 43 = v 43 ∧ (v2 41 = v 41 ∧ a2 40 = a 40) ∧ (v2 52 = v 52 ∧ a2 51 = a 51) ∧ (v2 60 = v 60 ∧ v2 61 = v 61 ∧ a2 58 = a 58 ∧ a2 59 = a 59))) ∧ (v2 56 = v 56 ∧ v2 31 = v 31 ∧ v2 32 = v 32 ∧ v2 33 = v 33) ∧ (v2 3 = v 3 ∧ a2 2 = a 2) ∧ (v2 30 = v 30 ∧ a2 29 = a 29) ∧ TSAME v a v2 a2) := by
  intro n ad ln v a L E hn hV hI
  obtain ⟨hB, hT, hS, hR, h19⟩ := hV
  refine ⟨_, M_finds (k := x1) hB h_x1 L E hI, fun r L2 E2 h => ?_⟩
  obtain ⟨v2, a2, hI2, f, rfl, hf, hB2, hx⟩ := h
  exact ⟨f, ad, ln, v2, a2, rfl, hI2, ⟨hB2, (hT.fr hf rfl rfl), (hS.fr hf rfl rfl), (hR.fr hf rfl), (by have q := hf.1 19 rfl; push_cast; omega)⟩, ⟨⟨trivial, ⟨hf.1 36 rfl, ⟨hf.1 36 rfl, hf.2 34 rfl, hf.2 35 rfl⟩, hf.1 42 rfl, hf.1 43 rfl, ⟨hf.1 41 rfl, hf.2 40 rfl⟩, ⟨hf.1 52 rfl, hf.2 51 rfl⟩, ⟨hf.1 60 rfl, hf.1 61 rfl, hf.2 58 rfl, hf.2 59 rfl⟩⟩⟩, ⟨hf.1 56 rfl, hf.1 31 rfl, hf.1 32 rfl, hf.1 33 rfl⟩, ⟨hf.1 3 rfl, hf.2 2 rfl⟩, ⟨hf.1 30 rfl, hf.2 29 rfl⟩, ⟨hf.1 4 rfl, hf.2 5 rfl, hf.2 6 rfl, hf.2 7 rfl, hf.2 10 rfl, hf.1 19 rfl, hf.2 18 rfl, hf.2 11 rfl, hf.2 8 rfl, hf.2 9 rfl, hf.2 12 rfl, hf.2 13 rfl, hf.2 14 rfl, hf.2 15 rfl, hf.2 16 rfl, hf.2 17 rfl⟩⟩⟩
theorem MO_status {l : Launch} {G : GT} {mm : Nat} : ModelOp l G yX12_status cX12_status 1 (some .int) 0 [] mm 0 0 (fun v a v2 a2 f => (True ∧ (v2 36 = v 36 ∧ KSA v a v2 a2 ∧ v2 42 = v 42 ∧ v2 43 = v 43 ∧ (v2 41 = v 41 ∧ a2 40 = a 40) ∧ (v2 52 = v 52 ∧ a2 51 = a 51) ∧ (v2 60 = v 60 ∧ v2 61 = v 61 ∧ a2 58 = a 58 ∧ a2 59 = a 59))) ∧ (v2 56 = v 56 ∧ v2 31 = v 31 ∧ v2 32 = v 32 ∧ v2 33 = v 33) ∧ (v2 3 = v 3 ∧ a2 2 = a 2) ∧ (v2 30 = v 30 ∧ a2 29 = a 29) ∧ TSAME v a v2 a2) := by
  intro n ad ln v a L E hn hV hI
  obtain ⟨hB, hT, hS, hR, h19⟩ := hV
  refine ⟨_, B_status  hB L E hI, fun r L2 E2 h => ?_⟩
  obtain ⟨v2, a2, hI2, f, rfl, hf, hB2, hx⟩ := h
  exact ⟨f, ad, ln, v2, a2, rfl, hI2, ⟨hB2, (hT.fr hf rfl rfl), (hS.fr hf rfl rfl), (hR.fr hf rfl), (by have q := hf.1 19 rfl; push_cast; omega)⟩, ⟨⟨trivial, ⟨hf.1 36 rfl, ⟨hf.1 36 rfl, hf.2 34 rfl, hf.2 35 rfl⟩, hf.1 42 rfl, hf.1 43 rfl, ⟨hf.1 41 rfl, hf.2 40 rfl⟩, ⟨hf.1 52 rfl, hf.2 51 rfl⟩, ⟨hf.1 60 rfl, hf.1 61 rfl, hf.2 58 rfl, hf.2 59 rfl⟩⟩⟩, ⟨hf.1 56 rfl, hf.1 31 rfl, hf.1 32 rfl, hf.1 33 rfl⟩, ⟨hf.1 3 rfl, hf.2 2 rfl⟩, ⟨hf.1 30 rfl, hf.2 29 rfl⟩, ⟨hf.1 4 rfl, hf.2 5 rfl, hf.2 6 rfl, hf.2 7 rfl, hf.2 10 rfl, hf.1 19 rfl, hf.2 18 rfl, hf.2 11 rfl, hf.2 8 rfl, hf.2 9 rfl, hf.2 12 rfl, hf.2 13 rfl, hf.2 14 rfl, hf.2 15 rfl, hf.2 16 rfl, hf.2 17 rfl⟩⟩⟩
theorem MO_digest {l : Launch} {G : GT} {mm : Nat} : ModelOp l G yX12_digest cX12_digest 4 (some .int) 0 [] mm 0 0 (fun v a v2 a2 f => (True ∧ (v2 36 = v 36 ∧ KSA v a v2 a2 ∧ v2 42 = v 42 ∧ v2 43 = v 43 ∧ (v2 41 = v 41 ∧ a2 40 = a 40) ∧ (v2 52 = v 52 ∧ a2 51 = a 51) ∧ (v2 60 = v 60 ∧ v2 61 = v 61 ∧ a2 58 = a 58 ∧ a2 59 = a 59))) ∧ (v2 56 = v 56 ∧ v2 31 = v 31 ∧ v2 32 = v 32 ∧ v2 33 = v 33) ∧ (v2 3 = v 3 ∧ a2 2 = a 2) ∧ (v2 30 = v 30 ∧ a2 29 = a 29) ∧ TSAME v a v2 a2) := by
  intro n ad ln v a L E hn hV hI
  obtain ⟨hB, hT, hS, hR, h19⟩ := hV
  refine ⟨_, M_digest  hB L E hI, fun r L2 E2 h => ?_⟩
  obtain ⟨v2, a2, hI2, f, rfl, hf, hB2, hx⟩ := h
  exact ⟨f, ad, ln, v2, a2, rfl, hI2, ⟨hB2, (hT.fr hf rfl rfl), (hS.fr hf rfl rfl), (hR.fr hf rfl), (by have q := hf.1 19 rfl; push_cast; omega)⟩, ⟨⟨trivial, ⟨hf.1 36 rfl, ⟨hf.1 36 rfl, hf.2 34 rfl, hf.2 35 rfl⟩, hf.1 42 rfl, hf.1 43 rfl, ⟨hf.1 41 rfl, hf.2 40 rfl⟩, ⟨hf.1 52 rfl, hf.2 51 rfl⟩, ⟨hf.1 60 rfl, hf.1 61 rfl, hf.2 58 rfl, hf.2 59 rfl⟩⟩⟩, ⟨hf.1 56 rfl, hf.1 31 rfl, hf.1 32 rfl, hf.1 33 rfl⟩, ⟨hf.1 3 rfl, hf.2 2 rfl⟩, ⟨hf.1 30 rfl, hf.2 29 rfl⟩, ⟨hf.1 4 rfl, hf.2 5 rfl, hf.2 6 rfl, hf.2 7 rfl, hf.2 10 rfl, hf.1 19 rfl, hf.2 18 rfl, hf.2 11 rfl, hf.2 8 rfl, hf.2 9 rfl, hf.2 12 rfl, hf.2 13 rfl, hf.2 14 rfl, hf.2 15 rfl, hf.2 16 rfl, hf.2 17 rfl⟩⟩⟩
end
section
section LW
variable {p : Program} {l : Launch} {e : Env} {R : Room} {s : State} {m : MethodId} {args : Array Value} {below : List Frame} {meth : Method} {c : Code} {cc : ByteArray} {y : MethodName} {ret : Option FieldType} {G : GT} {A : Nat → Prop} {nL : Nat} {Q : State → Prop} {L : List Nat} {E : Nat → va_E} {kc ks pc : Nat} {lv : List (Nat × Value)} {st : List Value}
theorem q_sld (C : Cq p s m args meth c cc y ret G A nL) {b Ln : Nat} {xs : Nat → Int32} (hX : va_X b Ln xs s s.heap) (hbl : b < s.heap.size) (hbA : ¬ A b) {i v : Int32} (d : decode cc pc = .ok (.iaload, 1)) (hin : vp_in i Ln) (hv : xs i.toNatClampNeg = v) (k : wq p l e R s m args below meth c G A nL Q L E kc ks (pc + 1) lv (.int v :: st)) : wq p l e R s m args below meth c G A nL Q L E kc ks pc lv (.int i :: .ref b :: st) := fun H locs ls hP hD hS hl => va_sld C.1 C.2.1 hX hbl hbA hS hin d (hv ▸ k H locs ls hP hD hS hl)
theorem q_slen (C : Cq p s m args meth c cc y ret G A nL) {b Ln : Nat} {xs : Nat → Int32} (hX : va_X b Ln xs s s.heap) (hbl : b < s.heap.size) (hbA : ¬ A b) {v : Int32} (d : decode cc pc = .ok (.arraylength, 1)) (hv : Int32.ofNat Ln = v) (k : wq p l e R s m args below meth c G A nL Q L E kc ks (pc + 1) lv (.int v :: st)) : wq p l e R s m args below meth c G A nL Q L E kc ks pc lv (.ref b :: st) := fun H locs ls hP hD hS hl => va_slen C.1 C.2.1 hX hbl hbA hS d (hv ▸ k H locs ls hP hD hS hl)
theorem q_tabIn (C : Cq p s m args meth c cc y ret G A nL) {dflt lo hi : Int} {offs : Array Int} {len : Nat} {x : Int32} {off : Int} {tgt : Nat} (d : decode cc pc = .ok (.tableswitch dflt lo hi offs, len)) (h1 : ¬ x.toInt < lo) (h2 : ¬ hi < x.toInt) (ho : offs[(x.toInt - lo).toNat]? = some off) (ht : (pc : Int) + off = (tgt : Int)) (k : wq p l e R s m args below meth c G A nL Q L E kc ks tgt lv st) : wq p l e R s m args below meth c G A nL Q L E kc ks pc lv (.int x :: st) := fun H locs ls hP hD hS hl => lv_tableIn C.1 C.2.1 d h1 h2 ho ht (k H locs ls hP hD hS hl)
theorem q_tabOut (C : Cq p s m args meth c cc y ret G A nL) {dflt lo hi : Int} {offs : Array Int} {len : Nat} {x : Int32} {tgt : Nat} (d : decode cc pc = .ok (.tableswitch dflt lo hi offs, len)) (h : x.toInt < lo ∨ hi < x.toInt) (ht : (pc : Int) + dflt = (tgt : Int)) (k : wq p l e R s m args below meth c G A nL Q L E kc ks tgt lv st) : wq p l e R s m args below meth c G A nL Q L E kc ks pc lv (.int x :: st) := fun H locs ls hP hD hS hl => lv_tableOut C.1 C.2.1 d h ht (k H locs ls hP hD hS hl)
theorem q_swap {La Lb : List Nat} (k : wq p l e R s m args below meth c G A nL Q (Lb ++ La) E kc ks pc lv st) : wq p l e R s m args below meth c G A nL Q (La ++ Lb) E kc ks pc lv st := by
  intro H locs ls hP hD hS hl
  refine hv2 (show va_pl (La ++ Lb) E = va_pl La E ++ va_pl Lb E from List.map_append) (show va_pl (Lb ++ La) E = va_pl Lb E ++ va_pl La E from List.map_append) (fun e1 e2 => ?_)
  rw [e1] at hP hD
  have pR : ∀ (j : Nat) (q : Nat × va_E), (va_pl Lb E)[j]? = some q → (va_pl La E ++ va_pl Lb E)[(va_pl La E).length + j]? = some q := fun j q h => by rw [List.getElem?_append_right (by omega), Nat.add_sub_cancel_left]; exact h
  have pL : ∀ (j : Nat) (q : Nat × va_E), (va_pl La E)[j]? = some q → (va_pl La E ++ va_pl Lb E)[j]? = some q := fun j q h => by rw [List.getElem?_append_left ((List.getElem?_eq_some_iff.mp h).1)]; exact h
  refine k H locs ls ?_ ?_ hS hl
  · rw [e2]
    exact va_P.app (fun j q h => hP _ q (pR j q h)) (fun j q h => hP _ q (pL j q h))
  · rw [e2]
    refine va_D.app ⟨fun i j x y hi hj e => by have := hD.1 _ _ x y (pR i x hi) (pR j y hj) e; omega, fun k q hk => hD.2 _ q (pR k q hk)⟩ ⟨fun i j x y hi hj e => hD.1 _ _ x y (pL i x hi) (pL j y hj) e, fun k q hk => hD.2 _ q (pL k q hk)⟩ (fun i j x y hx hy hxy => ?_)
    have := hD.1 _ _ y x (pL j y hy) (pR i x hx) hxy.symm
    have hj := (List.getElem?_eq_some_iff.mp hy).1
    omega
end LW

def R_law : String := "DotPressLaw"
def lw_P (b : Addr) (xs : List Int32) (args : Array Value) (s : State) : Prop := args = #[.ref b] ∧ s.IntsAt b xs ∧ xs.length ≤ 3072 ∧ (Jvm.Cond.and given_1 narrow_1).before args s = true
def lw_Q (_ : Array Value) (s : State) (o : Outcome) (t : State) : Prop := o = .returned (some (.int 1)) ∧ Framed s o t [] 600000 7302250
def lw_Z (below : List Frame) (a : Array Value) (s : State) : State → Prop := fun t => ∃ o, t.status = .running ∧ Ended t below o ∧ lw_Q a s o t
theorem lw_ret {p : Program} {l : Launch} {e : Env} {s : State} {m : MethodId} {below : List Frame} {meth : Method} {c : Code} {b : Nat} (hx : p.tables.exec = Jvm.exec) (hb : c.code = code) (hr : meth.sig.returnType = ret) (hlocks : meth.locks = false) {pc : Nat} {H : Heap} {ls : Array Slot} (hdg : decode code pc = .ok (.ireturn, 1)) : W p l e room_1 s m #[Value.ref b] below meth c H [] 600000 7302250 (lw_Z below #[Value.ref b] s) (F0 m pc ls [.int 1]) := by
  intro T hT X
  obtain ⟨fs, hret, hrun, hended, hW, hframe⟩ := X.leave (v := some (.int 1)) (hlocks := hlocks) (fun h => by rw [hr] at h; cases h)
  have hmeth' : T.vm.method? m = some meth := X.method'
  refine ⟨T.setFrames fs, ?_, .returned (some (.int 1)), hrun, hended, rfl, ⟨_, rfl⟩, hW, hframe⟩
  jvm_step X.here [X.here.top, hx, hb, hdg, hmeth', hr, ret, narrow_b1]
  (try refine ⟨rfl, ?_⟩); (try refine ⟨rfl, ?_⟩)
  first | (intro acts; rw [hret _ acts rfl rfl rfl]) | rw [hret _ _ rfl rfl rfl]
  exact Steps.refl _
def lw_At (p : Program) (s : State) (m : MethodId) (meth : Method) (c : Code) (b L : Nat) (xs : Nat → Int32) : Prop :=
  p.tables.exec = Jvm.exec ∧ c.code = code ∧ meth.sig.returnType = ret ∧ c.maxLocals = 4 ∧ s.vm.findClass R_law = some m.cls ∧ (∀ w ∈ lw_tbl, w.before #[Value.ref b] s = true) ∧ va_X b L xs s s.heap ∧ b < s.heap.size ∧ meth.locks = false ∧ (Jvm.Cond.and given_1 narrow_1).before #[Value.ref b] s = true

theorem law_ret {p : Program} {l : Launch} {e : Env} {s : State} {m : MethodId} {below : List Frame} {meth : Method} {c : Code} {y : MethodName} {rt : Option FieldType} {G : GT} {b : Nat} (C : Cq p s m #[Value.ref b] meth c cL_law ⟨RL, y.name, y.desc⟩ rt G (fun q => s.heap.size ≤ q) 4) (hr : meth.sig.returnType = ret) (hlk : meth.locks = false) {L : List Nat} {E : Nat → va_E} {kc ks pc : Nat} {lv : List (Nat × Value)} (h1 : kc ≤ 600000) (h2 : ks ≤ 7302250) (d : decode cL_law pc = .ok (.ireturn, 1)) : wq p l e room_1 s m #[Value.ref b] below meth c G (fun q => s.heap.size ≤ q) 4 (lw_Z below #[Value.ref b] s) L E kc ks pc lv [.int 1] := fun H locs ls hP hD hS hl => va_forget (fun q hq => hS.2.2 q hq) (W.widen h1 h2 (lw_ret C.1 C.2.1 hr hlk d))

theorem Mu.congr {l : Launch} {G : GT} {mi : Nat} {y : MethodName} {cc : ByteArray} {n : Nat} {ret : Option FieldType} {d : Nat} {av : List Value} {L : List Nat} {E E2 : Nat → va_E} {r : Nat} {P : PU} (h : Mu l G mi y cc n ret d av L E r P) (he : ∀ a ∈ L, E2 a = E a) : Mu l G mi y cc n ret d av L E2 r P := by
  have e : va_pl L E2 = va_pl L E := List.map_congr_left (fun a ha => by rw [he a ha])
  intro sz
  have e2 : Pcu G mi L E2 sz = Pcu G mi L E sz := by funext U; unfold Pcu Pcq; rw [e]
  rw [e, e2]
  exact h sz
theorem mI.cgE {G : GT} {h0 : Nat} {ad ln : Nat → Nat} {v : Nat → Int} {a : Nat → Nat → Int} {L : List Nat} {E E2 : Nat → va_E} (h : mI G h0 ad ln v a L E) (he : ∀ b ∈ L, E2 b = E b) : mI G h0 ad ln v a L E2 := ⟨h.1, (he _ h.1).trans h.2.1, fun k hk => ⟨(h.2.2.1 k hk).1, (he _ (h.2.2.1 k hk).1).trans (h.2.2.1 k hk).2⟩, h.2.2.2⟩
def LI (R : (Nat → Nat) → List Nat → (Nat → Nat) → (Nat → Nat) → (Nat → Nat → Int) → (Nat → Nat → Option Nat) → (Nat → Int) → (Nat → Nat → Int) → Prop) (G : GT) (h0 mm n n2 w u : Nat) (Lx Lm : List Nat) (E : Nat → va_E) : Prop := ∃ (cl ln : Nat → Nat) (iv : Nat → Nat → Int) (rv : Nat → Nat → Option Nat) (sk ad lnm : Nat → Nat) (v : Nat → Int) (a : Nat → Nat → Int), (∀ b ∈ Lx, E b = enc G cl ln iv rv b) ∧ PRS G h0 n Lx cl ln iv rv sk ∧ mI G mm ad lnm v a Lm E ∧ MIV n2 lnm v a ∧ u ≤ 360000 + Phi (g0 G) sk ln rv + w ∧ R sk Lx cl ln iv rv v a
def LV (b h0 mm n : Nat) : List (Nat × Value) := [(3, .int (iI (6 * (n : Int)))), (2, .ref mm), (1, .ref h0), (0, .ref b)]
section LAWS
variable {p : Program} {l : Launch} {e : Env} {s : State} {m : MethodId} {below : List Frame} {meth : Method} {c : Code} {y : MethodName} {rt : Option FieldType} {G : GT} {b mi h0 mm n u kc ks pc Ln w : Nat} {Lx Lm : List Nat} {E : Nat → va_E} {Q : State → Prop} {lv : List (Nat × Value)} {st rest : List Value} {xs : Nat → Int32} {zs : Nat → Int} {EX : (Nat → Nat) → List Nat → (Nat → Nat) → (Nat → Nat) → (Nat → Nat → Int) → (Nat → Nat → Option Nat) → List Nat → (Nat → Nat) → (Nat → Nat) → (Nat → Nat → Int) → (Nat → Nat → Option Nat) → Int → Prop} {EXm : (Nat → Int) → (Nat → Nat → Int) → (Nat → Int) → (Nat → Nat → Int) → Int → Prop} {R : (Nat → Nat) → List Nat → (Nat → Nat) → (Nat → Nat) → (Nat → Nat → Int) → (Nat → Nat → Option Nat) → (Nat → Int) → (Nat → Nat → Int) → Prop} {As : List Value} {y2 : MethodName} {cc2 : ByteArray} {n2 d2 idx k2 mc ms : Nat}
theorem q_ld (C : Cq p s m #[Value.ref b] meth c cL_law ⟨RL, y.name, y.desc⟩ rt G (fun q => s.heap.size ≤ q) 4) (hX : va_X b Ln xs s s.heap) (hbl : b < s.heap.size) (hzs : ∀ k, xs k = iI (zs k)) (hn : 6 * n + 6 ≤ Ln) (hLn : Ln ≤ 3072) {j : Nat} (hj : j < 6) {jj : Int} (hjj : jj = j) {L : List Nat} (d0 : decode cL_law pc = .ok (.aload_n 0, 1)) (d1 : decode cL_law (pc + 1) = .ok (.iload_n 3, 1)) (d2 : decode cL_law (pc + 2) = .ok (.iconst jj, 1)) (d3 : decode cL_law (pc + 3) = .ok (.iadd, 1)) (d4 : decode cL_law (pc + 4) = .ok (.iaload, 1)) (k : wq p l e room_1 s m #[Value.ref b] below meth c G (fun q => s.heap.size ≤ q) 4 Q L E kc ks (pc + 5) (LV b h0 mm n) (.int (iI (zs (6 * n + j))) :: st)) : wq p l e room_1 s m #[Value.ref b] below meth c G (fun q => s.heap.size ≤ q) 4 Q L E kc ks pc (LV b h0 mm n) st := by
  have hbA : ¬ (fun q : Nat => s.heap.size ≤ q) b := Nat.not_le.mpr hbl
  refine q_aload_n (j := 3) C d0 rfl ?_
  refine q_iload_n (j := 0) C d1 rfl ?_
  refine q_iconst (v := iI jj) C d2 rfl ?_
  refine q_iadd (v := iI (6 * (n : Int) + j)) C d3 (by rw [hjj]; exact (Int32.ofInt_add ..).symm) ?_
  refine q_sld (v := iI (zs (6 * n + j))) C hX hbl hbA d4 (iI_in ⟨by omega, by omega⟩ (by omega) (by omega)) (by rw [iI_cl ⟨by omega, by omega⟩, ← hzs]; congr 1) ?_
  exact k
theorem law_press (C : Cq p s m #[Value.ref b] meth c cL_law ⟨RL, y.name, y.desc⟩ rt G (fun q => s.heap.size ≤ q) 4) (hM : Mir mi s) (hI : LI R G h0 mm n n w u Lx Lm E) (hn : n ≤ 511) (hw0 : w ≤ 3400000) (hu : 16 * kc + ks ≤ u) (op : PressOp l G mi y2 cc2 n2 (some .int) d2 As h0 EX) (d : decode cL_law pc = .ok (.invokevirtual idx, 3)) (hw : Wv RL idx y2 cc2 n2 (some .int) k2) (hk : As.length = k2) (hcls : y2.cls = RX11) (hst : st = As.reverse ++ .ref h0 :: rest) (hcat : (rest.map fun v => v.category).sum ≤ 8) (hR : d2 + 1 ≤ 2048 ∧ 8 + (n2 + 11) + 64 * d2 ≤ 84000) (kk : ∀ (f : Int) (L2 : List Nat) (E3 : Nat → va_E) (kc2 ks2 u2 : Nat), (-2147483648 ≤ f ∧ f ≤ 2147483647) → LI (fun sk L2 cl2 ln2 iv2 rv2 v a => ∃ L cl ln iv rv, R sk L cl ln iv rv v a ∧ EX sk L cl ln iv rv L2 cl2 ln2 iv2 rv2 f) G h0 mm (n + 1) n (w + 2330) u2 L2 Lm E3 → 16 * kc2 + ks2 ≤ u2 → wq p l e room_1 s m #[Value.ref b] below meth c G (fun q => s.heap.size ≤ q) 4 Q (Lm ++ L2) E3 kc2 ks2 (pc + 3) lv (.int (iI f) :: rest)) : wq p l e room_1 s m #[Value.ref b] below meth c G (fun q => s.heap.size ≤ q) 4 Q (Lm ++ Lx) E kc ks pc lv st := by
  obtain ⟨cl, ln, iv, rv, sk, ad, lnm, v, a, hE, hP, hmI, hV, hU, hR0⟩ := hI
  obtain ⟨c0, P2, hc0, M, hpost⟩ := op n Lx cl ln iv rv sk hn hP
  obtain ⟨hW, hS, hm, h23, ht⟩ := hP
  refine hv2 (Phi.le hW hS) (show PHM = 1110000 from rfl) (fun hph e0 => ?_)
  have hEh : E h0 = ob 12 19 (ofv 12 (iv h0) (rv h0)) := by
    rw [hE h0 ht.1]; unfold enc; rw [ht.2]; rfl
  have M2 := Mu.congr (E2 := E) M (fun q hq => hE q hq)
  refine u_subV (As := As) (rest := rest) C hM hu M2 d hw hk ht.1 hEh (hcls ▸ ck_12) hst hcat hR ⟨by show kc + _ / 16 ≤ 600000; omega, by show ks + _ ≤ 7302250; omega⟩ (fun r L2 E2 E3 u2 h ha hb hc kc2 ks2 hk2 => ?_)
  obtain ⟨cl2, ln2, iv2, rv2, rfl, hu2, hp2⟩ := h
  obtain ⟨f, rfl, hf, hX2, hW2, hm2, h232, hex⟩ := hpost _ _ _ _ _ _ hp2
  exact kk f L2 E3 kc2 ks2 (u + u2) hf ⟨cl2, ln2, iv2, rv2, sk, ad, lnm, v, a, hb, ⟨hW2, hX2.skl hS, hm2, by push_cast; omega, hX2.ty ht⟩, hmI.cgE ha, hV, by omega, Lx, cl, ln, iv, rv, hR0, hex⟩ hk2
theorem law_model (C : Cq p s m #[Value.ref b] meth c cL_law ⟨RL, y.name, y.desc⟩ rt G (fun q => s.heap.size ≤ q) 4) (hI : LI R G h0 mm (n + 1) n w u Lx Lm E) (hn : n ≤ 511) (hw0 : w ≤ 3400000) (hu : 16 * kc + ks ≤ u) (op : ModelOp l G y2 cc2 n2 (some .int) d2 As mm mc ms EXm) (hcost : 16 * mc + ms ≤ 4126) (d : decode cL_law pc = .ok (.invokevirtual idx, 3)) (hw : Wv RL idx y2 cc2 n2 (some .int) k2) (hk : As.length = k2) (hcls : y2.cls = RX12) (hst : st = As.reverse ++ .ref mm :: rest) (hcat : (rest.map fun v => v.category).sum ≤ 8) (hR : d2 + 1 ≤ 2048 ∧ 8 + (n2 + 11) + 64 * d2 ≤ 84000) (kk : ∀ (f : Int) (L2 : List Nat) (E3 : Nat → va_E) (kc2 ks2 u2 : Nat), LI (fun sk L cl ln iv rv v2 a2 => ∃ v a, R sk L cl ln iv rv v a ∧ EXm v a v2 a2 f) G h0 mm (n + 1) (n + 1) (w + 4126) u2 Lx L2 E3 → 16 * kc2 + ks2 ≤ u2 → wq p l e room_1 s m #[Value.ref b] below meth c G (fun q => s.heap.size ≤ q) 4 Q (L2 ++ Lx) E3 kc2 ks2 (pc + 3) lv (.int (iI f) :: rest)) : wq p l e room_1 s m #[Value.ref b] below meth c G (fun q => s.heap.size ≤ q) 4 Q (Lm ++ Lx) E kc ks pc lv st := by
  obtain ⟨cl, ln, iv, rv, sk, ad, lnm, v, a, hE, hP, hmI, hV, hU, hR0⟩ := hI
  refine hv2 (Phi.le hP.1 hP.2.1) (show PHM = 1110000 from rfl) (fun hph e0 => ?_)
  obtain ⟨P2, M, hpost⟩ := op n ad lnm v a Lm E hn hV hmI
  refine q_swap ?_
  refine q_subV (As := As) (rest := rest) C M d hw hk hmI.1 hmI.2.1 (hcls ▸ ck_13) hst hcat hR ⟨by show kc + mc ≤ 600000; omega, by show ks + ms ≤ 7302250; omega⟩ (fun r L2 E2 E3 h ha hb hc => ?_)
  obtain ⟨f, ad2, ln2, v2, a2, rfl, hmI2, hV2, hex⟩ := hpost _ _ _ h
  refine q_swap ?_
  exact kk f L2 E3 _ _ (u + (16 * mc + ms)) ⟨cl, ln, iv, rv, sk, ad2, ln2, v2, a2, fun q hq => (ha q hq).trans (hE q hq), hP, hmI2.cgE hb, hV2, by omega, v, a, hR0, hex⟩ (by omega)
end LAWS
end
section
theorem stk_lt {s : Nat → Int} : ∀ (n : Nat) (T : Int) (R : Nat → Int), stk s n T R → ∀ k : Nat, k < n → (s (4 * k) = 1 ∨ s (4 * k) = 2) → 0 ≤ s (4 * k + 1) ∧ s (4 * k + 1) < T := by
  intro n
  induction n with
  | zero => intro T R _ k hk; exact absurd hk (by omega)
  | succ n ih =>
    intro T R h k hk hw
    obtain ⟨T0, R0, he, hs⟩ := h
    by_cases e : k = n
    · subst e
      rcases he with ⟨q1, _⟩ | ⟨_, q2, _⟩ | ⟨_, q2, _⟩ | ⟨q1, _⟩ | ⟨q1, _⟩
      · omega
      · exact q2
      · exact q2
      · omega
      · omega
    · have q := ih T0 R0 hs k (by omega) hw
      rcases he with ⟨_, _, q3, _⟩ | ⟨_, _, q3, _⟩ | ⟨_, _, _, q3, _⟩ | ⟨_, _, _, q3, _⟩ | ⟨_, _, _, q3, _⟩ <;> exact ⟨q.1, by omega⟩
theorem STK.lt {ln : Nat → Nat} {v : Nat → Int} {a : Nat → Nat → Int} (h : STK ln v a) (k : Nat) (hk : 4 * (k : Int) < v 19) (hw : a 18 (4 * k) = 1 ∨ a 18 (4 * k) = 2) : 0 ≤ a 18 (4 * k + 1) ∧ a 18 (4 * k + 1) < v 4 := by
  obtain ⟨_, _, n, hn, hs⟩ := h
  exact stk_lt n _ _ hs k (by omega) hw
def CHP (sk : Nat → Nat) (iv : Nat → Nat → Int) (rv : Nat → Nat → Option Nat) (v : Nat → Int) (a : Nat → Nat → Int) : Prop := ∀ k : Nat, (k : Int) < iv (sk 23) 2 → ∃ ch, el rv (sk 23) k = some ch ∧ iv ch 0 = a 18 (4 * k) ∧ ((a 18 (4 * k) = 1 ∨ a 18 (4 * k) = 2) → (0 ≤ a 18 (4 * k + 1) ∧ a 18 (4 * k + 1) < v 4) ∧ rv ch 1 = el rv (sk 22) (a 18 (4 * k + 1)).toNat)
def TBR (sk : Nat → Nat) (iv : Nat → Nat → Int) (rv : Nat → Nat → Option Nat) (v : Nat → Int) (a : Nat → Nat → Int) : Prop := ∀ i : Nat, (i : Int) < v 4 → ∃ t q, el rv (sk 22) i = some t ∧ rv t 4 = some q ∧ iv t 0 = a 6 i ∧ iv t 1 = a 7 i ∧ iv t 7 + a 5 i = 1 ∧ iv q 2 = a 10 i ∧ (a 7 i = 6 ∨ a 7 i = 8) ∧ (a 5 i = 0 ∨ a 5 i = 1) ∧ (0 ≤ a 10 i ∧ a 10 i ≤ 200)
def LNJ (sk : Nat → Nat) (rv : Nat → Nat → Option Nat) (n : Int) : Prop := ∀ i j t u q : Nat, (i : Int) < n → (j : Int) < n → el rv (sk 22) i = some t → el rv (sk 22) j = some u → rv t 4 = some q → rv u 4 = some q → i = j
def TABR (sk : Nat → Nat) (iv : Nat → Nat → Int) (rv : Nat → Nat → Option Nat) (v : Nat → Int) (a : Nat → Nat → Int) : Prop := iv (sk 22) 2 = v 4 ∧ TBR sk iv rv v a ∧ LNJ sk rv (v 4) ∧ 4 * iv (sk 23) 2 = v 19 ∧ CHP sk iv rv v a ∧ (0 ≤ v 4 ∧ v 4 ≤ 30) ∧ 0 ≤ v 19
section TABS
variable {sk : Nat → Nat} {iv iv2 : Nat → Nat → Int} {rv rv2 : Nat → Nat → Option Nat} {v v2 : Nat → Int} {a a2 : Nat → Nat → Int} {i : Int} {t : Nat}
theorem TABR.al (h : TABR sk iv rv v a) (ha : ALV sk iv rv i t) : (0 ≤ i ∧ i < v 4 ∧ a 5 i.toNat = 1) ∧ iv t 0 = a 6 i.toNat ∧ iv t 1 = a 7 i.toNat ∧ (iv t 1 = 6 ∨ iv t 1 = 8) ∧ ∃ q, rv t 4 = some q ∧ iv q 2 = a 10 i.toNat := by
  obtain ⟨h1, h2, _⟩ := h
  obtain ⟨a1, a2, a3, a4⟩ := ha
  obtain ⟨t2, q, b1, b2, b3, b4, b5, b6, b7, b8⟩ := h2 i.toNat (by omega)
  rw [a3] at b1; cases b1
  exact ⟨⟨a1, by omega, by omega⟩, b3, b4, by omega, q, b2, b6⟩
theorem TABR.la (h : TABR sk iv rv v a) (w1 : 0 ≤ i) (w2 : i < v 4) (w3 : a 5 i.toNat = 1) : ∃ t, ALV sk iv rv i t := by
  obtain ⟨g1, g2, _⟩ := h
  obtain ⟨t, q, b1, b2, b3, b4, b5, b6, b7, b8⟩ := g2 i.toNat (by omega)
  exact ⟨t, w1, by omega, b1, by omega⟩
theorem TABR.no (h : TABR sk iv rv v a) (w1 : 0 ≤ i) (w2 : i < v 4) (w3 : el rv (sk 22) i.toNat = some t) {j : Nat} {u : Nat} (hj : (j : Int) < v 4) (hu : el rv (sk 22) j = some u) (ne : j ≠ i.toNat) : u ≠ t ∧ ∀ q r, rv t 4 = some q → rv u 4 = some r → r ≠ q := by
  have key : ∀ q, rv t 4 = some q → rv u 4 = some q → False := fun q e1 e2 => ne (h.2.2.1 j i.toNat u t q hj (by omega) hu w3 e2 e1)
  obtain ⟨t2, q, b1, b2, _⟩ := h.2.1 i.toNat (by omega)
  rw [w3] at b1; cases b1
  refine ⟨fun e => ?_, fun q2 r e1 e2 e3 => ?_⟩
  · subst e; exact key q b2 b2
  · subst e3; exact key r e1 e2
theorem LNJ.keep {n n2 : Int} (h : LNJ sk rv n) (hn : n2 ≤ n) (he : ∀ i : Nat, (i : Int) < n2 → el rv2 (sk 22) i = el rv (sk 22) i) (h4 : ∀ i t : Nat, (i : Int) < n2 → el rv (sk 22) i = some t → rv2 t 4 = rv t 4) : LNJ sk rv2 n2 := by
  intro i j t u q hi hj ht hu e1 e2
  refine hv2 ((he i hi).symm.trans ht) ((he j hj).symm.trans hu) (fun ht2 hu2 => ?_)
  exact h i j t u q (by omega) (by omega) ht2 hu2 ((h4 i t hi ht2).symm.trans e1) ((h4 j u hj hu2).symm.trans e2)
theorem CHP.push {w tt cc dd : Int} {x : Option Nat} (h : CHP sk iv rv v a) (hn : iv (sk 22) 2 = v 4) (h19 : 4 * iv (sk 23) 2 = v 19) (h0 : 0 ≤ v 19) (h4 : v 4 ≤ v2 4) (ts : TS0 sk iv rv rv2) (hp : PPSH w x sk iv rv iv2 rv2) (hq : PSH v a v2 a2 w tt cc dd) (hx : (w = 1 ∨ w = 2) → (0 ≤ tt ∧ tt < v2 4) ∧ x = el rv2 (sk 22) tt.toNat) : CHP sk iv2 rv2 v2 a2 := by
  obtain ⟨r1, r2, ch, r3, r4, r5⟩ := hp
  obtain ⟨s1, s2, s3, s4, _⟩ := hq
  intro k hk
  by_cases e : (k : Int) < iv (sk 23) 2
  · obtain ⟨c, b1, b2, b3⟩ := h k e
    have g := r2 k e
    have g2 := g.2 c b1
    have z0 := s2 (4 * k) (by omega)
    have z1 := s2 (4 * k + 1) (by omega)
    refine ⟨c, g.1.trans b1, by rw [z0, g2.1]; exact b2, fun hw => ?_⟩
    rw [z0] at hw
    rw [z1]
    obtain ⟨e1, e2⟩ := b3 hw
    exact ⟨⟨e1.1, by omega⟩, g2.2.trans (e2.trans (ts _ (by omega)).symm)⟩
  · have ek : k = (iv (sk 23) 2).toNat := by omega
    have z0 : a2 18 (4 * k) = w := by rw [show 4 * k = (v 19).toNat by omega]; exact s3
    have z1 : a2 18 (4 * k + 1) = tt := by rw [show 4 * k + 1 = (v 19 + 1).toNat by omega]; exact s4
    refine ⟨ch, by rw [ek]; exact r3, by rw [z0]; exact r4, fun hw => ?_⟩
    rw [z0] at hw
    rw [z1]
    have g := hx hw
    exact ⟨g.1, r5.trans g.2⟩
theorem tab_same (h : TABR sk iv rv v a) (hp : PSAME sk iv rv iv2 rv2) (hq : TSAME v a v2 a2) : TABR sk iv2 rv2 v2 a2 := by
  obtain ⟨h1, h2, h3, h4, h5, h6, h7⟩ := h
  obtain ⟨p1, p2, ⟨p3, p4, p5⟩, p6⟩ := hp
  obtain ⟨q1, q2, q3, q4, q5, q6, q7, _⟩ := hq
  refine ⟨by omega, fun i hi => ?_, h3.keep (by omega) (fun i hi => p3 i (by omega)) (fun i t hi ht => (p4 i t (by omega) ht).2.2.2), by omega, fun k hk => ?_, by omega, by omega⟩
  · obtain ⟨t, q, b1, b2, b3, b4, b5, b6, b7, b8⟩ := h2 i (by omega)
    have c := p4 i t (by omega) b1
    have d := p5 i t q (by omega) b1 b2 trivial
    rw [q2, q3, q4, q5]
    exact ⟨t, q, (p3 i (by omega)).trans b1, c.2.2.2.trans b2, c.2.1.trans b3, c.2.2.1.trans b4, by rw [c.1 trivial]; exact b5, d.trans b6, b7, b8⟩
  · obtain ⟨ch, b1, b2, b3⟩ := h5 k (by omega)
    have c := p6 k (by omega)
    have d := c.2 ch b1
    rw [q7]
    refine ⟨ch, c.1.trans b1, d.1.trans b2, fun hw => ?_⟩
    obtain ⟨e1, e2⟩ := b3 hw
    exact ⟨⟨e1.1, by omega⟩, d.2.trans (e2.trans (p3 _ (by omega)).symm)⟩
theorem tab_new {k d bb ss : Int} (h : TABR sk iv rv v a) (hp : PNEW k d sk iv rv iv2 rv2) (hq : TNEW k d bb ss v a v2 a2) (hd : d = 6 ∨ d = 8) (hlt : v 4 ≠ 30) : TABR sk iv2 rv2 v2 a2 := by
  obtain ⟨h1, h2, h3, h4, h5, h6, h7⟩ := h
  obtain ⟨q, r, p1, p2, p3, p4, p5, p6, p7, p8, ⟨p9, p10, p11⟩, p12⟩ := hp
  obtain ⟨q1, q2, q3, q4, q5, q6, _⟩ := hq
  have old : ∀ j t w : Nat, (j : Int) < v 4 → el rv2 (sk 22) j = some t → rv2 t 4 = some w → el rv (sk 22) j = some t ∧ rv t 4 = some w := by
    intro j t w hj ht hw
    have ht2 := (p9 j (by omega)).symm.trans ht
    exact ⟨ht2, (p10 j t (by omega) ht2).2.2.2.symm.trans hw⟩
  have nw : ∀ j t w : Nat, ¬ (j : Int) < v 4 → (j : Int) < v2 4 → el rv2 (sk 22) j = some t → rv2 t 4 = some w → w = r := by
    intro j t w hj hj2 ht hw
    rw [show j = (iv (sk 22) 2).toNat by omega, p1] at ht
    cases ht
    rw [p5] at hw
    cases hw
    rfl
  refine ⟨by omega, fun i hi => ?_, fun i j t u w hi hj ht hu e1 e2 => ?_, by have := q6.1; have := p12.1; omega, h5.push h1 h4 h7 (by omega) p9 p12 q6 (fun hw => absurd hw (by omega)), by omega, by have := q6.1; omega⟩
  · rw [q2, q3, q4, q5]
    by_cases e : (i : Int) < v 4
    · obtain ⟨t, w, b1, b2, b3, b4, b5, b6, b7, b8⟩ := h2 i e
      have c := p10 i t (by omega) b1
      have dd := p11 i t w (by omega) b1 b2 trivial
      have ne : i ≠ (v 4).toNat := by omega
      rw [va_up_ne _ _ ne, va_up_ne _ _ ne, va_up_ne _ _ ne, va_up_ne _ _ ne]
      exact ⟨t, w, (p9 i (by omega)).trans b1, c.2.2.2.trans b2, c.2.1.trans b3, c.2.2.1.trans b4, by rw [c.1 trivial]; exact b5, dd.trans b6, b7, b8⟩
    · have ei : i = (v 4).toNat := by omega
      rw [ei, va_up_self, va_up_self, va_up_self, va_up_self]
      exact ⟨q, r, by rw [← h1]; exact p1, p5, p2, p3, by omega, p6, hd, Or.inr rfl, ⟨by decide, by decide⟩⟩
  · by_cases ei : (i : Int) < v 4
    · by_cases ej : (j : Int) < v 4
      · have o1 := old i t w ei ht e1
        have o2 := old j u w ej hu e2
        exact h3 i j t u w ei ej o1.1 o2.1 o1.2 o2.2
      · have o1 := old i t w ei ht e1
        have o2 := nw j u w ej hj hu e2
        subst o2
        exact absurd o1.2 (p7 i t (by omega) o1.1)
    · by_cases ej : (j : Int) < v 4
      · have o1 := old j u w ej hu e2
        have o2 := nw i t w ei hi ht e1
        subst o2
        exact absurd o1.2 (p7 j u (by omega) o1.1)
      · omega
theorem tab_drop (h : TABR sk iv rv v a) (ha : ALV sk iv rv i t) (hn : iv2 (sk 22) 2 = iv (sk 22) 2) (hp : PTAB (fun b => b ≠ t) (fun _ => True) sk iv rv iv2 rv2) (h7t : iv2 t 7 = 1) (hs : PPSH 1 (some t) sk iv rv iv2 rv2) (hq : TDRP i v a v2 a2) : TABR sk iv2 rv2 v2 a2 := by
  have no := fun {j u : Nat} => h.no (j := j) (u := u) ha.1 (h.al ha).1.2.1 ha.2.2.1
  obtain ⟨h1, h2, h3, h4, h5, h6, h7⟩ := h
  obtain ⟨p3, p4, p5⟩ := hp
  obtain ⟨q1, q2, q3, q4, q5, q6, _⟩ := hq
  obtain ⟨a1, a2', a3, a4⟩ := ha
  refine ⟨by omega, fun j hj => ?_, h3.keep (by omega) (fun i hi => p3 i (by omega)) (fun i t hi ht => (p4 i t (by omega) ht).2.2.2), by have := q6.1; have := hs.1; omega, h5.push h1 h4 h7 (by omega) p3 hs q6 (fun _ => ⟨⟨a1, by omega⟩, ((p3 i.toNat (by omega)).trans a3).symm⟩), by omega, by have := q6.1; omega⟩
  obtain ⟨u, w, b1, b2, b3, b4, b5, b6, b7, b8⟩ := h2 j (by omega)
  have c := p4 j u (by omega) b1
  have d := p5 j u w (by omega) b1 b2 trivial
  rw [q2, q3, q4, q5]
  by_cases e : j = i.toNat
  · have b1' := b1
    rw [e, a3] at b1'; cases b1'
    rw [e, va_up_self]
    rw [e] at b1 b3 b4 b6 b7 b8
    exact ⟨_, w, (p3 i.toNat (by omega)).trans b1, c.2.2.2.trans b2, c.2.1.trans b3, c.2.2.1.trans b4, by omega, d.trans b6, b7, Or.inl rfl, b8.2⟩
  · rw [va_up_ne _ _ e]
    have n1 := (no (by omega) b1 e).1
    exact ⟨u, w, (p3 j (by omega)).trans b1, c.2.2.2.trans b2, c.2.1.trans b3, c.2.2.1.trans b4, by rw [c.1 n1]; exact b5, d.trans b6, b7, b8⟩
theorem tab_rule {q : Nat} {xx nn : Int} (h : TABR sk iv rv v a) (ha : ALV sk iv rv i t) (h4t : rv t 4 = some q) (hn : iv2 (sk 22) 2 = iv (sk 22) 2) (hp : PTAB (fun _ => True) (fun b => b ≠ q) sk iv rv iv2 rv2) (hz : iv2 q 2 = iv q 2 + 1) (hlt : iv q 2 < 200) (hs : PPSH 2 (some t) sk iv rv iv2 rv2) (hq : TRUL i xx nn v a v2 a2) : TABR sk iv2 rv2 v2 a2 := by
  have no := fun {j u : Nat} => h.no (j := j) (u := u) ha.1 (h.al ha).1.2.1 ha.2.2.1
  obtain ⟨h1, h2, h3, h4, h5, h6, h7⟩ := h
  obtain ⟨p3, p4, p5⟩ := hp
  obtain ⟨q1, q2, q3, q4, q5, q6, _⟩ := hq
  obtain ⟨a1, a2', a3, a4⟩ := ha
  refine ⟨by omega, fun j hj => ?_, h3.keep (by omega) (fun i hi => p3 i (by omega)) (fun i t hi ht => (p4 i t (by omega) ht).2.2.2), by have := q6.1; have := hs.1; omega, h5.push h1 h4 h7 (by omega) p3 hs q6 (fun _ => ⟨⟨a1, by omega⟩, ((p3 i.toNat (by omega)).trans a3).symm⟩), by omega, by have := q6.1; omega⟩
  obtain ⟨u, w, b1, b2, b3, b4, b5, b6, b7, b8⟩ := h2 j (by omega)
  have c := p4 j u (by omega) b1
  rw [q2, q3, q4, q5]
  by_cases e : j = i.toNat
  · have b1' := b1
    rw [e, a3] at b1'; cases b1'
    rw [h4t] at b2; cases b2
    rw [e, va_up_self]
    rw [e] at b1 b3 b4 b5 b6 b7 b8
    exact ⟨_, _, (p3 i.toNat (by omega)).trans b1, c.2.2.2.trans h4t, c.2.1.trans b3, c.2.2.1.trans b4, by rw [c.1 trivial]; exact b5, by omega, b7, b8.1, by omega⟩
  · rw [va_up_ne _ _ e]
    have n1 := (no (by omega) b1 e).2 q w h4t b2
    exact ⟨u, w, (p3 j (by omega)).trans b1, c.2.2.2.trans b2, c.2.1.trans b3, c.2.2.1.trans b4, by rw [c.1 trivial]; exact b5, (p5 j u w (by omega) b1 b2 n1).trans b6, b7, b8⟩
theorem tab_oth {w x cc dd : Int} {y : Option Nat} (h : TABR sk iv rv v a) (hn : iv2 (sk 22) 2 = iv (sk 22) 2) (hp : PTAB (fun _ => True) (fun _ => True) sk iv rv iv2 rv2) (hs : PPSH w y sk iv rv iv2 rv2) (hq : TOTH w x cc dd v a v2 a2) (hw : w ≠ 1 ∧ w ≠ 2) : TABR sk iv2 rv2 v2 a2 := by
  obtain ⟨h1, h2, h3, h4, h5, h6, h7⟩ := h
  obtain ⟨p3, p4, p5⟩ := hp
  obtain ⟨q1, q2, q3, q4, q5, q6⟩ := hq
  refine ⟨by omega, fun j hj => ?_, h3.keep (by omega) (fun i hi => p3 i (by omega)) (fun i t hi ht => (p4 i t (by omega) ht).2.2.2), by have := q6.1; have := hs.1; omega, h5.push h1 h4 h7 (by omega) p3 hs q6 (fun e => absurd e (by omega)), by omega, by have := q6.1; omega⟩
  obtain ⟨u, q, b1, b2, b3, b4, b5, b6, b7, b8⟩ := h2 j (by omega)
  have c := p4 j u (by omega) b1
  rw [q2, q3, q4, q5]
  exact ⟨u, q, (p3 j (by omega)).trans b1, c.2.2.2.trans b2, c.2.1.trans b3, c.2.2.1.trans b4, by rw [c.1 trivial]; exact b5, (p5 j u q (by omega) b1 b2 trivial).trans b6, b7, b8⟩
theorem tab_undo {ln ln2 : Nat → Nat} {ch : Nat} (h : TABR sk iv rv v a) (hS : STK ln v a) (hS2 : STK ln2 v2 a2) (h0 : v 19 ≠ 0) (hc : el rv (sk 23) (iv (sk 23) 2 - 1).toNat = some ch) (hp : PUND ch sk iv rv iv2 rv2) (hq : TUND v a v2 a2) : TABR sk iv2 rv2 v2 a2 := by
  obtain ⟨_, T0, R0, hent, _⟩ := STK.pop hS h0
  have hh := h
  obtain ⟨h1, h2, h3, h4, h5, h6, h7⟩ := h
  obtain ⟨p1, p2, p3⟩ := hp
  obtain ⟨q1, q2, q3, q4, _, q5⟩ := hq
  obtain ⟨c, g1, g2, g3⟩ := h5 (iv (sk 23) 2 - 1).toNat (by omega)
  rw [hc] at g1; cases g1
  rw [show 4 * (iv (sk 23) 2 - 1).toNat = (v 19 - 4).toNat by omega] at g2 g3
  rw [show (v 19 - 4).toNat + 1 = (v 19 - 4 + 1).toNat by omega] at g3
  have chp : (∀ j : Nat, (j : Int) < v2 4 → el rv2 (sk 22) j = el rv (sk 22) j) → CHP sk iv2 rv2 v2 a2 := by
    intro he k hk
    obtain ⟨c, b1, b2, b3⟩ := h5 k (by omega)
    have g := p2 k (by omega)
    have g4 := g.2 c b1
    have lt := hS2.lt k (by omega)
    rw [q2] at lt ⊢
    refine ⟨c, g.1.trans b1, g4.1.trans b2, fun hw => ?_⟩
    have l2 := lt hw
    exact ⟨l2, g4.2.trans ((b3 hw).2.trans (he _ (by omega)).symm)⟩
  rcases q5 with ⟨w1, w2, w3, w4, _⟩ | ⟨w1, w2, w3, w4, _⟩ | ⟨w1, w2, w3, w4, _⟩ | ⟨w1, w2, w3, w4, _⟩ | ⟨w1, w2, w3, w4, _⟩
  · obtain ⟨e1, _, _⟩ := hent.e0 w1
    rcases p3 with ⟨d1, d2, d3, d4, d5⟩ | ⟨d1, _⟩ | ⟨d1, _⟩ | ⟨d1, _⟩
    · refine ⟨by omega, fun j hj => ?_, h3.keep (by omega) (fun i hi => d3 i (by omega)) (fun i t hi ht => (d4 i t (by omega) ht).2.2.2), by omega, chp (fun j hj => d3 j (by omega)), by omega, by omega⟩
      obtain ⟨u, q, b1, b2, b3, b4, b5, b6, b7, b8⟩ := h2 j (by omega)
      have c := d4 j u (by omega) b1
      rw [w3, w4, q3, q4]
      exact ⟨u, q, (d3 j (by omega)).trans b1, c.2.2.2.trans b2, c.2.1.trans b3, c.2.2.1.trans b4, by rw [c.1 trivial]; exact b5, (d5 j u q (by omega) b1 b2 trivial).trans b6, b7, b8⟩
    · omega
    · omega
    · omega
  · obtain ⟨e1, _, _⟩ := hent.e1 w1
    rcases p3 with ⟨d1, _⟩ | ⟨d1, t, d2, d3, ⟨d4, d5, d6⟩, d7⟩ | ⟨d1, _⟩ | ⟨d1, _⟩
    · omega
    · obtain ⟨_, x2⟩ := g3 (Or.inl w1)
      have x3 := (x2.symm.trans d2)
      have no := fun {j u : Nat} => hh.no (j := j) (u := u) e1.1 e1.2 x3
      refine ⟨by omega, fun j hj => ?_, h3.keep (by omega) (fun i hi => d4 i (by omega)) (fun i t hi ht => (d5 i t (by omega) ht).2.2.2), by omega, chp (fun j hj => d4 j (by omega)), by omega, by omega⟩
      obtain ⟨u, q, b1, b2, b3, b4, b5, b6, b7, b8⟩ := h2 j (by omega)
      have c := d5 j u (by omega) b1
      have d := d6 j u q (by omega) b1 b2 trivial
      rw [w3, w4, q3, q4]
      by_cases e : j = (a 18 (v 19 - 4 + 1).toNat).toNat
      · have b1' := b1
        rw [e, x3] at b1'; cases b1'
        rw [e, va_up_self]
        rw [e] at b1 b3 b4 b6 b7 b8
        exact ⟨_, _, (d4 _ (by omega)).trans b1, c.2.2.2.trans b2, c.2.1.trans b3, c.2.2.1.trans b4, by omega, d.trans b6, b7, Or.inr rfl, b8.2⟩
      · rw [va_up_ne _ _ e]
        exact ⟨u, q, (d4 j (by omega)).trans b1, c.2.2.2.trans b2, c.2.1.trans b3, c.2.2.1.trans b4, by rw [c.1 (no (by omega) b1 e).1]; exact b5, d.trans b6, b7, b8⟩
    · omega
    · omega
  · obtain ⟨e1, e2, _, _⟩ := hent.e2 w1
    rcases p3 with ⟨d1, _⟩ | ⟨d1, _⟩ | ⟨d1, t, r, d2, d8, d3, ⟨d4, d5, d6⟩, d7⟩ | ⟨d1, _⟩
    · omega
    · omega
    · obtain ⟨_, x2⟩ := g3 (Or.inr w1)
      have x3 := (x2.symm.trans d2)
      have no := fun {j u : Nat} => hh.no (j := j) (u := u) e1.1 e1.2 x3
      refine ⟨by omega, fun j hj => ?_, h3.keep (by omega) (fun i hi => d4 i (by omega)) (fun i t hi ht => (d5 i t (by omega) ht).2.2.2), by omega, chp (fun j hj => d4 j (by omega)), by omega, by omega⟩
      obtain ⟨u, q, b1, b2, b3, b4, b5, b6, b7, b8⟩ := h2 j (by omega)
      have c := d5 j u (by omega) b1
      rw [w3, w4, q3, q4]
      by_cases e : j = (a 18 (v 19 - 4 + 1).toNat).toNat
      · have b1' := b1
        rw [e, x3] at b1'; cases b1'
        rw [d8] at b2; cases b2
        rw [e, va_up_self]
        rw [e] at b1 b3 b4 b5 b6 b7 b8
        exact ⟨_, _, (d4 _ (by omega)).trans b1, c.2.2.2.trans d8, c.2.1.trans b3, c.2.2.1.trans b4, by rw [c.1 trivial]; exact b5, by omega, b7, b8.1, by omega⟩
      · rw [va_up_ne _ _ e]
        have n1 := (no (by omega) b1 e).2 r q d8 b2
        exact ⟨u, q, (d4 j (by omega)).trans b1, c.2.2.2.trans b2, c.2.1.trans b3, c.2.2.1.trans b4, by rw [c.1 trivial]; exact b5, (d6 j u q (by omega) b1 b2 n1).trans b6, b7, b8⟩
    · omega
  · rcases p3 with ⟨d1, _⟩ | ⟨d1, _⟩ | ⟨d1, _⟩ | ⟨d1, d3, ⟨d4, d5, d6⟩⟩
    · omega
    · omega
    · omega
    · refine ⟨by omega, fun j hj => ?_, h3.keep (by omega) (fun i hi => d4 i (by omega)) (fun i t hi ht => (d5 i t (by omega) ht).2.2.2), by omega, chp (fun j hj => d4 j (by omega)), by omega, by omega⟩
      obtain ⟨u, q, b1, b2, b3, b4, b5, b6, b7, b8⟩ := h2 j (by omega)
      have c := d5 j u (by omega) b1
      rw [w3, w4, q3, q4]
      exact ⟨u, q, (d4 j (by omega)).trans b1, c.2.2.2.trans b2, c.2.1.trans b3, c.2.2.1.trans b4, by rw [c.1 trivial]; exact b5, (d6 j u q (by omega) b1 b2 trivial).trans b6, b7, b8⟩
  · rcases p3 with ⟨d1, _⟩ | ⟨d1, _⟩ | ⟨d1, _⟩ | ⟨d1, d3, ⟨d4, d5, d6⟩⟩
    · omega
    · omega
    · omega
    · refine ⟨by omega, fun j hj => ?_, h3.keep (by omega) (fun i hi => d4 i (by omega)) (fun i t hi ht => (d5 i t (by omega) ht).2.2.2), by omega, chp (fun j hj => d4 j (by omega)), by omega, by omega⟩
      obtain ⟨u, q, b1, b2, b3, b4, b5, b6, b7, b8⟩ := h2 j (by omega)
      have c := d5 j u (by omega) b1
      rw [w3, w4, q3, q4]
      exact ⟨u, q, (d4 j (by omega)).trans b1, c.2.2.2.trans b2, c.2.1.trans b3, c.2.2.1.trans b4, by rw [c.1 trivial]; exact b5, (d6 j u q (by omega) b1 b2 trivial).trans b6, b7, b8⟩
theorem tab_zero (h1 : iv (sk 22) 2 = 0) (h2 : iv (sk 23) 2 = 0) (h3 : v 4 = 0) (h4 : v 19 = 0) : TABR sk iv rv v a := ⟨by omega, fun i hi => absurd hi (by omega), fun i j t u q hi => absurd hi (by omega), by omega, fun k hk => absurd hk (by omega), by omega, by omega⟩
theorem tbl_both {x y f1 f2 : Int} (h : TABR sk iv rv v a) (hp : PTBL x y i f1 sk iv rv iv2 rv2) (hq : ((f2 = -1 ∧ TSAME v a v2 a2 ∧ ¬ (0 ≤ x ∧ x ≤ 4 ∧ (y = 6 ∨ y = 8) ∧ v 4 ≠ 30 ∧ (x < 1 ∨ 3 < x ∨ (0 ≤ i ∧ i < v 4 ∧ a 5 i.toNat = 1 ∧ a 6 i.toNat ≤ 3)))) ∨ (f2 = v 4 ∧ (0 ≤ x ∧ x ≤ 4 ∧ (y = 6 ∨ y = 8) ∧ v 4 ≠ 30 ∧ (x < 1 ∨ 3 < x ∨ (0 ≤ i ∧ i < v 4 ∧ a 5 i.toNat = 1 ∧ a 6 i.toNat ≤ 3))) ∧ TNEW x y (if x < 1 ∨ 3 < x then -1 else i) (-1) v a v2 a2))) : f1 = f2 ∧ TABR sk iv2 rv2 v2 a2 := by
  refine hv2 (h.1) (h.2.2.2.2.2.1) (fun h1 h30 => ?_)
  rcases hp with ⟨p1, p2, p3⟩ | ⟨p1, ⟨p2, p4⟩, p3⟩ <;> rcases hq with ⟨q1, q2, q3⟩ | ⟨q1, q2, q3⟩
  · exact ⟨by omega, tab_same h p2 q2⟩
  · refine absurd ⟨⟨by omega, by omega, by omega, by omega⟩, ?_⟩ p3
    by_cases e : x < 1 ∨ 3 < x
    · rcases e with e | e
      · exact Or.inl e
      · exact Or.inr (Or.inl e)
    · have g : 0 ≤ i ∧ i < v 4 ∧ a 5 i.toNat = 1 ∧ a 6 i.toNat ≤ 3 := by omega
      obtain ⟨t, ht⟩ := h.la g.1 g.2.1 g.2.2.1
      exact Or.inr (Or.inr ⟨t, ht, by rw [(h.al ht).2.1]; exact g.2.2.2⟩)
  · refine absurd ?_ q3
    have g : x < 1 ∨ 3 < x ∨ (0 ≤ i ∧ i < v 4 ∧ a 5 i.toNat = 1 ∧ a 6 i.toNat ≤ 3) := by
      rcases p4 with e | e | ⟨t, ht, e⟩
      · exact Or.inl e
      · exact Or.inr (Or.inl e)
      · have w := h.al ht
        rw [w.2.1] at e
        exact Or.inr (Or.inr ⟨w.1.1, w.1.2.1, w.1.2.2, e⟩)
    clear p4 q3
    exact ⟨by omega, by omega, by omega, by omega, g⟩
  · clear p4
    exact ⟨by omega, tab_new h p3 q3 p2.2.2.1 (by omega)⟩
theorem joi_both {j f1 f2 : Int} (h : TABR sk iv rv v a) (hp : PJOI i j f1 sk iv rv iv2 rv2) (hq : ((f2 = -1 ∧ TSAME v a v2 a2 ∧ ¬ (0 ≤ i ∧ i < v 4 ∧ a 5 i.toNat = 1 ∧ a 6 i.toNat ≤ 3 ∧ 0 ≤ j ∧ j < v 4 ∧ a 5 j.toNat = 1 ∧ a 6 j.toNat ≤ 3 ∧ v 4 ≠ 30)) ∨ (f2 = v 4 ∧ (0 ≤ i ∧ i < v 4 ∧ a 5 i.toNat = 1 ∧ a 6 i.toNat ≤ 3 ∧ 0 ≤ j ∧ j < v 4 ∧ a 5 j.toNat = 1 ∧ a 6 j.toNat ≤ 3 ∧ v 4 ≠ 30) ∧ TNEW 5 (max (a 7 i.toNat) (a 7 j.toNat)) i j v a v2 a2))) : f1 = f2 ∧ TABR sk iv2 rv2 v2 a2 := by
  refine hv2 (h.1) (h.2.2.2.2.2.1) (fun h1 h30 => ?_)
  rcases hp with ⟨p1, p2, p3⟩ | ⟨p1, p2, t, u, ⟨ht, et⟩, ⟨hu, eu⟩, p3⟩ <;> rcases hq with ⟨q1, q2, q3⟩ | ⟨q1, q2, q3⟩
  · exact ⟨by omega, tab_same h p2 q2⟩
  · obtain ⟨t, ht⟩ := h.la (i := i) (by omega) (by omega) (by omega)
    obtain ⟨u, hu⟩ := h.la (i := j) (by omega) (by omega) (by omega)
    exact absurd ⟨by omega, ⟨t, ht, by rw [(h.al ht).2.1]; omega⟩, ⟨u, hu, by rw [(h.al hu).2.1]; omega⟩⟩ p3
  · have w := h.al ht
    have w2 := h.al hu
    rw [w.2.1] at et
    rw [w2.2.1] at eu
    exact absurd ⟨w.1.1, w.1.2.1, w.1.2.2, et, w2.1.1, w2.1.2.1, w2.1.2.2, eu, by omega⟩ q3
  · have w := h.al ht
    refine hv3 (h.al hu) (w.2.2.2.1) (w.2.2.1) (fun w2 d1 e1 => ?_)
    refine hv2 (w2.2.2.2.1) (w2.2.2.1) (fun d2 e2 => ?_)
    rw [e1, e2] at p3
    exact ⟨by omega, tab_new h p3 q3 (by omega) (by omega)⟩
theorem drp_both {f1 f2 : Int} (h : TABR sk iv rv v a) (hp : PDRP i f1 sk iv rv iv2 rv2) (hq : ((f2 = -1 ∧ TSAME v a v2 a2 ∧ ¬ (0 ≤ i ∧ i < v 4 ∧ a 5 i.toNat = 1)) ∨ (f2 = 1 ∧ (0 ≤ i ∧ i < v 4 ∧ a 5 i.toNat = 1) ∧ TDRP i v a v2 a2))) : f1 = f2 ∧ TABR sk iv2 rv2 v2 a2 := by
  rcases hp with ⟨p1, p2, p3⟩ | ⟨p1, t, ht, p2, p3, p4, p5⟩ <;> rcases hq with ⟨q1, q2, q3⟩ | ⟨q1, q2, q3⟩
  · exact ⟨by omega, tab_same h p2 q2⟩
  · obtain ⟨t, ht⟩ := h.la q2.1 q2.2.1 q2.2.2
    exact absurd ht (p3 t)
  · exact absurd (h.al ht).1 q3
  · exact ⟨by omega, tab_drop h ht p2 p3 p4 p5 q3⟩
theorem rul_both {x n f1 f2 : Int} (h : TABR sk iv rv v a) (hs : iv (sk 2) 2 = v 3) (hc : CT iv rv (sk 2) (a 2)) (hp : PRUL i x n f1 sk iv rv iv2 rv2) (hq : ((f2 = -1 ∧ TSAME v a v2 a2 ∧ ¬ ((0 ≤ i ∧ i < v 4 ∧ a 5 i.toNat = 1 ∧ a 6 i.toNat ≠ 5 ∧ 0 ≤ x ∧ x ≤ 5 ∧ 1 ≤ n ∧ n ≤ 8 ∧ 1 ≤ v 3 - n ∧ v 3 - n ≤ 4 ∧ a 10 i.toNat ≠ 200) ∧ ACL (a 2) n (v 3 - n) (DC (a 7 i.toNat)) ∧ LTK (a 2) n)) ∨ (f2 = a 10 i.toNat ∧ ((0 ≤ i ∧ i < v 4 ∧ a 5 i.toNat = 1 ∧ a 6 i.toNat ≠ 5 ∧ 0 ≤ x ∧ x ≤ 5 ∧ 1 ≤ n ∧ n ≤ 8 ∧ 1 ≤ v 3 - n ∧ v 3 - n ≤ 4 ∧ a 10 i.toNat ≠ 200) ∧ ACL (a 2) n (v 3 - n) (DC (a 7 i.toNat)) ∧ LTK (a 2) n) ∧ TRUL i x n v a v2 a2))) : f1 = f2 ∧ TABR sk iv2 rv2 v2 a2 := by
  rcases hp with ⟨p1, p2, p3⟩ | ⟨t, q, ht, h4, p1, p2, p3, p4, p5, p6⟩ <;> rcases hq with ⟨q1, q2, q3⟩ | ⟨q1, ⟨q2, q4, q5⟩, q3⟩
  · exact ⟨by omega, tab_same h p2 q2⟩
  · obtain ⟨t, ht⟩ := h.la (i := i) (by omega) (by omega) (by omega)
    obtain ⟨w1, w2, w3, w4, q, w5, w6⟩ := h.al ht
    obtain ⟨_, _, b1, b2, _, _, _, _, _, _, b9⟩ := h.2.1 i.toNat (by omega)
    refine absurd ⟨⟨by omega, by omega, by omega, by omega, by omega, by omega, by omega, by omega⟩, ?_, q5⟩ (p3 (a 2) t q hc ht w5 w4)
    rw [hs, w3]; exact q4
  · obtain ⟨w1, w2, w3, w4, q', w5, w6⟩ := h.al ht
    rw [h4] at w5; cases w5
    obtain ⟨⟨r1, r2, r3, r4, r5, r6, r7, r8⟩, r9, r10⟩ := p2 (a 2) hc w4
    rw [hs, w3] at r9
    exact absurd ⟨⟨w1.1, w1.2.1, w1.2.2, by omega, by omega, by omega, by omega, by omega, by omega, by omega, by omega⟩, r9, r10⟩ q3
  · obtain ⟨w1, w2, w3, w4, q', w5, w6⟩ := h.al ht
    rw [h4] at w5; cases w5
    obtain ⟨⟨r1, r2, r3, r4, r5, r6, r7, r8⟩, r9, r10⟩ := p2 (a 2) hc w4
    exact ⟨by omega, tab_rule h ht h4 p3 p4 p5 r8 p6 q3⟩
theorem cnd_both {r x f1 f2 : Int} (h : TABR sk iv rv v a) (hp : PCND i r x f1 sk iv rv iv2 rv2) (hq : ((f2 = -1 ∧ TSAME v a v2 a2 ∧ ¬ (0 ≤ i ∧ i < v 4 ∧ a 5 i.toNat = 1 ∧ a 6 i.toNat ≠ 5 ∧ 0 ≤ r ∧ r < a 10 i.toNat ∧ 0 ≤ x ∧ x ≤ 5)) ∨ (f2 = a 11 (200 * i + r).toNat ∧ (0 ≤ i ∧ i < v 4 ∧ a 5 i.toNat = 1 ∧ a 6 i.toNat ≠ 5 ∧ 0 ≤ r ∧ r < a 10 i.toNat ∧ 0 ≤ x ∧ x ≤ 5) ∧ TCND i r x v a v2 a2))) : TABR sk iv2 rv2 v2 a2 := by
  rcases hp with ⟨p1, p2, p3⟩ | ⟨t, q, ht, h4, p1, p3, p4, p6⟩ <;> rcases hq with ⟨q1, q2, q3⟩ | ⟨q1, q2, q3⟩
  · exact tab_same h p2 q2
  · obtain ⟨t, ht⟩ := h.la (i := i) (by omega) (by omega) (by omega)
    obtain ⟨w1, w2, w3, w4, q, w5, w6⟩ := h.al ht
    exact absurd ⟨by omega, by omega, by omega, by omega, by omega⟩ (p3 t q ht w5)
  · obtain ⟨w1, w2, w3, w4, q', w5, w6⟩ := h.al ht
    rw [h4] at w5; cases w5
    exact absurd ⟨w1.1, w1.2.1, w1.2.2, by omega, by omega, by omega, by omega, by omega⟩ q3
  · exact tab_oth h p3 p4 p6 q3.1 (by decide)
theorem ind_both {x f1 f2 : Int} (h : TABR sk iv rv v a) (hs : iv (sk 2) 2 = v 3) (hc : CT iv rv (sk 2) (a 2)) (hp : PIND i x f1 sk iv rv iv2 rv2) (hq : ((f2 = -1 ∧ TSAME v a v2 a2 ∧ ¬ ((0 ≤ x ∧ x ≤ 3 ∧ 0 ≤ i ∧ i < v 4 ∧ a 5 i.toNat = 1 ∧ ((x = 0 ∧ a 6 i.toNat ≤ 2) ∨ (x = 1 ∧ a 6 i.toNat = 2) ∨ (x ≠ 0 ∧ x ≠ 1 ∧ a 6 i.toNat = 5)) ∧ v 3 ≤ 4) ∧ ACL (a 2) 0 (v 3) (DC (a 7 i.toNat)) ∧ True)) ∨ (f2 = v 3 ∧ ((0 ≤ x ∧ x ≤ 3 ∧ 0 ≤ i ∧ i < v 4 ∧ a 5 i.toNat = 1 ∧ ((x = 0 ∧ a 6 i.toNat ≤ 2) ∨ (x = 1 ∧ a 6 i.toNat = 2) ∨ (x ≠ 0 ∧ x ≠ 1 ∧ a 6 i.toNat = 5)) ∧ v 3 ≤ 4) ∧ ACL (a 2) 0 (v 3) (DC (a 7 i.toNat)) ∧ True) ∧ TIND i x v a v2 a2))) : f1 = f2 ∧ TABR sk iv2 rv2 v2 a2 := by
  rcases hp with ⟨p1, p2, p3⟩ | ⟨p1, t, ht, p2, p3, p4, p6⟩ <;> rcases hq with ⟨q1, q2, q3⟩ | ⟨q1, ⟨q2, q4, _⟩, q3⟩
  · exact ⟨by omega, tab_same h p2 q2⟩
  · obtain ⟨t, ht⟩ := h.la (i := i) (by omega) (by omega) (by omega)
    obtain ⟨w1, w2, w3, w4, q, w5, w6⟩ := h.al ht
    refine absurd ⟨⟨by omega, by omega, by omega, by omega⟩, ?_⟩ (p3 (a 2) t hc ht w4)
    rw [hs, w3]; exact q4
  · obtain ⟨w1, w2, w3, w4, q', w5, w6⟩ := h.al ht
    obtain ⟨⟨r1, r2, r3, r4⟩, r9⟩ := p2 (a 2) hc w4
    rw [hs, w3] at r9
    exact absurd ⟨⟨by omega, by omega, w1.1, w1.2.1, w1.2.2, by omega, by omega⟩, r9, trivial⟩ q3
  · exact ⟨by omega, tab_oth h p3 p4 p6 q3.1 (by decide)⟩
theorem und_both {f1 f2 : Int} (h : TABR sk iv rv v a) (hp : PUNX f1 sk iv rv iv2 rv2) (hq : (∃ ln, STK ln v a) ∧ (∃ ln, STK ln v2 a2) ∧ ((v 19 = 0 ∧ f2 = 0 ∧ TSAME v a v2 a2) ∨ (v 19 ≠ 0 ∧ f2 = 1 ∧ TUND v a v2 a2))) : f1 = f2 ∧ TABR sk iv2 rv2 v2 a2 := by
  obtain ⟨⟨ln, s1⟩, ⟨ln2, s2⟩, hq⟩ := hq
  have h4 := h.2.2.2.1
  rcases hp with ⟨p1, p2, p3⟩ | ⟨p1, p2, ch, p3, p4⟩ <;> rcases hq with ⟨q1, q2, q3⟩ | ⟨q1, q2, q3⟩
  · exact ⟨by omega, tab_same h p3 q3⟩
  · omega
  · omega
  · exact ⟨by omega, tab_undo h s1 s2 q1 p3 p4 q3⟩
end TABS
end
section
def ROWR (ln : Nat → Nat) (iv : Nat → Nat → Int) (rv : Nat → Nat → Option Nat) (a : Nat → Nat → Int) (w R : Nat) : Prop := iv w 3 = a 11 R ∧ iv w 0 = 4 ∧ ∃ l c, rv w 1 = some l ∧ rv w 2 = some c ∧ ((ln l : Nat) : Int) = a 12 R ∧ ((ln c : Nat) : Int) = a 13 R ∧ (∀ k : Nat, k < ln l → iv l k = a 14 (8 * R + k) ∧ 33 ≤ iv l k ∧ iv l k ≤ 125) ∧ (∀ k : Nat, k < ln c → iv c k = a 15 (4 * R + k) ∧ 1 ≤ iv c k ∧ iv c k ≤ 255)
def INDR (ln : Nat → Nat) (iv : Nat → Nat → Int) (rv : Nat → Nat → Option Nat) (r : Option Nat) (w m : Int) (y : Nat → Int) : Prop := (r = none ∧ m = 0) ∨ ∃ b c, r = some b ∧ (iv b 0 = w ∧ ∃ lb, rv b 1 = some lb ∧ ln lb = 0) ∧ rv b 2 = some c ∧ ((ln c : Nat) : Int) = m ∧ 0 < m ∧ ∀ k : Nat, k < ln c → iv c k = y k ∧ 1 ≤ iv c k ∧ iv c k ≤ 255
def BASR (sk : Nat → Nat) (rv : Nat → Nat → Option Nat) (i : Nat) (r : Option Nat) (x : Int) : Prop := (x = -1 ∧ r = none) ∨ (0 ≤ x ∧ x < (i : Int) ∧ r = el rv (sk 22) x.toNat)
def TB2 (o : Nat → Nat) (sk : Nat → Nat) (ln : Nat → Nat) (iv : Nat → Nat → Int) (rv : Nat → Nat → Option Nat) (a : Nat → Nat → Int) (i t : Nat) : Prop := ∃ q s x n, (rv t 4 = some q ∧ rv t 5 = some s ∧ rv s 1 = some x ∧ rv t 6 = some n) ∧ (o t = i ∧ o q = i ∧ o s = i ∧ o x = i ∧ o n = i) ∧ (BASR sk rv i (rv t 2) (a 8 i) ∧ BASR sk rv i (rv t 3) (a 9 i)) ∧ (iv s 2 = a 10 i ∧ iv q 2 = a 10 i) ∧ (∀ r : Nat, (r : Int) < a 10 i → ∃ w, el rv q r = some w ∧ o w = 200 * i + r ∧ ROWR ln iv rv a w (200 * i + r)) ∧ CT iv rv s (fun r => a 14 (8 * (200 * i + r))) ∧ (∀ w : Nat, w < 4 → INDR ln iv rv (rv n w) (w : Int) (a 16 (4 * i + w)) (fun k => a 17 (4 * (4 * i + w) + k)))
def CH2 (sk : Nat → Nat) (ln : Nat → Nat) (iv : Nat → Nat → Int) (rv : Nat → Nat → Option Nat) (v : Nat → Int) (a : Nat → Nat → Int) (k ch : Nat) : Prop := (a 18 (4 * k) = 3 → ((0 ≤ a 18 (4 * k + 1) ∧ a 18 (4 * k + 1) < v 4) ∧ 0 ≤ a 18 (4 * k + 2) ∧ a 18 (4 * k + 2) < a 10 (a 18 (4 * k + 1)).toNat) ∧ (∃ t q, el rv (sk 22) (a 18 (4 * k + 1)).toNat = some t ∧ rv t 4 = some q ∧ rv ch 2 = el rv q (a 18 (4 * k + 2)).toNat) ∧ iv ch 3 = a 18 (4 * k + 3)) ∧ (a 18 (4 * k) = 4 → (0 ≤ a 18 (4 * k + 1) ∧ a 18 (4 * k + 1) < 4 * v 4) ∧ rv ch 1 = el rv (sk 22) (a 18 (4 * k + 1) / 4).toNat ∧ iv ch 3 = a 18 (4 * k + 1) % 4 ∧ INDR ln iv rv (rv ch 2) (a 18 (4 * k + 1) % 4) (a 18 (4 * k + 2)) (fun j => UPK (a 18 (4 * k + 3)) (a 18 (4 * k + 2)) (j : Int)))
def RP2 (o : Nat → Nat) (sk : Nat → Nat) (ln : Nat → Nat) (iv : Nat → Nat → Int) (rv : Nat → Nat → Option Nat) (v : Nat → Int) (a : Nat → Nat → Int) : Prop := (∀ i : Nat, (i : Int) < v 4 → ∃ t, el rv (sk 22) i = some t ∧ TB2 o sk ln iv rv a i t) ∧ (∀ k : Nat, (k : Int) < iv (sk 23) 2 → ∃ ch, el rv (sk 23) k = some ch ∧ CH2 sk ln iv rv v a k ch)
def IDD (sk : Nat → Nat) (L2 : List Nat) (cl2 ln2 : Nat → Nat) (iv : Nat → Nat → Int) (rv : Nat → Nat → Option Nat) (iv2 : Nat → Nat → Int) (rv2 : Nat → Nat → Option Nat) (n : Nat) (j : Int) : Prop := (iv (sk 2) 2 = 0 ∧ rv2 n j.toNat = none) ∨ ∃ w c, rv2 n j.toNat = some w ∧ (ty L2 cl2 w 20 ∧ (iv2 w 0 = j ∧ ∃ lb, rv2 w 1 = some lb ∧ ln2 lb = 0) ∧ rv2 w 2 = some c) ∧ ty L2 cl2 c 66 ∧ ln2 c = (iv (sk 2) 2).toNat ∧ 0 < iv (sk 2) 2 ∧ ∀ ss, CT iv rv (sk 2) ss → ∀ k : Nat, k < ln2 c → iv2 c k = ss k
def ARW (a a2 : Nat → Nat → Int) (R : Nat) : Prop := a2 12 R = a 12 R ∧ a2 13 R = a 13 R ∧ (∀ k : Nat, k < 8 → a2 14 (8 * R + k) = a 14 (8 * R + k)) ∧ (∀ k : Nat, k < 4 → a2 15 (4 * R + k) = a 15 (4 * R + k))
def AIN (a a2 : Nat → Nat → Int) (I : Nat) : Prop := a2 16 I = a 16 I ∧ ∀ k : Nat, k < 4 → a2 17 (4 * I + k) = a 17 (4 * I + k)
section REPS
variable {g : Nat} {sk o o2 : Nat → Nat} {L L2 : List Nat} {cl ln cl2 ln2 : Nat → Nat} {iv iv2 : Nat → Nat → Int} {rv rv2 : Nat → Nat → Option Nat} {v v2 : Nat → Int} {a a2 : Nat → Nat → Int} {C Q S X : Nat → Prop} {N : Nat → Nat → Prop} {w R i t q s x n k ch : Nat}
theorem el26 (h : WT g sk L cl ln iv rv) (tq : ty L cl q 26) {r : Nat} (hi : (r : Int) < iv q 2) (he : el rv q r = some w) : ty L cl w 20 := by
  obtain ⟨b, q1, q2, q3, q4⟩ := h.ed2 tq rfl rfl (by omega)
  rw [el_of q1] at he
  obtain ⟨c, w1, w2⟩ := h.elem tq rfl q1 q2 rfl rfl hi
  rw [he] at w1; cases w1
  exact w2
theorem ty4 (hW : WT g sk L cl ln iv rv) (tt : ty L cl t 100) (h4 : rv t 4 = some q) : ty L cl q 26 := by
  obtain ⟨b, w1, w2⟩ := hW.ref tt 4 rfl rfl rfl
  rw [w1] at h4; cases h4
  exact w2
theorem ROWR.keep (h : ROWR ln iv rv a w R) (tw : ty L cl w 20) (hW : WT g sk L cl ln iv rv) (hX : XT L cl ln L2 cl2 ln2) (hk : KP L cl C Q S X N iv rv iv2 rv2) (hc : iv2 w 3 = a2 11 R) (ha : ARW a a2 R) : ROWR ln2 iv2 rv2 a2 w R := by
  obtain ⟨_, e2, l, c, e3, e4, e5, e6, e7, e8⟩ := h
  obtain ⟨l', w1, tl⟩ := hW.ref tw 1 rfl rfl rfl
  rw [e3] at w1; cases w1
  obtain ⟨c', w2, tc⟩ := hW.ref tw 2 rfl rfl rfl
  rw [e4] at w2; cases w2
  refine hv5 (hk.rw0 w tw) ((hX l tl.1).2.2) ((hX c tc.1).2.2) (show ln l ≤ 8 from (hW.len tl rfl).2) (show ln c ≤ 4 from (hW.len tc rfl).2) (fun q n1 n2 b1 b2 => ?_)
  refine ⟨hc, q.1.trans e2, l, c, q.2.1.trans e3, q.2.2.trans e4, by rw [n1, ha.1]; exact e5, by rw [n2, ha.2.1]; exact e6, fun k hk2 => ?_, fun k hk2 => ?_⟩
  · rw [n1] at hk2
    rw [hk.le l tl k, ha.2.2.1 k (by omega)]; exact e7 k hk2
  · rw [n2] at hk2
    rw [hk.ce c tc k, ha.2.2.2 k (by omega)]; exact e8 k hk2
theorem INDR.keep {r : Option Nat} {z m : Int} {y y2 : Nat → Int} (h : INDR ln iv rv r z m y) (hr : ∀ b, r = some b → ty L cl b 20) (hW : WT g sk L cl ln iv rv) (hX : XT L cl ln L2 cl2 ln2) (hk : KP L cl C Q S X N iv rv iv2 rv2) (hy : ∀ k : Nat, (k : Int) < m → k < 4 → y2 k = y k) : INDR ln2 iv2 rv2 r z m y2 := by
  rcases h with h | ⟨b, c, e1, e2, e3, e4, e5, e6⟩
  · exact Or.inl h
  · have tb := hr b e1
    obtain ⟨c', w2, tc⟩ := hW.ref tb 2 rfl rfl rfl
    rw [e3] at w2; cases w2
    refine hv3 (hk.rw0 b tb) ((hX c tc.1).2.2) (show ln c ≤ 4 from (hW.len tc rfl).2) (fun q n2 b2 => ?_)
    obtain ⟨e2, lb, e7, e8⟩ := e2
    obtain ⟨l', w3, tl⟩ := hW.ref tb 1 rfl rfl rfl
    rw [e7] at w3; cases w3
    refine Or.inr ⟨b, c, e1, ⟨q.1.trans e2, lb, q.2.1.trans e7, by rw [(hX lb tl.1).2.2]; exact e8⟩, q.2.2.trans e3, by rw [n2]; exact e4, e5, fun k hk2 => ?_⟩
    rw [n2] at hk2
    rw [hk.ce c tc k, hy k (by omega) (by omega)]; exact e6 k hk2
theorem BASR.keep {r : Option Nat} {z : Int} (h : BASR sk rv i r z) (he : ∀ j : Nat, j < i → el rv2 (sk 22) j = el rv (sk 22) j) : BASR sk rv2 i r z := by
  rcases h with h | ⟨h1, h2, h3⟩
  · exact Or.inl h
  · exact Or.inr ⟨h1, h2, h3.trans (he _ (by omega)).symm⟩
theorem rows_keep {z : Int} (hr : ∀ r : Nat, (r : Int) < z → ∃ w, el rv q r = some w ∧ o w = 200 * i + r ∧ ROWR ln iv rv a w (200 * i + r)) (tq : ty L cl q 26) (hn : z ≤ iv q 2) (hel : ∀ r : Nat, (r : Int) < z → el rv2 q r = el rv q r) (hW : WT g sk L cl ln iv rv) (hX : XT L cl ln L2 cl2 ln2) (hk : KP L cl C Q S X N iv rv iv2 rv2) (ho : ∀ b ∈ L, o2 b = o b) (hc : ∀ r w : Nat, (r : Int) < z → el rv q r = some w → ty L cl w 20 → o w = 200 * i + r → iv w 3 = a 11 (200 * i + r) → iv2 w 3 = a2 11 (200 * i + r)) (ha : ∀ r : Nat, (r : Int) < z → ARW a a2 (200 * i + r)) : ∀ r : Nat, (r : Int) < z → ∃ w, el rv2 q r = some w ∧ o2 w = 200 * i + r ∧ ROWR ln2 iv2 rv2 a2 w (200 * i + r) := by
  intro r hz
  obtain ⟨w, e1, e2, e3⟩ := hr r hz
  have tw := el26 hW tq (by omega) e1
  exact ⟨w, (hel r hz).trans e1, (ho w tw.1).trans e2, e3.keep tw hW hX hk (hc r w hz e1 tw e2 e3.1) (ha r hz)⟩
theorem CT.kp {ss ss2 : Nat → Int} (h : CT iv rv s ss) (ts : ty L cl s 12) (hW : WT g sk L cl ln iv rv) (hk : KP L cl C Q S X N iv rv iv2 rv2) (h1 : rv2 s 1 = rv s 1) (h2 : iv2 s 2 ≤ iv s 2) (hx : ∀ b, rv s 1 = some b → ¬ X b) (hs : ∀ j : Nat, (j : Int) < iv2 s 2 → ss2 j = ss j) : CT iv2 rv2 s ss2 := by
  intro b hb j hj
  rw [h1] at hb
  obtain ⟨b', w1, w2⟩ := hW.ref ts 1 rfl rfl rfl
  have e := w1
  rw [hb] at e; cases e
  rw [hk.ia b w2 (hx b hb) j, hs j hj]
  exact h b hb j (by omega)
theorem inds_keep {w : Nat} (hn : INDR ln iv rv (rv n w) (w : Int) (a 16 (4 * i + w)) (fun k => a 17 (4 * (4 * i + w) + k))) (tn : ty L cl n 68) (hW : WT g sk L cl ln iv rv) (hX : XT L cl ln L2 cl2 ln2) (hk : KP L cl C Q S X N iv rv iv2 rv2) (hN : ¬ N n w) (ha : AIN a a2 (4 * i + w)) : INDR ln2 iv2 rv2 (rv2 n w) (w : Int) (a2 16 (4 * i + w)) (fun k => a2 17 (4 * (4 * i + w) + k)) := by
  rw [hk.nd n tn w hN, ha.1]
  refine hn.keep (fun b hb => ?_) hW hX hk (fun k _ hk4 => ha.2 k hk4)
  rcases hW.opt tn w rfl rfl with e | ⟨c, e1, e2⟩
  · rw [e.1] at hb; cases hb
  · rw [e1] at hb; cases hb; exact e2
theorem TB2.types (h : TB2 o sk ln iv rv a i t) (tt : ty L cl t 100) (hW : WT g sk L cl ln iv rv) : ∃ q s x n, (rv t 4 = some q ∧ rv t 5 = some s ∧ rv s 1 = some x ∧ rv t 6 = some n) ∧ (ty L cl q 26 ∧ ty L cl s 12 ∧ ty L cl x 42 ∧ ty L cl n 68) := by
  obtain ⟨q, s, x, n, ⟨e1, e2, e3, e4⟩, _⟩ := h
  obtain ⟨q', w1, w2⟩ := hW.ref tt 4 rfl rfl rfl
  rw [e1] at w1; cases w1
  obtain ⟨s', w3, w4⟩ := hW.ref tt 5 rfl rfl rfl
  rw [e2] at w3; cases w3
  obtain ⟨x', w5, w6⟩ := hW.ref w4 1 rfl rfl rfl
  rw [e3] at w5; cases w5
  obtain ⟨n', w7, w8⟩ := hW.ref tt 6 rfl rfl rfl
  rw [e4] at w7; cases w7
  exact ⟨q, s, x, n, ⟨e1, e2, e3, e4⟩, w2, w4, w6, w8⟩
theorem TB2.keep (h : TB2 o sk ln iv rv a i t) (tt : ty L cl t 100) (hW : WT g sk L cl ln iv rv) (hX : XT L cl ln L2 cl2 ln2) (hk : KP L cl C Q S X N iv rv iv2 rv2) (he : ∀ j : Nat, j < i → el rv2 (sk 22) j = el rv (sk 22) j) (ho : ∀ b ∈ L, o2 b = o b) (hQ : ∀ b, Q b → o b ≠ i) (hS : ∀ b, S b → o b ≠ i) (hXx : ∀ b, X b → o b ≠ i) (a8 : a2 8 i = a 8 i) (a9 : a2 9 i = a 9 i) (a10 : a2 10 i = a 10 i) (h200 : a 10 i ≤ 200) (hc : ∀ q r w : Nat, rv t 4 = some q → (r : Int) < a 10 i → el rv q r = some w → ty L cl w 20 → o w = 200 * i + r → iv w 3 = a 11 (200 * i + r) → iv2 w 3 = a2 11 (200 * i + r)) (hA : ∀ r : Nat, r < 200 → ARW a a2 (200 * i + r)) (hI : ∀ n w : Nat, rv t 6 = some n → ty L cl n 68 → o n = i → w < 4 → INDR ln iv rv (rv n w) (w : Int) (a 16 (4 * i + w)) (fun k => a 17 (4 * (4 * i + w) + k)) → INDR ln2 iv2 rv2 (rv2 n w) (w : Int) (a2 16 (4 * i + w)) (fun k => a2 17 (4 * (4 * i + w) + k))) : TB2 o2 sk ln2 iv2 rv2 a2 i t := by
  have hty := h.types tt hW
  obtain ⟨q, s, x, n, ⟨e1, e2, e3, e4⟩, ⟨o1, o2', o3, o4, o5⟩, ⟨b1, b2⟩, ⟨z1, z2⟩, hr, hct, hi⟩ := h
  obtain ⟨q', s', x', n', ⟨f1, f2, f3, f4⟩, tq, ts, tx, tn⟩ := hty
  rw [e1] at f1; cases f1
  rw [e2] at f2; cases f2
  rw [e3] at f3; cases f3
  rw [e4] at f4; cases f4
  refine hv3 (hk.tb t tt) (hk.it s ts (fun e => hS s e o3)) (hk.li q tq (fun e => hQ q e o2')) (fun kt ks kq => ?_)
  refine ⟨q, s, x, n, ⟨kt.2.2.1.trans e1, kt.2.2.2.1.trans e2, ks.2.trans e3, kt.2.2.2.2.trans e4⟩, ⟨(ho t tt.1).trans o1, (ho q tq.1).trans o2', (ho s ts.1).trans o3, (ho x tx.1).trans o4, (ho n tn.1).trans o5⟩, ⟨by rw [kt.1, a8]; exact b1.keep he, by rw [kt.2.1, a9]; exact b2.keep he⟩, ⟨by rw [ks.1, a10]; exact z1, by rw [kq.1, a10]; exact z2⟩, ?_, ?_, fun w hw => hI n w e4 tn o5 hw (hi w hw)⟩
  · rw [a10]
    exact rows_keep hr tq (by omega) (fun r hz => kq.2 r (by omega)) hW hX hk ho (fun r w hz he2 tw ow e => hc q r w e1 hz he2 tw ow e) (fun r hz => hA r (by omega))
  · exact hct.kp ts hW hk ks.2 (by rw [ks.1]; omega) (fun b hb eb => by rw [e3] at hb; cases hb; exact hXx _ eb o4) (fun j hj => (hA j (by rw [ks.1] at hj; omega)).2.2.1 0 (by omega))
theorem CH2.keep {T : Int} (h : CH2 sk ln iv rv v a k ch) (tch : ty L cl ch 21) (hW : WT g sk L cl ln iv rv) (hX : XT L cl ln L2 cl2 ln2) (hk : KP L cl C Q S X N iv rv iv2 rv2) (h1 : rv2 ch 1 = rv ch 1) (hs : ∀ j : Nat, j < 4 → a2 18 (4 * k + j) = a 18 (4 * k + j)) (hT2 : T ≤ v2 4) (hle : T ≤ v 4) (b3 : a 18 (4 * k) = 3 → a 18 (4 * k + 1) < T ∧ a 18 (4 * k + 2) < a2 10 (a 18 (4 * k + 1)).toNat) (b4 : a 18 (4 * k) = 4 → a 18 (4 * k + 1) < 4 * T) (he : ∀ j : Nat, (j : Int) < T → el rv2 (sk 22) j = el rv (sk 22) j) (ht4 : ∀ j t : Nat, (j : Int) < T → el rv (sk 22) j = some t → rv2 t 4 = rv t 4) (hel : ∀ j t q : Nat, (j : Int) < T → el rv (sk 22) j = some t → rv t 4 = some q → ∀ y : Nat, (y : Int) < a 10 j → (y : Int) < a2 10 j → el rv2 q y = el rv q y) : CH2 sk ln2 iv2 rv2 v2 a2 k ch := by
  have s0 := hs 0 (by omega); have s1 := hs 1 (by omega); have s2 := hs 2 (by omega); have s3 := hs 3 (by omega)
  rw [Nat.add_zero] at s0
  have kc := hk.ch ch tch
  refine ⟨fun e => ?_, fun e => ?_⟩
  · rw [s0] at e
    obtain ⟨⟨c1, c2, c3⟩, ⟨t, q, d1, d2, d3⟩, d4⟩ := h.1 e
    obtain ⟨g1, g2⟩ := b3 e
    rw [s1, s2, s3]
    refine ⟨⟨⟨c1.1, by omega⟩, c2, g2⟩, ⟨t, q, (he _ (by omega)).trans d1, (ht4 _ t (by omega) d1).trans d2, ?_⟩, kc.1.trans d4⟩
    rw [kc.2, d3]
    exact (hel _ t q (by omega) d1 d2 _ (by omega) (by omega)).symm
  · rw [s0] at e
    obtain ⟨c1, d1, d2, d3⟩ := h.2 e
    have g1 := b4 e
    rw [s1, s2, s3, kc.2]
    refine ⟨⟨c1.1, by omega⟩, (h1.trans d1).trans (he _ (by omega)).symm, kc.1.trans d2, d3.keep (fun b hb => ?_) hW hX hk (fun _ _ _ => rfl)⟩
    rcases hW.opt tch 2 rfl rfl with e2 | ⟨c, e1, e2⟩
    · rw [e2.1] at hb; cases hb
    · rw [e1] at hb; cases hb; exact e2
theorem ARW.of (h12 : a2 12 = a 12) (h13 : a2 13 = a 13) (h14 : a2 14 = a 14) (h15 : a2 15 = a 15) : ARW a a2 R := ⟨by rw [h12], by rw [h13], fun k _ => by rw [h14], fun k _ => by rw [h15]⟩
theorem AIN.of (h16 : a2 16 = a 16) (h17 : a2 17 = a 17) : AIN a a2 R := ⟨by rw [h16], fun k _ => by rw [h17]⟩
theorem TABR.r200 (h : TABR sk iv rv v a) (hi : (i : Int) < v 4) : 0 ≤ a 10 i ∧ a 10 i ≤ 200 := by
  obtain ⟨_, _, _, _, _, _, _, _, _, _, b⟩ := h.2.1 i hi
  exact b
theorem TABR.sz (h : TABR sk iv rv v a) (hi : (i : Int) < v 4) (ht : el rv (sk 22) i = some t) (hq : rv t 4 = some q) : iv q 2 = a 10 i := by
  obtain ⟨t', q', b1, b2, _, _, _, b6, _⟩ := h.2.1 i hi
  rw [ht] at b1; cases b1
  rw [hq] at b2; cases b2
  exact b6
theorem TB2.keep0 (h : TB2 o sk ln iv rv a i t) (tt : ty L cl t 100) (hW : WT g sk L cl ln iv rv) (hX : XT L cl ln L2 cl2 ln2) (hk : KP L cl (fun _ => False) (fun _ => False) (fun _ => False) (fun _ => False) (fun _ _ => False) iv rv iv2 rv2) (he : ∀ j : Nat, j < i → el rv2 (sk 22) j = el rv (sk 22) j) (ho : ∀ b ∈ L, o2 b = o b) (h200 : a 10 i ≤ 200) (a8 : a2 8 i = a 8 i) (a9 : a2 9 i = a 9 i) (a10 : a2 10 i = a 10 i) (hA : ∀ r : Nat, r < 200 → a2 11 (200 * i + r) = a 11 (200 * i + r) ∧ ARW a a2 (200 * i + r)) (hI : ∀ w : Nat, w < 4 → AIN a a2 (4 * i + w)) : TB2 o2 sk ln2 iv2 rv2 a2 i t := h.keep tt hW hX hk he ho (fun _ e => e.elim) (fun _ e => e.elim) (fun _ e => e.elim) a8 a9 a10 h200 (fun q r w _ hr _ tw _ e => by rw [hk.rwc w tw (fun e => e), (hA r (by omega)).1]; exact e) (fun r hr => (hA r hr).2) (fun n w _ tn _ hw hi => inds_keep hi tn hW hX hk (fun e => e) (hI w hw))
theorem CH2.keepU (h : CH2 sk ln iv rv v a k ch) (tch : ty L cl ch 21) (hW : WT g sk L cl ln iv rv) (hX : XT L cl ln L2 cl2 ln2) (hk : KP L cl C Q S X N iv rv iv2 rv2) (h1 : rv2 ch 1 = rv ch 1) (hs : ∀ j : Nat, j < 4 → a2 18 (4 * k + j) = a 18 (4 * k + j)) (hv : v 4 ≤ v2 4) (ha : ∀ j : Nat, (j : Int) < v 4 → a 10 j ≤ a2 10 j) (he : ∀ j : Nat, (j : Int) < v 4 → el rv2 (sk 22) j = el rv (sk 22) j) (ht4 : ∀ j t : Nat, (j : Int) < v 4 → el rv (sk 22) j = some t → rv2 t 4 = rv t 4) (hel : ∀ j t q : Nat, (j : Int) < v 4 → el rv (sk 22) j = some t → rv t 4 = some q → ∀ y : Nat, (y : Int) < a 10 j → (y : Int) < a2 10 j → el rv2 q y = el rv q y) : CH2 sk ln2 iv2 rv2 v2 a2 k ch :=
  h.keep (T := v 4) tch hW hX hk h1 hs hv (Int.le_refl _) (fun e => by
    obtain ⟨⟨c1, c2, c3⟩, _⟩ := h.1 e
    have q := ha (a 18 (4 * k + 1)).toNat (by omega)
    exact ⟨c1.2, by omega⟩) (fun e => (h.2 e).1.2) he ht4 hel
theorem rp_same (h : RP2 o sk ln iv rv v a) (hT : TABR sk iv rv v a) (hW : WT g sk L cl ln iv rv) (hS : SKL sk L cl) (hX : XT L cl ln L2 cl2 ln2) (hk : KP L cl (fun _ => False) (fun _ => False) (fun _ => False) (fun _ => False) (fun _ _ => False) iv rv iv2 rv2) (hp : PSAME sk iv rv iv2 rv2) (hq : TSAME v a v2 a2) : RP2 o sk ln2 iv2 rv2 v2 a2 := by
  obtain ⟨p1, p2, ⟨p3, p4, p5⟩, p6⟩ := hp
  obtain ⟨q4, q5, q6, q7, q10, q19, q18, q11, q8, q9, q12, q13, q14, q15, q16, q17⟩ := hq
  have n22 := hT.1
  refine ⟨fun i hi => ?_, fun k hk2 => ?_⟩
  · obtain ⟨t, e1, e2⟩ := h.1 i (by omega)
    exact ⟨t, (p3 i (by omega)).trans e1, e2.keep0 (el22 hW hS (by omega) e1) hW hX hk (fun j hj => p3 j (by omega)) (fun _ _ => rfl) (hT.r200 (by omega)).2 (by rw [q8]) (by rw [q9]) (by rw [q10]) (fun r _ => ⟨by rw [q11], ARW.of q12 q13 q14 q15⟩) (fun w _ => AIN.of q16 q17)⟩
  · obtain ⟨ch, c1, c2⟩ := h.2 k (by omega)
    have c := p6 k (by omega)
    exact ⟨ch, c.1.trans c1, c2.keepU (el23 hW hS (by omega) c1) hW hX hk (c.2 ch c1).2 (fun j _ => by rw [q18]) (by omega) (fun j _ => by rw [q10]; exact Int.le_refl _) (fun j hj => p3 j (by omega)) (fun j t hj ht => (hk.tb t (el22 hW hS (by omega) ht)).2.2.1) (fun j t q hj ht hq y hy _ => (hk.li q (ty4 hW (el22 hW hS (by omega) ht) hq) (fun e => e)).2 y (by rw [hT.sz hj ht hq]; exact hy))⟩
theorem stk_old {w t c d : Int} (hq : PSH v a v2 a2 w t c d) (h19 : 4 * iv (sk 23) 2 = v 19) (hk : (k : Int) < iv (sk 23) 2) : ∀ j : Nat, j < 4 → a2 18 (4 * k + j) = a 18 (4 * k + j) := fun j hj => hq.2.1 _ (by omega)
theorem stk_new {w t c d : Int} (hq : PSH v a v2 a2 w t c d) (h19 : 4 * iv (sk 23) 2 = v 19) (h0 : 0 ≤ v 19) (hk : ¬ (k : Int) < iv (sk 23) 2) (hk2 : (k : Int) < iv (sk 23) 2 + 1) : a2 18 (4 * k) = w ∧ a2 18 (4 * k + 1) = t ∧ a2 18 (4 * k + 2) = c ∧ a2 18 (4 * k + 3) = d := by
  obtain ⟨_, _, s3, s4, s5, s6⟩ := hq
  refine ⟨?_, ?_, ?_, ?_⟩
  · rw [show 4 * k = (v 19).toNat by omega]; exact s3
  · rw [show 4 * k + 1 = (v 19 + 1).toNat by omega]; exact s4
  · rw [show 4 * k + 2 = (v 19 + 2).toNat by omega]; exact s5
  · rw [show 4 * k + 3 = (v 19 + 3).toNat by omega]; exact s6
theorem rp_new {kd d bb ss : Int} {b s : Option Nat} (h : RP2 o sk ln iv rv v a) (hT : TABR sk iv rv v a) (hW : WT g sk L cl ln iv rv) (hS : SKL sk L cl) (hX : XT L cl ln L2 cl2 ln2) (hk : KP L cl (fun _ => False) (fun _ => False) (fun _ => False) (fun _ => False) (fun _ _ => False) iv rv iv2 rv2) (hp : PNEW kd d sk iv rv iv2 rv2) (hn : KNW L sk b s iv iv2 rv2) (hq : TNEW kd d bb ss v a v2 a2) (hb : BASR sk rv (v 4).toNat b bb) (hs : BASR sk rv (v 4).toNat s ss) : ∃ o2, RP2 o2 sk ln2 iv2 rv2 v2 a2 := by
  obtain ⟨q, r, p1, p2, p3, p4, p5, p6, p7, p8, ⟨p9, p10, p11⟩, p12⟩ := hp
  obtain ⟨q', r', s5, x, n, m1, ⟨m2, m3, m4, m5, m6⟩, ⟨m7, m8, m9, m10, m11, m12⟩, m13, m14⟩ := hn
  rw [p1] at m1; cases m1
  rw [p5] at m9; cases m9
  obtain ⟨q1, q2, q3, q4, q5, q6, q7, q8, q9, q12, q13, q14, q15, q17, q16⟩ := hq
  refine hv4 (hT.1) (hT.2.2.2.1) (hT.2.2.2.2.2.1) (hT.2.2.2.2.2.2) (fun n22 n23 v0 v19 => ?_)
  refine ⟨fun z => if z ∈ L then o z else (v 4).toNat, fun i hi => ?_, fun k hk2 => ?_⟩
  · by_cases e : (i : Int) < v 4
    · obtain ⟨t, e1, e2⟩ := h.1 i e
      have ne : i ≠ (v 4).toNat := by omega
      exact ⟨t, (p9 i (by omega)).trans e1, e2.keep0 (el22 hW hS (by omega) e1) hW hX hk (fun j hj => p9 j (by omega)) (fun z hz => if_pos hz) (hT.r200 e).2 (by rw [q8, va_up_ne _ _ ne]) (by rw [q9, va_up_ne _ _ ne]) (by rw [q5, va_up_ne _ _ ne]) (fun r _ => ⟨by rw [q7], ARW.of q12 q13 q14 q15⟩) (fun w hw => ⟨q16.2 _ (Or.inl (by omega)), fun k _ => by rw [q17]⟩)⟩
    · have ei : i = (v 4).toNat := by omega
      subst ei
      have e10 : a2 10 (v 4).toNat = 0 := by rw [q5, va_up_self]
      refine ⟨_, by rw [← n22]; exact p1, _, s5, x, n, ⟨p5, m10, m12, m11⟩, ⟨if_neg m2, if_neg m3, if_neg m4, if_neg m5, if_neg m6⟩, ⟨?_, ?_⟩, ⟨by rw [e10]; exact m13, by rw [e10]; exact p6⟩, fun r hr => absurd hr (by rw [e10]; omega), CT.zero m13, fun w hw => Or.inl ⟨m14 w, ?_⟩⟩
      · rw [m7, q8, va_up_self]; exact hb.keep (fun j hj => p9 j (by omega))
      · rw [m8, q9, va_up_self]; exact hs.keep (fun j hj => p9 j (by omega))
      · rw [show 4 * (v 4).toNat + w = (4 * v 4).toNat + w by omega]; exact q16.1 w hw
  · obtain ⟨r1, r2, ch', r3, r4, r5⟩ := p12
    by_cases e : (k : Int) < iv (sk 23) 2
    · obtain ⟨ch, c1, c2⟩ := h.2 k e
      exact ⟨ch, (r2 k e).1.trans c1, c2.keepU (el23 hW hS (by omega) c1) hW hX hk ((r2 k e).2 ch c1).2 (fun j hj => stk_old q6 n23 e j hj) (by omega) (fun j hj => by rw [q5, va_up_ne _ _ (by omega)]; exact Int.le_refl _) (fun j hj => p9 j (by omega)) (fun j t hj ht => (hk.tb t (el22 hW hS (by omega) ht)).2.2.1) (fun j t q hj ht hq y hy _ => (hk.li q (ty4 hW (el22 hW hS (by omega) ht) hq) (fun e => e)).2 y (by rw [hT.sz hj ht hq]; exact hy))⟩
    · obtain ⟨z0, _, _, _⟩ := stk_new q6 n23 v19 e (by omega)
      exact ⟨ch', by rw [show k = (iv (sk 23) 2).toNat by omega]; exact r3, fun e3 => absurd (z0.symm.trans e3) (by decide), fun e3 => absurd (z0.symm.trans e3) (by decide)⟩
theorem rp_drop {i0 : Int} {P : Nat → Prop} {y : Option Nat} (h : RP2 o sk ln iv rv v a) (hT : TABR sk iv rv v a) (hW : WT g sk L cl ln iv rv) (hS : SKL sk L cl) (hX : XT L cl ln L2 cl2 ln2) (hk : KP L cl (fun _ => False) (fun _ => False) (fun _ => False) (fun _ => False) (fun _ _ => False) iv rv iv2 rv2) (hp : PTAB P (fun _ => True) sk iv rv iv2 rv2) (hps : PPSH 1 y sk iv rv iv2 rv2) (hq : TDRP i0 v a v2 a2) : RP2 o sk ln2 iv2 rv2 v2 a2 := by
  obtain ⟨p9, p10, p11⟩ := hp
  obtain ⟨q4, q5, q6, q7, q10, qs, q11, q8, q9, q12, q13, q14, q15, q16, q17⟩ := hq
  refine hv3 (hT.1) (hT.2.2.2.1) (hT.2.2.2.2.2.2) (fun n22 n23 v19 => ?_)
  refine ⟨fun i hi => ?_, fun k hk2 => ?_⟩
  · obtain ⟨t, e1, e2⟩ := h.1 i (by omega)
    exact ⟨t, (p9 i (by omega)).trans e1, e2.keep0 (el22 hW hS (by omega) e1) hW hX hk (fun j hj => p9 j (by omega)) (fun _ _ => rfl) (hT.r200 (by omega)).2 (by rw [q8]) (by rw [q9]) (by rw [q10]) (fun r _ => ⟨by rw [q11], ARW.of q12 q13 q14 q15⟩) (fun w _ => AIN.of q16 q17)⟩
  · obtain ⟨r1, r2, ch', r3, r4, r5⟩ := hps
    by_cases e : (k : Int) < iv (sk 23) 2
    · obtain ⟨ch, c1, c2⟩ := h.2 k e
      exact ⟨ch, (r2 k e).1.trans c1, c2.keepU (el23 hW hS (by omega) c1) hW hX hk ((r2 k e).2 ch c1).2 (fun j hj => stk_old qs n23 e j hj) (by omega) (fun j hj => by rw [q10]; exact Int.le_refl _) (fun j hj => p9 j (by omega)) (fun j t hj ht => (hk.tb t (el22 hW hS (by omega) ht)).2.2.1) (fun j t q hj ht hq y hy _ => (hk.li q (ty4 hW (el22 hW hS (by omega) ht) hq) (fun e => e)).2 y (by rw [hT.sz hj ht hq]; exact hy))⟩
    · obtain ⟨z0, _, _, _⟩ := stk_new qs n23 v19 e (by omega)
      exact ⟨ch', by rw [show k = (iv (sk 23) 2).toNat by omega]; exact r3, fun e3 => absurd (z0.symm.trans e3) (by decide), fun e3 => absurd (z0.symm.trans e3) (by decide)⟩
theorem lo8 {z : Int} {i : Nat} (h1 : 0 ≤ z) (h2 : z ≤ 255) (h8 : 8 ≤ i) : (iI z).toBitVec.getLsbD i = false := by
  obtain ⟨n, hn⟩ := Int.eq_ofNat_of_zero_le h1
  subst hn
  show (BitVec.ofInt 32 ((n : Nat) : Int)).getLsbD i = false
  rw [BitVec.ofInt_natCast, BitVec.getLsbD_ofNat]
  have lt : n < 2 ^ i := Nat.lt_of_lt_of_le (show n < 2 ^ 8 by omega) (Nat.pow_le_pow_right (by decide) h8)
  rw [Nat.testBit_lt_two_pow lt, Bool.and_false]
theorem pkb_bit (ss : Nat → Int) (b : Nat) : ∀ m : Nat, m ≤ 4 → (∀ k : Nat, k < m → 0 ≤ ss (b + k) ∧ ss (b + k) ≤ 255) → ∀ k : Nat, k < m → ∀ i : Nat, i < 8 → (iI (PKB ss b m)).toBitVec.getLsbD (8 * (m - 1 - k) + i) = (iI (ss (b + k))).toBitVec.getLsbD i := by
  intro m
  induction m with
  | zero => intro _ _ k hk; exact absurd hk (by omega)
  | succ n ih =>
    intro hm hs k hk i h8
    have e : (iI (PKB ss b (n + 1))).toBitVec = ((iI (PKB ss b n)).toBitVec <<< 8) ||| (iI (ss (b + n))).toBitVec := by
      show (iI ((iI (PKB ss b n) <<< (iI 8 &&& 31)) ||| iI (ss (b + n))).toInt).toBitVec = _
      rw [show iI ((iI (PKB ss b n) <<< (iI 8 &&& 31)) ||| iI (ss (b + n))).toInt = (iI (PKB ss b n) <<< (iI 8 &&& 31)) ||| iI (ss (b + n)) from Int32.ofInt_toInt _]
      rw [Int32.toBitVec_or]
      rfl
    rw [e, BitVec.getLsbD_or, BitVec.getLsbD_shiftLeft]
    by_cases ek : k = n
    · subst ek
      rw [show 8 * (k + 1 - 1 - k) + i = i by omega]
      simp [h8]
    · rw [lo8 (hs n (by omega)).1 (hs n (by omega)).2 (by omega), Bool.or_false]
      have := ih (by omega) (fun k hk => hs k (by omega)) k (by omega) i h8
      rw [show 8 * (n + 1 - 1 - k) + i - 8 = 8 * (n - 1 - k) + i by omega, this]
      have h1 : ¬ (8 * (n + 1 - 1 - k) + i < 8) := by omega
      have h2 : 8 * (n + 1 - 1 - k) + i < 32 := by omega
      simp [h1, h2]
      intro _
      omega
theorem upk_pkb (ss : Nat → Int) (b m k : Nat) (hm : m ≤ 4) (hs : ∀ k : Nat, k < m → 0 ≤ ss (b + k) ∧ ss (b + k) ≤ 255) (hk : k < m) : UPK (PKB ss b m) (m : Int) (k : Int) = ss (b + k) := by
  refine hv2 (pkb_bit ss b m hm hs k hk) (hs k hk) (fun pb hk4 => ?_)
  have e : ((iI (PKB ss b m) >>> (iI (8 * (((m : Int) - 1) - (k : Int))) &&& 31)) &&& iI 255) = iI (ss (b + k)) := by
    have es : (8 * (((m : Int) - 1) - (k : Int))) = ((8 * (m - 1 - k) : Nat) : Int) := by omega
    rw [es]
    have h24 : 8 * (m - 1 - k) ≤ 24 := by omega
    apply Int32.toBitVec_inj.mp
    have b2 : (iI (PKB ss b m) >>> (iI ((8 * (m - 1 - k) : Nat) : Int) &&& 31)).toBitVec = (iI (PKB ss b m)).toBitVec.sshiftRight (8 * (m - 1 - k)) := by
      have q : 8 * (m - 1 - k) = 0 ∨ 8 * (m - 1 - k) = 8 ∨ 8 * (m - 1 - k) = 16 ∨ 8 * (m - 1 - k) = 24 := by omega
      rcases q with q | q | q | q <;> rw [q] <;> rfl
    rw [Int32.toBitVec_and, b2]
    apply BitVec.eq_of_getLsbD_eq
    intro i hi
    rw [BitVec.getLsbD_and]
    by_cases h8 : i < 8
    · rw [BitVec.getLsbD_sshiftRight, ← pb i h8]
      have h1 : ¬ (32 ≤ i) := by omega
      have h2 : 8 * (m - 1 - k) + i < 32 := by omega
      have h3 : (iI 255).toBitVec.getLsbD i = true := by
        have : ∀ i : Nat, i < 8 → (iI 255).toBitVec.getLsbD i = true := by decide
        exact this i h8
      have h4 : (255#32 : BitVec 32).getLsbD i = true := by
        have : ∀ i : Nat, i < 8 → (255#32 : BitVec 32).getLsbD i = true := by decide
        exact this i h8
      simp [h1, h2, h3]
      intro _
      exact h4
    · rw [lo8 (z := 255) (by decide) (by decide) (by omega), Bool.and_false, lo8 hk4.1 hk4.2 (by omega)]
  unfold UPK
  rw [e, iI_int ⟨by omega, by omega⟩]
theorem rp_cond {i0 j x f : Int} (h : RP2 o sk ln iv rv v a) (hT : TABR sk iv rv v a) (hW : WT g sk L cl ln iv rv) (hS : SKL sk L cl) (hX : XT L cl ln L2 cl2 ln2) (ha : ALV sk iv rv i0 t) (h4 : rv t 4 = some q) (hw : el rv q j.toNat = some w) (hj : 0 ≤ j ∧ j < a 10 i0.toNat) (hf : f = iv w 3) (hk : KP L cl (fun b => b = w) (fun _ => False) (fun _ => False) (fun _ => False) (fun _ _ => False) iv rv iv2 rv2) (hx : iv2 w 3 = x) (hp : PTAB (fun _ => True) (fun _ => True) sk iv rv iv2 rv2) (hps : CS0 (iv (sk 23) 2) sk iv rv iv2 rv2) (h2 : PPS2 sk (some t) (some w) f iv iv2 rv2) (hq : TCND i0 j x v a v2 a2) : RP2 o sk ln2 iv2 rv2 v2 a2 := by
  obtain ⟨p9, p10, p11⟩ := hp
  obtain ⟨⟨q4, q5, q6, q7, q10, qs⟩, q11, q8, q9, q12, q13, q14, q15, q16, q17⟩ := hq
  refine hv6 ((hT.al ha).1) (hT.1) (hT.2.2.2.1) (hT.2.2.2.2.2.2) (ha.tt hW hS) ((ha.t4 hW hS h4).1) (fun hi0 n22 n23 v19 tt tq => ?_)
  obtain ⟨t', e1', e2'⟩ := h.1 i0.toNat (by omega)
  rw [ha.2.2.1] at e1'; cases e1'
  have ow : o w = 200 * i0.toNat + j.toNat ∧ iv w 3 = a 11 (200 * i0.toNat + j.toNat) := by
    obtain ⟨qq, _, _, _, ⟨f1, _⟩, _, _, _, rr, _⟩ := e2'
    rw [h4] at f1; cases f1
    obtain ⟨w', g1, g2, g3⟩ := rr j.toNat (by omega)
    rw [hw] at g1; cases g1
    exact ⟨g2, g3.1⟩
  have b0 := hT.r200 (i := i0.toNat) (by omega)
  have ix : (200 * i0 + j).toNat = 200 * i0.toNat + j.toNat := by omega
  refine ⟨fun i hi => ?_, fun k hk2 => ?_⟩
  · obtain ⟨u, e1, e2⟩ := h.1 i (by omega)
    have r2 := hT.r200 (i := i) (by omega)
    refine ⟨u, (p9 i (by omega)).trans e1, e2.keep (el22 hW hS (by omega) e1) hW hX hk (fun j hj => p9 j (by omega)) (fun _ _ => rfl) (fun _ e => e.elim) (fun _ e => e.elim) (fun _ e => e.elim) (by rw [q8]) (by rw [q9]) (by rw [q10]) r2.2 (fun qb r wb hqb hr hel tw o1 e3 => ?_) (fun r _ => ARW.of q12 q13 q14 q15) (fun n w _ tn _ hw hi => inds_keep hi tn hW hX hk (fun e => e) (AIN.of q16 q17))⟩
    rw [q11, ix]
    by_cases e : 200 * i + r = 200 * i0.toNat + j.toNat
    · have ei : i = i0.toNat := by omega
      have er : r = j.toNat := by omega
      rw [ei, ha.2.2.1] at e1; cases e1
      rw [h4] at hqb; cases hqb
      rw [er, hw] at hel; cases hel
      rw [e, va_up_self]; exact hx
    · rw [va_up_ne _ _ e, hk.rwc wb tw (fun ec => e (by rw [← o1, ec]; exact ow.1))]
      exact e3
  · obtain ⟨s1, ch', s2, s3, s4, s5⟩ := h2
    by_cases e : (k : Int) < iv (sk 23) 2
    · obtain ⟨ch, c1, c2⟩ := h.2 k e
      exact ⟨ch, (hps k e).1.trans c1, c2.keepU (el23 hW hS (by omega) c1) hW hX hk ((hps k e).2 ch c1).2 (fun j hj => stk_old qs n23 e j hj) (by omega) (fun j hj => by rw [q10]; exact Int.le_refl _) (fun j hj => p9 j (by omega)) (fun j t hj ht => (hk.tb t (el22 hW hS (by omega) ht)).2.2.1) (fun j t q hj ht hq y hy _ => (hk.li q (ty4 hW (el22 hW hS (by omega) ht) hq) (fun e => e)).2 y (by rw [hT.sz hj ht hq]; exact hy))⟩
    · obtain ⟨z0, z1, z2, z3⟩ := stk_new qs n23 v19 e (by omega)
      refine ⟨ch', by rw [show k = (iv (sk 23) 2).toNat by omega]; exact s2, fun _ => ?_, fun e4 => absurd (z0.symm.trans e4) (by decide)⟩
      rw [z1, z2, z3, q10, q4]
      refine ⟨⟨⟨by omega, by omega⟩, hj⟩, ⟨t, q, (p9 _ (by omega)).trans ha.2.2.1, (hk.tb t tt).2.2.1.trans h4, s4.trans ?_⟩, ?_⟩
      · rw [(hk.li q tq (fun e => e)).2 j.toNat (by rw [hT.sz (i := i0.toNat) (by omega) ha.2.2.1 h4]; omega)]; exact hw.symm
      · rw [s5, hf, ow.2, ix]
theorem rp_ind {i0 j : Int} (h : RP2 o sk ln iv rv v a) (hT : TABR sk iv rv v a) (hW : WT g sk L cl ln iv rv) (hS : SKL sk L cl) (hX : XT L cl ln L2 cl2 ln2) (hs2 : iv (sk 2) 2 = v 3) (hct : CT iv rv (sk 2) (a 2)) (hacl : ∀ k : Nat, (k : Int) < v 3 → 1 ≤ a 2 k ∧ a 2 k ≤ 255) (h34 : 0 ≤ v 3 ∧ v 3 ≤ 4) (ha : ALV sk iv rv i0 t) (h6 : rv t 6 = some n) (hj : 0 ≤ j ∧ j ≤ 3) (hk : KP L cl (fun _ => False) (fun _ => False) (fun _ => False) (fun _ => False) (fun b k => b = n ∧ k = j.toNat) iv rv iv2 rv2) (hd : IDD sk L2 cl2 ln2 iv rv iv2 rv2 n j) (hp : PTAB (fun _ => True) (fun _ => True) sk iv rv iv2 rv2) (hps : CS0 (iv (sk 23) 2) sk iv rv iv2 rv2) (h2 : PPS2 sk (some t) (rv n j.toNat) j iv iv2 rv2) (hq : TIND i0 j v a v2 a2) : RP2 o sk ln2 iv2 rv2 v2 a2 := by
  obtain ⟨p9, p10, p11⟩ := hp
  obtain ⟨⟨q4, q5, q6, q7, q10, qs⟩, q11, q8, q9, q12, q13, q14, q15, q16, q17⟩ := hq
  refine hv6 ((hT.al ha).1) (hT.1) (hT.2.2.2.1) (hT.2.2.2.2.2.2) (ha.tt hW hS) (ha.t6 hW hS h6) (fun hi0 n22 n23 v19 tt tn => ?_)
  obtain ⟨t', e1', e2'⟩ := h.1 i0.toNat (by omega)
  rw [ha.2.2.1] at e1'; cases e1'
  have on : o n = i0.toNat ∧ INDR ln iv rv (rv n j.toNat) (j.toNat : Int) (a 16 (4 * i0.toNat + j.toNat)) (fun k => a 17 (4 * (4 * i0.toNat + j.toNat) + k)) := by
    obtain ⟨_, _, _, nn, ⟨_, _, _, f1⟩, ⟨_, _, _, _, g⟩, _, _, _, _, hi⟩ := e2'
    rw [h6] at f1; cases f1
    exact ⟨g, hi j.toNat (by omega)⟩
  have ix : (4 * i0 + j).toNat = 4 * i0.toNat + j.toNat := by omega
  have ix4 : (4 * (4 * i0 + j)).toNat = 4 * (4 * i0.toNat + j.toNat) := by omega
  rw [ix] at q16
  rw [ix4] at q17
  have ain : ∀ i w : Nat, w < 4 → (i ≠ i0.toNat ∨ w ≠ j.toNat) → AIN a a2 (4 * i + w) := fun i w hw he => ⟨by rw [q16, va_up_ne _ _ (by omega)], fun k hk4 => q17.2 _ (by omega)⟩
  refine ⟨fun i hi => ?_, fun k hk2 => ?_⟩
  · obtain ⟨u, e1, e2⟩ := h.1 i (by omega)
    have r2 := hT.r200 (i := i) (by omega)
    refine ⟨u, (p9 i (by omega)).trans e1, e2.keep (el22 hW hS (by omega) e1) hW hX hk (fun j hj => p9 j (by omega)) (fun _ _ => rfl) (fun _ e => e.elim) (fun _ e => e.elim) (fun _ e => e.elim) (by rw [q8]) (by rw [q9]) (by rw [q10]) r2.2 (fun qb r wb hqb hr hel tw o1 e3 => by rw [hk.rwc wb tw (fun e => e), q11]; exact e3) (fun r _ => ARW.of q12 q13 q14 q15) (fun nb w hnb tnb onb hw hi => ?_)⟩
    by_cases e : i = i0.toNat ∧ w = j.toNat
    · obtain ⟨ei, ew⟩ := e
      rw [ei, ha.2.2.1] at e1; cases e1
      rw [h6] at hnb; cases hnb
      rw [ei, ew, q16, va_up_self]
      rcases hd with ⟨d1, d2⟩ | ⟨w', c, d1, ⟨d2, d3, d4⟩, d5, d6, d7, d8⟩
      · exact Or.inl ⟨d2, by omega⟩
      · refine Or.inr ⟨w', c, d1, ⟨by rw [d3.1]; omega, d3.2⟩, d4, by rw [d6]; omega, by omega, fun k hk3 => ?_⟩
        have g := q17.1 k (by omega)
        show _ = a2 17 (4 * (4 * i0.toNat + j.toNat) + k) ∧ _ ∧ _
        rw [d8 _ hct k hk3, g]
        exact ⟨rfl, (hacl k (by omega)).1, (hacl k (by omega)).2⟩
    · exact inds_keep hi tnb hW hX hk (fun eN => e ⟨by rw [← onb, eN.1]; exact on.1, eN.2⟩) (ain i w hw (by omega))
  · obtain ⟨s1, ch', s2, s3, s4, s5⟩ := h2
    by_cases e : (k : Int) < iv (sk 23) 2
    · obtain ⟨ch, c1, c2⟩ := h.2 k e
      exact ⟨ch, (hps k e).1.trans c1, c2.keepU (el23 hW hS (by omega) c1) hW hX hk ((hps k e).2 ch c1).2 (fun j hj => stk_old qs n23 e j hj) (by omega) (fun j hj => by rw [q10]; exact Int.le_refl _) (fun j hj => p9 j (by omega)) (fun j t hj ht => (hk.tb t (el22 hW hS (by omega) ht)).2.2.1) (fun j t q hj ht hq y hy _ => (hk.li q (ty4 hW (el22 hW hS (by omega) ht) hq) (fun e => e)).2 y (by rw [hT.sz hj ht hq]; exact hy))⟩
    · obtain ⟨z0, z1, z2, z3⟩ := stk_new qs n23 v19 e (by omega)
      refine ⟨ch', by rw [show k = (iv (sk 23) 2).toNat by omega]; exact s2, fun e4 => absurd (z0.symm.trans e4) (by decide), fun _ => ?_⟩
      rw [z1, z2, z3, q4]
      have m4 : (4 * i0 + j) / 4 = i0 := by omega
      have m5 : (4 * i0 + j) % 4 = j := by omega
      rw [m4, m5, s4]
      refine ⟨⟨by omega, by omega⟩, s3.trans ((p9 _ (by omega)).trans ha.2.2.1).symm, s5, ?_⟩
      have old := on.2
      rw [Int.toNat_of_nonneg hj.1] at old
      rw [ix, ix4]
      refine old.keep (fun b hb => ?_) hW hX hk (fun k hk3 hk4 => ?_)
      · rcases hW.opt tn j.toNat rfl rfl with e3 | ⟨c, e3, e5⟩
        · rw [e3.1] at hb; cases hb
        · rw [e3] at hb; cases hb; exact e5
      · rcases old with ⟨_, o1⟩ | ⟨b, c, o1, o2, o3, o4, o5, o6⟩
        · omega
        · have tb : ty L cl b 20 := by
            rcases hW.opt tn j.toNat rfl rfl with e3 | ⟨c, e3, e5⟩
            · rw [e3.1] at o1; cases o1
            · rw [e3] at o1; cases o1; exact e5
          obtain ⟨c', w2, tc⟩ := hW.ref tb 2 rfl rfl rfl
          rw [o3] at w2; cases w2
          have b2 : ln c ≤ 4 := (hW.len tc rfl).2
          have g := upk_pkb (a 17) (4 * (4 * i0.toNat + j.toNat)) (a 16 (4 * i0.toNat + j.toNat)).toNat k (by omega) (fun y hy => by
            have g1 := o6 y (by omega)
            refine hv2 (show iv c y = a 17 (4 * (4 * i0.toNat + j.toNat) + y) from g1.1) (g1.2) (fun g2 g3 => ?_)
            rw [← g2]; omega) (by omega)
          rw [Int.toNat_of_nonneg (by omega)] at g
          exact g
theorem CT.cgs {ss ss2 : Nat → Int} (h : CT iv rv q ss) (hs : ∀ j : Nat, (j : Int) < iv q 2 → ss2 j = ss j) : CT iv rv q ss2 := fun b hb j hj => (h b hb j hj).trans (hs j hj).symm
theorem rp_rule {i0 cnd m : Int} {l c : Nat} (h : RP2 o sk ln iv rv v a) (hT : TABR sk iv rv v a) (hW : WT g sk L cl ln iv rv) (hS : SKL sk L cl) (hX : XT L cl ln L2 cl2 ln2) (hW2 : WT g sk L2 cl2 ln2 iv2 rv2) (hs2 : iv (sk 2) 2 = v 3) (hct : CT iv rv (sk 2) (a 2)) (hm : 1 ≤ m ∧ m ≤ 8) (h3m : 1 ≤ v 3 - m ∧ v 3 - m ≤ 4) (hlt : ∀ k : Nat, (k : Int) < m → 33 ≤ a 2 k ∧ a 2 k ≤ 125) (hce : ∀ k : Nat, m ≤ (k : Int) → (k : Int) < v 3 → 1 ≤ a 2 k ∧ a 2 k ≤ 255) (h200 : a 10 i0.toNat < 200) (ha : ALV sk iv rv i0 t) (h4 : rv t 4 = some q) (h5 : rv t 5 = some s) (hx : rv s 1 = some x) (hk : KP L cl (fun _ => False) (fun b => b = q) (fun b => b = s) (fun b => b = x) (fun _ _ => False) iv rv iv2 rv2) (d1 : el rv2 q (iv q 2).toNat = some w) (d2 : iv2 q 2 = iv q 2 + 1) (d3 : ∀ r : Nat, (r : Int) < iv q 2 → el rv2 q r = el rv q r) (e1 : w ∉ L) (e2 : ty L2 cl2 w 20) (e3 : iv2 w 0 = 4) (e4 : iv2 w 3 = cnd) (e5 : rv2 w 1 = some l) (e6 : rv2 w 2 = some c) (f2 : ln2 l = m.toNat) (f3 : ∀ ss, CT iv rv (sk 2) ss → ∀ k : Nat, k < ln2 l → iv2 l k = ss k) (g2 : ln2 c = (iv (sk 2) 2 - m).toNat) (g3 : ∀ ss, CT iv rv (sk 2) ss → ∀ k : Nat, k < ln2 c → iv2 c k = ss (m.toNat + k)) (i1 : iv s 2 < 200 → iv2 s 2 = iv s 2 + 1) (i2 : ∀ x2, rv2 s 1 = some x2 → x2 = x ∨ x2 ∉ L) (i3 : ∀ ss, CT iv rv s ss → iv s 2 < 200 → ∀ tt, CT iv rv (sk 2) tt → CT iv2 rv2 s (va_up ss (iv s 2).toNat (tt 0))) (hp : PTAB (fun _ => True) (fun b => b ≠ q) sk iv rv iv2 rv2) {y : Option Nat} (hps : PPSH 2 y sk iv rv iv2 rv2) (hq : TRUL i0 cnd m v a v2 a2) : ∃ o2, RP2 o2 sk ln2 iv2 rv2 v2 a2 := by
  obtain ⟨p9, p10, p11⟩ := hp
  obtain ⟨q4, q5, q6, q7, q10, qs, q11, q8, q9, q16, q17, q12, q13, q14, q15⟩ := hq
  refine hv7 ((hT.al ha).1) (hT.1) (hT.2.2.2.1) (hT.2.2.2.2.2.2) (ha.tt hW hS) ((ha.t4 hW hS h4).1) (ha.t5 hW hS h5) (fun hi0 n22 n23 v19 tt tq ts => ?_)
  have b0 := hT.r200 (i := i0.toNat) (by omega)
  have zq := hT.sz (i := i0.toNat) (by omega) ha.2.2.1 h4
  obtain ⟨t', w1', w2'⟩ := h.1 i0.toNat (by omega)
  rw [ha.2.2.1] at w1'; cases w1'
  obtain ⟨qq, s9, x9, n6, ⟨g4, g5, gx, g6⟩, ⟨o1, o2', o3, o4, o5⟩, ⟨bs1, bs2⟩, ⟨z1, z2⟩, rr, ctt, ii⟩ := w2'
  rw [h4] at g4; cases g4
  rw [h5] at g5; cases g5
  rw [hx] at gx; cases gx
  have tn := ha.t6 hW hS g6
  have ix : (200 * i0 + a 10 i0.toNat).toNat = 200 * i0.toNat + (a 10 i0.toNat).toNat := by omega
  have ix8 : (8 * (200 * i0 + a 10 i0.toNat)).toNat = 8 * (200 * i0.toNat + (a 10 i0.toNat).toNat) := by omega
  have ix4 : (4 * (200 * i0 + a 10 i0.toNat)).toNat = 4 * (200 * i0.toNat + (a 10 i0.toNat).toNat) := by omega
  rw [ix] at q11 q12 q13
  rw [ix8] at q14
  rw [ix4] at q15
  refine hv3 (show ∀ i r : Nat, r < 200 → (i ≠ i0.toNat ∨ r ≠ (a 10 i0.toNat).toNat) → a2 11 (200 * i + r) = a 11 (200 * i + r) ∧ ARW a a2 (200 * i + r) from fun i r hr he => ⟨by rw [q11, va_up_ne _ _ (by omega)], by rw [q12, va_up_ne _ _ (by omega)], by rw [q13, va_up_ne _ _ (by omega)], fun k hk4 => q14.2 _ (by omega), fun k hk4 => q15.2 _ (by omega)⟩) (show ∀ i : Nat, i ≠ i0.toNat → a2 10 i = a 10 i from fun i hi => by rw [q10, va_up_ne _ _ hi]) (show a2 10 i0.toNat = a 10 i0.toNat + 1 from by rw [q10, va_up_self]) (fun arw a10 a10s => ?_)
  refine ⟨fun z => if z ∈ L then o z else if z = w then 200 * i0.toNat + (a 10 i0.toNat).toNat else i0.toNat, fun i hi => ?_, fun k hk2 => ?_⟩
  · by_cases ei : i = i0.toNat
    · subst ei
      obtain ⟨x2, wx1, wx2⟩ := hW2.ref (hX.ty ts) 1 rfl rfl rfl
      have ks := hk.tb t tt
      refine ⟨t, (p9 _ (by omega)).trans ha.2.2.1, q, s, x2, n6, ⟨ks.2.2.1.trans h4, ks.2.2.2.1.trans h5, wx1, ks.2.2.2.2.trans g6⟩, ⟨(if_pos tt.1).trans o1, (if_pos tq.1).trans o2', (if_pos ts.1).trans o3, ?_, (if_pos tn.1).trans o5⟩, ⟨by rw [ks.1, q8]; exact bs1.keep (fun j hj => p9 j (by omega)), by rw [ks.2.1, q9]; exact bs2.keep (fun j hj => p9 j (by omega))⟩, ⟨by rw [a10s, i1 (by omega)]; omega, by rw [a10s, d2]; omega⟩, fun r hr => ?_, ?_, fun w' hw' => inds_keep (ii w' hw') tn hW hX hk (fun e => e) (AIN.of q16 q17)⟩
      · show (if x2 ∈ L then o x2 else if x2 = w then 200 * i0.toNat + (a 10 i0.toNat).toNat else i0.toNat) = i0.toNat
        rcases i2 x2 wx1 with e | e
        · subst e
          rw [if_pos ((WT.ref hW ts 1 rfl rfl rfl).elim (fun b hb => by have := hb.1; rw [hx] at this; cases this; exact hb.2.1))]
          exact o4
        · rw [if_neg e, if_neg (ne_ty wx2 e2 (by decide))]
      · rw [a10s] at hr
        by_cases er : (r : Int) < a 10 i0.toNat
        · obtain ⟨w', k1, k2, k3⟩ := rr r er
          have tw := el26 hW tq (by omega) k1
          have ar := arw i0.toNat r (by omega) (Or.inr (by omega))
          exact ⟨w', (d3 r (by omega)).trans k1, (if_pos tw.1).trans k2, k3.keep tw hW hX hk (by rw [hk.rwc w' tw (fun e => e), ar.1]; exact k3.1) ar.2⟩
        · have er2 : r = (a 10 i0.toNat).toNat := by omega
          subst er2
          refine ⟨w, by rw [show (a 10 i0.toNat).toNat = (iv q 2).toNat by omega]; exact d1, (by show (if w ∈ L then o w else if w = w then 200 * i0.toNat + (a 10 i0.toNat).toNat else i0.toNat) = _; rw [if_neg e1, if_pos rfl]), by rw [e4, q11, va_up_self], e3, l, c, e5, e6, by rw [f2, q12, va_up_self]; omega, by rw [g2, q13, va_up_self]; omega, fun k hk3 => ?_, fun k hk3 => ?_⟩
          · have y1 := f3 _ hct k hk3
            have y2 := q14.1 k (by omega)
            rw [y1, y2]
            exact ⟨rfl, (hlt k (by omega)).1, (hlt k (by omega)).2⟩
          · have y1 := g3 _ hct k hk3
            have y2 := q15.1 k (by omega)
            rw [y1, y2]
            exact ⟨rfl, (hce (m.toNat + k) (by omega) (by omega)).1, (hce (m.toNat + k) (by omega) (by omega)).2⟩
      · refine (i3 _ ctt (by omega) _ hct).cgs (fun j hj => ?_)
        rw [i1 (by omega)] at hj
        by_cases er : j = (iv s 2).toNat
        · rw [er, va_up_self]
          have y2 := q14.1 0 (by omega)
          rw [show 8 * (200 * i0.toNat + (iv s 2).toNat) = 8 * (200 * i0.toNat + (a 10 i0.toNat).toNat) + 0 by omega, y2]
        · rw [va_up_ne _ _ er]
          exact (arw i0.toNat j (by omega) (Or.inr (by omega))).2.2.2.1 0 (by omega)
    · obtain ⟨u, k1, k2⟩ := h.1 i (by omega)
      have r2 := hT.r200 (i := i) (by omega)
      exact ⟨u, (p9 i (by omega)).trans k1, k2.keep (el22 hW hS (by omega) k1) hW hX hk (fun j hj => p9 j (by omega)) (fun z hz => if_pos hz) (fun b e => by rw [e, o2']; exact Ne.symm ei) (fun b e => by rw [e, o3]; exact Ne.symm ei) (fun b e => by rw [e, o4]; exact Ne.symm ei) (by rw [q8]) (by rw [q9]) (a10 i ei) r2.2 (fun qb r wb hqb hr hel tw ow e => by rw [hk.rwc wb tw (fun e => e), (arw i r (by omega) (Or.inl ei)).1]; exact e) (fun r hr => (arw i r hr (Or.inl ei)).2) (fun n w _ tn _ hw hi => inds_keep hi tn hW hX hk (fun e => e) (AIN.of q16 q17))⟩
  · obtain ⟨r1, r2, ch', r3, r4, r5⟩ := hps
    by_cases e : (k : Int) < iv (sk 23) 2
    · obtain ⟨ch, c1, c2⟩ := h.2 k e
      exact ⟨ch, (r2 k e).1.trans c1, c2.keepU (el23 hW hS (by omega) c1) hW hX hk ((r2 k e).2 ch c1).2 (fun j hj => stk_old qs n23 e j hj) (by omega) (fun j hj => by
        by_cases ej : j = i0.toNat
        · rw [ej, a10s]; omega
        · rw [a10 j ej]; exact Int.le_refl _) (fun j hj => p9 j (by omega)) (fun j t hj ht => (hk.tb t (el22 hW hS (by omega) ht)).2.2.1) (fun j t9 q9 hj ht hq y hy _ => by
        by_cases eq : q9 = q
        · subst eq; exact d3 y (by rw [hT.sz hj ht hq]; exact hy)
        · exact (hk.li q9 (ty4 hW (el22 hW hS (by omega) ht) hq) eq).2 y (by rw [hT.sz hj ht hq]; exact hy))⟩
    · obtain ⟨z0, _, _, _⟩ := stk_new qs n23 v19 e (by omega)
      exact ⟨ch', by rw [show k = (iv (sk 23) 2).toNat by omega]; exact r3, fun e3 => absurd (z0.symm.trans e3) (by decide), fun e3 => absurd (z0.symm.trans e3) (by decide)⟩
theorem stk_lt2 {s : Nat → Int} : ∀ (n : Nat) (T : Int) (R : Nat → Int), stk s n T R → ∀ k : Nat, k < n → (s (4 * k) = 3 → (0 ≤ s (4 * k + 1) ∧ s (4 * k + 1) < T) ∧ (0 ≤ s (4 * k + 2) ∧ s (4 * k + 2) < R (s (4 * k + 1)).toNat)) ∧ (s (4 * k) = 4 → 0 ≤ s (4 * k + 1) ∧ s (4 * k + 1) < 4 * T) := by
  intro n
  induction n with
  | zero => intro T R _ k hk; exact absurd hk (by omega)
  | succ n ih =>
    intro T R h k hk
    obtain ⟨T0, R0, he, hs⟩ := h
    by_cases e : k = n
    · subst e
      exact ⟨fun e3 => ⟨(he.e3 e3).1, (he.e3 e3).2.1⟩, fun e4 => (he.e4 (by omega)).2.1⟩
    · have q := ih T0 R0 hs k (by omega)
      have lt : T0 ≤ T ∧ ∀ j, R0 j ≤ R j := by
        rcases he with ⟨_, _, q3, q4⟩ | ⟨_, _, q3, q4⟩ | ⟨_, _, _, q3, q4⟩ | ⟨_, _, _, q3, q4⟩ | ⟨_, _, _, q3, q4⟩
        · exact ⟨by omega, fun j => by rw [q4]; exact Int.le_refl _⟩
        · exact ⟨by omega, fun j => by rw [q4]; exact Int.le_refl _⟩
        · refine ⟨by omega, fun j => ?_⟩
          have e9 : R0 j = if j = (s (4 * n + 1)).toNat then R j - 1 else R j := by rw [q4]
          rw [e9]
          split <;> omega
        · exact ⟨by omega, fun j => by rw [q4]; exact Int.le_refl _⟩
        · exact ⟨by omega, fun j => by rw [q4]; exact Int.le_refl _⟩
      refine ⟨fun e3 => ?_, fun e4 => ?_⟩
      · have g := q.1 e3
        have g2 := lt.2 (s (4 * k + 1)).toNat
        exact ⟨⟨g.1.1, by omega⟩, ⟨g.2.1, by omega⟩⟩
      · have g := q.2 e4
        exact ⟨g.1, by omega⟩
theorem STK.lt2 {ln : Nat → Nat} {v : Nat → Int} {a : Nat → Nat → Int} (h : STK ln v a) (k : Nat) (hk : 4 * (k : Int) < v 19) : (a 18 (4 * k) = 3 → (0 ≤ a 18 (4 * k + 1) ∧ a 18 (4 * k + 1) < v 4) ∧ (0 ≤ a 18 (4 * k + 2) ∧ a 18 (4 * k + 2) < a 10 (a 18 (4 * k + 1)).toNat)) ∧ (a 18 (4 * k) = 4 → 0 ≤ a 18 (4 * k + 1) ∧ a 18 (4 * k + 1) < 4 * v 4) := by
  obtain ⟨_, _, n, hn, hs⟩ := h
  exact stk_lt2 n _ _ hs k (by omega)
theorem CH2.e3 {K KA KB KC : Nat} (h : CH2 sk ln iv rv v a k ch) (k0 : 4 * k = K) (k1 : K + 1 = KA) (k2 : K + 2 = KB) (k3 : K + 3 = KC) (e : a 18 K = 3) : ((0 ≤ a 18 KA ∧ a 18 KA < v 4) ∧ 0 ≤ a 18 KB ∧ a 18 KB < a 10 (a 18 KA).toNat) ∧ (∃ t q, el rv (sk 22) (a 18 KA).toNat = some t ∧ rv t 4 = some q ∧ rv ch 2 = el rv q (a 18 KB).toNat) ∧ iv ch 3 = a 18 KC := by
  subst k0
  subst k1
  subst k2
  subst k3
  exact h.1 e
theorem CH2.e4 {K KA KB KC : Nat} (h : CH2 sk ln iv rv v a k ch) (k0 : 4 * k = K) (k1 : K + 1 = KA) (k2 : K + 2 = KB) (k3 : K + 3 = KC) (e : a 18 K = 4) : (0 ≤ a 18 KA ∧ a 18 KA < 4 * v 4) ∧ rv ch 1 = el rv (sk 22) (a 18 KA / 4).toNat ∧ iv ch 3 = a 18 KA % 4 ∧ INDR ln iv rv (rv ch 2) (a 18 KA % 4) (a 18 KB) (fun j => UPK (a 18 KC) (a 18 KB) (j : Int)) := by
  subst k0
  subst k1
  subst k2
  subst k3
  exact h.2 e
theorem rp_undo {lm lm2 : Nat → Nat} (h : RP2 o sk ln iv rv v a) (hT : TABR sk iv rv v a) (hW : WT g sk L cl ln iv rv) (hS : SKL sk L cl) (hX : XT L cl ln L2 cl2 ln2) (hSt : STK lm v a) (hSt2 : STK lm2 v2 a2) (h0 : v 19 ≠ 0) (hc : el rv (sk 23) (iv (sk 23) 2 - 1).toNat = some ch) (hp : PUND ch sk iv rv iv2 rv2) (hu : UKP L cl ch iv rv iv2 rv2) (hq : TUND v a v2 a2) : RP2 o sk ln2 iv2 rv2 v2 a2 := by
  obtain ⟨h4s, T0, R0, hent, _⟩ := STK.pop hSt h0
  obtain ⟨p1, p2, p3⟩ := hp
  obtain ⟨q19, q18, q6, q7, ⟨q8, q9, q12, q13, q14, q15⟩, q5⟩ := hq
  refine hv2 (hT.1) (hT.2.2.2.1) (fun n22 n23 => ?_)
  have tch := el23 hW hS (by omega) hc
  have k0 : 4 * (iv (sk 23) 2 - 1).toNat = (v 19 - 4).toNat := by omega
  have k1 : (v 19 - 4).toNat + 1 = (v 19 - 4 + 1).toNat := by omega
  have k2 : (v 19 - 4).toNat + 2 = (v 19 - 4 + 2).toNat := by omega
  have k3 : (v 19 - 4).toNat + 3 = (v 19 - 4 + 3).toNat := by omega
  have t0 : (((v 19 - 4).toNat : Nat) : Int) = v 19 - 4 := Int.toNat_of_nonneg (by omega)
  have t1 : (((v 19 - 4 + 1).toNat : Nat) : Int) = v 19 - 4 + 1 := Int.toNat_of_nonneg (by omega)
  have t2 : (((v 19 - 4 + 2).toNat : Nat) : Int) = v 19 - 4 + 2 := Int.toNat_of_nonneg (by omega)
  have t3 : (((v 19 - 4 + 3).toNat : Nat) : Int) = v 19 - 4 + 3 := Int.toNat_of_nonneg (by omega)
  have t9 : (((iv (sk 23) 2 - 1).toNat : Nat) : Int) = iv (sk 23) 2 - 1 := Int.toNat_of_nonneg (by omega)
  obtain ⟨c', c1', c2', c3'⟩ := hT.2.2.2.2.1 (iv (sk 23) 2 - 1).toNat (by omega)
  rw [hc] at c1'; cases c1'
  rw [k0] at c2' c3'
  rw [k1] at c3'
  obtain ⟨c', d1', top⟩ := h.2 (iv (sk 23) 2 - 1).toNat (by omega)
  rw [hc] at d1'; cases d1'
  have hle : v2 4 ≤ v 4 := by rcases q5 with q | q | q | q | q <;> omega
  have stk2 : ∀ {C Q S X : Nat → Prop} {N : Nat → Nat → Prop}, KP L cl C Q S X N iv rv iv2 rv2 → (∀ j : Nat, (j : Int) < v2 4 → el rv2 (sk 22) j = el rv (sk 22) j) → (∀ j t q : Nat, (j : Int) < v2 4 → el rv (sk 22) j = some t → rv t 4 = some q → ∀ y : Nat, (y : Int) < a 10 j → (y : Int) < a2 10 j → el rv2 q y = el rv q y) → ∀ k : Nat, (k : Int) < iv2 (sk 23) 2 → ∃ ch, el rv2 (sk 23) k = some ch ∧ CH2 sk ln2 iv2 rv2 v2 a2 k ch := by
    intro C Q S X N hk he hel k hk2
    obtain ⟨c, c1, c2⟩ := h.2 k (by omega)
    have g := p2 k (by omega)
    have lt := hSt2.lt2 k (by omega)
    rw [q18] at lt
    exact ⟨c, g.1.trans c1, c2.keep (T := v2 4) (el23 hW hS (by omega) c1) hW hX hk (g.2 c c1).2 (fun j _ => by rw [q18]) (Int.le_refl _) hle (fun e => ⟨(lt.1 e).1.2, (lt.1 e).2.2⟩) (fun e => (lt.2 e).2) he (fun j t hj ht => (hk.tb t (el22 hW hS (by omega) ht)).2.2.1) hel⟩
  rcases q5 with ⟨w1, w2, w5, w10, w11, w16, w17⟩ | ⟨w1, w2, w5, w10, w11, w16, w17⟩ | ⟨w1, w2, w5, w10, w11, w16, w17⟩ | ⟨w1, w2, w5, w10, w11, w16, w17⟩ | ⟨w1, w2, w5, w10, w11, w16, w17⟩
  · have hk := hu.1 (by omega)
    obtain ⟨e1, _, _⟩ := hent.e0 w1
    have he : ∀ j : Nat, (j : Int) < v2 4 → el rv2 (sk 22) j = el rv (sk 22) j := by
      rcases p3 with ⟨d1, d2, d3, d4, d5⟩ | ⟨d1, _⟩ | ⟨d1, _⟩ | ⟨d1, _⟩
      · exact fun j hj => d3 j (by omega)
      · omega
      · omega
      · omega
    refine ⟨fun i hi => ?_, stk2 hk he (fun j t q hj ht hq y hy _ => (hk.li q (ty4 hW (el22 hW hS (by omega) ht) hq) (fun e => e)).2 y (by rw [hT.sz (by omega) ht hq]; exact hy))⟩
    obtain ⟨t, e1, e2⟩ := h.1 i (by omega)
    exact ⟨t, (he i hi).trans e1, e2.keep0 (el22 hW hS (by omega) e1) hW hX hk (fun j hj => he j (by omega)) (fun _ _ => rfl) (hT.r200 (by omega)).2 (by rw [q8]) (by rw [q9]) (by rw [w10]) (fun r _ => ⟨by rw [w11], ARW.of q12 q13 q14 q15⟩) (fun w _ => AIN.of w16 w17)⟩
  · have hk := hu.2.1 (by omega)
    have he : ∀ j : Nat, (j : Int) < v2 4 → el rv2 (sk 22) j = el rv (sk 22) j := by
      rcases p3 with ⟨d1, _⟩ | ⟨d1, t, d2, d3, ⟨d4, d5, d6⟩, d7⟩ | ⟨d1, _⟩ | ⟨d1, _⟩
      · omega
      · exact fun j hj => d4 j (by omega)
      · omega
      · omega
    refine ⟨fun i hi => ?_, stk2 hk he (fun j t q hj ht hq y hy _ => (hk.li q (ty4 hW (el22 hW hS (by omega) ht) hq) (fun e => e)).2 y (by rw [hT.sz (by omega) ht hq]; exact hy))⟩
    obtain ⟨t, e1, e2⟩ := h.1 i (by omega)
    exact ⟨t, (he i hi).trans e1, e2.keep0 (el22 hW hS (by omega) e1) hW hX hk (fun j hj => he j (by omega)) (fun _ _ => rfl) (hT.r200 (by omega)).2 (by rw [q8]) (by rw [q9]) (by rw [w10]) (fun r _ => ⟨by rw [w11], ARW.of q12 q13 q14 q15⟩) (fun w _ => AIN.of w16 w17)⟩
  · obtain ⟨x1, x2, _, _⟩ := hent.e2 w1
    have ta : (((a 18 (v 19 - 4 + 1).toNat).toNat : Nat) : Int) = a 18 (v 19 - 4 + 1).toNat := Int.toNat_of_nonneg x1.1
    rcases p3 with ⟨d1, _⟩ | ⟨d1, _⟩ | ⟨d1, t, q, d2, d8, d3, ⟨d4, d5, d6⟩, d7⟩ | ⟨d1, _⟩
    · omega
    · omega
    · have y3 : el rv (sk 22) (a 18 (v 19 - 4 + 1).toNat).toNat = some t := ((c3' (Or.inr w1)).2).symm.trans d2
      have tt := el22 hW hS (by omega) y3
      have tq := ty4 hW tt d8
      have zq := hT.sz (i := (a 18 (v 19 - 4 + 1).toNat).toNat) (by omega) y3 d8
      obtain ⟨t', e1', e2'⟩ := h.1 (a 18 (v 19 - 4 + 1).toNat).toNat (by omega)
      rw [y3] at e1'; cases e1'
      obtain ⟨qq, s, x, n6, ⟨g4, g5, gx, g6⟩, ⟨o1, o2', o3, o4, o5⟩, ⟨bs1, bs2⟩, ⟨z1, z2⟩, rr, ctt, ii⟩ := e2'
      rw [d8] at g4; cases g4
      obtain ⟨s', ws1, ts⟩ := hW.ref tt 5 rfl rfl rfl
      rw [g5] at ws1; cases ws1
      obtain ⟨n', wn1, tn⟩ := hW.ref tt 6 rfl rfl rfl
      rw [g6] at wn1; cases wn1
      obtain ⟨x', wx1, tx⟩ := hW.ref ts 1 rfl rfl rfl
      rw [gx] at wx1; cases wx1
      obtain ⟨hk, hel, hsz, hrv⟩ := hu.2.2.1 (by omega) t q s d2 d8 g5
      refine hv2 (show ∀ j : Nat, (j : Int) < v2 4 → el rv2 (sk 22) j = el rv (sk 22) j from fun j hj => d4 j (by omega)) (show a2 10 (a 18 (v 19 - 4 + 1).toNat).toNat = a 10 (a 18 (v 19 - 4 + 1).toNat).toNat - 1 from by rw [w10, va_up_self]) (fun he a10s => ?_)
      have b0 := hT.r200 (i := (a 18 (v 19 - 4 + 1).toNat).toNat) (by omega)
      have s2 := hsz (by omega)
      refine ⟨fun i hi => ?_, stk2 hk he (fun j t9 q9 hj ht hq y hy hy2 => ?_)⟩
      · by_cases ei : i = (a 18 (v 19 - 4 + 1).toNat).toNat
        · subst ei
          have ks := hk.tb t tt
          refine ⟨t, (he _ (by omega)).trans y3, q, s, x, n6, ⟨ks.2.2.1.trans d8, ks.2.2.2.1.trans g5, hrv.trans gx, ks.2.2.2.2.trans g6⟩, ⟨o1, o2', o3, o4, o5⟩, ⟨by rw [ks.1, q8]; exact bs1.keep (fun j hj => he j (by omega)), by rw [ks.2.1, q9]; exact bs2.keep (fun j hj => he j (by omega))⟩, ⟨by rw [a10s]; omega, by rw [a10s]; omega⟩, ?_, ?_, fun w' hw' => inds_keep (ii w' hw') tn hW hX hk (fun e => e) (AIN.of w16 w17)⟩
          · rw [a10s]
            exact rows_keep (z := a 10 (a 18 (v 19 - 4 + 1).toNat).toNat - 1) (fun r hr => rr r (by omega)) tq (by omega) (fun r hr => hel r (by omega)) hW hX hk (fun _ _ => rfl) (fun r w hz _ tw _ e => by rw [hk.rwc w tw (fun e => e), w11]; exact e) (fun r _ => ARW.of q12 q13 q14 q15)
          · exact ctt.kp ts hW hk hrv (by omega) (fun _ _ e => e) (fun j hj => by rw [q14])
        · obtain ⟨u, e1, e2⟩ := h.1 i (by omega)
          have r2 := hT.r200 (i := i) (by omega)
          exact ⟨u, (he i hi).trans e1, e2.keep (el22 hW hS (by omega) e1) hW hX hk (fun j hj => he j (by omega)) (fun _ _ => rfl) (fun b e => by rw [e, o2']; exact Ne.symm ei) (fun b e => by rw [e, o3]; exact Ne.symm ei) (fun _ e => e.elim) (by rw [q8]) (by rw [q9]) (by rw [w10, va_up_ne _ _ ei]) r2.2 (fun qb r wb _ _ _ tw _ e => by rw [hk.rwc wb tw (fun e => e), w11]; exact e) (fun r _ => ARW.of q12 q13 q14 q15) (fun n w _ tn _ hw hi => inds_keep hi tn hW hX hk (fun e => e) (AIN.of w16 w17))⟩
      · by_cases eq : q9 = q
        · subst eq
          have ej : j = (a 18 (v 19 - 4 + 1).toNat).toNat := hT.2.2.1 j (a 18 (v 19 - 4 + 1).toNat).toNat t9 t q9 (by omega) (by omega) ht y3 hq d8
          subst ej
          exact hel y (by omega)
        · exact (hk.li q9 (ty4 hW (el22 hW hS (by omega) ht) hq) eq).2 y (by rw [hT.sz (by omega) ht hq]; exact hy)
    · omega
  · obtain ⟨⟨y1, y2, y3⟩, ⟨t, q, e1t, e4q, e2w⟩, e3z⟩ := top.e3 k0 k1 k2 k3 w1
    have ta : (((a 18 (v 19 - 4 + 1).toNat).toNat : Nat) : Int) = a 18 (v 19 - 4 + 1).toNat := Int.toNat_of_nonneg (by omega)
    have tb : (((a 18 (v 19 - 4 + 2).toNat).toNat : Nat) : Int) = a 18 (v 19 - 4 + 2).toNat := Int.toNat_of_nonneg (by omega)
    have he : ∀ j : Nat, (j : Int) < v2 4 → el rv2 (sk 22) j = el rv (sk 22) j := by
      rcases p3 with ⟨d1, _⟩ | ⟨d1, _⟩ | ⟨d1, _⟩ | ⟨d1, d3, ⟨d4, d5, d6⟩⟩
      · omega
      · omega
      · omega
      · exact fun j hj => d4 j (by omega)
    obtain ⟨t', e1', e2'⟩ := h.1 (a 18 (v 19 - 4 + 1).toNat).toNat (by omega)
    rw [e1t] at e1'; cases e1'
    obtain ⟨qq, s, x, n6, ⟨g4, g5, gx, g6⟩, _, _, _, rr, _, _⟩ := e2'
    rw [e4q] at g4; cases g4
    obtain ⟨w, k1', k2', k3'⟩ := rr (a 18 (v 19 - 4 + 2).toNat).toNat (by omega)
    obtain ⟨hk, hx⟩ := hu.2.2.2.1 (by omega) w (e2w.trans k1')
    have b0 := hT.r200 (i := (a 18 (v 19 - 4 + 1).toNat).toNat) (by omega)
    have ix : (200 * a 18 (v 19 - 4 + 1).toNat + a 18 (v 19 - 4 + 2).toNat).toNat = 200 * (a 18 (v 19 - 4 + 1).toNat).toNat + (a 18 (v 19 - 4 + 2).toNat).toNat := by omega
    rw [ix] at w11
    refine ⟨fun i hi => ?_, stk2 hk he (fun j t q hj ht hq y hy _ => (hk.li q (ty4 hW (el22 hW hS (by omega) ht) hq) (fun e => e)).2 y (by rw [hT.sz (by omega) ht hq]; exact hy))⟩
    obtain ⟨u, e1, e2⟩ := h.1 i (by omega)
    have r2 := hT.r200 (i := i) (by omega)
    refine ⟨u, (he i hi).trans e1, e2.keep (el22 hW hS (by omega) e1) hW hX hk (fun j hj => he j (by omega)) (fun _ _ => rfl) (fun _ e => e.elim) (fun _ e => e.elim) (fun _ e => e.elim) (by rw [q8]) (by rw [q9]) (by rw [w10]) r2.2 (fun qb r wb hqb hr hel tw ow e3 => ?_) (fun r _ => ARW.of q12 q13 q14 q15) (fun n w _ tn _ hw hi => inds_keep hi tn hW hX hk (fun e => e) (AIN.of w16 w17))⟩
    rw [w11]
    by_cases e : 200 * i + r = 200 * (a 18 (v 19 - 4 + 1).toNat).toNat + (a 18 (v 19 - 4 + 2).toNat).toNat
    · have ei : i = (a 18 (v 19 - 4 + 1).toNat).toNat := by omega
      have er : r = (a 18 (v 19 - 4 + 2).toNat).toNat := by omega
      rw [ei, e1t] at e1; cases e1
      rw [e4q] at hqb; cases hqb
      rw [er, k1'] at hel; cases hel
      rw [e, va_up_self, hx]; exact e3z
    · rw [va_up_ne _ _ e, hk.rwc wb tw (fun ec => e (by rw [← ow, ec]; exact k2'))]
      exact e3
  · obtain ⟨y1, e1t, e3z, ind⟩ := top.e4 k0 k1 k2 k3 w1
    have ta : (((a 18 (v 19 - 4 + 1).toNat).toNat : Nat) : Int) = a 18 (v 19 - 4 + 1).toNat := Int.toNat_of_nonneg (by omega)
    have he : ∀ j : Nat, (j : Int) < v2 4 → el rv2 (sk 22) j = el rv (sk 22) j := by
      rcases p3 with ⟨d1, _⟩ | ⟨d1, _⟩ | ⟨d1, _⟩ | ⟨d1, d3, ⟨d4, d5, d6⟩⟩
      · omega
      · omega
      · omega
      · exact fun j hj => d4 j (by omega)
    obtain ⟨t, e1', e2'⟩ := h.1 (a 18 (v 19 - 4 + 1).toNat / 4).toNat (by omega)
    have tt := el22 hW hS (by omega) e1'
    obtain ⟨qq, s, x, n6, ⟨g4, g5, gx, g6⟩, ⟨o1, o2', o3, o4, o5⟩, _, _, _, _, _⟩ := e2'
    obtain ⟨n', wn1, tn⟩ := hW.ref tt 6 rfl rfl rfl
    rw [g6] at wn1; cases wn1
    obtain ⟨hk, hx⟩ := hu.2.2.2.2 (by omega) (by omega) t n6 (e1t.trans e1') g6
    have m5 : (iv ch 3).toNat = (a 18 (v 19 - 4 + 1).toNat).toNat % 4 := by omega
    rw [m5] at hk hx
    have ix : (a 18 (v 19 - 4 + 1).toNat).toNat = 4 * (a 18 (v 19 - 4 + 1).toNat / 4).toNat + (a 18 (v 19 - 4 + 1).toNat).toNat % 4 := by omega
    have ix4 : (4 * a 18 (v 19 - 4 + 1).toNat).toNat = 4 * (a 18 (v 19 - 4 + 1).toNat).toNat := by omega
    rw [ix4] at w17
    have ain : ∀ i w : Nat, w < 4 → 4 * i + w ≠ (a 18 (v 19 - 4 + 1).toNat).toNat → AIN a a2 (4 * i + w) := fun i w hw hne => ⟨by rw [w16, va_up_ne _ _ hne], fun k hk4 => w17.2 _ (by omega)⟩
    refine ⟨fun i hi => ?_, stk2 hk he (fun j t q hj ht hq y hy _ => (hk.li q (ty4 hW (el22 hW hS (by omega) ht) hq) (fun e => e)).2 y (by rw [hT.sz (by omega) ht hq]; exact hy))⟩
    obtain ⟨u, e1, e2⟩ := h.1 i (by omega)
    have r2 := hT.r200 (i := i) (by omega)
    refine ⟨u, (he i hi).trans e1, e2.keep (el22 hW hS (by omega) e1) hW hX hk (fun j hj => he j (by omega)) (fun _ _ => rfl) (fun _ e => e.elim) (fun _ e => e.elim) (fun _ e => e.elim) (by rw [q8]) (by rw [q9]) (by rw [w10]) r2.2 (fun qb r wb _ _ _ tw _ e => by rw [hk.rwc wb tw (fun e => e), w11]; exact e) (fun r _ => ARW.of q12 q13 q14 q15) (fun nb w hnb tnb onb hw hi => ?_)⟩
    by_cases e : 4 * i + w = (a 18 (v 19 - 4 + 1).toNat).toNat
    · have ei : i = (a 18 (v 19 - 4 + 1).toNat / 4).toNat := by omega
      have ew : w = (a 18 (v 19 - 4 + 1).toNat).toNat % 4 := by omega
      rw [ei, e1'] at e1; cases e1
      rw [g6] at hnb; cases hnb
      rw [e, w16, va_up_self, ew, hx]
      have ind2 := ind
      rw [show a 18 (v 19 - 4 + 1).toNat % 4 = (((a 18 (v 19 - 4 + 1).toNat).toNat % 4 : Nat) : Int) by omega] at ind2
      refine ind2.keep (fun b hb => ?_) hW hX hk (fun k hk3 hk4 => w17.1 k (by omega))
      rcases hW.opt tch 2 rfl rfl with f1 | ⟨c, f1, f2⟩
      · rw [f1.1] at hb; cases hb
      · rw [f1] at hb; cases hb; exact f2
    · exact inds_keep hi tnb hW hX hk (fun eN => e (by have f1 : i = (a 18 (v 19 - 4 + 1).toNat / 4).toNat := by rw [← onb, eN.1]; exact o5
                                                       have f2 := eN.2
                                                       omega)) (ain i w hw e)
end REPS
section RPB
variable {sk : Nat → Nat} {L L2 : List Nat} {cl ln cl2 ln2 : Nat → Nat} {iv iv2 : Nat → Nat → Int} {rv rv2 : Nat → Nat → Option Nat} {v v2 : Nat → Int} {a a2 : Nat → Nat → Int} {i j x y n r f1 f2 : Int}
theorem rps_same (hr : TABR sk iv rv v a ∧ ∃ o, RP2 o sk ln iv rv v a) (hp : PSAME sk iv rv iv2 rv2 ∧ (∃ g, WT g sk L cl ln iv rv ∧ WT g sk L2 cl2 ln2 iv2 rv2) ∧ SKL sk L cl ∧ XT L cl ln L2 cl2 ln2 ∧ (KP L cl (fun _ => False) (fun _ => False) (fun _ => False) (fun _ => False) (fun _ _ => False) iv rv iv2 rv2)) (hq : TSAME v a v2 a2) : ∃ o, RP2 o sk ln2 iv2 rv2 v2 a2 := by
  obtain ⟨hT, o, h⟩ := hr
  obtain ⟨p, ⟨g, hW, _⟩, hS, hX, hk⟩ := hp
  exact ⟨o, rp_same h hT hW hS hX hk p hq⟩
theorem tbl_rp (hT : TABR sk iv rv v a) (hr : ∃ o, RP2 o sk ln iv rv v a) (hp : PTBL x y i f1 sk iv rv iv2 rv2) (hk : (∃ g, WT g sk L cl ln iv rv ∧ WT g sk L2 cl2 ln2 iv2 rv2) ∧ SKL sk L cl ∧ XT L cl ln L2 cl2 ln2 ∧ ((f1 = -1 ∧ KP L cl (fun _ => False) (fun _ => False) (fun _ => False) (fun _ => False) (fun _ _ => False) iv rv iv2 rv2) ∨ (f1 ≠ -1 ∧ KP L cl (fun _ => False) (fun _ => False) (fun _ => False) (fun _ => False) (fun _ _ => False) iv rv iv2 rv2 ∧ ∃ b, (((x < 1 ∨ 3 < x) ∧ b = none) ∨ ((1 ≤ x ∧ x ≤ 3) ∧ ∃ t, ALV sk iv rv i t ∧ b = some t)) ∧ KNW L sk b none iv iv2 rv2))) (hq : ((f2 = -1 ∧ TSAME v a v2 a2 ∧ ¬ (0 ≤ x ∧ x ≤ 4 ∧ (y = 6 ∨ y = 8) ∧ v 4 ≠ 30 ∧ (x < 1 ∨ 3 < x ∨ (0 ≤ i ∧ i < v 4 ∧ a 5 i.toNat = 1 ∧ a 6 i.toNat ≤ 3)))) ∨ (f2 = v 4 ∧ (0 ≤ x ∧ x ≤ 4 ∧ (y = 6 ∨ y = 8) ∧ v 4 ≠ 30 ∧ (x < 1 ∨ 3 < x ∨ (0 ≤ i ∧ i < v 4 ∧ a 5 i.toNat = 1 ∧ a 6 i.toNat ≤ 3))) ∧ TNEW x y (if x < 1 ∨ 3 < x then -1 else i) (-1) v a v2 a2))) : ∃ o, RP2 o sk ln2 iv2 rv2 v2 a2 := by
  have fe := (tbl_both hT hp hq).1
  obtain ⟨o, h⟩ := hr
  obtain ⟨⟨g, hW, hW2⟩, hS, hX, kb⟩ := hk
  refine hv2 (hT.2.2.2.2.2.1) (hT.1) (fun v0 n22 => ?_)
  rcases hp with ⟨p1, p2, -⟩ | ⟨p1, -, p3⟩
  · rcases kb with ⟨_, k2⟩ | ⟨k1, -⟩
    · rcases hq with ⟨q1, q2, -⟩ | ⟨q1, -⟩
      · exact ⟨o, rp_same h hT hW hS hX k2 p2 q2⟩
      · omega
    · clear hq; omega
  · rcases kb with ⟨k1, -⟩ | ⟨_, k2, b, k3, k4⟩
    · clear hq; omega
    · rcases hq with ⟨q1, -⟩ | ⟨q1, -, q3⟩
      · omega
      · refine rp_new h hT hW hS hX k2 p3 k4 q3 ?_ (Or.inl ⟨rfl, rfl⟩)
        rcases k3 with ⟨k5, k6⟩ | ⟨k5, t, k6, k7⟩
        · rw [k6, if_pos k5]; exact Or.inl ⟨rfl, rfl⟩
        · have w := (hT.al k6).1
          rw [k7, if_neg (by omega)]; exact Or.inr ⟨w.1, by omega, k6.2.2.1.symm⟩
theorem joi_rp (hT : TABR sk iv rv v a) (hr : ∃ o, RP2 o sk ln iv rv v a) (hp : PJOI i j f1 sk iv rv iv2 rv2) (hk : (∃ g, WT g sk L cl ln iv rv ∧ WT g sk L2 cl2 ln2 iv2 rv2) ∧ SKL sk L cl ∧ XT L cl ln L2 cl2 ln2 ∧ ((f1 = -1 ∧ KP L cl (fun _ => False) (fun _ => False) (fun _ => False) (fun _ => False) (fun _ _ => False) iv rv iv2 rv2) ∨ (f1 ≠ -1 ∧ KP L cl (fun _ => False) (fun _ => False) (fun _ => False) (fun _ => False) (fun _ _ => False) iv rv iv2 rv2 ∧ ∃ t u, ALV sk iv rv i t ∧ ALV sk iv rv j u ∧ KNW L sk (some t) (some u) iv iv2 rv2))) (hq : ((f2 = -1 ∧ TSAME v a v2 a2 ∧ ¬ (0 ≤ i ∧ i < v 4 ∧ a 5 i.toNat = 1 ∧ a 6 i.toNat ≤ 3 ∧ 0 ≤ j ∧ j < v 4 ∧ a 5 j.toNat = 1 ∧ a 6 j.toNat ≤ 3 ∧ v 4 ≠ 30)) ∨ (f2 = v 4 ∧ (0 ≤ i ∧ i < v 4 ∧ a 5 i.toNat = 1 ∧ a 6 i.toNat ≤ 3 ∧ 0 ≤ j ∧ j < v 4 ∧ a 5 j.toNat = 1 ∧ a 6 j.toNat ≤ 3 ∧ v 4 ≠ 30) ∧ TNEW 5 (max (a 7 i.toNat) (a 7 j.toNat)) i j v a v2 a2))) : ∃ o, RP2 o sk ln2 iv2 rv2 v2 a2 := by
  have fe := (joi_both hT hp hq).1
  obtain ⟨o, h⟩ := hr
  obtain ⟨⟨g, hW, hW2⟩, hS, hX, kb⟩ := hk
  refine hv2 (hT.2.2.2.2.2.1) (hT.1) (fun v0 n22 => ?_)
  rcases hp with ⟨p1, p2, -⟩ | ⟨p1, p2, t, u, ⟨ht, -⟩, ⟨hu, -⟩, p3⟩
  · rcases kb with ⟨_, k2⟩ | ⟨k1, -⟩
    · rcases hq with ⟨q1, q2, -⟩ | ⟨q1, -⟩
      · exact ⟨o, rp_same h hT hW hS hX k2 p2 q2⟩
      · omega
    · clear hq; omega
  · rcases kb with ⟨k1, -⟩ | ⟨_, k2, t', u', k3, k4, k5⟩
    · clear hq; omega
    · rcases hq with ⟨q1, -⟩ | ⟨q1, -, q3⟩
      · omega
      · have e1 := k3.uni ht
        have e2 := k4.uni hu
        subst e1
        subst e2
        refine hv2 ((hT.al ht).1) ((hT.al hu).1) (fun w w2 => ?_)
        rw [(hT.al ht).2.2.1, (hT.al hu).2.2.1] at p3
        exact rp_new h hT hW hS hX k2 p3 k5 q3 (Or.inr ⟨w.1, by omega, ht.2.2.1.symm⟩) (Or.inr ⟨w2.1, by omega, hu.2.2.1.symm⟩)
theorem drp_rp (hT : TABR sk iv rv v a) (hr : ∃ o, RP2 o sk ln iv rv v a) (hp : PDRP i f1 sk iv rv iv2 rv2) (hk : (∃ g, WT g sk L cl ln iv rv ∧ WT g sk L2 cl2 ln2 iv2 rv2) ∧ SKL sk L cl ∧ XT L cl ln L2 cl2 ln2 ∧ (KP L cl (fun _ => False) (fun _ => False) (fun _ => False) (fun _ => False) (fun _ _ => False) iv rv iv2 rv2)) (hq : ((f2 = -1 ∧ TSAME v a v2 a2 ∧ ¬ (0 ≤ i ∧ i < v 4 ∧ a 5 i.toNat = 1)) ∨ (f2 = 1 ∧ (0 ≤ i ∧ i < v 4 ∧ a 5 i.toNat = 1) ∧ TDRP i v a v2 a2))) : ∃ o, RP2 o sk ln2 iv2 rv2 v2 a2 := by
  have fe := (drp_both hT hp hq).1
  obtain ⟨o, h⟩ := hr
  obtain ⟨⟨g, hW, hW2⟩, hS, hX, kb⟩ := hk
  rcases hp with ⟨p1, p2, -⟩ | ⟨p1, t, -, -, p3, -, p5⟩
  · rcases hq with ⟨q1, q2, -⟩ | ⟨q1, -⟩
    · exact ⟨o, rp_same h hT hW hS hX kb p2 q2⟩
    · omega
  · rcases hq with ⟨q1, -⟩ | ⟨q1, -, q3⟩
    · omega
    · exact ⟨o, rp_drop h hT hW hS hX kb p3 p5 q3⟩
theorem rul_rp (hT : TABR sk iv rv v a) (hr : ∃ o, RP2 o sk ln iv rv v a) (hs : iv (sk 2) 2 = v 3) (hc : CT iv rv (sk 2) (a 2)) (hp : PRUL i x n f1 sk iv rv iv2 rv2) (hk : (∃ g, WT g sk L cl ln iv rv ∧ WT g sk L2 cl2 ln2 iv2 rv2) ∧ SKL sk L cl ∧ XT L cl ln L2 cl2 ln2 ∧ (KRU L cl sk iv rv L2 cl2 ln2 iv2 rv2 i x n f1)) (hq : ((f2 = -1 ∧ TSAME v a v2 a2 ∧ ¬ ((0 ≤ i ∧ i < v 4 ∧ a 5 i.toNat = 1 ∧ a 6 i.toNat ≠ 5 ∧ 0 ≤ x ∧ x ≤ 5 ∧ 1 ≤ n ∧ n ≤ 8 ∧ 1 ≤ v 3 - n ∧ v 3 - n ≤ 4 ∧ a 10 i.toNat ≠ 200) ∧ ACL (a 2) n (v 3 - n) (DC (a 7 i.toNat)) ∧ LTK (a 2) n)) ∨ (f2 = a 10 i.toNat ∧ ((0 ≤ i ∧ i < v 4 ∧ a 5 i.toNat = 1 ∧ a 6 i.toNat ≠ 5 ∧ 0 ≤ x ∧ x ≤ 5 ∧ 1 ≤ n ∧ n ≤ 8 ∧ 1 ≤ v 3 - n ∧ v 3 - n ≤ 4 ∧ a 10 i.toNat ≠ 200) ∧ ACL (a 2) n (v 3 - n) (DC (a 7 i.toNat)) ∧ LTK (a 2) n) ∧ TRUL i x n v a v2 a2))) : ∃ o, RP2 o sk ln2 iv2 rv2 v2 a2 := by
  have fe := (rul_both hT hs hc hp hq).1
  obtain ⟨o, h⟩ := hr
  obtain ⟨⟨g, hW, hW2⟩, hS, hX, kb⟩ := hk
  rcases hp with ⟨p1, p2, -⟩ | ⟨t, q, ht, h4, p1, p2, p3, p4, p5, p6⟩
  · rcases kb with ⟨_, k2⟩ | ⟨t, q, s, x5, w, l, c, ⟨c1, c2, c3, c4, c5⟩, -⟩
    · rcases hq with ⟨q1, q2, -⟩ | ⟨q1, ⟨q2, -⟩, -⟩
      · exact ⟨o, rp_same h hT hW hS hX k2 p2 q2⟩
      · have b := hT.r200 (i := i.toNat) (by omega)
        omega
    · have b := (c1.t4 hW hS c2).2
      clear hq; omega
  · have b := (ht.t4 hW hS h4).2
    obtain ⟨w1, w2, w3, w4, q', w5, w6⟩ := hT.al ht
    rw [h4] at w5; cases w5
    obtain ⟨⟨r1, r2, r3, r4, r5, r6, r7, r8⟩, r9, r10⟩ := p2 (a 2) hc w4
    rcases kb with ⟨k1, -⟩ | ⟨t', q', s, x5, w, l, c, ⟨c1, c2, c3, c4, c5⟩, k, ⟨d1, d2, d3⟩, ⟨e1, e2, e3, e4, e5, e6⟩, ⟨f1', f2', f3'⟩, ⟨g1, g2, g3⟩, ⟨i1, i2, i3⟩⟩
    · clear hq; omega
    · have e := c1.uni ht
      subst e
      rw [h4] at c2; cases c2
      rcases hq with ⟨q1, -⟩ | ⟨q1, -, q3⟩
      · omega
      · exact rp_rule h hT hW hS hX hW2 hs hc ⟨r4, r5⟩ (by omega) (fun k hk => r10 k hk) (fun k h1 h2 => by
          refine hv2 (r9 k h1 (by omega)) (dcf (iv t' 1)) (fun b1 b2 => ?_)
          exact ⟨b1.1, by omega⟩) (by omega) ht h4 c3 c4 k d1 d2 d3 e1 e2 e3 e4 e5 e6 f2' f3' g2 g3 i1 i2 i3 p4 p6 q3
theorem cnd_rp (hT : TABR sk iv rv v a) (hr : ∃ o, RP2 o sk ln iv rv v a) (hp : PCND i r x f1 sk iv rv iv2 rv2) (hk : (∃ g, WT g sk L cl ln iv rv ∧ WT g sk L2 cl2 ln2 iv2 rv2) ∧ SKL sk L cl ∧ XT L cl ln L2 cl2 ln2 ∧ (KCN L cl sk iv rv iv2 rv2 i r x f1)) (hq : ((f2 = -1 ∧ TSAME v a v2 a2 ∧ ¬ (0 ≤ i ∧ i < v 4 ∧ a 5 i.toNat = 1 ∧ a 6 i.toNat ≠ 5 ∧ 0 ≤ r ∧ r < a 10 i.toNat ∧ 0 ≤ x ∧ x ≤ 5)) ∨ (f2 = a 11 (200 * i + r).toNat ∧ (0 ≤ i ∧ i < v 4 ∧ a 5 i.toNat = 1 ∧ a 6 i.toNat ≠ 5 ∧ 0 ≤ r ∧ r < a 10 i.toNat ∧ 0 ≤ x ∧ x ≤ 5) ∧ TCND i r x v a v2 a2))) : f1 = f2 ∧ ∃ o, RP2 o sk ln2 iv2 rv2 v2 a2 := by
  obtain ⟨o, h⟩ := hr
  obtain ⟨⟨g, hW, hW2⟩, hS, hX, kb⟩ := hk
  rcases hp with ⟨p1, p2, p3⟩ | ⟨t, q, ht, h4, p1, p3, p4, p6⟩
  · rcases hq with ⟨q1, q2, -⟩ | ⟨q1, q2, -⟩
    · rcases kb with ⟨_, k2, _⟩ | ⟨t, q, w, ⟨c1, c2, c3, c4⟩, k, k2, k3⟩
      · exact ⟨by omega, o, rp_same h hT hW hS hX k2 p2 q2⟩
      · exfalso
        obtain ⟨s1, -⟩ := k3
        have e1 := p2.2.1
        omega
    · exfalso
      obtain ⟨t, ht⟩ := hT.la (i := i) (by omega) (by omega) (by omega)
      obtain ⟨w1, w2, w3, w4, q, w5, w6⟩ := hT.al ht
      exact p3 t q ht w5 ⟨by omega, by omega, by omega, by omega, by omega⟩
  · obtain ⟨w1, w2, w3, w4, q', w5, w6⟩ := hT.al ht
    rw [h4] at w5; cases w5
    rcases hq with ⟨q1, q2, q3⟩ | ⟨q1, q2, q3⟩
    · exact absurd ⟨w1.1, w1.2.1, w1.2.2, by omega, by omega, by omega, by omega, by omega⟩ q3
    · rcases kb with ⟨k1, k2, k4⟩ | ⟨t', q', w, ⟨c1, c2, c3, c4⟩, k, k2, k3⟩
      · exfalso
        have e1 := p6.1
        omega
      · have e := c1.uni ht
        subst e
        rw [h4] at c2; cases c2
        refine ⟨?_, o, rp_cond h hT hW hS hX ht h4 c3 ⟨by omega, by omega⟩ c4 k k2 p4 p6.2.1 k3 q3⟩
        obtain ⟨t2, e1', e2'⟩ := h.1 i.toNat (by omega)
        rw [ht.2.2.1] at e1'; cases e1'
        obtain ⟨qq, _, _, _, ⟨g1, _⟩, _, _, _, rr, _⟩ := e2'
        rw [h4] at g1; cases g1
        obtain ⟨w', k1', k2', k3'⟩ := rr r.toNat (by omega)
        rw [c3] at k1'; cases k1'
        rw [c4, q1, k3'.1]
        exact congrArg (a 11) (by omega)
theorem ind_rp (hT : TABR sk iv rv v a) (hr : ∃ o, RP2 o sk ln iv rv v a) (hs : iv (sk 2) 2 = v 3) (hc : CT iv rv (sk 2) (a 2)) (hp : PIND i x f1 sk iv rv iv2 rv2) (hk : (∃ g, WT g sk L cl ln iv rv ∧ WT g sk L2 cl2 ln2 iv2 rv2) ∧ SKL sk L cl ∧ XT L cl ln L2 cl2 ln2 ∧ (KIN L cl sk iv rv L2 cl2 ln2 iv2 rv2 i x f1)) (hq : ((f2 = -1 ∧ TSAME v a v2 a2 ∧ ¬ ((0 ≤ x ∧ x ≤ 3 ∧ 0 ≤ i ∧ i < v 4 ∧ a 5 i.toNat = 1 ∧ ((x = 0 ∧ a 6 i.toNat ≤ 2) ∨ (x = 1 ∧ a 6 i.toNat = 2) ∨ (x ≠ 0 ∧ x ≠ 1 ∧ a 6 i.toNat = 5)) ∧ v 3 ≤ 4) ∧ ACL (a 2) 0 (v 3) (DC (a 7 i.toNat)) ∧ True)) ∨ (f2 = v 3 ∧ ((0 ≤ x ∧ x ≤ 3 ∧ 0 ≤ i ∧ i < v 4 ∧ a 5 i.toNat = 1 ∧ ((x = 0 ∧ a 6 i.toNat ≤ 2) ∨ (x = 1 ∧ a 6 i.toNat = 2) ∨ (x ≠ 0 ∧ x ≠ 1 ∧ a 6 i.toNat = 5)) ∧ v 3 ≤ 4) ∧ ACL (a 2) 0 (v 3) (DC (a 7 i.toNat)) ∧ True) ∧ TIND i x v a v2 a2))) : ∃ o, RP2 o sk ln2 iv2 rv2 v2 a2 := by
  have fe := (ind_both hT hs hc hp hq).1
  obtain ⟨o, h⟩ := hr
  obtain ⟨⟨g, hW, hW2⟩, hS, hX, kb⟩ := hk
  have z2 : 0 ≤ iv (sk 2) 2 := (hW.int (show ty L cl (sk 2) 2 from ⟨(hS 2 rfl).1, by rw [(hS 2 rfl).2]; rfl⟩) 2).1
  rcases hp with ⟨p1, p2, -⟩ | ⟨p1, t, ht, p2, p3, p4, p6⟩
  · rcases kb with ⟨_, k2⟩ | ⟨t, n6, ⟨c1, c2, c3⟩, -⟩
    · rcases hq with ⟨q1, q2, -⟩ | ⟨q1, -⟩
      · exact ⟨o, rp_same h hT hW hS hX k2 p2 q2⟩
      · omega
    · clear hq; omega
  · obtain ⟨w1, w2, w3, w4, q', w5, w6⟩ := hT.al ht
    obtain ⟨⟨r1, r2, r3, r4⟩, r9⟩ := p2 (a 2) hc w4
    rcases kb with ⟨k1, -⟩ | ⟨t', n6, ⟨c1, c2, c3⟩, k, k2, k3⟩
    · clear hq; omega
    · have e := c1.uni ht
      subst e
      have k2i : IDD sk L2 cl2 ln2 iv rv iv2 rv2 n6 x := k2
      clear k2
      rcases hq with ⟨q1, -⟩ | ⟨q1, -, q3⟩
      · omega
      · exact ⟨o, rp_ind h hT hW hS hX hs hc (fun k hk => by
          refine hv2 (r9 k (by omega) (by omega)) (dcf (iv t' 1)) (fun b1 b2 => ?_)
          exact ⟨b1.1, by omega⟩) (by omega) ht c2 ⟨r1, r2⟩ k k2i p4 p6.2.1 k3 q3⟩
theorem und_rp (hT : TABR sk iv rv v a) (hr : ∃ o, RP2 o sk ln iv rv v a) (hp : PUNX f1 sk iv rv iv2 rv2) (hk : (∃ g, WT g sk L cl ln iv rv ∧ WT g sk L2 cl2 ln2 iv2 rv2) ∧ SKL sk L cl ∧ XT L cl ln L2 cl2 ln2 ∧ ((f1 = 0 ∧ KP L cl (fun _ => False) (fun _ => False) (fun _ => False) (fun _ => False) (fun _ _ => False) iv rv iv2 rv2) ∨ (f1 = 1 ∧ ∃ ch, el rv (sk 23) (iv (sk 23) 2 - 1).toNat = some ch ∧ UKP L cl ch iv rv iv2 rv2))) (hq : (∃ ln, STK ln v a) ∧ (∃ ln, STK ln v2 a2) ∧ ((v 19 = 0 ∧ f2 = 0 ∧ TSAME v a v2 a2) ∨ (v 19 ≠ 0 ∧ f2 = 1 ∧ TUND v a v2 a2))) : ∃ o, RP2 o sk ln2 iv2 rv2 v2 a2 := by
  obtain ⟨o, h⟩ := hr
  obtain ⟨⟨g, hW, hW2⟩, hS, hX, kb⟩ := hk
  obtain ⟨⟨lm, s1⟩, ⟨lm2, s2⟩, hq⟩ := hq
  have n23 := hT.2.2.2.1
  rcases hp with ⟨p1, p2, p3⟩ | ⟨p1, p2, ch, p3, p4⟩
  · rcases kb with ⟨_, k2⟩ | ⟨k1, -⟩
    · rcases hq with ⟨q1, q2, q3⟩ | ⟨q1, -⟩
      · exact ⟨o, rp_same h hT hW hS hX k2 p3 q3⟩
      · omega
    · clear hq; omega
  · rcases kb with ⟨k1, -⟩ | ⟨_, ch', k2, k3⟩
    · clear hq; omega
    · rw [p3] at k2; cases k2
      rcases hq with ⟨q1, -⟩ | ⟨q1, -, q3⟩
      · omega
      · exact ⟨o, rp_undo h hT hW hS hX s1 s2 q1 p3 p4 k3 q3⟩
theorem rp_zero (h2 : iv (sk 23) 2 = 0) (h3 : v 4 = 0) : ∃ o, RP2 o sk ln iv rv v a := ⟨fun _ => 0, fun i hi => absurd hi (by omega), fun k hk => absurd hk (by omega)⟩
end RPB
end
section
def SEC (v : Nat → Int) (a : Nat → Nat → Int) : Prop := ∀ i : Nat, (i : Int) < v 4 → a 6 i ≠ 5 → a 9 i = -1
def TRL (sk ln : Nat → Nat) (iv : Nat → Nat → Int) (rv : Nat → Nat → Option Nat) (v : Nat → Int) (a : Nat → Nat → Int) : Prop := TABR sk iv rv v a ∧ (∃ o, RP2 o sk ln iv rv v a) ∧ TBL v a ∧ SEC v a
def RWD (ln : Nat → Nat) (iv : Nat → Nat → Int) (rv : Nat → Nat → Option Nat) (a : Nat → Nat → Int) (w : Nat) (d : Int) : Prop := (0 ≤ d → ROWR ln iv rv a w d.toNat) ∧ (d < 0 → (iv w 0 = (-1 - d) % 4 ∧ ∃ lb, rv w 1 = some lb ∧ ln lb = 0) ∧ ∃ c, rv w 2 = some c ∧ ((ln c : Nat) : Int) = a 16 (-1 - d).toNat ∧ ∀ k : Nat, k < ln c → iv c k = a 17 (4 * (-1 - d).toNat + k))
def HL (L : List Nat) (cl ln : Nat → Nat) (iv : Nat → Nat → Int) (rv : Nat → Nat → Option Nat) (a : Nat → Nat → Int) (q : Nat) (l : List Int) : Prop := iv q 2 = (l.length : Int) ∧ ∀ (r : Nat) (d : Int), l[r]? = some d → ∃ w, el rv q r = some w ∧ ty L cl w 20 ∧ RWD ln iv rv a w d
def QT (g : Nat) (sk : Nat → Nat) (L : List Nat) (cl ln : Nat → Nat) (iv : Nat → Nat → Int) (rv : Nat → Nat → Option Nat) (L1 : List Nat) (cl1 ln1 : Nat → Nat) (iv1 : Nat → Nat → Int) (rv1 : Nat → Nat → Option Nat) : Prop := WT g sk L cl ln iv rv ∧ SKL sk L cl ∧ XT L cl ln L1 cl1 ln1 ∧ PSAME sk iv rv iv1 rv1 ∧ KP L cl (fun _ => False) (fun _ => False) (fun _ => False) (fun _ => False) (fun _ _ => False) iv rv iv1 rv1
def UPX (sk ln : Nat → Nat) (iv : Nat → Nat → Int) (rv : Nat → Nat → Option Nat) (r : Option Nat) (f : Int) : Prop := ∀ v a, TRL sk ln iv rv v a → ∀ t : Int, BASR sk rv (v 4).toNat r t → (f = 1 ↔ UPC a t)
def UPI (sk ln : Nat → Nat) (iv : Nat → Nat → Int) (rv : Nat → Nat → Option Nat) (r x : Option Nat) : Prop := ∀ v a, TRL sk ln iv rv v a → ∀ t : Int, BASR sk rv (v 4).toNat r t → ∃ t2 : Int, BASR sk rv (v 4).toNat x t2 ∧ (UPC a t ↔ UPC a t2)
def TWX (sk ln : Nat → Nat) (iv : Nat → Nat → Int) (rv : Nat → Nat → Option Nat) (b : Nat) (f : Int) : Prop := ∀ v a, TRL sk ln iv rv v a → ∀ i : Nat, (i : Int) < v 4 → el rv (sk 22) i = some b → (f = 1 ↔ WHL v a i)
def WOX (sk ln : Nat → Nat) (iv : Nat → Nat → Int) (rv : Nat → Nat → Option Nat) (i : Int) (f : Option Nat) : Prop := ∀ v a, TRL sk ln iv rv v a → (f = none ∧ ¬ WHL v a i) ∨ (∃ b, f = some b ∧ (0 ≤ i ∧ i < v 4) ∧ el rv (sk 22) i.toNat = some b ∧ WHL v a i)
def LAD (q : Nat) (r : Option Nat) (iv : Nat → Nat → Int) (rv : Nat → Nat → Option Nat) (iv2 : Nat → Nat → Int) (rv2 : Nat → Nat → Option Nat) : Prop := (r = none ∧ iv2 q 2 = iv q 2 ∧ ∀ j : Nat, (j : Int) < iv q 2 → el rv2 q j = el rv q j) ∨ ∃ x, r = some x ∧ iv2 q 2 = iv q 2 + 1 ∧ el rv2 q (iv q 2).toNat = some x ∧ ∀ j : Nat, (j : Int) < iv q 2 → el rv2 q j = el rv q j
def GLQ (sk ln : Nat → Nat) (iv : Nat → Nat → Int) (rv : Nat → Nat → Option Nat) (b : Nat) (L1 : List Nat) (cl1 ln1 : Nat → Nat) (iv1 : Nat → Nat → Int) (rv1 : Nat → Nat → Option Nat) (q : Nat) (P : (Nat → Nat → Int) → Int → List Int) : Prop := ∀ v a, TRL sk ln iv rv v a → ∀ i : Nat, (i : Int) < v 4 → el rv (sk 22) i = some b → HL L1 cl1 ln1 iv1 rv1 a q (P a i)
def GP7 (sk ln : Nat → Nat) (iv : Nat → Nat → Int) (rv : Nat → Nat → Option Nat) (b : Nat) (L1 : List Nat) (cl1 ln1 : Nat → Nat) (iv1 : Nat → Nat → Int) (rv1 : Nat → Nat → Option Nat) (q : Nat) (x : Option Nat) : Prop := ∀ v a, TRL sk ln iv rv v a → ∀ i : Nat, (i : Int) < v 4 → el rv (sk 22) i = some b → ∃ (t : Int) (l : List Int), BASR sk rv1 (v 4).toNat x t ∧ HL L1 cl1 ln1 iv1 rv1 a q l ∧ l ++ RWL a t = RWL a i
def GP13 (sk ln : Nat → Nat) (iv : Nat → Nat → Int) (rv : Nat → Nat → Option Nat) (b : Nat) (L1 : List Nat) (cl1 ln1 : Nat → Nat) (iv1 : Nat → Nat → Int) (rv1 : Nat → Nat → Option Nat) (q tr : Nat) (k : Int) : Prop := ∀ v a, TRL sk ln iv rv v a → ∀ i : Nat, (i : Int) < v 4 → el rv (sk 22) i = some b → ∃ (j : Nat) (l : List Int), ((j : Int) < v 4 ∧ 0 ≤ k) ∧ el rv1 (sk 22) j = some tr ∧ HL L1 cl1 ln1 iv1 rv1 a q l ∧ l ++ (rng (200 * (j : Int) + a 10 j - (200 * (j : Int) + k)).toNat (200 * (j : Int) + k) ++ RWL a (a 8 j)) = RWL a i
section ROWS
variable {g : Nat} {sk : Nat → Nat} {L L1 L2 L3 : List Nat} {cl ln cl1 ln1 cl2 ln2 cl3 ln3 : Nat → Nat} {iv iv1 iv2 iv3 : Nat → Nat → Int} {rv rv1 rv2 rv3 : Nat → Nat → Option Nat} {v : Nat → Int} {a : Nat → Nat → Int} {ls : List Nat} {t b q n w u c0 tr : Nat} {d f f1 f2 i0 j0 k0 : Int} {r x y : Option Nat} {l : List Int}
theorem QT.of (hW : WT g sk L cl ln iv rv) (hS : SKL sk L cl) (hX : XT L cl ln L1 cl1 ln1) (hF : fT ls L cl iv rv iv1 rv1) (h1 : kpl ls = true) (a1 : ls.contains 22 = false) (a2 : ls.contains 1000 = false) (a3 : ls.contains 23 = false) (a4 : ls.contains 1001 = false) : QT g sk L cl ln iv rv L1 cl1 ln1 iv1 rv1 :=
  have k := kpl_no h1
  ⟨hW, hS, hX, PSAME.fr hW hS hF a1 a2 a3 a4 k.1 k.2.2.2.2.2.2.1 k.2.2.1, KP.fr hW hF h1⟩
theorem TSAME.rf : TSAME v a v a := ⟨rfl, rfl, rfl, rfl, rfl, rfl, rfl, rfl, rfl, rfl, rfl, rfl, rfl, rfl, rfl, rfl⟩
theorem TRL.qq (h : TRL sk ln iv rv v a) (q : QT g sk L cl ln iv rv L1 cl1 ln1 iv1 rv1) : TRL sk ln1 iv1 rv1 v a := by
  obtain ⟨hW, hS, hX, hp, hk⟩ := q
  obtain ⟨h1, ⟨o, h2⟩, h3, h4⟩ := h
  exact ⟨tab_same h1 hp TSAME.rf, ⟨o, rp_same h2 h1 hW hS hX hk hp TSAME.rf⟩, h3, h4⟩
theorem QT.el (q : QT g sk L cl ln iv rv L1 cl1 ln1 iv1 rv1) (h : TRL sk ln iv rv v a) {i : Nat} (hi : (i : Int) < v 4) : el rv1 (sk 22) i = el rv (sk 22) i := by
  obtain ⟨hW, hS, hX, hp, hk⟩ := q
  exact hp.2.2.1.1 i (by rw [h.1.1]; exact hi)
theorem TRL.tab (h : TRL sk ln iv rv v a) {i : Nat} (hi : (i : Int) < v 4) (ht : el rv (sk 22) i = some t) : (iv t 0 = a 6 i ∧ iv t 7 + a 5 i = 1 ∧ (a 5 i = 0 ∨ a 5 i = 1) ∧ 0 ≤ a 10 i ∧ a 10 i ≤ 200) ∧ (BASR sk rv i (rv t 2) (a 8 i) ∧ BASR sk rv i (rv t 3) (a 9 i)) ∧ ∃ q n, (rv t 4 = some q ∧ rv t 6 = some n ∧ iv q 2 = a 10 i) ∧ (∀ r : Nat, (r : Int) < a 10 i → ∃ w, el rv q r = some w ∧ ROWR ln iv rv a w (200 * i + r)) ∧ (∀ w : Nat, w < 4 → INDR ln iv rv (rv n w) (w : Int) (a 16 (4 * i + w)) (fun k => a 17 (4 * (4 * i + w) + k))) := by
  obtain ⟨h1, ⟨o, h2⟩, _, _⟩ := h
  obtain ⟨t1, q1, b1, b2, b3, b4, b5, b6, b7, b8, b9⟩ := h1.2.1 i hi
  rw [ht] at b1; cases b1
  obtain ⟨t1, c1, c2⟩ := h2.1 i hi
  rw [ht] at c1; cases c1
  obtain ⟨q2, s, x, n, ⟨e1, e2, e3, e4⟩, _, e5, ⟨_, e6⟩, e7, _, e8⟩ := c2
  rw [b2] at e1; cases e1
  refine ⟨⟨b3, b5, b8, b9⟩, e5, q1, n, ⟨b2, e4, b6⟩, fun r hr => ?_, e8⟩
  obtain ⟨w, g1, _, g2⟩ := e7 r hr
  exact ⟨w, g1, g2⟩
theorem TRL.smt (h : TRL sk ln iv rv v a) {i : Nat} (hi : (i : Int) < v 4) : ∃ t, el rv (sk 22) i = some t := by
  obtain ⟨t, q, b1, _⟩ := h.1.2.1 i hi
  exact ⟨t, b1⟩
theorem BASR.up {i m : Nat} {z : Int} (h : BASR sk rv i r z) (hm : i ≤ m) : BASR sk rv m r z := by
  rcases h with h | ⟨h1, h2, h3⟩
  · exact Or.inl h
  · exact Or.inr ⟨h1, by omega, h3⟩
theorem BASR.tb {z : Int} (h : TRL sk ln iv rv v a) (hb : BASR sk rv (v 4).toNat (some b) z) : 0 ≤ z ∧ z < v 4 ∧ el rv (sk 22) z.toNat = some b := by
  have h4 := h.1.2.2.2.2.2.1.1
  rcases hb with ⟨_, e⟩ | ⟨h1, h2, h3⟩
  · cases e
  · exact ⟨h1, by omega, h3.symm⟩
theorem BASR.no {z : Int} (h : TRL sk ln iv rv v a) (hb : BASR sk rv (v 4).toNat none z) : z < 0 := by
  have h4 := h.1.2.2.2.2.2.1.1
  rcases hb with ⟨e, _⟩ | ⟨h1, h2, h3⟩
  · omega
  · obtain ⟨t, ht⟩ := h.smt (i := z.toNat) (by omega)
    rw [ht] at h3; cases h3
theorem TRL.v30 (h : TRL sk ln iv rv v a) : v 4 ≤ 30 := h.1.2.2.2.2.2.1.2
theorem TRL.b0 (h : TRL sk ln iv rv v a) : 0 ≤ v 4 := h.1.2.2.2.2.2.1.1
theorem TRL.s (h : TRL sk ln iv rv v a) {z : Int} (h0 : 0 ≤ z) (h4 : z < v 4) : UPC a z ↔ (a 5 z.toNat = 1 ∧ UPC a (a 8 z.toNat)) := UPC.s h.2.2.1 h.v30 h0 h4
theorem TRL.both (h : TRL sk ln iv rv v a) {i : Nat} (hi : (i : Int) < v 4) : WHL v a i ↔ (UPC a i ∧ UPC a (a 9 i)) := by
  by_cases e : a 6 i = 5
  · exact WHL.j h.2.2.1 h.v30 (by omega) hi e
  · have e9 := h.2.2.2 i hi e
    rw [WHL.p h.2.2.1 h.v30 (t := (i : Int)) (by omega) hi e]
    exact ⟨fun g => ⟨g, UPC.neg0 (by omega)⟩, fun g => g.1⟩
theorem UPI.refl : UPI sk ln iv rv r r := fun v a _ t hb => ⟨t, hb, Iff.rfl⟩
theorem UPI.no (h : UPI sk ln iv rv r (some b)) (h7 : iv b 7 ≠ 0) : UPX sk ln iv rv r 0 := by
  intro v a hR t hb
  obtain ⟨t2, g1, g2⟩ := h v a hR t hb
  obtain ⟨p1, p2, p3⟩ := g1.tb hR
  have p4 := (hR.tab (i := t2.toNat) (by omega) p3).1
  refine ⟨fun e => absurd e (by decide), fun e => ?_⟩
  have p5 := ((hR.s p1 p2).mp (g2.mp e)).1
  omega
theorem UPI.yes (h : UPI sk ln iv rv r none) : UPX sk ln iv rv r 1 := by
  intro v a hR t hb
  obtain ⟨t2, g1, g2⟩ := h v a hR t hb
  exact ⟨fun _ => g2.mpr (UPC.neg0 (g1.no hR)), fun _ => rfl⟩
theorem UPI.next (h : UPI sk ln iv rv r (some b)) (h7 : iv b 7 = 0) (h2 : rv b 2 = x) : UPI sk ln iv rv r x := by
  intro v a hR t hb
  obtain ⟨t2, g1, g2⟩ := h v a hR t hb
  obtain ⟨p1, p2, p3⟩ := g1.tb hR
  obtain ⟨⟨_, p4, _⟩, ⟨p5, _⟩, _⟩ := hR.tab (i := t2.toNat) (by omega) p3
  rw [h2] at p5
  refine ⟨_, p5.up (by omega), g2.trans ?_⟩
  rw [hR.s p1 p2]
  exact ⟨fun g => g.2, fun g => ⟨by omega, g⟩⟩
theorem el_bas {i m : Nat} (h : el rv (sk 22) i = some b) (hi : i < m) : BASR sk rv m (some b) (i : Int) := Or.inr ⟨by omega, by omega, by rw [Int.toNat_natCast]; exact h.symm⟩
theorem TWX.yes (h1 : UPX sk ln iv rv (some b) f1) (h2 : UPX sk ln iv rv x f2) (hx : rv b 3 = x) (e1 : f1 = 1) (e2 : f2 = 1) : TWX sk ln iv rv b 1 := by
  intro v a hR i hi ht
  have h4 := hR.b0
  obtain ⟨_, ⟨_, p6⟩, _⟩ := hR.tab hi ht
  rw [hx] at p6
  exact ⟨fun _ => (hR.both hi).mpr ⟨(h1 v a hR i (el_bas ht (by omega))).mp e1, (h2 v a hR _ (p6.up (by omega))).mp e2⟩, fun _ => rfl⟩
theorem TWX.no1 (h1 : UPX sk ln iv rv (some b) f1) (e1 : f1 ≠ 1) : TWX sk ln iv rv b 0 := by
  intro v a hR i hi ht
  exact ⟨fun e => absurd e (by decide), fun e => absurd ((h1 v a hR i (el_bas ht (by omega))).mpr ((hR.both hi).mp e).1) e1⟩
theorem TWX.no2 (h2 : UPX sk ln iv rv x f2) (hx : rv b 3 = x) (e2 : f2 ≠ 1) : TWX sk ln iv rv b 0 := by
  intro v a hR i hi ht
  obtain ⟨_, ⟨_, p6⟩, _⟩ := hR.tab hi ht
  rw [hx] at p6
  exact ⟨fun e => absurd e (by decide), fun e => absurd ((h2 v a hR _ (p6.up (by omega))).mpr ((hR.both hi).mp e).2) e2⟩
theorem WOX.n1 (h : ∀ b, ¬ ALV sk iv rv i0 b) : WOX sk ln iv rv i0 none := fun v a hR => Or.inl ⟨rfl, fun hw => by
  obtain ⟨w1, w2, w3⟩ := WHL.tr hw
  obtain ⟨t, ht⟩ := hR.1.la w1 w2 w3
  exact h t ht⟩
theorem ALV.i (hA : ALV sk iv rv i0 b) (hR : TRL sk ln iv rv v a) : 0 ≤ i0 ∧ i0 < v 4 ∧ ((i0.toNat : Nat) : Int) = i0 := ⟨hA.1, by have := hA.2.1; rw [hR.1.1] at this; exact this, Int.toNat_of_nonneg hA.1⟩
theorem WOX.n2 (hA : ALV sk iv rv i0 b) (hw : TWX sk ln iv rv b f2) (e : f2 ≠ 1) : WOX sk ln iv rv i0 none := fun v a hR => Or.inl ⟨rfl, fun g => by
  obtain ⟨p1, p2, p3⟩ := hA.i hR
  exact e ((hw v a hR i0.toNat (by omega) hA.2.2.1).mpr (by rw [p3]; exact g))⟩
theorem WOX.ys (hA : ALV sk iv rv i0 b) (hw : TWX sk ln iv rv b f2) (e : f2 = 1) : WOX sk ln iv rv i0 (some b) := fun v a hR => by
  obtain ⟨p1, p2, p3⟩ := hA.i hR
  have g := (hw v a hR i0.toNat (by omega) hA.2.2.1).mp e
  rw [p3] at g
  exact Or.inr ⟨b, rfl, ⟨p1, p2⟩, hA.2.2.1, g⟩
theorem RWD.keep (h : RWD ln iv rv a w d) (tw : ty L cl w 20) (hW : WT g sk L cl ln iv rv) (hX : XT L cl ln L1 cl1 ln1) (hk : KP L cl (fun _ => False) (fun _ => False) (fun _ => False) (fun _ => False) (fun _ _ => False) iv rv iv1 rv1) : RWD ln1 iv1 rv1 a w d := by
  refine ⟨fun e => ?_, fun e => ?_⟩
  · have g := h.1 e
    exact g.keep tw hW hX hk (by rw [hk.rwc w tw (fun e => e)]; exact g.1) ⟨rfl, rfl, fun _ _ => rfl, fun _ _ => rfl⟩
  · obtain ⟨g1, c, g2, g3, g4⟩ := h.2 e
    obtain ⟨c', w2, tc⟩ := hW.ref tw 2 rfl rfl rfl
    rw [g2] at w2; cases w2
    refine hv2 (hk.rw0 w tw) ((hX c tc.1).2.2) (fun q n2 => ?_)
    obtain ⟨g1, lb, g7, g8⟩ := g1
    obtain ⟨l', w3, tl⟩ := hW.ref tw 1 rfl rfl rfl
    rw [g7] at w3; cases w3
    refine ⟨⟨q.1.trans g1, lb, q.2.1.trans g7, by rw [(hX lb tl.1).2.2]; exact g8⟩, c, q.2.2.trans g2, by rw [n2]; exact g3, fun k hk2 => ?_⟩
    rw [n2] at hk2
    rw [hk.ce c tc k]; exact g4 k hk2
theorem HL.nil (h : iv q 2 = 0) : HL L cl ln iv rv a q [] := ⟨h, fun r d e => by simp at e⟩
theorem HL.mv (h : HL L cl ln iv rv a q l) (hq : QT g sk L cl ln iv rv L1 cl1 ln1 iv1 rv1) (hz : iv1 q 2 = iv q 2) (he : ∀ j : Nat, (j : Int) < iv q 2 → el rv1 q j = el rv q j) : HL L1 cl1 ln1 iv1 rv1 a q l := by
  obtain ⟨hW, hS, hX, hp, hk⟩ := hq
  obtain ⟨h1, h2⟩ := h
  refine ⟨hz.trans h1, fun r d e => ?_⟩
  obtain ⟨w, g1, g2, g3⟩ := h2 r d e
  exact ⟨w, (he r (by rw [h1]; have := gl_lt e; omega)).trans g1, hX.ty g2, g3.keep g2 hW hX hk⟩
theorem HL.snoc (h : HL L cl ln iv rv a q l) (hq : QT g sk L cl ln iv rv L1 cl1 ln1 iv1 rv1) (hz : iv1 q 2 = iv q 2 + 1) (hw : el rv1 q (iv q 2).toNat = some w) (he : ∀ j : Nat, (j : Int) < iv q 2 → el rv1 q j = el rv q j) (tw : ty L cl w 20) (hd : RWD ln iv rv a w d) : HL L1 cl1 ln1 iv1 rv1 a q (l ++ [d]) := by
  obtain ⟨hW, hS, hX, hp, hk⟩ := hq
  obtain ⟨h1, h2⟩ := h
  refine ⟨by rw [hz, h1, List.length_append]; rfl, fun r e he2 => ?_⟩
  have lt := gl_lt he2
  rw [List.length_append] at lt
  have lt2 : r < l.length + 1 := lt
  by_cases e1 : r < l.length
  · rw [List.getElem?_append_left e1] at he2
    obtain ⟨w, g1, g2, g3⟩ := h2 r e he2
    exact ⟨w, (he r (by omega)).trans g1, hX.ty g2, g3.keep g2 hW hX hk⟩
  · rw [List.getElem?_append_right (by omega), show r - l.length = 0 by omega] at he2
    cases he2
    exact ⟨w, by rw [show r = (iv q 2).toNat by omega]; exact hw, hX.ty tw, hd.keep tw hW hX hk⟩
theorem HL.ind {i j : Nat} (h : HL L cl ln iv rv a q l) (hq : QT g sk L cl ln iv rv L1 cl1 ln1 iv1 rv1) (hL : LAD q r iv rv iv1 rv1) (tr : ∀ b, r = some b → ty L cl b 20) (hI : INDR ln iv rv r (j : Int) (a 16 (4 * i + j)) (fun k => a 17 (4 * (4 * i + j) + k))) (hj : j < 4) : HL L1 cl1 ln1 iv1 rv1 a q (l ++ indl a (4 * (i : Int) + (j : Int))) := by
  have en : (4 * (i : Int) + (j : Int)).toNat = 4 * i + j := by omega
  unfold indl
  rw [en]
  rcases hL with ⟨g1, g2, g3⟩ | ⟨x, g1, g2, g3, g4⟩
  · rcases hI with ⟨_, p2⟩ | ⟨b, c, p1, _⟩
    · rw [p2, if_neg (by decide), List.append_nil]; exact h.mv hq g2 g3
    · rw [g1] at p1; cases p1
  · rcases hI with ⟨p1, _⟩ | ⟨b, c, p1, p2, p3, p4, p5, p6⟩
    · rw [g1] at p1; cases p1
    · rw [g1] at p1; cases p1
      rw [if_pos p5]
      refine h.snoc hq g2 g3 g4 (tr x g1) ⟨fun e => absurd e (by omega), fun _ => ⟨⟨by rw [p2.1]; omega, p2.2⟩, c, p3, ?_, fun k hk => ?_⟩⟩
      · rw [p4]; exact congrArg (a 16) (by omega)
      · have e9 : (-1 - (-1 - (4 * (i : Int) + (j : Int)))).toNat = 4 * i + j := by omega
        rw [e9]; exact (p6 k hk).1
theorem GLQ.nil (h : iv1 q 2 = 0) : GLQ sk ln iv rv b L1 cl1 ln1 iv1 rv1 q (fun _ _ => []) := fun _ _ _ _ _ _ => HL.nil h
theorem GLQ.mv {P : (Nat → Nat → Int) → Int → List Int} (h : GLQ sk ln iv rv b L1 cl1 ln1 iv1 rv1 q P) (hq : QT g sk L1 cl1 ln1 iv1 rv1 L2 cl2 ln2 iv2 rv2) (hz : iv2 q 2 = iv1 q 2) (he : ∀ j : Nat, (j : Int) < iv1 q 2 → el rv2 q j = el rv1 q j) : GLQ sk ln iv rv b L2 cl2 ln2 iv2 rv2 q P := fun v a hR i hi ht => (h v a hR i hi ht).mv hq hz he
theorem GLQ.ind {P : (Nat → Nat → Int) → Int → List Int} {j : Nat} (h : GLQ sk ln iv rv b L1 cl1 ln1 iv1 rv1 q P) (h0 : QT g sk L cl ln iv rv L1 cl1 ln1 iv1 rv1) (hq : QT g sk L1 cl1 ln1 iv1 rv1 L2 cl2 ln2 iv2 rv2) (tn : ty L1 cl1 n 68) (e6 : rv1 b 6 = some n) (er : rv1 n j = r) (hL : LAD q r iv1 rv1 iv2 rv2) (hj : j < 4) : GLQ sk ln iv rv b L2 cl2 ln2 iv2 rv2 q (fun a i => P a i ++ indl a (4 * i + (j : Int))) := by
  intro v a hR i hi ht
  have hR1 := hR.qq h0
  obtain ⟨_, _, q1, n1, ⟨_, p2, _⟩, _, p5⟩ := hR1.tab hi ((h0.el hR hi).trans ht)
  rw [e6] at p2; cases p2
  have p6 := p5 j hj
  rw [er] at p6
  refine (h v a hR i hi ht).ind hq hL (fun x hx => ?_) p6 hj
  obtain ⟨hW, _⟩ := hq
  rcases hW.opt tn j rfl rfl with e | ⟨c, e1, e2⟩
  · rw [er, hx] at e; exact absurd e.1 (by simp)
  · rw [er, hx] at e1; cases e1; exact e2
theorem GP7.init (h : iv q 2 = 0) : GP7 sk ln iv rv b L cl ln iv rv q (some b) := fun v a hR i hi ht => ⟨i, [], el_bas ht (by have := hR.b0; omega), HL.nil h, rfl⟩
theorem GP7.start (h : GP7 sk ln iv rv b L1 cl1 ln1 iv1 rv1 q (some tr)) (h0 : QT g sk L cl ln iv rv L1 cl1 ln1 iv1 rv1) : GP13 sk ln iv rv b L1 cl1 ln1 iv1 rv1 q tr 0 := by
  intro v a hR i hi ht
  obtain ⟨t, l, g1, g2, g3⟩ := h v a hR i hi ht
  have hR1 := hR.qq h0
  obtain ⟨p1, p2, p3⟩ := g1.tb hR1
  have e : ((t.toNat : Nat) : Int) = t := Int.toNat_of_nonneg p1
  refine ⟨t.toNat, l, ⟨by omega, Int.le_refl _⟩, p3, g2, ?_⟩
  rw [RWL.s hR.2.2.1 hR.v30 p1 p2] at g3
  rw [e, show 200 * t + a 10 t.toNat - (200 * t + 0) = a 10 t.toNat by omega, Int.add_zero]
  exact g3
theorem ty26 (hW : WT g sk L cl ln iv rv) (tt : ty L cl t 100) (h4 : rv t 4 = some q) : ty L cl q 26 := ty4 hW tt h4
theorem GP13.step {k : Int} {q4 : Nat} (h : GP13 sk ln iv rv b L1 cl1 ln1 iv1 rv1 q tr k) (h0 : QT g sk L cl ln iv rv L1 cl1 ln1 iv1 rv1) (hq : QT g sk L1 cl1 ln1 iv1 rv1 L2 cl2 ln2 iv2 rv2) (tt : ty L1 cl1 tr 100) (e4 : rv1 tr 4 = some q4) (hk : k < iv1 q4 2) (hw : el rv1 q4 k.toNat = some w) (hA : iv2 q 2 = iv1 q 2 + 1 ∧ el rv2 q (iv1 q 2).toNat = some w ∧ ∀ j : Nat, (j : Int) < iv1 q 2 → el rv2 q j = el rv1 q j) : GP13 sk ln iv rv b L2 cl2 ln2 iv2 rv2 q tr (k + 1) := by
  intro v a hR i hi ht
  obtain ⟨j, l, ⟨p1, p2⟩, p3, p4, p5⟩ := h v a hR i hi ht
  have hR1 := hR.qq h0
  obtain ⟨_, _, q1, n1, ⟨c1, _, c3⟩, c4, _⟩ := hR1.tab p1 p3
  rw [e4] at c1; cases c1
  have hk2 : k < a 10 j := by omega
  obtain ⟨w', d1, d2⟩ := c4 k.toNat (by omega)
  rw [hw] at d1; cases d1
  have tw := el26 hq.1 (ty4 hq.1 tt e4) (by omega) hw
  have e : (200 * (j : Int) + k).toNat = 200 * j + k.toNat := by omega
  refine ⟨j, l ++ [200 * (j : Int) + k], ⟨p1, by omega⟩, (hq.el hR1 p1).trans p3, p4.snoc hq hA.1 hA.2.1 hA.2.2 tw ⟨fun _ => by rw [e]; exact d2, fun e2 => absurd e2 (by omega)⟩, ?_⟩
  rw [rng_c (by omega)] at p5
  rw [List.append_assoc, ← Int.add_assoc]
  exact p5
theorem GP13.fin {k : Int} {q4 : Nat} (h : GP13 sk ln iv rv b L1 cl1 ln1 iv1 rv1 q tr k) (h0 : QT g sk L cl ln iv rv L1 cl1 ln1 iv1 rv1) (e4 : rv1 tr 4 = some q4) (hk : iv1 q4 2 ≤ k) (e2 : rv1 tr 2 = x) : GP7 sk ln iv rv b L1 cl1 ln1 iv1 rv1 q x := by
  intro v a hR i hi ht
  obtain ⟨j, l, ⟨p1, p2⟩, p3, p4, p5⟩ := h v a hR i hi ht
  have hR1 := hR.qq h0
  obtain ⟨_, ⟨c0, _⟩, q1, n1, ⟨c1, _, c3⟩, _, _⟩ := hR1.tab p1 p3
  rw [e4] at c1; cases c1
  rw [e2] at c0
  refine ⟨a 8 j, l, c0.up (by have := hR.b0; omega), p4, ?_⟩
  rw [rng_z (by omega)] at p5
  exact p5
theorem GP7.done (h : GP7 sk ln iv rv b L1 cl1 ln1 iv1 rv1 q none) (h0 : QT g sk L cl ln iv rv L1 cl1 ln1 iv1 rv1) : GLQ sk ln iv rv b L1 cl1 ln1 iv1 rv1 q (fun a i => RWL a i) := by
  intro v a hR i hi ht
  obtain ⟨t, l, g1, g2, g3⟩ := h v a hR i hi ht
  rw [RWL.neg0 (g1.no (hR.qq h0)), List.append_nil] at g3
  show HL L1 cl1 ln1 iv1 rv1 a q (RWL a (i : Int))
  rw [← g3]; exact g2
theorem GLQ.rws (h : GLQ sk ln iv rv b L1 cl1 ln1 iv1 rv1 q (fun a i => (RWL a i ++ indl a (4 * i + ((0 : Nat) : Int))) ++ indl a (4 * i + ((1 : Nat) : Int)))) : GLQ sk ln iv rv b L1 cl1 ln1 iv1 rv1 q rws1 := h
theorem GLQ.sub (h : GLQ sk ln1 iv1 rv1 t L2 cl2 ln2 iv2 rv2 q rws1) (h0 : QT g sk L cl ln iv rv L1 cl1 ln1 iv1 rv1) (e2 : rv1 b 2 = some t) : GLQ sk ln iv rv b L2 cl2 ln2 iv2 rv2 q (fun a i => rws1 a (a 8 i.toNat)) := by
  intro v a hR i hi ht
  have hR1 := hR.qq h0
  obtain ⟨_, ⟨c0, _⟩, _⟩ := hR1.tab hi ((h0.el hR hi).trans ht)
  rw [e2] at c0
  obtain ⟨p1, p2, p3⟩ := (c0.up (m := (v 4).toNat) (by omega)).tb hR1
  have g := h v a hR1 (a 8 i).toNat (by omega) p3
  rw [Int.toNat_of_nonneg p1] at g
  exact g
theorem GLQ.sub3 (h : GLQ sk ln1 iv1 rv1 t L2 cl2 ln2 iv2 rv2 q rws1) (h0 : QT g sk L cl ln iv rv L1 cl1 ln1 iv1 rv1) (e3 : rv1 b 3 = some t) : GLQ sk ln iv rv b L2 cl2 ln2 iv2 rv2 q (fun a i => rws1 a (a 9 i.toNat)) := by
  intro v a hR i hi ht
  have hR1 := hR.qq h0
  obtain ⟨_, ⟨_, c0⟩, _⟩ := hR1.tab hi ((h0.el hR hi).trans ht)
  rw [e3] at c0
  obtain ⟨p1, p2, p3⟩ := (c0.up (m := (v 4).toNat) (by omega)).tb hR1
  have g := h v a hR1 (a 9 i).toNat (by omega) p3
  rw [Int.toNat_of_nonneg p1] at g
  exact g
theorem GLQ.no2 {P : (Nat → Nat → Int) → Int → List Int} (h0 : QT g sk L cl ln iv rv L1 cl1 ln1 iv1 rv1) (e0 : iv1 b 0 = 5) (e2 : rv1 b 2 = none) : GLQ sk ln iv rv b L2 cl2 ln2 iv2 rv2 q P := by
  intro v a hR i hi ht
  have hR1 := hR.qq h0
  obtain ⟨⟨c1, _⟩, ⟨c0, _⟩, _⟩ := hR1.tab hi ((h0.el hR hi).trans ht)
  rw [e2] at c0
  have g := (c0.up (m := (v 4).toNat) (by omega)).no hR1
  have g2 := hR.2.2.1.1 i (by omega) hi
  rw [Int.toNat_natCast] at g2
  omega
theorem GLQ.no3 {P : (Nat → Nat → Int) → Int → List Int} (h0 : QT g sk L cl ln iv rv L1 cl1 ln1 iv1 rv1) (e0 : iv1 b 0 = 5) (e3 : rv1 b 3 = none) : GLQ sk ln iv rv b L2 cl2 ln2 iv2 rv2 q P := by
  intro v a hR i hi ht
  have hR1 := hR.qq h0
  obtain ⟨⟨c1, _⟩, ⟨_, c0⟩, _⟩ := hR1.tab hi ((h0.el hR hi).trans ht)
  rw [e3] at c0
  have g := (c0.up (m := (v 4).toNat) (by omega)).no hR1
  have g2 := hR.2.2.1.1 i (by omega) hi
  rw [Int.toNat_natCast] at g2
  omega
theorem GLQ.slf (h : GLQ sk ln1 iv1 rv1 b L2 cl2 ln2 iv2 rv2 q rws1) (h0 : QT g sk L cl ln iv rv L1 cl1 ln1 iv1 rv1) : GLQ sk ln iv rv b L2 cl2 ln2 iv2 rv2 q rws1 := fun v a hR i hi ht => h v a (hR.qq h0) i hi ((h0.el hR hi).trans ht)
theorem GLQ.g0 (h : GLQ sk ln iv rv b L1 cl1 ln1 iv1 rv1 q (fun a i => rws1 a (a 8 i.toNat) ++ indl a (4 * i + ((2 : Nat) : Int)))) (e0 : iv b 0 = 5) : GLQ sk ln iv rv b L1 cl1 ln1 iv1 rv1 q gat0 := by
  intro v a hR i hi ht
  refine hv2 ((hR.tab hi ht).1.1) (h v a hR i hi ht) (fun c g => ?_)
  unfold gat0
  rw [if_pos (show a 6 (i : Int).toNat = 5 by rw [Int.toNat_natCast]; omega)]
  exact g
theorem GLQ.g1 (h : GLQ sk ln iv rv b L1 cl1 ln1 iv1 rv1 q (fun a i => rws1 a (a 9 i.toNat) ++ indl a (4 * i + ((3 : Nat) : Int)))) (e0 : iv b 0 = 5) : GLQ sk ln iv rv b L1 cl1 ln1 iv1 rv1 q gat1 := by
  intro v a hR i hi ht
  refine hv2 ((hR.tab hi ht).1.1) (h v a hR i hi ht) (fun c g => ?_)
  unfold gat1
  rw [if_pos (show a 6 (i : Int).toNat = 5 by rw [Int.toNat_natCast]; omega)]
  exact g
theorem GLQ.n0 (h : GLQ sk ln iv rv b L1 cl1 ln1 iv1 rv1 q rws1) (e0 : iv b 0 ≠ 5) : GLQ sk ln iv rv b L1 cl1 ln1 iv1 rv1 q gat0 := by
  intro v a hR i hi ht
  refine hv2 ((hR.tab hi ht).1.1) (h v a hR i hi ht) (fun c g => ?_)
  unfold gat0
  rw [if_neg (show ¬ a 6 (i : Int).toNat = 5 by rw [Int.toNat_natCast]; omega)]
  exact g
theorem GLQ.n1 (h : GLQ sk ln iv rv b L1 cl1 ln1 iv1 rv1 q (fun _ _ => [])) (e0 : iv b 0 ≠ 5) : GLQ sk ln iv rv b L1 cl1 ln1 iv1 rv1 q gat1 := by
  intro v a hR i hi ht
  refine hv2 ((hR.tab hi ht).1.1) (h v a hR i hi ht) (fun c g => ?_)
  unfold gat1
  rw [if_neg (show ¬ a 6 (i : Int).toNat = 5 by rw [Int.toNat_natCast]; omega)]
  exact g
theorem RWD.c (h : RWD ln iv rv a w d) : ∃ c, rv w 2 = some c ∧ ((ln c : Nat) : Int) = rlen a d ∧ ∀ k : Nat, k < ln c → iv c k = dcl a d k := by
  unfold rlen dcl
  by_cases e : 0 ≤ d
  · obtain ⟨_, _, l, c, _, g2, _, g4, _, g6⟩ := h.1 e
    refine ⟨c, g2, by rw [if_pos e]; exact g4, fun k hk => ?_⟩
    rw [if_pos e, (g6 k hk).1]; exact congrArg (a 15) (by omega)
  · obtain ⟨_, c, g2, g3, g4⟩ := h.2 (by omega)
    refine ⟨c, g2, by rw [if_neg e]; exact g3, fun k hk => ?_⟩
    rw [if_neg e, g4 k hk]; exact congrArg (a 17) (by omega)
theorem WOX.smt (h : WOX sk ln iv rv i0 (some b)) (hR : TRL sk ln iv rv v a) : (0 ≤ i0 ∧ i0 < v 4) ∧ el rv (sk 22) i0.toNat = some b ∧ WHL v a i0 := by
  rcases h v a hR with ⟨e, _⟩ | ⟨b', e, g⟩
  · cases e
  · cases e; exact g
end ROWS
theorem el24.fr {g : Nat} {sk : Nat → Nat} {L : List Nat} {cl ln : Nat → Nat} {iv iv2 : Nat → Nat → Int} {rv rv2 : Nat → Nat → Option Nat} {ls : List Nat} (h : WT g sk L cl ln iv rv) (hS : SKL sk L cl) (hF : fT ls L cl iv rv iv2 rv2) (a1 : ls.contains 24 = false) (a2 : ls.contains 1002 = false) : iv2 (sk 24) 2 = iv (sk 24) 2 ∧ ∀ j : Nat, (j : Int) < iv (sk 24) 2 → el rv2 (sk 24) j = el rv (sk 24) j := by
  have tq : ty L cl (sk 24) 24 := ⟨(hS 24 rfl).1, by rw [(hS 24 rfl).2]; rfl⟩
  refine ⟨hF.i tq a1 2, fun j hj => ?_⟩
  obtain ⟨b, q1, q2, q3, q4⟩ := h.ed2 tq rfl rfl (by omega)
  rw [el_of ((hF.r tq a1 1).trans q1), el_of q1]
  exact hF.r q2 a2 j
theorem el25.fr {g : Nat} {sk : Nat → Nat} {L : List Nat} {cl ln : Nat → Nat} {iv iv2 : Nat → Nat → Int} {rv rv2 : Nat → Nat → Option Nat} {ls : List Nat} (h : WT g sk L cl ln iv rv) (hS : SKL sk L cl) (hF : fT ls L cl iv rv iv2 rv2) (a1 : ls.contains 25 = false) (a2 : ls.contains 1003 = false) : iv2 (sk 25) 2 = iv (sk 25) 2 ∧ ∀ j : Nat, (j : Int) < iv (sk 25) 2 → el rv2 (sk 25) j = el rv (sk 25) j := by
  have tq : ty L cl (sk 25) 25 := ⟨(hS 25 rfl).1, by rw [(hS 25 rfl).2]; rfl⟩
  refine ⟨hF.i tq a1 2, fun j hj => ?_⟩
  obtain ⟨b, q1, q2, q3, q4⟩ := h.ed2 tq rfl rfl (by omega)
  rw [el_of ((hF.r tq a1 1).trans q1), el_of q1]
  exact hF.r q2 a2 j
end
section
set_option maxHeartbeats 4000000 in
set_option maxRecDepth 100000 in
theorem G_isUpright {l : Launch} {G : GT} {mi : Nat} {sk : Nat → Nat} {L : List Nat} {cl ln : Nat → Nat} {iv : Nat → Nat → Int} {rv : Nat → Nat → Option Nat}  {r : Option Nat} (hW : WT (g0 G) sk L cl ln iv rv) (hS : SKL sk L cl) (t_r : ∀ b, r = some b → ty L cl b 100)  : Mc l G mi (Phi (g0 G) sk) PHM yX9_isUpright cX9_isUpright 2 (some .boolean) 0 [va_rf r] L cl ln iv rv 0 (fun v L2 cl2 ln2 iv2 rv2 => ∃ f : Int, v = some (.int (iI f)) ∧ L = L2 ∧ cl = cl2 ∧ ln = ln2 ∧ iv = iv2 ∧ rv = rv2 ∧ (f = 0 ∨ f = 1) ∧ (UPX sk ln iv rv r f)) := by
  refine Mc.mk (by decide) (by cases r <;> exact Nat.le_of_ble_eq_true rfl) ?_
  intro p e s m args below meth c A C hM
  have hph := Phi.le hW hS
  refine c_lveq (show lv_args 0 [va_rf r] = [(0, (va_rf r))] from by cases r <;> rfl) ?_
  refine hv2 (show XT L cl ln L cl ln from XT.refl) (show fT [] L cl iv rv iv rv from fT.refl) (fun hX0 hF0 => ?_)
  refine c_aloadr_n (j := 0) (r := r) C dX9_isUpright_0 rfl ?_
  refine c_astorer_n (r := r) (lv2 := [(1, (va_rf r)), (0, (va_rf r))]) C dX9_isUpright_1 (by decide) (by cases r <;> rfl) ?_
  have Lp1 : ∀ (nn : Nat) (tq : Option Nat) (rk : Int) , rk - 99 < (nn : Int) → (∀ b, tq = some b → ty L cl b 100) → (99 ≤ rk) → (∀ b, tq = some b → ((cl b : Nat) : Int) ≤ rk) → (UPI sk ln iv rv r tq) → cw p l e 0 ((PHM) + 0 - ((Phi (g0 G) sk) ln rv)) s m args below meth c G A 2 (MQ below (Qu G A (Qp G (Phi (g0 G) sk) ((Phi (g0 G) sk) ln rv) 0 (fun v L2 cl2 ln2 iv2 rv2 => ∃ f : Int, v = some (.int (iI f)) ∧ L = L2 ∧ cl = cl2 ∧ ln = ln2 ∧ iv = iv2 ∧ rv = rv2 ∧ (f = 0 ∨ f = 1) ∧ (UPX sk ln iv rv r f)))) args s (((PHM) + 0 - ((Phi (g0 G) sk) ln rv)) / 16) ((PHM) + 0 - ((Phi (g0 G) sk) ln rv)) A) (Phi (g0 G) sk) ((Phi (g0 G) sk) ln rv) L cl ln iv rv 0 2 [(1, (va_rf tq)), (0, (va_rf r))] [] := by
    intro nn
    induction nn with
    | zero =>
      intro tq rk  hm  ty_tq h99 hrk hup
      exact absurd hm (by omega)
    | succ nn ih1 =>
      intro tq rk  hm  ty_tq h99 hrk hup
      refine c_aloadr_n (j := 0) (r := tq) C dX9_isUpright_2 rfl ?_
      refine c_ifnull (r := tq) (tgt := 23) C dX9_isUpright_3 (by decide) (fun oq1 => ?_) (fun ob1 oq1 => ?_)
      · subst oq1
        refine c_lv (lv2 := [(1, .null), (0, (va_rf r))]) [0, 1] rfl ?_
        refine c_st (st2 := []) rfl ?_
        refine c_iconst C dX9_isUpright_23 ?_
        exact c_zret C dX9_isUpright_24 rfl (Or.inr rfl) (by decide) (rom0 hph hph (by decide)) ⟨1, rfl, rfl, rfl, rfl, rfl, rfl, (Or.inr rfl), hup.yes⟩
      · subst oq1
        refine hv2 (ty_tq ob1 rfl) (hrk ob1 rfl) (fun tob1 hkob1 => ?_)
        have tgob1 := bt_100 tob1.2
        refine c_lv (lv2 := [(1, .ref ob1), (0, (va_rf r))]) [0, 1] rfl ?_
        refine c_st (st2 := []) rfl ?_
        refine c_aload_n (j := 0) (x := ob1) C dX9_isUpright_6 rfl ?_
        have ri1 : 0 ≤ iv ob1 7 ∧ iv ob1 7 ≤ 1 := hW.int tob1 7
        refine c_get (k := 7) C ck_10 dX9_isUpright_7 w2_197 (by decide) tob1 rfl rfl (by decide) rfl ?_
        refine c_if_eq (tgt := 15) C (r32_c (lo := 0) (hi := 1) ri1.1 ri1.2 (by decide) (by decide)) dX9_isUpright_10 (by decide) (fun c1 => ?_) (fun c1 => ?_)
        · refine c_aload_n (j := 0) (x := ob1) C dX9_isUpright_15 rfl ?_
          rcases hW.opt tob1 2 rfl rfl with ⟨nq1, _⟩ | ⟨nb1, nq1, tnb1⟩
          · refine c_getr (k := 2) C ck_10 dX9_isUpright_16 w2_180 (by decide) tob1 rfl rfl (by decide) rfl nq1 ?_
            refine c_st (st2 := [.null]) rfl ?_
            refine c_astorer_n (r := none) (lv2 := [(1, .null), (0, (va_rf r))]) C dX9_isUpright_19 (by decide) (by cases r <;> rfl) ?_
            refine c_goto (tgt := 2) C dX9_isUpright_20 (by decide) ?_
            refine c_lv (lv2 := [(1, .null), (0, (va_rf r))]) [0, 1] rfl ?_
            exact ih1  none (rk - 1)  (by omega)  (fun _ q => by cases q) (by omega) (fun _ q => by cases q) (hup.next (by omega) nq1)
          · have rknb1 := hW.rank tob1 (k := 2) (by decide) nq1
            refine c_getr (k := 2) C ck_10 dX9_isUpright_16 w2_180 (by decide) tob1 rfl rfl (by decide) rfl nq1 ?_
            refine c_st (st2 := [.ref nb1]) rfl ?_
            refine c_astore_n (lv2 := [(1, .ref nb1), (0, (va_rf r))]) C dX9_isUpright_19 (by decide) (by cases r <;> rfl) ?_
            refine c_goto (tgt := 2) C dX9_isUpright_20 (by decide) ?_
            have trnb1 := bt_100 tnb1.2
            refine c_lv (lv2 := [(1, .ref nb1), (0, (va_rf r))]) [0, 1] rfl ?_
            exact ih1  (some nb1) (rk - 1)  (by omega)  (fun _ q => by cases q; exact tnb1) (by omega) (fun _ q => by cases q; omega) (hup.next (by omega) nq1)
        · refine c_iconst C dX9_isUpright_13 ?_
          exact c_zret C dX9_isUpright_14 rfl (Or.inl rfl) (by decide) (rom0 hph hph (by decide)) ⟨0, rfl, rfl, rfl, rfl, rfl, rfl, (Or.inl rfl), (hup.no (by omega))⟩
  refine c_lv (lv2 := [(1, (va_rf r)), (0, (va_rf r))]) [0, 1] rfl ?_
  exact Lp1 31 r 129  (by omega)  t_r (by omega) (fun b q => by have q2 := bt_100 (t_r b q).2; omega) UPI.refl
set_option maxHeartbeats 4000000 in
set_option maxRecDepth 100000 in
theorem G_tisWhole {l : Launch} {G : GT} {mi : Nat} {sk : Nat → Nat} {L : List Nat} {cl ln : Nat → Nat} {iv : Nat → Nat → Int} {rv : Nat → Nat → Option Nat}  {a0 : Nat} (hW : WT (g0 G) sk L cl ln iv rv) (hS : SKL sk L cl) (t_a0 : ty L cl a0 100)  : Mc l G mi (Phi (g0 G) sk) PHM yX9_isWhole cX9_isWhole 1 (some .boolean) 1 [.ref a0] L cl ln iv rv 0 (fun v L2 cl2 ln2 iv2 rv2 => ∃ f : Int, v = some (.int (iI f)) ∧ L = L2 ∧ cl = cl2 ∧ ln = ln2 ∧ iv = iv2 ∧ rv = rv2 ∧ (f = 0 ∨ f = 1) ∧ (TWX sk ln iv rv a0 f)) := by
  refine Mc.mk (by decide) (Nat.le_of_ble_eq_true rfl) ?_
  intro p e s m args below meth c A C hM
  refine hv3 (Phi.le hW hS) (show XT L cl ln L cl ln from XT.refl) (show fT [] L cl iv rv iv rv from fT.refl) (fun hph hX0 hF0 => ?_)
  refine c_aload_n (j := 0) (x := a0) C dX9_isWhole_0 rfl ?_
  refine d_callS (As := [.ref a0]) (rest := []) C hM (G_isUpright (r := (some a0)) hW hS (fun _ q => by cases q; exact t_a0)  ) dX9_isWhole_1 kS_X9_76 rfl rfl (Nat.le_of_ble_eq_true rfl) ⟨(Nat.le_of_ble_eq_true rfl), (Nat.le_of_ble_eq_true rfl)⟩ hph hph (show 0 + 0 = 0 from rfl) (by decide) (fun rh1 Lh1 clh1 lnh1 ivh1 rvh1 h1 => ?_)
  obtain ⟨f1, rfl, rfl, rfl, rfl, rfl, rfl, rgf1, exf1⟩ := h1
  refine c_st (st2 := [.int (iI f1)]) rfl ?_
  have gf1 : UPX sk ln iv rv (some a0) f1 := exf1
  refine c_if_eq (tgt := 21) C ⟨by omega, by omega⟩ dX9_isWhole_4 (by decide) (fun c1 => ?_) (fun c1 => ?_)
  · refine c_iconst C dX9_isWhole_21 ?_
    exact c_zret C dX9_isWhole_22 rfl (Or.inl rfl) (by decide) (rom0 hph hph (by decide)) ⟨0, rfl, rfl, rfl, rfl, rfl, rfl, (Or.inl rfl), (TWX.no1 gf1 (by omega))⟩
  · refine c_aload_n (j := 0) (x := a0) C dX9_isWhole_7 rfl ?_
    rcases hW.opt t_a0 3 rfl rfl with ⟨nq1, _⟩ | ⟨nb1, nq1, tnb1⟩
    · refine c_getr (k := 3) C ck_10 dX9_isWhole_8 w2_183 (by decide) t_a0 rfl rfl (by decide) rfl nq1 ?_
      refine c_st (st2 := [.null]) rfl ?_
      refine d_callS (As := [.null]) (rest := []) C hM (G_isUpright (r := none) hW hS (fun _ q => by cases q)  ) dX9_isWhole_11 kS_X9_76 rfl rfl (Nat.le_of_ble_eq_true rfl) ⟨(Nat.le_of_ble_eq_true rfl), (Nat.le_of_ble_eq_true rfl)⟩ hph hph (show 0 + 0 = 0 from rfl) (by decide) (fun rh2 Lh2 clh2 lnh2 ivh2 rvh2 h2 => ?_)
      obtain ⟨f2, rfl, rfl, rfl, rfl, rfl, rfl, rgf2, exf2⟩ := h2
      refine c_st (st2 := [.int (iI f2)]) rfl ?_
      have gf2 : UPX sk ln iv rv none f2 := exf2
      refine c_if_eq (tgt := 21) C ⟨by omega, by omega⟩ dX9_isWhole_14 (by decide) (fun c2 => ?_) (fun c2 => ?_)
      · refine c_iconst C dX9_isWhole_21 ?_
        exact c_zret C dX9_isWhole_22 rfl (Or.inl rfl) (by decide) (rom0 hph hph (by decide)) ⟨0, rfl, rfl, rfl, rfl, rfl, rfl, (Or.inl rfl), (TWX.no2 gf2 nq1 (by omega))⟩
      · refine c_iconst C dX9_isWhole_17 ?_
        refine c_goto (tgt := 22) C dX9_isWhole_18 (by decide) ?_
        exact c_zret C dX9_isWhole_22 rfl (Or.inr rfl) (by decide) (rom0 hph hph (by decide)) ⟨1, rfl, rfl, rfl, rfl, rfl, rfl, (Or.inr rfl), (TWX.yes gf1 gf2 nq1 (by omega) (by omega))⟩
    · have rknb1 := hW.rank t_a0 (k := 3) (by decide) nq1
      refine c_getr (k := 3) C ck_10 dX9_isWhole_8 w2_183 (by decide) t_a0 rfl rfl (by decide) rfl nq1 ?_
      refine c_st (st2 := [.ref nb1]) rfl ?_
      refine d_callS (As := [.ref nb1]) (rest := []) C hM (G_isUpright (r := (some nb1)) hW hS (fun _ q => by cases q; exact tnb1)  ) dX9_isWhole_11 kS_X9_76 rfl rfl (Nat.le_of_ble_eq_true rfl) ⟨(Nat.le_of_ble_eq_true rfl), (Nat.le_of_ble_eq_true rfl)⟩ hph hph (show 0 + 0 = 0 from rfl) (by decide) (fun rh3 Lh3 clh3 lnh3 ivh3 rvh3 h3 => ?_)
      obtain ⟨f3, rfl, rfl, rfl, rfl, rfl, rfl, rgf3, exf3⟩ := h3
      refine c_st (st2 := [.int (iI f3)]) rfl ?_
      have gf3 : UPX sk ln iv rv (some nb1) f3 := exf3
      refine c_if_eq (tgt := 21) C ⟨by omega, by omega⟩ dX9_isWhole_14 (by decide) (fun c3 => ?_) (fun c3 => ?_)
      · refine c_iconst C dX9_isWhole_21 ?_
        exact c_zret C dX9_isWhole_22 rfl (Or.inl rfl) (by decide) (rom0 hph hph (by decide)) ⟨0, rfl, rfl, rfl, rfl, rfl, rfl, (Or.inl rfl), (TWX.no2 gf3 nq1 (by omega))⟩
      · refine c_iconst C dX9_isWhole_17 ?_
        refine c_goto (tgt := 22) C dX9_isWhole_18 (by decide) ?_
        exact c_zret C dX9_isWhole_22 rfl (Or.inr rfl) (by decide) (rom0 hph hph (by decide)) ⟨1, rfl, rfl, rfl, rfl, rfl, rfl, (Or.inr rfl), (TWX.yes gf1 gf3 nq1 (by omega) (by omega))⟩
set_option maxHeartbeats 4000000 in
set_option maxRecDepth 100000 in
theorem G_whole {l : Launch} {G : GT} {mi : Nat} {sk : Nat → Nat} {L : List Nat} {cl ln : Nat → Nat} {iv : Nat → Nat → Int} {rv : Nat → Nat → Option Nat}  {a0 : Nat} {i : Int} (hW : WT (g0 G) sk L cl ln iv rv) (hS : SKL sk L cl) (t_a0 : ty L cl a0 13) (h_i : -2147483648 ≤ i ∧ i ≤ 2147483647) (hmr : MRK sk cl iv rv) : Mc l G mi (Phi (g0 G) sk) PHM yX10_whole cX10_whole 3 (some (.object "DotPress$Table")) 4 [.ref a0, .int (iI i)] L cl ln iv rv 0 (fun v L2 cl2 ln2 iv2 rv2 => ∃ f : Option Nat, v = some ((va_rf f)) ∧ L = L2 ∧ cl = cl2 ∧ ln = ln2 ∧ iv = iv2 ∧ rv = rv2 ∧ (∀ b, f = some b → ty L2 cl2 b 100) ∧ (WOX sk ln iv rv i f)) := by
  refine Mc.mk (by decide) (Nat.le_of_ble_eq_true rfl) ?_
  intro p e s m args below meth c A C hM
  refine hv5 (Phi.le hW hS) (show ty L cl (sk 22) 22 from ⟨(hS 22 rfl).1, by rw [(hS 22 rfl).2]; rfl⟩) (show ty L cl (sk 23) 23 from ⟨(hS 23 rfl).1, by rw [(hS 23 rfl).2]; rfl⟩) (show XT L cl ln L cl ln from XT.refl) (show fT [] L cl iv rv iv rv from fT.refl) (fun hph tsk22 tsk23 hX0 hF0 => ?_)
  refine c_aload_n (j := 0) (x := a0) C dX10_whole_0 rfl ?_
  refine c_iload_n (j := 1) C dX10_whole_1 rfl ?_
  have ri1 : 0 ≤ iv (sk 22) 2 ∧ iv (sk 22) 2 ≤ 30 := hW.int tsk22 2
  refine d_callV (As := [.int (iI i)]) (rest := []) C hM (C_alive (a0 := a0) (i := i) hW hS t_a0 (by omega) hmr) dX10_whole_2 kV_X10_35 rfl t_a0 rfl rfl (by decide) ck_11 rfl (Nat.le_of_ble_eq_true rfl) ⟨(Nat.le_of_ble_eq_true rfl), (Nat.le_of_ble_eq_true rfl)⟩ hph hph (show 0 + 0 = 0 from rfl) (by decide) (fun rh1 Lh1 clh1 lnh1 ivh1 rvh1 h1 => ?_)
  obtain ⟨f1, rfl, rfl, rfl, rfl, rfl, rfl, rgf1, exf1⟩ := h1
  refine c_st (st2 := [(va_rf f1)]) rfl ?_
  have gf1 : (∀ b, f1 = some b → ((cl b : Nat) : Int) < 100 + iv (sk 22) 2 ∧ ALV sk iv rv i b) ∧ (f1 = none → ∀ b, ¬ ALV sk iv rv i b) := exf1
  refine c_astorer_n (r := f1) (lv2 := [(2, (va_rf f1)), (0, .ref a0), (1, .int (iI i))]) C dX10_whole_5 (by decide) rfl ?_
  refine c_aloadr_n (j := 0) (r := f1) C dX10_whole_6 rfl ?_
  refine c_ifnull (r := f1) (tgt := 21) C dX10_whole_7 (by decide) (fun oq1 => ?_) (fun ob1 oq1 => ?_)
  · subst oq1
    refine c_lv (lv2 := [(2, .null), (0, .ref a0), (1, .int (iI i))]) [0, 1, 2] rfl ?_
    refine c_st (st2 := []) rfl ?_
    refine c_null C dX10_whole_21 ?_
    exact c_aret (x := none) C dX10_whole_22 rfl (Or.inl ⟨_, rfl⟩) (by decide) (rom0 hph hph (by decide)) ⟨none, rfl, rfl, rfl, rfl, rfl, rfl, (fun _ q => by cases q), (WOX.n1 (gf1.2 rfl))⟩
  · subst oq1
    refine hv2 (rgf1 ob1 rfl) (gf1.1 ob1 rfl) (fun tob1 akob1 => ?_)
    refine c_lv (lv2 := [(2, .ref ob1), (0, .ref a0), (1, .int (iI i))]) [0, 1, 2] rfl ?_
    refine c_st (st2 := []) rfl ?_
    refine c_aload_n (j := 0) (x := ob1) C dX10_whole_10 rfl ?_
    refine d_callV (As := []) (rest := []) C hM (G_tisWhole (a0 := ob1) hW hS tob1  ) dX10_whole_11 kV_X10_39 rfl tob1 rfl rfl (by decide) ck_10 rfl (Nat.le_of_ble_eq_true rfl) ⟨(Nat.le_of_ble_eq_true rfl), (Nat.le_of_ble_eq_true rfl)⟩ hph hph (show 0 + 0 = 0 from rfl) (by decide) (fun rh2 Lh2 clh2 lnh2 ivh2 rvh2 h2 => ?_)
    obtain ⟨f2, rfl, rfl, rfl, rfl, rfl, rfl, rgf2, exf2⟩ := h2
    refine c_st (st2 := [.int (iI f2)]) rfl ?_
    have gf2 : TWX sk ln iv rv ob1 f2 := exf2
    refine c_if_eq (tgt := 21) C ⟨by omega, by omega⟩ dX10_whole_14 (by decide) (fun c1 => ?_) (fun c1 => ?_)
    · refine c_null C dX10_whole_21 ?_
      exact c_aret (x := none) C dX10_whole_22 rfl (Or.inl ⟨_, rfl⟩) (by decide) (rom0 hph hph (by decide)) ⟨none, rfl, rfl, rfl, rfl, rfl, rfl, (fun _ q => by cases q), (WOX.n2 akob1.2 gf2 (by omega))⟩
    · refine c_aload_n (j := 0) (x := ob1) C dX10_whole_17 rfl ?_
      refine c_goto (tgt := 22) C dX10_whole_18 (by decide) ?_
      exact c_aret (x := some ob1) C dX10_whole_22 rfl (Or.inl ⟨_, rfl⟩) (by decide) (rom0 hph hph (by decide)) ⟨(some ob1), rfl, rfl, rfl, rfl, rfl, rfl, (fun _ q => by cases q; exact tob1), (WOX.ys akob1.2 gf2 (by omega))⟩
set_option maxHeartbeats 4000000 in
set_option maxRecDepth 100000 in
theorem G_addInd_24 {l : Launch} {G : GT} {mi : Nat} {sk : Nat → Nat} {L : List Nat} {cl ln : Nat → Nat} {iv : Nat → Nat → Int} {rv : Nat → Nat → Option Nat}  {a0 : Nat} {r : Option Nat} (hW : WT (g0 G) sk L cl ln iv rv) (hS : SKL sk L cl) (t_a0 : ty L cl a0 24) (t_r : ∀ b, r = some b → ty L cl b 20) (hn : iv a0 2 < 6003) : Mc l G mi (Phi (g0 G) sk) PHM yX3_addIndicator cX3_addIndicator 2 none 7 [.ref a0, va_rf r] L cl ln iv rv 0 (fun v L2 cl2 ln2 iv2 rv2 => v = none ∧ XT L cl ln L2 cl2 ln2 ∧ fT [24, 1002] L cl iv rv iv2 rv2 ∧ WT (g0 G) sk L2 cl2 ln2 iv2 rv2 ∧ (iv a0 2 ≤ iv2 a0 2 ∧ iv2 a0 2 ≤ iv a0 2 + 1) ∧ (LAD a0 r iv rv iv2 rv2)) := by
  refine Mc.mk (by decide) (by cases r <;> exact Nat.le_of_ble_eq_true rfl) ?_
  intro p e s m args below meth c A C hM
  have hph := Phi.le hW hS
  refine c_lveq (show lv_args 0 [.ref a0, va_rf r] = [(0, .ref a0), (1, (va_rf r))] from by cases r <;> rfl) ?_
  refine hv3 (show 0 ≤ iv a0 2 from (hW.int t_a0 2).1) (show XT L cl ln L cl ln from XT.refl) (show fT [24, 1002] L cl iv rv iv rv from fT.refl) (fun hb0 hX0 hF0 => ?_)
  refine c_aloadr_n (j := 1) (r := r) C dX3_addIndicator_0 rfl ?_
  refine c_ifnull (r := r) (tgt := 10) C dX3_addIndicator_1 (by decide) (fun oq1 => ?_) (fun ob1 oq1 => ?_)
  · subst oq1
    refine c_lv (lv2 := [(0, .ref a0), (1, .null)]) [0, 1] rfl ?_
    refine c_st (st2 := []) rfl ?_
    have ri1 : 0 ≤ iv a0 2 ∧ iv a0 2 ≤ 6003 := hW.int t_a0 2
    exact c_vret C dX3_addIndicator_10 rfl (by decide) (rom0 hph hph (by decide)) ⟨rfl, hX0, hF0, hW, (by omega), (Or.inl ⟨rfl, rfl, fun _ _ => rfl⟩)⟩
  · subst oq1
    have tob1 := t_r ob1 rfl
    refine c_lv (lv2 := [(0, .ref a0), (1, .ref ob1)]) [0, 1] rfl ?_
    refine c_st (st2 := []) rfl ?_
    refine c_aload_n (j := 0) (x := a0) C dX3_addIndicator_4 rfl ?_
    refine c_aload_n (j := 1) (x := ob1) C dX3_addIndicator_5 rfl ?_
    have ri2 : 0 ≤ iv a0 2 ∧ iv a0 2 ≤ 6003 := hW.int t_a0 2
    refine d_callV (As := [.ref ob1]) (rest := []) C hM (C_add_24 (a0 := a0) (x := ob1) hW hS t_a0 tob1  (by show iv a0 2 < 6003; omega)) dX3_addIndicator_6 kV_X3_97 rfl t_a0 rfl rfl (by decide) ck_0 rfl (Nat.le_of_ble_eq_true rfl) ⟨(Nat.le_of_ble_eq_true rfl), (Nat.le_of_ble_eq_true rfl)⟩ hph hph (show 0 + 0 = 0 from rfl) (by decide) (fun rh1 Lh1 clh1 lnh1 ivh1 rvh1 h1 => ?_)
    obtain ⟨f1, rfl, xl1, fl1, W1, rgf1, exf1⟩ := h1
    refine hv3 (hF0.call hX0 fl1 rfl) (hX0.trans xl1) (xl1.skl hS) (fun F1 X1 sk1 => ?_)
    refine c_st (st2 := [.int (iI f1)]) rfl ?_
    refine hv2 (xl1.ty t_a0) (show ivh1 a0 2 = iv a0 2 + 1 ∧ el rvh1 a0 (iv a0 2).toNat = some ob1 ∧ ∀ i : Nat, (i : Int) < iv a0 2 → el rvh1 a0 i = el rv a0 i from exf1) (fun ty1 gf1 => ?_)
    have ri3 : 0 ≤ ivh1 a0 2 ∧ ivh1 a0 2 ≤ 6003 := W1.int ty1 2
    refine c_pop C dX3_addIndicator_9 rfl ?_
    have pl1 := Phi.le W1 sk1
    exact c_vret C dX3_addIndicator_10 rfl (by decide) (rom0 hph pl1 (by decide)) ⟨rfl, X1, F1, W1, (by omega), (Or.inr ⟨ob1, rfl, gf1⟩)⟩
set_option maxHeartbeats 4000000 in
set_option maxRecDepth 100000 in
theorem G_gatherPart_24 {l : Launch} {G : GT} {mi : Nat} {sk : Nat → Nat} {L : List Nat} {cl ln : Nat → Nat} {iv : Nat → Nat → Int} {rv : Nat → Nat → Option Nat}  {a0 : Nat} {a1 : Nat} (hW : WT (g0 G) sk L cl ln iv rv) (hS : SKL sk L cl) (t_a0 : ty L cl a0 24) (t_a1 : ty L cl a1 100) (hn : iv a0 2 = 0) : Mc l G mi (Phi (g0 G) sk) PHM yX3_gatherPart cX3_gatherPart 4 none 8 [.ref a0, .ref a1] L cl ln iv rv 0 (fun v L2 cl2 ln2 iv2 rv2 => v = none ∧ XT L cl ln L2 cl2 ln2 ∧ fT [24, 1002] L cl iv rv iv2 rv2 ∧ WT (g0 G) sk L2 cl2 ln2 iv2 rv2 ∧ (iv2 a0 2 ≤ 6002) ∧ (GLQ sk ln iv rv a1 L2 cl2 ln2 iv2 rv2 a0 rws1)) := by
  refine Mc.mk (by decide) (Nat.le_of_ble_eq_true rfl) ?_
  intro p e s m args below meth c A C hM
  refine hv3 (Phi.le hW hS) (show XT L cl ln L cl ln from XT.refl) (show fT [24, 1002] L cl iv rv iv rv from fT.refl) (fun hph hX0 hF0 => ?_)
  refine c_aload_n (j := 1) (x := a1) C dX3_gatherPart_0 rfl ?_
  refine c_ifnonnull (r := (some a1)) (tgt := 5) C dX3_gatherPart_1 (by decide) (fun _ _ => ?_) (fun q => by cases q)
  refine c_aload_n (j := 1) (x := a1) C dX3_gatherPart_5 rfl ?_
  refine c_astore_n (lv2 := [(2, .ref a1), (0, .ref a0), (1, .ref a1)]) C dX3_gatherPart_6 (by decide) rfl ?_
  have Lp1 : ∀ (nn : Nat) (tq : Option Nat) (rk : Int) (Lb1 : List Nat) (clb1 lnb1 : Nat → Nat) (ivb1 : Nat → Nat → Int) (rvb1 : Nat → Nat → Option Nat) , rk - 99 < (nn : Int) → XT L cl ln Lb1 clb1 lnb1 → WT (g0 G) sk Lb1 clb1 lnb1 ivb1 rvb1 → fT [24, 1002] L cl iv rv ivb1 rvb1 → (∀ b, tq = some b → ty Lb1 clb1 b 100) → (99 ≤ rk ∧ rk ≤ 129) → (ivb1 a0 2 ≤ 200 * (129 - rk)) → (∀ b, tq = some b → ((clb1 b : Nat) : Int) ≤ rk) → (GP7 sk ln iv rv a1 Lb1 clb1 lnb1 ivb1 rvb1 a0 tq) → cw p l e 8 ((PHM) + 0 - ((Phi (g0 G) sk) ln rv)) s m args below meth c G A 4 (MQ below (Qu G A (Qp G (Phi (g0 G) sk) ((Phi (g0 G) sk) ln rv) 0 (fun v L2 cl2 ln2 iv2 rv2 => v = none ∧ XT L cl ln L2 cl2 ln2 ∧ fT [24, 1002] L cl iv rv iv2 rv2 ∧ WT (g0 G) sk L2 cl2 ln2 iv2 rv2 ∧ (iv2 a0 2 ≤ 6002) ∧ (GLQ sk ln iv rv a1 L2 cl2 ln2 iv2 rv2 a0 rws1)))) args s (((PHM) + 0 - ((Phi (g0 G) sk) ln rv)) / 16) ((PHM) + 0 - ((Phi (g0 G) sk) ln rv)) A) (Phi (g0 G) sk) ((Phi (g0 G) sk) ln rv) Lb1 clb1 lnb1 ivb1 rvb1 0 7 [(2, (va_rf tq)), (0, .ref a0), (1, .ref a1)] [] := by
    intro nn
    induction nn with
    | zero =>
      intro tq rk Lb1 clb1 lnb1 ivb1 rvb1 hm Xb1 Wb1 Fb1 ty_tq h99 hsz hrk hG7
      have skb1 := Xb1.skl hS
      exact absurd hm (by omega)
    | succ nn ih1 =>
      intro tq rk Lb1 clb1 lnb1 ivb1 rvb1 hm Xb1 Wb1 Fb1 ty_tq h99 hsz hrk hG7
      have skb1 := Xb1.skl hS
      refine c_aloadr_n (j := 0) (r := tq) C dX3_gatherPart_7 rfl ?_
      refine c_ifnull (r := tq) (tgt := 54) C dX3_gatherPart_8 (by decide) (fun oq1 => ?_) (fun ob1 oq1 => ?_)
      · subst oq1
        refine c_lv (lv2 := [(2, .null), (0, .ref a0), (1, .ref a1)]) [0, 1, 2] rfl ?_
        refine c_st (st2 := []) rfl ?_
        refine c_aload_n (j := 1) (x := a0) C dX3_gatherPart_54 rfl ?_
        refine c_aload_n (j := 2) (x := a1) C dX3_gatherPart_55 rfl ?_
        have ty1 := Xb1.ty t_a1
        obtain ⟨rb1, rq1, trb1⟩ := Wb1.ref ty1 6 rfl rfl rfl
        have lnrb1 : 4 ≤ lnb1 rb1 ∧ lnb1 rb1 ≤ 4 := Wb1.len trb1 rfl
        refine c_getr (k := 6) C ck_10 dX3_gatherPart_56 w2_193 (by decide) ty1 rfl rfl (by decide) rfl rq1 ?_
        refine c_st (st2 := [.ref rb1, .ref a0]) rfl ?_
        refine c_iconst C dX3_gatherPart_59 ?_
        have ll1 : 4 ≤ lnb1 rb1 ∧ lnb1 rb1 ≤ 4 := Wb1.len trb1 rfl
        rcases Wb1.opt trb1 ((0 : Int).toNat) rfl rfl with ⟨nq1, _⟩ | ⟨nb1, nq1, tnb1⟩
        · refine c_aaldR C dX3_gatherPart_60 trb1 rfl (by omega) (by omega) (by omega) nq1 ?_
          refine c_st (st2 := [.null, .ref a0]) rfl ?_
          refine hv2 (Xb1.ty t_a0) (Phi.le Wb1 skb1) (fun ty2 pl1 => ?_)
          have ri1 : 0 ≤ ivb1 a0 2 ∧ ivb1 a0 2 ≤ 6003 := Wb1.int ty2 2
          refine d_callS (As := [.ref a0, .null]) (rest := []) C hM (G_addInd_24 (a0 := a0) (r := none) Wb1 skb1 ty2 (fun _ q => by cases q)  (by show ivb1 a0 2 < 6003; omega)) dX3_gatherPart_61 kS_X3_67 rfl rfl (Nat.le_of_ble_eq_true rfl) ⟨(Nat.le_of_ble_eq_true rfl), (Nat.le_of_ble_eq_true rfl)⟩ hph pl1 (show 0 + 0 = 0 from rfl) (by decide) (fun rh1 Lh1 clh1 lnh1 ivh1 rvh1 h1 => ?_)
          obtain ⟨rfl, xl1, fl1, W1, exf1, ladf1⟩ := h1
          refine hv3 (Fb1.call Xb1 fl1 rfl) (Xb1.trans xl1) (xl1.skl skb1) (fun F1 X1 sk1 => ?_)
          refine c_st (st2 := []) rfl ?_
          refine hv2 (xl1.ty ty2) (show ivb1 a0 2 ≤ ivh1 a0 2 ∧ ivh1 a0 2 ≤ ivb1 a0 2 + 1 from exf1) (fun ty3 gf1 => ?_)
          have ri2 : 0 ≤ ivh1 a0 2 ∧ ivh1 a0 2 ≤ 6003 := W1.int ty3 2
          refine c_aload_n (j := 1) (x := a0) C dX3_gatherPart_64 rfl ?_
          refine c_aload_n (j := 2) (x := a1) C dX3_gatherPart_65 rfl ?_
          refine hv2 (xl1.ty ty1) (show rvh1 a1 6 = rvb1 a1 6 from (fl1.r ty1 rfl 6)) (fun ty4 re1 => ?_)
          rw [rq1] at re1
          refine c_getr (k := 6) C ck_10 dX3_gatherPart_66 w2_193 (by decide) ty4 rfl rfl (by decide) rfl re1 ?_
          refine c_st (st2 := [.ref rb1, .ref a0]) rfl ?_
          refine c_iconst C dX3_gatherPart_69 ?_
          have ty5 := xl1.ty trb1
          have ll2 : 4 ≤ lnh1 rb1 ∧ lnh1 rb1 ≤ 4 := W1.len ty5 rfl
          rcases W1.opt ty5 ((1 : Int).toNat) rfl rfl with ⟨nq2, _⟩ | ⟨nb2, nq2, tnb2⟩
          · refine c_aaldR C dX3_gatherPart_70 ty5 rfl (by omega) (by omega) (by omega) nq2 ?_
            refine c_st (st2 := [.null, .ref a0]) rfl ?_
            have pl2 := Phi.le W1 sk1
            refine d_callS (As := [.ref a0, .null]) (rest := []) C hM (G_addInd_24 (a0 := a0) (r := none) W1 sk1 ty3 (fun _ q => by cases q)  (by show ivh1 a0 2 < 6003; omega)) dX3_gatherPart_71 kS_X3_67 rfl rfl (Nat.le_of_ble_eq_true rfl) ⟨(Nat.le_of_ble_eq_true rfl), (Nat.le_of_ble_eq_true rfl)⟩ hph pl2 (show 0 + 0 = 0 from rfl) (by decide) (fun rh2 Lh2 clh2 lnh2 ivh2 rvh2 h2 => ?_)
            obtain ⟨rfl, xl2, fl2, W2, exf2, ladf2⟩ := h2
            refine hv3 (F1.call X1 fl2 rfl) (X1.trans xl2) (xl2.skl sk1) (fun F2 X2 sk2 => ?_)
            refine c_st (st2 := []) rfl ?_
            refine hv3 (xl2.ty ty3) (show ivh1 a0 2 ≤ ivh2 a0 2 ∧ ivh2 a0 2 ≤ ivh1 a0 2 + 1 from exf2) (Phi.le W2 sk2) (fun ty6 gf2 pl3 => ?_)
            have ri3 : 0 ≤ ivh2 a0 2 ∧ ivh2 a0 2 ≤ 6003 := W2.int ty6 2
            exact c_vret C dX3_gatherPart_74 rfl (by decide) (rom0 hph pl3 (by decide)) ⟨rfl, X2, F2, W2, (by omega), (GLQ.rws (GLQ.ind (j := 1) (GLQ.ind (j := 0) (GP7.done hG7 (QT.of hW hS Xb1 Fb1 rfl rfl rfl rfl rfl)) (QT.of hW hS Xb1 Fb1 rfl rfl rfl rfl rfl) (QT.of Wb1 skb1 xl1 fl1 rfl rfl rfl rfl rfl) trb1 rq1 nq1 ladf1 (by decide)) (QT.of hW hS X1 F1 rfl rfl rfl rfl rfl) (QT.of W1 sk1 xl2 fl2 rfl rfl rfl rfl rfl) ty5 re1 nq2 ladf2 (by decide)))⟩
          · have tnb2 : ty Lh1 clh1 nb2 20 := tnb2
            refine c_aaldR C dX3_gatherPart_70 ty5 rfl (by omega) (by omega) (by omega) nq2 ?_
            refine c_st (st2 := [.ref nb2, .ref a0]) rfl ?_
            have pl4 := Phi.le W1 sk1
            refine d_callS (As := [.ref a0, .ref nb2]) (rest := []) C hM (G_addInd_24 (a0 := a0) (r := (some nb2)) W1 sk1 ty3 (fun _ q => by cases q; exact tnb2)  (by show ivh1 a0 2 < 6003; omega)) dX3_gatherPart_71 kS_X3_67 rfl rfl (Nat.le_of_ble_eq_true rfl) ⟨(Nat.le_of_ble_eq_true rfl), (Nat.le_of_ble_eq_true rfl)⟩ hph pl4 (show 0 + 0 = 0 from rfl) (by decide) (fun rh3 Lh3 clh3 lnh3 ivh3 rvh3 h3 => ?_)
            obtain ⟨rfl, xl3, fl3, W3, exf3, ladf3⟩ := h3
            refine hv3 (F1.call X1 fl3 rfl) (X1.trans xl3) (xl3.skl sk1) (fun F3 X3 sk3 => ?_)
            refine c_st (st2 := []) rfl ?_
            refine hv3 (xl3.ty ty3) (show ivh1 a0 2 ≤ ivh3 a0 2 ∧ ivh3 a0 2 ≤ ivh1 a0 2 + 1 from exf3) (Phi.le W3 sk3) (fun ty7 gf3 pl5 => ?_)
            have ri4 : 0 ≤ ivh3 a0 2 ∧ ivh3 a0 2 ≤ 6003 := W3.int ty7 2
            exact c_vret C dX3_gatherPart_74 rfl (by decide) (rom0 hph pl5 (by decide)) ⟨rfl, X3, F3, W3, (by omega), (GLQ.rws (GLQ.ind (j := 1) (GLQ.ind (j := 0) (GP7.done hG7 (QT.of hW hS Xb1 Fb1 rfl rfl rfl rfl rfl)) (QT.of hW hS Xb1 Fb1 rfl rfl rfl rfl rfl) (QT.of Wb1 skb1 xl1 fl1 rfl rfl rfl rfl rfl) trb1 rq1 nq1 ladf1 (by decide)) (QT.of hW hS X1 F1 rfl rfl rfl rfl rfl) (QT.of W1 sk1 xl3 fl3 rfl rfl rfl rfl rfl) ty5 re1 nq2 ladf3 (by decide)))⟩
        · have tnb1 : ty Lb1 clb1 nb1 20 := tnb1
          refine c_aaldR C dX3_gatherPart_60 trb1 rfl (by omega) (by omega) (by omega) nq1 ?_
          refine c_st (st2 := [.ref nb1, .ref a0]) rfl ?_
          refine hv2 (Xb1.ty t_a0) (Phi.le Wb1 skb1) (fun ty8 pl6 => ?_)
          have ri5 : 0 ≤ ivb1 a0 2 ∧ ivb1 a0 2 ≤ 6003 := Wb1.int ty8 2
          refine d_callS (As := [.ref a0, .ref nb1]) (rest := []) C hM (G_addInd_24 (a0 := a0) (r := (some nb1)) Wb1 skb1 ty8 (fun _ q => by cases q; exact tnb1)  (by show ivb1 a0 2 < 6003; omega)) dX3_gatherPart_61 kS_X3_67 rfl rfl (Nat.le_of_ble_eq_true rfl) ⟨(Nat.le_of_ble_eq_true rfl), (Nat.le_of_ble_eq_true rfl)⟩ hph pl6 (show 0 + 0 = 0 from rfl) (by decide) (fun rh4 Lh4 clh4 lnh4 ivh4 rvh4 h4 => ?_)
          obtain ⟨rfl, xl4, fl4, W4, exf4, ladf4⟩ := h4
          refine hv3 (Fb1.call Xb1 fl4 rfl) (Xb1.trans xl4) (xl4.skl skb1) (fun F4 X4 sk4 => ?_)
          refine c_st (st2 := []) rfl ?_
          refine hv2 (xl4.ty ty8) (show ivb1 a0 2 ≤ ivh4 a0 2 ∧ ivh4 a0 2 ≤ ivb1 a0 2 + 1 from exf4) (fun ty9 gf4 => ?_)
          have ri6 : 0 ≤ ivh4 a0 2 ∧ ivh4 a0 2 ≤ 6003 := W4.int ty9 2
          refine c_aload_n (j := 1) (x := a0) C dX3_gatherPart_64 rfl ?_
          refine c_aload_n (j := 2) (x := a1) C dX3_gatherPart_65 rfl ?_
          refine hv2 (xl4.ty ty1) (show rvh4 a1 6 = rvb1 a1 6 from (fl4.r ty1 rfl 6)) (fun ty10 re2 => ?_)
          rw [rq1] at re2
          refine c_getr (k := 6) C ck_10 dX3_gatherPart_66 w2_193 (by decide) ty10 rfl rfl (by decide) rfl re2 ?_
          refine c_st (st2 := [.ref rb1, .ref a0]) rfl ?_
          refine c_iconst C dX3_gatherPart_69 ?_
          have ty11 := xl4.ty trb1
          have ll3 : 4 ≤ lnh4 rb1 ∧ lnh4 rb1 ≤ 4 := W4.len ty11 rfl
          rcases W4.opt ty11 ((1 : Int).toNat) rfl rfl with ⟨nq3, _⟩ | ⟨nb3, nq3, tnb3⟩
          · refine c_aaldR C dX3_gatherPart_70 ty11 rfl (by omega) (by omega) (by omega) nq3 ?_
            refine c_st (st2 := [.null, .ref a0]) rfl ?_
            have pl7 := Phi.le W4 sk4
            refine d_callS (As := [.ref a0, .null]) (rest := []) C hM (G_addInd_24 (a0 := a0) (r := none) W4 sk4 ty9 (fun _ q => by cases q)  (by show ivh4 a0 2 < 6003; omega)) dX3_gatherPart_71 kS_X3_67 rfl rfl (Nat.le_of_ble_eq_true rfl) ⟨(Nat.le_of_ble_eq_true rfl), (Nat.le_of_ble_eq_true rfl)⟩ hph pl7 (show 0 + 0 = 0 from rfl) (by decide) (fun rh5 Lh5 clh5 lnh5 ivh5 rvh5 h5 => ?_)
            obtain ⟨rfl, xl5, fl5, W5, exf5, ladf5⟩ := h5
            refine hv4 (F4.call X4 fl5 rfl) (xl4.ty tnb1) (X4.trans xl5) (xl5.skl sk4) (fun F5 ty12 X5 sk5 => ?_)
            refine c_st (st2 := []) rfl ?_
            refine hv3 (xl5.ty ty9) (show ivh4 a0 2 ≤ ivh5 a0 2 ∧ ivh5 a0 2 ≤ ivh4 a0 2 + 1 from exf5) (Phi.le W5 sk5) (fun ty13 gf5 pl8 => ?_)
            have ri7 : 0 ≤ ivh5 a0 2 ∧ ivh5 a0 2 ≤ 6003 := W5.int ty13 2
            exact c_vret C dX3_gatherPart_74 rfl (by decide) (rom0 hph pl8 (by decide)) ⟨rfl, X5, F5, W5, (by omega), (GLQ.rws (GLQ.ind (j := 1) (GLQ.ind (j := 0) (GP7.done hG7 (QT.of hW hS Xb1 Fb1 rfl rfl rfl rfl rfl)) (QT.of hW hS Xb1 Fb1 rfl rfl rfl rfl rfl) (QT.of Wb1 skb1 xl4 fl4 rfl rfl rfl rfl rfl) trb1 rq1 nq1 ladf4 (by decide)) (QT.of hW hS X4 F4 rfl rfl rfl rfl rfl) (QT.of W4 sk4 xl5 fl5 rfl rfl rfl rfl rfl) ty11 re2 nq3 ladf5 (by decide)))⟩
          · have tnb3 : ty Lh4 clh4 nb3 20 := tnb3
            refine c_aaldR C dX3_gatherPart_70 ty11 rfl (by omega) (by omega) (by omega) nq3 ?_
            refine c_st (st2 := [.ref nb3, .ref a0]) rfl ?_
            have pl9 := Phi.le W4 sk4
            refine d_callS (As := [.ref a0, .ref nb3]) (rest := []) C hM (G_addInd_24 (a0 := a0) (r := (some nb3)) W4 sk4 ty9 (fun _ q => by cases q; exact tnb3)  (by show ivh4 a0 2 < 6003; omega)) dX3_gatherPart_71 kS_X3_67 rfl rfl (Nat.le_of_ble_eq_true rfl) ⟨(Nat.le_of_ble_eq_true rfl), (Nat.le_of_ble_eq_true rfl)⟩ hph pl9 (show 0 + 0 = 0 from rfl) (by decide) (fun rh6 Lh6 clh6 lnh6 ivh6 rvh6 h6 => ?_)
            obtain ⟨rfl, xl6, fl6, W6, exf6, ladf6⟩ := h6
            refine hv4 (F4.call X4 fl6 rfl) (xl4.ty tnb1) (X4.trans xl6) (xl6.skl sk4) (fun F6 ty14 X6 sk6 => ?_)
            refine c_st (st2 := []) rfl ?_
            refine hv3 (xl6.ty ty9) (show ivh4 a0 2 ≤ ivh6 a0 2 ∧ ivh6 a0 2 ≤ ivh4 a0 2 + 1 from exf6) (Phi.le W6 sk6) (fun ty15 gf6 pl10 => ?_)
            have ri8 : 0 ≤ ivh6 a0 2 ∧ ivh6 a0 2 ≤ 6003 := W6.int ty15 2
            exact c_vret C dX3_gatherPart_74 rfl (by decide) (rom0 hph pl10 (by decide)) ⟨rfl, X6, F6, W6, (by omega), (GLQ.rws (GLQ.ind (j := 1) (GLQ.ind (j := 0) (GP7.done hG7 (QT.of hW hS Xb1 Fb1 rfl rfl rfl rfl rfl)) (QT.of hW hS Xb1 Fb1 rfl rfl rfl rfl rfl) (QT.of Wb1 skb1 xl4 fl4 rfl rfl rfl rfl rfl) trb1 rq1 nq1 ladf4 (by decide)) (QT.of hW hS X4 F4 rfl rfl rfl rfl rfl) (QT.of W4 sk4 xl6 fl6 rfl rfl rfl rfl rfl) ty11 re2 nq3 ladf6 (by decide)))⟩
      · subst oq1
        refine hv2 (ty_tq ob1 rfl) (hrk ob1 rfl) (fun tob1 hkob1 => ?_)
        have tgob1 := bt_100 tob1.2
        refine c_lv (lv2 := [(2, .ref ob1), (0, .ref a0), (1, .ref a1)]) [0, 1, 2] rfl ?_
        refine c_st (st2 := []) rfl ?_
        refine c_iconst C dX3_gatherPart_11 ?_
        refine c_istore_n (lv2 := [(3, .int (iI 0)), (2, .ref ob1), (0, .ref a0), (1, .ref a1)]) C dX3_gatherPart_12 (by decide) rfl ?_
        have Lp2 : ∀ (nn : Nat) (tr : Nat) (k : Int) (Lb2 : List Nat) (clb2 lnb2 : Nat → Nat) (ivb2 : Nat → Nat → Int) (rvb2 : Nat → Nat → Option Nat) , 201 - k < (nn : Int) → XT L cl ln Lb2 clb2 lnb2 → WT (g0 G) sk Lb2 clb2 lnb2 ivb2 rvb2 → fT [24, 1002] L cl iv rv ivb2 rvb2 → (ty Lb2 clb2 tr 100) → (0 ≤ k ∧ k ≤ 200) → (ivb2 a0 2 ≤ 200 * (129 - rk) + k) → (100 ≤ clb2 tr ∧ ((clb2 tr : Nat) : Int) ≤ rk) → (GP13 sk ln iv rv a1 Lb2 clb2 lnb2 ivb2 rvb2 a0 tr k) → cw p l e 8 ((PHM) + 0 - ((Phi (g0 G) sk) ln rv)) s m args below meth c G A 4 (MQ below (Qu G A (Qp G (Phi (g0 G) sk) ((Phi (g0 G) sk) ln rv) 0 (fun v L2 cl2 ln2 iv2 rv2 => v = none ∧ XT L cl ln L2 cl2 ln2 ∧ fT [24, 1002] L cl iv rv iv2 rv2 ∧ WT (g0 G) sk L2 cl2 ln2 iv2 rv2 ∧ (iv2 a0 2 ≤ 6002) ∧ (GLQ sk ln iv rv a1 L2 cl2 ln2 iv2 rv2 a0 rws1)))) args s (((PHM) + 0 - ((Phi (g0 G) sk) ln rv)) / 16) ((PHM) + 0 - ((Phi (g0 G) sk) ln rv)) A) (Phi (g0 G) sk) ((Phi (g0 G) sk) ln rv) Lb2 clb2 lnb2 ivb2 rvb2 0 13 [(2, .ref tr), (3, .int (iI k)), (0, .ref a0), (1, .ref a1)] [] := by
          intro nn
          induction nn with
          | zero =>
            intro tr k Lb2 clb2 lnb2 ivb2 rvb2 hm Xb2 Wb2 Fb2 ty_tr hk hs2 hcr hG13
            have skb2 := Xb2.skl hS
            exact absurd hm (by omega)
          | succ nn ih2 =>
            intro tr k Lb2 clb2 lnb2 ivb2 rvb2 hm Xb2 Wb2 Fb2 ty_tr hk hs2 hcr hG13
            have skb2 := Xb2.skl hS
            refine c_iload_n (j := 1) C dX3_gatherPart_13 rfl ?_
            refine c_aload_n (j := 0) (x := tr) C dX3_gatherPart_14 rfl ?_
            obtain ⟨rb2, rq2, trb2⟩ := Wb2.ref ty_tr 4 rfl rfl rfl
            refine c_getr (k := 4) C ck_10 dX3_gatherPart_15 w2_187 (by decide) ty_tr rfl rfl (by decide) rfl rq2 ?_
            refine c_st (st2 := [.ref rb2, .int (iI k)]) rfl ?_
            refine hv2 (show 0 ≤ ivb2 rb2 2 ∧ ivb2 rb2 2 ≤ 200 from Wb2.int trb2 2) (Phi.le Wb2 skb2) (fun ri9 pl11 => ?_)
            refine d_callV (As := []) (rest := [.int (iI k)]) C hM (C_size_26 (a0 := rb2) Wb2 skb2 trb2  ) dX3_gatherPart_18 kV_X3_78 rfl trb2 rfl rfl (by decide) ck_0 rfl (Nat.le_of_ble_eq_true rfl) ⟨(Nat.le_of_ble_eq_true rfl), (Nat.le_of_ble_eq_true rfl)⟩ hph pl11 (show 0 + 0 = 0 from rfl) (by decide) (fun rh7 Lh7 clh7 lnh7 ivh7 rvh7 h7 => ?_)
            obtain ⟨f7, rfl, rfl, rfl, rfl, rfl, rfl, rgf7, exf7⟩ := h7
            refine c_st (st2 := [.int (iI f7), .int (iI k)]) rfl ?_
            have gf7 : f7 = ivb2 rb2 2 := exf7
            refine c_icmp_ge (tgt := 46) C (r32_c (lo := 0) (hi := 200) hk.1 hk.2 (by decide) (by decide)) ⟨by omega, by omega⟩ dX3_gatherPart_21 (by decide) (fun c1 => ?_) (fun c1 => ?_)
            · refine c_aload_n (j := 0) (x := tr) C dX3_gatherPart_46 rfl ?_
              rcases Wb2.opt ty_tr 2 rfl rfl with ⟨nq4, _⟩ | ⟨nb4, nq4, tnb4⟩
              · refine c_getr (k := 2) C ck_10 dX3_gatherPart_47 w2_181 (by decide) ty_tr rfl rfl (by decide) rfl nq4 ?_
                refine c_st (st2 := [.null]) rfl ?_
                refine c_astorer_n (r := none) (lv2 := [(2, .null), (3, .int (iI k)), (0, .ref a0), (1, .ref a1)]) C dX3_gatherPart_50 (by decide) rfl ?_
                refine c_goto (tgt := 7) C dX3_gatherPart_51 (by decide) ?_
                have ty16 := Xb2.ty t_a0
                have ri10 : 0 ≤ ivb2 a0 2 ∧ ivb2 a0 2 ≤ 6003 := Wb2.int ty16 2
                refine c_lv (lv2 := [(2, .null), (0, .ref a0), (1, .ref a1)]) [0, 2, 3] rfl ?_
                exact ih1  none (rk - 1) _ _ _ _ _ (by omega) Xb2 Wb2 Fb2 (fun _ q => by cases q) (by omega) (by show ivb2 a0 2 ≤ 200 * (129 - (rk - 1)); omega) (fun _ q => by cases q) (GP13.fin hG13 (QT.of hW hS Xb2 Fb2 rfl rfl rfl rfl rfl) rq2 (by omega) nq4)
              · have rknb4 := Wb2.rank ty_tr (k := 2) (by decide) nq4
                refine c_getr (k := 2) C ck_10 dX3_gatherPart_47 w2_181 (by decide) ty_tr rfl rfl (by decide) rfl nq4 ?_
                refine c_st (st2 := [.ref nb4]) rfl ?_
                refine c_astore_n (lv2 := [(2, .ref nb4), (3, .int (iI k)), (0, .ref a0), (1, .ref a1)]) C dX3_gatherPart_50 (by decide) rfl ?_
                refine c_goto (tgt := 7) C dX3_gatherPart_51 (by decide) ?_
                refine hv2 (Xb2.ty t_a0) (bt_100 tnb4.2) (fun ty17 trnb4 => ?_)
                have ri11 : 0 ≤ ivb2 a0 2 ∧ ivb2 a0 2 ≤ 6003 := Wb2.int ty17 2
                refine c_lv (lv2 := [(2, .ref nb4), (0, .ref a0), (1, .ref a1)]) [0, 2, 3] rfl ?_
                exact ih1  (some nb4) (rk - 1) _ _ _ _ _ (by omega) Xb2 Wb2 Fb2 (fun _ q => by cases q; exact tnb4) (by omega) (by show ivb2 a0 2 ≤ 200 * (129 - (rk - 1)); omega) (fun _ q => by cases q; omega) (GP13.fin hG13 (QT.of hW hS Xb2 Fb2 rfl rfl rfl rfl rfl) rq2 (by omega) nq4)
            · refine c_aload_n (j := 2) (x := a0) C dX3_gatherPart_24 rfl ?_
              refine c_aload_n (j := 0) (x := tr) C dX3_gatherPart_25 rfl ?_
              refine c_getr (k := 4) C ck_10 dX3_gatherPart_26 w2_187 (by decide) ty_tr rfl rfl (by decide) rfl rq2 ?_
              refine c_st (st2 := [.ref rb2, .ref a0]) rfl ?_
              refine c_iload_n (j := 1) C dX3_gatherPart_29 rfl ?_
              refine d_callV (As := [.int (iI k)]) (rest := [.ref a0]) C hM (C_get_26 (a0 := rb2) (i := k) Wb2 skb2 trb2 (by omega) (by show 0 ≤ k ∧ k < ivb2 rb2 2; omega)) dX3_gatherPart_30 kV_X3_82 rfl trb2 rfl rfl (by decide) ck_0 rfl (Nat.le_of_ble_eq_true rfl) ⟨(Nat.le_of_ble_eq_true rfl), (Nat.le_of_ble_eq_true rfl)⟩ hph pl11 (show 0 + 0 = 0 from rfl) (by decide) (fun rh8 Lh8 clh8 lnh8 ivh8 rvh8 h8 => ?_)
              obtain ⟨f8, rfl, rfl, rfl, rfl, rfl, rfl, rgf8, exf8⟩ := h8
              refine c_st (st2 := [.ref f8, .ref a0]) rfl ?_
              have gf8 : el rvb2 rb2 k.toNat = some f8 := exf8
              refine c_cast C ck_6 dX3_gatherPart_33 w5_63 w8_169t rgf8 rfl rfl (by decide) ?_
              have ty18 := Xb2.ty t_a0
              have ri12 : 0 ≤ ivb2 a0 2 ∧ ivb2 a0 2 ≤ 6003 := Wb2.int ty18 2
              refine d_callV (As := [.ref f8]) (rest := []) C hM (C_add_24 (a0 := a0) (x := f8) Wb2 skb2 ty18 rgf8  (by show ivb2 a0 2 < 6003; omega)) dX3_gatherPart_36 kV_X3_97 rfl ty18 rfl rfl (by decide) ck_0 rfl (Nat.le_of_ble_eq_true rfl) ⟨(Nat.le_of_ble_eq_true rfl), (Nat.le_of_ble_eq_true rfl)⟩ hph pl11 (show 0 + 0 = 0 from rfl) (by decide) (fun rh9 Lh9 clh9 lnh9 ivh9 rvh9 h9 => ?_)
              obtain ⟨f9, rfl, xl9, fl9, W9, rgf9, exf9⟩ := h9
              refine hv4 (Fb2.call Xb2 fl9 rfl) (Xb2.ty t_a1) (Xb2.trans xl9) (xl9.skl skb2) (fun F7 ty19 X7 sk7 => ?_)
              refine c_st (st2 := [.int (iI f9)]) rfl ?_
              refine hv2 (xl9.ty ty18) (show ivh9 a0 2 = ivb2 a0 2 + 1 ∧ el rvh9 a0 (ivb2 a0 2).toNat = some f8 ∧ ∀ i : Nat, (i : Int) < ivb2 a0 2 → el rvh9 a0 i = el rvb2 a0 i from exf9) (fun ty20 gf9 => ?_)
              have ri13 : 0 ≤ ivh9 a0 2 ∧ ivh9 a0 2 ≤ 6003 := W9.int ty20 2
              refine c_pop C dX3_gatherPart_39 rfl ?_
              refine c_iinc (z := k) (j := 1) (lv2 := [(3, .int (iI (k + 1))), (2, .ref tr), (0, .ref a0), (1, .ref a1)]) C dX3_gatherPart_40 rfl (by decide) rfl ?_
              refine c_goto (tgt := 13) C dX3_gatherPart_43 (by decide) ?_
              refine hv2 (xl9.ty ty_tr) (show clh9 tr = clb2 tr from (xl9 tr ty_tr.1).2.1) (fun ty21 ce1 => ?_)
              refine c_lv (lv2 := [(2, .ref tr), (3, .int (iI (k + 1))), (0, .ref a0), (1, .ref a1)]) [1, 0, 2, 3] rfl ?_
              exact ih2  tr (k + 1) _ _ _ _ _ (by omega) X7 W9 F7 ty21 (by omega) (by show ivh9 a0 2 ≤ 200 * (129 - rk) + (k + 1); omega) (by show 100 ≤ clh9 tr ∧ ((clh9 tr : Nat) : Int) ≤ rk; omega) (GP13.step hG13 (QT.of hW hS Xb2 Fb2 rfl rfl rfl rfl rfl) (QT.of Wb2 skb2 xl9 fl9 rfl rfl rfl rfl rfl) ty_tr rq2 (by omega) exf8 gf9)
        have ty22 := Xb1.ty t_a0
        have ri14 : 0 ≤ ivb1 a0 2 ∧ ivb1 a0 2 ≤ 6003 := Wb1.int ty22 2
        refine c_lv (lv2 := [(2, .ref ob1), (3, .int (iI 0)), (0, .ref a0), (1, .ref a1)]) [1, 0, 2, 3] rfl ?_
        exact Lp2 203 ob1 0 _ _ _ _ _ (by omega) Xb1 Wb1 Fb1 tob1 (by omega) (by show ivb1 a0 2 ≤ 200 * (129 - rk) + 0; omega) (by show 100 ≤ clb1 ob1 ∧ ((clb1 ob1 : Nat) : Int) ≤ rk; omega) (GP7.start hG7 (QT.of hW hS Xb1 Fb1 rfl rfl rfl rfl rfl))
  have ri15 : 0 ≤ iv a0 2 ∧ iv a0 2 ≤ 6003 := hW.int t_a0 2
  refine c_lv (lv2 := [(2, .ref a1), (0, .ref a0), (1, .ref a1)]) [0, 1, 2] rfl ?_
  exact Lp1 31 (some a1) 129 _ _ _ _ _ (by omega) hX0 hW hF0 (fun _ q => by cases q; exact t_a1) (by omega) (by show iv a0 2 ≤ 200 * (129 - 129); omega) (fun _ q => by cases q; have q2 := bt_100 t_a1.2; omega) (GP7.init hn)
set_option maxHeartbeats 4000000 in
set_option maxRecDepth 100000 in
theorem G_addInd_25 {l : Launch} {G : GT} {mi : Nat} {sk : Nat → Nat} {L : List Nat} {cl ln : Nat → Nat} {iv : Nat → Nat → Int} {rv : Nat → Nat → Option Nat}  {a0 : Nat} {r : Option Nat} (hW : WT (g0 G) sk L cl ln iv rv) (hS : SKL sk L cl) (t_a0 : ty L cl a0 25) (t_r : ∀ b, r = some b → ty L cl b 20) (hn : iv a0 2 < 6003) : Mc l G mi (Phi (g0 G) sk) PHM yX3_addIndicator cX3_addIndicator 2 none 7 [.ref a0, va_rf r] L cl ln iv rv 0 (fun v L2 cl2 ln2 iv2 rv2 => v = none ∧ XT L cl ln L2 cl2 ln2 ∧ fT [25, 1003] L cl iv rv iv2 rv2 ∧ WT (g0 G) sk L2 cl2 ln2 iv2 rv2 ∧ (iv a0 2 ≤ iv2 a0 2 ∧ iv2 a0 2 ≤ iv a0 2 + 1) ∧ (LAD a0 r iv rv iv2 rv2)) := by
  refine Mc.mk (by decide) (by cases r <;> exact Nat.le_of_ble_eq_true rfl) ?_
  intro p e s m args below meth c A C hM
  have hph := Phi.le hW hS
  refine c_lveq (show lv_args 0 [.ref a0, va_rf r] = [(0, .ref a0), (1, (va_rf r))] from by cases r <;> rfl) ?_
  refine hv3 (show 0 ≤ iv a0 2 from (hW.int t_a0 2).1) (show XT L cl ln L cl ln from XT.refl) (show fT [25, 1003] L cl iv rv iv rv from fT.refl) (fun hb0 hX0 hF0 => ?_)
  refine c_aloadr_n (j := 1) (r := r) C dX3_addIndicator_0 rfl ?_
  refine c_ifnull (r := r) (tgt := 10) C dX3_addIndicator_1 (by decide) (fun oq1 => ?_) (fun ob1 oq1 => ?_)
  · subst oq1
    refine c_lv (lv2 := [(0, .ref a0), (1, .null)]) [0, 1] rfl ?_
    refine c_st (st2 := []) rfl ?_
    have ri1 : 0 ≤ iv a0 2 ∧ iv a0 2 ≤ 6003 := hW.int t_a0 2
    exact c_vret C dX3_addIndicator_10 rfl (by decide) (rom0 hph hph (by decide)) ⟨rfl, hX0, hF0, hW, (by omega), (Or.inl ⟨rfl, rfl, fun _ _ => rfl⟩)⟩
  · subst oq1
    have tob1 := t_r ob1 rfl
    refine c_lv (lv2 := [(0, .ref a0), (1, .ref ob1)]) [0, 1] rfl ?_
    refine c_st (st2 := []) rfl ?_
    refine c_aload_n (j := 0) (x := a0) C dX3_addIndicator_4 rfl ?_
    refine c_aload_n (j := 1) (x := ob1) C dX3_addIndicator_5 rfl ?_
    have ri2 : 0 ≤ iv a0 2 ∧ iv a0 2 ≤ 6003 := hW.int t_a0 2
    refine d_callV (As := [.ref ob1]) (rest := []) C hM (C_add_25 (a0 := a0) (x := ob1) hW hS t_a0 tob1  (by show iv a0 2 < 6003; omega)) dX3_addIndicator_6 kV_X3_97 rfl t_a0 rfl rfl (by decide) ck_0 rfl (Nat.le_of_ble_eq_true rfl) ⟨(Nat.le_of_ble_eq_true rfl), (Nat.le_of_ble_eq_true rfl)⟩ hph hph (show 0 + 0 = 0 from rfl) (by decide) (fun rh1 Lh1 clh1 lnh1 ivh1 rvh1 h1 => ?_)
    obtain ⟨f1, rfl, xl1, fl1, W1, rgf1, exf1⟩ := h1
    refine hv3 (hF0.call hX0 fl1 rfl) (hX0.trans xl1) (xl1.skl hS) (fun F1 X1 sk1 => ?_)
    refine c_st (st2 := [.int (iI f1)]) rfl ?_
    refine hv2 (xl1.ty t_a0) (show ivh1 a0 2 = iv a0 2 + 1 ∧ el rvh1 a0 (iv a0 2).toNat = some ob1 ∧ ∀ i : Nat, (i : Int) < iv a0 2 → el rvh1 a0 i = el rv a0 i from exf1) (fun ty1 gf1 => ?_)
    have ri3 : 0 ≤ ivh1 a0 2 ∧ ivh1 a0 2 ≤ 6003 := W1.int ty1 2
    refine c_pop C dX3_addIndicator_9 rfl ?_
    have pl1 := Phi.le W1 sk1
    exact c_vret C dX3_addIndicator_10 rfl (by decide) (rom0 hph pl1 (by decide)) ⟨rfl, X1, F1, W1, (by omega), (Or.inr ⟨ob1, rfl, gf1⟩)⟩
set_option maxHeartbeats 4000000 in
set_option maxRecDepth 100000 in
theorem G_gatherPart_25 {l : Launch} {G : GT} {mi : Nat} {sk : Nat → Nat} {L : List Nat} {cl ln : Nat → Nat} {iv : Nat → Nat → Int} {rv : Nat → Nat → Option Nat}  {a0 : Nat} {a1 : Nat} (hW : WT (g0 G) sk L cl ln iv rv) (hS : SKL sk L cl) (t_a0 : ty L cl a0 25) (t_a1 : ty L cl a1 100) (hn : iv a0 2 = 0) : Mc l G mi (Phi (g0 G) sk) PHM yX3_gatherPart cX3_gatherPart 4 none 8 [.ref a0, .ref a1] L cl ln iv rv 0 (fun v L2 cl2 ln2 iv2 rv2 => v = none ∧ XT L cl ln L2 cl2 ln2 ∧ fT [25, 1003] L cl iv rv iv2 rv2 ∧ WT (g0 G) sk L2 cl2 ln2 iv2 rv2 ∧ (iv2 a0 2 ≤ 6002) ∧ (GLQ sk ln iv rv a1 L2 cl2 ln2 iv2 rv2 a0 rws1)) := by
  refine Mc.mk (by decide) (Nat.le_of_ble_eq_true rfl) ?_
  intro p e s m args below meth c A C hM
  refine hv3 (Phi.le hW hS) (show XT L cl ln L cl ln from XT.refl) (show fT [25, 1003] L cl iv rv iv rv from fT.refl) (fun hph hX0 hF0 => ?_)
  refine c_aload_n (j := 1) (x := a1) C dX3_gatherPart_0 rfl ?_
  refine c_ifnonnull (r := (some a1)) (tgt := 5) C dX3_gatherPart_1 (by decide) (fun _ _ => ?_) (fun q => by cases q)
  refine c_aload_n (j := 1) (x := a1) C dX3_gatherPart_5 rfl ?_
  refine c_astore_n (lv2 := [(2, .ref a1), (0, .ref a0), (1, .ref a1)]) C dX3_gatherPart_6 (by decide) rfl ?_
  have Lp1 : ∀ (nn : Nat) (tq : Option Nat) (rk : Int) (Lb1 : List Nat) (clb1 lnb1 : Nat → Nat) (ivb1 : Nat → Nat → Int) (rvb1 : Nat → Nat → Option Nat) , rk - 99 < (nn : Int) → XT L cl ln Lb1 clb1 lnb1 → WT (g0 G) sk Lb1 clb1 lnb1 ivb1 rvb1 → fT [25, 1003] L cl iv rv ivb1 rvb1 → (∀ b, tq = some b → ty Lb1 clb1 b 100) → (99 ≤ rk ∧ rk ≤ 129) → (ivb1 a0 2 ≤ 200 * (129 - rk)) → (∀ b, tq = some b → ((clb1 b : Nat) : Int) ≤ rk) → (GP7 sk ln iv rv a1 Lb1 clb1 lnb1 ivb1 rvb1 a0 tq) → cw p l e 8 ((PHM) + 0 - ((Phi (g0 G) sk) ln rv)) s m args below meth c G A 4 (MQ below (Qu G A (Qp G (Phi (g0 G) sk) ((Phi (g0 G) sk) ln rv) 0 (fun v L2 cl2 ln2 iv2 rv2 => v = none ∧ XT L cl ln L2 cl2 ln2 ∧ fT [25, 1003] L cl iv rv iv2 rv2 ∧ WT (g0 G) sk L2 cl2 ln2 iv2 rv2 ∧ (iv2 a0 2 ≤ 6002) ∧ (GLQ sk ln iv rv a1 L2 cl2 ln2 iv2 rv2 a0 rws1)))) args s (((PHM) + 0 - ((Phi (g0 G) sk) ln rv)) / 16) ((PHM) + 0 - ((Phi (g0 G) sk) ln rv)) A) (Phi (g0 G) sk) ((Phi (g0 G) sk) ln rv) Lb1 clb1 lnb1 ivb1 rvb1 0 7 [(2, (va_rf tq)), (0, .ref a0), (1, .ref a1)] [] := by
    intro nn
    induction nn with
    | zero =>
      intro tq rk Lb1 clb1 lnb1 ivb1 rvb1 hm Xb1 Wb1 Fb1 ty_tq h99 hsz hrk hG7
      have skb1 := Xb1.skl hS
      exact absurd hm (by omega)
    | succ nn ih1 =>
      intro tq rk Lb1 clb1 lnb1 ivb1 rvb1 hm Xb1 Wb1 Fb1 ty_tq h99 hsz hrk hG7
      have skb1 := Xb1.skl hS
      refine c_aloadr_n (j := 0) (r := tq) C dX3_gatherPart_7 rfl ?_
      refine c_ifnull (r := tq) (tgt := 54) C dX3_gatherPart_8 (by decide) (fun oq1 => ?_) (fun ob1 oq1 => ?_)
      · subst oq1
        refine c_lv (lv2 := [(2, .null), (0, .ref a0), (1, .ref a1)]) [0, 1, 2] rfl ?_
        refine c_st (st2 := []) rfl ?_
        refine c_aload_n (j := 1) (x := a0) C dX3_gatherPart_54 rfl ?_
        refine c_aload_n (j := 2) (x := a1) C dX3_gatherPart_55 rfl ?_
        have ty1 := Xb1.ty t_a1
        obtain ⟨rb1, rq1, trb1⟩ := Wb1.ref ty1 6 rfl rfl rfl
        have lnrb1 : 4 ≤ lnb1 rb1 ∧ lnb1 rb1 ≤ 4 := Wb1.len trb1 rfl
        refine c_getr (k := 6) C ck_10 dX3_gatherPart_56 w2_193 (by decide) ty1 rfl rfl (by decide) rfl rq1 ?_
        refine c_st (st2 := [.ref rb1, .ref a0]) rfl ?_
        refine c_iconst C dX3_gatherPart_59 ?_
        have ll1 : 4 ≤ lnb1 rb1 ∧ lnb1 rb1 ≤ 4 := Wb1.len trb1 rfl
        rcases Wb1.opt trb1 ((0 : Int).toNat) rfl rfl with ⟨nq1, _⟩ | ⟨nb1, nq1, tnb1⟩
        · refine c_aaldR C dX3_gatherPart_60 trb1 rfl (by omega) (by omega) (by omega) nq1 ?_
          refine c_st (st2 := [.null, .ref a0]) rfl ?_
          refine hv2 (Xb1.ty t_a0) (Phi.le Wb1 skb1) (fun ty2 pl1 => ?_)
          have ri1 : 0 ≤ ivb1 a0 2 ∧ ivb1 a0 2 ≤ 6003 := Wb1.int ty2 2
          refine d_callS (As := [.ref a0, .null]) (rest := []) C hM (G_addInd_25 (a0 := a0) (r := none) Wb1 skb1 ty2 (fun _ q => by cases q)  (by show ivb1 a0 2 < 6003; omega)) dX3_gatherPart_61 kS_X3_67 rfl rfl (Nat.le_of_ble_eq_true rfl) ⟨(Nat.le_of_ble_eq_true rfl), (Nat.le_of_ble_eq_true rfl)⟩ hph pl1 (show 0 + 0 = 0 from rfl) (by decide) (fun rh1 Lh1 clh1 lnh1 ivh1 rvh1 h1 => ?_)
          obtain ⟨rfl, xl1, fl1, W1, exf1, ladf1⟩ := h1
          refine hv3 (Fb1.call Xb1 fl1 rfl) (Xb1.trans xl1) (xl1.skl skb1) (fun F1 X1 sk1 => ?_)
          refine c_st (st2 := []) rfl ?_
          refine hv2 (xl1.ty ty2) (show ivb1 a0 2 ≤ ivh1 a0 2 ∧ ivh1 a0 2 ≤ ivb1 a0 2 + 1 from exf1) (fun ty3 gf1 => ?_)
          have ri2 : 0 ≤ ivh1 a0 2 ∧ ivh1 a0 2 ≤ 6003 := W1.int ty3 2
          refine c_aload_n (j := 1) (x := a0) C dX3_gatherPart_64 rfl ?_
          refine c_aload_n (j := 2) (x := a1) C dX3_gatherPart_65 rfl ?_
          refine hv2 (xl1.ty ty1) (show rvh1 a1 6 = rvb1 a1 6 from (fl1.r ty1 rfl 6)) (fun ty4 re1 => ?_)
          rw [rq1] at re1
          refine c_getr (k := 6) C ck_10 dX3_gatherPart_66 w2_193 (by decide) ty4 rfl rfl (by decide) rfl re1 ?_
          refine c_st (st2 := [.ref rb1, .ref a0]) rfl ?_
          refine c_iconst C dX3_gatherPart_69 ?_
          have ty5 := xl1.ty trb1
          have ll2 : 4 ≤ lnh1 rb1 ∧ lnh1 rb1 ≤ 4 := W1.len ty5 rfl
          rcases W1.opt ty5 ((1 : Int).toNat) rfl rfl with ⟨nq2, _⟩ | ⟨nb2, nq2, tnb2⟩
          · refine c_aaldR C dX3_gatherPart_70 ty5 rfl (by omega) (by omega) (by omega) nq2 ?_
            refine c_st (st2 := [.null, .ref a0]) rfl ?_
            have pl2 := Phi.le W1 sk1
            refine d_callS (As := [.ref a0, .null]) (rest := []) C hM (G_addInd_25 (a0 := a0) (r := none) W1 sk1 ty3 (fun _ q => by cases q)  (by show ivh1 a0 2 < 6003; omega)) dX3_gatherPart_71 kS_X3_67 rfl rfl (Nat.le_of_ble_eq_true rfl) ⟨(Nat.le_of_ble_eq_true rfl), (Nat.le_of_ble_eq_true rfl)⟩ hph pl2 (show 0 + 0 = 0 from rfl) (by decide) (fun rh2 Lh2 clh2 lnh2 ivh2 rvh2 h2 => ?_)
            obtain ⟨rfl, xl2, fl2, W2, exf2, ladf2⟩ := h2
            refine hv3 (F1.call X1 fl2 rfl) (X1.trans xl2) (xl2.skl sk1) (fun F2 X2 sk2 => ?_)
            refine c_st (st2 := []) rfl ?_
            refine hv3 (xl2.ty ty3) (show ivh1 a0 2 ≤ ivh2 a0 2 ∧ ivh2 a0 2 ≤ ivh1 a0 2 + 1 from exf2) (Phi.le W2 sk2) (fun ty6 gf2 pl3 => ?_)
            have ri3 : 0 ≤ ivh2 a0 2 ∧ ivh2 a0 2 ≤ 6003 := W2.int ty6 2
            exact c_vret C dX3_gatherPart_74 rfl (by decide) (rom0 hph pl3 (by decide)) ⟨rfl, X2, F2, W2, (by omega), (GLQ.rws (GLQ.ind (j := 1) (GLQ.ind (j := 0) (GP7.done hG7 (QT.of hW hS Xb1 Fb1 rfl rfl rfl rfl rfl)) (QT.of hW hS Xb1 Fb1 rfl rfl rfl rfl rfl) (QT.of Wb1 skb1 xl1 fl1 rfl rfl rfl rfl rfl) trb1 rq1 nq1 ladf1 (by decide)) (QT.of hW hS X1 F1 rfl rfl rfl rfl rfl) (QT.of W1 sk1 xl2 fl2 rfl rfl rfl rfl rfl) ty5 re1 nq2 ladf2 (by decide)))⟩
          · have tnb2 : ty Lh1 clh1 nb2 20 := tnb2
            refine c_aaldR C dX3_gatherPart_70 ty5 rfl (by omega) (by omega) (by omega) nq2 ?_
            refine c_st (st2 := [.ref nb2, .ref a0]) rfl ?_
            have pl4 := Phi.le W1 sk1
            refine d_callS (As := [.ref a0, .ref nb2]) (rest := []) C hM (G_addInd_25 (a0 := a0) (r := (some nb2)) W1 sk1 ty3 (fun _ q => by cases q; exact tnb2)  (by show ivh1 a0 2 < 6003; omega)) dX3_gatherPart_71 kS_X3_67 rfl rfl (Nat.le_of_ble_eq_true rfl) ⟨(Nat.le_of_ble_eq_true rfl), (Nat.le_of_ble_eq_true rfl)⟩ hph pl4 (show 0 + 0 = 0 from rfl) (by decide) (fun rh3 Lh3 clh3 lnh3 ivh3 rvh3 h3 => ?_)
            obtain ⟨rfl, xl3, fl3, W3, exf3, ladf3⟩ := h3
            refine hv3 (F1.call X1 fl3 rfl) (X1.trans xl3) (xl3.skl sk1) (fun F3 X3 sk3 => ?_)
            refine c_st (st2 := []) rfl ?_
            refine hv3 (xl3.ty ty3) (show ivh1 a0 2 ≤ ivh3 a0 2 ∧ ivh3 a0 2 ≤ ivh1 a0 2 + 1 from exf3) (Phi.le W3 sk3) (fun ty7 gf3 pl5 => ?_)
            have ri4 : 0 ≤ ivh3 a0 2 ∧ ivh3 a0 2 ≤ 6003 := W3.int ty7 2
            exact c_vret C dX3_gatherPart_74 rfl (by decide) (rom0 hph pl5 (by decide)) ⟨rfl, X3, F3, W3, (by omega), (GLQ.rws (GLQ.ind (j := 1) (GLQ.ind (j := 0) (GP7.done hG7 (QT.of hW hS Xb1 Fb1 rfl rfl rfl rfl rfl)) (QT.of hW hS Xb1 Fb1 rfl rfl rfl rfl rfl) (QT.of Wb1 skb1 xl1 fl1 rfl rfl rfl rfl rfl) trb1 rq1 nq1 ladf1 (by decide)) (QT.of hW hS X1 F1 rfl rfl rfl rfl rfl) (QT.of W1 sk1 xl3 fl3 rfl rfl rfl rfl rfl) ty5 re1 nq2 ladf3 (by decide)))⟩
        · have tnb1 : ty Lb1 clb1 nb1 20 := tnb1
          refine c_aaldR C dX3_gatherPart_60 trb1 rfl (by omega) (by omega) (by omega) nq1 ?_
          refine c_st (st2 := [.ref nb1, .ref a0]) rfl ?_
          refine hv2 (Xb1.ty t_a0) (Phi.le Wb1 skb1) (fun ty8 pl6 => ?_)
          have ri5 : 0 ≤ ivb1 a0 2 ∧ ivb1 a0 2 ≤ 6003 := Wb1.int ty8 2
          refine d_callS (As := [.ref a0, .ref nb1]) (rest := []) C hM (G_addInd_25 (a0 := a0) (r := (some nb1)) Wb1 skb1 ty8 (fun _ q => by cases q; exact tnb1)  (by show ivb1 a0 2 < 6003; omega)) dX3_gatherPart_61 kS_X3_67 rfl rfl (Nat.le_of_ble_eq_true rfl) ⟨(Nat.le_of_ble_eq_true rfl), (Nat.le_of_ble_eq_true rfl)⟩ hph pl6 (show 0 + 0 = 0 from rfl) (by decide) (fun rh4 Lh4 clh4 lnh4 ivh4 rvh4 h4 => ?_)
          obtain ⟨rfl, xl4, fl4, W4, exf4, ladf4⟩ := h4
          refine hv3 (Fb1.call Xb1 fl4 rfl) (Xb1.trans xl4) (xl4.skl skb1) (fun F4 X4 sk4 => ?_)
          refine c_st (st2 := []) rfl ?_
          refine hv2 (xl4.ty ty8) (show ivb1 a0 2 ≤ ivh4 a0 2 ∧ ivh4 a0 2 ≤ ivb1 a0 2 + 1 from exf4) (fun ty9 gf4 => ?_)
          have ri6 : 0 ≤ ivh4 a0 2 ∧ ivh4 a0 2 ≤ 6003 := W4.int ty9 2
          refine c_aload_n (j := 1) (x := a0) C dX3_gatherPart_64 rfl ?_
          refine c_aload_n (j := 2) (x := a1) C dX3_gatherPart_65 rfl ?_
          refine hv2 (xl4.ty ty1) (show rvh4 a1 6 = rvb1 a1 6 from (fl4.r ty1 rfl 6)) (fun ty10 re2 => ?_)
          rw [rq1] at re2
          refine c_getr (k := 6) C ck_10 dX3_gatherPart_66 w2_193 (by decide) ty10 rfl rfl (by decide) rfl re2 ?_
          refine c_st (st2 := [.ref rb1, .ref a0]) rfl ?_
          refine c_iconst C dX3_gatherPart_69 ?_
          have ty11 := xl4.ty trb1
          have ll3 : 4 ≤ lnh4 rb1 ∧ lnh4 rb1 ≤ 4 := W4.len ty11 rfl
          rcases W4.opt ty11 ((1 : Int).toNat) rfl rfl with ⟨nq3, _⟩ | ⟨nb3, nq3, tnb3⟩
          · refine c_aaldR C dX3_gatherPart_70 ty11 rfl (by omega) (by omega) (by omega) nq3 ?_
            refine c_st (st2 := [.null, .ref a0]) rfl ?_
            have pl7 := Phi.le W4 sk4
            refine d_callS (As := [.ref a0, .null]) (rest := []) C hM (G_addInd_25 (a0 := a0) (r := none) W4 sk4 ty9 (fun _ q => by cases q)  (by show ivh4 a0 2 < 6003; omega)) dX3_gatherPart_71 kS_X3_67 rfl rfl (Nat.le_of_ble_eq_true rfl) ⟨(Nat.le_of_ble_eq_true rfl), (Nat.le_of_ble_eq_true rfl)⟩ hph pl7 (show 0 + 0 = 0 from rfl) (by decide) (fun rh5 Lh5 clh5 lnh5 ivh5 rvh5 h5 => ?_)
            obtain ⟨rfl, xl5, fl5, W5, exf5, ladf5⟩ := h5
            refine hv4 (F4.call X4 fl5 rfl) (xl4.ty tnb1) (X4.trans xl5) (xl5.skl sk4) (fun F5 ty12 X5 sk5 => ?_)
            refine c_st (st2 := []) rfl ?_
            refine hv3 (xl5.ty ty9) (show ivh4 a0 2 ≤ ivh5 a0 2 ∧ ivh5 a0 2 ≤ ivh4 a0 2 + 1 from exf5) (Phi.le W5 sk5) (fun ty13 gf5 pl8 => ?_)
            have ri7 : 0 ≤ ivh5 a0 2 ∧ ivh5 a0 2 ≤ 6003 := W5.int ty13 2
            exact c_vret C dX3_gatherPart_74 rfl (by decide) (rom0 hph pl8 (by decide)) ⟨rfl, X5, F5, W5, (by omega), (GLQ.rws (GLQ.ind (j := 1) (GLQ.ind (j := 0) (GP7.done hG7 (QT.of hW hS Xb1 Fb1 rfl rfl rfl rfl rfl)) (QT.of hW hS Xb1 Fb1 rfl rfl rfl rfl rfl) (QT.of Wb1 skb1 xl4 fl4 rfl rfl rfl rfl rfl) trb1 rq1 nq1 ladf4 (by decide)) (QT.of hW hS X4 F4 rfl rfl rfl rfl rfl) (QT.of W4 sk4 xl5 fl5 rfl rfl rfl rfl rfl) ty11 re2 nq3 ladf5 (by decide)))⟩
          · have tnb3 : ty Lh4 clh4 nb3 20 := tnb3
            refine c_aaldR C dX3_gatherPart_70 ty11 rfl (by omega) (by omega) (by omega) nq3 ?_
            refine c_st (st2 := [.ref nb3, .ref a0]) rfl ?_
            have pl9 := Phi.le W4 sk4
            refine d_callS (As := [.ref a0, .ref nb3]) (rest := []) C hM (G_addInd_25 (a0 := a0) (r := (some nb3)) W4 sk4 ty9 (fun _ q => by cases q; exact tnb3)  (by show ivh4 a0 2 < 6003; omega)) dX3_gatherPart_71 kS_X3_67 rfl rfl (Nat.le_of_ble_eq_true rfl) ⟨(Nat.le_of_ble_eq_true rfl), (Nat.le_of_ble_eq_true rfl)⟩ hph pl9 (show 0 + 0 = 0 from rfl) (by decide) (fun rh6 Lh6 clh6 lnh6 ivh6 rvh6 h6 => ?_)
            obtain ⟨rfl, xl6, fl6, W6, exf6, ladf6⟩ := h6
            refine hv4 (F4.call X4 fl6 rfl) (xl4.ty tnb1) (X4.trans xl6) (xl6.skl sk4) (fun F6 ty14 X6 sk6 => ?_)
            refine c_st (st2 := []) rfl ?_
            refine hv3 (xl6.ty ty9) (show ivh4 a0 2 ≤ ivh6 a0 2 ∧ ivh6 a0 2 ≤ ivh4 a0 2 + 1 from exf6) (Phi.le W6 sk6) (fun ty15 gf6 pl10 => ?_)
            have ri8 : 0 ≤ ivh6 a0 2 ∧ ivh6 a0 2 ≤ 6003 := W6.int ty15 2
            exact c_vret C dX3_gatherPart_74 rfl (by decide) (rom0 hph pl10 (by decide)) ⟨rfl, X6, F6, W6, (by omega), (GLQ.rws (GLQ.ind (j := 1) (GLQ.ind (j := 0) (GP7.done hG7 (QT.of hW hS Xb1 Fb1 rfl rfl rfl rfl rfl)) (QT.of hW hS Xb1 Fb1 rfl rfl rfl rfl rfl) (QT.of Wb1 skb1 xl4 fl4 rfl rfl rfl rfl rfl) trb1 rq1 nq1 ladf4 (by decide)) (QT.of hW hS X4 F4 rfl rfl rfl rfl rfl) (QT.of W4 sk4 xl6 fl6 rfl rfl rfl rfl rfl) ty11 re2 nq3 ladf6 (by decide)))⟩
      · subst oq1
        refine hv2 (ty_tq ob1 rfl) (hrk ob1 rfl) (fun tob1 hkob1 => ?_)
        have tgob1 := bt_100 tob1.2
        refine c_lv (lv2 := [(2, .ref ob1), (0, .ref a0), (1, .ref a1)]) [0, 1, 2] rfl ?_
        refine c_st (st2 := []) rfl ?_
        refine c_iconst C dX3_gatherPart_11 ?_
        refine c_istore_n (lv2 := [(3, .int (iI 0)), (2, .ref ob1), (0, .ref a0), (1, .ref a1)]) C dX3_gatherPart_12 (by decide) rfl ?_
        have Lp2 : ∀ (nn : Nat) (tr : Nat) (k : Int) (Lb2 : List Nat) (clb2 lnb2 : Nat → Nat) (ivb2 : Nat → Nat → Int) (rvb2 : Nat → Nat → Option Nat) , 201 - k < (nn : Int) → XT L cl ln Lb2 clb2 lnb2 → WT (g0 G) sk Lb2 clb2 lnb2 ivb2 rvb2 → fT [25, 1003] L cl iv rv ivb2 rvb2 → (ty Lb2 clb2 tr 100) → (0 ≤ k ∧ k ≤ 200) → (ivb2 a0 2 ≤ 200 * (129 - rk) + k) → (100 ≤ clb2 tr ∧ ((clb2 tr : Nat) : Int) ≤ rk) → (GP13 sk ln iv rv a1 Lb2 clb2 lnb2 ivb2 rvb2 a0 tr k) → cw p l e 8 ((PHM) + 0 - ((Phi (g0 G) sk) ln rv)) s m args below meth c G A 4 (MQ below (Qu G A (Qp G (Phi (g0 G) sk) ((Phi (g0 G) sk) ln rv) 0 (fun v L2 cl2 ln2 iv2 rv2 => v = none ∧ XT L cl ln L2 cl2 ln2 ∧ fT [25, 1003] L cl iv rv iv2 rv2 ∧ WT (g0 G) sk L2 cl2 ln2 iv2 rv2 ∧ (iv2 a0 2 ≤ 6002) ∧ (GLQ sk ln iv rv a1 L2 cl2 ln2 iv2 rv2 a0 rws1)))) args s (((PHM) + 0 - ((Phi (g0 G) sk) ln rv)) / 16) ((PHM) + 0 - ((Phi (g0 G) sk) ln rv)) A) (Phi (g0 G) sk) ((Phi (g0 G) sk) ln rv) Lb2 clb2 lnb2 ivb2 rvb2 0 13 [(2, .ref tr), (3, .int (iI k)), (0, .ref a0), (1, .ref a1)] [] := by
          intro nn
          induction nn with
          | zero =>
            intro tr k Lb2 clb2 lnb2 ivb2 rvb2 hm Xb2 Wb2 Fb2 ty_tr hk hs2 hcr hG13
            have skb2 := Xb2.skl hS
            exact absurd hm (by omega)
          | succ nn ih2 =>
            intro tr k Lb2 clb2 lnb2 ivb2 rvb2 hm Xb2 Wb2 Fb2 ty_tr hk hs2 hcr hG13
            have skb2 := Xb2.skl hS
            refine c_iload_n (j := 1) C dX3_gatherPart_13 rfl ?_
            refine c_aload_n (j := 0) (x := tr) C dX3_gatherPart_14 rfl ?_
            obtain ⟨rb2, rq2, trb2⟩ := Wb2.ref ty_tr 4 rfl rfl rfl
            refine c_getr (k := 4) C ck_10 dX3_gatherPart_15 w2_187 (by decide) ty_tr rfl rfl (by decide) rfl rq2 ?_
            refine c_st (st2 := [.ref rb2, .int (iI k)]) rfl ?_
            refine hv2 (show 0 ≤ ivb2 rb2 2 ∧ ivb2 rb2 2 ≤ 200 from Wb2.int trb2 2) (Phi.le Wb2 skb2) (fun ri9 pl11 => ?_)
            refine d_callV (As := []) (rest := [.int (iI k)]) C hM (C_size_26 (a0 := rb2) Wb2 skb2 trb2  ) dX3_gatherPart_18 kV_X3_78 rfl trb2 rfl rfl (by decide) ck_0 rfl (Nat.le_of_ble_eq_true rfl) ⟨(Nat.le_of_ble_eq_true rfl), (Nat.le_of_ble_eq_true rfl)⟩ hph pl11 (show 0 + 0 = 0 from rfl) (by decide) (fun rh7 Lh7 clh7 lnh7 ivh7 rvh7 h7 => ?_)
            obtain ⟨f7, rfl, rfl, rfl, rfl, rfl, rfl, rgf7, exf7⟩ := h7
            refine c_st (st2 := [.int (iI f7), .int (iI k)]) rfl ?_
            have gf7 : f7 = ivb2 rb2 2 := exf7
            refine c_icmp_ge (tgt := 46) C (r32_c (lo := 0) (hi := 200) hk.1 hk.2 (by decide) (by decide)) ⟨by omega, by omega⟩ dX3_gatherPart_21 (by decide) (fun c1 => ?_) (fun c1 => ?_)
            · refine c_aload_n (j := 0) (x := tr) C dX3_gatherPart_46 rfl ?_
              rcases Wb2.opt ty_tr 2 rfl rfl with ⟨nq4, _⟩ | ⟨nb4, nq4, tnb4⟩
              · refine c_getr (k := 2) C ck_10 dX3_gatherPart_47 w2_181 (by decide) ty_tr rfl rfl (by decide) rfl nq4 ?_
                refine c_st (st2 := [.null]) rfl ?_
                refine c_astorer_n (r := none) (lv2 := [(2, .null), (3, .int (iI k)), (0, .ref a0), (1, .ref a1)]) C dX3_gatherPart_50 (by decide) rfl ?_
                refine c_goto (tgt := 7) C dX3_gatherPart_51 (by decide) ?_
                have ty16 := Xb2.ty t_a0
                have ri10 : 0 ≤ ivb2 a0 2 ∧ ivb2 a0 2 ≤ 6003 := Wb2.int ty16 2
                refine c_lv (lv2 := [(2, .null), (0, .ref a0), (1, .ref a1)]) [0, 2, 3] rfl ?_
                exact ih1  none (rk - 1) _ _ _ _ _ (by omega) Xb2 Wb2 Fb2 (fun _ q => by cases q) (by omega) (by show ivb2 a0 2 ≤ 200 * (129 - (rk - 1)); omega) (fun _ q => by cases q) (GP13.fin hG13 (QT.of hW hS Xb2 Fb2 rfl rfl rfl rfl rfl) rq2 (by omega) nq4)
              · have rknb4 := Wb2.rank ty_tr (k := 2) (by decide) nq4
                refine c_getr (k := 2) C ck_10 dX3_gatherPart_47 w2_181 (by decide) ty_tr rfl rfl (by decide) rfl nq4 ?_
                refine c_st (st2 := [.ref nb4]) rfl ?_
                refine c_astore_n (lv2 := [(2, .ref nb4), (3, .int (iI k)), (0, .ref a0), (1, .ref a1)]) C dX3_gatherPart_50 (by decide) rfl ?_
                refine c_goto (tgt := 7) C dX3_gatherPart_51 (by decide) ?_
                refine hv2 (Xb2.ty t_a0) (bt_100 tnb4.2) (fun ty17 trnb4 => ?_)
                have ri11 : 0 ≤ ivb2 a0 2 ∧ ivb2 a0 2 ≤ 6003 := Wb2.int ty17 2
                refine c_lv (lv2 := [(2, .ref nb4), (0, .ref a0), (1, .ref a1)]) [0, 2, 3] rfl ?_
                exact ih1  (some nb4) (rk - 1) _ _ _ _ _ (by omega) Xb2 Wb2 Fb2 (fun _ q => by cases q; exact tnb4) (by omega) (by show ivb2 a0 2 ≤ 200 * (129 - (rk - 1)); omega) (fun _ q => by cases q; omega) (GP13.fin hG13 (QT.of hW hS Xb2 Fb2 rfl rfl rfl rfl rfl) rq2 (by omega) nq4)
            · refine c_aload_n (j := 2) (x := a0) C dX3_gatherPart_24 rfl ?_
              refine c_aload_n (j := 0) (x := tr) C dX3_gatherPart_25 rfl ?_
              refine c_getr (k := 4) C ck_10 dX3_gatherPart_26 w2_187 (by decide) ty_tr rfl rfl (by decide) rfl rq2 ?_
              refine c_st (st2 := [.ref rb2, .ref a0]) rfl ?_
              refine c_iload_n (j := 1) C dX3_gatherPart_29 rfl ?_
              refine d_callV (As := [.int (iI k)]) (rest := [.ref a0]) C hM (C_get_26 (a0 := rb2) (i := k) Wb2 skb2 trb2 (by omega) (by show 0 ≤ k ∧ k < ivb2 rb2 2; omega)) dX3_gatherPart_30 kV_X3_82 rfl trb2 rfl rfl (by decide) ck_0 rfl (Nat.le_of_ble_eq_true rfl) ⟨(Nat.le_of_ble_eq_true rfl), (Nat.le_of_ble_eq_true rfl)⟩ hph pl11 (show 0 + 0 = 0 from rfl) (by decide) (fun rh8 Lh8 clh8 lnh8 ivh8 rvh8 h8 => ?_)
              obtain ⟨f8, rfl, rfl, rfl, rfl, rfl, rfl, rgf8, exf8⟩ := h8
              refine c_st (st2 := [.ref f8, .ref a0]) rfl ?_
              have gf8 : el rvb2 rb2 k.toNat = some f8 := exf8
              refine c_cast C ck_6 dX3_gatherPart_33 w5_63 w8_169t rgf8 rfl rfl (by decide) ?_
              have ty18 := Xb2.ty t_a0
              have ri12 : 0 ≤ ivb2 a0 2 ∧ ivb2 a0 2 ≤ 6003 := Wb2.int ty18 2
              refine d_callV (As := [.ref f8]) (rest := []) C hM (C_add_25 (a0 := a0) (x := f8) Wb2 skb2 ty18 rgf8  (by show ivb2 a0 2 < 6003; omega)) dX3_gatherPart_36 kV_X3_97 rfl ty18 rfl rfl (by decide) ck_0 rfl (Nat.le_of_ble_eq_true rfl) ⟨(Nat.le_of_ble_eq_true rfl), (Nat.le_of_ble_eq_true rfl)⟩ hph pl11 (show 0 + 0 = 0 from rfl) (by decide) (fun rh9 Lh9 clh9 lnh9 ivh9 rvh9 h9 => ?_)
              obtain ⟨f9, rfl, xl9, fl9, W9, rgf9, exf9⟩ := h9
              refine hv4 (Fb2.call Xb2 fl9 rfl) (Xb2.ty t_a1) (Xb2.trans xl9) (xl9.skl skb2) (fun F7 ty19 X7 sk7 => ?_)
              refine c_st (st2 := [.int (iI f9)]) rfl ?_
              refine hv2 (xl9.ty ty18) (show ivh9 a0 2 = ivb2 a0 2 + 1 ∧ el rvh9 a0 (ivb2 a0 2).toNat = some f8 ∧ ∀ i : Nat, (i : Int) < ivb2 a0 2 → el rvh9 a0 i = el rvb2 a0 i from exf9) (fun ty20 gf9 => ?_)
              have ri13 : 0 ≤ ivh9 a0 2 ∧ ivh9 a0 2 ≤ 6003 := W9.int ty20 2
              refine c_pop C dX3_gatherPart_39 rfl ?_
              refine c_iinc (z := k) (j := 1) (lv2 := [(3, .int (iI (k + 1))), (2, .ref tr), (0, .ref a0), (1, .ref a1)]) C dX3_gatherPart_40 rfl (by decide) rfl ?_
              refine c_goto (tgt := 13) C dX3_gatherPart_43 (by decide) ?_
              refine hv2 (xl9.ty ty_tr) (show clh9 tr = clb2 tr from (xl9 tr ty_tr.1).2.1) (fun ty21 ce1 => ?_)
              refine c_lv (lv2 := [(2, .ref tr), (3, .int (iI (k + 1))), (0, .ref a0), (1, .ref a1)]) [1, 0, 2, 3] rfl ?_
              exact ih2  tr (k + 1) _ _ _ _ _ (by omega) X7 W9 F7 ty21 (by omega) (by show ivh9 a0 2 ≤ 200 * (129 - rk) + (k + 1); omega) (by show 100 ≤ clh9 tr ∧ ((clh9 tr : Nat) : Int) ≤ rk; omega) (GP13.step hG13 (QT.of hW hS Xb2 Fb2 rfl rfl rfl rfl rfl) (QT.of Wb2 skb2 xl9 fl9 rfl rfl rfl rfl rfl) ty_tr rq2 (by omega) exf8 gf9)
        have ty22 := Xb1.ty t_a0
        have ri14 : 0 ≤ ivb1 a0 2 ∧ ivb1 a0 2 ≤ 6003 := Wb1.int ty22 2
        refine c_lv (lv2 := [(2, .ref ob1), (3, .int (iI 0)), (0, .ref a0), (1, .ref a1)]) [1, 0, 2, 3] rfl ?_
        exact Lp2 203 ob1 0 _ _ _ _ _ (by omega) Xb1 Wb1 Fb1 tob1 (by omega) (by show ivb1 a0 2 ≤ 200 * (129 - rk) + 0; omega) (by show 100 ≤ clb1 ob1 ∧ ((clb1 ob1 : Nat) : Int) ≤ rk; omega) (GP7.start hG7 (QT.of hW hS Xb1 Fb1 rfl rfl rfl rfl rfl))
  have ri15 : 0 ≤ iv a0 2 ∧ iv a0 2 ≤ 6003 := hW.int t_a0 2
  refine c_lv (lv2 := [(2, .ref a1), (0, .ref a0), (1, .ref a1)]) [0, 1, 2] rfl ?_
  exact Lp1 31 (some a1) 129 _ _ _ _ _ (by omega) hX0 hW hF0 (fun _ q => by cases q; exact t_a1) (by omega) (by show iv a0 2 ≤ 200 * (129 - 129); omega) (fun _ q => by cases q; have q2 := bt_100 t_a1.2; omega) (GP7.init hn)
end
section
section JROW
variable {g : Nat} {sk : Nat → Nat} {L L1 L2 L3 : List Nat} {cl ln cl1 ln1 cl2 ln2 cl3 ln3 : Nat → Nat} {iv iv1 iv2 iv3 : Nat → Nat → Int} {rv rv1 rv2 rv3 : Nat → Nat → Option Nat} {v : Nat → Int} {a : Nat → Nat → Int} {t b b2 q n w u c0 tr : Nat} {d e f f1 f2 i0 j0 k0 h k k2 z : Int} {r x y : Option Nat} {l : List Int}
theorem HL.lt (hH : HL L cl ln iv rv a q l) {i : Nat} (h : l[i]? = some d) : (i : Int) < iv q 2 := by
  rw [hH.1]; have := gl_lt h; omega
theorem HL.of (hH : HL L cl ln iv rv a q l) {i : Nat} (h : l[i]? = some d) (hw : el rv q i = some w) : ty L cl w 20 ∧ RWD ln iv rv a w d := by
  obtain ⟨w', p1, p2, p3⟩ := hH.2 i d h
  rw [hw] at p1; cases p1
  exact ⟨p2, p3⟩
end JROW
end
section
def LTW (iv : Nat → Nat → Int) (rv : Nat → Nat → Option Nat) (s : Nat) (W : Nat → Int) (q u : Int) : Prop := ∀ lb, rv s 0 = some lb → ∀ j : Int, q ≤ j → j < u → iv lb j.toNat = W j.toNat
def FTX (ln : Nat → Nat) (iv : Nat → Nat → Int) (rv : Nat → Nat → Option Nat) (s w : Nat) (i f : Int) : Prop := ∀ a W R, ROWR ln iv rv a w R → 1 ≤ a 12 R → LTW iv rv s W (i + 1) (iv s 11) → a 14 (8 * R) = W i.toNat → (f = 1 ↔ FIT a W (iv s 10) (iv s 11) i (R : Int))
def FXI (iv : Nat → Nat → Int) (rv : Nat → Nat → Option Nat) (s w : Nat) (i k : Int) : Prop := ∀ l lb, rv w 1 = some l → rv s 0 = some lb → ∀ j : Int, 1 ≤ j → j < k → iv l j.toNat = iv lb (i + j).toNat
def BST (ln : Nat → Nat) (iv : Nat → Nat → Int) (rv : Nat → Nat → Option Nat) (a : Nat → Nat → Int) (r : Option Nat) (z : Int) : Prop := (r = none ∧ z = -1) ∨ ∃ w, r = some w ∧ 0 ≤ z ∧ ROWR ln iv rv a w z.toNat
def OWC (a : Nat → Nat → Int) (W : Nat → Int) (q u x t rb z k : Int) : Prop := ∃ y, OWI a W q u x t y (200 * t + k) ∧ z = cmb a rb y
def FOX (sk ln : Nat → Nat) (iv : Nat → Nat → Int) (rv : Nat → Nat → Option Nat) (s tb : Nat) (i x : Int) (r f : Option Nat) : Prop := ∀ v a W (t : Nat) (rb : Int), TRL sk ln iv rv v a → (t : Int) < v 4 → el rv (sk 22) t = some tb → LTW iv rv s W (i + 1) (iv s 11) → W i.toNat = x → -1 ≤ rb → BST ln iv rv a r rb → ∃ y, OWR a W (iv s 10) (iv s 11) i t y ∧ BST ln iv rv a f (cmb a rb y)
def FOI (sk ln : Nat → Nat) (iv : Nat → Nat → Int) (rv : Nat → Nat → Option Nat) (s tb : Nat) (i x : Int) (r bs : Option Nat) (lg k : Int) : Prop := ∀ v a W (t : Nat) (rb : Int), TRL sk ln iv rv v a → (t : Int) < v 4 → el rv (sk 22) t = some tb → LTW iv rv s W (i + 1) (iv s 11) → W i.toNat = x → -1 ≤ rb → BST ln iv rv a r rb → ∃ z, OWC a W (iv s 10) (iv s 11) i t rb z k ∧ BST ln iv rv a bs z ∧ ((bs = none ∧ lg = 0) ∨ ∃ w l, bs = some w ∧ rv w 1 = some l ∧ lg = ((ln l : Nat) : Int))
def FDX (sk ln : Nat → Nat) (iv : Nat → Nat → Int) (rv : Nat → Nat → Option Nat) (s tb : Nat) (i x : Int) (f : Option Nat) : Prop := ∀ v a W (t : Nat), TRL sk ln iv rv v a → (t : Int) < v 4 → a 6 t ≠ 5 → el rv (sk 22) t = some tb → LTW iv rv s W (i + 1) (iv s 11) → ∃ y, fnd a (iv s 10) (iv s 11) i 30 (va_up W i.toNat x) t y ∧ BST ln iv rv a f y
def FDI (sk ln : Nat → Nat) (iv : Nat → Nat → Int) (rv : Nat → Nat → Option Nat) (s tb : Nat) (i x : Int) (bs : Option Nat) (he : Int) (tq : Option Nat) : Prop := ∀ v a W (t : Nat), TRL sk ln iv rv v a → (t : Int) < v 4 → a 6 t ≠ 5 → el rv (sk 22) t = some tb → LTW iv rv s W (i + 1) (iv s 11) → ∃ rb t2, -1 ≤ rb ∧ BST ln iv rv a bs rb ∧ BASR sk rv (v 4).toNat tq t2 ∧ (0 ≤ t2 → a 6 t2.toNat ≠ 5) ∧ (tq = none → False) ∧ ∀ y, fnd a (iv s 10) (iv s 11) i 30 (va_up W i.toNat he) t2 y → fnd a (iv s 10) (iv s 11) i 30 (va_up W i.toNat x) t (cmb a rb y)
section FROW
variable {g : Nat} {sk : Nat → Nat} {L : List Nat} {cl ln : Nat → Nat} {iv iv2 : Nat → Nat → Int} {rv : Nat → Nat → Option Nat} {v : Nat → Int} {a : Nat → Nat → Int} {W : Nat → Int} {s w u tb b l lb c q4 : Nat} {R t : Nat} {i k x y z rb f lg he q n : Int} {r bs tq : Option Nat}
theorem LTW.up (h : LTW iv rv s W (i + 1) n) (h0 : 0 ≤ i) : LTW iv rv s (va_up W i.toNat x) (i + 1) n := fun lb hb j h1 h2 => by
  rw [va_up_ne _ _ (by omega)]; exact h lb hb j h1 h2
theorem vuu (W : Nat → Int) (i : Nat) (x y : Int) : va_up (va_up W i x) i y = va_up W i y := by
  funext j
  unfold va_up
  split <;> rfl
theorem FXI.zero : FXI iv rv s w i 1 := fun _ _ _ _ j h1 h2 => absurd h1 (by omega)
theorem FXI.step (h : FXI iv rv s w i k) (h1 : rv w 1 = some l) (h2 : rv s 0 = some lb) (e : iv l k.toNat = iv lb (i + k).toNat) : FXI iv rv s w i (k + 1) := fun l2 lb2 p1 p2 j j1 j2 => by
  by_cases c : j < k
  · exact h l2 lb2 p1 p2 j j1 c
  · rw [h1] at p1; cases p1
    rw [h2] at p2; cases p2
    rw [show j = k by omega]; exact e
theorem FTX.n1 (h1 : rv w 1 = some l) (h : iv s 11 < i + ((ln l : Nat) : Int)) : FTX ln iv rv s w i 0 := fun a W R hr _ _ _ => by
  obtain ⟨_, _, l', c', e3, _, e5, _⟩ := hr
  rw [h1] at e3; cases e3
  refine ⟨fun e => absurd e (by decide), fun e => ?_⟩
  have := e.1.1
  rw [Int.toNat_natCast] at this
  omega
theorem FTX.n2 (h1 : rv w 1 = some l) (h2 : rv s 0 = some lb) (hk : 1 ≤ k ∧ k < ((ln l : Nat) : Int)) (hu : i + ((ln l : Nat) : Int) ≤ iv s 11) (e : iv l k.toNat ≠ iv lb (i + k).toNat) : FTX ln iv rv s w i 0 := fun a W R hr _ hl _ => by
  obtain ⟨_, _, l', c', e3, _, e5, _, e7, _⟩ := hr
  rw [h1] at e3; cases e3
  refine ⟨fun e => absurd e (by decide), fun g => (e ?_).elim⟩
  have g1 := g.1.2 k (by omega) (by rw [Int.toNat_natCast]; omega)
  rw [(e7 k.toNat (by omega)).1, hl lb h2 (i + k) (by omega) (by omega), ← g1]
  exact congrArg (a 14) (by omega)
theorem FTX.cc (h : FXI iv rv s w i k) (h1 : rv w 1 = some l) (h2 : rv s 0 = some lb) (hk : ((ln l : Nat) : Int) ≤ k) (hu : i + ((ln l : Nat) : Int) ≤ iv s 11) (h3 : 0 ≤ iv w 3 ∧ iv w 3 ≤ 5) (hc : f = 1 ↔ (iv w 3 = 0 ∨ (iv w 3 = 1 ∧ i = iv s 10) ∨ (iv w 3 = 2 ∧ i ≠ iv s 10 ∧ i + ((ln l : Nat) : Int) ≠ iv s 11) ∨ (iv w 3 = 3 ∧ i + ((ln l : Nat) : Int) = iv s 11) ∨ (iv w 3 = 4 ∧ i = iv s 10 ∧ i + ((ln l : Nat) : Int) = iv s 11) ∨ (iv w 3 = 5 ∧ i + ((ln l : Nat) : Int) ≠ iv s 11 ∧ ¬ isD (iv lb (i + ((ln l : Nat) : Int)).toNat) ∧ ¬ isG (iv lb (i + ((ln l : Nat) : Int)).toNat) ∧ ¬ isS (iv lb (i + ((ln l : Nat) : Int)).toNat)))) : FTX ln iv rv s w i f := fun a W R hr hr1 hl hw0 => by
  obtain ⟨e1, _, l', c', e3, _, e5, _, e7, _⟩ := hr
  rw [h1] at e3; cases e3
  have ft : FTL a W (iv s 11) i (R : Int) (a 12 (R : Int).toNat) := by
    rw [FTL, Int.toNat_natCast]
    refine ⟨by omega, fun j j0 j1 => ?_⟩
    by_cases c0 : j = 0
    · subst c0
      rw [Int.add_zero, Int.add_zero, ← hw0]
      exact congrArg (a 14) (by omega)
    · have q1 := h l lb h1 h2 j (by omega) (by omega)
      rw [(e7 j.toNat (by omega)).1, hl lb h2 (i + j) (by omega) (by omega)] at q1
      rw [← q1]
      exact congrArg (a 14) (by omega)
  have cn : CND a W (iv s 10) (iv s 11) i (R : Int) ↔ f = 1 := by
    rw [hc]
    unfold CND
    rw [Int.toNat_natCast, ← e1, ← e5]
    by_cases c0 : i + ((ln l : Nat) : Int) = iv s 11
    · constructor
      · rintro (g | g | g | g | g | g)
        · exact Or.inl g
        · exact Or.inr (Or.inl g)
        · exact Or.inr (Or.inr (Or.inl g))
        · exact Or.inr (Or.inr (Or.inr (Or.inl g)))
        · exact Or.inr (Or.inr (Or.inr (Or.inr (Or.inl g))))
        · exact absurd c0 g.2.1
      · rintro (g | g | g | g | g | g)
        · exact Or.inl g
        · exact Or.inr (Or.inl g)
        · exact Or.inr (Or.inr (Or.inl g))
        · exact Or.inr (Or.inr (Or.inr (Or.inl g)))
        · exact Or.inr (Or.inr (Or.inr (Or.inr (Or.inl g))))
        · exact absurd c0 g.2.1
    · rw [hl lb h2 (i + ((ln l : Nat) : Int)) (by omega) (by omega)]
      constructor
      · rintro (g | g | g | g | g | g)
        · exact Or.inl g
        · exact Or.inr (Or.inl g)
        · exact Or.inr (Or.inr (Or.inl g))
        · exact Or.inr (Or.inr (Or.inr (Or.inl g)))
        · exact Or.inr (Or.inr (Or.inr (Or.inr (Or.inl g))))
        · exact Or.inr (Or.inr (Or.inr (Or.inr (Or.inr ⟨by omega, g.2⟩))))
      · rintro (g | g | g | g | g | g)
        · exact Or.inl g
        · exact Or.inr (Or.inl g)
        · exact Or.inr (Or.inr (Or.inl g))
        · exact Or.inr (Or.inr (Or.inr (Or.inl g)))
        · exact Or.inr (Or.inr (Or.inr (Or.inr (Or.inl g))))
        · exact Or.inr (Or.inr (Or.inr (Or.inr (Or.inr ⟨Or.inr (by omega), g.2⟩))))
  exact ⟨fun e => ⟨ft, cn.mpr e⟩, fun e => cn.mp e.2⟩
theorem cmb_n (h : -1 ≤ rb) : cmb a rb (-1) = rb := by
  unfold cmb
  split
  · omega
  · rfl
theorem cmb_0 : cmb a (-1) y = y := by
  unfold cmb
  rw [if_pos (Or.inl (by decide))]
theorem cmb_as (h1 : -1 ≤ x) (h2 : -1 ≤ y) (h3 : -1 ≤ z) : cmb a (cmb a x y) z = cmb a x (cmb a y z) := by
  unfold cmb
  repeat' split
  all_goals omega
theorem OWC.zero (h : -1 ≤ rb) : OWC a W q n i (t : Int) rb rb 0 := ⟨-1, by rw [Int.add_zero]; exact OWI.zero, (cmb_n h).symm⟩
theorem OWC.miss (h : OWC a W q n i (t : Int) rb z k) (hf : ¬ FIT a W q n i (200 * (t : Int) + k)) : OWC a W q n i (t : Int) rb z (k + 1) := by
  obtain ⟨y, h1, h2⟩ := h
  exact ⟨y, by rw [← Int.add_assoc]; exact h1.miss hf, h2⟩
theorem OWC.short (h : OWC a W q n i (t : Int) rb z k) (hk : 0 ≤ k) (hz : 0 ≤ z) (hl : a 12 (200 * (t : Int) + k).toNat ≤ a 12 z.toNat) : OWC a W q n i (t : Int) rb z (k + 1) := by
  obtain ⟨y, h1, h2⟩ := h
  by_cases hf : FIT a W q n i (200 * (t : Int) + k)
  · by_cases hy : y < 0 ∨ a 12 y.toNat < a 12 (200 * (t : Int) + k).toNat
    · refine ⟨200 * (t : Int) + k, by rw [← Int.add_assoc]; exact h1.hit (by omega) hy (by omega) hf, ?_⟩
      have r := h1.rg
      unfold cmb at h2 ⊢
      split at h2
      · subst h2
        omega
      · subst h2
        rw [if_neg (by omega)]
    · refine ⟨y, ?_, h2⟩
      have r := h1.rg
      rw [← Int.add_assoc]
      exact h1.skip (by omega) (by omega) (by omega)
  · exact ⟨y, by rw [← Int.add_assoc]; exact h1.miss hf, h2⟩
theorem OWC.hit (h : OWC a W q n i (t : Int) rb z k) (hk : 0 ≤ k) (hl : z < 0 ∨ a 12 z.toNat < a 12 (200 * (t : Int) + k).toNat) (hf : FIT a W q n i (200 * (t : Int) + k)) : OWC a W q n i (t : Int) rb (200 * (t : Int) + k) (k + 1) := by
  obtain ⟨y, h1, h2⟩ := h
  have r := h1.rg
  have e : cmb a rb (200 * (t : Int) + k) = 200 * (t : Int) + k ∧ (y < 0 ∨ a 12 y.toNat < a 12 (200 * (t : Int) + k).toNat) := by
    unfold cmb at h2 ⊢
    split at h2
    · subst h2
      refine ⟨?_, hl⟩
      rename_i c
      rw [if_pos (by omega)]
    · subst h2
      rename_i c
      refine ⟨by rw [if_pos (by omega)], by omega⟩
  exact ⟨_, by rw [← Int.add_assoc]; exact h1.hit (by omega) e.2 (by omega) hf, e.1.symm⟩
theorem TRL.ini {s5 xb : Nat} (h : TRL sk ln iv rv v a) (hi : (t : Int) < v 4) (ht : el rv (sk 22) t = some tb) (h5 : rv tb 5 = some s5) (hx : rv s5 1 = some xb) : iv s5 2 = a 10 t ∧ ∀ j : Nat, (j : Int) < a 10 t → iv xb j = a 14 (8 * (200 * t + j)) := by
  obtain ⟨_, ⟨o, h2⟩, _, _⟩ := h
  obtain ⟨t1, c1, c2⟩ := h2.1 t hi
  rw [ht] at c1; cases c1
  obtain ⟨q2, s6, x6, n6, ⟨_, e2, _, _⟩, _, _, ⟨e6, _⟩, _, e8, _⟩ := c2
  rw [h5] at e2; cases e2
  exact ⟨e6, fun j hj => e8 xb hx j (by rw [e6]; exact hj)⟩
theorem TRL.row (h : TRL sk ln iv rv v a) (hi : (t : Int) < v 4) (ht : el rv (sk 22) t = some tb) (h4 : rv tb 4 = some q4) (hk : 0 ≤ k ∧ k < iv q4 2) (hw : el rv q4 k.toNat = some w) : (k < a 10 t ∧ iv q4 2 = a 10 t) ∧ ROWR ln iv rv a w (200 * t + k.toNat) ∧ (1 ≤ a 12 (200 * t + k.toNat) ∧ a 12 (200 * t + k.toNat) ≤ 8) := by
  obtain ⟨_, _, q1, n1, ⟨c1, _, c3⟩, c4, _⟩ := h.tab hi ht
  rw [h4] at c1; cases c1
  obtain ⟨w', d1, d2⟩ := c4 k.toNat (by omega)
  rw [hw] at d1; cases d1
  have g := (h.2.2.1.2 t (200 * (t : Int) + k) (by omega) hi (by omega) (by rw [Int.toNat_natCast]; omega)).1
  rw [show (200 * (t : Int) + k).toNat = 200 * t + k.toNat by omega] at g
  exact ⟨⟨by omega, c3⟩, d2, g⟩
theorem FOI.i0 : FOI sk ln iv rv s tb i x none none 0 0 := fun v a W t rb hR ht he hl hw hrb hB => ⟨rb, OWC.zero hrb, hB, Or.inl ⟨rfl, rfl⟩⟩
theorem FOI.i1 (h1 : rv w 1 = some l) : FOI sk ln iv rv s tb i x (some w) (some w) ((ln l : Nat) : Int) 0 := fun v a W t rb hR ht he hl hw hrb hB => ⟨rb, OWC.zero hrb, hB, Or.inr ⟨w, l, rfl, h1, rfl⟩⟩
theorem FOI.lng {z0 : Int} (h2 : BST ln iv rv a bs z0) (h3 : (bs = none ∧ lg = 0) ∨ ∃ w l, bs = some w ∧ rv w 1 = some l ∧ lg = ((ln l : Nat) : Int)) : (z0 = -1 ∧ lg = 0) ∨ (0 ≤ z0 ∧ lg = a 12 z0.toNat) := by
  rcases h2 with ⟨p1, p2⟩ | ⟨w, p1, p2, p3⟩
  · rcases h3 with ⟨_, q2⟩ | ⟨w, l, q1, _⟩
    · exact Or.inl ⟨p2, q2⟩
    · rw [p1] at q1; cases q1
  · rcases h3 with ⟨q1, _⟩ | ⟨w, l, q1, q2, q3⟩
    · rw [p1] at q1; cases q1
    · rw [p1] at q1; cases q1
      obtain ⟨_, _, l', c', e3, _, e5, _⟩ := p3
      rw [q2] at e3; cases e3
      exact Or.inr ⟨p2, q3.trans e5⟩
theorem FOI.skip {s5 xb : Nat} (h : FOI sk ln iv rv s tb i x r bs lg k) (h5 : rv tb 5 = some s5) (hx5 : rv s5 1 = some xb) (hk : 0 ≤ k ∧ k < iv s5 2) (e : iv xb k.toNat ≠ x) : FOI sk ln iv rv s tb i x r bs lg (k + 1) := fun v a W t rb hR ht he hl hw hrb hB => by
  obtain ⟨z, h1, h2, h3⟩ := h v a W t rb hR ht he hl hw hrb hB
  obtain ⟨i1, i2⟩ := hR.ini ht he h5 hx5
  have g := (hR.2.2.1.2 t (200 * (t : Int) + k) (by omega) ht (by omega) (by rw [Int.toNat_natCast]; omega)).1
  refine ⟨z, h1.miss (fun hf => e ?_), h2, h3⟩
  have g1 := hf.1.2 0 (by omega) (by omega)
  rw [i2 k.toNat (by omega), ← hw]
  rw [Int.add_zero, Int.add_zero] at g1
  rw [← g1]
  exact congrArg (a 14) (by omega)
theorem FOI.short (h : FOI sk ln iv rv s tb i x r bs lg k) (h4 : rv tb 4 = some q4) (hk : 0 ≤ k ∧ k < iv q4 2) (hw4 : el rv q4 k.toNat = some w) (h1 : rv w 1 = some l) (hl0 : ((ln l : Nat) : Int) ≤ lg) : FOI sk ln iv rv s tb i x r bs lg (k + 1) := fun v a W t rb hR ht he hl hw hrb hB => by
  obtain ⟨z, p1, p2, p3⟩ := h v a W t rb hR ht he hl hw hrb hB
  obtain ⟨_, rr, r12⟩ := hR.row ht he h4 hk hw4
  obtain ⟨_, _, l', c', e3, _, e5, _⟩ := rr
  rw [h1] at e3; cases e3
  have g := FOI.lng p2 p3
  have ix : (200 * (t : Int) + k).toNat = 200 * t + k.toNat := by omega
  exact ⟨z, p1.short hk.1 (by omega) (by rw [ix]; omega), p2, p3⟩
theorem FOI.miss {s5 xb : Nat} (h : FOI sk ln iv rv s tb i x r bs lg k) (h4 : rv tb 4 = some q4) (hk : 0 ≤ k ∧ k < iv q4 2) (hw4 : el rv q4 k.toNat = some w) (h5 : rv tb 5 = some s5) (hx5 : rv s5 1 = some xb) (ex : iv xb k.toNat = x) (hF : FTX ln iv rv s w i f) (e : f ≠ 1) : FOI sk ln iv rv s tb i x r bs lg (k + 1) := fun v a W t rb hR ht he hl hw hrb hB => by
  obtain ⟨z, p1, p2, p3⟩ := h v a W t rb hR ht he hl hw hrb hB
  obtain ⟨kk, rr, r12⟩ := hR.row ht he h4 hk hw4
  obtain ⟨i1, i2⟩ := hR.ini ht he h5 hx5
  have q := hF a W _ rr r12.1 hl (by rw [hw, ← ex, i2 k.toNat (by omega)])
  rw [show (((200 * t + k.toNat : Nat)) : Int) = 200 * (t : Int) + k by omega] at q
  exact ⟨z, p1.miss (fun w => e (q.mpr w)), p2, p3⟩
theorem FOI.hit {s5 xb : Nat} (h : FOI sk ln iv rv s tb i x r bs lg k) (h4 : rv tb 4 = some q4) (hk : 0 ≤ k ∧ k < iv q4 2) (hw4 : el rv q4 k.toNat = some w) (h5 : rv tb 5 = some s5) (hx5 : rv s5 1 = some xb) (ex : iv xb k.toNat = x) (hF : FTX ln iv rv s w i f) (e : f = 1) (h1 : rv w 1 = some l) (hl0 : lg < ((ln l : Nat) : Int)) : FOI sk ln iv rv s tb i x r (some w) ((ln l : Nat) : Int) (k + 1) := fun v a W t rb hR ht he hl hw hrb hB => by
  obtain ⟨z, p1, p2, p3⟩ := h v a W t rb hR ht he hl hw hrb hB
  obtain ⟨kk, rr, r12⟩ := hR.row ht he h4 hk hw4
  obtain ⟨i1, i2⟩ := hR.ini ht he h5 hx5
  have q := hF a W _ rr r12.1 hl (by rw [hw, ← ex, i2 k.toNat (by omega)])
  have ix : (200 * (t : Int) + k).toNat = 200 * t + k.toNat := by omega
  rw [show (((200 * t + k.toNat : Nat)) : Int) = 200 * (t : Int) + k by omega] at q
  have g := FOI.lng p2 p3
  obtain ⟨_, _, l', c', e3, _, e5, _⟩ := id rr
  rw [h1] at e3; cases e3
  refine ⟨200 * (t : Int) + k, p1.hit hk.1 (by rw [ix]; omega) (q.mp e), Or.inr ⟨w, rfl, by omega, by rw [ix]; exact rr⟩, Or.inr ⟨w, l, rfl, h1, rfl⟩⟩
theorem FOI.fin (h : FOI sk ln iv rv s tb i x r bs lg k) (h4 : rv tb 4 = some q4) {s5 : Nat} (h5 : rv tb 5 = some s5) (hk : k = iv s5 2 ∨ k = iv q4 2) {xb : Nat} (hx5 : rv s5 1 = some xb) : FOX sk ln iv rv s tb i x r bs := fun v a W t rb hR ht he hl hw hrb hB => by
  obtain ⟨z, ⟨y, p1, p4⟩, p2, p3⟩ := h v a W t rb hR ht he hl hw hrb hB
  obtain ⟨i1, i2⟩ := hR.ini ht he h5 hx5
  obtain ⟨_, _, q1, n1, ⟨c1, _, c3⟩, c4, _⟩ := hR.tab ht he
  rw [h4] at c1; cases c1
  refine ⟨y, ?_, by rw [← p4]; exact p2⟩
  unfold OWR
  rw [Int.toNat_natCast]
  have hk2 : k = a 10 t := by
    rcases hk with e | e
    · exact e.trans i1
    · exact e.trans c3
  rw [hk2] at p1
  exact p1
theorem FDI.init : FDI sk ln iv rv s tb i x none x (some tb) := fun v a W t hR ht h5 he hl => ⟨-1, t, by decide, Or.inl ⟨rfl, rfl⟩, el_bas he (by have := hR.b0; omega), fun _ => by rw [Int.toNat_natCast]; exact h5, (fun e => by cases e), fun y hy => by rw [cmb_0]; exact hy⟩
theorem fnd_lower (hT : TBL v a) : ∀ (m : Nat) (W : Nat → Int) (z r : Int), z < v 4 → 0 ≤ z → fnd a q n i m W z r → ∀ m2 : Nat, z < (m2 : Int) → fnd a q n i m2 W z r := by
  intro m
  induction m with
  | zero => intro W z r _ _ h; exact False.elim h
  | succ m ih =>
    intro W z r h4 h0 h m2 hle
    have ht := hT.1 z h0 h4
    have t8 : 1 ≤ a 6 z.toNat → a 6 z.toNat ≤ 3 → 0 ≤ a 8 z.toNat ∧ a 8 z.toNat < v 4 ∧ a 8 z.toNat < z := by omega
    clear ht
    cases m2 with
    | zero => omega
    | succ m2 =>
      rw [fnd_s] at h
      rw [fnd_s]
      obtain ⟨p1, p2, p3, p4⟩ := h
      refine ⟨fun k => ?_, fun k => ⟨(p2 k).1, fun c => ih _ _ _ (t8 (by omega) (by omega)).2.1 (t8 (by omega) (by omega)).1 ((p2 k).2 c) m2 (by have q := (t8 (by omega) (by omega)).2.2; omega)⟩, fun k => ?_, p4⟩
      · obtain ⟨y, z2, e1, e2, e3⟩ := p1 k
        exact ⟨y, z2, e1, ih _ _ _ (t8 (by omega) (by omega)).2.1 (t8 (by omega) (by omega)).1 e2 m2 (by have q := (t8 (by omega) (by omega)).2.2; omega), e3⟩
      · obtain ⟨y, z2, e1, e2, e3⟩ := p3 k
        exact ⟨y, z2, e1, ih _ _ _ (t8 (by omega) (by omega)).2.1 (t8 (by omega) (by omega)).1 e2 m2 (by have q := (t8 (by omega) (by omega)).2.2; omega), e3⟩
theorem fnd_ge (hT : TBL v a) : ∀ (m : Nat) (W : Nat → Int) (z r : Int), z < v 4 → 0 ≤ z → fnd a q n i m W z r → r = -1 ∨ 0 ≤ r := by
  intro m
  induction m with
  | zero => intro W z r _ _ h; exact False.elim h
  | succ m ih =>
    intro W z r h4 h0 h
    have ht := hT.1 z h0 h4
    have t8 : 1 ≤ a 6 z.toNat → a 6 z.toNat ≤ 3 → 0 ≤ a 8 z.toNat ∧ a 8 z.toNat < v 4 := by omega
    have t6 : a 6 z.toNat ≠ 1 → a 6 z.toNat ≠ 2 → a 6 z.toNat ≠ 3 → a 6 z.toNat < 1 ∨ 3 < a 6 z.toNat := by omega
    clear ht
    have ow : ∀ (W : Nat → Int) (y : Int), OWR a W q n i z y → y = -1 ∨ 0 ≤ y := fun W y ho => by
      rcases ho.rg with e | e
      · exact Or.inl e
      · exact Or.inr (by omega)
    rw [fnd_s] at h
    obtain ⟨p1, p2, p3, p4⟩ := h
    by_cases k1 : a 6 z.toNat = 1
    · obtain ⟨y, z2, e1, e2, e3⟩ := p1 k1
      rw [e3]
      exact cmb_rg (P := fun r => r = -1 ∨ 0 ≤ r) (ow _ _ e1) (ih _ _ _ (t8 (by omega) (by omega)).2 (t8 (by omega) (by omega)).1 e2)
    · by_cases k2 : a 6 z.toNat = 2
      · by_cases c : isD (W i.toNat)
        · exact ow _ _ ((p2 k2).1 c)
        · exact ih _ _ _ (t8 (by omega) (by omega)).2 (t8 (by omega) (by omega)).1 ((p2 k2).2 c)
      · by_cases k3 : a 6 z.toNat = 3
        · obtain ⟨y, z2, e1, e2, e3⟩ := p3 k3
          rw [e3]
          exact cmb_rg (P := fun r => r = -1 ∨ 0 ≤ r) (ow _ _ e1) (ih _ _ _ (t8 (by omega) (by omega)).2 (t8 (by omega) (by omega)).1 e2)
        · exact ow _ _ (p4 (t6 k1 k2 k3))
theorem FDI.get (h : FDI sk ln iv rv s tb i x bs he (some b)) {v : Nat → Int} {a : Nat → Nat → Int} {W : Nat → Int} {t : Nat} (hR : TRL sk ln iv rv v a) (ht : (t : Int) < v 4) (h5 : a 6 t ≠ 5) (hl0 : el rv (sk 22) t = some tb) (hl : LTW iv rv s W (i + 1) (iv s 11)) : ∃ (rb : Int) (t2 : Nat), -1 ≤ rb ∧ BST ln iv rv a bs rb ∧ (t2 : Int) < v 4 ∧ el rv (sk 22) t2 = some b ∧ (iv b 0 = a 6 t2 ∧ a 6 t2 ≠ 5) ∧ BASR sk rv (v 4).toNat (rv b 2) (a 8 t2) ∧ ∀ y, fnd a (iv s 10) (iv s 11) i 30 (va_up W i.toNat he) t2 y → fnd a (iv s 10) (iv s 11) i 30 (va_up W i.toNat x) t (cmb a rb y) := by
  obtain ⟨rb, t2, p1, p2, p3, p4, _, p6⟩ := h v a W t hR ht h5 hl0 hl
  obtain ⟨q1, q2, q3⟩ := p3.tb hR
  have e : ((t2.toNat : Nat) : Int) = t2 := Int.toNat_of_nonneg q1
  obtain ⟨⟨c1, _⟩, ⟨c2, _⟩, _⟩ := hR.tab (i := t2.toNat) (by omega) q3
  refine ⟨rb, t2.toNat, p1, p2, by omega, q3, ⟨c1, p4 q1⟩, c2.up (by omega), fun y hy => p6 y ?_⟩
  rw [e] at hy; exact hy
theorem FDI.plain (h : FDI sk ln iv rv s tb i x bs he (some b)) (hO : FOX sk ln iv rv s b i he bs r) (h0 : iv b 0 = 0 ∨ iv b 0 = 4) (hi : 0 ≤ i) : FDX sk ln iv rv s tb i x r := fun v a W t hR ht h5 hl0 hl => by
  obtain ⟨rb, t2, p1, p2, p3, p4, p5, _, p7⟩ := h.get hR ht h5 hl0 hl
  obtain ⟨y, o1, o2⟩ := hO v a (va_up W i.toNat he) t2 rb hR p3 p4 (hl.up hi) (va_up_self _ _ _) p1 p2
  exact ⟨_, p7 y (fnd.k0 (n := 29) (by rw [Int.toNat_natCast]; omega) o1), o2⟩
theorem FDI.num (h : FDI sk ln iv rv s tb i x bs he (some b)) (hO : FOX sk ln iv rv s b i he bs r) (h0 : iv b 0 = 2) (hd : isD he) (hi : 0 ≤ i) : FDX sk ln iv rv s tb i x r := fun v a W t hR ht h5 hl0 hl => by
  obtain ⟨rb, t2, p1, p2, p3, p4, p5, _, p7⟩ := h.get hR ht h5 hl0 hl
  obtain ⟨y, o1, o2⟩ := hO v a (va_up W i.toNat he) t2 rb hR p3 p4 (hl.up hi) (va_up_self _ _ _) p1 p2
  exact ⟨_, p7 y (fnd.k2 (n := 29) (by rw [Int.toNat_natCast]; omega) (by rw [va_up_self]; exact hd) o1), o2⟩
theorem FDI.mk (hR : TRL sk ln iv rv v a) {t2 : Nat} (p3 : (t2 : Int) < v 4) (hk : 1 ≤ a 6 t2 ∧ a 6 t2 ≤ 3) (p6 : BASR sk rv (v 4).toNat tq (a 8 t2)) : (0 ≤ a 8 t2 → a 6 (a 8 t2).toNat ≠ 5) ∧ (tq = none → False) ∧ (0 ≤ a 8 t2 ∧ a 8 t2 < v 4 ∧ a 8 t2 < ((29 : Nat) : Int)) := by
  have g := hR.2.2.1.1 t2 (by omega) p3
  rw [Int.toNat_natCast] at g
  have h30 := hR.v30
  refine ⟨fun _ => by omega, fun e => ?_, by omega⟩
  subst e
  have := p6.no hR
  omega
theorem FDI.numn (h : FDI sk ln iv rv s tb i x bs he (some b)) (h0 : iv b 0 = 2) (hd : ¬ isD he) (h2 : rv b 2 = tq) : FDI sk ln iv rv s tb i x bs he tq := fun v a W t hR ht h5 hl0 hl => by
  obtain ⟨rb, t2, p1, p2, p3, p4, p5, p6, p7⟩ := h.get hR ht h5 hl0 hl
  rw [h2] at p6
  obtain ⟨m1, m2, m3⟩ := FDI.mk hR p3 (by omega) p6
  exact ⟨rb, a 8 t2, p1, p2, p6, m1, m2, fun y hy => p7 y (fnd.k2n (n := 29) (by rw [Int.toNat_natCast]; omega) (by rw [va_up_self]; exact hd) (by rw [Int.toNat_natCast]; exact fnd_lower hR.2.2.1 30 _ _ _ m3.2.1 m3.1 hy 29 m3.2.2))⟩
theorem BST.ge (h : BST ln iv rv a r z) : -1 ≤ z := by
  rcases h with ⟨_, e⟩ | ⟨_, _, e, _⟩ <;> omega
theorem FDI.con (h : FDI sk ln iv rv s tb i x bs he (some b)) (hO : FOX sk ln iv rv s b i he bs r) (h0 : iv b 0 ≠ 0 ∧ iv b 0 ≠ 2 ∧ iv b 0 ≠ 3 ∧ iv b 0 ≠ 4) (h2 : rv b 2 = tq) (hi : 0 ≤ i) : FDI sk ln iv rv s tb i x r he tq := fun v a W t hR ht h5 hl0 hl => by
  obtain ⟨rb, t2, p1, p2, p3, p4, p5, p6, p7⟩ := h.get hR ht h5 hl0 hl
  rw [h2] at p6
  have p8 := hR.2.2.1.1 t2 (by omega) p3
  rw [Int.toNat_natCast] at p8
  obtain ⟨m1, m2, m3⟩ := FDI.mk hR p3 (by omega) p6
  obtain ⟨y, o1, o2⟩ := hO v a (va_up W i.toNat he) t2 rb hR p3 p4 (hl.up hi) (va_up_self _ _ _) p1 p2
  refine ⟨_, a 8 t2, o2.ge, o2, p6, m1, m2, fun z hz => ?_⟩
  have oy := o1.rg
  have zy : -1 ≤ z := by
    rcases fnd_ge hR.2.2.1 30 _ _ _ m3.2.1 m3.1 hz with e | e <;> omega
  rw [cmb_as p1 (by omega) zy]
  exact p7 _ (fnd.k1 (n := 29) (by rw [Int.toNat_natCast]; omega) ⟨y, z, o1, by rw [Int.toNat_natCast]; exact fnd_lower hR.2.2.1 30 _ _ _ m3.2.1 m3.1 hz 29 m3.2.2, rfl⟩)
theorem FDI.sho (h : FDI sk ln iv rv s tb i x bs he (some b)) (hO : FOX sk ln iv rv s b i y bs r) (h0 : iv b 0 = 3) (hy : y = sml he) (h2 : rv b 2 = tq) (hi : 0 ≤ i) : FDI sk ln iv rv s tb i x r y tq := fun v a W t hR ht h5 hl0 hl => by
  subst hy
  obtain ⟨rb, t2, p1, p2, p3, p4, p5, p6, p7⟩ := h.get hR ht h5 hl0 hl
  rw [h2] at p6
  obtain ⟨m1, m2, m3⟩ := FDI.mk hR p3 (by omega) p6
  obtain ⟨y, o1, o2⟩ := hO v a (va_up W i.toNat (sml he)) t2 rb hR p3 p4 (hl.up hi) (va_up_self _ _ _) p1 p2
  refine ⟨_, a 8 t2, o2.ge, o2, p6, m1, m2, fun z hz => ?_⟩
  have oy := o1.rg
  have zy : -1 ≤ z := by
    rcases fnd_ge hR.2.2.1 30 _ _ _ m3.2.1 m3.1 hz with e | e <;> omega
  rw [cmb_as p1 (by omega) zy]
  exact p7 _ (fnd.k3 (n := 29) (by rw [Int.toNat_natCast]; omega) (by rw [va_up_self, vuu]) ⟨y, z, o1, by rw [Int.toNat_natCast]; exact fnd_lower hR.2.2.1 30 _ _ _ m3.2.1 m3.1 hz 29 m3.2.2, rfl⟩)
theorem FDI.fin0 (h : FDI sk ln iv rv s tb i x bs he none) : FDX sk ln iv rv s tb i x r := fun v a W t hR ht h5 hl0 hl => by
  obtain ⟨_, _, _, _, _, _, p, _⟩ := h v a W t hR ht h5 hl0 hl
  exact (p rfl).elim
end FROW
section FRN
variable {g : Nat} {sk : Nat → Nat} {L : List Nat} {cl ln : Nat → Nat} {iv iv1 iv2 iv3 : Nat → Nat → Int} {rv : Nat → Nat → Option Nat} {v : Nat → Int} {a : Nat → Nat → Int} {W : Nat → Int} {s w tb b : Nat} {R t : Nat} {i k x y z rb he q u : Int} {r f : Option Nat} {ls : List Nat}
theorem fT.sym {rv1 : Nat → Nat → Option Nat} (h : fT ls L cl iv rv iv1 rv1) : fT ls L cl iv1 rv1 iv rv := fun b hb hc => ⟨(h b hb hc).1.symm, (h b hb hc).2.symm⟩
theorem ROWR.ni (hW : WT g sk L cl ln iv rv) (hF : fT ls L cl iv rv iv1 rv) (h1 : kpl ls = true) (tw : ty L cl w 20) (h : ROWR ln iv rv a w R) : ROWR ln iv1 rv a w R := by
  have k := kpl_no h1
  obtain ⟨e1, e2, l, c, e3, e4, e5, e6, e7, e8⟩ := h
  obtain ⟨l', q1, tl⟩ := hW.ref tw 1 rfl rfl rfl
  rw [e3] at q1; cases q1
  obtain ⟨c', q2, tc⟩ := hW.ref tw 2 rfl rfl rfl
  rw [e4] at q2; cases q2
  refine hv2 (show ty L cl l 65 from tl) (show ty L cl c 66 from tc) (fun t65 t66 => ?_)
  refine ⟨(hF.i tw k.2.1 3).trans e1, (hF.i tw k.2.1 0).trans e2, l, c, e3, e4, e5, e6, fun j hj => ?_, fun j hj => ?_⟩
  · rw [hF.i t65 k.2.2.2.1 j]; exact e7 j hj
  · rw [hF.i t66 k.2.2.2.2.1 j]; exact e8 j hj
theorem BST.ni (hW : WT g sk L cl ln iv rv) (hF : fT ls L cl iv rv iv1 rv) (h1 : kpl ls = true) (tr : ∀ b, r = some b → ty L cl b 20) (h : BST ln iv rv a r z) : BST ln iv1 rv a r z := by
  rcases h with h | ⟨w, e1, e2, e3⟩
  · exact Or.inl h
  · exact Or.inr ⟨w, e1, e2, e3.ni hW hF h1 (tr w e1)⟩
theorem LTW.ni (hW : WT g sk L cl ln iv rv) (hF : fT ls L cl iv rv iv1 rv) (hc : ls.contains 50 = false) (ts : ty L cl s 15) (h : LTW iv rv s W q u) : LTW iv1 rv s W q u := fun lb hb j h1 h2 => by
  obtain ⟨b', q1, tb'⟩ := hW.ref ts 0 rfl rfl rfl
  rw [hb] at q1; cases q1
  have t50 : ty L cl lb 50 := tb'
  rw [hF.i t50 hc j.toNat]; exact h lb hb j h1 h2
theorem TRL.ni (hW : WT g sk L cl ln iv rv) (hS : SKL sk L cl) (hF : fT ls L cl iv rv iv1 rv) (h1 : kpl ls = true) (a1 : ls.contains 22 = false) (a2 : ls.contains 1000 = false) (a3 : ls.contains 23 = false) (a4 : ls.contains 1001 = false) (h : TRL sk ln iv rv v a) : TRL sk ln iv1 rv v a := h.qq (QT.of hW hS XT.refl hF h1 a1 a2 a3 a4)
theorem FOX.ni (hW : WT g sk L cl ln iv rv) (hS : SKL sk L cl) (hW1 : WT g sk L cl ln iv1 rv) (hF : fT [55] L cl iv rv iv1 rv) (ts : ty L cl s 15) (tr : ∀ b, r = some b → ty L cl b 20) (tf : ∀ b, f = some b → ty L cl b 20) (h : FOX sk ln iv1 rv s tb i x r f) : FOX sk ln iv rv s tb i x r f := fun v a W t rb hR ht he hl hw hrb hB => by
  refine hv2 (hF.i ts rfl 10) (hF.i ts rfl 11) (fun e10 e11 => ?_)
  obtain ⟨y, p1, p2⟩ := h v a W t rb (hR.ni hW hS hF rfl rfl rfl rfl rfl) ht he (by rw [e11]; exact hl.ni hW hF rfl ts) hw hrb (hB.ni hW hF rfl tr)
  rw [e10, e11] at p1
  exact ⟨y, p1, p2.ni hW1 hF.sym rfl tf⟩
end FRN
end
