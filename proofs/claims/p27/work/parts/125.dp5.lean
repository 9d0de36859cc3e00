section
set_option maxHeartbeats 4000000 in
set_option maxRecDepth 100000 in
theorem C_letter {l : Launch} {G : GT} {mi : Nat} {sk : Nat → Nat} {L : List Nat} {cl ln : Nat → Nat} {iv : Nat → Nat → Int} {rv : Nat → Nat → Option Nat}  {a0 : Nat} {i : Int} (hW : WT (g0 G) sk L cl ln iv rv) (hS : SKL sk L cl) (t_a0 : ty L cl a0 1) (h_i : -2147483648 ≤ i ∧ i ≤ 2147483647)  : Mc l G mi (Phi (g0 G) sk) PHM yX11_letter cX11_letter 2 (some .int) 1 [.ref a0, .int (iI i)] L cl ln iv rv 0 (fun v L2 cl2 ln2 iv2 rv2 => ∃ f : Int, v = some (.int (iI f)) ∧ L = L2 ∧ cl = cl2 ∧ ln = ln2 ∧ rv = rv2 ∧ fT [1] L cl iv rv iv2 rv2 ∧ WT (g0 G) sk L2 cl2 ln2 iv2 rv2 ∧ (-2147483648 ≤ f ∧ f ≤ 2147483647) ∧ (True) ∧ iv2 a0 11 = iv a0 11 ∧ iv2 a0 12 = iv a0 12 ∧ iv2 a0 13 = iv a0 13 ∧ iv2 a0 14 = iv a0 14 ∧ iv2 a0 15 = iv a0 15 ∧ iv2 a0 16 = iv a0 16) := by
  refine Mc.mk (by decide) (Nat.le_of_ble_eq_true rfl) ?_
  intro p e s m args below meth c A C hM
  refine hv21 (Phi.le hW hS) (show ty L cl (sk 2) 2 from ⟨(hS 2 rfl).1, by rw [(hS 2 rfl).2]; rfl⟩) (show ty L cl (sk 3) 3 from ⟨(hS 3 rfl).1, by rw [(hS 3 rfl).2]; rfl⟩) (show ty L cl (sk 4) 4 from ⟨(hS 4 rfl).1, by rw [(hS 4 rfl).2]; rfl⟩) (show ty L cl (sk 5) 5 from ⟨(hS 5 rfl).1, by rw [(hS 5 rfl).2]; rfl⟩) (show ty L cl (sk 6) 6 from ⟨(hS 6 rfl).1, by rw [(hS 6 rfl).2]; rfl⟩) (show ty L cl (sk 7) 7 from ⟨(hS 7 rfl).1, by rw [(hS 7 rfl).2]; rfl⟩) (show ty L cl (sk 8) 8 from ⟨(hS 8 rfl).1, by rw [(hS 8 rfl).2]; rfl⟩) (show ty L cl (sk 9) 9 from ⟨(hS 9 rfl).1, by rw [(hS 9 rfl).2]; rfl⟩) (show ty L cl (sk 10) 10 from ⟨(hS 10 rfl).1, by rw [(hS 10 rfl).2]; rfl⟩) (show ty L cl (sk 13) 13 from ⟨(hS 13 rfl).1, by rw [(hS 13 rfl).2]; rfl⟩) (show ty L cl (sk 14) 14 from ⟨(hS 14 rfl).1, by rw [(hS 14 rfl).2]; rfl⟩) (show ty L cl (sk 15) 15 from ⟨(hS 15 rfl).1, by rw [(hS 15 rfl).2]; rfl⟩) (show ty L cl (sk 16) 16 from ⟨(hS 16 rfl).1, by rw [(hS 16 rfl).2]; rfl⟩) (show ty L cl (sk 17) 17 from ⟨(hS 17 rfl).1, by rw [(hS 17 rfl).2]; rfl⟩) (show ty L cl (sk 22) 22 from ⟨(hS 22 rfl).1, by rw [(hS 22 rfl).2]; rfl⟩) (show ty L cl (sk 23) 23 from ⟨(hS 23 rfl).1, by rw [(hS 23 rfl).2]; rfl⟩) (show ty L cl (sk 24) 24 from ⟨(hS 24 rfl).1, by rw [(hS 24 rfl).2]; rfl⟩) (show ty L cl (sk 25) 25 from ⟨(hS 25 rfl).1, by rw [(hS 25 rfl).2]; rfl⟩) (show XT L cl ln L cl ln from XT.refl) (show fT [1] L cl iv rv iv rv from fT.refl) (fun hph tsk2 tsk3 tsk4 tsk5 tsk6 tsk7 tsk8 tsk9 tsk10 tsk13 tsk14 tsk15 tsk16 tsk17 tsk22 tsk23 tsk24 tsk25 hX0 hF0 => ?_)
  refine c_iload_n (j := 1) C dX11_letter_0 rfl ?_
  refine c_if_lt (tgt := 15) C ⟨by omega, by omega⟩ dX11_letter_1 (by decide) (fun c1 => ?_) (fun c1 => ?_)
  · refine c_aload_n (j := 0) (x := a0) C dX11_letter_15 rfl ?_
    refine c_iconst C dX11_letter_16 ?_
    refine d_callV (As := [.int (iI 2)]) (rest := []) C hM (C_refuse (a0 := a0) (x := 2) hW hS t_a0 ⟨by decide, by decide⟩ ) dX11_letter_17 kV_X11_102 rfl t_a0 rfl rfl (by decide) ck_12 rfl (Nat.le_of_ble_eq_true rfl) ⟨(Nat.le_of_ble_eq_true rfl), (Nat.le_of_ble_eq_true rfl)⟩ hph hph (show 0 + 0 = 0 from rfl) (by decide) (fun rh1 Lh1 clh1 lnh1 ivh1 rvh1 h1 => ?_)
    obtain ⟨f1, rfl, rfl, rfl, rfl, rfl, fl1, W1, rgf1, exf1, kp11f1, kp12f1, kp13f1, kp14f1, kp15f1, kp16f1⟩ := h1
    refine hv7 (show 1 ≤ iv a0 11 ∧ iv a0 11 ≤ 100 from hW.int t_a0 11) (show 1 ≤ iv a0 12 ∧ iv a0 12 ≤ 50 from hW.int t_a0 12) (show (-2147483648) ≤ iv a0 13 ∧ iv a0 13 ≤ 2147483647 from hW.int t_a0 13) (show (-2147483648) ≤ iv a0 14 ∧ iv a0 14 ≤ 2147483647 from hW.int t_a0 14) (show (-2147483648) ≤ iv a0 15 ∧ iv a0 15 ≤ 2147483647 from hW.int t_a0 15) (show (-2147483648) ≤ iv a0 16 ∧ iv a0 16 ≤ 2147483647 from hW.int t_a0 16) (hF0.call hX0 fl1 rfl) (fun ri1 ri2 ri3 ri4 ri5 ri6 F1 => ?_)
    refine c_st (st2 := [.int (iI f1)]) rfl ?_
    refine hv7 (show ivh1 a0 11 = iv a0 11 from kp11f1) (show ivh1 a0 12 = iv a0 12 from kp12f1) (show ivh1 a0 13 = iv a0 13 from kp13f1) (show ivh1 a0 14 = iv a0 14 from kp14f1) (show ivh1 a0 15 = iv a0 15 from kp15f1) (show ivh1 a0 16 = iv a0 16 from kp16f1) (show f1 = -1 from exf1) (fun gk11f1 gk12f1 gk13f1 gk14f1 gk15f1 gk16f1 gf1 => ?_)
    refine c_goto (tgt := 35) C dX11_letter_20 (by decide) ?_
    refine hv6 (show 1 ≤ ivh1 a0 11 ∧ ivh1 a0 11 ≤ 100 from W1.int t_a0 11) (show 1 ≤ ivh1 a0 12 ∧ ivh1 a0 12 ≤ 50 from W1.int t_a0 12) (show (-2147483648) ≤ ivh1 a0 13 ∧ ivh1 a0 13 ≤ 2147483647 from W1.int t_a0 13) (show (-2147483648) ≤ ivh1 a0 14 ∧ ivh1 a0 14 ≤ 2147483647 from W1.int t_a0 14) (show (-2147483648) ≤ ivh1 a0 15 ∧ ivh1 a0 15 ≤ 2147483647 from W1.int t_a0 15) (show (-2147483648) ≤ ivh1 a0 16 ∧ ivh1 a0 16 ≤ 2147483647 from W1.int t_a0 16) (fun ri7 ri8 ri9 ri10 ri11 ri12 => ?_)
    exact c_iret C dX11_letter_35 rfl (by decide) (rom0 hph hph (by decide)) ⟨f1, rfl, rfl, rfl, rfl, rfl, F1, W1, ⟨by omega, by omega⟩, trivial, gk11f1, gk12f1, gk13f1, gk14f1, gk15f1, gk16f1⟩
  · refine c_iload_n (j := 1) C dX11_letter_4 rfl ?_
    refine c_aload_n (j := 0) (x := a0) C dX11_letter_5 rfl ?_
    obtain ⟨rb1, rq1, trb1⟩ := hW.ref t_a0 2 rfl rfl rfl
    have erb1 := hW.sk trb1 (by decide) rfl
    subst erb1
    refine c_getr (k := 2) C ck_12 dX11_letter_6 w2_46 (by decide) t_a0 rfl rfl (by decide) rfl rq1 ?_
    refine c_st (st2 := [.ref (sk 4), .int (iI i)]) rfl ?_
    have ri13 : 0 ≤ iv (sk 4) 2 ∧ iv (sk 4) 2 ≤ 4000 := hW.int tsk4 2
    refine c_get (k := 2) C ck_2 dX11_letter_9 w1_44 (by decide) tsk4 rfl rfl (by decide) rfl ?_
    refine c_icmp_lt (tgt := 23) C ⟨by omega, by omega⟩ (r32_c (lo := 0) (hi := 4000) ri13.1 ri13.2 (by decide) (by decide)) dX11_letter_12 (by decide) (fun c2 => ?_) (fun c2 => ?_)
    · refine c_aload_n (j := 0) (x := a0) C dX11_letter_23 rfl ?_
      refine c_aload_n (j := 0) (x := a0) C dX11_letter_24 rfl ?_
      refine c_getr (k := 2) C ck_12 dX11_letter_25 w2_46 (by decide) t_a0 rfl rfl (by decide) rfl rq1 ?_
      refine c_st (st2 := [.ref (sk 4), .ref a0]) rfl ?_
      refine c_iload_n (j := 1) C dX11_letter_28 rfl ?_
      refine d_callV (As := [.int (iI i)]) (rest := [.ref a0]) C hM (C_at_4 (a0 := (sk 4)) (i := i) hW hS tsk4 (by omega) ) dX11_letter_29 kV_X11_224 rfl tsk4 rfl rfl (by decide) ck_2 rfl (Nat.le_of_ble_eq_true rfl) ⟨(Nat.le_of_ble_eq_true rfl), (Nat.le_of_ble_eq_true rfl)⟩ hph hph (show 0 + 0 = 0 from rfl) (by decide) (fun rh2 Lh2 clh2 lnh2 ivh2 rvh2 h2 => ?_)
      obtain ⟨f2, rfl, rfl, rfl, rfl, rfl, rfl, rgf2, exf2⟩ := h2
      refine c_st (st2 := [.int (iI f2), .ref a0]) rfl ?_
      have gf2 : ((0 ≤ i ∧ i < iv (sk 4) 2) ∨ f2 = 0) ∧ ∀ ss, CT iv rv (sk 4) ss → 0 ≤ i → i < iv (sk 4) 2 → f2 = ss i.toNat := exf2
      refine d_callV (As := [.int (iI f2)]) (rest := []) C hM (C_done (a0 := a0) (x := f2) hW hS t_a0 (by omega) ) dX11_letter_32 kV_X11_109 rfl t_a0 rfl rfl (by decide) ck_12 rfl (Nat.le_of_ble_eq_true rfl) ⟨(Nat.le_of_ble_eq_true rfl), (Nat.le_of_ble_eq_true rfl)⟩ hph hph (show 0 + 0 = 0 from rfl) (by decide) (fun rh3 Lh3 clh3 lnh3 ivh3 rvh3 h3 => ?_)
      obtain ⟨f3, rfl, rfl, rfl, rfl, rfl, fl3, W3, rgf3, exf3, kp11f3, kp12f3, kp13f3, kp14f3, kp15f3, kp16f3⟩ := h3
      refine hv7 (show 1 ≤ iv a0 11 ∧ iv a0 11 ≤ 100 from hW.int t_a0 11) (show 1 ≤ iv a0 12 ∧ iv a0 12 ≤ 50 from hW.int t_a0 12) (show (-2147483648) ≤ iv a0 13 ∧ iv a0 13 ≤ 2147483647 from hW.int t_a0 13) (show (-2147483648) ≤ iv a0 14 ∧ iv a0 14 ≤ 2147483647 from hW.int t_a0 14) (show (-2147483648) ≤ iv a0 15 ∧ iv a0 15 ≤ 2147483647 from hW.int t_a0 15) (show (-2147483648) ≤ iv a0 16 ∧ iv a0 16 ≤ 2147483647 from hW.int t_a0 16) (hF0.call hX0 fl3 rfl) (fun ri14 ri15 ri16 ri17 ri18 ri19 F2 => ?_)
      refine c_st (st2 := [.int (iI f3)]) rfl ?_
      refine hv13 (show ivh3 a0 11 = iv a0 11 from kp11f3) (show ivh3 a0 12 = iv a0 12 from kp12f3) (show ivh3 a0 13 = iv a0 13 from kp13f3) (show ivh3 a0 14 = iv a0 14 from kp14f3) (show ivh3 a0 15 = iv a0 15 from kp15f3) (show ivh3 a0 16 = iv a0 16 from kp16f3) (show f3 = f2 from exf3) (show 1 ≤ ivh3 a0 11 ∧ ivh3 a0 11 ≤ 100 from W3.int t_a0 11) (show 1 ≤ ivh3 a0 12 ∧ ivh3 a0 12 ≤ 50 from W3.int t_a0 12) (show (-2147483648) ≤ ivh3 a0 13 ∧ ivh3 a0 13 ≤ 2147483647 from W3.int t_a0 13) (show (-2147483648) ≤ ivh3 a0 14 ∧ ivh3 a0 14 ≤ 2147483647 from W3.int t_a0 14) (show (-2147483648) ≤ ivh3 a0 15 ∧ ivh3 a0 15 ≤ 2147483647 from W3.int t_a0 15) (show (-2147483648) ≤ ivh3 a0 16 ∧ ivh3 a0 16 ≤ 2147483647 from W3.int t_a0 16) (fun gk11f3 gk12f3 gk13f3 gk14f3 gk15f3 gk16f3 gf3 ri20 ri21 ri22 ri23 ri24 ri25 => ?_)
      exact c_iret C dX11_letter_35 rfl (by decide) (rom0 hph hph (by decide)) ⟨f3, rfl, rfl, rfl, rfl, rfl, F2, W3, ⟨by omega, by omega⟩, trivial, gk11f3, gk12f3, gk13f3, gk14f3, gk15f3, gk16f3⟩
    · refine c_aload_n (j := 0) (x := a0) C dX11_letter_15 rfl ?_
      refine c_iconst C dX11_letter_16 ?_
      refine d_callV (As := [.int (iI 2)]) (rest := []) C hM (C_refuse (a0 := a0) (x := 2) hW hS t_a0 ⟨by decide, by decide⟩ ) dX11_letter_17 kV_X11_102 rfl t_a0 rfl rfl (by decide) ck_12 rfl (Nat.le_of_ble_eq_true rfl) ⟨(Nat.le_of_ble_eq_true rfl), (Nat.le_of_ble_eq_true rfl)⟩ hph hph (show 0 + 0 = 0 from rfl) (by decide) (fun rh4 Lh4 clh4 lnh4 ivh4 rvh4 h4 => ?_)
      obtain ⟨f4, rfl, rfl, rfl, rfl, rfl, fl4, W4, rgf4, exf4, kp11f4, kp12f4, kp13f4, kp14f4, kp15f4, kp16f4⟩ := h4
      refine hv7 (show 1 ≤ iv a0 11 ∧ iv a0 11 ≤ 100 from hW.int t_a0 11) (show 1 ≤ iv a0 12 ∧ iv a0 12 ≤ 50 from hW.int t_a0 12) (show (-2147483648) ≤ iv a0 13 ∧ iv a0 13 ≤ 2147483647 from hW.int t_a0 13) (show (-2147483648) ≤ iv a0 14 ∧ iv a0 14 ≤ 2147483647 from hW.int t_a0 14) (show (-2147483648) ≤ iv a0 15 ∧ iv a0 15 ≤ 2147483647 from hW.int t_a0 15) (show (-2147483648) ≤ iv a0 16 ∧ iv a0 16 ≤ 2147483647 from hW.int t_a0 16) (hF0.call hX0 fl4 rfl) (fun ri26 ri27 ri28 ri29 ri30 ri31 F3 => ?_)
      refine c_st (st2 := [.int (iI f4)]) rfl ?_
      refine hv7 (show ivh4 a0 11 = iv a0 11 from kp11f4) (show ivh4 a0 12 = iv a0 12 from kp12f4) (show ivh4 a0 13 = iv a0 13 from kp13f4) (show ivh4 a0 14 = iv a0 14 from kp14f4) (show ivh4 a0 15 = iv a0 15 from kp15f4) (show ivh4 a0 16 = iv a0 16 from kp16f4) (show f4 = -1 from exf4) (fun gk11f4 gk12f4 gk13f4 gk14f4 gk15f4 gk16f4 gf4 => ?_)
      refine c_goto (tgt := 35) C dX11_letter_20 (by decide) ?_
      refine hv6 (show 1 ≤ ivh4 a0 11 ∧ ivh4 a0 11 ≤ 100 from W4.int t_a0 11) (show 1 ≤ ivh4 a0 12 ∧ ivh4 a0 12 ≤ 50 from W4.int t_a0 12) (show (-2147483648) ≤ ivh4 a0 13 ∧ ivh4 a0 13 ≤ 2147483647 from W4.int t_a0 13) (show (-2147483648) ≤ ivh4 a0 14 ∧ ivh4 a0 14 ≤ 2147483647 from W4.int t_a0 14) (show (-2147483648) ≤ ivh4 a0 15 ∧ ivh4 a0 15 ≤ 2147483647 from W4.int t_a0 15) (show (-2147483648) ≤ ivh4 a0 16 ∧ ivh4 a0 16 ≤ 2147483647 from W4.int t_a0 16) (fun ri32 ri33 ri34 ri35 ri36 ri37 => ?_)
      exact c_iret C dX11_letter_35 rfl (by decide) (rom0 hph hph (by decide)) ⟨f4, rfl, rfl, rfl, rfl, rfl, F3, W4, ⟨by omega, by omega⟩, trivial, gk11f4, gk12f4, gk13f4, gk14f4, gk15f4, gk16f4⟩
set_option maxHeartbeats 4000000 in
set_option maxRecDepth 100000 in
theorem C_more {l : Launch} {G : GT} {mi : Nat} {sk : Nat → Nat} {L : List Nat} {cl ln : Nat → Nat} {iv : Nat → Nat → Int} {rv : Nat → Nat → Option Nat}  {a0 : Nat} (hW : WT (g0 G) sk L cl ln iv rv) (hS : SKL sk L cl) (t_a0 : ty L cl a0 1)  : Mc l G mi (Phi (g0 G) sk) PHM yX11_more cX11_more 1 (some .int) 0 [.ref a0] L cl ln iv rv 0 (fun v L2 cl2 ln2 iv2 rv2 => ∃ f : Int, v = some (.int (iI f)) ∧ L = L2 ∧ cl = cl2 ∧ ln = ln2 ∧ iv = iv2 ∧ rv = rv2 ∧ (-2147483648 ≤ f ∧ f ≤ 2147483647) ∧ (True)) := by
  refine Mc.mk (by decide) (Nat.le_of_ble_eq_true rfl) ?_
  intro p e s m args below meth c A C hM
  refine hv21 (Phi.le hW hS) (show ty L cl (sk 2) 2 from ⟨(hS 2 rfl).1, by rw [(hS 2 rfl).2]; rfl⟩) (show ty L cl (sk 3) 3 from ⟨(hS 3 rfl).1, by rw [(hS 3 rfl).2]; rfl⟩) (show ty L cl (sk 4) 4 from ⟨(hS 4 rfl).1, by rw [(hS 4 rfl).2]; rfl⟩) (show ty L cl (sk 5) 5 from ⟨(hS 5 rfl).1, by rw [(hS 5 rfl).2]; rfl⟩) (show ty L cl (sk 6) 6 from ⟨(hS 6 rfl).1, by rw [(hS 6 rfl).2]; rfl⟩) (show ty L cl (sk 7) 7 from ⟨(hS 7 rfl).1, by rw [(hS 7 rfl).2]; rfl⟩) (show ty L cl (sk 8) 8 from ⟨(hS 8 rfl).1, by rw [(hS 8 rfl).2]; rfl⟩) (show ty L cl (sk 9) 9 from ⟨(hS 9 rfl).1, by rw [(hS 9 rfl).2]; rfl⟩) (show ty L cl (sk 10) 10 from ⟨(hS 10 rfl).1, by rw [(hS 10 rfl).2]; rfl⟩) (show ty L cl (sk 13) 13 from ⟨(hS 13 rfl).1, by rw [(hS 13 rfl).2]; rfl⟩) (show ty L cl (sk 14) 14 from ⟨(hS 14 rfl).1, by rw [(hS 14 rfl).2]; rfl⟩) (show ty L cl (sk 15) 15 from ⟨(hS 15 rfl).1, by rw [(hS 15 rfl).2]; rfl⟩) (show ty L cl (sk 16) 16 from ⟨(hS 16 rfl).1, by rw [(hS 16 rfl).2]; rfl⟩) (show ty L cl (sk 17) 17 from ⟨(hS 17 rfl).1, by rw [(hS 17 rfl).2]; rfl⟩) (show ty L cl (sk 22) 22 from ⟨(hS 22 rfl).1, by rw [(hS 22 rfl).2]; rfl⟩) (show ty L cl (sk 23) 23 from ⟨(hS 23 rfl).1, by rw [(hS 23 rfl).2]; rfl⟩) (show ty L cl (sk 24) 24 from ⟨(hS 24 rfl).1, by rw [(hS 24 rfl).2]; rfl⟩) (show ty L cl (sk 25) 25 from ⟨(hS 25 rfl).1, by rw [(hS 25 rfl).2]; rfl⟩) (show XT L cl ln L cl ln from XT.refl) (show fT [] L cl iv rv iv rv from fT.refl) (fun hph tsk2 tsk3 tsk4 tsk5 tsk6 tsk7 tsk8 tsk9 tsk10 tsk13 tsk14 tsk15 tsk16 tsk17 tsk22 tsk23 tsk24 tsk25 hX0 hF0 => ?_)
  refine c_aload_n (j := 0) (x := a0) C dX11_more_0 rfl ?_
  obtain ⟨rb1, rq1, trb1⟩ := hW.ref t_a0 8 rfl rfl rfl
  have erb1 := hW.sk trb1 (by decide) rfl
  subst erb1
  refine c_getr (k := 8) C ck_12 dX11_more_1 w2_52 (by decide) t_a0 rfl rfl (by decide) rfl rq1 ?_
  refine c_st (st2 := [.ref (sk 17)]) rfl ?_
  have ri1 : 0 ≤ iv (sk 17) 6 ∧ iv (sk 17) 6 ≤ 1 := hW.int tsk17 6
  refine c_get (k := 6) C ck_5 dX11_more_4 w1_237 (by decide) tsk17 rfl rfl (by decide) rfl ?_
  refine c_if_eq (tgt := 14) C (r32_c (lo := 0) (hi := 1) ri1.1 ri1.2 (by decide) (by decide)) dX11_more_7 (by decide) (fun c1 => ?_) (fun c1 => ?_)
  · refine c_iconst C dX11_more_14 ?_
    exact c_iret C dX11_more_15 rfl (by decide) (rom0 hph hph (by decide)) ⟨0, rfl, rfl, rfl, rfl, rfl, rfl, ⟨by decide, by decide⟩, trivial⟩
  · refine c_iconst C dX11_more_10 ?_
    refine c_goto (tgt := 15) C dX11_more_11 (by decide) ?_
    exact c_iret C dX11_more_15 rfl (by decide) (rom0 hph hph (by decide)) ⟨1, rfl, rfl, rfl, rfl, rfl, rfl, ⟨by decide, by decide⟩, trivial⟩
set_option maxHeartbeats 4000000 in
set_option maxRecDepth 100000 in
theorem C_judge {l : Launch} {G : GT} {mi : Nat} {sk : Nat → Nat} {L : List Nat} {cl ln : Nat → Nat} {iv : Nat → Nat → Int} {rv : Nat → Nat → Option Nat}  {a0 : Nat} {i : Int} (hW : WT (g0 G) sk L cl ln iv rv) (hS : SKL sk L cl) (t_a0 : ty L cl a0 1) (h_i : -2147483648 ≤ i ∧ i ≤ 2147483647) (hmr : MRK sk cl iv rv) : Mc l G mi (Phi (g0 G) sk) PHM yX11_judge cX11_judge 4 (some .int) 10 [.ref a0, .int (iI i)] L cl ln iv rv 0 (fun v L2 cl2 ln2 iv2 rv2 => ∃ f : Int, v = some (.int (iI f)) ∧ XT L cl ln L2 cl2 ln2 ∧ fT [1, 24, 1002, 25, 1003, 6, 36, 7, 37] L cl iv rv iv2 rv2 ∧ WT (g0 G) sk L2 cl2 ln2 iv2 rv2 ∧ (-2147483648 ≤ f ∧ f ≤ 2147483647) ∧ (True) ∧ iv2 a0 11 = iv a0 11 ∧ iv2 a0 12 = iv a0 12 ∧ iv2 a0 13 = iv a0 13 ∧ iv2 a0 14 = iv a0 14 ∧ iv2 a0 15 = iv a0 15 ∧ iv2 a0 16 = iv a0 16 ∧ rv2 a0 9 = rv a0 9 ∧ rv2 a0 10 = rv a0 10) := by
  refine Mc.mk (by decide) (Nat.le_of_ble_eq_true rfl) ?_
  intro p e s m args below meth c A C hM
  refine hv21 (Phi.le hW hS) (show ty L cl (sk 2) 2 from ⟨(hS 2 rfl).1, by rw [(hS 2 rfl).2]; rfl⟩) (show ty L cl (sk 3) 3 from ⟨(hS 3 rfl).1, by rw [(hS 3 rfl).2]; rfl⟩) (show ty L cl (sk 4) 4 from ⟨(hS 4 rfl).1, by rw [(hS 4 rfl).2]; rfl⟩) (show ty L cl (sk 5) 5 from ⟨(hS 5 rfl).1, by rw [(hS 5 rfl).2]; rfl⟩) (show ty L cl (sk 6) 6 from ⟨(hS 6 rfl).1, by rw [(hS 6 rfl).2]; rfl⟩) (show ty L cl (sk 7) 7 from ⟨(hS 7 rfl).1, by rw [(hS 7 rfl).2]; rfl⟩) (show ty L cl (sk 8) 8 from ⟨(hS 8 rfl).1, by rw [(hS 8 rfl).2]; rfl⟩) (show ty L cl (sk 9) 9 from ⟨(hS 9 rfl).1, by rw [(hS 9 rfl).2]; rfl⟩) (show ty L cl (sk 10) 10 from ⟨(hS 10 rfl).1, by rw [(hS 10 rfl).2]; rfl⟩) (show ty L cl (sk 13) 13 from ⟨(hS 13 rfl).1, by rw [(hS 13 rfl).2]; rfl⟩) (show ty L cl (sk 14) 14 from ⟨(hS 14 rfl).1, by rw [(hS 14 rfl).2]; rfl⟩) (show ty L cl (sk 15) 15 from ⟨(hS 15 rfl).1, by rw [(hS 15 rfl).2]; rfl⟩) (show ty L cl (sk 16) 16 from ⟨(hS 16 rfl).1, by rw [(hS 16 rfl).2]; rfl⟩) (show ty L cl (sk 17) 17 from ⟨(hS 17 rfl).1, by rw [(hS 17 rfl).2]; rfl⟩) (show ty L cl (sk 22) 22 from ⟨(hS 22 rfl).1, by rw [(hS 22 rfl).2]; rfl⟩) (show ty L cl (sk 23) 23 from ⟨(hS 23 rfl).1, by rw [(hS 23 rfl).2]; rfl⟩) (show ty L cl (sk 24) 24 from ⟨(hS 24 rfl).1, by rw [(hS 24 rfl).2]; rfl⟩) (show ty L cl (sk 25) 25 from ⟨(hS 25 rfl).1, by rw [(hS 25 rfl).2]; rfl⟩) (show XT L cl ln L cl ln from XT.refl) (show fT [1, 24, 1002, 25, 1003, 6, 36, 7, 37] L cl iv rv iv rv from fT.refl) (fun hph tsk2 tsk3 tsk4 tsk5 tsk6 tsk7 tsk8 tsk9 tsk10 tsk13 tsk14 tsk15 tsk16 tsk17 tsk22 tsk23 tsk24 tsk25 hX0 hF0 => ?_)
  refine c_aload_n (j := 0) (x := a0) C dX11_judge_0 rfl ?_
  obtain ⟨rb1, rq1, trb1⟩ := hW.ref t_a0 4 rfl rfl rfl
  have erb1 := hW.sk trb1 (by decide) rfl
  subst erb1
  refine c_getr (k := 4) C ck_12 dX11_judge_1 w2_48 (by decide) t_a0 rfl rfl (by decide) rfl rq1 ?_
  refine c_st (st2 := [.ref (sk 13)]) rfl ?_
  refine c_iload_n (j := 1) C dX11_judge_4 rfl ?_
  have ri1 : 0 ≤ iv (sk 22) 2 ∧ iv (sk 22) 2 ≤ 30 := hW.int tsk22 2
  refine d_callV (As := [.int (iI i)]) (rest := []) C hM (C_alive (a0 := (sk 13)) (i := i) hW hS tsk13 (by omega) hmr) dX11_judge_5 kV_X11_131 rfl tsk13 rfl rfl (by decide) ck_11 rfl (Nat.le_of_ble_eq_true rfl) ⟨(Nat.le_of_ble_eq_true rfl), (Nat.le_of_ble_eq_true rfl)⟩ hph hph (show 0 + 0 = 0 from rfl) (by decide) (fun rh1 Lh1 clh1 lnh1 ivh1 rvh1 h1 => ?_)
  obtain ⟨f1, rfl, rfl, rfl, rfl, rfl, rfl, rgf1, exf1⟩ := h1
  refine c_st (st2 := [(va_rf f1)]) rfl ?_
  have gf1 : (∀ b, f1 = some b → ((cl b : Nat) : Int) < 100 + iv (sk 22) 2 ∧ ALV sk iv rv i b) ∧ (f1 = none → ∀ b, ¬ ALV sk iv rv i b) := exf1
  refine c_astorer_n (r := f1) (lv2 := [(2, (va_rf f1)), (0, .ref a0), (1, .int (iI i))]) C dX11_judge_8 (by decide) rfl ?_
  refine c_aloadr_n (j := 0) (r := f1) C dX11_judge_9 rfl ?_
  refine c_ifnonnull (r := f1) (tgt := 19) C dX11_judge_10 (by decide) (fun ob1 oq1 => ?_) (fun oq1 => ?_)
  · subst oq1
    have tob1 := rgf1 ob1 rfl
    refine c_lv (lv2 := [(2, .ref ob1), (0, .ref a0), (1, .int (iI i))]) [0, 1, 2] rfl ?_
    refine c_st (st2 := []) rfl ?_
    refine c_aload_n (j := 0) (x := ob1) C dX11_judge_19 rfl ?_
    have ri2 : (-2147483648) ≤ iv ob1 0 ∧ iv ob1 0 ≤ 2147483647 := hW.int tob1 0
    refine c_get (k := 0) C ck_10 dX11_judge_20 w2_176 (by decide) tob1 rfl rfl (by decide) rfl ?_
    refine c_iconst C dX11_judge_23 ?_
    refine c_icmp_ne (tgt := 33) C (r32_c (lo := (-2147483648)) (hi := 2147483647) ri2.1 ri2.2 (by decide) (by decide)) ⟨by decide, by decide⟩ dX11_judge_24 (by decide) (fun c1 => ?_) (fun c1 => ?_)
    · refine c_aload_n (j := 1) (x := a0) C dX11_judge_33 rfl ?_
      refine c_getr (k := 4) C ck_12 dX11_judge_34 w2_48 (by decide) t_a0 rfl rfl (by decide) rfl rq1 ?_
      refine c_st (st2 := [.ref (sk 13)]) rfl ?_
      refine c_iload_n (j := 2) C dX11_judge_37 rfl ?_
      refine d_callV (As := [.int (iI i)]) (rest := []) C hM (C_whole (a0 := (sk 13)) (i := i) hW hS tsk13 (by omega) hmr) dX11_judge_38 kV_X11_231 rfl tsk13 rfl rfl (by decide) ck_11 rfl (Nat.le_of_ble_eq_true rfl) ⟨(Nat.le_of_ble_eq_true rfl), (Nat.le_of_ble_eq_true rfl)⟩ hph hph (show 0 + 0 = 0 from rfl) (by decide) (fun rh2 Lh2 clh2 lnh2 ivh2 rvh2 h2 => ?_)
      obtain ⟨f2, rfl, rfl, rfl, rfl, rfl, rfl, rgf2, exf2⟩ := h2
      refine c_st (st2 := [(va_rf f2)]) rfl ?_
      refine c_ifnonnull (r := f2) (tgt := 50) C dX11_judge_41 (by decide) (fun ob2 oq2 => ?_) (fun oq2 => ?_)
      · subst oq2
        have tob2 := rgf2 ob2 rfl
        refine c_lv (lv2 := [(2, .ref ob1), (0, .ref a0), (1, .int (iI i))]) [0, 1, 2] rfl ?_
        refine c_st (st2 := []) rfl ?_
        refine c_aload_n (j := 0) (x := ob1) C dX11_judge_50 rfl ?_
        refine d_callV (As := []) (rest := []) C hM (C_hasShort (a0 := ob1) hW hS tob1  ) dX11_judge_51 kV_X11_367 rfl tob1 rfl rfl (by decide) ck_10 rfl (Nat.le_of_ble_eq_true rfl) ⟨(Nat.le_of_ble_eq_true rfl), (Nat.le_of_ble_eq_true rfl)⟩ hph hph (show 0 + 0 = 0 from rfl) (by decide) (fun rh3 Lh3 clh3 lnh3 ivh3 rvh3 h3 => ?_)
        obtain ⟨f3, rfl, rfl, rfl, rfl, rfl, rfl, rgf3, exf3⟩ := h3
        refine c_st (st2 := [.int (iI f3)]) rfl ?_
        refine c_if_eq (tgt := 63) C ⟨by omega, by omega⟩ dX11_judge_54 (by decide) (fun c2 => ?_) (fun c2 => ?_)
        · refine c_aload_n (j := 1) (x := a0) C dX11_judge_63 rfl ?_
          obtain ⟨rb2, rq2, trb2⟩ := hW.ref t_a0 7 rfl rfl rfl
          have erb2 := hW.sk trb2 (by decide) rfl
          subst erb2
          refine c_getr (k := 7) C ck_12 dX11_judge_64 w2_51 (by decide) t_a0 rfl rfl (by decide) rfl rq2 ?_
          refine c_st (st2 := [.ref (sk 16)]) rfl ?_
          refine c_aload_n (j := 0) (x := ob1) C dX11_judge_67 rfl ?_
          refine d_callV (As := [.ref ob1]) (rest := []) C hM (C_gather (a0 := (sk 16)) (a1 := ob1) hW hS tsk16 tob1  ) dX11_judge_68 kV_X11_331 rfl tsk16 rfl rfl (by decide) ck_4 rfl (Nat.le_of_ble_eq_true rfl) ⟨(Nat.le_of_ble_eq_true rfl), (Nat.le_of_ble_eq_true rfl)⟩ hph hph (show 0 + 0 = 0 from rfl) (by decide) (fun rh4 Lh4 clh4 lnh4 ivh4 rvh4 h4 => ?_)
          obtain ⟨rfl, xl4, fl4, W4, exf4⟩ := h4
          refine hv4 (hF0.call hX0 fl4 rfl) (MRK.call hmr hW hS xl4 fl4 rfl rfl) (hX0.trans xl4) (xl4.skl hS) (fun F1 mr1 X1 sk1 => ?_)
          refine c_st (st2 := []) rfl ?_
          refine c_aload_n (j := 1) (x := a0) C dX11_judge_71 rfl ?_
          refine hv2 (xl4.ty t_a0) (show rvh4 a0 7 = rv a0 7 from (fl4.r t_a0 rfl 7)) (fun ty1 re1 => ?_)
          rw [rq2] at re1
          refine c_getr (k := 7) C ck_12 dX11_judge_72 w2_51 (by decide) ty1 rfl rfl (by decide) rfl re1 ?_
          refine c_st (st2 := [.ref (sk 16)]) rfl ?_
          have ty2 := xl4.ty tsk16
          obtain ⟨rb3, rq3, trb3⟩ := W4.ref ty2 0 rfl rfl rfl
          have erb3 := W4.sk trb3 (by decide) rfl
          subst erb3
          refine c_getr (k := 0) C ck_4 dX11_judge_75 w1_192 (by decide) ty2 rfl rfl (by decide) rfl rq3 ?_
          refine c_st (st2 := [.ref (sk 24)]) rfl ?_
          refine c_aload_n (j := 1) (x := a0) C dX11_judge_78 rfl ?_
          refine hv2 (show (-2147483648) ≤ ivh4 a0 13 ∧ ivh4 a0 13 ≤ 2147483647 from W4.int ty1 13) (show ivh4 a0 13 = iv a0 13 from fl4.i t_a0 rfl 13) (fun ri3 ie1 => ?_)
          refine c_get (k := 13) C ck_12 dX11_judge_79 w2_57 (by decide) ty1 rfl rfl (by decide) rfl ?_
          refine hv2 (xl4.ty tsk24) (Phi.le W4 sk1) (fun ty3 pl1 => ?_)
          refine d_callS (As := [.ref (sk 24), .int (iI (ivh4 a0 13))]) (rest := []) C hM (C_isReadable_24 (a0 := (sk 24)) (x := ivh4 a0 13) W4 sk1 ty3 (by omega) ) dX11_judge_82 kS_X11_373 rfl rfl (Nat.le_of_ble_eq_true rfl) ⟨(Nat.le_of_ble_eq_true rfl), (Nat.le_of_ble_eq_true rfl)⟩ hph pl1 (show 0 + 0 = 0 from rfl) (by decide) (fun rh5 Lh5 clh5 lnh5 ivh5 rvh5 h5 => ?_)
          obtain ⟨f5, rfl, rfl, rfl, rfl, rfl, rfl, rgf5, exf5⟩ := h5
          refine c_st (st2 := [.int (iI f5)]) rfl ?_
          refine c_if_eq (tgt := 109) C ⟨by omega, by omega⟩ dX11_judge_85 (by decide) (fun c3 => ?_) (fun c3 => ?_)
          · refine c_iconst C dX11_judge_109 ?_
            refine c_istore_n (lv2 := [(3, .int (iI 0)), (2, .ref ob1), (0, .ref a0), (1, .int (iI i))]) C dX11_judge_110 (by decide) rfl ?_
            refine c_aload_n (j := 2) (x := a0) C dX11_judge_111 rfl ?_
            refine c_iload_n (j := 0) C dX11_judge_112 rfl ?_
            refine c_if_eq (tgt := 120) C ⟨by decide, by decide⟩ dX11_judge_113 (by decide) (fun _ => ?_) (fun z => absurd z (by omega))
            refine c_iconst C dX11_judge_120 ?_
            refine d_callV (As := [.int (iI 0)]) (rest := []) C hM (C_done (a0 := a0) (x := 0) W4 sk1 ty1 ⟨by decide, by decide⟩ ) dX11_judge_121 kV_X11_109 rfl ty1 rfl rfl (by decide) ck_12 rfl (Nat.le_of_ble_eq_true rfl) ⟨(Nat.le_of_ble_eq_true rfl), (Nat.le_of_ble_eq_true rfl)⟩ hph pl1 (show 0 + 0 = 0 from rfl) (by decide) (fun rh6 Lh6 clh6 lnh6 ivh6 rvh6 h6 => ?_)
            obtain ⟨f6, rfl, rfl, rfl, rfl, rfl, fl6, W6, rgf6, exf6, kp11f6, kp12f6, kp13f6, kp14f6, kp15f6, kp16f6⟩ := h6
            refine hv12 (show 1 ≤ ivh4 a0 11 ∧ ivh4 a0 11 ≤ 100 from W4.int ty1 11) (show ivh4 a0 11 = iv a0 11 from fl4.i t_a0 rfl 11) (show 1 ≤ ivh4 a0 12 ∧ ivh4 a0 12 ≤ 50 from W4.int ty1 12) (show ivh4 a0 12 = iv a0 12 from fl4.i t_a0 rfl 12) (show (-2147483648) ≤ ivh4 a0 14 ∧ ivh4 a0 14 ≤ 2147483647 from W4.int ty1 14) (show ivh4 a0 14 = iv a0 14 from fl4.i t_a0 rfl 14) (show (-2147483648) ≤ ivh4 a0 15 ∧ ivh4 a0 15 ≤ 2147483647 from W4.int ty1 15) (show ivh4 a0 15 = iv a0 15 from fl4.i t_a0 rfl 15) (show (-2147483648) ≤ ivh4 a0 16 ∧ ivh4 a0 16 ≤ 2147483647 from W4.int ty1 16) (show ivh4 a0 16 = iv a0 16 from fl4.i t_a0 rfl 16) (F1.call X1 fl6 rfl) (MRK.call mr1 W4 sk1 XT.refl fl6 rfl rfl) (fun ri4 ie2 ri5 ie3 ri6 ie4 ri7 ie5 ri8 ie6 F2 mr2 => ?_)
            refine c_st (st2 := [.int (iI f6)]) rfl ?_
            refine hv13 (show ivh6 a0 11 = ivh4 a0 11 from kp11f6) (show ivh6 a0 12 = ivh4 a0 12 from kp12f6) (show ivh6 a0 13 = ivh4 a0 13 from kp13f6) (show ivh6 a0 14 = ivh4 a0 14 from kp14f6) (show ivh6 a0 15 = ivh4 a0 15 from kp15f6) (show ivh6 a0 16 = ivh4 a0 16 from kp16f6) (show f6 = (0 : Int) from exf6) (show 1 ≤ ivh6 a0 11 ∧ ivh6 a0 11 ≤ 100 from W6.int ty1 11) (show 1 ≤ ivh6 a0 12 ∧ ivh6 a0 12 ≤ 50 from W6.int ty1 12) (show (-2147483648) ≤ ivh6 a0 13 ∧ ivh6 a0 13 ≤ 2147483647 from W6.int ty1 13) (show (-2147483648) ≤ ivh6 a0 14 ∧ ivh6 a0 14 ≤ 2147483647 from W6.int ty1 14) (show (-2147483648) ≤ ivh6 a0 15 ∧ ivh6 a0 15 ≤ 2147483647 from W6.int ty1 15) (show (-2147483648) ≤ ivh6 a0 16 ∧ ivh6 a0 16 ≤ 2147483647 from W6.int ty1 16) (fun gk11f6 gk12f6 gk13f6 gk14f6 gk15f6 gk16f6 gf6 ri9 ri10 ri11 ri12 ri13 ri14 => ?_)
            exact c_iret C dX11_judge_124 rfl (by decide) (rom0 hph pl1 (by decide)) ⟨f6, rfl, X1, F2, W6, ⟨by omega, by omega⟩, trivial, (gk11f6.trans ie2), (gk12f6.trans ie3), (gk13f6.trans ie1), (gk14f6.trans ie4), (gk15f6.trans ie5), (gk16f6.trans ie6), (show rvh4 a0 9 = rv a0 9 from (fl4.r t_a0 rfl 9)), (show rvh4 a0 10 = rv a0 10 from (fl4.r t_a0 rfl 10))⟩
          · refine c_aload_n (j := 1) (x := a0) C dX11_judge_88 rfl ?_
            refine c_getr (k := 7) C ck_12 dX11_judge_89 w2_51 (by decide) ty1 rfl rfl (by decide) rfl re1 ?_
            refine c_st (st2 := [.ref (sk 16)]) rfl ?_
            obtain ⟨rb4, rq4, trb4⟩ := W4.ref ty2 1 rfl rfl rfl
            have erb4 := W4.sk trb4 (by decide) rfl
            subst erb4
            refine c_getr (k := 1) C ck_4 dX11_judge_92 w1_195 (by decide) ty2 rfl rfl (by decide) rfl rq4 ?_
            refine c_st (st2 := [.ref (sk 25)]) rfl ?_
            refine c_aload_n (j := 1) (x := a0) C dX11_judge_95 rfl ?_
            refine c_get (k := 13) C ck_12 dX11_judge_96 w2_57 (by decide) ty1 rfl rfl (by decide) rfl ?_
            have ty4 := xl4.ty tsk25
            refine d_callS (As := [.ref (sk 25), .int (iI (ivh4 a0 13))]) (rest := []) C hM (C_isReadable_25 (a0 := (sk 25)) (x := ivh4 a0 13) W4 sk1 ty4 (by omega) ) dX11_judge_99 kS_X11_373 rfl rfl (Nat.le_of_ble_eq_true rfl) ⟨(Nat.le_of_ble_eq_true rfl), (Nat.le_of_ble_eq_true rfl)⟩ hph pl1 (show 0 + 0 = 0 from rfl) (by decide) (fun rh7 Lh7 clh7 lnh7 ivh7 rvh7 h7 => ?_)
            obtain ⟨f7, rfl, rfl, rfl, rfl, rfl, rfl, rgf7, exf7⟩ := h7
            refine c_st (st2 := [.int (iI f7)]) rfl ?_
            refine c_if_eq (tgt := 109) C ⟨by omega, by omega⟩ dX11_judge_102 (by decide) (fun c4 => ?_) (fun c4 => ?_)
            · refine c_iconst C dX11_judge_109 ?_
              refine c_istore_n (lv2 := [(3, .int (iI 0)), (2, .ref ob1), (0, .ref a0), (1, .int (iI i))]) C dX11_judge_110 (by decide) rfl ?_
              refine c_aload_n (j := 2) (x := a0) C dX11_judge_111 rfl ?_
              refine c_iload_n (j := 0) C dX11_judge_112 rfl ?_
              refine c_if_eq (tgt := 120) C ⟨by decide, by decide⟩ dX11_judge_113 (by decide) (fun _ => ?_) (fun z => absurd z (by omega))
              refine c_iconst C dX11_judge_120 ?_
              refine d_callV (As := [.int (iI 0)]) (rest := []) C hM (C_done (a0 := a0) (x := 0) W4 sk1 ty1 ⟨by decide, by decide⟩ ) dX11_judge_121 kV_X11_109 rfl ty1 rfl rfl (by decide) ck_12 rfl (Nat.le_of_ble_eq_true rfl) ⟨(Nat.le_of_ble_eq_true rfl), (Nat.le_of_ble_eq_true rfl)⟩ hph pl1 (show 0 + 0 = 0 from rfl) (by decide) (fun rh8 Lh8 clh8 lnh8 ivh8 rvh8 h8 => ?_)
              obtain ⟨f8, rfl, rfl, rfl, rfl, rfl, fl8, W8, rgf8, exf8, kp11f8, kp12f8, kp13f8, kp14f8, kp15f8, kp16f8⟩ := h8
              refine hv12 (show 1 ≤ ivh4 a0 11 ∧ ivh4 a0 11 ≤ 100 from W4.int ty1 11) (show ivh4 a0 11 = iv a0 11 from fl4.i t_a0 rfl 11) (show 1 ≤ ivh4 a0 12 ∧ ivh4 a0 12 ≤ 50 from W4.int ty1 12) (show ivh4 a0 12 = iv a0 12 from fl4.i t_a0 rfl 12) (show (-2147483648) ≤ ivh4 a0 14 ∧ ivh4 a0 14 ≤ 2147483647 from W4.int ty1 14) (show ivh4 a0 14 = iv a0 14 from fl4.i t_a0 rfl 14) (show (-2147483648) ≤ ivh4 a0 15 ∧ ivh4 a0 15 ≤ 2147483647 from W4.int ty1 15) (show ivh4 a0 15 = iv a0 15 from fl4.i t_a0 rfl 15) (show (-2147483648) ≤ ivh4 a0 16 ∧ ivh4 a0 16 ≤ 2147483647 from W4.int ty1 16) (show ivh4 a0 16 = iv a0 16 from fl4.i t_a0 rfl 16) (F1.call X1 fl8 rfl) (MRK.call mr1 W4 sk1 XT.refl fl8 rfl rfl) (fun ri15 ie13 ri16 ie14 ri17 ie15 ri18 ie16 ri19 ie17 F3 mr3 => ?_)
              refine c_st (st2 := [.int (iI f8)]) rfl ?_
              refine hv13 (show ivh8 a0 11 = ivh4 a0 11 from kp11f8) (show ivh8 a0 12 = ivh4 a0 12 from kp12f8) (show ivh8 a0 13 = ivh4 a0 13 from kp13f8) (show ivh8 a0 14 = ivh4 a0 14 from kp14f8) (show ivh8 a0 15 = ivh4 a0 15 from kp15f8) (show ivh8 a0 16 = ivh4 a0 16 from kp16f8) (show f8 = (0 : Int) from exf8) (show 1 ≤ ivh8 a0 11 ∧ ivh8 a0 11 ≤ 100 from W8.int ty1 11) (show 1 ≤ ivh8 a0 12 ∧ ivh8 a0 12 ≤ 50 from W8.int ty1 12) (show (-2147483648) ≤ ivh8 a0 13 ∧ ivh8 a0 13 ≤ 2147483647 from W8.int ty1 13) (show (-2147483648) ≤ ivh8 a0 14 ∧ ivh8 a0 14 ≤ 2147483647 from W8.int ty1 14) (show (-2147483648) ≤ ivh8 a0 15 ∧ ivh8 a0 15 ≤ 2147483647 from W8.int ty1 15) (show (-2147483648) ≤ ivh8 a0 16 ∧ ivh8 a0 16 ≤ 2147483647 from W8.int ty1 16) (fun gk11f8 gk12f8 gk13f8 gk14f8 gk15f8 gk16f8 gf8 ri20 ri21 ri22 ri23 ri24 ri25 => ?_)
              exact c_iret C dX11_judge_124 rfl (by decide) (rom0 hph pl1 (by decide)) ⟨f8, rfl, X1, F3, W8, ⟨by omega, by omega⟩, trivial, (gk11f8.trans ie13), (gk12f8.trans ie14), (gk13f8.trans ie1), (gk14f8.trans ie15), (gk15f8.trans ie16), (gk16f8.trans ie17), (show rvh4 a0 9 = rv a0 9 from (fl4.r t_a0 rfl 9)), (show rvh4 a0 10 = rv a0 10 from (fl4.r t_a0 rfl 10))⟩
            · refine c_iconst C dX11_judge_105 ?_
              refine c_goto (tgt := 110) C dX11_judge_106 (by decide) ?_
              refine c_istore_n (lv2 := [(3, .int (iI 1)), (2, .ref ob1), (0, .ref a0), (1, .int (iI i))]) C dX11_judge_110 (by decide) rfl ?_
              refine c_aload_n (j := 2) (x := a0) C dX11_judge_111 rfl ?_
              refine c_iload_n (j := 0) C dX11_judge_112 rfl ?_
              refine c_if_eq (tgt := 120) C ⟨by decide, by decide⟩ dX11_judge_113 (by decide) (fun z => absurd z (by omega)) (fun _ => ?_)
              refine c_iconst C dX11_judge_116 ?_
              refine c_goto (tgt := 121) C dX11_judge_117 (by decide) ?_
              refine d_callV (As := [.int (iI 1)]) (rest := []) C hM (C_done (a0 := a0) (x := 1) W4 sk1 ty1 ⟨by decide, by decide⟩ ) dX11_judge_121 kV_X11_109 rfl ty1 rfl rfl (by decide) ck_12 rfl (Nat.le_of_ble_eq_true rfl) ⟨(Nat.le_of_ble_eq_true rfl), (Nat.le_of_ble_eq_true rfl)⟩ hph pl1 (show 0 + 0 = 0 from rfl) (by decide) (fun rh9 Lh9 clh9 lnh9 ivh9 rvh9 h9 => ?_)
              obtain ⟨f9, rfl, rfl, rfl, rfl, rfl, fl9, W9, rgf9, exf9, kp11f9, kp12f9, kp13f9, kp14f9, kp15f9, kp16f9⟩ := h9
              refine hv12 (show 1 ≤ ivh4 a0 11 ∧ ivh4 a0 11 ≤ 100 from W4.int ty1 11) (show ivh4 a0 11 = iv a0 11 from fl4.i t_a0 rfl 11) (show 1 ≤ ivh4 a0 12 ∧ ivh4 a0 12 ≤ 50 from W4.int ty1 12) (show ivh4 a0 12 = iv a0 12 from fl4.i t_a0 rfl 12) (show (-2147483648) ≤ ivh4 a0 14 ∧ ivh4 a0 14 ≤ 2147483647 from W4.int ty1 14) (show ivh4 a0 14 = iv a0 14 from fl4.i t_a0 rfl 14) (show (-2147483648) ≤ ivh4 a0 15 ∧ ivh4 a0 15 ≤ 2147483647 from W4.int ty1 15) (show ivh4 a0 15 = iv a0 15 from fl4.i t_a0 rfl 15) (show (-2147483648) ≤ ivh4 a0 16 ∧ ivh4 a0 16 ≤ 2147483647 from W4.int ty1 16) (show ivh4 a0 16 = iv a0 16 from fl4.i t_a0 rfl 16) (F1.call X1 fl9 rfl) (MRK.call mr1 W4 sk1 XT.refl fl9 rfl rfl) (fun ri26 ie24 ri27 ie25 ri28 ie26 ri29 ie27 ri30 ie28 F4 mr4 => ?_)
              refine c_st (st2 := [.int (iI f9)]) rfl ?_
              refine hv13 (show ivh9 a0 11 = ivh4 a0 11 from kp11f9) (show ivh9 a0 12 = ivh4 a0 12 from kp12f9) (show ivh9 a0 13 = ivh4 a0 13 from kp13f9) (show ivh9 a0 14 = ivh4 a0 14 from kp14f9) (show ivh9 a0 15 = ivh4 a0 15 from kp15f9) (show ivh9 a0 16 = ivh4 a0 16 from kp16f9) (show f9 = (1 : Int) from exf9) (show 1 ≤ ivh9 a0 11 ∧ ivh9 a0 11 ≤ 100 from W9.int ty1 11) (show 1 ≤ ivh9 a0 12 ∧ ivh9 a0 12 ≤ 50 from W9.int ty1 12) (show (-2147483648) ≤ ivh9 a0 13 ∧ ivh9 a0 13 ≤ 2147483647 from W9.int ty1 13) (show (-2147483648) ≤ ivh9 a0 14 ∧ ivh9 a0 14 ≤ 2147483647 from W9.int ty1 14) (show (-2147483648) ≤ ivh9 a0 15 ∧ ivh9 a0 15 ≤ 2147483647 from W9.int ty1 15) (show (-2147483648) ≤ ivh9 a0 16 ∧ ivh9 a0 16 ≤ 2147483647 from W9.int ty1 16) (fun gk11f9 gk12f9 gk13f9 gk14f9 gk15f9 gk16f9 gf9 ri31 ri32 ri33 ri34 ri35 ri36 => ?_)
              exact c_iret C dX11_judge_124 rfl (by decide) (rom0 hph pl1 (by decide)) ⟨f9, rfl, X1, F4, W9, ⟨by omega, by omega⟩, trivial, (gk11f9.trans ie24), (gk12f9.trans ie25), (gk13f9.trans ie1), (gk14f9.trans ie26), (gk15f9.trans ie27), (gk16f9.trans ie28), (show rvh4 a0 9 = rv a0 9 from (fl4.r t_a0 rfl 9)), (show rvh4 a0 10 = rv a0 10 from (fl4.r t_a0 rfl 10))⟩
        · refine c_aload_n (j := 1) (x := a0) C dX11_judge_57 rfl ?_
          refine c_iconst C dX11_judge_58 ?_
          refine d_callV (As := [.int (iI 0)]) (rest := []) C hM (C_done (a0 := a0) (x := 0) hW hS t_a0 ⟨by decide, by decide⟩ ) dX11_judge_59 kV_X11_109 rfl t_a0 rfl rfl (by decide) ck_12 rfl (Nat.le_of_ble_eq_true rfl) ⟨(Nat.le_of_ble_eq_true rfl), (Nat.le_of_ble_eq_true rfl)⟩ hph hph (show 0 + 0 = 0 from rfl) (by decide) (fun rh10 Lh10 clh10 lnh10 ivh10 rvh10 h10 => ?_)
          obtain ⟨f10, rfl, rfl, rfl, rfl, rfl, fl10, W10, rgf10, exf10, kp11f10, kp12f10, kp13f10, kp14f10, kp15f10, kp16f10⟩ := h10
          refine hv8 (show 1 ≤ iv a0 11 ∧ iv a0 11 ≤ 100 from hW.int t_a0 11) (show 1 ≤ iv a0 12 ∧ iv a0 12 ≤ 50 from hW.int t_a0 12) (show (-2147483648) ≤ iv a0 13 ∧ iv a0 13 ≤ 2147483647 from hW.int t_a0 13) (show (-2147483648) ≤ iv a0 14 ∧ iv a0 14 ≤ 2147483647 from hW.int t_a0 14) (show (-2147483648) ≤ iv a0 15 ∧ iv a0 15 ≤ 2147483647 from hW.int t_a0 15) (show (-2147483648) ≤ iv a0 16 ∧ iv a0 16 ≤ 2147483647 from hW.int t_a0 16) (hF0.call hX0 fl10 rfl) (MRK.call hmr hW hS XT.refl fl10 rfl rfl) (fun ri37 ri38 ri39 ri40 ri41 ri42 F5 mr5 => ?_)
          refine c_st (st2 := [.int (iI f10)]) rfl ?_
          refine hv13 (show ivh10 a0 11 = iv a0 11 from kp11f10) (show ivh10 a0 12 = iv a0 12 from kp12f10) (show ivh10 a0 13 = iv a0 13 from kp13f10) (show ivh10 a0 14 = iv a0 14 from kp14f10) (show ivh10 a0 15 = iv a0 15 from kp15f10) (show ivh10 a0 16 = iv a0 16 from kp16f10) (show f10 = (0 : Int) from exf10) (show 1 ≤ ivh10 a0 11 ∧ ivh10 a0 11 ≤ 100 from W10.int t_a0 11) (show 1 ≤ ivh10 a0 12 ∧ ivh10 a0 12 ≤ 50 from W10.int t_a0 12) (show (-2147483648) ≤ ivh10 a0 13 ∧ ivh10 a0 13 ≤ 2147483647 from W10.int t_a0 13) (show (-2147483648) ≤ ivh10 a0 14 ∧ ivh10 a0 14 ≤ 2147483647 from W10.int t_a0 14) (show (-2147483648) ≤ ivh10 a0 15 ∧ ivh10 a0 15 ≤ 2147483647 from W10.int t_a0 15) (show (-2147483648) ≤ ivh10 a0 16 ∧ ivh10 a0 16 ≤ 2147483647 from W10.int t_a0 16) (fun gk11f10 gk12f10 gk13f10 gk14f10 gk15f10 gk16f10 gf10 ri43 ri44 ri45 ri46 ri47 ri48 => ?_)
          exact c_iret C dX11_judge_62 rfl (by decide) (rom0 hph hph (by decide)) ⟨f10, rfl, hX0, F5, W10, ⟨by omega, by omega⟩, trivial, gk11f10, gk12f10, gk13f10, gk14f10, gk15f10, gk16f10, rfl, rfl⟩
      · subst oq2
        refine c_lv (lv2 := [(2, .ref ob1), (0, .ref a0), (1, .int (iI i))]) [0, 1, 2] rfl ?_
        refine c_st (st2 := []) rfl ?_
        refine c_aload_n (j := 1) (x := a0) C dX11_judge_44 rfl ?_
        refine c_iconst C dX11_judge_45 ?_
        refine d_callV (As := [.int (iI 3)]) (rest := []) C hM (C_refuse (a0 := a0) (x := 3) hW hS t_a0 ⟨by decide, by decide⟩ ) dX11_judge_46 kV_X11_102 rfl t_a0 rfl rfl (by decide) ck_12 rfl (Nat.le_of_ble_eq_true rfl) ⟨(Nat.le_of_ble_eq_true rfl), (Nat.le_of_ble_eq_true rfl)⟩ hph hph (show 0 + 0 = 0 from rfl) (by decide) (fun rh11 Lh11 clh11 lnh11 ivh11 rvh11 h11 => ?_)
        obtain ⟨f11, rfl, rfl, rfl, rfl, rfl, fl11, W11, rgf11, exf11, kp11f11, kp12f11, kp13f11, kp14f11, kp15f11, kp16f11⟩ := h11
        refine hv8 (show 1 ≤ iv a0 11 ∧ iv a0 11 ≤ 100 from hW.int t_a0 11) (show 1 ≤ iv a0 12 ∧ iv a0 12 ≤ 50 from hW.int t_a0 12) (show (-2147483648) ≤ iv a0 13 ∧ iv a0 13 ≤ 2147483647 from hW.int t_a0 13) (show (-2147483648) ≤ iv a0 14 ∧ iv a0 14 ≤ 2147483647 from hW.int t_a0 14) (show (-2147483648) ≤ iv a0 15 ∧ iv a0 15 ≤ 2147483647 from hW.int t_a0 15) (show (-2147483648) ≤ iv a0 16 ∧ iv a0 16 ≤ 2147483647 from hW.int t_a0 16) (hF0.call hX0 fl11 rfl) (MRK.call hmr hW hS XT.refl fl11 rfl rfl) (fun ri49 ri50 ri51 ri52 ri53 ri54 F6 mr6 => ?_)
        refine c_st (st2 := [.int (iI f11)]) rfl ?_
        refine hv13 (show ivh11 a0 11 = iv a0 11 from kp11f11) (show ivh11 a0 12 = iv a0 12 from kp12f11) (show ivh11 a0 13 = iv a0 13 from kp13f11) (show ivh11 a0 14 = iv a0 14 from kp14f11) (show ivh11 a0 15 = iv a0 15 from kp15f11) (show ivh11 a0 16 = iv a0 16 from kp16f11) (show f11 = -1 from exf11) (show 1 ≤ ivh11 a0 11 ∧ ivh11 a0 11 ≤ 100 from W11.int t_a0 11) (show 1 ≤ ivh11 a0 12 ∧ ivh11 a0 12 ≤ 50 from W11.int t_a0 12) (show (-2147483648) ≤ ivh11 a0 13 ∧ ivh11 a0 13 ≤ 2147483647 from W11.int t_a0 13) (show (-2147483648) ≤ ivh11 a0 14 ∧ ivh11 a0 14 ≤ 2147483647 from W11.int t_a0 14) (show (-2147483648) ≤ ivh11 a0 15 ∧ ivh11 a0 15 ≤ 2147483647 from W11.int t_a0 15) (show (-2147483648) ≤ ivh11 a0 16 ∧ ivh11 a0 16 ≤ 2147483647 from W11.int t_a0 16) (fun gk11f11 gk12f11 gk13f11 gk14f11 gk15f11 gk16f11 gf11 ri55 ri56 ri57 ri58 ri59 ri60 => ?_)
        exact c_iret C dX11_judge_49 rfl (by decide) (rom0 hph hph (by decide)) ⟨f11, rfl, hX0, F6, W11, ⟨by omega, by omega⟩, trivial, gk11f11, gk12f11, gk13f11, gk14f11, gk15f11, gk16f11, rfl, rfl⟩
    · refine c_aload_n (j := 1) (x := a0) C dX11_judge_27 rfl ?_
      refine c_iconst C dX11_judge_28 ?_
      refine d_callV (As := [.int (iI 4)]) (rest := []) C hM (C_refuse (a0 := a0) (x := 4) hW hS t_a0 ⟨by decide, by decide⟩ ) dX11_judge_29 kV_X11_102 rfl t_a0 rfl rfl (by decide) ck_12 rfl (Nat.le_of_ble_eq_true rfl) ⟨(Nat.le_of_ble_eq_true rfl), (Nat.le_of_ble_eq_true rfl)⟩ hph hph (show 0 + 0 = 0 from rfl) (by decide) (fun rh12 Lh12 clh12 lnh12 ivh12 rvh12 h12 => ?_)
      obtain ⟨f12, rfl, rfl, rfl, rfl, rfl, fl12, W12, rgf12, exf12, kp11f12, kp12f12, kp13f12, kp14f12, kp15f12, kp16f12⟩ := h12
      refine hv8 (show 1 ≤ iv a0 11 ∧ iv a0 11 ≤ 100 from hW.int t_a0 11) (show 1 ≤ iv a0 12 ∧ iv a0 12 ≤ 50 from hW.int t_a0 12) (show (-2147483648) ≤ iv a0 13 ∧ iv a0 13 ≤ 2147483647 from hW.int t_a0 13) (show (-2147483648) ≤ iv a0 14 ∧ iv a0 14 ≤ 2147483647 from hW.int t_a0 14) (show (-2147483648) ≤ iv a0 15 ∧ iv a0 15 ≤ 2147483647 from hW.int t_a0 15) (show (-2147483648) ≤ iv a0 16 ∧ iv a0 16 ≤ 2147483647 from hW.int t_a0 16) (hF0.call hX0 fl12 rfl) (MRK.call hmr hW hS XT.refl fl12 rfl rfl) (fun ri61 ri62 ri63 ri64 ri65 ri66 F7 mr7 => ?_)
      refine c_st (st2 := [.int (iI f12)]) rfl ?_
      refine hv13 (show ivh12 a0 11 = iv a0 11 from kp11f12) (show ivh12 a0 12 = iv a0 12 from kp12f12) (show ivh12 a0 13 = iv a0 13 from kp13f12) (show ivh12 a0 14 = iv a0 14 from kp14f12) (show ivh12 a0 15 = iv a0 15 from kp15f12) (show ivh12 a0 16 = iv a0 16 from kp16f12) (show f12 = -1 from exf12) (show 1 ≤ ivh12 a0 11 ∧ ivh12 a0 11 ≤ 100 from W12.int t_a0 11) (show 1 ≤ ivh12 a0 12 ∧ ivh12 a0 12 ≤ 50 from W12.int t_a0 12) (show (-2147483648) ≤ ivh12 a0 13 ∧ ivh12 a0 13 ≤ 2147483647 from W12.int t_a0 13) (show (-2147483648) ≤ ivh12 a0 14 ∧ ivh12 a0 14 ≤ 2147483647 from W12.int t_a0 14) (show (-2147483648) ≤ ivh12 a0 15 ∧ ivh12 a0 15 ≤ 2147483647 from W12.int t_a0 15) (show (-2147483648) ≤ ivh12 a0 16 ∧ ivh12 a0 16 ≤ 2147483647 from W12.int t_a0 16) (fun gk11f12 gk12f12 gk13f12 gk14f12 gk15f12 gk16f12 gf12 ri67 ri68 ri69 ri70 ri71 ri72 => ?_)
      exact c_iret C dX11_judge_32 rfl (by decide) (rom0 hph hph (by decide)) ⟨f12, rfl, hX0, F7, W12, ⟨by omega, by omega⟩, trivial, gk11f12, gk12f12, gk13f12, gk14f12, gk15f12, gk16f12, rfl, rfl⟩
  · subst oq1
    refine c_lv (lv2 := [(2, .null), (0, .ref a0), (1, .int (iI i))]) [0, 1, 2] rfl ?_
    refine c_st (st2 := []) rfl ?_
    refine c_aload_n (j := 1) (x := a0) C dX11_judge_13 rfl ?_
    refine c_iconst C dX11_judge_14 ?_
    refine d_callV (As := [.int (iI 3)]) (rest := []) C hM (C_refuse (a0 := a0) (x := 3) hW hS t_a0 ⟨by decide, by decide⟩ ) dX11_judge_15 kV_X11_102 rfl t_a0 rfl rfl (by decide) ck_12 rfl (Nat.le_of_ble_eq_true rfl) ⟨(Nat.le_of_ble_eq_true rfl), (Nat.le_of_ble_eq_true rfl)⟩ hph hph (show 0 + 0 = 0 from rfl) (by decide) (fun rh13 Lh13 clh13 lnh13 ivh13 rvh13 h13 => ?_)
    obtain ⟨f13, rfl, rfl, rfl, rfl, rfl, fl13, W13, rgf13, exf13, kp11f13, kp12f13, kp13f13, kp14f13, kp15f13, kp16f13⟩ := h13
    refine hv8 (show 1 ≤ iv a0 11 ∧ iv a0 11 ≤ 100 from hW.int t_a0 11) (show 1 ≤ iv a0 12 ∧ iv a0 12 ≤ 50 from hW.int t_a0 12) (show (-2147483648) ≤ iv a0 13 ∧ iv a0 13 ≤ 2147483647 from hW.int t_a0 13) (show (-2147483648) ≤ iv a0 14 ∧ iv a0 14 ≤ 2147483647 from hW.int t_a0 14) (show (-2147483648) ≤ iv a0 15 ∧ iv a0 15 ≤ 2147483647 from hW.int t_a0 15) (show (-2147483648) ≤ iv a0 16 ∧ iv a0 16 ≤ 2147483647 from hW.int t_a0 16) (hF0.call hX0 fl13 rfl) (MRK.call hmr hW hS XT.refl fl13 rfl rfl) (fun ri73 ri74 ri75 ri76 ri77 ri78 F8 mr8 => ?_)
    refine c_st (st2 := [.int (iI f13)]) rfl ?_
    refine hv13 (show ivh13 a0 11 = iv a0 11 from kp11f13) (show ivh13 a0 12 = iv a0 12 from kp12f13) (show ivh13 a0 13 = iv a0 13 from kp13f13) (show ivh13 a0 14 = iv a0 14 from kp14f13) (show ivh13 a0 15 = iv a0 15 from kp15f13) (show ivh13 a0 16 = iv a0 16 from kp16f13) (show f13 = -1 from exf13) (show 1 ≤ ivh13 a0 11 ∧ ivh13 a0 11 ≤ 100 from W13.int t_a0 11) (show 1 ≤ ivh13 a0 12 ∧ ivh13 a0 12 ≤ 50 from W13.int t_a0 12) (show (-2147483648) ≤ ivh13 a0 13 ∧ ivh13 a0 13 ≤ 2147483647 from W13.int t_a0 13) (show (-2147483648) ≤ ivh13 a0 14 ∧ ivh13 a0 14 ≤ 2147483647 from W13.int t_a0 14) (show (-2147483648) ≤ ivh13 a0 15 ∧ ivh13 a0 15 ≤ 2147483647 from W13.int t_a0 15) (show (-2147483648) ≤ ivh13 a0 16 ∧ ivh13 a0 16 ≤ 2147483647 from W13.int t_a0 16) (fun gk11f13 gk12f13 gk13f13 gk14f13 gk15f13 gk16f13 gf13 ri79 ri80 ri81 ri82 ri83 ri84 => ?_)
    exact c_iret C dX11_judge_18 rfl (by decide) (rom0 hph hph (by decide)) ⟨f13, rfl, hX0, F8, W13, ⟨by omega, by omega⟩, trivial, gk11f13, gk12f13, gk13f13, gk14f13, gk15f13, gk16f13, rfl, rfl⟩
set_option maxHeartbeats 4000000 in
set_option maxRecDepth 100000 in
theorem C_parts {l : Launch} {G : GT} {mi : Nat} {sk : Nat → Nat} {L : List Nat} {cl ln : Nat → Nat} {iv : Nat → Nat → Int} {rv : Nat → Nat → Option Nat}  {a0 : Nat} {i : Int} {j : Int} {k : Int} (hW : WT (g0 G) sk L cl ln iv rv) (hS : SKL sk L cl) (t_a0 : ty L cl a0 1) (h_i : -2147483648 ≤ i ∧ i ≤ 2147483647) (h_j : -2147483648 ≤ j ∧ j ≤ 2147483647) (h_k : -2147483648 ≤ k ∧ k ≤ 2147483647) (hmr : MRK sk cl iv rv) : Mc l G mi (Phi (g0 G) sk) PHM yX11_parts cX11_parts 10 (some .int) 10 [.ref a0, .int (iI i), .int (iI j), .int (iI k)] L cl ln iv rv 0 (fun v L2 cl2 ln2 iv2 rv2 => ∃ f : Int, v = some (.int (iI f)) ∧ XT L cl ln L2 cl2 ln2 ∧ fT [1, 24, 1002, 25, 1003, 6, 36, 7, 37] L cl iv rv iv2 rv2 ∧ WT (g0 G) sk L2 cl2 ln2 iv2 rv2 ∧ (-2147483648 ≤ f ∧ f ≤ 2147483647) ∧ (True) ∧ iv2 a0 11 = iv a0 11 ∧ iv2 a0 12 = iv a0 12 ∧ iv2 a0 13 = iv a0 13 ∧ iv2 a0 14 = iv a0 14 ∧ iv2 a0 15 = iv a0 15 ∧ iv2 a0 16 = iv a0 16 ∧ rv2 a0 9 = rv a0 9 ∧ rv2 a0 10 = rv a0 10) := by
  refine Mc.mk (by decide) (Nat.le_of_ble_eq_true rfl) ?_
  intro p e s m args below meth c A C hM
  refine hv21 (Phi.le hW hS) (show ty L cl (sk 2) 2 from ⟨(hS 2 rfl).1, by rw [(hS 2 rfl).2]; rfl⟩) (show ty L cl (sk 3) 3 from ⟨(hS 3 rfl).1, by rw [(hS 3 rfl).2]; rfl⟩) (show ty L cl (sk 4) 4 from ⟨(hS 4 rfl).1, by rw [(hS 4 rfl).2]; rfl⟩) (show ty L cl (sk 5) 5 from ⟨(hS 5 rfl).1, by rw [(hS 5 rfl).2]; rfl⟩) (show ty L cl (sk 6) 6 from ⟨(hS 6 rfl).1, by rw [(hS 6 rfl).2]; rfl⟩) (show ty L cl (sk 7) 7 from ⟨(hS 7 rfl).1, by rw [(hS 7 rfl).2]; rfl⟩) (show ty L cl (sk 8) 8 from ⟨(hS 8 rfl).1, by rw [(hS 8 rfl).2]; rfl⟩) (show ty L cl (sk 9) 9 from ⟨(hS 9 rfl).1, by rw [(hS 9 rfl).2]; rfl⟩) (show ty L cl (sk 10) 10 from ⟨(hS 10 rfl).1, by rw [(hS 10 rfl).2]; rfl⟩) (show ty L cl (sk 13) 13 from ⟨(hS 13 rfl).1, by rw [(hS 13 rfl).2]; rfl⟩) (show ty L cl (sk 14) 14 from ⟨(hS 14 rfl).1, by rw [(hS 14 rfl).2]; rfl⟩) (show ty L cl (sk 15) 15 from ⟨(hS 15 rfl).1, by rw [(hS 15 rfl).2]; rfl⟩) (show ty L cl (sk 16) 16 from ⟨(hS 16 rfl).1, by rw [(hS 16 rfl).2]; rfl⟩) (show ty L cl (sk 17) 17 from ⟨(hS 17 rfl).1, by rw [(hS 17 rfl).2]; rfl⟩) (show ty L cl (sk 22) 22 from ⟨(hS 22 rfl).1, by rw [(hS 22 rfl).2]; rfl⟩) (show ty L cl (sk 23) 23 from ⟨(hS 23 rfl).1, by rw [(hS 23 rfl).2]; rfl⟩) (show ty L cl (sk 24) 24 from ⟨(hS 24 rfl).1, by rw [(hS 24 rfl).2]; rfl⟩) (show ty L cl (sk 25) 25 from ⟨(hS 25 rfl).1, by rw [(hS 25 rfl).2]; rfl⟩) (show XT L cl ln L cl ln from XT.refl) (show fT [1, 24, 1002, 25, 1003, 6, 36, 7, 37] L cl iv rv iv rv from fT.refl) (fun hph tsk2 tsk3 tsk4 tsk5 tsk6 tsk7 tsk8 tsk9 tsk10 tsk13 tsk14 tsk15 tsk16 tsk17 tsk22 tsk23 tsk24 tsk25 hX0 hF0 => ?_)
  refine c_aload_n (j := 0) (x := a0) C dX11_parts_0 rfl ?_
  obtain ⟨rb1, rq1, trb1⟩ := hW.ref t_a0 4 rfl rfl rfl
  have erb1 := hW.sk trb1 (by decide) rfl
  subst erb1
  refine c_getr (k := 4) C ck_12 dX11_parts_1 w2_48 (by decide) t_a0 rfl rfl (by decide) rfl rq1 ?_
  refine c_st (st2 := [.ref (sk 13)]) rfl ?_
  refine c_iload_n (j := 1) C dX11_parts_4 rfl ?_
  refine d_callV (As := [.int (iI i)]) (rest := []) C hM (C_whole (a0 := (sk 13)) (i := i) hW hS tsk13 (by omega) hmr) dX11_parts_5 kV_X11_231 rfl tsk13 rfl rfl (by decide) ck_11 rfl (Nat.le_of_ble_eq_true rfl) ⟨(Nat.le_of_ble_eq_true rfl), (Nat.le_of_ble_eq_true rfl)⟩ hph hph (show 0 + 0 = 0 from rfl) (by decide) (fun rh1 Lh1 clh1 lnh1 ivh1 rvh1 h1 => ?_)
  obtain ⟨f1, rfl, rfl, rfl, rfl, rfl, rfl, rgf1, exf1⟩ := h1
  refine c_st (st2 := [(va_rf f1)]) rfl ?_
  refine c_astorer (r := f1) (lv2 := [(4, (va_rf f1)), (0, .ref a0), (1, .int (iI i)), (2, .int (iI j)), (3, .int (iI k))]) C dX11_parts_8 (by decide) rfl ?_
  refine c_aloadr (j := 0) (r := f1) C dX11_parts_10 rfl ?_
  refine c_ifnonnull (r := f1) (tgt := 21) C dX11_parts_12 (by decide) (fun ob1 oq1 => ?_) (fun oq1 => ?_)
  · subst oq1
    have tob1 := rgf1 ob1 rfl
    refine c_lv (lv2 := [(4, .ref ob1), (0, .ref a0), (1, .int (iI i)), (2, .int (iI j)), (3, .int (iI k))]) [0, 1, 2, 3, 4] rfl ?_
    refine c_st (st2 := []) rfl ?_
    refine c_aload_n (j := 1) (x := a0) C dX11_parts_21 rfl ?_
    obtain ⟨rb2, rq2, trb2⟩ := hW.ref t_a0 7 rfl rfl rfl
    have erb2 := hW.sk trb2 (by decide) rfl
    subst erb2
    refine c_getr (k := 7) C ck_12 dX11_parts_22 w2_51 (by decide) t_a0 rfl rfl (by decide) rfl rq2 ?_
    refine c_st (st2 := [.ref (sk 16)]) rfl ?_
    refine c_aload (j := 0) (x := ob1) C dX11_parts_25 rfl ?_
    refine d_callV (As := [.ref ob1]) (rest := []) C hM (C_gather (a0 := (sk 16)) (a1 := ob1) hW hS tsk16 tob1  ) dX11_parts_27 kV_X11_331 rfl tsk16 rfl rfl (by decide) ck_4 rfl (Nat.le_of_ble_eq_true rfl) ⟨(Nat.le_of_ble_eq_true rfl), (Nat.le_of_ble_eq_true rfl)⟩ hph hph (show 0 + 0 = 0 from rfl) (by decide) (fun rh2 Lh2 clh2 lnh2 ivh2 rvh2 h2 => ?_)
    obtain ⟨rfl, xl2, fl2, W2, exf2⟩ := h2
    refine hv4 (hF0.call hX0 fl2 rfl) (MRK.call hmr hW hS xl2 fl2 rfl rfl) (hX0.trans xl2) (xl2.skl hS) (fun F1 mr1 X1 sk1 => ?_)
    refine c_st (st2 := []) rfl ?_
    refine c_aload_n (j := 1) (x := a0) C dX11_parts_30 rfl ?_
    refine hv2 (xl2.ty t_a0) (show rvh2 a0 7 = rv a0 7 from (fl2.r t_a0 rfl 7)) (fun ty1 re1 => ?_)
    rw [rq2] at re1
    refine c_getr (k := 7) C ck_12 dX11_parts_31 w2_51 (by decide) ty1 rfl rfl (by decide) rfl re1 ?_
    refine c_st (st2 := [.ref (sk 16)]) rfl ?_
    have ty2 := xl2.ty tsk16
    obtain ⟨rb3, rq3, trb3⟩ := W2.ref ty2 0 rfl rfl rfl
    have erb3 := W2.sk trb3 (by decide) rfl
    subst erb3
    refine c_getr (k := 0) C ck_4 dX11_parts_34 w1_192 (by decide) ty2 rfl rfl (by decide) rfl rq3 ?_
    refine c_st (st2 := [.ref (sk 24)]) rfl ?_
    refine hv2 (xl2.ty tsk24) (Phi.le W2 sk1) (fun ty3 pl1 => ?_)
    have ri1 : 0 ≤ ivh2 (sk 24) 2 ∧ ivh2 (sk 24) 2 ≤ 6003 := W2.int ty3 2
    refine d_callV (As := []) (rest := []) C hM (C_size_24 (a0 := (sk 24)) W2 sk1 ty3  ) dX11_parts_37 kV_X11_183 rfl ty3 rfl rfl (by decide) ck_0 rfl (Nat.le_of_ble_eq_true rfl) ⟨(Nat.le_of_ble_eq_true rfl), (Nat.le_of_ble_eq_true rfl)⟩ hph pl1 (show 0 + 0 = 0 from rfl) (by decide) (fun rh3 Lh3 clh3 lnh3 ivh3 rvh3 h3 => ?_)
    obtain ⟨f3, rfl, rfl, rfl, rfl, rfl, rfl, rgf3, exf3⟩ := h3
    refine c_st (st2 := [.int (iI f3)]) rfl ?_
    have gf3 : f3 = ivh2 (sk 24) 2 := exf3
    refine c_istore (lv2 := [(5, .int (iI f3)), (4, .ref ob1), (0, .ref a0), (1, .int (iI i)), (2, .int (iI j)), (3, .int (iI k))]) C dX11_parts_40 (by decide) rfl ?_
    refine c_iload_n (j := 4) C dX11_parts_42 rfl ?_
    refine c_if_lt (tgt := 62) C ⟨by omega, by omega⟩ dX11_parts_43 (by decide) (fun c1 => ?_) (fun c1 => ?_)
    · refine c_aload_n (j := 2) (x := a0) C dX11_parts_62 rfl ?_
      refine c_iconst C dX11_parts_63 ?_
      refine d_callV (As := [.int (iI 2)]) (rest := []) C hM (C_refuse (a0 := a0) (x := 2) W2 sk1 ty1 ⟨by decide, by decide⟩ ) dX11_parts_64 kV_X11_102 rfl ty1 rfl rfl (by decide) ck_12 rfl (Nat.le_of_ble_eq_true rfl) ⟨(Nat.le_of_ble_eq_true rfl), (Nat.le_of_ble_eq_true rfl)⟩ hph pl1 (show 0 + 0 = 0 from rfl) (by decide) (fun rh4 Lh4 clh4 lnh4 ivh4 rvh4 h4 => ?_)
      obtain ⟨f4, rfl, rfl, rfl, rfl, rfl, fl4, W4, rgf4, exf4, kp11f4, kp12f4, kp13f4, kp14f4, kp15f4, kp16f4⟩ := h4
      refine hv14 (show 1 ≤ ivh2 a0 11 ∧ ivh2 a0 11 ≤ 100 from W2.int ty1 11) (show ivh2 a0 11 = iv a0 11 from fl2.i t_a0 rfl 11) (show 1 ≤ ivh2 a0 12 ∧ ivh2 a0 12 ≤ 50 from W2.int ty1 12) (show ivh2 a0 12 = iv a0 12 from fl2.i t_a0 rfl 12) (show (-2147483648) ≤ ivh2 a0 13 ∧ ivh2 a0 13 ≤ 2147483647 from W2.int ty1 13) (show ivh2 a0 13 = iv a0 13 from fl2.i t_a0 rfl 13) (show (-2147483648) ≤ ivh2 a0 14 ∧ ivh2 a0 14 ≤ 2147483647 from W2.int ty1 14) (show ivh2 a0 14 = iv a0 14 from fl2.i t_a0 rfl 14) (show (-2147483648) ≤ ivh2 a0 15 ∧ ivh2 a0 15 ≤ 2147483647 from W2.int ty1 15) (show ivh2 a0 15 = iv a0 15 from fl2.i t_a0 rfl 15) (show (-2147483648) ≤ ivh2 a0 16 ∧ ivh2 a0 16 ≤ 2147483647 from W2.int ty1 16) (show ivh2 a0 16 = iv a0 16 from fl2.i t_a0 rfl 16) (F1.call X1 fl4 rfl) (MRK.call mr1 W2 sk1 XT.refl fl4 rfl rfl) (fun ri2 ie2 ri3 ie3 ri4 ie4 ri5 ie5 ri6 ie6 ri7 ie7 F2 mr2 => ?_)
      refine c_st (st2 := [.int (iI f4)]) rfl ?_
      refine hv13 (show ivh4 a0 11 = ivh2 a0 11 from kp11f4) (show ivh4 a0 12 = ivh2 a0 12 from kp12f4) (show ivh4 a0 13 = ivh2 a0 13 from kp13f4) (show ivh4 a0 14 = ivh2 a0 14 from kp14f4) (show ivh4 a0 15 = ivh2 a0 15 from kp15f4) (show ivh4 a0 16 = ivh2 a0 16 from kp16f4) (show f4 = -1 from exf4) (show 1 ≤ ivh4 a0 11 ∧ ivh4 a0 11 ≤ 100 from W4.int ty1 11) (show 1 ≤ ivh4 a0 12 ∧ ivh4 a0 12 ≤ 50 from W4.int ty1 12) (show (-2147483648) ≤ ivh4 a0 13 ∧ ivh4 a0 13 ≤ 2147483647 from W4.int ty1 13) (show (-2147483648) ≤ ivh4 a0 14 ∧ ivh4 a0 14 ≤ 2147483647 from W4.int ty1 14) (show (-2147483648) ≤ ivh4 a0 15 ∧ ivh4 a0 15 ≤ 2147483647 from W4.int ty1 15) (show (-2147483648) ≤ ivh4 a0 16 ∧ ivh4 a0 16 ≤ 2147483647 from W4.int ty1 16) (fun gk11f4 gk12f4 gk13f4 gk14f4 gk15f4 gk16f4 gf4 ri8 ri9 ri10 ri11 ri12 ri13 => ?_)
      exact c_iret C dX11_parts_67 rfl (by decide) (rom0 hph pl1 (by decide)) ⟨f4, rfl, X1, F2, W4, ⟨by omega, by omega⟩, trivial, (gk11f4.trans ie2), (gk12f4.trans ie3), (gk13f4.trans ie4), (gk14f4.trans ie5), (gk15f4.trans ie6), (gk16f4.trans ie7), (show rvh2 a0 9 = rv a0 9 from (fl2.r t_a0 rfl 9)), (show rvh2 a0 10 = rv a0 10 from (fl2.r t_a0 rfl 10))⟩
    · refine c_iload_n (j := 4) C dX11_parts_46 rfl ?_
      refine c_iload (j := 0) C dX11_parts_47 rfl ?_
      refine c_icmp_ge (tgt := 62) C ⟨by omega, by omega⟩ ⟨by omega, by omega⟩ dX11_parts_49 (by decide) (fun c2 => ?_) (fun c2 => ?_)
      · refine c_aload_n (j := 2) (x := a0) C dX11_parts_62 rfl ?_
        refine c_iconst C dX11_parts_63 ?_
        refine d_callV (As := [.int (iI 2)]) (rest := []) C hM (C_refuse (a0 := a0) (x := 2) W2 sk1 ty1 ⟨by decide, by decide⟩ ) dX11_parts_64 kV_X11_102 rfl ty1 rfl rfl (by decide) ck_12 rfl (Nat.le_of_ble_eq_true rfl) ⟨(Nat.le_of_ble_eq_true rfl), (Nat.le_of_ble_eq_true rfl)⟩ hph pl1 (show 0 + 0 = 0 from rfl) (by decide) (fun rh5 Lh5 clh5 lnh5 ivh5 rvh5 h5 => ?_)
        obtain ⟨f5, rfl, rfl, rfl, rfl, rfl, fl5, W5, rgf5, exf5, kp11f5, kp12f5, kp13f5, kp14f5, kp15f5, kp16f5⟩ := h5
        refine hv14 (show 1 ≤ ivh2 a0 11 ∧ ivh2 a0 11 ≤ 100 from W2.int ty1 11) (show ivh2 a0 11 = iv a0 11 from fl2.i t_a0 rfl 11) (show 1 ≤ ivh2 a0 12 ∧ ivh2 a0 12 ≤ 50 from W2.int ty1 12) (show ivh2 a0 12 = iv a0 12 from fl2.i t_a0 rfl 12) (show (-2147483648) ≤ ivh2 a0 13 ∧ ivh2 a0 13 ≤ 2147483647 from W2.int ty1 13) (show ivh2 a0 13 = iv a0 13 from fl2.i t_a0 rfl 13) (show (-2147483648) ≤ ivh2 a0 14 ∧ ivh2 a0 14 ≤ 2147483647 from W2.int ty1 14) (show ivh2 a0 14 = iv a0 14 from fl2.i t_a0 rfl 14) (show (-2147483648) ≤ ivh2 a0 15 ∧ ivh2 a0 15 ≤ 2147483647 from W2.int ty1 15) (show ivh2 a0 15 = iv a0 15 from fl2.i t_a0 rfl 15) (show (-2147483648) ≤ ivh2 a0 16 ∧ ivh2 a0 16 ≤ 2147483647 from W2.int ty1 16) (show ivh2 a0 16 = iv a0 16 from fl2.i t_a0 rfl 16) (F1.call X1 fl5 rfl) (MRK.call mr1 W2 sk1 XT.refl fl5 rfl rfl) (fun ri14 ie14 ri15 ie15 ri16 ie16 ri17 ie17 ri18 ie18 ri19 ie19 F3 mr3 => ?_)
        refine c_st (st2 := [.int (iI f5)]) rfl ?_
        refine hv13 (show ivh5 a0 11 = ivh2 a0 11 from kp11f5) (show ivh5 a0 12 = ivh2 a0 12 from kp12f5) (show ivh5 a0 13 = ivh2 a0 13 from kp13f5) (show ivh5 a0 14 = ivh2 a0 14 from kp14f5) (show ivh5 a0 15 = ivh2 a0 15 from kp15f5) (show ivh5 a0 16 = ivh2 a0 16 from kp16f5) (show f5 = -1 from exf5) (show 1 ≤ ivh5 a0 11 ∧ ivh5 a0 11 ≤ 100 from W5.int ty1 11) (show 1 ≤ ivh5 a0 12 ∧ ivh5 a0 12 ≤ 50 from W5.int ty1 12) (show (-2147483648) ≤ ivh5 a0 13 ∧ ivh5 a0 13 ≤ 2147483647 from W5.int ty1 13) (show (-2147483648) ≤ ivh5 a0 14 ∧ ivh5 a0 14 ≤ 2147483647 from W5.int ty1 14) (show (-2147483648) ≤ ivh5 a0 15 ∧ ivh5 a0 15 ≤ 2147483647 from W5.int ty1 15) (show (-2147483648) ≤ ivh5 a0 16 ∧ ivh5 a0 16 ≤ 2147483647 from W5.int ty1 16) (fun gk11f5 gk12f5 gk13f5 gk14f5 gk15f5 gk16f5 gf5 ri20 ri21 ri22 ri23 ri24 ri25 => ?_)
        exact c_iret C dX11_parts_67 rfl (by decide) (rom0 hph pl1 (by decide)) ⟨f5, rfl, X1, F3, W5, ⟨by omega, by omega⟩, trivial, (gk11f5.trans ie14), (gk12f5.trans ie15), (gk13f5.trans ie16), (gk14f5.trans ie17), (gk15f5.trans ie18), (gk16f5.trans ie19), (show rvh2 a0 9 = rv a0 9 from (fl2.r t_a0 rfl 9)), (show rvh2 a0 10 = rv a0 10 from (fl2.r t_a0 rfl 10))⟩
      · refine c_iload_n (j := 5) C dX11_parts_52 rfl ?_
        refine c_if_lt (tgt := 62) C ⟨by omega, by omega⟩ dX11_parts_53 (by decide) (fun c3 => ?_) (fun c3 => ?_)
        · refine c_aload_n (j := 2) (x := a0) C dX11_parts_62 rfl ?_
          refine c_iconst C dX11_parts_63 ?_
          refine d_callV (As := [.int (iI 2)]) (rest := []) C hM (C_refuse (a0 := a0) (x := 2) W2 sk1 ty1 ⟨by decide, by decide⟩ ) dX11_parts_64 kV_X11_102 rfl ty1 rfl rfl (by decide) ck_12 rfl (Nat.le_of_ble_eq_true rfl) ⟨(Nat.le_of_ble_eq_true rfl), (Nat.le_of_ble_eq_true rfl)⟩ hph pl1 (show 0 + 0 = 0 from rfl) (by decide) (fun rh6 Lh6 clh6 lnh6 ivh6 rvh6 h6 => ?_)
          obtain ⟨f6, rfl, rfl, rfl, rfl, rfl, fl6, W6, rgf6, exf6, kp11f6, kp12f6, kp13f6, kp14f6, kp15f6, kp16f6⟩ := h6
          refine hv14 (show 1 ≤ ivh2 a0 11 ∧ ivh2 a0 11 ≤ 100 from W2.int ty1 11) (show ivh2 a0 11 = iv a0 11 from fl2.i t_a0 rfl 11) (show 1 ≤ ivh2 a0 12 ∧ ivh2 a0 12 ≤ 50 from W2.int ty1 12) (show ivh2 a0 12 = iv a0 12 from fl2.i t_a0 rfl 12) (show (-2147483648) ≤ ivh2 a0 13 ∧ ivh2 a0 13 ≤ 2147483647 from W2.int ty1 13) (show ivh2 a0 13 = iv a0 13 from fl2.i t_a0 rfl 13) (show (-2147483648) ≤ ivh2 a0 14 ∧ ivh2 a0 14 ≤ 2147483647 from W2.int ty1 14) (show ivh2 a0 14 = iv a0 14 from fl2.i t_a0 rfl 14) (show (-2147483648) ≤ ivh2 a0 15 ∧ ivh2 a0 15 ≤ 2147483647 from W2.int ty1 15) (show ivh2 a0 15 = iv a0 15 from fl2.i t_a0 rfl 15) (show (-2147483648) ≤ ivh2 a0 16 ∧ ivh2 a0 16 ≤ 2147483647 from W2.int ty1 16) (show ivh2 a0 16 = iv a0 16 from fl2.i t_a0 rfl 16) (F1.call X1 fl6 rfl) (MRK.call mr1 W2 sk1 XT.refl fl6 rfl rfl) (fun ri26 ie26 ri27 ie27 ri28 ie28 ri29 ie29 ri30 ie30 ri31 ie31 F4 mr4 => ?_)
          refine c_st (st2 := [.int (iI f6)]) rfl ?_
          refine hv13 (show ivh6 a0 11 = ivh2 a0 11 from kp11f6) (show ivh6 a0 12 = ivh2 a0 12 from kp12f6) (show ivh6 a0 13 = ivh2 a0 13 from kp13f6) (show ivh6 a0 14 = ivh2 a0 14 from kp14f6) (show ivh6 a0 15 = ivh2 a0 15 from kp15f6) (show ivh6 a0 16 = ivh2 a0 16 from kp16f6) (show f6 = -1 from exf6) (show 1 ≤ ivh6 a0 11 ∧ ivh6 a0 11 ≤ 100 from W6.int ty1 11) (show 1 ≤ ivh6 a0 12 ∧ ivh6 a0 12 ≤ 50 from W6.int ty1 12) (show (-2147483648) ≤ ivh6 a0 13 ∧ ivh6 a0 13 ≤ 2147483647 from W6.int ty1 13) (show (-2147483648) ≤ ivh6 a0 14 ∧ ivh6 a0 14 ≤ 2147483647 from W6.int ty1 14) (show (-2147483648) ≤ ivh6 a0 15 ∧ ivh6 a0 15 ≤ 2147483647 from W6.int ty1 15) (show (-2147483648) ≤ ivh6 a0 16 ∧ ivh6 a0 16 ≤ 2147483647 from W6.int ty1 16) (fun gk11f6 gk12f6 gk13f6 gk14f6 gk15f6 gk16f6 gf6 ri32 ri33 ri34 ri35 ri36 ri37 => ?_)
          exact c_iret C dX11_parts_67 rfl (by decide) (rom0 hph pl1 (by decide)) ⟨f6, rfl, X1, F4, W6, ⟨by omega, by omega⟩, trivial, (gk11f6.trans ie26), (gk12f6.trans ie27), (gk13f6.trans ie28), (gk14f6.trans ie29), (gk15f6.trans ie30), (gk16f6.trans ie31), (show rvh2 a0 9 = rv a0 9 from (fl2.r t_a0 rfl 9)), (show rvh2 a0 10 = rv a0 10 from (fl2.r t_a0 rfl 10))⟩
        · refine c_iload_n (j := 5) C dX11_parts_56 rfl ?_
          refine c_iload (j := 0) C dX11_parts_57 rfl ?_
          refine c_icmp_lt (tgt := 68) C ⟨by omega, by omega⟩ ⟨by omega, by omega⟩ dX11_parts_59 (by decide) (fun c4 => ?_) (fun c4 => ?_)
          · refine c_aload_n (j := 2) (x := a0) C dX11_parts_68 rfl ?_
            refine c_getr (k := 7) C ck_12 dX11_parts_69 w2_51 (by decide) ty1 rfl rfl (by decide) rfl re1 ?_
            refine c_st (st2 := [.ref (sk 16)]) rfl ?_
            refine c_getr (k := 0) C ck_4 dX11_parts_72 w1_192 (by decide) ty2 rfl rfl (by decide) rfl rq3 ?_
            refine c_st (st2 := [.ref (sk 24)]) rfl ?_
            refine c_iload_n (j := 4) C dX11_parts_75 rfl ?_
            refine d_callV (As := [.int (iI j)]) (rest := []) C hM (C_get_24 (a0 := (sk 24)) (i := j) W2 sk1 ty3 (by omega) (by show 0 ≤ j ∧ j < ivh2 (sk 24) 2; omega)) dX11_parts_76 kV_X11_204 rfl ty3 rfl rfl (by decide) ck_0 rfl (Nat.le_of_ble_eq_true rfl) ⟨(Nat.le_of_ble_eq_true rfl), (Nat.le_of_ble_eq_true rfl)⟩ hph pl1 (show 0 + 0 = 0 from rfl) (by decide) (fun rh7 Lh7 clh7 lnh7 ivh7 rvh7 h7 => ?_)
            obtain ⟨f7, rfl, rfl, rfl, rfl, rfl, rfl, rgf7, exf7⟩ := h7
            refine c_st (st2 := [.ref f7]) rfl ?_
            have gf7 : el rvh2 (sk 24) j.toNat = some f7 := exf7
            refine c_cast C ck_6 dX11_parts_79 w3_125 w8_169t rgf7 rfl rfl (by decide) ?_
            refine c_astore (lv2 := [(6, .ref f7), (5, .int (iI f3)), (4, .ref ob1), (0, .ref a0), (1, .int (iI i)), (2, .int (iI j)), (3, .int (iI k))]) C dX11_parts_82 (by decide) rfl ?_
            refine c_aload_n (j := 3) (x := a0) C dX11_parts_84 rfl ?_
            refine c_getr (k := 7) C ck_12 dX11_parts_85 w2_51 (by decide) ty1 rfl rfl (by decide) rfl re1 ?_
            refine c_st (st2 := [.ref (sk 16)]) rfl ?_
            refine c_getr (k := 0) C ck_4 dX11_parts_88 w1_192 (by decide) ty2 rfl rfl (by decide) rfl rq3 ?_
            refine c_st (st2 := [.ref (sk 24)]) rfl ?_
            refine c_iload_n (j := 6) C dX11_parts_91 rfl ?_
            refine d_callV (As := [.int (iI k)]) (rest := []) C hM (C_get_24 (a0 := (sk 24)) (i := k) W2 sk1 ty3 (by omega) (by show 0 ≤ k ∧ k < ivh2 (sk 24) 2; omega)) dX11_parts_92 kV_X11_204 rfl ty3 rfl rfl (by decide) ck_0 rfl (Nat.le_of_ble_eq_true rfl) ⟨(Nat.le_of_ble_eq_true rfl), (Nat.le_of_ble_eq_true rfl)⟩ hph pl1 (show 0 + 0 = 0 from rfl) (by decide) (fun rh8 Lh8 clh8 lnh8 ivh8 rvh8 h8 => ?_)
            obtain ⟨f8, rfl, rfl, rfl, rfl, rfl, rfl, rgf8, exf8⟩ := h8
            refine c_st (st2 := [.ref f8]) rfl ?_
            have gf8 : el rvh2 (sk 24) k.toNat = some f8 := exf8
            refine c_cast C ck_6 dX11_parts_95 w3_125 w8_169t rgf8 rfl rfl (by decide) ?_
            refine c_astore (lv2 := [(7, .ref f8), (6, .ref f7), (5, .int (iI f3)), (4, .ref ob1), (0, .ref a0), (1, .int (iI i)), (2, .int (iI j)), (3, .int (iI k))]) C dX11_parts_98 (by decide) rfl ?_
            refine c_aload (j := 1) (x := f7) C dX11_parts_100 rfl ?_
            refine c_aload (j := 0) (x := f8) C dX11_parts_102 rfl ?_
            refine d_callV (As := [.ref f8]) (rest := []) C hM (C_alike (a0 := f7) (a1 := f8) W2 sk1 rgf7 rgf8  ) dX11_parts_104 kV_X11_380 rfl rgf7 rfl rfl (by decide) ck_6 rfl (Nat.le_of_ble_eq_true rfl) ⟨(Nat.le_of_ble_eq_true rfl), (Nat.le_of_ble_eq_true rfl)⟩ hph pl1 (show 0 + 0 = 0 from rfl) (by decide) (fun rh9 Lh9 clh9 lnh9 ivh9 rvh9 h9 => ?_)
            obtain ⟨f9, rfl, rfl, rfl, rfl, rfl, rfl, rgf9, exf9⟩ := h9
            refine c_st (st2 := [.int (iI f9)]) rfl ?_
            have gf9 : 0 ≤ f9 ∧ f9 ≤ 4 := exf9
            refine c_istore (lv2 := [(8, .int (iI f9)), (7, .ref f8), (6, .ref f7), (5, .int (iI f3)), (4, .ref ob1), (0, .ref a0), (1, .int (iI i)), (2, .int (iI j)), (3, .int (iI k))]) C dX11_parts_107 (by decide) rfl ?_
            refine c_iload (j := 0) C dX11_parts_109 rfl ?_
            refine c_aload (j := 2) (x := f7) C dX11_parts_111 rfl ?_
            obtain ⟨rb4, rq4, trb4⟩ := W2.ref rgf7 2 rfl rfl rfl
            have lnrb4 : 1 ≤ lnh2 rb4 ∧ lnh2 rb4 ≤ 4 := W2.len trb4 rfl
            refine c_getr (k := 2) C ck_6 dX11_parts_113 w3_146 (by decide) rgf7 rfl rfl (by decide) rfl rq4 ?_
            refine c_st (st2 := [.ref rb4, .int (iI f9)]) rfl ?_
            have ll1 : 1 ≤ lnh2 rb4 ∧ lnh2 rb4 ≤ 4 := W2.len trb4 rfl
            refine c_alenI C dX11_parts_116 trb4 rfl ?_
            refine c_icmp_eq (tgt := 131) C (r32_c (lo := 0) (hi := 4) gf9.1 gf9.2 (by decide) (by decide)) ⟨by omega, by omega⟩ dX11_parts_117 (by decide) (fun c5 => ?_) (fun c5 => ?_)
            · refine c_iconst C dX11_parts_131 ?_
              refine c_goto (tgt := 136) C dX11_parts_132 (by decide) ?_
              refine c_istore (lv2 := [(9, .int (iI 1)), (8, .int (iI f9)), (7, .ref f8), (6, .ref f7), (5, .int (iI f3)), (4, .ref ob1), (0, .ref a0), (1, .int (iI i)), (2, .int (iI j)), (3, .int (iI k))]) C dX11_parts_136 (by decide) rfl ?_
              refine c_aload_n (j := 6) (x := a0) C dX11_parts_138 rfl ?_
              refine c_iload (j := 0) C dX11_parts_139 rfl ?_
              refine c_if_eq (tgt := 151) C ⟨by decide, by decide⟩ dX11_parts_141 (by decide) (fun z => absurd z (by omega)) (fun _ => ?_)
              refine c_iconst C dX11_parts_144 ?_
              refine c_iload (j := 1) C dX11_parts_145 rfl ?_
              refine c_isub C dX11_parts_147 ?_
              refine c_goto (tgt := 153) C dX11_parts_148 (by decide) ?_
              refine d_callV (As := [.int (iI ((-1) - f9))]) (rest := []) C hM (C_done (a0 := a0) (x := (-1) - f9) W2 sk1 ty1 (by omega) ) dX11_parts_153 kV_X11_109 rfl ty1 rfl rfl (by decide) ck_12 rfl (Nat.le_of_ble_eq_true rfl) ⟨(Nat.le_of_ble_eq_true rfl), (Nat.le_of_ble_eq_true rfl)⟩ hph pl1 (show 0 + 0 = 0 from rfl) (by decide) (fun rh10 Lh10 clh10 lnh10 ivh10 rvh10 h10 => ?_)
              obtain ⟨f10, rfl, rfl, rfl, rfl, rfl, fl10, W10, rgf10, exf10, kp11f10, kp12f10, kp13f10, kp14f10, kp15f10, kp16f10⟩ := h10
              refine hv14 (show 1 ≤ ivh2 a0 11 ∧ ivh2 a0 11 ≤ 100 from W2.int ty1 11) (show ivh2 a0 11 = iv a0 11 from fl2.i t_a0 rfl 11) (show 1 ≤ ivh2 a0 12 ∧ ivh2 a0 12 ≤ 50 from W2.int ty1 12) (show ivh2 a0 12 = iv a0 12 from fl2.i t_a0 rfl 12) (show (-2147483648) ≤ ivh2 a0 13 ∧ ivh2 a0 13 ≤ 2147483647 from W2.int ty1 13) (show ivh2 a0 13 = iv a0 13 from fl2.i t_a0 rfl 13) (show (-2147483648) ≤ ivh2 a0 14 ∧ ivh2 a0 14 ≤ 2147483647 from W2.int ty1 14) (show ivh2 a0 14 = iv a0 14 from fl2.i t_a0 rfl 14) (show (-2147483648) ≤ ivh2 a0 15 ∧ ivh2 a0 15 ≤ 2147483647 from W2.int ty1 15) (show ivh2 a0 15 = iv a0 15 from fl2.i t_a0 rfl 15) (show (-2147483648) ≤ ivh2 a0 16 ∧ ivh2 a0 16 ≤ 2147483647 from W2.int ty1 16) (show ivh2 a0 16 = iv a0 16 from fl2.i t_a0 rfl 16) (F1.call X1 fl10 rfl) (MRK.call mr1 W2 sk1 XT.refl fl10 rfl rfl) (fun ri38 ie38 ri39 ie39 ri40 ie40 ri41 ie41 ri42 ie42 ri43 ie43 F5 mr5 => ?_)
              refine c_st (st2 := [.int (iI f10)]) rfl ?_
              refine hv13 (show ivh10 a0 11 = ivh2 a0 11 from kp11f10) (show ivh10 a0 12 = ivh2 a0 12 from kp12f10) (show ivh10 a0 13 = ivh2 a0 13 from kp13f10) (show ivh10 a0 14 = ivh2 a0 14 from kp14f10) (show ivh10 a0 15 = ivh2 a0 15 from kp15f10) (show ivh10 a0 16 = ivh2 a0 16 from kp16f10) (show f10 = ((-1) - f9) from exf10) (show 1 ≤ ivh10 a0 11 ∧ ivh10 a0 11 ≤ 100 from W10.int ty1 11) (show 1 ≤ ivh10 a0 12 ∧ ivh10 a0 12 ≤ 50 from W10.int ty1 12) (show (-2147483648) ≤ ivh10 a0 13 ∧ ivh10 a0 13 ≤ 2147483647 from W10.int ty1 13) (show (-2147483648) ≤ ivh10 a0 14 ∧ ivh10 a0 14 ≤ 2147483647 from W10.int ty1 14) (show (-2147483648) ≤ ivh10 a0 15 ∧ ivh10 a0 15 ≤ 2147483647 from W10.int ty1 15) (show (-2147483648) ≤ ivh10 a0 16 ∧ ivh10 a0 16 ≤ 2147483647 from W10.int ty1 16) (fun gk11f10 gk12f10 gk13f10 gk14f10 gk15f10 gk16f10 gf10 ri44 ri45 ri46 ri47 ri48 ri49 => ?_)
              exact c_iret C dX11_parts_156 rfl (by decide) (rom0 hph pl1 (by decide)) ⟨f10, rfl, X1, F5, W10, ⟨by omega, by omega⟩, trivial, (gk11f10.trans ie38), (gk12f10.trans ie39), (gk13f10.trans ie40), (gk14f10.trans ie41), (gk15f10.trans ie42), (gk16f10.trans ie43), (show rvh2 a0 9 = rv a0 9 from (fl2.r t_a0 rfl 9)), (show rvh2 a0 10 = rv a0 10 from (fl2.r t_a0 rfl 10))⟩
            · refine c_iload (j := 0) C dX11_parts_120 rfl ?_
              refine c_aload (j := 1) (x := f8) C dX11_parts_122 rfl ?_
              obtain ⟨rb5, rq5, trb5⟩ := W2.ref rgf8 2 rfl rfl rfl
              have lnrb5 : 1 ≤ lnh2 rb5 ∧ lnh2 rb5 ≤ 4 := W2.len trb5 rfl
              refine c_getr (k := 2) C ck_6 dX11_parts_124 w3_146 (by decide) rgf8 rfl rfl (by decide) rfl rq5 ?_
              refine c_st (st2 := [.ref rb5, .int (iI f9)]) rfl ?_
              have ll2 : 1 ≤ lnh2 rb5 ∧ lnh2 rb5 ≤ 4 := W2.len trb5 rfl
              refine c_alenI C dX11_parts_127 trb5 rfl ?_
              refine c_icmp_ne (tgt := 135) C (r32_c (lo := 0) (hi := 4) gf9.1 gf9.2 (by decide) (by decide)) ⟨by omega, by omega⟩ dX11_parts_128 (by decide) (fun c6 => ?_) (fun c6 => ?_)
              · refine c_iconst C dX11_parts_135 ?_
                refine c_istore (lv2 := [(9, .int (iI 0)), (8, .int (iI f9)), (7, .ref f8), (6, .ref f7), (5, .int (iI f3)), (4, .ref ob1), (0, .ref a0), (1, .int (iI i)), (2, .int (iI j)), (3, .int (iI k))]) C dX11_parts_136 (by decide) rfl ?_
                refine c_aload_n (j := 6) (x := a0) C dX11_parts_138 rfl ?_
                refine c_iload (j := 0) C dX11_parts_139 rfl ?_
                refine c_if_eq (tgt := 151) C ⟨by decide, by decide⟩ dX11_parts_141 (by decide) (fun _ => ?_) (fun z => absurd z (by omega))
                refine c_iload (j := 1) C dX11_parts_151 rfl ?_
                refine d_callV (As := [.int (iI f9)]) (rest := []) C hM (C_done (a0 := a0) (x := f9) W2 sk1 ty1 (by omega) ) dX11_parts_153 kV_X11_109 rfl ty1 rfl rfl (by decide) ck_12 rfl (Nat.le_of_ble_eq_true rfl) ⟨(Nat.le_of_ble_eq_true rfl), (Nat.le_of_ble_eq_true rfl)⟩ hph pl1 (show 0 + 0 = 0 from rfl) (by decide) (fun rh11 Lh11 clh11 lnh11 ivh11 rvh11 h11 => ?_)
                obtain ⟨f11, rfl, rfl, rfl, rfl, rfl, fl11, W11, rgf11, exf11, kp11f11, kp12f11, kp13f11, kp14f11, kp15f11, kp16f11⟩ := h11
                refine hv14 (show 1 ≤ ivh2 a0 11 ∧ ivh2 a0 11 ≤ 100 from W2.int ty1 11) (show ivh2 a0 11 = iv a0 11 from fl2.i t_a0 rfl 11) (show 1 ≤ ivh2 a0 12 ∧ ivh2 a0 12 ≤ 50 from W2.int ty1 12) (show ivh2 a0 12 = iv a0 12 from fl2.i t_a0 rfl 12) (show (-2147483648) ≤ ivh2 a0 13 ∧ ivh2 a0 13 ≤ 2147483647 from W2.int ty1 13) (show ivh2 a0 13 = iv a0 13 from fl2.i t_a0 rfl 13) (show (-2147483648) ≤ ivh2 a0 14 ∧ ivh2 a0 14 ≤ 2147483647 from W2.int ty1 14) (show ivh2 a0 14 = iv a0 14 from fl2.i t_a0 rfl 14) (show (-2147483648) ≤ ivh2 a0 15 ∧ ivh2 a0 15 ≤ 2147483647 from W2.int ty1 15) (show ivh2 a0 15 = iv a0 15 from fl2.i t_a0 rfl 15) (show (-2147483648) ≤ ivh2 a0 16 ∧ ivh2 a0 16 ≤ 2147483647 from W2.int ty1 16) (show ivh2 a0 16 = iv a0 16 from fl2.i t_a0 rfl 16) (F1.call X1 fl11 rfl) (MRK.call mr1 W2 sk1 XT.refl fl11 rfl rfl) (fun ri50 ie50 ri51 ie51 ri52 ie52 ri53 ie53 ri54 ie54 ri55 ie55 F6 mr6 => ?_)
                refine c_st (st2 := [.int (iI f11)]) rfl ?_
                refine hv13 (show ivh11 a0 11 = ivh2 a0 11 from kp11f11) (show ivh11 a0 12 = ivh2 a0 12 from kp12f11) (show ivh11 a0 13 = ivh2 a0 13 from kp13f11) (show ivh11 a0 14 = ivh2 a0 14 from kp14f11) (show ivh11 a0 15 = ivh2 a0 15 from kp15f11) (show ivh11 a0 16 = ivh2 a0 16 from kp16f11) (show f11 = f9 from exf11) (show 1 ≤ ivh11 a0 11 ∧ ivh11 a0 11 ≤ 100 from W11.int ty1 11) (show 1 ≤ ivh11 a0 12 ∧ ivh11 a0 12 ≤ 50 from W11.int ty1 12) (show (-2147483648) ≤ ivh11 a0 13 ∧ ivh11 a0 13 ≤ 2147483647 from W11.int ty1 13) (show (-2147483648) ≤ ivh11 a0 14 ∧ ivh11 a0 14 ≤ 2147483647 from W11.int ty1 14) (show (-2147483648) ≤ ivh11 a0 15 ∧ ivh11 a0 15 ≤ 2147483647 from W11.int ty1 15) (show (-2147483648) ≤ ivh11 a0 16 ∧ ivh11 a0 16 ≤ 2147483647 from W11.int ty1 16) (fun gk11f11 gk12f11 gk13f11 gk14f11 gk15f11 gk16f11 gf11 ri56 ri57 ri58 ri59 ri60 ri61 => ?_)
                exact c_iret C dX11_parts_156 rfl (by decide) (rom0 hph pl1 (by decide)) ⟨f11, rfl, X1, F6, W11, ⟨by omega, by omega⟩, trivial, (gk11f11.trans ie50), (gk12f11.trans ie51), (gk13f11.trans ie52), (gk14f11.trans ie53), (gk15f11.trans ie54), (gk16f11.trans ie55), (show rvh2 a0 9 = rv a0 9 from (fl2.r t_a0 rfl 9)), (show rvh2 a0 10 = rv a0 10 from (fl2.r t_a0 rfl 10))⟩
              · refine c_iconst C dX11_parts_131 ?_
                refine c_goto (tgt := 136) C dX11_parts_132 (by decide) ?_
                refine c_istore (lv2 := [(9, .int (iI 1)), (8, .int (iI f9)), (7, .ref f8), (6, .ref f7), (5, .int (iI f3)), (4, .ref ob1), (0, .ref a0), (1, .int (iI i)), (2, .int (iI j)), (3, .int (iI k))]) C dX11_parts_136 (by decide) rfl ?_
                refine c_aload_n (j := 6) (x := a0) C dX11_parts_138 rfl ?_
                refine c_iload (j := 0) C dX11_parts_139 rfl ?_
                refine c_if_eq (tgt := 151) C ⟨by decide, by decide⟩ dX11_parts_141 (by decide) (fun z => absurd z (by omega)) (fun _ => ?_)
                refine c_iconst C dX11_parts_144 ?_
                refine c_iload (j := 1) C dX11_parts_145 rfl ?_
                refine c_isub C dX11_parts_147 ?_
                refine c_goto (tgt := 153) C dX11_parts_148 (by decide) ?_
                refine d_callV (As := [.int (iI ((-1) - f9))]) (rest := []) C hM (C_done (a0 := a0) (x := (-1) - f9) W2 sk1 ty1 (by omega) ) dX11_parts_153 kV_X11_109 rfl ty1 rfl rfl (by decide) ck_12 rfl (Nat.le_of_ble_eq_true rfl) ⟨(Nat.le_of_ble_eq_true rfl), (Nat.le_of_ble_eq_true rfl)⟩ hph pl1 (show 0 + 0 = 0 from rfl) (by decide) (fun rh12 Lh12 clh12 lnh12 ivh12 rvh12 h12 => ?_)
                obtain ⟨f12, rfl, rfl, rfl, rfl, rfl, fl12, W12, rgf12, exf12, kp11f12, kp12f12, kp13f12, kp14f12, kp15f12, kp16f12⟩ := h12
                refine hv14 (show 1 ≤ ivh2 a0 11 ∧ ivh2 a0 11 ≤ 100 from W2.int ty1 11) (show ivh2 a0 11 = iv a0 11 from fl2.i t_a0 rfl 11) (show 1 ≤ ivh2 a0 12 ∧ ivh2 a0 12 ≤ 50 from W2.int ty1 12) (show ivh2 a0 12 = iv a0 12 from fl2.i t_a0 rfl 12) (show (-2147483648) ≤ ivh2 a0 13 ∧ ivh2 a0 13 ≤ 2147483647 from W2.int ty1 13) (show ivh2 a0 13 = iv a0 13 from fl2.i t_a0 rfl 13) (show (-2147483648) ≤ ivh2 a0 14 ∧ ivh2 a0 14 ≤ 2147483647 from W2.int ty1 14) (show ivh2 a0 14 = iv a0 14 from fl2.i t_a0 rfl 14) (show (-2147483648) ≤ ivh2 a0 15 ∧ ivh2 a0 15 ≤ 2147483647 from W2.int ty1 15) (show ivh2 a0 15 = iv a0 15 from fl2.i t_a0 rfl 15) (show (-2147483648) ≤ ivh2 a0 16 ∧ ivh2 a0 16 ≤ 2147483647 from W2.int ty1 16) (show ivh2 a0 16 = iv a0 16 from fl2.i t_a0 rfl 16) (F1.call X1 fl12 rfl) (MRK.call mr1 W2 sk1 XT.refl fl12 rfl rfl) (fun ri62 ie62 ri63 ie63 ri64 ie64 ri65 ie65 ri66 ie66 ri67 ie67 F7 mr7 => ?_)
                refine c_st (st2 := [.int (iI f12)]) rfl ?_
                refine hv13 (show ivh12 a0 11 = ivh2 a0 11 from kp11f12) (show ivh12 a0 12 = ivh2 a0 12 from kp12f12) (show ivh12 a0 13 = ivh2 a0 13 from kp13f12) (show ivh12 a0 14 = ivh2 a0 14 from kp14f12) (show ivh12 a0 15 = ivh2 a0 15 from kp15f12) (show ivh12 a0 16 = ivh2 a0 16 from kp16f12) (show f12 = ((-1) - f9) from exf12) (show 1 ≤ ivh12 a0 11 ∧ ivh12 a0 11 ≤ 100 from W12.int ty1 11) (show 1 ≤ ivh12 a0 12 ∧ ivh12 a0 12 ≤ 50 from W12.int ty1 12) (show (-2147483648) ≤ ivh12 a0 13 ∧ ivh12 a0 13 ≤ 2147483647 from W12.int ty1 13) (show (-2147483648) ≤ ivh12 a0 14 ∧ ivh12 a0 14 ≤ 2147483647 from W12.int ty1 14) (show (-2147483648) ≤ ivh12 a0 15 ∧ ivh12 a0 15 ≤ 2147483647 from W12.int ty1 15) (show (-2147483648) ≤ ivh12 a0 16 ∧ ivh12 a0 16 ≤ 2147483647 from W12.int ty1 16) (fun gk11f12 gk12f12 gk13f12 gk14f12 gk15f12 gk16f12 gf12 ri68 ri69 ri70 ri71 ri72 ri73 => ?_)
                exact c_iret C dX11_parts_156 rfl (by decide) (rom0 hph pl1 (by decide)) ⟨f12, rfl, X1, F7, W12, ⟨by omega, by omega⟩, trivial, (gk11f12.trans ie62), (gk12f12.trans ie63), (gk13f12.trans ie64), (gk14f12.trans ie65), (gk15f12.trans ie66), (gk16f12.trans ie67), (show rvh2 a0 9 = rv a0 9 from (fl2.r t_a0 rfl 9)), (show rvh2 a0 10 = rv a0 10 from (fl2.r t_a0 rfl 10))⟩
          · refine c_aload_n (j := 2) (x := a0) C dX11_parts_62 rfl ?_
            refine c_iconst C dX11_parts_63 ?_
            refine d_callV (As := [.int (iI 2)]) (rest := []) C hM (C_refuse (a0 := a0) (x := 2) W2 sk1 ty1 ⟨by decide, by decide⟩ ) dX11_parts_64 kV_X11_102 rfl ty1 rfl rfl (by decide) ck_12 rfl (Nat.le_of_ble_eq_true rfl) ⟨(Nat.le_of_ble_eq_true rfl), (Nat.le_of_ble_eq_true rfl)⟩ hph pl1 (show 0 + 0 = 0 from rfl) (by decide) (fun rh13 Lh13 clh13 lnh13 ivh13 rvh13 h13 => ?_)
            obtain ⟨f13, rfl, rfl, rfl, rfl, rfl, fl13, W13, rgf13, exf13, kp11f13, kp12f13, kp13f13, kp14f13, kp15f13, kp16f13⟩ := h13
            refine hv14 (show 1 ≤ ivh2 a0 11 ∧ ivh2 a0 11 ≤ 100 from W2.int ty1 11) (show ivh2 a0 11 = iv a0 11 from fl2.i t_a0 rfl 11) (show 1 ≤ ivh2 a0 12 ∧ ivh2 a0 12 ≤ 50 from W2.int ty1 12) (show ivh2 a0 12 = iv a0 12 from fl2.i t_a0 rfl 12) (show (-2147483648) ≤ ivh2 a0 13 ∧ ivh2 a0 13 ≤ 2147483647 from W2.int ty1 13) (show ivh2 a0 13 = iv a0 13 from fl2.i t_a0 rfl 13) (show (-2147483648) ≤ ivh2 a0 14 ∧ ivh2 a0 14 ≤ 2147483647 from W2.int ty1 14) (show ivh2 a0 14 = iv a0 14 from fl2.i t_a0 rfl 14) (show (-2147483648) ≤ ivh2 a0 15 ∧ ivh2 a0 15 ≤ 2147483647 from W2.int ty1 15) (show ivh2 a0 15 = iv a0 15 from fl2.i t_a0 rfl 15) (show (-2147483648) ≤ ivh2 a0 16 ∧ ivh2 a0 16 ≤ 2147483647 from W2.int ty1 16) (show ivh2 a0 16 = iv a0 16 from fl2.i t_a0 rfl 16) (F1.call X1 fl13 rfl) (MRK.call mr1 W2 sk1 XT.refl fl13 rfl rfl) (fun ri74 ie74 ri75 ie75 ri76 ie76 ri77 ie77 ri78 ie78 ri79 ie79 F8 mr8 => ?_)
            refine c_st (st2 := [.int (iI f13)]) rfl ?_
            refine hv13 (show ivh13 a0 11 = ivh2 a0 11 from kp11f13) (show ivh13 a0 12 = ivh2 a0 12 from kp12f13) (show ivh13 a0 13 = ivh2 a0 13 from kp13f13) (show ivh13 a0 14 = ivh2 a0 14 from kp14f13) (show ivh13 a0 15 = ivh2 a0 15 from kp15f13) (show ivh13 a0 16 = ivh2 a0 16 from kp16f13) (show f13 = -1 from exf13) (show 1 ≤ ivh13 a0 11 ∧ ivh13 a0 11 ≤ 100 from W13.int ty1 11) (show 1 ≤ ivh13 a0 12 ∧ ivh13 a0 12 ≤ 50 from W13.int ty1 12) (show (-2147483648) ≤ ivh13 a0 13 ∧ ivh13 a0 13 ≤ 2147483647 from W13.int ty1 13) (show (-2147483648) ≤ ivh13 a0 14 ∧ ivh13 a0 14 ≤ 2147483647 from W13.int ty1 14) (show (-2147483648) ≤ ivh13 a0 15 ∧ ivh13 a0 15 ≤ 2147483647 from W13.int ty1 15) (show (-2147483648) ≤ ivh13 a0 16 ∧ ivh13 a0 16 ≤ 2147483647 from W13.int ty1 16) (fun gk11f13 gk12f13 gk13f13 gk14f13 gk15f13 gk16f13 gf13 ri80 ri81 ri82 ri83 ri84 ri85 => ?_)
            exact c_iret C dX11_parts_67 rfl (by decide) (rom0 hph pl1 (by decide)) ⟨f13, rfl, X1, F8, W13, ⟨by omega, by omega⟩, trivial, (gk11f13.trans ie74), (gk12f13.trans ie75), (gk13f13.trans ie76), (gk14f13.trans ie77), (gk15f13.trans ie78), (gk16f13.trans ie79), (show rvh2 a0 9 = rv a0 9 from (fl2.r t_a0 rfl 9)), (show rvh2 a0 10 = rv a0 10 from (fl2.r t_a0 rfl 10))⟩
  · subst oq1
    refine c_lv (lv2 := [(4, .null), (0, .ref a0), (1, .int (iI i)), (2, .int (iI j)), (3, .int (iI k))]) [0, 1, 2, 3, 4] rfl ?_
    refine c_st (st2 := []) rfl ?_
    refine c_aload_n (j := 1) (x := a0) C dX11_parts_15 rfl ?_
    refine c_iconst C dX11_parts_16 ?_
    refine d_callV (As := [.int (iI 3)]) (rest := []) C hM (C_refuse (a0 := a0) (x := 3) hW hS t_a0 ⟨by decide, by decide⟩ ) dX11_parts_17 kV_X11_102 rfl t_a0 rfl rfl (by decide) ck_12 rfl (Nat.le_of_ble_eq_true rfl) ⟨(Nat.le_of_ble_eq_true rfl), (Nat.le_of_ble_eq_true rfl)⟩ hph hph (show 0 + 0 = 0 from rfl) (by decide) (fun rh14 Lh14 clh14 lnh14 ivh14 rvh14 h14 => ?_)
    obtain ⟨f14, rfl, rfl, rfl, rfl, rfl, fl14, W14, rgf14, exf14, kp11f14, kp12f14, kp13f14, kp14f14, kp15f14, kp16f14⟩ := h14
    refine hv8 (show 1 ≤ iv a0 11 ∧ iv a0 11 ≤ 100 from hW.int t_a0 11) (show 1 ≤ iv a0 12 ∧ iv a0 12 ≤ 50 from hW.int t_a0 12) (show (-2147483648) ≤ iv a0 13 ∧ iv a0 13 ≤ 2147483647 from hW.int t_a0 13) (show (-2147483648) ≤ iv a0 14 ∧ iv a0 14 ≤ 2147483647 from hW.int t_a0 14) (show (-2147483648) ≤ iv a0 15 ∧ iv a0 15 ≤ 2147483647 from hW.int t_a0 15) (show (-2147483648) ≤ iv a0 16 ∧ iv a0 16 ≤ 2147483647 from hW.int t_a0 16) (hF0.call hX0 fl14 rfl) (MRK.call hmr hW hS XT.refl fl14 rfl rfl) (fun ri86 ri87 ri88 ri89 ri90 ri91 F9 mr9 => ?_)
    refine c_st (st2 := [.int (iI f14)]) rfl ?_
    refine hv13 (show ivh14 a0 11 = iv a0 11 from kp11f14) (show ivh14 a0 12 = iv a0 12 from kp12f14) (show ivh14 a0 13 = iv a0 13 from kp13f14) (show ivh14 a0 14 = iv a0 14 from kp14f14) (show ivh14 a0 15 = iv a0 15 from kp15f14) (show ivh14 a0 16 = iv a0 16 from kp16f14) (show f14 = -1 from exf14) (show 1 ≤ ivh14 a0 11 ∧ ivh14 a0 11 ≤ 100 from W14.int t_a0 11) (show 1 ≤ ivh14 a0 12 ∧ ivh14 a0 12 ≤ 50 from W14.int t_a0 12) (show (-2147483648) ≤ ivh14 a0 13 ∧ ivh14 a0 13 ≤ 2147483647 from W14.int t_a0 13) (show (-2147483648) ≤ ivh14 a0 14 ∧ ivh14 a0 14 ≤ 2147483647 from W14.int t_a0 14) (show (-2147483648) ≤ ivh14 a0 15 ∧ ivh14 a0 15 ≤ 2147483647 from W14.int t_a0 15) (show (-2147483648) ≤ ivh14 a0 16 ∧ ivh14 a0 16 ≤ 2147483647 from W14.int t_a0 16) (fun gk11f14 gk12f14 gk13f14 gk14f14 gk15f14 gk16f14 gf14 ri92 ri93 ri94 ri95 ri96 ri97 => ?_)
    exact c_iret C dX11_parts_20 rfl (by decide) (rom0 hph hph (by decide)) ⟨f14, rfl, hX0, F9, W14, ⟨by omega, by omega⟩, trivial, gk11f14, gk12f14, gk13f14, gk14f14, gk15f14, gk16f14, rfl, rfl⟩
set_option maxHeartbeats 4000000 in
set_option maxRecDepth 100000 in
theorem C_isReadBack {l : Launch} {G : GT} {mi : Nat} {sk : Nat → Nat} {L : List Nat} {cl ln : Nat → Nat} {iv : Nat → Nat → Int} {rv : Nat → Nat → Option Nat}  {a0 : Nat} (hW : WT (g0 G) sk L cl ln iv rv) (hS : SKL sk L cl) (t_a0 : ty L cl a0 1) (hc7 : iv (sk 15) 7 ≤ 200) : Mc l G mi (Phi (g0 G) sk) PHM yX11_isReadBack cX11_isReadBack 2 (some .boolean) 6 [.ref a0] L cl ln iv rv 0 (fun v L2 cl2 ln2 iv2 rv2 => ∃ f : Int, v = some (.int (iI f)) ∧ XT L cl ln L2 cl2 ln2 ∧ fT [8, 38, 9, 39, 16, 10, 40] L cl iv rv iv2 rv2 ∧ WT (g0 G) sk L2 cl2 ln2 iv2 rv2 ∧ (f = 0 ∨ f = 1) ∧ (True)) := by
  refine Mc.mk (by decide) (Nat.le_of_ble_eq_true rfl) ?_
  intro p e s m args below meth c A C hM
  refine hv21 (Phi.le hW hS) (show ty L cl (sk 2) 2 from ⟨(hS 2 rfl).1, by rw [(hS 2 rfl).2]; rfl⟩) (show ty L cl (sk 3) 3 from ⟨(hS 3 rfl).1, by rw [(hS 3 rfl).2]; rfl⟩) (show ty L cl (sk 4) 4 from ⟨(hS 4 rfl).1, by rw [(hS 4 rfl).2]; rfl⟩) (show ty L cl (sk 5) 5 from ⟨(hS 5 rfl).1, by rw [(hS 5 rfl).2]; rfl⟩) (show ty L cl (sk 6) 6 from ⟨(hS 6 rfl).1, by rw [(hS 6 rfl).2]; rfl⟩) (show ty L cl (sk 7) 7 from ⟨(hS 7 rfl).1, by rw [(hS 7 rfl).2]; rfl⟩) (show ty L cl (sk 8) 8 from ⟨(hS 8 rfl).1, by rw [(hS 8 rfl).2]; rfl⟩) (show ty L cl (sk 9) 9 from ⟨(hS 9 rfl).1, by rw [(hS 9 rfl).2]; rfl⟩) (show ty L cl (sk 10) 10 from ⟨(hS 10 rfl).1, by rw [(hS 10 rfl).2]; rfl⟩) (show ty L cl (sk 13) 13 from ⟨(hS 13 rfl).1, by rw [(hS 13 rfl).2]; rfl⟩) (show ty L cl (sk 14) 14 from ⟨(hS 14 rfl).1, by rw [(hS 14 rfl).2]; rfl⟩) (show ty L cl (sk 15) 15 from ⟨(hS 15 rfl).1, by rw [(hS 15 rfl).2]; rfl⟩) (show ty L cl (sk 16) 16 from ⟨(hS 16 rfl).1, by rw [(hS 16 rfl).2]; rfl⟩) (show ty L cl (sk 17) 17 from ⟨(hS 17 rfl).1, by rw [(hS 17 rfl).2]; rfl⟩) (show ty L cl (sk 22) 22 from ⟨(hS 22 rfl).1, by rw [(hS 22 rfl).2]; rfl⟩) (show ty L cl (sk 23) 23 from ⟨(hS 23 rfl).1, by rw [(hS 23 rfl).2]; rfl⟩) (show ty L cl (sk 24) 24 from ⟨(hS 24 rfl).1, by rw [(hS 24 rfl).2]; rfl⟩) (show ty L cl (sk 25) 25 from ⟨(hS 25 rfl).1, by rw [(hS 25 rfl).2]; rfl⟩) (show XT L cl ln L cl ln from XT.refl) (show fT [8, 38, 9, 39, 16, 10, 40] L cl iv rv iv rv from fT.refl) (fun hph tsk2 tsk3 tsk4 tsk5 tsk6 tsk7 tsk8 tsk9 tsk10 tsk13 tsk14 tsk15 tsk16 tsk17 tsk22 tsk23 tsk24 tsk25 hX0 hF0 => ?_)
  refine c_aload_n (j := 0) (x := a0) C dX11_isReadBack_0 rfl ?_
  obtain ⟨rb1, rq1, trb1⟩ := hW.ref t_a0 7 rfl rfl rfl
  have erb1 := hW.sk trb1 (by decide) rfl
  subst erb1
  refine c_getr (k := 7) C ck_12 dX11_isReadBack_1 w2_51 (by decide) t_a0 rfl rfl (by decide) rfl rq1 ?_
  refine c_st (st2 := [.ref (sk 16)]) rfl ?_
  refine d_callV (As := []) (rest := []) C hM (C_clearCells (a0 := (sk 16)) hW hS tsk16  ) dX11_isReadBack_4 kV_X11_344 rfl tsk16 rfl rfl (by decide) ck_4 rfl (Nat.le_of_ble_eq_true rfl) ⟨(Nat.le_of_ble_eq_true rfl), (Nat.le_of_ble_eq_true rfl)⟩ hph hph (show 0 + 0 = 0 from rfl) (by decide) (fun rh1 Lh1 clh1 lnh1 ivh1 rvh1 h1 => ?_)
  obtain ⟨rfl, rfl, rfl, rfl, rfl, fl1, W1, exf1⟩ := h1
  have F1 := hF0.call hX0 fl1 rfl
  refine c_st (st2 := []) rfl ?_
  refine hv2 (show 0 ≤ ivh1 (sk 8) 2 ∧ ivh1 (sk 8) 2 ≤ 40200 from W1.int tsk8 2) (show ivh1 (sk 8) 2 = 0 from exf1) (fun ri1 gf1 => ?_)
  refine c_iconst C dX11_isReadBack_7 ?_
  refine c_istore_n (lv2 := [(1, .int (iI 0)), (0, .ref a0)]) C dX11_isReadBack_8 (by decide) rfl ?_
  have Lp1 : ∀ (nn : Nat) (k : Int) (Lb1 : List Nat) (clb1 lnb1 : Nat → Nat) (ivb1 : Nat → Nat → Int) (rvb1 : Nat → Nat → Option Nat) , 201 - k < (nn : Int) → XT L cl ln Lb1 clb1 lnb1 → WT (g0 G) sk Lb1 clb1 lnb1 ivb1 rvb1 → fT [8, 38, 9, 39, 16, 10, 40] L cl iv rv ivb1 rvb1 → (0 ≤ k ∧ k ≤ 200) → (ivb1 (sk 15) 7 ≤ 200) → cw p l e 6 ((PHM) + 0 - ((Phi (g0 G) sk) ln rv)) s m args below meth c G A 2 (MQ below (Qu G A (Qp G (Phi (g0 G) sk) ((Phi (g0 G) sk) ln rv) 0 (fun v L2 cl2 ln2 iv2 rv2 => ∃ f : Int, v = some (.int (iI f)) ∧ XT L cl ln L2 cl2 ln2 ∧ fT [8, 38, 9, 39, 16, 10, 40] L cl iv rv iv2 rv2 ∧ WT (g0 G) sk L2 cl2 ln2 iv2 rv2 ∧ (f = 0 ∨ f = 1) ∧ (True)))) args s (((PHM) + 0 - ((Phi (g0 G) sk) ln rv)) / 16) ((PHM) + 0 - ((Phi (g0 G) sk) ln rv)) A) (Phi (g0 G) sk) ((Phi (g0 G) sk) ln rv) Lb1 clb1 lnb1 ivb1 rvb1 0 9 [(1, .int (iI k)), (0, .ref a0)] [] := by
    intro nn
    induction nn with
    | zero =>
      intro  k Lb1 clb1 lnb1 ivb1 rvb1 hm Xb1 Wb1 Fb1  hk hco
      have skb1 := Xb1.skl hS
      exact absurd hm (by omega)
    | succ nn ih1 =>
      intro  k Lb1 clb1 lnb1 ivb1 rvb1 hm Xb1 Wb1 Fb1  hk hco
      have skb1 := Xb1.skl hS
      refine c_iload_n (j := 0) C dX11_isReadBack_9 rfl ?_
      refine c_aload_n (j := 1) (x := a0) C dX11_isReadBack_10 rfl ?_
      have ty1 := Xb1.ty t_a0
      obtain ⟨rb2, rq2, trb2⟩ := Wb1.ref ty1 6 rfl rfl rfl
      have erb2 := Wb1.sk trb2 (by decide) rfl
      subst erb2
      refine c_getr (k := 6) C ck_12 dX11_isReadBack_11 w2_50 (by decide) ty1 rfl rfl (by decide) rfl rq2 ?_
      refine c_st (st2 := [.ref (sk 15), .int (iI k)]) rfl ?_
      refine hv2 (Xb1.ty tsk15) (show ivb1 (sk 15) 7 = iv (sk 15) 7 from Fb1.i tsk15 rfl 7) (fun ty2 ie2 => ?_)
      have ri2 : 0 ≤ ivb1 (sk 15) 7 ∧ ivb1 (sk 15) 7 ≤ 100000 := Wb1.int ty2 7
      refine c_get (k := 7) C ck_7 dX11_isReadBack_14 w1_149 (by decide) ty2 rfl rfl (by decide) rfl ?_
      refine c_icmp_ge (tgt := 43) C (r32_c (lo := 0) (hi := 200) hk.1 hk.2 (by decide) (by decide)) (r32_c (lo := 0) (hi := 100000) ri2.1 ri2.2 (by decide) (by decide)) dX11_isReadBack_17 (by decide) (fun c1 => ?_) (fun c1 => ?_)
      · refine c_aload_n (j := 1) (x := a0) C dX11_isReadBack_43 rfl ?_
        have re1 : rvb1 a0 7 = rv a0 7 := (Fb1.r t_a0 rfl 7)
        rw [rq1] at re1
        refine c_getr (k := 7) C ck_12 dX11_isReadBack_44 w2_51 (by decide) ty1 rfl rfl (by decide) rfl re1 ?_
        refine c_st (st2 := [.ref (sk 16)]) rfl ?_
        refine hv2 (Xb1.ty tsk16) (Phi.le Wb1 skb1) (fun ty3 pl1 => ?_)
        refine d_callV (As := []) (rest := []) C hM (C_decode (a0 := (sk 16)) Wb1 skb1 ty3  ) dX11_isReadBack_47 kV_X11_335 rfl ty3 rfl rfl (by decide) ck_4 rfl (Nat.le_of_ble_eq_true rfl) ⟨(Nat.le_of_ble_eq_true rfl), (Nat.le_of_ble_eq_true rfl)⟩ hph pl1 (show 0 + 0 = 0 from rfl) (by decide) (fun rh2 Lh2 clh2 lnh2 ivh2 rvh2 h2 => ?_)
        obtain ⟨f2, rfl, xl2, fl2, W2, rgf2, exf2⟩ := h2
        refine hv19 (Fb1.call Xb1 fl2 rfl) (Xb1.ty tsk2) (Xb1.ty tsk3) (Xb1.ty tsk4) (Xb1.ty tsk5) (Xb1.ty tsk6) (Xb1.ty tsk7) (Xb1.ty tsk8) (Xb1.ty tsk9) (Xb1.ty tsk10) (Xb1.ty tsk13) (Xb1.ty tsk14) (Xb1.ty tsk17) (Xb1.ty tsk22) (Xb1.ty tsk23) (Xb1.ty tsk24) (Xb1.ty tsk25) (Xb1.trans xl2) (xl2.skl skb1) (fun F2 ty4 ty5 ty6 ty7 ty8 ty9 ty10 ty11 ty12 ty13 ty14 ty15 ty16 ty17 ty18 ty19 X1 sk1 => ?_)
        refine c_st (st2 := [.int (iI f2)]) rfl ?_
        refine c_if_eq (tgt := 74) C ⟨by omega, by omega⟩ dX11_isReadBack_50 (by decide) (fun c2 => ?_) (fun c2 => ?_)
        · refine c_iconst C dX11_isReadBack_74 ?_
          have pl2 := Phi.le W2 sk1
          exact c_zret C dX11_isReadBack_75 rfl (Or.inl rfl) (by decide) (rom0 hph pl2 (by decide)) ⟨0, rfl, X1, F2, W2, (Or.inl rfl), trivial⟩
        · refine c_aload_n (j := 1) (x := a0) C dX11_isReadBack_53 rfl ?_
          refine hv2 (xl2.ty ty1) (show rvh2 a0 6 = rvb1 a0 6 from (fl2.r ty1 rfl 6)) (fun ty20 re2 => ?_)
          rw [rq2] at re2
          refine c_getr (k := 6) C ck_12 dX11_isReadBack_54 w2_50 (by decide) ty20 rfl rfl (by decide) rfl re2 ?_
          refine c_st (st2 := [.ref (sk 15)]) rfl ?_
          refine c_aload_n (j := 1) (x := a0) C dX11_isReadBack_57 rfl ?_
          have re3 : rvh2 a0 7 = rvb1 a0 7 := (fl2.r ty1 rfl 7)
          rw [re1] at re3
          refine c_getr (k := 7) C ck_12 dX11_isReadBack_58 w2_51 (by decide) ty20 rfl rfl (by decide) rfl re3 ?_
          refine c_st (st2 := [.ref (sk 16), .ref (sk 15)]) rfl ?_
          have ty21 := xl2.ty ty3
          obtain ⟨rb3, rq3, trb3⟩ := W2.ref ty21 6 rfl rfl rfl
          have erb3 := W2.sk trb3 (by decide) rfl
          subst erb3
          refine c_getr (k := 6) C ck_4 dX11_isReadBack_61 w1_201 (by decide) ty21 rfl rfl (by decide) rfl rq3 ?_
          refine c_st (st2 := [.ref (sk 10), .ref (sk 15)]) rfl ?_
          refine hv3 (xl2.ty ty2) (xl2.ty ty12) (Phi.le W2 sk1) (fun ty22 ty23 pl3 => ?_)
          refine d_callV (As := [.ref (sk 10)]) (rest := []) C hM (C_hasLetters (a0 := (sk 15)) (a1 := (sk 10)) W2 sk1 ty22 ty23  ) dX11_isReadBack_64 kV_X11_409 rfl ty22 rfl rfl (by decide) ck_7 rfl (Nat.le_of_ble_eq_true rfl) ⟨(Nat.le_of_ble_eq_true rfl), (Nat.le_of_ble_eq_true rfl)⟩ hph pl3 (show 0 + 0 = 0 from rfl) (by decide) (fun rh3 Lh3 clh3 lnh3 ivh3 rvh3 h3 => ?_)
          obtain ⟨f3, rfl, rfl, rfl, rfl, rfl, rfl, rgf3, exf3⟩ := h3
          refine c_st (st2 := [.int (iI f3)]) rfl ?_
          refine c_if_eq (tgt := 74) C ⟨by omega, by omega⟩ dX11_isReadBack_67 (by decide) (fun c3 => ?_) (fun c3 => ?_)
          · refine c_iconst C dX11_isReadBack_74 ?_
            exact c_zret C dX11_isReadBack_75 rfl (Or.inl rfl) (by decide) (rom0 hph pl3 (by decide)) ⟨0, rfl, X1, F2, W2, (Or.inl rfl), trivial⟩
          · refine c_iconst C dX11_isReadBack_70 ?_
            refine c_goto (tgt := 75) C dX11_isReadBack_71 (by decide) ?_
            exact c_zret C dX11_isReadBack_75 rfl (Or.inr rfl) (by decide) (rom0 hph pl3 (by decide)) ⟨1, rfl, X1, F2, W2, (Or.inr rfl), trivial⟩
      · refine c_aload_n (j := 1) (x := a0) C dX11_isReadBack_20 rfl ?_
        have re4 : rvb1 a0 7 = rv a0 7 := (Fb1.r t_a0 rfl 7)
        rw [rq1] at re4
        refine c_getr (k := 7) C ck_12 dX11_isReadBack_21 w2_51 (by decide) ty1 rfl rfl (by decide) rfl re4 ?_
        refine c_st (st2 := [.ref (sk 16)]) rfl ?_
        refine c_aload_n (j := 1) (x := a0) C dX11_isReadBack_24 rfl ?_
        refine c_getr (k := 6) C ck_12 dX11_isReadBack_25 w2_50 (by decide) ty1 rfl rfl (by decide) rfl rq2 ?_
        refine c_st (st2 := [.ref (sk 15), .ref (sk 16)]) rfl ?_
        obtain ⟨rb4, rq4, trb4⟩ := Wb1.ref ty2 6 rfl rfl rfl
        have lnrb4 : 200 ≤ lnb1 rb4 ∧ lnb1 rb4 ≤ 200 := Wb1.len trb4 rfl
        refine c_getr (k := 6) C ck_7 dX11_isReadBack_28 w1_146 (by decide) ty2 rfl rfl (by decide) rfl rq4 ?_
        refine c_st (st2 := [.ref rb4, .ref (sk 16)]) rfl ?_
        refine c_iload_n (j := 0) C dX11_isReadBack_31 rfl ?_
        have ll1 : 200 ≤ lnb1 rb4 ∧ lnb1 rb4 ≤ 200 := Wb1.len trb4 rfl
        refine c_iald C dX11_isReadBack_32 trb4 rfl (by omega) (by omega) (by omega) ?_
        have ri3 : (-2147483648) ≤ ivb1 rb4 k.toNat ∧ ivb1 rb4 k.toNat ≤ 2147483647 := Wb1.int trb4 k.toNat
        refine c_iload_n (j := 0) C dX11_isReadBack_33 rfl ?_
        refine hv2 (Xb1.ty tsk16) (Phi.le Wb1 skb1) (fun ty24 pl4 => ?_)
        refine d_callV (As := [.int (iI (ivb1 rb4 k.toNat)), .int (iI k)]) (rest := []) C hM (C_addCell (a0 := (sk 16)) (x := ivb1 rb4 k.toNat) (y := k) Wb1 skb1 ty24 (by omega) (by omega) ) dX11_isReadBack_34 kV_X11_406 rfl ty24 rfl rfl (by decide) ck_4 rfl (Nat.le_of_ble_eq_true rfl) ⟨(Nat.le_of_ble_eq_true rfl), (Nat.le_of_ble_eq_true rfl)⟩ hph pl4 (show 0 + 0 = 0 from rfl) (by decide) (fun rh4 Lh4 clh4 lnh4 ivh4 rvh4 h4 => ?_)
        obtain ⟨rfl, xl4, fl4, W4, exf4⟩ := h4
        refine hv19 (Fb1.call Xb1 fl4 rfl) (Xb1.ty tsk2) (Xb1.ty tsk3) (Xb1.ty tsk4) (Xb1.ty tsk5) (Xb1.ty tsk6) (Xb1.ty tsk7) (Xb1.ty tsk8) (Xb1.ty tsk9) (Xb1.ty tsk10) (Xb1.ty tsk13) (Xb1.ty tsk14) (Xb1.ty tsk17) (Xb1.ty tsk22) (Xb1.ty tsk23) (Xb1.ty tsk24) (Xb1.ty tsk25) (Xb1.trans xl4) (xl4.skl skb1) (fun F3 ty25 ty26 ty27 ty28 ty29 ty30 ty31 ty32 ty33 ty34 ty35 ty36 ty37 ty38 ty39 ty40 X2 sk2 => ?_)
        refine c_st (st2 := []) rfl ?_
        refine c_iinc (z := k) (j := 0) (lv2 := [(1, .int (iI (k + 1))), (0, .ref a0)]) C dX11_isReadBack_37 rfl (by decide) rfl ?_
        refine c_goto (tgt := 9) C dX11_isReadBack_40 (by decide) ?_
        refine hv2 (xl4.ty ty2) (show ivh4 (sk 15) 7 = ivb1 (sk 15) 7 from fl4.i ty2 rfl 7) (fun ty41 ie4 => ?_)
        have ri4 : 0 ≤ ivh4 (sk 15) 7 ∧ ivh4 (sk 15) 7 ≤ 100000 := W4.int ty41 7
        refine c_lv (lv2 := [(1, .int (iI (k + 1))), (0, .ref a0)]) [0, 1] rfl ?_
        exact ih1  (k + 1) _ _ _ _ _ (by omega) X2 W4 F3  (by omega) (by show ivh4 (sk 15) 7 ≤ 200; omega)
  refine hv2 (show 0 ≤ ivh1 (sk 15) 7 ∧ ivh1 (sk 15) 7 ≤ 100000 from W1.int tsk15 7) (show ivh1 (sk 15) 7 = iv (sk 15) 7 from fl1.i tsk15 rfl 7) (fun ri5 ie5 => ?_)
  refine c_lv (lv2 := [(1, .int (iI 0)), (0, .ref a0)]) [0, 1] rfl ?_
  exact Lp1 203 0 _ _ _ _ _ (by omega) hX0 W1 F1  (by omega) (by show ivh1 (sk 15) 7 ≤ 200; omega)
set_option maxHeartbeats 4000000 in
set_option maxRecDepth 100000 in
theorem C_saved {l : Launch} {G : GT} {mi : Nat} {sk : Nat → Nat} {L : List Nat} {cl ln : Nat → Nat} {iv : Nat → Nat → Int} {rv : Nat → Nat → Option Nat}  {a0 : Nat} {i : Int} {j : Int} (hW : WT (g0 G) sk L cl ln iv rv) (hS : SKL sk L cl) (t_a0 : ty L cl a0 1) (h_i : -2147483648 ≤ i ∧ i ≤ 2147483647) (h_j : -2147483648 ≤ j ∧ j ≤ 2147483647) (hmr : MRK sk cl iv rv) : Mc l G mi (Phi (g0 G) sk) PHM yX11_saved cX11_saved 10 (some .int) 8 [.ref a0, .int (iI i), .int (iI j)] L cl ln iv rv 0 (fun v L2 cl2 ln2 iv2 rv2 => ∃ f : Int, v = some (.int (iI f)) ∧ L = L2 ∧ cl = cl2 ∧ ln = ln2 ∧ rv = rv2 ∧ fT [1, 14, 15, 50, 51, 52, 53, 54, 55] L cl iv rv iv2 rv2 ∧ WT (g0 G) sk L2 cl2 ln2 iv2 rv2 ∧ (-2147483648 ≤ f ∧ f ≤ 2147483647) ∧ (True) ∧ iv2 a0 11 = iv a0 11 ∧ iv2 a0 12 = iv a0 12 ∧ iv2 a0 13 = iv a0 13 ∧ iv2 a0 14 = iv a0 14 ∧ iv2 a0 15 = iv a0 15 ∧ iv2 a0 16 = iv a0 16) := by
  refine Mc.mk (by decide) (Nat.le_of_ble_eq_true rfl) ?_
  intro p e s m args below meth c A C hM
  refine hv14 (Phi.le hW hS) (show ty L cl (sk 2) 2 from ⟨(hS 2 rfl).1, by rw [(hS 2 rfl).2]; rfl⟩) (show ty L cl (sk 3) 3 from ⟨(hS 3 rfl).1, by rw [(hS 3 rfl).2]; rfl⟩) (show ty L cl (sk 4) 4 from ⟨(hS 4 rfl).1, by rw [(hS 4 rfl).2]; rfl⟩) (show ty L cl (sk 5) 5 from ⟨(hS 5 rfl).1, by rw [(hS 5 rfl).2]; rfl⟩) (show ty L cl (sk 13) 13 from ⟨(hS 13 rfl).1, by rw [(hS 13 rfl).2]; rfl⟩) (show ty L cl (sk 14) 14 from ⟨(hS 14 rfl).1, by rw [(hS 14 rfl).2]; rfl⟩) (show ty L cl (sk 15) 15 from ⟨(hS 15 rfl).1, by rw [(hS 15 rfl).2]; rfl⟩) (show ty L cl (sk 16) 16 from ⟨(hS 16 rfl).1, by rw [(hS 16 rfl).2]; rfl⟩) (show ty L cl (sk 17) 17 from ⟨(hS 17 rfl).1, by rw [(hS 17 rfl).2]; rfl⟩) (show ty L cl (sk 22) 22 from ⟨(hS 22 rfl).1, by rw [(hS 22 rfl).2]; rfl⟩) (show ty L cl (sk 23) 23 from ⟨(hS 23 rfl).1, by rw [(hS 23 rfl).2]; rfl⟩) (show XT L cl ln L cl ln from XT.refl) (show fT [1, 14, 15, 50, 51, 52, 53, 54, 55] L cl iv rv iv rv from fT.refl) (fun hph tsk2 tsk3 tsk4 tsk5 tsk13 tsk14 tsk15 tsk16 tsk17 tsk22 tsk23 hX0 hF0 => ?_)
  refine c_aload_n (j := 0) (x := a0) C dX11_saved_0 rfl ?_
  obtain ⟨rb1, rq1, trb1⟩ := hW.ref t_a0 4 rfl rfl rfl
  have erb1 := hW.sk trb1 (by decide) rfl
  subst erb1
  refine c_getr (k := 4) C ck_12 dX11_saved_1 w2_48 (by decide) t_a0 rfl rfl (by decide) rfl rq1 ?_
  refine c_st (st2 := [.ref (sk 13)]) rfl ?_
  refine c_iload_n (j := 1) C dX11_saved_4 rfl ?_
  refine d_callV (As := [.int (iI i)]) (rest := []) C hM (C_whole (a0 := (sk 13)) (i := i) hW hS tsk13 (by omega) hmr) dX11_saved_5 kV_X11_231 rfl tsk13 rfl rfl (by decide) ck_11 rfl (Nat.le_of_ble_eq_true rfl) ⟨(Nat.le_of_ble_eq_true rfl), (Nat.le_of_ble_eq_true rfl)⟩ hph hph (show 0 + 0 = 0 from rfl) (by decide) (fun rh1 Lh1 clh1 lnh1 ivh1 rvh1 h1 => ?_)
  obtain ⟨f1, rfl, rfl, rfl, rfl, rfl, rfl, rgf1, exf1⟩ := h1
  refine c_st (st2 := [(va_rf f1)]) rfl ?_
  refine c_astorer_n (r := f1) (lv2 := [(3, (va_rf f1)), (0, .ref a0), (1, .int (iI i)), (2, .int (iI j))]) C dX11_saved_8 (by decide) rfl ?_
  refine c_aload_n (j := 1) (x := a0) C dX11_saved_9 rfl ?_
  refine c_getr (k := 4) C ck_12 dX11_saved_10 w2_48 (by decide) t_a0 rfl rfl (by decide) rfl rq1 ?_
  refine c_st (st2 := [.ref (sk 13)]) rfl ?_
  refine c_iload_n (j := 3) C dX11_saved_13 rfl ?_
  refine d_callV (As := [.int (iI j)]) (rest := []) C hM (C_whole (a0 := (sk 13)) (i := j) hW hS tsk13 (by omega) hmr) dX11_saved_14 kV_X11_231 rfl tsk13 rfl rfl (by decide) ck_11 rfl (Nat.le_of_ble_eq_true rfl) ⟨(Nat.le_of_ble_eq_true rfl), (Nat.le_of_ble_eq_true rfl)⟩ hph hph (show 0 + 0 = 0 from rfl) (by decide) (fun rh2 Lh2 clh2 lnh2 ivh2 rvh2 h2 => ?_)
  obtain ⟨f2, rfl, rfl, rfl, rfl, rfl, rfl, rgf2, exf2⟩ := h2
  refine c_st (st2 := [(va_rf f2)]) rfl ?_
  refine c_astorer (r := f2) (lv2 := [(4, (va_rf f2)), (3, (va_rf f1)), (0, .ref a0), (1, .int (iI i)), (2, .int (iI j))]) C dX11_saved_17 (by decide) (by cases f1 <;> rfl) ?_
  refine c_aloadr_n (j := 1) (r := f1) C dX11_saved_19 rfl ?_
  refine c_ifnull (r := f1) (tgt := 28) C dX11_saved_20 (by decide) (fun oq1 => ?_) (fun ob1 oq1 => ?_)
  · subst oq1
    refine c_lv (lv2 := [(4, (va_rf f2)), (3, .null), (0, .ref a0), (1, .int (iI i)), (2, .int (iI j))]) [0, 1, 2, 3, 4] rfl ?_
    refine c_st (st2 := []) rfl ?_
    refine c_aload_n (j := 2) (x := a0) C dX11_saved_28 rfl ?_
    refine c_iconst C dX11_saved_29 ?_
    refine d_callV (As := [.int (iI 3)]) (rest := []) C hM (C_refuse (a0 := a0) (x := 3) hW hS t_a0 ⟨by decide, by decide⟩ ) dX11_saved_30 kV_X11_102 rfl t_a0 rfl rfl (by decide) ck_12 rfl (Nat.le_of_ble_eq_true rfl) ⟨(Nat.le_of_ble_eq_true rfl), (Nat.le_of_ble_eq_true rfl)⟩ hph hph (show 0 + 0 = 0 from rfl) (by decide) (fun rh3 Lh3 clh3 lnh3 ivh3 rvh3 h3 => ?_)
    obtain ⟨f3, rfl, rfl, rfl, rfl, rfl, fl3, W3, rgf3, exf3, kp11f3, kp12f3, kp13f3, kp14f3, kp15f3, kp16f3⟩ := h3
    refine hv8 (show 1 ≤ iv a0 11 ∧ iv a0 11 ≤ 100 from hW.int t_a0 11) (show 1 ≤ iv a0 12 ∧ iv a0 12 ≤ 50 from hW.int t_a0 12) (show (-2147483648) ≤ iv a0 13 ∧ iv a0 13 ≤ 2147483647 from hW.int t_a0 13) (show (-2147483648) ≤ iv a0 14 ∧ iv a0 14 ≤ 2147483647 from hW.int t_a0 14) (show (-2147483648) ≤ iv a0 15 ∧ iv a0 15 ≤ 2147483647 from hW.int t_a0 15) (show (-2147483648) ≤ iv a0 16 ∧ iv a0 16 ≤ 2147483647 from hW.int t_a0 16) (hF0.call hX0 fl3 rfl) (MRK.call hmr hW hS XT.refl fl3 rfl rfl) (fun ri1 ri2 ri3 ri4 ri5 ri6 F1 mr1 => ?_)
    refine c_st (st2 := [.int (iI f3)]) rfl ?_
    refine hv13 (show ivh3 a0 11 = iv a0 11 from kp11f3) (show ivh3 a0 12 = iv a0 12 from kp12f3) (show ivh3 a0 13 = iv a0 13 from kp13f3) (show ivh3 a0 14 = iv a0 14 from kp14f3) (show ivh3 a0 15 = iv a0 15 from kp15f3) (show ivh3 a0 16 = iv a0 16 from kp16f3) (show f3 = -1 from exf3) (show 1 ≤ ivh3 a0 11 ∧ ivh3 a0 11 ≤ 100 from W3.int t_a0 11) (show 1 ≤ ivh3 a0 12 ∧ ivh3 a0 12 ≤ 50 from W3.int t_a0 12) (show (-2147483648) ≤ ivh3 a0 13 ∧ ivh3 a0 13 ≤ 2147483647 from W3.int t_a0 13) (show (-2147483648) ≤ ivh3 a0 14 ∧ ivh3 a0 14 ≤ 2147483647 from W3.int t_a0 14) (show (-2147483648) ≤ ivh3 a0 15 ∧ ivh3 a0 15 ≤ 2147483647 from W3.int t_a0 15) (show (-2147483648) ≤ ivh3 a0 16 ∧ ivh3 a0 16 ≤ 2147483647 from W3.int t_a0 16) (fun gk11f3 gk12f3 gk13f3 gk14f3 gk15f3 gk16f3 gf3 ri7 ri8 ri9 ri10 ri11 ri12 => ?_)
    exact c_iret C dX11_saved_33 rfl (by decide) (rom0 hph hph (by decide)) ⟨f3, rfl, rfl, rfl, rfl, rfl, F1, W3, ⟨by omega, by omega⟩, trivial, gk11f3, gk12f3, gk13f3, gk14f3, gk15f3, gk16f3⟩
  · subst oq1
    have tob1 := rgf1 ob1 rfl
    refine c_lv (lv2 := [(4, (va_rf f2)), (3, .ref ob1), (0, .ref a0), (1, .int (iI i)), (2, .int (iI j))]) [0, 1, 2, 3, 4] rfl ?_
    refine c_st (st2 := []) rfl ?_
    refine c_aloadr (j := 0) (r := f2) C dX11_saved_23 rfl ?_
    refine c_ifnonnull (r := f2) (tgt := 34) C dX11_saved_25 (by decide) (fun ob2 oq2 => ?_) (fun oq2 => ?_)
    · subst oq2
      have tob2 := rgf2 ob2 rfl
      refine c_lv (lv2 := [(4, .ref ob2), (3, .ref ob1), (0, .ref a0), (1, .int (iI i)), (2, .int (iI j))]) [0, 1, 2, 3, 4] rfl ?_
      refine c_st (st2 := []) rfl ?_
      refine c_iconst C dX11_saved_34 ?_
      refine c_istore (lv2 := [(5, .int (iI 0)), (4, .ref ob2), (3, .ref ob1), (0, .ref a0), (1, .int (iI i)), (2, .int (iI j))]) C dX11_saved_35 (by decide) rfl ?_
      refine c_iconst C dX11_saved_37 ?_
      refine c_istore (lv2 := [(6, .int (iI 0)), (5, .int (iI 0)), (4, .ref ob2), (3, .ref ob1), (0, .ref a0), (1, .int (iI i)), (2, .int (iI j))]) C dX11_saved_38 (by decide) rfl ?_
      refine c_iconst C dX11_saved_40 ?_
      refine c_istore (lv2 := [(7, .int (iI 0)), (6, .int (iI 0)), (5, .int (iI 0)), (4, .ref ob2), (3, .ref ob1), (0, .ref a0), (1, .int (iI i)), (2, .int (iI j))]) C dX11_saved_41 (by decide) rfl ?_
      have Lp1 : ∀ (nn : Nat) (s1 wy sd : Int) (ivb1 : Nat → Nat → Int) , 3 - sd < (nn : Int) → WT (g0 G) sk L cl ln ivb1 rv → fT [1, 14, 15, 50, 51, 52, 53, 54, 55] L cl iv rv ivb1 rv → (-2147483648 ≤ s1 ∧ s1 ≤ 2147483647) → (0 ≤ wy ∧ wy ≤ 9) → (0 ≤ sd ∧ sd ≤ 2) → (ivb1 a0 11 = iv a0 11) → (ivb1 a0 12 = iv a0 12) → (ivb1 a0 13 = iv a0 13) → (ivb1 a0 14 = iv a0 14) → (ivb1 a0 15 = iv a0 15) → (ivb1 a0 16 = iv a0 16) → cw p l e 8 ((PHM) + 0 - ((Phi (g0 G) sk) ln rv)) s m args below meth c G A 10 (MQ below (Qu G A (Qp G (Phi (g0 G) sk) ((Phi (g0 G) sk) ln rv) 0 (fun v L2 cl2 ln2 iv2 rv2 => ∃ f : Int, v = some (.int (iI f)) ∧ L = L2 ∧ cl = cl2 ∧ ln = ln2 ∧ rv = rv2 ∧ fT [1, 14, 15, 50, 51, 52, 53, 54, 55] L cl iv rv iv2 rv2 ∧ WT (g0 G) sk L2 cl2 ln2 iv2 rv2 ∧ (-2147483648 ≤ f ∧ f ≤ 2147483647) ∧ (True) ∧ iv2 a0 11 = iv a0 11 ∧ iv2 a0 12 = iv a0 12 ∧ iv2 a0 13 = iv a0 13 ∧ iv2 a0 14 = iv a0 14 ∧ iv2 a0 15 = iv a0 15 ∧ iv2 a0 16 = iv a0 16))) args s (((PHM) + 0 - ((Phi (g0 G) sk) ln rv)) / 16) ((PHM) + 0 - ((Phi (g0 G) sk) ln rv)) A) (Phi (g0 G) sk) ((Phi (g0 G) sk) ln rv) L cl ln ivb1 rv 0 43 [(5, .int (iI s1)), (6, .int (iI wy)), (7, .int (iI sd)), (4, .ref ob2), (3, .ref ob1), (0, .ref a0), (1, .int (iI i)), (2, .int (iI j))] [] := by
        intro nn
        induction nn with
        | zero =>
          intro  s1 wy sd ivb1 hm Wb1 Fb1  hs1 hwy hsd hkp11 hkp12 hkp13 hkp14 hkp15 hkp16
          exact absurd hm (by omega)
        | succ nn ih1 =>
          intro  s1 wy sd ivb1 hm Wb1 Fb1  hs1 hwy hsd hkp11 hkp12 hkp13 hkp14 hkp15 hkp16
          have mrb1 := MRK.call hmr hW hS XT.refl Fb1 rfl rfl
          refine c_iload (j := 1) C dX11_saved_43 rfl ?_
          refine c_if_ne (tgt := 186) C (r32_c (lo := 0) (hi := 9) hwy.1 hwy.2 (by decide) (by decide)) dX11_saved_45 (by decide) (fun c1 => ?_) (fun c1 => ?_)
          · refine c_iload (j := 1) C dX11_saved_186 rfl ?_
            refine c_if_eq (tgt := 207) C (r32_c (lo := 0) (hi := 9) hwy.1 hwy.2 (by decide) (by decide)) dX11_saved_188 (by decide) (fun z => absurd z (by omega)) (fun _ => ?_)
            refine c_aload_n (j := 5) (x := a0) C dX11_saved_191 rfl ?_
            refine c_iload (j := 1) C dX11_saved_192 rfl ?_
            refine c_aload_n (j := 5) (x := a0) C dX11_saved_194 rfl ?_
            obtain ⟨rb2, rq2, trb2⟩ := Wb1.ref t_a0 6 rfl rfl rfl
            have erb2 := Wb1.sk trb2 (by decide) rfl
            subst erb2
            refine c_getr (k := 6) C ck_12 dX11_saved_195 w2_50 (by decide) t_a0 rfl rfl (by decide) rfl rq2 ?_
            refine c_st (st2 := [.ref (sk 15), .int (iI wy), .ref a0]) rfl ?_
            refine d_callV (As := []) (rest := [.int (iI wy), .ref a0]) C hM (C_placeOfUnknown (a0 := (sk 15)) Wb1 hS tsk15  ) dX11_saved_198 kV_X11_263 rfl tsk15 rfl rfl (by decide) ck_7 rfl (Nat.le_of_ble_eq_true rfl) ⟨(Nat.le_of_ble_eq_true rfl), (Nat.le_of_ble_eq_true rfl)⟩ hph hph (show 0 + 0 = 0 from rfl) (by decide) (fun rh4 Lh4 clh4 lnh4 ivh4 rvh4 h4 => ?_)
            obtain ⟨f4, rfl, rfl, rfl, rfl, rfl, rfl, rgf4, exf4⟩ := h4
            refine c_st (st2 := [.int (iI f4), .int (iI wy), .ref a0]) rfl ?_
            refine d_callV (As := [.int (iI wy), .int (iI f4)]) (rest := []) C hM (C_refuseAt (a0 := a0) (x := wy) (y := f4) Wb1 hS t_a0 (by omega) (by omega) ) dX11_saved_201 kV_X11_266 rfl t_a0 rfl rfl (by decide) ck_12 rfl (Nat.le_of_ble_eq_true rfl) ⟨(Nat.le_of_ble_eq_true rfl), (Nat.le_of_ble_eq_true rfl)⟩ hph hph (show 0 + 0 = 0 from rfl) (by decide) (fun rh5 Lh5 clh5 lnh5 ivh5 rvh5 h5 => ?_)
            obtain ⟨f5, rfl, rfl, rfl, rfl, rfl, fl5, W5, rgf5, exf5, kp11f5, kp12f5, kp13f5, kp14f5, kp15f5, kp16f5⟩ := h5
            refine hv8 (show 1 ≤ ivb1 a0 11 ∧ ivb1 a0 11 ≤ 100 from Wb1.int t_a0 11) (show 1 ≤ ivb1 a0 12 ∧ ivb1 a0 12 ≤ 50 from Wb1.int t_a0 12) (show (-2147483648) ≤ ivb1 a0 13 ∧ ivb1 a0 13 ≤ 2147483647 from Wb1.int t_a0 13) (show (-2147483648) ≤ ivb1 a0 14 ∧ ivb1 a0 14 ≤ 2147483647 from Wb1.int t_a0 14) (show (-2147483648) ≤ ivb1 a0 15 ∧ ivb1 a0 15 ≤ 2147483647 from Wb1.int t_a0 15) (show (-2147483648) ≤ ivb1 a0 16 ∧ ivb1 a0 16 ≤ 2147483647 from Wb1.int t_a0 16) (Fb1.call hX0 fl5 rfl) (MRK.call mrb1 Wb1 hS XT.refl fl5 rfl rfl) (fun ri13 ri14 ri15 ri16 ri17 ri18 F2 mr2 => ?_)
            refine c_st (st2 := [.int (iI f5)]) rfl ?_
            refine hv7 (show ivh5 a0 11 = ivb1 a0 11 from kp11f5) (show ivh5 a0 12 = ivb1 a0 12 from kp12f5) (show ivh5 a0 13 = ivb1 a0 13 from kp13f5) (show ivh5 a0 14 = ivb1 a0 14 from kp14f5) (show ivh5 a0 15 = ivb1 a0 15 from kp15f5) (show ivh5 a0 16 = ivb1 a0 16 from kp16f5) (show f5 = -1 from exf5) (fun gk11f5 gk12f5 gk13f5 gk14f5 gk15f5 gk16f5 gf5 => ?_)
            refine c_pop C dX11_saved_204 rfl ?_
            refine c_iconst C dX11_saved_205 ?_
            refine hv6 (show 1 ≤ ivh5 a0 11 ∧ ivh5 a0 11 ≤ 100 from W5.int t_a0 11) (show 1 ≤ ivh5 a0 12 ∧ ivh5 a0 12 ≤ 50 from W5.int t_a0 12) (show (-2147483648) ≤ ivh5 a0 13 ∧ ivh5 a0 13 ≤ 2147483647 from W5.int t_a0 13) (show (-2147483648) ≤ ivh5 a0 14 ∧ ivh5 a0 14 ≤ 2147483647 from W5.int t_a0 14) (show (-2147483648) ≤ ivh5 a0 15 ∧ ivh5 a0 15 ≤ 2147483647 from W5.int t_a0 15) (show (-2147483648) ≤ ivh5 a0 16 ∧ ivh5 a0 16 ≤ 2147483647 from W5.int t_a0 16) (fun ri19 ri20 ri21 ri22 ri23 ri24 => ?_)
            exact c_iret C dX11_saved_206 rfl (by decide) (rom0 hph hph (by decide)) ⟨0, rfl, rfl, rfl, rfl, rfl, F2, W5, ⟨by decide, by decide⟩, trivial, (gk11f5.trans hkp11), (gk12f5.trans hkp12), (gk13f5.trans hkp13), (gk14f5.trans hkp14), (gk15f5.trans hkp15), (gk16f5.trans hkp16)⟩
          · refine c_iload (j := 2) C dX11_saved_48 rfl ?_
            refine c_iconst C dX11_saved_50 ?_
            refine c_icmp_ge (tgt := 186) C (r32_c (lo := 0) (hi := 2) hsd.1 hsd.2 (by decide) (by decide)) ⟨by decide, by decide⟩ dX11_saved_51 (by decide) (fun c2 => ?_) (fun c2 => ?_)
            · refine c_iload (j := 1) C dX11_saved_186 rfl ?_
              refine c_if_eq (tgt := 207) C (r32_c (lo := 0) (hi := 9) hwy.1 hwy.2 (by decide) (by decide)) dX11_saved_188 (by decide) (fun _ => ?_) (fun z => absurd z (by omega))
              refine c_aload_n (j := 5) (x := a0) C dX11_saved_207 rfl ?_
              refine c_iload (j := 0) C dX11_saved_208 rfl ?_
              refine d_callV (As := [.int (iI s1)]) (rest := []) C hM (C_done (a0 := a0) (x := s1) Wb1 hS t_a0 (by omega) ) dX11_saved_210 kV_X11_109 rfl t_a0 rfl rfl (by decide) ck_12 rfl (Nat.le_of_ble_eq_true rfl) ⟨(Nat.le_of_ble_eq_true rfl), (Nat.le_of_ble_eq_true rfl)⟩ hph hph (show 0 + 0 = 0 from rfl) (by decide) (fun rh6 Lh6 clh6 lnh6 ivh6 rvh6 h6 => ?_)
              obtain ⟨f6, rfl, rfl, rfl, rfl, rfl, fl6, W6, rgf6, exf6, kp11f6, kp12f6, kp13f6, kp14f6, kp15f6, kp16f6⟩ := h6
              refine hv8 (show 1 ≤ ivb1 a0 11 ∧ ivb1 a0 11 ≤ 100 from Wb1.int t_a0 11) (show 1 ≤ ivb1 a0 12 ∧ ivb1 a0 12 ≤ 50 from Wb1.int t_a0 12) (show (-2147483648) ≤ ivb1 a0 13 ∧ ivb1 a0 13 ≤ 2147483647 from Wb1.int t_a0 13) (show (-2147483648) ≤ ivb1 a0 14 ∧ ivb1 a0 14 ≤ 2147483647 from Wb1.int t_a0 14) (show (-2147483648) ≤ ivb1 a0 15 ∧ ivb1 a0 15 ≤ 2147483647 from Wb1.int t_a0 15) (show (-2147483648) ≤ ivb1 a0 16 ∧ ivb1 a0 16 ≤ 2147483647 from Wb1.int t_a0 16) (Fb1.call hX0 fl6 rfl) (MRK.call mrb1 Wb1 hS XT.refl fl6 rfl rfl) (fun ri25 ri26 ri27 ri28 ri29 ri30 F3 mr3 => ?_)
              refine c_st (st2 := [.int (iI f6)]) rfl ?_
              refine hv13 (show ivh6 a0 11 = ivb1 a0 11 from kp11f6) (show ivh6 a0 12 = ivb1 a0 12 from kp12f6) (show ivh6 a0 13 = ivb1 a0 13 from kp13f6) (show ivh6 a0 14 = ivb1 a0 14 from kp14f6) (show ivh6 a0 15 = ivb1 a0 15 from kp15f6) (show ivh6 a0 16 = ivb1 a0 16 from kp16f6) (show f6 = s1 from exf6) (show 1 ≤ ivh6 a0 11 ∧ ivh6 a0 11 ≤ 100 from W6.int t_a0 11) (show 1 ≤ ivh6 a0 12 ∧ ivh6 a0 12 ≤ 50 from W6.int t_a0 12) (show (-2147483648) ≤ ivh6 a0 13 ∧ ivh6 a0 13 ≤ 2147483647 from W6.int t_a0 13) (show (-2147483648) ≤ ivh6 a0 14 ∧ ivh6 a0 14 ≤ 2147483647 from W6.int t_a0 14) (show (-2147483648) ≤ ivh6 a0 15 ∧ ivh6 a0 15 ≤ 2147483647 from W6.int t_a0 15) (show (-2147483648) ≤ ivh6 a0 16 ∧ ivh6 a0 16 ≤ 2147483647 from W6.int t_a0 16) (fun gk11f6 gk12f6 gk13f6 gk14f6 gk15f6 gk16f6 gf6 ri31 ri32 ri33 ri34 ri35 ri36 => ?_)
              exact c_iret C dX11_saved_213 rfl (by decide) (rom0 hph hph (by decide)) ⟨f6, rfl, rfl, rfl, rfl, rfl, F3, W6, ⟨by omega, by omega⟩, trivial, (gk11f6.trans hkp11), (gk12f6.trans hkp12), (gk13f6.trans hkp13), (gk14f6.trans hkp14), (gk15f6.trans hkp15), (gk16f6.trans hkp16)⟩
            · refine c_aload_n (j := 5) (x := a0) C dX11_saved_54 rfl ?_
              obtain ⟨rb3, rq3, trb3⟩ := Wb1.ref t_a0 5 rfl rfl rfl
              have erb3 := Wb1.sk trb3 (by decide) rfl
              subst erb3
              refine c_getr (k := 5) C ck_12 dX11_saved_55 w2_49 (by decide) t_a0 rfl rfl (by decide) rfl rq3 ?_
              refine c_st (st2 := [.ref (sk 14)]) rfl ?_
              refine d_callV (As := []) (rest := []) C hM (C_restart (a0 := (sk 14)) Wb1 hS tsk14  ) dX11_saved_58 kV_X11_235 rfl tsk14 rfl rfl (by decide) ck_9 rfl (Nat.le_of_ble_eq_true rfl) ⟨(Nat.le_of_ble_eq_true rfl), (Nat.le_of_ble_eq_true rfl)⟩ hph hph (show 0 + 0 = 0 from rfl) (by decide) (fun rh7 Lh7 clh7 lnh7 ivh7 rvh7 h7 => ?_)
              obtain ⟨rfl, rfl, rfl, rfl, rfl, fl7, W7, exf7⟩ := h7
              refine hv2 (Fb1.call hX0 fl7 rfl) (MRK.call mrb1 Wb1 hS XT.refl fl7 rfl rfl) (fun F4 mr4 => ?_)
              refine c_st (st2 := []) rfl ?_
              refine hv3 (show (-2147483648) ≤ ivh7 (sk 14) 0 ∧ ivh7 (sk 14) 0 ≤ 2147483647 from W7.int tsk14 0) (show 0 ≤ ivh7 (sk 14) 1 ∧ ivh7 (sk 14) 1 ≤ 1 from W7.int tsk14 1) (show ivh7 (sk 14) 0 = 0 ∧ ivh7 (sk 14) 1 = 0 from exf7) (fun ri37 ri38 gf7 => ?_)
              refine c_aload_n (j := 5) (x := a0) C dX11_saved_61 rfl ?_
              refine c_getr (k := 5) C ck_12 dX11_saved_62 w2_49 (by decide) t_a0 rfl rfl (by decide) rfl rq3 ?_
              refine c_st (st2 := [.ref (sk 14)]) rfl ?_
              refine c_aload_n (j := 5) (x := a0) C dX11_saved_65 rfl ?_
              obtain ⟨rb4, rq4, trb4⟩ := W7.ref t_a0 1 rfl rfl rfl
              have erb4 := W7.sk trb4 (by decide) rfl
              subst erb4
              refine c_getr (k := 1) C ck_12 dX11_saved_66 w2_45 (by decide) t_a0 rfl rfl (by decide) rfl rq4 ?_
              refine c_st (st2 := [.ref (sk 3), .ref (sk 14)]) rfl ?_
              refine c_aload_n (j := 5) (x := a0) C dX11_saved_69 rfl ?_
              obtain ⟨rb5, rq5, trb5⟩ := W7.ref t_a0 6 rfl rfl rfl
              have erb5 := W7.sk trb5 (by decide) rfl
              subst erb5
              refine c_getr (k := 6) C ck_12 dX11_saved_70 w2_50 (by decide) t_a0 rfl rfl (by decide) rfl rq5 ?_
              refine c_st (st2 := [.ref (sk 15), .ref (sk 3), .ref (sk 14)]) rfl ?_
              refine d_callV (As := [.ref (sk 3), .ref (sk 15)]) (rest := []) C hM (C_sstep (a0 := (sk 14)) (a1 := (sk 3)) (a2 := (sk 15)) W7 hS tsk14 tsk3 tsk15  (by show 0 ≤ ivh7 (sk 14) 0 ∧ ivh7 (sk 14) 0 ≤ 501 ∧ (ivh7 (sk 14) 1 = 0 ∨ ivh7 (sk 14) 0 ≤ 500); omega)) dX11_saved_73 kV_X11_238 rfl tsk14 rfl rfl (by decide) ck_9 rfl (Nat.le_of_ble_eq_true rfl) ⟨(Nat.le_of_ble_eq_true rfl), (Nat.le_of_ble_eq_true rfl)⟩ hph hph (show 0 + 0 = 0 from rfl) (by decide) (fun rh8 Lh8 clh8 lnh8 ivh8 rvh8 h8 => ?_)
              obtain ⟨f8, rfl, rfl, rfl, rfl, rfl, fl8, W8, rgf8, exf8⟩ := h8
              refine hv2 (F4.call hX0 fl8 rfl) (MRK.call mr4 W7 hS XT.refl fl8 rfl rfl) (fun F5 mr5 => ?_)
              refine c_st (st2 := [.int (iI f8)]) rfl ?_
              refine hv3 (show (-2147483648) ≤ ivh8 (sk 14) 0 ∧ ivh8 (sk 14) 0 ≤ 2147483647 from W8.int tsk14 0) (show 0 ≤ ivh8 (sk 14) 1 ∧ ivh8 (sk 14) 1 ≤ 1 from W8.int tsk14 1) (show (0 ≤ f8 ∧ f8 ≤ 3) ∧ 0 ≤ ivh8 (sk 14) 0 ∧ ivh8 (sk 14) 0 ≤ 501 ∧ (ivh8 (sk 14) 1 = 0 ∨ ivh8 (sk 14) 0 ≤ 500) from exf8) (fun ri39 ri40 gf8 => ?_)
              refine c_istore (lv2 := [(8, .int (iI f8)), (5, .int (iI s1)), (6, .int (iI wy)), (7, .int (iI sd)), (4, .ref ob2), (3, .ref ob1), (0, .ref a0), (1, .int (iI i)), (2, .int (iI j))]) C dX11_saved_76 (by decide) rfl ?_
              refine c_iconst C dX11_saved_78 ?_
              refine c_istore (lv2 := [(9, .int (iI 0)), (8, .int (iI f8)), (5, .int (iI s1)), (6, .int (iI wy)), (7, .int (iI sd)), (4, .ref ob2), (3, .ref ob1), (0, .ref a0), (1, .int (iI i)), (2, .int (iI j))]) C dX11_saved_79 (by decide) rfl ?_
              have Lp2 : ∀ (nn : Nat) (s2 wy2 cm k : Int) (ivb2 : Nat → Nat → Int) , 1000001 - k < (nn : Int) → WT (g0 G) sk L cl ln ivb2 rv → fT [1, 14, 15, 50, 51, 52, 53, 54, 55] L cl iv rv ivb2 rv → (-2147483648 ≤ s2 ∧ s2 ≤ 2147483647) → (0 ≤ wy2 ∧ wy2 ≤ 9) → (0 ≤ cm ∧ cm ≤ 3) → (0 ≤ k ∧ k ≤ 1000000) → (0 ≤ ivb2 (sk 14) 0 ∧ ivb2 (sk 14) 0 ≤ 501 ∧ (ivb2 (sk 14) 1 = 0 ∨ ivb2 (sk 14) 0 ≤ 500)) → (ivb2 a0 11 = iv a0 11) → (ivb2 a0 12 = iv a0 12) → (ivb2 a0 13 = iv a0 13) → (ivb2 a0 14 = iv a0 14) → (ivb2 a0 15 = iv a0 15) → (ivb2 a0 16 = iv a0 16) → cw p l e 8 ((PHM) + 0 - ((Phi (g0 G) sk) ln rv)) s m args below meth c G A 10 (MQ below (Qu G A (Qp G (Phi (g0 G) sk) ((Phi (g0 G) sk) ln rv) 0 (fun v L2 cl2 ln2 iv2 rv2 => ∃ f : Int, v = some (.int (iI f)) ∧ L = L2 ∧ cl = cl2 ∧ ln = ln2 ∧ rv = rv2 ∧ fT [1, 14, 15, 50, 51, 52, 53, 54, 55] L cl iv rv iv2 rv2 ∧ WT (g0 G) sk L2 cl2 ln2 iv2 rv2 ∧ (-2147483648 ≤ f ∧ f ≤ 2147483647) ∧ (True) ∧ iv2 a0 11 = iv a0 11 ∧ iv2 a0 12 = iv a0 12 ∧ iv2 a0 13 = iv a0 13 ∧ iv2 a0 14 = iv a0 14 ∧ iv2 a0 15 = iv a0 15 ∧ iv2 a0 16 = iv a0 16))) args s (((PHM) + 0 - ((Phi (g0 G) sk) ln rv)) / 16) ((PHM) + 0 - ((Phi (g0 G) sk) ln rv)) A) (Phi (g0 G) sk) ((Phi (g0 G) sk) ln rv) L cl ln ivb2 rv 0 81 [(5, .int (iI s2)), (6, .int (iI wy2)), (8, .int (iI cm)), (9, .int (iI k)), (7, .int (iI sd)), (4, .ref ob2), (3, .ref ob1), (0, .ref a0), (1, .int (iI i)), (2, .int (iI j))] [] := by
                intro nn
                induction nn with
                | zero =>
                  intro  s2 wy2 cm k ivb2 hm Wb2 Fb2  hs2 hwy2 hcm hk hsr hkp11 hkp12 hkp13 hkp14 hkp15 hkp16
                  exact absurd hm (by omega)
                | succ nn ih2 =>
                  intro  s2 wy2 cm k ivb2 hm Wb2 Fb2  hs2 hwy2 hcm hk hsr hkp11 hkp12 hkp13 hkp14 hkp15 hkp16
                  have mrb2 := MRK.call hmr hW hS XT.refl Fb2 rfl rfl
                  refine c_iload (j := 1) C dX11_saved_81 rfl ?_
                  refine c_if_ne (tgt := 180) C (r32_c (lo := 0) (hi := 9) hwy2.1 hwy2.2 (by decide) (by decide)) dX11_saved_83 (by decide) (fun c3 => ?_) (fun c3 => ?_)
                  · refine c_iinc (z := sd) (j := 4) (lv2 := [(7, .int (iI (sd + 1))), (5, .int (iI s2)), (6, .int (iI wy2)), (8, .int (iI cm)), (9, .int (iI k)), (4, .ref ob2), (3, .ref ob1), (0, .ref a0), (1, .int (iI i)), (2, .int (iI j))]) C dX11_saved_180 rfl (by decide) rfl ?_
                    refine c_goto (tgt := 43) C dX11_saved_183 (by decide) ?_
                    refine hv6 (show 1 ≤ ivb2 a0 11 ∧ ivb2 a0 11 ≤ 100 from Wb2.int t_a0 11) (show 1 ≤ ivb2 a0 12 ∧ ivb2 a0 12 ≤ 50 from Wb2.int t_a0 12) (show (-2147483648) ≤ ivb2 a0 13 ∧ ivb2 a0 13 ≤ 2147483647 from Wb2.int t_a0 13) (show (-2147483648) ≤ ivb2 a0 14 ∧ ivb2 a0 14 ≤ 2147483647 from Wb2.int t_a0 14) (show (-2147483648) ≤ ivb2 a0 15 ∧ ivb2 a0 15 ≤ 2147483647 from Wb2.int t_a0 15) (show (-2147483648) ≤ ivb2 a0 16 ∧ ivb2 a0 16 ≤ 2147483647 from Wb2.int t_a0 16) (fun ri41 ri42 ri43 ri44 ri45 ri46 => ?_)
                    refine c_lv (lv2 := [(5, .int (iI s2)), (6, .int (iI wy2)), (7, .int (iI (sd + 1))), (4, .ref ob2), (3, .ref ob1), (0, .ref a0), (1, .int (iI i)), (2, .int (iI j))]) [1, 2, 0, 5, 6, 7, 8, 9] rfl ?_
                    exact ih1  s2 wy2 (sd + 1) _ (by omega) Wb2 Fb2  (by omega) (by omega) (by omega) hkp11 hkp12 hkp13 hkp14 hkp15 hkp16
                  · refine c_iload (j := 2) C dX11_saved_86 rfl ?_
                    refine c_if_eq (tgt := 180) C (r32_c (lo := 0) (hi := 3) hcm.1 hcm.2 (by decide) (by decide)) dX11_saved_88 (by decide) (fun c4 => ?_) (fun c4 => ?_)
                    · refine c_iinc (z := sd) (j := 4) (lv2 := [(7, .int (iI (sd + 1))), (5, .int (iI s2)), (6, .int (iI wy2)), (8, .int (iI cm)), (9, .int (iI k)), (4, .ref ob2), (3, .ref ob1), (0, .ref a0), (1, .int (iI i)), (2, .int (iI j))]) C dX11_saved_180 rfl (by decide) rfl ?_
                      refine c_goto (tgt := 43) C dX11_saved_183 (by decide) ?_
                      refine hv6 (show 1 ≤ ivb2 a0 11 ∧ ivb2 a0 11 ≤ 100 from Wb2.int t_a0 11) (show 1 ≤ ivb2 a0 12 ∧ ivb2 a0 12 ≤ 50 from Wb2.int t_a0 12) (show (-2147483648) ≤ ivb2 a0 13 ∧ ivb2 a0 13 ≤ 2147483647 from Wb2.int t_a0 13) (show (-2147483648) ≤ ivb2 a0 14 ∧ ivb2 a0 14 ≤ 2147483647 from Wb2.int t_a0 14) (show (-2147483648) ≤ ivb2 a0 15 ∧ ivb2 a0 15 ≤ 2147483647 from Wb2.int t_a0 15) (show (-2147483648) ≤ ivb2 a0 16 ∧ ivb2 a0 16 ≤ 2147483647 from Wb2.int t_a0 16) (fun ri47 ri48 ri49 ri50 ri51 ri52 => ?_)
                      refine c_lv (lv2 := [(5, .int (iI s2)), (6, .int (iI wy2)), (7, .int (iI (sd + 1))), (4, .ref ob2), (3, .ref ob1), (0, .ref a0), (1, .int (iI i)), (2, .int (iI j))]) [1, 2, 0, 5, 6, 7, 8, 9] rfl ?_
                      exact ih1  s2 wy2 (sd + 1) _ (by omega) Wb2 Fb2  (by omega) (by omega) (by omega) hkp11 hkp12 hkp13 hkp14 hkp15 hkp16
                    · refine c_iload (j := 3) C dX11_saved_91 rfl ?_
                      refine c_ldc (z := 1000000) C dX11_saved_93 w4_30 rfl ?_
                      refine c_icmp_ge (tgt := 180) C (r32_c (lo := 0) (hi := 1000000) hk.1 hk.2 (by decide) (by decide)) ⟨by decide, by decide⟩ dX11_saved_95 (by decide) (fun c5 => ?_) (fun c5 => ?_)
                      · refine c_iinc (z := sd) (j := 4) (lv2 := [(7, .int (iI (sd + 1))), (5, .int (iI s2)), (6, .int (iI wy2)), (8, .int (iI cm)), (9, .int (iI k)), (4, .ref ob2), (3, .ref ob1), (0, .ref a0), (1, .int (iI i)), (2, .int (iI j))]) C dX11_saved_180 rfl (by decide) rfl ?_
                        refine c_goto (tgt := 43) C dX11_saved_183 (by decide) ?_
                        refine hv6 (show 1 ≤ ivb2 a0 11 ∧ ivb2 a0 11 ≤ 100 from Wb2.int t_a0 11) (show 1 ≤ ivb2 a0 12 ∧ ivb2 a0 12 ≤ 50 from Wb2.int t_a0 12) (show (-2147483648) ≤ ivb2 a0 13 ∧ ivb2 a0 13 ≤ 2147483647 from Wb2.int t_a0 13) (show (-2147483648) ≤ ivb2 a0 14 ∧ ivb2 a0 14 ≤ 2147483647 from Wb2.int t_a0 14) (show (-2147483648) ≤ ivb2 a0 15 ∧ ivb2 a0 15 ≤ 2147483647 from Wb2.int t_a0 15) (show (-2147483648) ≤ ivb2 a0 16 ∧ ivb2 a0 16 ≤ 2147483647 from Wb2.int t_a0 16) (fun ri53 ri54 ri55 ri56 ri57 ri58 => ?_)
                        refine c_lv (lv2 := [(5, .int (iI s2)), (6, .int (iI wy2)), (7, .int (iI (sd + 1))), (4, .ref ob2), (3, .ref ob1), (0, .ref a0), (1, .int (iI i)), (2, .int (iI j))]) [1, 2, 0, 5, 6, 7, 8, 9] rfl ?_
                        exact ih1  s2 wy2 (sd + 1) _ (by omega) Wb2 Fb2  (by omega) (by omega) (by omega) hkp11 hkp12 hkp13 hkp14 hkp15 hkp16
                      · refine c_iload (j := 2) C dX11_saved_98 rfl ?_
                        refine c_iconst C dX11_saved_100 ?_
                        refine c_icmp_ne (tgt := 152) C (r32_c (lo := 0) (hi := 3) hcm.1 hcm.2 (by decide) (by decide)) ⟨by decide, by decide⟩ dX11_saved_101 (by decide) (fun c6 => ?_) (fun c6 => ?_)
                        · refine c_iload (j := 1) C dX11_saved_152 rfl ?_
                          refine c_if_ne (tgt := 174) C (r32_c (lo := 0) (hi := 9) hwy2.1 hwy2.2 (by decide) (by decide)) dX11_saved_154 (by decide) (fun z => absurd z (by omega)) (fun _ => ?_)
                          refine c_aload_n (j := 7) (x := a0) C dX11_saved_157 rfl ?_
                          refine c_getr (k := 5) C ck_12 dX11_saved_158 w2_49 (by decide) t_a0 rfl rfl (by decide) rfl rq3 ?_
                          refine c_st (st2 := [.ref (sk 14)]) rfl ?_
                          refine c_aload_n (j := 7) (x := a0) C dX11_saved_161 rfl ?_
                          refine c_getr (k := 1) C ck_12 dX11_saved_162 w2_45 (by decide) t_a0 rfl rfl (by decide) rfl rq4 ?_
                          refine c_st (st2 := [.ref (sk 3), .ref (sk 14)]) rfl ?_
                          refine c_aload_n (j := 7) (x := a0) C dX11_saved_165 rfl ?_
                          refine c_getr (k := 6) C ck_12 dX11_saved_166 w2_50 (by decide) t_a0 rfl rfl (by decide) rfl rq5 ?_
                          refine c_st (st2 := [.ref (sk 15), .ref (sk 3), .ref (sk 14)]) rfl ?_
                          refine hv2 (show (-2147483648) ≤ ivb2 (sk 14) 0 ∧ ivb2 (sk 14) 0 ≤ 2147483647 from Wb2.int tsk14 0) (show 0 ≤ ivb2 (sk 14) 1 ∧ ivb2 (sk 14) 1 ≤ 1 from Wb2.int tsk14 1) (fun ri59 ri60 => ?_)
                          refine d_callV (As := [.ref (sk 3), .ref (sk 15)]) (rest := []) C hM (C_sstep (a0 := (sk 14)) (a1 := (sk 3)) (a2 := (sk 15)) Wb2 hS tsk14 tsk3 tsk15  (by show 0 ≤ ivb2 (sk 14) 0 ∧ ivb2 (sk 14) 0 ≤ 501 ∧ (ivb2 (sk 14) 1 = 0 ∨ ivb2 (sk 14) 0 ≤ 500); omega)) dX11_saved_169 kV_X11_238 rfl tsk14 rfl rfl (by decide) ck_9 rfl (Nat.le_of_ble_eq_true rfl) ⟨(Nat.le_of_ble_eq_true rfl), (Nat.le_of_ble_eq_true rfl)⟩ hph hph (show 0 + 0 = 0 from rfl) (by decide) (fun rh9 Lh9 clh9 lnh9 ivh9 rvh9 h9 => ?_)
                          obtain ⟨f9, rfl, rfl, rfl, rfl, rfl, fl9, W9, rgf9, exf9⟩ := h9
                          refine hv2 (Fb2.call hX0 fl9 rfl) (MRK.call mrb2 Wb2 hS XT.refl fl9 rfl rfl) (fun F6 mr6 => ?_)
                          refine c_st (st2 := [.int (iI f9)]) rfl ?_
                          refine hv3 (show (-2147483648) ≤ ivh9 (sk 14) 0 ∧ ivh9 (sk 14) 0 ≤ 2147483647 from W9.int tsk14 0) (show 0 ≤ ivh9 (sk 14) 1 ∧ ivh9 (sk 14) 1 ≤ 1 from W9.int tsk14 1) (show (0 ≤ f9 ∧ f9 ≤ 3) ∧ 0 ≤ ivh9 (sk 14) 0 ∧ ivh9 (sk 14) 0 ≤ 501 ∧ (ivh9 (sk 14) 1 = 0 ∨ ivh9 (sk 14) 0 ≤ 500) from exf9) (fun ri61 ri62 gf9 => ?_)
                          refine c_istore (lv2 := [(8, .int (iI f9)), (5, .int (iI s2)), (6, .int (iI wy2)), (9, .int (iI k)), (7, .int (iI sd)), (4, .ref ob2), (3, .ref ob1), (0, .ref a0), (1, .int (iI i)), (2, .int (iI j))]) C dX11_saved_172 (by decide) rfl ?_
                          refine c_iinc (z := k) (j := 3) (lv2 := [(9, .int (iI (k + 1))), (8, .int (iI f9)), (5, .int (iI s2)), (6, .int (iI wy2)), (7, .int (iI sd)), (4, .ref ob2), (3, .ref ob1), (0, .ref a0), (1, .int (iI i)), (2, .int (iI j))]) C dX11_saved_174 rfl (by decide) rfl ?_
                          refine c_goto (tgt := 81) C dX11_saved_177 (by decide) ?_
                          refine hv12 (show 1 ≤ ivh9 a0 11 ∧ ivh9 a0 11 ≤ 100 from W9.int t_a0 11) (show ivh9 a0 11 = ivb2 a0 11 from fl9.i t_a0 rfl 11) (show 1 ≤ ivh9 a0 12 ∧ ivh9 a0 12 ≤ 50 from W9.int t_a0 12) (show ivh9 a0 12 = ivb2 a0 12 from fl9.i t_a0 rfl 12) (show (-2147483648) ≤ ivh9 a0 13 ∧ ivh9 a0 13 ≤ 2147483647 from W9.int t_a0 13) (show ivh9 a0 13 = ivb2 a0 13 from fl9.i t_a0 rfl 13) (show (-2147483648) ≤ ivh9 a0 14 ∧ ivh9 a0 14 ≤ 2147483647 from W9.int t_a0 14) (show ivh9 a0 14 = ivb2 a0 14 from fl9.i t_a0 rfl 14) (show (-2147483648) ≤ ivh9 a0 15 ∧ ivh9 a0 15 ≤ 2147483647 from W9.int t_a0 15) (show ivh9 a0 15 = ivb2 a0 15 from fl9.i t_a0 rfl 15) (show (-2147483648) ≤ ivh9 a0 16 ∧ ivh9 a0 16 ≤ 2147483647 from W9.int t_a0 16) (show ivh9 a0 16 = ivb2 a0 16 from fl9.i t_a0 rfl 16) (fun ri63 ie57 ri64 ie59 ri65 ie61 ri66 ie63 ri67 ie65 ri68 ie67 => ?_)
                          refine c_lv (lv2 := [(5, .int (iI s2)), (6, .int (iI wy2)), (8, .int (iI f9)), (9, .int (iI (k + 1))), (7, .int (iI sd)), (4, .ref ob2), (3, .ref ob1), (0, .ref a0), (1, .int (iI i)), (2, .int (iI j))]) [2, 3, 1, 0, 4, 5, 6, 7, 8, 9] rfl ?_
                          exact ih2  s2 wy2 f9 (k + 1) _ (by omega) W9 F6  (by omega) (by omega) (by omega) (by omega) (by show 0 ≤ ivh9 (sk 14) 0 ∧ ivh9 (sk 14) 0 ≤ 501 ∧ (ivh9 (sk 14) 1 = 0 ∨ ivh9 (sk 14) 0 ≤ 500); omega) (ie57.trans hkp11) (ie59.trans hkp12) (ie61.trans hkp13) (ie63.trans hkp14) (ie65.trans hkp15) (ie67.trans hkp16)
                        · refine c_aload_n (j := 7) (x := a0) C dX11_saved_104 rfl ?_
                          refine c_getr (k := 6) C ck_12 dX11_saved_105 w2_50 (by decide) t_a0 rfl rfl (by decide) rfl rq5 ?_
                          refine c_st (st2 := [.ref (sk 15)]) rfl ?_
                          refine c_iload (j := 4) C dX11_saved_108 rfl ?_
                          refine c_if_ne (tgt := 117) C (r32_c (lo := 0) (hi := 2) hsd.1 hsd.2 (by decide) (by decide)) dX11_saved_110 (by decide) (fun c7 => ?_) (fun c7 => ?_)
                          · refine c_aload (j := 5) (x := ob2) C dX11_saved_117 rfl ?_
                            have ri69 : 0 ≤ ivb2 (sk 15) 4 ∧ ivb2 (sk 15) 4 ≤ 500 := Wb2.int tsk15 4
                            refine d_callV (As := [.ref ob2]) (rest := []) C hM (C_setBy (a0 := (sk 15)) (a1 := ob2) Wb2 hS tsk15 tob2  ) dX11_saved_119 kV_X11_253 rfl tsk15 rfl rfl (by decide) ck_7 rfl (Nat.le_of_ble_eq_true rfl) ⟨(Nat.le_of_ble_eq_true rfl), (Nat.le_of_ble_eq_true rfl)⟩ hph hph (show 0 + 0 = 0 from rfl) (by decide) (fun rh10 Lh10 clh10 lnh10 ivh10 rvh10 h10 => ?_)
                            obtain ⟨f10, rfl, rfl, rfl, rfl, rfl, fl10, W10, rgf10, exf10⟩ := h10
                            refine hv2 (Fb2.call hX0 fl10 rfl) (MRK.call mrb2 Wb2 hS XT.refl fl10 rfl rfl) (fun F7 mr7 => ?_)
                            refine c_st (st2 := [.int (iI f10)]) rfl ?_
                            refine hv3 (show 0 ≤ ivh10 (sk 15) 4 ∧ ivh10 (sk 15) 4 ≤ 500 from W10.int tsk15 4) (show 0 ≤ ivh10 (sk 15) 7 ∧ ivh10 (sk 15) 7 ≤ 100000 from W10.int tsk15 7) (show (f10 = 0 ∨ f10 = 6 ∨ f10 = 7) ∧ ivh10 (sk 15) 4 = ivb2 (sk 15) 4 ∧ (f10 = 0 → ivh10 (sk 15) 7 ≤ 200) from exf10) (fun ri70 ri71 gf10 => ?_)
                            refine c_istore (lv2 := [(6, .int (iI f10)), (5, .int (iI s2)), (8, .int (iI cm)), (9, .int (iI k)), (7, .int (iI sd)), (4, .ref ob2), (3, .ref ob1), (0, .ref a0), (1, .int (iI i)), (2, .int (iI j))]) C dX11_saved_122 (by decide) rfl ?_
                            refine c_iload (j := 1) C dX11_saved_124 rfl ?_
                            refine c_iload (j := 4) C dX11_saved_126 rfl ?_
                            refine c_if_ne (tgt := 141) C (r32_c (lo := 0) (hi := 2) hsd.1 hsd.2 (by decide) (by decide)) dX11_saved_128 (by decide) (fun _ => ?_) (fun z => absurd z (by omega))
                            refine c_aload_n (j := 7) (x := a0) C dX11_saved_141 rfl ?_
                            refine c_getr (k := 6) C ck_12 dX11_saved_142 w2_50 (by decide) t_a0 rfl rfl (by decide) rfl rq5 ?_
                            refine c_st (st2 := [.ref (sk 15), .int (iI s2)]) rfl ?_
                            refine c_get (k := 7) C ck_7 dX11_saved_145 w1_149 (by decide) tsk15 rfl rfl (by decide) rfl ?_
                            refine c_ineg C dX11_saved_148 ?_
                            refine c_iadd C dX11_saved_149 ?_
                            obtain ⟨zz1, hzz1, ezz1⟩ := iI_of (iI (s2 + (-(ivh10 (sk 15) 7))))
                            refine c_st (st2 := [.int (iI zz1)]) (by rw [ezz1]) ?_
                            refine c_istore (lv2 := [(5, .int (iI zz1)), (6, .int (iI f10)), (8, .int (iI cm)), (9, .int (iI k)), (7, .int (iI sd)), (4, .ref ob2), (3, .ref ob1), (0, .ref a0), (1, .int (iI i)), (2, .int (iI j))]) C dX11_saved_150 (by decide) rfl ?_
                            refine c_iload (j := 1) C dX11_saved_152 rfl ?_
                            refine c_if_ne (tgt := 174) C (r32_067 gf10.1) dX11_saved_154 (by decide) (fun c8 => ?_) (fun c8 => ?_)
                            · replace gf10 := (And.intro (gf10.1.resolve_left c8) (And.intro gf10.2.1 trivial))
                              refine c_iinc (z := k) (j := 3) (lv2 := [(9, .int (iI (k + 1))), (5, .int (iI zz1)), (6, .int (iI f10)), (8, .int (iI cm)), (7, .int (iI sd)), (4, .ref ob2), (3, .ref ob1), (0, .ref a0), (1, .int (iI i)), (2, .int (iI j))]) C dX11_saved_174 rfl (by decide) rfl ?_
                              refine c_goto (tgt := 81) C dX11_saved_177 (by decide) ?_
                              refine hv16 (show (-2147483648) ≤ ivh10 (sk 14) 0 ∧ ivh10 (sk 14) 0 ≤ 2147483647 from W10.int tsk14 0) (show ivh10 (sk 14) 0 = ivb2 (sk 14) 0 from fl10.i tsk14 rfl 0) (show 0 ≤ ivh10 (sk 14) 1 ∧ ivh10 (sk 14) 1 ≤ 1 from W10.int tsk14 1) (show ivh10 (sk 14) 1 = ivb2 (sk 14) 1 from fl10.i tsk14 rfl 1) (show 1 ≤ ivh10 a0 11 ∧ ivh10 a0 11 ≤ 100 from W10.int t_a0 11) (show ivh10 a0 11 = ivb2 a0 11 from fl10.i t_a0 rfl 11) (show 1 ≤ ivh10 a0 12 ∧ ivh10 a0 12 ≤ 50 from W10.int t_a0 12) (show ivh10 a0 12 = ivb2 a0 12 from fl10.i t_a0 rfl 12) (show (-2147483648) ≤ ivh10 a0 13 ∧ ivh10 a0 13 ≤ 2147483647 from W10.int t_a0 13) (show ivh10 a0 13 = ivb2 a0 13 from fl10.i t_a0 rfl 13) (show (-2147483648) ≤ ivh10 a0 14 ∧ ivh10 a0 14 ≤ 2147483647 from W10.int t_a0 14) (show ivh10 a0 14 = ivb2 a0 14 from fl10.i t_a0 rfl 14) (show (-2147483648) ≤ ivh10 a0 15 ∧ ivh10 a0 15 ≤ 2147483647 from W10.int t_a0 15) (show ivh10 a0 15 = ivb2 a0 15 from fl10.i t_a0 rfl 15) (show (-2147483648) ≤ ivh10 a0 16 ∧ ivh10 a0 16 ≤ 2147483647 from W10.int t_a0 16) (show ivh10 a0 16 = ivb2 a0 16 from fl10.i t_a0 rfl 16) (fun ri72 ie72 ri73 ie74 ri74 ie76 ri75 ie78 ri76 ie80 ri77 ie82 ri78 ie84 ri79 ie86 => ?_)
                              refine c_lv (lv2 := [(5, .int (iI zz1)), (6, .int (iI f10)), (8, .int (iI cm)), (9, .int (iI (k + 1))), (7, .int (iI sd)), (4, .ref ob2), (3, .ref ob1), (0, .ref a0), (1, .int (iI i)), (2, .int (iI j))]) [1, 2, 3, 0, 4, 5, 6, 7, 8, 9] rfl ?_
                              exact ih2  zz1 f10 cm (k + 1) _ (by omega) W10 F7  (by omega) (by omega) (by omega) (by omega) (by show 0 ≤ ivh10 (sk 14) 0 ∧ ivh10 (sk 14) 0 ≤ 501 ∧ (ivh10 (sk 14) 1 = 0 ∨ ivh10 (sk 14) 0 ≤ 500); omega) (ie76.trans hkp11) (ie78.trans hkp12) (ie80.trans hkp13) (ie82.trans hkp14) (ie84.trans hkp15) (ie86.trans hkp16)
                            · replace gf10 := (And.intro c8 (And.intro gf10.2.1 (gf10.2.2 c8)))
                              refine c_aload_n (j := 7) (x := a0) C dX11_saved_157 rfl ?_
                              refine c_getr (k := 5) C ck_12 dX11_saved_158 w2_49 (by decide) t_a0 rfl rfl (by decide) rfl rq3 ?_
                              refine c_st (st2 := [.ref (sk 14)]) rfl ?_
                              refine c_aload_n (j := 7) (x := a0) C dX11_saved_161 rfl ?_
                              refine c_getr (k := 1) C ck_12 dX11_saved_162 w2_45 (by decide) t_a0 rfl rfl (by decide) rfl rq4 ?_
                              refine c_st (st2 := [.ref (sk 3), .ref (sk 14)]) rfl ?_
                              refine c_aload_n (j := 7) (x := a0) C dX11_saved_165 rfl ?_
                              refine c_getr (k := 6) C ck_12 dX11_saved_166 w2_50 (by decide) t_a0 rfl rfl (by decide) rfl rq5 ?_
                              refine c_st (st2 := [.ref (sk 15), .ref (sk 3), .ref (sk 14)]) rfl ?_
                              refine hv4 (show (-2147483648) ≤ ivh10 (sk 14) 0 ∧ ivh10 (sk 14) 0 ≤ 2147483647 from W10.int tsk14 0) (show ivh10 (sk 14) 0 = ivb2 (sk 14) 0 from fl10.i tsk14 rfl 0) (show 0 ≤ ivh10 (sk 14) 1 ∧ ivh10 (sk 14) 1 ≤ 1 from W10.int tsk14 1) (show ivh10 (sk 14) 1 = ivb2 (sk 14) 1 from fl10.i tsk14 rfl 1) (fun ri80 ie88 ri81 ie90 => ?_)
                              refine d_callV (As := [.ref (sk 3), .ref (sk 15)]) (rest := []) C hM (C_sstep (a0 := (sk 14)) (a1 := (sk 3)) (a2 := (sk 15)) W10 hS tsk14 tsk3 tsk15  (by show 0 ≤ ivh10 (sk 14) 0 ∧ ivh10 (sk 14) 0 ≤ 501 ∧ (ivh10 (sk 14) 1 = 0 ∨ ivh10 (sk 14) 0 ≤ 500); omega)) dX11_saved_169 kV_X11_238 rfl tsk14 rfl rfl (by decide) ck_9 rfl (Nat.le_of_ble_eq_true rfl) ⟨(Nat.le_of_ble_eq_true rfl), (Nat.le_of_ble_eq_true rfl)⟩ hph hph (show 0 + 0 = 0 from rfl) (by decide) (fun rh11 Lh11 clh11 lnh11 ivh11 rvh11 h11 => ?_)
                              obtain ⟨f11, rfl, rfl, rfl, rfl, rfl, fl11, W11, rgf11, exf11⟩ := h11
                              refine hv2 (F7.call hX0 fl11 rfl) (MRK.call mr7 W10 hS XT.refl fl11 rfl rfl) (fun F8 mr8 => ?_)
                              refine c_st (st2 := [.int (iI f11)]) rfl ?_
                              refine hv3 (show (-2147483648) ≤ ivh11 (sk 14) 0 ∧ ivh11 (sk 14) 0 ≤ 2147483647 from W11.int tsk14 0) (show 0 ≤ ivh11 (sk 14) 1 ∧ ivh11 (sk 14) 1 ≤ 1 from W11.int tsk14 1) (show (0 ≤ f11 ∧ f11 ≤ 3) ∧ 0 ≤ ivh11 (sk 14) 0 ∧ ivh11 (sk 14) 0 ≤ 501 ∧ (ivh11 (sk 14) 1 = 0 ∨ ivh11 (sk 14) 0 ≤ 500) from exf11) (fun ri82 ri83 gf11 => ?_)
                              refine c_istore (lv2 := [(8, .int (iI f11)), (5, .int (iI zz1)), (6, .int (iI f10)), (9, .int (iI k)), (7, .int (iI sd)), (4, .ref ob2), (3, .ref ob1), (0, .ref a0), (1, .int (iI i)), (2, .int (iI j))]) C dX11_saved_172 (by decide) rfl ?_
                              refine c_iinc (z := k) (j := 3) (lv2 := [(9, .int (iI (k + 1))), (8, .int (iI f11)), (5, .int (iI zz1)), (6, .int (iI f10)), (7, .int (iI sd)), (4, .ref ob2), (3, .ref ob1), (0, .ref a0), (1, .int (iI i)), (2, .int (iI j))]) C dX11_saved_174 rfl (by decide) rfl ?_
                              refine c_goto (tgt := 81) C dX11_saved_177 (by decide) ?_
                              refine hv18 (show 1 ≤ ivh11 a0 11 ∧ ivh11 a0 11 ≤ 100 from W11.int t_a0 11) (show ivh11 a0 11 = ivh10 a0 11 from fl11.i t_a0 rfl 11) (show ivh10 a0 11 = ivb2 a0 11 from fl10.i t_a0 rfl 11) (show 1 ≤ ivh11 a0 12 ∧ ivh11 a0 12 ≤ 50 from W11.int t_a0 12) (show ivh11 a0 12 = ivh10 a0 12 from fl11.i t_a0 rfl 12) (show ivh10 a0 12 = ivb2 a0 12 from fl10.i t_a0 rfl 12) (show (-2147483648) ≤ ivh11 a0 13 ∧ ivh11 a0 13 ≤ 2147483647 from W11.int t_a0 13) (show ivh11 a0 13 = ivh10 a0 13 from fl11.i t_a0 rfl 13) (show ivh10 a0 13 = ivb2 a0 13 from fl10.i t_a0 rfl 13) (show (-2147483648) ≤ ivh11 a0 14 ∧ ivh11 a0 14 ≤ 2147483647 from W11.int t_a0 14) (show ivh11 a0 14 = ivh10 a0 14 from fl11.i t_a0 rfl 14) (show ivh10 a0 14 = ivb2 a0 14 from fl10.i t_a0 rfl 14) (show (-2147483648) ≤ ivh11 a0 15 ∧ ivh11 a0 15 ≤ 2147483647 from W11.int t_a0 15) (show ivh11 a0 15 = ivh10 a0 15 from fl11.i t_a0 rfl 15) (show ivh10 a0 15 = ivb2 a0 15 from fl10.i t_a0 rfl 15) (show (-2147483648) ≤ ivh11 a0 16 ∧ ivh11 a0 16 ≤ 2147483647 from W11.int t_a0 16) (show ivh11 a0 16 = ivh10 a0 16 from fl11.i t_a0 rfl 16) (show ivh10 a0 16 = ivb2 a0 16 from fl10.i t_a0 rfl 16) (fun ri84 ie94 ie95 ri85 ie97 ie98 ri86 ie100 ie101 ri87 ie103 ie104 ri88 ie106 ie107 ri89 ie109 ie110 => ?_)
                              refine c_lv (lv2 := [(5, .int (iI zz1)), (6, .int (iI f10)), (8, .int (iI f11)), (9, .int (iI (k + 1))), (7, .int (iI sd)), (4, .ref ob2), (3, .ref ob1), (0, .ref a0), (1, .int (iI i)), (2, .int (iI j))]) [2, 3, 1, 0, 4, 5, 6, 7, 8, 9] rfl ?_
                              exact ih2  zz1 f10 f11 (k + 1) _ (by omega) W11 F8  (by omega) (by omega) (by omega) (by omega) (by show 0 ≤ ivh11 (sk 14) 0 ∧ ivh11 (sk 14) 0 ≤ 501 ∧ (ivh11 (sk 14) 1 = 0 ∨ ivh11 (sk 14) 0 ≤ 500); omega) (ie94.trans (ie95.trans hkp11)) (ie97.trans (ie98.trans hkp12)) (ie100.trans (ie101.trans hkp13)) (ie103.trans (ie104.trans hkp14)) (ie106.trans (ie107.trans hkp15)) (ie109.trans (ie110.trans hkp16))
                          · refine c_aload_n (j := 6) (x := ob1) C dX11_saved_113 rfl ?_
                            refine c_goto (tgt := 119) C dX11_saved_114 (by decide) ?_
                            have ri90 : 0 ≤ ivb2 (sk 15) 4 ∧ ivb2 (sk 15) 4 ≤ 500 := Wb2.int tsk15 4
                            refine d_callV (As := [.ref ob1]) (rest := []) C hM (C_setBy (a0 := (sk 15)) (a1 := ob1) Wb2 hS tsk15 tob1  ) dX11_saved_119 kV_X11_253 rfl tsk15 rfl rfl (by decide) ck_7 rfl (Nat.le_of_ble_eq_true rfl) ⟨(Nat.le_of_ble_eq_true rfl), (Nat.le_of_ble_eq_true rfl)⟩ hph hph (show 0 + 0 = 0 from rfl) (by decide) (fun rh12 Lh12 clh12 lnh12 ivh12 rvh12 h12 => ?_)
                            obtain ⟨f12, rfl, rfl, rfl, rfl, rfl, fl12, W12, rgf12, exf12⟩ := h12
                            refine hv2 (Fb2.call hX0 fl12 rfl) (MRK.call mrb2 Wb2 hS XT.refl fl12 rfl rfl) (fun F9 mr9 => ?_)
                            refine c_st (st2 := [.int (iI f12)]) rfl ?_
                            refine hv3 (show 0 ≤ ivh12 (sk 15) 4 ∧ ivh12 (sk 15) 4 ≤ 500 from W12.int tsk15 4) (show 0 ≤ ivh12 (sk 15) 7 ∧ ivh12 (sk 15) 7 ≤ 100000 from W12.int tsk15 7) (show (f12 = 0 ∨ f12 = 6 ∨ f12 = 7) ∧ ivh12 (sk 15) 4 = ivb2 (sk 15) 4 ∧ (f12 = 0 → ivh12 (sk 15) 7 ≤ 200) from exf12) (fun ri91 ri92 gf12 => ?_)
                            refine c_istore (lv2 := [(6, .int (iI f12)), (5, .int (iI s2)), (8, .int (iI cm)), (9, .int (iI k)), (7, .int (iI sd)), (4, .ref ob2), (3, .ref ob1), (0, .ref a0), (1, .int (iI i)), (2, .int (iI j))]) C dX11_saved_122 (by decide) rfl ?_
                            refine c_iload (j := 1) C dX11_saved_124 rfl ?_
                            refine c_iload (j := 4) C dX11_saved_126 rfl ?_
                            refine c_if_ne (tgt := 141) C (r32_c (lo := 0) (hi := 2) hsd.1 hsd.2 (by decide) (by decide)) dX11_saved_128 (by decide) (fun z => absurd z (by omega)) (fun _ => ?_)
                            refine c_aload_n (j := 7) (x := a0) C dX11_saved_131 rfl ?_
                            refine c_getr (k := 6) C ck_12 dX11_saved_132 w2_50 (by decide) t_a0 rfl rfl (by decide) rfl rq5 ?_
                            refine c_st (st2 := [.ref (sk 15), .int (iI s2)]) rfl ?_
                            refine c_get (k := 7) C ck_7 dX11_saved_135 w1_149 (by decide) tsk15 rfl rfl (by decide) rfl ?_
                            refine c_goto (tgt := 149) C dX11_saved_138 (by decide) ?_
                            refine c_iadd C dX11_saved_149 ?_
                            obtain ⟨zz2, hzz2, ezz2⟩ := iI_of (iI (s2 + (ivh12 (sk 15) 7)))
                            refine c_st (st2 := [.int (iI zz2)]) (by rw [ezz2]) ?_
                            refine c_istore (lv2 := [(5, .int (iI zz2)), (6, .int (iI f12)), (8, .int (iI cm)), (9, .int (iI k)), (7, .int (iI sd)), (4, .ref ob2), (3, .ref ob1), (0, .ref a0), (1, .int (iI i)), (2, .int (iI j))]) C dX11_saved_150 (by decide) rfl ?_
                            refine c_iload (j := 1) C dX11_saved_152 rfl ?_
                            refine c_if_ne (tgt := 174) C (r32_067 gf12.1) dX11_saved_154 (by decide) (fun c9 => ?_) (fun c9 => ?_)
                            · replace gf12 := (And.intro (gf12.1.resolve_left c9) (And.intro gf12.2.1 trivial))
                              refine c_iinc (z := k) (j := 3) (lv2 := [(9, .int (iI (k + 1))), (5, .int (iI zz2)), (6, .int (iI f12)), (8, .int (iI cm)), (7, .int (iI sd)), (4, .ref ob2), (3, .ref ob1), (0, .ref a0), (1, .int (iI i)), (2, .int (iI j))]) C dX11_saved_174 rfl (by decide) rfl ?_
                              refine c_goto (tgt := 81) C dX11_saved_177 (by decide) ?_
                              refine hv16 (show (-2147483648) ≤ ivh12 (sk 14) 0 ∧ ivh12 (sk 14) 0 ≤ 2147483647 from W12.int tsk14 0) (show ivh12 (sk 14) 0 = ivb2 (sk 14) 0 from fl12.i tsk14 rfl 0) (show 0 ≤ ivh12 (sk 14) 1 ∧ ivh12 (sk 14) 1 ≤ 1 from W12.int tsk14 1) (show ivh12 (sk 14) 1 = ivb2 (sk 14) 1 from fl12.i tsk14 rfl 1) (show 1 ≤ ivh12 a0 11 ∧ ivh12 a0 11 ≤ 100 from W12.int t_a0 11) (show ivh12 a0 11 = ivb2 a0 11 from fl12.i t_a0 rfl 11) (show 1 ≤ ivh12 a0 12 ∧ ivh12 a0 12 ≤ 50 from W12.int t_a0 12) (show ivh12 a0 12 = ivb2 a0 12 from fl12.i t_a0 rfl 12) (show (-2147483648) ≤ ivh12 a0 13 ∧ ivh12 a0 13 ≤ 2147483647 from W12.int t_a0 13) (show ivh12 a0 13 = ivb2 a0 13 from fl12.i t_a0 rfl 13) (show (-2147483648) ≤ ivh12 a0 14 ∧ ivh12 a0 14 ≤ 2147483647 from W12.int t_a0 14) (show ivh12 a0 14 = ivb2 a0 14 from fl12.i t_a0 rfl 14) (show (-2147483648) ≤ ivh12 a0 15 ∧ ivh12 a0 15 ≤ 2147483647 from W12.int t_a0 15) (show ivh12 a0 15 = ivb2 a0 15 from fl12.i t_a0 rfl 15) (show (-2147483648) ≤ ivh12 a0 16 ∧ ivh12 a0 16 ≤ 2147483647 from W12.int t_a0 16) (show ivh12 a0 16 = ivb2 a0 16 from fl12.i t_a0 rfl 16) (fun ri93 ie115 ri94 ie117 ri95 ie119 ri96 ie121 ri97 ie123 ri98 ie125 ri99 ie127 ri100 ie129 => ?_)
                              refine c_lv (lv2 := [(5, .int (iI zz2)), (6, .int (iI f12)), (8, .int (iI cm)), (9, .int (iI (k + 1))), (7, .int (iI sd)), (4, .ref ob2), (3, .ref ob1), (0, .ref a0), (1, .int (iI i)), (2, .int (iI j))]) [1, 2, 3, 0, 4, 5, 6, 7, 8, 9] rfl ?_
                              exact ih2  zz2 f12 cm (k + 1) _ (by omega) W12 F9  (by omega) (by omega) (by omega) (by omega) (by show 0 ≤ ivh12 (sk 14) 0 ∧ ivh12 (sk 14) 0 ≤ 501 ∧ (ivh12 (sk 14) 1 = 0 ∨ ivh12 (sk 14) 0 ≤ 500); omega) (ie119.trans hkp11) (ie121.trans hkp12) (ie123.trans hkp13) (ie125.trans hkp14) (ie127.trans hkp15) (ie129.trans hkp16)
                            · replace gf12 := (And.intro c9 (And.intro gf12.2.1 (gf12.2.2 c9)))
                              refine c_aload_n (j := 7) (x := a0) C dX11_saved_157 rfl ?_
                              refine c_getr (k := 5) C ck_12 dX11_saved_158 w2_49 (by decide) t_a0 rfl rfl (by decide) rfl rq3 ?_
                              refine c_st (st2 := [.ref (sk 14)]) rfl ?_
                              refine c_aload_n (j := 7) (x := a0) C dX11_saved_161 rfl ?_
                              refine c_getr (k := 1) C ck_12 dX11_saved_162 w2_45 (by decide) t_a0 rfl rfl (by decide) rfl rq4 ?_
                              refine c_st (st2 := [.ref (sk 3), .ref (sk 14)]) rfl ?_
                              refine c_aload_n (j := 7) (x := a0) C dX11_saved_165 rfl ?_
                              refine c_getr (k := 6) C ck_12 dX11_saved_166 w2_50 (by decide) t_a0 rfl rfl (by decide) rfl rq5 ?_
                              refine c_st (st2 := [.ref (sk 15), .ref (sk 3), .ref (sk 14)]) rfl ?_
                              refine hv4 (show (-2147483648) ≤ ivh12 (sk 14) 0 ∧ ivh12 (sk 14) 0 ≤ 2147483647 from W12.int tsk14 0) (show ivh12 (sk 14) 0 = ivb2 (sk 14) 0 from fl12.i tsk14 rfl 0) (show 0 ≤ ivh12 (sk 14) 1 ∧ ivh12 (sk 14) 1 ≤ 1 from W12.int tsk14 1) (show ivh12 (sk 14) 1 = ivb2 (sk 14) 1 from fl12.i tsk14 rfl 1) (fun ri101 ie131 ri102 ie133 => ?_)
                              refine d_callV (As := [.ref (sk 3), .ref (sk 15)]) (rest := []) C hM (C_sstep (a0 := (sk 14)) (a1 := (sk 3)) (a2 := (sk 15)) W12 hS tsk14 tsk3 tsk15  (by show 0 ≤ ivh12 (sk 14) 0 ∧ ivh12 (sk 14) 0 ≤ 501 ∧ (ivh12 (sk 14) 1 = 0 ∨ ivh12 (sk 14) 0 ≤ 500); omega)) dX11_saved_169 kV_X11_238 rfl tsk14 rfl rfl (by decide) ck_9 rfl (Nat.le_of_ble_eq_true rfl) ⟨(Nat.le_of_ble_eq_true rfl), (Nat.le_of_ble_eq_true rfl)⟩ hph hph (show 0 + 0 = 0 from rfl) (by decide) (fun rh13 Lh13 clh13 lnh13 ivh13 rvh13 h13 => ?_)
                              obtain ⟨f13, rfl, rfl, rfl, rfl, rfl, fl13, W13, rgf13, exf13⟩ := h13
                              refine hv2 (F9.call hX0 fl13 rfl) (MRK.call mr9 W12 hS XT.refl fl13 rfl rfl) (fun F10 mr10 => ?_)
                              refine c_st (st2 := [.int (iI f13)]) rfl ?_
                              refine hv3 (show (-2147483648) ≤ ivh13 (sk 14) 0 ∧ ivh13 (sk 14) 0 ≤ 2147483647 from W13.int tsk14 0) (show 0 ≤ ivh13 (sk 14) 1 ∧ ivh13 (sk 14) 1 ≤ 1 from W13.int tsk14 1) (show (0 ≤ f13 ∧ f13 ≤ 3) ∧ 0 ≤ ivh13 (sk 14) 0 ∧ ivh13 (sk 14) 0 ≤ 501 ∧ (ivh13 (sk 14) 1 = 0 ∨ ivh13 (sk 14) 0 ≤ 500) from exf13) (fun ri103 ri104 gf13 => ?_)
                              refine c_istore (lv2 := [(8, .int (iI f13)), (5, .int (iI zz2)), (6, .int (iI f12)), (9, .int (iI k)), (7, .int (iI sd)), (4, .ref ob2), (3, .ref ob1), (0, .ref a0), (1, .int (iI i)), (2, .int (iI j))]) C dX11_saved_172 (by decide) rfl ?_
                              refine c_iinc (z := k) (j := 3) (lv2 := [(9, .int (iI (k + 1))), (8, .int (iI f13)), (5, .int (iI zz2)), (6, .int (iI f12)), (7, .int (iI sd)), (4, .ref ob2), (3, .ref ob1), (0, .ref a0), (1, .int (iI i)), (2, .int (iI j))]) C dX11_saved_174 rfl (by decide) rfl ?_
                              refine c_goto (tgt := 81) C dX11_saved_177 (by decide) ?_
                              refine hv18 (show 1 ≤ ivh13 a0 11 ∧ ivh13 a0 11 ≤ 100 from W13.int t_a0 11) (show ivh13 a0 11 = ivh12 a0 11 from fl13.i t_a0 rfl 11) (show ivh12 a0 11 = ivb2 a0 11 from fl12.i t_a0 rfl 11) (show 1 ≤ ivh13 a0 12 ∧ ivh13 a0 12 ≤ 50 from W13.int t_a0 12) (show ivh13 a0 12 = ivh12 a0 12 from fl13.i t_a0 rfl 12) (show ivh12 a0 12 = ivb2 a0 12 from fl12.i t_a0 rfl 12) (show (-2147483648) ≤ ivh13 a0 13 ∧ ivh13 a0 13 ≤ 2147483647 from W13.int t_a0 13) (show ivh13 a0 13 = ivh12 a0 13 from fl13.i t_a0 rfl 13) (show ivh12 a0 13 = ivb2 a0 13 from fl12.i t_a0 rfl 13) (show (-2147483648) ≤ ivh13 a0 14 ∧ ivh13 a0 14 ≤ 2147483647 from W13.int t_a0 14) (show ivh13 a0 14 = ivh12 a0 14 from fl13.i t_a0 rfl 14) (show ivh12 a0 14 = ivb2 a0 14 from fl12.i t_a0 rfl 14) (show (-2147483648) ≤ ivh13 a0 15 ∧ ivh13 a0 15 ≤ 2147483647 from W13.int t_a0 15) (show ivh13 a0 15 = ivh12 a0 15 from fl13.i t_a0 rfl 15) (show ivh12 a0 15 = ivb2 a0 15 from fl12.i t_a0 rfl 15) (show (-2147483648) ≤ ivh13 a0 16 ∧ ivh13 a0 16 ≤ 2147483647 from W13.int t_a0 16) (show ivh13 a0 16 = ivh12 a0 16 from fl13.i t_a0 rfl 16) (show ivh12 a0 16 = ivb2 a0 16 from fl12.i t_a0 rfl 16) (fun ri105 ie137 ie138 ri106 ie140 ie141 ri107 ie143 ie144 ri108 ie146 ie147 ri109 ie149 ie150 ri110 ie152 ie153 => ?_)
                              refine c_lv (lv2 := [(5, .int (iI zz2)), (6, .int (iI f12)), (8, .int (iI f13)), (9, .int (iI (k + 1))), (7, .int (iI sd)), (4, .ref ob2), (3, .ref ob1), (0, .ref a0), (1, .int (iI i)), (2, .int (iI j))]) [2, 3, 1, 0, 4, 5, 6, 7, 8, 9] rfl ?_
                              exact ih2  zz2 f12 f13 (k + 1) _ (by omega) W13 F10  (by omega) (by omega) (by omega) (by omega) (by show 0 ≤ ivh13 (sk 14) 0 ∧ ivh13 (sk 14) 0 ≤ 501 ∧ (ivh13 (sk 14) 1 = 0 ∨ ivh13 (sk 14) 0 ≤ 500); omega) (ie137.trans (ie138.trans hkp11)) (ie140.trans (ie141.trans hkp12)) (ie143.trans (ie144.trans hkp13)) (ie146.trans (ie147.trans hkp14)) (ie149.trans (ie150.trans hkp15)) (ie152.trans (ie153.trans hkp16))
              refine hv18 (show 1 ≤ ivh8 a0 11 ∧ ivh8 a0 11 ≤ 100 from W8.int t_a0 11) (show ivh8 a0 11 = ivh7 a0 11 from fl8.i t_a0 rfl 11) (show ivh7 a0 11 = ivb1 a0 11 from fl7.i t_a0 rfl 11) (show 1 ≤ ivh8 a0 12 ∧ ivh8 a0 12 ≤ 50 from W8.int t_a0 12) (show ivh8 a0 12 = ivh7 a0 12 from fl8.i t_a0 rfl 12) (show ivh7 a0 12 = ivb1 a0 12 from fl7.i t_a0 rfl 12) (show (-2147483648) ≤ ivh8 a0 13 ∧ ivh8 a0 13 ≤ 2147483647 from W8.int t_a0 13) (show ivh8 a0 13 = ivh7 a0 13 from fl8.i t_a0 rfl 13) (show ivh7 a0 13 = ivb1 a0 13 from fl7.i t_a0 rfl 13) (show (-2147483648) ≤ ivh8 a0 14 ∧ ivh8 a0 14 ≤ 2147483647 from W8.int t_a0 14) (show ivh8 a0 14 = ivh7 a0 14 from fl8.i t_a0 rfl 14) (show ivh7 a0 14 = ivb1 a0 14 from fl7.i t_a0 rfl 14) (show (-2147483648) ≤ ivh8 a0 15 ∧ ivh8 a0 15 ≤ 2147483647 from W8.int t_a0 15) (show ivh8 a0 15 = ivh7 a0 15 from fl8.i t_a0 rfl 15) (show ivh7 a0 15 = ivb1 a0 15 from fl7.i t_a0 rfl 15) (show (-2147483648) ≤ ivh8 a0 16 ∧ ivh8 a0 16 ≤ 2147483647 from W8.int t_a0 16) (show ivh8 a0 16 = ivh7 a0 16 from fl8.i t_a0 rfl 16) (show ivh7 a0 16 = ivb1 a0 16 from fl7.i t_a0 rfl 16) (fun ri111 ie155 ie156 ri112 ie158 ie159 ri113 ie161 ie162 ri114 ie164 ie165 ri115 ie167 ie168 ri116 ie170 ie171 => ?_)
              refine c_lv (lv2 := [(5, .int (iI s1)), (6, .int (iI wy)), (8, .int (iI f8)), (9, .int (iI 0)), (7, .int (iI sd)), (4, .ref ob2), (3, .ref ob1), (0, .ref a0), (1, .int (iI i)), (2, .int (iI j))]) [2, 3, 1, 0, 4, 5, 6, 7, 8, 9] rfl ?_
              exact Lp2 1000003 s1 wy f8 0 _ (by omega) W8 F5  (by omega) (by omega) (by omega) (by omega) (by show 0 ≤ ivh8 (sk 14) 0 ∧ ivh8 (sk 14) 0 ≤ 501 ∧ (ivh8 (sk 14) 1 = 0 ∨ ivh8 (sk 14) 0 ≤ 500); omega) (ie155.trans (ie156.trans hkp11)) (ie158.trans (ie159.trans hkp12)) (ie161.trans (ie162.trans hkp13)) (ie164.trans (ie165.trans hkp14)) (ie167.trans (ie168.trans hkp15)) (ie170.trans (ie171.trans hkp16))
      refine hv6 (show 1 ≤ iv a0 11 ∧ iv a0 11 ≤ 100 from hW.int t_a0 11) (show 1 ≤ iv a0 12 ∧ iv a0 12 ≤ 50 from hW.int t_a0 12) (show (-2147483648) ≤ iv a0 13 ∧ iv a0 13 ≤ 2147483647 from hW.int t_a0 13) (show (-2147483648) ≤ iv a0 14 ∧ iv a0 14 ≤ 2147483647 from hW.int t_a0 14) (show (-2147483648) ≤ iv a0 15 ∧ iv a0 15 ≤ 2147483647 from hW.int t_a0 15) (show (-2147483648) ≤ iv a0 16 ∧ iv a0 16 ≤ 2147483647 from hW.int t_a0 16) (fun ri117 ri118 ri119 ri120 ri121 ri122 => ?_)
      refine c_lv (lv2 := [(5, .int (iI 0)), (6, .int (iI 0)), (7, .int (iI 0)), (4, .ref ob2), (3, .ref ob1), (0, .ref a0), (1, .int (iI i)), (2, .int (iI j))]) [2, 1, 0, 3, 4, 5, 6, 7] rfl ?_
      exact Lp1 5 0 0 0 _ (by omega) hW hF0  (by omega) (by omega) (by omega) rfl rfl rfl rfl rfl rfl
    · subst oq2
      refine c_lv (lv2 := [(4, .null), (3, .ref ob1), (0, .ref a0), (1, .int (iI i)), (2, .int (iI j))]) [0, 1, 2, 3, 4] rfl ?_
      refine c_st (st2 := []) rfl ?_
      refine c_aload_n (j := 2) (x := a0) C dX11_saved_28 rfl ?_
      refine c_iconst C dX11_saved_29 ?_
      refine d_callV (As := [.int (iI 3)]) (rest := []) C hM (C_refuse (a0 := a0) (x := 3) hW hS t_a0 ⟨by decide, by decide⟩ ) dX11_saved_30 kV_X11_102 rfl t_a0 rfl rfl (by decide) ck_12 rfl (Nat.le_of_ble_eq_true rfl) ⟨(Nat.le_of_ble_eq_true rfl), (Nat.le_of_ble_eq_true rfl)⟩ hph hph (show 0 + 0 = 0 from rfl) (by decide) (fun rh14 Lh14 clh14 lnh14 ivh14 rvh14 h14 => ?_)
      obtain ⟨f14, rfl, rfl, rfl, rfl, rfl, fl14, W14, rgf14, exf14, kp11f14, kp12f14, kp13f14, kp14f14, kp15f14, kp16f14⟩ := h14
      refine hv8 (show 1 ≤ iv a0 11 ∧ iv a0 11 ≤ 100 from hW.int t_a0 11) (show 1 ≤ iv a0 12 ∧ iv a0 12 ≤ 50 from hW.int t_a0 12) (show (-2147483648) ≤ iv a0 13 ∧ iv a0 13 ≤ 2147483647 from hW.int t_a0 13) (show (-2147483648) ≤ iv a0 14 ∧ iv a0 14 ≤ 2147483647 from hW.int t_a0 14) (show (-2147483648) ≤ iv a0 15 ∧ iv a0 15 ≤ 2147483647 from hW.int t_a0 15) (show (-2147483648) ≤ iv a0 16 ∧ iv a0 16 ≤ 2147483647 from hW.int t_a0 16) (hF0.call hX0 fl14 rfl) (MRK.call hmr hW hS XT.refl fl14 rfl rfl) (fun ri123 ri124 ri125 ri126 ri127 ri128 F11 mr11 => ?_)
      refine c_st (st2 := [.int (iI f14)]) rfl ?_
      refine hv13 (show ivh14 a0 11 = iv a0 11 from kp11f14) (show ivh14 a0 12 = iv a0 12 from kp12f14) (show ivh14 a0 13 = iv a0 13 from kp13f14) (show ivh14 a0 14 = iv a0 14 from kp14f14) (show ivh14 a0 15 = iv a0 15 from kp15f14) (show ivh14 a0 16 = iv a0 16 from kp16f14) (show f14 = -1 from exf14) (show 1 ≤ ivh14 a0 11 ∧ ivh14 a0 11 ≤ 100 from W14.int t_a0 11) (show 1 ≤ ivh14 a0 12 ∧ ivh14 a0 12 ≤ 50 from W14.int t_a0 12) (show (-2147483648) ≤ ivh14 a0 13 ∧ ivh14 a0 13 ≤ 2147483647 from W14.int t_a0 13) (show (-2147483648) ≤ ivh14 a0 14 ∧ ivh14 a0 14 ≤ 2147483647 from W14.int t_a0 14) (show (-2147483648) ≤ ivh14 a0 15 ∧ ivh14 a0 15 ≤ 2147483647 from W14.int t_a0 15) (show (-2147483648) ≤ ivh14 a0 16 ∧ ivh14 a0 16 ≤ 2147483647 from W14.int t_a0 16) (fun gk11f14 gk12f14 gk13f14 gk14f14 gk15f14 gk16f14 gf14 ri129 ri130 ri131 ri132 ri133 ri134 => ?_)
      exact c_iret C dX11_saved_33 rfl (by decide) (rom0 hph hph (by decide)) ⟨f14, rfl, rfl, rfl, rfl, rfl, F11, W14, ⟨by omega, by omega⟩, trivial, gk11f14, gk12f14, gk13f14, gk14f14, gk15f14, gk16f14⟩
set_option maxHeartbeats 4000000 in
set_option maxRecDepth 100000 in
theorem C_digest {l : Launch} {G : GT} {mi : Nat} {sk : Nat → Nat} {L : List Nat} {cl ln : Nat → Nat} {iv : Nat → Nat → Int} {rv : Nat → Nat → Option Nat}  {a0 : Nat} (hW : WT (g0 G) sk L cl ln iv rv) (hS : SKL sk L cl) (t_a0 : ty L cl a0 1)  : Mc l G mi (Phi (g0 G) sk) PHM yX11_digest cX11_digest 3 (some .int) 3 [.ref a0] L cl ln iv rv 0 (fun v L2 cl2 ln2 iv2 rv2 => ∃ f : Int, v = some (.int (iI f)) ∧ L = L2 ∧ cl = cl2 ∧ ln = ln2 ∧ iv = iv2 ∧ rv = rv2 ∧ (-2147483648 ≤ f ∧ f ≤ 2147483647) ∧ (True)) := by
  refine Mc.mk (by decide) (Nat.le_of_ble_eq_true rfl) ?_
  intro p e s m args below meth c A C hM
  refine hv21 (Phi.le hW hS) (show ty L cl (sk 2) 2 from ⟨(hS 2 rfl).1, by rw [(hS 2 rfl).2]; rfl⟩) (show ty L cl (sk 3) 3 from ⟨(hS 3 rfl).1, by rw [(hS 3 rfl).2]; rfl⟩) (show ty L cl (sk 4) 4 from ⟨(hS 4 rfl).1, by rw [(hS 4 rfl).2]; rfl⟩) (show ty L cl (sk 5) 5 from ⟨(hS 5 rfl).1, by rw [(hS 5 rfl).2]; rfl⟩) (show ty L cl (sk 6) 6 from ⟨(hS 6 rfl).1, by rw [(hS 6 rfl).2]; rfl⟩) (show ty L cl (sk 7) 7 from ⟨(hS 7 rfl).1, by rw [(hS 7 rfl).2]; rfl⟩) (show ty L cl (sk 8) 8 from ⟨(hS 8 rfl).1, by rw [(hS 8 rfl).2]; rfl⟩) (show ty L cl (sk 9) 9 from ⟨(hS 9 rfl).1, by rw [(hS 9 rfl).2]; rfl⟩) (show ty L cl (sk 10) 10 from ⟨(hS 10 rfl).1, by rw [(hS 10 rfl).2]; rfl⟩) (show ty L cl (sk 13) 13 from ⟨(hS 13 rfl).1, by rw [(hS 13 rfl).2]; rfl⟩) (show ty L cl (sk 14) 14 from ⟨(hS 14 rfl).1, by rw [(hS 14 rfl).2]; rfl⟩) (show ty L cl (sk 15) 15 from ⟨(hS 15 rfl).1, by rw [(hS 15 rfl).2]; rfl⟩) (show ty L cl (sk 16) 16 from ⟨(hS 16 rfl).1, by rw [(hS 16 rfl).2]; rfl⟩) (show ty L cl (sk 17) 17 from ⟨(hS 17 rfl).1, by rw [(hS 17 rfl).2]; rfl⟩) (show ty L cl (sk 22) 22 from ⟨(hS 22 rfl).1, by rw [(hS 22 rfl).2]; rfl⟩) (show ty L cl (sk 23) 23 from ⟨(hS 23 rfl).1, by rw [(hS 23 rfl).2]; rfl⟩) (show ty L cl (sk 24) 24 from ⟨(hS 24 rfl).1, by rw [(hS 24 rfl).2]; rfl⟩) (show ty L cl (sk 25) 25 from ⟨(hS 25 rfl).1, by rw [(hS 25 rfl).2]; rfl⟩) (show XT L cl ln L cl ln from XT.refl) (show fT [] L cl iv rv iv rv from fT.refl) (fun hph tsk2 tsk3 tsk4 tsk5 tsk6 tsk7 tsk8 tsk9 tsk10 tsk13 tsk14 tsk15 tsk16 tsk17 tsk22 tsk23 tsk24 tsk25 hX0 hF0 => ?_)
  refine c_aload_n (j := 0) (x := a0) C dX11_digest_0 rfl ?_
  obtain ⟨rb1, rq1, trb1⟩ := hW.ref t_a0 9 rfl rfl rfl
  refine c_getr (k := 9) C ck_12 dX11_digest_1 w2_53 (by decide) t_a0 rfl rfl (by decide) rfl rq1 ?_
  refine c_st (st2 := [.ref rb1]) rfl ?_
  refine c_sipush (z := 527) C dX11_digest_4 (by decide) ?_
  refine c_aload_n (j := 0) (x := a0) C dX11_digest_7 rfl ?_
  refine c_getr (k := 9) C ck_12 dX11_digest_8 w2_53 (by decide) t_a0 rfl rfl (by decide) rfl rq1 ?_
  refine c_st (st2 := [.ref rb1, .int (iI 527), .ref rb1]) rfl ?_
  have ri1 : 0 ≤ iv rb1 1 ∧ iv rb1 1 ≤ 200 := hW.int trb1 1
  refine c_get (k := 1) C ck_8 dX11_digest_11 w2_35 (by decide) trb1 rfl rfl (by decide) rfl ?_
  refine c_iadd C dX11_digest_14 ?_
  obtain ⟨zz1, hzz1, ezz1⟩ := iI_of (iI (527 + (iv rb1 1)))
  refine c_st (st2 := [.int (iI zz1), .ref rb1]) (by rw [ezz1]) ?_
  refine d_callV (As := [.int (iI zz1)]) (rest := []) C hM (C_goOver (a0 := rb1) (x := zz1) hW hS trb1 (by omega) ) dX11_digest_15 kV_X11_416 rfl trb1 rfl rfl (by decide) ck_8 rfl (Nat.le_of_ble_eq_true rfl) ⟨(Nat.le_of_ble_eq_true rfl), (Nat.le_of_ble_eq_true rfl)⟩ hph hph (show 0 + 0 = 0 from rfl) (by decide) (fun rh3 Lh3 clh3 lnh3 ivh3 rvh3 h3 => ?_)
  obtain ⟨f1, rfl, rfl, rfl, rfl, rfl, rfl, rgf1, exf1⟩ := h3
  refine c_st (st2 := [.int (iI f1)]) rfl ?_
  refine c_istore_n (lv2 := [(1, .int (iI f1)), (0, .ref a0)]) C dX11_digest_18 (by decide) rfl ?_
  refine c_iload_n (j := 0) C dX11_digest_19 rfl ?_
  refine c_bipush (z := 31) C dX11_digest_20 (by decide) ?_
  refine c_imul C dX11_digest_22 ?_
  obtain ⟨zz2, hzz2, ezz2⟩ := iI_of (iI (f1 * 31))
  refine c_st (st2 := [.int (iI zz2)]) (by rw [ezz2]) ?_
  refine c_aload_n (j := 1) (x := a0) C dX11_digest_23 rfl ?_
  obtain ⟨rb2, rq2, trb2⟩ := hW.ref t_a0 2 rfl rfl rfl
  have erb2 := hW.sk trb2 (by decide) rfl
  subst erb2
  refine c_getr (k := 2) C ck_12 dX11_digest_24 w2_46 (by decide) t_a0 rfl rfl (by decide) rfl rq2 ?_
  refine c_st (st2 := [.ref (sk 4), .int (iI zz2)]) rfl ?_
  have ri2 : 0 ≤ iv (sk 4) 2 ∧ iv (sk 4) 2 ≤ 4000 := hW.int tsk4 2
  refine c_get (k := 2) C ck_2 dX11_digest_27 w1_44 (by decide) tsk4 rfl rfl (by decide) rfl ?_
  refine c_iadd C dX11_digest_30 ?_
  obtain ⟨zz3, hzz3, ezz3⟩ := iI_of (iI (zz2 + (iv (sk 4) 2)))
  refine c_st (st2 := [.int (iI zz3)]) (by rw [ezz3]) ?_
  refine c_istore_n (lv2 := [(1, .int (iI zz3)), (0, .ref a0)]) C dX11_digest_31 (by decide) rfl ?_
  refine c_iconst C dX11_digest_32 ?_
  refine c_istore_n (lv2 := [(2, .int (iI 0)), (1, .int (iI zz3)), (0, .ref a0)]) C dX11_digest_33 (by decide) rfl ?_
  have Lp1 : ∀ (nn : Nat) (h1 k : Int) , 4001 - k < (nn : Int) → (-2147483648 ≤ h1 ∧ h1 ≤ 2147483647) → (0 ≤ k ∧ k ≤ 4000) → cw p l e 3 ((PHM) + 0 - ((Phi (g0 G) sk) ln rv)) s m args below meth c G A 3 (MQ below (Qu G A (Qp G (Phi (g0 G) sk) ((Phi (g0 G) sk) ln rv) 0 (fun v L2 cl2 ln2 iv2 rv2 => ∃ f : Int, v = some (.int (iI f)) ∧ L = L2 ∧ cl = cl2 ∧ ln = ln2 ∧ iv = iv2 ∧ rv = rv2 ∧ (-2147483648 ≤ f ∧ f ≤ 2147483647) ∧ (True)))) args s (((PHM) + 0 - ((Phi (g0 G) sk) ln rv)) / 16) ((PHM) + 0 - ((Phi (g0 G) sk) ln rv)) A) (Phi (g0 G) sk) ((Phi (g0 G) sk) ln rv) L cl ln iv rv 0 34 [(1, .int (iI h1)), (2, .int (iI k)), (0, .ref a0)] [] := by
    intro nn
    induction nn with
    | zero =>
      intro  h1 k  hm   hh1 hk
      exact absurd hm (by omega)
    | succ nn ih1 =>
      intro  h1 k  hm   hh1 hk
      refine c_iload_n (j := 1) C dX11_digest_34 rfl ?_
      refine c_aload_n (j := 2) (x := a0) C dX11_digest_35 rfl ?_
      refine c_getr (k := 2) C ck_12 dX11_digest_36 w2_46 (by decide) t_a0 rfl rfl (by decide) rfl rq2 ?_
      refine c_st (st2 := [.ref (sk 4), .int (iI k)]) rfl ?_
      refine c_get (k := 2) C ck_2 dX11_digest_39 w1_44 (by decide) tsk4 rfl rfl (by decide) rfl ?_
      refine c_icmp_ge (tgt := 65) C (r32_c (lo := 0) (hi := 4000) hk.1 hk.2 (by decide) (by decide)) (r32_c (lo := 0) (hi := 4000) ri2.1 ri2.2 (by decide) (by decide)) dX11_digest_42 (by decide) (fun c1 => ?_) (fun c1 => ?_)
      · refine c_iconst C dX11_digest_65 ?_
        refine c_istore_n (lv2 := [(2, .int (iI 0)), (1, .int (iI h1)), (0, .ref a0)]) C dX11_digest_66 (by decide) rfl ?_
        have Lp2 : ∀ (nn : Nat) (h2 k2 : Int) , 6 - k2 < (nn : Int) → (-2147483648 ≤ h2 ∧ h2 ≤ 2147483647) → (0 ≤ k2 ∧ k2 ≤ 5) → cw p l e 3 ((PHM) + 0 - ((Phi (g0 G) sk) ln rv)) s m args below meth c G A 3 (MQ below (Qu G A (Qp G (Phi (g0 G) sk) ((Phi (g0 G) sk) ln rv) 0 (fun v L2 cl2 ln2 iv2 rv2 => ∃ f : Int, v = some (.int (iI f)) ∧ L = L2 ∧ cl = cl2 ∧ ln = ln2 ∧ iv = iv2 ∧ rv = rv2 ∧ (-2147483648 ≤ f ∧ f ≤ 2147483647) ∧ (True)))) args s (((PHM) + 0 - ((Phi (g0 G) sk) ln rv)) / 16) ((PHM) + 0 - ((Phi (g0 G) sk) ln rv)) A) (Phi (g0 G) sk) ((Phi (g0 G) sk) ln rv) L cl ln iv rv 0 67 [(1, .int (iI h2)), (2, .int (iI k2)), (0, .ref a0)] [] := by
          intro nn
          induction nn with
          | zero =>
            intro  h2 k2  hm   hh2 hk2
            exact absurd hm (by omega)
          | succ nn ih2 =>
            intro  h2 k2  hm   hh2 hk2
            refine c_iload_n (j := 1) C dX11_digest_67 rfl ?_
            refine c_iconst C dX11_digest_68 ?_
            refine c_icmp_gt (tgt := 92) C (r32_c (lo := 0) (hi := 5) hk2.1 hk2.2 (by decide) (by decide)) ⟨by decide, by decide⟩ dX11_digest_69 (by decide) (fun c2 => ?_) (fun c2 => ?_)
            · refine c_iload_n (j := 0) C dX11_digest_92 rfl ?_
              refine c_bipush (z := 31) C dX11_digest_93 (by decide) ?_
              refine c_imul C dX11_digest_95 ?_
              obtain ⟨zz4, hzz4, ezz4⟩ := iI_of (iI (h2 * 31))
              refine c_st (st2 := [.int (iI zz4)]) (by rw [ezz4]) ?_
              refine c_aload_n (j := 2) (x := a0) C dX11_digest_96 rfl ?_
              have ri3 : (-2147483648) ≤ iv a0 15 ∧ iv a0 15 ≤ 2147483647 := hW.int t_a0 15
              refine c_get (k := 15) C ck_12 dX11_digest_97 w2_59 (by decide) t_a0 rfl rfl (by decide) rfl ?_
              refine c_iadd C dX11_digest_100 ?_
              obtain ⟨zz5, hzz5, ezz5⟩ := iI_of (iI (zz4 + (iv a0 15)))
              refine c_st (st2 := [.int (iI zz5)]) (by rw [ezz5]) ?_
              refine c_istore_n (lv2 := [(1, .int (iI zz5)), (2, .int (iI k2)), (0, .ref a0)]) C dX11_digest_101 (by decide) rfl ?_
              refine c_iload_n (j := 0) C dX11_digest_102 rfl ?_
              refine c_bipush (z := 31) C dX11_digest_103 (by decide) ?_
              refine c_imul C dX11_digest_105 ?_
              obtain ⟨zz6, hzz6, ezz6⟩ := iI_of (iI (zz5 * 31))
              refine c_st (st2 := [.int (iI zz6)]) (by rw [ezz6]) ?_
              refine c_aload_n (j := 2) (x := a0) C dX11_digest_106 rfl ?_
              have ri4 : (-2147483648) ≤ iv a0 16 ∧ iv a0 16 ≤ 2147483647 := hW.int t_a0 16
              refine c_get (k := 16) C ck_12 dX11_digest_107 w2_60 (by decide) t_a0 rfl rfl (by decide) rfl ?_
              refine c_iadd C dX11_digest_110 ?_
              obtain ⟨zz7, hzz7, ezz7⟩ := iI_of (iI (zz6 + (iv a0 16)))
              refine c_st (st2 := [.int (iI zz7)]) (by rw [ezz7]) ?_
              exact c_iret C dX11_digest_111 rfl (by decide) (rom0 hph hph (by decide)) ⟨zz7, rfl, rfl, rfl, rfl, rfl, rfl, ⟨by omega, by omega⟩, trivial⟩
            · refine c_iload_n (j := 0) C dX11_digest_72 rfl ?_
              refine c_bipush (z := 31) C dX11_digest_73 (by decide) ?_
              refine c_imul C dX11_digest_75 ?_
              obtain ⟨zz8, hzz8, ezz8⟩ := iI_of (iI (h2 * 31))
              refine c_st (st2 := [.int (iI zz8)]) (by rw [ezz8]) ?_
              refine c_aload_n (j := 2) (x := a0) C dX11_digest_76 rfl ?_
              obtain ⟨rb3, rq3, trb3⟩ := hW.ref t_a0 6 rfl rfl rfl
              have erb3 := hW.sk trb3 (by decide) rfl
              subst erb3
              refine c_getr (k := 6) C ck_12 dX11_digest_77 w2_50 (by decide) t_a0 rfl rfl (by decide) rfl rq3 ?_
              refine c_st (st2 := [.ref (sk 15), .int (iI zz8)]) rfl ?_
              refine c_iload_n (j := 1) C dX11_digest_80 rfl ?_
              refine d_callV (As := [.int (iI k2)]) (rest := [.int (iI zz8)]) C hM (C_findsOf (a0 := (sk 15)) (i := k2) hW hS tsk15 (by omega) ) dX11_digest_81 kV_X11_413 rfl tsk15 rfl rfl (by decide) ck_7 rfl (Nat.le_of_ble_eq_true rfl) ⟨(Nat.le_of_ble_eq_true rfl), (Nat.le_of_ble_eq_true rfl)⟩ hph hph (show 0 + 0 = 0 from rfl) (by decide) (fun rh4 Lh4 clh4 lnh4 ivh4 rvh4 h4 => ?_)
              obtain ⟨f2, rfl, rfl, rfl, rfl, rfl, rfl, rgf2, exf2⟩ := h4
              refine c_st (st2 := [.int (iI f2), .int (iI zz8)]) rfl ?_
              refine c_iadd C dX11_digest_84 ?_
              obtain ⟨zz9, hzz9, ezz9⟩ := iI_of (iI (zz8 + f2))
              refine c_st (st2 := [.int (iI zz9)]) (by rw [ezz9]) ?_
              refine c_istore_n (lv2 := [(1, .int (iI zz9)), (2, .int (iI k2)), (0, .ref a0)]) C dX11_digest_85 (by decide) rfl ?_
              refine c_iinc (z := k2) (j := 1) (lv2 := [(2, .int (iI (k2 + 1))), (1, .int (iI zz9)), (0, .ref a0)]) C dX11_digest_86 rfl (by decide) rfl ?_
              refine c_goto (tgt := 67) C dX11_digest_89 (by decide) ?_
              refine c_lv (lv2 := [(1, .int (iI zz9)), (2, .int (iI (k2 + 1))), (0, .ref a0)]) [1, 0, 2] rfl ?_
              exact ih2  zz9 (k2 + 1)  (by omega)   (by omega) (by omega)
        refine c_lv (lv2 := [(1, .int (iI h1)), (2, .int (iI 0)), (0, .ref a0)]) [1, 0, 2] rfl ?_
        exact Lp2 8 h1 0  (by omega)   (by omega) (by omega)
      · refine c_iload_n (j := 0) C dX11_digest_45 rfl ?_
        refine c_bipush (z := 31) C dX11_digest_46 (by decide) ?_
        refine c_imul C dX11_digest_48 ?_
        obtain ⟨zz10, hzz10, ezz10⟩ := iI_of (iI (h1 * 31))
        refine c_st (st2 := [.int (iI zz10)]) (by rw [ezz10]) ?_
        refine c_aload_n (j := 2) (x := a0) C dX11_digest_49 rfl ?_
        refine c_getr (k := 2) C ck_12 dX11_digest_50 w2_46 (by decide) t_a0 rfl rfl (by decide) rfl rq2 ?_
        refine c_st (st2 := [.ref (sk 4), .int (iI zz10)]) rfl ?_
        refine c_iload_n (j := 1) C dX11_digest_53 rfl ?_
        refine d_callV (As := [.int (iI k)]) (rest := [.int (iI zz10)]) C hM (C_at_4 (a0 := (sk 4)) (i := k) hW hS tsk4 (by omega) ) dX11_digest_54 kV_X11_224 rfl tsk4 rfl rfl (by decide) ck_2 rfl (Nat.le_of_ble_eq_true rfl) ⟨(Nat.le_of_ble_eq_true rfl), (Nat.le_of_ble_eq_true rfl)⟩ hph hph (show 0 + 0 = 0 from rfl) (by decide) (fun rh5 Lh5 clh5 lnh5 ivh5 rvh5 h5 => ?_)
        obtain ⟨f3, rfl, rfl, rfl, rfl, rfl, rfl, rgf3, exf3⟩ := h5
        refine c_st (st2 := [.int (iI f3), .int (iI zz10)]) rfl ?_
        have gf3 : ((0 ≤ k ∧ k < iv (sk 4) 2) ∨ f3 = 0) ∧ ∀ ss, CT iv rv (sk 4) ss → 0 ≤ k → k < iv (sk 4) 2 → f3 = ss k.toNat := exf3
        refine c_iadd C dX11_digest_57 ?_
        obtain ⟨zz11, hzz11, ezz11⟩ := iI_of (iI (zz10 + f3))
        refine c_st (st2 := [.int (iI zz11)]) (by rw [ezz11]) ?_
        refine c_istore_n (lv2 := [(1, .int (iI zz11)), (2, .int (iI k)), (0, .ref a0)]) C dX11_digest_58 (by decide) rfl ?_
        refine c_iinc (z := k) (j := 1) (lv2 := [(2, .int (iI (k + 1))), (1, .int (iI zz11)), (0, .ref a0)]) C dX11_digest_59 rfl (by decide) rfl ?_
        refine c_goto (tgt := 34) C dX11_digest_62 (by decide) ?_
        refine c_lv (lv2 := [(1, .int (iI zz11)), (2, .int (iI (k + 1))), (0, .ref a0)]) [1, 0, 2] rfl ?_
        exact ih1  zz11 (k + 1)  (by omega)   (by omega) (by omega)
  refine c_lv (lv2 := [(1, .int (iI zz3)), (2, .int (iI 0)), (0, .ref a0)]) [1, 0, 2] rfl ?_
  exact Lp1 4003 zz3 0  (by omega)   (by omega) (by omega)
end
section
theorem bz_iff {i zz n : Int} (e : iI i &&& iI n = iI zz) (h : R32 zz) : (iI i &&& iI n = iI 0) ↔ zz = 0 := by rw [e]; exact iI_eq h ⟨by decide, by decide⟩
theorem and1' (x : Int32) : x &&& 1 = 0 ∨ x &&& 1 = 1 := by
  have e : (x &&& 1).toBitVec = (BitVec.ofBool (x.toBitVec.getLsbD 0)).setWidth 32 := by
    rw [Int32.toBitVec_and]; exact BitVec.and_one_eq_setWidth_ofBool_getLsbD
  cases hb : x.toBitVec.getLsbD 0
  · left; apply Int32.toBitVec_inj.mp; rw [e, hb]; rfl
  · right; apply Int32.toBitVec_inj.mp; rw [e, hb]; rfl
theorem and1 {i zz : Int} (e : iI i &&& iI 1 = iI zz) (h : R32 zz) : zz = 0 ∨ zz = 1 := by
  rcases and1' (iI i) with q | q
  · left; exact (iI_eq h ⟨by decide, by decide⟩).mp (e.symm.trans q)
  · right; exact (iI_eq h ⟨by decide, by decide⟩).mp (e.symm.trans q)
theorem or2 {zz w : Int} (h : zz = 0 ∨ zz = 1) (e : iI zz ||| iI 2 = iI w) (hw : R32 w) : w = 2 ∨ w = 3 := by
  rcases h with rfl | rfl
  · left; exact (iI_eq hw ⟨by decide, by decide⟩).mp (e.symm.trans (by decide))
  · right; exact (iI_eq hw ⟨by decide, by decide⟩).mp (e.symm.trans (by decide))
def bz (i : Int) : Prop := iI i &&& iI 1 = iI 0
def b2 (i : Int) : Prop := iI i &&& iI 2 = iI 0
def LLw (iv : Nat → Nat → Int) (rv : Nat → Nat → Option Nat) (a : Nat) (c t : Int) : Prop := t < iv a 9 ∧ ∀ b, rv a 8 = some b → (iI c ^^^ iI (iv b t.toNat)) &&& iI (iv a 10) = iI 0
def LRw (ln : Nat → Nat) (iv : Nat → Nat → Int) (rv : Nat → Nat → Option Nat) (a row : Nat) (t : Int) : Prop := ∀ cb, rv row 2 = some cb → ∀ k : Nat, k < ln cb → LLw iv rv a (iv cb k) (t + k)
def BSw (ln : Nat → Nat) (iv : Nat → Nat → Int) (rv : Nat → Nat → Option Nat) (row : Nat) : Prop := ∀ b, rv row 1 = some b → iv row 0 = 4 ∧ 0 < ln b ∧ 97 ≤ iv b 0 ∧ iv b 0 ≤ 122
def RWx (sk : Nat → Nat) (rv : Nat → Nat → Option Nat) (i x : Int) (row : Nat) : Prop := (bz i ∧ el rv (sk 24) (x - 1).toNat = some row) ∨ (¬ bz i ∧ el rv (sk 25) (x - 1).toNat = some row)
def GD (sk ln : Nat → Nat) (iv : Nat → Nat → Int) (rv : Nat → Nat → Option Nat) (a : Nat) (i t x : Int) : Prop := (x ≤ 0 → b2 i ∧ LLw iv rv a 0 t) ∧ (0 < x → ∀ row, RWx sk rv i x row → LRw ln iv rv a row t ∧ (b2 i ∨ BSw ln iv rv row))
def VL (sk : Nat → Nat) (iv : Nat → Nat → Int) (i x : Int) : Prop := x ≤ 0 ∨ (bz i ∧ x ≤ iv (sk 24) 2) ∨ (¬ bz i ∧ x ≤ iv (sk 25) 2)
section GDS
variable {g : Nat} {sk : Nat → Nat} {L : List Nat} {cl ln : Nat → Nat} {iv iv1 iv2 iv3 : Nat → Nat → Int} {rv : Nat → Nat → Option Nat} {a row row2 c k nb cb : Nat} {i t x z dp f nd zz : Int}
theorem RWx.uni (h : RWx sk rv i x row) (h2 : RWx sk rv i x row2) : row2 = row := by
  rcases h with ⟨q1, q2⟩ | ⟨q1, q2⟩ <;> rcases h2 with ⟨w1, w2⟩ | ⟨w1, w2⟩
  · rw [q2] at w2; cases w2; rfl
  · exact absurd q1 w1
  · exact absurd w1 q1
  · rw [q2] at w2; cases w2; rfl
theorem GD.mk0 (hx : x ≤ 0) (h1 : b2 i) (h2 : LLw iv rv a 0 t) : GD sk ln iv rv a i t x := ⟨fun _ => ⟨h1, h2⟩, fun q => absurd q (by omega)⟩
theorem GD.no0 (hx : x ≤ 0) (h : b2 i → LLw iv rv a 0 t → False) : ¬ GD sk ln iv rv a i t x := fun q => h (q.1 hx).1 (q.1 hx).2
theorem GD.mk1 (hx : 0 < x) (hr : RWx sk rv i x row) (h1 : LRw ln iv rv a row t) (h2 : b2 i ∨ BSw ln iv rv row) : GD sk ln iv rv a i t x := ⟨fun q => absurd hx (by omega), fun _ r2 q => by rw [hr.uni q]; exact ⟨h1, h2⟩⟩
theorem GD.no1 (hx : 0 < x) (hr : RWx sk rv i x row) (h : LRw ln iv rv a row t → (b2 i ∨ BSw ln iv rv row) → False) : ¬ GD sk ln iv rv a i t x := fun q => h (q.2 hx row hr).1 (q.2 hx row hr).2
theorem VL.put (h : VL sk iv i x) (hS : SKL sk L cl) (he : iv1 = up2 iv c k z) (hc : ty L cl c 61) : VL sk iv1 i x := by
  refine hv2 (show ty L cl (sk 24) 24 from ⟨(hS 24 rfl).1, by rw [(hS 24 rfl).2]; rfl⟩) (show ty L cl (sk 25) 25 from ⟨(hS 25 rfl).1, by rw [(hS 25 rfl).2]; rfl⟩) (fun h24 h25 => ?_)
  unfold VL at *
  rw [he, up2_k (ne_ty h24 hc (by decide)), up2_k (ne_ty h25 hc (by decide))]; exact h
theorem VL.zed (h : VL sk iv i x) (e : iI i &&& iI 1 = iI zz) (hz : R32 zz) : x ≤ 0 ∨ (zz = 0 ∧ x ≤ iv (sk 24) 2) ∨ (zz ≠ 0 ∧ x ≤ iv (sk 25) 2) := by
  rcases h with q | ⟨q, w⟩ | ⟨q, w⟩
  · exact Or.inl q
  · exact Or.inr (Or.inl ⟨(bz_iff e hz).mp q, w⟩)
  · exact Or.inr (Or.inr ⟨fun y => q ((bz_iff e hz).mpr y), w⟩)
theorem VL.rowt (h : VL sk iv i x) (hx : 0 < x) (hW : WT g sk L cl ln iv rv) (hS : SKL sk L cl) (hr : RWx sk rv i x row) : ty L cl row 20 := by
  refine hv2 (show ty L cl (sk 24) 24 from ⟨(hS 24 rfl).1, by rw [(hS 24 rfl).2]; rfl⟩) (show ty L cl (sk 25) 25 from ⟨(hS 25 rfl).1, by rw [(hS 25 rfl).2]; rfl⟩) (fun h24 h25 => ?_)
  rcases hr with ⟨q1, q2⟩ | ⟨q1, q2⟩
  · rcases h with w | ⟨_, w⟩ | ⟨w, _⟩
    · omega
    · obtain ⟨b, e1, e2, e3, e4⟩ := hW.ed2 h24 rfl rfl (by omega)
      rw [el_of e1] at q2
      obtain ⟨d, w1, w2⟩ := hW.elem h24 rfl e1 e2 rfl rfl (i := (x - 1).toNat) (by omega)
      rw [q2] at w1; cases w1; exact w2
    · exact absurd q1 w
  · rcases h with w | ⟨w, _⟩ | ⟨_, w⟩
    · omega
    · exact absurd w q1
    · obtain ⟨b, e1, e2, e3, e4⟩ := hW.ed2 h25 rfl rfl (by omega)
      rw [el_of e1] at q2
      obtain ⟨d, w1, w2⟩ := hW.elem h25 rfl e1 e2 rfl rfl (i := (x - 1).toNat) (by omega)
      rw [q2] at w1; cases w1; exact w2
theorem LLw.put (h : LLw iv rv a z t) (hW : WT g sk L cl ln iv rv) (ha : ty L cl a 17) (he : iv1 = up2 iv c k f) (hc : ty L cl c 61) : LLw iv1 rv a z t := by
  have e0 := ne_ty ha hc (by decide)
  refine ⟨by rw [he, up2_k e0]; exact h.1, fun b hb => ?_⟩
  obtain ⟨b2, q1, q2⟩ := hW.ref ha 8 rfl rfl rfl
  rw [q1] at hb; cases hb
  rw [he, up2_k e0, up2_k (ne_ty q2 hc (by decide))]
  exact h.2 _ q1
theorem GD.put (h : GD sk ln iv rv a i t x) (hv : VL sk iv i x) (hW : WT g sk L cl ln iv rv) (hS : SKL sk L cl) (ha : ty L cl a 17) (he : iv1 = up2 iv c k f) (hc : ty L cl c 61) : GD sk ln iv1 rv a i t x := by
  refine ⟨fun q => ⟨(h.1 q).1, (h.1 q).2.put hW ha he hc⟩, fun q row hr => ?_⟩
  have tr := hv.rowt q hW hS hr
  obtain ⟨w1, w2⟩ := h.2 q row hr
  refine ⟨fun cb hb n hn => ?_, ?_⟩
  · obtain ⟨d, q1, q2⟩ := hW.ref tr 2 rfl rfl rfl
    rw [q1] at hb; cases hb
    have e1 : iv1 cb n = iv cb n := by rw [he, up2_k (ne_ty q2 hc (by decide))]
    rw [e1]
    exact (w1 cb q1 n hn).put hW ha he hc
  · rcases w2 with w2 | w2
    · exact Or.inl w2
    · refine Or.inr (fun b hb => ?_)
      obtain ⟨d, q1, q2⟩ := hW.ref tr 1 rfl rfl rfl
      have w3 := w2 b hb
      rw [q1] at hb; cases hb
      rw [he, up2_k (ne_ty tr hc (by decide)), up2_k (ne_ty q2 hc (by decide))]
      exact w3
def WKI (sk : Nat → Nat) (iv : Nat → Nat → Int) (nb cb : Nat) (dp : Int) : Prop := ∀ d : Nat, (d : Int) ≤ dp → 4 * (d : Int) ≤ iv nb d ∧ iv nb d ≤ 403 ∧ -1 ≤ iv cb d ∧ ((d : Int) < dp → 0 ≤ iv cb d) ∧ VL sk iv (iv nb d) (iv cb d)
theorem WKI.init (h1 : iv nb 0 = 0) (h2 : iv cb 0 = -1) : WKI sk iv nb cb 0 := by
  intro d hd
  have e : d = 0 := by omega
  subst e
  rw [h1, h2]
  exact ⟨by decide, by decide, by decide, fun q => absurd q (by decide), Or.inl (by decide)⟩
theorem WKI.back (h : WKI sk iv nb cb dp) : WKI sk iv nb cb (dp + (-1)) := fun d hd => by
  obtain ⟨q1, q2, q3, q4, q5⟩ := h d (by omega)
  exact ⟨q1, q2, q3, fun _ => q4 (by omega), q5⟩
theorem WKI.fr (h : WKI sk iv nb cb dp) (h1 : ∀ d, iv2 nb d = iv nb d) (h2 : ∀ d, iv2 cb d = iv cb d) (h3 : iv2 (sk 24) 2 = iv (sk 24) 2) (h4 : iv2 (sk 25) 2 = iv (sk 25) 2) : WKI sk iv2 nb cb dp := fun d hd => by
  unfold VL; rw [h1, h2, h3, h4]; exact h d hd
theorem WKI.next (h : WKI sk iv nb cb dp) (e1 : iv1 = up2 iv cb dp.toNat f) (e2 : iv2 = up2 iv1 nb (dp + 1).toNat nd) (e3 : iv3 = up2 iv2 cb (dp + 1).toNat (-1)) (hne : nb ≠ cb) (h0 : 0 ≤ dp) (hv : VL sk iv (iv nb dp.toNat) f) (hf : 0 ≤ f) (hn : 4 * (dp + 1) ≤ nd ∧ nd ≤ 403) (n24n : sk 24 ≠ nb) (n24c : sk 24 ≠ cb) (n25n : sk 25 ≠ nb) (n25c : sk 25 ≠ cb) : WKI sk iv3 nb cb (dp + 1) := by
  intro d hd
  refine hv2 (show iv3 (sk 24) 2 = iv (sk 24) 2 from by rw [e3, up2_k n24c, e2, up2_k n24n, e1, up2_k n24c]) (show iv3 (sk 25) 2 = iv (sk 25) 2 from by rw [e3, up2_k n25c, e2, up2_k n25n, e1, up2_k n25c]) (fun s24 s25 => ?_)
  by_cases hl : d = (dp + 1).toNat
  · have a1 : iv3 nb d = nd := by rw [e3, up2_k hne, e2, hl]; exact up2_s
    have a2 : iv3 cb d = -1 := by rw [e3, hl]; exact up2_s
    rw [a1, a2]
    exact ⟨by omega, hn.2, by decide, fun q => absurd q (by omega), Or.inl (by decide)⟩
  · have a1 : iv3 nb d = iv nb d := by rw [e3, up2_k hne, e2, up2_j hl, e1, up2_k hne]
    obtain ⟨q1, q2, q3, q4, q5⟩ := h d (by omega)
    by_cases hm : d = dp.toNat
    · have a2 : iv3 cb d = f := by rw [e3, up2_j hl, e2, up2_k (Ne.symm hne), e1, hm]; exact up2_s
      unfold VL; rw [a1, a2, s24, s25]
      refine ⟨q1, q2, by omega, fun _ => hf, ?_⟩
      have hv2 := hv; unfold VL at hv2; rw [hm]; exact hv2
    · have a2 : iv3 cb d = iv cb d := by rw [e3, up2_j hl, e2, up2_k (Ne.symm hne), e1, up2_j hm]
      unfold VL; rw [a1, a2, s24, s25]
      exact ⟨q1, q2, q3, fun _ => q4 (by omega), q5⟩
end GDS
end
section
set_option maxHeartbeats 4000000 in
set_option maxRecDepth 100000 in
theorem C_bsmall {l : Launch} {G : GT} {mi : Nat} {sk : Nat → Nat} {L : List Nat} {cl ln : Nat → Nat} {iv : Nat → Nat → Int} {rv : Nat → Nat → Option Nat}  {a0 : Nat} (hW : WT (g0 G) sk L cl ln iv rv) (hS : SKL sk L cl) (t_a0 : ty L cl a0 20)  : Mc l G mi (Phi (g0 G) sk) PHM yX5_beginsSmall cX5_beginsSmall 1 (some .boolean) 1 [.ref a0] L cl ln iv rv 0 (fun v L2 cl2 ln2 iv2 rv2 => ∃ f : Int, v = some (.int (iI f)) ∧ L = L2 ∧ cl = cl2 ∧ ln = ln2 ∧ iv = iv2 ∧ rv = rv2 ∧ (f = 0 ∨ f = 1) ∧ (f = 1 ↔ BSw ln iv rv a0)) := by
  refine Mc.mk (by decide) (Nat.le_of_ble_eq_true rfl) ?_
  intro p e s m args below meth c A C hM
  refine hv3 (Phi.le hW hS) (show XT L cl ln L cl ln from XT.refl) (show fT [] L cl iv rv iv rv from fT.refl) (fun hph hX0 hF0 => ?_)
  refine c_aload_n (j := 0) (x := a0) C dX5_beginsSmall_0 rfl ?_
  have ri1 : (-2147483648) ≤ iv a0 0 ∧ iv a0 0 ≤ 2147483647 := hW.int t_a0 0
  refine c_get (k := 0) C ck_6 dX5_beginsSmall_1 w3_135 (by decide) t_a0 rfl rfl (by decide) rfl ?_
  refine c_iconst C dX5_beginsSmall_4 ?_
  refine c_icmp_ne (tgt := 32) C (r32_c (lo := (-2147483648)) (hi := 2147483647) ri1.1 ri1.2 (by decide) (by decide)) ⟨by decide, by decide⟩ dX5_beginsSmall_5 (by decide) (fun c1 => ?_) (fun c1 => ?_)
  · refine c_iconst C dX5_beginsSmall_32 ?_
    obtain ⟨bl, hbl, tbl⟩ := hW.ref t_a0 1 rfl rfl rfl
    have e00 : (iv a0 0 : Int) = iv a0 0 := rfl
    exact c_zret C dX5_beginsSmall_33 rfl (Or.inl rfl) (by decide) (rom0 hph hph (by decide)) ⟨0, rfl, rfl, rfl, rfl, rfl, rfl, (Or.inl rfl), ⟨fun q => absurd q (by decide), fun q => by have q2 := q bl hbl; have q0 : iv bl 0 = iv bl (0 : Int).toNat := rfl; omega⟩⟩
  · refine c_aload_n (j := 0) (x := a0) C dX5_beginsSmall_8 rfl ?_
    obtain ⟨rb1, rq1, trb1⟩ := hW.ref t_a0 1 rfl rfl rfl
    have lnrb1 : 0 ≤ ln rb1 ∧ ln rb1 ≤ 8 := hW.len trb1 rfl
    refine c_getr (k := 1) C ck_6 dX5_beginsSmall_9 w3_138 (by decide) t_a0 rfl rfl (by decide) rfl rq1 ?_
    refine c_st (st2 := [.ref rb1]) rfl ?_
    have ll1 : 0 ≤ ln rb1 ∧ ln rb1 ≤ 8 := hW.len trb1 rfl
    refine c_alenI C dX5_beginsSmall_12 trb1 rfl ?_
    refine c_if_le (tgt := 32) C ⟨by omega, by omega⟩ dX5_beginsSmall_13 (by decide) (fun c2 => ?_) (fun c2 => ?_)
    · refine c_iconst C dX5_beginsSmall_32 ?_
      exact c_zret C dX5_beginsSmall_33 rfl (Or.inl rfl) (by decide) (rom0 hph hph (by decide)) ⟨0, rfl, rfl, rfl, rfl, rfl, rfl, (Or.inl rfl), ⟨fun q => absurd q (by decide), fun q => by have q2 := q rb1 rq1; have q0 : iv rb1 0 = iv rb1 (0 : Int).toNat := rfl; omega⟩⟩
    · refine c_aload_n (j := 0) (x := a0) C dX5_beginsSmall_16 rfl ?_
      refine c_getr (k := 1) C ck_6 dX5_beginsSmall_17 w3_138 (by decide) t_a0 rfl rfl (by decide) rfl rq1 ?_
      refine c_st (st2 := [.ref rb1]) rfl ?_
      refine c_iconst C dX5_beginsSmall_20 ?_
      refine c_iald C dX5_beginsSmall_21 trb1 rfl (by omega) (by omega) (by omega) ?_
      have ri2 : (-2147483648) ≤ iv rb1 ((0 : Int).toNat) ∧ iv rb1 ((0 : Int).toNat) ≤ 2147483647 := hW.int trb1 ((0 : Int).toNat)
      refine c_callSN0 (As := [.int (iI (iv rb1 (0 : Int).toNat))]) (rest := []) C (fun L E => s11_isSmall (iI (iv rb1 (0 : Int).toNat))) dX5_beginsSmall_22 kSN_X5_25 rfl rfl (Nat.le_of_ble_eq_true rfl) ⟨(Nat.le_of_ble_eq_true rfl), (Nat.le_of_ble_eq_true rfl)⟩ (rom0 hph hph (by decide)) ?_
      rcases inn_c (x := iv rb1 (0 : Int).toNat) (lo := 97) (hi := 122) ⟨by omega, by omega⟩ ⟨by decide, by decide⟩ ⟨by decide, by decide⟩ with ⟨hs1a, hs1b, hs1e⟩ | ⟨hs1a, hs1e⟩
      · refine c_st (st2 := [.int (iI 1)]) (by rw [show inn (iI (iv rb1 (0 : Int).toNat)) 97 122 = iI 1 from hs1e]) ?_
        refine c_if_eq (tgt := 32) C ⟨by decide, by decide⟩ dX5_beginsSmall_25 (by decide) (fun z => absurd z (by omega)) (fun _ => ?_)
        refine c_iconst C dX5_beginsSmall_28 ?_
        refine c_goto (tgt := 33) C dX5_beginsSmall_29 (by decide) ?_
        exact c_zret C dX5_beginsSmall_33 rfl (Or.inr rfl) (by decide) (rom0 hph hph (by decide)) ⟨1, rfl, rfl, rfl, rfl, rfl, rfl, (Or.inr rfl), ⟨fun _ b hb => by rw [rq1] at hb; cases hb; have q0 : iv rb1 0 = iv rb1 (0 : Int).toNat := rfl; exact ⟨by omega, by omega, by omega, by omega⟩, fun _ => rfl⟩⟩
      · refine c_st (st2 := [.int (iI 0)]) (by rw [show inn (iI (iv rb1 (0 : Int).toNat)) 97 122 = iI 0 from hs1e]) ?_
        refine c_if_eq (tgt := 32) C ⟨by decide, by decide⟩ dX5_beginsSmall_25 (by decide) (fun _ => ?_) (fun z => absurd z (by omega))
        refine c_iconst C dX5_beginsSmall_32 ?_
        exact c_zret C dX5_beginsSmall_33 rfl (Or.inl rfl) (by decide) (rom0 hph hph (by decide)) ⟨0, rfl, rfl, rfl, rfl, rfl, rfl, (Or.inl rfl), ⟨fun q => absurd q (by decide), fun q => by have q2 := q rb1 rq1; have q0 : iv rb1 0 = iv rb1 (0 : Int).toNat := rfl; omega⟩⟩
set_option maxHeartbeats 4000000 in
set_option maxRecDepth 100000 in
theorem C_looksLike {l : Launch} {G : GT} {mi : Nat} {sk : Nat → Nat} {L : List Nat} {cl ln : Nat → Nat} {iv : Nat → Nat → Int} {rv : Nat → Nat → Option Nat}  {a0 : Nat} {x : Int} {i : Int} (hW : WT (g0 G) sk L cl ln iv rv) (hS : SKL sk L cl) (t_a0 : ty L cl a0 17) (h_x : -2147483648 ≤ x ∧ x ≤ 2147483647) (h_i : -2147483648 ≤ i ∧ i ≤ 2147483647) (hi : 0 ≤ i) : Mc l G mi (Phi (g0 G) sk) PHM yX4_looksLike cX4_looksLike 3 (some .boolean) 0 [.ref a0, .int (iI x), .int (iI i)] L cl ln iv rv 0 (fun v L2 cl2 ln2 iv2 rv2 => ∃ f : Int, v = some (.int (iI f)) ∧ L = L2 ∧ cl = cl2 ∧ ln = ln2 ∧ iv = iv2 ∧ rv = rv2 ∧ (f = 0 ∨ f = 1) ∧ (f = 1 ↔ LLw iv rv a0 x i)) := by
  refine Mc.mk (by decide) (Nat.le_of_ble_eq_true rfl) ?_
  intro p e s m args below meth c A C hM
  refine hv3 (Phi.le hW hS) (show XT L cl ln L cl ln from XT.refl) (show fT [] L cl iv rv iv rv from fT.refl) (fun hph hX0 hF0 => ?_)
  refine c_iload_n (j := 2) C dX4_looksLike_0 rfl ?_
  refine c_aload_n (j := 0) (x := a0) C dX4_looksLike_1 rfl ?_
  have ri1 : 0 ≤ iv a0 9 ∧ iv a0 9 ≤ 100 := hW.int t_a0 9
  refine c_get (k := 9) C ck_5 dX4_looksLike_2 w2_0 (by decide) t_a0 rfl rfl (by decide) rfl ?_
  refine c_icmp_ge (tgt := 28) C ⟨by omega, by omega⟩ (r32_c (lo := 0) (hi := 100) ri1.1 ri1.2 (by decide) (by decide)) dX4_looksLike_5 (by decide) (fun c1 => ?_) (fun c1 => ?_)
  · refine c_iconst C dX4_looksLike_28 ?_
    exact c_zret C dX4_looksLike_29 rfl (Or.inl rfl) (by decide) (rom0 hph hph (by decide)) ⟨0, rfl, rfl, rfl, rfl, rfl, rfl, (Or.inl rfl), ⟨fun q => absurd q (by decide), fun q => absurd q.1 (by omega)⟩⟩
  · refine c_iload_n (j := 1) C dX4_looksLike_8 rfl ?_
    refine c_aload_n (j := 0) (x := a0) C dX4_looksLike_9 rfl ?_
    obtain ⟨rb1, rq1, trb1⟩ := hW.ref t_a0 8 rfl rfl rfl
    have lnrb1 : 100 ≤ ln rb1 ∧ ln rb1 ≤ 100 := hW.len trb1 rfl
    refine c_getr (k := 8) C ck_5 dX4_looksLike_10 w1_239 (by decide) t_a0 rfl rfl (by decide) rfl rq1 ?_
    refine c_st (st2 := [.ref rb1, .int (iI x)]) rfl ?_
    refine c_iload_n (j := 2) C dX4_looksLike_13 rfl ?_
    have ll1 : 100 ≤ ln rb1 ∧ ln rb1 ≤ 100 := hW.len trb1 rfl
    refine c_iald C dX4_looksLike_14 trb1 rfl (by omega) (by omega) (by omega) ?_
    have ri2 : (-2147483648) ≤ iv rb1 i.toNat ∧ iv rb1 i.toNat ≤ 2147483647 := hW.int trb1 i.toNat
    obtain ⟨zz1, hzz1, ezz1⟩ := iI_of (iI x ^^^ iI (iv rb1 i.toNat))
    refine c_ixor (w := iI zz1) C dX4_looksLike_15 ezz1 ?_
    refine c_aload_n (j := 0) (x := a0) C dX4_looksLike_16 rfl ?_
    have ri3 : (-2147483648) ≤ iv a0 10 ∧ iv a0 10 ≤ 2147483647 := hW.int t_a0 10
    refine c_get (k := 10) C ck_5 dX4_looksLike_17 w2_1 (by decide) t_a0 rfl rfl (by decide) rfl ?_
    obtain ⟨zz2, hzz2, ezz2⟩ := iI_of (iI zz1 &&& iI (iv a0 10))
    refine c_iand (w := iI zz2) C dX4_looksLike_20 ezz2 ?_
    refine c_if_ne (tgt := 28) C ⟨by omega, by omega⟩ dX4_looksLike_21 (by decide) (fun c2 => ?_) (fun c2 => ?_)
    · refine c_iconst C dX4_looksLike_28 ?_
      exact c_zret C dX4_looksLike_29 rfl (Or.inl rfl) (by decide) (rom0 hph hph (by decide)) ⟨0, rfl, rfl, rfl, rfl, rfl, rfl, (Or.inl rfl), ⟨fun q => absurd q (by decide), fun q => by have q2 := q.2 rb1 rq1; rw [ezz1] at q2; have q3 := (bz_iff ezz2 hzz2).mp q2; omega⟩⟩
    · refine c_iconst C dX4_looksLike_24 ?_
      refine c_goto (tgt := 29) C dX4_looksLike_25 (by decide) ?_
      exact c_zret C dX4_looksLike_29 rfl (Or.inr rfl) (by decide) (rom0 hph hph (by decide)) ⟨1, rfl, rfl, rfl, rfl, rfl, rfl, (Or.inr rfl), ⟨fun _ => ⟨by omega, fun b hb => by rw [rq1] at hb; cases hb; rw [ezz1, ezz2]; exact congrArg iI (show zz2 = 0 by omega)⟩, fun _ => rfl⟩⟩
set_option maxHeartbeats 4000000 in
set_option maxRecDepth 100000 in
theorem C_looksLikeRow {l : Launch} {G : GT} {mi : Nat} {sk : Nat → Nat} {L : List Nat} {cl ln : Nat → Nat} {iv : Nat → Nat → Int} {rv : Nat → Nat → Option Nat}  {a0 : Nat} {a1 : Nat} {i : Int} (hW : WT (g0 G) sk L cl ln iv rv) (hS : SKL sk L cl) (t_a0 : ty L cl a0 17) (t_a1 : ty L cl a1 20) (h_i : -2147483648 ≤ i ∧ i ≤ 2147483647) (hi : 0 ≤ i ∧ i ≤ 1000) : Mc l G mi (Phi (g0 G) sk) PHM yX4_looksLikeRow cX4_looksLikeRow 4 (some .boolean) 1 [.ref a0, .ref a1, .int (iI i)] L cl ln iv rv 0 (fun v L2 cl2 ln2 iv2 rv2 => ∃ f : Int, v = some (.int (iI f)) ∧ L = L2 ∧ cl = cl2 ∧ ln = ln2 ∧ iv = iv2 ∧ rv = rv2 ∧ (f = 0 ∨ f = 1) ∧ (f = 1 ↔ LRw ln iv rv a0 a1 i)) := by
  refine Mc.mk (by decide) (Nat.le_of_ble_eq_true rfl) ?_
  intro p e s m args below meth c A C hM
  refine hv3 (Phi.le hW hS) (show XT L cl ln L cl ln from XT.refl) (show fT [] L cl iv rv iv rv from fT.refl) (fun hph hX0 hF0 => ?_)
  refine c_iconst C dX4_looksLikeRow_0 ?_
  refine c_istore_n (lv2 := [(3, .int (iI 0)), (0, .ref a0), (1, .ref a1), (2, .int (iI i))]) C dX4_looksLikeRow_1 (by decide) rfl ?_
  have Lp1 : ∀ (nn : Nat) (k : Int) , 5 - k < (nn : Int) → (0 ≤ k ∧ k ≤ 4) → (∀ cb, rv a1 2 = some cb → ∀ j : Nat, (j : Int) < k → LLw iv rv a0 (iv cb j) (i + j)) → cw p l e 1 ((PHM) + 0 - ((Phi (g0 G) sk) ln rv)) s m args below meth c G A 4 (MQ below (Qu G A (Qp G (Phi (g0 G) sk) ((Phi (g0 G) sk) ln rv) 0 (fun v L2 cl2 ln2 iv2 rv2 => ∃ f : Int, v = some (.int (iI f)) ∧ L = L2 ∧ cl = cl2 ∧ ln = ln2 ∧ iv = iv2 ∧ rv = rv2 ∧ (f = 0 ∨ f = 1) ∧ (f = 1 ↔ LRw ln iv rv a0 a1 i)))) args s (((PHM) + 0 - ((Phi (g0 G) sk) ln rv)) / 16) ((PHM) + 0 - ((Phi (g0 G) sk) ln rv)) A) (Phi (g0 G) sk) ((Phi (g0 G) sk) ln rv) L cl ln iv rv 0 2 [(3, .int (iI k)), (0, .ref a0), (1, .ref a1), (2, .int (iI i))] [] := by
    intro nn
    induction nn with
    | zero =>
      intro  k  hm   hk hall
      exact absurd hm (by omega)
    | succ nn ih1 =>
      intro  k  hm   hk hall
      refine c_iload_n (j := 0) C dX4_looksLikeRow_2 rfl ?_
      refine c_aload_n (j := 2) (x := a1) C dX4_looksLikeRow_3 rfl ?_
      obtain ⟨rb1, rq1, trb1⟩ := hW.ref t_a1 2 rfl rfl rfl
      have lnrb1 : 1 ≤ ln rb1 ∧ ln rb1 ≤ 4 := hW.len trb1 rfl
      refine c_getr (k := 2) C ck_6 dX4_looksLikeRow_4 w3_144 (by decide) t_a1 rfl rfl (by decide) rfl rq1 ?_
      refine c_st (st2 := [.ref rb1, .int (iI k)]) rfl ?_
      have ll1 : 1 ≤ ln rb1 ∧ ln rb1 ≤ 4 := hW.len trb1 rfl
      refine c_alenI C dX4_looksLikeRow_7 trb1 rfl ?_
      refine c_icmp_ge (tgt := 35) C (r32_c (lo := 0) (hi := 4) hk.1 hk.2 (by decide) (by decide)) ⟨by omega, by omega⟩ dX4_looksLikeRow_8 (by decide) (fun c1 => ?_) (fun c1 => ?_)
      · refine c_iconst C dX4_looksLikeRow_35 ?_
        exact c_zret C dX4_looksLikeRow_36 rfl (Or.inr rfl) (by decide) (rom0 hph hph (by decide)) ⟨1, rfl, rfl, rfl, rfl, rfl, rfl, (Or.inr rfl), ⟨fun _ cb hb j hj => hall cb hb j (by rw [rq1] at hb; cases hb; omega), fun _ => rfl⟩⟩
      · refine c_aload_n (j := 1) (x := a0) C dX4_looksLikeRow_11 rfl ?_
        refine c_aload_n (j := 2) (x := a1) C dX4_looksLikeRow_12 rfl ?_
        refine c_getr (k := 2) C ck_6 dX4_looksLikeRow_13 w3_144 (by decide) t_a1 rfl rfl (by decide) rfl rq1 ?_
        refine c_st (st2 := [.ref rb1, .ref a0]) rfl ?_
        refine c_iload_n (j := 0) C dX4_looksLikeRow_16 rfl ?_
        refine c_iald C dX4_looksLikeRow_17 trb1 rfl (by omega) (by omega) (by omega) ?_
        have ri1 : (-2147483648) ≤ iv rb1 k.toNat ∧ iv rb1 k.toNat ≤ 2147483647 := hW.int trb1 k.toNat
        refine c_iload_n (j := 3) C dX4_looksLikeRow_18 rfl ?_
        refine c_iload_n (j := 0) C dX4_looksLikeRow_19 rfl ?_
        refine c_iadd C dX4_looksLikeRow_20 ?_
        refine d_callV (As := [.int (iI (iv rb1 k.toNat)), .int (iI (i + k))]) (rest := []) C hM (C_looksLike (a0 := a0) (x := iv rb1 k.toNat) (i := i + k) hW hS t_a0 (by omega) (by omega) (by show 0 ≤ (i + k); omega)) dX4_looksLikeRow_21 kV_X4_106 rfl t_a0 rfl rfl (by decide) ck_5 rfl (Nat.le_of_ble_eq_true rfl) ⟨(Nat.le_of_ble_eq_true rfl), (Nat.le_of_ble_eq_true rfl)⟩ hph hph (show 0 + 0 = 0 from rfl) (by decide) (fun rh1 Lh1 clh1 lnh1 ivh1 rvh1 h1 => ?_)
        obtain ⟨f1, rfl, rfl, rfl, rfl, rfl, rfl, rgf1, exf1⟩ := h1
        refine c_st (st2 := [.int (iI f1)]) rfl ?_
        have gf1 : f1 = 1 ↔ LLw iv rv a0 (iv rb1 k.toNat) (i + k) := exf1
        refine c_if_ne (tgt := 29) C ⟨by omega, by omega⟩ dX4_looksLikeRow_24 (by decide) (fun c2 => ?_) (fun c2 => ?_)
        · refine c_iinc (z := k) (j := 0) (lv2 := [(3, .int (iI (k + 1))), (0, .ref a0), (1, .ref a1), (2, .int (iI i))]) C dX4_looksLikeRow_29 rfl (by decide) rfl ?_
          refine c_goto (tgt := 2) C dX4_looksLikeRow_32 (by decide) ?_
          refine c_lv (lv2 := [(3, .int (iI (k + 1))), (0, .ref a0), (1, .ref a1), (2, .int (iI i))]) [0, 1, 2, 3] rfl ?_
          exact ih1  (k + 1)  (by omega)   (by omega) (fun cb hb j hj => by
              by_cases e : (j : Int) < k
              · exact hall cb hb j e
              · have e2 : j = k.toNat := by omega
                rw [rq1] at hb; cases hb; subst e2; rw [show i + ((k.toNat : Nat) : Int) = i + k by omega]; exact gf1.mp (by omega))
        · refine c_iconst C dX4_looksLikeRow_27 ?_
          exact c_zret C dX4_looksLikeRow_28 rfl (Or.inl rfl) (by decide) (rom0 hph hph (by decide)) ⟨0, rfl, rfl, rfl, rfl, rfl, rfl, (Or.inl rfl), ⟨fun q => absurd q (by decide), fun q => by have q2 := q rb1 rq1 k.toNat (by omega); rw [show i + ((k.toNat : Nat) : Int) = i + k by omega] at q2; have q3 := gf1.mpr q2; omega⟩⟩
  refine c_lv (lv2 := [(3, .int (iI 0)), (0, .ref a0), (1, .ref a1), (2, .int (iI i))]) [0, 1, 2, 3] rfl ?_
  exact Lp1 7 0  (by omega)   (by omega) (fun _ _ j hj => absurd hj (by omega))
end
section
set_option maxHeartbeats 4000000 in
set_option maxRecDepth 100000 in
theorem C_nodeBehind {l : Launch} {G : GT} {mi : Nat} {sk : Nat → Nat} {L : List Nat} {cl ln : Nat → Nat} {iv : Nat → Nat → Int} {rv : Nat → Nat → Option Nat}  {a0 : Nat} {i : Int} {x : Int} (hW : WT (g0 G) sk L cl ln iv rv) (hS : SKL sk L cl) (t_a0 : ty L cl a0 17) (h_i : -2147483648 ≤ i ∧ i ≤ 2147483647) (h_x : -2147483648 ≤ x ∧ x ≤ 2147483647) (hi : 0 ≤ i ∧ i ≤ 403) (hx : VL sk iv i x) : Mc l G mi (Phi (g0 G) sk) PHM yX4_nodeBehind cX4_nodeBehind 7 (some .int) 3 [.ref a0, .int (iI i), .int (iI x)] L cl ln iv rv 0 (fun v L2 cl2 ln2 iv2 rv2 => ∃ f : Int, v = some (.int (iI f)) ∧ L = L2 ∧ cl = cl2 ∧ ln = ln2 ∧ iv = iv2 ∧ rv = rv2 ∧ (-2147483648 ≤ f ∧ f ≤ 2147483647) ∧ ((f = -1 ∧ ¬ GD sk ln iv rv a0 i (i / 4) x) ∨ (GD sk ln iv rv a0 i (i / 4) x ∧ 4 * (i / 4) + 4 ≤ f ∧ f ≤ 4 * iv a0 9 + 3))) := by
  refine Mc.mk (by decide) (Nat.le_of_ble_eq_true rfl) ?_
  intro p e s m args below meth c A C hM
  refine hv7 (Phi.le hW hS) (show ty L cl (sk 11) 11 from ⟨(hS 11 rfl).1, by rw [(hS 11 rfl).2]; rfl⟩) (show ty L cl (sk 16) 16 from ⟨(hS 16 rfl).1, by rw [(hS 16 rfl).2]; rfl⟩) (show ty L cl (sk 24) 24 from ⟨(hS 24 rfl).1, by rw [(hS 24 rfl).2]; rfl⟩) (show ty L cl (sk 25) 25 from ⟨(hS 25 rfl).1, by rw [(hS 25 rfl).2]; rfl⟩) (show XT L cl ln L cl ln from XT.refl) (show fT [] L cl iv rv iv rv from fT.refl) (fun hph tsk11 tsk16 tsk24 tsk25 hX0 hF0 => ?_)
  refine c_iload_n (j := 1) C dX4_nodeBehind_0 rfl ?_
  refine c_iconst C dX4_nodeBehind_1 ?_
  obtain ⟨dq1, hdq1⟩ : ∃ q : Int, q = i / 4 := ⟨_, rfl⟩
  refine c_idiv (w := iI dq1) C dX4_nodeBehind_2 (iI_ne0 ⟨by omega, by omega⟩) (by rw [hdq1]; exact iI_div ⟨by omega, by omega⟩ ⟨by omega, by omega⟩) ?_
  refine c_istore_n (lv2 := [(3, .int (iI dq1)), (0, .ref a0), (1, .int (iI i)), (2, .int (iI x))]) C dX4_nodeBehind_3 (by decide) rfl ?_
  refine c_iload_n (j := 2) C dX4_nodeBehind_4 rfl ?_
  refine c_iconst C dX4_nodeBehind_5 ?_
  obtain ⟨zz1, hzz1, ezz1⟩ := iI_of (iI i &&& iI 2)
  refine c_iand (w := iI zz1) C dX4_nodeBehind_6 ezz1 ?_
  have hb2zz1 := bz_iff ezz1 hzz1
  refine c_if_eq (tgt := 14) C ⟨by omega, by omega⟩ dX4_nodeBehind_7 (by decide) (fun c1 => ?_) (fun c1 => ?_)
  · refine c_iconst C dX4_nodeBehind_14 ?_
    refine c_istore (lv2 := [(4, .int (iI 0)), (3, .int (iI dq1)), (0, .ref a0), (1, .int (iI i)), (2, .int (iI x))]) C dX4_nodeBehind_15 (by decide) rfl ?_
    refine c_iload_n (j := 4) C dX4_nodeBehind_17 rfl ?_
    refine c_if_gt (tgt := 45) C ⟨by omega, by omega⟩ dX4_nodeBehind_18 (by decide) (fun c2 => ?_) (fun c2 => ?_)
    · refine c_aload_n (j := 2) (x := a0) C dX4_nodeBehind_45 rfl ?_
      obtain ⟨rb1, rq1, trb1⟩ := hW.ref t_a0 7 rfl rfl rfl
      have erb1 := hW.sk trb1 (by decide) rfl
      subst erb1
      refine c_getr (k := 7) C ck_5 dX4_nodeBehind_46 w1_238 (by decide) t_a0 rfl rfl (by decide) rfl rq1 ?_
      refine c_st (st2 := [.ref (sk 16)]) rfl ?_
      refine c_iload_n (j := 3) C dX4_nodeBehind_49 rfl ?_
      refine c_iconst C dX4_nodeBehind_50 ?_
      obtain ⟨zz2, hzz2, ezz2⟩ := iI_of (iI i &&& iI 1)
      refine c_iand (w := iI zz2) C dX4_nodeBehind_51 ezz2 ?_
      refine hv2 (bz_iff ezz2 hzz2) (hx.zed ezz2 hzz2) (fun hb1zz2 vzzz2 => ?_)
      refine c_if_eq (tgt := 59) C ⟨by omega, by omega⟩ dX4_nodeBehind_52 (by decide) (fun c3 => ?_) (fun c3 => ?_)
      · refine c_iconst C dX4_nodeBehind_59 ?_
        refine d_callV (As := [.int (iI 0)]) (rest := []) C hM (C_rowsOf (a0 := (sk 16)) (g := 0) hW hS tsk16 ⟨by decide, by decide⟩ ) dX4_nodeBehind_60 kV_X4_95 rfl tsk16 rfl rfl (by decide) ck_4 rfl (Nat.le_of_ble_eq_true rfl) ⟨(Nat.le_of_ble_eq_true rfl), (Nat.le_of_ble_eq_true rfl)⟩ hph hph (show 0 + 0 = 0 from rfl) (by decide) (fun rh1 Lh1 clh1 lnh1 ivh1 rvh1 h1 => ?_)
        obtain ⟨f1, rfl, rfl, rfl, rfl, rfl, rfl, rgf1, exf1⟩ := h1
        refine c_st (st2 := [.ref f1]) rfl ?_
        rcases exf1 with exf1 | exf1
        · obtain ⟨hf1, rfl⟩ := exf1
          refine c_st (st2 := [.ref (sk 24)]) rfl ?_
          refine c_iload_n (j := 4) C dX4_nodeBehind_63 rfl ?_
          refine c_iconst C dX4_nodeBehind_64 ?_
          refine c_isub C dX4_nodeBehind_65 ?_
          have ri1 : 0 ≤ iv (sk 24) 2 ∧ iv (sk 24) 2 ≤ 6003 := hW.int tsk24 2
          refine d_callV (As := [.int (iI (x - 1))]) (rest := []) C hM (C_get_24 (a0 := (sk 24)) (i := x - 1) hW hS tsk24 (by omega) (by show 0 ≤ (x - 1) ∧ (x - 1) < iv (sk 24) 2; omega)) dX4_nodeBehind_66 kV_X4_110 rfl tsk24 rfl rfl (by decide) ck_0 rfl (Nat.le_of_ble_eq_true rfl) ⟨(Nat.le_of_ble_eq_true rfl), (Nat.le_of_ble_eq_true rfl)⟩ hph hph (show 0 + 0 = 0 from rfl) (by decide) (fun rh2 Lh2 clh2 lnh2 ivh2 rvh2 h2 => ?_)
          obtain ⟨f2, rfl, rfl, rfl, rfl, rfl, rfl, rgf2, exf2⟩ := h2
          refine c_st (st2 := [.ref f2]) rfl ?_
          have gf2 : el rv (sk 24) (x - 1).toNat = some f2 := exf2
          refine c_cast C ck_6 dX4_nodeBehind_69 w5_149 w8_169t rgf2 rfl rfl (by decide) ?_
          refine c_astore (lv2 := [(5, .ref f2), (4, .int (iI 0)), (3, .int (iI dq1)), (0, .ref a0), (1, .int (iI i)), (2, .int (iI x))]) C dX4_nodeBehind_72 (by decide) rfl ?_
          refine c_aload_n (j := 3) (x := a0) C dX4_nodeBehind_74 rfl ?_
          refine c_aload (j := 0) (x := f2) C dX4_nodeBehind_75 rfl ?_
          refine c_iload_n (j := 2) C dX4_nodeBehind_77 rfl ?_
          refine d_callV (As := [.ref f2, .int (iI dq1)]) (rest := []) C hM (C_looksLikeRow (a0 := a0) (a1 := f2) (i := dq1) hW hS t_a0 rgf2 (by omega) (by show 0 ≤ dq1 ∧ dq1 ≤ 1000; omega)) dX4_nodeBehind_78 kV_X4_116 rfl t_a0 rfl rfl (by decide) ck_5 rfl (Nat.le_of_ble_eq_true rfl) ⟨(Nat.le_of_ble_eq_true rfl), (Nat.le_of_ble_eq_true rfl)⟩ hph hph (show 0 + 0 = 0 from rfl) (by decide) (fun rh3 Lh3 clh3 lnh3 ivh3 rvh3 h3 => ?_)
          obtain ⟨f3, rfl, rfl, rfl, rfl, rfl, rfl, rgf3, exf3⟩ := h3
          refine c_st (st2 := [.int (iI f3)]) rfl ?_
          have gf3 : f3 = 1 ↔ LRw ln iv rv a0 f2 dq1 := exf3
          refine c_if_eq (tgt := 97) C ⟨by omega, by omega⟩ dX4_nodeBehind_81 (by decide) (fun c4 => ?_) (fun c4 => ?_)
          · refine c_iconst C dX4_nodeBehind_97 ?_
            exact c_iret C dX4_nodeBehind_98 rfl (by decide) (rom0 hph hph (by decide)) ⟨(-1), rfl, rfl, rfl, rfl, rfl, rfl, ⟨by decide, by decide⟩, (by rw [← hdq1]; exact Or.inl ⟨rfl, GD.no1 (by omega) (Or.inl ⟨hb1zz2.mpr (by omega), exf2⟩) (fun q _ => absurd (gf3.mpr q) (by omega))⟩)⟩
          · refine c_iload (j := 1) C dX4_nodeBehind_84 rfl ?_
            refine c_if_eq (tgt := 99) C ⟨by decide, by decide⟩ dX4_nodeBehind_86 (by decide) (fun _ => ?_) (fun z => absurd z (by omega))
            refine c_iload_n (j := 4) C dX4_nodeBehind_99 rfl ?_
            refine c_iconst C dX4_nodeBehind_100 ?_
            obtain ⟨zz3, hzz3, ezz3⟩ := iI_of (iI i &&& iI 1)
            refine c_iand (w := iI zz3) C dX4_nodeBehind_101 ezz3 ?_
            have bazz3 := and1 ezz3 hzz3
            refine c_istore (lv2 := [(6, .int (iI zz3)), (5, .ref f2), (4, .int (iI 0)), (3, .int (iI dq1)), (0, .ref a0), (1, .int (iI i)), (2, .int (iI x))]) C dX4_nodeBehind_102 (by decide) rfl ?_
            refine c_aload (j := 1) (x := f2) C dX4_nodeBehind_104 rfl ?_
            have ri2 : (-2147483648) ≤ iv f2 0 ∧ iv f2 0 ≤ 2147483647 := hW.int rgf2 0
            refine c_get (k := 0) C ck_6 dX4_nodeBehind_106 w3_136 (by decide) rgf2 rfl rfl (by decide) rfl ?_
            rcases (show (iv f2 0) = 0 ∨ (iv f2 0) = 1 ∨ (iv f2 0) = 2 ∨ (iv f2 0) = 3 ∨ ((iv f2 0) < 0 ∨ 3 < (iv f2 0)) by omega) with sw1 | sw1 | sw1 | sw1 | sw1
            · refine c_tabIn (tgt := 140) (off := 31) C (r32_c (lo := (-2147483648)) (hi := 2147483647) ri2.1 ri2.2 (by decide) (by decide)) dX4_nodeBehind_109 (by omega) (by omega) (by rw [sw1]; rfl) (by decide) ?_
              refine c_iload (j := 0) C dX4_nodeBehind_140 rfl ?_
              refine c_iconst C dX4_nodeBehind_142 ?_
              obtain ⟨zz4, hzz4, ezz4⟩ := iI_of (iI zz3 ||| iI 2)
              refine c_ior (w := iI zz4) C dX4_nodeBehind_143 ezz4 ?_
              have bozz4 := or2 bazz3 ezz4 hzz4
              refine c_istore (lv2 := [(6, .int (iI zz4)), (5, .ref f2), (4, .int (iI 0)), (3, .int (iI dq1)), (0, .ref a0), (1, .int (iI i)), (2, .int (iI x))]) C dX4_nodeBehind_144 (by decide) rfl ?_
              refine c_goto (tgt := 161) C dX4_nodeBehind_146 (by decide) ?_
              refine c_iload_n (j := 3) C dX4_nodeBehind_161 rfl ?_
              refine c_aload (j := 1) (x := f2) C dX4_nodeBehind_162 rfl ?_
              obtain ⟨rb2, rq2, trb2⟩ := hW.ref rgf2 2 rfl rfl rfl
              have lnrb2 : 1 ≤ ln rb2 ∧ ln rb2 ≤ 4 := hW.len trb2 rfl
              refine c_getr (k := 2) C ck_6 dX4_nodeBehind_164 w3_144 (by decide) rgf2 rfl rfl (by decide) rfl rq2 ?_
              refine c_st (st2 := [.ref rb2, .int (iI dq1)]) rfl ?_
              have ll1 : 1 ≤ ln rb2 ∧ ln rb2 ≤ 4 := hW.len trb2 rfl
              refine c_alenI C dX4_nodeBehind_167 trb2 rfl ?_
              refine c_iadd C dX4_nodeBehind_168 ?_
              refine c_iconst C dX4_nodeBehind_169 ?_
              refine c_imul C dX4_nodeBehind_170 ?_
              refine c_iload (j := 0) C dX4_nodeBehind_171 rfl ?_
              refine c_iadd C dX4_nodeBehind_173 ?_
              have up9 := (gf3.mp (by omega) rb2 rq2 (ln rb2 - 1) (by omega)).1
              exact c_iret C dX4_nodeBehind_174 rfl (by decide) (rom0 hph hph (by decide)) ⟨(((dq1 + ((ln rb2 : Nat) : Int)) * 4) + zz4), rfl, rfl, rfl, rfl, rfl, rfl, ⟨by omega, by omega⟩, (by rw [← hdq1]; exact Or.inr ⟨GD.mk1 (by omega) (Or.inl ⟨hb1zz2.mpr (by omega), exf2⟩) (gf3.mp (by omega)) (Or.inl (hb2zz1.mpr (by omega))), by omega⟩)⟩
            · refine c_tabIn (tgt := 161) (off := 52) C (r32_c (lo := (-2147483648)) (hi := 2147483647) ri2.1 ri2.2 (by decide) (by decide)) dX4_nodeBehind_109 (by omega) (by omega) (by rw [sw1]; rfl) (by decide) ?_
              refine c_iload_n (j := 3) C dX4_nodeBehind_161 rfl ?_
              refine c_aload (j := 1) (x := f2) C dX4_nodeBehind_162 rfl ?_
              obtain ⟨rb3, rq3, trb3⟩ := hW.ref rgf2 2 rfl rfl rfl
              have lnrb3 : 1 ≤ ln rb3 ∧ ln rb3 ≤ 4 := hW.len trb3 rfl
              refine c_getr (k := 2) C ck_6 dX4_nodeBehind_164 w3_144 (by decide) rgf2 rfl rfl (by decide) rfl rq3 ?_
              refine c_st (st2 := [.ref rb3, .int (iI dq1)]) rfl ?_
              have ll2 : 1 ≤ ln rb3 ∧ ln rb3 ≤ 4 := hW.len trb3 rfl
              refine c_alenI C dX4_nodeBehind_167 trb3 rfl ?_
              refine c_iadd C dX4_nodeBehind_168 ?_
              refine c_iconst C dX4_nodeBehind_169 ?_
              refine c_imul C dX4_nodeBehind_170 ?_
              refine c_iload (j := 0) C dX4_nodeBehind_171 rfl ?_
              refine c_iadd C dX4_nodeBehind_173 ?_
              have up9 := (gf3.mp (by omega) rb3 rq3 (ln rb3 - 1) (by omega)).1
              exact c_iret C dX4_nodeBehind_174 rfl (by decide) (rom0 hph hph (by decide)) ⟨(((dq1 + ((ln rb3 : Nat) : Int)) * 4) + zz3), rfl, rfl, rfl, rfl, rfl, rfl, ⟨by omega, by omega⟩, (by rw [← hdq1]; exact Or.inr ⟨GD.mk1 (by omega) (Or.inl ⟨hb1zz2.mpr (by omega), exf2⟩) (gf3.mp (by omega)) (Or.inl (hb2zz1.mpr (by omega))), by omega⟩)⟩
            · refine c_tabIn (tgt := 149) (off := 40) C (r32_c (lo := (-2147483648)) (hi := 2147483647) ri2.1 ri2.2 (by decide) (by decide)) dX4_nodeBehind_109 (by omega) (by omega) (by rw [sw1]; rfl) (by decide) ?_
              refine c_iconst C dX4_nodeBehind_149 ?_
              refine c_istore (lv2 := [(6, .int (iI 1)), (5, .ref f2), (4, .int (iI 0)), (3, .int (iI dq1)), (0, .ref a0), (1, .int (iI i)), (2, .int (iI x))]) C dX4_nodeBehind_150 (by decide) rfl ?_
              refine c_goto (tgt := 161) C dX4_nodeBehind_152 (by decide) ?_
              refine c_iload_n (j := 3) C dX4_nodeBehind_161 rfl ?_
              refine c_aload (j := 1) (x := f2) C dX4_nodeBehind_162 rfl ?_
              obtain ⟨rb4, rq4, trb4⟩ := hW.ref rgf2 2 rfl rfl rfl
              have lnrb4 : 1 ≤ ln rb4 ∧ ln rb4 ≤ 4 := hW.len trb4 rfl
              refine c_getr (k := 2) C ck_6 dX4_nodeBehind_164 w3_144 (by decide) rgf2 rfl rfl (by decide) rfl rq4 ?_
              refine c_st (st2 := [.ref rb4, .int (iI dq1)]) rfl ?_
              have ll3 : 1 ≤ ln rb4 ∧ ln rb4 ≤ 4 := hW.len trb4 rfl
              refine c_alenI C dX4_nodeBehind_167 trb4 rfl ?_
              refine c_iadd C dX4_nodeBehind_168 ?_
              refine c_iconst C dX4_nodeBehind_169 ?_
              refine c_imul C dX4_nodeBehind_170 ?_
              refine c_iload (j := 0) C dX4_nodeBehind_171 rfl ?_
              refine c_iadd C dX4_nodeBehind_173 ?_
              have up9 := (gf3.mp (by omega) rb4 rq4 (ln rb4 - 1) (by omega)).1
              exact c_iret C dX4_nodeBehind_174 rfl (by decide) (rom0 hph hph (by decide)) ⟨(((dq1 + ((ln rb4 : Nat) : Int)) * 4) + 1), rfl, rfl, rfl, rfl, rfl, rfl, ⟨by omega, by omega⟩, (by rw [← hdq1]; exact Or.inr ⟨GD.mk1 (by omega) (Or.inl ⟨hb1zz2.mpr (by omega), exf2⟩) (gf3.mp (by omega)) (Or.inl (hb2zz1.mpr (by omega))), by omega⟩)⟩
            · refine c_tabIn (tgt := 155) (off := 46) C (r32_c (lo := (-2147483648)) (hi := 2147483647) ri2.1 ri2.2 (by decide) (by decide)) dX4_nodeBehind_109 (by omega) (by omega) (by rw [sw1]; rfl) (by decide) ?_
              refine c_iconst C dX4_nodeBehind_155 ?_
              refine c_istore (lv2 := [(6, .int (iI 0)), (5, .ref f2), (4, .int (iI 0)), (3, .int (iI dq1)), (0, .ref a0), (1, .int (iI i)), (2, .int (iI x))]) C dX4_nodeBehind_156 (by decide) rfl ?_
              refine c_goto (tgt := 161) C dX4_nodeBehind_158 (by decide) ?_
              refine c_iload_n (j := 3) C dX4_nodeBehind_161 rfl ?_
              refine c_aload (j := 1) (x := f2) C dX4_nodeBehind_162 rfl ?_
              obtain ⟨rb5, rq5, trb5⟩ := hW.ref rgf2 2 rfl rfl rfl
              have lnrb5 : 1 ≤ ln rb5 ∧ ln rb5 ≤ 4 := hW.len trb5 rfl
              refine c_getr (k := 2) C ck_6 dX4_nodeBehind_164 w3_144 (by decide) rgf2 rfl rfl (by decide) rfl rq5 ?_
              refine c_st (st2 := [.ref rb5, .int (iI dq1)]) rfl ?_
              have ll4 : 1 ≤ ln rb5 ∧ ln rb5 ≤ 4 := hW.len trb5 rfl
              refine c_alenI C dX4_nodeBehind_167 trb5 rfl ?_
              refine c_iadd C dX4_nodeBehind_168 ?_
              refine c_iconst C dX4_nodeBehind_169 ?_
              refine c_imul C dX4_nodeBehind_170 ?_
              refine c_iload (j := 0) C dX4_nodeBehind_171 rfl ?_
              refine c_iadd C dX4_nodeBehind_173 ?_
              have up9 := (gf3.mp (by omega) rb5 rq5 (ln rb5 - 1) (by omega)).1
              exact c_iret C dX4_nodeBehind_174 rfl (by decide) (rom0 hph hph (by decide)) ⟨(((dq1 + ((ln rb5 : Nat) : Int)) * 4) + 0), rfl, rfl, rfl, rfl, rfl, rfl, ⟨by omega, by omega⟩, (by rw [← hdq1]; exact Or.inr ⟨GD.mk1 (by omega) (Or.inl ⟨hb1zz2.mpr (by omega), exf2⟩) (gf3.mp (by omega)) (Or.inl (hb2zz1.mpr (by omega))), by omega⟩)⟩
            · refine c_tabOut (tgt := 161) C (r32_c (lo := (-2147483648)) (hi := 2147483647) ri2.1 ri2.2 (by decide) (by decide)) dX4_nodeBehind_109 sw1 (by decide) ?_
              refine c_iload_n (j := 3) C dX4_nodeBehind_161 rfl ?_
              refine c_aload (j := 1) (x := f2) C dX4_nodeBehind_162 rfl ?_
              obtain ⟨rb6, rq6, trb6⟩ := hW.ref rgf2 2 rfl rfl rfl
              have lnrb6 : 1 ≤ ln rb6 ∧ ln rb6 ≤ 4 := hW.len trb6 rfl
              refine c_getr (k := 2) C ck_6 dX4_nodeBehind_164 w3_144 (by decide) rgf2 rfl rfl (by decide) rfl rq6 ?_
              refine c_st (st2 := [.ref rb6, .int (iI dq1)]) rfl ?_
              have ll5 : 1 ≤ ln rb6 ∧ ln rb6 ≤ 4 := hW.len trb6 rfl
              refine c_alenI C dX4_nodeBehind_167 trb6 rfl ?_
              refine c_iadd C dX4_nodeBehind_168 ?_
              refine c_iconst C dX4_nodeBehind_169 ?_
              refine c_imul C dX4_nodeBehind_170 ?_
              refine c_iload (j := 0) C dX4_nodeBehind_171 rfl ?_
              refine c_iadd C dX4_nodeBehind_173 ?_
              have up9 := (gf3.mp (by omega) rb6 rq6 (ln rb6 - 1) (by omega)).1
              exact c_iret C dX4_nodeBehind_174 rfl (by decide) (rom0 hph hph (by decide)) ⟨(((dq1 + ((ln rb6 : Nat) : Int)) * 4) + zz3), rfl, rfl, rfl, rfl, rfl, rfl, ⟨by omega, by omega⟩, (by rw [← hdq1]; exact Or.inr ⟨GD.mk1 (by omega) (Or.inl ⟨hb1zz2.mpr (by omega), exf2⟩) (gf3.mp (by omega)) (Or.inl (hb2zz1.mpr (by omega))), by omega⟩)⟩
        · exact absurd exf1.1 (by decide)
      · refine c_iconst C dX4_nodeBehind_55 ?_
        refine c_goto (tgt := 60) C dX4_nodeBehind_56 (by decide) ?_
        refine d_callV (As := [.int (iI 1)]) (rest := []) C hM (C_rowsOf (a0 := (sk 16)) (g := 1) hW hS tsk16 ⟨by decide, by decide⟩ ) dX4_nodeBehind_60 kV_X4_95 rfl tsk16 rfl rfl (by decide) ck_4 rfl (Nat.le_of_ble_eq_true rfl) ⟨(Nat.le_of_ble_eq_true rfl), (Nat.le_of_ble_eq_true rfl)⟩ hph hph (show 0 + 0 = 0 from rfl) (by decide) (fun rh4 Lh4 clh4 lnh4 ivh4 rvh4 h4 => ?_)
        obtain ⟨f4, rfl, rfl, rfl, rfl, rfl, rfl, rgf4, exf4⟩ := h4
        refine c_st (st2 := [.ref f4]) rfl ?_
        rcases exf4 with exf4 | exf4
        · exact absurd exf4.1 (by decide)
        · obtain ⟨hf4, rfl⟩ := exf4
          refine c_st (st2 := [.ref (sk 25)]) rfl ?_
          refine c_iload_n (j := 4) C dX4_nodeBehind_63 rfl ?_
          refine c_iconst C dX4_nodeBehind_64 ?_
          refine c_isub C dX4_nodeBehind_65 ?_
          have ri3 : 0 ≤ iv (sk 25) 2 ∧ iv (sk 25) 2 ≤ 6003 := hW.int tsk25 2
          refine d_callV (As := [.int (iI (x - 1))]) (rest := []) C hM (C_get_25 (a0 := (sk 25)) (i := x - 1) hW hS tsk25 (by omega) (by show 0 ≤ (x - 1) ∧ (x - 1) < iv (sk 25) 2; omega)) dX4_nodeBehind_66 kV_X4_110 rfl tsk25 rfl rfl (by decide) ck_0 rfl (Nat.le_of_ble_eq_true rfl) ⟨(Nat.le_of_ble_eq_true rfl), (Nat.le_of_ble_eq_true rfl)⟩ hph hph (show 0 + 0 = 0 from rfl) (by decide) (fun rh5 Lh5 clh5 lnh5 ivh5 rvh5 h5 => ?_)
          obtain ⟨f5, rfl, rfl, rfl, rfl, rfl, rfl, rgf5, exf5⟩ := h5
          refine c_st (st2 := [.ref f5]) rfl ?_
          have gf5 : el rv (sk 25) (x - 1).toNat = some f5 := exf5
          refine c_cast C ck_6 dX4_nodeBehind_69 w5_149 w8_169t rgf5 rfl rfl (by decide) ?_
          refine c_astore (lv2 := [(5, .ref f5), (4, .int (iI 0)), (3, .int (iI dq1)), (0, .ref a0), (1, .int (iI i)), (2, .int (iI x))]) C dX4_nodeBehind_72 (by decide) rfl ?_
          refine c_aload_n (j := 3) (x := a0) C dX4_nodeBehind_74 rfl ?_
          refine c_aload (j := 0) (x := f5) C dX4_nodeBehind_75 rfl ?_
          refine c_iload_n (j := 2) C dX4_nodeBehind_77 rfl ?_
          refine d_callV (As := [.ref f5, .int (iI dq1)]) (rest := []) C hM (C_looksLikeRow (a0 := a0) (a1 := f5) (i := dq1) hW hS t_a0 rgf5 (by omega) (by show 0 ≤ dq1 ∧ dq1 ≤ 1000; omega)) dX4_nodeBehind_78 kV_X4_116 rfl t_a0 rfl rfl (by decide) ck_5 rfl (Nat.le_of_ble_eq_true rfl) ⟨(Nat.le_of_ble_eq_true rfl), (Nat.le_of_ble_eq_true rfl)⟩ hph hph (show 0 + 0 = 0 from rfl) (by decide) (fun rh6 Lh6 clh6 lnh6 ivh6 rvh6 h6 => ?_)
          obtain ⟨f6, rfl, rfl, rfl, rfl, rfl, rfl, rgf6, exf6⟩ := h6
          refine c_st (st2 := [.int (iI f6)]) rfl ?_
          have gf6 : f6 = 1 ↔ LRw ln iv rv a0 f5 dq1 := exf6
          refine c_if_eq (tgt := 97) C ⟨by omega, by omega⟩ dX4_nodeBehind_81 (by decide) (fun c5 => ?_) (fun c5 => ?_)
          · refine c_iconst C dX4_nodeBehind_97 ?_
            exact c_iret C dX4_nodeBehind_98 rfl (by decide) (rom0 hph hph (by decide)) ⟨(-1), rfl, rfl, rfl, rfl, rfl, rfl, ⟨by decide, by decide⟩, (by rw [← hdq1]; exact Or.inl ⟨rfl, GD.no1 (by omega) (Or.inr ⟨fun q => absurd (hb1zz2.mp q) (by omega), exf5⟩) (fun q _ => absurd (gf6.mpr q) (by omega))⟩)⟩
          · refine c_iload (j := 1) C dX4_nodeBehind_84 rfl ?_
            refine c_if_eq (tgt := 99) C ⟨by decide, by decide⟩ dX4_nodeBehind_86 (by decide) (fun _ => ?_) (fun z => absurd z (by omega))
            refine c_iload_n (j := 4) C dX4_nodeBehind_99 rfl ?_
            refine c_iconst C dX4_nodeBehind_100 ?_
            obtain ⟨zz5, hzz5, ezz5⟩ := iI_of (iI i &&& iI 1)
            refine c_iand (w := iI zz5) C dX4_nodeBehind_101 ezz5 ?_
            have bazz5 := and1 ezz5 hzz5
            refine c_istore (lv2 := [(6, .int (iI zz5)), (5, .ref f5), (4, .int (iI 0)), (3, .int (iI dq1)), (0, .ref a0), (1, .int (iI i)), (2, .int (iI x))]) C dX4_nodeBehind_102 (by decide) rfl ?_
            refine c_aload (j := 1) (x := f5) C dX4_nodeBehind_104 rfl ?_
            have ri4 : (-2147483648) ≤ iv f5 0 ∧ iv f5 0 ≤ 2147483647 := hW.int rgf5 0
            refine c_get (k := 0) C ck_6 dX4_nodeBehind_106 w3_136 (by decide) rgf5 rfl rfl (by decide) rfl ?_
            rcases (show (iv f5 0) = 0 ∨ (iv f5 0) = 1 ∨ (iv f5 0) = 2 ∨ (iv f5 0) = 3 ∨ ((iv f5 0) < 0 ∨ 3 < (iv f5 0)) by omega) with sw2 | sw2 | sw2 | sw2 | sw2
            · refine c_tabIn (tgt := 140) (off := 31) C (r32_c (lo := (-2147483648)) (hi := 2147483647) ri4.1 ri4.2 (by decide) (by decide)) dX4_nodeBehind_109 (by omega) (by omega) (by rw [sw2]; rfl) (by decide) ?_
              refine c_iload (j := 0) C dX4_nodeBehind_140 rfl ?_
              refine c_iconst C dX4_nodeBehind_142 ?_
              obtain ⟨zz6, hzz6, ezz6⟩ := iI_of (iI zz5 ||| iI 2)
              refine c_ior (w := iI zz6) C dX4_nodeBehind_143 ezz6 ?_
              have bozz6 := or2 bazz5 ezz6 hzz6
              refine c_istore (lv2 := [(6, .int (iI zz6)), (5, .ref f5), (4, .int (iI 0)), (3, .int (iI dq1)), (0, .ref a0), (1, .int (iI i)), (2, .int (iI x))]) C dX4_nodeBehind_144 (by decide) rfl ?_
              refine c_goto (tgt := 161) C dX4_nodeBehind_146 (by decide) ?_
              refine c_iload_n (j := 3) C dX4_nodeBehind_161 rfl ?_
              refine c_aload (j := 1) (x := f5) C dX4_nodeBehind_162 rfl ?_
              obtain ⟨rb7, rq7, trb7⟩ := hW.ref rgf5 2 rfl rfl rfl
              have lnrb7 : 1 ≤ ln rb7 ∧ ln rb7 ≤ 4 := hW.len trb7 rfl
              refine c_getr (k := 2) C ck_6 dX4_nodeBehind_164 w3_144 (by decide) rgf5 rfl rfl (by decide) rfl rq7 ?_
              refine c_st (st2 := [.ref rb7, .int (iI dq1)]) rfl ?_
              have ll6 : 1 ≤ ln rb7 ∧ ln rb7 ≤ 4 := hW.len trb7 rfl
              refine c_alenI C dX4_nodeBehind_167 trb7 rfl ?_
              refine c_iadd C dX4_nodeBehind_168 ?_
              refine c_iconst C dX4_nodeBehind_169 ?_
              refine c_imul C dX4_nodeBehind_170 ?_
              refine c_iload (j := 0) C dX4_nodeBehind_171 rfl ?_
              refine c_iadd C dX4_nodeBehind_173 ?_
              have up9 := (gf6.mp (by omega) rb7 rq7 (ln rb7 - 1) (by omega)).1
              exact c_iret C dX4_nodeBehind_174 rfl (by decide) (rom0 hph hph (by decide)) ⟨(((dq1 + ((ln rb7 : Nat) : Int)) * 4) + zz6), rfl, rfl, rfl, rfl, rfl, rfl, ⟨by omega, by omega⟩, (by rw [← hdq1]; exact Or.inr ⟨GD.mk1 (by omega) (Or.inr ⟨fun q => absurd (hb1zz2.mp q) (by omega), exf5⟩) (gf6.mp (by omega)) (Or.inl (hb2zz1.mpr (by omega))), by omega⟩)⟩
            · refine c_tabIn (tgt := 161) (off := 52) C (r32_c (lo := (-2147483648)) (hi := 2147483647) ri4.1 ri4.2 (by decide) (by decide)) dX4_nodeBehind_109 (by omega) (by omega) (by rw [sw2]; rfl) (by decide) ?_
              refine c_iload_n (j := 3) C dX4_nodeBehind_161 rfl ?_
              refine c_aload (j := 1) (x := f5) C dX4_nodeBehind_162 rfl ?_
              obtain ⟨rb8, rq8, trb8⟩ := hW.ref rgf5 2 rfl rfl rfl
              have lnrb8 : 1 ≤ ln rb8 ∧ ln rb8 ≤ 4 := hW.len trb8 rfl
              refine c_getr (k := 2) C ck_6 dX4_nodeBehind_164 w3_144 (by decide) rgf5 rfl rfl (by decide) rfl rq8 ?_
              refine c_st (st2 := [.ref rb8, .int (iI dq1)]) rfl ?_
              have ll7 : 1 ≤ ln rb8 ∧ ln rb8 ≤ 4 := hW.len trb8 rfl
              refine c_alenI C dX4_nodeBehind_167 trb8 rfl ?_
              refine c_iadd C dX4_nodeBehind_168 ?_
              refine c_iconst C dX4_nodeBehind_169 ?_
              refine c_imul C dX4_nodeBehind_170 ?_
              refine c_iload (j := 0) C dX4_nodeBehind_171 rfl ?_
              refine c_iadd C dX4_nodeBehind_173 ?_
              have up9 := (gf6.mp (by omega) rb8 rq8 (ln rb8 - 1) (by omega)).1
              exact c_iret C dX4_nodeBehind_174 rfl (by decide) (rom0 hph hph (by decide)) ⟨(((dq1 + ((ln rb8 : Nat) : Int)) * 4) + zz5), rfl, rfl, rfl, rfl, rfl, rfl, ⟨by omega, by omega⟩, (by rw [← hdq1]; exact Or.inr ⟨GD.mk1 (by omega) (Or.inr ⟨fun q => absurd (hb1zz2.mp q) (by omega), exf5⟩) (gf6.mp (by omega)) (Or.inl (hb2zz1.mpr (by omega))), by omega⟩)⟩
            · refine c_tabIn (tgt := 149) (off := 40) C (r32_c (lo := (-2147483648)) (hi := 2147483647) ri4.1 ri4.2 (by decide) (by decide)) dX4_nodeBehind_109 (by omega) (by omega) (by rw [sw2]; rfl) (by decide) ?_
              refine c_iconst C dX4_nodeBehind_149 ?_
              refine c_istore (lv2 := [(6, .int (iI 1)), (5, .ref f5), (4, .int (iI 0)), (3, .int (iI dq1)), (0, .ref a0), (1, .int (iI i)), (2, .int (iI x))]) C dX4_nodeBehind_150 (by decide) rfl ?_
              refine c_goto (tgt := 161) C dX4_nodeBehind_152 (by decide) ?_
              refine c_iload_n (j := 3) C dX4_nodeBehind_161 rfl ?_
              refine c_aload (j := 1) (x := f5) C dX4_nodeBehind_162 rfl ?_
              obtain ⟨rb9, rq9, trb9⟩ := hW.ref rgf5 2 rfl rfl rfl
              have lnrb9 : 1 ≤ ln rb9 ∧ ln rb9 ≤ 4 := hW.len trb9 rfl
              refine c_getr (k := 2) C ck_6 dX4_nodeBehind_164 w3_144 (by decide) rgf5 rfl rfl (by decide) rfl rq9 ?_
              refine c_st (st2 := [.ref rb9, .int (iI dq1)]) rfl ?_
              have ll8 : 1 ≤ ln rb9 ∧ ln rb9 ≤ 4 := hW.len trb9 rfl
              refine c_alenI C dX4_nodeBehind_167 trb9 rfl ?_
              refine c_iadd C dX4_nodeBehind_168 ?_
              refine c_iconst C dX4_nodeBehind_169 ?_
              refine c_imul C dX4_nodeBehind_170 ?_
              refine c_iload (j := 0) C dX4_nodeBehind_171 rfl ?_
              refine c_iadd C dX4_nodeBehind_173 ?_
              have up9 := (gf6.mp (by omega) rb9 rq9 (ln rb9 - 1) (by omega)).1
              exact c_iret C dX4_nodeBehind_174 rfl (by decide) (rom0 hph hph (by decide)) ⟨(((dq1 + ((ln rb9 : Nat) : Int)) * 4) + 1), rfl, rfl, rfl, rfl, rfl, rfl, ⟨by omega, by omega⟩, (by rw [← hdq1]; exact Or.inr ⟨GD.mk1 (by omega) (Or.inr ⟨fun q => absurd (hb1zz2.mp q) (by omega), exf5⟩) (gf6.mp (by omega)) (Or.inl (hb2zz1.mpr (by omega))), by omega⟩)⟩
            · refine c_tabIn (tgt := 155) (off := 46) C (r32_c (lo := (-2147483648)) (hi := 2147483647) ri4.1 ri4.2 (by decide) (by decide)) dX4_nodeBehind_109 (by omega) (by omega) (by rw [sw2]; rfl) (by decide) ?_
              refine c_iconst C dX4_nodeBehind_155 ?_
              refine c_istore (lv2 := [(6, .int (iI 0)), (5, .ref f5), (4, .int (iI 0)), (3, .int (iI dq1)), (0, .ref a0), (1, .int (iI i)), (2, .int (iI x))]) C dX4_nodeBehind_156 (by decide) rfl ?_
              refine c_goto (tgt := 161) C dX4_nodeBehind_158 (by decide) ?_
              refine c_iload_n (j := 3) C dX4_nodeBehind_161 rfl ?_
              refine c_aload (j := 1) (x := f5) C dX4_nodeBehind_162 rfl ?_
              obtain ⟨rb10, rq10, trb10⟩ := hW.ref rgf5 2 rfl rfl rfl
              have lnrb10 : 1 ≤ ln rb10 ∧ ln rb10 ≤ 4 := hW.len trb10 rfl
              refine c_getr (k := 2) C ck_6 dX4_nodeBehind_164 w3_144 (by decide) rgf5 rfl rfl (by decide) rfl rq10 ?_
              refine c_st (st2 := [.ref rb10, .int (iI dq1)]) rfl ?_
              have ll9 : 1 ≤ ln rb10 ∧ ln rb10 ≤ 4 := hW.len trb10 rfl
              refine c_alenI C dX4_nodeBehind_167 trb10 rfl ?_
              refine c_iadd C dX4_nodeBehind_168 ?_
              refine c_iconst C dX4_nodeBehind_169 ?_
              refine c_imul C dX4_nodeBehind_170 ?_
              refine c_iload (j := 0) C dX4_nodeBehind_171 rfl ?_
              refine c_iadd C dX4_nodeBehind_173 ?_
              have up9 := (gf6.mp (by omega) rb10 rq10 (ln rb10 - 1) (by omega)).1
              exact c_iret C dX4_nodeBehind_174 rfl (by decide) (rom0 hph hph (by decide)) ⟨(((dq1 + ((ln rb10 : Nat) : Int)) * 4) + 0), rfl, rfl, rfl, rfl, rfl, rfl, ⟨by omega, by omega⟩, (by rw [← hdq1]; exact Or.inr ⟨GD.mk1 (by omega) (Or.inr ⟨fun q => absurd (hb1zz2.mp q) (by omega), exf5⟩) (gf6.mp (by omega)) (Or.inl (hb2zz1.mpr (by omega))), by omega⟩)⟩
            · refine c_tabOut (tgt := 161) C (r32_c (lo := (-2147483648)) (hi := 2147483647) ri4.1 ri4.2 (by decide) (by decide)) dX4_nodeBehind_109 sw2 (by decide) ?_
              refine c_iload_n (j := 3) C dX4_nodeBehind_161 rfl ?_
              refine c_aload (j := 1) (x := f5) C dX4_nodeBehind_162 rfl ?_
              obtain ⟨rb11, rq11, trb11⟩ := hW.ref rgf5 2 rfl rfl rfl
              have lnrb11 : 1 ≤ ln rb11 ∧ ln rb11 ≤ 4 := hW.len trb11 rfl
              refine c_getr (k := 2) C ck_6 dX4_nodeBehind_164 w3_144 (by decide) rgf5 rfl rfl (by decide) rfl rq11 ?_
              refine c_st (st2 := [.ref rb11, .int (iI dq1)]) rfl ?_
              have ll10 : 1 ≤ ln rb11 ∧ ln rb11 ≤ 4 := hW.len trb11 rfl
              refine c_alenI C dX4_nodeBehind_167 trb11 rfl ?_
              refine c_iadd C dX4_nodeBehind_168 ?_
              refine c_iconst C dX4_nodeBehind_169 ?_
              refine c_imul C dX4_nodeBehind_170 ?_
              refine c_iload (j := 0) C dX4_nodeBehind_171 rfl ?_
              refine c_iadd C dX4_nodeBehind_173 ?_
              have up9 := (gf6.mp (by omega) rb11 rq11 (ln rb11 - 1) (by omega)).1
              exact c_iret C dX4_nodeBehind_174 rfl (by decide) (rom0 hph hph (by decide)) ⟨(((dq1 + ((ln rb11 : Nat) : Int)) * 4) + zz5), rfl, rfl, rfl, rfl, rfl, rfl, ⟨by omega, by omega⟩, (by rw [← hdq1]; exact Or.inr ⟨GD.mk1 (by omega) (Or.inr ⟨fun q => absurd (hb1zz2.mp q) (by omega), exf5⟩) (gf6.mp (by omega)) (Or.inl (hb2zz1.mpr (by omega))), by omega⟩)⟩
    · refine c_iload (j := 0) C dX4_nodeBehind_21 rfl ?_
      refine c_if_ne (tgt := 35) C ⟨by decide, by decide⟩ dX4_nodeBehind_23 (by decide) (fun z => absurd z (by omega)) (fun _ => ?_)
      refine c_aload_n (j := 2) (x := a0) C dX4_nodeBehind_26 rfl ?_
      refine c_iconst C dX4_nodeBehind_27 ?_
      refine c_iload_n (j := 1) C dX4_nodeBehind_28 rfl ?_
      refine d_callV (As := [.int (iI 0), .int (iI dq1)]) (rest := []) C hM (C_looksLike (a0 := a0) (x := 0) (i := dq1) hW hS t_a0 ⟨by decide, by decide⟩ (by omega) (by show 0 ≤ dq1; omega)) dX4_nodeBehind_29 kV_X4_106 rfl t_a0 rfl rfl (by decide) ck_5 rfl (Nat.le_of_ble_eq_true rfl) ⟨(Nat.le_of_ble_eq_true rfl), (Nat.le_of_ble_eq_true rfl)⟩ hph hph (show 0 + 0 = 0 from rfl) (by decide) (fun rh7 Lh7 clh7 lnh7 ivh7 rvh7 h7 => ?_)
      obtain ⟨f7, rfl, rfl, rfl, rfl, rfl, rfl, rgf7, exf7⟩ := h7
      refine c_st (st2 := [.int (iI f7)]) rfl ?_
      have gf7 : f7 = 1 ↔ LLw iv rv a0 (0 : Int) dq1 := exf7
      refine c_if_ne (tgt := 39) C ⟨by omega, by omega⟩ dX4_nodeBehind_32 (by decide) (fun c6 => ?_) (fun c6 => ?_)
      · refine c_iload_n (j := 1) C dX4_nodeBehind_39 rfl ?_
        refine c_iconst C dX4_nodeBehind_40 ?_
        refine c_iadd C dX4_nodeBehind_41 ?_
        refine c_iconst C dX4_nodeBehind_42 ?_
        refine c_imul C dX4_nodeBehind_43 ?_
        exact c_iret C dX4_nodeBehind_44 rfl (by decide) (rom0 hph hph (by decide)) ⟨((dq1 + 1) * 4), rfl, rfl, rfl, rfl, rfl, rfl, ⟨by omega, by omega⟩, (by rw [← hdq1]; exact Or.inr ⟨GD.mk0 (by omega) (hb2zz1.mpr (by omega)) (gf7.mp (by omega)), by have q := (gf7.mp (by omega)).1; omega⟩)⟩
      · refine c_iconst C dX4_nodeBehind_35 ?_
        refine c_goto (tgt := 44) C dX4_nodeBehind_36 (by decide) ?_
        exact c_iret C dX4_nodeBehind_44 rfl (by decide) (rom0 hph hph (by decide)) ⟨(-1), rfl, rfl, rfl, rfl, rfl, rfl, ⟨by decide, by decide⟩, (by rw [← hdq1]; exact Or.inl ⟨rfl, GD.no0 (by omega) (fun _ q => absurd (gf7.mpr q) (by omega))⟩)⟩
  · refine c_iconst C dX4_nodeBehind_10 ?_
    refine c_goto (tgt := 15) C dX4_nodeBehind_11 (by decide) ?_
    refine c_istore (lv2 := [(4, .int (iI 1)), (3, .int (iI dq1)), (0, .ref a0), (1, .int (iI i)), (2, .int (iI x))]) C dX4_nodeBehind_15 (by decide) rfl ?_
    refine c_iload_n (j := 4) C dX4_nodeBehind_17 rfl ?_
    refine c_if_gt (tgt := 45) C ⟨by omega, by omega⟩ dX4_nodeBehind_18 (by decide) (fun c7 => ?_) (fun c7 => ?_)
    · refine c_aload_n (j := 2) (x := a0) C dX4_nodeBehind_45 rfl ?_
      obtain ⟨rb12, rq12, trb12⟩ := hW.ref t_a0 7 rfl rfl rfl
      have erb12 := hW.sk trb12 (by decide) rfl
      subst erb12
      refine c_getr (k := 7) C ck_5 dX4_nodeBehind_46 w1_238 (by decide) t_a0 rfl rfl (by decide) rfl rq12 ?_
      refine c_st (st2 := [.ref (sk 16)]) rfl ?_
      refine c_iload_n (j := 3) C dX4_nodeBehind_49 rfl ?_
      refine c_iconst C dX4_nodeBehind_50 ?_
      obtain ⟨zz7, hzz7, ezz7⟩ := iI_of (iI i &&& iI 1)
      refine c_iand (w := iI zz7) C dX4_nodeBehind_51 ezz7 ?_
      refine hv2 (bz_iff ezz7 hzz7) (hx.zed ezz7 hzz7) (fun hb1zz7 vzzz7 => ?_)
      refine c_if_eq (tgt := 59) C ⟨by omega, by omega⟩ dX4_nodeBehind_52 (by decide) (fun c8 => ?_) (fun c8 => ?_)
      · refine c_iconst C dX4_nodeBehind_59 ?_
        refine d_callV (As := [.int (iI 0)]) (rest := []) C hM (C_rowsOf (a0 := (sk 16)) (g := 0) hW hS tsk16 ⟨by decide, by decide⟩ ) dX4_nodeBehind_60 kV_X4_95 rfl tsk16 rfl rfl (by decide) ck_4 rfl (Nat.le_of_ble_eq_true rfl) ⟨(Nat.le_of_ble_eq_true rfl), (Nat.le_of_ble_eq_true rfl)⟩ hph hph (show 0 + 0 = 0 from rfl) (by decide) (fun rh8 Lh8 clh8 lnh8 ivh8 rvh8 h8 => ?_)
        obtain ⟨f8, rfl, rfl, rfl, rfl, rfl, rfl, rgf8, exf8⟩ := h8
        refine c_st (st2 := [.ref f8]) rfl ?_
        rcases exf8 with exf8 | exf8
        · obtain ⟨hf8, rfl⟩ := exf8
          refine c_st (st2 := [.ref (sk 24)]) rfl ?_
          refine c_iload_n (j := 4) C dX4_nodeBehind_63 rfl ?_
          refine c_iconst C dX4_nodeBehind_64 ?_
          refine c_isub C dX4_nodeBehind_65 ?_
          have ri5 : 0 ≤ iv (sk 24) 2 ∧ iv (sk 24) 2 ≤ 6003 := hW.int tsk24 2
          refine d_callV (As := [.int (iI (x - 1))]) (rest := []) C hM (C_get_24 (a0 := (sk 24)) (i := x - 1) hW hS tsk24 (by omega) (by show 0 ≤ (x - 1) ∧ (x - 1) < iv (sk 24) 2; omega)) dX4_nodeBehind_66 kV_X4_110 rfl tsk24 rfl rfl (by decide) ck_0 rfl (Nat.le_of_ble_eq_true rfl) ⟨(Nat.le_of_ble_eq_true rfl), (Nat.le_of_ble_eq_true rfl)⟩ hph hph (show 0 + 0 = 0 from rfl) (by decide) (fun rh9 Lh9 clh9 lnh9 ivh9 rvh9 h9 => ?_)
          obtain ⟨f9, rfl, rfl, rfl, rfl, rfl, rfl, rgf9, exf9⟩ := h9
          refine c_st (st2 := [.ref f9]) rfl ?_
          have gf9 : el rv (sk 24) (x - 1).toNat = some f9 := exf9
          refine c_cast C ck_6 dX4_nodeBehind_69 w5_149 w8_169t rgf9 rfl rfl (by decide) ?_
          refine c_astore (lv2 := [(5, .ref f9), (4, .int (iI 1)), (3, .int (iI dq1)), (0, .ref a0), (1, .int (iI i)), (2, .int (iI x))]) C dX4_nodeBehind_72 (by decide) rfl ?_
          refine c_aload_n (j := 3) (x := a0) C dX4_nodeBehind_74 rfl ?_
          refine c_aload (j := 0) (x := f9) C dX4_nodeBehind_75 rfl ?_
          refine c_iload_n (j := 2) C dX4_nodeBehind_77 rfl ?_
          refine d_callV (As := [.ref f9, .int (iI dq1)]) (rest := []) C hM (C_looksLikeRow (a0 := a0) (a1 := f9) (i := dq1) hW hS t_a0 rgf9 (by omega) (by show 0 ≤ dq1 ∧ dq1 ≤ 1000; omega)) dX4_nodeBehind_78 kV_X4_116 rfl t_a0 rfl rfl (by decide) ck_5 rfl (Nat.le_of_ble_eq_true rfl) ⟨(Nat.le_of_ble_eq_true rfl), (Nat.le_of_ble_eq_true rfl)⟩ hph hph (show 0 + 0 = 0 from rfl) (by decide) (fun rh10 Lh10 clh10 lnh10 ivh10 rvh10 h10 => ?_)
          obtain ⟨f10, rfl, rfl, rfl, rfl, rfl, rfl, rgf10, exf10⟩ := h10
          refine c_st (st2 := [.int (iI f10)]) rfl ?_
          have gf10 : f10 = 1 ↔ LRw ln iv rv a0 f9 dq1 := exf10
          refine c_if_eq (tgt := 97) C ⟨by omega, by omega⟩ dX4_nodeBehind_81 (by decide) (fun c9 => ?_) (fun c9 => ?_)
          · refine c_iconst C dX4_nodeBehind_97 ?_
            exact c_iret C dX4_nodeBehind_98 rfl (by decide) (rom0 hph hph (by decide)) ⟨(-1), rfl, rfl, rfl, rfl, rfl, rfl, ⟨by decide, by decide⟩, (by rw [← hdq1]; exact Or.inl ⟨rfl, GD.no1 (by omega) (Or.inl ⟨hb1zz7.mpr (by omega), exf9⟩) (fun q _ => absurd (gf10.mpr q) (by omega))⟩)⟩
          · refine c_iload (j := 1) C dX4_nodeBehind_84 rfl ?_
            refine c_if_eq (tgt := 99) C ⟨by decide, by decide⟩ dX4_nodeBehind_86 (by decide) (fun z => absurd z (by omega)) (fun _ => ?_)
            refine c_aload (j := 0) (x := f9) C dX4_nodeBehind_89 rfl ?_
            refine d_callV (As := []) (rest := []) C hM (C_bsmall (a0 := f9) hW hS rgf9  ) dX4_nodeBehind_91 kV_X4_120 rfl rgf9 rfl rfl (by decide) ck_6 rfl (Nat.le_of_ble_eq_true rfl) ⟨(Nat.le_of_ble_eq_true rfl), (Nat.le_of_ble_eq_true rfl)⟩ hph hph (show 0 + 0 = 0 from rfl) (by decide) (fun rh11 Lh11 clh11 lnh11 ivh11 rvh11 h11 => ?_)
            obtain ⟨f11, rfl, rfl, rfl, rfl, rfl, rfl, rgf11, exf11⟩ := h11
            refine c_st (st2 := [.int (iI f11)]) rfl ?_
            have gf11 : f11 = 1 ↔ BSw ln iv rv f9 := exf11
            refine c_if_ne (tgt := 99) C ⟨by omega, by omega⟩ dX4_nodeBehind_94 (by decide) (fun c10 => ?_) (fun c10 => ?_)
            · refine c_iload_n (j := 4) C dX4_nodeBehind_99 rfl ?_
              refine c_iconst C dX4_nodeBehind_100 ?_
              obtain ⟨zz8, hzz8, ezz8⟩ := iI_of (iI i &&& iI 1)
              refine c_iand (w := iI zz8) C dX4_nodeBehind_101 ezz8 ?_
              have bazz8 := and1 ezz8 hzz8
              refine c_istore (lv2 := [(6, .int (iI zz8)), (5, .ref f9), (4, .int (iI 1)), (3, .int (iI dq1)), (0, .ref a0), (1, .int (iI i)), (2, .int (iI x))]) C dX4_nodeBehind_102 (by decide) rfl ?_
              refine c_aload (j := 1) (x := f9) C dX4_nodeBehind_104 rfl ?_
              have ri6 : (-2147483648) ≤ iv f9 0 ∧ iv f9 0 ≤ 2147483647 := hW.int rgf9 0
              refine c_get (k := 0) C ck_6 dX4_nodeBehind_106 w3_136 (by decide) rgf9 rfl rfl (by decide) rfl ?_
              rcases (show (iv f9 0) = 0 ∨ (iv f9 0) = 1 ∨ (iv f9 0) = 2 ∨ (iv f9 0) = 3 ∨ ((iv f9 0) < 0 ∨ 3 < (iv f9 0)) by omega) with sw3 | sw3 | sw3 | sw3 | sw3
              · refine c_tabIn (tgt := 140) (off := 31) C (r32_c (lo := (-2147483648)) (hi := 2147483647) ri6.1 ri6.2 (by decide) (by decide)) dX4_nodeBehind_109 (by omega) (by omega) (by rw [sw3]; rfl) (by decide) ?_
                refine c_iload (j := 0) C dX4_nodeBehind_140 rfl ?_
                refine c_iconst C dX4_nodeBehind_142 ?_
                obtain ⟨zz9, hzz9, ezz9⟩ := iI_of (iI zz8 ||| iI 2)
                refine c_ior (w := iI zz9) C dX4_nodeBehind_143 ezz9 ?_
                have bozz9 := or2 bazz8 ezz9 hzz9
                refine c_istore (lv2 := [(6, .int (iI zz9)), (5, .ref f9), (4, .int (iI 1)), (3, .int (iI dq1)), (0, .ref a0), (1, .int (iI i)), (2, .int (iI x))]) C dX4_nodeBehind_144 (by decide) rfl ?_
                refine c_goto (tgt := 161) C dX4_nodeBehind_146 (by decide) ?_
                refine c_iload_n (j := 3) C dX4_nodeBehind_161 rfl ?_
                refine c_aload (j := 1) (x := f9) C dX4_nodeBehind_162 rfl ?_
                obtain ⟨rb13, rq13, trb13⟩ := hW.ref rgf9 2 rfl rfl rfl
                have lnrb13 : 1 ≤ ln rb13 ∧ ln rb13 ≤ 4 := hW.len trb13 rfl
                refine c_getr (k := 2) C ck_6 dX4_nodeBehind_164 w3_144 (by decide) rgf9 rfl rfl (by decide) rfl rq13 ?_
                refine c_st (st2 := [.ref rb13, .int (iI dq1)]) rfl ?_
                have ll11 : 1 ≤ ln rb13 ∧ ln rb13 ≤ 4 := hW.len trb13 rfl
                refine c_alenI C dX4_nodeBehind_167 trb13 rfl ?_
                refine c_iadd C dX4_nodeBehind_168 ?_
                refine c_iconst C dX4_nodeBehind_169 ?_
                refine c_imul C dX4_nodeBehind_170 ?_
                refine c_iload (j := 0) C dX4_nodeBehind_171 rfl ?_
                refine c_iadd C dX4_nodeBehind_173 ?_
                have up9 := (gf10.mp (by omega) rb13 rq13 (ln rb13 - 1) (by omega)).1
                exact c_iret C dX4_nodeBehind_174 rfl (by decide) (rom0 hph hph (by decide)) ⟨(((dq1 + ((ln rb13 : Nat) : Int)) * 4) + zz9), rfl, rfl, rfl, rfl, rfl, rfl, ⟨by omega, by omega⟩, (by rw [← hdq1]; exact Or.inr ⟨GD.mk1 (by omega) (Or.inl ⟨hb1zz7.mpr (by omega), exf9⟩) (gf10.mp (by omega)) (Or.inr (gf11.mp (by omega))), by omega⟩)⟩
              · refine c_tabIn (tgt := 161) (off := 52) C (r32_c (lo := (-2147483648)) (hi := 2147483647) ri6.1 ri6.2 (by decide) (by decide)) dX4_nodeBehind_109 (by omega) (by omega) (by rw [sw3]; rfl) (by decide) ?_
                refine c_iload_n (j := 3) C dX4_nodeBehind_161 rfl ?_
                refine c_aload (j := 1) (x := f9) C dX4_nodeBehind_162 rfl ?_
                obtain ⟨rb14, rq14, trb14⟩ := hW.ref rgf9 2 rfl rfl rfl
                have lnrb14 : 1 ≤ ln rb14 ∧ ln rb14 ≤ 4 := hW.len trb14 rfl
                refine c_getr (k := 2) C ck_6 dX4_nodeBehind_164 w3_144 (by decide) rgf9 rfl rfl (by decide) rfl rq14 ?_
                refine c_st (st2 := [.ref rb14, .int (iI dq1)]) rfl ?_
                have ll12 : 1 ≤ ln rb14 ∧ ln rb14 ≤ 4 := hW.len trb14 rfl
                refine c_alenI C dX4_nodeBehind_167 trb14 rfl ?_
                refine c_iadd C dX4_nodeBehind_168 ?_
                refine c_iconst C dX4_nodeBehind_169 ?_
                refine c_imul C dX4_nodeBehind_170 ?_
                refine c_iload (j := 0) C dX4_nodeBehind_171 rfl ?_
                refine c_iadd C dX4_nodeBehind_173 ?_
                have up9 := (gf10.mp (by omega) rb14 rq14 (ln rb14 - 1) (by omega)).1
                exact c_iret C dX4_nodeBehind_174 rfl (by decide) (rom0 hph hph (by decide)) ⟨(((dq1 + ((ln rb14 : Nat) : Int)) * 4) + zz8), rfl, rfl, rfl, rfl, rfl, rfl, ⟨by omega, by omega⟩, (by rw [← hdq1]; exact Or.inr ⟨GD.mk1 (by omega) (Or.inl ⟨hb1zz7.mpr (by omega), exf9⟩) (gf10.mp (by omega)) (Or.inr (gf11.mp (by omega))), by omega⟩)⟩
              · refine c_tabIn (tgt := 149) (off := 40) C (r32_c (lo := (-2147483648)) (hi := 2147483647) ri6.1 ri6.2 (by decide) (by decide)) dX4_nodeBehind_109 (by omega) (by omega) (by rw [sw3]; rfl) (by decide) ?_
                refine c_iconst C dX4_nodeBehind_149 ?_
                refine c_istore (lv2 := [(6, .int (iI 1)), (5, .ref f9), (4, .int (iI 1)), (3, .int (iI dq1)), (0, .ref a0), (1, .int (iI i)), (2, .int (iI x))]) C dX4_nodeBehind_150 (by decide) rfl ?_
                refine c_goto (tgt := 161) C dX4_nodeBehind_152 (by decide) ?_
                refine c_iload_n (j := 3) C dX4_nodeBehind_161 rfl ?_
                refine c_aload (j := 1) (x := f9) C dX4_nodeBehind_162 rfl ?_
                obtain ⟨rb15, rq15, trb15⟩ := hW.ref rgf9 2 rfl rfl rfl
                have lnrb15 : 1 ≤ ln rb15 ∧ ln rb15 ≤ 4 := hW.len trb15 rfl
                refine c_getr (k := 2) C ck_6 dX4_nodeBehind_164 w3_144 (by decide) rgf9 rfl rfl (by decide) rfl rq15 ?_
                refine c_st (st2 := [.ref rb15, .int (iI dq1)]) rfl ?_
                have ll13 : 1 ≤ ln rb15 ∧ ln rb15 ≤ 4 := hW.len trb15 rfl
                refine c_alenI C dX4_nodeBehind_167 trb15 rfl ?_
                refine c_iadd C dX4_nodeBehind_168 ?_
                refine c_iconst C dX4_nodeBehind_169 ?_
                refine c_imul C dX4_nodeBehind_170 ?_
                refine c_iload (j := 0) C dX4_nodeBehind_171 rfl ?_
                refine c_iadd C dX4_nodeBehind_173 ?_
                have up9 := (gf10.mp (by omega) rb15 rq15 (ln rb15 - 1) (by omega)).1
                exact c_iret C dX4_nodeBehind_174 rfl (by decide) (rom0 hph hph (by decide)) ⟨(((dq1 + ((ln rb15 : Nat) : Int)) * 4) + 1), rfl, rfl, rfl, rfl, rfl, rfl, ⟨by omega, by omega⟩, (by rw [← hdq1]; exact Or.inr ⟨GD.mk1 (by omega) (Or.inl ⟨hb1zz7.mpr (by omega), exf9⟩) (gf10.mp (by omega)) (Or.inr (gf11.mp (by omega))), by omega⟩)⟩
              · refine c_tabIn (tgt := 155) (off := 46) C (r32_c (lo := (-2147483648)) (hi := 2147483647) ri6.1 ri6.2 (by decide) (by decide)) dX4_nodeBehind_109 (by omega) (by omega) (by rw [sw3]; rfl) (by decide) ?_
                refine c_iconst C dX4_nodeBehind_155 ?_
                refine c_istore (lv2 := [(6, .int (iI 0)), (5, .ref f9), (4, .int (iI 1)), (3, .int (iI dq1)), (0, .ref a0), (1, .int (iI i)), (2, .int (iI x))]) C dX4_nodeBehind_156 (by decide) rfl ?_
                refine c_goto (tgt := 161) C dX4_nodeBehind_158 (by decide) ?_
                refine c_iload_n (j := 3) C dX4_nodeBehind_161 rfl ?_
                refine c_aload (j := 1) (x := f9) C dX4_nodeBehind_162 rfl ?_
                obtain ⟨rb16, rq16, trb16⟩ := hW.ref rgf9 2 rfl rfl rfl
                have lnrb16 : 1 ≤ ln rb16 ∧ ln rb16 ≤ 4 := hW.len trb16 rfl
                refine c_getr (k := 2) C ck_6 dX4_nodeBehind_164 w3_144 (by decide) rgf9 rfl rfl (by decide) rfl rq16 ?_
                refine c_st (st2 := [.ref rb16, .int (iI dq1)]) rfl ?_
                have ll14 : 1 ≤ ln rb16 ∧ ln rb16 ≤ 4 := hW.len trb16 rfl
                refine c_alenI C dX4_nodeBehind_167 trb16 rfl ?_
                refine c_iadd C dX4_nodeBehind_168 ?_
                refine c_iconst C dX4_nodeBehind_169 ?_
                refine c_imul C dX4_nodeBehind_170 ?_
                refine c_iload (j := 0) C dX4_nodeBehind_171 rfl ?_
                refine c_iadd C dX4_nodeBehind_173 ?_
                have up9 := (gf10.mp (by omega) rb16 rq16 (ln rb16 - 1) (by omega)).1
                exact c_iret C dX4_nodeBehind_174 rfl (by decide) (rom0 hph hph (by decide)) ⟨(((dq1 + ((ln rb16 : Nat) : Int)) * 4) + 0), rfl, rfl, rfl, rfl, rfl, rfl, ⟨by omega, by omega⟩, (by rw [← hdq1]; exact Or.inr ⟨GD.mk1 (by omega) (Or.inl ⟨hb1zz7.mpr (by omega), exf9⟩) (gf10.mp (by omega)) (Or.inr (gf11.mp (by omega))), by omega⟩)⟩
              · refine c_tabOut (tgt := 161) C (r32_c (lo := (-2147483648)) (hi := 2147483647) ri6.1 ri6.2 (by decide) (by decide)) dX4_nodeBehind_109 sw3 (by decide) ?_
                refine c_iload_n (j := 3) C dX4_nodeBehind_161 rfl ?_
                refine c_aload (j := 1) (x := f9) C dX4_nodeBehind_162 rfl ?_
                obtain ⟨rb17, rq17, trb17⟩ := hW.ref rgf9 2 rfl rfl rfl
                have lnrb17 : 1 ≤ ln rb17 ∧ ln rb17 ≤ 4 := hW.len trb17 rfl
                refine c_getr (k := 2) C ck_6 dX4_nodeBehind_164 w3_144 (by decide) rgf9 rfl rfl (by decide) rfl rq17 ?_
                refine c_st (st2 := [.ref rb17, .int (iI dq1)]) rfl ?_
                have ll15 : 1 ≤ ln rb17 ∧ ln rb17 ≤ 4 := hW.len trb17 rfl
                refine c_alenI C dX4_nodeBehind_167 trb17 rfl ?_
                refine c_iadd C dX4_nodeBehind_168 ?_
                refine c_iconst C dX4_nodeBehind_169 ?_
                refine c_imul C dX4_nodeBehind_170 ?_
                refine c_iload (j := 0) C dX4_nodeBehind_171 rfl ?_
                refine c_iadd C dX4_nodeBehind_173 ?_
                have up9 := (gf10.mp (by omega) rb17 rq17 (ln rb17 - 1) (by omega)).1
                exact c_iret C dX4_nodeBehind_174 rfl (by decide) (rom0 hph hph (by decide)) ⟨(((dq1 + ((ln rb17 : Nat) : Int)) * 4) + zz8), rfl, rfl, rfl, rfl, rfl, rfl, ⟨by omega, by omega⟩, (by rw [← hdq1]; exact Or.inr ⟨GD.mk1 (by omega) (Or.inl ⟨hb1zz7.mpr (by omega), exf9⟩) (gf10.mp (by omega)) (Or.inr (gf11.mp (by omega))), by omega⟩)⟩
            · refine c_iconst C dX4_nodeBehind_97 ?_
              exact c_iret C dX4_nodeBehind_98 rfl (by decide) (rom0 hph hph (by decide)) ⟨(-1), rfl, rfl, rfl, rfl, rfl, rfl, ⟨by decide, by decide⟩, (by rw [← hdq1]; exact Or.inl ⟨rfl, GD.no1 (by omega) (Or.inl ⟨hb1zz7.mpr (by omega), exf9⟩) (fun _ q => q.elim (fun q => absurd (hb2zz1.mp q) (by omega)) (fun q2 => absurd (gf11.mpr q2) (by omega)))⟩)⟩
        · exact absurd exf8.1 (by decide)
      · refine c_iconst C dX4_nodeBehind_55 ?_
        refine c_goto (tgt := 60) C dX4_nodeBehind_56 (by decide) ?_
        refine d_callV (As := [.int (iI 1)]) (rest := []) C hM (C_rowsOf (a0 := (sk 16)) (g := 1) hW hS tsk16 ⟨by decide, by decide⟩ ) dX4_nodeBehind_60 kV_X4_95 rfl tsk16 rfl rfl (by decide) ck_4 rfl (Nat.le_of_ble_eq_true rfl) ⟨(Nat.le_of_ble_eq_true rfl), (Nat.le_of_ble_eq_true rfl)⟩ hph hph (show 0 + 0 = 0 from rfl) (by decide) (fun rh12 Lh12 clh12 lnh12 ivh12 rvh12 h12 => ?_)
        obtain ⟨f12, rfl, rfl, rfl, rfl, rfl, rfl, rgf12, exf12⟩ := h12
        refine c_st (st2 := [.ref f12]) rfl ?_
        rcases exf12 with exf12 | exf12
        · exact absurd exf12.1 (by decide)
        · obtain ⟨hf12, rfl⟩ := exf12
          refine c_st (st2 := [.ref (sk 25)]) rfl ?_
          refine c_iload_n (j := 4) C dX4_nodeBehind_63 rfl ?_
          refine c_iconst C dX4_nodeBehind_64 ?_
          refine c_isub C dX4_nodeBehind_65 ?_
          have ri7 : 0 ≤ iv (sk 25) 2 ∧ iv (sk 25) 2 ≤ 6003 := hW.int tsk25 2
          refine d_callV (As := [.int (iI (x - 1))]) (rest := []) C hM (C_get_25 (a0 := (sk 25)) (i := x - 1) hW hS tsk25 (by omega) (by show 0 ≤ (x - 1) ∧ (x - 1) < iv (sk 25) 2; omega)) dX4_nodeBehind_66 kV_X4_110 rfl tsk25 rfl rfl (by decide) ck_0 rfl (Nat.le_of_ble_eq_true rfl) ⟨(Nat.le_of_ble_eq_true rfl), (Nat.le_of_ble_eq_true rfl)⟩ hph hph (show 0 + 0 = 0 from rfl) (by decide) (fun rh13 Lh13 clh13 lnh13 ivh13 rvh13 h13 => ?_)
          obtain ⟨f13, rfl, rfl, rfl, rfl, rfl, rfl, rgf13, exf13⟩ := h13
          refine c_st (st2 := [.ref f13]) rfl ?_
          have gf13 : el rv (sk 25) (x - 1).toNat = some f13 := exf13
          refine c_cast C ck_6 dX4_nodeBehind_69 w5_149 w8_169t rgf13 rfl rfl (by decide) ?_
          refine c_astore (lv2 := [(5, .ref f13), (4, .int (iI 1)), (3, .int (iI dq1)), (0, .ref a0), (1, .int (iI i)), (2, .int (iI x))]) C dX4_nodeBehind_72 (by decide) rfl ?_
          refine c_aload_n (j := 3) (x := a0) C dX4_nodeBehind_74 rfl ?_
          refine c_aload (j := 0) (x := f13) C dX4_nodeBehind_75 rfl ?_
          refine c_iload_n (j := 2) C dX4_nodeBehind_77 rfl ?_
          refine d_callV (As := [.ref f13, .int (iI dq1)]) (rest := []) C hM (C_looksLikeRow (a0 := a0) (a1 := f13) (i := dq1) hW hS t_a0 rgf13 (by omega) (by show 0 ≤ dq1 ∧ dq1 ≤ 1000; omega)) dX4_nodeBehind_78 kV_X4_116 rfl t_a0 rfl rfl (by decide) ck_5 rfl (Nat.le_of_ble_eq_true rfl) ⟨(Nat.le_of_ble_eq_true rfl), (Nat.le_of_ble_eq_true rfl)⟩ hph hph (show 0 + 0 = 0 from rfl) (by decide) (fun rh14 Lh14 clh14 lnh14 ivh14 rvh14 h14 => ?_)
          obtain ⟨f14, rfl, rfl, rfl, rfl, rfl, rfl, rgf14, exf14⟩ := h14
          refine c_st (st2 := [.int (iI f14)]) rfl ?_
          have gf14 : f14 = 1 ↔ LRw ln iv rv a0 f13 dq1 := exf14
          refine c_if_eq (tgt := 97) C ⟨by omega, by omega⟩ dX4_nodeBehind_81 (by decide) (fun c11 => ?_) (fun c11 => ?_)
          · refine c_iconst C dX4_nodeBehind_97 ?_
            exact c_iret C dX4_nodeBehind_98 rfl (by decide) (rom0 hph hph (by decide)) ⟨(-1), rfl, rfl, rfl, rfl, rfl, rfl, ⟨by decide, by decide⟩, (by rw [← hdq1]; exact Or.inl ⟨rfl, GD.no1 (by omega) (Or.inr ⟨fun q => absurd (hb1zz7.mp q) (by omega), exf13⟩) (fun q _ => absurd (gf14.mpr q) (by omega))⟩)⟩
          · refine c_iload (j := 1) C dX4_nodeBehind_84 rfl ?_
            refine c_if_eq (tgt := 99) C ⟨by decide, by decide⟩ dX4_nodeBehind_86 (by decide) (fun z => absurd z (by omega)) (fun _ => ?_)
            refine c_aload (j := 0) (x := f13) C dX4_nodeBehind_89 rfl ?_
            refine d_callV (As := []) (rest := []) C hM (C_bsmall (a0 := f13) hW hS rgf13  ) dX4_nodeBehind_91 kV_X4_120 rfl rgf13 rfl rfl (by decide) ck_6 rfl (Nat.le_of_ble_eq_true rfl) ⟨(Nat.le_of_ble_eq_true rfl), (Nat.le_of_ble_eq_true rfl)⟩ hph hph (show 0 + 0 = 0 from rfl) (by decide) (fun rh15 Lh15 clh15 lnh15 ivh15 rvh15 h15 => ?_)
            obtain ⟨f15, rfl, rfl, rfl, rfl, rfl, rfl, rgf15, exf15⟩ := h15
            refine c_st (st2 := [.int (iI f15)]) rfl ?_
            have gf15 : f15 = 1 ↔ BSw ln iv rv f13 := exf15
            refine c_if_ne (tgt := 99) C ⟨by omega, by omega⟩ dX4_nodeBehind_94 (by decide) (fun c12 => ?_) (fun c12 => ?_)
            · refine c_iload_n (j := 4) C dX4_nodeBehind_99 rfl ?_
              refine c_iconst C dX4_nodeBehind_100 ?_
              obtain ⟨zz10, hzz10, ezz10⟩ := iI_of (iI i &&& iI 1)
              refine c_iand (w := iI zz10) C dX4_nodeBehind_101 ezz10 ?_
              have bazz10 := and1 ezz10 hzz10
              refine c_istore (lv2 := [(6, .int (iI zz10)), (5, .ref f13), (4, .int (iI 1)), (3, .int (iI dq1)), (0, .ref a0), (1, .int (iI i)), (2, .int (iI x))]) C dX4_nodeBehind_102 (by decide) rfl ?_
              refine c_aload (j := 1) (x := f13) C dX4_nodeBehind_104 rfl ?_
              have ri8 : (-2147483648) ≤ iv f13 0 ∧ iv f13 0 ≤ 2147483647 := hW.int rgf13 0
              refine c_get (k := 0) C ck_6 dX4_nodeBehind_106 w3_136 (by decide) rgf13 rfl rfl (by decide) rfl ?_
              rcases (show (iv f13 0) = 0 ∨ (iv f13 0) = 1 ∨ (iv f13 0) = 2 ∨ (iv f13 0) = 3 ∨ ((iv f13 0) < 0 ∨ 3 < (iv f13 0)) by omega) with sw4 | sw4 | sw4 | sw4 | sw4
              · refine c_tabIn (tgt := 140) (off := 31) C (r32_c (lo := (-2147483648)) (hi := 2147483647) ri8.1 ri8.2 (by decide) (by decide)) dX4_nodeBehind_109 (by omega) (by omega) (by rw [sw4]; rfl) (by decide) ?_
                refine c_iload (j := 0) C dX4_nodeBehind_140 rfl ?_
                refine c_iconst C dX4_nodeBehind_142 ?_
                obtain ⟨zz11, hzz11, ezz11⟩ := iI_of (iI zz10 ||| iI 2)
                refine c_ior (w := iI zz11) C dX4_nodeBehind_143 ezz11 ?_
                have bozz11 := or2 bazz10 ezz11 hzz11
                refine c_istore (lv2 := [(6, .int (iI zz11)), (5, .ref f13), (4, .int (iI 1)), (3, .int (iI dq1)), (0, .ref a0), (1, .int (iI i)), (2, .int (iI x))]) C dX4_nodeBehind_144 (by decide) rfl ?_
                refine c_goto (tgt := 161) C dX4_nodeBehind_146 (by decide) ?_
                refine c_iload_n (j := 3) C dX4_nodeBehind_161 rfl ?_
                refine c_aload (j := 1) (x := f13) C dX4_nodeBehind_162 rfl ?_
                obtain ⟨rb18, rq18, trb18⟩ := hW.ref rgf13 2 rfl rfl rfl
                have lnrb18 : 1 ≤ ln rb18 ∧ ln rb18 ≤ 4 := hW.len trb18 rfl
                refine c_getr (k := 2) C ck_6 dX4_nodeBehind_164 w3_144 (by decide) rgf13 rfl rfl (by decide) rfl rq18 ?_
                refine c_st (st2 := [.ref rb18, .int (iI dq1)]) rfl ?_
                have ll16 : 1 ≤ ln rb18 ∧ ln rb18 ≤ 4 := hW.len trb18 rfl
                refine c_alenI C dX4_nodeBehind_167 trb18 rfl ?_
                refine c_iadd C dX4_nodeBehind_168 ?_
                refine c_iconst C dX4_nodeBehind_169 ?_
                refine c_imul C dX4_nodeBehind_170 ?_
                refine c_iload (j := 0) C dX4_nodeBehind_171 rfl ?_
                refine c_iadd C dX4_nodeBehind_173 ?_
                have up9 := (gf14.mp (by omega) rb18 rq18 (ln rb18 - 1) (by omega)).1
                exact c_iret C dX4_nodeBehind_174 rfl (by decide) (rom0 hph hph (by decide)) ⟨(((dq1 + ((ln rb18 : Nat) : Int)) * 4) + zz11), rfl, rfl, rfl, rfl, rfl, rfl, ⟨by omega, by omega⟩, (by rw [← hdq1]; exact Or.inr ⟨GD.mk1 (by omega) (Or.inr ⟨fun q => absurd (hb1zz7.mp q) (by omega), exf13⟩) (gf14.mp (by omega)) (Or.inr (gf15.mp (by omega))), by omega⟩)⟩
              · refine c_tabIn (tgt := 161) (off := 52) C (r32_c (lo := (-2147483648)) (hi := 2147483647) ri8.1 ri8.2 (by decide) (by decide)) dX4_nodeBehind_109 (by omega) (by omega) (by rw [sw4]; rfl) (by decide) ?_
                refine c_iload_n (j := 3) C dX4_nodeBehind_161 rfl ?_
                refine c_aload (j := 1) (x := f13) C dX4_nodeBehind_162 rfl ?_
                obtain ⟨rb19, rq19, trb19⟩ := hW.ref rgf13 2 rfl rfl rfl
                have lnrb19 : 1 ≤ ln rb19 ∧ ln rb19 ≤ 4 := hW.len trb19 rfl
                refine c_getr (k := 2) C ck_6 dX4_nodeBehind_164 w3_144 (by decide) rgf13 rfl rfl (by decide) rfl rq19 ?_
                refine c_st (st2 := [.ref rb19, .int (iI dq1)]) rfl ?_
                have ll17 : 1 ≤ ln rb19 ∧ ln rb19 ≤ 4 := hW.len trb19 rfl
                refine c_alenI C dX4_nodeBehind_167 trb19 rfl ?_
                refine c_iadd C dX4_nodeBehind_168 ?_
                refine c_iconst C dX4_nodeBehind_169 ?_
                refine c_imul C dX4_nodeBehind_170 ?_
                refine c_iload (j := 0) C dX4_nodeBehind_171 rfl ?_
                refine c_iadd C dX4_nodeBehind_173 ?_
                have up9 := (gf14.mp (by omega) rb19 rq19 (ln rb19 - 1) (by omega)).1
                exact c_iret C dX4_nodeBehind_174 rfl (by decide) (rom0 hph hph (by decide)) ⟨(((dq1 + ((ln rb19 : Nat) : Int)) * 4) + zz10), rfl, rfl, rfl, rfl, rfl, rfl, ⟨by omega, by omega⟩, (by rw [← hdq1]; exact Or.inr ⟨GD.mk1 (by omega) (Or.inr ⟨fun q => absurd (hb1zz7.mp q) (by omega), exf13⟩) (gf14.mp (by omega)) (Or.inr (gf15.mp (by omega))), by omega⟩)⟩
              · refine c_tabIn (tgt := 149) (off := 40) C (r32_c (lo := (-2147483648)) (hi := 2147483647) ri8.1 ri8.2 (by decide) (by decide)) dX4_nodeBehind_109 (by omega) (by omega) (by rw [sw4]; rfl) (by decide) ?_
                refine c_iconst C dX4_nodeBehind_149 ?_
                refine c_istore (lv2 := [(6, .int (iI 1)), (5, .ref f13), (4, .int (iI 1)), (3, .int (iI dq1)), (0, .ref a0), (1, .int (iI i)), (2, .int (iI x))]) C dX4_nodeBehind_150 (by decide) rfl ?_
                refine c_goto (tgt := 161) C dX4_nodeBehind_152 (by decide) ?_
                refine c_iload_n (j := 3) C dX4_nodeBehind_161 rfl ?_
                refine c_aload (j := 1) (x := f13) C dX4_nodeBehind_162 rfl ?_
                obtain ⟨rb20, rq20, trb20⟩ := hW.ref rgf13 2 rfl rfl rfl
                have lnrb20 : 1 ≤ ln rb20 ∧ ln rb20 ≤ 4 := hW.len trb20 rfl
                refine c_getr (k := 2) C ck_6 dX4_nodeBehind_164 w3_144 (by decide) rgf13 rfl rfl (by decide) rfl rq20 ?_
                refine c_st (st2 := [.ref rb20, .int (iI dq1)]) rfl ?_
                have ll18 : 1 ≤ ln rb20 ∧ ln rb20 ≤ 4 := hW.len trb20 rfl
                refine c_alenI C dX4_nodeBehind_167 trb20 rfl ?_
                refine c_iadd C dX4_nodeBehind_168 ?_
                refine c_iconst C dX4_nodeBehind_169 ?_
                refine c_imul C dX4_nodeBehind_170 ?_
                refine c_iload (j := 0) C dX4_nodeBehind_171 rfl ?_
                refine c_iadd C dX4_nodeBehind_173 ?_
                have up9 := (gf14.mp (by omega) rb20 rq20 (ln rb20 - 1) (by omega)).1
                exact c_iret C dX4_nodeBehind_174 rfl (by decide) (rom0 hph hph (by decide)) ⟨(((dq1 + ((ln rb20 : Nat) : Int)) * 4) + 1), rfl, rfl, rfl, rfl, rfl, rfl, ⟨by omega, by omega⟩, (by rw [← hdq1]; exact Or.inr ⟨GD.mk1 (by omega) (Or.inr ⟨fun q => absurd (hb1zz7.mp q) (by omega), exf13⟩) (gf14.mp (by omega)) (Or.inr (gf15.mp (by omega))), by omega⟩)⟩
              · refine c_tabIn (tgt := 155) (off := 46) C (r32_c (lo := (-2147483648)) (hi := 2147483647) ri8.1 ri8.2 (by decide) (by decide)) dX4_nodeBehind_109 (by omega) (by omega) (by rw [sw4]; rfl) (by decide) ?_
                refine c_iconst C dX4_nodeBehind_155 ?_
                refine c_istore (lv2 := [(6, .int (iI 0)), (5, .ref f13), (4, .int (iI 1)), (3, .int (iI dq1)), (0, .ref a0), (1, .int (iI i)), (2, .int (iI x))]) C dX4_nodeBehind_156 (by decide) rfl ?_
                refine c_goto (tgt := 161) C dX4_nodeBehind_158 (by decide) ?_
                refine c_iload_n (j := 3) C dX4_nodeBehind_161 rfl ?_
                refine c_aload (j := 1) (x := f13) C dX4_nodeBehind_162 rfl ?_
                obtain ⟨rb21, rq21, trb21⟩ := hW.ref rgf13 2 rfl rfl rfl
                have lnrb21 : 1 ≤ ln rb21 ∧ ln rb21 ≤ 4 := hW.len trb21 rfl
                refine c_getr (k := 2) C ck_6 dX4_nodeBehind_164 w3_144 (by decide) rgf13 rfl rfl (by decide) rfl rq21 ?_
                refine c_st (st2 := [.ref rb21, .int (iI dq1)]) rfl ?_
                have ll19 : 1 ≤ ln rb21 ∧ ln rb21 ≤ 4 := hW.len trb21 rfl
                refine c_alenI C dX4_nodeBehind_167 trb21 rfl ?_
                refine c_iadd C dX4_nodeBehind_168 ?_
                refine c_iconst C dX4_nodeBehind_169 ?_
                refine c_imul C dX4_nodeBehind_170 ?_
                refine c_iload (j := 0) C dX4_nodeBehind_171 rfl ?_
                refine c_iadd C dX4_nodeBehind_173 ?_
                have up9 := (gf14.mp (by omega) rb21 rq21 (ln rb21 - 1) (by omega)).1
                exact c_iret C dX4_nodeBehind_174 rfl (by decide) (rom0 hph hph (by decide)) ⟨(((dq1 + ((ln rb21 : Nat) : Int)) * 4) + 0), rfl, rfl, rfl, rfl, rfl, rfl, ⟨by omega, by omega⟩, (by rw [← hdq1]; exact Or.inr ⟨GD.mk1 (by omega) (Or.inr ⟨fun q => absurd (hb1zz7.mp q) (by omega), exf13⟩) (gf14.mp (by omega)) (Or.inr (gf15.mp (by omega))), by omega⟩)⟩
              · refine c_tabOut (tgt := 161) C (r32_c (lo := (-2147483648)) (hi := 2147483647) ri8.1 ri8.2 (by decide) (by decide)) dX4_nodeBehind_109 sw4 (by decide) ?_
                refine c_iload_n (j := 3) C dX4_nodeBehind_161 rfl ?_
                refine c_aload (j := 1) (x := f13) C dX4_nodeBehind_162 rfl ?_
                obtain ⟨rb22, rq22, trb22⟩ := hW.ref rgf13 2 rfl rfl rfl
                have lnrb22 : 1 ≤ ln rb22 ∧ ln rb22 ≤ 4 := hW.len trb22 rfl
                refine c_getr (k := 2) C ck_6 dX4_nodeBehind_164 w3_144 (by decide) rgf13 rfl rfl (by decide) rfl rq22 ?_
                refine c_st (st2 := [.ref rb22, .int (iI dq1)]) rfl ?_
                have ll20 : 1 ≤ ln rb22 ∧ ln rb22 ≤ 4 := hW.len trb22 rfl
                refine c_alenI C dX4_nodeBehind_167 trb22 rfl ?_
                refine c_iadd C dX4_nodeBehind_168 ?_
                refine c_iconst C dX4_nodeBehind_169 ?_
                refine c_imul C dX4_nodeBehind_170 ?_
                refine c_iload (j := 0) C dX4_nodeBehind_171 rfl ?_
                refine c_iadd C dX4_nodeBehind_173 ?_
                have up9 := (gf14.mp (by omega) rb22 rq22 (ln rb22 - 1) (by omega)).1
                exact c_iret C dX4_nodeBehind_174 rfl (by decide) (rom0 hph hph (by decide)) ⟨(((dq1 + ((ln rb22 : Nat) : Int)) * 4) + zz10), rfl, rfl, rfl, rfl, rfl, rfl, ⟨by omega, by omega⟩, (by rw [← hdq1]; exact Or.inr ⟨GD.mk1 (by omega) (Or.inr ⟨fun q => absurd (hb1zz7.mp q) (by omega), exf13⟩) (gf14.mp (by omega)) (Or.inr (gf15.mp (by omega))), by omega⟩)⟩
            · refine c_iconst C dX4_nodeBehind_97 ?_
              exact c_iret C dX4_nodeBehind_98 rfl (by decide) (rom0 hph hph (by decide)) ⟨(-1), rfl, rfl, rfl, rfl, rfl, rfl, ⟨by decide, by decide⟩, (by rw [← hdq1]; exact Or.inl ⟨rfl, GD.no1 (by omega) (Or.inr ⟨fun q => absurd (hb1zz7.mp q) (by omega), exf13⟩) (fun _ q => q.elim (fun q => absurd (hb2zz1.mp q) (by omega)) (fun q2 => absurd (gf15.mpr q2) (by omega)))⟩)⟩
    · refine c_iload (j := 0) C dX4_nodeBehind_21 rfl ?_
      refine c_if_ne (tgt := 35) C ⟨by decide, by decide⟩ dX4_nodeBehind_23 (by decide) (fun _ => ?_) (fun z => absurd z (by omega))
      refine c_iconst C dX4_nodeBehind_35 ?_
      refine c_goto (tgt := 44) C dX4_nodeBehind_36 (by decide) ?_
      exact c_iret C dX4_nodeBehind_44 rfl (by decide) (rom0 hph hph (by decide)) ⟨(-1), rfl, rfl, rfl, rfl, rfl, rfl, ⟨by decide, by decide⟩, (by rw [← hdq1]; exact Or.inl ⟨rfl, GD.no0 (by omega) (fun q _ => (fun q => absurd (hb2zz1.mp q) (by omega)) q)⟩)⟩
set_option maxHeartbeats 4000000 in
set_option maxRecDepth 100000 in
theorem C_nextChoice {l : Launch} {G : GT} {mi : Nat} {sk : Nat → Nat} {L : List Nat} {cl ln : Nat → Nat} {iv : Nat → Nat → Int} {rv : Nat → Nat → Option Nat}  {a0 : Nat} {i : Int} {x : Int} (hW : WT (g0 G) sk L cl ln iv rv) (hS : SKL sk L cl) (t_a0 : ty L cl a0 17) (h_i : -2147483648 ≤ i ∧ i ≤ 2147483647) (h_x : -2147483648 ≤ x ∧ x ≤ 2147483647) (hi : 0 ≤ i ∧ i ≤ 403 ∧ 0 ≤ x) : Mc l G mi (Phi (g0 G) sk) PHM yX4_nextChoice cX4_nextChoice 6 (some .int) 4 [.ref a0, .int (iI i), .int (iI x)] L cl ln iv rv 0 (fun v L2 cl2 ln2 iv2 rv2 => ∃ f : Int, v = some (.int (iI f)) ∧ L = L2 ∧ cl = cl2 ∧ ln = ln2 ∧ iv = iv2 ∧ rv = rv2 ∧ (-2147483648 ≤ f ∧ f ≤ 2147483647) ∧ (f = -1 ∨ (x ≤ f ∧ VL sk iv i f ∧ GD sk ln iv rv a0 i (i / 4) f))) := by
  refine Mc.mk (by decide) (Nat.le_of_ble_eq_true rfl) ?_
  intro p e s m args below meth c A C hM
  refine hv7 (Phi.le hW hS) (show ty L cl (sk 11) 11 from ⟨(hS 11 rfl).1, by rw [(hS 11 rfl).2]; rfl⟩) (show ty L cl (sk 16) 16 from ⟨(hS 16 rfl).1, by rw [(hS 16 rfl).2]; rfl⟩) (show ty L cl (sk 24) 24 from ⟨(hS 24 rfl).1, by rw [(hS 24 rfl).2]; rfl⟩) (show ty L cl (sk 25) 25 from ⟨(hS 25 rfl).1, by rw [(hS 25 rfl).2]; rfl⟩) (show XT L cl ln L cl ln from XT.refl) (show fT [] L cl iv rv iv rv from fT.refl) (fun hph tsk11 tsk16 tsk24 tsk25 hX0 hF0 => ?_)
  refine c_aload_n (j := 0) (x := a0) C dX4_nextChoice_0 rfl ?_
  obtain ⟨rb1, rq1, trb1⟩ := hW.ref t_a0 7 rfl rfl rfl
  have erb1 := hW.sk trb1 (by decide) rfl
  subst erb1
  refine c_getr (k := 7) C ck_5 dX4_nextChoice_1 w1_238 (by decide) t_a0 rfl rfl (by decide) rfl rq1 ?_
  refine c_st (st2 := [.ref (sk 16)]) rfl ?_
  refine c_iload_n (j := 1) C dX4_nextChoice_4 rfl ?_
  refine c_iconst C dX4_nextChoice_5 ?_
  obtain ⟨zz1, hzz1, ezz1⟩ := iI_of (iI i &&& iI 1)
  refine c_iand (w := iI zz1) C dX4_nextChoice_6 ezz1 ?_
  have hb1zz1 := bz_iff ezz1 hzz1
  refine c_if_eq (tgt := 14) C ⟨by omega, by omega⟩ dX4_nextChoice_7 (by decide) (fun c1 => ?_) (fun c1 => ?_)
  · refine c_iconst C dX4_nextChoice_14 ?_
    refine d_callV (As := [.int (iI 0)]) (rest := []) C hM (C_rowsOf (a0 := (sk 16)) (g := 0) hW hS tsk16 ⟨by decide, by decide⟩ ) dX4_nextChoice_15 kV_X4_95 rfl tsk16 rfl rfl (by decide) ck_4 rfl (Nat.le_of_ble_eq_true rfl) ⟨(Nat.le_of_ble_eq_true rfl), (Nat.le_of_ble_eq_true rfl)⟩ hph hph (show 0 + 0 = 0 from rfl) (by decide) (fun rh1 Lh1 clh1 lnh1 ivh1 rvh1 h1 => ?_)
    obtain ⟨f1, rfl, rfl, rfl, rfl, rfl, rfl, rgf1, exf1⟩ := h1
    refine c_st (st2 := [.ref f1]) rfl ?_
    rcases exf1 with exf1 | exf1
    · obtain ⟨hf1, rfl⟩ := exf1
      refine c_st (st2 := [.ref (sk 24)]) rfl ?_
      have ri1 : 0 ≤ iv (sk 24) 2 ∧ iv (sk 24) 2 ≤ 6003 := hW.int tsk24 2
      refine d_callV (As := []) (rest := []) C hM (C_size_24 (a0 := (sk 24)) hW hS tsk24  ) dX4_nextChoice_18 kV_X4_101 rfl tsk24 rfl rfl (by decide) ck_0 rfl (Nat.le_of_ble_eq_true rfl) ⟨(Nat.le_of_ble_eq_true rfl), (Nat.le_of_ble_eq_true rfl)⟩ hph hph (show 0 + 0 = 0 from rfl) (by decide) (fun rh2 Lh2 clh2 lnh2 ivh2 rvh2 h2 => ?_)
      obtain ⟨f2, rfl, rfl, rfl, rfl, rfl, rfl, rgf2, exf2⟩ := h2
      refine c_st (st2 := [.int (iI f2)]) rfl ?_
      have gf2 : f2 = iv (sk 24) 2 := exf2
      refine c_istore_n (lv2 := [(3, .int (iI f2)), (0, .ref a0), (1, .int (iI i)), (2, .int (iI x))]) C dX4_nextChoice_21 (by decide) rfl ?_
      refine c_iload_n (j := 3) C dX4_nextChoice_22 rfl ?_
      refine c_istore (lv2 := [(4, .int (iI x)), (3, .int (iI f2)), (0, .ref a0), (1, .int (iI i)), (2, .int (iI x))]) C dX4_nextChoice_23 (by decide) rfl ?_
      have Lp1 : ∀ (nn : Nat) (k : Int) , max 0 (6004 - k) < (nn : Int) → (x ≤ k ∧ k ≤ 2147483647) → cw p l e 4 ((PHM) + 0 - ((Phi (g0 G) sk) ln rv)) s m args below meth c G A 6 (MQ below (Qu G A (Qp G (Phi (g0 G) sk) ((Phi (g0 G) sk) ln rv) 0 (fun v L2 cl2 ln2 iv2 rv2 => ∃ f : Int, v = some (.int (iI f)) ∧ L = L2 ∧ cl = cl2 ∧ ln = ln2 ∧ iv = iv2 ∧ rv = rv2 ∧ (-2147483648 ≤ f ∧ f ≤ 2147483647) ∧ (f = -1 ∨ (x ≤ f ∧ VL sk iv i f ∧ GD sk ln iv rv a0 i (i / 4) f))))) args s (((PHM) + 0 - ((Phi (g0 G) sk) ln rv)) / 16) ((PHM) + 0 - ((Phi (g0 G) sk) ln rv)) A) (Phi (g0 G) sk) ((Phi (g0 G) sk) ln rv) L cl ln iv rv 0 25 [(4, .int (iI k)), (3, .int (iI f2)), (0, .ref a0), (1, .int (iI i)), (2, .int (iI x))] [] := by
        intro nn
        induction nn with
        | zero =>
          intro  k  hm   hk
          exact absurd hm (by omega)
        | succ nn ih1 =>
          intro  k  hm   hk
          refine c_iload (j := 0) C dX4_nextChoice_25 rfl ?_
          refine c_iload_n (j := 1) C dX4_nextChoice_27 rfl ?_
          refine c_icmp_gt (tgt := 64) C ⟨by omega, by omega⟩ ⟨by omega, by omega⟩ dX4_nextChoice_28 (by decide) (fun c2 => ?_) (fun c2 => ?_)
          · refine c_iconst C dX4_nextChoice_64 ?_
            exact c_iret C dX4_nextChoice_65 rfl (by decide) (rom0 hph hph (by decide)) ⟨(-1), rfl, rfl, rfl, rfl, rfl, rfl, ⟨by decide, by decide⟩, (Or.inl rfl)⟩
          · refine c_aload_n (j := 2) (x := a0) C dX4_nextChoice_31 rfl ?_
            refine c_iload_n (j := 3) C dX4_nextChoice_32 rfl ?_
            refine c_iload (j := 0) C dX4_nextChoice_33 rfl ?_
            have ri2 : 0 ≤ iv a0 9 ∧ iv a0 9 ≤ 100 := hW.int t_a0 9
            refine d_callV (As := [.int (iI i), .int (iI k)]) (rest := []) C hM (C_nodeBehind (a0 := a0) (i := i) (x := k) hW hS t_a0 (by omega) (by omega) (by show 0 ≤ i ∧ i ≤ 403; omega) (Or.inr (Or.inl ⟨hb1zz1.mpr (by omega), by omega⟩))) dX4_nextChoice_35 kV_X4_92 rfl t_a0 rfl rfl (by decide) ck_5 rfl (Nat.le_of_ble_eq_true rfl) ⟨(Nat.le_of_ble_eq_true rfl), (Nat.le_of_ble_eq_true rfl)⟩ hph hph (show 0 + 0 = 0 from rfl) (by decide) (fun rh3 Lh3 clh3 lnh3 ivh3 rvh3 h3 => ?_)
            obtain ⟨f3, rfl, rfl, rfl, rfl, rfl, rfl, rgf3, exf3⟩ := h3
            refine c_st (st2 := [.int (iI f3)]) rfl ?_
            refine hv2 (show (f3 = -1 ∧ ¬ GD sk ln iv rv a0 i (i / 4) k) ∨ (GD sk ln iv rv a0 i (i / 4) k ∧ 4 * (i / 4) + 4 ≤ f3 ∧ f3 ≤ 4 * iv a0 9 + 3) from exf3) (show f3 = -1 ∨ (4 * (i / 4) + 4 ≤ f3 ∧ f3 ≤ 4 * iv a0 9 + 3) from exf3.elim (fun q => Or.inl q.1) (fun q => Or.inr q.2)) (fun gf3 nqf3 => ?_)
            refine c_istore (lv2 := [(5, .int (iI f3)), (4, .int (iI k)), (3, .int (iI f2)), (0, .ref a0), (1, .int (iI i)), (2, .int (iI x))]) C dX4_nextChoice_38 (by decide) rfl ?_
            refine c_iload (j := 0) C dX4_nextChoice_40 rfl ?_
            refine c_if_lt (tgt := 58) C ⟨by omega, by omega⟩ dX4_nextChoice_42 (by decide) (fun c3 => ?_) (fun c3 => ?_)
            · refine c_iinc (z := k) (j := 1) (lv2 := [(4, .int (iI (k + 1))), (5, .int (iI f3)), (3, .int (iI f2)), (0, .ref a0), (1, .int (iI i)), (2, .int (iI x))]) C dX4_nextChoice_58 rfl (by decide) rfl ?_
              refine c_goto (tgt := 25) C dX4_nextChoice_61 (by decide) ?_
              refine c_lv (lv2 := [(4, .int (iI (k + 1))), (3, .int (iI f2)), (0, .ref a0), (1, .int (iI i)), (2, .int (iI x))]) [0, 2, 3, 4, 5] rfl ?_
              exact ih1  (k + 1)  (by omega)   (by omega)
            · refine c_aload_n (j := 3) (x := a0) C dX4_nextChoice_45 rfl ?_
              obtain ⟨rb2, rq2, trb2⟩ := hW.ref t_a0 0 rfl rfl rfl
              have lnrb2 : 404 ≤ ln rb2 ∧ ln rb2 ≤ 404 := hW.len trb2 rfl
              refine c_getr (k := 0) C ck_5 dX4_nextChoice_46 w1_229 (by decide) t_a0 rfl rfl (by decide) rfl rq2 ?_
              refine c_st (st2 := [.ref rb2]) rfl ?_
              refine c_iload (j := 0) C dX4_nextChoice_49 rfl ?_
              have ll1 : 404 ≤ ln rb2 ∧ ln rb2 ≤ 404 := hW.len trb2 rfl
              refine c_zald C dX4_nextChoice_51 trb2 rfl (by omega) (by omega) (by omega) ?_
              have ri3 : 0 ≤ iv rb2 f3.toNat ∧ iv rb2 f3.toNat ≤ 1 := hW.int trb2 f3.toNat
              refine c_if_eq (tgt := 58) C (r32_c (lo := 0) (hi := 1) ri3.1 ri3.2 (by decide) (by decide)) dX4_nextChoice_52 (by decide) (fun c4 => ?_) (fun c4 => ?_)
              · refine c_iinc (z := k) (j := 1) (lv2 := [(4, .int (iI (k + 1))), (5, .int (iI f3)), (3, .int (iI f2)), (0, .ref a0), (1, .int (iI i)), (2, .int (iI x))]) C dX4_nextChoice_58 rfl (by decide) rfl ?_
                refine c_goto (tgt := 25) C dX4_nextChoice_61 (by decide) ?_
                refine c_lv (lv2 := [(4, .int (iI (k + 1))), (3, .int (iI f2)), (0, .ref a0), (1, .int (iI i)), (2, .int (iI x))]) [0, 2, 3, 4, 5] rfl ?_
                exact ih1  (k + 1)  (by omega)   (by omega)
              · refine c_iload (j := 1) C dX4_nextChoice_55 rfl ?_
                exact c_iret C dX4_nextChoice_57 rfl (by decide) (rom0 hph hph (by decide)) ⟨k, rfl, rfl, rfl, rfl, rfl, rfl, ⟨by omega, by omega⟩, (Or.inr ⟨by omega, (Or.inr (Or.inl ⟨hb1zz1.mpr (by omega), by omega⟩)), (gf3.resolve_left (fun q => absurd q.1 (by omega))).1⟩)⟩
      refine c_lv (lv2 := [(4, .int (iI x)), (3, .int (iI f2)), (0, .ref a0), (1, .int (iI i)), (2, .int (iI x))]) [0, 1, 2, 3, 4] rfl ?_
      exact Lp1 6006 x  (by omega)   (by omega)
    · exact absurd exf1.1 (by decide)
  · refine c_iconst C dX4_nextChoice_10 ?_
    refine c_goto (tgt := 15) C dX4_nextChoice_11 (by decide) ?_
    refine d_callV (As := [.int (iI 1)]) (rest := []) C hM (C_rowsOf (a0 := (sk 16)) (g := 1) hW hS tsk16 ⟨by decide, by decide⟩ ) dX4_nextChoice_15 kV_X4_95 rfl tsk16 rfl rfl (by decide) ck_4 rfl (Nat.le_of_ble_eq_true rfl) ⟨(Nat.le_of_ble_eq_true rfl), (Nat.le_of_ble_eq_true rfl)⟩ hph hph (show 0 + 0 = 0 from rfl) (by decide) (fun rh4 Lh4 clh4 lnh4 ivh4 rvh4 h4 => ?_)
    obtain ⟨f4, rfl, rfl, rfl, rfl, rfl, rfl, rgf4, exf4⟩ := h4
    refine c_st (st2 := [.ref f4]) rfl ?_
    rcases exf4 with exf4 | exf4
    · exact absurd exf4.1 (by decide)
    · obtain ⟨hf4, rfl⟩ := exf4
      refine c_st (st2 := [.ref (sk 25)]) rfl ?_
      have ri4 : 0 ≤ iv (sk 25) 2 ∧ iv (sk 25) 2 ≤ 6003 := hW.int tsk25 2
      refine d_callV (As := []) (rest := []) C hM (C_size_25 (a0 := (sk 25)) hW hS tsk25  ) dX4_nextChoice_18 kV_X4_101 rfl tsk25 rfl rfl (by decide) ck_0 rfl (Nat.le_of_ble_eq_true rfl) ⟨(Nat.le_of_ble_eq_true rfl), (Nat.le_of_ble_eq_true rfl)⟩ hph hph (show 0 + 0 = 0 from rfl) (by decide) (fun rh5 Lh5 clh5 lnh5 ivh5 rvh5 h5 => ?_)
      obtain ⟨f5, rfl, rfl, rfl, rfl, rfl, rfl, rgf5, exf5⟩ := h5
      refine c_st (st2 := [.int (iI f5)]) rfl ?_
      have gf5 : f5 = iv (sk 25) 2 := exf5
      refine c_istore_n (lv2 := [(3, .int (iI f5)), (0, .ref a0), (1, .int (iI i)), (2, .int (iI x))]) C dX4_nextChoice_21 (by decide) rfl ?_
      refine c_iload_n (j := 3) C dX4_nextChoice_22 rfl ?_
      refine c_istore (lv2 := [(4, .int (iI x)), (3, .int (iI f5)), (0, .ref a0), (1, .int (iI i)), (2, .int (iI x))]) C dX4_nextChoice_23 (by decide) rfl ?_
      have Lp2 : ∀ (nn : Nat) (k : Int) , max 0 (6004 - k) < (nn : Int) → (x ≤ k ∧ k ≤ 2147483647) → cw p l e 4 ((PHM) + 0 - ((Phi (g0 G) sk) ln rv)) s m args below meth c G A 6 (MQ below (Qu G A (Qp G (Phi (g0 G) sk) ((Phi (g0 G) sk) ln rv) 0 (fun v L2 cl2 ln2 iv2 rv2 => ∃ f : Int, v = some (.int (iI f)) ∧ L = L2 ∧ cl = cl2 ∧ ln = ln2 ∧ iv = iv2 ∧ rv = rv2 ∧ (-2147483648 ≤ f ∧ f ≤ 2147483647) ∧ (f = -1 ∨ (x ≤ f ∧ VL sk iv i f ∧ GD sk ln iv rv a0 i (i / 4) f))))) args s (((PHM) + 0 - ((Phi (g0 G) sk) ln rv)) / 16) ((PHM) + 0 - ((Phi (g0 G) sk) ln rv)) A) (Phi (g0 G) sk) ((Phi (g0 G) sk) ln rv) L cl ln iv rv 0 25 [(4, .int (iI k)), (3, .int (iI f5)), (0, .ref a0), (1, .int (iI i)), (2, .int (iI x))] [] := by
        intro nn
        induction nn with
        | zero =>
          intro  k  hm   hk
          exact absurd hm (by omega)
        | succ nn ih2 =>
          intro  k  hm   hk
          refine c_iload (j := 0) C dX4_nextChoice_25 rfl ?_
          refine c_iload_n (j := 1) C dX4_nextChoice_27 rfl ?_
          refine c_icmp_gt (tgt := 64) C ⟨by omega, by omega⟩ ⟨by omega, by omega⟩ dX4_nextChoice_28 (by decide) (fun c5 => ?_) (fun c5 => ?_)
          · refine c_iconst C dX4_nextChoice_64 ?_
            exact c_iret C dX4_nextChoice_65 rfl (by decide) (rom0 hph hph (by decide)) ⟨(-1), rfl, rfl, rfl, rfl, rfl, rfl, ⟨by decide, by decide⟩, (Or.inl rfl)⟩
          · refine c_aload_n (j := 2) (x := a0) C dX4_nextChoice_31 rfl ?_
            refine c_iload_n (j := 3) C dX4_nextChoice_32 rfl ?_
            refine c_iload (j := 0) C dX4_nextChoice_33 rfl ?_
            have ri5 : 0 ≤ iv a0 9 ∧ iv a0 9 ≤ 100 := hW.int t_a0 9
            refine d_callV (As := [.int (iI i), .int (iI k)]) (rest := []) C hM (C_nodeBehind (a0 := a0) (i := i) (x := k) hW hS t_a0 (by omega) (by omega) (by show 0 ≤ i ∧ i ≤ 403; omega) (Or.inr (Or.inr ⟨fun q => absurd (hb1zz1.mp q) (by omega), by omega⟩))) dX4_nextChoice_35 kV_X4_92 rfl t_a0 rfl rfl (by decide) ck_5 rfl (Nat.le_of_ble_eq_true rfl) ⟨(Nat.le_of_ble_eq_true rfl), (Nat.le_of_ble_eq_true rfl)⟩ hph hph (show 0 + 0 = 0 from rfl) (by decide) (fun rh6 Lh6 clh6 lnh6 ivh6 rvh6 h6 => ?_)
            obtain ⟨f6, rfl, rfl, rfl, rfl, rfl, rfl, rgf6, exf6⟩ := h6
            refine c_st (st2 := [.int (iI f6)]) rfl ?_
            refine hv2 (show (f6 = -1 ∧ ¬ GD sk ln iv rv a0 i (i / 4) k) ∨ (GD sk ln iv rv a0 i (i / 4) k ∧ 4 * (i / 4) + 4 ≤ f6 ∧ f6 ≤ 4 * iv a0 9 + 3) from exf6) (show f6 = -1 ∨ (4 * (i / 4) + 4 ≤ f6 ∧ f6 ≤ 4 * iv a0 9 + 3) from exf6.elim (fun q => Or.inl q.1) (fun q => Or.inr q.2)) (fun gf6 nqf6 => ?_)
            refine c_istore (lv2 := [(5, .int (iI f6)), (4, .int (iI k)), (3, .int (iI f5)), (0, .ref a0), (1, .int (iI i)), (2, .int (iI x))]) C dX4_nextChoice_38 (by decide) rfl ?_
            refine c_iload (j := 0) C dX4_nextChoice_40 rfl ?_
            refine c_if_lt (tgt := 58) C ⟨by omega, by omega⟩ dX4_nextChoice_42 (by decide) (fun c6 => ?_) (fun c6 => ?_)
            · refine c_iinc (z := k) (j := 1) (lv2 := [(4, .int (iI (k + 1))), (5, .int (iI f6)), (3, .int (iI f5)), (0, .ref a0), (1, .int (iI i)), (2, .int (iI x))]) C dX4_nextChoice_58 rfl (by decide) rfl ?_
              refine c_goto (tgt := 25) C dX4_nextChoice_61 (by decide) ?_
              refine c_lv (lv2 := [(4, .int (iI (k + 1))), (3, .int (iI f5)), (0, .ref a0), (1, .int (iI i)), (2, .int (iI x))]) [0, 2, 3, 4, 5] rfl ?_
              exact ih2  (k + 1)  (by omega)   (by omega)
            · refine c_aload_n (j := 3) (x := a0) C dX4_nextChoice_45 rfl ?_
              obtain ⟨rb3, rq3, trb3⟩ := hW.ref t_a0 0 rfl rfl rfl
              have lnrb3 : 404 ≤ ln rb3 ∧ ln rb3 ≤ 404 := hW.len trb3 rfl
              refine c_getr (k := 0) C ck_5 dX4_nextChoice_46 w1_229 (by decide) t_a0 rfl rfl (by decide) rfl rq3 ?_
              refine c_st (st2 := [.ref rb3]) rfl ?_
              refine c_iload (j := 0) C dX4_nextChoice_49 rfl ?_
              have ll2 : 404 ≤ ln rb3 ∧ ln rb3 ≤ 404 := hW.len trb3 rfl
              refine c_zald C dX4_nextChoice_51 trb3 rfl (by omega) (by omega) (by omega) ?_
              have ri6 : 0 ≤ iv rb3 f6.toNat ∧ iv rb3 f6.toNat ≤ 1 := hW.int trb3 f6.toNat
              refine c_if_eq (tgt := 58) C (r32_c (lo := 0) (hi := 1) ri6.1 ri6.2 (by decide) (by decide)) dX4_nextChoice_52 (by decide) (fun c7 => ?_) (fun c7 => ?_)
              · refine c_iinc (z := k) (j := 1) (lv2 := [(4, .int (iI (k + 1))), (5, .int (iI f6)), (3, .int (iI f5)), (0, .ref a0), (1, .int (iI i)), (2, .int (iI x))]) C dX4_nextChoice_58 rfl (by decide) rfl ?_
                refine c_goto (tgt := 25) C dX4_nextChoice_61 (by decide) ?_
                refine c_lv (lv2 := [(4, .int (iI (k + 1))), (3, .int (iI f5)), (0, .ref a0), (1, .int (iI i)), (2, .int (iI x))]) [0, 2, 3, 4, 5] rfl ?_
                exact ih2  (k + 1)  (by omega)   (by omega)
              · refine c_iload (j := 1) C dX4_nextChoice_55 rfl ?_
                exact c_iret C dX4_nextChoice_57 rfl (by decide) (rom0 hph hph (by decide)) ⟨k, rfl, rfl, rfl, rfl, rfl, rfl, ⟨by omega, by omega⟩, (Or.inr ⟨by omega, (Or.inr (Or.inr ⟨fun q => absurd (hb1zz1.mp q) (by omega), by omega⟩)), (gf6.resolve_left (fun q => absurd q.1 (by omega))).1⟩)⟩
      refine c_lv (lv2 := [(4, .int (iI x)), (3, .int (iI f5)), (0, .ref a0), (1, .int (iI i)), (2, .int (iI x))]) [0, 1, 2, 3, 4] rfl ?_
      exact Lp2 6006 x  (by omega)   (by omega)
end
section
set_option maxHeartbeats 4000000 in
set_option maxRecDepth 100000 in
theorem C_byteOf {l : Launch} {G : GT} {mi : Nat} {sk : Nat → Nat} {L : List Nat} {cl ln : Nat → Nat} {iv : Nat → Nat → Int} {rv : Nat → Nat → Option Nat}  {a0 : Nat} {i : Int} {j : Int} (hW : WT (g0 G) sk L cl ln iv rv) (hS : SKL sk L cl) (t_a0 : ty L cl a0 17) (h_i : -2147483648 ≤ i ∧ i ≤ 2147483647) (h_j : -2147483648 ≤ j ∧ j ≤ 2147483647)  : Mc l G mi (Phi (g0 G) sk) PHM yX4_byteOf cX4_byteOf 4 (some .int) 1 [.ref a0, .int (iI i), .int (iI j)] L cl ln iv rv 0 (fun v L2 cl2 ln2 iv2 rv2 => ∃ f : Int, v = some (.int (iI f)) ∧ L = L2 ∧ cl = cl2 ∧ ln = ln2 ∧ iv = iv2 ∧ rv = rv2 ∧ (-2147483648 ≤ f ∧ f ≤ 2147483647) ∧ (True)) := by
  refine Mc.mk (by decide) (Nat.le_of_ble_eq_true rfl) ?_
  intro p e s m args below meth c A C hM
  refine hv7 (Phi.le hW hS) (show ty L cl (sk 11) 11 from ⟨(hS 11 rfl).1, by rw [(hS 11 rfl).2]; rfl⟩) (show ty L cl (sk 16) 16 from ⟨(hS 16 rfl).1, by rw [(hS 16 rfl).2]; rfl⟩) (show ty L cl (sk 24) 24 from ⟨(hS 24 rfl).1, by rw [(hS 24 rfl).2]; rfl⟩) (show ty L cl (sk 25) 25 from ⟨(hS 25 rfl).1, by rw [(hS 25 rfl).2]; rfl⟩) (show XT L cl ln L cl ln from XT.refl) (show fT [] L cl iv rv iv rv from fT.refl) (fun hph tsk11 tsk16 tsk24 tsk25 hX0 hF0 => ?_)
  refine c_iload_n (j := 1) C dX4_byteOf_0 rfl ?_
  refine c_if_lt (tgt := 12) C ⟨by omega, by omega⟩ dX4_byteOf_1 (by decide) (fun c1 => ?_) (fun c1 => ?_)
  · refine c_iconst C dX4_byteOf_12 ?_
    exact c_iret C dX4_byteOf_13 rfl (by decide) (rom0 hph hph (by decide)) ⟨(-1), rfl, rfl, rfl, rfl, rfl, rfl, ⟨by decide, by decide⟩, trivial⟩
  · refine c_iload_n (j := 1) C dX4_byteOf_4 rfl ?_
    refine c_aload_n (j := 0) (x := a0) C dX4_byteOf_5 rfl ?_
    have ri1 : 0 ≤ iv a0 5 ∧ iv a0 5 ≤ 50 := hW.int t_a0 5
    refine c_get (k := 5) C ck_5 dX4_byteOf_6 w1_234 (by decide) t_a0 rfl rfl (by decide) rfl ?_
    refine c_icmp_lt (tgt := 14) C ⟨by omega, by omega⟩ (r32_c (lo := 0) (hi := 50) ri1.1 ri1.2 (by decide) (by decide)) dX4_byteOf_9 (by decide) (fun c2 => ?_) (fun c2 => ?_)
    · refine c_iload_n (j := 1) C dX4_byteOf_14 rfl ?_
      refine c_if_ne (tgt := 22) C ⟨by omega, by omega⟩ dX4_byteOf_15 (by decide) (fun c3 => ?_) (fun c3 => ?_)
      · refine c_aload_n (j := 0) (x := a0) C dX4_byteOf_22 rfl ?_
        obtain ⟨rb1, rq1, trb1⟩ := hW.ref t_a0 3 rfl rfl rfl
        have lnrb1 : 50 ≤ ln rb1 ∧ ln rb1 ≤ 50 := hW.len trb1 rfl
        refine c_getr (k := 3) C ck_5 dX4_byteOf_23 w1_232 (by decide) t_a0 rfl rfl (by decide) rfl rq1 ?_
        refine c_st (st2 := [.ref rb1]) rfl ?_
        refine c_iload_n (j := 1) C dX4_byteOf_26 rfl ?_
        refine c_iconst C dX4_byteOf_27 ?_
        refine c_isub C dX4_byteOf_28 ?_
        have ll1 : 50 ≤ ln rb1 ∧ ln rb1 ≤ 50 := hW.len trb1 rfl
        refine c_iald C dX4_byteOf_29 trb1 rfl (by omega) (by omega) (by omega) ?_
        have ri2 : (-2147483648) ≤ iv rb1 ((i - 1).toNat) ∧ iv rb1 ((i - 1).toNat) ≤ 2147483647 := hW.int trb1 ((i - 1).toNat)
        refine c_istore_n (lv2 := [(3, .int (iI (iv rb1 (i - 1).toNat))), (0, .ref a0), (1, .int (iI i)), (2, .int (iI j))]) C dX4_byteOf_30 (by decide) rfl ?_
        refine c_iload_n (j := 3) C dX4_byteOf_31 rfl ?_
        refine c_if_lt (tgt := 47) C ⟨by omega, by omega⟩ dX4_byteOf_32 (by decide) (fun c4 => ?_) (fun c4 => ?_)
        · refine c_iconst C dX4_byteOf_47 ?_
          refine c_goto (tgt := 61) C dX4_byteOf_48 (by decide) ?_
          exact c_iret C dX4_byteOf_61 rfl (by decide) (rom0 hph hph (by decide)) ⟨(-1), rfl, rfl, rfl, rfl, rfl, rfl, ⟨by decide, by decide⟩, trivial⟩
        · refine c_iload_n (j := 3) C dX4_byteOf_35 rfl ?_
          refine c_aload_n (j := 1) (x := a0) C dX4_byteOf_36 rfl ?_
          refine c_getr (k := 3) C ck_5 dX4_byteOf_37 w1_232 (by decide) t_a0 rfl rfl (by decide) rfl rq1 ?_
          refine c_st (st2 := [.ref rb1, .int (iI j)]) rfl ?_
          refine c_iload_n (j := 2) C dX4_byteOf_40 rfl ?_
          refine c_iald C dX4_byteOf_41 trb1 rfl (by omega) (by omega) (by omega) ?_
          have ri3 : (-2147483648) ≤ iv rb1 i.toNat ∧ iv rb1 i.toNat ≤ 2147483647 := hW.int trb1 i.toNat
          refine c_iload_n (j := 0) C dX4_byteOf_42 rfl ?_
          refine c_isub C dX4_byteOf_43 ?_
          obtain ⟨zz1, hzz1, ezz1⟩ := iI_of (iI ((iv rb1 i.toNat) - (iv rb1 (i - 1).toNat)))
          refine c_st (st2 := [.int (iI zz1), .int (iI j)]) (by rw [ezz1]) ?_
          refine c_icmp_lt (tgt := 51) C ⟨by omega, by omega⟩ ⟨by omega, by omega⟩ dX4_byteOf_44 (by decide) (fun c5 => ?_) (fun c5 => ?_)
          · refine c_aload_n (j := 1) (x := a0) C dX4_byteOf_51 rfl ?_
            obtain ⟨rb2, rq2, trb2⟩ := hW.ref t_a0 4 rfl rfl rfl
            have erb2 := hW.sk trb2 (by decide) rfl
            subst erb2
            refine c_getr (k := 4) C ck_5 dX4_byteOf_52 w1_233 (by decide) t_a0 rfl rfl (by decide) rfl rq2 ?_
            refine c_st (st2 := [.ref (sk 11)]) rfl ?_
            refine c_iload_n (j := 0) C dX4_byteOf_55 rfl ?_
            refine c_iload_n (j := 3) C dX4_byteOf_56 rfl ?_
            refine c_iadd C dX4_byteOf_57 ?_
            obtain ⟨zz2, hzz2, ezz2⟩ := iI_of (iI ((iv rb1 (i - 1).toNat) + j))
            refine c_st (st2 := [.int (iI zz2), .ref (sk 11)]) (by rw [ezz2]) ?_
            have ri4 : 0 ≤ iv (sk 11) 2 ∧ iv (sk 11) 2 ≤ 40000 := hW.int tsk11 2
            refine d_callV (As := [.int (iI zz2)]) (rest := []) C hM (C_at_11 (a0 := (sk 11)) (i := zz2) hW hS tsk11 (by omega) ) dX4_byteOf_58 kV_X4_56 rfl tsk11 rfl rfl (by decide) ck_2 rfl (Nat.le_of_ble_eq_true rfl) ⟨(Nat.le_of_ble_eq_true rfl), (Nat.le_of_ble_eq_true rfl)⟩ hph hph (show 0 + 0 = 0 from rfl) (by decide) (fun rh1 Lh1 clh1 lnh1 ivh1 rvh1 h1 => ?_)
            obtain ⟨f1, rfl, rfl, rfl, rfl, rfl, rfl, rgf1, exf1⟩ := h1
            refine c_st (st2 := [.int (iI f1)]) rfl ?_
            have gf1 : ((0 ≤ zz2 ∧ zz2 < iv (sk 11) 2) ∨ f1 = 0) ∧ ∀ ss, CT iv rv (sk 11) ss → 0 ≤ zz2 → zz2 < iv (sk 11) 2 → f1 = ss zz2.toNat := exf1
            exact c_iret C dX4_byteOf_61 rfl (by decide) (rom0 hph hph (by decide)) ⟨f1, rfl, rfl, rfl, rfl, rfl, rfl, ⟨by omega, by omega⟩, trivial⟩
          · refine c_iconst C dX4_byteOf_47 ?_
            refine c_goto (tgt := 61) C dX4_byteOf_48 (by decide) ?_
            exact c_iret C dX4_byteOf_61 rfl (by decide) (rom0 hph hph (by decide)) ⟨(-1), rfl, rfl, rfl, rfl, rfl, rfl, ⟨by decide, by decide⟩, trivial⟩
      · refine c_iconst C dX4_byteOf_18 ?_
        refine c_goto (tgt := 30) C dX4_byteOf_19 (by decide) ?_
        refine c_istore_n (lv2 := [(3, .int (iI 0)), (0, .ref a0), (1, .int (iI i)), (2, .int (iI j))]) C dX4_byteOf_30 (by decide) rfl ?_
        refine c_iload_n (j := 3) C dX4_byteOf_31 rfl ?_
        refine c_if_lt (tgt := 47) C ⟨by omega, by omega⟩ dX4_byteOf_32 (by decide) (fun c6 => ?_) (fun c6 => ?_)
        · refine c_iconst C dX4_byteOf_47 ?_
          refine c_goto (tgt := 61) C dX4_byteOf_48 (by decide) ?_
          exact c_iret C dX4_byteOf_61 rfl (by decide) (rom0 hph hph (by decide)) ⟨(-1), rfl, rfl, rfl, rfl, rfl, rfl, ⟨by decide, by decide⟩, trivial⟩
        · refine c_iload_n (j := 3) C dX4_byteOf_35 rfl ?_
          refine c_aload_n (j := 1) (x := a0) C dX4_byteOf_36 rfl ?_
          obtain ⟨rb3, rq3, trb3⟩ := hW.ref t_a0 3 rfl rfl rfl
          have lnrb3 : 50 ≤ ln rb3 ∧ ln rb3 ≤ 50 := hW.len trb3 rfl
          refine c_getr (k := 3) C ck_5 dX4_byteOf_37 w1_232 (by decide) t_a0 rfl rfl (by decide) rfl rq3 ?_
          refine c_st (st2 := [.ref rb3, .int (iI j)]) rfl ?_
          refine c_iload_n (j := 2) C dX4_byteOf_40 rfl ?_
          have ll2 : 50 ≤ ln rb3 ∧ ln rb3 ≤ 50 := hW.len trb3 rfl
          refine c_iald C dX4_byteOf_41 trb3 rfl (by omega) (by omega) (by omega) ?_
          have ri5 : (-2147483648) ≤ iv rb3 i.toNat ∧ iv rb3 i.toNat ≤ 2147483647 := hW.int trb3 i.toNat
          refine c_iload_n (j := 0) C dX4_byteOf_42 rfl ?_
          refine c_isub C dX4_byteOf_43 ?_
          obtain ⟨zz3, hzz3, ezz3⟩ := iI_of (iI ((iv rb3 i.toNat) - 0))
          refine c_st (st2 := [.int (iI zz3), .int (iI j)]) (by rw [ezz3]) ?_
          refine c_icmp_lt (tgt := 51) C ⟨by omega, by omega⟩ ⟨by omega, by omega⟩ dX4_byteOf_44 (by decide) (fun c7 => ?_) (fun c7 => ?_)
          · refine c_aload_n (j := 1) (x := a0) C dX4_byteOf_51 rfl ?_
            obtain ⟨rb4, rq4, trb4⟩ := hW.ref t_a0 4 rfl rfl rfl
            have erb4 := hW.sk trb4 (by decide) rfl
            subst erb4
            refine c_getr (k := 4) C ck_5 dX4_byteOf_52 w1_233 (by decide) t_a0 rfl rfl (by decide) rfl rq4 ?_
            refine c_st (st2 := [.ref (sk 11)]) rfl ?_
            refine c_iload_n (j := 0) C dX4_byteOf_55 rfl ?_
            refine c_iload_n (j := 3) C dX4_byteOf_56 rfl ?_
            refine c_iadd C dX4_byteOf_57 ?_
            obtain ⟨zz4, hzz4, ezz4⟩ := iI_of (iI (0 + j))
            refine c_st (st2 := [.int (iI zz4), .ref (sk 11)]) (by rw [ezz4]) ?_
            have ri6 : 0 ≤ iv (sk 11) 2 ∧ iv (sk 11) 2 ≤ 40000 := hW.int tsk11 2
            refine d_callV (As := [.int (iI zz4)]) (rest := []) C hM (C_at_11 (a0 := (sk 11)) (i := zz4) hW hS tsk11 (by omega) ) dX4_byteOf_58 kV_X4_56 rfl tsk11 rfl rfl (by decide) ck_2 rfl (Nat.le_of_ble_eq_true rfl) ⟨(Nat.le_of_ble_eq_true rfl), (Nat.le_of_ble_eq_true rfl)⟩ hph hph (show 0 + 0 = 0 from rfl) (by decide) (fun rh2 Lh2 clh2 lnh2 ivh2 rvh2 h2 => ?_)
            obtain ⟨f2, rfl, rfl, rfl, rfl, rfl, rfl, rgf2, exf2⟩ := h2
            refine c_st (st2 := [.int (iI f2)]) rfl ?_
            have gf2 : ((0 ≤ zz4 ∧ zz4 < iv (sk 11) 2) ∨ f2 = 0) ∧ ∀ ss, CT iv rv (sk 11) ss → 0 ≤ zz4 → zz4 < iv (sk 11) 2 → f2 = ss zz4.toNat := exf2
            exact c_iret C dX4_byteOf_61 rfl (by decide) (rom0 hph hph (by decide)) ⟨f2, rfl, rfl, rfl, rfl, rfl, rfl, ⟨by omega, by omega⟩, trivial⟩
          · refine c_iconst C dX4_byteOf_47 ?_
            refine c_goto (tgt := 61) C dX4_byteOf_48 (by decide) ?_
            exact c_iret C dX4_byteOf_61 rfl (by decide) (rom0 hph hph (by decide)) ⟨(-1), rfl, rfl, rfl, rfl, rfl, rfl, ⟨by decide, by decide⟩, trivial⟩
    · refine c_iconst C dX4_byteOf_12 ?_
      exact c_iret C dX4_byteOf_13 rfl (by decide) (rom0 hph hph (by decide)) ⟨(-1), rfl, rfl, rfl, rfl, rfl, rfl, ⟨by decide, by decide⟩, trivial⟩
set_option maxHeartbeats 4000000 in
set_option maxRecDepth 100000 in
theorem C_markEnds {l : Launch} {G : GT} {mi : Nat} {sk : Nat → Nat} {L : List Nat} {cl ln : Nat → Nat} {iv : Nat → Nat → Int} {rv : Nat → Nat → Option Nat}  {a0 : Nat} (hW : WT (g0 G) sk L cl ln iv rv) (hS : SKL sk L cl) (t_a0 : ty L cl a0 17)  : Mc l G mi (Phi (g0 G) sk) PHM yX4_markEnds cX4_markEnds 2 none 5 [.ref a0] L cl ln iv rv 0 (fun v L2 cl2 ln2 iv2 rv2 => v = none ∧ L = L2 ∧ cl = cl2 ∧ ln = ln2 ∧ rv = rv2 ∧ fT [59] L cl iv rv iv2 rv2 ∧ WT (g0 G) sk L2 cl2 ln2 iv2 rv2 ∧ (True)) := by
  refine Mc.mk (by decide) (Nat.le_of_ble_eq_true rfl) ?_
  intro p e s m args below meth c A C hM
  refine hv7 (Phi.le hW hS) (show ty L cl (sk 11) 11 from ⟨(hS 11 rfl).1, by rw [(hS 11 rfl).2]; rfl⟩) (show ty L cl (sk 16) 16 from ⟨(hS 16 rfl).1, by rw [(hS 16 rfl).2]; rfl⟩) (show ty L cl (sk 24) 24 from ⟨(hS 24 rfl).1, by rw [(hS 24 rfl).2]; rfl⟩) (show ty L cl (sk 25) 25 from ⟨(hS 25 rfl).1, by rw [(hS 25 rfl).2]; rfl⟩) (show XT L cl ln L cl ln from XT.refl) (show fT [59] L cl iv rv iv rv from fT.refl) (fun hph tsk11 tsk16 tsk24 tsk25 hX0 hF0 => ?_)
  refine c_aload_n (j := 0) (x := a0) C dX4_markEnds_0 rfl ?_
  have ri1 : 0 ≤ iv a0 9 ∧ iv a0 9 ≤ 100 := hW.int t_a0 9
  refine c_get (k := 9) C ck_5 dX4_markEnds_1 w2_0 (by decide) t_a0 rfl rfl (by decide) rfl ?_
  refine c_iconst C dX4_markEnds_4 ?_
  refine c_imul C dX4_markEnds_5 ?_
  refine c_iconst C dX4_markEnds_6 ?_
  refine c_iadd C dX4_markEnds_7 ?_
  refine c_istore_n (lv2 := [(1, .int (iI (((iv a0 9) * 4) + 3))), (0, .ref a0)]) C dX4_markEnds_8 (by decide) rfl ?_
  have Lp1 : ∀ (nn : Nat) (k : Int) (ivb1 : Nat → Nat → Int) , k + 2 < (nn : Int) → WT (g0 G) sk L cl ln ivb1 rv → fT [59] L cl iv rv ivb1 rv → (-1 ≤ k ∧ k ≤ 403) → cw p l e 5 ((PHM) + 0 - ((Phi (g0 G) sk) ln rv)) s m args below meth c G A 2 (MQ below (Qu G A (Qp G (Phi (g0 G) sk) ((Phi (g0 G) sk) ln rv) 0 (fun v L2 cl2 ln2 iv2 rv2 => v = none ∧ L = L2 ∧ cl = cl2 ∧ ln = ln2 ∧ rv = rv2 ∧ fT [59] L cl iv rv iv2 rv2 ∧ WT (g0 G) sk L2 cl2 ln2 iv2 rv2 ∧ (True)))) args s (((PHM) + 0 - ((Phi (g0 G) sk) ln rv)) / 16) ((PHM) + 0 - ((Phi (g0 G) sk) ln rv)) A) (Phi (g0 G) sk) ((Phi (g0 G) sk) ln rv) L cl ln ivb1 rv 0 9 [(1, .int (iI k)), (0, .ref a0)] [] := by
    intro nn
    induction nn with
    | zero =>
      intro  k ivb1 hm Wb1 Fb1  hk
      exact absurd hm (by omega)
    | succ nn ih1 =>
      intro  k ivb1 hm Wb1 Fb1  hk
      refine c_iload_n (j := 0) C dX4_markEnds_9 rfl ?_
      refine c_if_lt (tgt := 63) C (r32_c (lo := (-1)) (hi := 403) hk.1 hk.2 (by decide) (by decide)) dX4_markEnds_10 (by decide) (fun c1 => ?_) (fun c1 => ?_)
      · exact c_vret C dX4_markEnds_63 rfl (by decide) (rom0 hph hph (by decide)) ⟨rfl, rfl, rfl, rfl, rfl, Fb1, Wb1, trivial⟩
      · refine c_aload_n (j := 1) (x := a0) C dX4_markEnds_13 rfl ?_
        obtain ⟨rb1, rq1, trb1⟩ := Wb1.ref t_a0 0 rfl rfl rfl
        have lnrb1 : 404 ≤ ln rb1 ∧ ln rb1 ≤ 404 := Wb1.len trb1 rfl
        refine c_getr (k := 0) C ck_5 dX4_markEnds_14 w1_229 (by decide) t_a0 rfl rfl (by decide) rfl rq1 ?_
        refine c_st (st2 := [.ref rb1]) rfl ?_
        refine c_iload_n (j := 0) C dX4_markEnds_17 rfl ?_
        refine c_iload_n (j := 0) C dX4_markEnds_18 rfl ?_
        refine c_aload_n (j := 1) (x := a0) C dX4_markEnds_19 rfl ?_
        refine hv2 (show 0 ≤ ivb1 a0 9 ∧ ivb1 a0 9 ≤ 100 from Wb1.int t_a0 9) (show ivb1 a0 9 = iv a0 9 from Fb1.i t_a0 rfl 9) (fun ri2 ie1 => ?_)
        refine c_get (k := 9) C ck_5 dX4_markEnds_20 w2_0 (by decide) t_a0 rfl rfl (by decide) rfl ?_
        refine c_iconst C dX4_markEnds_23 ?_
        refine c_imul C dX4_markEnds_24 ?_
        refine c_icmp_lt (tgt := 42) C (r32_c (lo := (-1)) (hi := 403) hk.1 hk.2 (by decide) (by decide)) ⟨by omega, by omega⟩ dX4_markEnds_25 (by decide) (fun c2 => ?_) (fun c2 => ?_)
        · refine c_aload_n (j := 1) (x := a0) C dX4_markEnds_42 rfl ?_
          refine c_iload_n (j := 0) C dX4_markEnds_43 rfl ?_
          refine c_iconst C dX4_markEnds_44 ?_
          refine d_callV (As := [.int (iI k), .int (iI 0)]) (rest := [.int (iI k), .ref rb1]) C hM (C_nextChoice (a0 := a0) (i := k) (x := 0) Wb1 hS t_a0 (by omega) ⟨by decide, by decide⟩ (by show 0 ≤ k ∧ k ≤ 403 ∧ 0 ≤ (0 : Int); omega)) dX4_markEnds_45 kV_X4_85 rfl t_a0 rfl rfl (by decide) ck_5 rfl (Nat.le_of_ble_eq_true rfl) ⟨(Nat.le_of_ble_eq_true rfl), (Nat.le_of_ble_eq_true rfl)⟩ hph hph (show 0 + 0 = 0 from rfl) (by decide) (fun rh1 Lh1 clh1 lnh1 ivh1 rvh1 h1 => ?_)
          obtain ⟨f1, rfl, rfl, rfl, rfl, rfl, rfl, rgf1, exf1⟩ := h1
          refine c_st (st2 := [.int (iI f1), .int (iI k), .ref rb1]) rfl ?_
          have gf1 : f1 = -1 ∨ ((0 : Int) ≤ f1 ∧ VL sk ivb1 k f1 ∧ GD sk ln ivb1 rv a0 k (k / 4) f1) := exf1
          refine c_if_lt (tgt := 55) C ⟨by omega, by omega⟩ dX4_markEnds_48 (by decide) (fun c3 => ?_) (fun c3 => ?_)
          · refine c_iconst C dX4_markEnds_55 ?_
            have ll1 : 404 ≤ ln rb1 ∧ ln rb1 ≤ 404 := Wb1.len trb1 rfl
            refine c_zast (x := 0) C dX4_markEnds_56 trb1 rfl (by omega) (by omega) (by omega) (by omega) (fun iv1 pq1 => ?_)
            refine hv2 (Wb1.puti pq1 trb1 (show 0 ≤ 0 ∧ 0 ≤ 1 by omega) rfl) (Fb1.puti hX0 pq1 trb1 rfl) (fun W2 F1 => ?_)
            refine c_iinc (z := k) (j := 0) (lv2 := [(1, .int (iI (k + (-1)))), (0, .ref a0)]) C dX4_markEnds_57 rfl (by decide) rfl ?_
            refine c_goto (tgt := 9) C dX4_markEnds_60 (by decide) ?_
            refine c_lv (lv2 := [(1, .int (iI (k + (-1)))), (0, .ref a0)]) [0, 1] rfl ?_
            exact ih1  (k + (-1)) _ (by omega) W2 F1  (by omega)
          · replace gf1 := gf1.resolve_left (fun q => by omega)
            refine c_iconst C dX4_markEnds_51 ?_
            refine c_goto (tgt := 56) C dX4_markEnds_52 (by decide) ?_
            have ll2 : 404 ≤ ln rb1 ∧ ln rb1 ≤ 404 := Wb1.len trb1 rfl
            refine c_zast (x := 1) C dX4_markEnds_56 trb1 rfl (by omega) (by omega) (by omega) (by omega) (fun iv2 pq2 => ?_)
            refine hv2 (Wb1.puti pq2 trb1 (show 0 ≤ 1 ∧ 1 ≤ 1 by omega) rfl) (Fb1.puti hX0 pq2 trb1 rfl) (fun W3 F2 => ?_)
            refine c_iinc (z := k) (j := 0) (lv2 := [(1, .int (iI (k + (-1)))), (0, .ref a0)]) C dX4_markEnds_57 rfl (by decide) rfl ?_
            refine c_goto (tgt := 9) C dX4_markEnds_60 (by decide) ?_
            refine c_lv (lv2 := [(1, .int (iI (k + (-1)))), (0, .ref a0)]) [0, 1] rfl ?_
            exact ih1  (k + (-1)) _ (by omega) W3 F2  (by omega)
        · refine c_iload_n (j := 0) C dX4_markEnds_28 rfl ?_
          refine c_iconst C dX4_markEnds_29 ?_
          obtain ⟨zz1, hzz1, ezz1⟩ := iI_of (iI k &&& iI 2)
          refine c_iand (w := iI zz1) C dX4_markEnds_30 ezz1 ?_
          refine c_if_ne (tgt := 38) C ⟨by omega, by omega⟩ dX4_markEnds_31 (by decide) (fun c4 => ?_) (fun c4 => ?_)
          · refine c_iconst C dX4_markEnds_38 ?_
            refine c_goto (tgt := 56) C dX4_markEnds_39 (by decide) ?_
            have ll3 : 404 ≤ ln rb1 ∧ ln rb1 ≤ 404 := Wb1.len trb1 rfl
            refine c_zast (x := 0) C dX4_markEnds_56 trb1 rfl (by omega) (by omega) (by omega) (by omega) (fun iv3 pq3 => ?_)
            refine hv2 (Wb1.puti pq3 trb1 (show 0 ≤ 0 ∧ 0 ≤ 1 by omega) rfl) (Fb1.puti hX0 pq3 trb1 rfl) (fun W4 F3 => ?_)
            refine c_iinc (z := k) (j := 0) (lv2 := [(1, .int (iI (k + (-1)))), (0, .ref a0)]) C dX4_markEnds_57 rfl (by decide) rfl ?_
            refine c_goto (tgt := 9) C dX4_markEnds_60 (by decide) ?_
            refine c_lv (lv2 := [(1, .int (iI (k + (-1)))), (0, .ref a0)]) [0, 1] rfl ?_
            exact ih1  (k + (-1)) _ (by omega) W4 F3  (by omega)
          · refine c_iconst C dX4_markEnds_34 ?_
            refine c_goto (tgt := 56) C dX4_markEnds_35 (by decide) ?_
            have ll4 : 404 ≤ ln rb1 ∧ ln rb1 ≤ 404 := Wb1.len trb1 rfl
            refine c_zast (x := 1) C dX4_markEnds_56 trb1 rfl (by omega) (by omega) (by omega) (by omega) (fun iv4 pq4 => ?_)
            refine hv2 (Wb1.puti pq4 trb1 (show 0 ≤ 1 ∧ 1 ≤ 1 by omega) rfl) (Fb1.puti hX0 pq4 trb1 rfl) (fun W5 F4 => ?_)
            refine c_iinc (z := k) (j := 0) (lv2 := [(1, .int (iI (k + (-1)))), (0, .ref a0)]) C dX4_markEnds_57 rfl (by decide) rfl ?_
            refine c_goto (tgt := 9) C dX4_markEnds_60 (by decide) ?_
            refine c_lv (lv2 := [(1, .int (iI (k + (-1)))), (0, .ref a0)]) [0, 1] rfl ?_
            exact ih1  (k + (-1)) _ (by omega) W5 F4  (by omega)
  refine c_lv (lv2 := [(1, .int (iI (((iv a0 9) * 4) + 3))), (0, .ref a0)]) [0, 1] rfl ?_
  exact Lp1 410 (((iv a0 9) * 4) + 3) _ (by omega) hW hF0  (by omega)
set_option maxHeartbeats 4000000 in
set_option maxRecDepth 100000 in
theorem C_rwrite {l : Launch} {G : GT} {mi : Nat} {sk : Nat → Nat} {L : List Nat} {cl ln : Nat → Nat} {iv : Nat → Nat → Int} {rv : Nat → Nat → Option Nat}  {a0 : Nat} {n : Int} (hW : WT (g0 G) sk L cl ln iv rv) (hS : SKL sk L cl) (t_a0 : ty L cl a0 17) (h_n : -2147483648 ≤ n ∧ n ≤ 2147483647) (hn : 0 ≤ n ∧ n ≤ 100) (hct : iv a0 5 < 50) (hwk : ∀ nb cb, rv a0 1 = some nb → rv a0 2 = some cb → ∀ d : Nat, (d : Int) < n → 0 ≤ iv cb d ∧ VL sk iv (iv nb d) (iv cb d)) : Mc l G mi (Phi (g0 G) sk) PHM yX4_write cX4_write 5 none 5 [.ref a0, .int (iI n)] L cl ln iv rv 0 (fun v L2 cl2 ln2 iv2 rv2 => v = none ∧ XT L cl ln L2 cl2 ln2 ∧ fT [17, 62, 11, 41] L cl iv rv iv2 rv2 ∧ WT (g0 G) sk L2 cl2 ln2 iv2 rv2 ∧ (rv2 a0 1 = rv a0 1 ∧ rv2 a0 2 = rv a0 2)) := by
  refine Mc.mk (by decide) (Nat.le_of_ble_eq_true rfl) ?_
  intro p e s m args below meth c A C hM
  refine hv7 (Phi.le hW hS) (show ty L cl (sk 11) 11 from ⟨(hS 11 rfl).1, by rw [(hS 11 rfl).2]; rfl⟩) (show ty L cl (sk 16) 16 from ⟨(hS 16 rfl).1, by rw [(hS 16 rfl).2]; rfl⟩) (show ty L cl (sk 24) 24 from ⟨(hS 24 rfl).1, by rw [(hS 24 rfl).2]; rfl⟩) (show ty L cl (sk 25) 25 from ⟨(hS 25 rfl).1, by rw [(hS 25 rfl).2]; rfl⟩) (show XT L cl ln L cl ln from XT.refl) (show fT [17, 62, 11, 41] L cl iv rv iv rv from fT.refl) (fun hph tsk11 tsk16 tsk24 tsk25 hX0 hF0 => ?_)
  obtain ⟨nb0, hnb0, tnb0⟩ := hW.ref t_a0 1 rfl rfl rfl
  obtain ⟨cb0, hcb0, tcb0⟩ := hW.ref t_a0 2 rfl rfl rfl
  refine c_iconst C dX4_write_0 ?_
  refine c_istore_n (lv2 := [(2, .int (iI 0)), (0, .ref a0), (1, .int (iI n))]) C dX4_write_1 (by decide) rfl ?_
  refine c_iconst C dX4_write_2 ?_
  refine c_istore_n (lv2 := [(3, .int (iI 0)), (2, .int (iI 0)), (0, .ref a0), (1, .int (iI n))]) C dX4_write_3 (by decide) rfl ?_
  have Lp1 : ∀ (nn : Nat) (cc0 k : Int) (Lb1 : List Nat) (clb1 lnb1 : Nat → Nat) (ivb1 : Nat → Nat → Int) (rvb1 : Nat → Nat → Option Nat) , 101 - k < (nn : Int) → XT L cl ln Lb1 clb1 lnb1 → WT (g0 G) sk Lb1 clb1 lnb1 ivb1 rvb1 → fT [17, 62, 11, 41] L cl iv rv ivb1 rvb1 → (cc0 = 0 ∨ cc0 = 1) → (0 ≤ k ∧ k ≤ n) → (ivb1 a0 5 = iv a0 5) → (rvb1 a0 1 = some nb0 ∧ rvb1 a0 2 = some cb0) → cw p l e 5 ((PHM) + 0 - ((Phi (g0 G) sk) ln rv)) s m args below meth c G A 5 (MQ below (Qu G A (Qp G (Phi (g0 G) sk) ((Phi (g0 G) sk) ln rv) 0 (fun v L2 cl2 ln2 iv2 rv2 => v = none ∧ XT L cl ln L2 cl2 ln2 ∧ fT [17, 62, 11, 41] L cl iv rv iv2 rv2 ∧ WT (g0 G) sk L2 cl2 ln2 iv2 rv2 ∧ (rv2 a0 1 = rv a0 1 ∧ rv2 a0 2 = rv a0 2)))) args s (((PHM) + 0 - ((Phi (g0 G) sk) ln rv)) / 16) ((PHM) + 0 - ((Phi (g0 G) sk) ln rv)) A) (Phi (g0 G) sk) ((Phi (g0 G) sk) ln rv) Lb1 clb1 lnb1 ivb1 rvb1 0 4 [(2, .int (iI cc0)), (3, .int (iI k)), (0, .ref a0), (1, .int (iI n))] [] := by
    intro nn
    induction nn with
    | zero =>
      intro  cc0 k Lb1 clb1 lnb1 ivb1 rvb1 hm Xb1 Wb1 Fb1  hcc hk hc5 hr
      have skb1 := Xb1.skl hS
      exact absurd hm (by omega)
    | succ nn ih1 =>
      intro  cc0 k Lb1 clb1 lnb1 ivb1 rvb1 hm Xb1 Wb1 Fb1  hcc hk hc5 hr
      have skb1 := Xb1.skl hS
      refine c_iload_n (j := 1) C dX4_write_4 rfl ?_
      refine c_iload_n (j := 3) C dX4_write_5 rfl ?_
      refine c_icmp_ge (tgt := 140) C ⟨by omega, by omega⟩ ⟨by omega, by omega⟩ dX4_write_6 (by decide) (fun c1 => ?_) (fun c1 => ?_)
      · refine c_aload_n (j := 2) (x := a0) C dX4_write_140 rfl ?_
        have ty1 := Xb1.ty t_a0
        obtain ⟨rb1, rq1, trb1⟩ := Wb1.ref ty1 3 rfl rfl rfl
        have lnrb1 : 50 ≤ lnb1 rb1 ∧ lnb1 rb1 ≤ 50 := Wb1.len trb1 rfl
        refine c_getr (k := 3) C ck_5 dX4_write_141 w1_232 (by decide) ty1 rfl rfl (by decide) rfl rq1 ?_
        refine c_st (st2 := [.ref rb1]) rfl ?_
        refine c_aload_n (j := 2) (x := a0) C dX4_write_144 rfl ?_
        have ri1 : 0 ≤ ivb1 a0 5 ∧ ivb1 a0 5 ≤ 50 := Wb1.int ty1 5
        refine c_get (k := 5) C ck_5 dX4_write_145 w1_234 (by decide) ty1 rfl rfl (by decide) rfl ?_
        refine c_aload_n (j := 2) (x := a0) C dX4_write_148 rfl ?_
        obtain ⟨rb2, rq2, trb2⟩ := Wb1.ref ty1 4 rfl rfl rfl
        have erb2 := Wb1.sk trb2 (by decide) rfl
        subst erb2
        refine c_getr (k := 4) C ck_5 dX4_write_149 w1_233 (by decide) ty1 rfl rfl (by decide) rfl rq2 ?_
        refine c_st (st2 := [.ref (sk 11), .int (iI (ivb1 a0 5)), .ref rb1]) rfl ?_
        have ty2 := Xb1.ty tsk11
        have ri2 : 0 ≤ ivb1 (sk 11) 2 ∧ ivb1 (sk 11) 2 ≤ 40000 := Wb1.int ty2 2
        refine c_get (k := 2) C ck_2 dX4_write_152 w1_48 (by decide) ty2 rfl rfl (by decide) rfl ?_
        have ll1 : 50 ≤ lnb1 rb1 ∧ lnb1 rb1 ≤ 50 := Wb1.len trb1 rfl
        refine c_iast (x := ivb1 (sk 11) 2) C dX4_write_155 trb1 rfl (by omega) (by omega) (by omega) (fun iv1 pq1 => ?_)
        refine hv2 (Wb1.puti pq1 trb1 (show (-2147483648) ≤ (ivb1 (sk 11) 2) ∧ (ivb1 (sk 11) 2) ≤ 2147483647 by omega) rfl) (Fb1.puti Xb1 pq1 trb1 rfl) (fun W1 F1 => ?_)
        refine c_aload_n (j := 2) (x := a0) C dX4_write_156 rfl ?_
        refine c_dup C dX4_write_157 rfl ?_
        refine hv2 (show 0 ≤ iv1 a0 5 ∧ iv1 a0 5 ≤ 50 from W1.int ty1 5) (show iv1 a0 5 = ivb1 a0 5 from by rw [pq1]; exact up2_k (ne_ty ty1 trb1 (by decide))) (fun ri3 ie3 => ?_)
        refine c_get (k := 5) C ck_5 dX4_write_158 w1_234 (by decide) ty1 rfl rfl (by decide) rfl ?_
        refine c_iconst C dX4_write_161 ?_
        refine c_iadd C dX4_write_162 ?_
        refine c_put (z := (iv1 a0 5) + 1) (k := 5) C ck_5 dX4_write_163 w1_234 (by decide) rfl ty1 rfl rfl (by decide) rfl (by rfl) (by rfl) (fun iv2 pq2 => ?_)
        refine hv2 (W1.puti pq2 ty1 (show 0 ≤ ((iv1 a0 5) + 1) ∧ ((iv1 a0 5) + 1) ≤ 50 by omega) rfl) (F1.puti Xb1 pq2 ty1 rfl) (fun W2 F2 => ?_)
        have pl1 := Phi.le W2 skb1
        exact c_vret C dX4_write_166 rfl (by decide) (rom0 hph pl1 (by decide)) ⟨rfl, Xb1, F2, W2, ⟨(hr.1).trans hnb0.symm, (hr.2).trans hcb0.symm⟩⟩
      · refine c_aload_n (j := 2) (x := a0) C dX4_write_9 rfl ?_
        have ty3 := Xb1.ty t_a0
        refine c_getr (k := 2) C ck_5 dX4_write_10 w1_231 (by decide) ty3 rfl rfl (by decide) rfl hr.2 ?_
        refine c_st (st2 := [.ref cb0]) rfl ?_
        refine c_iload_n (j := 1) C dX4_write_13 rfl ?_
        have ty4 := Xb1.ty tcb0
        have ll2 : 101 ≤ lnb1 cb0 ∧ lnb1 cb0 ≤ 101 := Wb1.len ty4 rfl
        refine c_iald C dX4_write_14 ty4 rfl (by omega) (by omega) (by omega) ?_
        refine hv2 (show (-2147483648) ≤ ivb1 cb0 k.toNat ∧ ivb1 cb0 k.toNat ≤ 2147483647 from Wb1.int ty4 k.toNat) (show ivb1 cb0 k.toNat = iv cb0 k.toNat from Fb1.i tcb0 rfl k.toNat) (fun ri4 ie4 => ?_)
        have vc := (hwk nb0 cb0 hnb0 hcb0 k.toNat (by omega)).1
        refine c_if_ne (tgt := 30) C (r32_c (lo := (-2147483648)) (hi := 2147483647) ri4.1 ri4.2 (by decide) (by decide)) dX4_write_15 (by decide) (fun c2 => ?_) (fun c2 => ?_)
        · refine c_aload_n (j := 2) (x := a0) C dX4_write_30 rfl ?_
          obtain ⟨rb3, rq3, trb3⟩ := Wb1.ref ty3 7 rfl rfl rfl
          have erb3 := Wb1.sk trb3 (by decide) rfl
          subst erb3
          refine c_getr (k := 7) C ck_5 dX4_write_31 w1_238 (by decide) ty3 rfl rfl (by decide) rfl rq3 ?_
          refine c_st (st2 := [.ref (sk 16)]) rfl ?_
          refine c_aload_n (j := 2) (x := a0) C dX4_write_34 rfl ?_
          refine c_getr (k := 1) C ck_5 dX4_write_35 w1_230 (by decide) ty3 rfl rfl (by decide) rfl hr.1 ?_
          refine c_st (st2 := [.ref nb0, .ref (sk 16)]) rfl ?_
          refine c_iload_n (j := 1) C dX4_write_38 rfl ?_
          have ty5 := Xb1.ty tnb0
          have ll3 : 101 ≤ lnb1 nb0 ∧ lnb1 nb0 ≤ 101 := Wb1.len ty5 rfl
          refine c_iald C dX4_write_39 ty5 rfl (by omega) (by omega) (by omega) ?_
          refine hv2 (show (-2147483648) ≤ ivb1 nb0 k.toNat ∧ ivb1 nb0 k.toNat ≤ 2147483647 from Wb1.int ty5 k.toNat) (show ivb1 nb0 k.toNat = iv nb0 k.toNat from Fb1.i tnb0 rfl k.toNat) (fun ri5 ie5 => ?_)
          refine c_iconst C dX4_write_40 ?_
          obtain ⟨zz1, hzz1, ezz1⟩ := iI_of (iI (ivb1 nb0 k.toNat) &&& iI 1)
          refine c_iand (w := iI zz1) C dX4_write_41 ezz1 ?_
          refine hv6 (Xb1.ty tsk24) (show ivb1 (sk 24) 2 = iv (sk 24) 2 from Fb1.i tsk24 rfl 2) (Xb1.ty tsk25) (show ivb1 (sk 25) 2 = iv (sk 25) 2 from Fb1.i tsk25 rfl 2) (show ivb1 nb0 k.toNat = iv nb0 k.toNat from (show ivb1 nb0 k.toNat = iv nb0 k.toNat from Fb1.i tnb0 rfl k.toNat)) (bz_iff ezz1 hzz1) (fun ty6 ie6 ty7 ie7 enzz1 hb1zz1 => ?_)
          refine hv2 (show 0 ≤ ivb1 (sk 24) 2 ∧ ivb1 (sk 24) 2 ≤ 6003 from Wb1.int ty6 2) (show 0 ≤ ivb1 (sk 25) 2 ∧ ivb1 (sk 25) 2 ≤ 6003 from Wb1.int ty7 2) (fun ri6 ri7 => ?_)
          have vwzz1 := (hwk nb0 cb0 hnb0 hcb0 k.toNat (by omega))
          have vzzz1 := vwzz1.2.zed (by rw [← enzz1]; exact ezz1) hzz1
          refine c_if_eq (tgt := 49) C ⟨by omega, by omega⟩ dX4_write_42 (by decide) (fun c3 => ?_) (fun c3 => ?_)
          · refine c_iconst C dX4_write_49 ?_
            refine hv2 (Xb1.ty tsk16) (Phi.le Wb1 skb1) (fun ty8 pl2 => ?_)
            refine d_callV (As := [.int (iI 0)]) (rest := []) C hM (C_rowsOf (a0 := (sk 16)) (g := 0) Wb1 skb1 ty8 ⟨by decide, by decide⟩ ) dX4_write_50 kV_X4_95 rfl ty8 rfl rfl (by decide) ck_4 rfl (Nat.le_of_ble_eq_true rfl) ⟨(Nat.le_of_ble_eq_true rfl), (Nat.le_of_ble_eq_true rfl)⟩ hph pl2 (show 0 + 0 = 0 from rfl) (by decide) (fun rh1 Lh1 clh1 lnh1 ivh1 rvh1 h1 => ?_)
            obtain ⟨f1, rfl, rfl, rfl, rfl, rfl, rfl, rgf1, exf1⟩ := h1
            refine c_st (st2 := [.ref f1]) rfl ?_
            rcases exf1 with exf1 | exf1
            · obtain ⟨hf1, rfl⟩ := exf1
              refine c_st (st2 := [.ref (sk 24)]) rfl ?_
              refine c_aload_n (j := 2) (x := a0) C dX4_write_53 rfl ?_
              refine c_getr (k := 2) C ck_5 dX4_write_54 w1_231 (by decide) ty3 rfl rfl (by decide) rfl hr.2 ?_
              refine c_st (st2 := [.ref cb0, .ref (sk 24)]) rfl ?_
              refine c_iload_n (j := 1) C dX4_write_57 rfl ?_
              refine c_iald C dX4_write_58 ty4 rfl (by omega) (by omega) (by omega) ?_
              refine c_iconst C dX4_write_59 ?_
              refine c_isub C dX4_write_60 ?_
              refine d_callV (As := [.int (iI ((ivb1 cb0 k.toNat) - 1))]) (rest := []) C hM (C_get_24 (a0 := (sk 24)) (i := (ivb1 cb0 k.toNat) - 1) Wb1 skb1 ty6 (by omega) (by show 0 ≤ ((ivb1 cb0 k.toNat) - 1) ∧ ((ivb1 cb0 k.toNat) - 1) < ivb1 (sk 24) 2; omega)) dX4_write_61 kV_X4_110 rfl ty6 rfl rfl (by decide) ck_0 rfl (Nat.le_of_ble_eq_true rfl) ⟨(Nat.le_of_ble_eq_true rfl), (Nat.le_of_ble_eq_true rfl)⟩ hph pl2 (show 0 + 0 = 0 from rfl) (by decide) (fun rh2 Lh2 clh2 lnh2 ivh2 rvh2 h2 => ?_)
              obtain ⟨f2, rfl, rfl, rfl, rfl, rfl, rfl, rgf2, exf2⟩ := h2
              refine c_st (st2 := [.ref f2]) rfl ?_
              have gf2 : el rvb1 (sk 24) ((ivb1 cb0 k.toNat) - 1).toNat = some f2 := exf2
              refine c_cast C ck_6 dX4_write_64 w5_149 w8_169t rgf2 rfl rfl (by decide) ?_
              refine c_astore (lv2 := [(4, .ref f2), (2, .int (iI cc0)), (3, .int (iI k)), (0, .ref a0), (1, .int (iI n))]) C dX4_write_67 (by decide) rfl ?_
              refine c_aload (j := 0) (x := f2) C dX4_write_69 rfl ?_
              have ri8 : (-2147483648) ≤ ivb1 f2 0 ∧ ivb1 f2 0 ≤ 2147483647 := Wb1.int rgf2 0
              refine c_get (k := 0) C ck_6 dX4_write_71 w3_136 (by decide) rgf2 rfl rfl (by decide) rfl ?_
              refine c_iconst C dX4_write_74 ?_
              refine c_icmp_eq (tgt := 87) C (r32_c (lo := (-2147483648)) (hi := 2147483647) ri8.1 ri8.2 (by decide) (by decide)) ⟨by decide, by decide⟩ dX4_write_75 (by decide) (fun c4 => ?_) (fun c4 => ?_)
              · refine c_aload_n (j := 3) (x := a0) C dX4_write_87 rfl ?_
                obtain ⟨rb4, rq4, trb4⟩ := Wb1.ref ty3 4 rfl rfl rfl
                have erb4 := Wb1.sk trb4 (by decide) rfl
                subst erb4
                refine c_getr (k := 4) C ck_5 dX4_write_88 w1_233 (by decide) ty3 rfl rfl (by decide) rfl rq4 ?_
                refine c_st (st2 := [.ref (sk 11)]) rfl ?_
                refine c_aload (j := 0) (x := f2) C dX4_write_91 rfl ?_
                refine c_get (k := 0) C ck_6 dX4_write_93 w3_136 (by decide) rgf2 rfl rfl (by decide) rfl ?_
                refine c_iconst C dX4_write_96 ?_
                refine c_icmp_ne (tgt := 105) C (r32_c (lo := (-2147483648)) (hi := 2147483647) ri8.1 ri8.2 (by decide) (by decide)) ⟨by decide, by decide⟩ dX4_write_97 (by decide) (fun z => absurd z (by omega)) (fun _ => ?_)
                refine c_bipush (z := 60) C dX4_write_100 (by decide) ?_
                refine c_goto (tgt := 107) C dX4_write_102 (by decide) ?_
                have ty9 := Xb1.ty tsk11
                have ri9 : 0 ≤ ivb1 (sk 11) 2 ∧ ivb1 (sk 11) 2 ≤ 40000 := Wb1.int ty9 2
                refine d_callV (As := [.int (iI 60)]) (rest := []) C hM (C_add_11 (a0 := (sk 11)) (x := 60) Wb1 skb1 ty9 ⟨by decide, by decide⟩ ) dX4_write_107 kV_X4_128 rfl ty9 rfl rfl (by decide) ck_2 rfl (Nat.le_of_ble_eq_true rfl) ⟨(Nat.le_of_ble_eq_true rfl), (Nat.le_of_ble_eq_true rfl)⟩ hph pl2 (show 0 + 0 = 0 from rfl) (by decide) (fun rh3 Lh3 clh3 lnh3 ivh3 rvh3 h3 => ?_)
                obtain ⟨rfl, xl3, fl3, W5, exf3⟩ := h3
                refine hv3 (Fb1.call Xb1 fl3 rfl) (Xb1.trans xl3) (xl3.skl skb1) (fun F3 X1 sk1 => ?_)
                refine c_st (st2 := []) rfl ?_
                refine hv2 (xl3.ty ty9) (show ((ivh3 (sk 11) 2 = ivb1 (sk 11) 2 ∧ ivb1 (sk 11) 2 = 40000) ∨ (ivh3 (sk 11) 2 = ivb1 (sk 11) 2 + 1 ∧ ivb1 (sk 11) 2 < 40000)) from exf3) (fun ty10 gf3 => ?_)
                have ri10 : 0 ≤ ivh3 (sk 11) 2 ∧ ivh3 (sk 11) 2 ≤ 40000 := W5.int ty10 2
                refine c_aload (j := 0) (x := f2) C dX4_write_110 rfl ?_
                refine c_aload_n (j := 3) (x := a0) C dX4_write_112 rfl ?_
                refine hv2 (xl3.ty ty3) (show rvh3 a0 4 = rvb1 a0 4 from (fl3.r ty3 rfl 4)) (fun ty11 re1 => ?_)
                rw [rq4] at re1
                refine c_getr (k := 4) C ck_5 dX4_write_113 w1_233 (by decide) ty11 rfl rfl (by decide) rfl re1 ?_
                refine c_st (st2 := [.ref (sk 11), .ref f2]) rfl ?_
                refine c_iload_n (j := 1) C dX4_write_116 rfl ?_
                refine hv2 (xl3.ty rgf2) (Phi.le W5 sk1) (fun ty12 pl3 => ?_)
                refine d_callV (As := [.ref (sk 11), .int (iI cc0)]) (rest := []) C hM (C_wl_11 (a0 := f2) (a1 := (sk 11)) (g := cc0) W5 sk1 ty12 ty10 (by omega) ) dX4_write_117 kV_X4_131 rfl ty12 rfl rfl (by decide) ck_6 rfl (Nat.le_of_ble_eq_true rfl) ⟨(Nat.le_of_ble_eq_true rfl), (Nat.le_of_ble_eq_true rfl)⟩ hph pl3 (show 0 + 0 = 0 from rfl) (by decide) (fun rh4 Lh4 clh4 lnh4 ivh4 rvh4 h4 => ?_)
                obtain ⟨rfl, xl4, fl4, W6, exf4⟩ := h4
                refine hv8 (F3.call X1 fl4 rfl) (xl3.ty ty8) (xl3.ty ty6) (xl3.ty ty7) (xl3.ty ty5) (xl3.ty ty4) (X1.trans xl4) (xl4.skl sk1) (fun F4 ty13 ty14 ty15 ty16 ty17 X2 sk2 => ?_)
                refine c_st (st2 := []) rfl ?_
                refine c_aload (j := 0) (x := f2) C dX4_write_120 rfl ?_
                refine hv3 (xl4.ty ty12) (show ivh4 f2 0 = ivh3 f2 0 from fl4.i ty12 rfl 0) (show ivh3 f2 0 = ivb1 f2 0 from fl3.i rgf2 rfl 0) (fun ty18 ie11 ie12 => ?_)
                have ri11 : (-2147483648) ≤ ivh4 f2 0 ∧ ivh4 f2 0 ≤ 2147483647 := W6.int ty18 0
                refine c_get (k := 0) C ck_6 dX4_write_122 w3_136 (by decide) ty18 rfl rfl (by decide) rfl ?_
                refine c_if_ne (tgt := 132) C (r32_c (lo := (-2147483648)) (hi := 2147483647) ri11.1 ri11.2 (by decide) (by decide)) dX4_write_125 (by decide) (fun c5 => ?_) (fun c5 => ?_)
                · refine c_iconst C dX4_write_132 ?_
                  refine c_istore_n (lv2 := [(2, .int (iI 0)), (4, .ref f2), (3, .int (iI k)), (0, .ref a0), (1, .int (iI n))]) C dX4_write_133 (by decide) rfl ?_
                  refine c_iinc (z := k) (j := 2) (lv2 := [(3, .int (iI (k + 1))), (2, .int (iI 0)), (4, .ref f2), (0, .ref a0), (1, .int (iI n))]) C dX4_write_134 rfl (by decide) rfl ?_
                  refine c_goto (tgt := 4) C dX4_write_137 (by decide) ?_
                  refine hv4 (xl4.ty ty11) (show ivh4 a0 5 = ivh3 a0 5 from fl4.i ty11 rfl 5) (show ivh3 a0 5 = ivb1 a0 5 from fl3.i ty3 rfl 5) (show rvh3 a0 1 = rvb1 a0 1 from (fl3.r ty3 rfl 1)) (fun ty19 ie13 ie14 re2 => ?_)
                  have ri12 : 0 ≤ ivh4 a0 5 ∧ ivh4 a0 5 ≤ 50 := W6.int ty19 5
                  rw [hr.1] at re2
                  have re3 : rvh4 a0 1 = rvh3 a0 1 := (fl4.r ty11 rfl 1)
                  rw [re2] at re3
                  have re4 : rvh3 a0 2 = rvb1 a0 2 := (fl3.r ty3 rfl 2)
                  rw [hr.2] at re4
                  have re5 : rvh4 a0 2 = rvh3 a0 2 := (fl4.r ty11 rfl 2)
                  rw [re4] at re5
                  refine c_lv (lv2 := [(2, .int (iI 0)), (3, .int (iI (k + 1))), (0, .ref a0), (1, .int (iI n))]) [1, 0, 3, 4] rfl ?_
                  exact ih1  0 (k + 1) _ _ _ _ _ (by omega) X2 W6 F4  (by omega) (by omega) (ie13.trans (ie14.trans hc5)) ⟨re3, re5⟩
                · refine c_iconst C dX4_write_128 ?_
                  refine c_goto (tgt := 133) C dX4_write_129 (by decide) ?_
                  refine c_istore_n (lv2 := [(2, .int (iI 1)), (4, .ref f2), (3, .int (iI k)), (0, .ref a0), (1, .int (iI n))]) C dX4_write_133 (by decide) rfl ?_
                  refine c_iinc (z := k) (j := 2) (lv2 := [(3, .int (iI (k + 1))), (2, .int (iI 1)), (4, .ref f2), (0, .ref a0), (1, .int (iI n))]) C dX4_write_134 rfl (by decide) rfl ?_
                  refine c_goto (tgt := 4) C dX4_write_137 (by decide) ?_
                  refine hv4 (xl4.ty ty11) (show ivh4 a0 5 = ivh3 a0 5 from fl4.i ty11 rfl 5) (show ivh3 a0 5 = ivb1 a0 5 from fl3.i ty3 rfl 5) (show rvh3 a0 1 = rvb1 a0 1 from (fl3.r ty3 rfl 1)) (fun ty20 ie16 ie17 re6 => ?_)
                  have ri13 : 0 ≤ ivh4 a0 5 ∧ ivh4 a0 5 ≤ 50 := W6.int ty20 5
                  rw [hr.1] at re6
                  have re7 : rvh4 a0 1 = rvh3 a0 1 := (fl4.r ty11 rfl 1)
                  rw [re6] at re7
                  have re8 : rvh3 a0 2 = rvb1 a0 2 := (fl3.r ty3 rfl 2)
                  rw [hr.2] at re8
                  have re9 : rvh4 a0 2 = rvh3 a0 2 := (fl4.r ty11 rfl 2)
                  rw [re8] at re9
                  refine c_lv (lv2 := [(2, .int (iI 1)), (3, .int (iI (k + 1))), (0, .ref a0), (1, .int (iI n))]) [1, 0, 3, 4] rfl ?_
                  exact ih1  1 (k + 1) _ _ _ _ _ (by omega) X2 W6 F4  (by omega) (by omega) (ie16.trans (ie17.trans hc5)) ⟨re7, re9⟩
              · refine c_aload (j := 0) (x := f2) C dX4_write_78 rfl ?_
                refine c_get (k := 0) C ck_6 dX4_write_80 w3_136 (by decide) rgf2 rfl rfl (by decide) rfl ?_
                refine c_iconst C dX4_write_83 ?_
                refine c_icmp_ne (tgt := 110) C (r32_c (lo := (-2147483648)) (hi := 2147483647) ri8.1 ri8.2 (by decide) (by decide)) ⟨by decide, by decide⟩ dX4_write_84 (by decide) (fun c6 => ?_) (fun c6 => ?_)
                · refine c_aload (j := 0) (x := f2) C dX4_write_110 rfl ?_
                  refine c_aload_n (j := 3) (x := a0) C dX4_write_112 rfl ?_
                  obtain ⟨rb5, rq5, trb5⟩ := Wb1.ref ty3 4 rfl rfl rfl
                  have erb5 := Wb1.sk trb5 (by decide) rfl
                  subst erb5
                  refine c_getr (k := 4) C ck_5 dX4_write_113 w1_233 (by decide) ty3 rfl rfl (by decide) rfl rq5 ?_
                  refine c_st (st2 := [.ref (sk 11), .ref f2]) rfl ?_
                  refine c_iload_n (j := 1) C dX4_write_116 rfl ?_
                  have ty21 := Xb1.ty tsk11
                  refine d_callV (As := [.ref (sk 11), .int (iI cc0)]) (rest := []) C hM (C_wl_11 (a0 := f2) (a1 := (sk 11)) (g := cc0) Wb1 skb1 rgf2 ty21 (by omega) ) dX4_write_117 kV_X4_131 rfl rgf2 rfl rfl (by decide) ck_6 rfl (Nat.le_of_ble_eq_true rfl) ⟨(Nat.le_of_ble_eq_true rfl), (Nat.le_of_ble_eq_true rfl)⟩ hph pl2 (show 0 + 0 = 0 from rfl) (by decide) (fun rh5 Lh5 clh5 lnh5 ivh5 rvh5 h5 => ?_)
                  obtain ⟨rfl, xl5, fl5, W7, exf5⟩ := h5
                  refine hv3 (Fb1.call Xb1 fl5 rfl) (Xb1.trans xl5) (xl5.skl skb1) (fun F5 X3 sk3 => ?_)
                  refine c_st (st2 := []) rfl ?_
                  refine c_aload (j := 0) (x := f2) C dX4_write_120 rfl ?_
                  refine hv2 (xl5.ty rgf2) (show ivh5 f2 0 = ivb1 f2 0 from fl5.i rgf2 rfl 0) (fun ty22 ie19 => ?_)
                  have ri14 : (-2147483648) ≤ ivh5 f2 0 ∧ ivh5 f2 0 ≤ 2147483647 := W7.int ty22 0
                  refine c_get (k := 0) C ck_6 dX4_write_122 w3_136 (by decide) ty22 rfl rfl (by decide) rfl ?_
                  refine c_if_ne (tgt := 132) C (r32_c (lo := (-2147483648)) (hi := 2147483647) ri14.1 ri14.2 (by decide) (by decide)) dX4_write_125 (by decide) (fun c7 => ?_) (fun c7 => ?_)
                  · refine c_iconst C dX4_write_132 ?_
                    refine c_istore_n (lv2 := [(2, .int (iI 0)), (4, .ref f2), (3, .int (iI k)), (0, .ref a0), (1, .int (iI n))]) C dX4_write_133 (by decide) rfl ?_
                    refine c_iinc (z := k) (j := 2) (lv2 := [(3, .int (iI (k + 1))), (2, .int (iI 0)), (4, .ref f2), (0, .ref a0), (1, .int (iI n))]) C dX4_write_134 rfl (by decide) rfl ?_
                    refine c_goto (tgt := 4) C dX4_write_137 (by decide) ?_
                    refine hv3 (xl5.ty ty3) (show ivh5 a0 5 = ivb1 a0 5 from fl5.i ty3 rfl 5) (show rvh5 a0 1 = rvb1 a0 1 from (fl5.r ty3 rfl 1)) (fun ty23 ie20 re10 => ?_)
                    have ri15 : 0 ≤ ivh5 a0 5 ∧ ivh5 a0 5 ≤ 50 := W7.int ty23 5
                    rw [hr.1] at re10
                    have re11 : rvh5 a0 2 = rvb1 a0 2 := (fl5.r ty3 rfl 2)
                    rw [hr.2] at re11
                    refine c_lv (lv2 := [(2, .int (iI 0)), (3, .int (iI (k + 1))), (0, .ref a0), (1, .int (iI n))]) [1, 0, 3, 4] rfl ?_
                    exact ih1  0 (k + 1) _ _ _ _ _ (by omega) X3 W7 F5  (by omega) (by omega) (ie20.trans hc5) ⟨re10, re11⟩
                  · refine c_iconst C dX4_write_128 ?_
                    refine c_goto (tgt := 133) C dX4_write_129 (by decide) ?_
                    refine c_istore_n (lv2 := [(2, .int (iI 1)), (4, .ref f2), (3, .int (iI k)), (0, .ref a0), (1, .int (iI n))]) C dX4_write_133 (by decide) rfl ?_
                    refine c_iinc (z := k) (j := 2) (lv2 := [(3, .int (iI (k + 1))), (2, .int (iI 1)), (4, .ref f2), (0, .ref a0), (1, .int (iI n))]) C dX4_write_134 rfl (by decide) rfl ?_
                    refine c_goto (tgt := 4) C dX4_write_137 (by decide) ?_
                    refine hv3 (xl5.ty ty3) (show ivh5 a0 5 = ivb1 a0 5 from fl5.i ty3 rfl 5) (show rvh5 a0 1 = rvb1 a0 1 from (fl5.r ty3 rfl 1)) (fun ty24 ie22 re12 => ?_)
                    have ri16 : 0 ≤ ivh5 a0 5 ∧ ivh5 a0 5 ≤ 50 := W7.int ty24 5
                    rw [hr.1] at re12
                    have re13 : rvh5 a0 2 = rvb1 a0 2 := (fl5.r ty3 rfl 2)
                    rw [hr.2] at re13
                    refine c_lv (lv2 := [(2, .int (iI 1)), (3, .int (iI (k + 1))), (0, .ref a0), (1, .int (iI n))]) [1, 0, 3, 4] rfl ?_
                    exact ih1  1 (k + 1) _ _ _ _ _ (by omega) X3 W7 F5  (by omega) (by omega) (ie22.trans hc5) ⟨re12, re13⟩
                · refine c_aload_n (j := 3) (x := a0) C dX4_write_87 rfl ?_
                  obtain ⟨rb6, rq6, trb6⟩ := Wb1.ref ty3 4 rfl rfl rfl
                  have erb6 := Wb1.sk trb6 (by decide) rfl
                  subst erb6
                  refine c_getr (k := 4) C ck_5 dX4_write_88 w1_233 (by decide) ty3 rfl rfl (by decide) rfl rq6 ?_
                  refine c_st (st2 := [.ref (sk 11)]) rfl ?_
                  refine c_aload (j := 0) (x := f2) C dX4_write_91 rfl ?_
                  refine c_get (k := 0) C ck_6 dX4_write_93 w3_136 (by decide) rgf2 rfl rfl (by decide) rfl ?_
                  refine c_iconst C dX4_write_96 ?_
                  refine c_icmp_ne (tgt := 105) C (r32_c (lo := (-2147483648)) (hi := 2147483647) ri8.1 ri8.2 (by decide) (by decide)) ⟨by decide, by decide⟩ dX4_write_97 (by decide) (fun _ => ?_) (fun z => absurd z (by omega))
                  refine c_bipush (z := 62) C dX4_write_105 (by decide) ?_
                  have ty25 := Xb1.ty tsk11
                  have ri17 : 0 ≤ ivb1 (sk 11) 2 ∧ ivb1 (sk 11) 2 ≤ 40000 := Wb1.int ty25 2
                  refine d_callV (As := [.int (iI 62)]) (rest := []) C hM (C_add_11 (a0 := (sk 11)) (x := 62) Wb1 skb1 ty25 ⟨by decide, by decide⟩ ) dX4_write_107 kV_X4_128 rfl ty25 rfl rfl (by decide) ck_2 rfl (Nat.le_of_ble_eq_true rfl) ⟨(Nat.le_of_ble_eq_true rfl), (Nat.le_of_ble_eq_true rfl)⟩ hph pl2 (show 0 + 0 = 0 from rfl) (by decide) (fun rh6 Lh6 clh6 lnh6 ivh6 rvh6 h6 => ?_)
                  obtain ⟨rfl, xl6, fl6, W8, exf6⟩ := h6
                  refine hv3 (Fb1.call Xb1 fl6 rfl) (Xb1.trans xl6) (xl6.skl skb1) (fun F6 X4 sk4 => ?_)
                  refine c_st (st2 := []) rfl ?_
                  refine hv2 (xl6.ty ty25) (show ((ivh6 (sk 11) 2 = ivb1 (sk 11) 2 ∧ ivb1 (sk 11) 2 = 40000) ∨ (ivh6 (sk 11) 2 = ivb1 (sk 11) 2 + 1 ∧ ivb1 (sk 11) 2 < 40000)) from exf6) (fun ty26 gf6 => ?_)
                  have ri18 : 0 ≤ ivh6 (sk 11) 2 ∧ ivh6 (sk 11) 2 ≤ 40000 := W8.int ty26 2
                  refine c_aload (j := 0) (x := f2) C dX4_write_110 rfl ?_
                  refine c_aload_n (j := 3) (x := a0) C dX4_write_112 rfl ?_
                  refine hv2 (xl6.ty ty3) (show rvh6 a0 4 = rvb1 a0 4 from (fl6.r ty3 rfl 4)) (fun ty27 re14 => ?_)
                  rw [rq6] at re14
                  refine c_getr (k := 4) C ck_5 dX4_write_113 w1_233 (by decide) ty27 rfl rfl (by decide) rfl re14 ?_
                  refine c_st (st2 := [.ref (sk 11), .ref f2]) rfl ?_
                  refine c_iload_n (j := 1) C dX4_write_116 rfl ?_
                  refine hv2 (xl6.ty rgf2) (Phi.le W8 sk4) (fun ty28 pl4 => ?_)
                  refine d_callV (As := [.ref (sk 11), .int (iI cc0)]) (rest := []) C hM (C_wl_11 (a0 := f2) (a1 := (sk 11)) (g := cc0) W8 sk4 ty28 ty26 (by omega) ) dX4_write_117 kV_X4_131 rfl ty28 rfl rfl (by decide) ck_6 rfl (Nat.le_of_ble_eq_true rfl) ⟨(Nat.le_of_ble_eq_true rfl), (Nat.le_of_ble_eq_true rfl)⟩ hph pl4 (show 0 + 0 = 0 from rfl) (by decide) (fun rh7 Lh7 clh7 lnh7 ivh7 rvh7 h7 => ?_)
                  obtain ⟨rfl, xl7, fl7, W9, exf7⟩ := h7
                  refine hv8 (F6.call X4 fl7 rfl) (xl6.ty ty8) (xl6.ty ty6) (xl6.ty ty7) (xl6.ty ty5) (xl6.ty ty4) (X4.trans xl7) (xl7.skl sk4) (fun F7 ty29 ty30 ty31 ty32 ty33 X5 sk5 => ?_)
                  refine c_st (st2 := []) rfl ?_
                  refine c_aload (j := 0) (x := f2) C dX4_write_120 rfl ?_
                  refine hv3 (xl7.ty ty28) (show ivh7 f2 0 = ivh6 f2 0 from fl7.i ty28 rfl 0) (show ivh6 f2 0 = ivb1 f2 0 from fl6.i rgf2 rfl 0) (fun ty34 ie26 ie27 => ?_)
                  have ri19 : (-2147483648) ≤ ivh7 f2 0 ∧ ivh7 f2 0 ≤ 2147483647 := W9.int ty34 0
                  refine c_get (k := 0) C ck_6 dX4_write_122 w3_136 (by decide) ty34 rfl rfl (by decide) rfl ?_
                  refine c_if_ne (tgt := 132) C (r32_c (lo := (-2147483648)) (hi := 2147483647) ri19.1 ri19.2 (by decide) (by decide)) dX4_write_125 (by decide) (fun c8 => ?_) (fun c8 => ?_)
                  · refine c_iconst C dX4_write_132 ?_
                    refine c_istore_n (lv2 := [(2, .int (iI 0)), (4, .ref f2), (3, .int (iI k)), (0, .ref a0), (1, .int (iI n))]) C dX4_write_133 (by decide) rfl ?_
                    refine c_iinc (z := k) (j := 2) (lv2 := [(3, .int (iI (k + 1))), (2, .int (iI 0)), (4, .ref f2), (0, .ref a0), (1, .int (iI n))]) C dX4_write_134 rfl (by decide) rfl ?_
                    refine c_goto (tgt := 4) C dX4_write_137 (by decide) ?_
                    refine hv4 (xl7.ty ty27) (show ivh7 a0 5 = ivh6 a0 5 from fl7.i ty27 rfl 5) (show ivh6 a0 5 = ivb1 a0 5 from fl6.i ty3 rfl 5) (show rvh6 a0 1 = rvb1 a0 1 from (fl6.r ty3 rfl 1)) (fun ty35 ie28 ie29 re15 => ?_)
                    have ri20 : 0 ≤ ivh7 a0 5 ∧ ivh7 a0 5 ≤ 50 := W9.int ty35 5
                    rw [hr.1] at re15
                    have re16 : rvh7 a0 1 = rvh6 a0 1 := (fl7.r ty27 rfl 1)
                    rw [re15] at re16
                    have re17 : rvh6 a0 2 = rvb1 a0 2 := (fl6.r ty3 rfl 2)
                    rw [hr.2] at re17
                    have re18 : rvh7 a0 2 = rvh6 a0 2 := (fl7.r ty27 rfl 2)
                    rw [re17] at re18
                    refine c_lv (lv2 := [(2, .int (iI 0)), (3, .int (iI (k + 1))), (0, .ref a0), (1, .int (iI n))]) [1, 0, 3, 4] rfl ?_
                    exact ih1  0 (k + 1) _ _ _ _ _ (by omega) X5 W9 F7  (by omega) (by omega) (ie28.trans (ie29.trans hc5)) ⟨re16, re18⟩
                  · refine c_iconst C dX4_write_128 ?_
                    refine c_goto (tgt := 133) C dX4_write_129 (by decide) ?_
                    refine c_istore_n (lv2 := [(2, .int (iI 1)), (4, .ref f2), (3, .int (iI k)), (0, .ref a0), (1, .int (iI n))]) C dX4_write_133 (by decide) rfl ?_
                    refine c_iinc (z := k) (j := 2) (lv2 := [(3, .int (iI (k + 1))), (2, .int (iI 1)), (4, .ref f2), (0, .ref a0), (1, .int (iI n))]) C dX4_write_134 rfl (by decide) rfl ?_
                    refine c_goto (tgt := 4) C dX4_write_137 (by decide) ?_
                    refine hv4 (xl7.ty ty27) (show ivh7 a0 5 = ivh6 a0 5 from fl7.i ty27 rfl 5) (show ivh6 a0 5 = ivb1 a0 5 from fl6.i ty3 rfl 5) (show rvh6 a0 1 = rvb1 a0 1 from (fl6.r ty3 rfl 1)) (fun ty36 ie31 ie32 re19 => ?_)
                    have ri21 : 0 ≤ ivh7 a0 5 ∧ ivh7 a0 5 ≤ 50 := W9.int ty36 5
                    rw [hr.1] at re19
                    have re20 : rvh7 a0 1 = rvh6 a0 1 := (fl7.r ty27 rfl 1)
                    rw [re19] at re20
                    have re21 : rvh6 a0 2 = rvb1 a0 2 := (fl6.r ty3 rfl 2)
                    rw [hr.2] at re21
                    have re22 : rvh7 a0 2 = rvh6 a0 2 := (fl7.r ty27 rfl 2)
                    rw [re21] at re22
                    refine c_lv (lv2 := [(2, .int (iI 1)), (3, .int (iI (k + 1))), (0, .ref a0), (1, .int (iI n))]) [1, 0, 3, 4] rfl ?_
                    exact ih1  1 (k + 1) _ _ _ _ _ (by omega) X5 W9 F7  (by omega) (by omega) (ie31.trans (ie32.trans hc5)) ⟨re20, re22⟩
            · exact absurd exf1.1 (by decide)
          · refine c_iconst C dX4_write_45 ?_
            refine c_goto (tgt := 50) C dX4_write_46 (by decide) ?_
            refine hv2 (Xb1.ty tsk16) (Phi.le Wb1 skb1) (fun ty37 pl5 => ?_)
            refine d_callV (As := [.int (iI 1)]) (rest := []) C hM (C_rowsOf (a0 := (sk 16)) (g := 1) Wb1 skb1 ty37 ⟨by decide, by decide⟩ ) dX4_write_50 kV_X4_95 rfl ty37 rfl rfl (by decide) ck_4 rfl (Nat.le_of_ble_eq_true rfl) ⟨(Nat.le_of_ble_eq_true rfl), (Nat.le_of_ble_eq_true rfl)⟩ hph pl5 (show 0 + 0 = 0 from rfl) (by decide) (fun rh8 Lh8 clh8 lnh8 ivh8 rvh8 h8 => ?_)
            obtain ⟨f8, rfl, rfl, rfl, rfl, rfl, rfl, rgf8, exf8⟩ := h8
            refine c_st (st2 := [.ref f8]) rfl ?_
            rcases exf8 with exf8 | exf8
            · exact absurd exf8.1 (by decide)
            · obtain ⟨hf8, rfl⟩ := exf8
              refine c_st (st2 := [.ref (sk 25)]) rfl ?_
              refine c_aload_n (j := 2) (x := a0) C dX4_write_53 rfl ?_
              refine c_getr (k := 2) C ck_5 dX4_write_54 w1_231 (by decide) ty3 rfl rfl (by decide) rfl hr.2 ?_
              refine c_st (st2 := [.ref cb0, .ref (sk 25)]) rfl ?_
              refine c_iload_n (j := 1) C dX4_write_57 rfl ?_
              refine c_iald C dX4_write_58 ty4 rfl (by omega) (by omega) (by omega) ?_
              refine c_iconst C dX4_write_59 ?_
              refine c_isub C dX4_write_60 ?_
              refine d_callV (As := [.int (iI ((ivb1 cb0 k.toNat) - 1))]) (rest := []) C hM (C_get_25 (a0 := (sk 25)) (i := (ivb1 cb0 k.toNat) - 1) Wb1 skb1 ty7 (by omega) (by show 0 ≤ ((ivb1 cb0 k.toNat) - 1) ∧ ((ivb1 cb0 k.toNat) - 1) < ivb1 (sk 25) 2; omega)) dX4_write_61 kV_X4_110 rfl ty7 rfl rfl (by decide) ck_0 rfl (Nat.le_of_ble_eq_true rfl) ⟨(Nat.le_of_ble_eq_true rfl), (Nat.le_of_ble_eq_true rfl)⟩ hph pl5 (show 0 + 0 = 0 from rfl) (by decide) (fun rh9 Lh9 clh9 lnh9 ivh9 rvh9 h9 => ?_)
              obtain ⟨f9, rfl, rfl, rfl, rfl, rfl, rfl, rgf9, exf9⟩ := h9
              refine c_st (st2 := [.ref f9]) rfl ?_
              have gf9 : el rvb1 (sk 25) ((ivb1 cb0 k.toNat) - 1).toNat = some f9 := exf9
              refine c_cast C ck_6 dX4_write_64 w5_149 w8_169t rgf9 rfl rfl (by decide) ?_
              refine c_astore (lv2 := [(4, .ref f9), (2, .int (iI cc0)), (3, .int (iI k)), (0, .ref a0), (1, .int (iI n))]) C dX4_write_67 (by decide) rfl ?_
              refine c_aload (j := 0) (x := f9) C dX4_write_69 rfl ?_
              have ri22 : (-2147483648) ≤ ivb1 f9 0 ∧ ivb1 f9 0 ≤ 2147483647 := Wb1.int rgf9 0
              refine c_get (k := 0) C ck_6 dX4_write_71 w3_136 (by decide) rgf9 rfl rfl (by decide) rfl ?_
              refine c_iconst C dX4_write_74 ?_
              refine c_icmp_eq (tgt := 87) C (r32_c (lo := (-2147483648)) (hi := 2147483647) ri22.1 ri22.2 (by decide) (by decide)) ⟨by decide, by decide⟩ dX4_write_75 (by decide) (fun c9 => ?_) (fun c9 => ?_)
              · refine c_aload_n (j := 3) (x := a0) C dX4_write_87 rfl ?_
                obtain ⟨rb7, rq7, trb7⟩ := Wb1.ref ty3 4 rfl rfl rfl
                have erb7 := Wb1.sk trb7 (by decide) rfl
                subst erb7
                refine c_getr (k := 4) C ck_5 dX4_write_88 w1_233 (by decide) ty3 rfl rfl (by decide) rfl rq7 ?_
                refine c_st (st2 := [.ref (sk 11)]) rfl ?_
                refine c_aload (j := 0) (x := f9) C dX4_write_91 rfl ?_
                refine c_get (k := 0) C ck_6 dX4_write_93 w3_136 (by decide) rgf9 rfl rfl (by decide) rfl ?_
                refine c_iconst C dX4_write_96 ?_
                refine c_icmp_ne (tgt := 105) C (r32_c (lo := (-2147483648)) (hi := 2147483647) ri22.1 ri22.2 (by decide) (by decide)) ⟨by decide, by decide⟩ dX4_write_97 (by decide) (fun z => absurd z (by omega)) (fun _ => ?_)
                refine c_bipush (z := 60) C dX4_write_100 (by decide) ?_
                refine c_goto (tgt := 107) C dX4_write_102 (by decide) ?_
                have ty38 := Xb1.ty tsk11
                have ri23 : 0 ≤ ivb1 (sk 11) 2 ∧ ivb1 (sk 11) 2 ≤ 40000 := Wb1.int ty38 2
                refine d_callV (As := [.int (iI 60)]) (rest := []) C hM (C_add_11 (a0 := (sk 11)) (x := 60) Wb1 skb1 ty38 ⟨by decide, by decide⟩ ) dX4_write_107 kV_X4_128 rfl ty38 rfl rfl (by decide) ck_2 rfl (Nat.le_of_ble_eq_true rfl) ⟨(Nat.le_of_ble_eq_true rfl), (Nat.le_of_ble_eq_true rfl)⟩ hph pl5 (show 0 + 0 = 0 from rfl) (by decide) (fun rh10 Lh10 clh10 lnh10 ivh10 rvh10 h10 => ?_)
                obtain ⟨rfl, xl10, fl10, W12, exf10⟩ := h10
                refine hv3 (Fb1.call Xb1 fl10 rfl) (Xb1.trans xl10) (xl10.skl skb1) (fun F8 X6 sk6 => ?_)
                refine c_st (st2 := []) rfl ?_
                refine hv2 (xl10.ty ty38) (show ((ivh10 (sk 11) 2 = ivb1 (sk 11) 2 ∧ ivb1 (sk 11) 2 = 40000) ∨ (ivh10 (sk 11) 2 = ivb1 (sk 11) 2 + 1 ∧ ivb1 (sk 11) 2 < 40000)) from exf10) (fun ty39 gf10 => ?_)
                have ri24 : 0 ≤ ivh10 (sk 11) 2 ∧ ivh10 (sk 11) 2 ≤ 40000 := W12.int ty39 2
                refine c_aload (j := 0) (x := f9) C dX4_write_110 rfl ?_
                refine c_aload_n (j := 3) (x := a0) C dX4_write_112 rfl ?_
                refine hv2 (xl10.ty ty3) (show rvh10 a0 4 = rvb1 a0 4 from (fl10.r ty3 rfl 4)) (fun ty40 re23 => ?_)
                rw [rq7] at re23
                refine c_getr (k := 4) C ck_5 dX4_write_113 w1_233 (by decide) ty40 rfl rfl (by decide) rfl re23 ?_
                refine c_st (st2 := [.ref (sk 11), .ref f9]) rfl ?_
                refine c_iload_n (j := 1) C dX4_write_116 rfl ?_
                refine hv2 (xl10.ty rgf9) (Phi.le W12 sk6) (fun ty41 pl6 => ?_)
                refine d_callV (As := [.ref (sk 11), .int (iI cc0)]) (rest := []) C hM (C_wl_11 (a0 := f9) (a1 := (sk 11)) (g := cc0) W12 sk6 ty41 ty39 (by omega) ) dX4_write_117 kV_X4_131 rfl ty41 rfl rfl (by decide) ck_6 rfl (Nat.le_of_ble_eq_true rfl) ⟨(Nat.le_of_ble_eq_true rfl), (Nat.le_of_ble_eq_true rfl)⟩ hph pl6 (show 0 + 0 = 0 from rfl) (by decide) (fun rh11 Lh11 clh11 lnh11 ivh11 rvh11 h11 => ?_)
                obtain ⟨rfl, xl11, fl11, W13, exf11⟩ := h11
                refine hv8 (F8.call X6 fl11 rfl) (xl10.ty ty37) (xl10.ty ty6) (xl10.ty ty7) (xl10.ty ty5) (xl10.ty ty4) (X6.trans xl11) (xl11.skl sk6) (fun F9 ty42 ty43 ty44 ty45 ty46 X7 sk7 => ?_)
                refine c_st (st2 := []) rfl ?_
                refine c_aload (j := 0) (x := f9) C dX4_write_120 rfl ?_
                refine hv3 (xl11.ty ty41) (show ivh11 f9 0 = ivh10 f9 0 from fl11.i ty41 rfl 0) (show ivh10 f9 0 = ivb1 f9 0 from fl10.i rgf9 rfl 0) (fun ty47 ie37 ie38 => ?_)
                have ri25 : (-2147483648) ≤ ivh11 f9 0 ∧ ivh11 f9 0 ≤ 2147483647 := W13.int ty47 0
                refine c_get (k := 0) C ck_6 dX4_write_122 w3_136 (by decide) ty47 rfl rfl (by decide) rfl ?_
                refine c_if_ne (tgt := 132) C (r32_c (lo := (-2147483648)) (hi := 2147483647) ri25.1 ri25.2 (by decide) (by decide)) dX4_write_125 (by decide) (fun c10 => ?_) (fun c10 => ?_)
                · refine c_iconst C dX4_write_132 ?_
                  refine c_istore_n (lv2 := [(2, .int (iI 0)), (4, .ref f9), (3, .int (iI k)), (0, .ref a0), (1, .int (iI n))]) C dX4_write_133 (by decide) rfl ?_
                  refine c_iinc (z := k) (j := 2) (lv2 := [(3, .int (iI (k + 1))), (2, .int (iI 0)), (4, .ref f9), (0, .ref a0), (1, .int (iI n))]) C dX4_write_134 rfl (by decide) rfl ?_
                  refine c_goto (tgt := 4) C dX4_write_137 (by decide) ?_
                  refine hv4 (xl11.ty ty40) (show ivh11 a0 5 = ivh10 a0 5 from fl11.i ty40 rfl 5) (show ivh10 a0 5 = ivb1 a0 5 from fl10.i ty3 rfl 5) (show rvh10 a0 1 = rvb1 a0 1 from (fl10.r ty3 rfl 1)) (fun ty48 ie39 ie40 re24 => ?_)
                  have ri26 : 0 ≤ ivh11 a0 5 ∧ ivh11 a0 5 ≤ 50 := W13.int ty48 5
                  rw [hr.1] at re24
                  have re25 : rvh11 a0 1 = rvh10 a0 1 := (fl11.r ty40 rfl 1)
                  rw [re24] at re25
                  have re26 : rvh10 a0 2 = rvb1 a0 2 := (fl10.r ty3 rfl 2)
                  rw [hr.2] at re26
                  have re27 : rvh11 a0 2 = rvh10 a0 2 := (fl11.r ty40 rfl 2)
                  rw [re26] at re27
                  refine c_lv (lv2 := [(2, .int (iI 0)), (3, .int (iI (k + 1))), (0, .ref a0), (1, .int (iI n))]) [1, 0, 3, 4] rfl ?_
                  exact ih1  0 (k + 1) _ _ _ _ _ (by omega) X7 W13 F9  (by omega) (by omega) (ie39.trans (ie40.trans hc5)) ⟨re25, re27⟩
                · refine c_iconst C dX4_write_128 ?_
                  refine c_goto (tgt := 133) C dX4_write_129 (by decide) ?_
                  refine c_istore_n (lv2 := [(2, .int (iI 1)), (4, .ref f9), (3, .int (iI k)), (0, .ref a0), (1, .int (iI n))]) C dX4_write_133 (by decide) rfl ?_
                  refine c_iinc (z := k) (j := 2) (lv2 := [(3, .int (iI (k + 1))), (2, .int (iI 1)), (4, .ref f9), (0, .ref a0), (1, .int (iI n))]) C dX4_write_134 rfl (by decide) rfl ?_
                  refine c_goto (tgt := 4) C dX4_write_137 (by decide) ?_
                  refine hv4 (xl11.ty ty40) (show ivh11 a0 5 = ivh10 a0 5 from fl11.i ty40 rfl 5) (show ivh10 a0 5 = ivb1 a0 5 from fl10.i ty3 rfl 5) (show rvh10 a0 1 = rvb1 a0 1 from (fl10.r ty3 rfl 1)) (fun ty49 ie42 ie43 re28 => ?_)
                  have ri27 : 0 ≤ ivh11 a0 5 ∧ ivh11 a0 5 ≤ 50 := W13.int ty49 5
                  rw [hr.1] at re28
                  have re29 : rvh11 a0 1 = rvh10 a0 1 := (fl11.r ty40 rfl 1)
                  rw [re28] at re29
                  have re30 : rvh10 a0 2 = rvb1 a0 2 := (fl10.r ty3 rfl 2)
                  rw [hr.2] at re30
                  have re31 : rvh11 a0 2 = rvh10 a0 2 := (fl11.r ty40 rfl 2)
                  rw [re30] at re31
                  refine c_lv (lv2 := [(2, .int (iI 1)), (3, .int (iI (k + 1))), (0, .ref a0), (1, .int (iI n))]) [1, 0, 3, 4] rfl ?_
                  exact ih1  1 (k + 1) _ _ _ _ _ (by omega) X7 W13 F9  (by omega) (by omega) (ie42.trans (ie43.trans hc5)) ⟨re29, re31⟩
              · refine c_aload (j := 0) (x := f9) C dX4_write_78 rfl ?_
                refine c_get (k := 0) C ck_6 dX4_write_80 w3_136 (by decide) rgf9 rfl rfl (by decide) rfl ?_
                refine c_iconst C dX4_write_83 ?_
                refine c_icmp_ne (tgt := 110) C (r32_c (lo := (-2147483648)) (hi := 2147483647) ri22.1 ri22.2 (by decide) (by decide)) ⟨by decide, by decide⟩ dX4_write_84 (by decide) (fun c11 => ?_) (fun c11 => ?_)
                · refine c_aload (j := 0) (x := f9) C dX4_write_110 rfl ?_
                  refine c_aload_n (j := 3) (x := a0) C dX4_write_112 rfl ?_
                  obtain ⟨rb8, rq8, trb8⟩ := Wb1.ref ty3 4 rfl rfl rfl
                  have erb8 := Wb1.sk trb8 (by decide) rfl
                  subst erb8
                  refine c_getr (k := 4) C ck_5 dX4_write_113 w1_233 (by decide) ty3 rfl rfl (by decide) rfl rq8 ?_
                  refine c_st (st2 := [.ref (sk 11), .ref f9]) rfl ?_
                  refine c_iload_n (j := 1) C dX4_write_116 rfl ?_
                  have ty50 := Xb1.ty tsk11
                  refine d_callV (As := [.ref (sk 11), .int (iI cc0)]) (rest := []) C hM (C_wl_11 (a0 := f9) (a1 := (sk 11)) (g := cc0) Wb1 skb1 rgf9 ty50 (by omega) ) dX4_write_117 kV_X4_131 rfl rgf9 rfl rfl (by decide) ck_6 rfl (Nat.le_of_ble_eq_true rfl) ⟨(Nat.le_of_ble_eq_true rfl), (Nat.le_of_ble_eq_true rfl)⟩ hph pl5 (show 0 + 0 = 0 from rfl) (by decide) (fun rh12 Lh12 clh12 lnh12 ivh12 rvh12 h12 => ?_)
                  obtain ⟨rfl, xl12, fl12, W14, exf12⟩ := h12
                  refine hv3 (Fb1.call Xb1 fl12 rfl) (Xb1.trans xl12) (xl12.skl skb1) (fun F10 X8 sk8 => ?_)
                  refine c_st (st2 := []) rfl ?_
                  refine c_aload (j := 0) (x := f9) C dX4_write_120 rfl ?_
                  refine hv2 (xl12.ty rgf9) (show ivh12 f9 0 = ivb1 f9 0 from fl12.i rgf9 rfl 0) (fun ty51 ie45 => ?_)
                  have ri28 : (-2147483648) ≤ ivh12 f9 0 ∧ ivh12 f9 0 ≤ 2147483647 := W14.int ty51 0
                  refine c_get (k := 0) C ck_6 dX4_write_122 w3_136 (by decide) ty51 rfl rfl (by decide) rfl ?_
                  refine c_if_ne (tgt := 132) C (r32_c (lo := (-2147483648)) (hi := 2147483647) ri28.1 ri28.2 (by decide) (by decide)) dX4_write_125 (by decide) (fun c12 => ?_) (fun c12 => ?_)
                  · refine c_iconst C dX4_write_132 ?_
                    refine c_istore_n (lv2 := [(2, .int (iI 0)), (4, .ref f9), (3, .int (iI k)), (0, .ref a0), (1, .int (iI n))]) C dX4_write_133 (by decide) rfl ?_
                    refine c_iinc (z := k) (j := 2) (lv2 := [(3, .int (iI (k + 1))), (2, .int (iI 0)), (4, .ref f9), (0, .ref a0), (1, .int (iI n))]) C dX4_write_134 rfl (by decide) rfl ?_
                    refine c_goto (tgt := 4) C dX4_write_137 (by decide) ?_
                    refine hv3 (xl12.ty ty3) (show ivh12 a0 5 = ivb1 a0 5 from fl12.i ty3 rfl 5) (show rvh12 a0 1 = rvb1 a0 1 from (fl12.r ty3 rfl 1)) (fun ty52 ie46 re32 => ?_)
                    have ri29 : 0 ≤ ivh12 a0 5 ∧ ivh12 a0 5 ≤ 50 := W14.int ty52 5
                    rw [hr.1] at re32
                    have re33 : rvh12 a0 2 = rvb1 a0 2 := (fl12.r ty3 rfl 2)
                    rw [hr.2] at re33
                    refine c_lv (lv2 := [(2, .int (iI 0)), (3, .int (iI (k + 1))), (0, .ref a0), (1, .int (iI n))]) [1, 0, 3, 4] rfl ?_
                    exact ih1  0 (k + 1) _ _ _ _ _ (by omega) X8 W14 F10  (by omega) (by omega) (ie46.trans hc5) ⟨re32, re33⟩
                  · refine c_iconst C dX4_write_128 ?_
                    refine c_goto (tgt := 133) C dX4_write_129 (by decide) ?_
                    refine c_istore_n (lv2 := [(2, .int (iI 1)), (4, .ref f9), (3, .int (iI k)), (0, .ref a0), (1, .int (iI n))]) C dX4_write_133 (by decide) rfl ?_
                    refine c_iinc (z := k) (j := 2) (lv2 := [(3, .int (iI (k + 1))), (2, .int (iI 1)), (4, .ref f9), (0, .ref a0), (1, .int (iI n))]) C dX4_write_134 rfl (by decide) rfl ?_
                    refine c_goto (tgt := 4) C dX4_write_137 (by decide) ?_
                    refine hv3 (xl12.ty ty3) (show ivh12 a0 5 = ivb1 a0 5 from fl12.i ty3 rfl 5) (show rvh12 a0 1 = rvb1 a0 1 from (fl12.r ty3 rfl 1)) (fun ty53 ie48 re34 => ?_)
                    have ri30 : 0 ≤ ivh12 a0 5 ∧ ivh12 a0 5 ≤ 50 := W14.int ty53 5
                    rw [hr.1] at re34
                    have re35 : rvh12 a0 2 = rvb1 a0 2 := (fl12.r ty3 rfl 2)
                    rw [hr.2] at re35
                    refine c_lv (lv2 := [(2, .int (iI 1)), (3, .int (iI (k + 1))), (0, .ref a0), (1, .int (iI n))]) [1, 0, 3, 4] rfl ?_
                    exact ih1  1 (k + 1) _ _ _ _ _ (by omega) X8 W14 F10  (by omega) (by omega) (ie48.trans hc5) ⟨re34, re35⟩
                · refine c_aload_n (j := 3) (x := a0) C dX4_write_87 rfl ?_
                  obtain ⟨rb9, rq9, trb9⟩ := Wb1.ref ty3 4 rfl rfl rfl
                  have erb9 := Wb1.sk trb9 (by decide) rfl
                  subst erb9
                  refine c_getr (k := 4) C ck_5 dX4_write_88 w1_233 (by decide) ty3 rfl rfl (by decide) rfl rq9 ?_
                  refine c_st (st2 := [.ref (sk 11)]) rfl ?_
                  refine c_aload (j := 0) (x := f9) C dX4_write_91 rfl ?_
                  refine c_get (k := 0) C ck_6 dX4_write_93 w3_136 (by decide) rgf9 rfl rfl (by decide) rfl ?_
                  refine c_iconst C dX4_write_96 ?_
                  refine c_icmp_ne (tgt := 105) C (r32_c (lo := (-2147483648)) (hi := 2147483647) ri22.1 ri22.2 (by decide) (by decide)) ⟨by decide, by decide⟩ dX4_write_97 (by decide) (fun _ => ?_) (fun z => absurd z (by omega))
                  refine c_bipush (z := 62) C dX4_write_105 (by decide) ?_
                  have ty54 := Xb1.ty tsk11
                  have ri31 : 0 ≤ ivb1 (sk 11) 2 ∧ ivb1 (sk 11) 2 ≤ 40000 := Wb1.int ty54 2
                  refine d_callV (As := [.int (iI 62)]) (rest := []) C hM (C_add_11 (a0 := (sk 11)) (x := 62) Wb1 skb1 ty54 ⟨by decide, by decide⟩ ) dX4_write_107 kV_X4_128 rfl ty54 rfl rfl (by decide) ck_2 rfl (Nat.le_of_ble_eq_true rfl) ⟨(Nat.le_of_ble_eq_true rfl), (Nat.le_of_ble_eq_true rfl)⟩ hph pl5 (show 0 + 0 = 0 from rfl) (by decide) (fun rh13 Lh13 clh13 lnh13 ivh13 rvh13 h13 => ?_)
                  obtain ⟨rfl, xl13, fl13, W15, exf13⟩ := h13
                  refine hv3 (Fb1.call Xb1 fl13 rfl) (Xb1.trans xl13) (xl13.skl skb1) (fun F11 X9 sk9 => ?_)
                  refine c_st (st2 := []) rfl ?_
                  refine hv2 (xl13.ty ty54) (show ((ivh13 (sk 11) 2 = ivb1 (sk 11) 2 ∧ ivb1 (sk 11) 2 = 40000) ∨ (ivh13 (sk 11) 2 = ivb1 (sk 11) 2 + 1 ∧ ivb1 (sk 11) 2 < 40000)) from exf13) (fun ty55 gf13 => ?_)
                  have ri32 : 0 ≤ ivh13 (sk 11) 2 ∧ ivh13 (sk 11) 2 ≤ 40000 := W15.int ty55 2
                  refine c_aload (j := 0) (x := f9) C dX4_write_110 rfl ?_
                  refine c_aload_n (j := 3) (x := a0) C dX4_write_112 rfl ?_
                  refine hv2 (xl13.ty ty3) (show rvh13 a0 4 = rvb1 a0 4 from (fl13.r ty3 rfl 4)) (fun ty56 re36 => ?_)
                  rw [rq9] at re36
                  refine c_getr (k := 4) C ck_5 dX4_write_113 w1_233 (by decide) ty56 rfl rfl (by decide) rfl re36 ?_
                  refine c_st (st2 := [.ref (sk 11), .ref f9]) rfl ?_
                  refine c_iload_n (j := 1) C dX4_write_116 rfl ?_
                  refine hv2 (xl13.ty rgf9) (Phi.le W15 sk9) (fun ty57 pl7 => ?_)
                  refine d_callV (As := [.ref (sk 11), .int (iI cc0)]) (rest := []) C hM (C_wl_11 (a0 := f9) (a1 := (sk 11)) (g := cc0) W15 sk9 ty57 ty55 (by omega) ) dX4_write_117 kV_X4_131 rfl ty57 rfl rfl (by decide) ck_6 rfl (Nat.le_of_ble_eq_true rfl) ⟨(Nat.le_of_ble_eq_true rfl), (Nat.le_of_ble_eq_true rfl)⟩ hph pl7 (show 0 + 0 = 0 from rfl) (by decide) (fun rh14 Lh14 clh14 lnh14 ivh14 rvh14 h14 => ?_)
                  obtain ⟨rfl, xl14, fl14, W16, exf14⟩ := h14
                  refine hv8 (F11.call X9 fl14 rfl) (xl13.ty ty37) (xl13.ty ty6) (xl13.ty ty7) (xl13.ty ty5) (xl13.ty ty4) (X9.trans xl14) (xl14.skl sk9) (fun F12 ty58 ty59 ty60 ty61 ty62 X10 sk10 => ?_)
                  refine c_st (st2 := []) rfl ?_
                  refine c_aload (j := 0) (x := f9) C dX4_write_120 rfl ?_
                  refine hv3 (xl14.ty ty57) (show ivh14 f9 0 = ivh13 f9 0 from fl14.i ty57 rfl 0) (show ivh13 f9 0 = ivb1 f9 0 from fl13.i rgf9 rfl 0) (fun ty63 ie52 ie53 => ?_)
                  have ri33 : (-2147483648) ≤ ivh14 f9 0 ∧ ivh14 f9 0 ≤ 2147483647 := W16.int ty63 0
                  refine c_get (k := 0) C ck_6 dX4_write_122 w3_136 (by decide) ty63 rfl rfl (by decide) rfl ?_
                  refine c_if_ne (tgt := 132) C (r32_c (lo := (-2147483648)) (hi := 2147483647) ri33.1 ri33.2 (by decide) (by decide)) dX4_write_125 (by decide) (fun c13 => ?_) (fun c13 => ?_)
                  · refine c_iconst C dX4_write_132 ?_
                    refine c_istore_n (lv2 := [(2, .int (iI 0)), (4, .ref f9), (3, .int (iI k)), (0, .ref a0), (1, .int (iI n))]) C dX4_write_133 (by decide) rfl ?_
                    refine c_iinc (z := k) (j := 2) (lv2 := [(3, .int (iI (k + 1))), (2, .int (iI 0)), (4, .ref f9), (0, .ref a0), (1, .int (iI n))]) C dX4_write_134 rfl (by decide) rfl ?_
                    refine c_goto (tgt := 4) C dX4_write_137 (by decide) ?_
                    refine hv4 (xl14.ty ty56) (show ivh14 a0 5 = ivh13 a0 5 from fl14.i ty56 rfl 5) (show ivh13 a0 5 = ivb1 a0 5 from fl13.i ty3 rfl 5) (show rvh13 a0 1 = rvb1 a0 1 from (fl13.r ty3 rfl 1)) (fun ty64 ie54 ie55 re37 => ?_)
                    have ri34 : 0 ≤ ivh14 a0 5 ∧ ivh14 a0 5 ≤ 50 := W16.int ty64 5
                    rw [hr.1] at re37
                    have re38 : rvh14 a0 1 = rvh13 a0 1 := (fl14.r ty56 rfl 1)
                    rw [re37] at re38
                    have re39 : rvh13 a0 2 = rvb1 a0 2 := (fl13.r ty3 rfl 2)
                    rw [hr.2] at re39
                    have re40 : rvh14 a0 2 = rvh13 a0 2 := (fl14.r ty56 rfl 2)
                    rw [re39] at re40
                    refine c_lv (lv2 := [(2, .int (iI 0)), (3, .int (iI (k + 1))), (0, .ref a0), (1, .int (iI n))]) [1, 0, 3, 4] rfl ?_
                    exact ih1  0 (k + 1) _ _ _ _ _ (by omega) X10 W16 F12  (by omega) (by omega) (ie54.trans (ie55.trans hc5)) ⟨re38, re40⟩
                  · refine c_iconst C dX4_write_128 ?_
                    refine c_goto (tgt := 133) C dX4_write_129 (by decide) ?_
                    refine c_istore_n (lv2 := [(2, .int (iI 1)), (4, .ref f9), (3, .int (iI k)), (0, .ref a0), (1, .int (iI n))]) C dX4_write_133 (by decide) rfl ?_
                    refine c_iinc (z := k) (j := 2) (lv2 := [(3, .int (iI (k + 1))), (2, .int (iI 1)), (4, .ref f9), (0, .ref a0), (1, .int (iI n))]) C dX4_write_134 rfl (by decide) rfl ?_
                    refine c_goto (tgt := 4) C dX4_write_137 (by decide) ?_
                    refine hv4 (xl14.ty ty56) (show ivh14 a0 5 = ivh13 a0 5 from fl14.i ty56 rfl 5) (show ivh13 a0 5 = ivb1 a0 5 from fl13.i ty3 rfl 5) (show rvh13 a0 1 = rvb1 a0 1 from (fl13.r ty3 rfl 1)) (fun ty65 ie57 ie58 re41 => ?_)
                    have ri35 : 0 ≤ ivh14 a0 5 ∧ ivh14 a0 5 ≤ 50 := W16.int ty65 5
                    rw [hr.1] at re41
                    have re42 : rvh14 a0 1 = rvh13 a0 1 := (fl14.r ty56 rfl 1)
                    rw [re41] at re42
                    have re43 : rvh13 a0 2 = rvb1 a0 2 := (fl13.r ty3 rfl 2)
                    rw [hr.2] at re43
                    have re44 : rvh14 a0 2 = rvh13 a0 2 := (fl14.r ty56 rfl 2)
                    rw [re43] at re44
                    refine c_lv (lv2 := [(2, .int (iI 1)), (3, .int (iI (k + 1))), (0, .ref a0), (1, .int (iI n))]) [1, 0, 3, 4] rfl ?_
                    exact ih1  1 (k + 1) _ _ _ _ _ (by omega) X10 W16 F12  (by omega) (by omega) (ie57.trans (ie58.trans hc5)) ⟨re42, re44⟩
        · refine c_aload_n (j := 2) (x := a0) C dX4_write_18 rfl ?_
          obtain ⟨rb10, rq10, trb10⟩ := Wb1.ref ty3 4 rfl rfl rfl
          have erb10 := Wb1.sk trb10 (by decide) rfl
          subst erb10
          refine c_getr (k := 4) C ck_5 dX4_write_19 w1_233 (by decide) ty3 rfl rfl (by decide) rfl rq10 ?_
          refine c_st (st2 := [.ref (sk 11)]) rfl ?_
          refine c_bipush (z := 32) C dX4_write_22 (by decide) ?_
          refine hv2 (Xb1.ty tsk11) (Phi.le Wb1 skb1) (fun ty66 pl8 => ?_)
          have ri36 : 0 ≤ ivb1 (sk 11) 2 ∧ ivb1 (sk 11) 2 ≤ 40000 := Wb1.int ty66 2
          refine d_callV (As := [.int (iI 32)]) (rest := []) C hM (C_add_11 (a0 := (sk 11)) (x := 32) Wb1 skb1 ty66 ⟨by decide, by decide⟩ ) dX4_write_24 kV_X4_128 rfl ty66 rfl rfl (by decide) ck_2 rfl (Nat.le_of_ble_eq_true rfl) ⟨(Nat.le_of_ble_eq_true rfl), (Nat.le_of_ble_eq_true rfl)⟩ hph pl8 (show 0 + 0 = 0 from rfl) (by decide) (fun rh15 Lh15 clh15 lnh15 ivh15 rvh15 h15 => ?_)
          obtain ⟨rfl, xl15, fl15, W17, exf15⟩ := h15
          refine hv7 (Fb1.call Xb1 fl15 rfl) (Xb1.ty tsk16) (Xb1.ty tsk24) (Xb1.ty tsk25) (Xb1.ty tnb0) (Xb1.trans xl15) (xl15.skl skb1) (fun F13 ty67 ty68 ty69 ty70 X11 sk11 => ?_)
          refine c_st (st2 := []) rfl ?_
          refine hv2 (xl15.ty ty66) (show ((ivh15 (sk 11) 2 = ivb1 (sk 11) 2 ∧ ivb1 (sk 11) 2 = 40000) ∨ (ivh15 (sk 11) 2 = ivb1 (sk 11) 2 + 1 ∧ ivb1 (sk 11) 2 < 40000)) from exf15) (fun ty71 gf15 => ?_)
          have ri37 : 0 ≤ ivh15 (sk 11) 2 ∧ ivh15 (sk 11) 2 ≤ 40000 := W17.int ty71 2
          refine c_goto (tgt := 134) C dX4_write_27 (by decide) ?_
          refine c_iinc (z := k) (j := 1) (lv2 := [(3, .int (iI (k + 1))), (2, .int (iI cc0)), (0, .ref a0), (1, .int (iI n))]) C dX4_write_134 rfl (by decide) rfl ?_
          refine c_goto (tgt := 4) C dX4_write_137 (by decide) ?_
          refine hv3 (xl15.ty ty3) (show ivh15 a0 5 = ivb1 a0 5 from fl15.i ty3 rfl 5) (show rvh15 a0 1 = rvb1 a0 1 from (fl15.r ty3 rfl 1)) (fun ty72 ie62 re45 => ?_)
          have ri38 : 0 ≤ ivh15 a0 5 ∧ ivh15 a0 5 ≤ 50 := W17.int ty72 5
          rw [hr.1] at re45
          have re46 : rvh15 a0 2 = rvb1 a0 2 := (fl15.r ty3 rfl 2)
          rw [hr.2] at re46
          refine c_lv (lv2 := [(2, .int (iI cc0)), (3, .int (iI (k + 1))), (0, .ref a0), (1, .int (iI n))]) [1, 0, 2, 3] rfl ?_
          exact ih1  cc0 (k + 1) _ _ _ _ _ (by omega) X11 W17 F13  (by omega) (by omega) (ie62.trans hc5) ⟨re45, re46⟩
  have ri39 : 0 ≤ iv a0 5 ∧ iv a0 5 ≤ 50 := hW.int t_a0 5
  refine c_lv (lv2 := [(2, .int (iI 0)), (3, .int (iI 0)), (0, .ref a0), (1, .int (iI n))]) [1, 0, 2, 3] rfl ?_
  exact Lp1 103 0 0 _ _ _ _ _ (by omega) hX0 hW hF0  (by omega) (by omega) rfl ⟨hnb0, hcb0⟩
set_option maxHeartbeats 4000000 in
set_option maxRecDepth 100000 in
theorem C_walk {l : Launch} {G : GT} {mi : Nat} {sk : Nat → Nat} {L : List Nat} {cl ln : Nat → Nat} {iv : Nat → Nat → Int} {rv : Nat → Nat → Option Nat}  {a0 : Nat} {x : Int} (hW : WT (g0 G) sk L cl ln iv rv) (hS : SKL sk L cl) (t_a0 : ty L cl a0 17) (h_x : -2147483648 ≤ x ∧ x ≤ 2147483647) (hx : x ≤ 50) : Mc l G mi (Phi (g0 G) sk) PHM yX4_walk cX4_walk 6 none 6 [.ref a0, .int (iI x)] L cl ln iv rv 0 (fun v L2 cl2 ln2 iv2 rv2 => v = none ∧ XT L cl ln L2 cl2 ln2 ∧ fT [17, 60, 61, 62, 11, 41] L cl iv rv iv2 rv2 ∧ WT (g0 G) sk L2 cl2 ln2 iv2 rv2 ∧ (True)) := by
  refine Mc.mk (by decide) (Nat.le_of_ble_eq_true rfl) ?_
  intro p e s m args below meth c A C hM
  refine hv7 (Phi.le hW hS) (show ty L cl (sk 11) 11 from ⟨(hS 11 rfl).1, by rw [(hS 11 rfl).2]; rfl⟩) (show ty L cl (sk 16) 16 from ⟨(hS 16 rfl).1, by rw [(hS 16 rfl).2]; rfl⟩) (show ty L cl (sk 24) 24 from ⟨(hS 24 rfl).1, by rw [(hS 24 rfl).2]; rfl⟩) (show ty L cl (sk 25) 25 from ⟨(hS 25 rfl).1, by rw [(hS 25 rfl).2]; rfl⟩) (show XT L cl ln L cl ln from XT.refl) (show fT [17, 60, 61, 62, 11, 41] L cl iv rv iv rv from fT.refl) (fun hph tsk11 tsk16 tsk24 tsk25 hX0 hF0 => ?_)
  obtain ⟨nb0, hnb0, tnb0⟩ := hW.ref t_a0 1 rfl rfl rfl
  obtain ⟨cb0, hcb0, tcb0⟩ := hW.ref t_a0 2 rfl rfl rfl
  refine c_iconst C dX4_walk_0 ?_
  refine c_istore_n (lv2 := [(2, .int (iI 0)), (0, .ref a0), (1, .int (iI x))]) C dX4_walk_1 (by decide) rfl ?_
  refine c_aload_n (j := 1) (x := a0) C dX4_walk_2 rfl ?_
  refine c_getr (k := 1) C ck_5 dX4_walk_3 w1_230 (by decide) t_a0 rfl rfl (by decide) rfl hnb0 ?_
  refine c_st (st2 := [.ref nb0]) rfl ?_
  refine c_iconst C dX4_walk_6 ?_
  refine c_iconst C dX4_walk_7 ?_
  have ll1 : 101 ≤ ln nb0 ∧ ln nb0 ≤ 101 := hW.len tnb0 rfl
  refine c_iast (x := 0) C dX4_walk_8 tnb0 rfl (by omega) (by omega) (by omega) (fun iv1 pq1 => ?_)
  refine hv2 (hW.puti pq1 tnb0 (show (-2147483648) ≤ 0 ∧ 0 ≤ 2147483647 by omega) rfl) (hF0.puti hX0 pq1 tnb0 rfl) (fun W1 F1 => ?_)
  refine c_aload_n (j := 1) (x := a0) C dX4_walk_9 rfl ?_
  refine c_getr (k := 2) C ck_5 dX4_walk_10 w1_231 (by decide) t_a0 rfl rfl (by decide) rfl hcb0 ?_
  refine c_st (st2 := [.ref cb0]) rfl ?_
  refine c_iconst C dX4_walk_13 ?_
  refine c_iconst C dX4_walk_14 ?_
  have ll2 : 101 ≤ ln cb0 ∧ ln cb0 ≤ 101 := W1.len tcb0 rfl
  refine c_iast (x := (-1)) C dX4_walk_15 tcb0 rfl (by omega) (by omega) (by omega) (fun iv2 pq2 => ?_)
  refine hv2 (W1.puti pq2 tcb0 (show (-2147483648) ≤ (-1) ∧ (-1) ≤ 2147483647 by omega) rfl) (F1.puti hX0 pq2 tcb0 rfl) (fun W2 F2 => ?_)
  refine c_iconst C dX4_walk_16 ?_
  refine c_istore_n (lv2 := [(3, .int (iI 0)), (2, .int (iI 0)), (0, .ref a0), (1, .int (iI x))]) C dX4_walk_17 (by decide) rfl ?_
  have Lp1 : ∀ (nn : Nat) (dp tn : Int) (Lb1 : List Nat) (clb1 lnb1 : Nat → Nat) (ivb1 : Nat → Nat → Int) (rvb1 : Nat → Nat → Option Nat) , 1000001 - tn < (nn : Int) → XT L cl ln Lb1 clb1 lnb1 → WT (g0 G) sk Lb1 clb1 lnb1 ivb1 rvb1 → fT [17, 60, 61, 62, 11, 41] L cl iv rv ivb1 rvb1 → (-1 ≤ dp ∧ dp ≤ 100) → (0 ≤ tn ∧ tn ≤ 1000000) → (rvb1 a0 1 = some nb0 ∧ rvb1 a0 2 = some cb0) → (WKI sk ivb1 nb0 cb0 dp) → cw p l e 6 ((PHM) + 0 - ((Phi (g0 G) sk) ln rv)) s m args below meth c G A 6 (MQ below (Qu G A (Qp G (Phi (g0 G) sk) ((Phi (g0 G) sk) ln rv) 0 (fun v L2 cl2 ln2 iv2 rv2 => v = none ∧ XT L cl ln L2 cl2 ln2 ∧ fT [17, 60, 61, 62, 11, 41] L cl iv rv iv2 rv2 ∧ WT (g0 G) sk L2 cl2 ln2 iv2 rv2 ∧ (True)))) args s (((PHM) + 0 - ((Phi (g0 G) sk) ln rv)) / 16) ((PHM) + 0 - ((Phi (g0 G) sk) ln rv)) A) (Phi (g0 G) sk) ((Phi (g0 G) sk) ln rv) Lb1 clb1 lnb1 ivb1 rvb1 0 18 [(2, .int (iI dp)), (3, .int (iI tn)), (0, .ref a0), (1, .int (iI x))] [] := by
    intro nn
    induction nn with
    | zero =>
      intro  dp tn Lb1 clb1 lnb1 ivb1 rvb1 hm Xb1 Wb1 Fb1  hdp ht hr hwi
      have skb1 := Xb1.skl hS
      exact absurd hm (by omega)
    | succ nn ih1 =>
      intro  dp tn Lb1 clb1 lnb1 ivb1 rvb1 hm Xb1 Wb1 Fb1  hdp ht hr hwi
      have skb1 := Xb1.skl hS
      refine c_iload_n (j := 0) C dX4_walk_18 rfl ?_
      refine c_if_lt (tgt := 165) C (r32_c (lo := (-1)) (hi := 100) hdp.1 hdp.2 (by decide) (by decide)) dX4_walk_19 (by decide) (fun c1 => ?_) (fun c1 => ?_)
      · have pl1 := Phi.le Wb1 skb1
        exact c_vret C dX4_walk_165 rfl (by decide) (rom0 hph pl1 (by decide)) ⟨rfl, Xb1, Fb1, Wb1, trivial⟩
      · refine c_iload_n (j := 1) C dX4_walk_22 rfl ?_
        refine c_ldc (z := 1000000) C dX4_walk_23 w5_159 rfl ?_
        refine c_icmp_ge (tgt := 165) C (r32_c (lo := 0) (hi := 1000000) ht.1 ht.2 (by decide) (by decide)) ⟨by decide, by decide⟩ dX4_walk_25 (by decide) (fun c2 => ?_) (fun c2 => ?_)
        · have pl2 := Phi.le Wb1 skb1
          exact c_vret C dX4_walk_165 rfl (by decide) (rom0 hph pl2 (by decide)) ⟨rfl, Xb1, Fb1, Wb1, trivial⟩
        · have ty1 := Xb1.ty tsk24
          refine hv4 (show 0 ≤ ivb1 (sk 24) 2 ∧ ivb1 (sk 24) 2 ≤ 6003 from Wb1.int ty1 2) (show ivb1 (sk 24) 2 = iv (sk 24) 2 from Fb1.i tsk24 rfl 2) (Xb1.ty tsk25) (show ivb1 (sk 25) 2 = iv (sk 25) 2 from Fb1.i tsk25 rfl 2) (fun ri1 ie1 ty2 ie2 => ?_)
          have ri2 : 0 ≤ ivb1 (sk 25) 2 ∧ ivb1 (sk 25) 2 ≤ 6003 := Wb1.int ty2 2
          obtain ⟨wk1, wk2, wk3, wk4, wk5⟩ := hwi dp.toNat (by omega)
          have wk6 : ivb1 cb0 dp.toNat ≤ 0 ∨ ivb1 cb0 dp.toNat ≤ ivb1 (sk 24) 2 ∨ ivb1 cb0 dp.toNat ≤ ivb1 (sk 25) 2 := wk5.elim Or.inl (fun q => Or.inr (q.elim (fun q => Or.inl q.2) (fun q => Or.inr q.2)))
          refine c_aload_n (j := 2) (x := a0) C dX4_walk_28 rfl ?_
          have ty3 := Xb1.ty t_a0
          refine c_getr (k := 1) C ck_5 dX4_walk_29 w1_230 (by decide) ty3 rfl rfl (by decide) rfl hr.1 ?_
          refine c_st (st2 := [.ref nb0]) rfl ?_
          refine c_iload_n (j := 0) C dX4_walk_32 rfl ?_
          have ty4 := Xb1.ty tnb0
          have ll3 : 101 ≤ lnb1 nb0 ∧ lnb1 nb0 ≤ 101 := Wb1.len ty4 rfl
          refine c_iald C dX4_walk_33 ty4 rfl (by omega) (by omega) (by omega) ?_
          have ri3 : (-2147483648) ≤ ivb1 nb0 dp.toNat ∧ ivb1 nb0 dp.toNat ≤ 2147483647 := Wb1.int ty4 dp.toNat
          refine c_aload_n (j := 2) (x := a0) C dX4_walk_34 rfl ?_
          have ri4 : 0 ≤ ivb1 a0 9 ∧ ivb1 a0 9 ≤ 100 := Wb1.int ty3 9
          refine c_get (k := 9) C ck_5 dX4_walk_35 w2_0 (by decide) ty3 rfl rfl (by decide) rfl ?_
          refine c_iconst C dX4_walk_38 ?_
          refine c_imul C dX4_walk_39 ?_
          refine c_icmp_lt (tgt := 47) C (r32_c (lo := (-2147483648)) (hi := 2147483647) ri3.1 ri3.2 (by decide) (by decide)) ⟨by omega, by omega⟩ dX4_walk_40 (by decide) (fun c3 => ?_) (fun c3 => ?_)
          · refine c_iconst C dX4_walk_47 ?_
            refine c_istore (lv2 := [(4, .int (iI 0)), (2, .int (iI dp)), (3, .int (iI tn)), (0, .ref a0), (1, .int (iI x))]) C dX4_walk_48 (by decide) rfl ?_
            refine c_iload (j := 0) C dX4_walk_50 rfl ?_
            refine c_if_eq (tgt := 69) C ⟨by decide, by decide⟩ dX4_walk_52 (by decide) (fun _ => ?_) (fun z => absurd z (by omega))
            refine c_iload (j := 0) C dX4_walk_69 rfl ?_
            refine c_if_eq (tgt := 78) C ⟨by decide, by decide⟩ dX4_walk_71 (by decide) (fun _ => ?_) (fun z => absurd z (by omega))
            refine c_aload_n (j := 3) (x := a0) C dX4_walk_78 rfl ?_
            refine c_aload_n (j := 3) (x := a0) C dX4_walk_79 rfl ?_
            refine c_getr (k := 1) C ck_5 dX4_walk_80 w1_230 (by decide) ty3 rfl rfl (by decide) rfl hr.1 ?_
            refine c_st (st2 := [.ref nb0, .ref a0]) rfl ?_
            refine c_iload_n (j := 1) C dX4_walk_83 rfl ?_
            refine c_iald C dX4_walk_84 ty4 rfl (by omega) (by omega) (by omega) ?_
            refine c_aload_n (j := 3) (x := a0) C dX4_walk_85 rfl ?_
            refine c_getr (k := 2) C ck_5 dX4_walk_86 w1_231 (by decide) ty3 rfl rfl (by decide) rfl hr.2 ?_
            refine c_st (st2 := [.ref cb0, .int (iI (ivb1 nb0 dp.toNat)), .ref a0]) rfl ?_
            refine c_iload_n (j := 1) C dX4_walk_89 rfl ?_
            have ty5 := Xb1.ty tcb0
            have ll4 : 101 ≤ lnb1 cb0 ∧ lnb1 cb0 ≤ 101 := Wb1.len ty5 rfl
            refine c_iald C dX4_walk_90 ty5 rfl (by omega) (by omega) (by omega) ?_
            have ri5 : (-2147483648) ≤ ivb1 cb0 dp.toNat ∧ ivb1 cb0 dp.toNat ≤ 2147483647 := Wb1.int ty5 dp.toNat
            refine c_iconst C dX4_walk_91 ?_
            refine c_iadd C dX4_walk_92 ?_
            have pl3 := Phi.le Wb1 skb1
            refine d_callV (As := [.int (iI (ivb1 nb0 dp.toNat)), .int (iI ((ivb1 cb0 dp.toNat) + 1))]) (rest := []) C hM (C_nextChoice (a0 := a0) (i := ivb1 nb0 dp.toNat) (x := (ivb1 cb0 dp.toNat) + 1) Wb1 skb1 ty3 (by omega) (by omega) (by show 0 ≤ (ivb1 nb0 dp.toNat) ∧ (ivb1 nb0 dp.toNat) ≤ 403 ∧ 0 ≤ ((ivb1 cb0 dp.toNat) + 1); omega)) dX4_walk_93 kV_X4_85 rfl ty3 rfl rfl (by decide) ck_5 rfl (Nat.le_of_ble_eq_true rfl) ⟨(Nat.le_of_ble_eq_true rfl), (Nat.le_of_ble_eq_true rfl)⟩ hph pl3 (show 0 + 0 = 0 from rfl) (by decide) (fun rh1 Lh1 clh1 lnh1 ivh1 rvh1 h1 => ?_)
            obtain ⟨f1, rfl, rfl, rfl, rfl, rfl, rfl, rgf1, exf1⟩ := h1
            refine c_st (st2 := [.int (iI f1)]) rfl ?_
            have gf1 : f1 = -1 ∨ (((ivb1 cb0 dp.toNat) + 1) ≤ f1 ∧ VL sk ivb1 (ivb1 nb0 dp.toNat) f1 ∧ GD sk lnb1 ivb1 rvb1 a0 (ivb1 nb0 dp.toNat) ((ivb1 nb0 dp.toNat) / 4) f1) := exf1
            refine c_istore (lv2 := [(5, .int (iI f1)), (4, .int (iI 0)), (2, .int (iI dp)), (3, .int (iI tn)), (0, .ref a0), (1, .int (iI x))]) C dX4_walk_96 (by decide) rfl ?_
            refine c_iload (j := 1) C dX4_walk_98 rfl ?_
            refine c_if_eq (tgt := 108) C ⟨by decide, by decide⟩ dX4_walk_100 (by decide) (fun _ => ?_) (fun z => absurd z (by omega))
            refine c_iload (j := 0) C dX4_walk_108 rfl ?_
            refine c_if_ge (tgt := 119) C ⟨by omega, by omega⟩ dX4_walk_110 (by decide) (fun c4 => ?_) (fun c4 => ?_)
            · replace gf1 := gf1.resolve_left (fun q => by omega)
              refine c_aload_n (j := 4) (x := a0) C dX4_walk_119 rfl ?_
              refine c_getr (k := 2) C ck_5 dX4_walk_120 w1_231 (by decide) ty3 rfl rfl (by decide) rfl hr.2 ?_
              refine c_st (st2 := [.ref cb0]) rfl ?_
              refine c_iload_n (j := 2) C dX4_walk_123 rfl ?_
              refine c_iload (j := 0) C dX4_walk_124 rfl ?_
              refine c_iast (x := f1) C dX4_walk_126 ty5 rfl (by omega) (by omega) (by omega) (fun iv3 pq3 => ?_)
              refine hv2 (Wb1.puti pq3 ty5 (show (-2147483648) ≤ f1 ∧ f1 ≤ 2147483647 by omega) rfl) (Fb1.puti Xb1 pq3 ty5 rfl) (fun W4 F3 => ?_)
              refine c_aload_n (j := 4) (x := a0) C dX4_walk_127 rfl ?_
              refine c_getr (k := 1) C ck_5 dX4_walk_128 w1_230 (by decide) ty3 rfl rfl (by decide) rfl hr.1 ?_
              refine c_st (st2 := [.ref nb0]) rfl ?_
              refine c_iload_n (j := 2) C dX4_walk_131 rfl ?_
              refine c_iconst C dX4_walk_132 ?_
              refine c_iadd C dX4_walk_133 ?_
              refine c_aload_n (j := 4) (x := a0) C dX4_walk_134 rfl ?_
              refine c_aload_n (j := 4) (x := a0) C dX4_walk_135 rfl ?_
              refine c_getr (k := 1) C ck_5 dX4_walk_136 w1_230 (by decide) ty3 rfl rfl (by decide) rfl hr.1 ?_
              refine c_st (st2 := [.ref nb0, .ref a0, .int (iI (dp + 1)), .ref nb0]) rfl ?_
              refine c_iload_n (j := 2) C dX4_walk_139 rfl ?_
              refine c_iald C dX4_walk_140 ty4 rfl (by omega) (by omega) (by omega) ?_
              refine hv2 (show (-2147483648) ≤ iv3 nb0 dp.toNat ∧ iv3 nb0 dp.toNat ≤ 2147483647 from W4.int ty4 dp.toNat) (show iv3 nb0 dp.toNat = ivb1 nb0 dp.toNat from by rw [pq3]; exact up2_k (ne_ty ty4 ty5 (by decide))) (fun ri6 ie6 => ?_)
              refine c_iload (j := 0) C dX4_walk_141 rfl ?_
              refine hv3 (show iv3 nb0 dp.toNat = ivb1 nb0 dp.toNat from by rw [pq3]; exact up2_k (ne_ty ty4 ty5 (by decide))) (show 0 ≤ iv3 a0 9 ∧ iv3 a0 9 ≤ 100 from W4.int ty3 9) (show iv3 a0 9 = ivb1 a0 9 from by rw [pq3]; exact up2_k (ne_ty ty3 ty5 (by decide))) (fun en ri7 ie7 => ?_)
              have vv := (exf1.resolve_left (fun q => absurd q (by omega))).2
              have vp := vv.1.put skb1 pq3 ty5
              refine d_callV (As := [.int (iI (iv3 nb0 dp.toNat)), .int (iI f1)]) (rest := [.int (iI (dp + 1)), .ref nb0]) C hM (C_nodeBehind (a0 := a0) (i := iv3 nb0 dp.toNat) (x := f1) W4 skb1 ty3 (by omega) (by omega) (by show 0 ≤ (iv3 nb0 dp.toNat) ∧ (iv3 nb0 dp.toNat) ≤ 403; omega) (by rw [en]; exact vp)) dX4_walk_143 kV_X4_92 rfl ty3 rfl rfl (by decide) ck_5 rfl (Nat.le_of_ble_eq_true rfl) ⟨(Nat.le_of_ble_eq_true rfl), (Nat.le_of_ble_eq_true rfl)⟩ hph pl3 (show 0 + 0 = 0 from rfl) (by decide) (fun rh2 Lh2 clh2 lnh2 ivh2 rvh2 h2 => ?_)
              obtain ⟨f2, rfl, rfl, rfl, rfl, rfl, rfl, rgf2, exf2⟩ := h2
              refine c_st (st2 := [.int (iI f2), .int (iI (dp + 1)), .ref nb0]) rfl ?_
              refine hv2 (show (f2 = -1 ∧ ¬ GD sk lnb1 iv3 rvb1 a0 (iv3 nb0 dp.toNat) ((iv3 nb0 dp.toNat) / 4) f1) ∨ (GD sk lnb1 iv3 rvb1 a0 (iv3 nb0 dp.toNat) ((iv3 nb0 dp.toNat) / 4) f1 ∧ 4 * ((iv3 nb0 dp.toNat) / 4) + 4 ≤ f2 ∧ f2 ≤ 4 * iv3 a0 9 + 3) from exf2) (show 4 * ((iv3 nb0 dp.toNat) / 4) + 4 ≤ f2 ∧ f2 ≤ 4 * iv3 a0 9 + 3 from exf2.elim (fun q => absurd (by rw [en]; exact vv.2.put vv.1 Wb1 skb1 ty3 pq3 ty5) q.2) (fun q => q.2)) (fun gf2 nq => ?_)
              refine c_iast (x := f2) C dX4_walk_146 ty4 rfl (by omega) (by omega) (by omega) (fun iv4 pq4 => ?_)
              refine hv2 (W4.puti pq4 ty4 (show (-2147483648) ≤ f2 ∧ f2 ≤ 2147483647 by omega) rfl) (F3.puti Xb1 pq4 ty4 rfl) (fun W6 F4 => ?_)
              refine c_aload_n (j := 4) (x := a0) C dX4_walk_147 rfl ?_
              refine c_getr (k := 2) C ck_5 dX4_walk_148 w1_231 (by decide) ty3 rfl rfl (by decide) rfl hr.2 ?_
              refine c_st (st2 := [.ref cb0]) rfl ?_
              refine c_iload_n (j := 2) C dX4_walk_151 rfl ?_
              refine c_iconst C dX4_walk_152 ?_
              refine c_iadd C dX4_walk_153 ?_
              refine c_iconst C dX4_walk_154 ?_
              refine c_iast (x := (-1)) C dX4_walk_155 ty5 rfl (by omega) (by omega) (by omega) (fun iv5 pq5 => ?_)
              refine hv2 (W6.puti pq5 ty5 (show (-2147483648) ≤ (-1) ∧ (-1) ≤ 2147483647 by omega) rfl) (F4.puti Xb1 pq5 ty5 rfl) (fun W7 F5 => ?_)
              refine c_iinc (z := dp) (j := 2) (lv2 := [(2, .int (iI (dp + 1))), (5, .int (iI f1)), (4, .int (iI 0)), (3, .int (iI tn)), (0, .ref a0), (1, .int (iI x))]) C dX4_walk_156 rfl (by decide) rfl ?_
              refine c_iinc (z := tn) (j := 3) (lv2 := [(3, .int (iI (tn + 1))), (2, .int (iI (dp + 1))), (5, .int (iI f1)), (4, .int (iI 0)), (0, .ref a0), (1, .int (iI x))]) C dX4_walk_159 rfl (by decide) rfl ?_
              refine c_goto (tgt := 18) C dX4_walk_162 (by decide) ?_
              refine c_lv (lv2 := [(2, .int (iI (dp + 1))), (3, .int (iI (tn + 1))), (0, .ref a0), (1, .int (iI x))]) [1, 0, 4, 5] rfl ?_
              exact ih1  (dp + 1) (tn + 1) _ _ _ _ _ (by omega) Xb1 W7 F5  (by omega) (by omega) ⟨hr.1, hr.2⟩ (WKI.next hwi pq3 pq4 pq5 (ne_ty ty4 ty5 (by decide)) (by omega) vv.1 (by omega) (by omega) (ne_ty ty1 ty4 (by decide)) (ne_ty ty1 ty5 (by decide)) (ne_ty ty2 ty4 (by decide)) (ne_ty ty2 ty5 (by decide)))
            · refine c_iinc (z := dp) (j := 2) (lv2 := [(2, .int (iI (dp + (-1)))), (5, .int (iI f1)), (4, .int (iI 0)), (3, .int (iI tn)), (0, .ref a0), (1, .int (iI x))]) C dX4_walk_113 rfl (by decide) rfl ?_
              refine c_goto (tgt := 159) C dX4_walk_116 (by decide) ?_
              refine c_iinc (z := tn) (j := 3) (lv2 := [(3, .int (iI (tn + 1))), (2, .int (iI (dp + (-1)))), (5, .int (iI f1)), (4, .int (iI 0)), (0, .ref a0), (1, .int (iI x))]) C dX4_walk_159 rfl (by decide) rfl ?_
              refine c_goto (tgt := 18) C dX4_walk_162 (by decide) ?_
              refine c_lv (lv2 := [(2, .int (iI (dp + (-1)))), (3, .int (iI (tn + 1))), (0, .ref a0), (1, .int (iI x))]) [1, 0, 4, 5] rfl ?_
              exact ih1  (dp + (-1)) (tn + 1) _ _ _ _ _ (by omega) Xb1 Wb1 Fb1  (by omega) (by omega) ⟨hr.1, hr.2⟩ hwi.back
          · refine c_iconst C dX4_walk_43 ?_
            refine c_goto (tgt := 48) C dX4_walk_44 (by decide) ?_
            refine c_istore (lv2 := [(4, .int (iI 1)), (2, .int (iI dp)), (3, .int (iI tn)), (0, .ref a0), (1, .int (iI x))]) C dX4_walk_48 (by decide) rfl ?_
            refine c_iload (j := 0) C dX4_walk_50 rfl ?_
            refine c_if_eq (tgt := 69) C ⟨by decide, by decide⟩ dX4_walk_52 (by decide) (fun z => absurd z (by omega)) (fun _ => ?_)
            refine c_aload_n (j := 3) (x := a0) C dX4_walk_55 rfl ?_
            have ri8 : 0 ≤ ivb1 a0 5 ∧ ivb1 a0 5 ≤ 50 := Wb1.int ty3 5
            refine c_get (k := 5) C ck_5 dX4_walk_56 w1_234 (by decide) ty3 rfl rfl (by decide) rfl ?_
            refine c_iload_n (j := 4) C dX4_walk_59 rfl ?_
            refine c_icmp_lt (tgt := 69) C (r32_c (lo := 0) (hi := 50) ri8.1 ri8.2 (by decide) (by decide)) ⟨by omega, by omega⟩ dX4_walk_60 (by decide) (fun c5 => ?_) (fun c5 => ?_)
            · refine c_iload (j := 0) C dX4_walk_69 rfl ?_
              refine c_if_eq (tgt := 78) C ⟨by decide, by decide⟩ dX4_walk_71 (by decide) (fun z => absurd z (by omega)) (fun _ => ?_)
              refine c_iconst C dX4_walk_74 ?_
              refine c_goto (tgt := 96) C dX4_walk_75 (by decide) ?_
              refine c_istore (lv2 := [(5, .int (iI (-1))), (4, .int (iI 1)), (2, .int (iI dp)), (3, .int (iI tn)), (0, .ref a0), (1, .int (iI x))]) C dX4_walk_96 (by decide) rfl ?_
              refine c_iload (j := 1) C dX4_walk_98 rfl ?_
              refine c_if_eq (tgt := 108) C ⟨by decide, by decide⟩ dX4_walk_100 (by decide) (fun z => absurd z (by omega)) (fun _ => ?_)
              refine c_aload_n (j := 4) (x := a0) C dX4_walk_103 rfl ?_
              refine c_iload_n (j := 2) C dX4_walk_104 rfl ?_
              refine hv2 (Xb1.ty tcb0) (Phi.le Wb1 skb1) (fun ty6 pl4 => ?_)
              refine d_callV (As := [.int (iI dp)]) (rest := []) C hM (C_rwrite (a0 := a0) (n := dp) Wb1 skb1 ty3 (by omega) (by show 0 ≤ dp ∧ dp ≤ 100; omega) (by show ivb1 a0 5 < 50; omega) (fun nb cb h1 h2 d hd => by rw [hr.1] at h1; cases h1; rw [hr.2] at h2; cases h2; exact ⟨(hwi d (by omega)).2.2.2.1 hd, (hwi d (by omega)).2.2.2.2⟩)) dX4_walk_105 kV_X4_89 rfl ty3 rfl rfl (by decide) ck_5 rfl (Nat.le_of_ble_eq_true rfl) ⟨(Nat.le_of_ble_eq_true rfl), (Nat.le_of_ble_eq_true rfl)⟩ hph pl4 (show 0 + 0 = 0 from rfl) (by decide) (fun rh3 Lh3 clh3 lnh3 ivh3 rvh3 h3 => ?_)
              obtain ⟨rfl, xl3, fl3, W8, exf3⟩ := h3
              refine hv5 (Fb1.call Xb1 fl3 rfl) (Xb1.ty tsk11) (Xb1.ty tsk16) (Xb1.trans xl3) (xl3.skl skb1) (fun F6 ty7 ty8 X1 sk1 => ?_)
              refine c_st (st2 := []) rfl ?_
              refine hv3 (show rvh3 a0 1 = rvb1 a0 1 ∧ rvh3 a0 2 = rvb1 a0 2 from exf3) (exf3.1.trans hr.1) (exf3.2.trans hr.2) (fun gf3 rw1 rw2 => ?_)
              refine c_iload (j := 0) C dX4_walk_108 rfl ?_
              refine c_if_ge (tgt := 119) C ⟨by decide, by decide⟩ dX4_walk_110 (by decide) (fun z => absurd z (by omega)) (fun _ => ?_)
              refine c_iinc (z := dp) (j := 2) (lv2 := [(2, .int (iI (dp + (-1)))), (5, .int (iI (-1))), (4, .int (iI 1)), (3, .int (iI tn)), (0, .ref a0), (1, .int (iI x))]) C dX4_walk_113 rfl (by decide) rfl ?_
              refine c_goto (tgt := 159) C dX4_walk_116 (by decide) ?_
              refine c_iinc (z := tn) (j := 3) (lv2 := [(3, .int (iI (tn + 1))), (2, .int (iI (dp + (-1)))), (5, .int (iI (-1))), (4, .int (iI 1)), (0, .ref a0), (1, .int (iI x))]) C dX4_walk_159 rfl (by decide) rfl ?_
              refine c_goto (tgt := 18) C dX4_walk_162 (by decide) ?_
              refine hv3 (xl3.ty ty4) (xl3.ty ty6) (xl3.ty ty3) (fun ty9 ty10 ty11 => ?_)
              refine c_lv (lv2 := [(2, .int (iI (dp + (-1)))), (3, .int (iI (tn + 1))), (0, .ref a0), (1, .int (iI x))]) [1, 0, 4, 5] rfl ?_
              exact ih1  (dp + (-1)) (tn + 1) _ _ _ _ _ (by omega) X1 W8 F6  (by omega) (by omega) ⟨rw1, rw2⟩ (WKI.back (WKI.fr hwi (fun d => fl3.i ty4 rfl d) (fun d => fl3.i ty6 rfl d) (fl3.i ty1 rfl 2) (fl3.i ty2 rfl 2)))
            · refine c_aload_n (j := 3) (x := a0) C dX4_walk_63 rfl ?_
              refine c_iconst C dX4_walk_64 ?_
              refine c_put (z := 1) (k := 6) C ck_5 dX4_walk_65 w1_236 (by decide) rfl ty3 rfl rfl (by decide) rfl (by decide) (by decide) (fun iv6 pq6 => ?_)
              refine hv2 (Wb1.puti pq6 ty3 ⟨by decide, by decide⟩ rfl) (Fb1.puti Xb1 pq6 ty3 rfl) (fun W9 F7 => ?_)
              have pl5 := Phi.le W9 skb1
              exact c_vret C dX4_walk_68 rfl (by decide) (rom0 hph pl5 (by decide)) ⟨rfl, Xb1, F7, W9, trivial⟩
  refine c_lv (lv2 := [(2, .int (iI 0)), (3, .int (iI 0)), (0, .ref a0), (1, .int (iI x))]) [1, 0, 2, 3] rfl ?_
  exact Lp1 1000003 0 0 _ _ _ _ _ (by omega) hX0 W2 F2  (by omega) (by omega) ⟨hnb0, hcb0⟩ (WKI.init (by rw [pq2, up2_k (ne_ty tnb0 tcb0 (by decide)), pq1]; exact up2_s) (by rw [pq2]; exact up2_s))
set_option maxHeartbeats 4000000 in
set_option maxRecDepth 100000 in
theorem C_collect {l : Launch} {G : GT} {mi : Nat} {sk : Nat → Nat} {L : List Nat} {cl ln : Nat → Nat} {iv : Nat → Nat → Int} {rv : Nat → Nat → Option Nat}  {a0 : Nat} {a1 : Nat} {x : Int} {y : Int} (hW : WT (g0 G) sk L cl ln iv rv) (hS : SKL sk L cl) (t_a0 : ty L cl a0 17) (t_a1 : ty L cl a1 19) (h_x : -2147483648 ≤ x ∧ x ≤ 2147483647) (h_y : -2147483648 ≤ y ∧ y ≤ 2147483647)  : Mc l G mi (Phi (g0 G) sk) PHM yX4_collect cX4_collect 4 none 7 [.ref a0, .ref a1, .int (iI x), .int (iI y)] L cl ln iv rv 0 (fun v L2 cl2 ln2 iv2 rv2 => v = none ∧ XT L cl ln L2 cl2 ln2 ∧ fT [17, 63, 59, 60, 61, 62, 11, 41] L cl iv rv iv2 rv2 ∧ WT (g0 G) sk L2 cl2 ln2 iv2 rv2 ∧ (True)) := by
  refine Mc.mk (by decide) (Nat.le_of_ble_eq_true rfl) ?_
  intro p e s m args below meth c A C hM
  refine hv7 (Phi.le hW hS) (show ty L cl (sk 11) 11 from ⟨(hS 11 rfl).1, by rw [(hS 11 rfl).2]; rfl⟩) (show ty L cl (sk 16) 16 from ⟨(hS 16 rfl).1, by rw [(hS 16 rfl).2]; rfl⟩) (show ty L cl (sk 24) 24 from ⟨(hS 24 rfl).1, by rw [(hS 24 rfl).2]; rfl⟩) (show ty L cl (sk 25) 25 from ⟨(hS 25 rfl).1, by rw [(hS 25 rfl).2]; rfl⟩) (show XT L cl ln L cl ln from XT.refl) (show fT [17, 63, 59, 60, 61, 62, 11, 41] L cl iv rv iv rv from fT.refl) (fun hph tsk11 tsk16 tsk24 tsk25 hX0 hF0 => ?_)
  refine c_aload_n (j := 0) (x := a0) C dX4_collect_0 rfl ?_
  refine c_aload_n (j := 1) (x := a1) C dX4_collect_1 rfl ?_
  have ri1 : 0 ≤ iv a1 1 ∧ iv a1 1 ≤ 200 := hW.int t_a1 1
  refine c_get (k := 1) C ck_3 dX4_collect_2 w4_50 (by decide) t_a1 rfl rfl (by decide) rfl ?_
  refine c_bipush (z := 100) C dX4_collect_5 (by decide) ?_
  obtain ⟨mn1, hmn1, emn1⟩ := mmin_c (x := iv a1 1) (y := 100) (r32_c (lo := 0) (hi := 200) ri1.1 ri1.2 (by decide) (by decide)) ⟨by decide, by decide⟩
  refine c_mmin (w := iI mn1) C dX4_collect_7 w5_127 w2_129 w1_14 w2_130 (by decide) (rom0 hph hph (by decide)) (Nat.le_of_ble_eq_true rfl) emn1 ?_
  refine c_put (z := mn1) (k := 9) C ck_5 dX4_collect_10 w2_0 (by decide) rfl t_a0 rfl rfl (by decide) rfl (by rfl) (by rfl) (fun iv1 pq1 => ?_)
  refine hv2 (hW.puti pq1 t_a0 (show 0 ≤ mn1 ∧ mn1 ≤ 100 by omega) rfl) (hF0.puti hX0 pq1 t_a0 rfl) (fun W1 F1 => ?_)
  refine c_aload_n (j := 1) (x := a1) C dX4_collect_13 rfl ?_
  obtain ⟨rb1, rq1, trb1⟩ := W1.ref t_a1 0 rfl rfl rfl
  have lnrb1 : 200 ≤ ln rb1 ∧ ln rb1 ≤ 200 := W1.len trb1 rfl
  refine c_getr (k := 0) C ck_3 dX4_collect_14 w4_45 (by decide) t_a1 rfl rfl (by decide) rfl rq1 ?_
  refine c_st (st2 := [.ref rb1]) rfl ?_
  refine c_iconst C dX4_collect_17 ?_
  refine c_aload_n (j := 0) (x := a0) C dX4_collect_18 rfl ?_
  obtain ⟨rb2, rq2, trb2⟩ := W1.ref t_a0 8 rfl rfl rfl
  have lnrb2 : 100 ≤ ln rb2 ∧ ln rb2 ≤ 100 := W1.len trb2 rfl
  refine c_getr (k := 8) C ck_5 dX4_collect_19 w1_239 (by decide) t_a0 rfl rfl (by decide) rfl rq2 ?_
  refine c_st (st2 := [.ref rb2, .int (iI 0), .ref rb1]) rfl ?_
  refine c_iconst C dX4_collect_22 ?_
  refine c_aload_n (j := 0) (x := a0) C dX4_collect_23 rfl ?_
  refine hv2 (show 0 ≤ iv1 a0 9 ∧ iv1 a0 9 ≤ 100 from W1.int t_a0 9) (show iv1 a0 9 = mn1 from by rw [pq1]; exact up2_s) (fun ri2 ie1 => ?_)
  refine c_get (k := 9) C ck_5 dX4_collect_24 w2_0 (by decide) t_a0 rfl rfl (by decide) rfl ?_
  refine hv2 (show 200 ≤ ln rb1 ∧ ln rb1 ≤ 200 from W1.len trb1 rfl) (show 100 ≤ ln rb2 ∧ ln rb2 ≤ 100 from W1.len trb2 rfl) (fun ll1 ll2 => ?_)
  refine c_copyi (sp := 0) (dp := 0) (n := iv1 a0 9) C dX4_collect_27 w5_128 w2_133 w2_132 w1_15 trb1 rfl trb2 rfl (by omega) (by omega) (by omega) (by omega) (by omega) (by omega) (by omega) (by decide) (Nat.le_of_ble_eq_true rfl) (fun iv2 pq2 => ?_)
  refine hv2 (W1.copy pq2 trb2 trb1 (fun _ => rfl) (fun _ => rfl) (fun _ => rfl) (fun _ => rfl) rfl) (F1.copy hX0 pq2 trb2 rfl) (fun W2 F2 => ?_)
  refine c_aload_n (j := 0) (x := a0) C dX4_collect_30 rfl ?_
  refine c_iload_n (j := 2) C dX4_collect_31 rfl ?_
  refine c_put (z := x) (k := 10) C ck_5 dX4_collect_32 w2_1 (by decide) rfl t_a0 rfl rfl (by decide) rfl (by rfl) (by rfl) (fun iv3 pq3 => ?_)
  refine hv2 (W2.puti pq3 t_a0 (show (-2147483648) ≤ x ∧ x ≤ 2147483647 by omega) rfl) (F2.puti hX0 pq3 t_a0 rfl) (fun W3 F3 => ?_)
  refine c_aload_n (j := 0) (x := a0) C dX4_collect_35 rfl ?_
  refine c_iconst C dX4_collect_36 ?_
  refine c_put (z := 0) (k := 5) C ck_5 dX4_collect_37 w1_234 (by decide) rfl t_a0 rfl rfl (by decide) rfl (by rfl) (by rfl) (fun iv4 pq4 => ?_)
  refine hv2 (W3.puti pq4 t_a0 ⟨by decide, by decide⟩ rfl) (F3.puti hX0 pq4 t_a0 rfl) (fun W4 F4 => ?_)
  refine c_aload_n (j := 0) (x := a0) C dX4_collect_40 rfl ?_
  refine c_iconst C dX4_collect_41 ?_
  refine c_put (z := 0) (k := 6) C ck_5 dX4_collect_42 w1_236 (by decide) rfl t_a0 rfl rfl (by decide) rfl (by decide) (by decide) (fun iv5 pq5 => ?_)
  refine hv2 (W4.puti pq5 t_a0 ⟨by decide, by decide⟩ rfl) (F4.puti hX0 pq5 t_a0 rfl) (fun W5 F5 => ?_)
  refine c_aload_n (j := 0) (x := a0) C dX4_collect_45 rfl ?_
  obtain ⟨rb3, rq3, trb3⟩ := W5.ref t_a0 4 rfl rfl rfl
  have erb3 := W5.sk trb3 (by decide) rfl
  subst erb3
  refine c_getr (k := 4) C ck_5 dX4_collect_46 w1_233 (by decide) t_a0 rfl rfl (by decide) rfl rq3 ?_
  refine c_st (st2 := [.ref (sk 11)]) rfl ?_
  refine d_callV (As := []) (rest := []) C hM (C_clear_11 (a0 := (sk 11)) W5 hS tsk11  ) dX4_collect_49 kV_X4_76 rfl tsk11 rfl rfl (by decide) ck_2 rfl (Nat.le_of_ble_eq_true rfl) ⟨(Nat.le_of_ble_eq_true rfl), (Nat.le_of_ble_eq_true rfl)⟩ hph hph (show 0 + 0 = 0 from rfl) (by decide) (fun rh1 Lh1 clh1 lnh1 ivh1 rvh1 h1 => ?_)
  obtain ⟨rfl, rfl, rfl, rfl, rfl, fl1, W6, exf1⟩ := h1
  have F6 := F5.call hX0 fl1 rfl
  refine c_st (st2 := []) rfl ?_
  refine hv2 (show 0 ≤ ivh1 (sk 11) 2 ∧ ivh1 (sk 11) 2 ≤ 40000 from W6.int tsk11 2) (show ivh1 (sk 11) 2 = 0 from exf1) (fun ri3 gf1 => ?_)
  refine c_aload_n (j := 0) (x := a0) C dX4_collect_52 rfl ?_
  refine d_callV (As := []) (rest := []) C hM (C_markEnds (a0 := a0) W6 hS t_a0  ) dX4_collect_53 kV_X4_79 rfl t_a0 rfl rfl (by decide) ck_5 rfl (Nat.le_of_ble_eq_true rfl) ⟨(Nat.le_of_ble_eq_true rfl), (Nat.le_of_ble_eq_true rfl)⟩ hph hph (show 0 + 0 = 0 from rfl) (by decide) (fun rh2 Lh2 clh2 lnh2 ivh2 rvh2 h2 => ?_)
  obtain ⟨rfl, rfl, rfl, rfl, rfl, fl2, W7, exf2⟩ := h2
  have F7 := F6.call hX0 fl2 rfl
  refine c_st (st2 := []) rfl ?_
  refine c_aload_n (j := 0) (x := a0) C dX4_collect_56 rfl ?_
  obtain ⟨rb4, rq4, trb4⟩ := W7.ref t_a0 0 rfl rfl rfl
  have lnrb4 : 404 ≤ ln rb4 ∧ ln rb4 ≤ 404 := W7.len trb4 rfl
  refine c_getr (k := 0) C ck_5 dX4_collect_57 w1_229 (by decide) t_a0 rfl rfl (by decide) rfl rq4 ?_
  refine c_st (st2 := [.ref rb4]) rfl ?_
  refine c_iconst C dX4_collect_60 ?_
  have ll3 : 404 ≤ ln rb4 ∧ ln rb4 ≤ 404 := W7.len trb4 rfl
  refine c_zald C dX4_collect_61 trb4 rfl (by omega) (by omega) (by omega) ?_
  have ri4 : 0 ≤ ivh2 rb4 ((0 : Int).toNat) ∧ ivh2 rb4 ((0 : Int).toNat) ≤ 1 := W7.int trb4 ((0 : Int).toNat)
  refine c_if_eq (tgt := 75) C ⟨by omega, by omega⟩ dX4_collect_62 (by decide) (fun c1 => ?_) (fun c1 => ?_)
  · exact c_vret C dX4_collect_75 rfl (by decide) (rom0 hph hph (by decide)) ⟨rfl, hX0, F7, W7, trivial⟩
  · refine c_aload_n (j := 0) (x := a0) C dX4_collect_65 rfl ?_
    refine c_iload_n (j := 3) C dX4_collect_66 rfl ?_
    refine c_bipush (z := 50) C dX4_collect_67 (by decide) ?_
    obtain ⟨mn2, hmn2, emn2⟩ := mmin_c (x := y) (y := 50) ⟨by omega, by omega⟩ ⟨by decide, by decide⟩
    refine c_mmin (w := iI mn2) C dX4_collect_69 w5_127 w2_129 w1_14 w2_130 (by decide) (rom0 hph hph (by decide)) (Nat.le_of_ble_eq_true rfl) emn2 ?_
    refine d_callV (As := [.int (iI mn2)]) (rest := []) C hM (C_walk (a0 := a0) (x := mn2) W7 hS t_a0 (by omega) (by show mn2 ≤ 50; omega)) dX4_collect_72 kV_X4_82 rfl t_a0 rfl rfl (by decide) ck_5 rfl (Nat.le_of_ble_eq_true rfl) ⟨(Nat.le_of_ble_eq_true rfl), (Nat.le_of_ble_eq_true rfl)⟩ hph hph (show 0 + 0 = 0 from rfl) (by decide) (fun rh3 Lh3 clh3 lnh3 ivh3 rvh3 h3 => ?_)
    obtain ⟨rfl, xl3, fl3, W8, exf3⟩ := h3
    refine hv3 (F7.call hX0 fl3 rfl) (hX0.trans xl3) (xl3.skl hS) (fun F8 X1 sk1 => ?_)
    refine c_st (st2 := []) rfl ?_
    have pl1 := Phi.le W8 sk1
    exact c_vret C dX4_collect_75 rfl (by decide) (rom0 hph pl1 (by decide)) ⟨rfl, X1, F8, W8, trivial⟩
end
section
theorem up2_up {a : Nat → Nat → Int} {k i : Nat} {z z2 : Int} : up2 (up2 a k i z) k i z2 = up2 a k i z2 := by
  funext x y
  unfold up2
  by_cases h : x = k
  · by_cases h2 : y = i
    · simp only [h, h2, if_true]
    · simp only [h, h2, if_true, if_false]
  · simp only [h, if_false]
set_option maxHeartbeats 4000000 in
set_option maxRecDepth 100000 in
theorem C_spellNext {l : Launch} {G : GT} {mi : Nat} {sk : Nat → Nat} {L : List Nat} {cl ln : Nat → Nat} {iv : Nat → Nat → Int} {rv : Nat → Nat → Option Nat}  {a0 : Nat} {n : Int} (hW : WT (g0 G) sk L cl ln iv rv) (hS : SKL sk L cl) (t_a0 : ty L cl a0 14) (h_n : -2147483648 ≤ n ∧ n ≤ 2147483647)  : Mc l G mi (Phi (g0 G) sk) PHM yX8_spellNext cX8_spellNext 3 (some .boolean) 3 [.ref a0, .int (iI n)] L cl ln iv rv 0 (fun v L2 cl2 ln2 iv2 rv2 => ∃ f : Int, v = some (.int (iI f)) ∧ L = L2 ∧ cl = cl2 ∧ ln = ln2 ∧ rv = rv2 ∧ fT [14, 58] L cl iv rv iv2 rv2 ∧ WT (g0 G) sk L2 cl2 ln2 iv2 rv2 ∧ (f = 0 ∨ f = 1) ∧ (True)) := by
  refine Mc.mk (by decide) (Nat.le_of_ble_eq_true rfl) ?_
  intro p e s m args below meth c A C hM
  refine hv3 (Phi.le hW hS) (show XT L cl ln L cl ln from XT.refl) (show fT [14, 58] L cl iv rv iv rv from fT.refl) (fun hph hX0 hF0 => ?_)
  refine c_aload_n (j := 0) (x := a0) C dX8_spellNext_0 rfl ?_
  have ri1 : 0 ≤ iv a0 7 ∧ iv a0 7 ≤ 6 := hW.int t_a0 7
  refine c_get (k := 7) C ck_9 dX8_spellNext_1 w1_111 (by decide) t_a0 rfl rfl (by decide) rfl ?_
  refine c_iconst C dX8_spellNext_4 ?_
  refine c_isub C dX8_spellNext_5 ?_
  refine c_istore_n (lv2 := [(2, .int (iI ((iv a0 7) - 1))), (0, .ref a0), (1, .int (iI n))]) C dX8_spellNext_6 (by decide) rfl ?_
  have Lp1 : ∀ (nn : Nat) (k : Int) (ivb1 : Nat → Nat → Int) , k + 2 < (nn : Int) → WT (g0 G) sk L cl ln ivb1 rv → fT [14, 58] L cl iv rv ivb1 rv → (-1 ≤ k ∧ k ≤ 5) → cw p l e 3 ((PHM) + 0 - ((Phi (g0 G) sk) ln rv)) s m args below meth c G A 3 (MQ below (Qu G A (Qp G (Phi (g0 G) sk) ((Phi (g0 G) sk) ln rv) 0 (fun v L2 cl2 ln2 iv2 rv2 => ∃ f : Int, v = some (.int (iI f)) ∧ L = L2 ∧ cl = cl2 ∧ ln = ln2 ∧ rv = rv2 ∧ fT [14, 58] L cl iv rv iv2 rv2 ∧ WT (g0 G) sk L2 cl2 ln2 iv2 rv2 ∧ (f = 0 ∨ f = 1) ∧ (True)))) args s (((PHM) + 0 - ((Phi (g0 G) sk) ln rv)) / 16) ((PHM) + 0 - ((Phi (g0 G) sk) ln rv)) A) (Phi (g0 G) sk) ((Phi (g0 G) sk) ln rv) L cl ln ivb1 rv 0 7 [(2, .int (iI k)), (0, .ref a0), (1, .int (iI n))] [] := by
    intro nn
    induction nn with
    | zero =>
      intro  k ivb1 hm Wb1 Fb1  hk
      exact absurd hm (by omega)
    | succ nn ih1 =>
      intro  k ivb1 hm Wb1 Fb1  hk
      refine c_iload_n (j := 0) C dX8_spellNext_7 rfl ?_
      refine c_if_lt (tgt := 49) C (r32_c (lo := (-1)) (hi := 5) hk.1 hk.2 (by decide) (by decide)) dX8_spellNext_8 (by decide) (fun c1 => ?_) (fun c1 => ?_)
      · refine c_aload_n (j := 1) (x := a0) C dX8_spellNext_49 rfl ?_
        refine c_iload_n (j := 2) C dX8_spellNext_50 rfl ?_
        have ri2 : 0 ≤ ivb1 a0 5 ∧ ivb1 a0 5 ≤ 126 := Wb1.int t_a0 5
        refine d_callV (As := [.int (iI n)]) (rest := []) C hM (C_lengthen (a0 := a0) (n := n) Wb1 hS t_a0 (by omega) ) dX8_spellNext_51 kV_X8_91 rfl t_a0 rfl rfl (by decide) ck_9 rfl (Nat.le_of_ble_eq_true rfl) ⟨(Nat.le_of_ble_eq_true rfl), (Nat.le_of_ble_eq_true rfl)⟩ hph hph (show 0 + 0 = 0 from rfl) (by decide) (fun rh1 Lh1 clh1 lnh1 ivh1 rvh1 h1 => ?_)
        obtain ⟨f1, rfl, rfl, rfl, rfl, rfl, fl1, W1, rgf1, exf1⟩ := h1
        have F1 := Fb1.call hX0 fl1 rfl
        refine c_st (st2 := [.int (iI f1)]) rfl ?_
        refine hv2 (show 0 ≤ ivh1 a0 5 ∧ ivh1 a0 5 ≤ 126 from W1.int t_a0 5) (show ivh1 a0 5 = ivb1 a0 5 from exf1) (fun ri3 gf1 => ?_)
        exact c_zret C dX8_spellNext_54 rfl (by omega) (by decide) (rom0 hph hph (by decide)) ⟨f1, rfl, rfl, rfl, rfl, rfl, F1, W1, (by omega), trivial⟩
      · refine c_aload_n (j := 1) (x := a0) C dX8_spellNext_11 rfl ?_
        obtain ⟨rb1, rq1, trb1⟩ := Wb1.ref t_a0 6 rfl rfl rfl
        have lnrb1 : 6 ≤ ln rb1 ∧ ln rb1 ≤ 6 := Wb1.len trb1 rfl
        refine c_getr (k := 6) C ck_9 dX8_spellNext_12 w1_110 (by decide) t_a0 rfl rfl (by decide) rfl rq1 ?_
        refine c_st (st2 := [.ref rb1]) rfl ?_
        refine c_iload_n (j := 0) C dX8_spellNext_15 rfl ?_
        refine c_dup2 C dX8_spellNext_16 rfl rfl ?_
        have ll1 : 6 ≤ ln rb1 ∧ ln rb1 ≤ 6 := Wb1.len trb1 rfl
        refine c_iald C dX8_spellNext_17 trb1 rfl (by omega) (by omega) (by omega) ?_
        have ri4 : 0 ≤ ivb1 rb1 k.toNat ∧ ivb1 rb1 k.toNat ≤ 125 := Wb1.int trb1 k.toNat
        refine c_iconst C dX8_spellNext_18 ?_
        refine c_iadd C dX8_spellNext_19 ?_
        have ri5 : 0 ≤ ivb1 a0 5 ∧ ivb1 a0 5 ≤ 126 := Wb1.int t_a0 5
        by_cases hsp : (ivb1 rb1 k.toNat) + 1 ≤ 125
        · refine c_iast (x := (ivb1 rb1 k.toNat) + 1) C dX8_spellNext_20 trb1 rfl (by omega) (by omega) (by omega) (fun iv1 pq1 => ?_)
          refine hv2 (Wb1.puti pq1 trb1 (show 0 ≤ ((ivb1 rb1 k.toNat) + 1) ∧ ((ivb1 rb1 k.toNat) + 1) ≤ 125 by omega) rfl) (Fb1.puti hX0 pq1 trb1 rfl) (fun W2 F2 => ?_)
          refine c_aload_n (j := 1) (x := a0) C dX8_spellNext_21 rfl ?_
          refine c_getr (k := 6) C ck_9 dX8_spellNext_22 w1_110 (by decide) t_a0 rfl rfl (by decide) rfl rq1 ?_
          refine c_st (st2 := [.ref rb1]) rfl ?_
          refine c_iload_n (j := 0) C dX8_spellNext_25 rfl ?_
          refine c_iald C dX8_spellNext_26 trb1 rfl (by omega) (by omega) (by omega) ?_
          refine hv2 (show 0 ≤ iv1 rb1 k.toNat ∧ iv1 rb1 k.toNat ≤ 125 from W2.int trb1 k.toNat) (show iv1 rb1 k.toNat = (ivb1 rb1 k.toNat) + 1 from by rw [pq1]; exact up2_s) (fun ri6 ie5 => ?_)
          refine c_aload_n (j := 1) (x := a0) C dX8_spellNext_27 rfl ?_
          refine hv2 (show 0 ≤ iv1 a0 5 ∧ iv1 a0 5 ≤ 126 from W2.int t_a0 5) (show iv1 a0 5 = ivb1 a0 5 from by rw [pq1]; exact up2_k (ne_ty t_a0 trb1 (by decide))) (fun ri7 ie6 => ?_)
          refine c_get (k := 5) C ck_9 dX8_spellNext_28 w1_109 (by decide) t_a0 rfl rfl (by decide) rfl ?_
          refine c_icmp_ge (tgt := 36) C (r32_c (lo := 0) (hi := 125) ri6.1 ri6.2 (by decide) (by decide)) (r32_c (lo := 0) (hi := 126) ri7.1 ri7.2 (by decide) (by decide)) dX8_spellNext_31 (by decide) (fun c2 => ?_) (fun c2 => ?_)
          · refine c_aload_n (j := 1) (x := a0) C dX8_spellNext_36 rfl ?_
            refine c_getr (k := 6) C ck_9 dX8_spellNext_37 w1_110 (by decide) t_a0 rfl rfl (by decide) rfl rq1 ?_
            refine c_st (st2 := [.ref rb1]) rfl ?_
            refine c_iload_n (j := 0) C dX8_spellNext_40 rfl ?_
            refine c_iconst C dX8_spellNext_41 ?_
            refine c_iast (x := 0) C dX8_spellNext_42 trb1 rfl (by omega) (by omega) (by omega) (fun iv2 pq2 => ?_)
            refine hv2 (W2.puti pq2 trb1 (show 0 ≤ 0 ∧ 0 ≤ 125 by omega) rfl) (F2.puti hX0 pq2 trb1 rfl) (fun W3 F3 => ?_)
            refine c_iinc (z := k) (j := 0) (lv2 := [(2, .int (iI (k + (-1)))), (0, .ref a0), (1, .int (iI n))]) C dX8_spellNext_43 rfl (by decide) rfl ?_
            refine c_goto (tgt := 7) C dX8_spellNext_46 (by decide) ?_
            refine c_lv (lv2 := [(2, .int (iI (k + (-1)))), (0, .ref a0), (1, .int (iI n))]) [0, 1, 2] rfl ?_
            exact ih1  (k + (-1)) _ (by omega) W3 F3  (by omega)
          · refine c_iconst C dX8_spellNext_34 ?_
            exact c_zret C dX8_spellNext_35 rfl (Or.inr rfl) (by decide) (rom0 hph hph (by decide)) ⟨1, rfl, rfl, rfl, rfl, rfl, F2, W2, (Or.inr rfl), trivial⟩
        · refine c_iast (x := (ivb1 rb1 k.toNat) + 1) C dX8_spellNext_20 trb1 rfl (by omega) (by omega) (by omega) (fun iv3 pq3 => ?_)
          refine hv2 (show iv3 rb1 k.toNat = (ivb1 rb1 k.toNat) + 1 from by rw [pq3]; exact up2_s) (show iv3 a0 5 = ivb1 a0 5 from by rw [pq3]; exact up2_k (ne_ty t_a0 trb1 (by decide))) (fun sb1 sb2 => ?_)
          refine c_aload_n (j := 1) (x := a0) C dX8_spellNext_21 rfl ?_
          refine c_getr (k := 6) C ck_9 dX8_spellNext_22 w1_110 (by decide) t_a0 rfl rfl (by decide) rfl rq1 ?_
          refine c_st (st2 := [.ref rb1]) rfl ?_
          refine c_iload_n (j := 0) C dX8_spellNext_25 rfl ?_
          refine c_iald C dX8_spellNext_26 trb1 rfl (by omega) (by omega) (by omega) ?_
          refine c_aload_n (j := 1) (x := a0) C dX8_spellNext_27 rfl ?_
          refine c_get (k := 5) C ck_9 dX8_spellNext_28 w1_109 (by decide) t_a0 rfl rfl (by decide) rfl ?_
          refine c_icmp_ge (tgt := 36) C ⟨by omega, by omega⟩ ⟨by omega, by omega⟩ dX8_spellNext_31 (by decide) (fun _ => ?_) (fun z => absurd z (by omega))
          refine c_aload_n (j := 1) (x := a0) C dX8_spellNext_36 rfl ?_
          refine c_getr (k := 6) C ck_9 dX8_spellNext_37 w1_110 (by decide) t_a0 rfl rfl (by decide) rfl rq1 ?_
          refine c_st (st2 := [.ref rb1]) rfl ?_
          refine c_iload_n (j := 0) C dX8_spellNext_40 rfl ?_
          refine c_iconst C dX8_spellNext_41 ?_
          refine c_iast (x := 0) C dX8_spellNext_42 trb1 rfl (by omega) (by omega) (by omega) (fun iv4 pq4 => ?_)
          have sb3 : iv4 = up2 ivb1 rb1 k.toNat 0 := by rw [pq4, pq3]; exact up2_up
          refine hv2 (Wb1.puti sb3 trb1 (show 0 ≤ 0 ∧ 0 ≤ 125 by omega) rfl) (Fb1.puti hX0 sb3 trb1 rfl) (fun W4 F4 => ?_)
          refine c_iinc (z := k) (j := 0) (lv2 := [(2, .int (iI (k + (-1)))), (0, .ref a0), (1, .int (iI n))]) C dX8_spellNext_43 rfl (by decide) rfl ?_
          refine c_goto (tgt := 7) C dX8_spellNext_46 (by decide) ?_
          refine c_lv (lv2 := [(2, .int (iI (k + (-1)))), (0, .ref a0), (1, .int (iI n))]) [0, 1, 2] rfl ?_
          exact ih1  (k + (-1)) _ (by omega) W4 F4  (by omega)
  refine c_lv (lv2 := [(2, .int (iI ((iv a0 7) - 1))), (0, .ref a0), (1, .int (iI n))]) [0, 1, 2] rfl ?_
  exact Lp1 10 ((iv a0 7) - 1) _ (by omega) hW hF0  (by omega)
end
