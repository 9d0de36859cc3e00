set_option maxHeartbeats 4000000 in
set_option maxRecDepth 100000 in
theorem C_undo {l : Launch} {G : GT} {mi : Nat} {sk : Nat → Nat} {L : List Nat} {cl ln : Nat → Nat} {iv : Nat → Nat → Int} {rv : Nat → Nat → Option Nat}  {a0 : Nat} (hW : WT (g0 G) sk L cl ln iv rv) (hS : SKL sk L cl) (t_a0 : ty L cl a0 1) (hmr : MRK sk cl iv rv) : Mc l G mi (Phi (g0 G) sk) PHM yX11_undo cX11_undo 1 (some .int) 5 [.ref a0] L cl ln iv rv 0 (fun v L2 cl2 ln2 iv2 rv2 => ∃ f : Int, v = some (.int (iI f)) ∧ L = L2 ∧ cl = cl2 ∧ ln = ln2 ∧ fT [1, 22, 1000, 23, 1001, 26, 1004, 12, 20, 68, 100] L cl iv rv iv2 rv2 ∧ WT (g0 G) sk L2 cl2 ln2 iv2 rv2 ∧ (-2147483648 ≤ f ∧ f ≤ 2147483647) ∧ (iv2 (sk 23) 2 ≤ iv (sk 23) 2 + 1 ∧ MRK sk cl2 iv2 rv2) ∧ iv2 a0 11 = iv a0 11 ∧ iv2 a0 12 = iv a0 12 ∧ iv2 a0 13 = iv a0 13 ∧ iv2 a0 14 = iv a0 14 ∧ iv2 a0 15 = iv a0 15 ∧ iv2 a0 16 = iv a0 16 ∧ (PUNX f sk iv rv iv2 rv2) ∧ ((f = 0 ∧ KP L cl (fun _ => False) (fun _ => False) (fun _ => False) (fun _ => False) (fun _ _ => False) iv rv iv2 rv2) ∨ (f = 1 ∧ ∃ ch, el rv (sk 23) (iv (sk 23) 2 - 1).toNat = some ch ∧ UKP L cl ch iv rv iv2 rv2)) ∧ rv2 a0 9 = rv a0 9 ∧ rv2 a0 10 = rv a0 10) := by
  refine Mc.mk (by decide) (Nat.le_of_ble_eq_true rfl) ?_
  intro p e s m args below meth c A C hM
  refine hv14 (Phi.le hW hS) (show ty L cl (sk 2) 2 from ⟨(hS 2 rfl).1, by rw [(hS 2 rfl).2]; rfl⟩) (show ty L cl (sk 3) 3 from ⟨(hS 3 rfl).1, by rw [(hS 3 rfl).2]; rfl⟩) (show ty L cl (sk 4) 4 from ⟨(hS 4 rfl).1, by rw [(hS 4 rfl).2]; rfl⟩) (show ty L cl (sk 5) 5 from ⟨(hS 5 rfl).1, by rw [(hS 5 rfl).2]; rfl⟩) (show ty L cl (sk 13) 13 from ⟨(hS 13 rfl).1, by rw [(hS 13 rfl).2]; rfl⟩) (show ty L cl (sk 14) 14 from ⟨(hS 14 rfl).1, by rw [(hS 14 rfl).2]; rfl⟩) (show ty L cl (sk 15) 15 from ⟨(hS 15 rfl).1, by rw [(hS 15 rfl).2]; rfl⟩) (show ty L cl (sk 16) 16 from ⟨(hS 16 rfl).1, by rw [(hS 16 rfl).2]; rfl⟩) (show ty L cl (sk 17) 17 from ⟨(hS 17 rfl).1, by rw [(hS 17 rfl).2]; rfl⟩) (show ty L cl (sk 22) 22 from ⟨(hS 22 rfl).1, by rw [(hS 22 rfl).2]; rfl⟩) (show ty L cl (sk 23) 23 from ⟨(hS 23 rfl).1, by rw [(hS 23 rfl).2]; rfl⟩) (show XT L cl ln L cl ln from XT.refl) (show fT [1, 22, 1000, 23, 1001, 26, 1004, 12, 20, 68, 100] L cl iv rv iv rv from fT.refl) (fun hph tsk2 tsk3 tsk4 tsk5 tsk13 tsk14 tsk15 tsk16 tsk17 tsk22 tsk23 hX0 hF0 => ?_)
  have ri1 : 0 ≤ iv (sk 23) 2 ∧ iv (sk 23) 2 ≤ 512 := hW.int tsk23 2
  refine c_aload_n (j := 0) (x := a0) C dX11_undo_0 rfl ?_
  refine c_aload_n (j := 0) (x := a0) C dX11_undo_1 rfl ?_
  obtain ⟨rb1, rq1, trb1⟩ := hW.ref t_a0 4 rfl rfl rfl
  have erb1 := hW.sk trb1 (by decide) rfl
  subst erb1
  refine c_getr (k := 4) C ck_12 dX11_undo_2 w2_48 (by decide) t_a0 rfl rfl (by decide) rfl rq1 ?_
  refine c_st (st2 := [.ref (sk 13), .ref a0]) rfl ?_
  have ri2 : 0 ≤ iv (sk 22) 2 ∧ iv (sk 22) 2 ≤ 30 := hW.int tsk22 2
  refine d_callV (As := []) (rest := [.ref a0]) C hM (C_takeBack (a0 := (sk 13)) hW hS tsk13  hmr) dX11_undo_5 kV_X11_218 rfl tsk13 rfl rfl (by decide) ck_11 rfl (Nat.le_of_ble_eq_true rfl) ⟨(Nat.le_of_ble_eq_true rfl), (Nat.le_of_ble_eq_true rfl)⟩ hph hph (show 0 + 0 = 0 from rfl) (by decide) (fun rh1 Lh1 clh1 lnh1 ivh1 rvh1 h1 => ?_)
  obtain ⟨f1, rfl, rfl, rfl, rfl, fl1, W1, rgf1, exf1, tbkf1, tkkf1⟩ := h1
  have F1 := hF0.call hX0 fl1 rfl
  refine c_st (st2 := [.int (iI f1), .ref a0]) rfl ?_
  refine hv3 (show 0 ≤ ivh1 (sk 22) 2 ∧ ivh1 (sk 22) 2 ≤ 30 from W1.int tsk22 2) (show 0 ≤ ivh1 (sk 23) 2 ∧ ivh1 (sk 23) 2 ≤ 512 from W1.int tsk23 2) (show ivh1 (sk 22) 2 ≤ iv (sk 22) 2 ∧ ivh1 (sk 23) 2 ≤ iv (sk 23) 2 ∧ MRK sk cl ivh1 rvh1 from exf1) (fun ri3 ri4 gf1 => ?_)
  refine c_if_eq (tgt := 15) C ⟨by omega, by omega⟩ dX11_undo_8 (by decide) (fun c1 => ?_) (fun c1 => ?_)
  · refine c_iconst C dX11_undo_15 ?_
    have pl1 := Phi.le W1 hS
    refine d_callV (As := [.int (iI 0)]) (rest := []) C hM (C_done (a0 := a0) (x := 0) W1 hS t_a0 ⟨by decide, by decide⟩ ) dX11_undo_16 kV_X11_109 rfl t_a0 rfl rfl (by decide) ck_12 rfl (Nat.le_of_ble_eq_true rfl) ⟨(Nat.le_of_ble_eq_true rfl), (Nat.le_of_ble_eq_true rfl)⟩ hph pl1 (show 0 + 0 = 0 from rfl) (by decide) (fun rh2 Lh2 clh2 lnh2 ivh2 rvh2 h2 => ?_)
    obtain ⟨f2, rfl, rfl, rfl, rfl, rfl, fl2, W2, rgf2, exf2, kp11f2, kp12f2, kp13f2, kp14f2, kp15f2, kp16f2⟩ := h2
    refine hv14 (show 1 ≤ ivh1 a0 11 ∧ ivh1 a0 11 ≤ 100 from W1.int t_a0 11) (show ivh1 a0 11 = iv a0 11 from fl1.i t_a0 rfl 11) (show 1 ≤ ivh1 a0 12 ∧ ivh1 a0 12 ≤ 50 from W1.int t_a0 12) (show ivh1 a0 12 = iv a0 12 from fl1.i t_a0 rfl 12) (show (-2147483648) ≤ ivh1 a0 13 ∧ ivh1 a0 13 ≤ 2147483647 from W1.int t_a0 13) (show ivh1 a0 13 = iv a0 13 from fl1.i t_a0 rfl 13) (show (-2147483648) ≤ ivh1 a0 14 ∧ ivh1 a0 14 ≤ 2147483647 from W1.int t_a0 14) (show ivh1 a0 14 = iv a0 14 from fl1.i t_a0 rfl 14) (show (-2147483648) ≤ ivh1 a0 15 ∧ ivh1 a0 15 ≤ 2147483647 from W1.int t_a0 15) (show ivh1 a0 15 = iv a0 15 from fl1.i t_a0 rfl 15) (show (-2147483648) ≤ ivh1 a0 16 ∧ ivh1 a0 16 ≤ 2147483647 from W1.int t_a0 16) (show ivh1 a0 16 = iv a0 16 from fl1.i t_a0 rfl 16) (F1.call hX0 fl2 rfl) (MRK.call exf1.2.2 W1 hS XT.refl fl2 rfl rfl) (fun ri5 ie3 ri6 ie4 ri7 ie5 ri8 ie6 ri9 ie7 ri10 ie8 F2 mr1 => ?_)
    refine c_st (st2 := [.int (iI f2)]) rfl ?_
    refine hv15 (show ivh2 a0 11 = ivh1 a0 11 from kp11f2) (show ivh2 a0 12 = ivh1 a0 12 from kp12f2) (show ivh2 a0 13 = ivh1 a0 13 from kp13f2) (show ivh2 a0 14 = ivh1 a0 14 from kp14f2) (show ivh2 a0 15 = ivh1 a0 15 from kp15f2) (show ivh2 a0 16 = ivh1 a0 16 from kp16f2) (show f2 = (0 : Int) from exf2) (show 1 ≤ ivh2 a0 11 ∧ ivh2 a0 11 ≤ 100 from W2.int t_a0 11) (show 1 ≤ ivh2 a0 12 ∧ ivh2 a0 12 ≤ 50 from W2.int t_a0 12) (show (-2147483648) ≤ ivh2 a0 13 ∧ ivh2 a0 13 ≤ 2147483647 from W2.int t_a0 13) (show (-2147483648) ≤ ivh2 a0 14 ∧ ivh2 a0 14 ≤ 2147483647 from W2.int t_a0 14) (show (-2147483648) ≤ ivh2 a0 15 ∧ ivh2 a0 15 ≤ 2147483647 from W2.int t_a0 15) (show (-2147483648) ≤ ivh2 a0 16 ∧ ivh2 a0 16 ≤ 2147483647 from W2.int t_a0 16) (show 0 ≤ ivh2 (sk 23) 2 ∧ ivh2 (sk 23) 2 ≤ 512 from W2.int tsk23 2) (show ivh2 (sk 23) 2 = ivh1 (sk 23) 2 from fl2.i tsk23 rfl 2) (fun gk11f2 gk12f2 gk13f2 gk14f2 gk15f2 gk16f2 gf2 ri11 ri12 ri13 ri14 ri15 ri16 ri17 ie15 => ?_)
    exact c_iret C dX11_undo_19 rfl (by decide) (rom0 hph pl1 (by decide)) ⟨f2, rfl, rfl, rfl, rfl, F2, W2, ⟨by omega, by omega⟩, ⟨(by omega), mr1⟩, (by omega), (by omega), (by omega), (by omega), (by omega), (by omega), (by
        rcases tbkf1 with ⟨u1, u2, u3⟩ | ⟨u1, u2, ch, u3, u4⟩
        · exact Or.inl ⟨by omega, u2, u3.trans (PSAME.fr W1 hS fl2 rfl rfl rfl rfl rfl rfl rfl)⟩
        · exact Or.inr ⟨by omega, u2, ch, u3, PUND.after hW hS ⟨_, by omega, u3⟩ u4 (PSAME.fr W1 hS fl2 rfl rfl rfl rfl rfl rfl rfl) fl2 rfl rfl⟩), (by
        rcases tbkf1 with ⟨u1, u2, u3⟩ | ⟨u1, u2, -⟩
        · rcases tkkf1 with ⟨v1, v2⟩ | ⟨v1, -⟩
          · exact Or.inl ⟨by omega, v2.call TX.refl W1 fl2 rfl⟩
          · omega
        · rcases tkkf1 with ⟨v1, -⟩ | ⟨v1, ch, v2, v3⟩
          · omega
          · exact Or.inr ⟨by omega, ch, v2, v3.after (el23 hW hS (by omega) v2) hW W1 fl2 rfl⟩), (show rvh1 a0 9 = rv a0 9 from (fl1.r t_a0 rfl 9)), (show rvh1 a0 10 = rv a0 10 from (fl1.r t_a0 rfl 10))⟩
  · refine c_iconst C dX11_undo_11 ?_
    refine c_goto (tgt := 16) C dX11_undo_12 (by decide) ?_
    have pl2 := Phi.le W1 hS
    refine d_callV (As := [.int (iI 1)]) (rest := []) C hM (C_done (a0 := a0) (x := 1) W1 hS t_a0 ⟨by decide, by decide⟩ ) dX11_undo_16 kV_X11_109 rfl t_a0 rfl rfl (by decide) ck_12 rfl (Nat.le_of_ble_eq_true rfl) ⟨(Nat.le_of_ble_eq_true rfl), (Nat.le_of_ble_eq_true rfl)⟩ hph pl2 (show 0 + 0 = 0 from rfl) (by decide) (fun rh3 Lh3 clh3 lnh3 ivh3 rvh3 h3 => ?_)
    obtain ⟨f3, rfl, rfl, rfl, rfl, rfl, fl3, W3, rgf3, exf3, kp11f3, kp12f3, kp13f3, kp14f3, kp15f3, kp16f3⟩ := h3
    refine hv14 (show 1 ≤ ivh1 a0 11 ∧ ivh1 a0 11 ≤ 100 from W1.int t_a0 11) (show ivh1 a0 11 = iv a0 11 from fl1.i t_a0 rfl 11) (show 1 ≤ ivh1 a0 12 ∧ ivh1 a0 12 ≤ 50 from W1.int t_a0 12) (show ivh1 a0 12 = iv a0 12 from fl1.i t_a0 rfl 12) (show (-2147483648) ≤ ivh1 a0 13 ∧ ivh1 a0 13 ≤ 2147483647 from W1.int t_a0 13) (show ivh1 a0 13 = iv a0 13 from fl1.i t_a0 rfl 13) (show (-2147483648) ≤ ivh1 a0 14 ∧ ivh1 a0 14 ≤ 2147483647 from W1.int t_a0 14) (show ivh1 a0 14 = iv a0 14 from fl1.i t_a0 rfl 14) (show (-2147483648) ≤ ivh1 a0 15 ∧ ivh1 a0 15 ≤ 2147483647 from W1.int t_a0 15) (show ivh1 a0 15 = iv a0 15 from fl1.i t_a0 rfl 15) (show (-2147483648) ≤ ivh1 a0 16 ∧ ivh1 a0 16 ≤ 2147483647 from W1.int t_a0 16) (show ivh1 a0 16 = iv a0 16 from fl1.i t_a0 rfl 16) (F1.call hX0 fl3 rfl) (MRK.call exf1.2.2 W1 hS XT.refl fl3 rfl rfl) (fun ri18 ie16 ri19 ie17 ri20 ie18 ri21 ie19 ri22 ie20 ri23 ie21 F3 mr2 => ?_)
    refine c_st (st2 := [.int (iI f3)]) rfl ?_
    refine hv15 (show ivh3 a0 11 = ivh1 a0 11 from kp11f3) (show ivh3 a0 12 = ivh1 a0 12 from kp12f3) (show ivh3 a0 13 = ivh1 a0 13 from kp13f3) (show ivh3 a0 14 = ivh1 a0 14 from kp14f3) (show ivh3 a0 15 = ivh1 a0 15 from kp15f3) (show ivh3 a0 16 = ivh1 a0 16 from kp16f3) (show f3 = (1 : Int) from exf3) (show 1 ≤ ivh3 a0 11 ∧ ivh3 a0 11 ≤ 100 from W3.int t_a0 11) (show 1 ≤ ivh3 a0 12 ∧ ivh3 a0 12 ≤ 50 from W3.int t_a0 12) (show (-2147483648) ≤ ivh3 a0 13 ∧ ivh3 a0 13 ≤ 2147483647 from W3.int t_a0 13) (show (-2147483648) ≤ ivh3 a0 14 ∧ ivh3 a0 14 ≤ 2147483647 from W3.int t_a0 14) (show (-2147483648) ≤ ivh3 a0 15 ∧ ivh3 a0 15 ≤ 2147483647 from W3.int t_a0 15) (show (-2147483648) ≤ ivh3 a0 16 ∧ ivh3 a0 16 ≤ 2147483647 from W3.int t_a0 16) (show 0 ≤ ivh3 (sk 23) 2 ∧ ivh3 (sk 23) 2 ≤ 512 from W3.int tsk23 2) (show ivh3 (sk 23) 2 = ivh1 (sk 23) 2 from fl3.i tsk23 rfl 2) (fun gk11f3 gk12f3 gk13f3 gk14f3 gk15f3 gk16f3 gf3 ri24 ri25 ri26 ri27 ri28 ri29 ri30 ie28 => ?_)
    exact c_iret C dX11_undo_19 rfl (by decide) (rom0 hph pl2 (by decide)) ⟨f3, rfl, rfl, rfl, rfl, F3, W3, ⟨by omega, by omega⟩, ⟨(by omega), mr2⟩, (by omega), (by omega), (by omega), (by omega), (by omega), (by omega), (by
        rcases tbkf1 with ⟨u1, u2, u3⟩ | ⟨u1, u2, ch, u3, u4⟩
        · exact Or.inl ⟨by omega, u2, u3.trans (PSAME.fr W1 hS fl3 rfl rfl rfl rfl rfl rfl rfl)⟩
        · exact Or.inr ⟨by omega, u2, ch, u3, PUND.after hW hS ⟨_, by omega, u3⟩ u4 (PSAME.fr W1 hS fl3 rfl rfl rfl rfl rfl rfl rfl) fl3 rfl rfl⟩), (by
        rcases tbkf1 with ⟨u1, u2, u3⟩ | ⟨u1, u2, -⟩
        · rcases tkkf1 with ⟨v1, v2⟩ | ⟨v1, -⟩
          · exact Or.inl ⟨by omega, v2.call TX.refl W1 fl3 rfl⟩
          · omega
        · rcases tkkf1 with ⟨v1, -⟩ | ⟨v1, ch, v2, v3⟩
          · omega
          · exact Or.inr ⟨by omega, ch, v2, v3.after (el23 hW hS (by omega) v2) hW W1 fl3 rfl⟩), (show rvh1 a0 9 = rv a0 9 from (fl1.r t_a0 rfl 9)), (show rvh1 a0 10 = rv a0 10 from (fl1.r t_a0 rfl 10))⟩
